section ZM0
abbrev z_E : Type := (Nat × Nat × (Nat → Value)) ⊕ (Nat × List Value)
abbrev z_W : Type := List z_E × (Nat → Option z_E)
def z_g (w : z_W) (n : Nat) : Option z_E := cond (Nat.blt n 1000) w.1[n]? (w.2 n)
def z_s (w : z_W) (n : Nat) (e : z_E) : z_W := cond (Nat.blt n 1000) (w.1.set n e, w.2) (w.1, fun m => cond (Nat.beq m n) (some e) (w.2 m))
def z_d (w : z_W) (n : Nat) : Prop := ∃ e, z_g w n = some e
theorem z_beq {m n : Nat} (h : m ≠ n) : Nat.beq m n = false := by
  cases hh : Nat.beq m n with
  | true => exact absurd (Nat.eq_of_beq_eq_true hh) h
  | false => rfl
theorem z_gs_ne {w : z_W} {n m : Nat} {e : z_E} (h : m ≠ n) : z_g (z_s w n e) m = z_g w m := by
  cases hb : Nat.blt n 1000 <;> cases hm : Nat.blt m 1000 <;> simp only [z_g, z_s, hb, hm, cond]
  · rw [z_beq h]
  · exact List.getElem?_set_ne (Ne.symm h)
theorem z_gs_self {w : z_W} {n : Nat} {e e0 : z_E} (h : z_g w n = some e0) : z_g (z_s w n e) n = some e := by
  cases hb : Nat.blt n 1000 <;> simp only [z_g, z_s, hb, cond] at h ⊢
  · rw [Nat.beq_refl]
  · have hl : n < w.1.length := (List.getElem?_eq_some_iff.mp h).1
    rw [List.getElem?_set_self hl]
theorem z_ds {w : z_W} {n : Nat} {e e0 : z_E} (h : z_g w n = some e0) (m : Nat) : z_d (z_s w n e) m ↔ z_d w m := by
  by_cases hm : m = n
  · subst hm
    exact ⟨fun _ => ⟨_, h⟩, fun _ => ⟨_, z_gs_self h⟩⟩
  · unfold z_d
    rw [z_gs_ne hm]
abbrev z_R : Type := (Nat → Nat) × (Nat → Option UInt32)
abbrev z_G : Type := (Nat → ClassId) × (Nat → Nat → Nat) × (Nat → ClassId) × Nat × (Nat → Nat → Prop) × Nat × (Nat → Int32)
abbrev z_dC (G : z_G) : Nat → ClassId := G.1
abbrev z_dI (G : z_G) : Nat → Nat → Nat := G.2.1
abbrev z_dA (G : z_G) : Nat → ClassId := G.2.2.1
abbrev z_b (G : z_G) : Nat := G.2.2.2.1
abbrev z_k (G : z_G) : Nat → Nat → Prop := G.2.2.2.2.1
abbrev z_sn (G : z_G) : Nat := G.2.2.2.2.2.1
abbrev z_sc (G : z_G) : Nat → Int32 := G.2.2.2.2.2.2
def z_cn (j : Nat) : UInt32 := (Int32.ofInt ((j : Int) - 128)).toUInt32
def z_cb (G : z_G) (q : Nat) (b : UInt32) : Prop := ∃ j, j < 256 ∧ z_k G (1000 + j) q ∧ b = z_cn j
def z_V (G : z_G) (R : z_R) (w : z_W) (v c : Value) : Prop := match v with
  | .int x => c = .int x
  | .long x => c = .long x
  | .null => c = .null
  | .ref n => z_d w n ∧ c = .ref (R.1 n)
  | .float b => ∃ q, c = .ref q ∧ (R.2 q = some b ∨ z_cb G q b)
  | .retAddr k => ∃ q, c = .ref q ∧ z_k G k q
  | .double _ => False
theorem z_V_cat {G : z_G} {R : z_R} {w : z_W} {v c : Value} (h : z_V G R w v c) : c.category = v.category := by
  cases v with
  | int x => have h : c = .int x := h; rw [h]
  | long x => have h : c = .long x := h; rw [h]
  | null => have h : c = .null := h; rw [h]
  | ref n => obtain ⟨-, h⟩ := h; rw [h]; rfl
  | float b => obtain ⟨q, h, -⟩ := h; rw [h]; rfl
  | retAddr k => obtain ⟨q, h, -⟩ := h; rw [h]; rfl
  | double b => exact h.elim
def z_L (P : Value → Value → Prop) : List Value → List Value → Prop
  | [], [] => True
  | a :: as, b :: bs => P a b ∧ z_L P as bs
  | _, _ => False
theorem z_Lc {P : Value → Value → Prop} {a : Value} {as l : List Value} (h : z_L P (a :: as) l) : ∃ b bs, l = b :: bs ∧ P a b ∧ z_L P as bs := by
  cases l with
  | nil => exact h.elim
  | cons b bs => exact ⟨b, bs, rfl, h.1, h.2⟩
theorem z_Ln {P : Value → Value → Prop} {l : List Value} (h : z_L P [] l) : l = [] := by
  cases l with
  | nil => rfl
  | cons b bs => exact h.elim
theorem z_Lm {P P' : Value → Value → Prop} (hP : ∀ a b, P a b → P' a b) : ∀ {as bs : List Value}, z_L P as bs → z_L P' as bs
  | [], [], _ => trivial
  | _ :: _, _ :: _, h => ⟨hP _ _ h.1, z_Lm hP h.2⟩
  | [], _ :: _, h => h.elim
  | _ :: _, [], h => h.elim
theorem z_Ll {P : Value → Value → Prop} : ∀ {as bs : List Value}, z_L P as bs → bs.length = as.length
  | [], [], _ => rfl
  | _ :: _, _ :: _, h => congrArg (· + 1) (z_Ll h.2)
  | [], _ :: _, h => h.elim
  | _ :: _, [], h => h.elim
theorem z_Lg {P : Value → Value → Prop} : ∀ {as bs : List Value} {k : Nat} {v : Value}, z_L P as bs → as[k]? = some v → ∃ c, bs[k]? = some c ∧ P v c
  | [], _, _, _, _, hk => by simp at hk
  | _ :: _, [], _, _, h, _ => h.elim
  | a :: as, b :: bs, 0, v, h, hk => ⟨b, rfl, by have e : a = v := Option.some.inj hk; rw [← e]; exact h.1⟩
  | a :: as, b :: bs, k + 1, v, h, hk => z_Lg (as := as) (bs := bs) (k := k) h.2 hk
theorem z_Ls {P : Value → Value → Prop} : ∀ {as bs : List Value} {k : Nat} {v c : Value}, z_L P as bs → P v c → z_L P (as.set k v) (bs.set k c)
  | [], [], _, _, _, _, _ => trivial
  | _ :: _, [], _, _, _, h, _ => h.elim
  | [], _ :: _, _, _, _, h, _ => h.elim
  | a :: as, b :: bs, 0, v, c, h, hv => ⟨hv, h.2⟩
  | a :: as, b :: bs, k + 1, v, c, h, hv => ⟨h.1, z_Ls (as := as) (bs := bs) (k := k) h.2 hv⟩
theorem z_Lapp {P : Value → Value → Prop} : ∀ {as as2 bs : List Value}, z_L P (as ++ as2) bs → ∃ b1 b2, bs = b1 ++ b2 ∧ z_L P as b1 ∧ z_L P as2 b2
  | [], as2, bs, h => ⟨[], bs, rfl, trivial, h⟩
  | a :: as, as2, [], h => h.elim
  | a :: as, as2, b :: bs, h => by
    obtain ⟨b1, b2, e, h1, h2⟩ := z_Lapp (as := as) (as2 := as2) (bs := bs) h.2
    exact ⟨b :: b1, b2, by rw [e]; rfl, ⟨h.1, h1⟩, h2⟩
theorem z_Lcat {P : Value → Value → Prop} : ∀ {as bs cs ds : List Value}, z_L P as bs → z_L P cs ds → z_L P (as ++ cs) (bs ++ ds)
  | [], [], _, _, _, h => h
  | _ :: _, [], _, _, h, _ => h.elim
  | [], _ :: _, _, _, h, _ => h.elim
  | a :: as, b :: bs, cs, ds, h, h2 => ⟨h.1, z_Lcat (as := as) (bs := bs) h.2 h2⟩
theorem z_Lrev {P : Value → Value → Prop} : ∀ {as bs : List Value}, z_L P as bs → z_L P as.reverse bs.reverse
  | [], [], _ => trivial
  | _ :: _, [], h => h.elim
  | [], _ :: _, h => h.elim
  | a :: as, b :: bs, h => by
    rw [List.reverse_cons, List.reverse_cons]
    exact z_Lcat (z_Lrev (as := as) (bs := bs) h.2) ⟨h.1, trivial⟩
def z_cat (l : List Value) : Nat := (l.map fun v => v.category).sum
theorem z_Lcs {G : z_G} {R : z_R} {w : z_W} : ∀ {as bs : List Value}, z_L (z_V G R w) as bs → (bs.map fun v => v.category).sum = z_cat as
  | [], [], _ => rfl
  | _ :: _, [], h => h.elim
  | [], _ :: _, h => h.elim
  | a :: as, b :: bs, h => by
    have e := z_Lcs (as := as) (bs := bs) h.2
    unfold z_cat at e ⊢
    simp only [List.map_cons, List.sum_cons]
    rw [e, z_V_cat h.1]
def z_LL (P : Value → Value → Prop) : List (Nat × Value) → List (Nat × Value) → Prop
  | [], [] => True
  | a :: as, b :: bs => (a.1 = b.1 ∧ P a.2 b.2) ∧ z_LL P as bs
  | _, _ => False
theorem z_LLm {P P' : Value → Value → Prop} (hP : ∀ a b, P a b → P' a b) : ∀ {as bs : List (Nat × Value)}, z_LL P as bs → z_LL P' as bs
  | [], [], _ => trivial
  | _ :: _, _ :: _, h => ⟨⟨h.1.1, hP _ _ h.1.2⟩, z_LLm hP h.2⟩
  | [], _ :: _, h => h.elim
  | _ :: _, [], h => h.elim
def z_find (lo : List (Nat × Value)) (i : Nat) : Option Value := match lo with
  | [] => none
  | q :: t => cond (Nat.beq q.1 i) (some q.2) (z_find t i)
theorem z_LLf {P : Value → Value → Prop} {i : Nat} {v : Value} : ∀ {as bs : List (Nat × Value)}, z_LL P as bs → z_find as i = some v → ∃ c, (i, c) ∈ bs ∧ P v c
  | [], _, _, hf => by simp [z_find] at hf
  | _ :: _, [], h, _ => h.elim
  | a :: as, b :: bs, h, hf => by
    unfold z_find at hf
    cases hb : Nat.beq a.1 i with
    | true =>
      rw [hb] at hf
      have e : a.2 = v := Option.some.inj hf
      have e1 : a.1 = i := Nat.eq_of_beq_eq_true hb
      refine ⟨b.2, ?_, e ▸ h.1.2⟩
      have e2 : b = (i, b.2) := by rw [← e1, h.1.1]
      rw [← e2]
      exact List.mem_cons_self
    | false =>
      rw [hb] at hf
      obtain ⟨c, h1, h2⟩ := z_LLf (as := as) (bs := bs) h.2 hf
      exact ⟨c, List.mem_cons_of_mem _ h1, h2⟩
def z_st (lo : List (Nat × Value)) (i : Nat) (v : Value) : List (Nat × Value) := (i, v) :: lo.filter (fun q => !(q.1 == i) && !(q.1 + 1 == i && q.2.category == 2))
def z_st2 (lo : List (Nat × Value)) (i : Nat) (v : Value) : List (Nat × Value) := (i, v) :: lo.filter (fun q => !(q.1 == i) && (!(q.1 == i + 1) && !(q.1 + 1 == i && q.2.category == 2)))
theorem z_LLfl {P : Value → Value → Prop} (hP : ∀ a b, P a b → b.category = a.category) (g : Nat → Nat → Bool) : ∀ {as bs : List (Nat × Value)}, z_LL P as bs → z_LL P (as.filter (fun q => g q.1 q.2.category)) (bs.filter (fun q => g q.1 q.2.category))
  | [], [], _ => trivial
  | _ :: _, [], h => h.elim
  | [], _ :: _, h => h.elim
  | a :: as, b :: bs, h => by
    have ih := z_LLfl hP g (as := as) (bs := bs) h.2
    have e : g b.1 b.2.category = g a.1 a.2.category := by rw [h.1.1, hP _ _ h.1.2]
    rw [List.filter_cons, List.filter_cons, e]
    cases g a.1 a.2.category with
    | true => exact ⟨h.1, ih⟩
    | false => exact ih
theorem z_LLst {P : Value → Value → Prop} (hP : ∀ a b, P a b → b.category = a.category) {as bs : List (Nat × Value)} {i : Nat} {v c : Value} (h : z_LL P as bs) (hv : P v c) : z_LL P (z_st as i v) (z_st bs i c) :=
  ⟨⟨rfl, hv⟩, z_LLfl hP (fun x y => !(x == i) && !(x + 1 == i && y == 2)) h⟩
theorem z_LLst2 {P : Value → Value → Prop} (hP : ∀ a b, P a b → b.category = a.category) {as bs : List (Nat × Value)} {i : Nat} {v c : Value} (h : z_LL P as bs) (hv : P v c) : z_LL P (z_st2 as i v) (z_st2 bs i c) :=
  ⟨⟨rfl, hv⟩, z_LLfl hP (fun x y => !(x == i) && (!(x == i + 1) && !(x + 1 == i && y == 2))) h⟩
theorem z_LLar {P : Value → Value → Prop} (hP : ∀ a b, P a b → b.category = a.category) : ∀ {as bs : List Value} {i : Nat}, z_L P as bs → z_LL P (lv_args i as) (lv_args i bs)
  | [], [], _, _ => trivial
  | _ :: _, [], _, h => h.elim
  | [], _ :: _, _, h => h.elim
  | a :: as, b :: bs, i, h => by
    unfold lv_args
    rw [hP _ _ h.1]
    exact ⟨⟨rfl, h.1⟩, z_LLar hP (as := as) (bs := bs) h.2⟩
def z_lo (G : z_G) (R : z_R) (w : z_W) (lo : List (Nat × Value)) (ls : Array Slot) (nL : Nat) : Prop := ∃ clo, lv_has ls nL clo ∧ z_LL (z_V G R w) lo clo
theorem z_lof {G : z_G} {R : z_R} {w : z_W} {lo : List (Nat × Value)} {ls : Array Slot} {nL i : Nat} {v : Value} (h : z_lo G R w lo ls nL) (hf : z_find lo i = some v) : ∃ c, ls[i]? = some (.val c) ∧ z_V G R w v c := by
  obtain ⟨clo, h1, h2⟩ := h
  obtain ⟨c, h3, h4⟩ := z_LLf h2 hf
  exact ⟨c, h1.2.2 _ h3, h4⟩
theorem z_lom {G : z_G} {R R' : z_R} {w w' : z_W} {lo : List (Nat × Value)} {ls : Array Slot} {nL : Nat} (hP : ∀ a b, z_V G R w a b → z_V G R' w' a b) (h : z_lo G R w lo ls nL) : z_lo G R' w' lo ls nL := by
  obtain ⟨clo, h1, h2⟩ := h
  exact ⟨clo, h1, z_LLm hP h2⟩
abbrev z_cls : List vw_C := vwCl
def z_tyl : List FieldType := [.int, .boolean, .byte, .object "java/lang/Object", .object "Loopdefaults$Row", .object "Loopdefaults$Table", .object "Loopdefaults$Hearer", .object "LoopdefaultsModel$Hearer", .array .int]
def z_X (G : z_G) (R : z_R) (w : z_W) (e : z_E) (a : Nat) (H : Heap) : Prop := match e with
  | .inl x => ∃ z : Nat → Value, H[a]? = some (arrV (z_dA G x.1) x.2.1 z) ∧ ∀ j, j < x.2.1 → z_V G R w (x.2.2 j) (z j)
  | .inr o => ∃ (q : vw_C) (gs : List Value), z_cls[o.1]? = some q ∧ o.2.length = q.2.2 ∧ t_OB a (z_dC G o.1) q.2.2 (z_dI G o.1) H (vp_V gs) ∧ z_L (z_V G R w) o.2 gs
theorem z_X.kept {G : z_G} {R R' : z_R} {w w' : z_W} {e : z_E} {a : Nat} {H H' : Heap} (h : z_X G R w e a H) (hV : ∀ v c, z_V G R w v c → z_V G R' w' v c) (hH : H'[a]? = H[a]?) : z_X G R' w' e a H' := by
  cases e with
  | inl x =>
    obtain ⟨z, h1, h2⟩ := h
    exact ⟨z, hH.trans h1, fun j hj => hV _ _ (h2 j hj)⟩
  | inr o =>
    obtain ⟨q, gs, h1, h2, h3, h4⟩ := h
    exact ⟨q, gs, h1, h2, h3.kept hH, z_Lm hV h4⟩
theorem z_X.lt {G : z_G} {R : z_R} {w : z_W} {e : z_E} {a : Nat} {H : Heap} (h : z_X G R w e a H) : a < H.size := by
  cases e with
  | inl x => obtain ⟨z, h1, -⟩ := h; exact (Array.getElem?_eq_some_iff.mp h1).1
  | inr o => obtain ⟨q, gs, -, -, ⟨cell, h1, -⟩, -⟩ := h; exact (Array.getElem?_eq_some_iff.mp h1).1
def z_P (G : z_G) (R : z_R) (w : z_W) (H : Heap) : Prop :=
  (∀ (n : Nat) (e : z_E), z_g w n = some e → z_X G R w e (R.1 n) H ∧ z_b G ≤ R.1 n) ∧ (∀ n m : Nat, z_d w n → z_d w m → R.1 n = R.1 m → n = m) ∧
  (∀ (q : Nat) (b : UInt32), R.2 q = some b → t_OB q (z_dC G 2) 1 (z_dI G 2) H (fun _ => .int b.toInt32) ∧ ∀ n : Nat, z_d w n → R.1 n ≠ q)
def z_T (R0 : z_R) (w0 : z_W) (sz : Nat) (R : z_R) (w : z_W) : Prop :=
  (∀ n : Nat, z_d w0 n → z_d w n ∧ R.1 n = R0.1 n) ∧ (∀ (q : Nat) (b : UInt32), R0.2 q = some b → R.2 q = some b) ∧
  (∀ n : Nat, z_d w n → ¬ z_d w0 n → sz ≤ R.1 n) ∧ (∀ (q : Nat) (b : UInt32), R.2 q = some b → R0.2 q = none → sz ≤ q)
theorem z_T.rf {R : z_R} {w : z_W} {sz : Nat} : z_T R w sz R w := ⟨fun _ h => ⟨h, rfl⟩, fun _ _ h => h, fun _ h h2 => absurd h h2, fun _ _ h h2 => by rw [h] at h2; cases h2⟩
theorem z_T.V {G : z_G} {R0 R : z_R} {w0 w : z_W} {sz : Nat} (h : z_T R0 w0 sz R w) (v c : Value) (hv : z_V G R0 w0 v c) : z_V G R w v c := by
  cases v with
  | int x => exact hv
  | long x => exact hv
  | null => exact hv
  | ref n => exact ⟨(h.1 n hv.1).1, by rw [(h.1 n hv.1).2]; exact hv.2⟩
  | float b => obtain ⟨q, h1, h2⟩ := hv; exact ⟨q, h1, h2.imp (h.2.1 q b) id⟩
  | retAddr k => exact hv
  | double b => exact hv
theorem z_T.tr {R0 R1 R2 : z_R} {w0 w1 w2 : z_W} {s1 s2 : Nat} (h : z_T R0 w0 s1 R1 w1) (h2 : z_T R1 w1 s2 R2 w2) (hs : s1 ≤ s2) : z_T R0 w0 s1 R2 w2 := by
  refine ⟨fun n hn => ⟨(h2.1 n (h.1 n hn).1).1, ((h2.1 n (h.1 n hn).1).2).trans (h.1 n hn).2⟩, fun q b hq => h2.2.1 q b (h.2.1 q b hq), fun n hn hno => ?_, fun q b hq hno => ?_⟩
  · by_cases h1 : z_d w1 n
    · rw [(h2.1 n h1).2]
      exact h.2.2.1 n h1 hno
    · exact Nat.le_trans hs (h2.2.2.1 n hn h1)
  · cases h1 : R1.2 q with
    | none => exact Nat.le_trans hs (h2.2.2.2 q b hq h1)
    | some b1 => exact h.2.2.2 q b1 h1 hno
def z_A (R0 : z_R) (w0 : z_W) (sz : Nat) : Nat → Prop := fun q => (∃ n, z_d w0 n ∧ R0.1 n = q) ∨ sz ≤ q
theorem z_T.A {R0 R : z_R} {w0 w : z_W} {sz n : Nat} (h : z_T R0 w0 sz R w) (hn : z_d w n) : z_A R0 w0 sz (R.1 n) := by
  by_cases h0 : z_d w0 n
  · exact Or.inl ⟨n, h0, ((h.1 n h0).2).symm⟩
  · exact Or.inr (h.2.2.1 n hn h0)
theorem z_A.b {G : z_G} {R0 : z_R} {w0 : z_W} {H : Heap} (hP : z_P G R0 w0 H) (hb : z_b G ≤ H.size) {q : Nat} (h : z_A R0 w0 H.size q) : z_b G ≤ q := by
  rcases h with ⟨n, ⟨e, he⟩, rfl⟩ | h
  · exact (hP.1 n e he).2
  · exact Nat.le_trans hb h
def z_fr (G : z_G) (A : Nat → Prop) (H0 H : Heap) (locs : List Loc) : Prop := H0.size ≤ H.size ∧ (∀ q : Nat, q < H0.size → ¬ A q → H[q]? = H0[q]?) ∧ ∀ x ∈ locs, z_b G ≤ x.base
end ZM0
section ZM1
def z_isN : Cond → Bool
  | .fieldLinkNest .. => true
  | .methodLinkNest .. => true
  | .castable .. => true
  | .declares _ => true
  | .privateMethod _ => true
  | .arrayOver (.object _) => true
  | .arrayOver (.array _) => true
  | _ => false
def z_tbl : List Cond := lw_tbl.filter goodWord
def z_nst : List Cond := lw_tbl.filter z_isN
theorem z_nstm {w : Cond} (hw : z_isN w = true) {s U : State} (hW : s.WarmedH U.vm) (h : va_Nw w s) : va_Nw w U := by
  unfold z_isN at hw
  split at hw
  · exact va_Nw.warmF hW h
  · exact va_Nw.warmM hW h
  · exact va_Nw.warmC hW h
  · exact va_Nw.warmD hW h
  · exact va_Nw.of (A := #[]) rfl (Cond.privateMethod_warm hW (va_Nw.use (A := #[]) rfl h))
  · exact va_AO.moved hW.alike h
  · exact over_moved hW.alike h
  · cases hw
theorem z_w {w : Cond} (i : Nat) (h : lw_tbl[i]? = some w) (hg : goodWord w = true) : w ∈ z_tbl := List.mem_filter.mpr ⟨List.mem_of_getElem? h, hg⟩
theorem z_wn {w : Cond} (i : Nat) (h : lw_tbl[i]? = some w) (hg : z_isN w = true) : w ∈ z_nst := List.mem_filter.mpr ⟨List.mem_of_getElem? h, hg⟩
abbrev z_zq (G : z_G) (f d : String) (U : State) (H : Heap) : Prop := vx_Zq Bundle.tN f d (fun q => z_b G ≤ q) U H
def z_zst : List (String × String × String × Value) := [("java/lang/String", "COMPACT_STRINGS", "Z", .int 1), ("java/lang/Integer$IntegerCache", "high", "I", .int 127), ("java/util/ArrayList", "DEFAULTCAPACITY_EMPTY_ELEMENTDATA", "[Ljava/lang/Object;", .retAddr 0), ("java/util/ArrayList", "EMPTY_ELEMENTDATA", "[Ljava/lang/Object;", .retAddr 1), ("java/lang/Integer$IntegerCache", "cache", "[Ljava/lang/Integer;", .retAddr 2), ("java/lang/Integer", "DigitOnes", "[B", .retAddr 3), ("java/lang/Integer", "DigitTens", "[B", .retAddr 4)]
def z_cv (G : z_G) (v c : Value) : Prop := match v with
  | .retAddr k => ∃ q, c = .ref q ∧ z_k G k q
  | v => c = v
abbrev z_vT (G : z_G) (ty : FieldType) (q N : Nat) (f : Nat → Value) (U : State) : Prop := va_T ty q N f (fun q => z_b G ≤ q) U U.heap
def z_Fg (U : State) : Prop := va_Nw (.interfaceMethod "java/util/Collection" "java/lang/Object" "getClass" "()Ljava/lang/Class;") U ∧ va_Nw (.declares ⟨"java/lang/Object", "getClass", "()Ljava/lang/Class;"⟩) U ∧ va_Nw (.publicMethod ⟨"java/lang/Object", "getClass", "()Ljava/lang/Class;"⟩) U ∧ va_Nw (.unhidden "java/util/ArrayList" "getClass" "()Ljava/lang/Class;") U ∧ va_Nw (.castable "java/util/ArrayList" "java/util/Collection") U
theorem z_Fg.moved {u U : State} (hvm : u.vm.Alike U.vm) (h : z_Fg u) : z_Fg U := by
  obtain ⟨h1, h2, h3, h4, h5⟩ := h
  have tr : ∀ {c : Cond}, c.onTables = true → c.before #[] (u.setVm U.vm) = true → c.before #[] U = true := by
    intro c hc h
    have e := Cond.onTables_vm (A := #[]) (A' := #[]) (U := u) (U' := U) U.vm c hc
    have hU : U.setVm U.vm = U := rfl
    rw [hU] at e
    rw [← e]
    exact h
  have e1 : (Cond.interfaceMethod "java/util/Collection" "java/lang/Object" "getClass" "()Ljava/lang/Class;").before #[] (u.setVm U.vm) = (Cond.interfaceMethod "java/util/Collection" "java/lang/Object" "getClass" "()Ljava/lang/Class;").before #[] u := by
    simp only [Cond.before, Cond.holds, Cond.value, State.vm_setVm, hvm.findClass, State.methodFound?_setVm hvm, State.methodNamed?_setVm hvm, arm_isInterface_setVm hvm]
  exact ⟨tr rfl (e1.trans h1), tr rfl ((Cond.declares_setVm hvm _).trans h2), tr rfl ((Cond.publicMethod_setVm hvm _).trans h3), tr rfl ((Cond.unhidden_setVm hvm _ _ _).trans h4), tr rfl ((Cond.castable_setVm hvm _ _).trans h5)⟩
def z_Fi (U : State) : Prop := va_Fw "java/util/ArrayList" ⟨"java/util/Collection", "toArray", "()[Ljava/lang/Object;"⟩ ⟨"java/util/ArrayList", "toArray", "()[Ljava/lang/Object;"⟩ U ∧ va_Fw "java/util/ArrayList$Itr" ⟨"java/util/Iterator", "hasNext", "()Z"⟩ ⟨"java/util/ArrayList$Itr", "hasNext", "()Z"⟩ U ∧ va_Fw "java/util/ArrayList$Itr" ⟨"java/util/Iterator", "next", "()Ljava/lang/Object;"⟩ ⟨"java/util/ArrayList$Itr", "next", "()Ljava/lang/Object;"⟩ U ∧ z_Fg U
theorem z_Fi.moved {u U : State} (hvm : u.vm.Alike U.vm) (h : z_Fi u) : z_Fi U := ⟨h.1.moved (by decide) hvm, h.2.1.moved (by decide) hvm, h.2.2.1.moved (by decide) hvm, h.2.2.2.moved hvm⟩
def z_OB (o : Nat) (cC : ClassId) (N : Nat) (iS : Nat → Nat) (H : Heap) (V : Nat → Value) : Prop := ∃ cell : Cell, H[o]? = some cell ∧ cell.cls = cC ∧ (cell.vm.isStatics = false ∧ cell.vm ≠ .unknown) ∧ ∀ k, k < N → cell.slots[iS k]? = some (V k)
theorem z_OB.of {o : Nat} {cC : ClassId} {N : Nat} {iS : Nat → Nat} {H : Heap} {V : Nat → Value} (h : t_OB o cC N iS H V) : z_OB o cC N iS H V := by
  obtain ⟨cell, h1, h2, h3, h4⟩ := h
  exact ⟨cell, h1, h2, ⟨by rw [h3]; rfl, by rw [h3]; exact fun z => by cases z⟩, h4⟩
def z_dgc (k j : Nat) : Int32 := if k = 3 then Int32.ofNat (48 + j % 10) else Int32.ofNat (48 + j / 10)
def z_tbc (t : String) : Int32 := if t = " " then 32 else if t = "=" then 61 else 0
def z_cst (G : z_G) (U : State) : Prop :=
  (∀ k q q' : Nat, z_k G k q → z_k G k q' → q = q') ∧ (∀ k q : Nat, k < 6 ∨ 8 ≤ k → z_k G k q → ¬ z_b G ≤ q) ∧
  (∀ x ∈ z_zst, ∃ v, z_cv G x.2.2.2 v ∧ va_Z x.1 x.2.1 x.2.2.1 v (fun q => z_b G ≤ q) U U.heap) ∧
  (∀ k q : Nat, k < 2 → z_k G k q → ∃ f, z_vT G (.object "java/lang/Object") q 0 f U) ∧
  (∀ q : Nat, z_k G 2 q → ∃ f, z_vT G (.object "java/lang/Integer") q 256 f U ∧ ∀ j, j < 256 → ∃ r, f j = .ref r ∧ z_k G (1000 + j) r) ∧
  (∀ k q : Nat, (k = 3 ∨ k = 4) → z_k G k q → ∃ f, z_vT G .byte q 100 f U ∧ ∀ j, j < 100 → f j = .int (z_dgc k j)) ∧
  (∀ j q : Nat, j < 256 → z_k G (1000 + j) q → z_OB q (z_dC G 2) 1 (z_dI G 2) U.heap (fun _ => .int (z_cn j).toInt32)) ∧
  (∃ q : Nat, z_k G 6 q ∧ va_Mi "[Ljava/lang/Object;" q U) ∧
  (∀ (i : Nat) (t : String × Nat × String), z_strs[i]? = some t → t.1 = "LoopdefaultsModel" ∨ t.1 = "LoopdefaultsModel$Hearer" → ∃ a bq : Nat, z_k G (10 + i) a ∧ z_k G (50 + i) bq ∧ vk_R t.1 t.2.1 t.2.2 a U ∧
    z_OB a (z_dC G 0) 2 (z_dI G 0) U.heap (vp_V [.ref bq, .int 0])) ∧
  (∀ (i q : Nat) (t : String × Nat × String), z_strs[i]? = some t → z_k G (50 + i) q → ∃ f, z_vT G .byte q t.2.2.length f U ∧ ∀ j, j < t.2.2.length → f j = .int (z_tbc t.2.2) ∧ fits .byte (.int (z_tbc t.2.2)) = true) ∧
  (∀ k q : Nat, k < 2 → z_k G k q → va_O "[Ljava/lang/Object;" q (fun q => z_b G ≤ q) U U.heap) ∧ (∃ q : Nat, z_k G 7 q ∧ va_Mi "java/util/ArrayList" q U) ∧ z_Fi U
theorem z_OBm {G : z_G} {u U : State} {q N : Nat} {cC : ClassId} {iS : Nat → Nat} {V : Nat → Value} (hh : ∀ q : Nat, q < u.heap.size → ¬ z_b G ≤ q → U.heap[q]? = u.heap[q]?) (hq : ¬ z_b G ≤ q) (h : z_OB q cC N iS u.heap V) : z_OB q cC N iS U.heap V := by
  obtain ⟨cell, h1, h2⟩ := h
  exact ⟨cell, by rw [hh q (Array.getElem?_eq_some_iff.mp h1).1 hq]; exact h1, h2⟩
theorem z_cstm {G : z_G} {u U : State} (h : z_cst G u) (hW : u.WarmedH U.vm) (hh : ∀ q : Nat, q < u.heap.size → ¬ z_b G ≤ q → U.heap[q]? = u.heap[q]?) : z_cst G U := by
  obtain ⟨h1, h2, h3, h4, h5, h6, h7, h8, h9, h10, h11, h12, h13⟩ := h
  have hT : ∀ {ty : FieldType} {q N : Nat} {f : Nat → Value}, z_vT G ty q N f u → z_vT G ty q N f U := fun h => va_T.moved hW.alike (h.kept hh)
  refine ⟨h1, h2, fun x hx => ?_, fun k q hk hq => ?_, fun q hq => ?_, fun k q hk hq => ?_, fun j q hj hq => z_OBm hh (h2 _ _ (Or.inr (by omega)) hq) (h7 j q hj hq), ?_, fun i t hi ht => ?_, fun i q t hi hq => ?_, fun k q hk hq => ?_, ?_, h13.moved hW.alike⟩
  · obtain ⟨v, hv, hz⟩ := h3 x hx
    exact ⟨v, hv, va_Z.moved hW.alike (hz.kept hh)⟩
  · obtain ⟨f, hf⟩ := h4 k q hk hq
    exact ⟨f, hT hf⟩
  · obtain ⟨f, hf, hr⟩ := h5 q hq
    exact ⟨f, hT hf, hr⟩
  · obtain ⟨f, hf, hr⟩ := h6 k q hk hq
    exact ⟨f, hT hf, hr⟩
  · obtain ⟨q, hq, hm⟩ := h8
    exact ⟨q, hq, hm.moved hW.alike⟩
  · obtain ⟨a, bq, ha, hbq, hR, hO⟩ := h9 i t hi ht
    exact ⟨a, bq, ha, hbq, vk_R.warm hW hR, z_OBm hh (h2 _ _ (Or.inr (by omega)) ha) hO⟩
  · obtain ⟨f, hf, hr⟩ := h10 i q t hi hq
    exact ⟨f, hT hf, hr⟩
  · obtain ⟨cell, o1, o2, o3, o4⟩ := h11 k q hk hq
    exact va_O.moved hW.alike ⟨cell, by rw [hh q (Array.getElem?_eq_some_iff.mp o1).1 o4]; exact o1, o2, o3, o4⟩
  · obtain ⟨q, hq, hm⟩ := h12
    exact ⟨q, hq, hm.moved hW.alike⟩
def z_scr (G : z_G) (U : State) : Prop := ∀ q : Nat, z_k G 8 q → ∃ f, z_vT G .int q (z_sn G) f U ∧ ∀ j, j < z_sn G → f j = .int (z_sc G j)
def z_env (G : z_G) (U : State) : Prop :=
  (∀ (c : Nat) (q : vw_C), z_cls[c]? = some q → u_Kn U q.1 q.2.1 q.2.2 (z_dC G c) (z_dI G c)) ∧ (∀ (k : Nat) (ty : FieldType), z_tyl[k]? = some ty → ArrOfT U (z_dA G k) ty ∧ va_RA U (z_dA G k) ty) ∧
  (∀ w ∈ z_nst, va_Nw w U) ∧ (∀ x ∈ z_strs, ∃ a : Nat, vk_R x.1 x.2.1 x.2.2 a U) ∧ ((∀ x ∈ z_ncs, va_Nc x.1 x.2 U) ∧ z_scr G U) ∧ z_zq G "UNASSIGNED_STACK" Bundle.steD U U.heap ∧ z_zq G "SUPPRESSED_SENTINEL" Bundle.listD U U.heap ∧ z_cst G U
theorem z_envm {G : z_G} {u U : State} (h : z_env G u) (hW : u.WarmedH U.vm) (hh : ∀ q : Nat, q < u.heap.size → ¬ z_b G ≤ q → U.heap[q]? = u.heap[q]?) : z_env G U := by
  obtain ⟨h1, h2, h3, h4, h5, h6, h7, h8⟩ := h
  refine ⟨fun c q hq => u_Kn_moved hW.alike (h1 c q hq), fun k ty hk => ⟨arrOfT_moved hW.alike (h2 k ty hk).1, (h2 k ty hk).2.moved hW.alike⟩, fun w hw => z_nstm (List.mem_filter.mp hw).2 hW (h3 w hw), fun x hx => ?_, ⟨fun x hx => va_Nc.moved hW.alike (h5.1 x hx), fun q hq => by obtain ⟨f, hf, hr⟩ := h5.2 q hq; exact ⟨f, va_T.moved hW.alike (hf.kept hh), hr⟩⟩, vx_Zq.moved hW.alike (h6.kept hh), vx_Zq.moved hW.alike (h7.kept hh), z_cstm h8 hW hh⟩
  obtain ⟨a, ha⟩ := h4 x hx
  exact ⟨a, vk_R.warm hW ha⟩
abbrev z_M : Type := MethodName × ByteArray × Nat × Option FieldType × List (Nat × Nat × Nat × Nat)
def z_code (y : z_M) : Cond := match y.2.2.2.2 with
  | [] => Cond.code y.1 y.2.1 y.2.2.1 y.2.2.2.1
  | hh => Cond.codeWith y.1 y.2.1 y.2.2.1 y.2.2.2.1 hh
def z_ws (y : z_M) : List Cond := z_code y :: z_tbl
def z_rm (rk mc ms : Nat) : Room := { frames := rk, cells := mc, slots := ms, locals := 40 * rk }
def z_O (P : Value → Value → Prop) : Option Value → Option Value → Prop
  | none, none => True
  | some a, some b => P a b
  | _, _ => False
abbrev z_S : Type := Nat × Nat × Nat × z_W × (Option Value → z_W → Prop) × (String → z_W → Prop)
def z_Pc (G : z_G) (R0 : z_R) (w0 : z_W) (av : List Value) : Array Value → State → Prop := fun a U =>
  (∃ cav : List Value, a = cav.toArray ∧ z_L (z_V G R0 w0) av cav) ∧ z_env G U ∧ z_P G R0 w0 U.heap ∧ z_b G ≤ U.heap.size
def z_Qc (G : z_G) (R0 : z_R) (w0 : z_W) (Q : Option Value → z_W → Prop) : Array Value → State → Outcome → State → Prop := fun _ st o t =>
  ∃ (v cv : Option Value) (R : z_R) (w : z_W), o = .returned cv ∧ z_O (z_V G R w) v cv ∧ Q v w ∧ z_P G R w t.heap ∧ z_T R0 w0 st.heap.size R w ∧ va_F (z_A R0 w0 st.heap.size) st t
def z_Xc (G : z_G) (R0 : z_R) (w0 : z_W) (X : String → z_W → Prop) : String → State → State → Prop := fun E st t =>
  ∃ (R : z_R) (w : z_W), X E w ∧ z_P G R w t.heap ∧ z_T R0 w0 st.heap.size R w ∧ va_F (z_A R0 w0 st.heap.size) st t
def z_Con (G : z_G) (l : Launch) (y : z_M) (rk mc ms : Nat) (w0 : z_W) (av : List Value) (Q : Option Value → z_W → Prop) (X : String → z_W → Prop) : Prop :=
  ∀ R0 : z_R, vx_Met l y.1 (z_ws y) (z_rm rk mc ms) (z_Pc G R0 w0 av) (z_Qc G R0 w0 Q) (z_Xc G R0 w0 X) mc ms (fun q => z_b G ≤ q)
def z_ok (G : z_G) (l : Launch) (y : z_M) (S : z_S) (p : Program) (s : State) (m : MethodId) (args : Array Value) (meth : Method) (c : Code) (R0 : z_R) : Prop :=
  p.tables.exec = Jvm.exec ∧ c.code = y.2.1 ∧ c.maxLocals = y.2.2.1 ∧ meth.sig.returnType = y.2.2.2.1 ∧ meth.locks = false ∧ s.vm.findClass y.1.cls = some m.cls ∧ (∀ w ∈ z_tbl, w.before args s = true) ∧ z_env G s ∧
  z_P G R0 S.2.2.2.1 s.heap ∧ z_b G ≤ s.heap.size ∧ c.exceptionTable.toList = tableOf y.2.2.2.2 ∧ meth.name = y.1.name ∧ l.stackTraces = false
def z_at (G : z_G) (S : z_S) (R0 : z_R) (s : State) (R : z_R) (w : z_W) (H : Heap) (locs : List Loc) : Prop :=
  z_P G R w H ∧ z_T R0 S.2.2.2.1 s.heap.size R w ∧ z_fr G (z_A R0 S.2.2.2.1 s.heap.size) s.heap H locs
def z_J (G : z_G) (l : Launch) (y : z_M) (S : z_S) (pc : Nat) (lo : List (Nat × Value)) (st : List Value) (w : z_W) (kc ks : Nat) : Prop :=
  ∀ (p : Program) (e : Env) (s : State) (m : MethodId) (args : Array Value) (below : List Frame) (meth : Method) (c : Code) (R0 : z_R), z_ok G l y S p s m args meth c R0 →
    ∀ (R : z_R) (H : Heap) (locs : List Loc) (ls : Array Slot) (cst : List Value), z_at G S R0 s R w H locs → z_lo G R w lo ls c.maxLocals → z_L (z_V G R w) st cst →
      W p l e (z_rm S.1 S.2.1 S.2.2.1) s m args below meth c H locs kc ks (vx_MQ below (z_Qc G R0 S.2.2.2.1 S.2.2.2.2.1) (z_Xc G R0 S.2.2.2.1 S.2.2.2.2.2) args s S.2.1 S.2.2.1 (fun q => z_b G ≤ q)) (F0 m pc ls cst)
theorem z_Pc_blind {G : z_G} {R0 : z_R} {w0 : z_W} {av : List Value} : FrameBlind (z_Pc G R0 w0 av) := by
  intro a U g mk h
  obtain ⟨h1, h2, h3, h4⟩ := h
  exact ⟨h1, z_envm (U := U.calling g mk a) h2 (State.WarmedH.refl U) (fun _ _ _ => rfl), h3, h4⟩
section ZB
variable {G : z_G} {l : Launch} {y : z_M} {rk mc ms : Nat} {w0 : z_W} {av : List Value} {Q : Option Value → z_W → Prop} {X : String → z_W → Prop}
theorem z_start {G : z_G} {l : Launch} {y : z_M} {S : z_S} {p : Program} {s : State} {m : MethodId} {args : Array Value} {meth : Method} {c : Code} {R0 : z_R} (h : z_ok G l y S p s m args meth c R0) : z_at G S R0 s R0 S.2.2.2.1 s.heap [] :=
  ⟨h.2.2.2.2.2.2.2.2.1, z_T.rf, Nat.le_refl _, fun _ _ _ => rfl, fun _ hx => by cases hx⟩
theorem z_lgl {R : z_R} : ∀ {as bs : List Value}, z_L (z_V G R w0) as bs → (lg_sl bs).length = (lg_sl as).length
  | [], [], _ => rfl
  | _ :: _, [], h => h.elim
  | [], _ :: _, h => h.elim
  | a :: as, b :: bs, h => by
    have e := z_lgl (as := as) (bs := bs) h.2
    unfold lg_sl at e ⊢
    rw [List.flatMap_cons, List.flatMap_cons, List.length_append, List.length_append, e, z_V_cat h.1]
    by_cases hc : a.category = 2
    · rw [if_pos hc, if_pos hc]; rfl
    · rw [if_neg hc, if_neg hc]; rfl
theorem z_body (hl : l.stackTraces = false) (hy : plainName y.1.cls = true) (hh : y.2.2.2.2 = []) (hn : (lg_sl av).length ≤ y.2.2.1) (h : z_J G l y (rk, mc, ms, w0, Q, X) 0 (lv_args 0 av) [] w0 0 0) : z_Con G l y rk mc ms w0 av Q X := by
  obtain ⟨yn, yb, yl, yr, yt⟩ := y
  have hh : yt = [] := hh
  subst hh
  intro R0
  refine vx_ofW (cc := yb) (maxL := yl) (ret := yr) (ws' := z_tbl) hy rfl ?_
  intro p e s m args below meth c s₁ B hml ht hv
  obtain ⟨⟨cav, rfl, hav⟩, henv, hP, hb⟩ := hv
  have hts : ∀ w ∈ z_tbl, w.before cav.toArray s = true := fun w hw => atoms_spec (ws := z_ws (yn, yb, yl, yr, [])) B.pre w (List.mem_cons_of_mem _ hw)
  have htab : c.exceptionTable.toList = tableOf [] := by
    cases hc : c.exceptionTable.toList with
    | nil => rfl
    | cons x t => exact (ht x (by rw [hc]; exact List.mem_cons_self)).elim
  have hok : z_ok G l (yn, yb, yl, yr, []) (rk, mc, ms, w0, Q, X) p s m cav.toArray meth c R0 :=
    ⟨B.exec, B.bytes, hml, B.returns, B.notSynchronized, findClass_of_methodNamed B.named, hts, henv, hP, hb, htab, (name_of_methodNamed B.named B.method).1, hl⟩
  rw [lg_entry_eq]
  refine h p e s m cav.toArray below meth c R0 hok R0 s.heap [] _ [] (z_start hok) ⟨lv_args 0 cav, ?_, z_LLar (fun _ _ => z_V_cat) hav⟩ trivial
  rw [hml]
  exact lv_entry cav (by rw [z_lgl hav]; exact hn)
theorem z_bodyW (hl : l.stackTraces = false) (hy : plainName y.1.cls = true) (hh : y.2.2.2.2 ≠ []) (hn : (lg_sl av).length ≤ y.2.2.1) (h : z_J G l y (rk, mc, ms, w0, Q, X) 0 (lv_args 0 av) [] w0 0 0) : z_Con G l y rk mc ms w0 av Q X := by
  obtain ⟨yn, yb, yl, yr, yt⟩ := y
  cases yt with
  | nil => exact absurd rfl hh
  | cons t0 t1 =>
  intro R0
  refine vx_ofWH (cc := yb) (maxL := yl) (ret := yr) (ws' := z_tbl) (hh := t0 :: t1) hy rfl ?_
  intro p e s m args below meth c s₁ B hml hv
  obtain ⟨⟨cav, rfl, hav⟩, henv, hP, hb⟩ := hv
  have hts : ∀ w ∈ z_tbl, w.before cav.toArray s = true := fun w hw => atoms_spec (ws := z_ws (yn, yb, yl, yr, t0 :: t1)) B.pre w (List.mem_cons_of_mem _ hw)
  have htab : c.exceptionTable.toList = tableOf (t0 :: t1) := vx_table (x := yn) B (atoms_spec (ws := z_ws (yn, yb, yl, yr, t0 :: t1)) B.pre _ List.mem_cons_self)
  have hok : z_ok G l (yn, yb, yl, yr, t0 :: t1) (rk, mc, ms, w0, Q, X) p s m cav.toArray meth c R0 :=
    ⟨B.exec, B.bytes, hml, B.returns, B.notSynchronized, findClass_of_methodNamed B.named, hts, henv, hP, hb, htab, (name_of_methodNamed B.named B.method).1, hl⟩
  rw [lg_entry_eq]
  refine h p e s m cav.toArray below meth c R0 hok R0 s.heap [] _ [] (z_start hok) ⟨lv_args 0 cav, ?_, z_LLar (fun _ _ => z_V_cat) hav⟩ trivial
  rw [hml]
  exact lv_entry cav (by rw [z_lgl hav]; exact hn)
end ZB
end ZM1
section ZM2
section ZR
variable {G : z_G} {l : Launch} {y : z_M} {S : z_S} {pc : Nat} {lo : List (Nat × Value)} {st : List Value} {w : z_W} {kc ks : Nat}
theorem j_iconst {x : Int} {v : Int32} (hd : decode y.2.1 pc = .ok (.iconst x, 1)) (hv : Int32.ofInt x = v) (h : z_J G l y S (pc + 1) lo (.int v :: st) w kc ks) : z_J G l y S pc lo st w kc ks := by
  intro p e s m args below meth c R0 hok R H locs ls cst hat hlo hst
  exact lv_iconst hok.1 hok.2.1 hd hv (h p e s m args below meth c R0 hok R H locs ls _ hat hlo ⟨rfl, hst⟩)
theorem j_bipush {x : Int} {v : Int32} (hd : decode y.2.1 pc = .ok (.bipush x, 2)) (hv : (Int8.ofInt x).toInt32 = v) (h : z_J G l y S (pc + 2) lo (.int v :: st) w kc ks) : z_J G l y S pc lo st w kc ks := by
  intro p e s m args below meth c R0 hok R H locs ls cst hat hlo hst
  exact lv_bipush hok.1 hok.2.1 hd hv (h p e s m args below meth c R0 hok R H locs ls _ hat hlo ⟨rfl, hst⟩)
theorem j_sipush {x : Int} {v : Int32} (hd : decode y.2.1 pc = .ok (.sipush x, 3)) (hv : (Int16.ofInt x).toInt32 = v) (h : z_J G l y S (pc + 3) lo (.int v :: st) w kc ks) : z_J G l y S pc lo st w kc ks := by
  intro p e s m args below meth c R0 hok R H locs ls cst hat hlo hst
  exact lv_sipush hok.1 hok.2.1 hd hv (h p e s m args below meth c R0 hok R H locs ls _ hat hlo ⟨rfl, hst⟩)
theorem j_lconst {x : Fin 2} {v : Int64} (hd : decode y.2.1 pc = .ok (.lconst x, 1)) (hv : Int64.ofNat (x : Nat) = v) (h : z_J G l y S (pc + 1) lo (.long v :: st) w kc ks) : z_J G l y S pc lo st w kc ks := by
  intro p e s m args below meth c R0 hok R H locs ls cst hat hlo hst
  exact lv_lconst hok.1 hok.2.1 hd hv (h p e s m args below meth c R0 hok R H locs ls _ hat hlo ⟨rfl, hst⟩)
theorem j_null (hd : decode y.2.1 pc = .ok (.aconst_null, 1)) (h : z_J G l y S (pc + 1) lo (.null :: st) w kc ks) : z_J G l y S pc lo st w kc ks := by
  intro p e s m args below meth c R0 hok R H locs ls cst hat hlo hst
  exact lv_null hok.1 hok.2.1 hd (h p e s m args below meth c R0 hok R H locs ls _ hat hlo ⟨rfl, hst⟩)
theorem j_iload {i : Nat} {x : Int32} (hd : decode y.2.1 pc = .ok (.iload i, 2)) (hf : z_find lo i = some (.int x)) (h : z_J G l y S (pc + 2) lo (.int x :: st) w kc ks) : z_J G l y S pc lo st w kc ks := by
  intro p e s m args below meth c R0 hok R H locs ls cst hat hlo hst
  obtain ⟨v, h1, h2⟩ := z_lof hlo hf
  have h2 : v = .int x := h2
  subst h2
  exact lv_iload hok.1 hok.2.1 hd h1 (h p e s m args below meth c R0 hok R H locs ls _ hat hlo ⟨rfl, hst⟩)
theorem j_iload_n {k : Fin 4} {x : Int32} (hd : decode y.2.1 pc = .ok (.iload_n k, 1)) (hf : z_find lo (k : Nat) = some (.int x)) (h : z_J G l y S (pc + 1) lo (.int x :: st) w kc ks) : z_J G l y S pc lo st w kc ks := by
  intro p e s m args below meth c R0 hok R H locs ls cst hat hlo hst
  obtain ⟨v, h1, h2⟩ := z_lof hlo hf
  have h2 : v = .int x := h2
  subst h2
  exact lv_iload_n hok.1 hok.2.1 hd rfl h1 (h p e s m args below meth c R0 hok R H locs ls _ hat hlo ⟨rfl, hst⟩)
theorem j_lload_n {k : Fin 4} {x : Int64} (hd : decode y.2.1 pc = .ok (.lload_n k, 1)) (hf : z_find lo (k : Nat) = some (.long x)) (h : z_J G l y S (pc + 1) lo (.long x :: st) w kc ks) : z_J G l y S pc lo st w kc ks := by
  intro p e s m args below meth c R0 hok R H locs ls cst hat hlo hst
  obtain ⟨v, h1, h2⟩ := z_lof hlo hf
  have h2 : v = .long x := h2
  subst h2
  exact lv_lload_n hok.1 hok.2.1 hd rfl h1 (h p e s m args below meth c R0 hok R H locs ls _ hat hlo ⟨rfl, hst⟩)
def z_ir (v : Value) : Bool := match v with
  | .ref _ => true
  | .null => true
  | .float _ => true
  | .retAddr _ => true
  | _ => false
theorem z_V_ir {G : z_G} {R : z_R} {w : z_W} {v c : Value} (hr : z_ir v = true) (h : z_V G R w v c) : c = .null ∨ ∃ q, c = .ref q := by
  cases v with
  | int x => cases hr
  | long x => cases hr
  | null => exact Or.inl h
  | ref n => exact Or.inr ⟨_, h.2⟩
  | float b => obtain ⟨q, h1, -⟩ := h; exact Or.inr ⟨q, h1⟩
  | retAddr k => obtain ⟨q, h1, -⟩ := h; exact Or.inr ⟨q, h1⟩
  | double b => exact h.elim
theorem j_aload {i : Nat} {v : Value} (hd : decode y.2.1 pc = .ok (.aload i, 2)) (hf : z_find lo i = some v) (hr : z_ir v = true) (h : z_J G l y S (pc + 2) lo (v :: st) w kc ks) : z_J G l y S pc lo st w kc ks := by
  intro p e s m args below meth c R0 hok R H locs ls cst hat hlo hst
  obtain ⟨cv, h1, h2⟩ := z_lof hlo hf
  have h3 := h p e s m args below meth c R0 hok R H locs ls (cv :: cst) hat hlo ⟨h2, hst⟩
  rcases z_V_ir hr h2 with e1 | ⟨q, e1⟩
  · subst e1
    exact lv_aloadN hok.1 hok.2.1 hd h1 h3
  · subst e1
    exact lv_aload hok.1 hok.2.1 hd h1 h3
theorem j_aload_n {k : Fin 4} {v : Value} (hd : decode y.2.1 pc = .ok (.aload_n k, 1)) (hf : z_find lo (k : Nat) = some v) (hr : z_ir v = true) (h : z_J G l y S (pc + 1) lo (v :: st) w kc ks) : z_J G l y S pc lo st w kc ks := by
  intro p e s m args below meth c R0 hok R H locs ls cst hat hlo hst
  obtain ⟨cv, h1, h2⟩ := z_lof hlo hf
  have h3 := h p e s m args below meth c R0 hok R H locs ls (cv :: cst) hat hlo ⟨h2, hst⟩
  rcases z_V_ir hr h2 with e1 | ⟨q, e1⟩
  · subst e1
    exact lv_aload_nN hok.1 hok.2.1 hd rfl h1 h3
  · subst e1
    exact lv_aload_n hok.1 hok.2.1 hd rfl h1 h3
theorem j_istore {i : Nat} {x : Int32} {lo' : List (Nat × Value)} (hd : decode y.2.1 pc = .ok (.istore i, 2)) (hn : i < y.2.2.1) (hl : z_st lo i (.int x) = lo') (h : z_J G l y S (pc + 2) lo' st w kc ks) : z_J G l y S pc lo (.int x :: st) w kc ks := by
  intro p e s m args below meth c R0 hok R H locs ls cst hat hlo hst
  obtain ⟨c1, cs1, rfl, h1, hst1⟩ := z_Lc hst
  have h1 : c1 = .int x := h1
  subst h1
  obtain ⟨clo, h2, h3⟩ := hlo
  refine lv_istore hok.1 hok.2.1 hd h2 (by rw [hok.2.2.1]; exact hn) rfl (fun ls' hls => ?_)
  exact h p e s m args below meth c R0 hok R H locs ls' _ hat ⟨_, hls, by rw [← hl]; exact z_LLst (fun _ _ => z_V_cat) h3 rfl⟩ hst1
theorem j_istore_n {k : Fin 4} {x : Int32} {lo' : List (Nat × Value)} (hd : decode y.2.1 pc = .ok (.istore_n k, 1)) (hn : (k : Nat) < y.2.2.1) (hl : z_st lo (k : Nat) (.int x) = lo') (h : z_J G l y S (pc + 1) lo' st w kc ks) : z_J G l y S pc lo (.int x :: st) w kc ks := by
  intro p e s m args below meth c R0 hok R H locs ls cst hat hlo hst
  obtain ⟨c1, cs1, rfl, h1, hst1⟩ := z_Lc hst
  have h1 : c1 = .int x := h1
  subst h1
  obtain ⟨clo, h2, h3⟩ := hlo
  refine lv_istore_n hok.1 hok.2.1 hd rfl h2 (by rw [hok.2.2.1]; exact hn) rfl (fun ls' hls => ?_)
  exact h p e s m args below meth c R0 hok R H locs ls' _ hat ⟨_, hls, by rw [← hl]; exact z_LLst (fun _ _ => z_V_cat) h3 rfl⟩ hst1
theorem j_astore {i : Nat} {v : Value} {lo' : List (Nat × Value)} (hd : decode y.2.1 pc = .ok (.astore i, 2)) (hr : z_ir v = true) (hn : i < y.2.2.1) (hl : z_st lo i v = lo') (h : z_J G l y S (pc + 2) lo' st w kc ks) : z_J G l y S pc lo (v :: st) w kc ks := by
  intro p e s m args below meth c R0 hok R H locs ls cst hat hlo hst
  obtain ⟨c1, cs1, rfl, h1, hst1⟩ := z_Lc hst
  obtain ⟨clo, h2, h3⟩ := hlo
  have h4 : ∀ ls' : Array Slot, lv_has ls' c.maxLocals (z_st clo i c1) → W p l e (z_rm S.1 S.2.1 S.2.2.1) s m args below meth c H locs kc ks (vx_MQ below (z_Qc G R0 S.2.2.2.1 S.2.2.2.2.1) (z_Xc G R0 S.2.2.2.1 S.2.2.2.2.2) args s S.2.1 S.2.2.1 (fun q => z_b G ≤ q)) (F0 m (pc + 2) ls' cs1) := fun ls' hls => h p e s m args below meth c R0 hok R H locs ls' _ hat ⟨_, hls, by rw [← hl]; exact z_LLst (fun _ _ => z_V_cat) h3 h1⟩ hst1
  rcases z_V_ir hr h1 with e1 | ⟨q, e1⟩
  · subst e1
    exact lv_astoreN hok.1 hok.2.1 hd h2 (by rw [hok.2.2.1]; exact hn) rfl h4
  · subst e1
    exact lv_astore hok.1 hok.2.1 hd h2 (by rw [hok.2.2.1]; exact hn) rfl h4
theorem j_lstore_n {k : Fin 4} {x : Int64} {lo' : List (Nat × Value)} (hd : decode y.2.1 pc = .ok (.lstore_n k, 1)) (hn : (k : Nat) + 1 < y.2.2.1) (hl : z_st2 lo (k : Nat) (.long x) = lo') (h : z_J G l y S (pc + 1) lo' st w kc ks) : z_J G l y S pc lo (.long x :: st) w kc ks := by
  intro p e s m args below meth c R0 hok R H locs ls cst hat hlo hst
  obtain ⟨c1, cs1, rfl, h1, hst1⟩ := z_Lc hst
  have h1 : c1 = .long x := h1
  subst h1
  obtain ⟨clo, h2, h3⟩ := hlo
  refine lv_lstore_n hok.1 hok.2.1 hd rfl h2 (by rw [hok.2.2.1]; exact hn) rfl (fun ls' hls => ?_)
  exact h p e s m args below meth c R0 hok R H locs ls' _ hat ⟨_, hls, by rw [← hl]; exact z_LLst2 (fun _ _ => z_V_cat) h3 rfl⟩ hst1
theorem j_astore_n {k : Fin 4} {v : Value} {lo' : List (Nat × Value)} (hd : decode y.2.1 pc = .ok (.astore_n k, 1)) (hr : z_ir v = true) (hn : (k : Nat) < y.2.2.1) (hl : z_st lo (k : Nat) v = lo') (h : z_J G l y S (pc + 1) lo' st w kc ks) : z_J G l y S pc lo (v :: st) w kc ks := by
  intro p e s m args below meth c R0 hok R H locs ls cst hat hlo hst
  obtain ⟨c1, cs1, rfl, h1, hst1⟩ := z_Lc hst
  obtain ⟨clo, h2, h3⟩ := hlo
  have h4 : ∀ ls' : Array Slot, lv_has ls' c.maxLocals (z_st clo (k : Nat) c1) → W p l e (z_rm S.1 S.2.1 S.2.2.1) s m args below meth c H locs kc ks (vx_MQ below (z_Qc G R0 S.2.2.2.1 S.2.2.2.2.1) (z_Xc G R0 S.2.2.2.1 S.2.2.2.2.2) args s S.2.1 S.2.2.1 (fun q => z_b G ≤ q)) (F0 m (pc + 1) ls' cs1) := fun ls' hls => h p e s m args below meth c R0 hok R H locs ls' _ hat ⟨_, hls, by rw [← hl]; exact z_LLst (fun _ _ => z_V_cat) h3 h1⟩ hst1
  rcases z_V_ir hr h1 with e1 | ⟨q, e1⟩
  · subst e1
    exact lv_astore_nN hok.1 hok.2.1 hd rfl h2 (by rw [hok.2.2.1]; exact hn) rfl h4
  · subst e1
    exact lv_astore_n hok.1 hok.2.1 hd rfl h2 (by rw [hok.2.2.1]; exact hn) rfl h4
theorem j_iinc {i : Nat} {d : Int} {x v : Int32} {lo' : List (Nat × Value)} (hd : decode y.2.1 pc = .ok (.iinc i d, 3)) (hf : z_find lo i = some (.int x)) (hv : x + Int32.ofInt d = v) (hn : i < y.2.2.1) (hl : z_st lo i (.int v) = lo') (h : z_J G l y S (pc + 3) lo' st w kc ks) : z_J G l y S pc lo st w kc ks := by
  intro p e s m args below meth c R0 hok R H locs ls cst hat hlo hst
  obtain ⟨clo, h2, h3⟩ := hlo
  obtain ⟨cv, h4, h5⟩ := z_LLf h3 hf
  have h5 : cv = .int x := h5
  subst h5
  obtain ⟨k, hk⟩ := List.getElem?_of_mem h4
  refine lv_iinc hok.1 hok.2.1 hd h2 hk hv (by rw [hok.2.2.1]; exact hn) rfl (fun ls' hls => ?_)
  exact h p e s m args below meth c R0 hok R H locs ls' _ hat ⟨_, hls, by rw [← hl]; exact z_LLst (fun _ _ => z_V_cat) h3 rfl⟩ hst
theorem j_iadd {a b : Int32} (hd : decode y.2.1 pc = .ok (.iadd, 1)) (h : z_J G l y S (pc + 1) lo (.int (a + b) :: st) w kc ks) : z_J G l y S pc lo (.int b :: .int a :: st) w kc ks := by
  intro p e s m args below meth c R0 hok R H locs ls cst hat hlo hst
  obtain ⟨c1, cs1, rfl, h1, hst1⟩ := z_Lc hst
  obtain ⟨c2, cs2, rfl, h2, hst2⟩ := z_Lc hst1
  have h1 : c1 = .int b := h1
  have h2 : c2 = .int a := h2
  subst h1 h2
  exact lv_iadd hok.1 hok.2.1 hd (h p e s m args below meth c R0 hok R H locs ls _ hat hlo ⟨rfl, hst2⟩)
theorem j_isub {a b : Int32} (hd : decode y.2.1 pc = .ok (.isub, 1)) (h : z_J G l y S (pc + 1) lo (.int (a - b) :: st) w kc ks) : z_J G l y S pc lo (.int b :: .int a :: st) w kc ks := by
  intro p e s m args below meth c R0 hok R H locs ls cst hat hlo hst
  obtain ⟨c1, cs1, rfl, h1, hst1⟩ := z_Lc hst
  obtain ⟨c2, cs2, rfl, h2, hst2⟩ := z_Lc hst1
  have h1 : c1 = .int b := h1
  have h2 : c2 = .int a := h2
  subst h1 h2
  exact lv_isub hok.1 hok.2.1 hd (h p e s m args below meth c R0 hok R H locs ls _ hat hlo ⟨rfl, hst2⟩)
theorem j_imul {a b : Int32} (hd : decode y.2.1 pc = .ok (.imul, 1)) (h : z_J G l y S (pc + 1) lo (.int (a * b) :: st) w kc ks) : z_J G l y S pc lo (.int b :: .int a :: st) w kc ks := by
  intro p e s m args below meth c R0 hok R H locs ls cst hat hlo hst
  obtain ⟨c1, cs1, rfl, h1, hst1⟩ := z_Lc hst
  obtain ⟨c2, cs2, rfl, h2, hst2⟩ := z_Lc hst1
  have h1 : c1 = .int b := h1
  have h2 : c2 = .int a := h2
  subst h1 h2
  exact lv_imul hok.1 hok.2.1 hd (h p e s m args below meth c R0 hok R H locs ls _ hat hlo ⟨rfl, hst2⟩)
theorem j_iand {a b : Int32} (hd : decode y.2.1 pc = .ok (.iand, 1)) (h : z_J G l y S (pc + 1) lo (.int (a &&& b) :: st) w kc ks) : z_J G l y S pc lo (.int b :: .int a :: st) w kc ks := by
  intro p e s m args below meth c R0 hok R H locs ls cst hat hlo hst
  obtain ⟨c1, cs1, rfl, h1, hst1⟩ := z_Lc hst
  obtain ⟨c2, cs2, rfl, h2, hst2⟩ := z_Lc hst1
  have h1 : c1 = .int b := h1
  have h2 : c2 = .int a := h2
  subst h1 h2
  exact lv_iand hok.1 hok.2.1 hd (h p e s m args below meth c R0 hok R H locs ls _ hat hlo ⟨rfl, hst2⟩)
theorem j_ladd {a b : Int64} (hd : decode y.2.1 pc = .ok (.ladd, 1)) (h : z_J G l y S (pc + 1) lo (.long (a + b) :: st) w kc ks) : z_J G l y S pc lo (.long b :: .long a :: st) w kc ks := by
  intro p e s m args below meth c R0 hok R H locs ls cst hat hlo hst
  obtain ⟨c1, cs1, rfl, h1, hst1⟩ := z_Lc hst
  obtain ⟨c2, cs2, rfl, h2, hst2⟩ := z_Lc hst1
  have h1 : c1 = .long b := h1
  have h2 : c2 = .long a := h2
  subst h1 h2
  exact lv_ladd hok.1 hok.2.1 hd (h p e s m args below meth c R0 hok R H locs ls _ hat hlo ⟨rfl, hst2⟩)
theorem j_lmul {a b : Int64} (hd : decode y.2.1 pc = .ok (.lmul, 1)) (h : z_J G l y S (pc + 1) lo (.long (a * b) :: st) w kc ks) : z_J G l y S pc lo (.long b :: .long a :: st) w kc ks := by
  intro p e s m args below meth c R0 hok R H locs ls cst hat hlo hst
  obtain ⟨c1, cs1, rfl, h1, hst1⟩ := z_Lc hst
  obtain ⟨c2, cs2, rfl, h2, hst2⟩ := z_Lc hst1
  have h1 : c1 = .long b := h1
  have h2 : c2 = .long a := h2
  subst h1 h2
  exact lv_lmul hok.1 hok.2.1 hd (h p e s m args below meth c R0 hok R H locs ls _ hat hlo ⟨rfl, hst2⟩)
theorem j_i2l {a : Int32} (hd : decode y.2.1 pc = .ok (.i2l, 1)) (h : z_J G l y S (pc + 1) lo (.long (a.toInt64) :: st) w kc ks) : z_J G l y S pc lo (.int a :: st) w kc ks := by
  intro p e s m args below meth c R0 hok R H locs ls cst hat hlo hst
  obtain ⟨c1, cs1, rfl, h1, hst1⟩ := z_Lc hst
  have h1 : c1 = .int a := h1
  subst h1
  exact lv_i2l hok.1 hok.2.1 hd rfl (h p e s m args below meth c R0 hok R H locs ls (.long a.toInt64 :: cs1) hat hlo ⟨rfl, hst1⟩)
theorem j_i2b {a : Int32} (hd : decode y.2.1 pc = .ok (.i2b, 1)) (h : z_J G l y S (pc + 1) lo (.int (a.toInt8.toInt32) :: st) w kc ks) : z_J G l y S pc lo (.int a :: st) w kc ks := by
  intro p e s m args below meth c R0 hok R H locs ls cst hat hlo hst
  obtain ⟨c1, cs1, rfl, h1, hst1⟩ := z_Lc hst
  have h1 : c1 = .int a := h1
  subst h1
  exact lv_i2b hok.1 hok.2.1 hd rfl (h p e s m args below meth c R0 hok R H locs ls (.int a.toInt8.toInt32 :: cs1) hat hlo ⟨rfl, hst1⟩)
theorem j_ineg {a : Int32} (hd : decode y.2.1 pc = .ok (.ineg, 1)) (h : z_J G l y S (pc + 1) lo (.int (-a) :: st) w kc ks) : z_J G l y S pc lo (.int a :: st) w kc ks := by
  intro p e s m args below meth c R0 hok R H locs ls cst hat hlo hst
  obtain ⟨c1, cs1, rfl, h1, hst1⟩ := z_Lc hst
  have h1 : c1 = .int a := h1
  subst h1
  exact lv_ineg hok.1 hok.2.1 hd (h p e s m args below meth c R0 hok R H locs ls _ hat hlo ⟨rfl, hst1⟩)
theorem j_dup {a : Value} (hd : decode y.2.1 pc = .ok (.dup, 1)) (hc : a.category = 1) (h : z_J G l y S (pc + 1) lo (a :: a :: st) w kc ks) : z_J G l y S pc lo (a :: st) w kc ks := by
  intro p e s m args below meth c R0 hok R H locs ls cst hat hlo hst
  obtain ⟨c1, cs1, rfl, h1, hst1⟩ := z_Lc hst
  exact lv_dup hok.1 hok.2.1 hd ((z_V_cat h1).trans hc) (h p e s m args below meth c R0 hok R H locs ls _ hat hlo ⟨h1, h1, hst1⟩)
theorem j_pop {a : Value} (hd : decode y.2.1 pc = .ok (.pop, 1)) (hc : a.category = 1) (h : z_J G l y S (pc + 1) lo st w kc ks) : z_J G l y S pc lo (a :: st) w kc ks := by
  intro p e s m args below meth c R0 hok R H locs ls cst hat hlo hst
  obtain ⟨c1, cs1, rfl, h1, hst1⟩ := z_Lc hst
  exact lv_pop hok.1 hok.2.1 hd ((z_V_cat h1).trans hc) (h p e s m args below meth c R0 hok R H locs ls _ hat hlo hst1)
theorem j_dup_x1 {a b : Value} (hd : decode y.2.1 pc = .ok (.dup_x1, 1)) (hc : a.category = 1) (hc2 : b.category = 1) (h : z_J G l y S (pc + 1) lo (a :: b :: a :: st) w kc ks) : z_J G l y S pc lo (a :: b :: st) w kc ks := by
  intro p e s m args below meth c R0 hok R H locs ls cst hat hlo hst
  obtain ⟨c1, cs1, rfl, h1, hst1⟩ := z_Lc hst
  obtain ⟨c2, cs2, rfl, h2, hst2⟩ := z_Lc hst1
  exact lv_dup_x1 hok.1 hok.2.1 hd ((z_V_cat h1).trans hc) ((z_V_cat h2).trans hc2) (h p e s m args below meth c R0 hok R H locs ls _ hat hlo ⟨h1, h2, h1, hst2⟩)
theorem j_dup2 {a b : Value} (hd : decode y.2.1 pc = .ok (.dup2, 1)) (hc : a.category = 1) (hc2 : b.category = 1) (h : z_J G l y S (pc + 1) lo (a :: b :: a :: b :: st) w kc ks) : z_J G l y S pc lo (a :: b :: st) w kc ks := by
  intro p e s m args below meth c R0 hok R H locs ls cst hat hlo hst
  obtain ⟨c1, cs1, rfl, h1, hst1⟩ := z_Lc hst
  obtain ⟨c2, cs2, rfl, h2, hst2⟩ := z_Lc hst1
  exact lv_dup2_11 hok.1 hok.2.1 hd ((z_V_cat h1).trans hc) ((z_V_cat h2).trans hc2) (h p e s m args below meth c R0 hok R H locs ls _ hat hlo ⟨h1, h2, h1, h2, hst2⟩)
theorem j_goto {off : Int} {tgt : Nat} (hd : decode y.2.1 pc = .ok (.goto off, 3)) (ht : (pc : Int) + off = (tgt : Int)) (h : z_J G l y S tgt lo st w kc ks) : z_J G l y S pc lo st w kc ks := by
  intro p e s m args below meth c R0 hok R H locs ls cst hat hlo hst
  exact lv_goto hok.1 hok.2.1 hd ht (h p e s m args below meth c R0 hok R H locs ls _ hat hlo hst)
theorem j_if_eq {x : Int32} {off : Int} {tgt : Nat} (hd : decode y.2.1 pc = .ok (.ifCond .eq off, 3)) (ht : (pc : Int) + off = (tgt : Int)) (kt : x = 0 → z_J G l y S tgt lo st w kc ks) (kf : ¬ x = 0 → z_J G l y S (pc + 3) lo st w kc ks) : z_J G l y S pc lo (.int x :: st) w kc ks := by
  intro p e s m args below meth c R0 hok R H locs ls cst hat hlo hst
  obtain ⟨c1, cs1, rfl, h1, hst1⟩ := z_Lc hst
  have h1 : c1 = .int x := h1
  subst h1
  exact lv_if_eq hok.1 hok.2.1 hd ht (fun c9 => kt c9 p e s m args below meth c R0 hok R H locs ls _ hat hlo hst1) (fun c9 => kf c9 p e s m args below meth c R0 hok R H locs ls _ hat hlo hst1)
theorem j_icmp_eq {x b : Int32} {off : Int} {tgt : Nat} (hd : decode y.2.1 pc = .ok (.if_icmp .eq off, 3)) (ht : (pc : Int) + off = (tgt : Int)) (kt : x = b → z_J G l y S tgt lo st w kc ks) (kf : ¬ x = b → z_J G l y S (pc + 3) lo st w kc ks) : z_J G l y S pc lo (.int b :: .int x :: st) w kc ks := by
  intro p e s m args below meth c R0 hok R H locs ls cst hat hlo hst
  obtain ⟨c1, cs1, rfl, h1, hst1⟩ := z_Lc hst
  obtain ⟨c2, cs2, rfl, h2, hst2⟩ := z_Lc hst1
  have h1 : c1 = .int b := h1
  have h2 : c2 = .int x := h2
  subst h1 h2
  exact lv_icmp_eq hok.1 hok.2.1 hd ht (fun c9 => kt c9 p e s m args below meth c R0 hok R H locs ls _ hat hlo hst2) (fun c9 => kf c9 p e s m args below meth c R0 hok R H locs ls _ hat hlo hst2)
theorem j_if_ne {x : Int32} {off : Int} {tgt : Nat} (hd : decode y.2.1 pc = .ok (.ifCond .ne off, 3)) (ht : (pc : Int) + off = (tgt : Int)) (kt : ¬ x = 0 → z_J G l y S tgt lo st w kc ks) (kf : x = 0 → z_J G l y S (pc + 3) lo st w kc ks) : z_J G l y S pc lo (.int x :: st) w kc ks := by
  intro p e s m args below meth c R0 hok R H locs ls cst hat hlo hst
  obtain ⟨c1, cs1, rfl, h1, hst1⟩ := z_Lc hst
  have h1 : c1 = .int x := h1
  subst h1
  exact lv_if_ne hok.1 hok.2.1 hd ht (fun c9 => kt c9 p e s m args below meth c R0 hok R H locs ls _ hat hlo hst1) (fun c9 => kf c9 p e s m args below meth c R0 hok R H locs ls _ hat hlo hst1)
theorem j_icmp_ne {x b : Int32} {off : Int} {tgt : Nat} (hd : decode y.2.1 pc = .ok (.if_icmp .ne off, 3)) (ht : (pc : Int) + off = (tgt : Int)) (kt : ¬ x = b → z_J G l y S tgt lo st w kc ks) (kf : x = b → z_J G l y S (pc + 3) lo st w kc ks) : z_J G l y S pc lo (.int b :: .int x :: st) w kc ks := by
  intro p e s m args below meth c R0 hok R H locs ls cst hat hlo hst
  obtain ⟨c1, cs1, rfl, h1, hst1⟩ := z_Lc hst
  obtain ⟨c2, cs2, rfl, h2, hst2⟩ := z_Lc hst1
  have h1 : c1 = .int b := h1
  have h2 : c2 = .int x := h2
  subst h1 h2
  exact lv_icmp_ne hok.1 hok.2.1 hd ht (fun c9 => kt c9 p e s m args below meth c R0 hok R H locs ls _ hat hlo hst2) (fun c9 => kf c9 p e s m args below meth c R0 hok R H locs ls _ hat hlo hst2)
theorem j_if_lt {x : Int32} {off : Int} {tgt : Nat} (hd : decode y.2.1 pc = .ok (.ifCond .lt off, 3)) (ht : (pc : Int) + off = (tgt : Int)) (kt : x < 0 → z_J G l y S tgt lo st w kc ks) (kf : ¬ x < 0 → z_J G l y S (pc + 3) lo st w kc ks) : z_J G l y S pc lo (.int x :: st) w kc ks := by
  intro p e s m args below meth c R0 hok R H locs ls cst hat hlo hst
  obtain ⟨c1, cs1, rfl, h1, hst1⟩ := z_Lc hst
  have h1 : c1 = .int x := h1
  subst h1
  exact lv_if_lt hok.1 hok.2.1 hd ht (fun c9 => kt c9 p e s m args below meth c R0 hok R H locs ls _ hat hlo hst1) (fun c9 => kf c9 p e s m args below meth c R0 hok R H locs ls _ hat hlo hst1)
theorem j_icmp_lt {x b : Int32} {off : Int} {tgt : Nat} (hd : decode y.2.1 pc = .ok (.if_icmp .lt off, 3)) (ht : (pc : Int) + off = (tgt : Int)) (kt : x < b → z_J G l y S tgt lo st w kc ks) (kf : ¬ x < b → z_J G l y S (pc + 3) lo st w kc ks) : z_J G l y S pc lo (.int b :: .int x :: st) w kc ks := by
  intro p e s m args below meth c R0 hok R H locs ls cst hat hlo hst
  obtain ⟨c1, cs1, rfl, h1, hst1⟩ := z_Lc hst
  obtain ⟨c2, cs2, rfl, h2, hst2⟩ := z_Lc hst1
  have h1 : c1 = .int b := h1
  have h2 : c2 = .int x := h2
  subst h1 h2
  exact lv_icmp_lt hok.1 hok.2.1 hd ht (fun c9 => kt c9 p e s m args below meth c R0 hok R H locs ls _ hat hlo hst2) (fun c9 => kf c9 p e s m args below meth c R0 hok R H locs ls _ hat hlo hst2)
theorem j_if_ge {x : Int32} {off : Int} {tgt : Nat} (hd : decode y.2.1 pc = .ok (.ifCond .ge off, 3)) (ht : (pc : Int) + off = (tgt : Int)) (kt : 0 ≤ x → z_J G l y S tgt lo st w kc ks) (kf : ¬ 0 ≤ x → z_J G l y S (pc + 3) lo st w kc ks) : z_J G l y S pc lo (.int x :: st) w kc ks := by
  intro p e s m args below meth c R0 hok R H locs ls cst hat hlo hst
  obtain ⟨c1, cs1, rfl, h1, hst1⟩ := z_Lc hst
  have h1 : c1 = .int x := h1
  subst h1
  exact lv_if_ge hok.1 hok.2.1 hd ht (fun c9 => kt c9 p e s m args below meth c R0 hok R H locs ls _ hat hlo hst1) (fun c9 => kf c9 p e s m args below meth c R0 hok R H locs ls _ hat hlo hst1)
theorem j_icmp_ge {x b : Int32} {off : Int} {tgt : Nat} (hd : decode y.2.1 pc = .ok (.if_icmp .ge off, 3)) (ht : (pc : Int) + off = (tgt : Int)) (kt : b ≤ x → z_J G l y S tgt lo st w kc ks) (kf : ¬ b ≤ x → z_J G l y S (pc + 3) lo st w kc ks) : z_J G l y S pc lo (.int b :: .int x :: st) w kc ks := by
  intro p e s m args below meth c R0 hok R H locs ls cst hat hlo hst
  obtain ⟨c1, cs1, rfl, h1, hst1⟩ := z_Lc hst
  obtain ⟨c2, cs2, rfl, h2, hst2⟩ := z_Lc hst1
  have h1 : c1 = .int b := h1
  have h2 : c2 = .int x := h2
  subst h1 h2
  exact lv_icmp_ge hok.1 hok.2.1 hd ht (fun c9 => kt c9 p e s m args below meth c R0 hok R H locs ls _ hat hlo hst2) (fun c9 => kf c9 p e s m args below meth c R0 hok R H locs ls _ hat hlo hst2)
theorem j_if_gt {x : Int32} {off : Int} {tgt : Nat} (hd : decode y.2.1 pc = .ok (.ifCond .gt off, 3)) (ht : (pc : Int) + off = (tgt : Int)) (kt : 0 < x → z_J G l y S tgt lo st w kc ks) (kf : ¬ 0 < x → z_J G l y S (pc + 3) lo st w kc ks) : z_J G l y S pc lo (.int x :: st) w kc ks := by
  intro p e s m args below meth c R0 hok R H locs ls cst hat hlo hst
  obtain ⟨c1, cs1, rfl, h1, hst1⟩ := z_Lc hst
  have h1 : c1 = .int x := h1
  subst h1
  exact lv_if_gt hok.1 hok.2.1 hd ht (fun c9 => kt c9 p e s m args below meth c R0 hok R H locs ls _ hat hlo hst1) (fun c9 => kf c9 p e s m args below meth c R0 hok R H locs ls _ hat hlo hst1)
theorem j_icmp_gt {x b : Int32} {off : Int} {tgt : Nat} (hd : decode y.2.1 pc = .ok (.if_icmp .gt off, 3)) (ht : (pc : Int) + off = (tgt : Int)) (kt : b < x → z_J G l y S tgt lo st w kc ks) (kf : ¬ b < x → z_J G l y S (pc + 3) lo st w kc ks) : z_J G l y S pc lo (.int b :: .int x :: st) w kc ks := by
  intro p e s m args below meth c R0 hok R H locs ls cst hat hlo hst
  obtain ⟨c1, cs1, rfl, h1, hst1⟩ := z_Lc hst
  obtain ⟨c2, cs2, rfl, h2, hst2⟩ := z_Lc hst1
  have h1 : c1 = .int b := h1
  have h2 : c2 = .int x := h2
  subst h1 h2
  exact lv_icmp_gt hok.1 hok.2.1 hd ht (fun c9 => kt c9 p e s m args below meth c R0 hok R H locs ls _ hat hlo hst2) (fun c9 => kf c9 p e s m args below meth c R0 hok R H locs ls _ hat hlo hst2)
theorem j_if_le {x : Int32} {off : Int} {tgt : Nat} (hd : decode y.2.1 pc = .ok (.ifCond .le off, 3)) (ht : (pc : Int) + off = (tgt : Int)) (kt : x ≤ 0 → z_J G l y S tgt lo st w kc ks) (kf : ¬ x ≤ 0 → z_J G l y S (pc + 3) lo st w kc ks) : z_J G l y S pc lo (.int x :: st) w kc ks := by
  intro p e s m args below meth c R0 hok R H locs ls cst hat hlo hst
  obtain ⟨c1, cs1, rfl, h1, hst1⟩ := z_Lc hst
  have h1 : c1 = .int x := h1
  subst h1
  exact lv_if_le hok.1 hok.2.1 hd ht (fun c9 => kt c9 p e s m args below meth c R0 hok R H locs ls _ hat hlo hst1) (fun c9 => kf c9 p e s m args below meth c R0 hok R H locs ls _ hat hlo hst1)
theorem j_icmp_le {x b : Int32} {off : Int} {tgt : Nat} (hd : decode y.2.1 pc = .ok (.if_icmp .le off, 3)) (ht : (pc : Int) + off = (tgt : Int)) (kt : x ≤ b → z_J G l y S tgt lo st w kc ks) (kf : ¬ x ≤ b → z_J G l y S (pc + 3) lo st w kc ks) : z_J G l y S pc lo (.int b :: .int x :: st) w kc ks := by
  intro p e s m args below meth c R0 hok R H locs ls cst hat hlo hst
  obtain ⟨c1, cs1, rfl, h1, hst1⟩ := z_Lc hst
  obtain ⟨c2, cs2, rfl, h2, hst2⟩ := z_Lc hst1
  have h1 : c1 = .int b := h1
  have h2 : c2 = .int x := h2
  subst h1 h2
  exact lv_icmp_le hok.1 hok.2.1 hd ht (fun c9 => kt c9 p e s m args below meth c R0 hok R H locs ls _ hat hlo hst2) (fun c9 => kf c9 p e s m args below meth c R0 hok R H locs ls _ hat hlo hst2)
theorem j_widen {kc' ks' : Nat} (h1 : kc ≤ kc') (h2 : ks ≤ ks') (h : z_J G l y S pc lo st w kc' ks') : z_J G l y S pc lo st w kc ks := by
  intro p e s m args below meth c R0 hok R H locs ls cst hat hlo hst
  exact W.widen h1 h2 (h p e s m args below meth c R0 hok R H locs ls _ hat hlo hst)
theorem j_lo {lo' : List (Nat × Value)} (hs : ∀ q ∈ lo', z_find lo q.1 = some q.2) (h : z_J G l y S pc lo' st w kc ks) : z_J G l y S pc lo st w kc ks := by
  intro p e s m args below meth c R0 hok R H locs ls cst hat hlo hst
  refine h p e s m args below meth c R0 hok R H locs ls _ hat ?_ hst
  clear h
  induction lo' with
  | nil => obtain ⟨clo, h1, -⟩ := hlo; exact ⟨[], ⟨h1.1, h1.2.1, fun _ h => by cases h⟩, trivial⟩
  | cons q t ih =>
    obtain ⟨clo, h1, h2⟩ := ih (fun q' hq => hs q' (List.mem_cons_of_mem _ hq))
    obtain ⟨cv, h3, h4⟩ := z_lof hlo (hs q List.mem_cons_self)
    exact ⟨(q.1, cv) :: clo, ⟨h1.1, h1.2.1, fun x hx => by
      rcases List.mem_cons.mp hx with rfl | hx
      · exact h3
      · exact h1.2.2 x hx⟩, ⟨⟨rfl, h4⟩, h2⟩⟩
end ZR
end ZM2
section ZM3
section ZH
variable {G : z_G} {l : Launch} {y : z_M} {S : z_S} {pc : Nat} {lo : List (Nat × Value)} {st : List Value} {w w' : z_W} {kc ks : Nat}
theorem z_Vs {G : z_G} {R : z_R} {w : z_W} {n : Nat} {e e0 : z_E} (hn : z_g w n = some e0) (v c : Value) (h : z_V G R w v c) : z_V G R (z_s w n e) v c := by
  cases v with
  | int x => exact h
  | long x => exact h
  | null => exact h
  | ref m => exact ⟨(z_ds hn m).mpr h.1, h.2⟩
  | float b => exact h
  | retAddr k => exact h
  | double b => exact h
theorem z_write {G : z_G} {S : z_S} {R0 R : z_R} {s : State} {w : z_W} {H H' : Heap} {locs : List Loc} {n i : Nat} {e0 e : z_E} (hat : z_at G S R0 s R w H locs) (hn : z_g w n = some e0) (h1 : H'.size = H.size) (h2 : ∀ q : Nat, q ≠ R.1 n → H'[q]? = H[q]?) (h3 : z_X G R (z_s w n e) e (R.1 n) H') : z_at G S R0 s R (z_s w n e) H' (locs ++ [⟨R.1 n, i⟩]) := by
  obtain ⟨⟨p1, p2, p3⟩, t, f⟩ := hat
  refine ⟨⟨fun m em hm => ?_, fun a b ha hb => p2 a b ((z_ds hn a).mp ha) ((z_ds hn b).mp hb), fun q b hq => ?_⟩, ⟨fun m hm => ⟨(z_ds hn m).mpr (t.1 m hm).1, (t.1 m hm).2⟩, t.2.1, fun m hm => t.2.2.1 m ((z_ds hn m).mp hm), t.2.2.2⟩, ?_⟩
  · by_cases hmn : m = n
    · subst hmn
      rw [z_gs_self hn] at hm
      cases hm
      exact ⟨h3, (p1 m e0 hn).2⟩
    · rw [z_gs_ne hmn] at hm
      have hne : R.1 m ≠ R.1 n := fun q => hmn (p2 m n ⟨_, hm⟩ ⟨_, hn⟩ q)
      exact ⟨(p1 m em hm).1.kept (z_Vs hn) (h2 _ hne), (p1 m em hm).2⟩
  · obtain ⟨a1, a2⟩ := p3 q b hq
    exact ⟨a1.kept (h2 q (fun z => a2 n ⟨_, hn⟩ z.symm)), fun m hm => a2 m ((z_ds hn m).mp hm)⟩
  · refine ⟨Nat.le_trans f.1 (Nat.le_of_eq h1.symm), fun q hq hA => ?_, fun x hx => ?_⟩
    · rw [h2 q (fun z => hA (by rw [z]; exact t.A ⟨_, hn⟩))]
      exact f.2.1 q hq hA
    · rcases List.mem_append.mp hx with h | h
      · exact f.2.2 x h
      · rw [List.mem_singleton.mp h]
        exact (p1 n e0 hn).2
def z_al (w : z_W) (n : Nat) (e : z_E) (w' : z_W) : Prop := z_g w' n = some e ∧ ∀ m : Nat, m ≠ n → z_g w' m = z_g w m
theorem z_al_l {L : List z_E} {P : Nat → Option z_E} {n : Nat} {e : z_E} (hn : L.length = n) (h : Nat.blt n 1000 = true) : z_g (L, P) n = none ∧ z_al (L, P) n e (L ++ [e], P) := by
  subst hn
  refine ⟨?_, ?_, fun m hm => ?_⟩
  · simp only [z_g, h, cond]
    exact List.getElem?_eq_none (Nat.le_refl _)
  · simp only [z_g, h, cond]
    exact List.getElem?_concat_length
  · cases hb : Nat.blt m 1000 <;> simp only [z_g, hb, cond]
    rcases Nat.lt_or_gt_of_ne hm with q | q
    · exact List.getElem?_append_left q
    · rw [List.getElem?_eq_none (by rw [List.length_append]; exact q), List.getElem?_eq_none (Nat.le_of_lt q)]
theorem z_Va {G : z_G} {R : z_R} {w w' : z_W} {n q : Nat} {e : z_E} (hn : z_g w n = none) (hw : z_al w n e w') (v c : Value) (h : z_V G R w v c) : z_V G ((fun m => if m = n then q else R.1 m), R.2) w' v c := by
  cases v with
  | int x => exact h
  | long x => exact h
  | null => exact h
  | ref m =>
    obtain ⟨⟨em, hm⟩, hc⟩ := h
    have hne : m ≠ n := fun z => by rw [z, hn] at hm; cases hm
    refine ⟨⟨em, by rw [hw.2 m hne]; exact hm⟩, ?_⟩
    show c = .ref (if m = n then q else R.1 m)
    rw [if_neg hne]
    exact hc
  | float b => exact h
  | retAddr k => exact h
  | double b => exact h
theorem z_alloc {G : z_G} {S : z_S} {R0 R : z_R} {s : State} {w w' : z_W} {H H' : Heap} {locs : List Loc} {n : Nat} {e : z_E} (hbs : z_b G ≤ s.heap.size) (hat : z_at G S R0 s R w H locs) (hn : z_g w n = none) (hw : z_al w n e w') (h1 : H'.size = H.size + 1) (h2 : ∀ q : Nat, q < H.size → H'[q]? = H[q]?)
    (h3 : z_X G ((fun m => if m = n then H.size else R.1 m), R.2) w' e H.size H') : z_at G S R0 s ((fun m => if m = n then H.size else R.1 m), R.2) w' H' locs := by
  obtain ⟨⟨p1, p2, p3⟩, t, f⟩ := hat
  have old : ∀ m, z_d w' m → m ≠ n → z_d w m := fun m ⟨em, hm⟩ hne => ⟨em, by rw [← hw.2 m hne]; exact hm⟩
  have lt : ∀ m, z_d w m → R.1 m < H.size := fun m ⟨em, hm⟩ => (p1 m em hm).1.lt
  have ne : ∀ m, z_d w m → m ≠ n := fun m ⟨em, hm⟩ z => by rw [z, hn] at hm; cases hm
  refine ⟨⟨fun m em hm => ?_, fun a b ha hb hab => ?_, fun q b hq => ?_⟩, ⟨fun m hm => ?_, t.2.1, fun m hm hno => ?_, t.2.2.2⟩, ?_⟩
  · by_cases hmn : m = n
    · subst hmn
      rw [hw.1] at hm
      cases hm
      show z_X _ _ _ _ (if m = m then H.size else R.1 m) _ ∧ _ ≤ (if m = m then H.size else R.1 m)
      rw [if_pos rfl]
      exact ⟨h3, Nat.le_trans hbs f.1⟩
    · show z_X _ _ _ _ (if m = n then H.size else R.1 m) _ ∧ _ ≤ (if m = n then H.size else R.1 m)
      rw [if_neg hmn]
      rw [hw.2 m hmn] at hm
      exact ⟨(p1 m em hm).1.kept (z_Va hn hw) (h2 _ (lt m ⟨_, hm⟩)), (p1 m em hm).2⟩
  · have hab : (if a = n then H.size else R.1 a) = (if b = n then H.size else R.1 b) := hab
    by_cases han : a = n
    · by_cases hbn : b = n
      · rw [han, hbn]
      · rw [if_pos han, if_neg hbn] at hab
        have := lt b (old b hb hbn)
        omega
    · by_cases hbn : b = n
      · rw [if_neg han, if_pos hbn] at hab
        have := lt a (old a ha han)
        omega
      · rw [if_neg han, if_neg hbn] at hab
        exact p2 a b (old a ha han) (old b hb hbn) hab
  · obtain ⟨a1, a2⟩ := p3 q b hq
    have hql : q < H.size := by obtain ⟨cell, h9, -⟩ := a1; exact (Array.getElem?_eq_some_iff.mp h9).1
    refine ⟨a1.kept (h2 q hql), fun m hm => ?_⟩
    show (if m = n then H.size else R.1 m) ≠ q
    by_cases hmn : m = n
    · rw [if_pos hmn]; omega
    · rw [if_neg hmn]; exact a2 m (old m hm hmn)
  · have hm1 := (t.1 m hm).1
    have hmn := ne m hm1
    obtain ⟨em, hem⟩ := hm1
    refine ⟨⟨em, by rw [hw.2 m hmn]; exact hem⟩, ?_⟩
    show (if m = n then H.size else R.1 m) = _
    rw [if_neg hmn]
    exact (t.1 m hm).2
  · show s.heap.size ≤ (if m = n then H.size else R.1 m)
    by_cases hmn : m = n
    · rw [if_pos hmn]; exact f.1
    · rw [if_neg hmn]; exact t.2.2.1 m (old m hm hmn) hno
  · exact ⟨Nat.le_trans f.1 (by omega), fun q hq hA => (h2 q (Nat.lt_of_lt_of_le hq f.1)).trans (f.2.1 q hq hA), f.2.2⟩
def z_F (own : String) (idx ci k : Nat) : Prop := ∃ (q : vw_C) (ref : String), z_cls[ci]? = some q ∧ k < q.2.2 ∧ (∀ x ∈ u_ws q.1 q.2.1 q.2.2, x ∈ z_tbl) ∧
  (Cond.fieldLink own idx ref (q.2.1 k).2.1 (q.2.1 k).2.2.1 ∈ z_tbl ∨ ∃ host : String, Cond.fieldLinkNest own idx ref (q.2.1 k).2.1 (q.2.1 k).2.2.1 host ∈ z_nst) ∧ ((q.2.1 k).1 = ref ∨ Cond.sameField ref (q.2.1 k).1 (q.2.1 k).2.1 (q.2.1 k).2.2.1 ∈ z_tbl)
theorem j_getf {idx ci k a : Nat} {fs : List Value} {v : Value} (hd : decode y.2.1 pc = .ok (.getfield idx, 3)) (hF : z_F y.1.cls idx ci k) (hg : z_g w a = some (.inr (ci, fs))) (hk : fs[k]? = some v) (h : z_J G l y S (pc + 3) lo (v :: st) w kc ks) : z_J G l y S pc lo (.ref a :: st) w kc ks := by
  intro p e s m args below meth c R0 hok R H locs ls cst hat hlo hst
  obtain ⟨c1, cs1, rfl, ⟨-, h1⟩, hst1⟩ := z_Lc hst
  subst h1
  obtain ⟨q, ref, f1, f2, f3, f4, f5⟩ := hF
  obtain ⟨q', gs, x1, x2, ⟨cell, o1, o2, o3, o4⟩, x4⟩ := (hat.1.1 a _ hg).1
  have eq : q' = q := Option.some.inj (x1.symm.trans f1)
  subst eq
  obtain ⟨g, g1, g2⟩ := z_Lg x4 hk
  have kk := h p e s m args below meth c R0 hok R H locs ls (g :: cs1) hat hlo ⟨g2, hst1⟩
  obtain ⟨hx, hb, -, -, -, hown, hts, henv, -⟩ := hok
  obtain ⟨hS, hfc, kC, hkC, hkind⟩ := henv.1 ci _ f1
  obtain ⟨cf, kf, fi, f, hi, hsl⟩ := hS k f2
  have hsta := (u_facts hfc hkC (u_lays (ws := z_tbl) hts f3 f2) hi).1
  have hi2 : s.fieldFound? ref (q'.2.1 k).2.1 (q'.2.1 k).2.2.1 = some (cf, kf, fi, f) := by
    rcases f5 with z | z
    · rw [← z]; exact hi
    · exact u_same (hts _ z) _ hi
  have hsv : cell.slots[f.slot]? = some g := by
    rw [hsl, o4 k f2]
    simp [vp_V, g1]
  rcases f4 with f4 | ⟨host, f4⟩
  · exact W.getf hx hb hown (hts _ f4) hi2 hsta o1 (by rw [o3]; exact fun z => by cases z) hsv rfl rfl hd kk
  · exact va_Wgetf hx hb hown (va_Nw.use (w := Cond.fieldLinkNest y.1.cls idx ref (q'.2.1 k).2.1 (q'.2.1 k).2.2.1 host) rfl (henv.2.2.1 _ f4)) hi2 hsta o1 (by rw [o3]; exact fun z => by cases z) hsv rfl rfl hd kk
def z_nv (ty : FieldType) (v : Value) : Prop := match v with
  | .int x => narrow ty (.int x) = .int x ∧ fits ty (.int x) = true
  | .long x => narrow ty (.long x) = .long x ∧ fits ty (.long x) = true
  | .double _ => False
  | _ => (∃ n, ty = .object n) ∨ ∃ t, ty = .array t
theorem z_nvc {G : z_G} {R : z_R} {w : z_W} {ty : FieldType} {v c : Value} (h : z_nv ty v) (hV : z_V G R w v c) : narrow ty c = c ∧ fits ty c = true := by
  cases v with
  | int x => have hV : c = .int x := hV; subst hV; exact h
  | long x => have hV : c = .long x := hV; subst hV; exact h
  | null => have hV : c = .null := hV; subst hV; rcases h with ⟨n, rfl⟩ | ⟨t, rfl⟩ <;> exact ⟨rfl, rfl⟩
  | ref n => obtain ⟨-, hV⟩ := hV; subst hV; rcases h with ⟨n, rfl⟩ | ⟨t, rfl⟩ <;> exact ⟨rfl, rfl⟩
  | float b => obtain ⟨q, hV, -⟩ := hV; subst hV; rcases h with ⟨n, rfl⟩ | ⟨t, rfl⟩ <;> exact ⟨rfl, rfl⟩
  | retAddr k => obtain ⟨q, hV, -⟩ := hV; subst hV; rcases h with ⟨n, rfl⟩ | ⟨t, rfl⟩ <;> exact ⟨rfl, rfl⟩
  | double b => exact h.elim
def z_FT (ci k : Nat) (ty : FieldType) (fin : Bool) : Prop := ∃ (q : vw_C) (ty0 : Nat → FieldType), z_cls[ci]? = some q ∧ (q.2.1 k).2.2.2 = fin ∧ (∀ j, j < q.2.2 → parseFieldDescriptor (q.2.1 j).2.2.1 = some (ty0 j)) ∧ ty0 k = ty ∧ (∀ a, a < q.2.2 → ∀ b, b < q.2.2 → a ≠ b → (q.2.1 a).2.1 ≠ (q.2.1 b).2.1)
theorem j_put {idx ci k a : Nat} {fs : List Value} {v : Value} {ty : FieldType} (hd : decode y.2.1 pc = .ok (.putfield idx, 3)) (hF : z_F y.1.cls idx ci k) (hT : z_FT ci k ty false) (hg : z_g w a = some (.inr (ci, fs))) (hv : z_nv ty v) (hw : z_s w a (.inr (ci, fs.set k v)) = w') (h : z_J G l y S (pc + 3) lo st w' kc ks) : z_J G l y S pc lo (v :: .ref a :: st) w kc ks := by
  intro p e s m args below meth c R0 hok R H locs ls cst hat hlo hst
  obtain ⟨c0, cs0, rfl, h0, hst1⟩ := z_Lc hst
  obtain ⟨c1, cs1, rfl, ⟨-, h1⟩, hst2⟩ := z_Lc hst1
  subst h1
  subst hw
  obtain ⟨q, ref, f1, f2, f3, f4, f5⟩ := hF
  obtain ⟨q2, ty0, t1, t2, t3, t4, t5⟩ := hT
  have eq2 : q2 = q := Option.some.inj (t1.symm.trans f1)
  subst eq2
  obtain ⟨q', gs, x1, x2, ⟨cell, o1, o2, o3, o4⟩, x4⟩ := (hat.1.1 a _ hg).1
  have eq : q' = q2 := Option.some.inj (x1.symm.trans f1)
  subst eq
  have hok2 := hok
  obtain ⟨hx, hb, -, -, -, hown, hts, henv, -⟩ := hok2
  have hap := va_apart (D := (z_dC G, z_dI G)) (tys := []) (own := y.1.cls) hts f3 ty0 t3 t5 ⟨henv.1, fun k q hk => by simp at hk⟩ f1
  obtain ⟨hS, hfc, kC, hkC, hkind⟩ := henv.1 ci _ f1
  obtain ⟨cf, kf, fi, f, hi, hsl⟩ := hS k f2
  have hsta := (u_facts hfc hkC (u_lays (ws := z_tbl) hts f3 f2) hi).1
  have hi2 : s.fieldFound? ref (q'.2.1 k).2.1 (q'.2.1 k).2.2.1 = some (cf, kf, fi, f) := by
    rcases f5 with z | z
    · rw [← z]; exact hi
    · exact u_same (hts _ z) _ hi
  have hlay := hts _ (f3 _ (u_in_lay f2))
  unfold u_lay at hlay
  rw [if_neg (by rw [t2]; decide)] at hlay
  obtain ⟨n1, n2⟩ := z_nvc hv h0
  have h6 := u_store hfc hkC hkind hlay hi (by rw [t3 k f2, t4]) n1 n2
  have fin : ∀ H' : Heap, H'[R.1 a]? = some (cell.setSlot f.slot c0) → H'.size = H.size → (∀ q, q ≠ R.1 a → H'[q]? = H[q]?) → W p l e (z_rm S.1 S.2.1 S.2.2.1) s m args below meth c H' (locs ++ [⟨R.1 a, f.slot⟩]) kc ks (vx_MQ below (z_Qc G R0 S.2.2.2.1 S.2.2.2.2.1) (z_Xc G R0 S.2.2.2.1 S.2.2.2.2.2) args s S.2.1 S.2.2.1 (fun q => z_b G ≤ q)) (F0 m (pc + 3) ls cs1) := by
    intro H' e1 e2 e3
    rw [hsl] at e1
    have hX : z_X G R (z_s w a (.inr (ci, fs.set k v))) (.inr (ci, fs.set k v)) (R.1 a) H' :=
      ⟨q', gs.set k c0, f1, by rw [List.length_set]; exact x2, t_OB.to (V := updV (vp_V gs) k c0) ⟨_, e1, o2, o3, t_set o4 hap f2 c0⟩ (fun j _ => vp_updV_set (by rw [z_Ll x4]; show k < fs.length; rw [x2]; exact f2) c0 j), z_Lm (z_Vs hg) (z_Ls x4 h0)⟩
    exact h p e s m args below meth c R0 hok R H' _ ls cs1 (z_write hat hg e2 e3 hX) (z_lom (z_Vs hg) hlo) (z_Lm (z_Vs hg) hst2)
  rcases f4 with f4 | ⟨host, f4⟩
  · exact W.putK hx hb (f := f) ⟨hown, hts _ f4, ⟨_, _, _, hi2⟩, hsta⟩ (by rw [o2]; exact h6) o1 o3 (by rw [hsl]; exact k2_hasslot (o4 k f2)) rfl rfl hd fin
  · exact va_WputK hx hb (f := f) hown (va_Nw.use (w := Cond.fieldLinkNest y.1.cls idx ref (q'.2.1 k).2.1 (q'.2.1 k).2.2.1 host) rfl (henv.2.2.1 _ f4)) hi2 hsta (by rw [o2]; exact h6) o1 o3 (by rw [hsl]; exact k2_hasslot (o4 k f2)) rfl rfl hd fin
theorem j_putF {idx ci k a : Nat} {fs : List Value} {v : Value} {ty : FieldType} (hd : decode y.2.1 pc = .ok (.putfield idx, 3)) (hF : z_F y.1.cls idx ci k) (hT : z_FT ci k ty true) (hin : y.1.name = "<init>") (hdc : ∀ q : vw_C, z_cls[ci]? = some q → (q.2.1 k).1 = y.1.cls ∧ Cond.fieldLink y.1.cls idx y.1.cls (q.2.1 k).2.1 (q.2.1 k).2.2.1 ∈ z_tbl) (hg : z_g w a = some (.inr (ci, fs))) (hv : z_nv ty v) (hw : z_s w a (.inr (ci, fs.set k v)) = w') (h : z_J G l y S (pc + 3) lo st w' kc ks) : z_J G l y S pc lo (v :: .ref a :: st) w kc ks := by
  intro p e s m args below meth c R0 hok R H locs ls cst hat hlo hst
  obtain ⟨c0, cs0, rfl, h0, hst1⟩ := z_Lc hst
  obtain ⟨c1, cs1, rfl, ⟨-, h1⟩, hst2⟩ := z_Lc hst1
  subst h1
  subst hw
  obtain ⟨q, ref, f1, f2, f3, -, -⟩ := hF
  obtain ⟨q2, ty0, t1, t2, t3, t4, t5⟩ := hT
  have eq2 : q2 = q := Option.some.inj (t1.symm.trans f1)
  subst eq2
  obtain ⟨q', gs, x1, x2, ⟨cell, o1, o2, o3, o4⟩, x4⟩ := (hat.1.1 a _ hg).1
  have eq : q' = q2 := Option.some.inj (x1.symm.trans f1)
  subst eq
  obtain ⟨hdecl, f4⟩ := hdc q' f1
  have hok2 := hok
  obtain ⟨hx, hb, -, -, -, hown, hts, henv, -, -, -, hnm, -⟩ := hok2
  have hap := va_apart (D := (z_dC G, z_dI G)) (tys := []) (own := y.1.cls) hts f3 ty0 t3 t5 ⟨henv.1, fun k q hk => by simp at hk⟩ f1
  obtain ⟨hS, hfc, kC, hkC, hkind⟩ := henv.1 ci _ f1
  obtain ⟨cf, kf, fi, f, hi, hsl⟩ := hS k f2
  have hsta := (u_facts hfc hkC (u_lays (ws := z_tbl) hts f3 f2) hi).1
  have hi2 : s.fieldFound? y.1.cls (q'.2.1 k).2.1 (q'.2.1 k).2.2.1 = some (cf, kf, fi, f) := by rw [← hdecl]; exact hi
  have hlay := hts _ (f3 _ (u_in_lay f2))
  unfold u_lay at hlay
  rw [if_pos t2] at hlay
  have hcf : m.cls = cf := by
    obtain ⟨_, _, c', _, _, _, -, -, hf', -, -, -, hown2, -⟩ := Cond.laysFinal_spec hlay
    have e1 : c' = cf := by have := hi.symm.trans hf'; simp at this; exact this.1.symm
    rw [hdecl] at hown2
    rw [← e1]; exact Option.some.inj (hown.symm.trans hown2)
  obtain ⟨n1, n2⟩ := z_nvc hv h0
  have h6 := u_fits hfc hkC hkind (Or.inr hlay) hi (by rw [t3 k f2, t4]) n1 n2
  refine W.putFinK hx hb hown (hts _ f4) hi2 hsta hcf (hnm.trans hin) (by rw [o2]; exact h6) o1 o3 (by rw [hsl]; exact k2_hasslot (o4 k f2)) rfl rfl hd ?_
  intro H' e1 e2 e3
  rw [hsl] at e1
  have hX : z_X G R (z_s w a (.inr (ci, fs.set k v))) (.inr (ci, fs.set k v)) (R.1 a) H' :=
    ⟨q', gs.set k c0, f1, by rw [List.length_set]; exact x2, t_OB.to (V := updV (vp_V gs) k c0) ⟨_, e1, o2, o3, t_set o4 hap f2 c0⟩ (fun j _ => vp_updV_set (by rw [z_Ll x4]; show k < fs.length; rw [x2]; exact f2) c0 j), z_Lm (z_Vs hg) (z_Ls x4 h0)⟩
  exact h p e s m args below meth c R0 hok R H' _ ls cs1 (z_write hat hg e2 e3 hX) (z_lom (z_Vs hg) hlo) (z_Lm (z_Vs hg) hst2)
theorem j_alen {a kd n : Nat} {f : Nat → Value} {x : Int32} {ty : FieldType} (hd : decode y.2.1 pc = .ok (.arraylength, 1)) (hg : z_g w a = some (.inl (kd, n, f))) (hk : z_tyl[kd]? = some ty) (hv : Int32.ofNat n = x) (h : z_J G l y S (pc + 1) lo (.int x :: st) w kc ks) : z_J G l y S pc lo (.ref a :: st) w kc ks := by
  intro p e s m args below meth c R0 hok R H locs ls cst hat hlo hst
  obtain ⟨c1, cs1, rfl, ⟨-, h1⟩, hst1⟩ := z_Lc hst
  subst h1
  subst hv
  obtain ⟨z, z1, z2⟩ := (hat.1.1 a _ hg).1
  have kk := h p e s m args below meth c R0 hok R H locs ls (.int (Int32.ofNat n) :: cs1) hat hlo ⟨rfl, hst1⟩
  obtain ⟨hx, hb, -, -, -, hown, hts, henv, -⟩ := hok
  exact W.alen (n := Int32.ofNat n) hx hb z1 ((henv.2.1 kd ty hk).1 n z) (by rw [arrV_size] <;> rfl) rfl rfl hd kk
theorem j_iald {a n : Nat} {f : Nat → Value} {i : Int32} {v : Value} (hd : decode y.2.1 pc = .ok (.iaload, 1)) (hg : z_g w a = some (.inl (0, n, f))) (hin : vp_in i n) (hv : f i.toNatClampNeg = v) (h : z_J G l y S (pc + 1) lo (v :: st) w kc ks) : z_J G l y S pc lo (.int i :: .ref a :: st) w kc ks := by
  intro p e s m args below meth c R0 hok R H locs ls cst hat hlo hst
  obtain ⟨c0, cs0, rfl, h0, hst1⟩ := z_Lc hst
  obtain ⟨c1, cs1, rfl, ⟨-, h1⟩, hst2⟩ := z_Lc hst1
  have h0 : c0 = .int i := h0
  subst h0
  subst h1
  subst hv
  obtain ⟨z, z1, z2⟩ := (hat.1.1 a _ hg).1
  have hlt : i.toNatClampNeg < n := Nat.not_le.mp fun q => hin (Or.inr q)
  have kk := h p e s m args below meth c R0 hok R H locs ls (z i.toNatClampNeg :: cs1) hat hlo ⟨z2 _ hlt, hst2⟩
  obtain ⟨hx, hb, -, -, -, hown, hts, henv, -⟩ := hok
  exact W.iald hx hb z1 ((henv.2.1 0 .int rfl).1 n z) (fun q => by cases q) (by show ¬ (i < 0 ∨ (arrV _ _ _).slots.size ≤ _); rw [arrV_size]; exact hin) (by show (arrV _ _ _).slots[_]? = _; rw [arrV_read _ _ hlt]) rfl rfl hd kk
theorem j_zald {a n : Nat} {f : Nat → Value} {i : Int32} {v : Value} (hd : decode y.2.1 pc = .ok (.baload, 1)) (hg : z_g w a = some (.inl (1, n, f))) (hin : vp_in i n) (hv : f i.toNatClampNeg = v) (h : z_J G l y S (pc + 1) lo (v :: st) w kc ks) : z_J G l y S pc lo (.int i :: .ref a :: st) w kc ks := by
  intro p e s m args below meth c R0 hok R H locs ls cst hat hlo hst
  obtain ⟨c0, cs0, rfl, h0, hst1⟩ := z_Lc hst
  obtain ⟨c1, cs1, rfl, ⟨-, h1⟩, hst2⟩ := z_Lc hst1
  have h0 : c0 = .int i := h0
  subst h0
  subst h1
  subst hv
  obtain ⟨z, z1, z2⟩ := (hat.1.1 a _ hg).1
  have hlt : i.toNatClampNeg < n := Nat.not_le.mp fun q => hin (Or.inr q)
  have kk := h p e s m args below meth c R0 hok R H locs ls (z i.toNatClampNeg :: cs1) hat hlo ⟨z2 _ hlt, hst2⟩
  obtain ⟨hx, hb, -, -, -, hown, hts, henv, -⟩ := hok
  exact W.zald hx hb z1 ((henv.2.1 1 .boolean rfl).1 n z) (fun q => by cases q) (by show ¬ (i < 0 ∨ (arrV _ _ _).slots.size ≤ _); rw [arrV_size]; exact hin) (by show (arrV _ _ _).slots[_]? = _; rw [arrV_read _ _ hlt]) rfl rfl hd kk
theorem j_bald {a n : Nat} {f : Nat → Value} {i : Int32} {v : Value} (hd : decode y.2.1 pc = .ok (.baload, 1)) (hg : z_g w a = some (.inl (2, n, f))) (hin : vp_in i n) (hv : f i.toNatClampNeg = v) (h : z_J G l y S (pc + 1) lo (v :: st) w kc ks) : z_J G l y S pc lo (.int i :: .ref a :: st) w kc ks := by
  intro p e s m args below meth c R0 hok R H locs ls cst hat hlo hst
  obtain ⟨c0, cs0, rfl, h0, hst1⟩ := z_Lc hst
  obtain ⟨c1, cs1, rfl, ⟨-, h1⟩, hst2⟩ := z_Lc hst1
  have h0 : c0 = .int i := h0
  subst h0
  subst h1
  subst hv
  obtain ⟨z, z1, z2⟩ := (hat.1.1 a _ hg).1
  have hlt : i.toNatClampNeg < n := Nat.not_le.mp fun q => hin (Or.inr q)
  have kk := h p e s m args below meth c R0 hok R H locs ls (z i.toNatClampNeg :: cs1) hat hlo ⟨z2 _ hlt, hst2⟩
  obtain ⟨hx, hb, -, -, -, hown, hts, henv, -⟩ := hok
  exact W.bald hx hb z1 ((henv.2.1 2 .byte rfl).1 n z) (fun q => by cases q) (by show ¬ (i < 0 ∨ (arrV _ _ _).slots.size ≤ _); rw [arrV_size]; exact hin) (by show (arrV _ _ _).slots[_]? = _; rw [arrV_read _ _ hlt]) rfl rfl hd kk
theorem j_aald {a kd n : Nat} {f : Nat → Value} {i : Int32} {v : Value} {ty : FieldType} (hd : decode y.2.1 pc = .ok (.aaload, 1)) (hg : z_g w a = some (.inl (kd, n, f))) (hk : z_tyl[kd]? = some ty) (hr : ty.isReference = true) (hin : vp_in i n) (hv : f i.toNatClampNeg = v) (h : z_J G l y S (pc + 1) lo (v :: st) w kc ks) : z_J G l y S pc lo (.int i :: .ref a :: st) w kc ks := by
  intro p e s m args below meth c R0 hok R H locs ls cst hat hlo hst
  obtain ⟨c0, cs0, rfl, h0, hst1⟩ := z_Lc hst
  obtain ⟨c1, cs1, rfl, ⟨-, h1⟩, hst2⟩ := z_Lc hst1
  have h0 : c0 = .int i := h0
  subst h0
  subst h1
  subst hv
  obtain ⟨z, z1, z2⟩ := (hat.1.1 a _ hg).1
  have hlt : i.toNatClampNeg < n := Nat.not_le.mp fun q => hin (Or.inr q)
  have kk := h p e s m args below meth c R0 hok R H locs ls (z i.toNatClampNeg :: cs1) hat hlo ⟨z2 _ hlt, hst2⟩
  obtain ⟨hx, hb, -, -, -, hown, hts, henv, -⟩ := hok
  exact W.aald (ty := ty) hx hb z1 ((henv.2.1 kd ty hk).1 n z) hr (fun q => by cases q) (by show ¬ (i < 0 ∨ (arrV _ _ _).slots.size ≤ _); rw [arrV_size]; exact hin) (by show (arrV _ _ _).slots[_]? = _; rw [arrV_read _ _ hlt]) rfl rfl hd kk
def z_u (f : Nat → Value) (k : Nat) (v : Value) : Nat → Value := fun j => cond (Nat.beq j k) v (f j)
theorem z_u_self {f : Nat → Value} {k : Nat} {v : Value} : z_u f k v k = v := by unfold z_u; rw [Nat.beq_refl]; rfl
theorem z_u_ne {f : Nat → Value} {k j : Nat} {v : Value} (h : j ≠ k) : z_u f k v j = f j := by unfold z_u; rw [z_beq h]; rfl
theorem z_Xu {G : z_G} {R : z_R} {w w' : z_W} {kd n k A : Nat} {f : Nat → Value} {z : Nat → Value} {v c : Value} {H' : Heap} (hV : ∀ v c, z_V G R w v c → z_V G R w' v c) (h : ∀ j, j < n → z_V G R w (f j) (z j)) (hv : z_V G R w v c) (he : H'[A]? = some ((arrV (z_dA G kd) n z).setSlot k c)) : z_X G R w' (.inl (kd, n, z_u f k v)) A H' := by
  refine ⟨updV z k c, by rw [he, arrV_store], fun j hj => ?_⟩
  show z_V G R w' (z_u f k v j) (updV z k c j)
  by_cases hjk : j = k
  · subst hjk
    rw [z_u_self]
    unfold updV
    rw [if_pos rfl]
    exact hV _ _ hv
  · rw [z_u_ne hjk]
    unfold updV
    rw [if_neg hjk]
    exact hV _ _ (h j hj)
theorem j_iast {a n : Nat} {f : Nat → Value} {i x : Int32} (hd : decode y.2.1 pc = .ok (.iastore, 1)) (hg : z_g w a = some (.inl (0, n, f))) (hin : vp_in i n) (hw : z_s w a (.inl (0, n, z_u f i.toNatClampNeg (.int x))) = w') (h : z_J G l y S (pc + 1) lo st w' kc ks) : z_J G l y S pc lo (.int x :: .int i :: .ref a :: st) w kc ks := by
  intro p e s m args below meth c R0 hok R H locs ls cst hat hlo hst
  obtain ⟨c9, cs9, rfl, h9, hst1⟩ := z_Lc hst
  obtain ⟨c0, cs0, rfl, h0, hst2⟩ := z_Lc hst1
  obtain ⟨c1, cs1, rfl, ⟨-, h1⟩, hst3⟩ := z_Lc hst2
  have h9 : c9 = .int x := h9
  have h0 : c0 = .int i := h0
  subst h9
  subst h0
  subst h1
  subst hw
  obtain ⟨z, z1, z2⟩ := (hat.1.1 a _ hg).1
  have hok2 := hok
  obtain ⟨hx, hb, -, -, -, hown, hts, henv, -⟩ := hok2
  refine W.iast hx hb z1 ((henv.2.1 0 .int rfl).1 n z) (fun q => by cases q) (by show ¬ (i < 0 ∨ (arrV _ _ _).slots.size ≤ _); rw [arrV_size]; exact hin) rfl rfl hd ?_
  intro H' e1 e2 e3
  exact h p e s m args below meth c R0 hok R H' _ ls cs1 (z_write hat hg e2 e3 (z_Xu (z_Vs hg) z2 rfl e1)) (z_lom (z_Vs hg) hlo) (z_Lm (z_Vs hg) hst3)
theorem j_zast {a n : Nat} {f : Nat → Value} {i x : Int32} (hd : decode y.2.1 pc = .ok (.bastore, 1)) (hg : z_g w a = some (.inl (1, n, f))) (hin : vp_in i n) (hnr : narrow .boolean (.int x) = .int x) (hw : z_s w a (.inl (1, n, z_u f i.toNatClampNeg (.int x))) = w') (h : z_J G l y S (pc + 1) lo st w' kc ks) : z_J G l y S pc lo (.int x :: .int i :: .ref a :: st) w kc ks := by
  intro p e s m args below meth c R0 hok R H locs ls cst hat hlo hst
  obtain ⟨c9, cs9, rfl, h9, hst1⟩ := z_Lc hst
  obtain ⟨c0, cs0, rfl, h0, hst2⟩ := z_Lc hst1
  obtain ⟨c1, cs1, rfl, ⟨-, h1⟩, hst3⟩ := z_Lc hst2
  have h9 : c9 = .int x := h9
  have h0 : c0 = .int i := h0
  subst h9
  subst h0
  subst h1
  subst hw
  obtain ⟨z, z1, z2⟩ := (hat.1.1 a _ hg).1
  have hok2 := hok
  obtain ⟨hx, hb, -, -, -, hown, hts, henv, -⟩ := hok2
  refine W.zast hx hb z1 ((henv.2.1 1 .boolean rfl).1 n z) (fun q => by cases q) (by show ¬ (i < 0 ∨ (arrV _ _ _).slots.size ≤ _); rw [arrV_size]; exact hin) rfl rfl hd ?_
  intro H' e1 e2 e3
  rw [hnr] at e1
  exact h p e s m args below meth c R0 hok R H' _ ls cs1 (z_write hat hg e2 e3 (z_Xu (z_Vs hg) z2 rfl e1)) (z_lom (z_Vs hg) hlo) (z_Lm (z_Vs hg) hst3)
end ZH
end ZM3
section ZM4
section ZC
variable {G : z_G} {l : Launch} {y : z_M} {S : z_S} {pc : Nat} {lo : List (Nat × Value)} {st : List Value} {w w' : z_W} {kc ks : Nat}
def z_dv1 (v : Value) : Bool := match v with
  | .int _ => true
  | .long _ => true
  | .null => true
  | _ => false
def z_dv (fs : List Value) : Bool := fs.all z_dv1
theorem z_dvL {G : z_G} {R : z_R} {w : z_W} : ∀ {fs : List Value}, z_dv fs = true → z_L (z_V G R w) fs fs
  | [], _ => trivial
  | v :: t, h => by
    have h9 : z_dv1 v = true ∧ z_dv t = true := by
      unfold z_dv at h ⊢
      rw [List.all_cons, Bool.and_eq_true] at h
      exact h
    refine ⟨?_, z_dvL h9.2⟩
    cases v with
    | int x => rfl
    | long x => rfl
    | null => rfl
    | ref n => exact Bool.noConfusion h9.1
    | float b => exact Bool.noConfusion h9.1
    | retAddr k => exact Bool.noConfusion h9.1
    | double b => exact Bool.noConfusion h9.1
def z_N (own : String) (idx ci : Nat) (fs : List Value) : Prop := ∃ (q : vw_C) (ty : Nat → FieldType), z_cls[ci]? = some q ∧ (∀ x ∈ u_ws q.1 q.2.1 q.2.2, x ∈ z_tbl) ∧ Cond.classLink own idx q.1 ∈ z_tbl ∧ Cond.instantiable q.1 q.2.2 ∈ z_tbl ∧ Cond.initialized q.1 ∈ z_tbl ∧
  (∀ j, j < q.2.2 → parseFieldDescriptor (q.2.1 j).2.2.1 = some (ty j)) ∧ fs.length = q.2.2 ∧ (∀ j, j < q.2.2 → defaultValue (ty j) = vp_V fs j) ∧ z_dv fs = true
theorem j_new {idx ci n N : Nat} {fs : List Value} (hd : decode y.2.1 pc = .ok (.new idx, 3)) (hN : z_N y.1.cls idx ci fs) (hl : fs.length = N) (hw : z_g w n = none ∧ z_al w n (.inr (ci, fs)) w') (hc : kc + 1 ≤ S.2.1) (hs : ks + N ≤ S.2.2.1) (h : z_J G l y S (pc + 3) lo (.ref n :: st) w' (kc + 1) (ks + N)) : z_J G l y S pc lo st w kc ks := by
  intro p e s m args below meth c R0 hok R H locs ls cst hat hlo hst
  obtain ⟨q, ty, n1, n2, n3, n4, n5, n6, n7, n8, n9⟩ := hN
  have hok2 := hok
  obtain ⟨hx, hb, -, -, -, hown, hts, henv, -, hbs, -⟩ := hok2
  have hKn := henv.1 ci _ n1
  refine W.newcK hx hb hown (hts _ n3) (hts _ n4) (hts _ n5) rfl hd hc (by rw [← n7, hl]; exact hs) hKn.2.1 rfl ?_
  intro H' kC hkC e1 z1 o1
  have hX : z_X G ((fun m => if m = n then H.size else R.1 m), R.2) w' (.inr (ci, fs)) H.size H' :=
    ⟨q, fs, n1, n7, (u_born ty hts n2 hKn hkC e1 n6).to n8, z_dvL n9⟩
  have hV := z_Va (G := G) (R := R) (q := H.size) hw.1 hw.2
  have hat' := z_alloc hbs hat hw.1 hw.2 z1 o1 hX
  have hr : z_V G ((fun m => if m = n then H.size else R.1 m), R.2) w' (.ref n) (.ref H.size) := ⟨⟨_, hw.2.1⟩, by show Value.ref H.size = .ref (if n = n then H.size else R.1 n); rw [if_pos rfl]⟩
  rw [← n7, hl]
  exact h p e s m args below meth c R0 hok _ H' locs ls (.ref H.size :: cst) hat' (z_lom hV hlo) ⟨hr, z_Lm hV hst⟩
theorem j_newa {at9 : ArrayType} {kd n N : Nat} {x : Int32} {ty : FieldType} (hd : decode y.2.1 pc = .ok (.newarray at9, 2)) (hk : z_tyl[kd]? = some ty) (hty : newarray.typeOf at9 = ty) (ha : Cond.arrayClass ty ∈ z_tbl) (hra : va_RA = va_RA ∧ ∀ (U : State) (c : ClassId), va_RA U c ty → U.vm.findClass ("[" ++ ty.toString) = some c) (hx0 : ¬ x < 0) (hN : x.toNatClampNeg = N) (hby : N * componentBytes ty ≤ 536870912) (hdv : defaultValue ty = .int 0) (hw : z_g w n = none ∧ z_al w n (.inl (kd, N, fun _ => .int 0)) w') (hc : kc + 1 ≤ S.2.1) (hs : ks + N ≤ S.2.2.1) (h : z_J G l y S (pc + 2) lo (.ref n :: st) w' (kc + 1) (ks + N)) : z_J G l y S pc lo (.int x :: st) w kc ks := by
  intro p e s m args below meth c R0 hok R H locs ls cst hat hlo hst
  obtain ⟨c0, cs0, rfl, h0, hst1⟩ := z_Lc hst
  have h0 : c0 = .int x := h0
  subst h0
  subst hty
  have hok2 := hok
  obtain ⟨hx, hb, -, -, -, hown, hts, henv, -, hbs, -⟩ := hok2
  refine va_newaK hx hb (hts _ ha) rfl hd rfl hx0 hN hby hc hs rfl ?_
  intro H' cA e1 z1 o1 hAr hNm
  have hcA : cA = z_dA G kd := Option.some.inj (hNm.symm.trans (hra.2 _ _ (henv.2.1 kd _ hk).2))
  subst hcA
  have hX : z_X G ((fun m => if m = n then H.size else R.1 m), R.2) w' (.inl (kd, N, fun _ => .int 0)) H.size H' := ⟨fun _ => .int 0, by rw [e1, hdv], fun j hj => rfl⟩
  have hV := z_Va (G := G) (R := R) (q := H.size) hw.1 hw.2
  have hat' := z_alloc hbs hat hw.1 hw.2 z1 o1 hX
  have hr : z_V G ((fun m => if m = n then H.size else R.1 m), R.2) w' (.ref n) (.ref H.size) := ⟨⟨_, hw.2.1⟩, by show Value.ref H.size = .ref (if n = n then H.size else R.1 n); rw [if_pos rfl]⟩
  exact h p e s m args below meth c R0 hok _ H' locs ls (.ref H.size :: cs0) hat' (z_lom hV hlo) ⟨hr, z_Lm hV hst1⟩
theorem j_anew {idx kd n N : Nat} {x : Int32} {C : String} (hd : decode y.2.1 pc = .ok (.anewarray idx, 3)) (hk : z_tyl[kd]? = some (.object C)) (hcl : Cond.classLink y.1.cls idx C ∈ z_tbl) (hov : Cond.arrayOver (.object C) ∈ z_nst) (hx0 : ¬ x < 0) (hN : x.toNatClampNeg = N) (hby : N * 4 ≤ 536870912) (hw : z_g w n = none ∧ z_al w n (.inl (kd, N, fun _ => .null)) w') (hc : kc + 1 ≤ S.2.1) (hs : ks + N ≤ S.2.2.1) (h : z_J G l y S (pc + 3) lo (.ref n :: st) w' (kc + 1) (ks + N)) : z_J G l y S pc lo (.int x :: st) w kc ks := by
  intro p e s m args below meth c R0 hok R H locs ls cst hat hlo hst
  obtain ⟨c0, cs0, rfl, h0, hst1⟩ := z_Lc hst
  have h0 : c0 = .int x := h0
  subst h0
  subst hN
  have hok2 := hok
  obtain ⟨hx, hb, -, -, -, hown, hts, henv, -, hbs, -⟩ := hok2
  refine W.anew hx hb hown (hts _ hcl) (va_AO.use (henv.2.2.1 _ hov)) rfl hd rfl hx0 hby hc hs fun cA kA comp f1 f2 f3 f4 => ?_
  generalize hH1 : H.push ({ cls := cA, slots := Array.replicate x.toNatClampNeg .null, vm := .none } : Cell) = H1
  have z1 : H1.size = H.size + 1 := by rw [← hH1, Array.size_push]
  have e1 : H1[H.size]? = some (arrV cA x.toNatClampNeg (fun _ => .null)) := by rw [← hH1, Array.getElem?_push_size, ← arrV_new]
  have o1 : ∀ q : Nat, q < H.size → H1[q]? = H[q]? := fun q hq => by rw [← hH1, Array.getElem?_push, if_neg (Nat.ne_of_lt hq)]
  obtain ⟨kA', comp', r1, r2, r3, r4⟩ := (henv.2.1 kd _ hk).2
  have hcA : cA = z_dA G kd := Option.some.inj (f1.symm.trans r4)
  subst hcA
  have hX : z_X G ((fun m => if m = n then H.size else R.1 m), R.2) w' (.inl (kd, x.toNatClampNeg, fun _ => .null)) H.size H1 := ⟨fun _ => .null, e1, fun j hj => rfl⟩
  have hV := z_Va (G := G) (R := R) (q := H.size) hw.1 hw.2
  have hat' := z_alloc hbs hat hw.1 hw.2 z1 o1 hX
  have hr : z_V G ((fun m => if m = n then H.size else R.1 m), R.2) w' (.ref n) (.ref H.size) := ⟨⟨_, hw.2.1⟩, by show Value.ref H.size = .ref (if n = n then H.size else R.1 n); rw [if_pos rfl]⟩
  exact h p e s m args below meth c R0 hok _ H1 locs ls (.ref H.size :: cs0) hat' (z_lom hV hlo) ⟨hr, z_Lm hV hst1⟩
theorem j_aast {a b kd ci n : Nat} {f : Nat → Value} {fs : List Value} {q : vw_C} {i : Int32} (hd : decode y.2.1 pc = .ok (.aastore, 1)) (hg : z_g w a = some (.inl (kd, n, f))) (hk : z_tyl[kd]? = some (.object q.1)) (hgb : z_g w b = some (.inr (ci, fs))) (hq : z_cls[ci]? = some q) (hin : vp_in i n) (hw : z_s w a (.inl (kd, n, z_u f i.toNatClampNeg (.ref b))) = w') (h : z_J G l y S (pc + 1) lo st w' kc ks) : z_J G l y S pc lo (.ref b :: .int i :: .ref a :: st) w kc ks := by
  intro p e s m args below meth c R0 hok R H locs ls cst hat hlo hst
  obtain ⟨c9, cs9, rfl, h9, hst1⟩ := z_Lc hst
  obtain ⟨c0, cs0, rfl, h0, hst2⟩ := z_Lc hst1
  obtain ⟨c1, cs1, rfl, ⟨-, h1⟩, hst3⟩ := z_Lc hst2
  have h9' := h9.2
  have h0 : c0 = .int i := h0
  subst h9'
  subst h0
  subst h1
  subst hw
  obtain ⟨z, z1, z2⟩ := (hat.1.1 a _ hg).1
  obtain ⟨q', gs, x1, x2, ⟨cellV, g1, g2, g3, -⟩, x4⟩ := (hat.1.1 b _ hgb).1
  have hok2 := hok
  obtain ⟨hx, hb, -, -, -, hown, hts, henv, -⟩ := hok2
  have hlt : i.toNatClampNeg < n := Nat.not_le.mp fun q => hin (Or.inr q)
  have hi0 : ¬ i < 0 := fun q => hin (Or.inl q)
  have hcls := (henv.1 ci q hq).2
  obtain ⟨kA, comp, k1, k2, k3, -⟩ := (henv.2.1 kd _ hk).2
  have hcomp : comp = z_dC G ci := Option.some.inj (k3.symm.trans hcls.1)
  subst hcomp
  obtain ⟨kC, hkC, -⟩ := hcls.2
  refine W.aast hx hb z1 (fun q h => by cases h) (fun h => by cases h) k1 k2 rfl hkC ⟨hi0, by show _ < (arrV _ _ _).slots.size; rw [arrV_size]; exact hlt⟩ g1 (fun q h => by rw [g3] at h; cases h) (by rw [g2]; exact hkC) (by rw [g2]; exact va_assign hcls) rfl rfl hd ?_
  intro H' e1 e2 e3
  exact h p e s m args below meth c R0 hok R H' _ ls cs1 (z_write hat hg e2 e3 (z_Xu (z_Vs hg) z2 h9 e1)) (z_lom (z_Vs hg) hlo) (z_Lm (z_Vs hg) hst3)
theorem z_fin {G : z_G} {S : z_S} {R0 R : z_R} {s : State} {w : z_W} {H : Heap} {locs : List Loc} (hat : z_at G S R0 s R w H locs) {t : State} (ht : t.heap = H) : z_P G R w t.heap ∧ z_T R0 S.2.2.2.1 s.heap.size R w ∧ va_F (z_A R0 S.2.2.2.1 s.heap.size) s t :=
  ⟨by rw [ht]; exact hat.1, hat.2.1, by rw [ht]; exact hat.2.2.1, fun q h1 h2 => by rw [ht]; exact hat.2.2.2.1 q h1 h2⟩
theorem j_iret {x : Int32} {ty : FieldType} (hd : decode y.2.1 pc = .ok (.ireturn, 1)) (hr : y.2.2.2.1 = some ty) (hn : narrow ty (.int x) = .int x) (hQ : S.2.2.2.2.1 (some (.int x)) w) (hc : kc ≤ S.2.1) (hs : ks ≤ S.2.2.1) : z_J G l y S pc lo [.int x] w kc ks := by
  intro p e s m args below meth c R0 hok R H locs ls cst hat hlo hst
  obtain ⟨c0, cs0, rfl, h0, hst1⟩ := z_Lc hst
  obtain rfl := z_Ln hst1
  have h0 : c0 = .int x := h0
  subst h0
  obtain ⟨hx, hb, -, hret, hlk, -⟩ := hok
  refine W.widen hc hs (vx_ret ?_)
  exact W.zret (hlocks := hlk) hx hb (hret.trans hr) hn (fun t ht hW => ⟨some (.int x), some (.int x), R, w, rfl, rfl, hQ, z_fin hat ht⟩) hat.2.2.2.2 hd
theorem j_lret {x : Int64} (hd : decode y.2.1 pc = .ok (.lreturn, 1)) (hr : y.2.2.2.1 = some .long) (hQ : S.2.2.2.2.1 (some (.long x)) w) (hc : kc ≤ S.2.1) (hs : ks ≤ S.2.2.1) : z_J G l y S pc lo [.long x] w kc ks := by
  intro p e s m args below meth c R0 hok R H locs ls cst hat hlo hst
  obtain ⟨c0, cs0, rfl, h0, hst1⟩ := z_Lc hst
  obtain rfl := z_Ln hst1
  have h0 : c0 = .long x := h0
  subst h0
  obtain ⟨hx, hb, -, hret, hlk, -⟩ := hok
  refine W.widen hc hs (vx_ret ?_)
  exact W.lret (hlocks := hlk) hx hb (hret.trans hr) (fun t ht hW => ⟨some (.long x), some (.long x), R, w, rfl, rfl, hQ, z_fin hat ht⟩) hat.2.2.2.2 hd
theorem j_vret (hd : decode y.2.1 pc = .ok (.return_, 1)) (hr : y.2.2.2.1 = none) (hQ : S.2.2.2.2.1 none w) (hc : kc ≤ S.2.1) (hs : ks ≤ S.2.2.1) : z_J G l y S pc lo [] w kc ks := by
  intro p e s m args below meth c R0 hok R H locs ls cst hat hlo hst
  obtain rfl := z_Ln hst
  obtain ⟨hx, hb, -, hret, hlk, -⟩ := hok
  refine W.widen hc hs (vx_ret ?_)
  exact W.vret (hlocks := hlk) hx hb (hret.trans hr) (fun t ht hW => ⟨none, none, R, w, rfl, trivial, hQ, z_fin hat ht⟩) hat.2.2.2.2 hd
theorem j_aret {v : Value} {ty : FieldType} (hd : decode y.2.1 pc = .ok (.areturn, 1)) (hr : y.2.2.2.1 = some ty) (hty : (∃ n, ty = .object n) ∨ ∃ t, ty = .array t) (hv : z_ir v = true) (hQ : S.2.2.2.2.1 (some v) w) (hc : kc ≤ S.2.1) (hs : ks ≤ S.2.2.1) : z_J G l y S pc lo [v] w kc ks := by
  intro p e s m args below meth c R0 hok R H locs ls cst hat hlo hst
  obtain ⟨c0, cs0, rfl, h0, hst1⟩ := z_Lc hst
  obtain rfl := z_Ln hst1
  obtain ⟨hx, hb, -, hret, hlk, -⟩ := hok
  refine W.widen hc hs (vx_ret ?_)
  exact W.aret (hlocks := hlk) hx hb (hret.trans hr) hty (z_V_ir hv h0) (fun t ht hW => ⟨some v, some c0, R, w, rfl, h0, hQ, z_fin hat ht⟩) hat.2.2.2.2 hd
theorem z_hA {G : z_G} {S : z_S} {R0 : z_R} {s : State} {p : Program} {m : MethodId} {args : Array Value} {meth : Method} {c : Code} (hok : z_ok G l y S p s m args meth c R0) (q : Nat) (h : z_A R0 S.2.2.2.1 s.heap.size q) : z_b G ≤ q := z_A.b hok.2.2.2.2.2.2.2.2.1 hok.2.2.2.2.2.2.2.2.2.1 h
theorem z_envH {G : z_G} {S : z_S} {R0 R : z_R} {s : State} {p : Program} {m : MethodId} {args : Array Value} {meth : Method} {c : Code} {H : Heap} {locs : List Loc} (hok : z_ok G l y S p s m args meth c R0) (hat : z_at G S R0 s R w H locs) {U : State} (hU : U.heap = H) (hW : s.WarmedH U.vm) : z_env G U :=
  z_envm hok.2.2.2.2.2.2.2.1 hW (fun q hq hb => by rw [hU]; exact hat.2.2.2.1 q hq (fun z => hb (z_hA hok q z)))
theorem z_pre {G : z_G} {S : z_S} {R0 R : z_R} {s : State} {p : Program} {m : MethodId} {args : Array Value} {meth : Method} {c : Code} {H : Heap} {locs : List Loc} {av cav : List Value} (hok : z_ok G l y S p s m args meth c R0) (hat : z_at G S R0 s R w H locs) (hav : z_L (z_V G R w) av cav) (U : State) (hU : U.heap = H) (hW : s.WarmedH U.vm) : z_Pc G R w av cav.toArray U :=
  ⟨⟨cav, rfl, hav⟩, z_envH hok hat hU hW, by rw [hU]; exact hat.1, by rw [hU]; exact Nat.le_trans hok.2.2.2.2.2.2.2.2.2.1 hat.2.2.1⟩
theorem z_after {G : z_G} {S : z_S} {R0 R R' : z_R} {s st₀ t T' : State} {w w' : z_W} {H : Heap} {locs L : List Loc} (hat : z_at G S R0 s R w H locs) (h0 : st₀.heap = H) (e1 : T'.heap = t.heap) (hL : ∀ q ∈ L, z_b G ≤ q.base) (hP : z_P G R' w' t.heap) (hT : z_T R w st₀.heap.size R' w') (hF : va_F (z_A R w st₀.heap.size) st₀ t) : z_at G S R0 s R' w' T'.heap (locs ++ L) := by
  obtain ⟨p, tt, f⟩ := hat
  rw [h0] at hT hF
  obtain ⟨f1, f2⟩ := hF
  rw [h0] at f1 f2
  refine ⟨by rw [e1]; exact hP, tt.tr hT f.1, Nat.le_trans f.1 (by rw [e1]; exact f1), fun q hq hA => ?_, fun x hx => ?_⟩
  · rw [e1, f2 q (Nat.lt_of_lt_of_le hq f.1) ?_]
    · exact f.2.1 q hq hA
    · rintro (⟨n, hn, rfl⟩ | hz)
      · exact hA (tt.A hn)
      · have := f.1
        omega
  · rcases List.mem_append.mp hx with h | h
    · exact f.2.2 x h
    · exact hL x h
theorem z_Oc {P : Value → Value → Prop} {v c : Option Value} {as bs : List Value} (h : z_O P v c) (h2 : z_L P as bs) : z_L P (v.toList ++ as) (c.toList ++ bs) := by
  cases v with
  | none =>
    cases c with
    | none => exact h2
    | some c => exact h.elim
  | some v =>
    cases c with
    | none => exact h.elim
    | some c => exact ⟨h, h2⟩
theorem z_run {S : z_S} {p : Program} {e : Env} {s : State} {m : MethodId} {args : Array Value} {below : List Frame} {meth : Method} {c : Code} {R0 R : z_R} {H : Heap} {locs : List Loc} {ls : Array Slot} {cst crest rest : List Value} {a9 : Array Value} {mc' ms' : Nat} {Q' : Option Value → z_W → Prop} {X' : String → z_W → Prop} (hok : z_ok G l y S p s m args meth c R0) (hat : z_at G S R0 s R w H locs) (hlo : z_lo G R w lo ls c.maxLocals) (hrest : z_L (z_V G R w) rest crest) (ht : y.2.2.2.2 = [])
    (hr : vx_Run p l e (z_rm S.1 S.2.1 S.2.2.1) s m args below meth c H locs kc ks mc' ms' (F0 m pc ls cst) crest (z_Qc G R w Q' a9) (z_Xc G R w X') (fun q => z_b G ≤ q)) (hcs : kc + mc' ≤ S.2.1 ∧ ks + ms' ≤ S.2.2.1) (hx : ∀ E w', X' E w' → S.2.2.2.2.2 E w')
    (kk : ∀ v w', Q' v w' → z_J G l y S (pc + 3) lo (v.toList ++ rest) w' (kc + mc') (ks + ms')) : W p l e (z_rm S.1 S.2.1 S.2.2.1) s m args below meth c H locs kc ks (vx_MQ below (z_Qc G R0 S.2.2.2.1 S.2.2.2.2.1) (z_Xc G R0 S.2.2.2.1 S.2.2.2.2.2) args s S.2.1 S.2.2.1 (fun q => z_b G ≤ q)) (F0 m pc ls cst) := by
  intro T hT X
  rcases hr T hT X with ⟨v, st₀, t, T', L, h0, X', hL, e1, e2, ⟨v', cv, R', w', ho, hO, hQ, hP, hTT, hF⟩, go⟩ | ⟨q, st₀, t, T', L, E, ce, h0, X', hL, e1, e2, ⟨R', w', hX, hP, hTT, hF⟩, hce, hcv, hcl, go⟩
  · cases ho
    have hat' := z_after hat h0 e1 hL hP hTT hF
    obtain ⟨t2, a1, b1⟩ := kk v' w' hQ p e s m args below meth c R0 hok R' T'.heap (locs ++ L) ls (v.toList ++ crest) hat' (z_lom hTT.V hlo) (z_Oc hO (z_Lm hTT.V hrest)) T' rfl X'
    exact ⟨t2, go t2 a1, b1⟩
  · have hat' := z_after hat h0 e1 hL hP hTT hF
    have htab : c.exceptionTable.toList = [] := by rw [hok.2.2.2.2.2.2.2.2.2.2.1, ht]; rfl
    have h9 := vx_out (p := p) (l := l) (e := e) (R := z_rm S.1 S.2.1 S.2.2.1) (s := s) (m := m) (args := args) (below := below) (meth := meth) (c := c) (H := T'.heap) (locs := locs ++ L) (cells := kc + mc') (slots := ks + ms') (free := fun q => z_b G ≤ q) (ls := ls) (rest := crest) (Qc := z_Qc G R0 S.2.2.2.1 S.2.2.2.2.1) (XC := z_Xc G R0 S.2.2.2.1 S.2.2.2.2.2) (pc := pc) (E := E) (ce := ce) (q := q) (mc := S.2.1) (ms := S.2.2.1) (fun x hx => by rw [htab] at hx; cases hx) hok.2.2.2.2.1 (by rw [e1]; exact hce) hcv hcl
      (fun t9 ht9 _ => ⟨R', w', hx E w' hX, z_fin hat' ht9⟩) hat'.2.2.2.2 hcs.1 hcs.2
    obtain ⟨t2, a1, b1⟩ := h9 T' rfl X'
    exact ⟨t2, go.trans a1, b1⟩
def z_okm (y : z_M) (np : Nat) : Prop := y.2.2.2.2 = [] ∧ z_code y ∈ z_tbl ∧ Cond.initialized y.1.cls ∈ z_tbl ∧ (y.1.cls ≠ "java/lang/invoke/MethodHandle" ∧ y.1.cls ≠ "java/lang/invoke/VarHandle") ∧ (parseMethodDescriptor y.1.desc).map (fun d => d.parameters.length) = some np ∧ y.2.2.1 ≤ 21
theorem z_cd {y : z_M} (h : y.2.2.2.2 = []) : z_code y = Cond.code y.1 y.2.1 y.2.2.1 y.2.2.2.1 := by
  obtain ⟨yn, yb, yl, yr, yt⟩ := y
  have h : yt = [] := h
  subst h
  rfl
theorem z_pay {y : z_M} {args : Array Value} {s : State} (hts : ∀ w ∈ z_tbl, w.before args s = true) (hm : z_code y ∈ z_tbl) : ∀ w ∈ z_ws y, ∀ (a' : Array Value) (U : State), s.WarmedH U.vm → w.before a' U = true := by
  intro w hw a' U hW
  have hw2 : w ∈ z_tbl := by
    rcases List.mem_cons.mp hw with rfl | h
    · exact hm
    · exact h
  exact word_at hW (good_of_word (List.mem_filter.mp hw2).2) (hts w hw2)
theorem z_rmle {rk' rk L : Nat} (h1 : rk' + 1 ≤ rk) (h2 : L ≤ 21) : rk' + 1 ≤ rk ∧ 8 + (L + 11) + 40 * rk' ≤ 40 * rk := ⟨h1, by omega⟩
theorem z_np {y : MethodName} {np : Nat} (h : (parseMethodDescriptor y.desc).map (fun d => d.parameters.length) = some np) : ∀ sig, parseMethodDescriptor y.desc = some sig → np = sig.parameters.length := by
  intro sig hs
  rw [hs] at h
  exact (Option.some.inj h).symm
theorem z_CB {S : z_S} {s : State} {args : Array Value} {y y' : z_M} {idx np rk' mc' ms' : Nat} (hts : ∀ w ∈ z_tbl, w.before args s = true) (hm : z_okm y' np) (hrk : rk' + 1 ≤ S.1) (hl : Cond.methodLink y.1.cls idx y'.1 ∈ z_tbl) : CallB (z_rm S.1 S.2.1 S.2.2.1) s args y.1.cls idx y'.1 y'.2.1 y'.2.2.1 y'.2.2.2.1 (z_ws y') (z_rm rk' mc' ms') mc' ms' np := by
  obtain ⟨m1, m2, m3, m4, m5, m6⟩ := hm
  have e := z_cd m1
  refine ⟨rfl, rfl, (z_rmle hrk m6).1, (z_rmle hrk m6).2, z_pay hts m2, by rw [← e]; exact List.mem_cons_self, by rw [← e]; exact hts _ m2, hts _ m3, m4, z_np m5, hts _ hl⟩
theorem z_CBN {S : z_S} {s : State} {args : Array Value} {y y' : z_M} {host : String} {idx np rk' mc' ms' : Nat} (hts : ∀ w ∈ z_tbl, w.before args s = true) (henv : z_env G s) (hm : z_okm y' np) (hrk : rk' + 1 ≤ S.1) (hl : Cond.methodLinkNest y.1.cls idx y'.1 host ∈ z_nst) : va_CN (z_rm S.1 S.2.1 S.2.2.1) s args y.1.cls idx y'.1 host y'.2.1 y'.2.2.1 y'.2.2.2.1 (z_ws y') (z_rm rk' mc' ms') mc' ms' np := by
  obtain ⟨m1, m2, m3, m4, m5, m6⟩ := hm
  have e := z_cd m1
  refine ⟨⟨rfl, rfl, (z_rmle hrk m6).1, (z_rmle hrk m6).2, z_pay hts m2, by rw [← e]; exact List.mem_cons_self⟩, by rw [← e]; exact hts _ m2, hts _ m3, m4, z_np m5, va_Nw.use (w := Cond.methodLinkNest y.1.cls idx y'.1 host) rfl (henv.2.2.1 _ hl)⟩
theorem z_recv {S : z_S} {R0 R : z_R} {s : State} {p : Program} {m : MethodId} {args : Array Value} {meth : Method} {c : Code} {H : Heap} {locs : List Loc} {a ci : Nat} {fs : List Value} {q : vw_C} (hok : z_ok G l y S p s m args meth c R0) (hat : z_at G S R0 s R w H locs) (hg : z_g w a = some (.inr (ci, fs))) (hq : z_cls[ci]? = some q) : ∃ cellB : Cell, H[R.1 a]? = some cellB ∧ cellB.vm.isStatics = false ∧ s.vm.findClass q.1 = some cellB.cls := by
  obtain ⟨q', gs, x1, x2, ⟨cell, o1, o2, o3, -⟩, x4⟩ := (hat.1.1 a _ hg).1
  exact ⟨cell, o1, by rw [o3]; rfl, by rw [o2]; exact (hok.2.2.2.2.2.2.2.1.1 ci q hq).2.1⟩
theorem j_callS {idx np rk' mc' ms' : Nat} {y' : z_M} {as rest : List Value} {Q' : Option Value → z_W → Prop} {X' : String → z_W → Prop} (hd : decode y.2.1 pc = .ok (.invokestatic idx, 3)) (hm : z_okm y' np) (hl : Cond.methodLink y.1.cls idx y'.1 ∈ z_tbl) (hsx : Cond.static y'.1 ∈ z_tbl) (hc : z_Con G l y' rk' mc' ms' w as Q' X') (hrk : rk' + 1 ≤ S.1) (hcs : kc + mc' ≤ S.2.1 ∧ ks + ms' ≤ S.2.2.1) (hstk : st = as.reverse ++ rest) (hW : z_cat rest ≤ 8) (hn : as.length = np) (ht : y.2.2.2.2 = []) (hx : ∀ E w', X' E w' → S.2.2.2.2.2 E w') (kk : ∀ v w', Q' v w' → z_J G l y S (pc + 3) lo (v.toList ++ rest) w' (kc + mc') (ks + ms')) : z_J G l y S pc lo st w kc ks := by
  intro p e s m args below meth c R0 hok R H locs ls cst hat hlo hst
  subst hstk
  obtain ⟨b1, crest, rfl, hb1, hrest⟩ := z_Lapp hst
  have hAs := z_Lrev hb1
  rw [List.reverse_reverse] at hAs
  exact z_run hok hat hlo hrest ht (vx_runS (As := b1.reverse) ⟨hok.1, hok.2.1, rfl, hok.2.2.2.2.2.1, hok.2.2.2.2.2.2.1⟩ (hc R) ⟨z_CB hok.2.2.2.2.2.2.1 hm hrk hl, hok.2.2.2.2.2.2.1 _ hsx⟩ ⟨z_Pc_blind, fun U hU hW9 => z_pre hok hat hAs U hU hW9⟩ rfl (by rw [z_Ll hAs]; exact hn) hlo.choose_spec.1.1 (by rw [List.reverse_reverse]) (lv_room (by rw [z_Lcs hrest]; exact hW)) hd hcs) hcs hx kk
theorem j_callSN {idx np rk' mc' ms' : Nat} {y' : z_M} {as rest : List Value} {Q' : Option Value → z_W → Prop} {X' : String → z_W → Prop} {host : String} (hd : decode y.2.1 pc = .ok (.invokestatic idx, 3)) (hm : z_okm y' np) (hl : Cond.methodLinkNest y.1.cls idx y'.1 host ∈ z_nst) (hsx : Cond.static y'.1 ∈ z_tbl) (hc : z_Con G l y' rk' mc' ms' w as Q' X') (hrk : rk' + 1 ≤ S.1) (hcs : kc + mc' ≤ S.2.1 ∧ ks + ms' ≤ S.2.2.1) (hstk : st = as.reverse ++ rest) (hW : z_cat rest ≤ 8) (hn : as.length = np) (ht : y.2.2.2.2 = []) (hx : ∀ E w', X' E w' → S.2.2.2.2.2 E w') (kk : ∀ v w', Q' v w' → z_J G l y S (pc + 3) lo (v.toList ++ rest) w' (kc + mc') (ks + ms')) : z_J G l y S pc lo st w kc ks := by
  intro p e s m args below meth c R0 hok R H locs ls cst hat hlo hst
  subst hstk
  obtain ⟨b1, crest, rfl, hb1, hrest⟩ := z_Lapp hst
  have hAs := z_Lrev hb1
  rw [List.reverse_reverse] at hAs
  exact z_run hok hat hlo hrest ht (vx_runSN (As := b1.reverse) ⟨hok.1, hok.2.1, rfl, hok.2.2.2.2.2.1, hok.2.2.2.2.2.2.1⟩ (hc R) ⟨z_CBN hok.2.2.2.2.2.2.1 hok.2.2.2.2.2.2.2.1 hm hrk hl, hok.2.2.2.2.2.2.1 _ hsx, trivial⟩ ⟨z_Pc_blind, fun U hU hW9 => z_pre hok hat hAs U hU hW9⟩ rfl (by rw [z_Ll hAs]; exact hn) hlo.choose_spec.1.1 (by rw [List.reverse_reverse]) (lv_room (by rw [z_Lcs hrest]; exact hW)) hd hcs) hcs hx kk
theorem j_callV {idx np rk' mc' ms' : Nat} {y' : z_M} {as rest : List Value} {Q' : Option Value → z_W → Prop} {X' : String → z_W → Prop} {a ci : Nat} {fs : List Value} {q : vw_C} (hd : decode y.2.1 pc = .ok (.invokevirtual idx, 3)) (hm : z_okm y' np) (hl : Cond.methodLink y.1.cls idx y'.1 ∈ z_tbl) (hi : Cond.instanceMethod y'.1 ∈ z_tbl) (hse : Cond.selects q.1 y'.1 y'.1 ∈ z_tbl) (hg : z_g w a = some (.inr (ci, fs))) (hq : z_cls[ci]? = some q) (hc : z_Con G l y' rk' mc' ms' w (.ref a :: as) Q' X') (hrk : rk' + 1 ≤ S.1) (hcs : kc + mc' ≤ S.2.1 ∧ ks + ms' ≤ S.2.2.1) (hstk : st = as.reverse ++ .ref a :: rest) (hW : z_cat rest ≤ 8) (hn : as.length = np) (ht : y.2.2.2.2 = []) (hx : ∀ E w', X' E w' → S.2.2.2.2.2 E w') (kk : ∀ v w', Q' v w' → z_J G l y S (pc + 3) lo (v.toList ++ rest) w' (kc + mc') (ks + ms')) : z_J G l y S pc lo st w kc ks := by
  intro p e s m args below meth c R0 hok R H locs ls cst hat hlo hst
  subst hstk
  obtain ⟨b1, c2, rfl, hb1, hst⟩ := z_Lapp hst
  obtain ⟨c1, crest, rfl, h1, hrest⟩ := z_Lc hst
  have h1' := h1.2
  subst h1'
  have hAs := z_Lrev hb1
  rw [List.reverse_reverse] at hAs
  exact z_run hok hat hlo hrest ht (vx_runV (C := q.1) (As := b1.reverse) ⟨hok.1, hok.2.1, rfl, hok.2.2.2.2.2.1, hok.2.2.2.2.2.2.1⟩ (hc R) ⟨z_CB hok.2.2.2.2.2.2.1 hm hrk hl, hok.2.2.2.2.2.2.1 _ hi, hok.2.2.2.2.2.2.1 _ hse⟩ ⟨z_Pc_blind, z_recv hok hat hg hq, fun U hU hW9 => z_pre hok hat (av := .ref a :: as) (cav := .ref (R.1 a) :: b1.reverse) ⟨h1, hAs⟩ U hU hW9⟩ rfl (by rw [z_Ll hAs]; exact hn) hlo.choose_spec.1.1 (by rw [List.reverse_reverse]) (lv_room (by rw [z_Lcs hrest]; exact hW)) hd hcs) hcs hx kk
theorem j_callVN {idx np rk' mc' ms' : Nat} {y' : z_M} {as rest : List Value} {Q' : Option Value → z_W → Prop} {X' : String → z_W → Prop} {host : String} {a ci : Nat} {fs : List Value} {q : vw_C} (hd : decode y.2.1 pc = .ok (.invokevirtual idx, 3)) (hm : z_okm y' np) (hl : Cond.methodLinkNest y.1.cls idx y'.1 host ∈ z_nst) (hi : Cond.instanceMethod y'.1 ∈ z_tbl) (hse : Cond.selects q.1 y'.1 y'.1 ∈ z_tbl) (hg : z_g w a = some (.inr (ci, fs))) (hq : z_cls[ci]? = some q) (hc : z_Con G l y' rk' mc' ms' w (.ref a :: as) Q' X') (hrk : rk' + 1 ≤ S.1) (hcs : kc + mc' ≤ S.2.1 ∧ ks + ms' ≤ S.2.2.1) (hstk : st = as.reverse ++ .ref a :: rest) (hW : z_cat rest ≤ 8) (hn : as.length = np) (ht : y.2.2.2.2 = []) (hx : ∀ E w', X' E w' → S.2.2.2.2.2 E w') (kk : ∀ v w', Q' v w' → z_J G l y S (pc + 3) lo (v.toList ++ rest) w' (kc + mc') (ks + ms')) : z_J G l y S pc lo st w kc ks := by
  intro p e s m args below meth c R0 hok R H locs ls cst hat hlo hst
  subst hstk
  obtain ⟨b1, c2, rfl, hb1, hst⟩ := z_Lapp hst
  obtain ⟨c1, crest, rfl, h1, hrest⟩ := z_Lc hst
  have h1' := h1.2
  subst h1'
  have hAs := z_Lrev hb1
  rw [List.reverse_reverse] at hAs
  exact z_run hok hat hlo hrest ht (vx_runVN (C := q.1) (As := b1.reverse) ⟨hok.1, hok.2.1, rfl, hok.2.2.2.2.2.1, hok.2.2.2.2.2.2.1⟩ (hc R) ⟨z_CBN hok.2.2.2.2.2.2.1 hok.2.2.2.2.2.2.2.1 hm hrk hl, hok.2.2.2.2.2.2.1 _ hi, hok.2.2.2.2.2.2.1 _ hse⟩ ⟨z_Pc_blind, z_recv hok hat hg hq, fun U hU hW9 => z_pre hok hat (av := .ref a :: as) (cav := .ref (R.1 a) :: b1.reverse) ⟨h1, hAs⟩ U hU hW9⟩ rfl (by rw [z_Ll hAs]; exact hn) hlo.choose_spec.1.1 (by rw [List.reverse_reverse]) (lv_room (by rw [z_Lcs hrest]; exact hW)) hd hcs) hcs hx kk
theorem j_callI {idx np rk' mc' ms' : Nat} {y' : z_M} {as rest : List Value} {Q' : Option Value → z_W → Prop} {X' : String → z_W → Prop} {a : Nat} (hd : decode y.2.1 pc = .ok (.invokespecial idx, 3)) (hm : z_okm y' np) (hno : y'.2.2.2.1 = none) (hl : Cond.methodLink y.1.cls idx y'.1 ∈ z_tbl) (hi : Cond.instanceMethod y'.1 ∈ z_tbl) (hin : y'.1.name = "<init>") (hc : z_Con G l y' rk' mc' ms' w (.ref a :: as) Q' X') (hrk : rk' + 1 ≤ S.1) (hcs : kc + mc' ≤ S.2.1 ∧ ks + ms' ≤ S.2.2.1) (hstk : st = as.reverse ++ .ref a :: rest) (hW : z_cat rest ≤ 8) (hn : as.length = np) (ht : y.2.2.2.2 = []) (hx : ∀ E w', X' E w' → S.2.2.2.2.2 E w') (kk : ∀ v w', Q' v w' → z_J G l y S (pc + 3) lo (v.toList ++ rest) w' (kc + mc') (ks + ms')) : z_J G l y S pc lo st w kc ks := by
  intro p e s m args below meth c R0 hok R H locs ls cst hat hlo hst
  subst hstk
  obtain ⟨b1, c2, rfl, hb1, hst⟩ := z_Lapp hst
  obtain ⟨c1, crest, rfl, h1, hrest⟩ := z_Lc hst
  have h1' := h1.2
  subst h1'
  have hAs := z_Lrev hb1
  rw [List.reverse_reverse] at hAs
  have h5 := z_CB (S := S) (y := y) (mc' := mc') (ms' := ms') hok.2.2.2.2.2.2.1 hm hrk hl
  rw [hno] at h5
  exact z_run hok hat hlo hrest ht (vx_runI (As := b1.reverse) ⟨hok.1, hok.2.1, rfl, hok.2.2.2.2.2.1, hok.2.2.2.2.2.2.1⟩ (hc R) ⟨h5, hin, hok.2.2.2.2.2.2.1 _ hi⟩ ⟨z_Pc_blind, fun U hU hW9 => z_pre hok hat (av := .ref a :: as) (cav := .ref (R.1 a) :: b1.reverse) ⟨h1, hAs⟩ U hU hW9⟩ rfl (by rw [z_Ll hAs]; exact hn) hlo.choose_spec.1.1 (by rw [List.reverse_reverse]) (lv_room (by rw [z_Lcs hrest]; exact hW)) hd hcs) hcs hx kk
theorem j_callIN {idx np rk' mc' ms' : Nat} {y' : z_M} {as rest : List Value} {Q' : Option Value → z_W → Prop} {X' : String → z_W → Prop} {host : String} {a : Nat} (hd : decode y.2.1 pc = .ok (.invokespecial idx, 3)) (hm : z_okm y' np) (hno : y'.2.2.2.1 = none) (hl : Cond.methodLinkNest y.1.cls idx y'.1 host ∈ z_nst) (hi : Cond.instanceMethod y'.1 ∈ z_tbl) (hin : y'.1.name = "<init>") (hc : z_Con G l y' rk' mc' ms' w (.ref a :: as) Q' X') (hrk : rk' + 1 ≤ S.1) (hcs : kc + mc' ≤ S.2.1 ∧ ks + ms' ≤ S.2.2.1) (hstk : st = as.reverse ++ .ref a :: rest) (hW : z_cat rest ≤ 8) (hn : as.length = np) (ht : y.2.2.2.2 = []) (hx : ∀ E w', X' E w' → S.2.2.2.2.2 E w') (kk : ∀ v w', Q' v w' → z_J G l y S (pc + 3) lo (v.toList ++ rest) w' (kc + mc') (ks + ms')) : z_J G l y S pc lo st w kc ks := by
  intro p e s m args below meth c R0 hok R H locs ls cst hat hlo hst
  subst hstk
  obtain ⟨b1, c2, rfl, hb1, hst⟩ := z_Lapp hst
  obtain ⟨c1, crest, rfl, h1, hrest⟩ := z_Lc hst
  have h1' := h1.2
  subst h1'
  have hAs := z_Lrev hb1
  rw [List.reverse_reverse] at hAs
  have h5 := z_CBN (S := S) (y := y) (mc' := mc') (ms' := ms') hok.2.2.2.2.2.2.1 hok.2.2.2.2.2.2.2.1 hm hrk hl
  rw [hno] at h5
  exact z_run hok hat hlo hrest ht (vx_runIN (As := b1.reverse) ⟨hok.1, hok.2.1, rfl, hok.2.2.2.2.2.1, hok.2.2.2.2.2.2.1⟩ (hc R) ⟨h5, hin, hok.2.2.2.2.2.2.1 _ hi⟩ ⟨z_Pc_blind, fun U hU hW9 => z_pre hok hat (av := .ref a :: as) (cav := .ref (R.1 a) :: b1.reverse) ⟨h1, hAs⟩ U hU hW9⟩ rfl (by rw [z_Ll hAs]; exact hn) hlo.choose_spec.1.1 (by rw [List.reverse_reverse]) (lv_room (by rw [z_Lcs hrest]; exact hW)) hd hcs) hcs hx kk
def z_CU (own C owner : String) (idx : Nat) (x : MethodName) (y' : z_M) : Prop := Cond.methodLink own idx x ∈ z_tbl ∧ Cond.sameMethod x.cls owner x.name x.desc ∈ z_tbl ∧ (y'.1 = ⟨owner, x.name, x.desc⟩ ∨ Cond.declares ⟨owner, x.name, x.desc⟩ ∈ z_nst) ∧ Cond.selects C x y'.1 ∈ z_tbl ∧ Cond.instanceMethod y'.1 ∈ z_tbl ∧ (owner ≠ "java/lang/invoke/MethodHandle" ∧ owner ≠ "java/lang/invoke/VarHandle") ∧ x.desc = y'.1.desc
theorem j_callU {idx np rk' mc' ms' : Nat} {y' : z_M} {as rest : List Value} {Q' : Option Value → z_W → Prop} {X' : String → z_W → Prop} {owner : String} {x : MethodName} {a ci : Nat} {fs : List Value} {q : vw_C} (hd : decode y.2.1 pc = .ok (.invokevirtual idx, 3)) (hm : z_okm y' np) (hl : z_CU y.1.cls q.1 owner idx x y') (hg : z_g w a = some (.inr (ci, fs))) (hq : z_cls[ci]? = some q) (hc : z_Con G l y' rk' mc' ms' w (.ref a :: as) Q' X') (hrk : rk' + 1 ≤ S.1) (hcs : kc + mc' ≤ S.2.1 ∧ ks + ms' ≤ S.2.2.1) (hstk : st = as.reverse ++ .ref a :: rest) (hW : z_cat rest ≤ 8) (hn : as.length = np) (ht : y.2.2.2.2 = []) (hx : ∀ E w', X' E w' → S.2.2.2.2.2 E w') (kk : ∀ v w', Q' v w' → z_J G l y S (pc + 3) lo (v.toList ++ rest) w' (kc + mc') (ks + ms')) : z_J G l y S pc lo st w kc ks := by
  intro p e s m args below meth c R0 hok R H locs ls cst hat hlo hst
  subst hstk
  obtain ⟨b1, c2, rfl, hb1, hst⟩ := z_Lapp hst
  obtain ⟨c1, crest, rfl, h1, hrest⟩ := z_Lc hst
  have h1' := h1.2
  subst h1'
  have hAs := z_Lrev hb1
  rw [List.reverse_reverse] at hAs
  obtain ⟨u1, u2, u3, u4, u5, u6, u7⟩ := hl
  have hts := hok.2.2.2.2.2.2.1
  have henv := hok.2.2.2.2.2.2.2.1
  obtain ⟨m1, m2, m3, m4, m5, m6⟩ := hm
  have ecd := z_cd m1
  have cw : va_CU (z_rm S.1 S.2.1 S.2.2.1) s args y.1.cls q.1 owner idx x y'.1 y'.2.1 y'.2.2.1 y'.2.2.2.1 (z_ws y') (z_rm rk' mc' ms') mc' ms' np := by
    refine ⟨⟨rfl, rfl, (z_rmle hrk m6).1, (z_rmle hrk m6).2, z_pay hts m2, by rw [← ecd]; exact List.mem_cons_self⟩, by rw [← ecd]; exact hts _ m2, hts _ m3, u6, ?_, hts _ u1, hts _ u2, ?_, hts _ u4, hts _ u5⟩
    · rw [u7]; exact z_np m5
    · rcases u3 with z | z
      · rw [← z]; exact va_Decl.of (hts _ u5) (by rw [← ecd]; exact hts _ m2)
      · exact va_Decl.abs (henv.2.2.1 _ z)
  exact z_run hok hat hlo hrest ht (vx_runU (C := q.1) (As := b1.reverse) ⟨hok.1, hok.2.1, rfl, hok.2.2.2.2.2.1, hok.2.2.2.2.2.2.1⟩ (hc R) cw ⟨z_Pc_blind, z_recv hok hat hg hq, fun U hU hW9 => z_pre hok hat (av := .ref a :: as) (cav := .ref (R.1 a) :: b1.reverse) ⟨h1, hAs⟩ U hU hW9⟩ rfl (by rw [z_Ll hAs]; exact hn) hlo.choose_spec.1.1 (by rw [List.reverse_reverse]) (lv_room (by rw [z_Lcs hrest]; exact hW)) hd hcs) hcs hx kk
theorem z_Pk {G : z_G} {R : z_R} {w : z_W} {H H' : Heap} (h : z_P G R w H) (hk : ∀ q : Nat, q < H.size → H'[q]? = H[q]?) : z_P G R w H' := by
  refine ⟨fun n e hn => ⟨(h.1 n e hn).1.kept (fun _ _ hv => hv) (hk _ (h.1 n e hn).1.lt), (h.1 n e hn).2⟩, h.2.1, fun q b hq => ⟨(h.2.2 q b hq).1.kept (hk q ?_), (h.2.2 q b hq).2⟩⟩
  obtain ⟨cell, h9, -⟩ := (h.2.2 q b hq).1
  exact (Array.getElem?_eq_some_iff.mp h9).1
def z_thr (own : String) (ik ic : Nat) (cls : String) (names : List String) : Prop := Bundle.fit cls = true ∧ (∀ n ∈ names, Bundle.fit n = true) ∧ Cond.classLink own ik cls ∈ z_tbl ∧ Cond.initialized cls ∈ z_tbl ∧ (∀ w ∈ vx_atS own ic cls names, w ∈ z_tbl ∨ (w ∈ z_nst ∧ w.onTables = true)) ∧ (∀ w ∈ vx_atS own ic cls names, vx_ot w = true)
theorem j_throwS {ik is ic : Nat} {cls text : String} {names : List String} (ht : y.2.2.2.2 = []) (hth : z_thr y.1.cls ik ic cls names) (hstr : (y.1.cls, is, text) ∈ z_strs) (d0 : decode y.2.1 pc = .ok (.new ik, 3)) (d3 : decode y.2.1 (pc + 3) = .ok (.dup, 1)) (d4 : decode y.2.1 (pc + 4) = .ok (.ldc is, 2)) (d6 : decode y.2.1 (pc + 6) = .ok (.invokespecial ic, 3)) (d9 : decode y.2.1 (pc + 9) = .ok (.athrow, 1))
    (hrf : names.length + 3 < S.1) (hrl : z_cat st + (13 * (names.length + 1) + 43) ≤ 40 * S.1) (hX : S.2.2.2.2.2 cls w) (hc : kc + 1 ≤ S.2.1) (hs : ks + 6 ≤ S.2.2.1) : z_J G l y S pc lo st w kc ks := by
  intro p e s m args below meth c R0 hok R H locs ls cst hat hlo hst
  obtain ⟨t1, t2, t3, t4, t5, t6⟩ := hth
  have hok2 := hok
  obtain ⟨hx, hb, -, -, hlk, hown, hts, henv, hP0, hbs, htab, -, hl⟩ := hok2
  obtain ⟨sa, hsa⟩ := henv.2.2.2.1 _ hstr
  have htab : c.exceptionTable.toList = [] := by rw [htab, ht]; rfl
  refine vx_throwS (A := fun q => z_b G ≤ q) hx hb hl hown t1 t2 (hts _ t3) (hts _ t4) hsa (fun w9 hw9 => ?_) ?_ henv.2.2.2.2.2.1 henv.2.2.2.2.2.2.1 ⟨hat.2.2.1, fun q hq hA => hat.2.2.2.1 q hq (fun z => hA (z_hA hok q z)), hat.2.2.2.2⟩ hlo.choose_spec.1.1 d0 d3 d4 d6 d9 (fun x hx => by rw [htab] at hx; cases hx) hrf (by rw [z_Lcs hst]; exact hrl) hc hs hlk ?_ hat.2.2.2.2 hc hs
  · rcases t5 w9 hw9 with z | z
    · exact hts _ z
    · exact va_Nw.use z.2 (henv.2.2.1 _ z.1)
  · intro w9 hw9
    rcases List.mem_cons.mp hw9 with rfl | hw9
    · rfl
    · rcases List.mem_cons.mp hw9 with rfl | hw9
      · rfl
      · exact t6 w9 hw9
  · intro t hal hsz hk
    have hP9 := z_Pk hat.1 hk
    exact ⟨R, w, hX, hP9, hat.2.1, Nat.le_trans hat.2.2.1 hsz, fun q h1 h2 => (hk q (Nat.lt_of_lt_of_le h1 hat.2.2.1)).trans (hat.2.2.2.1 q h1 h2)⟩
theorem j_throwSW {ik is ic : Nat} {cls text : String} {names : List String} (ht : y.2.2.2.2 = []) (hth : z_thr y.1.cls ik ic cls names) (hstr : (y.1.cls, is, text) ∈ z_strs) (d0 : decode y.2.1 pc = .ok (.new ik, 3)) (d3 : decode y.2.1 (pc + 3) = .ok (.dup, 1)) (d4 : decode y.2.1 (pc + 4) = .ok (.ldc_w is, 3)) (d6 : decode y.2.1 (pc + 7) = .ok (.invokespecial ic, 3)) (d9 : decode y.2.1 (pc + 10) = .ok (.athrow, 1))
    (hrf : names.length + 3 < S.1) (hrl : z_cat st + (13 * (names.length + 1) + 43) ≤ 40 * S.1) (hX : S.2.2.2.2.2 cls w) (hc : kc + 1 ≤ S.2.1) (hs : ks + 6 ≤ S.2.2.1) : z_J G l y S pc lo st w kc ks := by
  intro p e s m args below meth c R0 hok R H locs ls cst hat hlo hst
  obtain ⟨t1, t2, t3, t4, t5, t6⟩ := hth
  have hok2 := hok
  obtain ⟨hx, hb, -, -, hlk, hown, hts, henv, hP0, hbs, htab, -, hl⟩ := hok2
  obtain ⟨sa, hsa⟩ := henv.2.2.2.1 _ hstr
  have htab : c.exceptionTable.toList = [] := by rw [htab, ht]; rfl
  refine vx_throwSW (A := fun q => z_b G ≤ q) hx hb hl hown t1 t2 (hts _ t3) (hts _ t4) hsa (fun w9 hw9 => ?_) ?_ henv.2.2.2.2.2.1 henv.2.2.2.2.2.2.1 ⟨hat.2.2.1, fun q hq hA => hat.2.2.2.1 q hq (fun z => hA (z_hA hok q z)), hat.2.2.2.2⟩ hlo.choose_spec.1.1 d0 d3 d4 d6 d9 (fun x hx => by rw [htab] at hx; cases hx) hrf (by rw [z_Lcs hst]; exact hrl) hc hs hlk ?_ hat.2.2.2.2 hc hs
  · rcases t5 w9 hw9 with z | z
    · exact hts _ z
    · exact va_Nw.use z.2 (henv.2.2.1 _ z.1)
  · intro w9 hw9
    rcases List.mem_cons.mp hw9 with rfl | hw9
    · rfl
    · rcases List.mem_cons.mp hw9 with rfl | hw9
      · rfl
      · exact t6 w9 hw9
  · intro t hal hsz hk
    have hP9 := z_Pk hat.1 hk
    exact ⟨R, w, hX, hP9, hat.2.1, Nat.le_trans hat.2.2.1 hsz, fun q h1 h2 => (hk q (Nat.lt_of_lt_of_le h1 hat.2.2.1)).trans (hat.2.2.2.1 q h1 h2)⟩
end ZC
end ZM4
section ZM5
section ZF
def z_no : Nat → Option z_E := fun _ => none
def z_rn (th : List Nat) (v : Value) : Value := match v with
  | .ref i => (match th[i]? with
    | some n => .ref n
    | none => .double 0)
  | v => v
def z_re (th : List Nat) (e : z_E) : z_E := match e with
  | .inl x => .inl (x.1, x.2.1, fun j => z_rn th (x.2.2 j))
  | .inr o => .inr (o.1, o.2.map (z_rn th))
def z_ss (w : z_W) : List Nat → List z_E → z_W
  | n :: th, e :: es => z_ss (z_s w n e) th es
  | _, _ => w
theorem z_ss_d : ∀ {th : List Nat} {es : List z_E} {w : z_W}, (∀ k ∈ th, z_d w k) → ∀ n, z_d (z_ss w th es) n ↔ z_d w n
  | [], es, w, _, n => by unfold z_ss; exact Iff.rfl
  | k :: th, [], w, _, n => by unfold z_ss; exact Iff.rfl
  | k :: th, e :: es, w, h, n => by
    obtain ⟨e0, he0⟩ := h k List.mem_cons_self
    unfold z_ss
    rw [z_ss_d (fun k' hk' => (z_ds he0 k').mpr (h k' (List.mem_cons_of_mem _ hk'))) n]
    exact z_ds he0 n
theorem z_ss_ne : ∀ {th : List Nat} {es : List z_E} {w : z_W} {n : Nat}, n ∉ th → z_g (z_ss w th es) n = z_g w n
  | [], es, w, n, _ => by unfold z_ss; rfl
  | k :: th, [], w, n, _ => by unfold z_ss; rfl
  | k :: th, e :: es, w, n, h => by
    unfold z_ss
    rw [z_ss_ne (fun z => h (List.mem_cons_of_mem _ z)), z_gs_ne (fun z => h (by rw [z]; exact List.mem_cons_self))]
theorem z_ss_at : ∀ {th : List Nat} {es : List z_E} {w : z_W} {n i : Nat} {e : z_E}, th.Nodup → (∀ k ∈ th, z_d w k) → th[i]? = some n → es[i]? = some e → z_g (z_ss w th es) n = some e
  | [], es, w, n, i, e, _, _, h1, _ => by simp at h1
  | k :: th, [], w, n, i, e, _, _, _, h2 => by simp at h2
  | k :: th, e0 :: es, w, n, i, e, hnd, hd, h1, h2 => by
    obtain ⟨e1, he1⟩ := hd k List.mem_cons_self
    have hnd' := List.nodup_cons.mp hnd
    unfold z_ss
    cases i with
    | zero =>
      have h1 : k = n := Option.some.inj h1
      have h2 : e0 = e := Option.some.inj h2
      subst h1
      subst h2
      rw [z_ss_ne hnd'.1]
      exact z_gs_self he1
    | succ i =>
      exact z_ss_at hnd'.2 (fun k' hk' => (z_ds he1 k').mpr (hd k' (List.mem_cons_of_mem _ hk'))) h1 h2
theorem z_ndi : ∀ {th : List Nat} {i j n : Nat}, th.Nodup → th[i]? = some n → th[j]? = some n → i = j
  | [], i, j, n, _, h, _ => by simp at h
  | k :: th, 0, 0, n, _, _, _ => rfl
  | k :: th, 0, j + 1, n, hnd, h1, h2 => by
    have h1 : k = n := Option.some.inj h1
    subst h1
    have h3 : k ∈ th := List.mem_of_getElem? (l := th) (i := j) h2
    exact absurd h3 (List.nodup_cons.mp hnd).1
  | k :: th, i + 1, 0, n, hnd, h1, h2 => by
    have h2 : k = n := Option.some.inj h2
    subst h2
    have h3 : k ∈ th := List.mem_of_getElem? (l := th) (i := i) h1
    exact absurd h3 (List.nodup_cons.mp hnd).1
  | k :: th, i + 1, j + 1, n, hnd, h1, h2 => congrArg (· + 1) (z_ndi (List.nodup_cons.mp hnd).2 h1 h2)
theorem z_gL {L : List z_E} {n : Nat} {e : z_E} (h : z_g (L, z_no) n = some e) : L[n]? = some e := by
  cases hb : Nat.blt n 1000 <;> simp only [z_g, hb, cond] at h
  · cases h
  · exact h
theorem z_Lg' {L : List z_E} {n : Nat} {e : z_E} (hl : L.length ≤ 1000) (h : L[n]? = some e) : z_g (L, z_no) n = some e := by
  have hn := (List.getElem?_eq_some_iff.mp h).1
  have hb : Nat.blt n 1000 = true := Nat.ble_eq_true_of_le (by omega)
  simp only [z_g, hb, cond]
  exact h
theorem z_Lmp {P P' : Value → Value → Prop} {f : Value → Value} (hP : ∀ a b, P (f a) b → P' a b) : ∀ {as bs : List Value}, z_L P (as.map f) bs → z_L P' as bs
  | [], [], _ => trivial
  | _ :: _, [], h => h.elim
  | [], _ :: _, h => h.elim
  | a :: as, b :: bs, h => ⟨hP a b h.1, z_Lmp hP (as := as) (bs := bs) h.2⟩
theorem z_Lpm {P P' : Value → Value → Prop} {f : Value → Value} (hP : ∀ a b, P a b → P' (f a) b) : ∀ {as bs : List Value}, z_L P as bs → z_L P' (as.map f) bs
  | [], [], _ => trivial
  | _ :: _, [], h => h.elim
  | [], _ :: _, h => h.elim
  | a :: as, b :: bs, h => ⟨hP a b h.1, z_Lpm hP (as := as) (bs := bs) h.2⟩
def z_CF (G : z_G) (l : Launch) (y : z_M) (rk mc ms : Nat) (L0 : List z_E) (av : List Value) (Q : Option Value → List z_E → Prop) : Prop :=
  z_Con G l y rk mc ms (L0, z_no) av (fun v w => w.2 = z_no ∧ w.1.length = L0.length ∧ Q v w.1) (fun _ _ => False)
set_option maxHeartbeats 4000000 in
theorem z_frame {G : z_G} {l : Launch} {y : z_M} {rk mc ms : Nat} {L0 : List z_E} {av : List Value} {Q : Option Value → List z_E → Prop} {w : z_W} (th : List Nat) (hth : th.map (z_g w) = L0.map (fun e => some (z_re th e))) (hnd : th.Nodup) (hl : L0.length ≤ 1000) (h : z_CF G l y rk mc ms L0 av Q) :
    z_Con G l y rk mc ms w (av.map (z_rn th)) (fun v w' => ∃ (v0 : Option Value) (L' : List z_E), Q v0 L' ∧ v = v0.map (z_rn th) ∧ w' = z_ss w th (L'.map (z_re th))) (fun _ _ => False) := by
  intro R0
  have hM := h ((fun i => R0.1 (th.getD i 0)), R0.2)
  intro p e ha hc hk s m args below hf happ hPc hK
  obtain ⟨⟨cav, rfl, hav⟩, henv, hP, hb⟩ := hPc
  have hlen : th.length = L0.length := by have := congrArg List.length hth; simpa using this
  have hat : ∀ (i : Nat) (e : z_E), L0[i]? = some e → ∃ n, th[i]? = some n ∧ z_g w n = some (z_re th e) := by
    intro i e he
    have h1 : (th.map (z_g w))[i]? = (L0.map (fun e => some (z_re th e)))[i]? := by rw [hth]
    rw [List.getElem?_map, List.getElem?_map, he] at h1
    cases hi : th[i]? with
    | none => rw [hi] at h1; cases h1
    | some n => rw [hi] at h1; exact ⟨n, rfl, Option.some.inj h1⟩
  have hget : ∀ {i n : Nat}, th[i]? = some n → th.getD i 0 = n := by
    intro i n hi
    rw [List.getD_eq_getElem?_getD, hi]
    rfl
  have hdi : ∀ i, z_d (L0, z_no) i → ∃ n, th[i]? = some n ∧ z_d w n := by
    intro i ⟨e, he⟩
    obtain ⟨n, h1, h2⟩ := hat i e (z_gL he)
    exact ⟨n, h1, ⟨_, h2⟩⟩
  have hid : ∀ {i n : Nat}, th[i]? = some n → z_d (L0, z_no) i := by
    intro i n hi
    have h1 : i < L0.length := by rw [← hlen]; exact (List.getElem?_eq_some_iff.mp hi).1
    exact ⟨L0[i], z_Lg' hl (List.getElem?_eq_getElem h1)⟩
  have hbs : ∀ v c, z_V G R0 w (z_rn th v) c → z_V G ((fun i => R0.1 (th.getD i 0)), R0.2) (L0, z_no) v c := by
    intro v c hv
    cases v with
    | int x => exact hv
    | long x => exact hv
    | null => exact hv
    | float b => exact hv
    | retAddr k => exact hv
    | double b => exact hv
    | ref i =>
      cases hi : th[i]? with
      | none => simp only [z_rn, hi] at hv; exact hv.elim
      | some n =>
        simp only [z_rn, hi] at hv
        refine ⟨hid hi, ?_⟩
        show c = .ref (R0.1 (th.getD i 0))
        rw [hget hi]
        exact hv.2
  have hP0 : z_P G ((fun i => R0.1 (th.getD i 0)), R0.2) (L0, z_no) s.heap := by
    refine ⟨fun n e he => ?_, fun a b ha hb hab => ?_, fun q b hq => ⟨(hP.2.2 q b hq).1, fun n hn => ?_⟩⟩
    · obtain ⟨k, h1, h2⟩ := hat n e (z_gL he)
      obtain ⟨h3, h4⟩ := hP.1 k _ h2
      show z_X _ _ _ _ (R0.1 (th.getD n 0)) _ ∧ _ ≤ R0.1 (th.getD n 0)
      rw [hget h1]
      refine ⟨?_, h4⟩
      cases e with
      | inl x =>
        obtain ⟨z, z1, z2⟩ := h3
        exact ⟨z, z1, fun j hj => hbs _ _ (z2 j hj)⟩
      | inr o =>
        obtain ⟨q, gs, x1, x2, x3, x4⟩ := h3
        exact ⟨q, gs, x1, by rw [← x2]; exact (List.length_map _).symm, x3, z_Lmp hbs x4⟩
    · obtain ⟨k1, a1, a2⟩ := hdi a ha
      obtain ⟨k2, b1, b2⟩ := hdi b hb
      have hab : R0.1 (th.getD a 0) = R0.1 (th.getD b 0) := hab
      rw [hget a1, hget b1] at hab
      have := hP.2.1 k1 k2 a2 b2 hab
      subst this
      exact z_ndi hnd a1 b1
    · obtain ⟨k1, a1, a2⟩ := hdi n hn
      show R0.1 (th.getD n 0) ≠ q
      rw [hget a1]
      exact (hP.2.2 q b hq).2 k1 a2
  obtain ⟨nn, o, s1, s2, s3, hQ⟩ := hM p e ha hc hk s m cav.toArray below hf happ ⟨⟨cav, rfl, z_Lmp hbs hav⟩, henv, hP0, hb⟩ hK
  refine ⟨nn, o, s1, s2, s3, ?_⟩
  generalize stepsAlone p.tables e nn s = t at hQ
  rcases hQ with ⟨⟨v, cv, R', w', ho, hO, ⟨hw2, hwl, hq⟩, hP', hT, hF⟩, hfe⟩ | ⟨q, ho, E, ce, L, ⟨R', w', hx, -⟩, -⟩
  · obtain ⟨L', P'⟩ := w'
    have hw2 : P' = z_no := hw2
    subst hw2
    have hwl : L'.length = L0.length := hwl
    have hl' : L'.length ≤ 1000 := by rw [hwl]; exact hl
    have hR : ∀ {i n : Nat}, th[i]? = some n → R'.1 i = R0.1 n := by
      intro i n hi
      rw [(hT.1 i (hid hi)).2]
      show R0.1 (th.getD i 0) = _
      rw [hget hi]
    have hdth : ∀ k ∈ th, z_d w k := by
      intro k hk9
      obtain ⟨i, hi⟩ := List.getElem?_of_mem hk9
      obtain ⟨e9, he9⟩ := hid hi
      obtain ⟨n9, h9, h8⟩ := hat i e9 (z_gL he9)
      rw [hi] at h9
      cases h9
      exact ⟨_, h8⟩
    have hdw : ∀ n, z_d (z_ss w th (L'.map (z_re th))) n ↔ z_d w n := z_ss_d hdth
    have hdL : ∀ i, z_d (L', z_no) i → ∃ n, th[i]? = some n := by
      intro i ⟨e9, he9⟩
      have h1 := (List.getElem?_eq_some_iff.mp (z_gL he9)).1
      exact ⟨_, List.getElem?_eq_getElem (by rw [hlen, ← hwl]; exact h1)⟩
    have hsb : ∀ v c, z_V G R' (L', z_no) v c → z_V G (R0.1, R'.2) (z_ss w th (L'.map (z_re th))) (z_rn th v) c := by
      intro v c hv
      cases v with
      | int x => exact hv
      | long x => exact hv
      | null => exact hv
      | float b => exact hv
      | retAddr k => exact hv
      | double b => exact hv
      | ref i =>
        obtain ⟨h1, h2⟩ := hv
        obtain ⟨n, hi⟩ := hdL i h1
        simp only [z_rn, hi]
        exact ⟨(hdw n).mpr (hdth n (List.mem_of_getElem? hi)), by rw [h2, hR hi]⟩
    have hbb : ∀ v c, z_V G R0 w v c → z_V G (R0.1, R'.2) (z_ss w th (L'.map (z_re th))) v c := by
      intro v c hv
      cases v with
      | int x => exact hv
      | long x => exact hv
      | null => exact hv
      | float b => obtain ⟨q, h1, h2⟩ := hv; exact ⟨q, h1, h2.imp (hT.2.1 q b) id⟩
      | retAddr k => exact hv
      | double b => exact hv
      | ref n => exact ⟨(hdw n).mpr hv.1, hv.2⟩
    have hA : ∀ q, z_A ((fun i => R0.1 (th.getD i 0)), R0.2) (L0, z_no) s.heap.size q → z_A R0 w s.heap.size q := by
      rintro q (⟨i, hi, rfl⟩ | hq9)
      · obtain ⟨n, h1, h2⟩ := hdi i hi
        refine Or.inl ⟨n, h2, ?_⟩
        show R0.1 n = R0.1 (th.getD i 0)
        rw [hget h1]
      · exact Or.inr hq9
    have hold : ∀ n, z_d w n → n ∉ th → t.heap[R0.1 n]? = s.heap[R0.1 n]? := by
      intro n ⟨e9, he9⟩ hn
      refine hF.2 _ (hP.1 n e9 he9).1.lt ?_
      rintro (⟨i, hi, h9⟩ | h9)
      · obtain ⟨k, h1, h2⟩ := hdi i hi
        have h9 : R0.1 (th.getD i 0) = R0.1 n := h9
        rw [hget h1] at h9
        have := hP.2.1 k n h2 ⟨e9, he9⟩ h9
        subst this
        exact hn (List.mem_of_getElem? h1)
      · have := (hP.1 n e9 he9).1.lt
        omega
    refine Or.inl ⟨⟨v.map (z_rn th), cv, (R0.1, R'.2), z_ss w th (L'.map (z_re th)), ho, ?_, ⟨v, L', hq, rfl, rfl⟩, ⟨fun n e9 hn => ?_, fun a b ha hb hab => hP.2.1 a b ((hdw a).mp ha) ((hdw b).mp hb) hab, fun q b hq9 => ⟨(hP'.2.2 q b hq9).1, fun n hn => ?_⟩⟩, ⟨fun n hn => ⟨(hdw n).mpr hn, rfl⟩, hT.2.1, fun n hn hno => absurd ((hdw n).mp hn) hno, hT.2.2.2⟩, hF.1, fun q h1 h2 => hF.2 q h1 (fun z => h2 (hA q z))⟩, hfe⟩
    · cases v with
      | none =>
        cases cv with
        | none => exact trivial
        | some cv => exact hO.elim
      | some v =>
        cases cv with
        | none => exact hO.elim
        | some cv => exact hsb _ _ hO
    · by_cases hn9 : n ∈ th
      · obtain ⟨i, hi⟩ := List.getElem?_of_mem hn9
        have hil : i < L'.length := by rw [hwl, ← hlen]; exact (List.getElem?_eq_some_iff.mp hi).1
        have h1 : z_g (z_ss w th (L'.map (z_re th))) n = some (z_re th L'[i]) := z_ss_at hnd hdth hi (by rw [List.getElem?_map, List.getElem?_eq_getElem hil]; rfl)
        rw [hn] at h1
        have h1 := Option.some.inj h1
        obtain ⟨h3, h4⟩ := hP'.1 i L'[i] (z_Lg' hl' (List.getElem?_eq_getElem hil))
        rw [hR hi] at h3 h4
        refine ⟨?_, h4⟩
        rw [h1]
        generalize L'[i] = e8 at h3
        cases e8 with
        | inl x =>
          obtain ⟨z, z1, z2⟩ := h3
          exact ⟨z, z1, fun j hj => hsb _ _ (z2 j hj)⟩
        | inr o =>
          obtain ⟨q, gs, x1, x2, x3, x4⟩ := h3
          exact ⟨q, gs, x1, by rw [← x2]; exact List.length_map _, x3, z_Lpm hsb x4⟩
      · rw [z_ss_ne hn9] at hn
        exact ⟨(hP.1 n e9 hn).1.kept hbb (hold n ⟨_, hn⟩ hn9), (hP.1 n e9 hn).2⟩
    · have hn2 := (hdw n).mp hn
      by_cases hn9 : n ∈ th
      · obtain ⟨i, hi⟩ := List.getElem?_of_mem hn9
        have h1 := (hP'.2.2 q b hq9).2 i (hT.1 i (hid hi)).1
        rw [hR hi] at h1
        exact h1
      · cases h8 : R0.2 q with
        | none =>
          have h7 := hT.2.2.2 q b hq9 h8
          obtain ⟨e8, he8⟩ := hn2
          have := (hP.1 n e8 he8).1.lt
          show R0.1 n ≠ q
          omega
        | some b8 => exact (hP.2.2 q b8 h8).2 n hn2
  · exact hx.elim
theorem j_w {G : z_G} {l : Launch} {y : z_M} {S : z_S} {pc : Nat} {lo : List (Nat × Value)} {st : List Value} {w : z_W} {kc ks : Nat} (w' : z_W) (e : w = w') (h : z_J G l y S pc lo st w' kc ks) : z_J G l y S pc lo st w kc ks := e ▸ h
theorem z_weak {G : z_G} {l : Launch} {y : z_M} {rk mc ms : Nat} {w : z_W} {av : List Value} {Q Q' : Option Value → z_W → Prop} {X X' : String → z_W → Prop} (h : z_Con G l y rk mc ms w av Q X) (hQ : ∀ v w', Q v w' → Q' v w') (hX : ∀ E w', X E w' → X' E w') : z_Con G l y rk mc ms w av Q' X' := by
  intro R0 p e ha hc hk s m args below hf happ hPc hK
  obtain ⟨nn, o, s1, s2, s3, hq⟩ := h R0 p e ha hc hk s m args below hf happ hPc hK
  refine ⟨nn, o, s1, s2, s3, ?_⟩
  rcases hq with ⟨⟨v, cv, R', w', ho, hO, hq, r⟩, hfe⟩ | ⟨q, ho, E, ce, L, ⟨R', w', hx, r⟩, r2⟩
  · exact Or.inl ⟨⟨v, cv, R', w', ho, hO, hQ _ _ hq, r⟩, hfe⟩
  · exact Or.inr ⟨q, ho, E, ce, L, ⟨R', w', hX _ _ hx, r⟩, r2⟩
def zq_pk (e : z_E) (i : Nat) : List Nat → List z_E → z_E
  | n :: th, x :: es => cond (Nat.beq i n) x (zq_pk e i th es)
  | _, _ => e
def zq_up (th : List Nat) (es : List z_E) : Nat → List z_E → List z_E
  | _, [] => []
  | i, e :: L => zq_pk e i th es :: zq_up th es (i + 1) L
theorem zq_pk_nil {e : z_E} {i : Nat} {es : List z_E} : zq_pk e i [] es = e := by cases es <;> rfl
theorem zq_pk_ne {e : z_E} {i : Nat} : ∀ {th : List Nat} {es : List z_E}, i ∉ th → zq_pk e i th es = e
  | [], es, _ => zq_pk_nil
  | n :: th, [], _ => rfl
  | n :: th, x :: es, h => by
    have h1 : Nat.beq i n = false := z_beq (fun z => h (by rw [z]; exact List.mem_cons_self))
    show cond (Nat.beq i n) x (zq_pk e i th es) = e
    rw [h1]
    exact zq_pk_ne (fun z => h (List.mem_cons_of_mem _ z))
theorem zq_up_nil {es : List z_E} : ∀ {L : List z_E} {i : Nat}, zq_up [] es i L = L
  | [], _ => rfl
  | e :: L, i => by
    show zq_pk e i [] es :: zq_up [] es (i + 1) L = _
    rw [zq_pk_nil, zq_up_nil]
theorem zq_up_nil2 {n : Nat} {th : List Nat} : ∀ {L : List z_E} {i : Nat}, zq_up (n :: th) [] i L = L
  | [], _ => rfl
  | e :: L, i => by
    show e :: zq_up (n :: th) [] (i + 1) L = _
    rw [zq_up_nil2]
theorem zq_up_lt {th : List Nat} {es : List z_E} {n : Nat} {x : z_E} : ∀ {L : List z_E} {i : Nat}, n < i → zq_up (n :: th) (x :: es) i L = zq_up th es i L
  | [], _, _ => rfl
  | e :: L, i, h => by
    have h1 : Nat.beq i n = false := z_beq (by omega)
    have h2 := zq_up_lt (th := th) (es := es) (n := n) (x := x) (L := L) (i := i + 1) (by omega)
    show cond (Nat.beq i n) x (zq_pk e i th es) :: zq_up (n :: th) (x :: es) (i + 1) L = zq_pk e i th es :: zq_up th es (i + 1) L
    rw [h1, h2] <;> rfl
theorem zq_up_set {th : List Nat} {es : List z_E} {x : z_E} : ∀ {L : List z_E} {k i : Nat}, i + k ∉ th → zq_up th es i (L.set k x) = zq_up ((i + k) :: th) (x :: es) i L
  | [], k, i, _ => by cases k <;> rfl
  | e :: L, 0, i, h => by
    have h2 : zq_pk x i th es = x := zq_pk_ne h
    have h3 := zq_up_lt (th := th) (es := es) (n := i) (x := x) (L := L) (i := i + 1) (by omega)
    show zq_pk x i th es :: zq_up th es (i + 1) L = cond (Nat.beq i i) x (zq_pk e i th es) :: zq_up (i :: th) (x :: es) (i + 1) L
    rw [h2, h3, Nat.beq_refl] <;> rfl
  | e :: L, k + 1, i, h => by
    have h1 : Nat.beq i (i + (k + 1)) = false := z_beq (by omega)
    have e1 : i + 1 + k = i + (k + 1) := by omega
    have h3 := zq_up_set (th := th) (es := es) (x := x) (L := L) (k := k) (i := i + 1) (by rw [e1]; exact h)
    rw [e1] at h3
    show zq_pk e i th es :: zq_up th es (i + 1) (L.set k x) = cond (Nat.beq i (i + (k + 1))) x (zq_pk e i th es) :: zq_up ((i + (k + 1)) :: th) (x :: es) (i + 1) L
    rw [h1, h3] <;> rfl
theorem zq_ss {P : Nat → Option z_E} : ∀ {th : List Nat} {es : List z_E} {L : List z_E}, th.Nodup → (th.all fun n => Nat.blt n 1000) = true → z_ss (L, P) th es = (zq_up th es 0 L, P)
  | [], es, L, _, _ => by
    have h : z_ss (L, P) [] es = (L, P) := by unfold z_ss; rfl
    rw [h, zq_up_nil]
  | n :: th, [], L, _, _ => by
    have h : z_ss (L, P) (n :: th) [] = (L, P) := by unfold z_ss; rfl
    rw [h, zq_up_nil2]
  | n :: th, x :: es, L, hnd, hlt => by
    have h := List.nodup_cons.mp hnd
    rw [List.all_cons, Bool.and_eq_true] at hlt
    have hb : Nat.blt n 1000 = true := hlt.1
    have h1 : z_s (L, P) n x = (L.set n x, P) := by
      show cond (Nat.blt n 1000) (L.set n x, P) _ = _
      rw [hb] <;> rfl
    have h2 := zq_up_set (th := th) (es := es) (x := x) (L := L) (k := n) (i := 0) (by rw [Nat.zero_add]; exact h.1)
    rw [Nat.zero_add] at h2
    show z_ss (z_s (L, P) n x) th es = _
    rw [h1, zq_ss h.2 hlt.2, h2]
theorem j_ws {G : z_G} {l : Launch} {y : z_M} {S : z_S} {pc : Nat} {lo : List (Nat × Value)} {st : List Value} {kc ks : Nat} {L L' : List z_E} {P : Nat → Option z_E} {th : List Nat} {es : List z_E} (hnd : th.Nodup) (hlt : (th.all fun n => Nat.blt n 1000) = true) (e : zq_up th es 0 L = L') (h : z_J G l y S pc lo st (L', P) kc ks) : z_J G l y S pc lo st (z_ss (L, P) th es) kc ks := by
  rw [zq_ss hnd hlt, e]
  exact h
end ZF
end ZM5
section ZM6
theorem z_oi1 : Cond.instanceMethod Lib.objectInit ∈ z_tbl := (z_w 88 ((lwt_1_1 13).trans rfl) (by decide +kernel))
theorem z_oi2 : Cond.code Lib.objectInit ⟨#[0xb1]⟩ 1 none ∈ z_tbl := (z_w 89 ((lwt_1_1 14).trans rfl) (by decide +kernel))
theorem z_all {ws : List Cond} (ps : List Nat) (hp : ws = ps.filterMap (fun i => lw_tbl[i]?)) (h : ws.all goodWord = true) : ∀ x ∈ ws, x ∈ z_tbl := by
  intro w hw
  have h1 := List.all_eq_true.mp h w hw
  rw [hp] at hw
  obtain ⟨i, -, hi⟩ := List.mem_filterMap.mp hw
  exact List.mem_filter.mpr ⟨List.mem_of_getElem? hi, h1⟩
def z_okw (y : z_M) (np : Nat) : Prop := y.2.2.2.2 ≠ [] ∧ z_code y ∈ z_tbl ∧ Cond.initialized y.1.cls ∈ z_tbl ∧ (y.1.cls ≠ "java/lang/invoke/MethodHandle" ∧ y.1.cls ≠ "java/lang/invoke/VarHandle") ∧ (parseMethodDescriptor y.1.desc).map (fun d => d.parameters.length) = some np ∧ y.2.2.1 ≤ 21
theorem iX0 : ∀ x ∈ u_ws RX0 TX0 6, x ∈ z_tbl := z_all [171, 173, 175, 177, 179, 181] (by decide +kernel) (by decide +kernel)
theorem tX0_0 : z_FT 5 0 (.array .int) true := ⟨(RX0, TX0, 6), tyX0, rfl, rfl, tyX0_ok, rfl, nmX0⟩
theorem tX0_1 : z_FT 5 1 .int false := ⟨(RX0, TX0, 6), tyX0, rfl, rfl, tyX0_ok, rfl, nmX0⟩
theorem tX0_2 : z_FT 5 2 .int false := ⟨(RX0, TX0, 6), tyX0, rfl, rfl, tyX0_ok, rfl, nmX0⟩
theorem tX0_3 : z_FT 5 3 .int false := ⟨(RX0, TX0, 6), tyX0, rfl, rfl, tyX0_ok, rfl, nmX0⟩
theorem tX0_4 : z_FT 5 4 .int false := ⟨(RX0, TX0, 6), tyX0, rfl, rfl, tyX0_ok, rfl, nmX0⟩
theorem tX0_5 : z_FT 5 5 .int false := ⟨(RX0, TX0, 6), tyX0, rfl, rfl, tyX0_ok, rfl, nmX0⟩
abbrev mX0_init : z_M := (yX0_init, cX0_init, 1, none, [])
theorem ncl_X0 : RX0 ≠ "java/lang/invoke/MethodHandle" ∧ RX0 ≠ "java/lang/invoke/VarHandle" := ⟨by decide +kernel, by decide +kernel⟩
theorem pds_1 : (parseMethodDescriptor "()V").map (fun d => d.parameters.length) = some 0 := by decide +kernel
theorem kX0_init : z_okm mX0_init 0 := ⟨rfl, (z_w 161 ((lwt_1_3 26).trans rfl) (by decide +kernel)), (z_w 50 ((lwg_1 5).trans rfl) (by decide +kernel)), ncl_X0, pds_1, by decide⟩
theorem inX0_init : Cond.instanceMethod yX0_init ∈ z_tbl := (z_w 160 ((lwt_1_3 25).trans rfl) (by decide +kernel))
-- call X0 3: ('"java/lang/Object"', '"<init>"', '"()V"')
theorem oX0_3 : Cond.methodLink RX0 3 Lib.objectInit ∈ z_tbl := (z_w 162 ((lwt_1_3 27).trans rfl) (by decide +kernel))
theorem fX0_9 : z_F RX0 9 5 0 := ⟨(RX0, TX0, 6), "Loopdefaults$Hearer", rfl, by decide, iX0, Or.inl (z_w 163 ((lwt_1_3 28).trans rfl) (by decide +kernel)), Or.inl rfl⟩
theorem fX0_15 : z_F RX0 15 5 4 := ⟨(RX0, TX0, 6), "Loopdefaults$Hearer", rfl, by decide, iX0, Or.inl (z_w 168 ((lwt_1_4 3).trans rfl) (by decide +kernel)), Or.inl rfl⟩
theorem fX0_19 : z_F RX0 19 5 5 := ⟨(RX0, TX0, 6), "Loopdefaults$Hearer", rfl, by decide, iX0, Or.inl (z_w 169 ((lwt_1_4 4).trans rfl) (by decide +kernel)), Or.inl rfl⟩
abbrev mX0_takesIn : z_M := (yX0_takesIn, cX0_takesIn, 2, (some .boolean), [])
theorem pds_2 : (parseMethodDescriptor "(I)Z").map (fun d => d.parameters.length) = some 1 := by decide +kernel
theorem kX0_takesIn : z_okm mX0_takesIn 1 := ⟨rfl, (z_w 937 ((lwt_4_5 22).trans rfl) (by decide +kernel)), (z_w 50 ((lwg_1 5).trans rfl) (by decide +kernel)), ncl_X0, pds_2, by decide⟩
theorem inX0_takesIn : Cond.instanceMethod yX0_takesIn ∈ z_tbl := (z_w 935 ((lwt_4_5 20).trans rfl) (by decide +kernel))
theorem seX0_takesIn : Cond.selects RX0 yX0_takesIn yX0_takesIn ∈ z_tbl := (z_w 936 ((lwt_4_5 21).trans rfl) (by decide +kernel))
theorem fX0_22 : z_F RX0 22 5 2 := ⟨(RX0, TX0, 6), "Loopdefaults$Hearer", rfl, by decide, iX0, Or.inl (z_w 165 ((lwt_1_4 0).trans rfl) (by decide +kernel)), Or.inl rfl⟩
theorem fX0_25 : z_F RX0 25 5 3 := ⟨(RX0, TX0, 6), "Loopdefaults$Hearer", rfl, by decide, iX0, Or.inl (z_w 167 ((lwt_1_4 2).trans rfl) (by decide +kernel)), Or.inl rfl⟩
abbrev mX0_keep : z_M := (yX0_keep, cX0_keep, 2, none, [])
theorem pds_3 : (parseMethodDescriptor "(I)V").map (fun d => d.parameters.length) = some 1 := by decide +kernel
theorem kX0_keep : z_okm mX0_keep 1 := ⟨rfl, (z_w 941 ((lwt_4_5 26).trans rfl) (by decide +kernel)), (z_w 50 ((lwg_1 5).trans rfl) (by decide +kernel)), ncl_X0, pds_3, by decide⟩
theorem inX0_keep : Cond.instanceMethod yX0_keep ∈ z_tbl := (z_w 940 ((lwt_4_5 25).trans rfl) (by decide +kernel))
theorem seX0_keep : Cond.selects RX0 yX0_keep yX0_keep ∈ z_tbl := (z_w 14 (by decide +kernel) (by decide +kernel))
theorem lX0_28 : Cond.methodLink RX0 28 yX0_keep ∈ z_tbl := (z_w 938 ((lwt_4_5 23).trans rfl) (by decide +kernel))
theorem fX0_32 : z_F RX0 32 5 1 := ⟨(RX0, TX0, 6), "Loopdefaults$Hearer", rfl, by decide, iX0, Or.inl (z_w 164 ((lwt_1_3 29).trans rfl) (by decide +kernel)), Or.inl rfl⟩
abbrev mX0_dropOldest : z_M := (yX0_dropOldest, cX0_dropOldest, 2, none, [])
theorem kX0_dropOldest : z_okm mX0_dropOldest 0 := ⟨rfl, (z_w 945 ((lwt_4_6 0).trans rfl) (by decide +kernel)), (z_w 50 ((lwg_1 5).trans rfl) (by decide +kernel)), ncl_X0, pds_1, by decide⟩
theorem inX0_dropOldest : Cond.instanceMethod yX0_dropOldest ∈ z_tbl := (z_w 944 ((lwt_4_5 29).trans rfl) (by decide +kernel))
theorem seX0_dropOldest : Cond.selects RX0 yX0_dropOldest yX0_dropOldest ∈ z_tbl := (z_w 15 (by decide +kernel) (by decide +kernel))
theorem lX0_35 : Cond.methodLink RX0 35 yX0_dropOldest ∈ z_tbl := (z_w 942 ((lwt_4_5 27).trans rfl) (by decide +kernel))
abbrev mX0_beginAnew : z_M := (yX0_beginAnew, cX0_beginAnew, 1, none, [])
theorem kX0_beginAnew : z_okm mX0_beginAnew 0 := ⟨rfl, (z_w 1206 ((lwt_5_6 21).trans rfl) (by decide +kernel)), (z_w 50 ((lwg_1 5).trans rfl) (by decide +kernel)), ncl_X0, pds_1, by decide⟩
theorem inX0_beginAnew : Cond.instanceMethod yX0_beginAnew ∈ z_tbl := (z_w 1204 ((lwt_5_6 19).trans rfl) (by decide +kernel))
theorem seX0_beginAnew : Cond.selects RX0 yX0_beginAnew yX0_beginAnew ∈ z_tbl := (z_w 1205 ((lwt_5_6 20).trans rfl) (by decide +kernel))
abbrev mX0_tells : z_M := (yX0_tells, cX0_tells, 2, (some .int), [])
theorem pds_4 : (parseMethodDescriptor "(I)I").map (fun d => d.parameters.length) = some 1 := by decide +kernel
theorem kX0_tells : z_okm mX0_tells 1 := ⟨rfl, (z_w 556 ((lwt_3_1 1).trans rfl) (by decide +kernel)), (z_w 50 ((lwg_1 5).trans rfl) (by decide +kernel)), ncl_X0, pds_4, by decide⟩
theorem inX0_tells : Cond.instanceMethod yX0_tells ∈ z_tbl := (z_w 554 ((lwg_3 29).trans rfl) (by decide +kernel))
theorem seX0_tells : Cond.selects RX0 yX0_tells yX0_tells ∈ z_tbl := (z_w 555 ((lwt_3_1 0).trans rfl) (by decide +kernel))
abbrev mX0_recent : z_M := (yX0_recent, cX0_recent, 1, (some (.object "java/lang/String")), [])
theorem pds_5 : (parseMethodDescriptor "()Ljava/lang/String;").map (fun d => d.parameters.length) = some 0 := by decide +kernel
theorem kX0_recent : z_okm mX0_recent 0 := ⟨rfl, (z_w 560 ((lwt_3_1 5).trans rfl) (by decide +kernel)), (z_w 50 ((lwg_1 5).trans rfl) (by decide +kernel)), ncl_X0, pds_5, by decide⟩
theorem inX0_recent : Cond.instanceMethod yX0_recent ∈ z_tbl := (z_w 558 ((lwt_3_1 3).trans rfl) (by decide +kernel))
theorem seX0_recent : Cond.selects RX0 yX0_recent yX0_recent ∈ z_tbl := (z_w 559 ((lwt_3_1 4).trans rfl) (by decide +kernel))
abbrev mX8_joined : z_M := (yX8_joined, cX8_joined, 4, (some (.object "java/lang/String")), [])
theorem ncl_X8 : RX8 ≠ "java/lang/invoke/MethodHandle" ∧ RX8 ≠ "java/lang/invoke/VarHandle" := ⟨by decide +kernel, by decide +kernel⟩
theorem pds_7 : (parseMethodDescriptor "([II)Ljava/lang/String;").map (fun d => d.parameters.length) = some 2 := by decide +kernel
theorem kX8_joined : z_okm mX8_joined 2 := ⟨rfl, (z_w 563 ((lwt_3_1 8).trans rfl) (by decide +kernel)), (z_w 46 ((lwg_1 1).trans rfl) (by decide +kernel)), ncl_X8, pds_7, by decide⟩
theorem stX8_joined : Cond.static yX8_joined ∈ z_tbl := (z_w 562 ((lwt_3_1 7).trans rfl) (by decide +kernel))
theorem lX0_38 : Cond.methodLinkNest RX0 38 yX8_joined "Loopdefaults" ∈ z_nst := (z_wn 561 ((lwt_3_1 6).trans rfl) (by decide +kernel))
theorem iX1 : ∀ x ∈ u_ws RX1 TX1 4, x ∈ z_tbl := z_all [118, 120, 122, 124] (by decide +kernel) (by decide +kernel)
theorem tX1_0 : z_FT 6 0 (.array .int) true := ⟨(RX1, TX1, 4), tyX1, rfl, rfl, tyX1_ok, rfl, nmX1⟩
theorem tX1_1 : z_FT 6 1 (.object "Loopdefaults$Tally") true := ⟨(RX1, TX1, 4), tyX1, rfl, rfl, tyX1_ok, rfl, nmX1⟩
theorem tX1_2 : z_FT 6 2 .int false := ⟨(RX1, TX1, 4), tyX1, rfl, rfl, tyX1_ok, rfl, nmX1⟩
theorem tX1_3 : z_FT 6 3 .boolean false := ⟨(RX1, TX1, 4), tyX1, rfl, rfl, tyX1_ok, rfl, nmX1⟩
abbrev mX1_init : z_M := (yX1_init, cX1_init, 1, none, [])
theorem ncl_X1 : RX1 ≠ "java/lang/invoke/MethodHandle" ∧ RX1 ≠ "java/lang/invoke/VarHandle" := ⟨by decide +kernel, by decide +kernel⟩
theorem kX1_init : z_okm mX1_init 0 := ⟨rfl, (z_w 95 ((lwt_1_1 20).trans rfl) (by decide +kernel)), (z_w 47 ((lwg_1 2).trans rfl) (by decide +kernel)), ncl_X1, pds_1, by decide⟩
theorem inX1_init : Cond.instanceMethod yX1_init ∈ z_tbl := (z_w 94 ((lwt_1_1 19).trans rfl) (by decide +kernel))
-- call X1 3: ('"java/lang/Object"', '"<init>"', '"()V"')
theorem oX1_3 : Cond.methodLink RX1 3 Lib.objectInit ∈ z_tbl := (z_w 96 ((lwt_1_1 21).trans rfl) (by decide +kernel))
theorem fX1_9 : z_F RX1 9 6 0 := ⟨(RX1, TX1, 4), "Loopdefaults$Row", rfl, by decide, iX1, Or.inl (z_w 108 ((lwt_1_2 3).trans rfl) (by decide +kernel)), Or.inl rfl⟩
theorem iX6 : ∀ x ∈ u_ws RX6 TX6 1, x ∈ z_tbl := z_all [104] (by decide +kernel) (by decide +kernel)
theorem tX6_0 : z_FT 11 0 (.array .int) true := ⟨(RX6, TX6, 1), tyX6, rfl, rfl, tyX6_ok, rfl, nmX6⟩
theorem nX1_15 : z_N RX1 15 11 [.null] := ⟨(RX6, TX6, 1), tyX6, rfl, iX6, (z_w 97 ((lwt_1_1 22).trans rfl) (by decide +kernel)), (z_w 98 ((lwt_1_1 23).trans rfl) (by decide +kernel)), (z_w 48 ((lwg_1 3).trans rfl) (by decide +kernel)), tyX6_ok, rfl, by decide, rfl⟩
abbrev mX6_init : z_M := (yX6_init, cX6_init, 1, none, [])
theorem ncl_X6 : RX6 ≠ "java/lang/invoke/MethodHandle" ∧ RX6 ≠ "java/lang/invoke/VarHandle" := ⟨by decide +kernel, by decide +kernel⟩
theorem kX6_init : z_okm mX6_init 0 := ⟨rfl, (z_w 101 ((lwt_1_1 26).trans rfl) (by decide +kernel)), (z_w 48 ((lwg_1 3).trans rfl) (by decide +kernel)), ncl_X6, pds_1, by decide⟩
theorem inX6_init : Cond.instanceMethod yX6_init ∈ z_tbl := (z_w 100 ((lwt_1_1 25).trans rfl) (by decide +kernel))
theorem lX1_17 : Cond.methodLinkNest RX1 17 yX6_init "Loopdefaults" ∈ z_nst := (z_wn 99 ((lwt_1_1 24).trans rfl) (by decide +kernel))
theorem fX1_18 : z_F RX1 18 6 1 := ⟨(RX1, TX1, 4), "Loopdefaults$Row", rfl, by decide, iX1, Or.inl (z_w 111 ((lwt_1_2 6).trans rfl) (by decide +kernel)), Or.inl rfl⟩
abbrev mX1_isFull : z_M := (yX1_isFull, cX1_isFull, 1, (some .boolean), [])
theorem pds_10 : (parseMethodDescriptor "()Z").map (fun d => d.parameters.length) = some 0 := by decide +kernel
theorem kX1_isFull : z_okm mX1_isFull 0 := ⟨rfl, (z_w 880 ((lwt_4_3 25).trans rfl) (by decide +kernel)), (z_w 47 ((lwg_1 2).trans rfl) (by decide +kernel)), ncl_X1, pds_10, by decide⟩
theorem inX1_isFull : Cond.instanceMethod yX1_isFull ∈ z_tbl := (z_w 878 ((lwt_4_3 23).trans rfl) (by decide +kernel))
theorem seX1_isFull : Cond.selects RX1 yX1_isFull yX1_isFull ∈ z_tbl := (z_w 879 ((lwt_4_3 24).trans rfl) (by decide +kernel))
theorem fX1_22 : z_F RX1 22 6 2 := ⟨(RX1, TX1, 4), "Loopdefaults$Row", rfl, by decide, iX1, Or.inl (z_w 113 ((lwt_1_2 8).trans rfl) (by decide +kernel)), Or.inl rfl⟩
abbrev mX1_isPlace : z_M := (yX1_isPlace, cX1_isPlace, 2, (some .boolean), [])
theorem kX1_isPlace : z_okm mX1_isPlace 1 := ⟨rfl, (z_w 319 ((lwt_2_1 4).trans rfl) (by decide +kernel)), (z_w 47 ((lwg_1 2).trans rfl) (by decide +kernel)), ncl_X1, pds_2, by decide⟩
theorem inX1_isPlace : Cond.instanceMethod yX1_isPlace ∈ z_tbl := (z_w 317 ((lwt_2_1 2).trans rfl) (by decide +kernel))
theorem seX1_isPlace : Cond.selects RX1 yX1_isPlace yX1_isPlace ∈ z_tbl := (z_w 318 ((lwt_2_1 3).trans rfl) (by decide +kernel))
abbrev mX1_valueAt : z_M := (yX1_valueAt, cX1_valueAt, 2, (some .int), [])
theorem kX1_valueAt : z_okm mX1_valueAt 1 := ⟨rfl, (z_w 315 ((lwt_2_1 0).trans rfl) (by decide +kernel)), (z_w 47 ((lwg_1 2).trans rfl) (by decide +kernel)), ncl_X1, pds_4, by decide⟩
theorem inX1_valueAt : Cond.instanceMethod yX1_valueAt ∈ z_tbl := (z_w 313 ((lwg_2 28).trans rfl) (by decide +kernel))
theorem seX1_valueAt : Cond.selects RX1 yX1_valueAt yX1_valueAt ∈ z_tbl := (z_w 314 ((lwg_2 29).trans rfl) (by decide +kernel))
theorem lX1_26 : Cond.methodLink RX1 26 yX1_isPlace ∈ z_tbl := (z_w 316 ((lwt_2_1 1).trans rfl) (by decide +kernel))
abbrev mX1_setAt : z_M := (yX1_setAt, cX1_setAt, 3, none, [])
theorem pds_11 : (parseMethodDescriptor "(II)V").map (fun d => d.parameters.length) = some 2 := by decide +kernel
theorem kX1_setAt : z_okm mX1_setAt 2 := ⟨rfl, (z_w 995 ((lwt_4_7 20).trans rfl) (by decide +kernel)), (z_w 47 ((lwg_1 2).trans rfl) (by decide +kernel)), ncl_X1, pds_11, by decide⟩
theorem inX1_setAt : Cond.instanceMethod yX1_setAt ∈ z_tbl := (z_w 993 ((lwt_4_7 18).trans rfl) (by decide +kernel))
theorem seX1_setAt : Cond.selects RX1 yX1_setAt yX1_setAt ∈ z_tbl := (z_w 994 ((lwt_4_7 19).trans rfl) (by decide +kernel))
abbrev mX1_append : z_M := (yX1_append, cX1_append, 2, none, [])
theorem kX1_append : z_okm mX1_append 1 := ⟨rfl, (z_w 900 ((lwt_4_4 15).trans rfl) (by decide +kernel)), (z_w 47 ((lwg_1 2).trans rfl) (by decide +kernel)), ncl_X1, pds_3, by decide⟩
theorem inX1_append : Cond.instanceMethod yX1_append ∈ z_tbl := (z_w 898 ((lwt_4_4 13).trans rfl) (by decide +kernel))
theorem seX1_append : Cond.selects RX1 yX1_append yX1_append ∈ z_tbl := (z_w 899 ((lwt_4_4 14).trans rfl) (by decide +kernel))
abbrev mX1_shorten : z_M := (yX1_shorten, cX1_shorten, 2, none, [])
theorem kX1_shorten : z_okm mX1_shorten 1 := ⟨rfl, (z_w 911 ((lwt_4_4 26).trans rfl) (by decide +kernel)), (z_w 47 ((lwg_1 2).trans rfl) (by decide +kernel)), ncl_X1, pds_3, by decide⟩
theorem inX1_shorten : Cond.instanceMethod yX1_shorten ∈ z_tbl := (z_w 909 ((lwt_4_4 24).trans rfl) (by decide +kernel))
theorem seX1_shorten : Cond.selects RX1 yX1_shorten yX1_shorten ∈ z_tbl := (z_w 910 ((lwt_4_4 25).trans rfl) (by decide +kernel))
abbrev mX1_takeOut : z_M := (yX1_takeOut, cX1_takeOut, 3, none, [])
theorem kX1_takeOut : z_okm mX1_takeOut 1 := ⟨rfl, (z_w 370 ((lwt_2_2 25).trans rfl) (by decide +kernel)), (z_w 47 ((lwg_1 2).trans rfl) (by decide +kernel)), ncl_X1, pds_3, by decide⟩
theorem inX1_takeOut : Cond.instanceMethod yX1_takeOut ∈ z_tbl := (z_w 368 ((lwt_2_2 23).trans rfl) (by decide +kernel))
theorem seX1_takeOut : Cond.selects RX1 yX1_takeOut yX1_takeOut ∈ z_tbl := (z_w 369 ((lwt_2_2 24).trans rfl) (by decide +kernel))
abbrev mX1_become : z_M := (yX1_become, cX1_become, 2, none, [])
theorem pds_12 : (parseMethodDescriptor "(LLoopdefaults$Row;)V").map (fun d => d.parameters.length) = some 1 := by decide +kernel
theorem kX1_become : z_okm mX1_become 1 := ⟨rfl, (z_w 235 ((lwt_1_6 10).trans rfl) (by decide +kernel)), (z_w 47 ((lwg_1 2).trans rfl) (by decide +kernel)), ncl_X1, pds_12, by decide⟩
theorem inX1_become : Cond.instanceMethod yX1_become ∈ z_tbl := (z_w 233 ((lwt_1_6 8).trans rfl) (by decide +kernel))
theorem seX1_become : Cond.selects RX1 yX1_become yX1_become ∈ z_tbl := (z_w 234 ((lwt_1_6 9).trans rfl) (by decide +kernel))
abbrev mX8_takeOver : z_M := (yX8_takeOver, cX8_takeOver, 3, none, [])
theorem pds_13 : (parseMethodDescriptor "([I[I)V").map (fun d => d.parameters.length) = some 2 := by decide +kernel
theorem kX8_takeOver : z_okm mX8_takeOver 2 := ⟨rfl, (z_w 238 ((lwt_1_6 13).trans rfl) (by decide +kernel)), (z_w 46 ((lwg_1 1).trans rfl) (by decide +kernel)), ncl_X8, pds_13, by decide⟩
theorem stX8_takeOver : Cond.static yX8_takeOver ∈ z_tbl := (z_w 237 ((lwt_1_6 12).trans rfl) (by decide +kernel))
theorem lX1_30 : Cond.methodLinkNest RX1 30 yX8_takeOver "Loopdefaults" ∈ z_nst := (z_wn 236 ((lwt_1_6 11).trans rfl) (by decide +kernel))
theorem iX2 : ∀ x ∈ u_ws RX2 TX2 5, x ∈ z_tbl := z_all [273, 275, 277, 269, 271] (by decide +kernel) (by decide +kernel)
theorem tX2_0 : z_FT 7 0 (.object "Loopdefaults$Tally") true := ⟨(RX2, TX2, 5), tyX2, rfl, rfl, tyX2_ok, rfl, nmX2⟩
theorem tX2_2 : z_FT 7 2 .int false := ⟨(RX2, TX2, 5), tyX2, rfl, rfl, tyX2_ok, rfl, nmX2⟩
theorem tX2_3 : z_FT 7 3 (.object "Loopdefaults$Row") true := ⟨(RX2, TX2, 5), tyX2, rfl, rfl, tyX2_ok, rfl, nmX2⟩
theorem tX2_4 : z_FT 7 4 .int false := ⟨(RX2, TX2, 5), tyX2, rfl, rfl, tyX2_ok, rfl, nmX2⟩
abbrev mX2_init : z_M := (yX2_init, cX2_init, 2, none, [])
theorem ncl_X2 : RX2 ≠ "java/lang/invoke/MethodHandle" ∧ RX2 ≠ "java/lang/invoke/VarHandle" := ⟨by decide +kernel, by decide +kernel⟩
theorem kX2_init : z_okm mX2_init 1 := ⟨rfl, (z_w 243 ((lwt_1_6 18).trans rfl) (by decide +kernel)), (z_w 73 ((lwg_1 28).trans rfl) (by decide +kernel)), ncl_X2, pds_12, by decide⟩
theorem inX2_init : Cond.instanceMethod yX2_init ∈ z_tbl := (z_w 242 ((lwt_1_6 17).trans rfl) (by decide +kernel))
theorem fX2_3 : z_F RX2 3 6 1 := ⟨(RX1, TX1, 4), "Loopdefaults$Row", rfl, by decide, iX1, Or.inr ⟨"Loopdefaults", (z_wn 110 ((lwt_1_2 5).trans rfl) (by decide +kernel))⟩, Or.inl rfl⟩
abbrev mX7_init : z_M := (yX7_init, cX7_init, 2, none, [])
theorem ncl_X7 : RX7 ≠ "java/lang/invoke/MethodHandle" ∧ RX7 ≠ "java/lang/invoke/VarHandle" := ⟨by decide +kernel, by decide +kernel⟩
theorem pds_16 : (parseMethodDescriptor "(LLoopdefaults$Tally;)V").map (fun d => d.parameters.length) = some 1 := by decide +kernel
theorem kX7_init : z_okm mX7_init 1 := ⟨rfl, (z_w 246 ((lwt_1_6 21).trans rfl) (by decide +kernel)), (z_w 72 ((lwg_1 27).trans rfl) (by decide +kernel)), ncl_X7, pds_16, by decide⟩
theorem inX7_init : Cond.instanceMethod yX7_init ∈ z_tbl := (z_w 245 ((lwt_1_6 20).trans rfl) (by decide +kernel))
theorem lX2_9 : Cond.methodLink RX2 9 yX7_init ∈ z_tbl := (z_w 244 ((lwt_1_6 19).trans rfl) (by decide +kernel))
theorem fX2_15 : z_F RX2 15 7 3 := ⟨(RX2, TX2, 5), "Loopdefaults$RowWalk", rfl, by decide, iX2, Or.inl (z_w 252 ((lwt_1_6 27).trans rfl) (by decide +kernel)), Or.inl rfl⟩
abbrev mX2_isMore : z_M := (yX2_isMore, cX2_isMore, 1, (some .boolean), [])
theorem kX2_isMore : z_okm mX2_isMore 0 := ⟨rfl, (z_w 292 ((lwg_2 7).trans rfl) (by decide +kernel)), (z_w 73 ((lwg_1 28).trans rfl) (by decide +kernel)), ncl_X2, pds_10, by decide⟩
theorem inX2_isMore : Cond.instanceMethod yX2_isMore ∈ z_tbl := (z_w 291 ((lwg_2 6).trans rfl) (by decide +kernel))
theorem fX2_21 : z_F RX2 21 7 4 := ⟨(RX2, TX2, 5), "Loopdefaults$RowWalk", rfl, by decide, iX2, Or.inl (z_w 253 ((lwt_1_6 28).trans rfl) (by decide +kernel)), Or.inl rfl⟩
theorem fX2_25 : z_F RX2 25 6 2 := ⟨(RX1, TX1, 4), "Loopdefaults$Row", rfl, by decide, iX1, Or.inr ⟨"Loopdefaults", (z_wn 114 ((lwt_1_2 9).trans rfl) (by decide +kernel))⟩, Or.inl rfl⟩
abbrev mX2_next : z_M := (yX2_next, cX2_next, 1, (some .int), [])
theorem pds_17 : (parseMethodDescriptor "()I").map (fun d => d.parameters.length) = some 0 := by decide +kernel
theorem kX2_next : z_okm mX2_next 0 := ⟨rfl, (z_w 311 ((lwg_2 26).trans rfl) (by decide +kernel)), (z_w 73 ((lwg_1 28).trans rfl) (by decide +kernel)), ncl_X2, pds_17, by decide⟩
theorem inX2_next : Cond.instanceMethod yX2_next ∈ z_tbl := (z_w 310 ((lwg_2 25).trans rfl) (by decide +kernel))
theorem lX2_28 : Cond.methodLink RX2 28 yX1_valueAt ∈ z_tbl := (z_w 312 ((lwg_2 27).trans rfl) (by decide +kernel))
theorem fX2_32 : z_F RX2 32 7 2 := ⟨(RX2, TX2, 5), "Loopdefaults$RowWalk", rfl, by decide, iX2, Or.inl (z_w 264 ((lwt_1_7 9).trans rfl) (by decide +kernel)), Or.inr (z_w 265 ((lwt_1_7 10).trans rfl) (by decide +kernel))⟩
abbrev mX2_putInPlace : z_M := (yX2_putInPlace, cX2_putInPlace, 2, (some .boolean), [])
theorem kX2_putInPlace : z_okm mX2_putInPlace 1 := ⟨rfl, (z_w 991 ((lwt_4_7 16).trans rfl) (by decide +kernel)), (z_w 73 ((lwg_1 28).trans rfl) (by decide +kernel)), ncl_X2, pds_2, by decide⟩
theorem inX2_putInPlace : Cond.instanceMethod yX2_putInPlace ∈ z_tbl := (z_w 990 ((lwt_4_7 15).trans rfl) (by decide +kernel))
theorem fX2_35 : z_F RX2 35 6 3 := ⟨(RX1, TX1, 4), "Loopdefaults$Row", rfl, by decide, iX1, Or.inr ⟨"Loopdefaults", (z_wn 116 ((lwt_1_2 11).trans rfl) (by decide +kernel))⟩, Or.inl rfl⟩
theorem fX2_39 : z_F RX2 39 7 0 := ⟨(RX2, TX2, 5), "Loopdefaults$RowWalk", rfl, by decide, iX2, Or.inl (z_w 257 ((lwt_1_7 2).trans rfl) (by decide +kernel)), Or.inr (z_w 258 ((lwt_1_7 3).trans rfl) (by decide +kernel))⟩
abbrev mX6_add : z_M := (yX6_add, cX6_add, 2, none, [])
theorem kX6_add : z_okm mX6_add 1 := ⟨rfl, (z_w 251 ((lwt_1_6 26).trans rfl) (by decide +kernel)), (z_w 48 ((lwg_1 3).trans rfl) (by decide +kernel)), ncl_X6, pds_3, by decide⟩
theorem inX6_add : Cond.instanceMethod yX6_add ∈ z_tbl := (z_w 249 ((lwt_1_6 24).trans rfl) (by decide +kernel))
theorem seX6_add : Cond.selects RX6 yX6_add yX6_add ∈ z_tbl := (z_w 250 ((lwt_1_6 25).trans rfl) (by decide +kernel))
theorem lX2_40 : Cond.methodLink RX2 40 yX6_add ∈ z_tbl := (z_w 366 ((lwt_2_2 21).trans rfl) (by decide +kernel))
theorem lX2_46 : Cond.methodLink RX2 46 yX1_setAt ∈ z_tbl := (z_w 992 ((lwt_4_7 17).trans rfl) (by decide +kernel))
abbrev mX2_takeAway : z_M := (yX2_takeAway, cX2_takeAway, 1, (some .boolean), [])
theorem kX2_takeAway : z_okm mX2_takeAway 0 := ⟨rfl, (z_w 365 ((lwt_2_2 20).trans rfl) (by decide +kernel)), (z_w 73 ((lwg_1 28).trans rfl) (by decide +kernel)), ncl_X2, pds_10, by decide⟩
theorem inX2_takeAway : Cond.instanceMethod yX2_takeAway ∈ z_tbl := (z_w 363 ((lwt_2_2 18).trans rfl) (by decide +kernel))
theorem seX2_takeAway : Cond.selects RX2 yX2_takeAway yX2_takeAway ∈ z_tbl := (z_w 364 ((lwt_2_2 19).trans rfl) (by decide +kernel))
theorem lX2_50 : Cond.methodLink RX2 50 yX1_takeOut ∈ z_tbl := (z_w 367 ((lwt_2_2 22).trans rfl) (by decide +kernel))
theorem iX3 : ∀ x ∈ u_ws RX3 TX3 6, x ∈ z_tbl := z_all [1170, 1171, 1172, 1164, 1166, 1168] (by decide +kernel) (by decide +kernel)
theorem tX3_0 : z_FT 8 0 (.object "Loopdefaults$Tally") true := ⟨(RX3, TX3, 6), tyX3, rfl, rfl, tyX3_ok, rfl, nmX3⟩
theorem tX3_2 : z_FT 8 2 .int false := ⟨(RX3, TX3, 6), tyX3, rfl, rfl, tyX3_ok, rfl, nmX3⟩
theorem tX3_3 : z_FT 8 3 .int true := ⟨(RX3, TX3, 6), tyX3, rfl, rfl, tyX3_ok, rfl, nmX3⟩
theorem tX3_4 : z_FT 8 4 .int true := ⟨(RX3, TX3, 6), tyX3, rfl, rfl, tyX3_ok, rfl, nmX3⟩
theorem tX3_5 : z_FT 8 5 .int false := ⟨(RX3, TX3, 6), tyX3, rfl, rfl, tyX3_ok, rfl, nmX3⟩
abbrev mX3_init : z_M := (yX3_init, cX3_init, 4, none, [])
theorem ncl_X3 : RX3 ≠ "java/lang/invoke/MethodHandle" ∧ RX3 ≠ "java/lang/invoke/VarHandle" := ⟨by decide +kernel, by decide +kernel⟩
theorem pds_19 : (parseMethodDescriptor "(III)V").map (fun d => d.parameters.length) = some 3 := by decide +kernel
theorem kX3_init : z_okm mX3_init 3 := ⟨rfl, (z_w 1157 ((lwt_5_5 2).trans rfl) (by decide +kernel)), (z_w 81 ((lwt_1_1 6).trans rfl) (by decide +kernel)), ncl_X3, pds_19, by decide⟩
theorem inX3_init : Cond.instanceMethod yX3_init ∈ z_tbl := (z_w 1156 ((lwt_5_5 1).trans rfl) (by decide +kernel))
theorem nX3_1 : z_N RX3 1 11 [.null] := ⟨(RX6, TX6, 1), tyX6, rfl, iX6, (z_w 1158 ((lwt_5_5 3).trans rfl) (by decide +kernel)), (z_w 98 ((lwt_1_1 23).trans rfl) (by decide +kernel)), (z_w 48 ((lwg_1 3).trans rfl) (by decide +kernel)), tyX6_ok, rfl, by decide, rfl⟩
theorem lX3_3 : Cond.methodLinkNest RX3 3 yX6_init "Loopdefaults" ∈ z_nst := (z_wn 1159 ((lwt_5_5 4).trans rfl) (by decide +kernel))
theorem lX3_7 : Cond.methodLink RX3 7 yX7_init ∈ z_tbl := (z_w 1160 ((lwt_5_5 5).trans rfl) (by decide +kernel))
theorem fX3_12 : z_F RX3 12 8 5 := ⟨(RX3, TX3, 6), "Loopdefaults$SpanWalk", rfl, by decide, iX3, Or.inl (z_w 1163 ((lwt_5_5 8).trans rfl) (by decide +kernel)), Or.inl rfl⟩
theorem fX3_18 : z_F RX3 18 8 3 := ⟨(RX3, TX3, 6), "Loopdefaults$SpanWalk", rfl, by decide, iX3, Or.inl (z_w 1161 ((lwt_5_5 6).trans rfl) (by decide +kernel)), Or.inl rfl⟩
theorem fX3_21 : z_F RX3 21 8 4 := ⟨(RX3, TX3, 6), "Loopdefaults$SpanWalk", rfl, by decide, iX3, Or.inl (z_w 1162 ((lwt_5_5 7).trans rfl) (by decide +kernel)), Or.inl rfl⟩
abbrev mX3_isMore : z_M := (yX3_isMore, cX3_isMore, 1, (some .boolean), [])
theorem kX3_isMore : z_okm mX3_isMore 0 := ⟨rfl, (z_w 295 ((lwg_2 10).trans rfl) (by decide +kernel)), (z_w 81 ((lwt_1_1 6).trans rfl) (by decide +kernel)), ncl_X3, pds_10, by decide⟩
theorem inX3_isMore : Cond.instanceMethod yX3_isMore ∈ z_tbl := (z_w 294 ((lwg_2 9).trans rfl) (by decide +kernel))
abbrev mX3_next : z_M := (yX3_next, cX3_next, 1, (some .int), [])
theorem kX3_next : z_okm mX3_next 0 := ⟨rfl, (z_w 322 ((lwt_2_1 7).trans rfl) (by decide +kernel)), (z_w 81 ((lwt_1_1 6).trans rfl) (by decide +kernel)), ncl_X3, pds_17, by decide⟩
theorem inX3_next : Cond.instanceMethod yX3_next ∈ z_tbl := (z_w 321 ((lwt_2_1 6).trans rfl) (by decide +kernel))
theorem fX3_24 : z_F RX3 24 8 2 := ⟨(RX3, TX3, 6), "Loopdefaults$SpanWalk", rfl, by decide, iX3, Or.inl (z_w 262 ((lwt_1_7 7).trans rfl) (by decide +kernel)), Or.inr (z_w 263 ((lwt_1_7 8).trans rfl) (by decide +kernel))⟩
theorem iX4 : ∀ x ∈ u_ws RX4 TX4 5, x ∈ z_tbl := z_all [144, 146, 148, 150, 152] (by decide +kernel) (by decide +kernel)
theorem tX4_0 : z_FT 9 0 .boolean true := ⟨(RX4, TX4, 5), tyX4, rfl, rfl, tyX4_ok, rfl, nmX4⟩
theorem tX4_1 : z_FT 9 1 (.array .int) true := ⟨(RX4, TX4, 5), tyX4, rfl, rfl, tyX4_ok, rfl, nmX4⟩
theorem tX4_2 : z_FT 9 2 (.array .int) true := ⟨(RX4, TX4, 5), tyX4, rfl, rfl, tyX4_ok, rfl, nmX4⟩
theorem tX4_3 : z_FT 9 3 (.object "Loopdefaults$Tally") true := ⟨(RX4, TX4, 5), tyX4, rfl, rfl, tyX4_ok, rfl, nmX4⟩
theorem tX4_4 : z_FT 9 4 .int false := ⟨(RX4, TX4, 5), tyX4, rfl, rfl, tyX4_ok, rfl, nmX4⟩
abbrev mX4_init : z_M := (yX4_init, cX4_init, 3, none, [])
theorem ncl_X4 : RX4 ≠ "java/lang/invoke/MethodHandle" ∧ RX4 ≠ "java/lang/invoke/VarHandle" := ⟨by decide +kernel, by decide +kernel⟩
theorem pds_21 : (parseMethodDescriptor "(Z)V").map (fun d => d.parameters.length) = some 1 := by decide +kernel
theorem kX4_init : z_okm mX4_init 1 := ⟨rfl, (z_w 131 ((lwt_1_2 26).trans rfl) (by decide +kernel)), (z_w 49 ((lwg_1 4).trans rfl) (by decide +kernel)), ncl_X4, pds_21, by decide⟩
theorem inX4_init : Cond.instanceMethod yX4_init ∈ z_tbl := (z_w 130 ((lwt_1_2 25).trans rfl) (by decide +kernel))
-- call X4 3: ('"java/lang/Object"', '"<init>"', '"()V"')
theorem oX4_3 : Cond.methodLink RX4 3 Lib.objectInit ∈ z_tbl := (z_w 132 ((lwt_1_2 27).trans rfl) (by decide +kernel))
theorem fX4_9 : z_F RX4 9 9 1 := ⟨(RX4, TX4, 5), "Loopdefaults$Table", rfl, by decide, iX4, Or.inl (z_w 136 ((lwt_1_3 1).trans rfl) (by decide +kernel)), Or.inl rfl⟩
theorem fX4_15 : z_F RX4 15 9 2 := ⟨(RX4, TX4, 5), "Loopdefaults$Table", rfl, by decide, iX4, Or.inl (z_w 137 ((lwt_1_3 2).trans rfl) (by decide +kernel)), Or.inl rfl⟩
theorem nX4_18 : z_N RX4 18 11 [.null] := ⟨(RX6, TX6, 1), tyX6, rfl, iX6, (z_w 133 ((lwt_1_2 28).trans rfl) (by decide +kernel)), (z_w 98 ((lwt_1_1 23).trans rfl) (by decide +kernel)), (z_w 48 ((lwg_1 3).trans rfl) (by decide +kernel)), tyX6_ok, rfl, by decide, rfl⟩
theorem lX4_20 : Cond.methodLinkNest RX4 20 yX6_init "Loopdefaults" ∈ z_nst := (z_wn 134 ((lwt_1_2 29).trans rfl) (by decide +kernel))
theorem fX4_21 : z_F RX4 21 9 3 := ⟨(RX4, TX4, 5), "Loopdefaults$Table", rfl, by decide, iX4, Or.inl (z_w 139 ((lwt_1_3 4).trans rfl) (by decide +kernel)), Or.inl rfl⟩
theorem fX4_25 : z_F RX4 25 9 0 := ⟨(RX4, TX4, 5), "Loopdefaults$Table", rfl, by decide, iX4, Or.inl (z_w 135 ((lwt_1_3 0).trans rfl) (by decide +kernel)), Or.inl rfl⟩
abbrev mX4_look : z_M := (yX4_look, cX4_look, 2, (some .int), [])
theorem kX4_look : z_okm mX4_look 1 := ⟨rfl, (z_w 333 ((lwt_2_1 18).trans rfl) (by decide +kernel)), (z_w 49 ((lwg_1 4).trans rfl) (by decide +kernel)), ncl_X4, pds_4, by decide⟩
theorem inX4_look : Cond.instanceMethod yX4_look ∈ z_tbl := (z_w 331 ((lwt_2_1 16).trans rfl) (by decide +kernel))
theorem seX4_look : Cond.selects RX4 yX4_look yX4_look ∈ z_tbl := (z_w 332 ((lwt_2_1 17).trans rfl) (by decide +kernel))
abbrev mX4_keyAt : z_M := (yX4_keyAt, cX4_keyAt, 2, (some .int), [])
theorem kX4_keyAt : z_okm mX4_keyAt 1 := ⟨rfl, (z_w 329 ((lwt_2_1 14).trans rfl) (by decide +kernel)), (z_w 49 ((lwg_1 4).trans rfl) (by decide +kernel)), ncl_X4, pds_4, by decide⟩
theorem inX4_keyAt : Cond.instanceMethod yX4_keyAt ∈ z_tbl := (z_w 327 ((lwt_2_1 12).trans rfl) (by decide +kernel))
theorem seX4_keyAt : Cond.selects RX4 yX4_keyAt yX4_keyAt ∈ z_tbl := (z_w 328 ((lwt_2_1 13).trans rfl) (by decide +kernel))
theorem fX4_29 : z_F RX4 29 9 4 := ⟨(RX4, TX4, 5), "Loopdefaults$Table", rfl, by decide, iX4, Or.inl (z_w 142 ((lwt_1_3 7).trans rfl) (by decide +kernel)), Or.inl rfl⟩
abbrev mX4_store : z_M := (yX4_store, cX4_store, 4, (some .int), [])
theorem pds_22 : (parseMethodDescriptor "(II)I").map (fun d => d.parameters.length) = some 2 := by decide +kernel
theorem kX4_store : z_okm mX4_store 2 := ⟨rfl, (z_w 415 ((lwt_2_4 10).trans rfl) (by decide +kernel)), (z_w 49 ((lwg_1 4).trans rfl) (by decide +kernel)), ncl_X4, pds_22, by decide⟩
theorem inX4_store : Cond.instanceMethod yX4_store ∈ z_tbl := (z_w 413 ((lwt_2_4 8).trans rfl) (by decide +kernel))
theorem seX4_store : Cond.selects RX4 yX4_store yX4_store ∈ z_tbl := (z_w 414 ((lwt_2_4 9).trans rfl) (by decide +kernel))
theorem lX4_33 : Cond.methodLink RX4 33 yX6_add ∈ z_tbl := (z_w 416 ((lwt_2_4 11).trans rfl) (by decide +kernel))
theorem lX4_37 : Cond.methodLink RX4 37 yX4_look ∈ z_tbl := (z_w 393 ((lwt_2_3 18).trans rfl) (by decide +kernel))
abbrev mX4_addKey : z_M := (yX4_addKey, cX4_addKey, 3, none, [])
theorem kX4_addKey : z_okm mX4_addKey 1 := ⟨rfl, (z_w 420 ((lwt_2_4 15).trans rfl) (by decide +kernel)), (z_w 49 ((lwg_1 4).trans rfl) (by decide +kernel)), ncl_X4, pds_3, by decide⟩
theorem inX4_addKey : Cond.instanceMethod yX4_addKey ∈ z_tbl := (z_w 419 ((lwt_2_4 14).trans rfl) (by decide +kernel))
theorem seX4_addKey : Cond.selects RX4 yX4_addKey yX4_addKey ∈ z_tbl := (z_w 6 (by decide +kernel) (by decide +kernel))
theorem lX4_41 : Cond.methodLink RX4 41 yX4_addKey ∈ z_tbl := (z_w 417 ((lwt_2_4 12).trans rfl) (by decide +kernel))
abbrev mX4_setValue : z_M := (yX4_setValue, cX4_setValue, 3, none, [])
theorem kX4_setValue : z_okm mX4_setValue 2 := ⟨rfl, (z_w 424 ((lwt_2_4 19).trans rfl) (by decide +kernel)), (z_w 49 ((lwg_1 4).trans rfl) (by decide +kernel)), ncl_X4, pds_11, by decide⟩
theorem inX4_setValue : Cond.instanceMethod yX4_setValue ∈ z_tbl := (z_w 422 ((lwt_2_4 17).trans rfl) (by decide +kernel))
theorem seX4_setValue : Cond.selects RX4 yX4_setValue yX4_setValue ∈ z_tbl := (z_w 423 ((lwt_2_4 18).trans rfl) (by decide +kernel))
theorem lX4_44 : Cond.methodLink RX4 44 yX4_setValue ∈ z_tbl := (z_w 421 ((lwt_2_4 16).trans rfl) (by decide +kernel))
abbrev mX4_sendAway : z_M := (yX4_sendAway, cX4_sendAway, 3, (some .int), [])
theorem kX4_sendAway : z_okm mX4_sendAway 1 := ⟨rfl, (z_w 428 ((lwt_2_4 23).trans rfl) (by decide +kernel)), (z_w 49 ((lwg_1 4).trans rfl) (by decide +kernel)), ncl_X4, pds_4, by decide⟩
theorem inX4_sendAway : Cond.instanceMethod yX4_sendAway ∈ z_tbl := (z_w 426 ((lwt_2_4 21).trans rfl) (by decide +kernel))
theorem seX4_sendAway : Cond.selects RX4 yX4_sendAway yX4_sendAway ∈ z_tbl := (z_w 427 ((lwt_2_4 22).trans rfl) (by decide +kernel))
abbrev mX4_takeKey : z_M := (yX4_takeKey, cX4_takeKey, 4, none, [])
theorem kX4_takeKey : z_okm mX4_takeKey 1 := ⟨rfl, (z_w 432 ((lwt_2_4 27).trans rfl) (by decide +kernel)), (z_w 49 ((lwg_1 4).trans rfl) (by decide +kernel)), ncl_X4, pds_3, by decide⟩
theorem inX4_takeKey : Cond.instanceMethod yX4_takeKey ∈ z_tbl := (z_w 431 ((lwt_2_4 26).trans rfl) (by decide +kernel))
theorem seX4_takeKey : Cond.selects RX4 yX4_takeKey yX4_takeKey ∈ z_tbl := (z_w 7 (by decide +kernel) (by decide +kernel))
theorem lX4_48 : Cond.methodLink RX4 48 yX4_takeKey ∈ z_tbl := (z_w 429 ((lwt_2_4 24).trans rfl) (by decide +kernel))
abbrev mX4_makeEmpty : z_M := (yX4_makeEmpty, cX4_makeEmpty, 3, (some .int), [])
theorem kX4_makeEmpty : z_okm mX4_makeEmpty 0 := ⟨rfl, (z_w 1139 ((lwt_5_4 14).trans rfl) (by decide +kernel)), (z_w 49 ((lwg_1 4).trans rfl) (by decide +kernel)), ncl_X4, pds_17, by decide⟩
theorem inX4_makeEmpty : Cond.instanceMethod yX4_makeEmpty ∈ z_tbl := (z_w 1137 ((lwt_5_4 12).trans rfl) (by decide +kernel))
theorem seX4_makeEmpty : Cond.selects RX4 yX4_makeEmpty yX4_makeEmpty ∈ z_tbl := (z_w 1138 ((lwt_5_4 13).trans rfl) (by decide +kernel))
abbrev mX4_become : z_M := (yX4_become, cX4_become, 2, none, [])
theorem pds_23 : (parseMethodDescriptor "(LLoopdefaults$Table;)V").map (fun d => d.parameters.length) = some 1 := by decide +kernel
theorem kX4_become : z_okm mX4_become 1 := ⟨rfl, (z_w 383 ((lwt_2_3 8).trans rfl) (by decide +kernel)), (z_w 49 ((lwg_1 4).trans rfl) (by decide +kernel)), ncl_X4, pds_23, by decide⟩
theorem inX4_become : Cond.instanceMethod yX4_become ∈ z_tbl := (z_w 381 ((lwt_2_3 6).trans rfl) (by decide +kernel))
theorem seX4_become : Cond.selects RX4 yX4_become yX4_become ∈ z_tbl := (z_w 382 ((lwt_2_3 7).trans rfl) (by decide +kernel))
theorem lX4_51 : Cond.methodLinkNest RX4 51 yX8_takeOver "Loopdefaults" ∈ z_nst := (z_wn 384 ((lwt_2_3 9).trans rfl) (by decide +kernel))
abbrev mX4_sortKeys : z_M := (yX4_sortKeys, cX4_sortKeys, 3, none, [])
theorem kX4_sortKeys : z_okm mX4_sortKeys 0 := ⟨rfl, (z_w 388 ((lwt_2_3 13).trans rfl) (by decide +kernel)), (z_w 49 ((lwg_1 4).trans rfl) (by decide +kernel)), ncl_X4, pds_1, by decide⟩
theorem inX4_sortKeys : Cond.instanceMethod yX4_sortKeys ∈ z_tbl := (z_w 387 ((lwt_2_3 12).trans rfl) (by decide +kernel))
theorem seX4_sortKeys : Cond.selects RX4 yX4_sortKeys yX4_sortKeys ∈ z_tbl := (z_w 3 (by decide +kernel) (by decide +kernel))
theorem lX4_55 : Cond.methodLink RX4 55 yX4_sortKeys ∈ z_tbl := (z_w 385 ((lwt_2_3 10).trans rfl) (by decide +kernel))
abbrev mX4_hasPairsOf : z_M := (yX4_hasPairsOf, cX4_hasPairsOf, 3, (some .boolean), [])
theorem pds_24 : (parseMethodDescriptor "(LLoopdefaults$Table;)Z").map (fun d => d.parameters.length) = some 1 := by decide +kernel
theorem kX4_hasPairsOf : z_okm mX4_hasPairsOf 1 := ⟨rfl, (z_w 392 ((lwt_2_3 17).trans rfl) (by decide +kernel)), (z_w 49 ((lwg_1 4).trans rfl) (by decide +kernel)), ncl_X4, pds_24, by decide⟩
theorem inX4_hasPairsOf : Cond.instanceMethod yX4_hasPairsOf ∈ z_tbl := (z_w 390 ((lwt_2_3 15).trans rfl) (by decide +kernel))
theorem seX4_hasPairsOf : Cond.selects RX4 yX4_hasPairsOf yX4_hasPairsOf ∈ z_tbl := (z_w 391 ((lwt_2_3 16).trans rfl) (by decide +kernel))
abbrev mX4_reckonAbsent : z_M := (yX4_reckonAbsent, cX4_reckonAbsent, 6, (some .int), [])
theorem pds_25 : (parseMethodDescriptor "(III)I").map (fun d => d.parameters.length) = some 3 := by decide +kernel
theorem kX4_reckonAbsent : z_okm mX4_reckonAbsent 3 := ⟨rfl, (z_w 436 ((lwt_2_5 1).trans rfl) (by decide +kernel)), (z_w 49 ((lwg_1 4).trans rfl) (by decide +kernel)), ncl_X4, pds_25, by decide⟩
theorem inX4_reckonAbsent : Cond.instanceMethod yX4_reckonAbsent ∈ z_tbl := (z_w 434 ((lwt_2_4 29).trans rfl) (by decide +kernel))
theorem seX4_reckonAbsent : Cond.selects RX4 yX4_reckonAbsent yX4_reckonAbsent ∈ z_tbl := (z_w 435 ((lwt_2_5 0).trans rfl) (by decide +kernel))
abbrev mX8_ruleTells : z_M := (yX8_ruleTells, cX8_ruleTells, 6, (some .int), [])
theorem pds_26 : (parseMethodDescriptor "(IIII)I").map (fun d => d.parameters.length) = some 4 := by decide +kernel
theorem kX8_ruleTells : z_okm mX8_ruleTells 4 := ⟨rfl, (z_w 408 ((lwt_2_4 3).trans rfl) (by decide +kernel)), (z_w 46 ((lwg_1 1).trans rfl) (by decide +kernel)), ncl_X8, pds_26, by decide⟩
theorem stX8_ruleTells : Cond.static yX8_ruleTells ∈ z_tbl := (z_w 407 ((lwt_2_4 2).trans rfl) (by decide +kernel))
theorem lX4_58 : Cond.methodLinkNest RX4 58 yX8_ruleTells "Loopdefaults" ∈ z_nst := (z_wn 406 ((lwt_2_4 1).trans rfl) (by decide +kernel))
theorem lX4_62 : Cond.methodLink RX4 62 yX4_store ∈ z_tbl := (z_w 412 ((lwt_2_4 7).trans rfl) (by decide +kernel))
abbrev mX4_reckonPresent : z_M := (yX4_reckonPresent, cX4_reckonPresent, 4, (some .int), [])
theorem kX4_reckonPresent : z_okm mX4_reckonPresent 3 := ⟨rfl, (z_w 440 ((lwt_2_5 5).trans rfl) (by decide +kernel)), (z_w 49 ((lwg_1 4).trans rfl) (by decide +kernel)), ncl_X4, pds_25, by decide⟩
theorem inX4_reckonPresent : Cond.instanceMethod yX4_reckonPresent ∈ z_tbl := (z_w 438 ((lwt_2_5 3).trans rfl) (by decide +kernel))
theorem seX4_reckonPresent : Cond.selects RX4 yX4_reckonPresent yX4_reckonPresent ∈ z_tbl := (z_w 439 ((lwt_2_5 4).trans rfl) (by decide +kernel))
abbrev mX4_reckon : z_M := (yX4_reckon, cX4_reckon, 6, (some .int), [])
theorem kX4_reckon : z_okm mX4_reckon 3 := ⟨rfl, (z_w 405 ((lwt_2_4 0).trans rfl) (by decide +kernel)), (z_w 49 ((lwg_1 4).trans rfl) (by decide +kernel)), ncl_X4, pds_25, by decide⟩
theorem inX4_reckon : Cond.instanceMethod yX4_reckon ∈ z_tbl := (z_w 403 ((lwt_2_3 28).trans rfl) (by decide +kernel))
theorem seX4_reckon : Cond.selects RX4 yX4_reckon yX4_reckon ∈ z_tbl := (z_w 404 ((lwt_2_3 29).trans rfl) (by decide +kernel))
theorem lX4_66 : Cond.methodLink RX4 66 yX4_reckon ∈ z_tbl := (z_w 441 ((lwt_2_5 6).trans rfl) (by decide +kernel))
theorem lX4_70 : Cond.methodLink RX4 70 yX4_sendAway ∈ z_tbl := (z_w 425 ((lwt_2_4 20).trans rfl) (by decide +kernel))
abbrev mX4_join : z_M := (yX4_join, cX4_join, 4, (some .int), [])
theorem kX4_join : z_okm mX4_join 3 := ⟨rfl, (z_w 445 ((lwt_2_5 10).trans rfl) (by decide +kernel)), (z_w 49 ((lwg_1 4).trans rfl) (by decide +kernel)), ncl_X4, pds_25, by decide⟩
theorem inX4_join : Cond.instanceMethod yX4_join ∈ z_tbl := (z_w 443 ((lwt_2_5 8).trans rfl) (by decide +kernel))
theorem seX4_join : Cond.selects RX4 yX4_join yX4_join ∈ z_tbl := (z_w 444 ((lwt_2_5 9).trans rfl) (by decide +kernel))
abbrev mX4_pairs : z_M := (yX4_pairs, cX4_pairs, 4, (some (.object "java/lang/String")), [])
theorem kX4_pairs : z_okm mX4_pairs 0 := ⟨rfl, (z_w 1303 ((lwt_6_1 28).trans rfl) (by decide +kernel)), (z_w 49 ((lwg_1 4).trans rfl) (by decide +kernel)), ncl_X4, pds_5, by decide⟩
theorem inX4_pairs : Cond.instanceMethod yX4_pairs ∈ z_tbl := (z_w 1301 ((lwt_6_1 26).trans rfl) (by decide +kernel))
theorem seX4_pairs : Cond.selects RX4 yX4_pairs yX4_pairs ∈ z_tbl := (z_w 1302 ((lwt_6_1 27).trans rfl) (by decide +kernel))
theorem iJ4 : ∀ x ∈ u_ws RJ4 TJ4 4, x ∈ z_tbl := z_all [586, 588, 590, 592] (by decide +kernel) (by decide +kernel)
theorem tJ4_0 : z_FT 1 0 (.array .byte) false := ⟨(RJ4, TJ4, 4), tyJ4, rfl, rfl, tyJ4_ok, rfl, nmJ4⟩
theorem tJ4_1 : z_FT 1 1 .byte false := ⟨(RJ4, TJ4, 4), tyJ4, rfl, rfl, tyJ4_ok, rfl, nmJ4⟩
theorem tJ4_3 : z_FT 1 3 .int false := ⟨(RJ4, TJ4, 4), tyJ4, rfl, rfl, tyJ4_ok, rfl, nmJ4⟩
theorem nX4_73 : z_N RX4 73 1 [.null, .int 0, .int 0, .int 0] := ⟨(RJ4, TJ4, 4), tyJ4, rfl, iJ4, (z_w 1304 ((lwt_6_1 29).trans rfl) (by decide +kernel)), (z_w 565 ((lwt_3_1 10).trans rfl) (by decide +kernel)), (z_w 75 ((lwt_1_1 0).trans rfl) (by decide +kernel)), tyJ4_ok, rfl, by decide, rfl⟩
abbrev mJ4_init_da8c8 : z_M := (yJ4_init_da8c8, cJ4_init_da8c8, 1, none, [])
theorem ncl_J4 : RJ4 ≠ "java/lang/invoke/MethodHandle" ∧ RJ4 ≠ "java/lang/invoke/VarHandle" := ⟨by decide +kernel, by decide +kernel⟩
theorem kJ4_init_da8c8 : z_okm mJ4_init_da8c8 0 := ⟨rfl, (z_w 568 ((lwt_3_1 13).trans rfl) (by decide +kernel)), (z_w 75 ((lwt_1_1 0).trans rfl) (by decide +kernel)), ncl_J4, pds_1, by decide⟩
theorem inJ4_init_da8c8 : Cond.instanceMethod yJ4_init_da8c8 ∈ z_tbl := (z_w 567 ((lwt_3_1 12).trans rfl) (by decide +kernel))
theorem lX4_75 : Cond.methodLink RX4 75 yJ4_init_da8c8 ∈ z_tbl := (z_w 1305 ((lwt_6_2 0).trans rfl) (by decide +kernel))
abbrev mJ4_append_cf468 : z_M := (yJ4_append_cf468, cJ4_append_cf468, 2, (some (.object "java/lang/StringBuilder")), [])
theorem pds_28 : (parseMethodDescriptor "(C)Ljava/lang/StringBuilder;").map (fun d => d.parameters.length) = some 1 := by decide +kernel
theorem kJ4_append_cf468 : z_okm mJ4_append_cf468 1 := ⟨rfl, (z_w 598 ((lwt_3_2 13).trans rfl) (by decide +kernel)), (z_w 75 ((lwt_1_1 0).trans rfl) (by decide +kernel)), ncl_J4, pds_28, by decide⟩
theorem inJ4_append_cf468 : Cond.instanceMethod yJ4_append_cf468 ∈ z_tbl := (z_w 596 ((lwt_3_2 11).trans rfl) (by decide +kernel))
theorem seJ4_append_cf468 : Cond.selects RJ4 yJ4_append_cf468 yJ4_append_cf468 ∈ z_tbl := (z_w 597 ((lwt_3_2 12).trans rfl) (by decide +kernel))
theorem lX4_76 : Cond.methodLink RX4 76 yJ4_append_cf468 ∈ z_tbl := (z_w 1306 ((lwt_6_2 1).trans rfl) (by decide +kernel))
theorem lX4_80 : Cond.methodLink RX4 80 yX4_keyAt ∈ z_tbl := (z_w 1307 ((lwt_6_2 2).trans rfl) (by decide +kernel))
abbrev mJ4_append_bf812 : z_M := (yJ4_append_bf812, cJ4_append_bf812, 2, (some (.object "java/lang/StringBuilder")), [])
theorem pds_29 : (parseMethodDescriptor "(I)Ljava/lang/StringBuilder;").map (fun d => d.parameters.length) = some 1 := by decide +kernel
theorem kJ4_append_bf812 : z_okm mJ4_append_bf812 1 := ⟨rfl, (z_w 693 ((lwt_3_5 18).trans rfl) (by decide +kernel)), (z_w 75 ((lwt_1_1 0).trans rfl) (by decide +kernel)), ncl_J4, pds_29, by decide⟩
theorem inJ4_append_bf812 : Cond.instanceMethod yJ4_append_bf812 ∈ z_tbl := (z_w 691 ((lwt_3_5 16).trans rfl) (by decide +kernel))
theorem seJ4_append_bf812 : Cond.selects RJ4 yJ4_append_bf812 yJ4_append_bf812 ∈ z_tbl := (z_w 692 ((lwt_3_5 17).trans rfl) (by decide +kernel))
theorem lX4_83 : Cond.methodLink RX4 83 yJ4_append_bf812 ∈ z_tbl := (z_w 1308 ((lwt_6_2 3).trans rfl) (by decide +kernel))
abbrev mJ4_toString_0e30d : z_M := (yJ4_toString_0e30d, cJ4_toString_0e30d, 1, (some (.object "java/lang/String")), [])
theorem kJ4_toString_0e30d : z_okm mJ4_toString_0e30d 0 := ⟨rfl, (z_w 727 ((lwt_3_6 22).trans rfl) (by decide +kernel)), (z_w 75 ((lwt_1_1 0).trans rfl) (by decide +kernel)), ncl_J4, pds_5, by decide⟩
theorem inJ4_toString_0e30d : Cond.instanceMethod yJ4_toString_0e30d ∈ z_tbl := (z_w 725 ((lwt_3_6 20).trans rfl) (by decide +kernel))
theorem seJ4_toString_0e30d : Cond.selects RJ4 yJ4_toString_0e30d yJ4_toString_0e30d ∈ z_tbl := (z_w 726 ((lwt_3_6 21).trans rfl) (by decide +kernel))
theorem lX4_86 : Cond.methodLink RX4 86 yJ4_toString_0e30d ∈ z_tbl := (z_w 1309 ((lwt_6_2 4).trans rfl) (by decide +kernel))
theorem iX5 : ∀ x ∈ u_ws RX5 TX5 5, x ∈ z_tbl := z_all [1118, 1119, 1120, 1114, 1116] (by decide +kernel) (by decide +kernel)
theorem tX5_0 : z_FT 10 0 (.object "Loopdefaults$Tally") true := ⟨(RX5, TX5, 5), tyX5, rfl, rfl, tyX5_ok, rfl, nmX5⟩
theorem tX5_1 : z_FT 10 1 .int false := ⟨(RX5, TX5, 5), tyX5, rfl, rfl, tyX5_ok, rfl, nmX5⟩
theorem tX5_2 : z_FT 10 2 .int false := ⟨(RX5, TX5, 5), tyX5, rfl, rfl, tyX5_ok, rfl, nmX5⟩
theorem tX5_3 : z_FT 10 3 (.object "Loopdefaults$Table") true := ⟨(RX5, TX5, 5), tyX5, rfl, rfl, tyX5_ok, rfl, nmX5⟩
theorem tX5_4 : z_FT 10 4 .int false := ⟨(RX5, TX5, 5), tyX5, rfl, rfl, tyX5_ok, rfl, nmX5⟩
abbrev mX5_init : z_M := (yX5_init, cX5_init, 2, none, [])
theorem ncl_X5 : RX5 ≠ "java/lang/invoke/MethodHandle" ∧ RX5 ≠ "java/lang/invoke/VarHandle" := ⟨by decide +kernel, by decide +kernel⟩
theorem kX5_init : z_okm mX5_init 1 := ⟨rfl, (z_w 1110 ((lwt_5_3 15).trans rfl) (by decide +kernel)), (z_w 79 ((lwt_1_1 4).trans rfl) (by decide +kernel)), ncl_X5, pds_23, by decide⟩
theorem inX5_init : Cond.instanceMethod yX5_init ∈ z_tbl := (z_w 1109 ((lwt_5_3 14).trans rfl) (by decide +kernel))
theorem fX5_3 : z_F RX5 3 9 3 := ⟨(RX4, TX4, 5), "Loopdefaults$Table", rfl, by decide, iX4, Or.inr ⟨"Loopdefaults", (z_wn 138 ((lwt_1_3 3).trans rfl) (by decide +kernel))⟩, Or.inl rfl⟩
theorem lX5_9 : Cond.methodLink RX5 9 yX7_init ∈ z_tbl := (z_w 1111 ((lwt_5_3 16).trans rfl) (by decide +kernel))
theorem fX5_15 : z_F RX5 15 10 3 := ⟨(RX5, TX5, 5), "Loopdefaults$TableWalk", rfl, by decide, iX5, Or.inl (z_w 1112 ((lwt_5_3 17).trans rfl) (by decide +kernel)), Or.inl rfl⟩
abbrev mX5_isMore : z_M := (yX5_isMore, cX5_isMore, 1, (some .boolean), [])
theorem kX5_isMore : z_okm mX5_isMore 0 := ⟨rfl, (z_w 298 ((lwg_2 13).trans rfl) (by decide +kernel)), (z_w 79 ((lwt_1_1 4).trans rfl) (by decide +kernel)), ncl_X5, pds_10, by decide⟩
theorem inX5_isMore : Cond.instanceMethod yX5_isMore ∈ z_tbl := (z_w 297 ((lwg_2 12).trans rfl) (by decide +kernel))
theorem fX5_21 : z_F RX5 21 10 4 := ⟨(RX5, TX5, 5), "Loopdefaults$TableWalk", rfl, by decide, iX5, Or.inl (z_w 1113 ((lwt_5_3 18).trans rfl) (by decide +kernel)), Or.inl rfl⟩
theorem fX5_25 : z_F RX5 25 9 4 := ⟨(RX4, TX4, 5), "Loopdefaults$Table", rfl, by decide, iX4, Or.inr ⟨"Loopdefaults", (z_wn 141 ((lwt_1_3 6).trans rfl) (by decide +kernel))⟩, Or.inl rfl⟩
abbrev mX5_next : z_M := (yX5_next, cX5_next, 1, (some .int), [])
theorem kX5_next : z_okm mX5_next 0 := ⟨rfl, (z_w 325 ((lwt_2_1 10).trans rfl) (by decide +kernel)), (z_w 79 ((lwt_1_1 4).trans rfl) (by decide +kernel)), ncl_X5, pds_17, by decide⟩
theorem inX5_next : Cond.instanceMethod yX5_next ∈ z_tbl := (z_w 324 ((lwt_2_1 9).trans rfl) (by decide +kernel))
theorem lX5_28 : Cond.methodLink RX5 28 yX4_keyAt ∈ z_tbl := (z_w 326 ((lwt_2_1 11).trans rfl) (by decide +kernel))
theorem fX5_32 : z_F RX5 32 10 1 := ⟨(RX5, TX5, 5), "Loopdefaults$TableWalk", rfl, by decide, iX5, Or.inl (z_w 259 ((lwt_1_7 4).trans rfl) (by decide +kernel)), Or.inr (z_w 260 ((lwt_1_7 5).trans rfl) (by decide +kernel))⟩
theorem lX5_35 : Cond.methodLink RX5 35 yX4_look ∈ z_tbl := (z_w 330 ((lwt_2_1 15).trans rfl) (by decide +kernel))
theorem fX5_38 : z_F RX5 38 10 2 := ⟨(RX5, TX5, 5), "Loopdefaults$TableWalk", rfl, by decide, iX5, Or.inl (z_w 266 ((lwt_1_7 11).trans rfl) (by decide +kernel)), Or.inr (z_w 267 ((lwt_1_7 12).trans rfl) (by decide +kernel))⟩
abbrev mX5_putInPlace : z_M := (yX5_putInPlace, cX5_putInPlace, 2, (some .boolean), [])
theorem kX5_putInPlace : z_okm mX5_putInPlace 1 := ⟨rfl, (z_w 1001 ((lwt_4_7 26).trans rfl) (by decide +kernel)), (z_w 79 ((lwt_1_1 4).trans rfl) (by decide +kernel)), ncl_X5, pds_2, by decide⟩
theorem inX5_putInPlace : Cond.instanceMethod yX5_putInPlace ∈ z_tbl := (z_w 1000 ((lwt_4_7 25).trans rfl) (by decide +kernel))
theorem fX5_41 : z_F RX5 41 10 0 := ⟨(RX5, TX5, 5), "Loopdefaults$TableWalk", rfl, by decide, iX5, Or.inl (z_w 255 ((lwt_1_7 0).trans rfl) (by decide +kernel)), Or.inr (z_w 256 ((lwt_1_7 1).trans rfl) (by decide +kernel))⟩
theorem lX5_42 : Cond.methodLink RX5 42 yX6_add ∈ z_tbl := (z_w 1002 ((lwt_4_7 27).trans rfl) (by decide +kernel))
theorem lX5_48 : Cond.methodLink RX5 48 yX4_setValue ∈ z_tbl := (z_w 1003 ((lwt_4_7 28).trans rfl) (by decide +kernel))
-- call X6 3: ('"java/lang/Object"', '"<init>"', '"()V"')
theorem oX6_3 : Cond.methodLink RX6 3 Lib.objectInit ∈ z_tbl := (z_w 102 ((lwt_1_1 27).trans rfl) (by decide +kernel))
theorem fX6_9 : z_F RX6 9 11 0 := ⟨(RX6, TX6, 1), "Loopdefaults$Tally", rfl, by decide, iX6, Or.inl (z_w 103 ((lwt_1_1 28).trans rfl) (by decide +kernel)), Or.inl rfl⟩
abbrev mX6_of : z_M := (yX6_of, cX6_of, 2, (some .int), [])
theorem kX6_of : z_okm mX6_of 1 := ⟨rfl, (z_w 337 ((lwt_2_1 22).trans rfl) (by decide +kernel)), (z_w 48 ((lwg_1 3).trans rfl) (by decide +kernel)), ncl_X6, pds_4, by decide⟩
theorem inX6_of : Cond.instanceMethod yX6_of ∈ z_tbl := (z_w 335 ((lwt_2_1 20).trans rfl) (by decide +kernel))
theorem seX6_of : Cond.selects RX6 yX6_of yX6_of ∈ z_tbl := (z_w 336 ((lwt_2_1 21).trans rfl) (by decide +kernel))
abbrev mX6_startAnew : z_M := (yX6_startAnew, cX6_startAnew, 3, (some .int), [])
theorem kX6_startAnew : z_okm mX6_startAnew 0 := ⟨rfl, (z_w 219 ((lwt_1_5 24).trans rfl) (by decide +kernel)), (z_w 48 ((lwg_1 3).trans rfl) (by decide +kernel)), ncl_X6, pds_17, by decide⟩
theorem inX6_startAnew : Cond.instanceMethod yX6_startAnew ∈ z_tbl := (z_w 217 ((lwt_1_5 22).trans rfl) (by decide +kernel))
theorem seX6_startAnew : Cond.selects RX6 yX6_startAnew yX6_startAnew ∈ z_tbl := (z_w 218 ((lwt_1_5 23).trans rfl) (by decide +kernel))
-- call X7 3: ('"java/lang/Object"', '"<init>"', '"()V"')
theorem oX7_3 : Cond.methodLink RX7 3 Lib.objectInit ∈ z_tbl := (z_w 247 ((lwt_1_6 22).trans rfl) (by decide +kernel))
theorem fX7_9_X2 : z_F RX7 9 7 0 := ⟨(RX2, TX2, 5), "Loopdefaults$Walk", rfl, by decide, iX2, Or.inl (z_w 254 ((lwt_1_6 29).trans rfl) (by decide +kernel)), Or.inl rfl⟩
theorem fX7_9_X3 : z_F RX7 9 8 0 := ⟨(RX3, TX3, 6), "Loopdefaults$Walk", rfl, by decide, iX3, Or.inl (z_w 254 ((lwt_1_6 29).trans rfl) (by decide +kernel)), Or.inl rfl⟩
theorem fX7_9_X5 : z_F RX7 9 10 0 := ⟨(RX5, TX5, 5), "Loopdefaults$Walk", rfl, by decide, iX5, Or.inl (z_w 254 ((lwt_1_6 29).trans rfl) (by decide +kernel)), Or.inl rfl⟩
theorem lX7_15 : Cond.methodLink RX7 15 yX6_add ∈ z_tbl := (z_w 248 ((lwt_1_6 23).trans rfl) (by decide +kernel))
abbrev mX7_ask : z_M := (yX7_ask, cX7_ask, 1, (some .boolean), [])
theorem kX7_ask : z_okm mX7_ask 0 := ⟨rfl, (z_w 286 ((lwg_2 1).trans rfl) (by decide +kernel)), (z_w 72 ((lwg_1 27).trans rfl) (by decide +kernel)), ncl_X7, pds_10, by decide⟩
theorem inX7_ask : Cond.instanceMethod yX7_ask ∈ z_tbl := (z_w 281 ((lwt_1_7 26).trans rfl) (by decide +kernel))
-- call X7 21: ('"Loopdefaults$Walk"', '"isMore"', '"()Z"')
theorem lX7_21 : Cond.methodLink RX7 21 ⟨"Loopdefaults$Walk", "isMore", "()Z"⟩ ∈ z_tbl := (z_w 287 ((lwg_2 2).trans rfl) (by decide +kernel))
theorem cuX7_21_X2 : z_CU RX7 RX2 "Loopdefaults$Walk" 21 ⟨"Loopdefaults$Walk", "isMore", "()Z"⟩ mX2_isMore := ⟨lX7_21, (z_w 289 ((lwg_2 4).trans rfl) (by decide +kernel)), Or.inr (z_wn 288 ((lwg_2 3).trans rfl) (by decide +kernel)), (z_w 290 ((lwg_2 5).trans rfl) (by decide +kernel)), inX2_isMore, ⟨by decide +kernel, by decide +kernel⟩, rfl⟩
theorem cuX7_21_X3 : z_CU RX7 RX3 "Loopdefaults$Walk" 21 ⟨"Loopdefaults$Walk", "isMore", "()Z"⟩ mX3_isMore := ⟨lX7_21, (z_w 289 ((lwg_2 4).trans rfl) (by decide +kernel)), Or.inr (z_wn 288 ((lwg_2 3).trans rfl) (by decide +kernel)), (z_w 293 ((lwg_2 8).trans rfl) (by decide +kernel)), inX3_isMore, ⟨by decide +kernel, by decide +kernel⟩, rfl⟩
theorem cuX7_21_X5 : z_CU RX7 RX5 "Loopdefaults$Walk" 21 ⟨"Loopdefaults$Walk", "isMore", "()Z"⟩ mX5_isMore := ⟨lX7_21, (z_w 289 ((lwg_2 4).trans rfl) (by decide +kernel)), Or.inr (z_wn 288 ((lwg_2 3).trans rfl) (by decide +kernel)), (z_w 296 ((lwg_2 11).trans rfl) (by decide +kernel)), inX5_isMore, ⟨by decide +kernel, by decide +kernel⟩, rfl⟩
abbrev mX7_give : z_M := (yX7_give, cX7_give, 1, (some .int), [])
theorem kX7_give : z_okm mX7_give 0 := ⟨rfl, (z_w 305 ((lwg_2 20).trans rfl) (by decide +kernel)), (z_w 72 ((lwg_1 27).trans rfl) (by decide +kernel)), ncl_X7, pds_17, by decide⟩
theorem inX7_give : Cond.instanceMethod yX7_give ∈ z_tbl := (z_w 300 ((lwg_2 15).trans rfl) (by decide +kernel))
-- call X7 25: ('"Loopdefaults$Walk"', '"next"', '"()I"')
theorem lX7_25 : Cond.methodLink RX7 25 ⟨"Loopdefaults$Walk", "next", "()I"⟩ ∈ z_tbl := (z_w 306 ((lwg_2 21).trans rfl) (by decide +kernel))
theorem cuX7_25_X2 : z_CU RX7 RX2 "Loopdefaults$Walk" 25 ⟨"Loopdefaults$Walk", "next", "()I"⟩ mX2_next := ⟨lX7_25, (z_w 308 ((lwg_2 23).trans rfl) (by decide +kernel)), Or.inr (z_wn 307 ((lwg_2 22).trans rfl) (by decide +kernel)), (z_w 309 ((lwg_2 24).trans rfl) (by decide +kernel)), inX2_next, ⟨by decide +kernel, by decide +kernel⟩, rfl⟩
theorem cuX7_25_X3 : z_CU RX7 RX3 "Loopdefaults$Walk" 25 ⟨"Loopdefaults$Walk", "next", "()I"⟩ mX3_next := ⟨lX7_25, (z_w 308 ((lwg_2 23).trans rfl) (by decide +kernel)), Or.inr (z_wn 307 ((lwg_2 22).trans rfl) (by decide +kernel)), (z_w 320 ((lwt_2_1 5).trans rfl) (by decide +kernel)), inX3_next, ⟨by decide +kernel, by decide +kernel⟩, rfl⟩
theorem cuX7_25_X5 : z_CU RX7 RX5 "Loopdefaults$Walk" 25 ⟨"Loopdefaults$Walk", "next", "()I"⟩ mX5_next := ⟨lX7_25, (z_w 308 ((lwg_2 23).trans rfl) (by decide +kernel)), Or.inr (z_wn 307 ((lwg_2 22).trans rfl) (by decide +kernel)), (z_w 323 ((lwt_2_1 8).trans rfl) (by decide +kernel)), inX5_next, ⟨by decide +kernel, by decide +kernel⟩, rfl⟩
theorem iX8 : ∀ x ∈ u_ws RX8 TX8 9, x ∈ z_tbl := z_all [193, 195, 197, 199, 201, 203, 205, 207, 209] (by decide +kernel) (by decide +kernel)
theorem tX8_0 : z_FT 12 0 (.array (.object "Loopdefaults$Row")) true := ⟨(RX8, TX8, 9), tyX8, rfl, rfl, tyX8_ok, rfl, nmX8⟩
theorem tX8_1 : z_FT 12 1 (.object "Loopdefaults$Table") true := ⟨(RX8, TX8, 9), tyX8, rfl, rfl, tyX8_ok, rfl, nmX8⟩
theorem tX8_2 : z_FT 12 2 (.array (.object "Loopdefaults$Table")) true := ⟨(RX8, TX8, 9), tyX8, rfl, rfl, tyX8_ok, rfl, nmX8⟩
theorem tX8_3 : z_FT 12 3 (.array (.object "Loopdefaults$Hearer")) true := ⟨(RX8, TX8, 9), tyX8, rfl, rfl, tyX8_ok, rfl, nmX8⟩
theorem tX8_4 : z_FT 12 4 (.object "Loopdefaults$Row") true := ⟨(RX8, TX8, 9), tyX8, rfl, rfl, tyX8_ok, rfl, nmX8⟩
theorem tX8_5 : z_FT 12 5 (.object "Loopdefaults$Table") true := ⟨(RX8, TX8, 9), tyX8, rfl, rfl, tyX8_ok, rfl, nmX8⟩
theorem tX8_6 : z_FT 12 6 (.array (.object "Loopdefaults$Table")) true := ⟨(RX8, TX8, 9), tyX8, rfl, rfl, tyX8_ok, rfl, nmX8⟩
theorem tX8_7 : z_FT 12 7 .int false := ⟨(RX8, TX8, 9), tyX8, rfl, rfl, tyX8_ok, rfl, nmX8⟩
theorem tX8_8 : z_FT 12 8 .int false := ⟨(RX8, TX8, 9), tyX8, rfl, rfl, tyX8_ok, rfl, nmX8⟩
abbrev mX8_init : z_M := (yX8_init, cX8_init, 1, none, [])
theorem kX8_init : z_okm mX8_init 0 := ⟨rfl, (z_w 86 ((lwt_1_1 11).trans rfl) (by decide +kernel)), (z_w 46 ((lwg_1 1).trans rfl) (by decide +kernel)), ncl_X8, pds_1, by decide⟩
theorem inX8_init : Cond.instanceMethod yX8_init ∈ z_tbl := (z_w 85 ((lwt_1_1 10).trans rfl) (by decide +kernel))
-- call X8 1: ('"java/lang/Object"', '"<init>"', '"()V"')
theorem oX8_1 : Cond.methodLink RX8 1 Lib.objectInit ∈ z_tbl := (z_w 87 ((lwt_1_1 12).trans rfl) (by decide +kernel))
theorem aX8_7 : Cond.classLink RX8 7 "Loopdefaults$Row" ∈ z_tbl := (z_w 90 ((lwt_1_1 15).trans rfl) (by decide +kernel))
theorem ao_X1 : Cond.arrayOver (.object "Loopdefaults$Row") ∈ z_nst := (z_wn 91 ((lwt_1_1 16).trans rfl) (by decide +kernel))
theorem nX8_7 : z_N RX8 7 6 [.null, .null, .int 0, .int 0] := ⟨(RX1, TX1, 4), tyX1, rfl, iX1, (z_w 90 ((lwt_1_1 15).trans rfl) (by decide +kernel)), (z_w 92 ((lwt_1_1 17).trans rfl) (by decide +kernel)), (z_w 47 ((lwg_1 2).trans rfl) (by decide +kernel)), tyX1_ok, rfl, by decide, rfl⟩
theorem lX8_9 : Cond.methodLinkNest RX8 9 yX1_init "Loopdefaults" ∈ z_nst := (z_wn 93 ((lwt_1_1 18).trans rfl) (by decide +kernel))
theorem fX8_10 : z_F RX8 10 12 0 := ⟨(RX8, TX8, 9), "Loopdefaults", rfl, by decide, iX8, Or.inl (z_w 184 ((lwt_1_4 19).trans rfl) (by decide +kernel)), Or.inl rfl⟩
theorem nX8_16 : z_N RX8 16 9 [.int 0, .null, .null, .null, .int 0] := ⟨(RX4, TX4, 5), tyX4, rfl, iX4, (z_w 127 ((lwt_1_2 22).trans rfl) (by decide +kernel)), (z_w 128 ((lwt_1_2 23).trans rfl) (by decide +kernel)), (z_w 49 ((lwg_1 4).trans rfl) (by decide +kernel)), tyX4_ok, rfl, by decide, rfl⟩
theorem lX8_18 : Cond.methodLink RX8 18 yX4_init ∈ z_tbl := (z_w 129 ((lwt_1_2 24).trans rfl) (by decide +kernel))
theorem fX8_21 : z_F RX8 21 12 1 := ⟨(RX8, TX8, 9), "Loopdefaults", rfl, by decide, iX8, Or.inl (z_w 185 ((lwt_1_4 20).trans rfl) (by decide +kernel)), Or.inl rfl⟩
theorem aX8_16 : Cond.classLink RX8 16 "Loopdefaults$Table" ∈ z_tbl := (z_w 127 ((lwt_1_2 22).trans rfl) (by decide +kernel))
theorem ao_X4 : Cond.arrayOver (.object "Loopdefaults$Table") ∈ z_nst := (z_wn 155 ((lwt_1_3 20).trans rfl) (by decide +kernel))
theorem fX8_25 : z_F RX8 25 12 2 := ⟨(RX8, TX8, 9), "Loopdefaults", rfl, by decide, iX8, Or.inl (z_w 186 ((lwt_1_4 21).trans rfl) (by decide +kernel)), Or.inl rfl⟩
theorem aX8_29 : Cond.classLink RX8 29 "Loopdefaults$Hearer" ∈ z_tbl := (z_w 156 ((lwt_1_3 21).trans rfl) (by decide +kernel))
theorem ao_X0 : Cond.arrayOver (.object "Loopdefaults$Hearer") ∈ z_nst := (z_wn 157 ((lwt_1_3 22).trans rfl) (by decide +kernel))
theorem nX8_29 : z_N RX8 29 5 [.null, .int 0, .int 0, .int 0, .int 0, .int 0] := ⟨(RX0, TX0, 6), tyX0, rfl, iX0, (z_w 156 ((lwt_1_3 21).trans rfl) (by decide +kernel)), (z_w 158 ((lwt_1_3 23).trans rfl) (by decide +kernel)), (z_w 50 ((lwg_1 5).trans rfl) (by decide +kernel)), tyX0_ok, rfl, by decide, rfl⟩
theorem lX8_31 : Cond.methodLinkNest RX8 31 yX0_init "Loopdefaults" ∈ z_nst := (z_wn 159 ((lwt_1_3 24).trans rfl) (by decide +kernel))
theorem fX8_32 : z_F RX8 32 12 3 := ⟨(RX8, TX8, 9), "Loopdefaults", rfl, by decide, iX8, Or.inl (z_w 187 ((lwt_1_4 22).trans rfl) (by decide +kernel)), Or.inl rfl⟩
theorem fX8_36 : z_F RX8 36 12 4 := ⟨(RX8, TX8, 9), "Loopdefaults", rfl, by decide, iX8, Or.inl (z_w 188 ((lwt_1_4 23).trans rfl) (by decide +kernel)), Or.inl rfl⟩
theorem fX8_40 : z_F RX8 40 12 5 := ⟨(RX8, TX8, 9), "Loopdefaults", rfl, by decide, iX8, Or.inl (z_w 189 ((lwt_1_4 24).trans rfl) (by decide +kernel)), Or.inl rfl⟩
theorem fX8_43 : z_F RX8 43 12 6 := ⟨(RX8, TX8, 9), "Loopdefaults", rfl, by decide, iX8, Or.inl (z_w 190 ((lwt_1_4 25).trans rfl) (by decide +kernel)), Or.inl rfl⟩
abbrev mX8_type : z_M := (yX8_type, cX8_type, 4, (some .int), [])
theorem kX8_type : z_okm mX8_type 2 := ⟨rfl, (z_w 853 ((lwt_4_2 28).trans rfl) (by decide +kernel)), (z_w 46 ((lwg_1 1).trans rfl) (by decide +kernel)), ncl_X8, pds_22, by decide⟩
theorem inX8_type : Cond.instanceMethod yX8_type ∈ z_tbl := (z_w 851 ((lwt_4_2 26).trans rfl) (by decide +kernel))
theorem seX8_type : Cond.selects RX8 yX8_type yX8_type ∈ z_tbl := (z_w 852 ((lwt_4_2 27).trans rfl) (by decide +kernel))
abbrev mX8_rowFor : z_M := (yX8_rowFor, cX8_rowFor, 2, (some (.object "Loopdefaults$Row")), [])
theorem pds_31 : (parseMethodDescriptor "(I)LLoopdefaults$Row;").map (fun d => d.parameters.length) = some 1 := by decide +kernel
theorem kX8_rowFor : z_okm mX8_rowFor 1 := ⟨rfl, (z_w 857 ((lwt_4_3 2).trans rfl) (by decide +kernel)), (z_w 46 ((lwg_1 1).trans rfl) (by decide +kernel)), ncl_X8, pds_31, by decide⟩
theorem inX8_rowFor : Cond.instanceMethod yX8_rowFor ∈ z_tbl := (z_w 856 ((lwt_4_3 1).trans rfl) (by decide +kernel))
theorem seX8_rowFor : Cond.selects RX8 yX8_rowFor yX8_rowFor ∈ z_tbl := (z_w 12 (by decide +kernel) (by decide +kernel))
theorem lX8_46 : Cond.methodLink RX8 46 yX8_rowFor ∈ z_tbl := (z_w 854 ((lwt_4_2 29).trans rfl) (by decide +kernel))
abbrev mX8_checkValue : z_M := (yX8_checkValue, cX8_checkValue, 1, none, [])
theorem kX8_checkValue : z_okm mX8_checkValue 1 := ⟨rfl, (z_w 876 ((lwt_4_3 21).trans rfl) (by decide +kernel)), (z_w 46 ((lwg_1 1).trans rfl) (by decide +kernel)), ncl_X8, pds_3, by decide⟩
theorem stX8_checkValue : Cond.static yX8_checkValue ∈ z_tbl := (z_w 875 ((lwt_4_3 20).trans rfl) (by decide +kernel))
theorem lX8_50 : Cond.methodLink RX8 50 yX8_checkValue ∈ z_tbl := (z_w 874 ((lwt_4_3 19).trans rfl) (by decide +kernel))
theorem lX8_54 : Cond.methodLink RX8 54 yX1_isFull ∈ z_tbl := (z_w 877 ((lwt_4_3 22).trans rfl) (by decide +kernel))
-- call X8 62: ('"java/lang/IllegalStateException"', '"<init>"', '"(Ljava/lang/String;)V"')
theorem lX8_65 : Cond.methodLink RX8 65 yX1_append ∈ z_tbl := (z_w 897 ((lwt_4_4 12).trans rfl) (by decide +kernel))
theorem fX8_68 : z_F RX8 68 6 2 := ⟨(RX1, TX1, 4), "Loopdefaults$Row", rfl, by decide, iX1, Or.inr ⟨"Loopdefaults", (z_wn 115 ((lwt_1_2 10).trans rfl) (by decide +kernel))⟩, Or.inl rfl⟩
abbrev mX8_drop : z_M := (yX8_drop, cX8_drop, 4, (some .int), [])
theorem kX8_drop : z_okm mX8_drop 2 := ⟨rfl, (z_w 907 ((lwt_4_4 22).trans rfl) (by decide +kernel)), (z_w 46 ((lwg_1 1).trans rfl) (by decide +kernel)), ncl_X8, pds_22, by decide⟩
theorem inX8_drop : Cond.instanceMethod yX8_drop ∈ z_tbl := (z_w 905 ((lwt_4_4 20).trans rfl) (by decide +kernel))
theorem seX8_drop : Cond.selects RX8 yX8_drop yX8_drop ∈ z_tbl := (z_w 906 ((lwt_4_4 21).trans rfl) (by decide +kernel))
abbrev mX8_checkRange : z_M := (yX8_checkRange, cX8_checkRange, 3, none, [])
theorem kX8_checkRange : z_okm mX8_checkRange 3 := ⟨rfl, (z_w 457 ((lwt_2_5 22).trans rfl) (by decide +kernel)), (z_w 46 ((lwg_1 1).trans rfl) (by decide +kernel)), ncl_X8, pds_19, by decide⟩
theorem stX8_checkRange : Cond.static yX8_checkRange ∈ z_tbl := (z_w 456 ((lwt_2_5 21).trans rfl) (by decide +kernel))
theorem lX8_72 : Cond.methodLink RX8 72 yX8_checkRange ∈ z_tbl := (z_w 455 ((lwt_2_5 20).trans rfl) (by decide +kernel))
theorem lX8_76 : Cond.methodLink RX8 76 yX1_shorten ∈ z_tbl := (z_w 908 ((lwt_4_4 23).trans rfl) (by decide +kernel))
abbrev mX8_fix : z_M := (yX8_fix, cX8_fix, 5, (some .int), [])
theorem pds_32 : (parseMethodDescriptor "(IZ)I").map (fun d => d.parameters.length) = some 2 := by decide +kernel
theorem kX8_fix : z_okm mX8_fix 2 := ⟨rfl, (z_w 918 ((lwt_4_5 3).trans rfl) (by decide +kernel)), (z_w 46 ((lwg_1 1).trans rfl) (by decide +kernel)), ncl_X8, pds_32, by decide⟩
theorem inX8_fix : Cond.instanceMethod yX8_fix ∈ z_tbl := (z_w 916 ((lwt_4_5 1).trans rfl) (by decide +kernel))
theorem seX8_fix : Cond.selects RX8 yX8_fix yX8_fix ∈ z_tbl := (z_w 917 ((lwt_4_5 2).trans rfl) (by decide +kernel))
theorem fX8_79 : z_F RX8 79 6 3 := ⟨(RX1, TX1, 4), "Loopdefaults$Row", rfl, by decide, iX1, Or.inr ⟨"Loopdefaults", (z_wn 117 ((lwt_1_2 12).trans rfl) (by decide +kernel))⟩, Or.inl rfl⟩
abbrev mX8_oneIf : z_M := (yX8_oneIf, cX8_oneIf, 1, (some .int), [])
theorem pds_33 : (parseMethodDescriptor "(Z)I").map (fun d => d.parameters.length) = some 1 := by decide +kernel
theorem kX8_oneIf : z_okm mX8_oneIf 1 := ⟨rfl, (z_w 361 ((lwt_2_2 16).trans rfl) (by decide +kernel)), (z_w 46 ((lwg_1 1).trans rfl) (by decide +kernel)), ncl_X8, pds_33, by decide⟩
theorem stX8_oneIf : Cond.static yX8_oneIf ∈ z_tbl := (z_w 360 ((lwt_2_2 15).trans rfl) (by decide +kernel))
theorem lX8_83 : Cond.methodLink RX8 83 yX8_oneIf ∈ z_tbl := (z_w 359 ((lwt_2_2 14).trans rfl) (by decide +kernel))
abbrev mX8_hear : z_M := (yX8_hear, cX8_hear, 5, (some .int), [])
theorem kX8_hear : z_okm mX8_hear 2 := ⟨rfl, (z_w 925 ((lwt_4_5 10).trans rfl) (by decide +kernel)), (z_w 46 ((lwg_1 1).trans rfl) (by decide +kernel)), ncl_X8, pds_22, by decide⟩
theorem inX8_hear : Cond.instanceMethod yX8_hear ∈ z_tbl := (z_w 923 ((lwt_4_5 8).trans rfl) (by decide +kernel))
theorem seX8_hear : Cond.selects RX8 yX8_hear yX8_hear ∈ z_tbl := (z_w 924 ((lwt_4_5 9).trans rfl) (by decide +kernel))
abbrev mX8_hearerFor : z_M := (yX8_hearerFor, cX8_hearerFor, 2, (some (.object "Loopdefaults$Hearer")), [])
theorem pds_34 : (parseMethodDescriptor "(I)LLoopdefaults$Hearer;").map (fun d => d.parameters.length) = some 1 := by decide +kernel
theorem kX8_hearerFor : z_okm mX8_hearerFor 1 := ⟨rfl, (z_w 929 ((lwt_4_5 14).trans rfl) (by decide +kernel)), (z_w 46 ((lwg_1 1).trans rfl) (by decide +kernel)), ncl_X8, pds_34, by decide⟩
theorem inX8_hearerFor : Cond.instanceMethod yX8_hearerFor ∈ z_tbl := (z_w 928 ((lwt_4_5 13).trans rfl) (by decide +kernel))
theorem seX8_hearerFor : Cond.selects RX8 yX8_hearerFor yX8_hearerFor ∈ z_tbl := (z_w 13 (by decide +kernel) (by decide +kernel))
theorem lX8_87 : Cond.methodLink RX8 87 yX8_hearerFor ∈ z_tbl := (z_w 926 ((lwt_4_5 11).trans rfl) (by decide +kernel))
theorem nX8_91 : z_N RX8 91 7 [.null, .int 0, .int 0, .null, .int 0] := ⟨(RX2, TX2, 5), tyX2, rfl, iX2, (z_w 239 ((lwt_1_6 14).trans rfl) (by decide +kernel)), (z_w 240 ((lwt_1_6 15).trans rfl) (by decide +kernel)), (z_w 73 ((lwg_1 28).trans rfl) (by decide +kernel)), tyX2_ok, rfl, by decide, rfl⟩
theorem lX8_93 : Cond.methodLink RX8 93 yX2_init ∈ z_tbl := (z_w 241 ((lwt_1_6 16).trans rfl) (by decide +kernel))
abbrev mX8_hearOut : z_M := (yX8_hearOut, cX8_hearOut, 4, (some .int), [])
theorem pds_35 : (parseMethodDescriptor "(LLoopdefaults$Walk;LLoopdefaults$Hearer;)I").map (fun d => d.parameters.length) = some 2 := by decide +kernel
theorem kX8_hearOut : z_okm mX8_hearOut 2 := ⟨rfl, (z_w 933 ((lwt_4_5 18).trans rfl) (by decide +kernel)), (z_w 46 ((lwg_1 1).trans rfl) (by decide +kernel)), ncl_X8, pds_35, by decide⟩
theorem stX8_hearOut : Cond.static yX8_hearOut ∈ z_tbl := (z_w 932 ((lwt_4_5 17).trans rfl) (by decide +kernel))
theorem lX8_96 : Cond.methodLink RX8 96 yX8_hearOut ∈ z_tbl := (z_w 931 ((lwt_4_5 16).trans rfl) (by decide +kernel))
abbrev mX8_answer : z_M := (yX8_answer, cX8_answer, 2, (some .int), [])
theorem kX8_answer : z_okm mX8_answer 1 := ⟨rfl, (z_w 949 ((lwt_4_6 4).trans rfl) (by decide +kernel)), (z_w 46 ((lwg_1 1).trans rfl) (by decide +kernel)), ncl_X8, pds_4, by decide⟩
theorem inX8_answer : Cond.instanceMethod yX8_answer ∈ z_tbl := (z_w 948 ((lwt_4_6 3).trans rfl) (by decide +kernel))
theorem seX8_answer : Cond.selects RX8 yX8_answer yX8_answer ∈ z_tbl := (z_w 16 (by decide +kernel) (by decide +kernel))
theorem lX8_100 : Cond.methodLink RX8 100 yX8_answer ∈ z_tbl := (z_w 946 ((lwt_4_6 1).trans rfl) (by decide +kernel))
abbrev mX8_rest : z_M := (yX8_rest, cX8_rest, 7, (some .int), [])
theorem kX8_rest : z_okm mX8_rest 3 := ⟨rfl, (z_w 960 ((lwt_4_6 15).trans rfl) (by decide +kernel)), (z_w 46 ((lwg_1 1).trans rfl) (by decide +kernel)), ncl_X8, pds_25, by decide⟩
theorem inX8_rest : Cond.instanceMethod yX8_rest ∈ z_tbl := (z_w 958 ((lwt_4_6 13).trans rfl) (by decide +kernel))
theorem seX8_rest : Cond.selects RX8 yX8_rest yX8_rest ∈ z_tbl := (z_w 959 ((lwt_4_6 14).trans rfl) (by decide +kernel))
abbrev mX8_passBy : z_M := (yX8_passBy, cX8_passBy, 3, none, [])
theorem pds_36 : (parseMethodDescriptor "(LLoopdefaults$Walk;I)V").map (fun d => d.parameters.length) = some 2 := by decide +kernel
theorem kX8_passBy : z_okm mX8_passBy 2 := ⟨rfl, (z_w 963 ((lwt_4_6 18).trans rfl) (by decide +kernel)), (z_w 46 ((lwg_1 1).trans rfl) (by decide +kernel)), ncl_X8, pds_36, by decide⟩
theorem stX8_passBy : Cond.static yX8_passBy ∈ z_tbl := (z_w 962 ((lwt_4_6 17).trans rfl) (by decide +kernel))
theorem lX8_104 : Cond.methodLink RX8 104 yX8_passBy ∈ z_tbl := (z_w 961 ((lwt_4_6 16).trans rfl) (by decide +kernel))
abbrev mX8_removeIf : z_M := (yX8_removeIf, cX8_removeIf, 5, (some .int), [])
theorem kX8_removeIf : z_okm mX8_removeIf 3 := ⟨rfl, (z_w 970 ((lwt_4_6 25).trans rfl) (by decide +kernel)), (z_w 46 ((lwg_1 1).trans rfl) (by decide +kernel)), ncl_X8, pds_25, by decide⟩
theorem inX8_removeIf : Cond.instanceMethod yX8_removeIf ∈ z_tbl := (z_w 968 ((lwt_4_6 23).trans rfl) (by decide +kernel))
theorem seX8_removeIf : Cond.selects RX8 yX8_removeIf yX8_removeIf ∈ z_tbl := (z_w 969 ((lwt_4_6 24).trans rfl) (by decide +kernel))
abbrev mX8_takeEach : z_M := (yX8_takeEach, cX8_takeEach, 6, (some .int), [])
theorem pds_37 : (parseMethodDescriptor "(LLoopdefaults$RowWalk;II)I").map (fun d => d.parameters.length) = some 3 := by decide +kernel
theorem kX8_takeEach : z_okm mX8_takeEach 3 := ⟨rfl, (z_w 344 ((lwt_2_1 29).trans rfl) (by decide +kernel)), (z_w 46 ((lwg_1 1).trans rfl) (by decide +kernel)), ncl_X8, pds_37, by decide⟩
theorem stX8_takeEach : Cond.static yX8_takeEach ∈ z_tbl := (z_w 343 ((lwt_2_1 28).trans rfl) (by decide +kernel))
theorem lX8_108 : Cond.methodLink RX8 108 yX8_takeEach ∈ z_tbl := (z_w 342 ((lwt_2_1 27).trans rfl) (by decide +kernel))
abbrev mX8_replaceAll : z_M := (yX8_replaceAll, cX8_replaceAll, 6, (some .int), [])
theorem kX8_replaceAll : z_okm mX8_replaceAll 3 := ⟨rfl, (z_w 977 ((lwt_4_7 2).trans rfl) (by decide +kernel)), (z_w 46 ((lwg_1 1).trans rfl) (by decide +kernel)), ncl_X8, pds_25, by decide⟩
theorem inX8_replaceAll : Cond.instanceMethod yX8_replaceAll ∈ z_tbl := (z_w 975 ((lwt_4_7 0).trans rfl) (by decide +kernel))
theorem seX8_replaceAll : Cond.selects RX8 yX8_replaceAll yX8_replaceAll ∈ z_tbl := (z_w 976 ((lwt_4_7 1).trans rfl) (by decide +kernel))
abbrev mX8_checkRule : z_M := (yX8_checkRule, cX8_checkRule, 1, none, [])
theorem kX8_checkRule : z_okm mX8_checkRule 1 := ⟨rfl, (z_w 980 ((lwt_4_7 5).trans rfl) (by decide +kernel)), (z_w 46 ((lwg_1 1).trans rfl) (by decide +kernel)), ncl_X8, pds_21, by decide⟩
theorem stX8_checkRule : Cond.static yX8_checkRule ∈ z_tbl := (z_w 979 ((lwt_4_7 4).trans rfl) (by decide +kernel))
theorem lX8_112 : Cond.methodLink RX8 112 yX8_checkRule ∈ z_tbl := (z_w 978 ((lwt_4_7 3).trans rfl) (by decide +kernel))
abbrev mX8_changeEach : z_M := (yX8_changeEach, cX8_changeEach, 5, (some .boolean), [])
theorem pds_38 : (parseMethodDescriptor "(LLoopdefaults$Walk;II)Z").map (fun d => d.parameters.length) = some 3 := by decide +kernel
theorem kX8_changeEach : z_okm mX8_changeEach 3 := ⟨rfl, (z_w 984 ((lwt_4_7 9).trans rfl) (by decide +kernel)), (z_w 46 ((lwg_1 1).trans rfl) (by decide +kernel)), ncl_X8, pds_38, by decide⟩
theorem stX8_changeEach : Cond.static yX8_changeEach ∈ z_tbl := (z_w 983 ((lwt_4_7 8).trans rfl) (by decide +kernel))
theorem lX8_115 : Cond.methodLink RX8 115 yX8_changeEach ∈ z_tbl := (z_w 982 ((lwt_4_7 7).trans rfl) (by decide +kernel))
abbrev mX8_refused : z_M := (yX8_refused, cX8_refused, 1, (some .int), [])
theorem kX8_refused : z_okm mX8_refused 0 := ⟨rfl, (z_w 953 ((lwt_4_6 8).trans rfl) (by decide +kernel)), (z_w 46 ((lwg_1 1).trans rfl) (by decide +kernel)), ncl_X8, pds_17, by decide⟩
theorem inX8_refused : Cond.instanceMethod yX8_refused ∈ z_tbl := (z_w 952 ((lwt_4_6 7).trans rfl) (by decide +kernel))
theorem seX8_refused : Cond.selects RX8 yX8_refused yX8_refused ∈ z_tbl := (z_w 17 (by decide +kernel) (by decide +kernel))
theorem lX8_119 : Cond.methodLink RX8 119 yX8_refused ∈ z_tbl := (z_w 950 ((lwt_4_6 5).trans rfl) (by decide +kernel))
abbrev mX8_copy : z_M := (yX8_copy, cX8_copy, 3, (some .int), [])
theorem kX8_copy : z_okm mX8_copy 1 := ⟨rfl, (z_w 1010 ((lwg_5 5).trans rfl) (by decide +kernel)), (z_w 46 ((lwg_1 1).trans rfl) (by decide +kernel)), ncl_X8, pds_4, by decide⟩
theorem inX8_copy : Cond.instanceMethod yX8_copy ∈ z_tbl := (z_w 1008 ((lwg_5 3).trans rfl) (by decide +kernel))
theorem seX8_copy : Cond.selects RX8 yX8_copy yX8_copy ∈ z_tbl := (z_w 1009 ((lwg_5 4).trans rfl) (by decide +kernel))
theorem lX8_123 : Cond.methodLink RX8 123 yX1_become ∈ z_tbl := (z_w 232 ((lwt_1_6 7).trans rfl) (by decide +kernel))
abbrev mX8_put : z_M := (yX8_put, cX8_put, 5, (some .int), [])
theorem kX8_put : z_okm mX8_put 3 := ⟨rfl, (z_w 1017 ((lwg_5 12).trans rfl) (by decide +kernel)), (z_w 46 ((lwg_1 1).trans rfl) (by decide +kernel)), ncl_X8, pds_25, by decide⟩
theorem inX8_put : Cond.instanceMethod yX8_put ∈ z_tbl := (z_w 1015 ((lwg_5 10).trans rfl) (by decide +kernel))
theorem seX8_put : Cond.selects RX8 yX8_put yX8_put ∈ z_tbl := (z_w 1016 ((lwg_5 11).trans rfl) (by decide +kernel))
abbrev mX8_tableFor_ : z_M := (yX8_tableFor_, cX8_tableFor_, 4, (some (.object "Loopdefaults$Table")), [])
theorem pds_39 : (parseMethodDescriptor "(II)LLoopdefaults$Table;").map (fun d => d.parameters.length) = some 2 := by decide +kernel
theorem kX8_tableFor_ : z_okm mX8_tableFor_ 2 := ⟨rfl, (z_w 1021 ((lwg_5 16).trans rfl) (by decide +kernel)), (z_w 46 ((lwg_1 1).trans rfl) (by decide +kernel)), ncl_X8, pds_39, by decide⟩
theorem inX8_tableFor_ : Cond.instanceMethod yX8_tableFor_ ∈ z_tbl := (z_w 1020 ((lwg_5 15).trans rfl) (by decide +kernel))
theorem seX8_tableFor_ : Cond.selects RX8 yX8_tableFor_ yX8_tableFor_ ∈ z_tbl := (z_w 18 (by decide +kernel) (by decide +kernel))
theorem lX8_126 : Cond.methodLink RX8 126 yX8_tableFor_ ∈ z_tbl := (z_w 1018 ((lwg_5 13).trans rfl) (by decide +kernel))
theorem lX8_130 : Cond.methodLink RX8 130 yX4_store ∈ z_tbl := (z_w 1030 ((lwg_5 25).trans rfl) (by decide +kernel))
abbrev mX8_remove : z_M := (yX8_remove, cX8_remove, 3, (some .int), [])
theorem kX8_remove : z_okm mX8_remove 2 := ⟨rfl, (z_w 1037 ((lwt_5_1 2).trans rfl) (by decide +kernel)), (z_w 46 ((lwg_1 1).trans rfl) (by decide +kernel)), ncl_X8, pds_22, by decide⟩
theorem inX8_remove : Cond.instanceMethod yX8_remove ∈ z_tbl := (z_w 1035 ((lwt_5_1 0).trans rfl) (by decide +kernel))
theorem seX8_remove : Cond.selects RX8 yX8_remove yX8_remove ∈ z_tbl := (z_w 1036 ((lwt_5_1 1).trans rfl) (by decide +kernel))
theorem lX8_134 : Cond.methodLink RX8 134 yX4_sendAway ∈ z_tbl := (z_w 1038 ((lwt_5_1 3).trans rfl) (by decide +kernel))
abbrev mX8_putIfAbsent : z_M := (yX8_putIfAbsent, cX8_putIfAbsent, 6, (some .int), [])
theorem kX8_putIfAbsent : z_okm mX8_putIfAbsent 3 := ⟨rfl, (z_w 1045 ((lwt_5_1 10).trans rfl) (by decide +kernel)), (z_w 46 ((lwg_1 1).trans rfl) (by decide +kernel)), ncl_X8, pds_25, by decide⟩
theorem inX8_putIfAbsent : Cond.instanceMethod yX8_putIfAbsent ∈ z_tbl := (z_w 1043 ((lwt_5_1 8).trans rfl) (by decide +kernel))
theorem seX8_putIfAbsent : Cond.selects RX8 yX8_putIfAbsent yX8_putIfAbsent ∈ z_tbl := (z_w 1044 ((lwt_5_1 9).trans rfl) (by decide +kernel))
theorem lX8_137 : Cond.methodLink RX8 137 yX4_look ∈ z_tbl := (z_w 549 ((lwg_3 24).trans rfl) (by decide +kernel))
abbrev mX8_replace : z_M := (yX8_replace, cX8_replace, 5, (some .int), [])
theorem kX8_replace : z_okm mX8_replace 3 := ⟨rfl, (z_w 1052 ((lwt_5_1 17).trans rfl) (by decide +kernel)), (z_w 46 ((lwg_1 1).trans rfl) (by decide +kernel)), ncl_X8, pds_25, by decide⟩
theorem inX8_replace : Cond.instanceMethod yX8_replace ∈ z_tbl := (z_w 1050 ((lwt_5_1 15).trans rfl) (by decide +kernel))
theorem seX8_replace : Cond.selects RX8 yX8_replace yX8_replace ∈ z_tbl := (z_w 1051 ((lwt_5_1 16).trans rfl) (by decide +kernel))
abbrev mX8_replaceIf : z_M := (yX8_replaceIf, cX8_replaceIf, 6, (some .boolean), [])
theorem pds_40 : (parseMethodDescriptor "(IIII)Z").map (fun d => d.parameters.length) = some 4 := by decide +kernel
theorem kX8_replaceIf : z_okm mX8_replaceIf 4 := ⟨rfl, (z_w 1059 ((lwt_5_1 24).trans rfl) (by decide +kernel)), (z_w 46 ((lwg_1 1).trans rfl) (by decide +kernel)), ncl_X8, pds_40, by decide⟩
theorem inX8_replaceIf : Cond.instanceMethod yX8_replaceIf ∈ z_tbl := (z_w 1057 ((lwt_5_1 22).trans rfl) (by decide +kernel))
theorem seX8_replaceIf : Cond.selects RX8 yX8_replaceIf yX8_replaceIf ∈ z_tbl := (z_w 1058 ((lwt_5_1 23).trans rfl) (by decide +kernel))
abbrev mX8_removePair : z_M := (yX8_removePair, cX8_removePair, 5, (some .boolean), [])
theorem pds_41 : (parseMethodDescriptor "(III)Z").map (fun d => d.parameters.length) = some 3 := by decide +kernel
theorem kX8_removePair : z_okm mX8_removePair 3 := ⟨rfl, (z_w 1066 ((lwt_5_2 1).trans rfl) (by decide +kernel)), (z_w 46 ((lwg_1 1).trans rfl) (by decide +kernel)), ncl_X8, pds_41, by decide⟩
theorem inX8_removePair : Cond.instanceMethod yX8_removePair ∈ z_tbl := (z_w 1064 ((lwt_5_1 29).trans rfl) (by decide +kernel))
theorem seX8_removePair : Cond.selects RX8 yX8_removePair yX8_removePair ∈ z_tbl := (z_w 1065 ((lwt_5_2 0).trans rfl) (by decide +kernel))
abbrev mX8_computeIfAbsent : z_M := (yX8_computeIfAbsent, cX8_computeIfAbsent, 6, (some .int), [])
theorem kX8_computeIfAbsent : z_okm mX8_computeIfAbsent 4 := ⟨rfl, (z_w 1073 ((lwt_5_2 8).trans rfl) (by decide +kernel)), (z_w 46 ((lwg_1 1).trans rfl) (by decide +kernel)), ncl_X8, pds_26, by decide⟩
theorem inX8_computeIfAbsent : Cond.instanceMethod yX8_computeIfAbsent ∈ z_tbl := (z_w 1071 ((lwt_5_2 6).trans rfl) (by decide +kernel))
theorem seX8_computeIfAbsent : Cond.selects RX8 yX8_computeIfAbsent yX8_computeIfAbsent ∈ z_tbl := (z_w 1072 ((lwt_5_2 7).trans rfl) (by decide +kernel))
abbrev mX8_tableToReckon : z_M := (yX8_tableToReckon, cX8_tableToReckon, 6, (some (.object "Loopdefaults$Table")), [])
theorem pds_42 : (parseMethodDescriptor "(IIII)LLoopdefaults$Table;").map (fun d => d.parameters.length) = some 4 := by decide +kernel
theorem kX8_tableToReckon : z_okm mX8_tableToReckon 4 := ⟨rfl, (z_w 1077 ((lwt_5_2 12).trans rfl) (by decide +kernel)), (z_w 46 ((lwg_1 1).trans rfl) (by decide +kernel)), ncl_X8, pds_42, by decide⟩
theorem inX8_tableToReckon : Cond.instanceMethod yX8_tableToReckon ∈ z_tbl := (z_w 1076 ((lwt_5_2 11).trans rfl) (by decide +kernel))
theorem seX8_tableToReckon : Cond.selects RX8 yX8_tableToReckon yX8_tableToReckon ∈ z_tbl := (z_w 20 (by decide +kernel) (by decide +kernel))
theorem lX8_140 : Cond.methodLink RX8 140 yX8_tableToReckon ∈ z_tbl := (z_w 1074 ((lwt_5_2 9).trans rfl) (by decide +kernel))
theorem lX8_144 : Cond.methodLink RX8 144 yX4_reckonAbsent ∈ z_tbl := (z_w 433 ((lwt_2_4 28).trans rfl) (by decide +kernel))
abbrev mX8_computeIfPresent : z_M := (yX8_computeIfPresent, cX8_computeIfPresent, 6, (some .int), [])
theorem kX8_computeIfPresent : z_okm mX8_computeIfPresent 4 := ⟨rfl, (z_w 1084 ((lwt_5_2 19).trans rfl) (by decide +kernel)), (z_w 46 ((lwg_1 1).trans rfl) (by decide +kernel)), ncl_X8, pds_26, by decide⟩
theorem inX8_computeIfPresent : Cond.instanceMethod yX8_computeIfPresent ∈ z_tbl := (z_w 1082 ((lwt_5_2 17).trans rfl) (by decide +kernel))
theorem seX8_computeIfPresent : Cond.selects RX8 yX8_computeIfPresent yX8_computeIfPresent ∈ z_tbl := (z_w 1083 ((lwt_5_2 18).trans rfl) (by decide +kernel))
theorem lX8_148 : Cond.methodLink RX8 148 yX4_reckonPresent ∈ z_tbl := (z_w 437 ((lwt_2_5 2).trans rfl) (by decide +kernel))
abbrev mX8_compute : z_M := (yX8_compute, cX8_compute, 6, (some .int), [])
theorem kX8_compute : z_okm mX8_compute 4 := ⟨rfl, (z_w 1091 ((lwt_5_2 26).trans rfl) (by decide +kernel)), (z_w 46 ((lwg_1 1).trans rfl) (by decide +kernel)), ncl_X8, pds_26, by decide⟩
theorem inX8_compute : Cond.instanceMethod yX8_compute ∈ z_tbl := (z_w 1089 ((lwt_5_2 24).trans rfl) (by decide +kernel))
theorem seX8_compute : Cond.selects RX8 yX8_compute yX8_compute ∈ z_tbl := (z_w 1090 ((lwt_5_2 25).trans rfl) (by decide +kernel))
theorem lX8_151 : Cond.methodLink RX8 151 yX4_reckon ∈ z_tbl := (z_w 402 ((lwt_2_3 27).trans rfl) (by decide +kernel))
abbrev mX8_merge : z_M := (yX8_merge, cX8_merge, 6, (some .int), [])
theorem kX8_merge : z_okm mX8_merge 4 := ⟨rfl, (z_w 1098 ((lwt_5_3 3).trans rfl) (by decide +kernel)), (z_w 46 ((lwg_1 1).trans rfl) (by decide +kernel)), ncl_X8, pds_26, by decide⟩
theorem inX8_merge : Cond.instanceMethod yX8_merge ∈ z_tbl := (z_w 1096 ((lwt_5_3 1).trans rfl) (by decide +kernel))
theorem seX8_merge : Cond.selects RX8 yX8_merge yX8_merge ∈ z_tbl := (z_w 1097 ((lwt_5_3 2).trans rfl) (by decide +kernel))
theorem lX8_154 : Cond.methodLink RX8 154 yX4_join ∈ z_tbl := (z_w 442 ((lwt_2_5 7).trans rfl) (by decide +kernel))
abbrev mX8_hearTable : z_M := (yX8_hearTable, cX8_hearTable, 5, (some .int), [])
theorem kX8_hearTable : z_okm mX8_hearTable 2 := ⟨rfl, (z_w 1105 ((lwt_5_3 10).trans rfl) (by decide +kernel)), (z_w 46 ((lwg_1 1).trans rfl) (by decide +kernel)), ncl_X8, pds_22, by decide⟩
theorem inX8_hearTable : Cond.instanceMethod yX8_hearTable ∈ z_tbl := (z_w 1103 ((lwt_5_3 8).trans rfl) (by decide +kernel))
theorem seX8_hearTable : Cond.selects RX8 yX8_hearTable yX8_hearTable ∈ z_tbl := (z_w 1104 ((lwt_5_3 9).trans rfl) (by decide +kernel))
abbrev mX8_tableFor : z_M := (yX8_tableFor, cX8_tableFor, 2, (some (.object "Loopdefaults$Table")), [])
theorem pds_43 : (parseMethodDescriptor "(I)LLoopdefaults$Table;").map (fun d => d.parameters.length) = some 1 := by decide +kernel
theorem kX8_tableFor : z_okm mX8_tableFor 1 := ⟨rfl, (z_w 1025 ((lwg_5 20).trans rfl) (by decide +kernel)), (z_w 46 ((lwg_1 1).trans rfl) (by decide +kernel)), ncl_X8, pds_43, by decide⟩
theorem inX8_tableFor : Cond.instanceMethod yX8_tableFor ∈ z_tbl := (z_w 1024 ((lwg_5 19).trans rfl) (by decide +kernel))
theorem seX8_tableFor : Cond.selects RX8 yX8_tableFor yX8_tableFor ∈ z_tbl := (z_w 19 (by decide +kernel) (by decide +kernel))
theorem lX8_157 : Cond.methodLink RX8 157 yX8_tableFor ∈ z_tbl := (z_w 1022 ((lwg_5 17).trans rfl) (by decide +kernel))
theorem nX8_160 : z_N RX8 160 10 [.null, .int 0, .int 0, .null, .int 0] := ⟨(RX5, TX5, 5), tyX5, rfl, iX5, (z_w 1106 ((lwt_5_3 11).trans rfl) (by decide +kernel)), (z_w 1107 ((lwt_5_3 12).trans rfl) (by decide +kernel)), (z_w 79 ((lwt_1_1 4).trans rfl) (by decide +kernel)), tyX5_ok, rfl, by decide, rfl⟩
theorem lX8_162 : Cond.methodLink RX8 162 yX5_init ∈ z_tbl := (z_w 1108 ((lwt_5_3 13).trans rfl) (by decide +kernel))
abbrev mX8_replaceTable : z_M := (yX8_replaceTable, cX8_replaceTable, 6, (some .int), [])
theorem kX8_replaceTable : z_okm mX8_replaceTable 3 := ⟨rfl, (z_w 1128 ((lwt_5_4 3).trans rfl) (by decide +kernel)), (z_w 46 ((lwg_1 1).trans rfl) (by decide +kernel)), ncl_X8, pds_25, by decide⟩
theorem inX8_replaceTable : Cond.instanceMethod yX8_replaceTable ∈ z_tbl := (z_w 1126 ((lwt_5_4 1).trans rfl) (by decide +kernel))
theorem seX8_replaceTable : Cond.selects RX8 yX8_replaceTable yX8_replaceTable ∈ z_tbl := (z_w 1127 ((lwt_5_4 2).trans rfl) (by decide +kernel))
theorem fX8_165 : z_F RX8 165 9 4 := ⟨(RX4, TX4, 5), "Loopdefaults$Table", rfl, by decide, iX4, Or.inr ⟨"Loopdefaults", (z_wn 143 ((lwt_1_3 8).trans rfl) (by decide +kernel))⟩, Or.inl rfl⟩
abbrev mX8_clear : z_M := (yX8_clear, cX8_clear, 2, (some .int), [])
theorem kX8_clear : z_okm mX8_clear 1 := ⟨rfl, (z_w 1135 ((lwt_5_4 10).trans rfl) (by decide +kernel)), (z_w 46 ((lwg_1 1).trans rfl) (by decide +kernel)), ncl_X8, pds_4, by decide⟩
theorem inX8_clear : Cond.instanceMethod yX8_clear ∈ z_tbl := (z_w 1133 ((lwt_5_4 8).trans rfl) (by decide +kernel))
theorem seX8_clear : Cond.selects RX8 yX8_clear yX8_clear ∈ z_tbl := (z_w 1134 ((lwt_5_4 9).trans rfl) (by decide +kernel))
theorem lX8_166 : Cond.methodLink RX8 166 yX4_makeEmpty ∈ z_tbl := (z_w 1136 ((lwt_5_4 11).trans rfl) (by decide +kernel))
abbrev mX8_hearSpan : z_M := (yX8_hearSpan, cX8_hearSpan, 6, (some .int), [])
theorem kX8_hearSpan : z_okm mX8_hearSpan 4 := ⟨rfl, (z_w 1146 ((lwt_5_4 21).trans rfl) (by decide +kernel)), (z_w 46 ((lwg_1 1).trans rfl) (by decide +kernel)), ncl_X8, pds_26, by decide⟩
theorem inX8_hearSpan : Cond.instanceMethod yX8_hearSpan ∈ z_tbl := (z_w 1144 ((lwt_5_4 19).trans rfl) (by decide +kernel))
theorem seX8_hearSpan : Cond.selects RX8 yX8_hearSpan yX8_hearSpan ∈ z_tbl := (z_w 1145 ((lwt_5_4 20).trans rfl) (by decide +kernel))
abbrev mX8_checkSpan : z_M := (yX8_checkSpan, cX8_checkSpan, 3, none, [])
theorem kX8_checkSpan : z_okm mX8_checkSpan 3 := ⟨rfl, (z_w 1149 ((lwt_5_4 24).trans rfl) (by decide +kernel)), (z_w 46 ((lwg_1 1).trans rfl) (by decide +kernel)), ncl_X8, pds_19, by decide⟩
theorem stX8_checkSpan : Cond.static yX8_checkSpan ∈ z_tbl := (z_w 1148 ((lwt_5_4 23).trans rfl) (by decide +kernel))
theorem lX8_169 : Cond.methodLink RX8 169 yX8_checkSpan ∈ z_tbl := (z_w 1147 ((lwt_5_4 22).trans rfl) (by decide +kernel))
theorem nX8_172 : z_N RX8 172 8 [.null, .int 0, .int 0, .int 0, .int 0, .int 0] := ⟨(RX3, TX3, 6), tyX3, rfl, iX3, (z_w 1153 ((lwt_5_4 28).trans rfl) (by decide +kernel)), (z_w 1154 ((lwt_5_4 29).trans rfl) (by decide +kernel)), (z_w 81 ((lwt_1_1 6).trans rfl) (by decide +kernel)), tyX3_ok, rfl, by decide, rfl⟩
theorem lX8_174 : Cond.methodLink RX8 174 yX3_init ∈ z_tbl := (z_w 1155 ((lwt_5_5 0).trans rfl) (by decide +kernel))
abbrev mX8_hearSteps : z_M := (yX8_hearSteps, cX8_hearSteps, 8, (some .int), [])
theorem pds_44 : (parseMethodDescriptor "(IIIII)I").map (fun d => d.parameters.length) = some 5 := by decide +kernel
theorem kX8_hearSteps : z_okm mX8_hearSteps 5 := ⟨rfl, (z_w 1180 ((lwt_5_5 25).trans rfl) (by decide +kernel)), (z_w 46 ((lwg_1 1).trans rfl) (by decide +kernel)), ncl_X8, pds_44, by decide⟩
theorem inX8_hearSteps : Cond.instanceMethod yX8_hearSteps ∈ z_tbl := (z_w 1178 ((lwt_5_5 23).trans rfl) (by decide +kernel))
theorem seX8_hearSteps : Cond.selects RX8 yX8_hearSteps yX8_hearSteps ∈ z_tbl := (z_w 1179 ((lwt_5_5 24).trans rfl) (by decide +kernel))
abbrev mX8_spanLength : z_M := (yX8_spanLength, cX8_spanLength, 3, (some .int), [])
theorem kX8_spanLength : z_okm mX8_spanLength 3 := ⟨rfl, (z_w 1152 ((lwt_5_4 27).trans rfl) (by decide +kernel)), (z_w 46 ((lwg_1 1).trans rfl) (by decide +kernel)), ncl_X8, pds_25, by decide⟩
theorem stX8_spanLength : Cond.static yX8_spanLength ∈ z_tbl := (z_w 1151 ((lwt_5_4 26).trans rfl) (by decide +kernel))
theorem lX8_176 : Cond.methodLink RX8 176 yX8_spanLength ∈ z_tbl := (z_w 1150 ((lwt_5_4 25).trans rfl) (by decide +kernel))
abbrev mX8_takeStep : z_M := (yX8_takeStep, cX8_takeStep, 3, (some .int), [])
theorem kX8_takeStep : z_okm mX8_takeStep 2 := ⟨rfl, (z_w 1187 ((lwt_5_6 2).trans rfl) (by decide +kernel)), (z_w 46 ((lwg_1 1).trans rfl) (by decide +kernel)), ncl_X8, pds_22, by decide⟩
theorem inX8_takeStep : Cond.instanceMethod yX8_takeStep ∈ z_tbl := (z_w 1185 ((lwt_5_6 0).trans rfl) (by decide +kernel))
theorem seX8_takeStep : Cond.selects RX8 yX8_takeStep yX8_takeStep ∈ z_tbl := (z_w 1186 ((lwt_5_6 1).trans rfl) (by decide +kernel))
abbrev mX8_stop : z_M := (yX8_stop, cX8_stop, 5, (some .int), [])
theorem kX8_stop : z_okm mX8_stop 2 := ⟨rfl, (z_w 1194 ((lwt_5_6 9).trans rfl) (by decide +kernel)), (z_w 46 ((lwg_1 1).trans rfl) (by decide +kernel)), ncl_X8, pds_22, by decide⟩
theorem inX8_stop : Cond.instanceMethod yX8_stop ∈ z_tbl := (z_w 1192 ((lwt_5_6 7).trans rfl) (by decide +kernel))
theorem seX8_stop : Cond.selects RX8 yX8_stop yX8_stop ∈ z_tbl := (z_w 1193 ((lwt_5_6 8).trans rfl) (by decide +kernel))
theorem fX8_180 : z_F RX8 180 5 5 := ⟨(RX0, TX0, 6), "Loopdefaults$Hearer", rfl, by decide, iX0, Or.inr ⟨"Loopdefaults", (z_wn 170 ((lwt_1_4 5).trans rfl) (by decide +kernel))⟩, Or.inl rfl⟩
abbrev mX8_forget : z_M := (yX8_forget, cX8_forget, 4, (some .int), [])
theorem kX8_forget : z_okm mX8_forget 1 := ⟨rfl, (z_w 1202 ((lwt_5_6 17).trans rfl) (by decide +kernel)), (z_w 46 ((lwg_1 1).trans rfl) (by decide +kernel)), ncl_X8, pds_4, by decide⟩
theorem inX8_forget : Cond.instanceMethod yX8_forget ∈ z_tbl := (z_w 1200 ((lwt_5_6 15).trans rfl) (by decide +kernel))
theorem seX8_forget : Cond.selects RX8 yX8_forget yX8_forget ∈ z_tbl := (z_w 1201 ((lwt_5_6 16).trans rfl) (by decide +kernel))
theorem fX8_183 : z_F RX8 183 5 2 := ⟨(RX0, TX0, 6), "Loopdefaults$Hearer", rfl, by decide, iX0, Or.inr ⟨"Loopdefaults", (z_wn 166 ((lwt_1_4 1).trans rfl) (by decide +kernel))⟩, Or.inl rfl⟩
theorem lX8_184 : Cond.methodLink RX8 184 yX0_beginAnew ∈ z_tbl := (z_w 1203 ((lwt_5_6 18).trans rfl) (by decide +kernel))
abbrev mX8_heard : z_M := (yX8_heard, cX8_heard, 4, (some .int), [])
theorem kX8_heard : z_okm mX8_heard 2 := ⟨rfl, (z_w 1213 ((lwt_5_6 28).trans rfl) (by decide +kernel)), (z_w 46 ((lwg_1 1).trans rfl) (by decide +kernel)), ncl_X8, pds_22, by decide⟩
theorem inX8_heard : Cond.instanceMethod yX8_heard ∈ z_tbl := (z_w 1211 ((lwt_5_6 26).trans rfl) (by decide +kernel))
theorem seX8_heard : Cond.selects RX8 yX8_heard yX8_heard ∈ z_tbl := (z_w 1212 ((lwt_5_6 27).trans rfl) (by decide +kernel))
theorem lX8_187 : Cond.methodLink RX8 187 yX0_tells ∈ z_tbl := (z_w 553 ((lwg_3 28).trans rfl) (by decide +kernel))
abbrev mX8_heardText : z_M := (yX8_heardText, cX8_heardText, 2, (some (.object "java/lang/String")), [])
theorem pds_45 : (parseMethodDescriptor "(I)Ljava/lang/String;").map (fun d => d.parameters.length) = some 1 := by decide +kernel
theorem kX8_heardText : z_okm mX8_heardText 1 := ⟨rfl, (z_w 1220 ((lwt_5_7 5).trans rfl) (by decide +kernel)), (z_w 46 ((lwg_1 1).trans rfl) (by decide +kernel)), ncl_X8, pds_45, by decide⟩
theorem inX8_heardText : Cond.instanceMethod yX8_heardText ∈ z_tbl := (z_w 1218 ((lwt_5_7 3).trans rfl) (by decide +kernel))
theorem seX8_heardText : Cond.selects RX8 yX8_heardText yX8_heardText ∈ z_tbl := (z_w 1219 ((lwt_5_7 4).trans rfl) (by decide +kernel))
theorem lX8_190 : Cond.methodLink RX8 190 yX0_recent ∈ z_tbl := (z_w 557 ((lwt_3_1 2).trans rfl) (by decide +kernel))
abbrev mX8_length : z_M := (yX8_length, cX8_length, 2, (some .int), [])
theorem kX8_length : z_okm mX8_length 1 := ⟨rfl, (z_w 1227 ((lwt_5_7 12).trans rfl) (by decide +kernel)), (z_w 46 ((lwg_1 1).trans rfl) (by decide +kernel)), ncl_X8, pds_4, by decide⟩
theorem inX8_length : Cond.instanceMethod yX8_length ∈ z_tbl := (z_w 1225 ((lwt_5_7 10).trans rfl) (by decide +kernel))
theorem seX8_length : Cond.selects RX8 yX8_length yX8_length ∈ z_tbl := (z_w 1226 ((lwt_5_7 11).trans rfl) (by decide +kernel))
abbrev mX8_at : z_M := (yX8_at, cX8_at, 4, (some .int), [])
theorem kX8_at : z_okm mX8_at 2 := ⟨rfl, (z_w 1234 ((lwt_5_7 19).trans rfl) (by decide +kernel)), (z_w 46 ((lwg_1 1).trans rfl) (by decide +kernel)), ncl_X8, pds_22, by decide⟩
theorem inX8_at : Cond.instanceMethod yX8_at ∈ z_tbl := (z_w 1232 ((lwt_5_7 17).trans rfl) (by decide +kernel))
theorem seX8_at : Cond.selects RX8 yX8_at yX8_at ∈ z_tbl := (z_w 1233 ((lwt_5_7 18).trans rfl) (by decide +kernel))
theorem lX8_194 : Cond.methodLink RX8 194 yX1_isPlace ∈ z_tbl := (z_w 375 ((lwt_2_3 0).trans rfl) (by decide +kernel))
-- call X8 202: ('"java/lang/IndexOutOfBoundsException"', '"<init>"', '"(Ljava/lang/String;)V"')
theorem lX8_203 : Cond.methodLink RX8 203 yX1_valueAt ∈ z_tbl := (z_w 374 ((lwt_2_2 29).trans rfl) (by decide +kernel))
abbrev mX8_rowText : z_M := (yX8_rowText, cX8_rowText, 3, (some (.object "java/lang/String")), [])
theorem kX8_rowText : z_okm mX8_rowText 1 := ⟨rfl, (z_w 1242 ((lwt_5_7 27).trans rfl) (by decide +kernel)), (z_w 46 ((lwg_1 1).trans rfl) (by decide +kernel)), ncl_X8, pds_45, by decide⟩
theorem inX8_rowText : Cond.instanceMethod yX8_rowText ∈ z_tbl := (z_w 1240 ((lwt_5_7 25).trans rfl) (by decide +kernel))
theorem seX8_rowText : Cond.selects RX8 yX8_rowText yX8_rowText ∈ z_tbl := (z_w 1241 ((lwt_5_7 26).trans rfl) (by decide +kernel))
theorem fX8_206 : z_F RX8 206 6 0 := ⟨(RX1, TX1, 4), "Loopdefaults$Row", rfl, by decide, iX1, Or.inr ⟨"Loopdefaults", (z_wn 109 ((lwt_1_2 4).trans rfl) (by decide +kernel))⟩, Or.inl rfl⟩
theorem lX8_210 : Cond.methodLink RX8 210 yX8_joined ∈ z_tbl := (z_w 1243 ((lwt_5_7 28).trans rfl) (by decide +kernel))
abbrev mX8_isFixed : z_M := (yX8_isFixed, cX8_isFixed, 2, (some .boolean), [])
theorem kX8_isFixed : z_okm mX8_isFixed 1 := ⟨rfl, (z_w 1250 ((lwg_6 5).trans rfl) (by decide +kernel)), (z_w 46 ((lwg_1 1).trans rfl) (by decide +kernel)), ncl_X8, pds_2, by decide⟩
theorem inX8_isFixed : Cond.instanceMethod yX8_isFixed ∈ z_tbl := (z_w 1248 ((lwg_6 3).trans rfl) (by decide +kernel))
theorem seX8_isFixed : Cond.selects RX8 yX8_isFixed yX8_isFixed ∈ z_tbl := (z_w 1249 ((lwg_6 4).trans rfl) (by decide +kernel))
abbrev mX8_counts : z_M := (yX8_counts, cX8_counts, 4, (some .int), [])
theorem kX8_counts : z_okm mX8_counts 2 := ⟨rfl, (z_w 1257 ((lwg_6 12).trans rfl) (by decide +kernel)), (z_w 46 ((lwg_1 1).trans rfl) (by decide +kernel)), ncl_X8, pds_22, by decide⟩
theorem inX8_counts : Cond.instanceMethod yX8_counts ∈ z_tbl := (z_w 1255 ((lwg_6 10).trans rfl) (by decide +kernel))
theorem seX8_counts : Cond.selects RX8 yX8_counts yX8_counts ∈ z_tbl := (z_w 1256 ((lwg_6 11).trans rfl) (by decide +kernel))
theorem fX8_214 : z_F RX8 214 6 1 := ⟨(RX1, TX1, 4), "Loopdefaults$Row", rfl, by decide, iX1, Or.inr ⟨"Loopdefaults", (z_wn 112 ((lwt_1_2 7).trans rfl) (by decide +kernel))⟩, Or.inl rfl⟩
theorem lX8_218 : Cond.methodLink RX8 218 yX6_of ∈ z_tbl := (z_w 334 ((lwt_2_1 19).trans rfl) (by decide +kernel))
abbrev mX8_shelfCounts : z_M := (yX8_shelfCounts, cX8_shelfCounts, 2, (some .int), [])
theorem kX8_shelfCounts : z_okm mX8_shelfCounts 1 := ⟨rfl, (z_w 1264 ((lwg_6 19).trans rfl) (by decide +kernel)), (z_w 46 ((lwg_1 1).trans rfl) (by decide +kernel)), ncl_X8, pds_4, by decide⟩
theorem inX8_shelfCounts : Cond.instanceMethod yX8_shelfCounts ∈ z_tbl := (z_w 1262 ((lwg_6 17).trans rfl) (by decide +kernel))
theorem seX8_shelfCounts : Cond.selects RX8 yX8_shelfCounts yX8_shelfCounts ∈ z_tbl := (z_w 1263 ((lwg_6 18).trans rfl) (by decide +kernel))
theorem fX8_223 : z_F RX8 223 9 3 := ⟨(RX4, TX4, 5), "Loopdefaults$Table", rfl, by decide, iX4, Or.inr ⟨"Loopdefaults", (z_wn 140 ((lwt_1_3 5).trans rfl) (by decide +kernel))⟩, Or.inl rfl⟩
abbrev mX8_forgetCounts : z_M := (yX8_forgetCounts, cX8_forgetCounts, 6, (some .int), [])
theorem kX8_forgetCounts : z_okm mX8_forgetCounts 0 := ⟨rfl, (z_w 215 ((lwt_1_5 20).trans rfl) (by decide +kernel)), (z_w 46 ((lwg_1 1).trans rfl) (by decide +kernel)), ncl_X8, pds_17, by decide⟩
theorem inX8_forgetCounts : Cond.instanceMethod yX8_forgetCounts ∈ z_tbl := (z_w 213 ((lwt_1_5 18).trans rfl) (by decide +kernel))
theorem seX8_forgetCounts : Cond.selects RX8 yX8_forgetCounts yX8_forgetCounts ∈ z_tbl := (z_w 214 ((lwt_1_5 19).trans rfl) (by decide +kernel))
theorem lX8_224 : Cond.methodLink RX8 224 yX6_startAnew ∈ z_tbl := (z_w 216 ((lwt_1_5 21).trans rfl) (by decide +kernel))
abbrev mX8_get : z_M := (yX8_get, cX8_get, 3, (some .int), [])
theorem kX8_get : z_okm mX8_get 2 := ⟨rfl, (z_w 1271 ((lwg_6 26).trans rfl) (by decide +kernel)), (z_w 46 ((lwg_1 1).trans rfl) (by decide +kernel)), ncl_X8, pds_22, by decide⟩
theorem inX8_get : Cond.instanceMethod yX8_get ∈ z_tbl := (z_w 1269 ((lwg_6 24).trans rfl) (by decide +kernel))
theorem seX8_get : Cond.selects RX8 yX8_get yX8_get ∈ z_tbl := (z_w 1270 ((lwg_6 25).trans rfl) (by decide +kernel))
abbrev mX8_getOr : z_M := (yX8_getOr, cX8_getOr, 6, (some .int), [])
theorem kX8_getOr : z_okm mX8_getOr 3 := ⟨rfl, (z_w 1278 ((lwt_6_1 3).trans rfl) (by decide +kernel)), (z_w 46 ((lwg_1 1).trans rfl) (by decide +kernel)), ncl_X8, pds_25, by decide⟩
theorem inX8_getOr : Cond.instanceMethod yX8_getOr ∈ z_tbl := (z_w 1276 ((lwt_6_1 1).trans rfl) (by decide +kernel))
theorem seX8_getOr : Cond.selects RX8 yX8_getOr yX8_getOr ∈ z_tbl := (z_w 1277 ((lwt_6_1 2).trans rfl) (by decide +kernel))
abbrev mX8_has : z_M := (yX8_has, cX8_has, 3, (some .boolean), [])
theorem pds_46 : (parseMethodDescriptor "(II)Z").map (fun d => d.parameters.length) = some 2 := by decide +kernel
theorem kX8_has : z_okm mX8_has 2 := ⟨rfl, (z_w 1285 ((lwt_6_1 10).trans rfl) (by decide +kernel)), (z_w 46 ((lwg_1 1).trans rfl) (by decide +kernel)), ncl_X8, pds_46, by decide⟩
theorem inX8_has : Cond.instanceMethod yX8_has ∈ z_tbl := (z_w 1283 ((lwt_6_1 8).trans rfl) (by decide +kernel))
theorem seX8_has : Cond.selects RX8 yX8_has yX8_has ∈ z_tbl := (z_w 1284 ((lwt_6_1 9).trans rfl) (by decide +kernel))
abbrev mX8_size : z_M := (yX8_size, cX8_size, 2, (some .int), [])
theorem kX8_size : z_okm mX8_size 1 := ⟨rfl, (z_w 1292 ((lwt_6_1 17).trans rfl) (by decide +kernel)), (z_w 46 ((lwg_1 1).trans rfl) (by decide +kernel)), ncl_X8, pds_4, by decide⟩
theorem inX8_size : Cond.instanceMethod yX8_size ∈ z_tbl := (z_w 1290 ((lwt_6_1 15).trans rfl) (by decide +kernel))
theorem seX8_size : Cond.selects RX8 yX8_size yX8_size ∈ z_tbl := (z_w 1291 ((lwt_6_1 16).trans rfl) (by decide +kernel))
abbrev mX8_text : z_M := (yX8_text, cX8_text, 2, (some (.object "java/lang/String")), [])
theorem kX8_text : z_okm mX8_text 1 := ⟨rfl, (z_w 1299 ((lwt_6_1 24).trans rfl) (by decide +kernel)), (z_w 46 ((lwg_1 1).trans rfl) (by decide +kernel)), ncl_X8, pds_45, by decide⟩
theorem inX8_text : Cond.instanceMethod yX8_text ∈ z_tbl := (z_w 1297 ((lwt_6_1 22).trans rfl) (by decide +kernel))
theorem seX8_text : Cond.selects RX8 yX8_text yX8_text ∈ z_tbl := (z_w 1298 ((lwt_6_1 23).trans rfl) (by decide +kernel))
theorem lX8_227 : Cond.methodLink RX8 227 yX4_pairs ∈ z_tbl := (z_w 1300 ((lwt_6_1 25).trans rfl) (by decide +kernel))
abbrev mX8_areLike : z_M := (yX8_areLike, cX8_areLike, 4, (some .boolean), [])
theorem kX8_areLike : z_okm mX8_areLike 2 := ⟨rfl, (z_w 1316 ((lwt_6_2 11).trans rfl) (by decide +kernel)), (z_w 46 ((lwg_1 1).trans rfl) (by decide +kernel)), ncl_X8, pds_46, by decide⟩
theorem inX8_areLike : Cond.instanceMethod yX8_areLike ∈ z_tbl := (z_w 1314 ((lwt_6_2 9).trans rfl) (by decide +kernel))
theorem seX8_areLike : Cond.selects RX8 yX8_areLike yX8_areLike ∈ z_tbl := (z_w 1315 ((lwt_6_2 10).trans rfl) (by decide +kernel))
theorem lX8_230 : Cond.methodLink RX8 230 yX4_hasPairsOf ∈ z_tbl := (z_w 389 ((lwt_2_3 14).trans rfl) (by decide +kernel))
abbrev mX8_given : z_M := (yX8_given, cX8_given, 6, (some .int), [])
theorem kX8_given : z_okm mX8_given 4 := ⟨rfl, (z_w 1323 ((lwt_6_2 18).trans rfl) (by decide +kernel)), (z_w 46 ((lwg_1 1).trans rfl) (by decide +kernel)), ncl_X8, pds_26, by decide⟩
theorem inX8_given : Cond.instanceMethod yX8_given ∈ z_tbl := (z_w 1321 ((lwt_6_2 16).trans rfl) (by decide +kernel))
theorem seX8_given : Cond.selects RX8 yX8_given yX8_given ∈ z_tbl := (z_w 1322 ((lwt_6_2 17).trans rfl) (by decide +kernel))
abbrev mX8_checkKey : z_M := (yX8_checkKey, cX8_checkKey, 1, none, [])
theorem kX8_checkKey : z_okm mX8_checkKey 1 := ⟨rfl, (z_w 1029 ((lwg_5 24).trans rfl) (by decide +kernel)), (z_w 46 ((lwg_1 1).trans rfl) (by decide +kernel)), ncl_X8, pds_3, by decide⟩
theorem stX8_checkKey : Cond.static yX8_checkKey ∈ z_tbl := (z_w 1028 ((lwg_5 23).trans rfl) (by decide +kernel))
theorem lX8_234 : Cond.methodLink RX8 234 yX8_checkKey ∈ z_tbl := (z_w 1027 ((lwg_5 22).trans rfl) (by decide +kernel))
theorem lX8_237 : Cond.methodLink RX8 237 yX8_ruleTells ∈ z_tbl := (z_w 985 ((lwt_4_7 10).trans rfl) (by decide +kernel))
abbrev mX8_tested : z_M := (yX8_tested, cX8_tested, 5, (some .int), [])
theorem kX8_tested : z_okm mX8_tested 3 := ⟨rfl, (z_w 1330 ((lwt_6_2 25).trans rfl) (by decide +kernel)), (z_w 46 ((lwg_1 1).trans rfl) (by decide +kernel)), ncl_X8, pds_25, by decide⟩
theorem inX8_tested : Cond.instanceMethod yX8_tested ∈ z_tbl := (z_w 1328 ((lwt_6_2 23).trans rfl) (by decide +kernel))
theorem seX8_tested : Cond.selects RX8 yX8_tested yX8_tested ∈ z_tbl := (z_w 1329 ((lwt_6_2 24).trans rfl) (by decide +kernel))
abbrev mX8_testTells : z_M := (yX8_testTells, cX8_testTells, 3, (some .int), [])
theorem kX8_testTells : z_okm mX8_testTells 3 := ⟨rfl, (z_w 355 ((lwt_2_2 10).trans rfl) (by decide +kernel)), (z_w 46 ((lwg_1 1).trans rfl) (by decide +kernel)), ncl_X8, pds_25, by decide⟩
theorem stX8_testTells : Cond.static yX8_testTells ∈ z_tbl := (z_w 354 ((lwt_2_2 9).trans rfl) (by decide +kernel))
theorem lX8_241 : Cond.methodLink RX8 241 yX8_testTells ∈ z_tbl := (z_w 353 ((lwt_2_2 8).trans rfl) (by decide +kernel))
abbrev mX8_knock : z_M := (yX8_knock, cX8_knock, 1, (some .int), [])
theorem kX8_knock : z_okm mX8_knock 0 := ⟨rfl, (z_w 223 ((lwt_1_5 28).trans rfl) (by decide +kernel)), (z_w 46 ((lwg_1 1).trans rfl) (by decide +kernel)), ncl_X8, pds_17, by decide⟩
theorem inX8_knock : Cond.instanceMethod yX8_knock ∈ z_tbl := (z_w 221 ((lwt_1_5 26).trans rfl) (by decide +kernel))
theorem seX8_knock : Cond.selects RX8 yX8_knock yX8_knock ∈ z_tbl := (z_w 222 ((lwt_1_5 27).trans rfl) (by decide +kernel))
theorem fX8_244 : z_F RX8 244 12 8 := ⟨(RX8, TX8, 9), "Loopdefaults", rfl, by decide, iX8, Or.inl (z_w 192 ((lwt_1_4 27).trans rfl) (by decide +kernel)), Or.inl rfl⟩
abbrev mX8_house : z_M := (yX8_house, cX8_house, 2, (some .int), [])
theorem kX8_house : z_okm mX8_house 1 := ⟨rfl, (z_w 454 ((lwt_2_5 19).trans rfl) (by decide +kernel)), (z_w 46 ((lwg_1 1).trans rfl) (by decide +kernel)), ncl_X8, pds_4, by decide⟩
theorem inX8_house : Cond.instanceMethod yX8_house ∈ z_tbl := (z_w 452 ((lwt_2_5 17).trans rfl) (by decide +kernel))
theorem seX8_house : Cond.selects RX8 yX8_house yX8_house ∈ z_tbl := (z_w 453 ((lwt_2_5 18).trans rfl) (by decide +kernel))
abbrev mX8_valuesOfRows : z_M := (yX8_valuesOfRows, cX8_valuesOfRows, 6, (some .int), [])
theorem kX8_valuesOfRows : z_okm mX8_valuesOfRows 0 := ⟨rfl, (z_w 529 ((lwg_3 4).trans rfl) (by decide +kernel)), (z_w 46 ((lwg_1 1).trans rfl) (by decide +kernel)), ncl_X8, pds_17, by decide⟩
theorem inX8_valuesOfRows : Cond.instanceMethod yX8_valuesOfRows ∈ z_tbl := (z_w 528 ((lwg_3 3).trans rfl) (by decide +kernel))
theorem seX8_valuesOfRows : Cond.selects RX8 yX8_valuesOfRows yX8_valuesOfRows ∈ z_tbl := (z_w 9 (by decide +kernel) (by decide +kernel))
theorem lX8_247 : Cond.methodLink RX8 247 yX8_valuesOfRows ∈ z_tbl := (z_w 526 ((lwg_3 1).trans rfl) (by decide +kernel))
abbrev mX8_pairsOfTables : z_M := (yX8_pairsOfTables, cX8_pairsOfTables, 6, (some .int), [])
theorem kX8_pairsOfTables : z_okm mX8_pairsOfTables 0 := ⟨rfl, (z_w 533 ((lwg_3 8).trans rfl) (by decide +kernel)), (z_w 46 ((lwg_1 1).trans rfl) (by decide +kernel)), ncl_X8, pds_17, by decide⟩
theorem inX8_pairsOfTables : Cond.instanceMethod yX8_pairsOfTables ∈ z_tbl := (z_w 532 ((lwg_3 7).trans rfl) (by decide +kernel))
theorem seX8_pairsOfTables : Cond.selects RX8 yX8_pairsOfTables yX8_pairsOfTables ∈ z_tbl := (z_w 10 (by decide +kernel) (by decide +kernel))
theorem lX8_250 : Cond.methodLink RX8 250 yX8_pairsOfTables ∈ z_tbl := (z_w 530 ((lwg_3 5).trans rfl) (by decide +kernel))
abbrev mX8_numbersHeard : z_M := (yX8_numbersHeard, cX8_numbersHeard, 6, (some .int), [])
theorem kX8_numbersHeard : z_okm mX8_numbersHeard 0 := ⟨rfl, (z_w 537 ((lwg_3 12).trans rfl) (by decide +kernel)), (z_w 46 ((lwg_1 1).trans rfl) (by decide +kernel)), ncl_X8, pds_17, by decide⟩
theorem inX8_numbersHeard : Cond.instanceMethod yX8_numbersHeard ∈ z_tbl := (z_w 536 ((lwg_3 11).trans rfl) (by decide +kernel))
theorem seX8_numbersHeard : Cond.selects RX8 yX8_numbersHeard yX8_numbersHeard ∈ z_tbl := (z_w 11 (by decide +kernel) (by decide +kernel))
theorem lX8_253 : Cond.methodLink RX8 253 yX8_numbersHeard ∈ z_tbl := (z_w 534 ((lwg_3 9).trans rfl) (by decide +kernel))
theorem fX8_256 : z_F RX8 256 12 7 := ⟨(RX8, TX8, 9), "Loopdefaults", rfl, by decide, iX8, Or.inl (z_w 191 ((lwt_1_4 26).trans rfl) (by decide +kernel)), Or.inl rfl⟩
abbrev mX8_isSound : z_M := (yX8_isSound, cX8_isSound, 5, (some .boolean), [])
theorem kX8_isSound : z_okm mX8_isSound 0 := ⟨rfl, (z_w 227 ((lwt_1_6 2).trans rfl) (by decide +kernel)), (z_w 46 ((lwg_1 1).trans rfl) (by decide +kernel)), ncl_X8, pds_10, by decide⟩
theorem inX8_isSound : Cond.instanceMethod yX8_isSound ∈ z_tbl := (z_w 225 ((lwt_1_6 0).trans rfl) (by decide +kernel))
theorem seX8_isSound : Cond.selects RX8 yX8_isSound yX8_isSound ∈ z_tbl := (z_w 226 ((lwt_1_6 1).trans rfl) (by decide +kernel))
abbrev mX8_isWalkCounted : z_M := (yX8_isWalkCounted, cX8_isWalkCounted, 4, (some .boolean), [])
theorem pds_47 : (parseMethodDescriptor "(LLoopdefaults$Row;)Z").map (fun d => d.parameters.length) = some 1 := by decide +kernel
theorem kX8_isWalkCounted : z_okm mX8_isWalkCounted 1 := ⟨rfl, (z_w 231 ((lwt_1_6 6).trans rfl) (by decide +kernel)), (z_w 46 ((lwg_1 1).trans rfl) (by decide +kernel)), ncl_X8, pds_47, by decide⟩
theorem inX8_isWalkCounted : Cond.instanceMethod yX8_isWalkCounted ∈ z_tbl := (z_w 230 ((lwt_1_6 5).trans rfl) (by decide +kernel))
theorem seX8_isWalkCounted : Cond.selects RX8 yX8_isWalkCounted yX8_isWalkCounted ∈ z_tbl := (z_w 0 (by decide +kernel) (by decide +kernel))
theorem lX8_259 : Cond.methodLink RX8 259 yX8_isWalkCounted ∈ z_tbl := (z_w 228 ((lwt_1_6 3).trans rfl) (by decide +kernel))
abbrev mX8_isTakingPlain : z_M := (yX8_isTakingPlain, cX8_isTakingPlain, 3, (some .boolean), [])
theorem kX8_isTakingPlain : z_okm mX8_isTakingPlain 1 := ⟨rfl, (z_w 341 ((lwt_2_1 26).trans rfl) (by decide +kernel)), (z_w 46 ((lwg_1 1).trans rfl) (by decide +kernel)), ncl_X8, pds_47, by decide⟩
theorem inX8_isTakingPlain : Cond.instanceMethod yX8_isTakingPlain ∈ z_tbl := (z_w 340 ((lwt_2_1 25).trans rfl) (by decide +kernel))
theorem seX8_isTakingPlain : Cond.selects RX8 yX8_isTakingPlain yX8_isTakingPlain ∈ z_tbl := (z_w 1 (by decide +kernel) (by decide +kernel))
theorem lX8_263 : Cond.methodLink RX8 263 yX8_isTakingPlain ∈ z_tbl := (z_w 338 ((lwt_2_1 23).trans rfl) (by decide +kernel))
abbrev mX8_areCopiesLike : z_M := (yX8_areCopiesLike, cX8_areCopiesLike, 6, (some .boolean), [])
theorem kX8_areCopiesLike : z_okm mX8_areCopiesLike 1 := ⟨rfl, (z_w 379 ((lwt_2_3 4).trans rfl) (by decide +kernel)), (z_w 46 ((lwg_1 1).trans rfl) (by decide +kernel)), ncl_X8, pds_24, by decide⟩
theorem inX8_areCopiesLike : Cond.instanceMethod yX8_areCopiesLike ∈ z_tbl := (z_w 378 ((lwt_2_3 3).trans rfl) (by decide +kernel))
theorem seX8_areCopiesLike : Cond.selects RX8 yX8_areCopiesLike yX8_areCopiesLike ∈ z_tbl := (z_w 2 (by decide +kernel) (by decide +kernel))
theorem lX8_266 : Cond.methodLink RX8 266 yX8_areCopiesLike ∈ z_tbl := (z_w 376 ((lwt_2_3 1).trans rfl) (by decide +kernel))
abbrev mX8_areCallsLike : z_M := (yX8_areCallsLike, cX8_areCallsLike, 4, (some .boolean), [])
theorem kX8_areCallsLike : z_okm mX8_areCallsLike 1 := ⟨rfl, (z_w 397 ((lwt_2_3 22).trans rfl) (by decide +kernel)), (z_w 46 ((lwg_1 1).trans rfl) (by decide +kernel)), ncl_X8, pds_24, by decide⟩
theorem inX8_areCallsLike : Cond.instanceMethod yX8_areCallsLike ∈ z_tbl := (z_w 396 ((lwt_2_3 21).trans rfl) (by decide +kernel))
theorem seX8_areCallsLike : Cond.selects RX8 yX8_areCallsLike yX8_areCallsLike ∈ z_tbl := (z_w 4 (by decide +kernel) (by decide +kernel))
theorem lX8_269 : Cond.methodLink RX8 269 yX8_areCallsLike ∈ z_tbl := (z_w 394 ((lwt_2_3 19).trans rfl) (by decide +kernel))
abbrev mX8_digest : z_M := (yX8_digest, cX8_digest, 7, (some .long), [])
theorem pds_48 : (parseMethodDescriptor "()J").map (fun d => d.parameters.length) = some 0 := by decide +kernel
theorem kX8_digest : z_okm mX8_digest 0 := ⟨rfl, (z_w 449 ((lwt_2_5 14).trans rfl) (by decide +kernel)), (z_w 46 ((lwg_1 1).trans rfl) (by decide +kernel)), ncl_X8, pds_48, by decide⟩
theorem inX8_digest : Cond.instanceMethod yX8_digest ∈ z_tbl := (z_w 447 ((lwt_2_5 12).trans rfl) (by decide +kernel))
theorem seX8_digest : Cond.selects RX8 yX8_digest yX8_digest ∈ z_tbl := (z_w 448 ((lwt_2_5 13).trans rfl) (by decide +kernel))
theorem lX8_274 : Cond.methodLink RX8 274 yX8_house ∈ z_tbl := (z_w 451 ((lwt_2_5 16).trans rfl) (by decide +kernel))
abbrev mX8_mixed : z_M := (yX8_mixed, cX8_mixed, 3, (some .long), [])
theorem pds_49 : (parseMethodDescriptor "(JI)J").map (fun d => d.parameters.length) = some 2 := by decide +kernel
theorem kX8_mixed : z_okm mX8_mixed 2 := ⟨rfl, (z_w 540 ((lwg_3 15).trans rfl) (by decide +kernel)), (z_w 46 ((lwg_1 1).trans rfl) (by decide +kernel)), ncl_X8, pds_49, by decide⟩
theorem stX8_mixed : Cond.static yX8_mixed ∈ z_tbl := (z_w 539 ((lwg_3 14).trans rfl) (by decide +kernel))
theorem lX8_277 : Cond.methodLink RX8 277 yX8_mixed ∈ z_tbl := (z_w 538 ((lwg_3 13).trans rfl) (by decide +kernel))
abbrev mX8_mixedRow : z_M := (yX8_mixedRow, cX8_mixedRow, 6, (some .long), [])
theorem pds_50 : (parseMethodDescriptor "(JLLoopdefaults$Row;)J").map (fun d => d.parameters.length) = some 2 := by decide +kernel
theorem kX8_mixedRow : z_okm mX8_mixedRow 2 := ⟨rfl, (z_w 544 ((lwg_3 19).trans rfl) (by decide +kernel)), (z_w 46 ((lwg_1 1).trans rfl) (by decide +kernel)), ncl_X8, pds_50, by decide⟩
theorem stX8_mixedRow : Cond.static yX8_mixedRow ∈ z_tbl := (z_w 543 ((lwg_3 18).trans rfl) (by decide +kernel))
theorem lX8_281 : Cond.methodLink RX8 281 yX8_mixedRow ∈ z_tbl := (z_w 542 ((lwg_3 17).trans rfl) (by decide +kernel))
abbrev mX8_mixedTable : z_M := (yX8_mixedTable, cX8_mixedTable, 7, (some .long), [])
theorem pds_51 : (parseMethodDescriptor "(JLLoopdefaults$Table;)J").map (fun d => d.parameters.length) = some 2 := by decide +kernel
theorem kX8_mixedTable : z_okm mX8_mixedTable 2 := ⟨rfl, (z_w 547 ((lwg_3 22).trans rfl) (by decide +kernel)), (z_w 46 ((lwg_1 1).trans rfl) (by decide +kernel)), ncl_X8, pds_51, by decide⟩
theorem stX8_mixedTable : Cond.static yX8_mixedTable ∈ z_tbl := (z_w 546 ((lwg_3 21).trans rfl) (by decide +kernel))
theorem lX8_285 : Cond.methodLink RX8 285 yX8_mixedTable ∈ z_tbl := (z_w 545 ((lwg_3 20).trans rfl) (by decide +kernel))
abbrev mX8_mixedHearer : z_M := (yX8_mixedHearer, cX8_mixedHearer, 6, (some .long), [])
theorem pds_52 : (parseMethodDescriptor "(JLLoopdefaults$Hearer;)J").map (fun d => d.parameters.length) = some 2 := by decide +kernel
theorem kX8_mixedHearer : z_okm mX8_mixedHearer 2 := ⟨rfl, (z_w 552 ((lwg_3 27).trans rfl) (by decide +kernel)), (z_w 46 ((lwg_1 1).trans rfl) (by decide +kernel)), ncl_X8, pds_52, by decide⟩
theorem stX8_mixedHearer : Cond.static yX8_mixedHearer ∈ z_tbl := (z_w 551 ((lwg_3 26).trans rfl) (by decide +kernel))
theorem lX8_289 : Cond.methodLink RX8 289 yX8_mixedHearer ∈ z_tbl := (z_w 550 ((lwg_3 25).trans rfl) (by decide +kernel))
theorem lX8_293 : Cond.methodLink RX8 293 yX8_isSound ∈ z_tbl := (z_w 830 ((lwt_4_2 5).trans rfl) (by decide +kernel))
-- call X8 306: ('"java/lang/IllegalArgumentException"', '"<init>"', '"(Ljava/lang/String;)V"')
abbrev mX8_bounded : z_M := (yX8_bounded, cX8_bounded, 1, (some .int), [])
theorem kX8_bounded : z_okm mX8_bounded 1 := ⟨rfl, (z_w 411 ((lwt_2_4 6).trans rfl) (by decide +kernel)), (z_w 46 ((lwg_1 1).trans rfl) (by decide +kernel)), ncl_X8, pds_4, by decide⟩
theorem stX8_bounded : Cond.static yX8_bounded ∈ z_tbl := (z_w 410 ((lwt_2_4 5).trans rfl) (by decide +kernel))
theorem lX8_309 : Cond.methodLink RX8 309 yX8_bounded ∈ z_tbl := (z_w 409 ((lwt_2_4 4).trans rfl) (by decide +kernel))
abbrev mX8_isEven : z_M := (yX8_isEven, cX8_isEven, 1, (some .boolean), [])
theorem kX8_isEven : z_okm mX8_isEven 1 := ⟨rfl, (z_w 358 ((lwt_2_2 13).trans rfl) (by decide +kernel)), (z_w 46 ((lwg_1 1).trans rfl) (by decide +kernel)), ncl_X8, pds_2, by decide⟩
theorem stX8_isEven : Cond.static yX8_isEven ∈ z_tbl := (z_w 357 ((lwt_2_2 12).trans rfl) (by decide +kernel))
theorem lX8_312 : Cond.methodLink RX8 312 yX8_isEven ∈ z_tbl := (z_w 356 ((lwt_2_2 11).trans rfl) (by decide +kernel))
theorem lX8_315 : Cond.methodLink RX8 315 yX7_give ∈ z_tbl := (z_w 299 ((lwg_2 14).trans rfl) (by decide +kernel))
theorem cuX8_315_X2 : z_CU RX8 RX2 "Loopdefaults$Walk" 315 yX7_give mX7_give := ⟨lX8_315, (z_w 301 ((lwg_2 16).trans rfl) (by decide +kernel)), Or.inl rfl, (z_w 302 ((lwg_2 17).trans rfl) (by decide +kernel)), inX7_give, ⟨by decide +kernel, by decide +kernel⟩, rfl⟩
theorem cuX8_315_X3 : z_CU RX8 RX3 "Loopdefaults$Walk" 315 yX7_give mX7_give := ⟨lX8_315, (z_w 301 ((lwg_2 16).trans rfl) (by decide +kernel)), Or.inl rfl, (z_w 303 ((lwg_2 18).trans rfl) (by decide +kernel)), inX7_give, ⟨by decide +kernel, by decide +kernel⟩, rfl⟩
theorem cuX8_315_X5 : z_CU RX8 RX5 "Loopdefaults$Walk" 315 yX7_give mX7_give := ⟨lX8_315, (z_w 301 ((lwg_2 16).trans rfl) (by decide +kernel)), Or.inl rfl, (z_w 304 ((lwg_2 19).trans rfl) (by decide +kernel)), inX7_give, ⟨by decide +kernel, by decide +kernel⟩, rfl⟩
theorem lX8_320 : Cond.methodLink RX8 320 yX7_ask ∈ z_tbl := (z_w 280 ((lwt_1_7 25).trans rfl) (by decide +kernel))
theorem cuX8_320_X2 : z_CU RX8 RX2 "Loopdefaults$Walk" 320 yX7_ask mX7_ask := ⟨lX8_320, (z_w 282 ((lwt_1_7 27).trans rfl) (by decide +kernel)), Or.inl rfl, (z_w 283 ((lwt_1_7 28).trans rfl) (by decide +kernel)), inX7_ask, ⟨by decide +kernel, by decide +kernel⟩, rfl⟩
theorem cuX8_320_X3 : z_CU RX8 RX3 "Loopdefaults$Walk" 320 yX7_ask mX7_ask := ⟨lX8_320, (z_w 282 ((lwt_1_7 27).trans rfl) (by decide +kernel)), Or.inl rfl, (z_w 284 ((lwt_1_7 29).trans rfl) (by decide +kernel)), inX7_ask, ⟨by decide +kernel, by decide +kernel⟩, rfl⟩
theorem cuX8_320_X5 : z_CU RX8 RX5 "Loopdefaults$Walk" 320 yX7_ask mX7_ask := ⟨lX8_320, (z_w 282 ((lwt_1_7 27).trans rfl) (by decide +kernel)), Or.inl rfl, (z_w 285 ((lwg_2 0).trans rfl) (by decide +kernel)), inX7_ask, ⟨by decide +kernel, by decide +kernel⟩, rfl⟩
theorem lX8_323 : Cond.methodLink RX8 323 yX0_takesIn ∈ z_tbl := (z_w 934 ((lwt_4_5 19).trans rfl) (by decide +kernel))
theorem fX8_326_X2 : z_F RX8 326 7 1 := ⟨(RX2, TX2, 5), "Loopdefaults$Walk", rfl, by decide, iX2, Or.inl (z_w 261 ((lwt_1_7 6).trans rfl) (by decide +kernel)), Or.inl rfl⟩
theorem fX8_326_X5 : z_F RX8 326 10 1 := ⟨(RX5, TX5, 5), "Loopdefaults$Walk", rfl, by decide, iX5, Or.inl (z_w 261 ((lwt_1_7 6).trans rfl) (by decide +kernel)), Or.inl rfl⟩
theorem fX8_329_X2 : z_F RX8 329 7 2 := ⟨(RX2, TX2, 5), "Loopdefaults$Walk", rfl, by decide, iX2, Or.inl (z_w 268 ((lwt_1_7 13).trans rfl) (by decide +kernel)), Or.inl rfl⟩
theorem fX8_329_X5 : z_F RX8 329 10 2 := ⟨(RX5, TX5, 5), "Loopdefaults$Walk", rfl, by decide, iX5, Or.inl (z_w 268 ((lwt_1_7 13).trans rfl) (by decide +kernel)), Or.inl rfl⟩
-- call X8 332: ('"Loopdefaults$Walk"', '"putInPlace"', '"(I)Z"')
theorem lX8_332 : Cond.methodLink RX8 332 ⟨"Loopdefaults$Walk", "putInPlace", "(I)Z"⟩ ∈ z_tbl := (z_w 986 ((lwt_4_7 11).trans rfl) (by decide +kernel))
theorem cuX8_332_X2 : z_CU RX8 RX2 "Loopdefaults$Walk" 332 ⟨"Loopdefaults$Walk", "putInPlace", "(I)Z"⟩ mX2_putInPlace := ⟨lX8_332, (z_w 988 ((lwt_4_7 13).trans rfl) (by decide +kernel)), Or.inr (z_wn 987 ((lwt_4_7 12).trans rfl) (by decide +kernel)), (z_w 989 ((lwt_4_7 14).trans rfl) (by decide +kernel)), inX2_putInPlace, ⟨by decide +kernel, by decide +kernel⟩, rfl⟩
theorem cuX8_332_X5 : z_CU RX8 RX5 "Loopdefaults$Walk" 332 ⟨"Loopdefaults$Walk", "putInPlace", "(I)Z"⟩ mX5_putInPlace := ⟨lX8_332, (z_w 988 ((lwt_4_7 13).trans rfl) (by decide +kernel)), Or.inr (z_wn 987 ((lwt_4_7 12).trans rfl) (by decide +kernel)), (z_w 999 ((lwt_4_7 24).trans rfl) (by decide +kernel)), inX5_putInPlace, ⟨by decide +kernel, by decide +kernel⟩, rfl⟩
-- call X8 335: ('"Loopdefaults$RowWalk"', '"ask"', '"()Z"')
theorem lX8_335 : Cond.methodLink RX8 335 ⟨"Loopdefaults$RowWalk", "ask", "()Z"⟩ ∈ z_tbl := (z_w 345 ((lwt_2_2 0).trans rfl) (by decide +kernel))
theorem cuX8_335_X2 : z_CU RX8 RX2 "Loopdefaults$Walk" 335 ⟨"Loopdefaults$RowWalk", "ask", "()Z"⟩ mX7_ask := ⟨lX8_335, (z_w 346 ((lwt_2_2 1).trans rfl) (by decide +kernel)), Or.inl rfl, (z_w 348 ((lwt_2_2 3).trans rfl) (by decide +kernel)), inX7_ask, ⟨by decide +kernel, by decide +kernel⟩, rfl⟩
-- call X8 336: ('"Loopdefaults$RowWalk"', '"give"', '"()I"')
theorem lX8_336 : Cond.methodLink RX8 336 ⟨"Loopdefaults$RowWalk", "give", "()I"⟩ ∈ z_tbl := (z_w 349 ((lwt_2_2 4).trans rfl) (by decide +kernel))
theorem cuX8_336_X2 : z_CU RX8 RX2 "Loopdefaults$Walk" 336 ⟨"Loopdefaults$RowWalk", "give", "()I"⟩ mX7_give := ⟨lX8_336, (z_w 350 ((lwt_2_2 5).trans rfl) (by decide +kernel)), Or.inl rfl, (z_w 352 ((lwt_2_2 7).trans rfl) (by decide +kernel)), inX7_give, ⟨by decide +kernel, by decide +kernel⟩, rfl⟩
theorem lX8_337 : Cond.methodLink RX8 337 yX2_takeAway ∈ z_tbl := (z_w 362 ((lwt_2_2 17).trans rfl) (by decide +kernel))
abbrev mX8_isWhatIsLeft : z_M := (yX8_isWhatIsLeft, cX8_isWhatIsLeft, 6, (some .boolean), [])
theorem pds_53 : (parseMethodDescriptor "(LLoopdefaults$Row;LLoopdefaults$Row;I)Z").map (fun d => d.parameters.length) = some 3 := by decide +kernel
theorem kX8_isWhatIsLeft : z_okm mX8_isWhatIsLeft 3 := ⟨rfl, (z_w 373 ((lwt_2_2 28).trans rfl) (by decide +kernel)), (z_w 46 ((lwg_1 1).trans rfl) (by decide +kernel)), ncl_X8, pds_53, by decide⟩
theorem stX8_isWhatIsLeft : Cond.static yX8_isWhatIsLeft ∈ z_tbl := (z_w 372 ((lwt_2_2 27).trans rfl) (by decide +kernel))
theorem lX8_340 : Cond.methodLink RX8 340 yX8_isWhatIsLeft ∈ z_tbl := (z_w 371 ((lwt_2_2 26).trans rfl) (by decide +kernel))
theorem lX8_344 : Cond.methodLink RX8 344 yX4_become ∈ z_tbl := (z_w 380 ((lwt_2_3 5).trans rfl) (by decide +kernel))
abbrev mX8_isCallLike : z_M := (yX8_isCallLike, cX8_isCallLike, 11, (some .boolean), [])
theorem pds_54 : (parseMethodDescriptor "(LLoopdefaults$Table;III)Z").map (fun d => d.parameters.length) = some 4 := by decide +kernel
theorem kX8_isCallLike : z_okm mX8_isCallLike 4 := ⟨rfl, (z_w 401 ((lwt_2_3 26).trans rfl) (by decide +kernel)), (z_w 46 ((lwg_1 1).trans rfl) (by decide +kernel)), ncl_X8, pds_54, by decide⟩
theorem inX8_isCallLike : Cond.instanceMethod yX8_isCallLike ∈ z_tbl := (z_w 400 ((lwt_2_3 25).trans rfl) (by decide +kernel))
theorem seX8_isCallLike : Cond.selects RX8 yX8_isCallLike yX8_isCallLike ∈ z_tbl := (z_w 5 (by decide +kernel) (by decide +kernel))
theorem lX8_346 : Cond.methodLink RX8 346 yX8_isCallLike ∈ z_tbl := (z_w 398 ((lwt_2_3 23).trans rfl) (by decide +kernel))
theorem lX8_352 : Cond.methodLink RX8 352 yX4_keyAt ∈ z_tbl := (z_w 548 ((lwg_3 23).trans rfl) (by decide +kernel))
abbrev mJ0_length_8abf5 : z_M := (yJ0_length_8abf5, cJ0_length_8abf5, 1, (some .int), [])
theorem ncl_J0 : RJ0 ≠ "java/lang/invoke/MethodHandle" ∧ RJ0 ≠ "java/lang/invoke/VarHandle" := ⟨by decide +kernel, by decide +kernel⟩
theorem kJ0_length_8abf5 : z_okm mJ0_length_8abf5 0 := ⟨rfl, (z_w 782 ((lwg_4 17).trans rfl) (by decide +kernel)), (z_w 76 ((lwt_1_1 1).trans rfl) (by decide +kernel)), ncl_J0, pds_17, by decide⟩
theorem inJ0_length_8abf5 : Cond.instanceMethod yJ0_length_8abf5 ∈ z_tbl := (z_w 780 ((lwg_4 15).trans rfl) (by decide +kernel))
theorem lX8_355 : Cond.methodLink RX8 355 yJ0_length_8abf5 ∈ z_tbl := (z_w 829 ((lwt_4_2 4).trans rfl) (by decide +kernel))
theorem nX8_360 : z_N RX8 360 1 [.null, .int 0, .int 0, .int 0] := ⟨(RJ4, TJ4, 4), tyJ4, rfl, iJ4, (z_w 564 ((lwt_3_1 9).trans rfl) (by decide +kernel)), (z_w 565 ((lwt_3_1 10).trans rfl) (by decide +kernel)), (z_w 75 ((lwt_1_1 0).trans rfl) (by decide +kernel)), tyJ4_ok, rfl, by decide, rfl⟩
theorem lX8_362 : Cond.methodLink RX8 362 yJ4_init_da8c8 ∈ z_tbl := (z_w 566 ((lwt_3_1 11).trans rfl) (by decide +kernel))
theorem lX8_363 : Cond.methodLink RX8 363 yJ4_append_cf468 ∈ z_tbl := (z_w 595 ((lwt_3_2 10).trans rfl) (by decide +kernel))
theorem lX8_366 : Cond.methodLink RX8 366 yJ4_append_bf812 ∈ z_tbl := (z_w 690 ((lwt_3_5 15).trans rfl) (by decide +kernel))
theorem lX8_369 : Cond.methodLink RX8 369 yJ4_toString_0e30d ∈ z_tbl := (z_w 724 ((lwt_3_6 19).trans rfl) (by decide +kernel))
end ZM6
section ZM7
section ZF2
variable {G : z_G} {l : Launch} {y : z_M} {S : z_S} {pc : Nat} {lo : List (Nat × Value)} {st : List Value} {w w' : z_W} {kc ks : Nat}
theorem j_objI {idx a : Nat} (hd : decode y.2.1 pc = .ok (.invokespecial idx, 3)) (hl : Cond.methodLink y.1.cls idx Lib.objectInit ∈ z_tbl) (hi : Cond.instanceMethod Lib.objectInit ∈ z_tbl) (hcd : Cond.code Lib.objectInit ⟨#[0xb1]⟩ 1 none ∈ z_tbl) (hrk : 1 ≤ S.1) (hW : z_cat st ≤ 8) (h : z_J G l y S (pc + 3) lo st w kc ks) : z_J G l y S pc lo (.ref a :: st) w kc ks := by
  intro p e s m args below meth c R0 hok R H locs ls cst hat hlo hst
  obtain ⟨c1, cs1, rfl, ⟨-, h1⟩, hst1⟩ := z_Lc hst
  subst h1
  have kk := h p e s m args below meth c R0 hok R H locs ls cs1 hat hlo hst1
  have hsz := hlo.choose_spec.1.1
  obtain ⟨hx, hb, -, -, -, hown, hts, henv, -⟩ := hok
  have h8 : 2 * (F0 m pc ls (.ref (R.1 a) :: cs1)).monitorRoom + (cs1.map fun v => v.category).sum ≤ 8 := lv_room (by rw [z_Lcs hst1]; exact hW)
  have h40 : 20 ≤ (z_rm S.1 S.2.1 S.2.2.1).locals := by show 20 ≤ 40 * S.1; omega
  exact W.objInit hx hb hown (hts _ hl) (hts _ hi) (hts _ hcd) rfl hsz rfl hd hrk (by omega) kk
def z_ui (f : Nat → Int32) (k : Nat) (x : Int32) : Nat → Int32 := fun j => cond (Nat.beq j k) x (f j)
theorem z_uie (f : Nat → Int32) (k : Nat) (x : Int32) : z_u (fun j => .int (f j)) k (.int x) = fun j => .int (z_ui f k x j) := by
  funext j
  unfold z_u z_ui
  cases Nat.beq j k <;> rfl
theorem z_ui_self {f : Nat → Int32} {k : Nat} {x : Int32} : z_ui f k x k = x := by unfold z_ui; rw [Nat.beq_refl]; rfl
theorem z_ui_ne {f : Nat → Int32} {k j : Nat} {x : Int32} (h : j ≠ k) : z_ui f k x j = f j := by unfold z_ui; rw [z_beq h]; rfl
theorem j_ld {a n : Nat} {f : Nat → Int32} {i : Int32} (hd : decode y.2.1 pc = .ok (.iaload, 1)) (hg : z_g w a = some (.inl (0, n, fun j => .int (f j)))) (hin : vp_in i n) (h : z_J G l y S (pc + 1) lo (.int (f i.toNatClampNeg) :: st) w kc ks) : z_J G l y S pc lo (.int i :: .ref a :: st) w kc ks := j_iald hd hg hin rfl h
theorem j_sto {a n : Nat} {f : Nat → Int32} {i x : Int32} (hd : decode y.2.1 pc = .ok (.iastore, 1)) (hg : z_g w a = some (.inl (0, n, fun j => .int (f j)))) (hin : vp_in i n) (hw : z_s w a (.inl (0, n, fun j => .int (z_ui f i.toNatClampNeg x j))) = w') (h : z_J G l y S (pc + 1) lo st w' kc ks) : z_J G l y S pc lo (.int x :: .int i :: .ref a :: st) w kc ks := j_iast hd hg hin (by rw [z_uie]; exact hw) h
theorem z_in {i : Int32} {n : Nat} (h0 : ¬ i < 0) (h1 : ¬ Int32.ofNat n ≤ i) (hn : n < 2147483648) : vp_in i n := by
  have h2 : ¬ (Int32.ofNat n).toInt ≤ i.toInt := fun z => h1 ((Int32.le_iff_toInt_le).mpr z)
  have h3 : ¬ i.toInt < 0 := fun z => h0 ((Int32.lt_iff_toInt_lt).mpr (by rw [Int32.toInt_zero]; exact z))
  have h4 : (Int32.ofNat n).toInt = n := nI_toInt (by omega)
  exact vp_in_iff.mpr ⟨by omega, by omega⟩
end ZF2
abbrev z_ia (n : Nat) (f : Nat → Int32) : z_E := .inl (0, n, fun j => .int (f j))
theorem z_inc (j : Nat) : nI j + Int32.ofInt 1 = nI (j + 1) := nI_1 j
theorem z_q0 {lo : List (Nat × Value)} : ∀ q ∈ ([] : List (Nat × Value)), z_find lo q.1 = some q.2 := fun _ h => by cases h
theorem z_q1 {lo t : List (Nat × Value)} {i : Nat} {v : Value} (h : z_find lo i = some v) (ht : ∀ q ∈ t, z_find lo q.1 = some q.2) : ∀ q ∈ (i, v) :: t, z_find lo q.1 = some q.2 := fun q hq => by
  rcases List.mem_cons.mp hq with rfl | hq
  · exact h
  · exact ht q hq
theorem j_lo2 {G : z_G} {l : Launch} {y : z_M} {S : z_S} {pc : Nat} {lo lo' : List (Nat × Value)} {st : List Value} {w : z_W} {kc ks : Nat} (h : z_J G l y S pc lo' st w kc ks) (hs : ∀ q ∈ lo', z_find lo q.1 = some q.2) : z_J G l y S pc lo st w kc ks := j_lo hs h
theorem z_dc {ci k idx : Nat} {own : String} {q0 : vw_C} (hq : z_cls[ci]? = some q0) (h1 : (q0.2.1 k).1 = own) (h2 : Cond.fieldLink own idx own (q0.2.1 k).2.1 (q0.2.1 k).2.2.1 ∈ z_tbl) : ∀ q : vw_C, z_cls[ci]? = some q → (q.2.1 k).1 = own ∧ Cond.fieldLink own idx own (q.2.1 k).2.1 (q.2.1 k).2.2.1 ∈ z_tbl := fun q h => by
  have e : q = q0 := Option.some.inj (h.symm.trans hq)
  subst e
  exact ⟨h1, h2⟩
def z_bi (b : Bool) : Int32 := cond b 1 0
theorem z_bn (b : Bool) : narrow .boolean (.int (z_bi b)) = .int (z_bi b) := by cases b <;> rfl
theorem z_bf (b : Bool) : fits .boolean (.int (z_bi b)) = true := by cases b <;> rfl
theorem z_bt {b : Bool} (h : ¬ z_bi b = 0) : b = true := by
  cases b with
  | true => rfl
  | false => exact absurd rfl h
theorem z_bF {b : Bool} (h : z_bi b = 0) : b = false := by
  cases b with
  | false => rfl
  | true => exact absurd h (by decide)
abbrev z_SF (rk mc ms : Nat) (L0 : List z_E) (Q : Option Value → List z_E → Prop) : z_S := (rk, mc, ms, (L0, z_no), (fun v w => w.2 = z_no ∧ w.1.length = L0.length ∧ Q v w.1), fun _ _ => False)
theorem z_ltI {j n : Nat} (h : ¬ Int32.ofNat n ≤ nI j) (hj : j < 2147483648) (hn : n < 2147483648) : j < n := Nat.not_le.mp (fun z => h ((nI_leI hn hj).mpr z))
theorem z_geI {j n : Nat} (h : Int32.ofNat n ≤ nI j) (hj : j < 2147483648) (hn : n < 2147483648) : n ≤ j := (nI_leI hn hj).mp h
section ZM
variable {G : z_G} {l : Launch} {y : z_M} {S : z_S} {pc : Nat} {lo : List (Nat × Value)} {st : List Value} {w w' : z_W} {kc ks : Nat}
theorem j_top {v v' : Value} (e : v = v') (h : z_J G l y S pc lo (v' :: st) w kc ks) : z_J G l y S pc lo (v :: st) w kc ks := e ▸ h
theorem j_tsIn {dflt lo9 hi : Int} {offs : Array Int} {len : Nat} {x : Int32} {off : Int} {tgt : Nat} (hd : decode y.2.1 pc = .ok (.tableswitch dflt lo9 hi offs, len)) (h1 : ¬ x.toInt < lo9) (h2 : ¬ hi < x.toInt) (ho : offs[(x.toInt - lo9).toNat]? = some off) (ht : (pc : Int) + off = (tgt : Int)) (h : z_J G l y S tgt lo st w kc ks) : z_J G l y S pc lo (.int x :: st) w kc ks := by
  intro p e s m args below meth c R0 hok R H locs ls cst hat hlo hst
  obtain ⟨c1, cs1, rfl, h9, hst1⟩ := z_Lc hst
  have h9 : c1 = .int x := h9
  subst h9
  exact lv_tableIn hok.1 hok.2.1 hd h1 h2 ho ht (h p e s m args below meth c R0 hok R H locs ls _ hat hlo hst1)
theorem j_tsOut {dflt lo9 hi : Int} {offs : Array Int} {len : Nat} {x : Int32} {tgt : Nat} (hd : decode y.2.1 pc = .ok (.tableswitch dflt lo9 hi offs, len)) (h1 : x.toInt < lo9 ∨ hi < x.toInt) (ht : (pc : Int) + dflt = (tgt : Int)) (h : z_J G l y S tgt lo st w kc ks) : z_J G l y S pc lo (.int x :: st) w kc ks := by
  intro p e s m args below meth c R0 hok R H locs ls cst hat hlo hst
  obtain ⟨c1, cs1, rfl, h9, hst1⟩ := z_Lc hst
  have h9 : c1 = .int x := h9
  subst h9
  exact lv_tableOut hok.1 hok.2.1 hd h1 ht (h p e s m args below meth c R0 hok R H locs ls _ hat hlo hst1)
theorem z_swE {x : Int32} {n : Nat} (h : x.toInt = n) (hn : n < 2147483648) : x = Int32.ofNat n := Int32.toInt_inj.mp (by rw [h]; exact (nI_toInt hn).symm)
theorem z_sw3 (x : Int32) : x = 0 ∨ x = 1 ∨ x = 2 ∨ (x.toInt < 0 ∨ 2 < x.toInt) := by
  by_cases h0 : x.toInt = (0 : Nat)
  · exact Or.inl (z_swE h0 (by decide))
  · by_cases h1 : x.toInt = (1 : Nat)
    · exact Or.inr (Or.inl (z_swE h1 (by decide)))
    · by_cases h2 : x.toInt = (2 : Nat)
      · exact Or.inr (Or.inr (Or.inl (z_swE h2 (by decide))))
      · exact Or.inr (Or.inr (Or.inr (by omega)))
end ZM
def z_m20 (m : Int32) : Prop := m.toInt ≤ 20
theorem z_decr (j : Nat) : nI (j + 1) + Int32.ofInt (-1) = nI j := pk_m1 j
end ZM7
section ZM8
section ZFN
def z_CN (G : z_G) (l : Launch) (y : z_M) (rk mc ms nm : Nat) (L0 : List z_E) (av : List Value) (Q : Option Value → List z_E → Prop) : Prop :=
  z_Con G l y rk mc ms (L0, z_no) av (fun v w => w.2 = z_no ∧ w.1.length ≤ L0.length + nm ∧ Q v w.1) (fun _ _ => False)
def z_thN (th : List Nat) (n k : Nat) : List Nat := th ++ (List.range k).map (fun j => n + j)
def z_wN (w : z_W) (th : List Nat) (L' : List z_E) (k0 : Nat) : z_W :=
  let th' := z_thN th w.1.length (L'.length - k0)
  let w2 := z_ss w th ((L'.take k0).map (z_re th'))
  (w2.1 ++ (L'.drop k0).map (z_re th'), w2.2)
theorem z_ss_len : ∀ {th : List Nat} {es : List z_E} {w : z_W}, (z_ss w th es).1.length = w.1.length
  | [], es, w => by unfold z_ss; rfl
  | k :: th, [], w => by unfold z_ss; rfl
  | k :: th, e :: es, w => by
    unfold z_ss
    rw [z_ss_len]
    cases hb : Nat.blt k 1000 <;> simp only [z_s, hb, cond]
    exact List.length_set
theorem z_blt {n : Nat} (h : n < 1000) : Nat.blt n 1000 = true := Nat.ble_eq_true_of_le (by omega)
theorem z_bltF {n : Nat} (h : 1000 ≤ n) : Nat.blt n 1000 = false := by
  cases hb : Nat.blt n 1000 with
  | false => rfl
  | true => exact absurd (Nat.le_of_ble_eq_true hb) (by omega)
theorem z_gap {w : z_W} {X : List z_E} {n : Nat} (h : n < w.1.length ∨ 1000 ≤ n) : z_g (w.1 ++ X, w.2) n = z_g w n := by
  by_cases hn : n < 1000
  · simp only [z_g, z_blt hn, cond]
    rcases h with h | h
    · exact List.getElem?_append_left h
    · omega
  · simp only [z_g, z_bltF (Nat.not_lt.mp hn), cond]
theorem z_gap2 {w : z_W} {X : List z_E} {n : Nat} (h : w.1.length ≤ n) (hn : n < 1000) : z_g (w.1 ++ X, w.2) n = X[n - w.1.length]? := by
  simp only [z_g, z_blt hn, cond]
  exact List.getElem?_append_right h
set_option maxHeartbeats 8000000 in
theorem z_frameN {G : z_G} {l : Launch} {y : z_M} {rk mc ms nm : Nat} {L0 : List z_E} {av : List Value} {Q : Option Value → List z_E → Prop} {w : z_W} (th : List Nat) (hth : th.map (z_g w) = L0.map (fun e => some (z_re th e))) (hnd : th.Nodup) (hl : L0.length + nm ≤ 1000) (hw : w.1.length + nm ≤ 1000) (h : z_CN G l y rk mc ms nm L0 av Q) :
    z_Con G l y rk mc ms w (av.map (z_rn th)) (fun v w' => ∃ (v0 : Option Value) (L' : List z_E), Q v0 L' ∧ v = v0.map (z_rn (z_thN th w.1.length (L'.length - L0.length))) ∧ w' = z_wN w th L' L0.length) (fun _ _ => False) := by
  intro R0
  have hM := h ((fun i => R0.1 (th.getD i 0)), R0.2)
  intro p e ha hc hk s m args below hf happ hPc hK
  obtain ⟨⟨cav, rfl, hav⟩, henv, hP, hb⟩ := hPc
  have hlen : th.length = L0.length := by have := congrArg List.length hth; simpa using this
  have hl1 : L0.length ≤ 1000 := by omega
  have hat : ∀ (i : Nat) (e : z_E), L0[i]? = some e → ∃ n, th[i]? = some n ∧ z_g w n = some (z_re th e) := by
    intro i e he
    have h1 : (th.map (z_g w))[i]? = (L0.map (fun e => some (z_re th e)))[i]? := by rw [hth]
    rw [List.getElem?_map, List.getElem?_map, he] at h1
    cases hi : th[i]? with
    | none => rw [hi] at h1; cases h1
    | some n => rw [hi] at h1; exact ⟨n, rfl, Option.some.inj h1⟩
  have hget : ∀ {i n : Nat}, th[i]? = some n → th.getD i 0 = n := by
    intro i n hi
    rw [List.getD_eq_getElem?_getD, hi]
    rfl
  have hdi : ∀ i, z_d (L0, z_no) i → ∃ n, th[i]? = some n ∧ z_d w n := by
    intro i ⟨e, he⟩
    obtain ⟨n, h1, h2⟩ := hat i e (z_gL he)
    exact ⟨n, h1, ⟨_, h2⟩⟩
  have hid : ∀ {i n : Nat}, th[i]? = some n → z_d (L0, z_no) i := by
    intro i n hi
    have h1 : i < L0.length := by rw [← hlen]; exact (List.getElem?_eq_some_iff.mp hi).1
    exact ⟨L0[i], z_Lg' hl1 (List.getElem?_eq_getElem h1)⟩
  have hbs : ∀ v c, z_V G R0 w (z_rn th v) c → z_V G ((fun i => R0.1 (th.getD i 0)), R0.2) (L0, z_no) v c := by
    intro v c hv
    cases v with
    | int x => exact hv
    | long x => exact hv
    | null => exact hv
    | float b => exact hv
    | retAddr k => exact hv
    | double b => exact hv
    | ref i =>
      cases hi : th[i]? with
      | none => simp only [z_rn, hi] at hv; exact hv.elim
      | some n =>
        simp only [z_rn, hi] at hv
        refine ⟨hid hi, ?_⟩
        show c = .ref (R0.1 (th.getD i 0))
        rw [hget hi]
        exact hv.2
  have hP0 : z_P G ((fun i => R0.1 (th.getD i 0)), R0.2) (L0, z_no) s.heap := by
    refine ⟨fun n e he => ?_, fun a b ha hb hab => ?_, fun q b hq => ⟨(hP.2.2 q b hq).1, fun n hn => ?_⟩⟩
    · obtain ⟨k, h1, h2⟩ := hat n e (z_gL he)
      obtain ⟨h3, h4⟩ := hP.1 k _ h2
      show z_X _ _ _ _ (R0.1 (th.getD n 0)) _ ∧ _ ≤ R0.1 (th.getD n 0)
      rw [hget h1]
      refine ⟨?_, h4⟩
      cases e with
      | inl x =>
        obtain ⟨z, z1, z2⟩ := h3
        exact ⟨z, z1, fun j hj => hbs _ _ (z2 j hj)⟩
      | inr o =>
        obtain ⟨q, gs, x1, x2, x3, x4⟩ := h3
        exact ⟨q, gs, x1, by rw [← x2]; exact (List.length_map _).symm, x3, z_Lmp hbs x4⟩
    · obtain ⟨k1, a1, a2⟩ := hdi a ha
      obtain ⟨k2, b1, b2⟩ := hdi b hb
      have hab : R0.1 (th.getD a 0) = R0.1 (th.getD b 0) := hab
      rw [hget a1, hget b1] at hab
      have := hP.2.1 k1 k2 a2 b2 hab
      subst this
      exact z_ndi hnd a1 b1
    · obtain ⟨k1, a1, a2⟩ := hdi n hn
      show R0.1 (th.getD n 0) ≠ q
      rw [hget a1]
      exact (hP.2.2 q b hq).2 k1 a2
  obtain ⟨nn, o, s1, s2, s3, hQ⟩ := hM p e ha hc hk s m cav.toArray below hf happ ⟨⟨cav, rfl, z_Lmp hbs hav⟩, henv, hP0, hb⟩ hK
  refine ⟨nn, o, s1, s2, s3, ?_⟩
  generalize stepsAlone p.tables e nn s = t at hQ
  rcases hQ with ⟨⟨v, cv, R', w', ho, hO, ⟨hw2, hwl, hq⟩, hP', hT, hF⟩, hfe⟩ | ⟨q, ho, E, ce, L, ⟨R', w', hx, -⟩, -⟩
  · obtain ⟨L', P'⟩ := w'
    have hw2 : P' = z_no := hw2
    subst hw2
    have hwl : L'.length ≤ L0.length + nm := hwl
    have hl' : L'.length ≤ 1000 := by omega
    have hge : L0.length ≤ L'.length := by
      rcases Nat.lt_or_ge L'.length L0.length with z | z
      · have h1 : z_d (L0, z_no) L'.length := ⟨_, z_Lg' hl1 (List.getElem?_eq_getElem z)⟩
        obtain ⟨e9, he9⟩ := (hT.1 _ h1).1
        have := (List.getElem?_eq_some_iff.mp (z_gL he9)).1
        omega
      · exact z
    generalize hK0 : L'.length - L0.length = kk
    generalize hTH : z_thN th w.1.length kk = th'
    have hwN : z_wN w th L' L0.length = ((z_ss w th ((L'.take L0.length).map (z_re th'))).1 ++ (L'.drop L0.length).map (z_re th'), (z_ss w th ((L'.take L0.length).map (z_re th'))).2) := by
      unfold z_wN
      rw [hK0, hTH]
    generalize hW2 : z_ss w th ((L'.take L0.length).map (z_re th')) = w2 at hwN
    have hR : ∀ {i n : Nat}, th[i]? = some n → R'.1 i = R0.1 n := by
      intro i n hi
      rw [(hT.1 i (hid hi)).2]
      show R0.1 (th.getD i 0) = _
      rw [hget hi]
    have hdth : ∀ k ∈ th, z_d w k := by
      intro k hk9
      obtain ⟨i, hi⟩ := List.getElem?_of_mem hk9
      obtain ⟨e9, he9⟩ := hid hi
      obtain ⟨n9, h9, h8⟩ := hat i e9 (z_gL he9)
      rw [hi] at h9
      cases h9
      exact ⟨_, h8⟩
    have hl2 : w2.1.length = w.1.length := by rw [← hW2]; exact z_ss_len
    have hdw2 : ∀ n, z_d w2 n ↔ z_d w n := by rw [← hW2]; exact z_ss_d hdth
    -- names: old ones, and the added
    have hold9 : ∀ {n : Nat}, z_d w n → n < w.1.length ∨ 1000 ≤ n := by
      intro n ⟨e9, he9⟩
      by_cases hn : n < 1000
      · simp only [z_g, z_blt hn, cond] at he9
        exact Or.inl (List.getElem?_eq_some_iff.mp he9).1
      · exact Or.inr (Nat.not_lt.mp hn)
    have hgO : ∀ {n : Nat}, (n < w.1.length ∨ 1000 ≤ n) → z_g (z_wN w th L' L0.length) n = z_g w2 n := by
      intro n hn
      rw [hwN]
      exact z_gap (by rw [hl2]; exact hn)
    have hgN : ∀ {j : Nat}, j < kk → z_g (z_wN w th L' L0.length) (w.1.length + j) = (L'[L0.length + j]?).map (z_re th') := by
      intro j hj
      rw [hwN, z_gap2 (by rw [hl2]; omega) (by omega), hl2, List.getElem?_map, List.getElem?_drop]
      congr 2
      omega
    have hdO : ∀ {n : Nat}, z_d w n → z_d (z_wN w th L' L0.length) n := by
      intro n hn
      obtain ⟨e9, he9⟩ := (hdw2 n).mpr hn
      exact ⟨e9, by rw [hgO (hold9 hn)]; exact he9⟩
    have hdN : ∀ {n : Nat}, z_d (z_wN w th L' L0.length) n → z_d w n ∨ ∃ j, j < kk ∧ n = w.1.length + j := by
      intro n ⟨e9, he9⟩
      by_cases h1 : n < w.1.length ∨ 1000 ≤ n
      · rw [hgO h1] at he9
        exact Or.inl ((hdw2 n).mp ⟨e9, he9⟩)
      · have h2 : n < 1000 := by omega
        rw [hwN, z_gap2 (by rw [hl2]; omega) h2, hl2, List.getElem?_map, List.getElem?_drop] at he9
        cases h3 : L'[L0.length + (n - w.1.length)]? with
        | none => rw [h3] at he9; cases he9
        | some e8 =>
          have h4 := (List.getElem?_eq_some_iff.mp h3).1
          exact Or.inr ⟨n - w.1.length, by omega, by omega⟩
    have hthO : ∀ {i n : Nat}, th[i]? = some n → th'[i]? = some n := by
      intro i n hi
      rw [← hTH]
      unfold z_thN
      rw [List.getElem?_append_left (List.getElem?_eq_some_iff.mp hi).1]
      exact hi
    have hthN : ∀ {j : Nat}, j < kk → th'[L0.length + j]? = some (w.1.length + j) := by
      intro j hj
      rw [← hTH]
      unfold z_thN
      rw [List.getElem?_append_right (by omega), List.getElem?_map, List.getElem?_range (by omega)]
      show some (w.1.length + (L0.length + j - th.length)) = _
      rw [hlen]
      congr 2
      omega
    -- the later addresses
    generalize hRR : ((fun n => if n < w.1.length ∨ 1000 ≤ n then R0.1 n else R'.1 (L0.length + (n - w.1.length)), R'.2) : z_R) = RR
    have hRO : ∀ {n : Nat}, z_d w n → RR.1 n = R0.1 n := by
      intro n hn
      rw [← hRR]
      show (if n < w.1.length ∨ 1000 ≤ n then R0.1 n else _) = _
      rw [if_pos (hold9 hn)]
    have hRN : ∀ {j : Nat}, j < kk → RR.1 (w.1.length + j) = R'.1 (L0.length + j) := by
      intro j hj
      rw [← hRR]
      show (if w.1.length + j < w.1.length ∨ 1000 ≤ w.1.length + j then _ else R'.1 (L0.length + (w.1.length + j - w.1.length))) = _
      rw [if_neg (by omega), Nat.add_sub_cancel_left]
    have hR2 : RR.2 = R'.2 := by rw [← hRR]
    have hdL : ∀ i, z_d (L', z_no) i → (∃ n, th[i]? = some n) ∨ ∃ j, j < kk ∧ i = L0.length + j := by
      intro i ⟨e9, he9⟩
      have h1 := (List.getElem?_eq_some_iff.mp (z_gL he9)).1
      by_cases h2 : i < L0.length
      · exact Or.inl ⟨_, List.getElem?_eq_getElem (by rw [hlen]; exact h2)⟩
      · exact Or.inr ⟨i - L0.length, by omega, by omega⟩
    have hdNn : ∀ {j : Nat}, j < kk → z_d (L', z_no) (L0.length + j) := fun {j} hj => ⟨_, z_Lg' hl' (List.getElem?_eq_getElem (by omega))⟩
    have hdNw : ∀ {j : Nat}, j < kk → z_d (z_wN w th L' L0.length) (w.1.length + j) := by
      intro j hj
      have h1 := hgN hj
      rw [List.getElem?_eq_getElem (by omega)] at h1
      exact ⟨_, h1⟩
    have hsb : ∀ v c, z_V G R' (L', z_no) v c → z_V G RR (z_wN w th L' L0.length) (z_rn th' v) c := by
      intro v c hv
      cases v with
      | int x => exact hv
      | long x => exact hv
      | null => exact hv
      | float b => obtain ⟨q, h1, h2⟩ := hv; exact ⟨q, h1, by rw [hR2]; exact h2⟩
      | retAddr k => exact hv
      | double b => exact hv
      | ref i =>
        obtain ⟨h1, h2⟩ := hv
        rcases hdL i h1 with ⟨n, hi⟩ | ⟨j, hj, rfl⟩
        · simp only [z_rn, hthO hi]
          have hn := hdth n (List.mem_of_getElem? hi)
          exact ⟨hdO hn, by rw [h2, hR hi, hRO hn]⟩
        · simp only [z_rn, hthN hj]
          exact ⟨hdNw hj, by rw [h2, hRN hj]⟩
    have hbb : ∀ v c, z_V G R0 w v c → z_V G RR (z_wN w th L' L0.length) v c := by
      intro v c hv
      cases v with
      | int x => exact hv
      | long x => exact hv
      | null => exact hv
      | float b => obtain ⟨q, h1, h2⟩ := hv; exact ⟨q, h1, by rw [hR2]; exact h2.imp (hT.2.1 q b) id⟩
      | retAddr k => exact hv
      | double b => exact hv
      | ref n => exact ⟨hdO hv.1, by rw [hRO hv.1]; exact hv.2⟩
    have hnew : ∀ {j : Nat}, j < kk → s.heap.size ≤ R'.1 (L0.length + j) := by
      intro j hj
      refine hT.2.2.1 _ (hdNn hj) ?_
      rintro ⟨e9, he9⟩
      have := (List.getElem?_eq_some_iff.mp (z_gL he9)).1
      omega
    have hA : ∀ q, z_A ((fun i => R0.1 (th.getD i 0)), R0.2) (L0, z_no) s.heap.size q → z_A R0 w s.heap.size q := by
      rintro q (⟨i, hi, rfl⟩ | hq9)
      · obtain ⟨n, h1, h2⟩ := hdi i hi
        refine Or.inl ⟨n, h2, ?_⟩
        show R0.1 n = R0.1 (th.getD i 0)
        rw [hget h1]
      · exact Or.inr hq9
    have hold : ∀ n, z_d w n → n ∉ th → t.heap[R0.1 n]? = s.heap[R0.1 n]? := by
      intro n ⟨e9, he9⟩ hn
      refine hF.2 _ (hP.1 n e9 he9).1.lt ?_
      rintro (⟨i, hi, h9⟩ | h9)
      · obtain ⟨k, h1, h2⟩ := hdi i hi
        have h9 : R0.1 (th.getD i 0) = R0.1 n := h9
        rw [hget h1] at h9
        have := hP.2.1 k n h2 ⟨e9, he9⟩ h9
        subst this
        exact hn (List.mem_of_getElem? h1)
      · have := (hP.1 n e9 he9).1.lt
        omega
    have hltO : ∀ {n : Nat}, z_d w n → R0.1 n < s.heap.size := fun {n} ⟨e9, he9⟩ => (hP.1 n e9 he9).1.lt
    have hcell : ∀ {i : Nat} {e8 : z_E} {a : Nat}, z_X G R' (L', z_no) e8 a t.heap → z_X G RR (z_wN w th L' L0.length) (z_re th' e8) a t.heap := by
      intro i e8 a h3
      cases e8 with
      | inl x =>
        obtain ⟨z, z1, z2⟩ := h3
        exact ⟨z, z1, fun j hj => hsb _ _ (z2 j hj)⟩
      | inr o =>
        obtain ⟨q, gs, x1, x2, x3, x4⟩ := h3
        exact ⟨q, gs, x1, by rw [← x2]; exact List.length_map _, x3, z_Lpm hsb x4⟩
    refine Or.inl ⟨⟨v.map (z_rn th'), cv, RR, z_wN w th L' L0.length, ho, ?_, ⟨v, L', hq, by rw [hK0, hTH], rfl⟩, ⟨fun n e9 hn => ?_, fun a b ha hb hab => ?_, fun q b hq9 => ?_⟩, ⟨fun n hn => ⟨hdO hn, hRO hn⟩, fun q b hq9 => by rw [hR2]; exact hT.2.1 q b hq9, fun n hn hno => ?_, fun q b hq9 => by rw [hR2] at hq9; exact hT.2.2.2 q b hq9⟩, hF.1, fun q h1 h2 => hF.2 q h1 (fun z => h2 (hA q z))⟩, hfe⟩
    · cases v with
      | none =>
        cases cv with
        | none => exact trivial
        | some cv => exact hO.elim
      | some v =>
        cases cv with
        | none => exact hO.elim
        | some cv => exact hsb _ _ hO
    · rcases hdN ⟨e9, hn⟩ with hn1 | ⟨j, hj, rfl⟩
      · rw [hRO hn1]
        rw [hgO (hold9 hn1)] at hn
        by_cases hn9 : n ∈ th
        · obtain ⟨i, hi⟩ := List.getElem?_of_mem hn9
          have hil0 : i < L0.length := by rw [← hlen]; exact (List.getElem?_eq_some_iff.mp hi).1
          have hil : i < L'.length := by omega
          have h1 : z_g (z_ss w th ((L'.take L0.length).map (z_re th'))) n = some (z_re th' L'[i]) := z_ss_at hnd hdth hi (by rw [List.getElem?_map, List.getElem?_take, if_pos hil0, List.getElem?_eq_getElem hil]; rfl)
          rw [hW2, hn] at h1
          have h1 := Option.some.inj h1
          obtain ⟨h3, h4⟩ := hP'.1 i L'[i] (z_Lg' hl' (List.getElem?_eq_getElem hil))
          rw [hR hi] at h3 h4
          refine ⟨?_, h4⟩
          rw [h1]
          exact hcell (i := i) h3
        · rw [← hW2, z_ss_ne hn9] at hn
          exact ⟨(hP.1 n e9 hn).1.kept hbb (hold n hn1 hn9), (hP.1 n e9 hn).2⟩
      · rw [hRN hj]
        rw [hgN hj, List.getElem?_eq_getElem (by omega)] at hn
        have h1 := Option.some.inj hn
        obtain ⟨h3, h4⟩ := hP'.1 (L0.length + j) _ (z_Lg' hl' (List.getElem?_eq_getElem (by omega)))
        refine ⟨?_, h4⟩
        rw [← h1]
        exact hcell (i := 0) h3
    · rcases hdN ha with h1 | ⟨i, hi, rfl⟩ <;> rcases hdN hb with h2 | ⟨j, hj, rfl⟩
      · rw [hRO h1, hRO h2] at hab
        exact hP.2.1 a b h1 h2 hab
      · rw [hRO h1, hRN hj] at hab
        have := hltO h1
        have := hnew hj
        omega
      · rw [hRN hi, hRO h2] at hab
        have := hltO h2
        have := hnew hi
        omega
      · rw [hRN hi, hRN hj] at hab
        have := hP'.2.1 _ _ (hdNn hi) (hdNn hj) hab
        omega
    · rw [hR2] at hq9
      refine ⟨(hP'.2.2 q b hq9).1, fun n hn => ?_⟩
      rcases hdN hn with hn2 | ⟨j, hj, rfl⟩
      · rw [hRO hn2]
        by_cases hn9 : n ∈ th
        · obtain ⟨i, hi⟩ := List.getElem?_of_mem hn9
          have h1 := (hP'.2.2 q b hq9).2 i (hT.1 i (hid hi)).1
          rw [hR hi] at h1
          exact h1
        · cases h8 : R0.2 q with
          | none =>
            have h7 := hT.2.2.2 q b hq9 h8
            have := hltO hn2
            omega
          | some b8 => exact (hP.2.2 q b8 h8).2 n hn2
      · rw [hRN hj]
        exact (hP'.2.2 q b hq9).2 _ (hdNn hj)
    · rcases hdN hn with hn2 | ⟨j, hj, rfl⟩
      · exact absurd hn2 hno
      · rw [hRN hj]
        exact hnew hj
  · exact hx.elim
abbrev z_SN (rk mc ms nm : Nat) (L0 : List z_E) (Q : Option Value → List z_E → Prop) : z_S := (rk, mc, ms, (L0, z_no), (fun v w => w.2 = z_no ∧ w.1.length ≤ L0.length + nm ∧ Q v w.1), fun _ _ => False)
end ZFN
end ZM8
section ZM9
section ZM2
variable {G : z_G} {l : Launch} {y : z_M} {S : z_S} {pc : Nat} {lo : List (Nat × Value)} {st : List Value} {w w' : z_W} {kc ks : Nat}
theorem j_idiv {a b : Int32} (hd : decode y.2.1 pc = .ok (.idiv, 1)) (hne : ¬ b = 0) (h : z_J G l y S (pc + 1) lo (.int (a / b) :: st) w kc ks) : z_J G l y S pc lo (.int b :: .int a :: st) w kc ks := by
  intro p e s m args below meth c R0 hok R H locs ls cst hat hlo hst
  obtain ⟨c1, cs1, rfl, h1, hst1⟩ := z_Lc hst
  obtain ⟨c2, cs2, rfl, h2, hst2⟩ := z_Lc hst1
  have h1 : c1 = .int b := h1
  have h2 : c2 = .int a := h2
  subst h1 h2
  exact lv_idiv hok.1 hok.2.1 hd hne (h p e s m args below meth c R0 hok R H locs ls _ hat hlo ⟨rfl, hst2⟩)
theorem j_irem {a b : Int32} (hd : decode y.2.1 pc = .ok (.irem, 1)) (hne : ¬ b = 0) (h : z_J G l y S (pc + 1) lo (.int (a - a / b * b) :: st) w kc ks) : z_J G l y S pc lo (.int b :: .int a :: st) w kc ks := by
  intro p e s m args below meth c R0 hok R H locs ls cst hat hlo hst
  obtain ⟨c1, cs1, rfl, h1, hst1⟩ := z_Lc hst
  obtain ⟨c2, cs2, rfl, h2, hst2⟩ := z_Lc hst1
  have h1 : c1 = .int b := h1
  have h2 : c2 = .int a := h2
  subst h1 h2
  exact lv_irem hok.1 hok.2.1 hd hne (h p e s m args below meth c R0 hok R H locs ls _ hat hlo ⟨rfl, hst2⟩)
theorem j_ldc {idx : Nat} {v : Int32} (hd : decode y.2.1 pc = .ok (.ldc idx, 2)) (hc : Cond.constant y.1.cls idx v ∈ z_tbl) (h : z_J G l y S (pc + 2) lo (.int v :: st) w kc ks) : z_J G l y S pc lo st w kc ks := by
  intro p e s m args below meth c R0 hok R H locs ls cst hat hlo hst
  exact lv_ldc hok.1 hok.2.1 hok.2.2.2.2.2.1 (hok.2.2.2.2.2.2.1 _ hc) hd (h p e s m args below meth c R0 hok R H locs ls _ hat hlo ⟨rfl, hst⟩)
theorem j_ldc2 {idx : Nat} {v : Int64} (hd : decode y.2.1 pc = .ok (.ldc2_w idx, 3)) (hc : Cond.constantLong y.1.cls idx v ∈ z_tbl) (h : z_J G l y S (pc + 3) lo (.long v :: st) w kc ks) : z_J G l y S pc lo st w kc ks := by
  intro p e s m args below meth c R0 hok R H locs ls cst hat hlo hst
  exact lv_ldc2 hok.1 hok.2.1 hok.2.2.2.2.2.1 (hok.2.2.2.2.2.2.1 _ hc) hd (h p e s m args below meth c R0 hok R H locs ls _ hat hlo ⟨rfl, hst⟩)
theorem j_acmp_ne {a b : Nat} {off : Int} {tgt : Nat} (hd : decode y.2.1 pc = .ok (.if_acmp .ne off, 3)) (ht : (pc : Int) + off = (tgt : Int)) (kt : ¬ a = b → z_J G l y S tgt lo st w kc ks) (kf : a = b → z_J G l y S (pc + 3) lo st w kc ks) : z_J G l y S pc lo (.ref b :: .ref a :: st) w kc ks := by
  intro p e s m args below meth c R0 hok R H locs ls cst hat hlo hst
  obtain ⟨c1, cs1, rfl, ⟨d1, h1⟩, hst1⟩ := z_Lc hst
  obtain ⟨c2, cs2, rfl, ⟨d2, h2⟩, hst2⟩ := z_Lc hst1
  subst h1 h2
  refine lv_acmp_ne (rx := some (R.1 a)) (ry := some (R.1 b)) hok.1 hok.2.1 hd ht (fun hne => ?_) (fun he => ?_)
  · exact kt (fun z => hne (by rw [z])) p e s m args below meth c R0 hok R H locs ls _ hat hlo hst2
  · exact kf (hat.1.2.1 a b d2 d1 (Option.some.inj he)) p e s m args below meth c R0 hok R H locs ls _ hat hlo hst2
theorem z_thrOf {own cls : String} {ik ic : Nat} {names : List String} (h1 : Bundle.fit cls = true) (h2 : names.all Bundle.fit = true) (h3 : Cond.classLink own ik cls ∈ z_tbl) (h4 : Cond.initialized cls ∈ z_tbl) (h5 : (vx_atS own ic cls names).all (fun w => decide (w ∈ lw_tbl) && (goodWord w || (z_isN w && w.onTables)) && vx_ot w) = true) : z_thr own ik ic cls names := by
  have h6 := List.all_eq_true.mp h5
  refine ⟨h1, List.all_eq_true.mp h2, h3, h4, fun w hw => ?_, fun w hw => ?_⟩
  · have h7 := h6 w hw
    simp only [Bool.and_eq_true, Bool.or_eq_true, decide_eq_true_eq] at h7
    rcases h7.1.2 with z | z
    · exact Or.inl (List.mem_filter.mpr ⟨h7.1.1, z⟩)
    · exact Or.inr ⟨List.mem_filter.mpr ⟨h7.1.1, z.1⟩, z.2⟩
  · have h7 := h6 w hw
    simp only [Bool.and_eq_true] at h7
    exact h7.2
end ZM2
end ZM9
section ZM10
section ZT
def ztq_s : List (Nat × Nat) → List Cond
  | [] => []
  | (a, b) :: t => (lw_tbl.drop a).take b ++ ztq_s t
theorem ztq_i {w : Cond} : ∀ {l : List (Nat × Nat)}, w ∈ ztq_s l → w ∈ lw_tbl
  | [], h => nomatch h
  | (_, _) :: _, h => (List.mem_append.mp h).elim (fun g => List.mem_of_mem_drop (List.mem_of_mem_take g)) ztq_i
abbrev ztq_sl : List Cond := ztq_s [(458, 67), (847, 50), (87, 16), (1994, 10), (61, 6), (1436, 3), (8, 1), (132, 1), (162, 1), (247, 1), (572, 1), (736, 1), (760, 1), (804, 1), (836, 1), (1340, 1), (1352, 1), (1378, 1), (1534, 1), (1676, 1), (1688, 1), (1750, 1), (1973, 1)]
theorem ztq_of {own cls : String} {ic : Nat} {names : List String} (h5 : (vx_atS own ic cls names).all (fun w => decide (w ∈ ztq_sl) && (goodWord w || (z_isN w && w.onTables)) && vx_ot w) = true) : (vx_atS own ic cls names).all (fun w => decide (w ∈ lw_tbl) && (goodWord w || (z_isN w && w.onTables)) && vx_ot w) = true := by
  rw [List.all_eq_true] at h5 ⊢
  intro w hw
  have h := h5 w hw
  simp only [Bool.and_eq_true, decide_eq_true_eq] at h ⊢
  exact ⟨⟨ztq_i h.1.1, h.1.2⟩, h.2⟩
set_option maxRecDepth 100000 in
set_option maxHeartbeats 4000000 in
theorem th_A : z_thr RX8 302 306 "java/lang/IllegalArgumentException" ["java/lang/RuntimeException", "java/lang/Exception"] := z_thrOf (by decide +kernel) (by decide +kernel) (z_w 458 ((lwt_2_5 23).trans rfl) (by decide +kernel)) (z_w 65 ((lwg_1 20).trans rfl) (by decide +kernel)) (ztq_of (by decide +kernel))
set_option maxRecDepth 100000 in
set_option maxHeartbeats 4000000 in
theorem th_I : z_thr RX8 198 202 "java/lang/IndexOutOfBoundsException" ["java/lang/RuntimeException", "java/lang/Exception"] := z_thrOf (by decide +kernel) (by decide +kernel) (z_w 858 ((lwt_4_3 3).trans rfl) (by decide +kernel)) (z_w 64 ((lwg_1 19).trans rfl) (by decide +kernel)) (ztq_of (by decide +kernel))
set_option maxRecDepth 100000 in
set_option maxHeartbeats 4000000 in
theorem th_S : z_thr RX8 58 62 "java/lang/IllegalStateException" ["java/lang/RuntimeException", "java/lang/Exception"] := z_thrOf (by decide +kernel) (by decide +kernel) (z_w 881 ((lwt_4_3 26).trans rfl) (by decide +kernel)) (z_w 66 ((lwg_1 21).trans rfl) (by decide +kernel)) (ztq_of (by decide +kernel))
theorem kcX8_272 : Cond.constantLong RX8 272 7774 ∈ z_tbl := (z_w 450 ((lwt_2_5 15).trans rfl) (by decide +kernel))
theorem kcX8_350 : Cond.constantLong RX8 350 31 ∈ z_tbl := (z_w 541 ((lwg_3 16).trans rfl) (by decide +kernel))
theorem kcJ8_200 : Cond.constant RJ8 200 2147483639 ∈ z_tbl := (z_w 616 ((lwt_3_3 1).trans rfl) (by decide +kernel))
theorem kcJ5_39 : Cond.constant RJ5 39 2147483647 ∈ z_tbl := (z_w 620 ((lwt_3_3 5).trans rfl) (by decide +kernel))
theorem kcX8_179 : Cond.constant RX8 179 99999 ∈ z_tbl := (z_w 1195 ((lwt_5_6 10).trans rfl) (by decide +kernel))
theorem kcX11_67 : Cond.constant RX11 67 100000 ∈ z_tbl := (z_w 1595 ((lwt_7_3 20).trans rfl) (by decide +kernel))
theorem kcX11_189 : Cond.constant RX11 189 99999 ∈ z_tbl := (z_w 1825 ((lwt_8_3 10).trans rfl) (by decide +kernel))
theorem kcX11_245 : Cond.constantLong RX11 245 7774 ∈ z_tbl := (z_w 1959 ((lwt_8_7 24).trans rfl) (by decide +kernel))
theorem kcX11_243 : Cond.constantLong RX11 243 31 ∈ z_tbl := (z_w 1963 ((lwt_8_7 28).trans rfl) (by decide +kernel))
end ZT
end ZM10
section ZM11
section ZFX
def z_CX (G : z_G) (l : Launch) (y : z_M) (rk mc ms : Nat) (L0 : List z_E) (av : List Value) (Q : Option Value → List z_E → Prop) (X : String → List z_E → Prop) : Prop :=
  z_Con G l y rk mc ms (L0, z_no) av (fun v w => w.2 = z_no ∧ w.1.length = L0.length ∧ Q v w.1) (fun E w => w.2 = z_no ∧ w.1.length = L0.length ∧ X E w.1)
set_option maxHeartbeats 4000000 in
theorem z_frameX {G : z_G} {l : Launch} {y : z_M} {rk mc ms : Nat} {L0 : List z_E} {av : List Value} {Q : Option Value → List z_E → Prop} {X : String → List z_E → Prop} {w : z_W} (th : List Nat) (hth : th.map (z_g w) = L0.map (fun e => some (z_re th e))) (hnd : th.Nodup) (hl : L0.length ≤ 1000) (h : z_CX G l y rk mc ms L0 av Q X) :
    z_Con G l y rk mc ms w (av.map (z_rn th)) (fun v w' => ∃ (v0 : Option Value) (L' : List z_E), Q v0 L' ∧ v = v0.map (z_rn th) ∧ w' = z_ss w th (L'.map (z_re th))) (fun E w' => ∃ L' : List z_E, X E L' ∧ w' = z_ss w th (L'.map (z_re th))) := by
  intro R0
  have hM := h ((fun i => R0.1 (th.getD i 0)), R0.2)
  intro p e ha hc hk s m args below hf happ hPc hK
  obtain ⟨⟨cav, rfl, hav⟩, henv, hP, hb⟩ := hPc
  have hlen : th.length = L0.length := by have := congrArg List.length hth; simpa using this
  have hat : ∀ (i : Nat) (e : z_E), L0[i]? = some e → ∃ n, th[i]? = some n ∧ z_g w n = some (z_re th e) := by
    intro i e he
    have h1 : (th.map (z_g w))[i]? = (L0.map (fun e => some (z_re th e)))[i]? := by rw [hth]
    rw [List.getElem?_map, List.getElem?_map, he] at h1
    cases hi : th[i]? with
    | none => rw [hi] at h1; cases h1
    | some n => rw [hi] at h1; exact ⟨n, rfl, Option.some.inj h1⟩
  have hget : ∀ {i n : Nat}, th[i]? = some n → th.getD i 0 = n := by
    intro i n hi
    rw [List.getD_eq_getElem?_getD, hi]
    rfl
  have hdi : ∀ i, z_d (L0, z_no) i → ∃ n, th[i]? = some n ∧ z_d w n := by
    intro i ⟨e, he⟩
    obtain ⟨n, h1, h2⟩ := hat i e (z_gL he)
    exact ⟨n, h1, ⟨_, h2⟩⟩
  have hid : ∀ {i n : Nat}, th[i]? = some n → z_d (L0, z_no) i := by
    intro i n hi
    have h1 : i < L0.length := by rw [← hlen]; exact (List.getElem?_eq_some_iff.mp hi).1
    exact ⟨L0[i], z_Lg' hl (List.getElem?_eq_getElem h1)⟩
  have hbs : ∀ v c, z_V G R0 w (z_rn th v) c → z_V G ((fun i => R0.1 (th.getD i 0)), R0.2) (L0, z_no) v c := by
    intro v c hv
    cases v with
    | int x => exact hv
    | long x => exact hv
    | null => exact hv
    | float b => exact hv
    | retAddr k => exact hv
    | double b => exact hv
    | ref i =>
      cases hi : th[i]? with
      | none => simp only [z_rn, hi] at hv; exact hv.elim
      | some n =>
        simp only [z_rn, hi] at hv
        refine ⟨hid hi, ?_⟩
        show c = .ref (R0.1 (th.getD i 0))
        rw [hget hi]
        exact hv.2
  have hP0 : z_P G ((fun i => R0.1 (th.getD i 0)), R0.2) (L0, z_no) s.heap := by
    refine ⟨fun n e he => ?_, fun a b ha hb hab => ?_, fun q b hq => ⟨(hP.2.2 q b hq).1, fun n hn => ?_⟩⟩
    · obtain ⟨k, h1, h2⟩ := hat n e (z_gL he)
      obtain ⟨h3, h4⟩ := hP.1 k _ h2
      show z_X _ _ _ _ (R0.1 (th.getD n 0)) _ ∧ _ ≤ R0.1 (th.getD n 0)
      rw [hget h1]
      refine ⟨?_, h4⟩
      cases e with
      | inl x =>
        obtain ⟨z, z1, z2⟩ := h3
        exact ⟨z, z1, fun j hj => hbs _ _ (z2 j hj)⟩
      | inr o =>
        obtain ⟨q, gs, x1, x2, x3, x4⟩ := h3
        exact ⟨q, gs, x1, by rw [← x2]; exact (List.length_map _).symm, x3, z_Lmp hbs x4⟩
    · obtain ⟨k1, a1, a2⟩ := hdi a ha
      obtain ⟨k2, b1, b2⟩ := hdi b hb
      have hab : R0.1 (th.getD a 0) = R0.1 (th.getD b 0) := hab
      rw [hget a1, hget b1] at hab
      have := hP.2.1 k1 k2 a2 b2 hab
      subst this
      exact z_ndi hnd a1 b1
    · obtain ⟨k1, a1, a2⟩ := hdi n hn
      show R0.1 (th.getD n 0) ≠ q
      rw [hget a1]
      exact (hP.2.2 q b hq).2 k1 a2
  obtain ⟨nn, o, s1, s2, s3, hQ⟩ := hM p e ha hc hk s m cav.toArray below hf happ ⟨⟨cav, rfl, z_Lmp hbs hav⟩, henv, hP0, hb⟩ hK
  refine ⟨nn, o, s1, s2, s3, ?_⟩
  generalize stepsAlone p.tables e nn s = t at hQ
  have key : ∀ (R' : z_R) (L' : List z_E) (P' : Nat → Option z_E), P' = z_no → L'.length = L0.length → z_P G R' (L', P') t.heap → z_T ((fun i => R0.1 (th.getD i 0)), R0.2) (L0, z_no) s.heap.size R' (L', P') → va_F (z_A ((fun i => R0.1 (th.getD i 0)), R0.2) (L0, z_no) s.heap.size) s t →
      (∀ v c, z_V G R' (L', P') v c → z_V G (R0.1, R'.2) (z_ss w th (L'.map (z_re th))) (z_rn th v) c) ∧ z_P G (R0.1, R'.2) (z_ss w th (L'.map (z_re th))) t.heap ∧ z_T R0 w s.heap.size (R0.1, R'.2) (z_ss w th (L'.map (z_re th))) ∧ va_F (z_A R0 w s.heap.size) s t := by
    intro R' L' P' hw2 hwl hP' hT hF
    subst hw2
    have hl' : L'.length ≤ 1000 := by rw [hwl]; exact hl
    have hR : ∀ {i n : Nat}, th[i]? = some n → R'.1 i = R0.1 n := by
      intro i n hi
      rw [(hT.1 i (hid hi)).2]
      show R0.1 (th.getD i 0) = _
      rw [hget hi]
    have hdth : ∀ k ∈ th, z_d w k := by
      intro k hk9
      obtain ⟨i, hi⟩ := List.getElem?_of_mem hk9
      obtain ⟨e9, he9⟩ := hid hi
      obtain ⟨n9, h9, h8⟩ := hat i e9 (z_gL he9)
      rw [hi] at h9
      cases h9
      exact ⟨_, h8⟩
    have hdw : ∀ n, z_d (z_ss w th (L'.map (z_re th))) n ↔ z_d w n := z_ss_d hdth
    have hdL : ∀ i, z_d (L', z_no) i → ∃ n, th[i]? = some n := by
      intro i ⟨e9, he9⟩
      have h1 := (List.getElem?_eq_some_iff.mp (z_gL he9)).1
      exact ⟨_, List.getElem?_eq_getElem (by rw [hlen, ← hwl]; exact h1)⟩
    have hsb : ∀ v c, z_V G R' (L', z_no) v c → z_V G (R0.1, R'.2) (z_ss w th (L'.map (z_re th))) (z_rn th v) c := by
      intro v c hv
      cases v with
      | int x => exact hv
      | long x => exact hv
      | null => exact hv
      | float b => exact hv
      | retAddr k => exact hv
      | double b => exact hv
      | ref i =>
        obtain ⟨h1, h2⟩ := hv
        obtain ⟨n, hi⟩ := hdL i h1
        simp only [z_rn, hi]
        exact ⟨(hdw n).mpr (hdth n (List.mem_of_getElem? hi)), by rw [h2, hR hi]⟩
    have hbb : ∀ v c, z_V G R0 w v c → z_V G (R0.1, R'.2) (z_ss w th (L'.map (z_re th))) v c := by
      intro v c hv
      cases v with
      | int x => exact hv
      | long x => exact hv
      | null => exact hv
      | float b => obtain ⟨q, h1, h2⟩ := hv; exact ⟨q, h1, h2.imp (hT.2.1 q b) id⟩
      | retAddr k => exact hv
      | double b => exact hv
      | ref n => exact ⟨(hdw n).mpr hv.1, hv.2⟩
    have hA : ∀ q, z_A ((fun i => R0.1 (th.getD i 0)), R0.2) (L0, z_no) s.heap.size q → z_A R0 w s.heap.size q := by
      rintro q (⟨i, hi, rfl⟩ | hq9)
      · obtain ⟨n, h1, h2⟩ := hdi i hi
        refine Or.inl ⟨n, h2, ?_⟩
        show R0.1 n = R0.1 (th.getD i 0)
        rw [hget h1]
      · exact Or.inr hq9
    have hold : ∀ n, z_d w n → n ∉ th → t.heap[R0.1 n]? = s.heap[R0.1 n]? := by
      intro n ⟨e9, he9⟩ hn
      refine hF.2 _ (hP.1 n e9 he9).1.lt ?_
      rintro (⟨i, hi, h9⟩ | h9)
      · obtain ⟨k, h1, h2⟩ := hdi i hi
        have h9 : R0.1 (th.getD i 0) = R0.1 n := h9
        rw [hget h1] at h9
        have := hP.2.1 k n h2 ⟨e9, he9⟩ h9
        subst this
        exact hn (List.mem_of_getElem? h1)
      · have := (hP.1 n e9 he9).1.lt
        omega
    refine ⟨hsb, ⟨fun n e9 hn => ?_, fun a b ha hb hab => hP.2.1 a b ((hdw a).mp ha) ((hdw b).mp hb) hab, fun q b hq9 => ⟨(hP'.2.2 q b hq9).1, fun n hn => ?_⟩⟩, ⟨fun n hn => ⟨(hdw n).mpr hn, rfl⟩, hT.2.1, fun n hn hno => absurd ((hdw n).mp hn) hno, hT.2.2.2⟩, hF.1, fun q h1 h2 => hF.2 q h1 (fun z => h2 (hA q z))⟩
    · by_cases hn9 : n ∈ th
      · obtain ⟨i, hi⟩ := List.getElem?_of_mem hn9
        have hil : i < L'.length := by rw [hwl, ← hlen]; exact (List.getElem?_eq_some_iff.mp hi).1
        have h1 : z_g (z_ss w th (L'.map (z_re th))) n = some (z_re th L'[i]) := z_ss_at hnd hdth hi (by rw [List.getElem?_map, List.getElem?_eq_getElem hil]; rfl)
        rw [hn] at h1
        have h1 := Option.some.inj h1
        obtain ⟨h3, h4⟩ := hP'.1 i L'[i] (z_Lg' hl' (List.getElem?_eq_getElem hil))
        rw [hR hi] at h3 h4
        refine ⟨?_, h4⟩
        rw [h1]
        generalize L'[i] = e8 at h3
        cases e8 with
        | inl x =>
          obtain ⟨z, z1, z2⟩ := h3
          exact ⟨z, z1, fun j hj => hsb _ _ (z2 j hj)⟩
        | inr o =>
          obtain ⟨q, gs, x1, x2, x3, x4⟩ := h3
          exact ⟨q, gs, x1, by rw [← x2]; exact List.length_map _, x3, z_Lpm hsb x4⟩
      · rw [z_ss_ne hn9] at hn
        exact ⟨(hP.1 n e9 hn).1.kept hbb (hold n ⟨_, hn⟩ hn9), (hP.1 n e9 hn).2⟩
    · have hn2 := (hdw n).mp hn
      by_cases hn9 : n ∈ th
      · obtain ⟨i, hi⟩ := List.getElem?_of_mem hn9
        have h1 := (hP'.2.2 q b hq9).2 i (hT.1 i (hid hi)).1
        rw [hR hi] at h1
        exact h1
      · cases h8 : R0.2 q with
        | none =>
          have h7 := hT.2.2.2 q b hq9 h8
          obtain ⟨e8, he8⟩ := hn2
          have := (hP.1 n e8 he8).1.lt
          show R0.1 n ≠ q
          omega
        | some b8 => exact (hP.2.2 q b8 h8).2 n hn2
  rcases hQ with ⟨⟨v, cv, R', w', ho, hO, ⟨hw2, hwl, hq⟩, hP', hT, hF⟩, hfe⟩ | ⟨q, ho, E, ce, L, ⟨R', w', ⟨hw2, hwl, hx⟩, hP', hT, hF⟩, r2⟩
  · obtain ⟨L', P'⟩ := w'
    obtain ⟨hsb, k2, k3, k4⟩ := key R' L' P' hw2 hwl hP' hT hF
    refine Or.inl ⟨⟨v.map (z_rn th), cv, (R0.1, R'.2), z_ss w th (L'.map (z_re th)), ho, ?_, ⟨v, L', hq, rfl, rfl⟩, k2, k3, k4⟩, hfe⟩
    cases v with
    | none =>
      cases cv with
      | none => exact trivial
      | some cv => exact hO.elim
    | some v =>
      cases cv with
      | none => exact hO.elim
      | some cv => exact hsb _ _ hO
  · obtain ⟨L', P'⟩ := w'
    obtain ⟨hsb, k2, k3, k4⟩ := key R' L' P' hw2 hwl hP' hT hF
    exact Or.inr ⟨q, ho, E, ce, L, ⟨(R0.1, R'.2), z_ss w th (L'.map (z_re th)), ⟨L', hx, rfl⟩, k2, k3, k4⟩, r2⟩
theorem z_CFX {G : z_G} {l : Launch} {y : z_M} {rk mc ms : Nat} {L0 : List z_E} {av : List Value} {Q : Option Value → List z_E → Prop} {X : String → List z_E → Prop} (h : z_CF G l y rk mc ms L0 av Q) : z_CX G l y rk mc ms L0 av Q X := z_weak h (fun _ _ h => h) (fun _ _ h => h.elim)
abbrev z_SX (rk mc ms : Nat) (L0 : List z_E) (Q : Option Value → List z_E → Prop) (X : String → List z_E → Prop) : z_S := (rk, mc, ms, (L0, z_no), (fun v w => w.2 = z_no ∧ w.1.length = L0.length ∧ Q v w.1), fun E w => w.2 = z_no ∧ w.1.length = L0.length ∧ X E w.1)
def z_cV (n : Nat) (v : Value) : Prop := match v with
  | .ref a => a < n
  | _ => True
def z_cE (n : Nat) (e : z_E) : Prop := match e with
  | .inl x => ∀ j, j < x.2.1 → z_cV n (x.2.2 j)
  | .inr o => ∀ v ∈ o.2, z_cV n v
theorem z_cia {n k : Nat} {f : Nat → Int32} : z_cE n (z_ia k f) := fun _ _ => trivial
theorem z_cE0 {n k : Nat} : z_cE n (.inr (k, [])) := fun _ h => by cases h
theorem z_cEc {n k : Nat} {v : Value} {t : List Value} (h : z_cV n v) (ht : z_cE n (.inr (k, t))) : z_cE n (.inr (k, v :: t)) := fun x hx => by
  rcases List.mem_cons.mp hx with rfl | hx
  · exact h
  · exact ht x hx
def z_cL (n : Nat) : List z_E → Prop
  | [] => True
  | e :: t => z_cE n e ∧ z_cL n t
theorem z_cLm {n : Nat} : ∀ {L : List z_E}, z_cL n L → ∀ e ∈ L, z_cE n e
  | [], _, _, h => by cases h
  | a :: t, h, e, he => by
    rcases List.mem_cons.mp he with rfl | he
    · exact h.1
    · exact z_cLm h.2 e he
end ZFX
end ZM11
section ZM12
section ZW9
theorem z_sw4 (x : Int32) : x = (0 : Int32) ∨ x = (1 : Int32) ∨ x = (2 : Int32) ∨ x = (3 : Int32) ∨ (x.toInt < 0 ∨ 3 < x.toInt) := by
  by_cases h0 : x.toInt = (0 : Nat)
  · exact Or.inl (z_swE h0 (by decide))
  by_cases h1 : x.toInt = (1 : Nat)
  · exact Or.inr (Or.inl (z_swE h1 (by decide)))
  by_cases h2 : x.toInt = (2 : Nat)
  · exact Or.inr (Or.inr (Or.inl (z_swE h2 (by decide))))
  by_cases h3 : x.toInt = (3 : Nat)
  · exact Or.inr (Or.inr (Or.inr (Or.inl (z_swE h3 (by decide)))))
  exact Or.inr (Or.inr (Or.inr (Or.inr (by omega))))
theorem z_sw5 (x : Int32) : x = (0 : Int32) ∨ x = (1 : Int32) ∨ x = (2 : Int32) ∨ x = (3 : Int32) ∨ x = (4 : Int32) ∨ (x.toInt < 0 ∨ 4 < x.toInt) := by
  by_cases h0 : x.toInt = (0 : Nat)
  · exact Or.inl (z_swE h0 (by decide))
  by_cases h1 : x.toInt = (1 : Nat)
  · exact Or.inr (Or.inl (z_swE h1 (by decide)))
  by_cases h2 : x.toInt = (2 : Nat)
  · exact Or.inr (Or.inr (Or.inl (z_swE h2 (by decide))))
  by_cases h3 : x.toInt = (3 : Nat)
  · exact Or.inr (Or.inr (Or.inr (Or.inl (z_swE h3 (by decide)))))
  by_cases h4 : x.toInt = (4 : Nat)
  · exact Or.inr (Or.inr (Or.inr (Or.inr (Or.inl (z_swE h4 (by decide))))))
  exact Or.inr (Or.inr (Or.inr (Or.inr (Or.inr (by omega)))))
def z_xA (E : String) : Prop := E = "java/lang/IllegalArgumentException"
def z_xI (E : String) : Prop := E = "java/lang/IndexOutOfBoundsException"
def z_xS (E : String) : Prop := E = "java/lang/IllegalStateException"
theorem z_dirX {G : z_G} {l : Launch} {y : z_M} {rk mc ms : Nat} {L0 : List z_E} {av : List Value} {Q : Option Value → List z_E → Prop} {X : String → List z_E → Prop} (h : z_CX G l y rk mc ms L0 av Q X) : z_Con G l y rk mc ms (L0, z_no) av (fun v w => ∃ L' : List z_E, Q v L' ∧ w = (L', z_no)) (fun E w => ∃ L' : List z_E, X E L' ∧ w = (L', z_no)) :=
  z_weak h (fun _ w h => ⟨w.1, h.2.2, by rw [← h.1]⟩) (fun _ w h => ⟨w.1, h.2.2, by rw [← h.1]⟩)
theorem z_dirF {G : z_G} {l : Launch} {y : z_M} {rk mc ms : Nat} {L0 : List z_E} {av : List Value} {Q : Option Value → List z_E → Prop} (h : z_CF G l y rk mc ms L0 av Q) : z_Con G l y rk mc ms (L0, z_no) av (fun v w => ∃ L' : List z_E, Q v L' ∧ w = (L', z_no)) (fun _ _ => False) :=
  z_weak h (fun _ w h => ⟨w.1, h.2.2, by rw [← h.1]⟩) (fun _ _ h => h)
theorem arc_int : Cond.arrayClass .int ∈ z_tbl := (z_w 107 ((lwt_1_2 2).trans rfl) (by decide +kernel))
theorem arc_byte : Cond.arrayClass .byte ∈ z_tbl := (z_w 525 ((lwg_3 0).trans rfl) (by decide +kernel))
theorem arc_boolean : Cond.arrayClass .boolean ∈ z_tbl := (z_w 1401 ((lwt_6_5 6).trans rfl) (by decide +kernel))
end ZW9
end ZM12
section ZM13
section ZCW
abbrev z_cw (rf : Int32) (kn : Int32) (ma : Int32) (xa : Bool) (fa : Nat → Int32) (ca : Nat → Int32) (mb : Int32) (xb : Bool) (fb : Nat → Int32) (cb : Nat → Int32) (mt : Int32) (xt : Bool) (ft : Nat → Int32) (ct : Nat → Int32) (f0 : Nat → Int32) (g0 : Nat → Int32) (c0 : Nat → Int32) (m0 : Int32) (s0 : Int32) (f1 : Nat → Int32) (g1 : Nat → Int32) (c1 : Nat → Int32) (m1 : Int32) (s1 : Int32) (f2 : Nat → Int32) (g2 : Nat → Int32) (c2 : Nat → Int32) (m2 : Int32) (s2 : Int32) (f3 : Nat → Int32) (g3 : Nat → Int32) (c3 : Nat → Int32) (m3 : Int32) (s3 : Int32) (f4 : Nat → Int32) (g4 : Nat → Int32) (c4 : Nat → Int32) (m4 : Int32) (s4 : Int32) (f5 : Nat → Int32) (g5 : Nat → Int32) (c5 : Nat → Int32) (m5 : Int32) (s5 : Int32) (ek0 : Int32) (em0 : Int32) (es0 : Int32) (el0 : Int32) (b0 : Int32) (ef0 : Nat → Int32) (ek1 : Int32) (em1 : Int32) (es1 : Int32) (el1 : Int32) (b1 : Int32) (ef1 : Nat → Int32) (X : List z_E) : List z_E := [.inr (12, [.ref 1, .ref 10, .ref 15, .ref 26, .ref 31, .ref 35, .ref 40, .int rf, .int kn]), .inl (4, 2, z_u (z_u (fun _ => .null) 0 (.ref 2)) 1 (.ref 6)), .inr (6, [.ref 3, .ref 4, .int ma, .int (z_bi xa)]), z_ia 12 fa, .inr (11, [.ref 5]), z_ia 7 ca, .inr (6, [.ref 7, .ref 8, .int mb, .int (z_bi xb)]), z_ia 12 fb, .inr (11, [.ref 9]), z_ia 7 cb, .inr (9, [.int s0, .ref 11, .ref 12, .ref 13, .int m0]), z_ia 20 f0, z_ia 20 g0, .inr (11, [.ref 14]), z_ia 7 c0, .inl (5, 3, z_u (z_u (z_u (fun _ => .null) 0 (.ref 10)) 1 (.ref 16)) 2 (.ref 21)), .inr (9, [.int s1, .ref 17, .ref 18, .ref 19, .int m1]), z_ia 20 f1, z_ia 20 g1, .inr (11, [.ref 20]), z_ia 7 c1, .inr (9, [.int s2, .ref 22, .ref 23, .ref 24, .int m2]), z_ia 20 f2, z_ia 20 g2, .inr (11, [.ref 25]), z_ia 7 c2, .inl (6, 2, z_u (z_u (fun _ => .null) 0 (.ref 27)) 1 (.ref 29)), .inr (5, [.ref 28, .int ek0, .int em0, .int es0, .int el0, .int b0]), z_ia 10 ef0, .inr (5, [.ref 30, .int ek1, .int em1, .int es1, .int el1, .int b1]), z_ia 10 ef1, .inr (6, [.ref 32, .ref 33, .int mt, .int (z_bi xt)]), z_ia 12 ft, .inr (11, [.ref 34]), z_ia 7 ct, .inr (9, [.int s3, .ref 36, .ref 37, .ref 38, .int m3]), z_ia 20 f3, z_ia 20 g3, .inr (11, [.ref 39]), z_ia 7 c3, .inl (5, 3, z_u (z_u (z_u (fun _ => .null) 0 (.ref 35)) 1 (.ref 41)) 2 (.ref 46)), .inr (9, [.int s4, .ref 42, .ref 43, .ref 44, .int m4]), z_ia 20 f4, z_ia 20 g4, .inr (11, [.ref 45]), z_ia 7 c4, .inr (9, [.int s5, .ref 47, .ref 48, .ref 49, .int m5]), z_ia 20 f5, z_ia 20 g5, .inr (11, [.ref 50]), z_ia 7 c5] ++ X
theorem z_cwl {rf : Int32} {kn : Int32} {ma : Int32} {xa : Bool} {fa : Nat → Int32} {ca : Nat → Int32} {mb : Int32} {xb : Bool} {fb : Nat → Int32} {cb : Nat → Int32} {mt : Int32} {xt : Bool} {ft : Nat → Int32} {ct : Nat → Int32} {f0 : Nat → Int32} {g0 : Nat → Int32} {c0 : Nat → Int32} {m0 : Int32} {s0 : Int32} {f1 : Nat → Int32} {g1 : Nat → Int32} {c1 : Nat → Int32} {m1 : Int32} {s1 : Int32} {f2 : Nat → Int32} {g2 : Nat → Int32} {c2 : Nat → Int32} {m2 : Int32} {s2 : Int32} {f3 : Nat → Int32} {g3 : Nat → Int32} {c3 : Nat → Int32} {m3 : Int32} {s3 : Int32} {f4 : Nat → Int32} {g4 : Nat → Int32} {c4 : Nat → Int32} {m4 : Int32} {s4 : Int32} {f5 : Nat → Int32} {g5 : Nat → Int32} {c5 : Nat → Int32} {m5 : Int32} {s5 : Int32} {ek0 : Int32} {em0 : Int32} {es0 : Int32} {el0 : Int32} {b0 : Int32} {ef0 : Nat → Int32} {ek1 : Int32} {em1 : Int32} {es1 : Int32} {el1 : Int32} {b1 : Int32} {ef1 : Nat → Int32} {rf' : Int32} {kn' : Int32} {ma' : Int32} {xa' : Bool} {fa' : Nat → Int32} {ca' : Nat → Int32} {mb' : Int32} {xb' : Bool} {fb' : Nat → Int32} {cb' : Nat → Int32} {mt' : Int32} {xt' : Bool} {ft' : Nat → Int32} {ct' : Nat → Int32} {f0' : Nat → Int32} {g0' : Nat → Int32} {c0' : Nat → Int32} {m0' : Int32} {s0' : Int32} {f1' : Nat → Int32} {g1' : Nat → Int32} {c1' : Nat → Int32} {m1' : Int32} {s1' : Int32} {f2' : Nat → Int32} {g2' : Nat → Int32} {c2' : Nat → Int32} {m2' : Int32} {s2' : Int32} {f3' : Nat → Int32} {g3' : Nat → Int32} {c3' : Nat → Int32} {m3' : Int32} {s3' : Int32} {f4' : Nat → Int32} {g4' : Nat → Int32} {c4' : Nat → Int32} {m4' : Int32} {s4' : Int32} {f5' : Nat → Int32} {g5' : Nat → Int32} {c5' : Nat → Int32} {m5' : Int32} {s5' : Int32} {ek0' : Int32} {em0' : Int32} {es0' : Int32} {el0' : Int32} {b0' : Int32} {ef0' : Nat → Int32} {ek1' : Int32} {em1' : Int32} {es1' : Int32} {el1' : Int32} {b1' : Int32} {ef1' : Nat → Int32} : (z_cw rf kn ma xa fa ca mb xb fb cb mt xt ft ct f0 g0 c0 m0 s0 f1 g1 c1 m1 s1 f2 g2 c2 m2 s2 f3 g3 c3 m3 s3 f4 g4 c4 m4 s4 f5 g5 c5 m5 s5 ek0 em0 es0 el0 b0 ef0 ek1 em1 es1 el1 b1 ef1 []).length = (z_cw rf' kn' ma' xa' fa' ca' mb' xb' fb' cb' mt' xt' ft' ct' f0' g0' c0' m0' s0' f1' g1' c1' m1' s1' f2' g2' c2' m2' s2' f3' g3' c3' m3' s3' f4' g4' c4' m4' s4' f5' g5' c5' m5' s5' ek0' em0' es0' el0' b0' ef0' ek1' em1' es1' el1' b1' ef1' []).length := rfl
def z_Wk (kn : Int32) (xa xb : Bool) (b0 b1 : Int32) (L : List z_E) : Prop := ∃ (rf : Int32) (ma : Int32) (fa : Nat → Int32) (ca : Nat → Int32) (mb : Int32) (fb : Nat → Int32) (cb : Nat → Int32) (mt : Int32) (xt : Bool) (ft : Nat → Int32) (ct : Nat → Int32) (f0 : Nat → Int32) (g0 : Nat → Int32) (c0 : Nat → Int32) (m0 : Int32) (s0 : Int32) (f1 : Nat → Int32) (g1 : Nat → Int32) (c1 : Nat → Int32) (m1 : Int32) (s1 : Int32) (f2 : Nat → Int32) (g2 : Nat → Int32) (c2 : Nat → Int32) (m2 : Int32) (s2 : Int32) (f3 : Nat → Int32) (g3 : Nat → Int32) (c3 : Nat → Int32) (m3 : Int32) (s3 : Int32) (f4 : Nat → Int32) (g4 : Nat → Int32) (c4 : Nat → Int32) (m4 : Int32) (s4 : Int32) (f5 : Nat → Int32) (g5 : Nat → Int32) (c5 : Nat → Int32) (m5 : Int32) (s5 : Int32) (ek0 : Int32) (em0 : Int32) (es0 : Int32) (el0 : Int32) (ef0 : Nat → Int32) (ek1 : Int32) (em1 : Int32) (es1 : Int32) (el1 : Int32) (ef1 : Nat → Int32), z_m20 m0 ∧ z_m20 m1 ∧ z_m20 m2 ∧ z_m20 m3 ∧ z_m20 m4 ∧ z_m20 m5 ∧ L = z_cw rf kn ma xa fa ca mb xb fb cb mt xt ft ct f0 g0 c0 m0 s0 f1 g1 c1 m1 s1 f2 g2 c2 m2 s2 f3 g3 c3 m3 s3 f4 g4 c4 m4 s4 f5 g5 c5 m5 s5 ek0 em0 es0 el0 b0 ef0 ek1 em1 es1 el1 b1 ef1 []
theorem z_c2 {n a b k : Nat} (ha : a < n) (hb : b < n) : z_cE n (.inl (k, 2, z_u (z_u (fun _ => .null) 0 (.ref a)) 1 (.ref b))) := fun j hj => by
  match j, hj with
  | 0, _ => exact ha
  | 1, _ => exact hb
theorem z_c3 {n a b c k : Nat} (ha : a < n) (hb : b < n) (hc : c < n) : z_cE n (.inl (k, 3, z_u (z_u (z_u (fun _ => .null) 0 (.ref a)) 1 (.ref b)) 2 (.ref c))) := fun j hj => by
  match j, hj with
  | 0, _ => exact ha
  | 1, _ => exact hb
  | 2, _ => exact hc
set_option maxRecDepth 100000 in
theorem z_cwc {rf : Int32} {kn : Int32} {ma : Int32} {xa : Bool} {fa : Nat → Int32} {ca : Nat → Int32} {mb : Int32} {xb : Bool} {fb : Nat → Int32} {cb : Nat → Int32} {mt : Int32} {xt : Bool} {ft : Nat → Int32} {ct : Nat → Int32} {f0 : Nat → Int32} {g0 : Nat → Int32} {c0 : Nat → Int32} {m0 : Int32} {s0 : Int32} {f1 : Nat → Int32} {g1 : Nat → Int32} {c1 : Nat → Int32} {m1 : Int32} {s1 : Int32} {f2 : Nat → Int32} {g2 : Nat → Int32} {c2 : Nat → Int32} {m2 : Int32} {s2 : Int32} {f3 : Nat → Int32} {g3 : Nat → Int32} {c3 : Nat → Int32} {m3 : Int32} {s3 : Int32} {f4 : Nat → Int32} {g4 : Nat → Int32} {c4 : Nat → Int32} {m4 : Int32} {s4 : Int32} {f5 : Nat → Int32} {g5 : Nat → Int32} {c5 : Nat → Int32} {m5 : Int32} {s5 : Int32} {ek0 : Int32} {em0 : Int32} {es0 : Int32} {el0 : Int32} {b0 : Int32} {ef0 : Nat → Int32} {ek1 : Int32} {em1 : Int32} {es1 : Int32} {el1 : Int32} {b1 : Int32} {ef1 : Nat → Int32} : z_cL 51 (z_cw rf kn ma xa fa ca mb xb fb cb mt xt ft ct f0 g0 c0 m0 s0 f1 g1 c1 m1 s1 f2 g2 c2 m2 s2 f3 g3 c3 m3 s3 f4 g4 c4 m4 s4 f5 g5 c5 m5 s5 ek0 em0 es0 el0 b0 ef0 ek1 em1 es1 el1 b1 ef1 []) := ⟨(z_cEc (Nat.le_of_ble_eq_true rfl : _ < 51) (z_cEc (Nat.le_of_ble_eq_true rfl : _ < 51) (z_cEc (Nat.le_of_ble_eq_true rfl : _ < 51) (z_cEc (Nat.le_of_ble_eq_true rfl : _ < 51) (z_cEc (Nat.le_of_ble_eq_true rfl : _ < 51) (z_cEc (Nat.le_of_ble_eq_true rfl : _ < 51) (z_cEc (Nat.le_of_ble_eq_true rfl : _ < 51) (z_cEc trivial (z_cEc trivial z_cE0))))))))), (z_c2 (Nat.le_of_ble_eq_true rfl) (Nat.le_of_ble_eq_true rfl)), (z_cEc (Nat.le_of_ble_eq_true rfl : _ < 51) (z_cEc (Nat.le_of_ble_eq_true rfl : _ < 51) (z_cEc trivial (z_cEc trivial z_cE0)))), z_cia, (z_cEc (Nat.le_of_ble_eq_true rfl : _ < 51) z_cE0), z_cia, (z_cEc (Nat.le_of_ble_eq_true rfl : _ < 51) (z_cEc (Nat.le_of_ble_eq_true rfl : _ < 51) (z_cEc trivial (z_cEc trivial z_cE0)))), z_cia, (z_cEc (Nat.le_of_ble_eq_true rfl : _ < 51) z_cE0), z_cia, (z_cEc trivial (z_cEc (Nat.le_of_ble_eq_true rfl : _ < 51) (z_cEc (Nat.le_of_ble_eq_true rfl : _ < 51) (z_cEc (Nat.le_of_ble_eq_true rfl : _ < 51) (z_cEc trivial z_cE0))))), z_cia, z_cia, (z_cEc (Nat.le_of_ble_eq_true rfl : _ < 51) z_cE0), z_cia, (z_c3 (Nat.le_of_ble_eq_true rfl) (Nat.le_of_ble_eq_true rfl) (Nat.le_of_ble_eq_true rfl)), (z_cEc trivial (z_cEc (Nat.le_of_ble_eq_true rfl : _ < 51) (z_cEc (Nat.le_of_ble_eq_true rfl : _ < 51) (z_cEc (Nat.le_of_ble_eq_true rfl : _ < 51) (z_cEc trivial z_cE0))))), z_cia, z_cia, (z_cEc (Nat.le_of_ble_eq_true rfl : _ < 51) z_cE0), z_cia, (z_cEc trivial (z_cEc (Nat.le_of_ble_eq_true rfl : _ < 51) (z_cEc (Nat.le_of_ble_eq_true rfl : _ < 51) (z_cEc (Nat.le_of_ble_eq_true rfl : _ < 51) (z_cEc trivial z_cE0))))), z_cia, z_cia, (z_cEc (Nat.le_of_ble_eq_true rfl : _ < 51) z_cE0), z_cia, (z_c2 (Nat.le_of_ble_eq_true rfl) (Nat.le_of_ble_eq_true rfl)), (z_cEc (Nat.le_of_ble_eq_true rfl : _ < 51) (z_cEc trivial (z_cEc trivial (z_cEc trivial (z_cEc trivial (z_cEc trivial z_cE0)))))), z_cia, (z_cEc (Nat.le_of_ble_eq_true rfl : _ < 51) (z_cEc trivial (z_cEc trivial (z_cEc trivial (z_cEc trivial (z_cEc trivial z_cE0)))))), z_cia, (z_cEc (Nat.le_of_ble_eq_true rfl : _ < 51) (z_cEc (Nat.le_of_ble_eq_true rfl : _ < 51) (z_cEc trivial (z_cEc trivial z_cE0)))), z_cia, (z_cEc (Nat.le_of_ble_eq_true rfl : _ < 51) z_cE0), z_cia, (z_cEc trivial (z_cEc (Nat.le_of_ble_eq_true rfl : _ < 51) (z_cEc (Nat.le_of_ble_eq_true rfl : _ < 51) (z_cEc (Nat.le_of_ble_eq_true rfl : _ < 51) (z_cEc trivial z_cE0))))), z_cia, z_cia, (z_cEc (Nat.le_of_ble_eq_true rfl : _ < 51) z_cE0), z_cia, (z_c3 (Nat.le_of_ble_eq_true rfl) (Nat.le_of_ble_eq_true rfl) (Nat.le_of_ble_eq_true rfl)), (z_cEc trivial (z_cEc (Nat.le_of_ble_eq_true rfl : _ < 51) (z_cEc (Nat.le_of_ble_eq_true rfl : _ < 51) (z_cEc (Nat.le_of_ble_eq_true rfl : _ < 51) (z_cEc trivial z_cE0))))), z_cia, z_cia, (z_cEc (Nat.le_of_ble_eq_true rfl : _ < 51) z_cE0), z_cia, (z_cEc trivial (z_cEc (Nat.le_of_ble_eq_true rfl : _ < 51) (z_cEc (Nat.le_of_ble_eq_true rfl : _ < 51) (z_cEc (Nat.le_of_ble_eq_true rfl : _ < 51) (z_cEc trivial z_cE0))))), z_cia, z_cia, (z_cEc (Nat.le_of_ble_eq_true rfl : _ < 51) z_cE0), z_cia, trivial⟩
def z_cVb (n : Nat) (v : Value) : Bool := match v with
  | .ref a => Nat.blt a n
  | _ => true
def z_stb (n : Nat) : List Value → Bool
  | [] => true
  | v :: t => z_cVb n v && z_stb n t
theorem z_cVt {n : Nat} {v : Value} (h : z_cVb n v = true) : z_cV n v := by
  cases v with
  | ref a => exact Nat.le_of_ble_eq_true h
  | int x => exact trivial
  | long x => exact trivial
  | null => exact trivial
  | float b => exact trivial
  | double b => exact trivial
  | retAddr k => exact trivial
theorem z_stc {n : Nat} : ∀ {st : List Value}, z_stb n st = true → ∀ v ∈ st, z_cV n v
  | [], _, _, h => by cases h
  | a :: t, h, v, hv => by
    unfold z_stb at h
    rw [Bool.and_eq_true] at h
    rcases List.mem_cons.mp hv with rfl | hv
    · exact z_cVt h.1
    · exact z_stc h.2 v hv
def z_lob (n : Nat) : List (Nat × Value) → Bool
  | [] => true
  | q :: t => z_cVb n q.2 && z_lob n t
theorem z_LLc {P P' : Value → Value → Prop} {n : Nat} (hP : ∀ a b, z_cV n a → P a b → P' a b) : ∀ {as bs : List (Nat × Value)}, z_lob n as = true → z_LL P as bs → z_LL P' as bs
  | [], [], _, _ => trivial
  | [], _ :: _, _, h => h.elim
  | _ :: _, [], _, h => h.elim
  | a :: as, b :: bs, h9, h => by
    unfold z_lob at h9
    rw [Bool.and_eq_true] at h9
    exact ⟨⟨h.1.1, hP _ _ (z_cVt h9.1) h.1.2⟩, z_LLc hP (as := as) (bs := bs) h9.2 h.2⟩
theorem j_dropL {G : z_G} {l : Launch} {y : z_M} {S : z_S} {pc n : Nat} {lo : List (Nat × Value)} {st : List Value} {L L0 : List z_E} {kc ks : Nat} (hL0 : S.2.2.2.1 = (L0, z_no)) (hn : L0.length ≤ n) (hn2 : n ≤ 1000) (hl2 : n ≤ L.length) (hc : z_cL n (L.take n)) (hst : z_stb n st = true) (hlb : z_lob n lo = true) (h : z_J G l y S pc lo st (L.take n, z_no) kc ks) : z_J G l y S pc lo st (L, z_no) kc ks := by
  intro p e s m args below meth c R0 hok R H locs ls cst hat hlo hst0
  have hd : ∀ k, z_d (L.take n, z_no) k ↔ k < n := by
    intro k
    constructor
    · intro ⟨e9, he9⟩
      have h1 := (List.getElem?_eq_some_iff.mp (z_gL he9)).1
      rw [List.length_take] at h1
      omega
    · intro hk
      have h1 : k < (L.take n).length := by rw [List.length_take]; omega
      exact ⟨_, z_Lg' (by rw [List.length_take]; omega) (List.getElem?_eq_getElem h1)⟩
  have hge : ∀ k e9, z_g (L.take n, z_no) k = some e9 → z_g (L, z_no) k = some e9 := by
    intro k e9 he9
    have hk := (hd k).mp ⟨_, he9⟩
    have h1 := z_gL he9
    rw [List.getElem?_take_of_lt hk] at h1
    show cond (Nat.blt k 1000) L[k]? (z_no k) = _
    rw [z_blt (by omega)]
    exact h1
  have hdd : ∀ k, z_d (L.take n, z_no) k → z_d (L, z_no) k := fun k ⟨e9, he9⟩ => ⟨e9, hge k e9 he9⟩
  have hv : ∀ v c, z_cV n v → z_V G R (L, z_no) v c → z_V G R (L.take n, z_no) v c := by
    intro v c hc9 hv
    cases v with
    | int x => exact hv
    | long x => exact hv
    | null => exact hv
    | float b => exact hv
    | retAddr k => exact hv
    | double b => exact hv
    | ref a => exact ⟨(hd a).mpr hc9, hv.2⟩
  have hvl : ∀ (as bs : List Value), (∀ v ∈ as, z_cV n v) → z_L (z_V G R (L, z_no)) as bs → z_L (z_V G R (L.take n, z_no)) as bs := by
    intro as
    induction as with
    | nil =>
      intro bs _ h9
      cases bs with
      | nil => exact trivial
      | cons b bs => exact h9.elim
    | cons a as ih =>
      intro bs h8 h9
      cases bs with
      | nil => exact h9.elim
      | cons b bs => exact ⟨hv _ _ (h8 a List.mem_cons_self) h9.1, ih bs (fun v hv9 => h8 v (List.mem_cons_of_mem _ hv9)) h9.2⟩
  obtain ⟨hP, hT, hF⟩ := hat
  have hat2 : z_at G S R0 s R (L.take n, z_no) H locs := by
    refine ⟨⟨fun k e9 he9 => ?_, fun a b ha hb hab => hP.2.1 a b (hdd a ha) (hdd b hb) hab, fun q b hq => ⟨(hP.2.2 q b hq).1, fun k hk => (hP.2.2 q b hq).2 k (hdd k hk)⟩⟩, ⟨fun k hk => ⟨?_, (hT.1 k hk).2⟩, hT.2.1, fun k hk hno => hT.2.2.1 k (hdd k hk) hno, hT.2.2.2⟩, hF⟩
    · obtain ⟨h3, h4⟩ := hP.1 k e9 (hge k e9 he9)
      refine ⟨?_, h4⟩
      have hce : z_cE n e9 := z_cLm hc e9 (List.mem_of_getElem? (z_gL he9))
      cases e9 with
      | inl x =>
        obtain ⟨z, z1, z2⟩ := h3
        exact ⟨z, z1, fun j hj => hv _ _ (hce j hj) (z2 j hj)⟩
      | inr o =>
        obtain ⟨q, gs, x1, x2, x3, x4⟩ := h3
        exact ⟨q, gs, x1, x2, x3, hvl _ _ hce x4⟩
    · rw [hL0] at hk
      obtain ⟨e9, he9⟩ := hk
      have h1 := (List.getElem?_eq_some_iff.mp (z_gL he9)).1
      exact (hd k).mpr (by omega)
  obtain ⟨clo, h1, h2⟩ := hlo
  exact h p e s m args below meth c R0 hok R H locs ls cst hat2 ⟨clo, h1, z_LLc hv hlb h2⟩ (hvl _ _ (z_stc hst) hst0)
theorem z_r2 {r : Int32} (h0 : ¬ r < 0) (h1 : r < Int32.ofNat 2) : r = 0 ∨ r = 1 := by
  obtain ⟨k, hk, rfl⟩ := vp_in_of (z_in h0 (fun z => absurd h1 (Int32.not_lt.mpr z)) (by decide)) (by decide)
  match k, hk with
  | 0, _ => exact Or.inl rfl
  | 1, _ => exact Or.inr rfl
theorem z_r3 {r : Int32} (h0 : ¬ r < 0) (h1 : r < Int32.ofNat 3) : r = 0 ∨ r = 1 ∨ r = 2 := by
  obtain ⟨k, hk, rfl⟩ := vp_in_of (z_in h0 (fun z => absurd h1 (Int32.not_lt.mpr z)) (by decide)) (by decide)
  match k, hk with
  | 0, _ => exact Or.inl rfl
  | 1, _ => exact Or.inr (Or.inl rfl)
  | 2, _ => exact Or.inr (Or.inr rfl)
end ZCW
end ZM13
section ZM14
section ZJK
variable {G : z_G} {l : Launch} {y : z_M} {S : z_S} {pc : Nat} {lo : List (Nat × Value)} {st : List Value} {w w' : z_W} {kc ks : Nat}
theorem z_fS {R0 R : z_R} {s : State} {p : Program} {m : MethodId} {args : Array Value} {meth : Method} {c : Code} {H : Heap} {locs : List Loc} (hok : z_ok G l y S p s m args meth c R0) (hat : z_at G S R0 s R w H locs) : va_S (fun q => z_b G ≤ q) s.heap H locs :=
  ⟨hat.2.2.1, fun q hq hA => hat.2.2.2.1 q hq (fun z => hA (z_hA hok q z)), hat.2.2.2.2⟩
theorem z_okc {R0 : z_R} {s : State} {p : Program} {m : MethodId} {args : Array Value} {meth : Method} {c : Code} (hok : z_ok G l y S p s m args meth c R0) : z_cst G s := hok.2.2.2.2.2.2.2.1.2.2.2.2.2.2.2
def z_cvb (v : Value) : Bool := match v with
  | .int _ => true
  | .retAddr _ => true
  | _ => false
theorem z_cvV {R : z_R} {v c : Value} (hb : z_cvb v = true) (h : z_cv G v c) : z_V G R w v c := by
  cases v with
  | int x => exact h
  | retAddr k => exact h
  | long x => exact Bool.noConfusion hb
  | null => exact Bool.noConfusion hb
  | ref n => exact Bool.noConfusion hb
  | float b => exact Bool.noConfusion hb
  | double b => exact Bool.noConfusion hb
theorem j_gets {idx : Nat} {x : String × String × String × Value} (hd : decode y.2.1 pc = .ok (.getstatic idx, 3)) (hx9 : x ∈ z_zst) (hcb : z_cvb x.2.2.2 = true) (hl : Cond.fieldLink y.1.cls idx x.1 x.2.1 x.2.2.1 ∈ z_tbl) (h : z_J G l y S (pc + 3) lo (x.2.2.2 :: st) w kc ks) : z_J G l y S pc lo st w kc ks := by
  intro p e s m args below meth c R0 hok R H locs ls cst hat hlo hst
  obtain ⟨v, hv, hz⟩ := (z_okc hok).2.2.1 x hx9
  exact va_gets hok.1 hok.2.1 hz (z_fS hok hat) hok.2.2.2.2.2.1 (hok.2.2.2.2.2.2.1 _ hl) (fun _ h => h) hd (h p e s m args below meth c R0 hok R H locs ls (v :: cst) hat hlo ⟨z_cvV hcb hv, hst⟩)
theorem j_alenK {k N : Nat} {ty : FieldType} (hd : decode y.2.1 pc = .ok (.arraylength, 1)) (hT : ∀ (U : State) (q : Nat), z_cst G U → z_k G k q → ∃ f, z_vT G ty q N f U) (h : z_J G l y S (pc + 1) lo (.int (Int32.ofNat N) :: st) w kc ks) : z_J G l y S pc lo (.retAddr k :: st) w kc ks := by
  intro p e s m args below meth c R0 hok R H locs ls cst hat hlo hst
  obtain ⟨c1, cs1, rfl, ⟨q, h1, hk⟩, hst1⟩ := z_Lc hst
  subst h1
  obtain ⟨f, hf⟩ := hT s q (z_okc hok) hk
  obtain ⟨cell, a1, a2, a3, a4, a5, -⟩ := hf.kept (z_fS hok hat).2.1
  exact W.alen (n := Int32.ofNat N) hok.1 hok.2.1 a1 a2 a5 rfl rfl hd (h p e s m args below meth c R0 hok R H locs ls _ hat hlo ⟨rfl, hst1⟩)
theorem z_clt {i : Int32} {n N : Nat} (hin : vp_in i N) (hn : N ≤ n) : ¬ (i < 0 ∨ n ≤ i.toNatClampNeg) := fun z => by
  rcases z with z | z
  · exact hin (Or.inl z)
  · exact hin (Or.inr (Nat.le_trans hn z))
theorem j_baldK {k N : Nat} {i : Int32} (hd : decode y.2.1 pc = .ok (.baload, 1)) (hT : ∀ (U : State) (q : Nat), z_cst G U → z_k G k q → ∃ f, z_vT G .byte q N f U ∧ ∀ j, j < N → ∃ x, f j = .int x) (hin : vp_in i N) (h : ∀ x : Int32, z_J G l y S (pc + 1) lo (.int x :: st) w kc ks) : z_J G l y S pc lo (.int i :: .retAddr k :: st) w kc ks := by
  intro p e9 s m args below meth c R0 hok R H locs ls cst hat hlo hst
  obtain ⟨c0, cs0, rfl, h0, hst0⟩ := z_Lc hst
  have h0 : c0 = .int i := h0
  subst h0
  obtain ⟨c1, cs1, rfl, ⟨q, h1, hk⟩, hst1⟩ := z_Lc hst0
  subst h1
  obtain ⟨f, hf, hx⟩ := hT s q (z_okc hok) hk
  obtain ⟨cell, a1, a2, a3, a4, a5, a6, -⟩ := hf.kept (z_fS hok hat).2.1
  have hlt : i.toNatClampNeg < N := Nat.not_le.mp (fun z => hin (Or.inr z))
  obtain ⟨x, e⟩ := hx _ hlt
  exact W.bald hok.1 hok.2.1 a1 a2 a3 (z_clt hin a4) (by rw [a6 _ hlt, e]) rfl rfl hd (h x p e9 s m args below meth c R0 hok R H locs ls _ hat hlo ⟨rfl, hst1⟩)
theorem j_aaldC {i : Int32} (hd : decode y.2.1 pc = .ok (.aaload, 1)) (hin : vp_in i 256) (h : z_J G l y S (pc + 1) lo (.float (z_cn i.toNatClampNeg) :: st) w kc ks) : z_J G l y S pc lo (.int i :: .retAddr 2 :: st) w kc ks := by
  intro p e s m args below meth c R0 hok R H locs ls cst hat hlo hst
  obtain ⟨c0, cs0, rfl, h0, hst0⟩ := z_Lc hst
  have h0 : c0 = .int i := h0
  subst h0
  obtain ⟨c1, cs1, rfl, ⟨q, h1, hk⟩, hst1⟩ := z_Lc hst0
  subst h1
  obtain ⟨f, hf, hx⟩ := (z_okc hok).2.2.2.2.1 q hk
  obtain ⟨cell, a1, a2, a3, a4, a5, a6, -⟩ := hf.kept (z_fS hok hat).2.1
  have hlt : i.toNatClampNeg < 256 := Nat.not_le.mp (fun z => hin (Or.inr z))
  obtain ⟨r, er, hr⟩ := hx _ hlt
  exact W.aald (ty := .object "java/lang/Integer") hok.1 hok.2.1 a1 a2 rfl a3 (z_clt hin a4) (by rw [a6 _ hlt, er]) rfl rfl hd (h p e s m args below meth c R0 hok R H locs ls _ hat hlo ⟨⟨r, rfl, Or.inr ⟨_, hlt, hr, rfl⟩⟩, hst1⟩)
theorem z_box {R0 R : z_R} {s : State} {p : Program} {m : MethodId} {args : Array Value} {meth : Method} {c : Code} {H : Heap} {locs : List Loc} {q : Nat} {b : UInt32} (hok : z_ok G l y S p s m args meth c R0) (hat : z_at G S R0 s R w H locs) (h : R.2 q = some b ∨ z_cb G q b) : z_OB q (z_dC G 2) 1 (z_dI G 2) H (fun _ => .int b.toInt32) := by
  rcases h with h | ⟨j, hj, hk, rfl⟩
  · exact z_OB.of (hat.1.2.2 q b h).1
  · obtain ⟨cell, h1, h2⟩ := (z_okc hok).2.2.2.2.2.2.1 j q hj hk
    exact ⟨cell, by rw [(z_fS hok hat).2.1 q (Array.getElem?_eq_some_iff.mp h1).1 ((z_okc hok).2.1 _ _ (Or.inr (by omega)) hk)]; exact h1, h2⟩
theorem j_getB {idx : Nat} {b : UInt32} (hd : decode y.2.1 pc = .ok (.getfield idx, 3)) (hF : z_F y.1.cls idx 2 0) (h : z_J G l y S (pc + 3) lo (.int b.toInt32 :: st) w kc ks) : z_J G l y S pc lo (.float b :: st) w kc ks := by
  intro p e s m args below meth c R0 hok R H locs ls cst hat hlo hst
  obtain ⟨c1, cs1, rfl, ⟨a, h1, hbx⟩, hst1⟩ := z_Lc hst
  subst h1
  obtain ⟨cell, o1, o2, o3, o4⟩ := z_box hok hat hbx
  obtain ⟨q', ref, f1, f2, f3, f4, f5⟩ := hF
  have kk := h p e s m args below meth c R0 hok R H locs ls (.int b.toInt32 :: cs1) hat hlo ⟨rfl, hst1⟩
  obtain ⟨hx, hb, -, -, -, hown, hts, henv, -⟩ := hok
  obtain ⟨hS, hfc, kC, hkC, hkind⟩ := henv.1 2 _ f1
  obtain ⟨cf, kf, fi, f, hi, hsl⟩ := hS 0 f2
  have hsta := (u_facts hfc hkC (u_lays (ws := z_tbl) hts f3 f2) hi).1
  have hi2 : s.fieldFound? ref (q'.2.1 0).2.1 (q'.2.1 0).2.2.1 = some (cf, kf, fi, f) := by
    rcases f5 with z | z
    · rw [← z]; exact hi
    · exact u_same (hts _ z) _ hi
  have hsv : cell.slots[f.slot]? = some (.int b.toInt32) := by
    rw [hsl]
    exact o4 0 (by decide)
  rcases f4 with f4 | ⟨host, f4⟩
  · exact W.getf hx hb hown (hts _ f4) hi2 hsta o1 o3.2 hsv rfl rfl hd kk
  · exact va_Wgetf hx hb hown (va_Nw.use (w := Cond.fieldLinkNest y.1.cls idx ref (q'.2.1 0).2.1 (q'.2.1 0).2.2.1 host) rfl (henv.2.2.1 _ f4)) hi2 hsta o1 o3.2 hsv rfl rfl hd kk
theorem j_ldcS {i idx : Nat} {t : String × Nat × String} (hd : decode y.2.1 pc = .ok (.ldc idx, 2)) (hi : z_strs[i]? = some t) (ht : t.1 = "LoopdefaultsModel" ∨ t.1 = "LoopdefaultsModel$Hearer") (h1 : t.1 = y.1.cls) (h2 : t.2.1 = idx) (h : z_J G l y S (pc + 2) lo (.retAddr (10 + i) :: st) w kc ks) : z_J G l y S pc lo st w kc ks := by
  intro p e s m args below meth c R0 hok R H locs ls cst hat hlo hst
  obtain ⟨a, bq, ha, -, hR, -⟩ := (z_okc hok).2.2.2.2.2.2.2.2.1 i t hi ht
  subst h2
  rw [h1] at hR
  exact va_ldcS hok.1 hok.2.1 hok.2.2.2.2.2.1 hR hd (h p e s m args below meth c R0 hok R H locs ls (.ref a :: cst) hat hlo ⟨⟨a, rfl, ha⟩, hst⟩)
theorem j_ldcM {idx : Nat} (hd : decode y.2.1 pc = .ok (.ldc idx, 2)) (hl : Cond.classLink y.1.cls idx "[Ljava/lang/Object;" ∈ z_tbl) (h : z_J G l y S (pc + 2) lo (.retAddr 6 :: st) w kc ks) : z_J G l y S pc lo st w kc ks := by
  intro p e s m args below meth c R0 hok R H locs ls cst hat hlo hst
  obtain ⟨q, hq, hm⟩ := (z_okc hok).2.2.2.2.2.2.2.1
  exact va_ldcM hok.1 hok.2.1 hok.2.2.2.2.2.1 (hok.2.2.2.2.2.2.1 _ hl) hm hd (h p e s m args below meth c R0 hok R H locs ls (.ref q :: cst) hat hlo ⟨⟨q, rfl, hq⟩, hst⟩)
end ZJK
end ZM14
section ZM15
section ZJ2
variable {G : z_G} {l : Launch} {y : z_M} {S : z_S} {pc : Nat} {lo : List (Nat × Value)} {st : List Value} {w w' : z_W} {kc ks : Nat}
def z_is (w : z_W) (v : Value) (C : String) : Prop := match v with
  | .ref n => (∃ (o : Nat × List Value) (q : vw_C), z_g w n = some (.inr o) ∧ z_cls[o.1]? = some q ∧ q.1 = C) ∨ ∃ (x : Nat × Nat × (Nat → Value)) (ty : FieldType), z_g w n = some (.inl x) ∧ z_tyl[x.1]? = some ty ∧ "[" ++ ty.toString = C
  | .float _ => C = "java/lang/Integer"
  | _ => False
theorem z_RAf {U : State} {c : ClassId} {ty : FieldType} (h : va_RA U c ty) : U.vm.findClass ("[" ++ ty.toString) = some c := by
  unfold va_RA at h
  split at h
  · obtain ⟨-, -, -, -, -, h4⟩ := h
    exact h4
  · exact h
theorem z_isC {R0 R : z_R} {s : State} {p : Program} {m : MethodId} {args : Array Value} {meth : Method} {c : Code} {H : Heap} {locs : List Loc} {v : Value} {a : Nat} {C : String} (hok : z_ok G l y S p s m args meth c R0) (hat : z_at G S R0 s R w H locs) (hv : z_V G R w v (.ref a)) (hi : z_is w v C) : ∃ cell : Cell, H[a]? = some cell ∧ cell.vm.isStatics = false ∧ s.vm.findClass C = some cell.cls := by
  have henv := hok.2.2.2.2.2.2.2.1
  cases v with
  | int x => exact hi.elim
  | long x => exact hi.elim
  | null => exact hi.elim
  | retAddr k => exact hi.elim
  | double b => exact hi.elim
  | float b =>
    obtain ⟨q, e, hb⟩ := hv
    cases e
    have hi : C = "java/lang/Integer" := hi
    obtain ⟨cell, g1, g2, g3, -⟩ := z_box hok hat hb
    exact ⟨cell, g1, g3.1, by rw [hi, g2]; exact (henv.1 2 _ rfl).2.1⟩
  | ref n =>
    obtain ⟨-, e⟩ := hv
    cases e
    rcases hi with ⟨o, q, h1, h2, h3⟩ | ⟨x, ty, h1, h2, h3⟩
    · obtain ⟨q', gs, x1, x2, ⟨cell, g1, g2, g3, -⟩, -⟩ := (hat.1.1 n _ h1).1
      exact ⟨cell, g1, by rw [g3]; rfl, by rw [g2, ← h3]; exact (henv.1 o.1 q h2).2.1⟩
    · obtain ⟨z, z1, -⟩ := (hat.1.1 n _ h1).1
      exact ⟨_, z1, rfl, by rw [← h3]; exact z_RAf (henv.2.1 x.1 ty h2).2⟩
theorem z_isR {R : z_R} {v c : Value} {C : String} (hv : z_V G R w v c) (hi : z_is w v C) : ∃ a, c = .ref a := by
  cases v with
  | int x => exact hi.elim
  | long x => exact hi.elim
  | null => exact hi.elim
  | retAddr k => exact hi.elim
  | double b => exact hi.elim
  | float b => obtain ⟨q, e, -⟩ := hv; exact ⟨q, e⟩
  | ref n => exact ⟨_, hv.2⟩
theorem j_castS {idx : Nat} {v : Value} {C : String} (hd : decode y.2.1 pc = .ok (.checkcast idx, 3)) (hl : Cond.classLink y.1.cls idx C ∈ z_tbl) (hi : z_is w v C) (h : z_J G l y S (pc + 3) lo (v :: st) w kc ks) : z_J G l y S pc lo (v :: st) w kc ks := by
  intro p e s m args below meth c R0 hok R H locs ls cst hat hlo hst
  obtain ⟨c1, cs1, rfl, hv, hst1⟩ := z_Lc hst
  obtain ⟨a, rfl⟩ := z_isR hv hi
  obtain ⟨cell, g1, g2, g3⟩ := z_isC hok hat hv hi
  have k := h p e s m args below meth c R0 hok R H locs ls (.ref a :: cs1) hat hlo ⟨hv, hst1⟩
  intro T hT X
  obtain ⟨vm', X', st9⟩ := X.checkcastYes hok.1 hok.2.2.2.2.2.1 (hok.2.2.2.2.2.2.1 _ hl) (by rw [hT]; exact g1) g2 g3 (va_asg _ _) (g := F0 m pc ls (.ref a :: cs1)) rfl rfl (by rw [hok.2.1]; exact hd)
  obtain ⟨t, a1, b1⟩ := k (T.setVm vm') hT X'
  exact ⟨t, st9 t a1, b1⟩
theorem j_castY {idx : Nat} {v : Value} {C nm : String} (hd : decode y.2.1 pc = .ok (.checkcast idx, 3)) (hl : Cond.classLink y.1.cls idx nm ∈ z_tbl) (hc : Cond.castable C nm ∈ z_nst) (hi : z_is w v C) (h : z_J G l y S (pc + 3) lo (v :: st) w kc ks) : z_J G l y S pc lo (v :: st) w kc ks := by
  intro p e s m args below meth c R0 hok R H locs ls cst hat hlo hst
  obtain ⟨c1, cs1, rfl, hv, hst1⟩ := z_Lc hst
  obtain ⟨a, rfl⟩ := z_isR hv hi
  obtain ⟨cell, g1, g2, g3⟩ := z_isC hok hat hv hi
  exact va_castY hok.1 hok.2.1 hok.2.2.2.2.2.1 (hok.2.2.2.2.2.2.1 _ hl) (hok.2.2.2.2.2.2.2.1.2.2.1 _ hc) ⟨cell, g1, g2, g3⟩ hd (h p e s m args below meth c R0 hok R H locs ls (.ref a :: cs1) hat hlo ⟨hv, hst1⟩)
theorem j_aastO {a kd n : Nat} {f : Nat → Value} {v : Value} {C E : String} {i : Int32} (hd : decode y.2.1 pc = .ok (.aastore, 1)) (hg : z_g w a = some (.inl (kd, n, f))) (hk : z_tyl[kd]? = some (.object E)) (hi : z_is w v C) (hc : Cond.castable C E ∈ z_nst) (hin : vp_in i n) (hw : z_s w a (.inl (kd, n, z_u f i.toNatClampNeg v)) = w') (h : z_J G l y S (pc + 1) lo st w' kc ks) : z_J G l y S pc lo (v :: .int i :: .ref a :: st) w kc ks := by
  intro p e s m args below meth c R0 hok R H locs ls cst hat hlo hst
  obtain ⟨c9, cs9, rfl, h9, hst1⟩ := z_Lc hst
  obtain ⟨c0, cs0, rfl, h0, hst2⟩ := z_Lc hst1
  obtain ⟨c1, cs1, rfl, ⟨-, h1⟩, hst3⟩ := z_Lc hst2
  obtain ⟨b, rfl⟩ := z_isR h9 hi
  have h0 : c0 = .int i := h0
  subst h0
  subst h1
  subst hw
  obtain ⟨z, z1, z2⟩ := (hat.1.1 a _ hg).1
  obtain ⟨cellV, g1, g2, g3⟩ := z_isC hok hat h9 hi
  have hok2 := hok
  obtain ⟨hx, hb, -, -, -, hown, hts, henv, -⟩ := hok2
  have hlt : i.toNatClampNeg < n := Nat.not_le.mp fun q => hin (Or.inr q)
  have hi0 : ¬ i < 0 := fun q => hin (Or.inl q)
  obtain ⟨kA, comp, k1, k2, k3, -⟩ := (henv.2.1 kd _ hk).2
  obtain ⟨c5, t5, f1, f2, f3⟩ := Cond.castable_spec (va_Nw.use (A := args) rfl (henv.2.2.1 _ hc))
  cases g3.symm.trans f1
  cases k3.symm.trans f2
  obtain ⟨kC, hkC, -⟩ := Vm.findClass_spec f2
  obtain ⟨kV, hkV, -⟩ := Vm.findClass_spec g3
  refine W.aast hx hb z1 (fun q h => by cases h) (fun h => by cases h) k1 k2 rfl hkC ⟨hi0, by show _ < (arrV _ _ _).slots.size; rw [arrV_size]; exact hlt⟩ g1 (fun q h => by rw [h] at g2; exact absurd (show (true : Bool) = false from g2) (by decide)) hkV f3 rfl rfl hd ?_
  intro H' e1 e2 e3
  exact h p e s m args below meth c R0 hok R H' _ ls cs1 (z_write hat hg e2 e3 (z_Xu (z_Vs hg) z2 h9 e1)) (z_lom (z_Vs hg) hlo) (z_Lm (z_Vs hg) hst3)
end ZJ2
end ZM15
section ZM16
section ZJ3
variable {G : z_G} {l : Launch} {y : z_M} {S : z_S} {pc : Nat} {lo : List (Nat × Value)} {st : List Value} {w w' : z_W} {kc ks : Nat}
theorem j_aastN {a kd n : Nat} {f : Nat → Value} {E : String} {i : Int32} (hd : decode y.2.1 pc = .ok (.aastore, 1)) (hg : z_g w a = some (.inl (kd, n, f))) (hk : z_tyl[kd]? = some (.object E)) (hin : vp_in i n) (hw : z_s w a (.inl (kd, n, z_u f i.toNatClampNeg .null)) = w') (h : z_J G l y S (pc + 1) lo st w' kc ks) : z_J G l y S pc lo (.null :: .int i :: .ref a :: st) w kc ks := by
  intro p e s m args below meth c R0 hok R H locs ls cst hat hlo hst
  obtain ⟨c9, cs9, rfl, h9, hst1⟩ := z_Lc hst
  obtain ⟨c0, cs0, rfl, h0, hst2⟩ := z_Lc hst1
  obtain ⟨c1, cs1, rfl, ⟨-, h1⟩, hst3⟩ := z_Lc hst2
  have h9' : c9 = .null := h9
  have h0 : c0 = .int i := h0
  subst h9'
  subst h0
  subst h1
  subst hw
  obtain ⟨z, z1, z2⟩ := (hat.1.1 a _ hg).1
  have hok2 := hok
  obtain ⟨hx, hb, -, -, -, hown, hts, henv, -⟩ := hok2
  refine va_WaastN hx hb z1 ((henv.2.1 kd _ hk).1 n z) (fun h => by cases h) (by rw [arrV_size]; exact hin) rfl rfl hd ?_
  intro H' e1 e2 e3
  exact h p e s m args below meth c R0 hok R H' _ ls cs1 (z_write hat hg e2 e3 (z_Xu (z_Vs hg) z2 h9 e1)) (z_lom (z_Vs hg) hlo) (z_Lm (z_Vs hg) hst3)
theorem z_nn {z : Int32} (hz : ¬ z < 0) : z.toInt = (z.toNatClampNeg : Int) := by
  have hz0 : (0 : Int) ≤ z.toInt := by
    have := Int32.not_lt.mp hz
    simpa using Int32.le_iff_toInt_le.mp this
  show z.toInt = ((z.toInt.toNat : Nat) : Int)
  omega
theorem z_writeM {R0 R : z_R} {s : State} {H H' : Heap} {locs L : List Loc} {n : Nat} {e0 e : z_E} (hat : z_at G S R0 s R w H locs) (hn : z_g w n = some e0) (h1 : H'.size = H.size) (h2 : ∀ q : Nat, q ≠ R.1 n → H'[q]? = H[q]?) (h3 : z_X G R (z_s w n e) e (R.1 n) H') (hL : ∀ x ∈ L, x.base = R.1 n) : z_at G S R0 s R (z_s w n e) H' (locs ++ L) := by
  have hw := z_write (i := 0) hat hn h1 h2 h3
  refine ⟨hw.1, hw.2.1, hw.2.2.1, hw.2.2.2.1, fun x hx => ?_⟩
  rcases List.mem_append.mp hx with hx | hx
  · exact hat.2.2.2.2 x hx
  · rw [hL x hx]
    exact (hat.1.1 n _ hn).2
theorem z_Xc9 {R : z_R} {w w' : z_W} {kd n0 n1 sp dp k A : Nat} {f g f9 g9 : Nat → Value} {H' : Heap} (hV : ∀ v c, z_V G R w v c → z_V G R w' v c) (hf : ∀ j, j < n0 → z_V G R w (f j) (f9 j)) (hg : ∀ j, j < n1 → z_V G R w (g j) (g9 j)) (hs : sp + k ≤ n0) (he : H'[A]? = some (arrV (z_dA G kd) n1 (va_cpy f9 g9 sp dp k))) : z_X G R w' (.inl (kd, n1, va_cpy f g sp dp k)) A H' := by
  refine ⟨_, he, fun j hj => ?_⟩
  show z_V G R w' (va_cpy f g sp dp k j) (va_cpy f9 g9 sp dp k j)
  unfold va_cpy
  by_cases hc : dp ≤ j ∧ j < dp + k
  · rw [if_pos hc, if_pos hc]
    exact hV _ _ (hf _ (by omega))
  · rw [if_neg hc, if_neg hc]
    exact hV _ _ (hg _ hj)
theorem j_acopy {idx a b kd n0 n1 : Nat} {f g : Nat → Value} {sp dp n : Int32} {ty : FieldType} (hd : decode y.2.1 pc = .ok (.invokestatic idx, 3)) (hl : Cond.methodLink y.1.cls idx arraycopyName ∈ z_tbl) (hnat : Cond.native arraycopyName ∈ z_tbl) (hstat : Cond.static arraycopyName ∈ z_tbl) (hini : Cond.initialized "java/lang/System" ∈ z_tbl)
    (hga : z_g w a = some (.inl (kd, n0, f))) (hgb : z_g w b = some (.inl (kd, n1, g))) (hk : z_tyl[kd]? = some ty) (h1 : ¬ sp < 0) (h2 : ¬ dp < 0) (h3 : ¬ n < 0) (h4 : sp.toNatClampNeg + n.toNatClampNeg ≤ n0) (h5 : dp.toNatClampNeg + n.toNatClampNeg ≤ n1)
    (hel : ∀ i, i < n.toNatClampNeg → (∃ x, f (sp.toNatClampNeg + i) = .int x ∧ fits ty (.int x) = true) ∨ (f (sp.toNatClampNeg + i) = .null ∧ ty.isReference = true) ∨ ∃ C E, ty = .object E ∧ z_is w (f (sp.toNatClampNeg + i)) C ∧ Cond.castable C E ∈ z_nst)
    (hrk : 1 ≤ S.1) (hW : z_cat st ≤ 8) (hw : z_s w b (.inl (kd, n1, va_cpy f g sp.toNatClampNeg dp.toNatClampNeg n.toNatClampNeg)) = w') (h : z_J G l y S (pc + 3) lo st w' kc ks) : z_J G l y S pc lo (.int n :: .int dp :: .ref b :: .int sp :: .ref a :: st) w kc ks := by
  intro p e s m args below meth c R0 hok R H locs ls cst hat hlo hst
  obtain ⟨c9, cs9, rfl, e9, hst1⟩ := z_Lc hst
  obtain ⟨c8, cs8, rfl, e8, hst2⟩ := z_Lc hst1
  obtain ⟨c7, cs7, rfl, ⟨-, e7⟩, hst3⟩ := z_Lc hst2
  obtain ⟨c6, cs6, rfl, e6, hst4⟩ := z_Lc hst3
  obtain ⟨c5, cs5, rfl, ⟨-, e5⟩, hst5⟩ := z_Lc hst4
  have e9 : c9 = .int n := e9
  have e8 : c8 = .int dp := e8
  have e6 : c6 = .int sp := e6
  subst e9 e8 e7 e6 e5
  subst hw
  obtain ⟨za, a1, a2⟩ := (hat.1.1 a _ hga).1
  obtain ⟨zb, b1, b2⟩ := (hat.1.1 b _ hgb).1
  have hok2 := hok
  obtain ⟨hx, hb, -, -, -, hown, hts, henv, -⟩ := hok2
  obtain ⟨-, kA, hkA, cm, hkk⟩ := (henv.2.1 kd _ hk).1 n0 za
  have hsz := hlo.choose_spec.1.1
  have kk := fun (H' : Heap) (L : List Loc) q1 q2 q3 q4 => h p e s m args below meth c R0 hok R H' (locs ++ L) ls cs5 (z_writeM (H' := H') (L := L) hat hgb q1 q2 q3 q4) (z_lom (z_Vs hgb) hlo) (z_Lm (z_Vs hgb) hst5)
  have h8 : 2 * (F0 m pc ls (.int n :: .int dp :: .ref (R.1 b) :: .int sp :: .ref (R.1 a) :: cs5)).monitorRoom + (cs5.map fun v => v.category).sum ≤ 8 := lv_room (by rw [z_Lcs hst5]; exact hW)
  have h40 : 40 ≤ (z_rm S.1 S.2.1 S.2.2.1).locals := by show 40 ≤ 40 * S.1; omega
  have hnw : nativeFrameWords "java/lang/System" "arraycopy" 5 + 11 ≤ 32 := by decide
  intro T hT X
  obtain ⟨vm', X', step⟩ := X.arraycopy hx hown (hts _ hl) (hts _ hnat) (hts _ hstat) (hts _ hini) (src := R.1 a) (dst := R.1 b) (cs := arrV (z_dA G kd) n0 za) (cd := arrV (z_dA G kd) n1 zb) (srcPos := sp) (destPos := dp) (n := n) (by rw [hT]; exact a1) (by rw [hT]; exact b1)
    (fun _ h => by cases h) (fun _ h => by cases h) (fun h => by cases h) (fun h => by cases h) hkA hkA hkk hkk (by simp) h1 h2 h3
    (by rw [z_nn h1, z_nn h3, arrV_size]; omega)
    (by rw [z_nn h2, z_nn h3, arrV_size]; omega)
    (fun vm₁ hal i hi => by
      have hlt : sp.toNatClampNeg + i < n0 := by omega
      have e0 : (arrV (z_dA G kd) n0 za).slots.getD (sp.toNatClampNeg + i) .null = za (sp.toNatClampNeg + i) := by
        rw [Array.getD_eq_getD_getElem?, arrV_read _ _ hlt]
        rfl
      rw [e0]
      have hv := a2 _ hlt
      rcases hel i hi with ⟨x, ex, hf⟩ | ⟨ex, hr⟩ | ⟨C, E, rfl, hi9, hc⟩
      · have hv : z_V G R w (f (sp.toNatClampNeg + i)) (za (sp.toNatClampNeg + i)) := hv
        rw [ex] at hv
        have hv : za (sp.toNatClampNeg + i) = .int x := hv
        rw [hv]
        exact ⟨hf, trivial⟩
      · have hv : z_V G R w (f (sp.toNatClampNeg + i)) (za (sp.toNatClampNeg + i)) := hv
        rw [ex] at hv
        have hv : za (sp.toNatClampNeg + i) = .null := hv
        rw [hv]
        refine ⟨?_, trivial⟩
        cases ty <;> first | rfl | cases hr
      · obtain ⟨q, eq⟩ := z_isR hv hi9
        rw [eq]
        have hv : z_V G R w (f (sp.toNatClampNeg + i)) (za (sp.toNatClampNeg + i)) := hv
        rw [eq] at hv
        obtain ⟨cellV, g1, g2, g3⟩ := z_isC hok hat hv hi9
        obtain ⟨kA9, comp, r1, r2, r3, -⟩ := (henv.2.1 kd _ hk).2
        cases hkA.symm.trans r1
        cases hkk.symm.trans r2
        obtain ⟨c5, t5, f1, f2, f3⟩ := Cond.castable_spec (va_Nw.use (A := args) rfl (henv.2.2.1 _ hc))
        cases g3.symm.trans f1
        cases r3.symm.trans f2
        obtain ⟨kC, hkC, -⟩ := Vm.findClass_spec g3
        obtain ⟨kE, hkE, -⟩ := Vm.findClass_spec r3
        obtain ⟨kC', hkC', -⟩ := hal.2.2 _ _ hkC
        obtain ⟨kE', hkE', -⟩ := hal.2.2 _ _ hkE
        refine ⟨rfl, cellV, (show T.heap[q]? = some cellV by rw [hT]; exact g1), (fun q h => by rw [h] at g2; exact absurd (show (true : Bool) = false from g2) (by decide)), ⟨kC', hkC'⟩, ?_, ?_⟩
        · exact ⟨kE', hkE'⟩
        · show vm₁.assignable _ _ = true
          rw [hal.assignable]
          exact f3)
    (g := F0 m pc ls (.int n :: .int dp :: .ref (R.1 b) :: .int sp :: .ref (R.1 a) :: cs5)) rfl (by rw [← hsz]) (rest := cs5) rfl (by rw [hb]; exact hd) hrk (by omega)
  have e1 : copied (arrV (z_dA G kd) n0 za) (arrV (z_dA G kd) n1 zb) sp dp n = arrV (z_dA G kd) n1 (va_cpy za zb sp.toNatClampNeg dp.toNatClampNeg n.toNatClampNeg) := va_copied (fun z => z) (z_dA G kd) (z_dA G kd) za zb h4
  rw [e1] at X' step
  have hl9 : R.1 b < H.size := (Array.getElem?_eq_some_iff.mp b1).1
  have hheap : ((T.setVm vm').setCell (R.1 b) (arrV (z_dA G kd) n1 (va_cpy za zb sp.toNatClampNeg dp.toNatClampNeg n.toNatClampNeg))).heap = H.setIfInBounds (R.1 b) (arrV (z_dA G kd) n1 (va_cpy za zb sp.toNatClampNeg dp.toNatClampNeg n.toNatClampNeg)) := by rw [← hT]; rfl
  obtain ⟨t, t1, t2⟩ := kk _ _ (by simp) (fun q hq => by simp [Array.getElem?_setIfInBounds, Ne.symm hq]) (z_Xc9 (z_Vs hgb) a2 b2 h4 (by simp [Array.getElem?_setIfInBounds, hl9])) (fun x hx => by
    obtain ⟨z, -, hz⟩ := List.mem_map.mp hx
    rw [← hz]) _ hheap X'
  exact ⟨t, step t t1, t2⟩
end ZJ3
end ZM16
section ZM17
section ZJ4
variable {G : z_G} {l : Launch} {y : z_M} {S : z_S} {pc : Nat} {lo : List (Nat × Value)} {st : List Value} {w w' : z_W} {kc ks : Nat}
theorem j_toBox {n : Nat} {x : Int32} {L L0 : List z_E} (hL0 : S.2.2.2.1 = (L0, z_no)) (hn : L0.length ≤ n) (hn2 : n + 1 ≤ 1000) (hl2 : L.length = n + 1) (hlast : L[n]? = some (.inr (2, [.int x]))) (hc : z_cL n (L.take n)) (hst : z_stb n st = true) (h : z_J G l y S pc [] (.float x.toUInt32 :: st) (L.take n, z_no) kc ks) : z_J G l y S pc lo (.ref n :: st) (L, z_no) kc ks := by
  intro p e s m args below meth c R0 hok R H locs ls cst hat hlo hst0
  obtain ⟨c1, cs1, rfl, ⟨-, hc1⟩, hst1⟩ := z_Lc hst0
  subst hc1
  have hd : ∀ k, z_d (L.take n, z_no) k ↔ k < n := by
    intro k
    constructor
    · intro ⟨e9, he9⟩
      have h1 := (List.getElem?_eq_some_iff.mp (z_gL he9)).1
      rw [List.length_take] at h1
      omega
    · intro hk
      have h1 : k < (L.take n).length := by rw [List.length_take]; omega
      exact ⟨_, z_Lg' (by rw [List.length_take]; omega) (List.getElem?_eq_getElem h1)⟩
  have hge : ∀ k e9, z_g (L.take n, z_no) k = some e9 → z_g (L, z_no) k = some e9 := by
    intro k e9 he9
    have hk := (hd k).mp ⟨_, he9⟩
    have h1 := z_gL he9
    rw [List.getElem?_take_of_lt hk] at h1
    show cond (Nat.blt k 1000) L[k]? (z_no k) = _
    rw [z_blt (by omega)]
    exact h1
  have hdd : ∀ k, z_d (L.take n, z_no) k → z_d (L, z_no) k := fun k ⟨e9, he9⟩ => ⟨e9, hge k e9 he9⟩
  have hgn : z_g (L, z_no) n = some (.inr (2, [.int x])) := by
    show cond (Nat.blt n 1000) L[n]? (z_no n) = _
    rw [z_blt (by omega)]
    exact hlast
  obtain ⟨hP, hT, hF⟩ := hat
  have hno : ∀ q b, R.2 q = some b → q ≠ R.1 n := fun q b hq e9 => (hP.2.2 q b hq).2 n ⟨_, hgn⟩ e9.symm
  have hR2 : ∀ q b, R.2 q = some b → (if q = R.1 n then some x.toUInt32 else R.2 q) = some b := fun q b hq => by rw [if_neg (hno q b hq)]; exact hq
  have hv : ∀ v c, z_cV n v → z_V G R (L, z_no) v c → z_V G (R.1, fun q => if q = R.1 n then some x.toUInt32 else R.2 q) (L.take n, z_no) v c := by
    intro v c hc9 hv
    cases v with
    | int x => exact hv
    | long x => exact hv
    | null => exact hv
    | float b => obtain ⟨q, h1, h2⟩ := hv; exact ⟨q, h1, h2.imp (hR2 q b) id⟩
    | retAddr k => exact hv
    | double b => exact hv
    | ref a => exact ⟨(hd a).mpr hc9, hv.2⟩
  have hvl : ∀ (as bs : List Value), (∀ v ∈ as, z_cV n v) → z_L (z_V G R (L, z_no)) as bs → z_L (z_V G (R.1, fun q => if q = R.1 n then some x.toUInt32 else R.2 q) (L.take n, z_no)) as bs := by
    intro as
    induction as with
    | nil =>
      intro bs _ h9
      cases bs with
      | nil => exact trivial
      | cons b bs => exact h9.elim
    | cons a as ih =>
      intro bs h8 h9
      cases bs with
      | nil => exact h9.elim
      | cons b bs => exact ⟨hv _ _ (h8 a List.mem_cons_self) h9.1, ih bs (fun v hv9 => h8 v (List.mem_cons_of_mem _ hv9)) h9.2⟩
  have hbox : t_OB (R.1 n) (z_dC G 2) 1 (z_dI G 2) H (fun _ => .int x.toUInt32.toInt32) := by
    obtain ⟨q, gs, x1, x2, ⟨cell, g1, g2, g3, g4⟩, x4⟩ := (hP.1 n _ hgn).1
    obtain ⟨b, bs, rfl, hb, -⟩ := z_Lc x4
    have hb : b = .int x := hb
    subst hb
    refine ⟨cell, g1, g2, g3, fun k hk => ?_⟩
    obtain rfl : k = 0 := by omega
    exact g4 0 (by rw [← x2]; exact Nat.zero_lt_one)
  have hat2 : z_at G S R0 s (R.1, fun q => if q = R.1 n then some x.toUInt32 else R.2 q) (L.take n, z_no) H locs := by
    refine ⟨⟨fun k e9 he9 => ?_, fun a b ha hb hab => hP.2.1 a b (hdd a ha) (hdd b hb) hab, fun q b hq => ?_⟩, ⟨fun k hk => ⟨?_, (hT.1 k hk).2⟩, fun q b hq => hR2 q b (hT.2.1 q b hq), fun k hk hno => hT.2.2.1 k (hdd k hk) hno, fun q b hq hq0 => ?_⟩, hF⟩
    · obtain ⟨h3, h4⟩ := hP.1 k e9 (hge k e9 he9)
      refine ⟨?_, h4⟩
      have hce : z_cE n e9 := z_cLm hc e9 (List.mem_of_getElem? (z_gL he9))
      cases e9 with
      | inl x =>
        obtain ⟨z, z1, z2⟩ := h3
        exact ⟨z, z1, fun j hj => hv _ _ (hce j hj) (z2 j hj)⟩
      | inr o =>
        obtain ⟨q, gs, x1, x2, x3, x4⟩ := h3
        exact ⟨q, gs, x1, x2, x3, hvl _ _ hce x4⟩
    · have hq : (if q = R.1 n then some x.toUInt32 else R.2 q) = some b := hq
      by_cases hqn : q = R.1 n
      · rw [if_pos hqn] at hq
        obtain rfl := Option.some.inj hq
        subst hqn
        refine ⟨hbox, fun k hk e9 => ?_⟩
        have h1 := hP.2.1 k n (hdd k hk) ⟨_, hgn⟩ e9
        have h2 := (hd k).mp hk
        omega
      · rw [if_neg hqn] at hq
        exact ⟨(hP.2.2 q b hq).1, fun k hk => (hP.2.2 q b hq).2 k (hdd k hk)⟩
    · rw [hL0] at hk
      obtain ⟨e9, he9⟩ := hk
      have h1 := (List.getElem?_eq_some_iff.mp (z_gL he9)).1
      exact (hd k).mpr (by omega)
    · have hq : (if q = R.1 n then some x.toUInt32 else R.2 q) = some b := hq
      by_cases hqn : q = R.1 n
      · rw [hqn]
        refine hT.2.2.1 n ⟨_, hgn⟩ ?_
        rw [hL0]
        intro ⟨e9, he9⟩
        have h1 := (List.getElem?_eq_some_iff.mp (z_gL he9)).1
        omega
      · rw [if_neg hqn] at hq
        exact hT.2.2.2 q b hq hq0
  obtain ⟨clo, h1, h2⟩ := hlo
  exact h p e s m args below meth c R0 hok (R.1, fun q => if q = R.1 n then some x.toUInt32 else R.2 q) H locs ls (.ref (R.1 n) :: cs1) hat2 ⟨[], ⟨h1.1, h1.2.1, fun _ hx => by cases hx⟩, trivial⟩ ⟨⟨R.1 n, rfl, Or.inl (if_pos rfl)⟩, hvl _ _ (z_stc hst) hst1⟩
theorem j_getC {idx a n : Nat} {f : Nat → Value} (hd : decode y.2.1 pc = .ok (.invokevirtual idx, 3)) (hl : Cond.methodLink y.1.cls idx ⟨"java/lang/Object", "getClass", "()Ljava/lang/Class;"⟩ ∈ z_tbl) (hdc : Cond.declares ⟨"java/lang/Object", "getClass", "()Ljava/lang/Class;"⟩ ∈ z_nst)
    (hs : Cond.selects "[Ljava/lang/Object;" ⟨"java/lang/Object", "getClass", "()Ljava/lang/Class;"⟩ ⟨"java/lang/Object", "getClass", "()Ljava/lang/Class;"⟩ ∈ z_tbl) (hi : Cond.instanceMethod ⟨"java/lang/Object", "getClass", "()Ljava/lang/Class;"⟩ ∈ z_tbl) (hnat : Cond.native ⟨"java/lang/Object", "getClass", "()Ljava/lang/Class;"⟩ ∈ z_tbl)
    (hg : z_g w a = some (.inl (3, n, f))) (hrk : 1 ≤ S.1) (hW : z_cat st ≤ 8) (h : z_J G l y S (pc + 3) lo (.retAddr 6 :: st) w kc ks) : z_J G l y S pc lo (.ref a :: st) w kc ks := by
  intro p e s m args below meth c R0 hok R H locs ls cst hat hlo hst
  obtain ⟨c1, cs1, rfl, hv, hst1⟩ := z_Lc hst
  obtain ⟨-, h1⟩ := hv
  subst h1
  obtain ⟨q, hq, hm⟩ := (z_okc hok).2.2.2.2.2.2.2.1
  have hts := hok.2.2.2.2.2.2.1
  have hsz := hlo.choose_spec.1.1
  have h8 : (cs1.map fun v => v.category).sum ≤ 8 := by rw [z_Lcs hst1]; exact hW
  have h40 : 40 ≤ (z_rm S.1 S.2.1 S.2.2.1).locals := by show 40 ≤ 40 * S.1; omega
  obtain ⟨z, z1, -⟩ := (hat.1.1 a _ hg).1
  exact va_getC hok.1 hok.2.1 hsz.symm hok.2.2.2.2.2.1 (hts _ hl) (va_Nw.use (w := Cond.declares ⟨"java/lang/Object", "getClass", "()Ljava/lang/Class;"⟩) rfl (hok.2.2.2.2.2.2.2.1.2.2.1 _ hdc)) (hts _ hs) (hts _ hi) (hts _ hnat) hm ⟨_, z1, rfl, z_RAf (ty := .object "java/lang/Object") (hok.2.2.2.2.2.2.2.1.2.1 3 _ rfl).2⟩ hrk (by omega) hd (h p e s m args below meth c R0 hok R H locs ls (.ref q :: cs1) hat hlo ⟨⟨q, rfl, hq⟩, hst1⟩)
theorem j_acmp_neK {k : Nat} {off : Int} {tgt : Nat} (hd : decode y.2.1 pc = .ok (.if_acmp .ne off, 3)) (ht : (pc : Int) + off = (tgt : Int)) (h : z_J G l y S (pc + 3) lo st w kc ks) : z_J G l y S pc lo (.retAddr k :: .retAddr k :: st) w kc ks := by
  intro p e s m args below meth c R0 hok R H locs ls cst hat hlo hst
  obtain ⟨c1, cs1, rfl, ⟨q1, h1, k1⟩, hst1⟩ := z_Lc hst
  obtain ⟨c2, cs2, rfl, ⟨q2, h2, k2⟩, hst2⟩ := z_Lc hst1
  subst h1 h2
  have e9 := (z_okc hok).1 k q1 q2 k1 k2
  subst e9
  exact lv_acmp_ne (rx := some q1) (ry := some q1) hok.1 hok.2.1 hd ht (fun z => absurd rfl z) (fun _ => h p e s m args below meth c R0 hok R H locs ls _ hat hlo hst2)
theorem j_acmp_eqR {k a : Nat} {off : Int} {tgt : Nat} (hd : decode y.2.1 pc = .ok (.if_acmp .eq off, 3)) (ht : (pc : Int) + off = (tgt : Int)) (h : z_J G l y S (pc + 3) lo st w kc ks) (hk6 : k < 6 ∨ 8 ≤ k := by decide) : z_J G l y S pc lo (.retAddr k :: .ref a :: st) w kc ks := by
  intro p e s m args below meth c R0 hok R H locs ls cst hat hlo hst
  obtain ⟨c1, cs1, rfl, ⟨q1, h1, k1⟩, hst1⟩ := z_Lc hst
  obtain ⟨c2, cs2, rfl, ⟨⟨e9, d2⟩, h2⟩, hst2⟩ := z_Lc hst1
  subst h1 h2
  have hlo9 := (hat.1.1 a e9 d2).2
  have hk9 := (z_okc hok).2.1 k q1 hk6 k1
  exact lv_acmp_eq (rx := some (R.1 a)) (ry := some q1) hok.1 hok.2.1 hd ht (fun z => absurd (Option.some.inj z) (fun z => hk9 (by rw [← z]; exact hlo9))) (fun _ => h p e s m args below meth c R0 hok R H locs ls _ hat hlo hst2)
end ZJ4
end ZM17
section ZM18
theorem iJ0 : ∀ x ∈ u_ws RJ0 TJ0 4, x ∈ z_tbl := z_all [820, 822, 824, 826] (by decide +kernel) (by decide +kernel)
theorem tJ0_0 : z_FT 0 0 (.array .byte) true := ⟨(RJ0, TJ0, 4), tyJ0, rfl, rfl, tyJ0_ok, rfl, nmJ0⟩
theorem tJ0_1 : z_FT 0 1 .byte true := ⟨(RJ0, TJ0, 4), tyJ0, rfl, rfl, tyJ0_ok, rfl, nmJ0⟩
abbrev mJ0_init_81219 : z_M := (yJ0_init_81219, cJ0_init_81219, 2, none, [])
theorem pds_56 : (parseMethodDescriptor "(Ljava/lang/StringBuilder;)V").map (fun d => d.parameters.length) = some 1 := by decide +kernel
theorem kJ0_init_81219 : z_okm mJ0_init_81219 1 := ⟨rfl, (z_w 732 ((lwt_3_6 27).trans rfl) (by decide +kernel)), (z_w 76 ((lwt_1_1 1).trans rfl) (by decide +kernel)), ncl_J0, pds_56, by decide⟩
theorem inJ0_init_81219 : Cond.instanceMethod yJ0_init_81219 ∈ z_tbl := (z_w 731 ((lwt_3_6 26).trans rfl) (by decide +kernel))
abbrev mJ0_init_db425 : z_M := (yJ0_init_db425, cJ0_init_db425, 5, none, [])
theorem pds_57 : (parseMethodDescriptor "(Ljava/lang/AbstractStringBuilder;Ljava/lang/Void;)V").map (fun d => d.parameters.length) = some 2 := by decide +kernel
theorem kJ0_init_db425 : z_okm mJ0_init_db425 2 := ⟨rfl, (z_w 735 ((lwt_3_7 0).trans rfl) (by decide +kernel)), (z_w 76 ((lwt_1_1 1).trans rfl) (by decide +kernel)), ncl_J0, pds_57, by decide⟩
theorem inJ0_init_db425 : Cond.instanceMethod yJ0_init_db425 ∈ z_tbl := (z_w 734 ((lwt_3_6 29).trans rfl) (by decide +kernel))
theorem lJ0_489 : Cond.methodLink RJ0 489 yJ0_init_db425 ∈ z_tbl := (z_w 733 ((lwt_3_6 28).trans rfl) (by decide +kernel))
theorem fJ0_9 : z_F RJ0 9 0 0 := ⟨(RJ0, TJ0, 4), "java/lang/String", rfl, by decide, iJ0, Or.inl (z_w 818 ((lwt_4_1 23).trans rfl) (by decide +kernel)), Or.inl rfl⟩
abbrev mJ0_coder_7d493 : z_M := (yJ0_coder_7d493, cJ0_coder_7d493, 1, (some .byte), [])
theorem pds_58 : (parseMethodDescriptor "()B").map (fun d => d.parameters.length) = some 0 := by decide +kernel
theorem kJ0_coder_7d493 : z_okm mJ0_coder_7d493 0 := ⟨rfl, (z_w 786 ((lwg_4 21).trans rfl) (by decide +kernel)), (z_w 76 ((lwt_1_1 1).trans rfl) (by decide +kernel)), ncl_J0, pds_58, by decide⟩
theorem inJ0_coder_7d493 : Cond.instanceMethod yJ0_coder_7d493 ∈ z_tbl := (z_w 784 ((lwg_4 19).trans rfl) (by decide +kernel))
theorem seJ0_coder_7d493 : Cond.selects RJ0 yJ0_coder_7d493 yJ0_coder_7d493 ∈ z_tbl := (z_w 785 ((lwg_4 20).trans rfl) (by decide +kernel))
theorem lJ0_335 : Cond.methodLink RJ0 335 yJ0_coder_7d493 ∈ z_tbl := (z_w 783 ((lwg_4 18).trans rfl) (by decide +kernel))
abbrev mJ0_getBytes_840e7 : z_M := (yJ0_getBytes_840e7, cJ0_getBytes_840e7, 4, none, [])
theorem pds_59 : (parseMethodDescriptor "([BIB)V").map (fun d => d.parameters.length) = some 3 := by decide +kernel
theorem kJ0_getBytes_840e7 : z_okm mJ0_getBytes_840e7 3 := ⟨rfl, (z_w 800 ((lwt_4_1 5).trans rfl) (by decide +kernel)), (z_w 76 ((lwt_1_1 1).trans rfl) (by decide +kernel)), ncl_J0, pds_59, by decide⟩
theorem inJ0_getBytes_840e7 : Cond.instanceMethod yJ0_getBytes_840e7 ∈ z_tbl := (z_w 798 ((lwt_4_1 3).trans rfl) (by decide +kernel))
-- call J0 212: ('"java/lang/System"', '"arraycopy"', '"(Ljava/lang/Object;ILjava/lang/Object;II)V"')
theorem ncl_J1 : RJ1 ≠ "java/lang/invoke/MethodHandle" ∧ RJ1 ≠ "java/lang/invoke/VarHandle" := ⟨by decide +kernel, by decide +kernel⟩
-- call J0 1: ('"java/lang/Object"', '"<init>"', '"()V"')
theorem oJ0_1 : Cond.methodLink RJ0 1 Lib.objectInit ∈ z_tbl := (z_w 736 ((lwt_3_7 1).trans rfl) (by decide +kernel))
abbrev mJ5_getValue_6d5f1 : z_M := (yJ5_getValue_6d5f1, cJ5_getValue_6d5f1, 1, (some (.array .byte)), [])
theorem ncl_J5 : RJ5 ≠ "java/lang/invoke/MethodHandle" ∧ RJ5 ≠ "java/lang/invoke/VarHandle" := ⟨by decide +kernel, by decide +kernel⟩
theorem pds_63 : (parseMethodDescriptor "()[B").map (fun d => d.parameters.length) = some 0 := by decide +kernel
theorem kJ5_getValue_6d5f1 : z_okm mJ5_getValue_6d5f1 0 := ⟨rfl, (z_w 741 ((lwt_3_7 6).trans rfl) (by decide +kernel)), (z_w 74 ((lwg_1 29).trans rfl) (by decide +kernel)), ncl_J5, pds_63, by decide⟩
theorem inJ5_getValue_6d5f1 : Cond.instanceMethod yJ5_getValue_6d5f1 ∈ z_tbl := (z_w 738 ((lwt_3_7 3).trans rfl) (by decide +kernel))
theorem lJ0_552 : Cond.methodLink RJ0 552 yJ5_getValue_6d5f1 ∈ z_tbl := (z_w 737 ((lwt_3_7 2).trans rfl) (by decide +kernel))
theorem cuJ0_552_J4 : z_CU RJ0 RJ4 "java/lang/AbstractStringBuilder" 552 yJ5_getValue_6d5f1 mJ5_getValue_6d5f1 := ⟨lJ0_552, (z_w 739 ((lwt_3_7 4).trans rfl) (by decide +kernel)), Or.inl rfl, (z_w 740 ((lwt_3_7 5).trans rfl) (by decide +kernel)), inJ5_getValue_6d5f1, ⟨by decide +kernel, by decide +kernel⟩, rfl⟩
abbrev mJ5_length_8abf5 : z_M := (yJ5_length_8abf5, cJ5_length_8abf5, 1, (some .int), [])
theorem kJ5_length_8abf5 : z_okm mJ5_length_8abf5 0 := ⟨rfl, (z_w 749 ((lwt_3_7 14).trans rfl) (by decide +kernel)), (z_w 74 ((lwg_1 29).trans rfl) (by decide +kernel)), ncl_J5, pds_17, by decide⟩
theorem inJ5_length_8abf5 : Cond.instanceMethod yJ5_length_8abf5 ∈ z_tbl := (z_w 743 ((lwt_3_7 8).trans rfl) (by decide +kernel))
theorem lJ0_549 : Cond.methodLink RJ0 549 yJ5_length_8abf5 ∈ z_tbl := (z_w 742 ((lwt_3_7 7).trans rfl) (by decide +kernel))
abbrev mJ4_length_8abf5 : z_M := (yJ4_length_8abf5, cJ4_length_8abf5, 1, (some .int), [])
theorem kJ4_length_8abf5 : z_okm mJ4_length_8abf5 0 := ⟨rfl, (z_w 747 ((lwt_3_7 12).trans rfl) (by decide +kernel)), (z_w 75 ((lwt_1_1 0).trans rfl) (by decide +kernel)), ncl_J4, pds_17, by decide⟩
theorem inJ4_length_8abf5 : Cond.instanceMethod yJ4_length_8abf5 ∈ z_tbl := (z_w 746 ((lwt_3_7 11).trans rfl) (by decide +kernel))
theorem seJ4_length_8abf5 : Cond.selects RJ4 yJ4_length_8abf5 yJ4_length_8abf5 ∈ z_tbl := (z_w 1983 ((lwg_9 18).trans rfl) (by decide +kernel))
abbrev mJ5_isLatin1_aae02 : z_M := (yJ5_isLatin1_aae02, cJ5_isLatin1_aae02, 1, (some .boolean), [])
theorem kJ5_isLatin1_aae02 : z_okm mJ5_isLatin1_aae02 0 := ⟨rfl, (z_w 641 ((lwt_3_3 26).trans rfl) (by decide +kernel)), (z_w 74 ((lwg_1 29).trans rfl) (by decide +kernel)), ncl_J5, pds_10, by decide⟩
theorem inJ5_isLatin1_aae02 : Cond.instanceMethod yJ5_isLatin1_aae02 ∈ z_tbl := (z_w 638 ((lwt_3_3 23).trans rfl) (by decide +kernel))
theorem lJ0_1047 : Cond.methodLink RJ0 1047 yJ5_isLatin1_aae02 ∈ z_tbl := (z_w 750 ((lwt_3_7 15).trans rfl) (by decide +kernel))
theorem cuJ0_1047_J4 : z_CU RJ0 RJ4 "java/lang/AbstractStringBuilder" 1047 yJ5_isLatin1_aae02 mJ5_isLatin1_aae02 := ⟨lJ0_1047, (z_w 639 ((lwt_3_3 24).trans rfl) (by decide +kernel)), Or.inl rfl, (z_w 640 ((lwt_3_3 25).trans rfl) (by decide +kernel)), inJ5_isLatin1_aae02, ⟨by decide +kernel, by decide +kernel⟩, rfl⟩
theorem fJ0_15 : z_F RJ0 15 0 1 := ⟨(RJ0, TJ0, 4), "java/lang/String", rfl, by decide, iJ0, Or.inl (z_w 819 ((lwt_4_1 24).trans rfl) (by decide +kernel)), Or.inl rfl⟩
abbrev mJ7_copyOfRange_39247 : z_M := (yJ7_copyOfRange_39247, cJ7_copyOfRange_39247, 3, (some (.array .byte)), [])
theorem ncl_J7 : RJ7 ≠ "java/lang/invoke/MethodHandle" ∧ RJ7 ≠ "java/lang/invoke/VarHandle" := ⟨by decide +kernel, by decide +kernel⟩
theorem pds_65 : (parseMethodDescriptor "([BII)[B").map (fun d => d.parameters.length) = some 3 := by decide +kernel
theorem kJ7_copyOfRange_39247 : z_okm mJ7_copyOfRange_39247 3 := ⟨rfl, (z_w 753 ((lwt_3_7 18).trans rfl) (by decide +kernel)), (z_w 58 ((lwg_1 13).trans rfl) (by decide +kernel)), ncl_J7, pds_65, by decide⟩
theorem stJ7_copyOfRange_39247 : Cond.static yJ7_copyOfRange_39247 ∈ z_tbl := (z_w 752 ((lwt_3_7 17).trans rfl) (by decide +kernel))
theorem lJ0_54 : Cond.methodLink RJ0 54 yJ7_copyOfRange_39247 ∈ z_tbl := (z_w 751 ((lwt_3_7 16).trans rfl) (by decide +kernel))
abbrev mJ3_checkIndex_8e157 : z_M := (yJ3_checkIndex_8e157, cJ3_checkIndex_8e157, 3, (some .int), [])
theorem ncl_J3 : RJ3 ≠ "java/lang/invoke/MethodHandle" ∧ RJ3 ≠ "java/lang/invoke/VarHandle" := ⟨by decide +kernel, by decide +kernel⟩
theorem pds_69 : (parseMethodDescriptor "(IILjava/util/function/BiFunction;)I").map (fun d => d.parameters.length) = some 3 := by decide +kernel
theorem kJ3_checkIndex_8e157 : z_okm mJ3_checkIndex_8e157 3 := ⟨rfl, (z_w 689 ((lwt_3_5 14).trans rfl) (by decide +kernel)), (z_w 68 ((lwg_1 23).trans rfl) (by decide +kernel)), ncl_J3, pds_69, by decide⟩
theorem stJ3_checkIndex_8e157 : Cond.static yJ3_checkIndex_8e157 ∈ z_tbl := (z_w 688 ((lwt_3_5 13).trans rfl) (by decide +kernel))
abbrev mJ1_canEncode_fc78d : z_M := (yJ1_canEncode_fc78d, cJ1_canEncode_fc78d, 1, (some .boolean), [])
theorem pds_71 : (parseMethodDescriptor "(C)Z").map (fun d => d.parameters.length) = some 1 := by decide +kernel
theorem kJ1_canEncode_fc78d : z_okm mJ1_canEncode_fc78d 1 := ⟨rfl, (z_w 644 ((lwt_3_3 29).trans rfl) (by decide +kernel)), (z_w 78 ((lwt_1_1 3).trans rfl) (by decide +kernel)), ncl_J1, pds_71, by decide⟩
theorem stJ1_canEncode_fc78d : Cond.static yJ1_canEncode_fc78d ∈ z_tbl := (z_w 643 ((lwt_3_3 28).trans rfl) (by decide +kernel))
theorem pds_80 : (parseMethodDescriptor "(II[B)I").map (fun d => d.parameters.length) = some 3 := by decide +kernel
abbrev mJ5_init_d00df : z_M := (yJ5_init_d00df, cJ5_init_d00df, 2, none, [])
theorem kJ5_init_d00df : z_okm mJ5_init_d00df 1 := ⟨rfl, (z_w 571 ((lwt_3_1 16).trans rfl) (by decide +kernel)), (z_w 74 ((lwg_1 29).trans rfl) (by decide +kernel)), ncl_J5, pds_3, by decide⟩
theorem inJ5_init_d00df : Cond.instanceMethod yJ5_init_d00df ∈ z_tbl := (z_w 570 ((lwt_3_1 15).trans rfl) (by decide +kernel))
theorem lJ4_1 : Cond.methodLink RJ4 1 yJ5_init_d00df ∈ z_tbl := (z_w 569 ((lwt_3_1 14).trans rfl) (by decide +kernel))
abbrev mJ4_append_15ec4 : z_M := (yJ4_append_15ec4, cJ4_append_15ec4, 2, (some (.object "java/lang/StringBuilder")), [])
theorem pds_82 : (parseMethodDescriptor "(Ljava/lang/String;)Ljava/lang/StringBuilder;").map (fun d => d.parameters.length) = some 1 := by decide +kernel
theorem kJ4_append_15ec4 : z_okm mJ4_append_15ec4 1 := ⟨rfl, (z_w 768 ((lwg_4 3).trans rfl) (by decide +kernel)), (z_w 75 ((lwt_1_1 0).trans rfl) (by decide +kernel)), ncl_J4, pds_82, by decide⟩
theorem inJ4_append_15ec4 : Cond.instanceMethod yJ4_append_15ec4 ∈ z_tbl := (z_w 766 ((lwg_4 1).trans rfl) (by decide +kernel))
theorem seJ4_append_15ec4 : Cond.selects RJ4 yJ4_append_15ec4 yJ4_append_15ec4 ∈ z_tbl := (z_w 767 ((lwg_4 2).trans rfl) (by decide +kernel))
abbrev mJ5_append_cf1ce : z_M := (yJ5_append_cf1ce, cJ5_append_cf1ce, 3, (some (.object "java/lang/AbstractStringBuilder")), [])
theorem pds_83 : (parseMethodDescriptor "(Ljava/lang/String;)Ljava/lang/AbstractStringBuilder;").map (fun d => d.parameters.length) = some 1 := by decide +kernel
theorem kJ5_append_cf1ce : z_okm mJ5_append_cf1ce 1 := ⟨rfl, (z_w 771 ((lwg_4 6).trans rfl) (by decide +kernel)), (z_w 74 ((lwg_1 29).trans rfl) (by decide +kernel)), ncl_J5, pds_83, by decide⟩
theorem inJ5_append_cf1ce : Cond.instanceMethod yJ5_append_cf1ce ∈ z_tbl := (z_w 770 ((lwg_4 5).trans rfl) (by decide +kernel))
theorem lJ4_29 : Cond.methodLink RJ4 29 yJ5_append_cf1ce ∈ z_tbl := (z_w 769 ((lwg_4 4).trans rfl) (by decide +kernel))
abbrev mJ5_append_3fe6f : z_M := (yJ5_append_3fe6f, cJ5_append_3fe6f, 2, (some (.object "java/lang/AbstractStringBuilder")), [])
theorem pds_84 : (parseMethodDescriptor "(C)Ljava/lang/AbstractStringBuilder;").map (fun d => d.parameters.length) = some 1 := by decide +kernel
theorem kJ5_append_3fe6f : z_okm mJ5_append_3fe6f 1 := ⟨rfl, (z_w 601 ((lwt_3_2 16).trans rfl) (by decide +kernel)), (z_w 74 ((lwg_1 29).trans rfl) (by decide +kernel)), ncl_J5, pds_84, by decide⟩
theorem inJ5_append_3fe6f : Cond.instanceMethod yJ5_append_3fe6f ∈ z_tbl := (z_w 600 ((lwt_3_2 15).trans rfl) (by decide +kernel))
theorem lJ4_50 : Cond.methodLink RJ4 50 yJ5_append_3fe6f ∈ z_tbl := (z_w 599 ((lwt_3_2 14).trans rfl) (by decide +kernel))
abbrev mJ5_append_c97b9 : z_M := (yJ5_append_c97b9, cJ5_append_c97b9, 4, (some (.object "java/lang/AbstractStringBuilder")), [])
theorem pds_85 : (parseMethodDescriptor "(I)Ljava/lang/AbstractStringBuilder;").map (fun d => d.parameters.length) = some 1 := by decide +kernel
theorem kJ5_append_c97b9 : z_okm mJ5_append_c97b9 1 := ⟨rfl, (z_w 696 ((lwt_3_5 21).trans rfl) (by decide +kernel)), (z_w 74 ((lwg_1 29).trans rfl) (by decide +kernel)), ncl_J5, pds_85, by decide⟩
theorem inJ5_append_c97b9 : Cond.instanceMethod yJ5_append_c97b9 ∈ z_tbl := (z_w 695 ((lwt_3_5 20).trans rfl) (by decide +kernel))
theorem lJ4_53 : Cond.methodLink RJ4 53 yJ5_append_c97b9 ∈ z_tbl := (z_w 694 ((lwt_3_5 19).trans rfl) (by decide +kernel))
theorem nJ4_18 : z_N RJ4 18 0 [.null, .int 0, .int 0, .int 0] := ⟨(RJ0, TJ0, 4), tyJ0, rfl, iJ0, (z_w 728 ((lwt_3_6 23).trans rfl) (by decide +kernel)), (z_w 729 ((lwt_3_6 24).trans rfl) (by decide +kernel)), (z_w 76 ((lwt_1_1 1).trans rfl) (by decide +kernel)), tyJ0_ok, rfl, by decide, rfl⟩
theorem lJ4_137 : Cond.methodLink RJ4 137 yJ0_init_81219 ∈ z_tbl := (z_w 730 ((lwt_3_6 25).trans rfl) (by decide +kernel))
theorem lJ4_343 : Cond.methodLink RJ4 343 yJ5_length_8abf5 ∈ z_tbl := (z_w 748 ((lwt_3_7 13).trans rfl) (by decide +kernel))
-- call J5 3: ('"java/lang/Object"', '"<init>"', '"()V"')
theorem oJ5_3 : Cond.methodLink RJ5 3 Lib.objectInit ∈ z_tbl := (z_w 572 ((lwt_3_1 17).trans rfl) (by decide +kernel))
theorem fJ5_15 : z_F RJ5 15 1 0 := ⟨(RJ4, TJ4, 4), "java/lang/AbstractStringBuilder", rfl, by decide, iJ4, Or.inl (z_w 582 ((lwt_3_1 27).trans rfl) (by decide +kernel)), Or.inl rfl⟩
theorem fJ5_22 : z_F RJ5 22 1 1 := ⟨(RJ4, TJ4, 4), "java/lang/AbstractStringBuilder", rfl, by decide, iJ4, Or.inl (z_w 583 ((lwt_3_1 28).trans rfl) (by decide +kernel)), Or.inl rfl⟩
theorem fJ5_79 : z_F RJ5 79 1 3 := ⟨(RJ4, TJ4, 4), "java/lang/AbstractStringBuilder", rfl, by decide, iJ4, Or.inl (z_w 585 ((lwt_3_2 0).trans rfl) (by decide +kernel)), Or.inl rfl⟩
abbrev mJ5_ensureCapacityInternal_d00df : z_M := (yJ5_ensureCapacityInternal_d00df, cJ5_ensureCapacityInternal_d00df, 3, none, [])
theorem kJ5_ensureCapacityInternal_d00df : z_okm mJ5_ensureCapacityInternal_d00df 1 := ⟨rfl, (z_w 605 ((lwt_3_2 20).trans rfl) (by decide +kernel)), (z_w 74 ((lwg_1 29).trans rfl) (by decide +kernel)), ncl_J5, pds_3, by decide⟩
theorem inJ5_ensureCapacityInternal_d00df : Cond.instanceMethod yJ5_ensureCapacityInternal_d00df ∈ z_tbl := (z_w 604 ((lwt_3_2 19).trans rfl) (by decide +kernel))
abbrev mJ5_newCapacity_0f7a4 : z_M := (yJ5_newCapacity_0f7a4, cJ5_newCapacity_0f7a4, 6, (some .int), [])
theorem kJ5_newCapacity_0f7a4 : z_okm mJ5_newCapacity_0f7a4 1 := ⟨rfl, (z_w 609 ((lwt_3_2 24).trans rfl) (by decide +kernel)), (z_w 74 ((lwg_1 29).trans rfl) (by decide +kernel)), ncl_J5, pds_4, by decide⟩
theorem inJ5_newCapacity_0f7a4 : Cond.instanceMethod yJ5_newCapacity_0f7a4 ∈ z_tbl := (z_w 608 ((lwt_3_2 23).trans rfl) (by decide +kernel))
theorem lJ5_104 : Cond.methodLink RJ5 104 yJ5_newCapacity_0f7a4 ∈ z_tbl := (z_w 606 ((lwt_3_2 21).trans rfl) (by decide +kernel))
abbrev mJ7_copyOf_9075b : z_M := (yJ7_copyOf_9075b, cJ7_copyOf_9075b, 3, (some (.array .byte)), [])
theorem pds_86 : (parseMethodDescriptor "([BI)[B").map (fun d => d.parameters.length) = some 2 := by decide +kernel
theorem kJ7_copyOf_9075b : z_okm mJ7_copyOf_9075b 2 := ⟨rfl, (z_w 623 ((lwt_3_3 8).trans rfl) (by decide +kernel)), (z_w 58 ((lwg_1 13).trans rfl) (by decide +kernel)), ncl_J7, pds_86, by decide⟩
theorem stJ7_copyOf_9075b : Cond.static yJ7_copyOf_9075b ∈ z_tbl := (z_w 622 ((lwt_3_3 7).trans rfl) (by decide +kernel))
theorem lJ5_108 : Cond.methodLink RJ5 108 yJ7_copyOf_9075b ∈ z_tbl := (z_w 621 ((lwt_3_3 6).trans rfl) (by decide +kernel))
abbrev mJ8_newLength_cabcc : z_M := (yJ8_newLength_cabcc, cJ8_newLength_cabcc, 4, (some .int), [])
theorem ncl_J8 : RJ8 ≠ "java/lang/invoke/MethodHandle" ∧ RJ8 ≠ "java/lang/invoke/VarHandle" := ⟨by decide +kernel, by decide +kernel⟩
theorem kJ8_newLength_cabcc : z_okm mJ8_newLength_cabcc 3 := ⟨rfl, (z_w 612 ((lwt_3_2 27).trans rfl) (by decide +kernel)), (z_w 56 ((lwg_1 11).trans rfl) (by decide +kernel)), ncl_J8, pds_25, by decide⟩
theorem stJ8_newLength_cabcc : Cond.static yJ8_newLength_cabcc ∈ z_tbl := (z_w 611 ((lwt_3_2 26).trans rfl) (by decide +kernel))
theorem lJ5_114 : Cond.methodLink RJ5 114 yJ8_newLength_cabcc ∈ z_tbl := (z_w 610 ((lwt_3_2 25).trans rfl) (by decide +kernel))
theorem lJ5_83 : Cond.methodLink RJ5 83 yJ5_isLatin1_aae02 ∈ z_tbl := (z_w 637 ((lwt_3_3 22).trans rfl) (by decide +kernel))
theorem cuJ5_83_J4 : z_CU RJ5 RJ4 "java/lang/AbstractStringBuilder" 83 yJ5_isLatin1_aae02 mJ5_isLatin1_aae02 := ⟨lJ5_83, (z_w 639 ((lwt_3_3 24).trans rfl) (by decide +kernel)), Or.inl rfl, (z_w 640 ((lwt_3_3 25).trans rfl) (by decide +kernel)), inJ5_isLatin1_aae02, ⟨by decide +kernel, by decide +kernel⟩, rfl⟩
theorem lJ5_32 : Cond.methodLink RJ5 32 yJ0_length_8abf5 ∈ z_tbl := (z_w 779 ((lwg_4 14).trans rfl) (by decide +kernel))
theorem lJ5_100 : Cond.methodLink RJ5 100 yJ5_ensureCapacityInternal_d00df ∈ z_tbl := (z_w 602 ((lwt_3_2 17).trans rfl) (by decide +kernel))
abbrev mJ5_putStringAt_47b60 : z_M := (yJ5_putStringAt_47b60, cJ5_putStringAt_47b60, 3, none, [])
theorem pds_89 : (parseMethodDescriptor "(ILjava/lang/String;)V").map (fun d => d.parameters.length) = some 2 := by decide +kernel
theorem kJ5_putStringAt_47b60 : z_okm mJ5_putStringAt_47b60 2 := ⟨rfl, (z_w 791 ((lwg_4 26).trans rfl) (by decide +kernel)), (z_w 74 ((lwg_1 29).trans rfl) (by decide +kernel)), ncl_J5, pds_89, by decide⟩
theorem inJ5_putStringAt_47b60 : Cond.instanceMethod yJ5_putStringAt_47b60 ∈ z_tbl := (z_w 790 ((lwg_4 25).trans rfl) (by decide +kernel))
theorem lJ5_208 : Cond.methodLink RJ5 208 yJ5_putStringAt_47b60 ∈ z_tbl := (z_w 788 ((lwg_4 23).trans rfl) (by decide +kernel))
theorem lJ5_191 : Cond.methodLink RJ5 191 yJ1_canEncode_fc78d ∈ z_tbl := (z_w 642 ((lwt_3_3 27).trans rfl) (by decide +kernel))
abbrev mJ6_stringSize_0f7a4 : z_M := (yJ6_stringSize_0f7a4, cJ6_stringSize_0f7a4, 4, (some .int), [])
theorem ncl_J6 : RJ6 ≠ "java/lang/invoke/MethodHandle" ∧ RJ6 ≠ "java/lang/invoke/VarHandle" := ⟨by decide +kernel, by decide +kernel⟩
theorem kJ6_stringSize_0f7a4 : z_okm mJ6_stringSize_0f7a4 1 := ⟨rfl, (z_w 699 ((lwt_3_5 24).trans rfl) (by decide +kernel)), (z_w 70 ((lwg_1 25).trans rfl) (by decide +kernel)), ncl_J6, pds_4, by decide⟩
theorem stJ6_stringSize_0f7a4 : Cond.static yJ6_stringSize_0f7a4 ∈ z_tbl := (z_w 698 ((lwt_3_5 23).trans rfl) (by decide +kernel))
theorem lJ5_245 : Cond.methodLink RJ5 245 yJ6_stringSize_0f7a4 ∈ z_tbl := (z_w 697 ((lwt_3_5 22).trans rfl) (by decide +kernel))
abbrev mJ6_getChars_ba4f3 : z_M := (yJ6_getChars_ba4f3, cJ6_getChars_ba4f3, 7, (some .int), [])
theorem kJ6_getChars_ba4f3 : z_okm mJ6_getChars_ba4f3 3 := ⟨rfl, (z_w 702 ((lwt_3_5 27).trans rfl) (by decide +kernel)), (z_w 70 ((lwg_1 25).trans rfl) (by decide +kernel)), ncl_J6, pds_80, by decide⟩
theorem stJ6_getChars_ba4f3 : Cond.static yJ6_getChars_ba4f3 ∈ z_tbl := (z_w 701 ((lwt_3_5 26).trans rfl) (by decide +kernel))
theorem lJ5_248 : Cond.methodLink RJ5 248 yJ6_getChars_ba4f3 ∈ z_tbl := (z_w 700 ((lwt_3_5 25).trans rfl) (by decide +kernel))
abbrev mJ5_inflateIfNeededFor_a7421 : z_M := (yJ5_inflateIfNeededFor_a7421, cJ5_inflateIfNeededFor_a7421, 2, none, [])
theorem pds_91 : (parseMethodDescriptor "(Ljava/lang/String;)V").map (fun d => d.parameters.length) = some 1 := by decide +kernel
theorem kJ5_inflateIfNeededFor_a7421 : z_okm mJ5_inflateIfNeededFor_a7421 1 := ⟨rfl, (z_w 795 ((lwt_4_1 0).trans rfl) (by decide +kernel)), (z_w 74 ((lwg_1 29).trans rfl) (by decide +kernel)), ncl_J5, pds_91, by decide⟩
theorem inJ5_inflateIfNeededFor_a7421 : Cond.instanceMethod yJ5_inflateIfNeededFor_a7421 ∈ z_tbl := (z_w 794 ((lwg_4 29).trans rfl) (by decide +kernel))
theorem lJ5_40 : Cond.methodLink RJ5 40 yJ0_coder_7d493 ∈ z_tbl := (z_w 796 ((lwt_4_1 1).trans rfl) (by decide +kernel))
theorem lJ5_397 : Cond.methodLink RJ5 397 yJ5_inflateIfNeededFor_a7421 ∈ z_tbl := (z_w 792 ((lwg_4 27).trans rfl) (by decide +kernel))
theorem lJ5_399 : Cond.methodLink RJ5 399 yJ0_getBytes_840e7 ∈ z_tbl := (z_w 797 ((lwt_4_1 2).trans rfl) (by decide +kernel))
theorem iJ6 : ∀ x ∈ u_ws RJ6 TJ6 1, x ∈ z_tbl := z_all [1536] (by decide +kernel) (by decide +kernel)
theorem tJ6_0 : z_FT 2 0 .int true := ⟨(RJ6, TJ6, 1), tyJ6, rfl, rfl, tyJ6_ok, rfl, nmJ6⟩
abbrev mJ6_valueOf_2dffe : z_M := (yJ6_valueOf_2dffe, cJ6_valueOf_2dffe, 1, (some (.object "java/lang/Integer")), [])
theorem pds_92 : (parseMethodDescriptor "(I)Ljava/lang/Integer;").map (fun d => d.parameters.length) = some 1 := by decide +kernel
theorem kJ6_valueOf_2dffe : z_okm mJ6_valueOf_2dffe 1 := ⟨rfl, (z_w 1521 ((lwt_7_1 6).trans rfl) (by decide +kernel)), (z_w 70 ((lwg_1 25).trans rfl) (by decide +kernel)), ncl_J6, pds_92, by decide⟩
theorem stJ6_valueOf_2dffe : Cond.static yJ6_valueOf_2dffe ∈ z_tbl := (z_w 1520 ((lwt_7_1 5).trans rfl) (by decide +kernel))
theorem nJ6_1 : z_N RJ6 1 2 [.int 0] := ⟨(RJ6, TJ6, 1), tyJ6, rfl, iJ6, (z_w 1526 ((lwt_7_1 11).trans rfl) (by decide +kernel)), (z_w 1527 ((lwt_7_1 12).trans rfl) (by decide +kernel)), (z_w 70 ((lwg_1 25).trans rfl) (by decide +kernel)), tyJ6_ok, rfl, by decide, rfl⟩
abbrev mJ6_init_d00df : z_M := (yJ6_init_d00df, cJ6_init_d00df, 2, none, [])
theorem kJ6_init_d00df : z_okm mJ6_init_d00df 1 := ⟨rfl, (z_w 1530 ((lwt_7_1 15).trans rfl) (by decide +kernel)), (z_w 70 ((lwg_1 25).trans rfl) (by decide +kernel)), ncl_J6, pds_3, by decide⟩
theorem inJ6_init_d00df : Cond.instanceMethod yJ6_init_d00df ∈ z_tbl := (z_w 1529 ((lwt_7_1 14).trans rfl) (by decide +kernel))
theorem lJ6_199 : Cond.methodLink RJ6 199 yJ6_init_d00df ∈ z_tbl := (z_w 1528 ((lwt_7_1 13).trans rfl) (by decide +kernel))
abbrev mJxd2413_init_da8c8 : z_M := (yJxd2413_init_da8c8, cJxd2413_init_da8c8, 1, none, [])
theorem ncl_Jxd2413 : RJxd2413 ≠ "java/lang/invoke/MethodHandle" ∧ RJxd2413 ≠ "java/lang/invoke/VarHandle" := ⟨by decide +kernel, by decide +kernel⟩
theorem kJxd2413_init_da8c8 : z_okm mJxd2413_init_da8c8 0 := ⟨rfl, (z_w 1533 ((lwt_7_1 18).trans rfl) (by decide +kernel)), (z_w 69 ((lwg_1 24).trans rfl) (by decide +kernel)), ncl_Jxd2413, pds_1, by decide⟩
theorem inJxd2413_init_da8c8 : Cond.instanceMethod yJxd2413_init_da8c8 ∈ z_tbl := (z_w 1532 ((lwt_7_1 17).trans rfl) (by decide +kernel))
theorem lJ6_202 : Cond.methodLink RJ6 202 yJxd2413_init_da8c8 ∈ z_tbl := (z_w 1531 ((lwt_7_1 16).trans rfl) (by decide +kernel))
theorem fJ6_205 : z_F RJ6 205 2 0 := ⟨(RJ6, TJ6, 1), "java/lang/Integer", rfl, by decide, iJ6, Or.inl (z_w 1535 ((lwt_7_1 20).trans rfl) (by decide +kernel)), Or.inl rfl⟩
abbrev mJ6_intValue_8abf5 : z_M := (yJ6_intValue_8abf5, cJ6_intValue_8abf5, 1, (some .int), [])
theorem kJ6_intValue_8abf5 : z_okm mJ6_intValue_8abf5 0 := ⟨rfl, (z_w 1571 ((lwt_7_2 26).trans rfl) (by decide +kernel)), (z_w 70 ((lwg_1 25).trans rfl) (by decide +kernel)), ncl_J6, pds_17, by decide⟩
theorem inJ6_intValue_8abf5 : Cond.instanceMethod yJ6_intValue_8abf5 ∈ z_tbl := (z_w 1569 ((lwt_7_2 24).trans rfl) (by decide +kernel))
theorem seJ6_intValue_8abf5 : Cond.selects RJ6 yJ6_intValue_8abf5 yJ6_intValue_8abf5 ∈ z_tbl := (z_w 1570 ((lwt_7_2 25).trans rfl) (by decide +kernel))
abbrev mJ7_copyOf_1904c : z_M := (yJ7_copyOf_1904c, cJ7_copyOf_1904c, 2, (some (.array (.object "java/lang/Object"))), [])
theorem pds_94 : (parseMethodDescriptor "([Ljava/lang/Object;I)[Ljava/lang/Object;").map (fun d => d.parameters.length) = some 2 := by decide +kernel
theorem kJ7_copyOf_1904c : z_okm mJ7_copyOf_1904c 2 := ⟨rfl, (z_w 1421 ((lwt_6_5 26).trans rfl) (by decide +kernel)), (z_w 58 ((lwg_1 13).trans rfl) (by decide +kernel)), ncl_J7, pds_94, by decide⟩
theorem stJ7_copyOf_1904c : Cond.static yJ7_copyOf_1904c ∈ z_tbl := (z_w 1420 ((lwt_6_5 25).trans rfl) (by decide +kernel))
-- call J7 86: ('"java/lang/Object"', '"getClass"', '"()Ljava/lang/Class;"')
theorem lJ7_86 : Cond.methodLink RJ7 86 ⟨"java/lang/Object", "getClass", "()Ljava/lang/Class;"⟩ ∈ z_tbl := (z_w 1422 ((lwt_6_5 27).trans rfl) (by decide +kernel))
abbrev mJ7_copyOf_6403c : z_M := (yJ7_copyOf_6403c, cJ7_copyOf_6403c, 4, (some (.array (.object "java/lang/Object"))), [])
theorem pds_95 : (parseMethodDescriptor "([Ljava/lang/Object;ILjava/lang/Class;)[Ljava/lang/Object;").map (fun d => d.parameters.length) = some 3 := by decide +kernel
theorem kJ7_copyOf_6403c : z_okm mJ7_copyOf_6403c 3 := ⟨rfl, (z_w 1447 ((lwt_6_6 22).trans rfl) (by decide +kernel)), (z_w 58 ((lwg_1 13).trans rfl) (by decide +kernel)), ncl_J7, pds_95, by decide⟩
theorem stJ7_copyOf_6403c : Cond.static yJ7_copyOf_6403c ∈ z_tbl := (z_w 1446 ((lwt_6_6 21).trans rfl) (by decide +kernel))
theorem lJ7_300 : Cond.methodLink RJ7 300 yJ7_copyOf_6403c ∈ z_tbl := (z_w 1445 ((lwt_6_6 20).trans rfl) (by decide +kernel))
theorem aJ7_2 : Cond.classLink RJ7 2 "java/lang/Object" ∈ z_tbl := (z_w 1450 ((lwt_6_6 25).trans rfl) (by decide +kernel))
theorem ao_Object : Cond.arrayOver (.object "java/lang/Object") ∈ z_nst := (z_wn 1449 ((lwt_6_6 24).trans rfl) (by decide +kernel))
theorem lJ7_304 : Cond.methodLink RJ7 304 yJ9_min_7cf53 ∈ z_tbl := (z_w 631 ((lwt_3_3 16).trans rfl) (by decide +kernel))
-- call J7 150: ('"java/lang/System"', '"arraycopy"', '"(Ljava/lang/Object;ILjava/lang/Object;II)V"')
theorem lJ7_150 : Cond.methodLink RJ7 150 ⟨"java/lang/System", "arraycopy", "(Ljava/lang/Object;ILjava/lang/Object;II)V"⟩ ∈ z_tbl := (z_w 634 ((lwt_3_3 19).trans rfl) (by decide +kernel))
-- call J7 310: ('"[B"', '"clone"', '"()Ljava/lang/Object;"')
abbrev mJ7_checkLength_df160 : z_M := (yJ7_checkLength_df160, cJ7_checkLength_df160, 2, none, [])
theorem kJ7_checkLength_df160 : z_okm mJ7_checkLength_df160 2 := ⟨rfl, (z_w 759 ((lwt_3_7 24).trans rfl) (by decide +kernel)), (z_w 58 ((lwg_1 13).trans rfl) (by decide +kernel)), ncl_J7, pds_11, by decide⟩
theorem stJ7_checkLength_df160 : Cond.static yJ7_checkLength_df160 ∈ z_tbl := (z_w 758 ((lwt_3_7 23).trans rfl) (by decide +kernel))
-- call J7 65: ('"java/lang/IllegalArgumentException"', '"<init>"', '"(Ljava/lang/String;)V"')
abbrev mJ7_copyOfRangeByte_39247 : z_M := (yJ7_copyOfRangeByte_39247, cJ7_copyOfRangeByte_39247, 5, (some (.array .byte)), [])
theorem kJ7_copyOfRangeByte_39247 : z_okm mJ7_copyOfRangeByte_39247 3 := ⟨rfl, (z_w 756 ((lwt_3_7 21).trans rfl) (by decide +kernel)), (z_w 58 ((lwg_1 13).trans rfl) (by decide +kernel)), ncl_J7, pds_65, by decide⟩
theorem stJ7_copyOfRangeByte_39247 : Cond.static yJ7_copyOfRangeByte_39247 ∈ z_tbl := (z_w 755 ((lwt_3_7 20).trans rfl) (by decide +kernel))
theorem lJ7_339 : Cond.methodLink RJ7 339 yJ7_copyOfRangeByte_39247 ∈ z_tbl := (z_w 754 ((lwt_3_7 19).trans rfl) (by decide +kernel))
theorem lJ7_343 : Cond.methodLink RJ7 343 yJ7_checkLength_df160 ∈ z_tbl := (z_w 757 ((lwt_3_7 22).trans rfl) (by decide +kernel))
theorem lJ8_194 : Cond.methodLink RJ8 194 yJ9_max_7cf53 ∈ z_tbl := (z_w 613 ((lwt_3_2 28).trans rfl) (by decide +kernel))
abbrev mJ15_checkIndex_7cf53 : z_M := (yJ15_checkIndex_7cf53, cJ15_checkIndex_7cf53, 2, (some .int), [])
theorem ncl_J15 : RJ15 ≠ "java/lang/invoke/MethodHandle" ∧ RJ15 ≠ "java/lang/invoke/VarHandle" := ⟨by decide +kernel, by decide +kernel⟩
theorem kJ15_checkIndex_7cf53 : z_okm mJ15_checkIndex_7cf53 2 := ⟨rfl, (z_w 1509 ((lwg_7 24).trans rfl) (by decide +kernel)), (z_w 67 ((lwg_1 22).trans rfl) (by decide +kernel)), ncl_J15, pds_22, by decide⟩
theorem stJ15_checkIndex_7cf53 : Cond.static yJ15_checkIndex_7cf53 ∈ z_tbl := (z_w 1508 ((lwg_7 23).trans rfl) (by decide +kernel))
theorem lJ15_105 : Cond.methodLink RJ15 105 yJ3_checkIndex_8e157 ∈ z_tbl := (z_w 1510 ((lwg_7 25).trans rfl) (by decide +kernel))
theorem iJx35411 : ∀ x ∈ u_ws RJx35411 TJx35411 4, x ∈ z_tbl := z_all [1755, 1757, 1759, 1761] (by decide +kernel) (by decide +kernel)
theorem tJx35411_0 : z_FT 3 0 .int false := ⟨(RJx35411, TJx35411, 4), tyJx35411, rfl, rfl, tyJx35411_ok, rfl, nmJx35411⟩
theorem tJx35411_1 : z_FT 3 1 .int false := ⟨(RJx35411, TJx35411, 4), tyJx35411, rfl, rfl, tyJx35411_ok, rfl, nmJx35411⟩
theorem tJx35411_2 : z_FT 3 2 .int false := ⟨(RJx35411, TJx35411, 4), tyJx35411, rfl, rfl, tyJx35411_ok, rfl, nmJx35411⟩
theorem tJx35411_3 : z_FT 3 3 (.object "java/util/ArrayList") true := ⟨(RJx35411, TJx35411, 4), tyJx35411, rfl, rfl, tyJx35411_ok, rfl, nmJx35411⟩
abbrev mJx35411_init_45d68 : z_M := (yJx35411_init_45d68, cJx35411_init_45d68, 2, none, [])
theorem ncl_Jx35411 : RJx35411 ≠ "java/lang/invoke/MethodHandle" ∧ RJx35411 ≠ "java/lang/invoke/VarHandle" := ⟨by decide +kernel, by decide +kernel⟩
theorem pds_99 : (parseMethodDescriptor "(Ljava/util/ArrayList;)V").map (fun d => d.parameters.length) = some 1 := by decide +kernel
theorem kJx35411_init_45d68 : z_okm mJx35411_init_45d68 1 := ⟨rfl, (z_w 1749 ((lwg_8 24).trans rfl) (by decide +kernel)), (z_w 80 ((lwt_1_1 5).trans rfl) (by decide +kernel)), ncl_Jx35411, pds_99, by decide⟩
theorem inJx35411_init_45d68 : Cond.instanceMethod yJx35411_init_45d68 ∈ z_tbl := (z_w 1748 ((lwg_8 23).trans rfl) (by decide +kernel))
theorem fJx35411_1 : z_F RJx35411 1 3 3 := ⟨(RJx35411, TJx35411, 4), "java/util/ArrayList$Itr", rfl, by decide, iJx35411, Or.inl (z_w 1754 ((lwg_8 29).trans rfl) (by decide +kernel)), Or.inl rfl⟩
-- call Jx35411 7: ('"java/lang/Object"', '"<init>"', '"()V"')
theorem oJx35411_7 : Cond.methodLink RJx35411 7 Lib.objectInit ∈ z_tbl := (z_w 1750 ((lwg_8 25).trans rfl) (by decide +kernel))
theorem fJx35411_13 : z_F RJx35411 13 3 1 := ⟨(RJx35411, TJx35411, 4), "java/util/ArrayList$Itr", rfl, by decide, iJx35411, Or.inl (z_w 1752 ((lwg_8 27).trans rfl) (by decide +kernel)), Or.inl rfl⟩
theorem iJx4a65c : ∀ x ∈ u_ws RJx4a65c TJx4a65c 3, x ∈ z_tbl := z_all [1367, 1363, 1365] (by decide +kernel) (by decide +kernel)
theorem tJx4a65c_0 : z_FT 4 0 .int false := ⟨(RJx4a65c, TJx4a65c, 3), tyJx4a65c, rfl, rfl, tyJx4a65c_ok, rfl, nmJx4a65c⟩
theorem tJx4a65c_1 : z_FT 4 1 (.array (.object "java/lang/Object")) false := ⟨(RJx4a65c, TJx4a65c, 3), tyJx4a65c, rfl, rfl, tyJx4a65c_ok, rfl, nmJx4a65c⟩
theorem tJx4a65c_2 : z_FT 4 2 .int false := ⟨(RJx4a65c, TJx4a65c, 3), tyJx4a65c, rfl, rfl, tyJx4a65c_ok, rfl, nmJx4a65c⟩
theorem fJx35411_17 : z_F RJx35411 17 4 0 := ⟨(RJx4a65c, TJx4a65c, 3), "java/util/ArrayList", rfl, by decide, iJx4a65c, Or.inl (z_w 1360 ((lwt_6_3 25).trans rfl) (by decide +kernel)), Or.inr (z_w 1361 ((lwt_6_3 26).trans rfl) (by decide +kernel))⟩
theorem fJx35411_22 : z_F RJx35411 22 3 2 := ⟨(RJx35411, TJx35411, 4), "java/util/ArrayList$Itr", rfl, by decide, iJx35411, Or.inl (z_w 1753 ((lwg_8 28).trans rfl) (by decide +kernel)), Or.inl rfl⟩
abbrev mJx35411_hasNext_aae02 : z_M := (yJx35411_hasNext_aae02, cJx35411_hasNext_aae02, 1, (some .boolean), [])
theorem kJx35411_hasNext_aae02 : z_okm mJx35411_hasNext_aae02 0 := ⟨rfl, (z_w 1773 ((lwt_8_1 18).trans rfl) (by decide +kernel)), (z_w 80 ((lwt_1_1 5).trans rfl) (by decide +kernel)), ncl_Jx35411, pds_10, by decide⟩
theorem inJx35411_hasNext_aae02 : Cond.instanceMethod yJx35411_hasNext_aae02 ∈ z_tbl := (z_w 1771 ((lwt_8_1 16).trans rfl) (by decide +kernel))
theorem fJx35411_25 : z_F RJx35411 25 3 0 := ⟨(RJx35411, TJx35411, 4), "java/util/ArrayList$Itr", rfl, by decide, iJx35411, Or.inl (z_w 1751 ((lwg_8 26).trans rfl) (by decide +kernel)), Or.inl rfl⟩
theorem fJx35411_28 : z_F RJx35411 28 4 2 := ⟨(RJx4a65c, TJx4a65c, 3), "java/util/ArrayList", rfl, by decide, iJx4a65c, Or.inr ⟨"java/util/ArrayList", (z_wn 1357 ((lwt_6_3 22).trans rfl) (by decide +kernel))⟩, Or.inl rfl⟩
abbrev mJx35411_next_0502b : z_M := (yJx35411_next_0502b, cJx35411_next_0502b, 3, (some (.object "java/lang/Object")), [])
theorem pds_100 : (parseMethodDescriptor "()Ljava/lang/Object;").map (fun d => d.parameters.length) = some 0 := by decide +kernel
theorem kJx35411_next_0502b : z_okm mJx35411_next_0502b 0 := ⟨rfl, (z_w 1782 ((lwt_8_1 27).trans rfl) (by decide +kernel)), (z_w 80 ((lwt_1_1 5).trans rfl) (by decide +kernel)), ncl_Jx35411, pds_100, by decide⟩
theorem inJx35411_next_0502b : Cond.instanceMethod yJx35411_next_0502b ∈ z_tbl := (z_w 1780 ((lwt_8_1 25).trans rfl) (by decide +kernel))
abbrev mJx35411_checkForComodification_da8c8 : z_M := (yJx35411_checkForComodification_da8c8, cJx35411_checkForComodification_da8c8, 1, none, [])
theorem kJx35411_checkForComodification_da8c8 : z_okm mJx35411_checkForComodification_da8c8 0 := ⟨rfl, (z_w 1786 ((lwt_8_2 1).trans rfl) (by decide +kernel)), (z_w 80 ((lwt_1_1 5).trans rfl) (by decide +kernel)), ncl_Jx35411, pds_1, by decide⟩
theorem inJx35411_checkForComodification_da8c8 : Cond.instanceMethod yJx35411_checkForComodification_da8c8 ∈ z_tbl := (z_w 1784 ((lwt_8_1 29).trans rfl) (by decide +kernel))
theorem seJx35411_checkForComodification_da8c8 : Cond.selects RJx35411 yJx35411_checkForComodification_da8c8 yJx35411_checkForComodification_da8c8 ∈ z_tbl := (z_w 1785 ((lwt_8_2 0).trans rfl) (by decide +kernel))
theorem lJx35411_31 : Cond.methodLink RJx35411 31 yJx35411_checkForComodification_da8c8 ∈ z_tbl := (z_w 1783 ((lwt_8_1 28).trans rfl) (by decide +kernel))
theorem fJx35411_37 : z_F RJx35411 37 4 1 := ⟨(RJx4a65c, TJx4a65c, 3), "java/util/ArrayList", rfl, by decide, iJx4a65c, Or.inl (z_w 1356 ((lwt_6_3 21).trans rfl) (by decide +kernel)), Or.inl rfl⟩
abbrev mJx4a65c_init_da8c8 : z_M := (yJx4a65c_init_da8c8, cJx4a65c_init_da8c8, 1, none, [])
theorem ncl_Jx4a65c : RJx4a65c ≠ "java/lang/invoke/MethodHandle" ∧ RJx4a65c ≠ "java/lang/invoke/VarHandle" := ⟨by decide +kernel, by decide +kernel⟩
theorem kJx4a65c_init_da8c8 : z_okm mJx4a65c_init_da8c8 0 := ⟨rfl, (z_w 1345 ((lwt_6_3 10).trans rfl) (by decide +kernel)), (z_w 54 ((lwg_1 9).trans rfl) (by decide +kernel)), ncl_Jx4a65c, pds_1, by decide⟩
theorem inJx4a65c_init_da8c8 : Cond.instanceMethod yJx4a65c_init_da8c8 ∈ z_tbl := (z_w 1344 ((lwt_6_3 9).trans rfl) (by decide +kernel))
abbrev mJxc12de_init_da8c8 : z_M := (yJxc12de_init_da8c8, cJxc12de_init_da8c8, 1, none, [])
theorem ncl_Jxc12de : RJxc12de ≠ "java/lang/invoke/MethodHandle" ∧ RJxc12de ≠ "java/lang/invoke/VarHandle" := ⟨by decide +kernel, by decide +kernel⟩
theorem kJxc12de_init_da8c8 : z_okm mJxc12de_init_da8c8 0 := ⟨rfl, (z_w 1348 ((lwt_6_3 13).trans rfl) (by decide +kernel)), (z_w 53 ((lwg_1 8).trans rfl) (by decide +kernel)), ncl_Jxc12de, pds_1, by decide⟩
theorem inJxc12de_init_da8c8 : Cond.instanceMethod yJxc12de_init_da8c8 ∈ z_tbl := (z_w 1347 ((lwt_6_3 12).trans rfl) (by decide +kernel))
theorem lJx4a65c_1 : Cond.methodLink RJx4a65c 1 yJxc12de_init_da8c8 ∈ z_tbl := (z_w 1346 ((lwt_6_3 11).trans rfl) (by decide +kernel))
theorem fJx4a65c_9 : z_F RJx4a65c 9 4 1 := ⟨(RJx4a65c, TJx4a65c, 3), "java/util/ArrayList", rfl, by decide, iJx4a65c, Or.inl (z_w 1355 ((lwt_6_3 20).trans rfl) (by decide +kernel)), Or.inl rfl⟩
abbrev mJx4a65c_init_4bcb3 : z_M := (yJx4a65c_init_4bcb3, cJx4a65c_init_4bcb3, 3, none, [])
theorem pds_103 : (parseMethodDescriptor "(Ljava/util/Collection;)V").map (fun d => d.parameters.length) = some 1 := by decide +kernel
theorem kJx4a65c_init_4bcb3 : z_okm mJx4a65c_init_4bcb3 1 := ⟨rfl, (z_w 1619 ((lwt_7_4 14).trans rfl) (by decide +kernel)), (z_w 54 ((lwg_1 9).trans rfl) (by decide +kernel)), ncl_Jx4a65c, pds_103, by decide⟩
theorem inJx4a65c_init_4bcb3 : Cond.instanceMethod yJx4a65c_init_4bcb3 ∈ z_tbl := (z_w 1618 ((lwt_7_4 13).trans rfl) (by decide +kernel))
theorem fJx4a65c_48 : z_F RJx4a65c 48 4 2 := ⟨(RJx4a65c, TJx4a65c, 3), "java/util/ArrayList", rfl, by decide, iJx4a65c, Or.inl (z_w 1358 ((lwt_6_3 23).trans rfl) (by decide +kernel)), Or.inl rfl⟩
abbrev mJx4a65c_grow_92f84 : z_M := (yJx4a65c_grow_92f84, cJx4a65c_grow_92f84, 4, (some (.array (.object "java/lang/Object"))), [])
theorem pds_104 : (parseMethodDescriptor "(I)[Ljava/lang/Object;").map (fun d => d.parameters.length) = some 1 := by decide +kernel
theorem kJx4a65c_grow_92f84 : z_okm mJx4a65c_grow_92f84 1 := ⟨rfl, (z_w 1417 ((lwt_6_5 22).trans rfl) (by decide +kernel)), (z_w 54 ((lwg_1 9).trans rfl) (by decide +kernel)), ncl_Jx4a65c, pds_104, by decide⟩
theorem inJx4a65c_grow_92f84 : Cond.instanceMethod yJx4a65c_grow_92f84 ∈ z_tbl := (z_w 1416 ((lwt_6_5 21).trans rfl) (by decide +kernel))
theorem seJx4a65c_grow_92f84 : Cond.selects RJx4a65c yJx4a65c_grow_92f84 yJx4a65c_grow_92f84 ∈ z_tbl := (z_w 23 (by decide +kernel) (by decide +kernel))
theorem lJx4a65c_73 : Cond.methodLink RJx4a65c 73 yJ8_newLength_cabcc ∈ z_tbl := (z_w 1418 ((lwt_6_5 23).trans rfl) (by decide +kernel))
theorem lJx4a65c_66 : Cond.methodLink RJx4a65c 66 yJ7_copyOf_1904c ∈ z_tbl := (z_w 1419 ((lwt_6_5 24).trans rfl) (by decide +kernel))
theorem lJx4a65c_79 : Cond.methodLink RJx4a65c 79 yJ9_max_7cf53 ∈ z_tbl := (z_w 1451 ((lwt_6_6 26).trans rfl) (by decide +kernel))
theorem aJx4a65c_7 : Cond.classLink RJx4a65c 7 "java/lang/Object" ∈ z_tbl := (z_w 1452 ((lwt_6_6 27).trans rfl) (by decide +kernel))
abbrev mJx4a65c_grow_d5877 : z_M := (yJx4a65c_grow_d5877, cJx4a65c_grow_d5877, 1, (some (.array (.object "java/lang/Object"))), [])
theorem pds_105 : (parseMethodDescriptor "()[Ljava/lang/Object;").map (fun d => d.parameters.length) = some 0 := by decide +kernel
theorem kJx4a65c_grow_d5877 : z_okm mJx4a65c_grow_d5877 0 := ⟨rfl, (z_w 1413 ((lwt_6_5 18).trans rfl) (by decide +kernel)), (z_w 54 ((lwg_1 9).trans rfl) (by decide +kernel)), ncl_Jx4a65c, pds_105, by decide⟩
theorem inJx4a65c_grow_d5877 : Cond.instanceMethod yJx4a65c_grow_d5877 ∈ z_tbl := (z_w 1412 ((lwt_6_5 17).trans rfl) (by decide +kernel))
theorem seJx4a65c_grow_d5877 : Cond.selects RJx4a65c yJx4a65c_grow_d5877 yJx4a65c_grow_d5877 ∈ z_tbl := (z_w 22 (by decide +kernel) (by decide +kernel))
theorem lJx4a65c_69 : Cond.methodLink RJx4a65c 69 yJx4a65c_grow_92f84 ∈ z_tbl := (z_w 1414 ((lwt_6_5 19).trans rfl) (by decide +kernel))
abbrev mJx4a65c_size_8abf5 : z_M := (yJx4a65c_size_8abf5, cJx4a65c_size_8abf5, 1, (some .int), [])
theorem kJx4a65c_size_8abf5 : z_okm mJx4a65c_size_8abf5 0 := ⟨rfl, (z_w 1518 ((lwt_7_1 3).trans rfl) (by decide +kernel)), (z_w 54 ((lwg_1 9).trans rfl) (by decide +kernel)), ncl_Jx4a65c, pds_17, by decide⟩
theorem inJx4a65c_size_8abf5 : Cond.instanceMethod yJx4a65c_size_8abf5 ∈ z_tbl := (z_w 1516 ((lwt_7_1 1).trans rfl) (by decide +kernel))
theorem seJx4a65c_size_8abf5 : Cond.selects RJx4a65c yJx4a65c_size_8abf5 yJx4a65c_size_8abf5 ∈ z_tbl := (z_w 1517 ((lwt_7_1 2).trans rfl) (by decide +kernel))
abbrev mJx4a65c_toArray_d5877 : z_M := (yJx4a65c_toArray_d5877, cJx4a65c_toArray_d5877, 1, (some (.array (.object "java/lang/Object"))), [])
theorem kJx4a65c_toArray_d5877 : z_okm mJx4a65c_toArray_d5877 0 := ⟨rfl, (z_w 1629 ((lwt_7_4 24).trans rfl) (by decide +kernel)), (z_w 54 ((lwg_1 9).trans rfl) (by decide +kernel)), ncl_Jx4a65c, pds_105, by decide⟩
theorem inJx4a65c_toArray_d5877 : Cond.instanceMethod yJx4a65c_toArray_d5877 ∈ z_tbl := (z_w 1627 ((lwt_7_4 22).trans rfl) (by decide +kernel))
abbrev mJx4a65c_elementData_915e3 : z_M := (yJx4a65c_elementData_915e3, cJx4a65c_elementData_915e3, 2, (some (.object "java/lang/Object")), [])
theorem pds_106 : (parseMethodDescriptor "(I)Ljava/lang/Object;").map (fun d => d.parameters.length) = some 1 := by decide +kernel
theorem kJx4a65c_elementData_915e3 : z_okm mJx4a65c_elementData_915e3 1 := ⟨rfl, (z_w 1514 ((lwg_7 29).trans rfl) (by decide +kernel)), (z_w 54 ((lwg_1 9).trans rfl) (by decide +kernel)), ncl_Jx4a65c, pds_106, by decide⟩
theorem inJx4a65c_elementData_915e3 : Cond.instanceMethod yJx4a65c_elementData_915e3 ∈ z_tbl := (z_w 1512 ((lwg_7 27).trans rfl) (by decide +kernel))
theorem seJx4a65c_elementData_915e3 : Cond.selects RJx4a65c yJx4a65c_elementData_915e3 yJx4a65c_elementData_915e3 ∈ z_tbl := (z_w 1513 ((lwg_7 28).trans rfl) (by decide +kernel))
abbrev mJx4a65c_get_915e3 : z_M := (yJx4a65c_get_915e3, cJx4a65c_get_915e3, 2, (some (.object "java/lang/Object")), [])
theorem kJx4a65c_get_915e3 : z_okm mJx4a65c_get_915e3 1 := ⟨rfl, (z_w 1506 ((lwg_7 21).trans rfl) (by decide +kernel)), (z_w 54 ((lwg_1 9).trans rfl) (by decide +kernel)), ncl_Jx4a65c, pds_106, by decide⟩
theorem inJx4a65c_get_915e3 : Cond.instanceMethod yJx4a65c_get_915e3 ∈ z_tbl := (z_w 1504 ((lwg_7 19).trans rfl) (by decide +kernel))
theorem seJx4a65c_get_915e3 : Cond.selects RJx4a65c yJx4a65c_get_915e3 yJx4a65c_get_915e3 ∈ z_tbl := (z_w 1505 ((lwg_7 20).trans rfl) (by decide +kernel))
theorem lJx4a65c_118 : Cond.methodLink RJx4a65c 118 yJ15_checkIndex_7cf53 ∈ z_tbl := (z_w 1507 ((lwg_7 22).trans rfl) (by decide +kernel))
theorem lJx4a65c_123 : Cond.methodLink RJx4a65c 123 yJx4a65c_elementData_915e3 ∈ z_tbl := (z_w 1511 ((lwg_7 26).trans rfl) (by decide +kernel))
abbrev mJx4a65c_set_bcc79 : z_M := (yJx4a65c_set_bcc79, cJx4a65c_set_bcc79, 4, (some (.object "java/lang/Object")), [])
theorem pds_107 : (parseMethodDescriptor "(ILjava/lang/Object;)Ljava/lang/Object;").map (fun d => d.parameters.length) = some 2 := by decide +kernel
theorem kJx4a65c_set_bcc79 : z_okm mJx4a65c_set_bcc79 2 := ⟨rfl, (z_w 1611 ((lwt_7_4 6).trans rfl) (by decide +kernel)), (z_w 54 ((lwg_1 9).trans rfl) (by decide +kernel)), ncl_Jx4a65c, pds_107, by decide⟩
theorem inJx4a65c_set_bcc79 : Cond.instanceMethod yJx4a65c_set_bcc79 ∈ z_tbl := (z_w 1609 ((lwt_7_4 4).trans rfl) (by decide +kernel))
theorem seJx4a65c_set_bcc79 : Cond.selects RJx4a65c yJx4a65c_set_bcc79 yJx4a65c_set_bcc79 ∈ z_tbl := (z_w 1610 ((lwt_7_4 5).trans rfl) (by decide +kernel))
abbrev mJx4a65c_add_72be8 : z_M := (yJx4a65c_add_72be8, cJx4a65c_add_72be8, 4, none, [])
theorem pds_108 : (parseMethodDescriptor "(Ljava/lang/Object;[Ljava/lang/Object;I)V").map (fun d => d.parameters.length) = some 3 := by decide +kernel
theorem kJx4a65c_add_72be8 : z_okm mJx4a65c_add_72be8 3 := ⟨rfl, (z_w 1409 ((lwt_6_5 14).trans rfl) (by decide +kernel)), (z_w 54 ((lwg_1 9).trans rfl) (by decide +kernel)), ncl_Jx4a65c, pds_108, by decide⟩
theorem inJx4a65c_add_72be8 : Cond.instanceMethod yJx4a65c_add_72be8 ∈ z_tbl := (z_w 1408 ((lwt_6_5 13).trans rfl) (by decide +kernel))
theorem seJx4a65c_add_72be8 : Cond.selects RJx4a65c yJx4a65c_add_72be8 yJx4a65c_add_72be8 ∈ z_tbl := (z_w 21 (by decide +kernel) (by decide +kernel))
theorem lJx4a65c_129 : Cond.methodLink RJx4a65c 129 yJx4a65c_grow_d5877 ∈ z_tbl := (z_w 1410 ((lwt_6_5 15).trans rfl) (by decide +kernel))
abbrev mJx4a65c_add_9ea2d : z_M := (yJx4a65c_add_9ea2d, cJx4a65c_add_9ea2d, 2, (some .boolean), [])
theorem pds_109 : (parseMethodDescriptor "(Ljava/lang/Object;)Z").map (fun d => d.parameters.length) = some 1 := by decide +kernel
theorem kJx4a65c_add_9ea2d : z_okm mJx4a65c_add_9ea2d 1 := ⟨rfl, (z_w 1405 ((lwt_6_5 10).trans rfl) (by decide +kernel)), (z_w 54 ((lwg_1 9).trans rfl) (by decide +kernel)), ncl_Jx4a65c, pds_109, by decide⟩
theorem inJx4a65c_add_9ea2d : Cond.instanceMethod yJx4a65c_add_9ea2d ∈ z_tbl := (z_w 1403 ((lwt_6_5 8).trans rfl) (by decide +kernel))
theorem seJx4a65c_add_9ea2d : Cond.selects RJx4a65c yJx4a65c_add_9ea2d yJx4a65c_add_9ea2d ∈ z_tbl := (z_w 1404 ((lwt_6_5 9).trans rfl) (by decide +kernel))
theorem fJx4a65c_63 : z_F RJx4a65c 63 4 0 := ⟨(RJx4a65c, TJx4a65c, 3), "java/util/ArrayList", rfl, by decide, iJx4a65c, Or.inl (z_w 1362 ((lwt_6_3 27).trans rfl) (by decide +kernel)), Or.inr (z_w 1361 ((lwt_6_3 26).trans rfl) (by decide +kernel))⟩
theorem lJx4a65c_131 : Cond.methodLink RJx4a65c 131 yJx4a65c_add_72be8 ∈ z_tbl := (z_w 1406 ((lwt_6_5 11).trans rfl) (by decide +kernel))
abbrev mJx4a65c_add_7a177 : z_M := (yJx4a65c_add_7a177, cJx4a65c_add_7a177, 5, none, [])
theorem pds_110 : (parseMethodDescriptor "(ILjava/lang/Object;)V").map (fun d => d.parameters.length) = some 2 := by decide +kernel
theorem kJx4a65c_add_7a177 : z_okm mJx4a65c_add_7a177 2 := ⟨rfl, (z_w 1671 ((lwt_7_6 6).trans rfl) (by decide +kernel)), (z_w 54 ((lwg_1 9).trans rfl) (by decide +kernel)), ncl_Jx4a65c, pds_110, by decide⟩
theorem inJx4a65c_add_7a177 : Cond.instanceMethod yJx4a65c_add_7a177 ∈ z_tbl := (z_w 1669 ((lwt_7_6 4).trans rfl) (by decide +kernel))
theorem seJx4a65c_add_7a177 : Cond.selects RJx4a65c yJx4a65c_add_7a177 yJx4a65c_add_7a177 ∈ z_tbl := (z_w 1670 ((lwt_7_6 5).trans rfl) (by decide +kernel))
abbrev mJx4a65c_rangeCheckForAdd_d00df : z_M := (yJx4a65c_rangeCheckForAdd_d00df, cJx4a65c_rangeCheckForAdd_d00df, 2, none, [])
theorem kJx4a65c_rangeCheckForAdd_d00df : z_okm mJx4a65c_rangeCheckForAdd_d00df 1 := ⟨rfl, (z_w 1675 ((lwt_7_6 10).trans rfl) (by decide +kernel)), (z_w 54 ((lwg_1 9).trans rfl) (by decide +kernel)), ncl_Jx4a65c, pds_3, by decide⟩
theorem inJx4a65c_rangeCheckForAdd_d00df : Cond.instanceMethod yJx4a65c_rangeCheckForAdd_d00df ∈ z_tbl := (z_w 1674 ((lwt_7_6 9).trans rfl) (by decide +kernel))
theorem seJx4a65c_rangeCheckForAdd_d00df : Cond.selects RJx4a65c yJx4a65c_rangeCheckForAdd_d00df yJx4a65c_rangeCheckForAdd_d00df ∈ z_tbl := (z_w 34 (by decide +kernel) (by decide +kernel))
theorem lJx4a65c_135 : Cond.methodLink RJx4a65c 135 yJx4a65c_rangeCheckForAdd_d00df ∈ z_tbl := (z_w 1672 ((lwt_7_6 7).trans rfl) (by decide +kernel))
-- call Jx4a65c 112: ('"java/lang/System"', '"arraycopy"', '"(Ljava/lang/Object;ILjava/lang/Object;II)V"')
theorem lJx4a65c_112 : Cond.methodLink RJx4a65c 112 ⟨"java/lang/System", "arraycopy", "(Ljava/lang/Object;ILjava/lang/Object;II)V"⟩ ∈ z_tbl := (z_w 1551 ((lwt_7_2 6).trans rfl) (by decide +kernel))
abbrev mJx4a65c_remove_915e3 : z_M := (yJx4a65c_remove_915e3, cJx4a65c_remove_915e3, 4, (some (.object "java/lang/Object")), [])
theorem kJx4a65c_remove_915e3 : z_okm mJx4a65c_remove_915e3 1 := ⟨rfl, (z_w 1546 ((lwt_7_2 1).trans rfl) (by decide +kernel)), (z_w 54 ((lwg_1 9).trans rfl) (by decide +kernel)), ncl_Jx4a65c, pds_106, by decide⟩
theorem inJx4a65c_remove_915e3 : Cond.instanceMethod yJx4a65c_remove_915e3 ∈ z_tbl := (z_w 1544 ((lwt_7_1 29).trans rfl) (by decide +kernel))
theorem seJx4a65c_remove_915e3 : Cond.selects RJx4a65c yJx4a65c_remove_915e3 yJx4a65c_remove_915e3 ∈ z_tbl := (z_w 1545 ((lwt_7_2 0).trans rfl) (by decide +kernel))
abbrev mJx4a65c_fastRemove_b59b0 : z_M := (yJx4a65c_fastRemove_b59b0, cJx4a65c_fastRemove_b59b0, 4, none, [])
theorem pds_111 : (parseMethodDescriptor "([Ljava/lang/Object;I)V").map (fun d => d.parameters.length) = some 2 := by decide +kernel
theorem kJx4a65c_fastRemove_b59b0 : z_okm mJx4a65c_fastRemove_b59b0 2 := ⟨rfl, (z_w 1550 ((lwt_7_2 5).trans rfl) (by decide +kernel)), (z_w 54 ((lwg_1 9).trans rfl) (by decide +kernel)), ncl_Jx4a65c, pds_111, by decide⟩
theorem inJx4a65c_fastRemove_b59b0 : Cond.instanceMethod yJx4a65c_fastRemove_b59b0 ∈ z_tbl := (z_w 1549 ((lwt_7_2 4).trans rfl) (by decide +kernel))
theorem seJx4a65c_fastRemove_b59b0 : Cond.selects RJx4a65c yJx4a65c_fastRemove_b59b0 yJx4a65c_fastRemove_b59b0 ∈ z_tbl := (z_w 26 (by decide +kernel) (by decide +kernel))
theorem lJx4a65c_144 : Cond.methodLink RJx4a65c 144 yJx4a65c_fastRemove_b59b0 ∈ z_tbl := (z_w 1547 ((lwt_7_2 2).trans rfl) (by decide +kernel))
abbrev mJx4a65c_clear_da8c8 : z_M := (yJx4a65c_clear_da8c8, cJx4a65c_clear_da8c8, 4, none, [])
theorem kJx4a65c_clear_da8c8 : z_okm mJx4a65c_clear_da8c8 0 := ⟨rfl, (z_w 1798 ((lwt_8_2 13).trans rfl) (by decide +kernel)), (z_w 54 ((lwg_1 9).trans rfl) (by decide +kernel)), ncl_Jx4a65c, pds_1, by decide⟩
theorem inJx4a65c_clear_da8c8 : Cond.instanceMethod yJx4a65c_clear_da8c8 ∈ z_tbl := (z_w 1796 ((lwt_8_2 11).trans rfl) (by decide +kernel))
theorem seJx4a65c_clear_da8c8 : Cond.selects RJx4a65c yJx4a65c_clear_da8c8 yJx4a65c_clear_da8c8 ∈ z_tbl := (z_w 1797 ((lwt_8_2 12).trans rfl) (by decide +kernel))
-- call Jx4a65c 193: ('"java/lang/IndexOutOfBoundsException"', '"<init>"', '"(Ljava/lang/String;)V"')
abbrev mJx4a65c_iterator_32c93 : z_M := (yJx4a65c_iterator_32c93, cJx4a65c_iterator_32c93, 1, (some (.object "java/util/Iterator")), [])
theorem pds_112 : (parseMethodDescriptor "()Ljava/util/Iterator;").map (fun d => d.parameters.length) = some 0 := by decide +kernel
theorem kJx4a65c_iterator_32c93 : z_okm mJx4a65c_iterator_32c93 0 := ⟨rfl, (z_w 1744 ((lwg_8 19).trans rfl) (by decide +kernel)), (z_w 54 ((lwg_1 9).trans rfl) (by decide +kernel)), ncl_Jx4a65c, pds_112, by decide⟩
theorem inJx4a65c_iterator_32c93 : Cond.instanceMethod yJx4a65c_iterator_32c93 ∈ z_tbl := (z_w 1742 ((lwg_8 17).trans rfl) (by decide +kernel))
theorem seJx4a65c_iterator_32c93 : Cond.selects RJx4a65c yJx4a65c_iterator_32c93 yJx4a65c_iterator_32c93 ∈ z_tbl := (z_w 1743 ((lwg_8 18).trans rfl) (by decide +kernel))
theorem nJx4a65c_267 : z_N RJx4a65c 267 3 [.int 0, .int 0, .int 0, .null] := ⟨(RJx35411, TJx35411, 4), tyJx35411, rfl, iJx35411, (z_w 1745 ((lwg_8 20).trans rfl) (by decide +kernel)), (z_w 1746 ((lwg_8 21).trans rfl) (by decide +kernel)), (z_w 80 ((lwt_1_1 5).trans rfl) (by decide +kernel)), tyJx35411_ok, rfl, by decide, rfl⟩
theorem lJx4a65c_269 : Cond.methodLink RJx4a65c 269 yJx35411_init_45d68 ∈ z_tbl := (z_w 1747 ((lwg_8 22).trans rfl) (by decide +kernel))
abbrev mJxa1e45_init_da8c8 : z_M := (yJxa1e45_init_da8c8, cJxa1e45_init_da8c8, 1, none, [])
theorem ncl_Jxa1e45 : RJxa1e45 ≠ "java/lang/invoke/MethodHandle" ∧ RJxa1e45 ≠ "java/lang/invoke/VarHandle" := ⟨by decide +kernel, by decide +kernel⟩
theorem kJxa1e45_init_da8c8 : z_okm mJxa1e45_init_da8c8 0 := ⟨rfl, (z_w 1351 ((lwt_6_3 16).trans rfl) (by decide +kernel)), (z_w 52 ((lwg_1 7).trans rfl) (by decide +kernel)), ncl_Jxa1e45, pds_1, by decide⟩
theorem inJxa1e45_init_da8c8 : Cond.instanceMethod yJxa1e45_init_da8c8 ∈ z_tbl := (z_w 1350 ((lwt_6_3 15).trans rfl) (by decide +kernel))
-- call Jxa1e45 1: ('"java/lang/Object"', '"<init>"', '"()V"')
theorem oJxa1e45_1 : Cond.methodLink RJxa1e45 1 Lib.objectInit ∈ z_tbl := (z_w 1352 ((lwt_6_3 17).trans rfl) (by decide +kernel))
theorem lJxc12de_1 : Cond.methodLink RJxc12de 1 yJxa1e45_init_da8c8 ∈ z_tbl := (z_w 1349 ((lwt_6_3 14).trans rfl) (by decide +kernel))
theorem fJxc12de_7 : z_F RJxc12de 7 4 0 := ⟨(RJx4a65c, TJx4a65c, 3), "java/util/AbstractList", rfl, by decide, iJx4a65c, Or.inl (z_w 1359 ((lwt_6_3 24).trans rfl) (by decide +kernel)), Or.inl rfl⟩
-- call Jxd2413 1: ('"java/lang/Object"', '"<init>"', '"()V"')
theorem oJxd2413_1 : Cond.methodLink RJxd2413 1 Lib.objectInit ∈ z_tbl := (z_w 1534 ((lwt_7_1 19).trans rfl) (by decide +kernel))
theorem iX9 : ∀ x ∈ u_ws RX9 TX9 2, x ∈ z_tbl := z_all [839, 841] (by decide +kernel) (by decide +kernel)
theorem tX9_0 : z_FT 13 0 .long false := ⟨(RX9, TX9, 2), tyX9, rfl, rfl, tyX9_ok, rfl, nmX9⟩
theorem tX9_1 : z_FT 13 1 (.object "java/lang/String") false := ⟨(RX9, TX9, 2), tyX9, rfl, rfl, tyX9_ok, rfl, nmX9⟩
abbrev mX9_init : z_M := (yX9_init, cX9_init, 1, none, [])
theorem ncl_X9 : RX9 ≠ "java/lang/invoke/MethodHandle" ∧ RX9 ≠ "java/lang/invoke/VarHandle" := ⟨by decide +kernel, by decide +kernel⟩
theorem kX9_init : z_okm mX9_init 0 := ⟨rfl, (z_w 835 ((lwt_4_2 10).trans rfl) (by decide +kernel)), (z_w 60 ((lwg_1 15).trans rfl) (by decide +kernel)), ncl_X9, pds_1, by decide⟩
theorem inX9_init : Cond.instanceMethod yX9_init ∈ z_tbl := (z_w 834 ((lwt_4_2 9).trans rfl) (by decide +kernel))
-- call X9 1: ('"java/lang/Object"', '"<init>"', '"()V"')
theorem oX9_1 : Cond.methodLink RX9 1 Lib.objectInit ∈ z_tbl := (z_w 836 ((lwt_4_2 11).trans rfl) (by decide +kernel))
theorem iX10 : ∀ x ∈ u_ws RX10 TX10 5, x ∈ z_tbl := z_all [1390, 1392, 1394, 1396, 1398] (by decide +kernel) (by decide +kernel)
theorem tX10_0 : z_FT 14 0 .int false := ⟨(RX10, TX10, 5), tyX10, rfl, rfl, tyX10_ok, rfl, nmX10⟩
theorem tX10_1 : z_FT 14 1 .int false := ⟨(RX10, TX10, 5), tyX10, rfl, rfl, tyX10_ok, rfl, nmX10⟩
theorem tX10_2 : z_FT 14 2 .int false := ⟨(RX10, TX10, 5), tyX10, rfl, rfl, tyX10_ok, rfl, nmX10⟩
theorem tX10_3 : z_FT 14 3 .int false := ⟨(RX10, TX10, 5), tyX10, rfl, rfl, tyX10_ok, rfl, nmX10⟩
theorem tX10_4 : z_FT 14 4 (.object "java/util/ArrayList") true := ⟨(RX10, TX10, 5), tyX10, rfl, rfl, tyX10_ok, rfl, nmX10⟩
abbrev mX10_init : z_M := (yX10_init, cX10_init, 1, none, [])
theorem ncl_X10 : RX10 ≠ "java/lang/invoke/MethodHandle" ∧ RX10 ≠ "java/lang/invoke/VarHandle" := ⟨by decide +kernel, by decide +kernel⟩
theorem kX10_init : z_okm mX10_init 0 := ⟨rfl, (z_w 1377 ((lwt_6_4 12).trans rfl) (by decide +kernel)), (z_w 55 ((lwg_1 10).trans rfl) (by decide +kernel)), ncl_X10, pds_1, by decide⟩
theorem inX10_init : Cond.instanceMethod yX10_init ∈ z_tbl := (z_w 1376 ((lwt_6_4 11).trans rfl) (by decide +kernel))
-- call X10 3: ('"java/lang/Object"', '"<init>"', '"()V"')
theorem oX10_3 : Cond.methodLink RX10 3 Lib.objectInit ∈ z_tbl := (z_w 1378 ((lwt_6_4 13).trans rfl) (by decide +kernel))
theorem fX10_9 : z_F RX10 9 14 0 := ⟨(RX10, TX10, 5), "LoopdefaultsModel$Hearer", rfl, by decide, iX10, Or.inl (z_w 1381 ((lwt_6_4 16).trans rfl) (by decide +kernel)), Or.inl rfl⟩
theorem fX10_15 : z_F RX10 15 14 3 := ⟨(RX10, TX10, 5), "LoopdefaultsModel$Hearer", rfl, by decide, iX10, Or.inl (z_w 1387 ((lwt_6_4 22).trans rfl) (by decide +kernel)), Or.inl rfl⟩
theorem nX10_18 : z_N RX10 18 4 [.int 0, .null, .int 0] := ⟨(RJx4a65c, TJx4a65c, 3), tyJx4a65c, rfl, iJx4a65c, (z_w 1379 ((lwt_6_4 14).trans rfl) (by decide +kernel)), (z_w 1342 ((lwt_6_3 7).trans rfl) (by decide +kernel)), (z_w 54 ((lwg_1 9).trans rfl) (by decide +kernel)), tyJx4a65c_ok, rfl, by decide, rfl⟩
theorem lX10_20 : Cond.methodLink RX10 20 yJx4a65c_init_da8c8 ∈ z_tbl := (z_w 1380 ((lwt_6_4 15).trans rfl) (by decide +kernel))
theorem fX10_21 : z_F RX10 21 14 4 := ⟨(RX10, TX10, 5), "LoopdefaultsModel$Hearer", rfl, by decide, iX10, Or.inl (z_w 1389 ((lwt_6_4 24).trans rfl) (by decide +kernel)), Or.inl rfl⟩
abbrev mX10_refuses : z_M := (yX10_refuses, cX10_refuses, 2, (some .boolean), [])
theorem kX10_refuses : z_okm mX10_refuses 1 := ⟨rfl, (z_w 1575 ((lwt_7_3 0).trans rfl) (by decide +kernel)), (z_w 55 ((lwg_1 10).trans rfl) (by decide +kernel)), ncl_X10, pds_2, by decide⟩
theorem inX10_refuses : Cond.instanceMethod yX10_refuses ∈ z_tbl := (z_w 1574 ((lwt_7_2 29).trans rfl) (by decide +kernel))
theorem seX10_refuses : Cond.selects RX10 yX10_refuses yX10_refuses ∈ z_tbl := (z_w 28 (by decide +kernel) (by decide +kernel))
theorem fX10_25 : z_F RX10 25 14 1 := ⟨(RX10, TX10, 5), "LoopdefaultsModel$Hearer", rfl, by decide, iX10, Or.inl (z_w 1383 ((lwt_6_4 18).trans rfl) (by decide +kernel)), Or.inl rfl⟩
theorem fX10_28 : z_F RX10 28 14 2 := ⟨(RX10, TX10, 5), "LoopdefaultsModel$Hearer", rfl, by decide, iX10, Or.inl (z_w 1385 ((lwt_6_4 20).trans rfl) (by decide +kernel)), Or.inl rfl⟩
theorem lX10_31 : Cond.methodLink RX10 31 yJ6_valueOf_2dffe ∈ z_tbl := (z_w 1576 ((lwt_7_3 1).trans rfl) (by decide +kernel))
theorem lX10_37 : Cond.methodLink RX10 37 yJx4a65c_add_9ea2d ∈ z_tbl := (z_w 1577 ((lwt_7_3 2).trans rfl) (by decide +kernel))
theorem lX10_41 : Cond.methodLink RX10 41 yJx4a65c_size_8abf5 ∈ z_tbl := (z_w 1578 ((lwt_7_3 3).trans rfl) (by decide +kernel))
theorem lX10_45 : Cond.methodLink RX10 45 yJx4a65c_remove_915e3 ∈ z_tbl := (z_w 1579 ((lwt_7_3 4).trans rfl) (by decide +kernel))
abbrev mX10_forget : z_M := (yX10_forget, cX10_forget, 1, none, [])
theorem kX10_forget : z_okm mX10_forget 0 := ⟨rfl, (z_w 1833 ((lwt_8_3 18).trans rfl) (by decide +kernel)), (z_w 55 ((lwg_1 10).trans rfl) (by decide +kernel)), ncl_X10, pds_1, by decide⟩
theorem inX10_forget : Cond.instanceMethod yX10_forget ∈ z_tbl := (z_w 1832 ((lwt_8_3 17).trans rfl) (by decide +kernel))
theorem seX10_forget : Cond.selects RX10 yX10_forget yX10_forget ∈ z_tbl := (z_w 40 (by decide +kernel) (by decide +kernel))
theorem lX10_49 : Cond.methodLink RX10 49 yJx4a65c_clear_da8c8 ∈ z_tbl := (z_w 1834 ((lwt_8_3 19).trans rfl) (by decide +kernel))
abbrev mX10_text : z_M := (yX10_text, cX10_text, 4, (some (.object "java/lang/String")), [])
theorem kX10_text : z_okm mX10_text 0 := ⟨rfl, (z_w 1851 ((lwt_8_4 6).trans rfl) (by decide +kernel)), (z_w 55 ((lwg_1 10).trans rfl) (by decide +kernel)), ncl_X10, pds_5, by decide⟩
theorem inX10_text : Cond.instanceMethod yX10_text ∈ z_tbl := (z_w 1850 ((lwt_8_4 5).trans rfl) (by decide +kernel))
theorem seX10_text : Cond.selects RX10 yX10_text yX10_text ∈ z_tbl := (z_w 42 (by decide +kernel) (by decide +kernel))
theorem nX10_52 : z_N RX10 52 1 [.null, .int 0, .int 0, .int 0] := ⟨(RJ4, TJ4, 4), tyJ4, rfl, iJ4, (z_w 1852 ((lwt_8_4 7).trans rfl) (by decide +kernel)), (z_w 565 ((lwt_3_1 10).trans rfl) (by decide +kernel)), (z_w 75 ((lwt_1_1 0).trans rfl) (by decide +kernel)), tyJ4_ok, rfl, by decide, rfl⟩
theorem lX10_54 : Cond.methodLink RX10 54 yJ4_init_da8c8 ∈ z_tbl := (z_w 1853 ((lwt_8_4 8).trans rfl) (by decide +kernel))
theorem lX10_55 : Cond.methodLink RX10 55 yJx4a65c_iterator_32c93 ∈ z_tbl := (z_w 1854 ((lwt_8_4 9).trans rfl) (by decide +kernel))
theorem lX10_69 : Cond.methodLink RX10 69 yJ6_intValue_8abf5 ∈ z_tbl := (z_w 1860 ((lwt_8_4 15).trans rfl) (by decide +kernel))
theorem lX10_72 : Cond.methodLink RX10 72 yJ4_length_8abf5 ∈ z_tbl := (z_w 1861 ((lwt_8_4 16).trans rfl) (by decide +kernel))
theorem lX10_79 : Cond.methodLink RX10 79 yJ4_append_15ec4 ∈ z_tbl := (z_w 1864 ((lwt_8_4 19).trans rfl) (by decide +kernel))
theorem lX10_83 : Cond.methodLink RX10 83 yJ4_append_bf812 ∈ z_tbl := (z_w 1865 ((lwt_8_4 20).trans rfl) (by decide +kernel))
theorem lX10_86 : Cond.methodLink RX10 86 yJ4_toString_0e30d ∈ z_tbl := (z_w 1866 ((lwt_8_4 21).trans rfl) (by decide +kernel))
theorem iX11 : ∀ x ∈ u_ws RX11 TX11 8, x ∈ z_tbl := z_all [1461, 1463, 1465, 1467, 1469, 1471, 1473, 1475] (by decide +kernel) (by decide +kernel)
theorem tX11_0 : z_FT 15 0 .int false := ⟨(RX11, TX11, 8), tyX11, rfl, rfl, tyX11_ok, rfl, nmX11⟩
theorem tX11_1 : z_FT 15 1 (.object "java/util/ArrayList") true := ⟨(RX11, TX11, 8), tyX11, rfl, rfl, tyX11_ok, rfl, nmX11⟩
theorem tX11_2 : z_FT 15 2 (.array .boolean) true := ⟨(RX11, TX11, 8), tyX11, rfl, rfl, tyX11_ok, rfl, nmX11⟩
theorem tX11_3 : z_FT 15 3 (.array (.array .int)) true := ⟨(RX11, TX11, 8), tyX11, rfl, rfl, tyX11_ok, rfl, nmX11⟩
theorem tX11_4 : z_FT 15 4 (.object "java/util/ArrayList") true := ⟨(RX11, TX11, 8), tyX11, rfl, rfl, tyX11_ok, rfl, nmX11⟩
theorem tX11_5 : z_FT 15 5 (.array (.object "LoopdefaultsModel$Hearer")) true := ⟨(RX11, TX11, 8), tyX11, rfl, rfl, tyX11_ok, rfl, nmX11⟩
theorem tX11_6 : z_FT 15 6 .int false := ⟨(RX11, TX11, 8), tyX11, rfl, rfl, tyX11_ok, rfl, nmX11⟩
theorem tX11_7 : z_FT 15 7 .int false := ⟨(RX11, TX11, 8), tyX11, rfl, rfl, tyX11_ok, rfl, nmX11⟩
abbrev mX11_isIn : z_M := (yX11_isIn, cX11_isIn, 3, (some .boolean), [])
theorem ncl_X11 : RX11 ≠ "java/lang/invoke/MethodHandle" ∧ RX11 ≠ "java/lang/invoke/VarHandle" := ⟨by decide +kernel, by decide +kernel⟩
theorem kX11_isIn : z_okm mX11_isIn 3 := ⟨rfl, (z_w 1491 ((lwg_7 6).trans rfl) (by decide +kernel)), (z_w 51 ((lwg_1 6).trans rfl) (by decide +kernel)), ncl_X11, pds_41, by decide⟩
theorem stX11_isIn : Cond.static yX11_isIn ∈ z_tbl := (z_w 1490 ((lwg_7 5).trans rfl) (by decide +kernel))
abbrev mX11_one : z_M := (yX11_one, cX11_one, 1, (some .int), [])
theorem kX11_one : z_okm mX11_one 1 := ⟨rfl, (z_w 1558 ((lwt_7_2 13).trans rfl) (by decide +kernel)), (z_w 51 ((lwg_1 6).trans rfl) (by decide +kernel)), ncl_X11, pds_33, by decide⟩
theorem stX11_one : Cond.static yX11_one ∈ z_tbl := (z_w 1557 ((lwt_7_2 12).trans rfl) (by decide +kernel))
abbrev mX11_bounded : z_M := (yX11_bounded, cX11_bounded, 1, (some .int), [])
theorem kX11_bounded : z_okm mX11_bounded 1 := ⟨rfl, (z_w 1605 ((lwt_7_4 0).trans rfl) (by decide +kernel)), (z_w 51 ((lwg_1 6).trans rfl) (by decide +kernel)), ncl_X11, pds_4, by decide⟩
theorem stX11_bounded : Cond.static yX11_bounded ∈ z_tbl := (z_w 1604 ((lwt_7_3 29).trans rfl) (by decide +kernel))
abbrev mX11_init : z_M := (yX11_init, cX11_init, 2, none, [])
theorem kX11_init : z_okm mX11_init 0 := ⟨rfl, (z_w 1339 ((lwt_6_3 4).trans rfl) (by decide +kernel)), (z_w 51 ((lwg_1 6).trans rfl) (by decide +kernel)), ncl_X11, pds_1, by decide⟩
theorem inX11_init : Cond.instanceMethod yX11_init ∈ z_tbl := (z_w 1338 ((lwt_6_3 3).trans rfl) (by decide +kernel))
-- call X11 12: ('"java/lang/Object"', '"<init>"', '"()V"')
theorem oX11_12 : Cond.methodLink RX11 12 Lib.objectInit ∈ z_tbl := (z_w 1340 ((lwt_6_3 5).trans rfl) (by decide +kernel))
theorem nX11_18 : z_N RX11 18 4 [.int 0, .null, .int 0] := ⟨(RJx4a65c, TJx4a65c, 3), tyJx4a65c, rfl, iJx4a65c, (z_w 1341 ((lwt_6_3 6).trans rfl) (by decide +kernel)), (z_w 1342 ((lwt_6_3 7).trans rfl) (by decide +kernel)), (z_w 54 ((lwg_1 9).trans rfl) (by decide +kernel)), tyJx4a65c_ok, rfl, by decide, rfl⟩
theorem lX11_20 : Cond.methodLink RX11 20 yJx4a65c_init_da8c8 ∈ z_tbl := (z_w 1343 ((lwt_6_3 8).trans rfl) (by decide +kernel))
theorem fX11_21 : z_F RX11 21 15 1 := ⟨(RX11, TX11, 8), "LoopdefaultsModel", rfl, by decide, iX11, Or.inl (z_w 1454 ((lwt_6_6 29).trans rfl) (by decide +kernel)), Or.inl rfl⟩
theorem fX11_25 : z_F RX11 25 15 2 := ⟨(RX11, TX11, 8), "LoopdefaultsModel", rfl, by decide, iX11, Or.inl (z_w 1455 ((lwt_6_7 0).trans rfl) (by decide +kernel)), Or.inl rfl⟩
theorem fX11_31 : z_F RX11 31 15 3 := ⟨(RX11, TX11, 8), "LoopdefaultsModel", rfl, by decide, iX11, Or.inl (z_w 1456 ((lwt_6_7 1).trans rfl) (by decide +kernel)), Or.inl rfl⟩
theorem fX11_34 : z_F RX11 34 15 4 := ⟨(RX11, TX11, 8), "LoopdefaultsModel", rfl, by decide, iX11, Or.inl (z_w 1457 ((lwt_6_7 2).trans rfl) (by decide +kernel)), Or.inl rfl⟩
theorem aX11_37 : Cond.classLink RX11 37 "LoopdefaultsModel$Hearer" ∈ z_tbl := (z_w 1372 ((lwt_6_4 7).trans rfl) (by decide +kernel))
theorem ao_X10 : Cond.arrayOver (.object "LoopdefaultsModel$Hearer") ∈ z_nst := (z_wn 1373 ((lwt_6_4 8).trans rfl) (by decide +kernel))
theorem nX11_37 : z_N RX11 37 14 [.int 0, .int 0, .int 0, .int 0, .null] := ⟨(RX10, TX10, 5), tyX10, rfl, iX10, (z_w 1372 ((lwt_6_4 7).trans rfl) (by decide +kernel)), (z_w 1374 ((lwt_6_4 9).trans rfl) (by decide +kernel)), (z_w 55 ((lwg_1 10).trans rfl) (by decide +kernel)), tyX10_ok, rfl, by decide, rfl⟩
theorem lX11_39 : Cond.methodLinkNest RX11 39 yX10_init "LoopdefaultsModel" ∈ z_nst := (z_wn 1375 ((lwt_6_4 10).trans rfl) (by decide +kernel))
theorem fX11_40 : z_F RX11 40 15 5 := ⟨(RX11, TX11, 8), "LoopdefaultsModel", rfl, by decide, iX11, Or.inl (z_w 1458 ((lwt_6_7 3).trans rfl) (by decide +kernel)), Or.inl rfl⟩
theorem lX11_44 : Cond.methodLink RX11 44 yJx4a65c_add_9ea2d ∈ z_tbl := (z_w 1402 ((lwt_6_5 7).trans rfl) (by decide +kernel))
abbrev mX11_refuse : z_M := (yX11_refuse, cX11_refuse, 3, (some .boolean), [])
theorem pds_117 : (parseMethodDescriptor "(ZI)Z").map (fun d => d.parameters.length) = some 2 := by decide +kernel
theorem kX11_refuse : z_okm mX11_refuse 2 := ⟨rfl, (z_w 1499 ((lwg_7 14).trans rfl) (by decide +kernel)), (z_w 51 ((lwg_1 6).trans rfl) (by decide +kernel)), ncl_X11, pds_117, by decide⟩
theorem inX11_refuse : Cond.instanceMethod yX11_refuse ∈ z_tbl := (z_w 1498 ((lwg_7 13).trans rfl) (by decide +kernel))
theorem seX11_refuse : Cond.selects RX11 yX11_refuse yX11_refuse ∈ z_tbl := (z_w 25 (by decide +kernel) (by decide +kernel))
theorem fX11_48 : z_F RX11 48 15 0 := ⟨(RX11, TX11, 8), "LoopdefaultsModel", rfl, by decide, iX11, Or.inl (z_w 1453 ((lwt_6_6 28).trans rfl) (by decide +kernel)), Or.inl rfl⟩
abbrev mX11_start : z_M := (yX11_start, cX11_start, 3, (some .boolean), [])
theorem kX11_start : z_okm mX11_start 2 := ⟨rfl, (z_w 1495 ((lwg_7 10).trans rfl) (by decide +kernel)), (z_w 51 ((lwg_1 6).trans rfl) (by decide +kernel)), ncl_X11, pds_117, by decide⟩
theorem inX11_start : Cond.instanceMethod yX11_start ∈ z_tbl := (z_w 1494 ((lwg_7 9).trans rfl) (by decide +kernel))
theorem seX11_start : Cond.selects RX11 yX11_start yX11_start ∈ z_tbl := (z_w 24 (by decide +kernel) (by decide +kernel))
theorem lX11_52 : Cond.methodLink RX11 52 yX11_refuse ∈ z_tbl := (z_w 1496 ((lwg_7 11).trans rfl) (by decide +kernel))
abbrev mX11_nine : z_M := (yX11_nine, cX11_nine, 1, (some .int), [])
theorem kX11_nine : z_okm mX11_nine 0 := ⟨rfl, (z_w 1583 ((lwt_7_3 8).trans rfl) (by decide +kernel)), (z_w 51 ((lwg_1 6).trans rfl) (by decide +kernel)), ncl_X11, pds_17, by decide⟩
theorem inX11_nine : Cond.instanceMethod yX11_nine ∈ z_tbl := (z_w 1582 ((lwt_7_3 7).trans rfl) (by decide +kernel))
theorem seX11_nine : Cond.selects RX11 yX11_nine yX11_nine ∈ z_tbl := (z_w 29 (by decide +kernel) (by decide +kernel))
theorem fX11_56 : z_F RX11 56 15 6 := ⟨(RX11, TX11, 8), "LoopdefaultsModel", rfl, by decide, iX11, Or.inl (z_w 1459 ((lwt_6_7 4).trans rfl) (by decide +kernel)), Or.inl rfl⟩
abbrev mX11_isNoTwo : z_M := (yX11_isNoTwo, cX11_isNoTwo, 1, (some .boolean), [])
theorem kX11_isNoTwo : z_okm mX11_isNoTwo 1 := ⟨rfl, (z_w 1488 ((lwg_7 3).trans rfl) (by decide +kernel)), (z_w 51 ((lwg_1 6).trans rfl) (by decide +kernel)), ncl_X11, pds_2, by decide⟩
theorem stX11_isNoTwo : Cond.static yX11_isNoTwo ∈ z_tbl := (z_w 1487 ((lwg_7 2).trans rfl) (by decide +kernel))
theorem lX11_59 : Cond.methodLink RX11 59 yX11_isIn ∈ z_tbl := (z_w 1489 ((lwg_7 4).trans rfl) (by decide +kernel))
abbrev mX11_isNoTable : z_M := (yX11_isNoTable, cX11_isNoTable, 1, (some .boolean), [])
theorem kX11_isNoTable : z_okm mX11_isNoTable 1 := ⟨rfl, (z_w 1651 ((lwt_7_5 16).trans rfl) (by decide +kernel)), (z_w 51 ((lwg_1 6).trans rfl) (by decide +kernel)), ncl_X11, pds_2, by decide⟩
theorem stX11_isNoTable : Cond.static yX11_isNoTable ∈ z_tbl := (z_w 1650 ((lwt_7_5 15).trans rfl) (by decide +kernel))
abbrev mX11_isNoKey : z_M := (yX11_isNoKey, cX11_isNoKey, 1, (some .boolean), [])
theorem kX11_isNoKey : z_okm mX11_isNoKey 1 := ⟨rfl, (z_w 1654 ((lwt_7_5 19).trans rfl) (by decide +kernel)), (z_w 51 ((lwg_1 6).trans rfl) (by decide +kernel)), ncl_X11, pds_2, by decide⟩
theorem stX11_isNoKey : Cond.static yX11_isNoKey ∈ z_tbl := (z_w 1653 ((lwt_7_5 18).trans rfl) (by decide +kernel))
abbrev mX11_isNoValue : z_M := (yX11_isNoValue, cX11_isNoValue, 1, (some .boolean), [])
theorem kX11_isNoValue : z_okm mX11_isNoValue 1 := ⟨rfl, (z_w 1502 ((lwg_7 17).trans rfl) (by decide +kernel)), (z_w 51 ((lwg_1 6).trans rfl) (by decide +kernel)), ncl_X11, pds_2, by decide⟩
theorem stX11_isNoValue : Cond.static yX11_isNoValue ∈ z_tbl := (z_w 1501 ((lwg_7 16).trans rfl) (by decide +kernel))
abbrev mX11_rule : z_M := (yX11_rule, cX11_rule, 5, (some .int), [])
theorem kX11_rule : z_okm mX11_rule 4 := ⟨rfl, (z_w 1602 ((lwt_7_3 27).trans rfl) (by decide +kernel)), (z_w 51 ((lwg_1 6).trans rfl) (by decide +kernel)), ncl_X11, pds_26, by decide⟩
theorem stX11_rule : Cond.static yX11_rule ∈ z_tbl := (z_w 1601 ((lwt_7_3 26).trans rfl) (by decide +kernel))
theorem lX11_63 : Cond.methodLink RX11 63 yX11_bounded ∈ z_tbl := (z_w 1603 ((lwt_7_3 28).trans rfl) (by decide +kernel))
abbrev mX11_test : z_M := (yX11_test, cX11_test, 3, (some .int), [])
theorem kX11_test : z_okm mX11_test 3 := ⟨rfl, (z_w 1594 ((lwt_7_3 19).trans rfl) (by decide +kernel)), (z_w 51 ((lwg_1 6).trans rfl) (by decide +kernel)), ncl_X11, pds_25, by decide⟩
theorem stX11_test : Cond.static yX11_test ∈ z_tbl := (z_w 1593 ((lwt_7_3 18).trans rfl) (by decide +kernel))
theorem lX11_68 : Cond.methodLink RX11 68 yX11_one ∈ z_tbl := (z_w 1556 ((lwt_7_2 11).trans rfl) (by decide +kernel))
abbrev mX11_type : z_M := (yX11_type, cX11_type, 3, (some .int), [])
theorem kX11_type : z_okm mX11_type 2 := ⟨rfl, (z_w 1485 ((lwg_7 0).trans rfl) (by decide +kernel)), (z_w 51 ((lwg_1 6).trans rfl) (by decide +kernel)), ncl_X11, pds_22, by decide⟩
theorem inX11_type : Cond.instanceMethod yX11_type ∈ z_tbl := (z_w 1483 ((lwt_6_7 28).trans rfl) (by decide +kernel))
theorem seX11_type : Cond.selects RX11 yX11_type yX11_type ∈ z_tbl := (z_w 1484 ((lwt_6_7 29).trans rfl) (by decide +kernel))
theorem lX11_72 : Cond.methodLink RX11 72 yX11_isNoTwo ∈ z_tbl := (z_w 1486 ((lwg_7 1).trans rfl) (by decide +kernel))
theorem lX11_76 : Cond.methodLink RX11 76 yX11_start ∈ z_tbl := (z_w 1492 ((lwg_7 7).trans rfl) (by decide +kernel))
theorem lX11_79 : Cond.methodLink RX11 79 yX11_isNoValue ∈ z_tbl := (z_w 1500 ((lwg_7 15).trans rfl) (by decide +kernel))
theorem lX11_82 : Cond.methodLink RX11 82 yJx4a65c_get_915e3 ∈ z_tbl := (z_w 1503 ((lwg_7 18).trans rfl) (by decide +kernel))
theorem lX11_86 : Cond.methodLink RX11 86 yJx4a65c_size_8abf5 ∈ z_tbl := (z_w 1515 ((lwt_7_1 0).trans rfl) (by decide +kernel))
theorem lX11_90 : Cond.methodLink RX11 90 yJ6_valueOf_2dffe ∈ z_tbl := (z_w 1519 ((lwt_7_1 4).trans rfl) (by decide +kernel))
abbrev mX11_drop : z_M := (yX11_drop, cX11_drop, 4, (some .int), [])
theorem kX11_drop : z_okm mX11_drop 2 := ⟨rfl, (z_w 1542 ((lwt_7_1 27).trans rfl) (by decide +kernel)), (z_w 51 ((lwg_1 6).trans rfl) (by decide +kernel)), ncl_X11, pds_22, by decide⟩
theorem inX11_drop : Cond.instanceMethod yX11_drop ∈ z_tbl := (z_w 1540 ((lwt_7_1 25).trans rfl) (by decide +kernel))
theorem seX11_drop : Cond.selects RX11 yX11_drop yX11_drop ∈ z_tbl := (z_w 1541 ((lwt_7_1 26).trans rfl) (by decide +kernel))
theorem lX11_96 : Cond.methodLink RX11 96 yJx4a65c_remove_915e3 ∈ z_tbl := (z_w 1543 ((lwt_7_1 28).trans rfl) (by decide +kernel))
abbrev mX11_fix : z_M := (yX11_fix, cX11_fix, 4, (some .int), [])
theorem kX11_fix : z_okm mX11_fix 2 := ⟨rfl, (z_w 1555 ((lwt_7_2 10).trans rfl) (by decide +kernel)), (z_w 51 ((lwg_1 6).trans rfl) (by decide +kernel)), ncl_X11, pds_32, by decide⟩
theorem inX11_fix : Cond.instanceMethod yX11_fix ∈ z_tbl := (z_w 1553 ((lwt_7_2 8).trans rfl) (by decide +kernel))
theorem seX11_fix : Cond.selects RX11 yX11_fix yX11_fix ∈ z_tbl := (z_w 1554 ((lwt_7_2 9).trans rfl) (by decide +kernel))
abbrev mX11_hearRow : z_M := (yX11_hearRow, cX11_hearRow, 6, (some .int), [])
theorem kX11_hearRow : z_okm mX11_hearRow 3 := ⟨rfl, (z_w 1566 ((lwt_7_2 21).trans rfl) (by decide +kernel)), (z_w 51 ((lwg_1 6).trans rfl) (by decide +kernel)), ncl_X11, pds_25, by decide⟩
theorem inX11_hearRow : Cond.instanceMethod yX11_hearRow ∈ z_tbl := (z_w 1565 ((lwt_7_2 20).trans rfl) (by decide +kernel))
theorem seX11_hearRow : Cond.selects RX11 yX11_hearRow yX11_hearRow ∈ z_tbl := (z_w 27 (by decide +kernel) (by decide +kernel))
theorem lX11_99 : Cond.methodLink RX11 99 yJ6_intValue_8abf5 ∈ z_tbl := (z_w 1568 ((lwt_7_2 23).trans rfl) (by decide +kernel))
theorem lX11_102 : Cond.methodLinkNest RX11 102 yX10_refuses "LoopdefaultsModel" ∈ z_nst := (z_wn 1572 ((lwt_7_2 27).trans rfl) (by decide +kernel))
theorem lX11_105 : Cond.methodLink RX11 105 yX11_nine ∈ z_tbl := (z_w 1580 ((lwt_7_3 5).trans rfl) (by decide +kernel))
abbrev mX11_hear : z_M := (yX11_hear, cX11_hear, 3, (some .int), [])
theorem kX11_hear : z_okm mX11_hear 2 := ⟨rfl, (z_w 1562 ((lwt_7_2 17).trans rfl) (by decide +kernel)), (z_w 51 ((lwg_1 6).trans rfl) (by decide +kernel)), ncl_X11, pds_22, by decide⟩
theorem inX11_hear : Cond.instanceMethod yX11_hear ∈ z_tbl := (z_w 1560 ((lwt_7_2 15).trans rfl) (by decide +kernel))
theorem seX11_hear : Cond.selects RX11 yX11_hear yX11_hear ∈ z_tbl := (z_w 1561 ((lwt_7_2 16).trans rfl) (by decide +kernel))
theorem lX11_108 : Cond.methodLink RX11 108 yX11_hearRow ∈ z_tbl := (z_w 1563 ((lwt_7_2 18).trans rfl) (by decide +kernel))
abbrev mX11_rest : z_M := (yX11_rest, cX11_rest, 4, (some .int), [])
theorem kX11_rest : z_okm mX11_rest 3 := ⟨rfl, (z_w 1587 ((lwt_7_3 12).trans rfl) (by decide +kernel)), (z_w 51 ((lwg_1 6).trans rfl) (by decide +kernel)), ncl_X11, pds_25, by decide⟩
theorem inX11_rest : Cond.instanceMethod yX11_rest ∈ z_tbl := (z_w 1585 ((lwt_7_3 10).trans rfl) (by decide +kernel))
theorem seX11_rest : Cond.selects RX11 yX11_rest yX11_rest ∈ z_tbl := (z_w 1586 ((lwt_7_3 11).trans rfl) (by decide +kernel))
abbrev mX11_removeIf : z_M := (yX11_removeIf, cX11_removeIf, 7, (some .int), [])
theorem kX11_removeIf : z_okm mX11_removeIf 3 := ⟨rfl, (z_w 1591 ((lwt_7_3 16).trans rfl) (by decide +kernel)), (z_w 51 ((lwg_1 6).trans rfl) (by decide +kernel)), ncl_X11, pds_25, by decide⟩
theorem inX11_removeIf : Cond.instanceMethod yX11_removeIf ∈ z_tbl := (z_w 1589 ((lwt_7_3 14).trans rfl) (by decide +kernel))
theorem seX11_removeIf : Cond.selects RX11 yX11_removeIf yX11_removeIf ∈ z_tbl := (z_w 1590 ((lwt_7_3 15).trans rfl) (by decide +kernel))
theorem lX11_112 : Cond.methodLink RX11 112 yX11_test ∈ z_tbl := (z_w 1592 ((lwt_7_3 17).trans rfl) (by decide +kernel))
abbrev mX11_replaceAll : z_M := (yX11_replaceAll, cX11_replaceAll, 6, (some .int), [])
theorem kX11_replaceAll : z_okm mX11_replaceAll 3 := ⟨rfl, (z_w 1599 ((lwt_7_3 24).trans rfl) (by decide +kernel)), (z_w 51 ((lwg_1 6).trans rfl) (by decide +kernel)), ncl_X11, pds_25, by decide⟩
theorem inX11_replaceAll : Cond.instanceMethod yX11_replaceAll ∈ z_tbl := (z_w 1597 ((lwt_7_3 22).trans rfl) (by decide +kernel))
theorem seX11_replaceAll : Cond.selects RX11 yX11_replaceAll yX11_replaceAll ∈ z_tbl := (z_w 1598 ((lwt_7_3 23).trans rfl) (by decide +kernel))
theorem lX11_115 : Cond.methodLink RX11 115 yX11_rule ∈ z_tbl := (z_w 1600 ((lwt_7_3 25).trans rfl) (by decide +kernel))
theorem lX11_119 : Cond.methodLink RX11 119 yJx4a65c_set_bcc79 ∈ z_tbl := (z_w 1608 ((lwt_7_4 3).trans rfl) (by decide +kernel))
abbrev mX11_copy : z_M := (yX11_copy, cX11_copy, 2, (some .int), [])
theorem kX11_copy : z_okm mX11_copy 1 := ⟨rfl, (z_w 1615 ((lwt_7_4 10).trans rfl) (by decide +kernel)), (z_w 51 ((lwg_1 6).trans rfl) (by decide +kernel)), ncl_X11, pds_4, by decide⟩
theorem inX11_copy : Cond.instanceMethod yX11_copy ∈ z_tbl := (z_w 1613 ((lwt_7_4 8).trans rfl) (by decide +kernel))
theorem seX11_copy : Cond.selects RX11 yX11_copy yX11_copy ∈ z_tbl := (z_w 1614 ((lwt_7_4 9).trans rfl) (by decide +kernel))
theorem lX11_125 : Cond.methodLink RX11 125 yJx4a65c_init_4bcb3 ∈ z_tbl := (z_w 1617 ((lwt_7_4 12).trans rfl) (by decide +kernel))
abbrev mX11_place : z_M := (yX11_place, cX11_place, 4, (some .int), [])
theorem kX11_place : z_okm mX11_place 2 := ⟨rfl, (z_w 1662 ((lwt_7_5 27).trans rfl) (by decide +kernel)), (z_w 51 ((lwg_1 6).trans rfl) (by decide +kernel)), ncl_X11, pds_22, by decide⟩
theorem inX11_place : Cond.instanceMethod yX11_place ∈ z_tbl := (z_w 1661 ((lwt_7_5 26).trans rfl) (by decide +kernel))
theorem seX11_place : Cond.selects RX11 yX11_place yX11_place ∈ z_tbl := (z_w 32 (by decide +kernel) (by decide +kernel))
abbrev mX11_valueOf : z_M := (yX11_valueOf, cX11_valueOf, 4, (some .int), [])
theorem kX11_valueOf : z_okm mX11_valueOf 2 := ⟨rfl, (z_w 1658 ((lwt_7_5 23).trans rfl) (by decide +kernel)), (z_w 51 ((lwg_1 6).trans rfl) (by decide +kernel)), ncl_X11, pds_22, by decide⟩
theorem inX11_valueOf : Cond.instanceMethod yX11_valueOf ∈ z_tbl := (z_w 1657 ((lwt_7_5 22).trans rfl) (by decide +kernel))
theorem seX11_valueOf : Cond.selects RX11 yX11_valueOf yX11_valueOf ∈ z_tbl := (z_w 31 (by decide +kernel) (by decide +kernel))
theorem lX11_130 : Cond.methodLink RX11 130 yX11_place ∈ z_tbl := (z_w 1659 ((lwt_7_5 24).trans rfl) (by decide +kernel))
abbrev mX11_lay : z_M := (yX11_lay, cX11_lay, 6, none, [])
theorem kX11_lay : z_okm mX11_lay 3 := ⟨rfl, (z_w 1667 ((lwt_7_6 2).trans rfl) (by decide +kernel)), (z_w 51 ((lwg_1 6).trans rfl) (by decide +kernel)), ncl_X11, pds_19, by decide⟩
theorem inX11_lay : Cond.instanceMethod yX11_lay ∈ z_tbl := (z_w 1666 ((lwt_7_6 1).trans rfl) (by decide +kernel))
theorem seX11_lay : Cond.selects RX11 yX11_lay yX11_lay ∈ z_tbl := (z_w 33 (by decide +kernel) (by decide +kernel))
theorem lX11_133 : Cond.methodLink RX11 133 yJx4a65c_add_7a177 ∈ z_tbl := (z_w 1668 ((lwt_7_6 3).trans rfl) (by decide +kernel))
abbrev mX11_go : z_M := (yX11_go, cX11_go, 4, none, [])
theorem kX11_go : z_okm mX11_go 2 := ⟨rfl, (z_w 1696 ((lwt_7_7 1).trans rfl) (by decide +kernel)), (z_w 51 ((lwg_1 6).trans rfl) (by decide +kernel)), ncl_X11, pds_11, by decide⟩
theorem inX11_go : Cond.instanceMethod yX11_go ∈ z_tbl := (z_w 1695 ((lwt_7_7 0).trans rfl) (by decide +kernel))
theorem seX11_go : Cond.selects RX11 yX11_go yX11_go ∈ z_tbl := (z_w 36 (by decide +kernel) (by decide +kernel))
abbrev mX11_isNoPair : z_M := (yX11_isNoPair, cX11_isNoPair, 4, (some .boolean), [])
theorem kX11_isNoPair : z_okm mX11_isNoPair 3 := ⟨rfl, (z_w 1648 ((lwt_7_5 13).trans rfl) (by decide +kernel)), (z_w 51 ((lwg_1 6).trans rfl) (by decide +kernel)), ncl_X11, pds_41, by decide⟩
theorem inX11_isNoPair : Cond.instanceMethod yX11_isNoPair ∈ z_tbl := (z_w 1647 ((lwt_7_5 12).trans rfl) (by decide +kernel))
theorem seX11_isNoPair : Cond.selects RX11 yX11_isNoPair yX11_isNoPair ∈ z_tbl := (z_w 30 (by decide +kernel) (by decide +kernel))
theorem lX11_136 : Cond.methodLink RX11 136 yX11_isNoTable ∈ z_tbl := (z_w 1649 ((lwt_7_5 14).trans rfl) (by decide +kernel))
theorem lX11_139 : Cond.methodLink RX11 139 yX11_isNoKey ∈ z_tbl := (z_w 1652 ((lwt_7_5 17).trans rfl) (by decide +kernel))
abbrev mX11_put : z_M := (yX11_put, cX11_put, 5, (some .int), [])
theorem kX11_put : z_okm mX11_put 3 := ⟨rfl, (z_w 1644 ((lwt_7_5 9).trans rfl) (by decide +kernel)), (z_w 51 ((lwg_1 6).trans rfl) (by decide +kernel)), ncl_X11, pds_25, by decide⟩
theorem inX11_put : Cond.instanceMethod yX11_put ∈ z_tbl := (z_w 1642 ((lwt_7_5 7).trans rfl) (by decide +kernel))
theorem seX11_put : Cond.selects RX11 yX11_put yX11_put ∈ z_tbl := (z_w 1643 ((lwt_7_5 8).trans rfl) (by decide +kernel))
theorem lX11_142 : Cond.methodLink RX11 142 yX11_isNoPair ∈ z_tbl := (z_w 1645 ((lwt_7_5 10).trans rfl) (by decide +kernel))
theorem lX11_145 : Cond.methodLink RX11 145 yX11_valueOf ∈ z_tbl := (z_w 1655 ((lwt_7_5 20).trans rfl) (by decide +kernel))
theorem lX11_147 : Cond.methodLink RX11 147 yX11_lay ∈ z_tbl := (z_w 1664 ((lwt_7_5 29).trans rfl) (by decide +kernel))
abbrev mX11_remove : z_M := (yX11_remove, cX11_remove, 4, (some .int), [])
theorem kX11_remove : z_okm mX11_remove 2 := ⟨rfl, (z_w 1692 ((lwt_7_6 27).trans rfl) (by decide +kernel)), (z_w 51 ((lwg_1 6).trans rfl) (by decide +kernel)), ncl_X11, pds_22, by decide⟩
theorem inX11_remove : Cond.instanceMethod yX11_remove ∈ z_tbl := (z_w 1690 ((lwt_7_6 25).trans rfl) (by decide +kernel))
theorem seX11_remove : Cond.selects RX11 yX11_remove yX11_remove ∈ z_tbl := (z_w 1691 ((lwt_7_6 26).trans rfl) (by decide +kernel))
theorem lX11_151 : Cond.methodLink RX11 151 yX11_go ∈ z_tbl := (z_w 1693 ((lwt_7_6 28).trans rfl) (by decide +kernel))
abbrev mX11_putIfAbsent : z_M := (yX11_putIfAbsent, cX11_putIfAbsent, 5, (some .int), [])
theorem kX11_putIfAbsent : z_okm mX11_putIfAbsent 3 := ⟨rfl, (z_w 1700 ((lwt_7_7 5).trans rfl) (by decide +kernel)), (z_w 51 ((lwg_1 6).trans rfl) (by decide +kernel)), ncl_X11, pds_25, by decide⟩
theorem inX11_putIfAbsent : Cond.instanceMethod yX11_putIfAbsent ∈ z_tbl := (z_w 1698 ((lwt_7_7 3).trans rfl) (by decide +kernel))
theorem seX11_putIfAbsent : Cond.selects RX11 yX11_putIfAbsent yX11_putIfAbsent ∈ z_tbl := (z_w 1699 ((lwt_7_7 4).trans rfl) (by decide +kernel))
abbrev mX11_replace : z_M := (yX11_replace, cX11_replace, 5, (some .int), [])
theorem kX11_replace : z_okm mX11_replace 3 := ⟨rfl, (z_w 1704 ((lwt_7_7 9).trans rfl) (by decide +kernel)), (z_w 51 ((lwg_1 6).trans rfl) (by decide +kernel)), ncl_X11, pds_25, by decide⟩
theorem inX11_replace : Cond.instanceMethod yX11_replace ∈ z_tbl := (z_w 1702 ((lwt_7_7 7).trans rfl) (by decide +kernel))
theorem seX11_replace : Cond.selects RX11 yX11_replace yX11_replace ∈ z_tbl := (z_w 1703 ((lwt_7_7 8).trans rfl) (by decide +kernel))
abbrev mX11_replaceIf : z_M := (yX11_replaceIf, cX11_replaceIf, 6, (some .boolean), [])
theorem kX11_replaceIf : z_okm mX11_replaceIf 4 := ⟨rfl, (z_w 1708 ((lwt_7_7 13).trans rfl) (by decide +kernel)), (z_w 51 ((lwg_1 6).trans rfl) (by decide +kernel)), ncl_X11, pds_40, by decide⟩
theorem inX11_replaceIf : Cond.instanceMethod yX11_replaceIf ∈ z_tbl := (z_w 1706 ((lwt_7_7 11).trans rfl) (by decide +kernel))
theorem seX11_replaceIf : Cond.selects RX11 yX11_replaceIf yX11_replaceIf ∈ z_tbl := (z_w 1707 ((lwt_7_7 12).trans rfl) (by decide +kernel))
abbrev mX11_removePair : z_M := (yX11_removePair, cX11_removePair, 5, (some .boolean), [])
theorem kX11_removePair : z_okm mX11_removePair 3 := ⟨rfl, (z_w 1712 ((lwt_7_7 17).trans rfl) (by decide +kernel)), (z_w 51 ((lwg_1 6).trans rfl) (by decide +kernel)), ncl_X11, pds_41, by decide⟩
theorem inX11_removePair : Cond.instanceMethod yX11_removePair ∈ z_tbl := (z_w 1710 ((lwt_7_7 15).trans rfl) (by decide +kernel))
theorem seX11_removePair : Cond.selects RX11 yX11_removePair yX11_removePair ∈ z_tbl := (z_w 1711 ((lwt_7_7 16).trans rfl) (by decide +kernel))
abbrev mX11_isNoRule : z_M := (yX11_isNoRule, cX11_isNoRule, 5, (some .boolean), [])
theorem kX11_isNoRule : z_okm mX11_isNoRule 4 := ⟨rfl, (z_w 1720 ((lwt_7_7 25).trans rfl) (by decide +kernel)), (z_w 51 ((lwg_1 6).trans rfl) (by decide +kernel)), ncl_X11, pds_40, by decide⟩
theorem inX11_isNoRule : Cond.instanceMethod yX11_isNoRule ∈ z_tbl := (z_w 1719 ((lwt_7_7 24).trans rfl) (by decide +kernel))
theorem seX11_isNoRule : Cond.selects RX11 yX11_isNoRule yX11_isNoRule ∈ z_tbl := (z_w 37 (by decide +kernel) (by decide +kernel))
abbrev mX11_become : z_M := (yX11_become, cX11_become, 4, (some .int), [])
theorem kX11_become : z_okm mX11_become 3 := ⟨rfl, (z_w 1724 ((lwt_7_7 29).trans rfl) (by decide +kernel)), (z_w 51 ((lwg_1 6).trans rfl) (by decide +kernel)), ncl_X11, pds_25, by decide⟩
theorem inX11_become : Cond.instanceMethod yX11_become ∈ z_tbl := (z_w 1723 ((lwt_7_7 28).trans rfl) (by decide +kernel))
theorem seX11_become : Cond.selects RX11 yX11_become yX11_become ∈ z_tbl := (z_w 38 (by decide +kernel) (by decide +kernel))
abbrev mX11_computeIfAbsent : z_M := (yX11_computeIfAbsent, cX11_computeIfAbsent, 6, (some .int), [])
theorem kX11_computeIfAbsent : z_okm mX11_computeIfAbsent 4 := ⟨rfl, (z_w 1716 ((lwt_7_7 21).trans rfl) (by decide +kernel)), (z_w 51 ((lwg_1 6).trans rfl) (by decide +kernel)), ncl_X11, pds_26, by decide⟩
theorem inX11_computeIfAbsent : Cond.instanceMethod yX11_computeIfAbsent ∈ z_tbl := (z_w 1714 ((lwt_7_7 19).trans rfl) (by decide +kernel))
theorem seX11_computeIfAbsent : Cond.selects RX11 yX11_computeIfAbsent yX11_computeIfAbsent ∈ z_tbl := (z_w 1715 ((lwt_7_7 20).trans rfl) (by decide +kernel))
theorem lX11_155 : Cond.methodLink RX11 155 yX11_isNoRule ∈ z_tbl := (z_w 1717 ((lwt_7_7 22).trans rfl) (by decide +kernel))
theorem lX11_159 : Cond.methodLink RX11 159 yX11_become ∈ z_tbl := (z_w 1721 ((lwt_7_7 26).trans rfl) (by decide +kernel))
abbrev mX11_computeIfPresent : z_M := (yX11_computeIfPresent, cX11_computeIfPresent, 6, (some .int), [])
theorem kX11_computeIfPresent : z_okm mX11_computeIfPresent 4 := ⟨rfl, (z_w 1728 ((lwg_8 3).trans rfl) (by decide +kernel)), (z_w 51 ((lwg_1 6).trans rfl) (by decide +kernel)), ncl_X11, pds_26, by decide⟩
theorem inX11_computeIfPresent : Cond.instanceMethod yX11_computeIfPresent ∈ z_tbl := (z_w 1726 ((lwg_8 1).trans rfl) (by decide +kernel))
theorem seX11_computeIfPresent : Cond.selects RX11 yX11_computeIfPresent yX11_computeIfPresent ∈ z_tbl := (z_w 1727 ((lwg_8 2).trans rfl) (by decide +kernel))
abbrev mX11_compute : z_M := (yX11_compute, cX11_compute, 6, (some .int), [])
theorem kX11_compute : z_okm mX11_compute 4 := ⟨rfl, (z_w 1732 ((lwg_8 7).trans rfl) (by decide +kernel)), (z_w 51 ((lwg_1 6).trans rfl) (by decide +kernel)), ncl_X11, pds_26, by decide⟩
theorem inX11_compute : Cond.instanceMethod yX11_compute ∈ z_tbl := (z_w 1730 ((lwg_8 5).trans rfl) (by decide +kernel))
theorem seX11_compute : Cond.selects RX11 yX11_compute yX11_compute ∈ z_tbl := (z_w 1731 ((lwg_8 6).trans rfl) (by decide +kernel))
abbrev mX11_merge : z_M := (yX11_merge, cX11_merge, 6, (some .int), [])
theorem kX11_merge : z_okm mX11_merge 4 := ⟨rfl, (z_w 1736 ((lwg_8 11).trans rfl) (by decide +kernel)), (z_w 51 ((lwg_1 6).trans rfl) (by decide +kernel)), ncl_X11, pds_26, by decide⟩
theorem inX11_merge : Cond.instanceMethod yX11_merge ∈ z_tbl := (z_w 1734 ((lwg_8 9).trans rfl) (by decide +kernel))
theorem seX11_merge : Cond.selects RX11 yX11_merge yX11_merge ∈ z_tbl := (z_w 1735 ((lwg_8 10).trans rfl) (by decide +kernel))
abbrev mX11_hearTable : z_M := (yX11_hearTable, cX11_hearTable, 7, (some .int), [])
theorem kX11_hearTable : z_okm mX11_hearTable 2 := ⟨rfl, (z_w 1740 ((lwg_8 15).trans rfl) (by decide +kernel)), (z_w 51 ((lwg_1 6).trans rfl) (by decide +kernel)), ncl_X11, pds_22, by decide⟩
theorem inX11_hearTable : Cond.instanceMethod yX11_hearTable ∈ z_tbl := (z_w 1738 ((lwg_8 13).trans rfl) (by decide +kernel))
theorem seX11_hearTable : Cond.selects RX11 yX11_hearTable yX11_hearTable ∈ z_tbl := (z_w 1739 ((lwg_8 14).trans rfl) (by decide +kernel))
theorem lX11_162 : Cond.methodLink RX11 162 yJx4a65c_iterator_32c93 ∈ z_tbl := (z_w 1741 ((lwg_8 16).trans rfl) (by decide +kernel))
abbrev mX11_replaceTable : z_M := (yX11_replaceTable, cX11_replaceTable, 8, (some .int), [])
theorem kX11_replaceTable : z_okm mX11_replaceTable 3 := ⟨rfl, (z_w 1790 ((lwt_8_2 5).trans rfl) (by decide +kernel)), (z_w 51 ((lwg_1 6).trans rfl) (by decide +kernel)), ncl_X11, pds_25, by decide⟩
theorem inX11_replaceTable : Cond.instanceMethod yX11_replaceTable ∈ z_tbl := (z_w 1788 ((lwt_8_2 3).trans rfl) (by decide +kernel))
theorem seX11_replaceTable : Cond.selects RX11 yX11_replaceTable yX11_replaceTable ∈ z_tbl := (z_w 1789 ((lwt_8_2 4).trans rfl) (by decide +kernel))
abbrev mX11_clear : z_M := (yX11_clear, cX11_clear, 3, (some .int), [])
theorem kX11_clear : z_okm mX11_clear 1 := ⟨rfl, (z_w 1794 ((lwt_8_2 9).trans rfl) (by decide +kernel)), (z_w 51 ((lwg_1 6).trans rfl) (by decide +kernel)), ncl_X11, pds_4, by decide⟩
theorem inX11_clear : Cond.instanceMethod yX11_clear ∈ z_tbl := (z_w 1792 ((lwt_8_2 7).trans rfl) (by decide +kernel))
theorem seX11_clear : Cond.selects RX11 yX11_clear yX11_clear ∈ z_tbl := (z_w 1793 ((lwt_8_2 8).trans rfl) (by decide +kernel))
theorem lX11_176 : Cond.methodLink RX11 176 yJx4a65c_clear_da8c8 ∈ z_tbl := (z_w 1795 ((lwt_8_2 10).trans rfl) (by decide +kernel))
abbrev mX11_many : z_M := (yX11_many, cX11_many, 3, (some .int), [])
theorem kX11_many : z_okm mX11_many 3 := ⟨rfl, (z_w 1808 ((lwt_8_2 23).trans rfl) (by decide +kernel)), (z_w 51 ((lwg_1 6).trans rfl) (by decide +kernel)), ncl_X11, pds_25, by decide⟩
theorem stX11_many : Cond.static yX11_many ∈ z_tbl := (z_w 1807 ((lwt_8_2 22).trans rfl) (by decide +kernel))
abbrev mX11_isNoSpan : z_M := (yX11_isNoSpan, cX11_isNoSpan, 3, (some .boolean), [])
theorem kX11_isNoSpan : z_okm mX11_isNoSpan 3 := ⟨rfl, (z_w 1805 ((lwt_8_2 20).trans rfl) (by decide +kernel)), (z_w 51 ((lwg_1 6).trans rfl) (by decide +kernel)), ncl_X11, pds_41, by decide⟩
theorem stX11_isNoSpan : Cond.static yX11_isNoSpan ∈ z_tbl := (z_w 1804 ((lwt_8_2 19).trans rfl) (by decide +kernel))
theorem lX11_179 : Cond.methodLink RX11 179 yX11_many ∈ z_tbl := (z_w 1806 ((lwt_8_2 21).trans rfl) (by decide +kernel))
abbrev mX11_span : z_M := (yX11_span, cX11_span, 8, (some .int), [])
theorem kX11_span : z_okm mX11_span 5 := ⟨rfl, (z_w 1812 ((lwt_8_2 27).trans rfl) (by decide +kernel)), (z_w 51 ((lwg_1 6).trans rfl) (by decide +kernel)), ncl_X11, pds_44, by decide⟩
theorem inX11_span : Cond.instanceMethod yX11_span ∈ z_tbl := (z_w 1811 ((lwt_8_2 26).trans rfl) (by decide +kernel))
theorem seX11_span : Cond.selects RX11 yX11_span yX11_span ∈ z_tbl := (z_w 39 (by decide +kernel) (by decide +kernel))
abbrev mX11_hearSpan : z_M := (yX11_hearSpan, cX11_hearSpan, 5, (some .int), [])
theorem kX11_hearSpan : z_okm mX11_hearSpan 4 := ⟨rfl, (z_w 1802 ((lwt_8_2 17).trans rfl) (by decide +kernel)), (z_w 51 ((lwg_1 6).trans rfl) (by decide +kernel)), ncl_X11, pds_26, by decide⟩
theorem inX11_hearSpan : Cond.instanceMethod yX11_hearSpan ∈ z_tbl := (z_w 1800 ((lwt_8_2 15).trans rfl) (by decide +kernel))
theorem seX11_hearSpan : Cond.selects RX11 yX11_hearSpan yX11_hearSpan ∈ z_tbl := (z_w 1801 ((lwt_8_2 16).trans rfl) (by decide +kernel))
theorem lX11_182 : Cond.methodLink RX11 182 yX11_isNoSpan ∈ z_tbl := (z_w 1803 ((lwt_8_2 18).trans rfl) (by decide +kernel))
theorem lX11_185 : Cond.methodLink RX11 185 yX11_span ∈ z_tbl := (z_w 1809 ((lwt_8_2 24).trans rfl) (by decide +kernel))
abbrev mX11_hearSteps : z_M := (yX11_hearSteps, cX11_hearSteps, 6, (some .int), [])
theorem kX11_hearSteps : z_okm mX11_hearSteps 5 := ⟨rfl, (z_w 1816 ((lwt_8_3 1).trans rfl) (by decide +kernel)), (z_w 51 ((lwg_1 6).trans rfl) (by decide +kernel)), ncl_X11, pds_44, by decide⟩
theorem inX11_hearSteps : Cond.instanceMethod yX11_hearSteps ∈ z_tbl := (z_w 1814 ((lwt_8_2 29).trans rfl) (by decide +kernel))
theorem seX11_hearSteps : Cond.selects RX11 yX11_hearSteps yX11_hearSteps ∈ z_tbl := (z_w 1815 ((lwt_8_3 0).trans rfl) (by decide +kernel))
abbrev mX11_takeStep : z_M := (yX11_takeStep, cX11_takeStep, 3, (some .int), [])
theorem kX11_takeStep : z_okm mX11_takeStep 2 := ⟨rfl, (z_w 1820 ((lwt_8_3 5).trans rfl) (by decide +kernel)), (z_w 51 ((lwg_1 6).trans rfl) (by decide +kernel)), ncl_X11, pds_22, by decide⟩
theorem inX11_takeStep : Cond.instanceMethod yX11_takeStep ∈ z_tbl := (z_w 1818 ((lwt_8_3 3).trans rfl) (by decide +kernel))
theorem seX11_takeStep : Cond.selects RX11 yX11_takeStep yX11_takeStep ∈ z_tbl := (z_w 1819 ((lwt_8_3 4).trans rfl) (by decide +kernel))
abbrev mX11_stop : z_M := (yX11_stop, cX11_stop, 4, (some .int), [])
theorem kX11_stop : z_okm mX11_stop 2 := ⟨rfl, (z_w 1824 ((lwt_8_3 9).trans rfl) (by decide +kernel)), (z_w 51 ((lwg_1 6).trans rfl) (by decide +kernel)), ncl_X11, pds_22, by decide⟩
theorem inX11_stop : Cond.instanceMethod yX11_stop ∈ z_tbl := (z_w 1822 ((lwt_8_3 7).trans rfl) (by decide +kernel))
theorem seX11_stop : Cond.selects RX11 yX11_stop yX11_stop ∈ z_tbl := (z_w 1823 ((lwt_8_3 8).trans rfl) (by decide +kernel))
theorem fX11_190 : z_F RX11 190 14 0 := ⟨(RX10, TX10, 5), "LoopdefaultsModel$Hearer", rfl, by decide, iX10, Or.inr ⟨"LoopdefaultsModel", (z_wn 1382 ((lwt_6_4 17).trans rfl) (by decide +kernel))⟩, Or.inl rfl⟩
abbrev mX11_forget : z_M := (yX11_forget, cX11_forget, 3, (some .int), [])
theorem kX11_forget : z_okm mX11_forget 1 := ⟨rfl, (z_w 1829 ((lwt_8_3 14).trans rfl) (by decide +kernel)), (z_w 51 ((lwg_1 6).trans rfl) (by decide +kernel)), ncl_X11, pds_4, by decide⟩
theorem inX11_forget : Cond.instanceMethod yX11_forget ∈ z_tbl := (z_w 1827 ((lwt_8_3 12).trans rfl) (by decide +kernel))
theorem seX11_forget : Cond.selects RX11 yX11_forget yX11_forget ∈ z_tbl := (z_w 1828 ((lwt_8_3 13).trans rfl) (by decide +kernel))
theorem fX11_193 : z_F RX11 193 14 1 := ⟨(RX10, TX10, 5), "LoopdefaultsModel$Hearer", rfl, by decide, iX10, Or.inr ⟨"LoopdefaultsModel", (z_wn 1384 ((lwt_6_4 19).trans rfl) (by decide +kernel))⟩, Or.inl rfl⟩
theorem lX11_196 : Cond.methodLinkNest RX11 196 yX10_forget "LoopdefaultsModel" ∈ z_nst := (z_wn 1830 ((lwt_8_3 15).trans rfl) (by decide +kernel))
abbrev mX11_heardTold : z_M := (yX11_heardTold, cX11_heardTold, 4, (some .int), [])
theorem kX11_heardTold : z_okm mX11_heardTold 2 := ⟨rfl, (z_w 1842 ((lwt_8_3 27).trans rfl) (by decide +kernel)), (z_w 51 ((lwg_1 6).trans rfl) (by decide +kernel)), ncl_X11, pds_22, by decide⟩
theorem inX11_heardTold : Cond.instanceMethod yX11_heardTold ∈ z_tbl := (z_w 1841 ((lwt_8_3 26).trans rfl) (by decide +kernel))
theorem seX11_heardTold : Cond.selects RX11 yX11_heardTold yX11_heardTold ∈ z_tbl := (z_w 41 (by decide +kernel) (by decide +kernel))
theorem fX11_199 : z_F RX11 199 14 2 := ⟨(RX10, TX10, 5), "LoopdefaultsModel$Hearer", rfl, by decide, iX10, Or.inr ⟨"LoopdefaultsModel", (z_wn 1386 ((lwt_6_4 21).trans rfl) (by decide +kernel))⟩, Or.inl rfl⟩
theorem fX11_202 : z_F RX11 202 14 3 := ⟨(RX10, TX10, 5), "LoopdefaultsModel$Hearer", rfl, by decide, iX10, Or.inr ⟨"LoopdefaultsModel", (z_wn 1388 ((lwt_6_4 23).trans rfl) (by decide +kernel))⟩, Or.inl rfl⟩
abbrev mX11_heard : z_M := (yX11_heard, cX11_heard, 3, (some .int), [])
theorem kX11_heard : z_okm mX11_heard 2 := ⟨rfl, (z_w 1838 ((lwt_8_3 23).trans rfl) (by decide +kernel)), (z_w 51 ((lwg_1 6).trans rfl) (by decide +kernel)), ncl_X11, pds_22, by decide⟩
theorem inX11_heard : Cond.instanceMethod yX11_heard ∈ z_tbl := (z_w 1836 ((lwt_8_3 21).trans rfl) (by decide +kernel))
theorem seX11_heard : Cond.selects RX11 yX11_heard yX11_heard ∈ z_tbl := (z_w 1837 ((lwt_8_3 22).trans rfl) (by decide +kernel))
theorem lX11_205 : Cond.methodLink RX11 205 yX11_heardTold ∈ z_tbl := (z_w 1839 ((lwt_8_3 24).trans rfl) (by decide +kernel))
abbrev mX11_heardText : z_M := (yX11_heardText, cX11_heardText, 2, (some (.object "java/lang/String")), [])
theorem kX11_heardText : z_okm mX11_heardText 1 := ⟨rfl, (z_w 1846 ((lwt_8_4 1).trans rfl) (by decide +kernel)), (z_w 51 ((lwg_1 6).trans rfl) (by decide +kernel)), ncl_X11, pds_45, by decide⟩
theorem inX11_heardText : Cond.instanceMethod yX11_heardText ∈ z_tbl := (z_w 1844 ((lwt_8_3 29).trans rfl) (by decide +kernel))
theorem seX11_heardText : Cond.selects RX11 yX11_heardText yX11_heardText ∈ z_tbl := (z_w 1845 ((lwt_8_4 0).trans rfl) (by decide +kernel))
theorem lX11_210 : Cond.methodLinkNest RX11 210 yX10_text "LoopdefaultsModel" ∈ z_nst := (z_wn 1848 ((lwt_8_4 3).trans rfl) (by decide +kernel))
abbrev mX11_length : z_M := (yX11_length, cX11_length, 2, (some .int), [])
theorem kX11_length : z_okm mX11_length 1 := ⟨rfl, (z_w 1870 ((lwt_8_4 25).trans rfl) (by decide +kernel)), (z_w 51 ((lwg_1 6).trans rfl) (by decide +kernel)), ncl_X11, pds_4, by decide⟩
theorem inX11_length : Cond.instanceMethod yX11_length ∈ z_tbl := (z_w 1868 ((lwt_8_4 23).trans rfl) (by decide +kernel))
theorem seX11_length : Cond.selects RX11 yX11_length yX11_length ∈ z_tbl := (z_w 1869 ((lwt_8_4 24).trans rfl) (by decide +kernel))
abbrev mX11_at : z_M := (yX11_at, cX11_at, 3, (some .int), [])
theorem kX11_at : z_okm mX11_at 2 := ⟨rfl, (z_w 1874 ((lwt_8_4 29).trans rfl) (by decide +kernel)), (z_w 51 ((lwg_1 6).trans rfl) (by decide +kernel)), ncl_X11, pds_22, by decide⟩
theorem inX11_at : Cond.instanceMethod yX11_at ∈ z_tbl := (z_w 1872 ((lwt_8_4 27).trans rfl) (by decide +kernel))
theorem seX11_at : Cond.selects RX11 yX11_at yX11_at ∈ z_tbl := (z_w 1873 ((lwt_8_4 28).trans rfl) (by decide +kernel))
abbrev mX11_rowText : z_M := (yX11_rowText, cX11_rowText, 5, (some (.object "java/lang/String")), [])
theorem kX11_rowText : z_okm mX11_rowText 1 := ⟨rfl, (z_w 1878 ((lwt_8_5 3).trans rfl) (by decide +kernel)), (z_w 51 ((lwg_1 6).trans rfl) (by decide +kernel)), ncl_X11, pds_45, by decide⟩
theorem inX11_rowText : Cond.instanceMethod yX11_rowText ∈ z_tbl := (z_w 1876 ((lwt_8_5 1).trans rfl) (by decide +kernel))
theorem seX11_rowText : Cond.selects RX11 yX11_rowText yX11_rowText ∈ z_tbl := (z_w 1877 ((lwt_8_5 2).trans rfl) (by decide +kernel))
theorem nX11_214 : z_N RX11 214 1 [.null, .int 0, .int 0, .int 0] := ⟨(RJ4, TJ4, 4), tyJ4, rfl, iJ4, (z_w 1879 ((lwt_8_5 4).trans rfl) (by decide +kernel)), (z_w 565 ((lwt_3_1 10).trans rfl) (by decide +kernel)), (z_w 75 ((lwt_1_1 0).trans rfl) (by decide +kernel)), tyJ4_ok, rfl, by decide, rfl⟩
theorem lX11_216 : Cond.methodLink RX11 216 yJ4_init_da8c8 ∈ z_tbl := (z_w 1880 ((lwt_8_5 5).trans rfl) (by decide +kernel))
theorem lX11_217 : Cond.methodLink RX11 217 yJ4_length_8abf5 ∈ z_tbl := (z_w 1881 ((lwt_8_5 6).trans rfl) (by decide +kernel))
theorem lX11_222 : Cond.methodLink RX11 222 yJ4_append_15ec4 ∈ z_tbl := (z_w 1883 ((lwt_8_5 8).trans rfl) (by decide +kernel))
theorem lX11_226 : Cond.methodLink RX11 226 yJ4_append_bf812 ∈ z_tbl := (z_w 1884 ((lwt_8_5 9).trans rfl) (by decide +kernel))
theorem lX11_229 : Cond.methodLink RX11 229 yJ4_toString_0e30d ∈ z_tbl := (z_w 1885 ((lwt_8_5 10).trans rfl) (by decide +kernel))
abbrev mX11_isFixed : z_M := (yX11_isFixed, cX11_isFixed, 2, (some .boolean), [])
theorem kX11_isFixed : z_okm mX11_isFixed 1 := ⟨rfl, (z_w 1889 ((lwt_8_5 14).trans rfl) (by decide +kernel)), (z_w 51 ((lwg_1 6).trans rfl) (by decide +kernel)), ncl_X11, pds_2, by decide⟩
theorem inX11_isFixed : Cond.instanceMethod yX11_isFixed ∈ z_tbl := (z_w 1887 ((lwt_8_5 12).trans rfl) (by decide +kernel))
theorem seX11_isFixed : Cond.selects RX11 yX11_isFixed yX11_isFixed ∈ z_tbl := (z_w 1888 ((lwt_8_5 13).trans rfl) (by decide +kernel))
abbrev mX11_counts : z_M := (yX11_counts, cX11_counts, 3, (some .int), [])
theorem kX11_counts : z_okm mX11_counts 2 := ⟨rfl, (z_w 1893 ((lwt_8_5 18).trans rfl) (by decide +kernel)), (z_w 51 ((lwg_1 6).trans rfl) (by decide +kernel)), ncl_X11, pds_22, by decide⟩
theorem inX11_counts : Cond.instanceMethod yX11_counts ∈ z_tbl := (z_w 1891 ((lwt_8_5 16).trans rfl) (by decide +kernel))
theorem seX11_counts : Cond.selects RX11 yX11_counts yX11_counts ∈ z_tbl := (z_w 1892 ((lwt_8_5 17).trans rfl) (by decide +kernel))
abbrev mX11_shelfCounts : z_M := (yX11_shelfCounts, cX11_shelfCounts, 2, (some .int), [])
theorem kX11_shelfCounts : z_okm mX11_shelfCounts 1 := ⟨rfl, (z_w 1897 ((lwt_8_5 22).trans rfl) (by decide +kernel)), (z_w 51 ((lwg_1 6).trans rfl) (by decide +kernel)), ncl_X11, pds_4, by decide⟩
theorem inX11_shelfCounts : Cond.instanceMethod yX11_shelfCounts ∈ z_tbl := (z_w 1895 ((lwt_8_5 20).trans rfl) (by decide +kernel))
theorem seX11_shelfCounts : Cond.selects RX11 yX11_shelfCounts yX11_shelfCounts ∈ z_tbl := (z_w 1896 ((lwt_8_5 21).trans rfl) (by decide +kernel))
abbrev mX11_forgetCounts : z_M := (yX11_forgetCounts, cX11_forgetCounts, 7, (some .int), [])
theorem kX11_forgetCounts : z_okm mX11_forgetCounts 0 := ⟨rfl, (z_w 1901 ((lwt_8_5 26).trans rfl) (by decide +kernel)), (z_w 51 ((lwg_1 6).trans rfl) (by decide +kernel)), ncl_X11, pds_17, by decide⟩
theorem inX11_forgetCounts : Cond.instanceMethod yX11_forgetCounts ∈ z_tbl := (z_w 1899 ((lwt_8_5 24).trans rfl) (by decide +kernel))
theorem seX11_forgetCounts : Cond.selects RX11 yX11_forgetCounts yX11_forgetCounts ∈ z_tbl := (z_w 1900 ((lwt_8_5 25).trans rfl) (by decide +kernel))
abbrev mX11_get : z_M := (yX11_get, cX11_get, 3, (some .int), [])
theorem kX11_get : z_okm mX11_get 2 := ⟨rfl, (z_w 1905 ((lwt_8_6 0).trans rfl) (by decide +kernel)), (z_w 51 ((lwg_1 6).trans rfl) (by decide +kernel)), ncl_X11, pds_22, by decide⟩
theorem inX11_get : Cond.instanceMethod yX11_get ∈ z_tbl := (z_w 1903 ((lwt_8_5 28).trans rfl) (by decide +kernel))
theorem seX11_get : Cond.selects RX11 yX11_get yX11_get ∈ z_tbl := (z_w 1904 ((lwt_8_5 29).trans rfl) (by decide +kernel))
abbrev mX11_getOr : z_M := (yX11_getOr, cX11_getOr, 5, (some .int), [])
theorem kX11_getOr : z_okm mX11_getOr 3 := ⟨rfl, (z_w 1909 ((lwt_8_6 4).trans rfl) (by decide +kernel)), (z_w 51 ((lwg_1 6).trans rfl) (by decide +kernel)), ncl_X11, pds_25, by decide⟩
theorem inX11_getOr : Cond.instanceMethod yX11_getOr ∈ z_tbl := (z_w 1907 ((lwt_8_6 2).trans rfl) (by decide +kernel))
theorem seX11_getOr : Cond.selects RX11 yX11_getOr yX11_getOr ∈ z_tbl := (z_w 1908 ((lwt_8_6 3).trans rfl) (by decide +kernel))
abbrev mX11_has : z_M := (yX11_has, cX11_has, 3, (some .boolean), [])
theorem kX11_has : z_okm mX11_has 2 := ⟨rfl, (z_w 1913 ((lwt_8_6 8).trans rfl) (by decide +kernel)), (z_w 51 ((lwg_1 6).trans rfl) (by decide +kernel)), ncl_X11, pds_46, by decide⟩
theorem inX11_has : Cond.instanceMethod yX11_has ∈ z_tbl := (z_w 1911 ((lwt_8_6 6).trans rfl) (by decide +kernel))
theorem seX11_has : Cond.selects RX11 yX11_has yX11_has ∈ z_tbl := (z_w 1912 ((lwt_8_6 7).trans rfl) (by decide +kernel))
abbrev mX11_size : z_M := (yX11_size, cX11_size, 2, (some .int), [])
theorem kX11_size : z_okm mX11_size 1 := ⟨rfl, (z_w 1917 ((lwt_8_6 12).trans rfl) (by decide +kernel)), (z_w 51 ((lwg_1 6).trans rfl) (by decide +kernel)), ncl_X11, pds_4, by decide⟩
theorem inX11_size : Cond.instanceMethod yX11_size ∈ z_tbl := (z_w 1915 ((lwt_8_6 10).trans rfl) (by decide +kernel))
theorem seX11_size : Cond.selects RX11 yX11_size yX11_size ∈ z_tbl := (z_w 1916 ((lwt_8_6 11).trans rfl) (by decide +kernel))
abbrev mX11_text : z_M := (yX11_text, cX11_text, 5, (some (.object "java/lang/String")), [])
theorem kX11_text : z_okm mX11_text 1 := ⟨rfl, (z_w 1921 ((lwt_8_6 16).trans rfl) (by decide +kernel)), (z_w 51 ((lwg_1 6).trans rfl) (by decide +kernel)), ncl_X11, pds_45, by decide⟩
theorem inX11_text : Cond.instanceMethod yX11_text ∈ z_tbl := (z_w 1919 ((lwt_8_6 14).trans rfl) (by decide +kernel))
theorem seX11_text : Cond.selects RX11 yX11_text yX11_text ∈ z_tbl := (z_w 1920 ((lwt_8_6 15).trans rfl) (by decide +kernel))
abbrev mX11_areLike : z_M := (yX11_areLike, cX11_areLike, 4, (some .boolean), [])
theorem kX11_areLike : z_okm mX11_areLike 2 := ⟨rfl, (z_w 1926 ((lwt_8_6 21).trans rfl) (by decide +kernel)), (z_w 51 ((lwg_1 6).trans rfl) (by decide +kernel)), ncl_X11, pds_46, by decide⟩
theorem inX11_areLike : Cond.instanceMethod yX11_areLike ∈ z_tbl := (z_w 1924 ((lwt_8_6 19).trans rfl) (by decide +kernel))
theorem seX11_areLike : Cond.selects RX11 yX11_areLike yX11_areLike ∈ z_tbl := (z_w 1925 ((lwt_8_6 20).trans rfl) (by decide +kernel))
abbrev mX11_given : z_M := (yX11_given, cX11_given, 6, (some .int), [])
theorem kX11_given : z_okm mX11_given 4 := ⟨rfl, (z_w 1930 ((lwt_8_6 25).trans rfl) (by decide +kernel)), (z_w 51 ((lwg_1 6).trans rfl) (by decide +kernel)), ncl_X11, pds_26, by decide⟩
theorem inX11_given : Cond.instanceMethod yX11_given ∈ z_tbl := (z_w 1928 ((lwt_8_6 23).trans rfl) (by decide +kernel))
theorem seX11_given : Cond.selects RX11 yX11_given yX11_given ∈ z_tbl := (z_w 1929 ((lwt_8_6 24).trans rfl) (by decide +kernel))
abbrev mX11_tested : z_M := (yX11_tested, cX11_tested, 5, (some .int), [])
theorem kX11_tested : z_okm mX11_tested 3 := ⟨rfl, (z_w 1934 ((lwt_8_6 29).trans rfl) (by decide +kernel)), (z_w 51 ((lwg_1 6).trans rfl) (by decide +kernel)), ncl_X11, pds_25, by decide⟩
theorem inX11_tested : Cond.instanceMethod yX11_tested ∈ z_tbl := (z_w 1932 ((lwt_8_6 27).trans rfl) (by decide +kernel))
theorem seX11_tested : Cond.selects RX11 yX11_tested yX11_tested ∈ z_tbl := (z_w 1933 ((lwt_8_6 28).trans rfl) (by decide +kernel))
abbrev mX11_knock : z_M := (yX11_knock, cX11_knock, 1, (some .int), [])
theorem kX11_knock : z_okm mX11_knock 0 := ⟨rfl, (z_w 1938 ((lwt_8_7 3).trans rfl) (by decide +kernel)), (z_w 51 ((lwg_1 6).trans rfl) (by decide +kernel)), ncl_X11, pds_17, by decide⟩
theorem inX11_knock : Cond.instanceMethod yX11_knock ∈ z_tbl := (z_w 1936 ((lwt_8_7 1).trans rfl) (by decide +kernel))
theorem seX11_knock : Cond.selects RX11 yX11_knock yX11_knock ∈ z_tbl := (z_w 1937 ((lwt_8_7 2).trans rfl) (by decide +kernel))
theorem fX11_234 : z_F RX11 234 15 7 := ⟨(RX11, TX11, 8), "LoopdefaultsModel", rfl, by decide, iX11, Or.inl (z_w 1460 ((lwt_6_7 5).trans rfl) (by decide +kernel)), Or.inl rfl⟩
abbrev mX11_houseTold : z_M := (yX11_houseTold, cX11_houseTold, 5, (some .int), [])
theorem kX11_houseTold : z_okm mX11_houseTold 1 := ⟨rfl, (z_w 1946 ((lwt_8_7 11).trans rfl) (by decide +kernel)), (z_w 51 ((lwg_1 6).trans rfl) (by decide +kernel)), ncl_X11, pds_4, by decide⟩
theorem inX11_houseTold : Cond.instanceMethod yX11_houseTold ∈ z_tbl := (z_w 1945 ((lwt_8_7 10).trans rfl) (by decide +kernel))
theorem seX11_houseTold : Cond.selects RX11 yX11_houseTold yX11_houseTold ∈ z_tbl := (z_w 43 (by decide +kernel) (by decide +kernel))
abbrev mX11_house : z_M := (yX11_house, cX11_house, 2, (some .int), [])
theorem kX11_house : z_okm mX11_house 1 := ⟨rfl, (z_w 1942 ((lwt_8_7 7).trans rfl) (by decide +kernel)), (z_w 51 ((lwg_1 6).trans rfl) (by decide +kernel)), ncl_X11, pds_4, by decide⟩
theorem inX11_house : Cond.instanceMethod yX11_house ∈ z_tbl := (z_w 1940 ((lwt_8_7 5).trans rfl) (by decide +kernel))
theorem seX11_house : Cond.selects RX11 yX11_house yX11_house ∈ z_tbl := (z_w 1941 ((lwt_8_7 6).trans rfl) (by decide +kernel))
theorem lX11_237 : Cond.methodLink RX11 237 yX11_houseTold ∈ z_tbl := (z_w 1943 ((lwt_8_7 8).trans rfl) (by decide +kernel))
abbrev mX11_isTrue : z_M := (yX11_isTrue, cX11_isTrue, 2, (some .boolean), [])
theorem kX11_isTrue : z_okm mX11_isTrue 0 := ⟨rfl, (z_w 1954 ((lwt_8_7 19).trans rfl) (by decide +kernel)), (z_w 51 ((lwg_1 6).trans rfl) (by decide +kernel)), ncl_X11, pds_10, by decide⟩
theorem inX11_isTrue : Cond.instanceMethod yX11_isTrue ∈ z_tbl := (z_w 1953 ((lwt_8_7 18).trans rfl) (by decide +kernel))
theorem seX11_isTrue : Cond.selects RX11 yX11_isTrue yX11_isTrue ∈ z_tbl := (z_w 44 (by decide +kernel) (by decide +kernel))
abbrev mX11_isSound : z_M := (yX11_isSound, cX11_isSound, 1, (some .boolean), [])
theorem kX11_isSound : z_okm mX11_isSound 0 := ⟨rfl, (z_w 1950 ((lwt_8_7 15).trans rfl) (by decide +kernel)), (z_w 51 ((lwg_1 6).trans rfl) (by decide +kernel)), ncl_X11, pds_10, by decide⟩
theorem inX11_isSound : Cond.instanceMethod yX11_isSound ∈ z_tbl := (z_w 1948 ((lwt_8_7 13).trans rfl) (by decide +kernel))
theorem seX11_isSound : Cond.selects RX11 yX11_isSound yX11_isSound ∈ z_tbl := (z_w 1949 ((lwt_8_7 14).trans rfl) (by decide +kernel))
theorem lX11_240 : Cond.methodLink RX11 240 yX11_isTrue ∈ z_tbl := (z_w 1951 ((lwt_8_7 16).trans rfl) (by decide +kernel))
abbrev mX11_add : z_M := (yX11_add, cX11_add, 4, (some .long), [])
theorem pds_118 : (parseMethodDescriptor "(JJ)J").map (fun d => d.parameters.length) = some 2 := by decide +kernel
theorem kX11_add : z_okm mX11_add 2 := ⟨rfl, (z_w 1962 ((lwt_8_7 27).trans rfl) (by decide +kernel)), (z_w 51 ((lwg_1 6).trans rfl) (by decide +kernel)), ncl_X11, pds_118, by decide⟩
theorem stX11_add : Cond.static yX11_add ∈ z_tbl := (z_w 1961 ((lwt_8_7 26).trans rfl) (by decide +kernel))
abbrev mX11_digest : z_M := (yX11_digest, cX11_digest, 7, (some .long), [])
theorem kX11_digest : z_okm mX11_digest 0 := ⟨rfl, (z_w 1958 ((lwt_8_7 23).trans rfl) (by decide +kernel)), (z_w 51 ((lwg_1 6).trans rfl) (by decide +kernel)), ncl_X11, pds_48, by decide⟩
theorem inX11_digest : Cond.instanceMethod yX11_digest ∈ z_tbl := (z_w 1956 ((lwt_8_7 21).trans rfl) (by decide +kernel))
theorem seX11_digest : Cond.selects RX11 yX11_digest yX11_digest ∈ z_tbl := (z_w 1957 ((lwt_8_7 22).trans rfl) (by decide +kernel))
theorem lX11_247 : Cond.methodLink RX11 247 yX11_add ∈ z_tbl := (z_w 1960 ((lwt_8_7 25).trans rfl) (by decide +kernel))
theorem lX11_250 : Cond.methodLink RX11 250 yJ0_length_8abf5 ∈ z_tbl := (z_w 1964 ((lwt_8_7 29).trans rfl) (by decide +kernel))
end ZM18
