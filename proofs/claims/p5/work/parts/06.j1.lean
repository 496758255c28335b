section ZM0
abbrev z_E : Type := (Nat × Nat × (Nat → Value)) ⊕ (Nat × List Value)
abbrev z_W : Type := List z_E × (Nat → Option z_E)
def z_g (w : z_W) (n : Nat) : Option z_E := cond (Nat.blt n 1000) w.1[n]? (w.2 n)
def z_s (w : z_W) (n : Nat) (e : z_E) : z_W := cond (Nat.blt n 1000) (w.1.set n e, w.2) (w.1, fun m => cond (Nat.beq m n) (some e) (w.2 m))
def z_d (w : z_W) (n : Nat) : Prop := ∃ e, z_g w n = some e
theorem z_beq {m n : Nat} (h : m ≠ n) : Nat.beq m n = false := by
  cases hh : Nat.beq m n with
  | true => exact absurd (Nat.eq_of_beq_eq_true hh) h
  | false => rfl
theorem z_gs_ne {w : z_W} {n m : Nat} {e : z_E} (h : m ≠ n) : z_g (z_s w n e) m = z_g w m := by
  cases hb : Nat.blt n 1000 <;> cases hm : Nat.blt m 1000 <;> simp only [z_g, z_s, hb, hm, cond]
  · rw [z_beq h]
  · exact List.getElem?_set_ne (Ne.symm h)
theorem z_gs_self {w : z_W} {n : Nat} {e e0 : z_E} (h : z_g w n = some e0) : z_g (z_s w n e) n = some e := by
  cases hb : Nat.blt n 1000 <;> simp only [z_g, z_s, hb, cond] at h ⊢
  · rw [Nat.beq_refl]
  · have hl : n < w.1.length := (List.getElem?_eq_some_iff.mp h).1
    rw [List.getElem?_set_self hl]
theorem z_ds {w : z_W} {n : Nat} {e e0 : z_E} (h : z_g w n = some e0) (m : Nat) : z_d (z_s w n e) m ↔ z_d w m := by
  by_cases hm : m = n
  · subst hm
    exact ⟨fun _ => ⟨_, h⟩, fun _ => ⟨_, z_gs_self h⟩⟩
  · unfold z_d
    rw [z_gs_ne hm]
abbrev z_R : Type := (Nat → Nat) × (Nat → Option UInt32)
abbrev z_G : Type := (Nat → ClassId) × (Nat → Nat → Nat) × (Nat → ClassId) × Nat × (Nat → Nat → Prop) × Nat × (Nat → Int32)
abbrev z_dC (G : z_G) : Nat → ClassId := G.1
abbrev z_dI (G : z_G) : Nat → Nat → Nat := G.2.1
abbrev z_dA (G : z_G) : Nat → ClassId := G.2.2.1
abbrev z_b (G : z_G) : Nat := G.2.2.2.1
abbrev z_k (G : z_G) : Nat → Nat → Prop := G.2.2.2.2.1
abbrev z_sn (G : z_G) : Nat := G.2.2.2.2.2.1
abbrev z_sc (G : z_G) : Nat → Int32 := G.2.2.2.2.2.2
def z_cn (j : Nat) : UInt32 := (Int32.ofInt ((j : Int) - 128)).toUInt32
def z_cb (G : z_G) (q : Nat) (b : UInt32) : Prop := ∃ j, j < 256 ∧ z_k G (1000 + j) q ∧ b = z_cn j
def z_V (G : z_G) (R : z_R) (w : z_W) (v c : Value) : Prop := match v with
  | .int x => c = .int x
  | .long x => c = .long x
  | .null => c = .null
  | .ref n => z_d w n ∧ c = .ref (R.1 n)
  | .float b => ∃ q, c = .ref q ∧ (R.2 q = some b ∨ z_cb G q b)
  | .retAddr k => ∃ q, c = .ref q ∧ z_k G k q
  | .double _ => False
theorem z_V_cat {G : z_G} {R : z_R} {w : z_W} {v c : Value} (h : z_V G R w v c) : c.category = v.category := by
  cases v with
  | int x => have h : c = .int x := h; rw [h]
  | long x => have h : c = .long x := h; rw [h]
  | null => have h : c = .null := h; rw [h]
  | ref n => obtain ⟨-, h⟩ := h; rw [h]; rfl
  | float b => obtain ⟨q, h, -⟩ := h; rw [h]; rfl
  | retAddr k => obtain ⟨q, h, -⟩ := h; rw [h]; rfl
  | double b => exact h.elim
def z_L (P : Value → Value → Prop) : List Value → List Value → Prop
  | [], [] => True
  | a :: as, b :: bs => P a b ∧ z_L P as bs
  | _, _ => False
theorem z_Lc {P : Value → Value → Prop} {a : Value} {as l : List Value} (h : z_L P (a :: as) l) : ∃ b bs, l = b :: bs ∧ P a b ∧ z_L P as bs := by
  cases l with
  | nil => exact h.elim
  | cons b bs => exact ⟨b, bs, rfl, h.1, h.2⟩
theorem z_Ln {P : Value → Value → Prop} {l : List Value} (h : z_L P [] l) : l = [] := by
  cases l with
  | nil => rfl
  | cons b bs => exact h.elim
theorem z_Lm {P P' : Value → Value → Prop} (hP : ∀ a b, P a b → P' a b) : ∀ {as bs : List Value}, z_L P as bs → z_L P' as bs
  | [], [], _ => trivial
  | _ :: _, _ :: _, h => ⟨hP _ _ h.1, z_Lm hP h.2⟩
  | [], _ :: _, h => h.elim
  | _ :: _, [], h => h.elim
theorem z_Ll {P : Value → Value → Prop} : ∀ {as bs : List Value}, z_L P as bs → bs.length = as.length
  | [], [], _ => rfl
  | _ :: _, _ :: _, h => congrArg (· + 1) (z_Ll h.2)
  | [], _ :: _, h => h.elim
  | _ :: _, [], h => h.elim
theorem z_Lg {P : Value → Value → Prop} : ∀ {as bs : List Value} {k : Nat} {v : Value}, z_L P as bs → as[k]? = some v → ∃ c, bs[k]? = some c ∧ P v c
  | [], _, _, _, _, hk => by simp at hk
  | _ :: _, [], _, _, h, _ => h.elim
  | a :: as, b :: bs, 0, v, h, hk => ⟨b, rfl, by have e : a = v := Option.some.inj hk; rw [← e]; exact h.1⟩
  | a :: as, b :: bs, k + 1, v, h, hk => z_Lg (as := as) (bs := bs) (k := k) h.2 hk
theorem z_Ls {P : Value → Value → Prop} : ∀ {as bs : List Value} {k : Nat} {v c : Value}, z_L P as bs → P v c → z_L P (as.set k v) (bs.set k c)
  | [], [], _, _, _, _, _ => trivial
  | _ :: _, [], _, _, _, h, _ => h.elim
  | [], _ :: _, _, _, _, h, _ => h.elim
  | a :: as, b :: bs, 0, v, c, h, hv => ⟨hv, h.2⟩
  | a :: as, b :: bs, k + 1, v, c, h, hv => ⟨h.1, z_Ls (as := as) (bs := bs) (k := k) h.2 hv⟩
theorem z_Lapp {P : Value → Value → Prop} : ∀ {as as2 bs : List Value}, z_L P (as ++ as2) bs → ∃ b1 b2, bs = b1 ++ b2 ∧ z_L P as b1 ∧ z_L P as2 b2
  | [], as2, bs, h => ⟨[], bs, rfl, trivial, h⟩
  | a :: as, as2, [], h => h.elim
  | a :: as, as2, b :: bs, h => by
    obtain ⟨b1, b2, e, h1, h2⟩ := z_Lapp (as := as) (as2 := as2) (bs := bs) h.2
    exact ⟨b :: b1, b2, by rw [e]; rfl, ⟨h.1, h1⟩, h2⟩
theorem z_Lcat {P : Value → Value → Prop} : ∀ {as bs cs ds : List Value}, z_L P as bs → z_L P cs ds → z_L P (as ++ cs) (bs ++ ds)
  | [], [], _, _, _, h => h
  | _ :: _, [], _, _, h, _ => h.elim
  | [], _ :: _, _, _, h, _ => h.elim
  | a :: as, b :: bs, cs, ds, h, h2 => ⟨h.1, z_Lcat (as := as) (bs := bs) h.2 h2⟩
theorem z_Lrev {P : Value → Value → Prop} : ∀ {as bs : List Value}, z_L P as bs → z_L P as.reverse bs.reverse
  | [], [], _ => trivial
  | _ :: _, [], h => h.elim
  | [], _ :: _, h => h.elim
  | a :: as, b :: bs, h => by
    rw [List.reverse_cons, List.reverse_cons]
    exact z_Lcat (z_Lrev (as := as) (bs := bs) h.2) ⟨h.1, trivial⟩
def z_cat (l : List Value) : Nat := (l.map fun v => v.category).sum
theorem z_Lcs {G : z_G} {R : z_R} {w : z_W} : ∀ {as bs : List Value}, z_L (z_V G R w) as bs → (bs.map fun v => v.category).sum = z_cat as
  | [], [], _ => rfl
  | _ :: _, [], h => h.elim
  | [], _ :: _, h => h.elim
  | a :: as, b :: bs, h => by
    have e := z_Lcs (as := as) (bs := bs) h.2
    unfold z_cat at e ⊢
    simp only [List.map_cons, List.sum_cons]
    rw [e, z_V_cat h.1]
def z_LL (P : Value → Value → Prop) : List (Nat × Value) → List (Nat × Value) → Prop
  | [], [] => True
  | a :: as, b :: bs => (a.1 = b.1 ∧ P a.2 b.2) ∧ z_LL P as bs
  | _, _ => False
theorem z_LLm {P P' : Value → Value → Prop} (hP : ∀ a b, P a b → P' a b) : ∀ {as bs : List (Nat × Value)}, z_LL P as bs → z_LL P' as bs
  | [], [], _ => trivial
  | _ :: _, _ :: _, h => ⟨⟨h.1.1, hP _ _ h.1.2⟩, z_LLm hP h.2⟩
  | [], _ :: _, h => h.elim
  | _ :: _, [], h => h.elim
def z_find (lo : List (Nat × Value)) (i : Nat) : Option Value := match lo with
  | [] => none
  | q :: t => cond (Nat.beq q.1 i) (some q.2) (z_find t i)
theorem z_LLf {P : Value → Value → Prop} {i : Nat} {v : Value} : ∀ {as bs : List (Nat × Value)}, z_LL P as bs → z_find as i = some v → ∃ c, (i, c) ∈ bs ∧ P v c
  | [], _, _, hf => by simp [z_find] at hf
  | _ :: _, [], h, _ => h.elim
  | a :: as, b :: bs, h, hf => by
    unfold z_find at hf
    cases hb : Nat.beq a.1 i with
    | true =>
      rw [hb] at hf
      have e : a.2 = v := Option.some.inj hf
      have e1 : a.1 = i := Nat.eq_of_beq_eq_true hb
      refine ⟨b.2, ?_, e ▸ h.1.2⟩
      have e2 : b = (i, b.2) := by rw [← e1, h.1.1]
      rw [← e2]
      exact List.mem_cons_self
    | false =>
      rw [hb] at hf
      obtain ⟨c, h1, h2⟩ := z_LLf (as := as) (bs := bs) h.2 hf
      exact ⟨c, List.mem_cons_of_mem _ h1, h2⟩
def z_st (lo : List (Nat × Value)) (i : Nat) (v : Value) : List (Nat × Value) := (i, v) :: lo.filter (fun q => !(q.1 == i) && !(q.1 + 1 == i && q.2.category == 2))
def z_st2 (lo : List (Nat × Value)) (i : Nat) (v : Value) : List (Nat × Value) := (i, v) :: lo.filter (fun q => !(q.1 == i) && (!(q.1 == i + 1) && !(q.1 + 1 == i && q.2.category == 2)))
theorem z_LLfl {P : Value → Value → Prop} (hP : ∀ a b, P a b → b.category = a.category) (g : Nat → Nat → Bool) : ∀ {as bs : List (Nat × Value)}, z_LL P as bs → z_LL P (as.filter (fun q => g q.1 q.2.category)) (bs.filter (fun q => g q.1 q.2.category))
  | [], [], _ => trivial
  | _ :: _, [], h => h.elim
  | [], _ :: _, h => h.elim
  | a :: as, b :: bs, h => by
    have ih := z_LLfl hP g (as := as) (bs := bs) h.2
    have e : g b.1 b.2.category = g a.1 a.2.category := by rw [h.1.1, hP _ _ h.1.2]
    rw [List.filter_cons, List.filter_cons, e]
    cases g a.1 a.2.category with
    | true => exact ⟨h.1, ih⟩
    | false => exact ih
theorem z_LLst {P : Value → Value → Prop} (hP : ∀ a b, P a b → b.category = a.category) {as bs : List (Nat × Value)} {i : Nat} {v c : Value} (h : z_LL P as bs) (hv : P v c) : z_LL P (z_st as i v) (z_st bs i c) :=
  ⟨⟨rfl, hv⟩, z_LLfl hP (fun x y => !(x == i) && !(x + 1 == i && y == 2)) h⟩
theorem z_LLst2 {P : Value → Value → Prop} (hP : ∀ a b, P a b → b.category = a.category) {as bs : List (Nat × Value)} {i : Nat} {v c : Value} (h : z_LL P as bs) (hv : P v c) : z_LL P (z_st2 as i v) (z_st2 bs i c) :=
  ⟨⟨rfl, hv⟩, z_LLfl hP (fun x y => !(x == i) && (!(x == i + 1) && !(x + 1 == i && y == 2))) h⟩
theorem z_LLar {P : Value → Value → Prop} (hP : ∀ a b, P a b → b.category = a.category) : ∀ {as bs : List Value} {i : Nat}, z_L P as bs → z_LL P (lv_args i as) (lv_args i bs)
  | [], [], _, _ => trivial
  | _ :: _, [], _, h => h.elim
  | [], _ :: _, _, h => h.elim
  | a :: as, b :: bs, i, h => by
    unfold lv_args
    rw [hP _ _ h.1]
    exact ⟨⟨rfl, h.1⟩, z_LLar hP (as := as) (bs := bs) h.2⟩
def z_lo (G : z_G) (R : z_R) (w : z_W) (lo : List (Nat × Value)) (ls : Array Slot) (nL : Nat) : Prop := ∃ clo, lv_has ls nL clo ∧ z_LL (z_V G R w) lo clo
theorem z_lof {G : z_G} {R : z_R} {w : z_W} {lo : List (Nat × Value)} {ls : Array Slot} {nL i : Nat} {v : Value} (h : z_lo G R w lo ls nL) (hf : z_find lo i = some v) : ∃ c, ls[i]? = some (.val c) ∧ z_V G R w v c := by
  obtain ⟨clo, h1, h2⟩ := h
  obtain ⟨c, h3, h4⟩ := z_LLf h2 hf
  exact ⟨c, h1.2.2 _ h3, h4⟩
theorem z_lom {G : z_G} {R R' : z_R} {w w' : z_W} {lo : List (Nat × Value)} {ls : Array Slot} {nL : Nat} (hP : ∀ a b, z_V G R w a b → z_V G R' w' a b) (h : z_lo G R w lo ls nL) : z_lo G R' w' lo ls nL := by
  obtain ⟨clo, h1, h2⟩ := h
  exact ⟨clo, h1, z_LLm hP h2⟩
abbrev z_cls : List vw_C := vwCl
def z_tyl : List FieldType := [.int, .boolean, .byte, .object "java/lang/Object", .object "Loopdefaults$Row", .object "Loopdefaults$Table", .object "Loopdefaults$Hearer", .object "LoopdefaultsModel$Hearer", .array .int]
def z_X (G : z_G) (R : z_R) (w : z_W) (e : z_E) (a : Nat) (H : Heap) : Prop := match e with
  | .inl x => ∃ z : Nat → Value, H[a]? = some (arrV (z_dA G x.1) x.2.1 z) ∧ ∀ j, j < x.2.1 → z_V G R w (x.2.2 j) (z j)
  | .inr o => ∃ (q : vw_C) (gs : List Value), z_cls[o.1]? = some q ∧ o.2.length = q.2.2 ∧ t_OB a (z_dC G o.1) q.2.2 (z_dI G o.1) H (vp_V gs) ∧ z_L (z_V G R w) o.2 gs
theorem z_X.kept {G : z_G} {R R' : z_R} {w w' : z_W} {e : z_E} {a : Nat} {H H' : Heap} (h : z_X G R w e a H) (hV : ∀ v c, z_V G R w v c → z_V G R' w' v c) (hH : H'[a]? = H[a]?) : z_X G R' w' e a H' := by
  cases e with
  | inl x =>
    obtain ⟨z, h1, h2⟩ := h
    exact ⟨z, hH.trans h1, fun j hj => hV _ _ (h2 j hj)⟩
  | inr o =>
    obtain ⟨q, gs, h1, h2, h3, h4⟩ := h
    exact ⟨q, gs, h1, h2, h3.kept hH, z_Lm hV h4⟩
theorem z_X.lt {G : z_G} {R : z_R} {w : z_W} {e : z_E} {a : Nat} {H : Heap} (h : z_X G R w e a H) : a < H.size := by
  cases e with
  | inl x => obtain ⟨z, h1, -⟩ := h; exact (Array.getElem?_eq_some_iff.mp h1).1
  | inr o => obtain ⟨q, gs, -, -, ⟨cell, h1, -⟩, -⟩ := h; exact (Array.getElem?_eq_some_iff.mp h1).1
def z_P (G : z_G) (R : z_R) (w : z_W) (H : Heap) : Prop :=
  (∀ (n : Nat) (e : z_E), z_g w n = some e → z_X G R w e (R.1 n) H ∧ z_b G ≤ R.1 n) ∧ (∀ n m : Nat, z_d w n → z_d w m → R.1 n = R.1 m → n = m) ∧
  (∀ (q : Nat) (b : UInt32), R.2 q = some b → t_OB q (z_dC G 2) 1 (z_dI G 2) H (fun _ => .int b.toInt32) ∧ ∀ n : Nat, z_d w n → R.1 n ≠ q)
def z_T (R0 : z_R) (w0 : z_W) (sz : Nat) (R : z_R) (w : z_W) : Prop :=
  (∀ n : Nat, z_d w0 n → z_d w n ∧ R.1 n = R0.1 n) ∧ (∀ (q : Nat) (b : UInt32), R0.2 q = some b → R.2 q = some b) ∧
  (∀ n : Nat, z_d w n → ¬ z_d w0 n → sz ≤ R.1 n) ∧ (∀ (q : Nat) (b : UInt32), R.2 q = some b → R0.2 q = none → sz ≤ q)
theorem z_T.rf {R : z_R} {w : z_W} {sz : Nat} : z_T R w sz R w := ⟨fun _ h => ⟨h, rfl⟩, fun _ _ h => h, fun _ h h2 => absurd h h2, fun _ _ h h2 => by rw [h] at h2; cases h2⟩
theorem z_T.V {G : z_G} {R0 R : z_R} {w0 w : z_W} {sz : Nat} (h : z_T R0 w0 sz R w) (v c : Value) (hv : z_V G R0 w0 v c) : z_V G R w v c := by
  cases v with
  | int x => exact hv
  | long x => exact hv
  | null => exact hv
  | ref n => exact ⟨(h.1 n hv.1).1, by rw [(h.1 n hv.1).2]; exact hv.2⟩
  | float b => obtain ⟨q, h1, h2⟩ := hv; exact ⟨q, h1, h2.imp (h.2.1 q b) id⟩
  | retAddr k => exact hv
  | double b => exact hv
theorem z_T.tr {R0 R1 R2 : z_R} {w0 w1 w2 : z_W} {s1 s2 : Nat} (h : z_T R0 w0 s1 R1 w1) (h2 : z_T R1 w1 s2 R2 w2) (hs : s1 ≤ s2) : z_T R0 w0 s1 R2 w2 := by
  refine ⟨fun n hn => ⟨(h2.1 n (h.1 n hn).1).1, ((h2.1 n (h.1 n hn).1).2).trans (h.1 n hn).2⟩, fun q b hq => h2.2.1 q b (h.2.1 q b hq), fun n hn hno => ?_, fun q b hq hno => ?_⟩
  · by_cases h1 : z_d w1 n
    · rw [(h2.1 n h1).2]
      exact h.2.2.1 n h1 hno
    · exact Nat.le_trans hs (h2.2.2.1 n hn h1)
  · cases h1 : R1.2 q with
    | none => exact Nat.le_trans hs (h2.2.2.2 q b hq h1)
    | some b1 => exact h.2.2.2 q b1 h1 hno
def z_A (R0 : z_R) (w0 : z_W) (sz : Nat) : Nat → Prop := fun q => (∃ n, z_d w0 n ∧ R0.1 n = q) ∨ sz ≤ q
theorem z_T.A {R0 R : z_R} {w0 w : z_W} {sz n : Nat} (h : z_T R0 w0 sz R w) (hn : z_d w n) : z_A R0 w0 sz (R.1 n) := by
  by_cases h0 : z_d w0 n
  · exact Or.inl ⟨n, h0, ((h.1 n h0).2).symm⟩
  · exact Or.inr (h.2.2.1 n hn h0)
theorem z_A.b {G : z_G} {R0 : z_R} {w0 : z_W} {H : Heap} (hP : z_P G R0 w0 H) (hb : z_b G ≤ H.size) {q : Nat} (h : z_A R0 w0 H.size q) : z_b G ≤ q := by
  rcases h with ⟨n, ⟨e, he⟩, rfl⟩ | h
  · exact (hP.1 n e he).2
  · exact Nat.le_trans hb h
def z_fr (G : z_G) (A : Nat → Prop) (H0 H : Heap) (locs : List Loc) : Prop := H0.size ≤ H.size ∧ (∀ q : Nat, q < H0.size → ¬ A q → H[q]? = H0[q]?) ∧ ∀ x ∈ locs, z_b G ≤ x.base
end ZM0
section ZM1
def z_isN : Cond → Bool
  | .fieldLinkNest .. => true
  | .methodLinkNest .. => true
  | .castable .. => true
  | .declares _ => true
  | .privateMethod _ => true
  | .arrayOver (.object _) => true
  | .arrayOver (.array _) => true
  | _ => false
def z_tbl : List Cond := lw_tbl.filter goodWord
def z_nst : List Cond := lw_tbl.filter z_isN
theorem z_nstm {w : Cond} (hw : z_isN w = true) {s U : State} (hW : s.WarmedH U.vm) (h : va_Nw w s) : va_Nw w U := by
  unfold z_isN at hw
  split at hw
  · exact va_Nw.warmF hW h
  · exact va_Nw.warmM hW h
  · exact va_Nw.warmC hW h
  · exact va_Nw.warmD hW h
  · exact va_Nw.of (A := #[]) rfl (Cond.privateMethod_warm hW (va_Nw.use (A := #[]) rfl h))
  · exact va_AO.moved hW.alike h
  · exact over_moved hW.alike h
  · cases hw
theorem z_w {w : Cond} (i : Nat) (h : lw_tbl[i]? = some w) (hg : goodWord w = true) : w ∈ z_tbl := List.mem_filter.mpr ⟨List.mem_of_getElem? h, hg⟩
theorem z_wn {w : Cond} (i : Nat) (h : lw_tbl[i]? = some w) (hg : z_isN w = true) : w ∈ z_nst := List.mem_filter.mpr ⟨List.mem_of_getElem? h, hg⟩
abbrev z_zq (G : z_G) (f d : String) (U : State) (H : Heap) : Prop := vx_Zq Bundle.tN f d (fun q => z_b G ≤ q) U H
def z_zst : List (String × String × String × Value) := [("java/lang/String", "COMPACT_STRINGS", "Z", .int 1), ("java/lang/Integer$IntegerCache", "high", "I", .int 127), ("java/util/ArrayList", "DEFAULTCAPACITY_EMPTY_ELEMENTDATA", "[Ljava/lang/Object;", .retAddr 0), ("java/util/ArrayList", "EMPTY_ELEMENTDATA", "[Ljava/lang/Object;", .retAddr 1), ("java/lang/Integer$IntegerCache", "cache", "[Ljava/lang/Integer;", .retAddr 2), ("java/lang/Integer", "DigitOnes", "[B", .retAddr 3), ("java/lang/Integer", "DigitTens", "[B", .retAddr 4)]
def z_cv (G : z_G) (v c : Value) : Prop := match v with
  | .retAddr k => ∃ q, c = .ref q ∧ z_k G k q
  | v => c = v
abbrev z_vT (G : z_G) (ty : FieldType) (q N : Nat) (f : Nat → Value) (U : State) : Prop := va_T ty q N f (fun q => z_b G ≤ q) U U.heap
def z_Fg (U : State) : Prop := va_Nw (.interfaceMethod "java/util/Collection" "java/lang/Object" "getClass" "()Ljava/lang/Class;") U ∧ va_Nw (.declares ⟨"java/lang/Object", "getClass", "()Ljava/lang/Class;"⟩) U ∧ va_Nw (.publicMethod ⟨"java/lang/Object", "getClass", "()Ljava/lang/Class;"⟩) U ∧ va_Nw (.unhidden "java/util/ArrayList" "getClass" "()Ljava/lang/Class;") U ∧ va_Nw (.castable "java/util/ArrayList" "java/util/Collection") U
theorem z_Fg.moved {u U : State} (hvm : u.vm.Alike U.vm) (h : z_Fg u) : z_Fg U := by
  obtain ⟨h1, h2, h3, h4, h5⟩ := h
  have tr : ∀ {c : Cond}, c.onTables = true → c.before #[] (u.setVm U.vm) = true → c.before #[] U = true := by
    intro c hc h
    have e := Cond.onTables_vm (A := #[]) (A' := #[]) (U := u) (U' := U) U.vm c hc
    have hU : U.setVm U.vm = U := rfl
    rw [hU] at e
    rw [← e]
    exact h
  have e1 : (Cond.interfaceMethod "java/util/Collection" "java/lang/Object" "getClass" "()Ljava/lang/Class;").before #[] (u.setVm U.vm) = (Cond.interfaceMethod "java/util/Collection" "java/lang/Object" "getClass" "()Ljava/lang/Class;").before #[] u := by
    simp only [Cond.before, Cond.holds, Cond.value, State.vm_setVm, hvm.findClass, State.methodFound?_setVm hvm, State.methodNamed?_setVm hvm, arm_isInterface_setVm hvm]
  exact ⟨tr rfl (e1.trans h1), tr rfl ((Cond.declares_setVm hvm _).trans h2), tr rfl ((Cond.publicMethod_setVm hvm _).trans h3), tr rfl ((Cond.unhidden_setVm hvm _ _ _).trans h4), tr rfl ((Cond.castable_setVm hvm _ _).trans h5)⟩
def z_Fi (U : State) : Prop := va_Fw "java/util/ArrayList" ⟨"java/util/Collection", "toArray", "()[Ljava/lang/Object;"⟩ ⟨"java/util/ArrayList", "toArray", "()[Ljava/lang/Object;"⟩ U ∧ va_Fw "java/util/ArrayList$Itr" ⟨"java/util/Iterator", "hasNext", "()Z"⟩ ⟨"java/util/ArrayList$Itr", "hasNext", "()Z"⟩ U ∧ va_Fw "java/util/ArrayList$Itr" ⟨"java/util/Iterator", "next", "()Ljava/lang/Object;"⟩ ⟨"java/util/ArrayList$Itr", "next", "()Ljava/lang/Object;"⟩ U ∧ z_Fg U
theorem z_Fi.moved {u U : State} (hvm : u.vm.Alike U.vm) (h : z_Fi u) : z_Fi U := ⟨h.1.moved (by decide) hvm, h.2.1.moved (by decide) hvm, h.2.2.1.moved (by decide) hvm, h.2.2.2.moved hvm⟩
def z_OB (o : Nat) (cC : ClassId) (N : Nat) (iS : Nat → Nat) (H : Heap) (V : Nat → Value) : Prop := ∃ cell : Cell, H[o]? = some cell ∧ cell.cls = cC ∧ (cell.vm.isStatics = false ∧ cell.vm ≠ .unknown) ∧ ∀ k, k < N → cell.slots[iS k]? = some (V k)
theorem z_OB.of {o : Nat} {cC : ClassId} {N : Nat} {iS : Nat → Nat} {H : Heap} {V : Nat → Value} (h : t_OB o cC N iS H V) : z_OB o cC N iS H V := by
  obtain ⟨cell, h1, h2, h3, h4⟩ := h
  exact ⟨cell, h1, h2, ⟨by rw [h3]; rfl, by rw [h3]; exact fun z => by cases z⟩, h4⟩
def z_cst (G : z_G) (U : State) : Prop :=
  (∀ k q q' : Nat, z_k G k q → z_k G k q' → q = q') ∧ (∀ k q : Nat, k < 6 ∨ 8 ≤ k → z_k G k q → ¬ z_b G ≤ q) ∧
  (∀ x ∈ z_zst, ∃ v, z_cv G x.2.2.2 v ∧ va_Z x.1 x.2.1 x.2.2.1 v (fun q => z_b G ≤ q) U U.heap) ∧
  (∀ k q : Nat, k < 2 → z_k G k q → ∃ f, z_vT G (.object "java/lang/Object") q 0 f U) ∧
  (∀ q : Nat, z_k G 2 q → ∃ f, z_vT G (.object "java/lang/Integer") q 256 f U ∧ ∀ j, j < 256 → ∃ r, f j = .ref r ∧ z_k G (1000 + j) r) ∧
  (∀ k q : Nat, (k = 3 ∨ k = 4) → z_k G k q → ∃ f, z_vT G .byte q 100 f U ∧ ∀ j, j < 100 → ∃ x, f j = .int x) ∧
  (∀ j q : Nat, j < 256 → z_k G (1000 + j) q → z_OB q (z_dC G 2) 1 (z_dI G 2) U.heap (fun _ => .int (z_cn j).toInt32)) ∧
  (∃ q : Nat, z_k G 6 q ∧ va_Mi "[Ljava/lang/Object;" q U) ∧
  (∀ (i : Nat) (t : String × Nat × String), z_strs[i]? = some t → t.1 = "LoopdefaultsModel" ∨ t.1 = "LoopdefaultsModel$Hearer" → ∃ a bq : Nat, z_k G (10 + i) a ∧ z_k G (50 + i) bq ∧ vk_R t.1 t.2.1 t.2.2 a U ∧
    z_OB a (z_dC G 0) 2 (z_dI G 0) U.heap (vp_V [.ref bq, .int 0])) ∧
  (∀ (i q : Nat) (t : String × Nat × String), z_strs[i]? = some t → z_k G (50 + i) q → ∃ f, z_vT G .byte q t.2.2.length f U ∧ ∀ j, j < t.2.2.length → ∃ x, f j = .int x ∧ fits .byte (.int x) = true) ∧
  (∀ k q : Nat, k < 2 → z_k G k q → va_O "[Ljava/lang/Object;" q (fun q => z_b G ≤ q) U U.heap) ∧ (∃ q : Nat, z_k G 7 q ∧ va_Mi "java/util/ArrayList" q U) ∧ z_Fi U
theorem z_OBm {G : z_G} {u U : State} {q N : Nat} {cC : ClassId} {iS : Nat → Nat} {V : Nat → Value} (hh : ∀ q : Nat, q < u.heap.size → ¬ z_b G ≤ q → U.heap[q]? = u.heap[q]?) (hq : ¬ z_b G ≤ q) (h : z_OB q cC N iS u.heap V) : z_OB q cC N iS U.heap V := by
  obtain ⟨cell, h1, h2⟩ := h
  exact ⟨cell, by rw [hh q (Array.getElem?_eq_some_iff.mp h1).1 hq]; exact h1, h2⟩
theorem z_cstm {G : z_G} {u U : State} (h : z_cst G u) (hW : u.WarmedH U.vm) (hh : ∀ q : Nat, q < u.heap.size → ¬ z_b G ≤ q → U.heap[q]? = u.heap[q]?) : z_cst G U := by
  obtain ⟨h1, h2, h3, h4, h5, h6, h7, h8, h9, h10, h11, h12, h13⟩ := h
  have hT : ∀ {ty : FieldType} {q N : Nat} {f : Nat → Value}, z_vT G ty q N f u → z_vT G ty q N f U := fun h => va_T.moved hW.alike (h.kept hh)
  refine ⟨h1, h2, fun x hx => ?_, fun k q hk hq => ?_, fun q hq => ?_, fun k q hk hq => ?_, fun j q hj hq => z_OBm hh (h2 _ _ (Or.inr (by omega)) hq) (h7 j q hj hq), ?_, fun i t hi ht => ?_, fun i q t hi hq => ?_, fun k q hk hq => ?_, ?_, h13.moved hW.alike⟩
  · obtain ⟨v, hv, hz⟩ := h3 x hx
    exact ⟨v, hv, va_Z.moved hW.alike (hz.kept hh)⟩
  · obtain ⟨f, hf⟩ := h4 k q hk hq
    exact ⟨f, hT hf⟩
  · obtain ⟨f, hf, hr⟩ := h5 q hq
    exact ⟨f, hT hf, hr⟩
  · obtain ⟨f, hf, hr⟩ := h6 k q hk hq
    exact ⟨f, hT hf, hr⟩
  · obtain ⟨q, hq, hm⟩ := h8
    exact ⟨q, hq, hm.moved hW.alike⟩
  · obtain ⟨a, bq, ha, hbq, hR, hO⟩ := h9 i t hi ht
    exact ⟨a, bq, ha, hbq, vk_R.warm hW hR, z_OBm hh (h2 _ _ (Or.inr (by omega)) ha) hO⟩
  · obtain ⟨f, hf, hr⟩ := h10 i q t hi hq
    exact ⟨f, hT hf, hr⟩
  · obtain ⟨cell, o1, o2, o3, o4⟩ := h11 k q hk hq
    exact va_O.moved hW.alike ⟨cell, by rw [hh q (Array.getElem?_eq_some_iff.mp o1).1 o4]; exact o1, o2, o3, o4⟩
  · obtain ⟨q, hq, hm⟩ := h12
    exact ⟨q, hq, hm.moved hW.alike⟩
def z_scr (G : z_G) (U : State) : Prop := ∀ q : Nat, z_k G 8 q → ∃ f, z_vT G .int q (z_sn G) f U ∧ ∀ j, j < z_sn G → f j = .int (z_sc G j)
def z_env (G : z_G) (U : State) : Prop :=
  (∀ (c : Nat) (q : vw_C), z_cls[c]? = some q → u_Kn U q.1 q.2.1 q.2.2 (z_dC G c) (z_dI G c)) ∧ (∀ (k : Nat) (ty : FieldType), z_tyl[k]? = some ty → ArrOfT U (z_dA G k) ty ∧ va_RA U (z_dA G k) ty) ∧
  (∀ w ∈ z_nst, va_Nw w U) ∧ (∀ x ∈ z_strs, ∃ a : Nat, vk_R x.1 x.2.1 x.2.2 a U) ∧ ((∀ x ∈ z_ncs, va_Nc x.1 x.2 U) ∧ z_scr G U) ∧ z_zq G "UNASSIGNED_STACK" Bundle.steD U U.heap ∧ z_zq G "SUPPRESSED_SENTINEL" Bundle.listD U U.heap ∧ z_cst G U
theorem z_envm {G : z_G} {u U : State} (h : z_env G u) (hW : u.WarmedH U.vm) (hh : ∀ q : Nat, q < u.heap.size → ¬ z_b G ≤ q → U.heap[q]? = u.heap[q]?) : z_env G U := by
  obtain ⟨h1, h2, h3, h4, h5, h6, h7, h8⟩ := h
  refine ⟨fun c q hq => u_Kn_moved hW.alike (h1 c q hq), fun k ty hk => ⟨arrOfT_moved hW.alike (h2 k ty hk).1, (h2 k ty hk).2.moved hW.alike⟩, fun w hw => z_nstm (List.mem_filter.mp hw).2 hW (h3 w hw), fun x hx => ?_, ⟨fun x hx => va_Nc.moved hW.alike (h5.1 x hx), fun q hq => by obtain ⟨f, hf, hr⟩ := h5.2 q hq; exact ⟨f, va_T.moved hW.alike (hf.kept hh), hr⟩⟩, vx_Zq.moved hW.alike (h6.kept hh), vx_Zq.moved hW.alike (h7.kept hh), z_cstm h8 hW hh⟩
  obtain ⟨a, ha⟩ := h4 x hx
  exact ⟨a, vk_R.warm hW ha⟩
abbrev z_M : Type := MethodName × ByteArray × Nat × Option FieldType × List (Nat × Nat × Nat × Nat)
def z_code (y : z_M) : Cond := match y.2.2.2.2 with
  | [] => Cond.code y.1 y.2.1 y.2.2.1 y.2.2.2.1
  | hh => Cond.codeWith y.1 y.2.1 y.2.2.1 y.2.2.2.1 hh
def z_ws (y : z_M) : List Cond := z_code y :: z_tbl
def z_rm (rk mc ms : Nat) : Room := { frames := rk, cells := mc, slots := ms, locals := 40 * rk }
def z_O (P : Value → Value → Prop) : Option Value → Option Value → Prop
  | none, none => True
  | some a, some b => P a b
  | _, _ => False
abbrev z_S : Type := Nat × Nat × Nat × z_W × (Option Value → z_W → Prop) × (String → z_W → Prop)
def z_Pc (G : z_G) (R0 : z_R) (w0 : z_W) (av : List Value) : Array Value → State → Prop := fun a U =>
  (∃ cav : List Value, a = cav.toArray ∧ z_L (z_V G R0 w0) av cav) ∧ z_env G U ∧ z_P G R0 w0 U.heap ∧ z_b G ≤ U.heap.size
def z_Qc (G : z_G) (R0 : z_R) (w0 : z_W) (Q : Option Value → z_W → Prop) : Array Value → State → Outcome → State → Prop := fun _ st o t =>
  ∃ (v cv : Option Value) (R : z_R) (w : z_W), o = .returned cv ∧ z_O (z_V G R w) v cv ∧ Q v w ∧ z_P G R w t.heap ∧ z_T R0 w0 st.heap.size R w ∧ va_F (z_A R0 w0 st.heap.size) st t
def z_Xc (G : z_G) (R0 : z_R) (w0 : z_W) (X : String → z_W → Prop) : String → State → State → Prop := fun E st t =>
  ∃ (R : z_R) (w : z_W), X E w ∧ z_P G R w t.heap ∧ z_T R0 w0 st.heap.size R w ∧ va_F (z_A R0 w0 st.heap.size) st t
def z_Con (G : z_G) (l : Launch) (y : z_M) (rk mc ms : Nat) (w0 : z_W) (av : List Value) (Q : Option Value → z_W → Prop) (X : String → z_W → Prop) : Prop :=
  ∀ R0 : z_R, vx_Met l y.1 (z_ws y) (z_rm rk mc ms) (z_Pc G R0 w0 av) (z_Qc G R0 w0 Q) (z_Xc G R0 w0 X) mc ms (fun q => z_b G ≤ q)
def z_ok (G : z_G) (l : Launch) (y : z_M) (S : z_S) (p : Program) (s : State) (m : MethodId) (args : Array Value) (meth : Method) (c : Code) (R0 : z_R) : Prop :=
  p.tables.exec = Jvm.exec ∧ c.code = y.2.1 ∧ c.maxLocals = y.2.2.1 ∧ meth.sig.returnType = y.2.2.2.1 ∧ meth.locks = false ∧ s.vm.findClass y.1.cls = some m.cls ∧ (∀ w ∈ z_tbl, w.before args s = true) ∧ z_env G s ∧
  z_P G R0 S.2.2.2.1 s.heap ∧ z_b G ≤ s.heap.size ∧ c.exceptionTable.toList = tableOf y.2.2.2.2 ∧ meth.name = y.1.name ∧ l.stackTraces = false
def z_at (G : z_G) (S : z_S) (R0 : z_R) (s : State) (R : z_R) (w : z_W) (H : Heap) (locs : List Loc) : Prop :=
  z_P G R w H ∧ z_T R0 S.2.2.2.1 s.heap.size R w ∧ z_fr G (z_A R0 S.2.2.2.1 s.heap.size) s.heap H locs
def z_J (G : z_G) (l : Launch) (y : z_M) (S : z_S) (pc : Nat) (lo : List (Nat × Value)) (st : List Value) (w : z_W) (kc ks : Nat) : Prop :=
  ∀ (p : Program) (e : Env) (s : State) (m : MethodId) (args : Array Value) (below : List Frame) (meth : Method) (c : Code) (R0 : z_R), z_ok G l y S p s m args meth c R0 →
    ∀ (R : z_R) (H : Heap) (locs : List Loc) (ls : Array Slot) (cst : List Value), z_at G S R0 s R w H locs → z_lo G R w lo ls c.maxLocals → z_L (z_V G R w) st cst →
      W p l e (z_rm S.1 S.2.1 S.2.2.1) s m args below meth c H locs kc ks (vx_MQ below (z_Qc G R0 S.2.2.2.1 S.2.2.2.2.1) (z_Xc G R0 S.2.2.2.1 S.2.2.2.2.2) args s S.2.1 S.2.2.1 (fun q => z_b G ≤ q)) (F0 m pc ls cst)
theorem z_Pc_blind {G : z_G} {R0 : z_R} {w0 : z_W} {av : List Value} : FrameBlind (z_Pc G R0 w0 av) := by
  intro a U g mk h
  obtain ⟨h1, h2, h3, h4⟩ := h
  exact ⟨h1, z_envm (U := U.calling g mk a) h2 (State.WarmedH.refl U) (fun _ _ _ => rfl), h3, h4⟩
section ZB
variable {G : z_G} {l : Launch} {y : z_M} {rk mc ms : Nat} {w0 : z_W} {av : List Value} {Q : Option Value → z_W → Prop} {X : String → z_W → Prop}
theorem z_start {G : z_G} {l : Launch} {y : z_M} {S : z_S} {p : Program} {s : State} {m : MethodId} {args : Array Value} {meth : Method} {c : Code} {R0 : z_R} (h : z_ok G l y S p s m args meth c R0) : z_at G S R0 s R0 S.2.2.2.1 s.heap [] :=
  ⟨h.2.2.2.2.2.2.2.2.1, z_T.rf, Nat.le_refl _, fun _ _ _ => rfl, fun _ hx => by cases hx⟩
theorem z_lgl {R : z_R} : ∀ {as bs : List Value}, z_L (z_V G R w0) as bs → (lg_sl bs).length = (lg_sl as).length
  | [], [], _ => rfl
  | _ :: _, [], h => h.elim
  | [], _ :: _, h => h.elim
  | a :: as, b :: bs, h => by
    have e := z_lgl (as := as) (bs := bs) h.2
    unfold lg_sl at e ⊢
    rw [List.flatMap_cons, List.flatMap_cons, List.length_append, List.length_append, e, z_V_cat h.1]
    by_cases hc : a.category = 2
    · rw [if_pos hc, if_pos hc]; rfl
    · rw [if_neg hc, if_neg hc]; rfl
theorem z_body (hl : l.stackTraces = false) (hy : plainName y.1.cls = true) (hh : y.2.2.2.2 = []) (hn : (lg_sl av).length ≤ y.2.2.1) (h : z_J G l y (rk, mc, ms, w0, Q, X) 0 (lv_args 0 av) [] w0 0 0) : z_Con G l y rk mc ms w0 av Q X := by
  obtain ⟨yn, yb, yl, yr, yt⟩ := y
  have hh : yt = [] := hh
  subst hh
  intro R0
  refine vx_ofW (cc := yb) (maxL := yl) (ret := yr) (ws' := z_tbl) hy rfl ?_
  intro p e s m args below meth c s₁ B hml ht hv
  obtain ⟨⟨cav, rfl, hav⟩, henv, hP, hb⟩ := hv
  have hts : ∀ w ∈ z_tbl, w.before cav.toArray s = true := fun w hw => atoms_spec (ws := z_ws (yn, yb, yl, yr, [])) B.pre w (List.mem_cons_of_mem _ hw)
  have htab : c.exceptionTable.toList = tableOf [] := by
    cases hc : c.exceptionTable.toList with
    | nil => rfl
    | cons x t => exact (ht x (by rw [hc]; exact List.mem_cons_self)).elim
  have hok : z_ok G l (yn, yb, yl, yr, []) (rk, mc, ms, w0, Q, X) p s m cav.toArray meth c R0 :=
    ⟨B.exec, B.bytes, hml, B.returns, B.notSynchronized, findClass_of_methodNamed B.named, hts, henv, hP, hb, htab, (name_of_methodNamed B.named B.method).1, hl⟩
  rw [lg_entry_eq]
  refine h p e s m cav.toArray below meth c R0 hok R0 s.heap [] _ [] (z_start hok) ⟨lv_args 0 cav, ?_, z_LLar (fun _ _ => z_V_cat) hav⟩ trivial
  rw [hml]
  exact lv_entry cav (by rw [z_lgl hav]; exact hn)
theorem z_bodyW (hl : l.stackTraces = false) (hy : plainName y.1.cls = true) (hh : y.2.2.2.2 ≠ []) (hn : (lg_sl av).length ≤ y.2.2.1) (h : z_J G l y (rk, mc, ms, w0, Q, X) 0 (lv_args 0 av) [] w0 0 0) : z_Con G l y rk mc ms w0 av Q X := by
  obtain ⟨yn, yb, yl, yr, yt⟩ := y
  cases yt with
  | nil => exact absurd rfl hh
  | cons t0 t1 =>
  intro R0
  refine vx_ofWH (cc := yb) (maxL := yl) (ret := yr) (ws' := z_tbl) (hh := t0 :: t1) hy rfl ?_
  intro p e s m args below meth c s₁ B hml hv
  obtain ⟨⟨cav, rfl, hav⟩, henv, hP, hb⟩ := hv
  have hts : ∀ w ∈ z_tbl, w.before cav.toArray s = true := fun w hw => atoms_spec (ws := z_ws (yn, yb, yl, yr, t0 :: t1)) B.pre w (List.mem_cons_of_mem _ hw)
  have htab : c.exceptionTable.toList = tableOf (t0 :: t1) := vx_table (x := yn) B (atoms_spec (ws := z_ws (yn, yb, yl, yr, t0 :: t1)) B.pre _ List.mem_cons_self)
  have hok : z_ok G l (yn, yb, yl, yr, t0 :: t1) (rk, mc, ms, w0, Q, X) p s m cav.toArray meth c R0 :=
    ⟨B.exec, B.bytes, hml, B.returns, B.notSynchronized, findClass_of_methodNamed B.named, hts, henv, hP, hb, htab, (name_of_methodNamed B.named B.method).1, hl⟩
  rw [lg_entry_eq]
  refine h p e s m cav.toArray below meth c R0 hok R0 s.heap [] _ [] (z_start hok) ⟨lv_args 0 cav, ?_, z_LLar (fun _ _ => z_V_cat) hav⟩ trivial
  rw [hml]
  exact lv_entry cav (by rw [z_lgl hav]; exact hn)
end ZB
end ZM1
section ZM2
section ZR
variable {G : z_G} {l : Launch} {y : z_M} {S : z_S} {pc : Nat} {lo : List (Nat × Value)} {st : List Value} {w : z_W} {kc ks : Nat}
theorem j_iconst {x : Int} {v : Int32} (hd : decode y.2.1 pc = .ok (.iconst x, 1)) (hv : Int32.ofInt x = v) (h : z_J G l y S (pc + 1) lo (.int v :: st) w kc ks) : z_J G l y S pc lo st w kc ks := by
  intro p e s m args below meth c R0 hok R H locs ls cst hat hlo hst
  exact lv_iconst hok.1 hok.2.1 hd hv (h p e s m args below meth c R0 hok R H locs ls _ hat hlo ⟨rfl, hst⟩)
theorem j_bipush {x : Int} {v : Int32} (hd : decode y.2.1 pc = .ok (.bipush x, 2)) (hv : (Int8.ofInt x).toInt32 = v) (h : z_J G l y S (pc + 2) lo (.int v :: st) w kc ks) : z_J G l y S pc lo st w kc ks := by
  intro p e s m args below meth c R0 hok R H locs ls cst hat hlo hst
  exact lv_bipush hok.1 hok.2.1 hd hv (h p e s m args below meth c R0 hok R H locs ls _ hat hlo ⟨rfl, hst⟩)
theorem j_sipush {x : Int} {v : Int32} (hd : decode y.2.1 pc = .ok (.sipush x, 3)) (hv : (Int16.ofInt x).toInt32 = v) (h : z_J G l y S (pc + 3) lo (.int v :: st) w kc ks) : z_J G l y S pc lo st w kc ks := by
  intro p e s m args below meth c R0 hok R H locs ls cst hat hlo hst
  exact lv_sipush hok.1 hok.2.1 hd hv (h p e s m args below meth c R0 hok R H locs ls _ hat hlo ⟨rfl, hst⟩)
theorem j_lconst {x : Fin 2} {v : Int64} (hd : decode y.2.1 pc = .ok (.lconst x, 1)) (hv : Int64.ofNat (x : Nat) = v) (h : z_J G l y S (pc + 1) lo (.long v :: st) w kc ks) : z_J G l y S pc lo st w kc ks := by
  intro p e s m args below meth c R0 hok R H locs ls cst hat hlo hst
  exact lv_lconst hok.1 hok.2.1 hd hv (h p e s m args below meth c R0 hok R H locs ls _ hat hlo ⟨rfl, hst⟩)
theorem j_null (hd : decode y.2.1 pc = .ok (.aconst_null, 1)) (h : z_J G l y S (pc + 1) lo (.null :: st) w kc ks) : z_J G l y S pc lo st w kc ks := by
  intro p e s m args below meth c R0 hok R H locs ls cst hat hlo hst
  exact lv_null hok.1 hok.2.1 hd (h p e s m args below meth c R0 hok R H locs ls _ hat hlo ⟨rfl, hst⟩)
theorem j_iload {i : Nat} {x : Int32} (hd : decode y.2.1 pc = .ok (.iload i, 2)) (hf : z_find lo i = some (.int x)) (h : z_J G l y S (pc + 2) lo (.int x :: st) w kc ks) : z_J G l y S pc lo st w kc ks := by
  intro p e s m args below meth c R0 hok R H locs ls cst hat hlo hst
  obtain ⟨v, h1, h2⟩ := z_lof hlo hf
  have h2 : v = .int x := h2
  subst h2
  exact lv_iload hok.1 hok.2.1 hd h1 (h p e s m args below meth c R0 hok R H locs ls _ hat hlo ⟨rfl, hst⟩)
theorem j_iload_n {k : Fin 4} {x : Int32} (hd : decode y.2.1 pc = .ok (.iload_n k, 1)) (hf : z_find lo (k : Nat) = some (.int x)) (h : z_J G l y S (pc + 1) lo (.int x :: st) w kc ks) : z_J G l y S pc lo st w kc ks := by
  intro p e s m args below meth c R0 hok R H locs ls cst hat hlo hst
  obtain ⟨v, h1, h2⟩ := z_lof hlo hf
  have h2 : v = .int x := h2
  subst h2
  exact lv_iload_n hok.1 hok.2.1 hd rfl h1 (h p e s m args below meth c R0 hok R H locs ls _ hat hlo ⟨rfl, hst⟩)
theorem j_lload_n {k : Fin 4} {x : Int64} (hd : decode y.2.1 pc = .ok (.lload_n k, 1)) (hf : z_find lo (k : Nat) = some (.long x)) (h : z_J G l y S (pc + 1) lo (.long x :: st) w kc ks) : z_J G l y S pc lo st w kc ks := by
  intro p e s m args below meth c R0 hok R H locs ls cst hat hlo hst
  obtain ⟨v, h1, h2⟩ := z_lof hlo hf
  have h2 : v = .long x := h2
  subst h2
  exact lv_lload_n hok.1 hok.2.1 hd rfl h1 (h p e s m args below meth c R0 hok R H locs ls _ hat hlo ⟨rfl, hst⟩)
def z_ir (v : Value) : Bool := match v with
  | .ref _ => true
  | .null => true
  | .float _ => true
  | .retAddr _ => true
  | _ => false
theorem z_V_ir {G : z_G} {R : z_R} {w : z_W} {v c : Value} (hr : z_ir v = true) (h : z_V G R w v c) : c = .null ∨ ∃ q, c = .ref q := by
  cases v with
  | int x => cases hr
  | long x => cases hr
  | null => exact Or.inl h
  | ref n => exact Or.inr ⟨_, h.2⟩
  | float b => obtain ⟨q, h1, -⟩ := h; exact Or.inr ⟨q, h1⟩
  | retAddr k => obtain ⟨q, h1, -⟩ := h; exact Or.inr ⟨q, h1⟩
  | double b => exact h.elim
theorem j_aload {i : Nat} {v : Value} (hd : decode y.2.1 pc = .ok (.aload i, 2)) (hf : z_find lo i = some v) (hr : z_ir v = true) (h : z_J G l y S (pc + 2) lo (v :: st) w kc ks) : z_J G l y S pc lo st w kc ks := by
  intro p e s m args below meth c R0 hok R H locs ls cst hat hlo hst
  obtain ⟨cv, h1, h2⟩ := z_lof hlo hf
  have h3 := h p e s m args below meth c R0 hok R H locs ls (cv :: cst) hat hlo ⟨h2, hst⟩
  rcases z_V_ir hr h2 with e1 | ⟨q, e1⟩
  · subst e1
    exact lv_aloadN hok.1 hok.2.1 hd h1 h3
  · subst e1
    exact lv_aload hok.1 hok.2.1 hd h1 h3
theorem j_aload_n {k : Fin 4} {v : Value} (hd : decode y.2.1 pc = .ok (.aload_n k, 1)) (hf : z_find lo (k : Nat) = some v) (hr : z_ir v = true) (h : z_J G l y S (pc + 1) lo (v :: st) w kc ks) : z_J G l y S pc lo st w kc ks := by
  intro p e s m args below meth c R0 hok R H locs ls cst hat hlo hst
  obtain ⟨cv, h1, h2⟩ := z_lof hlo hf
  have h3 := h p e s m args below meth c R0 hok R H locs ls (cv :: cst) hat hlo ⟨h2, hst⟩
  rcases z_V_ir hr h2 with e1 | ⟨q, e1⟩
  · subst e1
    exact lv_aload_nN hok.1 hok.2.1 hd rfl h1 h3
  · subst e1
    exact lv_aload_n hok.1 hok.2.1 hd rfl h1 h3
theorem j_istore {i : Nat} {x : Int32} {lo' : List (Nat × Value)} (hd : decode y.2.1 pc = .ok (.istore i, 2)) (hn : i < y.2.2.1) (hl : z_st lo i (.int x) = lo') (h : z_J G l y S (pc + 2) lo' st w kc ks) : z_J G l y S pc lo (.int x :: st) w kc ks := by
  intro p e s m args below meth c R0 hok R H locs ls cst hat hlo hst
  obtain ⟨c1, cs1, rfl, h1, hst1⟩ := z_Lc hst
  have h1 : c1 = .int x := h1
  subst h1
  obtain ⟨clo, h2, h3⟩ := hlo
  refine lv_istore hok.1 hok.2.1 hd h2 (by rw [hok.2.2.1]; exact hn) rfl (fun ls' hls => ?_)
  exact h p e s m args below meth c R0 hok R H locs ls' _ hat ⟨_, hls, by rw [← hl]; exact z_LLst (fun _ _ => z_V_cat) h3 rfl⟩ hst1
theorem j_istore_n {k : Fin 4} {x : Int32} {lo' : List (Nat × Value)} (hd : decode y.2.1 pc = .ok (.istore_n k, 1)) (hn : (k : Nat) < y.2.2.1) (hl : z_st lo (k : Nat) (.int x) = lo') (h : z_J G l y S (pc + 1) lo' st w kc ks) : z_J G l y S pc lo (.int x :: st) w kc ks := by
  intro p e s m args below meth c R0 hok R H locs ls cst hat hlo hst
  obtain ⟨c1, cs1, rfl, h1, hst1⟩ := z_Lc hst
  have h1 : c1 = .int x := h1
  subst h1
  obtain ⟨clo, h2, h3⟩ := hlo
  refine lv_istore_n hok.1 hok.2.1 hd rfl h2 (by rw [hok.2.2.1]; exact hn) rfl (fun ls' hls => ?_)
  exact h p e s m args below meth c R0 hok R H locs ls' _ hat ⟨_, hls, by rw [← hl]; exact z_LLst (fun _ _ => z_V_cat) h3 rfl⟩ hst1
theorem j_astore {i : Nat} {v : Value} {lo' : List (Nat × Value)} (hd : decode y.2.1 pc = .ok (.astore i, 2)) (hr : z_ir v = true) (hn : i < y.2.2.1) (hl : z_st lo i v = lo') (h : z_J G l y S (pc + 2) lo' st w kc ks) : z_J G l y S pc lo (v :: st) w kc ks := by
  intro p e s m args below meth c R0 hok R H locs ls cst hat hlo hst
  obtain ⟨c1, cs1, rfl, h1, hst1⟩ := z_Lc hst
  obtain ⟨clo, h2, h3⟩ := hlo
  have h4 : ∀ ls' : Array Slot, lv_has ls' c.maxLocals (z_st clo i c1) → W p l e (z_rm S.1 S.2.1 S.2.2.1) s m args below meth c H locs kc ks (vx_MQ below (z_Qc G R0 S.2.2.2.1 S.2.2.2.2.1) (z_Xc G R0 S.2.2.2.1 S.2.2.2.2.2) args s S.2.1 S.2.2.1 (fun q => z_b G ≤ q)) (F0 m (pc + 2) ls' cs1) := fun ls' hls => h p e s m args below meth c R0 hok R H locs ls' _ hat ⟨_, hls, by rw [← hl]; exact z_LLst (fun _ _ => z_V_cat) h3 h1⟩ hst1
  rcases z_V_ir hr h1 with e1 | ⟨q, e1⟩
  · subst e1
    exact lv_astoreN hok.1 hok.2.1 hd h2 (by rw [hok.2.2.1]; exact hn) rfl h4
  · subst e1
    exact lv_astore hok.1 hok.2.1 hd h2 (by rw [hok.2.2.1]; exact hn) rfl h4
theorem j_lstore_n {k : Fin 4} {x : Int64} {lo' : List (Nat × Value)} (hd : decode y.2.1 pc = .ok (.lstore_n k, 1)) (hn : (k : Nat) + 1 < y.2.2.1) (hl : z_st2 lo (k : Nat) (.long x) = lo') (h : z_J G l y S (pc + 1) lo' st w kc ks) : z_J G l y S pc lo (.long x :: st) w kc ks := by
  intro p e s m args below meth c R0 hok R H locs ls cst hat hlo hst
  obtain ⟨c1, cs1, rfl, h1, hst1⟩ := z_Lc hst
  have h1 : c1 = .long x := h1
  subst h1
  obtain ⟨clo, h2, h3⟩ := hlo
  refine lv_lstore_n hok.1 hok.2.1 hd rfl h2 (by rw [hok.2.2.1]; exact hn) rfl (fun ls' hls => ?_)
  exact h p e s m args below meth c R0 hok R H locs ls' _ hat ⟨_, hls, by rw [← hl]; exact z_LLst2 (fun _ _ => z_V_cat) h3 rfl⟩ hst1
theorem j_astore_n {k : Fin 4} {v : Value} {lo' : List (Nat × Value)} (hd : decode y.2.1 pc = .ok (.astore_n k, 1)) (hr : z_ir v = true) (hn : (k : Nat) < y.2.2.1) (hl : z_st lo (k : Nat) v = lo') (h : z_J G l y S (pc + 1) lo' st w kc ks) : z_J G l y S pc lo (v :: st) w kc ks := by
  intro p e s m args below meth c R0 hok R H locs ls cst hat hlo hst
  obtain ⟨c1, cs1, rfl, h1, hst1⟩ := z_Lc hst
  obtain ⟨clo, h2, h3⟩ := hlo
  have h4 : ∀ ls' : Array Slot, lv_has ls' c.maxLocals (z_st clo (k : Nat) c1) → W p l e (z_rm S.1 S.2.1 S.2.2.1) s m args below meth c H locs kc ks (vx_MQ below (z_Qc G R0 S.2.2.2.1 S.2.2.2.2.1) (z_Xc G R0 S.2.2.2.1 S.2.2.2.2.2) args s S.2.1 S.2.2.1 (fun q => z_b G ≤ q)) (F0 m (pc + 1) ls' cs1) := fun ls' hls => h p e s m args below meth c R0 hok R H locs ls' _ hat ⟨_, hls, by rw [← hl]; exact z_LLst (fun _ _ => z_V_cat) h3 h1⟩ hst1
  rcases z_V_ir hr h1 with e1 | ⟨q, e1⟩
  · subst e1
    exact lv_astore_nN hok.1 hok.2.1 hd rfl h2 (by rw [hok.2.2.1]; exact hn) rfl h4
  · subst e1
    exact lv_astore_n hok.1 hok.2.1 hd rfl h2 (by rw [hok.2.2.1]; exact hn) rfl h4
theorem j_iinc {i : Nat} {d : Int} {x v : Int32} {lo' : List (Nat × Value)} (hd : decode y.2.1 pc = .ok (.iinc i d, 3)) (hf : z_find lo i = some (.int x)) (hv : x + Int32.ofInt d = v) (hn : i < y.2.2.1) (hl : z_st lo i (.int v) = lo') (h : z_J G l y S (pc + 3) lo' st w kc ks) : z_J G l y S pc lo st w kc ks := by
  intro p e s m args below meth c R0 hok R H locs ls cst hat hlo hst
  obtain ⟨clo, h2, h3⟩ := hlo
  obtain ⟨cv, h4, h5⟩ := z_LLf h3 hf
  have h5 : cv = .int x := h5
  subst h5
  obtain ⟨k, hk⟩ := List.getElem?_of_mem h4
  refine lv_iinc hok.1 hok.2.1 hd h2 hk hv (by rw [hok.2.2.1]; exact hn) rfl (fun ls' hls => ?_)
  exact h p e s m args below meth c R0 hok R H locs ls' _ hat ⟨_, hls, by rw [← hl]; exact z_LLst (fun _ _ => z_V_cat) h3 rfl⟩ hst
theorem j_iadd {a b : Int32} (hd : decode y.2.1 pc = .ok (.iadd, 1)) (h : z_J G l y S (pc + 1) lo (.int (a + b) :: st) w kc ks) : z_J G l y S pc lo (.int b :: .int a :: st) w kc ks := by
  intro p e s m args below meth c R0 hok R H locs ls cst hat hlo hst
  obtain ⟨c1, cs1, rfl, h1, hst1⟩ := z_Lc hst
  obtain ⟨c2, cs2, rfl, h2, hst2⟩ := z_Lc hst1
  have h1 : c1 = .int b := h1
  have h2 : c2 = .int a := h2
  subst h1 h2
  exact lv_iadd hok.1 hok.2.1 hd (h p e s m args below meth c R0 hok R H locs ls _ hat hlo ⟨rfl, hst2⟩)
theorem j_isub {a b : Int32} (hd : decode y.2.1 pc = .ok (.isub, 1)) (h : z_J G l y S (pc + 1) lo (.int (a - b) :: st) w kc ks) : z_J G l y S pc lo (.int b :: .int a :: st) w kc ks := by
  intro p e s m args below meth c R0 hok R H locs ls cst hat hlo hst
  obtain ⟨c1, cs1, rfl, h1, hst1⟩ := z_Lc hst
  obtain ⟨c2, cs2, rfl, h2, hst2⟩ := z_Lc hst1
  have h1 : c1 = .int b := h1
  have h2 : c2 = .int a := h2
  subst h1 h2
  exact lv_isub hok.1 hok.2.1 hd (h p e s m args below meth c R0 hok R H locs ls _ hat hlo ⟨rfl, hst2⟩)
theorem j_imul {a b : Int32} (hd : decode y.2.1 pc = .ok (.imul, 1)) (h : z_J G l y S (pc + 1) lo (.int (a * b) :: st) w kc ks) : z_J G l y S pc lo (.int b :: .int a :: st) w kc ks := by
  intro p e s m args below meth c R0 hok R H locs ls cst hat hlo hst
  obtain ⟨c1, cs1, rfl, h1, hst1⟩ := z_Lc hst
  obtain ⟨c2, cs2, rfl, h2, hst2⟩ := z_Lc hst1
  have h1 : c1 = .int b := h1
  have h2 : c2 = .int a := h2
  subst h1 h2
  exact lv_imul hok.1 hok.2.1 hd (h p e s m args below meth c R0 hok R H locs ls _ hat hlo ⟨rfl, hst2⟩)
theorem j_iand {a b : Int32} (hd : decode y.2.1 pc = .ok (.iand, 1)) (h : z_J G l y S (pc + 1) lo (.int (a &&& b) :: st) w kc ks) : z_J G l y S pc lo (.int b :: .int a :: st) w kc ks := by
  intro p e s m args below meth c R0 hok R H locs ls cst hat hlo hst
  obtain ⟨c1, cs1, rfl, h1, hst1⟩ := z_Lc hst
  obtain ⟨c2, cs2, rfl, h2, hst2⟩ := z_Lc hst1
  have h1 : c1 = .int b := h1
  have h2 : c2 = .int a := h2
  subst h1 h2
  exact lv_iand hok.1 hok.2.1 hd (h p e s m args below meth c R0 hok R H locs ls _ hat hlo ⟨rfl, hst2⟩)
theorem j_ladd {a b : Int64} (hd : decode y.2.1 pc = .ok (.ladd, 1)) (h : z_J G l y S (pc + 1) lo (.long (a + b) :: st) w kc ks) : z_J G l y S pc lo (.long b :: .long a :: st) w kc ks := by
  intro p e s m args below meth c R0 hok R H locs ls cst hat hlo hst
  obtain ⟨c1, cs1, rfl, h1, hst1⟩ := z_Lc hst
  obtain ⟨c2, cs2, rfl, h2, hst2⟩ := z_Lc hst1
  have h1 : c1 = .long b := h1
  have h2 : c2 = .long a := h2
  subst h1 h2
  exact lv_ladd hok.1 hok.2.1 hd (h p e s m args below meth c R0 hok R H locs ls _ hat hlo ⟨rfl, hst2⟩)
theorem j_lmul {a b : Int64} (hd : decode y.2.1 pc = .ok (.lmul, 1)) (h : z_J G l y S (pc + 1) lo (.long (a * b) :: st) w kc ks) : z_J G l y S pc lo (.long b :: .long a :: st) w kc ks := by
  intro p e s m args below meth c R0 hok R H locs ls cst hat hlo hst
  obtain ⟨c1, cs1, rfl, h1, hst1⟩ := z_Lc hst
  obtain ⟨c2, cs2, rfl, h2, hst2⟩ := z_Lc hst1
  have h1 : c1 = .long b := h1
  have h2 : c2 = .long a := h2
  subst h1 h2
  exact lv_lmul hok.1 hok.2.1 hd (h p e s m args below meth c R0 hok R H locs ls _ hat hlo ⟨rfl, hst2⟩)
theorem j_i2l {a : Int32} (hd : decode y.2.1 pc = .ok (.i2l, 1)) (h : z_J G l y S (pc + 1) lo (.long (a.toInt64) :: st) w kc ks) : z_J G l y S pc lo (.int a :: st) w kc ks := by
  intro p e s m args below meth c R0 hok R H locs ls cst hat hlo hst
  obtain ⟨c1, cs1, rfl, h1, hst1⟩ := z_Lc hst
  have h1 : c1 = .int a := h1
  subst h1
  exact lv_i2l hok.1 hok.2.1 hd rfl (h p e s m args below meth c R0 hok R H locs ls (.long a.toInt64 :: cs1) hat hlo ⟨rfl, hst1⟩)
theorem j_i2b {a : Int32} (hd : decode y.2.1 pc = .ok (.i2b, 1)) (h : z_J G l y S (pc + 1) lo (.int (a.toInt8.toInt32) :: st) w kc ks) : z_J G l y S pc lo (.int a :: st) w kc ks := by
  intro p e s m args below meth c R0 hok R H locs ls cst hat hlo hst
  obtain ⟨c1, cs1, rfl, h1, hst1⟩ := z_Lc hst
  have h1 : c1 = .int a := h1
  subst h1
  exact lv_i2b hok.1 hok.2.1 hd rfl (h p e s m args below meth c R0 hok R H locs ls (.int a.toInt8.toInt32 :: cs1) hat hlo ⟨rfl, hst1⟩)
theorem j_ineg {a : Int32} (hd : decode y.2.1 pc = .ok (.ineg, 1)) (h : z_J G l y S (pc + 1) lo (.int (-a) :: st) w kc ks) : z_J G l y S pc lo (.int a :: st) w kc ks := by
  intro p e s m args below meth c R0 hok R H locs ls cst hat hlo hst
  obtain ⟨c1, cs1, rfl, h1, hst1⟩ := z_Lc hst
  have h1 : c1 = .int a := h1
  subst h1
  exact lv_ineg hok.1 hok.2.1 hd (h p e s m args below meth c R0 hok R H locs ls _ hat hlo ⟨rfl, hst1⟩)
theorem j_dup {a : Value} (hd : decode y.2.1 pc = .ok (.dup, 1)) (hc : a.category = 1) (h : z_J G l y S (pc + 1) lo (a :: a :: st) w kc ks) : z_J G l y S pc lo (a :: st) w kc ks := by
  intro p e s m args below meth c R0 hok R H locs ls cst hat hlo hst
  obtain ⟨c1, cs1, rfl, h1, hst1⟩ := z_Lc hst
  exact lv_dup hok.1 hok.2.1 hd ((z_V_cat h1).trans hc) (h p e s m args below meth c R0 hok R H locs ls _ hat hlo ⟨h1, h1, hst1⟩)
theorem j_pop {a : Value} (hd : decode y.2.1 pc = .ok (.pop, 1)) (hc : a.category = 1) (h : z_J G l y S (pc + 1) lo st w kc ks) : z_J G l y S pc lo (a :: st) w kc ks := by
  intro p e s m args below meth c R0 hok R H locs ls cst hat hlo hst
  obtain ⟨c1, cs1, rfl, h1, hst1⟩ := z_Lc hst
  exact lv_pop hok.1 hok.2.1 hd ((z_V_cat h1).trans hc) (h p e s m args below meth c R0 hok R H locs ls _ hat hlo hst1)
theorem j_pop2 {a : Value} (hd : decode y.2.1 pc = .ok (.pop2, 1)) (hc : a.category = 2) (h : z_J G l y S (pc + 1) lo st w kc ks) : z_J G l y S pc lo (a :: st) w kc ks := by
  intro p e s m args below meth c R0 hok R H locs ls cst hat hlo hst
  obtain ⟨c1, cs1, rfl, h1, hst1⟩ := z_Lc hst
  exact lv_pop2_2 hok.1 hok.2.1 hd ((z_V_cat h1).trans hc) (h p e s m args below meth c R0 hok R H locs ls _ hat hlo hst1)
theorem j_dup_x1 {a b : Value} (hd : decode y.2.1 pc = .ok (.dup_x1, 1)) (hc : a.category = 1) (hc2 : b.category = 1) (h : z_J G l y S (pc + 1) lo (a :: b :: a :: st) w kc ks) : z_J G l y S pc lo (a :: b :: st) w kc ks := by
  intro p e s m args below meth c R0 hok R H locs ls cst hat hlo hst
  obtain ⟨c1, cs1, rfl, h1, hst1⟩ := z_Lc hst
  obtain ⟨c2, cs2, rfl, h2, hst2⟩ := z_Lc hst1
  exact lv_dup_x1 hok.1 hok.2.1 hd ((z_V_cat h1).trans hc) ((z_V_cat h2).trans hc2) (h p e s m args below meth c R0 hok R H locs ls _ hat hlo ⟨h1, h2, h1, hst2⟩)
theorem j_dup2 {a b : Value} (hd : decode y.2.1 pc = .ok (.dup2, 1)) (hc : a.category = 1) (hc2 : b.category = 1) (h : z_J G l y S (pc + 1) lo (a :: b :: a :: b :: st) w kc ks) : z_J G l y S pc lo (a :: b :: st) w kc ks := by
  intro p e s m args below meth c R0 hok R H locs ls cst hat hlo hst
  obtain ⟨c1, cs1, rfl, h1, hst1⟩ := z_Lc hst
  obtain ⟨c2, cs2, rfl, h2, hst2⟩ := z_Lc hst1
  exact lv_dup2_11 hok.1 hok.2.1 hd ((z_V_cat h1).trans hc) ((z_V_cat h2).trans hc2) (h p e s m args below meth c R0 hok R H locs ls _ hat hlo ⟨h1, h2, h1, h2, hst2⟩)
theorem j_goto {off : Int} {tgt : Nat} (hd : decode y.2.1 pc = .ok (.goto off, 3)) (ht : (pc : Int) + off = (tgt : Int)) (h : z_J G l y S tgt lo st w kc ks) : z_J G l y S pc lo st w kc ks := by
  intro p e s m args below meth c R0 hok R H locs ls cst hat hlo hst
  exact lv_goto hok.1 hok.2.1 hd ht (h p e s m args below meth c R0 hok R H locs ls _ hat hlo hst)
theorem j_if_eq {x : Int32} {off : Int} {tgt : Nat} (hd : decode y.2.1 pc = .ok (.ifCond .eq off, 3)) (ht : (pc : Int) + off = (tgt : Int)) (kt : x = 0 → z_J G l y S tgt lo st w kc ks) (kf : ¬ x = 0 → z_J G l y S (pc + 3) lo st w kc ks) : z_J G l y S pc lo (.int x :: st) w kc ks := by
  intro p e s m args below meth c R0 hok R H locs ls cst hat hlo hst
  obtain ⟨c1, cs1, rfl, h1, hst1⟩ := z_Lc hst
  have h1 : c1 = .int x := h1
  subst h1
  exact lv_if_eq hok.1 hok.2.1 hd ht (fun c9 => kt c9 p e s m args below meth c R0 hok R H locs ls _ hat hlo hst1) (fun c9 => kf c9 p e s m args below meth c R0 hok R H locs ls _ hat hlo hst1)
theorem j_icmp_eq {x b : Int32} {off : Int} {tgt : Nat} (hd : decode y.2.1 pc = .ok (.if_icmp .eq off, 3)) (ht : (pc : Int) + off = (tgt : Int)) (kt : x = b → z_J G l y S tgt lo st w kc ks) (kf : ¬ x = b → z_J G l y S (pc + 3) lo st w kc ks) : z_J G l y S pc lo (.int b :: .int x :: st) w kc ks := by
  intro p e s m args below meth c R0 hok R H locs ls cst hat hlo hst
  obtain ⟨c1, cs1, rfl, h1, hst1⟩ := z_Lc hst
  obtain ⟨c2, cs2, rfl, h2, hst2⟩ := z_Lc hst1
  have h1 : c1 = .int b := h1
  have h2 : c2 = .int x := h2
  subst h1 h2
  exact lv_icmp_eq hok.1 hok.2.1 hd ht (fun c9 => kt c9 p e s m args below meth c R0 hok R H locs ls _ hat hlo hst2) (fun c9 => kf c9 p e s m args below meth c R0 hok R H locs ls _ hat hlo hst2)
theorem j_if_ne {x : Int32} {off : Int} {tgt : Nat} (hd : decode y.2.1 pc = .ok (.ifCond .ne off, 3)) (ht : (pc : Int) + off = (tgt : Int)) (kt : ¬ x = 0 → z_J G l y S tgt lo st w kc ks) (kf : x = 0 → z_J G l y S (pc + 3) lo st w kc ks) : z_J G l y S pc lo (.int x :: st) w kc ks := by
  intro p e s m args below meth c R0 hok R H locs ls cst hat hlo hst
  obtain ⟨c1, cs1, rfl, h1, hst1⟩ := z_Lc hst
  have h1 : c1 = .int x := h1
  subst h1
  exact lv_if_ne hok.1 hok.2.1 hd ht (fun c9 => kt c9 p e s m args below meth c R0 hok R H locs ls _ hat hlo hst1) (fun c9 => kf c9 p e s m args below meth c R0 hok R H locs ls _ hat hlo hst1)
theorem j_icmp_ne {x b : Int32} {off : Int} {tgt : Nat} (hd : decode y.2.1 pc = .ok (.if_icmp .ne off, 3)) (ht : (pc : Int) + off = (tgt : Int)) (kt : ¬ x = b → z_J G l y S tgt lo st w kc ks) (kf : x = b → z_J G l y S (pc + 3) lo st w kc ks) : z_J G l y S pc lo (.int b :: .int x :: st) w kc ks := by
  intro p e s m args below meth c R0 hok R H locs ls cst hat hlo hst
  obtain ⟨c1, cs1, rfl, h1, hst1⟩ := z_Lc hst
  obtain ⟨c2, cs2, rfl, h2, hst2⟩ := z_Lc hst1
  have h1 : c1 = .int b := h1
  have h2 : c2 = .int x := h2
  subst h1 h2
  exact lv_icmp_ne hok.1 hok.2.1 hd ht (fun c9 => kt c9 p e s m args below meth c R0 hok R H locs ls _ hat hlo hst2) (fun c9 => kf c9 p e s m args below meth c R0 hok R H locs ls _ hat hlo hst2)
theorem j_if_lt {x : Int32} {off : Int} {tgt : Nat} (hd : decode y.2.1 pc = .ok (.ifCond .lt off, 3)) (ht : (pc : Int) + off = (tgt : Int)) (kt : x < 0 → z_J G l y S tgt lo st w kc ks) (kf : ¬ x < 0 → z_J G l y S (pc + 3) lo st w kc ks) : z_J G l y S pc lo (.int x :: st) w kc ks := by
  intro p e s m args below meth c R0 hok R H locs ls cst hat hlo hst
  obtain ⟨c1, cs1, rfl, h1, hst1⟩ := z_Lc hst
  have h1 : c1 = .int x := h1
  subst h1
  exact lv_if_lt hok.1 hok.2.1 hd ht (fun c9 => kt c9 p e s m args below meth c R0 hok R H locs ls _ hat hlo hst1) (fun c9 => kf c9 p e s m args below meth c R0 hok R H locs ls _ hat hlo hst1)
theorem j_icmp_lt {x b : Int32} {off : Int} {tgt : Nat} (hd : decode y.2.1 pc = .ok (.if_icmp .lt off, 3)) (ht : (pc : Int) + off = (tgt : Int)) (kt : x < b → z_J G l y S tgt lo st w kc ks) (kf : ¬ x < b → z_J G l y S (pc + 3) lo st w kc ks) : z_J G l y S pc lo (.int b :: .int x :: st) w kc ks := by
  intro p e s m args below meth c R0 hok R H locs ls cst hat hlo hst
  obtain ⟨c1, cs1, rfl, h1, hst1⟩ := z_Lc hst
  obtain ⟨c2, cs2, rfl, h2, hst2⟩ := z_Lc hst1
  have h1 : c1 = .int b := h1
  have h2 : c2 = .int x := h2
  subst h1 h2
  exact lv_icmp_lt hok.1 hok.2.1 hd ht (fun c9 => kt c9 p e s m args below meth c R0 hok R H locs ls _ hat hlo hst2) (fun c9 => kf c9 p e s m args below meth c R0 hok R H locs ls _ hat hlo hst2)
theorem j_if_ge {x : Int32} {off : Int} {tgt : Nat} (hd : decode y.2.1 pc = .ok (.ifCond .ge off, 3)) (ht : (pc : Int) + off = (tgt : Int)) (kt : 0 ≤ x → z_J G l y S tgt lo st w kc ks) (kf : ¬ 0 ≤ x → z_J G l y S (pc + 3) lo st w kc ks) : z_J G l y S pc lo (.int x :: st) w kc ks := by
  intro p e s m args below meth c R0 hok R H locs ls cst hat hlo hst
  obtain ⟨c1, cs1, rfl, h1, hst1⟩ := z_Lc hst
  have h1 : c1 = .int x := h1
  subst h1
  exact lv_if_ge hok.1 hok.2.1 hd ht (fun c9 => kt c9 p e s m args below meth c R0 hok R H locs ls _ hat hlo hst1) (fun c9 => kf c9 p e s m args below meth c R0 hok R H locs ls _ hat hlo hst1)
theorem j_icmp_ge {x b : Int32} {off : Int} {tgt : Nat} (hd : decode y.2.1 pc = .ok (.if_icmp .ge off, 3)) (ht : (pc : Int) + off = (tgt : Int)) (kt : b ≤ x → z_J G l y S tgt lo st w kc ks) (kf : ¬ b ≤ x → z_J G l y S (pc + 3) lo st w kc ks) : z_J G l y S pc lo (.int b :: .int x :: st) w kc ks := by
  intro p e s m args below meth c R0 hok R H locs ls cst hat hlo hst
  obtain ⟨c1, cs1, rfl, h1, hst1⟩ := z_Lc hst
  obtain ⟨c2, cs2, rfl, h2, hst2⟩ := z_Lc hst1
  have h1 : c1 = .int b := h1
  have h2 : c2 = .int x := h2
  subst h1 h2
  exact lv_icmp_ge hok.1 hok.2.1 hd ht (fun c9 => kt c9 p e s m args below meth c R0 hok R H locs ls _ hat hlo hst2) (fun c9 => kf c9 p e s m args below meth c R0 hok R H locs ls _ hat hlo hst2)
theorem j_if_gt {x : Int32} {off : Int} {tgt : Nat} (hd : decode y.2.1 pc = .ok (.ifCond .gt off, 3)) (ht : (pc : Int) + off = (tgt : Int)) (kt : 0 < x → z_J G l y S tgt lo st w kc ks) (kf : ¬ 0 < x → z_J G l y S (pc + 3) lo st w kc ks) : z_J G l y S pc lo (.int x :: st) w kc ks := by
  intro p e s m args below meth c R0 hok R H locs ls cst hat hlo hst
  obtain ⟨c1, cs1, rfl, h1, hst1⟩ := z_Lc hst
  have h1 : c1 = .int x := h1
  subst h1
  exact lv_if_gt hok.1 hok.2.1 hd ht (fun c9 => kt c9 p e s m args below meth c R0 hok R H locs ls _ hat hlo hst1) (fun c9 => kf c9 p e s m args below meth c R0 hok R H locs ls _ hat hlo hst1)
theorem j_icmp_gt {x b : Int32} {off : Int} {tgt : Nat} (hd : decode y.2.1 pc = .ok (.if_icmp .gt off, 3)) (ht : (pc : Int) + off = (tgt : Int)) (kt : b < x → z_J G l y S tgt lo st w kc ks) (kf : ¬ b < x → z_J G l y S (pc + 3) lo st w kc ks) : z_J G l y S pc lo (.int b :: .int x :: st) w kc ks := by
  intro p e s m args below meth c R0 hok R H locs ls cst hat hlo hst
  obtain ⟨c1, cs1, rfl, h1, hst1⟩ := z_Lc hst
  obtain ⟨c2, cs2, rfl, h2, hst2⟩ := z_Lc hst1
  have h1 : c1 = .int b := h1
  have h2 : c2 = .int x := h2
  subst h1 h2
  exact lv_icmp_gt hok.1 hok.2.1 hd ht (fun c9 => kt c9 p e s m args below meth c R0 hok R H locs ls _ hat hlo hst2) (fun c9 => kf c9 p e s m args below meth c R0 hok R H locs ls _ hat hlo hst2)
theorem j_if_le {x : Int32} {off : Int} {tgt : Nat} (hd : decode y.2.1 pc = .ok (.ifCond .le off, 3)) (ht : (pc : Int) + off = (tgt : Int)) (kt : x ≤ 0 → z_J G l y S tgt lo st w kc ks) (kf : ¬ x ≤ 0 → z_J G l y S (pc + 3) lo st w kc ks) : z_J G l y S pc lo (.int x :: st) w kc ks := by
  intro p e s m args below meth c R0 hok R H locs ls cst hat hlo hst
  obtain ⟨c1, cs1, rfl, h1, hst1⟩ := z_Lc hst
  have h1 : c1 = .int x := h1
  subst h1
  exact lv_if_le hok.1 hok.2.1 hd ht (fun c9 => kt c9 p e s m args below meth c R0 hok R H locs ls _ hat hlo hst1) (fun c9 => kf c9 p e s m args below meth c R0 hok R H locs ls _ hat hlo hst1)
theorem j_icmp_le {x b : Int32} {off : Int} {tgt : Nat} (hd : decode y.2.1 pc = .ok (.if_icmp .le off, 3)) (ht : (pc : Int) + off = (tgt : Int)) (kt : x ≤ b → z_J G l y S tgt lo st w kc ks) (kf : ¬ x ≤ b → z_J G l y S (pc + 3) lo st w kc ks) : z_J G l y S pc lo (.int b :: .int x :: st) w kc ks := by
  intro p e s m args below meth c R0 hok R H locs ls cst hat hlo hst
  obtain ⟨c1, cs1, rfl, h1, hst1⟩ := z_Lc hst
  obtain ⟨c2, cs2, rfl, h2, hst2⟩ := z_Lc hst1
  have h1 : c1 = .int b := h1
  have h2 : c2 = .int x := h2
  subst h1 h2
  exact lv_icmp_le hok.1 hok.2.1 hd ht (fun c9 => kt c9 p e s m args below meth c R0 hok R H locs ls _ hat hlo hst2) (fun c9 => kf c9 p e s m args below meth c R0 hok R H locs ls _ hat hlo hst2)
theorem j_widen {kc' ks' : Nat} (h1 : kc ≤ kc') (h2 : ks ≤ ks') (h : z_J G l y S pc lo st w kc' ks') : z_J G l y S pc lo st w kc ks := by
  intro p e s m args below meth c R0 hok R H locs ls cst hat hlo hst
  exact W.widen h1 h2 (h p e s m args below meth c R0 hok R H locs ls _ hat hlo hst)
theorem j_lo {lo' : List (Nat × Value)} (hs : ∀ q ∈ lo', z_find lo q.1 = some q.2) (h : z_J G l y S pc lo' st w kc ks) : z_J G l y S pc lo st w kc ks := by
  intro p e s m args below meth c R0 hok R H locs ls cst hat hlo hst
  refine h p e s m args below meth c R0 hok R H locs ls _ hat ?_ hst
  clear h
  induction lo' with
  | nil => obtain ⟨clo, h1, -⟩ := hlo; exact ⟨[], ⟨h1.1, h1.2.1, fun _ h => by cases h⟩, trivial⟩
  | cons q t ih =>
    obtain ⟨clo, h1, h2⟩ := ih (fun q' hq => hs q' (List.mem_cons_of_mem _ hq))
    obtain ⟨cv, h3, h4⟩ := z_lof hlo (hs q List.mem_cons_self)
    exact ⟨(q.1, cv) :: clo, ⟨h1.1, h1.2.1, fun x hx => by
      rcases List.mem_cons.mp hx with rfl | hx
      · exact h3
      · exact h1.2.2 x hx⟩, ⟨⟨rfl, h4⟩, h2⟩⟩
end ZR
end ZM2
section ZM3
section ZH
variable {G : z_G} {l : Launch} {y : z_M} {S : z_S} {pc : Nat} {lo : List (Nat × Value)} {st : List Value} {w w' : z_W} {kc ks : Nat}
theorem z_Vs {G : z_G} {R : z_R} {w : z_W} {n : Nat} {e e0 : z_E} (hn : z_g w n = some e0) (v c : Value) (h : z_V G R w v c) : z_V G R (z_s w n e) v c := by
  cases v with
  | int x => exact h
  | long x => exact h
  | null => exact h
  | ref m => exact ⟨(z_ds hn m).mpr h.1, h.2⟩
  | float b => exact h
  | retAddr k => exact h
  | double b => exact h
theorem z_write {G : z_G} {S : z_S} {R0 R : z_R} {s : State} {w : z_W} {H H' : Heap} {locs : List Loc} {n i : Nat} {e0 e : z_E} (hat : z_at G S R0 s R w H locs) (hn : z_g w n = some e0) (h1 : H'.size = H.size) (h2 : ∀ q : Nat, q ≠ R.1 n → H'[q]? = H[q]?) (h3 : z_X G R (z_s w n e) e (R.1 n) H') : z_at G S R0 s R (z_s w n e) H' (locs ++ [⟨R.1 n, i⟩]) := by
  obtain ⟨⟨p1, p2, p3⟩, t, f⟩ := hat
  refine ⟨⟨fun m em hm => ?_, fun a b ha hb => p2 a b ((z_ds hn a).mp ha) ((z_ds hn b).mp hb), fun q b hq => ?_⟩, ⟨fun m hm => ⟨(z_ds hn m).mpr (t.1 m hm).1, (t.1 m hm).2⟩, t.2.1, fun m hm => t.2.2.1 m ((z_ds hn m).mp hm), t.2.2.2⟩, ?_⟩
  · by_cases hmn : m = n
    · subst hmn
      rw [z_gs_self hn] at hm
      cases hm
      exact ⟨h3, (p1 m e0 hn).2⟩
    · rw [z_gs_ne hmn] at hm
      have hne : R.1 m ≠ R.1 n := fun q => hmn (p2 m n ⟨_, hm⟩ ⟨_, hn⟩ q)
      exact ⟨(p1 m em hm).1.kept (z_Vs hn) (h2 _ hne), (p1 m em hm).2⟩
  · obtain ⟨a1, a2⟩ := p3 q b hq
    exact ⟨a1.kept (h2 q (fun z => a2 n ⟨_, hn⟩ z.symm)), fun m hm => a2 m ((z_ds hn m).mp hm)⟩
  · refine ⟨Nat.le_trans f.1 (Nat.le_of_eq h1.symm), fun q hq hA => ?_, fun x hx => ?_⟩
    · rw [h2 q (fun z => hA (by rw [z]; exact t.A ⟨_, hn⟩))]
      exact f.2.1 q hq hA
    · rcases List.mem_append.mp hx with h | h
      · exact f.2.2 x h
      · rw [List.mem_singleton.mp h]
        exact (p1 n e0 hn).2
def z_al (w : z_W) (n : Nat) (e : z_E) (w' : z_W) : Prop := z_g w' n = some e ∧ ∀ m : Nat, m ≠ n → z_g w' m = z_g w m
theorem z_al_l {L : List z_E} {P : Nat → Option z_E} {n : Nat} {e : z_E} (hn : L.length = n) (h : Nat.blt n 1000 = true) : z_g (L, P) n = none ∧ z_al (L, P) n e (L ++ [e], P) := by
  subst hn
  refine ⟨?_, ?_, fun m hm => ?_⟩
  · simp only [z_g, h, cond]
    exact List.getElem?_eq_none (Nat.le_refl _)
  · simp only [z_g, h, cond]
    exact List.getElem?_concat_length
  · cases hb : Nat.blt m 1000 <;> simp only [z_g, hb, cond]
    rcases Nat.lt_or_gt_of_ne hm with q | q
    · exact List.getElem?_append_left q
    · rw [List.getElem?_eq_none (by rw [List.length_append]; exact q), List.getElem?_eq_none (Nat.le_of_lt q)]
theorem z_Va {G : z_G} {R : z_R} {w w' : z_W} {n q : Nat} {e : z_E} (hn : z_g w n = none) (hw : z_al w n e w') (v c : Value) (h : z_V G R w v c) : z_V G ((fun m => if m = n then q else R.1 m), R.2) w' v c := by
  cases v with
  | int x => exact h
  | long x => exact h
  | null => exact h
  | ref m =>
    obtain ⟨⟨em, hm⟩, hc⟩ := h
    have hne : m ≠ n := fun z => by rw [z, hn] at hm; cases hm
    refine ⟨⟨em, by rw [hw.2 m hne]; exact hm⟩, ?_⟩
    show c = .ref (if m = n then q else R.1 m)
    rw [if_neg hne]
    exact hc
  | float b => exact h
  | retAddr k => exact h
  | double b => exact h
theorem z_alloc {G : z_G} {S : z_S} {R0 R : z_R} {s : State} {w w' : z_W} {H H' : Heap} {locs : List Loc} {n : Nat} {e : z_E} (hbs : z_b G ≤ s.heap.size) (hat : z_at G S R0 s R w H locs) (hn : z_g w n = none) (hw : z_al w n e w') (h1 : H'.size = H.size + 1) (h2 : ∀ q : Nat, q < H.size → H'[q]? = H[q]?)
    (h3 : z_X G ((fun m => if m = n then H.size else R.1 m), R.2) w' e H.size H') : z_at G S R0 s ((fun m => if m = n then H.size else R.1 m), R.2) w' H' locs := by
  obtain ⟨⟨p1, p2, p3⟩, t, f⟩ := hat
  have old : ∀ m, z_d w' m → m ≠ n → z_d w m := fun m ⟨em, hm⟩ hne => ⟨em, by rw [← hw.2 m hne]; exact hm⟩
  have lt : ∀ m, z_d w m → R.1 m < H.size := fun m ⟨em, hm⟩ => (p1 m em hm).1.lt
  have ne : ∀ m, z_d w m → m ≠ n := fun m ⟨em, hm⟩ z => by rw [z, hn] at hm; cases hm
  refine ⟨⟨fun m em hm => ?_, fun a b ha hb hab => ?_, fun q b hq => ?_⟩, ⟨fun m hm => ?_, t.2.1, fun m hm hno => ?_, t.2.2.2⟩, ?_⟩
  · by_cases hmn : m = n
    · subst hmn
      rw [hw.1] at hm
      cases hm
      show z_X _ _ _ _ (if m = m then H.size else R.1 m) _ ∧ _ ≤ (if m = m then H.size else R.1 m)
      rw [if_pos rfl]
      exact ⟨h3, Nat.le_trans hbs f.1⟩
    · show z_X _ _ _ _ (if m = n then H.size else R.1 m) _ ∧ _ ≤ (if m = n then H.size else R.1 m)
      rw [if_neg hmn]
      rw [hw.2 m hmn] at hm
      exact ⟨(p1 m em hm).1.kept (z_Va hn hw) (h2 _ (lt m ⟨_, hm⟩)), (p1 m em hm).2⟩
  · have hab : (if a = n then H.size else R.1 a) = (if b = n then H.size else R.1 b) := hab
    by_cases han : a = n
    · by_cases hbn : b = n
      · rw [han, hbn]
      · rw [if_pos han, if_neg hbn] at hab
        have := lt b (old b hb hbn)
        omega
    · by_cases hbn : b = n
      · rw [if_neg han, if_pos hbn] at hab
        have := lt a (old a ha han)
        omega
      · rw [if_neg han, if_neg hbn] at hab
        exact p2 a b (old a ha han) (old b hb hbn) hab
  · obtain ⟨a1, a2⟩ := p3 q b hq
    have hql : q < H.size := by obtain ⟨cell, h9, -⟩ := a1; exact (Array.getElem?_eq_some_iff.mp h9).1
    refine ⟨a1.kept (h2 q hql), fun m hm => ?_⟩
    show (if m = n then H.size else R.1 m) ≠ q
    by_cases hmn : m = n
    · rw [if_pos hmn]; omega
    · rw [if_neg hmn]; exact a2 m (old m hm hmn)
  · have hm1 := (t.1 m hm).1
    have hmn := ne m hm1
    obtain ⟨em, hem⟩ := hm1
    refine ⟨⟨em, by rw [hw.2 m hmn]; exact hem⟩, ?_⟩
    show (if m = n then H.size else R.1 m) = _
    rw [if_neg hmn]
    exact (t.1 m hm).2
  · show s.heap.size ≤ (if m = n then H.size else R.1 m)
    by_cases hmn : m = n
    · rw [if_pos hmn]; exact f.1
    · rw [if_neg hmn]; exact t.2.2.1 m (old m hm hmn) hno
  · exact ⟨Nat.le_trans f.1 (by omega), fun q hq hA => (h2 q (Nat.lt_of_lt_of_le hq f.1)).trans (f.2.1 q hq hA), f.2.2⟩
def z_F (own : String) (idx ci k : Nat) : Prop := ∃ (q : vw_C) (ref : String), z_cls[ci]? = some q ∧ k < q.2.2 ∧ (∀ x ∈ u_ws q.1 q.2.1 q.2.2, x ∈ z_tbl) ∧
  (Cond.fieldLink own idx ref (q.2.1 k).2.1 (q.2.1 k).2.2.1 ∈ z_tbl ∨ ∃ host : String, Cond.fieldLinkNest own idx ref (q.2.1 k).2.1 (q.2.1 k).2.2.1 host ∈ z_nst) ∧ ((q.2.1 k).1 = ref ∨ Cond.sameField ref (q.2.1 k).1 (q.2.1 k).2.1 (q.2.1 k).2.2.1 ∈ z_tbl)
theorem j_getf {idx ci k a : Nat} {fs : List Value} {v : Value} (hd : decode y.2.1 pc = .ok (.getfield idx, 3)) (hF : z_F y.1.cls idx ci k) (hg : z_g w a = some (.inr (ci, fs))) (hk : fs[k]? = some v) (h : z_J G l y S (pc + 3) lo (v :: st) w kc ks) : z_J G l y S pc lo (.ref a :: st) w kc ks := by
  intro p e s m args below meth c R0 hok R H locs ls cst hat hlo hst
  obtain ⟨c1, cs1, rfl, ⟨-, h1⟩, hst1⟩ := z_Lc hst
  subst h1
  obtain ⟨q, ref, f1, f2, f3, f4, f5⟩ := hF
  obtain ⟨q', gs, x1, x2, ⟨cell, o1, o2, o3, o4⟩, x4⟩ := (hat.1.1 a _ hg).1
  have eq : q' = q := Option.some.inj (x1.symm.trans f1)
  subst eq
  obtain ⟨g, g1, g2⟩ := z_Lg x4 hk
  have kk := h p e s m args below meth c R0 hok R H locs ls (g :: cs1) hat hlo ⟨g2, hst1⟩
  obtain ⟨hx, hb, -, -, -, hown, hts, henv, -⟩ := hok
  obtain ⟨hS, hfc, kC, hkC, hkind⟩ := henv.1 ci _ f1
  obtain ⟨cf, kf, fi, f, hi, hsl⟩ := hS k f2
  have hsta := (u_facts hfc hkC (u_lays (ws := z_tbl) hts f3 f2) hi).1
  have hi2 : s.fieldFound? ref (q'.2.1 k).2.1 (q'.2.1 k).2.2.1 = some (cf, kf, fi, f) := by
    rcases f5 with z | z
    · rw [← z]; exact hi
    · exact u_same (hts _ z) _ hi
  have hsv : cell.slots[f.slot]? = some g := by
    rw [hsl, o4 k f2]
    simp [vp_V, g1]
  rcases f4 with f4 | ⟨host, f4⟩
  · exact W.getf hx hb hown (hts _ f4) hi2 hsta o1 (by rw [o3]; exact fun z => by cases z) hsv rfl rfl hd kk
  · exact va_Wgetf hx hb hown (va_Nw.use (w := Cond.fieldLinkNest y.1.cls idx ref (q'.2.1 k).2.1 (q'.2.1 k).2.2.1 host) rfl (henv.2.2.1 _ f4)) hi2 hsta o1 (by rw [o3]; exact fun z => by cases z) hsv rfl rfl hd kk
def z_nv (ty : FieldType) (v : Value) : Prop := match v with
  | .int x => narrow ty (.int x) = .int x ∧ fits ty (.int x) = true
  | .long x => narrow ty (.long x) = .long x ∧ fits ty (.long x) = true
  | .double _ => False
  | _ => (∃ n, ty = .object n) ∨ ∃ t, ty = .array t
theorem z_nvc {G : z_G} {R : z_R} {w : z_W} {ty : FieldType} {v c : Value} (h : z_nv ty v) (hV : z_V G R w v c) : narrow ty c = c ∧ fits ty c = true := by
  cases v with
  | int x => have hV : c = .int x := hV; subst hV; exact h
  | long x => have hV : c = .long x := hV; subst hV; exact h
  | null => have hV : c = .null := hV; subst hV; rcases h with ⟨n, rfl⟩ | ⟨t, rfl⟩ <;> exact ⟨rfl, rfl⟩
  | ref n => obtain ⟨-, hV⟩ := hV; subst hV; rcases h with ⟨n, rfl⟩ | ⟨t, rfl⟩ <;> exact ⟨rfl, rfl⟩
  | float b => obtain ⟨q, hV, -⟩ := hV; subst hV; rcases h with ⟨n, rfl⟩ | ⟨t, rfl⟩ <;> exact ⟨rfl, rfl⟩
  | retAddr k => obtain ⟨q, hV, -⟩ := hV; subst hV; rcases h with ⟨n, rfl⟩ | ⟨t, rfl⟩ <;> exact ⟨rfl, rfl⟩
  | double b => exact h.elim
def z_FT (ci k : Nat) (ty : FieldType) (fin : Bool) : Prop := ∃ (q : vw_C) (ty0 : Nat → FieldType), z_cls[ci]? = some q ∧ (q.2.1 k).2.2.2 = fin ∧ (∀ j, j < q.2.2 → parseFieldDescriptor (q.2.1 j).2.2.1 = some (ty0 j)) ∧ ty0 k = ty ∧ (∀ a, a < q.2.2 → ∀ b, b < q.2.2 → a ≠ b → (q.2.1 a).2.1 ≠ (q.2.1 b).2.1)
theorem j_put {idx ci k a : Nat} {fs : List Value} {v : Value} {ty : FieldType} (hd : decode y.2.1 pc = .ok (.putfield idx, 3)) (hF : z_F y.1.cls idx ci k) (hT : z_FT ci k ty false) (hg : z_g w a = some (.inr (ci, fs))) (hv : z_nv ty v) (hw : z_s w a (.inr (ci, fs.set k v)) = w') (h : z_J G l y S (pc + 3) lo st w' kc ks) : z_J G l y S pc lo (v :: .ref a :: st) w kc ks := by
  intro p e s m args below meth c R0 hok R H locs ls cst hat hlo hst
  obtain ⟨c0, cs0, rfl, h0, hst1⟩ := z_Lc hst
  obtain ⟨c1, cs1, rfl, ⟨-, h1⟩, hst2⟩ := z_Lc hst1
  subst h1
  subst hw
  obtain ⟨q, ref, f1, f2, f3, f4, f5⟩ := hF
  obtain ⟨q2, ty0, t1, t2, t3, t4, t5⟩ := hT
  have eq2 : q2 = q := Option.some.inj (t1.symm.trans f1)
  subst eq2
  obtain ⟨q', gs, x1, x2, ⟨cell, o1, o2, o3, o4⟩, x4⟩ := (hat.1.1 a _ hg).1
  have eq : q' = q2 := Option.some.inj (x1.symm.trans f1)
  subst eq
  have hok2 := hok
  obtain ⟨hx, hb, -, -, -, hown, hts, henv, -⟩ := hok2
  have hap := va_apart (D := (z_dC G, z_dI G)) (tys := []) (own := y.1.cls) hts f3 ty0 t3 t5 ⟨henv.1, fun k q hk => by simp at hk⟩ f1
  obtain ⟨hS, hfc, kC, hkC, hkind⟩ := henv.1 ci _ f1
  obtain ⟨cf, kf, fi, f, hi, hsl⟩ := hS k f2
  have hsta := (u_facts hfc hkC (u_lays (ws := z_tbl) hts f3 f2) hi).1
  have hi2 : s.fieldFound? ref (q'.2.1 k).2.1 (q'.2.1 k).2.2.1 = some (cf, kf, fi, f) := by
    rcases f5 with z | z
    · rw [← z]; exact hi
    · exact u_same (hts _ z) _ hi
  have hlay := hts _ (f3 _ (u_in_lay f2))
  unfold u_lay at hlay
  rw [if_neg (by rw [t2]; decide)] at hlay
  obtain ⟨n1, n2⟩ := z_nvc hv h0
  have h6 := u_store hfc hkC hkind hlay hi (by rw [t3 k f2, t4]) n1 n2
  have fin : ∀ H' : Heap, H'[R.1 a]? = some (cell.setSlot f.slot c0) → H'.size = H.size → (∀ q, q ≠ R.1 a → H'[q]? = H[q]?) → W p l e (z_rm S.1 S.2.1 S.2.2.1) s m args below meth c H' (locs ++ [⟨R.1 a, f.slot⟩]) kc ks (vx_MQ below (z_Qc G R0 S.2.2.2.1 S.2.2.2.2.1) (z_Xc G R0 S.2.2.2.1 S.2.2.2.2.2) args s S.2.1 S.2.2.1 (fun q => z_b G ≤ q)) (F0 m (pc + 3) ls cs1) := by
    intro H' e1 e2 e3
    rw [hsl] at e1
    have hX : z_X G R (z_s w a (.inr (ci, fs.set k v))) (.inr (ci, fs.set k v)) (R.1 a) H' :=
      ⟨q', gs.set k c0, f1, by rw [List.length_set]; exact x2, t_OB.to (V := updV (vp_V gs) k c0) ⟨_, e1, o2, o3, t_set o4 hap f2 c0⟩ (fun j _ => vp_updV_set (by rw [z_Ll x4]; show k < fs.length; rw [x2]; exact f2) c0 j), z_Lm (z_Vs hg) (z_Ls x4 h0)⟩
    exact h p e s m args below meth c R0 hok R H' _ ls cs1 (z_write hat hg e2 e3 hX) (z_lom (z_Vs hg) hlo) (z_Lm (z_Vs hg) hst2)
  rcases f4 with f4 | ⟨host, f4⟩
  · exact W.putK hx hb (f := f) ⟨hown, hts _ f4, ⟨_, _, _, hi2⟩, hsta⟩ (by rw [o2]; exact h6) o1 o3 (by rw [hsl]; exact k2_hasslot (o4 k f2)) rfl rfl hd fin
  · exact va_WputK hx hb (f := f) hown (va_Nw.use (w := Cond.fieldLinkNest y.1.cls idx ref (q'.2.1 k).2.1 (q'.2.1 k).2.2.1 host) rfl (henv.2.2.1 _ f4)) hi2 hsta (by rw [o2]; exact h6) o1 o3 (by rw [hsl]; exact k2_hasslot (o4 k f2)) rfl rfl hd fin
theorem j_putF {idx ci k a : Nat} {fs : List Value} {v : Value} {ty : FieldType} (hd : decode y.2.1 pc = .ok (.putfield idx, 3)) (hF : z_F y.1.cls idx ci k) (hT : z_FT ci k ty true) (hin : y.1.name = "<init>") (hdc : ∀ q : vw_C, z_cls[ci]? = some q → (q.2.1 k).1 = y.1.cls ∧ Cond.fieldLink y.1.cls idx y.1.cls (q.2.1 k).2.1 (q.2.1 k).2.2.1 ∈ z_tbl) (hg : z_g w a = some (.inr (ci, fs))) (hv : z_nv ty v) (hw : z_s w a (.inr (ci, fs.set k v)) = w') (h : z_J G l y S (pc + 3) lo st w' kc ks) : z_J G l y S pc lo (v :: .ref a :: st) w kc ks := by
  intro p e s m args below meth c R0 hok R H locs ls cst hat hlo hst
  obtain ⟨c0, cs0, rfl, h0, hst1⟩ := z_Lc hst
  obtain ⟨c1, cs1, rfl, ⟨-, h1⟩, hst2⟩ := z_Lc hst1
  subst h1
  subst hw
  obtain ⟨q, ref, f1, f2, f3, -, -⟩ := hF
  obtain ⟨q2, ty0, t1, t2, t3, t4, t5⟩ := hT
  have eq2 : q2 = q := Option.some.inj (t1.symm.trans f1)
  subst eq2
  obtain ⟨q', gs, x1, x2, ⟨cell, o1, o2, o3, o4⟩, x4⟩ := (hat.1.1 a _ hg).1
  have eq : q' = q2 := Option.some.inj (x1.symm.trans f1)
  subst eq
  obtain ⟨hdecl, f4⟩ := hdc q' f1
  have hok2 := hok
  obtain ⟨hx, hb, -, -, -, hown, hts, henv, -, -, -, hnm, -⟩ := hok2
  have hap := va_apart (D := (z_dC G, z_dI G)) (tys := []) (own := y.1.cls) hts f3 ty0 t3 t5 ⟨henv.1, fun k q hk => by simp at hk⟩ f1
  obtain ⟨hS, hfc, kC, hkC, hkind⟩ := henv.1 ci _ f1
  obtain ⟨cf, kf, fi, f, hi, hsl⟩ := hS k f2
  have hsta := (u_facts hfc hkC (u_lays (ws := z_tbl) hts f3 f2) hi).1
  have hi2 : s.fieldFound? y.1.cls (q'.2.1 k).2.1 (q'.2.1 k).2.2.1 = some (cf, kf, fi, f) := by rw [← hdecl]; exact hi
  have hlay := hts _ (f3 _ (u_in_lay f2))
  unfold u_lay at hlay
  rw [if_pos t2] at hlay
  have hcf : m.cls = cf := by
    obtain ⟨_, _, c', _, _, _, -, -, hf', -, -, -, hown2, -⟩ := Cond.laysFinal_spec hlay
    have e1 : c' = cf := by have := hi.symm.trans hf'; simp at this; exact this.1.symm
    rw [hdecl] at hown2
    rw [← e1]; exact Option.some.inj (hown.symm.trans hown2)
  obtain ⟨n1, n2⟩ := z_nvc hv h0
  have h6 := u_fits hfc hkC hkind (Or.inr hlay) hi (by rw [t3 k f2, t4]) n1 n2
  refine W.putFinK hx hb hown (hts _ f4) hi2 hsta hcf (hnm.trans hin) (by rw [o2]; exact h6) o1 o3 (by rw [hsl]; exact k2_hasslot (o4 k f2)) rfl rfl hd ?_
  intro H' e1 e2 e3
  rw [hsl] at e1
  have hX : z_X G R (z_s w a (.inr (ci, fs.set k v))) (.inr (ci, fs.set k v)) (R.1 a) H' :=
    ⟨q', gs.set k c0, f1, by rw [List.length_set]; exact x2, t_OB.to (V := updV (vp_V gs) k c0) ⟨_, e1, o2, o3, t_set o4 hap f2 c0⟩ (fun j _ => vp_updV_set (by rw [z_Ll x4]; show k < fs.length; rw [x2]; exact f2) c0 j), z_Lm (z_Vs hg) (z_Ls x4 h0)⟩
  exact h p e s m args below meth c R0 hok R H' _ ls cs1 (z_write hat hg e2 e3 hX) (z_lom (z_Vs hg) hlo) (z_Lm (z_Vs hg) hst2)
theorem j_alen {a kd n : Nat} {f : Nat → Value} {x : Int32} {ty : FieldType} (hd : decode y.2.1 pc = .ok (.arraylength, 1)) (hg : z_g w a = some (.inl (kd, n, f))) (hk : z_tyl[kd]? = some ty) (hv : Int32.ofNat n = x) (h : z_J G l y S (pc + 1) lo (.int x :: st) w kc ks) : z_J G l y S pc lo (.ref a :: st) w kc ks := by
  intro p e s m args below meth c R0 hok R H locs ls cst hat hlo hst
  obtain ⟨c1, cs1, rfl, ⟨-, h1⟩, hst1⟩ := z_Lc hst
  subst h1
  subst hv
  obtain ⟨z, z1, z2⟩ := (hat.1.1 a _ hg).1
  have kk := h p e s m args below meth c R0 hok R H locs ls (.int (Int32.ofNat n) :: cs1) hat hlo ⟨rfl, hst1⟩
  obtain ⟨hx, hb, -, -, -, hown, hts, henv, -⟩ := hok
  exact W.alen (n := Int32.ofNat n) hx hb z1 ((henv.2.1 kd ty hk).1 n z) (by rw [arrV_size] <;> rfl) rfl rfl hd kk
theorem j_iald {a n : Nat} {f : Nat → Value} {i : Int32} {v : Value} (hd : decode y.2.1 pc = .ok (.iaload, 1)) (hg : z_g w a = some (.inl (0, n, f))) (hin : vp_in i n) (hv : f i.toNatClampNeg = v) (h : z_J G l y S (pc + 1) lo (v :: st) w kc ks) : z_J G l y S pc lo (.int i :: .ref a :: st) w kc ks := by
  intro p e s m args below meth c R0 hok R H locs ls cst hat hlo hst
  obtain ⟨c0, cs0, rfl, h0, hst1⟩ := z_Lc hst
  obtain ⟨c1, cs1, rfl, ⟨-, h1⟩, hst2⟩ := z_Lc hst1
  have h0 : c0 = .int i := h0
  subst h0
  subst h1
  subst hv
  obtain ⟨z, z1, z2⟩ := (hat.1.1 a _ hg).1
  have hlt : i.toNatClampNeg < n := Nat.not_le.mp fun q => hin (Or.inr q)
  have kk := h p e s m args below meth c R0 hok R H locs ls (z i.toNatClampNeg :: cs1) hat hlo ⟨z2 _ hlt, hst2⟩
  obtain ⟨hx, hb, -, -, -, hown, hts, henv, -⟩ := hok
  exact W.iald hx hb z1 ((henv.2.1 0 .int rfl).1 n z) (fun q => by cases q) (by show ¬ (i < 0 ∨ (arrV _ _ _).slots.size ≤ _); rw [arrV_size]; exact hin) (by show (arrV _ _ _).slots[_]? = _; rw [arrV_read _ _ hlt]) rfl rfl hd kk
theorem j_zald {a n : Nat} {f : Nat → Value} {i : Int32} {v : Value} (hd : decode y.2.1 pc = .ok (.baload, 1)) (hg : z_g w a = some (.inl (1, n, f))) (hin : vp_in i n) (hv : f i.toNatClampNeg = v) (h : z_J G l y S (pc + 1) lo (v :: st) w kc ks) : z_J G l y S pc lo (.int i :: .ref a :: st) w kc ks := by
  intro p e s m args below meth c R0 hok R H locs ls cst hat hlo hst
  obtain ⟨c0, cs0, rfl, h0, hst1⟩ := z_Lc hst
  obtain ⟨c1, cs1, rfl, ⟨-, h1⟩, hst2⟩ := z_Lc hst1
  have h0 : c0 = .int i := h0
  subst h0
  subst h1
  subst hv
  obtain ⟨z, z1, z2⟩ := (hat.1.1 a _ hg).1
  have hlt : i.toNatClampNeg < n := Nat.not_le.mp fun q => hin (Or.inr q)
  have kk := h p e s m args below meth c R0 hok R H locs ls (z i.toNatClampNeg :: cs1) hat hlo ⟨z2 _ hlt, hst2⟩
  obtain ⟨hx, hb, -, -, -, hown, hts, henv, -⟩ := hok
  exact W.zald hx hb z1 ((henv.2.1 1 .boolean rfl).1 n z) (fun q => by cases q) (by show ¬ (i < 0 ∨ (arrV _ _ _).slots.size ≤ _); rw [arrV_size]; exact hin) (by show (arrV _ _ _).slots[_]? = _; rw [arrV_read _ _ hlt]) rfl rfl hd kk
theorem j_aald {a kd n : Nat} {f : Nat → Value} {i : Int32} {v : Value} {ty : FieldType} (hd : decode y.2.1 pc = .ok (.aaload, 1)) (hg : z_g w a = some (.inl (kd, n, f))) (hk : z_tyl[kd]? = some ty) (hr : ty.isReference = true) (hin : vp_in i n) (hv : f i.toNatClampNeg = v) (h : z_J G l y S (pc + 1) lo (v :: st) w kc ks) : z_J G l y S pc lo (.int i :: .ref a :: st) w kc ks := by
  intro p e s m args below meth c R0 hok R H locs ls cst hat hlo hst
  obtain ⟨c0, cs0, rfl, h0, hst1⟩ := z_Lc hst
  obtain ⟨c1, cs1, rfl, ⟨-, h1⟩, hst2⟩ := z_Lc hst1
  have h0 : c0 = .int i := h0
  subst h0
  subst h1
  subst hv
  obtain ⟨z, z1, z2⟩ := (hat.1.1 a _ hg).1
  have hlt : i.toNatClampNeg < n := Nat.not_le.mp fun q => hin (Or.inr q)
  have kk := h p e s m args below meth c R0 hok R H locs ls (z i.toNatClampNeg :: cs1) hat hlo ⟨z2 _ hlt, hst2⟩
  obtain ⟨hx, hb, -, -, -, hown, hts, henv, -⟩ := hok
  exact W.aald (ty := ty) hx hb z1 ((henv.2.1 kd ty hk).1 n z) hr (fun q => by cases q) (by show ¬ (i < 0 ∨ (arrV _ _ _).slots.size ≤ _); rw [arrV_size]; exact hin) (by show (arrV _ _ _).slots[_]? = _; rw [arrV_read _ _ hlt]) rfl rfl hd kk
def z_u (f : Nat → Value) (k : Nat) (v : Value) : Nat → Value := fun j => cond (Nat.beq j k) v (f j)
theorem z_u_self {f : Nat → Value} {k : Nat} {v : Value} : z_u f k v k = v := by unfold z_u; rw [Nat.beq_refl]; rfl
theorem z_u_ne {f : Nat → Value} {k j : Nat} {v : Value} (h : j ≠ k) : z_u f k v j = f j := by unfold z_u; rw [z_beq h]; rfl
theorem z_Xu {G : z_G} {R : z_R} {w w' : z_W} {kd n k A : Nat} {f : Nat → Value} {z : Nat → Value} {v c : Value} {H' : Heap} (hV : ∀ v c, z_V G R w v c → z_V G R w' v c) (h : ∀ j, j < n → z_V G R w (f j) (z j)) (hv : z_V G R w v c) (he : H'[A]? = some ((arrV (z_dA G kd) n z).setSlot k c)) : z_X G R w' (.inl (kd, n, z_u f k v)) A H' := by
  refine ⟨updV z k c, by rw [he, arrV_store], fun j hj => ?_⟩
  show z_V G R w' (z_u f k v j) (updV z k c j)
  by_cases hjk : j = k
  · subst hjk
    rw [z_u_self]
    unfold updV
    rw [if_pos rfl]
    exact hV _ _ hv
  · rw [z_u_ne hjk]
    unfold updV
    rw [if_neg hjk]
    exact hV _ _ (h j hj)
theorem j_iast {a n : Nat} {f : Nat → Value} {i x : Int32} (hd : decode y.2.1 pc = .ok (.iastore, 1)) (hg : z_g w a = some (.inl (0, n, f))) (hin : vp_in i n) (hw : z_s w a (.inl (0, n, z_u f i.toNatClampNeg (.int x))) = w') (h : z_J G l y S (pc + 1) lo st w' kc ks) : z_J G l y S pc lo (.int x :: .int i :: .ref a :: st) w kc ks := by
  intro p e s m args below meth c R0 hok R H locs ls cst hat hlo hst
  obtain ⟨c9, cs9, rfl, h9, hst1⟩ := z_Lc hst
  obtain ⟨c0, cs0, rfl, h0, hst2⟩ := z_Lc hst1
  obtain ⟨c1, cs1, rfl, ⟨-, h1⟩, hst3⟩ := z_Lc hst2
  have h9 : c9 = .int x := h9
  have h0 : c0 = .int i := h0
  subst h9
  subst h0
  subst h1
  subst hw
  obtain ⟨z, z1, z2⟩ := (hat.1.1 a _ hg).1
  have hok2 := hok
  obtain ⟨hx, hb, -, -, -, hown, hts, henv, -⟩ := hok2
  refine W.iast hx hb z1 ((henv.2.1 0 .int rfl).1 n z) (fun q => by cases q) (by show ¬ (i < 0 ∨ (arrV _ _ _).slots.size ≤ _); rw [arrV_size]; exact hin) rfl rfl hd ?_
  intro H' e1 e2 e3
  exact h p e s m args below meth c R0 hok R H' _ ls cs1 (z_write hat hg e2 e3 (z_Xu (z_Vs hg) z2 rfl e1)) (z_lom (z_Vs hg) hlo) (z_Lm (z_Vs hg) hst3)
theorem j_zast {a n : Nat} {f : Nat → Value} {i x : Int32} (hd : decode y.2.1 pc = .ok (.bastore, 1)) (hg : z_g w a = some (.inl (1, n, f))) (hin : vp_in i n) (hnr : narrow .boolean (.int x) = .int x) (hw : z_s w a (.inl (1, n, z_u f i.toNatClampNeg (.int x))) = w') (h : z_J G l y S (pc + 1) lo st w' kc ks) : z_J G l y S pc lo (.int x :: .int i :: .ref a :: st) w kc ks := by
  intro p e s m args below meth c R0 hok R H locs ls cst hat hlo hst
  obtain ⟨c9, cs9, rfl, h9, hst1⟩ := z_Lc hst
  obtain ⟨c0, cs0, rfl, h0, hst2⟩ := z_Lc hst1
  obtain ⟨c1, cs1, rfl, ⟨-, h1⟩, hst3⟩ := z_Lc hst2
  have h9 : c9 = .int x := h9
  have h0 : c0 = .int i := h0
  subst h9
  subst h0
  subst h1
  subst hw
  obtain ⟨z, z1, z2⟩ := (hat.1.1 a _ hg).1
  have hok2 := hok
  obtain ⟨hx, hb, -, -, -, hown, hts, henv, -⟩ := hok2
  refine W.zast hx hb z1 ((henv.2.1 1 .boolean rfl).1 n z) (fun q => by cases q) (by show ¬ (i < 0 ∨ (arrV _ _ _).slots.size ≤ _); rw [arrV_size]; exact hin) rfl rfl hd ?_
  intro H' e1 e2 e3
  rw [hnr] at e1
  exact h p e s m args below meth c R0 hok R H' _ ls cs1 (z_write hat hg e2 e3 (z_Xu (z_Vs hg) z2 rfl e1)) (z_lom (z_Vs hg) hlo) (z_Lm (z_Vs hg) hst3)
end ZH
end ZM3
section ZM4
section ZC
variable {G : z_G} {l : Launch} {y : z_M} {S : z_S} {pc : Nat} {lo : List (Nat × Value)} {st : List Value} {w w' : z_W} {kc ks : Nat}
def z_dv1 (v : Value) : Bool := match v with
  | .int _ => true
  | .long _ => true
  | .null => true
  | _ => false
def z_dv (fs : List Value) : Bool := fs.all z_dv1
theorem z_dvL {G : z_G} {R : z_R} {w : z_W} : ∀ {fs : List Value}, z_dv fs = true → z_L (z_V G R w) fs fs
  | [], _ => trivial
  | v :: t, h => by
    have h9 : z_dv1 v = true ∧ z_dv t = true := by
      unfold z_dv at h ⊢
      rw [List.all_cons, Bool.and_eq_true] at h
      exact h
    refine ⟨?_, z_dvL h9.2⟩
    cases v with
    | int x => rfl
    | long x => rfl
    | null => rfl
    | ref n => exact Bool.noConfusion h9.1
    | float b => exact Bool.noConfusion h9.1
    | retAddr k => exact Bool.noConfusion h9.1
    | double b => exact Bool.noConfusion h9.1
def z_N (own : String) (idx ci : Nat) (fs : List Value) : Prop := ∃ (q : vw_C) (ty : Nat → FieldType), z_cls[ci]? = some q ∧ (∀ x ∈ u_ws q.1 q.2.1 q.2.2, x ∈ z_tbl) ∧ Cond.classLink own idx q.1 ∈ z_tbl ∧ Cond.instantiable q.1 q.2.2 ∈ z_tbl ∧ Cond.initialized q.1 ∈ z_tbl ∧
  (∀ j, j < q.2.2 → parseFieldDescriptor (q.2.1 j).2.2.1 = some (ty j)) ∧ fs.length = q.2.2 ∧ (∀ j, j < q.2.2 → defaultValue (ty j) = vp_V fs j) ∧ z_dv fs = true
theorem j_new {idx ci n N : Nat} {fs : List Value} (hd : decode y.2.1 pc = .ok (.new idx, 3)) (hN : z_N y.1.cls idx ci fs) (hl : fs.length = N) (hw : z_g w n = none ∧ z_al w n (.inr (ci, fs)) w') (hc : kc + 1 ≤ S.2.1) (hs : ks + N ≤ S.2.2.1) (h : z_J G l y S (pc + 3) lo (.ref n :: st) w' (kc + 1) (ks + N)) : z_J G l y S pc lo st w kc ks := by
  intro p e s m args below meth c R0 hok R H locs ls cst hat hlo hst
  obtain ⟨q, ty, n1, n2, n3, n4, n5, n6, n7, n8, n9⟩ := hN
  have hok2 := hok
  obtain ⟨hx, hb, -, -, -, hown, hts, henv, -, hbs, -⟩ := hok2
  have hKn := henv.1 ci _ n1
  refine W.newcK hx hb hown (hts _ n3) (hts _ n4) (hts _ n5) rfl hd hc (by rw [← n7, hl]; exact hs) hKn.2.1 rfl ?_
  intro H' kC hkC e1 z1 o1
  have hX : z_X G ((fun m => if m = n then H.size else R.1 m), R.2) w' (.inr (ci, fs)) H.size H' :=
    ⟨q, fs, n1, n7, (u_born ty hts n2 hKn hkC e1 n6).to n8, z_dvL n9⟩
  have hV := z_Va (G := G) (R := R) (q := H.size) hw.1 hw.2
  have hat' := z_alloc hbs hat hw.1 hw.2 z1 o1 hX
  have hr : z_V G ((fun m => if m = n then H.size else R.1 m), R.2) w' (.ref n) (.ref H.size) := ⟨⟨_, hw.2.1⟩, by show Value.ref H.size = .ref (if n = n then H.size else R.1 n); rw [if_pos rfl]⟩
  rw [← n7, hl]
  exact h p e s m args below meth c R0 hok _ H' locs ls (.ref H.size :: cst) hat' (z_lom hV hlo) ⟨hr, z_Lm hV hst⟩
theorem j_newa {at9 : ArrayType} {kd n N : Nat} {x : Int32} {ty : FieldType} (hd : decode y.2.1 pc = .ok (.newarray at9, 2)) (hk : z_tyl[kd]? = some ty) (hty : newarray.typeOf at9 = ty) (ha : Cond.arrayClass ty ∈ z_tbl) (hra : va_RA = va_RA ∧ ∀ (U : State) (c : ClassId), va_RA U c ty → U.vm.findClass ("[" ++ ty.toString) = some c) (hx0 : ¬ x < 0) (hN : x.toNatClampNeg = N) (hby : N * componentBytes ty ≤ 536870912) (hdv : defaultValue ty = .int 0) (hw : z_g w n = none ∧ z_al w n (.inl (kd, N, fun _ => .int 0)) w') (hc : kc + 1 ≤ S.2.1) (hs : ks + N ≤ S.2.2.1) (h : z_J G l y S (pc + 2) lo (.ref n :: st) w' (kc + 1) (ks + N)) : z_J G l y S pc lo (.int x :: st) w kc ks := by
  intro p e s m args below meth c R0 hok R H locs ls cst hat hlo hst
  obtain ⟨c0, cs0, rfl, h0, hst1⟩ := z_Lc hst
  have h0 : c0 = .int x := h0
  subst h0
  subst hty
  have hok2 := hok
  obtain ⟨hx, hb, -, -, -, hown, hts, henv, -, hbs, -⟩ := hok2
  refine va_newaK hx hb (hts _ ha) rfl hd rfl hx0 hN hby hc hs rfl ?_
  intro H' cA e1 z1 o1 hAr hNm
  have hcA : cA = z_dA G kd := Option.some.inj (hNm.symm.trans (hra.2 _ _ (henv.2.1 kd _ hk).2))
  subst hcA
  have hX : z_X G ((fun m => if m = n then H.size else R.1 m), R.2) w' (.inl (kd, N, fun _ => .int 0)) H.size H' := ⟨fun _ => .int 0, by rw [e1, hdv], fun j hj => rfl⟩
  have hV := z_Va (G := G) (R := R) (q := H.size) hw.1 hw.2
  have hat' := z_alloc hbs hat hw.1 hw.2 z1 o1 hX
  have hr : z_V G ((fun m => if m = n then H.size else R.1 m), R.2) w' (.ref n) (.ref H.size) := ⟨⟨_, hw.2.1⟩, by show Value.ref H.size = .ref (if n = n then H.size else R.1 n); rw [if_pos rfl]⟩
  exact h p e s m args below meth c R0 hok _ H' locs ls (.ref H.size :: cs0) hat' (z_lom hV hlo) ⟨hr, z_Lm hV hst1⟩
theorem j_anew {idx kd n N : Nat} {x : Int32} {C : String} (hd : decode y.2.1 pc = .ok (.anewarray idx, 3)) (hk : z_tyl[kd]? = some (.object C)) (hcl : Cond.classLink y.1.cls idx C ∈ z_tbl) (hov : Cond.arrayOver (.object C) ∈ z_nst) (hx0 : ¬ x < 0) (hN : x.toNatClampNeg = N) (hby : N * 4 ≤ 536870912) (hw : z_g w n = none ∧ z_al w n (.inl (kd, N, fun _ => .null)) w') (hc : kc + 1 ≤ S.2.1) (hs : ks + N ≤ S.2.2.1) (h : z_J G l y S (pc + 3) lo (.ref n :: st) w' (kc + 1) (ks + N)) : z_J G l y S pc lo (.int x :: st) w kc ks := by
  intro p e s m args below meth c R0 hok R H locs ls cst hat hlo hst
  obtain ⟨c0, cs0, rfl, h0, hst1⟩ := z_Lc hst
  have h0 : c0 = .int x := h0
  subst h0
  subst hN
  have hok2 := hok
  obtain ⟨hx, hb, -, -, -, hown, hts, henv, -, hbs, -⟩ := hok2
  refine W.anew hx hb hown (hts _ hcl) (va_AO.use (henv.2.2.1 _ hov)) rfl hd rfl hx0 hby hc hs fun cA kA comp f1 f2 f3 f4 => ?_
  generalize hH1 : H.push ({ cls := cA, slots := Array.replicate x.toNatClampNeg .null, vm := .none } : Cell) = H1
  have z1 : H1.size = H.size + 1 := by rw [← hH1, Array.size_push]
  have e1 : H1[H.size]? = some (arrV cA x.toNatClampNeg (fun _ => .null)) := by rw [← hH1, Array.getElem?_push_size, ← arrV_new]
  have o1 : ∀ q : Nat, q < H.size → H1[q]? = H[q]? := fun q hq => by rw [← hH1, Array.getElem?_push, if_neg (Nat.ne_of_lt hq)]
  obtain ⟨kA', comp', r1, r2, r3, r4⟩ := (henv.2.1 kd _ hk).2
  have hcA : cA = z_dA G kd := Option.some.inj (f1.symm.trans r4)
  subst hcA
  have hX : z_X G ((fun m => if m = n then H.size else R.1 m), R.2) w' (.inl (kd, x.toNatClampNeg, fun _ => .null)) H.size H1 := ⟨fun _ => .null, e1, fun j hj => rfl⟩
  have hV := z_Va (G := G) (R := R) (q := H.size) hw.1 hw.2
  have hat' := z_alloc hbs hat hw.1 hw.2 z1 o1 hX
  have hr : z_V G ((fun m => if m = n then H.size else R.1 m), R.2) w' (.ref n) (.ref H.size) := ⟨⟨_, hw.2.1⟩, by show Value.ref H.size = .ref (if n = n then H.size else R.1 n); rw [if_pos rfl]⟩
  exact h p e s m args below meth c R0 hok _ H1 locs ls (.ref H.size :: cs0) hat' (z_lom hV hlo) ⟨hr, z_Lm hV hst1⟩
theorem j_aast {a b kd ci n : Nat} {f : Nat → Value} {fs : List Value} {q : vw_C} {i : Int32} (hd : decode y.2.1 pc = .ok (.aastore, 1)) (hg : z_g w a = some (.inl (kd, n, f))) (hk : z_tyl[kd]? = some (.object q.1)) (hgb : z_g w b = some (.inr (ci, fs))) (hq : z_cls[ci]? = some q) (hin : vp_in i n) (hw : z_s w a (.inl (kd, n, z_u f i.toNatClampNeg (.ref b))) = w') (h : z_J G l y S (pc + 1) lo st w' kc ks) : z_J G l y S pc lo (.ref b :: .int i :: .ref a :: st) w kc ks := by
  intro p e s m args below meth c R0 hok R H locs ls cst hat hlo hst
  obtain ⟨c9, cs9, rfl, h9, hst1⟩ := z_Lc hst
  obtain ⟨c0, cs0, rfl, h0, hst2⟩ := z_Lc hst1
  obtain ⟨c1, cs1, rfl, ⟨-, h1⟩, hst3⟩ := z_Lc hst2
  have h9' := h9.2
  have h0 : c0 = .int i := h0
  subst h9'
  subst h0
  subst h1
  subst hw
  obtain ⟨z, z1, z2⟩ := (hat.1.1 a _ hg).1
  obtain ⟨q', gs, x1, x2, ⟨cellV, g1, g2, g3, -⟩, x4⟩ := (hat.1.1 b _ hgb).1
  have hok2 := hok
  obtain ⟨hx, hb, -, -, -, hown, hts, henv, -⟩ := hok2
  have hlt : i.toNatClampNeg < n := Nat.not_le.mp fun q => hin (Or.inr q)
  have hi0 : ¬ i < 0 := fun q => hin (Or.inl q)
  have hcls := (henv.1 ci q hq).2
  obtain ⟨kA, comp, k1, k2, k3, -⟩ := (henv.2.1 kd _ hk).2
  have hcomp : comp = z_dC G ci := Option.some.inj (k3.symm.trans hcls.1)
  subst hcomp
  obtain ⟨kC, hkC, -⟩ := hcls.2
  refine W.aast hx hb z1 (fun q h => by cases h) (fun h => by cases h) k1 k2 rfl hkC ⟨hi0, by show _ < (arrV _ _ _).slots.size; rw [arrV_size]; exact hlt⟩ g1 (fun q h => by rw [g3] at h; cases h) (by rw [g2]; exact hkC) (by rw [g2]; exact va_assign hcls) rfl rfl hd ?_
  intro H' e1 e2 e3
  exact h p e s m args below meth c R0 hok R H' _ ls cs1 (z_write hat hg e2 e3 (z_Xu (z_Vs hg) z2 h9 e1)) (z_lom (z_Vs hg) hlo) (z_Lm (z_Vs hg) hst3)
theorem z_fin {G : z_G} {S : z_S} {R0 R : z_R} {s : State} {w : z_W} {H : Heap} {locs : List Loc} (hat : z_at G S R0 s R w H locs) {t : State} (ht : t.heap = H) : z_P G R w t.heap ∧ z_T R0 S.2.2.2.1 s.heap.size R w ∧ va_F (z_A R0 S.2.2.2.1 s.heap.size) s t :=
  ⟨by rw [ht]; exact hat.1, hat.2.1, by rw [ht]; exact hat.2.2.1, fun q h1 h2 => by rw [ht]; exact hat.2.2.2.1 q h1 h2⟩
theorem j_iret {x : Int32} {ty : FieldType} (hd : decode y.2.1 pc = .ok (.ireturn, 1)) (hr : y.2.2.2.1 = some ty) (hn : narrow ty (.int x) = .int x) (hQ : S.2.2.2.2.1 (some (.int x)) w) (hc : kc ≤ S.2.1) (hs : ks ≤ S.2.2.1) : z_J G l y S pc lo [.int x] w kc ks := by
  intro p e s m args below meth c R0 hok R H locs ls cst hat hlo hst
  obtain ⟨c0, cs0, rfl, h0, hst1⟩ := z_Lc hst
  obtain rfl := z_Ln hst1
  have h0 : c0 = .int x := h0
  subst h0
  obtain ⟨hx, hb, -, hret, hlk, -⟩ := hok
  refine W.widen hc hs (vx_ret ?_)
  exact W.zret (hlocks := hlk) hx hb (hret.trans hr) hn (fun t ht hW => ⟨some (.int x), some (.int x), R, w, rfl, rfl, hQ, z_fin hat ht⟩) hat.2.2.2.2 hd
theorem j_lret {x : Int64} (hd : decode y.2.1 pc = .ok (.lreturn, 1)) (hr : y.2.2.2.1 = some .long) (hQ : S.2.2.2.2.1 (some (.long x)) w) (hc : kc ≤ S.2.1) (hs : ks ≤ S.2.2.1) : z_J G l y S pc lo [.long x] w kc ks := by
  intro p e s m args below meth c R0 hok R H locs ls cst hat hlo hst
  obtain ⟨c0, cs0, rfl, h0, hst1⟩ := z_Lc hst
  obtain rfl := z_Ln hst1
  have h0 : c0 = .long x := h0
  subst h0
  obtain ⟨hx, hb, -, hret, hlk, -⟩ := hok
  refine W.widen hc hs (vx_ret ?_)
  exact W.lret (hlocks := hlk) hx hb (hret.trans hr) (fun t ht hW => ⟨some (.long x), some (.long x), R, w, rfl, rfl, hQ, z_fin hat ht⟩) hat.2.2.2.2 hd
theorem j_vret (hd : decode y.2.1 pc = .ok (.return_, 1)) (hr : y.2.2.2.1 = none) (hQ : S.2.2.2.2.1 none w) (hc : kc ≤ S.2.1) (hs : ks ≤ S.2.2.1) : z_J G l y S pc lo [] w kc ks := by
  intro p e s m args below meth c R0 hok R H locs ls cst hat hlo hst
  obtain rfl := z_Ln hst
  obtain ⟨hx, hb, -, hret, hlk, -⟩ := hok
  refine W.widen hc hs (vx_ret ?_)
  exact W.vret (hlocks := hlk) hx hb (hret.trans hr) (fun t ht hW => ⟨none, none, R, w, rfl, trivial, hQ, z_fin hat ht⟩) hat.2.2.2.2 hd
theorem j_aret {v : Value} {ty : FieldType} (hd : decode y.2.1 pc = .ok (.areturn, 1)) (hr : y.2.2.2.1 = some ty) (hty : (∃ n, ty = .object n) ∨ ∃ t, ty = .array t) (hv : z_ir v = true) (hQ : S.2.2.2.2.1 (some v) w) (hc : kc ≤ S.2.1) (hs : ks ≤ S.2.2.1) : z_J G l y S pc lo [v] w kc ks := by
  intro p e s m args below meth c R0 hok R H locs ls cst hat hlo hst
  obtain ⟨c0, cs0, rfl, h0, hst1⟩ := z_Lc hst
  obtain rfl := z_Ln hst1
  obtain ⟨hx, hb, -, hret, hlk, -⟩ := hok
  refine W.widen hc hs (vx_ret ?_)
  exact W.aret (hlocks := hlk) hx hb (hret.trans hr) hty (z_V_ir hv h0) (fun t ht hW => ⟨some v, some c0, R, w, rfl, h0, hQ, z_fin hat ht⟩) hat.2.2.2.2 hd
theorem z_hA {G : z_G} {S : z_S} {R0 : z_R} {s : State} {p : Program} {m : MethodId} {args : Array Value} {meth : Method} {c : Code} (hok : z_ok G l y S p s m args meth c R0) (q : Nat) (h : z_A R0 S.2.2.2.1 s.heap.size q) : z_b G ≤ q := z_A.b hok.2.2.2.2.2.2.2.2.1 hok.2.2.2.2.2.2.2.2.2.1 h
theorem z_envH {G : z_G} {S : z_S} {R0 R : z_R} {s : State} {p : Program} {m : MethodId} {args : Array Value} {meth : Method} {c : Code} {H : Heap} {locs : List Loc} (hok : z_ok G l y S p s m args meth c R0) (hat : z_at G S R0 s R w H locs) {U : State} (hU : U.heap = H) (hW : s.WarmedH U.vm) : z_env G U :=
  z_envm hok.2.2.2.2.2.2.2.1 hW (fun q hq hb => by rw [hU]; exact hat.2.2.2.1 q hq (fun z => hb (z_hA hok q z)))
theorem z_pre {G : z_G} {S : z_S} {R0 R : z_R} {s : State} {p : Program} {m : MethodId} {args : Array Value} {meth : Method} {c : Code} {H : Heap} {locs : List Loc} {av cav : List Value} (hok : z_ok G l y S p s m args meth c R0) (hat : z_at G S R0 s R w H locs) (hav : z_L (z_V G R w) av cav) (U : State) (hU : U.heap = H) (hW : s.WarmedH U.vm) : z_Pc G R w av cav.toArray U :=
  ⟨⟨cav, rfl, hav⟩, z_envH hok hat hU hW, by rw [hU]; exact hat.1, by rw [hU]; exact Nat.le_trans hok.2.2.2.2.2.2.2.2.2.1 hat.2.2.1⟩
theorem z_after {G : z_G} {S : z_S} {R0 R R' : z_R} {s st₀ t T' : State} {w w' : z_W} {H : Heap} {locs L : List Loc} (hat : z_at G S R0 s R w H locs) (h0 : st₀.heap = H) (e1 : T'.heap = t.heap) (hL : ∀ q ∈ L, z_b G ≤ q.base) (hP : z_P G R' w' t.heap) (hT : z_T R w st₀.heap.size R' w') (hF : va_F (z_A R w st₀.heap.size) st₀ t) : z_at G S R0 s R' w' T'.heap (locs ++ L) := by
  obtain ⟨p, tt, f⟩ := hat
  rw [h0] at hT hF
  obtain ⟨f1, f2⟩ := hF
  rw [h0] at f1 f2
  refine ⟨by rw [e1]; exact hP, tt.tr hT f.1, Nat.le_trans f.1 (by rw [e1]; exact f1), fun q hq hA => ?_, fun x hx => ?_⟩
  · rw [e1, f2 q (Nat.lt_of_lt_of_le hq f.1) ?_]
    · exact f.2.1 q hq hA
    · rintro (⟨n, hn, rfl⟩ | hz)
      · exact hA (tt.A hn)
      · have := f.1
        omega
  · rcases List.mem_append.mp hx with h | h
    · exact f.2.2 x h
    · exact hL x h
theorem z_Oc {P : Value → Value → Prop} {v c : Option Value} {as bs : List Value} (h : z_O P v c) (h2 : z_L P as bs) : z_L P (v.toList ++ as) (c.toList ++ bs) := by
  cases v with
  | none =>
    cases c with
    | none => exact h2
    | some c => exact h.elim
  | some v =>
    cases c with
    | none => exact h.elim
    | some c => exact ⟨h, h2⟩
theorem z_run {S : z_S} {p : Program} {e : Env} {s : State} {m : MethodId} {args : Array Value} {below : List Frame} {meth : Method} {c : Code} {R0 R : z_R} {H : Heap} {locs : List Loc} {ls : Array Slot} {cst crest rest : List Value} {a9 : Array Value} {mc' ms' : Nat} {Q' : Option Value → z_W → Prop} {X' : String → z_W → Prop} (hok : z_ok G l y S p s m args meth c R0) (hat : z_at G S R0 s R w H locs) (hlo : z_lo G R w lo ls c.maxLocals) (hrest : z_L (z_V G R w) rest crest) (ht : y.2.2.2.2 = [])
    (hr : vx_Run p l e (z_rm S.1 S.2.1 S.2.2.1) s m args below meth c H locs kc ks mc' ms' (F0 m pc ls cst) crest (z_Qc G R w Q' a9) (z_Xc G R w X') (fun q => z_b G ≤ q)) (hcs : kc + mc' ≤ S.2.1 ∧ ks + ms' ≤ S.2.2.1) (hx : ∀ E w', X' E w' → S.2.2.2.2.2 E w')
    (kk : ∀ v w', Q' v w' → z_J G l y S (pc + 3) lo (v.toList ++ rest) w' (kc + mc') (ks + ms')) : W p l e (z_rm S.1 S.2.1 S.2.2.1) s m args below meth c H locs kc ks (vx_MQ below (z_Qc G R0 S.2.2.2.1 S.2.2.2.2.1) (z_Xc G R0 S.2.2.2.1 S.2.2.2.2.2) args s S.2.1 S.2.2.1 (fun q => z_b G ≤ q)) (F0 m pc ls cst) := by
  intro T hT X
  rcases hr T hT X with ⟨v, st₀, t, T', L, h0, X', hL, e1, e2, ⟨v', cv, R', w', ho, hO, hQ, hP, hTT, hF⟩, go⟩ | ⟨q, st₀, t, T', L, E, ce, h0, X', hL, e1, e2, ⟨R', w', hX, hP, hTT, hF⟩, hce, hcv, hcl, go⟩
  · cases ho
    have hat' := z_after hat h0 e1 hL hP hTT hF
    obtain ⟨t2, a1, b1⟩ := kk v' w' hQ p e s m args below meth c R0 hok R' T'.heap (locs ++ L) ls (v.toList ++ crest) hat' (z_lom hTT.V hlo) (z_Oc hO (z_Lm hTT.V hrest)) T' rfl X'
    exact ⟨t2, go t2 a1, b1⟩
  · have hat' := z_after hat h0 e1 hL hP hTT hF
    have htab : c.exceptionTable.toList = [] := by rw [hok.2.2.2.2.2.2.2.2.2.2.1, ht]; rfl
    have h9 := vx_out (p := p) (l := l) (e := e) (R := z_rm S.1 S.2.1 S.2.2.1) (s := s) (m := m) (args := args) (below := below) (meth := meth) (c := c) (H := T'.heap) (locs := locs ++ L) (cells := kc + mc') (slots := ks + ms') (free := fun q => z_b G ≤ q) (ls := ls) (rest := crest) (Qc := z_Qc G R0 S.2.2.2.1 S.2.2.2.2.1) (XC := z_Xc G R0 S.2.2.2.1 S.2.2.2.2.2) (pc := pc) (E := E) (ce := ce) (q := q) (mc := S.2.1) (ms := S.2.2.1) (fun x hx => by rw [htab] at hx; cases hx) hok.2.2.2.2.1 (by rw [e1]; exact hce) hcv hcl
      (fun t9 ht9 _ => ⟨R', w', hx E w' hX, z_fin hat' ht9⟩) hat'.2.2.2.2 hcs.1 hcs.2
    obtain ⟨t2, a1, b1⟩ := h9 T' rfl X'
    exact ⟨t2, go.trans a1, b1⟩
def z_okm (y : z_M) (np : Nat) : Prop := y.2.2.2.2 = [] ∧ z_code y ∈ z_tbl ∧ Cond.initialized y.1.cls ∈ z_tbl ∧ (y.1.cls ≠ "java/lang/invoke/MethodHandle" ∧ y.1.cls ≠ "java/lang/invoke/VarHandle") ∧ (parseMethodDescriptor y.1.desc).map (fun d => d.parameters.length) = some np ∧ y.2.2.1 ≤ 21
theorem z_cd {y : z_M} (h : y.2.2.2.2 = []) : z_code y = Cond.code y.1 y.2.1 y.2.2.1 y.2.2.2.1 := by
  obtain ⟨yn, yb, yl, yr, yt⟩ := y
  have h : yt = [] := h
  subst h
  rfl
theorem z_pay {y : z_M} {args : Array Value} {s : State} (hts : ∀ w ∈ z_tbl, w.before args s = true) (hm : z_code y ∈ z_tbl) : ∀ w ∈ z_ws y, ∀ (a' : Array Value) (U : State), s.WarmedH U.vm → w.before a' U = true := by
  intro w hw a' U hW
  have hw2 : w ∈ z_tbl := by
    rcases List.mem_cons.mp hw with rfl | h
    · exact hm
    · exact h
  exact word_at hW (good_of_word (List.mem_filter.mp hw2).2) (hts w hw2)
theorem z_rmle {rk' rk L : Nat} (h1 : rk' + 1 ≤ rk) (h2 : L ≤ 21) : rk' + 1 ≤ rk ∧ 8 + (L + 11) + 40 * rk' ≤ 40 * rk := ⟨h1, by omega⟩
theorem z_np {y : MethodName} {np : Nat} (h : (parseMethodDescriptor y.desc).map (fun d => d.parameters.length) = some np) : ∀ sig, parseMethodDescriptor y.desc = some sig → np = sig.parameters.length := by
  intro sig hs
  rw [hs] at h
  exact (Option.some.inj h).symm
theorem z_CB {S : z_S} {s : State} {args : Array Value} {y y' : z_M} {idx np rk' mc' ms' : Nat} (hts : ∀ w ∈ z_tbl, w.before args s = true) (hm : z_okm y' np) (hrk : rk' + 1 ≤ S.1) (hl : Cond.methodLink y.1.cls idx y'.1 ∈ z_tbl) : CallB (z_rm S.1 S.2.1 S.2.2.1) s args y.1.cls idx y'.1 y'.2.1 y'.2.2.1 y'.2.2.2.1 (z_ws y') (z_rm rk' mc' ms') mc' ms' np := by
  obtain ⟨m1, m2, m3, m4, m5, m6⟩ := hm
  have e := z_cd m1
  refine ⟨rfl, rfl, (z_rmle hrk m6).1, (z_rmle hrk m6).2, z_pay hts m2, by rw [← e]; exact List.mem_cons_self, by rw [← e]; exact hts _ m2, hts _ m3, m4, z_np m5, hts _ hl⟩
theorem z_CBN {S : z_S} {s : State} {args : Array Value} {y y' : z_M} {host : String} {idx np rk' mc' ms' : Nat} (hts : ∀ w ∈ z_tbl, w.before args s = true) (henv : z_env G s) (hm : z_okm y' np) (hrk : rk' + 1 ≤ S.1) (hl : Cond.methodLinkNest y.1.cls idx y'.1 host ∈ z_nst) : va_CN (z_rm S.1 S.2.1 S.2.2.1) s args y.1.cls idx y'.1 host y'.2.1 y'.2.2.1 y'.2.2.2.1 (z_ws y') (z_rm rk' mc' ms') mc' ms' np := by
  obtain ⟨m1, m2, m3, m4, m5, m6⟩ := hm
  have e := z_cd m1
  refine ⟨⟨rfl, rfl, (z_rmle hrk m6).1, (z_rmle hrk m6).2, z_pay hts m2, by rw [← e]; exact List.mem_cons_self⟩, by rw [← e]; exact hts _ m2, hts _ m3, m4, z_np m5, va_Nw.use (w := Cond.methodLinkNest y.1.cls idx y'.1 host) rfl (henv.2.2.1 _ hl)⟩
theorem z_recv {S : z_S} {R0 R : z_R} {s : State} {p : Program} {m : MethodId} {args : Array Value} {meth : Method} {c : Code} {H : Heap} {locs : List Loc} {a ci : Nat} {fs : List Value} {q : vw_C} (hok : z_ok G l y S p s m args meth c R0) (hat : z_at G S R0 s R w H locs) (hg : z_g w a = some (.inr (ci, fs))) (hq : z_cls[ci]? = some q) : ∃ cellB : Cell, H[R.1 a]? = some cellB ∧ cellB.vm.isStatics = false ∧ s.vm.findClass q.1 = some cellB.cls := by
  obtain ⟨q', gs, x1, x2, ⟨cell, o1, o2, o3, -⟩, x4⟩ := (hat.1.1 a _ hg).1
  exact ⟨cell, o1, by rw [o3]; rfl, by rw [o2]; exact (hok.2.2.2.2.2.2.2.1.1 ci q hq).2.1⟩
theorem j_callS {idx np rk' mc' ms' : Nat} {y' : z_M} {as rest : List Value} {Q' : Option Value → z_W → Prop} {X' : String → z_W → Prop} (hd : decode y.2.1 pc = .ok (.invokestatic idx, 3)) (hm : z_okm y' np) (hl : Cond.methodLink y.1.cls idx y'.1 ∈ z_tbl) (hsx : Cond.static y'.1 ∈ z_tbl) (hc : z_Con G l y' rk' mc' ms' w as Q' X') (hrk : rk' + 1 ≤ S.1) (hcs : kc + mc' ≤ S.2.1 ∧ ks + ms' ≤ S.2.2.1) (hstk : st = as.reverse ++ rest) (hW : z_cat rest ≤ 8) (hn : as.length = np) (ht : y.2.2.2.2 = []) (hx : ∀ E w', X' E w' → S.2.2.2.2.2 E w') (kk : ∀ v w', Q' v w' → z_J G l y S (pc + 3) lo (v.toList ++ rest) w' (kc + mc') (ks + ms')) : z_J G l y S pc lo st w kc ks := by
  intro p e s m args below meth c R0 hok R H locs ls cst hat hlo hst
  subst hstk
  obtain ⟨b1, crest, rfl, hb1, hrest⟩ := z_Lapp hst
  have hAs := z_Lrev hb1
  rw [List.reverse_reverse] at hAs
  exact z_run hok hat hlo hrest ht (vx_runS (As := b1.reverse) ⟨hok.1, hok.2.1, rfl, hok.2.2.2.2.2.1, hok.2.2.2.2.2.2.1⟩ (hc R) ⟨z_CB hok.2.2.2.2.2.2.1 hm hrk hl, hok.2.2.2.2.2.2.1 _ hsx⟩ ⟨z_Pc_blind, fun U hU hW9 => z_pre hok hat hAs U hU hW9⟩ rfl (by rw [z_Ll hAs]; exact hn) hlo.choose_spec.1.1 (by rw [List.reverse_reverse]) (lv_room (by rw [z_Lcs hrest]; exact hW)) hd hcs) hcs hx kk
theorem j_callSN {idx np rk' mc' ms' : Nat} {y' : z_M} {as rest : List Value} {Q' : Option Value → z_W → Prop} {X' : String → z_W → Prop} {host : String} (hd : decode y.2.1 pc = .ok (.invokestatic idx, 3)) (hm : z_okm y' np) (hl : Cond.methodLinkNest y.1.cls idx y'.1 host ∈ z_nst) (hsx : Cond.static y'.1 ∈ z_tbl) (hc : z_Con G l y' rk' mc' ms' w as Q' X') (hrk : rk' + 1 ≤ S.1) (hcs : kc + mc' ≤ S.2.1 ∧ ks + ms' ≤ S.2.2.1) (hstk : st = as.reverse ++ rest) (hW : z_cat rest ≤ 8) (hn : as.length = np) (ht : y.2.2.2.2 = []) (hx : ∀ E w', X' E w' → S.2.2.2.2.2 E w') (kk : ∀ v w', Q' v w' → z_J G l y S (pc + 3) lo (v.toList ++ rest) w' (kc + mc') (ks + ms')) : z_J G l y S pc lo st w kc ks := by
  intro p e s m args below meth c R0 hok R H locs ls cst hat hlo hst
  subst hstk
  obtain ⟨b1, crest, rfl, hb1, hrest⟩ := z_Lapp hst
  have hAs := z_Lrev hb1
  rw [List.reverse_reverse] at hAs
  exact z_run hok hat hlo hrest ht (vx_runSN (As := b1.reverse) ⟨hok.1, hok.2.1, rfl, hok.2.2.2.2.2.1, hok.2.2.2.2.2.2.1⟩ (hc R) ⟨z_CBN hok.2.2.2.2.2.2.1 hok.2.2.2.2.2.2.2.1 hm hrk hl, hok.2.2.2.2.2.2.1 _ hsx, trivial⟩ ⟨z_Pc_blind, fun U hU hW9 => z_pre hok hat hAs U hU hW9⟩ rfl (by rw [z_Ll hAs]; exact hn) hlo.choose_spec.1.1 (by rw [List.reverse_reverse]) (lv_room (by rw [z_Lcs hrest]; exact hW)) hd hcs) hcs hx kk
theorem j_callV {idx np rk' mc' ms' : Nat} {y' : z_M} {as rest : List Value} {Q' : Option Value → z_W → Prop} {X' : String → z_W → Prop} {a ci : Nat} {fs : List Value} {q : vw_C} (hd : decode y.2.1 pc = .ok (.invokevirtual idx, 3)) (hm : z_okm y' np) (hl : Cond.methodLink y.1.cls idx y'.1 ∈ z_tbl) (hi : Cond.instanceMethod y'.1 ∈ z_tbl) (hse : Cond.selects q.1 y'.1 y'.1 ∈ z_tbl) (hg : z_g w a = some (.inr (ci, fs))) (hq : z_cls[ci]? = some q) (hc : z_Con G l y' rk' mc' ms' w (.ref a :: as) Q' X') (hrk : rk' + 1 ≤ S.1) (hcs : kc + mc' ≤ S.2.1 ∧ ks + ms' ≤ S.2.2.1) (hstk : st = as.reverse ++ .ref a :: rest) (hW : z_cat rest ≤ 8) (hn : as.length = np) (ht : y.2.2.2.2 = []) (hx : ∀ E w', X' E w' → S.2.2.2.2.2 E w') (kk : ∀ v w', Q' v w' → z_J G l y S (pc + 3) lo (v.toList ++ rest) w' (kc + mc') (ks + ms')) : z_J G l y S pc lo st w kc ks := by
  intro p e s m args below meth c R0 hok R H locs ls cst hat hlo hst
  subst hstk
  obtain ⟨b1, c2, rfl, hb1, hst⟩ := z_Lapp hst
  obtain ⟨c1, crest, rfl, h1, hrest⟩ := z_Lc hst
  have h1' := h1.2
  subst h1'
  have hAs := z_Lrev hb1
  rw [List.reverse_reverse] at hAs
  exact z_run hok hat hlo hrest ht (vx_runV (C := q.1) (As := b1.reverse) ⟨hok.1, hok.2.1, rfl, hok.2.2.2.2.2.1, hok.2.2.2.2.2.2.1⟩ (hc R) ⟨z_CB hok.2.2.2.2.2.2.1 hm hrk hl, hok.2.2.2.2.2.2.1 _ hi, hok.2.2.2.2.2.2.1 _ hse⟩ ⟨z_Pc_blind, z_recv hok hat hg hq, fun U hU hW9 => z_pre hok hat (av := .ref a :: as) (cav := .ref (R.1 a) :: b1.reverse) ⟨h1, hAs⟩ U hU hW9⟩ rfl (by rw [z_Ll hAs]; exact hn) hlo.choose_spec.1.1 (by rw [List.reverse_reverse]) (lv_room (by rw [z_Lcs hrest]; exact hW)) hd hcs) hcs hx kk
theorem j_callVN {idx np rk' mc' ms' : Nat} {y' : z_M} {as rest : List Value} {Q' : Option Value → z_W → Prop} {X' : String → z_W → Prop} {host : String} {a ci : Nat} {fs : List Value} {q : vw_C} (hd : decode y.2.1 pc = .ok (.invokevirtual idx, 3)) (hm : z_okm y' np) (hl : Cond.methodLinkNest y.1.cls idx y'.1 host ∈ z_nst) (hi : Cond.instanceMethod y'.1 ∈ z_tbl) (hse : Cond.selects q.1 y'.1 y'.1 ∈ z_tbl) (hg : z_g w a = some (.inr (ci, fs))) (hq : z_cls[ci]? = some q) (hc : z_Con G l y' rk' mc' ms' w (.ref a :: as) Q' X') (hrk : rk' + 1 ≤ S.1) (hcs : kc + mc' ≤ S.2.1 ∧ ks + ms' ≤ S.2.2.1) (hstk : st = as.reverse ++ .ref a :: rest) (hW : z_cat rest ≤ 8) (hn : as.length = np) (ht : y.2.2.2.2 = []) (hx : ∀ E w', X' E w' → S.2.2.2.2.2 E w') (kk : ∀ v w', Q' v w' → z_J G l y S (pc + 3) lo (v.toList ++ rest) w' (kc + mc') (ks + ms')) : z_J G l y S pc lo st w kc ks := by
  intro p e s m args below meth c R0 hok R H locs ls cst hat hlo hst
  subst hstk
  obtain ⟨b1, c2, rfl, hb1, hst⟩ := z_Lapp hst
  obtain ⟨c1, crest, rfl, h1, hrest⟩ := z_Lc hst
  have h1' := h1.2
  subst h1'
  have hAs := z_Lrev hb1
  rw [List.reverse_reverse] at hAs
  exact z_run hok hat hlo hrest ht (vx_runVN (C := q.1) (As := b1.reverse) ⟨hok.1, hok.2.1, rfl, hok.2.2.2.2.2.1, hok.2.2.2.2.2.2.1⟩ (hc R) ⟨z_CBN hok.2.2.2.2.2.2.1 hok.2.2.2.2.2.2.2.1 hm hrk hl, hok.2.2.2.2.2.2.1 _ hi, hok.2.2.2.2.2.2.1 _ hse⟩ ⟨z_Pc_blind, z_recv hok hat hg hq, fun U hU hW9 => z_pre hok hat (av := .ref a :: as) (cav := .ref (R.1 a) :: b1.reverse) ⟨h1, hAs⟩ U hU hW9⟩ rfl (by rw [z_Ll hAs]; exact hn) hlo.choose_spec.1.1 (by rw [List.reverse_reverse]) (lv_room (by rw [z_Lcs hrest]; exact hW)) hd hcs) hcs hx kk
theorem j_callI {idx np rk' mc' ms' : Nat} {y' : z_M} {as rest : List Value} {Q' : Option Value → z_W → Prop} {X' : String → z_W → Prop} {a : Nat} (hd : decode y.2.1 pc = .ok (.invokespecial idx, 3)) (hm : z_okm y' np) (hno : y'.2.2.2.1 = none) (hl : Cond.methodLink y.1.cls idx y'.1 ∈ z_tbl) (hi : Cond.instanceMethod y'.1 ∈ z_tbl) (hin : y'.1.name = "<init>") (hc : z_Con G l y' rk' mc' ms' w (.ref a :: as) Q' X') (hrk : rk' + 1 ≤ S.1) (hcs : kc + mc' ≤ S.2.1 ∧ ks + ms' ≤ S.2.2.1) (hstk : st = as.reverse ++ .ref a :: rest) (hW : z_cat rest ≤ 8) (hn : as.length = np) (ht : y.2.2.2.2 = []) (hx : ∀ E w', X' E w' → S.2.2.2.2.2 E w') (kk : ∀ v w', Q' v w' → z_J G l y S (pc + 3) lo (v.toList ++ rest) w' (kc + mc') (ks + ms')) : z_J G l y S pc lo st w kc ks := by
  intro p e s m args below meth c R0 hok R H locs ls cst hat hlo hst
  subst hstk
  obtain ⟨b1, c2, rfl, hb1, hst⟩ := z_Lapp hst
  obtain ⟨c1, crest, rfl, h1, hrest⟩ := z_Lc hst
  have h1' := h1.2
  subst h1'
  have hAs := z_Lrev hb1
  rw [List.reverse_reverse] at hAs
  have h5 := z_CB (S := S) (y := y) (mc' := mc') (ms' := ms') hok.2.2.2.2.2.2.1 hm hrk hl
  rw [hno] at h5
  exact z_run hok hat hlo hrest ht (vx_runI (As := b1.reverse) ⟨hok.1, hok.2.1, rfl, hok.2.2.2.2.2.1, hok.2.2.2.2.2.2.1⟩ (hc R) ⟨h5, hin, hok.2.2.2.2.2.2.1 _ hi⟩ ⟨z_Pc_blind, fun U hU hW9 => z_pre hok hat (av := .ref a :: as) (cav := .ref (R.1 a) :: b1.reverse) ⟨h1, hAs⟩ U hU hW9⟩ rfl (by rw [z_Ll hAs]; exact hn) hlo.choose_spec.1.1 (by rw [List.reverse_reverse]) (lv_room (by rw [z_Lcs hrest]; exact hW)) hd hcs) hcs hx kk
theorem j_callIN {idx np rk' mc' ms' : Nat} {y' : z_M} {as rest : List Value} {Q' : Option Value → z_W → Prop} {X' : String → z_W → Prop} {host : String} {a : Nat} (hd : decode y.2.1 pc = .ok (.invokespecial idx, 3)) (hm : z_okm y' np) (hno : y'.2.2.2.1 = none) (hl : Cond.methodLinkNest y.1.cls idx y'.1 host ∈ z_nst) (hi : Cond.instanceMethod y'.1 ∈ z_tbl) (hin : y'.1.name = "<init>") (hc : z_Con G l y' rk' mc' ms' w (.ref a :: as) Q' X') (hrk : rk' + 1 ≤ S.1) (hcs : kc + mc' ≤ S.2.1 ∧ ks + ms' ≤ S.2.2.1) (hstk : st = as.reverse ++ .ref a :: rest) (hW : z_cat rest ≤ 8) (hn : as.length = np) (ht : y.2.2.2.2 = []) (hx : ∀ E w', X' E w' → S.2.2.2.2.2 E w') (kk : ∀ v w', Q' v w' → z_J G l y S (pc + 3) lo (v.toList ++ rest) w' (kc + mc') (ks + ms')) : z_J G l y S pc lo st w kc ks := by
  intro p e s m args below meth c R0 hok R H locs ls cst hat hlo hst
  subst hstk
  obtain ⟨b1, c2, rfl, hb1, hst⟩ := z_Lapp hst
  obtain ⟨c1, crest, rfl, h1, hrest⟩ := z_Lc hst
  have h1' := h1.2
  subst h1'
  have hAs := z_Lrev hb1
  rw [List.reverse_reverse] at hAs
  have h5 := z_CBN (S := S) (y := y) (mc' := mc') (ms' := ms') hok.2.2.2.2.2.2.1 hok.2.2.2.2.2.2.2.1 hm hrk hl
  rw [hno] at h5
  exact z_run hok hat hlo hrest ht (vx_runIN (As := b1.reverse) ⟨hok.1, hok.2.1, rfl, hok.2.2.2.2.2.1, hok.2.2.2.2.2.2.1⟩ (hc R) ⟨h5, hin, hok.2.2.2.2.2.2.1 _ hi⟩ ⟨z_Pc_blind, fun U hU hW9 => z_pre hok hat (av := .ref a :: as) (cav := .ref (R.1 a) :: b1.reverse) ⟨h1, hAs⟩ U hU hW9⟩ rfl (by rw [z_Ll hAs]; exact hn) hlo.choose_spec.1.1 (by rw [List.reverse_reverse]) (lv_room (by rw [z_Lcs hrest]; exact hW)) hd hcs) hcs hx kk
def z_CU (own C owner : String) (idx : Nat) (x : MethodName) (y' : z_M) : Prop := Cond.methodLink own idx x ∈ z_tbl ∧ Cond.sameMethod x.cls owner x.name x.desc ∈ z_tbl ∧ (y'.1 = ⟨owner, x.name, x.desc⟩ ∨ Cond.declares ⟨owner, x.name, x.desc⟩ ∈ z_nst) ∧ Cond.selects C x y'.1 ∈ z_tbl ∧ Cond.instanceMethod y'.1 ∈ z_tbl ∧ (owner ≠ "java/lang/invoke/MethodHandle" ∧ owner ≠ "java/lang/invoke/VarHandle") ∧ x.desc = y'.1.desc
theorem j_callU {idx np rk' mc' ms' : Nat} {y' : z_M} {as rest : List Value} {Q' : Option Value → z_W → Prop} {X' : String → z_W → Prop} {owner : String} {x : MethodName} {a ci : Nat} {fs : List Value} {q : vw_C} (hd : decode y.2.1 pc = .ok (.invokevirtual idx, 3)) (hm : z_okm y' np) (hl : z_CU y.1.cls q.1 owner idx x y') (hg : z_g w a = some (.inr (ci, fs))) (hq : z_cls[ci]? = some q) (hc : z_Con G l y' rk' mc' ms' w (.ref a :: as) Q' X') (hrk : rk' + 1 ≤ S.1) (hcs : kc + mc' ≤ S.2.1 ∧ ks + ms' ≤ S.2.2.1) (hstk : st = as.reverse ++ .ref a :: rest) (hW : z_cat rest ≤ 8) (hn : as.length = np) (ht : y.2.2.2.2 = []) (hx : ∀ E w', X' E w' → S.2.2.2.2.2 E w') (kk : ∀ v w', Q' v w' → z_J G l y S (pc + 3) lo (v.toList ++ rest) w' (kc + mc') (ks + ms')) : z_J G l y S pc lo st w kc ks := by
  intro p e s m args below meth c R0 hok R H locs ls cst hat hlo hst
  subst hstk
  obtain ⟨b1, c2, rfl, hb1, hst⟩ := z_Lapp hst
  obtain ⟨c1, crest, rfl, h1, hrest⟩ := z_Lc hst
  have h1' := h1.2
  subst h1'
  have hAs := z_Lrev hb1
  rw [List.reverse_reverse] at hAs
  obtain ⟨u1, u2, u3, u4, u5, u6, u7⟩ := hl
  have hts := hok.2.2.2.2.2.2.1
  have henv := hok.2.2.2.2.2.2.2.1
  obtain ⟨m1, m2, m3, m4, m5, m6⟩ := hm
  have ecd := z_cd m1
  have cw : va_CU (z_rm S.1 S.2.1 S.2.2.1) s args y.1.cls q.1 owner idx x y'.1 y'.2.1 y'.2.2.1 y'.2.2.2.1 (z_ws y') (z_rm rk' mc' ms') mc' ms' np := by
    refine ⟨⟨rfl, rfl, (z_rmle hrk m6).1, (z_rmle hrk m6).2, z_pay hts m2, by rw [← ecd]; exact List.mem_cons_self⟩, by rw [← ecd]; exact hts _ m2, hts _ m3, u6, ?_, hts _ u1, hts _ u2, ?_, hts _ u4, hts _ u5⟩
    · rw [u7]; exact z_np m5
    · rcases u3 with z | z
      · rw [← z]; exact va_Decl.of (hts _ u5) (by rw [← ecd]; exact hts _ m2)
      · exact va_Decl.abs (henv.2.2.1 _ z)
  exact z_run hok hat hlo hrest ht (vx_runU (C := q.1) (As := b1.reverse) ⟨hok.1, hok.2.1, rfl, hok.2.2.2.2.2.1, hok.2.2.2.2.2.2.1⟩ (hc R) cw ⟨z_Pc_blind, z_recv hok hat hg hq, fun U hU hW9 => z_pre hok hat (av := .ref a :: as) (cav := .ref (R.1 a) :: b1.reverse) ⟨h1, hAs⟩ U hU hW9⟩ rfl (by rw [z_Ll hAs]; exact hn) hlo.choose_spec.1.1 (by rw [List.reverse_reverse]) (lv_room (by rw [z_Lcs hrest]; exact hW)) hd hcs) hcs hx kk
theorem z_Pk {G : z_G} {R : z_R} {w : z_W} {H H' : Heap} (h : z_P G R w H) (hk : ∀ q : Nat, q < H.size → H'[q]? = H[q]?) : z_P G R w H' := by
  refine ⟨fun n e hn => ⟨(h.1 n e hn).1.kept (fun _ _ hv => hv) (hk _ (h.1 n e hn).1.lt), (h.1 n e hn).2⟩, h.2.1, fun q b hq => ⟨(h.2.2 q b hq).1.kept (hk q ?_), (h.2.2 q b hq).2⟩⟩
  obtain ⟨cell, h9, -⟩ := (h.2.2 q b hq).1
  exact (Array.getElem?_eq_some_iff.mp h9).1
def z_thr (own : String) (ik ic : Nat) (cls : String) (names : List String) : Prop := Bundle.fit cls = true ∧ (∀ n ∈ names, Bundle.fit n = true) ∧ Cond.classLink own ik cls ∈ z_tbl ∧ Cond.initialized cls ∈ z_tbl ∧ (∀ w ∈ vx_atS own ic cls names, w ∈ z_tbl ∨ (w ∈ z_nst ∧ w.onTables = true)) ∧ (∀ w ∈ vx_atS own ic cls names, vx_ot w = true)
theorem j_throwS {ik is ic : Nat} {cls text : String} {names : List String} (ht : y.2.2.2.2 = []) (hth : z_thr y.1.cls ik ic cls names) (hstr : (y.1.cls, is, text) ∈ z_strs) (d0 : decode y.2.1 pc = .ok (.new ik, 3)) (d3 : decode y.2.1 (pc + 3) = .ok (.dup, 1)) (d4 : decode y.2.1 (pc + 4) = .ok (.ldc is, 2)) (d6 : decode y.2.1 (pc + 6) = .ok (.invokespecial ic, 3)) (d9 : decode y.2.1 (pc + 9) = .ok (.athrow, 1))
    (hrf : names.length + 3 < S.1) (hrl : z_cat st + (13 * (names.length + 1) + 43) ≤ 40 * S.1) (hX : S.2.2.2.2.2 cls w) (hc : kc + 1 ≤ S.2.1) (hs : ks + 6 ≤ S.2.2.1) : z_J G l y S pc lo st w kc ks := by
  intro p e s m args below meth c R0 hok R H locs ls cst hat hlo hst
  obtain ⟨t1, t2, t3, t4, t5, t6⟩ := hth
  have hok2 := hok
  obtain ⟨hx, hb, -, -, hlk, hown, hts, henv, hP0, hbs, htab, -, hl⟩ := hok2
  obtain ⟨sa, hsa⟩ := henv.2.2.2.1 _ hstr
  have htab : c.exceptionTable.toList = [] := by rw [htab, ht]; rfl
  refine vx_throwS (A := fun q => z_b G ≤ q) hx hb hl hown t1 t2 (hts _ t3) (hts _ t4) hsa (fun w9 hw9 => ?_) ?_ henv.2.2.2.2.2.1 henv.2.2.2.2.2.2.1 ⟨hat.2.2.1, fun q hq hA => hat.2.2.2.1 q hq (fun z => hA (z_hA hok q z)), hat.2.2.2.2⟩ hlo.choose_spec.1.1 d0 d3 d4 d6 d9 (fun x hx => by rw [htab] at hx; cases hx) hrf (by rw [z_Lcs hst]; exact hrl) hc hs hlk ?_ hat.2.2.2.2 hc hs
  · rcases t5 w9 hw9 with z | z
    · exact hts _ z
    · exact va_Nw.use z.2 (henv.2.2.1 _ z.1)
  · intro w9 hw9
    rcases List.mem_cons.mp hw9 with rfl | hw9
    · rfl
    · rcases List.mem_cons.mp hw9 with rfl | hw9
      · rfl
      · exact t6 w9 hw9
  · intro t hal hsz hk
    have hP9 := z_Pk hat.1 hk
    exact ⟨R, w, hX, hP9, hat.2.1, Nat.le_trans hat.2.2.1 hsz, fun q h1 h2 => (hk q (Nat.lt_of_lt_of_le h1 hat.2.2.1)).trans (hat.2.2.2.1 q h1 h2)⟩
theorem j_throwSW {ik is ic : Nat} {cls text : String} {names : List String} (ht : y.2.2.2.2 = []) (hth : z_thr y.1.cls ik ic cls names) (hstr : (y.1.cls, is, text) ∈ z_strs) (d0 : decode y.2.1 pc = .ok (.new ik, 3)) (d3 : decode y.2.1 (pc + 3) = .ok (.dup, 1)) (d4 : decode y.2.1 (pc + 4) = .ok (.ldc_w is, 3)) (d6 : decode y.2.1 (pc + 7) = .ok (.invokespecial ic, 3)) (d9 : decode y.2.1 (pc + 10) = .ok (.athrow, 1))
    (hrf : names.length + 3 < S.1) (hrl : z_cat st + (13 * (names.length + 1) + 43) ≤ 40 * S.1) (hX : S.2.2.2.2.2 cls w) (hc : kc + 1 ≤ S.2.1) (hs : ks + 6 ≤ S.2.2.1) : z_J G l y S pc lo st w kc ks := by
  intro p e s m args below meth c R0 hok R H locs ls cst hat hlo hst
  obtain ⟨t1, t2, t3, t4, t5, t6⟩ := hth
  have hok2 := hok
  obtain ⟨hx, hb, -, -, hlk, hown, hts, henv, hP0, hbs, htab, -, hl⟩ := hok2
  obtain ⟨sa, hsa⟩ := henv.2.2.2.1 _ hstr
  have htab : c.exceptionTable.toList = [] := by rw [htab, ht]; rfl
  refine vx_throwSW (A := fun q => z_b G ≤ q) hx hb hl hown t1 t2 (hts _ t3) (hts _ t4) hsa (fun w9 hw9 => ?_) ?_ henv.2.2.2.2.2.1 henv.2.2.2.2.2.2.1 ⟨hat.2.2.1, fun q hq hA => hat.2.2.2.1 q hq (fun z => hA (z_hA hok q z)), hat.2.2.2.2⟩ hlo.choose_spec.1.1 d0 d3 d4 d6 d9 (fun x hx => by rw [htab] at hx; cases hx) hrf (by rw [z_Lcs hst]; exact hrl) hc hs hlk ?_ hat.2.2.2.2 hc hs
  · rcases t5 w9 hw9 with z | z
    · exact hts _ z
    · exact va_Nw.use z.2 (henv.2.2.1 _ z.1)
  · intro w9 hw9
    rcases List.mem_cons.mp hw9 with rfl | hw9
    · rfl
    · rcases List.mem_cons.mp hw9 with rfl | hw9
      · rfl
      · exact t6 w9 hw9
  · intro t hal hsz hk
    have hP9 := z_Pk hat.1 hk
    exact ⟨R, w, hX, hP9, hat.2.1, Nat.le_trans hat.2.2.1 hsz, fun q h1 h2 => (hk q (Nat.lt_of_lt_of_le h1 hat.2.2.1)).trans (hat.2.2.2.1 q h1 h2)⟩
end ZC
end ZM4
section ZM5
section ZF
def z_no : Nat → Option z_E := fun _ => none
def z_rn (th : List Nat) (v : Value) : Value := match v with
  | .ref i => (match th[i]? with
    | some n => .ref n
    | none => .double 0)
  | v => v
def z_re (th : List Nat) (e : z_E) : z_E := match e with
  | .inl x => .inl (x.1, x.2.1, fun j => z_rn th (x.2.2 j))
  | .inr o => .inr (o.1, o.2.map (z_rn th))
def z_ss (w : z_W) : List Nat → List z_E → z_W
  | n :: th, e :: es => z_ss (z_s w n e) th es
  | _, _ => w
theorem z_ss_d : ∀ {th : List Nat} {es : List z_E} {w : z_W}, (∀ k ∈ th, z_d w k) → ∀ n, z_d (z_ss w th es) n ↔ z_d w n
  | [], es, w, _, n => by unfold z_ss; exact Iff.rfl
  | k :: th, [], w, _, n => by unfold z_ss; exact Iff.rfl
  | k :: th, e :: es, w, h, n => by
    obtain ⟨e0, he0⟩ := h k List.mem_cons_self
    unfold z_ss
    rw [z_ss_d (fun k' hk' => (z_ds he0 k').mpr (h k' (List.mem_cons_of_mem _ hk'))) n]
    exact z_ds he0 n
theorem z_ss_ne : ∀ {th : List Nat} {es : List z_E} {w : z_W} {n : Nat}, n ∉ th → z_g (z_ss w th es) n = z_g w n
  | [], es, w, n, _ => by unfold z_ss; rfl
  | k :: th, [], w, n, _ => by unfold z_ss; rfl
  | k :: th, e :: es, w, n, h => by
    unfold z_ss
    rw [z_ss_ne (fun z => h (List.mem_cons_of_mem _ z)), z_gs_ne (fun z => h (by rw [z]; exact List.mem_cons_self))]
theorem z_ss_at : ∀ {th : List Nat} {es : List z_E} {w : z_W} {n i : Nat} {e : z_E}, th.Nodup → (∀ k ∈ th, z_d w k) → th[i]? = some n → es[i]? = some e → z_g (z_ss w th es) n = some e
  | [], es, w, n, i, e, _, _, h1, _ => by simp at h1
  | k :: th, [], w, n, i, e, _, _, _, h2 => by simp at h2
  | k :: th, e0 :: es, w, n, i, e, hnd, hd, h1, h2 => by
    obtain ⟨e1, he1⟩ := hd k List.mem_cons_self
    have hnd' := List.nodup_cons.mp hnd
    unfold z_ss
    cases i with
    | zero =>
      have h1 : k = n := Option.some.inj h1
      have h2 : e0 = e := Option.some.inj h2
      subst h1
      subst h2
      rw [z_ss_ne hnd'.1]
      exact z_gs_self he1
    | succ i =>
      exact z_ss_at hnd'.2 (fun k' hk' => (z_ds he1 k').mpr (hd k' (List.mem_cons_of_mem _ hk'))) h1 h2
theorem z_ndi : ∀ {th : List Nat} {i j n : Nat}, th.Nodup → th[i]? = some n → th[j]? = some n → i = j
  | [], i, j, n, _, h, _ => by simp at h
  | k :: th, 0, 0, n, _, _, _ => rfl
  | k :: th, 0, j + 1, n, hnd, h1, h2 => by
    have h1 : k = n := Option.some.inj h1
    subst h1
    have h3 : k ∈ th := List.mem_of_getElem? (l := th) (i := j) h2
    exact absurd h3 (List.nodup_cons.mp hnd).1
  | k :: th, i + 1, 0, n, hnd, h1, h2 => by
    have h2 : k = n := Option.some.inj h2
    subst h2
    have h3 : k ∈ th := List.mem_of_getElem? (l := th) (i := i) h1
    exact absurd h3 (List.nodup_cons.mp hnd).1
  | k :: th, i + 1, j + 1, n, hnd, h1, h2 => congrArg (· + 1) (z_ndi (List.nodup_cons.mp hnd).2 h1 h2)
theorem z_gL {L : List z_E} {n : Nat} {e : z_E} (h : z_g (L, z_no) n = some e) : L[n]? = some e := by
  cases hb : Nat.blt n 1000 <;> simp only [z_g, hb, cond] at h
  · cases h
  · exact h
theorem z_Lg' {L : List z_E} {n : Nat} {e : z_E} (hl : L.length ≤ 1000) (h : L[n]? = some e) : z_g (L, z_no) n = some e := by
  have hn := (List.getElem?_eq_some_iff.mp h).1
  have hb : Nat.blt n 1000 = true := Nat.ble_eq_true_of_le (by omega)
  simp only [z_g, hb, cond]
  exact h
theorem z_Lmp {P P' : Value → Value → Prop} {f : Value → Value} (hP : ∀ a b, P (f a) b → P' a b) : ∀ {as bs : List Value}, z_L P (as.map f) bs → z_L P' as bs
  | [], [], _ => trivial
  | _ :: _, [], h => h.elim
  | [], _ :: _, h => h.elim
  | a :: as, b :: bs, h => ⟨hP a b h.1, z_Lmp hP (as := as) (bs := bs) h.2⟩
theorem z_Lpm {P P' : Value → Value → Prop} {f : Value → Value} (hP : ∀ a b, P a b → P' (f a) b) : ∀ {as bs : List Value}, z_L P as bs → z_L P' (as.map f) bs
  | [], [], _ => trivial
  | _ :: _, [], h => h.elim
  | [], _ :: _, h => h.elim
  | a :: as, b :: bs, h => ⟨hP a b h.1, z_Lpm hP (as := as) (bs := bs) h.2⟩
def z_CF (G : z_G) (l : Launch) (y : z_M) (rk mc ms : Nat) (L0 : List z_E) (av : List Value) (Q : Option Value → List z_E → Prop) : Prop :=
  z_Con G l y rk mc ms (L0, z_no) av (fun v w => w.2 = z_no ∧ w.1.length = L0.length ∧ Q v w.1) (fun _ _ => False)
set_option maxHeartbeats 4000000 in
theorem z_frame {G : z_G} {l : Launch} {y : z_M} {rk mc ms : Nat} {L0 : List z_E} {av : List Value} {Q : Option Value → List z_E → Prop} {w : z_W} (th : List Nat) (hth : th.map (z_g w) = L0.map (fun e => some (z_re th e))) (hnd : th.Nodup) (hl : L0.length ≤ 1000) (h : z_CF G l y rk mc ms L0 av Q) :
    z_Con G l y rk mc ms w (av.map (z_rn th)) (fun v w' => ∃ (v0 : Option Value) (L' : List z_E), Q v0 L' ∧ v = v0.map (z_rn th) ∧ w' = z_ss w th (L'.map (z_re th))) (fun _ _ => False) := by
  intro R0
  have hM := h ((fun i => R0.1 (th.getD i 0)), R0.2)
  intro p e ha hc hk s m args below hf happ hPc hK
  obtain ⟨⟨cav, rfl, hav⟩, henv, hP, hb⟩ := hPc
  have hlen : th.length = L0.length := by have := congrArg List.length hth; simpa using this
  have hat : ∀ (i : Nat) (e : z_E), L0[i]? = some e → ∃ n, th[i]? = some n ∧ z_g w n = some (z_re th e) := by
    intro i e he
    have h1 : (th.map (z_g w))[i]? = (L0.map (fun e => some (z_re th e)))[i]? := by rw [hth]
    rw [List.getElem?_map, List.getElem?_map, he] at h1
    cases hi : th[i]? with
    | none => rw [hi] at h1; cases h1
    | some n => rw [hi] at h1; exact ⟨n, rfl, Option.some.inj h1⟩
  have hget : ∀ {i n : Nat}, th[i]? = some n → th.getD i 0 = n := by
    intro i n hi
    rw [List.getD_eq_getElem?_getD, hi]
    rfl
  have hdi : ∀ i, z_d (L0, z_no) i → ∃ n, th[i]? = some n ∧ z_d w n := by
    intro i ⟨e, he⟩
    obtain ⟨n, h1, h2⟩ := hat i e (z_gL he)
    exact ⟨n, h1, ⟨_, h2⟩⟩
  have hid : ∀ {i n : Nat}, th[i]? = some n → z_d (L0, z_no) i := by
    intro i n hi
    have h1 : i < L0.length := by rw [← hlen]; exact (List.getElem?_eq_some_iff.mp hi).1
    exact ⟨L0[i], z_Lg' hl (List.getElem?_eq_getElem h1)⟩
  have hbs : ∀ v c, z_V G R0 w (z_rn th v) c → z_V G ((fun i => R0.1 (th.getD i 0)), R0.2) (L0, z_no) v c := by
    intro v c hv
    cases v with
    | int x => exact hv
    | long x => exact hv
    | null => exact hv
    | float b => exact hv
    | retAddr k => exact hv
    | double b => exact hv
    | ref i =>
      cases hi : th[i]? with
      | none => simp only [z_rn, hi] at hv; exact hv.elim
      | some n =>
        simp only [z_rn, hi] at hv
        refine ⟨hid hi, ?_⟩
        show c = .ref (R0.1 (th.getD i 0))
        rw [hget hi]
        exact hv.2
  have hP0 : z_P G ((fun i => R0.1 (th.getD i 0)), R0.2) (L0, z_no) s.heap := by
    refine ⟨fun n e he => ?_, fun a b ha hb hab => ?_, fun q b hq => ⟨(hP.2.2 q b hq).1, fun n hn => ?_⟩⟩
    · obtain ⟨k, h1, h2⟩ := hat n e (z_gL he)
      obtain ⟨h3, h4⟩ := hP.1 k _ h2
      show z_X _ _ _ _ (R0.1 (th.getD n 0)) _ ∧ _ ≤ R0.1 (th.getD n 0)
      rw [hget h1]
      refine ⟨?_, h4⟩
      cases e with
      | inl x =>
        obtain ⟨z, z1, z2⟩ := h3
        exact ⟨z, z1, fun j hj => hbs _ _ (z2 j hj)⟩
      | inr o =>
        obtain ⟨q, gs, x1, x2, x3, x4⟩ := h3
        exact ⟨q, gs, x1, by rw [← x2]; exact (List.length_map _).symm, x3, z_Lmp hbs x4⟩
    · obtain ⟨k1, a1, a2⟩ := hdi a ha
      obtain ⟨k2, b1, b2⟩ := hdi b hb
      have hab : R0.1 (th.getD a 0) = R0.1 (th.getD b 0) := hab
      rw [hget a1, hget b1] at hab
      have := hP.2.1 k1 k2 a2 b2 hab
      subst this
      exact z_ndi hnd a1 b1
    · obtain ⟨k1, a1, a2⟩ := hdi n hn
      show R0.1 (th.getD n 0) ≠ q
      rw [hget a1]
      exact (hP.2.2 q b hq).2 k1 a2
  obtain ⟨nn, o, s1, s2, s3, hQ⟩ := hM p e ha hc hk s m cav.toArray below hf happ ⟨⟨cav, rfl, z_Lmp hbs hav⟩, henv, hP0, hb⟩ hK
  refine ⟨nn, o, s1, s2, s3, ?_⟩
  generalize stepsAlone p.tables e nn s = t at hQ
  rcases hQ with ⟨⟨v, cv, R', w', ho, hO, ⟨hw2, hwl, hq⟩, hP', hT, hF⟩, hfe⟩ | ⟨q, ho, E, ce, L, ⟨R', w', hx, -⟩, -⟩
  · obtain ⟨L', P'⟩ := w'
    have hw2 : P' = z_no := hw2
    subst hw2
    have hwl : L'.length = L0.length := hwl
    have hl' : L'.length ≤ 1000 := by rw [hwl]; exact hl
    have hR : ∀ {i n : Nat}, th[i]? = some n → R'.1 i = R0.1 n := by
      intro i n hi
      rw [(hT.1 i (hid hi)).2]
      show R0.1 (th.getD i 0) = _
      rw [hget hi]
    have hdth : ∀ k ∈ th, z_d w k := by
      intro k hk9
      obtain ⟨i, hi⟩ := List.getElem?_of_mem hk9
      obtain ⟨e9, he9⟩ := hid hi
      obtain ⟨n9, h9, h8⟩ := hat i e9 (z_gL he9)
      rw [hi] at h9
      cases h9
      exact ⟨_, h8⟩
    have hdw : ∀ n, z_d (z_ss w th (L'.map (z_re th))) n ↔ z_d w n := z_ss_d hdth
    have hdL : ∀ i, z_d (L', z_no) i → ∃ n, th[i]? = some n := by
      intro i ⟨e9, he9⟩
      have h1 := (List.getElem?_eq_some_iff.mp (z_gL he9)).1
      exact ⟨_, List.getElem?_eq_getElem (by rw [hlen, ← hwl]; exact h1)⟩
    have hsb : ∀ v c, z_V G R' (L', z_no) v c → z_V G (R0.1, R'.2) (z_ss w th (L'.map (z_re th))) (z_rn th v) c := by
      intro v c hv
      cases v with
      | int x => exact hv
      | long x => exact hv
      | null => exact hv
      | float b => exact hv
      | retAddr k => exact hv
      | double b => exact hv
      | ref i =>
        obtain ⟨h1, h2⟩ := hv
        obtain ⟨n, hi⟩ := hdL i h1
        simp only [z_rn, hi]
        exact ⟨(hdw n).mpr (hdth n (List.mem_of_getElem? hi)), by rw [h2, hR hi]⟩
    have hbb : ∀ v c, z_V G R0 w v c → z_V G (R0.1, R'.2) (z_ss w th (L'.map (z_re th))) v c := by
      intro v c hv
      cases v with
      | int x => exact hv
      | long x => exact hv
      | null => exact hv
      | float b => obtain ⟨q, h1, h2⟩ := hv; exact ⟨q, h1, h2.imp (hT.2.1 q b) id⟩
      | retAddr k => exact hv
      | double b => exact hv
      | ref n => exact ⟨(hdw n).mpr hv.1, hv.2⟩
    have hA : ∀ q, z_A ((fun i => R0.1 (th.getD i 0)), R0.2) (L0, z_no) s.heap.size q → z_A R0 w s.heap.size q := by
      rintro q (⟨i, hi, rfl⟩ | hq9)
      · obtain ⟨n, h1, h2⟩ := hdi i hi
        refine Or.inl ⟨n, h2, ?_⟩
        show R0.1 n = R0.1 (th.getD i 0)
        rw [hget h1]
      · exact Or.inr hq9
    have hold : ∀ n, z_d w n → n ∉ th → t.heap[R0.1 n]? = s.heap[R0.1 n]? := by
      intro n ⟨e9, he9⟩ hn
      refine hF.2 _ (hP.1 n e9 he9).1.lt ?_
      rintro (⟨i, hi, h9⟩ | h9)
      · obtain ⟨k, h1, h2⟩ := hdi i hi
        have h9 : R0.1 (th.getD i 0) = R0.1 n := h9
        rw [hget h1] at h9
        have := hP.2.1 k n h2 ⟨e9, he9⟩ h9
        subst this
        exact hn (List.mem_of_getElem? h1)
      · have := (hP.1 n e9 he9).1.lt
        omega
    refine Or.inl ⟨⟨v.map (z_rn th), cv, (R0.1, R'.2), z_ss w th (L'.map (z_re th)), ho, ?_, ⟨v, L', hq, rfl, rfl⟩, ⟨fun n e9 hn => ?_, fun a b ha hb hab => hP.2.1 a b ((hdw a).mp ha) ((hdw b).mp hb) hab, fun q b hq9 => ⟨(hP'.2.2 q b hq9).1, fun n hn => ?_⟩⟩, ⟨fun n hn => ⟨(hdw n).mpr hn, rfl⟩, hT.2.1, fun n hn hno => absurd ((hdw n).mp hn) hno, hT.2.2.2⟩, hF.1, fun q h1 h2 => hF.2 q h1 (fun z => h2 (hA q z))⟩, hfe⟩
    · cases v with
      | none =>
        cases cv with
        | none => exact trivial
        | some cv => exact hO.elim
      | some v =>
        cases cv with
        | none => exact hO.elim
        | some cv => exact hsb _ _ hO
    · by_cases hn9 : n ∈ th
      · obtain ⟨i, hi⟩ := List.getElem?_of_mem hn9
        have hil : i < L'.length := by rw [hwl, ← hlen]; exact (List.getElem?_eq_some_iff.mp hi).1
        have h1 : z_g (z_ss w th (L'.map (z_re th))) n = some (z_re th L'[i]) := z_ss_at hnd hdth hi (by rw [List.getElem?_map, List.getElem?_eq_getElem hil]; rfl)
        rw [hn] at h1
        have h1 := Option.some.inj h1
        obtain ⟨h3, h4⟩ := hP'.1 i L'[i] (z_Lg' hl' (List.getElem?_eq_getElem hil))
        rw [hR hi] at h3 h4
        refine ⟨?_, h4⟩
        rw [h1]
        generalize L'[i] = e8 at h3
        cases e8 with
        | inl x =>
          obtain ⟨z, z1, z2⟩ := h3
          exact ⟨z, z1, fun j hj => hsb _ _ (z2 j hj)⟩
        | inr o =>
          obtain ⟨q, gs, x1, x2, x3, x4⟩ := h3
          exact ⟨q, gs, x1, by rw [← x2]; exact List.length_map _, x3, z_Lpm hsb x4⟩
      · rw [z_ss_ne hn9] at hn
        exact ⟨(hP.1 n e9 hn).1.kept hbb (hold n ⟨_, hn⟩ hn9), (hP.1 n e9 hn).2⟩
    · have hn2 := (hdw n).mp hn
      by_cases hn9 : n ∈ th
      · obtain ⟨i, hi⟩ := List.getElem?_of_mem hn9
        have h1 := (hP'.2.2 q b hq9).2 i (hT.1 i (hid hi)).1
        rw [hR hi] at h1
        exact h1
      · cases h8 : R0.2 q with
        | none =>
          have h7 := hT.2.2.2 q b hq9 h8
          obtain ⟨e8, he8⟩ := hn2
          have := (hP.1 n e8 he8).1.lt
          show R0.1 n ≠ q
          omega
        | some b8 => exact (hP.2.2 q b8 h8).2 n hn2
  · exact hx.elim
theorem j_w {G : z_G} {l : Launch} {y : z_M} {S : z_S} {pc : Nat} {lo : List (Nat × Value)} {st : List Value} {w : z_W} {kc ks : Nat} (w' : z_W) (e : w = w') (h : z_J G l y S pc lo st w' kc ks) : z_J G l y S pc lo st w kc ks := e ▸ h
theorem z_weak {G : z_G} {l : Launch} {y : z_M} {rk mc ms : Nat} {w : z_W} {av : List Value} {Q Q' : Option Value → z_W → Prop} {X X' : String → z_W → Prop} (h : z_Con G l y rk mc ms w av Q X) (hQ : ∀ v w', Q v w' → Q' v w') (hX : ∀ E w', X E w' → X' E w') : z_Con G l y rk mc ms w av Q' X' := by
  intro R0 p e ha hc hk s m args below hf happ hPc hK
  obtain ⟨nn, o, s1, s2, s3, hq⟩ := h R0 p e ha hc hk s m args below hf happ hPc hK
  refine ⟨nn, o, s1, s2, s3, ?_⟩
  rcases hq with ⟨⟨v, cv, R', w', ho, hO, hq, r⟩, hfe⟩ | ⟨q, ho, E, ce, L, ⟨R', w', hx, r⟩, r2⟩
  · exact Or.inl ⟨⟨v, cv, R', w', ho, hO, hQ _ _ hq, r⟩, hfe⟩
  · exact Or.inr ⟨q, ho, E, ce, L, ⟨R', w', hX _ _ hx, r⟩, r2⟩
def zq_pk (e : z_E) (i : Nat) : List Nat → List z_E → z_E
  | n :: th, x :: es => cond (Nat.beq i n) x (zq_pk e i th es)
  | _, _ => e
def zq_up (th : List Nat) (es : List z_E) : Nat → List z_E → List z_E
  | _, [] => []
  | i, e :: L => zq_pk e i th es :: zq_up th es (i + 1) L
theorem zq_pk_nil {e : z_E} {i : Nat} {es : List z_E} : zq_pk e i [] es = e := by cases es <;> rfl
theorem zq_pk_ne {e : z_E} {i : Nat} : ∀ {th : List Nat} {es : List z_E}, i ∉ th → zq_pk e i th es = e
  | [], es, _ => zq_pk_nil
  | n :: th, [], _ => rfl
  | n :: th, x :: es, h => by
    have h1 : Nat.beq i n = false := z_beq (fun z => h (by rw [z]; exact List.mem_cons_self))
    show cond (Nat.beq i n) x (zq_pk e i th es) = e
    rw [h1]
    exact zq_pk_ne (fun z => h (List.mem_cons_of_mem _ z))
theorem zq_up_nil {es : List z_E} : ∀ {L : List z_E} {i : Nat}, zq_up [] es i L = L
  | [], _ => rfl
  | e :: L, i => by
    show zq_pk e i [] es :: zq_up [] es (i + 1) L = _
    rw [zq_pk_nil, zq_up_nil]
theorem zq_up_nil2 {n : Nat} {th : List Nat} : ∀ {L : List z_E} {i : Nat}, zq_up (n :: th) [] i L = L
  | [], _ => rfl
  | e :: L, i => by
    show e :: zq_up (n :: th) [] (i + 1) L = _
    rw [zq_up_nil2]
theorem zq_up_lt {th : List Nat} {es : List z_E} {n : Nat} {x : z_E} : ∀ {L : List z_E} {i : Nat}, n < i → zq_up (n :: th) (x :: es) i L = zq_up th es i L
  | [], _, _ => rfl
  | e :: L, i, h => by
    have h1 : Nat.beq i n = false := z_beq (by omega)
    have h2 := zq_up_lt (th := th) (es := es) (n := n) (x := x) (L := L) (i := i + 1) (by omega)
    show cond (Nat.beq i n) x (zq_pk e i th es) :: zq_up (n :: th) (x :: es) (i + 1) L = zq_pk e i th es :: zq_up th es (i + 1) L
    rw [h1, h2] <;> rfl
theorem zq_up_set {th : List Nat} {es : List z_E} {x : z_E} : ∀ {L : List z_E} {k i : Nat}, i + k ∉ th → zq_up th es i (L.set k x) = zq_up ((i + k) :: th) (x :: es) i L
  | [], k, i, _ => by cases k <;> rfl
  | e :: L, 0, i, h => by
    have h2 : zq_pk x i th es = x := zq_pk_ne h
    have h3 := zq_up_lt (th := th) (es := es) (n := i) (x := x) (L := L) (i := i + 1) (by omega)
    show zq_pk x i th es :: zq_up th es (i + 1) L = cond (Nat.beq i i) x (zq_pk e i th es) :: zq_up (i :: th) (x :: es) (i + 1) L
    rw [h2, h3, Nat.beq_refl] <;> rfl
  | e :: L, k + 1, i, h => by
    have h1 : Nat.beq i (i + (k + 1)) = false := z_beq (by omega)
    have e1 : i + 1 + k = i + (k + 1) := by omega
    have h3 := zq_up_set (th := th) (es := es) (x := x) (L := L) (k := k) (i := i + 1) (by rw [e1]; exact h)
    rw [e1] at h3
    show zq_pk e i th es :: zq_up th es (i + 1) (L.set k x) = cond (Nat.beq i (i + (k + 1))) x (zq_pk e i th es) :: zq_up ((i + (k + 1)) :: th) (x :: es) (i + 1) L
    rw [h1, h3] <;> rfl
theorem zq_ss {P : Nat → Option z_E} : ∀ {th : List Nat} {es : List z_E} {L : List z_E}, th.Nodup → (th.all fun n => Nat.blt n 1000) = true → z_ss (L, P) th es = (zq_up th es 0 L, P)
  | [], es, L, _, _ => by
    have h : z_ss (L, P) [] es = (L, P) := by unfold z_ss; rfl
    rw [h, zq_up_nil]
  | n :: th, [], L, _, _ => by
    have h : z_ss (L, P) (n :: th) [] = (L, P) := by unfold z_ss; rfl
    rw [h, zq_up_nil2]
  | n :: th, x :: es, L, hnd, hlt => by
    have h := List.nodup_cons.mp hnd
    rw [List.all_cons, Bool.and_eq_true] at hlt
    have hb : Nat.blt n 1000 = true := hlt.1
    have h1 : z_s (L, P) n x = (L.set n x, P) := by
      show cond (Nat.blt n 1000) (L.set n x, P) _ = _
      rw [hb] <;> rfl
    have h2 := zq_up_set (th := th) (es := es) (x := x) (L := L) (k := n) (i := 0) (by rw [Nat.zero_add]; exact h.1)
    rw [Nat.zero_add] at h2
    show z_ss (z_s (L, P) n x) th es = _
    rw [h1, zq_ss h.2 hlt.2, h2]
theorem j_ws {G : z_G} {l : Launch} {y : z_M} {S : z_S} {pc : Nat} {lo : List (Nat × Value)} {st : List Value} {kc ks : Nat} {L L' : List z_E} {P : Nat → Option z_E} {th : List Nat} {es : List z_E} (hnd : th.Nodup) (hlt : (th.all fun n => Nat.blt n 1000) = true) (e : zq_up th es 0 L = L') (h : z_J G l y S pc lo st (L', P) kc ks) : z_J G l y S pc lo st (z_ss (L, P) th es) kc ks := by
  rw [zq_ss hnd hlt, e]
  exact h
end ZF
end ZM5
