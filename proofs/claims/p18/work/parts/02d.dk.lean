section ZDk
abbrev dk_R (α : Type) : Type := Jvm.ClassFile.Decoder α
abbrev dk_r1 : dk_R Nat := Jvm.ClassFile.Reader.u1
abbrev dk_r2 : dk_R Nat := Jvm.ClassFile.Reader.u2
abbrev dk_t1 : dk_R Int := Jvm.ClassFile.Reader.s1
abbrev dk_t2 : dk_R Int := Jvm.ClassFile.Reader.s2
theorem dk_u1 {c : ByteArray} {p : Nat} {b : UInt8} (h : c.data.toList[p]? = some b) : dk_r1 c p = .ok (b.toNat, p + 1) := by
  have h0 := List.getElem?_eq_some_iff.mp h
  have hp : p < c.size := h0.1
  have e : c[p] = b := h0.2
  unfold dk_r1 Jvm.ClassFile.Reader.u1
  show (if h : p < c.size then ((do set (p + 1); Pure.pure c[p].toNat) : dk_R Nat) else throw _) c p = _
  rw [dif_pos hp, e]
  rfl
theorem dk_u2 {c : ByteArray} {p a b : Nat} (h : dk_r1 c p = .ok (a, p + 1)) (h2 : dk_r1 c (p + 1) = .ok (b, p + 2)) : dk_r2 c p = .ok (a * 256 + b, p + 2) := by
  show Except.bind (dk_r1 c p) (fun q => Except.bind (dk_r1 c q.2) (fun r => .ok (q.1 * 256 + r.1, r.2))) = _
  rw [h]
  show Except.bind (dk_r1 c (p + 1)) _ = _
  rw [h2]
  rfl
theorem dk_s1 {c : ByteArray} {p a : Nat} {v : Int} (h : dk_r1 c p = .ok (a, p + 1)) (hv : Jvm.ClassFile.Reader.signed 8 a = v) : dk_t1 c p = .ok (v, p + 1) := by
  subst hv
  show Except.bind (dk_r1 c p) (fun q => .ok (Jvm.ClassFile.Reader.signed 8 q.1, q.2)) = _
  rw [h]
  rfl
theorem dk_s2 {c : ByteArray} {p a : Nat} {v : Int} (h : dk_r2 c p = .ok (a, p + 2)) (hv : Jvm.ClassFile.Reader.signed 16 a = v) : dk_t2 c p = .ok (v, p + 2) := by
  subst hv
  show Except.bind (dk_r2 c p) (fun q => .ok (Jvm.ClassFile.Reader.signed 16 q.1, q.2)) = _
  rw [h]
  rfl
theorem dk_op0 {c : ByteArray} {p b : Nat} {K : Nat → dk_R Jvm.ClassFile.Instr} {r : Jvm.ClassFile.Instr} (hK : Jvm.ClassFile.Decoder.instr p = dk_r1 >>= K) (h : dk_r1 c p = .ok (b, p + 1)) (hr : K b = Pure.pure r) : decode c p = .ok (r, 1) := by
  have e : Jvm.ClassFile.Decoder.instr p c p = .ok (r, p + 1) := by
    rw [hK]
    show Except.bind (dk_r1 c p) (fun q => K q.1 c q.2) = _
    rw [h]
    show K b c (p + 1) = _
    rw [hr]
    rfl
  show Except.bind (Jvm.ClassFile.Decoder.instr p c p) (fun q => .ok (q.1, q.2 - p)) = _
  rw [e]
  show Except.ok (r, p + 1 - p) = _
  rw [Nat.add_sub_cancel_left]
theorem dk_op1 {α : Type} {c : ByteArray} {p b n : Nat} {K : Nat → dk_R Jvm.ClassFile.Instr} {rd : dk_R α} {f : α → Jvm.ClassFile.Instr} {x : α} (hK : Jvm.ClassFile.Decoder.instr p = dk_r1 >>= K) (h : dk_r1 c p = .ok (b, p + 1)) (hr : K b = rd >>= fun x => Pure.pure (f x)) (hx : rd c (p + 1) = .ok (x, p + 1 + n)) : decode c p = .ok (f x, n + 1) := by
  have e : Jvm.ClassFile.Decoder.instr p c p = .ok (f x, p + 1 + n) := by
    rw [hK]
    show Except.bind (dk_r1 c p) (fun q => K q.1 c q.2) = _
    rw [h]
    show K b c (p + 1) = _
    rw [hr]
    show Except.bind (rd c (p + 1)) (fun q => .ok (f q.1, q.2)) = _
    rw [hx]
    rfl
  show Except.bind (Jvm.ClassFile.Decoder.instr p c p) (fun q => .ok (q.1, q.2 - p)) = _
  rw [e]
  show Except.ok (f x, p + 1 + n - p) = _
  rw [show p + 1 + n - p = n + 1 by omega]
theorem dk_at {c : ByteArray} {l t : List UInt8} {o i j : Nat} {x : UInt8} (hg : ∀ i, c.data.toList[i + o]? = l[i]?) (e : l.drop i = t) (h : t[j]? = some x) : c.data.toList[i + o + j]? = some x := by
  have e1 : i + o + j = (i + j) + o := by omega
  rw [e1, hg, ← List.getElem?_drop, e]
  exact h
def zk0 (l : List UInt8) (i a : Nat) : Bool := match l.drop i with
  | x :: _ => Nat.beq x.toNat a
  | _ => false
def zk1 (l : List UInt8) (i a v : Nat) : Bool := match l.drop i with
  | x :: y :: _ => Nat.beq x.toNat a && Nat.beq y.toNat v
  | _ => false
def zk1s (l : List UInt8) (i a : Nat) (v : Int) : Bool := match l.drop i with
  | x :: y :: _ => Nat.beq x.toNat a && decide (Jvm.ClassFile.Reader.signed 8 y.toNat = v)
  | _ => false
def zk2 (l : List UInt8) (i a v : Nat) : Bool := match l.drop i with
  | x :: y :: z :: _ => Nat.beq x.toNat a && Nat.beq (y.toNat * 256 + z.toNat) v
  | _ => false
def zk2s (l : List UInt8) (i a : Nat) (v : Int) : Bool := match l.drop i with
  | x :: y :: z :: _ => Nat.beq x.toNat a && decide (Jvm.ClassFile.Reader.signed 16 (y.toNat * 256 + z.toNat) = v)
  | _ => false
theorem zk0_r {c : ByteArray} {l : List UInt8} {o i a : Nat} (hg : ∀ i, c.data.toList[i + o]? = l[i]?) (h : zk0 l i a = true) : dk_r1 c (i + o) = .ok (a, i + o + 1) := by
  unfold zk0 at h
  split at h
  case h_1 x t e =>
    have h1 := Nat.eq_of_beq_eq_true h
    subst h1
    exact dk_u1 (dk_at hg e (j := 0) rfl)
  case h_2 => cases h
theorem zk1_r {c : ByteArray} {l : List UInt8} {o i a v : Nat} (hg : ∀ i, c.data.toList[i + o]? = l[i]?) (h : zk1 l i a v = true) : dk_r1 c (i + o) = .ok (a, i + o + 1) ∧ dk_r1 c (i + o + 1) = .ok (v, i + o + 1 + 1) := by
  unfold zk1 at h
  split at h
  case h_1 x y t e =>
    rw [Bool.and_eq_true] at h
    have h1 := Nat.eq_of_beq_eq_true h.1
    have h2 := Nat.eq_of_beq_eq_true h.2
    subst h1 h2
    exact ⟨dk_u1 (dk_at hg e (j := 0) rfl), dk_u1 (dk_at hg e (j := 1) rfl)⟩
  case h_2 => cases h
theorem zk1s_r {c : ByteArray} {l : List UInt8} {o i a : Nat} {v : Int} (hg : ∀ i, c.data.toList[i + o]? = l[i]?) (h : zk1s l i a v = true) : dk_r1 c (i + o) = .ok (a, i + o + 1) ∧ dk_t1 c (i + o + 1) = .ok (v, i + o + 1 + 1) := by
  unfold zk1s at h
  split at h
  case h_1 x y t e =>
    rw [Bool.and_eq_true, decide_eq_true_eq] at h
    have h1 := Nat.eq_of_beq_eq_true h.1
    subst h1
    exact ⟨dk_u1 (dk_at hg e (j := 0) rfl), dk_s1 (dk_u1 (dk_at hg e (j := 1) rfl)) h.2⟩
  case h_2 => cases h
theorem zk2_r {c : ByteArray} {l : List UInt8} {o i a v : Nat} (hg : ∀ i, c.data.toList[i + o]? = l[i]?) (h : zk2 l i a v = true) : dk_r1 c (i + o) = .ok (a, i + o + 1) ∧ dk_r2 c (i + o + 1) = .ok (v, i + o + 1 + 2) := by
  unfold zk2 at h
  split at h
  case h_1 x y z t e =>
    rw [Bool.and_eq_true] at h
    have h1 := Nat.eq_of_beq_eq_true h.1
    have h2 := Nat.eq_of_beq_eq_true h.2
    subst h1 h2
    exact ⟨dk_u1 (dk_at hg e (j := 0) rfl), dk_u2 (dk_u1 (dk_at hg e (j := 1) rfl)) (dk_u1 (dk_at hg e (j := 2) rfl))⟩
  case h_2 => cases h
theorem zk2s_r {c : ByteArray} {l : List UInt8} {o i a : Nat} {v : Int} (hg : ∀ i, c.data.toList[i + o]? = l[i]?) (h : zk2s l i a v = true) : dk_r1 c (i + o) = .ok (a, i + o + 1) ∧ dk_t2 c (i + o + 1) = .ok (v, i + o + 1 + 2) := by
  unfold zk2s at h
  split at h
  case h_1 x y z t e =>
    rw [Bool.and_eq_true, decide_eq_true_eq] at h
    have h1 := Nat.eq_of_beq_eq_true h.1
    subst h1
    exact ⟨dk_u1 (dk_at hg e (j := 0) rfl), dk_s2 (dk_u2 (dk_u1 (dk_at hg e (j := 1) rfl)) (dk_u1 (dk_at hg e (j := 2) rfl))) h.2⟩
  case h_2 => cases h
theorem zk_g {c : ByteArray} (i : Nat) : c.data.toList[i + 0]? = c.data.toList[i]? := rfl
theorem dk_o0 {c : ByteArray} {l : List UInt8} {o i : Nat} (hg : ∀ i, c.data.toList[i + o]? = l[i]?) (h : zk0 l i 42 = true) : decode c (i + o) = .ok (.aload_n 0, 1) := dk_op0 rfl (zk0_r hg h) rfl
theorem dk_o0p {c : ByteArray} {i : Nat} (h : zk0 c.data.toList i 42 = true) : decode c i = .ok (.aload_n 0, 1) := dk_o0 (o := 0) zk_g h
theorem dk_o1 {c : ByteArray} {l : List UInt8} {o i : Nat} {x : Nat} (hg : ∀ i, c.data.toList[i + o]? = l[i]?) (h : zk2 l i 183 x = true) : decode c (i + o) = .ok (.invokespecial x, 3) := dk_op1 rfl (zk2_r hg h).1 rfl (zk2_r hg h).2
theorem dk_o1p {c : ByteArray} {i : Nat} {x : Nat} (h : zk2 c.data.toList i 183 x = true) : decode c i = .ok (.invokespecial x, 3) := dk_o1 (o := 0) zk_g h
theorem dk_o2 {c : ByteArray} {l : List UInt8} {o i : Nat} {x : Int} (hg : ∀ i, c.data.toList[i + o]? = l[i]?) (h : zk1s l i 16 x = true) : decode c (i + o) = .ok (.bipush x, 2) := dk_op1 rfl (zk1s_r hg h).1 rfl (zk1s_r hg h).2
theorem dk_o2p {c : ByteArray} {i : Nat} {x : Int} (h : zk1s c.data.toList i 16 x = true) : decode c i = .ok (.bipush x, 2) := dk_o2 (o := 0) zk_g h
theorem dk_o3 {c : ByteArray} {l : List UInt8} {o i : Nat} {x : Nat} (hg : ∀ i, c.data.toList[i + o]? = l[i]?) (h : zk2 l i 181 x = true) : decode c (i + o) = .ok (.putfield x, 3) := dk_op1 rfl (zk2_r hg h).1 rfl (zk2_r hg h).2
theorem dk_o3p {c : ByteArray} {i : Nat} {x : Nat} (h : zk2 c.data.toList i 181 x = true) : decode c i = .ok (.putfield x, 3) := dk_o3 (o := 0) zk_g h
theorem dk_o4 {c : ByteArray} {l : List UInt8} {o i : Nat} (hg : ∀ i, c.data.toList[i + o]? = l[i]?) (h : zk0 l i 2 = true) : decode c (i + o) = .ok (.iconst (-1), 1) := dk_op0 rfl (zk0_r hg h) rfl
theorem dk_o4p {c : ByteArray} {i : Nat} (h : zk0 c.data.toList i 2 = true) : decode c i = .ok (.iconst (-1), 1) := dk_o4 (o := 0) zk_g h
theorem dk_o5 {c : ByteArray} {l : List UInt8} {o i : Nat} {x : Int} (hg : ∀ i, c.data.toList[i + o]? = l[i]?) (h : zk2s l i 17 x = true) : decode c (i + o) = .ok (.sipush x, 3) := dk_op1 rfl (zk2s_r hg h).1 rfl (zk2s_r hg h).2
theorem dk_o5p {c : ByteArray} {i : Nat} {x : Int} (h : zk2s c.data.toList i 17 x = true) : decode c i = .ok (.sipush x, 3) := dk_o5 (o := 0) zk_g h
theorem dk_o6 {c : ByteArray} {l : List UInt8} {o i : Nat} (hg : ∀ i, c.data.toList[i + o]? = l[i]?) (h : zk0 l i 177 = true) : decode c (i + o) = .ok (.return_, 1) := dk_op0 rfl (zk0_r hg h) rfl
theorem dk_o6p {c : ByteArray} {i : Nat} (h : zk0 c.data.toList i 177 = true) : decode c i = .ok (.return_, 1) := dk_o6 (o := 0) zk_g h
theorem dk_o7 {c : ByteArray} {l : List UInt8} {o i : Nat} {x : Nat} (hg : ∀ i, c.data.toList[i + o]? = l[i]?) (h : zk2 l i 180 x = true) : decode c (i + o) = .ok (.getfield x, 3) := dk_op1 rfl (zk2_r hg h).1 rfl (zk2_r hg h).2
theorem dk_o7p {c : ByteArray} {i : Nat} {x : Nat} (h : zk2 c.data.toList i 180 x = true) : decode c i = .ok (.getfield x, 3) := dk_o7 (o := 0) zk_g h
theorem dk_o8 {c : ByteArray} {l : List UInt8} {o i : Nat} {x : Int} (hg : ∀ i, c.data.toList[i + o]? = l[i]?) (h : zk2s l i 159 x = true) : decode c (i + o) = .ok (.if_icmp .eq x, 3) := dk_op1 rfl (zk2s_r hg h).1 rfl (zk2s_r hg h).2
theorem dk_o8p {c : ByteArray} {i : Nat} {x : Int} (h : zk2s c.data.toList i 159 x = true) : decode c i = .ok (.if_icmp .eq x, 3) := dk_o8 (o := 0) zk_g h
theorem dk_o9 {c : ByteArray} {l : List UInt8} {o i : Nat} (hg : ∀ i, c.data.toList[i + o]? = l[i]?) (h : zk0 l i 27 = true) : decode c (i + o) = .ok (.iload_n 1, 1) := dk_op0 rfl (zk0_r hg h) rfl
theorem dk_o9p {c : ByteArray} {i : Nat} (h : zk0 c.data.toList i 27 = true) : decode c i = .ok (.iload_n 1, 1) := dk_o9 (o := 0) zk_g h
theorem dk_o10 {c : ByteArray} {l : List UInt8} {o i : Nat} {x : Int} (hg : ∀ i, c.data.toList[i + o]? = l[i]?) (h : zk2s l i 160 x = true) : decode c (i + o) = .ok (.if_icmp .ne x, 3) := dk_op1 rfl (zk2s_r hg h).1 rfl (zk2s_r hg h).2
theorem dk_o10p {c : ByteArray} {i : Nat} {x : Int} (h : zk2s c.data.toList i 160 x = true) : decode c i = .ok (.if_icmp .ne x, 3) := dk_o10 (o := 0) zk_g h
theorem dk_o11 {c : ByteArray} {l : List UInt8} {o i : Nat} (hg : ∀ i, c.data.toList[i + o]? = l[i]?) (h : zk0 l i 3 = true) : decode c (i + o) = .ok (.iconst 0, 1) := dk_op0 rfl (zk0_r hg h) rfl
theorem dk_o11p {c : ByteArray} {i : Nat} (h : zk0 c.data.toList i 3 = true) : decode c i = .ok (.iconst 0, 1) := dk_o11 (o := 0) zk_g h
theorem dk_o12 {c : ByteArray} {l : List UInt8} {o i : Nat} (hg : ∀ i, c.data.toList[i + o]? = l[i]?) (h : zk0 l i 172 = true) : decode c (i + o) = .ok (.ireturn, 1) := dk_op0 rfl (zk0_r hg h) rfl
theorem dk_o12p {c : ByteArray} {i : Nat} (h : zk0 c.data.toList i 172 = true) : decode c i = .ok (.ireturn, 1) := dk_o12 (o := 0) zk_g h
theorem dk_o13 {c : ByteArray} {l : List UInt8} {o i : Nat} (hg : ∀ i, c.data.toList[i + o]? = l[i]?) (h : zk0 l i 89 = true) : decode c (i + o) = .ok (.dup, 1) := dk_op0 rfl (zk0_r hg h) rfl
theorem dk_o13p {c : ByteArray} {i : Nat} (h : zk0 c.data.toList i 89 = true) : decode c i = .ok (.dup, 1) := dk_o13 (o := 0) zk_g h
theorem dk_o14 {c : ByteArray} {l : List UInt8} {o i : Nat} (hg : ∀ i, c.data.toList[i + o]? = l[i]?) (h : zk0 l i 4 = true) : decode c (i + o) = .ok (.iconst 1, 1) := dk_op0 rfl (zk0_r hg h) rfl
theorem dk_o14p {c : ByteArray} {i : Nat} (h : zk0 c.data.toList i 4 = true) : decode c i = .ok (.iconst 1, 1) := dk_o14 (o := 0) zk_g h
theorem dk_o15 {c : ByteArray} {l : List UInt8} {o i : Nat} (hg : ∀ i, c.data.toList[i + o]? = l[i]?) (h : zk0 l i 96 = true) : decode c (i + o) = .ok (.iadd, 1) := dk_op0 rfl (zk0_r hg h) rfl
theorem dk_o15p {c : ByteArray} {i : Nat} (h : zk0 c.data.toList i 96 = true) : decode c i = .ok (.iadd, 1) := dk_o15 (o := 0) zk_g h
theorem dk_o16 {c : ByteArray} {l : List UInt8} {o i : Nat} {x : Nat} (hg : ∀ i, c.data.toList[i + o]? = l[i]?) (h : zk2 l i 182 x = true) : decode c (i + o) = .ok (.invokevirtual x, 3) := dk_op1 rfl (zk2_r hg h).1 rfl (zk2_r hg h).2
theorem dk_o16p {c : ByteArray} {i : Nat} {x : Nat} (h : zk2 c.data.toList i 182 x = true) : decode c i = .ok (.invokevirtual x, 3) := dk_o16 (o := 0) zk_g h
theorem dk_o17 {c : ByteArray} {l : List UInt8} {o i : Nat} (hg : ∀ i, c.data.toList[i + o]? = l[i]?) (h : zk0 l i 190 = true) : decode c (i + o) = .ok (.arraylength, 1) := dk_op0 rfl (zk0_r hg h) rfl
theorem dk_o17p {c : ByteArray} {i : Nat} (h : zk0 c.data.toList i 190 = true) : decode c i = .ok (.arraylength, 1) := dk_o17 (o := 0) zk_g h
theorem dk_o18 {c : ByteArray} {l : List UInt8} {o i : Nat} {x : Int} (hg : ∀ i, c.data.toList[i + o]? = l[i]?) (h : zk2s l i 161 x = true) : decode c (i + o) = .ok (.if_icmp .lt x, 3) := dk_op1 rfl (zk2s_r hg h).1 rfl (zk2s_r hg h).2
theorem dk_o18p {c : ByteArray} {i : Nat} {x : Int} (h : zk2s c.data.toList i 161 x = true) : decode c i = .ok (.if_icmp .lt x, 3) := dk_o18 (o := 0) zk_g h
theorem dk_o19 {c : ByteArray} {l : List UInt8} {o i : Nat} {x : Int} (hg : ∀ i, c.data.toList[i + o]? = l[i]?) (h : zk2s l i 155 x = true) : decode c (i + o) = .ok (.ifCond .lt x, 3) := dk_op1 rfl (zk2s_r hg h).1 rfl (zk2s_r hg h).2
theorem dk_o19p {c : ByteArray} {i : Nat} {x : Int} (h : zk2s c.data.toList i 155 x = true) : decode c i = .ok (.ifCond .lt x, 3) := dk_o19 (o := 0) zk_g h
theorem dk_o20 {c : ByteArray} {l : List UInt8} {o i : Nat} {x : Int} (hg : ∀ i, c.data.toList[i + o]? = l[i]?) (h : zk2s l i 162 x = true) : decode c (i + o) = .ok (.if_icmp .ge x, 3) := dk_op1 rfl (zk2s_r hg h).1 rfl (zk2s_r hg h).2
theorem dk_o20p {c : ByteArray} {i : Nat} {x : Int} (h : zk2s c.data.toList i 162 x = true) : decode c i = .ok (.if_icmp .ge x, 3) := dk_o20 (o := 0) zk_g h
theorem dk_o21 {c : ByteArray} {l : List UInt8} {o i : Nat} (hg : ∀ i, c.data.toList[i + o]? = l[i]?) (h : zk0 l i 79 = true) : decode c (i + o) = .ok (.iastore, 1) := dk_op0 rfl (zk0_r hg h) rfl
theorem dk_o21p {c : ByteArray} {i : Nat} (h : zk0 c.data.toList i 79 = true) : decode c i = .ok (.iastore, 1) := dk_o21 (o := 0) zk_g h
theorem dk_o22 {c : ByteArray} {l : List UInt8} {o i : Nat} (hg : ∀ i, c.data.toList[i + o]? = l[i]?) (h : zk0 l i 60 = true) : decode c (i + o) = .ok (.istore_n 1, 1) := dk_op0 rfl (zk0_r hg h) rfl
theorem dk_o22p {c : ByteArray} {i : Nat} (h : zk0 c.data.toList i 60 = true) : decode c i = .ok (.istore_n 1, 1) := dk_o22 (o := 0) zk_g h
theorem dk_o23 {c : ByteArray} {l : List UInt8} {o i : Nat} (hg : ∀ i, c.data.toList[i + o]? = l[i]?) (h : zk0 l i 100 = true) : decode c (i + o) = .ok (.isub, 1) := dk_op0 rfl (zk0_r hg h) rfl
theorem dk_o23p {c : ByteArray} {i : Nat} (h : zk0 c.data.toList i 100 = true) : decode c i = .ok (.isub, 1) := dk_o23 (o := 0) zk_g h
theorem dk_o24 {c : ByteArray} {l : List UInt8} {o i : Nat} (hg : ∀ i, c.data.toList[i + o]? = l[i]?) (h : zk0 l i 46 = true) : decode c (i + o) = .ok (.iaload, 1) := dk_op0 rfl (zk0_r hg h) rfl
theorem dk_o24p {c : ByteArray} {i : Nat} (h : zk0 c.data.toList i 46 = true) : decode c i = .ok (.iaload, 1) := dk_o24 (o := 0) zk_g h
theorem dk_o25 {c : ByteArray} {l : List UInt8} {o i : Nat} {x : Int} (hg : ∀ i, c.data.toList[i + o]? = l[i]?) (h : zk2s l i 167 x = true) : decode c (i + o) = .ok (.goto x, 3) := dk_op1 rfl (zk2s_r hg h).1 rfl (zk2s_r hg h).2
theorem dk_o25p {c : ByteArray} {i : Nat} {x : Int} (h : zk2s c.data.toList i 167 x = true) : decode c i = .ok (.goto x, 3) := dk_o25 (o := 0) zk_g h
theorem dk_o26 {c : ByteArray} {l : List UInt8} {o i : Nat} {x : Nat} (hg : ∀ i, c.data.toList[i + o]? = l[i]?) (h : zk2 l i 184 x = true) : decode c (i + o) = .ok (.invokestatic x, 3) := dk_op1 rfl (zk2_r hg h).1 rfl (zk2_r hg h).2
theorem dk_o26p {c : ByteArray} {i : Nat} {x : Nat} (h : zk2 c.data.toList i 184 x = true) : decode c i = .ok (.invokestatic x, 3) := dk_o26 (o := 0) zk_g h
theorem dk_o27 {c : ByteArray} {l : List UInt8} {o i : Nat} (hg : ∀ i, c.data.toList[i + o]? = l[i]?) (h : zk0 l i 176 = true) : decode c (i + o) = .ok (.areturn, 1) := dk_op0 rfl (zk0_r hg h) rfl
theorem dk_o27p {c : ByteArray} {i : Nat} (h : zk0 c.data.toList i 176 = true) : decode c i = .ok (.areturn, 1) := dk_o27 (o := 0) zk_g h
theorem dk_o28 {c : ByteArray} {l : List UInt8} {o i : Nat} {x : Nat} (hg : ∀ i, c.data.toList[i + o]? = l[i]?) (h : zk2 l i 187 x = true) : decode c (i + o) = .ok (.new x, 3) := dk_op1 rfl (zk2_r hg h).1 rfl (zk2_r hg h).2
theorem dk_o28p {c : ByteArray} {i : Nat} {x : Nat} (h : zk2 c.data.toList i 187 x = true) : decode c i = .ok (.new x, 3) := dk_o28 (o := 0) zk_g h
theorem dk_o29 {c : ByteArray} {l : List UInt8} {o i : Nat} {x : Int} (hg : ∀ i, c.data.toList[i + o]? = l[i]?) (h : zk2s l i 153 x = true) : decode c (i + o) = .ok (.ifCond .eq x, 3) := dk_op1 rfl (zk2s_r hg h).1 rfl (zk2s_r hg h).2
theorem dk_o29p {c : ByteArray} {i : Nat} {x : Int} (h : zk2s c.data.toList i 153 x = true) : decode c i = .ok (.ifCond .eq x, 3) := dk_o29 (o := 0) zk_g h
theorem dk_o30 {c : ByteArray} {l : List UInt8} {o i : Nat} (hg : ∀ i, c.data.toList[i + o]? = l[i]?) (h : zk0 l i 28 = true) : decode c (i + o) = .ok (.iload_n 2, 1) := dk_op0 rfl (zk0_r hg h) rfl
theorem dk_o30p {c : ByteArray} {i : Nat} (h : zk0 c.data.toList i 28 = true) : decode c i = .ok (.iload_n 2, 1) := dk_o30 (o := 0) zk_g h
theorem dk_o31 {c : ByteArray} {l : List UInt8} {o i : Nat} {x : Int} (hg : ∀ i, c.data.toList[i + o]? = l[i]?) (h : zk2s l i 163 x = true) : decode c (i + o) = .ok (.if_icmp .gt x, 3) := dk_op1 rfl (zk2s_r hg h).1 rfl (zk2s_r hg h).2
theorem dk_o31p {c : ByteArray} {i : Nat} {x : Int} (h : zk2s c.data.toList i 163 x = true) : decode c i = .ok (.if_icmp .gt x, 3) := dk_o31 (o := 0) zk_g h
theorem dk_o32 {c : ByteArray} {l : List UInt8} {o i : Nat} {x : Int} (hg : ∀ i, c.data.toList[i + o]? = l[i]?) (h : zk2s l i 154 x = true) : decode c (i + o) = .ok (.ifCond .ne x, 3) := dk_op1 rfl (zk2s_r hg h).1 rfl (zk2s_r hg h).2
theorem dk_o32p {c : ByteArray} {i : Nat} {x : Int} (h : zk2s c.data.toList i 154 x = true) : decode c i = .ok (.ifCond .ne x, 3) := dk_o32 (o := 0) zk_g h
theorem dk_o33 {c : ByteArray} {l : List UInt8} {o i : Nat} (hg : ∀ i, c.data.toList[i + o]? = l[i]?) (h : zk0 l i 61 = true) : decode c (i + o) = .ok (.istore_n 2, 1) := dk_op0 rfl (zk0_r hg h) rfl
theorem dk_o33p {c : ByteArray} {i : Nat} (h : zk0 c.data.toList i 61 = true) : decode c i = .ok (.istore_n 2, 1) := dk_o33 (o := 0) zk_g h
theorem dk_o34 {c : ByteArray} {l : List UInt8} {o i : Nat} (hg : ∀ i, c.data.toList[i + o]? = l[i]?) (h : zk0 l i 43 = true) : decode c (i + o) = .ok (.aload_n 1, 1) := dk_op0 rfl (zk0_r hg h) rfl
theorem dk_o34p {c : ByteArray} {i : Nat} (h : zk0 c.data.toList i 43 = true) : decode c i = .ok (.aload_n 1, 1) := dk_o34 (o := 0) zk_g h
theorem dk_o35 {c : ByteArray} {l : List UInt8} {o i : Nat} (hg : ∀ i, c.data.toList[i + o]? = l[i]?) (h : zk0 l i 6 = true) : decode c (i + o) = .ok (.iconst 3, 1) := dk_op0 rfl (zk0_r hg h) rfl
theorem dk_o35p {c : ByteArray} {i : Nat} (h : zk0 c.data.toList i 6 = true) : decode c i = .ok (.iconst 3, 1) := dk_o35 (o := 0) zk_g h
theorem dk_o36 {c : ByteArray} {l : List UInt8} {o i : Nat} (hg : ∀ i, c.data.toList[i + o]? = l[i]?) (h : zk0 l i 7 = true) : decode c (i + o) = .ok (.iconst 4, 1) := dk_op0 rfl (zk0_r hg h) rfl
theorem dk_o36p {c : ByteArray} {i : Nat} (h : zk0 c.data.toList i 7 = true) : decode c i = .ok (.iconst 4, 1) := dk_o36 (o := 0) zk_g h
theorem dk_o37 {c : ByteArray} {l : List UInt8} {o i : Nat} (hg : ∀ i, c.data.toList[i + o]? = l[i]?) (h : zk0 l i 29 = true) : decode c (i + o) = .ok (.iload_n 3, 1) := dk_op0 rfl (zk0_r hg h) rfl
theorem dk_o37p {c : ByteArray} {i : Nat} (h : zk0 c.data.toList i 29 = true) : decode c i = .ok (.iload_n 3, 1) := dk_o37 (o := 0) zk_g h
theorem dk_o38 {c : ByteArray} {l : List UInt8} {o i : Nat} (hg : ∀ i, c.data.toList[i + o]? = l[i]?) (h : zk0 l i 8 = true) : decode c (i + o) = .ok (.iconst 5, 1) := dk_op0 rfl (zk0_r hg h) rfl
theorem dk_o38p {c : ByteArray} {i : Nat} (h : zk0 c.data.toList i 8 = true) : decode c i = .ok (.iconst 5, 1) := dk_o38 (o := 0) zk_g h
theorem dk_o39 {c : ByteArray} {l : List UInt8} {o i : Nat} (hg : ∀ i, c.data.toList[i + o]? = l[i]?) (h : zk0 l i 62 = true) : decode c (i + o) = .ok (.istore_n 3, 1) := dk_op0 rfl (zk0_r hg h) rfl
theorem dk_o39p {c : ByteArray} {i : Nat} (h : zk0 c.data.toList i 62 = true) : decode c i = .ok (.istore_n 3, 1) := dk_o39 (o := 0) zk_g h
theorem dk_o40 {c : ByteArray} {l : List UInt8} {o i : Nat} {x : Int} (hg : ∀ i, c.data.toList[i + o]? = l[i]?) (h : zk2s l i 158 x = true) : decode c (i + o) = .ok (.ifCond .le x, 3) := dk_op1 rfl (zk2s_r hg h).1 rfl (zk2s_r hg h).2
theorem dk_o40p {c : ByteArray} {i : Nat} {x : Int} (h : zk2s c.data.toList i 158 x = true) : decode c i = .ok (.ifCond .le x, 3) := dk_o40 (o := 0) zk_g h
theorem dk_o41 {c : ByteArray} {l : List UInt8} {o i : Nat} {x : Int} (hg : ∀ i, c.data.toList[i + o]? = l[i]?) (h : zk2s l i 164 x = true) : decode c (i + o) = .ok (.if_icmp .le x, 3) := dk_op1 rfl (zk2s_r hg h).1 rfl (zk2s_r hg h).2
theorem dk_o41p {c : ByteArray} {i : Nat} {x : Int} (h : zk2s c.data.toList i 164 x = true) : decode c i = .ok (.if_icmp .le x, 3) := dk_o41 (o := 0) zk_g h
theorem dk_o42 {c : ByteArray} {l : List UInt8} {o i : Nat} {x : Nat} (hg : ∀ i, c.data.toList[i + o]? = l[i]?) (h : zk1 l i 54 x = true) : decode c (i + o) = .ok (.istore x, 2) := dk_op1 rfl (zk1_r hg h).1 rfl (zk1_r hg h).2
theorem dk_o42p {c : ByteArray} {i : Nat} {x : Nat} (h : zk1 c.data.toList i 54 x = true) : decode c i = .ok (.istore x, 2) := dk_o42 (o := 0) zk_g h
theorem dk_o43 {c : ByteArray} {l : List UInt8} {o i : Nat} {x : Nat} (hg : ∀ i, c.data.toList[i + o]? = l[i]?) (h : zk1 l i 21 x = true) : decode c (i + o) = .ok (.iload x, 2) := dk_op1 rfl (zk1_r hg h).1 rfl (zk1_r hg h).2
theorem dk_o43p {c : ByteArray} {i : Nat} {x : Nat} (h : zk1 c.data.toList i 21 x = true) : decode c i = .ok (.iload x, 2) := dk_o43 (o := 0) zk_g h
theorem dk_o44 {c : ByteArray} {l : List UInt8} {o i : Nat} (hg : ∀ i, c.data.toList[i + o]? = l[i]?) (h : zk0 l i 87 = true) : decode c (i + o) = .ok (.pop, 1) := dk_op0 rfl (zk0_r hg h) rfl
theorem dk_o44p {c : ByteArray} {i : Nat} (h : zk0 c.data.toList i 87 = true) : decode c i = .ok (.pop, 1) := dk_o44 (o := 0) zk_g h
theorem dk_o45 {c : ByteArray} {l : List UInt8} {o i : Nat} (hg : ∀ i, c.data.toList[i + o]? = l[i]?) (h : zk0 l i 76 = true) : decode c (i + o) = .ok (.astore_n 1, 1) := dk_op0 rfl (zk0_r hg h) rfl
theorem dk_o45p {c : ByteArray} {i : Nat} (h : zk0 c.data.toList i 76 = true) : decode c i = .ok (.astore_n 1, 1) := dk_o45 (o := 0) zk_g h
theorem dk_o46 {c : ByteArray} {l : List UInt8} {o i : Nat} (hg : ∀ i, c.data.toList[i + o]? = l[i]?) (h : zk0 l i 104 = true) : decode c (i + o) = .ok (.imul, 1) := dk_op0 rfl (zk0_r hg h) rfl
theorem dk_o46p {c : ByteArray} {i : Nat} (h : zk0 c.data.toList i 104 = true) : decode c i = .ok (.imul, 1) := dk_o46 (o := 0) zk_g h
theorem dk_o47 {c : ByteArray} {l : List UInt8} {o i : Nat} (hg : ∀ i, c.data.toList[i + o]? = l[i]?) (h : zk0 l i 92 = true) : decode c (i + o) = .ok (.dup2, 1) := dk_op0 rfl (zk0_r hg h) rfl
theorem dk_o47p {c : ByteArray} {i : Nat} (h : zk0 c.data.toList i 92 = true) : decode c i = .ok (.dup2, 1) := dk_o47 (o := 0) zk_g h
theorem dk_o48 {c : ByteArray} {l : List UInt8} {o i : Nat} (hg : ∀ i, c.data.toList[i + o]? = l[i]?) (h : zk0 l i 5 = true) : decode c (i + o) = .ok (.iconst 2, 1) := dk_op0 rfl (zk0_r hg h) rfl
theorem dk_o48p {c : ByteArray} {i : Nat} (h : zk0 c.data.toList i 5 = true) : decode c i = .ok (.iconst 2, 1) := dk_o48 (o := 0) zk_g h
theorem dk_o49 {c : ByteArray} {l : List UInt8} {o i : Nat} {x : Nat} (hg : ∀ i, c.data.toList[i + o]? = l[i]?) (h : zk2 l i 189 x = true) : decode c (i + o) = .ok (.anewarray x, 3) := dk_op1 rfl (zk2_r hg h).1 rfl (zk2_r hg h).2
theorem dk_o49p {c : ByteArray} {i : Nat} {x : Nat} (h : zk2 c.data.toList i 189 x = true) : decode c i = .ok (.anewarray x, 3) := dk_o49 (o := 0) zk_g h
theorem dk_o50 {c : ByteArray} {l : List UInt8} {o i : Nat} (hg : ∀ i, c.data.toList[i + o]? = l[i]?) (h : zk0 l i 83 = true) : decode c (i + o) = .ok (.aastore, 1) := dk_op0 rfl (zk0_r hg h) rfl
theorem dk_o50p {c : ByteArray} {i : Nat} (h : zk0 c.data.toList i 83 = true) : decode c i = .ok (.aastore, 1) := dk_o50 (o := 0) zk_g h
theorem dk_o51 {c : ByteArray} {l : List UInt8} {o i : Nat} (hg : ∀ i, c.data.toList[i + o]? = l[i]?) (h : zk0 l i 78 = true) : decode c (i + o) = .ok (.astore_n 3, 1) := dk_op0 rfl (zk0_r hg h) rfl
theorem dk_o51p {c : ByteArray} {i : Nat} (h : zk0 c.data.toList i 78 = true) : decode c i = .ok (.astore_n 3, 1) := dk_o51 (o := 0) zk_g h
theorem dk_o52 {c : ByteArray} {l : List UInt8} {o i : Nat} (hg : ∀ i, c.data.toList[i + o]? = l[i]?) (h : zk0 l i 45 = true) : decode c (i + o) = .ok (.aload_n 3, 1) := dk_op0 rfl (zk0_r hg h) rfl
theorem dk_o52p {c : ByteArray} {i : Nat} (h : zk0 c.data.toList i 45 = true) : decode c i = .ok (.aload_n 3, 1) := dk_o52 (o := 0) zk_g h
theorem dk_o53 {c : ByteArray} {l : List UInt8} {o i : Nat} {x : Nat} (hg : ∀ i, c.data.toList[i + o]? = l[i]?) (h : zk1 l i 18 x = true) : decode c (i + o) = .ok (.ldc x, 2) := dk_op1 rfl (zk1_r hg h).1 rfl (zk1_r hg h).2
theorem dk_o53p {c : ByteArray} {i : Nat} {x : Nat} (h : zk1 c.data.toList i 18 x = true) : decode c i = .ok (.ldc x, 2) := dk_o53 (o := 0) zk_g h
theorem dk_o54 {c : ByteArray} {l : List UInt8} {o i : Nat} (hg : ∀ i, c.data.toList[i + o]? = l[i]?) (h : zk0 l i 191 = true) : decode c (i + o) = .ok (.athrow, 1) := dk_op0 rfl (zk0_r hg h) rfl
theorem dk_o54p {c : ByteArray} {i : Nat} (h : zk0 c.data.toList i 191 = true) : decode c i = .ok (.athrow, 1) := dk_o54 (o := 0) zk_g h
theorem dk_o55 {c : ByteArray} {l : List UInt8} {o i : Nat} {x : Nat} (hg : ∀ i, c.data.toList[i + o]? = l[i]?) (h : zk1 l i 58 x = true) : decode c (i + o) = .ok (.astore x, 2) := dk_op1 rfl (zk1_r hg h).1 rfl (zk1_r hg h).2
theorem dk_o55p {c : ByteArray} {i : Nat} {x : Nat} (h : zk1 c.data.toList i 58 x = true) : decode c i = .ok (.astore x, 2) := dk_o55 (o := 0) zk_g h
theorem dk_o56 {c : ByteArray} {l : List UInt8} {o i : Nat} {x : Nat} (hg : ∀ i, c.data.toList[i + o]? = l[i]?) (h : zk1 l i 25 x = true) : decode c (i + o) = .ok (.aload x, 2) := dk_op1 rfl (zk1_r hg h).1 rfl (zk1_r hg h).2
theorem dk_o56p {c : ByteArray} {i : Nat} {x : Nat} (h : zk1 c.data.toList i 25 x = true) : decode c i = .ok (.aload x, 2) := dk_o56 (o := 0) zk_g h
theorem dk_o57 {c : ByteArray} {l : List UInt8} {o i : Nat} (hg : ∀ i, c.data.toList[i + o]? = l[i]?) (h : zk0 l i 77 = true) : decode c (i + o) = .ok (.astore_n 2, 1) := dk_op0 rfl (zk0_r hg h) rfl
theorem dk_o57p {c : ByteArray} {i : Nat} (h : zk0 c.data.toList i 77 = true) : decode c i = .ok (.astore_n 2, 1) := dk_o57 (o := 0) zk_g h
theorem dk_o58 {c : ByteArray} {l : List UInt8} {o i : Nat} (hg : ∀ i, c.data.toList[i + o]? = l[i]?) (h : zk0 l i 44 = true) : decode c (i + o) = .ok (.aload_n 2, 1) := dk_op0 rfl (zk0_r hg h) rfl
theorem dk_o58p {c : ByteArray} {i : Nat} (h : zk0 c.data.toList i 44 = true) : decode c i = .ok (.aload_n 2, 1) := dk_o58 (o := 0) zk_g h
theorem dk_o59 {c : ByteArray} {l : List UInt8} {o i : Nat} (hg : ∀ i, c.data.toList[i + o]? = l[i]?) (h : zk0 l i 50 = true) : decode c (i + o) = .ok (.aaload, 1) := dk_op0 rfl (zk0_r hg h) rfl
theorem dk_o59p {c : ByteArray} {i : Nat} (h : zk0 c.data.toList i 50 = true) : decode c i = .ok (.aaload, 1) := dk_o59 (o := 0) zk_g h
theorem dk_o60 {c : ByteArray} {l : List UInt8} {o i : Nat} {x : Nat} (hg : ∀ i, c.data.toList[i + o]? = l[i]?) (h : zk2 l i 20 x = true) : decode c (i + o) = .ok (.ldc2_w x, 3) := dk_op1 rfl (zk2_r hg h).1 rfl (zk2_r hg h).2
theorem dk_o60p {c : ByteArray} {i : Nat} {x : Nat} (h : zk2 c.data.toList i 20 x = true) : decode c i = .ok (.ldc2_w x, 3) := dk_o60 (o := 0) zk_g h
theorem dk_o61 {c : ByteArray} {l : List UInt8} {o i : Nat} (hg : ∀ i, c.data.toList[i + o]? = l[i]?) (h : zk0 l i 64 = true) : decode c (i + o) = .ok (.lstore_n 1, 1) := dk_op0 rfl (zk0_r hg h) rfl
theorem dk_o61p {c : ByteArray} {i : Nat} (h : zk0 c.data.toList i 64 = true) : decode c i = .ok (.lstore_n 1, 1) := dk_o61 (o := 0) zk_g h
theorem dk_o62 {c : ByteArray} {l : List UInt8} {o i : Nat} (hg : ∀ i, c.data.toList[i + o]? = l[i]?) (h : zk0 l i 31 = true) : decode c (i + o) = .ok (.lload_n 1, 1) := dk_op0 rfl (zk0_r hg h) rfl
theorem dk_o62p {c : ByteArray} {i : Nat} (h : zk0 c.data.toList i 31 = true) : decode c i = .ok (.lload_n 1, 1) := dk_o62 (o := 0) zk_g h
theorem dk_o63 {c : ByteArray} {l : List UInt8} {o i : Nat} (hg : ∀ i, c.data.toList[i + o]? = l[i]?) (h : zk0 l i 173 = true) : decode c (i + o) = .ok (.lreturn, 1) := dk_op0 rfl (zk0_r hg h) rfl
theorem dk_o63p {c : ByteArray} {i : Nat} (h : zk0 c.data.toList i 173 = true) : decode c i = .ok (.lreturn, 1) := dk_o63 (o := 0) zk_g h
theorem dk_o64 {c : ByteArray} {l : List UInt8} {o i : Nat} {x : Nat} (hg : ∀ i, c.data.toList[i + o]? = l[i]?) (h : zk2 l i 19 x = true) : decode c (i + o) = .ok (.ldc_w x, 3) := dk_op1 rfl (zk2_r hg h).1 rfl (zk2_r hg h).2
theorem dk_o64p {c : ByteArray} {i : Nat} {x : Nat} (h : zk2 c.data.toList i 19 x = true) : decode c i = .ok (.ldc_w x, 3) := dk_o64 (o := 0) zk_g h
theorem dk_o65 {c : ByteArray} {l : List UInt8} {o i : Nat} (hg : ∀ i, c.data.toList[i + o]? = l[i]?) (h : zk0 l i 26 = true) : decode c (i + o) = .ok (.iload_n 0, 1) := dk_op0 rfl (zk0_r hg h) rfl
theorem dk_o65p {c : ByteArray} {i : Nat} (h : zk0 c.data.toList i 26 = true) : decode c i = .ok (.iload_n 0, 1) := dk_o65 (o := 0) zk_g h
theorem dk_o66 {c : ByteArray} {l : List UInt8} {o i : Nat} (hg : ∀ i, c.data.toList[i + o]? = l[i]?) (h : zk0 l i 108 = true) : decode c (i + o) = .ok (.idiv, 1) := dk_op0 rfl (zk0_r hg h) rfl
theorem dk_o66p {c : ByteArray} {i : Nat} (h : zk0 c.data.toList i 108 = true) : decode c i = .ok (.idiv, 1) := dk_o66 (o := 0) zk_g h
theorem dk_o67 {c : ByteArray} {l : List UInt8} {o i : Nat} (hg : ∀ i, c.data.toList[i + o]? = l[i]?) (h : zk0 l i 126 = true) : decode c (i + o) = .ok (.iand, 1) := dk_op0 rfl (zk0_r hg h) rfl
theorem dk_o67p {c : ByteArray} {i : Nat} (h : zk0 c.data.toList i 126 = true) : decode c i = .ok (.iand, 1) := dk_o67 (o := 0) zk_g h
theorem dk_o68 {c : ByteArray} {l : List UInt8} {o i : Nat} {x : Int} (hg : ∀ i, c.data.toList[i + o]? = l[i]?) (h : zk2s l i 166 x = true) : decode c (i + o) = .ok (.if_acmp .ne x, 3) := dk_op1 rfl (zk2s_r hg h).1 rfl (zk2s_r hg h).2
theorem dk_o68p {c : ByteArray} {i : Nat} {x : Int} (h : zk2s c.data.toList i 166 x = true) : decode c i = .ok (.if_acmp .ne x, 3) := dk_o68 (o := 0) zk_g h
theorem dk_o69 {c : ByteArray} {l : List UInt8} {o i : Nat} (hg : ∀ i, c.data.toList[i + o]? = l[i]?) (h : zk0 l i 30 = true) : decode c (i + o) = .ok (.lload_n 0, 1) := dk_op0 rfl (zk0_r hg h) rfl
theorem dk_o69p {c : ByteArray} {i : Nat} (h : zk0 c.data.toList i 30 = true) : decode c i = .ok (.lload_n 0, 1) := dk_o69 (o := 0) zk_g h
theorem dk_o70 {c : ByteArray} {l : List UInt8} {o i : Nat} (hg : ∀ i, c.data.toList[i + o]? = l[i]?) (h : zk0 l i 105 = true) : decode c (i + o) = .ok (.lmul, 1) := dk_op0 rfl (zk0_r hg h) rfl
theorem dk_o70p {c : ByteArray} {i : Nat} (h : zk0 c.data.toList i 105 = true) : decode c i = .ok (.lmul, 1) := dk_o70 (o := 0) zk_g h
theorem dk_o71 {c : ByteArray} {l : List UInt8} {o i : Nat} (hg : ∀ i, c.data.toList[i + o]? = l[i]?) (h : zk0 l i 133 = true) : decode c (i + o) = .ok (.i2l, 1) := dk_op0 rfl (zk0_r hg h) rfl
theorem dk_o71p {c : ByteArray} {i : Nat} (h : zk0 c.data.toList i 133 = true) : decode c i = .ok (.i2l, 1) := dk_o71 (o := 0) zk_g h
theorem dk_o72 {c : ByteArray} {l : List UInt8} {o i : Nat} (hg : ∀ i, c.data.toList[i + o]? = l[i]?) (h : zk0 l i 97 = true) : decode c (i + o) = .ok (.ladd, 1) := dk_op0 rfl (zk0_r hg h) rfl
theorem dk_o72p {c : ByteArray} {i : Nat} (h : zk0 c.data.toList i 97 = true) : decode c i = .ok (.ladd, 1) := dk_o72 (o := 0) zk_g h
theorem dk_o73 {c : ByteArray} {l : List UInt8} {o i : Nat} (hg : ∀ i, c.data.toList[i + o]? = l[i]?) (h : zk0 l i 66 = true) : decode c (i + o) = .ok (.lstore_n 3, 1) := dk_op0 rfl (zk0_r hg h) rfl
theorem dk_o73p {c : ByteArray} {i : Nat} (h : zk0 c.data.toList i 66 = true) : decode c i = .ok (.lstore_n 3, 1) := dk_o73 (o := 0) zk_g h
theorem dk_o74 {c : ByteArray} {l : List UInt8} {o i : Nat} (hg : ∀ i, c.data.toList[i + o]? = l[i]?) (h : zk0 l i 33 = true) : decode c (i + o) = .ok (.lload_n 3, 1) := dk_op0 rfl (zk0_r hg h) rfl
theorem dk_o74p {c : ByteArray} {i : Nat} (h : zk0 c.data.toList i 33 = true) : decode c i = .ok (.lload_n 3, 1) := dk_o74 (o := 0) zk_g h
theorem dk_o75 {c : ByteArray} {l : List UInt8} {o i : Nat} {x : Nat} (hg : ∀ i, c.data.toList[i + o]? = l[i]?) (h : zk2 l i 192 x = true) : decode c (i + o) = .ok (.checkcast x, 3) := dk_op1 rfl (zk2_r hg h).1 rfl (zk2_r hg h).2
theorem dk_o75p {c : ByteArray} {i : Nat} {x : Nat} (h : zk2 c.data.toList i 192 x = true) : decode c i = .ok (.checkcast x, 3) := dk_o75 (o := 0) zk_g h
theorem dk_o76 {c : ByteArray} {l : List UInt8} {o i : Nat} (hg : ∀ i, c.data.toList[i + o]? = l[i]?) (h : zk0 l i 112 = true) : decode c (i + o) = .ok (.irem, 1) := dk_op0 rfl (zk0_r hg h) rfl
theorem dk_o76p {c : ByteArray} {i : Nat} (h : zk0 c.data.toList i 112 = true) : decode c i = .ok (.irem, 1) := dk_o76 (o := 0) zk_g h
theorem dk_o77 {c : ByteArray} {l : List UInt8} {o i : Nat} (hg : ∀ i, c.data.toList[i + o]? = l[i]?) (h : zk0 l i 51 = true) : decode c (i + o) = .ok (.baload, 1) := dk_op0 rfl (zk0_r hg h) rfl
theorem dk_o77p {c : ByteArray} {i : Nat} (h : zk0 c.data.toList i 51 = true) : decode c i = .ok (.baload, 1) := dk_o77 (o := 0) zk_g h
theorem dk_o78 {c : ByteArray} {l : List UInt8} {o i : Nat} (hg : ∀ i, c.data.toList[i + o]? = l[i]?) (h : zk0 l i 84 = true) : decode c (i + o) = .ok (.bastore, 1) := dk_op0 rfl (zk0_r hg h) rfl
theorem dk_o78p {c : ByteArray} {i : Nat} (h : zk0 c.data.toList i 84 = true) : decode c i = .ok (.bastore, 1) := dk_o78 (o := 0) zk_g h
theorem dk_o79 {c : ByteArray} {l : List UInt8} {o i : Nat} {x : Int} (hg : ∀ i, c.data.toList[i + o]? = l[i]?) (h : zk2s l i 156 x = true) : decode c (i + o) = .ok (.ifCond .ge x, 3) := dk_op1 rfl (zk2s_r hg h).1 rfl (zk2s_r hg h).2
theorem dk_o79p {c : ByteArray} {i : Nat} {x : Int} (h : zk2s c.data.toList i 156 x = true) : decode c i = .ok (.ifCond .ge x, 3) := dk_o79 (o := 0) zk_g h
theorem dk_o80 {c : ByteArray} {l : List UInt8} {o i : Nat} (hg : ∀ i, c.data.toList[i + o]? = l[i]?) (h : zk0 l i 32 = true) : decode c (i + o) = .ok (.lload_n 2, 1) := dk_op0 rfl (zk0_r hg h) rfl
theorem dk_o80p {c : ByteArray} {i : Nat} (h : zk0 c.data.toList i 32 = true) : decode c i = .ok (.lload_n 2, 1) := dk_o80 (o := 0) zk_g h
theorem dk_o81 {c : ByteArray} {l : List UInt8} {o i : Nat} {x : Nat} (hg : ∀ i, c.data.toList[i + o]? = l[i]?) (h : zk2 l i 178 x = true) : decode c (i + o) = .ok (.getstatic x, 3) := dk_op1 rfl (zk2_r hg h).1 rfl (zk2_r hg h).2
theorem dk_o81p {c : ByteArray} {i : Nat} {x : Nat} (h : zk2 c.data.toList i 178 x = true) : decode c i = .ok (.getstatic x, 3) := dk_o81 (o := 0) zk_g h
theorem dk_o82 {c : ByteArray} {l : List UInt8} {o i : Nat} (hg : ∀ i, c.data.toList[i + o]? = l[i]?) (h : zk0 l i 122 = true) : decode c (i + o) = .ok (.ishr, 1) := dk_op0 rfl (zk0_r hg h) rfl
theorem dk_o82p {c : ByteArray} {i : Nat} (h : zk0 c.data.toList i 122 = true) : decode c i = .ok (.ishr, 1) := dk_o82 (o := 0) zk_g h
theorem dk_o83 {c : ByteArray} {l : List UInt8} {o i : Nat} (hg : ∀ i, c.data.toList[i + o]? = l[i]?) (h : zk0 l i 120 = true) : decode c (i + o) = .ok (.ishl, 1) := dk_op0 rfl (zk0_r hg h) rfl
theorem dk_o83p {c : ByteArray} {i : Nat} (h : zk0 c.data.toList i 120 = true) : decode c i = .ok (.ishl, 1) := dk_o83 (o := 0) zk_g h
theorem dk_o84 {c : ByteArray} {l : List UInt8} {o i : Nat} {x : Int} (hg : ∀ i, c.data.toList[i + o]? = l[i]?) (h : zk2s l i 199 x = true) : decode c (i + o) = .ok (.ifnonnull x, 3) := dk_op1 rfl (zk2s_r hg h).1 rfl (zk2s_r hg h).2
theorem dk_o84p {c : ByteArray} {i : Nat} {x : Int} (h : zk2s c.data.toList i 199 x = true) : decode c i = .ok (.ifnonnull x, 3) := dk_o84 (o := 0) zk_g h
theorem dk_o85 {c : ByteArray} {l : List UInt8} {o i : Nat} (hg : ∀ i, c.data.toList[i + o]? = l[i]?) (h : zk0 l i 90 = true) : decode c (i + o) = .ok (.dup_x1, 1) := dk_op0 rfl (zk0_r hg h) rfl
theorem dk_o85p {c : ByteArray} {i : Nat} (h : zk0 c.data.toList i 90 = true) : decode c i = .ok (.dup_x1, 1) := dk_o85 (o := 0) zk_g h
theorem dk_o86 {c : ByteArray} {l : List UInt8} {o i : Nat} (hg : ∀ i, c.data.toList[i + o]? = l[i]?) (h : zk0 l i 145 = true) : decode c (i + o) = .ok (.i2b, 1) := dk_op0 rfl (zk0_r hg h) rfl
theorem dk_o86p {c : ByteArray} {i : Nat} (h : zk0 c.data.toList i 145 = true) : decode c i = .ok (.i2b, 1) := dk_o86 (o := 0) zk_g h
theorem dk_o87 {c : ByteArray} {l : List UInt8} {o i : Nat} (hg : ∀ i, c.data.toList[i + o]? = l[i]?) (h : zk0 l i 116 = true) : decode c (i + o) = .ok (.ineg, 1) := dk_op0 rfl (zk0_r hg h) rfl
theorem dk_o87p {c : ByteArray} {i : Nat} (h : zk0 c.data.toList i 116 = true) : decode c i = .ok (.ineg, 1) := dk_o87 (o := 0) zk_g h
theorem dk_o88 {c : ByteArray} {l : List UInt8} {o i : Nat} (hg : ∀ i, c.data.toList[i + o]? = l[i]?) (h : zk0 l i 59 = true) : decode c (i + o) = .ok (.istore_n 0, 1) := dk_op0 rfl (zk0_r hg h) rfl
theorem dk_o88p {c : ByteArray} {i : Nat} (h : zk0 c.data.toList i 59 = true) : decode c i = .ok (.istore_n 0, 1) := dk_o88 (o := 0) zk_g h
theorem dk_o89 {c : ByteArray} {l : List UInt8} {o i : Nat} (hg : ∀ i, c.data.toList[i + o]? = l[i]?) (h : zk0 l i 1 = true) : decode c (i + o) = .ok (.aconst_null, 1) := dk_op0 rfl (zk0_r hg h) rfl
theorem dk_o89p {c : ByteArray} {i : Nat} (h : zk0 c.data.toList i 1 = true) : decode c i = .ok (.aconst_null, 1) := dk_o89 (o := 0) zk_g h
theorem dk_o93 {c : ByteArray} {l : List UInt8} {o i : Nat} {x : Int} (hg : ∀ i, c.data.toList[i + o]? = l[i]?) (h : zk2s l i 157 x = true) : decode c (i + o) = .ok (.ifCond .gt x, 3) := dk_op1 rfl (zk2s_r hg h).1 rfl (zk2s_r hg h).2
theorem dk_o93p {c : ByteArray} {i : Nat} {x : Int} (h : zk2s c.data.toList i 157 x = true) : decode c i = .ok (.ifCond .gt x, 3) := dk_o93 (o := 0) zk_g h
theorem dk_o94 {c : ByteArray} {l : List UInt8} {o i : Nat} {x : Int} (hg : ∀ i, c.data.toList[i + o]? = l[i]?) (h : zk2s l i 165 x = true) : decode c (i + o) = .ok (.if_acmp .eq x, 3) := dk_op1 rfl (zk2s_r hg h).1 rfl (zk2s_r hg h).2
theorem dk_o94p {c : ByteArray} {i : Nat} {x : Int} (h : zk2s c.data.toList i 165 x = true) : decode c i = .ok (.if_acmp .eq x, 3) := dk_o94 (o := 0) zk_g h
theorem dk_o95 {c : ByteArray} {l : List UInt8} {o i : Nat} (hg : ∀ i, c.data.toList[i + o]? = l[i]?) (h : zk0 l i 10 = true) : decode c (i + o) = .ok (.lconst 1, 1) := dk_op0 rfl (zk0_r hg h) rfl
theorem dk_o95p {c : ByteArray} {i : Nat} (h : zk0 c.data.toList i 10 = true) : decode c i = .ok (.lconst 1, 1) := dk_o95 (o := 0) zk_g h
theorem dk_o96 {c : ByteArray} {l : List UInt8} {o i : Nat} (hg : ∀ i, c.data.toList[i + o]? = l[i]?) (h : zk0 l i 9 = true) : decode c (i + o) = .ok (.lconst 0, 1) := dk_op0 rfl (zk0_r hg h) rfl
theorem dk_o96p {c : ByteArray} {i : Nat} (h : zk0 c.data.toList i 9 = true) : decode c i = .ok (.lconst 0, 1) := dk_o96 (o := 0) zk_g h
theorem dk_o97 {c : ByteArray} {l : List UInt8} {o i : Nat} (hg : ∀ i, c.data.toList[i + o]? = l[i]?) (h : zk0 l i 148 = true) : decode c (i + o) = .ok (.lcmp, 1) := dk_op0 rfl (zk0_r hg h) rfl
theorem dk_o98 {c : ByteArray} {l : List UInt8} {o i : Nat} (hg : ∀ i, c.data.toList[i + o]? = l[i]?) (h : zk0 l i 88 = true) : decode c (i + o) = .ok (.pop2, 1) := dk_op0 rfl (zk0_r hg h) rfl
end ZDk
