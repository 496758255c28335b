section ZDk
abbrev dk_R (α : Type) : Type := Jvm.ClassFile.Decoder α
abbrev dk_r1 : dk_R Nat := Jvm.ClassFile.Reader.u1
abbrev dk_r2 : dk_R Nat := Jvm.ClassFile.Reader.u2
abbrev dk_t1 : dk_R Int := Jvm.ClassFile.Reader.s1
abbrev dk_t2 : dk_R Int := Jvm.ClassFile.Reader.s2
theorem dk_u1 {c : ByteArray} {p : Nat} {b : UInt8} (h : c.data.toList[p]? = some b) : dk_r1 c p = .ok (b.toNat, p + 1) := by
  have h0 := List.getElem?_eq_some_iff.mp h
  have hp : p < c.size := h0.1
  have e : c[p] = b := h0.2
  unfold dk_r1 Jvm.ClassFile.Reader.u1
  show (if h : p < c.size then ((do set (p + 1); Pure.pure c[p].toNat) : dk_R Nat) else throw _) c p = _
  rw [dif_pos hp, e]
  rfl
theorem dk_u2 {c : ByteArray} {p a b : Nat} (h : dk_r1 c p = .ok (a, p + 1)) (h2 : dk_r1 c (p + 1) = .ok (b, p + 2)) : dk_r2 c p = .ok (a * 256 + b, p + 2) := by
  show Except.bind (dk_r1 c p) (fun q => Except.bind (dk_r1 c q.2) (fun r => .ok (q.1 * 256 + r.1, r.2))) = _
  rw [h]
  show Except.bind (dk_r1 c (p + 1)) _ = _
  rw [h2]
  rfl
theorem dk_s1 {c : ByteArray} {p a : Nat} {v : Int} (h : dk_r1 c p = .ok (a, p + 1)) (hv : Jvm.ClassFile.Reader.signed 8 a = v) : dk_t1 c p = .ok (v, p + 1) := by
  subst hv
  show Except.bind (dk_r1 c p) (fun q => .ok (Jvm.ClassFile.Reader.signed 8 q.1, q.2)) = _
  rw [h]
  rfl
theorem dk_s2 {c : ByteArray} {p a : Nat} {v : Int} (h : dk_r2 c p = .ok (a, p + 2)) (hv : Jvm.ClassFile.Reader.signed 16 a = v) : dk_t2 c p = .ok (v, p + 2) := by
  subst hv
  show Except.bind (dk_r2 c p) (fun q => .ok (Jvm.ClassFile.Reader.signed 16 q.1, q.2)) = _
  rw [h]
  rfl
theorem dk_op0 {c : ByteArray} {p b : Nat} {K : Nat → dk_R Jvm.ClassFile.Instr} {r : Jvm.ClassFile.Instr} (hK : Jvm.ClassFile.Decoder.instr p = dk_r1 >>= K) (h : dk_r1 c p = .ok (b, p + 1)) (hr : K b = Pure.pure r) : decode c p = .ok (r, 1) := by
  have e : Jvm.ClassFile.Decoder.instr p c p = .ok (r, p + 1) := by
    rw [hK]
    show Except.bind (dk_r1 c p) (fun q => K q.1 c q.2) = _
    rw [h]
    show K b c (p + 1) = _
    rw [hr]
    rfl
  show Except.bind (Jvm.ClassFile.Decoder.instr p c p) (fun q => .ok (q.1, q.2 - p)) = _
  rw [e]
  show Except.ok (r, p + 1 - p) = _
  rw [Nat.add_sub_cancel_left]
theorem dk_op1 {α : Type} {c : ByteArray} {p b n : Nat} {K : Nat → dk_R Jvm.ClassFile.Instr} {rd : dk_R α} {f : α → Jvm.ClassFile.Instr} {x : α} (hK : Jvm.ClassFile.Decoder.instr p = dk_r1 >>= K) (h : dk_r1 c p = .ok (b, p + 1)) (hr : K b = rd >>= fun x => Pure.pure (f x)) (hx : rd c (p + 1) = .ok (x, p + 1 + n)) : decode c p = .ok (f x, n + 1) := by
  have e : Jvm.ClassFile.Decoder.instr p c p = .ok (f x, p + 1 + n) := by
    rw [hK]
    show Except.bind (dk_r1 c p) (fun q => K q.1 c q.2) = _
    rw [h]
    show K b c (p + 1) = _
    rw [hr]
    show Except.bind (rd c (p + 1)) (fun q => .ok (f q.1, q.2)) = _
    rw [hx]
    rfl
  show Except.bind (Jvm.ClassFile.Decoder.instr p c p) (fun q => .ok (q.1, q.2 - p)) = _
  rw [e]
  show Except.ok (f x, p + 1 + n - p) = _
  rw [show p + 1 + n - p = n + 1 by omega]
theorem dk_o0 {c : ByteArray} {p : Nat} {x : Nat} (h : dk_r1 c p = .ok (187, p + 1)) (hx : dk_r2 c (p + 1) = .ok (x, p + 1 + 2)) : decode c p = .ok (.new x, 3) := dk_op1 rfl h rfl hx
theorem dk_o1 {c : ByteArray} {p : Nat} (h : dk_r1 c p = .ok (89, p + 1)) : decode c p = .ok (.dup, 1) := dk_op0 rfl h rfl
theorem dk_o2 {c : ByteArray} {p : Nat} {x : Nat} (h : dk_r1 c p = .ok (183, p + 1)) (hx : dk_r2 c (p + 1) = .ok (x, p + 1 + 2)) : decode c p = .ok (.invokespecial x, 3) := dk_op1 rfl h rfl hx
theorem dk_o3 {c : ByteArray} {p : Nat} (h : dk_r1 c p = .ok (76, p + 1)) : decode c p = .ok (.astore_n 1, 1) := dk_op0 rfl h rfl
theorem dk_o4 {c : ByteArray} {p : Nat} (h : dk_r1 c p = .ok (77, p + 1)) : decode c p = .ok (.astore_n 2, 1) := dk_op0 rfl h rfl
theorem dk_o5 {c : ByteArray} {p : Nat} (h : dk_r1 c p = .ok (78, p + 1)) : decode c p = .ok (.astore_n 3, 1) := dk_op0 rfl h rfl
theorem dk_o6 {c : ByteArray} {p : Nat} (h : dk_r1 c p = .ok (3, p + 1)) : decode c p = .ok (.iconst 0, 1) := dk_op0 rfl h rfl
theorem dk_o7 {c : ByteArray} {p : Nat} {x : Nat} (h : dk_r1 c p = .ok (54, p + 1)) (hx : dk_r1 c (p + 1) = .ok (x, p + 1 + 1)) : decode c p = .ok (.istore x, 2) := dk_op1 rfl h rfl hx
theorem dk_o8 {c : ByteArray} {p : Nat} {x : Nat} (h : dk_r1 c p = .ok (21, p + 1)) (hx : dk_r1 c (p + 1) = .ok (x, p + 1 + 1)) : decode c p = .ok (.iload x, 2) := dk_op1 rfl h rfl hx
theorem dk_o9 {c : ByteArray} {p : Nat} (h : dk_r1 c p = .ok (42, p + 1)) : decode c p = .ok (.aload_n 0, 1) := dk_op0 rfl h rfl
theorem dk_o10 {c : ByteArray} {p : Nat} (h : dk_r1 c p = .ok (190, p + 1)) : decode c p = .ok (.arraylength, 1) := dk_op0 rfl h rfl
theorem dk_o11 {c : ByteArray} {p : Nat} {x : Int} (h : dk_r1 c p = .ok (16, p + 1)) (hx : dk_t1 c (p + 1) = .ok (x, p + 1 + 1)) : decode c p = .ok (.bipush x, 2) := dk_op1 rfl h rfl hx
theorem dk_o12 {c : ByteArray} {p : Nat} (h : dk_r1 c p = .ok (100, p + 1)) : decode c p = .ok (.isub, 1) := dk_op0 rfl h rfl
theorem dk_o13 {c : ByteArray} {p : Nat} {x : Int} (h : dk_r1 c p = .ok (163, p + 1)) (hx : dk_t2 c (p + 1) = .ok (x, p + 1 + 2)) : decode c p = .ok (.if_icmp .gt x, 3) := dk_op1 rfl h rfl hx
theorem dk_o14 {c : ByteArray} {p : Nat} (h : dk_r1 c p = .ok (46, p + 1)) : decode c p = .ok (.iaload, 1) := dk_op0 rfl h rfl
theorem dk_o15 {c : ByteArray} {p : Nat} (h : dk_r1 c p = .ok (126, p + 1)) : decode c p = .ok (.iand, 1) := dk_op0 rfl h rfl
theorem dk_o16 {c : ByteArray} {p : Nat} (h : dk_r1 c p = .ok (43, p + 1)) : decode c p = .ok (.aload_n 1, 1) := dk_op0 rfl h rfl
theorem dk_o17 {c : ByteArray} {p : Nat} (h : dk_r1 c p = .ok (4, p + 1)) : decode c p = .ok (.iconst 1, 1) := dk_op0 rfl h rfl
theorem dk_o18 {c : ByteArray} {p : Nat} (h : dk_r1 c p = .ok (96, p + 1)) : decode c p = .ok (.iadd, 1) := dk_op0 rfl h rfl
theorem dk_o19 {c : ByteArray} {p : Nat} (h : dk_r1 c p = .ok (5, p + 1)) : decode c p = .ok (.iconst 2, 1) := dk_op0 rfl h rfl
theorem dk_o20 {c : ByteArray} {p : Nat} (h : dk_r1 c p = .ok (45, p + 1)) : decode c p = .ok (.aload_n 3, 1) := dk_op0 rfl h rfl
theorem dk_o21 {c : ByteArray} {p : Nat} {x : Nat} (h : dk_r1 c p = .ok (184, p + 1)) (hx : dk_r2 c (p + 1) = .ok (x, p + 1 + 2)) : decode c p = .ok (.invokestatic x, 3) := dk_op1 rfl h rfl hx
theorem dk_o22 {c : ByteArray} {p : Nat} (h : dk_r1 c p = .ok (44, p + 1)) : decode c p = .ok (.aload_n 2, 1) := dk_op0 rfl h rfl
theorem dk_o23 {c : ByteArray} {p : Nat} {x : Nat} (h : dk_r1 c p = .ok (182, p + 1)) (hx : dk_r2 c (p + 1) = .ok (x, p + 1 + 2)) : decode c p = .ok (.invokevirtual x, 3) := dk_op1 rfl h rfl hx
theorem dk_o24 {c : ByteArray} {p : Nat} {x : Int} (h : dk_r1 c p = .ok (167, p + 1)) (hx : dk_t2 c (p + 1) = .ok (x, p + 1 + 2)) : decode c p = .ok (.goto x, 3) := dk_op1 rfl h rfl hx
theorem dk_o25 {c : ByteArray} {p : Nat} {x : Int} (h : dk_r1 c p = .ok (153, p + 1)) (hx : dk_t2 c (p + 1) = .ok (x, p + 1 + 2)) : decode c p = .ok (.ifCond .eq x, 3) := dk_op1 rfl h rfl hx
theorem dk_o26 {c : ByteArray} {p : Nat} (h : dk_r1 c p = .ok (6, p + 1)) : decode c p = .ok (.iconst 3, 1) := dk_op0 rfl h rfl
theorem dk_o27 {c : ByteArray} {p : Nat} (h : dk_r1 c p = .ok (7, p + 1)) : decode c p = .ok (.iconst 4, 1) := dk_op0 rfl h rfl
theorem dk_o28 {c : ByteArray} {p : Nat} (h : dk_r1 c p = .ok (8, p + 1)) : decode c p = .ok (.iconst 5, 1) := dk_op0 rfl h rfl
theorem dk_o29 {c : ByteArray} {p : Nat} {x : Nat} (h : dk_r1 c p = .ok (58, p + 1)) (hx : dk_r1 c (p + 1) = .ok (x, p + 1 + 1)) : decode c p = .ok (.astore x, 2) := dk_op1 rfl h rfl hx
theorem dk_o30 {c : ByteArray} {p : Nat} (h : dk_r1 c p = .ok (87, p + 1)) : decode c p = .ok (.pop, 1) := dk_op0 rfl h rfl
theorem dk_o31 {c : ByteArray} {p : Nat} (h : dk_r1 c p = .ok (148, p + 1)) : decode c p = .ok (.lcmp, 1) := dk_op0 rfl h rfl
theorem dk_o32 {c : ByteArray} {p : Nat} (h : dk_r1 c p = .ok (172, p + 1)) : decode c p = .ok (.ireturn, 1) := dk_op0 rfl h rfl
end ZDk
