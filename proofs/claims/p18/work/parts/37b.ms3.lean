section ZMc
variable {G : z_G} {l : Launch}
theorem cl_val (hl : l.stackTraces = false) (w : z_W) (x : Int32) : z_Con G l mJ6_valueOf_2dffe 12 1 1 w [.int x] (fun v w9 => v = some (.float x.toUInt32) ∧ w9 = w) (fun _ _ => False) :=
  z_weak (z_frame (w := w) [] rfl (by decide) (Nat.le_of_ble_eq_true rfl) (c_J6_valueOf_2dffe hl x)) (fun v w' h => by obtain ⟨_, _, ⟨rfl, rfl⟩, rfl, rfl⟩ := h; exact ⟨rfl, rfl⟩) (fun _ _ h => h)
theorem cl_sizeB (hl : l.stackTraces = false) (w : z_W) (ρ a : Nat) (mo : Int32) (B : List UInt32) (h : z_li w ρ a mo (z_bx B)) : z_Con G l mJx4a65c_size_8abf5 10 0 0 w [.ref a] (fun v w9 => (∃ n, v = some (.int (nI n)) ∧ n = B.length) ∧ w9 = w) (fun _ _ => False) :=
  z_weak (cl_size hl w ρ a mo _ h) (fun v w' h => ⟨⟨_, h.1, z_bx_len⟩, h.2⟩) (fun _ _ h => h)
theorem cl_sizeR (hl : l.stackTraces = false) (w : z_W) (ρ a : Nat) (mo : Int32) (P : List Nat) (h : z_li w ρ a mo (z_rs P)) : z_Con G l mJx4a65c_size_8abf5 10 0 0 w [.ref a] (fun v w9 => (∃ n, v = some (.int (nI n)) ∧ n = P.length) ∧ w9 = w) (fun _ _ => False) :=
  z_weak (cl_size hl w ρ a mo _ h) (fun v w' h => ⟨⟨_, h.1, z_rs_len⟩, h.2⟩) (fun _ _ h => h)
theorem z_rs_ex {P : List Nat} {k : Nat} (h : k < P.length) : ∃ p, p ∈ P ∧ (z_rs P)[k]? = some (.ref p) ∧ P[k]? = some p := ⟨P[k]'h, List.getElem_mem h, z_rs_get h, List.getElem?_eq_getElem h⟩
def z_rec (B : List UInt32) (x : Int32) : List UInt32 := if (B ++ [x.toUInt32]).length ≤ 10 then B ++ [x.toUInt32] else (B ++ [x.toUInt32]).eraseIdx 0
def z_sx (s s9 : z_Z) : Prop := s9.1 = s.1 ∧ z_qr s9 = z_qr s ∧ z_qf s9 = z_qf s ∧ z_qc s9 = z_qc s ∧ z_qt s9 = z_qt s ∧ z_qp s9 = z_qp s ∧ z_qw s9 = z_qw s ∧ z_qk s9 = z_qk s
theorem z_le10 {n : Nat} (hn : n < 2147483648) (h : nI n ≤ 10) : n ≤ 10 := (nI_leI (a := n) (b := 10) hn (by omega)).mp h
theorem z_gt10 {n : Nat} (hn : n < 2147483648) (h : ¬ nI n ≤ 10) : ¬ n ≤ 10 := fun z => h ((nI_leI (a := n) (b := 10) hn (by omega)).mpr z)
end ZMc
