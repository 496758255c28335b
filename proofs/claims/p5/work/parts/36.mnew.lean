section ZM0
section ZMn
variable {G : z_G} {l : Launch} {y : z_M} {S : z_S} {pc : Nat} {lo : List (Nat × Value)} {st : List Value} {w w' : z_W} {kc ks : Nat}
theorem z_inn (cc : ClassId) : Jvm.Free.Multi.innerC cc 7 (.int 0) = arrV cc 7 (fun _ => .int 0) := by
  show ({ cls := cc, slots := Array.replicate 7 (.int 0), vm := .none } : Cell) = _
  rw [arrV_new]
theorem z_out3 (cc : ClassId) (h0 : Nat) : Jvm.Free.Multi.outerC cc 3 h0 3 = arrV cc 3 (fun j => if j < 3 then .ref (h0 + 1 + j) else .null) := by
  rw [vr_outer]
  refine congrArg (arrV cc 3) (funext fun j => ?_)
  by_cases h : j < 3
  · rw [if_pos h, if_pos h]; rfl
  · rw [if_neg h, if_neg h]; rfl
set_option maxHeartbeats 4000000 in
theorem j_mnew {idx a b c d : Nat} (hd : decode y.2.1 pc = .ok (.multianewarray idx 2, 4)) (hcl : Cond.classLink y.1.cls idx "[[I" ∈ z_tbl) (hov : Cond.arrayOver (.array .int) ∈ z_nst) (har : Cond.arrayClass .int ∈ z_tbl)
    (ha : 1000 ≤ a) (hb : 1000 ≤ b) (hc : 1000 ≤ c) (hd9 : 1000 ≤ d) (fa : z_g w a = none) (fb : z_g w b = none) (fc : z_g w c = none) (fd : z_g w d = none) (nab : b ≠ a) (nac : c ≠ a) (nad : d ≠ a) (nbc : c ≠ b) (nbd : d ≠ b) (ncd : d ≠ c)
    (hcs : kc + (1 + 3) ≤ S.2.1) (hss : ks + (3 + 3 * 7) ≤ S.2.2.1)
    (h : z_J G l y S (pc + 4) lo (.ref a :: st) (z_s (z_s (z_s (z_s (z_s w a (.inl (8, 3, fun _ => .null))) b (.inl (0, 7, fun _ => .int 0))) c (.inl (0, 7, fun _ => .int 0))) d (.inl (0, 7, fun _ => .int 0))) a (.inl (8, 3, z_u (z_u (z_u (fun _ => .null) 0 (.ref b)) 1 (.ref c)) 2 (.ref d)))) (kc + 1 + 3) (ks + 3 + 3 * 7)) : z_J G l y S pc lo (.int 7 :: .int 3 :: st) w kc ks := by
  intro p e s m args below meth c9 R0 hok R H locs ls cst hat hlo hst
  obtain ⟨v1, cs1, rfl, e1, hst1⟩ := z_Lc hst
  obtain ⟨v2, cs2, rfl, e2, hst2⟩ := z_Lc hst1
  have e1 : v1 = .int 7 := e1
  have e2 : v2 = .int 3 := e2
  subst e1 e2
  have hok2 := hok
  obtain ⟨hx, hbc, -, -, -, hown, hts, henv, -, hbs, -⟩ := hok2
  obtain ⟨hO8, hR8⟩ := henv.2.1 8 _ rfl
  obtain ⟨hO0, hR0⟩ := henv.2.1 0 _ rfl
  have g8 := z_RAf hR8
  have g0 := z_RAf hR0
  intro T hT X
  obtain ⟨vm₁, cA, comp, -, fA, fC, -, -, X', step⟩ := X.multianewarray2F hx (ty := .int) hown (hts _ hcl) (show (Cond.arrayOver (.array .int)).before args s = true from henv.2.2.1 _ hov) (hts _ har) (g := F0 m pc ls (.int 7 :: .int 3 :: cs2)) rfl (by rw [hbc]; exact hd) rfl (by decide) (by decide) (by decide) (by decide) (by decide) rfl rfl hcs hss
  have ea : cA = z_dA G 8 := Option.some.inj (fA.symm.trans g8)
  have eb : comp = z_dA G 0 := Option.some.inj (fC.symm.trans g0)
  subst ea eb
  have n3 : ((3 : Int32)).toNatClampNeg = 3 := by decide
  have n7 : ((7 : Int32)).toNatClampNeg = 7 := by decide
  rw [n3, n7] at X' step
  have hTh : (T.setVm vm₁).heap = H := hT
  generalize hF : Jvm.Free.Multi.fill (T.setVm vm₁) (z_dA G 8) (z_dA G 0) 3 7 (defaultValue .int) 3 = F at X' step
  obtain ⟨f1, f2, -, -⟩ := Jvm.Free.Multi.fill_facts (T.setVm vm₁) (z_dA G 8) (z_dA G 0) 3 7 (defaultValue .int) 3
  rw [hF, hTh] at f1 f2
  have hold : ∀ x : Nat, x < H.size → F.heap[x]? = H[x]? := fun x hx => by
    have := Jvm.Free.Multi.fill_old (T.setVm vm₁) (z_dA G 8) (z_dA G 0) 3 7 (defaultValue .int) (a := x) (by rw [hTh]; exact hx) 3
    rw [hF, hTh] at this
    exact this
  have hrow : ∀ j : Nat, j < 3 → F.heap[H.size + 1 + j]? = some (arrV (z_dA G 0) 7 (fun _ => .int 0)) := fun j hj => by
    have := Jvm.Free.Multi.fill_inner (T.setVm vm₁) (z_dA G 8) (z_dA G 0) 3 7 (defaultValue .int) 3 j hj
    rw [hF, hTh] at this
    exact this.trans (congrArg some (z_inn _))
  rw [z_out3] at f2
  have wa := z_alW (e := .inl (8, 3, fun _ => .null)) fa ha
  have fb1 : z_g (z_s w a (.inl (8, 3, fun _ => .null))) b = none := by rw [z_gs_ne nab]; exact fb
  have wb := z_alW (e := .inl (0, 7, fun _ => .int 0)) fb1 hb
  have fc1 : z_g (z_s (z_s w a (.inl (8, 3, fun _ => .null))) b (.inl (0, 7, fun _ => .int 0))) c = none := by rw [z_gs_ne nbc, z_gs_ne nac]; exact fc
  have wc := z_alW (e := .inl (0, 7, fun _ => .int 0)) fc1 hc
  have fd1 : z_g (z_s (z_s (z_s w a (.inl (8, 3, fun _ => .null))) b (.inl (0, 7, fun _ => .int 0))) c (.inl (0, 7, fun _ => .int 0))) d = none := by rw [z_gs_ne ncd, z_gs_ne nbd, z_gs_ne nad]; exact fd
  have wd := z_alW (e := .inl (0, 7, fun _ => .int 0)) fd1 hd9
  have hat1 := z_alloc hbs hat wa.1 wa.2 (H' := H.push (arrV (z_dA G 8) 3 (fun _ => .null))) (Array.size_push _) (fun q hq => by rw [Array.getElem?_push, if_neg (Nat.ne_of_lt hq)]) ⟨fun _ => .null, Array.getElem?_push_size, fun _ _ => rfl⟩
  have s1 : (H.push (arrV (z_dA G 8) 3 (fun _ => .null))).size = H.size + 1 := Array.size_push _
  generalize hP1 : H.push (arrV (z_dA G 8) 3 (fun _ => .null)) = P1 at hat1 s1
  have hat2 := z_alloc hbs hat1 wb.1 wb.2 (H' := P1.push (arrV (z_dA G 0) 7 (fun _ => .int 0))) (Array.size_push _) (fun q hq => by rw [Array.getElem?_push, if_neg (Nat.ne_of_lt hq)]) ⟨fun _ => .int 0, Array.getElem?_push_size, fun _ _ => rfl⟩
  have s2 : (P1.push (arrV (z_dA G 0) 7 (fun _ => .int 0))).size = P1.size + 1 := Array.size_push _
  generalize hP2 : P1.push (arrV (z_dA G 0) 7 (fun _ => .int 0)) = P2 at hat2 s2
  have hat3 := z_alloc hbs hat2 wc.1 wc.2 (H' := P2.push (arrV (z_dA G 0) 7 (fun _ => .int 0))) (Array.size_push _) (fun q hq => by rw [Array.getElem?_push, if_neg (Nat.ne_of_lt hq)]) ⟨fun _ => .int 0, Array.getElem?_push_size, fun _ _ => rfl⟩
  have s3 : (P2.push (arrV (z_dA G 0) 7 (fun _ => .int 0))).size = P2.size + 1 := Array.size_push _
  generalize hP3 : P2.push (arrV (z_dA G 0) 7 (fun _ => .int 0)) = P3 at hat3 s3
  have hat4 := z_alloc hbs hat3 wd.1 wd.2 (H' := P3.push (arrV (z_dA G 0) 7 (fun _ => .int 0))) (Array.size_push _) (fun q hq => by rw [Array.getElem?_push, if_neg (Nat.ne_of_lt hq)]) ⟨fun _ => .int 0, Array.getElem?_push_size, fun _ _ => rfl⟩
  have s4 : (P3.push (arrV (z_dA G 0) 7 (fun _ => .int 0))).size = P3.size + 1 := Array.size_push _
  generalize hP4 : P3.push (arrV (z_dA G 0) 7 (fun _ => .int 0)) = P4 at hat4 s4
  have vV : ∀ v cv, z_V G R w v cv → z_V G ((fun m => if m = d then P3.size else (fun m => if m = c then P2.size else (fun m => if m = b then P1.size else (fun m => if m = a then H.size else R.1 m) m) m) m), R.2) _ v cv := fun v cv hv => z_Va (q := P3.size) wd.1 wd.2 v cv (z_Va (q := P2.size) wc.1 wc.2 v cv (z_Va (q := P1.size) wb.1 wb.2 v cv (z_Va (q := H.size) wa.1 wa.2 v cv hv)))
  generalize hw4 : z_s (z_s (z_s (z_s w a (.inl (8, 3, fun _ => .null))) b (.inl (0, 7, fun _ => .int 0))) c (.inl (0, 7, fun _ => .int 0))) d (.inl (0, 7, fun _ => .int 0)) = w4 at hat4 h vV
  have ga : z_g w4 a = some (.inl (8, 3, fun _ => .null)) := by rw [← hw4, z_gs_ne (Ne.symm nad), z_gs_ne (Ne.symm nac), z_gs_ne (Ne.symm nab)]; exact wa.2.1
  have gb : z_d w4 b := ⟨.inl (0, 7, fun _ => .int 0), by rw [← hw4, z_gs_ne (Ne.symm nbd), z_gs_ne (Ne.symm nbc)]; exact wb.2.1⟩
  have gc : z_d w4 c := ⟨.inl (0, 7, fun _ => .int 0), by rw [← hw4, z_gs_ne (Ne.symm ncd)]; exact wc.2.1⟩
  have gd : z_d w4 d := ⟨.inl (0, 7, fun _ => .int 0), by rw [← hw4]; exact wd.2.1⟩
  generalize hR4 : (((fun m => if m = d then P3.size else (fun m => if m = c then P2.size else (fun m => if m = b then P1.size else (fun m => if m = a then H.size else R.1 m) m) m) m) : Nat → Nat), R.2) = R4 at hat4
  have ra : R4.1 a = H.size := by rw [← hR4]; simp [Ne.symm nad, Ne.symm nac, Ne.symm nab]
  have rb : R4.1 b = H.size + 1 := by rw [← hR4]; simp [Ne.symm nbd, Ne.symm nbc, s1]
  have rc : R4.1 c = H.size + 1 + 1 := by rw [← hR4]; simp [Ne.symm ncd, s1, s2]
  have rd : R4.1 d = H.size + 1 + 2 := by rw [← hR4]; simp [s1, s2, s3]
  have hq4 : ∀ q : Nat, q ≠ H.size → F.heap[q]? = P4[q]? := fun q hq => by
    rw [← hP4, ← hP3, ← hP2, ← hP1]
    rcases Nat.lt_trichotomy q H.size with h1 | h1 | h1
    · rw [hold q h1, Array.getElem?_push, if_neg (by simp; omega), Array.getElem?_push, if_neg (by simp; omega), Array.getElem?_push, if_neg (by simp; omega), Array.getElem?_push, if_neg (by omega)]
    · exact absurd h1 hq
    · by_cases h2 : q < H.size + 4
      · obtain ⟨j, hj, rfl⟩ : ∃ j, j < 3 ∧ q = H.size + 1 + j := ⟨q - (H.size + 1), by omega, by omega⟩
        rw [hrow j hj]
        rcases (by omega : j = 0 ∨ j = 1 ∨ j = 2) with rfl | rfl | rfl
        · rw [Array.getElem?_push, if_neg (by simp <;> omega), Array.getElem?_push, if_neg (by simp), Array.getElem?_push, if_pos (by simp)]
        · rw [Array.getElem?_push, if_neg (by simp), Array.getElem?_push, if_pos (by simp)]
        · rw [Array.getElem?_push, if_pos (by simp)]
      · rw [Array.getElem?_eq_none (by rw [f1]; omega), Array.getElem?_eq_none (by simp; omega)]
  have hat5 := z_writeM (H' := F.heap) (L := []) (e := .inl (8, 3, z_u (z_u (z_u (fun _ => .null) 0 (.ref b)) 1 (.ref c)) 2 (.ref d))) hat4 ga (by rw [f1]; omega) (fun q hq => hq4 q (by rw [← ra]; exact hq)) ⟨fun j => if j < 3 then .ref (H.size + 1 + j) else .null, by rw [ra]; exact f2, fun j hj => by
    have hdd : ∀ n, z_d (z_s w4 a (.inl (8, 3, z_u (z_u (z_u (fun _ => .null) 0 (.ref b)) 1 (.ref c)) 2 (.ref d)))) n ↔ z_d w4 n := z_ds ga
    match j, hj with
    | 0, _ => exact ⟨(hdd b).mpr gb, by rw [rb]; rfl⟩
    | 1, _ => exact ⟨(hdd c).mpr gc, by rw [rc]; rfl⟩
    | 2, _ => exact ⟨(hdd d).mpr gd, by rw [rd]; rfl⟩⟩ (fun x hx => by cases hx)
  rw [List.append_nil] at hat5
  have vV5 : ∀ v cv, z_V G R w v cv → z_V G R4 (z_s w4 a (.inl (8, 3, z_u (z_u (z_u (fun _ => .null) 0 (.ref b)) 1 (.ref c)) 2 (.ref d)))) v cv := fun v cv hv => z_Vs ga v cv (by rw [← hR4]; exact vV v cv hv)
  obtain ⟨t, t1, t2⟩ := h p e s m args below meth c9 R0 hok R4 F.heap locs ls (.ref H.size :: cs2) hat5 (z_lom vV5 hlo) ⟨⟨(z_ds ga a).mpr ⟨_, ga⟩, by rw [ra]⟩, z_Lm vV5 hst2⟩ F rfl X'
  refine ⟨t, step t ?_, t2⟩
  have e9 : T.heap.size = H.size := by rw [hT]
  rw [e9]
  exact t1
end ZMn
end ZM0
section ZM1
section ZMs
def z_fu {α : Type} (f : Nat → α) (k : Nat) (x : α) : Nat → α := fun j => cond (Nat.beq j k) x (f j)
theorem z_fu_self {α : Type} {f : Nat → α} {k : Nat} {x : α} : z_fu f k x k = x := by unfold z_fu; rw [Nat.beq_refl]; rfl
theorem z_fu_ne {α : Type} {f : Nat → α} {k j : Nat} {x : α} (h : j ≠ k) : z_fu f k x j = f j := by unfold z_fu; rw [z_beq h]; rfl
abbrev z_Z : Type := (Int32 × Int32 × Int32) × (Int32 × (Nat → Nat)) × (Nat → Int32) × (Nat → Nat → Int32) × Int32 × (Nat → Int32 × Int32 × Int32 × Int32) × (Nat → Int32 × List Nat) × (Nat → Int32 × List UInt32) × (Nat → Int32 × List UInt32) × (Nat → Nat → Int32)
abbrev z_qr (s : z_Z) := s.2.1
abbrev z_qf (s : z_Z) := s.2.2.1
abbrev z_qc (s : z_Z) := s.2.2.2.1
abbrev z_qt (s : z_Z) := s.2.2.2.2.1
abbrev z_qh (s : z_Z) := s.2.2.2.2.2.1
abbrev z_qp (s : z_Z) := s.2.2.2.2.2.2.1
abbrev z_ql (s : z_Z) := s.2.2.2.2.2.2.2.1
abbrev z_qw (s : z_Z) := s.2.2.2.2.2.2.2.2.1
abbrev z_qk (s : z_Z) := s.2.2.2.2.2.2.2.2.2
abbrev z_tm (s : z_Z) (x : Int32 × Int32 × Int32) : z_Z := (x, s.2)
abbrev z_tr (s : z_Z) (x : Int32 × (Nat → Nat)) : z_Z := (s.1, x, s.2.2)
abbrev z_tf (s : z_Z) (x : Nat → Int32) : z_Z := (s.1, s.2.1, x, s.2.2.2)
abbrev z_tc (s : z_Z) (x : Nat → Nat → Int32) : z_Z := (s.1, s.2.1, s.2.2.1, x, s.2.2.2.2)
abbrev z_th (s : z_Z) (x : Nat → Int32 × Int32 × Int32 × Int32) : z_Z := (s.1, s.2.1, s.2.2.1, s.2.2.2.1, s.2.2.2.2.1, x, s.2.2.2.2.2.2)
abbrev z_tp (s : z_Z) (x : Nat → Int32 × List Nat) : z_Z := (s.1, s.2.1, s.2.2.1, s.2.2.2.1, s.2.2.2.2.1, s.2.2.2.2.2.1, x, s.2.2.2.2.2.2.2)
abbrev z_tl (s : z_Z) (x : Nat → Int32 × List UInt32) : z_Z := (s.1, s.2.1, s.2.2.1, s.2.2.2.1, s.2.2.2.2.1, s.2.2.2.2.2.1, s.2.2.2.2.2.2.1, x, s.2.2.2.2.2.2.2.2)
abbrev z_tw (s : z_Z) (x : Nat → Int32 × List UInt32) : z_Z := (s.1, s.2.1, s.2.2.1, s.2.2.2.1, s.2.2.2.2.1, s.2.2.2.2.2.1, s.2.2.2.2.2.2.1, s.2.2.2.2.2.2.2.1, x, s.2.2.2.2.2.2.2.2.2)
abbrev z_tk (s : z_Z) (x : Nat → Nat → Int32) : z_Z := (s.1, s.2.1, s.2.2.1, s.2.2.2.1, s.2.2.2.2.1, s.2.2.2.2.2.1, s.2.2.2.2.2.2.1, s.2.2.2.2.2.2.2.1, s.2.2.2.2.2.2.2.2.1, x)
def z_bx (B : List UInt32) : List Value := B.map Value.float
def z_rs (P : List Nat) : List Value := P.map Value.ref
theorem z_bx_len {B : List UInt32} : (z_bx B).length = B.length := List.length_map ..
theorem z_rs_len {P : List Nat} : (z_rs P).length = P.length := List.length_map ..
theorem z_bx_get {B : List UInt32} {j : Nat} (h : j < B.length) : (z_bx B)[j]? = some (.float (B[j]'h)) := by unfold z_bx; rw [List.getElem?_map, List.getElem?_eq_getElem h]; rfl
theorem z_rs_get {P : List Nat} {j : Nat} (h : j < P.length) : (z_rs P)[j]? = some (.ref (P[j]'h)) := by unfold z_rs; rw [List.getElem?_map, List.getElem?_eq_getElem h]; rfl
theorem z_bx_el {B : List UInt32} {ρ : Nat} {w : z_W} : ∀ v ∈ z_bx B, z_el ρ w v := fun v hv => by
  obtain ⟨b, -, rfl⟩ := List.mem_map.mp hv
  exact z_elF
theorem z_bx_fl {B : List UInt32} : ∀ v ∈ z_bx B, ∃ b, v = .float b := fun v hv => by
  obtain ⟨b, -, rfl⟩ := List.mem_map.mp hv
  exact ⟨b, rfl⟩
theorem z_bx_app {B : List UInt32} {b : UInt32} : z_bx B ++ [.float b] = z_bx (B ++ [b]) := by unfold z_bx; rw [List.map_append]; rfl
theorem z_bx_set {B : List UInt32} {b : UInt32} {j : Nat} : (z_bx B).set j (.float b) = z_bx (B.set j b) := by unfold z_bx; rw [List.map_set]
theorem z_erm {α β : Type} (f : α → β) : ∀ (l : List α) (j : Nat), (l.map f).eraseIdx j = (l.eraseIdx j).map f
  | [], _ => rfl
  | _ :: _, 0 => rfl
  | a :: l, j + 1 => by rw [List.map_cons, List.eraseIdx_cons_succ, List.eraseIdx_cons_succ, List.map_cons, z_erm f l j]
theorem z_bx_rem {B : List UInt32} {j : Nat} : (z_bx B).eraseIdx j = z_bx (B.eraseIdx j) := by unfold z_bx; exact z_erm _ _ _
theorem z_rs_rem {P : List Nat} {j : Nat} : (z_rs P).eraseIdx j = z_rs (P.eraseIdx j) := by unfold z_rs; exact z_erm _ _ _
theorem z_rs_ins {P : List Nat} {j p : Nat} : (z_rs P).take j ++ .ref p :: (z_rs P).drop j = z_rs (P.take j ++ p :: P.drop j) := by unfold z_rs; rw [List.map_append, List.map_cons, List.map_take, List.map_drop]
def z_c40 (s : z_Z) (w : z_W) : Prop := z_g w 1000 = some (.inr (15, [.int s.1.1, .ref 1001, .ref 1002, .ref 1003, .ref 1007, .ref 1008, .int s.1.2.1, .int s.1.2.2]))
def z_c41 (s : z_Z) (w : z_W) : Prop := z_li w 41 1001 (z_qr s).1 [.ref ((z_qr s).2 0), .ref ((z_qr s).2 1)]
def z_c42 (s : z_Z) (w : z_W) : Prop := z_g w 1002 = some (.inl (1, 2, fun j => .int (z_qf s j)))
def z_c43 (w : z_W) : Prop := ∃ f, z_g w 1003 = some (.inl (8, 3, f)) ∧ ∀ j, j < 3 → f j = .ref (1004 + j)
def z_c44 (s : z_Z) (w : z_W) (i : Nat) : Prop := z_g w (1004 + i) = some (.inl (0, 7, fun j => .int (z_qc s i j)))
def z_c47 (s : z_Z) (w : z_W) : Prop := z_li w 47 1007 (z_qt s) [.ref 1011, .ref 1012, .ref 1013]
def z_c48 (w : z_W) : Prop := ∃ f, z_g w 1008 = some (.inl (7, 2, f)) ∧ ∀ j, j < 2 → f j = .ref (1009 + j)
def z_c49 (s : z_Z) (w : z_W) (h : Nat) : Prop := z_g w (1009 + h) = some (.inr (14, [.int (z_qh s h).1, .int (z_qh s h).2.1, .int (z_qh s h).2.2.1, .int (z_qh s h).2.2.2, .ref (1014 + h)]))
def z_c51 (s : z_Z) (w : z_W) (t : Nat) : Prop := z_li w (51 + t) (1011 + t) (z_qp s t).1 (z_rs (z_qp s t).2)
def z_c54 (s : z_Z) (w : z_W) (h : Nat) : Prop := z_li w (54 + h) (1014 + h) (z_ql s h).1 (z_bx (z_ql s h).2) ∧ (z_ql s h).2.length ≤ 10
def z_c11 (s : z_Z) (w : z_W) (i : Nat) : Prop := z_li w (11 + i) ((z_qr s).2 i) (z_qw s i).1 (z_bx (z_qw s i).2) ∧ (z_qw s i).2.length ≤ 12
def z_pr (w : z_W) (ρ : Nat) (P : List Nat) (K : Nat → Nat → Int32) : Prop := (∀ p ∈ P, (1000 ≤ p ∧ p % 64 = ρ ∧ ∃ k, k < 20 ∧ K p 0 = nI k) ∧ z_g w p = some (.inl (0, 2, fun j => .int (K p j)))) ∧ (P.map fun p => K p 0).Nodup
def z_c14 (s : z_Z) (w : z_W) (t : Nat) : Prop := z_pr w (14 + t) (z_qp s t).2 (z_qk s)
def z_mst (w : z_W) (s : z_Z) : Prop := z_fn w ∧ z_c40 s w ∧ z_c41 s w ∧ z_c42 s w ∧ z_c43 w ∧ (∀ i, i < 3 → z_c44 s w i) ∧ z_c47 s w ∧ z_c48 w ∧ (∀ h, h < 2 → z_c49 s w h) ∧ (∀ t, t < 3 → z_c51 s w t) ∧ (∀ h, h < 2 → z_c54 s w h) ∧ (∀ i, i < 2 → z_c11 s w i) ∧ ∀ t, t < 3 → z_c14 s w t
section ZMa
variable {w w' : z_W} {s : z_Z}
theorem z_mst.fn (h : z_mst w s) : z_fn w := h.1
theorem z_mst.m (h : z_mst w s) : z_g w 1000 = some (.inr (15, [.int s.1.1, .ref 1001, .ref 1002, .ref 1003, .ref 1007, .ref 1008, .int s.1.2.1, .int s.1.2.2])) := h.2.1
theorem z_mst.rows (h : z_mst w s) : z_li w 41 1001 (z_qr s).1 [.ref ((z_qr s).2 0), .ref ((z_qr s).2 1)] := h.2.2.1
theorem z_mst.fx (h : z_mst w s) : z_g w 1002 = some (.inl (1, 2, fun j => .int (z_qf s j))) := h.2.2.2.1
theorem z_mst.co (h : z_mst w s) : ∃ f, z_g w 1003 = some (.inl (8, 3, f)) ∧ ∀ j, j < 3 → f j = .ref (1004 + j) := h.2.2.2.2.1
theorem z_mst.cn (h : z_mst w s) {i : Nat} (hi : i < 3) : z_g w (1004 + i) = some (.inl (0, 7, fun j => .int (z_qc s i j))) := h.2.2.2.2.2.1 i hi
theorem z_mst.tabs (h : z_mst w s) : z_li w 47 1007 (z_qt s) [.ref 1011, .ref 1012, .ref 1013] := h.2.2.2.2.2.2.1
theorem z_mst.hs (h : z_mst w s) : ∃ f, z_g w 1008 = some (.inl (7, 2, f)) ∧ ∀ j, j < 2 → f j = .ref (1009 + j) := h.2.2.2.2.2.2.2.1
theorem z_mst.hd (h : z_mst w s) {i : Nat} (hi : i < 2) : z_g w (1009 + i) = some (.inr (14, [.int (z_qh s i).1, .int (z_qh s i).2.1, .int (z_qh s i).2.2.1, .int (z_qh s i).2.2.2, .ref (1014 + i)])) := h.2.2.2.2.2.2.2.2.1 i hi
theorem z_mst.tb (h : z_mst w s) {t : Nat} (ht : t < 3) : z_li w (51 + t) (1011 + t) (z_qp s t).1 (z_rs (z_qp s t).2) := h.2.2.2.2.2.2.2.2.2.1 t ht
theorem z_mst.hl (h : z_mst w s) {i : Nat} (hi : i < 2) : z_li w (54 + i) (1014 + i) (z_ql s i).1 (z_bx (z_ql s i).2) ∧ (z_ql s i).2.length ≤ 10 := h.2.2.2.2.2.2.2.2.2.2.1 i hi
theorem z_mst.rw (h : z_mst w s) {i : Nat} (hi : i < 2) : z_li w (11 + i) ((z_qr s).2 i) (z_qw s i).1 (z_bx (z_qw s i).2) ∧ (z_qw s i).2.length ≤ 12 := h.2.2.2.2.2.2.2.2.2.2.2.1 i hi
theorem z_mst.pr (h : z_mst w s) {t : Nat} (ht : t < 3) : z_pr w (14 + t) (z_qp s t).2 (z_qk s) := h.2.2.2.2.2.2.2.2.2.2.2.2 t ht
theorem z_pr.m {ρ : Nat} {P : List Nat} {K : Nat → Nat → Int32} (hw : ∀ n, 1000 ≤ n → n % 64 = ρ → z_g w' n = z_g w n) (h : z_pr w ρ P K) : z_pr w' ρ P K := ⟨fun p hp => ⟨(h.1 p hp).1, (hw p (h.1 p hp).1.1 (h.1 p hp).1.2.1).trans (h.1 p hp).2⟩, h.2⟩
theorem z_mst.gar {γ : Nat} (h : z_mst w s) (hw : z_fw γ w w') (hγ : γ < 11 ∨ (17 ≤ γ ∧ γ < 40) ∨ 56 ≤ γ) : z_mst w' s := by
  obtain ⟨h0, h1, h2, h3, ⟨f4, h4, h4'⟩, h5, h6, ⟨f7, h7, h7'⟩, h8, h9, h10, h11, h12⟩ := h
  have k : ∀ r, r ≠ γ → ∀ n, 1000 ≤ n → n % 64 = r → z_g w' n = z_g w n := fun r hr n _ hn => hw.2.2 n (Or.inr (by omega))
  exact ⟨hw.2.1 h0, (k 40 (by omega) 1000 (by omega) (by omega)).trans h1, z_li.m (k 41 (by omega)) h2, (k 42 (by omega) 1002 (by omega) (by omega)).trans h3, ⟨f4, (k 43 (by omega) 1003 (by omega) (by omega)).trans h4, h4'⟩, fun i hi => (k (44 + i) (by omega) (1004 + i) (by omega) (by omega)).trans (h5 i hi), z_li.m (k 47 (by omega)) h6, ⟨f7, (k 48 (by omega) 1008 (by omega) (by omega)).trans h7, h7'⟩, fun i hi => (k (49 + i) (by omega) (1009 + i) (by omega) (by omega)).trans (h8 i hi), fun t ht => z_li.m (k (51 + t) (by omega)) (h9 t ht), fun i hi => ⟨z_li.m (k (54 + i) (by omega)) (h10 i hi).1, (h10 i hi).2⟩, fun i hi => ⟨z_li.m (k (11 + i) (by omega)) (h11 i hi).1, (h11 i hi).2⟩, fun t ht => z_pr.m (k (14 + t) (by omega)) (h12 t ht)⟩
theorem z_mst.up40 {a b c : Int32} (h : z_mst w s) (hw : z_fw 40 w w') (u : z_g w' 1000 = some (.inr (15, [.int a, .ref 1001, .ref 1002, .ref 1003, .ref 1007, .ref 1008, .int b, .int c]))) : z_mst w' (z_tm s (a, b, c)) := by
  obtain ⟨h0, h1, h2, h3, ⟨f4, h4, h4'⟩, h5, h6, ⟨f7, h7, h7'⟩, h8, h9, h10, h11, h12⟩ := h
  have k : ∀ r, r ≠ 40 → ∀ n, 1000 ≤ n → n % 64 = r → z_g w' n = z_g w n := fun r hr n _ hn => hw.2.2 n (Or.inr (by omega))
  exact ⟨hw.2.1 h0, u, z_li.m (k 41 (by omega)) h2, (k 42 (by omega) 1002 (by omega) (by omega)).trans h3, ⟨f4, (k 43 (by omega) 1003 (by omega) (by omega)).trans h4, h4'⟩, fun i hi => (k (44 + i) (by omega) (1004 + i) (by omega) (by omega)).trans (h5 i hi), z_li.m (k 47 (by omega)) h6, ⟨f7, (k 48 (by omega) 1008 (by omega) (by omega)).trans h7, h7'⟩, fun i hi => (k (49 + i) (by omega) (1009 + i) (by omega) (by omega)).trans (h8 i hi), fun t ht => z_li.m (k (51 + t) (by omega)) (h9 t ht), fun i hi => ⟨z_li.m (k (54 + i) (by omega)) (h10 i hi).1, (h10 i hi).2⟩, fun i hi => ⟨z_li.m (k (11 + i) (by omega)) (h11 i hi).1, (h11 i hi).2⟩, fun t ht => z_pr.m (k (14 + t) (by omega)) (h12 t ht)⟩
theorem z_mst.up42 {F : Nat → Int32} (h : z_mst w s) (hw : z_fw 42 w w') (u : z_g w' 1002 = some (.inl (1, 2, fun j => .int (F j)))) : z_mst w' (z_tf s F) := by
  obtain ⟨h0, h1, h2, h3, ⟨f4, h4, h4'⟩, h5, h6, ⟨f7, h7, h7'⟩, h8, h9, h10, h11, h12⟩ := h
  have k : ∀ r, r ≠ 42 → ∀ n, 1000 ≤ n → n % 64 = r → z_g w' n = z_g w n := fun r hr n _ hn => hw.2.2 n (Or.inr (by omega))
  exact ⟨hw.2.1 h0, (k 40 (by omega) 1000 (by omega) (by omega)).trans h1, z_li.m (k 41 (by omega)) h2, u, ⟨f4, (k 43 (by omega) 1003 (by omega) (by omega)).trans h4, h4'⟩, fun i hi => (k (44 + i) (by omega) (1004 + i) (by omega) (by omega)).trans (h5 i hi), z_li.m (k 47 (by omega)) h6, ⟨f7, (k 48 (by omega) 1008 (by omega) (by omega)).trans h7, h7'⟩, fun i hi => (k (49 + i) (by omega) (1009 + i) (by omega) (by omega)).trans (h8 i hi), fun t ht => z_li.m (k (51 + t) (by omega)) (h9 t ht), fun i hi => ⟨z_li.m (k (54 + i) (by omega)) (h10 i hi).1, (h10 i hi).2⟩, fun i hi => ⟨z_li.m (k (11 + i) (by omega)) (h11 i hi).1, (h11 i hi).2⟩, fun t ht => z_pr.m (k (14 + t) (by omega)) (h12 t ht)⟩
theorem z_mst.up44 {i0 : Nat} {F : Nat → Int32} (h : z_mst w s) (hi0 : i0 < 3) (hw : z_fw (44 + i0) w w') (u : z_g w' (1004 + i0) = some (.inl (0, 7, fun j => .int (F j)))) : z_mst w' (z_tc s (z_fu (z_qc s) i0 F)) := by
  obtain ⟨h0, h1, h2, h3, ⟨f4, h4, h4'⟩, h5, h6, ⟨f7, h7, h7'⟩, h8, h9, h10, h11, h12⟩ := h
  have k : ∀ r, r ≠ 44 + i0 → ∀ n, 1000 ≤ n → n % 64 = r → z_g w' n = z_g w n := fun r hr n _ hn => hw.2.2 n (Or.inr (by omega))
  exact ⟨hw.2.1 h0, (k 40 (by omega) 1000 (by omega) (by omega)).trans h1, z_li.m (k 41 (by omega)) h2, (k 42 (by omega) 1002 (by omega) (by omega)).trans h3, ⟨f4, (k 43 (by omega) 1003 (by omega) (by omega)).trans h4, h4'⟩, fun i hi => (by
    show z_g w' (1004 + i) = some (.inl (0, 7, fun j => .int (z_fu (z_qc s) i0 F i j)))
    by_cases hii : i = i0
    · subst hii; rw [z_fu_self]; exact u
    · rw [z_fu_ne hii]; exact (k (44 + i) (by omega) (1004 + i) (by omega) (by omega)).trans (h5 i hi)), z_li.m (k 47 (by omega)) h6, ⟨f7, (k 48 (by omega) 1008 (by omega) (by omega)).trans h7, h7'⟩, fun i hi => (k (49 + i) (by omega) (1009 + i) (by omega) (by omega)).trans (h8 i hi), fun t ht => z_li.m (k (51 + t) (by omega)) (h9 t ht), fun i hi => ⟨z_li.m (k (54 + i) (by omega)) (h10 i hi).1, (h10 i hi).2⟩, fun i hi => ⟨z_li.m (k (11 + i) (by omega)) (h11 i hi).1, (h11 i hi).2⟩, fun t ht => z_pr.m (k (14 + t) (by omega)) (h12 t ht)⟩
theorem z_mst.up49 {i0 : Nat} {a b c d : Int32} (h : z_mst w s) (hi0 : i0 < 2) (hw : z_fw (49 + i0) w w') (u : z_g w' (1009 + i0) = some (.inr (14, [.int a, .int b, .int c, .int d, .ref (1014 + i0)]))) : z_mst w' (z_th s (z_fu (z_qh s) i0 (a, b, c, d))) := by
  obtain ⟨h0, h1, h2, h3, ⟨f4, h4, h4'⟩, h5, h6, ⟨f7, h7, h7'⟩, h8, h9, h10, h11, h12⟩ := h
  have k : ∀ r, r ≠ 49 + i0 → ∀ n, 1000 ≤ n → n % 64 = r → z_g w' n = z_g w n := fun r hr n _ hn => hw.2.2 n (Or.inr (by omega))
  exact ⟨hw.2.1 h0, (k 40 (by omega) 1000 (by omega) (by omega)).trans h1, z_li.m (k 41 (by omega)) h2, (k 42 (by omega) 1002 (by omega) (by omega)).trans h3, ⟨f4, (k 43 (by omega) 1003 (by omega) (by omega)).trans h4, h4'⟩, fun i hi => (k (44 + i) (by omega) (1004 + i) (by omega) (by omega)).trans (h5 i hi), z_li.m (k 47 (by omega)) h6, ⟨f7, (k 48 (by omega) 1008 (by omega) (by omega)).trans h7, h7'⟩, fun i hi => (by
    show z_g w' (1009 + i) = some (.inr (14, [.int (z_fu (z_qh s) i0 (a, b, c, d) i).1, .int (z_fu (z_qh s) i0 (a, b, c, d) i).2.1, .int (z_fu (z_qh s) i0 (a, b, c, d) i).2.2.1, .int (z_fu (z_qh s) i0 (a, b, c, d) i).2.2.2, .ref (1014 + i)]))
    by_cases hii : i = i0
    · subst hii; rw [z_fu_self]; exact u
    · rw [z_fu_ne hii]; exact (k (49 + i) (by omega) (1009 + i) (by omega) (by omega)).trans (h8 i hi)), fun t ht => z_li.m (k (51 + t) (by omega)) (h9 t ht), fun i hi => ⟨z_li.m (k (54 + i) (by omega)) (h10 i hi).1, (h10 i hi).2⟩, fun i hi => ⟨z_li.m (k (11 + i) (by omega)) (h11 i hi).1, (h11 i hi).2⟩, fun t ht => z_pr.m (k (14 + t) (by omega)) (h12 t ht)⟩
theorem z_mst.li54 {i0 : Nat} {mo : Int32} {B : List UInt32} (h : z_mst w s) (hi0 : i0 < 2) (hw : z_fw (54 + i0) w w') (u : z_li w' (54 + i0) (1014 + i0) mo (z_bx B)) (hB : B.length ≤ 10) : z_mst w' (z_tl s (z_fu (z_ql s) i0 (mo, B))) := by
  obtain ⟨h0, h1, h2, h3, ⟨f4, h4, h4'⟩, h5, h6, ⟨f7, h7, h7'⟩, h8, h9, h10, h11, h12⟩ := h
  have k : ∀ r, r ≠ 54 + i0 → ∀ n, 1000 ≤ n → n % 64 = r → z_g w' n = z_g w n := fun r hr n _ hn => hw.2.2 n (Or.inr (by omega))
  exact ⟨hw.2.1 h0, (k 40 (by omega) 1000 (by omega) (by omega)).trans h1, z_li.m (k 41 (by omega)) h2, (k 42 (by omega) 1002 (by omega) (by omega)).trans h3, ⟨f4, (k 43 (by omega) 1003 (by omega) (by omega)).trans h4, h4'⟩, fun i hi => (k (44 + i) (by omega) (1004 + i) (by omega) (by omega)).trans (h5 i hi), z_li.m (k 47 (by omega)) h6, ⟨f7, (k 48 (by omega) 1008 (by omega) (by omega)).trans h7, h7'⟩, fun i hi => (k (49 + i) (by omega) (1009 + i) (by omega) (by omega)).trans (h8 i hi), fun t ht => z_li.m (k (51 + t) (by omega)) (h9 t ht), fun i hi => (by
    show z_li w' (54 + i) (1014 + i) (z_fu (z_ql s) i0 (mo, B) i).1 (z_bx (z_fu (z_ql s) i0 (mo, B) i).2) ∧ (z_fu (z_ql s) i0 (mo, B) i).2.length ≤ 10
    by_cases hii : i = i0
    · subst hii; rw [z_fu_self]; exact ⟨u, hB⟩
    · rw [z_fu_ne hii]; exact ⟨z_li.m (k (54 + i) (by omega)) (h10 i hi).1, (h10 i hi).2⟩), fun i hi => ⟨z_li.m (k (11 + i) (by omega)) (h11 i hi).1, (h11 i hi).2⟩, fun t ht => z_pr.m (k (14 + t) (by omega)) (h12 t ht)⟩
theorem z_mst.li11 {i0 : Nat} {mo : Int32} {B : List UInt32} (h : z_mst w s) (hi0 : i0 < 2) (hw : z_fw (11 + i0) w w') (u : z_li w' (11 + i0) ((z_qr s).2 i0) mo (z_bx B)) (hB : B.length ≤ 12) : z_mst w' (z_tw s (z_fu (z_qw s) i0 (mo, B))) := by
  obtain ⟨h0, h1, h2, h3, ⟨f4, h4, h4'⟩, h5, h6, ⟨f7, h7, h7'⟩, h8, h9, h10, h11, h12⟩ := h
  have k : ∀ r, r ≠ 11 + i0 → ∀ n, 1000 ≤ n → n % 64 = r → z_g w' n = z_g w n := fun r hr n _ hn => hw.2.2 n (Or.inr (by omega))
  exact ⟨hw.2.1 h0, (k 40 (by omega) 1000 (by omega) (by omega)).trans h1, z_li.m (k 41 (by omega)) h2, (k 42 (by omega) 1002 (by omega) (by omega)).trans h3, ⟨f4, (k 43 (by omega) 1003 (by omega) (by omega)).trans h4, h4'⟩, fun i hi => (k (44 + i) (by omega) (1004 + i) (by omega) (by omega)).trans (h5 i hi), z_li.m (k 47 (by omega)) h6, ⟨f7, (k 48 (by omega) 1008 (by omega) (by omega)).trans h7, h7'⟩, fun i hi => (k (49 + i) (by omega) (1009 + i) (by omega) (by omega)).trans (h8 i hi), fun t ht => z_li.m (k (51 + t) (by omega)) (h9 t ht), fun i hi => ⟨z_li.m (k (54 + i) (by omega)) (h10 i hi).1, (h10 i hi).2⟩, fun i hi => (by
    show z_li w' (11 + i) ((z_qr s).2 i) (z_fu (z_qw s) i0 (mo, B) i).1 (z_bx (z_fu (z_qw s) i0 (mo, B) i).2) ∧ (z_fu (z_qw s) i0 (mo, B) i).2.length ≤ 12
    by_cases hii : i = i0
    · subst hii; rw [z_fu_self]; exact ⟨u, hB⟩
    · rw [z_fu_ne hii]; exact ⟨z_li.m (k (11 + i) (by omega)) (h11 i hi).1, (h11 i hi).2⟩), fun t ht => z_pr.m (k (14 + t) (by omega)) (h12 t ht)⟩
end ZMa
end ZMs
end ZM1
section ZM2
section ZMb
def z_fm (q : Nat) (w w' : z_W) : Prop := w'.1 = w.1 ∧ ∀ n, 1000 ≤ n → q ≤ n % 64 → z_g w' n = z_g w n
theorem z_fm.rf {q : Nat} {w : z_W} : z_fm q w w := ⟨rfl, fun _ _ _ => rfl⟩
theorem z_fm.tr {q : Nat} {a b c : z_W} (h : z_fm q a b) (h2 : z_fm q b c) : z_fm q a c := ⟨h2.1.trans h.1, fun n h3 h4 => (h2.2 n h3 h4).trans (h.2 n h3 h4)⟩
theorem z_fm.le {q q' : Nat} {a b : z_W} (h : z_fm q a b) (hq : q ≤ q') : z_fm q' a b := ⟨h.1, fun n h3 h4 => h.2 n h3 (Nat.le_trans hq h4)⟩
theorem z_fw.fm {q ρ : Nat} {w w' : z_W} (h : z_fw ρ w w') (hq : ρ < q) : z_fm q w w' := ⟨h.1, fun n h3 h4 => h.2.2 n (Or.inr (by omega))⟩
theorem z_fm.g {q n : Nat} {w w' : z_W} {e : z_E} (h : z_fm q w w') (h1 : 1000 ≤ n) (h2 : q ≤ n % 64) (hg : z_g w n = some e) : z_g w' n = some e := (h.2 n h1 h2).trans hg
def z_key (s : z_Z) : Int32 × (Nat → Int32) × (Nat → Int32) := (s.1.2.2, z_qf s, fun h => (z_qh s h).1)
theorem z_ke {w : z_W} {s1 s2 : z_Z} {K : Int32 × (Nat → Int32) × (Nat → Int32)} (_ : z_mst w s2) (k : z_key s1 = K) (e : z_key s2 = z_key s1) : z_key s2 = K := e.trans k
theorem z_keH {s : z_Z} {i : Nat} {b c d : Int32} : z_key (z_th s (z_fu (z_qh s) i ((z_qh s i).1, b, c, d))) = z_key s := by
  unfold z_key
  refine congrArg (fun f => (s.1.2.2, z_qf s, f)) (funext fun h => ?_)
  show (z_fu (z_qh s) i ((z_qh s i).1, b, c, d) h).1 = (z_qh s h).1
  by_cases hh : h = i
  · subst hh; rw [z_fu_self]
  · rw [z_fu_ne hh]
theorem z_two2 {i : Nat} {f : Nat → Nat} (h : i < 2) : ([.ref (f 0), .ref (f 1)] : List Value)[i]? = some (.ref (f i)) := by
  rcases (by omega : i = 0 ∨ i = 1) with rfl | rfl <;> rfl
theorem z_thr3 {t : Nat} (h : t < 3) : ([.ref 1011, .ref 1012, .ref 1013] : List Value)[t]? = some (.ref (1011 + t)) := by
  rcases (by omega : t = 0 ∨ t = 1 ∨ t = 2) with rfl | rfl | rfl <;> rfl
theorem z_li.is {w : z_W} {ρ a : Nat} {mo : Int32} {L : List Value} (h : z_li w ρ a mo L) : z_is w (.ref a) "java/util/ArrayList" := by
  obtain ⟨v, -, hg⟩ := h.cell
  exact Or.inl ⟨_, _, hg, rfl, rfl⟩
theorem z_isA {w : z_W} {p n : Nat} {f : Nat → Value} (h : z_g w p = some (.inl (0, n, f))) : z_is w (.ref p) "[I" := Or.inr ⟨_, _, h, rfl, rfl⟩
theorem z_nat {k : Int32} {m : Nat} {a b : Int32} (ha : a = nI 0) (hb : b = nI m) (hm : m < 2147483648) (h : a ≤ k ∧ k ≤ b) : ∃ i, i < m + 1 ∧ k = nI i := by
  subst ha hb
  have h0 : (0 : Int32) ≤ k := h.1
  refine ⟨k.toNatClampNeg, ?_, ?_⟩
  · have := Int32.le_iff_toInt_le.mp h.2
    have e : (nI m).toInt = m := by
      have e9 := z_cla hm
      have p9 := nI_pos' (n := m) hm
      have := Int32.le_iff_toInt_le.mp p9
      have e0 : (0 : Int32).toInt = 0 := by decide
      rw [e0] at this
      unfold Int32.toNatClampNeg at e9
      omega
    unfold Int32.toNatClampNeg
    omega
  · have p := Int32.le_iff_toInt_le.mp h0
    have e0 : (0 : Int32).toInt = 0 := by decide
    rw [e0] at p
    have hlt : k.toNatClampNeg < 2147483648 := by
      have := Int32.toInt_lt k
      unfold Int32.toNatClampNeg
      omega
    refine Int32.toInt_inj.mp ?_
    have e9 := z_cla hlt
    have p9 := nI_pos' (n := k.toNatClampNeg) hlt
    have q9 := Int32.le_iff_toInt_le.mp p9
    rw [e0] at q9
    have e8 : (nI k.toNatClampNeg).toInt = ((nI k.toNatClampNeg).toNatClampNeg : Int) := by unfold Int32.toNatClampNeg at *; omega
    rw [e8, e9]
    unfold Int32.toNatClampNeg
    omega
def z_vl (x : Int32) : Prop := -999 ≤ x ∧ x ≤ 999
def z_mny (a b c : Int32) : Int32 := if a ≤ b then (b - a) / c + 1 else 0
end ZMb
end ZM2
section ZM3
section ZMc
variable {G : z_G} {l : Launch}
theorem cl_val (hl : l.stackTraces = false) (w : z_W) (x : Int32) : z_Con G l mJ6_valueOf_2dffe 12 1 1 w [.int x] (fun v w9 => v = some (.float x.toUInt32) ∧ w9 = w) (fun _ _ => False) :=
  z_weak (z_frame (w := w) [] rfl (by decide) (Nat.le_of_ble_eq_true rfl) (c_J6_valueOf_2dffe hl x)) (fun v w' h => by obtain ⟨_, _, ⟨rfl, rfl⟩, rfl, rfl⟩ := h; exact ⟨rfl, rfl⟩) (fun _ _ h => h)
theorem cl_sizeB (hl : l.stackTraces = false) (w : z_W) (ρ a : Nat) (mo : Int32) (B : List UInt32) (h : z_li w ρ a mo (z_bx B)) : z_Con G l mJx4a65c_size_8abf5 10 0 0 w [.ref a] (fun v w9 => (∃ n, v = some (.int (nI n)) ∧ n = B.length) ∧ w9 = w) (fun _ _ => False) :=
  z_weak (cl_size hl w ρ a mo _ h) (fun v w' h => ⟨⟨_, h.1, z_bx_len⟩, h.2⟩) (fun _ _ h => h)
theorem cl_sizeR (hl : l.stackTraces = false) (w : z_W) (ρ a : Nat) (mo : Int32) (P : List Nat) (h : z_li w ρ a mo (z_rs P)) : z_Con G l mJx4a65c_size_8abf5 10 0 0 w [.ref a] (fun v w9 => (∃ n, v = some (.int (nI n)) ∧ n = P.length) ∧ w9 = w) (fun _ _ => False) :=
  z_weak (cl_size hl w ρ a mo _ h) (fun v w' h => ⟨⟨_, h.1, z_rs_len⟩, h.2⟩) (fun _ _ h => h)
theorem z_rs_ex {P : List Nat} {k : Nat} (h : k < P.length) : ∃ p, p ∈ P ∧ (z_rs P)[k]? = some (.ref p) ∧ P[k]? = some p := ⟨P[k]'h, List.getElem_mem h, z_rs_get h, List.getElem?_eq_getElem h⟩
def z_rec (B : List UInt32) (x : Int32) : List UInt32 := if (B ++ [x.toUInt32]).length ≤ 10 then B ++ [x.toUInt32] else (B ++ [x.toUInt32]).eraseIdx 0
def z_sx (s s9 : z_Z) : Prop := s9.1 = s.1 ∧ z_qr s9 = z_qr s ∧ z_qf s9 = z_qf s ∧ z_qc s9 = z_qc s ∧ z_qt s9 = z_qt s ∧ z_qp s9 = z_qp s ∧ z_qw s9 = z_qw s ∧ z_qk s9 = z_qk s
theorem z_le10 {n : Nat} (hn : n < 2147483648) (h : nI n ≤ 10) : n ≤ 10 := (nI_leI (a := n) (b := 10) hn (by omega)).mp h
theorem z_gt10 {n : Nat} (hn : n < 2147483648) (h : ¬ nI n ≤ 10) : ¬ n ≤ 10 := fun z => h ((nI_leI (a := n) (b := 10) hn (by omega)).mpr z)
end ZMc
end ZM3
section ZM4
section ZMd
theorem j_zsto {G : z_G} {l : Launch} {y : z_M} {S : z_S} {pc : Nat} {lo : List (Nat × Value)} {st : List Value} {w w' : z_W} {kc ks a n : Nat} {f : Nat → Int32} {i x : Int32} (hd : decode y.2.1 pc = .ok (.bastore, 1)) (hg : z_g w a = some (.inl (1, n, fun j => .int (f j)))) (hin : vp_in i n) (hnr : narrow .boolean (.int x) = .int x) (hw : z_s w a (.inl (1, n, fun j => .int (z_ui f i.toNatClampNeg x j))) = w') (h : z_J G l y S (pc + 1) lo st w' kc ks) : z_J G l y S pc lo (.int x :: .int i :: .ref a :: st) w kc ks :=
  j_zast hd hg hin hnr (by rw [z_uie]; exact hw) h
theorem z_nat1 {k : Int32} {m : Nat} {b : Int32} (hb : b = nI m) (hm : m < 2147483648) (h : 1 ≤ k ∧ k ≤ b) : ∃ i, 1 ≤ i ∧ i < m + 1 ∧ k = nI i := by
  obtain ⟨i, h1, rfl⟩ := z_nat (k := k) (a := 0) rfl hb hm ⟨Int32.le_trans (by decide) h.1, h.2⟩
  exact ⟨i, (nI_leI (a := 1) (b := i) (by omega) (by omega)).mp h.1, h1, rfl⟩
theorem z_natm {k : Int32} {n : Nat} (hn : n < 2147483648) (h : 0 ≤ k ∧ k ≤ nI n - 1) : ∃ i, i < n ∧ k = nI i := by
  cases n with
  | zero => exact absurd (Int32.le_trans h.1 h.2) (by decide)
  | succ n =>
    rw [nI_pred] at h
    exact z_nat (k := k) (a := 0) rfl rfl (by omega) h
theorem z_ne0 {x : Int32} (h : 1 ≤ x) : ¬ x = 0 := fun z => by subst z; exact absurd h (by decide)
theorem z_mst.cp {w w2 w3 : z_W} {s : z_Z} {i0 x : Nat} {mo mr : Int32} {B : List UInt32} (h : z_mst w s) (hi0 : i0 < 2) (hw2 : z_fw (11 + i0) w w2) (hw3 : z_fw 41 w2 w3) (hr : z_li w3 41 1001 mr (([.ref ((z_qr s).2 0), .ref ((z_qr s).2 1)] : List Value).set i0 (.ref x))) (u : z_li w2 (11 + i0) x mo (z_bx B)) (hB : B.length ≤ 12) : z_mst w3 (z_tw (z_tr s (mr, z_fu (z_qr s).2 i0 x)) (z_fu (z_qw s) i0 (mo, B))) := by
  obtain ⟨h0, h1, h2, h3, ⟨f4, h4, h4'⟩, h5, h6, ⟨f7, h7, h7'⟩, h8, h9, h10, h11, h12⟩ := h
  have k : ∀ r, r ≠ 11 + i0 → r ≠ 41 → ∀ n, 1000 ≤ n → n % 64 = r → z_g w3 n = z_g w n := fun r hr hr2 n _ hn => (hw3.2.2 n (Or.inr (by omega))).trans (hw2.2.2 n (Or.inr (by omega)))
  exact ⟨hw3.2.1 (hw2.2.1 h0), (k 40 (by omega) (by omega) 1000 (by omega) (by omega)).trans h1, (by
    show z_li w3 41 1001 mr [.ref (z_fu (z_qr s).2 i0 x 0), .ref (z_fu (z_qr s).2 i0 x 1)]
    rcases (by omega : i0 = 0 ∨ i0 = 1) with rfl | rfl <;> exact hr), (k 42 (by omega) (by omega) 1002 (by omega) (by omega)).trans h3, ⟨f4, (k 43 (by omega) (by omega) 1003 (by omega) (by omega)).trans h4, h4'⟩, fun i hi => (k (44 + i) (by omega) (by omega) (1004 + i) (by omega) (by omega)).trans (h5 i hi), z_li.m (k 47 (by omega) (by omega)) h6, ⟨f7, (k 48 (by omega) (by omega) 1008 (by omega) (by omega)).trans h7, h7'⟩, fun i hi => (k (49 + i) (by omega) (by omega) (1009 + i) (by omega) (by omega)).trans (h8 i hi), fun t ht => z_li.m (k (51 + t) (by omega) (by omega)) (h9 t ht), fun i hi => ⟨z_li.m (k (54 + i) (by omega) (by omega)) (h10 i hi).1, (h10 i hi).2⟩, fun i hi => (by
    show z_li w3 (11 + i) (z_fu (z_qr s).2 i0 x i) (z_fu (z_qw s) i0 (mo, B) i).1 (z_bx (z_fu (z_qw s) i0 (mo, B) i).2) ∧ (z_fu (z_qw s) i0 (mo, B) i).2.length ≤ 12
    by_cases hii : i = i0
    · subst hii; rw [z_fu_self, z_fu_self]; exact ⟨u.fw hw3 (by omega), hB⟩
    · rw [z_fu_ne hii, z_fu_ne hii]; exact ⟨z_li.m (k (11 + i) (by omega) (by omega)) (h11 i hi).1, (h11 i hi).2⟩), fun t ht => z_pr.m (k (14 + t) (by omega) (by omega)) (h12 t ht)⟩
end ZMd
section ZMd2
theorem z_nodup_le : ∀ (n : Nat) (L : List Nat), L.Nodup → (∀ x ∈ L, x < n) → L.length ≤ n
  | 0, L, _, h => by
    cases L with
    | nil => exact Nat.le_refl _
    | cons a t => exact absurd (h a List.mem_cons_self) (Nat.not_lt_zero _)
  | n + 1, L, hd, h => by
    have h1 := z_nodup_le n (L.erase n) (hd.erase n) (fun x hx => by
      have h2 := h x (List.mem_of_mem_erase hx)
      have h3 : x ≠ n := fun z => by subst z; exact absurd hx (hd.not_mem_erase)
      omega)
    have h4 : L.length ≤ (L.erase n).length + 1 := by
      rw [List.length_erase]
      split <;> omega
    omega
theorem z_pr.len {w : z_W} {ρ : Nat} {P : List Nat} {K : Nat → Nat → Int32} (h : z_pr w ρ P K) : P.length ≤ 20 := by
  have h1 := z_nodup_le 20 (P.map fun p => (K p 0).toNatClampNeg) (by
    have h2 := h.2
    rw [List.Nodup, List.pairwise_map] at h2 ⊢
    refine List.Pairwise.imp_of_mem (fun {a b} ha hb hab => ?_) h2
    obtain ⟨k1, a1, a2⟩ := (h.1 a ha).1.2.2
    obtain ⟨k2, b1, b2⟩ := (h.1 b hb).1.2.2
    intro e
    rw [a2, b2, z_cla (by omega), z_cla (by omega)] at e
    exact hab (by rw [a2, b2, e])) (fun x hx => by
    obtain ⟨p, hp, rfl⟩ := List.mem_map.mp hx
    obtain ⟨k1, a1, a2⟩ := (h.1 p hp).1.2.2
    rw [a2, z_cla (by omega)]
    exact a1)
  rw [List.length_map] at h1
  exact h1
end ZMd2
end ZM4
section ZM5
section ZMe
variable {w w' : z_W} {s : z_Z}
theorem z_li.mono {ρ a : Nat} {mo : Int32} {L : List Value} (hw : ∀ (k : Nat) (e : z_E), z_g w k = some e → z_g w' k = some e) (h : z_li w ρ a mo L) : z_li w' ρ a mo L := by
  obtain ⟨h1, h2, h3, h4⟩ := h
  refine ⟨h1, h2, h3, ?_⟩
  rcases h4 with ⟨m, n, f, a1, a2, a3, a4, a5, a6⟩ | ⟨k, a1, a2, a3⟩
  · exact Or.inl ⟨m, n, f, a1, a2, a3, hw _ _ a4, hw _ _ a5, a6⟩
  · exact Or.inr ⟨k, a1, a2, hw _ _ a3⟩
theorem z_pr.mono {ρ : Nat} {P : List Nat} {K : Nat → Nat → Int32} (hw : ∀ (k : Nat) (e : z_E), z_g w k = some e → z_g w' k = some e) (h : z_pr w ρ P K) : z_pr w' ρ P K := ⟨fun p hp => ⟨(h.1 p hp).1, hw _ _ (h.1 p hp).2⟩, h.2⟩
theorem z_mst.mono (h : z_mst w s) (hw : ∀ (k : Nat) (e : z_E), z_g w k = some e → z_g w' k = some e) (hf : z_fn w') : z_mst w' s := by
  obtain ⟨h0, h1, h2, h3, ⟨f4, h4, h4'⟩, h5, h6, ⟨f7, h7, h7'⟩, h8, h9, h10, h11, h12⟩ := h
  exact ⟨hf, hw _ _ h1, z_li.mono hw h2, hw _ _ h3, ⟨f4, hw _ _ h4, h4'⟩, fun i hi => hw _ _ (h5 i hi), z_li.mono hw h6, ⟨f7, hw _ _ h7, h7'⟩, fun i hi => hw _ _ (h8 i hi), fun t ht => z_li.mono hw (h9 t ht), fun i hi => ⟨z_li.mono hw (h10 i hi).1, (h10 i hi).2⟩, fun i hi => ⟨z_li.mono hw (h11 i hi).1, (h11 i hi).2⟩, fun t ht => z_pr.mono hw (h12 t ht)⟩
theorem z_mst.li51 {t0 : Nat} {mo : Int32} {P : List Nat} (h : z_mst w s) (ht0 : t0 < 3) (hw : z_fw (51 + t0) w w') (u : z_li w' (51 + t0) (1011 + t0) mo (z_rs P)) (hp : z_pr w' (14 + t0) P (z_qk s)) : z_mst w' (z_tp s (z_fu (z_qp s) t0 (mo, P))) := by
  obtain ⟨h0, h1, h2, h3, ⟨f4, h4, h4'⟩, h5, h6, ⟨f7, h7, h7'⟩, h8, h9, h10, h11, h12⟩ := h
  have k : ∀ r, r ≠ 51 + t0 → ∀ n, 1000 ≤ n → n % 64 = r → z_g w' n = z_g w n := fun r hr n _ hn => hw.2.2 n (Or.inr (by omega))
  exact ⟨hw.2.1 h0, (k 40 (by omega) 1000 (by omega) (by omega)).trans h1, z_li.m (k 41 (by omega)) h2, (k 42 (by omega) 1002 (by omega) (by omega)).trans h3, ⟨f4, (k 43 (by omega) 1003 (by omega) (by omega)).trans h4, h4'⟩, fun i hi => (k (44 + i) (by omega) (1004 + i) (by omega) (by omega)).trans (h5 i hi), z_li.m (k 47 (by omega)) h6, ⟨f7, (k 48 (by omega) 1008 (by omega) (by omega)).trans h7, h7'⟩, fun i hi => (k (49 + i) (by omega) (1009 + i) (by omega) (by omega)).trans (h8 i hi), fun t ht => (by
    show z_li w' (51 + t) (1011 + t) (z_fu (z_qp s) t0 (mo, P) t).1 (z_rs (z_fu (z_qp s) t0 (mo, P) t).2)
    by_cases hii : t = t0
    · subst hii; rw [z_fu_self]; exact u
    · rw [z_fu_ne hii]; exact z_li.m (k (51 + t) (by omega)) (h9 t ht)), fun i hi => ⟨z_li.m (k (54 + i) (by omega)) (h10 i hi).1, (h10 i hi).2⟩, fun i hi => ⟨z_li.m (k (11 + i) (by omega)) (h11 i hi).1, (h11 i hi).2⟩, fun t ht => (by
    show z_pr w' (14 + t) (z_fu (z_qp s) t0 (mo, P) t).2 (z_qk s)
    by_cases hii : t = t0
    · subst hii; rw [z_fu_self]; exact hp
    · rw [z_fu_ne hii]; exact z_pr.m (k (14 + t) (by omega)) (h12 t ht))⟩
theorem z_mst.up14 {t0 p : Nat} {F : Nat → Int32} (h : z_mst w s) (ht0 : t0 < 3) (hp : p ∈ (z_qp s t0).2) (u : z_up w p (.inl (0, 2, fun j => .int (F j))) w') (hF : F 0 = z_qk s p 0) : z_mst w' (z_tk s (z_fu (z_qk s) p F)) := by
  obtain ⟨h0, h1, h2, h3, ⟨f4, h4, h4'⟩, h5, h6, ⟨f7, h7, h7'⟩, h8, h9, h10, h11, h12⟩ := h
  obtain ⟨p1, p2, p3⟩ := ((h12 t0 ht0).1 p hp).1
  have k : ∀ r, r ≠ 14 + t0 → ∀ n, 1000 ≤ n → n % 64 = r → z_g w' n = z_g w n := fun r hr n _ hn => u.2.1 n (fun z => by subst z; omega)
  exact ⟨u.2.2.2 h0, (k 40 (by omega) 1000 (by omega) (by omega)).trans h1, z_li.m (k 41 (by omega)) h2, (k 42 (by omega) 1002 (by omega) (by omega)).trans h3, ⟨f4, (k 43 (by omega) 1003 (by omega) (by omega)).trans h4, h4'⟩, fun i hi => (k (44 + i) (by omega) (1004 + i) (by omega) (by omega)).trans (h5 i hi), z_li.m (k 47 (by omega)) h6, ⟨f7, (k 48 (by omega) 1008 (by omega) (by omega)).trans h7, h7'⟩, fun i hi => (k (49 + i) (by omega) (1009 + i) (by omega) (by omega)).trans (h8 i hi), fun t ht => z_li.m (k (51 + t) (by omega)) (h9 t ht), fun i hi => ⟨z_li.m (k (54 + i) (by omega)) (h10 i hi).1, (h10 i hi).2⟩, fun i hi => ⟨z_li.m (k (11 + i) (by omega)) (h11 i hi).1, (h11 i hi).2⟩, fun t ht => (by
    show z_pr w' (14 + t) (z_qp s t).2 (z_fu (z_qk s) p F)
    have e : ∀ q, z_fu (z_qk s) p F q 0 = z_qk s q 0 := fun q => by
      by_cases hq : q = p
      · subst hq; rw [z_fu_self]; exact hF
      · rw [z_fu_ne hq]
    refine ⟨fun q hq => ?_, by simp only [e]; exact (h12 t ht).2⟩
    obtain ⟨⟨q1, q2, q3⟩, q4⟩ := (h12 t ht).1 q hq
    rw [e]
    by_cases hqp : q = p
    · subst hqp; rw [z_fu_self]; exact ⟨⟨q1, q2, q3⟩, u.1⟩
    · rw [z_fu_ne hqp]; exact ⟨⟨q1, q2, q3⟩, (u.2.1 q hqp).trans q4⟩)⟩
theorem z_mst.newk {w0 : z_W} {x : Nat} {F : Nat → Int32} (h0 : z_mst w0 s) (hx : z_g w0 x = none) (h : z_mst w s) : z_mst w (z_tk s (z_fu (z_qk s) x F)) := by
  obtain ⟨a0, a1, a2, a3, a4, a5, a6, a7, a8, a9, a10, a11, a12⟩ := h
  refine ⟨a0, a1, a2, a3, a4, a5, a6, a7, a8, a9, a10, a11, fun t ht => ?_⟩
  show z_pr w (14 + t) (z_qp s t).2 (z_fu (z_qk s) x F)
  have hne : ∀ p ∈ (z_qp s t).2, p ≠ x := fun p hp z => by
    have := ((h0.pr ht).1 p hp).2
    rw [z, hx] at this
    cases this
  refine ⟨fun p hp => by rw [z_fu_ne (hne p hp)]; exact (a12 t ht).1 p hp, ?_⟩
  have e : ((z_qp s t).2.map fun p => z_fu (z_qk s) x F p 0) = (z_qp s t).2.map fun p => z_qk s p 0 := List.map_congr_left (fun p hp => by rw [z_fu_ne (hne p hp)])
  rw [e]
  exact (a12 t ht).2
theorem z_pr.ins {ρ x j : Nat} {P : List Nat} {K : Nat → Nat → Int32} (h : z_pr w ρ P K) (hx : 1000 ≤ x ∧ x % 64 = ρ ∧ ∃ k, k < 20 ∧ K x 0 = nI k) (hg : z_g w x = some (.inl (0, 2, fun j => .int (K x j)))) (hno : ∀ p ∈ P, ¬ K p 0 = K x 0) : z_pr w ρ (P.take j ++ x :: P.drop j) K := by
  have hperm : (P.take j ++ x :: P.drop j).Perm (x :: P) := by
    have := @List.perm_middle _ x (P.take j) (P.drop j)
    rw [List.take_append_drop] at this
    exact this
  refine ⟨fun p hp => ?_, ?_⟩
  · rcases List.mem_cons.mp (hperm.mem_iff.mp hp) with rfl | hp
    · exact ⟨hx, hg⟩
    · exact h.1 p hp
  · rw [(hperm.map _).nodup_iff, List.map_cons, List.nodup_cons]
    refine ⟨fun hm => ?_, h.2⟩
    obtain ⟨p, hp, e⟩ := List.mem_map.mp hm
    exact hno p hp e
theorem z_pr.rem {ρ j : Nat} {P : List Nat} {K : Nat → Nat → Int32} (h : z_pr w ρ P K) : z_pr w ρ (P.eraseIdx j) K := by
  have hs := List.eraseIdx_sublist P j
  exact ⟨fun p hp => h.1 p (hs.subset hp), h.2.sublist (hs.map _)⟩
theorem z_pr.nil {ρ : Nat} {K : Nat → Nat → Int32} : z_pr w ρ [] K := ⟨fun p hp => (by cases hp), List.nodup_nil⟩
theorem z_rs_el {ρ σ : Nat} {P : List Nat} {K : Nat → Nat → Int32} (h : z_pr w ρ P K) (hne : ρ ≠ σ) : ∀ v ∈ z_rs P, z_el σ w v := fun v hv => by
  obtain ⟨p, hp, rfl⟩ := List.mem_map.mp hv
  obtain ⟨⟨p1, p2, -⟩, p3⟩ := h.1 p hp
  exact ⟨Or.inr ⟨p, rfl, Or.inr (fun z => hne (p2.symm.trans z))⟩, "[I", z_isA p3, (z_wn 1999 ((lwg_9 34).trans rfl) (by decide +kernel))⟩
theorem z_decr1 {a : Nat} (h : 1 ≤ a) : nI a + (-1) = nI (a - 1) := by
  obtain ⟨b, rfl⟩ : ∃ b, a = b + 1 := ⟨a - 1, by omega⟩
  rw [Nat.add_sub_cancel]
  exact z_decr b
end ZMe
end ZM5
