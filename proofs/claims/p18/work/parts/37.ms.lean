section ZMs
def z_fu {α : Type} (f : Nat → α) (k : Nat) (x : α) : Nat → α := fun j => cond (Nat.beq j k) x (f j)
theorem z_fu_self {α : Type} {f : Nat → α} {k : Nat} {x : α} : z_fu f k x k = x := by unfold z_fu; rw [Nat.beq_refl]; rfl
theorem z_fu_ne {α : Type} {f : Nat → α} {k j : Nat} {x : α} (h : j ≠ k) : z_fu f k x j = f j := by unfold z_fu; rw [z_beq h]; rfl
abbrev z_Z : Type := (Int32 × Int32 × Int32) × (Int32 × (Nat → Nat)) × (Nat → Int32) × (Nat → Nat → Int32) × Int32 × (Nat → Int32 × Int32 × Int32 × Int32) × (Nat → Int32 × List Nat) × (Nat → Int32 × List UInt32) × (Nat → Int32 × List UInt32) × (Nat → Nat → Int32)
abbrev z_qr (s : z_Z) := s.2.1
abbrev z_qf (s : z_Z) := s.2.2.1
abbrev z_qc (s : z_Z) := s.2.2.2.1
abbrev z_qt (s : z_Z) := s.2.2.2.2.1
abbrev z_qh (s : z_Z) := s.2.2.2.2.2.1
abbrev z_qp (s : z_Z) := s.2.2.2.2.2.2.1
abbrev z_ql (s : z_Z) := s.2.2.2.2.2.2.2.1
abbrev z_qw (s : z_Z) := s.2.2.2.2.2.2.2.2.1
abbrev z_qk (s : z_Z) := s.2.2.2.2.2.2.2.2.2
abbrev z_tm (s : z_Z) (x : Int32 × Int32 × Int32) : z_Z := (x, s.2)
abbrev z_tr (s : z_Z) (x : Int32 × (Nat → Nat)) : z_Z := (s.1, x, s.2.2)
abbrev z_tf (s : z_Z) (x : Nat → Int32) : z_Z := (s.1, s.2.1, x, s.2.2.2)
abbrev z_tc (s : z_Z) (x : Nat → Nat → Int32) : z_Z := (s.1, s.2.1, s.2.2.1, x, s.2.2.2.2)
abbrev z_th (s : z_Z) (x : Nat → Int32 × Int32 × Int32 × Int32) : z_Z := (s.1, s.2.1, s.2.2.1, s.2.2.2.1, s.2.2.2.2.1, x, s.2.2.2.2.2.2)
abbrev z_tp (s : z_Z) (x : Nat → Int32 × List Nat) : z_Z := (s.1, s.2.1, s.2.2.1, s.2.2.2.1, s.2.2.2.2.1, s.2.2.2.2.2.1, x, s.2.2.2.2.2.2.2)
abbrev z_tl (s : z_Z) (x : Nat → Int32 × List UInt32) : z_Z := (s.1, s.2.1, s.2.2.1, s.2.2.2.1, s.2.2.2.2.1, s.2.2.2.2.2.1, s.2.2.2.2.2.2.1, x, s.2.2.2.2.2.2.2.2)
abbrev z_tw (s : z_Z) (x : Nat → Int32 × List UInt32) : z_Z := (s.1, s.2.1, s.2.2.1, s.2.2.2.1, s.2.2.2.2.1, s.2.2.2.2.2.1, s.2.2.2.2.2.2.1, s.2.2.2.2.2.2.2.1, x, s.2.2.2.2.2.2.2.2.2)
abbrev z_tk (s : z_Z) (x : Nat → Nat → Int32) : z_Z := (s.1, s.2.1, s.2.2.1, s.2.2.2.1, s.2.2.2.2.1, s.2.2.2.2.2.1, s.2.2.2.2.2.2.1, s.2.2.2.2.2.2.2.1, s.2.2.2.2.2.2.2.2.1, x)
def z_bx (B : List UInt32) : List Value := B.map Value.float
def z_rs (P : List Nat) : List Value := P.map Value.ref
theorem z_bx_len {B : List UInt32} : (z_bx B).length = B.length := List.length_map ..
theorem z_rs_len {P : List Nat} : (z_rs P).length = P.length := List.length_map ..
theorem z_bx_get {B : List UInt32} {j : Nat} (h : j < B.length) : (z_bx B)[j]? = some (.float (B[j]'h)) := by unfold z_bx; rw [List.getElem?_map, List.getElem?_eq_getElem h]; rfl
theorem z_rs_get {P : List Nat} {j : Nat} (h : j < P.length) : (z_rs P)[j]? = some (.ref (P[j]'h)) := by unfold z_rs; rw [List.getElem?_map, List.getElem?_eq_getElem h]; rfl
theorem z_bx_el {B : List UInt32} {ρ : Nat} {w : z_W} : ∀ v ∈ z_bx B, z_el ρ w v := fun v hv => by
  obtain ⟨b, -, rfl⟩ := List.mem_map.mp hv
  exact z_elF
theorem z_bx_fl {B : List UInt32} : ∀ v ∈ z_bx B, ∃ b, v = .float b := fun v hv => by
  obtain ⟨b, -, rfl⟩ := List.mem_map.mp hv
  exact ⟨b, rfl⟩
theorem z_bx_app {B : List UInt32} {b : UInt32} : z_bx B ++ [.float b] = z_bx (B ++ [b]) := by unfold z_bx; rw [List.map_append]; rfl
theorem z_bx_set {B : List UInt32} {b : UInt32} {j : Nat} : (z_bx B).set j (.float b) = z_bx (B.set j b) := by unfold z_bx; rw [List.map_set]
theorem z_erm {α β : Type} (f : α → β) : ∀ (l : List α) (j : Nat), (l.map f).eraseIdx j = (l.eraseIdx j).map f
  | [], _ => rfl
  | _ :: _, 0 => rfl
  | a :: l, j + 1 => by rw [List.map_cons, List.eraseIdx_cons_succ, List.eraseIdx_cons_succ, List.map_cons, z_erm f l j]
theorem z_bx_rem {B : List UInt32} {j : Nat} : (z_bx B).eraseIdx j = z_bx (B.eraseIdx j) := by unfold z_bx; exact z_erm _ _ _
theorem z_rs_rem {P : List Nat} {j : Nat} : (z_rs P).eraseIdx j = z_rs (P.eraseIdx j) := by unfold z_rs; exact z_erm _ _ _
theorem z_rs_ins {P : List Nat} {j p : Nat} : (z_rs P).take j ++ .ref p :: (z_rs P).drop j = z_rs (P.take j ++ p :: P.drop j) := by unfold z_rs; rw [List.map_append, List.map_cons, List.map_take, List.map_drop]
def z_c40 (s : z_Z) (w : z_W) : Prop := z_g w 1000 = some (.inr (15, [.int s.1.1, .ref 1001, .ref 1002, .ref 1003, .ref 1007, .ref 1008, .int s.1.2.1, .int s.1.2.2]))
def z_c41 (s : z_Z) (w : z_W) : Prop := z_li w 41 1001 (z_qr s).1 [.ref ((z_qr s).2 0), .ref ((z_qr s).2 1)]
def z_c42 (s : z_Z) (w : z_W) : Prop := z_g w 1002 = some (.inl (1, 2, fun j => .int (z_qf s j)))
def z_c43 (w : z_W) : Prop := ∃ f, z_g w 1003 = some (.inl (8, 3, f)) ∧ ∀ j, j < 3 → f j = .ref (1004 + j)
def z_c44 (s : z_Z) (w : z_W) (i : Nat) : Prop := z_g w (1004 + i) = some (.inl (0, 7, fun j => .int (z_qc s i j)))
def z_c47 (s : z_Z) (w : z_W) : Prop := z_li w 47 1007 (z_qt s) [.ref 1011, .ref 1012, .ref 1013]
def z_c48 (w : z_W) : Prop := ∃ f, z_g w 1008 = some (.inl (7, 2, f)) ∧ ∀ j, j < 2 → f j = .ref (1009 + j)
def z_c49 (s : z_Z) (w : z_W) (h : Nat) : Prop := z_g w (1009 + h) = some (.inr (14, [.int (z_qh s h).1, .int (z_qh s h).2.1, .int (z_qh s h).2.2.1, .int (z_qh s h).2.2.2, .ref (1014 + h)]))
def z_c51 (s : z_Z) (w : z_W) (t : Nat) : Prop := z_li w (51 + t) (1011 + t) (z_qp s t).1 (z_rs (z_qp s t).2)
def z_c54 (s : z_Z) (w : z_W) (h : Nat) : Prop := z_li w (54 + h) (1014 + h) (z_ql s h).1 (z_bx (z_ql s h).2) ∧ (z_ql s h).2.length ≤ 10
def z_c11 (s : z_Z) (w : z_W) (i : Nat) : Prop := z_li w (11 + i) ((z_qr s).2 i) (z_qw s i).1 (z_bx (z_qw s i).2) ∧ (z_qw s i).2.length ≤ 12
def z_pr (w : z_W) (ρ : Nat) (P : List Nat) (K : Nat → Nat → Int32) : Prop := (∀ p ∈ P, (1000 ≤ p ∧ p % 64 = ρ ∧ ∃ k, k < 20 ∧ K p 0 = nI k) ∧ z_g w p = some (.inl (0, 2, fun j => .int (K p j)))) ∧ (P.map fun p => K p 0).Nodup
def z_c14 (s : z_Z) (w : z_W) (t : Nat) : Prop := z_pr w (14 + t) (z_qp s t).2 (z_qk s)
def z_mst (w : z_W) (s : z_Z) : Prop := z_fn w ∧ z_c40 s w ∧ z_c41 s w ∧ z_c42 s w ∧ z_c43 w ∧ (∀ i, i < 3 → z_c44 s w i) ∧ z_c47 s w ∧ z_c48 w ∧ (∀ h, h < 2 → z_c49 s w h) ∧ (∀ t, t < 3 → z_c51 s w t) ∧ (∀ h, h < 2 → z_c54 s w h) ∧ (∀ i, i < 2 → z_c11 s w i) ∧ ∀ t, t < 3 → z_c14 s w t
section ZMa
variable {w w' : z_W} {s : z_Z}
theorem z_mst.fn (h : z_mst w s) : z_fn w := h.1
theorem z_mst.m (h : z_mst w s) : z_g w 1000 = some (.inr (15, [.int s.1.1, .ref 1001, .ref 1002, .ref 1003, .ref 1007, .ref 1008, .int s.1.2.1, .int s.1.2.2])) := h.2.1
theorem z_mst.rows (h : z_mst w s) : z_li w 41 1001 (z_qr s).1 [.ref ((z_qr s).2 0), .ref ((z_qr s).2 1)] := h.2.2.1
theorem z_mst.fx (h : z_mst w s) : z_g w 1002 = some (.inl (1, 2, fun j => .int (z_qf s j))) := h.2.2.2.1
theorem z_mst.co (h : z_mst w s) : ∃ f, z_g w 1003 = some (.inl (8, 3, f)) ∧ ∀ j, j < 3 → f j = .ref (1004 + j) := h.2.2.2.2.1
theorem z_mst.cn (h : z_mst w s) {i : Nat} (hi : i < 3) : z_g w (1004 + i) = some (.inl (0, 7, fun j => .int (z_qc s i j))) := h.2.2.2.2.2.1 i hi
theorem z_mst.tabs (h : z_mst w s) : z_li w 47 1007 (z_qt s) [.ref 1011, .ref 1012, .ref 1013] := h.2.2.2.2.2.2.1
theorem z_mst.hs (h : z_mst w s) : ∃ f, z_g w 1008 = some (.inl (7, 2, f)) ∧ ∀ j, j < 2 → f j = .ref (1009 + j) := h.2.2.2.2.2.2.2.1
theorem z_mst.hd (h : z_mst w s) {i : Nat} (hi : i < 2) : z_g w (1009 + i) = some (.inr (14, [.int (z_qh s i).1, .int (z_qh s i).2.1, .int (z_qh s i).2.2.1, .int (z_qh s i).2.2.2, .ref (1014 + i)])) := h.2.2.2.2.2.2.2.2.1 i hi
theorem z_mst.tb (h : z_mst w s) {t : Nat} (ht : t < 3) : z_li w (51 + t) (1011 + t) (z_qp s t).1 (z_rs (z_qp s t).2) := h.2.2.2.2.2.2.2.2.2.1 t ht
theorem z_mst.hl (h : z_mst w s) {i : Nat} (hi : i < 2) : z_li w (54 + i) (1014 + i) (z_ql s i).1 (z_bx (z_ql s i).2) ∧ (z_ql s i).2.length ≤ 10 := h.2.2.2.2.2.2.2.2.2.2.1 i hi
theorem z_mst.rw (h : z_mst w s) {i : Nat} (hi : i < 2) : z_li w (11 + i) ((z_qr s).2 i) (z_qw s i).1 (z_bx (z_qw s i).2) ∧ (z_qw s i).2.length ≤ 12 := h.2.2.2.2.2.2.2.2.2.2.2.1 i hi
theorem z_mst.pr (h : z_mst w s) {t : Nat} (ht : t < 3) : z_pr w (14 + t) (z_qp s t).2 (z_qk s) := h.2.2.2.2.2.2.2.2.2.2.2.2 t ht
theorem z_pr.m {ρ : Nat} {P : List Nat} {K : Nat → Nat → Int32} (hw : ∀ n, 1000 ≤ n → n % 64 = ρ → z_g w' n = z_g w n) (h : z_pr w ρ P K) : z_pr w' ρ P K := ⟨fun p hp => ⟨(h.1 p hp).1, (hw p (h.1 p hp).1.1 (h.1 p hp).1.2.1).trans (h.1 p hp).2⟩, h.2⟩
theorem z_mst.gar {γ : Nat} (h : z_mst w s) (hw : z_fw γ w w') (hγ : γ < 11 ∨ (17 ≤ γ ∧ γ < 40) ∨ 56 ≤ γ) : z_mst w' s := by
  obtain ⟨h0, h1, h2, h3, ⟨f4, h4, h4'⟩, h5, h6, ⟨f7, h7, h7'⟩, h8, h9, h10, h11, h12⟩ := h
  have k : ∀ r, r ≠ γ → ∀ n, 1000 ≤ n → n % 64 = r → z_g w' n = z_g w n := fun r hr n _ hn => hw.2.2 n (Or.inr (by omega))
  exact ⟨hw.2.1 h0, (k 40 (by omega) 1000 (by omega) (by omega)).trans h1, z_li.m (k 41 (by omega)) h2, (k 42 (by omega) 1002 (by omega) (by omega)).trans h3, ⟨f4, (k 43 (by omega) 1003 (by omega) (by omega)).trans h4, h4'⟩, fun i hi => (k (44 + i) (by omega) (1004 + i) (by omega) (by omega)).trans (h5 i hi), z_li.m (k 47 (by omega)) h6, ⟨f7, (k 48 (by omega) 1008 (by omega) (by omega)).trans h7, h7'⟩, fun i hi => (k (49 + i) (by omega) (1009 + i) (by omega) (by omega)).trans (h8 i hi), fun t ht => z_li.m (k (51 + t) (by omega)) (h9 t ht), fun i hi => ⟨z_li.m (k (54 + i) (by omega)) (h10 i hi).1, (h10 i hi).2⟩, fun i hi => ⟨z_li.m (k (11 + i) (by omega)) (h11 i hi).1, (h11 i hi).2⟩, fun t ht => z_pr.m (k (14 + t) (by omega)) (h12 t ht)⟩
theorem z_mst.up40 {a b c : Int32} (h : z_mst w s) (hw : z_fw 40 w w') (u : z_g w' 1000 = some (.inr (15, [.int a, .ref 1001, .ref 1002, .ref 1003, .ref 1007, .ref 1008, .int b, .int c]))) : z_mst w' (z_tm s (a, b, c)) := by
  obtain ⟨h0, h1, h2, h3, ⟨f4, h4, h4'⟩, h5, h6, ⟨f7, h7, h7'⟩, h8, h9, h10, h11, h12⟩ := h
  have k : ∀ r, r ≠ 40 → ∀ n, 1000 ≤ n → n % 64 = r → z_g w' n = z_g w n := fun r hr n _ hn => hw.2.2 n (Or.inr (by omega))
  exact ⟨hw.2.1 h0, u, z_li.m (k 41 (by omega)) h2, (k 42 (by omega) 1002 (by omega) (by omega)).trans h3, ⟨f4, (k 43 (by omega) 1003 (by omega) (by omega)).trans h4, h4'⟩, fun i hi => (k (44 + i) (by omega) (1004 + i) (by omega) (by omega)).trans (h5 i hi), z_li.m (k 47 (by omega)) h6, ⟨f7, (k 48 (by omega) 1008 (by omega) (by omega)).trans h7, h7'⟩, fun i hi => (k (49 + i) (by omega) (1009 + i) (by omega) (by omega)).trans (h8 i hi), fun t ht => z_li.m (k (51 + t) (by omega)) (h9 t ht), fun i hi => ⟨z_li.m (k (54 + i) (by omega)) (h10 i hi).1, (h10 i hi).2⟩, fun i hi => ⟨z_li.m (k (11 + i) (by omega)) (h11 i hi).1, (h11 i hi).2⟩, fun t ht => z_pr.m (k (14 + t) (by omega)) (h12 t ht)⟩
theorem z_mst.up42 {F : Nat → Int32} (h : z_mst w s) (hw : z_fw 42 w w') (u : z_g w' 1002 = some (.inl (1, 2, fun j => .int (F j)))) : z_mst w' (z_tf s F) := by
  obtain ⟨h0, h1, h2, h3, ⟨f4, h4, h4'⟩, h5, h6, ⟨f7, h7, h7'⟩, h8, h9, h10, h11, h12⟩ := h
  have k : ∀ r, r ≠ 42 → ∀ n, 1000 ≤ n → n % 64 = r → z_g w' n = z_g w n := fun r hr n _ hn => hw.2.2 n (Or.inr (by omega))
  exact ⟨hw.2.1 h0, (k 40 (by omega) 1000 (by omega) (by omega)).trans h1, z_li.m (k 41 (by omega)) h2, u, ⟨f4, (k 43 (by omega) 1003 (by omega) (by omega)).trans h4, h4'⟩, fun i hi => (k (44 + i) (by omega) (1004 + i) (by omega) (by omega)).trans (h5 i hi), z_li.m (k 47 (by omega)) h6, ⟨f7, (k 48 (by omega) 1008 (by omega) (by omega)).trans h7, h7'⟩, fun i hi => (k (49 + i) (by omega) (1009 + i) (by omega) (by omega)).trans (h8 i hi), fun t ht => z_li.m (k (51 + t) (by omega)) (h9 t ht), fun i hi => ⟨z_li.m (k (54 + i) (by omega)) (h10 i hi).1, (h10 i hi).2⟩, fun i hi => ⟨z_li.m (k (11 + i) (by omega)) (h11 i hi).1, (h11 i hi).2⟩, fun t ht => z_pr.m (k (14 + t) (by omega)) (h12 t ht)⟩
theorem z_mst.up44 {i0 : Nat} {F : Nat → Int32} (h : z_mst w s) (hi0 : i0 < 3) (hw : z_fw (44 + i0) w w') (u : z_g w' (1004 + i0) = some (.inl (0, 7, fun j => .int (F j)))) : z_mst w' (z_tc s (z_fu (z_qc s) i0 F)) := by
  obtain ⟨h0, h1, h2, h3, ⟨f4, h4, h4'⟩, h5, h6, ⟨f7, h7, h7'⟩, h8, h9, h10, h11, h12⟩ := h
  have k : ∀ r, r ≠ 44 + i0 → ∀ n, 1000 ≤ n → n % 64 = r → z_g w' n = z_g w n := fun r hr n _ hn => hw.2.2 n (Or.inr (by omega))
  exact ⟨hw.2.1 h0, (k 40 (by omega) 1000 (by omega) (by omega)).trans h1, z_li.m (k 41 (by omega)) h2, (k 42 (by omega) 1002 (by omega) (by omega)).trans h3, ⟨f4, (k 43 (by omega) 1003 (by omega) (by omega)).trans h4, h4'⟩, fun i hi => (by
    show z_g w' (1004 + i) = some (.inl (0, 7, fun j => .int (z_fu (z_qc s) i0 F i j)))
    by_cases hii : i = i0
    · subst hii; rw [z_fu_self]; exact u
    · rw [z_fu_ne hii]; exact (k (44 + i) (by omega) (1004 + i) (by omega) (by omega)).trans (h5 i hi)), z_li.m (k 47 (by omega)) h6, ⟨f7, (k 48 (by omega) 1008 (by omega) (by omega)).trans h7, h7'⟩, fun i hi => (k (49 + i) (by omega) (1009 + i) (by omega) (by omega)).trans (h8 i hi), fun t ht => z_li.m (k (51 + t) (by omega)) (h9 t ht), fun i hi => ⟨z_li.m (k (54 + i) (by omega)) (h10 i hi).1, (h10 i hi).2⟩, fun i hi => ⟨z_li.m (k (11 + i) (by omega)) (h11 i hi).1, (h11 i hi).2⟩, fun t ht => z_pr.m (k (14 + t) (by omega)) (h12 t ht)⟩
theorem z_mst.up49 {i0 : Nat} {a b c d : Int32} (h : z_mst w s) (hi0 : i0 < 2) (hw : z_fw (49 + i0) w w') (u : z_g w' (1009 + i0) = some (.inr (14, [.int a, .int b, .int c, .int d, .ref (1014 + i0)]))) : z_mst w' (z_th s (z_fu (z_qh s) i0 (a, b, c, d))) := by
  obtain ⟨h0, h1, h2, h3, ⟨f4, h4, h4'⟩, h5, h6, ⟨f7, h7, h7'⟩, h8, h9, h10, h11, h12⟩ := h
  have k : ∀ r, r ≠ 49 + i0 → ∀ n, 1000 ≤ n → n % 64 = r → z_g w' n = z_g w n := fun r hr n _ hn => hw.2.2 n (Or.inr (by omega))
  exact ⟨hw.2.1 h0, (k 40 (by omega) 1000 (by omega) (by omega)).trans h1, z_li.m (k 41 (by omega)) h2, (k 42 (by omega) 1002 (by omega) (by omega)).trans h3, ⟨f4, (k 43 (by omega) 1003 (by omega) (by omega)).trans h4, h4'⟩, fun i hi => (k (44 + i) (by omega) (1004 + i) (by omega) (by omega)).trans (h5 i hi), z_li.m (k 47 (by omega)) h6, ⟨f7, (k 48 (by omega) 1008 (by omega) (by omega)).trans h7, h7'⟩, fun i hi => (by
    show z_g w' (1009 + i) = some (.inr (14, [.int (z_fu (z_qh s) i0 (a, b, c, d) i).1, .int (z_fu (z_qh s) i0 (a, b, c, d) i).2.1, .int (z_fu (z_qh s) i0 (a, b, c, d) i).2.2.1, .int (z_fu (z_qh s) i0 (a, b, c, d) i).2.2.2, .ref (1014 + i)]))
    by_cases hii : i = i0
    · subst hii; rw [z_fu_self]; exact u
    · rw [z_fu_ne hii]; exact (k (49 + i) (by omega) (1009 + i) (by omega) (by omega)).trans (h8 i hi)), fun t ht => z_li.m (k (51 + t) (by omega)) (h9 t ht), fun i hi => ⟨z_li.m (k (54 + i) (by omega)) (h10 i hi).1, (h10 i hi).2⟩, fun i hi => ⟨z_li.m (k (11 + i) (by omega)) (h11 i hi).1, (h11 i hi).2⟩, fun t ht => z_pr.m (k (14 + t) (by omega)) (h12 t ht)⟩
theorem z_mst.li54 {i0 : Nat} {mo : Int32} {B : List UInt32} (h : z_mst w s) (hi0 : i0 < 2) (hw : z_fw (54 + i0) w w') (u : z_li w' (54 + i0) (1014 + i0) mo (z_bx B)) (hB : B.length ≤ 10) : z_mst w' (z_tl s (z_fu (z_ql s) i0 (mo, B))) := by
  obtain ⟨h0, h1, h2, h3, ⟨f4, h4, h4'⟩, h5, h6, ⟨f7, h7, h7'⟩, h8, h9, h10, h11, h12⟩ := h
  have k : ∀ r, r ≠ 54 + i0 → ∀ n, 1000 ≤ n → n % 64 = r → z_g w' n = z_g w n := fun r hr n _ hn => hw.2.2 n (Or.inr (by omega))
  exact ⟨hw.2.1 h0, (k 40 (by omega) 1000 (by omega) (by omega)).trans h1, z_li.m (k 41 (by omega)) h2, (k 42 (by omega) 1002 (by omega) (by omega)).trans h3, ⟨f4, (k 43 (by omega) 1003 (by omega) (by omega)).trans h4, h4'⟩, fun i hi => (k (44 + i) (by omega) (1004 + i) (by omega) (by omega)).trans (h5 i hi), z_li.m (k 47 (by omega)) h6, ⟨f7, (k 48 (by omega) 1008 (by omega) (by omega)).trans h7, h7'⟩, fun i hi => (k (49 + i) (by omega) (1009 + i) (by omega) (by omega)).trans (h8 i hi), fun t ht => z_li.m (k (51 + t) (by omega)) (h9 t ht), fun i hi => (by
    show z_li w' (54 + i) (1014 + i) (z_fu (z_ql s) i0 (mo, B) i).1 (z_bx (z_fu (z_ql s) i0 (mo, B) i).2) ∧ (z_fu (z_ql s) i0 (mo, B) i).2.length ≤ 10
    by_cases hii : i = i0
    · subst hii; rw [z_fu_self]; exact ⟨u, hB⟩
    · rw [z_fu_ne hii]; exact ⟨z_li.m (k (54 + i) (by omega)) (h10 i hi).1, (h10 i hi).2⟩), fun i hi => ⟨z_li.m (k (11 + i) (by omega)) (h11 i hi).1, (h11 i hi).2⟩, fun t ht => z_pr.m (k (14 + t) (by omega)) (h12 t ht)⟩
theorem z_mst.li11 {i0 : Nat} {mo : Int32} {B : List UInt32} (h : z_mst w s) (hi0 : i0 < 2) (hw : z_fw (11 + i0) w w') (u : z_li w' (11 + i0) ((z_qr s).2 i0) mo (z_bx B)) (hB : B.length ≤ 12) : z_mst w' (z_tw s (z_fu (z_qw s) i0 (mo, B))) := by
  obtain ⟨h0, h1, h2, h3, ⟨f4, h4, h4'⟩, h5, h6, ⟨f7, h7, h7'⟩, h8, h9, h10, h11, h12⟩ := h
  have k : ∀ r, r ≠ 11 + i0 → ∀ n, 1000 ≤ n → n % 64 = r → z_g w' n = z_g w n := fun r hr n _ hn => hw.2.2 n (Or.inr (by omega))
  exact ⟨hw.2.1 h0, (k 40 (by omega) 1000 (by omega) (by omega)).trans h1, z_li.m (k 41 (by omega)) h2, (k 42 (by omega) 1002 (by omega) (by omega)).trans h3, ⟨f4, (k 43 (by omega) 1003 (by omega) (by omega)).trans h4, h4'⟩, fun i hi => (k (44 + i) (by omega) (1004 + i) (by omega) (by omega)).trans (h5 i hi), z_li.m (k 47 (by omega)) h6, ⟨f7, (k 48 (by omega) 1008 (by omega) (by omega)).trans h7, h7'⟩, fun i hi => (k (49 + i) (by omega) (1009 + i) (by omega) (by omega)).trans (h8 i hi), fun t ht => z_li.m (k (51 + t) (by omega)) (h9 t ht), fun i hi => ⟨z_li.m (k (54 + i) (by omega)) (h10 i hi).1, (h10 i hi).2⟩, fun i hi => (by
    show z_li w' (11 + i) ((z_qr s).2 i) (z_fu (z_qw s) i0 (mo, B) i).1 (z_bx (z_fu (z_qw s) i0 (mo, B) i).2) ∧ (z_fu (z_qw s) i0 (mo, B) i).2.length ≤ 12
    by_cases hii : i = i0
    · subst hii; rw [z_fu_self]; exact ⟨u, hB⟩
    · rw [z_fu_ne hii]; exact ⟨z_li.m (k (11 + i) (by omega)) (h11 i hi).1, (h11 i hi).2⟩), fun t ht => z_pr.m (k (14 + t) (by omega)) (h12 t ht)⟩
end ZMa
end ZMs
