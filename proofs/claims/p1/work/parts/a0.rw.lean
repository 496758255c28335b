section ZM0
section ZRw
variable {G : z_G} {l : Launch} {y : z_M} {S : z_S} {pc : Nat} {lo : List (Nat × Value)} {st : List Value} {w w' : z_W} {kc ks : Nat}
theorem j_ldN {a n k : Nat} {f : Nat → Int32} (hd : decode y.2.1 pc = .ok (.iaload, 1)) (hg : z_g w a = some (.inl (0, n, fun j => .int (f j)))) (hk : k < n) (hn : n < 2147483648) (h : z_J G l y S (pc + 1) lo (.int (f k) :: st) w kc ks) : z_J G l y S pc lo (.int (nI k) :: .ref a :: st) w kc ks :=
  j_ld hd hg (vp_in_nI hk hn) (by rw [z_cla (by omega)]; exact h)
theorem j_stoN {a n k : Nat} {f : Nat → Int32} {x : Int32} (hd : decode y.2.1 pc = .ok (.iastore, 1)) (hg : z_g w a = some (.inl (0, n, fun j => .int (f j)))) (hk : k < n) (hn : n < 2147483648) (hw : z_s w a (.inl (0, n, fun j => .int (z_ui f k x j))) = w') (h : z_J G l y S (pc + 1) lo st w' kc ks) : z_J G l y S pc lo (.int x :: .int (nI k) :: .ref a :: st) w kc ks :=
  j_sto hd hg (vp_in_nI hk hn) (by rw [z_cla (by omega)]; exact hw) h
theorem q_nsub {a b : Nat} (h : b ≤ a) : nI a - nI b = nI (a - b) := by
  have e : nI (a - b) + nI b = nI a := by rw [nI_add]; congr 1; omega
  rw [← e, Int32.add_sub_cancel]
theorem q_ndec {a : Nat} (h : 1 ≤ a) : nI a + Int32.ofInt (-1) = nI (a - 1) := by
  have e : nI (a - 1) + 1 = nI a := by rw [nI_1]; congr 1; omega
  rw [← e, Int32.add_assoc]
  exact Int32.add_zero _
def z_row (N : Nat) (m : Int32) (f : Nat → Int32) (B : List Int32) : Prop := m = nI B.length ∧ B.length ≤ N ∧ ∀ j, j < B.length → B[j]? = some (f j)
theorem z_row.at {N : Nat} {m : Int32} {f : Nat → Int32} {B : List Int32} (h : z_row N m f B) {j : Nat} {x : Int32} (hj : B[j]? = some x) : f j = x := by
  have h1 := h.2.2 j (List.getElem?_eq_some_iff.mp hj).1
  rw [hj] at h1
  exact (Option.some.inj h1).symm
theorem z_row.nil {N : Nat} {f : Nat → Int32} : z_row N 0 f [] := ⟨rfl, Nat.zero_le _, fun _ h => absurd h (Nat.not_lt_zero _)⟩
theorem z_row.push {N : Nat} {f : Nat → Int32} {B : List Int32} {x : Int32} (h : z_row N (nI B.length) f B) (hl : B.length < N) : z_row N (nI (B.length + 1)) (z_ui f B.length x) (B ++ [x]) := by
  refine ⟨by rw [List.length_append]; rfl, by rw [List.length_append]; exact hl, fun j hj => ?_⟩
  rw [List.length_append] at hj
  have hj : j < B.length + 1 := hj
  by_cases c : j = B.length
  · subst c
    rw [z_ui_self, List.getElem?_append_right (Nat.le_refl _), Nat.sub_self]
    rfl
  · rw [z_ui_ne c, List.getElem?_append_left (by omega)]
    exact h.2.2 j (by omega)
theorem z_row.take {N : Nat} {f : Nat → Int32} {B : List Int32} {k : Nat} (h : z_row N (nI B.length) f B) (hk : k ≤ B.length) : z_row N (nI (B.length - k)) f (B.take (B.length - k)) := by
  have e : (B.take (B.length - k)).length = B.length - k := by rw [List.length_take]; omega
  refine ⟨by rw [e], by rw [e]; have := h.2.1; omega, fun j hj => ?_⟩
  rw [e] at hj
  rw [List.getElem?_take, if_pos hj]
  exact h.2.2 j (by omega)
theorem z_row.set {N : Nat} {f : Nat → Int32} {B : List Int32} {j : Nat} {x : Int32} (h : z_row N (nI B.length) f B) : z_row N (nI B.length) (z_ui f j x) (B.set j x) := by
  refine ⟨by rw [List.length_set], by rw [List.length_set]; exact h.2.1, fun i hi => ?_⟩
  rw [List.length_set] at hi
  by_cases c : i = j
  · subst c
    rw [z_ui_self, List.getElem?_set_self hi]
  · rw [z_ui_ne c, List.getElem?_set_ne (Ne.symm c)]
    exact h.2.2 i hi
theorem z_row.eqf {N : Nat} {m : Int32} {f g : Nat → Int32} {B : List Int32} (h : z_row N m f B) (e : ∀ j, j < N → g j = f j) : z_row N m g B := ⟨h.1, h.2.1, fun j hj => by rw [e j (Nat.lt_of_lt_of_le hj h.2.1)]; exact h.2.2 j hj⟩
def z_mv (f f' : Nat → Int32) (p k : Nat) : Prop := (∀ j, j < p → f' j = f j) ∧ (∀ j, j < k → f' (p + j) = f (p + j + 1)) ∧ ∀ j, p + k ≤ j → f' j = f j
theorem z_mv.rf {f : Nat → Int32} {p : Nat} : z_mv f f p 0 := ⟨fun _ _ => rfl, fun _ h => absurd h (Nat.not_lt_zero _), fun _ _ => rfl⟩
theorem z_mv.step {f f' : Nat → Int32} {p k : Nat} (h : z_mv f f' p k) : z_mv f (z_ui f' (p + k) (f' (p + k + 1))) p (k + 1) := by
  refine ⟨fun j hj => by rw [z_ui_ne (by omega)]; exact h.1 j hj, fun j hj => ?_, fun j hj => by rw [z_ui_ne (by omega)]; exact h.2.2 j (by omega)⟩
  by_cases c : j = k
  · subst c
    rw [z_ui_self]
    exact h.2.2 _ (by omega)
  · rw [z_ui_ne (by omega)]
    exact h.2.1 j (by omega)
theorem z_mv.row {N : Nat} {f f' : Nat → Int32} {A D : List Int32} {x : Int32} (h : z_mv f f' A.length D.length) (hr : z_row N (nI (A ++ x :: D).length) f (A ++ x :: D)) : z_row N (nI ((A ++ x :: D).length - 1)) f' (A ++ D) := by
  have e1 : (A ++ x :: D).length = A.length + (D.length + 1) := by rw [List.length_append]; rfl
  have e2 : (A ++ D).length = A.length + D.length := List.length_append ..
  have hl := hr.2.1
  rw [e1] at hl
  refine ⟨by rw [e1, e2]; rfl, by rw [e2]; omega, fun j hj => ?_⟩
  rw [e2] at hj
  by_cases c : j < A.length
  · rw [h.1 j c, List.getElem?_append_left c]
    have h1 := hr.2.2 j (by rw [e1]; omega)
    rwa [List.getElem?_append_left c] at h1
  · have hq : j = A.length + (j - A.length) := by omega
    have h2 := h.2.1 (j - A.length) (by omega)
    rw [← hq] at h2
    have h1 := hr.2.2 (j + 1) (by rw [e1]; omega)
    rw [List.getElem?_append_right (by omega), show j + 1 - A.length = (j - A.length) + 1 by omega, List.getElem?_cons_succ] at h1
    rw [h2, List.getElem?_append_right (by omega), h1]
abbrev z_bp (c : Nat → Int32) (k : Nat) : Nat → Int32 := z_ui c k (c k + 1)
def q_zr (f : Nat → Int32) : Nat → Nat → Int32
  | 0 => f
  | j + 1 => z_ui (q_zr f j) j 0
def q_sm (f : Nat → Int32) : Nat → Int32
  | 0 => 0
  | j + 1 => q_sm f j + f j
theorem q_zr_ge {f : Nat → Int32} : ∀ {j k : Nat}, j ≤ k → q_zr f j k = f k
  | 0, _, _ => rfl
  | j + 1, k, h => by
    show z_ui (q_zr f j) j 0 k = f k
    rw [z_ui_ne (by omega)]
    exact q_zr_ge (by omega)
theorem q_sms {f : Nat → Int32} {j : Nat} : q_sm f j + q_zr f j j = q_sm f (j + 1) := by rw [q_zr_ge (Nat.le_refl _)]; rfl
theorem q_b1 {b : Prop} [Decidable b] (h : b) : z_bi (decide b) = 1 := by rw [decide_eq_true h]; rfl
theorem q_b0 {b : Prop} [Decidable b] (h : ¬ b) : z_bi (decide b) = 0 := by rw [decide_eq_false h]; rfl
theorem sp_lt1 {P : Nat → Prop} {j : Nat} (h : ∀ i, i < j → P i) (h2 : P j) : ∀ i, i < j + 1 → P i := fun i hi => by
  by_cases c : i = j
  · rw [c]; exact h2
  · exact h i (by omega)
end ZRw
end ZM0
section ZM1
section ZSp
abbrev sp_H : Type := (Int32 × Int32 × Int32 × Int32) × List Int32
abbrev sp_S : Type := (Int32 × Int32) × (Nat → List Int32) × (Nat → Bool) × (Nat → Nat → Int32) × (Nat → List (Nat × Int32)) × (Nat → sp_H)
abbrev sp_R (S : sp_S) : Nat → List Int32 := S.2.1
abbrev sp_F (S : sp_S) : Nat → Bool := S.2.2.1
abbrev sp_C (S : sp_S) : Nat → Nat → Int32 := S.2.2.2.1
abbrev sp_T (S : sp_S) : Nat → List (Nat × Int32) := S.2.2.2.2.1
abbrev sp_E (S : sp_S) : Nat → sp_H := S.2.2.2.2.2
abbrev sp_uR (S : sp_S) (i : Nat) (B : List Int32) : sp_S := (S.1, z_fu S.2.1 i B, S.2.2)
abbrev sp_uF (S : sp_S) (i : Nat) (b : Bool) : sp_S := (S.1, S.2.1, z_fu S.2.2.1 i b, S.2.2.2)
abbrev sp_uC (S : sp_S) (i : Nat) (c : Nat → Int32) : sp_S := (S.1, S.2.1, S.2.2.1, z_fu S.2.2.2.1 i c, S.2.2.2.2)
abbrev sp_uT (S : sp_S) (t : Nat) (T : List (Nat × Int32)) : sp_S := (S.1, S.2.1, S.2.2.1, S.2.2.2.1, z_fu S.2.2.2.2.1 t T, S.2.2.2.2.2)
abbrev sp_uE (S : sp_S) (g : Nat) (h : sp_H) : sp_S := (S.1, S.2.1, S.2.2.1, S.2.2.2.1, S.2.2.2.2.1, z_fu S.2.2.2.2.2 g h)
abbrev sp_nine (S : sp_S) : sp_S := ((S.1.1 + 1, S.1.2), S.2)
abbrev sp_kno (S : sp_S) : sp_S := ((S.1.1, S.1.2 + 1), S.2)
def sp_rfn {α : Type} (rf : Int32) (o : Option α) : Int32 := match o with
  | none => rf + 1
  | some _ => rf
abbrev sp_nn {α : Type} (S : sp_S) (o : Option α) : sp_S := ((sp_rfn S.1.1 o, S.1.2), S.2)
abbrev sp_bn (S : sp_S) (b : Bool) : sp_S := ((cond b S.1.1 (S.1.1 + 1), S.1.2), S.2)
def sp_rec (L : List Int32) (x : Int32) : List Int32 := if L.length < 10 then L ++ [x] else L.tail ++ [x]
def sp_in (h : sp_H) (x : Int32) : Option sp_H := if ¬ h.1.1 = -1000 ∧ x = h.1.1 then none else some ((h.1.1, h.1.2.1 + 1, h.1.2.2.1 + x, x), sp_rec h.2 x)
def sp_ho (c : Nat → Int32) (h : sp_H) (n : Nat) : List Int32 → Option Nat × (Nat → Int32) × sp_H
  | [] => (some n, z_bp c 1, h)
  | x :: L => match sp_in h x with
    | none => (none, z_bp (z_bp c 1) 2, h)
    | some h2 => sp_ho (z_bp (z_bp c 1) 2) h2 (n + 1) L
theorem sp_hoN {c : Nat → Int32} {h : sp_H} {n : Nat} {x : Int32} {L : List Int32} (e : sp_in h x = none) : sp_ho c h n (x :: L) = (none, z_bp (z_bp c 1) 2, h) := by
  show (match sp_in h x with | none => _ | some h2 => _) = _
  rw [e]
theorem sp_hoS {c : Nat → Int32} {h h2 : sp_H} {n : Nat} {x : Int32} {L : List Int32} (e : sp_in h x = some h2) : sp_ho c h n (x :: L) = sp_ho (z_bp (z_bp c 1) 2) h2 (n + 1) L := by
  show (match sp_in h x with | none => _ | some h2 => _) = _
  rw [e]
theorem sp_hoc : ∀ (L : List Int32) (c c2 : Nat → Int32) (h : sp_H) (n : Nat), (sp_ho c h n L).1 = (sp_ho c2 h n L).1 ∧ (sp_ho c h n L).2.2 = (sp_ho c2 h n L).2.2
  | [], _, _, _, _ => ⟨rfl, rfl⟩
  | x :: L, c, c2, h, n => by
    cases e : sp_in h x with
    | none => rw [sp_hoN e, sp_hoN e]; exact ⟨rfl, rfl⟩
    | some h2 => rw [sp_hoS e, sp_hoS e]; exact sp_hoc L _ _ _ _
theorem sp_rec_le {L : List Int32} {x : Int32} (h : L.length ≤ 10) : (sp_rec L x).length ≤ 10 := by
  unfold sp_rec
  split
  · rw [List.length_append]; show _ + 1 ≤ 10; omega
  · rw [List.length_append, List.length_tail]; show _ + 1 ≤ 10; omega
theorem sp_in_le {h h2 : sp_H} {x : Int32} (e : sp_in h x = some h2) (hl : h.2.length ≤ 10) : h2.2.length ≤ 10 := by
  unfold sp_in at e
  split at e
  · cases e
  · cases e; exact sp_rec_le hl
theorem sp_ho_le : ∀ (L : List Int32) (c : Nat → Int32) (h : sp_H) (n : Nat), h.2.length ≤ 10 → (sp_ho c h n L).2.2.2.length ≤ 10
  | [], _, _, _, hl => hl
  | x :: L, c, h, n, hl => by
    cases e : sp_in h x with
    | none => rw [sp_hoN e]; exact hl
    | some h2 => rw [sp_hoS e]; exact sp_ho_le L _ _ _ (sp_in_le e hl)
def sp_ri (b : Bool) (t n : Int32) (c : Nat → Int32) (A : List Int32) (k : Bool) : List Int32 → Option Bool × (Nat → Int32) × List Int32
  | [] => (some k, z_bp c 1, A)
  | v :: L => match q_tt t v n with
    | none => (none, z_bp (z_bp c 1) 2, A ++ v :: L)
    | some r => if r = 1 then cond b (none, z_bp (z_bp c 1) 2, A ++ v :: L) (sp_ri b t n (z_bp (z_bp (z_bp c 1) 2) 4) A true L) else sp_ri b t n (z_bp (z_bp c 1) 2) (A ++ [v]) k L
theorem sp_riN {b : Bool} {t n v : Int32} {c : Nat → Int32} {A L : List Int32} {k : Bool} (e : q_tt t v n = none) : sp_ri b t n c A k (v :: L) = (none, z_bp (z_bp c 1) 2, A ++ v :: L) := by
  show (match q_tt t v n with | none => _ | some r => _) = _
  rw [e]
theorem sp_riF {t n v : Int32} {c : Nat → Int32} {A L : List Int32} {k : Bool} (e : q_tt t v n = some 1) : sp_ri true t n c A k (v :: L) = (none, z_bp (z_bp c 1) 2, A ++ v :: L) := by
  show (match q_tt t v n with | none => _ | some r => _) = _
  rw [e]
  rfl
theorem sp_riT {t n v : Int32} {c : Nat → Int32} {A L : List Int32} {k : Bool} (e : q_tt t v n = some 1) : sp_ri false t n c A k (v :: L) = sp_ri false t n (z_bp (z_bp (z_bp c 1) 2) 4) A true L := by
  show (match q_tt t v n with | none => _ | some r => _) = _
  rw [e]
  rfl
theorem sp_riO {b : Bool} {t n v r : Int32} {c : Nat → Int32} {A L : List Int32} {k : Bool} (e : q_tt t v n = some r) (hr : ¬ r = 1) : sp_ri b t n c A k (v :: L) = sp_ri b t n (z_bp (z_bp c 1) 2) (A ++ [v]) k L := by
  show (match q_tt t v n with | none => _ | some r => _) = _
  rw [e]
  exact if_neg hr
def sp_ra (b : Bool) (r n : Int32) (c : Nat → Int32) (A : List Int32) : List Int32 → Bool × (Nat → Int32) × List Int32
  | [] => (true, z_bp c 1, A)
  | v :: L => match q_rt r 0 v n with
    | none => (false, z_bp (z_bp c 1) 2, A ++ v :: L)
    | some y => cond b (false, z_bp (z_bp c 1) 2, A ++ v :: L) (sp_ra b r n (z_bp (z_bp (z_bp c 1) 2) 3) (A ++ [y]) L)
theorem sp_raN {b : Bool} {r n v : Int32} {c : Nat → Int32} {A L : List Int32} (e : q_rt r 0 v n = none) : sp_ra b r n c A (v :: L) = (false, z_bp (z_bp c 1) 2, A ++ v :: L) := by
  show (match q_rt r 0 v n with | none => _ | some y => _) = _
  rw [e]
theorem sp_raF {r n v y : Int32} {c : Nat → Int32} {A L : List Int32} (e : q_rt r 0 v n = some y) : sp_ra true r n c A (v :: L) = (false, z_bp (z_bp c 1) 2, A ++ v :: L) := by
  show (match q_rt r 0 v n with | none => _ | some y => _) = _
  rw [e]
  rfl
theorem sp_raT {r n v y : Int32} {c : Nat → Int32} {A L : List Int32} (e : q_rt r 0 v n = some y) : sp_ra false r n c A (v :: L) = sp_ra false r n (z_bp (z_bp (z_bp c 1) 2) 3) (A ++ [y]) L := by
  show (match q_rt r 0 v n with | none => _ | some y => _) = _
  rw [e]
  rfl
def sp_rt (r n : Int32) (c : Nat → Int32) (A : List (Nat × Int32)) : List (Nat × Int32) → Bool × (Nat → Int32) × List (Nat × Int32)
  | [] => (true, z_bp c 1, A)
  | p :: L => match q_rt r (nI p.1) p.2 n with
    | none => (false, z_bp (z_bp c 1) 2, A ++ p :: L)
    | some y => sp_rt r n (z_bp (z_bp (z_bp c 1) 2) 3) (A ++ [(p.1, y)]) L
theorem sp_rtN {r n : Int32} {p : Nat × Int32} {c : Nat → Int32} {A L : List (Nat × Int32)} (e : q_rt r (nI p.1) p.2 n = none) : sp_rt r n c A (p :: L) = (false, z_bp (z_bp c 1) 2, A ++ p :: L) := by
  show (match q_rt r (nI p.1) p.2 n with | none => _ | some y => _) = _
  rw [e]
theorem sp_rtS {r n y : Int32} {p : Nat × Int32} {c : Nat → Int32} {A L : List (Nat × Int32)} (e : q_rt r (nI p.1) p.2 n = some y) : sp_rt r n c A (p :: L) = sp_rt r n (z_bp (z_bp (z_bp c 1) 2) 3) (A ++ [(p.1, y)]) L := by
  show (match q_rt r (nI p.1) p.2 n with | none => _ | some y => _) = _
  rw [e]
theorem sp_rtc : ∀ (L A : List (Nat × Int32)) (r n : Int32) (c c2 : Nat → Int32), (sp_rt r n c A L).1 = (sp_rt r n c2 A L).1 ∧ (sp_rt r n c A L).2.2 = (sp_rt r n c2 A L).2.2
  | [], _, _, _, _, _ => ⟨rfl, rfl⟩
  | p :: L, A, r, n, c, c2 => by
    cases e : q_rt r (nI p.1) p.2 n with
    | none => rw [sp_rtN e, sp_rtN e]; exact ⟨rfl, rfl⟩
    | some y => rw [sp_rtS e, sp_rtS e]; exact sp_rtc L _ _ _ _ _
def sp_bps (c : Nat → Int32) (k : Nat) : Nat → Nat → Int32
  | 0 => c
  | n + 1 => z_bp (sp_bps c k n) k
theorem sp_bps_self {c : Nat → Int32} {k : Nat} : ∀ {n : Nat}, sp_bps c k n k = c k + nI n
  | 0 => (Int32.add_zero _).symm
  | n + 1 => by
    show z_ui (sp_bps c k n) k (sp_bps c k n k + 1) k = _
    rw [z_ui_self, sp_bps_self (n := n), Int32.add_assoc, nI_1]
theorem sp_bps_ne {c : Nat → Int32} {k j : Nat} (h : j ≠ k) : ∀ {n : Nat}, sp_bps c k n j = c j
  | 0 => rfl
  | n + 1 => by
    show z_ui (sp_bps c k n) k (sp_bps c k n k + 1) j = _
    rw [z_ui_ne h, sp_bps_ne h (n := n)]
def sp_lk : List (Nat × Int32) → Nat → Int32
  | [], _ => -1000
  | p :: T, k => if p.1 = k then p.2 else sp_lk T k
abbrev sp_ks (T : List (Nat × Int32)) : List Nat := T.map Prod.fst
def sp_okT (T : List (Nat × Int32)) : Prop := (sp_ks T).Nodup ∧ ∀ p ∈ T, p.1 < 20 ∧ z_vl p.2
def sp_at (T : List (Nat × Int32)) (k : Nat) : Nat → Nat
  | 0 => 0
  | n + 1 => if k < ((T[n]?).map Prod.fst).getD 0 then sp_at T k n else n + 1
def sp_ins (T : List (Nat × Int32)) (j k : Nat) (v : Int32) : List (Nat × Int32) := T.take j ++ (k, v) :: T.drop j
def sp_st (T : List (Nat × Int32)) (k : Nat) (v : Int32) : List (Nat × Int32) := T.map fun p => if p.1 = k then (p.1, v) else p
def sp_pl (b : Bool) (T : List (Nat × Int32)) (k : Nat) : Nat := cond b (sp_at T k T.length) T.length
def sp_pt (b : Bool) (T : List (Nat × Int32)) (k : Nat) (v : Int32) : List (Nat × Int32) := if sp_lk T k = -1000 then sp_ins T (sp_pl b T k) k v else sp_st T k v
def sp_go (T : List (Nat × Int32)) (k : Nat) : List (Nat × Int32) := T.filter fun p => !(p.1 == k)
theorem sp_vln {x : Int32} (h : z_vl x) : ¬ x = -1000 := by
  rintro rfl
  exact absurd h.1 (by decide)
theorem sp_lk_no : ∀ {T : List (Nat × Int32)} {k : Nat}, k ∉ sp_ks T → sp_lk T k = -1000
  | [], _, _ => rfl
  | p :: T, k, h => by
    have h1 : p.1 ≠ k := fun z => h (by subst z; exact List.mem_cons_self)
    unfold sp_lk
    rw [if_neg h1]
    exact sp_lk_no (fun z => h (List.mem_cons_of_mem _ z))
theorem sp_lk_vl : ∀ {T : List (Nat × Int32)} {k : Nat}, (∀ p ∈ T, p.1 < 20 ∧ z_vl p.2) → k ∈ sp_ks T → z_vl (sp_lk T k)
  | [], _, _, hk => by cases hk
  | p :: T, k, h, hk => by
    unfold sp_lk
    by_cases h1 : p.1 = k
    · rw [if_pos h1]; exact (h p List.mem_cons_self).2
    · rw [if_neg h1]
      refine sp_lk_vl (fun q hq => h q (List.mem_cons_of_mem _ hq)) ?_
      rcases List.mem_cons.mp hk with z | z
      · exact absurd z.symm h1
      · exact z
theorem sp_lk_iff {T : List (Nat × Int32)} {k : Nat} (h : sp_okT T) : sp_lk T k = -1000 ↔ k ∉ sp_ks T :=
  ⟨fun z hk => sp_vln (sp_lk_vl h.2 hk) z, sp_lk_no⟩
theorem sp_lk_r {T : List (Nat × Int32)} {k : Nat} (h : sp_okT T) : sp_lk T k = -1000 ∨ z_vl (sp_lk T k) := by
  by_cases hk : k ∈ sp_ks T
  · exact Or.inr (sp_lk_vl h.2 hk)
  · exact Or.inl (sp_lk_no hk)
theorem sp_lk_mem : ∀ {T : List (Nat × Int32)} {p : Nat × Int32}, (sp_ks T).Nodup → p ∈ T → sp_lk T p.1 = p.2
  | [], _, _, hp => by cases hp
  | q :: T, p, h, hp => by
    unfold sp_lk
    have h : (q.1 :: sp_ks T).Nodup := h
    rw [List.nodup_cons] at h
    rcases List.mem_cons.mp hp with z | z
    · rw [z, if_pos rfl]
    · have h1 : q.1 ≠ p.1 := fun e => h.1 (by rw [e]; exact List.mem_map.mpr ⟨p, z, rfl⟩)
      rw [if_neg h1]
      exact sp_lk_mem h.2 z
theorem sp_lk_app : ∀ {A D : List (Nat × Int32)} {k : Nat}, k ∉ sp_ks A → sp_lk (A ++ D) k = sp_lk D k
  | [], _, _, _ => rfl
  | p :: A, D, k, h => by
    have h1 : p.1 ≠ k := fun z => h (by subst z; exact List.mem_cons_self)
    show (if p.1 = k then p.2 else sp_lk (A ++ D) k) = _
    rw [if_neg h1]
    exact sp_lk_app (fun z => h (List.mem_cons_of_mem _ z))
theorem sp_lk_appL : ∀ {A D E : List (Nat × Int32)} {k : Nat}, sp_lk D k = sp_lk E k → sp_lk (A ++ D) k = sp_lk (A ++ E) k
  | [], _, _, _, h => h
  | p :: A, D, E, k, h => by
    show (if p.1 = k then p.2 else sp_lk (A ++ D) k) = (if p.1 = k then p.2 else sp_lk (A ++ E) k)
    by_cases h1 : p.1 = k
    · rw [if_pos h1, if_pos h1]
    · rw [if_neg h1, if_neg h1]
      exact sp_lk_appL h
theorem sp_ks_ins {T : List (Nat × Int32)} {j k : Nat} {v : Int32} : sp_ks (sp_ins T j k v) = (sp_ks T).take j ++ k :: (sp_ks T).drop j := by
  unfold sp_ks sp_ins
  rw [List.map_append, List.map_cons, List.map_take, List.map_drop]
theorem sp_ks_insp {T : List (Nat × Int32)} {j k : Nat} {v : Int32} : (sp_ks (sp_ins T j k v)).Perm (k :: sp_ks T) := by
  rw [sp_ks_ins]
  have := @List.perm_middle _ k ((sp_ks T).take j) ((sp_ks T).drop j)
  rw [List.take_append_drop] at this
  exact this
theorem sp_ins_len {T : List (Nat × Int32)} {j k : Nat} {v : Int32} : (sp_ins T j k v).length = T.length + 1 := by
  have h := (sp_ks_insp (T := T) (j := j) (k := k) (v := v)).length_eq
  unfold sp_ks at h
  rw [List.length_map, List.length_cons, List.length_map] at h
  exact h
theorem sp_ins_ok {T : List (Nat × Int32)} {j k : Nat} {v : Int32} (h : sp_okT T) (hk : k ∉ sp_ks T) (hk2 : k < 20) (hv : z_vl v) : sp_okT (sp_ins T j k v) := by
  refine ⟨sp_ks_insp.nodup_iff.mpr (List.nodup_cons.mpr ⟨hk, h.1⟩), fun p hp => ?_⟩
  unfold sp_ins at hp
  rcases List.mem_append.mp hp with z | z
  · exact h.2 p (List.mem_of_mem_take z)
  · rcases List.mem_cons.mp z with z | z
    · subst z; exact ⟨hk2, hv⟩
    · exact h.2 p (List.mem_of_mem_drop z)
theorem sp_lk_ins {T : List (Nat × Int32)} {j k i : Nat} {v : Int32} (hk : k ∉ sp_ks T) : sp_lk (sp_ins T j k v) i = if i = k then v else sp_lk T i := by
  unfold sp_ins
  by_cases e : i = k
  · subst e
    rw [if_pos rfl, sp_lk_app (fun z => hk (by unfold sp_ks at z ⊢; rw [List.map_take] at z; exact List.mem_of_mem_take z))]
    exact if_pos rfl
  · rw [if_neg e]
    have h1 : sp_lk (T.take j ++ (k, v) :: T.drop j) i = sp_lk (T.take j ++ T.drop j) i := sp_lk_appL (if_neg (fun z => e z.symm))
    rw [h1, List.take_append_drop]
theorem sp_ks_st {T : List (Nat × Int32)} {k : Nat} {v : Int32} : sp_ks (sp_st T k v) = sp_ks T := by
  unfold sp_ks sp_st
  rw [List.map_map]
  refine List.map_congr_left (fun p _ => ?_)
  show (if p.1 = k then (p.1, v) else p).1 = p.1
  split <;> rfl
theorem sp_st_len {T : List (Nat × Int32)} {k : Nat} {v : Int32} : (sp_st T k v).length = T.length := List.length_map ..
theorem sp_st_ok {T : List (Nat × Int32)} {k : Nat} {v : Int32} (h : sp_okT T) (hv : z_vl v) : sp_okT (sp_st T k v) := by
  refine ⟨by rw [sp_ks_st]; exact h.1, fun p hp => ?_⟩
  unfold sp_st at hp
  obtain ⟨q, hq, rfl⟩ := List.mem_map.mp hp
  split
  · exact ⟨(h.2 q hq).1, hv⟩
  · exact h.2 q hq
theorem sp_lk_st : ∀ {T : List (Nat × Int32)} {k i : Nat} {v : Int32}, k ∈ sp_ks T → sp_lk (sp_st T k v) i = if i = k then v else sp_lk T i
  | [], _, _, _, h => by cases h
  | p :: T, k, i, v, h => by
    show (if (if p.1 = k then (p.1, v) else p).1 = i then (if p.1 = k then (p.1, v) else p).2 else sp_lk (sp_st T k v) i) = (if i = k then v else if p.1 = i then p.2 else sp_lk T i)
    by_cases hp : p.1 = k
    · rw [if_pos hp]
      by_cases hi : i = k
      · rw [if_pos hi]; exact if_pos (hp.trans hi.symm)
      · rw [if_neg hi, if_neg (fun z => hi (z.symm.trans hp)), if_neg (fun z => hi (z.symm.trans hp))]
        by_cases hk : k ∈ sp_ks T
        · rw [sp_lk_st hk, if_neg hi]
        · refine congrArg (fun z => sp_lk z i) ?_
          unfold sp_st
          refine (List.map_congr_left (fun q hq => if_neg (fun z => hk ?_))).trans (List.map_id _)
          rw [← z]
          exact List.mem_map.mpr ⟨q, hq, rfl⟩
    · rw [if_neg hp]
      have hk : k ∈ sp_ks T := by
        rcases List.mem_cons.mp h with z | z
        · exact absurd z.symm hp
        · exact z
      by_cases hi : i = k
      · subst hi
        rw [if_neg hp, if_pos rfl, sp_lk_st hk, if_pos rfl]
      · rw [if_neg hi, sp_lk_st hk, if_neg hi]
theorem sp_go_ok {T : List (Nat × Int32)} {k : Nat} (h : sp_okT T) : sp_okT (sp_go T k) :=
  ⟨h.1.sublist (List.filter_sublist.map _), fun p hp => h.2 p (List.mem_filter.mp hp).1⟩
theorem sp_lk_go : ∀ {T : List (Nat × Int32)} {k i : Nat}, sp_lk (sp_go T k) i = if i = k then -1000 else sp_lk T i
  | [], k, i => by
    show (-1000 : Int32) = if i = k then -1000 else -1000
    split <;> rfl
  | p :: T, k, i => by
    unfold sp_go
    rw [List.filter_cons]
    by_cases hp : p.1 = k
    · rw [if_neg (by rw [hp, beq_self_eq_true]; exact Bool.false_ne_true)]
      have ih := sp_lk_go (T := T) (k := k) (i := i)
      unfold sp_go at ih
      rw [ih]
      by_cases hi : i = k
      · rw [if_pos hi, if_pos hi]
      · rw [if_neg hi, if_neg hi]
        exact (if_neg (fun z => hi (z.symm.trans hp))).symm
    · rw [if_pos (by rw [beq_false_of_ne hp]; rfl)]
      have ih := sp_lk_go (T := T) (k := k) (i := i)
      unfold sp_go at ih
      show (if p.1 = i then p.2 else sp_lk _ i) = (if i = k then -1000 else if p.1 = i then p.2 else sp_lk T i)
      rw [ih]
      by_cases hi : i = k
      · rw [if_pos hi, if_neg (fun z => hp (z.trans hi)), if_pos hi]
      · rw [if_neg hi, if_neg hi]
theorem sp_go_no {T : List (Nat × Int32)} {k : Nat} (h : k ∉ sp_ks T) : sp_go T k = T := by
  unfold sp_go
  refine List.filter_eq_self.mpr (fun p hp => ?_)
  rw [beq_false_of_ne (fun z => h (by rw [← z]; exact List.mem_map.mpr ⟨p, hp, rfl⟩))]
  rfl
theorem sp_pt_ok {b : Bool} {T : List (Nat × Int32)} {k : Nat} {v : Int32} (h : sp_okT T) (hk2 : k < 20) (hv : z_vl v) : sp_okT (sp_pt b T k v) := by
  unfold sp_pt
  split
  · exact sp_ins_ok h ((sp_lk_iff h).mp (by assumption)) hk2 hv
  · exact sp_st_ok h hv
theorem sp_memk {T : List (Nat × Int32)} {k : Nat} (h : sp_okT T) (e : ¬ sp_lk T k = -1000) : k ∈ sp_ks T := Decidable.of_not_not (fun z => e (sp_lk_no z))
theorem sp_lk_pt {b : Bool} {T : List (Nat × Int32)} {k i : Nat} {v : Int32} (h : sp_okT T) : sp_lk (sp_pt b T k v) i = if i = k then v else sp_lk T i := by
  unfold sp_pt
  split
  · exact sp_lk_ins ((sp_lk_iff h).mp (by assumption))
  · exact sp_lk_st (sp_memk h (by assumption))
theorem sp_okT.len {T : List (Nat × Int32)} (h : sp_okT T) : T.length ≤ 20 := by
  have h1 := z_nodup_le 20 (sp_ks T) h.1 (fun x hx => by
    obtain ⟨p, hp, rfl⟩ := List.mem_map.mp hx
    exact (h.2 p hp).1)
  unfold sp_ks at h1
  rw [List.length_map] at h1
  exact h1
abbrev sp_ri2 (T : List (Nat × Int32)) : Prop := (sp_ks T).Pairwise (· < ·)
theorem sp_at_le {T : List (Nat × Int32)} {k : Nat} : ∀ {n : Nat}, sp_at T k n ≤ n
  | 0 => Nat.le_refl _
  | n + 1 => by
    unfold sp_at
    split
    · exact Nat.le_succ_of_le sp_at_le
    · exact Nat.le_refl _
theorem sp_at_hi {T : List (Nat × Int32)} {k : Nat} : ∀ {n : Nat} (i : Nat), sp_at T k n ≤ i → i < n → k < ((T[i]?).map Prod.fst).getD 0
  | 0, i, _, h => absurd h (Nat.not_lt_zero _)
  | n + 1, i, h1, h2 => by
    unfold sp_at at h1
    by_cases c : k < ((T[n]?).map Prod.fst).getD 0
    · rw [if_pos c] at h1
      by_cases e : i = n
      · rw [e]; exact c
      · exact sp_at_hi i h1 (by omega)
    · rw [if_neg c] at h1
      omega
theorem sp_at_lo {T : List (Nat × Int32)} {k : Nat} : ∀ {n : Nat}, 0 < sp_at T k n → ¬ k < ((T[sp_at T k n - 1]?).map Prod.fst).getD 0
  | 0, h => absurd h (Nat.lt_irrefl 0)
  | n + 1, h => by
    unfold sp_at at h ⊢
    by_cases c : k < ((T[n]?).map Prod.fst).getD 0
    · rw [if_pos c] at h ⊢
      exact sp_at_lo h
    · rw [if_neg c]
      exact c
theorem sp_gk {T : List (Nat × Int32)} {i : Nat} (h : i < T.length) : ((T[i]?).map Prod.fst).getD 0 = (sp_ks T)[i]'(by unfold sp_ks; rw [List.length_map]; exact h) := by
  unfold sp_ks
  rw [List.getElem_map, List.getElem?_eq_getElem h]
  rfl
theorem sp_ins_ri {T : List (Nat × Int32)} {k : Nat} {v : Int32} (h : sp_ri2 T) (hk : k ∉ sp_ks T) : sp_ri2 (sp_ins T (sp_at T k T.length) k v) := by
  have hl : (sp_ks T).length = T.length := List.length_map ..
  have hle := sp_at_le (T := T) (k := k) (n := T.length)
  have hp := List.pairwise_iff_getElem.mp h
  have lo : ∀ x ∈ (sp_ks T).take (sp_at T k T.length), x < k := by
    intro x hx
    obtain ⟨i, hi, rfl⟩ := List.mem_iff_getElem.mp hx
    rw [List.length_take] at hi
    rw [List.getElem_take]
    have h0 : 0 < sp_at T k T.length := by omega
    have h1 := sp_at_lo h0
    rw [sp_gk (by omega)] at h1
    have h2 : (sp_ks T)[i]'(by omega) ≤ (sp_ks T)[sp_at T k T.length - 1]'(by omega) := by
      by_cases e : i = sp_at T k T.length - 1
      · exact Nat.le_of_eq (by congr 1)
      · exact Nat.le_of_lt (hp i _ (by omega) (by omega) (by omega))
    have h3 : (sp_ks T)[i]'(by omega) ≠ k := fun z => hk (by rw [← z]; exact List.getElem_mem _)
    omega
  have hi : ∀ x ∈ (sp_ks T).drop (sp_at T k T.length), k < x := by
    intro x hx
    obtain ⟨i, hi, rfl⟩ := List.mem_iff_getElem.mp hx
    rw [List.length_drop] at hi
    rw [List.getElem_drop]
    have h1 := sp_at_hi (T := T) (k := k) (n := T.length) (sp_at T k T.length + i) (by omega) (by omega)
    rw [sp_gk (by omega)] at h1
    exact h1
  show (sp_ks (sp_ins T _ k v)).Pairwise (· < ·)
  rw [sp_ks_ins]
  refine List.pairwise_append.mpr ⟨h.sublist (List.take_sublist _ _), List.pairwise_cons.mpr ⟨hi, h.sublist (List.drop_sublist _ _)⟩, fun a ha b hb => ?_⟩
  have h1 := lo a ha
  rcases List.mem_cons.mp hb with z | z
  · rw [z]; exact h1
  · exact Nat.lt_trans h1 (hi b z)
theorem sp_pt_ri {T : List (Nat × Int32)} {k : Nat} {v : Int32} (h : sp_okT T) (h2 : sp_ri2 T) : sp_ri2 (sp_pt true T k v) := by
  unfold sp_pt
  split
  · exact sp_ins_ri h2 ((sp_lk_iff h).mp (by assumption))
  · show (sp_ks (sp_st T k v)).Pairwise (· < ·)
    rw [sp_ks_st]
    exact h2
theorem sp_go_ri {T : List (Nat × Int32)} {k : Nat} (h : sp_ri2 T) : sp_ri2 (sp_go T k) := h.sublist (List.filter_sublist.map _)
abbrev sp_O : Type := Option Int32 × List (Nat × Int32) × (Nat → Int32)
def sp_put (b : Bool) (T : List (Nat × Int32)) (c : Nat → Int32) (k : Nat) (v : Int32) : sp_O := (some (sp_lk T k), sp_pt b T k v, z_bp c 5)
def sp_del (T : List (Nat × Int32)) (c : Nat → Int32) (k : Nat) : sp_O := (some (sp_lk T k), sp_go T k, z_bp c 6)
def sp_pia (b : Bool) (T : List (Nat × Int32)) (c : Nat → Int32) (k : Nat) (v : Int32) : sp_O := if sp_lk T k = -1000 then (some (-1000), sp_pt b T k v, z_bp c 5) else (some (sp_lk T k), T, c)
def sp_rep (b : Bool) (T : List (Nat × Int32)) (c : Nat → Int32) (k : Nat) (v : Int32) : sp_O := if sp_lk T k = -1000 then (some (-1000), T, c) else (some (sp_lk T k), sp_pt b T k v, z_bp c 5)
def sp_rif (b : Bool) (T : List (Nat × Int32)) (c : Nat → Int32) (k : Nat) (o v : Int32) : sp_O := if sp_lk T k = o then (some 1, sp_pt b T k v, z_bp c 5) else (some 0, T, c)
def sp_rmp (T : List (Nat × Int32)) (c : Nat → Int32) (k : Nat) (v : Int32) : sp_O := if sp_lk T k = v then (some 1, sp_go T k, z_bp c 6) else (some 0, T, c)
def sp_bec (b : Bool) (T : List (Nat × Int32)) (c : Nat → Int32) (k : Nat) (o : Option Int32) : sp_O := match o with
  | none => (none, T, c)
  | some y => if y = -1000 then (if sp_lk T k = -1000 then (some y, T, c) else (some y, sp_go T k, z_bp c 6)) else (some y, sp_pt b T k y, z_bp c 5)
def sp_cia (b : Bool) (T : List (Nat × Int32)) (c : Nat → Int32) (k : Nat) (r n : Int32) : sp_O := if sp_lk T k = -1000 then sp_bec b T c k (q_rt r (nI k) 0 n) else (some (sp_lk T k), T, c)
def sp_cip (b : Bool) (T : List (Nat × Int32)) (c : Nat → Int32) (k : Nat) (r n : Int32) : sp_O := if sp_lk T k = -1000 then (some (-1000), T, c) else sp_bec b T c k (q_rt r (nI k) (sp_lk T k) n)
def sp_cmp (b : Bool) (T : List (Nat × Int32)) (c : Nat → Int32) (k : Nat) (r n : Int32) : sp_O := sp_bec b T c k (q_rt r (nI k) (q_d (sp_lk T k)) n)
def sp_mrg (b : Bool) (T : List (Nat × Int32)) (c : Nat → Int32) (k : Nat) (v r : Int32) : sp_O := if sp_lk T k = -1000 then (some v, sp_pt b T k v, z_bp c 5) else sp_bec b T c k (q_rt r (nI k) (sp_lk T k) v)
end ZSp
end ZM1
section ZM2
section ZTb
def z_sq (g : Nat → Int32) (K : List Nat) : Prop := ∀ j k, K[j]? = some k → g j = nI k
def z_tba (f g : Nat → Int32) (T : List (Nat × Int32)) : Prop := sp_okT T ∧ (∀ k, k < 20 → f k = sp_lk T k) ∧ z_sq g (sp_ks T)
theorem z_tba.len {f g : Nat → Int32} {T : List (Nat × Int32)} (h : z_tba f g T) : T.length ≤ 20 := h.1.len
theorem z_tba.key {f g : Nat → Int32} {T : List (Nat × Int32)} {j : Nat} {p : Nat × Int32} (h : z_tba f g T) (hj : T[j]? = some p) : g j = nI p.1 := h.2.2 j p.1 (by unfold sp_ks; rw [List.getElem?_map, hj]; rfl)
theorem z_tba.room {f g : Nat → Int32} {T : List (Nat × Int32)} {k : Nat} (h : z_tba f g T) (hk : k < 20) (e : sp_lk T k = -1000) : T.length < 20 := by
  have h1 := (sp_ins_ok (j := 0) (v := 0) h.1 ((sp_lk_iff h.1).mp e) hk ⟨by decide, by decide⟩).len
  rw [sp_ins_len] at h1
  omega
theorem z_sq.nil {g : Nat → Int32} : z_sq g [] := fun j k h => by cases h
theorem sp_ksl {T : List (Nat × Int32)} : (sp_ks T).length = T.length := List.length_map ..
def z_sh (g g' : Nat → Int32) (j n : Nat) : Prop := (∀ i, i < j → g' i = g i) ∧ ∀ i, j ≤ i → i < n → g' (i + 1) = g i
theorem z_sh.rf {g : Nat → Int32} {n : Nat} : z_sh g g n n := ⟨fun _ _ => rfl, fun i h1 h2 => absurd h2 (by omega)⟩
theorem z_sh.step {g g' : Nat → Int32} {j n : Nat} (h : z_sh g g' j n) (hj : 0 < j) : z_sh g (z_ui g' j (g' (j - 1))) (j - 1) n := by
  refine ⟨fun i hi => ?_, fun i h1 h2 => ?_⟩
  · rw [z_ui_ne (by omega)]; exact h.1 i (by omega)
  · by_cases c : i = j - 1
    · subst c
      rw [show j - 1 + 1 = j by omega, z_ui_self]
      exact h.1 _ (by omega)
    · rw [z_ui_ne (by omega)]
      exact h.2 i (by omega) h2
theorem z_sh.ins {g g' : Nat → Int32} {j k : Nat} {K : List Nat} (h : z_sh g g' j K.length) (hj : j ≤ K.length) (hs : z_sq g K) : z_sq (z_ui g' j (nI k)) (K.take j ++ k :: K.drop j) := by
  intro i q hq
  have hl : (K.take j).length = j := by rw [List.length_take]; omega
  by_cases c : i < j
  · rw [List.getElem?_append_left (by omega), List.getElem?_take, if_pos c] at hq
    rw [z_ui_ne (by omega), h.1 i c]
    exact hs i q hq
  · rw [List.getElem?_append_right (by omega), hl] at hq
    by_cases e : i = j
    · subst e
      rw [Nat.sub_self] at hq
      cases hq
      rw [z_ui_self]
    · obtain ⟨d, rfl⟩ : ∃ d, i = j + d + 1 := ⟨i - j - 1, by omega⟩
      rw [show j + d + 1 - j = d + 1 by omega, List.getElem?_cons_succ, List.getElem?_drop] at hq
      have hlt := (List.getElem?_eq_some_iff.mp hq).1
      rw [z_ui_ne (by omega), h.2 (j + d) (by omega) hlt]
      exact hs _ q hq
theorem z_sq.keep {g g' : Nat → Int32} {i k q : Nat} {K : List Nat} (hs : z_sq g K) (hi : K[i]? = some q) (h : z_sq g' ((K.take i).filter fun x => !(x == k))) (hr : ∀ x, i ≤ x → g' x = g x) (hq : ¬ q = k) : z_sq (z_ui g' ((K.take i).filter fun x => !(x == k)).length (g' i)) ((K.take (i + 1)).filter fun x => !(x == k)) ∧ ((K.take (i + 1)).filter fun x => !(x == k)).length = ((K.take i).filter fun x => !(x == k)).length + 1 := by
  have e : (K.take (i + 1)).filter (fun x => !(x == k)) = (K.take i).filter (fun x => !(x == k)) ++ [q] := by
    rw [List.take_add_one, hi, List.filter_append]
    show _ ++ List.filter _ [q] = _
    rw [List.filter_cons, if_pos (by rw [beq_false_of_ne hq]; rfl)]
    rfl
  rw [e]
  refine ⟨fun j x hx => ?_, by rw [List.length_append]; rfl⟩
  by_cases c : j < ((K.take i).filter fun x => !(x == k)).length
  · rw [List.getElem?_append_left c] at hx
    rw [z_ui_ne (by omega)]
    exact h j x hx
  · rw [List.getElem?_append_right (by omega)] at hx
    have hj : j = ((K.take i).filter fun x => !(x == k)).length := by
      have := (List.getElem?_eq_some_iff.mp hx).1
      have l1 : [q].length = 1 := rfl
      omega
    subst hj
    rw [Nat.sub_self] at hx
    cases hx
    rw [z_ui_self, hr i (Nat.le_refl _)]
    exact hs i q hi
theorem z_sq.skip {i k q : Nat} {K : List Nat} (hi : K[i]? = some q) (hq : q = k) : (K.take (i + 1)).filter (fun x => !(x == k)) = (K.take i).filter (fun x => !(x == k)) := by
  rw [List.take_add_one, hi, List.filter_append]
  show _ ++ List.filter _ [q] = _
  rw [List.filter_cons, if_neg (by rw [hq, beq_self_eq_true]; exact Bool.false_ne_true)]
  exact List.append_nil _
theorem sp_fl_le {i k : Nat} {K : List Nat} : ((K.take i).filter fun x => !(x == k)).length ≤ i := Nat.le_trans (List.length_filter_le ..) (by rw [List.length_take]; omega)
theorem sp_ks_go {T : List (Nat × Int32)} {k : Nat} : sp_ks (sp_go T k) = (sp_ks T).filter fun x => !(x == k) := by
  unfold sp_ks sp_go
  rw [List.filter_map]
  rfl
theorem sp_go_len {T : List (Nat × Int32)} {k : Nat} : (sp_go T k).length = ((sp_ks T).filter fun x => !(x == k)).length := by rw [← sp_ks_go, sp_ksl]
theorem z_tba.go {f g g' : Nat → Int32} {T : List (Nat × Int32)} {k : Nat} (h : z_tba f g T) (hs : z_sq g' ((sp_ks T).filter fun x => !(x == k))) : z_tba (z_ui f k (-1000)) g' (sp_go T k) := by
  refine ⟨sp_go_ok h.1, fun i hi => ?_, by rw [sp_ks_go]; exact hs⟩
  rw [sp_lk_go]
  by_cases c : i = k
  · subst c; rw [z_ui_self, if_pos rfl]
  · rw [z_ui_ne c, if_neg c]; exact h.2.1 i hi
theorem z_tba.ins {f g g' : Nat → Int32} {T : List (Nat × Int32)} {k j : Nat} {v : Int32} (h : z_tba f g T) (hk : k < 20) (e : sp_lk T k = -1000) (hv : z_vl v) (hs : z_sq g' ((sp_ks T).take j ++ k :: (sp_ks T).drop j)) : z_tba (z_ui f k v) g' (sp_ins T j k v) := by
  have hn := (sp_lk_iff h.1).mp e
  refine ⟨sp_ins_ok h.1 hn hk hv, fun i hi => ?_, by rw [sp_ks_ins]; exact hs⟩
  rw [sp_lk_ins hn]
  by_cases c : i = k
  · subst c; rw [z_ui_self, if_pos rfl]
  · rw [z_ui_ne c, if_neg c]; exact h.2.1 i hi
theorem z_tba.st {f g : Nat → Int32} {T : List (Nat × Int32)} {k : Nat} {v : Int32} (h : z_tba f g T) (e : ¬ sp_lk T k = -1000) (hv : z_vl v) : z_tba (z_ui f k v) g (sp_st T k v) := by
  refine ⟨sp_st_ok h.1 hv, fun i hi => ?_, by rw [sp_ks_st]; exact h.2.2⟩
  rw [sp_lk_st (sp_memk h.1 e)]
  by_cases c : i = k
  · subst c; rw [z_ui_self, if_pos rfl]
  · rw [z_ui_ne c, if_neg c]; exact h.2.1 i hi
theorem z_tba.nil {f g : Nat → Int32} (h : ∀ k, k < 20 → f k = -1000) : z_tba f g [] := ⟨⟨List.nodup_nil, fun p hp => by cases hp⟩, h, z_sq.nil⟩
theorem sp_at_eq {T : List (Nat × Int32)} {p : Nat × Int32} {k j : Nat} (hj : 0 < j) (hp : T[j - 1]? = some p) (h : ¬ k < p.1) : sp_at T k j = j := by
  obtain ⟨i, rfl⟩ : ∃ i, j = i + 1 := ⟨j - 1, by omega⟩
  rw [Nat.add_sub_cancel] at hp
  unfold sp_at
  rw [hp]
  exact if_neg h
theorem sp_at_st {T : List (Nat × Int32)} {p : Nat × Int32} {k j : Nat} (hj : 0 < j) (hp : T[j - 1]? = some p) (h : k < p.1) : sp_at T k j = sp_at T k (j - 1) := by
  obtain ⟨i, rfl⟩ : ∃ i, j = i + 1 := ⟨j - 1, by omega⟩
  rw [Nat.add_sub_cancel] at hp ⊢
  show (if k < ((T[i]?).map Prod.fst).getD 0 then sp_at T k i else i + 1) = _
  rw [hp]
  exact if_pos h
theorem sp_gt {α : Type} {T : List α} {j : Nat} (h : j < T.length) : ∃ p, T[j]? = some p ∧ p ∈ T := ⟨T[j], List.getElem?_eq_getElem h, List.getElem_mem h⟩
def sp_sk (T : List (Nat × Int32)) (n : Nat) : List Nat := (List.range n).filter fun k => !(sp_lk T k == -1000)
def sp_cp (b : Bool) (T : List (Nat × Int32)) : List (Nat × Int32) := cond b ((sp_sk T 20).map fun k => (k, sp_lk T k)) T
theorem sp_sk_s {T : List (Nat × Int32)} {n : Nat} (h : ¬ sp_lk T n = -1000) : sp_sk T (n + 1) = sp_sk T n ++ [n] := by
  unfold sp_sk
  rw [List.range_succ, List.filter_append, List.filter_cons, if_pos (by rw [beq_false_of_ne h]; rfl)]
  rfl
theorem sp_sk_n {T : List (Nat × Int32)} {n : Nat} (h : sp_lk T n = -1000) : sp_sk T (n + 1) = sp_sk T n := by
  unfold sp_sk
  rw [List.range_succ, List.filter_append, List.filter_cons, if_neg (by rw [h]; decide)]
  exact List.append_nil _
theorem z_sq.push {g : Nat → Int32} {K : List Nat} {k : Nat} (h : z_sq g K) : z_sq (z_ui g K.length (nI k)) (K ++ [k]) := by
  intro j x hx
  by_cases c : j < K.length
  · rw [List.getElem?_append_left c] at hx
    rw [z_ui_ne (by omega)]
    exact h j x hx
  · rw [List.getElem?_append_right (by omega)] at hx
    have hj : j = K.length := by
      have := (List.getElem?_eq_some_iff.mp hx).1
      have l1 : [k].length = 1 := rfl
      omega
    subst hj
    rw [Nat.sub_self] at hx
    cases hx
    rw [z_ui_self]
theorem sp_sk_mem {T : List (Nat × Int32)} (h : sp_okT T) {k : Nat} : k ∈ sp_sk T 20 ↔ k ∈ sp_ks T := by
  unfold sp_sk
  rw [List.mem_filter, List.mem_range]
  constructor
  · rintro ⟨-, h2⟩
    refine sp_memk h (fun z => ?_)
    rw [z] at h2
    exact absurd h2 (by decide)
  · intro hk
    obtain ⟨p, hp, rfl⟩ := List.mem_map.mp hk
    exact ⟨(h.2 p hp).1, by rw [beq_false_of_ne (sp_vln (sp_lk_vl h.2 hk))]; rfl⟩
theorem sp_sk_nd {T : List (Nat × Int32)} : (sp_sk T 20).Nodup := List.nodup_range.sublist List.filter_sublist
theorem sp_nd_len {A B : List Nat} (ha : A.Nodup) (h : ∀ x, x ∈ A → x ∈ B) : A.length ≤ B.length := by
  induction A generalizing B with
  | nil => exact Nat.zero_le _
  | cons a A ih =>
    rw [List.nodup_cons] at ha
    have h1 := ih (B := B.erase a) ha.2 (fun x hx => by
      refine (List.mem_erase_of_ne (fun z => ?_)).mpr (h x (List.mem_cons_of_mem _ hx))
      subst z
      exact ha.1 hx)
    have h2 := List.length_erase_of_mem (h a List.mem_cons_self)
    have h3 : 0 < B.length := List.length_pos_of_mem (h a List.mem_cons_self)
    rw [List.length_cons]
    omega
theorem sp_ks_cp {T : List (Nat × Int32)} : sp_ks (sp_cp true T) = sp_sk T 20 := by
  show List.map Prod.fst (List.map _ _) = _
  rw [List.map_map]
  exact List.map_id _
theorem sp_cp_len {b : Bool} {T : List (Nat × Int32)} (h : sp_okT T) : (sp_cp b T).length = T.length := by
  cases b with
  | false => rfl
  | true =>
    have e : (sp_cp true T).length = (sp_sk T 20).length := List.length_map ..
    rw [e, ← sp_ksl (T := T)]
    exact Nat.le_antisymm (sp_nd_len sp_sk_nd (fun x hx => (sp_sk_mem h).mp hx)) (sp_nd_len h.1 (fun x hx => (sp_sk_mem h).mpr hx))
theorem sp_cp_ok {b : Bool} {T : List (Nat × Int32)} (h : sp_okT T) : sp_okT (sp_cp b T) := by
  cases b with
  | false => exact h
  | true =>
    refine ⟨by rw [sp_ks_cp]; exact sp_sk_nd, fun p hp => ?_⟩
    obtain ⟨k, hk, rfl⟩ := List.mem_map.mp (show p ∈ (sp_sk T 20).map (fun k => (k, sp_lk T k)) from hp)
    have hk2 := (sp_sk_mem h).mp hk
    obtain ⟨q, hq, rfl⟩ := List.mem_map.mp hk2
    exact ⟨(h.2 q hq).1, sp_lk_vl h.2 hk2⟩
theorem sp_lk_cp {b : Bool} {T : List (Nat × Int32)} (h : sp_okT T) {k : Nat} : sp_lk (sp_cp b T) k = sp_lk T k := by
  cases b with
  | false => rfl
  | true =>
    by_cases hk : k ∈ sp_ks T
    · exact sp_lk_mem (p := (k, sp_lk T k)) (sp_cp_ok (b := true) h).1 (List.mem_map.mpr ⟨k, (sp_sk_mem h).mpr hk, rfl⟩)
    · rw [sp_lk_no hk]
      exact sp_lk_no (fun z => hk ((sp_sk_mem h).mp (by rw [sp_ks_cp] at z; exact z)))
def sp_lik (T U : List (Nat × Int32)) : Bool := (List.range 20).all fun k => sp_lk T k == sp_lk U k
theorem sp_lik1 {T U : List (Nat × Int32)} (h : ∀ k, k < 20 → sp_lk T k = sp_lk U k) : sp_lik T U = true := by
  unfold sp_lik
  rw [List.all_eq_true]
  intro k hk
  rw [h k (List.mem_range.mp hk)]
  exact beq_self_eq_true _
theorem sp_lik0 {T U : List (Nat × Int32)} {k : Nat} (hk : k < 20) (h : ¬ sp_lk T k = sp_lk U k) : sp_lik T U = false := by
  unfold sp_lik
  rw [List.all_eq_false]
  exact ⟨k, List.mem_range.mpr hk, by rw [beq_false_of_ne h]; exact Bool.false_ne_true⟩
theorem q_rt_r {r k v n y : Int32} (hv : z_vl v) (hn : z_vl n) (h : q_rt r k v n = some y) : y = -1000 ∨ z_vl y := by
  unfold q_rt at h
  split at h
  · cases h; exact Or.inr (q_bdr _)
  split at h
  · cases h
    unfold q_mx
    split
    · exact Or.inr hn
    · exact Or.inr hv
  split at h
  · cases h
    cases q_ev (q_bd (v + n)) with
    | true => exact Or.inr (q_bdr _)
    | false => exact Or.inl rfl
  split at h
  · cases h; exact Or.inl rfl
  split at h
  · revert h
    cases q_ev (q_bd (v + n)) with
    | true => intro h; cases h; exact Or.inr (q_bdr _)
    | false => intro h; cases h
  · cases h; exact Or.inr (q_bdr _)
theorem q_rt_v {r k v n y : Int32} (hr : ¬ r = 2) (hr3 : ¬ r = 3) (hv : z_vl v) (hn : z_vl n) (h : q_rt r k v n = some y) : z_vl y := by
  unfold q_rt at h
  rw [if_neg hr, if_neg hr3] at h
  split at h
  · cases h; exact q_bdr _
  split at h
  · cases h
    unfold q_mx
    split
    · exact hn
    · exact hv
  split at h
  · revert h
    cases q_ev (q_bd (v + n)) with
    | true => intro h; cases h; exact q_bdr _
    | false => intro h; cases h
  · cases h; exact q_bdr _
theorem q_gn {o : Option Int32} {m : Int32} (h : ∀ y, o = some y → ¬ y = m) (e : o.getD m = m) : o = none := by
  cases o with
  | none => rfl
  | some y => exact absurd e (h y rfl)
theorem q_gs {o : Option Int32} {m : Int32} (e : ¬ o.getD m = m) : o = some (o.getD m) := by
  cases o with
  | none => exact absurd rfl e
  | some y => rfl
theorem q_d_vl {T : List (Nat × Int32)} {k : Nat} (h : sp_okT T) : z_vl (q_d (sp_lk T k)) := by
  unfold q_d
  rcases sp_lk_r (k := k) h with z | z
  · rw [if_pos z]; exact ⟨by decide, by decide⟩
  · rw [if_neg (sp_vln z)]; exact z
theorem q_dn {v : Int32} (h : ¬ v = -1000) : q_d v = v := if_neg h
theorem q_rtm {r k v n y : Int32} (hv : z_vl v) (hn : z_vl n) (h : q_rt r k v n = some y) : ¬ y = -1001 := by
  rcases q_rt_r hv hn h with z | z
  · rw [z]; decide
  · exact q_vlo z
theorem sp_bec0 {b : Bool} {T : List (Nat × Int32)} {c : Nat → Int32} {k : Nat} (h : sp_lk T k = -1000) : sp_bec b T c k (some (-1000)) = (some (-1000), T, c) := by
  show (if (-1000 : Int32) = -1000 then (if sp_lk T k = -1000 then (some (-1000), T, c) else (some (-1000), sp_go T k, z_bp c 6)) else (some (-1000), sp_pt b T k (-1000), z_bp c 5)) = _
  rw [if_pos rfl, if_pos h]
theorem sp_bec1 {b : Bool} {T : List (Nat × Int32)} {c : Nat → Int32} {k : Nat} (h : ¬ sp_lk T k = -1000) : sp_bec b T c k (some (-1000)) = (some (-1000), sp_go T k, z_bp c 6) := by
  show (if (-1000 : Int32) = -1000 then (if sp_lk T k = -1000 then (some (-1000), T, c) else (some (-1000), sp_go T k, z_bp c 6)) else (some (-1000), sp_pt b T k (-1000), z_bp c 5)) = _
  rw [if_pos rfl, if_neg h]
end ZTb
end ZM2
section ZM3
section ZWk
theorem sp_hoS2 {c : Nat → Int32} {h : sp_H} {n : Nat} {x : Int32} {L : List Int32} (e : (sp_in h x).isSome = true) : sp_ho c h n (x :: L) = sp_ho (z_bp (z_bp c 1) 2) ((sp_in h x).getD h) (n + 1) L := by
  cases hh : sp_in h x with
  | none => rw [hh] at e; cases e
  | some h2 => rw [sp_hoS hh]; rfl
theorem sp_hoN2 {c : Nat → Int32} {h : sp_H} {n : Nat} {x : Int32} {L : List Int32} (e : (sp_in h x).isSome = false) : sp_ho c h n (x :: L) = (none, z_bp (z_bp c 1) 2, (sp_in h x).getD h) := by
  cases hh : sp_in h x with
  | none => rw [sp_hoN hh]; rfl
  | some h2 => rw [hh] at e; cases e
theorem z_row.drop {N : Nat} {m : Int32} {f : Nat → Int32} {B : List Int32} {j : Nat} (h : z_row N m f B) (hj : j < B.length) : B.drop j = f j :: B.drop (j + 1) := by
  rw [List.drop_eq_getElem_cons hj, h.at (List.getElem?_eq_getElem hj)]
theorem sp_drop_nil {α : Type} {B : List α} {j : Nat} (h : ¬ j < B.length) : B.drop j = [] := List.drop_eq_nil_of_le (Nat.not_lt.mp h)
theorem z_row.tail {f f' : Nat → Int32} {B : List Int32} (h : z_row 10 (nI B.length) f B) (hl : B.length = 10) (hm : ∀ i, i < 9 → f' i = f (i + 1)) : z_row 10 (nI B.tail.length) f' B.tail := by
  have e : B.tail.length = 9 := by rw [List.length_tail, hl]
  refine ⟨rfl, by omega, fun j hj => ?_⟩
  rw [List.getElem?_tail, h.2.2 (j + 1) (by omega), hm j (by omega)]
theorem sp_rec_l {B : List Int32} {x : Int32} (h : B.length < 10) : sp_rec B x = B ++ [x] := if_pos h
theorem sp_rec_g {B : List Int32} {x : Int32} (h : ¬ B.length < 10) : sp_rec B x = B.tail ++ [x] := if_neg h
def sp_tel (h : sp_H) (w : Int32) : Int32 := if w = 0 then h.1.2.1 else if w = 1 then h.1.2.2.1 else if w = 2 then h.1.2.2.2 else h.1.1
theorem sp_tel3 {h : sp_H} {w : Int32} (hw : w.toInt < 0 ∨ 2 < w.toInt) : sp_tel h w = h.1.1 := by
  unfold sp_tel
  rw [if_neg (fun z => by subst z; revert hw; decide), if_neg (fun z => by subst z; revert hw; decide), if_neg (fun z => by subst z; revert hw; decide)]
theorem sp_inN {h : sp_H} {x : Int32} (h1 : ¬ h.1.1 = -1000) (h2 : x = h.1.1) : sp_in h x = none := if_pos ⟨h1, h2⟩
theorem sp_inS {h : sp_H} {x : Int32} (h1 : ¬ (¬ h.1.1 = -1000 ∧ x = h.1.1)) : sp_in h x = some ((h.1.1, h.1.2.1 + 1, h.1.2.2.1 + x, x), sp_rec h.2 x) := if_neg h1
def sp_no (t : Int32) (v : Int32) : Bool := q_tt t v 0 == some 0
theorem sp_no1 {t v : Int32} (h : (q_tt t v 0).getD (-1001) = 0) : sp_no t v = true := by
  unfold sp_no
  cases e : q_tt t v 0 with
  | none => rw [e] at h; exact absurd h (by decide)
  | some y =>
    rw [e] at h
    have h : y = 0 := h
    rw [h]
    rfl
theorem sp_no0 {t v : Int32} (h : ¬ (q_tt t v 0).getD (-1001) = 0) : sp_no t v = false := by
  unfold sp_no
  cases e : q_tt t v 0 with
  | none => rfl
  | some y =>
    rw [e] at h
    have h : ¬ y = 0 := h
    refine beq_false_of_ne (fun z => h ?_)
    cases z
    rfl
theorem sp_ft1 {P : Int32 → Bool} {B : List Int32} {j : Nat} {v : Int32} (hj : B[j]? = some v) (h : P v = true) : (B.take (j + 1)).filter P = (B.take j).filter P ++ [v] := by
  rw [List.take_add_one, hj, List.filter_append]
  show _ ++ List.filter P [v] = _
  rw [List.filter_cons, if_pos h]
  rfl
theorem sp_ft0 {P : Int32 → Bool} {B : List Int32} {j : Nat} {v : Int32} (hj : B[j]? = some v) (h : P v = false) : (B.take (j + 1)).filter P = (B.take j).filter P := by
  rw [List.take_add_one, hj, List.filter_append]
  show _ ++ List.filter P [v] = _
  rw [List.filter_cons, if_neg (by rw [h]; exact Bool.false_ne_true)]
  exact List.append_nil _
theorem sp_ftg {P : Int32 → Bool} {B : List Int32} {j : Nat} {v : Int32} (hj : B[j]? = some v) (h : P v = true) : (B.filter P)[((B.take j).filter P).length]? = some v := by
  have e : B.filter P = (B.take j).filter P ++ (v :: (B.drop (j + 1)).filter P) := by
    have h1 : B = B.take j ++ v :: B.drop (j + 1) := by
      have h2 := List.drop_eq_getElem_cons (List.getElem?_eq_some_iff.mp hj).1
      rw [(List.getElem?_eq_some_iff.mp hj).2] at h2
      rw [← h2, List.take_append_drop]
    rw [h1]
    rw [List.filter_append, List.filter_cons, if_pos h]
    rw [← h1]
  rw [e, List.getElem?_append_right (Nat.le_refl _), Nat.sub_self]
  rfl
theorem sp_mid {α : Type} {A D : List α} {v : α} : A ++ v :: D = (A ++ [v]) ++ D := by rw [List.append_assoc]; rfl
theorem z_row.mid {N : Nat} {m : Int32} {f : Nat → Int32} {A D : List Int32} {v : Int32} (h : z_row N m f (A ++ v :: D)) : f A.length = v := h.at (by rw [List.getElem?_append_right (Nat.le_refl _), Nat.sub_self]; rfl)
theorem sp_cut {α : Type} {A D : List α} (h : ¬ A.length < (A ++ D).length) : D = [] := by
  rw [List.length_append] at h
  exact List.length_eq_zero_iff.mp (by omega)
theorem sp_cons {α : Type} {A D : List α} (h : A.length < (A ++ D).length) : ∃ v E, D = v :: E := by
  cases D with
  | nil => rw [List.append_nil] at h; exact absurd h (Nat.lt_irrefl _)
  | cons v E => exact ⟨v, E, rfl⟩
theorem sp_lmid {α : Type} {A D : List α} {v : α} : (A ++ v :: D).length = A.length + (D.length + 1) := by rw [List.length_append]; rfl
theorem z_row.put {N : Nat} {f : Nat → Int32} {A D : List Int32} {v y : Int32} (h : z_row N (nI (A ++ v :: D).length) f (A ++ v :: D)) : z_row N (nI (A ++ y :: D).length) (z_ui f A.length y) (A ++ y :: D) := by
  have e : (A ++ v :: D).set A.length y = A ++ y :: D := by
    rw [List.set_append_right _ _ (Nat.le_refl _), Nat.sub_self]
    rfl
  have h2 := h.set (j := A.length) (x := y)
  rw [e] at h2
  rw [sp_lmid] at h2 ⊢
  exact h2
theorem z_tba.put {f g : Nat → Int32} {A D : List (Nat × Int32)} {p : Nat × Int32} {y : Int32} (h : z_tba f g (A ++ p :: D)) (hy : z_vl y) : z_tba (z_ui f p.1 y) g (A ++ (p.1, y) :: D) := by
  have hk : sp_ks (A ++ (p.1, y) :: D) = sp_ks (A ++ p :: D) := by unfold sp_ks; rw [List.map_append, List.map_append]; rfl
  have hok : sp_okT (A ++ (p.1, y) :: D) := by
    refine ⟨by rw [hk]; exact h.1.1, fun q hq => ?_⟩
    rcases List.mem_append.mp hq with z | z
    · exact h.1.2 q (List.mem_append_left _ z)
    · rcases List.mem_cons.mp z with z | z
      · subst z; exact ⟨(h.1.2 p (List.mem_append_right _ List.mem_cons_self)).1, hy⟩
      · exact h.1.2 q (List.mem_append_right _ (List.mem_cons_of_mem _ z))
  refine ⟨hok, fun k hk20 => ?_, by rw [hk]; exact h.2.2⟩
  by_cases e : k = p.1
  · subst e
    rw [z_ui_self]
    exact (sp_lk_mem (p := (p.1, y)) hok.1 (List.mem_append_right _ List.mem_cons_self)).symm
  · rw [z_ui_ne e, h.2.1 k hk20]
    refine sp_lk_appL ?_
    show (if p.1 = k then p.2 else sp_lk D k) = (if p.1 = k then y else sp_lk D k)
    rw [if_neg (fun z => e z.symm), if_neg (fun z => e z.symm)]
theorem sp_gmid {α : Type} {A D : List α} {v : α} : (A ++ v :: D)[A.length]? = some v := by rw [List.getElem?_append_right (Nat.le_refl _), Nat.sub_self]; rfl
abbrev sp_prs (T : List (Nat × Int32)) : List Int32 := T.map fun p => 1000 * nI p.1 + p.2
def sp_spn (a b : Int32) (k : Nat) : Nat → List Int32
  | 0 => []
  | n + 1 => (a + nI k * b) :: sp_spn a b (k + 1) n
theorem sp_spnS {a b : Int32} {k n : Nat} : sp_spn a b k (n + 1) = (a + nI k * b) :: sp_spn a b (k + 1) n := rfl
theorem sp_stp {a b : Int32} {k : Nat} : a + nI k * b + b = a + nI (k + 1) * b := by
  rw [← nI_1, Int32.add_mul, Int32.one_mul, Int32.add_assoc]
theorem sp_spi {a b : Int32} {k : Nat} (ha : z_vl a) (hb : 1 ≤ b ∧ b ≤ 99) (hk : k ≤ 41) : (a + nI k * b).toInt = a.toInt + k * b.toInt := by
  have h1 := Int32.le_iff_toInt_le.mp ha.1
  have h2 := Int32.le_iff_toInt_le.mp ha.2
  have h3 := Int32.le_iff_toInt_le.mp hb.1
  have h4 := Int32.le_iff_toInt_le.mp hb.2
  rw [show (-999 : Int32).toInt = -999 from rfl] at h1
  rw [show (999 : Int32).toInt = 999 from rfl] at h2
  rw [show (1 : Int32).toInt = 1 from rfl] at h3
  rw [show (99 : Int32).toInt = 99 from rfl] at h4
  have hk2 : (k : Int) ≤ 41 := by omega
  have m1 : (k : Int) * b.toInt ≤ 41 * 99 := Int.mul_le_mul hk2 h4 (by omega) (by omega)
  have m2 : 0 ≤ (k : Int) * b.toInt := Int.mul_nonneg (by omega) (by omega)
  rw [Int32.toInt_add, Int32.toInt_mul, nI_toInt (by omega)]
  rw [Int.bmod_eq_of_le (n := (k : Int) * b.toInt) (by omega) (by omega)]
  exact Int.bmod_eq_of_le (by omega) (by omega)
theorem sp_spm {a t b : Int32} {k : Nat} (ha : z_vl a) (htv : z_vl t) (hb : 1 ≤ b ∧ b ≤ 99) (h40 : z_mny a t b ≤ 40) (hk : k ≤ 41) : a + nI k * b ≤ t ↔ k < (z_mny a t b).toNatClampNeg := by
  have h1 := Int32.le_iff_toInt_le.mp ha.1
  have h2 := Int32.le_iff_toInt_le.mp ha.2
  have h3 := Int32.le_iff_toInt_le.mp hb.1
  have h4 := Int32.le_iff_toInt_le.mp hb.2
  have h5 := Int32.le_iff_toInt_le.mp htv.1
  have h6 := Int32.le_iff_toInt_le.mp htv.2
  rw [show (-999 : Int32).toInt = -999 from rfl] at h1 h5
  rw [show (999 : Int32).toInt = 999 from rfl] at h2 h6
  rw [show (1 : Int32).toInt = 1 from rfl] at h3
  rw [show (99 : Int32).toInt = 99 from rfl] at h4
  rw [Int32.le_iff_toInt_le, sp_spi ha hb hk]
  unfold z_mny
  by_cases c : a ≤ t
  · have hc := Int32.le_iff_toInt_le.mp c
    rw [if_pos c]
    have hs : (t - a).toInt = t.toInt - a.toInt := by
      rw [Int32.toInt_sub]
      exact Int.bmod_eq_of_le (by omega) (by omega)
    have hd : ((t - a) / b).toInt = (t.toInt - a.toInt) / b.toInt := by
      rw [Int32.toInt_div, hs, Int.tdiv_eq_ediv_of_nonneg (by omega)]
      have e1 := Int.ediv_nonneg (a := t.toInt - a.toInt) (b := b.toInt) (by omega) (by omega)
      have e2 := Int.ediv_le_self (a := t.toInt - a.toInt) b.toInt (by omega)
      exact Int.bmod_eq_of_le (by omega) (by omega)
    have e1 := Int.ediv_nonneg (a := t.toInt - a.toInt) (b := b.toInt) (by omega) (by omega)
    have e2 := Int.ediv_le_self (a := t.toInt - a.toInt) b.toInt (by omega)
    have hp : ((t - a) / b + 1).toInt = (t.toInt - a.toInt) / b.toInt + 1 := by
      rw [Int32.toInt_add, hd, show (1 : Int32).toInt = 1 from rfl]
      exact Int.bmod_eq_of_le (by omega) (by omega)
    have hq : ((t - a) / b + 1).toNatClampNeg = ((t.toInt - a.toInt) / b.toInt + 1).toNat := by
      show ((t - a) / b + 1).toInt.toNat = _
      rw [hp]
    rw [hq]
    have key : (k : Int) ≤ (t.toInt - a.toInt) / b.toInt ↔ (k : Int) * b.toInt ≤ t.toInt - a.toInt := Int.le_ediv_iff_mul_le (by omega)
    omega
  · rw [if_neg c]
    have hc : ¬ a.toInt ≤ t.toInt := fun z => c (Int32.le_iff_toInt_le.mpr z)
    have m2 : 0 ≤ (k : Int) * b.toInt := Int.mul_nonneg (by omega) (by omega)
    show _ ↔ k < 0
    omega
theorem z_row.putM {N M p : Nat} {f : Nat → Int32} {A D : List Int32} {v y : Int32} (h : z_row N (nI M) f (A ++ v :: D)) (hM : M = (A ++ v :: D).length) (hp : p = A.length) : z_row N (nI M) (z_ui f p y) ((A ++ [y]) ++ D) := by
  subst hp
  rw [hM] at h ⊢
  have h2 := h.put (y := y)
  rw [← sp_mid]
  rw [sp_lmid] at h2 ⊢
  exact h2
theorem sp_midl {α : Type} {A D : List α} {v y : α} {M : Nat} (h : M = (A ++ v :: D).length) : M = ((A ++ [y]) ++ D).length := by
  rw [← sp_mid, sp_lmid]
  rw [sp_lmid] at h
  exact h
theorem sp_all {A D : List Int32} {v y : Int32} (h : ∀ x ∈ A ++ v :: D, z_vl x) (hy : z_vl y) : ∀ x ∈ (A ++ [y]) ++ D, z_vl x := fun x hx => by
  rw [← sp_mid] at hx
  rcases List.mem_append.mp hx with z | z
  · exact h x (List.mem_append_left _ z)
  · rcases List.mem_cons.mp z with z | z
    · rw [z]; exact hy
    · exact h x (List.mem_append_right _ (List.mem_cons_of_mem _ z))
theorem sp_tts {t v n : Int32} (h : ¬ (q_tt t v n).getD (-1001) = -1001) : q_tt t v n = some ((q_tt t v n).getD (-1001)) := q_gs h
theorem sp_ttn {t v n : Int32} (h : (q_tt t v n).getD (-1001) = -1001) : q_tt t v n = none := q_gn (fun y hy => by
  rcases q_tts hy with z | z
  · rw [z]; decide
  · rw [z]; decide) h
theorem sp_prd {T : List (Nat × Int32)} {j : Nat} {p : Nat × Int32} (hj : T[j]? = some p) : (sp_prs T).drop j = (1000 * nI p.1 + p.2) :: (sp_prs T).drop (j + 1) := by
  have h1 := List.drop_eq_getElem_cons (List.getElem?_eq_some_iff.mp hj).1
  rw [(List.getElem?_eq_some_iff.mp hj).2] at h1
  show List.drop j (List.map _ T) = _ :: List.drop (j + 1) (List.map _ T)
  rw [← List.map_drop, ← List.map_drop, h1]
  rfl
theorem sp_prl {T : List (Nat × Int32)} : (sp_prs T).length = T.length := List.length_map ..
theorem sp_take_row {f : Nat → Int32} {B : List Int32} {k : Nat} (h : z_row 12 (nI B.length) f B) (hk : k ≤ B.length) : z_row 12 (nI (B.take (B.length - k)).length) f (B.take (B.length - k)) := by
  have z := h.take hk
  have e : (B.take (B.length - k)).length = B.length - k := by rw [List.length_take]; omega
  rw [e]
  exact z
theorem q_n3a {r : Int32} (h : r < 0) : ¬ (r = 0 ∨ r = 1 ∨ r = 2) := by
  rintro (rfl | rfl | rfl) <;> exact absurd h (by decide)
theorem q_n3b {r : Int32} (h : ¬ r < Int32.ofNat 3) : ¬ (r = 0 ∨ r = 1 ∨ r = 2) := by
  rintro (rfl | rfl | rfl) <;> exact h (by decide)
theorem sp_ho_n : ∀ (L : List Int32) (c : Nat → Int32) (h : sp_H) (n : Nat) {y : Nat}, (sp_ho c h n L).1 = some y → y ≤ n + L.length
  | [], c, h, n, y, e => by cases e; exact Nat.le_refl _
  | x :: L, c, h, n, y, e => by
    cases hh : sp_in h x with
    | none => rw [sp_hoN hh] at e; cases e
    | some h2 => rw [sp_hoS hh] at e; have := sp_ho_n L _ _ _ e; rw [List.length_cons]; omega
end ZWk
end ZM3
section ZM4
section ZCr
variable {G : z_G} {l : Launch}
set_option maxRecDepth 100000 in
set_option maxHeartbeats 8000000 in
theorem c_X6_add_e (hl : l.stackTraces = false) (c : Nat → Int32) (k : Nat) (hk : k < 7) : z_CF G l mX6_add 10 0 0 [.inr (11, [.ref 1]), z_ia 7 c] [.ref 0, .int (nI k)] (fun v L => v = none ∧ L = [.inr (11, [.ref 1]), z_ia 7 (z_bp c k)]) := by
  refine z_body hl (by decide) rfl (Nat.le_of_ble_eq_true rfl) ?_
  show z_J G l mX6_add (z_SF 10 0 0 [.inr (11, [.ref 1]), z_ia 7 c] (fun v L => v = none ∧ L = [.inr (11, [.ref 1]), z_ia 7 (z_bp c k)])) 0 [(0, _), (1, _)] [] _ 0 0
  refine j_iload_n dX6_add_0 rfl ?_
  refine j_if_lt (tgt := 23) dX6_add_1 (by decide) (fun c_1 => ?_) (fun c_1 => ?_)
  · exact absurd c_1 (nI_pos (n := k) (by omega))
  · have hb1 : ¬ k < 0 := fun z => c_1 ((nI_ltI (a := k) (b := 0) (by omega) (by omega)).mpr z)
    refine j_iload_n dX6_add_4 rfl ?_
    refine j_aload_n dX6_add_5 rfl rfl ?_
    refine j_getf dX6_add_6 fX6_9 rfl rfl ?_
    refine j_alen dX6_add_9 rfl rfl rfl ?_
    refine j_icmp_ge (tgt := 23) dX6_add_10 (by decide) (fun c_10 => ?_) (fun c_10 => ?_)
    · have hb10 : 7 ≤ k := (nI_leI (a := 7) (b := k) (by omega) (by omega)).mp c_10
      exact absurd hk (by omega)
    · have hb10 : k < 7 := Nat.not_le.mp (fun z => c_10 ((nI_leI (a := 7) (b := k) (by omega) (by omega)).mpr z))
      refine j_aload_n dX6_add_13 rfl rfl ?_
      refine j_getf dX6_add_14 fX6_9 rfl rfl ?_
      refine j_iload_n dX6_add_17 rfl ?_
      refine j_dup2 dX6_add_18 rfl rfl ?_
      refine j_ldN dX6_add_19 rfl (k := k) (by omega) (by omega) ?_
      refine j_iconst (v := 1) dX6_add_20 (by decide) ?_
      refine j_iadd dX6_add_21 ?_
      refine j_stoN (w' := ([.inr (11, [_]), z_ia 7 _], z_no)) dX6_add_22 rfl (k := k) (by omega) (by omega) rfl ?_
      refine j_vret dX6_add_23 rfl ?_ (Nat.le_of_ble_eq_true rfl) (Nat.le_of_ble_eq_true rfl)
      exact ⟨rfl, rfl, rfl, rfl⟩
set_option maxRecDepth 100000 in
set_option maxHeartbeats 8000000 in
theorem c_X6_of_e (hl : l.stackTraces = false) (c : Nat → Int32) (k : Nat) (hk : k < 7) : z_CF G l mX6_of 10 0 0 [.inr (11, [.ref 1]), z_ia 7 c] [.ref 0, .int (nI k)] (fun v L => v = some (.int (c k)) ∧ L = [.inr (11, [.ref 1]), z_ia 7 c]) := by
  refine z_body hl (by decide) rfl (Nat.le_of_ble_eq_true rfl) ?_
  show z_J G l mX6_of (z_SF 10 0 0 [.inr (11, [.ref 1]), z_ia 7 c] (fun v L => v = some (.int (c k)) ∧ L = [.inr (11, [.ref 1]), z_ia 7 c])) 0 [(0, _), (1, _)] [] _ 0 0
  refine j_iload_n dX6_of_0 rfl ?_
  refine j_if_lt (tgt := 22) dX6_of_1 (by decide) (fun c_1 => ?_) (fun c_1 => ?_)
  · exact absurd c_1 (nI_pos (n := k) (by omega))
  · have hb1 : ¬ k < 0 := fun z => c_1 ((nI_ltI (a := k) (b := 0) (by omega) (by omega)).mpr z)
    refine j_iload_n dX6_of_4 rfl ?_
    refine j_aload_n dX6_of_5 rfl rfl ?_
    refine j_getf dX6_of_6 fX6_9 rfl rfl ?_
    refine j_alen dX6_of_9 rfl rfl rfl ?_
    refine j_icmp_ge (tgt := 22) dX6_of_10 (by decide) (fun c_10 => ?_) (fun c_10 => ?_)
    · have hb10 : 7 ≤ k := (nI_leI (a := 7) (b := k) (by omega) (by omega)).mp c_10
      exact absurd hk (by omega)
    · have hb10 : k < 7 := Nat.not_le.mp (fun z => c_10 ((nI_leI (a := 7) (b := k) (by omega) (by omega)).mpr z))
      refine j_aload_n dX6_of_13 rfl rfl ?_
      refine j_getf dX6_of_14 fX6_9 rfl rfl ?_
      refine j_iload_n dX6_of_17 rfl ?_
      refine j_ldN dX6_of_18 rfl (k := k) (by omega) (by omega) ?_
      refine j_goto (tgt := 23) dX6_of_19 (by decide) ?_
      refine j_iret dX6_of_23 rfl rfl ?_ (Nat.le_of_ble_eq_true rfl) (Nat.le_of_ble_eq_true rfl)
      exact ⟨rfl, rfl, rfl, rfl⟩
set_option maxRecDepth 100000 in
set_option maxHeartbeats 8000000 in
theorem c_X6_startAnew_e (hl : l.stackTraces = false) (c : Nat → Int32)  : z_CF G l mX6_startAnew 10 0 0 [.inr (11, [.ref 1]), z_ia 7 c] [.ref 0] (fun v L => v = some (.int (q_sm c 7)) ∧ L = [.inr (11, [.ref 1]), z_ia 7 (q_zr c 7)]) := by
  refine z_body hl (by decide) rfl (Nat.le_of_ble_eq_true rfl) ?_
  show z_J G l mX6_startAnew (z_SF 10 0 0 [.inr (11, [.ref 1]), z_ia 7 c] (fun v L => v = some (.int (q_sm c 7)) ∧ L = [.inr (11, [.ref 1]), z_ia 7 (q_zr c 7)])) 0 [(0, _)] [] _ 0 0
  refine j_iconst (v := 0) dX6_startAnew_0 (by decide) ?_
  refine j_istore_n (lo' := [(1, _), (0, _)]) dX6_startAnew_1 (by decide) rfl ?_
  refine j_iconst (v := 0) dX6_startAnew_2 (by decide) ?_
  refine j_istore_n (lo' := [(2, _), (1, _), (0, _)]) dX6_startAnew_3 (by decide) rfl ?_
  have loop : ∀ (n9 : Nat) (j : Nat), (j ≤ 7) → (7 < j + n9) → z_J G l mX6_startAnew (z_SF 10 0 0 [.inr (11, [.ref 1]), z_ia 7 c] (fun v L => v = some (.int (q_sm c 7)) ∧ L = [.inr (11, [.ref 1]), z_ia 7 (q_zr c 7)])) 4 [(0, .ref 0), (1, .int (q_sm c j)), (2, .int (nI j))] [] ([.inr (11, [.ref 1]), z_ia 7 (q_zr c j)], z_no) 0 0 := by
    intro n9
    induction n9 with
    | zero => intro j hj hf9; exact absurd hf9 (by omega)
    | succ n9 ih =>
      intro j hj hf9
      refine j_iload_n dX6_startAnew_4 rfl ?_
      refine j_aload_n dX6_startAnew_5 rfl rfl ?_
      refine j_getf dX6_startAnew_6 fX6_9 rfl rfl ?_
      refine j_alen dX6_startAnew_9 rfl rfl rfl ?_
      refine j_icmp_ge (tgt := 35) dX6_startAnew_10 (by decide) (fun c_10 => ?_) (fun c_10 => ?_)
      · have hb10 : 7 ≤ j := (nI_leI (a := 7) (b := j) (by omega) (by omega)).mp c_10
        have hj7 : j = 7 := by omega
        subst hj7
        refine j_iload_n dX6_startAnew_35 rfl ?_
        refine j_iret dX6_startAnew_36 rfl rfl ?_ (Nat.le_of_ble_eq_true rfl) (Nat.le_of_ble_eq_true rfl)
        exact ⟨rfl, rfl, rfl, rfl⟩
      · have hb10 : j < 7 := Nat.not_le.mp (fun z => c_10 ((nI_leI (a := 7) (b := j) (by omega) (by omega)).mpr z))
        refine j_iload_n dX6_startAnew_13 rfl ?_
        refine j_aload_n dX6_startAnew_14 rfl rfl ?_
        refine j_getf dX6_startAnew_15 fX6_9 rfl rfl ?_
        refine j_iload_n dX6_startAnew_18 rfl ?_
        refine j_ldN dX6_startAnew_19 rfl (k := j) (by omega) (by omega) ?_
        refine j_iadd dX6_startAnew_20 ?_
        refine j_top (congrArg Value.int q_sms) ?_
        refine j_istore_n (lo' := [(1, _), (0, _), (2, _)]) dX6_startAnew_21 (by decide) rfl ?_
        refine j_aload_n dX6_startAnew_22 rfl rfl ?_
        refine j_getf dX6_startAnew_23 fX6_9 rfl rfl ?_
        refine j_iload_n dX6_startAnew_26 rfl ?_
        refine j_iconst (v := 0) dX6_startAnew_27 (by decide) ?_
        refine j_stoN (w' := ([.inr (11, [_]), z_ia 7 _], z_no)) dX6_startAnew_28 rfl (k := j) (by omega) (by omega) rfl ?_
        refine j_iinc (lo' := [(2, _), (1, _), (0, _)]) dX6_startAnew_29 rfl (z_inc _) (by decide) rfl ?_
        refine j_goto (tgt := 4) dX6_startAnew_32 (by decide) ?_
        exact j_lo2 (ih (j + 1) (by omega) (by omega)) (z_q1 rfl (z_q1 rfl (z_q1 rfl z_q0)))
  exact j_lo2 (loop 8 0 (by omega) (by omega)) (z_q1 rfl (z_q1 rfl (z_q1 rfl z_q0)))
set_option maxRecDepth 100000 in
set_option maxHeartbeats 8000000 in
theorem c_X8_takeOver_e (hl : l.stackTraces = false) (N : Nat) (f g : Nat → Int32) (hN : N < 1000) : z_CF G l mX8_takeOver 10 0 0 [z_ia N f, z_ia N g] [.ref 0, .ref 1] (fun v L => v = none ∧ ∃ f' : Nat → Int32, (∀ i, i < N → f' i = g i) ∧ L = [z_ia N f', z_ia N g]) := by
  refine z_body hl (by decide) rfl (Nat.le_of_ble_eq_true rfl) ?_
  show z_J G l mX8_takeOver (z_SF 10 0 0 [z_ia N f, z_ia N g] (fun v L => v = none ∧ ∃ f' : Nat → Int32, (∀ i, i < N → f' i = g i) ∧ L = [z_ia N f', z_ia N g])) 0 [(0, _), (1, _)] [] _ 0 0
  refine j_iconst (v := 0) dX8_takeOver_0 (by decide) ?_
  refine j_istore_n (lo' := [(2, _), (0, _), (1, _)]) dX8_takeOver_1 (by decide) rfl ?_
  have loop : ∀ (n9 : Nat) (f' : Nat → Int32) (j : Nat), (j ≤ N) → (∀ i, i < j → f' i = g i) → (N < j + n9) → z_J G l mX8_takeOver (z_SF 10 0 0 [z_ia N f, z_ia N g] (fun v L => v = none ∧ ∃ f' : Nat → Int32, (∀ i, i < N → f' i = g i) ∧ L = [z_ia N f', z_ia N g])) 2 [(0, .ref 0), (1, .ref 1), (2, .int (nI j))] [] ([z_ia N f', z_ia N g], z_no) 0 0 := by
    intro n9
    induction n9 with
    | zero => intro f' j hj hq hf9; exact absurd hf9 (by omega)
    | succ n9 ih =>
      intro f' j hj hq hf9
      refine j_iload_n dX8_takeOver_2 rfl ?_
      refine j_aload_n dX8_takeOver_3 rfl rfl ?_
      refine j_alen dX8_takeOver_4 rfl rfl rfl ?_
      refine j_icmp_ge (tgt := 26) dX8_takeOver_5 (by decide) (fun c_5 => ?_) (fun c_5 => ?_)
      · have hb5 : N ≤ j := (nI_leI (a := N) (b := j) (by omega) (by omega)).mp c_5
        refine j_vret dX8_takeOver_26 rfl ?_ (Nat.le_of_ble_eq_true rfl) (Nat.le_of_ble_eq_true rfl)
        exact ⟨rfl, rfl, rfl, _, fun i hi => hq i (by omega), rfl⟩
      · have hb5 : j < N := Nat.not_le.mp (fun z => c_5 ((nI_leI (a := N) (b := j) (by omega) (by omega)).mpr z))
        refine j_iload_n dX8_takeOver_8 rfl ?_
        refine j_aload_n dX8_takeOver_9 rfl rfl ?_
        refine j_alen dX8_takeOver_10 rfl rfl rfl ?_
        refine j_icmp_ge (tgt := 26) dX8_takeOver_11 (by decide) (fun c_11 => ?_) (fun c_11 => ?_)
        · have hb11 : N ≤ j := (nI_leI (a := N) (b := j) (by omega) (by omega)).mp c_11
          exact absurd hb5 (by omega)
        · have hb11 : j < N := Nat.not_le.mp (fun z => c_11 ((nI_leI (a := N) (b := j) (by omega) (by omega)).mpr z))
          refine j_aload_n dX8_takeOver_14 rfl rfl ?_
          refine j_iload_n dX8_takeOver_15 rfl ?_
          refine j_aload_n dX8_takeOver_16 rfl rfl ?_
          refine j_iload_n dX8_takeOver_17 rfl ?_
          refine j_ldN dX8_takeOver_18 rfl (k := j) (by omega) (by omega) ?_
          refine j_stoN (w' := ([z_ia _ _, z_ia _ _], z_no)) dX8_takeOver_19 rfl (k := j) (by omega) (by omega) rfl ?_
          refine j_iinc (lo' := [(2, _), (0, _), (1, _)]) dX8_takeOver_20 rfl (z_inc _) (by decide) rfl ?_
          refine j_goto (tgt := 2) dX8_takeOver_23 (by decide) ?_
          exact j_lo2 (ih _ (j + 1) (by omega) (sp_lt1 (fun i hi => (z_ui_ne (by omega)).trans (hq i hi)) z_ui_self) (by omega)) (z_q1 rfl (z_q1 rfl (z_q1 rfl z_q0)))
  exact j_lo2 (loop (N + 1) _ 0 (by omega) (fun i hi => absurd hi (Nat.not_lt_zero i)) (by omega)) (z_q1 rfl (z_q1 rfl (z_q1 rfl z_q0)))
set_option maxRecDepth 100000 in
set_option maxHeartbeats 8000000 in
theorem c_X1_isFull_e (hl : l.stackTraces = false) (x : Bool) (f c : Nat → Int32) (B : List Int32) (M : Nat) (hr : z_row 12 (nI M) f B) (hM : M = B.length) : z_CF G l mX1_isFull 10 0 0 [.inr (6, [.ref 1, .ref 2, .int (nI M), .int (z_bi x)]), z_ia 12 f, .inr (11, [.ref 3]), z_ia 7 c] [.ref 0] (fun v L => v = some (.int (z_bi (decide (12 ≤ M)))) ∧ L = [.inr (6, [.ref 1, .ref 2, .int (nI M), .int (z_bi x)]), z_ia 12 f, .inr (11, [.ref 3]), z_ia 7 c]) := by
  refine z_body hl (by decide) rfl (Nat.le_of_ble_eq_true rfl) ?_
  show z_J G l mX1_isFull (z_SF 10 0 0 [.inr (6, [.ref 1, .ref 2, .int (nI M), .int (z_bi x)]), z_ia 12 f, .inr (11, [.ref 3]), z_ia 7 c] (fun v L => v = some (.int (z_bi (decide (12 ≤ M)))) ∧ L = [.inr (6, [.ref 1, .ref 2, .int (nI M), .int (z_bi x)]), z_ia 12 f, .inr (11, [.ref 3]), z_ia 7 c])) 0 [(0, _)] [] _ 0 0
  have hln := hr.2.1
  refine j_aload_n dX1_isFull_0 rfl rfl ?_
  refine j_getf dX1_isFull_1 fX1_22 rfl rfl ?_
  refine j_aload_n dX1_isFull_4 rfl rfl ?_
  refine j_getf dX1_isFull_5 fX1_9 rfl rfl ?_
  refine j_alen dX1_isFull_8 rfl rfl rfl ?_
  refine j_icmp_lt (tgt := 16) dX1_isFull_9 (by decide) (fun c_9 => ?_) (fun c_9 => ?_)
  · have hb9 : M < 12 := (nI_ltI (a := M) (b := 12) (by omega) (by omega)).mp c_9
    refine j_iconst (v := 0) dX1_isFull_16 (by decide) ?_
    refine j_iret dX1_isFull_17 rfl rfl ?_ (Nat.le_of_ble_eq_true rfl) (Nat.le_of_ble_eq_true rfl)
    first | exact ⟨rfl, rfl, by rw [q_b1 (by omega)], rfl⟩ | exact ⟨rfl, rfl, by rw [q_b0 (by omega)], rfl⟩
  · have hb9 : ¬ M < 12 := fun z => c_9 ((nI_ltI (a := M) (b := 12) (by omega) (by omega)).mpr z)
    refine j_iconst (v := 1) dX1_isFull_12 (by decide) ?_
    refine j_goto (tgt := 17) dX1_isFull_13 (by decide) ?_
    refine j_iret dX1_isFull_17 rfl rfl ?_ (Nat.le_of_ble_eq_true rfl) (Nat.le_of_ble_eq_true rfl)
    first | exact ⟨rfl, rfl, by rw [q_b1 (by omega)], rfl⟩ | exact ⟨rfl, rfl, by rw [q_b0 (by omega)], rfl⟩
set_option maxRecDepth 100000 in
set_option maxHeartbeats 8000000 in
theorem c_X1_isPlace_e (hl : l.stackTraces = false) (x : Bool) (f c : Nat → Int32) (B : List Int32) (M : Nat) (j : Nat) (hr : z_row 12 (nI M) f B) (hM : M = B.length) (hj : j < 1000) : z_CF G l mX1_isPlace 10 0 0 [.inr (6, [.ref 1, .ref 2, .int (nI M), .int (z_bi x)]), z_ia 12 f, .inr (11, [.ref 3]), z_ia 7 c] [.ref 0, .int (nI j)] (fun v L => v = some (.int (z_bi (decide (j < M)))) ∧ L = [.inr (6, [.ref 1, .ref 2, .int (nI M), .int (z_bi x)]), z_ia 12 f, .inr (11, [.ref 3]), z_ia 7 c]) := by
  refine z_body hl (by decide) rfl (Nat.le_of_ble_eq_true rfl) ?_
  show z_J G l mX1_isPlace (z_SF 10 0 0 [.inr (6, [.ref 1, .ref 2, .int (nI M), .int (z_bi x)]), z_ia 12 f, .inr (11, [.ref 3]), z_ia 7 c] (fun v L => v = some (.int (z_bi (decide (j < M)))) ∧ L = [.inr (6, [.ref 1, .ref 2, .int (nI M), .int (z_bi x)]), z_ia 12 f, .inr (11, [.ref 3]), z_ia 7 c])) 0 [(0, _), (1, _)] [] _ 0 0
  have hln := hr.2.1
  refine j_iload_n dX1_isPlace_0 rfl ?_
  refine j_if_lt (tgt := 25) dX1_isPlace_1 (by decide) (fun c_1 => ?_) (fun c_1 => ?_)
  · exact absurd c_1 (nI_pos (n := j) (by omega))
  · have hb1 : ¬ j < 0 := fun z => c_1 ((nI_ltI (a := j) (b := 0) (by omega) (by omega)).mpr z)
    refine j_iload_n dX1_isPlace_4 rfl ?_
    refine j_aload_n dX1_isPlace_5 rfl rfl ?_
    refine j_getf dX1_isPlace_6 fX1_22 rfl rfl ?_
    refine j_icmp_ge (tgt := 25) dX1_isPlace_9 (by decide) (fun c_9 => ?_) (fun c_9 => ?_)
    · have hb9 : M ≤ j := (nI_leI (a := M) (b := j) (by omega) (by omega)).mp c_9
      refine j_iconst (v := 0) dX1_isPlace_25 (by decide) ?_
      refine j_iret dX1_isPlace_26 rfl rfl ?_ (Nat.le_of_ble_eq_true rfl) (Nat.le_of_ble_eq_true rfl)
      first | exact ⟨rfl, rfl, by rw [q_b1 (by omega)], rfl⟩ | exact ⟨rfl, rfl, by rw [q_b0 (by omega)], rfl⟩
    · have hb9 : j < M := Nat.not_le.mp (fun z => c_9 ((nI_leI (a := M) (b := j) (by omega) (by omega)).mpr z))
      refine j_iload_n dX1_isPlace_12 rfl ?_
      refine j_aload_n dX1_isPlace_13 rfl rfl ?_
      refine j_getf dX1_isPlace_14 fX1_9 rfl rfl ?_
      refine j_alen dX1_isPlace_17 rfl rfl rfl ?_
      refine j_icmp_ge (tgt := 25) dX1_isPlace_18 (by decide) (fun c_18 => ?_) (fun c_18 => ?_)
      · have hb18 : 12 ≤ j := (nI_leI (a := 12) (b := j) (by omega) (by omega)).mp c_18
        exact absurd hb18 (by omega)
      · have hb18 : j < 12 := Nat.not_le.mp (fun z => c_18 ((nI_leI (a := 12) (b := j) (by omega) (by omega)).mpr z))
        refine j_iconst (v := 1) dX1_isPlace_21 (by decide) ?_
        refine j_goto (tgt := 26) dX1_isPlace_22 (by decide) ?_
        refine j_iret dX1_isPlace_26 rfl rfl ?_ (Nat.le_of_ble_eq_true rfl) (Nat.le_of_ble_eq_true rfl)
        first | exact ⟨rfl, rfl, by rw [q_b1 (by omega)], rfl⟩ | exact ⟨rfl, rfl, by rw [q_b0 (by omega)], rfl⟩
set_option maxRecDepth 100000 in
set_option maxHeartbeats 8000000 in
theorem c_X1_valueAt_e (hl : l.stackTraces = false) (x : Bool) (f c : Nat → Int32) (B : List Int32) (M : Nat) (j : Nat) (hr : z_row 12 (nI M) f B) (hM : M = B.length) (hj : j < B.length) : z_CF G l mX1_valueAt 11 0 0 [.inr (6, [.ref 1, .ref 2, .int (nI M), .int (z_bi x)]), z_ia 12 f, .inr (11, [.ref 3]), z_ia 7 c] [.ref 0, .int (nI j)] (fun v L => v = some (.int (f j)) ∧ L = [.inr (6, [.ref 1, .ref 2, .int (nI M), .int (z_bi x)]), z_ia 12 f, .inr (11, [.ref 3]), z_ia 7 c]) := by
  refine z_body hl (by decide) rfl (Nat.le_of_ble_eq_true rfl) ?_
  show z_J G l mX1_valueAt (z_SF 11 0 0 [.inr (6, [.ref 1, .ref 2, .int (nI M), .int (z_bi x)]), z_ia 12 f, .inr (11, [.ref 3]), z_ia 7 c] (fun v L => v = some (.int (f j)) ∧ L = [.inr (6, [.ref 1, .ref 2, .int (nI M), .int (z_bi x)]), z_ia 12 f, .inr (11, [.ref 3]), z_ia 7 c])) 0 [(0, _), (1, _)] [] _ 0 0
  have hln := hr.2.1
  refine j_aload_n dX1_valueAt_0 rfl rfl ?_
  refine j_iload_n dX1_valueAt_1 rfl ?_
  refine j_callV (q := (RX1, TX1, 4)) dX1_valueAt_2 kX1_isPlace lX1_26 inX1_isPlace seX1_isPlace rfl rfl (z_frame [0, 1, 2, 3] rfl (by decide) (Nat.le_of_ble_eq_true rfl) (c_X1_isPlace_e hl _ _ _ B M j hr hM (by omega))) (Nat.le_of_ble_eq_true rfl) ⟨(Nat.le_of_ble_eq_true rfl), (Nat.le_of_ble_eq_true rfl)⟩ rfl (Nat.le_of_ble_eq_true rfl) rfl rfl (fun _ _ h => h.elim) ?_
  rintro _ _ ⟨_, _, ⟨rfl, rfl⟩, rfl, rfl⟩
  refine j_ws (L' := [.inr (6, [_, _, _, _]), z_ia 12 _, .inr (11, [_]), z_ia 7 _]) (by decide) rfl rfl ?_
  refine j_if_eq (tgt := 17) dX1_valueAt_5 (by decide) (fun c_5 => ?_) (fun c_5 => ?_)
  · have hb5 := z_bF c_5
    exact absurd (show j < M by omega) (of_decide_eq_false hb5)
  · have hb5 := z_bt c_5
    refine j_aload_n dX1_valueAt_8 rfl rfl ?_
    refine j_getf dX1_valueAt_9 fX1_9 rfl rfl ?_
    refine j_iload_n dX1_valueAt_12 rfl ?_
    refine j_ldN dX1_valueAt_13 rfl (k := j) (by omega) (by omega) ?_
    refine j_goto (tgt := 18) dX1_valueAt_14 (by decide) ?_
    refine j_iret dX1_valueAt_18 rfl rfl ?_ (Nat.le_of_ble_eq_true rfl) (Nat.le_of_ble_eq_true rfl)
    exact ⟨rfl, rfl, rfl, rfl⟩
set_option maxRecDepth 100000 in
set_option maxHeartbeats 8000000 in
theorem c_X1_setAt_e (hl : l.stackTraces = false) (x : Bool) (f c : Nat → Int32) (B : List Int32) (M : Nat) (j : Nat) (y : Int32) (hr : z_row 12 (nI M) f B) (hM : M = B.length) (hj : j < B.length) : z_CF G l mX1_setAt 11 0 0 [.inr (6, [.ref 1, .ref 2, .int (nI M), .int (z_bi x)]), z_ia 12 f, .inr (11, [.ref 3]), z_ia 7 c] [.ref 0, .int (nI j), .int y] (fun v L => v = none ∧ L = [.inr (6, [.ref 1, .ref 2, .int (nI M), .int (z_bi x)]), z_ia 12 (z_ui f j y), .inr (11, [.ref 3]), z_ia 7 c]) := by
  refine z_body hl (by decide) rfl (Nat.le_of_ble_eq_true rfl) ?_
  show z_J G l mX1_setAt (z_SF 11 0 0 [.inr (6, [.ref 1, .ref 2, .int (nI M), .int (z_bi x)]), z_ia 12 f, .inr (11, [.ref 3]), z_ia 7 c] (fun v L => v = none ∧ L = [.inr (6, [.ref 1, .ref 2, .int (nI M), .int (z_bi x)]), z_ia 12 (z_ui f j y), .inr (11, [.ref 3]), z_ia 7 c])) 0 [(0, _), (1, _), (2, _)] [] _ 0 0
  have hln := hr.2.1
  refine j_aload_n dX1_setAt_0 rfl rfl ?_
  refine j_iload_n dX1_setAt_1 rfl ?_
  refine j_callV (q := (RX1, TX1, 4)) dX1_setAt_2 kX1_isPlace lX1_26 inX1_isPlace seX1_isPlace rfl rfl (z_frame [0, 1, 2, 3] rfl (by decide) (Nat.le_of_ble_eq_true rfl) (c_X1_isPlace_e hl _ _ _ B M j hr hM (by omega))) (Nat.le_of_ble_eq_true rfl) ⟨(Nat.le_of_ble_eq_true rfl), (Nat.le_of_ble_eq_true rfl)⟩ rfl (Nat.le_of_ble_eq_true rfl) rfl rfl (fun _ _ h => h.elim) ?_
  rintro _ _ ⟨_, _, ⟨rfl, rfl⟩, rfl, rfl⟩
  refine j_ws (L' := [.inr (6, [_, _, _, _]), z_ia 12 _, .inr (11, [_]), z_ia 7 _]) (by decide) rfl rfl ?_
  refine j_if_eq (tgt := 15) dX1_setAt_5 (by decide) (fun c_5 => ?_) (fun c_5 => ?_)
  · have hb5 := z_bF c_5
    exact absurd (show j < M by omega) (of_decide_eq_false hb5)
  · have hb5 := z_bt c_5
    refine j_aload_n dX1_setAt_8 rfl rfl ?_
    refine j_getf dX1_setAt_9 fX1_9 rfl rfl ?_
    refine j_iload_n dX1_setAt_12 rfl ?_
    refine j_iload_n dX1_setAt_13 rfl ?_
    refine j_stoN (w' := ([.inr (6, [_, _, _, _]), z_ia 12 _, .inr (11, [_]), z_ia 7 _], z_no)) dX1_setAt_14 rfl (k := j) (by omega) (by omega) rfl ?_
    refine j_vret dX1_setAt_15 rfl ?_ (Nat.le_of_ble_eq_true rfl) (Nat.le_of_ble_eq_true rfl)
    exact ⟨rfl, rfl, rfl, rfl⟩
set_option maxRecDepth 100000 in
set_option maxHeartbeats 8000000 in
theorem c_X1_append_e (hl : l.stackTraces = false) (x : Bool) (f c : Nat → Int32) (B : List Int32) (M : Nat) (y : Int32) (hr : z_row 12 (nI M) f B) (hM : M = B.length) (hj : M < 12) : z_CF G l mX1_append 10 0 0 [.inr (6, [.ref 1, .ref 2, .int (nI M), .int (z_bi x)]), z_ia 12 f, .inr (11, [.ref 3]), z_ia 7 c] [.ref 0, .int y] (fun v L => v = none ∧ L = [.inr (6, [.ref 1, .ref 2, .int (nI (B ++ [y]).length), .int (z_bi x)]), z_ia 12 (z_ui f M y), .inr (11, [.ref 3]), z_ia 7 c]) := by
  refine z_body hl (by decide) rfl (Nat.le_of_ble_eq_true rfl) ?_
  show z_J G l mX1_append (z_SF 10 0 0 [.inr (6, [.ref 1, .ref 2, .int (nI M), .int (z_bi x)]), z_ia 12 f, .inr (11, [.ref 3]), z_ia 7 c] (fun v L => v = none ∧ L = [.inr (6, [.ref 1, .ref 2, .int (nI (B ++ [y]).length), .int (z_bi x)]), z_ia 12 (z_ui f M y), .inr (11, [.ref 3]), z_ia 7 c])) 0 [(0, _), (1, _)] [] _ 0 0
  have hln := hr.2.1
  have hl2 : (B ++ [y]).length = M + 1 := by rw [List.length_append, hM]; rfl
  refine j_aload_n dX1_append_0 rfl rfl ?_
  refine j_getf dX1_append_1 fX1_22 rfl rfl ?_
  refine j_if_lt (tgt := 39) dX1_append_4 (by decide) (fun c_4 => ?_) (fun c_4 => ?_)
  · exact absurd c_4 (nI_pos (n := M) (by omega))
  · have hb4 : ¬ M < 0 := fun z => c_4 ((nI_ltI (a := M) (b := 0) (by omega) (by omega)).mpr z)
    refine j_aload_n dX1_append_7 rfl rfl ?_
    refine j_getf dX1_append_8 fX1_22 rfl rfl ?_
    refine j_aload_n dX1_append_11 rfl rfl ?_
    refine j_getf dX1_append_12 fX1_9 rfl rfl ?_
    refine j_alen dX1_append_15 rfl rfl rfl ?_
    refine j_icmp_ge (tgt := 39) dX1_append_16 (by decide) (fun c_16 => ?_) (fun c_16 => ?_)
    · have hb16 : 12 ≤ M := (nI_leI (a := 12) (b := M) (by omega) (by omega)).mp c_16
      exact absurd hb16 (by omega)
    · have hb16 : M < 12 := Nat.not_le.mp (fun z => c_16 ((nI_leI (a := 12) (b := M) (by omega) (by omega)).mpr z))
      refine j_aload_n dX1_append_19 rfl rfl ?_
      refine j_getf dX1_append_20 fX1_9 rfl rfl ?_
      refine j_aload_n dX1_append_23 rfl rfl ?_
      refine j_getf dX1_append_24 fX1_22 rfl rfl ?_
      refine j_iload_n dX1_append_27 rfl ?_
      refine j_stoN (w' := ([.inr (6, [_, _, _, _]), z_ia 12 _, .inr (11, [_]), z_ia 7 _], z_no)) dX1_append_28 rfl (k := M) (by omega) (by omega) rfl ?_
      refine j_aload_n dX1_append_29 rfl rfl ?_
      refine j_dup dX1_append_30 rfl ?_
      refine j_getf dX1_append_31 fX1_22 rfl rfl ?_
      refine j_iconst (v := 1) dX1_append_34 (by decide) ?_
      refine j_iadd dX1_append_35 ?_
      refine j_top (congrArg Value.int (show nI (M) + nI (1) = nI (M + 1) from nI_add _ _)) ?_
      refine j_put (w' := ([.inr (6, [_, _, _, _]), z_ia 12 _, .inr (11, [_]), z_ia 7 _], z_no)) dX1_append_36 fX1_22 tX1_2 rfl ⟨rfl, rfl⟩ rfl ?_
      refine j_vret dX1_append_39 rfl ?_ (Nat.le_of_ble_eq_true rfl) (Nat.le_of_ble_eq_true rfl)
      exact ⟨rfl, rfl, rfl, (by rw [hl2])⟩
set_option maxRecDepth 100000 in
set_option maxHeartbeats 8000000 in
theorem c_X1_shorten_e (hl : l.stackTraces = false) (x : Bool) (f c : Nat → Int32) (B : List Int32) (M : Nat) (k : Nat) (hr : z_row 12 (nI M) f B) (hM : M = B.length) (hk : k ≤ M) : z_CF G l mX1_shorten 10 0 0 [.inr (6, [.ref 1, .ref 2, .int (nI M), .int (z_bi x)]), z_ia 12 f, .inr (11, [.ref 3]), z_ia 7 c] [.ref 0, .int (nI k)] (fun v L => v = none ∧ L = [.inr (6, [.ref 1, .ref 2, .int (nI (B.take (M - k)).length), .int (z_bi x)]), z_ia 12 f, .inr (11, [.ref 3]), z_ia 7 c]) := by
  refine z_body hl (by decide) rfl (Nat.le_of_ble_eq_true rfl) ?_
  show z_J G l mX1_shorten (z_SF 10 0 0 [.inr (6, [.ref 1, .ref 2, .int (nI M), .int (z_bi x)]), z_ia 12 f, .inr (11, [.ref 3]), z_ia 7 c] (fun v L => v = none ∧ L = [.inr (6, [.ref 1, .ref 2, .int (nI (B.take (M - k)).length), .int (z_bi x)]), z_ia 12 f, .inr (11, [.ref 3]), z_ia 7 c])) 0 [(0, _), (1, _)] [] _ 0 0
  have hln := hr.2.1
  have hl2 : (B.take (M - k)).length = M - k := by rw [List.length_take]; omega
  refine j_iload_n dX1_shorten_0 rfl ?_
  refine j_if_lt (tgt := 22) dX1_shorten_1 (by decide) (fun c_1 => ?_) (fun c_1 => ?_)
  · exact absurd c_1 (nI_pos (n := k) (by omega))
  · have hb1 : ¬ k < 0 := fun z => c_1 ((nI_ltI (a := k) (b := 0) (by omega) (by omega)).mpr z)
    refine j_iload_n dX1_shorten_4 rfl ?_
    refine j_aload_n dX1_shorten_5 rfl rfl ?_
    refine j_getf dX1_shorten_6 fX1_22 rfl rfl ?_
    refine j_icmp_gt (tgt := 22) dX1_shorten_9 (by decide) (fun c_9 => ?_) (fun c_9 => ?_)
    · have hb9 : M < k := (nI_ltI (a := M) (b := k) (by omega) (by omega)).mp c_9
      exact absurd hb9 (by omega)
    · have hb9 : ¬ M < k := fun z => c_9 ((nI_ltI (a := M) (b := k) (by omega) (by omega)).mpr z)
      refine j_aload_n dX1_shorten_12 rfl rfl ?_
      refine j_dup dX1_shorten_13 rfl ?_
      refine j_getf dX1_shorten_14 fX1_22 rfl rfl ?_
      refine j_iload_n dX1_shorten_17 rfl ?_
      refine j_isub dX1_shorten_18 ?_
      refine j_top (congrArg Value.int (q_nsub (a := M) (b := k) (by omega))) ?_
      refine j_put (w' := ([.inr (6, [_, _, _, _]), z_ia 12 _, .inr (11, [_]), z_ia 7 _], z_no)) dX1_shorten_19 fX1_22 tX1_2 rfl ⟨rfl, rfl⟩ rfl ?_
      refine j_vret dX1_shorten_22 rfl ?_ (Nat.le_of_ble_eq_true rfl) (Nat.le_of_ble_eq_true rfl)
      exact ⟨rfl, rfl, rfl, (by rw [hl2])⟩
set_option maxRecDepth 100000 in
set_option maxHeartbeats 8000000 in
theorem c_X1_takeOut_e (hl : l.stackTraces = false) (x : Bool) (f c : Nat → Int32) (A D : List Int32) (y : Int32) (M : Nat) (hr : z_row 12 (nI M) f (A ++ y :: D)) (hM : M = (A ++ y :: D).length) : z_CF G l mX1_takeOut 12 0 0 [.inr (6, [.ref 1, .ref 2, .int (nI M), .int (z_bi x)]), z_ia 12 f, .inr (11, [.ref 3]), z_ia 7 c] [.ref 0, .int (nI A.length)] (fun v L => v = none ∧ ∃ f' : Nat → Int32, z_row 12 (nI (M - 1)) f' (A ++ D) ∧ L = [.inr (6, [.ref 1, .ref 2, .int (nI (M - 1)), .int (z_bi x)]), z_ia 12 f', .inr (11, [.ref 3]), z_ia 7 c]) := by
  refine z_body hl (by decide) rfl (Nat.le_of_ble_eq_true rfl) ?_
  show z_J G l mX1_takeOut (z_SF 12 0 0 [.inr (6, [.ref 1, .ref 2, .int (nI M), .int (z_bi x)]), z_ia 12 f, .inr (11, [.ref 3]), z_ia 7 c] (fun v L => v = none ∧ ∃ f' : Nat → Int32, z_row 12 (nI (M - 1)) f' (A ++ D) ∧ L = [.inr (6, [.ref 1, .ref 2, .int (nI (M - 1)), .int (z_bi x)]), z_ia 12 f', .inr (11, [.ref 3]), z_ia 7 c])) 0 [(0, _), (1, _)] [] _ 0 0
  have hln := hr.2.1
  have hL : (A ++ y :: D).length = A.length + (D.length + 1) := sp_lmid
  refine j_aload_n dX1_takeOut_0 rfl rfl ?_
  refine j_iload_n dX1_takeOut_1 rfl ?_
  refine j_callV (q := (RX1, TX1, 4)) dX1_takeOut_2 kX1_isPlace lX1_26 inX1_isPlace seX1_isPlace rfl rfl (z_frame [0, 1, 2, 3] rfl (by decide) (Nat.le_of_ble_eq_true rfl) (c_X1_isPlace_e hl _ _ _ (A ++ y :: D) M A.length hr hM (by omega))) (Nat.le_of_ble_eq_true rfl) ⟨(Nat.le_of_ble_eq_true rfl), (Nat.le_of_ble_eq_true rfl)⟩ rfl (Nat.le_of_ble_eq_true rfl) rfl rfl (fun _ _ h => h.elim) ?_
  rintro _ _ ⟨_, _, ⟨rfl, rfl⟩, rfl, rfl⟩
  refine j_ws (L' := [.inr (6, [_, _, _, _]), z_ia 12 _, .inr (11, [_]), z_ia 7 _]) (by decide) rfl rfl ?_
  refine j_if_ne (tgt := 9) dX1_takeOut_5 (by decide) (fun c_5 => ?_) (fun c_5 => ?_)
  · have hb5 := z_bt c_5
    refine j_iload_n dX1_takeOut_9 rfl ?_
    refine j_iconst (v := 1) dX1_takeOut_10 (by decide) ?_
    refine j_iadd dX1_takeOut_11 ?_
    refine j_top (congrArg Value.int (show nI (A.length) + nI (1) = nI (A.length + 1) from nI_add _ _)) ?_
    refine j_istore_n (lo' := [(2, _), (0, _), (1, _)]) dX1_takeOut_12 (by decide) rfl ?_
    have loop : ∀ (n9 : Nat) (f' : Nat → Int32) (k : Nat), (z_mv f f' A.length k) → (k ≤ D.length) → (D.length < k + n9) → z_J G l mX1_takeOut (z_SF 12 0 0 [.inr (6, [.ref 1, .ref 2, .int (nI M), .int (z_bi x)]), z_ia 12 f, .inr (11, [.ref 3]), z_ia 7 c] (fun v L => v = none ∧ ∃ f' : Nat → Int32, z_row 12 (nI (M - 1)) f' (A ++ D) ∧ L = [.inr (6, [.ref 1, .ref 2, .int (nI (M - 1)), .int (z_bi x)]), z_ia 12 f', .inr (11, [.ref 3]), z_ia 7 c])) 13 [(0, .ref 0), (2, .int (nI (A.length + 1 + k)))] [] ([.inr (6, [.ref 1, .ref 2, .int (nI M), .int (z_bi x)]), z_ia 12 f', .inr (11, [.ref 3]), z_ia 7 c], z_no) 0 0 := by
      intro n9
      induction n9 with
      | zero => intro f' k hm hk hf9; exact absurd hf9 (by omega)
      | succ n9 ih =>
        intro f' k hm hk hf9
        refine j_iload_n dX1_takeOut_13 rfl ?_
        refine j_aload_n dX1_takeOut_14 rfl rfl ?_
        refine j_getf dX1_takeOut_15 fX1_22 rfl rfl ?_
        refine j_icmp_ge (tgt := 50) dX1_takeOut_18 (by decide) (fun c_18 => ?_) (fun c_18 => ?_)
        · have hb18 : M ≤ (A.length + 1 + k) := (nI_leI (a := M) (b := (A.length + 1 + k)) (by omega) (by omega)).mp c_18
          have hkD : k = D.length := by omega
          subst hkD
          refine j_aload_n dX1_takeOut_50 rfl rfl ?_
          refine j_dup dX1_takeOut_51 rfl ?_
          refine j_getf dX1_takeOut_52 fX1_22 rfl rfl ?_
          refine j_iconst (v := 1) dX1_takeOut_55 (by decide) ?_
          refine j_isub dX1_takeOut_56 ?_
          refine j_top (congrArg Value.int (q_nsub (a := M) (b := 1) (by omega))) ?_
          refine j_put (w' := ([.inr (6, [_, _, _, _]), z_ia 12 _, .inr (11, [_]), z_ia 7 _], z_no)) dX1_takeOut_57 fX1_22 tX1_2 rfl ⟨rfl, rfl⟩ rfl ?_
          refine j_vret dX1_takeOut_60 rfl ?_ (Nat.le_of_ble_eq_true rfl) (Nat.le_of_ble_eq_true rfl)
          exact ⟨rfl, rfl, rfl, _, (by rw [hM] at hr ⊢; exact hm.row hr), rfl⟩
        · have hb18 : (A.length + 1 + k) < M := Nat.not_le.mp (fun z => c_18 ((nI_leI (a := M) (b := (A.length + 1 + k)) (by omega) (by omega)).mpr z))
          refine j_iload_n dX1_takeOut_21 rfl ?_
          refine j_aload_n dX1_takeOut_22 rfl rfl ?_
          refine j_getf dX1_takeOut_23 fX1_9 rfl rfl ?_
          refine j_alen dX1_takeOut_26 rfl rfl rfl ?_
          refine j_icmp_ge (tgt := 50) dX1_takeOut_27 (by decide) (fun c_27 => ?_) (fun c_27 => ?_)
          · have hb27 : 12 ≤ (A.length + 1 + k) := (nI_leI (a := 12) (b := (A.length + 1 + k)) (by omega) (by omega)).mp c_27
            exact absurd hb27 (by omega)
          · have hb27 : (A.length + 1 + k) < 12 := Nat.not_le.mp (fun z => c_27 ((nI_leI (a := 12) (b := (A.length + 1 + k)) (by omega) (by omega)).mpr z))
            refine j_aload_n dX1_takeOut_30 rfl rfl ?_
            refine j_getf dX1_takeOut_31 fX1_9 rfl rfl ?_
            refine j_iload_n dX1_takeOut_34 rfl ?_
            refine j_iconst (v := 1) dX1_takeOut_35 (by decide) ?_
            refine j_isub dX1_takeOut_36 ?_
            refine j_top (congrArg Value.int (q_nsub (a := (A.length + 1 + k)) (b := 1) (by omega))) ?_
            refine j_aload_n dX1_takeOut_37 rfl rfl ?_
            refine j_getf dX1_takeOut_38 fX1_9 rfl rfl ?_
            refine j_iload_n dX1_takeOut_41 rfl ?_
            refine j_ldN dX1_takeOut_42 rfl (k := (A.length + 1 + k)) (by omega) (by omega) ?_
            refine j_stoN (w' := ([.inr (6, [_, _, _, _]), z_ia 12 _, .inr (11, [_]), z_ia 7 _], z_no)) dX1_takeOut_43 rfl (k := ((A.length + 1 + k) - 1)) (by omega) (by omega) rfl ?_
            refine j_iinc (lo' := [(2, _), (0, _)]) dX1_takeOut_44 rfl (z_inc _) (by decide) rfl ?_
            refine j_goto (tgt := 13) dX1_takeOut_47 (by decide) ?_
            exact j_lo2 (ih _ (k + 1) (by have z := hm.step; rw [show A.length + k = A.length + 1 + k - 1 by omega, show A.length + 1 + k - 1 + 1 = A.length + 1 + k by omega] at z; exact z) (by omega) (by omega)) (z_q1 rfl (z_q1 rfl z_q0))
    exact j_lo2 (loop (D.length + 1) f 0 z_mv.rf (by omega) (by omega)) (z_q1 rfl (z_q1 rfl z_q0))
  · have hb5 := z_bF c_5
    exact absurd (show A.length < M by omega) (of_decide_eq_false hb5)
set_option maxRecDepth 100000 in
set_option maxHeartbeats 8000000 in
theorem c_X1_become_e (hl : l.stackTraces = false) (m : Int32) (x : Bool) (f c : Nat → Int32) (m2 : Int32) (x2 : Bool) (f2 c2 : Nat → Int32)  : z_CF G l mX1_become 12 0 0 [.inr (6, [.ref 1, .ref 2, .int m, .int (z_bi x)]), z_ia 12 f, .inr (11, [.ref 3]), z_ia 7 c, .inr (6, [.ref 5, .ref 6, .int m2, .int (z_bi x2)]), z_ia 12 f2, .inr (11, [.ref 7]), z_ia 7 c2] [.ref 0, .ref 4] (fun v L => v = none ∧ ∃ f' : Nat → Int32, (∀ i, i < 12 → f' i = f2 i) ∧ L = [.inr (6, [.ref 1, .ref 2, .int m2, .int (z_bi x)]), z_ia 12 f', .inr (11, [.ref 3]), z_ia 7 c, .inr (6, [.ref 5, .ref 6, .int m2, .int (z_bi x2)]), z_ia 12 f2, .inr (11, [.ref 7]), z_ia 7 c2]) := by
  refine z_body hl (by decide) rfl (Nat.le_of_ble_eq_true rfl) ?_
  show z_J G l mX1_become (z_SF 12 0 0 [.inr (6, [.ref 1, .ref 2, .int m, .int (z_bi x)]), z_ia 12 f, .inr (11, [.ref 3]), z_ia 7 c, .inr (6, [.ref 5, .ref 6, .int m2, .int (z_bi x2)]), z_ia 12 f2, .inr (11, [.ref 7]), z_ia 7 c2] (fun v L => v = none ∧ ∃ f' : Nat → Int32, (∀ i, i < 12 → f' i = f2 i) ∧ L = [.inr (6, [.ref 1, .ref 2, .int m2, .int (z_bi x)]), z_ia 12 f', .inr (11, [.ref 3]), z_ia 7 c, .inr (6, [.ref 5, .ref 6, .int m2, .int (z_bi x2)]), z_ia 12 f2, .inr (11, [.ref 7]), z_ia 7 c2])) 0 [(0, _), (1, _)] [] _ 0 0
  refine j_aload_n dX1_become_0 rfl rfl ?_
  refine j_getf dX1_become_1 fX1_9 rfl rfl ?_
  refine j_aload_n dX1_become_4 rfl rfl ?_
  refine j_getf dX1_become_5 fX1_9 rfl rfl ?_
  refine j_callSN dX1_become_8 kX8_takeOver lX1_30 stX8_takeOver (z_frame [1, 5] rfl (by decide) (Nat.le_of_ble_eq_true rfl) (c_X8_takeOver_e hl 12 f f2 (by decide))) (Nat.le_of_ble_eq_true rfl) ⟨(Nat.le_of_ble_eq_true rfl), (Nat.le_of_ble_eq_true rfl)⟩ rfl (Nat.le_of_ble_eq_true rfl) rfl rfl (fun _ _ h => h.elim) ?_
  rintro _ _ ⟨_, _, ⟨rfl, f9, hf9, rfl⟩, rfl, rfl⟩
  refine j_ws (L' := [.inr (6, [_, _, _, _]), z_ia 12 _, .inr (11, [_]), z_ia 7 _, .inr (6, [_, _, _, _]), z_ia 12 _, .inr (11, [_]), z_ia 7 _]) (by decide) rfl rfl ?_
  refine j_aload_n dX1_become_11 rfl rfl ?_
  refine j_aload_n dX1_become_12 rfl rfl ?_
  refine j_getf dX1_become_13 fX1_22 rfl rfl ?_
  refine j_put (w' := ([.inr (6, [_, _, _, _]), z_ia 12 _, .inr (11, [_]), z_ia 7 _, .inr (6, [_, _, _, _]), z_ia 12 _, .inr (11, [_]), z_ia 7 _], z_no)) dX1_become_16 fX1_22 tX1_2 rfl ⟨rfl, rfl⟩ rfl ?_
  refine j_vret dX1_become_19 rfl ?_ (Nat.le_of_ble_eq_true rfl) (Nat.le_of_ble_eq_true rfl)
  exact ⟨rfl, rfl, rfl, _, hf9, rfl⟩
set_option maxRecDepth 100000 in
set_option maxHeartbeats 8000000 in
theorem c_X2_isMore_e (hl : l.stackTraces = false) (k u : Int32) (j : Nat) (x : Bool) (f c : Nat → Int32) (B : List Int32) (M : Nat) (hr : z_row 12 (nI M) f B) (hM : M = B.length) (hj : j < 1000) : z_CF G l mX2_isMore 10 0 0 [.inr (7, [.ref 3, .int k, .int u, .ref 1, .int (nI j)]), .inr (6, [.ref 2, .ref 3, .int (nI M), .int (z_bi x)]), z_ia 12 f, .inr (11, [.ref 4]), z_ia 7 c] [.ref 0] (fun v L => v = some (.int (z_bi (decide (j < M)))) ∧ L = [.inr (7, [.ref 3, .int k, .int u, .ref 1, .int (nI j)]), .inr (6, [.ref 2, .ref 3, .int (nI M), .int (z_bi x)]), z_ia 12 f, .inr (11, [.ref 4]), z_ia 7 c]) := by
  refine z_body hl (by decide) rfl (Nat.le_of_ble_eq_true rfl) ?_
  show z_J G l mX2_isMore (z_SF 10 0 0 [.inr (7, [.ref 3, .int k, .int u, .ref 1, .int (nI j)]), .inr (6, [.ref 2, .ref 3, .int (nI M), .int (z_bi x)]), z_ia 12 f, .inr (11, [.ref 4]), z_ia 7 c] (fun v L => v = some (.int (z_bi (decide (j < M)))) ∧ L = [.inr (7, [.ref 3, .int k, .int u, .ref 1, .int (nI j)]), .inr (6, [.ref 2, .ref 3, .int (nI M), .int (z_bi x)]), z_ia 12 f, .inr (11, [.ref 4]), z_ia 7 c])) 0 [(0, _)] [] _ 0 0
  have hln := hr.2.1
  refine j_aload_n dX2_isMore_0 rfl rfl ?_
  refine j_getf dX2_isMore_1 fX2_21 rfl rfl ?_
  refine j_aload_n dX2_isMore_4 rfl rfl ?_
  refine j_getf dX2_isMore_5 fX2_15 rfl rfl ?_
  refine j_getf dX2_isMore_8 fX2_25 rfl rfl ?_
  refine j_icmp_ge (tgt := 18) dX2_isMore_11 (by decide) (fun c_11 => ?_) (fun c_11 => ?_)
  · have hb11 : M ≤ j := (nI_leI (a := M) (b := j) (by omega) (by omega)).mp c_11
    refine j_iconst (v := 0) dX2_isMore_18 (by decide) ?_
    refine j_iret dX2_isMore_19 rfl rfl ?_ (Nat.le_of_ble_eq_true rfl) (Nat.le_of_ble_eq_true rfl)
    first | exact ⟨rfl, rfl, by rw [q_b1 (by omega)], rfl⟩ | exact ⟨rfl, rfl, by rw [q_b0 (by omega)], rfl⟩
  · have hb11 : j < M := Nat.not_le.mp (fun z => c_11 ((nI_leI (a := M) (b := j) (by omega) (by omega)).mpr z))
    refine j_iconst (v := 1) dX2_isMore_14 (by decide) ?_
    refine j_goto (tgt := 19) dX2_isMore_15 (by decide) ?_
    refine j_iret dX2_isMore_19 rfl rfl ?_ (Nat.le_of_ble_eq_true rfl) (Nat.le_of_ble_eq_true rfl)
    first | exact ⟨rfl, rfl, by rw [q_b1 (by omega)], rfl⟩ | exact ⟨rfl, rfl, by rw [q_b0 (by omega)], rfl⟩
set_option maxRecDepth 100000 in
set_option maxHeartbeats 8000000 in
theorem c_X2_next_e (hl : l.stackTraces = false) (k u : Int32) (j : Nat) (x : Bool) (f c : Nat → Int32) (B : List Int32) (M : Nat) (hr : z_row 12 (nI M) f B) (hM : M = B.length) (hj : j < B.length) : z_CF G l mX2_next 12 0 0 [.inr (7, [.ref 3, .int k, .int u, .ref 1, .int (nI j)]), .inr (6, [.ref 2, .ref 3, .int (nI M), .int (z_bi x)]), z_ia 12 f, .inr (11, [.ref 4]), z_ia 7 c] [.ref 0] (fun v L => v = some (.int (f j)) ∧ L = [.inr (7, [.ref 3, .int k, .int (f j), .ref 1, .int (nI (j + 1))]), .inr (6, [.ref 2, .ref 3, .int (nI M), .int (z_bi x)]), z_ia 12 f, .inr (11, [.ref 4]), z_ia 7 c]) := by
  refine z_body hl (by decide) rfl (Nat.le_of_ble_eq_true rfl) ?_
  show z_J G l mX2_next (z_SF 12 0 0 [.inr (7, [.ref 3, .int k, .int u, .ref 1, .int (nI j)]), .inr (6, [.ref 2, .ref 3, .int (nI M), .int (z_bi x)]), z_ia 12 f, .inr (11, [.ref 4]), z_ia 7 c] (fun v L => v = some (.int (f j)) ∧ L = [.inr (7, [.ref 3, .int k, .int (f j), .ref 1, .int (nI (j + 1))]), .inr (6, [.ref 2, .ref 3, .int (nI M), .int (z_bi x)]), z_ia 12 f, .inr (11, [.ref 4]), z_ia 7 c])) 0 [(0, _)] [] _ 0 0
  have hln := hr.2.1
  refine j_aload_n dX2_next_0 rfl rfl ?_
  refine j_aload_n dX2_next_1 rfl rfl ?_
  refine j_getf dX2_next_2 fX2_15 rfl rfl ?_
  refine j_aload_n dX2_next_5 rfl rfl ?_
  refine j_getf dX2_next_6 fX2_21 rfl rfl ?_
  refine j_callV (q := (RX1, TX1, 4)) dX2_next_9 kX1_valueAt lX2_28 inX1_valueAt seX1_valueAt rfl rfl (z_frame [1, 2, 3, 4] rfl (by decide) (Nat.le_of_ble_eq_true rfl) (c_X1_valueAt_e hl _ _ _ B M j hr hM hj)) (Nat.le_of_ble_eq_true rfl) ⟨(Nat.le_of_ble_eq_true rfl), (Nat.le_of_ble_eq_true rfl)⟩ rfl (Nat.le_of_ble_eq_true rfl) rfl rfl (fun _ _ h => h.elim) ?_
  rintro _ _ ⟨_, _, ⟨rfl, rfl⟩, rfl, rfl⟩
  refine j_ws (L' := [.inr (7, [_, _, _, _, _]), .inr (6, [_, _, _, _]), z_ia 12 _, .inr (11, [_]), z_ia 7 _]) (by decide) rfl rfl ?_
  refine j_put (w' := ([.inr (7, [_, _, _, _, _]), .inr (6, [_, _, _, _]), z_ia 12 _, .inr (11, [_]), z_ia 7 _], z_no)) dX2_next_12 fX2_32 tX2_2 rfl ⟨rfl, rfl⟩ rfl ?_
  refine j_aload_n dX2_next_15 rfl rfl ?_
  refine j_dup dX2_next_16 rfl ?_
  refine j_getf dX2_next_17 fX2_21 rfl rfl ?_
  refine j_iconst (v := 1) dX2_next_20 (by decide) ?_
  refine j_iadd dX2_next_21 ?_
  refine j_top (congrArg Value.int (show nI (j) + nI (1) = nI (j + 1) from nI_add _ _)) ?_
  refine j_put (w' := ([.inr (7, [_, _, _, _, _]), .inr (6, [_, _, _, _]), z_ia 12 _, .inr (11, [_]), z_ia 7 _], z_no)) dX2_next_22 fX2_21 tX2_4 rfl ⟨rfl, rfl⟩ rfl ?_
  refine j_aload_n dX2_next_25 rfl rfl ?_
  refine j_getf dX2_next_26 fX2_32 rfl rfl ?_
  refine j_iret dX2_next_29 rfl rfl ?_ (Nat.le_of_ble_eq_true rfl) (Nat.le_of_ble_eq_true rfl)
  exact ⟨rfl, rfl, rfl, rfl⟩
set_option maxRecDepth 100000 in
set_option maxHeartbeats 8000000 in
theorem c_X7_ask_X2_e (hl : l.stackTraces = false) (k u : Int32) (j : Nat) (x : Bool) (f c : Nat → Int32) (B : List Int32) (M : Nat) (hr : z_row 12 (nI M) f B) (hM : M = B.length) (hj : j < 1000) : z_CF G l mX7_ask 13 0 0 [.inr (7, [.ref 3, .int k, .int u, .ref 1, .int (nI j)]), .inr (6, [.ref 2, .ref 3, .int (nI M), .int (z_bi x)]), z_ia 12 f, .inr (11, [.ref 4]), z_ia 7 c] [.ref 0] (fun v L => v = some (.int (z_bi (decide (j < M)))) ∧ L = [.inr (7, [.ref 3, .int k, .int u, .ref 1, .int (nI j)]), .inr (6, [.ref 2, .ref 3, .int (nI M), .int (z_bi x)]), z_ia 12 f, .inr (11, [.ref 4]), z_ia 7 (z_bp c 1)]) := by
  refine z_body hl (by decide) rfl (Nat.le_of_ble_eq_true rfl) ?_
  show z_J G l mX7_ask (z_SF 13 0 0 [.inr (7, [.ref 3, .int k, .int u, .ref 1, .int (nI j)]), .inr (6, [.ref 2, .ref 3, .int (nI M), .int (z_bi x)]), z_ia 12 f, .inr (11, [.ref 4]), z_ia 7 c] (fun v L => v = some (.int (z_bi (decide (j < M)))) ∧ L = [.inr (7, [.ref 3, .int k, .int u, .ref 1, .int (nI j)]), .inr (6, [.ref 2, .ref 3, .int (nI M), .int (z_bi x)]), z_ia 12 f, .inr (11, [.ref 4]), z_ia 7 (z_bp c 1)])) 0 [(0, _)] [] _ 0 0
  refine j_aload_n dX7_ask_0 rfl rfl ?_
  refine j_getf dX7_ask_1 fX7_9_X2 rfl rfl ?_
  refine j_iconst (v := 1) dX7_ask_4 (by decide) ?_
  refine j_callV (q := (RX6, TX6, 1)) dX7_ask_5 kX6_add lX7_15 inX6_add seX6_add rfl rfl (z_frame [3, 4] rfl (by decide) (Nat.le_of_ble_eq_true rfl) (c_X6_add_e hl _ 1 (by decide))) (Nat.le_of_ble_eq_true rfl) ⟨(Nat.le_of_ble_eq_true rfl), (Nat.le_of_ble_eq_true rfl)⟩ rfl (Nat.le_of_ble_eq_true rfl) rfl rfl (fun _ _ h => h.elim) ?_
  rintro _ _ ⟨_, _, ⟨rfl, rfl⟩, rfl, rfl⟩
  refine j_ws (L' := [.inr (7, [_, _, _, _, _]), .inr (6, [_, _, _, _]), z_ia 12 _, .inr (11, [_]), z_ia 7 _]) (by decide) rfl rfl ?_
  refine j_aload_n dX7_ask_8 rfl rfl ?_
  refine j_callU (q := (RX2, TX2, 5)) dX7_ask_9 kX2_isMore cuX7_21_X2 rfl rfl (z_frame [0, 1, 2, 3, 4] rfl (by decide) (Nat.le_of_ble_eq_true rfl) (c_X2_isMore_e hl _ _ j _ _ _ B M hr hM hj)) (Nat.le_of_ble_eq_true rfl) ⟨(Nat.le_of_ble_eq_true rfl), (Nat.le_of_ble_eq_true rfl)⟩ rfl (Nat.le_of_ble_eq_true rfl) rfl rfl (fun _ _ h => h.elim) ?_
  rintro _ _ ⟨_, _, ⟨rfl, rfl⟩, rfl, rfl⟩
  refine j_ws (L' := [.inr (7, [_, _, _, _, _]), .inr (6, [_, _, _, _]), z_ia 12 _, .inr (11, [_]), z_ia 7 _]) (by decide) rfl rfl ?_
  refine j_iret dX7_ask_12 rfl (z_bn _) ?_ (Nat.le_of_ble_eq_true rfl) (Nat.le_of_ble_eq_true rfl)
  exact ⟨rfl, rfl, rfl, rfl⟩
set_option maxRecDepth 100000 in
set_option maxHeartbeats 8000000 in
theorem c_X7_give_X2_e (hl : l.stackTraces = false) (k u : Int32) (j : Nat) (x : Bool) (f c : Nat → Int32) (B : List Int32) (M : Nat) (hr : z_row 12 (nI M) f B) (hM : M = B.length) (hj : j < B.length) : z_CF G l mX7_give 13 0 0 [.inr (7, [.ref 3, .int k, .int u, .ref 1, .int (nI j)]), .inr (6, [.ref 2, .ref 3, .int (nI M), .int (z_bi x)]), z_ia 12 f, .inr (11, [.ref 4]), z_ia 7 c] [.ref 0] (fun v L => v = some (.int (f j)) ∧ L = [.inr (7, [.ref 3, .int k, .int (f j), .ref 1, .int (nI (j + 1))]), .inr (6, [.ref 2, .ref 3, .int (nI M), .int (z_bi x)]), z_ia 12 f, .inr (11, [.ref 4]), z_ia 7 (z_bp c 2)]) := by
  refine z_body hl (by decide) rfl (Nat.le_of_ble_eq_true rfl) ?_
  show z_J G l mX7_give (z_SF 13 0 0 [.inr (7, [.ref 3, .int k, .int u, .ref 1, .int (nI j)]), .inr (6, [.ref 2, .ref 3, .int (nI M), .int (z_bi x)]), z_ia 12 f, .inr (11, [.ref 4]), z_ia 7 c] (fun v L => v = some (.int (f j)) ∧ L = [.inr (7, [.ref 3, .int k, .int (f j), .ref 1, .int (nI (j + 1))]), .inr (6, [.ref 2, .ref 3, .int (nI M), .int (z_bi x)]), z_ia 12 f, .inr (11, [.ref 4]), z_ia 7 (z_bp c 2)])) 0 [(0, _)] [] _ 0 0
  refine j_aload_n dX7_give_0 rfl rfl ?_
  refine j_getf dX7_give_1 fX7_9_X2 rfl rfl ?_
  refine j_iconst (v := 2) dX7_give_4 (by decide) ?_
  refine j_callV (q := (RX6, TX6, 1)) dX7_give_5 kX6_add lX7_15 inX6_add seX6_add rfl rfl (z_frame [3, 4] rfl (by decide) (Nat.le_of_ble_eq_true rfl) (c_X6_add_e hl _ 2 (by decide))) (Nat.le_of_ble_eq_true rfl) ⟨(Nat.le_of_ble_eq_true rfl), (Nat.le_of_ble_eq_true rfl)⟩ rfl (Nat.le_of_ble_eq_true rfl) rfl rfl (fun _ _ h => h.elim) ?_
  rintro _ _ ⟨_, _, ⟨rfl, rfl⟩, rfl, rfl⟩
  refine j_ws (L' := [.inr (7, [_, _, _, _, _]), .inr (6, [_, _, _, _]), z_ia 12 _, .inr (11, [_]), z_ia 7 _]) (by decide) rfl rfl ?_
  refine j_aload_n dX7_give_8 rfl rfl ?_
  refine j_callU (q := (RX2, TX2, 5)) dX7_give_9 kX2_next cuX7_25_X2 rfl rfl (z_frame [0, 1, 2, 3, 4] rfl (by decide) (Nat.le_of_ble_eq_true rfl) (c_X2_next_e hl _ _ j _ _ _ B M hr hM hj)) (Nat.le_of_ble_eq_true rfl) ⟨(Nat.le_of_ble_eq_true rfl), (Nat.le_of_ble_eq_true rfl)⟩ rfl (Nat.le_of_ble_eq_true rfl) rfl rfl (fun _ _ h => h.elim) ?_
  rintro _ _ ⟨_, _, ⟨rfl, rfl⟩, rfl, rfl⟩
  refine j_ws (L' := [.inr (7, [_, _, _, _, _]), .inr (6, [_, _, _, _]), z_ia 12 _, .inr (11, [_]), z_ia 7 _]) (by decide) rfl rfl ?_
  refine j_iret dX7_give_12 rfl rfl ?_ (Nat.le_of_ble_eq_true rfl) (Nat.le_of_ble_eq_true rfl)
  exact ⟨rfl, rfl, rfl, rfl⟩
set_option maxRecDepth 100000 in
set_option maxHeartbeats 8000000 in
theorem c_X2_putInPlace_t_e (hl : l.stackTraces = false) (k u : Int32) (j : Nat) (f c : Nat → Int32) (M : Nat) (y : Int32)  : z_CF G l mX2_putInPlace 12 0 0 [.inr (7, [.ref 3, .int k, .int u, .ref 1, .int (nI j)]), .inr (6, [.ref 2, .ref 3, .int (nI M), .int (z_bi true)]), z_ia 12 f, .inr (11, [.ref 4]), z_ia 7 c] [.ref 0, .int y] (fun v L => v = some (.int (z_bi false)) ∧ L = [.inr (7, [.ref 3, .int k, .int u, .ref 1, .int (nI j)]), .inr (6, [.ref 2, .ref 3, .int (nI M), .int (z_bi true)]), z_ia 12 f, .inr (11, [.ref 4]), z_ia 7 c]) := by
  refine z_body hl (by decide) rfl (Nat.le_of_ble_eq_true rfl) ?_
  show z_J G l mX2_putInPlace (z_SF 12 0 0 [.inr (7, [.ref 3, .int k, .int u, .ref 1, .int (nI j)]), .inr (6, [.ref 2, .ref 3, .int (nI M), .int (z_bi true)]), z_ia 12 f, .inr (11, [.ref 4]), z_ia 7 c] (fun v L => v = some (.int (z_bi false)) ∧ L = [.inr (7, [.ref 3, .int k, .int u, .ref 1, .int (nI j)]), .inr (6, [.ref 2, .ref 3, .int (nI M), .int (z_bi true)]), z_ia 12 f, .inr (11, [.ref 4]), z_ia 7 c])) 0 [(0, _), (1, _)] [] _ 0 0
  refine j_aload_n dX2_putInPlace_0 rfl rfl ?_
  refine j_getf dX2_putInPlace_1 fX2_15 rfl rfl ?_
  refine j_getf dX2_putInPlace_4 fX2_35 rfl rfl ?_
  refine j_if_eq (tgt := 12) dX2_putInPlace_7 (by decide) (fun c_7 => ?_) (fun c_7 => ?_)
  · have hb7 := z_bF c_7
    cases hb7
  · have hb7 := z_bt c_7
    refine j_iconst (v := 0) dX2_putInPlace_10 (by decide) ?_
    refine j_iret dX2_putInPlace_11 rfl rfl ?_ (Nat.le_of_ble_eq_true rfl) (Nat.le_of_ble_eq_true rfl)
    exact ⟨rfl, rfl, rfl, rfl⟩
set_option maxRecDepth 100000 in
set_option maxHeartbeats 8000000 in
theorem c_X2_takeAway_t_e (hl : l.stackTraces = false) (k u : Int32) (j : Nat) (f c : Nat → Int32) (M : Nat)  : z_CF G l mX2_takeAway 13 0 0 [.inr (7, [.ref 3, .int k, .int u, .ref 1, .int (nI j)]), .inr (6, [.ref 2, .ref 3, .int (nI M), .int (z_bi true)]), z_ia 12 f, .inr (11, [.ref 4]), z_ia 7 c] [.ref 0] (fun v L => v = some (.int (z_bi false)) ∧ L = [.inr (7, [.ref 3, .int k, .int u, .ref 1, .int (nI j)]), .inr (6, [.ref 2, .ref 3, .int (nI M), .int (z_bi true)]), z_ia 12 f, .inr (11, [.ref 4]), z_ia 7 c]) := by
  refine z_body hl (by decide) rfl (Nat.le_of_ble_eq_true rfl) ?_
  show z_J G l mX2_takeAway (z_SF 13 0 0 [.inr (7, [.ref 3, .int k, .int u, .ref 1, .int (nI j)]), .inr (6, [.ref 2, .ref 3, .int (nI M), .int (z_bi true)]), z_ia 12 f, .inr (11, [.ref 4]), z_ia 7 c] (fun v L => v = some (.int (z_bi false)) ∧ L = [.inr (7, [.ref 3, .int k, .int u, .ref 1, .int (nI j)]), .inr (6, [.ref 2, .ref 3, .int (nI M), .int (z_bi true)]), z_ia 12 f, .inr (11, [.ref 4]), z_ia 7 c])) 0 [(0, _)] [] _ 0 0
  refine j_aload_n dX2_takeAway_0 rfl rfl ?_
  refine j_getf dX2_takeAway_1 fX2_15 rfl rfl ?_
  refine j_getf dX2_takeAway_4 fX2_35 rfl rfl ?_
  refine j_if_eq (tgt := 12) dX2_takeAway_7 (by decide) (fun c_7 => ?_) (fun c_7 => ?_)
  · have hb7 := z_bF c_7
    cases hb7
  · have hb7 := z_bt c_7
    refine j_iconst (v := 0) dX2_takeAway_10 (by decide) ?_
    refine j_iret dX2_takeAway_11 rfl rfl ?_ (Nat.le_of_ble_eq_true rfl) (Nat.le_of_ble_eq_true rfl)
    exact ⟨rfl, rfl, rfl, rfl⟩
set_option maxRecDepth 100000 in
set_option maxHeartbeats 8000000 in
theorem c_X2_putInPlace_f_e (hl : l.stackTraces = false) (k u : Int32) (j : Nat) (f c : Nat → Int32) (B : List Int32) (M : Nat) (y : Int32) (hr : z_row 12 (nI M) f B) (hM : M = B.length) (hj : j ≤ B.length) (hj0 : 1 ≤ j) : z_CF G l mX2_putInPlace 12 0 0 [.inr (7, [.ref 3, .int k, .int u, .ref 1, .int (nI j)]), .inr (6, [.ref 2, .ref 3, .int (nI M), .int (z_bi false)]), z_ia 12 f, .inr (11, [.ref 4]), z_ia 7 c] [.ref 0, .int y] (fun v L => v = some (.int (z_bi true)) ∧ L = [.inr (7, [.ref 3, .int k, .int u, .ref 1, .int (nI j)]), .inr (6, [.ref 2, .ref 3, .int (nI M), .int (z_bi false)]), z_ia 12 (z_ui f (j - 1) y), .inr (11, [.ref 4]), z_ia 7 (z_bp c 3)]) := by
  refine z_body hl (by decide) rfl (Nat.le_of_ble_eq_true rfl) ?_
  show z_J G l mX2_putInPlace (z_SF 12 0 0 [.inr (7, [.ref 3, .int k, .int u, .ref 1, .int (nI j)]), .inr (6, [.ref 2, .ref 3, .int (nI M), .int (z_bi false)]), z_ia 12 f, .inr (11, [.ref 4]), z_ia 7 c] (fun v L => v = some (.int (z_bi true)) ∧ L = [.inr (7, [.ref 3, .int k, .int u, .ref 1, .int (nI j)]), .inr (6, [.ref 2, .ref 3, .int (nI M), .int (z_bi false)]), z_ia 12 (z_ui f (j - 1) y), .inr (11, [.ref 4]), z_ia 7 (z_bp c 3)])) 0 [(0, _), (1, _)] [] _ 0 0
  have hln := hr.2.1
  refine j_aload_n dX2_putInPlace_0 rfl rfl ?_
  refine j_getf dX2_putInPlace_1 fX2_15 rfl rfl ?_
  refine j_getf dX2_putInPlace_4 fX2_35 rfl rfl ?_
  refine j_if_eq (tgt := 12) dX2_putInPlace_7 (by decide) (fun c_7 => ?_) (fun c_7 => ?_)
  · have hb7 := z_bF c_7
    refine j_aload_n dX2_putInPlace_12 rfl rfl ?_
    refine j_getf dX2_putInPlace_13 fX2_39 rfl rfl ?_
    refine j_iconst (v := 3) dX2_putInPlace_16 (by decide) ?_
    refine j_callV (q := (RX6, TX6, 1)) dX2_putInPlace_17 kX6_add lX2_40 inX6_add seX6_add rfl rfl (z_frame [3, 4] rfl (by decide) (Nat.le_of_ble_eq_true rfl) (c_X6_add_e hl _ 3 (by decide))) (Nat.le_of_ble_eq_true rfl) ⟨(Nat.le_of_ble_eq_true rfl), (Nat.le_of_ble_eq_true rfl)⟩ rfl (Nat.le_of_ble_eq_true rfl) rfl rfl (fun _ _ h => h.elim) ?_
    rintro _ _ ⟨_, _, ⟨rfl, rfl⟩, rfl, rfl⟩
    refine j_ws (L' := [.inr (7, [_, _, _, _, _]), .inr (6, [_, _, _, _]), z_ia 12 _, .inr (11, [_]), z_ia 7 _]) (by decide) rfl rfl ?_
    refine j_aload_n dX2_putInPlace_20 rfl rfl ?_
    refine j_getf dX2_putInPlace_21 fX2_15 rfl rfl ?_
    refine j_aload_n dX2_putInPlace_24 rfl rfl ?_
    refine j_getf dX2_putInPlace_25 fX2_21 rfl rfl ?_
    refine j_iconst (v := 1) dX2_putInPlace_28 (by decide) ?_
    refine j_isub dX2_putInPlace_29 ?_
    refine j_top (congrArg Value.int (q_nsub (a := j) (b := 1) (by omega))) ?_
    refine j_iload_n dX2_putInPlace_30 rfl ?_
    refine j_callV (q := (RX1, TX1, 4)) dX2_putInPlace_31 kX1_setAt lX2_46 inX1_setAt seX1_setAt rfl rfl (z_frame [1, 2, 3, 4] rfl (by decide) (Nat.le_of_ble_eq_true rfl) (c_X1_setAt_e hl _ _ _ B M (j - 1) _ hr hM (by omega))) (Nat.le_of_ble_eq_true rfl) ⟨(Nat.le_of_ble_eq_true rfl), (Nat.le_of_ble_eq_true rfl)⟩ rfl (Nat.le_of_ble_eq_true rfl) rfl rfl (fun _ _ h => h.elim) ?_
    rintro _ _ ⟨_, _, ⟨rfl, rfl⟩, rfl, rfl⟩
    refine j_ws (L' := [.inr (7, [_, _, _, _, _]), .inr (6, [_, _, _, _]), z_ia 12 _, .inr (11, [_]), z_ia 7 _]) (by decide) rfl rfl ?_
    refine j_iconst (v := 1) dX2_putInPlace_34 (by decide) ?_
    refine j_iret dX2_putInPlace_35 rfl rfl ?_ (Nat.le_of_ble_eq_true rfl) (Nat.le_of_ble_eq_true rfl)
    exact ⟨rfl, rfl, rfl, rfl⟩
  · have hb7 := z_bt c_7
    cases hb7
set_option maxRecDepth 100000 in
set_option maxHeartbeats 8000000 in
theorem c_X2_takeAway_f_e (hl : l.stackTraces = false) (k u : Int32) (f c : Nat → Int32) (A D : List Int32) (y : Int32) (M : Nat) (hr : z_row 12 (nI M) f (A ++ y :: D)) (hM : M = (A ++ y :: D).length) : z_CF G l mX2_takeAway 13 0 0 [.inr (7, [.ref 3, .int k, .int u, .ref 1, .int (nI (A.length + 1))]), .inr (6, [.ref 2, .ref 3, .int (nI M), .int (z_bi false)]), z_ia 12 f, .inr (11, [.ref 4]), z_ia 7 c] [.ref 0] (fun v L => v = some (.int (z_bi true)) ∧ ∃ f' : Nat → Int32, z_row 12 (nI (M - 1)) f' (A ++ D) ∧ L = [.inr (7, [.ref 3, .int k, .int u, .ref 1, .int (nI A.length)]), .inr (6, [.ref 2, .ref 3, .int (nI (M - 1)), .int (z_bi false)]), z_ia 12 f', .inr (11, [.ref 4]), z_ia 7 (z_bp c 4)]) := by
  refine z_body hl (by decide) rfl (Nat.le_of_ble_eq_true rfl) ?_
  show z_J G l mX2_takeAway (z_SF 13 0 0 [.inr (7, [.ref 3, .int k, .int u, .ref 1, .int (nI (A.length + 1))]), .inr (6, [.ref 2, .ref 3, .int (nI M), .int (z_bi false)]), z_ia 12 f, .inr (11, [.ref 4]), z_ia 7 c] (fun v L => v = some (.int (z_bi true)) ∧ ∃ f' : Nat → Int32, z_row 12 (nI (M - 1)) f' (A ++ D) ∧ L = [.inr (7, [.ref 3, .int k, .int u, .ref 1, .int (nI A.length)]), .inr (6, [.ref 2, .ref 3, .int (nI (M - 1)), .int (z_bi false)]), z_ia 12 f', .inr (11, [.ref 4]), z_ia 7 (z_bp c 4)])) 0 [(0, _)] [] _ 0 0
  have hln := hr.2.1
  have hL : (A ++ y :: D).length = A.length + (D.length + 1) := sp_lmid
  refine j_aload_n dX2_takeAway_0 rfl rfl ?_
  refine j_getf dX2_takeAway_1 fX2_15 rfl rfl ?_
  refine j_getf dX2_takeAway_4 fX2_35 rfl rfl ?_
  refine j_if_eq (tgt := 12) dX2_takeAway_7 (by decide) (fun c_7 => ?_) (fun c_7 => ?_)
  · have hb7 := z_bF c_7
    refine j_aload_n dX2_takeAway_12 rfl rfl ?_
    refine j_getf dX2_takeAway_13 fX2_39 rfl rfl ?_
    refine j_iconst (v := 4) dX2_takeAway_16 (by decide) ?_
    refine j_callV (q := (RX6, TX6, 1)) dX2_takeAway_17 kX6_add lX2_40 inX6_add seX6_add rfl rfl (z_frame [3, 4] rfl (by decide) (Nat.le_of_ble_eq_true rfl) (c_X6_add_e hl _ 4 (by decide))) (Nat.le_of_ble_eq_true rfl) ⟨(Nat.le_of_ble_eq_true rfl), (Nat.le_of_ble_eq_true rfl)⟩ rfl (Nat.le_of_ble_eq_true rfl) rfl rfl (fun _ _ h => h.elim) ?_
    rintro _ _ ⟨_, _, ⟨rfl, rfl⟩, rfl, rfl⟩
    refine j_ws (L' := [.inr (7, [_, _, _, _, _]), .inr (6, [_, _, _, _]), z_ia 12 _, .inr (11, [_]), z_ia 7 _]) (by decide) rfl rfl ?_
    refine j_aload_n dX2_takeAway_20 rfl rfl ?_
    refine j_dup dX2_takeAway_21 rfl ?_
    refine j_getf dX2_takeAway_22 fX2_21 rfl rfl ?_
    refine j_iconst (v := 1) dX2_takeAway_25 (by decide) ?_
    refine j_isub dX2_takeAway_26 ?_
    refine j_top (congrArg Value.int (q_nsub (a := (A.length + 1)) (b := 1) (by omega))) ?_
    refine j_top (congrArg Value.int (show nI (A.length + 1 - 1) = nI A.length by rw [Nat.add_sub_cancel])) ?_
    refine j_put (w' := ([.inr (7, [_, _, _, _, _]), .inr (6, [_, _, _, _]), z_ia 12 _, .inr (11, [_]), z_ia 7 _], z_no)) dX2_takeAway_27 fX2_21 tX2_4 rfl ⟨rfl, rfl⟩ rfl ?_
    refine j_aload_n dX2_takeAway_30 rfl rfl ?_
    refine j_getf dX2_takeAway_31 fX2_15 rfl rfl ?_
    refine j_aload_n dX2_takeAway_34 rfl rfl ?_
    refine j_getf dX2_takeAway_35 fX2_21 rfl rfl ?_
    refine j_callV (q := (RX1, TX1, 4)) dX2_takeAway_38 kX1_takeOut lX2_50 inX1_takeOut seX1_takeOut rfl rfl (z_frame [1, 2, 3, 4] rfl (by decide) (Nat.le_of_ble_eq_true rfl) (c_X1_takeOut_e hl _ _ _ A D y M hr hM)) (Nat.le_of_ble_eq_true rfl) ⟨(Nat.le_of_ble_eq_true rfl), (Nat.le_of_ble_eq_true rfl)⟩ rfl (Nat.le_of_ble_eq_true rfl) rfl rfl (fun _ _ h => h.elim) ?_
    rintro _ _ ⟨_, _, ⟨rfl, f9, hf9, rfl⟩, rfl, rfl⟩
    refine j_ws (L' := [.inr (7, [_, _, _, _, _]), .inr (6, [_, _, _, _]), z_ia 12 _, .inr (11, [_]), z_ia 7 _]) (by decide) rfl rfl ?_
    refine j_iconst (v := 1) dX2_takeAway_41 (by decide) ?_
    refine j_iret dX2_takeAway_42 rfl rfl ?_ (Nat.le_of_ble_eq_true rfl) (Nat.le_of_ble_eq_true rfl)
    exact ⟨rfl, rfl, rfl, _, hf9, rfl⟩
  · have hb7 := z_bt c_7
    cases hb7
end ZCr
end ZM4
section ZM5
section ZCt
variable {G : z_G} {l : Launch}
set_option maxRecDepth 100000 in
set_option maxHeartbeats 8000000 in
theorem c_X4_look_e (hl : l.stackTraces = false) (b : Bool) (f g c : Nat → Int32) (m : Int32) (T : List (Nat × Int32)) (k : Nat) (ht : z_tba f g T) (hk : k < 20) : z_CF G l mX4_look 10 0 0 [.inr (9, [.int (z_bi b), .ref 1, .ref 2, .ref 3, .int m]), z_ia 20 f, z_ia 20 g, .inr (11, [.ref 4]), z_ia 7 c] [.ref 0, .int (nI k)] (fun v L => v = some (.int (sp_lk T k)) ∧ L = [.inr (9, [.int (z_bi b), .ref 1, .ref 2, .ref 3, .int m]), z_ia 20 f, z_ia 20 g, .inr (11, [.ref 4]), z_ia 7 c]) := by
  refine z_body hl (by decide) rfl (Nat.le_of_ble_eq_true rfl) ?_
  show z_J G l mX4_look (z_SF 10 0 0 [.inr (9, [.int (z_bi b), .ref 1, .ref 2, .ref 3, .int m]), z_ia 20 f, z_ia 20 g, .inr (11, [.ref 4]), z_ia 7 c] (fun v L => v = some (.int (sp_lk T k)) ∧ L = [.inr (9, [.int (z_bi b), .ref 1, .ref 2, .ref 3, .int m]), z_ia 20 f, z_ia 20 g, .inr (11, [.ref 4]), z_ia 7 c])) 0 [(0, _), (1, _)] [] _ 0 0
  have hln := ht.len
  refine j_iload_n dX4_look_0 rfl ?_
  refine j_if_lt (tgt := 22) dX4_look_1 (by decide) (fun c_1 => ?_) (fun c_1 => ?_)
  · exact absurd c_1 (nI_pos (n := k) (by omega))
  · have hb1 : ¬ k < 0 := fun z => c_1 ((nI_ltI (a := k) (b := 0) (by omega) (by omega)).mpr z)
    refine j_iload_n dX4_look_4 rfl ?_
    refine j_aload_n dX4_look_5 rfl rfl ?_
    refine j_getf dX4_look_6 fX4_9 rfl rfl ?_
    refine j_alen dX4_look_9 rfl rfl rfl ?_
    refine j_icmp_ge (tgt := 22) dX4_look_10 (by decide) (fun c_10 => ?_) (fun c_10 => ?_)
    · have hb10 : 20 ≤ k := (nI_leI (a := 20) (b := k) (by omega) (by omega)).mp c_10
      exact absurd hk (by omega)
    · have hb10 : k < 20 := Nat.not_le.mp (fun z => c_10 ((nI_leI (a := 20) (b := k) (by omega) (by omega)).mpr z))
      refine j_aload_n dX4_look_13 rfl rfl ?_
      refine j_getf dX4_look_14 fX4_9 rfl rfl ?_
      refine j_iload_n dX4_look_17 rfl ?_
      refine j_ldN dX4_look_18 rfl (k := k) (by omega) (by omega) ?_
      refine j_goto (tgt := 25) dX4_look_19 (by decide) ?_
      refine j_iret dX4_look_25 rfl rfl ?_ (Nat.le_of_ble_eq_true rfl) (Nat.le_of_ble_eq_true rfl)
      exact ⟨rfl, rfl, congrArg (fun z => some (Value.int z)) (ht.2.1 k hk), rfl⟩
set_option maxRecDepth 100000 in
set_option maxHeartbeats 8000000 in
theorem c_X4_keyAt_e (hl : l.stackTraces = false) (b : Bool) (f g c : Nat → Int32) (M : Nat) (T : List (Nat × Int32)) (j : Nat) (p : Nat × Int32) (ht : z_tba f g T) (hM : M = T.length) (hj : T[j]? = some p) : z_CF G l mX4_keyAt 10 0 0 [.inr (9, [.int (z_bi b), .ref 1, .ref 2, .ref 3, .int (nI M)]), z_ia 20 f, z_ia 20 g, .inr (11, [.ref 4]), z_ia 7 c] [.ref 0, .int (nI j)] (fun v L => v = some (.int (nI p.1)) ∧ L = [.inr (9, [.int (z_bi b), .ref 1, .ref 2, .ref 3, .int (nI M)]), z_ia 20 f, z_ia 20 g, .inr (11, [.ref 4]), z_ia 7 c]) := by
  refine z_body hl (by decide) rfl (Nat.le_of_ble_eq_true rfl) ?_
  show z_J G l mX4_keyAt (z_SF 10 0 0 [.inr (9, [.int (z_bi b), .ref 1, .ref 2, .ref 3, .int (nI M)]), z_ia 20 f, z_ia 20 g, .inr (11, [.ref 4]), z_ia 7 c] (fun v L => v = some (.int (nI p.1)) ∧ L = [.inr (9, [.int (z_bi b), .ref 1, .ref 2, .ref 3, .int (nI M)]), z_ia 20 f, z_ia 20 g, .inr (11, [.ref 4]), z_ia 7 c])) 0 [(0, _), (1, _)] [] _ 0 0
  have hln := ht.len
  have hlt : j < T.length := (List.getElem?_eq_some_iff.mp hj).1
  refine j_iload_n dX4_keyAt_0 rfl ?_
  refine j_if_lt (tgt := 30) dX4_keyAt_1 (by decide) (fun c_1 => ?_) (fun c_1 => ?_)
  · exact absurd c_1 (nI_pos (n := j) (by omega))
  · have hb1 : ¬ j < 0 := fun z => c_1 ((nI_ltI (a := j) (b := 0) (by omega) (by omega)).mpr z)
    refine j_iload_n dX4_keyAt_4 rfl ?_
    refine j_aload_n dX4_keyAt_5 rfl rfl ?_
    refine j_getf dX4_keyAt_6 fX4_29 rfl rfl ?_
    refine j_icmp_ge (tgt := 30) dX4_keyAt_9 (by decide) (fun c_9 => ?_) (fun c_9 => ?_)
    · have hb9 : M ≤ j := (nI_leI (a := M) (b := j) (by omega) (by omega)).mp c_9
      exact absurd hlt (by omega)
    · have hb9 : j < M := Nat.not_le.mp (fun z => c_9 ((nI_leI (a := M) (b := j) (by omega) (by omega)).mpr z))
      refine j_iload_n dX4_keyAt_12 rfl ?_
      refine j_aload_n dX4_keyAt_13 rfl rfl ?_
      refine j_getf dX4_keyAt_14 fX4_15 rfl rfl ?_
      refine j_alen dX4_keyAt_17 rfl rfl rfl ?_
      refine j_icmp_ge (tgt := 30) dX4_keyAt_18 (by decide) (fun c_18 => ?_) (fun c_18 => ?_)
      · have hb18 : 20 ≤ j := (nI_leI (a := 20) (b := j) (by omega) (by omega)).mp c_18
        exact absurd hlt (by omega)
      · have hb18 : j < 20 := Nat.not_le.mp (fun z => c_18 ((nI_leI (a := 20) (b := j) (by omega) (by omega)).mpr z))
        refine j_aload_n dX4_keyAt_21 rfl rfl ?_
        refine j_getf dX4_keyAt_22 fX4_15 rfl rfl ?_
        refine j_iload_n dX4_keyAt_25 rfl ?_
        refine j_ldN dX4_keyAt_26 rfl (k := j) (by omega) (by omega) ?_
        refine j_goto (tgt := 31) dX4_keyAt_27 (by decide) ?_
        refine j_iret dX4_keyAt_31 rfl rfl ?_ (Nat.le_of_ble_eq_true rfl) (Nat.le_of_ble_eq_true rfl)
        exact ⟨rfl, rfl, congrArg (fun z => some (Value.int z)) (ht.key hj), rfl⟩
set_option maxRecDepth 100000 in
set_option maxHeartbeats 8000000 in
theorem c_X4_addKey_e (hl : l.stackTraces = false) (b : Bool) (f g c : Nat → Int32) (T : List (Nat × Int32)) (k : Nat) (ht : z_tba f g T) (hk : k < 20) (he : sp_lk T k = -1000) : z_CF G l mX4_addKey 10 0 0 [.inr (9, [.int (z_bi b), .ref 1, .ref 2, .ref 3, .int (nI (T).length)]), z_ia 20 f, z_ia 20 g, .inr (11, [.ref 4]), z_ia 7 c] [.ref 0, .int (nI k)] (fun v L => v = none ∧ ∃ g' : Nat → Int32, z_sq g' ((sp_ks T).take (sp_pl b T k) ++ k :: (sp_ks T).drop (sp_pl b T k)) ∧ L = [.inr (9, [.int (z_bi b), .ref 1, .ref 2, .ref 3, .int (nI (T.length + 1))]), z_ia 20 f, z_ia 20 g', .inr (11, [.ref 4]), z_ia 7 c]) := by
  refine z_body hl (by decide) rfl (Nat.le_of_ble_eq_true rfl) ?_
  show z_J G l mX4_addKey (z_SF 10 0 0 [.inr (9, [.int (z_bi b), .ref 1, .ref 2, .ref 3, .int (nI (T).length)]), z_ia 20 f, z_ia 20 g, .inr (11, [.ref 4]), z_ia 7 c] (fun v L => v = none ∧ ∃ g' : Nat → Int32, z_sq g' ((sp_ks T).take (sp_pl b T k) ++ k :: (sp_ks T).drop (sp_pl b T k)) ∧ L = [.inr (9, [.int (z_bi b), .ref 1, .ref 2, .ref 3, .int (nI (T.length + 1))]), z_ia 20 f, z_ia 20 g', .inr (11, [.ref 4]), z_ia 7 c])) 0 [(0, _), (1, _)] [] _ 0 0
  have hln := ht.len
  have hr9 := ht.room hk he
  refine j_aload_n dX4_addKey_0 rfl rfl ?_
  refine j_getf dX4_addKey_1 fX4_29 rfl rfl ?_
  refine j_if_lt (tgt := 19) dX4_addKey_4 (by decide) (fun c_4 => ?_) (fun c_4 => ?_)
  · exact absurd c_4 (nI_pos (n := T.length) (by omega))
  · have hb4 : ¬ T.length < 0 := fun z => c_4 ((nI_ltI (a := T.length) (b := 0) (by omega) (by omega)).mpr z)
    refine j_aload_n dX4_addKey_7 rfl rfl ?_
    refine j_getf dX4_addKey_8 fX4_29 rfl rfl ?_
    refine j_aload_n dX4_addKey_11 rfl rfl ?_
    refine j_getf dX4_addKey_12 fX4_15 rfl rfl ?_
    refine j_alen dX4_addKey_15 rfl rfl rfl ?_
    refine j_icmp_lt (tgt := 20) dX4_addKey_16 (by decide) (fun c_16 => ?_) (fun c_16 => ?_)
    · have hb16 : T.length < 20 := (nI_ltI (a := T.length) (b := 20) (by omega) (by omega)).mp c_16
      refine j_aload_n dX4_addKey_20 rfl rfl ?_
      refine j_getf dX4_addKey_21 fX4_29 rfl rfl ?_
      refine j_istore_n (lo' := [(2, _), (0, _), (1, _)]) dX4_addKey_24 (by decide) rfl ?_
      have loop : ∀ (n9 : Nat) (g' : Nat → Int32) (j : Nat), (j ≤ T.length) → (z_sh g g' j T.length) → (b = true → sp_at T k j = sp_at T k T.length) → (b = false → j = T.length) → (j < n9) → z_J G l mX4_addKey (z_SF 10 0 0 [.inr (9, [.int (z_bi b), .ref 1, .ref 2, .ref 3, .int (nI (T).length)]), z_ia 20 f, z_ia 20 g, .inr (11, [.ref 4]), z_ia 7 c] (fun v L => v = none ∧ ∃ g' : Nat → Int32, z_sq g' ((sp_ks T).take (sp_pl b T k) ++ k :: (sp_ks T).drop (sp_pl b T k)) ∧ L = [.inr (9, [.int (z_bi b), .ref 1, .ref 2, .ref 3, .int (nI (T.length + 1))]), z_ia 20 f, z_ia 20 g', .inr (11, [.ref 4]), z_ia 7 c])) 25 [(0, .ref 0), (1, .int (nI k)), (2, .int (nI j))] [] ([.inr (9, [.int (z_bi b), .ref 1, .ref 2, .ref 3, .int (nI (T).length)]), z_ia 20 f, z_ia 20 g', .inr (11, [.ref 4]), z_ia 7 c], z_no) 0 0 := by
        intro n9
        induction n9 with
        | zero => intro g' j hj hs hp hp0 hf9; exact absurd hf9 (by omega)
        | succ n9 ih =>
          intro g' j hj hs hp hp0 hf9
          refine j_aload_n dX4_addKey_25 rfl rfl ?_
          refine j_getf dX4_addKey_26 fX4_25 rfl rfl ?_
          refine j_if_eq (tgt := 68) dX4_addKey_29 (by decide) (fun c_29 => ?_) (fun c_29 => ?_)
          · have hb29 := z_bF c_29
            have hpl : sp_pl b T k = j := by rw [hb29]; exact (hp0 hb29).symm
            refine j_aload_n dX4_addKey_68 rfl rfl ?_
            refine j_getf dX4_addKey_69 fX4_15 rfl rfl ?_
            refine j_iload_n dX4_addKey_72 rfl ?_
            refine j_iload_n dX4_addKey_73 rfl ?_
            refine j_stoN (w' := ([.inr (9, [_, _, _, _, _]), z_ia 20 _, z_ia 20 _, .inr (11, [_]), z_ia 7 _], z_no)) dX4_addKey_74 rfl (k := j) (by omega) (by omega) rfl ?_
            refine j_aload_n dX4_addKey_75 rfl rfl ?_
            refine j_dup dX4_addKey_76 rfl ?_
            refine j_getf dX4_addKey_77 fX4_29 rfl rfl ?_
            refine j_iconst (v := 1) dX4_addKey_80 (by decide) ?_
            refine j_iadd dX4_addKey_81 ?_
            refine j_top (congrArg Value.int (show nI (T.length) + nI (1) = nI (T.length + 1) from nI_add _ _)) ?_
            refine j_put (w' := ([.inr (9, [_, _, _, _, _]), z_ia 20 _, z_ia 20 _, .inr (11, [_]), z_ia 7 _], z_no)) dX4_addKey_82 fX4_29 tX4_4 rfl ⟨rfl, rfl⟩ rfl ?_
            refine j_vret dX4_addKey_85 rfl ?_ (Nat.le_of_ble_eq_true rfl) (Nat.le_of_ble_eq_true rfl)
            exact ⟨rfl, rfl, rfl, _, (by rw [hpl]; have z := hs; rw [← sp_ksl (T := T)] at z; exact z.ins (by rw [sp_ksl]; exact hj) ht.2.2), rfl⟩
          · have hb29 := z_bt c_29
            refine j_iload_n dX4_addKey_32 rfl ?_
            refine j_if_le (tgt := 68) dX4_addKey_33 (by decide) (fun c_33 => ?_) (fun c_33 => ?_)
            · have hb33 : j ≤ 0 := (nI_leI (a := j) (b := 0) (by omega) (by omega)).mp c_33
              have hj0 : j = 0 := by omega
              have hpl : sp_pl b T k = j := by rw [hb29]; refine (hp hb29).symm.trans ?_; rw [hj0]; rfl
              refine j_aload_n dX4_addKey_68 rfl rfl ?_
              refine j_getf dX4_addKey_69 fX4_15 rfl rfl ?_
              refine j_iload_n dX4_addKey_72 rfl ?_
              refine j_iload_n dX4_addKey_73 rfl ?_
              refine j_stoN (w' := ([.inr (9, [_, _, _, _, _]), z_ia 20 _, z_ia 20 _, .inr (11, [_]), z_ia 7 _], z_no)) dX4_addKey_74 rfl (k := j) (by omega) (by omega) rfl ?_
              refine j_aload_n dX4_addKey_75 rfl rfl ?_
              refine j_dup dX4_addKey_76 rfl ?_
              refine j_getf dX4_addKey_77 fX4_29 rfl rfl ?_
              refine j_iconst (v := 1) dX4_addKey_80 (by decide) ?_
              refine j_iadd dX4_addKey_81 ?_
              refine j_top (congrArg Value.int (show nI (T.length) + nI (1) = nI (T.length + 1) from nI_add _ _)) ?_
              refine j_put (w' := ([.inr (9, [_, _, _, _, _]), z_ia 20 _, z_ia 20 _, .inr (11, [_]), z_ia 7 _], z_no)) dX4_addKey_82 fX4_29 tX4_4 rfl ⟨rfl, rfl⟩ rfl ?_
              refine j_vret dX4_addKey_85 rfl ?_ (Nat.le_of_ble_eq_true rfl) (Nat.le_of_ble_eq_true rfl)
              exact ⟨rfl, rfl, rfl, _, (by rw [hpl]; have z := hs; rw [← sp_ksl (T := T)] at z; exact z.ins (by rw [sp_ksl]; exact hj) ht.2.2), rfl⟩
            · have hb33 : 0 < j := Nat.not_le.mp (fun z => c_33 ((nI_leI (a := j) (b := 0) (by omega) (by omega)).mpr z))
              refine j_aload_n dX4_addKey_36 rfl rfl ?_
              refine j_getf dX4_addKey_37 fX4_15 rfl rfl ?_
              refine j_iload_n dX4_addKey_40 rfl ?_
              refine j_iconst (v := 1) dX4_addKey_41 (by decide) ?_
              refine j_isub dX4_addKey_42 ?_
              refine j_top (congrArg Value.int (q_nsub (a := j) (b := 1) (by omega))) ?_
              refine j_ldN dX4_addKey_43 rfl (k := (j - 1)) (by omega) (by omega) ?_
              refine j_iload_n dX4_addKey_44 rfl ?_
              obtain ⟨p9, hq9, hm9⟩ := sp_gt (T := T) (j := j - 1) (by omega)
              have hk9 : g' (j - 1) = nI p9.1 := (hs.1 (j - 1) (by omega)).trans (ht.key hq9)
              have hp20 := (ht.1.2 p9 hm9).1
              refine j_icmp_le (tgt := 68) dX4_addKey_45 (by decide) (fun c_45 => ?_) (fun c_45 => ?_)
              · rw [hk9] at c_45
                have hle : ¬ k < p9.1 := Nat.not_lt.mpr ((nI_leI (a := p9.1) (b := k) (by omega) (by omega)).mp c_45)
                have hpl : sp_pl b T k = j := by rw [hb29]; exact (hp hb29).symm.trans (sp_at_eq hb33 hq9 hle)
                refine j_aload_n dX4_addKey_68 rfl rfl ?_
                refine j_getf dX4_addKey_69 fX4_15 rfl rfl ?_
                refine j_iload_n dX4_addKey_72 rfl ?_
                refine j_iload_n dX4_addKey_73 rfl ?_
                refine j_stoN (w' := ([.inr (9, [_, _, _, _, _]), z_ia 20 _, z_ia 20 _, .inr (11, [_]), z_ia 7 _], z_no)) dX4_addKey_74 rfl (k := j) (by omega) (by omega) rfl ?_
                refine j_aload_n dX4_addKey_75 rfl rfl ?_
                refine j_dup dX4_addKey_76 rfl ?_
                refine j_getf dX4_addKey_77 fX4_29 rfl rfl ?_
                refine j_iconst (v := 1) dX4_addKey_80 (by decide) ?_
                refine j_iadd dX4_addKey_81 ?_
                refine j_top (congrArg Value.int (show nI (T.length) + nI (1) = nI (T.length + 1) from nI_add _ _)) ?_
                refine j_put (w' := ([.inr (9, [_, _, _, _, _]), z_ia 20 _, z_ia 20 _, .inr (11, [_]), z_ia 7 _], z_no)) dX4_addKey_82 fX4_29 tX4_4 rfl ⟨rfl, rfl⟩ rfl ?_
                refine j_vret dX4_addKey_85 rfl ?_ (Nat.le_of_ble_eq_true rfl) (Nat.le_of_ble_eq_true rfl)
                exact ⟨rfl, rfl, rfl, _, (by rw [hpl]; have z := hs; rw [← sp_ksl (T := T)] at z; exact z.ins (by rw [sp_ksl]; exact hj) ht.2.2), rfl⟩
              · rw [hk9] at c_45
                have hgt : k < p9.1 := Nat.not_le.mp (fun z => c_45 ((nI_leI (a := p9.1) (b := k) (by omega) (by omega)).mpr z))
                refine j_aload_n dX4_addKey_48 rfl rfl ?_
                refine j_getf dX4_addKey_49 fX4_15 rfl rfl ?_
                refine j_iload_n dX4_addKey_52 rfl ?_
                refine j_aload_n dX4_addKey_53 rfl rfl ?_
                refine j_getf dX4_addKey_54 fX4_15 rfl rfl ?_
                refine j_iload_n dX4_addKey_57 rfl ?_
                refine j_iconst (v := 1) dX4_addKey_58 (by decide) ?_
                refine j_isub dX4_addKey_59 ?_
                refine j_top (congrArg Value.int (q_nsub (a := j) (b := 1) (by omega))) ?_
                refine j_ldN dX4_addKey_60 rfl (k := (j - 1)) (by omega) (by omega) ?_
                refine j_stoN (w' := ([.inr (9, [_, _, _, _, _]), z_ia 20 _, z_ia 20 _, .inr (11, [_]), z_ia 7 _], z_no)) dX4_addKey_61 rfl (k := j) (by omega) (by omega) rfl ?_
                refine j_iinc (lo' := [(2, _), (0, _), (1, _)]) dX4_addKey_62 rfl (q_ndec (a := j) (by omega)) (by decide) rfl ?_
                refine j_goto (tgt := 25) dX4_addKey_65 (by decide) ?_
                exact j_lo2 (ih _ (j - 1) (by omega) (hs.step hb33) (fun _ => (sp_at_st hb33 hq9 hgt).symm.trans (hp hb29)) (fun z => by rw [hb29] at z; cases z) (by omega)) (z_q1 rfl (z_q1 rfl (z_q1 rfl z_q0)))
      exact j_lo2 (loop (T.length + 1) _ T.length (Nat.le_refl _) z_sh.rf (fun _ => rfl) (fun _ => rfl) (by omega)) (z_q1 rfl (z_q1 rfl (z_q1 rfl z_q0)))
    · have hb16 : ¬ T.length < 20 := fun z => c_16 ((nI_ltI (a := T.length) (b := 20) (by omega) (by omega)).mpr z)
      exact absurd hr9 (by omega)
set_option maxRecDepth 100000 in
set_option maxHeartbeats 8000000 in
theorem c_X4_takeKey_e (hl : l.stackTraces = false) (b : Bool) (f g c : Nat → Int32) (T : List (Nat × Int32)) (k : Nat) (ht : z_tba f g T) (hk : k < 20) : z_CF G l mX4_takeKey 10 0 0 [.inr (9, [.int (z_bi b), .ref 1, .ref 2, .ref 3, .int (nI (T).length)]), z_ia 20 f, z_ia 20 g, .inr (11, [.ref 4]), z_ia 7 c] [.ref 0, .int (nI k)] (fun v L => v = none ∧ ∃ g' : Nat → Int32, z_sq g' ((sp_ks T).filter (fun x => !(x == k))) ∧ L = [.inr (9, [.int (z_bi b), .ref 1, .ref 2, .ref 3, .int (nI (sp_go T k).length)]), z_ia 20 f, z_ia 20 g', .inr (11, [.ref 4]), z_ia 7 c]) := by
  refine z_body hl (by decide) rfl (Nat.le_of_ble_eq_true rfl) ?_
  show z_J G l mX4_takeKey (z_SF 10 0 0 [.inr (9, [.int (z_bi b), .ref 1, .ref 2, .ref 3, .int (nI (T).length)]), z_ia 20 f, z_ia 20 g, .inr (11, [.ref 4]), z_ia 7 c] (fun v L => v = none ∧ ∃ g' : Nat → Int32, z_sq g' ((sp_ks T).filter (fun x => !(x == k))) ∧ L = [.inr (9, [.int (z_bi b), .ref 1, .ref 2, .ref 3, .int (nI (sp_go T k).length)]), z_ia 20 f, z_ia 20 g', .inr (11, [.ref 4]), z_ia 7 c])) 0 [(0, _), (1, _)] [] _ 0 0
  have hln := ht.len
  refine j_iconst (v := 0) dX4_takeKey_0 (by decide) ?_
  refine j_istore_n (lo' := [(2, _), (0, _), (1, _)]) dX4_takeKey_1 (by decide) rfl ?_
  refine j_iconst (v := 0) dX4_takeKey_2 (by decide) ?_
  refine j_istore_n (lo' := [(3, _), (2, _), (0, _), (1, _)]) dX4_takeKey_3 (by decide) rfl ?_
  have loop : ∀ (n9 : Nat) (g' : Nat → Int32) (q j : Nat), (j ≤ T.length) → (q = (((sp_ks T).take j).filter (fun x => !(x == k))).length) → (q ≤ j) → (z_sq g' (((sp_ks T).take j).filter (fun x => !(x == k)))) → (∀ x, j ≤ x → g' x = g x) → (T.length < j + n9) → z_J G l mX4_takeKey (z_SF 10 0 0 [.inr (9, [.int (z_bi b), .ref 1, .ref 2, .ref 3, .int (nI (T).length)]), z_ia 20 f, z_ia 20 g, .inr (11, [.ref 4]), z_ia 7 c] (fun v L => v = none ∧ ∃ g' : Nat → Int32, z_sq g' ((sp_ks T).filter (fun x => !(x == k))) ∧ L = [.inr (9, [.int (z_bi b), .ref 1, .ref 2, .ref 3, .int (nI (sp_go T k).length)]), z_ia 20 f, z_ia 20 g', .inr (11, [.ref 4]), z_ia 7 c])) 4 [(0, .ref 0), (1, .int (nI k)), (2, .int (nI q)), (3, .int (nI j))] [] ([.inr (9, [.int (z_bi b), .ref 1, .ref 2, .ref 3, .int (nI (T).length)]), z_ia 20 f, z_ia 20 g', .inr (11, [.ref 4]), z_ia 7 c], z_no) 0 0 := by
    intro n9
    induction n9 with
    | zero => intro g' q j hj hq hqj hs hrr hf9; exact absurd hf9 (by omega)
    | succ n9 ih =>
      intro g' q j hj hq hqj hs hrr hf9
      refine j_iload_n dX4_takeKey_4 rfl ?_
      refine j_aload_n dX4_takeKey_5 rfl rfl ?_
      refine j_getf dX4_takeKey_6 fX4_29 rfl rfl ?_
      refine j_icmp_ge (tgt := 52) dX4_takeKey_9 (by decide) (fun c_9 => ?_) (fun c_9 => ?_)
      · have hb9 : T.length ≤ j := (nI_leI (a := T.length) (b := j) (by omega) (by omega)).mp c_9
        have hjT : j = T.length := by omega
        have hqT : q = ((sp_ks T).filter (fun x => !(x == k))).length := by rw [hq, hjT, ← sp_ksl (T := T), List.take_length]
        rw [hjT, ← sp_ksl (T := T), List.take_length] at hs
        refine j_aload_n dX4_takeKey_52 rfl rfl ?_
        refine j_iload_n dX4_takeKey_53 rfl ?_
        refine j_put (w' := ([.inr (9, [_, _, _, _, _]), z_ia 20 _, z_ia 20 _, .inr (11, [_]), z_ia 7 _], z_no)) dX4_takeKey_54 fX4_29 tX4_4 rfl ⟨rfl, rfl⟩ rfl ?_
        refine j_vret dX4_takeKey_57 rfl ?_ (Nat.le_of_ble_eq_true rfl) (Nat.le_of_ble_eq_true rfl)
        exact ⟨rfl, rfl, rfl, _, hs, by rw [sp_go_len, ← hqT]⟩
      · have hb9 : j < T.length := Nat.not_le.mp (fun z => c_9 ((nI_leI (a := T.length) (b := j) (by omega) (by omega)).mpr z))
        refine j_iload_n dX4_takeKey_12 rfl ?_
        refine j_aload_n dX4_takeKey_13 rfl rfl ?_
        refine j_getf dX4_takeKey_14 fX4_15 rfl rfl ?_
        refine j_alen dX4_takeKey_17 rfl rfl rfl ?_
        refine j_icmp_ge (tgt := 52) dX4_takeKey_18 (by decide) (fun c_18 => ?_) (fun c_18 => ?_)
        · have hb18 : 20 ≤ j := (nI_leI (a := 20) (b := j) (by omega) (by omega)).mp c_18
          exact absurd hb9 (by omega)
        · have hb18 : j < 20 := Nat.not_le.mp (fun z => c_18 ((nI_leI (a := 20) (b := j) (by omega) (by omega)).mpr z))
          refine j_aload_n dX4_takeKey_21 rfl rfl ?_
          refine j_getf dX4_takeKey_22 fX4_15 rfl rfl ?_
          refine j_iload_n dX4_takeKey_25 rfl ?_
          refine j_ldN dX4_takeKey_26 rfl (k := j) (by omega) (by omega) ?_
          refine j_iload_n dX4_takeKey_27 rfl ?_
          obtain ⟨p9, hp9, hm9⟩ := sp_gt (T := T) (j := j) (by omega)
          have hkk : (sp_ks T)[j]? = some p9.1 := by unfold sp_ks; rw [List.getElem?_map, hp9]; rfl
          have hp20 := (ht.1.2 p9 hm9).1
          have hk9 : g' j = nI p9.1 := (hrr j (Nat.le_refl _)).trans (ht.key hp9)
          refine j_icmp_eq (tgt := 46) dX4_takeKey_28 (by decide) (fun c_28 => ?_) (fun c_28 => ?_)
          · have hkq : p9.1 = k := nI_inj (hk9.symm.trans c_28) (by omega) (by omega)
            refine j_iinc (lo' := [(3, _), (0, _), (1, _), (2, _)]) dX4_takeKey_46 rfl (z_inc _) (by decide) rfl ?_
            refine j_goto (tgt := 4) dX4_takeKey_49 (by decide) ?_
            exact j_lo2 (ih _ _ (j + 1) (by omega) (hq.trans (by rw [z_sq.skip hkk hkq] <;> rfl)) (by omega) (by rw [z_sq.skip hkk hkq]; exact hs) (fun x hx => hrr x (by omega)) (by omega)) (z_q1 rfl (z_q1 rfl (z_q1 rfl (z_q1 rfl z_q0))))
          · have hkq : ¬ p9.1 = k := fun z => c_28 (hk9.trans (by rw [z] <;> rfl))
            have hkp := z_sq.keep ht.2.2 hkk hs hrr hkq
            rw [← hq] at hkp
            refine j_aload_n dX4_takeKey_31 rfl rfl ?_
            refine j_getf dX4_takeKey_32 fX4_15 rfl rfl ?_
            refine j_iload_n dX4_takeKey_35 rfl ?_
            refine j_aload_n dX4_takeKey_36 rfl rfl ?_
            refine j_getf dX4_takeKey_37 fX4_15 rfl rfl ?_
            refine j_iload_n dX4_takeKey_40 rfl ?_
            refine j_ldN dX4_takeKey_41 rfl (k := j) (by omega) (by omega) ?_
            refine j_stoN (w' := ([.inr (9, [_, _, _, _, _]), z_ia 20 _, z_ia 20 _, .inr (11, [_]), z_ia 7 _], z_no)) dX4_takeKey_42 rfl (k := q) (by omega) (by omega) rfl ?_
            refine j_iinc (lo' := [(2, _), (0, _), (1, _), (3, _)]) dX4_takeKey_43 rfl (z_inc _) (by decide) rfl ?_
            refine j_iinc (lo' := [(3, _), (2, _), (0, _), (1, _)]) dX4_takeKey_46 rfl (z_inc _) (by decide) rfl ?_
            refine j_goto (tgt := 4) dX4_takeKey_49 (by decide) ?_
            exact j_lo2 (ih _ _ (j + 1) (by omega) hkp.2.symm (by have := sp_fl_le (i := j + 1) (k := k) (K := sp_ks T); omega) hkp.1 (fun x hx => (z_ui_ne (by omega)).trans (hrr x (by omega))) (by omega)) (z_q1 rfl (z_q1 rfl (z_q1 rfl (z_q1 rfl z_q0))))
  exact j_lo2 (loop (T.length + 1) _ 0 0 (by omega) rfl (by omega) z_sq.nil (fun _ _ => rfl) (by omega)) (z_q1 rfl (z_q1 rfl (z_q1 rfl (z_q1 rfl z_q0))))
set_option maxRecDepth 100000 in
set_option maxHeartbeats 8000000 in
theorem c_X4_setValm_e (hl : l.stackTraces = false) (b : Bool) (f g c : Nat → Int32) (m : Nat) (k : Nat) (x : Int32) (hk : k < 20) : z_CF G l mX4_setValue 10 0 0 [.inr (9, [.int (z_bi b), .ref 1, .ref 2, .ref 3, .int (nI m)]), z_ia 20 f, z_ia 20 g, .inr (11, [.ref 4]), z_ia 7 c] [.ref 0, .int (nI k), .int x] (fun v L => v = none ∧ L = [.inr (9, [.int (z_bi b), .ref 1, .ref 2, .ref 3, .int (nI m)]), z_ia 20 (z_ui f k x), z_ia 20 g, .inr (11, [.ref 4]), z_ia 7 c]) := by
  refine z_body hl (by decide) rfl (Nat.le_of_ble_eq_true rfl) ?_
  show z_J G l mX4_setValue (z_SF 10 0 0 [.inr (9, [.int (z_bi b), .ref 1, .ref 2, .ref 3, .int (nI m)]), z_ia 20 f, z_ia 20 g, .inr (11, [.ref 4]), z_ia 7 c] (fun v L => v = none ∧ L = [.inr (9, [.int (z_bi b), .ref 1, .ref 2, .ref 3, .int (nI m)]), z_ia 20 (z_ui f k x), z_ia 20 g, .inr (11, [.ref 4]), z_ia 7 c])) 0 [(0, _), (1, _), (2, _)] [] _ 0 0
  refine j_iload_n dX4_setValue_0 rfl ?_
  refine j_if_lt (tgt := 20) dX4_setValue_1 (by decide) (fun c_1 => ?_) (fun c_1 => ?_)
  · exact absurd c_1 (nI_pos (n := k) (by omega))
  · have hb1 : ¬ k < 0 := fun z => c_1 ((nI_ltI (a := k) (b := 0) (by omega) (by omega)).mpr z)
    refine j_iload_n dX4_setValue_4 rfl ?_
    refine j_aload_n dX4_setValue_5 rfl rfl ?_
    refine j_getf dX4_setValue_6 fX4_9 rfl rfl ?_
    refine j_alen dX4_setValue_9 rfl rfl rfl ?_
    refine j_icmp_ge (tgt := 20) dX4_setValue_10 (by decide) (fun c_10 => ?_) (fun c_10 => ?_)
    · have hb10 : 20 ≤ k := (nI_leI (a := 20) (b := k) (by omega) (by omega)).mp c_10
      exact absurd hk (by omega)
    · have hb10 : k < 20 := Nat.not_le.mp (fun z => c_10 ((nI_leI (a := 20) (b := k) (by omega) (by omega)).mpr z))
      refine j_aload_n dX4_setValue_13 rfl rfl ?_
      refine j_getf dX4_setValue_14 fX4_9 rfl rfl ?_
      refine j_iload_n dX4_setValue_17 rfl ?_
      refine j_iload_n dX4_setValue_18 rfl ?_
      refine j_stoN (w' := ([.inr (9, [_, _, _, _, _]), z_ia 20 _, z_ia 20 _, .inr (11, [_]), z_ia 7 _], z_no)) dX4_setValue_19 rfl (k := k) (by omega) (by omega) rfl ?_
      refine j_vret dX4_setValue_20 rfl ?_ (Nat.le_of_ble_eq_true rfl) (Nat.le_of_ble_eq_true rfl)
      exact ⟨rfl, rfl, rfl, rfl⟩
set_option maxRecDepth 100000 in
set_option maxHeartbeats 8000000 in
theorem c_X4_store_e (hl : l.stackTraces = false) (b : Bool) (f g c : Nat → Int32) (T : List (Nat × Int32)) (k : Nat) (x : Int32) (ht : z_tba f g T) (hk : k < 20) (hx : z_vl x) : z_CF G l mX4_store 12 0 0 [.inr (9, [.int (z_bi b), .ref 1, .ref 2, .ref 3, .int (nI (T).length)]), z_ia 20 f, z_ia 20 g, .inr (11, [.ref 4]), z_ia 7 c] [.ref 0, .int (nI k), .int x] (fun v L => v = some (.int (sp_lk T k)) ∧ ∃ f' g' : Nat → Int32, z_tba f' g' (sp_pt b T k x) ∧ L = [.inr (9, [.int (z_bi b), .ref 1, .ref 2, .ref 3, .int (nI ((sp_pt b T k x)).length)]), z_ia 20 f', z_ia 20 g', .inr (11, [.ref 4]), z_ia 7 (z_bp c 5)]) := by
  refine z_body hl (by decide) rfl (Nat.le_of_ble_eq_true rfl) ?_
  show z_J G l mX4_store (z_SF 12 0 0 [.inr (9, [.int (z_bi b), .ref 1, .ref 2, .ref 3, .int (nI (T).length)]), z_ia 20 f, z_ia 20 g, .inr (11, [.ref 4]), z_ia 7 c] (fun v L => v = some (.int (sp_lk T k)) ∧ ∃ f' g' : Nat → Int32, z_tba f' g' (sp_pt b T k x) ∧ L = [.inr (9, [.int (z_bi b), .ref 1, .ref 2, .ref 3, .int (nI ((sp_pt b T k x)).length)]), z_ia 20 f', z_ia 20 g', .inr (11, [.ref 4]), z_ia 7 (z_bp c 5)])) 0 [(0, _), (1, _), (2, _)] [] _ 0 0
  have hln := ht.len
  refine j_aload_n dX4_store_0 rfl rfl ?_
  refine j_getf dX4_store_1 fX4_21 rfl rfl ?_
  refine j_iconst (v := 5) dX4_store_4 (by decide) ?_
  refine j_callV (q := (RX6, TX6, 1)) dX4_store_5 kX6_add lX4_33 inX6_add seX6_add rfl rfl (z_frame [3, 4] rfl (by decide) (Nat.le_of_ble_eq_true rfl) (c_X6_add_e hl _ 5 (by decide))) (Nat.le_of_ble_eq_true rfl) ⟨(Nat.le_of_ble_eq_true rfl), (Nat.le_of_ble_eq_true rfl)⟩ rfl (Nat.le_of_ble_eq_true rfl) rfl rfl (fun _ _ h => h.elim) ?_
  rintro _ _ ⟨_, _, ⟨rfl, rfl⟩, rfl, rfl⟩
  refine j_ws (L' := [.inr (9, [_, _, _, _, _]), z_ia 20 _, z_ia 20 _, .inr (11, [_]), z_ia 7 _]) (by decide) rfl rfl ?_
  refine j_aload_n dX4_store_8 rfl rfl ?_
  refine j_iload_n dX4_store_9 rfl ?_
  refine j_callV (q := (RX4, TX4, 5)) dX4_store_10 kX4_look lX4_37 inX4_look seX4_look rfl rfl (z_frame [0, 1, 2, 3, 4] rfl (by decide) (Nat.le_of_ble_eq_true rfl) (c_X4_look_e hl _ _ _ _ _ T k ht hk)) (Nat.le_of_ble_eq_true rfl) ⟨(Nat.le_of_ble_eq_true rfl), (Nat.le_of_ble_eq_true rfl)⟩ rfl (Nat.le_of_ble_eq_true rfl) rfl rfl (fun _ _ h => h.elim) ?_
  rintro _ _ ⟨_, _, ⟨rfl, rfl⟩, rfl, rfl⟩
  refine j_ws (L' := [.inr (9, [_, _, _, _, _]), z_ia 20 _, z_ia 20 _, .inr (11, [_]), z_ia 7 _]) (by decide) rfl rfl ?_
  refine j_istore_n (lo' := [(3, _), (0, _), (1, _), (2, _)]) dX4_store_13 (by decide) rfl ?_
  refine j_iload_n dX4_store_14 rfl ?_
  refine j_sipush (v := (-1000)) dX4_store_15 (by decide) ?_
  refine j_icmp_ne (tgt := 26) dX4_store_18 (by decide) (fun c_18 => ?_) (fun c_18 => ?_)
  · have e9 : sp_pt b T k x = sp_st T k x := if_neg c_18
    refine j_aload_n dX4_store_26 rfl rfl ?_
    refine j_iload_n dX4_store_27 rfl ?_
    refine j_iload_n dX4_store_28 rfl ?_
    refine j_callV (q := (RX4, TX4, 5)) dX4_store_29 kX4_setValue lX4_44 inX4_setValue seX4_setValue rfl rfl (z_frame [0, 1, 2, 3, 4] rfl (by decide) (Nat.le_of_ble_eq_true rfl) (c_X4_setValm_e hl _ _ _ _ (T.length) k x hk)) (Nat.le_of_ble_eq_true rfl) ⟨(Nat.le_of_ble_eq_true rfl), (Nat.le_of_ble_eq_true rfl)⟩ rfl (Nat.le_of_ble_eq_true rfl) rfl rfl (fun _ _ h => h.elim) ?_
    rintro _ _ ⟨_, _, ⟨rfl, rfl⟩, rfl, rfl⟩
    refine j_ws (L' := [.inr (9, [_, _, _, _, _]), z_ia 20 _, z_ia 20 _, .inr (11, [_]), z_ia 7 _]) (by decide) rfl rfl ?_
    refine j_iload_n dX4_store_32 rfl ?_
    refine j_iret dX4_store_33 rfl rfl ?_ (Nat.le_of_ble_eq_true rfl) (Nat.le_of_ble_eq_true rfl)
    first | exact ⟨rfl, rfl, rfl, _, _, (by rw [e9]; exact ht.st c_18 hx), (by rw [e9, sp_st_len] <;> rfl)⟩ | exact ⟨rfl, rfl, rfl, _, _, (by rw [e9]; exact ht.ins hk c9 hx hg9), (by rw [e9, sp_ins_len] <;> rfl)⟩
  · have c9 : sp_lk T k = -1000 := c_18
    have e9 : sp_pt b T k x = sp_ins T (sp_pl b T k) k x := if_pos c9
    refine j_aload_n dX4_store_21 rfl rfl ?_
    refine j_iload_n dX4_store_22 rfl ?_
    refine j_callV (q := (RX4, TX4, 5)) dX4_store_23 kX4_addKey lX4_41 inX4_addKey seX4_addKey rfl rfl (z_frame [0, 1, 2, 3, 4] rfl (by decide) (Nat.le_of_ble_eq_true rfl) (c_X4_addKey_e hl _ _ _ _ T k ht hk c9)) (Nat.le_of_ble_eq_true rfl) ⟨(Nat.le_of_ble_eq_true rfl), (Nat.le_of_ble_eq_true rfl)⟩ rfl (Nat.le_of_ble_eq_true rfl) rfl rfl (fun _ _ h => h.elim) ?_
    rintro _ _ ⟨_, _, ⟨rfl, g9, hg9, rfl⟩, rfl, rfl⟩
    refine j_ws (L' := [.inr (9, [_, _, _, _, _]), z_ia 20 _, z_ia 20 _, .inr (11, [_]), z_ia 7 _]) (by decide) rfl rfl ?_
    refine j_aload_n dX4_store_26 rfl rfl ?_
    refine j_iload_n dX4_store_27 rfl ?_
    refine j_iload_n dX4_store_28 rfl ?_
    refine j_callV (q := (RX4, TX4, 5)) dX4_store_29 kX4_setValue lX4_44 inX4_setValue seX4_setValue rfl rfl (z_frame [0, 1, 2, 3, 4] rfl (by decide) (Nat.le_of_ble_eq_true rfl) (c_X4_setValm_e hl _ _ _ _ (T.length + 1) k x hk)) (Nat.le_of_ble_eq_true rfl) ⟨(Nat.le_of_ble_eq_true rfl), (Nat.le_of_ble_eq_true rfl)⟩ rfl (Nat.le_of_ble_eq_true rfl) rfl rfl (fun _ _ h => h.elim) ?_
    rintro _ _ ⟨_, _, ⟨rfl, rfl⟩, rfl, rfl⟩
    refine j_ws (L' := [.inr (9, [_, _, _, _, _]), z_ia 20 _, z_ia 20 _, .inr (11, [_]), z_ia 7 _]) (by decide) rfl rfl ?_
    refine j_iload_n dX4_store_32 rfl ?_
    refine j_iret dX4_store_33 rfl rfl ?_ (Nat.le_of_ble_eq_true rfl) (Nat.le_of_ble_eq_true rfl)
    first | exact ⟨rfl, rfl, rfl, _, _, (by rw [e9]; exact ht.st c_18 hx), (by rw [e9, sp_st_len] <;> rfl)⟩ | exact ⟨rfl, rfl, rfl, _, _, (by rw [e9]; exact ht.ins hk c9 hx hg9), (by rw [e9, sp_ins_len] <;> rfl)⟩
set_option maxRecDepth 100000 in
set_option maxHeartbeats 8000000 in
theorem c_X4_sendAway_e (hl : l.stackTraces = false) (b : Bool) (f g c : Nat → Int32) (T : List (Nat × Int32)) (k : Nat) (ht : z_tba f g T) (hk : k < 20) : z_CF G l mX4_sendAway 12 0 0 [.inr (9, [.int (z_bi b), .ref 1, .ref 2, .ref 3, .int (nI (T).length)]), z_ia 20 f, z_ia 20 g, .inr (11, [.ref 4]), z_ia 7 c] [.ref 0, .int (nI k)] (fun v L => v = some (.int (sp_lk T k)) ∧ ∃ f' g' : Nat → Int32, z_tba f' g' (sp_go T k) ∧ L = [.inr (9, [.int (z_bi b), .ref 1, .ref 2, .ref 3, .int (nI ((sp_go T k)).length)]), z_ia 20 f', z_ia 20 g', .inr (11, [.ref 4]), z_ia 7 (z_bp c 6)]) := by
  refine z_body hl (by decide) rfl (Nat.le_of_ble_eq_true rfl) ?_
  show z_J G l mX4_sendAway (z_SF 12 0 0 [.inr (9, [.int (z_bi b), .ref 1, .ref 2, .ref 3, .int (nI (T).length)]), z_ia 20 f, z_ia 20 g, .inr (11, [.ref 4]), z_ia 7 c] (fun v L => v = some (.int (sp_lk T k)) ∧ ∃ f' g' : Nat → Int32, z_tba f' g' (sp_go T k) ∧ L = [.inr (9, [.int (z_bi b), .ref 1, .ref 2, .ref 3, .int (nI ((sp_go T k)).length)]), z_ia 20 f', z_ia 20 g', .inr (11, [.ref 4]), z_ia 7 (z_bp c 6)])) 0 [(0, _), (1, _)] [] _ 0 0
  have hln := ht.len
  refine j_aload_n dX4_sendAway_0 rfl rfl ?_
  refine j_getf dX4_sendAway_1 fX4_21 rfl rfl ?_
  refine j_bipush (v := 6) dX4_sendAway_4 (by decide) ?_
  refine j_callV (q := (RX6, TX6, 1)) dX4_sendAway_6 kX6_add lX4_33 inX6_add seX6_add rfl rfl (z_frame [3, 4] rfl (by decide) (Nat.le_of_ble_eq_true rfl) (c_X6_add_e hl _ 6 (by decide))) (Nat.le_of_ble_eq_true rfl) ⟨(Nat.le_of_ble_eq_true rfl), (Nat.le_of_ble_eq_true rfl)⟩ rfl (Nat.le_of_ble_eq_true rfl) rfl rfl (fun _ _ h => h.elim) ?_
  rintro _ _ ⟨_, _, ⟨rfl, rfl⟩, rfl, rfl⟩
  refine j_ws (L' := [.inr (9, [_, _, _, _, _]), z_ia 20 _, z_ia 20 _, .inr (11, [_]), z_ia 7 _]) (by decide) rfl rfl ?_
  refine j_aload_n dX4_sendAway_9 rfl rfl ?_
  refine j_iload_n dX4_sendAway_10 rfl ?_
  refine j_callV (q := (RX4, TX4, 5)) dX4_sendAway_11 kX4_look lX4_37 inX4_look seX4_look rfl rfl (z_frame [0, 1, 2, 3, 4] rfl (by decide) (Nat.le_of_ble_eq_true rfl) (c_X4_look_e hl _ _ _ _ _ T k ht hk)) (Nat.le_of_ble_eq_true rfl) ⟨(Nat.le_of_ble_eq_true rfl), (Nat.le_of_ble_eq_true rfl)⟩ rfl (Nat.le_of_ble_eq_true rfl) rfl rfl (fun _ _ h => h.elim) ?_
  rintro _ _ ⟨_, _, ⟨rfl, rfl⟩, rfl, rfl⟩
  refine j_ws (L' := [.inr (9, [_, _, _, _, _]), z_ia 20 _, z_ia 20 _, .inr (11, [_]), z_ia 7 _]) (by decide) rfl rfl ?_
  refine j_istore_n (lo' := [(2, _), (0, _), (1, _)]) dX4_sendAway_14 (by decide) rfl ?_
  refine j_iload_n dX4_sendAway_15 rfl ?_
  refine j_sipush (v := (-1000)) dX4_sendAway_16 (by decide) ?_
  refine j_icmp_eq (tgt := 35) dX4_sendAway_19 (by decide) (fun c_19 => ?_) (fun c_19 => ?_)
  · have e9 : sp_go T k = T := sp_go_no ((sp_lk_iff ht.1).mp c_19)
    refine j_iload_n dX4_sendAway_35 rfl ?_
    refine j_iret dX4_sendAway_36 rfl rfl ?_ (Nat.le_of_ble_eq_true rfl) (Nat.le_of_ble_eq_true rfl)
    first | exact ⟨rfl, rfl, rfl, _, _, (by rw [e9]; exact ht), (by rw [e9] <;> rfl)⟩ | exact ⟨rfl, rfl, rfl, _, _, ht.go hg9, rfl⟩
  · refine j_aload_n dX4_sendAway_22 rfl rfl ?_
    refine j_iload_n dX4_sendAway_23 rfl ?_
    refine j_callV (q := (RX4, TX4, 5)) dX4_sendAway_24 kX4_takeKey lX4_48 inX4_takeKey seX4_takeKey rfl rfl (z_frame [0, 1, 2, 3, 4] rfl (by decide) (Nat.le_of_ble_eq_true rfl) (c_X4_takeKey_e hl _ _ _ _ T k ht hk)) (Nat.le_of_ble_eq_true rfl) ⟨(Nat.le_of_ble_eq_true rfl), (Nat.le_of_ble_eq_true rfl)⟩ rfl (Nat.le_of_ble_eq_true rfl) rfl rfl (fun _ _ h => h.elim) ?_
    rintro _ _ ⟨_, _, ⟨rfl, g9, hg9, rfl⟩, rfl, rfl⟩
    refine j_ws (L' := [.inr (9, [_, _, _, _, _]), z_ia 20 _, z_ia 20 _, .inr (11, [_]), z_ia 7 _]) (by decide) rfl rfl ?_
    refine j_aload_n dX4_sendAway_27 rfl rfl ?_
    refine j_iload_n dX4_sendAway_28 rfl ?_
    refine j_sipush (v := (-1000)) dX4_sendAway_29 (by decide) ?_
    refine j_callV (q := (RX4, TX4, 5)) dX4_sendAway_32 kX4_setValue lX4_44 inX4_setValue seX4_setValue rfl rfl (z_frame [0, 1, 2, 3, 4] rfl (by decide) (Nat.le_of_ble_eq_true rfl) (c_X4_setValm_e hl _ _ _ _ ((sp_go T k).length) k (-1000) hk)) (Nat.le_of_ble_eq_true rfl) ⟨(Nat.le_of_ble_eq_true rfl), (Nat.le_of_ble_eq_true rfl)⟩ rfl (Nat.le_of_ble_eq_true rfl) rfl rfl (fun _ _ h => h.elim) ?_
    rintro _ _ ⟨_, _, ⟨rfl, rfl⟩, rfl, rfl⟩
    refine j_ws (L' := [.inr (9, [_, _, _, _, _]), z_ia 20 _, z_ia 20 _, .inr (11, [_]), z_ia 7 _]) (by decide) rfl rfl ?_
    refine j_iload_n dX4_sendAway_35 rfl ?_
    refine j_iret dX4_sendAway_36 rfl rfl ?_ (Nat.le_of_ble_eq_true rfl) (Nat.le_of_ble_eq_true rfl)
    first | exact ⟨rfl, rfl, rfl, _, _, (by rw [e9]; exact ht), (by rw [e9] <;> rfl)⟩ | exact ⟨rfl, rfl, rfl, _, _, ht.go hg9, rfl⟩
set_option maxRecDepth 100000 in
set_option maxHeartbeats 8000000 in
theorem c_X4_makeEmpty_e (hl : l.stackTraces = false) (b : Bool) (f g c : Nat → Int32) (T : List (Nat × Int32)) (ht : z_tba f g T) : z_CF G l mX4_makeEmpty 10 0 0 [.inr (9, [.int (z_bi b), .ref 1, .ref 2, .ref 3, .int (nI (T).length)]), z_ia 20 f, z_ia 20 g, .inr (11, [.ref 4]), z_ia 7 c] [.ref 0] (fun v L => v = some (.int (nI T.length)) ∧ ∃ f' : Nat → Int32, z_tba f' g [] ∧ L = [.inr (9, [.int (z_bi b), .ref 1, .ref 2, .ref 3, .int 0]), z_ia 20 f', z_ia 20 g, .inr (11, [.ref 4]), z_ia 7 c]) := by
  refine z_body hl (by decide) rfl (Nat.le_of_ble_eq_true rfl) ?_
  show z_J G l mX4_makeEmpty (z_SF 10 0 0 [.inr (9, [.int (z_bi b), .ref 1, .ref 2, .ref 3, .int (nI (T).length)]), z_ia 20 f, z_ia 20 g, .inr (11, [.ref 4]), z_ia 7 c] (fun v L => v = some (.int (nI T.length)) ∧ ∃ f' : Nat → Int32, z_tba f' g [] ∧ L = [.inr (9, [.int (z_bi b), .ref 1, .ref 2, .ref 3, .int 0]), z_ia 20 f', z_ia 20 g, .inr (11, [.ref 4]), z_ia 7 c])) 0 [(0, _)] [] _ 0 0
  have hln := ht.len
  refine j_aload_n dX4_makeEmpty_0 rfl rfl ?_
  refine j_getf dX4_makeEmpty_1 fX4_29 rfl rfl ?_
  refine j_istore_n (lo' := [(1, _), (0, _)]) dX4_makeEmpty_4 (by decide) rfl ?_
  refine j_aload_n dX4_makeEmpty_5 rfl rfl ?_
  refine j_iconst (v := 0) dX4_makeEmpty_6 (by decide) ?_
  refine j_put (w' := ([.inr (9, [_, _, _, _, _]), z_ia 20 _, z_ia 20 _, .inr (11, [_]), z_ia 7 _], z_no)) dX4_makeEmpty_7 fX4_29 tX4_4 rfl ⟨rfl, rfl⟩ rfl ?_
  refine j_iconst (v := 0) dX4_makeEmpty_10 (by decide) ?_
  refine j_istore_n (lo' := [(2, _), (1, _), (0, _)]) dX4_makeEmpty_11 (by decide) rfl ?_
  have loop : ∀ (n9 : Nat) (f' : Nat → Int32) (j : Nat), (j ≤ 20) → (∀ i, i < j → f' i = -1000) → (20 < j + n9) → z_J G l mX4_makeEmpty (z_SF 10 0 0 [.inr (9, [.int (z_bi b), .ref 1, .ref 2, .ref 3, .int (nI (T).length)]), z_ia 20 f, z_ia 20 g, .inr (11, [.ref 4]), z_ia 7 c] (fun v L => v = some (.int (nI T.length)) ∧ ∃ f' : Nat → Int32, z_tba f' g [] ∧ L = [.inr (9, [.int (z_bi b), .ref 1, .ref 2, .ref 3, .int 0]), z_ia 20 f', z_ia 20 g, .inr (11, [.ref 4]), z_ia 7 c])) 12 [(0, .ref 0), (1, .int (nI T.length)), (2, .int (nI j))] [] ([.inr (9, [.int (z_bi b), .ref 1, .ref 2, .ref 3, .int 0]), z_ia 20 f', z_ia 20 g, .inr (11, [.ref 4]), z_ia 7 c], z_no) 0 0 := by
    intro n9
    induction n9 with
    | zero => intro f' j hj hz hf9; exact absurd hf9 (by omega)
    | succ n9 ih =>
      intro f' j hj hz hf9
      refine j_iload_n dX4_makeEmpty_12 rfl ?_
      refine j_aload_n dX4_makeEmpty_13 rfl rfl ?_
      refine j_getf dX4_makeEmpty_14 fX4_9 rfl rfl ?_
      refine j_alen dX4_makeEmpty_17 rfl rfl rfl ?_
      refine j_icmp_ge (tgt := 36) dX4_makeEmpty_18 (by decide) (fun c_18 => ?_) (fun c_18 => ?_)
      · have hb18 : 20 ≤ j := (nI_leI (a := 20) (b := j) (by omega) (by omega)).mp c_18
        refine j_iload_n dX4_makeEmpty_36 rfl ?_
        refine j_iret dX4_makeEmpty_37 rfl rfl ?_ (Nat.le_of_ble_eq_true rfl) (Nat.le_of_ble_eq_true rfl)
        exact ⟨rfl, rfl, rfl, _, z_tba.nil (g := g) (fun i hi => hz i (by omega)), rfl⟩
      · have hb18 : j < 20 := Nat.not_le.mp (fun z => c_18 ((nI_leI (a := 20) (b := j) (by omega) (by omega)).mpr z))
        refine j_aload_n dX4_makeEmpty_21 rfl rfl ?_
        refine j_getf dX4_makeEmpty_22 fX4_9 rfl rfl ?_
        refine j_iload_n dX4_makeEmpty_25 rfl ?_
        refine j_sipush (v := (-1000)) dX4_makeEmpty_26 (by decide) ?_
        refine j_stoN (w' := ([.inr (9, [_, _, _, _, _]), z_ia 20 _, z_ia 20 _, .inr (11, [_]), z_ia 7 _], z_no)) dX4_makeEmpty_29 rfl (k := j) (by omega) (by omega) rfl ?_
        refine j_iinc (lo' := [(2, _), (0, _), (1, _)]) dX4_makeEmpty_30 rfl (z_inc _) (by decide) rfl ?_
        refine j_goto (tgt := 12) dX4_makeEmpty_33 (by decide) ?_
        exact j_lo2 (ih _ (j + 1) (by omega) (sp_lt1 (fun i hi => (z_ui_ne (by omega)).trans (hz i hi)) z_ui_self) (by omega)) (z_q1 rfl (z_q1 rfl (z_q1 rfl z_q0)))
  exact j_lo2 (loop 21 _ 0 (by omega) (fun i hi => absurd hi (Nat.not_lt_zero _)) (by omega)) (z_q1 rfl (z_q1 rfl (z_q1 rfl z_q0)))
set_option maxRecDepth 100000 in
set_option maxHeartbeats 8000000 in
theorem c_X4_sortKeys_e (hl : l.stackTraces = false) (b : Bool) (f g c : Nat → Int32) (m : Int32) (U : List (Nat × Int32)) (hv : ∀ k, k < 20 → f k = sp_lk U k) : z_CF G l mX4_sortKeys 10 0 0 [.inr (9, [.int (z_bi b), .ref 1, .ref 2, .ref 3, .int m]), z_ia 20 f, z_ia 20 g, .inr (11, [.ref 4]), z_ia 7 c] [.ref 0] (fun v L => v = none ∧ ∃ g' : Nat → Int32, z_sq g' (sp_sk U 20) ∧ L = [.inr (9, [.int (z_bi b), .ref 1, .ref 2, .ref 3, .int m]), z_ia 20 f, z_ia 20 g', .inr (11, [.ref 4]), z_ia 7 c]) := by
  refine z_body hl (by decide) rfl (Nat.le_of_ble_eq_true rfl) ?_
  show z_J G l mX4_sortKeys (z_SF 10 0 0 [.inr (9, [.int (z_bi b), .ref 1, .ref 2, .ref 3, .int m]), z_ia 20 f, z_ia 20 g, .inr (11, [.ref 4]), z_ia 7 c] (fun v L => v = none ∧ ∃ g' : Nat → Int32, z_sq g' (sp_sk U 20) ∧ L = [.inr (9, [.int (z_bi b), .ref 1, .ref 2, .ref 3, .int m]), z_ia 20 f, z_ia 20 g', .inr (11, [.ref 4]), z_ia 7 c])) 0 [(0, _)] [] _ 0 0
  refine j_iconst (v := 0) dX4_sortKeys_0 (by decide) ?_
  refine j_istore_n (lo' := [(1, _), (0, _)]) dX4_sortKeys_1 (by decide) rfl ?_
  refine j_iconst (v := 0) dX4_sortKeys_2 (by decide) ?_
  refine j_istore_n (lo' := [(2, _), (1, _), (0, _)]) dX4_sortKeys_3 (by decide) rfl ?_
  have loop : ∀ (n9 : Nat) (g' : Nat → Int32) (q j : Nat), (j ≤ 20) → (q = (sp_sk U j).length) → (q ≤ j) → (z_sq g' (sp_sk U j)) → (20 < j + n9) → z_J G l mX4_sortKeys (z_SF 10 0 0 [.inr (9, [.int (z_bi b), .ref 1, .ref 2, .ref 3, .int m]), z_ia 20 f, z_ia 20 g, .inr (11, [.ref 4]), z_ia 7 c] (fun v L => v = none ∧ ∃ g' : Nat → Int32, z_sq g' (sp_sk U 20) ∧ L = [.inr (9, [.int (z_bi b), .ref 1, .ref 2, .ref 3, .int m]), z_ia 20 f, z_ia 20 g', .inr (11, [.ref 4]), z_ia 7 c])) 4 [(0, .ref 0), (1, .int (nI q)), (2, .int (nI j))] [] ([.inr (9, [.int (z_bi b), .ref 1, .ref 2, .ref 3, .int m]), z_ia 20 f, z_ia 20 g', .inr (11, [.ref 4]), z_ia 7 c], z_no) 0 0 := by
    intro n9
    induction n9 with
    | zero => intro g' q j hj hq hqj hs hf9; exact absurd hf9 (by omega)
    | succ n9 ih =>
      intro g' q j hj hq hqj hs hf9
      refine j_iload_n dX4_sortKeys_4 rfl ?_
      refine j_aload_n dX4_sortKeys_5 rfl rfl ?_
      refine j_getf dX4_sortKeys_6 fX4_9 rfl rfl ?_
      refine j_alen dX4_sortKeys_9 rfl rfl rfl ?_
      refine j_icmp_ge (tgt := 50) dX4_sortKeys_10 (by decide) (fun c_10 => ?_) (fun c_10 => ?_)
      · have hb10 : 20 ≤ j := (nI_leI (a := 20) (b := j) (by omega) (by omega)).mp c_10
        have hj20 : j = 20 := by omega
        subst hj20
        refine j_vret dX4_sortKeys_50 rfl ?_ (Nat.le_of_ble_eq_true rfl) (Nat.le_of_ble_eq_true rfl)
        exact ⟨rfl, rfl, rfl, _, hs, rfl⟩
      · have hb10 : j < 20 := Nat.not_le.mp (fun z => c_10 ((nI_leI (a := 20) (b := j) (by omega) (by omega)).mpr z))
        refine j_iload_n dX4_sortKeys_13 rfl ?_
        refine j_aload_n dX4_sortKeys_14 rfl rfl ?_
        refine j_getf dX4_sortKeys_15 fX4_15 rfl rfl ?_
        refine j_alen dX4_sortKeys_18 rfl rfl rfl ?_
        refine j_icmp_ge (tgt := 50) dX4_sortKeys_19 (by decide) (fun c_19 => ?_) (fun c_19 => ?_)
        · have hb19 : 20 ≤ q := (nI_leI (a := 20) (b := q) (by omega) (by omega)).mp c_19
          exact absurd hb10 (by omega)
        · have hb19 : q < 20 := Nat.not_le.mp (fun z => c_19 ((nI_leI (a := 20) (b := q) (by omega) (by omega)).mpr z))
          refine j_aload_n dX4_sortKeys_22 rfl rfl ?_
          refine j_getf dX4_sortKeys_23 fX4_9 rfl rfl ?_
          refine j_iload_n dX4_sortKeys_26 rfl ?_
          refine j_ldN dX4_sortKeys_27 rfl (k := j) (by omega) (by omega) ?_
          refine j_sipush (v := (-1000)) dX4_sortKeys_28 (by decide) ?_
          have hf := hv j hb10
          refine j_icmp_eq (tgt := 44) dX4_sortKeys_31 (by decide) (fun c_31 => ?_) (fun c_31 => ?_)
          · have hlk : sp_lk U j = -1000 := hf.symm.trans c_31
            refine j_iinc (lo' := [(2, _), (0, _), (1, _)]) dX4_sortKeys_44 rfl (z_inc _) (by decide) rfl ?_
            refine j_goto (tgt := 4) dX4_sortKeys_47 (by decide) ?_
            exact j_lo2 (ih _ _ (j + 1) (by omega) (hq.trans (by rw [sp_sk_n hlk] <;> rfl)) (by omega) (by rw [sp_sk_n hlk]; exact hs) (by omega)) (z_q1 rfl (z_q1 rfl (z_q1 rfl z_q0)))
          · have hlk : ¬ sp_lk U j = -1000 := fun z => c_31 (hf.trans z)
            refine j_aload_n dX4_sortKeys_34 rfl rfl ?_
            refine j_getf dX4_sortKeys_35 fX4_15 rfl rfl ?_
            refine j_iload_n dX4_sortKeys_38 rfl ?_
            refine j_iload_n dX4_sortKeys_39 rfl ?_
            refine j_stoN (w' := ([.inr (9, [_, _, _, _, _]), z_ia 20 _, z_ia 20 _, .inr (11, [_]), z_ia 7 _], z_no)) dX4_sortKeys_40 rfl (k := q) (by omega) (by omega) rfl ?_
            refine j_iinc (lo' := [(1, _), (0, _), (2, _)]) dX4_sortKeys_41 rfl (z_inc _) (by decide) rfl ?_
            refine j_iinc (lo' := [(2, _), (1, _), (0, _)]) dX4_sortKeys_44 rfl (z_inc _) (by decide) rfl ?_
            refine j_goto (tgt := 4) dX4_sortKeys_47 (by decide) ?_
            exact j_lo2 (ih _ _ (j + 1) (by omega) (by rw [sp_sk_s hlk, List.length_append, ← hq]; rfl) (by omega) (by rw [sp_sk_s hlk, hq]; exact hs.push) (by omega)) (z_q1 rfl (z_q1 rfl (z_q1 rfl z_q0)))
  exact j_lo2 (loop 21 _ 0 0 (by omega) rfl (by omega) z_sq.nil (by omega)) (z_q1 rfl (z_q1 rfl (z_q1 rfl z_q0)))
set_option maxRecDepth 100000 in
set_option maxHeartbeats 8000000 in
theorem c_X4_become_e (hl : l.stackTraces = false) (b : Bool) (f g c : Nat → Int32) (m : Int32) (b2 : Bool) (f2 g2 c2 : Nat → Int32) (U : List (Nat × Int32)) (ht : z_tba f2 g2 U) : z_CF G l mX4_become 12 0 0 [.inr (9, [.int (z_bi b), .ref 1, .ref 2, .ref 3, .int m]), z_ia 20 f, z_ia 20 g, .inr (11, [.ref 4]), z_ia 7 c, .inr (9, [.int (z_bi b2), .ref 6, .ref 7, .ref 8, .int (nI (U).length)]), z_ia 20 f2, z_ia 20 g2, .inr (11, [.ref 9]), z_ia 7 c2] [.ref 0, .ref 5] (fun v L => v = none ∧ ∃ f' g' : Nat → Int32, z_tba f' g' (sp_cp b U) ∧ L = [.inr (9, [.int (z_bi b), .ref 1, .ref 2, .ref 3, .int (nI (sp_cp b U).length)]), z_ia 20 f', z_ia 20 g', .inr (11, [.ref 4]), z_ia 7 c, .inr (9, [.int (z_bi b2), .ref 6, .ref 7, .ref 8, .int (nI (U).length)]), z_ia 20 f2, z_ia 20 g2, .inr (11, [.ref 9]), z_ia 7 c2]) := by
  refine z_body hl (by decide) rfl (Nat.le_of_ble_eq_true rfl) ?_
  show z_J G l mX4_become (z_SF 12 0 0 [.inr (9, [.int (z_bi b), .ref 1, .ref 2, .ref 3, .int m]), z_ia 20 f, z_ia 20 g, .inr (11, [.ref 4]), z_ia 7 c, .inr (9, [.int (z_bi b2), .ref 6, .ref 7, .ref 8, .int (nI (U).length)]), z_ia 20 f2, z_ia 20 g2, .inr (11, [.ref 9]), z_ia 7 c2] (fun v L => v = none ∧ ∃ f' g' : Nat → Int32, z_tba f' g' (sp_cp b U) ∧ L = [.inr (9, [.int (z_bi b), .ref 1, .ref 2, .ref 3, .int (nI (sp_cp b U).length)]), z_ia 20 f', z_ia 20 g', .inr (11, [.ref 4]), z_ia 7 c, .inr (9, [.int (z_bi b2), .ref 6, .ref 7, .ref 8, .int (nI (U).length)]), z_ia 20 f2, z_ia 20 g2, .inr (11, [.ref 9]), z_ia 7 c2])) 0 [(0, _), (1, _)] [] _ 0 0
  have hln := ht.len
  refine j_aload_n dX4_become_0 rfl rfl ?_
  refine j_getf dX4_become_1 fX4_9 rfl rfl ?_
  refine j_aload_n dX4_become_4 rfl rfl ?_
  refine j_getf dX4_become_5 fX4_9 rfl rfl ?_
  refine j_callSN dX4_become_8 kX8_takeOver lX4_51 stX8_takeOver (z_frame [1, 6] rfl (by decide) (Nat.le_of_ble_eq_true rfl) (c_X8_takeOver_e hl 20 f f2 (by decide))) (Nat.le_of_ble_eq_true rfl) ⟨(Nat.le_of_ble_eq_true rfl), (Nat.le_of_ble_eq_true rfl)⟩ rfl (Nat.le_of_ble_eq_true rfl) rfl rfl (fun _ _ h => h.elim) ?_
  rintro _ _ ⟨_, _, ⟨rfl, f9, hf9, rfl⟩, rfl, rfl⟩
  refine j_ws (L' := [.inr (9, [_, _, _, _, _]), z_ia 20 _, z_ia 20 _, .inr (11, [_]), z_ia 7 _, .inr (9, [_, _, _, _, _]), z_ia 20 _, z_ia 20 _, .inr (11, [_]), z_ia 7 _]) (by decide) rfl rfl ?_
  refine j_aload_n dX4_become_11 rfl rfl ?_
  refine j_getf dX4_become_12 fX4_15 rfl rfl ?_
  refine j_aload_n dX4_become_15 rfl rfl ?_
  refine j_getf dX4_become_16 fX4_15 rfl rfl ?_
  refine j_callSN dX4_become_19 kX8_takeOver lX4_51 stX8_takeOver (z_frame [2, 7] rfl (by decide) (Nat.le_of_ble_eq_true rfl) (c_X8_takeOver_e hl 20 g g2 (by decide))) (Nat.le_of_ble_eq_true rfl) ⟨(Nat.le_of_ble_eq_true rfl), (Nat.le_of_ble_eq_true rfl)⟩ rfl (Nat.le_of_ble_eq_true rfl) rfl rfl (fun _ _ h => h.elim) ?_
  rintro _ _ ⟨_, _, ⟨rfl, g9, hg9, rfl⟩, rfl, rfl⟩
  refine j_ws (L' := [.inr (9, [_, _, _, _, _]), z_ia 20 _, z_ia 20 _, .inr (11, [_]), z_ia 7 _, .inr (9, [_, _, _, _, _]), z_ia 20 _, z_ia 20 _, .inr (11, [_]), z_ia 7 _]) (by decide) rfl rfl ?_
  refine j_aload_n dX4_become_22 rfl rfl ?_
  refine j_aload_n dX4_become_23 rfl rfl ?_
  refine j_getf dX4_become_24 fX4_29 rfl rfl ?_
  refine j_put (w' := ([.inr (9, [_, _, _, _, _]), z_ia 20 _, z_ia 20 _, .inr (11, [_]), z_ia 7 _, .inr (9, [_, _, _, _, _]), z_ia 20 _, z_ia 20 _, .inr (11, [_]), z_ia 7 _], z_no)) dX4_become_27 fX4_29 tX4_4 rfl ⟨rfl, rfl⟩ rfl ?_
  refine j_aload_n dX4_become_30 rfl rfl ?_
  refine j_getf dX4_become_31 fX4_25 rfl rfl ?_
  refine j_if_eq (tgt := 41) dX4_become_34 (by decide) (fun c_34 => ?_) (fun c_34 => ?_)
  · have hb34 := z_bF c_34
    refine j_vret dX4_become_41 rfl ?_ (Nat.le_of_ble_eq_true rfl) (Nat.le_of_ble_eq_true rfl)
    first | exact ⟨rfl, rfl, rfl, _, _, ⟨sp_cp_ok ht.1, fun k hk => ((hf9 k hk).trans (ht.2.1 k hk)).trans (sp_lk_cp ht.1).symm, (by rw [hb34, sp_ks_cp]; exact hg8)⟩, (by rw [sp_cp_len ht.1] <;> rfl)⟩ | exact ⟨rfl, rfl, rfl, _, _, ⟨sp_cp_ok ht.1, fun k hk => ((hf9 k hk).trans (ht.2.1 k hk)).trans (sp_lk_cp ht.1).symm, (by rw [hb34]; exact fun j k hj => (hg9 j (by have := (List.getElem?_eq_some_iff.mp hj).1; rw [show sp_cp false U = U from rfl, sp_ksl] at this; omega)).trans (ht.2.2 j k hj))⟩, (by rw [sp_cp_len ht.1] <;> rfl)⟩
  · have hb34 := z_bt c_34
    refine j_aload_n dX4_become_37 rfl rfl ?_
    refine j_callV (q := (RX4, TX4, 5)) dX4_become_38 kX4_sortKeys lX4_55 inX4_sortKeys seX4_sortKeys rfl rfl (z_frame [0, 1, 2, 3, 4] rfl (by decide) (Nat.le_of_ble_eq_true rfl) (c_X4_sortKeys_e hl _ _ _ _ _ U (fun k hk => (hf9 k hk).trans (ht.2.1 k hk)))) (Nat.le_of_ble_eq_true rfl) ⟨(Nat.le_of_ble_eq_true rfl), (Nat.le_of_ble_eq_true rfl)⟩ rfl (Nat.le_of_ble_eq_true rfl) rfl rfl (fun _ _ h => h.elim) ?_
    rintro _ _ ⟨_, _, ⟨rfl, g8, hg8, rfl⟩, rfl, rfl⟩
    refine j_ws (L' := [.inr (9, [_, _, _, _, _]), z_ia 20 _, z_ia 20 _, .inr (11, [_]), z_ia 7 _, .inr (9, [_, _, _, _, _]), z_ia 20 _, z_ia 20 _, .inr (11, [_]), z_ia 7 _]) (by decide) rfl rfl ?_
    refine j_vret dX4_become_41 rfl ?_ (Nat.le_of_ble_eq_true rfl) (Nat.le_of_ble_eq_true rfl)
    first | exact ⟨rfl, rfl, rfl, _, _, ⟨sp_cp_ok ht.1, fun k hk => ((hf9 k hk).trans (ht.2.1 k hk)).trans (sp_lk_cp ht.1).symm, (by rw [hb34, sp_ks_cp]; exact hg8)⟩, (by rw [sp_cp_len ht.1] <;> rfl)⟩ | exact ⟨rfl, rfl, rfl, _, _, ⟨sp_cp_ok ht.1, fun k hk => ((hf9 k hk).trans (ht.2.1 k hk)).trans (sp_lk_cp ht.1).symm, (by rw [hb34]; exact fun j k hj => (hg9 j (by have := (List.getElem?_eq_some_iff.mp hj).1; rw [show sp_cp false U = U from rfl, sp_ksl] at this; omega)).trans (ht.2.2 j k hj))⟩, (by rw [sp_cp_len ht.1] <;> rfl)⟩
set_option maxRecDepth 100000 in
set_option maxHeartbeats 8000000 in
theorem c_X4_hasPairsOf_e (hl : l.stackTraces = false) (b : Bool) (f g c : Nat → Int32) (T : List (Nat × Int32)) (b2 : Bool) (f2 g2 c2 : Nat → Int32) (U : List (Nat × Int32)) (ht : z_tba f g T) (ht2 : z_tba f2 g2 U) : z_CF G l mX4_hasPairsOf 12 0 0 [.inr (9, [.int (z_bi b), .ref 1, .ref 2, .ref 3, .int (nI (T).length)]), z_ia 20 f, z_ia 20 g, .inr (11, [.ref 4]), z_ia 7 c, .inr (9, [.int (z_bi b2), .ref 6, .ref 7, .ref 8, .int (nI (U).length)]), z_ia 20 f2, z_ia 20 g2, .inr (11, [.ref 9]), z_ia 7 c2] [.ref 0, .ref 5] (fun v L => v = some (.int (z_bi (sp_lik T U))) ∧ L = [.inr (9, [.int (z_bi b), .ref 1, .ref 2, .ref 3, .int (nI (T).length)]), z_ia 20 f, z_ia 20 g, .inr (11, [.ref 4]), z_ia 7 c, .inr (9, [.int (z_bi b2), .ref 6, .ref 7, .ref 8, .int (nI (U).length)]), z_ia 20 f2, z_ia 20 g2, .inr (11, [.ref 9]), z_ia 7 c2]) := by
  refine z_body hl (by decide) rfl (Nat.le_of_ble_eq_true rfl) ?_
  show z_J G l mX4_hasPairsOf (z_SF 12 0 0 [.inr (9, [.int (z_bi b), .ref 1, .ref 2, .ref 3, .int (nI (T).length)]), z_ia 20 f, z_ia 20 g, .inr (11, [.ref 4]), z_ia 7 c, .inr (9, [.int (z_bi b2), .ref 6, .ref 7, .ref 8, .int (nI (U).length)]), z_ia 20 f2, z_ia 20 g2, .inr (11, [.ref 9]), z_ia 7 c2] (fun v L => v = some (.int (z_bi (sp_lik T U))) ∧ L = [.inr (9, [.int (z_bi b), .ref 1, .ref 2, .ref 3, .int (nI (T).length)]), z_ia 20 f, z_ia 20 g, .inr (11, [.ref 4]), z_ia 7 c, .inr (9, [.int (z_bi b2), .ref 6, .ref 7, .ref 8, .int (nI (U).length)]), z_ia 20 f2, z_ia 20 g2, .inr (11, [.ref 9]), z_ia 7 c2])) 0 [(0, _), (1, _)] [] _ 0 0
  refine j_iconst (v := 0) dX4_hasPairsOf_0 (by decide) ?_
  refine j_istore_n (lo' := [(2, _), (0, _), (1, _)]) dX4_hasPairsOf_1 (by decide) rfl ?_
  have loop : ∀ (n9 : Nat) (j : Nat), (j ≤ 20) → (∀ i, i < j → sp_lk T i = sp_lk U i) → (20 < j + n9) → z_J G l mX4_hasPairsOf (z_SF 12 0 0 [.inr (9, [.int (z_bi b), .ref 1, .ref 2, .ref 3, .int (nI (T).length)]), z_ia 20 f, z_ia 20 g, .inr (11, [.ref 4]), z_ia 7 c, .inr (9, [.int (z_bi b2), .ref 6, .ref 7, .ref 8, .int (nI (U).length)]), z_ia 20 f2, z_ia 20 g2, .inr (11, [.ref 9]), z_ia 7 c2] (fun v L => v = some (.int (z_bi (sp_lik T U))) ∧ L = [.inr (9, [.int (z_bi b), .ref 1, .ref 2, .ref 3, .int (nI (T).length)]), z_ia 20 f, z_ia 20 g, .inr (11, [.ref 4]), z_ia 7 c, .inr (9, [.int (z_bi b2), .ref 6, .ref 7, .ref 8, .int (nI (U).length)]), z_ia 20 f2, z_ia 20 g2, .inr (11, [.ref 9]), z_ia 7 c2])) 2 [(0, .ref 0), (1, .ref 5), (2, .int (nI j))] [] ([.inr (9, [.int (z_bi b), .ref 1, .ref 2, .ref 3, .int (nI (T).length)]), z_ia 20 f, z_ia 20 g, .inr (11, [.ref 4]), z_ia 7 c, .inr (9, [.int (z_bi b2), .ref 6, .ref 7, .ref 8, .int (nI (U).length)]), z_ia 20 f2, z_ia 20 g2, .inr (11, [.ref 9]), z_ia 7 c2], z_no) 0 0 := by
    intro n9
    induction n9 with
    | zero => intro j hj hz hf9; exact absurd hf9 (by omega)
    | succ n9 ih =>
      intro j hj hz hf9
      refine j_iload_n dX4_hasPairsOf_2 rfl ?_
      refine j_aload_n dX4_hasPairsOf_3 rfl rfl ?_
      refine j_getf dX4_hasPairsOf_4 fX4_9 rfl rfl ?_
      refine j_alen dX4_hasPairsOf_7 rfl rfl rfl ?_
      refine j_icmp_ge (tgt := 33) dX4_hasPairsOf_8 (by decide) (fun c_8 => ?_) (fun c_8 => ?_)
      · have hb8 : 20 ≤ j := (nI_leI (a := 20) (b := j) (by omega) (by omega)).mp c_8
        refine j_iconst (v := 1) dX4_hasPairsOf_33 (by decide) ?_
        refine j_iret dX4_hasPairsOf_34 rfl rfl ?_ (Nat.le_of_ble_eq_true rfl) (Nat.le_of_ble_eq_true rfl)
        exact ⟨rfl, rfl, (by rw [sp_lik1 (fun k hk => hz k (by omega))]; rfl), rfl⟩
      · have hb8 : j < 20 := Nat.not_le.mp (fun z => c_8 ((nI_leI (a := 20) (b := j) (by omega) (by omega)).mpr z))
        refine j_aload_n dX4_hasPairsOf_11 rfl rfl ?_
        refine j_getf dX4_hasPairsOf_12 fX4_9 rfl rfl ?_
        refine j_iload_n dX4_hasPairsOf_15 rfl ?_
        refine j_ldN dX4_hasPairsOf_16 rfl (k := j) (by omega) (by omega) ?_
        refine j_aload_n dX4_hasPairsOf_17 rfl rfl ?_
        refine j_iload_n dX4_hasPairsOf_18 rfl ?_
        refine j_callV (q := (RX4, TX4, 5)) dX4_hasPairsOf_19 kX4_look lX4_37 inX4_look seX4_look rfl rfl (z_frame [5, 6, 7, 8, 9] rfl (by decide) (Nat.le_of_ble_eq_true rfl) (c_X4_look_e hl _ _ _ _ _ U j ht2 hb8)) (Nat.le_of_ble_eq_true rfl) ⟨(Nat.le_of_ble_eq_true rfl), (Nat.le_of_ble_eq_true rfl)⟩ rfl (Nat.le_of_ble_eq_true rfl) rfl rfl (fun _ _ h => h.elim) ?_
        rintro _ _ ⟨_, _, ⟨rfl, rfl⟩, rfl, rfl⟩
        refine j_ws (L' := [.inr (9, [_, _, _, _, _]), z_ia 20 _, z_ia 20 _, .inr (11, [_]), z_ia 7 _, .inr (9, [_, _, _, _, _]), z_ia 20 _, z_ia 20 _, .inr (11, [_]), z_ia 7 _]) (by decide) rfl rfl ?_
        refine j_icmp_eq (tgt := 27) dX4_hasPairsOf_22 (by decide) (fun c_22 => ?_) (fun c_22 => ?_)
        · have heq : sp_lk T j = sp_lk U j := (ht.2.1 j hb8).symm.trans c_22
          refine j_iinc (lo' := [(2, _), (0, _), (1, _)]) dX4_hasPairsOf_27 rfl (z_inc _) (by decide) rfl ?_
          refine j_goto (tgt := 2) dX4_hasPairsOf_30 (by decide) ?_
          exact j_lo2 (ih (j + 1) (by omega) (sp_lt1 hz heq) (by omega)) (z_q1 rfl (z_q1 rfl (z_q1 rfl z_q0)))
        · have hne : ¬ sp_lk T j = sp_lk U j := fun z => c_22 ((ht.2.1 j hb8).trans z)
          refine j_iconst (v := 0) dX4_hasPairsOf_25 (by decide) ?_
          refine j_iret dX4_hasPairsOf_26 rfl rfl ?_ (Nat.le_of_ble_eq_true rfl) (Nat.le_of_ble_eq_true rfl)
          exact ⟨rfl, rfl, (by rw [sp_lik0 hb8 hne]; rfl), rfl⟩
  exact j_lo2 (loop 21 0 (by omega) (fun i hi => absurd hi (Nat.not_lt_zero _)) (by omega)) (z_q1 rfl (z_q1 rfl (z_q1 rfl z_q0)))
set_option maxRecDepth 100000 in
set_option maxHeartbeats 8000000 in
theorem c_X4_hasPairsOf_s_e (hl : l.stackTraces = false) (b : Bool) (f g c : Nat → Int32) (T : List (Nat × Int32)) (ht : z_tba f g T) : z_CF G l mX4_hasPairsOf 12 0 0 [.inr (9, [.int (z_bi b), .ref 1, .ref 2, .ref 3, .int (nI (T).length)]), z_ia 20 f, z_ia 20 g, .inr (11, [.ref 4]), z_ia 7 c] [.ref 0, .ref 0] (fun v L => v = some (.int (z_bi (sp_lik T T))) ∧ L = [.inr (9, [.int (z_bi b), .ref 1, .ref 2, .ref 3, .int (nI (T).length)]), z_ia 20 f, z_ia 20 g, .inr (11, [.ref 4]), z_ia 7 c]) := by
  refine z_body hl (by decide) rfl (Nat.le_of_ble_eq_true rfl) ?_
  show z_J G l mX4_hasPairsOf (z_SF 12 0 0 [.inr (9, [.int (z_bi b), .ref 1, .ref 2, .ref 3, .int (nI (T).length)]), z_ia 20 f, z_ia 20 g, .inr (11, [.ref 4]), z_ia 7 c] (fun v L => v = some (.int (z_bi (sp_lik T T))) ∧ L = [.inr (9, [.int (z_bi b), .ref 1, .ref 2, .ref 3, .int (nI (T).length)]), z_ia 20 f, z_ia 20 g, .inr (11, [.ref 4]), z_ia 7 c])) 0 [(0, _), (1, _)] [] _ 0 0
  refine j_iconst (v := 0) dX4_hasPairsOf_0 (by decide) ?_
  refine j_istore_n (lo' := [(2, _), (0, _), (1, _)]) dX4_hasPairsOf_1 (by decide) rfl ?_
  have loop : ∀ (n9 : Nat) (j : Nat), (j ≤ 20) → (∀ i, i < j → sp_lk T i = sp_lk T i) → (20 < j + n9) → z_J G l mX4_hasPairsOf (z_SF 12 0 0 [.inr (9, [.int (z_bi b), .ref 1, .ref 2, .ref 3, .int (nI (T).length)]), z_ia 20 f, z_ia 20 g, .inr (11, [.ref 4]), z_ia 7 c] (fun v L => v = some (.int (z_bi (sp_lik T T))) ∧ L = [.inr (9, [.int (z_bi b), .ref 1, .ref 2, .ref 3, .int (nI (T).length)]), z_ia 20 f, z_ia 20 g, .inr (11, [.ref 4]), z_ia 7 c])) 2 [(0, .ref 0), (1, .ref 0), (2, .int (nI j))] [] ([.inr (9, [.int (z_bi b), .ref 1, .ref 2, .ref 3, .int (nI (T).length)]), z_ia 20 f, z_ia 20 g, .inr (11, [.ref 4]), z_ia 7 c], z_no) 0 0 := by
    intro n9
    induction n9 with
    | zero => intro j hj hz hf9; exact absurd hf9 (by omega)
    | succ n9 ih =>
      intro j hj hz hf9
      refine j_iload_n dX4_hasPairsOf_2 rfl ?_
      refine j_aload_n dX4_hasPairsOf_3 rfl rfl ?_
      refine j_getf dX4_hasPairsOf_4 fX4_9 rfl rfl ?_
      refine j_alen dX4_hasPairsOf_7 rfl rfl rfl ?_
      refine j_icmp_ge (tgt := 33) dX4_hasPairsOf_8 (by decide) (fun c_8 => ?_) (fun c_8 => ?_)
      · have hb8 : 20 ≤ j := (nI_leI (a := 20) (b := j) (by omega) (by omega)).mp c_8
        refine j_iconst (v := 1) dX4_hasPairsOf_33 (by decide) ?_
        refine j_iret dX4_hasPairsOf_34 rfl rfl ?_ (Nat.le_of_ble_eq_true rfl) (Nat.le_of_ble_eq_true rfl)
        exact ⟨rfl, rfl, (by rw [sp_lik1 (fun k hk => hz k (by omega))]; rfl), rfl⟩
      · have hb8 : j < 20 := Nat.not_le.mp (fun z => c_8 ((nI_leI (a := 20) (b := j) (by omega) (by omega)).mpr z))
        refine j_aload_n dX4_hasPairsOf_11 rfl rfl ?_
        refine j_getf dX4_hasPairsOf_12 fX4_9 rfl rfl ?_
        refine j_iload_n dX4_hasPairsOf_15 rfl ?_
        refine j_ldN dX4_hasPairsOf_16 rfl (k := j) (by omega) (by omega) ?_
        refine j_aload_n dX4_hasPairsOf_17 rfl rfl ?_
        refine j_iload_n dX4_hasPairsOf_18 rfl ?_
        refine j_callV (q := (RX4, TX4, 5)) dX4_hasPairsOf_19 kX4_look lX4_37 inX4_look seX4_look rfl rfl (z_frame [0, 1, 2, 3, 4] rfl (by decide) (Nat.le_of_ble_eq_true rfl) (c_X4_look_e hl _ _ _ _ _ T j ht hb8)) (Nat.le_of_ble_eq_true rfl) ⟨(Nat.le_of_ble_eq_true rfl), (Nat.le_of_ble_eq_true rfl)⟩ rfl (Nat.le_of_ble_eq_true rfl) rfl rfl (fun _ _ h => h.elim) ?_
        rintro _ _ ⟨_, _, ⟨rfl, rfl⟩, rfl, rfl⟩
        refine j_ws (L' := [.inr (9, [_, _, _, _, _]), z_ia 20 _, z_ia 20 _, .inr (11, [_]), z_ia 7 _]) (by decide) rfl rfl ?_
        refine j_icmp_eq (tgt := 27) dX4_hasPairsOf_22 (by decide) (fun c_22 => ?_) (fun c_22 => ?_)
        · have heq : sp_lk T j = sp_lk T j := (ht.2.1 j hb8).symm.trans c_22
          refine j_iinc (lo' := [(2, _), (0, _), (1, _)]) dX4_hasPairsOf_27 rfl (z_inc _) (by decide) rfl ?_
          refine j_goto (tgt := 2) dX4_hasPairsOf_30 (by decide) ?_
          exact j_lo2 (ih (j + 1) (by omega) (sp_lt1 hz heq) (by omega)) (z_q1 rfl (z_q1 rfl (z_q1 rfl z_q0)))
        · have hne : ¬ sp_lk T j = sp_lk T j := fun z => c_22 ((ht.2.1 j hb8).trans z)
          refine j_iconst (v := 0) dX4_hasPairsOf_25 (by decide) ?_
          refine j_iret dX4_hasPairsOf_26 rfl rfl ?_ (Nat.le_of_ble_eq_true rfl) (Nat.le_of_ble_eq_true rfl)
          exact ⟨rfl, rfl, (by rw [sp_lik0 hb8 hne]; rfl), rfl⟩
  exact j_lo2 (loop 21 0 (by omega) (fun i hi => absurd hi (Nat.not_lt_zero _)) (by omega)) (z_q1 rfl (z_q1 rfl (z_q1 rfl z_q0)))
set_option maxRecDepth 100000 in
set_option maxHeartbeats 8000000 in
theorem c_X4_reckonAbsent_e (hl : l.stackTraces = false) (b : Bool) (f g c : Nat → Int32) (T : List (Nat × Int32)) (k : Nat) (r n : Int32) (ht : z_tba f g T) (hk : k < 20) (hn : z_vl n) : z_CF G l mX4_reckonAbsent 14 0 0 [.inr (9, [.int (z_bi b), .ref 1, .ref 2, .ref 3, .int (nI (T).length)]), z_ia 20 f, z_ia 20 g, .inr (11, [.ref 4]), z_ia 7 c] [.ref 0, .int (nI k), .int r, .int n] (fun v L => v = some (.int ((sp_cia b T c k r n).1.getD (-1001))) ∧ ∃ f' g' : Nat → Int32, z_tba f' g' (sp_cia b T c k r n).2.1 ∧ L = [.inr (9, [.int (z_bi b), .ref 1, .ref 2, .ref 3, .int (nI ((sp_cia b T c k r n).2.1).length)]), z_ia 20 f', z_ia 20 g', .inr (11, [.ref 4]), z_ia 7 (sp_cia b T c k r n).2.2]) := by
  refine z_body hl (by decide) rfl (Nat.le_of_ble_eq_true rfl) ?_
  show z_J G l mX4_reckonAbsent (z_SF 14 0 0 [.inr (9, [.int (z_bi b), .ref 1, .ref 2, .ref 3, .int (nI (T).length)]), z_ia 20 f, z_ia 20 g, .inr (11, [.ref 4]), z_ia 7 c] (fun v L => v = some (.int ((sp_cia b T c k r n).1.getD (-1001))) ∧ ∃ f' g' : Nat → Int32, z_tba f' g' (sp_cia b T c k r n).2.1 ∧ L = [.inr (9, [.int (z_bi b), .ref 1, .ref 2, .ref 3, .int (nI ((sp_cia b T c k r n).2.1).length)]), z_ia 20 f', z_ia 20 g', .inr (11, [.ref 4]), z_ia 7 (sp_cia b T c k r n).2.2])) 0 [(0, _), (1, _), (2, _), (3, _)] [] _ 0 0
  have hln := ht.len
  refine j_aload_n dX4_reckonAbsent_0 rfl rfl ?_
  refine j_iload_n dX4_reckonAbsent_1 rfl ?_
  refine j_callV (q := (RX4, TX4, 5)) dX4_reckonAbsent_2 kX4_look lX4_37 inX4_look seX4_look rfl rfl (z_frame [0, 1, 2, 3, 4] rfl (by decide) (Nat.le_of_ble_eq_true rfl) (c_X4_look_e hl _ _ _ _ _ T k ht hk)) (Nat.le_of_ble_eq_true rfl) ⟨(Nat.le_of_ble_eq_true rfl), (Nat.le_of_ble_eq_true rfl)⟩ rfl (Nat.le_of_ble_eq_true rfl) rfl rfl (fun _ _ h => h.elim) ?_
  rintro _ _ ⟨_, _, ⟨rfl, rfl⟩, rfl, rfl⟩
  refine j_ws (L' := [.inr (9, [_, _, _, _, _]), z_ia 20 _, z_ia 20 _, .inr (11, [_]), z_ia 7 _]) (by decide) rfl rfl ?_
  refine j_istore (lo' := [(4, _), (0, _), (1, _), (2, _), (3, _)]) dX4_reckonAbsent_5 (by decide) rfl ?_
  refine j_iload dX4_reckonAbsent_7 rfl ?_
  refine j_sipush (v := (-1000)) dX4_reckonAbsent_9 (by decide) ?_
  refine j_icmp_eq (tgt := 18) dX4_reckonAbsent_12 (by decide) (fun c_12 => ?_) (fun c_12 => ?_)
  · have e0 : sp_cia b T c k r n = sp_bec b T c k (q_rt r (nI k) 0 n) := if_pos c_12
    have hd0 : q_d (sp_lk T k) = 0 := if_pos c_12
    refine j_iload_n dX4_reckonAbsent_18 rfl ?_
    refine j_iload_n dX4_reckonAbsent_19 rfl ?_
    refine j_iload dX4_reckonAbsent_20 rfl ?_
    refine j_iload_n dX4_reckonAbsent_22 rfl ?_
    refine j_callSN dX4_reckonAbsent_23 kX8_ruleTells lX4_58 stX8_ruleTells (c_X8_ruleTells_e hl _ _ _ _ _) (Nat.le_of_ble_eq_true rfl) ⟨(Nat.le_of_ble_eq_true rfl), (Nat.le_of_ble_eq_true rfl)⟩ rfl (Nat.le_of_ble_eq_true rfl) rfl rfl (fun _ _ h => h.elim) ?_
    rintro _ _ ⟨rfl, rfl⟩
    refine j_istore (lo' := [(5, _), (4, _), (0, _), (1, _), (2, _), (3, _)]) dX4_reckonAbsent_26 (by decide) rfl ?_
    refine j_iload dX4_reckonAbsent_28 rfl ?_
    refine j_sipush (v := (-1000)) dX4_reckonAbsent_30 (by decide) ?_
    refine j_icmp_eq (tgt := 52) dX4_reckonAbsent_33 (by decide) (fun c_33 => ?_) (fun c_33 => ?_)
    · have hsm : ¬ (q_rt r (nI k) (q_d (sp_lk T k)) n).getD (-1001) = -1001 := by rw [c_33]; decide
      have e1 := q_gs hsm
      rw [hd0] at e1 c_33
      have e2 : sp_cia b T c k r n = (some (-1000), T, c) := by rw [e0, e1, c_33]; exact sp_bec0 c_12
      refine j_iload dX4_reckonAbsent_52 rfl ?_
      refine j_iret dX4_reckonAbsent_54 rfl rfl ?_ (Nat.le_of_ble_eq_true rfl) (Nat.le_of_ble_eq_true rfl)
      first | exact ⟨rfl, rfl, (by rw [e2]; rfl), _, _, (by rw [e2]; exact ht9), (by rw [e2] <;> rfl)⟩ | exact ⟨rfl, rfl, (by rw [e2]; first | exact (congrArg (fun z => some (Value.int z)) c_41) | (rw [hd0, c_33]; rfl)), _, _, (by rw [e2]; exact ht), (by rw [e2] <;> rfl)⟩
    · have hnn : ¬ (q_rt r (nI k) (q_d (sp_lk T k)) n).getD (-1001) = -1000 := c_33
      refine j_iload dX4_reckonAbsent_36 rfl ?_
      refine j_sipush (v := (-1001)) dX4_reckonAbsent_38 (by decide) ?_
      refine j_icmp_eq (tgt := 52) dX4_reckonAbsent_41 (by decide) (fun c_41 => ?_) (fun c_41 => ?_)
      · have e1 := q_gn (m := -1001) (fun y hy => q_rtm (q_d_vl ht.1) hn hy) c_41
        rw [hd0] at e1
        have e2 : sp_cia b T c k r n = (none, T, c) := by rw [e0, e1]; rfl
        refine j_iload dX4_reckonAbsent_52 rfl ?_
        refine j_iret dX4_reckonAbsent_54 rfl rfl ?_ (Nat.le_of_ble_eq_true rfl) (Nat.le_of_ble_eq_true rfl)
        first | exact ⟨rfl, rfl, (by rw [e2]; rfl), _, _, (by rw [e2]; exact ht9), (by rw [e2] <;> rfl)⟩ | exact ⟨rfl, rfl, (by rw [e2]; first | exact (congrArg (fun z => some (Value.int z)) c_41) | (rw [hd0, c_33]; rfl)), _, _, (by rw [e2]; exact ht), (by rw [e2] <;> rfl)⟩
      · have hsm : ¬ (q_rt r (nI k) (q_d (sp_lk T k)) n).getD (-1001) = -1001 := c_41
        have hvl : z_vl ((q_rt r (nI k) (q_d (sp_lk T k)) n).getD (-1001)) := (q_rt_r (q_d_vl ht.1) hn (q_gs (m := -1001) hsm)).resolve_left hnn
        have e1 := q_gs hsm
        have e2 : sp_cia b T c k r n = (some ((q_rt r (nI k) (q_d (sp_lk T k)) n).getD (-1001)), sp_pt b T k ((q_rt r (nI k) (q_d (sp_lk T k)) n).getD (-1001)), z_bp c 5) := by rw [e0]; rw [hd0] at e1 hnn ⊢; rw [e1]; exact if_neg hnn
        refine j_aload_n dX4_reckonAbsent_44 rfl rfl ?_
        refine j_iload_n dX4_reckonAbsent_45 rfl ?_
        refine j_iload dX4_reckonAbsent_46 rfl ?_
        refine j_callV (q := (RX4, TX4, 5)) dX4_reckonAbsent_48 kX4_store lX4_62 inX4_store seX4_store rfl rfl (z_frame [0, 1, 2, 3, 4] rfl (by decide) (Nat.le_of_ble_eq_true rfl) (c_X4_store_e hl _ _ _ _ T k ((q_rt r (nI k) (q_d (sp_lk T k)) n).getD (-1001)) ht hk hvl)) (Nat.le_of_ble_eq_true rfl) ⟨(Nat.le_of_ble_eq_true rfl), (Nat.le_of_ble_eq_true rfl)⟩ rfl (Nat.le_of_ble_eq_true rfl) rfl rfl (fun _ _ h => h.elim) ?_
        rintro _ _ ⟨_, _, ⟨rfl, f9, g9, ht9, rfl⟩, rfl, rfl⟩
        refine j_ws (L' := [.inr (9, [_, _, _, _, _]), z_ia 20 _, z_ia 20 _, .inr (11, [_]), z_ia 7 _]) (by decide) rfl rfl ?_
        refine j_pop dX4_reckonAbsent_51 rfl ?_
        refine j_iload dX4_reckonAbsent_52 rfl ?_
        refine j_iret dX4_reckonAbsent_54 rfl rfl ?_ (Nat.le_of_ble_eq_true rfl) (Nat.le_of_ble_eq_true rfl)
        first | exact ⟨rfl, rfl, (by rw [e2]; rfl), _, _, (by rw [e2]; exact ht9), (by rw [e2] <;> rfl)⟩ | exact ⟨rfl, rfl, (by rw [e2]; first | exact (congrArg (fun z => some (Value.int z)) c_41) | (rw [hd0, c_33]; rfl)), _, _, (by rw [e2]; exact ht), (by rw [e2] <;> rfl)⟩
  · have e0 : sp_cia b T c k r n = (some (sp_lk T k), T, c) := if_neg c_12
    refine j_iload dX4_reckonAbsent_15 rfl ?_
    refine j_iret dX4_reckonAbsent_17 rfl rfl ?_ (Nat.le_of_ble_eq_true rfl) (Nat.le_of_ble_eq_true rfl)
    exact ⟨rfl, rfl, (by rw [e0]; rfl), _, _, (by rw [e0]; exact ht), (by rw [e0] <;> rfl)⟩
set_option maxRecDepth 100000 in
set_option maxHeartbeats 8000000 in
theorem c_X4_reckon_e (hl : l.stackTraces = false) (b : Bool) (f g c : Nat → Int32) (T : List (Nat × Int32)) (k : Nat) (r n : Int32) (ht : z_tba f g T) (hk : k < 20) (hn : z_vl n) : z_CF G l mX4_reckon 14 0 0 [.inr (9, [.int (z_bi b), .ref 1, .ref 2, .ref 3, .int (nI (T).length)]), z_ia 20 f, z_ia 20 g, .inr (11, [.ref 4]), z_ia 7 c] [.ref 0, .int (nI k), .int r, .int n] (fun v L => v = some (.int ((sp_bec b T c k (q_rt r (nI k) (q_d (sp_lk T k)) n)).1.getD (-1001))) ∧ ∃ f' g' : Nat → Int32, z_tba f' g' (sp_bec b T c k (q_rt r (nI k) (q_d (sp_lk T k)) n)).2.1 ∧ L = [.inr (9, [.int (z_bi b), .ref 1, .ref 2, .ref 3, .int (nI ((sp_bec b T c k (q_rt r (nI k) (q_d (sp_lk T k)) n)).2.1).length)]), z_ia 20 f', z_ia 20 g', .inr (11, [.ref 4]), z_ia 7 (sp_bec b T c k (q_rt r (nI k) (q_d (sp_lk T k)) n)).2.2]) := by
  refine z_body hl (by decide) rfl (Nat.le_of_ble_eq_true rfl) ?_
  show z_J G l mX4_reckon (z_SF 14 0 0 [.inr (9, [.int (z_bi b), .ref 1, .ref 2, .ref 3, .int (nI (T).length)]), z_ia 20 f, z_ia 20 g, .inr (11, [.ref 4]), z_ia 7 c] (fun v L => v = some (.int ((sp_bec b T c k (q_rt r (nI k) (q_d (sp_lk T k)) n)).1.getD (-1001))) ∧ ∃ f' g' : Nat → Int32, z_tba f' g' (sp_bec b T c k (q_rt r (nI k) (q_d (sp_lk T k)) n)).2.1 ∧ L = [.inr (9, [.int (z_bi b), .ref 1, .ref 2, .ref 3, .int (nI ((sp_bec b T c k (q_rt r (nI k) (q_d (sp_lk T k)) n)).2.1).length)]), z_ia 20 f', z_ia 20 g', .inr (11, [.ref 4]), z_ia 7 (sp_bec b T c k (q_rt r (nI k) (q_d (sp_lk T k)) n)).2.2])) 0 [(0, _), (1, _), (2, _), (3, _)] [] _ 0 0
  have hln := ht.len
  refine j_aload_n dX4_reckon_0 rfl rfl ?_
  refine j_iload_n dX4_reckon_1 rfl ?_
  refine j_callV (q := (RX4, TX4, 5)) dX4_reckon_2 kX4_look lX4_37 inX4_look seX4_look rfl rfl (z_frame [0, 1, 2, 3, 4] rfl (by decide) (Nat.le_of_ble_eq_true rfl) (c_X4_look_e hl _ _ _ _ _ T k ht hk)) (Nat.le_of_ble_eq_true rfl) ⟨(Nat.le_of_ble_eq_true rfl), (Nat.le_of_ble_eq_true rfl)⟩ rfl (Nat.le_of_ble_eq_true rfl) rfl rfl (fun _ _ h => h.elim) ?_
  rintro _ _ ⟨_, _, ⟨rfl, rfl⟩, rfl, rfl⟩
  refine j_ws (L' := [.inr (9, [_, _, _, _, _]), z_ia 20 _, z_ia 20 _, .inr (11, [_]), z_ia 7 _]) (by decide) rfl rfl ?_
  refine j_istore (lo' := [(4, _), (0, _), (1, _), (2, _), (3, _)]) dX4_reckon_5 (by decide) rfl ?_
  refine j_iload_n dX4_reckon_7 rfl ?_
  refine j_iload_n dX4_reckon_8 rfl ?_
  refine j_iload dX4_reckon_9 rfl ?_
  refine j_iload_n dX4_reckon_11 rfl ?_
  refine j_callSN dX4_reckon_12 kX8_ruleTells lX4_58 stX8_ruleTells (c_X8_ruleTells_e hl _ _ _ _ _) (Nat.le_of_ble_eq_true rfl) ⟨(Nat.le_of_ble_eq_true rfl), (Nat.le_of_ble_eq_true rfl)⟩ rfl (Nat.le_of_ble_eq_true rfl) rfl rfl (fun _ _ h => h.elim) ?_
  rintro _ _ ⟨rfl, rfl⟩
  refine j_istore (lo' := [(5, _), (4, _), (0, _), (1, _), (2, _), (3, _)]) dX4_reckon_15 (by decide) rfl ?_
  refine j_iload dX4_reckon_17 rfl ?_
  refine j_sipush (v := (-1001)) dX4_reckon_19 (by decide) ?_
  refine j_icmp_ne (tgt := 29) dX4_reckon_22 (by decide) (fun c_22 => ?_) (fun c_22 => ?_)
  · have hsm : ¬ (q_rt r (nI k) (q_d (sp_lk T k)) n).getD (-1001) = -1001 := c_22
    have e1 := q_gs hsm
    refine j_iload dX4_reckon_29 rfl ?_
    refine j_sipush (v := (-1000)) dX4_reckon_31 (by decide) ?_
    refine j_icmp_eq (tgt := 48) dX4_reckon_34 (by decide) (fun c_34 => ?_) (fun c_34 => ?_)
    · refine j_iload dX4_reckon_48 rfl ?_
      refine j_sipush (v := (-1000)) dX4_reckon_50 (by decide) ?_
      refine j_icmp_eq (tgt := 62) dX4_reckon_53 (by decide) (fun c_53 => ?_) (fun c_53 => ?_)
      · have e2 : sp_bec b T c k (q_rt r (nI k) (q_d (sp_lk T k)) n) = (some (-1000), T, c) := by rw [e1, c_34]; exact sp_bec0 c_53
        refine j_iload dX4_reckon_62 rfl ?_
        refine j_iret dX4_reckon_64 rfl rfl ?_ (Nat.le_of_ble_eq_true rfl) (Nat.le_of_ble_eq_true rfl)
        first | exact ⟨rfl, rfl, (by rw [e2]; first | rfl | (rw [c_34]; rfl)), _, _, (by rw [e2]; exact ht9), (by rw [e2] <;> rfl)⟩ | exact ⟨rfl, rfl, (by rw [e2, c_34]; rfl), _, _, (by rw [e2]; exact ht), (by rw [e2] <;> rfl)⟩
      · have e2 : sp_bec b T c k (q_rt r (nI k) (q_d (sp_lk T k)) n) = (some (-1000), sp_go T k, z_bp c 6) := by rw [e1, c_34]; exact sp_bec1 c_53
        refine j_aload_n dX4_reckon_56 rfl rfl ?_
        refine j_iload_n dX4_reckon_57 rfl ?_
        refine j_callV (q := (RX4, TX4, 5)) dX4_reckon_58 kX4_sendAway lX4_70 inX4_sendAway seX4_sendAway rfl rfl (z_frame [0, 1, 2, 3, 4] rfl (by decide) (Nat.le_of_ble_eq_true rfl) (c_X4_sendAway_e hl _ _ _ _ T k ht hk)) (Nat.le_of_ble_eq_true rfl) ⟨(Nat.le_of_ble_eq_true rfl), (Nat.le_of_ble_eq_true rfl)⟩ rfl (Nat.le_of_ble_eq_true rfl) rfl rfl (fun _ _ h => h.elim) ?_
        rintro _ _ ⟨_, _, ⟨rfl, f9, g9, ht9, rfl⟩, rfl, rfl⟩
        refine j_ws (L' := [.inr (9, [_, _, _, _, _]), z_ia 20 _, z_ia 20 _, .inr (11, [_]), z_ia 7 _]) (by decide) rfl rfl ?_
        refine j_pop dX4_reckon_61 rfl ?_
        refine j_iload dX4_reckon_62 rfl ?_
        refine j_iret dX4_reckon_64 rfl rfl ?_ (Nat.le_of_ble_eq_true rfl) (Nat.le_of_ble_eq_true rfl)
        first | exact ⟨rfl, rfl, (by rw [e2]; first | rfl | (rw [c_34]; rfl)), _, _, (by rw [e2]; exact ht9), (by rw [e2] <;> rfl)⟩ | exact ⟨rfl, rfl, (by rw [e2, c_34]; rfl), _, _, (by rw [e2]; exact ht), (by rw [e2] <;> rfl)⟩
    · have hnn : ¬ (q_rt r (nI k) (q_d (sp_lk T k)) n).getD (-1001) = -1000 := c_34
      have hvl : z_vl ((q_rt r (nI k) (q_d (sp_lk T k)) n).getD (-1001)) := (q_rt_r (q_d_vl ht.1) hn (q_gs (m := -1001) hsm)).resolve_left hnn
      have e2 : sp_bec b T c k (q_rt r (nI k) (q_d (sp_lk T k)) n) = (some ((q_rt r (nI k) (q_d (sp_lk T k)) n).getD (-1001)), sp_pt b T k ((q_rt r (nI k) (q_d (sp_lk T k)) n).getD (-1001)), z_bp c 5) := by rw [e1]; exact if_neg hnn
      refine j_aload_n dX4_reckon_37 rfl rfl ?_
      refine j_iload_n dX4_reckon_38 rfl ?_
      refine j_iload dX4_reckon_39 rfl ?_
      refine j_callV (q := (RX4, TX4, 5)) dX4_reckon_41 kX4_store lX4_62 inX4_store seX4_store rfl rfl (z_frame [0, 1, 2, 3, 4] rfl (by decide) (Nat.le_of_ble_eq_true rfl) (c_X4_store_e hl _ _ _ _ T k ((q_rt r (nI k) (q_d (sp_lk T k)) n).getD (-1001)) ht hk hvl)) (Nat.le_of_ble_eq_true rfl) ⟨(Nat.le_of_ble_eq_true rfl), (Nat.le_of_ble_eq_true rfl)⟩ rfl (Nat.le_of_ble_eq_true rfl) rfl rfl (fun _ _ h => h.elim) ?_
      rintro _ _ ⟨_, _, ⟨rfl, f9, g9, ht9, rfl⟩, rfl, rfl⟩
      refine j_ws (L' := [.inr (9, [_, _, _, _, _]), z_ia 20 _, z_ia 20 _, .inr (11, [_]), z_ia 7 _]) (by decide) rfl rfl ?_
      refine j_pop dX4_reckon_44 rfl ?_
      refine j_goto (tgt := 62) dX4_reckon_45 (by decide) ?_
      refine j_iload dX4_reckon_62 rfl ?_
      refine j_iret dX4_reckon_64 rfl rfl ?_ (Nat.le_of_ble_eq_true rfl) (Nat.le_of_ble_eq_true rfl)
      first | exact ⟨rfl, rfl, (by rw [e2]; first | rfl | (rw [c_34]; rfl)), _, _, (by rw [e2]; exact ht9), (by rw [e2] <;> rfl)⟩ | exact ⟨rfl, rfl, (by rw [e2, c_34]; rfl), _, _, (by rw [e2]; exact ht), (by rw [e2] <;> rfl)⟩
  · have e2 : sp_bec b T c k (q_rt r (nI k) (q_d (sp_lk T k)) n) = (none, T, c) := by rw [q_gn (m := -1001) (fun y hy => q_rtm (q_d_vl ht.1) hn hy) c_22]; rfl
    refine j_sipush (v := (-1001)) dX4_reckon_25 (by decide) ?_
    refine j_iret dX4_reckon_28 rfl rfl ?_ (Nat.le_of_ble_eq_true rfl) (Nat.le_of_ble_eq_true rfl)
    exact ⟨rfl, rfl, (by rw [e2]; rfl), _, _, (by rw [e2]; exact ht), (by rw [e2] <;> rfl)⟩
set_option maxRecDepth 100000 in
set_option maxHeartbeats 8000000 in
theorem c_X4_reckonPresent_e (hl : l.stackTraces = false) (b : Bool) (f g c : Nat → Int32) (T : List (Nat × Int32)) (k : Nat) (r n : Int32) (ht : z_tba f g T) (hk : k < 20) (hn : z_vl n) : z_CF G l mX4_reckonPresent 16 0 0 [.inr (9, [.int (z_bi b), .ref 1, .ref 2, .ref 3, .int (nI (T).length)]), z_ia 20 f, z_ia 20 g, .inr (11, [.ref 4]), z_ia 7 c] [.ref 0, .int (nI k), .int r, .int n] (fun v L => v = some (.int ((sp_cip b T c k r n).1.getD (-1001))) ∧ ∃ f' g' : Nat → Int32, z_tba f' g' (sp_cip b T c k r n).2.1 ∧ L = [.inr (9, [.int (z_bi b), .ref 1, .ref 2, .ref 3, .int (nI ((sp_cip b T c k r n).2.1).length)]), z_ia 20 f', z_ia 20 g', .inr (11, [.ref 4]), z_ia 7 (sp_cip b T c k r n).2.2]) := by
  refine z_body hl (by decide) rfl (Nat.le_of_ble_eq_true rfl) ?_
  show z_J G l mX4_reckonPresent (z_SF 16 0 0 [.inr (9, [.int (z_bi b), .ref 1, .ref 2, .ref 3, .int (nI (T).length)]), z_ia 20 f, z_ia 20 g, .inr (11, [.ref 4]), z_ia 7 c] (fun v L => v = some (.int ((sp_cip b T c k r n).1.getD (-1001))) ∧ ∃ f' g' : Nat → Int32, z_tba f' g' (sp_cip b T c k r n).2.1 ∧ L = [.inr (9, [.int (z_bi b), .ref 1, .ref 2, .ref 3, .int (nI ((sp_cip b T c k r n).2.1).length)]), z_ia 20 f', z_ia 20 g', .inr (11, [.ref 4]), z_ia 7 (sp_cip b T c k r n).2.2])) 0 [(0, _), (1, _), (2, _), (3, _)] [] _ 0 0
  have hln := ht.len
  refine j_aload_n dX4_reckonPresent_0 rfl rfl ?_
  refine j_iload_n dX4_reckonPresent_1 rfl ?_
  refine j_callV (q := (RX4, TX4, 5)) dX4_reckonPresent_2 kX4_look lX4_37 inX4_look seX4_look rfl rfl (z_frame [0, 1, 2, 3, 4] rfl (by decide) (Nat.le_of_ble_eq_true rfl) (c_X4_look_e hl _ _ _ _ _ T k ht hk)) (Nat.le_of_ble_eq_true rfl) ⟨(Nat.le_of_ble_eq_true rfl), (Nat.le_of_ble_eq_true rfl)⟩ rfl (Nat.le_of_ble_eq_true rfl) rfl rfl (fun _ _ h => h.elim) ?_
  rintro _ _ ⟨_, _, ⟨rfl, rfl⟩, rfl, rfl⟩
  refine j_ws (L' := [.inr (9, [_, _, _, _, _]), z_ia 20 _, z_ia 20 _, .inr (11, [_]), z_ia 7 _]) (by decide) rfl rfl ?_
  refine j_sipush (v := (-1000)) dX4_reckonPresent_5 (by decide) ?_
  refine j_icmp_ne (tgt := 17) dX4_reckonPresent_8 (by decide) (fun c_8 => ?_) (fun c_8 => ?_)
  · have e0 : sp_cip b T c k r n = sp_bec b T c k (q_rt r (nI k) (q_d (sp_lk T k)) n) := by rw [q_dn c_8]; exact if_neg c_8
    refine j_aload_n dX4_reckonPresent_17 rfl rfl ?_
    refine j_iload_n dX4_reckonPresent_18 rfl ?_
    refine j_iload_n dX4_reckonPresent_19 rfl ?_
    refine j_iload_n dX4_reckonPresent_20 rfl ?_
    refine j_callV (q := (RX4, TX4, 5)) dX4_reckonPresent_21 kX4_reckon lX4_66 inX4_reckon seX4_reckon rfl rfl (z_frame [0, 1, 2, 3, 4] rfl (by decide) (Nat.le_of_ble_eq_true rfl) (c_X4_reckon_e hl _ _ _ _ T k r n ht hk hn)) (Nat.le_of_ble_eq_true rfl) ⟨(Nat.le_of_ble_eq_true rfl), (Nat.le_of_ble_eq_true rfl)⟩ rfl (Nat.le_of_ble_eq_true rfl) rfl rfl (fun _ _ h => h.elim) ?_
    rintro _ _ ⟨_, _, ⟨rfl, f9, g9, ht9, rfl⟩, rfl, rfl⟩
    refine j_ws (L' := [.inr (9, [_, _, _, _, _]), z_ia 20 _, z_ia 20 _, .inr (11, [_]), z_ia 7 _]) (by decide) rfl rfl ?_
    refine j_iret dX4_reckonPresent_24 rfl rfl ?_ (Nat.le_of_ble_eq_true rfl) (Nat.le_of_ble_eq_true rfl)
    first | exact ⟨rfl, rfl, (by rw [e0] <;> rfl), _, _, (by rw [e0]; exact ht9), (by rw [e0] <;> rfl)⟩ | exact ⟨rfl, rfl, (by rw [e0]; rfl), _, _, (by rw [e0]; exact ht), (by rw [e0] <;> rfl)⟩
  · have e0 : sp_cip b T c k r n = (some (-1000), T, c) := if_pos c_8
    refine j_sipush (v := (-1000)) dX4_reckonPresent_11 (by decide) ?_
    refine j_goto (tgt := 24) dX4_reckonPresent_14 (by decide) ?_
    refine j_iret dX4_reckonPresent_24 rfl rfl ?_ (Nat.le_of_ble_eq_true rfl) (Nat.le_of_ble_eq_true rfl)
    first | exact ⟨rfl, rfl, (by rw [e0] <;> rfl), _, _, (by rw [e0]; exact ht9), (by rw [e0] <;> rfl)⟩ | exact ⟨rfl, rfl, (by rw [e0]; rfl), _, _, (by rw [e0]; exact ht), (by rw [e0] <;> rfl)⟩
set_option maxRecDepth 100000 in
set_option maxHeartbeats 8000000 in
theorem c_X4_join_e (hl : l.stackTraces = false) (b : Bool) (f g c : Nat → Int32) (T : List (Nat × Int32)) (k : Nat) (x r : Int32) (ht : z_tba f g T) (hk : k < 20) (hvl : z_vl x) : z_CF G l mX4_join 16 0 0 [.inr (9, [.int (z_bi b), .ref 1, .ref 2, .ref 3, .int (nI (T).length)]), z_ia 20 f, z_ia 20 g, .inr (11, [.ref 4]), z_ia 7 c] [.ref 0, .int (nI k), .int x, .int r] (fun v L => v = some (.int ((sp_mrg b T c k x r).1.getD (-1001))) ∧ ∃ f' g' : Nat → Int32, z_tba f' g' (sp_mrg b T c k x r).2.1 ∧ L = [.inr (9, [.int (z_bi b), .ref 1, .ref 2, .ref 3, .int (nI ((sp_mrg b T c k x r).2.1).length)]), z_ia 20 f', z_ia 20 g', .inr (11, [.ref 4]), z_ia 7 (sp_mrg b T c k x r).2.2]) := by
  refine z_body hl (by decide) rfl (Nat.le_of_ble_eq_true rfl) ?_
  show z_J G l mX4_join (z_SF 16 0 0 [.inr (9, [.int (z_bi b), .ref 1, .ref 2, .ref 3, .int (nI (T).length)]), z_ia 20 f, z_ia 20 g, .inr (11, [.ref 4]), z_ia 7 c] (fun v L => v = some (.int ((sp_mrg b T c k x r).1.getD (-1001))) ∧ ∃ f' g' : Nat → Int32, z_tba f' g' (sp_mrg b T c k x r).2.1 ∧ L = [.inr (9, [.int (z_bi b), .ref 1, .ref 2, .ref 3, .int (nI ((sp_mrg b T c k x r).2.1).length)]), z_ia 20 f', z_ia 20 g', .inr (11, [.ref 4]), z_ia 7 (sp_mrg b T c k x r).2.2])) 0 [(0, _), (1, _), (2, _), (3, _)] [] _ 0 0
  have hln := ht.len
  refine j_aload_n dX4_join_0 rfl rfl ?_
  refine j_iload_n dX4_join_1 rfl ?_
  refine j_callV (q := (RX4, TX4, 5)) dX4_join_2 kX4_look lX4_37 inX4_look seX4_look rfl rfl (z_frame [0, 1, 2, 3, 4] rfl (by decide) (Nat.le_of_ble_eq_true rfl) (c_X4_look_e hl _ _ _ _ _ T k ht hk)) (Nat.le_of_ble_eq_true rfl) ⟨(Nat.le_of_ble_eq_true rfl), (Nat.le_of_ble_eq_true rfl)⟩ rfl (Nat.le_of_ble_eq_true rfl) rfl rfl (fun _ _ h => h.elim) ?_
  rintro _ _ ⟨_, _, ⟨rfl, rfl⟩, rfl, rfl⟩
  refine j_ws (L' := [.inr (9, [_, _, _, _, _]), z_ia 20 _, z_ia 20 _, .inr (11, [_]), z_ia 7 _]) (by decide) rfl rfl ?_
  refine j_sipush (v := (-1000)) dX4_join_5 (by decide) ?_
  refine j_icmp_eq (tgt := 19) dX4_join_8 (by decide) (fun c_8 => ?_) (fun c_8 => ?_)
  · have e0 : sp_mrg b T c k x r = (some x, sp_pt b T k x, z_bp c 5) := if_pos c_8
    refine j_aload_n dX4_join_19 rfl rfl ?_
    refine j_iload_n dX4_join_20 rfl ?_
    refine j_iload_n dX4_join_21 rfl ?_
    refine j_callV (q := (RX4, TX4, 5)) dX4_join_22 kX4_store lX4_62 inX4_store seX4_store rfl rfl (z_frame [0, 1, 2, 3, 4] rfl (by decide) (Nat.le_of_ble_eq_true rfl) (c_X4_store_e hl _ _ _ _ T k x ht hk hvl)) (Nat.le_of_ble_eq_true rfl) ⟨(Nat.le_of_ble_eq_true rfl), (Nat.le_of_ble_eq_true rfl)⟩ rfl (Nat.le_of_ble_eq_true rfl) rfl rfl (fun _ _ h => h.elim) ?_
    rintro _ _ ⟨_, _, ⟨rfl, f9, g9, ht9, rfl⟩, rfl, rfl⟩
    refine j_ws (L' := [.inr (9, [_, _, _, _, _]), z_ia 20 _, z_ia 20 _, .inr (11, [_]), z_ia 7 _]) (by decide) rfl rfl ?_
    refine j_pop dX4_join_25 rfl ?_
    refine j_iload_n dX4_join_26 rfl ?_
    refine j_iret dX4_join_27 rfl rfl ?_ (Nat.le_of_ble_eq_true rfl) (Nat.le_of_ble_eq_true rfl)
    exact ⟨rfl, rfl, (by rw [e0] <;> rfl), _, _, (by rw [e0]; exact ht9), (by rw [e0] <;> rfl)⟩
  · have e0 : sp_mrg b T c k x r = sp_bec b T c k (q_rt r (nI k) (q_d (sp_lk T k)) x) := by rw [q_dn c_8]; exact if_neg c_8
    refine j_aload_n dX4_join_11 rfl rfl ?_
    refine j_iload_n dX4_join_12 rfl ?_
    refine j_iload_n dX4_join_13 rfl ?_
    refine j_iload_n dX4_join_14 rfl ?_
    refine j_callV (q := (RX4, TX4, 5)) dX4_join_15 kX4_reckon lX4_66 inX4_reckon seX4_reckon rfl rfl (z_frame [0, 1, 2, 3, 4] rfl (by decide) (Nat.le_of_ble_eq_true rfl) (c_X4_reckon_e hl _ _ _ _ T k r x ht hk hvl)) (Nat.le_of_ble_eq_true rfl) ⟨(Nat.le_of_ble_eq_true rfl), (Nat.le_of_ble_eq_true rfl)⟩ rfl (Nat.le_of_ble_eq_true rfl) rfl rfl (fun _ _ h => h.elim) ?_
    rintro _ _ ⟨_, _, ⟨rfl, f9, g9, ht9, rfl⟩, rfl, rfl⟩
    refine j_ws (L' := [.inr (9, [_, _, _, _, _]), z_ia 20 _, z_ia 20 _, .inr (11, [_]), z_ia 7 _]) (by decide) rfl rfl ?_
    refine j_iret dX4_join_18 rfl rfl ?_ (Nat.le_of_ble_eq_true rfl) (Nat.le_of_ble_eq_true rfl)
    exact ⟨rfl, rfl, (by rw [e0] <;> rfl), _, _, (by rw [e0]; exact ht9), (by rw [e0] <;> rfl)⟩
end ZCt
end ZM5
section ZM6
section ZCe
variable {G : z_G} {l : Launch}
set_option maxRecDepth 100000 in
set_option maxHeartbeats 8000000 in
theorem c_X0_dropOldest_e (hl : l.stackTraces = false) (a d e s : Int32) (f : Nat → Int32)  : z_CF G l mX0_dropOldest 10 0 0 [.inr (5, [.ref 1, .int (nI 10), .int a, .int d, .int e, .int s]), z_ia 10 f] [.ref 0] (fun v L => v = none ∧ ∃ f' : Nat → Int32, (∀ i, i < 9 → f' i = f (i + 1)) ∧ L = [.inr (5, [.ref 1, .int (nI 9), .int a, .int d, .int e, .int s]), z_ia 10 f']) := by
  refine z_body hl (by decide) rfl (Nat.le_of_ble_eq_true rfl) ?_
  show z_J G l mX0_dropOldest (z_SF 10 0 0 [.inr (5, [.ref 1, .int (nI 10), .int a, .int d, .int e, .int s]), z_ia 10 f] (fun v L => v = none ∧ ∃ f' : Nat → Int32, (∀ i, i < 9 → f' i = f (i + 1)) ∧ L = [.inr (5, [.ref 1, .int (nI 9), .int a, .int d, .int e, .int s]), z_ia 10 f'])) 0 [(0, _)] [] _ 0 0
  refine j_iconst (v := 1) dX0_dropOldest_0 (by decide) ?_
  refine j_istore_n (lo' := [(1, _), (0, _)]) dX0_dropOldest_1 (by decide) rfl ?_
  have loop : ∀ (n9 : Nat) (f' : Nat → Int32) (j : Nat), (j ≤ 9) → (∀ i, i < j → f' i = f (i + 1)) → (∀ i, j ≤ i → f' i = f i) → (9 < j + n9) → z_J G l mX0_dropOldest (z_SF 10 0 0 [.inr (5, [.ref 1, .int (nI 10), .int a, .int d, .int e, .int s]), z_ia 10 f] (fun v L => v = none ∧ ∃ f' : Nat → Int32, (∀ i, i < 9 → f' i = f (i + 1)) ∧ L = [.inr (5, [.ref 1, .int (nI 9), .int a, .int d, .int e, .int s]), z_ia 10 f'])) 2 [(0, .ref 0), (1, .int (nI (j + 1)))] [] ([.inr (5, [.ref 1, .int (nI 10), .int a, .int d, .int e, .int s]), z_ia 10 f'], z_no) 0 0 := by
    intro n9
    induction n9 with
    | zero => intro f' j hj hm hr hf9; exact absurd hf9 (by omega)
    | succ n9 ih =>
      intro f' j hj hm hr hf9
      refine j_iload_n dX0_dropOldest_2 rfl ?_
      refine j_aload_n dX0_dropOldest_3 rfl rfl ?_
      refine j_getf dX0_dropOldest_4 fX0_9 rfl rfl ?_
      refine j_alen dX0_dropOldest_7 rfl rfl rfl ?_
      refine j_icmp_ge (tgt := 31) dX0_dropOldest_8 (by decide) (fun c_8 => ?_) (fun c_8 => ?_)
      · have hb8 : 10 ≤ (j + 1) := (nI_leI (a := 10) (b := (j + 1)) (by omega) (by omega)).mp c_8
        refine j_aload_n dX0_dropOldest_31 rfl rfl ?_
        refine j_dup dX0_dropOldest_32 rfl ?_
        refine j_getf dX0_dropOldest_33 fX0_32 rfl rfl ?_
        refine j_iconst (v := 1) dX0_dropOldest_36 (by decide) ?_
        refine j_isub dX0_dropOldest_37 ?_
        refine j_top (congrArg Value.int (q_nsub (a := 10) (b := 1) (by omega))) ?_
        refine j_put (w' := ([.inr (5, [_, _, _, _, _, _]), z_ia 10 _], z_no)) dX0_dropOldest_38 fX0_32 tX0_1 rfl ⟨rfl, rfl⟩ rfl ?_
        refine j_vret dX0_dropOldest_41 rfl ?_ (Nat.le_of_ble_eq_true rfl) (Nat.le_of_ble_eq_true rfl)
        exact ⟨rfl, rfl, rfl, _, fun i hi => hm i (by omega), rfl⟩
      · have hb8 : (j + 1) < 10 := Nat.not_le.mp (fun z => c_8 ((nI_leI (a := 10) (b := (j + 1)) (by omega) (by omega)).mpr z))
        refine j_aload_n dX0_dropOldest_11 rfl rfl ?_
        refine j_getf dX0_dropOldest_12 fX0_9 rfl rfl ?_
        refine j_iload_n dX0_dropOldest_15 rfl ?_
        refine j_iconst (v := 1) dX0_dropOldest_16 (by decide) ?_
        refine j_isub dX0_dropOldest_17 ?_
        refine j_top (congrArg Value.int (q_nsub (a := (j + 1)) (b := 1) (by omega))) ?_
        refine j_aload_n dX0_dropOldest_18 rfl rfl ?_
        refine j_getf dX0_dropOldest_19 fX0_9 rfl rfl ?_
        refine j_iload_n dX0_dropOldest_22 rfl ?_
        refine j_ldN dX0_dropOldest_23 rfl (k := (j + 1)) (by omega) (by omega) ?_
        refine j_stoN (w' := ([.inr (5, [_, _, _, _, _, _]), z_ia 10 _], z_no)) dX0_dropOldest_24 rfl (k := ((j + 1) - 1)) (by omega) (by omega) rfl ?_
        refine j_iinc (lo' := [(1, _), (0, _)]) dX0_dropOldest_25 rfl (z_inc _) (by decide) rfl ?_
        refine j_goto (tgt := 2) dX0_dropOldest_28 (by decide) ?_
        exact j_lo2 (ih _ (j + 1) (by omega) (sp_lt1 (fun i hi => (z_ui_ne (by omega)).trans (hm i hi)) (z_ui_self.trans (hr _ (by omega)))) (fun i hi => (z_ui_ne (by omega)).trans (hr i (by omega))) (by omega)) (z_q1 rfl (z_q1 rfl z_q0))
  exact j_lo2 (loop 10 _ 0 (by omega) (fun i hi => absurd hi (Nat.not_lt_zero _)) (fun _ _ => rfl) (by omega)) (z_q1 rfl (z_q1 rfl z_q0))
set_option maxRecDepth 100000 in
set_option maxHeartbeats 8000000 in
theorem c_X0_keep_e (hl : l.stackTraces = false) (a d e s : Int32) (f : Nat → Int32) (B : List Int32) (x : Int32) (hr : z_row 10 (nI B.length) f B) : z_CF G l mX0_keep 11 0 0 [.inr (5, [.ref 1, .int (nI B.length), .int a, .int d, .int e, .int s]), z_ia 10 f] [.ref 0, .int x] (fun v L => v = none ∧ ∃ f' : Nat → Int32, z_row 10 (nI (sp_rec B x).length) f' (sp_rec B x) ∧ L = [.inr (5, [.ref 1, .int (nI (sp_rec B x).length), .int a, .int d, .int e, .int s]), z_ia 10 f']) := by
  refine z_body hl (by decide) rfl (Nat.le_of_ble_eq_true rfl) ?_
  show z_J G l mX0_keep (z_SF 11 0 0 [.inr (5, [.ref 1, .int (nI B.length), .int a, .int d, .int e, .int s]), z_ia 10 f] (fun v L => v = none ∧ ∃ f' : Nat → Int32, z_row 10 (nI (sp_rec B x).length) f' (sp_rec B x) ∧ L = [.inr (5, [.ref 1, .int (nI (sp_rec B x).length), .int a, .int d, .int e, .int s]), z_ia 10 f'])) 0 [(0, _), (1, _)] [] _ 0 0
  have hln := hr.2.1
  refine j_aload_n dX0_keep_0 rfl rfl ?_
  refine j_getf dX0_keep_1 fX0_32 rfl rfl ?_
  refine j_aload_n dX0_keep_4 rfl rfl ?_
  refine j_getf dX0_keep_5 fX0_9 rfl rfl ?_
  refine j_alen dX0_keep_8 rfl rfl rfl ?_
  refine j_icmp_lt (tgt := 16) dX0_keep_9 (by decide) (fun c_9 => ?_) (fun c_9 => ?_)
  · have hb9 : B.length < 10 := (nI_ltI (a := B.length) (b := 10) (by omega) (by omega)).mp c_9
    refine j_aload_n dX0_keep_16 rfl rfl ?_
    refine j_getf dX0_keep_17 fX0_32 rfl rfl ?_
    refine j_if_lt (tgt := 55) dX0_keep_20 (by decide) (fun c_20 => ?_) (fun c_20 => ?_)
    · exact absurd c_20 (nI_pos (n := B.length) (by omega))
    · have hb20 : ¬ B.length < 0 := fun z => c_20 ((nI_ltI (a := B.length) (b := 0) (by omega) (by omega)).mpr z)
      refine j_aload_n dX0_keep_23 rfl rfl ?_
      refine j_getf dX0_keep_24 fX0_32 rfl rfl ?_
      refine j_aload_n dX0_keep_27 rfl rfl ?_
      refine j_getf dX0_keep_28 fX0_9 rfl rfl ?_
      refine j_alen dX0_keep_31 rfl rfl rfl ?_
      refine j_icmp_ge (tgt := 55) dX0_keep_32 (by decide) (fun c_32 => ?_) (fun c_32 => ?_)
      · have hb32 : 10 ≤ B.length := (nI_leI (a := 10) (b := B.length) (by omega) (by omega)).mp c_32
        exact absurd hb32 (by omega)
      · have hb32 : B.length < 10 := Nat.not_le.mp (fun z => c_32 ((nI_leI (a := 10) (b := B.length) (by omega) (by omega)).mpr z))
        refine j_aload_n dX0_keep_35 rfl rfl ?_
        refine j_getf dX0_keep_36 fX0_9 rfl rfl ?_
        refine j_aload_n dX0_keep_39 rfl rfl ?_
        refine j_getf dX0_keep_40 fX0_32 rfl rfl ?_
        refine j_iload_n dX0_keep_43 rfl ?_
        refine j_stoN (w' := ([.inr (5, [_, _, _, _, _, _]), z_ia 10 _], z_no)) dX0_keep_44 rfl (k := B.length) (by omega) (by omega) rfl ?_
        refine j_aload_n dX0_keep_45 rfl rfl ?_
        refine j_dup dX0_keep_46 rfl ?_
        refine j_getf dX0_keep_47 fX0_32 rfl rfl ?_
        refine j_iconst (v := 1) dX0_keep_50 (by decide) ?_
        refine j_iadd dX0_keep_51 ?_
        refine j_top (congrArg Value.int (show nI (B.length) + nI (1) = nI (B.length + 1) from nI_add _ _)) ?_
        refine j_put (w' := ([.inr (5, [_, _, _, _, _, _]), z_ia 10 _], z_no)) dX0_keep_52 fX0_32 tX0_1 rfl ⟨rfl, rfl⟩ rfl ?_
        refine j_vret dX0_keep_55 rfl ?_ (Nat.le_of_ble_eq_true rfl) (Nat.le_of_ble_eq_true rfl)
        exact ⟨rfl, rfl, rfl, _, (by rw [sp_rec_l hb9, List.length_append]; exact hr.push hb9), (by rw [sp_rec_l hb9, List.length_append]; rfl)⟩
  · have hb9 : ¬ B.length < 10 := fun z => c_9 ((nI_ltI (a := B.length) (b := 10) (by omega) (by omega)).mpr z)
    have hB10 : B.length = 10 := by omega
    have htl : B.tail.length = 9 := by rw [List.length_tail, hB10]
    refine j_aload_n dX0_keep_12 rfl rfl ?_
    refine j_w ([.inr (5, [.ref 1, .int (nI 10), .int a, .int d, .int e, .int s]), z_ia 10 f], z_no) (by rw [hB10] <;> rfl) ?_
    refine j_callV (q := (RX0, TX0, 6)) dX0_keep_13 kX0_dropOldest lX0_35 inX0_dropOldest seX0_dropOldest rfl rfl (z_frame [0, 1] rfl (by decide) (Nat.le_of_ble_eq_true rfl) (c_X0_dropOldest_e hl _ _ _ _ _)) (Nat.le_of_ble_eq_true rfl) ⟨(Nat.le_of_ble_eq_true rfl), (Nat.le_of_ble_eq_true rfl)⟩ rfl (Nat.le_of_ble_eq_true rfl) rfl rfl (fun _ _ h => h.elim) ?_
    rintro _ _ ⟨_, _, ⟨rfl, f9, hf9, rfl⟩, rfl, rfl⟩
    refine j_ws (L' := [.inr (5, [_, _, _, _, _, _]), z_ia 10 _]) (by decide) rfl rfl ?_
    refine j_aload_n dX0_keep_16 rfl rfl ?_
    refine j_getf dX0_keep_17 fX0_32 rfl rfl ?_
    refine j_if_lt (tgt := 55) dX0_keep_20 (by decide) (fun c_20 => ?_) (fun c_20 => ?_)
    · exact absurd c_20 (nI_pos (n := 9) (by omega))
    · have hb20 : ¬ 9 < 0 := fun z => c_20 ((nI_ltI (a := 9) (b := 0) (by omega) (by omega)).mpr z)
      refine j_aload_n dX0_keep_23 rfl rfl ?_
      refine j_getf dX0_keep_24 fX0_32 rfl rfl ?_
      refine j_aload_n dX0_keep_27 rfl rfl ?_
      refine j_getf dX0_keep_28 fX0_9 rfl rfl ?_
      refine j_alen dX0_keep_31 rfl rfl rfl ?_
      refine j_icmp_ge (tgt := 55) dX0_keep_32 (by decide) (fun c_32 => ?_) (fun c_32 => ?_)
      · have hb32 : 10 ≤ 9 := (nI_leI (a := 10) (b := 9) (by omega) (by omega)).mp c_32
        exact absurd hb32 (by omega)
      · have hb32 : 9 < 10 := Nat.not_le.mp (fun z => c_32 ((nI_leI (a := 10) (b := 9) (by omega) (by omega)).mpr z))
        refine j_aload_n dX0_keep_35 rfl rfl ?_
        refine j_getf dX0_keep_36 fX0_9 rfl rfl ?_
        refine j_aload_n dX0_keep_39 rfl rfl ?_
        refine j_getf dX0_keep_40 fX0_32 rfl rfl ?_
        refine j_iload_n dX0_keep_43 rfl ?_
        refine j_stoN (w' := ([.inr (5, [_, _, _, _, _, _]), z_ia 10 _], z_no)) dX0_keep_44 rfl (k := 9) (by omega) (by omega) rfl ?_
        refine j_aload_n dX0_keep_45 rfl rfl ?_
        refine j_dup dX0_keep_46 rfl ?_
        refine j_getf dX0_keep_47 fX0_32 rfl rfl ?_
        refine j_iconst (v := 1) dX0_keep_50 (by decide) ?_
        refine j_iadd dX0_keep_51 ?_
        refine j_top (congrArg Value.int (show nI (9) + nI (1) = nI (9 + 1) from nI_add _ _)) ?_
        refine j_put (w' := ([.inr (5, [_, _, _, _, _, _]), z_ia 10 _], z_no)) dX0_keep_52 fX0_32 tX0_1 rfl ⟨rfl, rfl⟩ rfl ?_
        refine j_vret dX0_keep_55 rfl ?_ (Nat.le_of_ble_eq_true rfl) (Nat.le_of_ble_eq_true rfl)
        exact ⟨rfl, rfl, rfl, _, (by rw [sp_rec_g (by omega)]; have z := (hr.tail hB10 hf9).push (x := x) (by omega); rw [htl] at z; rw [List.length_append, htl]; exact z), (by rw [sp_rec_g (by omega), List.length_append, htl]; rfl)⟩
set_option maxRecDepth 100000 in
set_option maxHeartbeats 8000000 in
theorem c_X0_takesIn_e (hl : l.stackTraces = false) (h : sp_H) (f : Nat → Int32) (x : Int32) (he : z_row 10 (nI h.2.length) f h.2) : z_CF G l mX0_takesIn 12 0 0 [.inr (5, [.ref 1, .int (nI h.2.length), .int h.1.2.1, .int h.1.2.2.1, .int h.1.2.2.2, .int h.1.1]), z_ia 10 f] [.ref 0, .int x] (fun v L => v = some (.int (z_bi (sp_in h x).isSome)) ∧ ∃ f' : Nat → Int32, z_row 10 (nI ((sp_in h x).getD h).2.length) f' ((sp_in h x).getD h).2 ∧ L = [.inr (5, [.ref 1, .int (nI ((sp_in h x).getD h).2.length), .int ((sp_in h x).getD h).1.2.1, .int ((sp_in h x).getD h).1.2.2.1, .int ((sp_in h x).getD h).1.2.2.2, .int ((sp_in h x).getD h).1.1]), z_ia 10 f']) := by
  refine z_body hl (by decide) rfl (Nat.le_of_ble_eq_true rfl) ?_
  show z_J G l mX0_takesIn (z_SF 12 0 0 [.inr (5, [.ref 1, .int (nI h.2.length), .int h.1.2.1, .int h.1.2.2.1, .int h.1.2.2.2, .int h.1.1]), z_ia 10 f] (fun v L => v = some (.int (z_bi (sp_in h x).isSome)) ∧ ∃ f' : Nat → Int32, z_row 10 (nI ((sp_in h x).getD h).2.length) f' ((sp_in h x).getD h).2 ∧ L = [.inr (5, [.ref 1, .int (nI ((sp_in h x).getD h).2.length), .int ((sp_in h x).getD h).1.2.1, .int ((sp_in h x).getD h).1.2.2.1, .int ((sp_in h x).getD h).1.2.2.2, .int ((sp_in h x).getD h).1.1]), z_ia 10 f'])) 0 [(0, _), (1, _)] [] _ 0 0
  refine j_aload_n dX0_takesIn_0 rfl rfl ?_
  refine j_getf dX0_takesIn_1 fX0_19 rfl rfl ?_
  refine j_sipush (v := (-1000)) dX0_takesIn_4 (by decide) ?_
  refine j_icmp_eq (tgt := 20) dX0_takesIn_7 (by decide) (fun c_7 => ?_) (fun c_7 => ?_)
  · have e0 := sp_inS (h := h) (x := x) (fun z => z.1 c_7)
    refine j_aload_n dX0_takesIn_20 rfl rfl ?_
    refine j_dup dX0_takesIn_21 rfl ?_
    refine j_getf dX0_takesIn_22 fX0_22 rfl rfl ?_
    refine j_iconst (v := 1) dX0_takesIn_25 (by decide) ?_
    refine j_iadd dX0_takesIn_26 ?_
    refine j_put (w' := ([.inr (5, [_, _, _, _, _, _]), z_ia 10 _], z_no)) dX0_takesIn_27 fX0_22 tX0_2 rfl ⟨rfl, rfl⟩ rfl ?_
    refine j_aload_n dX0_takesIn_30 rfl rfl ?_
    refine j_dup dX0_takesIn_31 rfl ?_
    refine j_getf dX0_takesIn_32 fX0_25 rfl rfl ?_
    refine j_iload_n dX0_takesIn_35 rfl ?_
    refine j_iadd dX0_takesIn_36 ?_
    refine j_put (w' := ([.inr (5, [_, _, _, _, _, _]), z_ia 10 _], z_no)) dX0_takesIn_37 fX0_25 tX0_3 rfl ⟨rfl, rfl⟩ rfl ?_
    refine j_aload_n dX0_takesIn_40 rfl rfl ?_
    refine j_iload_n dX0_takesIn_41 rfl ?_
    refine j_put (w' := ([.inr (5, [_, _, _, _, _, _]), z_ia 10 _], z_no)) dX0_takesIn_42 fX0_15 tX0_4 rfl ⟨rfl, rfl⟩ rfl ?_
    refine j_aload_n dX0_takesIn_45 rfl rfl ?_
    refine j_iload_n dX0_takesIn_46 rfl ?_
    refine j_callV (q := (RX0, TX0, 6)) dX0_takesIn_47 kX0_keep lX0_28 inX0_keep seX0_keep rfl rfl (z_frame [0, 1] rfl (by decide) (Nat.le_of_ble_eq_true rfl) (c_X0_keep_e hl _ _ _ _ _ h.2 x he)) (Nat.le_of_ble_eq_true rfl) ⟨(Nat.le_of_ble_eq_true rfl), (Nat.le_of_ble_eq_true rfl)⟩ rfl (Nat.le_of_ble_eq_true rfl) rfl rfl (fun _ _ h => h.elim) ?_
    rintro _ _ ⟨_, _, ⟨rfl, f9, hf9, rfl⟩, rfl, rfl⟩
    refine j_ws (L' := [.inr (5, [_, _, _, _, _, _]), z_ia 10 _]) (by decide) rfl rfl ?_
    refine j_iconst (v := 1) dX0_takesIn_50 (by decide) ?_
    refine j_iret dX0_takesIn_51 rfl rfl ?_ (Nat.le_of_ble_eq_true rfl) (Nat.le_of_ble_eq_true rfl)
    exact ⟨rfl, rfl, (by rw [e0]; rfl), _, (by rw [e0]; exact hf9), (by rw [e0]; rfl)⟩
  · refine j_iload_n dX0_takesIn_10 rfl ?_
    refine j_aload_n dX0_takesIn_11 rfl rfl ?_
    refine j_getf dX0_takesIn_12 fX0_19 rfl rfl ?_
    refine j_icmp_ne (tgt := 20) dX0_takesIn_15 (by decide) (fun c_15 => ?_) (fun c_15 => ?_)
    · have e0 := sp_inS (h := h) (x := x) (fun z => c_15 z.2)
      refine j_aload_n dX0_takesIn_20 rfl rfl ?_
      refine j_dup dX0_takesIn_21 rfl ?_
      refine j_getf dX0_takesIn_22 fX0_22 rfl rfl ?_
      refine j_iconst (v := 1) dX0_takesIn_25 (by decide) ?_
      refine j_iadd dX0_takesIn_26 ?_
      refine j_put (w' := ([.inr (5, [_, _, _, _, _, _]), z_ia 10 _], z_no)) dX0_takesIn_27 fX0_22 tX0_2 rfl ⟨rfl, rfl⟩ rfl ?_
      refine j_aload_n dX0_takesIn_30 rfl rfl ?_
      refine j_dup dX0_takesIn_31 rfl ?_
      refine j_getf dX0_takesIn_32 fX0_25 rfl rfl ?_
      refine j_iload_n dX0_takesIn_35 rfl ?_
      refine j_iadd dX0_takesIn_36 ?_
      refine j_put (w' := ([.inr (5, [_, _, _, _, _, _]), z_ia 10 _], z_no)) dX0_takesIn_37 fX0_25 tX0_3 rfl ⟨rfl, rfl⟩ rfl ?_
      refine j_aload_n dX0_takesIn_40 rfl rfl ?_
      refine j_iload_n dX0_takesIn_41 rfl ?_
      refine j_put (w' := ([.inr (5, [_, _, _, _, _, _]), z_ia 10 _], z_no)) dX0_takesIn_42 fX0_15 tX0_4 rfl ⟨rfl, rfl⟩ rfl ?_
      refine j_aload_n dX0_takesIn_45 rfl rfl ?_
      refine j_iload_n dX0_takesIn_46 rfl ?_
      refine j_callV (q := (RX0, TX0, 6)) dX0_takesIn_47 kX0_keep lX0_28 inX0_keep seX0_keep rfl rfl (z_frame [0, 1] rfl (by decide) (Nat.le_of_ble_eq_true rfl) (c_X0_keep_e hl _ _ _ _ _ h.2 x he)) (Nat.le_of_ble_eq_true rfl) ⟨(Nat.le_of_ble_eq_true rfl), (Nat.le_of_ble_eq_true rfl)⟩ rfl (Nat.le_of_ble_eq_true rfl) rfl rfl (fun _ _ h => h.elim) ?_
      rintro _ _ ⟨_, _, ⟨rfl, f9, hf9, rfl⟩, rfl, rfl⟩
      refine j_ws (L' := [.inr (5, [_, _, _, _, _, _]), z_ia 10 _]) (by decide) rfl rfl ?_
      refine j_iconst (v := 1) dX0_takesIn_50 (by decide) ?_
      refine j_iret dX0_takesIn_51 rfl rfl ?_ (Nat.le_of_ble_eq_true rfl) (Nat.le_of_ble_eq_true rfl)
      exact ⟨rfl, rfl, (by rw [e0]; rfl), _, (by rw [e0]; exact hf9), (by rw [e0]; rfl)⟩
    · have e0 := sp_inN (h := h) (x := x) c_7 c_15
      refine j_iconst (v := 0) dX0_takesIn_18 (by decide) ?_
      refine j_iret dX0_takesIn_19 rfl rfl ?_ (Nat.le_of_ble_eq_true rfl) (Nat.le_of_ble_eq_true rfl)
      exact ⟨rfl, rfl, (by rw [e0]; rfl), _, (by rw [e0]; exact he), (by rw [e0]; rfl)⟩
set_option maxRecDepth 100000 in
set_option maxHeartbeats 8000000 in
theorem c_X0_beginAnew_e (hl : l.stackTraces = false) (h : sp_H) (f : Nat → Int32)  : z_CF G l mX0_beginAnew 10 0 0 [.inr (5, [.ref 1, .int (nI h.2.length), .int h.1.2.1, .int h.1.2.2.1, .int h.1.2.2.2, .int h.1.1]), z_ia 10 f] [.ref 0] (fun v L => v = none ∧ L = [.inr (5, [.ref 1, .int (nI ((h.1.1, 0, 0, -1), ([] : List Int32)).2.length), .int ((h.1.1, 0, 0, -1), ([] : List Int32)).1.2.1, .int ((h.1.1, 0, 0, -1), ([] : List Int32)).1.2.2.1, .int ((h.1.1, 0, 0, -1), ([] : List Int32)).1.2.2.2, .int ((h.1.1, 0, 0, -1), ([] : List Int32)).1.1]), z_ia 10 f]) := by
  refine z_body hl (by decide) rfl (Nat.le_of_ble_eq_true rfl) ?_
  show z_J G l mX0_beginAnew (z_SF 10 0 0 [.inr (5, [.ref 1, .int (nI h.2.length), .int h.1.2.1, .int h.1.2.2.1, .int h.1.2.2.2, .int h.1.1]), z_ia 10 f] (fun v L => v = none ∧ L = [.inr (5, [.ref 1, .int (nI ((h.1.1, 0, 0, -1), ([] : List Int32)).2.length), .int ((h.1.1, 0, 0, -1), ([] : List Int32)).1.2.1, .int ((h.1.1, 0, 0, -1), ([] : List Int32)).1.2.2.1, .int ((h.1.1, 0, 0, -1), ([] : List Int32)).1.2.2.2, .int ((h.1.1, 0, 0, -1), ([] : List Int32)).1.1]), z_ia 10 f])) 0 [(0, _)] [] _ 0 0
  refine j_aload_n dX0_beginAnew_0 rfl rfl ?_
  refine j_iconst (v := 0) dX0_beginAnew_1 (by decide) ?_
  refine j_put (w' := ([.inr (5, [_, _, _, _, _, _]), z_ia 10 _], z_no)) dX0_beginAnew_2 fX0_32 tX0_1 rfl ⟨rfl, rfl⟩ rfl ?_
  refine j_aload_n dX0_beginAnew_5 rfl rfl ?_
  refine j_iconst (v := 0) dX0_beginAnew_6 (by decide) ?_
  refine j_put (w' := ([.inr (5, [_, _, _, _, _, _]), z_ia 10 _], z_no)) dX0_beginAnew_7 fX0_22 tX0_2 rfl ⟨rfl, rfl⟩ rfl ?_
  refine j_aload_n dX0_beginAnew_10 rfl rfl ?_
  refine j_iconst (v := 0) dX0_beginAnew_11 (by decide) ?_
  refine j_put (w' := ([.inr (5, [_, _, _, _, _, _]), z_ia 10 _], z_no)) dX0_beginAnew_12 fX0_25 tX0_3 rfl ⟨rfl, rfl⟩ rfl ?_
  refine j_aload_n dX0_beginAnew_15 rfl rfl ?_
  refine j_iconst (v := (-1)) dX0_beginAnew_16 (by decide) ?_
  refine j_put (w' := ([.inr (5, [_, _, _, _, _, _]), z_ia 10 _], z_no)) dX0_beginAnew_17 fX0_15 tX0_4 rfl ⟨rfl, rfl⟩ rfl ?_
  refine j_vret dX0_beginAnew_20 rfl ?_ (Nat.le_of_ble_eq_true rfl) (Nat.le_of_ble_eq_true rfl)
  exact ⟨rfl, rfl, rfl, rfl⟩
set_option maxRecDepth 100000 in
set_option maxHeartbeats 8000000 in
theorem c_X0_tells_e (hl : l.stackTraces = false) (h : sp_H) (f : Nat → Int32) (w : Int32)  : z_CF G l mX0_tells 10 0 0 [.inr (5, [.ref 1, .int (nI h.2.length), .int h.1.2.1, .int h.1.2.2.1, .int h.1.2.2.2, .int h.1.1]), z_ia 10 f] [.ref 0, .int w] (fun v L => v = some (.int (sp_tel h w)) ∧ L = [.inr (5, [.ref 1, .int (nI h.2.length), .int h.1.2.1, .int h.1.2.2.1, .int h.1.2.2.2, .int h.1.1]), z_ia 10 f]) := by
  refine z_body hl (by decide) rfl (Nat.le_of_ble_eq_true rfl) ?_
  show z_J G l mX0_tells (z_SF 10 0 0 [.inr (5, [.ref 1, .int (nI h.2.length), .int h.1.2.1, .int h.1.2.2.1, .int h.1.2.2.2, .int h.1.1]), z_ia 10 f] (fun v L => v = some (.int (sp_tel h w)) ∧ L = [.inr (5, [.ref 1, .int (nI h.2.length), .int h.1.2.1, .int h.1.2.2.1, .int h.1.2.2.2, .int h.1.1]), z_ia 10 f])) 0 [(0, _), (1, _)] [] _ 0 0
  refine j_iload_n dX0_tells_0 rfl ?_
  rcases z_sw3 w with rfl | rfl | rfl | hp
  · refine j_tsIn (tgt := 28) dX0_tells_1 (by decide) (by decide) rfl (by decide) ?_
    refine j_aload_n dX0_tells_28 rfl rfl ?_
    refine j_getf dX0_tells_29 fX0_22 rfl rfl ?_
    refine j_iret dX0_tells_32 rfl rfl ?_ (Nat.le_of_ble_eq_true rfl) (Nat.le_of_ble_eq_true rfl)
    exact ⟨rfl, rfl, rfl, rfl⟩
  · refine j_tsIn (tgt := 33) dX0_tells_1 (by decide) (by decide) rfl (by decide) ?_
    refine j_aload_n dX0_tells_33 rfl rfl ?_
    refine j_getf dX0_tells_34 fX0_25 rfl rfl ?_
    refine j_iret dX0_tells_37 rfl rfl ?_ (Nat.le_of_ble_eq_true rfl) (Nat.le_of_ble_eq_true rfl)
    exact ⟨rfl, rfl, rfl, rfl⟩
  · refine j_tsIn (tgt := 38) dX0_tells_1 (by decide) (by decide) rfl (by decide) ?_
    refine j_aload_n dX0_tells_38 rfl rfl ?_
    refine j_getf dX0_tells_39 fX0_15 rfl rfl ?_
    refine j_iret dX0_tells_42 rfl rfl ?_ (Nat.le_of_ble_eq_true rfl) (Nat.le_of_ble_eq_true rfl)
    exact ⟨rfl, rfl, rfl, rfl⟩
  · refine j_tsOut (tgt := 43) dX0_tells_1 hp (by decide) ?_
    refine j_aload_n dX0_tells_43 rfl rfl ?_
    refine j_getf dX0_tells_44 fX0_19 rfl rfl ?_
    refine j_iret dX0_tells_47 rfl rfl ?_ (Nat.le_of_ble_eq_true rfl) (Nat.le_of_ble_eq_true rfl)
    exact ⟨rfl, rfl, (by rw [sp_tel3 hp] <;> rfl), rfl⟩
end ZCe
end ZM6
section ZM7
section ZCw
variable {G : z_G} {l : Launch}
set_option maxRecDepth 100000 in
set_option maxHeartbeats 8000000 in
theorem c_X7_init_X2_e (hl : l.stackTraces = false) (k u p : Int32) (c : Nat → Int32)  : z_CF G l mX7_init 12 0 0 [.inr (7, [.null, .int k, .int u, .null, .int p]), .inr (11, [.ref 2]), z_ia 7 c] [.ref 0, .ref 1] (fun v L => v = none ∧ L = [.inr (7, [.ref 1, .int k, .int u, .null, .int p]), .inr (11, [.ref 2]), z_ia 7 (z_bp c 0)]) := by
  refine z_body hl (by decide) rfl (Nat.le_of_ble_eq_true rfl) ?_
  show z_J G l mX7_init (z_SF 12 0 0 [.inr (7, [.null, .int k, .int u, .null, .int p]), .inr (11, [.ref 2]), z_ia 7 c] (fun v L => v = none ∧ L = [.inr (7, [.ref 1, .int k, .int u, .null, .int p]), .inr (11, [.ref 2]), z_ia 7 (z_bp c 0)])) 0 [(0, _), (1, _)] [] _ 0 0
  refine j_aload_n dX7_init_0 rfl rfl ?_
  refine j_objI dX7_init_1 oX7_3 z_oi1 z_oi2 (Nat.le_of_ble_eq_true rfl) (Nat.le_of_ble_eq_true rfl) ?_
  refine j_aload_n dX7_init_4 rfl rfl ?_
  refine j_aload_n dX7_init_5 rfl rfl ?_
  refine j_putF (w' := ([.inr (7, [_, _, _, _, _]), .inr (11, [_]), z_ia 7 _], z_no)) dX7_init_6 fX7_9_X2 tX2_0 rfl (z_dc rfl rfl (z_w 254 ((lwt_1_6 29).trans rfl) (by decide +kernel))) rfl (Or.inl ⟨_, rfl⟩) rfl ?_
  refine j_aload_n dX7_init_9 rfl rfl ?_
  refine j_iconst (v := 0) dX7_init_10 (by decide) ?_
  refine j_callV (q := (RX6, TX6, 1)) dX7_init_11 kX6_add lX7_15 inX6_add seX6_add rfl rfl (z_frame [1, 2] rfl (by decide) (Nat.le_of_ble_eq_true rfl) (c_X6_add_e hl _ 0 (by decide))) (Nat.le_of_ble_eq_true rfl) ⟨(Nat.le_of_ble_eq_true rfl), (Nat.le_of_ble_eq_true rfl)⟩ rfl (Nat.le_of_ble_eq_true rfl) rfl rfl (fun _ _ h => h.elim) ?_
  rintro _ _ ⟨_, _, ⟨rfl, rfl⟩, rfl, rfl⟩
  refine j_ws (L' := [.inr (7, [_, _, _, _, _]), .inr (11, [_]), z_ia 7 _]) (by decide) rfl rfl ?_
  refine j_vret dX7_init_14 rfl ?_ (Nat.le_of_ble_eq_true rfl) (Nat.le_of_ble_eq_true rfl)
  exact ⟨rfl, rfl, rfl, rfl⟩
set_option maxRecDepth 100000 in
set_option maxHeartbeats 8000000 in
theorem c_X7_init_X5_e (hl : l.stackTraces = false) (k u p : Int32) (c : Nat → Int32)  : z_CF G l mX7_init 12 0 0 [.inr (10, [.null, .int k, .int u, .null, .int p]), .inr (11, [.ref 2]), z_ia 7 c] [.ref 0, .ref 1] (fun v L => v = none ∧ L = [.inr (10, [.ref 1, .int k, .int u, .null, .int p]), .inr (11, [.ref 2]), z_ia 7 (z_bp c 0)]) := by
  refine z_body hl (by decide) rfl (Nat.le_of_ble_eq_true rfl) ?_
  show z_J G l mX7_init (z_SF 12 0 0 [.inr (10, [.null, .int k, .int u, .null, .int p]), .inr (11, [.ref 2]), z_ia 7 c] (fun v L => v = none ∧ L = [.inr (10, [.ref 1, .int k, .int u, .null, .int p]), .inr (11, [.ref 2]), z_ia 7 (z_bp c 0)])) 0 [(0, _), (1, _)] [] _ 0 0
  refine j_aload_n dX7_init_0 rfl rfl ?_
  refine j_objI dX7_init_1 oX7_3 z_oi1 z_oi2 (Nat.le_of_ble_eq_true rfl) (Nat.le_of_ble_eq_true rfl) ?_
  refine j_aload_n dX7_init_4 rfl rfl ?_
  refine j_aload_n dX7_init_5 rfl rfl ?_
  refine j_putF (w' := ([.inr (10, [_, _, _, _, _]), .inr (11, [_]), z_ia 7 _], z_no)) dX7_init_6 fX7_9_X5 tX5_0 rfl (z_dc rfl rfl (z_w 254 ((lwt_1_6 29).trans rfl) (by decide +kernel))) rfl (Or.inl ⟨_, rfl⟩) rfl ?_
  refine j_aload_n dX7_init_9 rfl rfl ?_
  refine j_iconst (v := 0) dX7_init_10 (by decide) ?_
  refine j_callV (q := (RX6, TX6, 1)) dX7_init_11 kX6_add lX7_15 inX6_add seX6_add rfl rfl (z_frame [1, 2] rfl (by decide) (Nat.le_of_ble_eq_true rfl) (c_X6_add_e hl _ 0 (by decide))) (Nat.le_of_ble_eq_true rfl) ⟨(Nat.le_of_ble_eq_true rfl), (Nat.le_of_ble_eq_true rfl)⟩ rfl (Nat.le_of_ble_eq_true rfl) rfl rfl (fun _ _ h => h.elim) ?_
  rintro _ _ ⟨_, _, ⟨rfl, rfl⟩, rfl, rfl⟩
  refine j_ws (L' := [.inr (10, [_, _, _, _, _]), .inr (11, [_]), z_ia 7 _]) (by decide) rfl rfl ?_
  refine j_vret dX7_init_14 rfl ?_ (Nat.le_of_ble_eq_true rfl) (Nat.le_of_ble_eq_true rfl)
  exact ⟨rfl, rfl, rfl, rfl⟩
set_option maxRecDepth 100000 in
set_option maxHeartbeats 8000000 in
theorem c_X2_init_e (hl : l.stackTraces = false) (m : Int32) (x : Bool) (f c : Nat → Int32)  : z_CF G l mX2_init 13 0 0 [.inr (7, [.null, .int 0, .int 0, .null, .int 0]), .inr (6, [.ref 2, .ref 3, .int m, .int (z_bi x)]), z_ia 12 f, .inr (11, [.ref 4]), z_ia 7 c] [.ref 0, .ref 1] (fun v L => v = none ∧ L = [.inr (7, [.ref 3, .int 0, .int 0, .ref 1, .int 0]), .inr (6, [.ref 2, .ref 3, .int m, .int (z_bi x)]), z_ia 12 f, .inr (11, [.ref 4]), z_ia 7 (z_bp c 0)]) := by
  refine z_body hl (by decide) rfl (Nat.le_of_ble_eq_true rfl) ?_
  show z_J G l mX2_init (z_SF 13 0 0 [.inr (7, [.null, .int 0, .int 0, .null, .int 0]), .inr (6, [.ref 2, .ref 3, .int m, .int (z_bi x)]), z_ia 12 f, .inr (11, [.ref 4]), z_ia 7 c] (fun v L => v = none ∧ L = [.inr (7, [.ref 3, .int 0, .int 0, .ref 1, .int 0]), .inr (6, [.ref 2, .ref 3, .int m, .int (z_bi x)]), z_ia 12 f, .inr (11, [.ref 4]), z_ia 7 (z_bp c 0)])) 0 [(0, _), (1, _)] [] _ 0 0
  refine j_aload_n dX2_init_0 rfl rfl ?_
  refine j_aload_n dX2_init_1 rfl rfl ?_
  refine j_getf dX2_init_2 fX2_3 rfl rfl ?_
  refine j_callI dX2_init_5 kX7_init rfl lX2_9 inX7_init rfl (z_frame [0, 3, 4] rfl (by decide) (Nat.le_of_ble_eq_true rfl) (c_X7_init_X2_e hl _ _ _ _)) (Nat.le_of_ble_eq_true rfl) ⟨(Nat.le_of_ble_eq_true rfl), (Nat.le_of_ble_eq_true rfl)⟩ rfl (Nat.le_of_ble_eq_true rfl) rfl rfl (fun _ _ h => h.elim) ?_
  rintro _ _ ⟨_, _, ⟨rfl, rfl⟩, rfl, rfl⟩
  refine j_ws (L' := [.inr (7, [_, _, _, _, _]), .inr (6, [_, _, _, _]), z_ia 12 _, .inr (11, [_]), z_ia 7 _]) (by decide) rfl rfl ?_
  refine j_aload_n dX2_init_8 rfl rfl ?_
  refine j_aload_n dX2_init_9 rfl rfl ?_
  refine j_putF (w' := ([.inr (7, [_, _, _, _, _]), .inr (6, [_, _, _, _]), z_ia 12 _, .inr (11, [_]), z_ia 7 _], z_no)) dX2_init_10 fX2_15 tX2_3 rfl (z_dc rfl rfl (z_w 252 ((lwt_1_6 27).trans rfl) (by decide +kernel))) rfl (Or.inl ⟨_, rfl⟩) rfl ?_
  refine j_vret dX2_init_13 rfl ?_ (Nat.le_of_ble_eq_true rfl) (Nat.le_of_ble_eq_true rfl)
  exact ⟨rfl, rfl, rfl, rfl⟩
set_option maxRecDepth 100000 in
set_option maxHeartbeats 8000000 in
theorem c_X8_passBy_X2_e (hl : l.stackTraces = false) (k u : Int32) (x : Bool) (f c : Nat → Int32) (B : List Int32) (M a : Nat) (hr : z_row 12 (nI M) f B) (hM : M = B.length) (hja : a ≤ B.length) : z_CF G l mX8_passBy 15 0 0 [.inr (7, [.ref 3, .int k, .int u, .ref 1, .int (nI 0)]), .inr (6, [.ref 2, .ref 3, .int (nI M), .int (z_bi x)]), z_ia 12 f, .inr (11, [.ref 4]), z_ia 7 c] [.ref 0, .int (nI a)] (fun v L => v = none ∧ ∃ u' : Int32, L = [.inr (7, [.ref 3, .int k, .int u', .ref 1, .int (nI a)]), .inr (6, [.ref 2, .ref 3, .int (nI M), .int (z_bi x)]), z_ia 12 f, .inr (11, [.ref 4]), z_ia 7 (sp_bps c 2 a)]) := by
  refine z_body hl (by decide) rfl (Nat.le_of_ble_eq_true rfl) ?_
  show z_J G l mX8_passBy (z_SF 15 0 0 [.inr (7, [.ref 3, .int k, .int u, .ref 1, .int (nI 0)]), .inr (6, [.ref 2, .ref 3, .int (nI M), .int (z_bi x)]), z_ia 12 f, .inr (11, [.ref 4]), z_ia 7 c] (fun v L => v = none ∧ ∃ u' : Int32, L = [.inr (7, [.ref 3, .int k, .int u', .ref 1, .int (nI a)]), .inr (6, [.ref 2, .ref 3, .int (nI M), .int (z_bi x)]), z_ia 12 f, .inr (11, [.ref 4]), z_ia 7 (sp_bps c 2 a)])) 0 [(0, _), (1, _)] [] _ 0 0
  have hln := hr.2.1
  refine j_iconst (v := 0) dX8_passBy_0 (by decide) ?_
  refine j_istore_n (lo' := [(2, _), (0, _), (1, _)]) dX8_passBy_1 (by decide) rfl ?_
  have loop : ∀ (n9 : Nat) (u' : Int32) (i : Nat), (i ≤ a) → (a < i + n9) → z_J G l mX8_passBy (z_SF 15 0 0 [.inr (7, [.ref 3, .int k, .int u, .ref 1, .int (nI 0)]), .inr (6, [.ref 2, .ref 3, .int (nI M), .int (z_bi x)]), z_ia 12 f, .inr (11, [.ref 4]), z_ia 7 c] (fun v L => v = none ∧ ∃ u' : Int32, L = [.inr (7, [.ref 3, .int k, .int u', .ref 1, .int (nI a)]), .inr (6, [.ref 2, .ref 3, .int (nI M), .int (z_bi x)]), z_ia 12 f, .inr (11, [.ref 4]), z_ia 7 (sp_bps c 2 a)])) 2 [(0, .ref 0), (1, .int (nI a)), (2, .int (nI i))] [] ([.inr (7, [.ref 3, .int k, .int u', .ref 1, .int (nI i)]), .inr (6, [.ref 2, .ref 3, .int (nI M), .int (z_bi x)]), z_ia 12 f, .inr (11, [.ref 4]), z_ia 7 (sp_bps c 2 i)], z_no) 0 0 := by
    intro n9
    induction n9 with
    | zero => intro u' i hi hf9; exact absurd hf9 (by omega)
    | succ n9 ih =>
      intro u' i hi hf9
      refine j_iload_n dX8_passBy_2 rfl ?_
      refine j_iload_n dX8_passBy_3 rfl ?_
      refine j_icmp_ge (tgt := 18) dX8_passBy_4 (by decide) (fun c_4 => ?_) (fun c_4 => ?_)
      · have hb4 : a ≤ i := (nI_leI (a := a) (b := i) (by omega) (by omega)).mp c_4
        have hia : i = a := by omega
        subst hia
        refine j_vret dX8_passBy_18 rfl ?_ (Nat.le_of_ble_eq_true rfl) (Nat.le_of_ble_eq_true rfl)
        exact ⟨rfl, rfl, rfl, _, rfl⟩
      · have hb4 : i < a := Nat.not_le.mp (fun z => c_4 ((nI_leI (a := a) (b := i) (by omega) (by omega)).mpr z))
        refine j_aload_n dX8_passBy_7 rfl rfl ?_
        refine j_callU (q := (RX2, TX2, 5)) dX8_passBy_8 kX7_give cuX8_315_X2 rfl rfl (z_frame [0, 1, 2, 3, 4] rfl (by decide) (Nat.le_of_ble_eq_true rfl) (c_X7_give_X2_e hl _ _ i _ _ _ B M hr hM (by omega))) (Nat.le_of_ble_eq_true rfl) ⟨(Nat.le_of_ble_eq_true rfl), (Nat.le_of_ble_eq_true rfl)⟩ rfl (Nat.le_of_ble_eq_true rfl) rfl rfl (fun _ _ h => h.elim) ?_
        rintro _ _ ⟨_, _, ⟨rfl, rfl⟩, rfl, rfl⟩
        refine j_ws (L' := [.inr (7, [_, _, _, _, _]), .inr (6, [_, _, _, _]), z_ia 12 _, .inr (11, [_]), z_ia 7 _]) (by decide) rfl rfl ?_
        refine j_pop dX8_passBy_11 rfl ?_
        refine j_iinc (lo' := [(2, _), (0, _), (1, _)]) dX8_passBy_12 rfl (z_inc _) (by decide) rfl ?_
        refine j_goto (tgt := 2) dX8_passBy_15 (by decide) ?_
        exact j_lo2 (ih _ (i + 1) (by omega) (by omega)) (z_q1 rfl (z_q1 rfl (z_q1 rfl z_q0)))
  exact j_lo2 (loop (a + 1) _ 0 (by omega) (by omega)) (z_q1 rfl (z_q1 rfl (z_q1 rfl z_q0)))
set_option maxRecDepth 100000 in
set_option maxHeartbeats 8000000 in
theorem c_X8_hearOut_X2_e (hl : l.stackTraces = false) (k u : Int32) (j : Nat) (x : Bool) (f c : Nat → Int32) (B : List Int32) (M : Nat) (h : sp_H) (ef : Nat → Int32) (hr : z_row 12 (nI M) f B) (hM : M = B.length) (hj : j ≤ B.length) (he : z_row 10 (nI h.2.length) ef h.2) : z_CF G l mX8_hearOut 15 0 0 [.inr (7, [.ref 3, .int k, .int u, .ref 1, .int (nI j)]), .inr (6, [.ref 2, .ref 3, .int (nI M), .int (z_bi x)]), z_ia 12 f, .inr (11, [.ref 4]), z_ia 7 c, .inr (5, [.ref 6, .int (nI h.2.length), .int h.1.2.1, .int h.1.2.2.1, .int h.1.2.2.2, .int h.1.1]), z_ia 10 ef] [.ref 0, .ref 5] (fun v L => v = some (.int (((sp_ho c h 0 (B.drop j)).1.map nI).getD (-1001))) ∧ ∃ (u' : Int32) (p' : Int32) (ef' : Nat → Int32), z_row 10 (nI (sp_ho c h 0 (B.drop j)).2.2.2.length) ef' (sp_ho c h 0 (B.drop j)).2.2.2 ∧ L = [.inr (7, [.ref 3, .int k, .int u', .ref 1, .int p']), .inr (6, [.ref 2, .ref 3, .int (nI M), .int (z_bi x)]), z_ia 12 f, .inr (11, [.ref 4]), z_ia 7 (sp_ho c h 0 (B.drop j)).2.1, .inr (5, [.ref 6, .int (nI (sp_ho c h 0 (B.drop j)).2.2.2.length), .int (sp_ho c h 0 (B.drop j)).2.2.1.2.1, .int (sp_ho c h 0 (B.drop j)).2.2.1.2.2.1, .int (sp_ho c h 0 (B.drop j)).2.2.1.2.2.2, .int (sp_ho c h 0 (B.drop j)).2.2.1.1]), z_ia 10 ef']) := by
  refine z_body hl (by decide) rfl (Nat.le_of_ble_eq_true rfl) ?_
  show z_J G l mX8_hearOut (z_SF 15 0 0 [.inr (7, [.ref 3, .int k, .int u, .ref 1, .int (nI j)]), .inr (6, [.ref 2, .ref 3, .int (nI M), .int (z_bi x)]), z_ia 12 f, .inr (11, [.ref 4]), z_ia 7 c, .inr (5, [.ref 6, .int (nI h.2.length), .int h.1.2.1, .int h.1.2.2.1, .int h.1.2.2.2, .int h.1.1]), z_ia 10 ef] (fun v L => v = some (.int (((sp_ho c h 0 (B.drop j)).1.map nI).getD (-1001))) ∧ ∃ (u' : Int32) (p' : Int32) (ef' : Nat → Int32), z_row 10 (nI (sp_ho c h 0 (B.drop j)).2.2.2.length) ef' (sp_ho c h 0 (B.drop j)).2.2.2 ∧ L = [.inr (7, [.ref 3, .int k, .int u', .ref 1, .int p']), .inr (6, [.ref 2, .ref 3, .int (nI M), .int (z_bi x)]), z_ia 12 f, .inr (11, [.ref 4]), z_ia 7 (sp_ho c h 0 (B.drop j)).2.1, .inr (5, [.ref 6, .int (nI (sp_ho c h 0 (B.drop j)).2.2.2.length), .int (sp_ho c h 0 (B.drop j)).2.2.1.2.1, .int (sp_ho c h 0 (B.drop j)).2.2.1.2.2.1, .int (sp_ho c h 0 (B.drop j)).2.2.1.2.2.2, .int (sp_ho c h 0 (B.drop j)).2.2.1.1]), z_ia 10 ef'])) 0 [(0, _), (1, _)] [] _ 0 0
  have hln := hr.2.1
  refine j_iconst (v := 0) dX8_hearOut_0 (by decide) ?_
  refine j_istore_n (lo' := [(2, _), (0, _), (1, _)]) dX8_hearOut_1 (by decide) rfl ?_
  refine j_iconst (v := 0) dX8_hearOut_2 (by decide) ?_
  refine j_istore_n (lo' := [(3, _), (2, _), (0, _), (1, _)]) dX8_hearOut_3 (by decide) rfl ?_
  have loop : ∀ (n9 : Nat) (h1 : sp_H) (c1 ef1 : Nat → Int32) (m s1 : Nat) (u1 : Int32) (j1 : Nat), (j1 ≤ B.length) → (s1 ≤ j1) → (m ≤ j1) → (B.length < j1 + n9) → (z_row 10 (nI h1.2.length) ef1 h1.2) → (sp_ho c1 h1 m (B.drop j1) = (sp_ho c h 0 (B.drop j))) → z_J G l mX8_hearOut (z_SF 15 0 0 [.inr (7, [.ref 3, .int k, .int u, .ref 1, .int (nI j)]), .inr (6, [.ref 2, .ref 3, .int (nI M), .int (z_bi x)]), z_ia 12 f, .inr (11, [.ref 4]), z_ia 7 c, .inr (5, [.ref 6, .int (nI h.2.length), .int h.1.2.1, .int h.1.2.2.1, .int h.1.2.2.2, .int h.1.1]), z_ia 10 ef] (fun v L => v = some (.int (((sp_ho c h 0 (B.drop j)).1.map nI).getD (-1001))) ∧ ∃ (u' : Int32) (p' : Int32) (ef' : Nat → Int32), z_row 10 (nI (sp_ho c h 0 (B.drop j)).2.2.2.length) ef' (sp_ho c h 0 (B.drop j)).2.2.2 ∧ L = [.inr (7, [.ref 3, .int k, .int u', .ref 1, .int p']), .inr (6, [.ref 2, .ref 3, .int (nI M), .int (z_bi x)]), z_ia 12 f, .inr (11, [.ref 4]), z_ia 7 (sp_ho c h 0 (B.drop j)).2.1, .inr (5, [.ref 6, .int (nI (sp_ho c h 0 (B.drop j)).2.2.2.length), .int (sp_ho c h 0 (B.drop j)).2.2.1.2.1, .int (sp_ho c h 0 (B.drop j)).2.2.1.2.2.1, .int (sp_ho c h 0 (B.drop j)).2.2.1.2.2.2, .int (sp_ho c h 0 (B.drop j)).2.2.1.1]), z_ia 10 ef'])) 4 [(0, .ref 0), (1, .ref 5), (2, .int (nI m)), (3, .int (nI s1))] [] ([.inr (7, [.ref 3, .int k, .int u1, .ref 1, .int (nI j1)]), .inr (6, [.ref 2, .ref 3, .int (nI M), .int (z_bi x)]), z_ia 12 f, .inr (11, [.ref 4]), z_ia 7 c1, .inr (5, [.ref 6, .int (nI h1.2.length), .int h1.1.2.1, .int h1.1.2.2.1, .int h1.1.2.2.2, .int h1.1.1]), z_ia 10 ef1], z_no) 0 0 := by
    intro n9
    induction n9 with
    | zero => intro h1 c1 ef1 m s1 u1 j1 hj1 hs1 hm hf9 he1 ho; exact absurd hf9 (by omega)
    | succ n9 ih =>
      intro h1 c1 ef1 m s1 u1 j1 hj1 hs1 hm hf9 he1 ho
      refine j_iload_n dX8_hearOut_4 rfl ?_
      refine j_sipush (v := 1000) dX8_hearOut_5 (by decide) ?_
      refine j_icmp_ge (tgt := 42) dX8_hearOut_8 (by decide) (fun c_8 => ?_) (fun c_8 => ?_)
      · have hb8 : 1000 ≤ s1 := (nI_leI (a := 1000) (b := s1) (by omega) (by omega)).mp c_8
        exact absurd hb8 (by omega)
      · have hb8 : s1 < 1000 := Nat.not_le.mp (fun z => c_8 ((nI_leI (a := 1000) (b := s1) (by omega) (by omega)).mpr z))
        refine j_aload_n dX8_hearOut_11 rfl rfl ?_
        refine j_callU (q := (RX2, TX2, 5)) dX8_hearOut_12 kX7_ask cuX8_320_X2 rfl rfl (z_frame [0, 1, 2, 3, 4] rfl (by decide) (Nat.le_of_ble_eq_true rfl) (c_X7_ask_X2_e hl _ _ j1 _ _ _ B M hr hM (by omega))) (Nat.le_of_ble_eq_true rfl) ⟨(Nat.le_of_ble_eq_true rfl), (Nat.le_of_ble_eq_true rfl)⟩ rfl (Nat.le_of_ble_eq_true rfl) rfl rfl (fun _ _ h => h.elim) ?_
        rintro _ _ ⟨_, _, ⟨rfl, rfl⟩, rfl, rfl⟩
        refine j_ws (L' := [.inr (7, [_, _, _, _, _]), .inr (6, [_, _, _, _]), z_ia 12 _, .inr (11, [_]), z_ia 7 _, .inr (5, [_, _, _, _, _, _]), z_ia 10 _]) (by decide) rfl rfl ?_
        refine j_if_eq (tgt := 42) dX8_hearOut_15 (by decide) (fun c_15 => ?_) (fun c_15 => ?_)
        · have hb15 := z_bF c_15
          have hnil : B.drop j1 = [] := sp_drop_nil (by have := of_decide_eq_false hb15; omega)
          rw [hnil] at ho
          refine j_iload_n dX8_hearOut_42 rfl ?_
          refine j_iret dX8_hearOut_43 rfl rfl ?_ (Nat.le_of_ble_eq_true rfl) (Nat.le_of_ble_eq_true rfl)
          exact ⟨rfl, rfl, (by rw [← ho]; rfl), _, _, _, (by rw [← ho]; exact he1), (by rw [← ho]; rfl)⟩
        · have hb15 := z_bt c_15
          have hjl : j1 < B.length := by have := of_decide_eq_true hb15; omega
          rw [hr.drop hjl] at ho
          refine j_aload_n dX8_hearOut_18 rfl rfl ?_
          refine j_aload_n dX8_hearOut_19 rfl rfl ?_
          refine j_callU (q := (RX2, TX2, 5)) dX8_hearOut_20 kX7_give cuX8_315_X2 rfl rfl (z_frame [0, 1, 2, 3, 4] rfl (by decide) (Nat.le_of_ble_eq_true rfl) (c_X7_give_X2_e hl _ _ j1 _ _ _ B M hr hM hjl)) (Nat.le_of_ble_eq_true rfl) ⟨(Nat.le_of_ble_eq_true rfl), (Nat.le_of_ble_eq_true rfl)⟩ rfl (Nat.le_of_ble_eq_true rfl) rfl rfl (fun _ _ h => h.elim) ?_
          rintro _ _ ⟨_, _, ⟨rfl, rfl⟩, rfl, rfl⟩
          refine j_ws (L' := [.inr (7, [_, _, _, _, _]), .inr (6, [_, _, _, _]), z_ia 12 _, .inr (11, [_]), z_ia 7 _, .inr (5, [_, _, _, _, _, _]), z_ia 10 _]) (by decide) rfl rfl ?_
          refine j_callV (q := (RX0, TX0, 6)) dX8_hearOut_23 kX0_takesIn lX8_323 inX0_takesIn seX0_takesIn rfl rfl (z_frame [5, 6] rfl (by decide) (Nat.le_of_ble_eq_true rfl) (c_X0_takesIn_e hl h1 _ (f j1) he1)) (Nat.le_of_ble_eq_true rfl) ⟨(Nat.le_of_ble_eq_true rfl), (Nat.le_of_ble_eq_true rfl)⟩ rfl (Nat.le_of_ble_eq_true rfl) rfl rfl (fun _ _ h => h.elim) ?_
          rintro _ _ ⟨_, _, ⟨rfl, ef2, hf9e, rfl⟩, rfl, rfl⟩
          refine j_ws (L' := [.inr (7, [_, _, _, _, _]), .inr (6, [_, _, _, _]), z_ia 12 _, .inr (11, [_]), z_ia 7 _, .inr (5, [_, _, _, _, _, _]), z_ia 10 _]) (by decide) rfl rfl ?_
          refine j_if_ne (tgt := 33) dX8_hearOut_26 (by decide) (fun c_26 => ?_) (fun c_26 => ?_)
          · have hb26 := z_bt c_26
            rw [sp_hoS2 hb26] at ho
            refine j_iinc (lo' := [(2, _), (0, _), (1, _), (3, _)]) dX8_hearOut_33 rfl (z_inc _) (by decide) rfl ?_
            refine j_iinc (lo' := [(3, _), (2, _), (0, _), (1, _)]) dX8_hearOut_36 rfl (z_inc _) (by decide) rfl ?_
            refine j_goto (tgt := 4) dX8_hearOut_39 (by decide) ?_
            exact j_lo2 (ih _ _ _ (m + 1) (s1 + 1) _ (j1 + 1) (by omega) (by omega) (by omega) (by omega) hf9e ho) (z_q1 rfl (z_q1 rfl (z_q1 rfl (z_q1 rfl z_q0))))
          · have hb26 := z_bF c_26
            rw [sp_hoN2 hb26] at ho
            refine j_sipush (v := (-1001)) dX8_hearOut_29 (by decide) ?_
            refine j_iret dX8_hearOut_32 rfl rfl ?_ (Nat.le_of_ble_eq_true rfl) (Nat.le_of_ble_eq_true rfl)
            exact ⟨rfl, rfl, (by rw [← ho]; rfl), _, _, _, (by rw [← ho]; exact hf9e), (by rw [← ho] <;> rfl)⟩
  exact j_lo2 (loop (B.length + 1) h c ef 0 0 u j (by omega) (by omega) (by omega) (by omega) he rfl) (z_q1 rfl (z_q1 rfl (z_q1 rfl (z_q1 rfl z_q0))))
set_option maxRecDepth 100000 in
set_option maxHeartbeats 8000000 in
theorem c_X8_changeEach_X2_t_e (hl : l.stackTraces = false) (u : Int32) (f c : Nat → Int32) (B : List Int32) (M : Nat) (r n : Int32) (hr : z_row 12 (nI M) f B) (hM : M = B.length) (hB : ∀ v ∈ B, z_vl v) (hr2n : ¬ r = 2) (hr3n : ¬ r = 3) (hn : z_vl n) : z_CF G l mX8_changeEach 15 0 0 [.inr (7, [.ref 3, .int 0, .int u, .ref 1, .int (nI 0)]), .inr (6, [.ref 2, .ref 3, .int (nI M), .int (z_bi true)]), z_ia 12 f, .inr (11, [.ref 4]), z_ia 7 c] [.ref 0, .int r, .int n] (fun v L => v = some (.int (z_bi (sp_ra true r n c [] B).1)) ∧ ∃ (u' p' : Int32) (f' : Nat → Int32), z_row 12 (nI (sp_ra true r n c [] B).2.2.length) f' (sp_ra true r n c [] B).2.2 ∧ L = [.inr (7, [.ref 3, .int 0, .int u', .ref 1, .int p']), .inr (6, [.ref 2, .ref 3, .int (nI (sp_ra true r n c [] B).2.2.length), .int (z_bi true)]), z_ia 12 f', .inr (11, [.ref 4]), z_ia 7 (sp_ra true r n c [] B).2.1]) := by
  refine z_body hl (by decide) rfl (Nat.le_of_ble_eq_true rfl) ?_
  show z_J G l mX8_changeEach (z_SF 15 0 0 [.inr (7, [.ref 3, .int 0, .int u, .ref 1, .int (nI 0)]), .inr (6, [.ref 2, .ref 3, .int (nI M), .int (z_bi true)]), z_ia 12 f, .inr (11, [.ref 4]), z_ia 7 c] (fun v L => v = some (.int (z_bi (sp_ra true r n c [] B).1)) ∧ ∃ (u' p' : Int32) (f' : Nat → Int32), z_row 12 (nI (sp_ra true r n c [] B).2.2.length) f' (sp_ra true r n c [] B).2.2 ∧ L = [.inr (7, [.ref 3, .int 0, .int u', .ref 1, .int p']), .inr (6, [.ref 2, .ref 3, .int (nI (sp_ra true r n c [] B).2.2.length), .int (z_bi true)]), z_ia 12 f', .inr (11, [.ref 4]), z_ia 7 (sp_ra true r n c [] B).2.1])) 0 [(0, _), (1, _), (2, _)] [] _ 0 0
  have hln := hr.2.1
  refine j_iconst (v := 0) dX8_changeEach_0 (by decide) ?_
  refine j_istore_n (lo' := [(3, _), (0, _), (1, _), (2, _)]) dX8_changeEach_1 (by decide) rfl ?_
  have loop : ∀ (n9 : Nat) (f1 c1 : Nat → Int32) (u1 : Int32) (A D : List Int32) (q1 s1 : Nat), (z_row 12 (nI M) f1 (A ++ D)) → (M = (A ++ D).length) → (sp_ra true r n c1 A D = (sp_ra true r n c [] B)) → (∀ v ∈ A ++ D, z_vl v) → (q1 = A.length) → (s1 = A.length) → (D.length < n9) → z_J G l mX8_changeEach (z_SF 15 0 0 [.inr (7, [.ref 3, .int 0, .int u, .ref 1, .int (nI 0)]), .inr (6, [.ref 2, .ref 3, .int (nI M), .int (z_bi true)]), z_ia 12 f, .inr (11, [.ref 4]), z_ia 7 c] (fun v L => v = some (.int (z_bi (sp_ra true r n c [] B).1)) ∧ ∃ (u' p' : Int32) (f' : Nat → Int32), z_row 12 (nI (sp_ra true r n c [] B).2.2.length) f' (sp_ra true r n c [] B).2.2 ∧ L = [.inr (7, [.ref 3, .int 0, .int u', .ref 1, .int p']), .inr (6, [.ref 2, .ref 3, .int (nI (sp_ra true r n c [] B).2.2.length), .int (z_bi true)]), z_ia 12 f', .inr (11, [.ref 4]), z_ia 7 (sp_ra true r n c [] B).2.1])) 2 [(0, .ref 0), (1, .int r), (2, .int n), (3, .int (nI s1))] [] ([.inr (7, [.ref 3, .int 0, .int u1, .ref 1, .int (nI q1)]), .inr (6, [.ref 2, .ref 3, .int (nI M), .int (z_bi true)]), z_ia 12 f1, .inr (11, [.ref 4]), z_ia 7 c1], z_no) 0 0 := by
    intro n9
    induction n9 with
    | zero => intro f1 c1 u1 A D q1 s1 hr1 hBl ho hvs hq1 hs1 hf9; exact absurd hf9 (by omega)
    | succ n9 ih =>
      intro f1 c1 u1 A D q1 s1 hr1 hBl ho hvs hq1 hs1 hf9
      have hAD : (A ++ D).length = A.length + D.length := List.length_append
      have h12 := hr1.2.1
      refine j_iload_n dX8_changeEach_2 rfl ?_
      refine j_sipush (v := 1000) dX8_changeEach_3 (by decide) ?_
      refine j_icmp_ge (tgt := 61) dX8_changeEach_6 (by decide) (fun c_6 => ?_) (fun c_6 => ?_)
      · have hb6 : 1000 ≤ s1 := (nI_leI (a := 1000) (b := s1) (by omega) (by omega)).mp c_6
        exact absurd hb6 (by have := hr1.2.1; rw [List.length_append] at this; omega)
      · have hb6 : s1 < 1000 := Nat.not_le.mp (fun z => c_6 ((nI_leI (a := 1000) (b := s1) (by omega) (by omega)).mpr z))
        refine j_aload_n dX8_changeEach_9 rfl rfl ?_
        refine j_callU (q := (RX2, TX2, 5)) dX8_changeEach_10 kX7_ask cuX8_320_X2 rfl rfl (z_frame [0, 1, 2, 3, 4] rfl (by decide) (Nat.le_of_ble_eq_true rfl) (c_X7_ask_X2_e hl _ _ q1 _ _ _ (A ++ D) M hr1 hBl (by have := hr1.2.1; rw [List.length_append] at this; omega))) (Nat.le_of_ble_eq_true rfl) ⟨(Nat.le_of_ble_eq_true rfl), (Nat.le_of_ble_eq_true rfl)⟩ rfl (Nat.le_of_ble_eq_true rfl) rfl rfl (fun _ _ h => h.elim) ?_
        rintro _ _ ⟨_, _, ⟨rfl, rfl⟩, rfl, rfl⟩
        refine j_ws (L' := [.inr (7, [_, _, _, _, _]), .inr (6, [_, _, _, _]), z_ia 12 _, .inr (11, [_]), z_ia 7 _]) (by decide) rfl rfl ?_
        refine j_if_eq (tgt := 61) dX8_changeEach_13 (by decide) (fun c_13 => ?_) (fun c_13 => ?_)
        · have hb13 := z_bF c_13
          have hD := sp_cut (A := A) (D := D) (by have := of_decide_eq_false hb13; omega)
          subst hD
          rw [List.append_nil] at hr1 hBl
          refine j_iconst (v := 1) dX8_changeEach_61 (by decide) ?_
          refine j_iret dX8_changeEach_62 rfl rfl ?_ (Nat.le_of_ble_eq_true rfl) (Nat.le_of_ble_eq_true rfl)
          exact ⟨rfl, rfl, (by rw [← ho]; rfl), _, _, _, (by rw [← ho]; show z_row 12 (nI A.length) _ _; rw [← hBl]; exact hr1), (by rw [← ho, hBl]; rfl)⟩
        · have hb13 := z_bt c_13
          obtain ⟨v1, D1, hD⟩ := sp_cons (A := A) (D := D) (by have := of_decide_eq_true hb13; omega)
          subst hD
          have hv1 : z_vl v1 := hvs v1 (List.mem_append_right _ List.mem_cons_self)
          have hfv : f1 q1 = v1 := by rw [hq1]; exact hr1.mid
          have hlm := sp_lmid (A := A) (D := D1) (v := v1)
          rw [List.length_cons] at hf9
          refine j_aload_n dX8_changeEach_16 rfl rfl ?_
          refine j_callU (q := (RX2, TX2, 5)) dX8_changeEach_17 kX7_give cuX8_315_X2 rfl rfl (z_frame [0, 1, 2, 3, 4] rfl (by decide) (Nat.le_of_ble_eq_true rfl) (c_X7_give_X2_e hl _ _ q1 _ _ _ (A ++ v1 :: D1) M hr1 hBl (by omega))) (Nat.le_of_ble_eq_true rfl) ⟨(Nat.le_of_ble_eq_true rfl), (Nat.le_of_ble_eq_true rfl)⟩ rfl (Nat.le_of_ble_eq_true rfl) rfl rfl (fun _ _ h => h.elim) ?_
          rintro _ _ ⟨_, _, ⟨rfl, rfl⟩, rfl, rfl⟩
          refine j_ws (L' := [.inr (7, [_, _, _, _, _]), .inr (6, [_, _, _, _]), z_ia 12 _, .inr (11, [_]), z_ia 7 _]) (by decide) rfl rfl ?_
          refine j_pop dX8_changeEach_20 rfl ?_
          refine j_iload_n dX8_changeEach_21 rfl ?_
          refine j_aload_n dX8_changeEach_22 rfl rfl ?_
          refine j_getf dX8_changeEach_23 fX8_326_X2 rfl rfl ?_
          refine j_aload_n dX8_changeEach_26 rfl rfl ?_
          refine j_getf dX8_changeEach_27 fX8_329_X2 rfl rfl ?_
          refine j_iload_n dX8_changeEach_30 rfl ?_
          rw [hfv]
          refine j_callS dX8_changeEach_31 kX8_ruleTells lX8_237 stX8_ruleTells (c_X8_ruleTells_e hl _ _ _ _ _) (Nat.le_of_ble_eq_true rfl) ⟨(Nat.le_of_ble_eq_true rfl), (Nat.le_of_ble_eq_true rfl)⟩ rfl (Nat.le_of_ble_eq_true rfl) rfl rfl (fun _ _ h => h.elim) ?_
          rintro _ _ ⟨rfl, rfl⟩
          rw [q_dn (sp_vln hv1)]
          refine j_istore (lo' := [(4, _), (0, _), (1, _), (2, _), (3, _)]) dX8_changeEach_34 (by decide) rfl ?_
          refine j_iload dX8_changeEach_36 rfl ?_
          refine j_sipush (v := (-1001)) dX8_changeEach_38 (by decide) ?_
          refine j_icmp_eq (tgt := 53) dX8_changeEach_41 (by decide) (fun c_41 => ?_) (fun c_41 => ?_)
          · have hq0 := q_gn (m := -1001) (fun y hy => q_rtm hv1 hn hy) c_41
            rw [sp_raN hq0] at ho
            refine j_iconst (v := 0) dX8_changeEach_53 (by decide) ?_
            refine j_iret dX8_changeEach_54 rfl rfl ?_ (Nat.le_of_ble_eq_true rfl) (Nat.le_of_ble_eq_true rfl)
            exact ⟨rfl, rfl, (by rw [← ho]; rfl), _, _, _, (by rw [← ho]; show z_row 12 (nI (A ++ v1 :: D1).length) _ _; rw [← hBl]; exact hr1), (by rw [← ho, hBl] <;> rfl)⟩
          · have hq0 := q_gs (m := -1001) c_41
            refine j_aload_n dX8_changeEach_44 rfl rfl ?_
            refine j_iload dX8_changeEach_45 rfl ?_
            refine j_callU (q := (RX2, TX2, 5)) dX8_changeEach_47 kX2_putInPlace cuX8_332_X2 rfl rfl (z_frame [0, 1, 2, 3, 4] rfl (by decide) (Nat.le_of_ble_eq_true rfl) (c_X2_putInPlace_t_e hl _ _ _ _ _ _ _)) (Nat.le_of_ble_eq_true rfl) ⟨(Nat.le_of_ble_eq_true rfl), (Nat.le_of_ble_eq_true rfl)⟩ rfl (Nat.le_of_ble_eq_true rfl) rfl rfl (fun _ _ h => h.elim) ?_
            rintro _ _ ⟨_, _, ⟨rfl, rfl⟩, rfl, rfl⟩
            refine j_ws (L' := [.inr (7, [_, _, _, _, _]), .inr (6, [_, _, _, _]), z_ia 12 _, .inr (11, [_]), z_ia 7 _]) (by decide) rfl rfl ?_
            refine j_if_ne (tgt := 55) dX8_changeEach_50 (by decide) (fun c_50 => ?_) (fun c_50 => ?_)
            · have hb50 := z_bt c_50
              cases hb50
            · have hb50 := z_bF c_50
              rw [sp_raF hq0] at ho
              refine j_iconst (v := 0) dX8_changeEach_53 (by decide) ?_
              refine j_iret dX8_changeEach_54 rfl rfl ?_ (Nat.le_of_ble_eq_true rfl) (Nat.le_of_ble_eq_true rfl)
              exact ⟨rfl, rfl, (by rw [← ho]; rfl), _, _, _, (by rw [← ho]; show z_row 12 (nI (A ++ v1 :: D1).length) _ _; rw [← hBl]; exact hr1), (by rw [← ho, hBl] <;> rfl)⟩
  exact j_lo2 (loop (B.length + 1) f c u [] B 0 0 hr hM rfl hB rfl rfl (by omega)) (z_q1 rfl (z_q1 rfl (z_q1 rfl (z_q1 rfl z_q0))))
set_option maxRecDepth 100000 in
set_option maxHeartbeats 8000000 in
theorem c_X8_changeEach_X2_f_e (hl : l.stackTraces = false) (u : Int32) (f c : Nat → Int32) (B : List Int32) (M : Nat) (r n : Int32) (hr : z_row 12 (nI M) f B) (hM : M = B.length) (hB : ∀ v ∈ B, z_vl v) (hr2n : ¬ r = 2) (hr3n : ¬ r = 3) (hn : z_vl n) : z_CF G l mX8_changeEach 15 0 0 [.inr (7, [.ref 3, .int 0, .int u, .ref 1, .int (nI 0)]), .inr (6, [.ref 2, .ref 3, .int (nI M), .int (z_bi false)]), z_ia 12 f, .inr (11, [.ref 4]), z_ia 7 c] [.ref 0, .int r, .int n] (fun v L => v = some (.int (z_bi (sp_ra false r n c [] B).1)) ∧ ∃ (u' p' : Int32) (f' : Nat → Int32), z_row 12 (nI (sp_ra false r n c [] B).2.2.length) f' (sp_ra false r n c [] B).2.2 ∧ L = [.inr (7, [.ref 3, .int 0, .int u', .ref 1, .int p']), .inr (6, [.ref 2, .ref 3, .int (nI (sp_ra false r n c [] B).2.2.length), .int (z_bi false)]), z_ia 12 f', .inr (11, [.ref 4]), z_ia 7 (sp_ra false r n c [] B).2.1]) := by
  refine z_body hl (by decide) rfl (Nat.le_of_ble_eq_true rfl) ?_
  show z_J G l mX8_changeEach (z_SF 15 0 0 [.inr (7, [.ref 3, .int 0, .int u, .ref 1, .int (nI 0)]), .inr (6, [.ref 2, .ref 3, .int (nI M), .int (z_bi false)]), z_ia 12 f, .inr (11, [.ref 4]), z_ia 7 c] (fun v L => v = some (.int (z_bi (sp_ra false r n c [] B).1)) ∧ ∃ (u' p' : Int32) (f' : Nat → Int32), z_row 12 (nI (sp_ra false r n c [] B).2.2.length) f' (sp_ra false r n c [] B).2.2 ∧ L = [.inr (7, [.ref 3, .int 0, .int u', .ref 1, .int p']), .inr (6, [.ref 2, .ref 3, .int (nI (sp_ra false r n c [] B).2.2.length), .int (z_bi false)]), z_ia 12 f', .inr (11, [.ref 4]), z_ia 7 (sp_ra false r n c [] B).2.1])) 0 [(0, _), (1, _), (2, _)] [] _ 0 0
  have hln := hr.2.1
  refine j_iconst (v := 0) dX8_changeEach_0 (by decide) ?_
  refine j_istore_n (lo' := [(3, _), (0, _), (1, _), (2, _)]) dX8_changeEach_1 (by decide) rfl ?_
  have loop : ∀ (n9 : Nat) (f1 c1 : Nat → Int32) (u1 : Int32) (A D : List Int32) (q1 s1 : Nat), (z_row 12 (nI M) f1 (A ++ D)) → (M = (A ++ D).length) → (sp_ra false r n c1 A D = (sp_ra false r n c [] B)) → (∀ v ∈ A ++ D, z_vl v) → (q1 = A.length) → (s1 = A.length) → (D.length < n9) → z_J G l mX8_changeEach (z_SF 15 0 0 [.inr (7, [.ref 3, .int 0, .int u, .ref 1, .int (nI 0)]), .inr (6, [.ref 2, .ref 3, .int (nI M), .int (z_bi false)]), z_ia 12 f, .inr (11, [.ref 4]), z_ia 7 c] (fun v L => v = some (.int (z_bi (sp_ra false r n c [] B).1)) ∧ ∃ (u' p' : Int32) (f' : Nat → Int32), z_row 12 (nI (sp_ra false r n c [] B).2.2.length) f' (sp_ra false r n c [] B).2.2 ∧ L = [.inr (7, [.ref 3, .int 0, .int u', .ref 1, .int p']), .inr (6, [.ref 2, .ref 3, .int (nI (sp_ra false r n c [] B).2.2.length), .int (z_bi false)]), z_ia 12 f', .inr (11, [.ref 4]), z_ia 7 (sp_ra false r n c [] B).2.1])) 2 [(0, .ref 0), (1, .int r), (2, .int n), (3, .int (nI s1))] [] ([.inr (7, [.ref 3, .int 0, .int u1, .ref 1, .int (nI q1)]), .inr (6, [.ref 2, .ref 3, .int (nI M), .int (z_bi false)]), z_ia 12 f1, .inr (11, [.ref 4]), z_ia 7 c1], z_no) 0 0 := by
    intro n9
    induction n9 with
    | zero => intro f1 c1 u1 A D q1 s1 hr1 hBl ho hvs hq1 hs1 hf9; exact absurd hf9 (by omega)
    | succ n9 ih =>
      intro f1 c1 u1 A D q1 s1 hr1 hBl ho hvs hq1 hs1 hf9
      have hAD : (A ++ D).length = A.length + D.length := List.length_append
      have h12 := hr1.2.1
      refine j_iload_n dX8_changeEach_2 rfl ?_
      refine j_sipush (v := 1000) dX8_changeEach_3 (by decide) ?_
      refine j_icmp_ge (tgt := 61) dX8_changeEach_6 (by decide) (fun c_6 => ?_) (fun c_6 => ?_)
      · have hb6 : 1000 ≤ s1 := (nI_leI (a := 1000) (b := s1) (by omega) (by omega)).mp c_6
        exact absurd hb6 (by have := hr1.2.1; rw [List.length_append] at this; omega)
      · have hb6 : s1 < 1000 := Nat.not_le.mp (fun z => c_6 ((nI_leI (a := 1000) (b := s1) (by omega) (by omega)).mpr z))
        refine j_aload_n dX8_changeEach_9 rfl rfl ?_
        refine j_callU (q := (RX2, TX2, 5)) dX8_changeEach_10 kX7_ask cuX8_320_X2 rfl rfl (z_frame [0, 1, 2, 3, 4] rfl (by decide) (Nat.le_of_ble_eq_true rfl) (c_X7_ask_X2_e hl _ _ q1 _ _ _ (A ++ D) M hr1 hBl (by have := hr1.2.1; rw [List.length_append] at this; omega))) (Nat.le_of_ble_eq_true rfl) ⟨(Nat.le_of_ble_eq_true rfl), (Nat.le_of_ble_eq_true rfl)⟩ rfl (Nat.le_of_ble_eq_true rfl) rfl rfl (fun _ _ h => h.elim) ?_
        rintro _ _ ⟨_, _, ⟨rfl, rfl⟩, rfl, rfl⟩
        refine j_ws (L' := [.inr (7, [_, _, _, _, _]), .inr (6, [_, _, _, _]), z_ia 12 _, .inr (11, [_]), z_ia 7 _]) (by decide) rfl rfl ?_
        refine j_if_eq (tgt := 61) dX8_changeEach_13 (by decide) (fun c_13 => ?_) (fun c_13 => ?_)
        · have hb13 := z_bF c_13
          have hD := sp_cut (A := A) (D := D) (by have := of_decide_eq_false hb13; omega)
          subst hD
          rw [List.append_nil] at hr1 hBl
          refine j_iconst (v := 1) dX8_changeEach_61 (by decide) ?_
          refine j_iret dX8_changeEach_62 rfl rfl ?_ (Nat.le_of_ble_eq_true rfl) (Nat.le_of_ble_eq_true rfl)
          exact ⟨rfl, rfl, (by rw [← ho]; rfl), _, _, _, (by rw [← ho]; show z_row 12 (nI A.length) _ _; rw [← hBl]; exact hr1), (by rw [← ho, hBl]; rfl)⟩
        · have hb13 := z_bt c_13
          obtain ⟨v1, D1, hD⟩ := sp_cons (A := A) (D := D) (by have := of_decide_eq_true hb13; omega)
          subst hD
          have hv1 : z_vl v1 := hvs v1 (List.mem_append_right _ List.mem_cons_self)
          have hfv : f1 q1 = v1 := by rw [hq1]; exact hr1.mid
          have hlm := sp_lmid (A := A) (D := D1) (v := v1)
          rw [List.length_cons] at hf9
          refine j_aload_n dX8_changeEach_16 rfl rfl ?_
          refine j_callU (q := (RX2, TX2, 5)) dX8_changeEach_17 kX7_give cuX8_315_X2 rfl rfl (z_frame [0, 1, 2, 3, 4] rfl (by decide) (Nat.le_of_ble_eq_true rfl) (c_X7_give_X2_e hl _ _ q1 _ _ _ (A ++ v1 :: D1) M hr1 hBl (by omega))) (Nat.le_of_ble_eq_true rfl) ⟨(Nat.le_of_ble_eq_true rfl), (Nat.le_of_ble_eq_true rfl)⟩ rfl (Nat.le_of_ble_eq_true rfl) rfl rfl (fun _ _ h => h.elim) ?_
          rintro _ _ ⟨_, _, ⟨rfl, rfl⟩, rfl, rfl⟩
          refine j_ws (L' := [.inr (7, [_, _, _, _, _]), .inr (6, [_, _, _, _]), z_ia 12 _, .inr (11, [_]), z_ia 7 _]) (by decide) rfl rfl ?_
          refine j_pop dX8_changeEach_20 rfl ?_
          refine j_iload_n dX8_changeEach_21 rfl ?_
          refine j_aload_n dX8_changeEach_22 rfl rfl ?_
          refine j_getf dX8_changeEach_23 fX8_326_X2 rfl rfl ?_
          refine j_aload_n dX8_changeEach_26 rfl rfl ?_
          refine j_getf dX8_changeEach_27 fX8_329_X2 rfl rfl ?_
          refine j_iload_n dX8_changeEach_30 rfl ?_
          rw [hfv]
          refine j_callS dX8_changeEach_31 kX8_ruleTells lX8_237 stX8_ruleTells (c_X8_ruleTells_e hl _ _ _ _ _) (Nat.le_of_ble_eq_true rfl) ⟨(Nat.le_of_ble_eq_true rfl), (Nat.le_of_ble_eq_true rfl)⟩ rfl (Nat.le_of_ble_eq_true rfl) rfl rfl (fun _ _ h => h.elim) ?_
          rintro _ _ ⟨rfl, rfl⟩
          rw [q_dn (sp_vln hv1)]
          refine j_istore (lo' := [(4, _), (0, _), (1, _), (2, _), (3, _)]) dX8_changeEach_34 (by decide) rfl ?_
          refine j_iload dX8_changeEach_36 rfl ?_
          refine j_sipush (v := (-1001)) dX8_changeEach_38 (by decide) ?_
          refine j_icmp_eq (tgt := 53) dX8_changeEach_41 (by decide) (fun c_41 => ?_) (fun c_41 => ?_)
          · have hq0 := q_gn (m := -1001) (fun y hy => q_rtm hv1 hn hy) c_41
            rw [sp_raN hq0] at ho
            refine j_iconst (v := 0) dX8_changeEach_53 (by decide) ?_
            refine j_iret dX8_changeEach_54 rfl rfl ?_ (Nat.le_of_ble_eq_true rfl) (Nat.le_of_ble_eq_true rfl)
            exact ⟨rfl, rfl, (by rw [← ho]; rfl), _, _, _, (by rw [← ho]; show z_row 12 (nI (A ++ v1 :: D1).length) _ _; rw [← hBl]; exact hr1), (by rw [← ho, hBl] <;> rfl)⟩
          · have hq0 := q_gs (m := -1001) c_41
            refine j_aload_n dX8_changeEach_44 rfl rfl ?_
            refine j_iload dX8_changeEach_45 rfl ?_
            refine j_callU (q := (RX2, TX2, 5)) dX8_changeEach_47 kX2_putInPlace cuX8_332_X2 rfl rfl (z_frame [0, 1, 2, 3, 4] rfl (by decide) (Nat.le_of_ble_eq_true rfl) (c_X2_putInPlace_f_e hl _ _ (q1 + 1) _ _ (A ++ v1 :: D1) M _ hr1 hBl (by omega) (by omega))) (Nat.le_of_ble_eq_true rfl) ⟨(Nat.le_of_ble_eq_true rfl), (Nat.le_of_ble_eq_true rfl)⟩ rfl (Nat.le_of_ble_eq_true rfl) rfl rfl (fun _ _ h => h.elim) ?_
            rintro _ _ ⟨_, _, ⟨rfl, rfl⟩, rfl, rfl⟩
            refine j_ws (L' := [.inr (7, [_, _, _, _, _]), .inr (6, [_, _, _, _]), z_ia 12 _, .inr (11, [_]), z_ia 7 _]) (by decide) rfl rfl ?_
            refine j_if_ne (tgt := 55) dX8_changeEach_50 (by decide) (fun c_50 => ?_) (fun c_50 => ?_)
            · have hb50 := z_bt c_50
              rw [sp_raT hq0] at ho
              have hyv := q_rt_v hr2n hr3n hv1 hn hq0
              refine j_iinc (lo' := [(3, _), (4, _), (0, _), (1, _), (2, _)]) dX8_changeEach_55 rfl (z_inc _) (by decide) rfl ?_
              refine j_goto (tgt := 2) dX8_changeEach_58 (by decide) ?_
              exact j_lo2 (ih _ _ _ (A ++ [((q_rt r 0 v1 n).getD (-1001))]) D1 (q1 + 1) (s1 + 1) (hr1.putM hBl (by omega)) (sp_midl hBl) ho (sp_all hvs hyv) (by rw [List.length_append, hq1]; rfl) (by rw [List.length_append, hs1]; rfl) (by omega)) (z_q1 rfl (z_q1 rfl (z_q1 rfl (z_q1 rfl z_q0))))
            · have hb50 := z_bF c_50
              cases hb50
  exact j_lo2 (loop (B.length + 1) f c u [] B 0 0 hr hM rfl hB rfl rfl (by omega)) (z_q1 rfl (z_q1 rfl (z_q1 rfl (z_q1 rfl z_q0))))
set_option maxRecDepth 100000 in
set_option maxHeartbeats 8000000 in
theorem c_X8_takeEach_t_e (hl : l.stackTraces = false) (k u : Int32) (f c : Nat → Int32) (B : List Int32) (M : Nat) (t n : Int32) (hr : z_row 12 (nI M) f B) (hM : M = B.length) : z_CF G l mX8_takeEach 15 0 0 [.inr (7, [.ref 3, .int k, .int u, .ref 1, .int (nI 0)]), .inr (6, [.ref 2, .ref 3, .int (nI M), .int (z_bi true)]), z_ia 12 f, .inr (11, [.ref 4]), z_ia 7 c] [.ref 0, .int t, .int n] (fun v L => v = some (.int (((sp_ri true t n c [] false B).1.map z_bi).getD (-1001))) ∧ ∃ (u' p' : Int32) (f' : Nat → Int32), z_row 12 (nI (sp_ri true t n c [] false B).2.2.length) f' (sp_ri true t n c [] false B).2.2 ∧ L = [.inr (7, [.ref 3, .int k, .int u', .ref 1, .int p']), .inr (6, [.ref 2, .ref 3, .int (nI (sp_ri true t n c [] false B).2.2.length), .int (z_bi true)]), z_ia 12 f', .inr (11, [.ref 4]), z_ia 7 (sp_ri true t n c [] false B).2.1]) := by
  refine z_body hl (by decide) rfl (Nat.le_of_ble_eq_true rfl) ?_
  show z_J G l mX8_takeEach (z_SF 15 0 0 [.inr (7, [.ref 3, .int k, .int u, .ref 1, .int (nI 0)]), .inr (6, [.ref 2, .ref 3, .int (nI M), .int (z_bi true)]), z_ia 12 f, .inr (11, [.ref 4]), z_ia 7 c] (fun v L => v = some (.int (((sp_ri true t n c [] false B).1.map z_bi).getD (-1001))) ∧ ∃ (u' p' : Int32) (f' : Nat → Int32), z_row 12 (nI (sp_ri true t n c [] false B).2.2.length) f' (sp_ri true t n c [] false B).2.2 ∧ L = [.inr (7, [.ref 3, .int k, .int u', .ref 1, .int p']), .inr (6, [.ref 2, .ref 3, .int (nI (sp_ri true t n c [] false B).2.2.length), .int (z_bi true)]), z_ia 12 f', .inr (11, [.ref 4]), z_ia 7 (sp_ri true t n c [] false B).2.1])) 0 [(0, _), (1, _), (2, _)] [] _ 0 0
  have hln := hr.2.1
  refine j_iconst (v := 0) dX8_takeEach_0 (by decide) ?_
  refine j_istore_n (lo' := [(3, _), (0, _), (1, _), (2, _)]) dX8_takeEach_1 (by decide) rfl ?_
  refine j_iconst (v := 0) dX8_takeEach_2 (by decide) ?_
  refine j_istore (lo' := [(4, _), (3, _), (0, _), (1, _), (2, _)]) dX8_takeEach_3 (by decide) rfl ?_
  have loop : ∀ (n9 : Nat) (f1 c1 : Nat → Int32) (u1 : Int32) (k1 : Bool) (A D : List Int32) (M1 q1 s1 : Nat), (z_row 12 (nI M1) f1 (A ++ D)) → (M1 = (A ++ D).length) → (sp_ri true t n c1 A k1 D = (sp_ri true t n c [] false B)) → (q1 = A.length) → (s1 + D.length ≤ 12) → (D.length < n9) → z_J G l mX8_takeEach (z_SF 15 0 0 [.inr (7, [.ref 3, .int k, .int u, .ref 1, .int (nI 0)]), .inr (6, [.ref 2, .ref 3, .int (nI M), .int (z_bi true)]), z_ia 12 f, .inr (11, [.ref 4]), z_ia 7 c] (fun v L => v = some (.int (((sp_ri true t n c [] false B).1.map z_bi).getD (-1001))) ∧ ∃ (u' p' : Int32) (f' : Nat → Int32), z_row 12 (nI (sp_ri true t n c [] false B).2.2.length) f' (sp_ri true t n c [] false B).2.2 ∧ L = [.inr (7, [.ref 3, .int k, .int u', .ref 1, .int p']), .inr (6, [.ref 2, .ref 3, .int (nI (sp_ri true t n c [] false B).2.2.length), .int (z_bi true)]), z_ia 12 f', .inr (11, [.ref 4]), z_ia 7 (sp_ri true t n c [] false B).2.1])) 5 [(0, .ref 0), (1, .int t), (2, .int n), (3, .int (z_bi k1)), (4, .int (nI s1))] [] ([.inr (7, [.ref 3, .int k, .int u1, .ref 1, .int (nI q1)]), .inr (6, [.ref 2, .ref 3, .int (nI M1), .int (z_bi true)]), z_ia 12 f1, .inr (11, [.ref 4]), z_ia 7 c1], z_no) 0 0 := by
    intro n9
    induction n9 with
    | zero => intro f1 c1 u1 k1 A D M1 q1 s1 hr1 hBl ho hq1 hs1 hf9; exact absurd hf9 (by omega)
    | succ n9 ih =>
      intro f1 c1 u1 k1 A D M1 q1 s1 hr1 hBl ho hq1 hs1 hf9
      refine j_iload dX8_takeEach_5 rfl ?_
      refine j_sipush (v := 1000) dX8_takeEach_7 (by decide) ?_
      refine j_icmp_ge (tgt := 70) dX8_takeEach_10 (by decide) (fun c_10 => ?_) (fun c_10 => ?_)
      · have hb10 : 1000 ≤ s1 := (nI_leI (a := 1000) (b := s1) (by omega) (by omega)).mp c_10
        exact absurd hb10 (by omega)
      · have hb10 : s1 < 1000 := Nat.not_le.mp (fun z => c_10 ((nI_leI (a := 1000) (b := s1) (by omega) (by omega)).mpr z))
        refine j_aload_n dX8_takeEach_13 rfl rfl ?_
        refine j_callU (q := (RX2, TX2, 5)) dX8_takeEach_14 kX7_ask cuX8_335_X2 rfl rfl (z_frame [0, 1, 2, 3, 4] rfl (by decide) (Nat.le_of_ble_eq_true rfl) (c_X7_ask_X2_e hl _ _ q1 _ _ _ (A ++ D) M1 hr1 hBl (by have := hr1.2.1; rw [List.length_append] at this; omega))) (Nat.le_of_ble_eq_true rfl) ⟨(Nat.le_of_ble_eq_true rfl), (Nat.le_of_ble_eq_true rfl)⟩ rfl (Nat.le_of_ble_eq_true rfl) rfl rfl (fun _ _ h => h.elim) ?_
        rintro _ _ ⟨_, _, ⟨rfl, rfl⟩, rfl, rfl⟩
        refine j_ws (L' := [.inr (7, [_, _, _, _, _]), .inr (6, [_, _, _, _]), z_ia 12 _, .inr (11, [_]), z_ia 7 _]) (by decide) rfl rfl ?_
        refine j_if_eq (tgt := 70) dX8_takeEach_17 (by decide) (fun c_17 => ?_) (fun c_17 => ?_)
        · have hb17 := z_bF c_17
          have hD := sp_cut (A := A) (D := D) (by have := of_decide_eq_false hb17; omega)
          subst hD
          rw [List.append_nil] at hr1 hBl
          refine j_iload_n dX8_takeEach_70 rfl ?_
          refine j_iret dX8_takeEach_71 rfl rfl ?_ (Nat.le_of_ble_eq_true rfl) (Nat.le_of_ble_eq_true rfl)
          exact ⟨rfl, rfl, (by rw [← ho]; rfl), _, _, _, (by rw [← ho]; show z_row 12 (nI A.length) _ _; rw [← hBl]; exact hr1), (by rw [← ho, hBl]; rfl)⟩
        · have hb17 := z_bt c_17
          obtain ⟨v1, D1, hD⟩ := sp_cons (A := A) (D := D) (by have := of_decide_eq_true hb17; omega)
          subst hD
          have hfv : f1 q1 = v1 := by rw [hq1]; exact hr1.mid
          have hlm := sp_lmid (A := A) (D := D1) (v := v1)
          rw [List.length_cons] at hf9 hs1
          refine j_iload_n dX8_takeEach_20 rfl ?_
          refine j_aload_n dX8_takeEach_21 rfl rfl ?_
          refine j_callU (q := (RX2, TX2, 5)) dX8_takeEach_22 kX7_give cuX8_336_X2 rfl rfl (z_frame [0, 1, 2, 3, 4] rfl (by decide) (Nat.le_of_ble_eq_true rfl) (c_X7_give_X2_e hl _ _ q1 _ _ _ (A ++ v1 :: D1) M1 hr1 hBl (by omega))) (Nat.le_of_ble_eq_true rfl) ⟨(Nat.le_of_ble_eq_true rfl), (Nat.le_of_ble_eq_true rfl)⟩ rfl (Nat.le_of_ble_eq_true rfl) rfl rfl (fun _ _ h => h.elim) ?_
          rintro _ _ ⟨_, _, ⟨rfl, rfl⟩, rfl, rfl⟩
          refine j_ws (L' := [.inr (7, [_, _, _, _, _]), .inr (6, [_, _, _, _]), z_ia 12 _, .inr (11, [_]), z_ia 7 _]) (by decide) rfl rfl ?_
          refine j_iload_n dX8_takeEach_25 rfl ?_
          rw [hfv]
          refine j_callS dX8_takeEach_26 kX8_testTells lX8_241 stX8_testTells (c_X8_testTells_e hl _ _ _ _) (Nat.le_of_ble_eq_true rfl) ⟨(Nat.le_of_ble_eq_true rfl), (Nat.le_of_ble_eq_true rfl)⟩ rfl (Nat.le_of_ble_eq_true rfl) rfl rfl (fun _ _ h => h.elim) ?_
          rintro _ _ ⟨rfl, rfl⟩
          refine j_istore (lo' := [(5, _), (0, _), (1, _), (2, _), (3, _), (4, _)]) dX8_takeEach_29 (by decide) rfl ?_
          refine j_iload dX8_takeEach_31 rfl ?_
          refine j_sipush (v := (-1001)) dX8_takeEach_33 (by decide) ?_
          refine j_icmp_eq (tgt := 52) dX8_takeEach_36 (by decide) (fun c_36 => ?_) (fun c_36 => ?_)
          · have hq0 := sp_ttn c_36
            rw [sp_riN hq0] at ho
            refine j_sipush (v := (-1001)) dX8_takeEach_52 (by decide) ?_
            refine j_iret dX8_takeEach_55 rfl rfl ?_ (Nat.le_of_ble_eq_true rfl) (Nat.le_of_ble_eq_true rfl)
            exact ⟨rfl, rfl, (by rw [← ho]; rfl), _, _, _, (by rw [← ho]; show z_row 12 (nI (A ++ v1 :: D1).length) _ _; rw [← hBl]; exact hr1), (by rw [← ho, hBl] <;> rfl)⟩
          · have hq0 := sp_tts c_36
            refine j_iload dX8_takeEach_39 rfl ?_
            refine j_iconst (v := 1) dX8_takeEach_41 (by decide) ?_
            refine j_icmp_ne (tgt := 56) dX8_takeEach_42 (by decide) (fun c_42 => ?_) (fun c_42 => ?_)
            · rw [sp_riO hq0 c_42] at ho
              refine j_iload dX8_takeEach_56 rfl ?_
              refine j_iconst (v := 1) dX8_takeEach_58 (by decide) ?_
              refine j_icmp_ne (tgt := 64) dX8_takeEach_59 (by decide) (fun c_59 => ?_) (fun c_59 => ?_)
              · refine j_iinc (lo' := [(4, _), (5, _), (0, _), (1, _), (2, _), (3, _)]) dX8_takeEach_64 rfl (z_inc _) (by decide) rfl ?_
                refine j_goto (tgt := 5) dX8_takeEach_67 (by decide) ?_
                exact j_lo2 (ih _ _ _ k1 (A ++ [v1]) D1 M1 (q1 + 1) (s1 + 1) (by rw [← sp_mid]; exact hr1) (sp_midl hBl) ho (by rw [List.length_append, hq1]; rfl) (by omega) (by omega)) (z_q1 rfl (z_q1 rfl (z_q1 rfl (z_q1 rfl (z_q1 rfl z_q0)))))
              · exact absurd c_59 c_42
            · have c42 := c_42
              rw [c42] at hq0
              rw [sp_riF hq0] at ho
              refine j_aload_n dX8_takeEach_45 rfl rfl ?_
              refine j_callV (q := (RX2, TX2, 5)) dX8_takeEach_46 kX2_takeAway lX8_337 inX2_takeAway seX2_takeAway rfl rfl (z_frame [0, 1, 2, 3, 4] rfl (by decide) (Nat.le_of_ble_eq_true rfl) (c_X2_takeAway_t_e hl _ _ _ _ _ _)) (Nat.le_of_ble_eq_true rfl) ⟨(Nat.le_of_ble_eq_true rfl), (Nat.le_of_ble_eq_true rfl)⟩ rfl (Nat.le_of_ble_eq_true rfl) rfl rfl (fun _ _ h => h.elim) ?_
              rintro _ _ ⟨_, _, ⟨rfl, rfl⟩, rfl, rfl⟩
              refine j_ws (L' := [.inr (7, [_, _, _, _, _]), .inr (6, [_, _, _, _]), z_ia 12 _, .inr (11, [_]), z_ia 7 _]) (by decide) rfl rfl ?_
              refine j_if_ne (tgt := 56) dX8_takeEach_49 (by decide) (fun c_49 => ?_) (fun c_49 => ?_)
              · have hb49 := z_bt c_49
                cases hb49
              · have hb49 := z_bF c_49
                refine j_sipush (v := (-1001)) dX8_takeEach_52 (by decide) ?_
                refine j_iret dX8_takeEach_55 rfl rfl ?_ (Nat.le_of_ble_eq_true rfl) (Nat.le_of_ble_eq_true rfl)
                exact ⟨rfl, rfl, (by rw [← ho]; rfl), _, _, _, (by rw [← ho]; show z_row 12 (nI (A ++ v1 :: D1).length) _ _; rw [← hBl]; exact hr1), (by rw [← ho, hBl] <;> rfl)⟩
  exact j_lo2 (loop (B.length + 1) f c u false [] B M 0 0 hr hM rfl rfl (by have := hr.2.1; omega) (by omega)) (z_q1 rfl (z_q1 rfl (z_q1 rfl (z_q1 rfl (z_q1 rfl z_q0)))))
set_option maxRecDepth 100000 in
set_option maxHeartbeats 8000000 in
theorem c_X8_takeEach_f_e (hl : l.stackTraces = false) (k u : Int32) (f c : Nat → Int32) (B : List Int32) (M : Nat) (t n : Int32) (hr : z_row 12 (nI M) f B) (hM : M = B.length) : z_CF G l mX8_takeEach 15 0 0 [.inr (7, [.ref 3, .int k, .int u, .ref 1, .int (nI 0)]), .inr (6, [.ref 2, .ref 3, .int (nI M), .int (z_bi false)]), z_ia 12 f, .inr (11, [.ref 4]), z_ia 7 c] [.ref 0, .int t, .int n] (fun v L => v = some (.int (((sp_ri false t n c [] false B).1.map z_bi).getD (-1001))) ∧ ∃ (u' p' : Int32) (f' : Nat → Int32), z_row 12 (nI (sp_ri false t n c [] false B).2.2.length) f' (sp_ri false t n c [] false B).2.2 ∧ L = [.inr (7, [.ref 3, .int k, .int u', .ref 1, .int p']), .inr (6, [.ref 2, .ref 3, .int (nI (sp_ri false t n c [] false B).2.2.length), .int (z_bi false)]), z_ia 12 f', .inr (11, [.ref 4]), z_ia 7 (sp_ri false t n c [] false B).2.1]) := by
  refine z_body hl (by decide) rfl (Nat.le_of_ble_eq_true rfl) ?_
  show z_J G l mX8_takeEach (z_SF 15 0 0 [.inr (7, [.ref 3, .int k, .int u, .ref 1, .int (nI 0)]), .inr (6, [.ref 2, .ref 3, .int (nI M), .int (z_bi false)]), z_ia 12 f, .inr (11, [.ref 4]), z_ia 7 c] (fun v L => v = some (.int (((sp_ri false t n c [] false B).1.map z_bi).getD (-1001))) ∧ ∃ (u' p' : Int32) (f' : Nat → Int32), z_row 12 (nI (sp_ri false t n c [] false B).2.2.length) f' (sp_ri false t n c [] false B).2.2 ∧ L = [.inr (7, [.ref 3, .int k, .int u', .ref 1, .int p']), .inr (6, [.ref 2, .ref 3, .int (nI (sp_ri false t n c [] false B).2.2.length), .int (z_bi false)]), z_ia 12 f', .inr (11, [.ref 4]), z_ia 7 (sp_ri false t n c [] false B).2.1])) 0 [(0, _), (1, _), (2, _)] [] _ 0 0
  have hln := hr.2.1
  refine j_iconst (v := 0) dX8_takeEach_0 (by decide) ?_
  refine j_istore_n (lo' := [(3, _), (0, _), (1, _), (2, _)]) dX8_takeEach_1 (by decide) rfl ?_
  refine j_iconst (v := 0) dX8_takeEach_2 (by decide) ?_
  refine j_istore (lo' := [(4, _), (3, _), (0, _), (1, _), (2, _)]) dX8_takeEach_3 (by decide) rfl ?_
  have loop : ∀ (n9 : Nat) (f1 c1 : Nat → Int32) (u1 : Int32) (k1 : Bool) (A D : List Int32) (M1 q1 s1 : Nat), (z_row 12 (nI M1) f1 (A ++ D)) → (M1 = (A ++ D).length) → (sp_ri false t n c1 A k1 D = (sp_ri false t n c [] false B)) → (q1 = A.length) → (s1 + D.length ≤ 12) → (D.length < n9) → z_J G l mX8_takeEach (z_SF 15 0 0 [.inr (7, [.ref 3, .int k, .int u, .ref 1, .int (nI 0)]), .inr (6, [.ref 2, .ref 3, .int (nI M), .int (z_bi false)]), z_ia 12 f, .inr (11, [.ref 4]), z_ia 7 c] (fun v L => v = some (.int (((sp_ri false t n c [] false B).1.map z_bi).getD (-1001))) ∧ ∃ (u' p' : Int32) (f' : Nat → Int32), z_row 12 (nI (sp_ri false t n c [] false B).2.2.length) f' (sp_ri false t n c [] false B).2.2 ∧ L = [.inr (7, [.ref 3, .int k, .int u', .ref 1, .int p']), .inr (6, [.ref 2, .ref 3, .int (nI (sp_ri false t n c [] false B).2.2.length), .int (z_bi false)]), z_ia 12 f', .inr (11, [.ref 4]), z_ia 7 (sp_ri false t n c [] false B).2.1])) 5 [(0, .ref 0), (1, .int t), (2, .int n), (3, .int (z_bi k1)), (4, .int (nI s1))] [] ([.inr (7, [.ref 3, .int k, .int u1, .ref 1, .int (nI q1)]), .inr (6, [.ref 2, .ref 3, .int (nI M1), .int (z_bi false)]), z_ia 12 f1, .inr (11, [.ref 4]), z_ia 7 c1], z_no) 0 0 := by
    intro n9
    induction n9 with
    | zero => intro f1 c1 u1 k1 A D M1 q1 s1 hr1 hBl ho hq1 hs1 hf9; exact absurd hf9 (by omega)
    | succ n9 ih =>
      intro f1 c1 u1 k1 A D M1 q1 s1 hr1 hBl ho hq1 hs1 hf9
      refine j_iload dX8_takeEach_5 rfl ?_
      refine j_sipush (v := 1000) dX8_takeEach_7 (by decide) ?_
      refine j_icmp_ge (tgt := 70) dX8_takeEach_10 (by decide) (fun c_10 => ?_) (fun c_10 => ?_)
      · have hb10 : 1000 ≤ s1 := (nI_leI (a := 1000) (b := s1) (by omega) (by omega)).mp c_10
        exact absurd hb10 (by omega)
      · have hb10 : s1 < 1000 := Nat.not_le.mp (fun z => c_10 ((nI_leI (a := 1000) (b := s1) (by omega) (by omega)).mpr z))
        refine j_aload_n dX8_takeEach_13 rfl rfl ?_
        refine j_callU (q := (RX2, TX2, 5)) dX8_takeEach_14 kX7_ask cuX8_335_X2 rfl rfl (z_frame [0, 1, 2, 3, 4] rfl (by decide) (Nat.le_of_ble_eq_true rfl) (c_X7_ask_X2_e hl _ _ q1 _ _ _ (A ++ D) M1 hr1 hBl (by have := hr1.2.1; rw [List.length_append] at this; omega))) (Nat.le_of_ble_eq_true rfl) ⟨(Nat.le_of_ble_eq_true rfl), (Nat.le_of_ble_eq_true rfl)⟩ rfl (Nat.le_of_ble_eq_true rfl) rfl rfl (fun _ _ h => h.elim) ?_
        rintro _ _ ⟨_, _, ⟨rfl, rfl⟩, rfl, rfl⟩
        refine j_ws (L' := [.inr (7, [_, _, _, _, _]), .inr (6, [_, _, _, _]), z_ia 12 _, .inr (11, [_]), z_ia 7 _]) (by decide) rfl rfl ?_
        refine j_if_eq (tgt := 70) dX8_takeEach_17 (by decide) (fun c_17 => ?_) (fun c_17 => ?_)
        · have hb17 := z_bF c_17
          have hD := sp_cut (A := A) (D := D) (by have := of_decide_eq_false hb17; omega)
          subst hD
          rw [List.append_nil] at hr1 hBl
          refine j_iload_n dX8_takeEach_70 rfl ?_
          refine j_iret dX8_takeEach_71 rfl rfl ?_ (Nat.le_of_ble_eq_true rfl) (Nat.le_of_ble_eq_true rfl)
          exact ⟨rfl, rfl, (by rw [← ho]; rfl), _, _, _, (by rw [← ho]; show z_row 12 (nI A.length) _ _; rw [← hBl]; exact hr1), (by rw [← ho, hBl]; rfl)⟩
        · have hb17 := z_bt c_17
          obtain ⟨v1, D1, hD⟩ := sp_cons (A := A) (D := D) (by have := of_decide_eq_true hb17; omega)
          subst hD
          have hfv : f1 q1 = v1 := by rw [hq1]; exact hr1.mid
          have hlm := sp_lmid (A := A) (D := D1) (v := v1)
          rw [List.length_cons] at hf9 hs1
          refine j_iload_n dX8_takeEach_20 rfl ?_
          refine j_aload_n dX8_takeEach_21 rfl rfl ?_
          refine j_callU (q := (RX2, TX2, 5)) dX8_takeEach_22 kX7_give cuX8_336_X2 rfl rfl (z_frame [0, 1, 2, 3, 4] rfl (by decide) (Nat.le_of_ble_eq_true rfl) (c_X7_give_X2_e hl _ _ q1 _ _ _ (A ++ v1 :: D1) M1 hr1 hBl (by omega))) (Nat.le_of_ble_eq_true rfl) ⟨(Nat.le_of_ble_eq_true rfl), (Nat.le_of_ble_eq_true rfl)⟩ rfl (Nat.le_of_ble_eq_true rfl) rfl rfl (fun _ _ h => h.elim) ?_
          rintro _ _ ⟨_, _, ⟨rfl, rfl⟩, rfl, rfl⟩
          refine j_ws (L' := [.inr (7, [_, _, _, _, _]), .inr (6, [_, _, _, _]), z_ia 12 _, .inr (11, [_]), z_ia 7 _]) (by decide) rfl rfl ?_
          refine j_iload_n dX8_takeEach_25 rfl ?_
          rw [hfv]
          refine j_callS dX8_takeEach_26 kX8_testTells lX8_241 stX8_testTells (c_X8_testTells_e hl _ _ _ _) (Nat.le_of_ble_eq_true rfl) ⟨(Nat.le_of_ble_eq_true rfl), (Nat.le_of_ble_eq_true rfl)⟩ rfl (Nat.le_of_ble_eq_true rfl) rfl rfl (fun _ _ h => h.elim) ?_
          rintro _ _ ⟨rfl, rfl⟩
          refine j_istore (lo' := [(5, _), (0, _), (1, _), (2, _), (3, _), (4, _)]) dX8_takeEach_29 (by decide) rfl ?_
          refine j_iload dX8_takeEach_31 rfl ?_
          refine j_sipush (v := (-1001)) dX8_takeEach_33 (by decide) ?_
          refine j_icmp_eq (tgt := 52) dX8_takeEach_36 (by decide) (fun c_36 => ?_) (fun c_36 => ?_)
          · have hq0 := sp_ttn c_36
            rw [sp_riN hq0] at ho
            refine j_sipush (v := (-1001)) dX8_takeEach_52 (by decide) ?_
            refine j_iret dX8_takeEach_55 rfl rfl ?_ (Nat.le_of_ble_eq_true rfl) (Nat.le_of_ble_eq_true rfl)
            exact ⟨rfl, rfl, (by rw [← ho]; rfl), _, _, _, (by rw [← ho]; show z_row 12 (nI (A ++ v1 :: D1).length) _ _; rw [← hBl]; exact hr1), (by rw [← ho, hBl] <;> rfl)⟩
          · have hq0 := sp_tts c_36
            refine j_iload dX8_takeEach_39 rfl ?_
            refine j_iconst (v := 1) dX8_takeEach_41 (by decide) ?_
            refine j_icmp_ne (tgt := 56) dX8_takeEach_42 (by decide) (fun c_42 => ?_) (fun c_42 => ?_)
            · rw [sp_riO hq0 c_42] at ho
              refine j_iload dX8_takeEach_56 rfl ?_
              refine j_iconst (v := 1) dX8_takeEach_58 (by decide) ?_
              refine j_icmp_ne (tgt := 64) dX8_takeEach_59 (by decide) (fun c_59 => ?_) (fun c_59 => ?_)
              · refine j_iinc (lo' := [(4, _), (5, _), (0, _), (1, _), (2, _), (3, _)]) dX8_takeEach_64 rfl (z_inc _) (by decide) rfl ?_
                refine j_goto (tgt := 5) dX8_takeEach_67 (by decide) ?_
                exact j_lo2 (ih _ _ _ k1 (A ++ [v1]) D1 M1 (q1 + 1) (s1 + 1) (by rw [← sp_mid]; exact hr1) (sp_midl hBl) ho (by rw [List.length_append, hq1]; rfl) (by omega) (by omega)) (z_q1 rfl (z_q1 rfl (z_q1 rfl (z_q1 rfl (z_q1 rfl z_q0)))))
              · exact absurd c_59 c_42
            · have c42 := c_42
              rw [c42] at hq0
              rw [sp_riT hq0] at ho
              refine j_aload_n dX8_takeEach_45 rfl rfl ?_
              subst hq1
              refine j_callV (q := (RX2, TX2, 5)) dX8_takeEach_46 kX2_takeAway lX8_337 inX2_takeAway seX2_takeAway rfl rfl (z_frame [0, 1, 2, 3, 4] rfl (by decide) (Nat.le_of_ble_eq_true rfl) (c_X2_takeAway_f_e hl _ _ _ _ A D1 v1 M1 hr1 hBl)) (Nat.le_of_ble_eq_true rfl) ⟨(Nat.le_of_ble_eq_true rfl), (Nat.le_of_ble_eq_true rfl)⟩ rfl (Nat.le_of_ble_eq_true rfl) rfl rfl (fun _ _ h => h.elim) ?_
              rintro _ _ ⟨_, _, ⟨rfl, f9, hr9, rfl⟩, rfl, rfl⟩
              refine j_ws (L' := [.inr (7, [_, _, _, _, _]), .inr (6, [_, _, _, _]), z_ia 12 _, .inr (11, [_]), z_ia 7 _]) (by decide) rfl rfl ?_
              refine j_if_ne (tgt := 56) dX8_takeEach_49 (by decide) (fun c_49 => ?_) (fun c_49 => ?_)
              · have hb49 := z_bt c_49
                refine j_iload dX8_takeEach_56 rfl ?_
                refine j_iconst (v := 1) dX8_takeEach_58 (by decide) ?_
                refine j_icmp_ne (tgt := 64) dX8_takeEach_59 (by decide) (fun c_59 => ?_) (fun c_59 => ?_)
                · exact absurd c42 c_59
                · refine j_iconst (v := 1) dX8_takeEach_62 (by decide) ?_
                  refine j_istore_n (lo' := [(3, _), (5, _), (0, _), (1, _), (2, _), (4, _)]) dX8_takeEach_63 (by decide) rfl ?_
                  refine j_iinc (lo' := [(4, _), (3, _), (5, _), (0, _), (1, _), (2, _)]) dX8_takeEach_64 rfl (z_inc _) (by decide) rfl ?_
                  refine j_goto (tgt := 5) dX8_takeEach_67 (by decide) ?_
                  exact j_lo2 (ih _ _ _ true A D1 (M1 - 1) A.length (s1 + 1) hr9 (by rw [List.length_append]; omega) ho rfl (by omega) (by omega)) (z_q1 rfl (z_q1 rfl (z_q1 rfl (z_q1 rfl (z_q1 rfl z_q0)))))
              · have hb49 := z_bF c_49
                cases hb49
  exact j_lo2 (loop (B.length + 1) f c u false [] B M 0 0 hr hM rfl rfl (by have := hr.2.1; omega) (by omega)) (z_q1 rfl (z_q1 rfl (z_q1 rfl (z_q1 rfl (z_q1 rfl z_q0)))))
set_option maxRecDepth 100000 in
set_option maxHeartbeats 8000000 in
theorem c_X8_isWhatIsLeft_e (hl : l.stackTraces = false) (x : Bool) (f c : Nat → Int32) (B : List Int32) (M : Nat) (x2 : Bool) (f2 c2 : Nat → Int32) (B2 : List Int32) (M2 : Nat) (t : Int32) (hr : z_row 12 (nI M) f B) (hM : M = B.length) (hr2 : z_row 12 (nI M2) f2 B2) (hM2 : M2 = B2.length) (hw : B = B2.filter (sp_no t)) : z_CF G l mX8_isWhatIsLeft 13 0 0 [.inr (6, [.ref 1, .ref 2, .int (nI M), .int (z_bi x)]), z_ia 12 f, .inr (11, [.ref 3]), z_ia 7 c, .inr (6, [.ref 5, .ref 6, .int (nI M2), .int (z_bi x2)]), z_ia 12 f2, .inr (11, [.ref 7]), z_ia 7 c2] [.ref 0, .ref 4, .int t] (fun v L => v = some (.int 1) ∧ L = [.inr (6, [.ref 1, .ref 2, .int (nI M), .int (z_bi x)]), z_ia 12 f, .inr (11, [.ref 3]), z_ia 7 c, .inr (6, [.ref 5, .ref 6, .int (nI M2), .int (z_bi x2)]), z_ia 12 f2, .inr (11, [.ref 7]), z_ia 7 c2]) := by
  refine z_body hl (by decide) rfl (Nat.le_of_ble_eq_true rfl) ?_
  show z_J G l mX8_isWhatIsLeft (z_SF 13 0 0 [.inr (6, [.ref 1, .ref 2, .int (nI M), .int (z_bi x)]), z_ia 12 f, .inr (11, [.ref 3]), z_ia 7 c, .inr (6, [.ref 5, .ref 6, .int (nI M2), .int (z_bi x2)]), z_ia 12 f2, .inr (11, [.ref 7]), z_ia 7 c2] (fun v L => v = some (.int 1) ∧ L = [.inr (6, [.ref 1, .ref 2, .int (nI M), .int (z_bi x)]), z_ia 12 f, .inr (11, [.ref 3]), z_ia 7 c, .inr (6, [.ref 5, .ref 6, .int (nI M2), .int (z_bi x2)]), z_ia 12 f2, .inr (11, [.ref 7]), z_ia 7 c2])) 0 [(0, _), (1, _), (2, _)] [] _ 0 0
  have hln := hr.2.1
  have hln2 := hr2.2.1
  refine j_iconst (v := 0) dX8_isWhatIsLeft_0 (by decide) ?_
  refine j_istore_n (lo' := [(3, _), (0, _), (1, _), (2, _)]) dX8_isWhatIsLeft_1 (by decide) rfl ?_
  refine j_iconst (v := 0) dX8_isWhatIsLeft_2 (by decide) ?_
  refine j_istore (lo' := [(4, _), (3, _), (0, _), (1, _), (2, _)]) dX8_isWhatIsLeft_3 (by decide) rfl ?_
  have loop : ∀ (n9 : Nat) (q j : Nat), (q = ((B2.take j).filter (sp_no t)).length) → (q ≤ j) → (j ≤ M2) → (M2 < j + n9) → z_J G l mX8_isWhatIsLeft (z_SF 13 0 0 [.inr (6, [.ref 1, .ref 2, .int (nI M), .int (z_bi x)]), z_ia 12 f, .inr (11, [.ref 3]), z_ia 7 c, .inr (6, [.ref 5, .ref 6, .int (nI M2), .int (z_bi x2)]), z_ia 12 f2, .inr (11, [.ref 7]), z_ia 7 c2] (fun v L => v = some (.int 1) ∧ L = [.inr (6, [.ref 1, .ref 2, .int (nI M), .int (z_bi x)]), z_ia 12 f, .inr (11, [.ref 3]), z_ia 7 c, .inr (6, [.ref 5, .ref 6, .int (nI M2), .int (z_bi x2)]), z_ia 12 f2, .inr (11, [.ref 7]), z_ia 7 c2])) 5 [(0, .ref 0), (1, .ref 4), (2, .int t), (3, .int (nI q)), (4, .int (nI j))] [] ([.inr (6, [.ref 1, .ref 2, .int (nI M), .int (z_bi x)]), z_ia 12 f, .inr (11, [.ref 3]), z_ia 7 c, .inr (6, [.ref 5, .ref 6, .int (nI M2), .int (z_bi x2)]), z_ia 12 f2, .inr (11, [.ref 7]), z_ia 7 c2], z_no) 0 0 := by
    intro n9
    induction n9 with
    | zero => intro q j hq hqj hj hf9; exact absurd hf9 (by omega)
    | succ n9 ih =>
      intro q j hq hqj hj hf9
      refine j_iload dX8_isWhatIsLeft_5 rfl ?_
      refine j_aload_n dX8_isWhatIsLeft_7 rfl rfl ?_
      refine j_getf dX8_isWhatIsLeft_8 fX8_68 rfl rfl ?_
      refine j_icmp_ge (tgt := 61) dX8_isWhatIsLeft_11 (by decide) (fun c_11 => ?_) (fun c_11 => ?_)
      · have hb11 : M2 ≤ j := (nI_leI (a := M2) (b := j) (by omega) (by omega)).mp c_11
        have hjM : j = M2 := by omega
        have hqe : q = M := by rw [hM, hw, hq, hjM, hM2, List.take_length]
        refine j_aload_n dX8_isWhatIsLeft_61 rfl rfl ?_
        refine j_getf dX8_isWhatIsLeft_62 fX8_68 rfl rfl ?_
        refine j_iload_n dX8_isWhatIsLeft_65 rfl ?_
        refine j_icmp_ne (tgt := 73) dX8_isWhatIsLeft_66 (by decide) (fun c_66 => ?_) (fun c_66 => ?_)
        · have hb66 : ¬ M = q := fun z => c_66 (show nI M = nI q by rw [z])
          exact absurd hqe.symm hb66
        · have hb66 : M = q := nI_inj (a := M) (b := q) c_66 (by omega) (by omega)
          refine j_iconst (v := 1) dX8_isWhatIsLeft_69 (by decide) ?_
          refine j_goto (tgt := 74) dX8_isWhatIsLeft_70 (by decide) ?_
          refine j_iret dX8_isWhatIsLeft_74 rfl rfl ?_ (Nat.le_of_ble_eq_true rfl) (Nat.le_of_ble_eq_true rfl)
          exact ⟨rfl, rfl, rfl, rfl⟩
      · have hb11 : j < M2 := Nat.not_le.mp (fun z => c_11 ((nI_leI (a := M2) (b := j) (by omega) (by omega)).mpr z))
        have hj2 : B2[j]? = some (f2 j) := hr2.2.2 j (by omega)
        refine j_aload_n dX8_isWhatIsLeft_14 rfl rfl ?_
        refine j_iload dX8_isWhatIsLeft_15 rfl ?_
        refine j_callV (q := (RX1, TX1, 4)) dX8_isWhatIsLeft_17 kX1_valueAt lX8_203 inX1_valueAt seX1_valueAt rfl rfl (z_frame [4, 5, 6, 7] rfl (by decide) (Nat.le_of_ble_eq_true rfl) (c_X1_valueAt_e hl _ _ _ B2 M2 j hr2 hM2 (by omega))) (Nat.le_of_ble_eq_true rfl) ⟨(Nat.le_of_ble_eq_true rfl), (Nat.le_of_ble_eq_true rfl)⟩ rfl (Nat.le_of_ble_eq_true rfl) rfl rfl (fun _ _ h => h.elim) ?_
        rintro _ _ ⟨_, _, ⟨rfl, rfl⟩, rfl, rfl⟩
        refine j_ws (L' := [.inr (6, [_, _, _, _]), z_ia 12 _, .inr (11, [_]), z_ia 7 _, .inr (6, [_, _, _, _]), z_ia 12 _, .inr (11, [_]), z_ia 7 _]) (by decide) rfl rfl ?_
        refine j_istore (lo' := [(5, _), (0, _), (1, _), (2, _), (3, _), (4, _)]) dX8_isWhatIsLeft_20 (by decide) rfl ?_
        refine j_iload_n dX8_isWhatIsLeft_22 rfl ?_
        refine j_iload dX8_isWhatIsLeft_23 rfl ?_
        refine j_iconst (v := 0) dX8_isWhatIsLeft_25 (by decide) ?_
        refine j_callS dX8_isWhatIsLeft_26 kX8_testTells lX8_241 stX8_testTells (c_X8_testTells_e hl _ _ _ _) (Nat.le_of_ble_eq_true rfl) ⟨(Nat.le_of_ble_eq_true rfl), (Nat.le_of_ble_eq_true rfl)⟩ rfl (Nat.le_of_ble_eq_true rfl) rfl rfl (fun _ _ h => h.elim) ?_
        rintro _ _ ⟨rfl, rfl⟩
        refine j_if_ne (tgt := 55) dX8_isWhatIsLeft_29 (by decide) (fun c_29 => ?_) (fun c_29 => ?_)
        · have hno := sp_no0 c_29
          refine j_iinc (lo' := [(4, _), (5, _), (0, _), (1, _), (2, _), (3, _)]) dX8_isWhatIsLeft_55 rfl (z_inc _) (by decide) rfl ?_
          refine j_goto (tgt := 5) dX8_isWhatIsLeft_58 (by decide) ?_
          exact j_lo2 (ih q (j + 1) (by rw [sp_ft0 hj2 hno]; exact hq) (by omega) (by omega) (by omega)) (z_q1 rfl (z_q1 rfl (z_q1 rfl (z_q1 rfl (z_q1 rfl z_q0)))))
        · have hno := sp_no1 c_29
          have hg := sp_ftg hj2 hno
          rw [← hw, ← hq] at hg
          have hql := (List.getElem?_eq_some_iff.mp hg).1
          have hfq := hr.at hg
          refine j_aload_n dX8_isWhatIsLeft_32 rfl rfl ?_
          refine j_iload_n dX8_isWhatIsLeft_33 rfl ?_
          refine j_callV (q := (RX1, TX1, 4)) dX8_isWhatIsLeft_34 kX1_isPlace lX8_194 inX1_isPlace seX1_isPlace rfl rfl (z_frame [0, 1, 2, 3] rfl (by decide) (Nat.le_of_ble_eq_true rfl) (c_X1_isPlace_e hl _ _ _ B M q hr hM (by omega))) (Nat.le_of_ble_eq_true rfl) ⟨(Nat.le_of_ble_eq_true rfl), (Nat.le_of_ble_eq_true rfl)⟩ rfl (Nat.le_of_ble_eq_true rfl) rfl rfl (fun _ _ h => h.elim) ?_
          rintro _ _ ⟨_, _, ⟨rfl, rfl⟩, rfl, rfl⟩
          refine j_ws (L' := [.inr (6, [_, _, _, _]), z_ia 12 _, .inr (11, [_]), z_ia 7 _, .inr (6, [_, _, _, _]), z_ia 12 _, .inr (11, [_]), z_ia 7 _]) (by decide) rfl rfl ?_
          refine j_if_eq (tgt := 50) dX8_isWhatIsLeft_37 (by decide) (fun c_37 => ?_) (fun c_37 => ?_)
          · have hb37 := z_bF c_37
            exact absurd (show q < M by omega) (of_decide_eq_false hb37)
          · have hb37 := z_bt c_37
            refine j_aload_n dX8_isWhatIsLeft_40 rfl rfl ?_
            refine j_iload_n dX8_isWhatIsLeft_41 rfl ?_
            refine j_callV (q := (RX1, TX1, 4)) dX8_isWhatIsLeft_42 kX1_valueAt lX8_203 inX1_valueAt seX1_valueAt rfl rfl (z_frame [0, 1, 2, 3] rfl (by decide) (Nat.le_of_ble_eq_true rfl) (c_X1_valueAt_e hl _ _ _ B M q hr hM hql)) (Nat.le_of_ble_eq_true rfl) ⟨(Nat.le_of_ble_eq_true rfl), (Nat.le_of_ble_eq_true rfl)⟩ rfl (Nat.le_of_ble_eq_true rfl) rfl rfl (fun _ _ h => h.elim) ?_
            rintro _ _ ⟨_, _, ⟨rfl, rfl⟩, rfl, rfl⟩
            refine j_ws (L' := [.inr (6, [_, _, _, _]), z_ia 12 _, .inr (11, [_]), z_ia 7 _, .inr (6, [_, _, _, _]), z_ia 12 _, .inr (11, [_]), z_ia 7 _]) (by decide) rfl rfl ?_
            refine j_iload dX8_isWhatIsLeft_45 rfl ?_
            refine j_icmp_eq (tgt := 52) dX8_isWhatIsLeft_47 (by decide) (fun c_47 => ?_) (fun c_47 => ?_)
            · refine j_iinc (lo' := [(3, _), (5, _), (0, _), (1, _), (2, _), (4, _)]) dX8_isWhatIsLeft_52 rfl (z_inc _) (by decide) rfl ?_
              refine j_iinc (lo' := [(4, _), (3, _), (5, _), (0, _), (1, _), (2, _)]) dX8_isWhatIsLeft_55 rfl (z_inc _) (by decide) rfl ?_
              refine j_goto (tgt := 5) dX8_isWhatIsLeft_58 (by decide) ?_
              exact j_lo2 (ih (q + 1) (j + 1) (by rw [sp_ft1 hj2 hno, List.length_append, ← hq]; rfl) (by omega) (by omega) (by omega)) (z_q1 rfl (z_q1 rfl (z_q1 rfl (z_q1 rfl (z_q1 rfl z_q0)))))
            · exact absurd hfq c_47
  exact j_lo2 (loop (M2 + 1) 0 0 rfl (by omega) (by omega) (by omega)) (z_q1 rfl (z_q1 rfl (z_q1 rfl (z_q1 rfl (z_q1 rfl z_q0)))))
theorem c_X8_changeEach_X2_e (hl : l.stackTraces = false) (x : Bool) (u : Int32) (f c : Nat → Int32) (B : List Int32) (M : Nat) (r n : Int32) (hr : z_row 12 (nI M) f B) (hM : M = B.length) (hB : ∀ v ∈ B, z_vl v) (hr2n : ¬ r = 2) (hr3n : ¬ r = 3) (hn : z_vl n) : z_CF G l mX8_changeEach 15 0 0 [.inr (7, [.ref 3, .int 0, .int u, .ref 1, .int (nI 0)]), .inr (6, [.ref 2, .ref 3, .int (nI M), .int (z_bi x)]), z_ia 12 f, .inr (11, [.ref 4]), z_ia 7 c] [.ref 0, .int r, .int n] (fun v L => v = some (.int (z_bi (sp_ra x r n c [] B).1)) ∧ ∃ (u' p' : Int32) (f' : Nat → Int32), z_row 12 (nI (sp_ra x r n c [] B).2.2.length) f' (sp_ra x r n c [] B).2.2 ∧ L = [.inr (7, [.ref 3, .int 0, .int u', .ref 1, .int p']), .inr (6, [.ref 2, .ref 3, .int (nI (sp_ra x r n c [] B).2.2.length), .int (z_bi x)]), z_ia 12 f', .inr (11, [.ref 4]), z_ia 7 (sp_ra x r n c [] B).2.1]) := by
  cases x with
  | false => exact c_X8_changeEach_X2_f_e hl u f c B M r n hr hM hB hr2n hr3n hn
  | true => exact c_X8_changeEach_X2_t_e hl u f c B M r n hr hM hB hr2n hr3n hn
theorem c_X8_takeEach_e (hl : l.stackTraces = false) (x : Bool) (k u : Int32) (f c : Nat → Int32) (B : List Int32) (M : Nat) (t n : Int32) (hr : z_row 12 (nI M) f B) (hM : M = B.length) : z_CF G l mX8_takeEach 15 0 0 [.inr (7, [.ref 3, .int k, .int u, .ref 1, .int (nI 0)]), .inr (6, [.ref 2, .ref 3, .int (nI M), .int (z_bi x)]), z_ia 12 f, .inr (11, [.ref 4]), z_ia 7 c] [.ref 0, .int t, .int n] (fun v L => v = some (.int (((sp_ri x t n c [] false B).1.map z_bi).getD (-1001))) ∧ ∃ (u' p' : Int32) (f' : Nat → Int32), z_row 12 (nI (sp_ri x t n c [] false B).2.2.length) f' (sp_ri x t n c [] false B).2.2 ∧ L = [.inr (7, [.ref 3, .int k, .int u', .ref 1, .int p']), .inr (6, [.ref 2, .ref 3, .int (nI (sp_ri x t n c [] false B).2.2.length), .int (z_bi x)]), z_ia 12 f', .inr (11, [.ref 4]), z_ia 7 (sp_ri x t n c [] false B).2.1]) := by
  cases x with
  | false => exact c_X8_takeEach_f_e hl k u f c B M t n hr hM
  | true => exact c_X8_takeEach_t_e hl k u f c B M t n hr hM
end ZCw
end ZM7
section ZM8
section ZCwt
variable {G : z_G} {l : Launch}
set_option maxRecDepth 100000 in
set_option maxHeartbeats 8000000 in
theorem c_X5_init_e (hl : l.stackTraces = false) (b : Bool) (f g c : Nat → Int32) (m : Int32)  : z_CF G l mX5_init 13 0 0 [.inr (10, [.null, .int 0, .int 0, .null, .int 0]), .inr (9, [.int (z_bi b), .ref 2, .ref 3, .ref 4, .int m]), z_ia 20 f, z_ia 20 g, .inr (11, [.ref 5]), z_ia 7 c] [.ref 0, .ref 1] (fun v L => v = none ∧ L = [.inr (10, [.ref 4, .int 0, .int 0, .ref 1, .int 0]), .inr (9, [.int (z_bi b), .ref 2, .ref 3, .ref 4, .int m]), z_ia 20 f, z_ia 20 g, .inr (11, [.ref 5]), z_ia 7 (z_bp c 0)]) := by
  refine z_body hl (by decide) rfl (Nat.le_of_ble_eq_true rfl) ?_
  show z_J G l mX5_init (z_SF 13 0 0 [.inr (10, [.null, .int 0, .int 0, .null, .int 0]), .inr (9, [.int (z_bi b), .ref 2, .ref 3, .ref 4, .int m]), z_ia 20 f, z_ia 20 g, .inr (11, [.ref 5]), z_ia 7 c] (fun v L => v = none ∧ L = [.inr (10, [.ref 4, .int 0, .int 0, .ref 1, .int 0]), .inr (9, [.int (z_bi b), .ref 2, .ref 3, .ref 4, .int m]), z_ia 20 f, z_ia 20 g, .inr (11, [.ref 5]), z_ia 7 (z_bp c 0)])) 0 [(0, _), (1, _)] [] _ 0 0
  refine j_aload_n dX5_init_0 rfl rfl ?_
  refine j_aload_n dX5_init_1 rfl rfl ?_
  refine j_getf dX5_init_2 fX5_3 rfl rfl ?_
  refine j_callI dX5_init_5 kX7_init rfl lX5_9 inX7_init rfl (z_frame [0, 4, 5] rfl (by decide) (Nat.le_of_ble_eq_true rfl) (c_X7_init_X5_e hl _ _ _ _)) (Nat.le_of_ble_eq_true rfl) ⟨(Nat.le_of_ble_eq_true rfl), (Nat.le_of_ble_eq_true rfl)⟩ rfl (Nat.le_of_ble_eq_true rfl) rfl rfl (fun _ _ h => h.elim) ?_
  rintro _ _ ⟨_, _, ⟨rfl, rfl⟩, rfl, rfl⟩
  refine j_ws (L' := [.inr (10, [_, _, _, _, _]), .inr (9, [_, _, _, _, _]), z_ia 20 _, z_ia 20 _, .inr (11, [_]), z_ia 7 _]) (by decide) rfl rfl ?_
  refine j_aload_n dX5_init_8 rfl rfl ?_
  refine j_aload_n dX5_init_9 rfl rfl ?_
  refine j_putF (w' := ([.inr (10, [_, _, _, _, _]), .inr (9, [_, _, _, _, _]), z_ia 20 _, z_ia 20 _, .inr (11, [_]), z_ia 7 _], z_no)) dX5_init_10 fX5_15 tX5_3 rfl (z_dc rfl rfl (z_w 1112 ((lwt_5_3 17).trans rfl) (by decide +kernel))) rfl (Or.inl ⟨_, rfl⟩) rfl ?_
  refine j_vret dX5_init_13 rfl ?_ (Nat.le_of_ble_eq_true rfl) (Nat.le_of_ble_eq_true rfl)
  exact ⟨rfl, rfl, rfl, rfl⟩
set_option maxRecDepth 100000 in
set_option maxHeartbeats 8000000 in
theorem c_X5_isMore_e (hl : l.stackTraces = false) (k u : Int32) (j : Nat) (b : Bool) (f g c : Nat → Int32) (M : Nat) (T : List (Nat × Int32)) (ht : z_tba f g T) (hM : M = T.length) (hj : j < 1000) : z_CF G l mX5_isMore 10 0 0 [.inr (10, [.ref 4, .int k, .int u, .ref 1, .int (nI j)]), .inr (9, [.int (z_bi b), .ref 2, .ref 3, .ref 4, .int (nI M)]), z_ia 20 f, z_ia 20 g, .inr (11, [.ref 5]), z_ia 7 c] [.ref 0] (fun v L => v = some (.int (z_bi (decide (j < M)))) ∧ L = [.inr (10, [.ref 4, .int k, .int u, .ref 1, .int (nI j)]), .inr (9, [.int (z_bi b), .ref 2, .ref 3, .ref 4, .int (nI M)]), z_ia 20 f, z_ia 20 g, .inr (11, [.ref 5]), z_ia 7 c]) := by
  refine z_body hl (by decide) rfl (Nat.le_of_ble_eq_true rfl) ?_
  show z_J G l mX5_isMore (z_SF 10 0 0 [.inr (10, [.ref 4, .int k, .int u, .ref 1, .int (nI j)]), .inr (9, [.int (z_bi b), .ref 2, .ref 3, .ref 4, .int (nI M)]), z_ia 20 f, z_ia 20 g, .inr (11, [.ref 5]), z_ia 7 c] (fun v L => v = some (.int (z_bi (decide (j < M)))) ∧ L = [.inr (10, [.ref 4, .int k, .int u, .ref 1, .int (nI j)]), .inr (9, [.int (z_bi b), .ref 2, .ref 3, .ref 4, .int (nI M)]), z_ia 20 f, z_ia 20 g, .inr (11, [.ref 5]), z_ia 7 c])) 0 [(0, _)] [] _ 0 0
  have hln := ht.len
  refine j_aload_n dX5_isMore_0 rfl rfl ?_
  refine j_getf dX5_isMore_1 fX5_21 rfl rfl ?_
  refine j_aload_n dX5_isMore_4 rfl rfl ?_
  refine j_getf dX5_isMore_5 fX5_15 rfl rfl ?_
  refine j_getf dX5_isMore_8 fX5_25 rfl rfl ?_
  refine j_icmp_ge (tgt := 18) dX5_isMore_11 (by decide) (fun c_11 => ?_) (fun c_11 => ?_)
  · have hb11 : M ≤ j := (nI_leI (a := M) (b := j) (by omega) (by omega)).mp c_11
    refine j_iconst (v := 0) dX5_isMore_18 (by decide) ?_
    refine j_iret dX5_isMore_19 rfl rfl ?_ (Nat.le_of_ble_eq_true rfl) (Nat.le_of_ble_eq_true rfl)
    first | exact ⟨rfl, rfl, by rw [q_b1 (by omega)], rfl⟩ | exact ⟨rfl, rfl, by rw [q_b0 (by omega)], rfl⟩
  · have hb11 : j < M := Nat.not_le.mp (fun z => c_11 ((nI_leI (a := M) (b := j) (by omega) (by omega)).mpr z))
    refine j_iconst (v := 1) dX5_isMore_14 (by decide) ?_
    refine j_goto (tgt := 19) dX5_isMore_15 (by decide) ?_
    refine j_iret dX5_isMore_19 rfl rfl ?_ (Nat.le_of_ble_eq_true rfl) (Nat.le_of_ble_eq_true rfl)
    first | exact ⟨rfl, rfl, by rw [q_b1 (by omega)], rfl⟩ | exact ⟨rfl, rfl, by rw [q_b0 (by omega)], rfl⟩
set_option maxRecDepth 100000 in
set_option maxHeartbeats 8000000 in
theorem c_X5_next_e (hl : l.stackTraces = false) (k u : Int32) (j : Nat) (b : Bool) (f g c : Nat → Int32) (M : Nat) (T : List (Nat × Int32)) (p : Nat × Int32) (ht : z_tba f g T) (hM : M = T.length) (hj : T[j]? = some p) : z_CF G l mX5_next 12 0 0 [.inr (10, [.ref 4, .int k, .int u, .ref 1, .int (nI j)]), .inr (9, [.int (z_bi b), .ref 2, .ref 3, .ref 4, .int (nI M)]), z_ia 20 f, z_ia 20 g, .inr (11, [.ref 5]), z_ia 7 c] [.ref 0] (fun v L => v = some (.int (1000 * nI p.1 + p.2)) ∧ L = [.inr (10, [.ref 4, .int (nI p.1), .int p.2, .ref 1, .int (nI (j + 1))]), .inr (9, [.int (z_bi b), .ref 2, .ref 3, .ref 4, .int (nI M)]), z_ia 20 f, z_ia 20 g, .inr (11, [.ref 5]), z_ia 7 c]) := by
  refine z_body hl (by decide) rfl (Nat.le_of_ble_eq_true rfl) ?_
  show z_J G l mX5_next (z_SF 12 0 0 [.inr (10, [.ref 4, .int k, .int u, .ref 1, .int (nI j)]), .inr (9, [.int (z_bi b), .ref 2, .ref 3, .ref 4, .int (nI M)]), z_ia 20 f, z_ia 20 g, .inr (11, [.ref 5]), z_ia 7 c] (fun v L => v = some (.int (1000 * nI p.1 + p.2)) ∧ L = [.inr (10, [.ref 4, .int (nI p.1), .int p.2, .ref 1, .int (nI (j + 1))]), .inr (9, [.int (z_bi b), .ref 2, .ref 3, .ref 4, .int (nI M)]), z_ia 20 f, z_ia 20 g, .inr (11, [.ref 5]), z_ia 7 c])) 0 [(0, _)] [] _ 0 0
  have hln := ht.len
  have hlt : j < T.length := (List.getElem?_eq_some_iff.mp hj).1
  have hpm : p ∈ T := List.mem_of_getElem? hj
  have hp20 := (ht.1.2 p hpm).1
  have hpv := sp_lk_mem ht.1.1 hpm
  refine j_aload_n dX5_next_0 rfl rfl ?_
  refine j_aload_n dX5_next_1 rfl rfl ?_
  refine j_getf dX5_next_2 fX5_15 rfl rfl ?_
  refine j_aload_n dX5_next_5 rfl rfl ?_
  refine j_getf dX5_next_6 fX5_21 rfl rfl ?_
  refine j_callV (q := (RX4, TX4, 5)) dX5_next_9 kX4_keyAt lX5_28 inX4_keyAt seX4_keyAt rfl rfl (z_frame [1, 2, 3, 4, 5] rfl (by decide) (Nat.le_of_ble_eq_true rfl) (c_X4_keyAt_e hl _ _ _ _ M T j p ht hM hj)) (Nat.le_of_ble_eq_true rfl) ⟨(Nat.le_of_ble_eq_true rfl), (Nat.le_of_ble_eq_true rfl)⟩ rfl (Nat.le_of_ble_eq_true rfl) rfl rfl (fun _ _ h => h.elim) ?_
  rintro _ _ ⟨_, _, ⟨rfl, rfl⟩, rfl, rfl⟩
  refine j_ws (L' := [.inr (10, [_, _, _, _, _]), .inr (9, [_, _, _, _, _]), z_ia 20 _, z_ia 20 _, .inr (11, [_]), z_ia 7 _]) (by decide) rfl rfl ?_
  refine j_put (w' := ([.inr (10, [_, _, _, _, _]), .inr (9, [_, _, _, _, _]), z_ia 20 _, z_ia 20 _, .inr (11, [_]), z_ia 7 _], z_no)) dX5_next_12 fX5_32 tX5_1 rfl ⟨rfl, rfl⟩ rfl ?_
  refine j_aload_n dX5_next_15 rfl rfl ?_
  refine j_aload_n dX5_next_16 rfl rfl ?_
  refine j_getf dX5_next_17 fX5_15 rfl rfl ?_
  refine j_aload_n dX5_next_20 rfl rfl ?_
  refine j_getf dX5_next_21 fX5_32 rfl rfl ?_
  refine j_callV (q := (RX4, TX4, 5)) dX5_next_24 kX4_look lX5_35 inX4_look seX4_look rfl rfl (z_frame [1, 2, 3, 4, 5] rfl (by decide) (Nat.le_of_ble_eq_true rfl) (c_X4_look_e hl _ _ _ _ _ T p.1 ht hp20)) (Nat.le_of_ble_eq_true rfl) ⟨(Nat.le_of_ble_eq_true rfl), (Nat.le_of_ble_eq_true rfl)⟩ rfl (Nat.le_of_ble_eq_true rfl) rfl rfl (fun _ _ h => h.elim) ?_
  rintro _ _ ⟨_, _, ⟨rfl, rfl⟩, rfl, rfl⟩
  refine j_ws (L' := [.inr (10, [_, _, _, _, _]), .inr (9, [_, _, _, _, _]), z_ia 20 _, z_ia 20 _, .inr (11, [_]), z_ia 7 _]) (by decide) rfl rfl ?_
  rw [hpv]
  refine j_put (w' := ([.inr (10, [_, _, _, _, _]), .inr (9, [_, _, _, _, _]), z_ia 20 _, z_ia 20 _, .inr (11, [_]), z_ia 7 _], z_no)) dX5_next_27 fX5_38 tX5_2 rfl ⟨rfl, rfl⟩ rfl ?_
  refine j_aload_n dX5_next_30 rfl rfl ?_
  refine j_dup dX5_next_31 rfl ?_
  refine j_getf dX5_next_32 fX5_21 rfl rfl ?_
  refine j_iconst (v := 1) dX5_next_35 (by decide) ?_
  refine j_iadd dX5_next_36 ?_
  refine j_top (congrArg Value.int (show nI (j) + nI (1) = nI (j + 1) from nI_add _ _)) ?_
  refine j_put (w' := ([.inr (10, [_, _, _, _, _]), .inr (9, [_, _, _, _, _]), z_ia 20 _, z_ia 20 _, .inr (11, [_]), z_ia 7 _], z_no)) dX5_next_37 fX5_21 tX5_4 rfl ⟨rfl, rfl⟩ rfl ?_
  refine j_sipush (v := 1000) dX5_next_40 (by decide) ?_
  refine j_aload_n dX5_next_43 rfl rfl ?_
  refine j_getf dX5_next_44 fX5_32 rfl rfl ?_
  refine j_imul dX5_next_47 ?_
  refine j_aload_n dX5_next_48 rfl rfl ?_
  refine j_getf dX5_next_49 fX5_38 rfl rfl ?_
  refine j_iadd dX5_next_52 ?_
  refine j_iret dX5_next_53 rfl rfl ?_ (Nat.le_of_ble_eq_true rfl) (Nat.le_of_ble_eq_true rfl)
  exact ⟨rfl, rfl, rfl, rfl⟩
set_option maxRecDepth 100000 in
set_option maxHeartbeats 8000000 in
theorem c_X5_putInPlace_e (hl : l.stackTraces = false) (k : Nat) (u : Int32) (j : Nat) (b : Bool) (f g c : Nat → Int32) (M : Nat) (y : Int32) (hk : k < 20) : z_CF G l mX5_putInPlace 12 0 0 [.inr (10, [.ref 4, .int (nI k), .int u, .ref 1, .int (nI j)]), .inr (9, [.int (z_bi b), .ref 2, .ref 3, .ref 4, .int (nI M)]), z_ia 20 f, z_ia 20 g, .inr (11, [.ref 5]), z_ia 7 c] [.ref 0, .int y] (fun v L => v = some (.int (z_bi true)) ∧ L = [.inr (10, [.ref 4, .int (nI k), .int u, .ref 1, .int (nI j)]), .inr (9, [.int (z_bi b), .ref 2, .ref 3, .ref 4, .int (nI M)]), z_ia 20 (z_ui f k y), z_ia 20 g, .inr (11, [.ref 5]), z_ia 7 (z_bp c 3)]) := by
  refine z_body hl (by decide) rfl (Nat.le_of_ble_eq_true rfl) ?_
  show z_J G l mX5_putInPlace (z_SF 12 0 0 [.inr (10, [.ref 4, .int (nI k), .int u, .ref 1, .int (nI j)]), .inr (9, [.int (z_bi b), .ref 2, .ref 3, .ref 4, .int (nI M)]), z_ia 20 f, z_ia 20 g, .inr (11, [.ref 5]), z_ia 7 c] (fun v L => v = some (.int (z_bi true)) ∧ L = [.inr (10, [.ref 4, .int (nI k), .int u, .ref 1, .int (nI j)]), .inr (9, [.int (z_bi b), .ref 2, .ref 3, .ref 4, .int (nI M)]), z_ia 20 (z_ui f k y), z_ia 20 g, .inr (11, [.ref 5]), z_ia 7 (z_bp c 3)])) 0 [(0, _), (1, _)] [] _ 0 0
  refine j_aload_n dX5_putInPlace_0 rfl rfl ?_
  refine j_getf dX5_putInPlace_1 fX5_41 rfl rfl ?_
  refine j_iconst (v := 3) dX5_putInPlace_4 (by decide) ?_
  refine j_callV (q := (RX6, TX6, 1)) dX5_putInPlace_5 kX6_add lX5_42 inX6_add seX6_add rfl rfl (z_frame [4, 5] rfl (by decide) (Nat.le_of_ble_eq_true rfl) (c_X6_add_e hl _ 3 (by decide))) (Nat.le_of_ble_eq_true rfl) ⟨(Nat.le_of_ble_eq_true rfl), (Nat.le_of_ble_eq_true rfl)⟩ rfl (Nat.le_of_ble_eq_true rfl) rfl rfl (fun _ _ h => h.elim) ?_
  rintro _ _ ⟨_, _, ⟨rfl, rfl⟩, rfl, rfl⟩
  refine j_ws (L' := [.inr (10, [_, _, _, _, _]), .inr (9, [_, _, _, _, _]), z_ia 20 _, z_ia 20 _, .inr (11, [_]), z_ia 7 _]) (by decide) rfl rfl ?_
  refine j_aload_n dX5_putInPlace_8 rfl rfl ?_
  refine j_getf dX5_putInPlace_9 fX5_15 rfl rfl ?_
  refine j_aload_n dX5_putInPlace_12 rfl rfl ?_
  refine j_getf dX5_putInPlace_13 fX5_32 rfl rfl ?_
  refine j_iload_n dX5_putInPlace_16 rfl ?_
  refine j_callV (q := (RX4, TX4, 5)) dX5_putInPlace_17 kX4_setValue lX5_48 inX4_setValue seX4_setValue rfl rfl (z_frame [1, 2, 3, 4, 5] rfl (by decide) (Nat.le_of_ble_eq_true rfl) (c_X4_setValm_e hl _ _ _ _ _ k _ hk)) (Nat.le_of_ble_eq_true rfl) ⟨(Nat.le_of_ble_eq_true rfl), (Nat.le_of_ble_eq_true rfl)⟩ rfl (Nat.le_of_ble_eq_true rfl) rfl rfl (fun _ _ h => h.elim) ?_
  rintro _ _ ⟨_, _, ⟨rfl, rfl⟩, rfl, rfl⟩
  refine j_ws (L' := [.inr (10, [_, _, _, _, _]), .inr (9, [_, _, _, _, _]), z_ia 20 _, z_ia 20 _, .inr (11, [_]), z_ia 7 _]) (by decide) rfl rfl ?_
  refine j_iconst (v := 1) dX5_putInPlace_20 (by decide) ?_
  refine j_iret dX5_putInPlace_21 rfl rfl ?_ (Nat.le_of_ble_eq_true rfl) (Nat.le_of_ble_eq_true rfl)
  exact ⟨rfl, rfl, rfl, rfl⟩
set_option maxRecDepth 100000 in
set_option maxHeartbeats 8000000 in
theorem c_X7_ask_X5_e (hl : l.stackTraces = false) (k u : Int32) (j : Nat) (b : Bool) (f g c : Nat → Int32) (M : Nat) (T : List (Nat × Int32)) (ht : z_tba f g T) (hM : M = T.length) (hj : j < 1000) : z_CF G l mX7_ask 13 0 0 [.inr (10, [.ref 4, .int k, .int u, .ref 1, .int (nI j)]), .inr (9, [.int (z_bi b), .ref 2, .ref 3, .ref 4, .int (nI M)]), z_ia 20 f, z_ia 20 g, .inr (11, [.ref 5]), z_ia 7 c] [.ref 0] (fun v L => v = some (.int (z_bi (decide (j < M)))) ∧ L = [.inr (10, [.ref 4, .int k, .int u, .ref 1, .int (nI j)]), .inr (9, [.int (z_bi b), .ref 2, .ref 3, .ref 4, .int (nI M)]), z_ia 20 f, z_ia 20 g, .inr (11, [.ref 5]), z_ia 7 (z_bp c 1)]) := by
  refine z_body hl (by decide) rfl (Nat.le_of_ble_eq_true rfl) ?_
  show z_J G l mX7_ask (z_SF 13 0 0 [.inr (10, [.ref 4, .int k, .int u, .ref 1, .int (nI j)]), .inr (9, [.int (z_bi b), .ref 2, .ref 3, .ref 4, .int (nI M)]), z_ia 20 f, z_ia 20 g, .inr (11, [.ref 5]), z_ia 7 c] (fun v L => v = some (.int (z_bi (decide (j < M)))) ∧ L = [.inr (10, [.ref 4, .int k, .int u, .ref 1, .int (nI j)]), .inr (9, [.int (z_bi b), .ref 2, .ref 3, .ref 4, .int (nI M)]), z_ia 20 f, z_ia 20 g, .inr (11, [.ref 5]), z_ia 7 (z_bp c 1)])) 0 [(0, _)] [] _ 0 0
  refine j_aload_n dX7_ask_0 rfl rfl ?_
  refine j_getf dX7_ask_1 fX7_9_X5 rfl rfl ?_
  refine j_iconst (v := 1) dX7_ask_4 (by decide) ?_
  refine j_callV (q := (RX6, TX6, 1)) dX7_ask_5 kX6_add lX7_15 inX6_add seX6_add rfl rfl (z_frame [4, 5] rfl (by decide) (Nat.le_of_ble_eq_true rfl) (c_X6_add_e hl _ 1 (by decide))) (Nat.le_of_ble_eq_true rfl) ⟨(Nat.le_of_ble_eq_true rfl), (Nat.le_of_ble_eq_true rfl)⟩ rfl (Nat.le_of_ble_eq_true rfl) rfl rfl (fun _ _ h => h.elim) ?_
  rintro _ _ ⟨_, _, ⟨rfl, rfl⟩, rfl, rfl⟩
  refine j_ws (L' := [.inr (10, [_, _, _, _, _]), .inr (9, [_, _, _, _, _]), z_ia 20 _, z_ia 20 _, .inr (11, [_]), z_ia 7 _]) (by decide) rfl rfl ?_
  refine j_aload_n dX7_ask_8 rfl rfl ?_
  refine j_callU (q := (RX5, TX5, 5)) dX7_ask_9 kX5_isMore cuX7_21_X5 rfl rfl (z_frame [0, 1, 2, 3, 4, 5] rfl (by decide) (Nat.le_of_ble_eq_true rfl) (c_X5_isMore_e hl _ _ j _ _ _ _ M T ht hM hj)) (Nat.le_of_ble_eq_true rfl) ⟨(Nat.le_of_ble_eq_true rfl), (Nat.le_of_ble_eq_true rfl)⟩ rfl (Nat.le_of_ble_eq_true rfl) rfl rfl (fun _ _ h => h.elim) ?_
  rintro _ _ ⟨_, _, ⟨rfl, rfl⟩, rfl, rfl⟩
  refine j_ws (L' := [.inr (10, [_, _, _, _, _]), .inr (9, [_, _, _, _, _]), z_ia 20 _, z_ia 20 _, .inr (11, [_]), z_ia 7 _]) (by decide) rfl rfl ?_
  refine j_iret dX7_ask_12 rfl (z_bn _) ?_ (Nat.le_of_ble_eq_true rfl) (Nat.le_of_ble_eq_true rfl)
  exact ⟨rfl, rfl, rfl, rfl⟩
set_option maxRecDepth 100000 in
set_option maxHeartbeats 8000000 in
theorem c_X7_give_X5_e (hl : l.stackTraces = false) (k u : Int32) (j : Nat) (b : Bool) (f g c : Nat → Int32) (M : Nat) (T : List (Nat × Int32)) (p : Nat × Int32) (ht : z_tba f g T) (hM : M = T.length) (hj : T[j]? = some p) : z_CF G l mX7_give 13 0 0 [.inr (10, [.ref 4, .int k, .int u, .ref 1, .int (nI j)]), .inr (9, [.int (z_bi b), .ref 2, .ref 3, .ref 4, .int (nI M)]), z_ia 20 f, z_ia 20 g, .inr (11, [.ref 5]), z_ia 7 c] [.ref 0] (fun v L => v = some (.int (1000 * nI p.1 + p.2)) ∧ L = [.inr (10, [.ref 4, .int (nI p.1), .int p.2, .ref 1, .int (nI (j + 1))]), .inr (9, [.int (z_bi b), .ref 2, .ref 3, .ref 4, .int (nI M)]), z_ia 20 f, z_ia 20 g, .inr (11, [.ref 5]), z_ia 7 (z_bp c 2)]) := by
  refine z_body hl (by decide) rfl (Nat.le_of_ble_eq_true rfl) ?_
  show z_J G l mX7_give (z_SF 13 0 0 [.inr (10, [.ref 4, .int k, .int u, .ref 1, .int (nI j)]), .inr (9, [.int (z_bi b), .ref 2, .ref 3, .ref 4, .int (nI M)]), z_ia 20 f, z_ia 20 g, .inr (11, [.ref 5]), z_ia 7 c] (fun v L => v = some (.int (1000 * nI p.1 + p.2)) ∧ L = [.inr (10, [.ref 4, .int (nI p.1), .int p.2, .ref 1, .int (nI (j + 1))]), .inr (9, [.int (z_bi b), .ref 2, .ref 3, .ref 4, .int (nI M)]), z_ia 20 f, z_ia 20 g, .inr (11, [.ref 5]), z_ia 7 (z_bp c 2)])) 0 [(0, _)] [] _ 0 0
  refine j_aload_n dX7_give_0 rfl rfl ?_
  refine j_getf dX7_give_1 fX7_9_X5 rfl rfl ?_
  refine j_iconst (v := 2) dX7_give_4 (by decide) ?_
  refine j_callV (q := (RX6, TX6, 1)) dX7_give_5 kX6_add lX7_15 inX6_add seX6_add rfl rfl (z_frame [4, 5] rfl (by decide) (Nat.le_of_ble_eq_true rfl) (c_X6_add_e hl _ 2 (by decide))) (Nat.le_of_ble_eq_true rfl) ⟨(Nat.le_of_ble_eq_true rfl), (Nat.le_of_ble_eq_true rfl)⟩ rfl (Nat.le_of_ble_eq_true rfl) rfl rfl (fun _ _ h => h.elim) ?_
  rintro _ _ ⟨_, _, ⟨rfl, rfl⟩, rfl, rfl⟩
  refine j_ws (L' := [.inr (10, [_, _, _, _, _]), .inr (9, [_, _, _, _, _]), z_ia 20 _, z_ia 20 _, .inr (11, [_]), z_ia 7 _]) (by decide) rfl rfl ?_
  refine j_aload_n dX7_give_8 rfl rfl ?_
  refine j_callU (q := (RX5, TX5, 5)) dX7_give_9 kX5_next cuX7_25_X5 rfl rfl (z_frame [0, 1, 2, 3, 4, 5] rfl (by decide) (Nat.le_of_ble_eq_true rfl) (c_X5_next_e hl _ _ j _ _ _ _ M T p ht hM hj)) (Nat.le_of_ble_eq_true rfl) ⟨(Nat.le_of_ble_eq_true rfl), (Nat.le_of_ble_eq_true rfl)⟩ rfl (Nat.le_of_ble_eq_true rfl) rfl rfl (fun _ _ h => h.elim) ?_
  rintro _ _ ⟨_, _, ⟨rfl, rfl⟩, rfl, rfl⟩
  refine j_ws (L' := [.inr (10, [_, _, _, _, _]), .inr (9, [_, _, _, _, _]), z_ia 20 _, z_ia 20 _, .inr (11, [_]), z_ia 7 _]) (by decide) rfl rfl ?_
  refine j_iret dX7_give_12 rfl rfl ?_ (Nat.le_of_ble_eq_true rfl) (Nat.le_of_ble_eq_true rfl)
  exact ⟨rfl, rfl, rfl, rfl⟩
set_option maxRecDepth 100000 in
set_option maxHeartbeats 8000000 in
theorem c_X8_hearOut_X5_e (hl : l.stackTraces = false) (k u : Int32) (b : Bool) (f g c : Nat → Int32) (M : Nat) (T : List (Nat × Int32)) (h : sp_H) (ef : Nat → Int32) (ht : z_tba f g T) (hM : M = T.length) (he : z_row 10 (nI h.2.length) ef h.2) : z_CF G l mX8_hearOut 15 0 0 [.inr (10, [.ref 4, .int k, .int u, .ref 1, .int (nI 0)]), .inr (9, [.int (z_bi b), .ref 2, .ref 3, .ref 4, .int (nI M)]), z_ia 20 f, z_ia 20 g, .inr (11, [.ref 5]), z_ia 7 c, .inr (5, [.ref 7, .int (nI h.2.length), .int h.1.2.1, .int h.1.2.2.1, .int h.1.2.2.2, .int h.1.1]), z_ia 10 ef] [.ref 0, .ref 6] (fun v L => v = some (.int (((sp_ho c h 0 (sp_prs T)).1.map nI).getD (-1001))) ∧ ∃ (k' : Int32) (u' : Int32) (p' : Int32) (ef' : Nat → Int32), z_row 10 (nI (sp_ho c h 0 (sp_prs T)).2.2.2.length) ef' (sp_ho c h 0 (sp_prs T)).2.2.2 ∧ L = [.inr (10, [.ref 4, .int k', .int u', .ref 1, .int p']), .inr (9, [.int (z_bi b), .ref 2, .ref 3, .ref 4, .int (nI M)]), z_ia 20 f, z_ia 20 g, .inr (11, [.ref 5]), z_ia 7 (sp_ho c h 0 (sp_prs T)).2.1, .inr (5, [.ref 7, .int (nI (sp_ho c h 0 (sp_prs T)).2.2.2.length), .int (sp_ho c h 0 (sp_prs T)).2.2.1.2.1, .int (sp_ho c h 0 (sp_prs T)).2.2.1.2.2.1, .int (sp_ho c h 0 (sp_prs T)).2.2.1.2.2.2, .int (sp_ho c h 0 (sp_prs T)).2.2.1.1]), z_ia 10 ef']) := by
  refine z_body hl (by decide) rfl (Nat.le_of_ble_eq_true rfl) ?_
  show z_J G l mX8_hearOut (z_SF 15 0 0 [.inr (10, [.ref 4, .int k, .int u, .ref 1, .int (nI 0)]), .inr (9, [.int (z_bi b), .ref 2, .ref 3, .ref 4, .int (nI M)]), z_ia 20 f, z_ia 20 g, .inr (11, [.ref 5]), z_ia 7 c, .inr (5, [.ref 7, .int (nI h.2.length), .int h.1.2.1, .int h.1.2.2.1, .int h.1.2.2.2, .int h.1.1]), z_ia 10 ef] (fun v L => v = some (.int (((sp_ho c h 0 (sp_prs T)).1.map nI).getD (-1001))) ∧ ∃ (k' : Int32) (u' : Int32) (p' : Int32) (ef' : Nat → Int32), z_row 10 (nI (sp_ho c h 0 (sp_prs T)).2.2.2.length) ef' (sp_ho c h 0 (sp_prs T)).2.2.2 ∧ L = [.inr (10, [.ref 4, .int k', .int u', .ref 1, .int p']), .inr (9, [.int (z_bi b), .ref 2, .ref 3, .ref 4, .int (nI M)]), z_ia 20 f, z_ia 20 g, .inr (11, [.ref 5]), z_ia 7 (sp_ho c h 0 (sp_prs T)).2.1, .inr (5, [.ref 7, .int (nI (sp_ho c h 0 (sp_prs T)).2.2.2.length), .int (sp_ho c h 0 (sp_prs T)).2.2.1.2.1, .int (sp_ho c h 0 (sp_prs T)).2.2.1.2.2.1, .int (sp_ho c h 0 (sp_prs T)).2.2.1.2.2.2, .int (sp_ho c h 0 (sp_prs T)).2.2.1.1]), z_ia 10 ef'])) 0 [(0, _), (1, _)] [] _ 0 0
  have hln := ht.len
  refine j_iconst (v := 0) dX8_hearOut_0 (by decide) ?_
  refine j_istore_n (lo' := [(2, _), (0, _), (1, _)]) dX8_hearOut_1 (by decide) rfl ?_
  refine j_iconst (v := 0) dX8_hearOut_2 (by decide) ?_
  refine j_istore_n (lo' := [(3, _), (2, _), (0, _), (1, _)]) dX8_hearOut_3 (by decide) rfl ?_
  have loop : ∀ (n9 : Nat) (h1 : sp_H) (c1 ef1 : Nat → Int32) (m s1 : Nat) (k1 u1 : Int32) (j1 : Nat), (j1 ≤ T.length) → (s1 ≤ j1) → (m ≤ j1) → (T.length < j1 + n9) → (z_row 10 (nI h1.2.length) ef1 h1.2) → (sp_ho c1 h1 m ((sp_prs T).drop j1) = (sp_ho c h 0 (sp_prs T))) → z_J G l mX8_hearOut (z_SF 15 0 0 [.inr (10, [.ref 4, .int k, .int u, .ref 1, .int (nI 0)]), .inr (9, [.int (z_bi b), .ref 2, .ref 3, .ref 4, .int (nI M)]), z_ia 20 f, z_ia 20 g, .inr (11, [.ref 5]), z_ia 7 c, .inr (5, [.ref 7, .int (nI h.2.length), .int h.1.2.1, .int h.1.2.2.1, .int h.1.2.2.2, .int h.1.1]), z_ia 10 ef] (fun v L => v = some (.int (((sp_ho c h 0 (sp_prs T)).1.map nI).getD (-1001))) ∧ ∃ (k' : Int32) (u' : Int32) (p' : Int32) (ef' : Nat → Int32), z_row 10 (nI (sp_ho c h 0 (sp_prs T)).2.2.2.length) ef' (sp_ho c h 0 (sp_prs T)).2.2.2 ∧ L = [.inr (10, [.ref 4, .int k', .int u', .ref 1, .int p']), .inr (9, [.int (z_bi b), .ref 2, .ref 3, .ref 4, .int (nI M)]), z_ia 20 f, z_ia 20 g, .inr (11, [.ref 5]), z_ia 7 (sp_ho c h 0 (sp_prs T)).2.1, .inr (5, [.ref 7, .int (nI (sp_ho c h 0 (sp_prs T)).2.2.2.length), .int (sp_ho c h 0 (sp_prs T)).2.2.1.2.1, .int (sp_ho c h 0 (sp_prs T)).2.2.1.2.2.1, .int (sp_ho c h 0 (sp_prs T)).2.2.1.2.2.2, .int (sp_ho c h 0 (sp_prs T)).2.2.1.1]), z_ia 10 ef'])) 4 [(0, .ref 0), (1, .ref 6), (2, .int (nI m)), (3, .int (nI s1))] [] ([.inr (10, [.ref 4, .int k1, .int u1, .ref 1, .int (nI j1)]), .inr (9, [.int (z_bi b), .ref 2, .ref 3, .ref 4, .int (nI M)]), z_ia 20 f, z_ia 20 g, .inr (11, [.ref 5]), z_ia 7 c1, .inr (5, [.ref 7, .int (nI h1.2.length), .int h1.1.2.1, .int h1.1.2.2.1, .int h1.1.2.2.2, .int h1.1.1]), z_ia 10 ef1], z_no) 0 0 := by
    intro n9
    induction n9 with
    | zero => intro h1 c1 ef1 m s1 k1 u1 j1 hj1 hs1 hm hf9 he1 ho; exact absurd hf9 (by omega)
    | succ n9 ih =>
      intro h1 c1 ef1 m s1 k1 u1 j1 hj1 hs1 hm hf9 he1 ho
      refine j_iload_n dX8_hearOut_4 rfl ?_
      refine j_sipush (v := 1000) dX8_hearOut_5 (by decide) ?_
      refine j_icmp_ge (tgt := 42) dX8_hearOut_8 (by decide) (fun c_8 => ?_) (fun c_8 => ?_)
      · have hb8 : 1000 ≤ s1 := (nI_leI (a := 1000) (b := s1) (by omega) (by omega)).mp c_8
        exact absurd hb8 (by omega)
      · have hb8 : s1 < 1000 := Nat.not_le.mp (fun z => c_8 ((nI_leI (a := 1000) (b := s1) (by omega) (by omega)).mpr z))
        refine j_aload_n dX8_hearOut_11 rfl rfl ?_
        refine j_callU (q := (RX5, TX5, 5)) dX8_hearOut_12 kX7_ask cuX8_320_X5 rfl rfl (z_frame [0, 1, 2, 3, 4, 5] rfl (by decide) (Nat.le_of_ble_eq_true rfl) (c_X7_ask_X5_e hl _ _ j1 _ _ _ _ M T ht hM (by omega))) (Nat.le_of_ble_eq_true rfl) ⟨(Nat.le_of_ble_eq_true rfl), (Nat.le_of_ble_eq_true rfl)⟩ rfl (Nat.le_of_ble_eq_true rfl) rfl rfl (fun _ _ h => h.elim) ?_
        rintro _ _ ⟨_, _, ⟨rfl, rfl⟩, rfl, rfl⟩
        refine j_ws (L' := [.inr (10, [_, _, _, _, _]), .inr (9, [_, _, _, _, _]), z_ia 20 _, z_ia 20 _, .inr (11, [_]), z_ia 7 _, .inr (5, [_, _, _, _, _, _]), z_ia 10 _]) (by decide) rfl rfl ?_
        refine j_if_eq (tgt := 42) dX8_hearOut_15 (by decide) (fun c_15 => ?_) (fun c_15 => ?_)
        · have hb15 := z_bF c_15
          have hnil : (sp_prs T).drop j1 = [] := sp_drop_nil (by rw [sp_prl]; have := of_decide_eq_false hb15; omega)
          rw [hnil] at ho
          refine j_iload_n dX8_hearOut_42 rfl ?_
          refine j_iret dX8_hearOut_43 rfl rfl ?_ (Nat.le_of_ble_eq_true rfl) (Nat.le_of_ble_eq_true rfl)
          exact ⟨rfl, rfl, (by rw [← ho]; rfl), _, _, _, _, (by rw [← ho]; exact he1), (by rw [← ho]; rfl)⟩
        · have hb15 := z_bt c_15
          obtain ⟨p1, hp1, hpm1⟩ := sp_gt (T := T) (j := j1) (by have := of_decide_eq_true hb15; omega)
          have hjl := (List.getElem?_eq_some_iff.mp hp1).1
          rw [sp_prd hp1] at ho
          refine j_aload_n dX8_hearOut_18 rfl rfl ?_
          refine j_aload_n dX8_hearOut_19 rfl rfl ?_
          refine j_callU (q := (RX5, TX5, 5)) dX8_hearOut_20 kX7_give cuX8_315_X5 rfl rfl (z_frame [0, 1, 2, 3, 4, 5] rfl (by decide) (Nat.le_of_ble_eq_true rfl) (c_X7_give_X5_e hl _ _ j1 _ _ _ _ M T p1 ht hM hp1)) (Nat.le_of_ble_eq_true rfl) ⟨(Nat.le_of_ble_eq_true rfl), (Nat.le_of_ble_eq_true rfl)⟩ rfl (Nat.le_of_ble_eq_true rfl) rfl rfl (fun _ _ h => h.elim) ?_
          rintro _ _ ⟨_, _, ⟨rfl, rfl⟩, rfl, rfl⟩
          refine j_ws (L' := [.inr (10, [_, _, _, _, _]), .inr (9, [_, _, _, _, _]), z_ia 20 _, z_ia 20 _, .inr (11, [_]), z_ia 7 _, .inr (5, [_, _, _, _, _, _]), z_ia 10 _]) (by decide) rfl rfl ?_
          refine j_callV (q := (RX0, TX0, 6)) dX8_hearOut_23 kX0_takesIn lX8_323 inX0_takesIn seX0_takesIn rfl rfl (z_frame [6, 7] rfl (by decide) (Nat.le_of_ble_eq_true rfl) (c_X0_takesIn_e hl h1 _ (1000 * nI p1.1 + p1.2) he1)) (Nat.le_of_ble_eq_true rfl) ⟨(Nat.le_of_ble_eq_true rfl), (Nat.le_of_ble_eq_true rfl)⟩ rfl (Nat.le_of_ble_eq_true rfl) rfl rfl (fun _ _ h => h.elim) ?_
          rintro _ _ ⟨_, _, ⟨rfl, ef2, hf9e, rfl⟩, rfl, rfl⟩
          refine j_ws (L' := [.inr (10, [_, _, _, _, _]), .inr (9, [_, _, _, _, _]), z_ia 20 _, z_ia 20 _, .inr (11, [_]), z_ia 7 _, .inr (5, [_, _, _, _, _, _]), z_ia 10 _]) (by decide) rfl rfl ?_
          refine j_if_ne (tgt := 33) dX8_hearOut_26 (by decide) (fun c_26 => ?_) (fun c_26 => ?_)
          · have hb26 := z_bt c_26
            rw [sp_hoS2 hb26] at ho
            refine j_iinc (lo' := [(2, _), (0, _), (1, _), (3, _)]) dX8_hearOut_33 rfl (z_inc _) (by decide) rfl ?_
            refine j_iinc (lo' := [(3, _), (2, _), (0, _), (1, _)]) dX8_hearOut_36 rfl (z_inc _) (by decide) rfl ?_
            refine j_goto (tgt := 4) dX8_hearOut_39 (by decide) ?_
            exact j_lo2 (ih _ _ _ (m + 1) (s1 + 1) _ _ (j1 + 1) (by omega) (by omega) (by omega) (by omega) hf9e ho) (z_q1 rfl (z_q1 rfl (z_q1 rfl (z_q1 rfl z_q0))))
          · have hb26 := z_bF c_26
            rw [sp_hoN2 hb26] at ho
            refine j_sipush (v := (-1001)) dX8_hearOut_29 (by decide) ?_
            refine j_iret dX8_hearOut_32 rfl rfl ?_ (Nat.le_of_ble_eq_true rfl) (Nat.le_of_ble_eq_true rfl)
            exact ⟨rfl, rfl, (by rw [← ho]; rfl), _, _, _, _, (by rw [← ho]; exact hf9e), (by rw [← ho] <;> rfl)⟩
  exact j_lo2 (loop (T.length + 1) h c ef 0 0 k u 0 (by omega) (by omega) (by omega) (by omega) he rfl) (z_q1 rfl (z_q1 rfl (z_q1 rfl (z_q1 rfl z_q0))))
set_option maxRecDepth 100000 in
set_option maxHeartbeats 8000000 in
theorem c_X8_changeEach_X5_e (hl : l.stackTraces = false) (k u : Int32) (b : Bool) (f g c : Nat → Int32) (M : Nat) (T : List (Nat × Int32)) (r n : Int32) (ht : z_tba f g T) (hM : M = T.length) (hr2n : ¬ r = 2) (hr3n : ¬ r = 3) (hn : z_vl n) : z_CF G l mX8_changeEach 15 0 0 [.inr (10, [.ref 4, .int k, .int u, .ref 1, .int (nI 0)]), .inr (9, [.int (z_bi b), .ref 2, .ref 3, .ref 4, .int (nI M)]), z_ia 20 f, z_ia 20 g, .inr (11, [.ref 5]), z_ia 7 c] [.ref 0, .int r, .int n] (fun v L => v = some (.int (z_bi (sp_rt r n c [] T).1)) ∧ ∃ (k' u' p' : Int32) (f' : Nat → Int32), z_tba f' g (sp_rt r n c [] T).2.2 ∧ L = [.inr (10, [.ref 4, .int k', .int u', .ref 1, .int p']), .inr (9, [.int (z_bi b), .ref 2, .ref 3, .ref 4, .int (nI (sp_rt r n c [] T).2.2.length)]), z_ia 20 f', z_ia 20 g, .inr (11, [.ref 5]), z_ia 7 (sp_rt r n c [] T).2.1]) := by
  refine z_body hl (by decide) rfl (Nat.le_of_ble_eq_true rfl) ?_
  show z_J G l mX8_changeEach (z_SF 15 0 0 [.inr (10, [.ref 4, .int k, .int u, .ref 1, .int (nI 0)]), .inr (9, [.int (z_bi b), .ref 2, .ref 3, .ref 4, .int (nI M)]), z_ia 20 f, z_ia 20 g, .inr (11, [.ref 5]), z_ia 7 c] (fun v L => v = some (.int (z_bi (sp_rt r n c [] T).1)) ∧ ∃ (k' u' p' : Int32) (f' : Nat → Int32), z_tba f' g (sp_rt r n c [] T).2.2 ∧ L = [.inr (10, [.ref 4, .int k', .int u', .ref 1, .int p']), .inr (9, [.int (z_bi b), .ref 2, .ref 3, .ref 4, .int (nI (sp_rt r n c [] T).2.2.length)]), z_ia 20 f', z_ia 20 g, .inr (11, [.ref 5]), z_ia 7 (sp_rt r n c [] T).2.1])) 0 [(0, _), (1, _), (2, _)] [] _ 0 0
  have hln := ht.len
  refine j_iconst (v := 0) dX8_changeEach_0 (by decide) ?_
  refine j_istore_n (lo' := [(3, _), (0, _), (1, _), (2, _)]) dX8_changeEach_1 (by decide) rfl ?_
  have loop : ∀ (n9 : Nat) (f1 c1 : Nat → Int32) (k1 u1 : Int32) (A D : List (Nat × Int32)) (q1 s1 : Nat), (z_tba f1 g (A ++ D)) → (M = (A ++ D).length) → (sp_rt r n c1 A D = (sp_rt r n c [] T)) → (q1 = A.length) → (s1 = A.length) → (D.length < n9) → z_J G l mX8_changeEach (z_SF 15 0 0 [.inr (10, [.ref 4, .int k, .int u, .ref 1, .int (nI 0)]), .inr (9, [.int (z_bi b), .ref 2, .ref 3, .ref 4, .int (nI M)]), z_ia 20 f, z_ia 20 g, .inr (11, [.ref 5]), z_ia 7 c] (fun v L => v = some (.int (z_bi (sp_rt r n c [] T).1)) ∧ ∃ (k' u' p' : Int32) (f' : Nat → Int32), z_tba f' g (sp_rt r n c [] T).2.2 ∧ L = [.inr (10, [.ref 4, .int k', .int u', .ref 1, .int p']), .inr (9, [.int (z_bi b), .ref 2, .ref 3, .ref 4, .int (nI (sp_rt r n c [] T).2.2.length)]), z_ia 20 f', z_ia 20 g, .inr (11, [.ref 5]), z_ia 7 (sp_rt r n c [] T).2.1])) 2 [(0, .ref 0), (1, .int r), (2, .int n), (3, .int (nI s1))] [] ([.inr (10, [.ref 4, .int k1, .int u1, .ref 1, .int (nI q1)]), .inr (9, [.int (z_bi b), .ref 2, .ref 3, .ref 4, .int (nI M)]), z_ia 20 f1, z_ia 20 g, .inr (11, [.ref 5]), z_ia 7 c1], z_no) 0 0 := by
    intro n9
    induction n9 with
    | zero => intro f1 c1 k1 u1 A D q1 s1 ht1 hBl ho hq1 hs1 hf9; exact absurd hf9 (by omega)
    | succ n9 ih =>
      intro f1 c1 k1 u1 A D q1 s1 ht1 hBl ho hq1 hs1 hf9
      have hAD : (A ++ D).length = A.length + D.length := List.length_append
      have h20 := ht1.len
      refine j_iload_n dX8_changeEach_2 rfl ?_
      refine j_sipush (v := 1000) dX8_changeEach_3 (by decide) ?_
      refine j_icmp_ge (tgt := 61) dX8_changeEach_6 (by decide) (fun c_6 => ?_) (fun c_6 => ?_)
      · have hb6 : 1000 ≤ s1 := (nI_leI (a := 1000) (b := s1) (by omega) (by omega)).mp c_6
        exact absurd hb6 (by have := ht1.len; rw [List.length_append] at this; omega)
      · have hb6 : s1 < 1000 := Nat.not_le.mp (fun z => c_6 ((nI_leI (a := 1000) (b := s1) (by omega) (by omega)).mpr z))
        refine j_aload_n dX8_changeEach_9 rfl rfl ?_
        refine j_callU (q := (RX5, TX5, 5)) dX8_changeEach_10 kX7_ask cuX8_320_X5 rfl rfl (z_frame [0, 1, 2, 3, 4, 5] rfl (by decide) (Nat.le_of_ble_eq_true rfl) (c_X7_ask_X5_e hl _ _ q1 _ _ _ _ M (A ++ D) ht1 hBl (by have := ht1.len; rw [List.length_append] at this; omega))) (Nat.le_of_ble_eq_true rfl) ⟨(Nat.le_of_ble_eq_true rfl), (Nat.le_of_ble_eq_true rfl)⟩ rfl (Nat.le_of_ble_eq_true rfl) rfl rfl (fun _ _ h => h.elim) ?_
        rintro _ _ ⟨_, _, ⟨rfl, rfl⟩, rfl, rfl⟩
        refine j_ws (L' := [.inr (10, [_, _, _, _, _]), .inr (9, [_, _, _, _, _]), z_ia 20 _, z_ia 20 _, .inr (11, [_]), z_ia 7 _]) (by decide) rfl rfl ?_
        refine j_if_eq (tgt := 61) dX8_changeEach_13 (by decide) (fun c_13 => ?_) (fun c_13 => ?_)
        · have hb13 := z_bF c_13
          have hD := sp_cut (A := A) (D := D) (by have := of_decide_eq_false hb13; omega)
          subst hD
          rw [List.append_nil] at ht1 hBl
          refine j_iconst (v := 1) dX8_changeEach_61 (by decide) ?_
          refine j_iret dX8_changeEach_62 rfl rfl ?_ (Nat.le_of_ble_eq_true rfl) (Nat.le_of_ble_eq_true rfl)
          exact ⟨rfl, rfl, (by rw [← ho]; rfl), _, _, _, _, (by rw [← ho]; exact ht1), (by rw [← ho, hBl]; rfl)⟩
        · have hb13 := z_bt c_13
          obtain ⟨p1, D1, hD⟩ := sp_cons (A := A) (D := D) (by have := of_decide_eq_true hb13; omega)
          subst hD
          have hp1 : (A ++ p1 :: D1)[q1]? = some p1 := by rw [hq1]; exact sp_gmid
          have hpo := ht1.1.2 p1 (List.mem_append_right _ List.mem_cons_self)
          have hlm := sp_lmid (A := A) (D := D1) (v := p1)
          rw [List.length_cons] at hf9
          refine j_aload_n dX8_changeEach_16 rfl rfl ?_
          refine j_callU (q := (RX5, TX5, 5)) dX8_changeEach_17 kX7_give cuX8_315_X5 rfl rfl (z_frame [0, 1, 2, 3, 4, 5] rfl (by decide) (Nat.le_of_ble_eq_true rfl) (c_X7_give_X5_e hl _ _ q1 _ _ _ _ M (A ++ p1 :: D1) p1 ht1 hBl hp1)) (Nat.le_of_ble_eq_true rfl) ⟨(Nat.le_of_ble_eq_true rfl), (Nat.le_of_ble_eq_true rfl)⟩ rfl (Nat.le_of_ble_eq_true rfl) rfl rfl (fun _ _ h => h.elim) ?_
          rintro _ _ ⟨_, _, ⟨rfl, rfl⟩, rfl, rfl⟩
          refine j_ws (L' := [.inr (10, [_, _, _, _, _]), .inr (9, [_, _, _, _, _]), z_ia 20 _, z_ia 20 _, .inr (11, [_]), z_ia 7 _]) (by decide) rfl rfl ?_
          refine j_pop dX8_changeEach_20 rfl ?_
          refine j_iload_n dX8_changeEach_21 rfl ?_
          refine j_aload_n dX8_changeEach_22 rfl rfl ?_
          refine j_getf dX8_changeEach_23 fX8_326_X5 rfl rfl ?_
          refine j_aload_n dX8_changeEach_26 rfl rfl ?_
          refine j_getf dX8_changeEach_27 fX8_329_X5 rfl rfl ?_
          refine j_iload_n dX8_changeEach_30 rfl ?_
          refine j_callS dX8_changeEach_31 kX8_ruleTells lX8_237 stX8_ruleTells (c_X8_ruleTells_e hl _ _ _ _ _) (Nat.le_of_ble_eq_true rfl) ⟨(Nat.le_of_ble_eq_true rfl), (Nat.le_of_ble_eq_true rfl)⟩ rfl (Nat.le_of_ble_eq_true rfl) rfl rfl (fun _ _ h => h.elim) ?_
          rintro _ _ ⟨rfl, rfl⟩
          rw [q_dn (sp_vln hpo.2)]
          refine j_istore (lo' := [(4, _), (0, _), (1, _), (2, _), (3, _)]) dX8_changeEach_34 (by decide) rfl ?_
          refine j_iload dX8_changeEach_36 rfl ?_
          refine j_sipush (v := (-1001)) dX8_changeEach_38 (by decide) ?_
          refine j_icmp_eq (tgt := 53) dX8_changeEach_41 (by decide) (fun c_41 => ?_) (fun c_41 => ?_)
          · have hq0 := q_gn (m := -1001) (fun y hy => q_rtm hpo.2 hn hy) c_41
            rw [sp_rtN hq0] at ho
            refine j_iconst (v := 0) dX8_changeEach_53 (by decide) ?_
            refine j_iret dX8_changeEach_54 rfl rfl ?_ (Nat.le_of_ble_eq_true rfl) (Nat.le_of_ble_eq_true rfl)
            exact ⟨rfl, rfl, (by rw [← ho]; rfl), _, _, _, _, (by rw [← ho]; exact ht1), (by rw [← ho, hBl] <;> rfl)⟩
          · have hq0 := q_gs (m := -1001) c_41
            rw [sp_rtS hq0] at ho
            have hyv := q_rt_v hr2n hr3n hpo.2 hn hq0
            refine j_aload_n dX8_changeEach_44 rfl rfl ?_
            refine j_iload dX8_changeEach_45 rfl ?_
            refine j_callU (q := (RX5, TX5, 5)) dX8_changeEach_47 kX5_putInPlace cuX8_332_X5 rfl rfl (z_frame [0, 1, 2, 3, 4, 5] rfl (by decide) (Nat.le_of_ble_eq_true rfl) (c_X5_putInPlace_e hl p1.1 _ _ _ _ _ _ _ _ hpo.1)) (Nat.le_of_ble_eq_true rfl) ⟨(Nat.le_of_ble_eq_true rfl), (Nat.le_of_ble_eq_true rfl)⟩ rfl (Nat.le_of_ble_eq_true rfl) rfl rfl (fun _ _ h => h.elim) ?_
            rintro _ _ ⟨_, _, ⟨rfl, rfl⟩, rfl, rfl⟩
            refine j_ws (L' := [.inr (10, [_, _, _, _, _]), .inr (9, [_, _, _, _, _]), z_ia 20 _, z_ia 20 _, .inr (11, [_]), z_ia 7 _]) (by decide) rfl rfl ?_
            refine j_if_ne (tgt := 55) dX8_changeEach_50 (by decide) (fun c_50 => ?_) (fun c_50 => ?_)
            · have hb50 := z_bt c_50
              refine j_iinc (lo' := [(3, _), (4, _), (0, _), (1, _), (2, _)]) dX8_changeEach_55 rfl (z_inc _) (by decide) rfl ?_
              refine j_goto (tgt := 2) dX8_changeEach_58 (by decide) ?_
              exact j_lo2 (ih _ _ _ _ (A ++ [(p1.1, ((q_rt r (nI p1.1) p1.2 n).getD (-1001)))]) D1 (q1 + 1) (s1 + 1) (by rw [← sp_mid]; exact ht1.put hyv) (sp_midl hBl) ho (by rw [List.length_append, hq1]; rfl) (by rw [List.length_append, hs1]; rfl) (by omega)) (z_q1 rfl (z_q1 rfl (z_q1 rfl (z_q1 rfl z_q0))))
            · have hb50 := z_bF c_50
              cases hb50
  exact j_lo2 (loop (T.length + 1) f c k u [] T 0 0 ht hM rfl rfl rfl (by omega)) (z_q1 rfl (z_q1 rfl (z_q1 rfl (z_q1 rfl z_q0))))
end ZCwt
end ZM8
section ZM9
section ZCws
variable {G : z_G} {l : Launch}
set_option maxRecDepth 100000 in
set_option maxHeartbeats 8000000 in
theorem c_X3_isMore_e (hl : l.stackTraces = false) (k u t b a : Int32) (c : Nat → Int32)  : z_CF G l mX3_isMore 10 0 0 [.inr (8, [.ref 1, .int k, .int u, .int t, .int b, .int a]), .inr (11, [.ref 2]), z_ia 7 c] [.ref 0] (fun v L => v = some (.int (z_bi (decide (a ≤ t)))) ∧ L = [.inr (8, [.ref 1, .int k, .int u, .int t, .int b, .int a]), .inr (11, [.ref 2]), z_ia 7 c]) := by
  refine z_body hl (by decide) rfl (Nat.le_of_ble_eq_true rfl) ?_
  show z_J G l mX3_isMore (z_SF 10 0 0 [.inr (8, [.ref 1, .int k, .int u, .int t, .int b, .int a]), .inr (11, [.ref 2]), z_ia 7 c] (fun v L => v = some (.int (z_bi (decide (a ≤ t)))) ∧ L = [.inr (8, [.ref 1, .int k, .int u, .int t, .int b, .int a]), .inr (11, [.ref 2]), z_ia 7 c])) 0 [(0, _)] [] _ 0 0
  refine j_aload_n dX3_isMore_0 rfl rfl ?_
  refine j_getf dX3_isMore_1 fX3_12 rfl rfl ?_
  refine j_aload_n dX3_isMore_4 rfl rfl ?_
  refine j_getf dX3_isMore_5 fX3_18 rfl rfl ?_
  refine j_icmp_gt (tgt := 15) dX3_isMore_8 (by decide) (fun c_8 => ?_) (fun c_8 => ?_)
  · refine j_iconst (v := 0) dX3_isMore_15 (by decide) ?_
    refine j_iret dX3_isMore_16 rfl rfl ?_ (Nat.le_of_ble_eq_true rfl) (Nat.le_of_ble_eq_true rfl)
    first | exact ⟨rfl, rfl, by rw [q_b1 (Int32.not_lt.mp c_8)], rfl⟩ | exact ⟨rfl, rfl, by rw [q_b0 (Int32.not_le.mpr c_8)], rfl⟩
  · refine j_iconst (v := 1) dX3_isMore_11 (by decide) ?_
    refine j_goto (tgt := 16) dX3_isMore_12 (by decide) ?_
    refine j_iret dX3_isMore_16 rfl rfl ?_ (Nat.le_of_ble_eq_true rfl) (Nat.le_of_ble_eq_true rfl)
    first | exact ⟨rfl, rfl, by rw [q_b1 (Int32.not_lt.mp c_8)], rfl⟩ | exact ⟨rfl, rfl, by rw [q_b0 (Int32.not_le.mpr c_8)], rfl⟩
set_option maxRecDepth 100000 in
set_option maxHeartbeats 8000000 in
theorem c_X3_next_e (hl : l.stackTraces = false) (k u t b a : Int32) (c : Nat → Int32)  : z_CF G l mX3_next 12 0 0 [.inr (8, [.ref 1, .int k, .int u, .int t, .int b, .int a]), .inr (11, [.ref 2]), z_ia 7 c] [.ref 0] (fun v L => v = some (.int a) ∧ L = [.inr (8, [.ref 1, .int k, .int a, .int t, .int b, .int (a + b)]), .inr (11, [.ref 2]), z_ia 7 c]) := by
  refine z_body hl (by decide) rfl (Nat.le_of_ble_eq_true rfl) ?_
  show z_J G l mX3_next (z_SF 12 0 0 [.inr (8, [.ref 1, .int k, .int u, .int t, .int b, .int a]), .inr (11, [.ref 2]), z_ia 7 c] (fun v L => v = some (.int a) ∧ L = [.inr (8, [.ref 1, .int k, .int a, .int t, .int b, .int (a + b)]), .inr (11, [.ref 2]), z_ia 7 c])) 0 [(0, _)] [] _ 0 0
  refine j_aload_n dX3_next_0 rfl rfl ?_
  refine j_aload_n dX3_next_1 rfl rfl ?_
  refine j_getf dX3_next_2 fX3_12 rfl rfl ?_
  refine j_put (w' := ([.inr (8, [_, _, _, _, _, _]), .inr (11, [_]), z_ia 7 _], z_no)) dX3_next_5 fX3_24 tX3_2 rfl ⟨rfl, rfl⟩ rfl ?_
  refine j_aload_n dX3_next_8 rfl rfl ?_
  refine j_dup dX3_next_9 rfl ?_
  refine j_getf dX3_next_10 fX3_12 rfl rfl ?_
  refine j_aload_n dX3_next_13 rfl rfl ?_
  refine j_getf dX3_next_14 fX3_21 rfl rfl ?_
  refine j_iadd dX3_next_17 ?_
  refine j_put (w' := ([.inr (8, [_, _, _, _, _, _]), .inr (11, [_]), z_ia 7 _], z_no)) dX3_next_18 fX3_12 tX3_5 rfl ⟨rfl, rfl⟩ rfl ?_
  refine j_aload_n dX3_next_21 rfl rfl ?_
  refine j_getf dX3_next_22 fX3_24 rfl rfl ?_
  refine j_iret dX3_next_25 rfl rfl ?_ (Nat.le_of_ble_eq_true rfl) (Nat.le_of_ble_eq_true rfl)
  exact ⟨rfl, rfl, rfl, rfl⟩
set_option maxRecDepth 100000 in
set_option maxHeartbeats 8000000 in
theorem c_X7_ask_X3_e (hl : l.stackTraces = false) (k u t b a : Int32) (c : Nat → Int32)  : z_CF G l mX7_ask 13 0 0 [.inr (8, [.ref 1, .int k, .int u, .int t, .int b, .int a]), .inr (11, [.ref 2]), z_ia 7 c] [.ref 0] (fun v L => v = some (.int (z_bi (decide (a ≤ t)))) ∧ L = [.inr (8, [.ref 1, .int k, .int u, .int t, .int b, .int a]), .inr (11, [.ref 2]), z_ia 7 (z_bp c 1)]) := by
  refine z_body hl (by decide) rfl (Nat.le_of_ble_eq_true rfl) ?_
  show z_J G l mX7_ask (z_SF 13 0 0 [.inr (8, [.ref 1, .int k, .int u, .int t, .int b, .int a]), .inr (11, [.ref 2]), z_ia 7 c] (fun v L => v = some (.int (z_bi (decide (a ≤ t)))) ∧ L = [.inr (8, [.ref 1, .int k, .int u, .int t, .int b, .int a]), .inr (11, [.ref 2]), z_ia 7 (z_bp c 1)])) 0 [(0, _)] [] _ 0 0
  refine j_aload_n dX7_ask_0 rfl rfl ?_
  refine j_getf dX7_ask_1 fX7_9_X3 rfl rfl ?_
  refine j_iconst (v := 1) dX7_ask_4 (by decide) ?_
  refine j_callV (q := (RX6, TX6, 1)) dX7_ask_5 kX6_add lX7_15 inX6_add seX6_add rfl rfl (z_frame [1, 2] rfl (by decide) (Nat.le_of_ble_eq_true rfl) (c_X6_add_e hl _ 1 (by decide))) (Nat.le_of_ble_eq_true rfl) ⟨(Nat.le_of_ble_eq_true rfl), (Nat.le_of_ble_eq_true rfl)⟩ rfl (Nat.le_of_ble_eq_true rfl) rfl rfl (fun _ _ h => h.elim) ?_
  rintro _ _ ⟨_, _, ⟨rfl, rfl⟩, rfl, rfl⟩
  refine j_ws (L' := [.inr (8, [_, _, _, _, _, _]), .inr (11, [_]), z_ia 7 _]) (by decide) rfl rfl ?_
  refine j_aload_n dX7_ask_8 rfl rfl ?_
  refine j_callU (q := (RX3, TX3, 6)) dX7_ask_9 kX3_isMore cuX7_21_X3 rfl rfl (z_frame [0, 1, 2] rfl (by decide) (Nat.le_of_ble_eq_true rfl) (c_X3_isMore_e hl _ _ _ _ _ _)) (Nat.le_of_ble_eq_true rfl) ⟨(Nat.le_of_ble_eq_true rfl), (Nat.le_of_ble_eq_true rfl)⟩ rfl (Nat.le_of_ble_eq_true rfl) rfl rfl (fun _ _ h => h.elim) ?_
  rintro _ _ ⟨_, _, ⟨rfl, rfl⟩, rfl, rfl⟩
  refine j_ws (L' := [.inr (8, [_, _, _, _, _, _]), .inr (11, [_]), z_ia 7 _]) (by decide) rfl rfl ?_
  refine j_iret dX7_ask_12 rfl (z_bn _) ?_ (Nat.le_of_ble_eq_true rfl) (Nat.le_of_ble_eq_true rfl)
  exact ⟨rfl, rfl, rfl, rfl⟩
set_option maxRecDepth 100000 in
set_option maxHeartbeats 8000000 in
theorem c_X7_give_X3_e (hl : l.stackTraces = false) (k u t b a : Int32) (c : Nat → Int32)  : z_CF G l mX7_give 13 0 0 [.inr (8, [.ref 1, .int k, .int u, .int t, .int b, .int a]), .inr (11, [.ref 2]), z_ia 7 c] [.ref 0] (fun v L => v = some (.int a) ∧ L = [.inr (8, [.ref 1, .int k, .int a, .int t, .int b, .int (a + b)]), .inr (11, [.ref 2]), z_ia 7 (z_bp c 2)]) := by
  refine z_body hl (by decide) rfl (Nat.le_of_ble_eq_true rfl) ?_
  show z_J G l mX7_give (z_SF 13 0 0 [.inr (8, [.ref 1, .int k, .int u, .int t, .int b, .int a]), .inr (11, [.ref 2]), z_ia 7 c] (fun v L => v = some (.int a) ∧ L = [.inr (8, [.ref 1, .int k, .int a, .int t, .int b, .int (a + b)]), .inr (11, [.ref 2]), z_ia 7 (z_bp c 2)])) 0 [(0, _)] [] _ 0 0
  refine j_aload_n dX7_give_0 rfl rfl ?_
  refine j_getf dX7_give_1 fX7_9_X3 rfl rfl ?_
  refine j_iconst (v := 2) dX7_give_4 (by decide) ?_
  refine j_callV (q := (RX6, TX6, 1)) dX7_give_5 kX6_add lX7_15 inX6_add seX6_add rfl rfl (z_frame [1, 2] rfl (by decide) (Nat.le_of_ble_eq_true rfl) (c_X6_add_e hl _ 2 (by decide))) (Nat.le_of_ble_eq_true rfl) ⟨(Nat.le_of_ble_eq_true rfl), (Nat.le_of_ble_eq_true rfl)⟩ rfl (Nat.le_of_ble_eq_true rfl) rfl rfl (fun _ _ h => h.elim) ?_
  rintro _ _ ⟨_, _, ⟨rfl, rfl⟩, rfl, rfl⟩
  refine j_ws (L' := [.inr (8, [_, _, _, _, _, _]), .inr (11, [_]), z_ia 7 _]) (by decide) rfl rfl ?_
  refine j_aload_n dX7_give_8 rfl rfl ?_
  refine j_callU (q := (RX3, TX3, 6)) dX7_give_9 kX3_next cuX7_25_X3 rfl rfl (z_frame [0, 1, 2] rfl (by decide) (Nat.le_of_ble_eq_true rfl) (c_X3_next_e hl _ _ _ _ _ _)) (Nat.le_of_ble_eq_true rfl) ⟨(Nat.le_of_ble_eq_true rfl), (Nat.le_of_ble_eq_true rfl)⟩ rfl (Nat.le_of_ble_eq_true rfl) rfl rfl (fun _ _ h => h.elim) ?_
  rintro _ _ ⟨_, _, ⟨rfl, rfl⟩, rfl, rfl⟩
  refine j_ws (L' := [.inr (8, [_, _, _, _, _, _]), .inr (11, [_]), z_ia 7 _]) (by decide) rfl rfl ?_
  refine j_iret dX7_give_12 rfl rfl ?_ (Nat.le_of_ble_eq_true rfl) (Nat.le_of_ble_eq_true rfl)
  exact ⟨rfl, rfl, rfl, rfl⟩
set_option maxRecDepth 100000 in
set_option maxHeartbeats 8000000 in
theorem c_X8_passBy_X3_e (hl : l.stackTraces = false) (k u t b a : Int32) (c : Nat → Int32) (j d : Nat) (hd : d < 1000) : z_CF G l mX8_passBy 15 0 0 [.inr (8, [.ref 1, .int k, .int u, .int t, .int b, .int (a + nI j * b)]), .inr (11, [.ref 2]), z_ia 7 c] [.ref 0, .int (nI d)] (fun v L => v = none ∧ ∃ (u' : Int32) (c' : Nat → Int32), L = [.inr (8, [.ref 1, .int k, .int u', .int t, .int b, .int (a + nI (j + d) * b)]), .inr (11, [.ref 2]), z_ia 7 c']) := by
  refine z_body hl (by decide) rfl (Nat.le_of_ble_eq_true rfl) ?_
  show z_J G l mX8_passBy (z_SF 15 0 0 [.inr (8, [.ref 1, .int k, .int u, .int t, .int b, .int (a + nI j * b)]), .inr (11, [.ref 2]), z_ia 7 c] (fun v L => v = none ∧ ∃ (u' : Int32) (c' : Nat → Int32), L = [.inr (8, [.ref 1, .int k, .int u', .int t, .int b, .int (a + nI (j + d) * b)]), .inr (11, [.ref 2]), z_ia 7 c'])) 0 [(0, _), (1, _)] [] _ 0 0
  refine j_iconst (v := 0) dX8_passBy_0 (by decide) ?_
  refine j_istore_n (lo' := [(2, _), (0, _), (1, _)]) dX8_passBy_1 (by decide) rfl ?_
  have loop : ∀ (n9 : Nat) (u' : Int32) (c' : Nat → Int32) (i : Nat), (i ≤ d) → (d < i + n9) → z_J G l mX8_passBy (z_SF 15 0 0 [.inr (8, [.ref 1, .int k, .int u, .int t, .int b, .int (a + nI j * b)]), .inr (11, [.ref 2]), z_ia 7 c] (fun v L => v = none ∧ ∃ (u' : Int32) (c' : Nat → Int32), L = [.inr (8, [.ref 1, .int k, .int u', .int t, .int b, .int (a + nI (j + d) * b)]), .inr (11, [.ref 2]), z_ia 7 c'])) 2 [(0, .ref 0), (1, .int (nI d)), (2, .int (nI i))] [] ([.inr (8, [.ref 1, .int k, .int u', .int t, .int b, .int (a + nI (j + i) * b)]), .inr (11, [.ref 2]), z_ia 7 c'], z_no) 0 0 := by
    intro n9
    induction n9 with
    | zero => intro u' c' i hi hf9; exact absurd hf9 (by omega)
    | succ n9 ih =>
      intro u' c' i hi hf9
      refine j_iload_n dX8_passBy_2 rfl ?_
      refine j_iload_n dX8_passBy_3 rfl ?_
      refine j_icmp_ge (tgt := 18) dX8_passBy_4 (by decide) (fun c_4 => ?_) (fun c_4 => ?_)
      · have hb4 : d ≤ i := (nI_leI (a := d) (b := i) (by omega) (by omega)).mp c_4
        have hia : i = d := by omega
        subst hia
        refine j_vret dX8_passBy_18 rfl ?_ (Nat.le_of_ble_eq_true rfl) (Nat.le_of_ble_eq_true rfl)
        exact ⟨rfl, rfl, rfl, _, _, rfl⟩
      · have hb4 : i < d := Nat.not_le.mp (fun z => c_4 ((nI_leI (a := d) (b := i) (by omega) (by omega)).mpr z))
        refine j_aload_n dX8_passBy_7 rfl rfl ?_
        refine j_callU (q := (RX3, TX3, 6)) dX8_passBy_8 kX7_give cuX8_315_X3 rfl rfl (z_frame [0, 1, 2] rfl (by decide) (Nat.le_of_ble_eq_true rfl) (c_X7_give_X3_e hl _ _ _ _ (a + nI (j + i) * b) _)) (Nat.le_of_ble_eq_true rfl) ⟨(Nat.le_of_ble_eq_true rfl), (Nat.le_of_ble_eq_true rfl)⟩ rfl (Nat.le_of_ble_eq_true rfl) rfl rfl (fun _ _ h => h.elim) ?_
        rintro _ _ ⟨_, _, ⟨rfl, rfl⟩, rfl, rfl⟩
        refine j_ws (L' := [.inr (8, [_, _, _, _, _, _]), .inr (11, [_]), z_ia 7 _]) (by decide) rfl rfl ?_
        rw [sp_stp]
        refine j_pop dX8_passBy_11 rfl ?_
        refine j_iinc (lo' := [(2, _), (0, _), (1, _)]) dX8_passBy_12 rfl (z_inc _) (by decide) rfl ?_
        refine j_goto (tgt := 2) dX8_passBy_15 (by decide) ?_
        exact j_lo2 (ih _ _ (i + 1) (by omega) (by omega)) (z_q1 rfl (z_q1 rfl (z_q1 rfl z_q0)))
  exact j_lo2 (loop (d + 1) _ _ 0 (by omega) (by omega)) (z_q1 rfl (z_q1 rfl (z_q1 rfl z_q0)))
set_option maxRecDepth 100000 in
set_option maxHeartbeats 8000000 in
theorem c_X8_hearOut_X3_e (hl : l.stackTraces = false) (k u t b a : Int32) (c : Nat → Int32) (j : Nat) (h : sp_H) (ef : Nat → Int32) (hav : z_vl a) (htv : z_vl t) (hbv : 1 ≤ b ∧ b ≤ 99) (h40 : z_mny a t b ≤ 40) (hm40 : (z_mny a t b).toNatClampNeg ≤ 40) (hj : j ≤ (z_mny a t b).toNatClampNeg) (he : z_row 10 (nI h.2.length) ef h.2) : z_CF G l mX8_hearOut 15 0 0 [.inr (8, [.ref 1, .int k, .int u, .int t, .int b, .int (a + nI j * b)]), .inr (11, [.ref 2]), z_ia 7 c, .inr (5, [.ref 4, .int (nI h.2.length), .int h.1.2.1, .int h.1.2.2.1, .int h.1.2.2.2, .int h.1.1]), z_ia 10 ef] [.ref 0, .ref 3] (fun v L => v = some (.int (((sp_ho c h 0 (sp_spn a b j ((z_mny a t b).toNatClampNeg - j))).1.map nI).getD (-1001))) ∧ ∃ (u' : Int32) (a' : Int32) (ef' : Nat → Int32), z_row 10 (nI (sp_ho c h 0 (sp_spn a b j ((z_mny a t b).toNatClampNeg - j))).2.2.2.length) ef' (sp_ho c h 0 (sp_spn a b j ((z_mny a t b).toNatClampNeg - j))).2.2.2 ∧ L = [.inr (8, [.ref 1, .int k, .int u', .int t, .int b, .int a']), .inr (11, [.ref 2]), z_ia 7 (sp_ho c h 0 (sp_spn a b j ((z_mny a t b).toNatClampNeg - j))).2.1, .inr (5, [.ref 4, .int (nI (sp_ho c h 0 (sp_spn a b j ((z_mny a t b).toNatClampNeg - j))).2.2.2.length), .int (sp_ho c h 0 (sp_spn a b j ((z_mny a t b).toNatClampNeg - j))).2.2.1.2.1, .int (sp_ho c h 0 (sp_spn a b j ((z_mny a t b).toNatClampNeg - j))).2.2.1.2.2.1, .int (sp_ho c h 0 (sp_spn a b j ((z_mny a t b).toNatClampNeg - j))).2.2.1.2.2.2, .int (sp_ho c h 0 (sp_spn a b j ((z_mny a t b).toNatClampNeg - j))).2.2.1.1]), z_ia 10 ef']) := by
  refine z_body hl (by decide) rfl (Nat.le_of_ble_eq_true rfl) ?_
  show z_J G l mX8_hearOut (z_SF 15 0 0 [.inr (8, [.ref 1, .int k, .int u, .int t, .int b, .int (a + nI j * b)]), .inr (11, [.ref 2]), z_ia 7 c, .inr (5, [.ref 4, .int (nI h.2.length), .int h.1.2.1, .int h.1.2.2.1, .int h.1.2.2.2, .int h.1.1]), z_ia 10 ef] (fun v L => v = some (.int (((sp_ho c h 0 (sp_spn a b j ((z_mny a t b).toNatClampNeg - j))).1.map nI).getD (-1001))) ∧ ∃ (u' : Int32) (a' : Int32) (ef' : Nat → Int32), z_row 10 (nI (sp_ho c h 0 (sp_spn a b j ((z_mny a t b).toNatClampNeg - j))).2.2.2.length) ef' (sp_ho c h 0 (sp_spn a b j ((z_mny a t b).toNatClampNeg - j))).2.2.2 ∧ L = [.inr (8, [.ref 1, .int k, .int u', .int t, .int b, .int a']), .inr (11, [.ref 2]), z_ia 7 (sp_ho c h 0 (sp_spn a b j ((z_mny a t b).toNatClampNeg - j))).2.1, .inr (5, [.ref 4, .int (nI (sp_ho c h 0 (sp_spn a b j ((z_mny a t b).toNatClampNeg - j))).2.2.2.length), .int (sp_ho c h 0 (sp_spn a b j ((z_mny a t b).toNatClampNeg - j))).2.2.1.2.1, .int (sp_ho c h 0 (sp_spn a b j ((z_mny a t b).toNatClampNeg - j))).2.2.1.2.2.1, .int (sp_ho c h 0 (sp_spn a b j ((z_mny a t b).toNatClampNeg - j))).2.2.1.2.2.2, .int (sp_ho c h 0 (sp_spn a b j ((z_mny a t b).toNatClampNeg - j))).2.2.1.1]), z_ia 10 ef'])) 0 [(0, _), (1, _)] [] _ 0 0
  refine j_iconst (v := 0) dX8_hearOut_0 (by decide) ?_
  refine j_istore_n (lo' := [(2, _), (0, _), (1, _)]) dX8_hearOut_1 (by decide) rfl ?_
  refine j_iconst (v := 0) dX8_hearOut_2 (by decide) ?_
  refine j_istore_n (lo' := [(3, _), (2, _), (0, _), (1, _)]) dX8_hearOut_3 (by decide) rfl ?_
  have loop : ∀ (n9 : Nat) (h1 : sp_H) (c1 ef1 : Nat → Int32) (m s1 : Nat) (u1 : Int32) (j1 : Nat), (j1 ≤ (z_mny a t b).toNatClampNeg) → (s1 ≤ j1) → (m ≤ j1) → ((z_mny a t b).toNatClampNeg < j1 + n9) → (z_row 10 (nI h1.2.length) ef1 h1.2) → (sp_ho c1 h1 m (sp_spn a b j1 ((z_mny a t b).toNatClampNeg - j1)) = (sp_ho c h 0 (sp_spn a b j ((z_mny a t b).toNatClampNeg - j)))) → z_J G l mX8_hearOut (z_SF 15 0 0 [.inr (8, [.ref 1, .int k, .int u, .int t, .int b, .int (a + nI j * b)]), .inr (11, [.ref 2]), z_ia 7 c, .inr (5, [.ref 4, .int (nI h.2.length), .int h.1.2.1, .int h.1.2.2.1, .int h.1.2.2.2, .int h.1.1]), z_ia 10 ef] (fun v L => v = some (.int (((sp_ho c h 0 (sp_spn a b j ((z_mny a t b).toNatClampNeg - j))).1.map nI).getD (-1001))) ∧ ∃ (u' : Int32) (a' : Int32) (ef' : Nat → Int32), z_row 10 (nI (sp_ho c h 0 (sp_spn a b j ((z_mny a t b).toNatClampNeg - j))).2.2.2.length) ef' (sp_ho c h 0 (sp_spn a b j ((z_mny a t b).toNatClampNeg - j))).2.2.2 ∧ L = [.inr (8, [.ref 1, .int k, .int u', .int t, .int b, .int a']), .inr (11, [.ref 2]), z_ia 7 (sp_ho c h 0 (sp_spn a b j ((z_mny a t b).toNatClampNeg - j))).2.1, .inr (5, [.ref 4, .int (nI (sp_ho c h 0 (sp_spn a b j ((z_mny a t b).toNatClampNeg - j))).2.2.2.length), .int (sp_ho c h 0 (sp_spn a b j ((z_mny a t b).toNatClampNeg - j))).2.2.1.2.1, .int (sp_ho c h 0 (sp_spn a b j ((z_mny a t b).toNatClampNeg - j))).2.2.1.2.2.1, .int (sp_ho c h 0 (sp_spn a b j ((z_mny a t b).toNatClampNeg - j))).2.2.1.2.2.2, .int (sp_ho c h 0 (sp_spn a b j ((z_mny a t b).toNatClampNeg - j))).2.2.1.1]), z_ia 10 ef'])) 4 [(0, .ref 0), (1, .ref 3), (2, .int (nI m)), (3, .int (nI s1))] [] ([.inr (8, [.ref 1, .int k, .int u1, .int t, .int b, .int (a + nI j1 * b)]), .inr (11, [.ref 2]), z_ia 7 c1, .inr (5, [.ref 4, .int (nI h1.2.length), .int h1.1.2.1, .int h1.1.2.2.1, .int h1.1.2.2.2, .int h1.1.1]), z_ia 10 ef1], z_no) 0 0 := by
    intro n9
    induction n9 with
    | zero => intro h1 c1 ef1 m s1 u1 j1 hj1 hs1 hm hf9 he1 ho; exact absurd hf9 (by omega)
    | succ n9 ih =>
      intro h1 c1 ef1 m s1 u1 j1 hj1 hs1 hm hf9 he1 ho
      refine j_iload_n dX8_hearOut_4 rfl ?_
      refine j_sipush (v := 1000) dX8_hearOut_5 (by decide) ?_
      refine j_icmp_ge (tgt := 42) dX8_hearOut_8 (by decide) (fun c_8 => ?_) (fun c_8 => ?_)
      · have hb8 : 1000 ≤ s1 := (nI_leI (a := 1000) (b := s1) (by omega) (by omega)).mp c_8
        exact absurd hb8 (by omega)
      · have hb8 : s1 < 1000 := Nat.not_le.mp (fun z => c_8 ((nI_leI (a := 1000) (b := s1) (by omega) (by omega)).mpr z))
        refine j_aload_n dX8_hearOut_11 rfl rfl ?_
        refine j_callU (q := (RX3, TX3, 6)) dX8_hearOut_12 kX7_ask cuX8_320_X3 rfl rfl (z_frame [0, 1, 2] rfl (by decide) (Nat.le_of_ble_eq_true rfl) (c_X7_ask_X3_e hl _ _ _ _ (a + nI j1 * b) _)) (Nat.le_of_ble_eq_true rfl) ⟨(Nat.le_of_ble_eq_true rfl), (Nat.le_of_ble_eq_true rfl)⟩ rfl (Nat.le_of_ble_eq_true rfl) rfl rfl (fun _ _ h => h.elim) ?_
        rintro _ _ ⟨_, _, ⟨rfl, rfl⟩, rfl, rfl⟩
        refine j_ws (L' := [.inr (8, [_, _, _, _, _, _]), .inr (11, [_]), z_ia 7 _, .inr (5, [_, _, _, _, _, _]), z_ia 10 _]) (by decide) rfl rfl ?_
        refine j_if_eq (tgt := 42) dX8_hearOut_15 (by decide) (fun c_15 => ?_) (fun c_15 => ?_)
        · have hb15 := z_bF c_15
          have hnl : ¬ j1 < (z_mny a t b).toNatClampNeg := fun z => of_decide_eq_false hb15 ((sp_spm hav htv hbv h40 (by omega)).mpr z)
          rw [show (z_mny a t b).toNatClampNeg - j1 = 0 by omega] at ho
          refine j_iload_n dX8_hearOut_42 rfl ?_
          refine j_iret dX8_hearOut_43 rfl rfl ?_ (Nat.le_of_ble_eq_true rfl) (Nat.le_of_ble_eq_true rfl)
          exact ⟨rfl, rfl, (by rw [← ho]; rfl), _, _, _, (by rw [← ho]; exact he1), (by rw [← ho]; rfl)⟩
        · have hb15 := z_bt c_15
          have hjl : j1 < (z_mny a t b).toNatClampNeg := (sp_spm hav htv hbv h40 (by omega)).mp (of_decide_eq_true hb15)
          rw [show (z_mny a t b).toNatClampNeg - j1 = ((z_mny a t b).toNatClampNeg - (j1 + 1)) + 1 by omega] at ho
          rw [sp_spnS] at ho
          refine j_aload_n dX8_hearOut_18 rfl rfl ?_
          refine j_aload_n dX8_hearOut_19 rfl rfl ?_
          refine j_callU (q := (RX3, TX3, 6)) dX8_hearOut_20 kX7_give cuX8_315_X3 rfl rfl (z_frame [0, 1, 2] rfl (by decide) (Nat.le_of_ble_eq_true rfl) (c_X7_give_X3_e hl _ _ _ _ (a + nI j1 * b) _)) (Nat.le_of_ble_eq_true rfl) ⟨(Nat.le_of_ble_eq_true rfl), (Nat.le_of_ble_eq_true rfl)⟩ rfl (Nat.le_of_ble_eq_true rfl) rfl rfl (fun _ _ h => h.elim) ?_
          rintro _ _ ⟨_, _, ⟨rfl, rfl⟩, rfl, rfl⟩
          refine j_ws (L' := [.inr (8, [_, _, _, _, _, _]), .inr (11, [_]), z_ia 7 _, .inr (5, [_, _, _, _, _, _]), z_ia 10 _]) (by decide) rfl rfl ?_
          rw [sp_stp]
          refine j_callV (q := (RX0, TX0, 6)) dX8_hearOut_23 kX0_takesIn lX8_323 inX0_takesIn seX0_takesIn rfl rfl (z_frame [3, 4] rfl (by decide) (Nat.le_of_ble_eq_true rfl) (c_X0_takesIn_e hl h1 _ (a + nI j1 * b) he1)) (Nat.le_of_ble_eq_true rfl) ⟨(Nat.le_of_ble_eq_true rfl), (Nat.le_of_ble_eq_true rfl)⟩ rfl (Nat.le_of_ble_eq_true rfl) rfl rfl (fun _ _ h => h.elim) ?_
          rintro _ _ ⟨_, _, ⟨rfl, ef2, hf9e, rfl⟩, rfl, rfl⟩
          refine j_ws (L' := [.inr (8, [_, _, _, _, _, _]), .inr (11, [_]), z_ia 7 _, .inr (5, [_, _, _, _, _, _]), z_ia 10 _]) (by decide) rfl rfl ?_
          refine j_if_ne (tgt := 33) dX8_hearOut_26 (by decide) (fun c_26 => ?_) (fun c_26 => ?_)
          · have hb26 := z_bt c_26
            rw [sp_hoS2 hb26] at ho
            refine j_iinc (lo' := [(2, _), (0, _), (1, _), (3, _)]) dX8_hearOut_33 rfl (z_inc _) (by decide) rfl ?_
            refine j_iinc (lo' := [(3, _), (2, _), (0, _), (1, _)]) dX8_hearOut_36 rfl (z_inc _) (by decide) rfl ?_
            refine j_goto (tgt := 4) dX8_hearOut_39 (by decide) ?_
            exact j_lo2 (ih _ _ _ (m + 1) (s1 + 1) _ (j1 + 1) (by omega) (by omega) (by omega) (by omega) hf9e ho) (z_q1 rfl (z_q1 rfl (z_q1 rfl (z_q1 rfl z_q0))))
          · have hb26 := z_bF c_26
            rw [sp_hoN2 hb26] at ho
            refine j_sipush (v := (-1001)) dX8_hearOut_29 (by decide) ?_
            refine j_iret dX8_hearOut_32 rfl rfl ?_ (Nat.le_of_ble_eq_true rfl) (Nat.le_of_ble_eq_true rfl)
            exact ⟨rfl, rfl, (by rw [← ho]; rfl), _, _, _, (by rw [← ho]; exact hf9e), (by rw [← ho] <;> rfl)⟩
  exact j_lo2 (loop ((z_mny a t b).toNatClampNeg + 1) h c ef 0 0 u j (by omega) (by omega) (by omega) (by omega) he rfl) (z_q1 rfl (z_q1 rfl (z_q1 rfl (z_q1 rfl z_q0))))
end ZCws
end ZM9
