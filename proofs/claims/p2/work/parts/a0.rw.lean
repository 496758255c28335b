section ZRw
variable {G : z_G} {l : Launch} {y : z_M} {S : z_S} {pc : Nat} {lo : List (Nat × Value)} {st : List Value} {w w' : z_W} {kc ks : Nat}
theorem j_ldN {a n k : Nat} {f : Nat → Int32} (hd : decode y.2.1 pc = .ok (.iaload, 1)) (hg : z_g w a = some (.inl (0, n, fun j => .int (f j)))) (hk : k < n) (hn : n < 2147483648) (h : z_J G l y S (pc + 1) lo (.int (f k) :: st) w kc ks) : z_J G l y S pc lo (.int (nI k) :: .ref a :: st) w kc ks :=
  j_ld hd hg (vp_in_nI hk hn) (by rw [z_cla (by omega)]; exact h)
theorem j_stoN {a n k : Nat} {f : Nat → Int32} {x : Int32} (hd : decode y.2.1 pc = .ok (.iastore, 1)) (hg : z_g w a = some (.inl (0, n, fun j => .int (f j)))) (hk : k < n) (hn : n < 2147483648) (hw : z_s w a (.inl (0, n, fun j => .int (z_ui f k x j))) = w') (h : z_J G l y S (pc + 1) lo st w' kc ks) : z_J G l y S pc lo (.int x :: .int (nI k) :: .ref a :: st) w kc ks :=
  j_sto hd hg (vp_in_nI hk hn) (by rw [z_cla (by omega)]; exact hw) h
theorem q_nsub {a b : Nat} (h : b ≤ a) : nI a - nI b = nI (a - b) := by
  have e : nI (a - b) + nI b = nI a := by rw [nI_add]; congr 1; omega
  rw [← e, Int32.add_sub_cancel]
theorem q_ndec {a : Nat} (h : 1 ≤ a) : nI a + Int32.ofInt (-1) = nI (a - 1) := by
  have e : nI (a - 1) + 1 = nI a := by rw [nI_1]; congr 1; omega
  rw [← e, Int32.add_assoc]
  exact Int32.add_zero _
/-- the first ints of an array of n, as a list -/
def z_row (N : Nat) (m : Int32) (f : Nat → Int32) (B : List Int32) : Prop := m = nI B.length ∧ B.length ≤ N ∧ ∀ j, j < B.length → B[j]? = some (f j)
theorem z_row.at {N : Nat} {m : Int32} {f : Nat → Int32} {B : List Int32} (h : z_row N m f B) {j : Nat} {x : Int32} (hj : B[j]? = some x) : f j = x := by
  have h1 := h.2.2 j (List.getElem?_eq_some_iff.mp hj).1
  rw [hj] at h1
  exact (Option.some.inj h1).symm
theorem z_row.nil {N : Nat} {f : Nat → Int32} : z_row N 0 f [] := ⟨rfl, Nat.zero_le _, fun _ h => absurd h (Nat.not_lt_zero _)⟩
theorem z_row.push {N : Nat} {f : Nat → Int32} {B : List Int32} {x : Int32} (h : z_row N (nI B.length) f B) (hl : B.length < N) : z_row N (nI (B.length + 1)) (z_ui f B.length x) (B ++ [x]) := by
  refine ⟨by rw [List.length_append]; rfl, by rw [List.length_append]; exact hl, fun j hj => ?_⟩
  rw [List.length_append] at hj
  have hj : j < B.length + 1 := hj
  by_cases c : j = B.length
  · subst c
    rw [z_ui_self, List.getElem?_append_right (Nat.le_refl _), Nat.sub_self]
    rfl
  · rw [z_ui_ne c, List.getElem?_append_left (by omega)]
    exact h.2.2 j (by omega)
theorem z_row.take {N : Nat} {f : Nat → Int32} {B : List Int32} {k : Nat} (h : z_row N (nI B.length) f B) (hk : k ≤ B.length) : z_row N (nI (B.length - k)) f (B.take (B.length - k)) := by
  have e : (B.take (B.length - k)).length = B.length - k := by rw [List.length_take]; omega
  refine ⟨by rw [e], by rw [e]; have := h.2.1; omega, fun j hj => ?_⟩
  rw [e] at hj
  rw [List.getElem?_take, if_pos hj]
  exact h.2.2 j (by omega)
theorem z_row.set {N : Nat} {f : Nat → Int32} {B : List Int32} {j : Nat} {x : Int32} (h : z_row N (nI B.length) f B) : z_row N (nI B.length) (z_ui f j x) (B.set j x) := by
  refine ⟨by rw [List.length_set], by rw [List.length_set]; exact h.2.1, fun i hi => ?_⟩
  rw [List.length_set] at hi
  by_cases c : i = j
  · subst c
    rw [z_ui_self, List.getElem?_set_self hi]
  · rw [z_ui_ne c, List.getElem?_set_ne (Ne.symm c)]
    exact h.2.2 i hi
theorem z_row.eqf {N : Nat} {m : Int32} {f g : Nat → Int32} {B : List Int32} (h : z_row N m f B) (e : ∀ j, j < N → g j = f j) : z_row N m g B := ⟨h.1, h.2.1, fun j hj => by rw [e j (Nat.lt_of_lt_of_le hj h.2.1)]; exact h.2.2 j hj⟩
/-- what a removal moves: the ints below the hole stand, those behind it are one place ahead, k of them moved by now -/
def z_mv (f f' : Nat → Int32) (p k : Nat) : Prop := (∀ j, j < p → f' j = f j) ∧ (∀ j, j < k → f' (p + j) = f (p + j + 1)) ∧ ∀ j, p + k ≤ j → f' j = f j
theorem z_mv.rf {f : Nat → Int32} {p : Nat} : z_mv f f p 0 := ⟨fun _ _ => rfl, fun _ h => absurd h (Nat.not_lt_zero _), fun _ _ => rfl⟩
theorem z_mv.step {f f' : Nat → Int32} {p k : Nat} (h : z_mv f f' p k) : z_mv f (z_ui f' (p + k) (f' (p + k + 1))) p (k + 1) := by
  refine ⟨fun j hj => by rw [z_ui_ne (by omega)]; exact h.1 j hj, fun j hj => ?_, fun j hj => by rw [z_ui_ne (by omega)]; exact h.2.2 j (by omega)⟩
  by_cases c : j = k
  · subst c
    rw [z_ui_self]
    exact h.2.2 _ (by omega)
  · rw [z_ui_ne (by omega)]
    exact h.2.1 j (by omega)
theorem z_mv.row {N : Nat} {f f' : Nat → Int32} {A D : List Int32} {x : Int32} (h : z_mv f f' A.length D.length) (hr : z_row N (nI (A ++ x :: D).length) f (A ++ x :: D)) : z_row N (nI ((A ++ x :: D).length - 1)) f' (A ++ D) := by
  have e1 : (A ++ x :: D).length = A.length + (D.length + 1) := by rw [List.length_append]; rfl
  have e2 : (A ++ D).length = A.length + D.length := List.length_append ..
  have hl := hr.2.1
  rw [e1] at hl
  refine ⟨by rw [e1, e2]; rfl, by rw [e2]; omega, fun j hj => ?_⟩
  rw [e2] at hj
  by_cases c : j < A.length
  · rw [h.1 j c, List.getElem?_append_left c]
    have h1 := hr.2.2 j (by rw [e1]; omega)
    rwa [List.getElem?_append_left c] at h1
  · have hq : j = A.length + (j - A.length) := by omega
    have h2 := h.2.1 (j - A.length) (by omega)
    rw [← hq] at h2
    have h1 := hr.2.2 (j + 1) (by rw [e1]; omega)
    rw [List.getElem?_append_right (by omega), show j + 1 - A.length = (j - A.length) + 1 by omega, List.getElem?_cons_succ] at h1
    rw [h2, List.getElem?_append_right (by omega), h1]
/-- a tally -/
abbrev z_bp (c : Nat → Int32) (k : Nat) : Nat → Int32 := z_ui c k (c k + 1)
def q_zr (f : Nat → Int32) : Nat → Nat → Int32
  | 0 => f
  | j + 1 => z_ui (q_zr f j) j 0
def q_sm (f : Nat → Int32) : Nat → Int32
  | 0 => 0
  | j + 1 => q_sm f j + f j
theorem q_zr_ge {f : Nat → Int32} : ∀ {j k : Nat}, j ≤ k → q_zr f j k = f k
  | 0, _, _ => rfl
  | j + 1, k, h => by
    show z_ui (q_zr f j) j 0 k = f k
    rw [z_ui_ne (by omega)]
    exact q_zr_ge (by omega)
theorem q_sms {f : Nat → Int32} {j : Nat} : q_sm f j + q_zr f j j = q_sm f (j + 1) := by rw [q_zr_ge (Nat.le_refl _)]; rfl
/-- 0 or 1 as an int is what a place's test tells -/
theorem q_b1 {b : Prop} [Decidable b] (h : b) : z_bi (decide b) = 1 := by rw [decide_eq_true h]; rfl
theorem q_b0 {b : Prop} [Decidable b] (h : ¬ b) : z_bi (decide b) = 0 := by rw [decide_eq_false h]; rfl
theorem sp_lt1 {P : Nat → Prop} {j : Nat} (h : ∀ i, i < j → P i) (h2 : P j) : ∀ i, i < j + 1 → P i := fun i hi => by
  by_cases c : i = j
  · rw [c]; exact h2
  · exact h i (by omega)
end ZRw
