section ZWk
theorem sp_hoS2 {c : Nat → Int32} {h : sp_H} {n : Nat} {x : Int32} {L : List Int32} (e : (sp_in h x).isSome = true) : sp_ho c h n (x :: L) = sp_ho (z_bp (z_bp c 1) 2) ((sp_in h x).getD h) (n + 1) L := by
  cases hh : sp_in h x with
  | none => rw [hh] at e; cases e
  | some h2 => rw [sp_hoS hh]; rfl
theorem sp_hoN2 {c : Nat → Int32} {h : sp_H} {n : Nat} {x : Int32} {L : List Int32} (e : (sp_in h x).isSome = false) : sp_ho c h n (x :: L) = (none, z_bp (z_bp c 1) 2, (sp_in h x).getD h) := by
  cases hh : sp_in h x with
  | none => rw [sp_hoN hh]; rfl
  | some h2 => rw [hh] at e; cases e
theorem z_row.drop {N : Nat} {m : Int32} {f : Nat → Int32} {B : List Int32} {j : Nat} (h : z_row N m f B) (hj : j < B.length) : B.drop j = f j :: B.drop (j + 1) := by
  rw [List.drop_eq_getElem_cons hj, h.at (List.getElem?_eq_getElem hj)]
theorem sp_drop_nil {α : Type} {B : List α} {j : Nat} (h : ¬ j < B.length) : B.drop j = [] := List.drop_eq_nil_of_le (Nat.not_lt.mp h)
theorem z_row.tail {f f' : Nat → Int32} {B : List Int32} (h : z_row 10 (nI B.length) f B) (hl : B.length = 10) (hm : ∀ i, i < 9 → f' i = f (i + 1)) : z_row 10 (nI B.tail.length) f' B.tail := by
  have e : B.tail.length = 9 := by rw [List.length_tail, hl]
  refine ⟨rfl, by omega, fun j hj => ?_⟩
  rw [List.getElem?_tail, h.2.2 (j + 1) (by omega), hm j (by omega)]
theorem sp_rec_l {B : List Int32} {x : Int32} (h : B.length < 10) : sp_rec B x = B ++ [x] := if_pos h
theorem sp_rec_g {B : List Int32} {x : Int32} (h : ¬ B.length < 10) : sp_rec B x = B.tail ++ [x] := if_neg h
/-- one of what a hearer tells -/
def sp_tel (h : sp_H) (w : Int32) : Int32 := if w = 0 then h.1.2.1 else if w = 1 then h.1.2.2.1 else if w = 2 then h.1.2.2.2 else h.1.1
theorem sp_tel3 {h : sp_H} {w : Int32} (hw : w.toInt < 0 ∨ 2 < w.toInt) : sp_tel h w = h.1.1 := by
  unfold sp_tel
  rw [if_neg (fun z => by subst z; revert hw; decide), if_neg (fun z => by subst z; revert hw; decide), if_neg (fun z => by subst z; revert hw; decide)]
theorem sp_inN {h : sp_H} {x : Int32} (h1 : ¬ h.1.1 = -1000) (h2 : x = h.1.1) : sp_in h x = none := if_pos ⟨h1, h2⟩
theorem sp_inS {h : sp_H} {x : Int32} (h1 : ¬ (¬ h.1.1 = -1000 ∧ x = h.1.1)) : sp_in h x = some ((h.1.1, h.1.2.1 + 1, h.1.2.2.1 + x, x), sp_rec h.2 x) := if_neg h1
/-- what is left by a test -/
def sp_no (t : Int32) (v : Int32) : Bool := q_tt t v 0 == some 0
theorem sp_no1 {t v : Int32} (h : (q_tt t v 0).getD (-1001) = 0) : sp_no t v = true := by
  unfold sp_no
  cases e : q_tt t v 0 with
  | none => rw [e] at h; exact absurd h (by decide)
  | some y =>
    rw [e] at h
    have h : y = 0 := h
    rw [h]
    rfl
theorem sp_no0 {t v : Int32} (h : ¬ (q_tt t v 0).getD (-1001) = 0) : sp_no t v = false := by
  unfold sp_no
  cases e : q_tt t v 0 with
  | none => rfl
  | some y =>
    rw [e] at h
    have h : ¬ y = 0 := h
    refine beq_false_of_ne (fun z => h ?_)
    cases z
    rfl
theorem sp_ft1 {P : Int32 → Bool} {B : List Int32} {j : Nat} {v : Int32} (hj : B[j]? = some v) (h : P v = true) : (B.take (j + 1)).filter P = (B.take j).filter P ++ [v] := by
  rw [List.take_add_one, hj, List.filter_append]
  show _ ++ List.filter P [v] = _
  rw [List.filter_cons, if_pos h]
  rfl
theorem sp_ft0 {P : Int32 → Bool} {B : List Int32} {j : Nat} {v : Int32} (hj : B[j]? = some v) (h : P v = false) : (B.take (j + 1)).filter P = (B.take j).filter P := by
  rw [List.take_add_one, hj, List.filter_append]
  show _ ++ List.filter P [v] = _
  rw [List.filter_cons, if_neg (by rw [h]; exact Bool.false_ne_true)]
  exact List.append_nil _
theorem sp_ftg {P : Int32 → Bool} {B : List Int32} {j : Nat} {v : Int32} (hj : B[j]? = some v) (h : P v = true) : (B.filter P)[((B.take j).filter P).length]? = some v := by
  have e : B.filter P = (B.take j).filter P ++ (v :: (B.drop (j + 1)).filter P) := by
    have h1 : B = B.take j ++ v :: B.drop (j + 1) := by
      have h2 := List.drop_eq_getElem_cons (List.getElem?_eq_some_iff.mp hj).1
      rw [(List.getElem?_eq_some_iff.mp hj).2] at h2
      rw [← h2, List.take_append_drop]
    rw [h1]
    rw [List.filter_append, List.filter_cons, if_pos h]
    rw [← h1]
  rw [e, List.getElem?_append_right (Nat.le_refl _), Nat.sub_self]
  rfl
theorem sp_takel {α : Type} {B : List α} {j : Nat} (h : B.length ≤ j) : B.take j = B := List.take_of_length_le h
/-- the lengths stand -/
theorem sp_ra_len : ∀ (L A : List Int32) (b : Bool) (r n : Int32) (c : Nat → Int32), (sp_ra b r n c A L).2.2.length = A.length + L.length
  | [], _, _, _, _, _ => rfl
  | v :: L, A, b, r, n, c => by
    cases e : q_rt r 0 v n with
    | none => rw [sp_raN e]; exact List.length_append
    | some y => cases b with
      | true => rw [sp_raF e]; exact List.length_append
      | false => rw [sp_raT e, sp_ra_len L]; simp only [List.length_append, List.length_cons, List.length_nil]; omega
theorem sp_rt_len : ∀ (L A : List (Nat × Int32)) (r n : Int32) (c : Nat → Int32), (sp_rt r n c A L).2.2.length = A.length + L.length
  | [], _, _, _, _ => rfl
  | p :: L, A, r, n, c => by
    cases e : q_rt r (nI p.1) p.2 n with
    | none => rw [sp_rtN e]; exact List.length_append
    | some y => rw [sp_rtS e, sp_rt_len L]; simp only [List.length_append, List.length_cons, List.length_nil]; omega
theorem sp_ri_len : ∀ (L A : List Int32) (b : Bool) (t n : Int32) (c : Nat → Int32) (k : Bool), (sp_ri b t n c A k L).2.2.length ≤ A.length + L.length
  | [], _, _, _, _, _, _ => Nat.le_refl _
  | v :: L, A, b, t, n, c, k => by
    cases e : q_tt t v n with
    | none => rw [sp_riN e]; exact Nat.le_of_eq List.length_append
    | some r =>
      by_cases hr : r = 1
      · subst hr
        cases b with
        | true => rw [sp_riF e]; exact Nat.le_of_eq List.length_append
        | false => rw [sp_riT e]; exact Nat.le_trans (sp_ri_len L _ _ _ _ _ _) (by rw [List.length_cons]; omega)
      · rw [sp_riO e hr]; exact Nat.le_trans (sp_ri_len L _ _ _ _ _ _) (by simp only [List.length_append, List.length_cons, List.length_nil]; omega)
theorem sp_mid {α : Type} {A D : List α} {v : α} : A ++ v :: D = (A ++ [v]) ++ D := by rw [List.append_assoc]; rfl
theorem z_row.mid {N : Nat} {m : Int32} {f : Nat → Int32} {A D : List Int32} {v : Int32} (h : z_row N m f (A ++ v :: D)) : f A.length = v := h.at (by rw [List.getElem?_append_right (Nat.le_refl _), Nat.sub_self]; rfl)
theorem sp_cut {α : Type} {A D : List α} (h : ¬ A.length < (A ++ D).length) : D = [] := by
  rw [List.length_append] at h
  exact List.length_eq_zero_iff.mp (by omega)
theorem sp_cons {α : Type} {A D : List α} (h : A.length < (A ++ D).length) : ∃ v E, D = v :: E := by
  cases D with
  | nil => rw [List.append_nil] at h; exact absurd h (Nat.lt_irrefl _)
  | cons v E => exact ⟨v, E, rfl⟩
theorem sp_lmid {α : Type} {A D : List α} {v : α} : (A ++ v :: D).length = A.length + (D.length + 1) := by rw [List.length_append]; rfl
theorem z_row.put {N : Nat} {f : Nat → Int32} {A D : List Int32} {v y : Int32} (h : z_row N (nI (A ++ v :: D).length) f (A ++ v :: D)) : z_row N (nI (A ++ y :: D).length) (z_ui f A.length y) (A ++ y :: D) := by
  have e : (A ++ v :: D).set A.length y = A ++ y :: D := by
    rw [List.set_append_right _ _ (Nat.le_refl _), Nat.sub_self]
    rfl
  have h2 := h.set (j := A.length) (x := y)
  rw [e] at h2
  rw [sp_lmid] at h2 ⊢
  exact h2
/-- a table's value is changed by a walk -/
theorem z_tba.put {f g : Nat → Int32} {A D : List (Nat × Int32)} {p : Nat × Int32} {y : Int32} (h : z_tba f g (A ++ p :: D)) (hy : z_vl y) : z_tba (z_ui f p.1 y) g (A ++ (p.1, y) :: D) := by
  have hk : sp_ks (A ++ (p.1, y) :: D) = sp_ks (A ++ p :: D) := by unfold sp_ks; rw [List.map_append, List.map_append]; rfl
  have hok : sp_okT (A ++ (p.1, y) :: D) := by
    refine ⟨by rw [hk]; exact h.1.1, fun q hq => ?_⟩
    rcases List.mem_append.mp hq with z | z
    · exact h.1.2 q (List.mem_append_left _ z)
    · rcases List.mem_cons.mp z with z | z
      · subst z; exact ⟨(h.1.2 p (List.mem_append_right _ List.mem_cons_self)).1, hy⟩
      · exact h.1.2 q (List.mem_append_right _ (List.mem_cons_of_mem _ z))
  refine ⟨hok, fun k hk20 => ?_, by rw [hk]; exact h.2.2⟩
  by_cases e : k = p.1
  · subst e
    rw [z_ui_self]
    exact (sp_lk_mem (p := (p.1, y)) hok.1 (List.mem_append_right _ List.mem_cons_self)).symm
  · rw [z_ui_ne e, h.2.1 k hk20]
    refine sp_lk_appL ?_
    show (if p.1 = k then p.2 else sp_lk D k) = (if p.1 = k then y else sp_lk D k)
    rw [if_neg (fun z => e z.symm), if_neg (fun z => e z.symm)]
theorem sp_gmid {α : Type} {A D : List α} {v : α} : (A ++ v :: D)[A.length]? = some v := by rw [List.getElem?_append_right (Nat.le_refl _), Nat.sub_self]; rfl
/-- pairs as they are heard -/
abbrev sp_prs (T : List (Nat × Int32)) : List Int32 := T.map fun p => 1000 * nI p.1 + p.2
/-- the numbers of a span, n of them from the kth on -/
def sp_spn (a b : Int32) (k : Nat) : Nat → List Int32
  | 0 => []
  | n + 1 => (a + nI k * b) :: sp_spn a b (k + 1) n
theorem sp_spnS {a b : Int32} {k n : Nat} : sp_spn a b k (n + 1) = (a + nI k * b) :: sp_spn a b (k + 1) n := rfl
theorem sp_stp {a b : Int32} {k : Nat} : a + nI k * b + b = a + nI (k + 1) * b := by
  rw [← nI_1, Int32.add_mul, Int32.one_mul, Int32.add_assoc]
/-- how many there are: by whole numbers -/
theorem sp_spi {a b : Int32} {k : Nat} (ha : z_vl a) (hb : 1 ≤ b ∧ b ≤ 99) (hk : k ≤ 41) : (a + nI k * b).toInt = a.toInt + k * b.toInt := by
  have h1 := Int32.le_iff_toInt_le.mp ha.1
  have h2 := Int32.le_iff_toInt_le.mp ha.2
  have h3 := Int32.le_iff_toInt_le.mp hb.1
  have h4 := Int32.le_iff_toInt_le.mp hb.2
  rw [show (-999 : Int32).toInt = -999 from rfl] at h1
  rw [show (999 : Int32).toInt = 999 from rfl] at h2
  rw [show (1 : Int32).toInt = 1 from rfl] at h3
  rw [show (99 : Int32).toInt = 99 from rfl] at h4
  have hk2 : (k : Int) ≤ 41 := by omega
  have m1 : (k : Int) * b.toInt ≤ 41 * 99 := Int.mul_le_mul hk2 h4 (by omega) (by omega)
  have m2 : 0 ≤ (k : Int) * b.toInt := Int.mul_nonneg (by omega) (by omega)
  rw [Int32.toInt_add, Int32.toInt_mul, nI_toInt (by omega)]
  rw [Int.bmod_eq_of_le (n := (k : Int) * b.toInt) (by omega) (by omega)]
  exact Int.bmod_eq_of_le (by omega) (by omega)
theorem sp_spm {a t b : Int32} {k : Nat} (ha : z_vl a) (htv : z_vl t) (hb : 1 ≤ b ∧ b ≤ 99) (h40 : z_mny a t b ≤ 40) (hk : k ≤ 41) : a + nI k * b ≤ t ↔ k < (z_mny a t b).toNatClampNeg := by
  have h1 := Int32.le_iff_toInt_le.mp ha.1
  have h2 := Int32.le_iff_toInt_le.mp ha.2
  have h3 := Int32.le_iff_toInt_le.mp hb.1
  have h4 := Int32.le_iff_toInt_le.mp hb.2
  have h5 := Int32.le_iff_toInt_le.mp htv.1
  have h6 := Int32.le_iff_toInt_le.mp htv.2
  rw [show (-999 : Int32).toInt = -999 from rfl] at h1 h5
  rw [show (999 : Int32).toInt = 999 from rfl] at h2 h6
  rw [show (1 : Int32).toInt = 1 from rfl] at h3
  rw [show (99 : Int32).toInt = 99 from rfl] at h4
  rw [Int32.le_iff_toInt_le, sp_spi ha hb hk]
  unfold z_mny
  by_cases c : a ≤ t
  · have hc := Int32.le_iff_toInt_le.mp c
    rw [if_pos c]
    have hs : (t - a).toInt = t.toInt - a.toInt := by
      rw [Int32.toInt_sub]
      exact Int.bmod_eq_of_le (by omega) (by omega)
    have hd : ((t - a) / b).toInt = (t.toInt - a.toInt) / b.toInt := by
      rw [Int32.toInt_div, hs, Int.tdiv_eq_ediv_of_nonneg (by omega)]
      have e1 := Int.ediv_nonneg (a := t.toInt - a.toInt) (b := b.toInt) (by omega) (by omega)
      have e2 := Int.ediv_le_self (a := t.toInt - a.toInt) b.toInt (by omega)
      exact Int.bmod_eq_of_le (by omega) (by omega)
    have e1 := Int.ediv_nonneg (a := t.toInt - a.toInt) (b := b.toInt) (by omega) (by omega)
    have e2 := Int.ediv_le_self (a := t.toInt - a.toInt) b.toInt (by omega)
    have hp : ((t - a) / b + 1).toInt = (t.toInt - a.toInt) / b.toInt + 1 := by
      rw [Int32.toInt_add, hd, show (1 : Int32).toInt = 1 from rfl]
      exact Int.bmod_eq_of_le (by omega) (by omega)
    have hq : ((t - a) / b + 1).toNatClampNeg = ((t.toInt - a.toInt) / b.toInt + 1).toNat := by
      show ((t - a) / b + 1).toInt.toNat = _
      rw [hp]
    rw [hq]
    have key : (k : Int) ≤ (t.toInt - a.toInt) / b.toInt ↔ (k : Int) * b.toInt ≤ t.toInt - a.toInt := Int.le_ediv_iff_mul_le (by omega)
    omega
  · rw [if_neg c]
    have hc : ¬ a.toInt ≤ t.toInt := fun z => c (Int32.le_iff_toInt_le.mpr z)
    have m2 : 0 ≤ (k : Int) * b.toInt := Int.mul_nonneg (by omega) (by omega)
    show _ ↔ k < 0
    omega
theorem z_row.putM {N M p : Nat} {f : Nat → Int32} {A D : List Int32} {v y : Int32} (h : z_row N (nI M) f (A ++ v :: D)) (hM : M = (A ++ v :: D).length) (hp : p = A.length) : z_row N (nI M) (z_ui f p y) ((A ++ [y]) ++ D) := by
  subst hp
  rw [hM] at h ⊢
  have h2 := h.put (y := y)
  rw [← sp_mid]
  rw [sp_lmid] at h2 ⊢
  exact h2
theorem sp_midl {α : Type} {A D : List α} {v y : α} {M : Nat} (h : M = (A ++ v :: D).length) : M = ((A ++ [y]) ++ D).length := by
  rw [← sp_mid, sp_lmid]
  rw [sp_lmid] at h
  exact h
theorem sp_all {A D : List Int32} {v y : Int32} (h : ∀ x ∈ A ++ v :: D, z_vl x) (hy : z_vl y) : ∀ x ∈ (A ++ [y]) ++ D, z_vl x := fun x hx => by
  rw [← sp_mid] at hx
  rcases List.mem_append.mp hx with z | z
  · exact h x (List.mem_append_left _ z)
  · rcases List.mem_cons.mp z with z | z
    · rw [z]; exact hy
    · exact h x (List.mem_append_right _ (List.mem_cons_of_mem _ z))
theorem sp_tts {t v n : Int32} (h : ¬ (q_tt t v n).getD (-1001) = -1001) : q_tt t v n = some ((q_tt t v n).getD (-1001)) := q_gs h
theorem sp_ttn {t v n : Int32} (h : (q_tt t v n).getD (-1001) = -1001) : q_tt t v n = none := q_gn (fun y hy => by
  rcases q_tts hy with z | z
  · rw [z]; decide
  · rw [z]; decide) h
theorem sp_prd {T : List (Nat × Int32)} {j : Nat} {p : Nat × Int32} (hj : T[j]? = some p) : (sp_prs T).drop j = (1000 * nI p.1 + p.2) :: (sp_prs T).drop (j + 1) := by
  have h1 := List.drop_eq_getElem_cons (List.getElem?_eq_some_iff.mp hj).1
  rw [(List.getElem?_eq_some_iff.mp hj).2] at h1
  show List.drop j (List.map _ T) = _ :: List.drop (j + 1) (List.map _ T)
  rw [← List.map_drop, ← List.map_drop, h1]
  rfl
theorem sp_prl {T : List (Nat × Int32)} : (sp_prs T).length = T.length := List.length_map ..
theorem sp_take_row {f : Nat → Int32} {B : List Int32} {k : Nat} (h : z_row 12 (nI B.length) f B) (hk : k ≤ B.length) : z_row 12 (nI (B.take (B.length - k)).length) f (B.take (B.length - k)) := by
  have z := h.take hk
  have e : (B.take (B.length - k)).length = B.length - k := by rw [List.length_take]; omega
  rw [e]
  exact z
theorem q_n3a {r : Int32} (h : r < 0) : ¬ (r = 0 ∨ r = 1 ∨ r = 2) := by
  rintro (rfl | rfl | rfl) <;> exact absurd h (by decide)
theorem q_n3b {r : Int32} (h : ¬ r < Int32.ofNat 3) : ¬ (r = 0 ∨ r = 1 ∨ r = 2) := by
  rintro (rfl | rfl | rfl) <;> exact h (by decide)
theorem sp_ho_n : ∀ (L : List Int32) (c : Nat → Int32) (h : sp_H) (n : Nat) {y : Nat}, (sp_ho c h n L).1 = some y → y ≤ n + L.length
  | [], c, h, n, y, e => by cases e; exact Nat.le_refl _
  | x :: L, c, h, n, y, e => by
    cases hh : sp_in h x with
    | none => rw [sp_hoN hh] at e; cases e
    | some h2 => rw [sp_hoS hh] at e; have := sp_ho_n L _ _ _ e; rw [List.length_cons]; omega
end ZWk
