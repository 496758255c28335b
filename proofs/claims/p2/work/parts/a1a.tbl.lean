section ZTb
/-! a table's arrays: the values by keys, the keys in their sequence -/
def z_sq (g : Nat → Int32) (K : List Nat) : Prop := ∀ j k, K[j]? = some k → g j = nI k
def z_tba (f g : Nat → Int32) (T : List (Nat × Int32)) : Prop := sp_okT T ∧ (∀ k, k < 20 → f k = sp_lk T k) ∧ z_sq g (sp_ks T)
theorem z_tba.len {f g : Nat → Int32} {T : List (Nat × Int32)} (h : z_tba f g T) : T.length ≤ 20 := h.1.len
theorem z_tba.key {f g : Nat → Int32} {T : List (Nat × Int32)} {j : Nat} {p : Nat × Int32} (h : z_tba f g T) (hj : T[j]? = some p) : g j = nI p.1 := h.2.2 j p.1 (by unfold sp_ks; rw [List.getElem?_map, hj]; rfl)
theorem z_tba.kv {f g : Nat → Int32} {T : List (Nat × Int32)} {p : Nat × Int32} (h : z_tba f g T) (hp : p ∈ T) : f p.1 = p.2 := (h.2.1 p.1 (h.1.2 p hp).1).trans (sp_lk_mem h.1.1 hp)
theorem z_tba.room {f g : Nat → Int32} {T : List (Nat × Int32)} {k : Nat} (h : z_tba f g T) (hk : k < 20) (e : sp_lk T k = -1000) : T.length < 20 := by
  have h1 := (sp_ins_ok (j := 0) (v := 0) h.1 ((sp_lk_iff h.1).mp e) hk ⟨by decide, by decide⟩).len
  rw [sp_ins_len] at h1
  omega
theorem z_sq.nil {g : Nat → Int32} : z_sq g [] := fun j k h => by cases h
theorem sp_ksl {T : List (Nat × Int32)} : (sp_ks T).length = T.length := List.length_map ..
/-- the keys from j on are one place further -/
def z_sh (g g' : Nat → Int32) (j n : Nat) : Prop := (∀ i, i < j → g' i = g i) ∧ ∀ i, j ≤ i → i < n → g' (i + 1) = g i
theorem z_sh.rf {g : Nat → Int32} {n : Nat} : z_sh g g n n := ⟨fun _ _ => rfl, fun i h1 h2 => absurd h2 (by omega)⟩
theorem z_sh.step {g g' : Nat → Int32} {j n : Nat} (h : z_sh g g' j n) (hj : 0 < j) : z_sh g (z_ui g' j (g' (j - 1))) (j - 1) n := by
  refine ⟨fun i hi => ?_, fun i h1 h2 => ?_⟩
  · rw [z_ui_ne (by omega)]; exact h.1 i (by omega)
  · by_cases c : i = j - 1
    · subst c
      rw [show j - 1 + 1 = j by omega, z_ui_self]
      exact h.1 _ (by omega)
    · rw [z_ui_ne (by omega)]
      exact h.2 i (by omega) h2
theorem z_sh.ins {g g' : Nat → Int32} {j k : Nat} {K : List Nat} (h : z_sh g g' j K.length) (hj : j ≤ K.length) (hs : z_sq g K) : z_sq (z_ui g' j (nI k)) (K.take j ++ k :: K.drop j) := by
  intro i q hq
  have hl : (K.take j).length = j := by rw [List.length_take]; omega
  by_cases c : i < j
  · rw [List.getElem?_append_left (by omega), List.getElem?_take, if_pos c] at hq
    rw [z_ui_ne (by omega), h.1 i c]
    exact hs i q hq
  · rw [List.getElem?_append_right (by omega), hl] at hq
    by_cases e : i = j
    · subst e
      rw [Nat.sub_self] at hq
      cases hq
      rw [z_ui_self]
    · obtain ⟨d, rfl⟩ : ∃ d, i = j + d + 1 := ⟨i - j - 1, by omega⟩
      rw [show j + d + 1 - j = d + 1 by omega, List.getElem?_cons_succ, List.getElem?_drop] at hq
      have hlt := (List.getElem?_eq_some_iff.mp hq).1
      rw [z_ui_ne (by omega), h.2 (j + d) (by omega) hlt]
      exact hs _ q hq
/-- what is left of the first i keys -/
theorem z_sq.keep {g g' : Nat → Int32} {i k q : Nat} {K : List Nat} (hs : z_sq g K) (hi : K[i]? = some q) (h : z_sq g' ((K.take i).filter fun x => !(x == k))) (hr : ∀ x, i ≤ x → g' x = g x) (hq : ¬ q = k) : z_sq (z_ui g' ((K.take i).filter fun x => !(x == k)).length (g' i)) ((K.take (i + 1)).filter fun x => !(x == k)) ∧ ((K.take (i + 1)).filter fun x => !(x == k)).length = ((K.take i).filter fun x => !(x == k)).length + 1 := by
  have e : (K.take (i + 1)).filter (fun x => !(x == k)) = (K.take i).filter (fun x => !(x == k)) ++ [q] := by
    rw [List.take_add_one, hi, List.filter_append]
    show _ ++ List.filter _ [q] = _
    rw [List.filter_cons, if_pos (by rw [beq_false_of_ne hq]; rfl)]
    rfl
  rw [e]
  refine ⟨fun j x hx => ?_, by rw [List.length_append]; rfl⟩
  by_cases c : j < ((K.take i).filter fun x => !(x == k)).length
  · rw [List.getElem?_append_left c] at hx
    rw [z_ui_ne (by omega)]
    exact h j x hx
  · rw [List.getElem?_append_right (by omega)] at hx
    have hj : j = ((K.take i).filter fun x => !(x == k)).length := by
      have := (List.getElem?_eq_some_iff.mp hx).1
      have l1 : [q].length = 1 := rfl
      omega
    subst hj
    rw [Nat.sub_self] at hx
    cases hx
    rw [z_ui_self, hr i (Nat.le_refl _)]
    exact hs i q hi
theorem z_sq.skip {i k q : Nat} {K : List Nat} (hi : K[i]? = some q) (hq : q = k) : (K.take (i + 1)).filter (fun x => !(x == k)) = (K.take i).filter (fun x => !(x == k)) := by
  rw [List.take_add_one, hi, List.filter_append]
  show _ ++ List.filter _ [q] = _
  rw [List.filter_cons, if_neg (by rw [hq, beq_self_eq_true]; exact Bool.false_ne_true)]
  exact List.append_nil _
theorem sp_fl_le {i k : Nat} {K : List Nat} : ((K.take i).filter fun x => !(x == k)).length ≤ i := Nat.le_trans (List.length_filter_le ..) (by rw [List.length_take]; omega)
theorem sp_ks_go {T : List (Nat × Int32)} {k : Nat} : sp_ks (sp_go T k) = (sp_ks T).filter fun x => !(x == k) := by
  unfold sp_ks sp_go
  rw [List.filter_map]
  rfl
theorem sp_go_len {T : List (Nat × Int32)} {k : Nat} : (sp_go T k).length = ((sp_ks T).filter fun x => !(x == k)).length := by rw [← sp_ks_go, sp_ksl]
theorem z_tba.go {f g g' : Nat → Int32} {T : List (Nat × Int32)} {k : Nat} (h : z_tba f g T) (hs : z_sq g' ((sp_ks T).filter fun x => !(x == k))) : z_tba (z_ui f k (-1000)) g' (sp_go T k) := by
  refine ⟨sp_go_ok h.1, fun i hi => ?_, by rw [sp_ks_go]; exact hs⟩
  rw [sp_lk_go]
  by_cases c : i = k
  · subst c; rw [z_ui_self, if_pos rfl]
  · rw [z_ui_ne c, if_neg c]; exact h.2.1 i hi
theorem z_tba.ins {f g g' : Nat → Int32} {T : List (Nat × Int32)} {k j : Nat} {v : Int32} (h : z_tba f g T) (hk : k < 20) (e : sp_lk T k = -1000) (hv : z_vl v) (hs : z_sq g' ((sp_ks T).take j ++ k :: (sp_ks T).drop j)) : z_tba (z_ui f k v) g' (sp_ins T j k v) := by
  have hn := (sp_lk_iff h.1).mp e
  refine ⟨sp_ins_ok h.1 hn hk hv, fun i hi => ?_, by rw [sp_ks_ins]; exact hs⟩
  rw [sp_lk_ins hn]
  by_cases c : i = k
  · subst c; rw [z_ui_self, if_pos rfl]
  · rw [z_ui_ne c, if_neg c]; exact h.2.1 i hi
theorem z_tba.st {f g : Nat → Int32} {T : List (Nat × Int32)} {k : Nat} {v : Int32} (h : z_tba f g T) (e : ¬ sp_lk T k = -1000) (hv : z_vl v) : z_tba (z_ui f k v) g (sp_st T k v) := by
  refine ⟨sp_st_ok h.1 hv, fun i hi => ?_, by rw [sp_ks_st]; exact h.2.2⟩
  rw [sp_lk_st (sp_memk h.1 e)]
  by_cases c : i = k
  · subst c; rw [z_ui_self, if_pos rfl]
  · rw [z_ui_ne c, if_neg c]; exact h.2.1 i hi
theorem z_tba.nil {f g : Nat → Int32} (h : ∀ k, k < 20 → f k = -1000) : z_tba f g [] := ⟨⟨List.nodup_nil, fun p hp => by cases hp⟩, h, z_sq.nil⟩
/-- the place where a new key comes -/
theorem sp_pl_le {b : Bool} {T : List (Nat × Int32)} {k : Nat} : sp_pl b T k ≤ T.length := by
  unfold sp_pl
  cases b with
  | true => exact sp_at_le
  | false => exact Nat.le_refl _
theorem sp_at_eq {T : List (Nat × Int32)} {p : Nat × Int32} {k j : Nat} (hj : 0 < j) (hp : T[j - 1]? = some p) (h : ¬ k < p.1) : sp_at T k j = j := by
  obtain ⟨i, rfl⟩ : ∃ i, j = i + 1 := ⟨j - 1, by omega⟩
  rw [Nat.add_sub_cancel] at hp
  unfold sp_at
  rw [hp]
  exact if_neg h
theorem sp_at_st {T : List (Nat × Int32)} {p : Nat × Int32} {k j : Nat} (hj : 0 < j) (hp : T[j - 1]? = some p) (h : k < p.1) : sp_at T k j = sp_at T k (j - 1) := by
  obtain ⟨i, rfl⟩ : ∃ i, j = i + 1 := ⟨j - 1, by omega⟩
  rw [Nat.add_sub_cancel] at hp ⊢
  show (if k < ((T[i]?).map Prod.fst).getD 0 then sp_at T k i else i + 1) = _
  rw [hp]
  exact if_pos h
theorem sp_gt {α : Type} {T : List α} {j : Nat} (h : j < T.length) : ∃ p, T[j]? = some p ∧ p ∈ T := ⟨T[j], List.getElem?_eq_getElem h, List.getElem_mem h⟩
/-- the keys in rising order, out of the values -/
def sp_sk (T : List (Nat × Int32)) (n : Nat) : List Nat := (List.range n).filter fun k => !(sp_lk T k == -1000)
def sp_cp (b : Bool) (T : List (Nat × Int32)) : List (Nat × Int32) := cond b ((sp_sk T 20).map fun k => (k, sp_lk T k)) T
theorem sp_sk_le {T : List (Nat × Int32)} {n : Nat} : (sp_sk T n).length ≤ n := Nat.le_trans (List.length_filter_le ..) (by rw [List.length_range]; exact Nat.le_refl _)
theorem sp_sk_s {T : List (Nat × Int32)} {n : Nat} (h : ¬ sp_lk T n = -1000) : sp_sk T (n + 1) = sp_sk T n ++ [n] := by
  unfold sp_sk
  rw [List.range_succ, List.filter_append, List.filter_cons, if_pos (by rw [beq_false_of_ne h]; rfl)]
  rfl
theorem sp_sk_n {T : List (Nat × Int32)} {n : Nat} (h : sp_lk T n = -1000) : sp_sk T (n + 1) = sp_sk T n := by
  unfold sp_sk
  rw [List.range_succ, List.filter_append, List.filter_cons, if_neg (by rw [h]; decide)]
  exact List.append_nil _
theorem z_sq.push {g : Nat → Int32} {K : List Nat} {k : Nat} (h : z_sq g K) : z_sq (z_ui g K.length (nI k)) (K ++ [k]) := by
  intro j x hx
  by_cases c : j < K.length
  · rw [List.getElem?_append_left c] at hx
    rw [z_ui_ne (by omega)]
    exact h j x hx
  · rw [List.getElem?_append_right (by omega)] at hx
    have hj : j = K.length := by
      have := (List.getElem?_eq_some_iff.mp hx).1
      have l1 : [k].length = 1 := rfl
      omega
    subst hj
    rw [Nat.sub_self] at hx
    cases hx
    rw [z_ui_self]
theorem sp_sk_mem {T : List (Nat × Int32)} (h : sp_okT T) {k : Nat} : k ∈ sp_sk T 20 ↔ k ∈ sp_ks T := by
  unfold sp_sk
  rw [List.mem_filter, List.mem_range]
  constructor
  · rintro ⟨-, h2⟩
    refine sp_memk h (fun z => ?_)
    rw [z] at h2
    exact absurd h2 (by decide)
  · intro hk
    obtain ⟨p, hp, rfl⟩ := List.mem_map.mp hk
    exact ⟨(h.2 p hp).1, by rw [beq_false_of_ne (sp_vln (sp_lk_vl h.2 hk))]; rfl⟩
theorem sp_sk_nd {T : List (Nat × Int32)} : (sp_sk T 20).Nodup := List.nodup_range.sublist List.filter_sublist
theorem sp_nd_len {A B : List Nat} (ha : A.Nodup) (h : ∀ x, x ∈ A → x ∈ B) : A.length ≤ B.length := by
  induction A generalizing B with
  | nil => exact Nat.zero_le _
  | cons a A ih =>
    rw [List.nodup_cons] at ha
    have h1 := ih (B := B.erase a) ha.2 (fun x hx => by
      refine (List.mem_erase_of_ne (fun z => ?_)).mpr (h x (List.mem_cons_of_mem _ hx))
      subst z
      exact ha.1 hx)
    have h2 := List.length_erase_of_mem (h a List.mem_cons_self)
    have h3 : 0 < B.length := List.length_pos_of_mem (h a List.mem_cons_self)
    rw [List.length_cons]
    omega
theorem sp_ks_cp {T : List (Nat × Int32)} : sp_ks (sp_cp true T) = sp_sk T 20 := by
  show List.map Prod.fst (List.map _ _) = _
  rw [List.map_map]
  exact List.map_id _
theorem sp_cp_len {b : Bool} {T : List (Nat × Int32)} (h : sp_okT T) : (sp_cp b T).length = T.length := by
  cases b with
  | false => rfl
  | true =>
    have e : (sp_cp true T).length = (sp_sk T 20).length := List.length_map ..
    rw [e, ← sp_ksl (T := T)]
    exact Nat.le_antisymm (sp_nd_len sp_sk_nd (fun x hx => (sp_sk_mem h).mp hx)) (sp_nd_len h.1 (fun x hx => (sp_sk_mem h).mpr hx))
theorem sp_cp_ok {b : Bool} {T : List (Nat × Int32)} (h : sp_okT T) : sp_okT (sp_cp b T) := by
  cases b with
  | false => exact h
  | true =>
    refine ⟨by rw [sp_ks_cp]; exact sp_sk_nd, fun p hp => ?_⟩
    obtain ⟨k, hk, rfl⟩ := List.mem_map.mp (show p ∈ (sp_sk T 20).map (fun k => (k, sp_lk T k)) from hp)
    have hk2 := (sp_sk_mem h).mp hk
    obtain ⟨q, hq, rfl⟩ := List.mem_map.mp hk2
    exact ⟨(h.2 q hq).1, sp_lk_vl h.2 hk2⟩
theorem sp_lk_cp {b : Bool} {T : List (Nat × Int32)} (h : sp_okT T) {k : Nat} : sp_lk (sp_cp b T) k = sp_lk T k := by
  cases b with
  | false => rfl
  | true =>
    by_cases hk : k ∈ sp_ks T
    · exact sp_lk_mem (p := (k, sp_lk T k)) (sp_cp_ok (b := true) h).1 (List.mem_map.mpr ⟨k, (sp_sk_mem h).mpr hk, rfl⟩)
    · rw [sp_lk_no hk]
      exact sp_lk_no (fun z => hk ((sp_sk_mem h).mp (by rw [sp_ks_cp] at z; exact z)))
/-- whether two tables hold the same pairs -/
def sp_lik (T U : List (Nat × Int32)) : Bool := (List.range 20).all fun k => sp_lk T k == sp_lk U k
theorem sp_lik1 {T U : List (Nat × Int32)} (h : ∀ k, k < 20 → sp_lk T k = sp_lk U k) : sp_lik T U = true := by
  unfold sp_lik
  rw [List.all_eq_true]
  intro k hk
  rw [h k (List.mem_range.mp hk)]
  exact beq_self_eq_true _
theorem sp_lik0 {T U : List (Nat × Int32)} {k : Nat} (hk : k < 20) (h : ¬ sp_lk T k = sp_lk U k) : sp_lik T U = false := by
  unfold sp_lik
  rw [List.all_eq_false]
  exact ⟨k, List.mem_range.mpr hk, by rw [beq_false_of_ne h]; exact Bool.false_ne_true⟩
/-- a rule tells NOTHING or a VALUE -/
theorem q_rt_r {r k v n y : Int32} (hv : z_vl v) (hn : z_vl n) (h : q_rt r k v n = some y) : y = -1000 ∨ z_vl y := by
  unfold q_rt at h
  split at h
  · cases h; exact Or.inr (q_bdr _)
  split at h
  · cases h
    unfold q_mx
    split
    · exact Or.inr hn
    · exact Or.inr hv
  split at h
  · cases h
    cases q_ev (q_bd (v + n)) with
    | true => exact Or.inr (q_bdr _)
    | false => exact Or.inl rfl
  split at h
  · cases h; exact Or.inl rfl
  split at h
  · revert h
    cases q_ev (q_bd (v + n)) with
    | true => intro h; cases h; exact Or.inr (q_bdr _)
    | false => intro h; cases h
  · cases h; exact Or.inr (q_bdr _)
theorem q_rt_v {r k v n y : Int32} (hr : ¬ r = 2) (hr3 : ¬ r = 3) (hv : z_vl v) (hn : z_vl n) (h : q_rt r k v n = some y) : z_vl y := by
  unfold q_rt at h
  rw [if_neg hr, if_neg hr3] at h
  split at h
  · cases h; exact q_bdr _
  split at h
  · cases h
    unfold q_mx
    split
    · exact hn
    · exact hv
  split at h
  · revert h
    cases q_ev (q_bd (v + n)) with
    | true => intro h; cases h; exact q_bdr _
    | false => intro h; cases h
  · cases h; exact q_bdr _
/-- what is told out of none -/
theorem q_gn {o : Option Int32} {m : Int32} (h : ∀ y, o = some y → ¬ y = m) (e : o.getD m = m) : o = none := by
  cases o with
  | none => rfl
  | some y => exact absurd e (h y rfl)
theorem q_gs {o : Option Int32} {m : Int32} (e : ¬ o.getD m = m) : o = some (o.getD m) := by
  cases o with
  | none => exact absurd rfl e
  | some y => rfl
theorem q_d_vl {T : List (Nat × Int32)} {k : Nat} (h : sp_okT T) : z_vl (q_d (sp_lk T k)) := by
  unfold q_d
  rcases sp_lk_r (k := k) h with z | z
  · rw [if_pos z]; exact ⟨by decide, by decide⟩
  · rw [if_neg (sp_vln z)]; exact z
theorem q_dn {v : Int32} (h : ¬ v = -1000) : q_d v = v := if_neg h
theorem q_rtm {r k v n y : Int32} (hv : z_vl v) (hn : z_vl n) (h : q_rt r k v n = some y) : ¬ y = -1001 := by
  rcases q_rt_r hv hn h with z | z
  · rw [z]; decide
  · exact q_vlo z
theorem sp_bec0 {b : Bool} {T : List (Nat × Int32)} {c : Nat → Int32} {k : Nat} (h : sp_lk T k = -1000) : sp_bec b T c k (some (-1000)) = (some (-1000), T, c) := by
  show (if (-1000 : Int32) = -1000 then (if sp_lk T k = -1000 then (some (-1000), T, c) else (some (-1000), sp_go T k, z_bp c 6)) else (some (-1000), sp_pt b T k (-1000), z_bp c 5)) = _
  rw [if_pos rfl, if_pos h]
theorem sp_bec1 {b : Bool} {T : List (Nat × Int32)} {c : Nat → Int32} {k : Nat} (h : ¬ sp_lk T k = -1000) : sp_bec b T c k (some (-1000)) = (some (-1000), sp_go T k, z_bp c 6) := by
  show (if (-1000 : Int32) = -1000 then (if sp_lk T k = -1000 then (some (-1000), T, c) else (some (-1000), sp_go T k, z_bp c 6)) else (some (-1000), sp_pt b T k (-1000), z_bp c 5)) = _
  rw [if_pos rfl, if_neg h]
end ZTb
