section ZSp
/-! what is held, as it is told: (refused, knocks), rows, fixed, counts, tables, hearers ((stop, heard, sum, last), the last ten) -/
abbrev sp_H : Type := (Int32 × Int32 × Int32 × Int32) × List Int32
abbrev sp_S : Type := (Int32 × Int32) × (Nat → List Int32) × (Nat → Bool) × (Nat → Nat → Int32) × (Nat → List (Nat × Int32)) × (Nat → sp_H)
abbrev sp_R (S : sp_S) : Nat → List Int32 := S.2.1
abbrev sp_F (S : sp_S) : Nat → Bool := S.2.2.1
abbrev sp_C (S : sp_S) : Nat → Nat → Int32 := S.2.2.2.1
abbrev sp_T (S : sp_S) : Nat → List (Nat × Int32) := S.2.2.2.2.1
abbrev sp_E (S : sp_S) : Nat → sp_H := S.2.2.2.2.2
abbrev sp_uR (S : sp_S) (i : Nat) (B : List Int32) : sp_S := (S.1, z_fu S.2.1 i B, S.2.2)
abbrev sp_uF (S : sp_S) (i : Nat) (b : Bool) : sp_S := (S.1, S.2.1, z_fu S.2.2.1 i b, S.2.2.2)
abbrev sp_uC (S : sp_S) (i : Nat) (c : Nat → Int32) : sp_S := (S.1, S.2.1, S.2.2.1, z_fu S.2.2.2.1 i c, S.2.2.2.2)
abbrev sp_uT (S : sp_S) (t : Nat) (T : List (Nat × Int32)) : sp_S := (S.1, S.2.1, S.2.2.1, S.2.2.2.1, z_fu S.2.2.2.2.1 t T, S.2.2.2.2.2)
abbrev sp_uE (S : sp_S) (g : Nat) (h : sp_H) : sp_S := (S.1, S.2.1, S.2.2.1, S.2.2.2.1, S.2.2.2.2.1, z_fu S.2.2.2.2.2 g h)
abbrev sp_nine (S : sp_S) : sp_S := ((S.1.1 + 1, S.1.2), S.2)
abbrev sp_kno (S : sp_S) : sp_S := ((S.1.1, S.1.2 + 1), S.2)
/-- told with none: it refused -/
def sp_rfn {α : Type} (rf : Int32) (o : Option α) : Int32 := match o with
  | none => rf + 1
  | some _ => rf
abbrev sp_nn {α : Type} (S : sp_S) (o : Option α) : sp_S := ((sp_rfn S.1.1 o, S.1.2), S.2)
abbrev sp_bn (S : sp_S) (b : Bool) : sp_S := ((cond b S.1.1 (S.1.1 + 1), S.1.2), S.2)
/-! numbers are heard -/
def sp_rec (L : List Int32) (x : Int32) : List Int32 := if L.length < 10 then L ++ [x] else L.tail ++ [x]
def sp_in (h : sp_H) (x : Int32) : Option sp_H := if ¬ h.1.1 = -1000 ∧ x = h.1.1 then none else some ((h.1.1, h.1.2.1 + 1, h.1.2.2.1 + x, x), sp_rec h.2 x)
def sp_ho (c : Nat → Int32) (h : sp_H) (n : Nat) : List Int32 → Option Nat × (Nat → Int32) × sp_H
  | [] => (some n, z_bp c 1, h)
  | x :: L => match sp_in h x with
    | none => (none, z_bp (z_bp c 1) 2, h)
    | some h2 => sp_ho (z_bp (z_bp c 1) 2) h2 (n + 1) L
theorem sp_hoN {c : Nat → Int32} {h : sp_H} {n : Nat} {x : Int32} {L : List Int32} (e : sp_in h x = none) : sp_ho c h n (x :: L) = (none, z_bp (z_bp c 1) 2, h) := by
  show (match sp_in h x with | none => _ | some h2 => _) = _
  rw [e]
theorem sp_hoS {c : Nat → Int32} {h h2 : sp_H} {n : Nat} {x : Int32} {L : List Int32} (e : sp_in h x = some h2) : sp_ho c h n (x :: L) = sp_ho (z_bp (z_bp c 1) 2) h2 (n + 1) L := by
  show (match sp_in h x with | none => _ | some h2 => _) = _
  rw [e]
/-- what is heard doesn't hang on the counts -/
theorem sp_hoc : ∀ (L : List Int32) (c c2 : Nat → Int32) (h : sp_H) (n : Nat), (sp_ho c h n L).1 = (sp_ho c2 h n L).1 ∧ (sp_ho c h n L).2.2 = (sp_ho c2 h n L).2.2
  | [], _, _, _, _ => ⟨rfl, rfl⟩
  | x :: L, c, c2, h, n => by
    cases e : sp_in h x with
    | none => rw [sp_hoN e, sp_hoN e]; exact ⟨rfl, rfl⟩
    | some h2 => rw [sp_hoS e, sp_hoS e]; exact sp_hoc L _ _ _ _
theorem sp_rec_le {L : List Int32} {x : Int32} (h : L.length ≤ 10) : (sp_rec L x).length ≤ 10 := by
  unfold sp_rec
  split
  · rw [List.length_append]; show _ + 1 ≤ 10; omega
  · rw [List.length_append, List.length_tail]; show _ + 1 ≤ 10; omega
theorem sp_in_le {h h2 : sp_H} {x : Int32} (e : sp_in h x = some h2) (hl : h.2.length ≤ 10) : h2.2.length ≤ 10 := by
  unfold sp_in at e
  split at e
  · cases e
  · cases e; exact sp_rec_le hl
theorem sp_ho_le : ∀ (L : List Int32) (c : Nat → Int32) (h : sp_H) (n : Nat), h.2.length ≤ 10 → (sp_ho c h n L).2.2.2.length ≤ 10
  | [], _, _, _, hl => hl
  | x :: L, c, h, n, hl => by
    cases e : sp_in h x with
    | none => rw [sp_hoN e]; exact hl
    | some h2 => rw [sp_hoS e]; exact sp_ho_le L _ _ _ (sp_in_le e hl)
/-! a row is sifted, a row is changed, a table is changed -/
def sp_ri (b : Bool) (t n : Int32) (c : Nat → Int32) (A : List Int32) (k : Bool) : List Int32 → Option Bool × (Nat → Int32) × List Int32
  | [] => (some k, z_bp c 1, A)
  | v :: L => match q_tt t v n with
    | none => (none, z_bp (z_bp c 1) 2, A ++ v :: L)
    | some r => if r = 1 then cond b (none, z_bp (z_bp c 1) 2, A ++ v :: L) (sp_ri b t n (z_bp (z_bp (z_bp c 1) 2) 4) A true L) else sp_ri b t n (z_bp (z_bp c 1) 2) (A ++ [v]) k L
theorem sp_riN {b : Bool} {t n v : Int32} {c : Nat → Int32} {A L : List Int32} {k : Bool} (e : q_tt t v n = none) : sp_ri b t n c A k (v :: L) = (none, z_bp (z_bp c 1) 2, A ++ v :: L) := by
  show (match q_tt t v n with | none => _ | some r => _) = _
  rw [e]
theorem sp_riF {t n v : Int32} {c : Nat → Int32} {A L : List Int32} {k : Bool} (e : q_tt t v n = some 1) : sp_ri true t n c A k (v :: L) = (none, z_bp (z_bp c 1) 2, A ++ v :: L) := by
  show (match q_tt t v n with | none => _ | some r => _) = _
  rw [e]
  rfl
theorem sp_riT {t n v : Int32} {c : Nat → Int32} {A L : List Int32} {k : Bool} (e : q_tt t v n = some 1) : sp_ri false t n c A k (v :: L) = sp_ri false t n (z_bp (z_bp (z_bp c 1) 2) 4) A true L := by
  show (match q_tt t v n with | none => _ | some r => _) = _
  rw [e]
  rfl
theorem sp_riO {b : Bool} {t n v r : Int32} {c : Nat → Int32} {A L : List Int32} {k : Bool} (e : q_tt t v n = some r) (hr : ¬ r = 1) : sp_ri b t n c A k (v :: L) = sp_ri b t n (z_bp (z_bp c 1) 2) (A ++ [v]) k L := by
  show (match q_tt t v n with | none => _ | some r => _) = _
  rw [e]
  exact if_neg hr
def sp_ra (b : Bool) (r n : Int32) (c : Nat → Int32) (A : List Int32) : List Int32 → Bool × (Nat → Int32) × List Int32
  | [] => (true, z_bp c 1, A)
  | v :: L => match q_rt r 0 v n with
    | none => (false, z_bp (z_bp c 1) 2, A ++ v :: L)
    | some y => cond b (false, z_bp (z_bp c 1) 2, A ++ v :: L) (sp_ra b r n (z_bp (z_bp (z_bp c 1) 2) 3) (A ++ [y]) L)
theorem sp_raN {b : Bool} {r n v : Int32} {c : Nat → Int32} {A L : List Int32} (e : q_rt r 0 v n = none) : sp_ra b r n c A (v :: L) = (false, z_bp (z_bp c 1) 2, A ++ v :: L) := by
  show (match q_rt r 0 v n with | none => _ | some y => _) = _
  rw [e]
theorem sp_raF {r n v y : Int32} {c : Nat → Int32} {A L : List Int32} (e : q_rt r 0 v n = some y) : sp_ra true r n c A (v :: L) = (false, z_bp (z_bp c 1) 2, A ++ v :: L) := by
  show (match q_rt r 0 v n with | none => _ | some y => _) = _
  rw [e]
  rfl
theorem sp_raT {r n v y : Int32} {c : Nat → Int32} {A L : List Int32} (e : q_rt r 0 v n = some y) : sp_ra false r n c A (v :: L) = sp_ra false r n (z_bp (z_bp (z_bp c 1) 2) 3) (A ++ [y]) L := by
  show (match q_rt r 0 v n with | none => _ | some y => _) = _
  rw [e]
  rfl
def sp_rt (r n : Int32) (c : Nat → Int32) (A : List (Nat × Int32)) : List (Nat × Int32) → Bool × (Nat → Int32) × List (Nat × Int32)
  | [] => (true, z_bp c 1, A)
  | p :: L => match q_rt r (nI p.1) p.2 n with
    | none => (false, z_bp (z_bp c 1) 2, A ++ p :: L)
    | some y => sp_rt r n (z_bp (z_bp (z_bp c 1) 2) 3) (A ++ [(p.1, y)]) L
theorem sp_rtN {r n : Int32} {p : Nat × Int32} {c : Nat → Int32} {A L : List (Nat × Int32)} (e : q_rt r (nI p.1) p.2 n = none) : sp_rt r n c A (p :: L) = (false, z_bp (z_bp c 1) 2, A ++ p :: L) := by
  show (match q_rt r (nI p.1) p.2 n with | none => _ | some y => _) = _
  rw [e]
theorem sp_rtS {r n y : Int32} {p : Nat × Int32} {c : Nat → Int32} {A L : List (Nat × Int32)} (e : q_rt r (nI p.1) p.2 n = some y) : sp_rt r n c A (p :: L) = sp_rt r n (z_bp (z_bp (z_bp c 1) 2) 3) (A ++ [(p.1, y)]) L := by
  show (match q_rt r (nI p.1) p.2 n with | none => _ | some y => _) = _
  rw [e]
theorem sp_rtc : ∀ (L A : List (Nat × Int32)) (r n : Int32) (c c2 : Nat → Int32), (sp_rt r n c A L).1 = (sp_rt r n c2 A L).1 ∧ (sp_rt r n c A L).2.2 = (sp_rt r n c2 A L).2.2
  | [], _, _, _, _, _ => ⟨rfl, rfl⟩
  | p :: L, A, r, n, c, c2 => by
    cases e : q_rt r (nI p.1) p.2 n with
    | none => rw [sp_rtN e, sp_rtN e]; exact ⟨rfl, rfl⟩
    | some y => rw [sp_rtS e, sp_rtS e]; exact sp_rtc L _ _ _ _ _
/-- one of the counts goes up n times -/
def sp_bps (c : Nat → Int32) (k : Nat) : Nat → Nat → Int32
  | 0 => c
  | n + 1 => z_bp (sp_bps c k n) k
theorem sp_bps_self {c : Nat → Int32} {k : Nat} : ∀ {n : Nat}, sp_bps c k n k = c k + nI n
  | 0 => (Int32.add_zero _).symm
  | n + 1 => by
    show z_ui (sp_bps c k n) k (sp_bps c k n k + 1) k = _
    rw [z_ui_self, sp_bps_self (n := n), Int32.add_assoc, nI_1]
theorem sp_bps_ne {c : Nat → Int32} {k j : Nat} (h : j ≠ k) : ∀ {n : Nat}, sp_bps c k n j = c j
  | 0 => rfl
  | n + 1 => by
    show z_ui (sp_bps c k n) k (sp_bps c k n k + 1) j = _
    rw [z_ui_ne h, sp_bps_ne h (n := n)]
/-! tables -/
def sp_lk : List (Nat × Int32) → Nat → Int32
  | [], _ => -1000
  | p :: T, k => if p.1 = k then p.2 else sp_lk T k
abbrev sp_ks (T : List (Nat × Int32)) : List Nat := T.map Prod.fst
def sp_okT (T : List (Nat × Int32)) : Prop := (sp_ks T).Nodup ∧ ∀ p ∈ T, p.1 < 20 ∧ z_vl p.2
def sp_at (T : List (Nat × Int32)) (k : Nat) : Nat → Nat
  | 0 => 0
  | n + 1 => if k < ((T[n]?).map Prod.fst).getD 0 then sp_at T k n else n + 1
def sp_ins (T : List (Nat × Int32)) (j k : Nat) (v : Int32) : List (Nat × Int32) := T.take j ++ (k, v) :: T.drop j
def sp_st (T : List (Nat × Int32)) (k : Nat) (v : Int32) : List (Nat × Int32) := T.map fun p => if p.1 = k then (p.1, v) else p
def sp_pl (b : Bool) (T : List (Nat × Int32)) (k : Nat) : Nat := cond b (sp_at T k T.length) T.length
def sp_pt (b : Bool) (T : List (Nat × Int32)) (k : Nat) (v : Int32) : List (Nat × Int32) := if sp_lk T k = -1000 then sp_ins T (sp_pl b T k) k v else sp_st T k v
def sp_go (T : List (Nat × Int32)) (k : Nat) : List (Nat × Int32) := T.filter fun p => !(p.1 == k)
theorem sp_vln {x : Int32} (h : z_vl x) : ¬ x = -1000 := by
  rintro rfl
  exact absurd h.1 (by decide)
theorem sp_lk_no : ∀ {T : List (Nat × Int32)} {k : Nat}, k ∉ sp_ks T → sp_lk T k = -1000
  | [], _, _ => rfl
  | p :: T, k, h => by
    have h1 : p.1 ≠ k := fun z => h (by subst z; exact List.mem_cons_self)
    unfold sp_lk
    rw [if_neg h1]
    exact sp_lk_no (fun z => h (List.mem_cons_of_mem _ z))
theorem sp_lk_vl : ∀ {T : List (Nat × Int32)} {k : Nat}, (∀ p ∈ T, p.1 < 20 ∧ z_vl p.2) → k ∈ sp_ks T → z_vl (sp_lk T k)
  | [], _, _, hk => by cases hk
  | p :: T, k, h, hk => by
    unfold sp_lk
    by_cases h1 : p.1 = k
    · rw [if_pos h1]; exact (h p List.mem_cons_self).2
    · rw [if_neg h1]
      refine sp_lk_vl (fun q hq => h q (List.mem_cons_of_mem _ hq)) ?_
      rcases List.mem_cons.mp hk with z | z
      · exact absurd z.symm h1
      · exact z
theorem sp_lk_iff {T : List (Nat × Int32)} {k : Nat} (h : sp_okT T) : sp_lk T k = -1000 ↔ k ∉ sp_ks T :=
  ⟨fun z hk => sp_vln (sp_lk_vl h.2 hk) z, sp_lk_no⟩
theorem sp_lk_r {T : List (Nat × Int32)} {k : Nat} (h : sp_okT T) : sp_lk T k = -1000 ∨ z_vl (sp_lk T k) := by
  by_cases hk : k ∈ sp_ks T
  · exact Or.inr (sp_lk_vl h.2 hk)
  · exact Or.inl (sp_lk_no hk)
theorem sp_lk_mem : ∀ {T : List (Nat × Int32)} {p : Nat × Int32}, (sp_ks T).Nodup → p ∈ T → sp_lk T p.1 = p.2
  | [], _, _, hp => by cases hp
  | q :: T, p, h, hp => by
    unfold sp_lk
    have h : (q.1 :: sp_ks T).Nodup := h
    rw [List.nodup_cons] at h
    rcases List.mem_cons.mp hp with z | z
    · rw [z, if_pos rfl]
    · have h1 : q.1 ≠ p.1 := fun e => h.1 (by rw [e]; exact List.mem_map.mpr ⟨p, z, rfl⟩)
      rw [if_neg h1]
      exact sp_lk_mem h.2 z
theorem sp_lk_app : ∀ {A D : List (Nat × Int32)} {k : Nat}, k ∉ sp_ks A → sp_lk (A ++ D) k = sp_lk D k
  | [], _, _, _ => rfl
  | p :: A, D, k, h => by
    have h1 : p.1 ≠ k := fun z => h (by subst z; exact List.mem_cons_self)
    show (if p.1 = k then p.2 else sp_lk (A ++ D) k) = _
    rw [if_neg h1]
    exact sp_lk_app (fun z => h (List.mem_cons_of_mem _ z))
theorem sp_lk_appL : ∀ {A D E : List (Nat × Int32)} {k : Nat}, sp_lk D k = sp_lk E k → sp_lk (A ++ D) k = sp_lk (A ++ E) k
  | [], _, _, _, h => h
  | p :: A, D, E, k, h => by
    show (if p.1 = k then p.2 else sp_lk (A ++ D) k) = (if p.1 = k then p.2 else sp_lk (A ++ E) k)
    by_cases h1 : p.1 = k
    · rw [if_pos h1, if_pos h1]
    · rw [if_neg h1, if_neg h1]
      exact sp_lk_appL h
theorem sp_ks_ins {T : List (Nat × Int32)} {j k : Nat} {v : Int32} : sp_ks (sp_ins T j k v) = (sp_ks T).take j ++ k :: (sp_ks T).drop j := by
  unfold sp_ks sp_ins
  rw [List.map_append, List.map_cons, List.map_take, List.map_drop]
theorem sp_ks_insp {T : List (Nat × Int32)} {j k : Nat} {v : Int32} : (sp_ks (sp_ins T j k v)).Perm (k :: sp_ks T) := by
  rw [sp_ks_ins]
  have := @List.perm_middle _ k ((sp_ks T).take j) ((sp_ks T).drop j)
  rw [List.take_append_drop] at this
  exact this
theorem sp_ins_len {T : List (Nat × Int32)} {j k : Nat} {v : Int32} : (sp_ins T j k v).length = T.length + 1 := by
  have h := (sp_ks_insp (T := T) (j := j) (k := k) (v := v)).length_eq
  unfold sp_ks at h
  rw [List.length_map, List.length_cons, List.length_map] at h
  exact h
theorem sp_ins_ok {T : List (Nat × Int32)} {j k : Nat} {v : Int32} (h : sp_okT T) (hk : k ∉ sp_ks T) (hk2 : k < 20) (hv : z_vl v) : sp_okT (sp_ins T j k v) := by
  refine ⟨sp_ks_insp.nodup_iff.mpr (List.nodup_cons.mpr ⟨hk, h.1⟩), fun p hp => ?_⟩
  unfold sp_ins at hp
  rcases List.mem_append.mp hp with z | z
  · exact h.2 p (List.mem_of_mem_take z)
  · rcases List.mem_cons.mp z with z | z
    · subst z; exact ⟨hk2, hv⟩
    · exact h.2 p (List.mem_of_mem_drop z)
theorem sp_lk_ins {T : List (Nat × Int32)} {j k i : Nat} {v : Int32} (hk : k ∉ sp_ks T) : sp_lk (sp_ins T j k v) i = if i = k then v else sp_lk T i := by
  unfold sp_ins
  by_cases e : i = k
  · subst e
    rw [if_pos rfl, sp_lk_app (fun z => hk (by unfold sp_ks at z ⊢; rw [List.map_take] at z; exact List.mem_of_mem_take z))]
    exact if_pos rfl
  · rw [if_neg e]
    have h1 : sp_lk (T.take j ++ (k, v) :: T.drop j) i = sp_lk (T.take j ++ T.drop j) i := sp_lk_appL (if_neg (fun z => e z.symm))
    rw [h1, List.take_append_drop]
theorem sp_ks_st {T : List (Nat × Int32)} {k : Nat} {v : Int32} : sp_ks (sp_st T k v) = sp_ks T := by
  unfold sp_ks sp_st
  rw [List.map_map]
  refine List.map_congr_left (fun p _ => ?_)
  show (if p.1 = k then (p.1, v) else p).1 = p.1
  split <;> rfl
theorem sp_st_len {T : List (Nat × Int32)} {k : Nat} {v : Int32} : (sp_st T k v).length = T.length := List.length_map ..
theorem sp_st_ok {T : List (Nat × Int32)} {k : Nat} {v : Int32} (h : sp_okT T) (hv : z_vl v) : sp_okT (sp_st T k v) := by
  refine ⟨by rw [sp_ks_st]; exact h.1, fun p hp => ?_⟩
  unfold sp_st at hp
  obtain ⟨q, hq, rfl⟩ := List.mem_map.mp hp
  split
  · exact ⟨(h.2 q hq).1, hv⟩
  · exact h.2 q hq
theorem sp_lk_st : ∀ {T : List (Nat × Int32)} {k i : Nat} {v : Int32}, k ∈ sp_ks T → sp_lk (sp_st T k v) i = if i = k then v else sp_lk T i
  | [], _, _, _, h => by cases h
  | p :: T, k, i, v, h => by
    show (if (if p.1 = k then (p.1, v) else p).1 = i then (if p.1 = k then (p.1, v) else p).2 else sp_lk (sp_st T k v) i) = (if i = k then v else if p.1 = i then p.2 else sp_lk T i)
    by_cases hp : p.1 = k
    · rw [if_pos hp]
      by_cases hi : i = k
      · rw [if_pos hi]; exact if_pos (hp.trans hi.symm)
      · rw [if_neg hi, if_neg (fun z => hi (z.symm.trans hp)), if_neg (fun z => hi (z.symm.trans hp))]
        by_cases hk : k ∈ sp_ks T
        · rw [sp_lk_st hk, if_neg hi]
        · refine congrArg (fun z => sp_lk z i) ?_
          unfold sp_st
          refine (List.map_congr_left (fun q hq => if_neg (fun z => hk ?_))).trans (List.map_id _)
          rw [← z]
          exact List.mem_map.mpr ⟨q, hq, rfl⟩
    · rw [if_neg hp]
      have hk : k ∈ sp_ks T := by
        rcases List.mem_cons.mp h with z | z
        · exact absurd z.symm hp
        · exact z
      by_cases hi : i = k
      · subst hi
        rw [if_neg hp, if_pos rfl, sp_lk_st hk, if_pos rfl]
      · rw [if_neg hi, sp_lk_st hk, if_neg hi]
theorem sp_go_ok {T : List (Nat × Int32)} {k : Nat} (h : sp_okT T) : sp_okT (sp_go T k) :=
  ⟨h.1.sublist (List.filter_sublist.map _), fun p hp => h.2 p (List.mem_filter.mp hp).1⟩
theorem sp_lk_go : ∀ {T : List (Nat × Int32)} {k i : Nat}, sp_lk (sp_go T k) i = if i = k then -1000 else sp_lk T i
  | [], k, i => by
    show (-1000 : Int32) = if i = k then -1000 else -1000
    split <;> rfl
  | p :: T, k, i => by
    unfold sp_go
    rw [List.filter_cons]
    by_cases hp : p.1 = k
    · rw [if_neg (by rw [hp, beq_self_eq_true]; exact Bool.false_ne_true)]
      have ih := sp_lk_go (T := T) (k := k) (i := i)
      unfold sp_go at ih
      rw [ih]
      by_cases hi : i = k
      · rw [if_pos hi, if_pos hi]
      · rw [if_neg hi, if_neg hi]
        exact (if_neg (fun z => hi (z.symm.trans hp))).symm
    · rw [if_pos (by rw [beq_false_of_ne hp]; rfl)]
      have ih := sp_lk_go (T := T) (k := k) (i := i)
      unfold sp_go at ih
      show (if p.1 = i then p.2 else sp_lk _ i) = (if i = k then -1000 else if p.1 = i then p.2 else sp_lk T i)
      rw [ih]
      by_cases hi : i = k
      · rw [if_pos hi, if_neg (fun z => hp (z.trans hi)), if_pos hi]
      · rw [if_neg hi, if_neg hi]
theorem sp_go_no {T : List (Nat × Int32)} {k : Nat} (h : k ∉ sp_ks T) : sp_go T k = T := by
  unfold sp_go
  refine List.filter_eq_self.mpr (fun p hp => ?_)
  rw [beq_false_of_ne (fun z => h (by rw [← z]; exact List.mem_map.mpr ⟨p, hp, rfl⟩))]
  rfl
theorem sp_pt_ok {b : Bool} {T : List (Nat × Int32)} {k : Nat} {v : Int32} (h : sp_okT T) (hk2 : k < 20) (hv : z_vl v) : sp_okT (sp_pt b T k v) := by
  unfold sp_pt
  split
  · exact sp_ins_ok h ((sp_lk_iff h).mp (by assumption)) hk2 hv
  · exact sp_st_ok h hv
theorem sp_memk {T : List (Nat × Int32)} {k : Nat} (h : sp_okT T) (e : ¬ sp_lk T k = -1000) : k ∈ sp_ks T := Decidable.of_not_not (fun z => e (sp_lk_no z))
theorem sp_lk_pt {b : Bool} {T : List (Nat × Int32)} {k i : Nat} {v : Int32} (h : sp_okT T) : sp_lk (sp_pt b T k v) i = if i = k then v else sp_lk T i := by
  unfold sp_pt
  split
  · exact sp_lk_ins ((sp_lk_iff h).mp (by assumption))
  · exact sp_lk_st (sp_memk h (by assumption))
theorem sp_okT.len {T : List (Nat × Int32)} (h : sp_okT T) : T.length ≤ 20 := by
  have h1 := z_nodup_le 20 (sp_ks T) h.1 (fun x hx => by
    obtain ⟨p, hp, rfl⟩ := List.mem_map.mp hx
    exact (h.2 p hp).1)
  unfold sp_ks at h1
  rw [List.length_map] at h1
  exact h1
/-- keys in rising order -/
abbrev sp_ri2 (T : List (Nat × Int32)) : Prop := (sp_ks T).Pairwise (· < ·)
theorem sp_at_le {T : List (Nat × Int32)} {k : Nat} : ∀ {n : Nat}, sp_at T k n ≤ n
  | 0 => Nat.le_refl _
  | n + 1 => by
    unfold sp_at
    split
    · exact Nat.le_succ_of_le sp_at_le
    · exact Nat.le_refl _
theorem sp_at_hi {T : List (Nat × Int32)} {k : Nat} : ∀ {n : Nat} (i : Nat), sp_at T k n ≤ i → i < n → k < ((T[i]?).map Prod.fst).getD 0
  | 0, i, _, h => absurd h (Nat.not_lt_zero _)
  | n + 1, i, h1, h2 => by
    unfold sp_at at h1
    by_cases c : k < ((T[n]?).map Prod.fst).getD 0
    · rw [if_pos c] at h1
      by_cases e : i = n
      · rw [e]; exact c
      · exact sp_at_hi i h1 (by omega)
    · rw [if_neg c] at h1
      omega
theorem sp_at_lo {T : List (Nat × Int32)} {k : Nat} : ∀ {n : Nat}, 0 < sp_at T k n → ¬ k < ((T[sp_at T k n - 1]?).map Prod.fst).getD 0
  | 0, h => absurd h (Nat.lt_irrefl 0)
  | n + 1, h => by
    unfold sp_at at h ⊢
    by_cases c : k < ((T[n]?).map Prod.fst).getD 0
    · rw [if_pos c] at h ⊢
      exact sp_at_lo h
    · rw [if_neg c]
      exact c
theorem sp_gk {T : List (Nat × Int32)} {i : Nat} (h : i < T.length) : ((T[i]?).map Prod.fst).getD 0 = (sp_ks T)[i]'(by unfold sp_ks; rw [List.length_map]; exact h) := by
  unfold sp_ks
  rw [List.getElem_map, List.getElem?_eq_getElem h]
  rfl
theorem sp_ins_ri {T : List (Nat × Int32)} {k : Nat} {v : Int32} (h : sp_ri2 T) (hk : k ∉ sp_ks T) : sp_ri2 (sp_ins T (sp_at T k T.length) k v) := by
  have hl : (sp_ks T).length = T.length := List.length_map ..
  have hle := sp_at_le (T := T) (k := k) (n := T.length)
  have hp := List.pairwise_iff_getElem.mp h
  have lo : ∀ x ∈ (sp_ks T).take (sp_at T k T.length), x < k := by
    intro x hx
    obtain ⟨i, hi, rfl⟩ := List.mem_iff_getElem.mp hx
    rw [List.length_take] at hi
    rw [List.getElem_take]
    have h0 : 0 < sp_at T k T.length := by omega
    have h1 := sp_at_lo h0
    rw [sp_gk (by omega)] at h1
    have h2 : (sp_ks T)[i]'(by omega) ≤ (sp_ks T)[sp_at T k T.length - 1]'(by omega) := by
      by_cases e : i = sp_at T k T.length - 1
      · exact Nat.le_of_eq (by congr 1)
      · exact Nat.le_of_lt (hp i _ (by omega) (by omega) (by omega))
    have h3 : (sp_ks T)[i]'(by omega) ≠ k := fun z => hk (by rw [← z]; exact List.getElem_mem _)
    omega
  have hi : ∀ x ∈ (sp_ks T).drop (sp_at T k T.length), k < x := by
    intro x hx
    obtain ⟨i, hi, rfl⟩ := List.mem_iff_getElem.mp hx
    rw [List.length_drop] at hi
    rw [List.getElem_drop]
    have h1 := sp_at_hi (T := T) (k := k) (n := T.length) (sp_at T k T.length + i) (by omega) (by omega)
    rw [sp_gk (by omega)] at h1
    exact h1
  show (sp_ks (sp_ins T _ k v)).Pairwise (· < ·)
  rw [sp_ks_ins]
  refine List.pairwise_append.mpr ⟨h.sublist (List.take_sublist _ _), List.pairwise_cons.mpr ⟨hi, h.sublist (List.drop_sublist _ _)⟩, fun a ha b hb => ?_⟩
  have h1 := lo a ha
  rcases List.mem_cons.mp hb with z | z
  · rw [z]; exact h1
  · exact Nat.lt_trans h1 (hi b z)
theorem sp_pt_ri {T : List (Nat × Int32)} {k : Nat} {v : Int32} (h : sp_okT T) (h2 : sp_ri2 T) : sp_ri2 (sp_pt true T k v) := by
  unfold sp_pt
  split
  · exact sp_ins_ri h2 ((sp_lk_iff h).mp (by assumption))
  · show (sp_ks (sp_st T k v)).Pairwise (· < ·)
    rw [sp_ks_st]
    exact h2
theorem sp_go_ri {T : List (Nat × Int32)} {k : Nat} (h : sp_ri2 T) : sp_ri2 (sp_go T k) := h.sublist (List.filter_sublist.map _)
/-! calls by keys: what is told (none: it refused), the table, its counts -/
abbrev sp_O : Type := Option Int32 × List (Nat × Int32) × (Nat → Int32)
def sp_put (b : Bool) (T : List (Nat × Int32)) (c : Nat → Int32) (k : Nat) (v : Int32) : sp_O := (some (sp_lk T k), sp_pt b T k v, z_bp c 5)
def sp_del (T : List (Nat × Int32)) (c : Nat → Int32) (k : Nat) : sp_O := (some (sp_lk T k), sp_go T k, z_bp c 6)
def sp_pia (b : Bool) (T : List (Nat × Int32)) (c : Nat → Int32) (k : Nat) (v : Int32) : sp_O := if sp_lk T k = -1000 then (some (-1000), sp_pt b T k v, z_bp c 5) else (some (sp_lk T k), T, c)
def sp_rep (b : Bool) (T : List (Nat × Int32)) (c : Nat → Int32) (k : Nat) (v : Int32) : sp_O := if sp_lk T k = -1000 then (some (-1000), T, c) else (some (sp_lk T k), sp_pt b T k v, z_bp c 5)
def sp_rif (b : Bool) (T : List (Nat × Int32)) (c : Nat → Int32) (k : Nat) (o v : Int32) : sp_O := if sp_lk T k = o then (some 1, sp_pt b T k v, z_bp c 5) else (some 0, T, c)
def sp_rmp (T : List (Nat × Int32)) (c : Nat → Int32) (k : Nat) (v : Int32) : sp_O := if sp_lk T k = v then (some 1, sp_go T k, z_bp c 6) else (some 0, T, c)
def sp_bec (b : Bool) (T : List (Nat × Int32)) (c : Nat → Int32) (k : Nat) (o : Option Int32) : sp_O := match o with
  | none => (none, T, c)
  | some y => if y = -1000 then (if sp_lk T k = -1000 then (some y, T, c) else (some y, sp_go T k, z_bp c 6)) else (some y, sp_pt b T k y, z_bp c 5)
def sp_cia (b : Bool) (T : List (Nat × Int32)) (c : Nat → Int32) (k : Nat) (r n : Int32) : sp_O := if sp_lk T k = -1000 then sp_bec b T c k (q_rt r (nI k) 0 n) else (some (sp_lk T k), T, c)
def sp_cip (b : Bool) (T : List (Nat × Int32)) (c : Nat → Int32) (k : Nat) (r n : Int32) : sp_O := if sp_lk T k = -1000 then (some (-1000), T, c) else sp_bec b T c k (q_rt r (nI k) (sp_lk T k) n)
def sp_cmp (b : Bool) (T : List (Nat × Int32)) (c : Nat → Int32) (k : Nat) (r n : Int32) : sp_O := sp_bec b T c k (q_rt r (nI k) (q_d (sp_lk T k)) n)
def sp_mrg (b : Bool) (T : List (Nat × Int32)) (c : Nat → Int32) (k : Nat) (v r : Int32) : sp_O := if sp_lk T k = -1000 then (some v, sp_pt b T k v, z_bp c 5) else sp_bec b T c k (q_rt r (nI k) (sp_lk T k) v)
end ZSp
