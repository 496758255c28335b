section ZMr1
variable {G : z_G} {l : Launch}
theorem sp_thr_n {i : Nat} (h : i < 3) : sp_thr (nI i) := by
  rcases (by omega : i = 0 ∨ i = 1 ∨ i = 2) with rfl | rfl | rfl
  · exact Or.inl rfl
  · exact Or.inr (Or.inl rfl)
  · exact Or.inr (Or.inr rfl)
theorem sp_no3 {x : Int32} (h : ¬ (0 ≤ x ∧ x ≤ 2)) : ¬ sp_thr x := by
  rintro (rfl | rfl | rfl) <;> exact h ⟨by decide, by decide⟩
theorem cm_isNoTwo_r (hl : l.stackTraces = false) (w : z_W) (x : Int32) : z_Con G l mX11_isNoTwo 12 0 0 w [.int x] (fun v w9 => ((v = some (.int 1) ∧ ¬ sp_two x) ∨ (v = some (.int 0) ∧ ∃ i, i < 2 ∧ sp_two (nI i) ∧ x = nI i)) ∧ w9 = w) (fun _ _ => False) :=
  z_weak (cm_isNoTwo hl w x) (fun v w' h => ⟨h.1.imp (fun z => ⟨z.1, q_no2 z.2⟩) (fun z => ⟨z.1, by obtain ⟨i, hi, e⟩ := z.2; exact ⟨i, hi, q_i2 hi, e⟩⟩), h.2⟩) (fun _ _ h => h)
theorem cm_isNoTable_r (hl : l.stackTraces = false) (w : z_W) (x : Int32) : z_Con G l mX11_isNoTable 12 0 0 w [.int x] (fun v w9 => ((v = some (.int 1) ∧ ¬ sp_thr x) ∨ (v = some (.int 0) ∧ ∃ i, i < 3 ∧ sp_thr (nI i) ∧ x = nI i)) ∧ w9 = w) (fun _ _ => False) :=
  z_weak (cm_isNoTable hl w x) (fun v w' h => ⟨h.1.imp (fun z => ⟨z.1, sp_no3 z.2⟩) (fun z => ⟨z.1, by obtain ⟨i, hi, e⟩ := z.2; exact ⟨i, hi, sp_thr_n hi, e⟩⟩), h.2⟩) (fun _ _ h => h)
theorem cm_isNoKey_r (hl : l.stackTraces = false) (w : z_W) (x : Int32) : z_Con G l mX11_isNoKey 12 0 0 w [.int x] (fun v w9 => ((v = some (.int 1) ∧ sp_bk x) ∨ (v = some (.int 0) ∧ ∃ i, i < 20 ∧ (¬ sp_bk (nI i)) ∧ x = nI i)) ∧ w9 = w) (fun _ _ => False) :=
  z_weak (cm_isNoKey hl w x) (fun v w' h => ⟨h.1.imp (fun z => ⟨z.1, q_nin z.2⟩) (fun z => ⟨z.1, by obtain ⟨i, hi, e⟩ := z.2; exact ⟨i, hi, q_key20 ⟨i, hi, rfl⟩, e⟩⟩), h.2⟩) (fun _ _ h => h)
theorem cm_isNoValue_r (hl : l.stackTraces = false) (w : z_W) (x : Int32) : z_Con G l mX11_isNoValue 12 0 0 w [.int x] (fun v w9 => ((v = some (.int 1) ∧ sp_bv x) ∨ (v = some (.int 0) ∧ ¬ sp_bv x)) ∧ w9 = w) (fun _ _ => False) :=
  z_weak (cm_isNoValue hl w x) (fun v w' h => ⟨h.1.imp (fun z => ⟨z.1, q_nin z.2⟩) (fun z => ⟨z.1, q_inn z.2⟩), h.2⟩) (fun _ _ h => h)
theorem cm_isIn_r (hl : l.stackTraces = false) (w : z_W) (x a b : Int32) : z_Con G l mX11_isIn 10 0 0 w [.int x, .int a, .int b] (fun v w9 => ((v = some (.int 1) ∧ ¬ (x < a ∨ b < x)) ∨ (v = some (.int 0) ∧ (x < a ∨ b < x))) ∧ w9 = w) (fun _ _ => False) :=
  z_weak (cm_isIn hl w x a b) (fun v w' h => ⟨h.1.imp (fun z => ⟨z.1, q_inn z.2⟩) (fun z => ⟨z.1, q_nin z.2⟩), h.2⟩) (fun _ _ h => h)
theorem cl_sizeW (hl : l.stackTraces = false) (w : z_W) {S : sp_S} {s : z_Z} (i : Nat) (B : List Int32) (h : z_mst w s) (R : sp_MR S s) (hi : i < 2) (hB : sp_R S i = B) : z_Con G l mJx4a65c_size_8abf5 10 0 0 w [.ref ((z_qr s).2 i)] (fun v w9 => v = some (.int (nI B.length)) ∧ w9 = w) (fun _ _ => False) :=
  z_weak (cl_sizeB hl w _ _ _ _ (h.rw hi).1) (fun v w' q => by obtain ⟨⟨n, rfl, rfl⟩, hw⟩ := q; exact ⟨by rw [R.wl hi, hB], hw⟩) (fun _ _ h => h)
theorem cl_sizeT (hl : l.stackTraces = false) (w : z_W) {S : sp_S} {s : z_Z} (t : Nat) (B : List (Nat × Int32)) (h : z_mst w s) (R : sp_MR S s) (ht : t < 3) (hB : sp_T S t = B) : z_Con G l mJx4a65c_size_8abf5 10 0 0 w [.ref (1011 + t)] (fun v w9 => v = some (.int (nI B.length)) ∧ w9 = w) (fun _ _ => False) :=
  z_weak (cl_sizeR hl w _ _ _ _ (h.tb ht)) (fun v w' q => by obtain ⟨⟨n, rfl, rfl⟩, hw⟩ := q; exact ⟨by rw [R.tl ht, hB], hw⟩) (fun _ _ h => h)
theorem sp_u_get {L : List Int32} {k : Nat} {x : Int32} (h : L[k]? = some x) : (z_bx (sp_u L))[k]? = some (.float x.toUInt32) := by
  unfold z_bx
  rw [List.getElem?_map, List.getElem?_map, h]
  rfl
theorem cl_getW (hl : l.stackTraces = false) (w : z_W) {S : sp_S} {s : z_Z} (i k : Nat) (B : List Int32) (x : Int32) (h : z_mst w s) (R : sp_MR S s) (hi : i < 2) (hB : sp_R S i = B) (hx : B[k]? = some x) : z_Con G l mJx4a65c_get_915e3 13 0 0 w [.ref ((z_qr s).2 i), .int (nI k)] (fun v w9 => v = some (.float x.toUInt32) ∧ w9 = w) (fun _ _ => False) :=
  cl_get hl w _ _ _ _ k _ (h.rw hi).1 (by rw [R.w hi, hB]; exact sp_u_get hx)
theorem c_intv (hl : l.stackTraces = false) (w : z_W) (x : Int32) : z_Con G l mJ6_intValue_8abf5 10 0 0 w [.float x.toUInt32] (fun v w9 => (v = some (.int x)) ∧ w9 = w) (fun _ _ => False) :=
  c_J6_intValue_8abf5 hl w x.toUInt32
theorem sp_MR.len10 {w : z_W} {S : sp_S} {s : z_Z} (R : sp_MR S s) (h : z_mst w s) {g : Nat} (hg : g < 2) : (sp_E S g).2.length ≤ 10 := by
  have h1 := (h.hl hg).2
  rw [R.l hg, List.length_map] at h1
  exact h1
theorem sp_MR.len12 {w : z_W} {S : sp_S} {s : z_Z} (R : sp_MR S s) (h : z_mst w s) {i : Nat} (hi : i < 2) : (sp_R S i).length ≤ 12 := by
  rw [← R.wl hi]; exact (h.rw hi).2
theorem sp_MR.len20 {w : z_W} {S : sp_S} {s : z_Z} (R : sp_MR S s) (h : z_mst w s) {t : Nat} (ht : t < 3) : (sp_T S t).length ≤ 20 := by
  rw [← R.tl ht]; exact (h.pr ht).len
theorem sp_in_n {h : sp_H} {x : Int32} (e : ¬ h.1.1 = -1000 ∧ h.1.1 = x) : sp_in h x = none := if_pos ⟨e.1, e.2.symm⟩
theorem sp_in_s {h : sp_H} {x : Int32} (e : ¬ (¬ h.1.1 = -1000 ∧ h.1.1 = x)) : sp_in h x = some ((h.1.1, h.1.2.1 + 1, h.1.2.2.1 + x, x), sp_rec h.2 x) := if_neg (fun z => e ⟨z.1, z.2.symm⟩)
theorem sp_uEE {S : sp_S} {g : Nat} {a b : sp_H} : sp_uE (sp_uE S g a) g b = sp_uE S g b := by
  refine congrArg (fun f => (S.1, S.2.1, S.2.2.1, S.2.2.2.1, S.2.2.2.2.1, f)) (funext fun j => ?_)
  show z_fu (z_fu (sp_E S) g a) g b j = z_fu (sp_E S) g b j
  by_cases e : j = g
  · rw [e, z_fu_self, z_fu_self]
  · rw [z_fu_ne e, z_fu_ne e, z_fu_ne e]
theorem sp_uCC {S : sp_S} {i : Nat} {a b : Nat → Int32} : sp_uC (sp_uC S i a) i b = sp_uC S i b := by
  refine congrArg (fun f => (S.1, S.2.1, S.2.2.1, f, S.2.2.2.2)) (funext fun j => ?_)
  show z_fu (z_fu (sp_C S) i a) i b j = z_fu (sp_C S) i b j
  by_cases e : j = i
  · rw [e, z_fu_self, z_fu_self]
  · rw [z_fu_ne e, z_fu_ne e, z_fu_ne e]
theorem sp_uRR {S : sp_S} {i : Nat} {a b : List Int32} : sp_uR (sp_uR S i a) i b = sp_uR S i b := by
  refine congrArg (fun f => (S.1, f, S.2.2)) (funext fun j => ?_)
  show z_fu (z_fu (sp_R S) i a) i b j = z_fu (sp_R S) i b j
  by_cases e : j = i
  · rw [e, z_fu_self, z_fu_self]
  · rw [z_fu_ne e, z_fu_ne e, z_fu_ne e]
theorem sp_uTT {S : sp_S} {i : Nat} {a b : List (Nat × Int32)} : sp_uT (sp_uT S i a) i b = sp_uT S i b := by
  refine congrArg (fun f => (S.1, S.2.1, S.2.2.1, S.2.2.2.1, f, S.2.2.2.2.2)) (funext fun j => ?_)
  show z_fu (z_fu (sp_T S) i a) i b j = z_fu (sp_T S) i b j
  by_cases e : j = i
  · rw [e, z_fu_self, z_fu_self]
  · rw [z_fu_ne e, z_fu_ne e, z_fu_ne e]
theorem sp_uR_id {S : sp_S} {i : Nat} : sp_uR S i (sp_R S i) = S := by
  refine congrArg (fun f => (S.1, f, S.2.2)) (funext fun j => ?_)
  show z_fu (sp_R S) i (sp_R S i) j = sp_R S j
  by_cases e : j = i
  · rw [e, z_fu_self]
  · rw [z_fu_ne e]
theorem sp_uE_id {S : sp_S} {g : Nat} : sp_uE S g (sp_E S g) = S := by
  refine congrArg (fun f => (S.1, S.2.1, S.2.2.1, S.2.2.2.1, S.2.2.2.2.1, f)) (funext fun j => ?_)
  show z_fu (sp_E S) g (sp_E S g) j = sp_E S j
  by_cases e : j = g
  · rw [e, z_fu_self]
  · rw [z_fu_ne e]
/-- a hearer hears; S as S0 with its hearer h -/
theorem cm_refuses_r (hl : l.stackTraces = false) (w : z_W) (S : sp_S) (hh : sp_H) (s : z_Z) (g : Nat) (x : Int32) (h : z_mst w s) (R : sp_MR (sp_uE S g hh) s) (hg : g < 2) : z_Con G l mX10_refuses 18 2 31 w [.ref (1009 + g), .int x] (fun v w9 => (v = some (.int 1) ∧ sp_in hh x = none ∧ w9 = w) ∨ (v = some (.int 0) ∧ ∃ h2 s9, sp_in hh x = some h2 ∧ z_fm 56 w w9 ∧ z_mst w9 s9 ∧ sp_MR (sp_uE S g h2) s9 ∧ s9.1 = s.1 ∧ z_qp s9 = z_qp s)) (fun _ _ => False) := by
  have eh : sp_E (sp_uE S g hh) g = hh := z_fu_self
  have e1 : (z_qh s g) = hh.1 := by rw [R.h hg, eh]
  have e2 : (z_ql s g).2 = sp_u hh.2 := by rw [R.l hg, eh]
  have e3 : hh.2.length ≤ 10 := by have := R.len10 h hg; rw [eh] at this; exact this
  refine z_weak (cm_refuses hl w s g x h hg) (fun v w' q => ?_) (fun _ _ h => h)
  rcases q with ⟨q1, q2, q3⟩ | ⟨q1, q2, s9, q3, q4, -, q5, q6, q7, q8⟩
  · rw [e1] at q2
    exact Or.inl ⟨q1, sp_in_n q2, q3⟩
  · rw [e1] at q2 q6
    rw [e2, sp_rec_u e3] at q7
    refine Or.inr ⟨q1, _, s9, sp_in_s q2, q3, q4, ?_, q5.1, q5.2.2.2.2.2.1⟩
    have := R.ue (h2 := ((hh.1.1, hh.1.2.1 + 1, hh.1.2.2.1 + x, x), sp_rec hh.2 x)) q5 q6 q7 q8
    rw [sp_uEE] at this
    exact this
theorem cm_forget_r (hl : l.stackTraces = false) (w : z_W) (S : sp_S) (s : z_Z) (g : Nat) (h : z_mst w s) (R : sp_MR S s) (hg : g < 2) : z_Con G l mX10_forget 13 0 0 w [.ref (1009 + g)] (fun v w9 => v = none ∧ ∃ s9, z_fm 56 w w9 ∧ z_mst w9 s9 ∧ sp_MR (sp_uE S g (sp_fgt (sp_E S g))) s9 ∧ s9.1 = s.1) (fun _ _ => False) := by
  refine z_weak (cm_forgetH hl w s g h hg) (fun v w' q => ?_) (fun _ _ h => h)
  obtain ⟨q1, s9, q3, q4, -, q5, q6, q7, q8⟩ := q
  rw [R.h hg] at q6
  exact ⟨q1, s9, q3, q4, R.ue (h2 := sp_fgt (sp_E S g)) q5 q6 q7 q8, q5.1⟩
/-- a pair of a table -/
theorem sp_MR.pr {w : z_W} {S : sp_S} {s : z_Z} (R : sp_MR S s) (h : z_mst w s) {t k : Nat} (ht : t < 3) {e : Nat × Int32} (he : (sp_T S t)[k]? = some e) : ∃ p, p ∈ (z_qp s t).2 ∧ (z_rs (z_qp s t).2)[k]? = some (.ref p) ∧ (z_qp s t).2[k]? = some p ∧ z_qk s p 0 = nI e.1 ∧ z_qk s p 1 = e.2 ∧ e.1 < 20 := by
  rw [← R.t ht] at he
  have he : (List.map _ (z_qp s t).2)[k]? = some e := he
  rw [List.getElem?_map] at he
  cases hp : (z_qp s t).2[k]? with
  | none => rw [hp] at he; cases he
  | some p =>
    rw [hp] at he
    have he := Option.some.inj he
    have hm := List.mem_of_getElem? hp
    have h1 := sp_kn (h.pr ht) hm
    refine ⟨p, hm, ?_, rfl, ?_, ?_, ?_⟩
    · unfold z_rs; rw [List.getElem?_map, hp]; rfl
    · rw [← he]; exact h1.2
    · rw [← he]
    · rw [← he]; exact h1.1
/-- where a key lies -/
theorem cm_place_r (hl : l.stackTraces = false) (w : z_W) (S : sp_S) (s : z_Z) (t k : Nat) (T : List (Nat × Int32)) (h : z_mst w s) (R : sp_MR S s) (ht : t < 3) (hk : k < 20) (hT : sp_T S t = T) : z_Con G l mX11_place 14 0 0 w [.ref 1000, .int (nI t), .int (nI k)] (fun v w9 => ((∃ j e, v = some (.int (nI j)) ∧ T[j]? = some e ∧ e.1 = k ∧ sp_lk T k = e.2 ∧ k ∈ sp_ks T ∧ j < T.length ∧ T.length ≤ 20) ∨ (v = some (.int (-1)) ∧ k ∉ sp_ks T ∧ sp_lk T k = -1000)) ∧ w9 = w) (fun _ _ => False) := by
  subst hT
  refine z_weak (cm_place hl w s t (nI k) h ht) (fun v w' q => ⟨?_, q.2⟩) (fun _ _ h => h)
  rcases q.1 with ⟨j, p, q1, q2, q3⟩ | ⟨q1, q2⟩
  · have hm := List.mem_of_getElem? q2
    have e1 : (sp_T S t)[j]? = some (k, z_qk s p 1) := by
      rw [← R.t ht]
      show (List.map _ (z_qp s t).2)[j]? = _
      rw [List.getElem?_map, q2]
      show some ((z_qk s p 0).toNatClampNeg, z_qk s p 1) = _
      rw [q3, z_cla (by omega)]
    have e2 := sp_lk_tp (h.pr ht) hm q3 hk
    rw [R.t ht] at e2
    refine Or.inl ⟨j, _, q1, e1, rfl, e2, List.mem_map.mpr ⟨_, List.mem_of_getElem? e1, rfl⟩, (List.getElem?_eq_some_iff.mp e1).1, R.len20 h ht⟩
  · have e1 := sp_lk_tpn hk (fun p hp => ((h.pr ht).1 p hp).1.2.2) q2
    rw [R.t ht] at e1
    exact Or.inr ⟨q1, e1, sp_lk_no e1⟩
theorem sp_MR.l12 {w : z_W} {S : sp_S} {s : z_Z} (R : sp_MR S s) (h : z_mst w s) {i : Nat} {B : List Int32} (hi : i < 2) (hB : sp_R S i = B) : B.length ≤ 12 := hB ▸ R.len12 h hi
theorem sp_MR.l20 {w : z_W} {S : sp_S} {s : z_Z} (R : sp_MR S s) (h : z_mst w s) {t : Nat} {B : List (Nat × Int32)} (ht : t < 3) (hB : sp_T S t = B) : B.length ≤ 20 := hB ▸ R.len20 h ht
theorem sp_MR.wlB {S : sp_S} {s : z_Z} (R : sp_MR S s) {i : Nat} {B : List Int32} (hi : i < 2) (hB : sp_R S i = B) : (z_qw s i).2.length = B.length := by rw [R.wl hi, hB]
theorem sp_MR.tlB {S : sp_S} {s : z_Z} (R : sp_MR S s) {t : Nat} {B : List (Nat × Int32)} (ht : t < 3) (hB : sp_T S t = B) : (z_qp s t).2.length = B.length := by rw [R.tl ht, hB]
theorem sp_MR.wadd {S : sp_S} {s : z_Z} (R : sp_MR S s) {i : Nat} {B : List Int32} {x : Int32} (hi : i < 2) (hB : sp_R S i = B) : (z_qw s i).2 ++ [x.toUInt32] = sp_u (B ++ [x]) := by
  rw [R.w hi, hB]; show _ = List.map _ (B ++ [x]); rw [List.map_append]; rfl
theorem sp_MR.wrem {S : sp_S} {s : z_Z} (R : sp_MR S s) {i k : Nat} {B : List Int32} (hi : i < 2) (hB : sp_R S i = B) : (z_qw s i).2.eraseIdx k = sp_u (B.eraseIdx k) := by
  rw [R.w hi, hB]; exact z_erm _ _ _
theorem sp_MR.wset {S : sp_S} {s : z_Z} (R : sp_MR S s) {i k : Nat} {B : List Int32} {x : Int32} (hi : i < 2) (hB : sp_R S i = B) : (z_qw s i).2.set k x.toUInt32 = sp_u (B.set k x) := by
  rw [R.w hi, hB]; show (List.map _ B).set _ _ = List.map _ (B.set k x); rw [List.map_set]
theorem sp_drop {α : Type} : ∀ {L : List α} {j : Nat} {x : α}, L[j]? = some x → L.drop j = x :: L.drop (j + 1)
  | [], _, _, h => by cases h
  | y :: L, 0, x, h => by cases h; rfl
  | y :: L, j + 1, x, h => sp_drop (L := L) (j := j) h
theorem sp_mid? {α : Type} : ∀ {A L : List α} {x : α}, (A ++ x :: L)[A.length]? = some x
  | [], _, _ => rfl
  | _ :: A, L, x => sp_mid? (A := A)
theorem sp_mide {α : Type} : ∀ {A L : List α} {x : α}, (A ++ x :: L).eraseIdx A.length = A ++ L
  | [], _, _ => rfl
  | a :: A, L, x => congrArg (a :: ·) (sp_mide (A := A))
theorem sp_mids {α : Type} : ∀ {A L : List α} {x y : α}, (A ++ x :: L).set A.length y = A ++ y :: L
  | [], _, _, _ => rfl
  | a :: A, L, x, y => congrArg (a :: ·) (sp_mids (A := A))
theorem sp_take_er {α : Type} : ∀ {L : List α} {m : Nat}, m + 1 ≤ L.length → (L.take (m + 1)).eraseIdx m = L.take m
  | [], m, h => absurd h (Nat.not_succ_le_zero _)
  | x :: L, 0, _ => rfl
  | x :: L, m + 1, h => congrArg (x :: ·) (sp_take_er (L := L) (m := m) (Nat.le_of_succ_le_succ h))
theorem cm_one_r (hl : l.stackTraces = false) (w : z_W) (b : Bool) : z_Con G l mX11_one 10 0 0 w [.int (z_bi b)] (fun v w9 => v = some (.int (z_bi b)) ∧ w9 = w) (fun _ _ => False) := by
  cases b with
  | true => exact cm_one1 hl w
  | false => exact cm_one0 hl w
theorem q_tt_s {t x n : Int32} : q_tt t x n = none ∨ q_tt t x n = some 1 ∨ q_tt t x n = some 0 := by
  cases e : q_tt t x n with
  | none => exact Or.inl rfl
  | some y =>
    rcases q_tts e with rfl | rfl
    · exact Or.inr (Or.inr rfl)
    · exact Or.inr (Or.inl rfl)
theorem cm_test_r (hl : l.stackTraces = false) (w : z_W) (t x n : Int32) : z_Con G l mX11_test 12 0 0 w [.int t, .int x, .int n] (fun v w9 => ((v = some (.int 100000) ∧ q_tt t x n = none) ∨ (v = some (.int 1) ∧ q_tt t x n = some 1) ∨ (v = some (.int 0) ∧ q_tt t x n = some 0)) ∧ w9 = w) (fun _ _ => False) := by
  refine z_weak (cm_test_e hl w t x n) (fun v w' q => ⟨?_, q.2⟩) (fun _ _ h => h)
  rcases q_tt_s (t := t) (x := x) (n := n) with e | e | e
  · exact Or.inl ⟨by rw [q.1, e]; rfl, e⟩
  · exact Or.inr (Or.inl ⟨by rw [q.1, e]; rfl, e⟩)
  · exact Or.inr (Or.inr ⟨by rw [q.1, e]; rfl, e⟩)
theorem q_rt99 {r p v t x : Int32} (hq : v ≤ 999) (ht : t ≤ 999) (h : q_rt r p v t = some x) : x ≤ 999 := by
  unfold q_rt at h
  split at h
  · cases h; exact (q_bdr _).2
  split at h
  · cases h
    unfold q_mx
    split
    · exact ht
    · exact hq
  split at h
  · cases h
    cases q_ev (q_bd (v + t)) with
    | true => exact (q_bdr _).2
    | false => show (-1000 : Int32) ≤ 999; decide
  split at h
  · cases h; decide
  split at h
  · revert h
    cases q_ev (q_bd (v + t)) with
    | true => intro h; cases h; exact (q_bdr _).2
    | false => intro h; cases h
  · cases h; exact (q_bdr _).2
theorem cm_rule_r (hl : l.stackTraces = false) (w : z_W) (r p v0 t : Int32) (hq : v0 ≤ 999) (ht : t ≤ 999) : z_Con G l mX11_rule 12 0 0 w [.int r, .int p, .int v0, .int t] (fun v w9 => ((v = some (.int 100000) ∧ q_rt r p v0 t = none) ∨ (∃ y, v = some (.int y) ∧ q_rt r p v0 t = some y ∧ ¬ y = 100000)) ∧ w9 = w) (fun _ _ => False) := by
  refine z_weak (cm_rule_e hl w r p v0 t) (fun v w' q => ⟨?_, q.2⟩) (fun _ _ h => h)
  cases e : q_rt r p v0 t with
  | none => exact Or.inl ⟨by rw [q.1, e]; rfl, rfl⟩
  | some y => exact Or.inr ⟨y, by rw [q.1, e]; rfl, rfl, fun z => by have h9 := q_rt99 hq ht e; rw [z] at h9; exact absurd h9 (by decide)⟩
/-- bumps beside other changes -/
theorem sp_MR.bpH {S : sp_S} {s : z_Z} {i g k : Nat} {c : Nat → Int32} {hh : sp_H} (R : sp_MR (sp_uE (sp_uC S i c) g hh) s) (hi : i < 3) (hk : k < 7) : sp_MR (sp_uE (sp_uC S i (z_bp c k)) g hh) (z_tc s (z_fu (z_qc s) i (z_ui (z_qc s i) k (z_qc s i k + 1)))) := by
  have h1 := R.bp hi hk
  have e : sp_C (sp_uE (sp_uC S i c) g hh) i = c := z_fu_self
  rw [e] at h1
  have e2 : sp_uC (sp_uE (sp_uC S i c) g hh) i (z_bp c k) = sp_uE (sp_uC S i (z_bp c k)) g hh := congrArg (fun z => sp_uE z g hh) (sp_uCC (S := S) (i := i) (a := c) (b := z_bp c k))
  rw [e2] at h1
  exact h1
theorem sp_MR.bpR {S : sp_S} {s : z_Z} {i k : Nat} {c : Nat → Int32} {B : List Int32} (R : sp_MR (sp_uR (sp_uC S i c) i B) s) (hi : i < 3) (hk : k < 7) : sp_MR (sp_uR (sp_uC S i (z_bp c k)) i B) (z_tc s (z_fu (z_qc s) i (z_ui (z_qc s i) k (z_qc s i k + 1)))) := by
  have h1 := R.bp hi hk
  have e : sp_C (sp_uR (sp_uC S i c) i B) i = c := z_fu_self
  rw [e] at h1
  have e2 : sp_uC (sp_uR (sp_uC S i c) i B) i (z_bp c k) = sp_uR (sp_uC S i (z_bp c k)) i B := congrArg (fun z => sp_uR z i B) (sp_uCC (S := S) (i := i) (a := c) (b := z_bp c k))
  rw [e2] at h1
  exact h1
theorem sp_MR.bpa2 {S : sp_S} {s : z_Z} {i a : Nat} {c : Nat → Int32} (R : sp_MR (sp_uC S i c) s) (hi : i < 3) : sp_MR (sp_uC S i (sp_bps c 2 a)) (z_tc s (z_fu (z_qc s) i (z_ui (z_qc s i) 2 (z_qc s i 2 + nI a)))) := by
  have h1 := R.bpa (k := 2) (a := a) hi (by decide)
  have e : sp_C (sp_uC S i c) i = c := z_fu_self
  rw [e, sp_uCC] at h1
  exact h1
theorem sp_MR.prB {w : z_W} {S : sp_S} {s : z_Z} (R : sp_MR S s) (h : z_mst w s) {t k : Nat} {B : List (Nat × Int32)} (ht : t < 3) (hB : sp_T S t = B) {e : Nat × Int32} (he : B[k]? = some e) : ∃ p, p ∈ (z_qp s t).2 ∧ (z_rs (z_qp s t).2)[k]? = some (.ref p) ∧ (z_qp s t).2[k]? = some p ∧ z_qk s p 0 = nI e.1 ∧ z_qk s p 1 = e.2 ∧ e.1 < 20 := by
  subst hB
  exact R.pr h ht he
theorem sp_mny0 {a t b : Int32} (ha : z_vl a) (htv : z_vl t) (hb : 1 ≤ b ∧ b ≤ 99) : 0 ≤ z_mny a t b := by
  have h1 := Int32.le_iff_toInt_le.mp ha.1
  have h2 := Int32.le_iff_toInt_le.mp ha.2
  have h3 := Int32.le_iff_toInt_le.mp hb.1
  have h4 := Int32.le_iff_toInt_le.mp hb.2
  have h5 := Int32.le_iff_toInt_le.mp htv.1
  have h6 := Int32.le_iff_toInt_le.mp htv.2
  rw [show (-999 : Int32).toInt = -999 from rfl] at h1 h5
  rw [show (999 : Int32).toInt = 999 from rfl] at h2 h6
  rw [show (1 : Int32).toInt = 1 from rfl] at h3
  rw [show (99 : Int32).toInt = 99 from rfl] at h4
  rw [Int32.le_iff_toInt_le]
  unfold z_mny
  by_cases c : a ≤ t
  · have hc := Int32.le_iff_toInt_le.mp c
    rw [if_pos c]
    have hs : (t - a).toInt = t.toInt - a.toInt := by
      rw [Int32.toInt_sub]
      exact Int.bmod_eq_of_le (by omega) (by omega)
    have e1 := Int.ediv_nonneg (a := t.toInt - a.toInt) (b := b.toInt) (by omega) (by omega)
    have e2 := Int.ediv_le_self (a := t.toInt - a.toInt) b.toInt (by omega)
    have hd : ((t - a) / b).toInt = (t.toInt - a.toInt) / b.toInt := by
      rw [Int32.toInt_div, hs, Int.tdiv_eq_ediv_of_nonneg (by omega)]
      exact Int.bmod_eq_of_le (by omega) (by omega)
    have hp : ((t - a) / b + 1).toInt = (t.toInt - a.toInt) / b.toInt + 1 := by
      rw [Int32.toInt_add, hd, show (1 : Int32).toInt = 1 from rfl]
      exact Int.bmod_eq_of_le (by omega) (by omega)
    rw [hp, show (0 : Int32).toInt = 0 from rfl]
    omega
  · rw [if_neg c]
    exact Int.le_refl _
theorem cx_many (hl : l.stackTraces = false) (w : z_W) (a b c : Int32) (hc : 1 ≤ c ∧ c ≤ 99) (h0 : 0 ≤ z_mny a b c) : z_Con G l mX11_many 10 0 0 w [.int a, .int b, .int c] (fun v w9 => v = some (.int (nI (sp_mn a b c))) ∧ w9 = w) (fun _ _ => False) :=
  z_weak (cm_many hl w a b c (z_ne0 hc.1)) (fun v w' q => ⟨by rw [q.1, ← sp_mn_e h0], q.2⟩) (fun _ _ h => h)
theorem sp_bsp_a {a b c : Int32} (h : sp_bv a) : sp_bsp a b c := Or.inl h
theorem sp_bsp_b {a b c : Int32} (h : sp_bv b) : sp_bsp a b c := Or.inr (Or.inl h)
theorem sp_bsp_c {a b c : Int32} (h : c < 1 ∨ 99 < c) : sp_bsp a b c := Or.inr (Or.inr (Or.inl h))
theorem sp_bsp_d {a b c : Int32} (h : ¬ z_mny a b c ≤ 40) : sp_bsp a b c := Or.inr (Or.inr (Or.inr (Or.inr (Int32.not_le.mp h))))
theorem sp_bsp_n {a b c : Int32} (h1 : ¬ sp_bv a) (h2 : ¬ sp_bv b) (h3 : ¬ (c < 1 ∨ 99 < c)) (h4 : z_mny a b c ≤ 40) : ¬ sp_bsp a b c := fun z => z.elim h1 (fun z => z.elim h2 (fun z => z.elim h3 (fun z => z.elim (Int32.not_lt.mpr (sp_mny0 (q_nor h1) (q_nor h2) (q_nor h3))) (Int32.not_lt.mpr h4))))
theorem sp_MR.ustp {S : sp_S} {s : z_Z} {g : Nat} {x : Int32} (R : sp_MR S s) (hg : g < 2) : sp_MR (sp_uE S g (sp_stp' (sp_E S g) x)) (z_th s (z_fu (z_qh s) g (x, (z_qh s g).2.1, (z_qh s g).2.2.1, (z_qh s g).2.2.2))) := by
  have h1 := R.uh (g := g) (x := (x, (z_qh s g).2.1, (z_qh s g).2.2.1, (z_qh s g).2.2.2))
  have e : (((x, (z_qh s g).2.1, (z_qh s g).2.2.1, (z_qh s g).2.2.2), (sp_E S g).2) : sp_H) = sp_stp' (sp_E S g) x := by rw [R.h hg]; rfl
  rw [e] at h1
  exact h1
theorem cx_knock (hl : l.stackTraces = false) (w : z_W) (S : sp_S) (s : z_Z) (h : z_mst w s) (R : sp_MR S s) : z_Con G l mX11_knock 10 0 0 w [.ref 1000] (fun v w9 => ∃ (r9 : Int32) (s9 : z_Z), v = some (.int r9) ∧ z_fm 59 w w9 ∧ z_mst w9 s9 ∧ s9.1.1 = 0 ∧ sp_MR (sp_kno S) s9 ∧ r9 = S.1.2 + 1) (fun _ _ => False) :=
  z_weak (cm_knock hl w s h) (fun v w' q => ⟨_, _, q.1, q.2.1.le (by decide), q.2.2, rfl, R.kno, by rw [← R.1]⟩) (fun _ _ h => h)
/-- a table's changes, with the first one's counts -/
def sp_lyS (S : sp_S) (t k : Nat) (v : Int32) : sp_S := sp_tc (sp_uT S t (sp_pt (sp_srt t) (sp_T S t) k v)) t (z_bp (sp_C S 2) 5)
def sp_gnS (S : sp_S) (t k : Nat) : sp_S := sp_tc (sp_uT S t (sp_go (sp_T S t) k)) t (z_bp (sp_C S 2) 6)
theorem sp_tc0 {S : sp_S} {t : Nat} {c : Nat → Int32} (h : t = 0) : sp_tc S t c = sp_uC S 2 c := by subst h; rfl
theorem sp_tcn {S : sp_S} {t : Nat} {c : Nat → Int32} (h : ¬ t = 0) : sp_tc S t c = S := by unfold sp_tc; rw [z_beq h]; rfl
theorem sp_tcT {S : sp_S} {t : Nat} {c : Nat → Int32} : sp_T (sp_tc S t c) = sp_T S := by unfold sp_tc; cases Nat.beq t 0 <;> rfl
theorem sp_tcu {S : sp_S} {t : Nat} {c : Nat → Int32} {T : List (Nat × Int32)} : sp_uT (sp_tc S t c) t T = sp_tc (sp_uT S t T) t c := by unfold sp_tc; cases Nat.beq t 0 <;> rfl
theorem sp_tb_id {S : sp_S} {t : Nat} {y : Int32} : sp_tb S t (some y, sp_T S t, sp_C S 2) = S := by
  show ((sp_tc (sp_uT S t (sp_T S t)) t (sp_C S 2)).1, (sp_tc (sp_uT S t (sp_T S t)) t (sp_C S 2)).2) = S
  rw [sp_uT_id, sp_tc_id]
theorem sp_tb_n {S : sp_S} {t : Nat} : sp_tb S t (none, sp_T S t, sp_C S 2) = sp_nine S := by
  show (((sp_tc (sp_uT S t (sp_T S t)) t (sp_C S 2)).1.1 + 1, (sp_tc (sp_uT S t (sp_T S t)) t (sp_C S 2)).1.2), (sp_tc (sp_uT S t (sp_T S t)) t (sp_C S 2)).2) = _
  rw [sp_uT_id, sp_tc_id]
theorem sp_lk99 {T : List (Nat × Int32)} {k : Nat} (h : sp_okT T) : sp_lk T k ≤ 999 := by
  rcases sp_lk_r (k := k) h with z | z
  · rw [z]; decide
  · exact z.2
theorem sp_key? {T : List (Nat × Int32)} {n : Nat} {e : Nat × Int32} (h : T[n]? = some e) : ((T[n]?).map Prod.fst).getD 0 = e.1 := by rw [h]; rfl
theorem sp_at_y {T : List (Nat × Int32)} {k n : Nat} {e : Nat × Int32} (h : T[n]? = some e) (c : k < e.1) : sp_at T k (n + 1) = sp_at T k n := by
  show (if k < ((T[n]?).map Prod.fst).getD 0 then sp_at T k n else n + 1) = _
  rw [sp_key? h, if_pos c]
theorem sp_at_n {T : List (Nat × Int32)} {k n : Nat} {e : Nat × Int32} (h : T[n]? = some e) (c : ¬ k < e.1) : sp_at T k (n + 1) = n + 1 := by
  show (if k < ((T[n]?).map Prod.fst).getD 0 then sp_at T k n else n + 1) = _
  rw [sp_key? h, if_neg c]
theorem sp_vl5 {y : Int32} (h : ¬ sp_bv y) : ¬ y = 100000 := by
  rintro rfl
  exact absurd (q_nor h).2 (by decide)
theorem sp_MR.bpT {S : sp_S} {s : z_Z} {t g k : Nat} {c : Nat → Int32} {hh : sp_H} (ht : t = 0) (R : sp_MR (sp_uE (sp_tc S t c) g hh) s) (hk : k < 7) : sp_MR (sp_uE (sp_tc S t (z_bp c k)) g hh) (z_tc s (z_fu (z_qc s) 2 (z_ui (z_qc s 2) k (z_qc s 2 k + 1)))) := by
  rw [sp_tc0 ht] at R ⊢
  exact R.bpH (by decide) hk
theorem sp_MR.bpX {S : sp_S} {s : z_Z} {t g : Nat} {c c2 : Nat → Int32} {hh : sp_H} (ht : ¬ t = 0) (R : sp_MR (sp_uE (sp_tc S t c) g hh) s) : sp_MR (sp_uE (sp_tc S t c2) g hh) s := by
  rw [sp_tcn ht] at R ⊢
  exact R
theorem sp_MR.bpTu {S : sp_S} {s : z_Z} {t k : Nat} {c : Nat → Int32} {B : List (Nat × Int32)} (ht : t = 0) (R : sp_MR (sp_tc (sp_uT S t B) t c) s) (hk : k < 7) : sp_MR (sp_tc (sp_uT S t B) t (z_bp c k)) (z_tc s (z_fu (z_qc s) 2 (z_ui (z_qc s 2) k (z_qc s 2 k + 1)))) := by
  rw [sp_tc0 ht] at R ⊢
  have h1 := R.bp (i := 2) (by decide) hk
  have e : sp_C (sp_uC (sp_uT S t B) 2 c) 2 = c := rfl
  rw [e, sp_uCC] at h1
  exact h1
theorem sp_MR.bpXu {S : sp_S} {s : z_Z} {t : Nat} {c c2 : Nat → Int32} {B : List (Nat × Int32)} (ht : ¬ t = 0) (R : sp_MR (sp_tc (sp_uT S t B) t c) s) : sp_MR (sp_tc (sp_uT S t B) t c2) s := by
  rw [sp_tcn ht] at R ⊢
  exact R
theorem sp_st_mid {A L : List (Nat × Int32)} {p : Nat × Int32} {y : Int32} (h : (sp_ks (A ++ p :: L)).Nodup) : sp_st (A ++ p :: L) p.1 y = A ++ (p.1, y) :: L := by
  unfold sp_ks at h
  rw [List.map_append, List.map_cons, List.nodup_append] at h
  obtain ⟨-, h2, h3⟩ := h
  rw [List.nodup_cons] at h2
  unfold sp_st
  rw [List.map_append, List.map_cons, if_pos rfl]
  have e1 : A.map (fun q => if q.1 = p.1 then (q.1, y) else q) = A := (List.map_congr_left (fun q hq => if_neg (fun z => h3 q.1 (List.mem_map.mpr ⟨q, hq, rfl⟩) p.1 List.mem_cons_self z))).trans (List.map_id _)
  have e2 : L.map (fun q => if q.1 = p.1 then (q.1, y) else q) = L := (List.map_congr_left (fun q hq => if_neg (fun z => h2.1 (by rw [← z]; exact List.mem_map.mpr ⟨q, hq, rfl⟩)))).trans (List.map_id _)
  rw [e1, e2]
theorem sp_MR.kd {w : z_W} {S : sp_S} {s : z_Z} (R : sp_MR S s) (h : z_mst w s) {t : Nat} {B : List (Nat × Int32)} (ht : t < 3) (hB : sp_T S t = B) : (sp_ks B).Nodup := by
  rw [← hB, ← R.t ht]
  exact sp_kd (h.pr ht)
/-- the counts matter where they are -/
theorem sp_MR.cong {S : sp_S} {s : z_Z} {C : Nat → Nat → Int32} (R : sp_MR S s) (h : ∀ i, i < 3 → ∀ j, j < 7 → sp_C S i j = C i j) : sp_MR (S.1, S.2.1, S.2.2.1, C, S.2.2.2.2) s :=
  ⟨R.1, R.2.1, R.2.2.1, fun i hi j hj => (R.c hi hj).trans (h i hi j hj), R.2.2.2.2⟩
theorem sp_apl {α : Type} {A L : List α} : A.length ≤ (A ++ L).length := by rw [List.length_append]; exact Nat.le_add_right _ _
theorem sp_apn {α : Type} {A : List α} {x : α} : A.length + 1 = (A ++ [x]).length := by rw [List.length_append]; rfl
theorem sp_MR.uwm {w : z_W} {S : sp_S} {s : z_Z} {i : Nat} {c : Int32} {B : List UInt32} {L : List Int32} (R : sp_MR S s) (_ : z_mst w (z_tw s (z_fu (z_qw s) i (c, B)))) (hB : B = sp_u L) : sp_MR (sp_uR S i L) (z_tw s (z_fu (z_qw s) i (c, B))) := R.uw hB
theorem sp_MR.cpm {w : z_W} {S : sp_S} {s : z_Z} {i : Nat} {c : Int32} {f : Int32 × (Nat → Nat)} {B : List UInt32} {L : List Int32} (R : sp_MR S s) (_ : z_mst w (z_tw (z_tr s f) (z_fu (z_qw s) i (c, B)))) (hB : B = sp_u L) : sp_MR (sp_uR S i L) (z_tw (z_tr s f) (z_fu (z_qw s) i (c, B))) := (R.tr (x := f)).uw hB
end ZMr1
