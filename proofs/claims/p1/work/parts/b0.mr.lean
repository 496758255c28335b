section ZM0
section ZMr0
abbrev sp_u (L : List Int32) : List UInt32 := L.map Int32.toUInt32
abbrev sp_tpK (K : Nat → Nat → Int32) (P : List Nat) : List (Nat × Int32) := P.map fun p => ((K p 0).toNatClampNeg, K p 1)
def sp_MR (S : sp_S) (s : z_Z) : Prop := s.1.2 = S.1 ∧ (∀ i, i < 2 → (z_qw s i).2 = sp_u (sp_R S i)) ∧ (∀ i, i < 2 → z_qf s i = z_bi (sp_F S i)) ∧ (∀ i, i < 3 → ∀ j, j < 7 → z_qc s i j = sp_C S i j) ∧ (∀ t, t < 3 → sp_tpK (z_qk s) (z_qp s t).2 = sp_T S t) ∧ ∀ g, g < 2 → z_qh s g = (sp_E S g).1 ∧ (z_ql s g).2 = sp_u (sp_E S g).2
theorem sp_inj_on {α β : Type} {f : α → β} : ∀ {L : List α}, (L.map f).Nodup → ∀ {a b : α}, a ∈ L → b ∈ L → f a = f b → a = b
  | [], _, _, _, ha, _, _ => by cases ha
  | x :: L, h, a, b, ha, hb, e => by
    rw [List.map_cons, List.nodup_cons] at h
    rcases List.mem_cons.mp ha with za | za
    · rcases List.mem_cons.mp hb with zb | zb
      · rw [za, zb]
      · exact absurd (List.mem_map.mpr ⟨b, zb, by rw [← e, za]⟩) h.1
    · rcases List.mem_cons.mp hb with zb | zb
      · exact absurd (List.mem_map.mpr ⟨a, za, by rw [e, zb]⟩) h.1
      · exact sp_inj_on h.2 za zb e
theorem sp_erm {α β : Type} (f : α → β) : ∀ (L : List α) (j : Nat), (L.eraseIdx j).map f = (L.map f).eraseIdx j
  | [], _ => rfl
  | _ :: _, 0 => rfl
  | x :: L, j + 1 => congrArg (f x :: ·) (sp_erm f L j)
variable {S : sp_S} {s : z_Z}
theorem sp_MR.rf (h : sp_MR S s) : s.1.2 = S.1 := h.1
theorem sp_MR.w (h : sp_MR S s) {i : Nat} (hi : i < 2) : (z_qw s i).2 = sp_u (sp_R S i) := h.2.1 i hi
theorem sp_MR.f (h : sp_MR S s) {i : Nat} (hi : i < 2) : z_qf s i = z_bi (sp_F S i) := h.2.2.1 i hi
theorem sp_MR.c (h : sp_MR S s) {i j : Nat} (hi : i < 3) (hj : j < 7) : z_qc s i j = sp_C S i j := h.2.2.2.1 i hi j hj
theorem sp_MR.t (h : sp_MR S s) {t : Nat} (ht : t < 3) : sp_tpK (z_qk s) (z_qp s t).2 = sp_T S t := h.2.2.2.2.1 t ht
theorem sp_MR.h (h : sp_MR S s) {g : Nat} (hg : g < 2) : z_qh s g = (sp_E S g).1 := (h.2.2.2.2.2 g hg).1
theorem sp_MR.l (h : sp_MR S s) {g : Nat} (hg : g < 2) : (z_ql s g).2 = sp_u (sp_E S g).2 := (h.2.2.2.2.2 g hg).2
theorem sp_MR.wl (h : sp_MR S s) {i : Nat} (hi : i < 2) : (z_qw s i).2.length = (sp_R S i).length := by rw [h.w hi, List.length_map]
theorem sp_MR.tl (h : sp_MR S s) {t : Nat} (ht : t < 3) : (z_qp s t).2.length = (sp_T S t).length := by rw [← h.t ht, List.length_map]
theorem sp_MR.th (h : sp_MR S s) {k : Int32} : sp_MR S (z_tm s (k, s.1.2.1, s.1.2.2)) := h
theorem sp_MR.nine (h : sp_MR S s) {k : Int32} : sp_MR (sp_nine S) (z_tm s (k, s.1.2.1 + 1, s.1.2.2)) := ⟨by show (s.1.2.1 + 1, s.1.2.2) = (S.1.1 + 1, S.1.2); rw [h.1], h.2⟩
theorem sp_MR.ni (h : sp_MR S s) : sp_MR (sp_nine S) (z_tm s (s.1.1, s.1.2.1 + 1, s.1.2.2)) := h.nine
theorem sp_MR.kno (h : sp_MR S s) {k : Int32} : sp_MR (sp_kno S) (z_tm s (k, s.1.2.1, s.1.2.2 + 1)) := ⟨by show (s.1.2.1, s.1.2.2 + 1) = (S.1.1, S.1.2 + 1); rw [h.1], h.2⟩
theorem sp_MR.tr (h : sp_MR S s) {x : Int32 × (Nat → Nat)} : sp_MR S (z_tr s x) := h
theorem sp_MR.uw {i : Nat} {c : Int32} {B : List UInt32} {L : List Int32} (h : sp_MR S s) (hB : B = sp_u L) : sp_MR (sp_uR S i L) (z_tw s (z_fu (z_qw s) i (c, B))) := by
  refine ⟨h.1, fun j hj => ?_, h.2.2⟩
  show (z_fu (z_qw s) i (c, B) j).2 = sp_u (z_fu (sp_R S) i L j)
  by_cases e : j = i
  · rw [e, z_fu_self, z_fu_self, hB]
  · rw [z_fu_ne e, z_fu_ne e]; exact h.w hj
theorem sp_MR.uf {i : Nat} {x : Int32} {b : Bool} (h : sp_MR S s) (hx : x = z_bi b) : sp_MR (sp_uF S i b) (z_tf s (z_ui (z_qf s) i x)) := by
  refine ⟨h.1, h.2.1, fun j hj => ?_, h.2.2.2⟩
  show z_ui (z_qf s) i x j = z_bi (z_fu (sp_F S) i b j)
  by_cases e : j = i
  · rw [e, z_ui_self, z_fu_self, hx]
  · rw [z_ui_ne e, z_fu_ne e]; exact h.f hj
theorem sp_MR.uc {i : Nat} {F c : Nat → Int32} (h : sp_MR S s) (hF : ∀ j, j < 7 → F j = c j) : sp_MR (sp_uC S i c) (z_tc s (z_fu (z_qc s) i F)) := by
  refine ⟨h.1, h.2.1, h.2.2.1, fun i2 hi j hj => ?_, h.2.2.2.2⟩
  show z_fu (z_qc s) i F i2 j = z_fu (sp_C S) i c i2 j
  by_cases e : i2 = i
  · rw [e, z_fu_self, z_fu_self]; exact hF j hj
  · rw [z_fu_ne e, z_fu_ne e]; exact h.c hi hj
theorem sp_MR.bp {i k : Nat} (h : sp_MR S s) (hi : i < 3) (hk : k < 7) : sp_MR (sp_uC S i (z_bp (sp_C S i) k)) (z_tc s (z_fu (z_qc s) i (z_ui (z_qc s i) k (z_qc s i k + 1)))) := by
  refine h.uc (fun j hj => ?_)
  by_cases e : j = k
  · rw [e, z_ui_self, h.c hi hk]; exact z_ui_self.symm
  · rw [z_ui_ne e, h.c hi hj]; exact (z_ui_ne e).symm
theorem sp_MR.bpa {i k a : Nat} (h : sp_MR S s) (hi : i < 3) (hk : k < 7) : sp_MR (sp_uC S i (sp_bps (sp_C S i) k a)) (z_tc s (z_fu (z_qc s) i (z_ui (z_qc s i) k (z_qc s i k + nI a)))) := by
  refine h.uc (fun j hj => ?_)
  by_cases e : j = k
  · rw [e, z_ui_self, h.c hi hk, sp_bps_self]
  · rw [z_ui_ne e, h.c hi hj, sp_bps_ne e]
theorem sp_MR.uh {g : Nat} {x : Int32 × Int32 × Int32 × Int32} (h : sp_MR S s) : sp_MR (sp_uE S g (x, (sp_E S g).2)) (z_th s (z_fu (z_qh s) g x)) := by
  refine ⟨h.1, h.2.1, h.2.2.1, h.2.2.2.1, h.2.2.2.2.1, fun j hj => ?_⟩
  show z_fu (z_qh s) g x j = (z_fu (sp_E S) g (x, (sp_E S g).2) j).1 ∧ (z_ql s j).2 = sp_u (z_fu (sp_E S) g (x, (sp_E S g).2) j).2
  by_cases e : j = g
  · subst e; rw [z_fu_self, z_fu_self]; exact ⟨rfl, h.l hj⟩
  · rw [z_fu_ne e, z_fu_ne e]; exact ⟨h.h hj, h.l hj⟩
theorem sp_MR.up {t : Nat} {c : Int32} {P : List Nat} {T : List (Nat × Int32)} (h : sp_MR S s) (hP : sp_tpK (z_qk s) P = T) : sp_MR (sp_uT S t T) (z_tp s (z_fu (z_qp s) t (c, P))) := by
  refine ⟨h.1, h.2.1, h.2.2.1, h.2.2.2.1, fun j hj => ?_, h.2.2.2.2.2⟩
  show sp_tpK (z_qk s) (z_fu (z_qp s) t (c, P) j).2 = z_fu (sp_T S) t T j
  by_cases e : j = t
  · rw [e, z_fu_self, z_fu_self]; exact hP
  · rw [z_fu_ne e, z_fu_ne e]; exact h.t hj
theorem sp_MR.ue {g : Nat} {s9 : z_Z} {h2 : sp_H} (h : sp_MR S s) (hx : z_sx s s9) (h1 : z_qh s9 g = h2.1) (hl : (z_ql s9 g).2 = sp_u h2.2) (ho : ∀ j, j ≠ g → z_qh s9 j = z_qh s j ∧ z_ql s9 j = z_ql s j) : sp_MR (sp_uE S g h2) s9 := by
  obtain ⟨x1, x2, x3, x4, x5, x6, x7, x8⟩ := hx
  refine ⟨?_, fun i hi => ?_, fun i hi => ?_, fun i hi j hj => ?_, fun t ht => ?_, fun j hj => ?_⟩
  · rw [x1]; exact h.1
  · rw [x7]; exact h.w hi
  · rw [x3]; exact h.f hi
  · rw [x4]; exact h.c hi hj
  · rw [x6, x8]; exact h.t ht
  · show z_qh s9 j = (z_fu (sp_E S) g h2 j).1 ∧ (z_ql s9 j).2 = sp_u (z_fu (sp_E S) g h2 j).2
    by_cases e : j = g
    · rw [e, z_fu_self]; exact ⟨h1, hl⟩
    · rw [z_fu_ne e, (ho j e).1, (ho j e).2]; exact ⟨h.h hj, h.l hj⟩
theorem sp_rec_u {L : List Int32} {x : Int32} (hl : L.length ≤ 10) : z_rec (sp_u L) x = sp_u (sp_rec L x) := by
  unfold z_rec sp_rec
  have e1 : (sp_u L ++ [x.toUInt32]).length = L.length + 1 := by rw [List.length_append, List.length_map]; rfl
  by_cases c : L.length < 10
  · rw [if_pos (by omega), if_pos c]; show _ = List.map _ (L ++ [x]); rw [List.map_append]; rfl
  · rw [if_neg (by omega), if_neg c]
    cases L with
    | nil => exact absurd (show 0 < 10 by decide) c
    | cons a L => show sp_u L ++ [x.toUInt32] = List.map _ (L ++ [x]); rw [List.map_append]; rfl
theorem sp_kn {w : z_W} {ρ : Nat} {P : List Nat} {K : Nat → Nat → Int32} (h : z_pr w ρ P K) {p : Nat} (hp : p ∈ P) : (K p 0).toNatClampNeg < 20 ∧ K p 0 = nI (K p 0).toNatClampNeg := by
  obtain ⟨k, hk, e⟩ := (h.1 p hp).1.2.2
  rw [e, z_cla (by omega)]
  exact ⟨hk, rfl⟩
theorem sp_kd {w : z_W} {ρ : Nat} {P : List Nat} {K : Nat → Nat → Int32} (h : z_pr w ρ P K) : (sp_ks (sp_tpK K P)).Nodup := by
  unfold sp_ks
  rw [List.map_map]
  have h2 := h.2
  rw [List.Nodup, List.pairwise_map] at h2 ⊢
  refine List.Pairwise.imp_of_mem (fun {a b} ha hb hab e => hab ?_) h2
  have e : (K a 0).toNatClampNeg = (K b 0).toNatClampNeg := e
  rw [(sp_kn h ha).2, (sp_kn h hb).2, e]
theorem sp_pin {w : z_W} {ρ : Nat} {P : List Nat} {K : Nat → Nat → Int32} (h : z_pr w ρ P K) {p q : Nat} (hp : p ∈ P) (hq : q ∈ P) (e : (K p 0).toNatClampNeg = (K q 0).toNatClampNeg) : p = q := by
  have h2 := h.2
  have e2 : K p 0 = K q 0 := by rw [(sp_kn h hp).2, (sp_kn h hq).2, e]
  exact sp_inj_on h2 hp hq e2
theorem sp_lk_tp {w : z_W} {ρ : Nat} {P : List Nat} {K : Nat → Nat → Int32} (h : z_pr w ρ P K) {p k : Nat} (hp : p ∈ P) (e : K p 0 = nI k) (hk : k < 20) : sp_lk (sp_tpK K P) k = K p 1 := by
  have h1 := sp_lk_mem (sp_kd h) (List.mem_map.mpr ⟨p, hp, rfl⟩ : ((K p 0).toNatClampNeg, K p 1) ∈ sp_tpK K P)
  have e2 : (K p 0).toNatClampNeg = k := by rw [e, z_cla (by omega)]
  rw [← e2]
  exact h1
theorem sp_lk_tpn {P : List Nat} {K : Nat → Nat → Int32} {k : Nat} (hk : k < 20) (hq : ∀ p ∈ P, ∃ j, j < 20 ∧ K p 0 = nI j) (e : ∀ p ∈ P, ¬ K p 0 = nI k) : k ∉ sp_ks (sp_tpK K P) := fun z => by
  unfold sp_ks at z
  rw [List.map_map] at z
  obtain ⟨p, hp, e2⟩ := List.mem_map.mp z
  have e2 : (K p 0).toNatClampNeg = k := e2
  obtain ⟨j, hj, e3⟩ := hq p hp
  refine e p hp ?_
  rw [e3, z_cla (by omega)] at e2
  rw [e3, e2]
theorem sp_MR.uk {w : z_W} {t0 p : Nat} {F : Nat → Int32} {v : Int32} (h : sp_MR S s) (hm : z_mst w s) (ht0 : t0 < 3) (hp : p ∈ (z_qp s t0).2) (hF : F 0 = z_qk s p 0) (hv : F 1 = v) : sp_MR (sp_uT S t0 (sp_st (sp_T S t0) ((z_qk s p 0).toNatClampNeg) v)) (z_tk s (z_fu (z_qk s) p F)) := by
  refine ⟨h.1, h.2.1, h.2.2.1, h.2.2.2.1, fun j hj => ?_, h.2.2.2.2.2⟩
  show sp_tpK (z_fu (z_qk s) p F) (z_qp s j).2 = z_fu (sp_T S) t0 (sp_st (sp_T S t0) ((z_qk s p 0).toNatClampNeg) v) j
  by_cases e : j = t0
  · subst e
    rw [z_fu_self, ← h.t hj, sp_st, List.map_map]
    refine List.map_congr_left (fun q hq => ?_)
    show ((z_fu (z_qk s) p F q 0).toNatClampNeg, z_fu (z_qk s) p F q 1) = if (z_qk s q 0).toNatClampNeg = (z_qk s p 0).toNatClampNeg then ((z_qk s q 0).toNatClampNeg, v) else ((z_qk s q 0).toNatClampNeg, z_qk s q 1)
    by_cases e2 : q = p
    · subst e2; rw [z_fu_self, if_pos rfl, hF, hv]
    · rw [z_fu_ne e2, if_neg (fun z => e2 (sp_pin (hm.pr hj) hq hp z))]
  · rw [z_fu_ne e, ← h.t hj]
    refine List.map_congr_left (fun q hq => ?_)
    have a1 := ((hm.pr hj).1 q hq).1.2.1
    have a2 := ((hm.pr ht0).1 p hp).1.2.1
    rw [z_fu_ne (fun z => by subst z; omega)]
theorem sp_MR.newk {w0 : z_W} {x : Nat} {F : Nat → Int32} (h : sp_MR S s) (h0 : z_mst w0 s) (hx : z_g w0 x = none) : sp_MR S (z_tk s (z_fu (z_qk s) x F)) := by
  refine ⟨h.1, h.2.1, h.2.2.1, h.2.2.2.1, fun j hj => ?_, h.2.2.2.2.2⟩
  show sp_tpK (z_fu (z_qk s) x F) (z_qp s j).2 = _
  rw [← h.t hj]
  refine List.map_congr_left (fun q hq => ?_)
  rw [z_fu_ne (fun z => by
    have := ((h0.pr hj).1 q hq).2
    rw [z, hx] at this
    cases this)]
theorem sp_tp_ins {K : Nat → Nat → Int32} {P : List Nat} {x a k : Nat} {v : Int32} (h0 : K x 0 = nI k) (hk : k < 20) (h1 : K x 1 = v) : sp_tpK K (P.take a ++ x :: P.drop a) = sp_ins (sp_tpK K P) a k v := by
  unfold sp_ins
  rw [sp_tpK, List.map_append, List.map_cons, List.map_take, List.map_drop, h0, h1, z_cla (by omega)]
theorem sp_er_go : ∀ {T : List (Nat × Int32)} {j : Nat} {p : Nat × Int32}, (sp_ks T).Nodup → T[j]? = some p → T.eraseIdx j = sp_go T p.1
  | [], j, p, _, h => by cases h
  | q :: T, 0, p, hd, h => by
    have e : q = p := Option.some.inj h
    subst e
    have hd : (q.1 :: sp_ks T).Nodup := hd
    rw [List.nodup_cons] at hd
    show T = List.filter _ (q :: T)
    rw [List.filter_cons, if_neg (by rw [beq_self_eq_true]; exact Bool.false_ne_true)]
    exact (sp_go_no hd.1).symm
  | q :: T, j + 1, p, hd, h => by
    have h : T[j]? = some p := h
    have hd : (q.1 :: sp_ks T).Nodup := hd
    rw [List.nodup_cons] at hd
    have hne : q.1 ≠ p.1 := fun z => hd.1 (by rw [z]; exact List.mem_map.mpr ⟨p, List.mem_of_getElem? h, rfl⟩)
    show q :: T.eraseIdx j = List.filter _ (q :: T)
    rw [List.filter_cons, if_pos (by rw [beq_false_of_ne hne]; rfl), sp_er_go hd.2 h]
    rfl
theorem sp_tp_er {K : Nat → Nat → Int32} {P : List Nat} {j : Nat} : sp_tpK K (P.eraseIdx j) = (sp_tpK K P).eraseIdx j := by
  exact sp_erm _ _ _
theorem sp_uT_id {t : Nat} : sp_uT S t (sp_T S t) = S := by
  refine congrArg (fun f => (S.1, S.2.1, S.2.2.1, S.2.2.2.1, f, S.2.2.2.2.2)) (funext fun j => ?_)
  show z_fu (sp_T S) t (sp_T S t) j = sp_T S j
  by_cases e : j = t
  · rw [e, z_fu_self]
  · rw [z_fu_ne e]
theorem sp_uC_id {i : Nat} : sp_uC S i (sp_C S i) = S := by
  refine congrArg (fun f => (S.1, S.2.1, S.2.2.1, f, S.2.2.2.2)) (funext fun j => ?_)
  show z_fu (sp_C S) i (sp_C S i) j = sp_C S j
  by_cases e : j = i
  · rw [e, z_fu_self]
  · rw [z_fu_ne e]
theorem sp_tc_id {t : Nat} : sp_tc S t (sp_C S 2) = S := by
  unfold sp_tc
  cases Nat.beq t 0
  · rfl
  · exact sp_uC_id
theorem sp_X1 {T k a R : Int32} {S K : sp_S} {s9 : z_Z} (hT : T = k) (hk : ¬ k = 0) (h1 : s9.1.1 = k) (h2 : sp_MR S s9) : s9.1.1 = T ∧ sp_MR (if T = 0 then K else S) s9 ∧ (T = 0 → a = R) := by
  subst hT
  exact ⟨h1, by rw [if_neg hk]; exact h2, fun z => absurd z hk⟩
theorem sp_X0 {T a R : Int32} {S K : sp_S} {s9 : z_Z} (hT : T = 0) (h1 : s9.1.1 = 0) (h2 : sp_MR K s9) (h3 : a = R) : s9.1.1 = T ∧ sp_MR (if T = 0 then K else S) s9 ∧ (T = 0 → a = R) := by
  subst hT
  exact ⟨h1, by rw [if_pos rfl]; exact h2, fun _ => h3⟩
end ZMr0
end ZM0
section ZM1
section ZMr1
variable {G : z_G} {l : Launch}
theorem sp_thr_n {i : Nat} (h : i < 3) : sp_thr (nI i) := by
  rcases (by omega : i = 0 ∨ i = 1 ∨ i = 2) with rfl | rfl | rfl
  · exact Or.inl rfl
  · exact Or.inr (Or.inl rfl)
  · exact Or.inr (Or.inr rfl)
theorem sp_no3 {x : Int32} (h : ¬ (0 ≤ x ∧ x ≤ 2)) : ¬ sp_thr x := by
  rintro (rfl | rfl | rfl) <;> exact h ⟨by decide, by decide⟩
theorem cm_isNoTwo_r (hl : l.stackTraces = false) (w : z_W) (x : Int32) : z_Con G l mX11_isNoTwo 12 0 0 w [.int x] (fun v w9 => ((v = some (.int 1) ∧ ¬ sp_two x) ∨ (v = some (.int 0) ∧ ∃ i, i < 2 ∧ sp_two (nI i) ∧ x = nI i)) ∧ w9 = w) (fun _ _ => False) :=
  z_weak (cm_isNoTwo hl w x) (fun v w' h => ⟨h.1.imp (fun z => ⟨z.1, q_no2 z.2⟩) (fun z => ⟨z.1, by obtain ⟨i, hi, e⟩ := z.2; exact ⟨i, hi, q_i2 hi, e⟩⟩), h.2⟩) (fun _ _ h => h)
theorem cm_isNoTable_r (hl : l.stackTraces = false) (w : z_W) (x : Int32) : z_Con G l mX11_isNoTable 12 0 0 w [.int x] (fun v w9 => ((v = some (.int 1) ∧ ¬ sp_thr x) ∨ (v = some (.int 0) ∧ ∃ i, i < 3 ∧ sp_thr (nI i) ∧ x = nI i)) ∧ w9 = w) (fun _ _ => False) :=
  z_weak (cm_isNoTable hl w x) (fun v w' h => ⟨h.1.imp (fun z => ⟨z.1, sp_no3 z.2⟩) (fun z => ⟨z.1, by obtain ⟨i, hi, e⟩ := z.2; exact ⟨i, hi, sp_thr_n hi, e⟩⟩), h.2⟩) (fun _ _ h => h)
theorem cm_isNoKey_r (hl : l.stackTraces = false) (w : z_W) (x : Int32) : z_Con G l mX11_isNoKey 12 0 0 w [.int x] (fun v w9 => ((v = some (.int 1) ∧ sp_bk x) ∨ (v = some (.int 0) ∧ ∃ i, i < 20 ∧ (¬ sp_bk (nI i)) ∧ x = nI i)) ∧ w9 = w) (fun _ _ => False) :=
  z_weak (cm_isNoKey hl w x) (fun v w' h => ⟨h.1.imp (fun z => ⟨z.1, q_nin z.2⟩) (fun z => ⟨z.1, by obtain ⟨i, hi, e⟩ := z.2; exact ⟨i, hi, q_key20 ⟨i, hi, rfl⟩, e⟩⟩), h.2⟩) (fun _ _ h => h)
theorem cm_isNoValue_r (hl : l.stackTraces = false) (w : z_W) (x : Int32) : z_Con G l mX11_isNoValue 12 0 0 w [.int x] (fun v w9 => ((v = some (.int 1) ∧ sp_bv x) ∨ (v = some (.int 0) ∧ ¬ sp_bv x)) ∧ w9 = w) (fun _ _ => False) :=
  z_weak (cm_isNoValue hl w x) (fun v w' h => ⟨h.1.imp (fun z => ⟨z.1, q_nin z.2⟩) (fun z => ⟨z.1, q_inn z.2⟩), h.2⟩) (fun _ _ h => h)
theorem cm_isIn_r (hl : l.stackTraces = false) (w : z_W) (x a b : Int32) : z_Con G l mX11_isIn 10 0 0 w [.int x, .int a, .int b] (fun v w9 => ((v = some (.int 1) ∧ ¬ (x < a ∨ b < x)) ∨ (v = some (.int 0) ∧ (x < a ∨ b < x))) ∧ w9 = w) (fun _ _ => False) :=
  z_weak (cm_isIn hl w x a b) (fun v w' h => ⟨h.1.imp (fun z => ⟨z.1, q_inn z.2⟩) (fun z => ⟨z.1, q_nin z.2⟩), h.2⟩) (fun _ _ h => h)
theorem cl_sizeW (hl : l.stackTraces = false) (w : z_W) {S : sp_S} {s : z_Z} (i : Nat) (B : List Int32) (h : z_mst w s) (R : sp_MR S s) (hi : i < 2) (hB : sp_R S i = B) : z_Con G l mJx4a65c_size_8abf5 10 0 0 w [.ref ((z_qr s).2 i)] (fun v w9 => v = some (.int (nI B.length)) ∧ w9 = w) (fun _ _ => False) :=
  z_weak (cl_sizeB hl w _ _ _ _ (h.rw hi).1) (fun v w' q => by obtain ⟨⟨n, rfl, rfl⟩, hw⟩ := q; exact ⟨by rw [R.wl hi, hB], hw⟩) (fun _ _ h => h)
theorem cl_sizeT (hl : l.stackTraces = false) (w : z_W) {S : sp_S} {s : z_Z} (t : Nat) (B : List (Nat × Int32)) (h : z_mst w s) (R : sp_MR S s) (ht : t < 3) (hB : sp_T S t = B) : z_Con G l mJx4a65c_size_8abf5 10 0 0 w [.ref (1011 + t)] (fun v w9 => v = some (.int (nI B.length)) ∧ w9 = w) (fun _ _ => False) :=
  z_weak (cl_sizeR hl w _ _ _ _ (h.tb ht)) (fun v w' q => by obtain ⟨⟨n, rfl, rfl⟩, hw⟩ := q; exact ⟨by rw [R.tl ht, hB], hw⟩) (fun _ _ h => h)
theorem sp_u_get {L : List Int32} {k : Nat} {x : Int32} (h : L[k]? = some x) : (z_bx (sp_u L))[k]? = some (.float x.toUInt32) := by
  unfold z_bx
  rw [List.getElem?_map, List.getElem?_map, h]
  rfl
theorem cl_getW (hl : l.stackTraces = false) (w : z_W) {S : sp_S} {s : z_Z} (i k : Nat) (B : List Int32) (x : Int32) (h : z_mst w s) (R : sp_MR S s) (hi : i < 2) (hB : sp_R S i = B) (hx : B[k]? = some x) : z_Con G l mJx4a65c_get_915e3 13 0 0 w [.ref ((z_qr s).2 i), .int (nI k)] (fun v w9 => v = some (.float x.toUInt32) ∧ w9 = w) (fun _ _ => False) :=
  cl_get hl w _ _ _ _ k _ (h.rw hi).1 (by rw [R.w hi, hB]; exact sp_u_get hx)
theorem c_intv (hl : l.stackTraces = false) (w : z_W) (x : Int32) : z_Con G l mJ6_intValue_8abf5 10 0 0 w [.float x.toUInt32] (fun v w9 => (v = some (.int x)) ∧ w9 = w) (fun _ _ => False) :=
  c_J6_intValue_8abf5 hl w x.toUInt32
theorem sp_MR.len10 {w : z_W} {S : sp_S} {s : z_Z} (R : sp_MR S s) (h : z_mst w s) {g : Nat} (hg : g < 2) : (sp_E S g).2.length ≤ 10 := by
  have h1 := (h.hl hg).2
  rw [R.l hg, List.length_map] at h1
  exact h1
theorem sp_MR.len12 {w : z_W} {S : sp_S} {s : z_Z} (R : sp_MR S s) (h : z_mst w s) {i : Nat} (hi : i < 2) : (sp_R S i).length ≤ 12 := by
  rw [← R.wl hi]; exact (h.rw hi).2
theorem sp_MR.len20 {w : z_W} {S : sp_S} {s : z_Z} (R : sp_MR S s) (h : z_mst w s) {t : Nat} (ht : t < 3) : (sp_T S t).length ≤ 20 := by
  rw [← R.tl ht]; exact (h.pr ht).len
theorem sp_in_n {h : sp_H} {x : Int32} (e : ¬ h.1.1 = -1000 ∧ h.1.1 = x) : sp_in h x = none := if_pos ⟨e.1, e.2.symm⟩
theorem sp_in_s {h : sp_H} {x : Int32} (e : ¬ (¬ h.1.1 = -1000 ∧ h.1.1 = x)) : sp_in h x = some ((h.1.1, h.1.2.1 + 1, h.1.2.2.1 + x, x), sp_rec h.2 x) := if_neg (fun z => e ⟨z.1, z.2.symm⟩)
theorem sp_uEE {S : sp_S} {g : Nat} {a b : sp_H} : sp_uE (sp_uE S g a) g b = sp_uE S g b := by
  refine congrArg (fun f => (S.1, S.2.1, S.2.2.1, S.2.2.2.1, S.2.2.2.2.1, f)) (funext fun j => ?_)
  show z_fu (z_fu (sp_E S) g a) g b j = z_fu (sp_E S) g b j
  by_cases e : j = g
  · rw [e, z_fu_self, z_fu_self]
  · rw [z_fu_ne e, z_fu_ne e, z_fu_ne e]
theorem sp_uCC {S : sp_S} {i : Nat} {a b : Nat → Int32} : sp_uC (sp_uC S i a) i b = sp_uC S i b := by
  refine congrArg (fun f => (S.1, S.2.1, S.2.2.1, f, S.2.2.2.2)) (funext fun j => ?_)
  show z_fu (z_fu (sp_C S) i a) i b j = z_fu (sp_C S) i b j
  by_cases e : j = i
  · rw [e, z_fu_self, z_fu_self]
  · rw [z_fu_ne e, z_fu_ne e, z_fu_ne e]
theorem sp_uRR {S : sp_S} {i : Nat} {a b : List Int32} : sp_uR (sp_uR S i a) i b = sp_uR S i b := by
  refine congrArg (fun f => (S.1, f, S.2.2)) (funext fun j => ?_)
  show z_fu (z_fu (sp_R S) i a) i b j = z_fu (sp_R S) i b j
  by_cases e : j = i
  · rw [e, z_fu_self, z_fu_self]
  · rw [z_fu_ne e, z_fu_ne e, z_fu_ne e]
theorem sp_uTT {S : sp_S} {i : Nat} {a b : List (Nat × Int32)} : sp_uT (sp_uT S i a) i b = sp_uT S i b := by
  refine congrArg (fun f => (S.1, S.2.1, S.2.2.1, S.2.2.2.1, f, S.2.2.2.2.2)) (funext fun j => ?_)
  show z_fu (z_fu (sp_T S) i a) i b j = z_fu (sp_T S) i b j
  by_cases e : j = i
  · rw [e, z_fu_self, z_fu_self]
  · rw [z_fu_ne e, z_fu_ne e, z_fu_ne e]
theorem sp_uR_id {S : sp_S} {i : Nat} : sp_uR S i (sp_R S i) = S := by
  refine congrArg (fun f => (S.1, f, S.2.2)) (funext fun j => ?_)
  show z_fu (sp_R S) i (sp_R S i) j = sp_R S j
  by_cases e : j = i
  · rw [e, z_fu_self]
  · rw [z_fu_ne e]
theorem sp_uE_id {S : sp_S} {g : Nat} : sp_uE S g (sp_E S g) = S := by
  refine congrArg (fun f => (S.1, S.2.1, S.2.2.1, S.2.2.2.1, S.2.2.2.2.1, f)) (funext fun j => ?_)
  show z_fu (sp_E S) g (sp_E S g) j = sp_E S j
  by_cases e : j = g
  · rw [e, z_fu_self]
  · rw [z_fu_ne e]
theorem cm_refuses_r (hl : l.stackTraces = false) (w : z_W) (S : sp_S) (hh : sp_H) (s : z_Z) (g : Nat) (x : Int32) (h : z_mst w s) (R : sp_MR (sp_uE S g hh) s) (hg : g < 2) : z_Con G l mX10_refuses 18 2 31 w [.ref (1009 + g), .int x] (fun v w9 => (v = some (.int 1) ∧ sp_in hh x = none ∧ w9 = w) ∨ (v = some (.int 0) ∧ ∃ h2 s9, sp_in hh x = some h2 ∧ z_fm 56 w w9 ∧ z_mst w9 s9 ∧ sp_MR (sp_uE S g h2) s9 ∧ s9.1 = s.1 ∧ z_qp s9 = z_qp s)) (fun _ _ => False) := by
  have eh : sp_E (sp_uE S g hh) g = hh := z_fu_self
  have e1 : (z_qh s g) = hh.1 := by rw [R.h hg, eh]
  have e2 : (z_ql s g).2 = sp_u hh.2 := by rw [R.l hg, eh]
  have e3 : hh.2.length ≤ 10 := by have := R.len10 h hg; rw [eh] at this; exact this
  refine z_weak (cm_refuses hl w s g x h hg) (fun v w' q => ?_) (fun _ _ h => h)
  rcases q with ⟨q1, q2, q3⟩ | ⟨q1, q2, s9, q3, q4, -, q5, q6, q7, q8⟩
  · rw [e1] at q2
    exact Or.inl ⟨q1, sp_in_n q2, q3⟩
  · rw [e1] at q2 q6
    rw [e2, sp_rec_u e3] at q7
    refine Or.inr ⟨q1, _, s9, sp_in_s q2, q3, q4, ?_, q5.1, q5.2.2.2.2.2.1⟩
    have := R.ue (h2 := ((hh.1.1, hh.1.2.1 + 1, hh.1.2.2.1 + x, x), sp_rec hh.2 x)) q5 q6 q7 q8
    rw [sp_uEE] at this
    exact this
theorem cm_forget_r (hl : l.stackTraces = false) (w : z_W) (S : sp_S) (s : z_Z) (g : Nat) (h : z_mst w s) (R : sp_MR S s) (hg : g < 2) : z_Con G l mX10_forget 13 0 0 w [.ref (1009 + g)] (fun v w9 => v = none ∧ ∃ s9, z_fm 56 w w9 ∧ z_mst w9 s9 ∧ sp_MR (sp_uE S g (sp_fgt (sp_E S g))) s9 ∧ s9.1 = s.1) (fun _ _ => False) := by
  refine z_weak (cm_forgetH hl w s g h hg) (fun v w' q => ?_) (fun _ _ h => h)
  obtain ⟨q1, s9, q3, q4, -, q5, q6, q7, q8⟩ := q
  rw [R.h hg] at q6
  exact ⟨q1, s9, q3, q4, R.ue (h2 := sp_fgt (sp_E S g)) q5 q6 q7 q8, q5.1⟩
theorem sp_MR.pr {w : z_W} {S : sp_S} {s : z_Z} (R : sp_MR S s) (h : z_mst w s) {t k : Nat} (ht : t < 3) {e : Nat × Int32} (he : (sp_T S t)[k]? = some e) : ∃ p, p ∈ (z_qp s t).2 ∧ (z_rs (z_qp s t).2)[k]? = some (.ref p) ∧ (z_qp s t).2[k]? = some p ∧ z_qk s p 0 = nI e.1 ∧ z_qk s p 1 = e.2 ∧ e.1 < 20 := by
  rw [← R.t ht] at he
  have he : (List.map _ (z_qp s t).2)[k]? = some e := he
  rw [List.getElem?_map] at he
  cases hp : (z_qp s t).2[k]? with
  | none => rw [hp] at he; cases he
  | some p =>
    rw [hp] at he
    have he := Option.some.inj he
    have hm := List.mem_of_getElem? hp
    have h1 := sp_kn (h.pr ht) hm
    refine ⟨p, hm, ?_, rfl, ?_, ?_, ?_⟩
    · unfold z_rs; rw [List.getElem?_map, hp]; rfl
    · rw [← he]; exact h1.2
    · rw [← he]
    · rw [← he]; exact h1.1
theorem cm_place_r (hl : l.stackTraces = false) (w : z_W) (S : sp_S) (s : z_Z) (t k : Nat) (T : List (Nat × Int32)) (h : z_mst w s) (R : sp_MR S s) (ht : t < 3) (hk : k < 20) (hT : sp_T S t = T) : z_Con G l mX11_place 14 0 0 w [.ref 1000, .int (nI t), .int (nI k)] (fun v w9 => ((∃ j e, v = some (.int (nI j)) ∧ T[j]? = some e ∧ e.1 = k ∧ sp_lk T k = e.2 ∧ k ∈ sp_ks T ∧ j < T.length ∧ T.length ≤ 20) ∨ (v = some (.int (-1)) ∧ k ∉ sp_ks T ∧ sp_lk T k = -1000)) ∧ w9 = w) (fun _ _ => False) := by
  subst hT
  refine z_weak (cm_place hl w s t (nI k) h ht) (fun v w' q => ⟨?_, q.2⟩) (fun _ _ h => h)
  rcases q.1 with ⟨j, p, q1, q2, q3⟩ | ⟨q1, q2⟩
  · have hm := List.mem_of_getElem? q2
    have e1 : (sp_T S t)[j]? = some (k, z_qk s p 1) := by
      rw [← R.t ht]
      show (List.map _ (z_qp s t).2)[j]? = _
      rw [List.getElem?_map, q2]
      show some ((z_qk s p 0).toNatClampNeg, z_qk s p 1) = _
      rw [q3, z_cla (by omega)]
    have e2 := sp_lk_tp (h.pr ht) hm q3 hk
    rw [R.t ht] at e2
    refine Or.inl ⟨j, _, q1, e1, rfl, e2, List.mem_map.mpr ⟨_, List.mem_of_getElem? e1, rfl⟩, (List.getElem?_eq_some_iff.mp e1).1, R.len20 h ht⟩
  · have e1 := sp_lk_tpn hk (fun p hp => ((h.pr ht).1 p hp).1.2.2) q2
    rw [R.t ht] at e1
    exact Or.inr ⟨q1, e1, sp_lk_no e1⟩
theorem sp_MR.l12 {w : z_W} {S : sp_S} {s : z_Z} (R : sp_MR S s) (h : z_mst w s) {i : Nat} {B : List Int32} (hi : i < 2) (hB : sp_R S i = B) : B.length ≤ 12 := hB ▸ R.len12 h hi
theorem sp_MR.l20 {w : z_W} {S : sp_S} {s : z_Z} (R : sp_MR S s) (h : z_mst w s) {t : Nat} {B : List (Nat × Int32)} (ht : t < 3) (hB : sp_T S t = B) : B.length ≤ 20 := hB ▸ R.len20 h ht
theorem sp_MR.wlB {S : sp_S} {s : z_Z} (R : sp_MR S s) {i : Nat} {B : List Int32} (hi : i < 2) (hB : sp_R S i = B) : (z_qw s i).2.length = B.length := by rw [R.wl hi, hB]
theorem sp_MR.tlB {S : sp_S} {s : z_Z} (R : sp_MR S s) {t : Nat} {B : List (Nat × Int32)} (ht : t < 3) (hB : sp_T S t = B) : (z_qp s t).2.length = B.length := by rw [R.tl ht, hB]
theorem sp_MR.wadd {S : sp_S} {s : z_Z} (R : sp_MR S s) {i : Nat} {B : List Int32} {x : Int32} (hi : i < 2) (hB : sp_R S i = B) : (z_qw s i).2 ++ [x.toUInt32] = sp_u (B ++ [x]) := by
  rw [R.w hi, hB]; show _ = List.map _ (B ++ [x]); rw [List.map_append]; rfl
theorem sp_MR.wrem {S : sp_S} {s : z_Z} (R : sp_MR S s) {i k : Nat} {B : List Int32} (hi : i < 2) (hB : sp_R S i = B) : (z_qw s i).2.eraseIdx k = sp_u (B.eraseIdx k) := by
  rw [R.w hi, hB]; exact z_erm _ _ _
theorem sp_MR.wset {S : sp_S} {s : z_Z} (R : sp_MR S s) {i k : Nat} {B : List Int32} {x : Int32} (hi : i < 2) (hB : sp_R S i = B) : (z_qw s i).2.set k x.toUInt32 = sp_u (B.set k x) := by
  rw [R.w hi, hB]; show (List.map _ B).set _ _ = List.map _ (B.set k x); rw [List.map_set]
theorem sp_drop {α : Type} : ∀ {L : List α} {j : Nat} {x : α}, L[j]? = some x → L.drop j = x :: L.drop (j + 1)
  | [], _, _, h => by cases h
  | y :: L, 0, x, h => by cases h; rfl
  | y :: L, j + 1, x, h => sp_drop (L := L) (j := j) h
theorem sp_mid? {α : Type} : ∀ {A L : List α} {x : α}, (A ++ x :: L)[A.length]? = some x
  | [], _, _ => rfl
  | _ :: A, L, x => sp_mid? (A := A)
theorem sp_mide {α : Type} : ∀ {A L : List α} {x : α}, (A ++ x :: L).eraseIdx A.length = A ++ L
  | [], _, _ => rfl
  | a :: A, L, x => congrArg (a :: ·) (sp_mide (A := A))
theorem sp_mids {α : Type} : ∀ {A L : List α} {x y : α}, (A ++ x :: L).set A.length y = A ++ y :: L
  | [], _, _, _ => rfl
  | a :: A, L, x, y => congrArg (a :: ·) (sp_mids (A := A))
theorem sp_take_er {α : Type} : ∀ {L : List α} {m : Nat}, m + 1 ≤ L.length → (L.take (m + 1)).eraseIdx m = L.take m
  | [], m, h => absurd h (Nat.not_succ_le_zero _)
  | x :: L, 0, _ => rfl
  | x :: L, m + 1, h => congrArg (x :: ·) (sp_take_er (L := L) (m := m) (Nat.le_of_succ_le_succ h))
theorem cm_one_r (hl : l.stackTraces = false) (w : z_W) (b : Bool) : z_Con G l mX11_one 10 0 0 w [.int (z_bi b)] (fun v w9 => v = some (.int (z_bi b)) ∧ w9 = w) (fun _ _ => False) := by
  cases b with
  | true => exact cm_one1 hl w
  | false => exact cm_one0 hl w
theorem q_tt_s {t x n : Int32} : q_tt t x n = none ∨ q_tt t x n = some 1 ∨ q_tt t x n = some 0 := by
  cases e : q_tt t x n with
  | none => exact Or.inl rfl
  | some y =>
    rcases q_tts e with rfl | rfl
    · exact Or.inr (Or.inr rfl)
    · exact Or.inr (Or.inl rfl)
theorem cm_test_r (hl : l.stackTraces = false) (w : z_W) (t x n : Int32) : z_Con G l mX11_test 12 0 0 w [.int t, .int x, .int n] (fun v w9 => ((v = some (.int 100000) ∧ q_tt t x n = none) ∨ (v = some (.int 1) ∧ q_tt t x n = some 1) ∨ (v = some (.int 0) ∧ q_tt t x n = some 0)) ∧ w9 = w) (fun _ _ => False) := by
  refine z_weak (cm_test_e hl w t x n) (fun v w' q => ⟨?_, q.2⟩) (fun _ _ h => h)
  rcases q_tt_s (t := t) (x := x) (n := n) with e | e | e
  · exact Or.inl ⟨by rw [q.1, e]; rfl, e⟩
  · exact Or.inr (Or.inl ⟨by rw [q.1, e]; rfl, e⟩)
  · exact Or.inr (Or.inr ⟨by rw [q.1, e]; rfl, e⟩)
theorem q_rt99 {r p v t x : Int32} (hq : v ≤ 999) (ht : t ≤ 999) (h : q_rt r p v t = some x) : x ≤ 999 := by
  unfold q_rt at h
  split at h
  · cases h; exact (q_bdr _).2
  split at h
  · cases h
    unfold q_mx
    split
    · exact ht
    · exact hq
  split at h
  · cases h
    cases q_ev (q_bd (v + t)) with
    | true => exact (q_bdr _).2
    | false => show (-1000 : Int32) ≤ 999; decide
  split at h
  · cases h; decide
  split at h
  · revert h
    cases q_ev (q_bd (v + t)) with
    | true => intro h; cases h; exact (q_bdr _).2
    | false => intro h; cases h
  · cases h; exact (q_bdr _).2
theorem cm_rule_r (hl : l.stackTraces = false) (w : z_W) (r p v0 t : Int32) (hq : v0 ≤ 999) (ht : t ≤ 999) : z_Con G l mX11_rule 12 0 0 w [.int r, .int p, .int v0, .int t] (fun v w9 => ((v = some (.int 100000) ∧ q_rt r p v0 t = none) ∨ (∃ y, v = some (.int y) ∧ q_rt r p v0 t = some y ∧ ¬ y = 100000)) ∧ w9 = w) (fun _ _ => False) := by
  refine z_weak (cm_rule_e hl w r p v0 t) (fun v w' q => ⟨?_, q.2⟩) (fun _ _ h => h)
  cases e : q_rt r p v0 t with
  | none => exact Or.inl ⟨by rw [q.1, e]; rfl, rfl⟩
  | some y => exact Or.inr ⟨y, by rw [q.1, e]; rfl, rfl, fun z => by have h9 := q_rt99 hq ht e; rw [z] at h9; exact absurd h9 (by decide)⟩
theorem sp_MR.bpH {S : sp_S} {s : z_Z} {i g k : Nat} {c : Nat → Int32} {hh : sp_H} (R : sp_MR (sp_uE (sp_uC S i c) g hh) s) (hi : i < 3) (hk : k < 7) : sp_MR (sp_uE (sp_uC S i (z_bp c k)) g hh) (z_tc s (z_fu (z_qc s) i (z_ui (z_qc s i) k (z_qc s i k + 1)))) := by
  have h1 := R.bp hi hk
  have e : sp_C (sp_uE (sp_uC S i c) g hh) i = c := z_fu_self
  rw [e] at h1
  have e2 : sp_uC (sp_uE (sp_uC S i c) g hh) i (z_bp c k) = sp_uE (sp_uC S i (z_bp c k)) g hh := congrArg (fun z => sp_uE z g hh) (sp_uCC (S := S) (i := i) (a := c) (b := z_bp c k))
  rw [e2] at h1
  exact h1
theorem sp_MR.bpR {S : sp_S} {s : z_Z} {i k : Nat} {c : Nat → Int32} {B : List Int32} (R : sp_MR (sp_uR (sp_uC S i c) i B) s) (hi : i < 3) (hk : k < 7) : sp_MR (sp_uR (sp_uC S i (z_bp c k)) i B) (z_tc s (z_fu (z_qc s) i (z_ui (z_qc s i) k (z_qc s i k + 1)))) := by
  have h1 := R.bp hi hk
  have e : sp_C (sp_uR (sp_uC S i c) i B) i = c := z_fu_self
  rw [e] at h1
  have e2 : sp_uC (sp_uR (sp_uC S i c) i B) i (z_bp c k) = sp_uR (sp_uC S i (z_bp c k)) i B := congrArg (fun z => sp_uR z i B) (sp_uCC (S := S) (i := i) (a := c) (b := z_bp c k))
  rw [e2] at h1
  exact h1
theorem sp_MR.bpa2 {S : sp_S} {s : z_Z} {i a : Nat} {c : Nat → Int32} (R : sp_MR (sp_uC S i c) s) (hi : i < 3) : sp_MR (sp_uC S i (sp_bps c 2 a)) (z_tc s (z_fu (z_qc s) i (z_ui (z_qc s i) 2 (z_qc s i 2 + nI a)))) := by
  have h1 := R.bpa (k := 2) (a := a) hi (by decide)
  have e : sp_C (sp_uC S i c) i = c := z_fu_self
  rw [e, sp_uCC] at h1
  exact h1
theorem sp_MR.prB {w : z_W} {S : sp_S} {s : z_Z} (R : sp_MR S s) (h : z_mst w s) {t k : Nat} {B : List (Nat × Int32)} (ht : t < 3) (hB : sp_T S t = B) {e : Nat × Int32} (he : B[k]? = some e) : ∃ p, p ∈ (z_qp s t).2 ∧ (z_rs (z_qp s t).2)[k]? = some (.ref p) ∧ (z_qp s t).2[k]? = some p ∧ z_qk s p 0 = nI e.1 ∧ z_qk s p 1 = e.2 ∧ e.1 < 20 := by
  subst hB
  exact R.pr h ht he
theorem sp_mny0 {a t b : Int32} (ha : z_vl a) (htv : z_vl t) (hb : 1 ≤ b ∧ b ≤ 99) : 0 ≤ z_mny a t b := by
  have h1 := Int32.le_iff_toInt_le.mp ha.1
  have h2 := Int32.le_iff_toInt_le.mp ha.2
  have h3 := Int32.le_iff_toInt_le.mp hb.1
  have h4 := Int32.le_iff_toInt_le.mp hb.2
  have h5 := Int32.le_iff_toInt_le.mp htv.1
  have h6 := Int32.le_iff_toInt_le.mp htv.2
  rw [show (-999 : Int32).toInt = -999 from rfl] at h1 h5
  rw [show (999 : Int32).toInt = 999 from rfl] at h2 h6
  rw [show (1 : Int32).toInt = 1 from rfl] at h3
  rw [show (99 : Int32).toInt = 99 from rfl] at h4
  rw [Int32.le_iff_toInt_le]
  unfold z_mny
  by_cases c : a ≤ t
  · have hc := Int32.le_iff_toInt_le.mp c
    rw [if_pos c]
    have hs : (t - a).toInt = t.toInt - a.toInt := by
      rw [Int32.toInt_sub]
      exact Int.bmod_eq_of_le (by omega) (by omega)
    have e1 := Int.ediv_nonneg (a := t.toInt - a.toInt) (b := b.toInt) (by omega) (by omega)
    have e2 := Int.ediv_le_self (a := t.toInt - a.toInt) b.toInt (by omega)
    have hd : ((t - a) / b).toInt = (t.toInt - a.toInt) / b.toInt := by
      rw [Int32.toInt_div, hs, Int.tdiv_eq_ediv_of_nonneg (by omega)]
      exact Int.bmod_eq_of_le (by omega) (by omega)
    have hp : ((t - a) / b + 1).toInt = (t.toInt - a.toInt) / b.toInt + 1 := by
      rw [Int32.toInt_add, hd, show (1 : Int32).toInt = 1 from rfl]
      exact Int.bmod_eq_of_le (by omega) (by omega)
    rw [hp, show (0 : Int32).toInt = 0 from rfl]
    omega
  · rw [if_neg c]
    exact Int.le_refl _
theorem cx_many (hl : l.stackTraces = false) (w : z_W) (a b c : Int32) (hc : 1 ≤ c ∧ c ≤ 99) (h0 : 0 ≤ z_mny a b c) : z_Con G l mX11_many 10 0 0 w [.int a, .int b, .int c] (fun v w9 => v = some (.int (nI (sp_mn a b c))) ∧ w9 = w) (fun _ _ => False) :=
  z_weak (cm_many hl w a b c (z_ne0 hc.1)) (fun v w' q => ⟨by rw [q.1, ← sp_mn_e h0], q.2⟩) (fun _ _ h => h)
theorem sp_bsp_a {a b c : Int32} (h : sp_bv a) : sp_bsp a b c := Or.inl h
theorem sp_bsp_b {a b c : Int32} (h : sp_bv b) : sp_bsp a b c := Or.inr (Or.inl h)
theorem sp_bsp_c {a b c : Int32} (h : c < 1 ∨ 99 < c) : sp_bsp a b c := Or.inr (Or.inr (Or.inl h))
theorem sp_bsp_d {a b c : Int32} (h : ¬ z_mny a b c ≤ 40) : sp_bsp a b c := Or.inr (Or.inr (Or.inr (Or.inr (Int32.not_le.mp h))))
theorem sp_bsp_n {a b c : Int32} (h1 : ¬ sp_bv a) (h2 : ¬ sp_bv b) (h3 : ¬ (c < 1 ∨ 99 < c)) (h4 : z_mny a b c ≤ 40) : ¬ sp_bsp a b c := fun z => z.elim h1 (fun z => z.elim h2 (fun z => z.elim h3 (fun z => z.elim (Int32.not_lt.mpr (sp_mny0 (q_nor h1) (q_nor h2) (q_nor h3))) (Int32.not_lt.mpr h4))))
theorem sp_MR.ustp {S : sp_S} {s : z_Z} {g : Nat} {x : Int32} (R : sp_MR S s) (hg : g < 2) : sp_MR (sp_uE S g (sp_stp' (sp_E S g) x)) (z_th s (z_fu (z_qh s) g (x, (z_qh s g).2.1, (z_qh s g).2.2.1, (z_qh s g).2.2.2))) := by
  have h1 := R.uh (g := g) (x := (x, (z_qh s g).2.1, (z_qh s g).2.2.1, (z_qh s g).2.2.2))
  have e : (((x, (z_qh s g).2.1, (z_qh s g).2.2.1, (z_qh s g).2.2.2), (sp_E S g).2) : sp_H) = sp_stp' (sp_E S g) x := by rw [R.h hg]; rfl
  rw [e] at h1
  exact h1
theorem cx_knock (hl : l.stackTraces = false) (w : z_W) (S : sp_S) (s : z_Z) (h : z_mst w s) (R : sp_MR S s) : z_Con G l mX11_knock 10 0 0 w [.ref 1000] (fun v w9 => ∃ (r9 : Int32) (s9 : z_Z), v = some (.int r9) ∧ z_fm 59 w w9 ∧ z_mst w9 s9 ∧ s9.1.1 = 0 ∧ sp_MR (sp_kno S) s9 ∧ r9 = S.1.2 + 1) (fun _ _ => False) :=
  z_weak (cm_knock hl w s h) (fun v w' q => ⟨_, _, q.1, q.2.1.le (by decide), q.2.2, rfl, R.kno, by rw [← R.1]⟩) (fun _ _ h => h)
def sp_lyS (S : sp_S) (t k : Nat) (v : Int32) : sp_S := sp_tc (sp_uT S t (sp_pt (sp_srt t) (sp_T S t) k v)) t (z_bp (sp_C S 2) 5)
def sp_gnS (S : sp_S) (t k : Nat) : sp_S := sp_tc (sp_uT S t (sp_go (sp_T S t) k)) t (z_bp (sp_C S 2) 6)
theorem sp_tc0 {S : sp_S} {t : Nat} {c : Nat → Int32} (h : t = 0) : sp_tc S t c = sp_uC S 2 c := by subst h; rfl
theorem sp_tcn {S : sp_S} {t : Nat} {c : Nat → Int32} (h : ¬ t = 0) : sp_tc S t c = S := by unfold sp_tc; rw [z_beq h]; rfl
theorem sp_tcT {S : sp_S} {t : Nat} {c : Nat → Int32} : sp_T (sp_tc S t c) = sp_T S := by unfold sp_tc; cases Nat.beq t 0 <;> rfl
theorem sp_tcu {S : sp_S} {t : Nat} {c : Nat → Int32} {T : List (Nat × Int32)} : sp_uT (sp_tc S t c) t T = sp_tc (sp_uT S t T) t c := by unfold sp_tc; cases Nat.beq t 0 <;> rfl
theorem sp_tb_id {S : sp_S} {t : Nat} {y : Int32} : sp_tb S t (some y, sp_T S t, sp_C S 2) = S := by
  show ((sp_tc (sp_uT S t (sp_T S t)) t (sp_C S 2)).1, (sp_tc (sp_uT S t (sp_T S t)) t (sp_C S 2)).2) = S
  rw [sp_uT_id, sp_tc_id]
theorem sp_tb_n {S : sp_S} {t : Nat} : sp_tb S t (none, sp_T S t, sp_C S 2) = sp_nine S := by
  show (((sp_tc (sp_uT S t (sp_T S t)) t (sp_C S 2)).1.1 + 1, (sp_tc (sp_uT S t (sp_T S t)) t (sp_C S 2)).1.2), (sp_tc (sp_uT S t (sp_T S t)) t (sp_C S 2)).2) = _
  rw [sp_uT_id, sp_tc_id]
theorem sp_lk99 {T : List (Nat × Int32)} {k : Nat} (h : sp_okT T) : sp_lk T k ≤ 999 := by
  rcases sp_lk_r (k := k) h with z | z
  · rw [z]; decide
  · exact z.2
theorem sp_key? {T : List (Nat × Int32)} {n : Nat} {e : Nat × Int32} (h : T[n]? = some e) : ((T[n]?).map Prod.fst).getD 0 = e.1 := by rw [h]; rfl
theorem sp_at_y {T : List (Nat × Int32)} {k n : Nat} {e : Nat × Int32} (h : T[n]? = some e) (c : k < e.1) : sp_at T k (n + 1) = sp_at T k n := by
  show (if k < ((T[n]?).map Prod.fst).getD 0 then sp_at T k n else n + 1) = _
  rw [sp_key? h, if_pos c]
theorem sp_at_n {T : List (Nat × Int32)} {k n : Nat} {e : Nat × Int32} (h : T[n]? = some e) (c : ¬ k < e.1) : sp_at T k (n + 1) = n + 1 := by
  show (if k < ((T[n]?).map Prod.fst).getD 0 then sp_at T k n else n + 1) = _
  rw [sp_key? h, if_neg c]
theorem sp_vl5 {y : Int32} (h : ¬ sp_bv y) : ¬ y = 100000 := by
  rintro rfl
  exact absurd (q_nor h).2 (by decide)
theorem sp_MR.bpT {S : sp_S} {s : z_Z} {t g k : Nat} {c : Nat → Int32} {hh : sp_H} (ht : t = 0) (R : sp_MR (sp_uE (sp_tc S t c) g hh) s) (hk : k < 7) : sp_MR (sp_uE (sp_tc S t (z_bp c k)) g hh) (z_tc s (z_fu (z_qc s) 2 (z_ui (z_qc s 2) k (z_qc s 2 k + 1)))) := by
  rw [sp_tc0 ht] at R ⊢
  exact R.bpH (by decide) hk
theorem sp_MR.bpX {S : sp_S} {s : z_Z} {t g : Nat} {c c2 : Nat → Int32} {hh : sp_H} (ht : ¬ t = 0) (R : sp_MR (sp_uE (sp_tc S t c) g hh) s) : sp_MR (sp_uE (sp_tc S t c2) g hh) s := by
  rw [sp_tcn ht] at R ⊢
  exact R
theorem sp_MR.bpTu {S : sp_S} {s : z_Z} {t k : Nat} {c : Nat → Int32} {B : List (Nat × Int32)} (ht : t = 0) (R : sp_MR (sp_tc (sp_uT S t B) t c) s) (hk : k < 7) : sp_MR (sp_tc (sp_uT S t B) t (z_bp c k)) (z_tc s (z_fu (z_qc s) 2 (z_ui (z_qc s 2) k (z_qc s 2 k + 1)))) := by
  rw [sp_tc0 ht] at R ⊢
  have h1 := R.bp (i := 2) (by decide) hk
  have e : sp_C (sp_uC (sp_uT S t B) 2 c) 2 = c := rfl
  rw [e, sp_uCC] at h1
  exact h1
theorem sp_MR.bpXu {S : sp_S} {s : z_Z} {t : Nat} {c c2 : Nat → Int32} {B : List (Nat × Int32)} (ht : ¬ t = 0) (R : sp_MR (sp_tc (sp_uT S t B) t c) s) : sp_MR (sp_tc (sp_uT S t B) t c2) s := by
  rw [sp_tcn ht] at R ⊢
  exact R
theorem sp_st_mid {A L : List (Nat × Int32)} {p : Nat × Int32} {y : Int32} (h : (sp_ks (A ++ p :: L)).Nodup) : sp_st (A ++ p :: L) p.1 y = A ++ (p.1, y) :: L := by
  unfold sp_ks at h
  rw [List.map_append, List.map_cons, List.nodup_append] at h
  obtain ⟨-, h2, h3⟩ := h
  rw [List.nodup_cons] at h2
  unfold sp_st
  rw [List.map_append, List.map_cons, if_pos rfl]
  have e1 : A.map (fun q => if q.1 = p.1 then (q.1, y) else q) = A := (List.map_congr_left (fun q hq => if_neg (fun z => h3 q.1 (List.mem_map.mpr ⟨q, hq, rfl⟩) p.1 List.mem_cons_self z))).trans (List.map_id _)
  have e2 : L.map (fun q => if q.1 = p.1 then (q.1, y) else q) = L := (List.map_congr_left (fun q hq => if_neg (fun z => h2.1 (by rw [← z]; exact List.mem_map.mpr ⟨q, hq, rfl⟩)))).trans (List.map_id _)
  rw [e1, e2]
theorem sp_MR.kd {w : z_W} {S : sp_S} {s : z_Z} (R : sp_MR S s) (h : z_mst w s) {t : Nat} {B : List (Nat × Int32)} (ht : t < 3) (hB : sp_T S t = B) : (sp_ks B).Nodup := by
  rw [← hB, ← R.t ht]
  exact sp_kd (h.pr ht)
theorem sp_MR.cong {S : sp_S} {s : z_Z} {C : Nat → Nat → Int32} (R : sp_MR S s) (h : ∀ i, i < 3 → ∀ j, j < 7 → sp_C S i j = C i j) : sp_MR (S.1, S.2.1, S.2.2.1, C, S.2.2.2.2) s :=
  ⟨R.1, R.2.1, R.2.2.1, fun i hi j hj => (R.c hi hj).trans (h i hi j hj), R.2.2.2.2⟩
theorem sp_apl {α : Type} {A L : List α} : A.length ≤ (A ++ L).length := by rw [List.length_append]; exact Nat.le_add_right _ _
theorem sp_apn {α : Type} {A : List α} {x : α} : A.length + 1 = (A ++ [x]).length := by rw [List.length_append]; rfl
theorem sp_MR.uwm {w : z_W} {S : sp_S} {s : z_Z} {i : Nat} {c : Int32} {B : List UInt32} {L : List Int32} (R : sp_MR S s) (_ : z_mst w (z_tw s (z_fu (z_qw s) i (c, B)))) (hB : B = sp_u L) : sp_MR (sp_uR S i L) (z_tw s (z_fu (z_qw s) i (c, B))) := R.uw hB
theorem sp_MR.cpm {w : z_W} {S : sp_S} {s : z_Z} {i : Nat} {c : Int32} {f : Int32 × (Nat → Nat)} {B : List UInt32} {L : List Int32} (R : sp_MR S s) (_ : z_mst w (z_tw (z_tr s f) (z_fu (z_qw s) i (c, B)))) (hB : B = sp_u L) : sp_MR (sp_uR S i L) (z_tw (z_tr s f) (z_fu (z_qw s) i (c, B))) := (R.tr (x := f)).uw hB
end ZMr1
end ZM1
section ZM2
section ZMe2
variable {G : z_G} {l : Launch}
set_option maxRecDepth 100000 in
set_option maxHeartbeats 8000000 in
theorem cx_type (hl : l.stackTraces = false) (w : z_W) (S : sp_S) (s : z_Z) (r : Int32) (y : Int32) (h : z_mst w s) (R : sp_MR S s)  : z_Con G l mX11_type 22 2 33 w [.ref 1000, .int r, .int y] (fun v w9 => ∃ (r9 : Int32) (s9 : z_Z), v = some (.int r9) ∧ z_fm 59 w w9 ∧ z_mst w9 s9 ∧ s9.1.1 = sp_k23 r (sp_bv y) ((sp_R S (sp_i r)).length = 12) ∧ sp_MR (if sp_k23 r (sp_bv y) ((sp_R S (sp_i r)).length = 12) = 0 then sp_uR S (sp_i r) ((sp_R S (sp_i r)) ++ [y]) else S) s9 ∧ (sp_k23 r (sp_bv y) ((sp_R S (sp_i r)).length = 12) = 0 → r9 = nI ((sp_R S (sp_i r)) ++ [y]).length)) (fun _ _ => False) := by
  generalize hQ9 : (fun (v : Option Value) (w9 : z_W) => ∃ (r9 : Int32) (s9 : z_Z), v = some (.int r9) ∧ z_fm 59 w w9 ∧ z_mst w9 s9 ∧ s9.1.1 = sp_k23 r (sp_bv y) ((sp_R S (sp_i r)).length = 12) ∧ sp_MR (if sp_k23 r (sp_bv y) ((sp_R S (sp_i r)).length = 12) = 0 then sp_uR S (sp_i r) ((sp_R S (sp_i r)) ++ [y]) else S) s9 ∧ (sp_k23 r (sp_bv y) ((sp_R S (sp_i r)).length = 12) = 0 → r9 = nI ((sp_R S (sp_i r)) ++ [y]).length)) = Q9
  refine z_body hl (by decide) rfl (Nat.le_of_ble_eq_true rfl) ?_
  show z_J G l mX11_type _ 0 [(0, _), (1, _), (2, _)] [] _ 0 0
  refine j_aload_n dX11_type_0 rfl rfl ?_
  refine j_iload_n dX11_type_1 rfl ?_
  refine j_callS dX11_type_2 kX11_isNoTwo lX11_72 stX11_isNoTwo (cm_isNoTwo_r hl w _) (Nat.le_of_ble_eq_true rfl) ⟨(Nat.le_of_ble_eq_true rfl), (Nat.le_of_ble_eq_true rfl)⟩ rfl (Nat.le_of_ble_eq_true rfl) rfl rfl (fun _ _ h => h.elim) ?_
  rintro _ _ ⟨⟨rfl, hno1⟩ | ⟨rfl, i1, hi1, ht1, rfl⟩, hw1⟩
  · refine j_w w hw1 ?_
    refine j_iconst (v := 1) dX11_type_5 (by decide) ?_
    refine j_callV (q := (RX11, TX11, 8)) dX11_type_6 kX11_start lX11_76 inX11_start seX11_start h.m rfl (cm_start1 hl w _ _ h (by decide)) (Nat.le_of_ble_eq_true rfl) ⟨(Nat.le_of_ble_eq_true rfl), (Nat.le_of_ble_eq_true rfl)⟩ rfl (Nat.le_of_ble_eq_true rfl) rfl rfl (fun _ _ h => h.elim) ?_
    rintro _ w1 ⟨rfl, fm1, h1⟩
    have R1 := R.th (k := 1)
    refine j_if_ne (tgt := 56) dX11_type_9 (by decide) (fun c_9_11 => ?_) (fun c_9_11 => ?_)
    · refine j_iconst (v := 0) dX11_type_56 (by decide) ?_
      refine j_iret dX11_type_57 rfl rfl ?_ (Nat.le_of_ble_eq_true rfl) (Nat.le_of_ble_eq_true rfl)
      refine cast (congrFun (congrFun hQ9 _) _) ?_
      refine ⟨_, _, rfl, (fm1.le (q' := 59) (by decide)), h1, sp_X1 (k := 1) ?_ (by decide) rfl R1⟩
      first | (first | (refine sp_k23_1 ?_ <;> (first | (with_reducible assumption) | (refine Or.inl ?_; (with_reducible assumption)) | (refine Or.inr ?_; (with_reducible assumption)) | (refine Or.inr (Or.inl ?_); (with_reducible assumption)) | (refine Or.inr (Or.inr ?_); (with_reducible assumption)) | (refine Or.inr (Or.inr (Or.inl ?_)); (with_reducible assumption)) | (refine Or.inr (Or.inr (Or.inr ?_)); (with_reducible assumption)) | (refine fun z => Or.elim z ?_ ?_ <;> (with_reducible assumption)) | (refine fun z => Or.elim z ?_ (fun z => Or.elim z ?_ ?_) <;> (with_reducible assumption)) | (refine fun z => Or.elim z ?_ (fun z => Or.elim z ?_ (fun z => Or.elim z ?_ ?_)) <;> (with_reducible assumption)) | (refine fun z => Or.elim z (fun z9 => z9 ?_) ?_ <;> (first | (with_reducible assumption) | (refine Or.inl ?_; (with_reducible assumption)) | (refine Or.inr (Or.inl ?_); (with_reducible assumption)) | (refine Or.inr (Or.inr ?_); (with_reducible assumption)) | (refine Or.inr (Or.inr (Or.inl ?_)); (with_reducible assumption)) | (refine Or.inr (Or.inr (Or.inr ?_)); (with_reducible assumption)))) | (refine Or.inl (fun z => Or.elim z ?_ (fun z => Or.elim z ?_ ?_)) <;> (with_reducible assumption)) | (refine Or.inl (fun z => Or.elim z ?_ (fun z => Or.elim z ?_ (fun z => Or.elim z ?_ ?_))) <;> (with_reducible assumption))))) | (first | (refine sp_k23_1 ?_ <;> (first | assumption | (refine Or.inl ?_; assumption) | (refine Or.inr ?_; assumption) | (refine Or.inr (Or.inl ?_); assumption) | (refine Or.inr (Or.inr ?_); assumption) | (refine Or.inr (Or.inr (Or.inl ?_)); assumption) | (refine Or.inr (Or.inr (Or.inr ?_)); assumption) | (refine fun z => Or.elim z ?_ ?_ <;> assumption) | (refine fun z => Or.elim z ?_ (fun z => Or.elim z ?_ ?_) <;> assumption) | (refine fun z => Or.elim z ?_ (fun z => Or.elim z ?_ (fun z => Or.elim z ?_ ?_)) <;> assumption) | (refine fun z => Or.elim z (fun z9 => z9 ?_) ?_ <;> (first | assumption | (refine Or.inl ?_; assumption) | (refine Or.inr (Or.inl ?_); assumption) | (refine Or.inr (Or.inr ?_); assumption) | (refine Or.inr (Or.inr (Or.inl ?_)); assumption) | (refine Or.inr (Or.inr (Or.inr ?_)); assumption))) | (refine Or.inl (fun z => Or.elim z ?_ (fun z => Or.elim z ?_ ?_)) <;> assumption) | (refine Or.inl (fun z => Or.elim z ?_ (fun z => Or.elim z ?_ (fun z => Or.elim z ?_ ?_))) <;> assumption))))
    · exact absurd c_9_11 (by decide)
  · refine j_w w hw1 ?_
    have ei1 : sp_i (nI i1) = i1 := sp_in' (by omega)
    refine j_iconst (v := 1) dX11_type_5 (by decide) ?_
    refine j_callV (q := (RX11, TX11, 8)) dX11_type_6 kX11_start lX11_76 inX11_start seX11_start h.m rfl (cm_start0 hl w _ _ h) (Nat.le_of_ble_eq_true rfl) ⟨(Nat.le_of_ble_eq_true rfl), (Nat.le_of_ble_eq_true rfl)⟩ rfl (Nat.le_of_ble_eq_true rfl) rfl rfl (fun _ _ h => h.elim) ?_
    rintro _ w2 ⟨rfl, fm2, h2⟩
    have R2 := R.th (k := 0)
    refine j_if_ne (tgt := 56) dX11_type_9 (by decide) (fun c_9_24 => ?_) (fun c_9_24 => ?_)
    · exact absurd c_9_24 (by decide)
    · refine j_aload_n dX11_type_12 rfl rfl ?_
      refine j_iload_n dX11_type_13 rfl ?_
      refine j_callS dX11_type_14 kX11_isNoValue lX11_79 stX11_isNoValue (cm_isNoValue_r hl w2 _) (Nat.le_of_ble_eq_true rfl) ⟨(Nat.le_of_ble_eq_true rfl), (Nat.le_of_ble_eq_true rfl)⟩ rfl (Nat.le_of_ble_eq_true rfl) rfl rfl (fun _ _ h => h.elim) ?_
      rintro _ _ ⟨⟨rfl, hno2⟩ | ⟨rfl, hye2⟩, hw2⟩
      · refine j_w w2 hw2 ?_
        refine j_iconst (v := 2) dX11_type_17 (by decide) ?_
        refine j_callV (q := (RX11, TX11, 8)) dX11_type_18 kX11_refuse lX11_52 inX11_refuse seX11_refuse h2.m rfl (cm_refuse1 hl w2 _ _ h2 rfl (by decide)) (Nat.le_of_ble_eq_true rfl) ⟨(Nat.le_of_ble_eq_true rfl), (Nat.le_of_ble_eq_true rfl)⟩ rfl (Nat.le_of_ble_eq_true rfl) rfl rfl (fun _ _ h => h.elim) ?_
        rintro _ w3 ⟨rfl, fm3, h3⟩
        have R3 := R2.th (k := 2)
        refine j_if_ne (tgt := 56) dX11_type_21 (by decide) (fun c_21_35 => ?_) (fun c_21_35 => ?_)
        · refine j_iconst (v := 0) dX11_type_56 (by decide) ?_
          refine j_iret dX11_type_57 rfl rfl ?_ (Nat.le_of_ble_eq_true rfl) (Nat.le_of_ble_eq_true rfl)
          refine cast (congrFun (congrFun hQ9 _) _) ?_
          try rw [ei1]
          refine ⟨_, _, rfl, ((fm2.le (q' := 59) (by decide)).tr (fm3.le (q' := 59) (by decide))), h3, sp_X1 (k := 2) ?_ (by decide) rfl R3⟩
          first | (first | (refine sp_k23_2 ?_ ?_ <;> (first | (with_reducible assumption) | (refine Or.inl ?_; (with_reducible assumption)) | (refine Or.inr ?_; (with_reducible assumption)) | (refine Or.inr (Or.inl ?_); (with_reducible assumption)) | (refine Or.inr (Or.inr ?_); (with_reducible assumption)) | (refine Or.inr (Or.inr (Or.inl ?_)); (with_reducible assumption)) | (refine Or.inr (Or.inr (Or.inr ?_)); (with_reducible assumption)) | (refine fun z => Or.elim z ?_ ?_ <;> (with_reducible assumption)) | (refine fun z => Or.elim z ?_ (fun z => Or.elim z ?_ ?_) <;> (with_reducible assumption)) | (refine fun z => Or.elim z ?_ (fun z => Or.elim z ?_ (fun z => Or.elim z ?_ ?_)) <;> (with_reducible assumption)) | (refine fun z => Or.elim z (fun z9 => z9 ?_) ?_ <;> (first | (with_reducible assumption) | (refine Or.inl ?_; (with_reducible assumption)) | (refine Or.inr (Or.inl ?_); (with_reducible assumption)) | (refine Or.inr (Or.inr ?_); (with_reducible assumption)) | (refine Or.inr (Or.inr (Or.inl ?_)); (with_reducible assumption)) | (refine Or.inr (Or.inr (Or.inr ?_)); (with_reducible assumption)))) | (refine Or.inl (fun z => Or.elim z ?_ (fun z => Or.elim z ?_ ?_)) <;> (with_reducible assumption)) | (refine Or.inl (fun z => Or.elim z ?_ (fun z => Or.elim z ?_ (fun z => Or.elim z ?_ ?_))) <;> (with_reducible assumption))))) | (first | (refine sp_k23_2 ?_ ?_ <;> (first | assumption | (refine Or.inl ?_; assumption) | (refine Or.inr ?_; assumption) | (refine Or.inr (Or.inl ?_); assumption) | (refine Or.inr (Or.inr ?_); assumption) | (refine Or.inr (Or.inr (Or.inl ?_)); assumption) | (refine Or.inr (Or.inr (Or.inr ?_)); assumption) | (refine fun z => Or.elim z ?_ ?_ <;> assumption) | (refine fun z => Or.elim z ?_ (fun z => Or.elim z ?_ ?_) <;> assumption) | (refine fun z => Or.elim z ?_ (fun z => Or.elim z ?_ (fun z => Or.elim z ?_ ?_)) <;> assumption) | (refine fun z => Or.elim z (fun z9 => z9 ?_) ?_ <;> (first | assumption | (refine Or.inl ?_; assumption) | (refine Or.inr (Or.inl ?_); assumption) | (refine Or.inr (Or.inr ?_); assumption) | (refine Or.inr (Or.inr (Or.inl ?_)); assumption) | (refine Or.inr (Or.inr (Or.inr ?_)); assumption))) | (refine Or.inl (fun z => Or.elim z ?_ (fun z => Or.elim z ?_ ?_)) <;> assumption) | (refine Or.inl (fun z => Or.elim z ?_ (fun z => Or.elim z ?_ (fun z => Or.elim z ?_ ?_))) <;> assumption))))
        · exact absurd c_21_35 (by decide)
      · refine j_w w2 hw2 ?_
        refine j_iconst (v := 2) dX11_type_17 (by decide) ?_
        refine j_callV (q := (RX11, TX11, 8)) dX11_type_18 kX11_refuse lX11_52 inX11_refuse seX11_refuse h2.m rfl (cm_refuse0 hl w2 _ _ h2 rfl) (Nat.le_of_ble_eq_true rfl) ⟨(Nat.le_of_ble_eq_true rfl), (Nat.le_of_ble_eq_true rfl)⟩ rfl (Nat.le_of_ble_eq_true rfl) rfl rfl (fun _ _ h => h.elim) ?_
        rintro _ _ ⟨rfl, hw3⟩
        refine j_w w2 hw3 ?_
        refine j_if_ne (tgt := 56) dX11_type_21 (by decide) (fun c_21_48 => ?_) (fun c_21_48 => ?_)
        · exact absurd c_21_48 (by decide)
        · refine j_aload_n dX11_type_24 rfl rfl ?_
          refine j_aload_n dX11_type_25 rfl rfl ?_
          refine j_getf dX11_type_26 fX11_21 h2.m rfl ?_
          refine j_iload_n dX11_type_29 rfl ?_
          obtain ⟨lv5, -, lg5⟩ := z_li.cell h2.rows
          refine j_callV (q := (RJx4a65c, TJx4a65c, 3)) dX11_type_30 kJx4a65c_get_915e3 lX11_82 inJx4a65c_get_915e3 seJx4a65c_get_915e3 lg5 rfl (cl_get hl w2 41 1001 _ _ (i1) _ h2.rows (z_two2 (i := i1) (by omega))) (Nat.le_of_ble_eq_true rfl) ⟨(Nat.le_of_ble_eq_true rfl), (Nat.le_of_ble_eq_true rfl)⟩ rfl (Nat.le_of_ble_eq_true rfl) rfl rfl (fun _ _ h => h.elim) ?_
          rintro _ _ ⟨rfl, hw6⟩
          refine j_w w2 hw6 ?_
          refine j_castS dX11_type_33 (z_w 1341 ((lwt_6_3 6).trans rfl) (by decide +kernel)) (z_li.is (h2.rw (i := i1) (by omega)).1) ?_
          obtain ⟨lv8, -, lg8⟩ := z_li.cell (h2.rw (i := i1) (by omega)).1
          refine j_callV (q := (RJx4a65c, TJx4a65c, 3)) dX11_type_36 kJx4a65c_size_8abf5 lX11_86 inJx4a65c_size_8abf5 seJx4a65c_size_8abf5 lg8 rfl (cl_sizeW hl w2 (i1) (sp_R S (i1)) h2 R2 (by omega) rfl) (Nat.le_of_ble_eq_true rfl) ⟨(Nat.le_of_ble_eq_true rfl), (Nat.le_of_ble_eq_true rfl)⟩ rfl (Nat.le_of_ble_eq_true rfl) rfl rfl (fun _ _ h => h.elim) ?_
          rintro _ _ ⟨rfl, hw9⟩
          refine j_w w2 hw9 ?_
          have hz9 : (sp_R S (i1)).length ≤ 12 := R2.l12 h2 (i := i1) (by omega) rfl
          refine j_bipush (v := 12) dX11_type_39 (by decide) ?_
          refine j_icmp_ne (tgt := 48) dX11_type_41 (by decide) (fun c_41_65 => ?_) (fun c_41_65 => ?_)
          · have hb41 : ¬ (sp_R S (i1)).length = 12 := fun z => c_41_65 (show nI (sp_R S (i1)).length = nI 12 by rw [z])
            refine j_iconst (v := 0) dX11_type_48 (by decide) ?_
            refine j_iconst (v := 3) dX11_type_49 (by decide) ?_
            refine j_callV (q := (RX11, TX11, 8)) dX11_type_50 kX11_refuse lX11_52 inX11_refuse seX11_refuse h2.m rfl (cm_refuse0 hl w2 _ _ h2 rfl) (Nat.le_of_ble_eq_true rfl) ⟨(Nat.le_of_ble_eq_true rfl), (Nat.le_of_ble_eq_true rfl)⟩ rfl (Nat.le_of_ble_eq_true rfl) rfl rfl (fun _ _ h => h.elim) ?_
            rintro _ _ ⟨rfl, hw10⟩
            refine j_w w2 hw10 ?_
            refine j_if_eq (tgt := 58) dX11_type_53 (by decide) (fun c_53_72 => ?_) (fun c_53_72 => ?_)
            · refine j_aload_n dX11_type_58 rfl rfl ?_
              refine j_getf dX11_type_59 fX11_21 h2.m rfl ?_
              refine j_iload_n dX11_type_62 rfl ?_
              obtain ⟨lv12, -, lg12⟩ := z_li.cell h2.rows
              refine j_callV (q := (RJx4a65c, TJx4a65c, 3)) dX11_type_63 kJx4a65c_get_915e3 lX11_82 inJx4a65c_get_915e3 seJx4a65c_get_915e3 lg12 rfl (cl_get hl w2 41 1001 _ _ (i1) _ h2.rows (z_two2 (i := i1) (by omega))) (Nat.le_of_ble_eq_true rfl) ⟨(Nat.le_of_ble_eq_true rfl), (Nat.le_of_ble_eq_true rfl)⟩ rfl (Nat.le_of_ble_eq_true rfl) rfl rfl (fun _ _ h => h.elim) ?_
              rintro _ _ ⟨rfl, hw13⟩
              refine j_w w2 hw13 ?_
              refine j_castS dX11_type_66 (z_w 1341 ((lwt_6_3 6).trans rfl) (by decide +kernel)) (z_li.is (h2.rw (i := i1) (by omega)).1) ?_
              refine j_iload_n dX11_type_69 rfl ?_
              refine j_callS dX11_type_70 kJ6_valueOf_2dffe lX11_90 stJ6_valueOf_2dffe (cl_val hl w2 _) (Nat.le_of_ble_eq_true rfl) ⟨(Nat.le_of_ble_eq_true rfl), (Nat.le_of_ble_eq_true rfl)⟩ rfl (Nat.le_of_ble_eq_true rfl) rfl rfl (fun _ _ h => h.elim) ?_
              rintro _ _ ⟨rfl, hw15⟩
              refine j_w w2 hw15 ?_
              obtain ⟨lv16, -, lg16⟩ := z_li.cell (h2.rw (i := i1) (by omega)).1
              refine j_callV (q := (RJx4a65c, TJx4a65c, 3)) dX11_type_73 kJx4a65c_add_9ea2d lX11_44 inJx4a65c_add_9ea2d seJx4a65c_add_9ea2d lg16 rfl (cl_add hl w2 (11 + i1) _ _ _ 11 _ (h2.rw (i := i1) (by omega)).1 (by omega) h2.fn (by rw [z_bx_len, R2.wlB (by omega) rfl]; omega) (by decide) z_bx_el z_elF) (Nat.le_of_ble_eq_true rfl) ⟨(Nat.le_of_ble_eq_true rfl), (Nat.le_of_ble_eq_true rfl)⟩ rfl (Nat.le_of_ble_eq_true rfl) rfl rfl (fun _ _ h => h.elim) ?_
              rintro _ w4 ⟨rfl, fw4, mo4, hr4⟩
              rw [z_bx_app] at hr4
              have fm4 := fw4.fm (q := 56) (by omega)
              have h4 := h2.li11 (i0 := i1) (by omega) fw4 hr4 (by rw [List.length_append, R2.wlB (by omega) rfl]; show _ + 1 ≤ 12; omega)
              have R4 := R2.uw (i := i1) (c := mo4) (R2.wadd (x := y) (by omega) rfl)
              refine j_pop dX11_type_76 rfl ?_
              refine j_aload_n dX11_type_77 rfl rfl ?_
              refine j_getf dX11_type_78 fX11_21 h4.m rfl ?_
              refine j_iload_n dX11_type_81 rfl ?_
              obtain ⟨lv18, -, lg18⟩ := z_li.cell h4.rows
              refine j_callV (q := (RJx4a65c, TJx4a65c, 3)) dX11_type_82 kJx4a65c_get_915e3 lX11_82 inJx4a65c_get_915e3 seJx4a65c_get_915e3 lg18 rfl (cl_get hl w4 41 1001 _ _ (i1) _ h4.rows (z_two2 (i := i1) (by omega))) (Nat.le_of_ble_eq_true rfl) ⟨(Nat.le_of_ble_eq_true rfl), (Nat.le_of_ble_eq_true rfl)⟩ rfl (Nat.le_of_ble_eq_true rfl) rfl rfl (fun _ _ h => h.elim) ?_
              rintro _ _ ⟨rfl, hw19⟩
              refine j_w w4 hw19 ?_
              refine j_castS dX11_type_85 (z_w 1341 ((lwt_6_3 6).trans rfl) (by decide +kernel)) (z_li.is (h4.rw (i := i1) (by omega)).1) ?_
              obtain ⟨lv21, -, lg21⟩ := z_li.cell (h4.rw (i := i1) (by omega)).1
              refine j_callV (q := (RJx4a65c, TJx4a65c, 3)) dX11_type_88 kJx4a65c_size_8abf5 lX11_86 inJx4a65c_size_8abf5 seJx4a65c_size_8abf5 lg21 rfl (cl_sizeW hl w4 (i1) ((sp_R S (i1) ++ [y])) h4 R4 (by omega) z_fu_self) (Nat.le_of_ble_eq_true rfl) ⟨(Nat.le_of_ble_eq_true rfl), (Nat.le_of_ble_eq_true rfl)⟩ rfl (Nat.le_of_ble_eq_true rfl) rfl rfl (fun _ _ h => h.elim) ?_
              rintro _ _ ⟨rfl, hw22⟩
              refine j_w w4 hw22 ?_
              have hz22 : ((sp_R S (i1) ++ [y])).length ≤ 12 := R4.l12 h4 (i := i1) (by omega) z_fu_self
              refine j_iret dX11_type_91 rfl rfl ?_ (Nat.le_of_ble_eq_true rfl) (Nat.le_of_ble_eq_true rfl)
              refine cast (congrFun (congrFun hQ9 _) _) ?_
              try rw [ei1]
              refine ⟨_, _, rfl, ((fm2.le (q' := 59) (by decide)).tr (fm4.le (q' := 59) (by decide))), h4, sp_X0 ?_ rfl R4 rfl⟩
              first | (first | (refine sp_k23_0 ?_ ?_ ?_ <;> (first | (with_reducible assumption) | (refine Or.inl ?_; (with_reducible assumption)) | (refine Or.inr ?_; (with_reducible assumption)) | (refine Or.inr (Or.inl ?_); (with_reducible assumption)) | (refine Or.inr (Or.inr ?_); (with_reducible assumption)) | (refine Or.inr (Or.inr (Or.inl ?_)); (with_reducible assumption)) | (refine Or.inr (Or.inr (Or.inr ?_)); (with_reducible assumption)) | (refine fun z => Or.elim z ?_ ?_ <;> (with_reducible assumption)) | (refine fun z => Or.elim z ?_ (fun z => Or.elim z ?_ ?_) <;> (with_reducible assumption)) | (refine fun z => Or.elim z ?_ (fun z => Or.elim z ?_ (fun z => Or.elim z ?_ ?_)) <;> (with_reducible assumption)) | (refine fun z => Or.elim z (fun z9 => z9 ?_) ?_ <;> (first | (with_reducible assumption) | (refine Or.inl ?_; (with_reducible assumption)) | (refine Or.inr (Or.inl ?_); (with_reducible assumption)) | (refine Or.inr (Or.inr ?_); (with_reducible assumption)) | (refine Or.inr (Or.inr (Or.inl ?_)); (with_reducible assumption)) | (refine Or.inr (Or.inr (Or.inr ?_)); (with_reducible assumption)))) | (refine Or.inl (fun z => Or.elim z ?_ (fun z => Or.elim z ?_ ?_)) <;> (with_reducible assumption)) | (refine Or.inl (fun z => Or.elim z ?_ (fun z => Or.elim z ?_ (fun z => Or.elim z ?_ ?_))) <;> (with_reducible assumption))))) | (first | (refine sp_k23_0 ?_ ?_ ?_ <;> (first | assumption | (refine Or.inl ?_; assumption) | (refine Or.inr ?_; assumption) | (refine Or.inr (Or.inl ?_); assumption) | (refine Or.inr (Or.inr ?_); assumption) | (refine Or.inr (Or.inr (Or.inl ?_)); assumption) | (refine Or.inr (Or.inr (Or.inr ?_)); assumption) | (refine fun z => Or.elim z ?_ ?_ <;> assumption) | (refine fun z => Or.elim z ?_ (fun z => Or.elim z ?_ ?_) <;> assumption) | (refine fun z => Or.elim z ?_ (fun z => Or.elim z ?_ (fun z => Or.elim z ?_ ?_)) <;> assumption) | (refine fun z => Or.elim z (fun z9 => z9 ?_) ?_ <;> (first | assumption | (refine Or.inl ?_; assumption) | (refine Or.inr (Or.inl ?_); assumption) | (refine Or.inr (Or.inr ?_); assumption) | (refine Or.inr (Or.inr (Or.inl ?_)); assumption) | (refine Or.inr (Or.inr (Or.inr ?_)); assumption))) | (refine Or.inl (fun z => Or.elim z ?_ (fun z => Or.elim z ?_ ?_)) <;> assumption) | (refine Or.inl (fun z => Or.elim z ?_ (fun z => Or.elim z ?_ (fun z => Or.elim z ?_ ?_))) <;> assumption))))
            · exact absurd c_53_72 (by decide)
          · have hb41 : (sp_R S (i1)).length = 12 := nI_inj (a := (sp_R S (i1)).length) (b := 12) c_41_65 (by omega) (by omega)
            refine j_iconst (v := 1) dX11_type_44 (by decide) ?_
            refine j_goto (tgt := 49) dX11_type_45 (by decide) ?_
            refine j_iconst (v := 3) dX11_type_49 (by decide) ?_
            refine j_callV (q := (RX11, TX11, 8)) dX11_type_50 kX11_refuse lX11_52 inX11_refuse seX11_refuse h2.m rfl (cm_refuse1 hl w2 _ _ h2 rfl (by decide)) (Nat.le_of_ble_eq_true rfl) ⟨(Nat.le_of_ble_eq_true rfl), (Nat.le_of_ble_eq_true rfl)⟩ rfl (Nat.le_of_ble_eq_true rfl) rfl rfl (fun _ _ h => h.elim) ?_
            rintro _ w5 ⟨rfl, fm5, h5⟩
            have R5 := R2.th (k := 3)
            refine j_if_eq (tgt := 58) dX11_type_53 (by decide) (fun c_53_119 => ?_) (fun c_53_119 => ?_)
            · exact absurd c_53_119 (by decide)
            · refine j_iconst (v := 0) dX11_type_56 (by decide) ?_
              refine j_iret dX11_type_57 rfl rfl ?_ (Nat.le_of_ble_eq_true rfl) (Nat.le_of_ble_eq_true rfl)
              refine cast (congrFun (congrFun hQ9 _) _) ?_
              try rw [ei1]
              refine ⟨_, _, rfl, ((fm2.le (q' := 59) (by decide)).tr (fm5.le (q' := 59) (by decide))), h5, sp_X1 (k := 3) ?_ (by decide) rfl R5⟩
              first | (first | (refine sp_k23_3 ?_ ?_ ?_ <;> (first | (with_reducible assumption) | (refine Or.inl ?_; (with_reducible assumption)) | (refine Or.inr ?_; (with_reducible assumption)) | (refine Or.inr (Or.inl ?_); (with_reducible assumption)) | (refine Or.inr (Or.inr ?_); (with_reducible assumption)) | (refine Or.inr (Or.inr (Or.inl ?_)); (with_reducible assumption)) | (refine Or.inr (Or.inr (Or.inr ?_)); (with_reducible assumption)) | (refine fun z => Or.elim z ?_ ?_ <;> (with_reducible assumption)) | (refine fun z => Or.elim z ?_ (fun z => Or.elim z ?_ ?_) <;> (with_reducible assumption)) | (refine fun z => Or.elim z ?_ (fun z => Or.elim z ?_ (fun z => Or.elim z ?_ ?_)) <;> (with_reducible assumption)) | (refine fun z => Or.elim z (fun z9 => z9 ?_) ?_ <;> (first | (with_reducible assumption) | (refine Or.inl ?_; (with_reducible assumption)) | (refine Or.inr (Or.inl ?_); (with_reducible assumption)) | (refine Or.inr (Or.inr ?_); (with_reducible assumption)) | (refine Or.inr (Or.inr (Or.inl ?_)); (with_reducible assumption)) | (refine Or.inr (Or.inr (Or.inr ?_)); (with_reducible assumption)))) | (refine Or.inl (fun z => Or.elim z ?_ (fun z => Or.elim z ?_ ?_)) <;> (with_reducible assumption)) | (refine Or.inl (fun z => Or.elim z ?_ (fun z => Or.elim z ?_ (fun z => Or.elim z ?_ ?_))) <;> (with_reducible assumption))))) | (first | (refine sp_k23_3 ?_ ?_ ?_ <;> (first | assumption | (refine Or.inl ?_; assumption) | (refine Or.inr ?_; assumption) | (refine Or.inr (Or.inl ?_); assumption) | (refine Or.inr (Or.inr ?_); assumption) | (refine Or.inr (Or.inr (Or.inl ?_)); assumption) | (refine Or.inr (Or.inr (Or.inr ?_)); assumption) | (refine fun z => Or.elim z ?_ ?_ <;> assumption) | (refine fun z => Or.elim z ?_ (fun z => Or.elim z ?_ ?_) <;> assumption) | (refine fun z => Or.elim z ?_ (fun z => Or.elim z ?_ (fun z => Or.elim z ?_ ?_)) <;> assumption) | (refine fun z => Or.elim z (fun z9 => z9 ?_) ?_ <;> (first | assumption | (refine Or.inl ?_; assumption) | (refine Or.inr (Or.inl ?_); assumption) | (refine Or.inr (Or.inr ?_); assumption) | (refine Or.inr (Or.inr (Or.inl ?_)); assumption) | (refine Or.inr (Or.inr (Or.inr ?_)); assumption))) | (refine Or.inl (fun z => Or.elim z ?_ (fun z => Or.elim z ?_ ?_)) <;> assumption) | (refine Or.inl (fun z => Or.elim z ?_ (fun z => Or.elim z ?_ (fun z => Or.elim z ?_ ?_))) <;> assumption))))
theorem sp_dropR {S : sp_S} {s : z_Z} {i j : Nat} (hj : j + 1 ≤ (sp_R S i).length) (R : sp_MR (sp_uR S i (((sp_R S i).take ((sp_R S i).length - j)).eraseIdx (((sp_R S i).take ((sp_R S i).length - j)).length - 1))) s) : sp_MR (sp_uR S i ((sp_R S i).take ((sp_R S i).length - (j + 1)))) s := by
  have e : (sp_R S i).length - j = ((sp_R S i).length - (j + 1)) + 1 := by omega
  have e2 : ((sp_R S i).take ((sp_R S i).length - j)).length - 1 = (sp_R S i).length - (j + 1) := by rw [List.length_take]; omega
  rw [e2, e, sp_take_er (by omega)] at R
  exact R
set_option maxRecDepth 100000 in
set_option maxHeartbeats 8000000 in
theorem cx_drop (hl : l.stackTraces = false) (w : z_W) (S : sp_S) (s : z_Z) (r : Int32) (m : Int32) (h : z_mst w s) (R : sp_MR S s)  : z_Con G l mX11_drop 22 0 0 w [.ref 1000, .int r, .int m] (fun v w9 => ∃ (r9 : Int32) (s9 : z_Z), v = some (.int r9) ∧ z_fm 59 w w9 ∧ z_mst w9 s9 ∧ s9.1.1 = q_k22 r (m < 1 ∨ nI (sp_R S (sp_i r)).length < m) ∧ sp_MR (if q_k22 r (m < 1 ∨ nI (sp_R S (sp_i r)).length < m) = 0 then sp_uR S (sp_i r) ((sp_R S (sp_i r)).take ((sp_R S (sp_i r)).length - sp_i m)) else S) s9 ∧ (q_k22 r (m < 1 ∨ nI (sp_R S (sp_i r)).length < m) = 0 → r9 = nI ((sp_R S (sp_i r)).take ((sp_R S (sp_i r)).length - sp_i m)).length)) (fun _ _ => False) := by
  generalize hQ9 : (fun (v : Option Value) (w9 : z_W) => ∃ (r9 : Int32) (s9 : z_Z), v = some (.int r9) ∧ z_fm 59 w w9 ∧ z_mst w9 s9 ∧ s9.1.1 = q_k22 r (m < 1 ∨ nI (sp_R S (sp_i r)).length < m) ∧ sp_MR (if q_k22 r (m < 1 ∨ nI (sp_R S (sp_i r)).length < m) = 0 then sp_uR S (sp_i r) ((sp_R S (sp_i r)).take ((sp_R S (sp_i r)).length - sp_i m)) else S) s9 ∧ (q_k22 r (m < 1 ∨ nI (sp_R S (sp_i r)).length < m) = 0 → r9 = nI ((sp_R S (sp_i r)).take ((sp_R S (sp_i r)).length - sp_i m)).length)) = Q9
  refine z_body hl (by decide) rfl (Nat.le_of_ble_eq_true rfl) ?_
  show z_J G l mX11_drop _ 0 [(0, _), (1, _), (2, _)] [] _ 0 0
  refine j_aload_n dX11_drop_0 rfl rfl ?_
  refine j_iload_n dX11_drop_1 rfl ?_
  refine j_callS dX11_drop_2 kX11_isNoTwo lX11_72 stX11_isNoTwo (cm_isNoTwo_r hl w _) (Nat.le_of_ble_eq_true rfl) ⟨(Nat.le_of_ble_eq_true rfl), (Nat.le_of_ble_eq_true rfl)⟩ rfl (Nat.le_of_ble_eq_true rfl) rfl rfl (fun _ _ h => h.elim) ?_
  rintro _ _ ⟨⟨rfl, hno23⟩ | ⟨rfl, i23, hi23, ht23, rfl⟩, hw23⟩
  · refine j_w w hw23 ?_
    refine j_iconst (v := 1) dX11_drop_5 (by decide) ?_
    refine j_callV (q := (RX11, TX11, 8)) dX11_drop_6 kX11_start lX11_76 inX11_start seX11_start h.m rfl (cm_start1 hl w _ _ h (by decide)) (Nat.le_of_ble_eq_true rfl) ⟨(Nat.le_of_ble_eq_true rfl), (Nat.le_of_ble_eq_true rfl)⟩ rfl (Nat.le_of_ble_eq_true rfl) rfl rfl (fun _ _ h => h.elim) ?_
    rintro _ w1 ⟨rfl, fm1, h1⟩
    have R1 := R.th (k := 1)
    refine j_if_ne (tgt := 47) dX11_drop_9 (by decide) (fun c_9_11 => ?_) (fun c_9_11 => ?_)
    · refine j_iconst (v := 0) dX11_drop_47 (by decide) ?_
      refine j_iret dX11_drop_48 rfl rfl ?_ (Nat.le_of_ble_eq_true rfl) (Nat.le_of_ble_eq_true rfl)
      refine cast (congrFun (congrFun hQ9 _) _) ?_
      refine ⟨_, _, rfl, (fm1.le (q' := 59) (by decide)), h1, sp_X1 (k := 1) ?_ (by decide) rfl R1⟩
      first | (first | (refine sp_k22_1 ?_ <;> (first | (with_reducible assumption) | (refine Or.inl ?_; (with_reducible assumption)) | (refine Or.inr ?_; (with_reducible assumption)) | (refine Or.inr (Or.inl ?_); (with_reducible assumption)) | (refine Or.inr (Or.inr ?_); (with_reducible assumption)) | (refine Or.inr (Or.inr (Or.inl ?_)); (with_reducible assumption)) | (refine Or.inr (Or.inr (Or.inr ?_)); (with_reducible assumption)) | (refine fun z => Or.elim z ?_ ?_ <;> (with_reducible assumption)) | (refine fun z => Or.elim z ?_ (fun z => Or.elim z ?_ ?_) <;> (with_reducible assumption)) | (refine fun z => Or.elim z ?_ (fun z => Or.elim z ?_ (fun z => Or.elim z ?_ ?_)) <;> (with_reducible assumption)) | (refine fun z => Or.elim z (fun z9 => z9 ?_) ?_ <;> (first | (with_reducible assumption) | (refine Or.inl ?_; (with_reducible assumption)) | (refine Or.inr (Or.inl ?_); (with_reducible assumption)) | (refine Or.inr (Or.inr ?_); (with_reducible assumption)) | (refine Or.inr (Or.inr (Or.inl ?_)); (with_reducible assumption)) | (refine Or.inr (Or.inr (Or.inr ?_)); (with_reducible assumption)))) | (refine Or.inl (fun z => Or.elim z ?_ (fun z => Or.elim z ?_ ?_)) <;> (with_reducible assumption)) | (refine Or.inl (fun z => Or.elim z ?_ (fun z => Or.elim z ?_ (fun z => Or.elim z ?_ ?_))) <;> (with_reducible assumption))))) | (first | (refine sp_k22_1 ?_ <;> (first | assumption | (refine Or.inl ?_; assumption) | (refine Or.inr ?_; assumption) | (refine Or.inr (Or.inl ?_); assumption) | (refine Or.inr (Or.inr ?_); assumption) | (refine Or.inr (Or.inr (Or.inl ?_)); assumption) | (refine Or.inr (Or.inr (Or.inr ?_)); assumption) | (refine fun z => Or.elim z ?_ ?_ <;> assumption) | (refine fun z => Or.elim z ?_ (fun z => Or.elim z ?_ ?_) <;> assumption) | (refine fun z => Or.elim z ?_ (fun z => Or.elim z ?_ (fun z => Or.elim z ?_ ?_)) <;> assumption) | (refine fun z => Or.elim z (fun z9 => z9 ?_) ?_ <;> (first | assumption | (refine Or.inl ?_; assumption) | (refine Or.inr (Or.inl ?_); assumption) | (refine Or.inr (Or.inr ?_); assumption) | (refine Or.inr (Or.inr (Or.inl ?_)); assumption) | (refine Or.inr (Or.inr (Or.inr ?_)); assumption))) | (refine Or.inl (fun z => Or.elim z ?_ (fun z => Or.elim z ?_ ?_)) <;> assumption) | (refine Or.inl (fun z => Or.elim z ?_ (fun z => Or.elim z ?_ (fun z => Or.elim z ?_ ?_))) <;> assumption))))
    · exact absurd c_9_11 (by decide)
  · refine j_w w hw23 ?_
    have ei23 : sp_i (nI i23) = i23 := sp_in' (by omega)
    refine j_iconst (v := 1) dX11_drop_5 (by decide) ?_
    refine j_callV (q := (RX11, TX11, 8)) dX11_drop_6 kX11_start lX11_76 inX11_start seX11_start h.m rfl (cm_start0 hl w _ _ h) (Nat.le_of_ble_eq_true rfl) ⟨(Nat.le_of_ble_eq_true rfl), (Nat.le_of_ble_eq_true rfl)⟩ rfl (Nat.le_of_ble_eq_true rfl) rfl rfl (fun _ _ h => h.elim) ?_
    rintro _ w2 ⟨rfl, fm2, h2⟩
    have R2 := R.th (k := 0)
    refine j_if_ne (tgt := 47) dX11_drop_9 (by decide) (fun c_9_24 => ?_) (fun c_9_24 => ?_)
    · exact absurd c_9_24 (by decide)
    · refine j_aload_n dX11_drop_12 rfl rfl ?_
      refine j_iload_n dX11_drop_13 rfl ?_
      refine j_iconst (v := 1) dX11_drop_14 (by decide) ?_
      refine j_aload_n dX11_drop_15 rfl rfl ?_
      refine j_getf dX11_drop_16 fX11_21 h2.m rfl ?_
      refine j_iload_n dX11_drop_19 rfl ?_
      obtain ⟨lv25, -, lg25⟩ := z_li.cell h2.rows
      refine j_callV (q := (RJx4a65c, TJx4a65c, 3)) dX11_drop_20 kJx4a65c_get_915e3 lX11_82 inJx4a65c_get_915e3 seJx4a65c_get_915e3 lg25 rfl (cl_get hl w2 41 1001 _ _ (i23) _ h2.rows (z_two2 (i := i23) (by omega))) (Nat.le_of_ble_eq_true rfl) ⟨(Nat.le_of_ble_eq_true rfl), (Nat.le_of_ble_eq_true rfl)⟩ rfl (Nat.le_of_ble_eq_true rfl) rfl rfl (fun _ _ h => h.elim) ?_
      rintro _ _ ⟨rfl, hw26⟩
      refine j_w w2 hw26 ?_
      refine j_castS dX11_drop_23 (z_w 1341 ((lwt_6_3 6).trans rfl) (by decide +kernel)) (z_li.is (h2.rw (i := i23) (by omega)).1) ?_
      obtain ⟨lv28, -, lg28⟩ := z_li.cell (h2.rw (i := i23) (by omega)).1
      refine j_callV (q := (RJx4a65c, TJx4a65c, 3)) dX11_drop_26 kJx4a65c_size_8abf5 lX11_86 inJx4a65c_size_8abf5 seJx4a65c_size_8abf5 lg28 rfl (cl_sizeW hl w2 (i23) (sp_R S (i23)) h2 R2 (by omega) rfl) (Nat.le_of_ble_eq_true rfl) ⟨(Nat.le_of_ble_eq_true rfl), (Nat.le_of_ble_eq_true rfl)⟩ rfl (Nat.le_of_ble_eq_true rfl) rfl rfl (fun _ _ h => h.elim) ?_
      rintro _ _ ⟨rfl, hw29⟩
      refine j_w w2 hw29 ?_
      have hz29 : (sp_R S (i23)).length ≤ 12 := R2.l12 h2 (i := i23) (by omega) rfl
      refine j_callS dX11_drop_29 kX11_isIn lX11_59 stX11_isIn (cm_isIn_r hl w2 _ (1) (nI ((sp_R S (i23)).length))) (Nat.le_of_ble_eq_true rfl) ⟨(Nat.le_of_ble_eq_true rfl), (Nat.le_of_ble_eq_true rfl)⟩ rfl (Nat.le_of_ble_eq_true rfl) rfl rfl (fun _ _ h => h.elim) ?_
      rintro _ _ ⟨⟨rfl, hi30⟩ | ⟨rfl, hno30⟩, hw30⟩
      · refine j_w w2 hw30 ?_
        obtain ⟨i30, hj30, hq30, rfl⟩ := sp_nt1 (m := (sp_R S (i23)).length) rfl (by omega) hi30
        have ei30 : sp_i (nI i30) = i30 := sp_in' (by omega)
        refine j_if_ne (tgt := 39) dX11_drop_32 (by decide) (fun c_32_47 => ?_) (fun c_32_47 => ?_)
        · refine j_iconst (v := 0) dX11_drop_39 (by decide) ?_
          refine j_iconst (v := 2) dX11_drop_40 (by decide) ?_
          refine j_callV (q := (RX11, TX11, 8)) dX11_drop_41 kX11_refuse lX11_52 inX11_refuse seX11_refuse h2.m rfl (cm_refuse0 hl w2 _ _ h2 rfl) (Nat.le_of_ble_eq_true rfl) ⟨(Nat.le_of_ble_eq_true rfl), (Nat.le_of_ble_eq_true rfl)⟩ rfl (Nat.le_of_ble_eq_true rfl) rfl rfl (fun _ _ h => h.elim) ?_
          rintro _ _ ⟨rfl, hw31⟩
          refine j_w w2 hw31 ?_
          refine j_if_eq (tgt := 49) dX11_drop_44 (by decide) (fun c_44_53 => ?_) (fun c_44_53 => ?_)
          · refine j_iconst (v := 0) dX11_drop_49 (by decide) ?_
            refine j_istore_n (lo' := [(3, _), (0, _), (1, _), (2, _)]) dX11_drop_50 (by decide) rfl ?_
            have loop51 : ∀ (n9 : Nat) (w3 : z_W) (s1 : z_Z) (j : Nat), (j ≤ i30) → (i30 < j + n9) → (((sp_R S i23).take ((sp_R S i23).length - j)).length = (sp_R S i23).length - j) → (sp_MR (sp_uR S i23 ((sp_R S i23).take ((sp_R S i23).length - j))) s1) → (s1.1.1 = 0) → (z_mst w3 s1) → (z_fm 59 w w3) → z_J G l mX11_drop (22, 0, 0, w, Q9, (fun _ _ => False)) 51 [(0, .ref 1000), (1, .int (nI i23)), (2, .int (nI i30)), (3, .int (nI j))] [] w3 0 0 := by
              intro n9
              induction n9 with
              | zero => intro w3 s1 j hj hf9 hlt hR hth hm hfm; exact absurd hf9 (by omega)
              | succ n9 ih =>
                intro w3 s1 j hj hf9 hlt hR hth hm hfm
                refine j_iload_n dX11_drop_51 rfl ?_
                refine j_iload_n dX11_drop_52 rfl ?_
                refine j_icmp_ge (tgt := 93) dX11_drop_53 (by decide) (fun c_53_64 => ?_) (fun c_53_64 => ?_)
                · have hb53 : i30 ≤ j := (nI_leI (a := i30) (b := j) (by omega) (by omega)).mp c_53_64
                  refine j_aload_n dX11_drop_93 rfl rfl ?_
                  refine j_getf dX11_drop_94 fX11_21 hm.m rfl ?_
                  refine j_iload_n dX11_drop_97 rfl ?_
                  obtain ⟨lv33, -, lg33⟩ := z_li.cell hm.rows
                  refine j_callV (q := (RJx4a65c, TJx4a65c, 3)) dX11_drop_98 kJx4a65c_get_915e3 lX11_82 inJx4a65c_get_915e3 seJx4a65c_get_915e3 lg33 rfl (cl_get hl w3 41 1001 _ _ (i23) _ hm.rows (z_two2 (i := i23) (by omega))) (Nat.le_of_ble_eq_true rfl) ⟨(Nat.le_of_ble_eq_true rfl), (Nat.le_of_ble_eq_true rfl)⟩ rfl (Nat.le_of_ble_eq_true rfl) rfl rfl (fun _ _ h => h.elim) ?_
                  rintro _ _ ⟨rfl, hw34⟩
                  refine j_w w3 hw34 ?_
                  refine j_castS dX11_drop_101 (z_w 1341 ((lwt_6_3 6).trans rfl) (by decide +kernel)) (z_li.is (hm.rw (i := i23) (by omega)).1) ?_
                  obtain ⟨lv36, -, lg36⟩ := z_li.cell (hm.rw (i := i23) (by omega)).1
                  refine j_callV (q := (RJx4a65c, TJx4a65c, 3)) dX11_drop_104 kJx4a65c_size_8abf5 lX11_86 inJx4a65c_size_8abf5 seJx4a65c_size_8abf5 lg36 rfl (cl_sizeW hl w3 (i23) (((sp_R S i23).take ((sp_R S i23).length - j))) hm hR (by omega) z_fu_self) (Nat.le_of_ble_eq_true rfl) ⟨(Nat.le_of_ble_eq_true rfl), (Nat.le_of_ble_eq_true rfl)⟩ rfl (Nat.le_of_ble_eq_true rfl) rfl rfl (fun _ _ h => h.elim) ?_
                  rintro _ _ ⟨rfl, hw37⟩
                  refine j_w w3 hw37 ?_
                  have hz37 : (((sp_R S i23).take ((sp_R S i23).length - j))).length ≤ 12 := hR.l12 hm (i := i23) (by omega) z_fu_self
                  refine j_iret dX11_drop_107 rfl rfl ?_ (Nat.le_of_ble_eq_true rfl) (Nat.le_of_ble_eq_true rfl)
                  refine cast (congrFun (congrFun hQ9 _) _) ?_
                  try rw [ei23]
                  try rw [ei30]
                  obtain rfl : j = i30 := by omega
                  refine ⟨_, _, rfl, hfm, hm, sp_X0 ?_ hth hR rfl⟩
                  first | (first | (refine sp_k22_0 ?_ ?_ <;> (first | (with_reducible assumption) | (refine Or.inl ?_; (with_reducible assumption)) | (refine Or.inr ?_; (with_reducible assumption)) | (refine Or.inr (Or.inl ?_); (with_reducible assumption)) | (refine Or.inr (Or.inr ?_); (with_reducible assumption)) | (refine Or.inr (Or.inr (Or.inl ?_)); (with_reducible assumption)) | (refine Or.inr (Or.inr (Or.inr ?_)); (with_reducible assumption)) | (refine fun z => Or.elim z ?_ ?_ <;> (with_reducible assumption)) | (refine fun z => Or.elim z ?_ (fun z => Or.elim z ?_ ?_) <;> (with_reducible assumption)) | (refine fun z => Or.elim z ?_ (fun z => Or.elim z ?_ (fun z => Or.elim z ?_ ?_)) <;> (with_reducible assumption)) | (refine fun z => Or.elim z (fun z9 => z9 ?_) ?_ <;> (first | (with_reducible assumption) | (refine Or.inl ?_; (with_reducible assumption)) | (refine Or.inr (Or.inl ?_); (with_reducible assumption)) | (refine Or.inr (Or.inr ?_); (with_reducible assumption)) | (refine Or.inr (Or.inr (Or.inl ?_)); (with_reducible assumption)) | (refine Or.inr (Or.inr (Or.inr ?_)); (with_reducible assumption)))) | (refine Or.inl (fun z => Or.elim z ?_ (fun z => Or.elim z ?_ ?_)) <;> (with_reducible assumption)) | (refine Or.inl (fun z => Or.elim z ?_ (fun z => Or.elim z ?_ (fun z => Or.elim z ?_ ?_))) <;> (with_reducible assumption))))) | (first | (refine sp_k22_0 ?_ ?_ <;> (first | assumption | (refine Or.inl ?_; assumption) | (refine Or.inr ?_; assumption) | (refine Or.inr (Or.inl ?_); assumption) | (refine Or.inr (Or.inr ?_); assumption) | (refine Or.inr (Or.inr (Or.inl ?_)); assumption) | (refine Or.inr (Or.inr (Or.inr ?_)); assumption) | (refine fun z => Or.elim z ?_ ?_ <;> assumption) | (refine fun z => Or.elim z ?_ (fun z => Or.elim z ?_ ?_) <;> assumption) | (refine fun z => Or.elim z ?_ (fun z => Or.elim z ?_ (fun z => Or.elim z ?_ ?_)) <;> assumption) | (refine fun z => Or.elim z (fun z9 => z9 ?_) ?_ <;> (first | assumption | (refine Or.inl ?_; assumption) | (refine Or.inr (Or.inl ?_); assumption) | (refine Or.inr (Or.inr ?_); assumption) | (refine Or.inr (Or.inr (Or.inl ?_)); assumption) | (refine Or.inr (Or.inr (Or.inr ?_)); assumption))) | (refine Or.inl (fun z => Or.elim z ?_ (fun z => Or.elim z ?_ ?_)) <;> assumption) | (refine Or.inl (fun z => Or.elim z ?_ (fun z => Or.elim z ?_ (fun z => Or.elim z ?_ ?_))) <;> assumption))))
                · have hb53 : j < i30 := Nat.not_le.mp (fun z => c_53_64 ((nI_leI (a := i30) (b := j) (by omega) (by omega)).mpr z))
                  refine j_aload_n dX11_drop_56 rfl rfl ?_
                  refine j_getf dX11_drop_57 fX11_21 hm.m rfl ?_
                  refine j_iload_n dX11_drop_60 rfl ?_
                  obtain ⟨lv39, -, lg39⟩ := z_li.cell hm.rows
                  refine j_callV (q := (RJx4a65c, TJx4a65c, 3)) dX11_drop_61 kJx4a65c_get_915e3 lX11_82 inJx4a65c_get_915e3 seJx4a65c_get_915e3 lg39 rfl (cl_get hl w3 41 1001 _ _ (i23) _ hm.rows (z_two2 (i := i23) (by omega))) (Nat.le_of_ble_eq_true rfl) ⟨(Nat.le_of_ble_eq_true rfl), (Nat.le_of_ble_eq_true rfl)⟩ rfl (Nat.le_of_ble_eq_true rfl) rfl rfl (fun _ _ h => h.elim) ?_
                  rintro _ _ ⟨rfl, hw40⟩
                  refine j_w w3 hw40 ?_
                  refine j_castS dX11_drop_64 (z_w 1341 ((lwt_6_3 6).trans rfl) (by decide +kernel)) (z_li.is (hm.rw (i := i23) (by omega)).1) ?_
                  refine j_aload_n dX11_drop_67 rfl rfl ?_
                  refine j_getf dX11_drop_68 fX11_21 hm.m rfl ?_
                  refine j_iload_n dX11_drop_71 rfl ?_
                  obtain ⟨lv43, -, lg43⟩ := z_li.cell hm.rows
                  refine j_callV (q := (RJx4a65c, TJx4a65c, 3)) dX11_drop_72 kJx4a65c_get_915e3 lX11_82 inJx4a65c_get_915e3 seJx4a65c_get_915e3 lg43 rfl (cl_get hl w3 41 1001 _ _ (i23) _ hm.rows (z_two2 (i := i23) (by omega))) (Nat.le_of_ble_eq_true rfl) ⟨(Nat.le_of_ble_eq_true rfl), (Nat.le_of_ble_eq_true rfl)⟩ rfl (Nat.le_of_ble_eq_true rfl) rfl rfl (fun _ _ h => h.elim) ?_
                  rintro _ _ ⟨rfl, hw44⟩
                  refine j_w w3 hw44 ?_
                  refine j_castS dX11_drop_75 (z_w 1341 ((lwt_6_3 6).trans rfl) (by decide +kernel)) (z_li.is (hm.rw (i := i23) (by omega)).1) ?_
                  obtain ⟨lv46, -, lg46⟩ := z_li.cell (hm.rw (i := i23) (by omega)).1
                  refine j_callV (q := (RJx4a65c, TJx4a65c, 3)) dX11_drop_78 kJx4a65c_size_8abf5 lX11_86 inJx4a65c_size_8abf5 seJx4a65c_size_8abf5 lg46 rfl (cl_sizeW hl w3 (i23) (((sp_R S i23).take ((sp_R S i23).length - j))) hm hR (by omega) z_fu_self) (Nat.le_of_ble_eq_true rfl) ⟨(Nat.le_of_ble_eq_true rfl), (Nat.le_of_ble_eq_true rfl)⟩ rfl (Nat.le_of_ble_eq_true rfl) rfl rfl (fun _ _ h => h.elim) ?_
                  rintro _ _ ⟨rfl, hw47⟩
                  refine j_w w3 hw47 ?_
                  have hz47 : (((sp_R S i23).take ((sp_R S i23).length - j))).length ≤ 12 := hR.l12 hm (i := i23) (by omega) z_fu_self
                  refine j_iconst (v := 1) dX11_drop_81 (by decide) ?_
                  refine j_isub dX11_drop_82 ?_
                  refine j_top (congrArg Value.int (pk_sub (a := (((sp_R S i23).take ((sp_R S i23).length - j))).length) (b := 1) (by omega))) ?_
                  obtain ⟨lv48, -, lg48⟩ := z_li.cell (hm.rw (i := i23) (by omega)).1
                  refine j_callV (q := (RJx4a65c, TJx4a65c, 3)) dX11_drop_83 kJx4a65c_remove_915e3 lX11_96 inJx4a65c_remove_915e3 seJx4a65c_remove_915e3 lg48 rfl (cl_rem hl w3 _ _ _ _ (((((sp_R S i23).take ((sp_R S i23).length - j))).length - 1)) _ (hm.rw (i := i23) (by omega)).1 (z_bx_get (by rw [hR.wlB (by omega) z_fu_self]; omega)) hm.fn z_bx_el) (Nat.le_of_ble_eq_true rfl) ⟨(Nat.le_of_ble_eq_true rfl), (Nat.le_of_ble_eq_true rfl)⟩ rfl (Nat.le_of_ble_eq_true rfl) rfl rfl (fun _ _ h => h.elim) ?_
                  rintro _ w4 ⟨rfl, fw4, mo4, hr4⟩
                  rw [z_bx_rem] at hr4
                  have fm4 := fw4.fm (q := 56) (by omega)
                  have h4 := hm.li11 (i0 := i23) (by omega) fw4 hr4 (Nat.le_trans (List.eraseIdx_sublist ..).length_le (hm.rw (i := i23) (by omega)).2)
                  have R4 := hR.uw (i := i23) (c := mo4) (hR.wrem (k := ((((sp_R S i23).take ((sp_R S i23).length - j))).length - 1)) (by omega) z_fu_self)
                  rw [sp_uRR] at R4
                  refine j_pop dX11_drop_86 rfl ?_
                  refine j_iinc (lo' := [(3, _), (0, _), (1, _), (2, _)]) dX11_drop_87 rfl (z_inc _) (by decide) rfl ?_
                  refine j_goto (tgt := 51) dX11_drop_90 (by decide) ?_
                  exact j_lo2 (ih w4 _ (j + 1) (by omega) (by omega) (by rw [List.length_take]; omega) (sp_dropR (by omega) R4) (by exact hth) h4 (hfm.tr (fm4.le (q' := 59) (by decide)))) (z_q1 rfl (z_q1 rfl (z_q1 rfl (z_q1 rfl z_q0))))
            exact j_lo2 (loop51 (i30 + 1) w2 _ 0 (by omega) (by omega) (by rw [Nat.sub_zero, List.take_length]) (by rw [Nat.sub_zero, List.take_length, sp_uR_id]; exact R2) (by exact rfl) h2 (fm2.le (q' := 59) (by decide))) (z_q1 rfl (z_q1 rfl (z_q1 rfl (z_q1 rfl z_q0))))
          · exact absurd c_44_53 (by decide)
        · exact absurd c_32_47 (by decide)
      · refine j_w w2 hw30 ?_
        refine j_if_ne (tgt := 39) dX11_drop_32 (by decide) (fun c_32_127 => ?_) (fun c_32_127 => ?_)
        · exact absurd c_32_127 (by decide)
        · refine j_iconst (v := 1) dX11_drop_35 (by decide) ?_
          refine j_goto (tgt := 40) dX11_drop_36 (by decide) ?_
          refine j_iconst (v := 2) dX11_drop_40 (by decide) ?_
          refine j_callV (q := (RX11, TX11, 8)) dX11_drop_41 kX11_refuse lX11_52 inX11_refuse seX11_refuse h2.m rfl (cm_refuse1 hl w2 _ _ h2 rfl (by decide)) (Nat.le_of_ble_eq_true rfl) ⟨(Nat.le_of_ble_eq_true rfl), (Nat.le_of_ble_eq_true rfl)⟩ rfl (Nat.le_of_ble_eq_true rfl) rfl rfl (fun _ _ h => h.elim) ?_
          rintro _ w5 ⟨rfl, fm5, h5⟩
          have R5 := R2.th (k := 2)
          refine j_if_eq (tgt := 49) dX11_drop_44 (by decide) (fun c_44_135 => ?_) (fun c_44_135 => ?_)
          · exact absurd c_44_135 (by decide)
          · refine j_iconst (v := 0) dX11_drop_47 (by decide) ?_
            refine j_iret dX11_drop_48 rfl rfl ?_ (Nat.le_of_ble_eq_true rfl) (Nat.le_of_ble_eq_true rfl)
            refine cast (congrFun (congrFun hQ9 _) _) ?_
            try rw [ei23]
            refine ⟨_, _, rfl, ((fm2.le (q' := 59) (by decide)).tr (fm5.le (q' := 59) (by decide))), h5, sp_X1 (k := 2) ?_ (by decide) rfl R5⟩
            first | (first | (refine sp_k22_2 ?_ ?_ <;> (first | (with_reducible assumption) | (refine Or.inl ?_; (with_reducible assumption)) | (refine Or.inr ?_; (with_reducible assumption)) | (refine Or.inr (Or.inl ?_); (with_reducible assumption)) | (refine Or.inr (Or.inr ?_); (with_reducible assumption)) | (refine Or.inr (Or.inr (Or.inl ?_)); (with_reducible assumption)) | (refine Or.inr (Or.inr (Or.inr ?_)); (with_reducible assumption)) | (refine fun z => Or.elim z ?_ ?_ <;> (with_reducible assumption)) | (refine fun z => Or.elim z ?_ (fun z => Or.elim z ?_ ?_) <;> (with_reducible assumption)) | (refine fun z => Or.elim z ?_ (fun z => Or.elim z ?_ (fun z => Or.elim z ?_ ?_)) <;> (with_reducible assumption)) | (refine fun z => Or.elim z (fun z9 => z9 ?_) ?_ <;> (first | (with_reducible assumption) | (refine Or.inl ?_; (with_reducible assumption)) | (refine Or.inr (Or.inl ?_); (with_reducible assumption)) | (refine Or.inr (Or.inr ?_); (with_reducible assumption)) | (refine Or.inr (Or.inr (Or.inl ?_)); (with_reducible assumption)) | (refine Or.inr (Or.inr (Or.inr ?_)); (with_reducible assumption)))) | (refine Or.inl (fun z => Or.elim z ?_ (fun z => Or.elim z ?_ ?_)) <;> (with_reducible assumption)) | (refine Or.inl (fun z => Or.elim z ?_ (fun z => Or.elim z ?_ (fun z => Or.elim z ?_ ?_))) <;> (with_reducible assumption))))) | (first | (refine sp_k22_2 ?_ ?_ <;> (first | assumption | (refine Or.inl ?_; assumption) | (refine Or.inr ?_; assumption) | (refine Or.inr (Or.inl ?_); assumption) | (refine Or.inr (Or.inr ?_); assumption) | (refine Or.inr (Or.inr (Or.inl ?_)); assumption) | (refine Or.inr (Or.inr (Or.inr ?_)); assumption) | (refine fun z => Or.elim z ?_ ?_ <;> assumption) | (refine fun z => Or.elim z ?_ (fun z => Or.elim z ?_ ?_) <;> assumption) | (refine fun z => Or.elim z ?_ (fun z => Or.elim z ?_ (fun z => Or.elim z ?_ ?_)) <;> assumption) | (refine fun z => Or.elim z (fun z9 => z9 ?_) ?_ <;> (first | assumption | (refine Or.inl ?_; assumption) | (refine Or.inr (Or.inl ?_); assumption) | (refine Or.inr (Or.inr ?_); assumption) | (refine Or.inr (Or.inr (Or.inl ?_)); assumption) | (refine Or.inr (Or.inr (Or.inr ?_)); assumption))) | (refine Or.inl (fun z => Or.elim z ?_ (fun z => Or.elim z ?_ ?_)) <;> assumption) | (refine Or.inl (fun z => Or.elim z ?_ (fun z => Or.elim z ?_ (fun z => Or.elim z ?_ ?_))) <;> assumption))))
set_option maxRecDepth 100000 in
set_option maxHeartbeats 8000000 in
theorem cx_fix (hl : l.stackTraces = false) (w : z_W) (S : sp_S) (s : z_Z) (r : Int32) (b : Bool) (h : z_mst w s) (R : sp_MR S s)  : z_Con G l mX11_fix 20 0 0 w [.ref 1000, .int r, .int (z_bi b)] (fun v w9 => ∃ (r9 : Int32) (s9 : z_Z), v = some (.int r9) ∧ z_fm 59 w w9 ∧ z_mst w9 s9 ∧ s9.1.1 = q_k2 r ∧ sp_MR (if q_k2 r = 0 then sp_uF S (sp_i r) b else S) s9 ∧ (q_k2 r = 0 → r9 = z_bi (sp_F S (sp_i r)))) (fun _ _ => False) := by
  generalize hQ9 : (fun (v : Option Value) (w9 : z_W) => ∃ (r9 : Int32) (s9 : z_Z), v = some (.int r9) ∧ z_fm 59 w w9 ∧ z_mst w9 s9 ∧ s9.1.1 = q_k2 r ∧ sp_MR (if q_k2 r = 0 then sp_uF S (sp_i r) b else S) s9 ∧ (q_k2 r = 0 → r9 = z_bi (sp_F S (sp_i r)))) = Q9
  refine z_body hl (by decide) rfl (Nat.le_of_ble_eq_true rfl) ?_
  show z_J G l mX11_fix _ 0 [(0, _), (1, _), (2, _)] [] _ 0 0
  refine j_aload_n dX11_fix_0 rfl rfl ?_
  refine j_iload_n dX11_fix_1 rfl ?_
  refine j_callS dX11_fix_2 kX11_isNoTwo lX11_72 stX11_isNoTwo (cm_isNoTwo_r hl w _) (Nat.le_of_ble_eq_true rfl) ⟨(Nat.le_of_ble_eq_true rfl), (Nat.le_of_ble_eq_true rfl)⟩ rfl (Nat.le_of_ble_eq_true rfl) rfl rfl (fun _ _ h => h.elim) ?_
  rintro _ _ ⟨⟨rfl, hno49⟩ | ⟨rfl, i49, hi49, ht49, rfl⟩, hw49⟩
  · refine j_w w hw49 ?_
    refine j_iconst (v := 1) dX11_fix_5 (by decide) ?_
    refine j_callV (q := (RX11, TX11, 8)) dX11_fix_6 kX11_start lX11_76 inX11_start seX11_start h.m rfl (cm_start1 hl w _ _ h (by decide)) (Nat.le_of_ble_eq_true rfl) ⟨(Nat.le_of_ble_eq_true rfl), (Nat.le_of_ble_eq_true rfl)⟩ rfl (Nat.le_of_ble_eq_true rfl) rfl rfl (fun _ _ h => h.elim) ?_
    rintro _ w1 ⟨rfl, fm1, h1⟩
    have R1 := R.th (k := 1)
    refine j_if_eq (tgt := 14) dX11_fix_9 (by decide) (fun c_9_11 => ?_) (fun c_9_11 => ?_)
    · exact absurd c_9_11 (by decide)
    · refine j_iconst (v := 0) dX11_fix_12 (by decide) ?_
      refine j_iret dX11_fix_13 rfl rfl ?_ (Nat.le_of_ble_eq_true rfl) (Nat.le_of_ble_eq_true rfl)
      refine cast (congrFun (congrFun hQ9 _) _) ?_
      refine ⟨_, _, rfl, (fm1.le (q' := 59) (by decide)), h1, sp_X1 (k := 1) ?_ (by decide) rfl R1⟩
      first | (first | (refine sp_k2_1 ?_ <;> (first | (with_reducible assumption) | (refine Or.inl ?_; (with_reducible assumption)) | (refine Or.inr ?_; (with_reducible assumption)) | (refine Or.inr (Or.inl ?_); (with_reducible assumption)) | (refine Or.inr (Or.inr ?_); (with_reducible assumption)) | (refine Or.inr (Or.inr (Or.inl ?_)); (with_reducible assumption)) | (refine Or.inr (Or.inr (Or.inr ?_)); (with_reducible assumption)) | (refine fun z => Or.elim z ?_ ?_ <;> (with_reducible assumption)) | (refine fun z => Or.elim z ?_ (fun z => Or.elim z ?_ ?_) <;> (with_reducible assumption)) | (refine fun z => Or.elim z ?_ (fun z => Or.elim z ?_ (fun z => Or.elim z ?_ ?_)) <;> (with_reducible assumption)) | (refine fun z => Or.elim z (fun z9 => z9 ?_) ?_ <;> (first | (with_reducible assumption) | (refine Or.inl ?_; (with_reducible assumption)) | (refine Or.inr (Or.inl ?_); (with_reducible assumption)) | (refine Or.inr (Or.inr ?_); (with_reducible assumption)) | (refine Or.inr (Or.inr (Or.inl ?_)); (with_reducible assumption)) | (refine Or.inr (Or.inr (Or.inr ?_)); (with_reducible assumption)))) | (refine Or.inl (fun z => Or.elim z ?_ (fun z => Or.elim z ?_ ?_)) <;> (with_reducible assumption)) | (refine Or.inl (fun z => Or.elim z ?_ (fun z => Or.elim z ?_ (fun z => Or.elim z ?_ ?_))) <;> (with_reducible assumption))))) | (first | (refine sp_k2_1 ?_ <;> (first | assumption | (refine Or.inl ?_; assumption) | (refine Or.inr ?_; assumption) | (refine Or.inr (Or.inl ?_); assumption) | (refine Or.inr (Or.inr ?_); assumption) | (refine Or.inr (Or.inr (Or.inl ?_)); assumption) | (refine Or.inr (Or.inr (Or.inr ?_)); assumption) | (refine fun z => Or.elim z ?_ ?_ <;> assumption) | (refine fun z => Or.elim z ?_ (fun z => Or.elim z ?_ ?_) <;> assumption) | (refine fun z => Or.elim z ?_ (fun z => Or.elim z ?_ (fun z => Or.elim z ?_ ?_)) <;> assumption) | (refine fun z => Or.elim z (fun z9 => z9 ?_) ?_ <;> (first | assumption | (refine Or.inl ?_; assumption) | (refine Or.inr (Or.inl ?_); assumption) | (refine Or.inr (Or.inr ?_); assumption) | (refine Or.inr (Or.inr (Or.inl ?_)); assumption) | (refine Or.inr (Or.inr (Or.inr ?_)); assumption))) | (refine Or.inl (fun z => Or.elim z ?_ (fun z => Or.elim z ?_ ?_)) <;> assumption) | (refine Or.inl (fun z => Or.elim z ?_ (fun z => Or.elim z ?_ (fun z => Or.elim z ?_ ?_))) <;> assumption))))
  · refine j_w w hw49 ?_
    have ei49 : sp_i (nI i49) = i49 := sp_in' (by omega)
    refine j_iconst (v := 1) dX11_fix_5 (by decide) ?_
    refine j_callV (q := (RX11, TX11, 8)) dX11_fix_6 kX11_start lX11_76 inX11_start seX11_start h.m rfl (cm_start0 hl w _ _ h) (Nat.le_of_ble_eq_true rfl) ⟨(Nat.le_of_ble_eq_true rfl), (Nat.le_of_ble_eq_true rfl)⟩ rfl (Nat.le_of_ble_eq_true rfl) rfl rfl (fun _ _ h => h.elim) ?_
    rintro _ w2 ⟨rfl, fm2, h2⟩
    have R2 := R.th (k := 0)
    refine j_if_eq (tgt := 14) dX11_fix_9 (by decide) (fun c_9_24 => ?_) (fun c_9_24 => ?_)
    · refine j_aload_n dX11_fix_14 rfl rfl ?_
      refine j_getf dX11_fix_15 fX11_25 h2.m rfl ?_
      refine j_iload_n dX11_fix_18 rfl ?_
      refine j_zald dX11_fix_19 h2.fx (vp_in_nI (by omega) (by omega)) rfl ?_
      refine j_top (congrArg Value.int (show _ = z_bi (sp_F S i49) from by rw [z_cla (by omega)]; exact R2.f (by omega))) ?_
      refine j_callS dX11_fix_20 kX11_one lX11_68 stX11_one (cm_one_r hl w2 (sp_F S i49)) (Nat.le_of_ble_eq_true rfl) ⟨(Nat.le_of_ble_eq_true rfl), (Nat.le_of_ble_eq_true rfl)⟩ rfl (Nat.le_of_ble_eq_true rfl) rfl rfl (fun _ _ h => h.elim) ?_
      rintro _ _ ⟨rfl, hw50⟩
      refine j_w w2 hw50 ?_
      refine j_istore_n (lo' := [(3, _), (0, _), (1, _), (2, _)]) dX11_fix_23 (by decide) rfl ?_
      refine j_aload_n dX11_fix_24 rfl rfl ?_
      refine j_getf dX11_fix_25 fX11_25 h2.m rfl ?_
      refine j_iload_n dX11_fix_28 rfl ?_
      refine j_iload_n dX11_fix_29 rfl ?_
      refine j_zsto (w' := _) dX11_fix_30 h2.fx (vp_in_nI (by omega) (by omega)) (by cases b <;> rfl) rfl ?_
      refine j_seal (by omega) ?_
      intro w3 u3
      have fw3 := u3.fw (ρ := 42) (by omega) (by omega)
      have h3 := h2.up42 fw3 u3.1
      rw [z_cla (by omega)] at h3
      have R3 := R2.uf (i := i49) (b := b) rfl
      refine j_iload_n dX11_fix_31 rfl ?_
      refine j_iret dX11_fix_32 rfl rfl ?_ (Nat.le_of_ble_eq_true rfl) (Nat.le_of_ble_eq_true rfl)
      refine cast (congrFun (congrFun hQ9 _) _) ?_
      try rw [ei49]
      refine ⟨_, _, rfl, ((fm2.le (q' := 59) (by decide)).tr (fw3.fm (q := 59) (by omega))), h3, sp_X0 ?_ rfl R3 rfl⟩
      first | (first | (refine sp_k2_0 ?_ <;> (first | (with_reducible assumption) | (refine Or.inl ?_; (with_reducible assumption)) | (refine Or.inr ?_; (with_reducible assumption)) | (refine Or.inr (Or.inl ?_); (with_reducible assumption)) | (refine Or.inr (Or.inr ?_); (with_reducible assumption)) | (refine Or.inr (Or.inr (Or.inl ?_)); (with_reducible assumption)) | (refine Or.inr (Or.inr (Or.inr ?_)); (with_reducible assumption)) | (refine fun z => Or.elim z ?_ ?_ <;> (with_reducible assumption)) | (refine fun z => Or.elim z ?_ (fun z => Or.elim z ?_ ?_) <;> (with_reducible assumption)) | (refine fun z => Or.elim z ?_ (fun z => Or.elim z ?_ (fun z => Or.elim z ?_ ?_)) <;> (with_reducible assumption)) | (refine fun z => Or.elim z (fun z9 => z9 ?_) ?_ <;> (first | (with_reducible assumption) | (refine Or.inl ?_; (with_reducible assumption)) | (refine Or.inr (Or.inl ?_); (with_reducible assumption)) | (refine Or.inr (Or.inr ?_); (with_reducible assumption)) | (refine Or.inr (Or.inr (Or.inl ?_)); (with_reducible assumption)) | (refine Or.inr (Or.inr (Or.inr ?_)); (with_reducible assumption)))) | (refine Or.inl (fun z => Or.elim z ?_ (fun z => Or.elim z ?_ ?_)) <;> (with_reducible assumption)) | (refine Or.inl (fun z => Or.elim z ?_ (fun z => Or.elim z ?_ (fun z => Or.elim z ?_ ?_))) <;> (with_reducible assumption))))) | (first | (refine sp_k2_0 ?_ <;> (first | assumption | (refine Or.inl ?_; assumption) | (refine Or.inr ?_; assumption) | (refine Or.inr (Or.inl ?_); assumption) | (refine Or.inr (Or.inr ?_); assumption) | (refine Or.inr (Or.inr (Or.inl ?_)); assumption) | (refine Or.inr (Or.inr (Or.inr ?_)); assumption) | (refine fun z => Or.elim z ?_ ?_ <;> assumption) | (refine fun z => Or.elim z ?_ (fun z => Or.elim z ?_ ?_) <;> assumption) | (refine fun z => Or.elim z ?_ (fun z => Or.elim z ?_ (fun z => Or.elim z ?_ ?_)) <;> assumption) | (refine fun z => Or.elim z (fun z9 => z9 ?_) ?_ <;> (first | assumption | (refine Or.inl ?_; assumption) | (refine Or.inr (Or.inl ?_); assumption) | (refine Or.inr (Or.inr ?_); assumption) | (refine Or.inr (Or.inr (Or.inl ?_)); assumption) | (refine Or.inr (Or.inr (Or.inr ?_)); assumption))) | (refine Or.inl (fun z => Or.elim z ?_ (fun z => Or.elim z ?_ ?_)) <;> assumption) | (refine Or.inl (fun z => Or.elim z ?_ (fun z => Or.elim z ?_ (fun z => Or.elim z ?_ ?_))) <;> assumption))))
    · exact absurd c_9_24 (by decide)
set_option maxRecDepth 100000 in
set_option maxHeartbeats 8000000 in
theorem cx_hearRow (hl : l.stackTraces = false) (w : z_W) (S : sp_S) (s : z_Z) (i a0 g : Nat) (h : z_mst w s) (R : sp_MR S s) (hi : i < 2) (hg : g < 2) (ha : a0 ≤ (sp_R S i).length) : z_Con G l mX11_hearRow 20 24 372 w [.ref 1000, .int (nI i), .int (nI a0), .int (nI g)] (fun v w9 => ∃ (s9 : z_Z), v = some (.int (sp_an (sp_hr S i g a0).1)) ∧ z_fm 59 w w9 ∧ z_mst w9 s9 ∧ sp_MR (sp_hrS S i g a0) s9 ∧ s9.1.1 = s.1.1) (fun _ _ => False) := by
  have ha12 := Nat.le_trans ha (R.len12 h hi)
  generalize hQ9 : (fun (v : Option Value) (w9 : z_W) => ∃ (s9 : z_Z), v = some (.int (sp_an (sp_hr S i g a0).1)) ∧ z_fm 59 w w9 ∧ z_mst w9 s9 ∧ sp_MR (sp_hrS S i g a0) s9 ∧ s9.1.1 = s.1.1) = Q9
  refine z_body hl (by decide) rfl (Nat.le_of_ble_eq_true rfl) ?_
  show z_J G l mX11_hearRow _ 0 [(0, _), (1, _), (2, _), (3, _)] [] _ 0 0
  refine j_aload_n dX11_hearRow_0 rfl rfl ?_
  refine j_getf dX11_hearRow_1 fX11_31 h.m rfl ?_
  refine j_iload_n dX11_hearRow_4 rfl ?_
  obtain ⟨fz51, gz51, hz51⟩ := h.co
  refine j_aald (v := .ref (1004 + i)) dX11_hearRow_5 gz51 rfl rfl (vp_in_nI (by omega) (by omega)) (by rw [z_cla (by omega)]; exact hz51 _ (by omega)) ?_
  refine j_iconst (v := 0) dX11_hearRow_6 (by decide) ?_
  refine j_dup2 dX11_hearRow_7 rfl rfl ?_
  refine j_ld dX11_hearRow_8 (h.cn (i := i) (by omega)) (vp_in_nI (n := 0) (by decide) (by decide)) ?_
  refine j_iconst (v := 1) dX11_hearRow_9 (by decide) ?_
  refine j_iadd dX11_hearRow_10 ?_
  refine j_sto (w' := _) dX11_hearRow_11 (h.cn (i := i) (by omega)) (vp_in_nI (n := 0) (by decide) (by decide)) rfl ?_
  refine j_seal (by omega) ?_
  intro w1 u1
  have fw1 := u1.fw (ρ := 44 + i) (by omega) (by omega)
  have h1 := h.up44 (i0 := i) (by omega) fw1 u1.1
  rw [show (0 : Int32).toNatClampNeg = 0 by decide] at h1
  have R1 := R.bp (i := i) (k := 0) (by omega) (by decide)
  refine j_aload_n dX11_hearRow_12 rfl rfl ?_
  refine j_getf dX11_hearRow_13 fX11_31 h1.m rfl ?_
  refine j_iload_n dX11_hearRow_16 rfl ?_
  obtain ⟨fz54, gz54, hz54⟩ := h1.co
  refine j_aald (v := .ref (1004 + i)) dX11_hearRow_17 gz54 rfl rfl (vp_in_nI (by omega) (by omega)) (by rw [z_cla (by omega)]; exact hz54 _ (by omega)) ?_
  refine j_iconst (v := 2) dX11_hearRow_18 (by decide) ?_
  refine j_dup2 dX11_hearRow_19 rfl rfl ?_
  refine j_ld dX11_hearRow_20 (h1.cn (i := i) (by omega)) (vp_in_nI (n := 2) (by decide) (by decide)) ?_
  refine j_iload_n dX11_hearRow_21 rfl ?_
  refine j_iadd dX11_hearRow_22 ?_
  refine j_sto (w' := _) dX11_hearRow_23 (h1.cn (i := i) (by omega)) (vp_in_nI (n := 2) (by decide) (by decide)) rfl ?_
  refine j_seal (by omega) ?_
  intro w2 u2
  have fw2 := u2.fw (ρ := 44 + i) (by omega) (by omega)
  have h2 := h1.up44 (i0 := i) (by omega) fw2 u2.1
  rw [show (2 : Int32).toNatClampNeg = 2 by decide] at h2
  have R2 := R1.bpa2 (i := i) (a := a0) (by omega)
  refine j_iconst (v := 0) dX11_hearRow_24 (by decide) ?_
  refine j_istore (lo' := [(4, _), (0, _), (1, _), (2, _), (3, _)]) dX11_hearRow_25 (by decide) rfl ?_
  refine j_iload_n dX11_hearRow_27 rfl ?_
  refine j_istore (lo' := [(5, _), (4, _), (0, _), (1, _), (2, _), (3, _)]) dX11_hearRow_28 (by decide) rfl ?_
  have loop30 : ∀ (n9 : Nat) (w3 : z_W) (s1 : z_Z) (j mm : Nat) (c : Nat → Int32) (hh : sp_H), (a0 + j ≤ 12) → (12 < a0 + j + n9) → (sp_ho c hh mm ((sp_R S i).drop (a0 + j)) = sp_hr S i g a0) → (sp_MR (sp_uE (sp_uC S i c) g hh) s1) → (s1.1.1 = s.1.1) → (z_mst w3 s1) → (z_fm 59 w w3) → z_J G l mX11_hearRow (20, 24, 372, w, Q9, (fun _ _ => False)) 30 [(0, .ref 1000), (1, .int (nI i)), (2, .int (nI a0)), (3, .int (nI g)), (4, .int (nI mm)), (5, .int (nI (a0 + j)))] [] w3 (2 * j) (31 * j) := by
    intro n9
    induction n9 with
    | zero => intro w3 s1 j mm c hh hj hf9 he hR hth hm hfm; exact absurd hf9 (by omega)
    | succ n9 ih =>
      intro w3 s1 j mm c hh hj hf9 he hR hth hm hfm
      refine j_iload dX11_hearRow_30 rfl ?_
      refine j_aload_n dX11_hearRow_32 rfl rfl ?_
      refine j_getf dX11_hearRow_33 fX11_21 hm.m rfl ?_
      refine j_iload_n dX11_hearRow_36 rfl ?_
      obtain ⟨lv58, -, lg58⟩ := z_li.cell hm.rows
      refine j_callV (q := (RJx4a65c, TJx4a65c, 3)) dX11_hearRow_37 kJx4a65c_get_915e3 lX11_82 inJx4a65c_get_915e3 seJx4a65c_get_915e3 lg58 rfl (cl_get hl w3 41 1001 _ _ (i) _ hm.rows (z_two2 (i := i) (by omega))) (Nat.le_of_ble_eq_true rfl) ⟨(by show _ ≤ 24; omega), (by show _ ≤ 372; omega)⟩ rfl (Nat.le_of_ble_eq_true rfl) rfl rfl (fun _ _ h => h.elim) ?_
      rintro _ _ ⟨rfl, hw59⟩
      refine j_w w3 hw59 ?_
      refine j_castS dX11_hearRow_40 (z_w 1341 ((lwt_6_3 6).trans rfl) (by decide +kernel)) (z_li.is (hm.rw (i := i) (by omega)).1) ?_
      obtain ⟨lv61, -, lg61⟩ := z_li.cell (hm.rw (i := i) (by omega)).1
      refine j_callV (q := (RJx4a65c, TJx4a65c, 3)) dX11_hearRow_43 kJx4a65c_size_8abf5 lX11_86 inJx4a65c_size_8abf5 seJx4a65c_size_8abf5 lg61 rfl (cl_sizeW hl w3 (i) (sp_R S (i)) hm hR (by omega) rfl) (Nat.le_of_ble_eq_true rfl) ⟨(by show _ ≤ 24; omega), (by show _ ≤ 372; omega)⟩ rfl (Nat.le_of_ble_eq_true rfl) rfl rfl (fun _ _ h => h.elim) ?_
      rintro _ _ ⟨rfl, hw62⟩
      refine j_w w3 hw62 ?_
      have hz62 : (sp_R S (i)).length ≤ 12 := hR.l12 hm (i := i) (by omega) rfl
      refine j_icmp_ge (tgt := 121) dX11_hearRow_46 (by decide) (fun c_46_60 => ?_) (fun c_46_60 => ?_)
      · have hb46 : (sp_R S (i)).length ≤ (a0 + j) := (nI_leI (a := (sp_R S (i)).length) (b := (a0 + j)) (by omega) (by omega)).mp c_46_60
        refine j_aload_n dX11_hearRow_121 rfl rfl ?_
        refine j_getf dX11_hearRow_122 fX11_31 hm.m rfl ?_
        refine j_iload_n dX11_hearRow_125 rfl ?_
        obtain ⟨fz63, gz63, hz63⟩ := hm.co
        refine j_aald (v := .ref (1004 + i)) dX11_hearRow_126 gz63 rfl rfl (vp_in_nI (by omega) (by omega)) (by rw [z_cla (by omega)]; exact hz63 _ (by omega)) ?_
        refine j_iconst (v := 1) dX11_hearRow_127 (by decide) ?_
        refine j_dup2 dX11_hearRow_128 rfl rfl ?_
        refine j_ld dX11_hearRow_129 (hm.cn (i := i) (by omega)) (vp_in_nI (n := 1) (by decide) (by decide)) ?_
        refine j_iconst (v := 1) dX11_hearRow_130 (by decide) ?_
        refine j_iadd dX11_hearRow_131 ?_
        refine j_sto (w' := _) dX11_hearRow_132 (hm.cn (i := i) (by omega)) (vp_in_nI (n := 1) (by decide) (by decide)) rfl ?_
        refine j_seal (by omega) ?_
        intro w4 u4
        have fw4 := u4.fw (ρ := 44 + i) (by omega) (by omega)
        have h4 := hm.up44 (i0 := i) (by omega) fw4 u4.1
        rw [show (1 : Int32).toNatClampNeg = 1 by decide] at h4
        have R4 := hR.bpH (i := i) (k := 1) (by omega) (by decide)
        refine j_iload dX11_hearRow_133 rfl ?_
        refine j_iret dX11_hearRow_135 rfl rfl ?_ (by show _ ≤ 24; omega) (by show _ ≤ 372; omega)
        refine cast (congrFun (congrFun hQ9 _) _) ?_
        rw [List.drop_eq_nil_of_le (by omega)] at he
        exact ⟨_, by rw [← he]; rfl, (hfm.tr (fw4.fm (q := 59) (by omega))), h4, by unfold sp_hrS; rw [← he]; exact R4, hth⟩
      · have hb46 : (a0 + j) < (sp_R S (i)).length := Nat.not_le.mp (fun z => c_46_60 ((nI_leI (a := (sp_R S (i)).length) (b := (a0 + j)) (by omega) (by omega)).mpr z))
        refine j_aload_n dX11_hearRow_49 rfl rfl ?_
        refine j_getf dX11_hearRow_50 fX11_31 hm.m rfl ?_
        refine j_iload_n dX11_hearRow_53 rfl ?_
        obtain ⟨fz66, gz66, hz66⟩ := hm.co
        refine j_aald (v := .ref (1004 + i)) dX11_hearRow_54 gz66 rfl rfl (vp_in_nI (by omega) (by omega)) (by rw [z_cla (by omega)]; exact hz66 _ (by omega)) ?_
        refine j_iconst (v := 1) dX11_hearRow_55 (by decide) ?_
        refine j_dup2 dX11_hearRow_56 rfl rfl ?_
        refine j_ld dX11_hearRow_57 (hm.cn (i := i) (by omega)) (vp_in_nI (n := 1) (by decide) (by decide)) ?_
        refine j_iconst (v := 1) dX11_hearRow_58 (by decide) ?_
        refine j_iadd dX11_hearRow_59 ?_
        refine j_sto (w' := _) dX11_hearRow_60 (hm.cn (i := i) (by omega)) (vp_in_nI (n := 1) (by decide) (by decide)) rfl ?_
        refine j_seal (by omega) ?_
        intro w5 u5
        have fw5 := u5.fw (ρ := 44 + i) (by omega) (by omega)
        have h5 := hm.up44 (i0 := i) (by omega) fw5 u5.1
        rw [show (1 : Int32).toNatClampNeg = 1 by decide] at h5
        have R5 := hR.bpH (i := i) (k := 1) (by omega) (by decide)
        refine j_aload_n dX11_hearRow_61 rfl rfl ?_
        refine j_getf dX11_hearRow_62 fX11_31 h5.m rfl ?_
        refine j_iload_n dX11_hearRow_65 rfl ?_
        obtain ⟨fz69, gz69, hz69⟩ := h5.co
        refine j_aald (v := .ref (1004 + i)) dX11_hearRow_66 gz69 rfl rfl (vp_in_nI (by omega) (by omega)) (by rw [z_cla (by omega)]; exact hz69 _ (by omega)) ?_
        refine j_iconst (v := 2) dX11_hearRow_67 (by decide) ?_
        refine j_dup2 dX11_hearRow_68 rfl rfl ?_
        refine j_ld dX11_hearRow_69 (h5.cn (i := i) (by omega)) (vp_in_nI (n := 2) (by decide) (by decide)) ?_
        refine j_iconst (v := 1) dX11_hearRow_70 (by decide) ?_
        refine j_iadd dX11_hearRow_71 ?_
        refine j_sto (w' := _) dX11_hearRow_72 (h5.cn (i := i) (by omega)) (vp_in_nI (n := 2) (by decide) (by decide)) rfl ?_
        refine j_seal (by omega) ?_
        intro w6 u6
        have fw6 := u6.fw (ρ := 44 + i) (by omega) (by omega)
        have h6 := h5.up44 (i0 := i) (by omega) fw6 u6.1
        rw [show (2 : Int32).toNatClampNeg = 2 by decide] at h6
        have R6 := R5.bpH (i := i) (k := 2) (by omega) (by decide)
        refine j_aload_n dX11_hearRow_73 rfl rfl ?_
        refine j_getf dX11_hearRow_74 fX11_40 h6.m rfl ?_
        refine j_iload_n dX11_hearRow_77 rfl ?_
        obtain ⟨fz72, gz72, hz72⟩ := h6.hs
        refine j_aald (v := .ref (1009 + g)) dX11_hearRow_78 gz72 rfl rfl (vp_in_nI (by omega) (by omega)) (by rw [z_cla (by omega)]; exact hz72 _ (by omega)) ?_
        refine j_aload_n dX11_hearRow_79 rfl rfl ?_
        refine j_getf dX11_hearRow_80 fX11_21 h6.m rfl ?_
        refine j_iload_n dX11_hearRow_83 rfl ?_
        obtain ⟨lv74, -, lg74⟩ := z_li.cell h6.rows
        refine j_callV (q := (RJx4a65c, TJx4a65c, 3)) dX11_hearRow_84 kJx4a65c_get_915e3 lX11_82 inJx4a65c_get_915e3 seJx4a65c_get_915e3 lg74 rfl (cl_get hl w6 41 1001 _ _ (i) _ h6.rows (z_two2 (i := i) (by omega))) (Nat.le_of_ble_eq_true rfl) ⟨(by show _ ≤ 24; omega), (by show _ ≤ 372; omega)⟩ rfl (Nat.le_of_ble_eq_true rfl) rfl rfl (fun _ _ h => h.elim) ?_
        rintro _ _ ⟨rfl, hw75⟩
        refine j_w w6 hw75 ?_
        refine j_castS dX11_hearRow_87 (z_w 1341 ((lwt_6_3 6).trans rfl) (by decide +kernel)) (z_li.is (h6.rw (i := i) (by omega)).1) ?_
        refine j_iload dX11_hearRow_90 rfl ?_
        obtain ⟨x77, hx77⟩ : ∃ x, (sp_R S (i))[(a0 + j)]? = some x := ⟨_, List.getElem?_eq_getElem (show (a0 + j) < (sp_R S (i)).length by omega)⟩
        obtain ⟨lv78, -, lg78⟩ := z_li.cell (h6.rw (i := i) (by omega)).1
        refine j_callV (q := (RJx4a65c, TJx4a65c, 3)) dX11_hearRow_92 kJx4a65c_get_915e3 lX11_82 inJx4a65c_get_915e3 seJx4a65c_get_915e3 lg78 rfl (cl_getW hl w6 (i) ((a0 + j)) (sp_R S (i)) x77 h6 R6 (by omega) rfl hx77) (Nat.le_of_ble_eq_true rfl) ⟨(by show _ ≤ 24; omega), (by show _ ≤ 372; omega)⟩ rfl (Nat.le_of_ble_eq_true rfl) rfl rfl (fun _ _ h => h.elim) ?_
        rintro _ _ ⟨rfl, hw79⟩
        refine j_w w6 hw79 ?_
        refine j_castS dX11_hearRow_95 (z_w 1567 ((lwt_7_2 22).trans rfl) (by decide +kernel)) rfl ?_
        refine j_callVB (v0 := .float _) (C := "java/lang/Integer") dX11_hearRow_98 kJ6_intValue_8abf5 lX11_99 inJ6_intValue_8abf5 seJ6_intValue_8abf5 rfl (c_intv hl w6 x77) (Nat.le_of_ble_eq_true rfl) ⟨(by show _ ≤ 24; omega), (by show _ ≤ 372; omega)⟩ rfl (Nat.le_of_ble_eq_true rfl) rfl rfl (fun _ _ h => h.elim) ?_
        rintro _ _ ⟨rfl, hw81⟩
        refine j_w w6 hw81 ?_
        refine j_callVN (q := (RX10, TX10, 5)) dX11_hearRow_101 kX10_refuses lX11_102 inX10_refuses seX10_refuses (h6.hd (i := g) (by omega)) rfl (cm_refuses_r hl w6 (sp_uC S i (z_bp (z_bp c 1) 2)) hh _ (g) _ h6 R6 (by omega)) (Nat.le_of_ble_eq_true rfl) ⟨(by show _ ≤ 24; omega), (by show _ ≤ 372; omega)⟩ rfl (Nat.le_of_ble_eq_true rfl) rfl rfl (fun _ _ h => h.elim) ?_
        rintro _ w7 (⟨rfl, hin7, hw7⟩ | ⟨rfl, h27, s7, hin7, fm7, h7, R7, ht7, hqp7⟩)
        · refine j_w w6 hw7 ?_
          refine j_if_eq (tgt := 112) dX11_hearRow_104 (by decide) (fun c_104_145 => ?_) (fun c_104_145 => ?_)
          · exact absurd c_104_145 (by decide)
          · refine j_aload_n dX11_hearRow_107 rfl rfl ?_
            refine j_callV (q := (RX11, TX11, 8)) dX11_hearRow_108 kX11_nine lX11_105 inX11_nine seX11_nine h6.m rfl (cm_nine hl w6 _ h6) (Nat.le_of_ble_eq_true rfl) ⟨(by show _ ≤ 24; omega), (by show _ ≤ 372; omega)⟩ rfl (Nat.le_of_ble_eq_true rfl) rfl rfl (fun _ _ h => h.elim) ?_
            rintro _ w8 ⟨rfl, fm8, h8⟩
            have R8 := R6.ni
            refine j_iret dX11_hearRow_111 rfl rfl ?_ (by show _ ≤ 24; omega) (by show _ ≤ 372; omega)
            refine cast (congrFun (congrFun hQ9 _) _) ?_
            rw [sp_drop hx77, sp_hoN hin7] at he
            exact ⟨_, by rw [← he]; rfl, (((hfm.tr (fw5.fm (q := 59) (by omega))).tr (fw6.fm (q := 59) (by omega))).tr (fm8.le (q' := 59) (by decide))), h8, by unfold sp_hrS; rw [← he]; exact R8, hth⟩
        · have th7 := (congrArg Prod.fst ht7).trans hth
          refine j_if_eq (tgt := 112) dX11_hearRow_104 (by decide) (fun c_104_156 => ?_) (fun c_104_156 => ?_)
          · refine j_iinc (lo' := [(4, _), (0, _), (1, _), (2, _), (3, _), (5, _)]) dX11_hearRow_112 rfl (z_inc _) (by decide) rfl ?_
            refine j_iinc (lo' := [(5, _), (4, _), (0, _), (1, _), (2, _), (3, _)]) dX11_hearRow_115 rfl (z_inc _) (by decide) rfl ?_
            refine j_goto (tgt := 30) dX11_hearRow_118 (by decide) ?_
            refine j_widen (kc' := (2 * (j + 1))) (ks' := (31 * (j + 1))) (by omega) (by omega) ?_
            exact j_lo2 (ih w7 _ (j + 1) (mm + 1) _ _ (by omega) (by omega) (by rw [sp_drop hx77, sp_hoS hin7] at he; exact he) R7 (by exact th7) h7 (((hfm.tr (fw5.fm (q := 59) (by omega))).tr (fw6.fm (q := 59) (by omega))).tr (fm7.le (q' := 59) (by decide)))) (z_q1 rfl (z_q1 rfl (z_q1 rfl (z_q1 rfl (z_q1 rfl (z_q1 rfl z_q0))))))
          · exact absurd c_104_156 (by decide)
  refine j_widen (kc' := (2 * 0)) (ks' := (31 * 0)) (by omega) (by omega) ?_
  exact j_lo2 (loop30 13 w2 _ 0 0 _ _ (by omega) (by omega) (by exact rfl) (by rw [show sp_uE (sp_uC S i (sp_bps (z_bp (sp_C S i) 0) 2 a0)) g (sp_E S g) = sp_uC S i (sp_bps (z_bp (sp_C S i) 0) 2 a0) from sp_uE_id]; exact R2) (by exact rfl) h2 ((fw1.fm (q := 59) (by omega)).tr (fw2.fm (q := 59) (by omega)))) (z_q1 rfl (z_q1 rfl (z_q1 rfl (z_q1 rfl (z_q1 rfl (z_q1 rfl z_q0))))))
set_option maxRecDepth 100000 in
set_option maxHeartbeats 8000000 in
theorem cx_hear (hl : l.stackTraces = false) (w : z_W) (S : sp_S) (s : z_Z) (r : Int32) (g : Int32) (h : z_mst w s) (R : sp_MR S s)  : z_Con G l mX11_hear 22 24 372 w [.ref 1000, .int r, .int g] (fun v w9 => ∃ (r9 : Int32) (s9 : z_Z), v = some (.int r9) ∧ z_fm 59 w w9 ∧ z_mst w9 s9 ∧ s9.1.1 = sp_k2b r g ∧ sp_MR (if sp_k2b r g = 0 then sp_hrS S (sp_i r) (sp_i g) 0 else S) s9 ∧ (sp_k2b r g = 0 → r9 = sp_an (sp_hr S (sp_i r) (sp_i g) 0).1)) (fun _ _ => False) := by
  generalize hQ9 : (fun (v : Option Value) (w9 : z_W) => ∃ (r9 : Int32) (s9 : z_Z), v = some (.int r9) ∧ z_fm 59 w w9 ∧ z_mst w9 s9 ∧ s9.1.1 = sp_k2b r g ∧ sp_MR (if sp_k2b r g = 0 then sp_hrS S (sp_i r) (sp_i g) 0 else S) s9 ∧ (sp_k2b r g = 0 → r9 = sp_an (sp_hr S (sp_i r) (sp_i g) 0).1)) = Q9
  refine z_body hl (by decide) rfl (Nat.le_of_ble_eq_true rfl) ?_
  show z_J G l mX11_hear _ 0 [(0, _), (1, _), (2, _)] [] _ 0 0
  refine j_aload_n dX11_hear_0 rfl rfl ?_
  refine j_iload_n dX11_hear_1 rfl ?_
  refine j_callS dX11_hear_2 kX11_isNoTwo lX11_72 stX11_isNoTwo (cm_isNoTwo_r hl w _) (Nat.le_of_ble_eq_true rfl) ⟨(Nat.le_of_ble_eq_true rfl), (Nat.le_of_ble_eq_true rfl)⟩ rfl (Nat.le_of_ble_eq_true rfl) rfl rfl (fun _ _ h => h.elim) ?_
  rintro _ _ ⟨⟨rfl, hno82⟩ | ⟨rfl, i82, hi82, ht82, rfl⟩, hw82⟩
  · refine j_w w hw82 ?_
    refine j_if_ne (tgt := 15) dX11_hear_5 (by decide) (fun c_5_7 => ?_) (fun c_5_7 => ?_)
    · refine j_iconst (v := 1) dX11_hear_15 (by decide) ?_
      refine j_goto (tgt := 20) dX11_hear_16 (by decide) ?_
      refine j_iconst (v := 1) dX11_hear_20 (by decide) ?_
      refine j_callV (q := (RX11, TX11, 8)) dX11_hear_21 kX11_start lX11_76 inX11_start seX11_start h.m rfl (cm_start1 hl w _ _ h (by decide)) (Nat.le_of_ble_eq_true rfl) ⟨(Nat.le_of_ble_eq_true rfl), (Nat.le_of_ble_eq_true rfl)⟩ rfl (Nat.le_of_ble_eq_true rfl) rfl rfl (fun _ _ h => h.elim) ?_
      rintro _ w1 ⟨rfl, fm1, h1⟩
      have R1 := R.th (k := 1)
      refine j_if_eq (tgt := 31) dX11_hear_24 (by decide) (fun c_24_14 => ?_) (fun c_24_14 => ?_)
      · exact absurd c_24_14 (by decide)
      · refine j_iconst (v := 0) dX11_hear_27 (by decide) ?_
        refine j_goto (tgt := 38) dX11_hear_28 (by decide) ?_
        refine j_iret dX11_hear_38 rfl rfl ?_ (Nat.le_of_ble_eq_true rfl) (Nat.le_of_ble_eq_true rfl)
        refine cast (congrFun (congrFun hQ9 _) _) ?_
        refine ⟨_, _, rfl, (fm1.le (q' := 59) (by decide)), h1, sp_X1 (k := 1) ?_ (by decide) rfl R1⟩
        first | (first | (refine sp_k2b_1 ?_ <;> (first | (with_reducible assumption) | (refine Or.inl ?_; (with_reducible assumption)) | (refine Or.inr ?_; (with_reducible assumption)) | (refine Or.inr (Or.inl ?_); (with_reducible assumption)) | (refine Or.inr (Or.inr ?_); (with_reducible assumption)) | (refine Or.inr (Or.inr (Or.inl ?_)); (with_reducible assumption)) | (refine Or.inr (Or.inr (Or.inr ?_)); (with_reducible assumption)) | (refine fun z => Or.elim z ?_ ?_ <;> (with_reducible assumption)) | (refine fun z => Or.elim z ?_ (fun z => Or.elim z ?_ ?_) <;> (with_reducible assumption)) | (refine fun z => Or.elim z ?_ (fun z => Or.elim z ?_ (fun z => Or.elim z ?_ ?_)) <;> (with_reducible assumption)) | (refine fun z => Or.elim z (fun z9 => z9 ?_) ?_ <;> (first | (with_reducible assumption) | (refine Or.inl ?_; (with_reducible assumption)) | (refine Or.inr (Or.inl ?_); (with_reducible assumption)) | (refine Or.inr (Or.inr ?_); (with_reducible assumption)) | (refine Or.inr (Or.inr (Or.inl ?_)); (with_reducible assumption)) | (refine Or.inr (Or.inr (Or.inr ?_)); (with_reducible assumption)))) | (refine Or.inl (fun z => Or.elim z ?_ (fun z => Or.elim z ?_ ?_)) <;> (with_reducible assumption)) | (refine Or.inl (fun z => Or.elim z ?_ (fun z => Or.elim z ?_ (fun z => Or.elim z ?_ ?_))) <;> (with_reducible assumption)))) | (refine sp_k2b_1' ?_ <;> (first | (with_reducible assumption) | (refine Or.inl ?_; (with_reducible assumption)) | (refine Or.inr ?_; (with_reducible assumption)) | (refine Or.inr (Or.inl ?_); (with_reducible assumption)) | (refine Or.inr (Or.inr ?_); (with_reducible assumption)) | (refine Or.inr (Or.inr (Or.inl ?_)); (with_reducible assumption)) | (refine Or.inr (Or.inr (Or.inr ?_)); (with_reducible assumption)) | (refine fun z => Or.elim z ?_ ?_ <;> (with_reducible assumption)) | (refine fun z => Or.elim z ?_ (fun z => Or.elim z ?_ ?_) <;> (with_reducible assumption)) | (refine fun z => Or.elim z ?_ (fun z => Or.elim z ?_ (fun z => Or.elim z ?_ ?_)) <;> (with_reducible assumption)) | (refine fun z => Or.elim z (fun z9 => z9 ?_) ?_ <;> (first | (with_reducible assumption) | (refine Or.inl ?_; (with_reducible assumption)) | (refine Or.inr (Or.inl ?_); (with_reducible assumption)) | (refine Or.inr (Or.inr ?_); (with_reducible assumption)) | (refine Or.inr (Or.inr (Or.inl ?_)); (with_reducible assumption)) | (refine Or.inr (Or.inr (Or.inr ?_)); (with_reducible assumption)))) | (refine Or.inl (fun z => Or.elim z ?_ (fun z => Or.elim z ?_ ?_)) <;> (with_reducible assumption)) | (refine Or.inl (fun z => Or.elim z ?_ (fun z => Or.elim z ?_ (fun z => Or.elim z ?_ ?_))) <;> (with_reducible assumption))))) | (first | (refine sp_k2b_1 ?_ <;> (first | assumption | (refine Or.inl ?_; assumption) | (refine Or.inr ?_; assumption) | (refine Or.inr (Or.inl ?_); assumption) | (refine Or.inr (Or.inr ?_); assumption) | (refine Or.inr (Or.inr (Or.inl ?_)); assumption) | (refine Or.inr (Or.inr (Or.inr ?_)); assumption) | (refine fun z => Or.elim z ?_ ?_ <;> assumption) | (refine fun z => Or.elim z ?_ (fun z => Or.elim z ?_ ?_) <;> assumption) | (refine fun z => Or.elim z ?_ (fun z => Or.elim z ?_ (fun z => Or.elim z ?_ ?_)) <;> assumption) | (refine fun z => Or.elim z (fun z9 => z9 ?_) ?_ <;> (first | assumption | (refine Or.inl ?_; assumption) | (refine Or.inr (Or.inl ?_); assumption) | (refine Or.inr (Or.inr ?_); assumption) | (refine Or.inr (Or.inr (Or.inl ?_)); assumption) | (refine Or.inr (Or.inr (Or.inr ?_)); assumption))) | (refine Or.inl (fun z => Or.elim z ?_ (fun z => Or.elim z ?_ ?_)) <;> assumption) | (refine Or.inl (fun z => Or.elim z ?_ (fun z => Or.elim z ?_ (fun z => Or.elim z ?_ ?_))) <;> assumption))) | (refine sp_k2b_1' ?_ <;> (first | assumption | (refine Or.inl ?_; assumption) | (refine Or.inr ?_; assumption) | (refine Or.inr (Or.inl ?_); assumption) | (refine Or.inr (Or.inr ?_); assumption) | (refine Or.inr (Or.inr (Or.inl ?_)); assumption) | (refine Or.inr (Or.inr (Or.inr ?_)); assumption) | (refine fun z => Or.elim z ?_ ?_ <;> assumption) | (refine fun z => Or.elim z ?_ (fun z => Or.elim z ?_ ?_) <;> assumption) | (refine fun z => Or.elim z ?_ (fun z => Or.elim z ?_ (fun z => Or.elim z ?_ ?_)) <;> assumption) | (refine fun z => Or.elim z (fun z9 => z9 ?_) ?_ <;> (first | assumption | (refine Or.inl ?_; assumption) | (refine Or.inr (Or.inl ?_); assumption) | (refine Or.inr (Or.inr ?_); assumption) | (refine Or.inr (Or.inr (Or.inl ?_)); assumption) | (refine Or.inr (Or.inr (Or.inr ?_)); assumption))) | (refine Or.inl (fun z => Or.elim z ?_ (fun z => Or.elim z ?_ ?_)) <;> assumption) | (refine Or.inl (fun z => Or.elim z ?_ (fun z => Or.elim z ?_ (fun z => Or.elim z ?_ ?_))) <;> assumption))))
    · exact absurd c_5_7 (by decide)
  · refine j_w w hw82 ?_
    have ei82 : sp_i (nI i82) = i82 := sp_in' (by omega)
    refine j_if_ne (tgt := 15) dX11_hear_5 (by decide) (fun c_5_25 => ?_) (fun c_5_25 => ?_)
    · exact absurd c_5_25 (by decide)
    · refine j_iload_n dX11_hear_8 rfl ?_
      refine j_callS dX11_hear_9 kX11_isNoTwo lX11_72 stX11_isNoTwo (cm_isNoTwo_r hl w _) (Nat.le_of_ble_eq_true rfl) ⟨(Nat.le_of_ble_eq_true rfl), (Nat.le_of_ble_eq_true rfl)⟩ rfl (Nat.le_of_ble_eq_true rfl) rfl rfl (fun _ _ h => h.elim) ?_
      rintro _ _ ⟨⟨rfl, hno83⟩ | ⟨rfl, i83, hi83, ht83, rfl⟩, hw83⟩
      · refine j_w w hw83 ?_
        refine j_if_eq (tgt := 19) dX11_hear_12 (by decide) (fun c_12_31 => ?_) (fun c_12_31 => ?_)
        · exact absurd c_12_31 (by decide)
        · refine j_iconst (v := 1) dX11_hear_15 (by decide) ?_
          refine j_goto (tgt := 20) dX11_hear_16 (by decide) ?_
          refine j_iconst (v := 1) dX11_hear_20 (by decide) ?_
          refine j_callV (q := (RX11, TX11, 8)) dX11_hear_21 kX11_start lX11_76 inX11_start seX11_start h.m rfl (cm_start1 hl w _ _ h (by decide)) (Nat.le_of_ble_eq_true rfl) ⟨(Nat.le_of_ble_eq_true rfl), (Nat.le_of_ble_eq_true rfl)⟩ rfl (Nat.le_of_ble_eq_true rfl) rfl rfl (fun _ _ h => h.elim) ?_
          rintro _ w2 ⟨rfl, fm2, h2⟩
          have R2 := R.th (k := 1)
          refine j_if_eq (tgt := 31) dX11_hear_24 (by decide) (fun c_24_39 => ?_) (fun c_24_39 => ?_)
          · exact absurd c_24_39 (by decide)
          · refine j_iconst (v := 0) dX11_hear_27 (by decide) ?_
            refine j_goto (tgt := 38) dX11_hear_28 (by decide) ?_
            refine j_iret dX11_hear_38 rfl rfl ?_ (Nat.le_of_ble_eq_true rfl) (Nat.le_of_ble_eq_true rfl)
            refine cast (congrFun (congrFun hQ9 _) _) ?_
            try rw [ei82]
            refine ⟨_, _, rfl, (fm2.le (q' := 59) (by decide)), h2, sp_X1 (k := 1) ?_ (by decide) rfl R2⟩
            first | (first | (refine sp_k2b_1 ?_ <;> (first | (with_reducible assumption) | (refine Or.inl ?_; (with_reducible assumption)) | (refine Or.inr ?_; (with_reducible assumption)) | (refine Or.inr (Or.inl ?_); (with_reducible assumption)) | (refine Or.inr (Or.inr ?_); (with_reducible assumption)) | (refine Or.inr (Or.inr (Or.inl ?_)); (with_reducible assumption)) | (refine Or.inr (Or.inr (Or.inr ?_)); (with_reducible assumption)) | (refine fun z => Or.elim z ?_ ?_ <;> (with_reducible assumption)) | (refine fun z => Or.elim z ?_ (fun z => Or.elim z ?_ ?_) <;> (with_reducible assumption)) | (refine fun z => Or.elim z ?_ (fun z => Or.elim z ?_ (fun z => Or.elim z ?_ ?_)) <;> (with_reducible assumption)) | (refine fun z => Or.elim z (fun z9 => z9 ?_) ?_ <;> (first | (with_reducible assumption) | (refine Or.inl ?_; (with_reducible assumption)) | (refine Or.inr (Or.inl ?_); (with_reducible assumption)) | (refine Or.inr (Or.inr ?_); (with_reducible assumption)) | (refine Or.inr (Or.inr (Or.inl ?_)); (with_reducible assumption)) | (refine Or.inr (Or.inr (Or.inr ?_)); (with_reducible assumption)))) | (refine Or.inl (fun z => Or.elim z ?_ (fun z => Or.elim z ?_ ?_)) <;> (with_reducible assumption)) | (refine Or.inl (fun z => Or.elim z ?_ (fun z => Or.elim z ?_ (fun z => Or.elim z ?_ ?_))) <;> (with_reducible assumption)))) | (refine sp_k2b_1' ?_ <;> (first | (with_reducible assumption) | (refine Or.inl ?_; (with_reducible assumption)) | (refine Or.inr ?_; (with_reducible assumption)) | (refine Or.inr (Or.inl ?_); (with_reducible assumption)) | (refine Or.inr (Or.inr ?_); (with_reducible assumption)) | (refine Or.inr (Or.inr (Or.inl ?_)); (with_reducible assumption)) | (refine Or.inr (Or.inr (Or.inr ?_)); (with_reducible assumption)) | (refine fun z => Or.elim z ?_ ?_ <;> (with_reducible assumption)) | (refine fun z => Or.elim z ?_ (fun z => Or.elim z ?_ ?_) <;> (with_reducible assumption)) | (refine fun z => Or.elim z ?_ (fun z => Or.elim z ?_ (fun z => Or.elim z ?_ ?_)) <;> (with_reducible assumption)) | (refine fun z => Or.elim z (fun z9 => z9 ?_) ?_ <;> (first | (with_reducible assumption) | (refine Or.inl ?_; (with_reducible assumption)) | (refine Or.inr (Or.inl ?_); (with_reducible assumption)) | (refine Or.inr (Or.inr ?_); (with_reducible assumption)) | (refine Or.inr (Or.inr (Or.inl ?_)); (with_reducible assumption)) | (refine Or.inr (Or.inr (Or.inr ?_)); (with_reducible assumption)))) | (refine Or.inl (fun z => Or.elim z ?_ (fun z => Or.elim z ?_ ?_)) <;> (with_reducible assumption)) | (refine Or.inl (fun z => Or.elim z ?_ (fun z => Or.elim z ?_ (fun z => Or.elim z ?_ ?_))) <;> (with_reducible assumption))))) | (first | (refine sp_k2b_1 ?_ <;> (first | assumption | (refine Or.inl ?_; assumption) | (refine Or.inr ?_; assumption) | (refine Or.inr (Or.inl ?_); assumption) | (refine Or.inr (Or.inr ?_); assumption) | (refine Or.inr (Or.inr (Or.inl ?_)); assumption) | (refine Or.inr (Or.inr (Or.inr ?_)); assumption) | (refine fun z => Or.elim z ?_ ?_ <;> assumption) | (refine fun z => Or.elim z ?_ (fun z => Or.elim z ?_ ?_) <;> assumption) | (refine fun z => Or.elim z ?_ (fun z => Or.elim z ?_ (fun z => Or.elim z ?_ ?_)) <;> assumption) | (refine fun z => Or.elim z (fun z9 => z9 ?_) ?_ <;> (first | assumption | (refine Or.inl ?_; assumption) | (refine Or.inr (Or.inl ?_); assumption) | (refine Or.inr (Or.inr ?_); assumption) | (refine Or.inr (Or.inr (Or.inl ?_)); assumption) | (refine Or.inr (Or.inr (Or.inr ?_)); assumption))) | (refine Or.inl (fun z => Or.elim z ?_ (fun z => Or.elim z ?_ ?_)) <;> assumption) | (refine Or.inl (fun z => Or.elim z ?_ (fun z => Or.elim z ?_ (fun z => Or.elim z ?_ ?_))) <;> assumption))) | (refine sp_k2b_1' ?_ <;> (first | assumption | (refine Or.inl ?_; assumption) | (refine Or.inr ?_; assumption) | (refine Or.inr (Or.inl ?_); assumption) | (refine Or.inr (Or.inr ?_); assumption) | (refine Or.inr (Or.inr (Or.inl ?_)); assumption) | (refine Or.inr (Or.inr (Or.inr ?_)); assumption) | (refine fun z => Or.elim z ?_ ?_ <;> assumption) | (refine fun z => Or.elim z ?_ (fun z => Or.elim z ?_ ?_) <;> assumption) | (refine fun z => Or.elim z ?_ (fun z => Or.elim z ?_ (fun z => Or.elim z ?_ ?_)) <;> assumption) | (refine fun z => Or.elim z (fun z9 => z9 ?_) ?_ <;> (first | assumption | (refine Or.inl ?_; assumption) | (refine Or.inr (Or.inl ?_); assumption) | (refine Or.inr (Or.inr ?_); assumption) | (refine Or.inr (Or.inr (Or.inl ?_)); assumption) | (refine Or.inr (Or.inr (Or.inr ?_)); assumption))) | (refine Or.inl (fun z => Or.elim z ?_ (fun z => Or.elim z ?_ ?_)) <;> assumption) | (refine Or.inl (fun z => Or.elim z ?_ (fun z => Or.elim z ?_ (fun z => Or.elim z ?_ ?_))) <;> assumption))))
      · refine j_w w hw83 ?_
        have ei83 : sp_i (nI i83) = i83 := sp_in' (by omega)
        refine j_if_eq (tgt := 19) dX11_hear_12 (by decide) (fun c_12_50 => ?_) (fun c_12_50 => ?_)
        · refine j_iconst (v := 0) dX11_hear_19 (by decide) ?_
          refine j_iconst (v := 1) dX11_hear_20 (by decide) ?_
          refine j_callV (q := (RX11, TX11, 8)) dX11_hear_21 kX11_start lX11_76 inX11_start seX11_start h.m rfl (cm_start0 hl w _ _ h) (Nat.le_of_ble_eq_true rfl) ⟨(Nat.le_of_ble_eq_true rfl), (Nat.le_of_ble_eq_true rfl)⟩ rfl (Nat.le_of_ble_eq_true rfl) rfl rfl (fun _ _ h => h.elim) ?_
          rintro _ w3 ⟨rfl, fm3, h3⟩
          have R3 := R.th (k := 0)
          refine j_if_eq (tgt := 31) dX11_hear_24 (by decide) (fun c_24_56 => ?_) (fun c_24_56 => ?_)
          · refine j_aload_n dX11_hear_31 rfl rfl ?_
            refine j_iload_n dX11_hear_32 rfl ?_
            refine j_iconst (v := 0) dX11_hear_33 (by decide) ?_
            refine j_iload_n dX11_hear_34 rfl ?_
            refine j_callV (q := (RX11, TX11, 8)) dX11_hear_35 kX11_hearRow lX11_108 inX11_hearRow seX11_hearRow h3.m rfl (cx_hearRow hl w3 S _ (i82) (0) (i83) h3 R3 (by omega) (by omega) (Nat.zero_le _)) (Nat.le_of_ble_eq_true rfl) ⟨(Nat.le_of_ble_eq_true rfl), (Nat.le_of_ble_eq_true rfl)⟩ rfl (Nat.le_of_ble_eq_true rfl) rfl rfl (fun _ _ h => h.elim) ?_
            rintro _ w4 ⟨s4, rfl, fm4, h4, R4, th4⟩
            have tx4 := th4.trans rfl
            refine j_iret dX11_hear_38 rfl rfl ?_ (Nat.le_of_ble_eq_true rfl) (Nat.le_of_ble_eq_true rfl)
            refine cast (congrFun (congrFun hQ9 _) _) ?_
            try rw [ei82]
            try rw [ei83]
            refine ⟨_, _, rfl, ((fm3.le (q' := 59) (by decide)).tr (fm4.le (q' := 59) (by decide))), h4, sp_X0 ?_ tx4 R4 rfl⟩
            first | (first | (refine sp_k2b_0 ?_ ?_ <;> (first | (with_reducible assumption) | (refine Or.inl ?_; (with_reducible assumption)) | (refine Or.inr ?_; (with_reducible assumption)) | (refine Or.inr (Or.inl ?_); (with_reducible assumption)) | (refine Or.inr (Or.inr ?_); (with_reducible assumption)) | (refine Or.inr (Or.inr (Or.inl ?_)); (with_reducible assumption)) | (refine Or.inr (Or.inr (Or.inr ?_)); (with_reducible assumption)) | (refine fun z => Or.elim z ?_ ?_ <;> (with_reducible assumption)) | (refine fun z => Or.elim z ?_ (fun z => Or.elim z ?_ ?_) <;> (with_reducible assumption)) | (refine fun z => Or.elim z ?_ (fun z => Or.elim z ?_ (fun z => Or.elim z ?_ ?_)) <;> (with_reducible assumption)) | (refine fun z => Or.elim z (fun z9 => z9 ?_) ?_ <;> (first | (with_reducible assumption) | (refine Or.inl ?_; (with_reducible assumption)) | (refine Or.inr (Or.inl ?_); (with_reducible assumption)) | (refine Or.inr (Or.inr ?_); (with_reducible assumption)) | (refine Or.inr (Or.inr (Or.inl ?_)); (with_reducible assumption)) | (refine Or.inr (Or.inr (Or.inr ?_)); (with_reducible assumption)))) | (refine Or.inl (fun z => Or.elim z ?_ (fun z => Or.elim z ?_ ?_)) <;> (with_reducible assumption)) | (refine Or.inl (fun z => Or.elim z ?_ (fun z => Or.elim z ?_ (fun z => Or.elim z ?_ ?_))) <;> (with_reducible assumption))))) | (first | (refine sp_k2b_0 ?_ ?_ <;> (first | assumption | (refine Or.inl ?_; assumption) | (refine Or.inr ?_; assumption) | (refine Or.inr (Or.inl ?_); assumption) | (refine Or.inr (Or.inr ?_); assumption) | (refine Or.inr (Or.inr (Or.inl ?_)); assumption) | (refine Or.inr (Or.inr (Or.inr ?_)); assumption) | (refine fun z => Or.elim z ?_ ?_ <;> assumption) | (refine fun z => Or.elim z ?_ (fun z => Or.elim z ?_ ?_) <;> assumption) | (refine fun z => Or.elim z ?_ (fun z => Or.elim z ?_ (fun z => Or.elim z ?_ ?_)) <;> assumption) | (refine fun z => Or.elim z (fun z9 => z9 ?_) ?_ <;> (first | assumption | (refine Or.inl ?_; assumption) | (refine Or.inr (Or.inl ?_); assumption) | (refine Or.inr (Or.inr ?_); assumption) | (refine Or.inr (Or.inr (Or.inl ?_)); assumption) | (refine Or.inr (Or.inr (Or.inr ?_)); assumption))) | (refine Or.inl (fun z => Or.elim z ?_ (fun z => Or.elim z ?_ ?_)) <;> assumption) | (refine Or.inl (fun z => Or.elim z ?_ (fun z => Or.elim z ?_ (fun z => Or.elim z ?_ ?_))) <;> assumption))))
          · exact absurd c_24_56 (by decide)
        · exact absurd c_12_50 (by decide)
set_option maxRecDepth 100000 in
set_option maxHeartbeats 8000000 in
theorem cx_rest (hl : l.stackTraces = false) (w : z_W) (S : sp_S) (s : z_Z) (r : Int32) (a : Int32) (g : Int32) (h : z_mst w s) (R : sp_MR S s)  : z_Con G l mX11_rest 22 24 372 w [.ref 1000, .int r, .int a, .int g] (fun v w9 => ∃ (r9 : Int32) (s9 : z_Z), v = some (.int r9) ∧ z_fm 59 w w9 ∧ z_mst w9 s9 ∧ s9.1.1 = sp_k2c r g (a < 0 ∨ nI (sp_R S (sp_i r)).length < a) ∧ sp_MR (if sp_k2c r g (a < 0 ∨ nI (sp_R S (sp_i r)).length < a) = 0 then sp_hrS S (sp_i r) (sp_i g) (sp_i a) else S) s9 ∧ (sp_k2c r g (a < 0 ∨ nI (sp_R S (sp_i r)).length < a) = 0 → r9 = sp_an (sp_hr S (sp_i r) (sp_i g) (sp_i a)).1)) (fun _ _ => False) := by
  generalize hQ9 : (fun (v : Option Value) (w9 : z_W) => ∃ (r9 : Int32) (s9 : z_Z), v = some (.int r9) ∧ z_fm 59 w w9 ∧ z_mst w9 s9 ∧ s9.1.1 = sp_k2c r g (a < 0 ∨ nI (sp_R S (sp_i r)).length < a) ∧ sp_MR (if sp_k2c r g (a < 0 ∨ nI (sp_R S (sp_i r)).length < a) = 0 then sp_hrS S (sp_i r) (sp_i g) (sp_i a) else S) s9 ∧ (sp_k2c r g (a < 0 ∨ nI (sp_R S (sp_i r)).length < a) = 0 → r9 = sp_an (sp_hr S (sp_i r) (sp_i g) (sp_i a)).1)) = Q9
  refine z_body hl (by decide) rfl (Nat.le_of_ble_eq_true rfl) ?_
  show z_J G l mX11_rest _ 0 [(0, _), (1, _), (2, _), (3, _)] [] _ 0 0
  refine j_aload_n dX11_rest_0 rfl rfl ?_
  refine j_iload_n dX11_rest_1 rfl ?_
  refine j_callS dX11_rest_2 kX11_isNoTwo lX11_72 stX11_isNoTwo (cm_isNoTwo_r hl w _) (Nat.le_of_ble_eq_true rfl) ⟨(Nat.le_of_ble_eq_true rfl), (Nat.le_of_ble_eq_true rfl)⟩ rfl (Nat.le_of_ble_eq_true rfl) rfl rfl (fun _ _ h => h.elim) ?_
  rintro _ _ ⟨⟨rfl, hno84⟩ | ⟨rfl, i84, hi84, ht84, rfl⟩, hw84⟩
  · refine j_w w hw84 ?_
    refine j_if_ne (tgt := 15) dX11_rest_5 (by decide) (fun c_5_7 => ?_) (fun c_5_7 => ?_)
    · refine j_iconst (v := 1) dX11_rest_15 (by decide) ?_
      refine j_goto (tgt := 20) dX11_rest_16 (by decide) ?_
      refine j_iconst (v := 1) dX11_rest_20 (by decide) ?_
      refine j_callV (q := (RX11, TX11, 8)) dX11_rest_21 kX11_start lX11_76 inX11_start seX11_start h.m rfl (cm_start1 hl w _ _ h (by decide)) (Nat.le_of_ble_eq_true rfl) ⟨(Nat.le_of_ble_eq_true rfl), (Nat.le_of_ble_eq_true rfl)⟩ rfl (Nat.le_of_ble_eq_true rfl) rfl rfl (fun _ _ h => h.elim) ?_
      rintro _ w1 ⟨rfl, fm1, h1⟩
      have R1 := R.th (k := 1)
      refine j_if_ne (tgt := 62) dX11_rest_24 (by decide) (fun c_24_14 => ?_) (fun c_24_14 => ?_)
      · refine j_iconst (v := 0) dX11_rest_62 (by decide) ?_
        refine j_goto (tgt := 73) dX11_rest_63 (by decide) ?_
        refine j_iret dX11_rest_73 rfl rfl ?_ (Nat.le_of_ble_eq_true rfl) (Nat.le_of_ble_eq_true rfl)
        refine cast (congrFun (congrFun hQ9 _) _) ?_
        refine ⟨_, _, rfl, (fm1.le (q' := 59) (by decide)), h1, sp_X1 (k := 1) ?_ (by decide) rfl R1⟩
        first | (first | (refine sp_k2c_1 ?_ <;> (first | (with_reducible assumption) | (refine Or.inl ?_; (with_reducible assumption)) | (refine Or.inr ?_; (with_reducible assumption)) | (refine Or.inr (Or.inl ?_); (with_reducible assumption)) | (refine Or.inr (Or.inr ?_); (with_reducible assumption)) | (refine Or.inr (Or.inr (Or.inl ?_)); (with_reducible assumption)) | (refine Or.inr (Or.inr (Or.inr ?_)); (with_reducible assumption)) | (refine fun z => Or.elim z ?_ ?_ <;> (with_reducible assumption)) | (refine fun z => Or.elim z ?_ (fun z => Or.elim z ?_ ?_) <;> (with_reducible assumption)) | (refine fun z => Or.elim z ?_ (fun z => Or.elim z ?_ (fun z => Or.elim z ?_ ?_)) <;> (with_reducible assumption)) | (refine fun z => Or.elim z (fun z9 => z9 ?_) ?_ <;> (first | (with_reducible assumption) | (refine Or.inl ?_; (with_reducible assumption)) | (refine Or.inr (Or.inl ?_); (with_reducible assumption)) | (refine Or.inr (Or.inr ?_); (with_reducible assumption)) | (refine Or.inr (Or.inr (Or.inl ?_)); (with_reducible assumption)) | (refine Or.inr (Or.inr (Or.inr ?_)); (with_reducible assumption)))) | (refine Or.inl (fun z => Or.elim z ?_ (fun z => Or.elim z ?_ ?_)) <;> (with_reducible assumption)) | (refine Or.inl (fun z => Or.elim z ?_ (fun z => Or.elim z ?_ (fun z => Or.elim z ?_ ?_))) <;> (with_reducible assumption)))) | (refine sp_k2c_1' ?_ <;> (first | (with_reducible assumption) | (refine Or.inl ?_; (with_reducible assumption)) | (refine Or.inr ?_; (with_reducible assumption)) | (refine Or.inr (Or.inl ?_); (with_reducible assumption)) | (refine Or.inr (Or.inr ?_); (with_reducible assumption)) | (refine Or.inr (Or.inr (Or.inl ?_)); (with_reducible assumption)) | (refine Or.inr (Or.inr (Or.inr ?_)); (with_reducible assumption)) | (refine fun z => Or.elim z ?_ ?_ <;> (with_reducible assumption)) | (refine fun z => Or.elim z ?_ (fun z => Or.elim z ?_ ?_) <;> (with_reducible assumption)) | (refine fun z => Or.elim z ?_ (fun z => Or.elim z ?_ (fun z => Or.elim z ?_ ?_)) <;> (with_reducible assumption)) | (refine fun z => Or.elim z (fun z9 => z9 ?_) ?_ <;> (first | (with_reducible assumption) | (refine Or.inl ?_; (with_reducible assumption)) | (refine Or.inr (Or.inl ?_); (with_reducible assumption)) | (refine Or.inr (Or.inr ?_); (with_reducible assumption)) | (refine Or.inr (Or.inr (Or.inl ?_)); (with_reducible assumption)) | (refine Or.inr (Or.inr (Or.inr ?_)); (with_reducible assumption)))) | (refine Or.inl (fun z => Or.elim z ?_ (fun z => Or.elim z ?_ ?_)) <;> (with_reducible assumption)) | (refine Or.inl (fun z => Or.elim z ?_ (fun z => Or.elim z ?_ (fun z => Or.elim z ?_ ?_))) <;> (with_reducible assumption))))) | (first | (refine sp_k2c_1 ?_ <;> (first | assumption | (refine Or.inl ?_; assumption) | (refine Or.inr ?_; assumption) | (refine Or.inr (Or.inl ?_); assumption) | (refine Or.inr (Or.inr ?_); assumption) | (refine Or.inr (Or.inr (Or.inl ?_)); assumption) | (refine Or.inr (Or.inr (Or.inr ?_)); assumption) | (refine fun z => Or.elim z ?_ ?_ <;> assumption) | (refine fun z => Or.elim z ?_ (fun z => Or.elim z ?_ ?_) <;> assumption) | (refine fun z => Or.elim z ?_ (fun z => Or.elim z ?_ (fun z => Or.elim z ?_ ?_)) <;> assumption) | (refine fun z => Or.elim z (fun z9 => z9 ?_) ?_ <;> (first | assumption | (refine Or.inl ?_; assumption) | (refine Or.inr (Or.inl ?_); assumption) | (refine Or.inr (Or.inr ?_); assumption) | (refine Or.inr (Or.inr (Or.inl ?_)); assumption) | (refine Or.inr (Or.inr (Or.inr ?_)); assumption))) | (refine Or.inl (fun z => Or.elim z ?_ (fun z => Or.elim z ?_ ?_)) <;> assumption) | (refine Or.inl (fun z => Or.elim z ?_ (fun z => Or.elim z ?_ (fun z => Or.elim z ?_ ?_))) <;> assumption))) | (refine sp_k2c_1' ?_ <;> (first | assumption | (refine Or.inl ?_; assumption) | (refine Or.inr ?_; assumption) | (refine Or.inr (Or.inl ?_); assumption) | (refine Or.inr (Or.inr ?_); assumption) | (refine Or.inr (Or.inr (Or.inl ?_)); assumption) | (refine Or.inr (Or.inr (Or.inr ?_)); assumption) | (refine fun z => Or.elim z ?_ ?_ <;> assumption) | (refine fun z => Or.elim z ?_ (fun z => Or.elim z ?_ ?_) <;> assumption) | (refine fun z => Or.elim z ?_ (fun z => Or.elim z ?_ (fun z => Or.elim z ?_ ?_)) <;> assumption) | (refine fun z => Or.elim z (fun z9 => z9 ?_) ?_ <;> (first | assumption | (refine Or.inl ?_; assumption) | (refine Or.inr (Or.inl ?_); assumption) | (refine Or.inr (Or.inr ?_); assumption) | (refine Or.inr (Or.inr (Or.inl ?_)); assumption) | (refine Or.inr (Or.inr (Or.inr ?_)); assumption))) | (refine Or.inl (fun z => Or.elim z ?_ (fun z => Or.elim z ?_ ?_)) <;> assumption) | (refine Or.inl (fun z => Or.elim z ?_ (fun z => Or.elim z ?_ (fun z => Or.elim z ?_ ?_))) <;> assumption))))
      · exact absurd c_24_14 (by decide)
    · exact absurd c_5_7 (by decide)
  · refine j_w w hw84 ?_
    have ei84 : sp_i (nI i84) = i84 := sp_in' (by omega)
    refine j_if_ne (tgt := 15) dX11_rest_5 (by decide) (fun c_5_25 => ?_) (fun c_5_25 => ?_)
    · exact absurd c_5_25 (by decide)
    · refine j_iload_n dX11_rest_8 rfl ?_
      refine j_callS dX11_rest_9 kX11_isNoTwo lX11_72 stX11_isNoTwo (cm_isNoTwo_r hl w _) (Nat.le_of_ble_eq_true rfl) ⟨(Nat.le_of_ble_eq_true rfl), (Nat.le_of_ble_eq_true rfl)⟩ rfl (Nat.le_of_ble_eq_true rfl) rfl rfl (fun _ _ h => h.elim) ?_
      rintro _ _ ⟨⟨rfl, hno85⟩ | ⟨rfl, i85, hi85, ht85, rfl⟩, hw85⟩
      · refine j_w w hw85 ?_
        refine j_if_eq (tgt := 19) dX11_rest_12 (by decide) (fun c_12_31 => ?_) (fun c_12_31 => ?_)
        · exact absurd c_12_31 (by decide)
        · refine j_iconst (v := 1) dX11_rest_15 (by decide) ?_
          refine j_goto (tgt := 20) dX11_rest_16 (by decide) ?_
          refine j_iconst (v := 1) dX11_rest_20 (by decide) ?_
          refine j_callV (q := (RX11, TX11, 8)) dX11_rest_21 kX11_start lX11_76 inX11_start seX11_start h.m rfl (cm_start1 hl w _ _ h (by decide)) (Nat.le_of_ble_eq_true rfl) ⟨(Nat.le_of_ble_eq_true rfl), (Nat.le_of_ble_eq_true rfl)⟩ rfl (Nat.le_of_ble_eq_true rfl) rfl rfl (fun _ _ h => h.elim) ?_
          rintro _ w2 ⟨rfl, fm2, h2⟩
          have R2 := R.th (k := 1)
          refine j_if_ne (tgt := 62) dX11_rest_24 (by decide) (fun c_24_39 => ?_) (fun c_24_39 => ?_)
          · refine j_iconst (v := 0) dX11_rest_62 (by decide) ?_
            refine j_goto (tgt := 73) dX11_rest_63 (by decide) ?_
            refine j_iret dX11_rest_73 rfl rfl ?_ (Nat.le_of_ble_eq_true rfl) (Nat.le_of_ble_eq_true rfl)
            refine cast (congrFun (congrFun hQ9 _) _) ?_
            try rw [ei84]
            refine ⟨_, _, rfl, (fm2.le (q' := 59) (by decide)), h2, sp_X1 (k := 1) ?_ (by decide) rfl R2⟩
            first | (first | (refine sp_k2c_1 ?_ <;> (first | (with_reducible assumption) | (refine Or.inl ?_; (with_reducible assumption)) | (refine Or.inr ?_; (with_reducible assumption)) | (refine Or.inr (Or.inl ?_); (with_reducible assumption)) | (refine Or.inr (Or.inr ?_); (with_reducible assumption)) | (refine Or.inr (Or.inr (Or.inl ?_)); (with_reducible assumption)) | (refine Or.inr (Or.inr (Or.inr ?_)); (with_reducible assumption)) | (refine fun z => Or.elim z ?_ ?_ <;> (with_reducible assumption)) | (refine fun z => Or.elim z ?_ (fun z => Or.elim z ?_ ?_) <;> (with_reducible assumption)) | (refine fun z => Or.elim z ?_ (fun z => Or.elim z ?_ (fun z => Or.elim z ?_ ?_)) <;> (with_reducible assumption)) | (refine fun z => Or.elim z (fun z9 => z9 ?_) ?_ <;> (first | (with_reducible assumption) | (refine Or.inl ?_; (with_reducible assumption)) | (refine Or.inr (Or.inl ?_); (with_reducible assumption)) | (refine Or.inr (Or.inr ?_); (with_reducible assumption)) | (refine Or.inr (Or.inr (Or.inl ?_)); (with_reducible assumption)) | (refine Or.inr (Or.inr (Or.inr ?_)); (with_reducible assumption)))) | (refine Or.inl (fun z => Or.elim z ?_ (fun z => Or.elim z ?_ ?_)) <;> (with_reducible assumption)) | (refine Or.inl (fun z => Or.elim z ?_ (fun z => Or.elim z ?_ (fun z => Or.elim z ?_ ?_))) <;> (with_reducible assumption)))) | (refine sp_k2c_1' ?_ <;> (first | (with_reducible assumption) | (refine Or.inl ?_; (with_reducible assumption)) | (refine Or.inr ?_; (with_reducible assumption)) | (refine Or.inr (Or.inl ?_); (with_reducible assumption)) | (refine Or.inr (Or.inr ?_); (with_reducible assumption)) | (refine Or.inr (Or.inr (Or.inl ?_)); (with_reducible assumption)) | (refine Or.inr (Or.inr (Or.inr ?_)); (with_reducible assumption)) | (refine fun z => Or.elim z ?_ ?_ <;> (with_reducible assumption)) | (refine fun z => Or.elim z ?_ (fun z => Or.elim z ?_ ?_) <;> (with_reducible assumption)) | (refine fun z => Or.elim z ?_ (fun z => Or.elim z ?_ (fun z => Or.elim z ?_ ?_)) <;> (with_reducible assumption)) | (refine fun z => Or.elim z (fun z9 => z9 ?_) ?_ <;> (first | (with_reducible assumption) | (refine Or.inl ?_; (with_reducible assumption)) | (refine Or.inr (Or.inl ?_); (with_reducible assumption)) | (refine Or.inr (Or.inr ?_); (with_reducible assumption)) | (refine Or.inr (Or.inr (Or.inl ?_)); (with_reducible assumption)) | (refine Or.inr (Or.inr (Or.inr ?_)); (with_reducible assumption)))) | (refine Or.inl (fun z => Or.elim z ?_ (fun z => Or.elim z ?_ ?_)) <;> (with_reducible assumption)) | (refine Or.inl (fun z => Or.elim z ?_ (fun z => Or.elim z ?_ (fun z => Or.elim z ?_ ?_))) <;> (with_reducible assumption))))) | (first | (refine sp_k2c_1 ?_ <;> (first | assumption | (refine Or.inl ?_; assumption) | (refine Or.inr ?_; assumption) | (refine Or.inr (Or.inl ?_); assumption) | (refine Or.inr (Or.inr ?_); assumption) | (refine Or.inr (Or.inr (Or.inl ?_)); assumption) | (refine Or.inr (Or.inr (Or.inr ?_)); assumption) | (refine fun z => Or.elim z ?_ ?_ <;> assumption) | (refine fun z => Or.elim z ?_ (fun z => Or.elim z ?_ ?_) <;> assumption) | (refine fun z => Or.elim z ?_ (fun z => Or.elim z ?_ (fun z => Or.elim z ?_ ?_)) <;> assumption) | (refine fun z => Or.elim z (fun z9 => z9 ?_) ?_ <;> (first | assumption | (refine Or.inl ?_; assumption) | (refine Or.inr (Or.inl ?_); assumption) | (refine Or.inr (Or.inr ?_); assumption) | (refine Or.inr (Or.inr (Or.inl ?_)); assumption) | (refine Or.inr (Or.inr (Or.inr ?_)); assumption))) | (refine Or.inl (fun z => Or.elim z ?_ (fun z => Or.elim z ?_ ?_)) <;> assumption) | (refine Or.inl (fun z => Or.elim z ?_ (fun z => Or.elim z ?_ (fun z => Or.elim z ?_ ?_))) <;> assumption))) | (refine sp_k2c_1' ?_ <;> (first | assumption | (refine Or.inl ?_; assumption) | (refine Or.inr ?_; assumption) | (refine Or.inr (Or.inl ?_); assumption) | (refine Or.inr (Or.inr ?_); assumption) | (refine Or.inr (Or.inr (Or.inl ?_)); assumption) | (refine Or.inr (Or.inr (Or.inr ?_)); assumption) | (refine fun z => Or.elim z ?_ ?_ <;> assumption) | (refine fun z => Or.elim z ?_ (fun z => Or.elim z ?_ ?_) <;> assumption) | (refine fun z => Or.elim z ?_ (fun z => Or.elim z ?_ (fun z => Or.elim z ?_ ?_)) <;> assumption) | (refine fun z => Or.elim z (fun z9 => z9 ?_) ?_ <;> (first | assumption | (refine Or.inl ?_; assumption) | (refine Or.inr (Or.inl ?_); assumption) | (refine Or.inr (Or.inr ?_); assumption) | (refine Or.inr (Or.inr (Or.inl ?_)); assumption) | (refine Or.inr (Or.inr (Or.inr ?_)); assumption))) | (refine Or.inl (fun z => Or.elim z ?_ (fun z => Or.elim z ?_ ?_)) <;> assumption) | (refine Or.inl (fun z => Or.elim z ?_ (fun z => Or.elim z ?_ (fun z => Or.elim z ?_ ?_))) <;> assumption))))
          · exact absurd c_24_39 (by decide)
      · refine j_w w hw85 ?_
        have ei85 : sp_i (nI i85) = i85 := sp_in' (by omega)
        refine j_if_eq (tgt := 19) dX11_rest_12 (by decide) (fun c_12_50 => ?_) (fun c_12_50 => ?_)
        · refine j_iconst (v := 0) dX11_rest_19 (by decide) ?_
          refine j_iconst (v := 1) dX11_rest_20 (by decide) ?_
          refine j_callV (q := (RX11, TX11, 8)) dX11_rest_21 kX11_start lX11_76 inX11_start seX11_start h.m rfl (cm_start0 hl w _ _ h) (Nat.le_of_ble_eq_true rfl) ⟨(Nat.le_of_ble_eq_true rfl), (Nat.le_of_ble_eq_true rfl)⟩ rfl (Nat.le_of_ble_eq_true rfl) rfl rfl (fun _ _ h => h.elim) ?_
          rintro _ w3 ⟨rfl, fm3, h3⟩
          have R3 := R.th (k := 0)
          refine j_if_ne (tgt := 62) dX11_rest_24 (by decide) (fun c_24_56 => ?_) (fun c_24_56 => ?_)
          · exact absurd c_24_56 (by decide)
          · refine j_aload_n dX11_rest_27 rfl rfl ?_
            refine j_iload_n dX11_rest_28 rfl ?_
            refine j_iconst (v := 0) dX11_rest_29 (by decide) ?_
            refine j_aload_n dX11_rest_30 rfl rfl ?_
            refine j_getf dX11_rest_31 fX11_21 h3.m rfl ?_
            refine j_iload_n dX11_rest_34 rfl ?_
            obtain ⟨lv87, -, lg87⟩ := z_li.cell h3.rows
            refine j_callV (q := (RJx4a65c, TJx4a65c, 3)) dX11_rest_35 kJx4a65c_get_915e3 lX11_82 inJx4a65c_get_915e3 seJx4a65c_get_915e3 lg87 rfl (cl_get hl w3 41 1001 _ _ (i84) _ h3.rows (z_two2 (i := i84) (by omega))) (Nat.le_of_ble_eq_true rfl) ⟨(Nat.le_of_ble_eq_true rfl), (Nat.le_of_ble_eq_true rfl)⟩ rfl (Nat.le_of_ble_eq_true rfl) rfl rfl (fun _ _ h => h.elim) ?_
            rintro _ _ ⟨rfl, hw88⟩
            refine j_w w3 hw88 ?_
            refine j_castS dX11_rest_38 (z_w 1341 ((lwt_6_3 6).trans rfl) (by decide +kernel)) (z_li.is (h3.rw (i := i84) (by omega)).1) ?_
            obtain ⟨lv90, -, lg90⟩ := z_li.cell (h3.rw (i := i84) (by omega)).1
            refine j_callV (q := (RJx4a65c, TJx4a65c, 3)) dX11_rest_41 kJx4a65c_size_8abf5 lX11_86 inJx4a65c_size_8abf5 seJx4a65c_size_8abf5 lg90 rfl (cl_sizeW hl w3 (i84) (sp_R S (i84)) h3 R3 (by omega) rfl) (Nat.le_of_ble_eq_true rfl) ⟨(Nat.le_of_ble_eq_true rfl), (Nat.le_of_ble_eq_true rfl)⟩ rfl (Nat.le_of_ble_eq_true rfl) rfl rfl (fun _ _ h => h.elim) ?_
            rintro _ _ ⟨rfl, hw91⟩
            refine j_w w3 hw91 ?_
            have hz91 : (sp_R S (i84)).length ≤ 12 := R3.l12 h3 (i := i84) (by omega) rfl
            refine j_callS dX11_rest_44 kX11_isIn lX11_59 stX11_isIn (cm_isIn_r hl w3 _ (0) (nI ((sp_R S (i84)).length))) (Nat.le_of_ble_eq_true rfl) ⟨(Nat.le_of_ble_eq_true rfl), (Nat.le_of_ble_eq_true rfl)⟩ rfl (Nat.le_of_ble_eq_true rfl) rfl rfl (fun _ _ h => h.elim) ?_
            rintro _ _ ⟨⟨rfl, hi92⟩ | ⟨rfl, hno92⟩, hw92⟩
            · refine j_w w3 hw92 ?_
              obtain ⟨i92, hq92, rfl⟩ := sp_nt (m := (sp_R S (i84)).length) rfl (by omega) hi92
              have ei92 : sp_i (nI i92) = i92 := sp_in' (by omega)
              refine j_if_ne (tgt := 54) dX11_rest_47 (by decide) (fun c_47_79 => ?_) (fun c_47_79 => ?_)
              · refine j_iconst (v := 0) dX11_rest_54 (by decide) ?_
                refine j_iconst (v := 2) dX11_rest_55 (by decide) ?_
                refine j_callV (q := (RX11, TX11, 8)) dX11_rest_56 kX11_refuse lX11_52 inX11_refuse seX11_refuse h3.m rfl (cm_refuse0 hl w3 _ _ h3 rfl) (Nat.le_of_ble_eq_true rfl) ⟨(Nat.le_of_ble_eq_true rfl), (Nat.le_of_ble_eq_true rfl)⟩ rfl (Nat.le_of_ble_eq_true rfl) rfl rfl (fun _ _ h => h.elim) ?_
                rintro _ _ ⟨rfl, hw93⟩
                refine j_w w3 hw93 ?_
                refine j_if_eq (tgt := 66) dX11_rest_59 (by decide) (fun c_59_85 => ?_) (fun c_59_85 => ?_)
                · refine j_aload_n dX11_rest_66 rfl rfl ?_
                  refine j_iload_n dX11_rest_67 rfl ?_
                  refine j_iload_n dX11_rest_68 rfl ?_
                  refine j_iload_n dX11_rest_69 rfl ?_
                  refine j_callV (q := (RX11, TX11, 8)) dX11_rest_70 kX11_hearRow lX11_108 inX11_hearRow seX11_hearRow h3.m rfl (cx_hearRow hl w3 S _ (i84) (i92) (i85) h3 R3 (by omega) (by omega) (by omega)) (Nat.le_of_ble_eq_true rfl) ⟨(Nat.le_of_ble_eq_true rfl), (Nat.le_of_ble_eq_true rfl)⟩ rfl (Nat.le_of_ble_eq_true rfl) rfl rfl (fun _ _ h => h.elim) ?_
                  rintro _ w4 ⟨s4, rfl, fm4, h4, R4, th4⟩
                  have tx4 := th4.trans rfl
                  refine j_iret dX11_rest_73 rfl rfl ?_ (Nat.le_of_ble_eq_true rfl) (Nat.le_of_ble_eq_true rfl)
                  refine cast (congrFun (congrFun hQ9 _) _) ?_
                  try rw [ei84]
                  try rw [ei85]
                  try rw [ei92]
                  refine ⟨_, _, rfl, ((fm3.le (q' := 59) (by decide)).tr (fm4.le (q' := 59) (by decide))), h4, sp_X0 ?_ tx4 R4 rfl⟩
                  first | (first | (refine sp_k2c_0 ?_ ?_ ?_ <;> (first | (with_reducible assumption) | (refine Or.inl ?_; (with_reducible assumption)) | (refine Or.inr ?_; (with_reducible assumption)) | (refine Or.inr (Or.inl ?_); (with_reducible assumption)) | (refine Or.inr (Or.inr ?_); (with_reducible assumption)) | (refine Or.inr (Or.inr (Or.inl ?_)); (with_reducible assumption)) | (refine Or.inr (Or.inr (Or.inr ?_)); (with_reducible assumption)) | (refine fun z => Or.elim z ?_ ?_ <;> (with_reducible assumption)) | (refine fun z => Or.elim z ?_ (fun z => Or.elim z ?_ ?_) <;> (with_reducible assumption)) | (refine fun z => Or.elim z ?_ (fun z => Or.elim z ?_ (fun z => Or.elim z ?_ ?_)) <;> (with_reducible assumption)) | (refine fun z => Or.elim z (fun z9 => z9 ?_) ?_ <;> (first | (with_reducible assumption) | (refine Or.inl ?_; (with_reducible assumption)) | (refine Or.inr (Or.inl ?_); (with_reducible assumption)) | (refine Or.inr (Or.inr ?_); (with_reducible assumption)) | (refine Or.inr (Or.inr (Or.inl ?_)); (with_reducible assumption)) | (refine Or.inr (Or.inr (Or.inr ?_)); (with_reducible assumption)))) | (refine Or.inl (fun z => Or.elim z ?_ (fun z => Or.elim z ?_ ?_)) <;> (with_reducible assumption)) | (refine Or.inl (fun z => Or.elim z ?_ (fun z => Or.elim z ?_ (fun z => Or.elim z ?_ ?_))) <;> (with_reducible assumption))))) | (first | (refine sp_k2c_0 ?_ ?_ ?_ <;> (first | assumption | (refine Or.inl ?_; assumption) | (refine Or.inr ?_; assumption) | (refine Or.inr (Or.inl ?_); assumption) | (refine Or.inr (Or.inr ?_); assumption) | (refine Or.inr (Or.inr (Or.inl ?_)); assumption) | (refine Or.inr (Or.inr (Or.inr ?_)); assumption) | (refine fun z => Or.elim z ?_ ?_ <;> assumption) | (refine fun z => Or.elim z ?_ (fun z => Or.elim z ?_ ?_) <;> assumption) | (refine fun z => Or.elim z ?_ (fun z => Or.elim z ?_ (fun z => Or.elim z ?_ ?_)) <;> assumption) | (refine fun z => Or.elim z (fun z9 => z9 ?_) ?_ <;> (first | assumption | (refine Or.inl ?_; assumption) | (refine Or.inr (Or.inl ?_); assumption) | (refine Or.inr (Or.inr ?_); assumption) | (refine Or.inr (Or.inr (Or.inl ?_)); assumption) | (refine Or.inr (Or.inr (Or.inr ?_)); assumption))) | (refine Or.inl (fun z => Or.elim z ?_ (fun z => Or.elim z ?_ ?_)) <;> assumption) | (refine Or.inl (fun z => Or.elim z ?_ (fun z => Or.elim z ?_ (fun z => Or.elim z ?_ ?_))) <;> assumption))))
                · exact absurd c_59_85 (by decide)
              · exact absurd c_47_79 (by decide)
            · refine j_w w3 hw92 ?_
              refine j_if_ne (tgt := 54) dX11_rest_47 (by decide) (fun c_47_103 => ?_) (fun c_47_103 => ?_)
              · exact absurd c_47_103 (by decide)
              · refine j_iconst (v := 1) dX11_rest_50 (by decide) ?_
                refine j_goto (tgt := 55) dX11_rest_51 (by decide) ?_
                refine j_iconst (v := 2) dX11_rest_55 (by decide) ?_
                refine j_callV (q := (RX11, TX11, 8)) dX11_rest_56 kX11_refuse lX11_52 inX11_refuse seX11_refuse h3.m rfl (cm_refuse1 hl w3 _ _ h3 rfl (by decide)) (Nat.le_of_ble_eq_true rfl) ⟨(Nat.le_of_ble_eq_true rfl), (Nat.le_of_ble_eq_true rfl)⟩ rfl (Nat.le_of_ble_eq_true rfl) rfl rfl (fun _ _ h => h.elim) ?_
                rintro _ w5 ⟨rfl, fm5, h5⟩
                have R5 := R3.th (k := 2)
                refine j_if_eq (tgt := 66) dX11_rest_59 (by decide) (fun c_59_111 => ?_) (fun c_59_111 => ?_)
                · exact absurd c_59_111 (by decide)
                · refine j_iconst (v := 0) dX11_rest_62 (by decide) ?_
                  refine j_goto (tgt := 73) dX11_rest_63 (by decide) ?_
                  refine j_iret dX11_rest_73 rfl rfl ?_ (Nat.le_of_ble_eq_true rfl) (Nat.le_of_ble_eq_true rfl)
                  refine cast (congrFun (congrFun hQ9 _) _) ?_
                  try rw [ei84]
                  try rw [ei85]
                  refine ⟨_, _, rfl, ((fm3.le (q' := 59) (by decide)).tr (fm5.le (q' := 59) (by decide))), h5, sp_X1 (k := 2) ?_ (by decide) rfl R5⟩
                  first | (first | (refine sp_k2c_2 ?_ ?_ ?_ <;> (first | (with_reducible assumption) | (refine Or.inl ?_; (with_reducible assumption)) | (refine Or.inr ?_; (with_reducible assumption)) | (refine Or.inr (Or.inl ?_); (with_reducible assumption)) | (refine Or.inr (Or.inr ?_); (with_reducible assumption)) | (refine Or.inr (Or.inr (Or.inl ?_)); (with_reducible assumption)) | (refine Or.inr (Or.inr (Or.inr ?_)); (with_reducible assumption)) | (refine fun z => Or.elim z ?_ ?_ <;> (with_reducible assumption)) | (refine fun z => Or.elim z ?_ (fun z => Or.elim z ?_ ?_) <;> (with_reducible assumption)) | (refine fun z => Or.elim z ?_ (fun z => Or.elim z ?_ (fun z => Or.elim z ?_ ?_)) <;> (with_reducible assumption)) | (refine fun z => Or.elim z (fun z9 => z9 ?_) ?_ <;> (first | (with_reducible assumption) | (refine Or.inl ?_; (with_reducible assumption)) | (refine Or.inr (Or.inl ?_); (with_reducible assumption)) | (refine Or.inr (Or.inr ?_); (with_reducible assumption)) | (refine Or.inr (Or.inr (Or.inl ?_)); (with_reducible assumption)) | (refine Or.inr (Or.inr (Or.inr ?_)); (with_reducible assumption)))) | (refine Or.inl (fun z => Or.elim z ?_ (fun z => Or.elim z ?_ ?_)) <;> (with_reducible assumption)) | (refine Or.inl (fun z => Or.elim z ?_ (fun z => Or.elim z ?_ (fun z => Or.elim z ?_ ?_))) <;> (with_reducible assumption))))) | (first | (refine sp_k2c_2 ?_ ?_ ?_ <;> (first | assumption | (refine Or.inl ?_; assumption) | (refine Or.inr ?_; assumption) | (refine Or.inr (Or.inl ?_); assumption) | (refine Or.inr (Or.inr ?_); assumption) | (refine Or.inr (Or.inr (Or.inl ?_)); assumption) | (refine Or.inr (Or.inr (Or.inr ?_)); assumption) | (refine fun z => Or.elim z ?_ ?_ <;> assumption) | (refine fun z => Or.elim z ?_ (fun z => Or.elim z ?_ ?_) <;> assumption) | (refine fun z => Or.elim z ?_ (fun z => Or.elim z ?_ (fun z => Or.elim z ?_ ?_)) <;> assumption) | (refine fun z => Or.elim z (fun z9 => z9 ?_) ?_ <;> (first | assumption | (refine Or.inl ?_; assumption) | (refine Or.inr (Or.inl ?_); assumption) | (refine Or.inr (Or.inr ?_); assumption) | (refine Or.inr (Or.inr (Or.inl ?_)); assumption) | (refine Or.inr (Or.inr (Or.inr ?_)); assumption))) | (refine Or.inl (fun z => Or.elim z ?_ (fun z => Or.elim z ?_ ?_)) <;> assumption) | (refine Or.inl (fun z => Or.elim z ?_ (fun z => Or.elim z ?_ (fun z => Or.elim z ?_ ?_))) <;> assumption))))
        · exact absurd c_12_50 (by decide)
end ZMe2
end ZM2
section ZM3
section ZMe3
variable {G : z_G} {l : Launch}
set_option maxRecDepth 100000 in
set_option maxHeartbeats 8000000 in
theorem cx_removeIf (hl : l.stackTraces = false) (w : z_W) (S : sp_S) (s : z_Z) (r : Int32) (t : Int32) (n : Int32) (h : z_mst w s) (R : sp_MR S s)  : z_Con G l mX11_removeIf 22 0 0 w [.ref 1000, .int r, .int t, .int n] (fun v w9 => ∃ (r9 : Int32) (s9 : z_Z), v = some (.int r9) ∧ z_fm 59 w w9 ∧ z_mst w9 s9 ∧ s9.1.1 = q_k22 r ((t < 0 ∨ 5 < t) ∨ sp_bv n) ∧ sp_MR (if q_k22 r ((t < 0 ∨ 5 < t) ∨ sp_bv n) = 0 then sp_sftS S (sp_i r) t n else S) s9 ∧ (q_k22 r ((t < 0 ∨ 5 < t) ∨ sp_bv n) = 0 → r9 = sp_ab (sp_sft S (sp_i r) t n).1)) (fun _ _ => False) := by
  generalize hQ9 : (fun (v : Option Value) (w9 : z_W) => ∃ (r9 : Int32) (s9 : z_Z), v = some (.int r9) ∧ z_fm 59 w w9 ∧ z_mst w9 s9 ∧ s9.1.1 = q_k22 r ((t < 0 ∨ 5 < t) ∨ sp_bv n) ∧ sp_MR (if q_k22 r ((t < 0 ∨ 5 < t) ∨ sp_bv n) = 0 then sp_sftS S (sp_i r) t n else S) s9 ∧ (q_k22 r ((t < 0 ∨ 5 < t) ∨ sp_bv n) = 0 → r9 = sp_ab (sp_sft S (sp_i r) t n).1)) = Q9
  refine z_body hl (by decide) rfl (Nat.le_of_ble_eq_true rfl) ?_
  show z_J G l mX11_removeIf _ 0 [(0, _), (1, _), (2, _), (3, _)] [] _ 0 0
  refine j_aload_n dX11_removeIf_0 rfl rfl ?_
  refine j_iload_n dX11_removeIf_1 rfl ?_
  refine j_callS dX11_removeIf_2 kX11_isNoTwo lX11_72 stX11_isNoTwo (cm_isNoTwo_r hl w _) (Nat.le_of_ble_eq_true rfl) ⟨(Nat.le_of_ble_eq_true rfl), (Nat.le_of_ble_eq_true rfl)⟩ rfl (Nat.le_of_ble_eq_true rfl) rfl rfl (fun _ _ h => h.elim) ?_
  rintro _ _ ⟨⟨rfl, hno94⟩ | ⟨rfl, i94, hi94, ht94, rfl⟩, hw94⟩
  · refine j_w w hw94 ?_
    refine j_iconst (v := 1) dX11_removeIf_5 (by decide) ?_
    refine j_callV (q := (RX11, TX11, 8)) dX11_removeIf_6 kX11_start lX11_76 inX11_start seX11_start h.m rfl (cm_start1 hl w _ _ h (by decide)) (Nat.le_of_ble_eq_true rfl) ⟨(Nat.le_of_ble_eq_true rfl), (Nat.le_of_ble_eq_true rfl)⟩ rfl (Nat.le_of_ble_eq_true rfl) rfl rfl (fun _ _ h => h.elim) ?_
    rintro _ w1 ⟨rfl, fm1, h1⟩
    have R1 := R.th (k := 1)
    refine j_if_ne (tgt := 41) dX11_removeIf_9 (by decide) (fun c_9_11 => ?_) (fun c_9_11 => ?_)
    · refine j_iconst (v := 0) dX11_removeIf_41 (by decide) ?_
      refine j_iret dX11_removeIf_42 rfl rfl ?_ (Nat.le_of_ble_eq_true rfl) (Nat.le_of_ble_eq_true rfl)
      refine cast (congrFun (congrFun hQ9 _) _) ?_
      refine ⟨_, _, rfl, (fm1.le (q' := 59) (by decide)), h1, sp_X1 (k := 1) ?_ (by decide) rfl R1⟩
      first | (first | (refine sp_k22_1 ?_ <;> (first | (with_reducible assumption) | (refine Or.inl ?_; (with_reducible assumption)) | (refine Or.inr ?_; (with_reducible assumption)) | (refine Or.inr (Or.inl ?_); (with_reducible assumption)) | (refine Or.inr (Or.inr ?_); (with_reducible assumption)) | (refine Or.inr (Or.inr (Or.inl ?_)); (with_reducible assumption)) | (refine Or.inr (Or.inr (Or.inr ?_)); (with_reducible assumption)) | (refine fun z => Or.elim z ?_ ?_ <;> (with_reducible assumption)) | (refine fun z => Or.elim z ?_ (fun z => Or.elim z ?_ ?_) <;> (with_reducible assumption)) | (refine fun z => Or.elim z ?_ (fun z => Or.elim z ?_ (fun z => Or.elim z ?_ ?_)) <;> (with_reducible assumption)) | (refine fun z => Or.elim z (fun z9 => z9 ?_) ?_ <;> (first | (with_reducible assumption) | (refine Or.inl ?_; (with_reducible assumption)) | (refine Or.inr (Or.inl ?_); (with_reducible assumption)) | (refine Or.inr (Or.inr ?_); (with_reducible assumption)) | (refine Or.inr (Or.inr (Or.inl ?_)); (with_reducible assumption)) | (refine Or.inr (Or.inr (Or.inr ?_)); (with_reducible assumption)))) | (refine Or.inl (fun z => Or.elim z ?_ (fun z => Or.elim z ?_ ?_)) <;> (with_reducible assumption)) | (refine Or.inl (fun z => Or.elim z ?_ (fun z => Or.elim z ?_ (fun z => Or.elim z ?_ ?_))) <;> (with_reducible assumption))))) | (first | (refine sp_k22_1 ?_ <;> (first | assumption | (refine Or.inl ?_; assumption) | (refine Or.inr ?_; assumption) | (refine Or.inr (Or.inl ?_); assumption) | (refine Or.inr (Or.inr ?_); assumption) | (refine Or.inr (Or.inr (Or.inl ?_)); assumption) | (refine Or.inr (Or.inr (Or.inr ?_)); assumption) | (refine fun z => Or.elim z ?_ ?_ <;> assumption) | (refine fun z => Or.elim z ?_ (fun z => Or.elim z ?_ ?_) <;> assumption) | (refine fun z => Or.elim z ?_ (fun z => Or.elim z ?_ (fun z => Or.elim z ?_ ?_)) <;> assumption) | (refine fun z => Or.elim z (fun z9 => z9 ?_) ?_ <;> (first | assumption | (refine Or.inl ?_; assumption) | (refine Or.inr (Or.inl ?_); assumption) | (refine Or.inr (Or.inr ?_); assumption) | (refine Or.inr (Or.inr (Or.inl ?_)); assumption) | (refine Or.inr (Or.inr (Or.inr ?_)); assumption))) | (refine Or.inl (fun z => Or.elim z ?_ (fun z => Or.elim z ?_ ?_)) <;> assumption) | (refine Or.inl (fun z => Or.elim z ?_ (fun z => Or.elim z ?_ (fun z => Or.elim z ?_ ?_))) <;> assumption))))
    · exact absurd c_9_11 (by decide)
  · refine j_w w hw94 ?_
    have ei94 : sp_i (nI i94) = i94 := sp_in' (by omega)
    refine j_iconst (v := 1) dX11_removeIf_5 (by decide) ?_
    refine j_callV (q := (RX11, TX11, 8)) dX11_removeIf_6 kX11_start lX11_76 inX11_start seX11_start h.m rfl (cm_start0 hl w _ _ h) (Nat.le_of_ble_eq_true rfl) ⟨(Nat.le_of_ble_eq_true rfl), (Nat.le_of_ble_eq_true rfl)⟩ rfl (Nat.le_of_ble_eq_true rfl) rfl rfl (fun _ _ h => h.elim) ?_
    rintro _ w2 ⟨rfl, fm2, h2⟩
    have R2 := R.th (k := 0)
    refine j_if_ne (tgt := 41) dX11_removeIf_9 (by decide) (fun c_9_24 => ?_) (fun c_9_24 => ?_)
    · exact absurd c_9_24 (by decide)
    · refine j_aload_n dX11_removeIf_12 rfl rfl ?_
      refine j_iload_n dX11_removeIf_13 rfl ?_
      refine j_iconst (v := 0) dX11_removeIf_14 (by decide) ?_
      refine j_iconst (v := 5) dX11_removeIf_15 (by decide) ?_
      refine j_callS dX11_removeIf_16 kX11_isIn lX11_59 stX11_isIn (cm_isIn_r hl w2 _ (0) (5)) (Nat.le_of_ble_eq_true rfl) ⟨(Nat.le_of_ble_eq_true rfl), (Nat.le_of_ble_eq_true rfl)⟩ rfl (Nat.le_of_ble_eq_true rfl) rfl rfl (fun _ _ h => h.elim) ?_
      rintro _ _ ⟨⟨rfl, hye95⟩ | ⟨rfl, hno95⟩, hw95⟩
      · refine j_w w2 hw95 ?_
        refine j_if_eq (tgt := 29) dX11_removeIf_19 (by decide) (fun c_19_33 => ?_) (fun c_19_33 => ?_)
        · exact absurd c_19_33 (by decide)
        · refine j_iload_n dX11_removeIf_22 rfl ?_
          refine j_callS dX11_removeIf_23 kX11_isNoValue lX11_79 stX11_isNoValue (cm_isNoValue_r hl w2 _) (Nat.le_of_ble_eq_true rfl) ⟨(Nat.le_of_ble_eq_true rfl), (Nat.le_of_ble_eq_true rfl)⟩ rfl (Nat.le_of_ble_eq_true rfl) rfl rfl (fun _ _ h => h.elim) ?_
          rintro _ _ ⟨⟨rfl, hno96⟩ | ⟨rfl, hye96⟩, hw96⟩
          · refine j_w w2 hw96 ?_
            refine j_if_eq (tgt := 33) dX11_removeIf_26 (by decide) (fun c_26_39 => ?_) (fun c_26_39 => ?_)
            · exact absurd c_26_39 (by decide)
            · refine j_iconst (v := 1) dX11_removeIf_29 (by decide) ?_
              refine j_goto (tgt := 34) dX11_removeIf_30 (by decide) ?_
              refine j_iconst (v := 2) dX11_removeIf_34 (by decide) ?_
              refine j_callV (q := (RX11, TX11, 8)) dX11_removeIf_35 kX11_refuse lX11_52 inX11_refuse seX11_refuse h2.m rfl (cm_refuse1 hl w2 _ _ h2 rfl (by decide)) (Nat.le_of_ble_eq_true rfl) ⟨(Nat.le_of_ble_eq_true rfl), (Nat.le_of_ble_eq_true rfl)⟩ rfl (Nat.le_of_ble_eq_true rfl) rfl rfl (fun _ _ h => h.elim) ?_
              rintro _ w3 ⟨rfl, fm3, h3⟩
              have R3 := R2.th (k := 2)
              refine j_if_eq (tgt := 43) dX11_removeIf_38 (by decide) (fun c_38_47 => ?_) (fun c_38_47 => ?_)
              · exact absurd c_38_47 (by decide)
              · refine j_iconst (v := 0) dX11_removeIf_41 (by decide) ?_
                refine j_iret dX11_removeIf_42 rfl rfl ?_ (Nat.le_of_ble_eq_true rfl) (Nat.le_of_ble_eq_true rfl)
                refine cast (congrFun (congrFun hQ9 _) _) ?_
                try rw [ei94]
                refine ⟨_, _, rfl, ((fm2.le (q' := 59) (by decide)).tr (fm3.le (q' := 59) (by decide))), h3, sp_X1 (k := 2) ?_ (by decide) rfl R3⟩
                first | (first | (refine sp_k22_2 ?_ ?_ <;> (first | (with_reducible assumption) | (refine Or.inl ?_; (with_reducible assumption)) | (refine Or.inr ?_; (with_reducible assumption)) | (refine Or.inr (Or.inl ?_); (with_reducible assumption)) | (refine Or.inr (Or.inr ?_); (with_reducible assumption)) | (refine Or.inr (Or.inr (Or.inl ?_)); (with_reducible assumption)) | (refine Or.inr (Or.inr (Or.inr ?_)); (with_reducible assumption)) | (refine fun z => Or.elim z ?_ ?_ <;> (with_reducible assumption)) | (refine fun z => Or.elim z ?_ (fun z => Or.elim z ?_ ?_) <;> (with_reducible assumption)) | (refine fun z => Or.elim z ?_ (fun z => Or.elim z ?_ (fun z => Or.elim z ?_ ?_)) <;> (with_reducible assumption)) | (refine fun z => Or.elim z (fun z9 => z9 ?_) ?_ <;> (first | (with_reducible assumption) | (refine Or.inl ?_; (with_reducible assumption)) | (refine Or.inr (Or.inl ?_); (with_reducible assumption)) | (refine Or.inr (Or.inr ?_); (with_reducible assumption)) | (refine Or.inr (Or.inr (Or.inl ?_)); (with_reducible assumption)) | (refine Or.inr (Or.inr (Or.inr ?_)); (with_reducible assumption)))) | (refine Or.inl (fun z => Or.elim z ?_ (fun z => Or.elim z ?_ ?_)) <;> (with_reducible assumption)) | (refine Or.inl (fun z => Or.elim z ?_ (fun z => Or.elim z ?_ (fun z => Or.elim z ?_ ?_))) <;> (with_reducible assumption))))) | (first | (refine sp_k22_2 ?_ ?_ <;> (first | assumption | (refine Or.inl ?_; assumption) | (refine Or.inr ?_; assumption) | (refine Or.inr (Or.inl ?_); assumption) | (refine Or.inr (Or.inr ?_); assumption) | (refine Or.inr (Or.inr (Or.inl ?_)); assumption) | (refine Or.inr (Or.inr (Or.inr ?_)); assumption) | (refine fun z => Or.elim z ?_ ?_ <;> assumption) | (refine fun z => Or.elim z ?_ (fun z => Or.elim z ?_ ?_) <;> assumption) | (refine fun z => Or.elim z ?_ (fun z => Or.elim z ?_ (fun z => Or.elim z ?_ ?_)) <;> assumption) | (refine fun z => Or.elim z (fun z9 => z9 ?_) ?_ <;> (first | assumption | (refine Or.inl ?_; assumption) | (refine Or.inr (Or.inl ?_); assumption) | (refine Or.inr (Or.inr ?_); assumption) | (refine Or.inr (Or.inr (Or.inl ?_)); assumption) | (refine Or.inr (Or.inr (Or.inr ?_)); assumption))) | (refine Or.inl (fun z => Or.elim z ?_ (fun z => Or.elim z ?_ ?_)) <;> assumption) | (refine Or.inl (fun z => Or.elim z ?_ (fun z => Or.elim z ?_ (fun z => Or.elim z ?_ ?_))) <;> assumption))))
          · refine j_w w2 hw96 ?_
            refine j_if_eq (tgt := 33) dX11_removeIf_26 (by decide) (fun c_26_56 => ?_) (fun c_26_56 => ?_)
            · refine j_iconst (v := 0) dX11_removeIf_33 (by decide) ?_
              refine j_iconst (v := 2) dX11_removeIf_34 (by decide) ?_
              refine j_callV (q := (RX11, TX11, 8)) dX11_removeIf_35 kX11_refuse lX11_52 inX11_refuse seX11_refuse h2.m rfl (cm_refuse0 hl w2 _ _ h2 rfl) (Nat.le_of_ble_eq_true rfl) ⟨(Nat.le_of_ble_eq_true rfl), (Nat.le_of_ble_eq_true rfl)⟩ rfl (Nat.le_of_ble_eq_true rfl) rfl rfl (fun _ _ h => h.elim) ?_
              rintro _ _ ⟨rfl, hw97⟩
              refine j_w w2 hw97 ?_
              refine j_if_eq (tgt := 43) dX11_removeIf_38 (by decide) (fun c_38_62 => ?_) (fun c_38_62 => ?_)
              · refine j_aload_n dX11_removeIf_43 rfl rfl ?_
                refine j_getf dX11_removeIf_44 fX11_31 h2.m rfl ?_
                refine j_iload_n dX11_removeIf_47 rfl ?_
                obtain ⟨fz98, gz98, hz98⟩ := h2.co
                refine j_aald (v := .ref (1004 + i94)) dX11_removeIf_48 gz98 rfl rfl (vp_in_nI (by omega) (by omega)) (by rw [z_cla (by omega)]; exact hz98 _ (by omega)) ?_
                refine j_iconst (v := 0) dX11_removeIf_49 (by decide) ?_
                refine j_dup2 dX11_removeIf_50 rfl rfl ?_
                refine j_ld dX11_removeIf_51 (h2.cn (i := i94) (by omega)) (vp_in_nI (n := 0) (by decide) (by decide)) ?_
                refine j_iconst (v := 1) dX11_removeIf_52 (by decide) ?_
                refine j_iadd dX11_removeIf_53 ?_
                refine j_sto (w' := _) dX11_removeIf_54 (h2.cn (i := i94) (by omega)) (vp_in_nI (n := 0) (by decide) (by decide)) rfl ?_
                refine j_seal (by omega) ?_
                intro w4 u4
                have fw4 := u4.fw (ρ := 44 + i94) (by omega) (by omega)
                have h4 := h2.up44 (i0 := i94) (by omega) fw4 u4.1
                rw [show (0 : Int32).toNatClampNeg = 0 by decide] at h4
                have R4 := R2.bp (i := i94) (k := 0) (by omega) (by decide)
                refine j_iconst (v := 0) dX11_removeIf_55 (by decide) ?_
                refine j_istore (lo' := [(4, _), (0, _), (1, _), (2, _), (3, _)]) dX11_removeIf_56 (by decide) rfl ?_
                refine j_iconst (v := 0) dX11_removeIf_58 (by decide) ?_
                refine j_istore (lo' := [(5, _), (4, _), (0, _), (1, _), (2, _), (3, _)]) dX11_removeIf_59 (by decide) rfl ?_
                have loop61 : ∀ (n9 : Nat) (w5 : z_W) (s1 : z_Z) (A L : List Int32) (c : Nat → Int32) (k : Bool) (a : Nat), (a = A.length) → (L.length < n9) → (A.length ≤ (A ++ L).length) → (sp_ri (sp_F S i94) t n c A k L = sp_sft S i94 t n) → (sp_MR (sp_uR (sp_uC S i94 c) i94 (A ++ L)) s1) → (s1.1.1 = 0) → (z_mst w5 s1) → (z_fm 59 w w5) → z_J G l mX11_removeIf (22, 0, 0, w, Q9, (fun _ _ => False)) 61 [(0, .ref 1000), (1, .int (nI i94)), (2, .int t), (3, .int n), (4, .int (z_bi k)), (5, .int (nI a))] [] w5 0 0 := by
                  intro n9
                  induction n9 with
                  | zero => intro w5 s1 A L c k a ha hf9 hAl he hR hth hm hfm; exact absurd hf9 (Nat.not_lt_zero _)
                  | succ n9 ih =>
                    intro w5 s1 A L c k a ha hf9 hAl he hR hth hm hfm
                    subst ha
                    refine j_iload dX11_removeIf_61 rfl ?_
                    refine j_aload_n dX11_removeIf_63 rfl rfl ?_
                    refine j_getf dX11_removeIf_64 fX11_21 hm.m rfl ?_
                    refine j_iload_n dX11_removeIf_67 rfl ?_
                    obtain ⟨lv102, -, lg102⟩ := z_li.cell hm.rows
                    refine j_callV (q := (RJx4a65c, TJx4a65c, 3)) dX11_removeIf_68 kJx4a65c_get_915e3 lX11_82 inJx4a65c_get_915e3 seJx4a65c_get_915e3 lg102 rfl (cl_get hl w5 41 1001 _ _ (i94) _ hm.rows (z_two2 (i := i94) (by omega))) (Nat.le_of_ble_eq_true rfl) ⟨(Nat.le_of_ble_eq_true rfl), (Nat.le_of_ble_eq_true rfl)⟩ rfl (Nat.le_of_ble_eq_true rfl) rfl rfl (fun _ _ h => h.elim) ?_
                    rintro _ _ ⟨rfl, hw103⟩
                    refine j_w w5 hw103 ?_
                    refine j_castS dX11_removeIf_71 (z_w 1341 ((lwt_6_3 6).trans rfl) (by decide +kernel)) (z_li.is (hm.rw (i := i94) (by omega)).1) ?_
                    obtain ⟨lv105, -, lg105⟩ := z_li.cell (hm.rw (i := i94) (by omega)).1
                    refine j_callV (q := (RJx4a65c, TJx4a65c, 3)) dX11_removeIf_74 kJx4a65c_size_8abf5 lX11_86 inJx4a65c_size_8abf5 seJx4a65c_size_8abf5 lg105 rfl (cl_sizeW hl w5 (i94) ((A ++ L)) hm hR (by omega) z_fu_self) (Nat.le_of_ble_eq_true rfl) ⟨(Nat.le_of_ble_eq_true rfl), (Nat.le_of_ble_eq_true rfl)⟩ rfl (Nat.le_of_ble_eq_true rfl) rfl rfl (fun _ _ h => h.elim) ?_
                    rintro _ _ ⟨rfl, hw106⟩
                    refine j_w w5 hw106 ?_
                    have hz106 : ((A ++ L)).length ≤ 12 := hR.l12 hm (i := i94) (by omega) z_fu_self
                    refine j_icmp_ge (tgt := 207) dX11_removeIf_77 (by decide) (fun c_77_105 => ?_) (fun c_77_105 => ?_)
                    · have hb77 : ((A ++ L)).length ≤ A.length := (nI_leI (a := ((A ++ L)).length) (b := A.length) (by omega) (by omega)).mp c_77_105
                      obtain rfl : L = [] := List.eq_nil_of_length_eq_zero (by have h9 := hb77; rw [List.length_append] at h9; omega)
                      refine j_aload_n dX11_removeIf_207 rfl rfl ?_
                      refine j_getf dX11_removeIf_208 fX11_31 hm.m rfl ?_
                      refine j_iload_n dX11_removeIf_211 rfl ?_
                      obtain ⟨fz107, gz107, hz107⟩ := hm.co
                      refine j_aald (v := .ref (1004 + i94)) dX11_removeIf_212 gz107 rfl rfl (vp_in_nI (by omega) (by omega)) (by rw [z_cla (by omega)]; exact hz107 _ (by omega)) ?_
                      refine j_iconst (v := 1) dX11_removeIf_213 (by decide) ?_
                      refine j_dup2 dX11_removeIf_214 rfl rfl ?_
                      refine j_ld dX11_removeIf_215 (hm.cn (i := i94) (by omega)) (vp_in_nI (n := 1) (by decide) (by decide)) ?_
                      refine j_iconst (v := 1) dX11_removeIf_216 (by decide) ?_
                      refine j_iadd dX11_removeIf_217 ?_
                      refine j_sto (w' := _) dX11_removeIf_218 (hm.cn (i := i94) (by omega)) (vp_in_nI (n := 1) (by decide) (by decide)) rfl ?_
                      refine j_seal (by omega) ?_
                      intro w6 u6
                      have fw6 := u6.fw (ρ := 44 + i94) (by omega) (by omega)
                      have h6 := hm.up44 (i0 := i94) (by omega) fw6 u6.1
                      rw [show (1 : Int32).toNatClampNeg = 1 by decide] at h6
                      have R6 := hR.bpR (i := i94) (k := 1) (by omega) (by decide)
                      refine j_iload dX11_removeIf_219 rfl ?_
                      refine j_callS dX11_removeIf_221 kX11_one lX11_68 stX11_one (cm_one_r hl w6 k) (Nat.le_of_ble_eq_true rfl) ⟨(Nat.le_of_ble_eq_true rfl), (Nat.le_of_ble_eq_true rfl)⟩ rfl (Nat.le_of_ble_eq_true rfl) rfl rfl (fun _ _ h => h.elim) ?_
                      rintro _ _ ⟨rfl, hw110⟩
                      refine j_w w6 hw110 ?_
                      refine j_iret dX11_removeIf_224 rfl rfl ?_ (Nat.le_of_ble_eq_true rfl) (Nat.le_of_ble_eq_true rfl)
                      refine cast (congrFun (congrFun hQ9 _) _) ?_
                      rw [List.append_nil] at R6
                      try rw [ei94]
                      refine ⟨_, _, rfl, (hfm.tr (fw6.fm (q := 59) (by omega))), h6, sp_X0 ?_ hth (by unfold sp_sftS; rw [← he]; exact R6) (by rw [← he]; rfl)⟩
                      first | (first | (refine sp_k22_0 ?_ ?_ <;> (first | (with_reducible assumption) | (refine Or.inl ?_; (with_reducible assumption)) | (refine Or.inr ?_; (with_reducible assumption)) | (refine Or.inr (Or.inl ?_); (with_reducible assumption)) | (refine Or.inr (Or.inr ?_); (with_reducible assumption)) | (refine Or.inr (Or.inr (Or.inl ?_)); (with_reducible assumption)) | (refine Or.inr (Or.inr (Or.inr ?_)); (with_reducible assumption)) | (refine fun z => Or.elim z ?_ ?_ <;> (with_reducible assumption)) | (refine fun z => Or.elim z ?_ (fun z => Or.elim z ?_ ?_) <;> (with_reducible assumption)) | (refine fun z => Or.elim z ?_ (fun z => Or.elim z ?_ (fun z => Or.elim z ?_ ?_)) <;> (with_reducible assumption)) | (refine fun z => Or.elim z (fun z9 => z9 ?_) ?_ <;> (first | (with_reducible assumption) | (refine Or.inl ?_; (with_reducible assumption)) | (refine Or.inr (Or.inl ?_); (with_reducible assumption)) | (refine Or.inr (Or.inr ?_); (with_reducible assumption)) | (refine Or.inr (Or.inr (Or.inl ?_)); (with_reducible assumption)) | (refine Or.inr (Or.inr (Or.inr ?_)); (with_reducible assumption)))) | (refine Or.inl (fun z => Or.elim z ?_ (fun z => Or.elim z ?_ ?_)) <;> (with_reducible assumption)) | (refine Or.inl (fun z => Or.elim z ?_ (fun z => Or.elim z ?_ (fun z => Or.elim z ?_ ?_))) <;> (with_reducible assumption))))) | (first | (refine sp_k22_0 ?_ ?_ <;> (first | assumption | (refine Or.inl ?_; assumption) | (refine Or.inr ?_; assumption) | (refine Or.inr (Or.inl ?_); assumption) | (refine Or.inr (Or.inr ?_); assumption) | (refine Or.inr (Or.inr (Or.inl ?_)); assumption) | (refine Or.inr (Or.inr (Or.inr ?_)); assumption) | (refine fun z => Or.elim z ?_ ?_ <;> assumption) | (refine fun z => Or.elim z ?_ (fun z => Or.elim z ?_ ?_) <;> assumption) | (refine fun z => Or.elim z ?_ (fun z => Or.elim z ?_ (fun z => Or.elim z ?_ ?_)) <;> assumption) | (refine fun z => Or.elim z (fun z9 => z9 ?_) ?_ <;> (first | assumption | (refine Or.inl ?_; assumption) | (refine Or.inr (Or.inl ?_); assumption) | (refine Or.inr (Or.inr ?_); assumption) | (refine Or.inr (Or.inr (Or.inl ?_)); assumption) | (refine Or.inr (Or.inr (Or.inr ?_)); assumption))) | (refine Or.inl (fun z => Or.elim z ?_ (fun z => Or.elim z ?_ ?_)) <;> assumption) | (refine Or.inl (fun z => Or.elim z ?_ (fun z => Or.elim z ?_ (fun z => Or.elim z ?_ ?_))) <;> assumption))))
                    · have hb77 : A.length < ((A ++ L)).length := Nat.not_le.mp (fun z => c_77_105 ((nI_leI (a := ((A ++ L)).length) (b := A.length) (by omega) (by omega)).mpr z))
                      obtain ⟨x, L2, rfl⟩ : ∃ x L2, L = x :: L2 := by
                        cases L with
                        | nil => rw [List.append_nil] at hb77; exact absurd hb77 (Nat.lt_irrefl _)
                        | cons x L2 => exact ⟨x, L2, rfl⟩
                      have hmid := sp_lmid (A := A) (D := L2) (v := x)
                      refine j_aload_n dX11_removeIf_80 rfl rfl ?_
                      refine j_getf dX11_removeIf_81 fX11_31 hm.m rfl ?_
                      refine j_iload_n dX11_removeIf_84 rfl ?_
                      obtain ⟨fz111, gz111, hz111⟩ := hm.co
                      refine j_aald (v := .ref (1004 + i94)) dX11_removeIf_85 gz111 rfl rfl (vp_in_nI (by omega) (by omega)) (by rw [z_cla (by omega)]; exact hz111 _ (by omega)) ?_
                      refine j_iconst (v := 1) dX11_removeIf_86 (by decide) ?_
                      refine j_dup2 dX11_removeIf_87 rfl rfl ?_
                      refine j_ld dX11_removeIf_88 (hm.cn (i := i94) (by omega)) (vp_in_nI (n := 1) (by decide) (by decide)) ?_
                      refine j_iconst (v := 1) dX11_removeIf_89 (by decide) ?_
                      refine j_iadd dX11_removeIf_90 ?_
                      refine j_sto (w' := _) dX11_removeIf_91 (hm.cn (i := i94) (by omega)) (vp_in_nI (n := 1) (by decide) (by decide)) rfl ?_
                      refine j_seal (by omega) ?_
                      intro w7 u7
                      have fw7 := u7.fw (ρ := 44 + i94) (by omega) (by omega)
                      have h7 := hm.up44 (i0 := i94) (by omega) fw7 u7.1
                      rw [show (1 : Int32).toNatClampNeg = 1 by decide] at h7
                      have R7 := hR.bpR (i := i94) (k := 1) (by omega) (by decide)
                      refine j_aload_n dX11_removeIf_92 rfl rfl ?_
                      refine j_getf dX11_removeIf_93 fX11_31 h7.m rfl ?_
                      refine j_iload_n dX11_removeIf_96 rfl ?_
                      obtain ⟨fz114, gz114, hz114⟩ := h7.co
                      refine j_aald (v := .ref (1004 + i94)) dX11_removeIf_97 gz114 rfl rfl (vp_in_nI (by omega) (by omega)) (by rw [z_cla (by omega)]; exact hz114 _ (by omega)) ?_
                      refine j_iconst (v := 2) dX11_removeIf_98 (by decide) ?_
                      refine j_dup2 dX11_removeIf_99 rfl rfl ?_
                      refine j_ld dX11_removeIf_100 (h7.cn (i := i94) (by omega)) (vp_in_nI (n := 2) (by decide) (by decide)) ?_
                      refine j_iconst (v := 1) dX11_removeIf_101 (by decide) ?_
                      refine j_iadd dX11_removeIf_102 ?_
                      refine j_sto (w' := _) dX11_removeIf_103 (h7.cn (i := i94) (by omega)) (vp_in_nI (n := 2) (by decide) (by decide)) rfl ?_
                      refine j_seal (by omega) ?_
                      intro w8 u8
                      have fw8 := u8.fw (ρ := 44 + i94) (by omega) (by omega)
                      have h8 := h7.up44 (i0 := i94) (by omega) fw8 u8.1
                      rw [show (2 : Int32).toNatClampNeg = 2 by decide] at h8
                      have R8 := R7.bpR (i := i94) (k := 2) (by omega) (by decide)
                      refine j_iload_n dX11_removeIf_104 rfl ?_
                      refine j_aload_n dX11_removeIf_105 rfl rfl ?_
                      refine j_getf dX11_removeIf_106 fX11_21 h8.m rfl ?_
                      refine j_iload_n dX11_removeIf_109 rfl ?_
                      obtain ⟨lv118, -, lg118⟩ := z_li.cell h8.rows
                      refine j_callV (q := (RJx4a65c, TJx4a65c, 3)) dX11_removeIf_110 kJx4a65c_get_915e3 lX11_82 inJx4a65c_get_915e3 seJx4a65c_get_915e3 lg118 rfl (cl_get hl w8 41 1001 _ _ (i94) _ h8.rows (z_two2 (i := i94) (by omega))) (Nat.le_of_ble_eq_true rfl) ⟨(Nat.le_of_ble_eq_true rfl), (Nat.le_of_ble_eq_true rfl)⟩ rfl (Nat.le_of_ble_eq_true rfl) rfl rfl (fun _ _ h => h.elim) ?_
                      rintro _ _ ⟨rfl, hw119⟩
                      refine j_w w8 hw119 ?_
                      refine j_castS dX11_removeIf_113 (z_w 1341 ((lwt_6_3 6).trans rfl) (by decide +kernel)) (z_li.is (h8.rw (i := i94) (by omega)).1) ?_
                      refine j_iload dX11_removeIf_116 rfl ?_
                      obtain ⟨lv122, -, lg122⟩ := z_li.cell (h8.rw (i := i94) (by omega)).1
                      refine j_callV (q := (RJx4a65c, TJx4a65c, 3)) dX11_removeIf_118 kJx4a65c_get_915e3 lX11_82 inJx4a65c_get_915e3 seJx4a65c_get_915e3 lg122 rfl (cl_getW hl w8 (i94) (A.length) ((A ++ x :: L2)) x h8 R8 (by omega) z_fu_self sp_mid?) (Nat.le_of_ble_eq_true rfl) ⟨(Nat.le_of_ble_eq_true rfl), (Nat.le_of_ble_eq_true rfl)⟩ rfl (Nat.le_of_ble_eq_true rfl) rfl rfl (fun _ _ h => h.elim) ?_
                      rintro _ _ ⟨rfl, hw123⟩
                      refine j_w w8 hw123 ?_
                      refine j_castS dX11_removeIf_121 (z_w 1567 ((lwt_7_2 22).trans rfl) (by decide +kernel)) rfl ?_
                      refine j_callVB (v0 := .float _) (C := "java/lang/Integer") dX11_removeIf_124 kJ6_intValue_8abf5 lX11_99 inJ6_intValue_8abf5 seJ6_intValue_8abf5 rfl (c_intv hl w8 x) (Nat.le_of_ble_eq_true rfl) ⟨(Nat.le_of_ble_eq_true rfl), (Nat.le_of_ble_eq_true rfl)⟩ rfl (Nat.le_of_ble_eq_true rfl) rfl rfl (fun _ _ h => h.elim) ?_
                      rintro _ _ ⟨rfl, hw125⟩
                      refine j_w w8 hw125 ?_
                      refine j_iload_n dX11_removeIf_127 rfl ?_
                      refine j_callS dX11_removeIf_128 kX11_test lX11_112 stX11_test (cm_test_r hl w8 _ x _) (Nat.le_of_ble_eq_true rfl) ⟨(Nat.le_of_ble_eq_true rfl), (Nat.le_of_ble_eq_true rfl)⟩ rfl (Nat.le_of_ble_eq_true rfl) rfl rfl (fun _ _ h => h.elim) ?_
                      rintro _ _ ⟨⟨rfl, hq126⟩ | ⟨rfl, hq126⟩ | ⟨rfl, hq126⟩, hw126⟩
                      · refine j_w w8 hw126 ?_
                        refine j_istore (lo' := [(6, _), (0, _), (1, _), (2, _), (3, _), (4, _), (5, _)]) dX11_removeIf_131 (by decide) rfl ?_
                        refine j_iload dX11_removeIf_133 rfl ?_
                        refine j_ldc dX11_removeIf_135 kcX11_67 ?_
                        refine j_icmp_eq (tgt := 155) dX11_removeIf_137 (by decide) (fun c_137_200 => ?_) (fun c_137_200 => ?_)
                        · refine j_aload_n dX11_removeIf_155 rfl rfl ?_
                          refine j_callV (q := (RX11, TX11, 8)) dX11_removeIf_156 kX11_nine lX11_105 inX11_nine seX11_nine h8.m rfl (cm_nine hl w8 _ h8) (Nat.le_of_ble_eq_true rfl) ⟨(Nat.le_of_ble_eq_true rfl), (Nat.le_of_ble_eq_true rfl)⟩ rfl (Nat.le_of_ble_eq_true rfl) rfl rfl (fun _ _ h => h.elim) ?_
                          rintro _ w9 ⟨rfl, fm9, h9⟩
                          have R9 := R8.ni
                          refine j_iret dX11_removeIf_159 rfl rfl ?_ (Nat.le_of_ble_eq_true rfl) (Nat.le_of_ble_eq_true rfl)
                          refine cast (congrFun (congrFun hQ9 _) _) ?_
                          rw [sp_riN hq126] at he
                          try rw [ei94]
                          refine ⟨_, _, rfl, (((hfm.tr (fw7.fm (q := 59) (by omega))).tr (fw8.fm (q := 59) (by omega))).tr (fm9.le (q' := 59) (by decide))), h9, sp_X0 ?_ hth (by unfold sp_sftS; rw [← he]; exact R9) (by rw [← he]; rfl)⟩
                          first | (first | (refine sp_k22_0 ?_ ?_ <;> (first | (with_reducible assumption) | (refine Or.inl ?_; (with_reducible assumption)) | (refine Or.inr ?_; (with_reducible assumption)) | (refine Or.inr (Or.inl ?_); (with_reducible assumption)) | (refine Or.inr (Or.inr ?_); (with_reducible assumption)) | (refine Or.inr (Or.inr (Or.inl ?_)); (with_reducible assumption)) | (refine Or.inr (Or.inr (Or.inr ?_)); (with_reducible assumption)) | (refine fun z => Or.elim z ?_ ?_ <;> (with_reducible assumption)) | (refine fun z => Or.elim z ?_ (fun z => Or.elim z ?_ ?_) <;> (with_reducible assumption)) | (refine fun z => Or.elim z ?_ (fun z => Or.elim z ?_ (fun z => Or.elim z ?_ ?_)) <;> (with_reducible assumption)) | (refine fun z => Or.elim z (fun z9 => z9 ?_) ?_ <;> (first | (with_reducible assumption) | (refine Or.inl ?_; (with_reducible assumption)) | (refine Or.inr (Or.inl ?_); (with_reducible assumption)) | (refine Or.inr (Or.inr ?_); (with_reducible assumption)) | (refine Or.inr (Or.inr (Or.inl ?_)); (with_reducible assumption)) | (refine Or.inr (Or.inr (Or.inr ?_)); (with_reducible assumption)))) | (refine Or.inl (fun z => Or.elim z ?_ (fun z => Or.elim z ?_ ?_)) <;> (with_reducible assumption)) | (refine Or.inl (fun z => Or.elim z ?_ (fun z => Or.elim z ?_ (fun z => Or.elim z ?_ ?_))) <;> (with_reducible assumption))))) | (first | (refine sp_k22_0 ?_ ?_ <;> (first | assumption | (refine Or.inl ?_; assumption) | (refine Or.inr ?_; assumption) | (refine Or.inr (Or.inl ?_); assumption) | (refine Or.inr (Or.inr ?_); assumption) | (refine Or.inr (Or.inr (Or.inl ?_)); assumption) | (refine Or.inr (Or.inr (Or.inr ?_)); assumption) | (refine fun z => Or.elim z ?_ ?_ <;> assumption) | (refine fun z => Or.elim z ?_ (fun z => Or.elim z ?_ ?_) <;> assumption) | (refine fun z => Or.elim z ?_ (fun z => Or.elim z ?_ (fun z => Or.elim z ?_ ?_)) <;> assumption) | (refine fun z => Or.elim z (fun z9 => z9 ?_) ?_ <;> (first | assumption | (refine Or.inl ?_; assumption) | (refine Or.inr (Or.inl ?_); assumption) | (refine Or.inr (Or.inr ?_); assumption) | (refine Or.inr (Or.inr (Or.inl ?_)); assumption) | (refine Or.inr (Or.inr (Or.inr ?_)); assumption))) | (refine Or.inl (fun z => Or.elim z ?_ (fun z => Or.elim z ?_ ?_)) <;> assumption) | (refine Or.inl (fun z => Or.elim z ?_ (fun z => Or.elim z ?_ (fun z => Or.elim z ?_ ?_))) <;> assumption))))
                        · exact absurd c_137_200 (by decide)
                      · refine j_w w8 hw126 ?_
                        refine j_istore (lo' := [(6, _), (0, _), (1, _), (2, _), (3, _), (4, _), (5, _)]) dX11_removeIf_131 (by decide) rfl ?_
                        refine j_iload dX11_removeIf_133 rfl ?_
                        refine j_ldc dX11_removeIf_135 kcX11_67 ?_
                        refine j_icmp_eq (tgt := 155) dX11_removeIf_137 (by decide) (fun c_137_216 => ?_) (fun c_137_216 => ?_)
                        · exact absurd c_137_216 (by decide)
                        · refine j_iload dX11_removeIf_140 rfl ?_
                          refine j_iconst (v := 1) dX11_removeIf_142 (by decide) ?_
                          refine j_icmp_ne (tgt := 160) dX11_removeIf_143 (by decide) (fun c_143_220 => ?_) (fun c_143_220 => ?_)
                          · exact absurd c_143_220 (by decide)
                          · refine j_aload_n dX11_removeIf_146 rfl rfl ?_
                            refine j_getf dX11_removeIf_147 fX11_25 h8.m rfl ?_
                            refine j_iload_n dX11_removeIf_150 rfl ?_
                            refine j_zald dX11_removeIf_151 h8.fx (vp_in_nI (by omega) (by omega)) rfl ?_
                            rcases (Bool.eq_false_or_eq_true (sp_F S i94)) with hF151 | hF151
                            · refine j_top (congrArg Value.int (show _ = (1 : Int32) from by rw [z_cla (by omega), R8.f (by omega)]; show z_bi (sp_F S i94) = 1; rw [hF151]; rfl)) ?_
                              refine j_if_eq (tgt := 160) dX11_removeIf_152 (by decide) (fun c_152_228 => ?_) (fun c_152_228 => ?_)
                              · exact absurd c_152_228 (by decide)
                              · refine j_aload_n dX11_removeIf_155 rfl rfl ?_
                                refine j_callV (q := (RX11, TX11, 8)) dX11_removeIf_156 kX11_nine lX11_105 inX11_nine seX11_nine h8.m rfl (cm_nine hl w8 _ h8) (Nat.le_of_ble_eq_true rfl) ⟨(Nat.le_of_ble_eq_true rfl), (Nat.le_of_ble_eq_true rfl)⟩ rfl (Nat.le_of_ble_eq_true rfl) rfl rfl (fun _ _ h => h.elim) ?_
                                rintro _ w10 ⟨rfl, fm10, h10⟩
                                have R10 := R8.ni
                                refine j_iret dX11_removeIf_159 rfl rfl ?_ (Nat.le_of_ble_eq_true rfl) (Nat.le_of_ble_eq_true rfl)
                                refine cast (congrFun (congrFun hQ9 _) _) ?_
                                rw [hF151, sp_riF hq126] at he
                                try rw [ei94]
                                refine ⟨_, _, rfl, (((hfm.tr (fw7.fm (q := 59) (by omega))).tr (fw8.fm (q := 59) (by omega))).tr (fm10.le (q' := 59) (by decide))), h10, sp_X0 ?_ hth (by unfold sp_sftS; rw [← he]; exact R10) (by rw [← he]; rfl)⟩
                                first | (first | (refine sp_k22_0 ?_ ?_ <;> (first | (with_reducible assumption) | (refine Or.inl ?_; (with_reducible assumption)) | (refine Or.inr ?_; (with_reducible assumption)) | (refine Or.inr (Or.inl ?_); (with_reducible assumption)) | (refine Or.inr (Or.inr ?_); (with_reducible assumption)) | (refine Or.inr (Or.inr (Or.inl ?_)); (with_reducible assumption)) | (refine Or.inr (Or.inr (Or.inr ?_)); (with_reducible assumption)) | (refine fun z => Or.elim z ?_ ?_ <;> (with_reducible assumption)) | (refine fun z => Or.elim z ?_ (fun z => Or.elim z ?_ ?_) <;> (with_reducible assumption)) | (refine fun z => Or.elim z ?_ (fun z => Or.elim z ?_ (fun z => Or.elim z ?_ ?_)) <;> (with_reducible assumption)) | (refine fun z => Or.elim z (fun z9 => z9 ?_) ?_ <;> (first | (with_reducible assumption) | (refine Or.inl ?_; (with_reducible assumption)) | (refine Or.inr (Or.inl ?_); (with_reducible assumption)) | (refine Or.inr (Or.inr ?_); (with_reducible assumption)) | (refine Or.inr (Or.inr (Or.inl ?_)); (with_reducible assumption)) | (refine Or.inr (Or.inr (Or.inr ?_)); (with_reducible assumption)))) | (refine Or.inl (fun z => Or.elim z ?_ (fun z => Or.elim z ?_ ?_)) <;> (with_reducible assumption)) | (refine Or.inl (fun z => Or.elim z ?_ (fun z => Or.elim z ?_ (fun z => Or.elim z ?_ ?_))) <;> (with_reducible assumption))))) | (first | (refine sp_k22_0 ?_ ?_ <;> (first | assumption | (refine Or.inl ?_; assumption) | (refine Or.inr ?_; assumption) | (refine Or.inr (Or.inl ?_); assumption) | (refine Or.inr (Or.inr ?_); assumption) | (refine Or.inr (Or.inr (Or.inl ?_)); assumption) | (refine Or.inr (Or.inr (Or.inr ?_)); assumption) | (refine fun z => Or.elim z ?_ ?_ <;> assumption) | (refine fun z => Or.elim z ?_ (fun z => Or.elim z ?_ ?_) <;> assumption) | (refine fun z => Or.elim z ?_ (fun z => Or.elim z ?_ (fun z => Or.elim z ?_ ?_)) <;> assumption) | (refine fun z => Or.elim z (fun z9 => z9 ?_) ?_ <;> (first | assumption | (refine Or.inl ?_; assumption) | (refine Or.inr (Or.inl ?_); assumption) | (refine Or.inr (Or.inr ?_); assumption) | (refine Or.inr (Or.inr (Or.inl ?_)); assumption) | (refine Or.inr (Or.inr (Or.inr ?_)); assumption))) | (refine Or.inl (fun z => Or.elim z ?_ (fun z => Or.elim z ?_ ?_)) <;> assumption) | (refine Or.inl (fun z => Or.elim z ?_ (fun z => Or.elim z ?_ (fun z => Or.elim z ?_ ?_))) <;> assumption))))
                            · refine j_top (congrArg Value.int (show _ = (0 : Int32) from by rw [z_cla (by omega), R8.f (by omega)]; show z_bi (sp_F S i94) = 0; rw [hF151]; rfl)) ?_
                              refine j_if_eq (tgt := 160) dX11_removeIf_152 (by decide) (fun c_152_241 => ?_) (fun c_152_241 => ?_)
                              · refine j_iload dX11_removeIf_160 rfl ?_
                                refine j_iconst (v := 1) dX11_removeIf_162 (by decide) ?_
                                refine j_icmp_ne (tgt := 201) dX11_removeIf_163 (by decide) (fun c_163_244 => ?_) (fun c_163_244 => ?_)
                                · exact absurd c_163_244 (by decide)
                                · refine j_aload_n dX11_removeIf_166 rfl rfl ?_
                                  refine j_getf dX11_removeIf_167 fX11_21 h8.m rfl ?_
                                  refine j_iload_n dX11_removeIf_170 rfl ?_
                                  obtain ⟨lv128, -, lg128⟩ := z_li.cell h8.rows
                                  refine j_callV (q := (RJx4a65c, TJx4a65c, 3)) dX11_removeIf_171 kJx4a65c_get_915e3 lX11_82 inJx4a65c_get_915e3 seJx4a65c_get_915e3 lg128 rfl (cl_get hl w8 41 1001 _ _ (i94) _ h8.rows (z_two2 (i := i94) (by omega))) (Nat.le_of_ble_eq_true rfl) ⟨(Nat.le_of_ble_eq_true rfl), (Nat.le_of_ble_eq_true rfl)⟩ rfl (Nat.le_of_ble_eq_true rfl) rfl rfl (fun _ _ h => h.elim) ?_
                                  rintro _ _ ⟨rfl, hw129⟩
                                  refine j_w w8 hw129 ?_
                                  refine j_castS dX11_removeIf_174 (z_w 1341 ((lwt_6_3 6).trans rfl) (by decide +kernel)) (z_li.is (h8.rw (i := i94) (by omega)).1) ?_
                                  refine j_iload dX11_removeIf_177 rfl ?_
                                  obtain ⟨lv131, -, lg131⟩ := z_li.cell (h8.rw (i := i94) (by omega)).1
                                  refine j_callV (q := (RJx4a65c, TJx4a65c, 3)) dX11_removeIf_179 kJx4a65c_remove_915e3 lX11_96 inJx4a65c_remove_915e3 seJx4a65c_remove_915e3 lg131 rfl (cl_rem hl w8 _ _ _ _ (A.length) _ (h8.rw (i := i94) (by omega)).1 (z_bx_get (by rw [R8.wlB (by omega) z_fu_self]; omega)) h8.fn z_bx_el) (Nat.le_of_ble_eq_true rfl) ⟨(Nat.le_of_ble_eq_true rfl), (Nat.le_of_ble_eq_true rfl)⟩ rfl (Nat.le_of_ble_eq_true rfl) rfl rfl (fun _ _ h => h.elim) ?_
                                  rintro _ w11 ⟨rfl, fw11, mo11, hr11⟩
                                  rw [z_bx_rem] at hr11
                                  have fm11 := fw11.fm (q := 56) (by omega)
                                  have h11 := h8.li11 (i0 := i94) (by omega) fw11 hr11 (Nat.le_trans (List.eraseIdx_sublist ..).length_le (h8.rw (i := i94) (by omega)).2)
                                  have R11 := R8.uw (i := i94) (c := mo11) (R8.wrem (k := A.length) (by omega) z_fu_self)
                                  rw [sp_uRR] at R11
                                  rw [sp_mide] at R11
                                  refine j_pop dX11_removeIf_182 rfl ?_
                                  refine j_aload_n dX11_removeIf_183 rfl rfl ?_
                                  refine j_getf dX11_removeIf_184 fX11_31 h11.m rfl ?_
                                  refine j_iload_n dX11_removeIf_187 rfl ?_
                                  obtain ⟨fz132, gz132, hz132⟩ := h11.co
                                  refine j_aald (v := .ref (1004 + i94)) dX11_removeIf_188 gz132 rfl rfl (vp_in_nI (by omega) (by omega)) (by rw [z_cla (by omega)]; exact hz132 _ (by omega)) ?_
                                  refine j_iconst (v := 4) dX11_removeIf_189 (by decide) ?_
                                  refine j_dup2 dX11_removeIf_190 rfl rfl ?_
                                  refine j_ld dX11_removeIf_191 (h11.cn (i := i94) (by omega)) (vp_in_nI (n := 4) (by decide) (by decide)) ?_
                                  refine j_iconst (v := 1) dX11_removeIf_192 (by decide) ?_
                                  refine j_iadd dX11_removeIf_193 ?_
                                  refine j_sto (w' := _) dX11_removeIf_194 (h11.cn (i := i94) (by omega)) (vp_in_nI (n := 4) (by decide) (by decide)) rfl ?_
                                  refine j_seal (by omega) ?_
                                  intro w12 u12
                                  have fw12 := u12.fw (ρ := 44 + i94) (by omega) (by omega)
                                  have h12 := h11.up44 (i0 := i94) (by omega) fw12 u12.1
                                  rw [show (4 : Int32).toNatClampNeg = 4 by decide] at h12
                                  have R12 := R11.bpR (i := i94) (k := 4) (by omega) (by decide)
                                  refine j_iconst (v := 1) dX11_removeIf_195 (by decide) ?_
                                  refine j_istore (lo' := [(4, _), (6, _), (0, _), (1, _), (2, _), (3, _), (5, _)]) dX11_removeIf_196 (by decide) rfl ?_
                                  refine j_goto (tgt := 204) dX11_removeIf_198 (by decide) ?_
                                  refine j_goto (tgt := 61) dX11_removeIf_204 (by decide) ?_
                                  exact j_lo2 (ih w12 _ A L2 _ true A.length rfl (by rw [List.length_cons] at hf9; omega) sp_apl (by rw [hF151, sp_riT hq126] at he; rw [hF151]; exact he) R12 (by exact hth) h12 ((((hfm.tr (fw7.fm (q := 59) (by omega))).tr (fw8.fm (q := 59) (by omega))).tr (fm11.le (q' := 59) (by decide))).tr (fw12.fm (q := 59) (by omega)))) (z_q1 rfl (z_q1 rfl (z_q1 rfl (z_q1 rfl (z_q1 rfl (z_q1 rfl z_q0))))))
                              · exact absurd c_152_241 (by decide)
                      · refine j_w w8 hw126 ?_
                        refine j_istore (lo' := [(6, _), (0, _), (1, _), (2, _), (3, _), (4, _), (5, _)]) dX11_removeIf_131 (by decide) rfl ?_
                        refine j_iload dX11_removeIf_133 rfl ?_
                        refine j_ldc dX11_removeIf_135 kcX11_67 ?_
                        refine j_icmp_eq (tgt := 155) dX11_removeIf_137 (by decide) (fun c_137_292 => ?_) (fun c_137_292 => ?_)
                        · exact absurd c_137_292 (by decide)
                        · refine j_iload dX11_removeIf_140 rfl ?_
                          refine j_iconst (v := 1) dX11_removeIf_142 (by decide) ?_
                          refine j_icmp_ne (tgt := 160) dX11_removeIf_143 (by decide) (fun c_143_296 => ?_) (fun c_143_296 => ?_)
                          · refine j_iload dX11_removeIf_160 rfl ?_
                            refine j_iconst (v := 1) dX11_removeIf_162 (by decide) ?_
                            refine j_icmp_ne (tgt := 201) dX11_removeIf_163 (by decide) (fun c_163_299 => ?_) (fun c_163_299 => ?_)
                            · refine j_iinc (lo' := [(5, _), (6, _), (0, _), (1, _), (2, _), (3, _), (4, _)]) dX11_removeIf_201 rfl (z_inc _) (by decide) rfl ?_
                              refine j_goto (tgt := 61) dX11_removeIf_204 (by decide) ?_
                              exact j_lo2 (ih w8 _ (A ++ [x]) L2 _ k (A.length + 1) sp_apn (by rw [List.length_cons] at hf9; omega) sp_apl (by rw [sp_riO hq126 (by decide)] at he; exact he) (by rw [← sp_mid]; exact R8) (by exact hth) h8 ((hfm.tr (fw7.fm (q := 59) (by omega))).tr (fw8.fm (q := 59) (by omega)))) (z_q1 rfl (z_q1 rfl (z_q1 rfl (z_q1 rfl (z_q1 rfl (z_q1 rfl z_q0))))))
                            · exact absurd c_163_299 (by decide)
                          · exact absurd c_143_296 (by decide)
                exact j_lo2 (loop61 ((sp_R S i94).length + 1) w4 _ [] (sp_R S i94) _ false 0 (by exact rfl) (Nat.lt_succ_self _) sp_apl rfl (by rw [List.nil_append, show sp_uR (sp_uC S i94 (z_bp (sp_C S i94) 0)) i94 (sp_R S i94) = sp_uC S i94 (z_bp (sp_C S i94) 0) from sp_uR_id]; exact R4) (by exact rfl) h4 ((fm2.le (q' := 59) (by decide)).tr (fw4.fm (q := 59) (by omega)))) (z_q1 rfl (z_q1 rfl (z_q1 rfl (z_q1 rfl (z_q1 rfl (z_q1 rfl z_q0))))))
              · exact absurd c_38_62 (by decide)
            · exact absurd c_26_56 (by decide)
      · refine j_w w2 hw95 ?_
        refine j_if_eq (tgt := 29) dX11_removeIf_19 (by decide) (fun c_19_309 => ?_) (fun c_19_309 => ?_)
        · refine j_iconst (v := 1) dX11_removeIf_29 (by decide) ?_
          refine j_goto (tgt := 34) dX11_removeIf_30 (by decide) ?_
          refine j_iconst (v := 2) dX11_removeIf_34 (by decide) ?_
          refine j_callV (q := (RX11, TX11, 8)) dX11_removeIf_35 kX11_refuse lX11_52 inX11_refuse seX11_refuse h2.m rfl (cm_refuse1 hl w2 _ _ h2 rfl (by decide)) (Nat.le_of_ble_eq_true rfl) ⟨(Nat.le_of_ble_eq_true rfl), (Nat.le_of_ble_eq_true rfl)⟩ rfl (Nat.le_of_ble_eq_true rfl) rfl rfl (fun _ _ h => h.elim) ?_
          rintro _ w13 ⟨rfl, fm13, h13⟩
          have R13 := R2.th (k := 2)
          refine j_if_eq (tgt := 43) dX11_removeIf_38 (by decide) (fun c_38_316 => ?_) (fun c_38_316 => ?_)
          · exact absurd c_38_316 (by decide)
          · refine j_iconst (v := 0) dX11_removeIf_41 (by decide) ?_
            refine j_iret dX11_removeIf_42 rfl rfl ?_ (Nat.le_of_ble_eq_true rfl) (Nat.le_of_ble_eq_true rfl)
            refine cast (congrFun (congrFun hQ9 _) _) ?_
            try rw [ei94]
            refine ⟨_, _, rfl, ((fm2.le (q' := 59) (by decide)).tr (fm13.le (q' := 59) (by decide))), h13, sp_X1 (k := 2) ?_ (by decide) rfl R13⟩
            first | (first | (refine sp_k22_2 ?_ ?_ <;> (first | (with_reducible assumption) | (refine Or.inl ?_; (with_reducible assumption)) | (refine Or.inr ?_; (with_reducible assumption)) | (refine Or.inr (Or.inl ?_); (with_reducible assumption)) | (refine Or.inr (Or.inr ?_); (with_reducible assumption)) | (refine Or.inr (Or.inr (Or.inl ?_)); (with_reducible assumption)) | (refine Or.inr (Or.inr (Or.inr ?_)); (with_reducible assumption)) | (refine fun z => Or.elim z ?_ ?_ <;> (with_reducible assumption)) | (refine fun z => Or.elim z ?_ (fun z => Or.elim z ?_ ?_) <;> (with_reducible assumption)) | (refine fun z => Or.elim z ?_ (fun z => Or.elim z ?_ (fun z => Or.elim z ?_ ?_)) <;> (with_reducible assumption)) | (refine fun z => Or.elim z (fun z9 => z9 ?_) ?_ <;> (first | (with_reducible assumption) | (refine Or.inl ?_; (with_reducible assumption)) | (refine Or.inr (Or.inl ?_); (with_reducible assumption)) | (refine Or.inr (Or.inr ?_); (with_reducible assumption)) | (refine Or.inr (Or.inr (Or.inl ?_)); (with_reducible assumption)) | (refine Or.inr (Or.inr (Or.inr ?_)); (with_reducible assumption)))) | (refine Or.inl (fun z => Or.elim z ?_ (fun z => Or.elim z ?_ ?_)) <;> (with_reducible assumption)) | (refine Or.inl (fun z => Or.elim z ?_ (fun z => Or.elim z ?_ (fun z => Or.elim z ?_ ?_))) <;> (with_reducible assumption))))) | (first | (refine sp_k22_2 ?_ ?_ <;> (first | assumption | (refine Or.inl ?_; assumption) | (refine Or.inr ?_; assumption) | (refine Or.inr (Or.inl ?_); assumption) | (refine Or.inr (Or.inr ?_); assumption) | (refine Or.inr (Or.inr (Or.inl ?_)); assumption) | (refine Or.inr (Or.inr (Or.inr ?_)); assumption) | (refine fun z => Or.elim z ?_ ?_ <;> assumption) | (refine fun z => Or.elim z ?_ (fun z => Or.elim z ?_ ?_) <;> assumption) | (refine fun z => Or.elim z ?_ (fun z => Or.elim z ?_ (fun z => Or.elim z ?_ ?_)) <;> assumption) | (refine fun z => Or.elim z (fun z9 => z9 ?_) ?_ <;> (first | assumption | (refine Or.inl ?_; assumption) | (refine Or.inr (Or.inl ?_); assumption) | (refine Or.inr (Or.inr ?_); assumption) | (refine Or.inr (Or.inr (Or.inl ?_)); assumption) | (refine Or.inr (Or.inr (Or.inr ?_)); assumption))) | (refine Or.inl (fun z => Or.elim z ?_ (fun z => Or.elim z ?_ ?_)) <;> assumption) | (refine Or.inl (fun z => Or.elim z ?_ (fun z => Or.elim z ?_ (fun z => Or.elim z ?_ ?_))) <;> assumption))))
        · exact absurd c_19_309 (by decide)
set_option maxRecDepth 100000 in
set_option maxHeartbeats 8000000 in
theorem cx_replaceAll (hl : l.stackTraces = false) (w : z_W) (S : sp_S) (s : z_Z) (r : Int32) (u : Int32) (n : Int32) (h : z_mst w s) (R : sp_MR S s) (ok : sp_ok S) : z_Con G l mX11_replaceAll 22 12 12 w [.ref 1000, .int r, .int u, .int n] (fun v w9 => ∃ (r9 : Int32) (s9 : z_Z), v = some (.int r9) ∧ z_fm 59 w w9 ∧ z_mst w9 s9 ∧ s9.1.1 = q_k22 r (¬ (u = 0 ∨ u = 1 ∨ u = 4) ∨ sp_bv n) ∧ sp_MR (if q_k22 r (¬ (u = 0 ∨ u = 1 ∨ u = 4) ∨ sp_bv n) = 0 then sp_chgS S (sp_i r) u n else S) s9 ∧ (q_k22 r (¬ (u = 0 ∨ u = 1 ∨ u = 4) ∨ sp_bv n) = 0 → r9 = cond (sp_chg S (sp_i r) u n).1 (nI (sp_chg S (sp_i r) u n).2.2.length) (-9))) (fun _ _ => False) := by
  generalize hQ9 : (fun (v : Option Value) (w9 : z_W) => ∃ (r9 : Int32) (s9 : z_Z), v = some (.int r9) ∧ z_fm 59 w w9 ∧ z_mst w9 s9 ∧ s9.1.1 = q_k22 r (¬ (u = 0 ∨ u = 1 ∨ u = 4) ∨ sp_bv n) ∧ sp_MR (if q_k22 r (¬ (u = 0 ∨ u = 1 ∨ u = 4) ∨ sp_bv n) = 0 then sp_chgS S (sp_i r) u n else S) s9 ∧ (q_k22 r (¬ (u = 0 ∨ u = 1 ∨ u = 4) ∨ sp_bv n) = 0 → r9 = cond (sp_chg S (sp_i r) u n).1 (nI (sp_chg S (sp_i r) u n).2.2.length) (-9))) = Q9
  refine z_body hl (by decide) rfl (Nat.le_of_ble_eq_true rfl) ?_
  show z_J G l mX11_replaceAll _ 0 [(0, _), (1, _), (2, _), (3, _)] [] _ 0 0
  refine j_aload_n dX11_replaceAll_0 rfl rfl ?_
  refine j_iload_n dX11_replaceAll_1 rfl ?_
  refine j_callS dX11_replaceAll_2 kX11_isNoTwo lX11_72 stX11_isNoTwo (cm_isNoTwo_r hl w _) (Nat.le_of_ble_eq_true rfl) ⟨(by show _ ≤ 12; omega), (by show _ ≤ 12; omega)⟩ rfl (Nat.le_of_ble_eq_true rfl) rfl rfl (fun _ _ h => h.elim) ?_
  rintro _ _ ⟨⟨rfl, hno135⟩ | ⟨rfl, i135, hi135, ht135, rfl⟩, hw135⟩
  · refine j_w w hw135 ?_
    refine j_iconst (v := 1) dX11_replaceAll_5 (by decide) ?_
    refine j_callV (q := (RX11, TX11, 8)) dX11_replaceAll_6 kX11_start lX11_76 inX11_start seX11_start h.m rfl (cm_start1 hl w _ _ h (by decide)) (Nat.le_of_ble_eq_true rfl) ⟨(by show _ ≤ 12; omega), (by show _ ≤ 12; omega)⟩ rfl (Nat.le_of_ble_eq_true rfl) rfl rfl (fun _ _ h => h.elim) ?_
    rintro _ w1 ⟨rfl, fm1, h1⟩
    have R1 := R.th (k := 1)
    refine j_if_ne (tgt := 46) dX11_replaceAll_9 (by decide) (fun c_9_11 => ?_) (fun c_9_11 => ?_)
    · refine j_iconst (v := 0) dX11_replaceAll_46 (by decide) ?_
      refine j_iret dX11_replaceAll_47 rfl rfl ?_ (by show _ ≤ 12; omega) (by show _ ≤ 12; omega)
      refine cast (congrFun (congrFun hQ9 _) _) ?_
      refine ⟨_, _, rfl, (fm1.le (q' := 59) (by decide)), h1, sp_X1 (k := 1) ?_ (by decide) rfl R1⟩
      first | (first | (refine sp_k22_1 ?_ <;> (first | (with_reducible assumption) | (refine Or.inl ?_; (with_reducible assumption)) | (refine Or.inr ?_; (with_reducible assumption)) | (refine Or.inr (Or.inl ?_); (with_reducible assumption)) | (refine Or.inr (Or.inr ?_); (with_reducible assumption)) | (refine Or.inr (Or.inr (Or.inl ?_)); (with_reducible assumption)) | (refine Or.inr (Or.inr (Or.inr ?_)); (with_reducible assumption)) | (refine fun z => Or.elim z ?_ ?_ <;> (with_reducible assumption)) | (refine fun z => Or.elim z ?_ (fun z => Or.elim z ?_ ?_) <;> (with_reducible assumption)) | (refine fun z => Or.elim z ?_ (fun z => Or.elim z ?_ (fun z => Or.elim z ?_ ?_)) <;> (with_reducible assumption)) | (refine fun z => Or.elim z (fun z9 => z9 ?_) ?_ <;> (first | (with_reducible assumption) | (refine Or.inl ?_; (with_reducible assumption)) | (refine Or.inr (Or.inl ?_); (with_reducible assumption)) | (refine Or.inr (Or.inr ?_); (with_reducible assumption)) | (refine Or.inr (Or.inr (Or.inl ?_)); (with_reducible assumption)) | (refine Or.inr (Or.inr (Or.inr ?_)); (with_reducible assumption)))) | (refine Or.inl (fun z => Or.elim z ?_ (fun z => Or.elim z ?_ ?_)) <;> (with_reducible assumption)) | (refine Or.inl (fun z => Or.elim z ?_ (fun z => Or.elim z ?_ (fun z => Or.elim z ?_ ?_))) <;> (with_reducible assumption))))) | (first | (refine sp_k22_1 ?_ <;> (first | assumption | (refine Or.inl ?_; assumption) | (refine Or.inr ?_; assumption) | (refine Or.inr (Or.inl ?_); assumption) | (refine Or.inr (Or.inr ?_); assumption) | (refine Or.inr (Or.inr (Or.inl ?_)); assumption) | (refine Or.inr (Or.inr (Or.inr ?_)); assumption) | (refine fun z => Or.elim z ?_ ?_ <;> assumption) | (refine fun z => Or.elim z ?_ (fun z => Or.elim z ?_ ?_) <;> assumption) | (refine fun z => Or.elim z ?_ (fun z => Or.elim z ?_ (fun z => Or.elim z ?_ ?_)) <;> assumption) | (refine fun z => Or.elim z (fun z9 => z9 ?_) ?_ <;> (first | assumption | (refine Or.inl ?_; assumption) | (refine Or.inr (Or.inl ?_); assumption) | (refine Or.inr (Or.inr ?_); assumption) | (refine Or.inr (Or.inr (Or.inl ?_)); assumption) | (refine Or.inr (Or.inr (Or.inr ?_)); assumption))) | (refine Or.inl (fun z => Or.elim z ?_ (fun z => Or.elim z ?_ ?_)) <;> assumption) | (refine Or.inl (fun z => Or.elim z ?_ (fun z => Or.elim z ?_ (fun z => Or.elim z ?_ ?_))) <;> assumption))))
    · exact absurd c_9_11 (by decide)
  · refine j_w w hw135 ?_
    have ei135 : sp_i (nI i135) = i135 := sp_in' (by omega)
    refine j_iconst (v := 1) dX11_replaceAll_5 (by decide) ?_
    refine j_callV (q := (RX11, TX11, 8)) dX11_replaceAll_6 kX11_start lX11_76 inX11_start seX11_start h.m rfl (cm_start0 hl w _ _ h) (Nat.le_of_ble_eq_true rfl) ⟨(by show _ ≤ 12; omega), (by show _ ≤ 12; omega)⟩ rfl (Nat.le_of_ble_eq_true rfl) rfl rfl (fun _ _ h => h.elim) ?_
    rintro _ w2 ⟨rfl, fm2, h2⟩
    have R2 := R.th (k := 0)
    refine j_if_ne (tgt := 46) dX11_replaceAll_9 (by decide) (fun c_9_24 => ?_) (fun c_9_24 => ?_)
    · exact absurd c_9_24 (by decide)
    · refine j_aload_n dX11_replaceAll_12 rfl rfl ?_
      refine j_iload_n dX11_replaceAll_13 rfl ?_
      refine j_if_eq (tgt := 27) dX11_replaceAll_14 (by decide) (fun c_14_28 => ?_) (fun c_14_28 => ?_)
      · refine j_iload_n dX11_replaceAll_27 rfl ?_
        refine j_callS dX11_replaceAll_28 kX11_isNoValue lX11_79 stX11_isNoValue (cm_isNoValue_r hl w2 _) (Nat.le_of_ble_eq_true rfl) ⟨(by show _ ≤ 12; omega), (by show _ ≤ 12; omega)⟩ rfl (Nat.le_of_ble_eq_true rfl) rfl rfl (fun _ _ h => h.elim) ?_
        rintro _ _ ⟨⟨rfl, hno136⟩ | ⟨rfl, hye136⟩, hw136⟩
        · refine j_w w2 hw136 ?_
          refine j_if_eq (tgt := 38) dX11_replaceAll_31 (by decide) (fun c_31_33 => ?_) (fun c_31_33 => ?_)
          · exact absurd c_31_33 (by decide)
          · refine j_iconst (v := 1) dX11_replaceAll_34 (by decide) ?_
            refine j_goto (tgt := 39) dX11_replaceAll_35 (by decide) ?_
            refine j_iconst (v := 2) dX11_replaceAll_39 (by decide) ?_
            refine j_callV (q := (RX11, TX11, 8)) dX11_replaceAll_40 kX11_refuse lX11_52 inX11_refuse seX11_refuse h2.m rfl (cm_refuse1 hl w2 _ _ h2 rfl (by decide)) (Nat.le_of_ble_eq_true rfl) ⟨(by show _ ≤ 12; omega), (by show _ ≤ 12; omega)⟩ rfl (Nat.le_of_ble_eq_true rfl) rfl rfl (fun _ _ h => h.elim) ?_
            rintro _ w3 ⟨rfl, fm3, h3⟩
            have R3 := R2.th (k := 2)
            refine j_if_eq (tgt := 48) dX11_replaceAll_43 (by decide) (fun c_43_41 => ?_) (fun c_43_41 => ?_)
            · exact absurd c_43_41 (by decide)
            · refine j_iconst (v := 0) dX11_replaceAll_46 (by decide) ?_
              refine j_iret dX11_replaceAll_47 rfl rfl ?_ (by show _ ≤ 12; omega) (by show _ ≤ 12; omega)
              refine cast (congrFun (congrFun hQ9 _) _) ?_
              try rw [ei135]
              refine ⟨_, _, rfl, ((fm2.le (q' := 59) (by decide)).tr (fm3.le (q' := 59) (by decide))), h3, sp_X1 (k := 2) ?_ (by decide) rfl R3⟩
              first | (first | (refine sp_k22_2 ?_ ?_ <;> (first | (with_reducible assumption) | (refine Or.inl ?_; (with_reducible assumption)) | (refine Or.inr ?_; (with_reducible assumption)) | (refine Or.inr (Or.inl ?_); (with_reducible assumption)) | (refine Or.inr (Or.inr ?_); (with_reducible assumption)) | (refine Or.inr (Or.inr (Or.inl ?_)); (with_reducible assumption)) | (refine Or.inr (Or.inr (Or.inr ?_)); (with_reducible assumption)) | (refine fun z => Or.elim z ?_ ?_ <;> (with_reducible assumption)) | (refine fun z => Or.elim z ?_ (fun z => Or.elim z ?_ ?_) <;> (with_reducible assumption)) | (refine fun z => Or.elim z ?_ (fun z => Or.elim z ?_ (fun z => Or.elim z ?_ ?_)) <;> (with_reducible assumption)) | (refine fun z => Or.elim z (fun z9 => z9 ?_) ?_ <;> (first | (with_reducible assumption) | (refine Or.inl ?_; (with_reducible assumption)) | (refine Or.inr (Or.inl ?_); (with_reducible assumption)) | (refine Or.inr (Or.inr ?_); (with_reducible assumption)) | (refine Or.inr (Or.inr (Or.inl ?_)); (with_reducible assumption)) | (refine Or.inr (Or.inr (Or.inr ?_)); (with_reducible assumption)))) | (refine Or.inl (fun z => Or.elim z ?_ (fun z => Or.elim z ?_ ?_)) <;> (with_reducible assumption)) | (refine Or.inl (fun z => Or.elim z ?_ (fun z => Or.elim z ?_ (fun z => Or.elim z ?_ ?_))) <;> (with_reducible assumption))))) | (first | (refine sp_k22_2 ?_ ?_ <;> (first | assumption | (refine Or.inl ?_; assumption) | (refine Or.inr ?_; assumption) | (refine Or.inr (Or.inl ?_); assumption) | (refine Or.inr (Or.inr ?_); assumption) | (refine Or.inr (Or.inr (Or.inl ?_)); assumption) | (refine Or.inr (Or.inr (Or.inr ?_)); assumption) | (refine fun z => Or.elim z ?_ ?_ <;> assumption) | (refine fun z => Or.elim z ?_ (fun z => Or.elim z ?_ ?_) <;> assumption) | (refine fun z => Or.elim z ?_ (fun z => Or.elim z ?_ (fun z => Or.elim z ?_ ?_)) <;> assumption) | (refine fun z => Or.elim z (fun z9 => z9 ?_) ?_ <;> (first | assumption | (refine Or.inl ?_; assumption) | (refine Or.inr (Or.inl ?_); assumption) | (refine Or.inr (Or.inr ?_); assumption) | (refine Or.inr (Or.inr (Or.inl ?_)); assumption) | (refine Or.inr (Or.inr (Or.inr ?_)); assumption))) | (refine Or.inl (fun z => Or.elim z ?_ (fun z => Or.elim z ?_ ?_)) <;> assumption) | (refine Or.inl (fun z => Or.elim z ?_ (fun z => Or.elim z ?_ (fun z => Or.elim z ?_ ?_))) <;> assumption))))
        · refine j_w w2 hw136 ?_
          refine j_if_eq (tgt := 38) dX11_replaceAll_31 (by decide) (fun c_31_50 => ?_) (fun c_31_50 => ?_)
          · refine j_iconst (v := 0) dX11_replaceAll_38 (by decide) ?_
            refine j_iconst (v := 2) dX11_replaceAll_39 (by decide) ?_
            refine j_callV (q := (RX11, TX11, 8)) dX11_replaceAll_40 kX11_refuse lX11_52 inX11_refuse seX11_refuse h2.m rfl (cm_refuse0 hl w2 _ _ h2 rfl) (Nat.le_of_ble_eq_true rfl) ⟨(by show _ ≤ 12; omega), (by show _ ≤ 12; omega)⟩ rfl (Nat.le_of_ble_eq_true rfl) rfl rfl (fun _ _ h => h.elim) ?_
            rintro _ _ ⟨rfl, hw137⟩
            refine j_w w2 hw137 ?_
            refine j_if_eq (tgt := 48) dX11_replaceAll_43 (by decide) (fun c_43_56 => ?_) (fun c_43_56 => ?_)
            · refine j_aload_n dX11_replaceAll_48 rfl rfl ?_
              refine j_getf dX11_replaceAll_49 fX11_31 h2.m rfl ?_
              refine j_iload_n dX11_replaceAll_52 rfl ?_
              obtain ⟨fz138, gz138, hz138⟩ := h2.co
              refine j_aald (v := .ref (1004 + i135)) dX11_replaceAll_53 gz138 rfl rfl (vp_in_nI (by omega) (by omega)) (by rw [z_cla (by omega)]; exact hz138 _ (by omega)) ?_
              refine j_iconst (v := 0) dX11_replaceAll_54 (by decide) ?_
              refine j_dup2 dX11_replaceAll_55 rfl rfl ?_
              refine j_ld dX11_replaceAll_56 (h2.cn (i := i135) (by omega)) (vp_in_nI (n := 0) (by decide) (by decide)) ?_
              refine j_iconst (v := 1) dX11_replaceAll_57 (by decide) ?_
              refine j_iadd dX11_replaceAll_58 ?_
              refine j_sto (w' := _) dX11_replaceAll_59 (h2.cn (i := i135) (by omega)) (vp_in_nI (n := 0) (by decide) (by decide)) rfl ?_
              refine j_seal (by omega) ?_
              intro w4 u4
              have fw4 := u4.fw (ρ := 44 + i135) (by omega) (by omega)
              have h4 := h2.up44 (i0 := i135) (by omega) fw4 u4.1
              rw [show (0 : Int32).toNatClampNeg = 0 by decide] at h4
              have R4 := R2.bp (i := i135) (k := 0) (by omega) (by decide)
              refine j_iconst (v := 0) dX11_replaceAll_60 (by decide) ?_
              refine j_istore (lo' := [(4, _), (0, _), (1, _), (2, _), (3, _)]) dX11_replaceAll_61 (by decide) rfl ?_
              have hL12 : (sp_R S i135).length ≤ 12 := R.len12 h (by omega)
              have loop63 : ∀ (n9 : Nat) (w5 : z_W) (s1 : z_Z) (A L : List Int32) (c : Nat → Int32) (a : Nat), (a = A.length) → (L.length < n9) → (A.length ≤ (A ++ L).length) → (A.length + L.length ≤ 12) → (∀ x ∈ L, z_vl x) → (sp_ra (sp_F S i135) u n c A L = sp_chg S i135 u n) → (sp_MR (sp_uR (sp_uC S i135 c) i135 (A ++ L)) s1) → (s1.1.1 = 0) → (z_mst w5 s1) → (z_fm 59 w w5) → z_J G l mX11_replaceAll (22, 12, 12, w, Q9, (fun _ _ => False)) 63 [(0, .ref 1000), (1, .int (nI i135)), (2, .int u), (3, .int n), (4, .int (nI a))] [] w5 a a := by
                intro n9
                induction n9 with
                | zero => intro w5 s1 A L c a ha hf9 hAl hA hv he hR hth hm hfm; exact absurd hf9 (Nat.not_lt_zero _)
                | succ n9 ih =>
                  intro w5 s1 A L c a ha hf9 hAl hA hv he hR hth hm hfm
                  subst ha
                  refine j_iload dX11_replaceAll_63 rfl ?_
                  refine j_aload_n dX11_replaceAll_65 rfl rfl ?_
                  refine j_getf dX11_replaceAll_66 fX11_21 hm.m rfl ?_
                  refine j_iload_n dX11_replaceAll_69 rfl ?_
                  obtain ⟨lv142, -, lg142⟩ := z_li.cell hm.rows
                  refine j_callV (q := (RJx4a65c, TJx4a65c, 3)) dX11_replaceAll_70 kJx4a65c_get_915e3 lX11_82 inJx4a65c_get_915e3 seJx4a65c_get_915e3 lg142 rfl (cl_get hl w5 41 1001 _ _ (i135) _ hm.rows (z_two2 (i := i135) (by omega))) (Nat.le_of_ble_eq_true rfl) ⟨(by show _ ≤ 12; omega), (by show _ ≤ 12; omega)⟩ rfl (Nat.le_of_ble_eq_true rfl) rfl rfl (fun _ _ h => h.elim) ?_
                  rintro _ _ ⟨rfl, hw143⟩
                  refine j_w w5 hw143 ?_
                  refine j_castS dX11_replaceAll_73 (z_w 1341 ((lwt_6_3 6).trans rfl) (by decide +kernel)) (z_li.is (hm.rw (i := i135) (by omega)).1) ?_
                  obtain ⟨lv145, -, lg145⟩ := z_li.cell (hm.rw (i := i135) (by omega)).1
                  refine j_callV (q := (RJx4a65c, TJx4a65c, 3)) dX11_replaceAll_76 kJx4a65c_size_8abf5 lX11_86 inJx4a65c_size_8abf5 seJx4a65c_size_8abf5 lg145 rfl (cl_sizeW hl w5 (i135) ((A ++ L)) hm hR (by omega) z_fu_self) (Nat.le_of_ble_eq_true rfl) ⟨(by show _ ≤ 12; omega), (by show _ ≤ 12; omega)⟩ rfl (Nat.le_of_ble_eq_true rfl) rfl rfl (fun _ _ h => h.elim) ?_
                  rintro _ _ ⟨rfl, hw146⟩
                  refine j_w w5 hw146 ?_
                  have hz146 : ((A ++ L)).length ≤ 12 := hR.l12 hm (i := i135) (by omega) z_fu_self
                  refine j_icmp_ge (tgt := 197) dX11_replaceAll_79 (by decide) (fun c_79_98 => ?_) (fun c_79_98 => ?_)
                  · have hb79 : ((A ++ L)).length ≤ A.length := (nI_leI (a := ((A ++ L)).length) (b := A.length) (by omega) (by omega)).mp c_79_98
                    obtain rfl : L = [] := List.eq_nil_of_length_eq_zero (by have h9 := hb79; rw [List.length_append] at h9; omega)
                    refine j_aload_n dX11_replaceAll_197 rfl rfl ?_
                    refine j_getf dX11_replaceAll_198 fX11_31 hm.m rfl ?_
                    refine j_iload_n dX11_replaceAll_201 rfl ?_
                    obtain ⟨fz147, gz147, hz147⟩ := hm.co
                    refine j_aald (v := .ref (1004 + i135)) dX11_replaceAll_202 gz147 rfl rfl (vp_in_nI (by omega) (by omega)) (by rw [z_cla (by omega)]; exact hz147 _ (by omega)) ?_
                    refine j_iconst (v := 1) dX11_replaceAll_203 (by decide) ?_
                    refine j_dup2 dX11_replaceAll_204 rfl rfl ?_
                    refine j_ld dX11_replaceAll_205 (hm.cn (i := i135) (by omega)) (vp_in_nI (n := 1) (by decide) (by decide)) ?_
                    refine j_iconst (v := 1) dX11_replaceAll_206 (by decide) ?_
                    refine j_iadd dX11_replaceAll_207 ?_
                    refine j_sto (w' := _) dX11_replaceAll_208 (hm.cn (i := i135) (by omega)) (vp_in_nI (n := 1) (by decide) (by decide)) rfl ?_
                    refine j_seal (by omega) ?_
                    intro w6 u6
                    have fw6 := u6.fw (ρ := 44 + i135) (by omega) (by omega)
                    have h6 := hm.up44 (i0 := i135) (by omega) fw6 u6.1
                    rw [show (1 : Int32).toNatClampNeg = 1 by decide] at h6
                    have R6 := hR.bpR (i := i135) (k := 1) (by omega) (by decide)
                    refine j_aload_n dX11_replaceAll_209 rfl rfl ?_
                    refine j_getf dX11_replaceAll_210 fX11_21 h6.m rfl ?_
                    refine j_iload_n dX11_replaceAll_213 rfl ?_
                    obtain ⟨lv151, -, lg151⟩ := z_li.cell h6.rows
                    refine j_callV (q := (RJx4a65c, TJx4a65c, 3)) dX11_replaceAll_214 kJx4a65c_get_915e3 lX11_82 inJx4a65c_get_915e3 seJx4a65c_get_915e3 lg151 rfl (cl_get hl w6 41 1001 _ _ (i135) _ h6.rows (z_two2 (i := i135) (by omega))) (Nat.le_of_ble_eq_true rfl) ⟨(by show _ ≤ 12; omega), (by show _ ≤ 12; omega)⟩ rfl (Nat.le_of_ble_eq_true rfl) rfl rfl (fun _ _ h => h.elim) ?_
                    rintro _ _ ⟨rfl, hw152⟩
                    refine j_w w6 hw152 ?_
                    refine j_castS dX11_replaceAll_217 (z_w 1341 ((lwt_6_3 6).trans rfl) (by decide +kernel)) (z_li.is (h6.rw (i := i135) (by omega)).1) ?_
                    obtain ⟨lv154, -, lg154⟩ := z_li.cell (h6.rw (i := i135) (by omega)).1
                    refine j_callV (q := (RJx4a65c, TJx4a65c, 3)) dX11_replaceAll_220 kJx4a65c_size_8abf5 lX11_86 inJx4a65c_size_8abf5 seJx4a65c_size_8abf5 lg154 rfl (cl_sizeW hl w6 (i135) ((A ++ [])) h6 R6 (by omega) z_fu_self) (Nat.le_of_ble_eq_true rfl) ⟨(by show _ ≤ 12; omega), (by show _ ≤ 12; omega)⟩ rfl (Nat.le_of_ble_eq_true rfl) rfl rfl (fun _ _ h => h.elim) ?_
                    rintro _ _ ⟨rfl, hw155⟩
                    refine j_w w6 hw155 ?_
                    have hz155 : ((A ++ [])).length ≤ 12 := R6.l12 h6 (i := i135) (by omega) z_fu_self
                    refine j_iret dX11_replaceAll_223 rfl rfl ?_ (by show _ ≤ 12; omega) (by show _ ≤ 12; omega)
                    refine cast (congrFun (congrFun hQ9 _) _) ?_
                    rw [List.append_nil] at R6
                    try rw [ei135]
                    refine ⟨_, _, rfl, (hfm.tr (fw6.fm (q := 59) (by omega))), h6, sp_X0 ?_ hth (by unfold sp_chgS; rw [← he]; exact R6) (by rw [← he, List.append_nil]; rfl)⟩
                    first | (first | (refine sp_k22_0 ?_ ?_ <;> (first | (with_reducible assumption) | (refine Or.inl ?_; (with_reducible assumption)) | (refine Or.inr ?_; (with_reducible assumption)) | (refine Or.inr (Or.inl ?_); (with_reducible assumption)) | (refine Or.inr (Or.inr ?_); (with_reducible assumption)) | (refine Or.inr (Or.inr (Or.inl ?_)); (with_reducible assumption)) | (refine Or.inr (Or.inr (Or.inr ?_)); (with_reducible assumption)) | (refine fun z => Or.elim z ?_ ?_ <;> (with_reducible assumption)) | (refine fun z => Or.elim z ?_ (fun z => Or.elim z ?_ ?_) <;> (with_reducible assumption)) | (refine fun z => Or.elim z ?_ (fun z => Or.elim z ?_ (fun z => Or.elim z ?_ ?_)) <;> (with_reducible assumption)) | (refine fun z => Or.elim z (fun z9 => z9 ?_) ?_ <;> (first | (with_reducible assumption) | (refine Or.inl ?_; (with_reducible assumption)) | (refine Or.inr (Or.inl ?_); (with_reducible assumption)) | (refine Or.inr (Or.inr ?_); (with_reducible assumption)) | (refine Or.inr (Or.inr (Or.inl ?_)); (with_reducible assumption)) | (refine Or.inr (Or.inr (Or.inr ?_)); (with_reducible assumption)))) | (refine Or.inl (fun z => Or.elim z ?_ (fun z => Or.elim z ?_ ?_)) <;> (with_reducible assumption)) | (refine Or.inl (fun z => Or.elim z ?_ (fun z => Or.elim z ?_ (fun z => Or.elim z ?_ ?_))) <;> (with_reducible assumption))))) | (first | (refine sp_k22_0 ?_ ?_ <;> (first | assumption | (refine Or.inl ?_; assumption) | (refine Or.inr ?_; assumption) | (refine Or.inr (Or.inl ?_); assumption) | (refine Or.inr (Or.inr ?_); assumption) | (refine Or.inr (Or.inr (Or.inl ?_)); assumption) | (refine Or.inr (Or.inr (Or.inr ?_)); assumption) | (refine fun z => Or.elim z ?_ ?_ <;> assumption) | (refine fun z => Or.elim z ?_ (fun z => Or.elim z ?_ ?_) <;> assumption) | (refine fun z => Or.elim z ?_ (fun z => Or.elim z ?_ (fun z => Or.elim z ?_ ?_)) <;> assumption) | (refine fun z => Or.elim z (fun z9 => z9 ?_) ?_ <;> (first | assumption | (refine Or.inl ?_; assumption) | (refine Or.inr (Or.inl ?_); assumption) | (refine Or.inr (Or.inr ?_); assumption) | (refine Or.inr (Or.inr (Or.inl ?_)); assumption) | (refine Or.inr (Or.inr (Or.inr ?_)); assumption))) | (refine Or.inl (fun z => Or.elim z ?_ (fun z => Or.elim z ?_ ?_)) <;> assumption) | (refine Or.inl (fun z => Or.elim z ?_ (fun z => Or.elim z ?_ (fun z => Or.elim z ?_ ?_))) <;> assumption))))
                  · have hb79 : A.length < ((A ++ L)).length := Nat.not_le.mp (fun z => c_79_98 ((nI_leI (a := ((A ++ L)).length) (b := A.length) (by omega) (by omega)).mpr z))
                    obtain ⟨x, L2, rfl⟩ : ∃ x L2, L = x :: L2 := by
                      cases L with
                      | nil => rw [List.append_nil] at hb79; exact absurd hb79 (Nat.lt_irrefl _)
                      | cons x L2 => exact ⟨x, L2, rfl⟩
                    have hmid := sp_lmid (A := A) (D := L2) (v := x)
                    refine j_aload_n dX11_replaceAll_82 rfl rfl ?_
                    refine j_getf dX11_replaceAll_83 fX11_31 hm.m rfl ?_
                    refine j_iload_n dX11_replaceAll_86 rfl ?_
                    obtain ⟨fz156, gz156, hz156⟩ := hm.co
                    refine j_aald (v := .ref (1004 + i135)) dX11_replaceAll_87 gz156 rfl rfl (vp_in_nI (by omega) (by omega)) (by rw [z_cla (by omega)]; exact hz156 _ (by omega)) ?_
                    refine j_iconst (v := 1) dX11_replaceAll_88 (by decide) ?_
                    refine j_dup2 dX11_replaceAll_89 rfl rfl ?_
                    refine j_ld dX11_replaceAll_90 (hm.cn (i := i135) (by omega)) (vp_in_nI (n := 1) (by decide) (by decide)) ?_
                    refine j_iconst (v := 1) dX11_replaceAll_91 (by decide) ?_
                    refine j_iadd dX11_replaceAll_92 ?_
                    refine j_sto (w' := _) dX11_replaceAll_93 (hm.cn (i := i135) (by omega)) (vp_in_nI (n := 1) (by decide) (by decide)) rfl ?_
                    refine j_seal (by omega) ?_
                    intro w7 u7
                    have fw7 := u7.fw (ρ := 44 + i135) (by omega) (by omega)
                    have h7 := hm.up44 (i0 := i135) (by omega) fw7 u7.1
                    rw [show (1 : Int32).toNatClampNeg = 1 by decide] at h7
                    have R7 := hR.bpR (i := i135) (k := 1) (by omega) (by decide)
                    refine j_aload_n dX11_replaceAll_94 rfl rfl ?_
                    refine j_getf dX11_replaceAll_95 fX11_31 h7.m rfl ?_
                    refine j_iload_n dX11_replaceAll_98 rfl ?_
                    obtain ⟨fz159, gz159, hz159⟩ := h7.co
                    refine j_aald (v := .ref (1004 + i135)) dX11_replaceAll_99 gz159 rfl rfl (vp_in_nI (by omega) (by omega)) (by rw [z_cla (by omega)]; exact hz159 _ (by omega)) ?_
                    refine j_iconst (v := 2) dX11_replaceAll_100 (by decide) ?_
                    refine j_dup2 dX11_replaceAll_101 rfl rfl ?_
                    refine j_ld dX11_replaceAll_102 (h7.cn (i := i135) (by omega)) (vp_in_nI (n := 2) (by decide) (by decide)) ?_
                    refine j_iconst (v := 1) dX11_replaceAll_103 (by decide) ?_
                    refine j_iadd dX11_replaceAll_104 ?_
                    refine j_sto (w' := _) dX11_replaceAll_105 (h7.cn (i := i135) (by omega)) (vp_in_nI (n := 2) (by decide) (by decide)) rfl ?_
                    refine j_seal (by omega) ?_
                    intro w8 u8
                    have fw8 := u8.fw (ρ := 44 + i135) (by omega) (by omega)
                    have h8 := h7.up44 (i0 := i135) (by omega) fw8 u8.1
                    rw [show (2 : Int32).toNatClampNeg = 2 by decide] at h8
                    have R8 := R7.bpR (i := i135) (k := 2) (by omega) (by decide)
                    refine j_iload_n dX11_replaceAll_106 rfl ?_
                    refine j_iconst (v := 0) dX11_replaceAll_107 (by decide) ?_
                    refine j_aload_n dX11_replaceAll_108 rfl rfl ?_
                    refine j_getf dX11_replaceAll_109 fX11_21 h8.m rfl ?_
                    refine j_iload_n dX11_replaceAll_112 rfl ?_
                    obtain ⟨lv163, -, lg163⟩ := z_li.cell h8.rows
                    refine j_callV (q := (RJx4a65c, TJx4a65c, 3)) dX11_replaceAll_113 kJx4a65c_get_915e3 lX11_82 inJx4a65c_get_915e3 seJx4a65c_get_915e3 lg163 rfl (cl_get hl w8 41 1001 _ _ (i135) _ h8.rows (z_two2 (i := i135) (by omega))) (Nat.le_of_ble_eq_true rfl) ⟨(by show _ ≤ 12; omega), (by show _ ≤ 12; omega)⟩ rfl (Nat.le_of_ble_eq_true rfl) rfl rfl (fun _ _ h => h.elim) ?_
                    rintro _ _ ⟨rfl, hw164⟩
                    refine j_w w8 hw164 ?_
                    refine j_castS dX11_replaceAll_116 (z_w 1341 ((lwt_6_3 6).trans rfl) (by decide +kernel)) (z_li.is (h8.rw (i := i135) (by omega)).1) ?_
                    refine j_iload dX11_replaceAll_119 rfl ?_
                    obtain ⟨lv167, -, lg167⟩ := z_li.cell (h8.rw (i := i135) (by omega)).1
                    refine j_callV (q := (RJx4a65c, TJx4a65c, 3)) dX11_replaceAll_121 kJx4a65c_get_915e3 lX11_82 inJx4a65c_get_915e3 seJx4a65c_get_915e3 lg167 rfl (cl_getW hl w8 (i135) (A.length) ((A ++ x :: L2)) x h8 R8 (by omega) z_fu_self sp_mid?) (Nat.le_of_ble_eq_true rfl) ⟨(by show _ ≤ 12; omega), (by show _ ≤ 12; omega)⟩ rfl (Nat.le_of_ble_eq_true rfl) rfl rfl (fun _ _ h => h.elim) ?_
                    rintro _ _ ⟨rfl, hw168⟩
                    refine j_w w8 hw168 ?_
                    refine j_castS dX11_replaceAll_124 (z_w 1567 ((lwt_7_2 22).trans rfl) (by decide +kernel)) rfl ?_
                    refine j_callVB (v0 := .float _) (C := "java/lang/Integer") dX11_replaceAll_127 kJ6_intValue_8abf5 lX11_99 inJ6_intValue_8abf5 seJ6_intValue_8abf5 rfl (c_intv hl w8 x) (Nat.le_of_ble_eq_true rfl) ⟨(by show _ ≤ 12; omega), (by show _ ≤ 12; omega)⟩ rfl (Nat.le_of_ble_eq_true rfl) rfl rfl (fun _ _ h => h.elim) ?_
                    rintro _ _ ⟨rfl, hw170⟩
                    refine j_w w8 hw170 ?_
                    refine j_iload_n dX11_replaceAll_130 rfl ?_
                    refine j_callS dX11_replaceAll_131 kX11_rule lX11_115 stX11_rule (cm_rule_r hl w8 _ _ _ _ (hv _ List.mem_cons_self).2 (sp_vl (by assumption)).2) (Nat.le_of_ble_eq_true rfl) ⟨(by show _ ≤ 12; omega), (by show _ ≤ 12; omega)⟩ rfl (Nat.le_of_ble_eq_true rfl) rfl rfl (fun _ _ h => h.elim) ?_
                    rintro _ _ ⟨⟨rfl, hq171⟩ | ⟨y171, rfl, hq171, hne171⟩, hw171⟩
                    · refine j_w w8 hw171 ?_
                      refine j_istore (lo' := [(5, _), (0, _), (1, _), (2, _), (3, _), (4, _)]) dX11_replaceAll_134 (by decide) rfl ?_
                      refine j_iload dX11_replaceAll_136 rfl ?_
                      refine j_ldc dX11_replaceAll_138 kcX11_67 ?_
                      refine j_icmp_eq (tgt := 152) dX11_replaceAll_140 (by decide) (fun c_140_203 => ?_) (fun c_140_203 => ?_)
                      · refine j_aload_n dX11_replaceAll_152 rfl rfl ?_
                        refine j_callV (q := (RX11, TX11, 8)) dX11_replaceAll_153 kX11_nine lX11_105 inX11_nine seX11_nine h8.m rfl (cm_nine hl w8 _ h8) (Nat.le_of_ble_eq_true rfl) ⟨(by show _ ≤ 12; omega), (by show _ ≤ 12; omega)⟩ rfl (Nat.le_of_ble_eq_true rfl) rfl rfl (fun _ _ h => h.elim) ?_
                        rintro _ w9 ⟨rfl, fm9, h9⟩
                        have R9 := R8.ni
                        refine j_iret dX11_replaceAll_156 rfl rfl ?_ (by show _ ≤ 12; omega) (by show _ ≤ 12; omega)
                        refine cast (congrFun (congrFun hQ9 _) _) ?_
                        rw [sp_raN hq171] at he
                        try rw [ei135]
                        refine ⟨_, _, rfl, (((hfm.tr (fw7.fm (q := 59) (by omega))).tr (fw8.fm (q := 59) (by omega))).tr (fm9.le (q' := 59) (by decide))), h9, sp_X0 ?_ hth (by unfold sp_chgS; rw [← he]; exact R9) (by rw [← he]; rfl)⟩
                        first | (first | (refine sp_k22_0 ?_ ?_ <;> (first | (with_reducible assumption) | (refine Or.inl ?_; (with_reducible assumption)) | (refine Or.inr ?_; (with_reducible assumption)) | (refine Or.inr (Or.inl ?_); (with_reducible assumption)) | (refine Or.inr (Or.inr ?_); (with_reducible assumption)) | (refine Or.inr (Or.inr (Or.inl ?_)); (with_reducible assumption)) | (refine Or.inr (Or.inr (Or.inr ?_)); (with_reducible assumption)) | (refine fun z => Or.elim z ?_ ?_ <;> (with_reducible assumption)) | (refine fun z => Or.elim z ?_ (fun z => Or.elim z ?_ ?_) <;> (with_reducible assumption)) | (refine fun z => Or.elim z ?_ (fun z => Or.elim z ?_ (fun z => Or.elim z ?_ ?_)) <;> (with_reducible assumption)) | (refine fun z => Or.elim z (fun z9 => z9 ?_) ?_ <;> (first | (with_reducible assumption) | (refine Or.inl ?_; (with_reducible assumption)) | (refine Or.inr (Or.inl ?_); (with_reducible assumption)) | (refine Or.inr (Or.inr ?_); (with_reducible assumption)) | (refine Or.inr (Or.inr (Or.inl ?_)); (with_reducible assumption)) | (refine Or.inr (Or.inr (Or.inr ?_)); (with_reducible assumption)))) | (refine Or.inl (fun z => Or.elim z ?_ (fun z => Or.elim z ?_ ?_)) <;> (with_reducible assumption)) | (refine Or.inl (fun z => Or.elim z ?_ (fun z => Or.elim z ?_ (fun z => Or.elim z ?_ ?_))) <;> (with_reducible assumption))))) | (first | (refine sp_k22_0 ?_ ?_ <;> (first | assumption | (refine Or.inl ?_; assumption) | (refine Or.inr ?_; assumption) | (refine Or.inr (Or.inl ?_); assumption) | (refine Or.inr (Or.inr ?_); assumption) | (refine Or.inr (Or.inr (Or.inl ?_)); assumption) | (refine Or.inr (Or.inr (Or.inr ?_)); assumption) | (refine fun z => Or.elim z ?_ ?_ <;> assumption) | (refine fun z => Or.elim z ?_ (fun z => Or.elim z ?_ ?_) <;> assumption) | (refine fun z => Or.elim z ?_ (fun z => Or.elim z ?_ (fun z => Or.elim z ?_ ?_)) <;> assumption) | (refine fun z => Or.elim z (fun z9 => z9 ?_) ?_ <;> (first | assumption | (refine Or.inl ?_; assumption) | (refine Or.inr (Or.inl ?_); assumption) | (refine Or.inr (Or.inr ?_); assumption) | (refine Or.inr (Or.inr (Or.inl ?_)); assumption) | (refine Or.inr (Or.inr (Or.inr ?_)); assumption))) | (refine Or.inl (fun z => Or.elim z ?_ (fun z => Or.elim z ?_ ?_)) <;> assumption) | (refine Or.inl (fun z => Or.elim z ?_ (fun z => Or.elim z ?_ (fun z => Or.elim z ?_ ?_))) <;> assumption))))
                      · exact absurd c_140_203 (by decide)
                    · refine j_w w8 hw171 ?_
                      refine j_istore (lo' := [(5, _), (0, _), (1, _), (2, _), (3, _), (4, _)]) dX11_replaceAll_134 (by decide) rfl ?_
                      refine j_iload dX11_replaceAll_136 rfl ?_
                      refine j_ldc dX11_replaceAll_138 kcX11_67 ?_
                      refine j_icmp_eq (tgt := 152) dX11_replaceAll_140 (by decide) (fun c_140_219 => ?_) (fun c_140_219 => ?_)
                      · exact absurd c_140_219 hne171
                      · refine j_aload_n dX11_replaceAll_143 rfl rfl ?_
                        refine j_getf dX11_replaceAll_144 fX11_25 h8.m rfl ?_
                        refine j_iload_n dX11_replaceAll_147 rfl ?_
                        refine j_zald dX11_replaceAll_148 h8.fx (vp_in_nI (by omega) (by omega)) rfl ?_
                        rcases (Bool.eq_false_or_eq_true (sp_F S i135)) with hF148 | hF148
                        · refine j_top (congrArg Value.int (show _ = (1 : Int32) from by rw [z_cla (by omega), R8.f (by omega)]; show z_bi (sp_F S i135) = 1; rw [hF148]; rfl)) ?_
                          refine j_if_eq (tgt := 157) dX11_replaceAll_149 (by decide) (fun c_149_227 => ?_) (fun c_149_227 => ?_)
                          · exact absurd c_149_227 (by decide)
                          · refine j_aload_n dX11_replaceAll_152 rfl rfl ?_
                            refine j_callV (q := (RX11, TX11, 8)) dX11_replaceAll_153 kX11_nine lX11_105 inX11_nine seX11_nine h8.m rfl (cm_nine hl w8 _ h8) (Nat.le_of_ble_eq_true rfl) ⟨(by show _ ≤ 12; omega), (by show _ ≤ 12; omega)⟩ rfl (Nat.le_of_ble_eq_true rfl) rfl rfl (fun _ _ h => h.elim) ?_
                            rintro _ w10 ⟨rfl, fm10, h10⟩
                            have R10 := R8.ni
                            refine j_iret dX11_replaceAll_156 rfl rfl ?_ (by show _ ≤ 12; omega) (by show _ ≤ 12; omega)
                            refine cast (congrFun (congrFun hQ9 _) _) ?_
                            rw [hF148, sp_raF hq171] at he
                            try rw [ei135]
                            refine ⟨_, _, rfl, (((hfm.tr (fw7.fm (q := 59) (by omega))).tr (fw8.fm (q := 59) (by omega))).tr (fm10.le (q' := 59) (by decide))), h10, sp_X0 ?_ hth (by unfold sp_chgS; rw [← he]; exact R10) (by rw [← he]; rfl)⟩
                            first | (first | (refine sp_k22_0 ?_ ?_ <;> (first | (with_reducible assumption) | (refine Or.inl ?_; (with_reducible assumption)) | (refine Or.inr ?_; (with_reducible assumption)) | (refine Or.inr (Or.inl ?_); (with_reducible assumption)) | (refine Or.inr (Or.inr ?_); (with_reducible assumption)) | (refine Or.inr (Or.inr (Or.inl ?_)); (with_reducible assumption)) | (refine Or.inr (Or.inr (Or.inr ?_)); (with_reducible assumption)) | (refine fun z => Or.elim z ?_ ?_ <;> (with_reducible assumption)) | (refine fun z => Or.elim z ?_ (fun z => Or.elim z ?_ ?_) <;> (with_reducible assumption)) | (refine fun z => Or.elim z ?_ (fun z => Or.elim z ?_ (fun z => Or.elim z ?_ ?_)) <;> (with_reducible assumption)) | (refine fun z => Or.elim z (fun z9 => z9 ?_) ?_ <;> (first | (with_reducible assumption) | (refine Or.inl ?_; (with_reducible assumption)) | (refine Or.inr (Or.inl ?_); (with_reducible assumption)) | (refine Or.inr (Or.inr ?_); (with_reducible assumption)) | (refine Or.inr (Or.inr (Or.inl ?_)); (with_reducible assumption)) | (refine Or.inr (Or.inr (Or.inr ?_)); (with_reducible assumption)))) | (refine Or.inl (fun z => Or.elim z ?_ (fun z => Or.elim z ?_ ?_)) <;> (with_reducible assumption)) | (refine Or.inl (fun z => Or.elim z ?_ (fun z => Or.elim z ?_ (fun z => Or.elim z ?_ ?_))) <;> (with_reducible assumption))))) | (first | (refine sp_k22_0 ?_ ?_ <;> (first | assumption | (refine Or.inl ?_; assumption) | (refine Or.inr ?_; assumption) | (refine Or.inr (Or.inl ?_); assumption) | (refine Or.inr (Or.inr ?_); assumption) | (refine Or.inr (Or.inr (Or.inl ?_)); assumption) | (refine Or.inr (Or.inr (Or.inr ?_)); assumption) | (refine fun z => Or.elim z ?_ ?_ <;> assumption) | (refine fun z => Or.elim z ?_ (fun z => Or.elim z ?_ ?_) <;> assumption) | (refine fun z => Or.elim z ?_ (fun z => Or.elim z ?_ (fun z => Or.elim z ?_ ?_)) <;> assumption) | (refine fun z => Or.elim z (fun z9 => z9 ?_) ?_ <;> (first | assumption | (refine Or.inl ?_; assumption) | (refine Or.inr (Or.inl ?_); assumption) | (refine Or.inr (Or.inr ?_); assumption) | (refine Or.inr (Or.inr (Or.inl ?_)); assumption) | (refine Or.inr (Or.inr (Or.inr ?_)); assumption))) | (refine Or.inl (fun z => Or.elim z ?_ (fun z => Or.elim z ?_ ?_)) <;> assumption) | (refine Or.inl (fun z => Or.elim z ?_ (fun z => Or.elim z ?_ (fun z => Or.elim z ?_ ?_))) <;> assumption))))
                        · refine j_top (congrArg Value.int (show _ = (0 : Int32) from by rw [z_cla (by omega), R8.f (by omega)]; show z_bi (sp_F S i135) = 0; rw [hF148]; rfl)) ?_
                          refine j_if_eq (tgt := 157) dX11_replaceAll_149 (by decide) (fun c_149_240 => ?_) (fun c_149_240 => ?_)
                          · refine j_aload_n dX11_replaceAll_157 rfl rfl ?_
                            refine j_getf dX11_replaceAll_158 fX11_21 h8.m rfl ?_
                            refine j_iload_n dX11_replaceAll_161 rfl ?_
                            obtain ⟨lv173, -, lg173⟩ := z_li.cell h8.rows
                            refine j_callV (q := (RJx4a65c, TJx4a65c, 3)) dX11_replaceAll_162 kJx4a65c_get_915e3 lX11_82 inJx4a65c_get_915e3 seJx4a65c_get_915e3 lg173 rfl (cl_get hl w8 41 1001 _ _ (i135) _ h8.rows (z_two2 (i := i135) (by omega))) (Nat.le_of_ble_eq_true rfl) ⟨(by show _ ≤ 12; omega), (by show _ ≤ 12; omega)⟩ rfl (Nat.le_of_ble_eq_true rfl) rfl rfl (fun _ _ h => h.elim) ?_
                            rintro _ _ ⟨rfl, hw174⟩
                            refine j_w w8 hw174 ?_
                            refine j_castS dX11_replaceAll_165 (z_w 1341 ((lwt_6_3 6).trans rfl) (by decide +kernel)) (z_li.is (h8.rw (i := i135) (by omega)).1) ?_
                            refine j_iload dX11_replaceAll_168 rfl ?_
                            refine j_iload dX11_replaceAll_170 rfl ?_
                            refine j_callS dX11_replaceAll_172 kJ6_valueOf_2dffe lX11_90 stJ6_valueOf_2dffe (cl_val hl w8 _) (Nat.le_of_ble_eq_true rfl) ⟨(by show _ ≤ 12; omega), (by show _ ≤ 12; omega)⟩ rfl (Nat.le_of_ble_eq_true rfl) rfl rfl (fun _ _ h => h.elim) ?_
                            rintro _ _ ⟨rfl, hw176⟩
                            refine j_w w8 hw176 ?_
                            obtain ⟨lv177, -, lg177⟩ := z_li.cell (h8.rw (i := i135) (by omega)).1
                            refine j_callV (q := (RJx4a65c, TJx4a65c, 3)) dX11_replaceAll_175 kJx4a65c_set_bcc79 lX11_119 inJx4a65c_set_bcc79 seJx4a65c_set_bcc79 lg177 rfl (cl_set hl w8 _ _ _ _ (A.length) _ _ (h8.rw (i := i135) (by omega)).1 (z_bx_get (by rw [R8.wlB (by omega) z_fu_self]; omega)) z_elF) (Nat.le_of_ble_eq_true rfl) ⟨(by show _ ≤ 12; omega), (by show _ ≤ 12; omega)⟩ rfl (Nat.le_of_ble_eq_true rfl) rfl rfl (fun _ _ h => h.elim) ?_
                            rintro _ w11 ⟨rfl, fw11, hr11⟩
                            rw [z_bx_set] at hr11
                            have fm11 := fw11.fm (q := 56) (by omega)
                            have h11 := h8.li11 (i0 := i135) (by omega) fw11 hr11 (by rw [List.length_set]; exact (h8.rw (i := i135) (by omega)).2)
                            have R11 := R8.uwm h11 (R8.wset (k := A.length) (x := y171) (by omega) z_fu_self)
                            rw [sp_uRR, sp_mids] at R11
                            refine j_pop dX11_replaceAll_178 rfl ?_
                            refine j_aload_n dX11_replaceAll_179 rfl rfl ?_
                            refine j_getf dX11_replaceAll_180 fX11_31 h11.m rfl ?_
                            refine j_iload_n dX11_replaceAll_183 rfl ?_
                            obtain ⟨fz178, gz178, hz178⟩ := h11.co
                            refine j_aald (v := .ref (1004 + i135)) dX11_replaceAll_184 gz178 rfl rfl (vp_in_nI (by omega) (by omega)) (by rw [z_cla (by omega)]; exact hz178 _ (by omega)) ?_
                            refine j_iconst (v := 3) dX11_replaceAll_185 (by decide) ?_
                            refine j_dup2 dX11_replaceAll_186 rfl rfl ?_
                            refine j_ld dX11_replaceAll_187 (h11.cn (i := i135) (by omega)) (vp_in_nI (n := 3) (by decide) (by decide)) ?_
                            refine j_iconst (v := 1) dX11_replaceAll_188 (by decide) ?_
                            refine j_iadd dX11_replaceAll_189 ?_
                            refine j_sto (w' := _) dX11_replaceAll_190 (h11.cn (i := i135) (by omega)) (vp_in_nI (n := 3) (by decide) (by decide)) rfl ?_
                            refine j_seal (by omega) ?_
                            intro w12 u12
                            have fw12 := u12.fw (ρ := 44 + i135) (by omega) (by omega)
                            have h12 := h11.up44 (i0 := i135) (by omega) fw12 u12.1
                            rw [show (3 : Int32).toNatClampNeg = 3 by decide] at h12
                            have R12 := R11.bpR (i := i135) (k := 3) (by omega) (by decide)
                            refine j_iinc (lo' := [(4, _), (5, _), (0, _), (1, _), (2, _), (3, _)]) dX11_replaceAll_191 rfl (z_inc _) (by decide) rfl ?_
                            refine j_goto (tgt := 63) dX11_replaceAll_194 (by decide) ?_
                            refine j_widen (kc' := (A.length + 1)) (ks' := (A.length + 1)) (by omega) (by omega) ?_
                            exact j_lo2 (ih w12 _ (A ++ [y171]) L2 _ (A.length + 1) sp_apn (by rw [List.length_cons] at hf9; omega) sp_apl (by rw [List.length_cons] at hA; rw [List.length_append]; show A.length + 1 + _ ≤ 12; omega) (fun x hx => hv x (List.mem_cons_of_mem _ hx)) (by rw [hF148, sp_raT hq171] at he; rw [hF148]; exact he) (by rw [← sp_mid]; exact R12) (by exact hth) h12 ((((hfm.tr (fw7.fm (q := 59) (by omega))).tr (fw8.fm (q := 59) (by omega))).tr (fm11.le (q' := 59) (by decide))).tr (fw12.fm (q := 59) (by omega)))) (z_q1 rfl (z_q1 rfl (z_q1 rfl (z_q1 rfl (z_q1 rfl z_q0)))))
                          · exact absurd c_149_240 (by decide)
              refine j_widen (kc' := 0) (ks' := 0) (by omega) (by omega) ?_
              exact j_lo2 (loop63 ((sp_R S i135).length + 1) w4 _ [] (sp_R S i135) _ 0 (by exact rfl) (Nat.lt_succ_self _) sp_apl (by rw [List.length_nil]; omega) (fun x hx => (ok.1 i135 (by omega)).2 x hx) rfl (by rw [List.nil_append, show sp_uR (sp_uC S i135 (z_bp (sp_C S i135) 0)) i135 (sp_R S i135) = sp_uC S i135 (z_bp (sp_C S i135) 0) from sp_uR_id]; exact R4) (by exact rfl) h4 ((fm2.le (q' := 59) (by decide)).tr (fw4.fm (q := 59) (by omega)))) (z_q1 rfl (z_q1 rfl (z_q1 rfl (z_q1 rfl (z_q1 rfl z_q0)))))
            · exact absurd c_43_56 (by decide)
          · exact absurd c_31_50 (by decide)
      · refine j_iload_n dX11_replaceAll_17 rfl ?_
        refine j_iconst (v := 1) dX11_replaceAll_18 (by decide) ?_
        refine j_icmp_eq (tgt := 27) dX11_replaceAll_19 (by decide) (fun c_19_291 => ?_) (fun c_19_291 => ?_)
        · refine j_iload_n dX11_replaceAll_27 rfl ?_
          refine j_callS dX11_replaceAll_28 kX11_isNoValue lX11_79 stX11_isNoValue (cm_isNoValue_r hl w2 _) (Nat.le_of_ble_eq_true rfl) ⟨(by show _ ≤ 12; omega), (by show _ ≤ 12; omega)⟩ rfl (Nat.le_of_ble_eq_true rfl) rfl rfl (fun _ _ h => h.elim) ?_
          rintro _ _ ⟨⟨rfl, hno181⟩ | ⟨rfl, hye181⟩, hw181⟩
          · refine j_w w2 hw181 ?_
            refine j_if_eq (tgt := 38) dX11_replaceAll_31 (by decide) (fun c_31_296 => ?_) (fun c_31_296 => ?_)
            · exact absurd c_31_296 (by decide)
            · refine j_iconst (v := 1) dX11_replaceAll_34 (by decide) ?_
              refine j_goto (tgt := 39) dX11_replaceAll_35 (by decide) ?_
              refine j_iconst (v := 2) dX11_replaceAll_39 (by decide) ?_
              refine j_callV (q := (RX11, TX11, 8)) dX11_replaceAll_40 kX11_refuse lX11_52 inX11_refuse seX11_refuse h2.m rfl (cm_refuse1 hl w2 _ _ h2 rfl (by decide)) (Nat.le_of_ble_eq_true rfl) ⟨(by show _ ≤ 12; omega), (by show _ ≤ 12; omega)⟩ rfl (Nat.le_of_ble_eq_true rfl) rfl rfl (fun _ _ h => h.elim) ?_
              rintro _ w13 ⟨rfl, fm13, h13⟩
              have R13 := R2.th (k := 2)
              refine j_if_eq (tgt := 48) dX11_replaceAll_43 (by decide) (fun c_43_304 => ?_) (fun c_43_304 => ?_)
              · exact absurd c_43_304 (by decide)
              · refine j_iconst (v := 0) dX11_replaceAll_46 (by decide) ?_
                refine j_iret dX11_replaceAll_47 rfl rfl ?_ (by show _ ≤ 12; omega) (by show _ ≤ 12; omega)
                refine cast (congrFun (congrFun hQ9 _) _) ?_
                try rw [ei135]
                refine ⟨_, _, rfl, ((fm2.le (q' := 59) (by decide)).tr (fm13.le (q' := 59) (by decide))), h13, sp_X1 (k := 2) ?_ (by decide) rfl R13⟩
                first | (first | (refine sp_k22_2 ?_ ?_ <;> (first | (with_reducible assumption) | (refine Or.inl ?_; (with_reducible assumption)) | (refine Or.inr ?_; (with_reducible assumption)) | (refine Or.inr (Or.inl ?_); (with_reducible assumption)) | (refine Or.inr (Or.inr ?_); (with_reducible assumption)) | (refine Or.inr (Or.inr (Or.inl ?_)); (with_reducible assumption)) | (refine Or.inr (Or.inr (Or.inr ?_)); (with_reducible assumption)) | (refine fun z => Or.elim z ?_ ?_ <;> (with_reducible assumption)) | (refine fun z => Or.elim z ?_ (fun z => Or.elim z ?_ ?_) <;> (with_reducible assumption)) | (refine fun z => Or.elim z ?_ (fun z => Or.elim z ?_ (fun z => Or.elim z ?_ ?_)) <;> (with_reducible assumption)) | (refine fun z => Or.elim z (fun z9 => z9 ?_) ?_ <;> (first | (with_reducible assumption) | (refine Or.inl ?_; (with_reducible assumption)) | (refine Or.inr (Or.inl ?_); (with_reducible assumption)) | (refine Or.inr (Or.inr ?_); (with_reducible assumption)) | (refine Or.inr (Or.inr (Or.inl ?_)); (with_reducible assumption)) | (refine Or.inr (Or.inr (Or.inr ?_)); (with_reducible assumption)))) | (refine Or.inl (fun z => Or.elim z ?_ (fun z => Or.elim z ?_ ?_)) <;> (with_reducible assumption)) | (refine Or.inl (fun z => Or.elim z ?_ (fun z => Or.elim z ?_ (fun z => Or.elim z ?_ ?_))) <;> (with_reducible assumption))))) | (first | (refine sp_k22_2 ?_ ?_ <;> (first | assumption | (refine Or.inl ?_; assumption) | (refine Or.inr ?_; assumption) | (refine Or.inr (Or.inl ?_); assumption) | (refine Or.inr (Or.inr ?_); assumption) | (refine Or.inr (Or.inr (Or.inl ?_)); assumption) | (refine Or.inr (Or.inr (Or.inr ?_)); assumption) | (refine fun z => Or.elim z ?_ ?_ <;> assumption) | (refine fun z => Or.elim z ?_ (fun z => Or.elim z ?_ ?_) <;> assumption) | (refine fun z => Or.elim z ?_ (fun z => Or.elim z ?_ (fun z => Or.elim z ?_ ?_)) <;> assumption) | (refine fun z => Or.elim z (fun z9 => z9 ?_) ?_ <;> (first | assumption | (refine Or.inl ?_; assumption) | (refine Or.inr (Or.inl ?_); assumption) | (refine Or.inr (Or.inr ?_); assumption) | (refine Or.inr (Or.inr (Or.inl ?_)); assumption) | (refine Or.inr (Or.inr (Or.inr ?_)); assumption))) | (refine Or.inl (fun z => Or.elim z ?_ (fun z => Or.elim z ?_ ?_)) <;> assumption) | (refine Or.inl (fun z => Or.elim z ?_ (fun z => Or.elim z ?_ (fun z => Or.elim z ?_ ?_))) <;> assumption))))
          · refine j_w w2 hw181 ?_
            refine j_if_eq (tgt := 38) dX11_replaceAll_31 (by decide) (fun c_31_313 => ?_) (fun c_31_313 => ?_)
            · refine j_iconst (v := 0) dX11_replaceAll_38 (by decide) ?_
              refine j_iconst (v := 2) dX11_replaceAll_39 (by decide) ?_
              refine j_callV (q := (RX11, TX11, 8)) dX11_replaceAll_40 kX11_refuse lX11_52 inX11_refuse seX11_refuse h2.m rfl (cm_refuse0 hl w2 _ _ h2 rfl) (Nat.le_of_ble_eq_true rfl) ⟨(by show _ ≤ 12; omega), (by show _ ≤ 12; omega)⟩ rfl (Nat.le_of_ble_eq_true rfl) rfl rfl (fun _ _ h => h.elim) ?_
              rintro _ _ ⟨rfl, hw182⟩
              refine j_w w2 hw182 ?_
              refine j_if_eq (tgt := 48) dX11_replaceAll_43 (by decide) (fun c_43_319 => ?_) (fun c_43_319 => ?_)
              · refine j_aload_n dX11_replaceAll_48 rfl rfl ?_
                refine j_getf dX11_replaceAll_49 fX11_31 h2.m rfl ?_
                refine j_iload_n dX11_replaceAll_52 rfl ?_
                obtain ⟨fz183, gz183, hz183⟩ := h2.co
                refine j_aald (v := .ref (1004 + i135)) dX11_replaceAll_53 gz183 rfl rfl (vp_in_nI (by omega) (by omega)) (by rw [z_cla (by omega)]; exact hz183 _ (by omega)) ?_
                refine j_iconst (v := 0) dX11_replaceAll_54 (by decide) ?_
                refine j_dup2 dX11_replaceAll_55 rfl rfl ?_
                refine j_ld dX11_replaceAll_56 (h2.cn (i := i135) (by omega)) (vp_in_nI (n := 0) (by decide) (by decide)) ?_
                refine j_iconst (v := 1) dX11_replaceAll_57 (by decide) ?_
                refine j_iadd dX11_replaceAll_58 ?_
                refine j_sto (w' := _) dX11_replaceAll_59 (h2.cn (i := i135) (by omega)) (vp_in_nI (n := 0) (by decide) (by decide)) rfl ?_
                refine j_seal (by omega) ?_
                intro w14 u14
                have fw14 := u14.fw (ρ := 44 + i135) (by omega) (by omega)
                have h14 := h2.up44 (i0 := i135) (by omega) fw14 u14.1
                rw [show (0 : Int32).toNatClampNeg = 0 by decide] at h14
                have R14 := R2.bp (i := i135) (k := 0) (by omega) (by decide)
                refine j_iconst (v := 0) dX11_replaceAll_60 (by decide) ?_
                refine j_istore (lo' := [(4, _), (0, _), (1, _), (2, _), (3, _)]) dX11_replaceAll_61 (by decide) rfl ?_
                have hL12 : (sp_R S i135).length ≤ 12 := R.len12 h (by omega)
                have loop63 : ∀ (n9 : Nat) (w15 : z_W) (s1 : z_Z) (A L : List Int32) (c : Nat → Int32) (a : Nat), (a = A.length) → (L.length < n9) → (A.length ≤ (A ++ L).length) → (A.length + L.length ≤ 12) → (∀ x ∈ L, z_vl x) → (sp_ra (sp_F S i135) u n c A L = sp_chg S i135 u n) → (sp_MR (sp_uR (sp_uC S i135 c) i135 (A ++ L)) s1) → (s1.1.1 = 0) → (z_mst w15 s1) → (z_fm 59 w w15) → z_J G l mX11_replaceAll (22, 12, 12, w, Q9, (fun _ _ => False)) 63 [(0, .ref 1000), (1, .int (nI i135)), (2, .int u), (3, .int n), (4, .int (nI a))] [] w15 a a := by
                  intro n9
                  induction n9 with
                  | zero => intro w15 s1 A L c a ha hf9 hAl hA hv he hR hth hm hfm; exact absurd hf9 (Nat.not_lt_zero _)
                  | succ n9 ih =>
                    intro w15 s1 A L c a ha hf9 hAl hA hv he hR hth hm hfm
                    subst ha
                    refine j_iload dX11_replaceAll_63 rfl ?_
                    refine j_aload_n dX11_replaceAll_65 rfl rfl ?_
                    refine j_getf dX11_replaceAll_66 fX11_21 hm.m rfl ?_
                    refine j_iload_n dX11_replaceAll_69 rfl ?_
                    obtain ⟨lv187, -, lg187⟩ := z_li.cell hm.rows
                    refine j_callV (q := (RJx4a65c, TJx4a65c, 3)) dX11_replaceAll_70 kJx4a65c_get_915e3 lX11_82 inJx4a65c_get_915e3 seJx4a65c_get_915e3 lg187 rfl (cl_get hl w15 41 1001 _ _ (i135) _ hm.rows (z_two2 (i := i135) (by omega))) (Nat.le_of_ble_eq_true rfl) ⟨(by show _ ≤ 12; omega), (by show _ ≤ 12; omega)⟩ rfl (Nat.le_of_ble_eq_true rfl) rfl rfl (fun _ _ h => h.elim) ?_
                    rintro _ _ ⟨rfl, hw188⟩
                    refine j_w w15 hw188 ?_
                    refine j_castS dX11_replaceAll_73 (z_w 1341 ((lwt_6_3 6).trans rfl) (by decide +kernel)) (z_li.is (hm.rw (i := i135) (by omega)).1) ?_
                    obtain ⟨lv190, -, lg190⟩ := z_li.cell (hm.rw (i := i135) (by omega)).1
                    refine j_callV (q := (RJx4a65c, TJx4a65c, 3)) dX11_replaceAll_76 kJx4a65c_size_8abf5 lX11_86 inJx4a65c_size_8abf5 seJx4a65c_size_8abf5 lg190 rfl (cl_sizeW hl w15 (i135) ((A ++ L)) hm hR (by omega) z_fu_self) (Nat.le_of_ble_eq_true rfl) ⟨(by show _ ≤ 12; omega), (by show _ ≤ 12; omega)⟩ rfl (Nat.le_of_ble_eq_true rfl) rfl rfl (fun _ _ h => h.elim) ?_
                    rintro _ _ ⟨rfl, hw191⟩
                    refine j_w w15 hw191 ?_
                    have hz191 : ((A ++ L)).length ≤ 12 := hR.l12 hm (i := i135) (by omega) z_fu_self
                    refine j_icmp_ge (tgt := 197) dX11_replaceAll_79 (by decide) (fun c_79_361 => ?_) (fun c_79_361 => ?_)
                    · have hb79 : ((A ++ L)).length ≤ A.length := (nI_leI (a := ((A ++ L)).length) (b := A.length) (by omega) (by omega)).mp c_79_361
                      obtain rfl : L = [] := List.eq_nil_of_length_eq_zero (by have h9 := hb79; rw [List.length_append] at h9; omega)
                      refine j_aload_n dX11_replaceAll_197 rfl rfl ?_
                      refine j_getf dX11_replaceAll_198 fX11_31 hm.m rfl ?_
                      refine j_iload_n dX11_replaceAll_201 rfl ?_
                      obtain ⟨fz192, gz192, hz192⟩ := hm.co
                      refine j_aald (v := .ref (1004 + i135)) dX11_replaceAll_202 gz192 rfl rfl (vp_in_nI (by omega) (by omega)) (by rw [z_cla (by omega)]; exact hz192 _ (by omega)) ?_
                      refine j_iconst (v := 1) dX11_replaceAll_203 (by decide) ?_
                      refine j_dup2 dX11_replaceAll_204 rfl rfl ?_
                      refine j_ld dX11_replaceAll_205 (hm.cn (i := i135) (by omega)) (vp_in_nI (n := 1) (by decide) (by decide)) ?_
                      refine j_iconst (v := 1) dX11_replaceAll_206 (by decide) ?_
                      refine j_iadd dX11_replaceAll_207 ?_
                      refine j_sto (w' := _) dX11_replaceAll_208 (hm.cn (i := i135) (by omega)) (vp_in_nI (n := 1) (by decide) (by decide)) rfl ?_
                      refine j_seal (by omega) ?_
                      intro w16 u16
                      have fw16 := u16.fw (ρ := 44 + i135) (by omega) (by omega)
                      have h16 := hm.up44 (i0 := i135) (by omega) fw16 u16.1
                      rw [show (1 : Int32).toNatClampNeg = 1 by decide] at h16
                      have R16 := hR.bpR (i := i135) (k := 1) (by omega) (by decide)
                      refine j_aload_n dX11_replaceAll_209 rfl rfl ?_
                      refine j_getf dX11_replaceAll_210 fX11_21 h16.m rfl ?_
                      refine j_iload_n dX11_replaceAll_213 rfl ?_
                      obtain ⟨lv196, -, lg196⟩ := z_li.cell h16.rows
                      refine j_callV (q := (RJx4a65c, TJx4a65c, 3)) dX11_replaceAll_214 kJx4a65c_get_915e3 lX11_82 inJx4a65c_get_915e3 seJx4a65c_get_915e3 lg196 rfl (cl_get hl w16 41 1001 _ _ (i135) _ h16.rows (z_two2 (i := i135) (by omega))) (Nat.le_of_ble_eq_true rfl) ⟨(by show _ ≤ 12; omega), (by show _ ≤ 12; omega)⟩ rfl (Nat.le_of_ble_eq_true rfl) rfl rfl (fun _ _ h => h.elim) ?_
                      rintro _ _ ⟨rfl, hw197⟩
                      refine j_w w16 hw197 ?_
                      refine j_castS dX11_replaceAll_217 (z_w 1341 ((lwt_6_3 6).trans rfl) (by decide +kernel)) (z_li.is (h16.rw (i := i135) (by omega)).1) ?_
                      obtain ⟨lv199, -, lg199⟩ := z_li.cell (h16.rw (i := i135) (by omega)).1
                      refine j_callV (q := (RJx4a65c, TJx4a65c, 3)) dX11_replaceAll_220 kJx4a65c_size_8abf5 lX11_86 inJx4a65c_size_8abf5 seJx4a65c_size_8abf5 lg199 rfl (cl_sizeW hl w16 (i135) ((A ++ [])) h16 R16 (by omega) z_fu_self) (Nat.le_of_ble_eq_true rfl) ⟨(by show _ ≤ 12; omega), (by show _ ≤ 12; omega)⟩ rfl (Nat.le_of_ble_eq_true rfl) rfl rfl (fun _ _ h => h.elim) ?_
                      rintro _ _ ⟨rfl, hw200⟩
                      refine j_w w16 hw200 ?_
                      have hz200 : ((A ++ [])).length ≤ 12 := R16.l12 h16 (i := i135) (by omega) z_fu_self
                      refine j_iret dX11_replaceAll_223 rfl rfl ?_ (by show _ ≤ 12; omega) (by show _ ≤ 12; omega)
                      refine cast (congrFun (congrFun hQ9 _) _) ?_
                      rw [List.append_nil] at R16
                      try rw [ei135]
                      refine ⟨_, _, rfl, (hfm.tr (fw16.fm (q := 59) (by omega))), h16, sp_X0 ?_ hth (by unfold sp_chgS; rw [← he]; exact R16) (by rw [← he, List.append_nil]; rfl)⟩
                      first | (first | (refine sp_k22_0 ?_ ?_ <;> (first | (with_reducible assumption) | (refine Or.inl ?_; (with_reducible assumption)) | (refine Or.inr ?_; (with_reducible assumption)) | (refine Or.inr (Or.inl ?_); (with_reducible assumption)) | (refine Or.inr (Or.inr ?_); (with_reducible assumption)) | (refine Or.inr (Or.inr (Or.inl ?_)); (with_reducible assumption)) | (refine Or.inr (Or.inr (Or.inr ?_)); (with_reducible assumption)) | (refine fun z => Or.elim z ?_ ?_ <;> (with_reducible assumption)) | (refine fun z => Or.elim z ?_ (fun z => Or.elim z ?_ ?_) <;> (with_reducible assumption)) | (refine fun z => Or.elim z ?_ (fun z => Or.elim z ?_ (fun z => Or.elim z ?_ ?_)) <;> (with_reducible assumption)) | (refine fun z => Or.elim z (fun z9 => z9 ?_) ?_ <;> (first | (with_reducible assumption) | (refine Or.inl ?_; (with_reducible assumption)) | (refine Or.inr (Or.inl ?_); (with_reducible assumption)) | (refine Or.inr (Or.inr ?_); (with_reducible assumption)) | (refine Or.inr (Or.inr (Or.inl ?_)); (with_reducible assumption)) | (refine Or.inr (Or.inr (Or.inr ?_)); (with_reducible assumption)))) | (refine Or.inl (fun z => Or.elim z ?_ (fun z => Or.elim z ?_ ?_)) <;> (with_reducible assumption)) | (refine Or.inl (fun z => Or.elim z ?_ (fun z => Or.elim z ?_ (fun z => Or.elim z ?_ ?_))) <;> (with_reducible assumption))))) | (first | (refine sp_k22_0 ?_ ?_ <;> (first | assumption | (refine Or.inl ?_; assumption) | (refine Or.inr ?_; assumption) | (refine Or.inr (Or.inl ?_); assumption) | (refine Or.inr (Or.inr ?_); assumption) | (refine Or.inr (Or.inr (Or.inl ?_)); assumption) | (refine Or.inr (Or.inr (Or.inr ?_)); assumption) | (refine fun z => Or.elim z ?_ ?_ <;> assumption) | (refine fun z => Or.elim z ?_ (fun z => Or.elim z ?_ ?_) <;> assumption) | (refine fun z => Or.elim z ?_ (fun z => Or.elim z ?_ (fun z => Or.elim z ?_ ?_)) <;> assumption) | (refine fun z => Or.elim z (fun z9 => z9 ?_) ?_ <;> (first | assumption | (refine Or.inl ?_; assumption) | (refine Or.inr (Or.inl ?_); assumption) | (refine Or.inr (Or.inr ?_); assumption) | (refine Or.inr (Or.inr (Or.inl ?_)); assumption) | (refine Or.inr (Or.inr (Or.inr ?_)); assumption))) | (refine Or.inl (fun z => Or.elim z ?_ (fun z => Or.elim z ?_ ?_)) <;> assumption) | (refine Or.inl (fun z => Or.elim z ?_ (fun z => Or.elim z ?_ (fun z => Or.elim z ?_ ?_))) <;> assumption))))
                    · have hb79 : A.length < ((A ++ L)).length := Nat.not_le.mp (fun z => c_79_361 ((nI_leI (a := ((A ++ L)).length) (b := A.length) (by omega) (by omega)).mpr z))
                      obtain ⟨x, L2, rfl⟩ : ∃ x L2, L = x :: L2 := by
                        cases L with
                        | nil => rw [List.append_nil] at hb79; exact absurd hb79 (Nat.lt_irrefl _)
                        | cons x L2 => exact ⟨x, L2, rfl⟩
                      have hmid := sp_lmid (A := A) (D := L2) (v := x)
                      refine j_aload_n dX11_replaceAll_82 rfl rfl ?_
                      refine j_getf dX11_replaceAll_83 fX11_31 hm.m rfl ?_
                      refine j_iload_n dX11_replaceAll_86 rfl ?_
                      obtain ⟨fz201, gz201, hz201⟩ := hm.co
                      refine j_aald (v := .ref (1004 + i135)) dX11_replaceAll_87 gz201 rfl rfl (vp_in_nI (by omega) (by omega)) (by rw [z_cla (by omega)]; exact hz201 _ (by omega)) ?_
                      refine j_iconst (v := 1) dX11_replaceAll_88 (by decide) ?_
                      refine j_dup2 dX11_replaceAll_89 rfl rfl ?_
                      refine j_ld dX11_replaceAll_90 (hm.cn (i := i135) (by omega)) (vp_in_nI (n := 1) (by decide) (by decide)) ?_
                      refine j_iconst (v := 1) dX11_replaceAll_91 (by decide) ?_
                      refine j_iadd dX11_replaceAll_92 ?_
                      refine j_sto (w' := _) dX11_replaceAll_93 (hm.cn (i := i135) (by omega)) (vp_in_nI (n := 1) (by decide) (by decide)) rfl ?_
                      refine j_seal (by omega) ?_
                      intro w17 u17
                      have fw17 := u17.fw (ρ := 44 + i135) (by omega) (by omega)
                      have h17 := hm.up44 (i0 := i135) (by omega) fw17 u17.1
                      rw [show (1 : Int32).toNatClampNeg = 1 by decide] at h17
                      have R17 := hR.bpR (i := i135) (k := 1) (by omega) (by decide)
                      refine j_aload_n dX11_replaceAll_94 rfl rfl ?_
                      refine j_getf dX11_replaceAll_95 fX11_31 h17.m rfl ?_
                      refine j_iload_n dX11_replaceAll_98 rfl ?_
                      obtain ⟨fz204, gz204, hz204⟩ := h17.co
                      refine j_aald (v := .ref (1004 + i135)) dX11_replaceAll_99 gz204 rfl rfl (vp_in_nI (by omega) (by omega)) (by rw [z_cla (by omega)]; exact hz204 _ (by omega)) ?_
                      refine j_iconst (v := 2) dX11_replaceAll_100 (by decide) ?_
                      refine j_dup2 dX11_replaceAll_101 rfl rfl ?_
                      refine j_ld dX11_replaceAll_102 (h17.cn (i := i135) (by omega)) (vp_in_nI (n := 2) (by decide) (by decide)) ?_
                      refine j_iconst (v := 1) dX11_replaceAll_103 (by decide) ?_
                      refine j_iadd dX11_replaceAll_104 ?_
                      refine j_sto (w' := _) dX11_replaceAll_105 (h17.cn (i := i135) (by omega)) (vp_in_nI (n := 2) (by decide) (by decide)) rfl ?_
                      refine j_seal (by omega) ?_
                      intro w18 u18
                      have fw18 := u18.fw (ρ := 44 + i135) (by omega) (by omega)
                      have h18 := h17.up44 (i0 := i135) (by omega) fw18 u18.1
                      rw [show (2 : Int32).toNatClampNeg = 2 by decide] at h18
                      have R18 := R17.bpR (i := i135) (k := 2) (by omega) (by decide)
                      refine j_iload_n dX11_replaceAll_106 rfl ?_
                      refine j_iconst (v := 0) dX11_replaceAll_107 (by decide) ?_
                      refine j_aload_n dX11_replaceAll_108 rfl rfl ?_
                      refine j_getf dX11_replaceAll_109 fX11_21 h18.m rfl ?_
                      refine j_iload_n dX11_replaceAll_112 rfl ?_
                      obtain ⟨lv208, -, lg208⟩ := z_li.cell h18.rows
                      refine j_callV (q := (RJx4a65c, TJx4a65c, 3)) dX11_replaceAll_113 kJx4a65c_get_915e3 lX11_82 inJx4a65c_get_915e3 seJx4a65c_get_915e3 lg208 rfl (cl_get hl w18 41 1001 _ _ (i135) _ h18.rows (z_two2 (i := i135) (by omega))) (Nat.le_of_ble_eq_true rfl) ⟨(by show _ ≤ 12; omega), (by show _ ≤ 12; omega)⟩ rfl (Nat.le_of_ble_eq_true rfl) rfl rfl (fun _ _ h => h.elim) ?_
                      rintro _ _ ⟨rfl, hw209⟩
                      refine j_w w18 hw209 ?_
                      refine j_castS dX11_replaceAll_116 (z_w 1341 ((lwt_6_3 6).trans rfl) (by decide +kernel)) (z_li.is (h18.rw (i := i135) (by omega)).1) ?_
                      refine j_iload dX11_replaceAll_119 rfl ?_
                      obtain ⟨lv212, -, lg212⟩ := z_li.cell (h18.rw (i := i135) (by omega)).1
                      refine j_callV (q := (RJx4a65c, TJx4a65c, 3)) dX11_replaceAll_121 kJx4a65c_get_915e3 lX11_82 inJx4a65c_get_915e3 seJx4a65c_get_915e3 lg212 rfl (cl_getW hl w18 (i135) (A.length) ((A ++ x :: L2)) x h18 R18 (by omega) z_fu_self sp_mid?) (Nat.le_of_ble_eq_true rfl) ⟨(by show _ ≤ 12; omega), (by show _ ≤ 12; omega)⟩ rfl (Nat.le_of_ble_eq_true rfl) rfl rfl (fun _ _ h => h.elim) ?_
                      rintro _ _ ⟨rfl, hw213⟩
                      refine j_w w18 hw213 ?_
                      refine j_castS dX11_replaceAll_124 (z_w 1567 ((lwt_7_2 22).trans rfl) (by decide +kernel)) rfl ?_
                      refine j_callVB (v0 := .float _) (C := "java/lang/Integer") dX11_replaceAll_127 kJ6_intValue_8abf5 lX11_99 inJ6_intValue_8abf5 seJ6_intValue_8abf5 rfl (c_intv hl w18 x) (Nat.le_of_ble_eq_true rfl) ⟨(by show _ ≤ 12; omega), (by show _ ≤ 12; omega)⟩ rfl (Nat.le_of_ble_eq_true rfl) rfl rfl (fun _ _ h => h.elim) ?_
                      rintro _ _ ⟨rfl, hw215⟩
                      refine j_w w18 hw215 ?_
                      refine j_iload_n dX11_replaceAll_130 rfl ?_
                      refine j_callS dX11_replaceAll_131 kX11_rule lX11_115 stX11_rule (cm_rule_r hl w18 _ _ _ _ (hv _ List.mem_cons_self).2 (sp_vl (by assumption)).2) (Nat.le_of_ble_eq_true rfl) ⟨(by show _ ≤ 12; omega), (by show _ ≤ 12; omega)⟩ rfl (Nat.le_of_ble_eq_true rfl) rfl rfl (fun _ _ h => h.elim) ?_
                      rintro _ _ ⟨⟨rfl, hq216⟩ | ⟨y216, rfl, hq216, hne216⟩, hw216⟩
                      · refine j_w w18 hw216 ?_
                        refine j_istore (lo' := [(5, _), (0, _), (1, _), (2, _), (3, _), (4, _)]) dX11_replaceAll_134 (by decide) rfl ?_
                        refine j_iload dX11_replaceAll_136 rfl ?_
                        refine j_ldc dX11_replaceAll_138 kcX11_67 ?_
                        refine j_icmp_eq (tgt := 152) dX11_replaceAll_140 (by decide) (fun c_140_466 => ?_) (fun c_140_466 => ?_)
                        · refine j_aload_n dX11_replaceAll_152 rfl rfl ?_
                          refine j_callV (q := (RX11, TX11, 8)) dX11_replaceAll_153 kX11_nine lX11_105 inX11_nine seX11_nine h18.m rfl (cm_nine hl w18 _ h18) (Nat.le_of_ble_eq_true rfl) ⟨(by show _ ≤ 12; omega), (by show _ ≤ 12; omega)⟩ rfl (Nat.le_of_ble_eq_true rfl) rfl rfl (fun _ _ h => h.elim) ?_
                          rintro _ w19 ⟨rfl, fm19, h19⟩
                          have R19 := R18.ni
                          refine j_iret dX11_replaceAll_156 rfl rfl ?_ (by show _ ≤ 12; omega) (by show _ ≤ 12; omega)
                          refine cast (congrFun (congrFun hQ9 _) _) ?_
                          rw [sp_raN hq216] at he
                          try rw [ei135]
                          refine ⟨_, _, rfl, (((hfm.tr (fw17.fm (q := 59) (by omega))).tr (fw18.fm (q := 59) (by omega))).tr (fm19.le (q' := 59) (by decide))), h19, sp_X0 ?_ hth (by unfold sp_chgS; rw [← he]; exact R19) (by rw [← he]; rfl)⟩
                          first | (first | (refine sp_k22_0 ?_ ?_ <;> (first | (with_reducible assumption) | (refine Or.inl ?_; (with_reducible assumption)) | (refine Or.inr ?_; (with_reducible assumption)) | (refine Or.inr (Or.inl ?_); (with_reducible assumption)) | (refine Or.inr (Or.inr ?_); (with_reducible assumption)) | (refine Or.inr (Or.inr (Or.inl ?_)); (with_reducible assumption)) | (refine Or.inr (Or.inr (Or.inr ?_)); (with_reducible assumption)) | (refine fun z => Or.elim z ?_ ?_ <;> (with_reducible assumption)) | (refine fun z => Or.elim z ?_ (fun z => Or.elim z ?_ ?_) <;> (with_reducible assumption)) | (refine fun z => Or.elim z ?_ (fun z => Or.elim z ?_ (fun z => Or.elim z ?_ ?_)) <;> (with_reducible assumption)) | (refine fun z => Or.elim z (fun z9 => z9 ?_) ?_ <;> (first | (with_reducible assumption) | (refine Or.inl ?_; (with_reducible assumption)) | (refine Or.inr (Or.inl ?_); (with_reducible assumption)) | (refine Or.inr (Or.inr ?_); (with_reducible assumption)) | (refine Or.inr (Or.inr (Or.inl ?_)); (with_reducible assumption)) | (refine Or.inr (Or.inr (Or.inr ?_)); (with_reducible assumption)))) | (refine Or.inl (fun z => Or.elim z ?_ (fun z => Or.elim z ?_ ?_)) <;> (with_reducible assumption)) | (refine Or.inl (fun z => Or.elim z ?_ (fun z => Or.elim z ?_ (fun z => Or.elim z ?_ ?_))) <;> (with_reducible assumption))))) | (first | (refine sp_k22_0 ?_ ?_ <;> (first | assumption | (refine Or.inl ?_; assumption) | (refine Or.inr ?_; assumption) | (refine Or.inr (Or.inl ?_); assumption) | (refine Or.inr (Or.inr ?_); assumption) | (refine Or.inr (Or.inr (Or.inl ?_)); assumption) | (refine Or.inr (Or.inr (Or.inr ?_)); assumption) | (refine fun z => Or.elim z ?_ ?_ <;> assumption) | (refine fun z => Or.elim z ?_ (fun z => Or.elim z ?_ ?_) <;> assumption) | (refine fun z => Or.elim z ?_ (fun z => Or.elim z ?_ (fun z => Or.elim z ?_ ?_)) <;> assumption) | (refine fun z => Or.elim z (fun z9 => z9 ?_) ?_ <;> (first | assumption | (refine Or.inl ?_; assumption) | (refine Or.inr (Or.inl ?_); assumption) | (refine Or.inr (Or.inr ?_); assumption) | (refine Or.inr (Or.inr (Or.inl ?_)); assumption) | (refine Or.inr (Or.inr (Or.inr ?_)); assumption))) | (refine Or.inl (fun z => Or.elim z ?_ (fun z => Or.elim z ?_ ?_)) <;> assumption) | (refine Or.inl (fun z => Or.elim z ?_ (fun z => Or.elim z ?_ (fun z => Or.elim z ?_ ?_))) <;> assumption))))
                        · exact absurd c_140_466 (by decide)
                      · refine j_w w18 hw216 ?_
                        refine j_istore (lo' := [(5, _), (0, _), (1, _), (2, _), (3, _), (4, _)]) dX11_replaceAll_134 (by decide) rfl ?_
                        refine j_iload dX11_replaceAll_136 rfl ?_
                        refine j_ldc dX11_replaceAll_138 kcX11_67 ?_
                        refine j_icmp_eq (tgt := 152) dX11_replaceAll_140 (by decide) (fun c_140_482 => ?_) (fun c_140_482 => ?_)
                        · exact absurd c_140_482 hne216
                        · refine j_aload_n dX11_replaceAll_143 rfl rfl ?_
                          refine j_getf dX11_replaceAll_144 fX11_25 h18.m rfl ?_
                          refine j_iload_n dX11_replaceAll_147 rfl ?_
                          refine j_zald dX11_replaceAll_148 h18.fx (vp_in_nI (by omega) (by omega)) rfl ?_
                          rcases (Bool.eq_false_or_eq_true (sp_F S i135)) with hF148 | hF148
                          · refine j_top (congrArg Value.int (show _ = (1 : Int32) from by rw [z_cla (by omega), R18.f (by omega)]; show z_bi (sp_F S i135) = 1; rw [hF148]; rfl)) ?_
                            refine j_if_eq (tgt := 157) dX11_replaceAll_149 (by decide) (fun c_149_490 => ?_) (fun c_149_490 => ?_)
                            · exact absurd c_149_490 (by decide)
                            · refine j_aload_n dX11_replaceAll_152 rfl rfl ?_
                              refine j_callV (q := (RX11, TX11, 8)) dX11_replaceAll_153 kX11_nine lX11_105 inX11_nine seX11_nine h18.m rfl (cm_nine hl w18 _ h18) (Nat.le_of_ble_eq_true rfl) ⟨(by show _ ≤ 12; omega), (by show _ ≤ 12; omega)⟩ rfl (Nat.le_of_ble_eq_true rfl) rfl rfl (fun _ _ h => h.elim) ?_
                              rintro _ w20 ⟨rfl, fm20, h20⟩
                              have R20 := R18.ni
                              refine j_iret dX11_replaceAll_156 rfl rfl ?_ (by show _ ≤ 12; omega) (by show _ ≤ 12; omega)
                              refine cast (congrFun (congrFun hQ9 _) _) ?_
                              rw [hF148, sp_raF hq216] at he
                              try rw [ei135]
                              refine ⟨_, _, rfl, (((hfm.tr (fw17.fm (q := 59) (by omega))).tr (fw18.fm (q := 59) (by omega))).tr (fm20.le (q' := 59) (by decide))), h20, sp_X0 ?_ hth (by unfold sp_chgS; rw [← he]; exact R20) (by rw [← he]; rfl)⟩
                              first | (first | (refine sp_k22_0 ?_ ?_ <;> (first | (with_reducible assumption) | (refine Or.inl ?_; (with_reducible assumption)) | (refine Or.inr ?_; (with_reducible assumption)) | (refine Or.inr (Or.inl ?_); (with_reducible assumption)) | (refine Or.inr (Or.inr ?_); (with_reducible assumption)) | (refine Or.inr (Or.inr (Or.inl ?_)); (with_reducible assumption)) | (refine Or.inr (Or.inr (Or.inr ?_)); (with_reducible assumption)) | (refine fun z => Or.elim z ?_ ?_ <;> (with_reducible assumption)) | (refine fun z => Or.elim z ?_ (fun z => Or.elim z ?_ ?_) <;> (with_reducible assumption)) | (refine fun z => Or.elim z ?_ (fun z => Or.elim z ?_ (fun z => Or.elim z ?_ ?_)) <;> (with_reducible assumption)) | (refine fun z => Or.elim z (fun z9 => z9 ?_) ?_ <;> (first | (with_reducible assumption) | (refine Or.inl ?_; (with_reducible assumption)) | (refine Or.inr (Or.inl ?_); (with_reducible assumption)) | (refine Or.inr (Or.inr ?_); (with_reducible assumption)) | (refine Or.inr (Or.inr (Or.inl ?_)); (with_reducible assumption)) | (refine Or.inr (Or.inr (Or.inr ?_)); (with_reducible assumption)))) | (refine Or.inl (fun z => Or.elim z ?_ (fun z => Or.elim z ?_ ?_)) <;> (with_reducible assumption)) | (refine Or.inl (fun z => Or.elim z ?_ (fun z => Or.elim z ?_ (fun z => Or.elim z ?_ ?_))) <;> (with_reducible assumption))))) | (first | (refine sp_k22_0 ?_ ?_ <;> (first | assumption | (refine Or.inl ?_; assumption) | (refine Or.inr ?_; assumption) | (refine Or.inr (Or.inl ?_); assumption) | (refine Or.inr (Or.inr ?_); assumption) | (refine Or.inr (Or.inr (Or.inl ?_)); assumption) | (refine Or.inr (Or.inr (Or.inr ?_)); assumption) | (refine fun z => Or.elim z ?_ ?_ <;> assumption) | (refine fun z => Or.elim z ?_ (fun z => Or.elim z ?_ ?_) <;> assumption) | (refine fun z => Or.elim z ?_ (fun z => Or.elim z ?_ (fun z => Or.elim z ?_ ?_)) <;> assumption) | (refine fun z => Or.elim z (fun z9 => z9 ?_) ?_ <;> (first | assumption | (refine Or.inl ?_; assumption) | (refine Or.inr (Or.inl ?_); assumption) | (refine Or.inr (Or.inr ?_); assumption) | (refine Or.inr (Or.inr (Or.inl ?_)); assumption) | (refine Or.inr (Or.inr (Or.inr ?_)); assumption))) | (refine Or.inl (fun z => Or.elim z ?_ (fun z => Or.elim z ?_ ?_)) <;> assumption) | (refine Or.inl (fun z => Or.elim z ?_ (fun z => Or.elim z ?_ (fun z => Or.elim z ?_ ?_))) <;> assumption))))
                          · refine j_top (congrArg Value.int (show _ = (0 : Int32) from by rw [z_cla (by omega), R18.f (by omega)]; show z_bi (sp_F S i135) = 0; rw [hF148]; rfl)) ?_
                            refine j_if_eq (tgt := 157) dX11_replaceAll_149 (by decide) (fun c_149_503 => ?_) (fun c_149_503 => ?_)
                            · refine j_aload_n dX11_replaceAll_157 rfl rfl ?_
                              refine j_getf dX11_replaceAll_158 fX11_21 h18.m rfl ?_
                              refine j_iload_n dX11_replaceAll_161 rfl ?_
                              obtain ⟨lv218, -, lg218⟩ := z_li.cell h18.rows
                              refine j_callV (q := (RJx4a65c, TJx4a65c, 3)) dX11_replaceAll_162 kJx4a65c_get_915e3 lX11_82 inJx4a65c_get_915e3 seJx4a65c_get_915e3 lg218 rfl (cl_get hl w18 41 1001 _ _ (i135) _ h18.rows (z_two2 (i := i135) (by omega))) (Nat.le_of_ble_eq_true rfl) ⟨(by show _ ≤ 12; omega), (by show _ ≤ 12; omega)⟩ rfl (Nat.le_of_ble_eq_true rfl) rfl rfl (fun _ _ h => h.elim) ?_
                              rintro _ _ ⟨rfl, hw219⟩
                              refine j_w w18 hw219 ?_
                              refine j_castS dX11_replaceAll_165 (z_w 1341 ((lwt_6_3 6).trans rfl) (by decide +kernel)) (z_li.is (h18.rw (i := i135) (by omega)).1) ?_
                              refine j_iload dX11_replaceAll_168 rfl ?_
                              refine j_iload dX11_replaceAll_170 rfl ?_
                              refine j_callS dX11_replaceAll_172 kJ6_valueOf_2dffe lX11_90 stJ6_valueOf_2dffe (cl_val hl w18 _) (Nat.le_of_ble_eq_true rfl) ⟨(by show _ ≤ 12; omega), (by show _ ≤ 12; omega)⟩ rfl (Nat.le_of_ble_eq_true rfl) rfl rfl (fun _ _ h => h.elim) ?_
                              rintro _ _ ⟨rfl, hw221⟩
                              refine j_w w18 hw221 ?_
                              obtain ⟨lv222, -, lg222⟩ := z_li.cell (h18.rw (i := i135) (by omega)).1
                              refine j_callV (q := (RJx4a65c, TJx4a65c, 3)) dX11_replaceAll_175 kJx4a65c_set_bcc79 lX11_119 inJx4a65c_set_bcc79 seJx4a65c_set_bcc79 lg222 rfl (cl_set hl w18 _ _ _ _ (A.length) _ _ (h18.rw (i := i135) (by omega)).1 (z_bx_get (by rw [R18.wlB (by omega) z_fu_self]; omega)) z_elF) (Nat.le_of_ble_eq_true rfl) ⟨(by show _ ≤ 12; omega), (by show _ ≤ 12; omega)⟩ rfl (Nat.le_of_ble_eq_true rfl) rfl rfl (fun _ _ h => h.elim) ?_
                              rintro _ w21 ⟨rfl, fw21, hr21⟩
                              rw [z_bx_set] at hr21
                              have fm21 := fw21.fm (q := 56) (by omega)
                              have h21 := h18.li11 (i0 := i135) (by omega) fw21 hr21 (by rw [List.length_set]; exact (h18.rw (i := i135) (by omega)).2)
                              have R21 := R18.uwm h21 (R18.wset (k := A.length) (x := y216) (by omega) z_fu_self)
                              rw [sp_uRR, sp_mids] at R21
                              refine j_pop dX11_replaceAll_178 rfl ?_
                              refine j_aload_n dX11_replaceAll_179 rfl rfl ?_
                              refine j_getf dX11_replaceAll_180 fX11_31 h21.m rfl ?_
                              refine j_iload_n dX11_replaceAll_183 rfl ?_
                              obtain ⟨fz223, gz223, hz223⟩ := h21.co
                              refine j_aald (v := .ref (1004 + i135)) dX11_replaceAll_184 gz223 rfl rfl (vp_in_nI (by omega) (by omega)) (by rw [z_cla (by omega)]; exact hz223 _ (by omega)) ?_
                              refine j_iconst (v := 3) dX11_replaceAll_185 (by decide) ?_
                              refine j_dup2 dX11_replaceAll_186 rfl rfl ?_
                              refine j_ld dX11_replaceAll_187 (h21.cn (i := i135) (by omega)) (vp_in_nI (n := 3) (by decide) (by decide)) ?_
                              refine j_iconst (v := 1) dX11_replaceAll_188 (by decide) ?_
                              refine j_iadd dX11_replaceAll_189 ?_
                              refine j_sto (w' := _) dX11_replaceAll_190 (h21.cn (i := i135) (by omega)) (vp_in_nI (n := 3) (by decide) (by decide)) rfl ?_
                              refine j_seal (by omega) ?_
                              intro w22 u22
                              have fw22 := u22.fw (ρ := 44 + i135) (by omega) (by omega)
                              have h22 := h21.up44 (i0 := i135) (by omega) fw22 u22.1
                              rw [show (3 : Int32).toNatClampNeg = 3 by decide] at h22
                              have R22 := R21.bpR (i := i135) (k := 3) (by omega) (by decide)
                              refine j_iinc (lo' := [(4, _), (5, _), (0, _), (1, _), (2, _), (3, _)]) dX11_replaceAll_191 rfl (z_inc _) (by decide) rfl ?_
                              refine j_goto (tgt := 63) dX11_replaceAll_194 (by decide) ?_
                              refine j_widen (kc' := (A.length + 1)) (ks' := (A.length + 1)) (by omega) (by omega) ?_
                              exact j_lo2 (ih w22 _ (A ++ [y216]) L2 _ (A.length + 1) sp_apn (by rw [List.length_cons] at hf9; omega) sp_apl (by rw [List.length_cons] at hA; rw [List.length_append]; show A.length + 1 + _ ≤ 12; omega) (fun x hx => hv x (List.mem_cons_of_mem _ hx)) (by rw [hF148, sp_raT hq216] at he; rw [hF148]; exact he) (by rw [← sp_mid]; exact R22) (by exact hth) h22 ((((hfm.tr (fw17.fm (q := 59) (by omega))).tr (fw18.fm (q := 59) (by omega))).tr (fm21.le (q' := 59) (by decide))).tr (fw22.fm (q := 59) (by omega)))) (z_q1 rfl (z_q1 rfl (z_q1 rfl (z_q1 rfl (z_q1 rfl z_q0)))))
                            · exact absurd c_149_503 (by decide)
                refine j_widen (kc' := 0) (ks' := 0) (by omega) (by omega) ?_
                exact j_lo2 (loop63 ((sp_R S i135).length + 1) w14 _ [] (sp_R S i135) _ 0 (by exact rfl) (Nat.lt_succ_self _) sp_apl (by rw [List.length_nil]; omega) (fun x hx => (ok.1 i135 (by omega)).2 x hx) rfl (by rw [List.nil_append, show sp_uR (sp_uC S i135 (z_bp (sp_C S i135) 0)) i135 (sp_R S i135) = sp_uC S i135 (z_bp (sp_C S i135) 0) from sp_uR_id]; exact R14) (by exact rfl) h14 ((fm2.le (q' := 59) (by decide)).tr (fw14.fm (q := 59) (by omega)))) (z_q1 rfl (z_q1 rfl (z_q1 rfl (z_q1 rfl (z_q1 rfl z_q0)))))
              · exact absurd c_43_319 (by decide)
            · exact absurd c_31_313 (by decide)
        · refine j_iload_n dX11_replaceAll_22 rfl ?_
          refine j_iconst (v := 4) dX11_replaceAll_23 (by decide) ?_
          refine j_icmp_ne (tgt := 34) dX11_replaceAll_24 (by decide) (fun c_24_554 => ?_) (fun c_24_554 => ?_)
          · refine j_iconst (v := 1) dX11_replaceAll_34 (by decide) ?_
            refine j_goto (tgt := 39) dX11_replaceAll_35 (by decide) ?_
            refine j_iconst (v := 2) dX11_replaceAll_39 (by decide) ?_
            refine j_callV (q := (RX11, TX11, 8)) dX11_replaceAll_40 kX11_refuse lX11_52 inX11_refuse seX11_refuse h2.m rfl (cm_refuse1 hl w2 _ _ h2 rfl (by decide)) (Nat.le_of_ble_eq_true rfl) ⟨(by show _ ≤ 12; omega), (by show _ ≤ 12; omega)⟩ rfl (Nat.le_of_ble_eq_true rfl) rfl rfl (fun _ _ h => h.elim) ?_
            rintro _ w23 ⟨rfl, fm23, h23⟩
            have R23 := R2.th (k := 2)
            refine j_if_eq (tgt := 48) dX11_replaceAll_43 (by decide) (fun c_43_561 => ?_) (fun c_43_561 => ?_)
            · exact absurd c_43_561 (by decide)
            · refine j_iconst (v := 0) dX11_replaceAll_46 (by decide) ?_
              refine j_iret dX11_replaceAll_47 rfl rfl ?_ (by show _ ≤ 12; omega) (by show _ ≤ 12; omega)
              refine cast (congrFun (congrFun hQ9 _) _) ?_
              try rw [ei135]
              refine ⟨_, _, rfl, ((fm2.le (q' := 59) (by decide)).tr (fm23.le (q' := 59) (by decide))), h23, sp_X1 (k := 2) ?_ (by decide) rfl R23⟩
              first | (first | (refine sp_k22_2 ?_ ?_ <;> (first | (with_reducible assumption) | (refine Or.inl ?_; (with_reducible assumption)) | (refine Or.inr ?_; (with_reducible assumption)) | (refine Or.inr (Or.inl ?_); (with_reducible assumption)) | (refine Or.inr (Or.inr ?_); (with_reducible assumption)) | (refine Or.inr (Or.inr (Or.inl ?_)); (with_reducible assumption)) | (refine Or.inr (Or.inr (Or.inr ?_)); (with_reducible assumption)) | (refine fun z => Or.elim z ?_ ?_ <;> (with_reducible assumption)) | (refine fun z => Or.elim z ?_ (fun z => Or.elim z ?_ ?_) <;> (with_reducible assumption)) | (refine fun z => Or.elim z ?_ (fun z => Or.elim z ?_ (fun z => Or.elim z ?_ ?_)) <;> (with_reducible assumption)) | (refine fun z => Or.elim z (fun z9 => z9 ?_) ?_ <;> (first | (with_reducible assumption) | (refine Or.inl ?_; (with_reducible assumption)) | (refine Or.inr (Or.inl ?_); (with_reducible assumption)) | (refine Or.inr (Or.inr ?_); (with_reducible assumption)) | (refine Or.inr (Or.inr (Or.inl ?_)); (with_reducible assumption)) | (refine Or.inr (Or.inr (Or.inr ?_)); (with_reducible assumption)))) | (refine Or.inl (fun z => Or.elim z ?_ (fun z => Or.elim z ?_ ?_)) <;> (with_reducible assumption)) | (refine Or.inl (fun z => Or.elim z ?_ (fun z => Or.elim z ?_ (fun z => Or.elim z ?_ ?_))) <;> (with_reducible assumption))))) | (first | (refine sp_k22_2 ?_ ?_ <;> (first | assumption | (refine Or.inl ?_; assumption) | (refine Or.inr ?_; assumption) | (refine Or.inr (Or.inl ?_); assumption) | (refine Or.inr (Or.inr ?_); assumption) | (refine Or.inr (Or.inr (Or.inl ?_)); assumption) | (refine Or.inr (Or.inr (Or.inr ?_)); assumption) | (refine fun z => Or.elim z ?_ ?_ <;> assumption) | (refine fun z => Or.elim z ?_ (fun z => Or.elim z ?_ ?_) <;> assumption) | (refine fun z => Or.elim z ?_ (fun z => Or.elim z ?_ (fun z => Or.elim z ?_ ?_)) <;> assumption) | (refine fun z => Or.elim z (fun z9 => z9 ?_) ?_ <;> (first | assumption | (refine Or.inl ?_; assumption) | (refine Or.inr (Or.inl ?_); assumption) | (refine Or.inr (Or.inr ?_); assumption) | (refine Or.inr (Or.inr (Or.inl ?_)); assumption) | (refine Or.inr (Or.inr (Or.inr ?_)); assumption))) | (refine Or.inl (fun z => Or.elim z ?_ (fun z => Or.elim z ?_ ?_)) <;> assumption) | (refine Or.inl (fun z => Or.elim z ?_ (fun z => Or.elim z ?_ (fun z => Or.elim z ?_ ?_))) <;> assumption))))
          · refine j_iload_n dX11_replaceAll_27 rfl ?_
            refine j_callS dX11_replaceAll_28 kX11_isNoValue lX11_79 stX11_isNoValue (cm_isNoValue_r hl w2 _) (Nat.le_of_ble_eq_true rfl) ⟨(by show _ ≤ 12; omega), (by show _ ≤ 12; omega)⟩ rfl (Nat.le_of_ble_eq_true rfl) rfl rfl (fun _ _ h => h.elim) ?_
            rintro _ _ ⟨⟨rfl, hno226⟩ | ⟨rfl, hye226⟩, hw226⟩
            · refine j_w w2 hw226 ?_
              refine j_if_eq (tgt := 38) dX11_replaceAll_31 (by decide) (fun c_31_573 => ?_) (fun c_31_573 => ?_)
              · exact absurd c_31_573 (by decide)
              · refine j_iconst (v := 1) dX11_replaceAll_34 (by decide) ?_
                refine j_goto (tgt := 39) dX11_replaceAll_35 (by decide) ?_
                refine j_iconst (v := 2) dX11_replaceAll_39 (by decide) ?_
                refine j_callV (q := (RX11, TX11, 8)) dX11_replaceAll_40 kX11_refuse lX11_52 inX11_refuse seX11_refuse h2.m rfl (cm_refuse1 hl w2 _ _ h2 rfl (by decide)) (Nat.le_of_ble_eq_true rfl) ⟨(by show _ ≤ 12; omega), (by show _ ≤ 12; omega)⟩ rfl (Nat.le_of_ble_eq_true rfl) rfl rfl (fun _ _ h => h.elim) ?_
                rintro _ w24 ⟨rfl, fm24, h24⟩
                have R24 := R2.th (k := 2)
                refine j_if_eq (tgt := 48) dX11_replaceAll_43 (by decide) (fun c_43_581 => ?_) (fun c_43_581 => ?_)
                · exact absurd c_43_581 (by decide)
                · refine j_iconst (v := 0) dX11_replaceAll_46 (by decide) ?_
                  refine j_iret dX11_replaceAll_47 rfl rfl ?_ (by show _ ≤ 12; omega) (by show _ ≤ 12; omega)
                  refine cast (congrFun (congrFun hQ9 _) _) ?_
                  try rw [ei135]
                  refine ⟨_, _, rfl, ((fm2.le (q' := 59) (by decide)).tr (fm24.le (q' := 59) (by decide))), h24, sp_X1 (k := 2) ?_ (by decide) rfl R24⟩
                  first | (first | (refine sp_k22_2 ?_ ?_ <;> (first | (with_reducible assumption) | (refine Or.inl ?_; (with_reducible assumption)) | (refine Or.inr ?_; (with_reducible assumption)) | (refine Or.inr (Or.inl ?_); (with_reducible assumption)) | (refine Or.inr (Or.inr ?_); (with_reducible assumption)) | (refine Or.inr (Or.inr (Or.inl ?_)); (with_reducible assumption)) | (refine Or.inr (Or.inr (Or.inr ?_)); (with_reducible assumption)) | (refine fun z => Or.elim z ?_ ?_ <;> (with_reducible assumption)) | (refine fun z => Or.elim z ?_ (fun z => Or.elim z ?_ ?_) <;> (with_reducible assumption)) | (refine fun z => Or.elim z ?_ (fun z => Or.elim z ?_ (fun z => Or.elim z ?_ ?_)) <;> (with_reducible assumption)) | (refine fun z => Or.elim z (fun z9 => z9 ?_) ?_ <;> (first | (with_reducible assumption) | (refine Or.inl ?_; (with_reducible assumption)) | (refine Or.inr (Or.inl ?_); (with_reducible assumption)) | (refine Or.inr (Or.inr ?_); (with_reducible assumption)) | (refine Or.inr (Or.inr (Or.inl ?_)); (with_reducible assumption)) | (refine Or.inr (Or.inr (Or.inr ?_)); (with_reducible assumption)))) | (refine Or.inl (fun z => Or.elim z ?_ (fun z => Or.elim z ?_ ?_)) <;> (with_reducible assumption)) | (refine Or.inl (fun z => Or.elim z ?_ (fun z => Or.elim z ?_ (fun z => Or.elim z ?_ ?_))) <;> (with_reducible assumption))))) | (first | (refine sp_k22_2 ?_ ?_ <;> (first | assumption | (refine Or.inl ?_; assumption) | (refine Or.inr ?_; assumption) | (refine Or.inr (Or.inl ?_); assumption) | (refine Or.inr (Or.inr ?_); assumption) | (refine Or.inr (Or.inr (Or.inl ?_)); assumption) | (refine Or.inr (Or.inr (Or.inr ?_)); assumption) | (refine fun z => Or.elim z ?_ ?_ <;> assumption) | (refine fun z => Or.elim z ?_ (fun z => Or.elim z ?_ ?_) <;> assumption) | (refine fun z => Or.elim z ?_ (fun z => Or.elim z ?_ (fun z => Or.elim z ?_ ?_)) <;> assumption) | (refine fun z => Or.elim z (fun z9 => z9 ?_) ?_ <;> (first | assumption | (refine Or.inl ?_; assumption) | (refine Or.inr (Or.inl ?_); assumption) | (refine Or.inr (Or.inr ?_); assumption) | (refine Or.inr (Or.inr (Or.inl ?_)); assumption) | (refine Or.inr (Or.inr (Or.inr ?_)); assumption))) | (refine Or.inl (fun z => Or.elim z ?_ (fun z => Or.elim z ?_ ?_)) <;> assumption) | (refine Or.inl (fun z => Or.elim z ?_ (fun z => Or.elim z ?_ (fun z => Or.elim z ?_ ?_))) <;> assumption))))
            · refine j_w w2 hw226 ?_
              refine j_if_eq (tgt := 38) dX11_replaceAll_31 (by decide) (fun c_31_590 => ?_) (fun c_31_590 => ?_)
              · refine j_iconst (v := 0) dX11_replaceAll_38 (by decide) ?_
                refine j_iconst (v := 2) dX11_replaceAll_39 (by decide) ?_
                refine j_callV (q := (RX11, TX11, 8)) dX11_replaceAll_40 kX11_refuse lX11_52 inX11_refuse seX11_refuse h2.m rfl (cm_refuse0 hl w2 _ _ h2 rfl) (Nat.le_of_ble_eq_true rfl) ⟨(by show _ ≤ 12; omega), (by show _ ≤ 12; omega)⟩ rfl (Nat.le_of_ble_eq_true rfl) rfl rfl (fun _ _ h => h.elim) ?_
                rintro _ _ ⟨rfl, hw227⟩
                refine j_w w2 hw227 ?_
                refine j_if_eq (tgt := 48) dX11_replaceAll_43 (by decide) (fun c_43_596 => ?_) (fun c_43_596 => ?_)
                · refine j_aload_n dX11_replaceAll_48 rfl rfl ?_
                  refine j_getf dX11_replaceAll_49 fX11_31 h2.m rfl ?_
                  refine j_iload_n dX11_replaceAll_52 rfl ?_
                  obtain ⟨fz228, gz228, hz228⟩ := h2.co
                  refine j_aald (v := .ref (1004 + i135)) dX11_replaceAll_53 gz228 rfl rfl (vp_in_nI (by omega) (by omega)) (by rw [z_cla (by omega)]; exact hz228 _ (by omega)) ?_
                  refine j_iconst (v := 0) dX11_replaceAll_54 (by decide) ?_
                  refine j_dup2 dX11_replaceAll_55 rfl rfl ?_
                  refine j_ld dX11_replaceAll_56 (h2.cn (i := i135) (by omega)) (vp_in_nI (n := 0) (by decide) (by decide)) ?_
                  refine j_iconst (v := 1) dX11_replaceAll_57 (by decide) ?_
                  refine j_iadd dX11_replaceAll_58 ?_
                  refine j_sto (w' := _) dX11_replaceAll_59 (h2.cn (i := i135) (by omega)) (vp_in_nI (n := 0) (by decide) (by decide)) rfl ?_
                  refine j_seal (by omega) ?_
                  intro w25 u25
                  have fw25 := u25.fw (ρ := 44 + i135) (by omega) (by omega)
                  have h25 := h2.up44 (i0 := i135) (by omega) fw25 u25.1
                  rw [show (0 : Int32).toNatClampNeg = 0 by decide] at h25
                  have R25 := R2.bp (i := i135) (k := 0) (by omega) (by decide)
                  refine j_iconst (v := 0) dX11_replaceAll_60 (by decide) ?_
                  refine j_istore (lo' := [(4, _), (0, _), (1, _), (2, _), (3, _)]) dX11_replaceAll_61 (by decide) rfl ?_
                  have hL12 : (sp_R S i135).length ≤ 12 := R.len12 h (by omega)
                  have loop63 : ∀ (n9 : Nat) (w26 : z_W) (s1 : z_Z) (A L : List Int32) (c : Nat → Int32) (a : Nat), (a = A.length) → (L.length < n9) → (A.length ≤ (A ++ L).length) → (A.length + L.length ≤ 12) → (∀ x ∈ L, z_vl x) → (sp_ra (sp_F S i135) u n c A L = sp_chg S i135 u n) → (sp_MR (sp_uR (sp_uC S i135 c) i135 (A ++ L)) s1) → (s1.1.1 = 0) → (z_mst w26 s1) → (z_fm 59 w w26) → z_J G l mX11_replaceAll (22, 12, 12, w, Q9, (fun _ _ => False)) 63 [(0, .ref 1000), (1, .int (nI i135)), (2, .int u), (3, .int n), (4, .int (nI a))] [] w26 a a := by
                    intro n9
                    induction n9 with
                    | zero => intro w26 s1 A L c a ha hf9 hAl hA hv he hR hth hm hfm; exact absurd hf9 (Nat.not_lt_zero _)
                    | succ n9 ih =>
                      intro w26 s1 A L c a ha hf9 hAl hA hv he hR hth hm hfm
                      subst ha
                      refine j_iload dX11_replaceAll_63 rfl ?_
                      refine j_aload_n dX11_replaceAll_65 rfl rfl ?_
                      refine j_getf dX11_replaceAll_66 fX11_21 hm.m rfl ?_
                      refine j_iload_n dX11_replaceAll_69 rfl ?_
                      obtain ⟨lv232, -, lg232⟩ := z_li.cell hm.rows
                      refine j_callV (q := (RJx4a65c, TJx4a65c, 3)) dX11_replaceAll_70 kJx4a65c_get_915e3 lX11_82 inJx4a65c_get_915e3 seJx4a65c_get_915e3 lg232 rfl (cl_get hl w26 41 1001 _ _ (i135) _ hm.rows (z_two2 (i := i135) (by omega))) (Nat.le_of_ble_eq_true rfl) ⟨(by show _ ≤ 12; omega), (by show _ ≤ 12; omega)⟩ rfl (Nat.le_of_ble_eq_true rfl) rfl rfl (fun _ _ h => h.elim) ?_
                      rintro _ _ ⟨rfl, hw233⟩
                      refine j_w w26 hw233 ?_
                      refine j_castS dX11_replaceAll_73 (z_w 1341 ((lwt_6_3 6).trans rfl) (by decide +kernel)) (z_li.is (hm.rw (i := i135) (by omega)).1) ?_
                      obtain ⟨lv235, -, lg235⟩ := z_li.cell (hm.rw (i := i135) (by omega)).1
                      refine j_callV (q := (RJx4a65c, TJx4a65c, 3)) dX11_replaceAll_76 kJx4a65c_size_8abf5 lX11_86 inJx4a65c_size_8abf5 seJx4a65c_size_8abf5 lg235 rfl (cl_sizeW hl w26 (i135) ((A ++ L)) hm hR (by omega) z_fu_self) (Nat.le_of_ble_eq_true rfl) ⟨(by show _ ≤ 12; omega), (by show _ ≤ 12; omega)⟩ rfl (Nat.le_of_ble_eq_true rfl) rfl rfl (fun _ _ h => h.elim) ?_
                      rintro _ _ ⟨rfl, hw236⟩
                      refine j_w w26 hw236 ?_
                      have hz236 : ((A ++ L)).length ≤ 12 := hR.l12 hm (i := i135) (by omega) z_fu_self
                      refine j_icmp_ge (tgt := 197) dX11_replaceAll_79 (by decide) (fun c_79_638 => ?_) (fun c_79_638 => ?_)
                      · have hb79 : ((A ++ L)).length ≤ A.length := (nI_leI (a := ((A ++ L)).length) (b := A.length) (by omega) (by omega)).mp c_79_638
                        obtain rfl : L = [] := List.eq_nil_of_length_eq_zero (by have h9 := hb79; rw [List.length_append] at h9; omega)
                        refine j_aload_n dX11_replaceAll_197 rfl rfl ?_
                        refine j_getf dX11_replaceAll_198 fX11_31 hm.m rfl ?_
                        refine j_iload_n dX11_replaceAll_201 rfl ?_
                        obtain ⟨fz237, gz237, hz237⟩ := hm.co
                        refine j_aald (v := .ref (1004 + i135)) dX11_replaceAll_202 gz237 rfl rfl (vp_in_nI (by omega) (by omega)) (by rw [z_cla (by omega)]; exact hz237 _ (by omega)) ?_
                        refine j_iconst (v := 1) dX11_replaceAll_203 (by decide) ?_
                        refine j_dup2 dX11_replaceAll_204 rfl rfl ?_
                        refine j_ld dX11_replaceAll_205 (hm.cn (i := i135) (by omega)) (vp_in_nI (n := 1) (by decide) (by decide)) ?_
                        refine j_iconst (v := 1) dX11_replaceAll_206 (by decide) ?_
                        refine j_iadd dX11_replaceAll_207 ?_
                        refine j_sto (w' := _) dX11_replaceAll_208 (hm.cn (i := i135) (by omega)) (vp_in_nI (n := 1) (by decide) (by decide)) rfl ?_
                        refine j_seal (by omega) ?_
                        intro w27 u27
                        have fw27 := u27.fw (ρ := 44 + i135) (by omega) (by omega)
                        have h27 := hm.up44 (i0 := i135) (by omega) fw27 u27.1
                        rw [show (1 : Int32).toNatClampNeg = 1 by decide] at h27
                        have R27 := hR.bpR (i := i135) (k := 1) (by omega) (by decide)
                        refine j_aload_n dX11_replaceAll_209 rfl rfl ?_
                        refine j_getf dX11_replaceAll_210 fX11_21 h27.m rfl ?_
                        refine j_iload_n dX11_replaceAll_213 rfl ?_
                        obtain ⟨lv241, -, lg241⟩ := z_li.cell h27.rows
                        refine j_callV (q := (RJx4a65c, TJx4a65c, 3)) dX11_replaceAll_214 kJx4a65c_get_915e3 lX11_82 inJx4a65c_get_915e3 seJx4a65c_get_915e3 lg241 rfl (cl_get hl w27 41 1001 _ _ (i135) _ h27.rows (z_two2 (i := i135) (by omega))) (Nat.le_of_ble_eq_true rfl) ⟨(by show _ ≤ 12; omega), (by show _ ≤ 12; omega)⟩ rfl (Nat.le_of_ble_eq_true rfl) rfl rfl (fun _ _ h => h.elim) ?_
                        rintro _ _ ⟨rfl, hw242⟩
                        refine j_w w27 hw242 ?_
                        refine j_castS dX11_replaceAll_217 (z_w 1341 ((lwt_6_3 6).trans rfl) (by decide +kernel)) (z_li.is (h27.rw (i := i135) (by omega)).1) ?_
                        obtain ⟨lv244, -, lg244⟩ := z_li.cell (h27.rw (i := i135) (by omega)).1
                        refine j_callV (q := (RJx4a65c, TJx4a65c, 3)) dX11_replaceAll_220 kJx4a65c_size_8abf5 lX11_86 inJx4a65c_size_8abf5 seJx4a65c_size_8abf5 lg244 rfl (cl_sizeW hl w27 (i135) ((A ++ [])) h27 R27 (by omega) z_fu_self) (Nat.le_of_ble_eq_true rfl) ⟨(by show _ ≤ 12; omega), (by show _ ≤ 12; omega)⟩ rfl (Nat.le_of_ble_eq_true rfl) rfl rfl (fun _ _ h => h.elim) ?_
                        rintro _ _ ⟨rfl, hw245⟩
                        refine j_w w27 hw245 ?_
                        have hz245 : ((A ++ [])).length ≤ 12 := R27.l12 h27 (i := i135) (by omega) z_fu_self
                        refine j_iret dX11_replaceAll_223 rfl rfl ?_ (by show _ ≤ 12; omega) (by show _ ≤ 12; omega)
                        refine cast (congrFun (congrFun hQ9 _) _) ?_
                        rw [List.append_nil] at R27
                        try rw [ei135]
                        refine ⟨_, _, rfl, (hfm.tr (fw27.fm (q := 59) (by omega))), h27, sp_X0 ?_ hth (by unfold sp_chgS; rw [← he]; exact R27) (by rw [← he, List.append_nil]; rfl)⟩
                        first | (first | (refine sp_k22_0 ?_ ?_ <;> (first | (with_reducible assumption) | (refine Or.inl ?_; (with_reducible assumption)) | (refine Or.inr ?_; (with_reducible assumption)) | (refine Or.inr (Or.inl ?_); (with_reducible assumption)) | (refine Or.inr (Or.inr ?_); (with_reducible assumption)) | (refine Or.inr (Or.inr (Or.inl ?_)); (with_reducible assumption)) | (refine Or.inr (Or.inr (Or.inr ?_)); (with_reducible assumption)) | (refine fun z => Or.elim z ?_ ?_ <;> (with_reducible assumption)) | (refine fun z => Or.elim z ?_ (fun z => Or.elim z ?_ ?_) <;> (with_reducible assumption)) | (refine fun z => Or.elim z ?_ (fun z => Or.elim z ?_ (fun z => Or.elim z ?_ ?_)) <;> (with_reducible assumption)) | (refine fun z => Or.elim z (fun z9 => z9 ?_) ?_ <;> (first | (with_reducible assumption) | (refine Or.inl ?_; (with_reducible assumption)) | (refine Or.inr (Or.inl ?_); (with_reducible assumption)) | (refine Or.inr (Or.inr ?_); (with_reducible assumption)) | (refine Or.inr (Or.inr (Or.inl ?_)); (with_reducible assumption)) | (refine Or.inr (Or.inr (Or.inr ?_)); (with_reducible assumption)))) | (refine Or.inl (fun z => Or.elim z ?_ (fun z => Or.elim z ?_ ?_)) <;> (with_reducible assumption)) | (refine Or.inl (fun z => Or.elim z ?_ (fun z => Or.elim z ?_ (fun z => Or.elim z ?_ ?_))) <;> (with_reducible assumption))))) | (first | (refine sp_k22_0 ?_ ?_ <;> (first | assumption | (refine Or.inl ?_; assumption) | (refine Or.inr ?_; assumption) | (refine Or.inr (Or.inl ?_); assumption) | (refine Or.inr (Or.inr ?_); assumption) | (refine Or.inr (Or.inr (Or.inl ?_)); assumption) | (refine Or.inr (Or.inr (Or.inr ?_)); assumption) | (refine fun z => Or.elim z ?_ ?_ <;> assumption) | (refine fun z => Or.elim z ?_ (fun z => Or.elim z ?_ ?_) <;> assumption) | (refine fun z => Or.elim z ?_ (fun z => Or.elim z ?_ (fun z => Or.elim z ?_ ?_)) <;> assumption) | (refine fun z => Or.elim z (fun z9 => z9 ?_) ?_ <;> (first | assumption | (refine Or.inl ?_; assumption) | (refine Or.inr (Or.inl ?_); assumption) | (refine Or.inr (Or.inr ?_); assumption) | (refine Or.inr (Or.inr (Or.inl ?_)); assumption) | (refine Or.inr (Or.inr (Or.inr ?_)); assumption))) | (refine Or.inl (fun z => Or.elim z ?_ (fun z => Or.elim z ?_ ?_)) <;> assumption) | (refine Or.inl (fun z => Or.elim z ?_ (fun z => Or.elim z ?_ (fun z => Or.elim z ?_ ?_))) <;> assumption))))
                      · have hb79 : A.length < ((A ++ L)).length := Nat.not_le.mp (fun z => c_79_638 ((nI_leI (a := ((A ++ L)).length) (b := A.length) (by omega) (by omega)).mpr z))
                        obtain ⟨x, L2, rfl⟩ : ∃ x L2, L = x :: L2 := by
                          cases L with
                          | nil => rw [List.append_nil] at hb79; exact absurd hb79 (Nat.lt_irrefl _)
                          | cons x L2 => exact ⟨x, L2, rfl⟩
                        have hmid := sp_lmid (A := A) (D := L2) (v := x)
                        refine j_aload_n dX11_replaceAll_82 rfl rfl ?_
                        refine j_getf dX11_replaceAll_83 fX11_31 hm.m rfl ?_
                        refine j_iload_n dX11_replaceAll_86 rfl ?_
                        obtain ⟨fz246, gz246, hz246⟩ := hm.co
                        refine j_aald (v := .ref (1004 + i135)) dX11_replaceAll_87 gz246 rfl rfl (vp_in_nI (by omega) (by omega)) (by rw [z_cla (by omega)]; exact hz246 _ (by omega)) ?_
                        refine j_iconst (v := 1) dX11_replaceAll_88 (by decide) ?_
                        refine j_dup2 dX11_replaceAll_89 rfl rfl ?_
                        refine j_ld dX11_replaceAll_90 (hm.cn (i := i135) (by omega)) (vp_in_nI (n := 1) (by decide) (by decide)) ?_
                        refine j_iconst (v := 1) dX11_replaceAll_91 (by decide) ?_
                        refine j_iadd dX11_replaceAll_92 ?_
                        refine j_sto (w' := _) dX11_replaceAll_93 (hm.cn (i := i135) (by omega)) (vp_in_nI (n := 1) (by decide) (by decide)) rfl ?_
                        refine j_seal (by omega) ?_
                        intro w28 u28
                        have fw28 := u28.fw (ρ := 44 + i135) (by omega) (by omega)
                        have h28 := hm.up44 (i0 := i135) (by omega) fw28 u28.1
                        rw [show (1 : Int32).toNatClampNeg = 1 by decide] at h28
                        have R28 := hR.bpR (i := i135) (k := 1) (by omega) (by decide)
                        refine j_aload_n dX11_replaceAll_94 rfl rfl ?_
                        refine j_getf dX11_replaceAll_95 fX11_31 h28.m rfl ?_
                        refine j_iload_n dX11_replaceAll_98 rfl ?_
                        obtain ⟨fz249, gz249, hz249⟩ := h28.co
                        refine j_aald (v := .ref (1004 + i135)) dX11_replaceAll_99 gz249 rfl rfl (vp_in_nI (by omega) (by omega)) (by rw [z_cla (by omega)]; exact hz249 _ (by omega)) ?_
                        refine j_iconst (v := 2) dX11_replaceAll_100 (by decide) ?_
                        refine j_dup2 dX11_replaceAll_101 rfl rfl ?_
                        refine j_ld dX11_replaceAll_102 (h28.cn (i := i135) (by omega)) (vp_in_nI (n := 2) (by decide) (by decide)) ?_
                        refine j_iconst (v := 1) dX11_replaceAll_103 (by decide) ?_
                        refine j_iadd dX11_replaceAll_104 ?_
                        refine j_sto (w' := _) dX11_replaceAll_105 (h28.cn (i := i135) (by omega)) (vp_in_nI (n := 2) (by decide) (by decide)) rfl ?_
                        refine j_seal (by omega) ?_
                        intro w29 u29
                        have fw29 := u29.fw (ρ := 44 + i135) (by omega) (by omega)
                        have h29 := h28.up44 (i0 := i135) (by omega) fw29 u29.1
                        rw [show (2 : Int32).toNatClampNeg = 2 by decide] at h29
                        have R29 := R28.bpR (i := i135) (k := 2) (by omega) (by decide)
                        refine j_iload_n dX11_replaceAll_106 rfl ?_
                        refine j_iconst (v := 0) dX11_replaceAll_107 (by decide) ?_
                        refine j_aload_n dX11_replaceAll_108 rfl rfl ?_
                        refine j_getf dX11_replaceAll_109 fX11_21 h29.m rfl ?_
                        refine j_iload_n dX11_replaceAll_112 rfl ?_
                        obtain ⟨lv253, -, lg253⟩ := z_li.cell h29.rows
                        refine j_callV (q := (RJx4a65c, TJx4a65c, 3)) dX11_replaceAll_113 kJx4a65c_get_915e3 lX11_82 inJx4a65c_get_915e3 seJx4a65c_get_915e3 lg253 rfl (cl_get hl w29 41 1001 _ _ (i135) _ h29.rows (z_two2 (i := i135) (by omega))) (Nat.le_of_ble_eq_true rfl) ⟨(by show _ ≤ 12; omega), (by show _ ≤ 12; omega)⟩ rfl (Nat.le_of_ble_eq_true rfl) rfl rfl (fun _ _ h => h.elim) ?_
                        rintro _ _ ⟨rfl, hw254⟩
                        refine j_w w29 hw254 ?_
                        refine j_castS dX11_replaceAll_116 (z_w 1341 ((lwt_6_3 6).trans rfl) (by decide +kernel)) (z_li.is (h29.rw (i := i135) (by omega)).1) ?_
                        refine j_iload dX11_replaceAll_119 rfl ?_
                        obtain ⟨lv257, -, lg257⟩ := z_li.cell (h29.rw (i := i135) (by omega)).1
                        refine j_callV (q := (RJx4a65c, TJx4a65c, 3)) dX11_replaceAll_121 kJx4a65c_get_915e3 lX11_82 inJx4a65c_get_915e3 seJx4a65c_get_915e3 lg257 rfl (cl_getW hl w29 (i135) (A.length) ((A ++ x :: L2)) x h29 R29 (by omega) z_fu_self sp_mid?) (Nat.le_of_ble_eq_true rfl) ⟨(by show _ ≤ 12; omega), (by show _ ≤ 12; omega)⟩ rfl (Nat.le_of_ble_eq_true rfl) rfl rfl (fun _ _ h => h.elim) ?_
                        rintro _ _ ⟨rfl, hw258⟩
                        refine j_w w29 hw258 ?_
                        refine j_castS dX11_replaceAll_124 (z_w 1567 ((lwt_7_2 22).trans rfl) (by decide +kernel)) rfl ?_
                        refine j_callVB (v0 := .float _) (C := "java/lang/Integer") dX11_replaceAll_127 kJ6_intValue_8abf5 lX11_99 inJ6_intValue_8abf5 seJ6_intValue_8abf5 rfl (c_intv hl w29 x) (Nat.le_of_ble_eq_true rfl) ⟨(by show _ ≤ 12; omega), (by show _ ≤ 12; omega)⟩ rfl (Nat.le_of_ble_eq_true rfl) rfl rfl (fun _ _ h => h.elim) ?_
                        rintro _ _ ⟨rfl, hw260⟩
                        refine j_w w29 hw260 ?_
                        refine j_iload_n dX11_replaceAll_130 rfl ?_
                        refine j_callS dX11_replaceAll_131 kX11_rule lX11_115 stX11_rule (cm_rule_r hl w29 _ _ _ _ (hv _ List.mem_cons_self).2 (sp_vl (by assumption)).2) (Nat.le_of_ble_eq_true rfl) ⟨(by show _ ≤ 12; omega), (by show _ ≤ 12; omega)⟩ rfl (Nat.le_of_ble_eq_true rfl) rfl rfl (fun _ _ h => h.elim) ?_
                        rintro _ _ ⟨⟨rfl, hq261⟩ | ⟨y261, rfl, hq261, hne261⟩, hw261⟩
                        · refine j_w w29 hw261 ?_
                          refine j_istore (lo' := [(5, _), (0, _), (1, _), (2, _), (3, _), (4, _)]) dX11_replaceAll_134 (by decide) rfl ?_
                          refine j_iload dX11_replaceAll_136 rfl ?_
                          refine j_ldc dX11_replaceAll_138 kcX11_67 ?_
                          refine j_icmp_eq (tgt := 152) dX11_replaceAll_140 (by decide) (fun c_140_743 => ?_) (fun c_140_743 => ?_)
                          · refine j_aload_n dX11_replaceAll_152 rfl rfl ?_
                            refine j_callV (q := (RX11, TX11, 8)) dX11_replaceAll_153 kX11_nine lX11_105 inX11_nine seX11_nine h29.m rfl (cm_nine hl w29 _ h29) (Nat.le_of_ble_eq_true rfl) ⟨(by show _ ≤ 12; omega), (by show _ ≤ 12; omega)⟩ rfl (Nat.le_of_ble_eq_true rfl) rfl rfl (fun _ _ h => h.elim) ?_
                            rintro _ w30 ⟨rfl, fm30, h30⟩
                            have R30 := R29.ni
                            refine j_iret dX11_replaceAll_156 rfl rfl ?_ (by show _ ≤ 12; omega) (by show _ ≤ 12; omega)
                            refine cast (congrFun (congrFun hQ9 _) _) ?_
                            rw [sp_raN hq261] at he
                            try rw [ei135]
                            refine ⟨_, _, rfl, (((hfm.tr (fw28.fm (q := 59) (by omega))).tr (fw29.fm (q := 59) (by omega))).tr (fm30.le (q' := 59) (by decide))), h30, sp_X0 ?_ hth (by unfold sp_chgS; rw [← he]; exact R30) (by rw [← he]; rfl)⟩
                            first | (first | (refine sp_k22_0 ?_ ?_ <;> (first | (with_reducible assumption) | (refine Or.inl ?_; (with_reducible assumption)) | (refine Or.inr ?_; (with_reducible assumption)) | (refine Or.inr (Or.inl ?_); (with_reducible assumption)) | (refine Or.inr (Or.inr ?_); (with_reducible assumption)) | (refine Or.inr (Or.inr (Or.inl ?_)); (with_reducible assumption)) | (refine Or.inr (Or.inr (Or.inr ?_)); (with_reducible assumption)) | (refine fun z => Or.elim z ?_ ?_ <;> (with_reducible assumption)) | (refine fun z => Or.elim z ?_ (fun z => Or.elim z ?_ ?_) <;> (with_reducible assumption)) | (refine fun z => Or.elim z ?_ (fun z => Or.elim z ?_ (fun z => Or.elim z ?_ ?_)) <;> (with_reducible assumption)) | (refine fun z => Or.elim z (fun z9 => z9 ?_) ?_ <;> (first | (with_reducible assumption) | (refine Or.inl ?_; (with_reducible assumption)) | (refine Or.inr (Or.inl ?_); (with_reducible assumption)) | (refine Or.inr (Or.inr ?_); (with_reducible assumption)) | (refine Or.inr (Or.inr (Or.inl ?_)); (with_reducible assumption)) | (refine Or.inr (Or.inr (Or.inr ?_)); (with_reducible assumption)))) | (refine Or.inl (fun z => Or.elim z ?_ (fun z => Or.elim z ?_ ?_)) <;> (with_reducible assumption)) | (refine Or.inl (fun z => Or.elim z ?_ (fun z => Or.elim z ?_ (fun z => Or.elim z ?_ ?_))) <;> (with_reducible assumption))))) | (first | (refine sp_k22_0 ?_ ?_ <;> (first | assumption | (refine Or.inl ?_; assumption) | (refine Or.inr ?_; assumption) | (refine Or.inr (Or.inl ?_); assumption) | (refine Or.inr (Or.inr ?_); assumption) | (refine Or.inr (Or.inr (Or.inl ?_)); assumption) | (refine Or.inr (Or.inr (Or.inr ?_)); assumption) | (refine fun z => Or.elim z ?_ ?_ <;> assumption) | (refine fun z => Or.elim z ?_ (fun z => Or.elim z ?_ ?_) <;> assumption) | (refine fun z => Or.elim z ?_ (fun z => Or.elim z ?_ (fun z => Or.elim z ?_ ?_)) <;> assumption) | (refine fun z => Or.elim z (fun z9 => z9 ?_) ?_ <;> (first | assumption | (refine Or.inl ?_; assumption) | (refine Or.inr (Or.inl ?_); assumption) | (refine Or.inr (Or.inr ?_); assumption) | (refine Or.inr (Or.inr (Or.inl ?_)); assumption) | (refine Or.inr (Or.inr (Or.inr ?_)); assumption))) | (refine Or.inl (fun z => Or.elim z ?_ (fun z => Or.elim z ?_ ?_)) <;> assumption) | (refine Or.inl (fun z => Or.elim z ?_ (fun z => Or.elim z ?_ (fun z => Or.elim z ?_ ?_))) <;> assumption))))
                          · exact absurd c_140_743 (by decide)
                        · refine j_w w29 hw261 ?_
                          refine j_istore (lo' := [(5, _), (0, _), (1, _), (2, _), (3, _), (4, _)]) dX11_replaceAll_134 (by decide) rfl ?_
                          refine j_iload dX11_replaceAll_136 rfl ?_
                          refine j_ldc dX11_replaceAll_138 kcX11_67 ?_
                          refine j_icmp_eq (tgt := 152) dX11_replaceAll_140 (by decide) (fun c_140_759 => ?_) (fun c_140_759 => ?_)
                          · exact absurd c_140_759 hne261
                          · refine j_aload_n dX11_replaceAll_143 rfl rfl ?_
                            refine j_getf dX11_replaceAll_144 fX11_25 h29.m rfl ?_
                            refine j_iload_n dX11_replaceAll_147 rfl ?_
                            refine j_zald dX11_replaceAll_148 h29.fx (vp_in_nI (by omega) (by omega)) rfl ?_
                            rcases (Bool.eq_false_or_eq_true (sp_F S i135)) with hF148 | hF148
                            · refine j_top (congrArg Value.int (show _ = (1 : Int32) from by rw [z_cla (by omega), R29.f (by omega)]; show z_bi (sp_F S i135) = 1; rw [hF148]; rfl)) ?_
                              refine j_if_eq (tgt := 157) dX11_replaceAll_149 (by decide) (fun c_149_767 => ?_) (fun c_149_767 => ?_)
                              · exact absurd c_149_767 (by decide)
                              · refine j_aload_n dX11_replaceAll_152 rfl rfl ?_
                                refine j_callV (q := (RX11, TX11, 8)) dX11_replaceAll_153 kX11_nine lX11_105 inX11_nine seX11_nine h29.m rfl (cm_nine hl w29 _ h29) (Nat.le_of_ble_eq_true rfl) ⟨(by show _ ≤ 12; omega), (by show _ ≤ 12; omega)⟩ rfl (Nat.le_of_ble_eq_true rfl) rfl rfl (fun _ _ h => h.elim) ?_
                                rintro _ w31 ⟨rfl, fm31, h31⟩
                                have R31 := R29.ni
                                refine j_iret dX11_replaceAll_156 rfl rfl ?_ (by show _ ≤ 12; omega) (by show _ ≤ 12; omega)
                                refine cast (congrFun (congrFun hQ9 _) _) ?_
                                rw [hF148, sp_raF hq261] at he
                                try rw [ei135]
                                refine ⟨_, _, rfl, (((hfm.tr (fw28.fm (q := 59) (by omega))).tr (fw29.fm (q := 59) (by omega))).tr (fm31.le (q' := 59) (by decide))), h31, sp_X0 ?_ hth (by unfold sp_chgS; rw [← he]; exact R31) (by rw [← he]; rfl)⟩
                                first | (first | (refine sp_k22_0 ?_ ?_ <;> (first | (with_reducible assumption) | (refine Or.inl ?_; (with_reducible assumption)) | (refine Or.inr ?_; (with_reducible assumption)) | (refine Or.inr (Or.inl ?_); (with_reducible assumption)) | (refine Or.inr (Or.inr ?_); (with_reducible assumption)) | (refine Or.inr (Or.inr (Or.inl ?_)); (with_reducible assumption)) | (refine Or.inr (Or.inr (Or.inr ?_)); (with_reducible assumption)) | (refine fun z => Or.elim z ?_ ?_ <;> (with_reducible assumption)) | (refine fun z => Or.elim z ?_ (fun z => Or.elim z ?_ ?_) <;> (with_reducible assumption)) | (refine fun z => Or.elim z ?_ (fun z => Or.elim z ?_ (fun z => Or.elim z ?_ ?_)) <;> (with_reducible assumption)) | (refine fun z => Or.elim z (fun z9 => z9 ?_) ?_ <;> (first | (with_reducible assumption) | (refine Or.inl ?_; (with_reducible assumption)) | (refine Or.inr (Or.inl ?_); (with_reducible assumption)) | (refine Or.inr (Or.inr ?_); (with_reducible assumption)) | (refine Or.inr (Or.inr (Or.inl ?_)); (with_reducible assumption)) | (refine Or.inr (Or.inr (Or.inr ?_)); (with_reducible assumption)))) | (refine Or.inl (fun z => Or.elim z ?_ (fun z => Or.elim z ?_ ?_)) <;> (with_reducible assumption)) | (refine Or.inl (fun z => Or.elim z ?_ (fun z => Or.elim z ?_ (fun z => Or.elim z ?_ ?_))) <;> (with_reducible assumption))))) | (first | (refine sp_k22_0 ?_ ?_ <;> (first | assumption | (refine Or.inl ?_; assumption) | (refine Or.inr ?_; assumption) | (refine Or.inr (Or.inl ?_); assumption) | (refine Or.inr (Or.inr ?_); assumption) | (refine Or.inr (Or.inr (Or.inl ?_)); assumption) | (refine Or.inr (Or.inr (Or.inr ?_)); assumption) | (refine fun z => Or.elim z ?_ ?_ <;> assumption) | (refine fun z => Or.elim z ?_ (fun z => Or.elim z ?_ ?_) <;> assumption) | (refine fun z => Or.elim z ?_ (fun z => Or.elim z ?_ (fun z => Or.elim z ?_ ?_)) <;> assumption) | (refine fun z => Or.elim z (fun z9 => z9 ?_) ?_ <;> (first | assumption | (refine Or.inl ?_; assumption) | (refine Or.inr (Or.inl ?_); assumption) | (refine Or.inr (Or.inr ?_); assumption) | (refine Or.inr (Or.inr (Or.inl ?_)); assumption) | (refine Or.inr (Or.inr (Or.inr ?_)); assumption))) | (refine Or.inl (fun z => Or.elim z ?_ (fun z => Or.elim z ?_ ?_)) <;> assumption) | (refine Or.inl (fun z => Or.elim z ?_ (fun z => Or.elim z ?_ (fun z => Or.elim z ?_ ?_))) <;> assumption))))
                            · refine j_top (congrArg Value.int (show _ = (0 : Int32) from by rw [z_cla (by omega), R29.f (by omega)]; show z_bi (sp_F S i135) = 0; rw [hF148]; rfl)) ?_
                              refine j_if_eq (tgt := 157) dX11_replaceAll_149 (by decide) (fun c_149_780 => ?_) (fun c_149_780 => ?_)
                              · refine j_aload_n dX11_replaceAll_157 rfl rfl ?_
                                refine j_getf dX11_replaceAll_158 fX11_21 h29.m rfl ?_
                                refine j_iload_n dX11_replaceAll_161 rfl ?_
                                obtain ⟨lv263, -, lg263⟩ := z_li.cell h29.rows
                                refine j_callV (q := (RJx4a65c, TJx4a65c, 3)) dX11_replaceAll_162 kJx4a65c_get_915e3 lX11_82 inJx4a65c_get_915e3 seJx4a65c_get_915e3 lg263 rfl (cl_get hl w29 41 1001 _ _ (i135) _ h29.rows (z_two2 (i := i135) (by omega))) (Nat.le_of_ble_eq_true rfl) ⟨(by show _ ≤ 12; omega), (by show _ ≤ 12; omega)⟩ rfl (Nat.le_of_ble_eq_true rfl) rfl rfl (fun _ _ h => h.elim) ?_
                                rintro _ _ ⟨rfl, hw264⟩
                                refine j_w w29 hw264 ?_
                                refine j_castS dX11_replaceAll_165 (z_w 1341 ((lwt_6_3 6).trans rfl) (by decide +kernel)) (z_li.is (h29.rw (i := i135) (by omega)).1) ?_
                                refine j_iload dX11_replaceAll_168 rfl ?_
                                refine j_iload dX11_replaceAll_170 rfl ?_
                                refine j_callS dX11_replaceAll_172 kJ6_valueOf_2dffe lX11_90 stJ6_valueOf_2dffe (cl_val hl w29 _) (Nat.le_of_ble_eq_true rfl) ⟨(by show _ ≤ 12; omega), (by show _ ≤ 12; omega)⟩ rfl (Nat.le_of_ble_eq_true rfl) rfl rfl (fun _ _ h => h.elim) ?_
                                rintro _ _ ⟨rfl, hw266⟩
                                refine j_w w29 hw266 ?_
                                obtain ⟨lv267, -, lg267⟩ := z_li.cell (h29.rw (i := i135) (by omega)).1
                                refine j_callV (q := (RJx4a65c, TJx4a65c, 3)) dX11_replaceAll_175 kJx4a65c_set_bcc79 lX11_119 inJx4a65c_set_bcc79 seJx4a65c_set_bcc79 lg267 rfl (cl_set hl w29 _ _ _ _ (A.length) _ _ (h29.rw (i := i135) (by omega)).1 (z_bx_get (by rw [R29.wlB (by omega) z_fu_self]; omega)) z_elF) (Nat.le_of_ble_eq_true rfl) ⟨(by show _ ≤ 12; omega), (by show _ ≤ 12; omega)⟩ rfl (Nat.le_of_ble_eq_true rfl) rfl rfl (fun _ _ h => h.elim) ?_
                                rintro _ w32 ⟨rfl, fw32, hr32⟩
                                rw [z_bx_set] at hr32
                                have fm32 := fw32.fm (q := 56) (by omega)
                                have h32 := h29.li11 (i0 := i135) (by omega) fw32 hr32 (by rw [List.length_set]; exact (h29.rw (i := i135) (by omega)).2)
                                have R32 := R29.uwm h32 (R29.wset (k := A.length) (x := y261) (by omega) z_fu_self)
                                rw [sp_uRR, sp_mids] at R32
                                refine j_pop dX11_replaceAll_178 rfl ?_
                                refine j_aload_n dX11_replaceAll_179 rfl rfl ?_
                                refine j_getf dX11_replaceAll_180 fX11_31 h32.m rfl ?_
                                refine j_iload_n dX11_replaceAll_183 rfl ?_
                                obtain ⟨fz268, gz268, hz268⟩ := h32.co
                                refine j_aald (v := .ref (1004 + i135)) dX11_replaceAll_184 gz268 rfl rfl (vp_in_nI (by omega) (by omega)) (by rw [z_cla (by omega)]; exact hz268 _ (by omega)) ?_
                                refine j_iconst (v := 3) dX11_replaceAll_185 (by decide) ?_
                                refine j_dup2 dX11_replaceAll_186 rfl rfl ?_
                                refine j_ld dX11_replaceAll_187 (h32.cn (i := i135) (by omega)) (vp_in_nI (n := 3) (by decide) (by decide)) ?_
                                refine j_iconst (v := 1) dX11_replaceAll_188 (by decide) ?_
                                refine j_iadd dX11_replaceAll_189 ?_
                                refine j_sto (w' := _) dX11_replaceAll_190 (h32.cn (i := i135) (by omega)) (vp_in_nI (n := 3) (by decide) (by decide)) rfl ?_
                                refine j_seal (by omega) ?_
                                intro w33 u33
                                have fw33 := u33.fw (ρ := 44 + i135) (by omega) (by omega)
                                have h33 := h32.up44 (i0 := i135) (by omega) fw33 u33.1
                                rw [show (3 : Int32).toNatClampNeg = 3 by decide] at h33
                                have R33 := R32.bpR (i := i135) (k := 3) (by omega) (by decide)
                                refine j_iinc (lo' := [(4, _), (5, _), (0, _), (1, _), (2, _), (3, _)]) dX11_replaceAll_191 rfl (z_inc _) (by decide) rfl ?_
                                refine j_goto (tgt := 63) dX11_replaceAll_194 (by decide) ?_
                                refine j_widen (kc' := (A.length + 1)) (ks' := (A.length + 1)) (by omega) (by omega) ?_
                                exact j_lo2 (ih w33 _ (A ++ [y261]) L2 _ (A.length + 1) sp_apn (by rw [List.length_cons] at hf9; omega) sp_apl (by rw [List.length_cons] at hA; rw [List.length_append]; show A.length + 1 + _ ≤ 12; omega) (fun x hx => hv x (List.mem_cons_of_mem _ hx)) (by rw [hF148, sp_raT hq261] at he; rw [hF148]; exact he) (by rw [← sp_mid]; exact R33) (by exact hth) h33 ((((hfm.tr (fw28.fm (q := 59) (by omega))).tr (fw29.fm (q := 59) (by omega))).tr (fm32.le (q' := 59) (by decide))).tr (fw33.fm (q := 59) (by omega)))) (z_q1 rfl (z_q1 rfl (z_q1 rfl (z_q1 rfl (z_q1 rfl z_q0)))))
                              · exact absurd c_149_780 (by decide)
                  refine j_widen (kc' := 0) (ks' := 0) (by omega) (by omega) ?_
                  exact j_lo2 (loop63 ((sp_R S i135).length + 1) w25 _ [] (sp_R S i135) _ 0 (by exact rfl) (Nat.lt_succ_self _) sp_apl (by rw [List.length_nil]; omega) (fun x hx => (ok.1 i135 (by omega)).2 x hx) rfl (by rw [List.nil_append, show sp_uR (sp_uC S i135 (z_bp (sp_C S i135) 0)) i135 (sp_R S i135) = sp_uC S i135 (z_bp (sp_C S i135) 0) from sp_uR_id]; exact R25) (by exact rfl) h25 ((fm2.le (q' := 59) (by decide)).tr (fw25.fm (q := 59) (by omega)))) (z_q1 rfl (z_q1 rfl (z_q1 rfl (z_q1 rfl (z_q1 rfl z_q0)))))
                · exact absurd c_43_596 (by decide)
              · exact absurd c_31_590 (by decide)
end ZMe3
end ZM3
section ZM4
section ZMe4
variable {G : z_G} {l : Launch}
set_option maxRecDepth 100000 in
set_option maxHeartbeats 8000000 in
theorem cx_copy (hl : l.stackTraces = false) (w : z_W) (S : sp_S) (s : z_Z) (r : Int32) (h : z_mst w s) (R : sp_MR S s)  : z_Con G l mX11_copy 22 2 15 w [.ref 1000, .int r] (fun v w9 => ∃ (r9 : Int32) (s9 : z_Z), v = some (.int r9) ∧ z_fm 59 w w9 ∧ z_mst w9 s9 ∧ s9.1.1 = q_k2 r ∧ sp_MR (if q_k2 r = 0 then sp_uR S (sp_i r) (sp_R S (1 - sp_i r)) else S) s9 ∧ (q_k2 r = 0 → r9 = nI (sp_R S (1 - sp_i r)).length)) (fun _ _ => False) := by
  generalize hQ9 : (fun (v : Option Value) (w9 : z_W) => ∃ (r9 : Int32) (s9 : z_Z), v = some (.int r9) ∧ z_fm 59 w w9 ∧ z_mst w9 s9 ∧ s9.1.1 = q_k2 r ∧ sp_MR (if q_k2 r = 0 then sp_uR S (sp_i r) (sp_R S (1 - sp_i r)) else S) s9 ∧ (q_k2 r = 0 → r9 = nI (sp_R S (1 - sp_i r)).length)) = Q9
  refine z_body hl (by decide) rfl (Nat.le_of_ble_eq_true rfl) ?_
  show z_J G l mX11_copy _ 0 [(0, _), (1, _)] [] _ 0 0
  refine j_aload_n dX11_copy_0 rfl rfl ?_
  refine j_iload_n dX11_copy_1 rfl ?_
  refine j_callS dX11_copy_2 kX11_isNoTwo lX11_72 stX11_isNoTwo (cm_isNoTwo_r hl w _) (Nat.le_of_ble_eq_true rfl) ⟨(Nat.le_of_ble_eq_true rfl), (Nat.le_of_ble_eq_true rfl)⟩ rfl (Nat.le_of_ble_eq_true rfl) rfl rfl (fun _ _ h => h.elim) ?_
  rintro _ _ ⟨⟨rfl, hno271⟩ | ⟨rfl, i271, hi271, ht271, rfl⟩, hw271⟩
  · refine j_w w hw271 ?_
    refine j_iconst (v := 1) dX11_copy_5 (by decide) ?_
    refine j_callV (q := (RX11, TX11, 8)) dX11_copy_6 kX11_start lX11_76 inX11_start seX11_start h.m rfl (cm_start1 hl w _ _ h (by decide)) (Nat.le_of_ble_eq_true rfl) ⟨(Nat.le_of_ble_eq_true rfl), (Nat.le_of_ble_eq_true rfl)⟩ rfl (Nat.le_of_ble_eq_true rfl) rfl rfl (fun _ _ h => h.elim) ?_
    rintro _ w1 ⟨rfl, fm1, h1⟩
    have R1 := R.th (k := 1)
    refine j_if_eq (tgt := 14) dX11_copy_9 (by decide) (fun c_9_11 => ?_) (fun c_9_11 => ?_)
    · exact absurd c_9_11 (by decide)
    · refine j_iconst (v := 0) dX11_copy_12 (by decide) ?_
      refine j_iret dX11_copy_13 rfl rfl ?_ (Nat.le_of_ble_eq_true rfl) (Nat.le_of_ble_eq_true rfl)
      refine cast (congrFun (congrFun hQ9 _) _) ?_
      refine ⟨_, _, rfl, (fm1.le (q' := 59) (by decide)), h1, sp_X1 (k := 1) ?_ (by decide) rfl R1⟩
      first | (first | (refine sp_k2_1 ?_ <;> (first | (with_reducible assumption) | (refine Or.inl ?_; (with_reducible assumption)) | (refine Or.inr ?_; (with_reducible assumption)) | (refine Or.inr (Or.inl ?_); (with_reducible assumption)) | (refine Or.inr (Or.inr ?_); (with_reducible assumption)) | (refine Or.inr (Or.inr (Or.inl ?_)); (with_reducible assumption)) | (refine Or.inr (Or.inr (Or.inr ?_)); (with_reducible assumption)) | (refine fun z => Or.elim z ?_ ?_ <;> (with_reducible assumption)) | (refine fun z => Or.elim z ?_ (fun z => Or.elim z ?_ ?_) <;> (with_reducible assumption)) | (refine fun z => Or.elim z ?_ (fun z => Or.elim z ?_ (fun z => Or.elim z ?_ ?_)) <;> (with_reducible assumption)) | (refine fun z => Or.elim z (fun z9 => z9 ?_) ?_ <;> (first | (with_reducible assumption) | (refine Or.inl ?_; (with_reducible assumption)) | (refine Or.inr (Or.inl ?_); (with_reducible assumption)) | (refine Or.inr (Or.inr ?_); (with_reducible assumption)) | (refine Or.inr (Or.inr (Or.inl ?_)); (with_reducible assumption)) | (refine Or.inr (Or.inr (Or.inr ?_)); (with_reducible assumption)))) | (refine Or.inl (fun z => Or.elim z ?_ (fun z => Or.elim z ?_ ?_)) <;> (with_reducible assumption)) | (refine Or.inl (fun z => Or.elim z ?_ (fun z => Or.elim z ?_ (fun z => Or.elim z ?_ ?_))) <;> (with_reducible assumption))))) | (first | (refine sp_k2_1 ?_ <;> (first | assumption | (refine Or.inl ?_; assumption) | (refine Or.inr ?_; assumption) | (refine Or.inr (Or.inl ?_); assumption) | (refine Or.inr (Or.inr ?_); assumption) | (refine Or.inr (Or.inr (Or.inl ?_)); assumption) | (refine Or.inr (Or.inr (Or.inr ?_)); assumption) | (refine fun z => Or.elim z ?_ ?_ <;> assumption) | (refine fun z => Or.elim z ?_ (fun z => Or.elim z ?_ ?_) <;> assumption) | (refine fun z => Or.elim z ?_ (fun z => Or.elim z ?_ (fun z => Or.elim z ?_ ?_)) <;> assumption) | (refine fun z => Or.elim z (fun z9 => z9 ?_) ?_ <;> (first | assumption | (refine Or.inl ?_; assumption) | (refine Or.inr (Or.inl ?_); assumption) | (refine Or.inr (Or.inr ?_); assumption) | (refine Or.inr (Or.inr (Or.inl ?_)); assumption) | (refine Or.inr (Or.inr (Or.inr ?_)); assumption))) | (refine Or.inl (fun z => Or.elim z ?_ (fun z => Or.elim z ?_ ?_)) <;> assumption) | (refine Or.inl (fun z => Or.elim z ?_ (fun z => Or.elim z ?_ (fun z => Or.elim z ?_ ?_))) <;> assumption))))
  · refine j_w w hw271 ?_
    have ei271 : sp_i (nI i271) = i271 := sp_in' (by omega)
    refine j_iconst (v := 1) dX11_copy_5 (by decide) ?_
    refine j_callV (q := (RX11, TX11, 8)) dX11_copy_6 kX11_start lX11_76 inX11_start seX11_start h.m rfl (cm_start0 hl w _ _ h) (Nat.le_of_ble_eq_true rfl) ⟨(Nat.le_of_ble_eq_true rfl), (Nat.le_of_ble_eq_true rfl)⟩ rfl (Nat.le_of_ble_eq_true rfl) rfl rfl (fun _ _ h => h.elim) ?_
    rintro _ w2 ⟨rfl, fm2, h2⟩
    have R2 := R.th (k := 0)
    refine j_if_eq (tgt := 14) dX11_copy_9 (by decide) (fun c_9_24 => ?_) (fun c_9_24 => ?_)
    · refine j_aload_n dX11_copy_14 rfl rfl ?_
      refine j_getf dX11_copy_15 fX11_21 h2.m rfl ?_
      refine j_iload_n dX11_copy_18 rfl ?_
      obtain ⟨x1, hx1a, hx1b, hx1c⟩ := z_fresh (11 + i271) (by omega) h2.fn
      refine j_new (w' := _) (n := x1) dX11_copy_19 nX11_18 rfl (z_alW hx1c hx1a) (Nat.le_of_ble_eq_true rfl) (Nat.le_of_ble_eq_true rfl) ?_
      refine j_seal hx1a ?_
      intro w3 u3
      have hx3 : ∀ (k : Nat) (e : z_E), z_g w2 k = some e → z_g w3 k = some e := fun k e hk => (u3.2.1 k (z_neF hx1c hk)).trans ((fun _ _ z => z) k e hk)
      have fw3 := u3.fw hx1a hx1b
      have h3 := h2.mono hx3 (u3.2.2.2 h2.fn)
      refine j_dup dX11_copy_22 rfl ?_
      refine j_aload_n dX11_copy_23 rfl rfl ?_
      refine j_getf dX11_copy_24 fX11_21 h3.m rfl ?_
      refine j_iconst (v := 1) dX11_copy_27 (by decide) ?_
      refine j_iload_n dX11_copy_28 rfl ?_
      refine j_isub dX11_copy_29 ?_
      refine j_top (congrArg Value.int (show (1 : Int32) - nI i271 = nI (1 - i271) from pk_sub (a := 1) (b := i271) (by omega))) ?_
      obtain ⟨lv273, -, lg273⟩ := z_li.cell h3.rows
      refine j_callV (q := (RJx4a65c, TJx4a65c, 3)) dX11_copy_30 kJx4a65c_get_915e3 lX11_82 inJx4a65c_get_915e3 seJx4a65c_get_915e3 lg273 rfl (cl_get hl w3 41 1001 _ _ ((1 - i271)) _ h3.rows (z_two2 (i := (1 - i271)) (by omega))) (Nat.le_of_ble_eq_true rfl) ⟨(Nat.le_of_ble_eq_true rfl), (Nat.le_of_ble_eq_true rfl)⟩ rfl (Nat.le_of_ble_eq_true rfl) rfl rfl (fun _ _ h => h.elim) ?_
      rintro _ _ ⟨rfl, hw274⟩
      refine j_w w3 hw274 ?_
      refine j_castY (C := "java/util/ArrayList") (nm := "java/util/Collection") dX11_copy_33 (z_w 1616 ((lwt_7_4 11).trans rfl) (by decide +kernel)) (z_wn 1624 ((lwt_7_4 19).trans rfl) (by decide +kernel)) (z_li.is (h3.rw (i := (1 - i271)) (by omega)).1) ?_
      refine j_callI dX11_copy_36 kJx4a65c_init_4bcb3 rfl lX11_125 inJx4a65c_init_4bcb3 rfl (cl_initC hl w3 (11 + i271) (11 + (1 - i271)) x1 _ 12 _ _ hx1a hx1b u3.1 (h3.rw (i := (1 - i271)) (by omega)).1 (by omega) (fun z => by have h9 := (h3.rw (i := (1 - i271)) (by omega)).1.2.1; rw [z, hx1b] at h9; omega) (by omega) h3.fn (by rw [z_bx_len]; exact (h3.rw (i := (1 - i271)) (by omega)).2) (by decide) z_bx_fl) (Nat.le_of_ble_eq_true rfl) ⟨(Nat.le_of_ble_eq_true rfl), (Nat.le_of_ble_eq_true rfl)⟩ rfl (Nat.le_of_ble_eq_true rfl) rfl rfl (fun _ _ h => h.elim) ?_
      rintro _ w4 ⟨rfl, fw4, hr4⟩
      have gm4 := fw4.g (Or.inr (by omega)) h3.m
      have hrows4 := h3.rows.fw fw4 (by omega)
      obtain ⟨lv276, -, lg276⟩ := z_li.cell hrows4
      refine j_callV (q := (RJx4a65c, TJx4a65c, 3)) dX11_copy_39 kJx4a65c_set_bcc79 lX11_119 inJx4a65c_set_bcc79 seJx4a65c_set_bcc79 lg276 rfl (cl_set hl w4 41 1001 _ _ (i271) _ (.ref x1) hrows4 (z_two2 (f := (z_qr s).2) (i := i271) (by omega)) ⟨Or.inr ⟨x1, rfl, Or.inr (show x1 % 64 ≠ 41 by omega)⟩, "java/util/ArrayList", hr4.is, (z_wn 1992 ((lwg_9 27).trans rfl) (by decide +kernel))⟩) (Nat.le_of_ble_eq_true rfl) ⟨(Nat.le_of_ble_eq_true rfl), (Nat.le_of_ble_eq_true rfl)⟩ rfl (Nat.le_of_ble_eq_true rfl) rfl rfl (fun _ _ h => h.elim) ?_
      rintro _ w5 ⟨rfl, fw5, hr5⟩
      have h5 := h3.cp (i0 := i271) (by omega) fw4 fw5 hr5 hr4 (h3.rw (i := 1 - i271) (by omega)).2
      have fm5 : z_fm 56 _ w5 := (fw4.fm (by omega)).tr (fw5.fm (by omega))
      have R5 := R2.cpm h5 (L := sp_R S (1 - i271)) (R2.w (by omega))
      refine j_pop dX11_copy_42 rfl ?_
      refine j_aload_n dX11_copy_43 rfl rfl ?_
      refine j_getf dX11_copy_44 fX11_21 h5.m rfl ?_
      refine j_iload_n dX11_copy_47 rfl ?_
      obtain ⟨lv278, -, lg278⟩ := z_li.cell h5.rows
      refine j_callV (q := (RJx4a65c, TJx4a65c, 3)) dX11_copy_48 kJx4a65c_get_915e3 lX11_82 inJx4a65c_get_915e3 seJx4a65c_get_915e3 lg278 rfl (cl_get hl w5 41 1001 _ _ (i271) _ h5.rows (z_two2 (i := i271) (by omega))) (Nat.le_of_ble_eq_true rfl) ⟨(Nat.le_of_ble_eq_true rfl), (Nat.le_of_ble_eq_true rfl)⟩ rfl (Nat.le_of_ble_eq_true rfl) rfl rfl (fun _ _ h => h.elim) ?_
      rintro _ _ ⟨rfl, hw279⟩
      refine j_w w5 hw279 ?_
      refine j_castS dX11_copy_51 (z_w 1341 ((lwt_6_3 6).trans rfl) (by decide +kernel)) (z_li.is (h5.rw (i := i271) (by omega)).1) ?_
      obtain ⟨lv281, -, lg281⟩ := z_li.cell (h5.rw (i := i271) (by omega)).1
      refine j_callV (q := (RJx4a65c, TJx4a65c, 3)) dX11_copy_54 kJx4a65c_size_8abf5 lX11_86 inJx4a65c_size_8abf5 seJx4a65c_size_8abf5 lg281 rfl (cl_sizeW hl w5 (i271) ((sp_R S (1 - i271))) h5 R5 (by omega) z_fu_self) (Nat.le_of_ble_eq_true rfl) ⟨(Nat.le_of_ble_eq_true rfl), (Nat.le_of_ble_eq_true rfl)⟩ rfl (Nat.le_of_ble_eq_true rfl) rfl rfl (fun _ _ h => h.elim) ?_
      rintro _ _ ⟨rfl, hw282⟩
      refine j_w w5 hw282 ?_
      have hz282 : ((sp_R S (1 - i271))).length ≤ 12 := R5.l12 h5 (i := i271) (by omega) z_fu_self
      refine j_iret dX11_copy_57 rfl rfl ?_ (Nat.le_of_ble_eq_true rfl) (Nat.le_of_ble_eq_true rfl)
      refine cast (congrFun (congrFun hQ9 _) _) ?_
      try rw [ei271]
      refine ⟨_, _, rfl, (((fm2.le (q' := 59) (by decide)).tr (fw3.fm (q := 59) (by omega))).tr (fm5.le (q' := 59) (by decide))), h5, sp_X0 ?_ rfl R5 rfl⟩
      first | (first | (refine sp_k2_0 ?_ <;> (first | (with_reducible assumption) | (refine Or.inl ?_; (with_reducible assumption)) | (refine Or.inr ?_; (with_reducible assumption)) | (refine Or.inr (Or.inl ?_); (with_reducible assumption)) | (refine Or.inr (Or.inr ?_); (with_reducible assumption)) | (refine Or.inr (Or.inr (Or.inl ?_)); (with_reducible assumption)) | (refine Or.inr (Or.inr (Or.inr ?_)); (with_reducible assumption)) | (refine fun z => Or.elim z ?_ ?_ <;> (with_reducible assumption)) | (refine fun z => Or.elim z ?_ (fun z => Or.elim z ?_ ?_) <;> (with_reducible assumption)) | (refine fun z => Or.elim z ?_ (fun z => Or.elim z ?_ (fun z => Or.elim z ?_ ?_)) <;> (with_reducible assumption)) | (refine fun z => Or.elim z (fun z9 => z9 ?_) ?_ <;> (first | (with_reducible assumption) | (refine Or.inl ?_; (with_reducible assumption)) | (refine Or.inr (Or.inl ?_); (with_reducible assumption)) | (refine Or.inr (Or.inr ?_); (with_reducible assumption)) | (refine Or.inr (Or.inr (Or.inl ?_)); (with_reducible assumption)) | (refine Or.inr (Or.inr (Or.inr ?_)); (with_reducible assumption)))) | (refine Or.inl (fun z => Or.elim z ?_ (fun z => Or.elim z ?_ ?_)) <;> (with_reducible assumption)) | (refine Or.inl (fun z => Or.elim z ?_ (fun z => Or.elim z ?_ (fun z => Or.elim z ?_ ?_))) <;> (with_reducible assumption))))) | (first | (refine sp_k2_0 ?_ <;> (first | assumption | (refine Or.inl ?_; assumption) | (refine Or.inr ?_; assumption) | (refine Or.inr (Or.inl ?_); assumption) | (refine Or.inr (Or.inr ?_); assumption) | (refine Or.inr (Or.inr (Or.inl ?_)); assumption) | (refine Or.inr (Or.inr (Or.inr ?_)); assumption) | (refine fun z => Or.elim z ?_ ?_ <;> assumption) | (refine fun z => Or.elim z ?_ (fun z => Or.elim z ?_ ?_) <;> assumption) | (refine fun z => Or.elim z ?_ (fun z => Or.elim z ?_ (fun z => Or.elim z ?_ ?_)) <;> assumption) | (refine fun z => Or.elim z (fun z9 => z9 ?_) ?_ <;> (first | assumption | (refine Or.inl ?_; assumption) | (refine Or.inr (Or.inl ?_); assumption) | (refine Or.inr (Or.inr ?_); assumption) | (refine Or.inr (Or.inr (Or.inl ?_)); assumption) | (refine Or.inr (Or.inr (Or.inr ?_)); assumption))) | (refine Or.inl (fun z => Or.elim z ?_ (fun z => Or.elim z ?_ ?_)) <;> assumption) | (refine Or.inl (fun z => Or.elim z ?_ (fun z => Or.elim z ?_ (fun z => Or.elim z ?_ ?_))) <;> assumption))))
    · exact absurd c_9_24 (by decide)
set_option maxRecDepth 100000 in
set_option maxHeartbeats 8000000 in
theorem cx_length (hl : l.stackTraces = false) (w : z_W) (S : sp_S) (s : z_Z) (r : Int32) (h : z_mst w s) (R : sp_MR S s)  : z_Con G l mX11_length 20 0 0 w [.ref 1000, .int r] (fun v w9 => ∃ (r9 : Int32) (s9 : z_Z), v = some (.int r9) ∧ z_fm 59 w w9 ∧ z_mst w9 s9 ∧ s9.1.1 = q_k2 r ∧ sp_MR (if q_k2 r = 0 then S else S) s9 ∧ (q_k2 r = 0 → r9 = nI (sp_R S (sp_i r)).length)) (fun _ _ => False) := by
  generalize hQ9 : (fun (v : Option Value) (w9 : z_W) => ∃ (r9 : Int32) (s9 : z_Z), v = some (.int r9) ∧ z_fm 59 w w9 ∧ z_mst w9 s9 ∧ s9.1.1 = q_k2 r ∧ sp_MR (if q_k2 r = 0 then S else S) s9 ∧ (q_k2 r = 0 → r9 = nI (sp_R S (sp_i r)).length)) = Q9
  refine z_body hl (by decide) rfl (Nat.le_of_ble_eq_true rfl) ?_
  show z_J G l mX11_length _ 0 [(0, _), (1, _)] [] _ 0 0
  refine j_aload_n dX11_length_0 rfl rfl ?_
  refine j_iload_n dX11_length_1 rfl ?_
  refine j_callS dX11_length_2 kX11_isNoTwo lX11_72 stX11_isNoTwo (cm_isNoTwo_r hl w _) (Nat.le_of_ble_eq_true rfl) ⟨(Nat.le_of_ble_eq_true rfl), (Nat.le_of_ble_eq_true rfl)⟩ rfl (Nat.le_of_ble_eq_true rfl) rfl rfl (fun _ _ h => h.elim) ?_
  rintro _ _ ⟨⟨rfl, hno283⟩ | ⟨rfl, i283, hi283, ht283, rfl⟩, hw283⟩
  · refine j_w w hw283 ?_
    refine j_iconst (v := 1) dX11_length_5 (by decide) ?_
    refine j_callV (q := (RX11, TX11, 8)) dX11_length_6 kX11_start lX11_76 inX11_start seX11_start h.m rfl (cm_start1 hl w _ _ h (by decide)) (Nat.le_of_ble_eq_true rfl) ⟨(Nat.le_of_ble_eq_true rfl), (Nat.le_of_ble_eq_true rfl)⟩ rfl (Nat.le_of_ble_eq_true rfl) rfl rfl (fun _ _ h => h.elim) ?_
    rintro _ w1 ⟨rfl, fm1, h1⟩
    have R1 := R.th (k := 1)
    refine j_if_eq (tgt := 16) dX11_length_9 (by decide) (fun c_9_11 => ?_) (fun c_9_11 => ?_)
    · exact absurd c_9_11 (by decide)
    · refine j_iconst (v := 0) dX11_length_12 (by decide) ?_
      refine j_goto (tgt := 30) dX11_length_13 (by decide) ?_
      refine j_iret dX11_length_30 rfl rfl ?_ (Nat.le_of_ble_eq_true rfl) (Nat.le_of_ble_eq_true rfl)
      refine cast (congrFun (congrFun hQ9 _) _) ?_
      refine ⟨_, _, rfl, (fm1.le (q' := 59) (by decide)), h1, sp_X1 (k := 1) ?_ (by decide) rfl R1⟩
      first | (first | (refine sp_k2_1 ?_ <;> (first | (with_reducible assumption) | (refine Or.inl ?_; (with_reducible assumption)) | (refine Or.inr ?_; (with_reducible assumption)) | (refine Or.inr (Or.inl ?_); (with_reducible assumption)) | (refine Or.inr (Or.inr ?_); (with_reducible assumption)) | (refine Or.inr (Or.inr (Or.inl ?_)); (with_reducible assumption)) | (refine Or.inr (Or.inr (Or.inr ?_)); (with_reducible assumption)) | (refine fun z => Or.elim z ?_ ?_ <;> (with_reducible assumption)) | (refine fun z => Or.elim z ?_ (fun z => Or.elim z ?_ ?_) <;> (with_reducible assumption)) | (refine fun z => Or.elim z ?_ (fun z => Or.elim z ?_ (fun z => Or.elim z ?_ ?_)) <;> (with_reducible assumption)) | (refine fun z => Or.elim z (fun z9 => z9 ?_) ?_ <;> (first | (with_reducible assumption) | (refine Or.inl ?_; (with_reducible assumption)) | (refine Or.inr (Or.inl ?_); (with_reducible assumption)) | (refine Or.inr (Or.inr ?_); (with_reducible assumption)) | (refine Or.inr (Or.inr (Or.inl ?_)); (with_reducible assumption)) | (refine Or.inr (Or.inr (Or.inr ?_)); (with_reducible assumption)))) | (refine Or.inl (fun z => Or.elim z ?_ (fun z => Or.elim z ?_ ?_)) <;> (with_reducible assumption)) | (refine Or.inl (fun z => Or.elim z ?_ (fun z => Or.elim z ?_ (fun z => Or.elim z ?_ ?_))) <;> (with_reducible assumption))))) | (first | (refine sp_k2_1 ?_ <;> (first | assumption | (refine Or.inl ?_; assumption) | (refine Or.inr ?_; assumption) | (refine Or.inr (Or.inl ?_); assumption) | (refine Or.inr (Or.inr ?_); assumption) | (refine Or.inr (Or.inr (Or.inl ?_)); assumption) | (refine Or.inr (Or.inr (Or.inr ?_)); assumption) | (refine fun z => Or.elim z ?_ ?_ <;> assumption) | (refine fun z => Or.elim z ?_ (fun z => Or.elim z ?_ ?_) <;> assumption) | (refine fun z => Or.elim z ?_ (fun z => Or.elim z ?_ (fun z => Or.elim z ?_ ?_)) <;> assumption) | (refine fun z => Or.elim z (fun z9 => z9 ?_) ?_ <;> (first | assumption | (refine Or.inl ?_; assumption) | (refine Or.inr (Or.inl ?_); assumption) | (refine Or.inr (Or.inr ?_); assumption) | (refine Or.inr (Or.inr (Or.inl ?_)); assumption) | (refine Or.inr (Or.inr (Or.inr ?_)); assumption))) | (refine Or.inl (fun z => Or.elim z ?_ (fun z => Or.elim z ?_ ?_)) <;> assumption) | (refine Or.inl (fun z => Or.elim z ?_ (fun z => Or.elim z ?_ (fun z => Or.elim z ?_ ?_))) <;> assumption))))
  · refine j_w w hw283 ?_
    have ei283 : sp_i (nI i283) = i283 := sp_in' (by omega)
    refine j_iconst (v := 1) dX11_length_5 (by decide) ?_
    refine j_callV (q := (RX11, TX11, 8)) dX11_length_6 kX11_start lX11_76 inX11_start seX11_start h.m rfl (cm_start0 hl w _ _ h) (Nat.le_of_ble_eq_true rfl) ⟨(Nat.le_of_ble_eq_true rfl), (Nat.le_of_ble_eq_true rfl)⟩ rfl (Nat.le_of_ble_eq_true rfl) rfl rfl (fun _ _ h => h.elim) ?_
    rintro _ w2 ⟨rfl, fm2, h2⟩
    have R2 := R.th (k := 0)
    refine j_if_eq (tgt := 16) dX11_length_9 (by decide) (fun c_9_25 => ?_) (fun c_9_25 => ?_)
    · refine j_aload_n dX11_length_16 rfl rfl ?_
      refine j_getf dX11_length_17 fX11_21 h2.m rfl ?_
      refine j_iload_n dX11_length_20 rfl ?_
      obtain ⟨lv285, -, lg285⟩ := z_li.cell h2.rows
      refine j_callV (q := (RJx4a65c, TJx4a65c, 3)) dX11_length_21 kJx4a65c_get_915e3 lX11_82 inJx4a65c_get_915e3 seJx4a65c_get_915e3 lg285 rfl (cl_get hl w2 41 1001 _ _ (i283) _ h2.rows (z_two2 (i := i283) (by omega))) (Nat.le_of_ble_eq_true rfl) ⟨(Nat.le_of_ble_eq_true rfl), (Nat.le_of_ble_eq_true rfl)⟩ rfl (Nat.le_of_ble_eq_true rfl) rfl rfl (fun _ _ h => h.elim) ?_
      rintro _ _ ⟨rfl, hw286⟩
      refine j_w w2 hw286 ?_
      refine j_castS dX11_length_24 (z_w 1341 ((lwt_6_3 6).trans rfl) (by decide +kernel)) (z_li.is (h2.rw (i := i283) (by omega)).1) ?_
      obtain ⟨lv288, -, lg288⟩ := z_li.cell (h2.rw (i := i283) (by omega)).1
      refine j_callV (q := (RJx4a65c, TJx4a65c, 3)) dX11_length_27 kJx4a65c_size_8abf5 lX11_86 inJx4a65c_size_8abf5 seJx4a65c_size_8abf5 lg288 rfl (cl_sizeW hl w2 (i283) (sp_R S (i283)) h2 R2 (by omega) rfl) (Nat.le_of_ble_eq_true rfl) ⟨(Nat.le_of_ble_eq_true rfl), (Nat.le_of_ble_eq_true rfl)⟩ rfl (Nat.le_of_ble_eq_true rfl) rfl rfl (fun _ _ h => h.elim) ?_
      rintro _ _ ⟨rfl, hw289⟩
      refine j_w w2 hw289 ?_
      have hz289 : (sp_R S (i283)).length ≤ 12 := R2.l12 h2 (i := i283) (by omega) rfl
      refine j_iret dX11_length_30 rfl rfl ?_ (Nat.le_of_ble_eq_true rfl) (Nat.le_of_ble_eq_true rfl)
      refine cast (congrFun (congrFun hQ9 _) _) ?_
      try rw [ei283]
      refine ⟨_, _, rfl, (fm2.le (q' := 59) (by decide)), h2, sp_X0 ?_ rfl R2 rfl⟩
      first | (first | (refine sp_k2_0 ?_ <;> (first | (with_reducible assumption) | (refine Or.inl ?_; (with_reducible assumption)) | (refine Or.inr ?_; (with_reducible assumption)) | (refine Or.inr (Or.inl ?_); (with_reducible assumption)) | (refine Or.inr (Or.inr ?_); (with_reducible assumption)) | (refine Or.inr (Or.inr (Or.inl ?_)); (with_reducible assumption)) | (refine Or.inr (Or.inr (Or.inr ?_)); (with_reducible assumption)) | (refine fun z => Or.elim z ?_ ?_ <;> (with_reducible assumption)) | (refine fun z => Or.elim z ?_ (fun z => Or.elim z ?_ ?_) <;> (with_reducible assumption)) | (refine fun z => Or.elim z ?_ (fun z => Or.elim z ?_ (fun z => Or.elim z ?_ ?_)) <;> (with_reducible assumption)) | (refine fun z => Or.elim z (fun z9 => z9 ?_) ?_ <;> (first | (with_reducible assumption) | (refine Or.inl ?_; (with_reducible assumption)) | (refine Or.inr (Or.inl ?_); (with_reducible assumption)) | (refine Or.inr (Or.inr ?_); (with_reducible assumption)) | (refine Or.inr (Or.inr (Or.inl ?_)); (with_reducible assumption)) | (refine Or.inr (Or.inr (Or.inr ?_)); (with_reducible assumption)))) | (refine Or.inl (fun z => Or.elim z ?_ (fun z => Or.elim z ?_ ?_)) <;> (with_reducible assumption)) | (refine Or.inl (fun z => Or.elim z ?_ (fun z => Or.elim z ?_ (fun z => Or.elim z ?_ ?_))) <;> (with_reducible assumption))))) | (first | (refine sp_k2_0 ?_ <;> (first | assumption | (refine Or.inl ?_; assumption) | (refine Or.inr ?_; assumption) | (refine Or.inr (Or.inl ?_); assumption) | (refine Or.inr (Or.inr ?_); assumption) | (refine Or.inr (Or.inr (Or.inl ?_)); assumption) | (refine Or.inr (Or.inr (Or.inr ?_)); assumption) | (refine fun z => Or.elim z ?_ ?_ <;> assumption) | (refine fun z => Or.elim z ?_ (fun z => Or.elim z ?_ ?_) <;> assumption) | (refine fun z => Or.elim z ?_ (fun z => Or.elim z ?_ (fun z => Or.elim z ?_ ?_)) <;> assumption) | (refine fun z => Or.elim z (fun z9 => z9 ?_) ?_ <;> (first | assumption | (refine Or.inl ?_; assumption) | (refine Or.inr (Or.inl ?_); assumption) | (refine Or.inr (Or.inr ?_); assumption) | (refine Or.inr (Or.inr (Or.inl ?_)); assumption) | (refine Or.inr (Or.inr (Or.inr ?_)); assumption))) | (refine Or.inl (fun z => Or.elim z ?_ (fun z => Or.elim z ?_ ?_)) <;> assumption) | (refine Or.inl (fun z => Or.elim z ?_ (fun z => Or.elim z ?_ (fun z => Or.elim z ?_ ?_))) <;> assumption))))
    · exact absurd c_9_25 (by decide)
set_option maxRecDepth 100000 in
set_option maxHeartbeats 8000000 in
theorem cx_at (hl : l.stackTraces = false) (w : z_W) (S : sp_S) (s : z_Z) (r : Int32) (p : Int32) (h : z_mst w s) (R : sp_MR S s)  : z_Con G l mX11_at 20 0 0 w [.ref 1000, .int r, .int p] (fun v w9 => ∃ (r9 : Int32) (s9 : z_Z), v = some (.int r9) ∧ z_fm 59 w w9 ∧ z_mst w9 s9 ∧ s9.1.1 = sp_k21 r (p < 0 ∨ nI (sp_R S (sp_i r)).length - 1 < p) ∧ sp_MR (if sp_k21 r (p < 0 ∨ nI (sp_R S (sp_i r)).length - 1 < p) = 0 then S else S) s9 ∧ (sp_k21 r (p < 0 ∨ nI (sp_R S (sp_i r)).length - 1 < p) = 0 → r9 = ((sp_R S (sp_i r))[sp_i p]?).getD 0)) (fun _ _ => False) := by
  generalize hQ9 : (fun (v : Option Value) (w9 : z_W) => ∃ (r9 : Int32) (s9 : z_Z), v = some (.int r9) ∧ z_fm 59 w w9 ∧ z_mst w9 s9 ∧ s9.1.1 = sp_k21 r (p < 0 ∨ nI (sp_R S (sp_i r)).length - 1 < p) ∧ sp_MR (if sp_k21 r (p < 0 ∨ nI (sp_R S (sp_i r)).length - 1 < p) = 0 then S else S) s9 ∧ (sp_k21 r (p < 0 ∨ nI (sp_R S (sp_i r)).length - 1 < p) = 0 → r9 = ((sp_R S (sp_i r))[sp_i p]?).getD 0)) = Q9
  refine z_body hl (by decide) rfl (Nat.le_of_ble_eq_true rfl) ?_
  show z_J G l mX11_at _ 0 [(0, _), (1, _), (2, _)] [] _ 0 0
  refine j_aload_n dX11_at_0 rfl rfl ?_
  refine j_iload_n dX11_at_1 rfl ?_
  refine j_callS dX11_at_2 kX11_isNoTwo lX11_72 stX11_isNoTwo (cm_isNoTwo_r hl w _) (Nat.le_of_ble_eq_true rfl) ⟨(Nat.le_of_ble_eq_true rfl), (Nat.le_of_ble_eq_true rfl)⟩ rfl (Nat.le_of_ble_eq_true rfl) rfl rfl (fun _ _ h => h.elim) ?_
  rintro _ _ ⟨⟨rfl, hno290⟩ | ⟨rfl, i290, hi290, ht290, rfl⟩, hw290⟩
  · refine j_w w hw290 ?_
    refine j_iconst (v := 1) dX11_at_5 (by decide) ?_
    refine j_callV (q := (RX11, TX11, 8)) dX11_at_6 kX11_start lX11_76 inX11_start seX11_start h.m rfl (cm_start1 hl w _ _ h (by decide)) (Nat.le_of_ble_eq_true rfl) ⟨(Nat.le_of_ble_eq_true rfl), (Nat.le_of_ble_eq_true rfl)⟩ rfl (Nat.le_of_ble_eq_true rfl) rfl rfl (fun _ _ h => h.elim) ?_
    rintro _ w1 ⟨rfl, fm1, h1⟩
    have R1 := R.th (k := 1)
    refine j_if_ne (tgt := 49) dX11_at_9 (by decide) (fun c_9_11 => ?_) (fun c_9_11 => ?_)
    · refine j_iconst (v := 0) dX11_at_49 (by decide) ?_
      refine j_goto (tgt := 74) dX11_at_50 (by decide) ?_
      refine j_iret dX11_at_74 rfl rfl ?_ (Nat.le_of_ble_eq_true rfl) (Nat.le_of_ble_eq_true rfl)
      refine cast (congrFun (congrFun hQ9 _) _) ?_
      refine ⟨_, _, rfl, (fm1.le (q' := 59) (by decide)), h1, sp_X1 (k := 1) ?_ (by decide) rfl R1⟩
      first | (first | (refine sp_k21_1 ?_ <;> (first | (with_reducible assumption) | (refine Or.inl ?_; (with_reducible assumption)) | (refine Or.inr ?_; (with_reducible assumption)) | (refine Or.inr (Or.inl ?_); (with_reducible assumption)) | (refine Or.inr (Or.inr ?_); (with_reducible assumption)) | (refine Or.inr (Or.inr (Or.inl ?_)); (with_reducible assumption)) | (refine Or.inr (Or.inr (Or.inr ?_)); (with_reducible assumption)) | (refine fun z => Or.elim z ?_ ?_ <;> (with_reducible assumption)) | (refine fun z => Or.elim z ?_ (fun z => Or.elim z ?_ ?_) <;> (with_reducible assumption)) | (refine fun z => Or.elim z ?_ (fun z => Or.elim z ?_ (fun z => Or.elim z ?_ ?_)) <;> (with_reducible assumption)) | (refine fun z => Or.elim z (fun z9 => z9 ?_) ?_ <;> (first | (with_reducible assumption) | (refine Or.inl ?_; (with_reducible assumption)) | (refine Or.inr (Or.inl ?_); (with_reducible assumption)) | (refine Or.inr (Or.inr ?_); (with_reducible assumption)) | (refine Or.inr (Or.inr (Or.inl ?_)); (with_reducible assumption)) | (refine Or.inr (Or.inr (Or.inr ?_)); (with_reducible assumption)))) | (refine Or.inl (fun z => Or.elim z ?_ (fun z => Or.elim z ?_ ?_)) <;> (with_reducible assumption)) | (refine Or.inl (fun z => Or.elim z ?_ (fun z => Or.elim z ?_ (fun z => Or.elim z ?_ ?_))) <;> (with_reducible assumption)))) | (refine sp_k21_2 ?_ ?_ <;> (first | (with_reducible assumption) | (refine Or.inl ?_; (with_reducible assumption)) | (refine Or.inr ?_; (with_reducible assumption)) | (refine Or.inr (Or.inl ?_); (with_reducible assumption)) | (refine Or.inr (Or.inr ?_); (with_reducible assumption)) | (refine Or.inr (Or.inr (Or.inl ?_)); (with_reducible assumption)) | (refine Or.inr (Or.inr (Or.inr ?_)); (with_reducible assumption)) | (refine fun z => Or.elim z ?_ ?_ <;> (with_reducible assumption)) | (refine fun z => Or.elim z ?_ (fun z => Or.elim z ?_ ?_) <;> (with_reducible assumption)) | (refine fun z => Or.elim z ?_ (fun z => Or.elim z ?_ (fun z => Or.elim z ?_ ?_)) <;> (with_reducible assumption)) | (refine fun z => Or.elim z (fun z9 => z9 ?_) ?_ <;> (first | (with_reducible assumption) | (refine Or.inl ?_; (with_reducible assumption)) | (refine Or.inr (Or.inl ?_); (with_reducible assumption)) | (refine Or.inr (Or.inr ?_); (with_reducible assumption)) | (refine Or.inr (Or.inr (Or.inl ?_)); (with_reducible assumption)) | (refine Or.inr (Or.inr (Or.inr ?_)); (with_reducible assumption)))) | (refine Or.inl (fun z => Or.elim z ?_ (fun z => Or.elim z ?_ ?_)) <;> (with_reducible assumption)) | (refine Or.inl (fun z => Or.elim z ?_ (fun z => Or.elim z ?_ (fun z => Or.elim z ?_ ?_))) <;> (with_reducible assumption))))) | (first | (refine sp_k21_1 ?_ <;> (first | assumption | (refine Or.inl ?_; assumption) | (refine Or.inr ?_; assumption) | (refine Or.inr (Or.inl ?_); assumption) | (refine Or.inr (Or.inr ?_); assumption) | (refine Or.inr (Or.inr (Or.inl ?_)); assumption) | (refine Or.inr (Or.inr (Or.inr ?_)); assumption) | (refine fun z => Or.elim z ?_ ?_ <;> assumption) | (refine fun z => Or.elim z ?_ (fun z => Or.elim z ?_ ?_) <;> assumption) | (refine fun z => Or.elim z ?_ (fun z => Or.elim z ?_ (fun z => Or.elim z ?_ ?_)) <;> assumption) | (refine fun z => Or.elim z (fun z9 => z9 ?_) ?_ <;> (first | assumption | (refine Or.inl ?_; assumption) | (refine Or.inr (Or.inl ?_); assumption) | (refine Or.inr (Or.inr ?_); assumption) | (refine Or.inr (Or.inr (Or.inl ?_)); assumption) | (refine Or.inr (Or.inr (Or.inr ?_)); assumption))) | (refine Or.inl (fun z => Or.elim z ?_ (fun z => Or.elim z ?_ ?_)) <;> assumption) | (refine Or.inl (fun z => Or.elim z ?_ (fun z => Or.elim z ?_ (fun z => Or.elim z ?_ ?_))) <;> assumption))) | (refine sp_k21_2 ?_ ?_ <;> (first | assumption | (refine Or.inl ?_; assumption) | (refine Or.inr ?_; assumption) | (refine Or.inr (Or.inl ?_); assumption) | (refine Or.inr (Or.inr ?_); assumption) | (refine Or.inr (Or.inr (Or.inl ?_)); assumption) | (refine Or.inr (Or.inr (Or.inr ?_)); assumption) | (refine fun z => Or.elim z ?_ ?_ <;> assumption) | (refine fun z => Or.elim z ?_ (fun z => Or.elim z ?_ ?_) <;> assumption) | (refine fun z => Or.elim z ?_ (fun z => Or.elim z ?_ (fun z => Or.elim z ?_ ?_)) <;> assumption) | (refine fun z => Or.elim z (fun z9 => z9 ?_) ?_ <;> (first | assumption | (refine Or.inl ?_; assumption) | (refine Or.inr (Or.inl ?_); assumption) | (refine Or.inr (Or.inr ?_); assumption) | (refine Or.inr (Or.inr (Or.inl ?_)); assumption) | (refine Or.inr (Or.inr (Or.inr ?_)); assumption))) | (refine Or.inl (fun z => Or.elim z ?_ (fun z => Or.elim z ?_ ?_)) <;> assumption) | (refine Or.inl (fun z => Or.elim z ?_ (fun z => Or.elim z ?_ (fun z => Or.elim z ?_ ?_))) <;> assumption))))
    · exact absurd c_9_11 (by decide)
  · refine j_w w hw290 ?_
    have ei290 : sp_i (nI i290) = i290 := sp_in' (by omega)
    refine j_iconst (v := 1) dX11_at_5 (by decide) ?_
    refine j_callV (q := (RX11, TX11, 8)) dX11_at_6 kX11_start lX11_76 inX11_start seX11_start h.m rfl (cm_start0 hl w _ _ h) (Nat.le_of_ble_eq_true rfl) ⟨(Nat.le_of_ble_eq_true rfl), (Nat.le_of_ble_eq_true rfl)⟩ rfl (Nat.le_of_ble_eq_true rfl) rfl rfl (fun _ _ h => h.elim) ?_
    rintro _ w2 ⟨rfl, fm2, h2⟩
    have R2 := R.th (k := 0)
    refine j_if_ne (tgt := 49) dX11_at_9 (by decide) (fun c_9_25 => ?_) (fun c_9_25 => ?_)
    · exact absurd c_9_25 (by decide)
    · refine j_aload_n dX11_at_12 rfl rfl ?_
      refine j_iload_n dX11_at_13 rfl ?_
      refine j_iconst (v := 0) dX11_at_14 (by decide) ?_
      refine j_aload_n dX11_at_15 rfl rfl ?_
      refine j_getf dX11_at_16 fX11_21 h2.m rfl ?_
      refine j_iload_n dX11_at_19 rfl ?_
      obtain ⟨lv292, -, lg292⟩ := z_li.cell h2.rows
      refine j_callV (q := (RJx4a65c, TJx4a65c, 3)) dX11_at_20 kJx4a65c_get_915e3 lX11_82 inJx4a65c_get_915e3 seJx4a65c_get_915e3 lg292 rfl (cl_get hl w2 41 1001 _ _ (i290) _ h2.rows (z_two2 (i := i290) (by omega))) (Nat.le_of_ble_eq_true rfl) ⟨(Nat.le_of_ble_eq_true rfl), (Nat.le_of_ble_eq_true rfl)⟩ rfl (Nat.le_of_ble_eq_true rfl) rfl rfl (fun _ _ h => h.elim) ?_
      rintro _ _ ⟨rfl, hw293⟩
      refine j_w w2 hw293 ?_
      refine j_castS dX11_at_23 (z_w 1341 ((lwt_6_3 6).trans rfl) (by decide +kernel)) (z_li.is (h2.rw (i := i290) (by omega)).1) ?_
      obtain ⟨lv295, -, lg295⟩ := z_li.cell (h2.rw (i := i290) (by omega)).1
      refine j_callV (q := (RJx4a65c, TJx4a65c, 3)) dX11_at_26 kJx4a65c_size_8abf5 lX11_86 inJx4a65c_size_8abf5 seJx4a65c_size_8abf5 lg295 rfl (cl_sizeW hl w2 (i290) (sp_R S (i290)) h2 R2 (by omega) rfl) (Nat.le_of_ble_eq_true rfl) ⟨(Nat.le_of_ble_eq_true rfl), (Nat.le_of_ble_eq_true rfl)⟩ rfl (Nat.le_of_ble_eq_true rfl) rfl rfl (fun _ _ h => h.elim) ?_
      rintro _ _ ⟨rfl, hw296⟩
      refine j_w w2 hw296 ?_
      have hz296 : (sp_R S (i290)).length ≤ 12 := R2.l12 h2 (i := i290) (by omega) rfl
      refine j_iconst (v := 1) dX11_at_29 (by decide) ?_
      refine j_isub dX11_at_30 ?_
      refine j_callS dX11_at_31 kX11_isIn lX11_59 stX11_isIn (cm_isIn_r hl w2 _ 0 _) (Nat.le_of_ble_eq_true rfl) ⟨(Nat.le_of_ble_eq_true rfl), (Nat.le_of_ble_eq_true rfl)⟩ rfl (Nat.le_of_ble_eq_true rfl) rfl rfl (fun _ _ h => h.elim) ?_
      rintro _ _ ⟨⟨rfl, hi297⟩ | ⟨rfl, hno297⟩, hw297⟩
      · refine j_w w2 hw297 ?_
        obtain ⟨i297, hq297, rfl⟩ := z_natm (by omega) (q_nor hi297)
        have ei297 : sp_i (nI i297) = i297 := sp_in' (by omega)
        refine j_if_ne (tgt := 41) dX11_at_34 (by decide) (fun c_34_50 => ?_) (fun c_34_50 => ?_)
        · refine j_iconst (v := 0) dX11_at_41 (by decide) ?_
          refine j_iconst (v := 1) dX11_at_42 (by decide) ?_
          refine j_callV (q := (RX11, TX11, 8)) dX11_at_43 kX11_refuse lX11_52 inX11_refuse seX11_refuse h2.m rfl (cm_refuse0 hl w2 _ _ h2 rfl) (Nat.le_of_ble_eq_true rfl) ⟨(Nat.le_of_ble_eq_true rfl), (Nat.le_of_ble_eq_true rfl)⟩ rfl (Nat.le_of_ble_eq_true rfl) rfl rfl (fun _ _ h => h.elim) ?_
          rintro _ _ ⟨rfl, hw298⟩
          refine j_w w2 hw298 ?_
          refine j_if_eq (tgt := 53) dX11_at_46 (by decide) (fun c_46_56 => ?_) (fun c_46_56 => ?_)
          · refine j_aload_n dX11_at_53 rfl rfl ?_
            refine j_getf dX11_at_54 fX11_21 h2.m rfl ?_
            refine j_iload_n dX11_at_57 rfl ?_
            obtain ⟨lv300, -, lg300⟩ := z_li.cell h2.rows
            refine j_callV (q := (RJx4a65c, TJx4a65c, 3)) dX11_at_58 kJx4a65c_get_915e3 lX11_82 inJx4a65c_get_915e3 seJx4a65c_get_915e3 lg300 rfl (cl_get hl w2 41 1001 _ _ (i290) _ h2.rows (z_two2 (i := i290) (by omega))) (Nat.le_of_ble_eq_true rfl) ⟨(Nat.le_of_ble_eq_true rfl), (Nat.le_of_ble_eq_true rfl)⟩ rfl (Nat.le_of_ble_eq_true rfl) rfl rfl (fun _ _ h => h.elim) ?_
            rintro _ _ ⟨rfl, hw301⟩
            refine j_w w2 hw301 ?_
            refine j_castS dX11_at_61 (z_w 1341 ((lwt_6_3 6).trans rfl) (by decide +kernel)) (z_li.is (h2.rw (i := i290) (by omega)).1) ?_
            refine j_iload_n dX11_at_64 rfl ?_
            obtain ⟨x303, hx303⟩ : ∃ x, (sp_R S (i290))[i297]? = some x := ⟨_, List.getElem?_eq_getElem (show i297 < (sp_R S (i290)).length by omega)⟩
            obtain ⟨lv304, -, lg304⟩ := z_li.cell (h2.rw (i := i290) (by omega)).1
            refine j_callV (q := (RJx4a65c, TJx4a65c, 3)) dX11_at_65 kJx4a65c_get_915e3 lX11_82 inJx4a65c_get_915e3 seJx4a65c_get_915e3 lg304 rfl (cl_getW hl w2 (i290) (i297) (sp_R S (i290)) x303 h2 R2 (by omega) rfl hx303) (Nat.le_of_ble_eq_true rfl) ⟨(Nat.le_of_ble_eq_true rfl), (Nat.le_of_ble_eq_true rfl)⟩ rfl (Nat.le_of_ble_eq_true rfl) rfl rfl (fun _ _ h => h.elim) ?_
            rintro _ _ ⟨rfl, hw305⟩
            refine j_w w2 hw305 ?_
            refine j_castS dX11_at_68 (z_w 1567 ((lwt_7_2 22).trans rfl) (by decide +kernel)) rfl ?_
            refine j_callVB (v0 := .float _) (C := "java/lang/Integer") dX11_at_71 kJ6_intValue_8abf5 lX11_99 inJ6_intValue_8abf5 seJ6_intValue_8abf5 rfl (c_intv hl w2 x303) (Nat.le_of_ble_eq_true rfl) ⟨(Nat.le_of_ble_eq_true rfl), (Nat.le_of_ble_eq_true rfl)⟩ rfl (Nat.le_of_ble_eq_true rfl) rfl rfl (fun _ _ h => h.elim) ?_
            rintro _ _ ⟨rfl, hw307⟩
            refine j_w w2 hw307 ?_
            refine j_iret dX11_at_74 rfl rfl ?_ (Nat.le_of_ble_eq_true rfl) (Nat.le_of_ble_eq_true rfl)
            refine cast (congrFun (congrFun hQ9 _) _) ?_
            try rw [ei290]
            try rw [ei297]
            refine ⟨_, _, rfl, (fm2.le (q' := 59) (by decide)), h2, sp_X0 ?_ rfl R2 (by rw [hx303]; rfl)⟩
            first | (first | (refine sp_k21_0 ?_ ?_ <;> (first | (with_reducible assumption) | (refine Or.inl ?_; (with_reducible assumption)) | (refine Or.inr ?_; (with_reducible assumption)) | (refine Or.inr (Or.inl ?_); (with_reducible assumption)) | (refine Or.inr (Or.inr ?_); (with_reducible assumption)) | (refine Or.inr (Or.inr (Or.inl ?_)); (with_reducible assumption)) | (refine Or.inr (Or.inr (Or.inr ?_)); (with_reducible assumption)) | (refine fun z => Or.elim z ?_ ?_ <;> (with_reducible assumption)) | (refine fun z => Or.elim z ?_ (fun z => Or.elim z ?_ ?_) <;> (with_reducible assumption)) | (refine fun z => Or.elim z ?_ (fun z => Or.elim z ?_ (fun z => Or.elim z ?_ ?_)) <;> (with_reducible assumption)) | (refine fun z => Or.elim z (fun z9 => z9 ?_) ?_ <;> (first | (with_reducible assumption) | (refine Or.inl ?_; (with_reducible assumption)) | (refine Or.inr (Or.inl ?_); (with_reducible assumption)) | (refine Or.inr (Or.inr ?_); (with_reducible assumption)) | (refine Or.inr (Or.inr (Or.inl ?_)); (with_reducible assumption)) | (refine Or.inr (Or.inr (Or.inr ?_)); (with_reducible assumption)))) | (refine Or.inl (fun z => Or.elim z ?_ (fun z => Or.elim z ?_ ?_)) <;> (with_reducible assumption)) | (refine Or.inl (fun z => Or.elim z ?_ (fun z => Or.elim z ?_ (fun z => Or.elim z ?_ ?_))) <;> (with_reducible assumption))))) | (first | (refine sp_k21_0 ?_ ?_ <;> (first | assumption | (refine Or.inl ?_; assumption) | (refine Or.inr ?_; assumption) | (refine Or.inr (Or.inl ?_); assumption) | (refine Or.inr (Or.inr ?_); assumption) | (refine Or.inr (Or.inr (Or.inl ?_)); assumption) | (refine Or.inr (Or.inr (Or.inr ?_)); assumption) | (refine fun z => Or.elim z ?_ ?_ <;> assumption) | (refine fun z => Or.elim z ?_ (fun z => Or.elim z ?_ ?_) <;> assumption) | (refine fun z => Or.elim z ?_ (fun z => Or.elim z ?_ (fun z => Or.elim z ?_ ?_)) <;> assumption) | (refine fun z => Or.elim z (fun z9 => z9 ?_) ?_ <;> (first | assumption | (refine Or.inl ?_; assumption) | (refine Or.inr (Or.inl ?_); assumption) | (refine Or.inr (Or.inr ?_); assumption) | (refine Or.inr (Or.inr (Or.inl ?_)); assumption) | (refine Or.inr (Or.inr (Or.inr ?_)); assumption))) | (refine Or.inl (fun z => Or.elim z ?_ (fun z => Or.elim z ?_ ?_)) <;> assumption) | (refine Or.inl (fun z => Or.elim z ?_ (fun z => Or.elim z ?_ (fun z => Or.elim z ?_ ?_))) <;> assumption))))
          · exact absurd c_46_56 (by decide)
        · exact absurd c_34_50 (by decide)
      · refine j_w w2 hw297 ?_
        refine j_if_ne (tgt := 41) dX11_at_34 (by decide) (fun c_34_84 => ?_) (fun c_34_84 => ?_)
        · exact absurd c_34_84 (by decide)
        · refine j_iconst (v := 1) dX11_at_37 (by decide) ?_
          refine j_goto (tgt := 42) dX11_at_38 (by decide) ?_
          refine j_iconst (v := 1) dX11_at_42 (by decide) ?_
          refine j_callV (q := (RX11, TX11, 8)) dX11_at_43 kX11_refuse lX11_52 inX11_refuse seX11_refuse h2.m rfl (cm_refuse1 hl w2 _ _ h2 rfl (by decide)) (Nat.le_of_ble_eq_true rfl) ⟨(Nat.le_of_ble_eq_true rfl), (Nat.le_of_ble_eq_true rfl)⟩ rfl (Nat.le_of_ble_eq_true rfl) rfl rfl (fun _ _ h => h.elim) ?_
          rintro _ w3 ⟨rfl, fm3, h3⟩
          have R3 := R2.th (k := 1)
          refine j_if_eq (tgt := 53) dX11_at_46 (by decide) (fun c_46_92 => ?_) (fun c_46_92 => ?_)
          · exact absurd c_46_92 (by decide)
          · refine j_iconst (v := 0) dX11_at_49 (by decide) ?_
            refine j_goto (tgt := 74) dX11_at_50 (by decide) ?_
            refine j_iret dX11_at_74 rfl rfl ?_ (Nat.le_of_ble_eq_true rfl) (Nat.le_of_ble_eq_true rfl)
            refine cast (congrFun (congrFun hQ9 _) _) ?_
            try rw [ei290]
            refine ⟨_, _, rfl, ((fm2.le (q' := 59) (by decide)).tr (fm3.le (q' := 59) (by decide))), h3, sp_X1 (k := 1) ?_ (by decide) rfl R3⟩
            first | (first | (refine sp_k21_1 ?_ <;> (first | (with_reducible assumption) | (refine Or.inl ?_; (with_reducible assumption)) | (refine Or.inr ?_; (with_reducible assumption)) | (refine Or.inr (Or.inl ?_); (with_reducible assumption)) | (refine Or.inr (Or.inr ?_); (with_reducible assumption)) | (refine Or.inr (Or.inr (Or.inl ?_)); (with_reducible assumption)) | (refine Or.inr (Or.inr (Or.inr ?_)); (with_reducible assumption)) | (refine fun z => Or.elim z ?_ ?_ <;> (with_reducible assumption)) | (refine fun z => Or.elim z ?_ (fun z => Or.elim z ?_ ?_) <;> (with_reducible assumption)) | (refine fun z => Or.elim z ?_ (fun z => Or.elim z ?_ (fun z => Or.elim z ?_ ?_)) <;> (with_reducible assumption)) | (refine fun z => Or.elim z (fun z9 => z9 ?_) ?_ <;> (first | (with_reducible assumption) | (refine Or.inl ?_; (with_reducible assumption)) | (refine Or.inr (Or.inl ?_); (with_reducible assumption)) | (refine Or.inr (Or.inr ?_); (with_reducible assumption)) | (refine Or.inr (Or.inr (Or.inl ?_)); (with_reducible assumption)) | (refine Or.inr (Or.inr (Or.inr ?_)); (with_reducible assumption)))) | (refine Or.inl (fun z => Or.elim z ?_ (fun z => Or.elim z ?_ ?_)) <;> (with_reducible assumption)) | (refine Or.inl (fun z => Or.elim z ?_ (fun z => Or.elim z ?_ (fun z => Or.elim z ?_ ?_))) <;> (with_reducible assumption)))) | (refine sp_k21_2 ?_ ?_ <;> (first | (with_reducible assumption) | (refine Or.inl ?_; (with_reducible assumption)) | (refine Or.inr ?_; (with_reducible assumption)) | (refine Or.inr (Or.inl ?_); (with_reducible assumption)) | (refine Or.inr (Or.inr ?_); (with_reducible assumption)) | (refine Or.inr (Or.inr (Or.inl ?_)); (with_reducible assumption)) | (refine Or.inr (Or.inr (Or.inr ?_)); (with_reducible assumption)) | (refine fun z => Or.elim z ?_ ?_ <;> (with_reducible assumption)) | (refine fun z => Or.elim z ?_ (fun z => Or.elim z ?_ ?_) <;> (with_reducible assumption)) | (refine fun z => Or.elim z ?_ (fun z => Or.elim z ?_ (fun z => Or.elim z ?_ ?_)) <;> (with_reducible assumption)) | (refine fun z => Or.elim z (fun z9 => z9 ?_) ?_ <;> (first | (with_reducible assumption) | (refine Or.inl ?_; (with_reducible assumption)) | (refine Or.inr (Or.inl ?_); (with_reducible assumption)) | (refine Or.inr (Or.inr ?_); (with_reducible assumption)) | (refine Or.inr (Or.inr (Or.inl ?_)); (with_reducible assumption)) | (refine Or.inr (Or.inr (Or.inr ?_)); (with_reducible assumption)))) | (refine Or.inl (fun z => Or.elim z ?_ (fun z => Or.elim z ?_ ?_)) <;> (with_reducible assumption)) | (refine Or.inl (fun z => Or.elim z ?_ (fun z => Or.elim z ?_ (fun z => Or.elim z ?_ ?_))) <;> (with_reducible assumption))))) | (first | (refine sp_k21_1 ?_ <;> (first | assumption | (refine Or.inl ?_; assumption) | (refine Or.inr ?_; assumption) | (refine Or.inr (Or.inl ?_); assumption) | (refine Or.inr (Or.inr ?_); assumption) | (refine Or.inr (Or.inr (Or.inl ?_)); assumption) | (refine Or.inr (Or.inr (Or.inr ?_)); assumption) | (refine fun z => Or.elim z ?_ ?_ <;> assumption) | (refine fun z => Or.elim z ?_ (fun z => Or.elim z ?_ ?_) <;> assumption) | (refine fun z => Or.elim z ?_ (fun z => Or.elim z ?_ (fun z => Or.elim z ?_ ?_)) <;> assumption) | (refine fun z => Or.elim z (fun z9 => z9 ?_) ?_ <;> (first | assumption | (refine Or.inl ?_; assumption) | (refine Or.inr (Or.inl ?_); assumption) | (refine Or.inr (Or.inr ?_); assumption) | (refine Or.inr (Or.inr (Or.inl ?_)); assumption) | (refine Or.inr (Or.inr (Or.inr ?_)); assumption))) | (refine Or.inl (fun z => Or.elim z ?_ (fun z => Or.elim z ?_ ?_)) <;> assumption) | (refine Or.inl (fun z => Or.elim z ?_ (fun z => Or.elim z ?_ (fun z => Or.elim z ?_ ?_))) <;> assumption))) | (refine sp_k21_2 ?_ ?_ <;> (first | assumption | (refine Or.inl ?_; assumption) | (refine Or.inr ?_; assumption) | (refine Or.inr (Or.inl ?_); assumption) | (refine Or.inr (Or.inr ?_); assumption) | (refine Or.inr (Or.inr (Or.inl ?_)); assumption) | (refine Or.inr (Or.inr (Or.inr ?_)); assumption) | (refine fun z => Or.elim z ?_ ?_ <;> assumption) | (refine fun z => Or.elim z ?_ (fun z => Or.elim z ?_ ?_) <;> assumption) | (refine fun z => Or.elim z ?_ (fun z => Or.elim z ?_ (fun z => Or.elim z ?_ ?_)) <;> assumption) | (refine fun z => Or.elim z (fun z9 => z9 ?_) ?_ <;> (first | assumption | (refine Or.inl ?_; assumption) | (refine Or.inr (Or.inl ?_); assumption) | (refine Or.inr (Or.inr ?_); assumption) | (refine Or.inr (Or.inr (Or.inl ?_)); assumption) | (refine Or.inr (Or.inr (Or.inr ?_)); assumption))) | (refine Or.inl (fun z => Or.elim z ?_ (fun z => Or.elim z ?_ ?_)) <;> assumption) | (refine Or.inl (fun z => Or.elim z ?_ (fun z => Or.elim z ?_ (fun z => Or.elim z ?_ ?_))) <;> assumption))))
set_option maxRecDepth 100000 in
set_option maxHeartbeats 8000000 in
theorem cx_isFixed (hl : l.stackTraces = false) (w : z_W) (S : sp_S) (s : z_Z) (r : Int32) (h : z_mst w s) (R : sp_MR S s)  : z_Con G l mX11_isFixed 20 0 0 w [.ref 1000, .int r] (fun v w9 => ∃ (r9 : Int32) (s9 : z_Z), v = some (.int r9) ∧ z_fm 59 w w9 ∧ z_mst w9 s9 ∧ s9.1.1 = q_k2 r ∧ sp_MR (if q_k2 r = 0 then S else S) s9 ∧ (q_k2 r = 0 → r9 = z_bi (sp_F S (sp_i r)))) (fun _ _ => False) := by
  generalize hQ9 : (fun (v : Option Value) (w9 : z_W) => ∃ (r9 : Int32) (s9 : z_Z), v = some (.int r9) ∧ z_fm 59 w w9 ∧ z_mst w9 s9 ∧ s9.1.1 = q_k2 r ∧ sp_MR (if q_k2 r = 0 then S else S) s9 ∧ (q_k2 r = 0 → r9 = z_bi (sp_F S (sp_i r)))) = Q9
  refine z_body hl (by decide) rfl (Nat.le_of_ble_eq_true rfl) ?_
  show z_J G l mX11_isFixed _ 0 [(0, _), (1, _)] [] _ 0 0
  refine j_aload_n dX11_isFixed_0 rfl rfl ?_
  refine j_iload_n dX11_isFixed_1 rfl ?_
  refine j_callS dX11_isFixed_2 kX11_isNoTwo lX11_72 stX11_isNoTwo (cm_isNoTwo_r hl w _) (Nat.le_of_ble_eq_true rfl) ⟨(Nat.le_of_ble_eq_true rfl), (Nat.le_of_ble_eq_true rfl)⟩ rfl (Nat.le_of_ble_eq_true rfl) rfl rfl (fun _ _ h => h.elim) ?_
  rintro _ _ ⟨⟨rfl, hno308⟩ | ⟨rfl, i308, hi308, ht308, rfl⟩, hw308⟩
  · refine j_w w hw308 ?_
    refine j_iconst (v := 1) dX11_isFixed_5 (by decide) ?_
    refine j_callV (q := (RX11, TX11, 8)) dX11_isFixed_6 kX11_start lX11_76 inX11_start seX11_start h.m rfl (cm_start1 hl w _ _ h (by decide)) (Nat.le_of_ble_eq_true rfl) ⟨(Nat.le_of_ble_eq_true rfl), (Nat.le_of_ble_eq_true rfl)⟩ rfl (Nat.le_of_ble_eq_true rfl) rfl rfl (fun _ _ h => h.elim) ?_
    rintro _ w1 ⟨rfl, fm1, h1⟩
    have R1 := R.th (k := 1)
    refine j_if_ne (tgt := 25) dX11_isFixed_9 (by decide) (fun c_9_11 => ?_) (fun c_9_11 => ?_)
    · refine j_iconst (v := 0) dX11_isFixed_25 (by decide) ?_
      refine j_iret dX11_isFixed_26 rfl rfl ?_ (Nat.le_of_ble_eq_true rfl) (Nat.le_of_ble_eq_true rfl)
      refine cast (congrFun (congrFun hQ9 _) _) ?_
      refine ⟨_, _, rfl, (fm1.le (q' := 59) (by decide)), h1, sp_X1 (k := 1) ?_ (by decide) rfl R1⟩
      first | (first | (refine sp_k2_1 ?_ <;> (first | (with_reducible assumption) | (refine Or.inl ?_; (with_reducible assumption)) | (refine Or.inr ?_; (with_reducible assumption)) | (refine Or.inr (Or.inl ?_); (with_reducible assumption)) | (refine Or.inr (Or.inr ?_); (with_reducible assumption)) | (refine Or.inr (Or.inr (Or.inl ?_)); (with_reducible assumption)) | (refine Or.inr (Or.inr (Or.inr ?_)); (with_reducible assumption)) | (refine fun z => Or.elim z ?_ ?_ <;> (with_reducible assumption)) | (refine fun z => Or.elim z ?_ (fun z => Or.elim z ?_ ?_) <;> (with_reducible assumption)) | (refine fun z => Or.elim z ?_ (fun z => Or.elim z ?_ (fun z => Or.elim z ?_ ?_)) <;> (with_reducible assumption)) | (refine fun z => Or.elim z (fun z9 => z9 ?_) ?_ <;> (first | (with_reducible assumption) | (refine Or.inl ?_; (with_reducible assumption)) | (refine Or.inr (Or.inl ?_); (with_reducible assumption)) | (refine Or.inr (Or.inr ?_); (with_reducible assumption)) | (refine Or.inr (Or.inr (Or.inl ?_)); (with_reducible assumption)) | (refine Or.inr (Or.inr (Or.inr ?_)); (with_reducible assumption)))) | (refine Or.inl (fun z => Or.elim z ?_ (fun z => Or.elim z ?_ ?_)) <;> (with_reducible assumption)) | (refine Or.inl (fun z => Or.elim z ?_ (fun z => Or.elim z ?_ (fun z => Or.elim z ?_ ?_))) <;> (with_reducible assumption))))) | (first | (refine sp_k2_1 ?_ <;> (first | assumption | (refine Or.inl ?_; assumption) | (refine Or.inr ?_; assumption) | (refine Or.inr (Or.inl ?_); assumption) | (refine Or.inr (Or.inr ?_); assumption) | (refine Or.inr (Or.inr (Or.inl ?_)); assumption) | (refine Or.inr (Or.inr (Or.inr ?_)); assumption) | (refine fun z => Or.elim z ?_ ?_ <;> assumption) | (refine fun z => Or.elim z ?_ (fun z => Or.elim z ?_ ?_) <;> assumption) | (refine fun z => Or.elim z ?_ (fun z => Or.elim z ?_ (fun z => Or.elim z ?_ ?_)) <;> assumption) | (refine fun z => Or.elim z (fun z9 => z9 ?_) ?_ <;> (first | assumption | (refine Or.inl ?_; assumption) | (refine Or.inr (Or.inl ?_); assumption) | (refine Or.inr (Or.inr ?_); assumption) | (refine Or.inr (Or.inr (Or.inl ?_)); assumption) | (refine Or.inr (Or.inr (Or.inr ?_)); assumption))) | (refine Or.inl (fun z => Or.elim z ?_ (fun z => Or.elim z ?_ ?_)) <;> assumption) | (refine Or.inl (fun z => Or.elim z ?_ (fun z => Or.elim z ?_ (fun z => Or.elim z ?_ ?_))) <;> assumption))))
    · exact absurd c_9_11 (by decide)
  · refine j_w w hw308 ?_
    have ei308 : sp_i (nI i308) = i308 := sp_in' (by omega)
    refine j_iconst (v := 1) dX11_isFixed_5 (by decide) ?_
    refine j_callV (q := (RX11, TX11, 8)) dX11_isFixed_6 kX11_start lX11_76 inX11_start seX11_start h.m rfl (cm_start0 hl w _ _ h) (Nat.le_of_ble_eq_true rfl) ⟨(Nat.le_of_ble_eq_true rfl), (Nat.le_of_ble_eq_true rfl)⟩ rfl (Nat.le_of_ble_eq_true rfl) rfl rfl (fun _ _ h => h.elim) ?_
    rintro _ w2 ⟨rfl, fm2, h2⟩
    have R2 := R.th (k := 0)
    refine j_if_ne (tgt := 25) dX11_isFixed_9 (by decide) (fun c_9_24 => ?_) (fun c_9_24 => ?_)
    · exact absurd c_9_24 (by decide)
    · refine j_aload_n dX11_isFixed_12 rfl rfl ?_
      refine j_getf dX11_isFixed_13 fX11_25 h2.m rfl ?_
      refine j_iload_n dX11_isFixed_16 rfl ?_
      refine j_zald dX11_isFixed_17 h2.fx (vp_in_nI (by omega) (by omega)) rfl ?_
      rcases (Bool.eq_false_or_eq_true (sp_F S i308)) with hF17 | hF17
      · refine j_top (congrArg Value.int (show _ = (1 : Int32) from by rw [z_cla (by omega), R2.f (by omega)]; show z_bi (sp_F S i308) = 1; rw [hF17]; rfl)) ?_
        refine j_if_eq (tgt := 25) dX11_isFixed_18 (by decide) (fun c_18_32 => ?_) (fun c_18_32 => ?_)
        · exact absurd c_18_32 (by decide)
        · refine j_iconst (v := 1) dX11_isFixed_21 (by decide) ?_
          refine j_goto (tgt := 26) dX11_isFixed_22 (by decide) ?_
          refine j_iret dX11_isFixed_26 rfl rfl ?_ (Nat.le_of_ble_eq_true rfl) (Nat.le_of_ble_eq_true rfl)
          refine cast (congrFun (congrFun hQ9 _) _) ?_
          try rw [ei308]
          refine ⟨_, _, rfl, (fm2.le (q' := 59) (by decide)), h2, sp_X0 ?_ rfl R2 (by rw [hF17]; rfl)⟩
          first | (first | (refine sp_k2_0 ?_ <;> (first | (with_reducible assumption) | (refine Or.inl ?_; (with_reducible assumption)) | (refine Or.inr ?_; (with_reducible assumption)) | (refine Or.inr (Or.inl ?_); (with_reducible assumption)) | (refine Or.inr (Or.inr ?_); (with_reducible assumption)) | (refine Or.inr (Or.inr (Or.inl ?_)); (with_reducible assumption)) | (refine Or.inr (Or.inr (Or.inr ?_)); (with_reducible assumption)) | (refine fun z => Or.elim z ?_ ?_ <;> (with_reducible assumption)) | (refine fun z => Or.elim z ?_ (fun z => Or.elim z ?_ ?_) <;> (with_reducible assumption)) | (refine fun z => Or.elim z ?_ (fun z => Or.elim z ?_ (fun z => Or.elim z ?_ ?_)) <;> (with_reducible assumption)) | (refine fun z => Or.elim z (fun z9 => z9 ?_) ?_ <;> (first | (with_reducible assumption) | (refine Or.inl ?_; (with_reducible assumption)) | (refine Or.inr (Or.inl ?_); (with_reducible assumption)) | (refine Or.inr (Or.inr ?_); (with_reducible assumption)) | (refine Or.inr (Or.inr (Or.inl ?_)); (with_reducible assumption)) | (refine Or.inr (Or.inr (Or.inr ?_)); (with_reducible assumption)))) | (refine Or.inl (fun z => Or.elim z ?_ (fun z => Or.elim z ?_ ?_)) <;> (with_reducible assumption)) | (refine Or.inl (fun z => Or.elim z ?_ (fun z => Or.elim z ?_ (fun z => Or.elim z ?_ ?_))) <;> (with_reducible assumption))))) | (first | (refine sp_k2_0 ?_ <;> (first | assumption | (refine Or.inl ?_; assumption) | (refine Or.inr ?_; assumption) | (refine Or.inr (Or.inl ?_); assumption) | (refine Or.inr (Or.inr ?_); assumption) | (refine Or.inr (Or.inr (Or.inl ?_)); assumption) | (refine Or.inr (Or.inr (Or.inr ?_)); assumption) | (refine fun z => Or.elim z ?_ ?_ <;> assumption) | (refine fun z => Or.elim z ?_ (fun z => Or.elim z ?_ ?_) <;> assumption) | (refine fun z => Or.elim z ?_ (fun z => Or.elim z ?_ (fun z => Or.elim z ?_ ?_)) <;> assumption) | (refine fun z => Or.elim z (fun z9 => z9 ?_) ?_ <;> (first | assumption | (refine Or.inl ?_; assumption) | (refine Or.inr (Or.inl ?_); assumption) | (refine Or.inr (Or.inr ?_); assumption) | (refine Or.inr (Or.inr (Or.inl ?_)); assumption) | (refine Or.inr (Or.inr (Or.inr ?_)); assumption))) | (refine Or.inl (fun z => Or.elim z ?_ (fun z => Or.elim z ?_ ?_)) <;> assumption) | (refine Or.inl (fun z => Or.elim z ?_ (fun z => Or.elim z ?_ (fun z => Or.elim z ?_ ?_))) <;> assumption))))
      · refine j_top (congrArg Value.int (show _ = (0 : Int32) from by rw [z_cla (by omega), R2.f (by omega)]; show z_bi (sp_F S i308) = 0; rw [hF17]; rfl)) ?_
        refine j_if_eq (tgt := 25) dX11_isFixed_18 (by decide) (fun c_18_42 => ?_) (fun c_18_42 => ?_)
        · refine j_iconst (v := 0) dX11_isFixed_25 (by decide) ?_
          refine j_iret dX11_isFixed_26 rfl rfl ?_ (Nat.le_of_ble_eq_true rfl) (Nat.le_of_ble_eq_true rfl)
          refine cast (congrFun (congrFun hQ9 _) _) ?_
          try rw [ei308]
          refine ⟨_, _, rfl, (fm2.le (q' := 59) (by decide)), h2, sp_X0 ?_ rfl R2 (by rw [hF17]; rfl)⟩
          first | (first | (refine sp_k2_0 ?_ <;> (first | (with_reducible assumption) | (refine Or.inl ?_; (with_reducible assumption)) | (refine Or.inr ?_; (with_reducible assumption)) | (refine Or.inr (Or.inl ?_); (with_reducible assumption)) | (refine Or.inr (Or.inr ?_); (with_reducible assumption)) | (refine Or.inr (Or.inr (Or.inl ?_)); (with_reducible assumption)) | (refine Or.inr (Or.inr (Or.inr ?_)); (with_reducible assumption)) | (refine fun z => Or.elim z ?_ ?_ <;> (with_reducible assumption)) | (refine fun z => Or.elim z ?_ (fun z => Or.elim z ?_ ?_) <;> (with_reducible assumption)) | (refine fun z => Or.elim z ?_ (fun z => Or.elim z ?_ (fun z => Or.elim z ?_ ?_)) <;> (with_reducible assumption)) | (refine fun z => Or.elim z (fun z9 => z9 ?_) ?_ <;> (first | (with_reducible assumption) | (refine Or.inl ?_; (with_reducible assumption)) | (refine Or.inr (Or.inl ?_); (with_reducible assumption)) | (refine Or.inr (Or.inr ?_); (with_reducible assumption)) | (refine Or.inr (Or.inr (Or.inl ?_)); (with_reducible assumption)) | (refine Or.inr (Or.inr (Or.inr ?_)); (with_reducible assumption)))) | (refine Or.inl (fun z => Or.elim z ?_ (fun z => Or.elim z ?_ ?_)) <;> (with_reducible assumption)) | (refine Or.inl (fun z => Or.elim z ?_ (fun z => Or.elim z ?_ (fun z => Or.elim z ?_ ?_))) <;> (with_reducible assumption))))) | (first | (refine sp_k2_0 ?_ <;> (first | assumption | (refine Or.inl ?_; assumption) | (refine Or.inr ?_; assumption) | (refine Or.inr (Or.inl ?_); assumption) | (refine Or.inr (Or.inr ?_); assumption) | (refine Or.inr (Or.inr (Or.inl ?_)); assumption) | (refine Or.inr (Or.inr (Or.inr ?_)); assumption) | (refine fun z => Or.elim z ?_ ?_ <;> assumption) | (refine fun z => Or.elim z ?_ (fun z => Or.elim z ?_ ?_) <;> assumption) | (refine fun z => Or.elim z ?_ (fun z => Or.elim z ?_ (fun z => Or.elim z ?_ ?_)) <;> assumption) | (refine fun z => Or.elim z (fun z9 => z9 ?_) ?_ <;> (first | assumption | (refine Or.inl ?_; assumption) | (refine Or.inr (Or.inl ?_); assumption) | (refine Or.inr (Or.inr ?_); assumption) | (refine Or.inr (Or.inr (Or.inl ?_)); assumption) | (refine Or.inr (Or.inr (Or.inr ?_)); assumption))) | (refine Or.inl (fun z => Or.elim z ?_ (fun z => Or.elim z ?_ ?_)) <;> assumption) | (refine Or.inl (fun z => Or.elim z ?_ (fun z => Or.elim z ?_ (fun z => Or.elim z ?_ ?_))) <;> assumption))))
        · exact absurd c_18_42 (by decide)
set_option maxRecDepth 100000 in
set_option maxHeartbeats 8000000 in
theorem cx_counts (hl : l.stackTraces = false) (w : z_W) (S : sp_S) (s : z_Z) (r : Int32) (w0 : Int32) (h : z_mst w s) (R : sp_MR S s)  : z_Con G l mX11_counts 20 0 0 w [.ref 1000, .int r, .int w0] (fun v w9 => ∃ (r9 : Int32) (s9 : z_Z), v = some (.int r9) ∧ z_fm 59 w w9 ∧ z_mst w9 s9 ∧ s9.1.1 = q_k22 r (w0 < 0 ∨ 4 < w0) ∧ sp_MR (if q_k22 r (w0 < 0 ∨ 4 < w0) = 0 then S else S) s9 ∧ (q_k22 r (w0 < 0 ∨ 4 < w0) = 0 → r9 = sp_C S (sp_i r) (sp_i w0))) (fun _ _ => False) := by
  generalize hQ9 : (fun (v : Option Value) (w9 : z_W) => ∃ (r9 : Int32) (s9 : z_Z), v = some (.int r9) ∧ z_fm 59 w w9 ∧ z_mst w9 s9 ∧ s9.1.1 = q_k22 r (w0 < 0 ∨ 4 < w0) ∧ sp_MR (if q_k22 r (w0 < 0 ∨ 4 < w0) = 0 then S else S) s9 ∧ (q_k22 r (w0 < 0 ∨ 4 < w0) = 0 → r9 = sp_C S (sp_i r) (sp_i w0))) = Q9
  refine z_body hl (by decide) rfl (Nat.le_of_ble_eq_true rfl) ?_
  show z_J G l mX11_counts _ 0 [(0, _), (1, _), (2, _)] [] _ 0 0
  refine j_aload_n dX11_counts_0 rfl rfl ?_
  refine j_iload_n dX11_counts_1 rfl ?_
  refine j_callS dX11_counts_2 kX11_isNoTwo lX11_72 stX11_isNoTwo (cm_isNoTwo_r hl w _) (Nat.le_of_ble_eq_true rfl) ⟨(Nat.le_of_ble_eq_true rfl), (Nat.le_of_ble_eq_true rfl)⟩ rfl (Nat.le_of_ble_eq_true rfl) rfl rfl (fun _ _ h => h.elim) ?_
  rintro _ _ ⟨⟨rfl, hno309⟩ | ⟨rfl, i309, hi309, ht309, rfl⟩, hw309⟩
  · refine j_w w hw309 ?_
    refine j_iconst (v := 1) dX11_counts_5 (by decide) ?_
    refine j_callV (q := (RX11, TX11, 8)) dX11_counts_6 kX11_start lX11_76 inX11_start seX11_start h.m rfl (cm_start1 hl w _ _ h (by decide)) (Nat.le_of_ble_eq_true rfl) ⟨(Nat.le_of_ble_eq_true rfl), (Nat.le_of_ble_eq_true rfl)⟩ rfl (Nat.le_of_ble_eq_true rfl) rfl rfl (fun _ _ h => h.elim) ?_
    rintro _ w1 ⟨rfl, fm1, h1⟩
    have R1 := R.th (k := 1)
    refine j_if_ne (tgt := 34) dX11_counts_9 (by decide) (fun c_9_11 => ?_) (fun c_9_11 => ?_)
    · refine j_iconst (v := 0) dX11_counts_34 (by decide) ?_
      refine j_goto (tgt := 46) dX11_counts_35 (by decide) ?_
      refine j_iret dX11_counts_46 rfl rfl ?_ (Nat.le_of_ble_eq_true rfl) (Nat.le_of_ble_eq_true rfl)
      refine cast (congrFun (congrFun hQ9 _) _) ?_
      refine ⟨_, _, rfl, (fm1.le (q' := 59) (by decide)), h1, sp_X1 (k := 1) ?_ (by decide) rfl R1⟩
      first | (first | (refine sp_k22_1 ?_ <;> (first | (with_reducible assumption) | (refine Or.inl ?_; (with_reducible assumption)) | (refine Or.inr ?_; (with_reducible assumption)) | (refine Or.inr (Or.inl ?_); (with_reducible assumption)) | (refine Or.inr (Or.inr ?_); (with_reducible assumption)) | (refine Or.inr (Or.inr (Or.inl ?_)); (with_reducible assumption)) | (refine Or.inr (Or.inr (Or.inr ?_)); (with_reducible assumption)) | (refine fun z => Or.elim z ?_ ?_ <;> (with_reducible assumption)) | (refine fun z => Or.elim z ?_ (fun z => Or.elim z ?_ ?_) <;> (with_reducible assumption)) | (refine fun z => Or.elim z ?_ (fun z => Or.elim z ?_ (fun z => Or.elim z ?_ ?_)) <;> (with_reducible assumption)) | (refine fun z => Or.elim z (fun z9 => z9 ?_) ?_ <;> (first | (with_reducible assumption) | (refine Or.inl ?_; (with_reducible assumption)) | (refine Or.inr (Or.inl ?_); (with_reducible assumption)) | (refine Or.inr (Or.inr ?_); (with_reducible assumption)) | (refine Or.inr (Or.inr (Or.inl ?_)); (with_reducible assumption)) | (refine Or.inr (Or.inr (Or.inr ?_)); (with_reducible assumption)))) | (refine Or.inl (fun z => Or.elim z ?_ (fun z => Or.elim z ?_ ?_)) <;> (with_reducible assumption)) | (refine Or.inl (fun z => Or.elim z ?_ (fun z => Or.elim z ?_ (fun z => Or.elim z ?_ ?_))) <;> (with_reducible assumption))))) | (first | (refine sp_k22_1 ?_ <;> (first | assumption | (refine Or.inl ?_; assumption) | (refine Or.inr ?_; assumption) | (refine Or.inr (Or.inl ?_); assumption) | (refine Or.inr (Or.inr ?_); assumption) | (refine Or.inr (Or.inr (Or.inl ?_)); assumption) | (refine Or.inr (Or.inr (Or.inr ?_)); assumption) | (refine fun z => Or.elim z ?_ ?_ <;> assumption) | (refine fun z => Or.elim z ?_ (fun z => Or.elim z ?_ ?_) <;> assumption) | (refine fun z => Or.elim z ?_ (fun z => Or.elim z ?_ (fun z => Or.elim z ?_ ?_)) <;> assumption) | (refine fun z => Or.elim z (fun z9 => z9 ?_) ?_ <;> (first | assumption | (refine Or.inl ?_; assumption) | (refine Or.inr (Or.inl ?_); assumption) | (refine Or.inr (Or.inr ?_); assumption) | (refine Or.inr (Or.inr (Or.inl ?_)); assumption) | (refine Or.inr (Or.inr (Or.inr ?_)); assumption))) | (refine Or.inl (fun z => Or.elim z ?_ (fun z => Or.elim z ?_ ?_)) <;> assumption) | (refine Or.inl (fun z => Or.elim z ?_ (fun z => Or.elim z ?_ (fun z => Or.elim z ?_ ?_))) <;> assumption))))
    · exact absurd c_9_11 (by decide)
  · refine j_w w hw309 ?_
    have ei309 : sp_i (nI i309) = i309 := sp_in' (by omega)
    refine j_iconst (v := 1) dX11_counts_5 (by decide) ?_
    refine j_callV (q := (RX11, TX11, 8)) dX11_counts_6 kX11_start lX11_76 inX11_start seX11_start h.m rfl (cm_start0 hl w _ _ h) (Nat.le_of_ble_eq_true rfl) ⟨(Nat.le_of_ble_eq_true rfl), (Nat.le_of_ble_eq_true rfl)⟩ rfl (Nat.le_of_ble_eq_true rfl) rfl rfl (fun _ _ h => h.elim) ?_
    rintro _ w2 ⟨rfl, fm2, h2⟩
    have R2 := R.th (k := 0)
    refine j_if_ne (tgt := 34) dX11_counts_9 (by decide) (fun c_9_25 => ?_) (fun c_9_25 => ?_)
    · exact absurd c_9_25 (by decide)
    · refine j_aload_n dX11_counts_12 rfl rfl ?_
      refine j_iload_n dX11_counts_13 rfl ?_
      refine j_iconst (v := 0) dX11_counts_14 (by decide) ?_
      refine j_iconst (v := 4) dX11_counts_15 (by decide) ?_
      refine j_callS dX11_counts_16 kX11_isIn lX11_59 stX11_isIn (cm_isIn_r hl w2 _ (0) (4)) (Nat.le_of_ble_eq_true rfl) ⟨(Nat.le_of_ble_eq_true rfl), (Nat.le_of_ble_eq_true rfl)⟩ rfl (Nat.le_of_ble_eq_true rfl) rfl rfl (fun _ _ h => h.elim) ?_
      rintro _ _ ⟨⟨rfl, hi310⟩ | ⟨rfl, hno310⟩, hw310⟩
      · refine j_w w2 hw310 ?_
        obtain ⟨i310, hq310, rfl⟩ := sp_nt (m := 4) rfl (by omega) hi310
        have ei310 : sp_i (nI i310) = i310 := sp_in' (by omega)
        refine j_if_ne (tgt := 26) dX11_counts_19 (by decide) (fun c_19_36 => ?_) (fun c_19_36 => ?_)
        · refine j_iconst (v := 0) dX11_counts_26 (by decide) ?_
          refine j_iconst (v := 2) dX11_counts_27 (by decide) ?_
          refine j_callV (q := (RX11, TX11, 8)) dX11_counts_28 kX11_refuse lX11_52 inX11_refuse seX11_refuse h2.m rfl (cm_refuse0 hl w2 _ _ h2 rfl) (Nat.le_of_ble_eq_true rfl) ⟨(Nat.le_of_ble_eq_true rfl), (Nat.le_of_ble_eq_true rfl)⟩ rfl (Nat.le_of_ble_eq_true rfl) rfl rfl (fun _ _ h => h.elim) ?_
          rintro _ _ ⟨rfl, hw311⟩
          refine j_w w2 hw311 ?_
          refine j_if_eq (tgt := 38) dX11_counts_31 (by decide) (fun c_31_42 => ?_) (fun c_31_42 => ?_)
          · refine j_aload_n dX11_counts_38 rfl rfl ?_
            refine j_getf dX11_counts_39 fX11_31 h2.m rfl ?_
            refine j_iload_n dX11_counts_42 rfl ?_
            obtain ⟨fz312, gz312, hz312⟩ := h2.co
            refine j_aald (v := .ref (1004 + i309)) dX11_counts_43 gz312 rfl rfl (vp_in_nI (by omega) (by omega)) (by rw [z_cla (by omega)]; exact hz312 _ (by omega)) ?_
            refine j_iload_n dX11_counts_44 rfl ?_
            refine j_ld dX11_counts_45 (h2.cn (i := i309) (by omega)) (vp_in_nI (by omega) (by omega)) ?_
            refine j_iret dX11_counts_46 rfl rfl ?_ (Nat.le_of_ble_eq_true rfl) (Nat.le_of_ble_eq_true rfl)
            refine cast (congrFun (congrFun hQ9 _) _) ?_
            try rw [ei309]
            try rw [ei310]
            refine ⟨_, _, rfl, (fm2.le (q' := 59) (by decide)), h2, sp_X0 ?_ rfl R2 (by rw [z_cla (by omega)]; exact R2.c (by omega) (by omega))⟩
            first | (first | (refine sp_k22_0 ?_ ?_ <;> (first | (with_reducible assumption) | (refine Or.inl ?_; (with_reducible assumption)) | (refine Or.inr ?_; (with_reducible assumption)) | (refine Or.inr (Or.inl ?_); (with_reducible assumption)) | (refine Or.inr (Or.inr ?_); (with_reducible assumption)) | (refine Or.inr (Or.inr (Or.inl ?_)); (with_reducible assumption)) | (refine Or.inr (Or.inr (Or.inr ?_)); (with_reducible assumption)) | (refine fun z => Or.elim z ?_ ?_ <;> (with_reducible assumption)) | (refine fun z => Or.elim z ?_ (fun z => Or.elim z ?_ ?_) <;> (with_reducible assumption)) | (refine fun z => Or.elim z ?_ (fun z => Or.elim z ?_ (fun z => Or.elim z ?_ ?_)) <;> (with_reducible assumption)) | (refine fun z => Or.elim z (fun z9 => z9 ?_) ?_ <;> (first | (with_reducible assumption) | (refine Or.inl ?_; (with_reducible assumption)) | (refine Or.inr (Or.inl ?_); (with_reducible assumption)) | (refine Or.inr (Or.inr ?_); (with_reducible assumption)) | (refine Or.inr (Or.inr (Or.inl ?_)); (with_reducible assumption)) | (refine Or.inr (Or.inr (Or.inr ?_)); (with_reducible assumption)))) | (refine Or.inl (fun z => Or.elim z ?_ (fun z => Or.elim z ?_ ?_)) <;> (with_reducible assumption)) | (refine Or.inl (fun z => Or.elim z ?_ (fun z => Or.elim z ?_ (fun z => Or.elim z ?_ ?_))) <;> (with_reducible assumption))))) | (first | (refine sp_k22_0 ?_ ?_ <;> (first | assumption | (refine Or.inl ?_; assumption) | (refine Or.inr ?_; assumption) | (refine Or.inr (Or.inl ?_); assumption) | (refine Or.inr (Or.inr ?_); assumption) | (refine Or.inr (Or.inr (Or.inl ?_)); assumption) | (refine Or.inr (Or.inr (Or.inr ?_)); assumption) | (refine fun z => Or.elim z ?_ ?_ <;> assumption) | (refine fun z => Or.elim z ?_ (fun z => Or.elim z ?_ ?_) <;> assumption) | (refine fun z => Or.elim z ?_ (fun z => Or.elim z ?_ (fun z => Or.elim z ?_ ?_)) <;> assumption) | (refine fun z => Or.elim z (fun z9 => z9 ?_) ?_ <;> (first | assumption | (refine Or.inl ?_; assumption) | (refine Or.inr (Or.inl ?_); assumption) | (refine Or.inr (Or.inr ?_); assumption) | (refine Or.inr (Or.inr (Or.inl ?_)); assumption) | (refine Or.inr (Or.inr (Or.inr ?_)); assumption))) | (refine Or.inl (fun z => Or.elim z ?_ (fun z => Or.elim z ?_ ?_)) <;> assumption) | (refine Or.inl (fun z => Or.elim z ?_ (fun z => Or.elim z ?_ (fun z => Or.elim z ?_ ?_))) <;> assumption))))
          · exact absurd c_31_42 (by decide)
        · exact absurd c_19_36 (by decide)
      · refine j_w w2 hw310 ?_
        refine j_if_ne (tgt := 26) dX11_counts_19 (by decide) (fun c_19_59 => ?_) (fun c_19_59 => ?_)
        · exact absurd c_19_59 (by decide)
        · refine j_iconst (v := 1) dX11_counts_22 (by decide) ?_
          refine j_goto (tgt := 27) dX11_counts_23 (by decide) ?_
          refine j_iconst (v := 2) dX11_counts_27 (by decide) ?_
          refine j_callV (q := (RX11, TX11, 8)) dX11_counts_28 kX11_refuse lX11_52 inX11_refuse seX11_refuse h2.m rfl (cm_refuse1 hl w2 _ _ h2 rfl (by decide)) (Nat.le_of_ble_eq_true rfl) ⟨(Nat.le_of_ble_eq_true rfl), (Nat.le_of_ble_eq_true rfl)⟩ rfl (Nat.le_of_ble_eq_true rfl) rfl rfl (fun _ _ h => h.elim) ?_
          rintro _ w3 ⟨rfl, fm3, h3⟩
          have R3 := R2.th (k := 2)
          refine j_if_eq (tgt := 38) dX11_counts_31 (by decide) (fun c_31_67 => ?_) (fun c_31_67 => ?_)
          · exact absurd c_31_67 (by decide)
          · refine j_iconst (v := 0) dX11_counts_34 (by decide) ?_
            refine j_goto (tgt := 46) dX11_counts_35 (by decide) ?_
            refine j_iret dX11_counts_46 rfl rfl ?_ (Nat.le_of_ble_eq_true rfl) (Nat.le_of_ble_eq_true rfl)
            refine cast (congrFun (congrFun hQ9 _) _) ?_
            try rw [ei309]
            refine ⟨_, _, rfl, ((fm2.le (q' := 59) (by decide)).tr (fm3.le (q' := 59) (by decide))), h3, sp_X1 (k := 2) ?_ (by decide) rfl R3⟩
            first | (first | (refine sp_k22_2 ?_ ?_ <;> (first | (with_reducible assumption) | (refine Or.inl ?_; (with_reducible assumption)) | (refine Or.inr ?_; (with_reducible assumption)) | (refine Or.inr (Or.inl ?_); (with_reducible assumption)) | (refine Or.inr (Or.inr ?_); (with_reducible assumption)) | (refine Or.inr (Or.inr (Or.inl ?_)); (with_reducible assumption)) | (refine Or.inr (Or.inr (Or.inr ?_)); (with_reducible assumption)) | (refine fun z => Or.elim z ?_ ?_ <;> (with_reducible assumption)) | (refine fun z => Or.elim z ?_ (fun z => Or.elim z ?_ ?_) <;> (with_reducible assumption)) | (refine fun z => Or.elim z ?_ (fun z => Or.elim z ?_ (fun z => Or.elim z ?_ ?_)) <;> (with_reducible assumption)) | (refine fun z => Or.elim z (fun z9 => z9 ?_) ?_ <;> (first | (with_reducible assumption) | (refine Or.inl ?_; (with_reducible assumption)) | (refine Or.inr (Or.inl ?_); (with_reducible assumption)) | (refine Or.inr (Or.inr ?_); (with_reducible assumption)) | (refine Or.inr (Or.inr (Or.inl ?_)); (with_reducible assumption)) | (refine Or.inr (Or.inr (Or.inr ?_)); (with_reducible assumption)))) | (refine Or.inl (fun z => Or.elim z ?_ (fun z => Or.elim z ?_ ?_)) <;> (with_reducible assumption)) | (refine Or.inl (fun z => Or.elim z ?_ (fun z => Or.elim z ?_ (fun z => Or.elim z ?_ ?_))) <;> (with_reducible assumption))))) | (first | (refine sp_k22_2 ?_ ?_ <;> (first | assumption | (refine Or.inl ?_; assumption) | (refine Or.inr ?_; assumption) | (refine Or.inr (Or.inl ?_); assumption) | (refine Or.inr (Or.inr ?_); assumption) | (refine Or.inr (Or.inr (Or.inl ?_)); assumption) | (refine Or.inr (Or.inr (Or.inr ?_)); assumption) | (refine fun z => Or.elim z ?_ ?_ <;> assumption) | (refine fun z => Or.elim z ?_ (fun z => Or.elim z ?_ ?_) <;> assumption) | (refine fun z => Or.elim z ?_ (fun z => Or.elim z ?_ (fun z => Or.elim z ?_ ?_)) <;> assumption) | (refine fun z => Or.elim z (fun z9 => z9 ?_) ?_ <;> (first | assumption | (refine Or.inl ?_; assumption) | (refine Or.inr (Or.inl ?_); assumption) | (refine Or.inr (Or.inr ?_); assumption) | (refine Or.inr (Or.inr (Or.inl ?_)); assumption) | (refine Or.inr (Or.inr (Or.inr ?_)); assumption))) | (refine Or.inl (fun z => Or.elim z ?_ (fun z => Or.elim z ?_ ?_)) <;> assumption) | (refine Or.inl (fun z => Or.elim z ?_ (fun z => Or.elim z ?_ (fun z => Or.elim z ?_ ?_))) <;> assumption))))
set_option maxRecDepth 100000 in
set_option maxHeartbeats 8000000 in
theorem cx_shelfCounts (hl : l.stackTraces = false) (w : z_W) (S : sp_S) (s : z_Z) (w0 : Int32) (h : z_mst w s) (R : sp_MR S s)  : z_Con G l mX11_shelfCounts 20 0 0 w [.ref 1000, .int w0] (fun v w9 => ∃ (r9 : Int32) (s9 : z_Z), v = some (.int r9) ∧ z_fm 59 w w9 ∧ z_mst w9 s9 ∧ s9.1.1 = q_k1 (w0 < 0 ∨ 6 < w0) ∧ sp_MR (if q_k1 (w0 < 0 ∨ 6 < w0) = 0 then S else S) s9 ∧ (q_k1 (w0 < 0 ∨ 6 < w0) = 0 → r9 = sp_C S 2 (sp_i w0))) (fun _ _ => False) := by
  generalize hQ9 : (fun (v : Option Value) (w9 : z_W) => ∃ (r9 : Int32) (s9 : z_Z), v = some (.int r9) ∧ z_fm 59 w w9 ∧ z_mst w9 s9 ∧ s9.1.1 = q_k1 (w0 < 0 ∨ 6 < w0) ∧ sp_MR (if q_k1 (w0 < 0 ∨ 6 < w0) = 0 then S else S) s9 ∧ (q_k1 (w0 < 0 ∨ 6 < w0) = 0 → r9 = sp_C S 2 (sp_i w0))) = Q9
  refine z_body hl (by decide) rfl (Nat.le_of_ble_eq_true rfl) ?_
  show z_J G l mX11_shelfCounts _ 0 [(0, _), (1, _)] [] _ 0 0
  refine j_aload_n dX11_shelfCounts_0 rfl rfl ?_
  refine j_iload_n dX11_shelfCounts_1 rfl ?_
  refine j_iconst (v := 0) dX11_shelfCounts_2 (by decide) ?_
  refine j_bipush (v := 6) dX11_shelfCounts_3 (by decide) ?_
  refine j_callS dX11_shelfCounts_5 kX11_isIn lX11_59 stX11_isIn (cm_isIn_r hl w _ (0) (6)) (Nat.le_of_ble_eq_true rfl) ⟨(Nat.le_of_ble_eq_true rfl), (Nat.le_of_ble_eq_true rfl)⟩ rfl (Nat.le_of_ble_eq_true rfl) rfl rfl (fun _ _ h => h.elim) ?_
  rintro _ _ ⟨⟨rfl, hi314⟩ | ⟨rfl, hno314⟩, hw314⟩
  · refine j_w w hw314 ?_
    obtain ⟨i314, hq314, rfl⟩ := sp_nt (m := 6) rfl (by omega) hi314
    have ei314 : sp_i (nI i314) = i314 := sp_in' (by omega)
    refine j_if_ne (tgt := 15) dX11_shelfCounts_8 (by decide) (fun c_8_11 => ?_) (fun c_8_11 => ?_)
    · refine j_iconst (v := 0) dX11_shelfCounts_15 (by decide) ?_
      refine j_iconst (v := 1) dX11_shelfCounts_16 (by decide) ?_
      refine j_callV (q := (RX11, TX11, 8)) dX11_shelfCounts_17 kX11_start lX11_76 inX11_start seX11_start h.m rfl (cm_start0 hl w _ _ h) (Nat.le_of_ble_eq_true rfl) ⟨(Nat.le_of_ble_eq_true rfl), (Nat.le_of_ble_eq_true rfl)⟩ rfl (Nat.le_of_ble_eq_true rfl) rfl rfl (fun _ _ h => h.elim) ?_
      rintro _ w1 ⟨rfl, fm1, h1⟩
      have R1 := R.th (k := 0)
      refine j_if_eq (tgt := 27) dX11_shelfCounts_20 (by decide) (fun c_20_17 => ?_) (fun c_20_17 => ?_)
      · refine j_aload_n dX11_shelfCounts_27 rfl rfl ?_
        refine j_getf dX11_shelfCounts_28 fX11_31 h1.m rfl ?_
        refine j_iconst (v := 2) dX11_shelfCounts_31 (by decide) ?_
        obtain ⟨fz315, gz315, hz315⟩ := h1.co
        refine j_aald (v := .ref (1004 + 2)) dX11_shelfCounts_32 gz315 rfl rfl (vp_in_nI (n := 2) (by decide) (by decide)) (by rw [show (2 : Int32).toNatClampNeg = 2 by decide]; exact hz315 _ (by decide)) ?_
        refine j_iload_n dX11_shelfCounts_33 rfl ?_
        refine j_ld dX11_shelfCounts_34 (h1.cn (i := 2) (by decide)) (vp_in_nI (by omega) (by omega)) ?_
        refine j_iret dX11_shelfCounts_35 rfl rfl ?_ (Nat.le_of_ble_eq_true rfl) (Nat.le_of_ble_eq_true rfl)
        refine cast (congrFun (congrFun hQ9 _) _) ?_
        try rw [ei314]
        refine ⟨_, _, rfl, (fm1.le (q' := 59) (by decide)), h1, sp_X0 ?_ rfl R1 (by rw [z_cla (by omega)]; exact R1.c (by omega) (by omega))⟩
        (first | (refine if_neg ?_ <;> (first | assumption | (refine Or.inl ?_; assumption) | (refine Or.inr ?_; assumption) | (refine Or.inr (Or.inl ?_); assumption) | (refine Or.inr (Or.inr ?_); assumption) | (refine Or.inr (Or.inr (Or.inl ?_)); assumption) | (refine Or.inr (Or.inr (Or.inr ?_)); assumption) | (refine fun z => Or.elim z ?_ ?_ <;> assumption) | (refine fun z => Or.elim z ?_ (fun z => Or.elim z ?_ ?_) <;> assumption) | (refine fun z => Or.elim z ?_ (fun z => Or.elim z ?_ (fun z => Or.elim z ?_ ?_)) <;> assumption) | (refine fun z => Or.elim z (fun z9 => z9 ?_) ?_ <;> (first | assumption | (refine Or.inl ?_; assumption) | (refine Or.inr (Or.inl ?_); assumption) | (refine Or.inr (Or.inr ?_); assumption) | (refine Or.inr (Or.inr (Or.inl ?_)); assumption) | (refine Or.inr (Or.inr (Or.inr ?_)); assumption))) | (refine Or.inl (fun z => Or.elim z ?_ (fun z => Or.elim z ?_ ?_)) <;> assumption) | (refine Or.inl (fun z => Or.elim z ?_ (fun z => Or.elim z ?_ (fun z => Or.elim z ?_ ?_))) <;> assumption))))
      · exact absurd c_20_17 (by decide)
    · exact absurd c_8_11 (by decide)
  · refine j_w w hw314 ?_
    refine j_if_ne (tgt := 15) dX11_shelfCounts_8 (by decide) (fun c_8_33 => ?_) (fun c_8_33 => ?_)
    · exact absurd c_8_33 (by decide)
    · refine j_iconst (v := 1) dX11_shelfCounts_11 (by decide) ?_
      refine j_goto (tgt := 16) dX11_shelfCounts_12 (by decide) ?_
      refine j_iconst (v := 1) dX11_shelfCounts_16 (by decide) ?_
      refine j_callV (q := (RX11, TX11, 8)) dX11_shelfCounts_17 kX11_start lX11_76 inX11_start seX11_start h.m rfl (cm_start1 hl w _ _ h (by decide)) (Nat.le_of_ble_eq_true rfl) ⟨(Nat.le_of_ble_eq_true rfl), (Nat.le_of_ble_eq_true rfl)⟩ rfl (Nat.le_of_ble_eq_true rfl) rfl rfl (fun _ _ h => h.elim) ?_
      rintro _ w2 ⟨rfl, fm2, h2⟩
      have R2 := R.th (k := 1)
      refine j_if_eq (tgt := 27) dX11_shelfCounts_20 (by decide) (fun c_20_41 => ?_) (fun c_20_41 => ?_)
      · exact absurd c_20_41 (by decide)
      · refine j_iconst (v := 0) dX11_shelfCounts_23 (by decide) ?_
        refine j_goto (tgt := 35) dX11_shelfCounts_24 (by decide) ?_
        refine j_iret dX11_shelfCounts_35 rfl rfl ?_ (Nat.le_of_ble_eq_true rfl) (Nat.le_of_ble_eq_true rfl)
        refine cast (congrFun (congrFun hQ9 _) _) ?_
        refine ⟨_, _, rfl, (fm2.le (q' := 59) (by decide)), h2, sp_X1 (k := 1) ?_ (by decide) rfl R2⟩
        (first | (refine if_pos ?_ <;> (first | assumption | (refine Or.inl ?_; assumption) | (refine Or.inr ?_; assumption) | (refine Or.inr (Or.inl ?_); assumption) | (refine Or.inr (Or.inr ?_); assumption) | (refine Or.inr (Or.inr (Or.inl ?_)); assumption) | (refine Or.inr (Or.inr (Or.inr ?_)); assumption) | (refine fun z => Or.elim z ?_ ?_ <;> assumption) | (refine fun z => Or.elim z ?_ (fun z => Or.elim z ?_ ?_) <;> assumption) | (refine fun z => Or.elim z ?_ (fun z => Or.elim z ?_ (fun z => Or.elim z ?_ ?_)) <;> assumption) | (refine fun z => Or.elim z (fun z9 => z9 ?_) ?_ <;> (first | assumption | (refine Or.inl ?_; assumption) | (refine Or.inr (Or.inl ?_); assumption) | (refine Or.inr (Or.inr ?_); assumption) | (refine Or.inr (Or.inr (Or.inl ?_)); assumption) | (refine Or.inr (Or.inr (Or.inr ?_)); assumption))) | (refine Or.inl (fun z => Or.elim z ?_ (fun z => Or.elim z ?_ ?_)) <;> assumption) | (refine Or.inl (fun z => Or.elim z ?_ (fun z => Or.elim z ?_ (fun z => Or.elim z ?_ ?_))) <;> assumption))))
set_option maxRecDepth 100000 in
set_option maxHeartbeats 8000000 in
theorem cx_takeStep (hl : l.stackTraces = false) (w : z_W) (S : sp_S) (s : z_Z) (a : Int32) (b : Int32) (h : z_mst w s) (R : sp_MR S s)  : z_Con G l mX11_takeStep 20 0 0 w [.ref 1000, .int a, .int b] (fun v w9 => ∃ (r9 : Int32) (s9 : z_Z), v = some (.int r9) ∧ z_fm 59 w w9 ∧ z_mst w9 s9 ∧ s9.1.1 = q_k1 (sp_bv b ∨ (a < -999 ∨ b < a)) ∧ sp_MR (if q_k1 (sp_bv b ∨ (a < -999 ∨ b < a)) = 0 then sp_nine S else S) s9 ∧ (q_k1 (sp_bv b ∨ (a < -999 ∨ b < a)) = 0 → r9 = (-9 : Int32))) (fun _ _ => False) := by
  generalize hQ9 : (fun (v : Option Value) (w9 : z_W) => ∃ (r9 : Int32) (s9 : z_Z), v = some (.int r9) ∧ z_fm 59 w w9 ∧ z_mst w9 s9 ∧ s9.1.1 = q_k1 (sp_bv b ∨ (a < -999 ∨ b < a)) ∧ sp_MR (if q_k1 (sp_bv b ∨ (a < -999 ∨ b < a)) = 0 then sp_nine S else S) s9 ∧ (q_k1 (sp_bv b ∨ (a < -999 ∨ b < a)) = 0 → r9 = (-9 : Int32))) = Q9
  refine z_body hl (by decide) rfl (Nat.le_of_ble_eq_true rfl) ?_
  show z_J G l mX11_takeStep _ 0 [(0, _), (1, _), (2, _)] [] _ 0 0
  refine j_aload_n dX11_takeStep_0 rfl rfl ?_
  refine j_iload_n dX11_takeStep_1 rfl ?_
  refine j_callS dX11_takeStep_2 kX11_isNoValue lX11_79 stX11_isNoValue (cm_isNoValue_r hl w _) (Nat.le_of_ble_eq_true rfl) ⟨(Nat.le_of_ble_eq_true rfl), (Nat.le_of_ble_eq_true rfl)⟩ rfl (Nat.le_of_ble_eq_true rfl) rfl rfl (fun _ _ h => h.elim) ?_
  rintro _ _ ⟨⟨rfl, hno317⟩ | ⟨rfl, hye317⟩, hw317⟩
  · refine j_w w hw317 ?_
    refine j_if_ne (tgt := 20) dX11_takeStep_5 (by decide) (fun c_5_7 => ?_) (fun c_5_7 => ?_)
    · refine j_iconst (v := 1) dX11_takeStep_20 (by decide) ?_
      refine j_goto (tgt := 25) dX11_takeStep_21 (by decide) ?_
      refine j_iconst (v := 1) dX11_takeStep_25 (by decide) ?_
      refine j_callV (q := (RX11, TX11, 8)) dX11_takeStep_26 kX11_start lX11_76 inX11_start seX11_start h.m rfl (cm_start1 hl w _ _ h (by decide)) (Nat.le_of_ble_eq_true rfl) ⟨(Nat.le_of_ble_eq_true rfl), (Nat.le_of_ble_eq_true rfl)⟩ rfl (Nat.le_of_ble_eq_true rfl) rfl rfl (fun _ _ h => h.elim) ?_
      rintro _ w1 ⟨rfl, fm1, h1⟩
      have R1 := R.th (k := 1)
      refine j_if_eq (tgt := 36) dX11_takeStep_29 (by decide) (fun c_29_14 => ?_) (fun c_29_14 => ?_)
      · exact absurd c_29_14 (by decide)
      · refine j_iconst (v := 0) dX11_takeStep_32 (by decide) ?_
        refine j_goto (tgt := 40) dX11_takeStep_33 (by decide) ?_
        refine j_iret dX11_takeStep_40 rfl rfl ?_ (Nat.le_of_ble_eq_true rfl) (Nat.le_of_ble_eq_true rfl)
        refine cast (congrFun (congrFun hQ9 _) _) ?_
        refine ⟨_, _, rfl, (fm1.le (q' := 59) (by decide)), h1, sp_X1 (k := 1) ?_ (by decide) rfl R1⟩
        (first | (refine if_pos (q_ts.mpr (fun z => q_inn z.1 ?_)); assumption) | (refine if_pos (q_ts.mpr (fun z => q_inn z.2.1 ?_)); assumption) | (refine if_pos (q_ts.mpr (fun z => (?_ : ¬ _) z.2.2)); assumption))
    · exact absurd c_5_7 (by decide)
  · refine j_w w hw317 ?_
    refine j_if_ne (tgt := 20) dX11_takeStep_5 (by decide) (fun c_5_24 => ?_) (fun c_5_24 => ?_)
    · exact absurd c_5_24 (by decide)
    · refine j_iload_n dX11_takeStep_8 rfl ?_
      refine j_callS dX11_takeStep_9 kX11_isNoValue lX11_79 stX11_isNoValue (cm_isNoValue_r hl w _) (Nat.le_of_ble_eq_true rfl) ⟨(Nat.le_of_ble_eq_true rfl), (Nat.le_of_ble_eq_true rfl)⟩ rfl (Nat.le_of_ble_eq_true rfl) rfl rfl (fun _ _ h => h.elim) ?_
      rintro _ _ ⟨⟨rfl, hno318⟩ | ⟨rfl, hye318⟩, hw318⟩
      · refine j_w w hw318 ?_
        refine j_if_ne (tgt := 20) dX11_takeStep_12 (by decide) (fun c_12_30 => ?_) (fun c_12_30 => ?_)
        · refine j_iconst (v := 1) dX11_takeStep_20 (by decide) ?_
          refine j_goto (tgt := 25) dX11_takeStep_21 (by decide) ?_
          refine j_iconst (v := 1) dX11_takeStep_25 (by decide) ?_
          refine j_callV (q := (RX11, TX11, 8)) dX11_takeStep_26 kX11_start lX11_76 inX11_start seX11_start h.m rfl (cm_start1 hl w _ _ h (by decide)) (Nat.le_of_ble_eq_true rfl) ⟨(Nat.le_of_ble_eq_true rfl), (Nat.le_of_ble_eq_true rfl)⟩ rfl (Nat.le_of_ble_eq_true rfl) rfl rfl (fun _ _ h => h.elim) ?_
          rintro _ w2 ⟨rfl, fm2, h2⟩
          have R2 := R.th (k := 1)
          refine j_if_eq (tgt := 36) dX11_takeStep_29 (by decide) (fun c_29_37 => ?_) (fun c_29_37 => ?_)
          · exact absurd c_29_37 (by decide)
          · refine j_iconst (v := 0) dX11_takeStep_32 (by decide) ?_
            refine j_goto (tgt := 40) dX11_takeStep_33 (by decide) ?_
            refine j_iret dX11_takeStep_40 rfl rfl ?_ (Nat.le_of_ble_eq_true rfl) (Nat.le_of_ble_eq_true rfl)
            refine cast (congrFun (congrFun hQ9 _) _) ?_
            refine ⟨_, _, rfl, (fm2.le (q' := 59) (by decide)), h2, sp_X1 (k := 1) ?_ (by decide) rfl R2⟩
            (first | (refine if_pos (q_ts.mpr (fun z => q_inn z.1 ?_)); assumption) | (refine if_pos (q_ts.mpr (fun z => q_inn z.2.1 ?_)); assumption) | (refine if_pos (q_ts.mpr (fun z => (?_ : ¬ _) z.2.2)); assumption))
        · exact absurd c_12_30 (by decide)
      · refine j_w w hw318 ?_
        refine j_if_ne (tgt := 20) dX11_takeStep_12 (by decide) (fun c_12_47 => ?_) (fun c_12_47 => ?_)
        · exact absurd c_12_47 (by decide)
        · refine j_iload_n dX11_takeStep_15 rfl ?_
          refine j_iload_n dX11_takeStep_16 rfl ?_
          refine j_icmp_le (tgt := 24) dX11_takeStep_17 (by decide) (fun c_17_51 => ?_) (fun c_17_51 => ?_)
          · refine j_iconst (v := 0) dX11_takeStep_24 (by decide) ?_
            refine j_iconst (v := 1) dX11_takeStep_25 (by decide) ?_
            refine j_callV (q := (RX11, TX11, 8)) dX11_takeStep_26 kX11_start lX11_76 inX11_start seX11_start h.m rfl (cm_start0 hl w _ _ h) (Nat.le_of_ble_eq_true rfl) ⟨(Nat.le_of_ble_eq_true rfl), (Nat.le_of_ble_eq_true rfl)⟩ rfl (Nat.le_of_ble_eq_true rfl) rfl rfl (fun _ _ h => h.elim) ?_
            rintro _ w3 ⟨rfl, fm3, h3⟩
            have R3 := R.th (k := 0)
            refine j_if_eq (tgt := 36) dX11_takeStep_29 (by decide) (fun c_29_57 => ?_) (fun c_29_57 => ?_)
            · refine j_aload_n dX11_takeStep_36 rfl rfl ?_
              refine j_callV (q := (RX11, TX11, 8)) dX11_takeStep_37 kX11_nine lX11_105 inX11_nine seX11_nine h3.m rfl (cm_nine hl w3 _ h3) (Nat.le_of_ble_eq_true rfl) ⟨(Nat.le_of_ble_eq_true rfl), (Nat.le_of_ble_eq_true rfl)⟩ rfl (Nat.le_of_ble_eq_true rfl) rfl rfl (fun _ _ h => h.elim) ?_
              rintro _ w4 ⟨rfl, fm4, h4⟩
              have R4 := R3.ni
              refine j_iret dX11_takeStep_40 rfl rfl ?_ (Nat.le_of_ble_eq_true rfl) (Nat.le_of_ble_eq_true rfl)
              refine cast (congrFun (congrFun hQ9 _) _) ?_
              refine ⟨_, _, rfl, ((fm3.le (q' := 59) (by decide)).tr (fm4.le (q' := 59) (by decide))), h4, sp_X0 ?_ rfl R4 rfl⟩
              (refine if_neg (fun z => q_ts.mp z ⟨q_nor ?_, q_nor ?_, ?_⟩) <;> assumption)
            · exact absurd c_29_57 (by decide)
          · refine j_iconst (v := 1) dX11_takeStep_20 (by decide) ?_
            refine j_goto (tgt := 25) dX11_takeStep_21 (by decide) ?_
            refine j_iconst (v := 1) dX11_takeStep_25 (by decide) ?_
            refine j_callV (q := (RX11, TX11, 8)) dX11_takeStep_26 kX11_start lX11_76 inX11_start seX11_start h.m rfl (cm_start1 hl w _ _ h (by decide)) (Nat.le_of_ble_eq_true rfl) ⟨(Nat.le_of_ble_eq_true rfl), (Nat.le_of_ble_eq_true rfl)⟩ rfl (Nat.le_of_ble_eq_true rfl) rfl rfl (fun _ _ h => h.elim) ?_
            rintro _ w5 ⟨rfl, fm5, h5⟩
            have R5 := R.th (k := 1)
            refine j_if_eq (tgt := 36) dX11_takeStep_29 (by decide) (fun c_29_73 => ?_) (fun c_29_73 => ?_)
            · exact absurd c_29_73 (by decide)
            · refine j_iconst (v := 0) dX11_takeStep_32 (by decide) ?_
              refine j_goto (tgt := 40) dX11_takeStep_33 (by decide) ?_
              refine j_iret dX11_takeStep_40 rfl rfl ?_ (Nat.le_of_ble_eq_true rfl) (Nat.le_of_ble_eq_true rfl)
              refine cast (congrFun (congrFun hQ9 _) _) ?_
              refine ⟨_, _, rfl, (fm5.le (q' := 59) (by decide)), h5, sp_X1 (k := 1) ?_ (by decide) rfl R5⟩
              (first | (refine if_pos (q_ts.mpr (fun z => q_inn z.1 ?_)); assumption) | (refine if_pos (q_ts.mpr (fun z => q_inn z.2.1 ?_)); assumption) | (refine if_pos (q_ts.mpr (fun z => (?_ : ¬ _) z.2.2)); assumption))
set_option maxRecDepth 100000 in
set_option maxHeartbeats 8000000 in
theorem cx_given (hl : l.stackTraces = false) (w : z_W) (S : sp_S) (s : z_Z) (r : Int32) (k : Int32) (y : Int32) (n : Int32) (h : z_mst w s) (R : sp_MR S s)  : z_Con G l mX11_given 20 0 0 w [.ref 1000, .int r, .int k, .int y, .int n] (fun v w9 => ∃ (r9 : Int32) (s9 : z_Z), v = some (.int r9) ∧ z_fm 59 w w9 ∧ z_mst w9 s9 ∧ s9.1.1 = q_k1 (sp_bk k ∨ (y < -1000 ∨ 999 < y) ∨ (r < 0 ∨ 5 < r) ∨ sp_bv n) ∧ sp_MR (if q_k1 (sp_bk k ∨ (y < -1000 ∨ 999 < y) ∨ (r < 0 ∨ 5 < r) ∨ sp_bv n) = 0 then S else S) s9 ∧ (q_k1 (sp_bk k ∨ (y < -1000 ∨ 999 < y) ∨ (r < 0 ∨ 5 < r) ∨ sp_bv n) = 0 → r9 = (q_rt r k (q_d y) n).getD (-9))) (fun _ _ => False) := by
  generalize hQ9 : (fun (v : Option Value) (w9 : z_W) => ∃ (r9 : Int32) (s9 : z_Z), v = some (.int r9) ∧ z_fm 59 w w9 ∧ z_mst w9 s9 ∧ s9.1.1 = q_k1 (sp_bk k ∨ (y < -1000 ∨ 999 < y) ∨ (r < 0 ∨ 5 < r) ∨ sp_bv n) ∧ sp_MR (if q_k1 (sp_bk k ∨ (y < -1000 ∨ 999 < y) ∨ (r < 0 ∨ 5 < r) ∨ sp_bv n) = 0 then S else S) s9 ∧ (q_k1 (sp_bk k ∨ (y < -1000 ∨ 999 < y) ∨ (r < 0 ∨ 5 < r) ∨ sp_bv n) = 0 → r9 = (q_rt r k (q_d y) n).getD (-9))) = Q9
  refine z_body hl (by decide) rfl (Nat.le_of_ble_eq_true rfl) ?_
  show z_J G l mX11_given _ 0 [(0, _), (1, _), (2, _), (3, _), (4, _)] [] _ 0 0
  refine j_aload_n dX11_given_0 rfl rfl ?_
  refine j_iload_n dX11_given_1 rfl ?_
  refine j_callS dX11_given_2 kX11_isNoKey lX11_139 stX11_isNoKey (cm_isNoKey_r hl w _) (Nat.le_of_ble_eq_true rfl) ⟨(Nat.le_of_ble_eq_true rfl), (Nat.le_of_ble_eq_true rfl)⟩ rfl (Nat.le_of_ble_eq_true rfl) rfl rfl (fun _ _ h => h.elim) ?_
  rintro _ _ ⟨⟨rfl, hno319⟩ | ⟨rfl, i319, hi319, ht319, rfl⟩, hw319⟩
  · refine j_w w hw319 ?_
    refine j_if_ne (tgt := 38) dX11_given_5 (by decide) (fun c_5_7 => ?_) (fun c_5_7 => ?_)
    · refine j_iconst (v := 1) dX11_given_38 (by decide) ?_
      refine j_goto (tgt := 43) dX11_given_39 (by decide) ?_
      refine j_iconst (v := 1) dX11_given_43 (by decide) ?_
      refine j_callV (q := (RX11, TX11, 8)) dX11_given_44 kX11_start lX11_76 inX11_start seX11_start h.m rfl (cm_start1 hl w _ _ h (by decide)) (Nat.le_of_ble_eq_true rfl) ⟨(Nat.le_of_ble_eq_true rfl), (Nat.le_of_ble_eq_true rfl)⟩ rfl (Nat.le_of_ble_eq_true rfl) rfl rfl (fun _ _ h => h.elim) ?_
      rintro _ w1 ⟨rfl, fm1, h1⟩
      have R1 := R.th (k := 1)
      refine j_if_eq (tgt := 52) dX11_given_47 (by decide) (fun c_47_14 => ?_) (fun c_47_14 => ?_)
      · exact absurd c_47_14 (by decide)
      · refine j_iconst (v := 0) dX11_given_50 (by decide) ?_
        refine j_iret dX11_given_51 rfl rfl ?_ (Nat.le_of_ble_eq_true rfl) (Nat.le_of_ble_eq_true rfl)
        refine cast (congrFun (congrFun hQ9 _) _) ?_
        refine ⟨_, _, rfl, (fm1.le (q' := 59) (by decide)), h1, sp_X1 (k := 1) ?_ (by decide) rfl R1⟩
        (first | (refine if_pos ?_ <;> (first | assumption | (refine Or.inl ?_; assumption) | (refine Or.inr ?_; assumption) | (refine Or.inr (Or.inl ?_); assumption) | (refine Or.inr (Or.inr ?_); assumption) | (refine Or.inr (Or.inr (Or.inl ?_)); assumption) | (refine Or.inr (Or.inr (Or.inr ?_)); assumption) | (refine fun z => Or.elim z ?_ ?_ <;> assumption) | (refine fun z => Or.elim z ?_ (fun z => Or.elim z ?_ ?_) <;> assumption) | (refine fun z => Or.elim z ?_ (fun z => Or.elim z ?_ (fun z => Or.elim z ?_ ?_)) <;> assumption) | (refine fun z => Or.elim z (fun z9 => z9 ?_) ?_ <;> (first | assumption | (refine Or.inl ?_; assumption) | (refine Or.inr (Or.inl ?_); assumption) | (refine Or.inr (Or.inr ?_); assumption) | (refine Or.inr (Or.inr (Or.inl ?_)); assumption) | (refine Or.inr (Or.inr (Or.inr ?_)); assumption))) | (refine Or.inl (fun z => Or.elim z ?_ (fun z => Or.elim z ?_ ?_)) <;> assumption) | (refine Or.inl (fun z => Or.elim z ?_ (fun z => Or.elim z ?_ (fun z => Or.elim z ?_ ?_))) <;> assumption))))
    · exact absurd c_5_7 (by decide)
  · refine j_w w hw319 ?_
    have ei319 : sp_i (nI i319) = i319 := sp_in' (by omega)
    refine j_if_ne (tgt := 38) dX11_given_5 (by decide) (fun c_5_24 => ?_) (fun c_5_24 => ?_)
    · exact absurd c_5_24 (by decide)
    · refine j_iload_n dX11_given_8 rfl ?_
      refine j_sipush (v := (-1000)) dX11_given_9 (by decide) ?_
      refine j_sipush (v := 999) dX11_given_12 (by decide) ?_
      refine j_callS dX11_given_15 kX11_isIn lX11_59 stX11_isIn (cm_isIn_r hl w _ (-1000) (999)) (Nat.le_of_ble_eq_true rfl) ⟨(Nat.le_of_ble_eq_true rfl), (Nat.le_of_ble_eq_true rfl)⟩ rfl (Nat.le_of_ble_eq_true rfl) rfl rfl (fun _ _ h => h.elim) ?_
      rintro _ _ ⟨⟨rfl, hye320⟩ | ⟨rfl, hno320⟩, hw320⟩
      · refine j_w w hw320 ?_
        refine j_if_eq (tgt := 38) dX11_given_18 (by decide) (fun c_18_32 => ?_) (fun c_18_32 => ?_)
        · exact absurd c_18_32 (by decide)
        · refine j_iload_n dX11_given_21 rfl ?_
          refine j_iconst (v := 0) dX11_given_22 (by decide) ?_
          refine j_iconst (v := 5) dX11_given_23 (by decide) ?_
          refine j_callS dX11_given_24 kX11_isIn lX11_59 stX11_isIn (cm_isIn_r hl w _ (0) (5)) (Nat.le_of_ble_eq_true rfl) ⟨(Nat.le_of_ble_eq_true rfl), (Nat.le_of_ble_eq_true rfl)⟩ rfl (Nat.le_of_ble_eq_true rfl) rfl rfl (fun _ _ h => h.elim) ?_
          rintro _ _ ⟨⟨rfl, hye321⟩ | ⟨rfl, hno321⟩, hw321⟩
          · refine j_w w hw321 ?_
            refine j_if_eq (tgt := 38) dX11_given_27 (by decide) (fun c_27_40 => ?_) (fun c_27_40 => ?_)
            · exact absurd c_27_40 (by decide)
            · refine j_iload dX11_given_30 rfl ?_
              refine j_callS dX11_given_32 kX11_isNoValue lX11_79 stX11_isNoValue (cm_isNoValue_r hl w _) (Nat.le_of_ble_eq_true rfl) ⟨(Nat.le_of_ble_eq_true rfl), (Nat.le_of_ble_eq_true rfl)⟩ rfl (Nat.le_of_ble_eq_true rfl) rfl rfl (fun _ _ h => h.elim) ?_
              rintro _ _ ⟨⟨rfl, hno322⟩ | ⟨rfl, hye322⟩, hw322⟩
              · refine j_w w hw322 ?_
                refine j_if_eq (tgt := 42) dX11_given_35 (by decide) (fun c_35_46 => ?_) (fun c_35_46 => ?_)
                · exact absurd c_35_46 (by decide)
                · refine j_iconst (v := 1) dX11_given_38 (by decide) ?_
                  refine j_goto (tgt := 43) dX11_given_39 (by decide) ?_
                  refine j_iconst (v := 1) dX11_given_43 (by decide) ?_
                  refine j_callV (q := (RX11, TX11, 8)) dX11_given_44 kX11_start lX11_76 inX11_start seX11_start h.m rfl (cm_start1 hl w _ _ h (by decide)) (Nat.le_of_ble_eq_true rfl) ⟨(Nat.le_of_ble_eq_true rfl), (Nat.le_of_ble_eq_true rfl)⟩ rfl (Nat.le_of_ble_eq_true rfl) rfl rfl (fun _ _ h => h.elim) ?_
                  rintro _ w2 ⟨rfl, fm2, h2⟩
                  have R2 := R.th (k := 1)
                  refine j_if_eq (tgt := 52) dX11_given_47 (by decide) (fun c_47_54 => ?_) (fun c_47_54 => ?_)
                  · exact absurd c_47_54 (by decide)
                  · refine j_iconst (v := 0) dX11_given_50 (by decide) ?_
                    refine j_iret dX11_given_51 rfl rfl ?_ (Nat.le_of_ble_eq_true rfl) (Nat.le_of_ble_eq_true rfl)
                    refine cast (congrFun (congrFun hQ9 _) _) ?_
                    try rw [ei319]
                    refine ⟨_, _, rfl, (fm2.le (q' := 59) (by decide)), h2, sp_X1 (k := 1) ?_ (by decide) rfl R2⟩
                    (first | (refine if_pos ?_ <;> (first | assumption | (refine Or.inl ?_; assumption) | (refine Or.inr ?_; assumption) | (refine Or.inr (Or.inl ?_); assumption) | (refine Or.inr (Or.inr ?_); assumption) | (refine Or.inr (Or.inr (Or.inl ?_)); assumption) | (refine Or.inr (Or.inr (Or.inr ?_)); assumption) | (refine fun z => Or.elim z ?_ ?_ <;> assumption) | (refine fun z => Or.elim z ?_ (fun z => Or.elim z ?_ ?_) <;> assumption) | (refine fun z => Or.elim z ?_ (fun z => Or.elim z ?_ (fun z => Or.elim z ?_ ?_)) <;> assumption) | (refine fun z => Or.elim z (fun z9 => z9 ?_) ?_ <;> (first | assumption | (refine Or.inl ?_; assumption) | (refine Or.inr (Or.inl ?_); assumption) | (refine Or.inr (Or.inr ?_); assumption) | (refine Or.inr (Or.inr (Or.inl ?_)); assumption) | (refine Or.inr (Or.inr (Or.inr ?_)); assumption))) | (refine Or.inl (fun z => Or.elim z ?_ (fun z => Or.elim z ?_ ?_)) <;> assumption) | (refine Or.inl (fun z => Or.elim z ?_ (fun z => Or.elim z ?_ (fun z => Or.elim z ?_ ?_))) <;> assumption))))
              · refine j_w w hw322 ?_
                refine j_if_eq (tgt := 42) dX11_given_35 (by decide) (fun c_35_63 => ?_) (fun c_35_63 => ?_)
                · refine j_iconst (v := 0) dX11_given_42 (by decide) ?_
                  refine j_iconst (v := 1) dX11_given_43 (by decide) ?_
                  refine j_callV (q := (RX11, TX11, 8)) dX11_given_44 kX11_start lX11_76 inX11_start seX11_start h.m rfl (cm_start0 hl w _ _ h) (Nat.le_of_ble_eq_true rfl) ⟨(Nat.le_of_ble_eq_true rfl), (Nat.le_of_ble_eq_true rfl)⟩ rfl (Nat.le_of_ble_eq_true rfl) rfl rfl (fun _ _ h => h.elim) ?_
                  rintro _ w3 ⟨rfl, fm3, h3⟩
                  have R3 := R.th (k := 0)
                  refine j_if_eq (tgt := 52) dX11_given_47 (by decide) (fun c_47_69 => ?_) (fun c_47_69 => ?_)
                  · refine j_iload_n dX11_given_52 rfl ?_
                    refine j_iload_n dX11_given_53 rfl ?_
                    refine j_iload_n dX11_given_54 rfl ?_
                    refine j_sipush (v := (-1000)) dX11_given_55 (by decide) ?_
                    refine j_icmp_ne (tgt := 65) dX11_given_58 (by decide) (fun c_58_74 => ?_) (fun c_58_74 => ?_)
                    · refine j_iload_n dX11_given_65 rfl ?_
                      refine j_iload dX11_given_66 rfl ?_
                      refine j_callS dX11_given_68 kX11_rule lX11_115 stX11_rule (cm_rule_r hl w3 _ _ _ _ (q_nor (by assumption)).2 (sp_vl (by assumption)).2) (Nat.le_of_ble_eq_true rfl) ⟨(Nat.le_of_ble_eq_true rfl), (Nat.le_of_ble_eq_true rfl)⟩ rfl (Nat.le_of_ble_eq_true rfl) rfl rfl (fun _ _ h => h.elim) ?_
                      rintro _ _ ⟨⟨rfl, hq323⟩ | ⟨y323, rfl, hq323, hne323⟩, hw323⟩
                      · refine j_w w3 hw323 ?_
                        refine j_istore (lo' := [(5, _), (0, _), (1, _), (2, _), (3, _), (4, _)]) dX11_given_71 (by decide) rfl ?_
                        refine j_iload dX11_given_73 rfl ?_
                        refine j_ldc dX11_given_75 kcX11_67 ?_
                        refine j_icmp_ne (tgt := 85) dX11_given_77 (by decide) (fun c_77_83 => ?_) (fun c_77_83 => ?_)
                        · exact absurd c_77_83 (by decide)
                        · refine j_bipush (v := (-9)) dX11_given_80 (by decide) ?_
                          refine j_goto (tgt := 87) dX11_given_82 (by decide) ?_
                          refine j_iret dX11_given_87 rfl rfl ?_ (Nat.le_of_ble_eq_true rfl) (Nat.le_of_ble_eq_true rfl)
                          refine cast (congrFun (congrFun hQ9 _) _) ?_
                          try rw [ei319]
                          refine ⟨_, _, rfl, (fm3.le (q' := 59) (by decide)), h3, sp_X0 ?_ rfl R3 (by rw [show q_d y = _ from (if_neg c_58_74), hq323]; rfl)⟩
                          (first | (refine if_neg ?_ <;> (first | assumption | (refine Or.inl ?_; assumption) | (refine Or.inr ?_; assumption) | (refine Or.inr (Or.inl ?_); assumption) | (refine Or.inr (Or.inr ?_); assumption) | (refine Or.inr (Or.inr (Or.inl ?_)); assumption) | (refine Or.inr (Or.inr (Or.inr ?_)); assumption) | (refine fun z => Or.elim z ?_ ?_ <;> assumption) | (refine fun z => Or.elim z ?_ (fun z => Or.elim z ?_ ?_) <;> assumption) | (refine fun z => Or.elim z ?_ (fun z => Or.elim z ?_ (fun z => Or.elim z ?_ ?_)) <;> assumption) | (refine fun z => Or.elim z (fun z9 => z9 ?_) ?_ <;> (first | assumption | (refine Or.inl ?_; assumption) | (refine Or.inr (Or.inl ?_); assumption) | (refine Or.inr (Or.inr ?_); assumption) | (refine Or.inr (Or.inr (Or.inl ?_)); assumption) | (refine Or.inr (Or.inr (Or.inr ?_)); assumption))) | (refine Or.inl (fun z => Or.elim z ?_ (fun z => Or.elim z ?_ ?_)) <;> assumption) | (refine Or.inl (fun z => Or.elim z ?_ (fun z => Or.elim z ?_ (fun z => Or.elim z ?_ ?_))) <;> assumption))))
                      · refine j_w w3 hw323 ?_
                        refine j_istore (lo' := [(5, _), (0, _), (1, _), (2, _), (3, _), (4, _)]) dX11_given_71 (by decide) rfl ?_
                        refine j_iload dX11_given_73 rfl ?_
                        refine j_ldc dX11_given_75 kcX11_67 ?_
                        refine j_icmp_ne (tgt := 85) dX11_given_77 (by decide) (fun c_77_96 => ?_) (fun c_77_96 => ?_)
                        · refine j_iload dX11_given_85 rfl ?_
                          refine j_iret dX11_given_87 rfl rfl ?_ (Nat.le_of_ble_eq_true rfl) (Nat.le_of_ble_eq_true rfl)
                          refine cast (congrFun (congrFun hQ9 _) _) ?_
                          try rw [ei319]
                          refine ⟨_, _, rfl, (fm3.le (q' := 59) (by decide)), h3, sp_X0 ?_ rfl R3 (by rw [show q_d y = _ from (if_neg c_58_74), hq323]; rfl)⟩
                          (first | (refine if_neg ?_ <;> (first | assumption | (refine Or.inl ?_; assumption) | (refine Or.inr ?_; assumption) | (refine Or.inr (Or.inl ?_); assumption) | (refine Or.inr (Or.inr ?_); assumption) | (refine Or.inr (Or.inr (Or.inl ?_)); assumption) | (refine Or.inr (Or.inr (Or.inr ?_)); assumption) | (refine fun z => Or.elim z ?_ ?_ <;> assumption) | (refine fun z => Or.elim z ?_ (fun z => Or.elim z ?_ ?_) <;> assumption) | (refine fun z => Or.elim z ?_ (fun z => Or.elim z ?_ (fun z => Or.elim z ?_ ?_)) <;> assumption) | (refine fun z => Or.elim z (fun z9 => z9 ?_) ?_ <;> (first | assumption | (refine Or.inl ?_; assumption) | (refine Or.inr (Or.inl ?_); assumption) | (refine Or.inr (Or.inr ?_); assumption) | (refine Or.inr (Or.inr (Or.inl ?_)); assumption) | (refine Or.inr (Or.inr (Or.inr ?_)); assumption))) | (refine Or.inl (fun z => Or.elim z ?_ (fun z => Or.elim z ?_ ?_)) <;> assumption) | (refine Or.inl (fun z => Or.elim z ?_ (fun z => Or.elim z ?_ (fun z => Or.elim z ?_ ?_))) <;> assumption))))
                        · exact absurd c_77_96 hne323
                    · refine j_iconst (v := 0) dX11_given_61 (by decide) ?_
                      refine j_goto (tgt := 66) dX11_given_62 (by decide) ?_
                      refine j_iload dX11_given_66 rfl ?_
                      refine j_callS dX11_given_68 kX11_rule lX11_115 stX11_rule (cm_rule_r hl w3 _ _ _ _ (by decide) (sp_vl (by assumption)).2) (Nat.le_of_ble_eq_true rfl) ⟨(Nat.le_of_ble_eq_true rfl), (Nat.le_of_ble_eq_true rfl)⟩ rfl (Nat.le_of_ble_eq_true rfl) rfl rfl (fun _ _ h => h.elim) ?_
                      rintro _ _ ⟨⟨rfl, hq324⟩ | ⟨y324, rfl, hq324, hne324⟩, hw324⟩
                      · refine j_w w3 hw324 ?_
                        refine j_istore (lo' := [(5, _), (0, _), (1, _), (2, _), (3, _), (4, _)]) dX11_given_71 (by decide) rfl ?_
                        refine j_iload dX11_given_73 rfl ?_
                        refine j_ldc dX11_given_75 kcX11_67 ?_
                        refine j_icmp_ne (tgt := 85) dX11_given_77 (by decide) (fun c_77_113 => ?_) (fun c_77_113 => ?_)
                        · exact absurd c_77_113 (by decide)
                        · refine j_bipush (v := (-9)) dX11_given_80 (by decide) ?_
                          refine j_goto (tgt := 87) dX11_given_82 (by decide) ?_
                          refine j_iret dX11_given_87 rfl rfl ?_ (Nat.le_of_ble_eq_true rfl) (Nat.le_of_ble_eq_true rfl)
                          refine cast (congrFun (congrFun hQ9 _) _) ?_
                          try rw [ei319]
                          refine ⟨_, _, rfl, (fm3.le (q' := 59) (by decide)), h3, sp_X0 ?_ rfl R3 (by rw [show q_d y = _ from (if_pos c_58_74), hq324]; rfl)⟩
                          (first | (refine if_neg ?_ <;> (first | assumption | (refine Or.inl ?_; assumption) | (refine Or.inr ?_; assumption) | (refine Or.inr (Or.inl ?_); assumption) | (refine Or.inr (Or.inr ?_); assumption) | (refine Or.inr (Or.inr (Or.inl ?_)); assumption) | (refine Or.inr (Or.inr (Or.inr ?_)); assumption) | (refine fun z => Or.elim z ?_ ?_ <;> assumption) | (refine fun z => Or.elim z ?_ (fun z => Or.elim z ?_ ?_) <;> assumption) | (refine fun z => Or.elim z ?_ (fun z => Or.elim z ?_ (fun z => Or.elim z ?_ ?_)) <;> assumption) | (refine fun z => Or.elim z (fun z9 => z9 ?_) ?_ <;> (first | assumption | (refine Or.inl ?_; assumption) | (refine Or.inr (Or.inl ?_); assumption) | (refine Or.inr (Or.inr ?_); assumption) | (refine Or.inr (Or.inr (Or.inl ?_)); assumption) | (refine Or.inr (Or.inr (Or.inr ?_)); assumption))) | (refine Or.inl (fun z => Or.elim z ?_ (fun z => Or.elim z ?_ ?_)) <;> assumption) | (refine Or.inl (fun z => Or.elim z ?_ (fun z => Or.elim z ?_ (fun z => Or.elim z ?_ ?_))) <;> assumption))))
                      · refine j_w w3 hw324 ?_
                        refine j_istore (lo' := [(5, _), (0, _), (1, _), (2, _), (3, _), (4, _)]) dX11_given_71 (by decide) rfl ?_
                        refine j_iload dX11_given_73 rfl ?_
                        refine j_ldc dX11_given_75 kcX11_67 ?_
                        refine j_icmp_ne (tgt := 85) dX11_given_77 (by decide) (fun c_77_126 => ?_) (fun c_77_126 => ?_)
                        · refine j_iload dX11_given_85 rfl ?_
                          refine j_iret dX11_given_87 rfl rfl ?_ (Nat.le_of_ble_eq_true rfl) (Nat.le_of_ble_eq_true rfl)
                          refine cast (congrFun (congrFun hQ9 _) _) ?_
                          try rw [ei319]
                          refine ⟨_, _, rfl, (fm3.le (q' := 59) (by decide)), h3, sp_X0 ?_ rfl R3 (by rw [show q_d y = _ from (if_pos c_58_74), hq324]; rfl)⟩
                          (first | (refine if_neg ?_ <;> (first | assumption | (refine Or.inl ?_; assumption) | (refine Or.inr ?_; assumption) | (refine Or.inr (Or.inl ?_); assumption) | (refine Or.inr (Or.inr ?_); assumption) | (refine Or.inr (Or.inr (Or.inl ?_)); assumption) | (refine Or.inr (Or.inr (Or.inr ?_)); assumption) | (refine fun z => Or.elim z ?_ ?_ <;> assumption) | (refine fun z => Or.elim z ?_ (fun z => Or.elim z ?_ ?_) <;> assumption) | (refine fun z => Or.elim z ?_ (fun z => Or.elim z ?_ (fun z => Or.elim z ?_ ?_)) <;> assumption) | (refine fun z => Or.elim z (fun z9 => z9 ?_) ?_ <;> (first | assumption | (refine Or.inl ?_; assumption) | (refine Or.inr (Or.inl ?_); assumption) | (refine Or.inr (Or.inr ?_); assumption) | (refine Or.inr (Or.inr (Or.inl ?_)); assumption) | (refine Or.inr (Or.inr (Or.inr ?_)); assumption))) | (refine Or.inl (fun z => Or.elim z ?_ (fun z => Or.elim z ?_ ?_)) <;> assumption) | (refine Or.inl (fun z => Or.elim z ?_ (fun z => Or.elim z ?_ (fun z => Or.elim z ?_ ?_))) <;> assumption))))
                        · exact absurd c_77_126 hne324
                  · exact absurd c_47_69 (by decide)
                · exact absurd c_35_63 (by decide)
          · refine j_w w hw321 ?_
            refine j_if_eq (tgt := 38) dX11_given_27 (by decide) (fun c_27_137 => ?_) (fun c_27_137 => ?_)
            · refine j_iconst (v := 1) dX11_given_38 (by decide) ?_
              refine j_goto (tgt := 43) dX11_given_39 (by decide) ?_
              refine j_iconst (v := 1) dX11_given_43 (by decide) ?_
              refine j_callV (q := (RX11, TX11, 8)) dX11_given_44 kX11_start lX11_76 inX11_start seX11_start h.m rfl (cm_start1 hl w _ _ h (by decide)) (Nat.le_of_ble_eq_true rfl) ⟨(Nat.le_of_ble_eq_true rfl), (Nat.le_of_ble_eq_true rfl)⟩ rfl (Nat.le_of_ble_eq_true rfl) rfl rfl (fun _ _ h => h.elim) ?_
              rintro _ w4 ⟨rfl, fm4, h4⟩
              have R4 := R.th (k := 1)
              refine j_if_eq (tgt := 52) dX11_given_47 (by decide) (fun c_47_144 => ?_) (fun c_47_144 => ?_)
              · exact absurd c_47_144 (by decide)
              · refine j_iconst (v := 0) dX11_given_50 (by decide) ?_
                refine j_iret dX11_given_51 rfl rfl ?_ (Nat.le_of_ble_eq_true rfl) (Nat.le_of_ble_eq_true rfl)
                refine cast (congrFun (congrFun hQ9 _) _) ?_
                try rw [ei319]
                refine ⟨_, _, rfl, (fm4.le (q' := 59) (by decide)), h4, sp_X1 (k := 1) ?_ (by decide) rfl R4⟩
                (first | (refine if_pos ?_ <;> (first | assumption | (refine Or.inl ?_; assumption) | (refine Or.inr ?_; assumption) | (refine Or.inr (Or.inl ?_); assumption) | (refine Or.inr (Or.inr ?_); assumption) | (refine Or.inr (Or.inr (Or.inl ?_)); assumption) | (refine Or.inr (Or.inr (Or.inr ?_)); assumption) | (refine fun z => Or.elim z ?_ ?_ <;> assumption) | (refine fun z => Or.elim z ?_ (fun z => Or.elim z ?_ ?_) <;> assumption) | (refine fun z => Or.elim z ?_ (fun z => Or.elim z ?_ (fun z => Or.elim z ?_ ?_)) <;> assumption) | (refine fun z => Or.elim z (fun z9 => z9 ?_) ?_ <;> (first | assumption | (refine Or.inl ?_; assumption) | (refine Or.inr (Or.inl ?_); assumption) | (refine Or.inr (Or.inr ?_); assumption) | (refine Or.inr (Or.inr (Or.inl ?_)); assumption) | (refine Or.inr (Or.inr (Or.inr ?_)); assumption))) | (refine Or.inl (fun z => Or.elim z ?_ (fun z => Or.elim z ?_ ?_)) <;> assumption) | (refine Or.inl (fun z => Or.elim z ?_ (fun z => Or.elim z ?_ (fun z => Or.elim z ?_ ?_))) <;> assumption))))
            · exact absurd c_27_137 (by decide)
      · refine j_w w hw320 ?_
        refine j_if_eq (tgt := 38) dX11_given_18 (by decide) (fun c_18_154 => ?_) (fun c_18_154 => ?_)
        · refine j_iconst (v := 1) dX11_given_38 (by decide) ?_
          refine j_goto (tgt := 43) dX11_given_39 (by decide) ?_
          refine j_iconst (v := 1) dX11_given_43 (by decide) ?_
          refine j_callV (q := (RX11, TX11, 8)) dX11_given_44 kX11_start lX11_76 inX11_start seX11_start h.m rfl (cm_start1 hl w _ _ h (by decide)) (Nat.le_of_ble_eq_true rfl) ⟨(Nat.le_of_ble_eq_true rfl), (Nat.le_of_ble_eq_true rfl)⟩ rfl (Nat.le_of_ble_eq_true rfl) rfl rfl (fun _ _ h => h.elim) ?_
          rintro _ w5 ⟨rfl, fm5, h5⟩
          have R5 := R.th (k := 1)
          refine j_if_eq (tgt := 52) dX11_given_47 (by decide) (fun c_47_161 => ?_) (fun c_47_161 => ?_)
          · exact absurd c_47_161 (by decide)
          · refine j_iconst (v := 0) dX11_given_50 (by decide) ?_
            refine j_iret dX11_given_51 rfl rfl ?_ (Nat.le_of_ble_eq_true rfl) (Nat.le_of_ble_eq_true rfl)
            refine cast (congrFun (congrFun hQ9 _) _) ?_
            try rw [ei319]
            refine ⟨_, _, rfl, (fm5.le (q' := 59) (by decide)), h5, sp_X1 (k := 1) ?_ (by decide) rfl R5⟩
            (first | (refine if_pos ?_ <;> (first | assumption | (refine Or.inl ?_; assumption) | (refine Or.inr ?_; assumption) | (refine Or.inr (Or.inl ?_); assumption) | (refine Or.inr (Or.inr ?_); assumption) | (refine Or.inr (Or.inr (Or.inl ?_)); assumption) | (refine Or.inr (Or.inr (Or.inr ?_)); assumption) | (refine fun z => Or.elim z ?_ ?_ <;> assumption) | (refine fun z => Or.elim z ?_ (fun z => Or.elim z ?_ ?_) <;> assumption) | (refine fun z => Or.elim z ?_ (fun z => Or.elim z ?_ (fun z => Or.elim z ?_ ?_)) <;> assumption) | (refine fun z => Or.elim z (fun z9 => z9 ?_) ?_ <;> (first | assumption | (refine Or.inl ?_; assumption) | (refine Or.inr (Or.inl ?_); assumption) | (refine Or.inr (Or.inr ?_); assumption) | (refine Or.inr (Or.inr (Or.inl ?_)); assumption) | (refine Or.inr (Or.inr (Or.inr ?_)); assumption))) | (refine Or.inl (fun z => Or.elim z ?_ (fun z => Or.elim z ?_ ?_)) <;> assumption) | (refine Or.inl (fun z => Or.elim z ?_ (fun z => Or.elim z ?_ (fun z => Or.elim z ?_ ?_))) <;> assumption))))
        · exact absurd c_18_154 (by decide)
set_option maxRecDepth 100000 in
set_option maxHeartbeats 8000000 in
theorem cx_tested (hl : l.stackTraces = false) (w : z_W) (S : sp_S) (s : z_Z) (t : Int32) (y : Int32) (n : Int32) (h : z_mst w s) (R : sp_MR S s)  : z_Con G l mX11_tested 20 0 0 w [.ref 1000, .int t, .int y, .int n] (fun v w9 => ∃ (r9 : Int32) (s9 : z_Z), v = some (.int r9) ∧ z_fm 59 w w9 ∧ z_mst w9 s9 ∧ s9.1.1 = q_k1 ((t < 0 ∨ 5 < t) ∨ sp_bv y ∨ sp_bv n) ∧ sp_MR (if q_k1 ((t < 0 ∨ 5 < t) ∨ sp_bv y ∨ sp_bv n) = 0 then S else S) s9 ∧ (q_k1 ((t < 0 ∨ 5 < t) ∨ sp_bv y ∨ sp_bv n) = 0 → r9 = (q_tt t y n).getD (-9))) (fun _ _ => False) := by
  generalize hQ9 : (fun (v : Option Value) (w9 : z_W) => ∃ (r9 : Int32) (s9 : z_Z), v = some (.int r9) ∧ z_fm 59 w w9 ∧ z_mst w9 s9 ∧ s9.1.1 = q_k1 ((t < 0 ∨ 5 < t) ∨ sp_bv y ∨ sp_bv n) ∧ sp_MR (if q_k1 ((t < 0 ∨ 5 < t) ∨ sp_bv y ∨ sp_bv n) = 0 then S else S) s9 ∧ (q_k1 ((t < 0 ∨ 5 < t) ∨ sp_bv y ∨ sp_bv n) = 0 → r9 = (q_tt t y n).getD (-9))) = Q9
  refine z_body hl (by decide) rfl (Nat.le_of_ble_eq_true rfl) ?_
  show z_J G l mX11_tested _ 0 [(0, _), (1, _), (2, _), (3, _)] [] _ 0 0
  refine j_aload_n dX11_tested_0 rfl rfl ?_
  refine j_iload_n dX11_tested_1 rfl ?_
  refine j_iconst (v := 0) dX11_tested_2 (by decide) ?_
  refine j_iconst (v := 5) dX11_tested_3 (by decide) ?_
  refine j_callS dX11_tested_4 kX11_isIn lX11_59 stX11_isIn (cm_isIn_r hl w _ (0) (5)) (Nat.le_of_ble_eq_true rfl) ⟨(Nat.le_of_ble_eq_true rfl), (Nat.le_of_ble_eq_true rfl)⟩ rfl (Nat.le_of_ble_eq_true rfl) rfl rfl (fun _ _ h => h.elim) ?_
  rintro _ _ ⟨⟨rfl, hye325⟩ | ⟨rfl, hno325⟩, hw325⟩
  · refine j_w w hw325 ?_
    refine j_if_eq (tgt := 24) dX11_tested_7 (by decide) (fun c_7_9 => ?_) (fun c_7_9 => ?_)
    · exact absurd c_7_9 (by decide)
    · refine j_iload_n dX11_tested_10 rfl ?_
      refine j_callS dX11_tested_11 kX11_isNoValue lX11_79 stX11_isNoValue (cm_isNoValue_r hl w _) (Nat.le_of_ble_eq_true rfl) ⟨(Nat.le_of_ble_eq_true rfl), (Nat.le_of_ble_eq_true rfl)⟩ rfl (Nat.le_of_ble_eq_true rfl) rfl rfl (fun _ _ h => h.elim) ?_
      rintro _ _ ⟨⟨rfl, hno326⟩ | ⟨rfl, hye326⟩, hw326⟩
      · refine j_w w hw326 ?_
        refine j_if_ne (tgt := 24) dX11_tested_14 (by decide) (fun c_14_15 => ?_) (fun c_14_15 => ?_)
        · refine j_iconst (v := 1) dX11_tested_24 (by decide) ?_
          refine j_goto (tgt := 29) dX11_tested_25 (by decide) ?_
          refine j_iconst (v := 1) dX11_tested_29 (by decide) ?_
          refine j_callV (q := (RX11, TX11, 8)) dX11_tested_30 kX11_start lX11_76 inX11_start seX11_start h.m rfl (cm_start1 hl w _ _ h (by decide)) (Nat.le_of_ble_eq_true rfl) ⟨(Nat.le_of_ble_eq_true rfl), (Nat.le_of_ble_eq_true rfl)⟩ rfl (Nat.le_of_ble_eq_true rfl) rfl rfl (fun _ _ h => h.elim) ?_
          rintro _ w1 ⟨rfl, fm1, h1⟩
          have R1 := R.th (k := 1)
          refine j_if_eq (tgt := 38) dX11_tested_33 (by decide) (fun c_33_22 => ?_) (fun c_33_22 => ?_)
          · exact absurd c_33_22 (by decide)
          · refine j_iconst (v := 0) dX11_tested_36 (by decide) ?_
            refine j_iret dX11_tested_37 rfl rfl ?_ (Nat.le_of_ble_eq_true rfl) (Nat.le_of_ble_eq_true rfl)
            refine cast (congrFun (congrFun hQ9 _) _) ?_
            refine ⟨_, _, rfl, (fm1.le (q' := 59) (by decide)), h1, sp_X1 (k := 1) ?_ (by decide) rfl R1⟩
            (first | (refine if_pos ?_ <;> (first | assumption | (refine Or.inl ?_; assumption) | (refine Or.inr ?_; assumption) | (refine Or.inr (Or.inl ?_); assumption) | (refine Or.inr (Or.inr ?_); assumption) | (refine Or.inr (Or.inr (Or.inl ?_)); assumption) | (refine Or.inr (Or.inr (Or.inr ?_)); assumption) | (refine fun z => Or.elim z ?_ ?_ <;> assumption) | (refine fun z => Or.elim z ?_ (fun z => Or.elim z ?_ ?_) <;> assumption) | (refine fun z => Or.elim z ?_ (fun z => Or.elim z ?_ (fun z => Or.elim z ?_ ?_)) <;> assumption) | (refine fun z => Or.elim z (fun z9 => z9 ?_) ?_ <;> (first | assumption | (refine Or.inl ?_; assumption) | (refine Or.inr (Or.inl ?_); assumption) | (refine Or.inr (Or.inr ?_); assumption) | (refine Or.inr (Or.inr (Or.inl ?_)); assumption) | (refine Or.inr (Or.inr (Or.inr ?_)); assumption))) | (refine Or.inl (fun z => Or.elim z ?_ (fun z => Or.elim z ?_ ?_)) <;> assumption) | (refine Or.inl (fun z => Or.elim z ?_ (fun z => Or.elim z ?_ (fun z => Or.elim z ?_ ?_))) <;> assumption))))
        · exact absurd c_14_15 (by decide)
      · refine j_w w hw326 ?_
        refine j_if_ne (tgt := 24) dX11_tested_14 (by decide) (fun c_14_31 => ?_) (fun c_14_31 => ?_)
        · exact absurd c_14_31 (by decide)
        · refine j_iload_n dX11_tested_17 rfl ?_
          refine j_callS dX11_tested_18 kX11_isNoValue lX11_79 stX11_isNoValue (cm_isNoValue_r hl w _) (Nat.le_of_ble_eq_true rfl) ⟨(Nat.le_of_ble_eq_true rfl), (Nat.le_of_ble_eq_true rfl)⟩ rfl (Nat.le_of_ble_eq_true rfl) rfl rfl (fun _ _ h => h.elim) ?_
          rintro _ _ ⟨⟨rfl, hno327⟩ | ⟨rfl, hye327⟩, hw327⟩
          · refine j_w w hw327 ?_
            refine j_if_eq (tgt := 28) dX11_tested_21 (by decide) (fun c_21_37 => ?_) (fun c_21_37 => ?_)
            · exact absurd c_21_37 (by decide)
            · refine j_iconst (v := 1) dX11_tested_24 (by decide) ?_
              refine j_goto (tgt := 29) dX11_tested_25 (by decide) ?_
              refine j_iconst (v := 1) dX11_tested_29 (by decide) ?_
              refine j_callV (q := (RX11, TX11, 8)) dX11_tested_30 kX11_start lX11_76 inX11_start seX11_start h.m rfl (cm_start1 hl w _ _ h (by decide)) (Nat.le_of_ble_eq_true rfl) ⟨(Nat.le_of_ble_eq_true rfl), (Nat.le_of_ble_eq_true rfl)⟩ rfl (Nat.le_of_ble_eq_true rfl) rfl rfl (fun _ _ h => h.elim) ?_
              rintro _ w2 ⟨rfl, fm2, h2⟩
              have R2 := R.th (k := 1)
              refine j_if_eq (tgt := 38) dX11_tested_33 (by decide) (fun c_33_45 => ?_) (fun c_33_45 => ?_)
              · exact absurd c_33_45 (by decide)
              · refine j_iconst (v := 0) dX11_tested_36 (by decide) ?_
                refine j_iret dX11_tested_37 rfl rfl ?_ (Nat.le_of_ble_eq_true rfl) (Nat.le_of_ble_eq_true rfl)
                refine cast (congrFun (congrFun hQ9 _) _) ?_
                refine ⟨_, _, rfl, (fm2.le (q' := 59) (by decide)), h2, sp_X1 (k := 1) ?_ (by decide) rfl R2⟩
                (first | (refine if_pos ?_ <;> (first | assumption | (refine Or.inl ?_; assumption) | (refine Or.inr ?_; assumption) | (refine Or.inr (Or.inl ?_); assumption) | (refine Or.inr (Or.inr ?_); assumption) | (refine Or.inr (Or.inr (Or.inl ?_)); assumption) | (refine Or.inr (Or.inr (Or.inr ?_)); assumption) | (refine fun z => Or.elim z ?_ ?_ <;> assumption) | (refine fun z => Or.elim z ?_ (fun z => Or.elim z ?_ ?_) <;> assumption) | (refine fun z => Or.elim z ?_ (fun z => Or.elim z ?_ (fun z => Or.elim z ?_ ?_)) <;> assumption) | (refine fun z => Or.elim z (fun z9 => z9 ?_) ?_ <;> (first | assumption | (refine Or.inl ?_; assumption) | (refine Or.inr (Or.inl ?_); assumption) | (refine Or.inr (Or.inr ?_); assumption) | (refine Or.inr (Or.inr (Or.inl ?_)); assumption) | (refine Or.inr (Or.inr (Or.inr ?_)); assumption))) | (refine Or.inl (fun z => Or.elim z ?_ (fun z => Or.elim z ?_ ?_)) <;> assumption) | (refine Or.inl (fun z => Or.elim z ?_ (fun z => Or.elim z ?_ (fun z => Or.elim z ?_ ?_))) <;> assumption))))
          · refine j_w w hw327 ?_
            refine j_if_eq (tgt := 28) dX11_tested_21 (by decide) (fun c_21_53 => ?_) (fun c_21_53 => ?_)
            · refine j_iconst (v := 0) dX11_tested_28 (by decide) ?_
              refine j_iconst (v := 1) dX11_tested_29 (by decide) ?_
              refine j_callV (q := (RX11, TX11, 8)) dX11_tested_30 kX11_start lX11_76 inX11_start seX11_start h.m rfl (cm_start0 hl w _ _ h) (Nat.le_of_ble_eq_true rfl) ⟨(Nat.le_of_ble_eq_true rfl), (Nat.le_of_ble_eq_true rfl)⟩ rfl (Nat.le_of_ble_eq_true rfl) rfl rfl (fun _ _ h => h.elim) ?_
              rintro _ w3 ⟨rfl, fm3, h3⟩
              have R3 := R.th (k := 0)
              refine j_if_eq (tgt := 38) dX11_tested_33 (by decide) (fun c_33_59 => ?_) (fun c_33_59 => ?_)
              · refine j_iload_n dX11_tested_38 rfl ?_
                refine j_iload_n dX11_tested_39 rfl ?_
                refine j_iload_n dX11_tested_40 rfl ?_
                refine j_callS dX11_tested_41 kX11_test lX11_112 stX11_test (cm_test_r hl w3 _ _ _) (Nat.le_of_ble_eq_true rfl) ⟨(Nat.le_of_ble_eq_true rfl), (Nat.le_of_ble_eq_true rfl)⟩ rfl (Nat.le_of_ble_eq_true rfl) rfl rfl (fun _ _ h => h.elim) ?_
                rintro _ _ ⟨⟨rfl, hq328⟩ | ⟨rfl, hq328⟩ | ⟨rfl, hq328⟩, hw328⟩
                · refine j_w w3 hw328 ?_
                  refine j_istore (lo' := [(4, _), (0, _), (1, _), (2, _), (3, _)]) dX11_tested_44 (by decide) rfl ?_
                  refine j_iload dX11_tested_46 rfl ?_
                  refine j_ldc dX11_tested_48 kcX11_67 ?_
                  refine j_icmp_ne (tgt := 58) dX11_tested_50 (by decide) (fun c_50_69 => ?_) (fun c_50_69 => ?_)
                  · exact absurd c_50_69 (by decide)
                  · refine j_bipush (v := (-9)) dX11_tested_53 (by decide) ?_
                    refine j_goto (tgt := 60) dX11_tested_55 (by decide) ?_
                    refine j_iret dX11_tested_60 rfl rfl ?_ (Nat.le_of_ble_eq_true rfl) (Nat.le_of_ble_eq_true rfl)
                    refine cast (congrFun (congrFun hQ9 _) _) ?_
                    refine ⟨_, _, rfl, (fm3.le (q' := 59) (by decide)), h3, sp_X0 ?_ rfl R3 (by rw [hq328]; rfl)⟩
                    (first | (refine if_neg ?_ <;> (first | assumption | (refine Or.inl ?_; assumption) | (refine Or.inr ?_; assumption) | (refine Or.inr (Or.inl ?_); assumption) | (refine Or.inr (Or.inr ?_); assumption) | (refine Or.inr (Or.inr (Or.inl ?_)); assumption) | (refine Or.inr (Or.inr (Or.inr ?_)); assumption) | (refine fun z => Or.elim z ?_ ?_ <;> assumption) | (refine fun z => Or.elim z ?_ (fun z => Or.elim z ?_ ?_) <;> assumption) | (refine fun z => Or.elim z ?_ (fun z => Or.elim z ?_ (fun z => Or.elim z ?_ ?_)) <;> assumption) | (refine fun z => Or.elim z (fun z9 => z9 ?_) ?_ <;> (first | assumption | (refine Or.inl ?_; assumption) | (refine Or.inr (Or.inl ?_); assumption) | (refine Or.inr (Or.inr ?_); assumption) | (refine Or.inr (Or.inr (Or.inl ?_)); assumption) | (refine Or.inr (Or.inr (Or.inr ?_)); assumption))) | (refine Or.inl (fun z => Or.elim z ?_ (fun z => Or.elim z ?_ ?_)) <;> assumption) | (refine Or.inl (fun z => Or.elim z ?_ (fun z => Or.elim z ?_ (fun z => Or.elim z ?_ ?_))) <;> assumption))))
                · refine j_w w3 hw328 ?_
                  refine j_istore (lo' := [(4, _), (0, _), (1, _), (2, _), (3, _)]) dX11_tested_44 (by decide) rfl ?_
                  refine j_iload dX11_tested_46 rfl ?_
                  refine j_ldc dX11_tested_48 kcX11_67 ?_
                  refine j_icmp_ne (tgt := 58) dX11_tested_50 (by decide) (fun c_50_81 => ?_) (fun c_50_81 => ?_)
                  · refine j_iload dX11_tested_58 rfl ?_
                    refine j_iret dX11_tested_60 rfl rfl ?_ (Nat.le_of_ble_eq_true rfl) (Nat.le_of_ble_eq_true rfl)
                    refine cast (congrFun (congrFun hQ9 _) _) ?_
                    refine ⟨_, _, rfl, (fm3.le (q' := 59) (by decide)), h3, sp_X0 ?_ rfl R3 (by rw [hq328]; rfl)⟩
                    (first | (refine if_neg ?_ <;> (first | assumption | (refine Or.inl ?_; assumption) | (refine Or.inr ?_; assumption) | (refine Or.inr (Or.inl ?_); assumption) | (refine Or.inr (Or.inr ?_); assumption) | (refine Or.inr (Or.inr (Or.inl ?_)); assumption) | (refine Or.inr (Or.inr (Or.inr ?_)); assumption) | (refine fun z => Or.elim z ?_ ?_ <;> assumption) | (refine fun z => Or.elim z ?_ (fun z => Or.elim z ?_ ?_) <;> assumption) | (refine fun z => Or.elim z ?_ (fun z => Or.elim z ?_ (fun z => Or.elim z ?_ ?_)) <;> assumption) | (refine fun z => Or.elim z (fun z9 => z9 ?_) ?_ <;> (first | assumption | (refine Or.inl ?_; assumption) | (refine Or.inr (Or.inl ?_); assumption) | (refine Or.inr (Or.inr ?_); assumption) | (refine Or.inr (Or.inr (Or.inl ?_)); assumption) | (refine Or.inr (Or.inr (Or.inr ?_)); assumption))) | (refine Or.inl (fun z => Or.elim z ?_ (fun z => Or.elim z ?_ ?_)) <;> assumption) | (refine Or.inl (fun z => Or.elim z ?_ (fun z => Or.elim z ?_ (fun z => Or.elim z ?_ ?_))) <;> assumption))))
                  · exact absurd c_50_81 (by decide)
                · refine j_w w3 hw328 ?_
                  refine j_istore (lo' := [(4, _), (0, _), (1, _), (2, _), (3, _)]) dX11_tested_44 (by decide) rfl ?_
                  refine j_iload dX11_tested_46 rfl ?_
                  refine j_ldc dX11_tested_48 kcX11_67 ?_
                  refine j_icmp_ne (tgt := 58) dX11_tested_50 (by decide) (fun c_50_92 => ?_) (fun c_50_92 => ?_)
                  · refine j_iload dX11_tested_58 rfl ?_
                    refine j_iret dX11_tested_60 rfl rfl ?_ (Nat.le_of_ble_eq_true rfl) (Nat.le_of_ble_eq_true rfl)
                    refine cast (congrFun (congrFun hQ9 _) _) ?_
                    refine ⟨_, _, rfl, (fm3.le (q' := 59) (by decide)), h3, sp_X0 ?_ rfl R3 (by rw [hq328]; rfl)⟩
                    (first | (refine if_neg ?_ <;> (first | assumption | (refine Or.inl ?_; assumption) | (refine Or.inr ?_; assumption) | (refine Or.inr (Or.inl ?_); assumption) | (refine Or.inr (Or.inr ?_); assumption) | (refine Or.inr (Or.inr (Or.inl ?_)); assumption) | (refine Or.inr (Or.inr (Or.inr ?_)); assumption) | (refine fun z => Or.elim z ?_ ?_ <;> assumption) | (refine fun z => Or.elim z ?_ (fun z => Or.elim z ?_ ?_) <;> assumption) | (refine fun z => Or.elim z ?_ (fun z => Or.elim z ?_ (fun z => Or.elim z ?_ ?_)) <;> assumption) | (refine fun z => Or.elim z (fun z9 => z9 ?_) ?_ <;> (first | assumption | (refine Or.inl ?_; assumption) | (refine Or.inr (Or.inl ?_); assumption) | (refine Or.inr (Or.inr ?_); assumption) | (refine Or.inr (Or.inr (Or.inl ?_)); assumption) | (refine Or.inr (Or.inr (Or.inr ?_)); assumption))) | (refine Or.inl (fun z => Or.elim z ?_ (fun z => Or.elim z ?_ ?_)) <;> assumption) | (refine Or.inl (fun z => Or.elim z ?_ (fun z => Or.elim z ?_ (fun z => Or.elim z ?_ ?_))) <;> assumption))))
                  · exact absurd c_50_92 (by decide)
              · exact absurd c_33_59 (by decide)
            · exact absurd c_21_53 (by decide)
  · refine j_w w hw325 ?_
    refine j_if_eq (tgt := 24) dX11_tested_7 (by decide) (fun c_7_102 => ?_) (fun c_7_102 => ?_)
    · refine j_iconst (v := 1) dX11_tested_24 (by decide) ?_
      refine j_goto (tgt := 29) dX11_tested_25 (by decide) ?_
      refine j_iconst (v := 1) dX11_tested_29 (by decide) ?_
      refine j_callV (q := (RX11, TX11, 8)) dX11_tested_30 kX11_start lX11_76 inX11_start seX11_start h.m rfl (cm_start1 hl w _ _ h (by decide)) (Nat.le_of_ble_eq_true rfl) ⟨(Nat.le_of_ble_eq_true rfl), (Nat.le_of_ble_eq_true rfl)⟩ rfl (Nat.le_of_ble_eq_true rfl) rfl rfl (fun _ _ h => h.elim) ?_
      rintro _ w4 ⟨rfl, fm4, h4⟩
      have R4 := R.th (k := 1)
      refine j_if_eq (tgt := 38) dX11_tested_33 (by decide) (fun c_33_109 => ?_) (fun c_33_109 => ?_)
      · exact absurd c_33_109 (by decide)
      · refine j_iconst (v := 0) dX11_tested_36 (by decide) ?_
        refine j_iret dX11_tested_37 rfl rfl ?_ (Nat.le_of_ble_eq_true rfl) (Nat.le_of_ble_eq_true rfl)
        refine cast (congrFun (congrFun hQ9 _) _) ?_
        refine ⟨_, _, rfl, (fm4.le (q' := 59) (by decide)), h4, sp_X1 (k := 1) ?_ (by decide) rfl R4⟩
        (first | (refine if_pos ?_ <;> (first | assumption | (refine Or.inl ?_; assumption) | (refine Or.inr ?_; assumption) | (refine Or.inr (Or.inl ?_); assumption) | (refine Or.inr (Or.inr ?_); assumption) | (refine Or.inr (Or.inr (Or.inl ?_)); assumption) | (refine Or.inr (Or.inr (Or.inr ?_)); assumption) | (refine fun z => Or.elim z ?_ ?_ <;> assumption) | (refine fun z => Or.elim z ?_ (fun z => Or.elim z ?_ ?_) <;> assumption) | (refine fun z => Or.elim z ?_ (fun z => Or.elim z ?_ (fun z => Or.elim z ?_ ?_)) <;> assumption) | (refine fun z => Or.elim z (fun z9 => z9 ?_) ?_ <;> (first | assumption | (refine Or.inl ?_; assumption) | (refine Or.inr (Or.inl ?_); assumption) | (refine Or.inr (Or.inr ?_); assumption) | (refine Or.inr (Or.inr (Or.inl ?_)); assumption) | (refine Or.inr (Or.inr (Or.inr ?_)); assumption))) | (refine Or.inl (fun z => Or.elim z ?_ (fun z => Or.elim z ?_ ?_)) <;> assumption) | (refine Or.inl (fun z => Or.elim z ?_ (fun z => Or.elim z ?_ (fun z => Or.elim z ?_ ?_))) <;> assumption))))
    · exact absurd c_7_102 (by decide)
set_option maxRecDepth 100000 in
set_option maxHeartbeats 8000000 in
theorem cx_stop (hl : l.stackTraces = false) (w : z_W) (S : sp_S) (s : z_Z) (g : Int32) (n : Int32) (h : z_mst w s) (R : sp_MR S s)  : z_Con G l mX11_stop 20 0 0 w [.ref 1000, .int g, .int n] (fun v w9 => ∃ (r9 : Int32) (s9 : z_Z), v = some (.int r9) ∧ z_fm 59 w w9 ∧ z_mst w9 s9 ∧ s9.1.1 = q_k22 g (n < -1000 ∨ 99999 < n) ∧ sp_MR (if q_k22 g (n < -1000 ∨ 99999 < n) = 0 then sp_uE S (sp_i g) (sp_stp' (sp_E S (sp_i g)) n) else S) s9 ∧ (q_k22 g (n < -1000 ∨ 99999 < n) = 0 → r9 = (sp_E S (sp_i g)).1.1)) (fun _ _ => False) := by
  generalize hQ9 : (fun (v : Option Value) (w9 : z_W) => ∃ (r9 : Int32) (s9 : z_Z), v = some (.int r9) ∧ z_fm 59 w w9 ∧ z_mst w9 s9 ∧ s9.1.1 = q_k22 g (n < -1000 ∨ 99999 < n) ∧ sp_MR (if q_k22 g (n < -1000 ∨ 99999 < n) = 0 then sp_uE S (sp_i g) (sp_stp' (sp_E S (sp_i g)) n) else S) s9 ∧ (q_k22 g (n < -1000 ∨ 99999 < n) = 0 → r9 = (sp_E S (sp_i g)).1.1)) = Q9
  refine z_body hl (by decide) rfl (Nat.le_of_ble_eq_true rfl) ?_
  show z_J G l mX11_stop _ 0 [(0, _), (1, _), (2, _)] [] _ 0 0
  refine j_aload_n dX11_stop_0 rfl rfl ?_
  refine j_iload_n dX11_stop_1 rfl ?_
  refine j_callS dX11_stop_2 kX11_isNoTwo lX11_72 stX11_isNoTwo (cm_isNoTwo_r hl w _) (Nat.le_of_ble_eq_true rfl) ⟨(Nat.le_of_ble_eq_true rfl), (Nat.le_of_ble_eq_true rfl)⟩ rfl (Nat.le_of_ble_eq_true rfl) rfl rfl (fun _ _ h => h.elim) ?_
  rintro _ _ ⟨⟨rfl, hno329⟩ | ⟨rfl, i329, hi329, ht329, rfl⟩, hw329⟩
  · refine j_w w hw329 ?_
    refine j_iconst (v := 1) dX11_stop_5 (by decide) ?_
    refine j_callV (q := (RX11, TX11, 8)) dX11_stop_6 kX11_start lX11_76 inX11_start seX11_start h.m rfl (cm_start1 hl w _ _ h (by decide)) (Nat.le_of_ble_eq_true rfl) ⟨(Nat.le_of_ble_eq_true rfl), (Nat.le_of_ble_eq_true rfl)⟩ rfl (Nat.le_of_ble_eq_true rfl) rfl rfl (fun _ _ h => h.elim) ?_
    rintro _ w1 ⟨rfl, fm1, h1⟩
    have R1 := R.th (k := 1)
    refine j_if_ne (tgt := 37) dX11_stop_9 (by decide) (fun c_9_11 => ?_) (fun c_9_11 => ?_)
    · refine j_iconst (v := 0) dX11_stop_37 (by decide) ?_
      refine j_iret dX11_stop_38 rfl rfl ?_ (Nat.le_of_ble_eq_true rfl) (Nat.le_of_ble_eq_true rfl)
      refine cast (congrFun (congrFun hQ9 _) _) ?_
      refine ⟨_, _, rfl, (fm1.le (q' := 59) (by decide)), h1, sp_X1 (k := 1) ?_ (by decide) rfl R1⟩
      first | (first | (refine sp_k22_1 ?_ <;> (first | (with_reducible assumption) | (refine Or.inl ?_; (with_reducible assumption)) | (refine Or.inr ?_; (with_reducible assumption)) | (refine Or.inr (Or.inl ?_); (with_reducible assumption)) | (refine Or.inr (Or.inr ?_); (with_reducible assumption)) | (refine Or.inr (Or.inr (Or.inl ?_)); (with_reducible assumption)) | (refine Or.inr (Or.inr (Or.inr ?_)); (with_reducible assumption)) | (refine fun z => Or.elim z ?_ ?_ <;> (with_reducible assumption)) | (refine fun z => Or.elim z ?_ (fun z => Or.elim z ?_ ?_) <;> (with_reducible assumption)) | (refine fun z => Or.elim z ?_ (fun z => Or.elim z ?_ (fun z => Or.elim z ?_ ?_)) <;> (with_reducible assumption)) | (refine fun z => Or.elim z (fun z9 => z9 ?_) ?_ <;> (first | (with_reducible assumption) | (refine Or.inl ?_; (with_reducible assumption)) | (refine Or.inr (Or.inl ?_); (with_reducible assumption)) | (refine Or.inr (Or.inr ?_); (with_reducible assumption)) | (refine Or.inr (Or.inr (Or.inl ?_)); (with_reducible assumption)) | (refine Or.inr (Or.inr (Or.inr ?_)); (with_reducible assumption)))) | (refine Or.inl (fun z => Or.elim z ?_ (fun z => Or.elim z ?_ ?_)) <;> (with_reducible assumption)) | (refine Or.inl (fun z => Or.elim z ?_ (fun z => Or.elim z ?_ (fun z => Or.elim z ?_ ?_))) <;> (with_reducible assumption))))) | (first | (refine sp_k22_1 ?_ <;> (first | assumption | (refine Or.inl ?_; assumption) | (refine Or.inr ?_; assumption) | (refine Or.inr (Or.inl ?_); assumption) | (refine Or.inr (Or.inr ?_); assumption) | (refine Or.inr (Or.inr (Or.inl ?_)); assumption) | (refine Or.inr (Or.inr (Or.inr ?_)); assumption) | (refine fun z => Or.elim z ?_ ?_ <;> assumption) | (refine fun z => Or.elim z ?_ (fun z => Or.elim z ?_ ?_) <;> assumption) | (refine fun z => Or.elim z ?_ (fun z => Or.elim z ?_ (fun z => Or.elim z ?_ ?_)) <;> assumption) | (refine fun z => Or.elim z (fun z9 => z9 ?_) ?_ <;> (first | assumption | (refine Or.inl ?_; assumption) | (refine Or.inr (Or.inl ?_); assumption) | (refine Or.inr (Or.inr ?_); assumption) | (refine Or.inr (Or.inr (Or.inl ?_)); assumption) | (refine Or.inr (Or.inr (Or.inr ?_)); assumption))) | (refine Or.inl (fun z => Or.elim z ?_ (fun z => Or.elim z ?_ ?_)) <;> assumption) | (refine Or.inl (fun z => Or.elim z ?_ (fun z => Or.elim z ?_ (fun z => Or.elim z ?_ ?_))) <;> assumption))))
    · exact absurd c_9_11 (by decide)
  · refine j_w w hw329 ?_
    have ei329 : sp_i (nI i329) = i329 := sp_in' (by omega)
    refine j_iconst (v := 1) dX11_stop_5 (by decide) ?_
    refine j_callV (q := (RX11, TX11, 8)) dX11_stop_6 kX11_start lX11_76 inX11_start seX11_start h.m rfl (cm_start0 hl w _ _ h) (Nat.le_of_ble_eq_true rfl) ⟨(Nat.le_of_ble_eq_true rfl), (Nat.le_of_ble_eq_true rfl)⟩ rfl (Nat.le_of_ble_eq_true rfl) rfl rfl (fun _ _ h => h.elim) ?_
    rintro _ w2 ⟨rfl, fm2, h2⟩
    have R2 := R.th (k := 0)
    refine j_if_ne (tgt := 37) dX11_stop_9 (by decide) (fun c_9_24 => ?_) (fun c_9_24 => ?_)
    · exact absurd c_9_24 (by decide)
    · refine j_aload_n dX11_stop_12 rfl rfl ?_
      refine j_iload_n dX11_stop_13 rfl ?_
      refine j_sipush (v := (-1000)) dX11_stop_14 (by decide) ?_
      refine j_ldc dX11_stop_17 kcX11_189 ?_
      refine j_callS dX11_stop_19 kX11_isIn lX11_59 stX11_isIn (cm_isIn_r hl w2 _ (-1000) (99999)) (Nat.le_of_ble_eq_true rfl) ⟨(Nat.le_of_ble_eq_true rfl), (Nat.le_of_ble_eq_true rfl)⟩ rfl (Nat.le_of_ble_eq_true rfl) rfl rfl (fun _ _ h => h.elim) ?_
      rintro _ _ ⟨⟨rfl, hye330⟩ | ⟨rfl, hno330⟩, hw330⟩
      · refine j_w w2 hw330 ?_
        refine j_if_ne (tgt := 29) dX11_stop_22 (by decide) (fun c_22_33 => ?_) (fun c_22_33 => ?_)
        · refine j_iconst (v := 0) dX11_stop_29 (by decide) ?_
          refine j_iconst (v := 2) dX11_stop_30 (by decide) ?_
          refine j_callV (q := (RX11, TX11, 8)) dX11_stop_31 kX11_refuse lX11_52 inX11_refuse seX11_refuse h2.m rfl (cm_refuse0 hl w2 _ _ h2 rfl) (Nat.le_of_ble_eq_true rfl) ⟨(Nat.le_of_ble_eq_true rfl), (Nat.le_of_ble_eq_true rfl)⟩ rfl (Nat.le_of_ble_eq_true rfl) rfl rfl (fun _ _ h => h.elim) ?_
          rintro _ _ ⟨rfl, hw331⟩
          refine j_w w2 hw331 ?_
          refine j_if_eq (tgt := 39) dX11_stop_34 (by decide) (fun c_34_39 => ?_) (fun c_34_39 => ?_)
          · refine j_aload_n dX11_stop_39 rfl rfl ?_
            refine j_getf dX11_stop_40 fX11_40 h2.m rfl ?_
            refine j_iload_n dX11_stop_43 rfl ?_
            obtain ⟨fz332, gz332, hz332⟩ := h2.hs
            refine j_aald (v := .ref (1009 + i329)) dX11_stop_44 gz332 rfl rfl (vp_in_nI (by omega) (by omega)) (by rw [z_cla (by omega)]; exact hz332 _ (by omega)) ?_
            refine j_getf dX11_stop_45 fX11_190 (h2.hd (i := i329) (by omega)) rfl ?_
            refine j_istore_n (lo' := [(3, _), (0, _), (1, _), (2, _)]) dX11_stop_48 (by decide) rfl ?_
            refine j_aload_n dX11_stop_49 rfl rfl ?_
            refine j_getf dX11_stop_50 fX11_40 h2.m rfl ?_
            refine j_iload_n dX11_stop_53 rfl ?_
            obtain ⟨fz333, gz333, hz333⟩ := h2.hs
            refine j_aald (v := .ref (1009 + i329)) dX11_stop_54 gz333 rfl rfl (vp_in_nI (by omega) (by omega)) (by rw [z_cla (by omega)]; exact hz333 _ (by omega)) ?_
            refine j_iload_n dX11_stop_55 rfl ?_
            refine j_put (w' := _) dX11_stop_56 fX11_190 tX10_0 (h2.hd (i := i329) (by omega)) ⟨rfl, rfl⟩ rfl ?_
            refine j_seal (by omega) ?_
            intro w3 u3
            have fw3 := u3.fw (ρ := 49 + i329) (by omega) (by omega)
            have h3 := h2.up49 (i0 := i329) (by omega) fw3 u3.1
            have R3 := R2.ustp (g := i329) (x := n) (by omega)
            refine j_iload_n dX11_stop_59 rfl ?_
            refine j_iret dX11_stop_60 rfl rfl ?_ (Nat.le_of_ble_eq_true rfl) (Nat.le_of_ble_eq_true rfl)
            refine cast (congrFun (congrFun hQ9 _) _) ?_
            try rw [ei329]
            refine ⟨_, _, rfl, ((fm2.le (q' := 59) (by decide)).tr (fw3.fm (q := 59) (by omega))), h3, sp_X0 ?_ rfl R3 (congrArg (fun z => z.1) (R.h (by omega)))⟩
            first | (first | (refine sp_k22_0 ?_ ?_ <;> (first | (with_reducible assumption) | (refine Or.inl ?_; (with_reducible assumption)) | (refine Or.inr ?_; (with_reducible assumption)) | (refine Or.inr (Or.inl ?_); (with_reducible assumption)) | (refine Or.inr (Or.inr ?_); (with_reducible assumption)) | (refine Or.inr (Or.inr (Or.inl ?_)); (with_reducible assumption)) | (refine Or.inr (Or.inr (Or.inr ?_)); (with_reducible assumption)) | (refine fun z => Or.elim z ?_ ?_ <;> (with_reducible assumption)) | (refine fun z => Or.elim z ?_ (fun z => Or.elim z ?_ ?_) <;> (with_reducible assumption)) | (refine fun z => Or.elim z ?_ (fun z => Or.elim z ?_ (fun z => Or.elim z ?_ ?_)) <;> (with_reducible assumption)) | (refine fun z => Or.elim z (fun z9 => z9 ?_) ?_ <;> (first | (with_reducible assumption) | (refine Or.inl ?_; (with_reducible assumption)) | (refine Or.inr (Or.inl ?_); (with_reducible assumption)) | (refine Or.inr (Or.inr ?_); (with_reducible assumption)) | (refine Or.inr (Or.inr (Or.inl ?_)); (with_reducible assumption)) | (refine Or.inr (Or.inr (Or.inr ?_)); (with_reducible assumption)))) | (refine Or.inl (fun z => Or.elim z ?_ (fun z => Or.elim z ?_ ?_)) <;> (with_reducible assumption)) | (refine Or.inl (fun z => Or.elim z ?_ (fun z => Or.elim z ?_ (fun z => Or.elim z ?_ ?_))) <;> (with_reducible assumption))))) | (first | (refine sp_k22_0 ?_ ?_ <;> (first | assumption | (refine Or.inl ?_; assumption) | (refine Or.inr ?_; assumption) | (refine Or.inr (Or.inl ?_); assumption) | (refine Or.inr (Or.inr ?_); assumption) | (refine Or.inr (Or.inr (Or.inl ?_)); assumption) | (refine Or.inr (Or.inr (Or.inr ?_)); assumption) | (refine fun z => Or.elim z ?_ ?_ <;> assumption) | (refine fun z => Or.elim z ?_ (fun z => Or.elim z ?_ ?_) <;> assumption) | (refine fun z => Or.elim z ?_ (fun z => Or.elim z ?_ (fun z => Or.elim z ?_ ?_)) <;> assumption) | (refine fun z => Or.elim z (fun z9 => z9 ?_) ?_ <;> (first | assumption | (refine Or.inl ?_; assumption) | (refine Or.inr (Or.inl ?_); assumption) | (refine Or.inr (Or.inr ?_); assumption) | (refine Or.inr (Or.inr (Or.inl ?_)); assumption) | (refine Or.inr (Or.inr (Or.inr ?_)); assumption))) | (refine Or.inl (fun z => Or.elim z ?_ (fun z => Or.elim z ?_ ?_)) <;> assumption) | (refine Or.inl (fun z => Or.elim z ?_ (fun z => Or.elim z ?_ (fun z => Or.elim z ?_ ?_))) <;> assumption))))
          · exact absurd c_34_39 (by decide)
        · exact absurd c_22_33 (by decide)
      · refine j_w w2 hw330 ?_
        refine j_if_ne (tgt := 29) dX11_stop_22 (by decide) (fun c_22_68 => ?_) (fun c_22_68 => ?_)
        · exact absurd c_22_68 (by decide)
        · refine j_iconst (v := 1) dX11_stop_25 (by decide) ?_
          refine j_goto (tgt := 30) dX11_stop_26 (by decide) ?_
          refine j_iconst (v := 2) dX11_stop_30 (by decide) ?_
          refine j_callV (q := (RX11, TX11, 8)) dX11_stop_31 kX11_refuse lX11_52 inX11_refuse seX11_refuse h2.m rfl (cm_refuse1 hl w2 _ _ h2 rfl (by decide)) (Nat.le_of_ble_eq_true rfl) ⟨(Nat.le_of_ble_eq_true rfl), (Nat.le_of_ble_eq_true rfl)⟩ rfl (Nat.le_of_ble_eq_true rfl) rfl rfl (fun _ _ h => h.elim) ?_
          rintro _ w4 ⟨rfl, fm4, h4⟩
          have R4 := R2.th (k := 2)
          refine j_if_eq (tgt := 39) dX11_stop_34 (by decide) (fun c_34_76 => ?_) (fun c_34_76 => ?_)
          · exact absurd c_34_76 (by decide)
          · refine j_iconst (v := 0) dX11_stop_37 (by decide) ?_
            refine j_iret dX11_stop_38 rfl rfl ?_ (Nat.le_of_ble_eq_true rfl) (Nat.le_of_ble_eq_true rfl)
            refine cast (congrFun (congrFun hQ9 _) _) ?_
            try rw [ei329]
            refine ⟨_, _, rfl, ((fm2.le (q' := 59) (by decide)).tr (fm4.le (q' := 59) (by decide))), h4, sp_X1 (k := 2) ?_ (by decide) rfl R4⟩
            first | (first | (refine sp_k22_2 ?_ ?_ <;> (first | (with_reducible assumption) | (refine Or.inl ?_; (with_reducible assumption)) | (refine Or.inr ?_; (with_reducible assumption)) | (refine Or.inr (Or.inl ?_); (with_reducible assumption)) | (refine Or.inr (Or.inr ?_); (with_reducible assumption)) | (refine Or.inr (Or.inr (Or.inl ?_)); (with_reducible assumption)) | (refine Or.inr (Or.inr (Or.inr ?_)); (with_reducible assumption)) | (refine fun z => Or.elim z ?_ ?_ <;> (with_reducible assumption)) | (refine fun z => Or.elim z ?_ (fun z => Or.elim z ?_ ?_) <;> (with_reducible assumption)) | (refine fun z => Or.elim z ?_ (fun z => Or.elim z ?_ (fun z => Or.elim z ?_ ?_)) <;> (with_reducible assumption)) | (refine fun z => Or.elim z (fun z9 => z9 ?_) ?_ <;> (first | (with_reducible assumption) | (refine Or.inl ?_; (with_reducible assumption)) | (refine Or.inr (Or.inl ?_); (with_reducible assumption)) | (refine Or.inr (Or.inr ?_); (with_reducible assumption)) | (refine Or.inr (Or.inr (Or.inl ?_)); (with_reducible assumption)) | (refine Or.inr (Or.inr (Or.inr ?_)); (with_reducible assumption)))) | (refine Or.inl (fun z => Or.elim z ?_ (fun z => Or.elim z ?_ ?_)) <;> (with_reducible assumption)) | (refine Or.inl (fun z => Or.elim z ?_ (fun z => Or.elim z ?_ (fun z => Or.elim z ?_ ?_))) <;> (with_reducible assumption))))) | (first | (refine sp_k22_2 ?_ ?_ <;> (first | assumption | (refine Or.inl ?_; assumption) | (refine Or.inr ?_; assumption) | (refine Or.inr (Or.inl ?_); assumption) | (refine Or.inr (Or.inr ?_); assumption) | (refine Or.inr (Or.inr (Or.inl ?_)); assumption) | (refine Or.inr (Or.inr (Or.inr ?_)); assumption) | (refine fun z => Or.elim z ?_ ?_ <;> assumption) | (refine fun z => Or.elim z ?_ (fun z => Or.elim z ?_ ?_) <;> assumption) | (refine fun z => Or.elim z ?_ (fun z => Or.elim z ?_ (fun z => Or.elim z ?_ ?_)) <;> assumption) | (refine fun z => Or.elim z (fun z9 => z9 ?_) ?_ <;> (first | assumption | (refine Or.inl ?_; assumption) | (refine Or.inr (Or.inl ?_); assumption) | (refine Or.inr (Or.inr ?_); assumption) | (refine Or.inr (Or.inr (Or.inl ?_)); assumption) | (refine Or.inr (Or.inr (Or.inr ?_)); assumption))) | (refine Or.inl (fun z => Or.elim z ?_ (fun z => Or.elim z ?_ ?_)) <;> assumption) | (refine Or.inl (fun z => Or.elim z ?_ (fun z => Or.elim z ?_ (fun z => Or.elim z ?_ ?_))) <;> assumption))))
set_option maxRecDepth 100000 in
set_option maxHeartbeats 8000000 in
theorem cx_forget (hl : l.stackTraces = false) (w : z_W) (S : sp_S) (s : z_Z) (g : Int32) (h : z_mst w s) (R : sp_MR S s)  : z_Con G l mX11_forget 20 0 0 w [.ref 1000, .int g] (fun v w9 => ∃ (r9 : Int32) (s9 : z_Z), v = some (.int r9) ∧ z_fm 59 w w9 ∧ z_mst w9 s9 ∧ s9.1.1 = q_k2 g ∧ sp_MR (if q_k2 g = 0 then sp_uE S (sp_i g) (sp_fgt (sp_E S (sp_i g))) else S) s9 ∧ (q_k2 g = 0 → r9 = (sp_E S (sp_i g)).1.2.1)) (fun _ _ => False) := by
  generalize hQ9 : (fun (v : Option Value) (w9 : z_W) => ∃ (r9 : Int32) (s9 : z_Z), v = some (.int r9) ∧ z_fm 59 w w9 ∧ z_mst w9 s9 ∧ s9.1.1 = q_k2 g ∧ sp_MR (if q_k2 g = 0 then sp_uE S (sp_i g) (sp_fgt (sp_E S (sp_i g))) else S) s9 ∧ (q_k2 g = 0 → r9 = (sp_E S (sp_i g)).1.2.1)) = Q9
  refine z_body hl (by decide) rfl (Nat.le_of_ble_eq_true rfl) ?_
  show z_J G l mX11_forget _ 0 [(0, _), (1, _)] [] _ 0 0
  refine j_aload_n dX11_forget_0 rfl rfl ?_
  refine j_iload_n dX11_forget_1 rfl ?_
  refine j_callS dX11_forget_2 kX11_isNoTwo lX11_72 stX11_isNoTwo (cm_isNoTwo_r hl w _) (Nat.le_of_ble_eq_true rfl) ⟨(Nat.le_of_ble_eq_true rfl), (Nat.le_of_ble_eq_true rfl)⟩ rfl (Nat.le_of_ble_eq_true rfl) rfl rfl (fun _ _ h => h.elim) ?_
  rintro _ _ ⟨⟨rfl, hno334⟩ | ⟨rfl, i334, hi334, ht334, rfl⟩, hw334⟩
  · refine j_w w hw334 ?_
    refine j_iconst (v := 1) dX11_forget_5 (by decide) ?_
    refine j_callV (q := (RX11, TX11, 8)) dX11_forget_6 kX11_start lX11_76 inX11_start seX11_start h.m rfl (cm_start1 hl w _ _ h (by decide)) (Nat.le_of_ble_eq_true rfl) ⟨(Nat.le_of_ble_eq_true rfl), (Nat.le_of_ble_eq_true rfl)⟩ rfl (Nat.le_of_ble_eq_true rfl) rfl rfl (fun _ _ h => h.elim) ?_
    rintro _ w1 ⟨rfl, fm1, h1⟩
    have R1 := R.th (k := 1)
    refine j_if_eq (tgt := 14) dX11_forget_9 (by decide) (fun c_9_11 => ?_) (fun c_9_11 => ?_)
    · exact absurd c_9_11 (by decide)
    · refine j_iconst (v := 0) dX11_forget_12 (by decide) ?_
      refine j_iret dX11_forget_13 rfl rfl ?_ (Nat.le_of_ble_eq_true rfl) (Nat.le_of_ble_eq_true rfl)
      refine cast (congrFun (congrFun hQ9 _) _) ?_
      refine ⟨_, _, rfl, (fm1.le (q' := 59) (by decide)), h1, sp_X1 (k := 1) ?_ (by decide) rfl R1⟩
      first | (first | (refine sp_k2_1 ?_ <;> (first | (with_reducible assumption) | (refine Or.inl ?_; (with_reducible assumption)) | (refine Or.inr ?_; (with_reducible assumption)) | (refine Or.inr (Or.inl ?_); (with_reducible assumption)) | (refine Or.inr (Or.inr ?_); (with_reducible assumption)) | (refine Or.inr (Or.inr (Or.inl ?_)); (with_reducible assumption)) | (refine Or.inr (Or.inr (Or.inr ?_)); (with_reducible assumption)) | (refine fun z => Or.elim z ?_ ?_ <;> (with_reducible assumption)) | (refine fun z => Or.elim z ?_ (fun z => Or.elim z ?_ ?_) <;> (with_reducible assumption)) | (refine fun z => Or.elim z ?_ (fun z => Or.elim z ?_ (fun z => Or.elim z ?_ ?_)) <;> (with_reducible assumption)) | (refine fun z => Or.elim z (fun z9 => z9 ?_) ?_ <;> (first | (with_reducible assumption) | (refine Or.inl ?_; (with_reducible assumption)) | (refine Or.inr (Or.inl ?_); (with_reducible assumption)) | (refine Or.inr (Or.inr ?_); (with_reducible assumption)) | (refine Or.inr (Or.inr (Or.inl ?_)); (with_reducible assumption)) | (refine Or.inr (Or.inr (Or.inr ?_)); (with_reducible assumption)))) | (refine Or.inl (fun z => Or.elim z ?_ (fun z => Or.elim z ?_ ?_)) <;> (with_reducible assumption)) | (refine Or.inl (fun z => Or.elim z ?_ (fun z => Or.elim z ?_ (fun z => Or.elim z ?_ ?_))) <;> (with_reducible assumption))))) | (first | (refine sp_k2_1 ?_ <;> (first | assumption | (refine Or.inl ?_; assumption) | (refine Or.inr ?_; assumption) | (refine Or.inr (Or.inl ?_); assumption) | (refine Or.inr (Or.inr ?_); assumption) | (refine Or.inr (Or.inr (Or.inl ?_)); assumption) | (refine Or.inr (Or.inr (Or.inr ?_)); assumption) | (refine fun z => Or.elim z ?_ ?_ <;> assumption) | (refine fun z => Or.elim z ?_ (fun z => Or.elim z ?_ ?_) <;> assumption) | (refine fun z => Or.elim z ?_ (fun z => Or.elim z ?_ (fun z => Or.elim z ?_ ?_)) <;> assumption) | (refine fun z => Or.elim z (fun z9 => z9 ?_) ?_ <;> (first | assumption | (refine Or.inl ?_; assumption) | (refine Or.inr (Or.inl ?_); assumption) | (refine Or.inr (Or.inr ?_); assumption) | (refine Or.inr (Or.inr (Or.inl ?_)); assumption) | (refine Or.inr (Or.inr (Or.inr ?_)); assumption))) | (refine Or.inl (fun z => Or.elim z ?_ (fun z => Or.elim z ?_ ?_)) <;> assumption) | (refine Or.inl (fun z => Or.elim z ?_ (fun z => Or.elim z ?_ (fun z => Or.elim z ?_ ?_))) <;> assumption))))
  · refine j_w w hw334 ?_
    have ei334 : sp_i (nI i334) = i334 := sp_in' (by omega)
    refine j_iconst (v := 1) dX11_forget_5 (by decide) ?_
    refine j_callV (q := (RX11, TX11, 8)) dX11_forget_6 kX11_start lX11_76 inX11_start seX11_start h.m rfl (cm_start0 hl w _ _ h) (Nat.le_of_ble_eq_true rfl) ⟨(Nat.le_of_ble_eq_true rfl), (Nat.le_of_ble_eq_true rfl)⟩ rfl (Nat.le_of_ble_eq_true rfl) rfl rfl (fun _ _ h => h.elim) ?_
    rintro _ w2 ⟨rfl, fm2, h2⟩
    have R2 := R.th (k := 0)
    refine j_if_eq (tgt := 14) dX11_forget_9 (by decide) (fun c_9_24 => ?_) (fun c_9_24 => ?_)
    · refine j_aload_n dX11_forget_14 rfl rfl ?_
      refine j_getf dX11_forget_15 fX11_40 h2.m rfl ?_
      refine j_iload_n dX11_forget_18 rfl ?_
      obtain ⟨fz335, gz335, hz335⟩ := h2.hs
      refine j_aald (v := .ref (1009 + i334)) dX11_forget_19 gz335 rfl rfl (vp_in_nI (by omega) (by omega)) (by rw [z_cla (by omega)]; exact hz335 _ (by omega)) ?_
      refine j_getf dX11_forget_20 fX11_193 (h2.hd (i := i334) (by omega)) rfl ?_
      refine j_istore_n (lo' := [(2, _), (0, _), (1, _)]) dX11_forget_23 (by decide) rfl ?_
      refine j_aload_n dX11_forget_24 rfl rfl ?_
      refine j_getf dX11_forget_25 fX11_40 h2.m rfl ?_
      refine j_iload_n dX11_forget_28 rfl ?_
      obtain ⟨fz336, gz336, hz336⟩ := h2.hs
      refine j_aald (v := .ref (1009 + i334)) dX11_forget_29 gz336 rfl rfl (vp_in_nI (by omega) (by omega)) (by rw [z_cla (by omega)]; exact hz336 _ (by omega)) ?_
      refine j_callVN (q := (RX10, TX10, 5)) dX11_forget_30 kX10_forget lX11_196 inX10_forget seX10_forget (h2.hd (i := i334) (by omega)) rfl (cm_forget_r hl w2 _ _ (i334) h2 R2 (by omega)) (Nat.le_of_ble_eq_true rfl) ⟨(Nat.le_of_ble_eq_true rfl), (Nat.le_of_ble_eq_true rfl)⟩ rfl (Nat.le_of_ble_eq_true rfl) rfl rfl (fun _ _ h => h.elim) ?_
      rintro _ w3 ⟨rfl, s3, fm3, h3, R3, ht3⟩
      have th3 := (congrArg Prod.fst ht3).trans rfl
      refine j_iload_n dX11_forget_33 rfl ?_
      refine j_iret dX11_forget_34 rfl rfl ?_ (Nat.le_of_ble_eq_true rfl) (Nat.le_of_ble_eq_true rfl)
      refine cast (congrFun (congrFun hQ9 _) _) ?_
      try rw [ei334]
      refine ⟨_, _, rfl, ((fm2.le (q' := 59) (by decide)).tr (fm3.le (q' := 59) (by decide))), h3, sp_X0 ?_ th3 R3 (congrArg (fun z => z.2.1) (R.h (by omega)))⟩
      first | (first | (refine sp_k2_0 ?_ <;> (first | (with_reducible assumption) | (refine Or.inl ?_; (with_reducible assumption)) | (refine Or.inr ?_; (with_reducible assumption)) | (refine Or.inr (Or.inl ?_); (with_reducible assumption)) | (refine Or.inr (Or.inr ?_); (with_reducible assumption)) | (refine Or.inr (Or.inr (Or.inl ?_)); (with_reducible assumption)) | (refine Or.inr (Or.inr (Or.inr ?_)); (with_reducible assumption)) | (refine fun z => Or.elim z ?_ ?_ <;> (with_reducible assumption)) | (refine fun z => Or.elim z ?_ (fun z => Or.elim z ?_ ?_) <;> (with_reducible assumption)) | (refine fun z => Or.elim z ?_ (fun z => Or.elim z ?_ (fun z => Or.elim z ?_ ?_)) <;> (with_reducible assumption)) | (refine fun z => Or.elim z (fun z9 => z9 ?_) ?_ <;> (first | (with_reducible assumption) | (refine Or.inl ?_; (with_reducible assumption)) | (refine Or.inr (Or.inl ?_); (with_reducible assumption)) | (refine Or.inr (Or.inr ?_); (with_reducible assumption)) | (refine Or.inr (Or.inr (Or.inl ?_)); (with_reducible assumption)) | (refine Or.inr (Or.inr (Or.inr ?_)); (with_reducible assumption)))) | (refine Or.inl (fun z => Or.elim z ?_ (fun z => Or.elim z ?_ ?_)) <;> (with_reducible assumption)) | (refine Or.inl (fun z => Or.elim z ?_ (fun z => Or.elim z ?_ (fun z => Or.elim z ?_ ?_))) <;> (with_reducible assumption))))) | (first | (refine sp_k2_0 ?_ <;> (first | assumption | (refine Or.inl ?_; assumption) | (refine Or.inr ?_; assumption) | (refine Or.inr (Or.inl ?_); assumption) | (refine Or.inr (Or.inr ?_); assumption) | (refine Or.inr (Or.inr (Or.inl ?_)); assumption) | (refine Or.inr (Or.inr (Or.inr ?_)); assumption) | (refine fun z => Or.elim z ?_ ?_ <;> assumption) | (refine fun z => Or.elim z ?_ (fun z => Or.elim z ?_ ?_) <;> assumption) | (refine fun z => Or.elim z ?_ (fun z => Or.elim z ?_ (fun z => Or.elim z ?_ ?_)) <;> assumption) | (refine fun z => Or.elim z (fun z9 => z9 ?_) ?_ <;> (first | assumption | (refine Or.inl ?_; assumption) | (refine Or.inr (Or.inl ?_); assumption) | (refine Or.inr (Or.inr ?_); assumption) | (refine Or.inr (Or.inr (Or.inl ?_)); assumption) | (refine Or.inr (Or.inr (Or.inr ?_)); assumption))) | (refine Or.inl (fun z => Or.elim z ?_ (fun z => Or.elim z ?_ ?_)) <;> assumption) | (refine Or.inl (fun z => Or.elim z ?_ (fun z => Or.elim z ?_ (fun z => Or.elim z ?_ ?_))) <;> assumption))))
    · exact absurd c_9_24 (by decide)
set_option maxRecDepth 100000 in
set_option maxHeartbeats 8000000 in
theorem cx_heardTold (hl : l.stackTraces = false) (w : z_W) (S : sp_S) (s : z_Z) (i : Nat) (y : Int32) (h : z_mst w s) (R : sp_MR S s) (hi : i < 2) : z_Con G l mX11_heardTold 10 0 0 w [.ref 1000, .int (nI i), .int y] (fun v w9 => v = some (.int (sp_tel (sp_E S i) y)) ∧ w9 = w) (fun _ _ => False) := by
  generalize hQ9 : (fun (v : Option Value) (w9 : z_W) => v = some (.int (sp_tel (sp_E S i) y)) ∧ w9 = w) = Q9
  refine z_body hl (by decide) rfl (Nat.le_of_ble_eq_true rfl) ?_
  show z_J G l mX11_heardTold _ 0 [(0, _), (1, _), (2, _)] [] _ 0 0
  refine j_aload_n dX11_heardTold_0 rfl rfl ?_
  refine j_getf dX11_heardTold_1 fX11_40 h.m rfl ?_
  refine j_iload_n dX11_heardTold_4 rfl ?_
  obtain ⟨fz337, gz337, hz337⟩ := h.hs
  refine j_aald (v := .ref (1009 + i)) dX11_heardTold_5 gz337 rfl rfl (vp_in_nI (by omega) (by omega)) (by rw [z_cla (by omega)]; exact hz337 _ (by omega)) ?_
  refine j_astore_n (lo' := [(3, _), (0, _), (1, _), (2, _)]) dX11_heardTold_6 rfl (by decide) rfl ?_
  refine j_iload_n dX11_heardTold_7 rfl ?_
  refine j_if_ne (tgt := 18) dX11_heardTold_8 (by decide) (fun c_8_9 => ?_) (fun c_8_9 => ?_)
  · refine j_iload_n dX11_heardTold_18 rfl ?_
    refine j_iconst (v := 1) dX11_heardTold_19 (by decide) ?_
    refine j_icmp_ne (tgt := 30) dX11_heardTold_20 (by decide) (fun c_20_12 => ?_) (fun c_20_12 => ?_)
    · refine j_iload_n dX11_heardTold_30 rfl ?_
      refine j_iconst (v := 2) dX11_heardTold_31 (by decide) ?_
      refine j_icmp_ne (tgt := 42) dX11_heardTold_32 (by decide) (fun c_32_15 => ?_) (fun c_32_15 => ?_)
      · refine j_aload_n dX11_heardTold_42 rfl rfl ?_
        refine j_getf dX11_heardTold_43 fX11_190 (h.hd (i := i) (by omega)) rfl ?_
        refine j_iret dX11_heardTold_46 rfl rfl ?_ (Nat.le_of_ble_eq_true rfl) (Nat.le_of_ble_eq_true rfl)
        refine cast (congrFun (congrFun hQ9 _) _) ?_
        exact ⟨by unfold sp_tel; rw [if_neg c_8_9, if_neg c_20_12, if_neg c_32_15, ← R.h hi], rfl⟩
      · refine j_aload_n dX11_heardTold_35 rfl rfl ?_
        refine j_getf dX11_heardTold_36 fX11_202 (h.hd (i := i) (by omega)) rfl ?_
        refine j_goto (tgt := 46) dX11_heardTold_39 (by decide) ?_
        refine j_iret dX11_heardTold_46 rfl rfl ?_ (Nat.le_of_ble_eq_true rfl) (Nat.le_of_ble_eq_true rfl)
        refine cast (congrFun (congrFun hQ9 _) _) ?_
        exact ⟨by unfold sp_tel; rw [if_neg c_8_9, if_neg c_20_12, if_pos c_32_15, ← R.h hi], rfl⟩
    · refine j_aload_n dX11_heardTold_23 rfl rfl ?_
      refine j_getf dX11_heardTold_24 fX11_199 (h.hd (i := i) (by omega)) rfl ?_
      refine j_goto (tgt := 46) dX11_heardTold_27 (by decide) ?_
      refine j_iret dX11_heardTold_46 rfl rfl ?_ (Nat.le_of_ble_eq_true rfl) (Nat.le_of_ble_eq_true rfl)
      refine cast (congrFun (congrFun hQ9 _) _) ?_
      exact ⟨by unfold sp_tel; rw [if_neg c_8_9, if_pos c_20_12, ← R.h hi], rfl⟩
  · refine j_aload_n dX11_heardTold_11 rfl rfl ?_
    refine j_getf dX11_heardTold_12 fX11_193 (h.hd (i := i) (by omega)) rfl ?_
    refine j_goto (tgt := 46) dX11_heardTold_15 (by decide) ?_
    refine j_iret dX11_heardTold_46 rfl rfl ?_ (Nat.le_of_ble_eq_true rfl) (Nat.le_of_ble_eq_true rfl)
    refine cast (congrFun (congrFun hQ9 _) _) ?_
    exact ⟨by unfold sp_tel; rw [if_pos c_8_9, ← R.h hi], rfl⟩
set_option maxRecDepth 100000 in
set_option maxHeartbeats 8000000 in
theorem cx_heard (hl : l.stackTraces = false) (w : z_W) (S : sp_S) (s : z_Z) (g : Int32) (w0 : Int32) (h : z_mst w s) (R : sp_MR S s)  : z_Con G l mX11_heard 20 0 0 w [.ref 1000, .int g, .int w0] (fun v w9 => ∃ (r9 : Int32) (s9 : z_Z), v = some (.int r9) ∧ z_fm 59 w w9 ∧ z_mst w9 s9 ∧ s9.1.1 = q_k22 g (w0 < 0 ∨ 3 < w0) ∧ sp_MR (if q_k22 g (w0 < 0 ∨ 3 < w0) = 0 then S else S) s9 ∧ (q_k22 g (w0 < 0 ∨ 3 < w0) = 0 → r9 = sp_tel (sp_E S (sp_i g)) w0)) (fun _ _ => False) := by
  generalize hQ9 : (fun (v : Option Value) (w9 : z_W) => ∃ (r9 : Int32) (s9 : z_Z), v = some (.int r9) ∧ z_fm 59 w w9 ∧ z_mst w9 s9 ∧ s9.1.1 = q_k22 g (w0 < 0 ∨ 3 < w0) ∧ sp_MR (if q_k22 g (w0 < 0 ∨ 3 < w0) = 0 then S else S) s9 ∧ (q_k22 g (w0 < 0 ∨ 3 < w0) = 0 → r9 = sp_tel (sp_E S (sp_i g)) w0)) = Q9
  refine z_body hl (by decide) rfl (Nat.le_of_ble_eq_true rfl) ?_
  show z_J G l mX11_heard _ 0 [(0, _), (1, _), (2, _)] [] _ 0 0
  refine j_aload_n dX11_heard_0 rfl rfl ?_
  refine j_iload_n dX11_heard_1 rfl ?_
  refine j_callS dX11_heard_2 kX11_isNoTwo lX11_72 stX11_isNoTwo (cm_isNoTwo_r hl w _) (Nat.le_of_ble_eq_true rfl) ⟨(Nat.le_of_ble_eq_true rfl), (Nat.le_of_ble_eq_true rfl)⟩ rfl (Nat.le_of_ble_eq_true rfl) rfl rfl (fun _ _ h => h.elim) ?_
  rintro _ _ ⟨⟨rfl, hno338⟩ | ⟨rfl, i338, hi338, ht338, rfl⟩, hw338⟩
  · refine j_w w hw338 ?_
    refine j_iconst (v := 1) dX11_heard_5 (by decide) ?_
    refine j_callV (q := (RX11, TX11, 8)) dX11_heard_6 kX11_start lX11_76 inX11_start seX11_start h.m rfl (cm_start1 hl w _ _ h (by decide)) (Nat.le_of_ble_eq_true rfl) ⟨(Nat.le_of_ble_eq_true rfl), (Nat.le_of_ble_eq_true rfl)⟩ rfl (Nat.le_of_ble_eq_true rfl) rfl rfl (fun _ _ h => h.elim) ?_
    rintro _ w1 ⟨rfl, fm1, h1⟩
    have R1 := R.th (k := 1)
    refine j_if_ne (tgt := 34) dX11_heard_9 (by decide) (fun c_9_11 => ?_) (fun c_9_11 => ?_)
    · refine j_iconst (v := 0) dX11_heard_34 (by decide) ?_
      refine j_goto (tgt := 44) dX11_heard_35 (by decide) ?_
      refine j_iret dX11_heard_44 rfl rfl ?_ (Nat.le_of_ble_eq_true rfl) (Nat.le_of_ble_eq_true rfl)
      refine cast (congrFun (congrFun hQ9 _) _) ?_
      refine ⟨_, _, rfl, (fm1.le (q' := 59) (by decide)), h1, sp_X1 (k := 1) ?_ (by decide) rfl R1⟩
      first | (first | (refine sp_k22_1 ?_ <;> (first | (with_reducible assumption) | (refine Or.inl ?_; (with_reducible assumption)) | (refine Or.inr ?_; (with_reducible assumption)) | (refine Or.inr (Or.inl ?_); (with_reducible assumption)) | (refine Or.inr (Or.inr ?_); (with_reducible assumption)) | (refine Or.inr (Or.inr (Or.inl ?_)); (with_reducible assumption)) | (refine Or.inr (Or.inr (Or.inr ?_)); (with_reducible assumption)) | (refine fun z => Or.elim z ?_ ?_ <;> (with_reducible assumption)) | (refine fun z => Or.elim z ?_ (fun z => Or.elim z ?_ ?_) <;> (with_reducible assumption)) | (refine fun z => Or.elim z ?_ (fun z => Or.elim z ?_ (fun z => Or.elim z ?_ ?_)) <;> (with_reducible assumption)) | (refine fun z => Or.elim z (fun z9 => z9 ?_) ?_ <;> (first | (with_reducible assumption) | (refine Or.inl ?_; (with_reducible assumption)) | (refine Or.inr (Or.inl ?_); (with_reducible assumption)) | (refine Or.inr (Or.inr ?_); (with_reducible assumption)) | (refine Or.inr (Or.inr (Or.inl ?_)); (with_reducible assumption)) | (refine Or.inr (Or.inr (Or.inr ?_)); (with_reducible assumption)))) | (refine Or.inl (fun z => Or.elim z ?_ (fun z => Or.elim z ?_ ?_)) <;> (with_reducible assumption)) | (refine Or.inl (fun z => Or.elim z ?_ (fun z => Or.elim z ?_ (fun z => Or.elim z ?_ ?_))) <;> (with_reducible assumption))))) | (first | (refine sp_k22_1 ?_ <;> (first | assumption | (refine Or.inl ?_; assumption) | (refine Or.inr ?_; assumption) | (refine Or.inr (Or.inl ?_); assumption) | (refine Or.inr (Or.inr ?_); assumption) | (refine Or.inr (Or.inr (Or.inl ?_)); assumption) | (refine Or.inr (Or.inr (Or.inr ?_)); assumption) | (refine fun z => Or.elim z ?_ ?_ <;> assumption) | (refine fun z => Or.elim z ?_ (fun z => Or.elim z ?_ ?_) <;> assumption) | (refine fun z => Or.elim z ?_ (fun z => Or.elim z ?_ (fun z => Or.elim z ?_ ?_)) <;> assumption) | (refine fun z => Or.elim z (fun z9 => z9 ?_) ?_ <;> (first | assumption | (refine Or.inl ?_; assumption) | (refine Or.inr (Or.inl ?_); assumption) | (refine Or.inr (Or.inr ?_); assumption) | (refine Or.inr (Or.inr (Or.inl ?_)); assumption) | (refine Or.inr (Or.inr (Or.inr ?_)); assumption))) | (refine Or.inl (fun z => Or.elim z ?_ (fun z => Or.elim z ?_ ?_)) <;> assumption) | (refine Or.inl (fun z => Or.elim z ?_ (fun z => Or.elim z ?_ (fun z => Or.elim z ?_ ?_))) <;> assumption))))
    · exact absurd c_9_11 (by decide)
  · refine j_w w hw338 ?_
    have ei338 : sp_i (nI i338) = i338 := sp_in' (by omega)
    refine j_iconst (v := 1) dX11_heard_5 (by decide) ?_
    refine j_callV (q := (RX11, TX11, 8)) dX11_heard_6 kX11_start lX11_76 inX11_start seX11_start h.m rfl (cm_start0 hl w _ _ h) (Nat.le_of_ble_eq_true rfl) ⟨(Nat.le_of_ble_eq_true rfl), (Nat.le_of_ble_eq_true rfl)⟩ rfl (Nat.le_of_ble_eq_true rfl) rfl rfl (fun _ _ h => h.elim) ?_
    rintro _ w2 ⟨rfl, fm2, h2⟩
    have R2 := R.th (k := 0)
    refine j_if_ne (tgt := 34) dX11_heard_9 (by decide) (fun c_9_25 => ?_) (fun c_9_25 => ?_)
    · exact absurd c_9_25 (by decide)
    · refine j_aload_n dX11_heard_12 rfl rfl ?_
      refine j_iload_n dX11_heard_13 rfl ?_
      refine j_iconst (v := 0) dX11_heard_14 (by decide) ?_
      refine j_iconst (v := 3) dX11_heard_15 (by decide) ?_
      refine j_callS dX11_heard_16 kX11_isIn lX11_59 stX11_isIn (cm_isIn_r hl w2 _ (0) (3)) (Nat.le_of_ble_eq_true rfl) ⟨(Nat.le_of_ble_eq_true rfl), (Nat.le_of_ble_eq_true rfl)⟩ rfl (Nat.le_of_ble_eq_true rfl) rfl rfl (fun _ _ h => h.elim) ?_
      rintro _ _ ⟨⟨rfl, hye339⟩ | ⟨rfl, hno339⟩, hw339⟩
      · refine j_w w2 hw339 ?_
        refine j_if_ne (tgt := 26) dX11_heard_19 (by decide) (fun c_19_34 => ?_) (fun c_19_34 => ?_)
        · refine j_iconst (v := 0) dX11_heard_26 (by decide) ?_
          refine j_iconst (v := 2) dX11_heard_27 (by decide) ?_
          refine j_callV (q := (RX11, TX11, 8)) dX11_heard_28 kX11_refuse lX11_52 inX11_refuse seX11_refuse h2.m rfl (cm_refuse0 hl w2 _ _ h2 rfl) (Nat.le_of_ble_eq_true rfl) ⟨(Nat.le_of_ble_eq_true rfl), (Nat.le_of_ble_eq_true rfl)⟩ rfl (Nat.le_of_ble_eq_true rfl) rfl rfl (fun _ _ h => h.elim) ?_
          rintro _ _ ⟨rfl, hw340⟩
          refine j_w w2 hw340 ?_
          refine j_if_eq (tgt := 38) dX11_heard_31 (by decide) (fun c_31_40 => ?_) (fun c_31_40 => ?_)
          · refine j_aload_n dX11_heard_38 rfl rfl ?_
            refine j_iload_n dX11_heard_39 rfl ?_
            refine j_iload_n dX11_heard_40 rfl ?_
            refine j_callV (q := (RX11, TX11, 8)) dX11_heard_41 kX11_heardTold lX11_205 inX11_heardTold seX11_heardTold h2.m rfl (cx_heardTold hl w2 _ _ (i338) _ h2 R2 (by omega)) (Nat.le_of_ble_eq_true rfl) ⟨(Nat.le_of_ble_eq_true rfl), (Nat.le_of_ble_eq_true rfl)⟩ rfl (Nat.le_of_ble_eq_true rfl) rfl rfl (fun _ _ h => h.elim) ?_
            rintro _ _ ⟨rfl, hw341⟩
            refine j_w w2 hw341 ?_
            refine j_iret dX11_heard_44 rfl rfl ?_ (Nat.le_of_ble_eq_true rfl) (Nat.le_of_ble_eq_true rfl)
            refine cast (congrFun (congrFun hQ9 _) _) ?_
            try rw [ei338]
            refine ⟨_, _, rfl, (fm2.le (q' := 59) (by decide)), h2, sp_X0 ?_ rfl R2 rfl⟩
            first | (first | (refine sp_k22_0 ?_ ?_ <;> (first | (with_reducible assumption) | (refine Or.inl ?_; (with_reducible assumption)) | (refine Or.inr ?_; (with_reducible assumption)) | (refine Or.inr (Or.inl ?_); (with_reducible assumption)) | (refine Or.inr (Or.inr ?_); (with_reducible assumption)) | (refine Or.inr (Or.inr (Or.inl ?_)); (with_reducible assumption)) | (refine Or.inr (Or.inr (Or.inr ?_)); (with_reducible assumption)) | (refine fun z => Or.elim z ?_ ?_ <;> (with_reducible assumption)) | (refine fun z => Or.elim z ?_ (fun z => Or.elim z ?_ ?_) <;> (with_reducible assumption)) | (refine fun z => Or.elim z ?_ (fun z => Or.elim z ?_ (fun z => Or.elim z ?_ ?_)) <;> (with_reducible assumption)) | (refine fun z => Or.elim z (fun z9 => z9 ?_) ?_ <;> (first | (with_reducible assumption) | (refine Or.inl ?_; (with_reducible assumption)) | (refine Or.inr (Or.inl ?_); (with_reducible assumption)) | (refine Or.inr (Or.inr ?_); (with_reducible assumption)) | (refine Or.inr (Or.inr (Or.inl ?_)); (with_reducible assumption)) | (refine Or.inr (Or.inr (Or.inr ?_)); (with_reducible assumption)))) | (refine Or.inl (fun z => Or.elim z ?_ (fun z => Or.elim z ?_ ?_)) <;> (with_reducible assumption)) | (refine Or.inl (fun z => Or.elim z ?_ (fun z => Or.elim z ?_ (fun z => Or.elim z ?_ ?_))) <;> (with_reducible assumption))))) | (first | (refine sp_k22_0 ?_ ?_ <;> (first | assumption | (refine Or.inl ?_; assumption) | (refine Or.inr ?_; assumption) | (refine Or.inr (Or.inl ?_); assumption) | (refine Or.inr (Or.inr ?_); assumption) | (refine Or.inr (Or.inr (Or.inl ?_)); assumption) | (refine Or.inr (Or.inr (Or.inr ?_)); assumption) | (refine fun z => Or.elim z ?_ ?_ <;> assumption) | (refine fun z => Or.elim z ?_ (fun z => Or.elim z ?_ ?_) <;> assumption) | (refine fun z => Or.elim z ?_ (fun z => Or.elim z ?_ (fun z => Or.elim z ?_ ?_)) <;> assumption) | (refine fun z => Or.elim z (fun z9 => z9 ?_) ?_ <;> (first | assumption | (refine Or.inl ?_; assumption) | (refine Or.inr (Or.inl ?_); assumption) | (refine Or.inr (Or.inr ?_); assumption) | (refine Or.inr (Or.inr (Or.inl ?_)); assumption) | (refine Or.inr (Or.inr (Or.inr ?_)); assumption))) | (refine Or.inl (fun z => Or.elim z ?_ (fun z => Or.elim z ?_ ?_)) <;> assumption) | (refine Or.inl (fun z => Or.elim z ?_ (fun z => Or.elim z ?_ (fun z => Or.elim z ?_ ?_))) <;> assumption))))
          · exact absurd c_31_40 (by decide)
        · exact absurd c_19_34 (by decide)
      · refine j_w w2 hw339 ?_
        refine j_if_ne (tgt := 26) dX11_heard_19 (by decide) (fun c_19_55 => ?_) (fun c_19_55 => ?_)
        · exact absurd c_19_55 (by decide)
        · refine j_iconst (v := 1) dX11_heard_22 (by decide) ?_
          refine j_goto (tgt := 27) dX11_heard_23 (by decide) ?_
          refine j_iconst (v := 2) dX11_heard_27 (by decide) ?_
          refine j_callV (q := (RX11, TX11, 8)) dX11_heard_28 kX11_refuse lX11_52 inX11_refuse seX11_refuse h2.m rfl (cm_refuse1 hl w2 _ _ h2 rfl (by decide)) (Nat.le_of_ble_eq_true rfl) ⟨(Nat.le_of_ble_eq_true rfl), (Nat.le_of_ble_eq_true rfl)⟩ rfl (Nat.le_of_ble_eq_true rfl) rfl rfl (fun _ _ h => h.elim) ?_
          rintro _ w3 ⟨rfl, fm3, h3⟩
          have R3 := R2.th (k := 2)
          refine j_if_eq (tgt := 38) dX11_heard_31 (by decide) (fun c_31_63 => ?_) (fun c_31_63 => ?_)
          · exact absurd c_31_63 (by decide)
          · refine j_iconst (v := 0) dX11_heard_34 (by decide) ?_
            refine j_goto (tgt := 44) dX11_heard_35 (by decide) ?_
            refine j_iret dX11_heard_44 rfl rfl ?_ (Nat.le_of_ble_eq_true rfl) (Nat.le_of_ble_eq_true rfl)
            refine cast (congrFun (congrFun hQ9 _) _) ?_
            try rw [ei338]
            refine ⟨_, _, rfl, ((fm2.le (q' := 59) (by decide)).tr (fm3.le (q' := 59) (by decide))), h3, sp_X1 (k := 2) ?_ (by decide) rfl R3⟩
            first | (first | (refine sp_k22_2 ?_ ?_ <;> (first | (with_reducible assumption) | (refine Or.inl ?_; (with_reducible assumption)) | (refine Or.inr ?_; (with_reducible assumption)) | (refine Or.inr (Or.inl ?_); (with_reducible assumption)) | (refine Or.inr (Or.inr ?_); (with_reducible assumption)) | (refine Or.inr (Or.inr (Or.inl ?_)); (with_reducible assumption)) | (refine Or.inr (Or.inr (Or.inr ?_)); (with_reducible assumption)) | (refine fun z => Or.elim z ?_ ?_ <;> (with_reducible assumption)) | (refine fun z => Or.elim z ?_ (fun z => Or.elim z ?_ ?_) <;> (with_reducible assumption)) | (refine fun z => Or.elim z ?_ (fun z => Or.elim z ?_ (fun z => Or.elim z ?_ ?_)) <;> (with_reducible assumption)) | (refine fun z => Or.elim z (fun z9 => z9 ?_) ?_ <;> (first | (with_reducible assumption) | (refine Or.inl ?_; (with_reducible assumption)) | (refine Or.inr (Or.inl ?_); (with_reducible assumption)) | (refine Or.inr (Or.inr ?_); (with_reducible assumption)) | (refine Or.inr (Or.inr (Or.inl ?_)); (with_reducible assumption)) | (refine Or.inr (Or.inr (Or.inr ?_)); (with_reducible assumption)))) | (refine Or.inl (fun z => Or.elim z ?_ (fun z => Or.elim z ?_ ?_)) <;> (with_reducible assumption)) | (refine Or.inl (fun z => Or.elim z ?_ (fun z => Or.elim z ?_ (fun z => Or.elim z ?_ ?_))) <;> (with_reducible assumption))))) | (first | (refine sp_k22_2 ?_ ?_ <;> (first | assumption | (refine Or.inl ?_; assumption) | (refine Or.inr ?_; assumption) | (refine Or.inr (Or.inl ?_); assumption) | (refine Or.inr (Or.inr ?_); assumption) | (refine Or.inr (Or.inr (Or.inl ?_)); assumption) | (refine Or.inr (Or.inr (Or.inr ?_)); assumption) | (refine fun z => Or.elim z ?_ ?_ <;> assumption) | (refine fun z => Or.elim z ?_ (fun z => Or.elim z ?_ ?_) <;> assumption) | (refine fun z => Or.elim z ?_ (fun z => Or.elim z ?_ (fun z => Or.elim z ?_ ?_)) <;> assumption) | (refine fun z => Or.elim z (fun z9 => z9 ?_) ?_ <;> (first | assumption | (refine Or.inl ?_; assumption) | (refine Or.inr (Or.inl ?_); assumption) | (refine Or.inr (Or.inr ?_); assumption) | (refine Or.inr (Or.inr (Or.inl ?_)); assumption) | (refine Or.inr (Or.inr (Or.inr ?_)); assumption))) | (refine Or.inl (fun z => Or.elim z ?_ (fun z => Or.elim z ?_ ?_)) <;> assumption) | (refine Or.inl (fun z => Or.elim z ?_ (fun z => Or.elim z ?_ (fun z => Or.elim z ?_ ?_))) <;> assumption))))
set_option maxRecDepth 100000 in
set_option maxHeartbeats 8000000 in
theorem cx_isNoSpan (hl : l.stackTraces = false) (w : z_W) (x y z : Int32)  : z_Con G l mX11_isNoSpan 14 0 0 w [.int x, .int y, .int z] (fun v w9 => ((v = some (.int 1) ∧ sp_bsp x y z) ∨ (v = some (.int 0) ∧ (¬ sp_bsp x y z) ∧ z_vl x ∧ z_vl y ∧ (1 ≤ z ∧ z ≤ 99) ∧ 0 ≤ z_mny x y z ∧ z_mny x y z ≤ 40)) ∧ w9 = w) (fun _ _ => False) := by
  generalize hQ9 : (fun (v : Option Value) (w9 : z_W) => ((v = some (.int 1) ∧ sp_bsp x y z) ∨ (v = some (.int 0) ∧ (¬ sp_bsp x y z) ∧ z_vl x ∧ z_vl y ∧ (1 ≤ z ∧ z ≤ 99) ∧ 0 ≤ z_mny x y z ∧ z_mny x y z ≤ 40)) ∧ w9 = w) = Q9
  refine z_body hl (by decide) rfl (Nat.le_of_ble_eq_true rfl) ?_
  show z_J G l mX11_isNoSpan _ 0 [(0, _), (1, _), (2, _)] [] _ 0 0
  refine j_iload_n dX11_isNoSpan_0 rfl ?_
  refine j_callS dX11_isNoSpan_1 kX11_isNoValue lX11_79 stX11_isNoValue (cm_isNoValue_r hl w _) (Nat.le_of_ble_eq_true rfl) ⟨(Nat.le_of_ble_eq_true rfl), (Nat.le_of_ble_eq_true rfl)⟩ rfl (Nat.le_of_ble_eq_true rfl) rfl rfl (fun _ _ h => h.elim) ?_
  rintro _ _ ⟨⟨rfl, hno342⟩ | ⟨rfl, hye342⟩, hw342⟩
  · refine j_w w hw342 ?_
    refine j_if_ne (tgt := 35) dX11_isNoSpan_4 (by decide) (fun c_4_6 => ?_) (fun c_4_6 => ?_)
    · refine j_iconst (v := 1) dX11_isNoSpan_35 (by decide) ?_
      refine j_goto (tgt := 40) dX11_isNoSpan_36 (by decide) ?_
      refine j_iret dX11_isNoSpan_40 rfl rfl ?_ (Nat.le_of_ble_eq_true rfl) (Nat.le_of_ble_eq_true rfl)
      refine cast (congrFun (congrFun hQ9 _) _) ?_
      exact ⟨Or.inl ⟨rfl, (by first | (refine sp_bsp_a ?_; assumption) | (refine sp_bsp_b ?_; assumption) | (refine sp_bsp_c ?_; assumption) | (refine sp_bsp_d ?_; assumption))⟩, rfl⟩
    · exact absurd c_4_6 (by decide)
  · refine j_w w hw342 ?_
    refine j_if_ne (tgt := 35) dX11_isNoSpan_4 (by decide) (fun c_4_14 => ?_) (fun c_4_14 => ?_)
    · exact absurd c_4_14 (by decide)
    · refine j_iload_n dX11_isNoSpan_7 rfl ?_
      refine j_callS dX11_isNoSpan_8 kX11_isNoValue lX11_79 stX11_isNoValue (cm_isNoValue_r hl w _) (Nat.le_of_ble_eq_true rfl) ⟨(Nat.le_of_ble_eq_true rfl), (Nat.le_of_ble_eq_true rfl)⟩ rfl (Nat.le_of_ble_eq_true rfl) rfl rfl (fun _ _ h => h.elim) ?_
      rintro _ _ ⟨⟨rfl, hno343⟩ | ⟨rfl, hye343⟩, hw343⟩
      · refine j_w w hw343 ?_
        refine j_if_ne (tgt := 35) dX11_isNoSpan_11 (by decide) (fun c_11_20 => ?_) (fun c_11_20 => ?_)
        · refine j_iconst (v := 1) dX11_isNoSpan_35 (by decide) ?_
          refine j_goto (tgt := 40) dX11_isNoSpan_36 (by decide) ?_
          refine j_iret dX11_isNoSpan_40 rfl rfl ?_ (Nat.le_of_ble_eq_true rfl) (Nat.le_of_ble_eq_true rfl)
          refine cast (congrFun (congrFun hQ9 _) _) ?_
          exact ⟨Or.inl ⟨rfl, (by first | (refine sp_bsp_a ?_; assumption) | (refine sp_bsp_b ?_; assumption) | (refine sp_bsp_c ?_; assumption) | (refine sp_bsp_d ?_; assumption))⟩, rfl⟩
        · exact absurd c_11_20 (by decide)
      · refine j_w w hw343 ?_
        refine j_if_ne (tgt := 35) dX11_isNoSpan_11 (by decide) (fun c_11_28 => ?_) (fun c_11_28 => ?_)
        · exact absurd c_11_28 (by decide)
        · refine j_iload_n dX11_isNoSpan_14 rfl ?_
          refine j_iconst (v := 1) dX11_isNoSpan_15 (by decide) ?_
          refine j_bipush (v := 99) dX11_isNoSpan_16 (by decide) ?_
          refine j_callS dX11_isNoSpan_18 kX11_isIn lX11_59 stX11_isIn (cm_isIn_r hl w _ (1) (99)) (Nat.le_of_ble_eq_true rfl) ⟨(Nat.le_of_ble_eq_true rfl), (Nat.le_of_ble_eq_true rfl)⟩ rfl (Nat.le_of_ble_eq_true rfl) rfl rfl (fun _ _ h => h.elim) ?_
          rintro _ _ ⟨⟨rfl, hye344⟩ | ⟨rfl, hno344⟩, hw344⟩
          · refine j_w w hw344 ?_
            refine j_if_eq (tgt := 35) dX11_isNoSpan_21 (by decide) (fun c_21_36 => ?_) (fun c_21_36 => ?_)
            · exact absurd c_21_36 (by decide)
            · refine j_iload_n dX11_isNoSpan_24 rfl ?_
              refine j_iload_n dX11_isNoSpan_25 rfl ?_
              refine j_iload_n dX11_isNoSpan_26 rfl ?_
              refine j_callS dX11_isNoSpan_27 kX11_many lX11_179 stX11_many (cm_many hl w _ _ _ (z_ne0 (q_nor (by assumption)).1)) (Nat.le_of_ble_eq_true rfl) ⟨(Nat.le_of_ble_eq_true rfl), (Nat.le_of_ble_eq_true rfl)⟩ rfl (Nat.le_of_ble_eq_true rfl) rfl rfl (fun _ _ h => h.elim) ?_
              rintro _ _ ⟨rfl, hw345⟩
              refine j_w w hw345 ?_
              refine j_bipush (v := 40) dX11_isNoSpan_30 (by decide) ?_
              refine j_icmp_le (tgt := 39) dX11_isNoSpan_32 (by decide) (fun c_32_45 => ?_) (fun c_32_45 => ?_)
              · refine j_iconst (v := 0) dX11_isNoSpan_39 (by decide) ?_
                refine j_iret dX11_isNoSpan_40 rfl rfl ?_ (Nat.le_of_ble_eq_true rfl) (Nat.le_of_ble_eq_true rfl)
                refine cast (congrFun (congrFun hQ9 _) _) ?_
                exact ⟨Or.inr ⟨rfl, sp_bsp_n (by assumption) (by assumption) (by assumption) c_32_45, sp_vl (by assumption), sp_vl (by assumption), q_nor (by assumption), sp_mny0 (sp_vl (by assumption)) (sp_vl (by assumption)) (q_nor (by assumption)), c_32_45⟩, rfl⟩
              · refine j_iconst (v := 1) dX11_isNoSpan_35 (by decide) ?_
                refine j_goto (tgt := 40) dX11_isNoSpan_36 (by decide) ?_
                refine j_iret dX11_isNoSpan_40 rfl rfl ?_ (Nat.le_of_ble_eq_true rfl) (Nat.le_of_ble_eq_true rfl)
                refine cast (congrFun (congrFun hQ9 _) _) ?_
                exact ⟨Or.inl ⟨rfl, (by first | (refine sp_bsp_a ?_; assumption) | (refine sp_bsp_b ?_; assumption) | (refine sp_bsp_c ?_; assumption) | (refine sp_bsp_d ?_; assumption))⟩, rfl⟩
          · refine j_w w hw344 ?_
            refine j_if_eq (tgt := 35) dX11_isNoSpan_21 (by decide) (fun c_21_56 => ?_) (fun c_21_56 => ?_)
            · refine j_iconst (v := 1) dX11_isNoSpan_35 (by decide) ?_
              refine j_goto (tgt := 40) dX11_isNoSpan_36 (by decide) ?_
              refine j_iret dX11_isNoSpan_40 rfl rfl ?_ (Nat.le_of_ble_eq_true rfl) (Nat.le_of_ble_eq_true rfl)
              refine cast (congrFun (congrFun hQ9 _) _) ?_
              exact ⟨Or.inl ⟨rfl, (by first | (refine sp_bsp_a ?_; assumption) | (refine sp_bsp_b ?_; assumption) | (refine sp_bsp_c ?_; assumption) | (refine sp_bsp_d ?_; assumption))⟩, rfl⟩
            · exact absurd c_21_56 (by decide)
set_option maxRecDepth 100000 in
set_option maxHeartbeats 8000000 in
theorem cx_span (hl : l.stackTraces = false) (w : z_W) (S : sp_S) (s : z_Z) (x y u : Int32) (a0 g : Nat) (h : z_mst w s) (R : sp_MR S s) (hz : 1 ≤ u ∧ u ≤ 99) (h0 : 0 ≤ z_mny x y u) (hm40 : z_mny x y u ≤ 40) (ha : a0 ≤ sp_mn x y u) (hg : g < 2) : z_Con G l mX11_span 20 80 1240 w [.ref 1000, .int x, .int y, .int u, .int (nI a0), .int (nI g)] (fun v w9 => ∃ (s9 : z_Z), v = some (.int (sp_an (sp_hsp S x y u a0 g).1)) ∧ z_fm 59 w w9 ∧ z_mst w9 s9 ∧ sp_MR (sp_hspS S x y u a0 g) s9 ∧ s9.1.1 = s.1.1) (fun _ _ => False) := by
  have hmn : sp_mn x y u ≤ 40 := sp_le40 hm40
  generalize hQ9 : (fun (v : Option Value) (w9 : z_W) => ∃ (s9 : z_Z), v = some (.int (sp_an (sp_hsp S x y u a0 g).1)) ∧ z_fm 59 w w9 ∧ z_mst w9 s9 ∧ sp_MR (sp_hspS S x y u a0 g) s9 ∧ s9.1.1 = s.1.1) = Q9
  refine z_body hl (by decide) rfl (Nat.le_of_ble_eq_true rfl) ?_
  show z_J G l mX11_span _ 0 [(0, _), (1, _), (2, _), (3, _), (4, _), (5, _)] [] _ 0 0
  refine j_iconst (v := 0) dX11_span_0 (by decide) ?_
  refine j_istore (lo' := [(6, _), (0, _), (1, _), (2, _), (3, _), (4, _), (5, _)]) dX11_span_1 (by decide) rfl ?_
  refine j_iload dX11_span_3 rfl ?_
  refine j_istore (lo' := [(7, _), (6, _), (0, _), (1, _), (2, _), (3, _), (4, _), (5, _)]) dX11_span_5 (by decide) rfl ?_
  have loop7 : ∀ (n9 : Nat) (w1 : z_W) (s1 : z_Z) (j mm : Nat) (c : Nat → Int32) (hh : sp_H), (a0 + j ≤ (sp_mn x y u)) → (41 < a0 + j + n9) → (sp_ho c hh mm (sp_spn x u (a0 + j) ((sp_mn x y u) - (a0 + j))) = sp_hsp S x y u a0 g) → (sp_MR (sp_uE S g hh) s1) → (s1.1.1 = s.1.1) → (z_mst w1 s1) → (z_fm 59 w w1) → z_J G l mX11_span (20, 80, 1240, w, Q9, (fun _ _ => False)) 7 [(0, .ref 1000), (1, .int x), (2, .int y), (3, .int u), (4, .int (nI a0)), (5, .int (nI g)), (6, .int (nI mm)), (7, .int (nI (a0 + j)))] [] w1 (2 * j) (31 * j) := by
    intro n9
    induction n9 with
    | zero => intro w1 s1 j mm c hh hj hf9 he hR hth hm hfm; exact absurd hf9 (by omega)
    | succ n9 ih =>
      intro w1 s1 j mm c hh hj hf9 he hR hth hm hfm
      refine j_iload dX11_span_7 rfl ?_
      refine j_iload_n dX11_span_9 rfl ?_
      refine j_iload_n dX11_span_10 rfl ?_
      refine j_iload_n dX11_span_11 rfl ?_
      refine j_callS dX11_span_12 kX11_many lX11_179 stX11_many (cx_many hl w1 _ _ _ hz h0) (Nat.le_of_ble_eq_true rfl) ⟨(by show _ ≤ 80; omega), (by show _ ≤ 1240; omega)⟩ rfl (Nat.le_of_ble_eq_true rfl) rfl rfl (fun _ _ h => h.elim) ?_
      rintro _ _ ⟨rfl, hw346⟩
      refine j_w w1 hw346 ?_
      refine j_icmp_ge (tgt := 51) dX11_span_15 (by decide) (fun c_15_19 => ?_) (fun c_15_19 => ?_)
      · have hb15 : (sp_mn x y u) ≤ (a0 + j) := (nI_leI (a := (sp_mn x y u)) (b := (a0 + j)) (by omega) (by omega)).mp c_15_19
        refine j_iload dX11_span_51 rfl ?_
        refine j_iret dX11_span_53 rfl rfl ?_ (by show _ ≤ 80; omega) (by show _ ≤ 1240; omega)
        refine cast (congrFun (congrFun hQ9 _) _) ?_
        rw [show (sp_mn x y u) - (a0 + j) = 0 from by omega] at he
        exact ⟨_, by rw [← he]; rfl, hfm, hm, by unfold sp_hspS; rw [← he]; exact hR, hth⟩
      · have hb15 : (a0 + j) < (sp_mn x y u) := Nat.not_le.mp (fun z => c_15_19 ((nI_leI (a := (sp_mn x y u)) (b := (a0 + j)) (by omega) (by omega)).mpr z))
        refine j_aload_n dX11_span_18 rfl rfl ?_
        refine j_getf dX11_span_19 fX11_40 hm.m rfl ?_
        refine j_iload dX11_span_22 rfl ?_
        obtain ⟨fz347, gz347, hz347⟩ := hm.hs
        refine j_aald (v := .ref (1009 + g)) dX11_span_24 gz347 rfl rfl (vp_in_nI (by omega) (by omega)) (by rw [z_cla (by omega)]; exact hz347 _ (by omega)) ?_
        refine j_iload_n dX11_span_25 rfl ?_
        refine j_iload dX11_span_26 rfl ?_
        refine j_iload_n dX11_span_28 rfl ?_
        refine j_imul dX11_span_29 ?_
        refine j_iadd dX11_span_30 ?_
        refine j_callVN (q := (RX10, TX10, 5)) dX11_span_31 kX10_refuses lX11_102 inX10_refuses seX10_refuses (hm.hd (i := g) (by omega)) rfl (cm_refuses_r hl w1 (S) hh _ (g) _ hm hR (by omega)) (Nat.le_of_ble_eq_true rfl) ⟨(by show _ ≤ 80; omega), (by show _ ≤ 1240; omega)⟩ rfl (Nat.le_of_ble_eq_true rfl) rfl rfl (fun _ _ h => h.elim) ?_
        rintro _ w2 (⟨rfl, hin2, hw2⟩ | ⟨rfl, h22, s2, hin2, fm2, h2, R2, ht2, hqp2⟩)
        · refine j_w w1 hw2 ?_
          refine j_if_eq (tgt := 42) dX11_span_34 (by decide) (fun c_34_40 => ?_) (fun c_34_40 => ?_)
          · exact absurd c_34_40 (by decide)
          · refine j_aload_n dX11_span_37 rfl rfl ?_
            refine j_callV (q := (RX11, TX11, 8)) dX11_span_38 kX11_nine lX11_105 inX11_nine seX11_nine hm.m rfl (cm_nine hl w1 _ hm) (Nat.le_of_ble_eq_true rfl) ⟨(by show _ ≤ 80; omega), (by show _ ≤ 1240; omega)⟩ rfl (Nat.le_of_ble_eq_true rfl) rfl rfl (fun _ _ h => h.elim) ?_
            rintro _ w3 ⟨rfl, fm3, h3⟩
            have R3 := hR.ni
            refine j_iret dX11_span_41 rfl rfl ?_ (by show _ ≤ 80; omega) (by show _ ≤ 1240; omega)
            refine cast (congrFun (congrFun hQ9 _) _) ?_
            rw [show (sp_mn x y u) - (a0 + j) = ((sp_mn x y u) - (a0 + (j + 1))) + 1 from by omega, sp_spnS, sp_hoN hin2] at he
            exact ⟨_, by rw [← he]; rfl, (hfm.tr (fm3.le (q' := 59) (by decide))), h3, by unfold sp_hspS; rw [← he]; exact R3, hth⟩
        · have th2 := (congrArg Prod.fst ht2).trans hth
          refine j_if_eq (tgt := 42) dX11_span_34 (by decide) (fun c_34_51 => ?_) (fun c_34_51 => ?_)
          · refine j_iinc (lo' := [(6, _), (0, _), (1, _), (2, _), (3, _), (4, _), (5, _), (7, _)]) dX11_span_42 rfl (z_inc _) (by decide) rfl ?_
            refine j_iinc (lo' := [(7, _), (6, _), (0, _), (1, _), (2, _), (3, _), (4, _), (5, _)]) dX11_span_45 rfl (z_inc _) (by decide) rfl ?_
            refine j_goto (tgt := 7) dX11_span_48 (by decide) ?_
            refine j_widen (kc' := (2 * (j + 1))) (ks' := (31 * (j + 1))) (by omega) (by omega) ?_
            exact j_lo2 (ih w2 _ (j + 1) (mm + 1) _ _ (by omega) (by omega) (by rw [show (sp_mn x y u) - (a0 + j) = ((sp_mn x y u) - (a0 + (j + 1))) + 1 from by omega, sp_spnS, sp_hoS hin2] at he; exact he) R2 (by exact th2) h2 (hfm.tr (fm2.le (q' := 59) (by decide)))) (z_q1 rfl (z_q1 rfl (z_q1 rfl (z_q1 rfl (z_q1 rfl (z_q1 rfl (z_q1 rfl (z_q1 rfl z_q0))))))))
          · exact absurd c_34_51 (by decide)
  refine j_widen (kc' := (2 * 0)) (ks' := (31 * 0)) (by omega) (by omega) ?_
  exact j_lo2 (loop7 42 w _ 0 0 _ _ (by omega) (by omega) rfl (by rw [sp_uE_id]; exact R) (by exact rfl) h z_fm.rf) (z_q1 rfl (z_q1 rfl (z_q1 rfl (z_q1 rfl (z_q1 rfl (z_q1 rfl (z_q1 rfl (z_q1 rfl z_q0))))))))
set_option maxRecDepth 100000 in
set_option maxHeartbeats 8000000 in
theorem cx_hearSpan (hl : l.stackTraces = false) (w : z_W) (S : sp_S) (s : z_Z) (a : Int32) (b : Int32) (c : Int32) (g : Int32) (h : z_mst w s) (R : sp_MR S s)  : z_Con G l mX11_hearSpan 24 80 1240 w [.ref 1000, .int a, .int b, .int c, .int g] (fun v w9 => ∃ (r9 : Int32) (s9 : z_Z), v = some (.int r9) ∧ z_fm 59 w w9 ∧ z_mst w9 s9 ∧ s9.1.1 = q_k22 g (sp_bsp a b c) ∧ sp_MR (if q_k22 g (sp_bsp a b c) = 0 then sp_hspS S a b c 0 (sp_i g) else S) s9 ∧ (q_k22 g (sp_bsp a b c) = 0 → r9 = sp_an (sp_hsp S a b c 0 (sp_i g)).1)) (fun _ _ => False) := by
  generalize hQ9 : (fun (v : Option Value) (w9 : z_W) => ∃ (r9 : Int32) (s9 : z_Z), v = some (.int r9) ∧ z_fm 59 w w9 ∧ z_mst w9 s9 ∧ s9.1.1 = q_k22 g (sp_bsp a b c) ∧ sp_MR (if q_k22 g (sp_bsp a b c) = 0 then sp_hspS S a b c 0 (sp_i g) else S) s9 ∧ (q_k22 g (sp_bsp a b c) = 0 → r9 = sp_an (sp_hsp S a b c 0 (sp_i g)).1)) = Q9
  refine z_body hl (by decide) rfl (Nat.le_of_ble_eq_true rfl) ?_
  show z_J G l mX11_hearSpan _ 0 [(0, _), (1, _), (2, _), (3, _), (4, _)] [] _ 0 0
  refine j_aload_n dX11_hearSpan_0 rfl rfl ?_
  refine j_iload dX11_hearSpan_1 rfl ?_
  refine j_callS dX11_hearSpan_3 kX11_isNoTwo lX11_72 stX11_isNoTwo (cm_isNoTwo_r hl w _) (Nat.le_of_ble_eq_true rfl) ⟨(Nat.le_of_ble_eq_true rfl), (Nat.le_of_ble_eq_true rfl)⟩ rfl (Nat.le_of_ble_eq_true rfl) rfl rfl (fun _ _ h => h.elim) ?_
  rintro _ _ ⟨⟨rfl, hno348⟩ | ⟨rfl, i348, hi348, ht348, rfl⟩, hw348⟩
  · refine j_w w hw348 ?_
    refine j_iconst (v := 1) dX11_hearSpan_6 (by decide) ?_
    refine j_callV (q := (RX11, TX11, 8)) dX11_hearSpan_7 kX11_start lX11_76 inX11_start seX11_start h.m rfl (cm_start1 hl w _ _ h (by decide)) (Nat.le_of_ble_eq_true rfl) ⟨(Nat.le_of_ble_eq_true rfl), (Nat.le_of_ble_eq_true rfl)⟩ rfl (Nat.le_of_ble_eq_true rfl) rfl rfl (fun _ _ h => h.elim) ?_
    rintro _ w1 ⟨rfl, fm1, h1⟩
    have R1 := R.th (k := 1)
    refine j_if_ne (tgt := 27) dX11_hearSpan_10 (by decide) (fun c_10_11 => ?_) (fun c_10_11 => ?_)
    · refine j_iconst (v := 0) dX11_hearSpan_27 (by decide) ?_
      refine j_goto (tgt := 41) dX11_hearSpan_28 (by decide) ?_
      refine j_iret dX11_hearSpan_41 rfl rfl ?_ (Nat.le_of_ble_eq_true rfl) (Nat.le_of_ble_eq_true rfl)
      refine cast (congrFun (congrFun hQ9 _) _) ?_
      refine ⟨_, _, rfl, (fm1.le (q' := 59) (by decide)), h1, sp_X1 (k := 1) ?_ (by decide) rfl R1⟩
      first | (first | (refine sp_k22_1 ?_ <;> (first | (with_reducible assumption) | (refine Or.inl ?_; (with_reducible assumption)) | (refine Or.inr ?_; (with_reducible assumption)) | (refine Or.inr (Or.inl ?_); (with_reducible assumption)) | (refine Or.inr (Or.inr ?_); (with_reducible assumption)) | (refine Or.inr (Or.inr (Or.inl ?_)); (with_reducible assumption)) | (refine Or.inr (Or.inr (Or.inr ?_)); (with_reducible assumption)) | (refine fun z => Or.elim z ?_ ?_ <;> (with_reducible assumption)) | (refine fun z => Or.elim z ?_ (fun z => Or.elim z ?_ ?_) <;> (with_reducible assumption)) | (refine fun z => Or.elim z ?_ (fun z => Or.elim z ?_ (fun z => Or.elim z ?_ ?_)) <;> (with_reducible assumption)) | (refine fun z => Or.elim z (fun z9 => z9 ?_) ?_ <;> (first | (with_reducible assumption) | (refine Or.inl ?_; (with_reducible assumption)) | (refine Or.inr (Or.inl ?_); (with_reducible assumption)) | (refine Or.inr (Or.inr ?_); (with_reducible assumption)) | (refine Or.inr (Or.inr (Or.inl ?_)); (with_reducible assumption)) | (refine Or.inr (Or.inr (Or.inr ?_)); (with_reducible assumption)))) | (refine Or.inl (fun z => Or.elim z ?_ (fun z => Or.elim z ?_ ?_)) <;> (with_reducible assumption)) | (refine Or.inl (fun z => Or.elim z ?_ (fun z => Or.elim z ?_ (fun z => Or.elim z ?_ ?_))) <;> (with_reducible assumption))))) | (first | (refine sp_k22_1 ?_ <;> (first | assumption | (refine Or.inl ?_; assumption) | (refine Or.inr ?_; assumption) | (refine Or.inr (Or.inl ?_); assumption) | (refine Or.inr (Or.inr ?_); assumption) | (refine Or.inr (Or.inr (Or.inl ?_)); assumption) | (refine Or.inr (Or.inr (Or.inr ?_)); assumption) | (refine fun z => Or.elim z ?_ ?_ <;> assumption) | (refine fun z => Or.elim z ?_ (fun z => Or.elim z ?_ ?_) <;> assumption) | (refine fun z => Or.elim z ?_ (fun z => Or.elim z ?_ (fun z => Or.elim z ?_ ?_)) <;> assumption) | (refine fun z => Or.elim z (fun z9 => z9 ?_) ?_ <;> (first | assumption | (refine Or.inl ?_; assumption) | (refine Or.inr (Or.inl ?_); assumption) | (refine Or.inr (Or.inr ?_); assumption) | (refine Or.inr (Or.inr (Or.inl ?_)); assumption) | (refine Or.inr (Or.inr (Or.inr ?_)); assumption))) | (refine Or.inl (fun z => Or.elim z ?_ (fun z => Or.elim z ?_ ?_)) <;> assumption) | (refine Or.inl (fun z => Or.elim z ?_ (fun z => Or.elim z ?_ (fun z => Or.elim z ?_ ?_))) <;> assumption))))
    · exact absurd c_10_11 (by decide)
  · refine j_w w hw348 ?_
    have ei348 : sp_i (nI i348) = i348 := sp_in' (by omega)
    refine j_iconst (v := 1) dX11_hearSpan_6 (by decide) ?_
    refine j_callV (q := (RX11, TX11, 8)) dX11_hearSpan_7 kX11_start lX11_76 inX11_start seX11_start h.m rfl (cm_start0 hl w _ _ h) (Nat.le_of_ble_eq_true rfl) ⟨(Nat.le_of_ble_eq_true rfl), (Nat.le_of_ble_eq_true rfl)⟩ rfl (Nat.le_of_ble_eq_true rfl) rfl rfl (fun _ _ h => h.elim) ?_
    rintro _ w2 ⟨rfl, fm2, h2⟩
    have R2 := R.th (k := 0)
    refine j_if_ne (tgt := 27) dX11_hearSpan_10 (by decide) (fun c_10_25 => ?_) (fun c_10_25 => ?_)
    · exact absurd c_10_25 (by decide)
    · refine j_aload_n dX11_hearSpan_13 rfl rfl ?_
      refine j_iload_n dX11_hearSpan_14 rfl ?_
      refine j_iload_n dX11_hearSpan_15 rfl ?_
      refine j_iload_n dX11_hearSpan_16 rfl ?_
      refine j_callS dX11_hearSpan_17 kX11_isNoSpan lX11_182 stX11_isNoSpan (cx_isNoSpan hl w2 _ _ _) (Nat.le_of_ble_eq_true rfl) ⟨(Nat.le_of_ble_eq_true rfl), (Nat.le_of_ble_eq_true rfl)⟩ rfl (Nat.le_of_ble_eq_true rfl) rfl rfl (fun _ _ h => h.elim) ?_
      rintro _ _ ⟨⟨rfl, hsp349⟩ | ⟨rfl, hsp349, hx349, hy349, hz349, hm3490, hm3494⟩, hw349⟩
      · refine j_w w2 hw349 ?_
        refine j_iconst (v := 2) dX11_hearSpan_20 (by decide) ?_
        refine j_callV (q := (RX11, TX11, 8)) dX11_hearSpan_21 kX11_refuse lX11_52 inX11_refuse seX11_refuse h2.m rfl (cm_refuse1 hl w2 _ _ h2 rfl (by decide)) (Nat.le_of_ble_eq_true rfl) ⟨(Nat.le_of_ble_eq_true rfl), (Nat.le_of_ble_eq_true rfl)⟩ rfl (Nat.le_of_ble_eq_true rfl) rfl rfl (fun _ _ h => h.elim) ?_
        rintro _ w3 ⟨rfl, fm3, h3⟩
        have R3 := R2.th (k := 2)
        refine j_if_eq (tgt := 31) dX11_hearSpan_24 (by decide) (fun c_24_38 => ?_) (fun c_24_38 => ?_)
        · exact absurd c_24_38 (by decide)
        · refine j_iconst (v := 0) dX11_hearSpan_27 (by decide) ?_
          refine j_goto (tgt := 41) dX11_hearSpan_28 (by decide) ?_
          refine j_iret dX11_hearSpan_41 rfl rfl ?_ (Nat.le_of_ble_eq_true rfl) (Nat.le_of_ble_eq_true rfl)
          refine cast (congrFun (congrFun hQ9 _) _) ?_
          try rw [ei348]
          refine ⟨_, _, rfl, ((fm2.le (q' := 59) (by decide)).tr (fm3.le (q' := 59) (by decide))), h3, sp_X1 (k := 2) ?_ (by decide) rfl R3⟩
          first | (first | (refine sp_k22_2 ?_ ?_ <;> (first | (with_reducible assumption) | (refine Or.inl ?_; (with_reducible assumption)) | (refine Or.inr ?_; (with_reducible assumption)) | (refine Or.inr (Or.inl ?_); (with_reducible assumption)) | (refine Or.inr (Or.inr ?_); (with_reducible assumption)) | (refine Or.inr (Or.inr (Or.inl ?_)); (with_reducible assumption)) | (refine Or.inr (Or.inr (Or.inr ?_)); (with_reducible assumption)) | (refine fun z => Or.elim z ?_ ?_ <;> (with_reducible assumption)) | (refine fun z => Or.elim z ?_ (fun z => Or.elim z ?_ ?_) <;> (with_reducible assumption)) | (refine fun z => Or.elim z ?_ (fun z => Or.elim z ?_ (fun z => Or.elim z ?_ ?_)) <;> (with_reducible assumption)) | (refine fun z => Or.elim z (fun z9 => z9 ?_) ?_ <;> (first | (with_reducible assumption) | (refine Or.inl ?_; (with_reducible assumption)) | (refine Or.inr (Or.inl ?_); (with_reducible assumption)) | (refine Or.inr (Or.inr ?_); (with_reducible assumption)) | (refine Or.inr (Or.inr (Or.inl ?_)); (with_reducible assumption)) | (refine Or.inr (Or.inr (Or.inr ?_)); (with_reducible assumption)))) | (refine Or.inl (fun z => Or.elim z ?_ (fun z => Or.elim z ?_ ?_)) <;> (with_reducible assumption)) | (refine Or.inl (fun z => Or.elim z ?_ (fun z => Or.elim z ?_ (fun z => Or.elim z ?_ ?_))) <;> (with_reducible assumption))))) | (first | (refine sp_k22_2 ?_ ?_ <;> (first | assumption | (refine Or.inl ?_; assumption) | (refine Or.inr ?_; assumption) | (refine Or.inr (Or.inl ?_); assumption) | (refine Or.inr (Or.inr ?_); assumption) | (refine Or.inr (Or.inr (Or.inl ?_)); assumption) | (refine Or.inr (Or.inr (Or.inr ?_)); assumption) | (refine fun z => Or.elim z ?_ ?_ <;> assumption) | (refine fun z => Or.elim z ?_ (fun z => Or.elim z ?_ ?_) <;> assumption) | (refine fun z => Or.elim z ?_ (fun z => Or.elim z ?_ (fun z => Or.elim z ?_ ?_)) <;> assumption) | (refine fun z => Or.elim z (fun z9 => z9 ?_) ?_ <;> (first | assumption | (refine Or.inl ?_; assumption) | (refine Or.inr (Or.inl ?_); assumption) | (refine Or.inr (Or.inr ?_); assumption) | (refine Or.inr (Or.inr (Or.inl ?_)); assumption) | (refine Or.inr (Or.inr (Or.inr ?_)); assumption))) | (refine Or.inl (fun z => Or.elim z ?_ (fun z => Or.elim z ?_ ?_)) <;> assumption) | (refine Or.inl (fun z => Or.elim z ?_ (fun z => Or.elim z ?_ (fun z => Or.elim z ?_ ?_))) <;> assumption))))
      · refine j_w w2 hw349 ?_
        refine j_iconst (v := 2) dX11_hearSpan_20 (by decide) ?_
        refine j_callV (q := (RX11, TX11, 8)) dX11_hearSpan_21 kX11_refuse lX11_52 inX11_refuse seX11_refuse h2.m rfl (cm_refuse0 hl w2 _ _ h2 rfl) (Nat.le_of_ble_eq_true rfl) ⟨(Nat.le_of_ble_eq_true rfl), (Nat.le_of_ble_eq_true rfl)⟩ rfl (Nat.le_of_ble_eq_true rfl) rfl rfl (fun _ _ h => h.elim) ?_
        rintro _ _ ⟨rfl, hw350⟩
        refine j_w w2 hw350 ?_
        refine j_if_eq (tgt := 31) dX11_hearSpan_24 (by decide) (fun c_24_52 => ?_) (fun c_24_52 => ?_)
        · refine j_aload_n dX11_hearSpan_31 rfl rfl ?_
          refine j_iload_n dX11_hearSpan_32 rfl ?_
          refine j_iload_n dX11_hearSpan_33 rfl ?_
          refine j_iload_n dX11_hearSpan_34 rfl ?_
          refine j_iconst (v := 0) dX11_hearSpan_35 (by decide) ?_
          refine j_iload dX11_hearSpan_36 rfl ?_
          refine j_callV (q := (RX11, TX11, 8)) dX11_hearSpan_38 kX11_span lX11_185 inX11_span seX11_span h2.m rfl (cx_span hl w2 S _ _ _ _ (0) (i348) h2 R2 hz349 hm3490 hm3494 (Nat.zero_le _) (by omega)) (Nat.le_of_ble_eq_true rfl) ⟨(Nat.le_of_ble_eq_true rfl), (Nat.le_of_ble_eq_true rfl)⟩ rfl (Nat.le_of_ble_eq_true rfl) rfl rfl (fun _ _ h => h.elim) ?_
          rintro _ w4 ⟨s4, rfl, fm4, h4, R4, th4⟩
          have tx4 := th4.trans rfl
          refine j_iret dX11_hearSpan_41 rfl rfl ?_ (Nat.le_of_ble_eq_true rfl) (Nat.le_of_ble_eq_true rfl)
          refine cast (congrFun (congrFun hQ9 _) _) ?_
          try rw [ei348]
          refine ⟨_, _, rfl, ((fm2.le (q' := 59) (by decide)).tr (fm4.le (q' := 59) (by decide))), h4, sp_X0 ?_ tx4 R4 rfl⟩
          first | (first | (refine sp_k22_0 ?_ ?_ <;> (first | (with_reducible assumption) | (refine Or.inl ?_; (with_reducible assumption)) | (refine Or.inr ?_; (with_reducible assumption)) | (refine Or.inr (Or.inl ?_); (with_reducible assumption)) | (refine Or.inr (Or.inr ?_); (with_reducible assumption)) | (refine Or.inr (Or.inr (Or.inl ?_)); (with_reducible assumption)) | (refine Or.inr (Or.inr (Or.inr ?_)); (with_reducible assumption)) | (refine fun z => Or.elim z ?_ ?_ <;> (with_reducible assumption)) | (refine fun z => Or.elim z ?_ (fun z => Or.elim z ?_ ?_) <;> (with_reducible assumption)) | (refine fun z => Or.elim z ?_ (fun z => Or.elim z ?_ (fun z => Or.elim z ?_ ?_)) <;> (with_reducible assumption)) | (refine fun z => Or.elim z (fun z9 => z9 ?_) ?_ <;> (first | (with_reducible assumption) | (refine Or.inl ?_; (with_reducible assumption)) | (refine Or.inr (Or.inl ?_); (with_reducible assumption)) | (refine Or.inr (Or.inr ?_); (with_reducible assumption)) | (refine Or.inr (Or.inr (Or.inl ?_)); (with_reducible assumption)) | (refine Or.inr (Or.inr (Or.inr ?_)); (with_reducible assumption)))) | (refine Or.inl (fun z => Or.elim z ?_ (fun z => Or.elim z ?_ ?_)) <;> (with_reducible assumption)) | (refine Or.inl (fun z => Or.elim z ?_ (fun z => Or.elim z ?_ (fun z => Or.elim z ?_ ?_))) <;> (with_reducible assumption))))) | (first | (refine sp_k22_0 ?_ ?_ <;> (first | assumption | (refine Or.inl ?_; assumption) | (refine Or.inr ?_; assumption) | (refine Or.inr (Or.inl ?_); assumption) | (refine Or.inr (Or.inr ?_); assumption) | (refine Or.inr (Or.inr (Or.inl ?_)); assumption) | (refine Or.inr (Or.inr (Or.inr ?_)); assumption) | (refine fun z => Or.elim z ?_ ?_ <;> assumption) | (refine fun z => Or.elim z ?_ (fun z => Or.elim z ?_ ?_) <;> assumption) | (refine fun z => Or.elim z ?_ (fun z => Or.elim z ?_ (fun z => Or.elim z ?_ ?_)) <;> assumption) | (refine fun z => Or.elim z (fun z9 => z9 ?_) ?_ <;> (first | assumption | (refine Or.inl ?_; assumption) | (refine Or.inr (Or.inl ?_); assumption) | (refine Or.inr (Or.inr ?_); assumption) | (refine Or.inr (Or.inr (Or.inl ?_)); assumption) | (refine Or.inr (Or.inr (Or.inr ?_)); assumption))) | (refine Or.inl (fun z => Or.elim z ?_ (fun z => Or.elim z ?_ ?_)) <;> assumption) | (refine Or.inl (fun z => Or.elim z ?_ (fun z => Or.elim z ?_ (fun z => Or.elim z ?_ ?_))) <;> assumption))))
        · exact absurd c_24_52 (by decide)
set_option maxRecDepth 100000 in
set_option maxHeartbeats 8000000 in
theorem cx_hearSteps (hl : l.stackTraces = false) (w : z_W) (S : sp_S) (s : z_Z) (a : Int32) (b : Int32) (c : Int32) (d : Int32) (g : Int32) (h : z_mst w s) (R : sp_MR S s)  : z_Con G l mX11_hearSteps 24 80 1240 w [.ref 1000, .int a, .int b, .int c, .int d, .int g] (fun v w9 => ∃ (r9 : Int32) (s9 : z_Z), v = some (.int r9) ∧ z_fm 59 w w9 ∧ z_mst w9 s9 ∧ s9.1.1 = q_k22 g (sp_bsp a b c ∨ (d < 0 ∨ z_mny a b c < d)) ∧ sp_MR (if q_k22 g (sp_bsp a b c ∨ (d < 0 ∨ z_mny a b c < d)) = 0 then sp_hspS S a b c (sp_i d) (sp_i g) else S) s9 ∧ (q_k22 g (sp_bsp a b c ∨ (d < 0 ∨ z_mny a b c < d)) = 0 → r9 = sp_an (sp_hsp S a b c (sp_i d) (sp_i g)).1)) (fun _ _ => False) := by
  generalize hQ9 : (fun (v : Option Value) (w9 : z_W) => ∃ (r9 : Int32) (s9 : z_Z), v = some (.int r9) ∧ z_fm 59 w w9 ∧ z_mst w9 s9 ∧ s9.1.1 = q_k22 g (sp_bsp a b c ∨ (d < 0 ∨ z_mny a b c < d)) ∧ sp_MR (if q_k22 g (sp_bsp a b c ∨ (d < 0 ∨ z_mny a b c < d)) = 0 then sp_hspS S a b c (sp_i d) (sp_i g) else S) s9 ∧ (q_k22 g (sp_bsp a b c ∨ (d < 0 ∨ z_mny a b c < d)) = 0 → r9 = sp_an (sp_hsp S a b c (sp_i d) (sp_i g)).1)) = Q9
  refine z_body hl (by decide) rfl (Nat.le_of_ble_eq_true rfl) ?_
  show z_J G l mX11_hearSteps _ 0 [(0, _), (1, _), (2, _), (3, _), (4, _), (5, _)] [] _ 0 0
  refine j_aload_n dX11_hearSteps_0 rfl rfl ?_
  refine j_iload dX11_hearSteps_1 rfl ?_
  refine j_callS dX11_hearSteps_3 kX11_isNoTwo lX11_72 stX11_isNoTwo (cm_isNoTwo_r hl w _) (Nat.le_of_ble_eq_true rfl) ⟨(Nat.le_of_ble_eq_true rfl), (Nat.le_of_ble_eq_true rfl)⟩ rfl (Nat.le_of_ble_eq_true rfl) rfl rfl (fun _ _ h => h.elim) ?_
  rintro _ _ ⟨⟨rfl, hno351⟩ | ⟨rfl, i351, hi351, ht351, rfl⟩, hw351⟩
  · refine j_w w hw351 ?_
    refine j_iconst (v := 1) dX11_hearSteps_6 (by decide) ?_
    refine j_callV (q := (RX11, TX11, 8)) dX11_hearSteps_7 kX11_start lX11_76 inX11_start seX11_start h.m rfl (cm_start1 hl w _ _ h (by decide)) (Nat.le_of_ble_eq_true rfl) ⟨(Nat.le_of_ble_eq_true rfl), (Nat.le_of_ble_eq_true rfl)⟩ rfl (Nat.le_of_ble_eq_true rfl) rfl rfl (fun _ _ h => h.elim) ?_
    rintro _ w1 ⟨rfl, fm1, h1⟩
    have R1 := R.th (k := 1)
    refine j_if_ne (tgt := 50) dX11_hearSteps_10 (by decide) (fun c_10_11 => ?_) (fun c_10_11 => ?_)
    · refine j_iconst (v := 0) dX11_hearSteps_50 (by decide) ?_
      refine j_goto (tgt := 65) dX11_hearSteps_51 (by decide) ?_
      refine j_iret dX11_hearSteps_65 rfl rfl ?_ (Nat.le_of_ble_eq_true rfl) (Nat.le_of_ble_eq_true rfl)
      refine cast (congrFun (congrFun hQ9 _) _) ?_
      refine ⟨_, _, rfl, (fm1.le (q' := 59) (by decide)), h1, sp_X1 (k := 1) ?_ (by decide) rfl R1⟩
      first | (first | (refine sp_k22_1 ?_ <;> (first | (with_reducible assumption) | (refine Or.inl ?_; (with_reducible assumption)) | (refine Or.inr ?_; (with_reducible assumption)) | (refine Or.inr (Or.inl ?_); (with_reducible assumption)) | (refine Or.inr (Or.inr ?_); (with_reducible assumption)) | (refine Or.inr (Or.inr (Or.inl ?_)); (with_reducible assumption)) | (refine Or.inr (Or.inr (Or.inr ?_)); (with_reducible assumption)) | (refine fun z => Or.elim z ?_ ?_ <;> (with_reducible assumption)) | (refine fun z => Or.elim z ?_ (fun z => Or.elim z ?_ ?_) <;> (with_reducible assumption)) | (refine fun z => Or.elim z ?_ (fun z => Or.elim z ?_ (fun z => Or.elim z ?_ ?_)) <;> (with_reducible assumption)) | (refine fun z => Or.elim z (fun z9 => z9 ?_) ?_ <;> (first | (with_reducible assumption) | (refine Or.inl ?_; (with_reducible assumption)) | (refine Or.inr (Or.inl ?_); (with_reducible assumption)) | (refine Or.inr (Or.inr ?_); (with_reducible assumption)) | (refine Or.inr (Or.inr (Or.inl ?_)); (with_reducible assumption)) | (refine Or.inr (Or.inr (Or.inr ?_)); (with_reducible assumption)))) | (refine Or.inl (fun z => Or.elim z ?_ (fun z => Or.elim z ?_ ?_)) <;> (with_reducible assumption)) | (refine Or.inl (fun z => Or.elim z ?_ (fun z => Or.elim z ?_ (fun z => Or.elim z ?_ ?_))) <;> (with_reducible assumption))))) | (first | (refine sp_k22_1 ?_ <;> (first | assumption | (refine Or.inl ?_; assumption) | (refine Or.inr ?_; assumption) | (refine Or.inr (Or.inl ?_); assumption) | (refine Or.inr (Or.inr ?_); assumption) | (refine Or.inr (Or.inr (Or.inl ?_)); assumption) | (refine Or.inr (Or.inr (Or.inr ?_)); assumption) | (refine fun z => Or.elim z ?_ ?_ <;> assumption) | (refine fun z => Or.elim z ?_ (fun z => Or.elim z ?_ ?_) <;> assumption) | (refine fun z => Or.elim z ?_ (fun z => Or.elim z ?_ (fun z => Or.elim z ?_ ?_)) <;> assumption) | (refine fun z => Or.elim z (fun z9 => z9 ?_) ?_ <;> (first | assumption | (refine Or.inl ?_; assumption) | (refine Or.inr (Or.inl ?_); assumption) | (refine Or.inr (Or.inr ?_); assumption) | (refine Or.inr (Or.inr (Or.inl ?_)); assumption) | (refine Or.inr (Or.inr (Or.inr ?_)); assumption))) | (refine Or.inl (fun z => Or.elim z ?_ (fun z => Or.elim z ?_ ?_)) <;> assumption) | (refine Or.inl (fun z => Or.elim z ?_ (fun z => Or.elim z ?_ (fun z => Or.elim z ?_ ?_))) <;> assumption))))
    · exact absurd c_10_11 (by decide)
  · refine j_w w hw351 ?_
    have ei351 : sp_i (nI i351) = i351 := sp_in' (by omega)
    refine j_iconst (v := 1) dX11_hearSteps_6 (by decide) ?_
    refine j_callV (q := (RX11, TX11, 8)) dX11_hearSteps_7 kX11_start lX11_76 inX11_start seX11_start h.m rfl (cm_start0 hl w _ _ h) (Nat.le_of_ble_eq_true rfl) ⟨(Nat.le_of_ble_eq_true rfl), (Nat.le_of_ble_eq_true rfl)⟩ rfl (Nat.le_of_ble_eq_true rfl) rfl rfl (fun _ _ h => h.elim) ?_
    rintro _ w2 ⟨rfl, fm2, h2⟩
    have R2 := R.th (k := 0)
    refine j_if_ne (tgt := 50) dX11_hearSteps_10 (by decide) (fun c_10_25 => ?_) (fun c_10_25 => ?_)
    · exact absurd c_10_25 (by decide)
    · refine j_aload_n dX11_hearSteps_13 rfl rfl ?_
      refine j_iload_n dX11_hearSteps_14 rfl ?_
      refine j_iload_n dX11_hearSteps_15 rfl ?_
      refine j_iload_n dX11_hearSteps_16 rfl ?_
      refine j_callS dX11_hearSteps_17 kX11_isNoSpan lX11_182 stX11_isNoSpan (cx_isNoSpan hl w2 _ _ _) (Nat.le_of_ble_eq_true rfl) ⟨(Nat.le_of_ble_eq_true rfl), (Nat.le_of_ble_eq_true rfl)⟩ rfl (Nat.le_of_ble_eq_true rfl) rfl rfl (fun _ _ h => h.elim) ?_
      rintro _ _ ⟨⟨rfl, hsp352⟩ | ⟨rfl, hsp352, hx352, hy352, hz352, hm3520, hm3524⟩, hw352⟩
      · refine j_w w2 hw352 ?_
        refine j_if_ne (tgt := 38) dX11_hearSteps_20 (by decide) (fun c_20_34 => ?_) (fun c_20_34 => ?_)
        · refine j_iconst (v := 1) dX11_hearSteps_38 (by decide) ?_
          refine j_goto (tgt := 43) dX11_hearSteps_39 (by decide) ?_
          refine j_iconst (v := 2) dX11_hearSteps_43 (by decide) ?_
          refine j_callV (q := (RX11, TX11, 8)) dX11_hearSteps_44 kX11_refuse lX11_52 inX11_refuse seX11_refuse h2.m rfl (cm_refuse1 hl w2 _ _ h2 rfl (by decide)) (Nat.le_of_ble_eq_true rfl) ⟨(Nat.le_of_ble_eq_true rfl), (Nat.le_of_ble_eq_true rfl)⟩ rfl (Nat.le_of_ble_eq_true rfl) rfl rfl (fun _ _ h => h.elim) ?_
          rintro _ w3 ⟨rfl, fm3, h3⟩
          have R3 := R2.th (k := 2)
          refine j_if_eq (tgt := 54) dX11_hearSteps_47 (by decide) (fun c_47_41 => ?_) (fun c_47_41 => ?_)
          · exact absurd c_47_41 (by decide)
          · refine j_iconst (v := 0) dX11_hearSteps_50 (by decide) ?_
            refine j_goto (tgt := 65) dX11_hearSteps_51 (by decide) ?_
            refine j_iret dX11_hearSteps_65 rfl rfl ?_ (Nat.le_of_ble_eq_true rfl) (Nat.le_of_ble_eq_true rfl)
            refine cast (congrFun (congrFun hQ9 _) _) ?_
            try rw [ei351]
            refine ⟨_, _, rfl, ((fm2.le (q' := 59) (by decide)).tr (fm3.le (q' := 59) (by decide))), h3, sp_X1 (k := 2) ?_ (by decide) rfl R3⟩
            first | (first | (refine sp_k22_2 ?_ ?_ <;> (first | (with_reducible assumption) | (refine Or.inl ?_; (with_reducible assumption)) | (refine Or.inr ?_; (with_reducible assumption)) | (refine Or.inr (Or.inl ?_); (with_reducible assumption)) | (refine Or.inr (Or.inr ?_); (with_reducible assumption)) | (refine Or.inr (Or.inr (Or.inl ?_)); (with_reducible assumption)) | (refine Or.inr (Or.inr (Or.inr ?_)); (with_reducible assumption)) | (refine fun z => Or.elim z ?_ ?_ <;> (with_reducible assumption)) | (refine fun z => Or.elim z ?_ (fun z => Or.elim z ?_ ?_) <;> (with_reducible assumption)) | (refine fun z => Or.elim z ?_ (fun z => Or.elim z ?_ (fun z => Or.elim z ?_ ?_)) <;> (with_reducible assumption)) | (refine fun z => Or.elim z (fun z9 => z9 ?_) ?_ <;> (first | (with_reducible assumption) | (refine Or.inl ?_; (with_reducible assumption)) | (refine Or.inr (Or.inl ?_); (with_reducible assumption)) | (refine Or.inr (Or.inr ?_); (with_reducible assumption)) | (refine Or.inr (Or.inr (Or.inl ?_)); (with_reducible assumption)) | (refine Or.inr (Or.inr (Or.inr ?_)); (with_reducible assumption)))) | (refine Or.inl (fun z => Or.elim z ?_ (fun z => Or.elim z ?_ ?_)) <;> (with_reducible assumption)) | (refine Or.inl (fun z => Or.elim z ?_ (fun z => Or.elim z ?_ (fun z => Or.elim z ?_ ?_))) <;> (with_reducible assumption))))) | (first | (refine sp_k22_2 ?_ ?_ <;> (first | assumption | (refine Or.inl ?_; assumption) | (refine Or.inr ?_; assumption) | (refine Or.inr (Or.inl ?_); assumption) | (refine Or.inr (Or.inr ?_); assumption) | (refine Or.inr (Or.inr (Or.inl ?_)); assumption) | (refine Or.inr (Or.inr (Or.inr ?_)); assumption) | (refine fun z => Or.elim z ?_ ?_ <;> assumption) | (refine fun z => Or.elim z ?_ (fun z => Or.elim z ?_ ?_) <;> assumption) | (refine fun z => Or.elim z ?_ (fun z => Or.elim z ?_ (fun z => Or.elim z ?_ ?_)) <;> assumption) | (refine fun z => Or.elim z (fun z9 => z9 ?_) ?_ <;> (first | assumption | (refine Or.inl ?_; assumption) | (refine Or.inr (Or.inl ?_); assumption) | (refine Or.inr (Or.inr ?_); assumption) | (refine Or.inr (Or.inr (Or.inl ?_)); assumption) | (refine Or.inr (Or.inr (Or.inr ?_)); assumption))) | (refine Or.inl (fun z => Or.elim z ?_ (fun z => Or.elim z ?_ ?_)) <;> assumption) | (refine Or.inl (fun z => Or.elim z ?_ (fun z => Or.elim z ?_ (fun z => Or.elim z ?_ ?_))) <;> assumption))))
        · exact absurd c_20_34 (by decide)
      · refine j_w w2 hw352 ?_
        refine j_if_ne (tgt := 38) dX11_hearSteps_20 (by decide) (fun c_20_52 => ?_) (fun c_20_52 => ?_)
        · exact absurd c_20_52 (by decide)
        · refine j_iload dX11_hearSteps_23 rfl ?_
          refine j_iconst (v := 0) dX11_hearSteps_25 (by decide) ?_
          refine j_iload_n dX11_hearSteps_26 rfl ?_
          refine j_iload_n dX11_hearSteps_27 rfl ?_
          refine j_iload_n dX11_hearSteps_28 rfl ?_
          refine j_callS dX11_hearSteps_29 kX11_many lX11_179 stX11_many (cm_many hl w2 _ _ _ (z_ne0 hz352.1)) (Nat.le_of_ble_eq_true rfl) ⟨(Nat.le_of_ble_eq_true rfl), (Nat.le_of_ble_eq_true rfl)⟩ rfl (Nat.le_of_ble_eq_true rfl) rfl rfl (fun _ _ h => h.elim) ?_
          rintro _ _ ⟨rfl, hw353⟩
          refine j_w w2 hw353 ?_
          refine j_callS dX11_hearSteps_32 kX11_isIn lX11_59 stX11_isIn (cm_isIn_r hl w2 _ 0 _) (Nat.le_of_ble_eq_true rfl) ⟨(Nat.le_of_ble_eq_true rfl), (Nat.le_of_ble_eq_true rfl)⟩ rfl (Nat.le_of_ble_eq_true rfl) rfl rfl (fun _ _ h => h.elim) ?_
          rintro _ _ ⟨⟨rfl, hi354⟩ | ⟨rfl, hno354⟩, hw354⟩
          · refine j_w w2 hw354 ?_
            obtain ⟨i354, hq354, rfl⟩ := sp_nt (m := sp_mn a b c) (sp_mn_e hm3520) (by have := sp_le40 hm3524; show (z_mny a b c).toNatClampNeg < _; omega) hi354
            have hmn354 : sp_mn a b c ≤ 40 := sp_le40 hm3524
            have ei354 : sp_i (nI i354) = i354 := sp_in' (by omega)
            refine j_if_ne (tgt := 42) dX11_hearSteps_35 (by decide) (fun c_35_68 => ?_) (fun c_35_68 => ?_)
            · refine j_iconst (v := 0) dX11_hearSteps_42 (by decide) ?_
              refine j_iconst (v := 2) dX11_hearSteps_43 (by decide) ?_
              refine j_callV (q := (RX11, TX11, 8)) dX11_hearSteps_44 kX11_refuse lX11_52 inX11_refuse seX11_refuse h2.m rfl (cm_refuse0 hl w2 _ _ h2 rfl) (Nat.le_of_ble_eq_true rfl) ⟨(Nat.le_of_ble_eq_true rfl), (Nat.le_of_ble_eq_true rfl)⟩ rfl (Nat.le_of_ble_eq_true rfl) rfl rfl (fun _ _ h => h.elim) ?_
              rintro _ _ ⟨rfl, hw355⟩
              refine j_w w2 hw355 ?_
              refine j_if_eq (tgt := 54) dX11_hearSteps_47 (by decide) (fun c_47_74 => ?_) (fun c_47_74 => ?_)
              · refine j_aload_n dX11_hearSteps_54 rfl rfl ?_
                refine j_iload_n dX11_hearSteps_55 rfl ?_
                refine j_iload_n dX11_hearSteps_56 rfl ?_
                refine j_iload_n dX11_hearSteps_57 rfl ?_
                refine j_iload dX11_hearSteps_58 rfl ?_
                refine j_iload dX11_hearSteps_60 rfl ?_
                refine j_callV (q := (RX11, TX11, 8)) dX11_hearSteps_62 kX11_span lX11_185 inX11_span seX11_span h2.m rfl (cx_span hl w2 S _ _ _ _ (i354) (i351) h2 R2 hz352 hm3520 hm3524 (by omega) (by omega)) (Nat.le_of_ble_eq_true rfl) ⟨(Nat.le_of_ble_eq_true rfl), (Nat.le_of_ble_eq_true rfl)⟩ rfl (Nat.le_of_ble_eq_true rfl) rfl rfl (fun _ _ h => h.elim) ?_
                rintro _ w4 ⟨s4, rfl, fm4, h4, R4, th4⟩
                have tx4 := th4.trans rfl
                refine j_iret dX11_hearSteps_65 rfl rfl ?_ (Nat.le_of_ble_eq_true rfl) (Nat.le_of_ble_eq_true rfl)
                refine cast (congrFun (congrFun hQ9 _) _) ?_
                try rw [ei351]
                try rw [ei354]
                refine ⟨_, _, rfl, ((fm2.le (q' := 59) (by decide)).tr (fm4.le (q' := 59) (by decide))), h4, sp_X0 ?_ tx4 R4 rfl⟩
                first | (first | (refine sp_k22_0 ?_ ?_ <;> (first | (with_reducible assumption) | (refine Or.inl ?_; (with_reducible assumption)) | (refine Or.inr ?_; (with_reducible assumption)) | (refine Or.inr (Or.inl ?_); (with_reducible assumption)) | (refine Or.inr (Or.inr ?_); (with_reducible assumption)) | (refine Or.inr (Or.inr (Or.inl ?_)); (with_reducible assumption)) | (refine Or.inr (Or.inr (Or.inr ?_)); (with_reducible assumption)) | (refine fun z => Or.elim z ?_ ?_ <;> (with_reducible assumption)) | (refine fun z => Or.elim z ?_ (fun z => Or.elim z ?_ ?_) <;> (with_reducible assumption)) | (refine fun z => Or.elim z ?_ (fun z => Or.elim z ?_ (fun z => Or.elim z ?_ ?_)) <;> (with_reducible assumption)) | (refine fun z => Or.elim z (fun z9 => z9 ?_) ?_ <;> (first | (with_reducible assumption) | (refine Or.inl ?_; (with_reducible assumption)) | (refine Or.inr (Or.inl ?_); (with_reducible assumption)) | (refine Or.inr (Or.inr ?_); (with_reducible assumption)) | (refine Or.inr (Or.inr (Or.inl ?_)); (with_reducible assumption)) | (refine Or.inr (Or.inr (Or.inr ?_)); (with_reducible assumption)))) | (refine Or.inl (fun z => Or.elim z ?_ (fun z => Or.elim z ?_ ?_)) <;> (with_reducible assumption)) | (refine Or.inl (fun z => Or.elim z ?_ (fun z => Or.elim z ?_ (fun z => Or.elim z ?_ ?_))) <;> (with_reducible assumption))))) | (first | (refine sp_k22_0 ?_ ?_ <;> (first | assumption | (refine Or.inl ?_; assumption) | (refine Or.inr ?_; assumption) | (refine Or.inr (Or.inl ?_); assumption) | (refine Or.inr (Or.inr ?_); assumption) | (refine Or.inr (Or.inr (Or.inl ?_)); assumption) | (refine Or.inr (Or.inr (Or.inr ?_)); assumption) | (refine fun z => Or.elim z ?_ ?_ <;> assumption) | (refine fun z => Or.elim z ?_ (fun z => Or.elim z ?_ ?_) <;> assumption) | (refine fun z => Or.elim z ?_ (fun z => Or.elim z ?_ (fun z => Or.elim z ?_ ?_)) <;> assumption) | (refine fun z => Or.elim z (fun z9 => z9 ?_) ?_ <;> (first | assumption | (refine Or.inl ?_; assumption) | (refine Or.inr (Or.inl ?_); assumption) | (refine Or.inr (Or.inr ?_); assumption) | (refine Or.inr (Or.inr (Or.inl ?_)); assumption) | (refine Or.inr (Or.inr (Or.inr ?_)); assumption))) | (refine Or.inl (fun z => Or.elim z ?_ (fun z => Or.elim z ?_ ?_)) <;> assumption) | (refine Or.inl (fun z => Or.elim z ?_ (fun z => Or.elim z ?_ (fun z => Or.elim z ?_ ?_))) <;> assumption))))
              · exact absurd c_47_74 (by decide)
            · exact absurd c_35_68 (by decide)
          · refine j_w w2 hw354 ?_
            refine j_if_ne (tgt := 42) dX11_hearSteps_35 (by decide) (fun c_35_93 => ?_) (fun c_35_93 => ?_)
            · exact absurd c_35_93 (by decide)
            · refine j_iconst (v := 1) dX11_hearSteps_38 (by decide) ?_
              refine j_goto (tgt := 43) dX11_hearSteps_39 (by decide) ?_
              refine j_iconst (v := 2) dX11_hearSteps_43 (by decide) ?_
              refine j_callV (q := (RX11, TX11, 8)) dX11_hearSteps_44 kX11_refuse lX11_52 inX11_refuse seX11_refuse h2.m rfl (cm_refuse1 hl w2 _ _ h2 rfl (by decide)) (Nat.le_of_ble_eq_true rfl) ⟨(Nat.le_of_ble_eq_true rfl), (Nat.le_of_ble_eq_true rfl)⟩ rfl (Nat.le_of_ble_eq_true rfl) rfl rfl (fun _ _ h => h.elim) ?_
              rintro _ w5 ⟨rfl, fm5, h5⟩
              have R5 := R2.th (k := 2)
              refine j_if_eq (tgt := 54) dX11_hearSteps_47 (by decide) (fun c_47_101 => ?_) (fun c_47_101 => ?_)
              · exact absurd c_47_101 (by decide)
              · refine j_iconst (v := 0) dX11_hearSteps_50 (by decide) ?_
                refine j_goto (tgt := 65) dX11_hearSteps_51 (by decide) ?_
                refine j_iret dX11_hearSteps_65 rfl rfl ?_ (Nat.le_of_ble_eq_true rfl) (Nat.le_of_ble_eq_true rfl)
                refine cast (congrFun (congrFun hQ9 _) _) ?_
                try rw [ei351]
                refine ⟨_, _, rfl, ((fm2.le (q' := 59) (by decide)).tr (fm5.le (q' := 59) (by decide))), h5, sp_X1 (k := 2) ?_ (by decide) rfl R5⟩
                first | (first | (refine sp_k22_2 ?_ ?_ <;> (first | (with_reducible assumption) | (refine Or.inl ?_; (with_reducible assumption)) | (refine Or.inr ?_; (with_reducible assumption)) | (refine Or.inr (Or.inl ?_); (with_reducible assumption)) | (refine Or.inr (Or.inr ?_); (with_reducible assumption)) | (refine Or.inr (Or.inr (Or.inl ?_)); (with_reducible assumption)) | (refine Or.inr (Or.inr (Or.inr ?_)); (with_reducible assumption)) | (refine fun z => Or.elim z ?_ ?_ <;> (with_reducible assumption)) | (refine fun z => Or.elim z ?_ (fun z => Or.elim z ?_ ?_) <;> (with_reducible assumption)) | (refine fun z => Or.elim z ?_ (fun z => Or.elim z ?_ (fun z => Or.elim z ?_ ?_)) <;> (with_reducible assumption)) | (refine fun z => Or.elim z (fun z9 => z9 ?_) ?_ <;> (first | (with_reducible assumption) | (refine Or.inl ?_; (with_reducible assumption)) | (refine Or.inr (Or.inl ?_); (with_reducible assumption)) | (refine Or.inr (Or.inr ?_); (with_reducible assumption)) | (refine Or.inr (Or.inr (Or.inl ?_)); (with_reducible assumption)) | (refine Or.inr (Or.inr (Or.inr ?_)); (with_reducible assumption)))) | (refine Or.inl (fun z => Or.elim z ?_ (fun z => Or.elim z ?_ ?_)) <;> (with_reducible assumption)) | (refine Or.inl (fun z => Or.elim z ?_ (fun z => Or.elim z ?_ (fun z => Or.elim z ?_ ?_))) <;> (with_reducible assumption))))) | (first | (refine sp_k22_2 ?_ ?_ <;> (first | assumption | (refine Or.inl ?_; assumption) | (refine Or.inr ?_; assumption) | (refine Or.inr (Or.inl ?_); assumption) | (refine Or.inr (Or.inr ?_); assumption) | (refine Or.inr (Or.inr (Or.inl ?_)); assumption) | (refine Or.inr (Or.inr (Or.inr ?_)); assumption) | (refine fun z => Or.elim z ?_ ?_ <;> assumption) | (refine fun z => Or.elim z ?_ (fun z => Or.elim z ?_ ?_) <;> assumption) | (refine fun z => Or.elim z ?_ (fun z => Or.elim z ?_ (fun z => Or.elim z ?_ ?_)) <;> assumption) | (refine fun z => Or.elim z (fun z9 => z9 ?_) ?_ <;> (first | assumption | (refine Or.inl ?_; assumption) | (refine Or.inr (Or.inl ?_); assumption) | (refine Or.inr (Or.inr ?_); assumption) | (refine Or.inr (Or.inr (Or.inl ?_)); assumption) | (refine Or.inr (Or.inr (Or.inr ?_)); assumption))) | (refine Or.inl (fun z => Or.elim z ?_ (fun z => Or.elim z ?_ ?_)) <;> assumption) | (refine Or.inl (fun z => Or.elim z ?_ (fun z => Or.elim z ?_ (fun z => Or.elim z ?_ ?_))) <;> assumption))))
end ZMe4
end ZM4
section ZM5
section ZMe5
variable {G : z_G} {l : Launch}
set_option maxRecDepth 100000 in
set_option maxHeartbeats 8000000 in
theorem cx_valueOf (hl : l.stackTraces = false) (w : z_W) (S : sp_S) (s : z_Z) (t k : Nat) (h : z_mst w s) (R : sp_MR S s) (ht : t < 3) (hk : k < 20) : z_Con G l mX11_valueOf 16 0 0 w [.ref 1000, .int (nI t), .int (nI k)] (fun v w9 => v = some (.int (sp_lk (sp_T S t) k)) ∧ w9 = w) (fun _ _ => False) := by
  generalize hQ9 : (fun (v : Option Value) (w9 : z_W) => v = some (.int (sp_lk (sp_T S t) k)) ∧ w9 = w) = Q9
  refine z_body hl (by decide) rfl (Nat.le_of_ble_eq_true rfl) ?_
  show z_J G l mX11_valueOf _ 0 [(0, _), (1, _), (2, _)] [] _ 0 0
  refine j_aload_n dX11_valueOf_0 rfl rfl ?_
  refine j_iload_n dX11_valueOf_1 rfl ?_
  refine j_iload_n dX11_valueOf_2 rfl ?_
  refine j_callV (q := (RX11, TX11, 8)) dX11_valueOf_3 kX11_place lX11_130 inX11_place seX11_place h.m rfl (cm_place_r hl w _ _ (t) (k) (sp_T S (t)) h R (by omega) (by omega) rfl) (Nat.le_of_ble_eq_true rfl) ⟨(Nat.le_of_ble_eq_true rfl), (Nat.le_of_ble_eq_true rfl)⟩ rfl (Nat.le_of_ble_eq_true rfl) rfl rfl (fun _ _ h => h.elim) ?_
  rintro _ _ ⟨⟨j356, e356, rfl, hj356, he356, hlk356, hmem356, hjl356, hl20356⟩ | ⟨rfl, hnk356, hlk356⟩, hw356⟩
  · refine j_w w hw356 ?_
    refine j_istore_n (lo' := [(3, _), (0, _), (1, _), (2, _)]) dX11_valueOf_6 (by decide) rfl ?_
    refine j_iload_n dX11_valueOf_7 rfl ?_
    refine j_if_ge (tgt := 17) dX11_valueOf_8 (by decide) (fun c_8_10 => ?_) (fun c_8_10 => ?_)
    · refine j_aload_n dX11_valueOf_17 rfl rfl ?_
      refine j_getf dX11_valueOf_18 fX11_34 h.m rfl ?_
      refine j_iload_n dX11_valueOf_21 rfl ?_
      obtain ⟨lv358, -, lg358⟩ := z_li.cell h.tabs
      refine j_callV (q := (RJx4a65c, TJx4a65c, 3)) dX11_valueOf_22 kJx4a65c_get_915e3 lX11_82 inJx4a65c_get_915e3 seJx4a65c_get_915e3 lg358 rfl (cl_get hl w 47 1007 _ _ (t) _ h.tabs (z_thr3 (t := t) (by omega))) (Nat.le_of_ble_eq_true rfl) ⟨(Nat.le_of_ble_eq_true rfl), (Nat.le_of_ble_eq_true rfl)⟩ rfl (Nat.le_of_ble_eq_true rfl) rfl rfl (fun _ _ h => h.elim) ?_
      rintro _ _ ⟨rfl, hw359⟩
      refine j_w w hw359 ?_
      refine j_castS dX11_valueOf_25 (z_w 1341 ((lwt_6_3 6).trans rfl) (by decide +kernel)) (z_li.is (h.tb (t := t) (by omega))) ?_
      refine j_iload_n dX11_valueOf_28 rfl ?_
      obtain ⟨p361, hp361, hq361, hk361, hv0361, hv1361, hv2361⟩ := R.prB h (t := t) (k := j356) (by omega) rfl hj356
      obtain ⟨lv362, -, lg362⟩ := z_li.cell (h.tb (t := t) (by omega))
      refine j_callV (q := (RJx4a65c, TJx4a65c, 3)) dX11_valueOf_29 kJx4a65c_get_915e3 lX11_82 inJx4a65c_get_915e3 seJx4a65c_get_915e3 lg362 rfl (cl_get hl w _ _ _ _ (j356) _ (h.tb (t := t) (by omega)) hq361) (Nat.le_of_ble_eq_true rfl) ⟨(Nat.le_of_ble_eq_true rfl), (Nat.le_of_ble_eq_true rfl)⟩ rfl (Nat.le_of_ble_eq_true rfl) rfl rfl (fun _ _ h => h.elim) ?_
      rintro _ _ ⟨rfl, hw363⟩
      refine j_w w hw363 ?_
      refine j_castS dX11_valueOf_32 (z_w 1663 ((lwt_7_5 28).trans rfl) (by decide +kernel)) (z_isA ((h.pr (t := t) (by omega)).1 p361 hp361).2) ?_
      refine j_iconst (v := 1) dX11_valueOf_35 (by decide) ?_
      refine j_ld dX11_valueOf_36 ((h.pr (t := t) (by omega)).1 p361 hp361).2 (vp_in_nI (n := 1) (by decide) (by decide)) ?_
      refine j_top (congrArg Value.int (show _ = e356.2 from by rw [show (1 : Int32).toNatClampNeg = 1 from by decide]; exact hv1361)) ?_
      refine j_iret dX11_valueOf_37 rfl rfl ?_ (Nat.le_of_ble_eq_true rfl) (Nat.le_of_ble_eq_true rfl)
      refine cast (congrFun (congrFun hQ9 _) _) ?_
      exact ⟨by rw [hlk356], rfl⟩
    · exact absurd (nI_pos' (n := j356) (by omega)) c_8_10
  · refine j_w w hw356 ?_
    refine j_istore_n (lo' := [(3, _), (0, _), (1, _), (2, _)]) dX11_valueOf_6 (by decide) rfl ?_
    refine j_iload_n dX11_valueOf_7 rfl ?_
    refine j_if_ge (tgt := 17) dX11_valueOf_8 (by decide) (fun c_8_36 => ?_) (fun c_8_36 => ?_)
    · exact absurd c_8_36 (by decide)
    · refine j_sipush (v := (-1000)) dX11_valueOf_11 (by decide) ?_
      refine j_goto (tgt := 37) dX11_valueOf_14 (by decide) ?_
      refine j_iret dX11_valueOf_37 rfl rfl ?_ (Nat.le_of_ble_eq_true rfl) (Nat.le_of_ble_eq_true rfl)
      refine cast (congrFun (congrFun hQ9 _) _) ?_
      exact ⟨by rw [hlk356], rfl⟩
set_option maxRecDepth 100000 in
set_option maxHeartbeats 8000000 in
theorem cx_go (hl : l.stackTraces = false) (w : z_W) (S : sp_S) (s : z_Z) (t k : Nat) (h : z_mst w s) (R : sp_MR S s) (ht : t < 3) (hk : k < 20) (okT : sp_okT (sp_T S t)) : z_Con G l mX11_go 20 0 0 w [.ref 1000, .int (nI t), .int (nI k)] (fun v w9 => v = none ∧ ∃ (s9 : z_Z), z_fm 59 w w9 ∧ z_mst w9 s9 ∧ sp_MR (sp_gnS S t k) s9 ∧ s9.1.1 = s.1.1) (fun _ _ => False) := by
  generalize hQ9 : (fun (v : Option Value) (w9 : z_W) => v = none ∧ ∃ (s9 : z_Z), z_fm 59 w w9 ∧ z_mst w9 s9 ∧ sp_MR (sp_gnS S t k) s9 ∧ s9.1.1 = s.1.1) = Q9
  refine z_body hl (by decide) rfl (Nat.le_of_ble_eq_true rfl) ?_
  show z_J G l mX11_go _ 0 [(0, _), (1, _), (2, _)] [] _ 0 0
  refine j_iload_n dX11_go_0 rfl ?_
  refine j_if_ne (tgt := 17) dX11_go_1 (by decide) (fun c_1_3 => ?_) (fun c_1_3 => ?_)
  · have hb1 : ¬ t = 0 := fun z => c_1_3 (show nI t = nI 0 by rw [z])
    have Rt366 : sp_MR (sp_tc S t (z_bp (sp_C S 2) 6)) _ := (by rw [sp_tcn hb1]; exact R)
    refine j_aload_n dX11_go_17 rfl rfl ?_
    refine j_iload_n dX11_go_18 rfl ?_
    refine j_iload_n dX11_go_19 rfl ?_
    refine j_callV (q := (RX11, TX11, 8)) dX11_go_20 kX11_place lX11_130 inX11_place seX11_place h.m rfl (cm_place_r hl w _ _ (t) (k) ((sp_T S t)) h Rt366 (by omega) (by omega) (congrFun sp_tcT _)) (Nat.le_of_ble_eq_true rfl) ⟨(Nat.le_of_ble_eq_true rfl), (Nat.le_of_ble_eq_true rfl)⟩ rfl (Nat.le_of_ble_eq_true rfl) rfl rfl (fun _ _ h => h.elim) ?_
    rintro _ _ ⟨⟨j367, e367, rfl, hj367, he367, hlk367, hmem367, hjl367, hl20367⟩ | ⟨rfl, hnk367, hlk367⟩, hw367⟩
    · refine j_w w hw367 ?_
      refine j_istore_n (lo' := [(3, _), (0, _), (1, _), (2, _)]) dX11_go_23 (by decide) rfl ?_
      refine j_iload_n dX11_go_24 rfl ?_
      refine j_if_lt (tgt := 44) dX11_go_25 (by decide) (fun c_25_14 => ?_) (fun c_25_14 => ?_)
      · exact absurd c_25_14 (nI_pos (n := j367) (by omega))
      · refine j_aload_n dX11_go_28 rfl rfl ?_
        refine j_getf dX11_go_29 fX11_34 h.m rfl ?_
        refine j_iload_n dX11_go_32 rfl ?_
        obtain ⟨lv369, -, lg369⟩ := z_li.cell h.tabs
        refine j_callV (q := (RJx4a65c, TJx4a65c, 3)) dX11_go_33 kJx4a65c_get_915e3 lX11_82 inJx4a65c_get_915e3 seJx4a65c_get_915e3 lg369 rfl (cl_get hl w 47 1007 _ _ (t) _ h.tabs (z_thr3 (t := t) (by omega))) (Nat.le_of_ble_eq_true rfl) ⟨(Nat.le_of_ble_eq_true rfl), (Nat.le_of_ble_eq_true rfl)⟩ rfl (Nat.le_of_ble_eq_true rfl) rfl rfl (fun _ _ h => h.elim) ?_
        rintro _ _ ⟨rfl, hw370⟩
        refine j_w w hw370 ?_
        refine j_castS dX11_go_36 (z_w 1341 ((lwt_6_3 6).trans rfl) (by decide +kernel)) (z_li.is (h.tb (t := t) (by omega))) ?_
        refine j_iload_n dX11_go_39 rfl ?_
        obtain ⟨lv372, -, lg372⟩ := z_li.cell (h.tb (t := t) (by omega))
        refine j_callV (q := (RJx4a65c, TJx4a65c, 3)) dX11_go_40 kJx4a65c_remove_915e3 lX11_96 inJx4a65c_remove_915e3 seJx4a65c_remove_915e3 lg372 rfl (cl_rem hl w _ _ _ _ (j367) _ (h.tb (t := t) (by omega)) (z_rs_get (by rw [Rt366.tlB (by omega) (congrFun sp_tcT _)]; omega)) h.fn (z_rs_el (h.pr (t := t) (by omega)) (by omega))) (Nat.le_of_ble_eq_true rfl) ⟨(Nat.le_of_ble_eq_true rfl), (Nat.le_of_ble_eq_true rfl)⟩ rfl (Nat.le_of_ble_eq_true rfl) rfl rfl (fun _ _ h => h.elim) ?_
        rintro _ w1 ⟨rfl, fw1, mo1, hr1⟩
        rw [z_rs_rem] at hr1
        have fm1 := fw1.fm (q := 56) (by omega)
        have h1 := h.li51 (t0 := t) (by omega) fw1 hr1 (z_pr.m (fun n _ h2 => fw1.2.2 n (Or.inr (by omega))) (h.pr (t := t) (by omega)).rem)
        have R1 := Rt366.up (t := t) (c := mo1) (T := sp_go ((sp_T S t)) k) (by rw [sp_tp_er, Rt366.t (by omega), (congrFun sp_tcT _), sp_er_go okT.1 hj367, he367])
        refine j_pop dX11_go_43 rfl ?_
        refine j_vret dX11_go_44 rfl ?_ (Nat.le_of_ble_eq_true rfl) (Nat.le_of_ble_eq_true rfl)
        refine cast (congrFun (congrFun hQ9 _) _) ?_
        exact ⟨rfl, _, (fm1.le (q' := 59) (by decide)), h1, (by unfold sp_gnS; rw [← sp_tcu]; exact R1), rfl⟩
    · refine j_w w hw367 ?_
      refine j_istore_n (lo' := [(3, _), (0, _), (1, _), (2, _)]) dX11_go_23 (by decide) rfl ?_
      refine j_iload_n dX11_go_24 rfl ?_
      refine j_if_lt (tgt := 44) dX11_go_25 (by decide) (fun c_25_39 => ?_) (fun c_25_39 => ?_)
      · refine j_vret dX11_go_44 rfl ?_ (Nat.le_of_ble_eq_true rfl) (Nat.le_of_ble_eq_true rfl)
        refine cast (congrFun (congrFun hQ9 _) _) ?_
        exact ⟨rfl, _, z_fm.rf, h, (by unfold sp_gnS; rw [sp_go_no hnk367, sp_uT_id]; exact Rt366), rfl⟩
      · exact absurd c_25_39 (by decide)
  · have hb1 : t = 0 := nI_inj (a := t) (b := 0) c_1_3 (by omega) (by omega)
    refine j_aload_n dX11_go_4 rfl rfl ?_
    refine j_getf dX11_go_5 fX11_31 h.m rfl ?_
    refine j_iconst (v := 2) dX11_go_8 (by decide) ?_
    obtain ⟨fz373, gz373, hz373⟩ := h.co
    refine j_aald (v := .ref (1004 + 2)) dX11_go_9 gz373 rfl rfl (vp_in_nI (n := 2) (by decide) (by decide)) (by rw [show (2 : Int32).toNatClampNeg = 2 by decide]; exact hz373 _ (by decide)) ?_
    refine j_bipush (v := 6) dX11_go_10 (by decide) ?_
    refine j_dup2 dX11_go_12 rfl rfl ?_
    refine j_ld dX11_go_13 (h.cn (i := 2) (by decide)) (vp_in_nI (n := 6) (by decide) (by decide)) ?_
    refine j_iconst (v := 1) dX11_go_14 (by decide) ?_
    refine j_iadd dX11_go_15 ?_
    refine j_sto (w' := _) dX11_go_16 (h.cn (i := 2) (by decide)) (vp_in_nI (n := 6) (by decide) (by decide)) rfl ?_
    refine j_seal (by omega) ?_
    intro w2 u2
    have fw2 := u2.fw (ρ := 44 + 2) (by omega) (by omega)
    have h2 := h.up44 (i0 := 2) (by decide) fw2 u2.1
    rw [show (6 : Int32).toNatClampNeg = 6 by decide] at h2
    have R2 := R.bp (i := 2) (k := 6) (by omega) (by decide)
    have Rt376 : sp_MR (sp_tc S t (z_bp (sp_C S 2) 6)) _ := (by rw [sp_tc0 hb1]; exact R2)
    refine j_aload_n dX11_go_17 rfl rfl ?_
    refine j_iload_n dX11_go_18 rfl ?_
    refine j_iload_n dX11_go_19 rfl ?_
    refine j_callV (q := (RX11, TX11, 8)) dX11_go_20 kX11_place lX11_130 inX11_place seX11_place h2.m rfl (cm_place_r hl w2 _ _ (t) (k) ((sp_T S t)) h2 Rt376 (by omega) (by omega) (congrFun sp_tcT _)) (Nat.le_of_ble_eq_true rfl) ⟨(Nat.le_of_ble_eq_true rfl), (Nat.le_of_ble_eq_true rfl)⟩ rfl (Nat.le_of_ble_eq_true rfl) rfl rfl (fun _ _ h => h.elim) ?_
    rintro _ _ ⟨⟨j377, e377, rfl, hj377, he377, hlk377, hmem377, hjl377, hl20377⟩ | ⟨rfl, hnk377, hlk377⟩, hw377⟩
    · refine j_w w2 hw377 ?_
      refine j_istore_n (lo' := [(3, _), (0, _), (1, _), (2, _)]) dX11_go_23 (by decide) rfl ?_
      refine j_iload_n dX11_go_24 rfl ?_
      refine j_if_lt (tgt := 44) dX11_go_25 (by decide) (fun c_25_71 => ?_) (fun c_25_71 => ?_)
      · exact absurd c_25_71 (nI_pos (n := j377) (by omega))
      · refine j_aload_n dX11_go_28 rfl rfl ?_
        refine j_getf dX11_go_29 fX11_34 h2.m rfl ?_
        refine j_iload_n dX11_go_32 rfl ?_
        obtain ⟨lv379, -, lg379⟩ := z_li.cell h2.tabs
        refine j_callV (q := (RJx4a65c, TJx4a65c, 3)) dX11_go_33 kJx4a65c_get_915e3 lX11_82 inJx4a65c_get_915e3 seJx4a65c_get_915e3 lg379 rfl (cl_get hl w2 47 1007 _ _ (t) _ h2.tabs (z_thr3 (t := t) (by omega))) (Nat.le_of_ble_eq_true rfl) ⟨(Nat.le_of_ble_eq_true rfl), (Nat.le_of_ble_eq_true rfl)⟩ rfl (Nat.le_of_ble_eq_true rfl) rfl rfl (fun _ _ h => h.elim) ?_
        rintro _ _ ⟨rfl, hw380⟩
        refine j_w w2 hw380 ?_
        refine j_castS dX11_go_36 (z_w 1341 ((lwt_6_3 6).trans rfl) (by decide +kernel)) (z_li.is (h2.tb (t := t) (by omega))) ?_
        refine j_iload_n dX11_go_39 rfl ?_
        obtain ⟨lv382, -, lg382⟩ := z_li.cell (h2.tb (t := t) (by omega))
        refine j_callV (q := (RJx4a65c, TJx4a65c, 3)) dX11_go_40 kJx4a65c_remove_915e3 lX11_96 inJx4a65c_remove_915e3 seJx4a65c_remove_915e3 lg382 rfl (cl_rem hl w2 _ _ _ _ (j377) _ (h2.tb (t := t) (by omega)) (z_rs_get (by rw [Rt376.tlB (by omega) (congrFun sp_tcT _)]; omega)) h2.fn (z_rs_el (h2.pr (t := t) (by omega)) (by omega))) (Nat.le_of_ble_eq_true rfl) ⟨(Nat.le_of_ble_eq_true rfl), (Nat.le_of_ble_eq_true rfl)⟩ rfl (Nat.le_of_ble_eq_true rfl) rfl rfl (fun _ _ h => h.elim) ?_
        rintro _ w3 ⟨rfl, fw3, mo3, hr3⟩
        rw [z_rs_rem] at hr3
        have fm3 := fw3.fm (q := 56) (by omega)
        have h3 := h2.li51 (t0 := t) (by omega) fw3 hr3 (z_pr.m (fun n _ h2 => fw3.2.2 n (Or.inr (by omega))) (h2.pr (t := t) (by omega)).rem)
        have R3 := Rt376.up (t := t) (c := mo3) (T := sp_go ((sp_T S t)) k) (by rw [sp_tp_er, Rt376.t (by omega), (congrFun sp_tcT _), sp_er_go okT.1 hj377, he377])
        refine j_pop dX11_go_43 rfl ?_
        refine j_vret dX11_go_44 rfl ?_ (Nat.le_of_ble_eq_true rfl) (Nat.le_of_ble_eq_true rfl)
        refine cast (congrFun (congrFun hQ9 _) _) ?_
        exact ⟨rfl, _, ((fw2.fm (q := 59) (by omega)).tr (fm3.le (q' := 59) (by decide))), h3, (by unfold sp_gnS; rw [← sp_tcu]; exact R3), rfl⟩
    · refine j_w w2 hw377 ?_
      refine j_istore_n (lo' := [(3, _), (0, _), (1, _), (2, _)]) dX11_go_23 (by decide) rfl ?_
      refine j_iload_n dX11_go_24 rfl ?_
      refine j_if_lt (tgt := 44) dX11_go_25 (by decide) (fun c_25_96 => ?_) (fun c_25_96 => ?_)
      · refine j_vret dX11_go_44 rfl ?_ (Nat.le_of_ble_eq_true rfl) (Nat.le_of_ble_eq_true rfl)
        refine cast (congrFun (congrFun hQ9 _) _) ?_
        exact ⟨rfl, _, (fw2.fm (q := 59) (by omega)), h2, (by unfold sp_gnS; rw [sp_go_no hnk377, sp_uT_id]; exact Rt376), rfl⟩
      · exact absurd c_25_96 (by decide)
set_option maxRecDepth 100000 in
set_option maxHeartbeats 8000000 in
theorem cx_lay (hl : l.stackTraces = false) (w : z_W) (S : sp_S) (s : z_Z) (t k : Nat) (z : Int32) (h : z_mst w s) (R : sp_MR S s) (ht : t < 3) (hk : k < 20) (okT : sp_okT (sp_T S t)) : z_Con G l mX11_lay 20 2 52 w [.ref 1000, .int (nI t), .int (nI k), .int z] (fun v w9 => v = none ∧ ∃ (s9 : z_Z), z_fm 59 w w9 ∧ z_mst w9 s9 ∧ sp_MR (sp_lyS S t k z) s9 ∧ s9.1.1 = s.1.1) (fun _ _ => False) := by
  generalize hQ9 : (fun (v : Option Value) (w9 : z_W) => v = none ∧ ∃ (s9 : z_Z), z_fm 59 w w9 ∧ z_mst w9 s9 ∧ sp_MR (sp_lyS S t k z) s9 ∧ s9.1.1 = s.1.1) = Q9
  refine z_body hl (by decide) rfl (Nat.le_of_ble_eq_true rfl) ?_
  show z_J G l mX11_lay _ 0 [(0, _), (1, _), (2, _), (3, _)] [] _ 0 0
  refine j_iload_n dX11_lay_0 rfl ?_
  refine j_if_ne (tgt := 16) dX11_lay_1 (by decide) (fun c_1_3 => ?_) (fun c_1_3 => ?_)
  · have hb1 : ¬ t = 0 := fun z => c_1_3 (show nI t = nI 0 by rw [z])
    have Rt383 : sp_MR (sp_tc S t (z_bp (sp_C S 2) 5)) _ := (by rw [sp_tcn hb1]; exact R)
    refine j_aload_n dX11_lay_16 rfl rfl ?_
    refine j_iload_n dX11_lay_17 rfl ?_
    refine j_iload_n dX11_lay_18 rfl ?_
    refine j_callV (q := (RX11, TX11, 8)) dX11_lay_19 kX11_place lX11_130 inX11_place seX11_place h.m rfl (cm_place_r hl w _ _ (t) (k) ((sp_T S t)) h Rt383 (by omega) (by omega) (congrFun sp_tcT _)) (Nat.le_of_ble_eq_true rfl) ⟨(Nat.le_of_ble_eq_true rfl), (Nat.le_of_ble_eq_true rfl)⟩ rfl (Nat.le_of_ble_eq_true rfl) rfl rfl (fun _ _ h => h.elim) ?_
    rintro _ _ ⟨⟨j384, e384, rfl, hj384, he384, hlk384, hmem384, hjl384, hl20384⟩ | ⟨rfl, hnk384, hlk384⟩, hw384⟩
    · refine j_w w hw384 ?_
      refine j_istore (lo' := [(4, _), (0, _), (1, _), (2, _), (3, _)]) dX11_lay_22 (by decide) rfl ?_
      refine j_iload dX11_lay_24 rfl ?_
      refine j_if_lt (tgt := 52) dX11_lay_26 (by decide) (fun c_26_14 => ?_) (fun c_26_14 => ?_)
      · exact absurd c_26_14 (nI_pos (n := j384) (by omega))
      · refine j_aload_n dX11_lay_29 rfl rfl ?_
        refine j_getf dX11_lay_30 fX11_34 h.m rfl ?_
        refine j_iload_n dX11_lay_33 rfl ?_
        obtain ⟨lv386, -, lg386⟩ := z_li.cell h.tabs
        refine j_callV (q := (RJx4a65c, TJx4a65c, 3)) dX11_lay_34 kJx4a65c_get_915e3 lX11_82 inJx4a65c_get_915e3 seJx4a65c_get_915e3 lg386 rfl (cl_get hl w 47 1007 _ _ (t) _ h.tabs (z_thr3 (t := t) (by omega))) (Nat.le_of_ble_eq_true rfl) ⟨(Nat.le_of_ble_eq_true rfl), (Nat.le_of_ble_eq_true rfl)⟩ rfl (Nat.le_of_ble_eq_true rfl) rfl rfl (fun _ _ h => h.elim) ?_
        rintro _ _ ⟨rfl, hw387⟩
        refine j_w w hw387 ?_
        refine j_castS dX11_lay_37 (z_w 1341 ((lwt_6_3 6).trans rfl) (by decide +kernel)) (z_li.is (h.tb (t := t) (by omega))) ?_
        refine j_iload dX11_lay_40 rfl ?_
        obtain ⟨p389, hp389, hq389, hk389, hv0389, hv1389, hv2389⟩ := Rt383.prB h (t := t) (k := j384) (by omega) (congrFun sp_tcT _) hj384
        obtain ⟨lv390, -, lg390⟩ := z_li.cell (h.tb (t := t) (by omega))
        refine j_callV (q := (RJx4a65c, TJx4a65c, 3)) dX11_lay_42 kJx4a65c_get_915e3 lX11_82 inJx4a65c_get_915e3 seJx4a65c_get_915e3 lg390 rfl (cl_get hl w _ _ _ _ (j384) _ (h.tb (t := t) (by omega)) hq389) (Nat.le_of_ble_eq_true rfl) ⟨(Nat.le_of_ble_eq_true rfl), (Nat.le_of_ble_eq_true rfl)⟩ rfl (Nat.le_of_ble_eq_true rfl) rfl rfl (fun _ _ h => h.elim) ?_
        rintro _ _ ⟨rfl, hw391⟩
        refine j_w w hw391 ?_
        refine j_castS dX11_lay_45 (z_w 1663 ((lwt_7_5 28).trans rfl) (by decide +kernel)) (z_isA ((h.pr (t := t) (by omega)).1 p389 hp389).2) ?_
        refine j_iconst (v := 1) dX11_lay_48 (by decide) ?_
        refine j_iload_n dX11_lay_49 rfl ?_
        refine j_sto (w' := _) dX11_lay_50 ((h.pr (t := t) (by omega)).1 p389 hp389).2 (vp_in_nI (n := 1) (by decide) (by decide)) rfl ?_
        refine j_seal (((h.pr (t := t) (by omega)).1 p389 hp389).1.1) ?_
        intro w1 u1
        have hpp1 := ((h.pr (t := t) (by omega)).1 p389 hp389).1
        have hpq1 := hpp1.2.1
        have fw1 := u1.fw (ρ := 14 + t) hpp1.1 hpp1.2.1
        have h1 := h.up14 (t0 := t) (by omega) hp389 u1 (z_ui_ne (by decide))
        have R1 := Rt383.uk (t0 := t) (F := z_ui (z_qk _ p389) ((1 : Int32).toNatClampNeg) z) (v := z) h (by omega) hp389 (z_ui_ne (by decide)) (by rw [show (1 : Int32).toNatClampNeg = 1 from by decide]; exact z_ui_self)
        rw [hv0389, z_cla (by omega)] at R1
        refine j_vret dX11_lay_51 rfl ?_ (Nat.le_of_ble_eq_true rfl) (Nat.le_of_ble_eq_true rfl)
        refine cast (congrFun (congrFun hQ9 _) _) ?_
        have hne : ¬ sp_lk (sp_T S t) k = -1000 := sp_vln (sp_lk_vl okT.2 hmem384)
        exact ⟨rfl, _, (fw1.fm (q := 59) (by omega)), h1, (by unfold sp_lyS sp_pt; rw [if_neg hne, ← sp_tcu]; have e := R1; rw [he384, show sp_T (sp_tc S t (z_bp (sp_C S 2) 5)) t = sp_T S t from congrFun sp_tcT _] at e; exact e), rfl⟩
    · refine j_w w hw384 ?_
      refine j_istore (lo' := [(4, _), (0, _), (1, _), (2, _), (3, _)]) dX11_lay_22 (by decide) rfl ?_
      refine j_iload dX11_lay_24 rfl ?_
      refine j_if_lt (tgt := 52) dX11_lay_26 (by decide) (fun c_26_49 => ?_) (fun c_26_49 => ?_)
      · refine j_aload_n dX11_lay_52 rfl rfl ?_
        refine j_getf dX11_lay_53 fX11_34 h.m rfl ?_
        refine j_iload_n dX11_lay_56 rfl ?_
        obtain ⟨lv395, -, lg395⟩ := z_li.cell h.tabs
        refine j_callV (q := (RJx4a65c, TJx4a65c, 3)) dX11_lay_57 kJx4a65c_get_915e3 lX11_82 inJx4a65c_get_915e3 seJx4a65c_get_915e3 lg395 rfl (cl_get hl w 47 1007 _ _ (t) _ h.tabs (z_thr3 (t := t) (by omega))) (Nat.le_of_ble_eq_true rfl) ⟨(Nat.le_of_ble_eq_true rfl), (Nat.le_of_ble_eq_true rfl)⟩ rfl (Nat.le_of_ble_eq_true rfl) rfl rfl (fun _ _ h => h.elim) ?_
        rintro _ _ ⟨rfl, hw396⟩
        refine j_w w hw396 ?_
        refine j_castS dX11_lay_60 (z_w 1341 ((lwt_6_3 6).trans rfl) (by decide +kernel)) (z_li.is (h.tb (t := t) (by omega))) ?_
        obtain ⟨lv398, -, lg398⟩ := z_li.cell (h.tb (t := t) (by omega))
        refine j_callV (q := (RJx4a65c, TJx4a65c, 3)) dX11_lay_63 kJx4a65c_size_8abf5 lX11_86 inJx4a65c_size_8abf5 seJx4a65c_size_8abf5 lg398 rfl (cl_sizeT hl w (t) ((sp_T S t)) h Rt383 (by omega) (congrFun sp_tcT _)) (Nat.le_of_ble_eq_true rfl) ⟨(Nat.le_of_ble_eq_true rfl), (Nat.le_of_ble_eq_true rfl)⟩ rfl (Nat.le_of_ble_eq_true rfl) rfl rfl (fun _ _ h => h.elim) ?_
        rintro _ _ ⟨rfl, hw399⟩
        refine j_w w hw399 ?_
        have hz399 : ((sp_T S t)).length ≤ 20 := Rt383.l20 h (t := t) (by omega) (congrFun sp_tcT _)
        refine j_istore (lo' := [(5, _), (4, _), (0, _), (1, _), (2, _), (3, _)]) dX11_lay_66 (by decide) rfl ?_
        obtain ⟨wl, sl, hml, hRl, hfl, hthl, hwl⟩ : ∃ (wl : z_W) (sl : z_Z), z_mst wl sl ∧ sp_MR (sp_tc S t (z_bp (sp_C S 2) 5)) sl ∧ z_fm 59 w wl ∧ sl.1.1 = s.1.1 ∧ wl = w := ⟨w, _, h, Rt383, z_fm.rf, rfl, rfl⟩
        refine j_w wl hwl.symm ?_
        have hno : k ∉ sp_ks (sp_T S t) := hnk384
        have hlk : sp_lk (sp_T S t) k = -1000 := hlk384
        have hzl : (z_qp sl t).2.length ≤ 20 := (hml.pr (t := t) ht).len
        have hTl : (z_qp sl t).2.length = (sp_T S t).length := hRl.tlB ht (congrFun sp_tcT _)
        have loop68 : ∀ (n9 : Nat) (w2 : z_W) (a : Nat), (a ≤ (sp_T S t).length) → (a < n9) → (sp_pl (sp_srt t) (sp_T S t) k = cond (sp_srt t) (sp_at (sp_T S t) k a) a) → (z_mst w2 sl) → (w2 = wl) → z_J G l mX11_lay (20, 2, 52, w, Q9, (fun _ _ => False)) 68 [(0, .ref 1000), (1, .int (nI t)), (2, .int (nI k)), (3, .int z), (4, .int (-1)), (5, .int (nI a))] [] w2 0 0 := by
          intro n9
          induction n9 with
          | zero => intro w2 a hj hf9 hpl hm hW; exact absurd hf9 (Nat.not_lt_zero _)
          | succ n9 ih =>
            intro w2 a hj hf9 hpl hm hW
            refine j_iload_n dX11_lay_68 rfl ?_
            refine j_iconst (v := 2) dX11_lay_69 (by decide) ?_
            refine j_icmp_ne (tgt := 111) dX11_lay_70 (by decide) (fun c_70_78 => ?_) (fun c_70_78 => ?_)
            · have hb70 : ¬ t = 2 := fun z => c_70_78 (show nI t = nI 2 by rw [z])
              have hs70 : sp_srt t = false := z_beq hb70
              refine j_aload_n dX11_lay_111 rfl rfl ?_
              refine j_getf dX11_lay_112 fX11_34 hm.m rfl ?_
              refine j_iload_n dX11_lay_115 rfl ?_
              obtain ⟨lv401, -, lg401⟩ := z_li.cell hm.tabs
              refine j_callV (q := (RJx4a65c, TJx4a65c, 3)) dX11_lay_116 kJx4a65c_get_915e3 lX11_82 inJx4a65c_get_915e3 seJx4a65c_get_915e3 lg401 rfl (cl_get hl w2 47 1007 _ _ (t) _ hm.tabs (z_thr3 (t := t) (by omega))) (Nat.le_of_ble_eq_true rfl) ⟨(Nat.le_of_ble_eq_true rfl), (Nat.le_of_ble_eq_true rfl)⟩ rfl (Nat.le_of_ble_eq_true rfl) rfl rfl (fun _ _ h => h.elim) ?_
              rintro _ _ ⟨rfl, hw402⟩
              refine j_w w2 hw402 ?_
              refine j_castS dX11_lay_119 (z_w 1341 ((lwt_6_3 6).trans rfl) (by decide +kernel)) (z_li.is (hm.tb (t := t) (by omega))) ?_
              refine j_iload dX11_lay_122 rfl ?_
              refine j_iconst (v := 2) dX11_lay_124 (by decide) ?_
              obtain ⟨x1, hx1a, hx1b, hx1c⟩ := z_fresh (14 + t) (by omega) hm.fn
              refine j_newa (kd := 0) (N := 2) (w' := _) (n := x1) dX11_lay_125 rfl rfl arc_int ⟨rfl, fun _ _ h => h⟩ (by decide) rfl (by decide) rfl (z_alW hx1c hx1a) (Nat.le_of_ble_eq_true rfl) (Nat.le_of_ble_eq_true rfl) ?_
              refine j_seal hx1a ?_
              intro w3 u3
              have hx3 : ∀ (k : Nat) (e : z_E), z_g w2 k = some e → z_g w3 k = some e := fun k e hk => (u3.2.1 k (z_neF hx1c hk)).trans ((fun _ _ z => z) k e hk)
              have fw3 := u3.fw hx1a hx1b
              have h3 := hm.mono hx3 (u3.2.2.2 hm.fn)
              refine j_dup dX11_lay_127 rfl ?_
              refine j_iconst (v := 0) dX11_lay_128 (by decide) ?_
              refine j_iload_n dX11_lay_129 rfl ?_
              refine j_sto (w' := _) dX11_lay_130 u3.1 (vp_in_nI (n := 0) (by decide) (by decide)) rfl ?_
              refine j_seal hx1a ?_
              intro w4 u4
              have hx4 : ∀ (k : Nat) (e : z_E), z_g w2 k = some e → z_g w4 k = some e := fun k e hk => (u4.2.1 k (z_neF hx1c hk)).trans (hx3 k e hk)
              have fw4 := u4.fw hx1a hx1b
              have h4 := hm.mono hx4 (u4.2.2.2 h3.fn)
              refine j_dup dX11_lay_131 rfl ?_
              refine j_iconst (v := 1) dX11_lay_132 (by decide) ?_
              refine j_iload_n dX11_lay_133 rfl ?_
              refine j_sto (w' := _) dX11_lay_134 u4.1 (vp_in_nI (n := 1) (by decide) (by decide)) rfl ?_
              refine j_seal hx1a ?_
              intro w5 u5
              have hx5 : ∀ (k : Nat) (e : z_E), z_g w2 k = some e → z_g w5 k = some e := fun k e hk => (u5.2.1 k (z_neF hx1c hk)).trans (hx4 k e hk)
              have fw5 := u5.fw hx1a hx1b
              have h5 := hm.mono hx5 (u5.2.2.2 h4.fn)
              have hpa : sp_pl (sp_srt t) (sp_T S t) k = a := by
                rw [hpl, hs70]; rfl
              have hgx := u5.1
              have hkx : z_g w5 x1 = some (.inl (0, 2, fun j => .int ((z_ui (z_ui (fun _ => 0) 0 (nI k)) 1 z) j))) := hgx
              have hKn := z_mst.newk (x := x1) (F := (z_ui (z_ui (fun _ => 0) 0 (nI k)) 1 z)) hm hx1c h5
              have RKn := sp_MR.newk (x := x1) (F := (z_ui (z_ui (fun _ => 0) 0 (nI k)) 1 z)) hRl hm hx1c
              obtain ⟨lv406, -, lg406⟩ := z_li.cell (h5.tb (t := t) (by omega))
              refine j_callV (q := (RJx4a65c, TJx4a65c, 3)) dX11_lay_135 kJx4a65c_add_7a177 lX11_133 inJx4a65c_add_7a177 seJx4a65c_add_7a177 lg406 rfl (cl_addI hl w5 (51 + t) _ _ _ 20 (a) (.ref x1) (hKn.tb (t := t) ht) (by omega) hKn.fn (by rw [z_rs_len]; exact hzl) (by decide) (z_rs_el (hKn.pr (t := t) ht) (by omega)) ⟨Or.inr ⟨x1, rfl, Or.inr (show x1 % 64 ≠ 51 + t by omega)⟩, "[I", z_isA hkx, (z_wn 2007 ((lwt_9_1 12).trans rfl) (by decide +kernel))⟩ (by rw [z_rs_len]; show _ ≤ (z_qp sl t).2.length; omega)) (Nat.le_of_ble_eq_true rfl) ⟨(Nat.le_of_ble_eq_true rfl), (Nat.le_of_ble_eq_true rfl)⟩ rfl (Nat.le_of_ble_eq_true rfl) rfl rfl (fun _ _ h => h.elim) ?_
              rintro _ w6 ⟨rfl, fw6, mo6, hr6⟩
              rw [z_rs_ins] at hr6
              have fm6 := fw6.fm (q := 56) (by omega)
              have hf6 : z_fu (z_qk sl) x1 (z_ui (z_ui (fun _ => 0) 0 (nI k)) 1 z) x1 = (z_ui (z_ui (fun _ => 0) 0 (nI k)) 1 z) := z_fu_self
              have hno2 : ∀ p ∈ (z_qp sl t).2, ¬ z_qk sl p 0 = nI k := fun p hp e => hno (by
                have h9 : (sp_tpK (z_qk sl) (z_qp sl t).2) = sp_T S t := (hRl.t ht).trans (congrFun sp_tcT _)
                rw [← h9]
                exact List.mem_map.mpr ⟨_, List.mem_map.mpr ⟨p, hp, rfl⟩, by show (z_qk sl p 0).toNatClampNeg = k; rw [e, z_cla (by omega)]⟩)
              have hi6 : z_pr w6 (14 + t) ((z_qp sl t).2.take (a) ++ x1 :: (z_qp sl t).2.drop (a)) (z_fu (z_qk sl) x1 (z_ui (z_ui (fun _ => 0) 0 (nI k)) 1 z)) := z_pr.m (fun n _ h2 => fw6.2.2 n (Or.inr (by omega))) ((hKn.pr (t := t) ht).ins ⟨hx1a, hx1b, k, hk, by show z_fu (z_qk sl) x1 (z_ui (z_ui (fun _ => 0) 0 (nI k)) 1 z) x1 0 = nI k; rw [hf6]; rfl⟩ (by show z_g _ x1 = some (.inl (0, 2, fun j => .int (z_fu (z_qk sl) x1 (z_ui (z_ui (fun _ => 0) 0 (nI k)) 1 z) x1 j))); rw [hf6]; exact hkx) (fun p hp => by
                have hpx : p ≠ x1 := fun z => by have h9 := ((hm.pr (t := t) ht).1 p hp).2; rw [z, hx1c] at h9; cases h9
                show ¬ z_fu (z_qk sl) x1 (z_ui (z_ui (fun _ => 0) 0 (nI k)) 1 z) p 0 = z_fu (z_qk sl) x1 (z_ui (z_ui (fun _ => 0) 0 (nI k)) 1 z) x1 0
                rw [hf6, z_fu_ne hpx]; exact hno2 p hp))
              have h6 := hKn.li51 (t0 := t) ht fw6 hr6 hi6
              have R6 := RKn.up (t := t) (c := mo6) (T := sp_ins (sp_T S t) (a) k z) (by
                show sp_tpK (z_fu (z_qk sl) x1 (z_ui (z_ui (fun _ => 0) 0 (nI k)) 1 z)) ((z_qp sl t).2.take (a) ++ x1 :: (z_qp sl t).2.drop (a)) = _
                rw [sp_tp_ins (k := k) (v := z) (by rw [hf6]; rfl) hk (by rw [hf6]; rfl)]
                exact congrArg (fun T => sp_ins T (a) k z) ((RKn.t ht).trans (congrFun sp_tcT _)))
              refine j_vret dX11_lay_138 rfl ?_ (Nat.le_of_ble_eq_true rfl) (Nat.le_of_ble_eq_true rfl)
              refine cast (congrFun (congrFun hQ9 _) _) ?_
              exact ⟨rfl, _, (((((hW ▸ hfl).tr (fw3.fm (q := 59) (by omega))).tr (fw4.fm (q := 59) (by omega))).tr (fw5.fm (q := 59) (by omega))).tr (fm6.le (q' := 59) (by decide))), h6, (by unfold sp_lyS sp_pt; rw [if_pos hlk, ← sp_tcu, hpa]; exact R6), hthl⟩
            · have hb70 : t = 2 := nI_inj (a := t) (b := 2) c_70_78 (by omega) (by omega)
              have hs70 : sp_srt t = true := by rw [hb70]; rfl
              refine j_iload dX11_lay_73 rfl ?_
              refine j_if_le (tgt := 111) dX11_lay_75 (by decide) (fun c_75_147 => ?_) (fun c_75_147 => ?_)
              · have hb75 : a ≤ 0 := (nI_leI (a := a) (b := 0) (by omega) (by omega)).mp c_75_147
                refine j_aload_n dX11_lay_111 rfl rfl ?_
                refine j_getf dX11_lay_112 fX11_34 hm.m rfl ?_
                refine j_iload_n dX11_lay_115 rfl ?_
                obtain ⟨lv408, -, lg408⟩ := z_li.cell hm.tabs
                refine j_callV (q := (RJx4a65c, TJx4a65c, 3)) dX11_lay_116 kJx4a65c_get_915e3 lX11_82 inJx4a65c_get_915e3 seJx4a65c_get_915e3 lg408 rfl (cl_get hl w2 47 1007 _ _ (t) _ hm.tabs (z_thr3 (t := t) (by omega))) (Nat.le_of_ble_eq_true rfl) ⟨(Nat.le_of_ble_eq_true rfl), (Nat.le_of_ble_eq_true rfl)⟩ rfl (Nat.le_of_ble_eq_true rfl) rfl rfl (fun _ _ h => h.elim) ?_
                rintro _ _ ⟨rfl, hw409⟩
                refine j_w w2 hw409 ?_
                refine j_castS dX11_lay_119 (z_w 1341 ((lwt_6_3 6).trans rfl) (by decide +kernel)) (z_li.is (hm.tb (t := t) (by omega))) ?_
                refine j_iload dX11_lay_122 rfl ?_
                refine j_iconst (v := 2) dX11_lay_124 (by decide) ?_
                obtain ⟨x2, hx2a, hx2b, hx2c⟩ := z_fresh (14 + t) (by omega) hm.fn
                refine j_newa (kd := 0) (N := 2) (w' := _) (n := x2) dX11_lay_125 rfl rfl arc_int ⟨rfl, fun _ _ h => h⟩ (by decide) rfl (by decide) rfl (z_alW hx2c hx2a) (Nat.le_of_ble_eq_true rfl) (Nat.le_of_ble_eq_true rfl) ?_
                refine j_seal hx2a ?_
                intro w7 u7
                have hx7 : ∀ (k : Nat) (e : z_E), z_g w2 k = some e → z_g w7 k = some e := fun k e hk => (u7.2.1 k (z_neF hx2c hk)).trans ((fun _ _ z => z) k e hk)
                have fw7 := u7.fw hx2a hx2b
                have h7 := hm.mono hx7 (u7.2.2.2 hm.fn)
                refine j_dup dX11_lay_127 rfl ?_
                refine j_iconst (v := 0) dX11_lay_128 (by decide) ?_
                refine j_iload_n dX11_lay_129 rfl ?_
                refine j_sto (w' := _) dX11_lay_130 u7.1 (vp_in_nI (n := 0) (by decide) (by decide)) rfl ?_
                refine j_seal hx2a ?_
                intro w8 u8
                have hx8 : ∀ (k : Nat) (e : z_E), z_g w2 k = some e → z_g w8 k = some e := fun k e hk => (u8.2.1 k (z_neF hx2c hk)).trans (hx7 k e hk)
                have fw8 := u8.fw hx2a hx2b
                have h8 := hm.mono hx8 (u8.2.2.2 h7.fn)
                refine j_dup dX11_lay_131 rfl ?_
                refine j_iconst (v := 1) dX11_lay_132 (by decide) ?_
                refine j_iload_n dX11_lay_133 rfl ?_
                refine j_sto (w' := _) dX11_lay_134 u8.1 (vp_in_nI (n := 1) (by decide) (by decide)) rfl ?_
                refine j_seal hx2a ?_
                intro w9 u9
                have hx9 : ∀ (k : Nat) (e : z_E), z_g w2 k = some e → z_g w9 k = some e := fun k e hk => (u9.2.1 k (z_neF hx2c hk)).trans (hx8 k e hk)
                have fw9 := u9.fw hx2a hx2b
                have h9 := hm.mono hx9 (u9.2.2.2 h8.fn)
                have hpa : sp_pl (sp_srt t) (sp_T S t) k = a := by
                  have ha0 : a = 0 := by omega
                  rw [hpl, hs70, ha0]; rfl
                have hgx := u9.1
                have hkx : z_g w9 x2 = some (.inl (0, 2, fun j => .int ((z_ui (z_ui (fun _ => 0) 0 (nI k)) 1 z) j))) := hgx
                have hKn := z_mst.newk (x := x2) (F := (z_ui (z_ui (fun _ => 0) 0 (nI k)) 1 z)) hm hx2c h9
                have RKn := sp_MR.newk (x := x2) (F := (z_ui (z_ui (fun _ => 0) 0 (nI k)) 1 z)) hRl hm hx2c
                obtain ⟨lv413, -, lg413⟩ := z_li.cell (h9.tb (t := t) (by omega))
                refine j_callV (q := (RJx4a65c, TJx4a65c, 3)) dX11_lay_135 kJx4a65c_add_7a177 lX11_133 inJx4a65c_add_7a177 seJx4a65c_add_7a177 lg413 rfl (cl_addI hl w9 (51 + t) _ _ _ 20 (a) (.ref x2) (hKn.tb (t := t) ht) (by omega) hKn.fn (by rw [z_rs_len]; exact hzl) (by decide) (z_rs_el (hKn.pr (t := t) ht) (by omega)) ⟨Or.inr ⟨x2, rfl, Or.inr (show x2 % 64 ≠ 51 + t by omega)⟩, "[I", z_isA hkx, (z_wn 2007 ((lwt_9_1 12).trans rfl) (by decide +kernel))⟩ (by rw [z_rs_len]; show _ ≤ (z_qp sl t).2.length; omega)) (Nat.le_of_ble_eq_true rfl) ⟨(Nat.le_of_ble_eq_true rfl), (Nat.le_of_ble_eq_true rfl)⟩ rfl (Nat.le_of_ble_eq_true rfl) rfl rfl (fun _ _ h => h.elim) ?_
                rintro _ w10 ⟨rfl, fw10, mo10, hr10⟩
                rw [z_rs_ins] at hr10
                have fm10 := fw10.fm (q := 56) (by omega)
                have hf10 : z_fu (z_qk sl) x2 (z_ui (z_ui (fun _ => 0) 0 (nI k)) 1 z) x2 = (z_ui (z_ui (fun _ => 0) 0 (nI k)) 1 z) := z_fu_self
                have hno2 : ∀ p ∈ (z_qp sl t).2, ¬ z_qk sl p 0 = nI k := fun p hp e => hno (by
                  have h9 : (sp_tpK (z_qk sl) (z_qp sl t).2) = sp_T S t := (hRl.t ht).trans (congrFun sp_tcT _)
                  rw [← h9]
                  exact List.mem_map.mpr ⟨_, List.mem_map.mpr ⟨p, hp, rfl⟩, by show (z_qk sl p 0).toNatClampNeg = k; rw [e, z_cla (by omega)]⟩)
                have hi10 : z_pr w10 (14 + t) ((z_qp sl t).2.take (a) ++ x2 :: (z_qp sl t).2.drop (a)) (z_fu (z_qk sl) x2 (z_ui (z_ui (fun _ => 0) 0 (nI k)) 1 z)) := z_pr.m (fun n _ h2 => fw10.2.2 n (Or.inr (by omega))) ((hKn.pr (t := t) ht).ins ⟨hx2a, hx2b, k, hk, by show z_fu (z_qk sl) x2 (z_ui (z_ui (fun _ => 0) 0 (nI k)) 1 z) x2 0 = nI k; rw [hf10]; rfl⟩ (by show z_g _ x2 = some (.inl (0, 2, fun j => .int (z_fu (z_qk sl) x2 (z_ui (z_ui (fun _ => 0) 0 (nI k)) 1 z) x2 j))); rw [hf10]; exact hkx) (fun p hp => by
                  have hpx : p ≠ x2 := fun z => by have h9 := ((hm.pr (t := t) ht).1 p hp).2; rw [z, hx2c] at h9; cases h9
                  show ¬ z_fu (z_qk sl) x2 (z_ui (z_ui (fun _ => 0) 0 (nI k)) 1 z) p 0 = z_fu (z_qk sl) x2 (z_ui (z_ui (fun _ => 0) 0 (nI k)) 1 z) x2 0
                  rw [hf10, z_fu_ne hpx]; exact hno2 p hp))
                have h10 := hKn.li51 (t0 := t) ht fw10 hr10 hi10
                have R10 := RKn.up (t := t) (c := mo10) (T := sp_ins (sp_T S t) (a) k z) (by
                  show sp_tpK (z_fu (z_qk sl) x2 (z_ui (z_ui (fun _ => 0) 0 (nI k)) 1 z)) ((z_qp sl t).2.take (a) ++ x2 :: (z_qp sl t).2.drop (a)) = _
                  rw [sp_tp_ins (k := k) (v := z) (by rw [hf10]; rfl) hk (by rw [hf10]; rfl)]
                  exact congrArg (fun T => sp_ins T (a) k z) ((RKn.t ht).trans (congrFun sp_tcT _)))
                refine j_vret dX11_lay_138 rfl ?_ (Nat.le_of_ble_eq_true rfl) (Nat.le_of_ble_eq_true rfl)
                refine cast (congrFun (congrFun hQ9 _) _) ?_
                exact ⟨rfl, _, (((((hW ▸ hfl).tr (fw7.fm (q := 59) (by omega))).tr (fw8.fm (q := 59) (by omega))).tr (fw9.fm (q := 59) (by omega))).tr (fm10.le (q' := 59) (by decide))), h10, (by unfold sp_lyS sp_pt; rw [if_pos hlk, ← sp_tcu, hpa]; exact R10), hthl⟩
              · have hb75 : 0 < a := Nat.not_le.mp (fun z => c_75_147 ((nI_leI (a := a) (b := 0) (by omega) (by omega)).mpr z))
                refine j_aload_n dX11_lay_78 rfl rfl ?_
                refine j_getf dX11_lay_79 fX11_34 hm.m rfl ?_
                refine j_iload_n dX11_lay_82 rfl ?_
                obtain ⟨lv415, -, lg415⟩ := z_li.cell hm.tabs
                refine j_callV (q := (RJx4a65c, TJx4a65c, 3)) dX11_lay_83 kJx4a65c_get_915e3 lX11_82 inJx4a65c_get_915e3 seJx4a65c_get_915e3 lg415 rfl (cl_get hl w2 47 1007 _ _ (t) _ hm.tabs (z_thr3 (t := t) (by omega))) (Nat.le_of_ble_eq_true rfl) ⟨(Nat.le_of_ble_eq_true rfl), (Nat.le_of_ble_eq_true rfl)⟩ rfl (Nat.le_of_ble_eq_true rfl) rfl rfl (fun _ _ h => h.elim) ?_
                rintro _ _ ⟨rfl, hw416⟩
                refine j_w w2 hw416 ?_
                refine j_castS dX11_lay_86 (z_w 1341 ((lwt_6_3 6).trans rfl) (by decide +kernel)) (z_li.is (hm.tb (t := t) (by omega))) ?_
                refine j_iload dX11_lay_89 rfl ?_
                refine j_iconst (v := 1) dX11_lay_91 (by decide) ?_
                refine j_isub dX11_lay_92 ?_
                refine j_top (congrArg Value.int (pk_sub (a := a) (b := 1) (by omega))) ?_
                obtain ⟨x418, hx418⟩ : ∃ x, ((sp_T S t))[(a - 1)]? = some x := ⟨_, List.getElem?_eq_getElem (show (a - 1) < ((sp_T S t)).length by omega)⟩
                obtain ⟨p418, hp418, hq418, hk418, hv0418, hv1418, hv2418⟩ := hRl.prB hm (t := t) (k := (a - 1)) (by omega) (congrFun sp_tcT _) hx418
                obtain ⟨lv419, -, lg419⟩ := z_li.cell (hm.tb (t := t) (by omega))
                refine j_callV (q := (RJx4a65c, TJx4a65c, 3)) dX11_lay_93 kJx4a65c_get_915e3 lX11_82 inJx4a65c_get_915e3 seJx4a65c_get_915e3 lg419 rfl (cl_get hl w2 _ _ _ _ ((a - 1)) _ (hm.tb (t := t) (by omega)) hq418) (Nat.le_of_ble_eq_true rfl) ⟨(Nat.le_of_ble_eq_true rfl), (Nat.le_of_ble_eq_true rfl)⟩ rfl (Nat.le_of_ble_eq_true rfl) rfl rfl (fun _ _ h => h.elim) ?_
                rintro _ _ ⟨rfl, hw420⟩
                refine j_w w2 hw420 ?_
                refine j_castS dX11_lay_96 (z_w 1663 ((lwt_7_5 28).trans rfl) (by decide +kernel)) (z_isA ((hm.pr (t := t) (by omega)).1 p418 hp418).2) ?_
                refine j_iconst (v := 0) dX11_lay_99 (by decide) ?_
                refine j_ld dX11_lay_100 ((hm.pr (t := t) (by omega)).1 p418 hp418).2 (vp_in_nI (n := 0) (by decide) (by decide)) ?_
                refine j_top (congrArg Value.int (show _ = nI x418.1 from by rw [show (0 : Int32).toNatClampNeg = 0 from by decide]; exact hv0418)) ?_
                refine j_iload_n dX11_lay_101 rfl ?_
                refine j_icmp_le (tgt := 111) dX11_lay_102 (by decide) (fun c_102_237 => ?_) (fun c_102_237 => ?_)
                · have hb102 : x418.1 ≤ k := (nI_leI (a := x418.1) (b := k) (by omega) (by omega)).mp c_102_237
                  refine j_aload_n dX11_lay_111 rfl rfl ?_
                  refine j_getf dX11_lay_112 fX11_34 hm.m rfl ?_
                  refine j_iload_n dX11_lay_115 rfl ?_
                  obtain ⟨lv424, -, lg424⟩ := z_li.cell hm.tabs
                  refine j_callV (q := (RJx4a65c, TJx4a65c, 3)) dX11_lay_116 kJx4a65c_get_915e3 lX11_82 inJx4a65c_get_915e3 seJx4a65c_get_915e3 lg424 rfl (cl_get hl w2 47 1007 _ _ (t) _ hm.tabs (z_thr3 (t := t) (by omega))) (Nat.le_of_ble_eq_true rfl) ⟨(Nat.le_of_ble_eq_true rfl), (Nat.le_of_ble_eq_true rfl)⟩ rfl (Nat.le_of_ble_eq_true rfl) rfl rfl (fun _ _ h => h.elim) ?_
                  rintro _ _ ⟨rfl, hw425⟩
                  refine j_w w2 hw425 ?_
                  refine j_castS dX11_lay_119 (z_w 1341 ((lwt_6_3 6).trans rfl) (by decide +kernel)) (z_li.is (hm.tb (t := t) (by omega))) ?_
                  refine j_iload dX11_lay_122 rfl ?_
                  refine j_iconst (v := 2) dX11_lay_124 (by decide) ?_
                  obtain ⟨x3, hx3a, hx3b, hx3c⟩ := z_fresh (14 + t) (by omega) hm.fn
                  refine j_newa (kd := 0) (N := 2) (w' := _) (n := x3) dX11_lay_125 rfl rfl arc_int ⟨rfl, fun _ _ h => h⟩ (by decide) rfl (by decide) rfl (z_alW hx3c hx3a) (Nat.le_of_ble_eq_true rfl) (Nat.le_of_ble_eq_true rfl) ?_
                  refine j_seal hx3a ?_
                  intro w11 u11
                  have hx11 : ∀ (k : Nat) (e : z_E), z_g w2 k = some e → z_g w11 k = some e := fun k e hk => (u11.2.1 k (z_neF hx3c hk)).trans ((fun _ _ z => z) k e hk)
                  have fw11 := u11.fw hx3a hx3b
                  have h11 := hm.mono hx11 (u11.2.2.2 hm.fn)
                  refine j_dup dX11_lay_127 rfl ?_
                  refine j_iconst (v := 0) dX11_lay_128 (by decide) ?_
                  refine j_iload_n dX11_lay_129 rfl ?_
                  refine j_sto (w' := _) dX11_lay_130 u11.1 (vp_in_nI (n := 0) (by decide) (by decide)) rfl ?_
                  refine j_seal hx3a ?_
                  intro w12 u12
                  have hx12 : ∀ (k : Nat) (e : z_E), z_g w2 k = some e → z_g w12 k = some e := fun k e hk => (u12.2.1 k (z_neF hx3c hk)).trans (hx11 k e hk)
                  have fw12 := u12.fw hx3a hx3b
                  have h12 := hm.mono hx12 (u12.2.2.2 h11.fn)
                  refine j_dup dX11_lay_131 rfl ?_
                  refine j_iconst (v := 1) dX11_lay_132 (by decide) ?_
                  refine j_iload_n dX11_lay_133 rfl ?_
                  refine j_sto (w' := _) dX11_lay_134 u12.1 (vp_in_nI (n := 1) (by decide) (by decide)) rfl ?_
                  refine j_seal hx3a ?_
                  intro w13 u13
                  have hx13 : ∀ (k : Nat) (e : z_E), z_g w2 k = some e → z_g w13 k = some e := fun k e hk => (u13.2.1 k (z_neF hx3c hk)).trans (hx12 k e hk)
                  have fw13 := u13.fw hx3a hx3b
                  have h13 := hm.mono hx13 (u13.2.2.2 h12.fn)
                  have hpa : sp_pl (sp_srt t) (sp_T S t) k = a := by
                    have ha : a = (a - 1) + 1 := by omega
                    rw [hpl, hs70, ha]; exact sp_at_n hx418 (Nat.not_lt.mpr hb102)
                  have hgx := u13.1
                  have hkx : z_g w13 x3 = some (.inl (0, 2, fun j => .int ((z_ui (z_ui (fun _ => 0) 0 (nI k)) 1 z) j))) := hgx
                  have hKn := z_mst.newk (x := x3) (F := (z_ui (z_ui (fun _ => 0) 0 (nI k)) 1 z)) hm hx3c h13
                  have RKn := sp_MR.newk (x := x3) (F := (z_ui (z_ui (fun _ => 0) 0 (nI k)) 1 z)) hRl hm hx3c
                  obtain ⟨lv429, -, lg429⟩ := z_li.cell (h13.tb (t := t) (by omega))
                  refine j_callV (q := (RJx4a65c, TJx4a65c, 3)) dX11_lay_135 kJx4a65c_add_7a177 lX11_133 inJx4a65c_add_7a177 seJx4a65c_add_7a177 lg429 rfl (cl_addI hl w13 (51 + t) _ _ _ 20 (a) (.ref x3) (hKn.tb (t := t) ht) (by omega) hKn.fn (by rw [z_rs_len]; exact hzl) (by decide) (z_rs_el (hKn.pr (t := t) ht) (by omega)) ⟨Or.inr ⟨x3, rfl, Or.inr (show x3 % 64 ≠ 51 + t by omega)⟩, "[I", z_isA hkx, (z_wn 2007 ((lwt_9_1 12).trans rfl) (by decide +kernel))⟩ (by rw [z_rs_len]; show _ ≤ (z_qp sl t).2.length; omega)) (Nat.le_of_ble_eq_true rfl) ⟨(Nat.le_of_ble_eq_true rfl), (Nat.le_of_ble_eq_true rfl)⟩ rfl (Nat.le_of_ble_eq_true rfl) rfl rfl (fun _ _ h => h.elim) ?_
                  rintro _ w14 ⟨rfl, fw14, mo14, hr14⟩
                  rw [z_rs_ins] at hr14
                  have fm14 := fw14.fm (q := 56) (by omega)
                  have hf14 : z_fu (z_qk sl) x3 (z_ui (z_ui (fun _ => 0) 0 (nI k)) 1 z) x3 = (z_ui (z_ui (fun _ => 0) 0 (nI k)) 1 z) := z_fu_self
                  have hno2 : ∀ p ∈ (z_qp sl t).2, ¬ z_qk sl p 0 = nI k := fun p hp e => hno (by
                    have h9 : (sp_tpK (z_qk sl) (z_qp sl t).2) = sp_T S t := (hRl.t ht).trans (congrFun sp_tcT _)
                    rw [← h9]
                    exact List.mem_map.mpr ⟨_, List.mem_map.mpr ⟨p, hp, rfl⟩, by show (z_qk sl p 0).toNatClampNeg = k; rw [e, z_cla (by omega)]⟩)
                  have hi14 : z_pr w14 (14 + t) ((z_qp sl t).2.take (a) ++ x3 :: (z_qp sl t).2.drop (a)) (z_fu (z_qk sl) x3 (z_ui (z_ui (fun _ => 0) 0 (nI k)) 1 z)) := z_pr.m (fun n _ h2 => fw14.2.2 n (Or.inr (by omega))) ((hKn.pr (t := t) ht).ins ⟨hx3a, hx3b, k, hk, by show z_fu (z_qk sl) x3 (z_ui (z_ui (fun _ => 0) 0 (nI k)) 1 z) x3 0 = nI k; rw [hf14]; rfl⟩ (by show z_g _ x3 = some (.inl (0, 2, fun j => .int (z_fu (z_qk sl) x3 (z_ui (z_ui (fun _ => 0) 0 (nI k)) 1 z) x3 j))); rw [hf14]; exact hkx) (fun p hp => by
                    have hpx : p ≠ x3 := fun z => by have h9 := ((hm.pr (t := t) ht).1 p hp).2; rw [z, hx3c] at h9; cases h9
                    show ¬ z_fu (z_qk sl) x3 (z_ui (z_ui (fun _ => 0) 0 (nI k)) 1 z) p 0 = z_fu (z_qk sl) x3 (z_ui (z_ui (fun _ => 0) 0 (nI k)) 1 z) x3 0
                    rw [hf14, z_fu_ne hpx]; exact hno2 p hp))
                  have h14 := hKn.li51 (t0 := t) ht fw14 hr14 hi14
                  have R14 := RKn.up (t := t) (c := mo14) (T := sp_ins (sp_T S t) (a) k z) (by
                    show sp_tpK (z_fu (z_qk sl) x3 (z_ui (z_ui (fun _ => 0) 0 (nI k)) 1 z)) ((z_qp sl t).2.take (a) ++ x3 :: (z_qp sl t).2.drop (a)) = _
                    rw [sp_tp_ins (k := k) (v := z) (by rw [hf14]; rfl) hk (by rw [hf14]; rfl)]
                    exact congrArg (fun T => sp_ins T (a) k z) ((RKn.t ht).trans (congrFun sp_tcT _)))
                  refine j_vret dX11_lay_138 rfl ?_ (Nat.le_of_ble_eq_true rfl) (Nat.le_of_ble_eq_true rfl)
                  refine cast (congrFun (congrFun hQ9 _) _) ?_
                  exact ⟨rfl, _, (((((hW ▸ hfl).tr (fw11.fm (q := 59) (by omega))).tr (fw12.fm (q := 59) (by omega))).tr (fw13.fm (q := 59) (by omega))).tr (fm14.le (q' := 59) (by decide))), h14, (by unfold sp_lyS sp_pt; rw [if_pos hlk, ← sp_tcu, hpa]; exact R14), hthl⟩
                · have hb102 : k < x418.1 := Nat.not_le.mp (fun z => c_102_237 ((nI_leI (a := x418.1) (b := k) (by omega) (by omega)).mpr z))
                  refine j_iinc (lo' := [(5, _), (0, _), (1, _), (2, _), (3, _), (4, _)]) dX11_lay_105 rfl (z_decr1 (by omega)) (by decide) rfl ?_
                  refine j_goto (tgt := 68) dX11_lay_108 (by decide) ?_
                  exact j_lo2 (ih w2 (a - 1) (by omega) (by omega) (by have ha : a = (a - 1) + 1 := (by omega); rw [ha, sp_at_y hx418 hb102, hs70] at hpl; rw [hs70]; exact hpl) hm hW) (z_q1 rfl (z_q1 rfl (z_q1 rfl (z_q1 rfl (z_q1 rfl (z_q1 rfl z_q0))))))
        exact j_lo2 (loop68 (((sp_T S t)).length + 1) wl ((sp_T S t)).length (Nat.le_refl _) (Nat.lt_succ_self _) rfl hml rfl) (z_q1 rfl (z_q1 rfl (z_q1 rfl (z_q1 rfl (z_q1 rfl (z_q1 rfl z_q0))))))
      · exact absurd c_26_49 (by decide)
  · have hb1 : t = 0 := nI_inj (a := t) (b := 0) c_1_3 (by omega) (by omega)
    refine j_aload_n dX11_lay_4 rfl rfl ?_
    refine j_getf dX11_lay_5 fX11_31 h.m rfl ?_
    refine j_iconst (v := 2) dX11_lay_8 (by decide) ?_
    obtain ⟨fz430, gz430, hz430⟩ := h.co
    refine j_aald (v := .ref (1004 + 2)) dX11_lay_9 gz430 rfl rfl (vp_in_nI (n := 2) (by decide) (by decide)) (by rw [show (2 : Int32).toNatClampNeg = 2 by decide]; exact hz430 _ (by decide)) ?_
    refine j_iconst (v := 5) dX11_lay_10 (by decide) ?_
    refine j_dup2 dX11_lay_11 rfl rfl ?_
    refine j_ld dX11_lay_12 (h.cn (i := 2) (by decide)) (vp_in_nI (n := 5) (by decide) (by decide)) ?_
    refine j_iconst (v := 1) dX11_lay_13 (by decide) ?_
    refine j_iadd dX11_lay_14 ?_
    refine j_sto (w' := _) dX11_lay_15 (h.cn (i := 2) (by decide)) (vp_in_nI (n := 5) (by decide) (by decide)) rfl ?_
    refine j_seal (by omega) ?_
    intro w15 u15
    have fw15 := u15.fw (ρ := 44 + 2) (by omega) (by omega)
    have h15 := h.up44 (i0 := 2) (by decide) fw15 u15.1
    rw [show (5 : Int32).toNatClampNeg = 5 by decide] at h15
    have R15 := R.bp (i := 2) (k := 5) (by omega) (by decide)
    have Rt433 : sp_MR (sp_tc S t (z_bp (sp_C S 2) 5)) _ := (by rw [sp_tc0 hb1]; exact R15)
    refine j_aload_n dX11_lay_16 rfl rfl ?_
    refine j_iload_n dX11_lay_17 rfl ?_
    refine j_iload_n dX11_lay_18 rfl ?_
    refine j_callV (q := (RX11, TX11, 8)) dX11_lay_19 kX11_place lX11_130 inX11_place seX11_place h15.m rfl (cm_place_r hl w15 _ _ (t) (k) ((sp_T S t)) h15 Rt433 (by omega) (by omega) (congrFun sp_tcT _)) (Nat.le_of_ble_eq_true rfl) ⟨(Nat.le_of_ble_eq_true rfl), (Nat.le_of_ble_eq_true rfl)⟩ rfl (Nat.le_of_ble_eq_true rfl) rfl rfl (fun _ _ h => h.elim) ?_
    rintro _ _ ⟨⟨j434, e434, rfl, hj434, he434, hlk434, hmem434, hjl434, hl20434⟩ | ⟨rfl, hnk434, hlk434⟩, hw434⟩
    · refine j_w w15 hw434 ?_
      refine j_istore (lo' := [(4, _), (0, _), (1, _), (2, _), (3, _)]) dX11_lay_22 (by decide) rfl ?_
      refine j_iload dX11_lay_24 rfl ?_
      refine j_if_lt (tgt := 52) dX11_lay_26 (by decide) (fun c_26_336 => ?_) (fun c_26_336 => ?_)
      · exact absurd c_26_336 (nI_pos (n := j434) (by omega))
      · refine j_aload_n dX11_lay_29 rfl rfl ?_
        refine j_getf dX11_lay_30 fX11_34 h15.m rfl ?_
        refine j_iload_n dX11_lay_33 rfl ?_
        obtain ⟨lv436, -, lg436⟩ := z_li.cell h15.tabs
        refine j_callV (q := (RJx4a65c, TJx4a65c, 3)) dX11_lay_34 kJx4a65c_get_915e3 lX11_82 inJx4a65c_get_915e3 seJx4a65c_get_915e3 lg436 rfl (cl_get hl w15 47 1007 _ _ (t) _ h15.tabs (z_thr3 (t := t) (by omega))) (Nat.le_of_ble_eq_true rfl) ⟨(Nat.le_of_ble_eq_true rfl), (Nat.le_of_ble_eq_true rfl)⟩ rfl (Nat.le_of_ble_eq_true rfl) rfl rfl (fun _ _ h => h.elim) ?_
        rintro _ _ ⟨rfl, hw437⟩
        refine j_w w15 hw437 ?_
        refine j_castS dX11_lay_37 (z_w 1341 ((lwt_6_3 6).trans rfl) (by decide +kernel)) (z_li.is (h15.tb (t := t) (by omega))) ?_
        refine j_iload dX11_lay_40 rfl ?_
        obtain ⟨p439, hp439, hq439, hk439, hv0439, hv1439, hv2439⟩ := Rt433.prB h15 (t := t) (k := j434) (by omega) (congrFun sp_tcT _) hj434
        obtain ⟨lv440, -, lg440⟩ := z_li.cell (h15.tb (t := t) (by omega))
        refine j_callV (q := (RJx4a65c, TJx4a65c, 3)) dX11_lay_42 kJx4a65c_get_915e3 lX11_82 inJx4a65c_get_915e3 seJx4a65c_get_915e3 lg440 rfl (cl_get hl w15 _ _ _ _ (j434) _ (h15.tb (t := t) (by omega)) hq439) (Nat.le_of_ble_eq_true rfl) ⟨(Nat.le_of_ble_eq_true rfl), (Nat.le_of_ble_eq_true rfl)⟩ rfl (Nat.le_of_ble_eq_true rfl) rfl rfl (fun _ _ h => h.elim) ?_
        rintro _ _ ⟨rfl, hw441⟩
        refine j_w w15 hw441 ?_
        refine j_castS dX11_lay_45 (z_w 1663 ((lwt_7_5 28).trans rfl) (by decide +kernel)) (z_isA ((h15.pr (t := t) (by omega)).1 p439 hp439).2) ?_
        refine j_iconst (v := 1) dX11_lay_48 (by decide) ?_
        refine j_iload_n dX11_lay_49 rfl ?_
        refine j_sto (w' := _) dX11_lay_50 ((h15.pr (t := t) (by omega)).1 p439 hp439).2 (vp_in_nI (n := 1) (by decide) (by decide)) rfl ?_
        refine j_seal (((h15.pr (t := t) (by omega)).1 p439 hp439).1.1) ?_
        intro w16 u16
        have hpp16 := ((h15.pr (t := t) (by omega)).1 p439 hp439).1
        have hpq16 := hpp16.2.1
        have fw16 := u16.fw (ρ := 14 + t) hpp16.1 hpp16.2.1
        have h16 := h15.up14 (t0 := t) (by omega) hp439 u16 (z_ui_ne (by decide))
        have R16 := Rt433.uk (t0 := t) (F := z_ui (z_qk _ p439) ((1 : Int32).toNatClampNeg) z) (v := z) h15 (by omega) hp439 (z_ui_ne (by decide)) (by rw [show (1 : Int32).toNatClampNeg = 1 from by decide]; exact z_ui_self)
        rw [hv0439, z_cla (by omega)] at R16
        refine j_vret dX11_lay_51 rfl ?_ (Nat.le_of_ble_eq_true rfl) (Nat.le_of_ble_eq_true rfl)
        refine cast (congrFun (congrFun hQ9 _) _) ?_
        have hne : ¬ sp_lk (sp_T S t) k = -1000 := sp_vln (sp_lk_vl okT.2 hmem434)
        exact ⟨rfl, _, ((fw15.fm (q := 59) (by omega)).tr (fw16.fm (q := 59) (by omega))), h16, (by unfold sp_lyS sp_pt; rw [if_neg hne, ← sp_tcu]; have e := R16; rw [he434, show sp_T (sp_tc S t (z_bp (sp_C S 2) 5)) t = sp_T S t from congrFun sp_tcT _] at e; exact e), rfl⟩
    · refine j_w w15 hw434 ?_
      refine j_istore (lo' := [(4, _), (0, _), (1, _), (2, _), (3, _)]) dX11_lay_22 (by decide) rfl ?_
      refine j_iload dX11_lay_24 rfl ?_
      refine j_if_lt (tgt := 52) dX11_lay_26 (by decide) (fun c_26_371 => ?_) (fun c_26_371 => ?_)
      · refine j_aload_n dX11_lay_52 rfl rfl ?_
        refine j_getf dX11_lay_53 fX11_34 h15.m rfl ?_
        refine j_iload_n dX11_lay_56 rfl ?_
        obtain ⟨lv445, -, lg445⟩ := z_li.cell h15.tabs
        refine j_callV (q := (RJx4a65c, TJx4a65c, 3)) dX11_lay_57 kJx4a65c_get_915e3 lX11_82 inJx4a65c_get_915e3 seJx4a65c_get_915e3 lg445 rfl (cl_get hl w15 47 1007 _ _ (t) _ h15.tabs (z_thr3 (t := t) (by omega))) (Nat.le_of_ble_eq_true rfl) ⟨(Nat.le_of_ble_eq_true rfl), (Nat.le_of_ble_eq_true rfl)⟩ rfl (Nat.le_of_ble_eq_true rfl) rfl rfl (fun _ _ h => h.elim) ?_
        rintro _ _ ⟨rfl, hw446⟩
        refine j_w w15 hw446 ?_
        refine j_castS dX11_lay_60 (z_w 1341 ((lwt_6_3 6).trans rfl) (by decide +kernel)) (z_li.is (h15.tb (t := t) (by omega))) ?_
        obtain ⟨lv448, -, lg448⟩ := z_li.cell (h15.tb (t := t) (by omega))
        refine j_callV (q := (RJx4a65c, TJx4a65c, 3)) dX11_lay_63 kJx4a65c_size_8abf5 lX11_86 inJx4a65c_size_8abf5 seJx4a65c_size_8abf5 lg448 rfl (cl_sizeT hl w15 (t) ((sp_T S t)) h15 Rt433 (by omega) (congrFun sp_tcT _)) (Nat.le_of_ble_eq_true rfl) ⟨(Nat.le_of_ble_eq_true rfl), (Nat.le_of_ble_eq_true rfl)⟩ rfl (Nat.le_of_ble_eq_true rfl) rfl rfl (fun _ _ h => h.elim) ?_
        rintro _ _ ⟨rfl, hw449⟩
        refine j_w w15 hw449 ?_
        have hz449 : ((sp_T S t)).length ≤ 20 := Rt433.l20 h15 (t := t) (by omega) (congrFun sp_tcT _)
        refine j_istore (lo' := [(5, _), (4, _), (0, _), (1, _), (2, _), (3, _)]) dX11_lay_66 (by decide) rfl ?_
        obtain ⟨wl, sl, hml, hRl, hfl, hthl, hwl⟩ : ∃ (wl : z_W) (sl : z_Z), z_mst wl sl ∧ sp_MR (sp_tc S t (z_bp (sp_C S 2) 5)) sl ∧ z_fm 59 w wl ∧ sl.1.1 = s.1.1 ∧ wl = w15 := ⟨w15, _, h15, Rt433, (fw15.fm (q := 59) (by omega)), rfl, rfl⟩
        refine j_w wl hwl.symm ?_
        have hno : k ∉ sp_ks (sp_T S t) := hnk434
        have hlk : sp_lk (sp_T S t) k = -1000 := hlk434
        have hzl : (z_qp sl t).2.length ≤ 20 := (hml.pr (t := t) ht).len
        have hTl : (z_qp sl t).2.length = (sp_T S t).length := hRl.tlB ht (congrFun sp_tcT _)
        have loop68 : ∀ (n9 : Nat) (w17 : z_W) (a : Nat), (a ≤ (sp_T S t).length) → (a < n9) → (sp_pl (sp_srt t) (sp_T S t) k = cond (sp_srt t) (sp_at (sp_T S t) k a) a) → (z_mst w17 sl) → (w17 = wl) → z_J G l mX11_lay (20, 2, 52, w, Q9, (fun _ _ => False)) 68 [(0, .ref 1000), (1, .int (nI t)), (2, .int (nI k)), (3, .int z), (4, .int (-1)), (5, .int (nI a))] [] w17 0 0 := by
          intro n9
          induction n9 with
          | zero => intro w17 a hj hf9 hpl hm hW; exact absurd hf9 (Nat.not_lt_zero _)
          | succ n9 ih =>
            intro w17 a hj hf9 hpl hm hW
            refine j_iload_n dX11_lay_68 rfl ?_
            refine j_iconst (v := 2) dX11_lay_69 (by decide) ?_
            refine j_icmp_ne (tgt := 111) dX11_lay_70 (by decide) (fun c_70_400 => ?_) (fun c_70_400 => ?_)
            · have hb70 : ¬ t = 2 := fun z => c_70_400 (show nI t = nI 2 by rw [z])
              have hs70 : sp_srt t = false := z_beq hb70
              refine j_aload_n dX11_lay_111 rfl rfl ?_
              refine j_getf dX11_lay_112 fX11_34 hm.m rfl ?_
              refine j_iload_n dX11_lay_115 rfl ?_
              obtain ⟨lv451, -, lg451⟩ := z_li.cell hm.tabs
              refine j_callV (q := (RJx4a65c, TJx4a65c, 3)) dX11_lay_116 kJx4a65c_get_915e3 lX11_82 inJx4a65c_get_915e3 seJx4a65c_get_915e3 lg451 rfl (cl_get hl w17 47 1007 _ _ (t) _ hm.tabs (z_thr3 (t := t) (by omega))) (Nat.le_of_ble_eq_true rfl) ⟨(Nat.le_of_ble_eq_true rfl), (Nat.le_of_ble_eq_true rfl)⟩ rfl (Nat.le_of_ble_eq_true rfl) rfl rfl (fun _ _ h => h.elim) ?_
              rintro _ _ ⟨rfl, hw452⟩
              refine j_w w17 hw452 ?_
              refine j_castS dX11_lay_119 (z_w 1341 ((lwt_6_3 6).trans rfl) (by decide +kernel)) (z_li.is (hm.tb (t := t) (by omega))) ?_
              refine j_iload dX11_lay_122 rfl ?_
              refine j_iconst (v := 2) dX11_lay_124 (by decide) ?_
              obtain ⟨x4, hx4a, hx4b, hx4c⟩ := z_fresh (14 + t) (by omega) hm.fn
              refine j_newa (kd := 0) (N := 2) (w' := _) (n := x4) dX11_lay_125 rfl rfl arc_int ⟨rfl, fun _ _ h => h⟩ (by decide) rfl (by decide) rfl (z_alW hx4c hx4a) (Nat.le_of_ble_eq_true rfl) (Nat.le_of_ble_eq_true rfl) ?_
              refine j_seal hx4a ?_
              intro w18 u18
              have hx18 : ∀ (k : Nat) (e : z_E), z_g w17 k = some e → z_g w18 k = some e := fun k e hk => (u18.2.1 k (z_neF hx4c hk)).trans ((fun _ _ z => z) k e hk)
              have fw18 := u18.fw hx4a hx4b
              have h18 := hm.mono hx18 (u18.2.2.2 hm.fn)
              refine j_dup dX11_lay_127 rfl ?_
              refine j_iconst (v := 0) dX11_lay_128 (by decide) ?_
              refine j_iload_n dX11_lay_129 rfl ?_
              refine j_sto (w' := _) dX11_lay_130 u18.1 (vp_in_nI (n := 0) (by decide) (by decide)) rfl ?_
              refine j_seal hx4a ?_
              intro w19 u19
              have hx19 : ∀ (k : Nat) (e : z_E), z_g w17 k = some e → z_g w19 k = some e := fun k e hk => (u19.2.1 k (z_neF hx4c hk)).trans (hx18 k e hk)
              have fw19 := u19.fw hx4a hx4b
              have h19 := hm.mono hx19 (u19.2.2.2 h18.fn)
              refine j_dup dX11_lay_131 rfl ?_
              refine j_iconst (v := 1) dX11_lay_132 (by decide) ?_
              refine j_iload_n dX11_lay_133 rfl ?_
              refine j_sto (w' := _) dX11_lay_134 u19.1 (vp_in_nI (n := 1) (by decide) (by decide)) rfl ?_
              refine j_seal hx4a ?_
              intro w20 u20
              have hx20 : ∀ (k : Nat) (e : z_E), z_g w17 k = some e → z_g w20 k = some e := fun k e hk => (u20.2.1 k (z_neF hx4c hk)).trans (hx19 k e hk)
              have fw20 := u20.fw hx4a hx4b
              have h20 := hm.mono hx20 (u20.2.2.2 h19.fn)
              have hpa : sp_pl (sp_srt t) (sp_T S t) k = a := by
                rw [hpl, hs70]; rfl
              have hgx := u20.1
              have hkx : z_g w20 x4 = some (.inl (0, 2, fun j => .int ((z_ui (z_ui (fun _ => 0) 0 (nI k)) 1 z) j))) := hgx
              have hKn := z_mst.newk (x := x4) (F := (z_ui (z_ui (fun _ => 0) 0 (nI k)) 1 z)) hm hx4c h20
              have RKn := sp_MR.newk (x := x4) (F := (z_ui (z_ui (fun _ => 0) 0 (nI k)) 1 z)) hRl hm hx4c
              obtain ⟨lv456, -, lg456⟩ := z_li.cell (h20.tb (t := t) (by omega))
              refine j_callV (q := (RJx4a65c, TJx4a65c, 3)) dX11_lay_135 kJx4a65c_add_7a177 lX11_133 inJx4a65c_add_7a177 seJx4a65c_add_7a177 lg456 rfl (cl_addI hl w20 (51 + t) _ _ _ 20 (a) (.ref x4) (hKn.tb (t := t) ht) (by omega) hKn.fn (by rw [z_rs_len]; exact hzl) (by decide) (z_rs_el (hKn.pr (t := t) ht) (by omega)) ⟨Or.inr ⟨x4, rfl, Or.inr (show x4 % 64 ≠ 51 + t by omega)⟩, "[I", z_isA hkx, (z_wn 2007 ((lwt_9_1 12).trans rfl) (by decide +kernel))⟩ (by rw [z_rs_len]; show _ ≤ (z_qp sl t).2.length; omega)) (Nat.le_of_ble_eq_true rfl) ⟨(Nat.le_of_ble_eq_true rfl), (Nat.le_of_ble_eq_true rfl)⟩ rfl (Nat.le_of_ble_eq_true rfl) rfl rfl (fun _ _ h => h.elim) ?_
              rintro _ w21 ⟨rfl, fw21, mo21, hr21⟩
              rw [z_rs_ins] at hr21
              have fm21 := fw21.fm (q := 56) (by omega)
              have hf21 : z_fu (z_qk sl) x4 (z_ui (z_ui (fun _ => 0) 0 (nI k)) 1 z) x4 = (z_ui (z_ui (fun _ => 0) 0 (nI k)) 1 z) := z_fu_self
              have hno2 : ∀ p ∈ (z_qp sl t).2, ¬ z_qk sl p 0 = nI k := fun p hp e => hno (by
                have h9 : (sp_tpK (z_qk sl) (z_qp sl t).2) = sp_T S t := (hRl.t ht).trans (congrFun sp_tcT _)
                rw [← h9]
                exact List.mem_map.mpr ⟨_, List.mem_map.mpr ⟨p, hp, rfl⟩, by show (z_qk sl p 0).toNatClampNeg = k; rw [e, z_cla (by omega)]⟩)
              have hi21 : z_pr w21 (14 + t) ((z_qp sl t).2.take (a) ++ x4 :: (z_qp sl t).2.drop (a)) (z_fu (z_qk sl) x4 (z_ui (z_ui (fun _ => 0) 0 (nI k)) 1 z)) := z_pr.m (fun n _ h2 => fw21.2.2 n (Or.inr (by omega))) ((hKn.pr (t := t) ht).ins ⟨hx4a, hx4b, k, hk, by show z_fu (z_qk sl) x4 (z_ui (z_ui (fun _ => 0) 0 (nI k)) 1 z) x4 0 = nI k; rw [hf21]; rfl⟩ (by show z_g _ x4 = some (.inl (0, 2, fun j => .int (z_fu (z_qk sl) x4 (z_ui (z_ui (fun _ => 0) 0 (nI k)) 1 z) x4 j))); rw [hf21]; exact hkx) (fun p hp => by
                have hpx : p ≠ x4 := fun z => by have h9 := ((hm.pr (t := t) ht).1 p hp).2; rw [z, hx4c] at h9; cases h9
                show ¬ z_fu (z_qk sl) x4 (z_ui (z_ui (fun _ => 0) 0 (nI k)) 1 z) p 0 = z_fu (z_qk sl) x4 (z_ui (z_ui (fun _ => 0) 0 (nI k)) 1 z) x4 0
                rw [hf21, z_fu_ne hpx]; exact hno2 p hp))
              have h21 := hKn.li51 (t0 := t) ht fw21 hr21 hi21
              have R21 := RKn.up (t := t) (c := mo21) (T := sp_ins (sp_T S t) (a) k z) (by
                show sp_tpK (z_fu (z_qk sl) x4 (z_ui (z_ui (fun _ => 0) 0 (nI k)) 1 z)) ((z_qp sl t).2.take (a) ++ x4 :: (z_qp sl t).2.drop (a)) = _
                rw [sp_tp_ins (k := k) (v := z) (by rw [hf21]; rfl) hk (by rw [hf21]; rfl)]
                exact congrArg (fun T => sp_ins T (a) k z) ((RKn.t ht).trans (congrFun sp_tcT _)))
              refine j_vret dX11_lay_138 rfl ?_ (Nat.le_of_ble_eq_true rfl) (Nat.le_of_ble_eq_true rfl)
              refine cast (congrFun (congrFun hQ9 _) _) ?_
              exact ⟨rfl, _, (((((hW ▸ hfl).tr (fw18.fm (q := 59) (by omega))).tr (fw19.fm (q := 59) (by omega))).tr (fw20.fm (q := 59) (by omega))).tr (fm21.le (q' := 59) (by decide))), h21, (by unfold sp_lyS sp_pt; rw [if_pos hlk, ← sp_tcu, hpa]; exact R21), hthl⟩
            · have hb70 : t = 2 := nI_inj (a := t) (b := 2) c_70_400 (by omega) (by omega)
              have hs70 : sp_srt t = true := by rw [hb70]; rfl
              refine j_iload dX11_lay_73 rfl ?_
              refine j_if_le (tgt := 111) dX11_lay_75 (by decide) (fun c_75_469 => ?_) (fun c_75_469 => ?_)
              · have hb75 : a ≤ 0 := (nI_leI (a := a) (b := 0) (by omega) (by omega)).mp c_75_469
                refine j_aload_n dX11_lay_111 rfl rfl ?_
                refine j_getf dX11_lay_112 fX11_34 hm.m rfl ?_
                refine j_iload_n dX11_lay_115 rfl ?_
                obtain ⟨lv458, -, lg458⟩ := z_li.cell hm.tabs
                refine j_callV (q := (RJx4a65c, TJx4a65c, 3)) dX11_lay_116 kJx4a65c_get_915e3 lX11_82 inJx4a65c_get_915e3 seJx4a65c_get_915e3 lg458 rfl (cl_get hl w17 47 1007 _ _ (t) _ hm.tabs (z_thr3 (t := t) (by omega))) (Nat.le_of_ble_eq_true rfl) ⟨(Nat.le_of_ble_eq_true rfl), (Nat.le_of_ble_eq_true rfl)⟩ rfl (Nat.le_of_ble_eq_true rfl) rfl rfl (fun _ _ h => h.elim) ?_
                rintro _ _ ⟨rfl, hw459⟩
                refine j_w w17 hw459 ?_
                refine j_castS dX11_lay_119 (z_w 1341 ((lwt_6_3 6).trans rfl) (by decide +kernel)) (z_li.is (hm.tb (t := t) (by omega))) ?_
                refine j_iload dX11_lay_122 rfl ?_
                refine j_iconst (v := 2) dX11_lay_124 (by decide) ?_
                obtain ⟨x5, hx5a, hx5b, hx5c⟩ := z_fresh (14 + t) (by omega) hm.fn
                refine j_newa (kd := 0) (N := 2) (w' := _) (n := x5) dX11_lay_125 rfl rfl arc_int ⟨rfl, fun _ _ h => h⟩ (by decide) rfl (by decide) rfl (z_alW hx5c hx5a) (Nat.le_of_ble_eq_true rfl) (Nat.le_of_ble_eq_true rfl) ?_
                refine j_seal hx5a ?_
                intro w22 u22
                have hx22 : ∀ (k : Nat) (e : z_E), z_g w17 k = some e → z_g w22 k = some e := fun k e hk => (u22.2.1 k (z_neF hx5c hk)).trans ((fun _ _ z => z) k e hk)
                have fw22 := u22.fw hx5a hx5b
                have h22 := hm.mono hx22 (u22.2.2.2 hm.fn)
                refine j_dup dX11_lay_127 rfl ?_
                refine j_iconst (v := 0) dX11_lay_128 (by decide) ?_
                refine j_iload_n dX11_lay_129 rfl ?_
                refine j_sto (w' := _) dX11_lay_130 u22.1 (vp_in_nI (n := 0) (by decide) (by decide)) rfl ?_
                refine j_seal hx5a ?_
                intro w23 u23
                have hx23 : ∀ (k : Nat) (e : z_E), z_g w17 k = some e → z_g w23 k = some e := fun k e hk => (u23.2.1 k (z_neF hx5c hk)).trans (hx22 k e hk)
                have fw23 := u23.fw hx5a hx5b
                have h23 := hm.mono hx23 (u23.2.2.2 h22.fn)
                refine j_dup dX11_lay_131 rfl ?_
                refine j_iconst (v := 1) dX11_lay_132 (by decide) ?_
                refine j_iload_n dX11_lay_133 rfl ?_
                refine j_sto (w' := _) dX11_lay_134 u23.1 (vp_in_nI (n := 1) (by decide) (by decide)) rfl ?_
                refine j_seal hx5a ?_
                intro w24 u24
                have hx24 : ∀ (k : Nat) (e : z_E), z_g w17 k = some e → z_g w24 k = some e := fun k e hk => (u24.2.1 k (z_neF hx5c hk)).trans (hx23 k e hk)
                have fw24 := u24.fw hx5a hx5b
                have h24 := hm.mono hx24 (u24.2.2.2 h23.fn)
                have hpa : sp_pl (sp_srt t) (sp_T S t) k = a := by
                  have ha0 : a = 0 := by omega
                  rw [hpl, hs70, ha0]; rfl
                have hgx := u24.1
                have hkx : z_g w24 x5 = some (.inl (0, 2, fun j => .int ((z_ui (z_ui (fun _ => 0) 0 (nI k)) 1 z) j))) := hgx
                have hKn := z_mst.newk (x := x5) (F := (z_ui (z_ui (fun _ => 0) 0 (nI k)) 1 z)) hm hx5c h24
                have RKn := sp_MR.newk (x := x5) (F := (z_ui (z_ui (fun _ => 0) 0 (nI k)) 1 z)) hRl hm hx5c
                obtain ⟨lv463, -, lg463⟩ := z_li.cell (h24.tb (t := t) (by omega))
                refine j_callV (q := (RJx4a65c, TJx4a65c, 3)) dX11_lay_135 kJx4a65c_add_7a177 lX11_133 inJx4a65c_add_7a177 seJx4a65c_add_7a177 lg463 rfl (cl_addI hl w24 (51 + t) _ _ _ 20 (a) (.ref x5) (hKn.tb (t := t) ht) (by omega) hKn.fn (by rw [z_rs_len]; exact hzl) (by decide) (z_rs_el (hKn.pr (t := t) ht) (by omega)) ⟨Or.inr ⟨x5, rfl, Or.inr (show x5 % 64 ≠ 51 + t by omega)⟩, "[I", z_isA hkx, (z_wn 2007 ((lwt_9_1 12).trans rfl) (by decide +kernel))⟩ (by rw [z_rs_len]; show _ ≤ (z_qp sl t).2.length; omega)) (Nat.le_of_ble_eq_true rfl) ⟨(Nat.le_of_ble_eq_true rfl), (Nat.le_of_ble_eq_true rfl)⟩ rfl (Nat.le_of_ble_eq_true rfl) rfl rfl (fun _ _ h => h.elim) ?_
                rintro _ w25 ⟨rfl, fw25, mo25, hr25⟩
                rw [z_rs_ins] at hr25
                have fm25 := fw25.fm (q := 56) (by omega)
                have hf25 : z_fu (z_qk sl) x5 (z_ui (z_ui (fun _ => 0) 0 (nI k)) 1 z) x5 = (z_ui (z_ui (fun _ => 0) 0 (nI k)) 1 z) := z_fu_self
                have hno2 : ∀ p ∈ (z_qp sl t).2, ¬ z_qk sl p 0 = nI k := fun p hp e => hno (by
                  have h9 : (sp_tpK (z_qk sl) (z_qp sl t).2) = sp_T S t := (hRl.t ht).trans (congrFun sp_tcT _)
                  rw [← h9]
                  exact List.mem_map.mpr ⟨_, List.mem_map.mpr ⟨p, hp, rfl⟩, by show (z_qk sl p 0).toNatClampNeg = k; rw [e, z_cla (by omega)]⟩)
                have hi25 : z_pr w25 (14 + t) ((z_qp sl t).2.take (a) ++ x5 :: (z_qp sl t).2.drop (a)) (z_fu (z_qk sl) x5 (z_ui (z_ui (fun _ => 0) 0 (nI k)) 1 z)) := z_pr.m (fun n _ h2 => fw25.2.2 n (Or.inr (by omega))) ((hKn.pr (t := t) ht).ins ⟨hx5a, hx5b, k, hk, by show z_fu (z_qk sl) x5 (z_ui (z_ui (fun _ => 0) 0 (nI k)) 1 z) x5 0 = nI k; rw [hf25]; rfl⟩ (by show z_g _ x5 = some (.inl (0, 2, fun j => .int (z_fu (z_qk sl) x5 (z_ui (z_ui (fun _ => 0) 0 (nI k)) 1 z) x5 j))); rw [hf25]; exact hkx) (fun p hp => by
                  have hpx : p ≠ x5 := fun z => by have h9 := ((hm.pr (t := t) ht).1 p hp).2; rw [z, hx5c] at h9; cases h9
                  show ¬ z_fu (z_qk sl) x5 (z_ui (z_ui (fun _ => 0) 0 (nI k)) 1 z) p 0 = z_fu (z_qk sl) x5 (z_ui (z_ui (fun _ => 0) 0 (nI k)) 1 z) x5 0
                  rw [hf25, z_fu_ne hpx]; exact hno2 p hp))
                have h25 := hKn.li51 (t0 := t) ht fw25 hr25 hi25
                have R25 := RKn.up (t := t) (c := mo25) (T := sp_ins (sp_T S t) (a) k z) (by
                  show sp_tpK (z_fu (z_qk sl) x5 (z_ui (z_ui (fun _ => 0) 0 (nI k)) 1 z)) ((z_qp sl t).2.take (a) ++ x5 :: (z_qp sl t).2.drop (a)) = _
                  rw [sp_tp_ins (k := k) (v := z) (by rw [hf25]; rfl) hk (by rw [hf25]; rfl)]
                  exact congrArg (fun T => sp_ins T (a) k z) ((RKn.t ht).trans (congrFun sp_tcT _)))
                refine j_vret dX11_lay_138 rfl ?_ (Nat.le_of_ble_eq_true rfl) (Nat.le_of_ble_eq_true rfl)
                refine cast (congrFun (congrFun hQ9 _) _) ?_
                exact ⟨rfl, _, (((((hW ▸ hfl).tr (fw22.fm (q := 59) (by omega))).tr (fw23.fm (q := 59) (by omega))).tr (fw24.fm (q := 59) (by omega))).tr (fm25.le (q' := 59) (by decide))), h25, (by unfold sp_lyS sp_pt; rw [if_pos hlk, ← sp_tcu, hpa]; exact R25), hthl⟩
              · have hb75 : 0 < a := Nat.not_le.mp (fun z => c_75_469 ((nI_leI (a := a) (b := 0) (by omega) (by omega)).mpr z))
                refine j_aload_n dX11_lay_78 rfl rfl ?_
                refine j_getf dX11_lay_79 fX11_34 hm.m rfl ?_
                refine j_iload_n dX11_lay_82 rfl ?_
                obtain ⟨lv465, -, lg465⟩ := z_li.cell hm.tabs
                refine j_callV (q := (RJx4a65c, TJx4a65c, 3)) dX11_lay_83 kJx4a65c_get_915e3 lX11_82 inJx4a65c_get_915e3 seJx4a65c_get_915e3 lg465 rfl (cl_get hl w17 47 1007 _ _ (t) _ hm.tabs (z_thr3 (t := t) (by omega))) (Nat.le_of_ble_eq_true rfl) ⟨(Nat.le_of_ble_eq_true rfl), (Nat.le_of_ble_eq_true rfl)⟩ rfl (Nat.le_of_ble_eq_true rfl) rfl rfl (fun _ _ h => h.elim) ?_
                rintro _ _ ⟨rfl, hw466⟩
                refine j_w w17 hw466 ?_
                refine j_castS dX11_lay_86 (z_w 1341 ((lwt_6_3 6).trans rfl) (by decide +kernel)) (z_li.is (hm.tb (t := t) (by omega))) ?_
                refine j_iload dX11_lay_89 rfl ?_
                refine j_iconst (v := 1) dX11_lay_91 (by decide) ?_
                refine j_isub dX11_lay_92 ?_
                refine j_top (congrArg Value.int (pk_sub (a := a) (b := 1) (by omega))) ?_
                obtain ⟨x468, hx468⟩ : ∃ x, ((sp_T S t))[(a - 1)]? = some x := ⟨_, List.getElem?_eq_getElem (show (a - 1) < ((sp_T S t)).length by omega)⟩
                obtain ⟨p468, hp468, hq468, hk468, hv0468, hv1468, hv2468⟩ := hRl.prB hm (t := t) (k := (a - 1)) (by omega) (congrFun sp_tcT _) hx468
                obtain ⟨lv469, -, lg469⟩ := z_li.cell (hm.tb (t := t) (by omega))
                refine j_callV (q := (RJx4a65c, TJx4a65c, 3)) dX11_lay_93 kJx4a65c_get_915e3 lX11_82 inJx4a65c_get_915e3 seJx4a65c_get_915e3 lg469 rfl (cl_get hl w17 _ _ _ _ ((a - 1)) _ (hm.tb (t := t) (by omega)) hq468) (Nat.le_of_ble_eq_true rfl) ⟨(Nat.le_of_ble_eq_true rfl), (Nat.le_of_ble_eq_true rfl)⟩ rfl (Nat.le_of_ble_eq_true rfl) rfl rfl (fun _ _ h => h.elim) ?_
                rintro _ _ ⟨rfl, hw470⟩
                refine j_w w17 hw470 ?_
                refine j_castS dX11_lay_96 (z_w 1663 ((lwt_7_5 28).trans rfl) (by decide +kernel)) (z_isA ((hm.pr (t := t) (by omega)).1 p468 hp468).2) ?_
                refine j_iconst (v := 0) dX11_lay_99 (by decide) ?_
                refine j_ld dX11_lay_100 ((hm.pr (t := t) (by omega)).1 p468 hp468).2 (vp_in_nI (n := 0) (by decide) (by decide)) ?_
                refine j_top (congrArg Value.int (show _ = nI x468.1 from by rw [show (0 : Int32).toNatClampNeg = 0 from by decide]; exact hv0468)) ?_
                refine j_iload_n dX11_lay_101 rfl ?_
                refine j_icmp_le (tgt := 111) dX11_lay_102 (by decide) (fun c_102_559 => ?_) (fun c_102_559 => ?_)
                · have hb102 : x468.1 ≤ k := (nI_leI (a := x468.1) (b := k) (by omega) (by omega)).mp c_102_559
                  refine j_aload_n dX11_lay_111 rfl rfl ?_
                  refine j_getf dX11_lay_112 fX11_34 hm.m rfl ?_
                  refine j_iload_n dX11_lay_115 rfl ?_
                  obtain ⟨lv474, -, lg474⟩ := z_li.cell hm.tabs
                  refine j_callV (q := (RJx4a65c, TJx4a65c, 3)) dX11_lay_116 kJx4a65c_get_915e3 lX11_82 inJx4a65c_get_915e3 seJx4a65c_get_915e3 lg474 rfl (cl_get hl w17 47 1007 _ _ (t) _ hm.tabs (z_thr3 (t := t) (by omega))) (Nat.le_of_ble_eq_true rfl) ⟨(Nat.le_of_ble_eq_true rfl), (Nat.le_of_ble_eq_true rfl)⟩ rfl (Nat.le_of_ble_eq_true rfl) rfl rfl (fun _ _ h => h.elim) ?_
                  rintro _ _ ⟨rfl, hw475⟩
                  refine j_w w17 hw475 ?_
                  refine j_castS dX11_lay_119 (z_w 1341 ((lwt_6_3 6).trans rfl) (by decide +kernel)) (z_li.is (hm.tb (t := t) (by omega))) ?_
                  refine j_iload dX11_lay_122 rfl ?_
                  refine j_iconst (v := 2) dX11_lay_124 (by decide) ?_
                  obtain ⟨x6, hx6a, hx6b, hx6c⟩ := z_fresh (14 + t) (by omega) hm.fn
                  refine j_newa (kd := 0) (N := 2) (w' := _) (n := x6) dX11_lay_125 rfl rfl arc_int ⟨rfl, fun _ _ h => h⟩ (by decide) rfl (by decide) rfl (z_alW hx6c hx6a) (Nat.le_of_ble_eq_true rfl) (Nat.le_of_ble_eq_true rfl) ?_
                  refine j_seal hx6a ?_
                  intro w26 u26
                  have hx26 : ∀ (k : Nat) (e : z_E), z_g w17 k = some e → z_g w26 k = some e := fun k e hk => (u26.2.1 k (z_neF hx6c hk)).trans ((fun _ _ z => z) k e hk)
                  have fw26 := u26.fw hx6a hx6b
                  have h26 := hm.mono hx26 (u26.2.2.2 hm.fn)
                  refine j_dup dX11_lay_127 rfl ?_
                  refine j_iconst (v := 0) dX11_lay_128 (by decide) ?_
                  refine j_iload_n dX11_lay_129 rfl ?_
                  refine j_sto (w' := _) dX11_lay_130 u26.1 (vp_in_nI (n := 0) (by decide) (by decide)) rfl ?_
                  refine j_seal hx6a ?_
                  intro w27 u27
                  have hx27 : ∀ (k : Nat) (e : z_E), z_g w17 k = some e → z_g w27 k = some e := fun k e hk => (u27.2.1 k (z_neF hx6c hk)).trans (hx26 k e hk)
                  have fw27 := u27.fw hx6a hx6b
                  have h27 := hm.mono hx27 (u27.2.2.2 h26.fn)
                  refine j_dup dX11_lay_131 rfl ?_
                  refine j_iconst (v := 1) dX11_lay_132 (by decide) ?_
                  refine j_iload_n dX11_lay_133 rfl ?_
                  refine j_sto (w' := _) dX11_lay_134 u27.1 (vp_in_nI (n := 1) (by decide) (by decide)) rfl ?_
                  refine j_seal hx6a ?_
                  intro w28 u28
                  have hx28 : ∀ (k : Nat) (e : z_E), z_g w17 k = some e → z_g w28 k = some e := fun k e hk => (u28.2.1 k (z_neF hx6c hk)).trans (hx27 k e hk)
                  have fw28 := u28.fw hx6a hx6b
                  have h28 := hm.mono hx28 (u28.2.2.2 h27.fn)
                  have hpa : sp_pl (sp_srt t) (sp_T S t) k = a := by
                    have ha : a = (a - 1) + 1 := by omega
                    rw [hpl, hs70, ha]; exact sp_at_n hx468 (Nat.not_lt.mpr hb102)
                  have hgx := u28.1
                  have hkx : z_g w28 x6 = some (.inl (0, 2, fun j => .int ((z_ui (z_ui (fun _ => 0) 0 (nI k)) 1 z) j))) := hgx
                  have hKn := z_mst.newk (x := x6) (F := (z_ui (z_ui (fun _ => 0) 0 (nI k)) 1 z)) hm hx6c h28
                  have RKn := sp_MR.newk (x := x6) (F := (z_ui (z_ui (fun _ => 0) 0 (nI k)) 1 z)) hRl hm hx6c
                  obtain ⟨lv479, -, lg479⟩ := z_li.cell (h28.tb (t := t) (by omega))
                  refine j_callV (q := (RJx4a65c, TJx4a65c, 3)) dX11_lay_135 kJx4a65c_add_7a177 lX11_133 inJx4a65c_add_7a177 seJx4a65c_add_7a177 lg479 rfl (cl_addI hl w28 (51 + t) _ _ _ 20 (a) (.ref x6) (hKn.tb (t := t) ht) (by omega) hKn.fn (by rw [z_rs_len]; exact hzl) (by decide) (z_rs_el (hKn.pr (t := t) ht) (by omega)) ⟨Or.inr ⟨x6, rfl, Or.inr (show x6 % 64 ≠ 51 + t by omega)⟩, "[I", z_isA hkx, (z_wn 2007 ((lwt_9_1 12).trans rfl) (by decide +kernel))⟩ (by rw [z_rs_len]; show _ ≤ (z_qp sl t).2.length; omega)) (Nat.le_of_ble_eq_true rfl) ⟨(Nat.le_of_ble_eq_true rfl), (Nat.le_of_ble_eq_true rfl)⟩ rfl (Nat.le_of_ble_eq_true rfl) rfl rfl (fun _ _ h => h.elim) ?_
                  rintro _ w29 ⟨rfl, fw29, mo29, hr29⟩
                  rw [z_rs_ins] at hr29
                  have fm29 := fw29.fm (q := 56) (by omega)
                  have hf29 : z_fu (z_qk sl) x6 (z_ui (z_ui (fun _ => 0) 0 (nI k)) 1 z) x6 = (z_ui (z_ui (fun _ => 0) 0 (nI k)) 1 z) := z_fu_self
                  have hno2 : ∀ p ∈ (z_qp sl t).2, ¬ z_qk sl p 0 = nI k := fun p hp e => hno (by
                    have h9 : (sp_tpK (z_qk sl) (z_qp sl t).2) = sp_T S t := (hRl.t ht).trans (congrFun sp_tcT _)
                    rw [← h9]
                    exact List.mem_map.mpr ⟨_, List.mem_map.mpr ⟨p, hp, rfl⟩, by show (z_qk sl p 0).toNatClampNeg = k; rw [e, z_cla (by omega)]⟩)
                  have hi29 : z_pr w29 (14 + t) ((z_qp sl t).2.take (a) ++ x6 :: (z_qp sl t).2.drop (a)) (z_fu (z_qk sl) x6 (z_ui (z_ui (fun _ => 0) 0 (nI k)) 1 z)) := z_pr.m (fun n _ h2 => fw29.2.2 n (Or.inr (by omega))) ((hKn.pr (t := t) ht).ins ⟨hx6a, hx6b, k, hk, by show z_fu (z_qk sl) x6 (z_ui (z_ui (fun _ => 0) 0 (nI k)) 1 z) x6 0 = nI k; rw [hf29]; rfl⟩ (by show z_g _ x6 = some (.inl (0, 2, fun j => .int (z_fu (z_qk sl) x6 (z_ui (z_ui (fun _ => 0) 0 (nI k)) 1 z) x6 j))); rw [hf29]; exact hkx) (fun p hp => by
                    have hpx : p ≠ x6 := fun z => by have h9 := ((hm.pr (t := t) ht).1 p hp).2; rw [z, hx6c] at h9; cases h9
                    show ¬ z_fu (z_qk sl) x6 (z_ui (z_ui (fun _ => 0) 0 (nI k)) 1 z) p 0 = z_fu (z_qk sl) x6 (z_ui (z_ui (fun _ => 0) 0 (nI k)) 1 z) x6 0
                    rw [hf29, z_fu_ne hpx]; exact hno2 p hp))
                  have h29 := hKn.li51 (t0 := t) ht fw29 hr29 hi29
                  have R29 := RKn.up (t := t) (c := mo29) (T := sp_ins (sp_T S t) (a) k z) (by
                    show sp_tpK (z_fu (z_qk sl) x6 (z_ui (z_ui (fun _ => 0) 0 (nI k)) 1 z)) ((z_qp sl t).2.take (a) ++ x6 :: (z_qp sl t).2.drop (a)) = _
                    rw [sp_tp_ins (k := k) (v := z) (by rw [hf29]; rfl) hk (by rw [hf29]; rfl)]
                    exact congrArg (fun T => sp_ins T (a) k z) ((RKn.t ht).trans (congrFun sp_tcT _)))
                  refine j_vret dX11_lay_138 rfl ?_ (Nat.le_of_ble_eq_true rfl) (Nat.le_of_ble_eq_true rfl)
                  refine cast (congrFun (congrFun hQ9 _) _) ?_
                  exact ⟨rfl, _, (((((hW ▸ hfl).tr (fw26.fm (q := 59) (by omega))).tr (fw27.fm (q := 59) (by omega))).tr (fw28.fm (q := 59) (by omega))).tr (fm29.le (q' := 59) (by decide))), h29, (by unfold sp_lyS sp_pt; rw [if_pos hlk, ← sp_tcu, hpa]; exact R29), hthl⟩
                · have hb102 : k < x468.1 := Nat.not_le.mp (fun z => c_102_559 ((nI_leI (a := x468.1) (b := k) (by omega) (by omega)).mpr z))
                  refine j_iinc (lo' := [(5, _), (0, _), (1, _), (2, _), (3, _), (4, _)]) dX11_lay_105 rfl (z_decr1 (by omega)) (by decide) rfl ?_
                  refine j_goto (tgt := 68) dX11_lay_108 (by decide) ?_
                  exact j_lo2 (ih w17 (a - 1) (by omega) (by omega) (by have ha : a = (a - 1) + 1 := (by omega); rw [ha, sp_at_y hx468 hb102, hs70] at hpl; rw [hs70]; exact hpl) hm hW) (z_q1 rfl (z_q1 rfl (z_q1 rfl (z_q1 rfl (z_q1 rfl (z_q1 rfl z_q0))))))
        exact j_lo2 (loop68 (((sp_T S t)).length + 1) wl ((sp_T S t)).length (Nat.le_refl _) (Nat.lt_succ_self _) rfl hml rfl) (z_q1 rfl (z_q1 rfl (z_q1 rfl (z_q1 rfl (z_q1 rfl (z_q1 rfl z_q0))))))
      · exact absurd c_26_371 (by decide)
end ZMe5
end ZM5
section ZM6
section ZMe6
variable {G : z_G} {l : Launch}
theorem sp_becP {b : Bool} {T : List (Nat × Int32)} {c : Nat → Int32} {k : Nat} {z : Int32} (hz : ¬ z = -1000) : sp_bec b T c k (some z) = (some z, sp_pt b T k z, z_bp c 5) := if_neg hz
theorem sp_becQ {b : Bool} {T : List (Nat × Int32)} {c : Nat → Int32} {k : Nat} {z : Int32} (hz : z = -1000) (h : sp_lk T k = -1000) : sp_bec b T c k (some z) = (some z, T, c) := by
  have e : sp_bec b T c k (some z) = (if sp_lk T k = -1000 then (some z, T, c) else (some z, sp_go T k, z_bp c 6)) := if_pos hz
  rw [e, if_pos h]
theorem sp_becR {b : Bool} {T : List (Nat × Int32)} {c : Nat → Int32} {k : Nat} {z : Int32} (hz : z = -1000) (h : ¬ sp_lk T k = -1000) : sp_bec b T c k (some z) = (some z, sp_go T k, z_bp c 6) := by
  have e : sp_bec b T c k (some z) = (if sp_lk T k = -1000 then (some z, T, c) else (some z, sp_go T k, z_bp c 6)) := if_pos hz
  rw [e, if_neg h]
set_option maxRecDepth 100000 in
set_option maxHeartbeats 8000000 in
theorem cx_become_n (hl : l.stackTraces = false) (w : z_W) (S : sp_S) (s : z_Z) (t k : Nat) (h : z_mst w s) (R : sp_MR S s) (ht : t < 3) (hk : k < 20) (okT : sp_okT (sp_T S t)) : z_Con G l mX11_become 22 2 52 w [.ref 1000, .int (nI t), .int (nI k), .int 100000] (fun v w9 => ∃ (s9 : z_Z), v = some (.int ((none : Option Int32).getD (-9))) ∧ z_fm 59 w w9 ∧ z_mst w9 s9 ∧ sp_MR (sp_tb S t (sp_bec (sp_srt t) (sp_T S t) (sp_C S 2) k none)) s9 ∧ s9.1.1 = s.1.1) (fun _ _ => False) := by
  generalize hQ9 : (fun (v : Option Value) (w9 : z_W) => ∃ (s9 : z_Z), v = some (.int ((none : Option Int32).getD (-9))) ∧ z_fm 59 w w9 ∧ z_mst w9 s9 ∧ sp_MR (sp_tb S t (sp_bec (sp_srt t) (sp_T S t) (sp_C S 2) k none)) s9 ∧ s9.1.1 = s.1.1) = Q9
  refine z_body hl (by decide) rfl (Nat.le_of_ble_eq_true rfl) ?_
  show z_J G l mX11_become _ 0 [(0, _), (1, _), (2, _), (3, _)] [] _ 0 0
  refine j_iload_n dX11_become_0 rfl ?_
  refine j_ldc dX11_become_1 kcX11_67 ?_
  refine j_icmp_ne (tgt := 11) dX11_become_3 (by decide) (fun c_3_4 => ?_) (fun c_3_4 => ?_)
  · exact absurd c_3_4 (by decide)
  · refine j_aload_n dX11_become_6 rfl rfl ?_
    refine j_callV (q := (RX11, TX11, 8)) dX11_become_7 kX11_nine lX11_105 inX11_nine seX11_nine h.m rfl (cm_nine hl w _ h) (Nat.le_of_ble_eq_true rfl) ⟨(Nat.le_of_ble_eq_true rfl), (Nat.le_of_ble_eq_true rfl)⟩ rfl (Nat.le_of_ble_eq_true rfl) rfl rfl (fun _ _ h => h.elim) ?_
    rintro _ w1 ⟨rfl, fm1, h1⟩
    have R1 := R.ni
    refine j_iret dX11_become_10 rfl rfl ?_ (Nat.le_of_ble_eq_true rfl) (Nat.le_of_ble_eq_true rfl)
    refine cast (congrFun (congrFun hQ9 _) _) ?_
    exact ⟨_, rfl, (fm1.le (q' := 59) (by decide)), h1, (by rw [show sp_tb S t (sp_bec (sp_srt t) (sp_T S t) (sp_C S 2) k none) = sp_nine S from sp_tb_n]; exact R1), rfl⟩
set_option maxRecDepth 100000 in
set_option maxHeartbeats 8000000 in
theorem cx_become_s (hl : l.stackTraces = false) (w : z_W) (S : sp_S) (s : z_Z) (t k : Nat) (z : Int32) (h : z_mst w s) (R : sp_MR S s) (ht : t < 3) (hk : k < 20) (okT : sp_okT (sp_T S t)) (hne : ¬ z = 100000) : z_Con G l mX11_become 22 2 52 w [.ref 1000, .int (nI t), .int (nI k), .int z] (fun v w9 => ∃ (s9 : z_Z), v = some (.int (((some z) : Option Int32).getD (-9))) ∧ z_fm 59 w w9 ∧ z_mst w9 s9 ∧ sp_MR (sp_tb S t (sp_bec (sp_srt t) (sp_T S t) (sp_C S 2) k (some z))) s9 ∧ s9.1.1 = s.1.1) (fun _ _ => False) := by
  generalize hQ9 : (fun (v : Option Value) (w9 : z_W) => ∃ (s9 : z_Z), v = some (.int (((some z) : Option Int32).getD (-9))) ∧ z_fm 59 w w9 ∧ z_mst w9 s9 ∧ sp_MR (sp_tb S t (sp_bec (sp_srt t) (sp_T S t) (sp_C S 2) k (some z))) s9 ∧ s9.1.1 = s.1.1) = Q9
  refine z_body hl (by decide) rfl (Nat.le_of_ble_eq_true rfl) ?_
  show z_J G l mX11_become _ 0 [(0, _), (1, _), (2, _), (3, _)] [] _ 0 0
  refine j_iload_n dX11_become_0 rfl ?_
  refine j_ldc dX11_become_1 kcX11_67 ?_
  refine j_icmp_ne (tgt := 11) dX11_become_3 (by decide) (fun c_3_4 => ?_) (fun c_3_4 => ?_)
  · refine j_iload_n dX11_become_11 rfl ?_
    refine j_sipush (v := (-1000)) dX11_become_12 (by decide) ?_
    refine j_icmp_eq (tgt := 28) dX11_become_15 (by decide) (fun c_15_7 => ?_) (fun c_15_7 => ?_)
    · refine j_aload_n dX11_become_28 rfl rfl ?_
      refine j_iload_n dX11_become_29 rfl ?_
      refine j_iload_n dX11_become_30 rfl ?_
      refine j_callV (q := (RX11, TX11, 8)) dX11_become_31 kX11_place lX11_130 inX11_place seX11_place h.m rfl (cm_place_r hl w _ _ (t) (k) (sp_T S (t)) h R (by omega) (by omega) rfl) (Nat.le_of_ble_eq_true rfl) ⟨(Nat.le_of_ble_eq_true rfl), (Nat.le_of_ble_eq_true rfl)⟩ rfl (Nat.le_of_ble_eq_true rfl) rfl rfl (fun _ _ h => h.elim) ?_
      rintro _ _ ⟨⟨j480, e480, rfl, hj480, he480, hlk480, hmem480, hjl480, hl20480⟩ | ⟨rfl, hnk480, hlk480⟩, hw480⟩
      · refine j_w w hw480 ?_
        refine j_if_lt (tgt := 43) dX11_become_34 (by decide) (fun c_34_14 => ?_) (fun c_34_14 => ?_)
        · exact absurd c_34_14 (nI_pos (n := j480) (by omega))
        · refine j_aload_n dX11_become_37 rfl rfl ?_
          refine j_iload_n dX11_become_38 rfl ?_
          refine j_iload_n dX11_become_39 rfl ?_
          refine j_callV (q := (RX11, TX11, 8)) dX11_become_40 kX11_go lX11_151 inX11_go seX11_go h.m rfl (cx_go hl w S _ (t) (k) h R (by omega) (by omega) okT) (Nat.le_of_ble_eq_true rfl) ⟨(Nat.le_of_ble_eq_true rfl), (Nat.le_of_ble_eq_true rfl)⟩ rfl (Nat.le_of_ble_eq_true rfl) rfl rfl (fun _ _ h => h.elim) ?_
          rintro _ w1 ⟨rfl, s1, fm1, h1, R1, th1⟩
          have tx1 := th1.trans rfl
          refine j_iload_n dX11_become_43 rfl ?_
          refine j_iret dX11_become_44 rfl rfl ?_ (Nat.le_of_ble_eq_true rfl) (Nat.le_of_ble_eq_true rfl)
          refine cast (congrFun (congrFun hQ9 _) _) ?_
          exact ⟨_, rfl, (fm1.le (q' := 59) (by decide)), h1, (by rw [sp_becR c_15_7 (sp_vln (sp_lk_vl okT.2 hmem480))]; exact R1), tx1⟩
      · refine j_w w hw480 ?_
        refine j_if_lt (tgt := 43) dX11_become_34 (by decide) (fun c_34_27 => ?_) (fun c_34_27 => ?_)
        · refine j_iload_n dX11_become_43 rfl ?_
          refine j_iret dX11_become_44 rfl rfl ?_ (Nat.le_of_ble_eq_true rfl) (Nat.le_of_ble_eq_true rfl)
          refine cast (congrFun (congrFun hQ9 _) _) ?_
          exact ⟨_, rfl, z_fm.rf, h, (by rw [sp_becQ c_15_7 hlk480, sp_tb_id]; exact R), rfl⟩
        · exact absurd c_34_27 (by decide)
    · refine j_aload_n dX11_become_18 rfl rfl ?_
      refine j_iload_n dX11_become_19 rfl ?_
      refine j_iload_n dX11_become_20 rfl ?_
      refine j_iload_n dX11_become_21 rfl ?_
      refine j_callV (q := (RX11, TX11, 8)) dX11_become_22 kX11_lay lX11_147 inX11_lay seX11_lay h.m rfl (cx_lay hl w S _ (t) (k) _ h R (by omega) (by omega) okT) (Nat.le_of_ble_eq_true rfl) ⟨(Nat.le_of_ble_eq_true rfl), (Nat.le_of_ble_eq_true rfl)⟩ rfl (Nat.le_of_ble_eq_true rfl) rfl rfl (fun _ _ h => h.elim) ?_
      rintro _ w2 ⟨rfl, s2, fm2, h2, R2, th2⟩
      have tx2 := th2.trans rfl
      refine j_goto (tgt := 43) dX11_become_25 (by decide) ?_
      refine j_iload_n dX11_become_43 rfl ?_
      refine j_iret dX11_become_44 rfl rfl ?_ (Nat.le_of_ble_eq_true rfl) (Nat.le_of_ble_eq_true rfl)
      refine cast (congrFun (congrFun hQ9 _) _) ?_
      exact ⟨_, rfl, (fm2.le (q' := 59) (by decide)), h2, (by rw [sp_becP c_15_7]; exact R2), tx2⟩
  · exact absurd c_3_4 hne
set_option maxRecDepth 100000 in
set_option maxHeartbeats 8000000 in
theorem cx_isNoPair (hl : l.stackTraces = false) (w : z_W) (S : sp_S) (s : z_Z) (x y z : Int32) (h : z_mst w s) (R : sp_MR S s)  : z_Con G l mX11_isNoPair 16 0 0 w [.ref 1000, .int x, .int y, .int z] (fun v w9 => (∃ i k s9, v = some (.int 0) ∧ i < 3 ∧ k < 20 ∧ sp_thr (nI i) ∧ (¬ sp_bk (nI k)) ∧ (¬ sp_bv z) ∧ x = nI i ∧ y = nI k ∧ z_fm 59 w w9 ∧ z_mst w9 s9 ∧ sp_MR S s9 ∧ s9.1.1 = 0) ∨ (∃ s9, v = some (.int 1) ∧ z_fm 59 w w9 ∧ z_mst w9 s9 ∧ sp_MR S s9 ∧ s9.1.1 = 1 ∧ ¬ sp_thr x) ∨ (∃ s9, v = some (.int 1) ∧ z_fm 59 w w9 ∧ z_mst w9 s9 ∧ sp_MR S s9 ∧ s9.1.1 = 2 ∧ sp_thr x ∧ (sp_bk y ∨ sp_bv z))) (fun _ _ => False) := by
  generalize hQ9 : (fun (v : Option Value) (w9 : z_W) => (∃ i k s9, v = some (.int 0) ∧ i < 3 ∧ k < 20 ∧ sp_thr (nI i) ∧ (¬ sp_bk (nI k)) ∧ (¬ sp_bv z) ∧ x = nI i ∧ y = nI k ∧ z_fm 59 w w9 ∧ z_mst w9 s9 ∧ sp_MR S s9 ∧ s9.1.1 = 0) ∨ (∃ s9, v = some (.int 1) ∧ z_fm 59 w w9 ∧ z_mst w9 s9 ∧ sp_MR S s9 ∧ s9.1.1 = 1 ∧ ¬ sp_thr x) ∨ (∃ s9, v = some (.int 1) ∧ z_fm 59 w w9 ∧ z_mst w9 s9 ∧ sp_MR S s9 ∧ s9.1.1 = 2 ∧ sp_thr x ∧ (sp_bk y ∨ sp_bv z))) = Q9
  refine z_body hl (by decide) rfl (Nat.le_of_ble_eq_true rfl) ?_
  show z_J G l mX11_isNoPair _ 0 [(0, _), (1, _), (2, _), (3, _)] [] _ 0 0
  refine j_aload_n dX11_isNoPair_0 rfl rfl ?_
  refine j_iload_n dX11_isNoPair_1 rfl ?_
  refine j_callS dX11_isNoPair_2 kX11_isNoTable lX11_136 stX11_isNoTable (cm_isNoTable_r hl w _) (Nat.le_of_ble_eq_true rfl) ⟨(Nat.le_of_ble_eq_true rfl), (Nat.le_of_ble_eq_true rfl)⟩ rfl (Nat.le_of_ble_eq_true rfl) rfl rfl (fun _ _ h => h.elim) ?_
  rintro _ _ ⟨⟨rfl, hno481⟩ | ⟨rfl, i481, hi481, ht481, rfl⟩, hw481⟩
  · refine j_w w hw481 ?_
    refine j_iconst (v := 1) dX11_isNoPair_5 (by decide) ?_
    refine j_callV (q := (RX11, TX11, 8)) dX11_isNoPair_6 kX11_start lX11_76 inX11_start seX11_start h.m rfl (cm_start1 hl w _ _ h (by decide)) (Nat.le_of_ble_eq_true rfl) ⟨(Nat.le_of_ble_eq_true rfl), (Nat.le_of_ble_eq_true rfl)⟩ rfl (Nat.le_of_ble_eq_true rfl) rfl rfl (fun _ _ h => h.elim) ?_
    rintro _ w1 ⟨rfl, fm1, h1⟩
    have R1 := R.th (k := 1)
    refine j_if_ne (tgt := 39) dX11_isNoPair_9 (by decide) (fun c_9_11 => ?_) (fun c_9_11 => ?_)
    · refine j_iconst (v := 1) dX11_isNoPair_39 (by decide) ?_
      refine j_goto (tgt := 44) dX11_isNoPair_40 (by decide) ?_
      refine j_iret dX11_isNoPair_44 rfl rfl ?_ (Nat.le_of_ble_eq_true rfl) (Nat.le_of_ble_eq_true rfl)
      refine cast (congrFun (congrFun hQ9 _) _) ?_
      exact Or.inr (Or.inl ⟨_, rfl, (fm1.le (q' := 59) (by decide)), h1, R1, rfl, (by assumption)⟩)
    · exact absurd c_9_11 (by decide)
  · refine j_w w hw481 ?_
    have ei481 : sp_i (nI i481) = i481 := sp_in' (by omega)
    refine j_iconst (v := 1) dX11_isNoPair_5 (by decide) ?_
    refine j_callV (q := (RX11, TX11, 8)) dX11_isNoPair_6 kX11_start lX11_76 inX11_start seX11_start h.m rfl (cm_start0 hl w _ _ h) (Nat.le_of_ble_eq_true rfl) ⟨(Nat.le_of_ble_eq_true rfl), (Nat.le_of_ble_eq_true rfl)⟩ rfl (Nat.le_of_ble_eq_true rfl) rfl rfl (fun _ _ h => h.elim) ?_
    rintro _ w2 ⟨rfl, fm2, h2⟩
    have R2 := R.th (k := 0)
    refine j_if_ne (tgt := 39) dX11_isNoPair_9 (by decide) (fun c_9_24 => ?_) (fun c_9_24 => ?_)
    · exact absurd c_9_24 (by decide)
    · refine j_aload_n dX11_isNoPair_12 rfl rfl ?_
      refine j_iload_n dX11_isNoPair_13 rfl ?_
      refine j_callS dX11_isNoPair_14 kX11_isNoKey lX11_139 stX11_isNoKey (cm_isNoKey_r hl w2 _) (Nat.le_of_ble_eq_true rfl) ⟨(Nat.le_of_ble_eq_true rfl), (Nat.le_of_ble_eq_true rfl)⟩ rfl (Nat.le_of_ble_eq_true rfl) rfl rfl (fun _ _ h => h.elim) ?_
      rintro _ _ ⟨⟨rfl, hno482⟩ | ⟨rfl, i482, hi482, ht482, rfl⟩, hw482⟩
      · refine j_w w2 hw482 ?_
        refine j_if_ne (tgt := 27) dX11_isNoPair_17 (by decide) (fun c_17_31 => ?_) (fun c_17_31 => ?_)
        · refine j_iconst (v := 1) dX11_isNoPair_27 (by decide) ?_
          refine j_goto (tgt := 32) dX11_isNoPair_28 (by decide) ?_
          refine j_iconst (v := 2) dX11_isNoPair_32 (by decide) ?_
          refine j_callV (q := (RX11, TX11, 8)) dX11_isNoPair_33 kX11_refuse lX11_52 inX11_refuse seX11_refuse h2.m rfl (cm_refuse1 hl w2 _ _ h2 rfl (by decide)) (Nat.le_of_ble_eq_true rfl) ⟨(Nat.le_of_ble_eq_true rfl), (Nat.le_of_ble_eq_true rfl)⟩ rfl (Nat.le_of_ble_eq_true rfl) rfl rfl (fun _ _ h => h.elim) ?_
          rintro _ w3 ⟨rfl, fm3, h3⟩
          have R3 := R2.th (k := 2)
          refine j_if_eq (tgt := 43) dX11_isNoPair_36 (by decide) (fun c_36_38 => ?_) (fun c_36_38 => ?_)
          · exact absurd c_36_38 (by decide)
          · refine j_iconst (v := 1) dX11_isNoPair_39 (by decide) ?_
            refine j_goto (tgt := 44) dX11_isNoPair_40 (by decide) ?_
            refine j_iret dX11_isNoPair_44 rfl rfl ?_ (Nat.le_of_ble_eq_true rfl) (Nat.le_of_ble_eq_true rfl)
            refine cast (congrFun (congrFun hQ9 _) _) ?_
            refine Or.inr (Or.inr ⟨_, rfl, ((fm2.le (q' := 59) (by decide)).tr (fm3.le (q' := 59) (by decide))), h3, R3, rfl, (by assumption), ?_⟩)
            (first | assumption | (refine Or.inl ?_; assumption) | (refine Or.inr ?_; assumption) | (refine Or.inr (Or.inl ?_); assumption) | (refine Or.inr (Or.inr ?_); assumption))
        · exact absurd c_17_31 (by decide)
      · refine j_w w2 hw482 ?_
        have ei482 : sp_i (nI i482) = i482 := sp_in' (by omega)
        refine j_if_ne (tgt := 27) dX11_isNoPair_17 (by decide) (fun c_17_49 => ?_) (fun c_17_49 => ?_)
        · exact absurd c_17_49 (by decide)
        · refine j_iload_n dX11_isNoPair_20 rfl ?_
          refine j_callS dX11_isNoPair_21 kX11_isNoValue lX11_79 stX11_isNoValue (cm_isNoValue_r hl w2 _) (Nat.le_of_ble_eq_true rfl) ⟨(Nat.le_of_ble_eq_true rfl), (Nat.le_of_ble_eq_true rfl)⟩ rfl (Nat.le_of_ble_eq_true rfl) rfl rfl (fun _ _ h => h.elim) ?_
          rintro _ _ ⟨⟨rfl, hno483⟩ | ⟨rfl, hye483⟩, hw483⟩
          · refine j_w w2 hw483 ?_
            refine j_if_eq (tgt := 31) dX11_isNoPair_24 (by decide) (fun c_24_55 => ?_) (fun c_24_55 => ?_)
            · exact absurd c_24_55 (by decide)
            · refine j_iconst (v := 1) dX11_isNoPair_27 (by decide) ?_
              refine j_goto (tgt := 32) dX11_isNoPair_28 (by decide) ?_
              refine j_iconst (v := 2) dX11_isNoPair_32 (by decide) ?_
              refine j_callV (q := (RX11, TX11, 8)) dX11_isNoPair_33 kX11_refuse lX11_52 inX11_refuse seX11_refuse h2.m rfl (cm_refuse1 hl w2 _ _ h2 rfl (by decide)) (Nat.le_of_ble_eq_true rfl) ⟨(Nat.le_of_ble_eq_true rfl), (Nat.le_of_ble_eq_true rfl)⟩ rfl (Nat.le_of_ble_eq_true rfl) rfl rfl (fun _ _ h => h.elim) ?_
              rintro _ w4 ⟨rfl, fm4, h4⟩
              have R4 := R2.th (k := 2)
              refine j_if_eq (tgt := 43) dX11_isNoPair_36 (by decide) (fun c_36_63 => ?_) (fun c_36_63 => ?_)
              · exact absurd c_36_63 (by decide)
              · refine j_iconst (v := 1) dX11_isNoPair_39 (by decide) ?_
                refine j_goto (tgt := 44) dX11_isNoPair_40 (by decide) ?_
                refine j_iret dX11_isNoPair_44 rfl rfl ?_ (Nat.le_of_ble_eq_true rfl) (Nat.le_of_ble_eq_true rfl)
                refine cast (congrFun (congrFun hQ9 _) _) ?_
                refine Or.inr (Or.inr ⟨_, rfl, ((fm2.le (q' := 59) (by decide)).tr (fm4.le (q' := 59) (by decide))), h4, R4, rfl, (by assumption), ?_⟩)
                (first | assumption | (refine Or.inl ?_; assumption) | (refine Or.inr ?_; assumption) | (refine Or.inr (Or.inl ?_); assumption) | (refine Or.inr (Or.inr ?_); assumption))
          · refine j_w w2 hw483 ?_
            refine j_if_eq (tgt := 31) dX11_isNoPair_24 (by decide) (fun c_24_72 => ?_) (fun c_24_72 => ?_)
            · refine j_iconst (v := 0) dX11_isNoPair_31 (by decide) ?_
              refine j_iconst (v := 2) dX11_isNoPair_32 (by decide) ?_
              refine j_callV (q := (RX11, TX11, 8)) dX11_isNoPair_33 kX11_refuse lX11_52 inX11_refuse seX11_refuse h2.m rfl (cm_refuse0 hl w2 _ _ h2 rfl) (Nat.le_of_ble_eq_true rfl) ⟨(Nat.le_of_ble_eq_true rfl), (Nat.le_of_ble_eq_true rfl)⟩ rfl (Nat.le_of_ble_eq_true rfl) rfl rfl (fun _ _ h => h.elim) ?_
              rintro _ _ ⟨rfl, hw484⟩
              refine j_w w2 hw484 ?_
              refine j_if_eq (tgt := 43) dX11_isNoPair_36 (by decide) (fun c_36_78 => ?_) (fun c_36_78 => ?_)
              · refine j_iconst (v := 0) dX11_isNoPair_43 (by decide) ?_
                refine j_iret dX11_isNoPair_44 rfl rfl ?_ (Nat.le_of_ble_eq_true rfl) (Nat.le_of_ble_eq_true rfl)
                refine cast (congrFun (congrFun hQ9 _) _) ?_
                exact Or.inl ⟨_, _, _, rfl, (by assumption), (by assumption), (by assumption), (by assumption), (by assumption), rfl, rfl, (fm2.le (q' := 59) (by decide)), h2, R2, rfl⟩
              · exact absurd c_36_78 (by decide)
            · exact absurd c_24_72 (by decide)
set_option maxRecDepth 100000 in
set_option maxHeartbeats 8000000 in
theorem cx_isNoRule (hl : l.stackTraces = false) (w : z_W) (S : sp_S) (s : z_Z) (x y z u : Int32) (h : z_mst w s) (R : sp_MR S s)  : z_Con G l mX11_isNoRule 18 0 0 w [.ref 1000, .int x, .int y, .int z, .int u] (fun v w9 => (∃ i k s9, v = some (.int 0) ∧ i < 3 ∧ k < 20 ∧ sp_thr (nI i) ∧ (¬ sp_bk (nI k)) ∧ (¬ (z < 0 ∨ 5 < z)) ∧ (¬ sp_bv u) ∧ x = nI i ∧ y = nI k ∧ z_fm 59 w w9 ∧ z_mst w9 s9 ∧ sp_MR S s9 ∧ s9.1.1 = 0) ∨ (∃ s9, v = some (.int 1) ∧ z_fm 59 w w9 ∧ z_mst w9 s9 ∧ sp_MR S s9 ∧ s9.1.1 = 1 ∧ ¬ sp_thr x) ∨ (∃ s9, v = some (.int 1) ∧ z_fm 59 w w9 ∧ z_mst w9 s9 ∧ sp_MR S s9 ∧ s9.1.1 = 2 ∧ sp_thr x ∧ (sp_bk y ∨ (z < 0 ∨ 5 < z) ∨ sp_bv u))) (fun _ _ => False) := by
  generalize hQ9 : (fun (v : Option Value) (w9 : z_W) => (∃ i k s9, v = some (.int 0) ∧ i < 3 ∧ k < 20 ∧ sp_thr (nI i) ∧ (¬ sp_bk (nI k)) ∧ (¬ (z < 0 ∨ 5 < z)) ∧ (¬ sp_bv u) ∧ x = nI i ∧ y = nI k ∧ z_fm 59 w w9 ∧ z_mst w9 s9 ∧ sp_MR S s9 ∧ s9.1.1 = 0) ∨ (∃ s9, v = some (.int 1) ∧ z_fm 59 w w9 ∧ z_mst w9 s9 ∧ sp_MR S s9 ∧ s9.1.1 = 1 ∧ ¬ sp_thr x) ∨ (∃ s9, v = some (.int 1) ∧ z_fm 59 w w9 ∧ z_mst w9 s9 ∧ sp_MR S s9 ∧ s9.1.1 = 2 ∧ sp_thr x ∧ (sp_bk y ∨ (z < 0 ∨ 5 < z) ∨ sp_bv u))) = Q9
  refine z_body hl (by decide) rfl (Nat.le_of_ble_eq_true rfl) ?_
  show z_J G l mX11_isNoRule _ 0 [(0, _), (1, _), (2, _), (3, _), (4, _)] [] _ 0 0
  refine j_aload_n dX11_isNoRule_0 rfl rfl ?_
  refine j_iload_n dX11_isNoRule_1 rfl ?_
  refine j_iload_n dX11_isNoRule_2 rfl ?_
  refine j_iload dX11_isNoRule_3 rfl ?_
  refine j_callV (q := (RX11, TX11, 8)) dX11_isNoRule_5 kX11_isNoPair lX11_142 inX11_isNoPair seX11_isNoPair h.m rfl (cx_isNoPair hl w S _ _ _ _ h R) (Nat.le_of_ble_eq_true rfl) ⟨(Nat.le_of_ble_eq_true rfl), (Nat.le_of_ble_eq_true rfl)⟩ rfl (Nat.le_of_ble_eq_true rfl) rfl rfl (fun _ _ h => h.elim) ?_
  rintro _ w1 (⟨i1, k1, s1, rfl, hi1, hk1, htt1, hbk1, hbv1, rfl, rfl, fm1, h1, R1, th1⟩ | ⟨s1, rfl, fm1, h1, R1, th1, hno1⟩ | ⟨s1, rfl, fm1, h1, R1, th1, htt1, hP1⟩)
  · have ei1 : sp_i (nI i1) = i1 := sp_in' (by omega)
    have ek1 : sp_i (nI k1) = k1 := sp_in' (by omega)
    refine j_if_ne (tgt := 33) dX11_isNoRule_8 (by decide) (fun c_8_10 => ?_) (fun c_8_10 => ?_)
    · exact absurd c_8_10 (by decide)
    · refine j_aload_n dX11_isNoRule_11 rfl rfl ?_
      refine j_iload_n dX11_isNoRule_12 rfl ?_
      refine j_iconst (v := 0) dX11_isNoRule_13 (by decide) ?_
      refine j_iconst (v := 5) dX11_isNoRule_14 (by decide) ?_
      refine j_callS dX11_isNoRule_15 kX11_isIn lX11_59 stX11_isIn (cm_isIn_r hl w1 _ (0) (5)) (Nat.le_of_ble_eq_true rfl) ⟨(Nat.le_of_ble_eq_true rfl), (Nat.le_of_ble_eq_true rfl)⟩ rfl (Nat.le_of_ble_eq_true rfl) rfl rfl (fun _ _ h => h.elim) ?_
      rintro _ _ ⟨⟨rfl, hye485⟩ | ⟨rfl, hno485⟩, hw485⟩
      · refine j_w w1 hw485 ?_
        refine j_if_ne (tgt := 25) dX11_isNoRule_18 (by decide) (fun c_18_19 => ?_) (fun c_18_19 => ?_)
        · refine j_iconst (v := 0) dX11_isNoRule_25 (by decide) ?_
          refine j_iconst (v := 2) dX11_isNoRule_26 (by decide) ?_
          refine j_callV (q := (RX11, TX11, 8)) dX11_isNoRule_27 kX11_refuse lX11_52 inX11_refuse seX11_refuse h1.m rfl (cm_refuse0 hl w1 _ _ h1 th1) (Nat.le_of_ble_eq_true rfl) ⟨(Nat.le_of_ble_eq_true rfl), (Nat.le_of_ble_eq_true rfl)⟩ rfl (Nat.le_of_ble_eq_true rfl) rfl rfl (fun _ _ h => h.elim) ?_
          rintro _ _ ⟨rfl, hw486⟩
          refine j_w w1 hw486 ?_
          refine j_if_eq (tgt := 37) dX11_isNoRule_30 (by decide) (fun c_30_25 => ?_) (fun c_30_25 => ?_)
          · refine j_iconst (v := 0) dX11_isNoRule_37 (by decide) ?_
            refine j_iret dX11_isNoRule_38 rfl rfl ?_ (Nat.le_of_ble_eq_true rfl) (Nat.le_of_ble_eq_true rfl)
            refine cast (congrFun (congrFun hQ9 _) _) ?_
            exact Or.inl ⟨_, _, _, rfl, (by assumption), (by assumption), (by assumption), (by assumption), (by assumption), (by assumption), rfl, rfl, (fm1.le (q' := 59) (by decide)), h1, R1, th1⟩
          · exact absurd c_30_25 (by decide)
        · exact absurd c_18_19 (by decide)
      · refine j_w w1 hw485 ?_
        refine j_if_ne (tgt := 25) dX11_isNoRule_18 (by decide) (fun c_18_33 => ?_) (fun c_18_33 => ?_)
        · exact absurd c_18_33 (by decide)
        · refine j_iconst (v := 1) dX11_isNoRule_21 (by decide) ?_
          refine j_goto (tgt := 26) dX11_isNoRule_22 (by decide) ?_
          refine j_iconst (v := 2) dX11_isNoRule_26 (by decide) ?_
          refine j_callV (q := (RX11, TX11, 8)) dX11_isNoRule_27 kX11_refuse lX11_52 inX11_refuse seX11_refuse h1.m rfl (cm_refuse1 hl w1 _ _ h1 th1 (by decide)) (Nat.le_of_ble_eq_true rfl) ⟨(Nat.le_of_ble_eq_true rfl), (Nat.le_of_ble_eq_true rfl)⟩ rfl (Nat.le_of_ble_eq_true rfl) rfl rfl (fun _ _ h => h.elim) ?_
          rintro _ w2 ⟨rfl, fm2, h2⟩
          have R2 := R1.th (k := 2)
          refine j_if_eq (tgt := 37) dX11_isNoRule_30 (by decide) (fun c_30_41 => ?_) (fun c_30_41 => ?_)
          · exact absurd c_30_41 (by decide)
          · refine j_iconst (v := 1) dX11_isNoRule_33 (by decide) ?_
            refine j_goto (tgt := 38) dX11_isNoRule_34 (by decide) ?_
            refine j_iret dX11_isNoRule_38 rfl rfl ?_ (Nat.le_of_ble_eq_true rfl) (Nat.le_of_ble_eq_true rfl)
            refine cast (congrFun (congrFun hQ9 _) _) ?_
            refine Or.inr (Or.inr ⟨_, rfl, ((fm1.le (q' := 59) (by decide)).tr (fm2.le (q' := 59) (by decide))), h2, R2, rfl, (by assumption), ?_⟩)
            (first | assumption | (refine Or.inl ?_; assumption) | (refine Or.inr ?_; assumption) | (refine Or.inr (Or.inl ?_); assumption) | (refine Or.inr (Or.inr ?_); assumption))
  · refine j_if_ne (tgt := 33) dX11_isNoRule_8 (by decide) (fun c_8_49 => ?_) (fun c_8_49 => ?_)
    · refine j_iconst (v := 1) dX11_isNoRule_33 (by decide) ?_
      refine j_goto (tgt := 38) dX11_isNoRule_34 (by decide) ?_
      refine j_iret dX11_isNoRule_38 rfl rfl ?_ (Nat.le_of_ble_eq_true rfl) (Nat.le_of_ble_eq_true rfl)
      refine cast (congrFun (congrFun hQ9 _) _) ?_
      exact Or.inr (Or.inl ⟨_, rfl, (fm1.le (q' := 59) (by decide)), h1, R1, th1, (by assumption)⟩)
    · exact absurd c_8_49 (by decide)
  · have hP9 := hP1.elim Or.inl (fun z9 => Or.inr (Or.inr z9 : (z < 0 ∨ 5 < z) ∨ sp_bv u))
    refine j_if_ne (tgt := 33) dX11_isNoRule_8 (by decide) (fun c_8_57 => ?_) (fun c_8_57 => ?_)
    · refine j_iconst (v := 1) dX11_isNoRule_33 (by decide) ?_
      refine j_goto (tgt := 38) dX11_isNoRule_34 (by decide) ?_
      refine j_iret dX11_isNoRule_38 rfl rfl ?_ (Nat.le_of_ble_eq_true rfl) (Nat.le_of_ble_eq_true rfl)
      refine cast (congrFun (congrFun hQ9 _) _) ?_
      refine Or.inr (Or.inr ⟨_, rfl, (fm1.le (q' := 59) (by decide)), h1, R1, th1, (by assumption), ?_⟩)
      (first | assumption | (refine Or.inl ?_; assumption) | (refine Or.inr ?_; assumption) | (refine Or.inr (Or.inl ?_); assumption) | (refine Or.inr (Or.inr ?_); assumption))
    · exact absurd c_8_57 (by decide)
set_option maxRecDepth 100000 in
set_option maxHeartbeats 8000000 in
theorem cx_put (hl : l.stackTraces = false) (w : z_W) (S : sp_S) (s : z_Z) (t : Int32) (k : Int32) (y : Int32) (h : z_mst w s) (R : sp_MR S s) (ok : sp_ok S) : z_Con G l mX11_put 24 2 52 w [.ref 1000, .int t, .int k, .int y] (fun v w9 => ∃ (r9 : Int32) (s9 : z_Z), v = some (.int r9) ∧ z_fm 59 w w9 ∧ z_mst w9 s9 ∧ s9.1.1 = sp_k32 t (sp_bk k ∨ sp_bv y) ∧ sp_MR (if sp_k32 t (sp_bk k ∨ sp_bv y) = 0 then sp_tb S (sp_i t) (sp_put (sp_srt (sp_i t)) (sp_T S (sp_i t)) (sp_C S 2) (sp_i k) y) else S) s9 ∧ (sp_k32 t (sp_bk k ∨ sp_bv y) = 0 → r9 = (sp_put (sp_srt (sp_i t)) (sp_T S (sp_i t)) (sp_C S 2) (sp_i k) y).1.getD (-9))) (fun _ _ => False) := by
  generalize hQ9 : (fun (v : Option Value) (w9 : z_W) => ∃ (r9 : Int32) (s9 : z_Z), v = some (.int r9) ∧ z_fm 59 w w9 ∧ z_mst w9 s9 ∧ s9.1.1 = sp_k32 t (sp_bk k ∨ sp_bv y) ∧ sp_MR (if sp_k32 t (sp_bk k ∨ sp_bv y) = 0 then sp_tb S (sp_i t) (sp_put (sp_srt (sp_i t)) (sp_T S (sp_i t)) (sp_C S 2) (sp_i k) y) else S) s9 ∧ (sp_k32 t (sp_bk k ∨ sp_bv y) = 0 → r9 = (sp_put (sp_srt (sp_i t)) (sp_T S (sp_i t)) (sp_C S 2) (sp_i k) y).1.getD (-9))) = Q9
  refine z_body hl (by decide) rfl (Nat.le_of_ble_eq_true rfl) ?_
  show z_J G l mX11_put _ 0 [(0, _), (1, _), (2, _), (3, _)] [] _ 0 0
  refine j_aload_n dX11_put_0 rfl rfl ?_
  refine j_iload_n dX11_put_1 rfl ?_
  refine j_iload_n dX11_put_2 rfl ?_
  refine j_iload_n dX11_put_3 rfl ?_
  refine j_callV (q := (RX11, TX11, 8)) dX11_put_4 kX11_isNoPair lX11_142 inX11_isNoPair seX11_isNoPair h.m rfl (cx_isNoPair hl w S _ _ _ _ h R) (Nat.le_of_ble_eq_true rfl) ⟨(Nat.le_of_ble_eq_true rfl), (Nat.le_of_ble_eq_true rfl)⟩ rfl (Nat.le_of_ble_eq_true rfl) rfl rfl (fun _ _ h => h.elim) ?_
  rintro _ w1 (⟨i1, k1, s1, rfl, hi1, hk1, htt1, hbk1, hbv1, rfl, rfl, fm1, h1, R1, th1⟩ | ⟨s1, rfl, fm1, h1, R1, th1, hno1⟩ | ⟨s1, rfl, fm1, h1, R1, th1, htt1, hP1⟩)
  · have ei1 : sp_i (nI i1) = i1 := sp_in' (by omega)
    have ek1 : sp_i (nI k1) = k1 := sp_in' (by omega)
    refine j_if_eq (tgt := 12) dX11_put_7 (by decide) (fun c_7_10 => ?_) (fun c_7_10 => ?_)
    · refine j_aload_n dX11_put_12 rfl rfl ?_
      refine j_iload_n dX11_put_13 rfl ?_
      refine j_iload_n dX11_put_14 rfl ?_
      refine j_callV (q := (RX11, TX11, 8)) dX11_put_15 kX11_valueOf lX11_145 inX11_valueOf seX11_valueOf h1.m rfl (cx_valueOf hl w1 S _ (i1) (k1) h1 R1 (by omega) (by omega)) (Nat.le_of_ble_eq_true rfl) ⟨(Nat.le_of_ble_eq_true rfl), (Nat.le_of_ble_eq_true rfl)⟩ rfl (Nat.le_of_ble_eq_true rfl) rfl rfl (fun _ _ h => h.elim) ?_
      rintro _ _ ⟨rfl, hw487⟩
      refine j_w w1 hw487 ?_
      refine j_istore (lo' := [(4, _), (0, _), (1, _), (2, _), (3, _)]) dX11_put_18 (by decide) rfl ?_
      refine j_aload_n dX11_put_20 rfl rfl ?_
      refine j_iload_n dX11_put_21 rfl ?_
      refine j_iload_n dX11_put_22 rfl ?_
      refine j_iload_n dX11_put_23 rfl ?_
      refine j_callV (q := (RX11, TX11, 8)) dX11_put_24 kX11_lay lX11_147 inX11_lay seX11_lay h1.m rfl (cx_lay hl w1 S _ (i1) (k1) _ h1 R1 (by omega) (by omega) (ok.2.1 (i1) (by omega))) (Nat.le_of_ble_eq_true rfl) ⟨(Nat.le_of_ble_eq_true rfl), (Nat.le_of_ble_eq_true rfl)⟩ rfl (Nat.le_of_ble_eq_true rfl) rfl rfl (fun _ _ h => h.elim) ?_
      rintro _ w2 ⟨rfl, s2, fm2, h2, R2, th2⟩
      have tx2 := th2.trans th1
      refine j_iload dX11_put_27 rfl ?_
      refine j_iret dX11_put_29 rfl rfl ?_ (Nat.le_of_ble_eq_true rfl) (Nat.le_of_ble_eq_true rfl)
      refine cast (congrFun (congrFun hQ9 _) _) ?_
      try rw [ei1]
      try rw [ek1]
      refine ⟨_, _, rfl, ((fm1.le (q' := 59) (by decide)).tr (fm2.le (q' := 59) (by decide))), h2, sp_X0 ?_ tx2 R2 rfl⟩
      first | (first | (refine sp_k32_0 ?_ ?_ <;> (first | (with_reducible assumption) | (refine Or.inl ?_; (with_reducible assumption)) | (refine Or.inr ?_; (with_reducible assumption)) | (refine Or.inr (Or.inl ?_); (with_reducible assumption)) | (refine Or.inr (Or.inr ?_); (with_reducible assumption)) | (refine Or.inr (Or.inr (Or.inl ?_)); (with_reducible assumption)) | (refine Or.inr (Or.inr (Or.inr ?_)); (with_reducible assumption)) | (refine fun z => Or.elim z ?_ ?_ <;> (with_reducible assumption)) | (refine fun z => Or.elim z ?_ (fun z => Or.elim z ?_ ?_) <;> (with_reducible assumption)) | (refine fun z => Or.elim z ?_ (fun z => Or.elim z ?_ (fun z => Or.elim z ?_ ?_)) <;> (with_reducible assumption)) | (refine fun z => Or.elim z (fun z9 => z9 ?_) ?_ <;> (first | (with_reducible assumption) | (refine Or.inl ?_; (with_reducible assumption)) | (refine Or.inr (Or.inl ?_); (with_reducible assumption)) | (refine Or.inr (Or.inr ?_); (with_reducible assumption)) | (refine Or.inr (Or.inr (Or.inl ?_)); (with_reducible assumption)) | (refine Or.inr (Or.inr (Or.inr ?_)); (with_reducible assumption)))) | (refine Or.inl (fun z => Or.elim z ?_ (fun z => Or.elim z ?_ ?_)) <;> (with_reducible assumption)) | (refine Or.inl (fun z => Or.elim z ?_ (fun z => Or.elim z ?_ (fun z => Or.elim z ?_ ?_))) <;> (with_reducible assumption))))) | (first | (refine sp_k32_0 ?_ ?_ <;> (first | assumption | (refine Or.inl ?_; assumption) | (refine Or.inr ?_; assumption) | (refine Or.inr (Or.inl ?_); assumption) | (refine Or.inr (Or.inr ?_); assumption) | (refine Or.inr (Or.inr (Or.inl ?_)); assumption) | (refine Or.inr (Or.inr (Or.inr ?_)); assumption) | (refine fun z => Or.elim z ?_ ?_ <;> assumption) | (refine fun z => Or.elim z ?_ (fun z => Or.elim z ?_ ?_) <;> assumption) | (refine fun z => Or.elim z ?_ (fun z => Or.elim z ?_ (fun z => Or.elim z ?_ ?_)) <;> assumption) | (refine fun z => Or.elim z (fun z9 => z9 ?_) ?_ <;> (first | assumption | (refine Or.inl ?_; assumption) | (refine Or.inr (Or.inl ?_); assumption) | (refine Or.inr (Or.inr ?_); assumption) | (refine Or.inr (Or.inr (Or.inl ?_)); assumption) | (refine Or.inr (Or.inr (Or.inr ?_)); assumption))) | (refine Or.inl (fun z => Or.elim z ?_ (fun z => Or.elim z ?_ ?_)) <;> assumption) | (refine Or.inl (fun z => Or.elim z ?_ (fun z => Or.elim z ?_ (fun z => Or.elim z ?_ ?_))) <;> assumption))))
    · exact absurd c_7_10 (by decide)
  · refine j_if_eq (tgt := 12) dX11_put_7 (by decide) (fun c_7_33 => ?_) (fun c_7_33 => ?_)
    · exact absurd c_7_33 (by decide)
    · refine j_iconst (v := 0) dX11_put_10 (by decide) ?_
      refine j_iret dX11_put_11 rfl rfl ?_ (Nat.le_of_ble_eq_true rfl) (Nat.le_of_ble_eq_true rfl)
      refine cast (congrFun (congrFun hQ9 _) _) ?_
      refine ⟨_, _, rfl, (fm1.le (q' := 59) (by decide)), h1, sp_X1 (k := 1) ?_ (by decide) th1 R1⟩
      first | (first | (refine sp_k32_1 ?_ <;> (first | (with_reducible assumption) | (refine Or.inl ?_; (with_reducible assumption)) | (refine Or.inr ?_; (with_reducible assumption)) | (refine Or.inr (Or.inl ?_); (with_reducible assumption)) | (refine Or.inr (Or.inr ?_); (with_reducible assumption)) | (refine Or.inr (Or.inr (Or.inl ?_)); (with_reducible assumption)) | (refine Or.inr (Or.inr (Or.inr ?_)); (with_reducible assumption)) | (refine fun z => Or.elim z ?_ ?_ <;> (with_reducible assumption)) | (refine fun z => Or.elim z ?_ (fun z => Or.elim z ?_ ?_) <;> (with_reducible assumption)) | (refine fun z => Or.elim z ?_ (fun z => Or.elim z ?_ (fun z => Or.elim z ?_ ?_)) <;> (with_reducible assumption)) | (refine fun z => Or.elim z (fun z9 => z9 ?_) ?_ <;> (first | (with_reducible assumption) | (refine Or.inl ?_; (with_reducible assumption)) | (refine Or.inr (Or.inl ?_); (with_reducible assumption)) | (refine Or.inr (Or.inr ?_); (with_reducible assumption)) | (refine Or.inr (Or.inr (Or.inl ?_)); (with_reducible assumption)) | (refine Or.inr (Or.inr (Or.inr ?_)); (with_reducible assumption)))) | (refine Or.inl (fun z => Or.elim z ?_ (fun z => Or.elim z ?_ ?_)) <;> (with_reducible assumption)) | (refine Or.inl (fun z => Or.elim z ?_ (fun z => Or.elim z ?_ (fun z => Or.elim z ?_ ?_))) <;> (with_reducible assumption))))) | (first | (refine sp_k32_1 ?_ <;> (first | assumption | (refine Or.inl ?_; assumption) | (refine Or.inr ?_; assumption) | (refine Or.inr (Or.inl ?_); assumption) | (refine Or.inr (Or.inr ?_); assumption) | (refine Or.inr (Or.inr (Or.inl ?_)); assumption) | (refine Or.inr (Or.inr (Or.inr ?_)); assumption) | (refine fun z => Or.elim z ?_ ?_ <;> assumption) | (refine fun z => Or.elim z ?_ (fun z => Or.elim z ?_ ?_) <;> assumption) | (refine fun z => Or.elim z ?_ (fun z => Or.elim z ?_ (fun z => Or.elim z ?_ ?_)) <;> assumption) | (refine fun z => Or.elim z (fun z9 => z9 ?_) ?_ <;> (first | assumption | (refine Or.inl ?_; assumption) | (refine Or.inr (Or.inl ?_); assumption) | (refine Or.inr (Or.inr ?_); assumption) | (refine Or.inr (Or.inr (Or.inl ?_)); assumption) | (refine Or.inr (Or.inr (Or.inr ?_)); assumption))) | (refine Or.inl (fun z => Or.elim z ?_ (fun z => Or.elim z ?_ ?_)) <;> assumption) | (refine Or.inl (fun z => Or.elim z ?_ (fun z => Or.elim z ?_ (fun z => Or.elim z ?_ ?_))) <;> assumption))))
  · refine j_if_eq (tgt := 12) dX11_put_7 (by decide) (fun c_7_40 => ?_) (fun c_7_40 => ?_)
    · exact absurd c_7_40 (by decide)
    · refine j_iconst (v := 0) dX11_put_10 (by decide) ?_
      refine j_iret dX11_put_11 rfl rfl ?_ (Nat.le_of_ble_eq_true rfl) (Nat.le_of_ble_eq_true rfl)
      refine cast (congrFun (congrFun hQ9 _) _) ?_
      refine ⟨_, _, rfl, (fm1.le (q' := 59) (by decide)), h1, sp_X1 (k := 2) ?_ (by decide) th1 R1⟩
      first | (first | (refine sp_k32_2 ?_ ?_ <;> (first | (with_reducible assumption) | (refine Or.inl ?_; (with_reducible assumption)) | (refine Or.inr ?_; (with_reducible assumption)) | (refine Or.inr (Or.inl ?_); (with_reducible assumption)) | (refine Or.inr (Or.inr ?_); (with_reducible assumption)) | (refine Or.inr (Or.inr (Or.inl ?_)); (with_reducible assumption)) | (refine Or.inr (Or.inr (Or.inr ?_)); (with_reducible assumption)) | (refine fun z => Or.elim z ?_ ?_ <;> (with_reducible assumption)) | (refine fun z => Or.elim z ?_ (fun z => Or.elim z ?_ ?_) <;> (with_reducible assumption)) | (refine fun z => Or.elim z ?_ (fun z => Or.elim z ?_ (fun z => Or.elim z ?_ ?_)) <;> (with_reducible assumption)) | (refine fun z => Or.elim z (fun z9 => z9 ?_) ?_ <;> (first | (with_reducible assumption) | (refine Or.inl ?_; (with_reducible assumption)) | (refine Or.inr (Or.inl ?_); (with_reducible assumption)) | (refine Or.inr (Or.inr ?_); (with_reducible assumption)) | (refine Or.inr (Or.inr (Or.inl ?_)); (with_reducible assumption)) | (refine Or.inr (Or.inr (Or.inr ?_)); (with_reducible assumption)))) | (refine Or.inl (fun z => Or.elim z ?_ (fun z => Or.elim z ?_ ?_)) <;> (with_reducible assumption)) | (refine Or.inl (fun z => Or.elim z ?_ (fun z => Or.elim z ?_ (fun z => Or.elim z ?_ ?_))) <;> (with_reducible assumption))))) | (first | (refine sp_k32_2 ?_ ?_ <;> (first | assumption | (refine Or.inl ?_; assumption) | (refine Or.inr ?_; assumption) | (refine Or.inr (Or.inl ?_); assumption) | (refine Or.inr (Or.inr ?_); assumption) | (refine Or.inr (Or.inr (Or.inl ?_)); assumption) | (refine Or.inr (Or.inr (Or.inr ?_)); assumption) | (refine fun z => Or.elim z ?_ ?_ <;> assumption) | (refine fun z => Or.elim z ?_ (fun z => Or.elim z ?_ ?_) <;> assumption) | (refine fun z => Or.elim z ?_ (fun z => Or.elim z ?_ (fun z => Or.elim z ?_ ?_)) <;> assumption) | (refine fun z => Or.elim z (fun z9 => z9 ?_) ?_ <;> (first | assumption | (refine Or.inl ?_; assumption) | (refine Or.inr (Or.inl ?_); assumption) | (refine Or.inr (Or.inr ?_); assumption) | (refine Or.inr (Or.inr (Or.inl ?_)); assumption) | (refine Or.inr (Or.inr (Or.inr ?_)); assumption))) | (refine Or.inl (fun z => Or.elim z ?_ (fun z => Or.elim z ?_ ?_)) <;> assumption) | (refine Or.inl (fun z => Or.elim z ?_ (fun z => Or.elim z ?_ (fun z => Or.elim z ?_ ?_))) <;> assumption))))
set_option maxRecDepth 100000 in
set_option maxHeartbeats 8000000 in
theorem cx_remove (hl : l.stackTraces = false) (w : z_W) (S : sp_S) (s : z_Z) (t : Int32) (k : Int32) (h : z_mst w s) (R : sp_MR S s) (ok : sp_ok S) : z_Con G l mX11_remove 24 2 52 w [.ref 1000, .int t, .int k] (fun v w9 => ∃ (r9 : Int32) (s9 : z_Z), v = some (.int r9) ∧ z_fm 59 w w9 ∧ z_mst w9 s9 ∧ s9.1.1 = sp_k32 t (sp_bk k) ∧ sp_MR (if sp_k32 t (sp_bk k) = 0 then sp_tb S (sp_i t) (sp_del (sp_T S (sp_i t)) (sp_C S 2) (sp_i k)) else S) s9 ∧ (sp_k32 t (sp_bk k) = 0 → r9 = (sp_del (sp_T S (sp_i t)) (sp_C S 2) (sp_i k)).1.getD (-9))) (fun _ _ => False) := by
  generalize hQ9 : (fun (v : Option Value) (w9 : z_W) => ∃ (r9 : Int32) (s9 : z_Z), v = some (.int r9) ∧ z_fm 59 w w9 ∧ z_mst w9 s9 ∧ s9.1.1 = sp_k32 t (sp_bk k) ∧ sp_MR (if sp_k32 t (sp_bk k) = 0 then sp_tb S (sp_i t) (sp_del (sp_T S (sp_i t)) (sp_C S 2) (sp_i k)) else S) s9 ∧ (sp_k32 t (sp_bk k) = 0 → r9 = (sp_del (sp_T S (sp_i t)) (sp_C S 2) (sp_i k)).1.getD (-9))) = Q9
  refine z_body hl (by decide) rfl (Nat.le_of_ble_eq_true rfl) ?_
  show z_J G l mX11_remove _ 0 [(0, _), (1, _), (2, _)] [] _ 0 0
  refine j_aload_n dX11_remove_0 rfl rfl ?_
  refine j_iload_n dX11_remove_1 rfl ?_
  refine j_iload_n dX11_remove_2 rfl ?_
  refine j_iconst (v := 0) dX11_remove_3 (by decide) ?_
  refine j_callV (q := (RX11, TX11, 8)) dX11_remove_4 kX11_isNoPair lX11_142 inX11_isNoPair seX11_isNoPair h.m rfl (cx_isNoPair hl w S _ _ _ 0 h R) (Nat.le_of_ble_eq_true rfl) ⟨(Nat.le_of_ble_eq_true rfl), (Nat.le_of_ble_eq_true rfl)⟩ rfl (Nat.le_of_ble_eq_true rfl) rfl rfl (fun _ _ h => h.elim) ?_
  rintro _ w1 (⟨i1, k1, s1, rfl, hi1, hk1, htt1, hbk1, hbv1, rfl, rfl, fm1, h1, R1, th1⟩ | ⟨s1, rfl, fm1, h1, R1, th1, hno1⟩ | ⟨s1, rfl, fm1, h1, R1, th1, htt1, hP1⟩)
  · have ei1 : sp_i (nI i1) = i1 := sp_in' (by omega)
    have ek1 : sp_i (nI k1) = k1 := sp_in' (by omega)
    refine j_if_eq (tgt := 12) dX11_remove_7 (by decide) (fun c_7_10 => ?_) (fun c_7_10 => ?_)
    · refine j_aload_n dX11_remove_12 rfl rfl ?_
      refine j_iload_n dX11_remove_13 rfl ?_
      refine j_iload_n dX11_remove_14 rfl ?_
      refine j_callV (q := (RX11, TX11, 8)) dX11_remove_15 kX11_valueOf lX11_145 inX11_valueOf seX11_valueOf h1.m rfl (cx_valueOf hl w1 S _ (i1) (k1) h1 R1 (by omega) (by omega)) (Nat.le_of_ble_eq_true rfl) ⟨(Nat.le_of_ble_eq_true rfl), (Nat.le_of_ble_eq_true rfl)⟩ rfl (Nat.le_of_ble_eq_true rfl) rfl rfl (fun _ _ h => h.elim) ?_
      rintro _ _ ⟨rfl, hw488⟩
      refine j_w w1 hw488 ?_
      refine j_istore_n (lo' := [(3, _), (0, _), (1, _), (2, _)]) dX11_remove_18 (by decide) rfl ?_
      refine j_aload_n dX11_remove_19 rfl rfl ?_
      refine j_iload_n dX11_remove_20 rfl ?_
      refine j_iload_n dX11_remove_21 rfl ?_
      refine j_callV (q := (RX11, TX11, 8)) dX11_remove_22 kX11_go lX11_151 inX11_go seX11_go h1.m rfl (cx_go hl w1 S _ (i1) (k1) h1 R1 (by omega) (by omega) (ok.2.1 (i1) (by omega))) (Nat.le_of_ble_eq_true rfl) ⟨(Nat.le_of_ble_eq_true rfl), (Nat.le_of_ble_eq_true rfl)⟩ rfl (Nat.le_of_ble_eq_true rfl) rfl rfl (fun _ _ h => h.elim) ?_
      rintro _ w2 ⟨rfl, s2, fm2, h2, R2, th2⟩
      have tx2 := th2.trans th1
      refine j_iload_n dX11_remove_25 rfl ?_
      refine j_iret dX11_remove_26 rfl rfl ?_ (Nat.le_of_ble_eq_true rfl) (Nat.le_of_ble_eq_true rfl)
      refine cast (congrFun (congrFun hQ9 _) _) ?_
      try rw [ei1]
      try rw [ek1]
      refine ⟨_, _, rfl, ((fm1.le (q' := 59) (by decide)).tr (fm2.le (q' := 59) (by decide))), h2, sp_X0 ?_ tx2 R2 rfl⟩
      first | (first | (refine sp_k32_0 ?_ ?_ <;> (first | (with_reducible assumption) | (refine Or.inl ?_; (with_reducible assumption)) | (refine Or.inr ?_; (with_reducible assumption)) | (refine Or.inr (Or.inl ?_); (with_reducible assumption)) | (refine Or.inr (Or.inr ?_); (with_reducible assumption)) | (refine Or.inr (Or.inr (Or.inl ?_)); (with_reducible assumption)) | (refine Or.inr (Or.inr (Or.inr ?_)); (with_reducible assumption)) | (refine fun z => Or.elim z ?_ ?_ <;> (with_reducible assumption)) | (refine fun z => Or.elim z ?_ (fun z => Or.elim z ?_ ?_) <;> (with_reducible assumption)) | (refine fun z => Or.elim z ?_ (fun z => Or.elim z ?_ (fun z => Or.elim z ?_ ?_)) <;> (with_reducible assumption)) | (refine fun z => Or.elim z (fun z9 => z9 ?_) ?_ <;> (first | (with_reducible assumption) | (refine Or.inl ?_; (with_reducible assumption)) | (refine Or.inr (Or.inl ?_); (with_reducible assumption)) | (refine Or.inr (Or.inr ?_); (with_reducible assumption)) | (refine Or.inr (Or.inr (Or.inl ?_)); (with_reducible assumption)) | (refine Or.inr (Or.inr (Or.inr ?_)); (with_reducible assumption)))) | (refine Or.inl (fun z => Or.elim z ?_ (fun z => Or.elim z ?_ ?_)) <;> (with_reducible assumption)) | (refine Or.inl (fun z => Or.elim z ?_ (fun z => Or.elim z ?_ (fun z => Or.elim z ?_ ?_))) <;> (with_reducible assumption))))) | (first | (refine sp_k32_0 ?_ ?_ <;> (first | assumption | (refine Or.inl ?_; assumption) | (refine Or.inr ?_; assumption) | (refine Or.inr (Or.inl ?_); assumption) | (refine Or.inr (Or.inr ?_); assumption) | (refine Or.inr (Or.inr (Or.inl ?_)); assumption) | (refine Or.inr (Or.inr (Or.inr ?_)); assumption) | (refine fun z => Or.elim z ?_ ?_ <;> assumption) | (refine fun z => Or.elim z ?_ (fun z => Or.elim z ?_ ?_) <;> assumption) | (refine fun z => Or.elim z ?_ (fun z => Or.elim z ?_ (fun z => Or.elim z ?_ ?_)) <;> assumption) | (refine fun z => Or.elim z (fun z9 => z9 ?_) ?_ <;> (first | assumption | (refine Or.inl ?_; assumption) | (refine Or.inr (Or.inl ?_); assumption) | (refine Or.inr (Or.inr ?_); assumption) | (refine Or.inr (Or.inr (Or.inl ?_)); assumption) | (refine Or.inr (Or.inr (Or.inr ?_)); assumption))) | (refine Or.inl (fun z => Or.elim z ?_ (fun z => Or.elim z ?_ ?_)) <;> assumption) | (refine Or.inl (fun z => Or.elim z ?_ (fun z => Or.elim z ?_ (fun z => Or.elim z ?_ ?_))) <;> assumption))))
    · exact absurd c_7_10 (by decide)
  · refine j_if_eq (tgt := 12) dX11_remove_7 (by decide) (fun c_7_32 => ?_) (fun c_7_32 => ?_)
    · exact absurd c_7_32 (by decide)
    · refine j_iconst (v := 0) dX11_remove_10 (by decide) ?_
      refine j_iret dX11_remove_11 rfl rfl ?_ (Nat.le_of_ble_eq_true rfl) (Nat.le_of_ble_eq_true rfl)
      refine cast (congrFun (congrFun hQ9 _) _) ?_
      refine ⟨_, _, rfl, (fm1.le (q' := 59) (by decide)), h1, sp_X1 (k := 1) ?_ (by decide) th1 R1⟩
      first | (first | (refine sp_k32_1 ?_ <;> (first | (with_reducible assumption) | (refine Or.inl ?_; (with_reducible assumption)) | (refine Or.inr ?_; (with_reducible assumption)) | (refine Or.inr (Or.inl ?_); (with_reducible assumption)) | (refine Or.inr (Or.inr ?_); (with_reducible assumption)) | (refine Or.inr (Or.inr (Or.inl ?_)); (with_reducible assumption)) | (refine Or.inr (Or.inr (Or.inr ?_)); (with_reducible assumption)) | (refine fun z => Or.elim z ?_ ?_ <;> (with_reducible assumption)) | (refine fun z => Or.elim z ?_ (fun z => Or.elim z ?_ ?_) <;> (with_reducible assumption)) | (refine fun z => Or.elim z ?_ (fun z => Or.elim z ?_ (fun z => Or.elim z ?_ ?_)) <;> (with_reducible assumption)) | (refine fun z => Or.elim z (fun z9 => z9 ?_) ?_ <;> (first | (with_reducible assumption) | (refine Or.inl ?_; (with_reducible assumption)) | (refine Or.inr (Or.inl ?_); (with_reducible assumption)) | (refine Or.inr (Or.inr ?_); (with_reducible assumption)) | (refine Or.inr (Or.inr (Or.inl ?_)); (with_reducible assumption)) | (refine Or.inr (Or.inr (Or.inr ?_)); (with_reducible assumption)))) | (refine Or.inl (fun z => Or.elim z ?_ (fun z => Or.elim z ?_ ?_)) <;> (with_reducible assumption)) | (refine Or.inl (fun z => Or.elim z ?_ (fun z => Or.elim z ?_ (fun z => Or.elim z ?_ ?_))) <;> (with_reducible assumption))))) | (first | (refine sp_k32_1 ?_ <;> (first | assumption | (refine Or.inl ?_; assumption) | (refine Or.inr ?_; assumption) | (refine Or.inr (Or.inl ?_); assumption) | (refine Or.inr (Or.inr ?_); assumption) | (refine Or.inr (Or.inr (Or.inl ?_)); assumption) | (refine Or.inr (Or.inr (Or.inr ?_)); assumption) | (refine fun z => Or.elim z ?_ ?_ <;> assumption) | (refine fun z => Or.elim z ?_ (fun z => Or.elim z ?_ ?_) <;> assumption) | (refine fun z => Or.elim z ?_ (fun z => Or.elim z ?_ (fun z => Or.elim z ?_ ?_)) <;> assumption) | (refine fun z => Or.elim z (fun z9 => z9 ?_) ?_ <;> (first | assumption | (refine Or.inl ?_; assumption) | (refine Or.inr (Or.inl ?_); assumption) | (refine Or.inr (Or.inr ?_); assumption) | (refine Or.inr (Or.inr (Or.inl ?_)); assumption) | (refine Or.inr (Or.inr (Or.inr ?_)); assumption))) | (refine Or.inl (fun z => Or.elim z ?_ (fun z => Or.elim z ?_ ?_)) <;> assumption) | (refine Or.inl (fun z => Or.elim z ?_ (fun z => Or.elim z ?_ (fun z => Or.elim z ?_ ?_))) <;> assumption))))
  · have hP9 : sp_bk k := hP1.resolve_right (by decide)
    refine j_if_eq (tgt := 12) dX11_remove_7 (by decide) (fun c_7_40 => ?_) (fun c_7_40 => ?_)
    · exact absurd c_7_40 (by decide)
    · refine j_iconst (v := 0) dX11_remove_10 (by decide) ?_
      refine j_iret dX11_remove_11 rfl rfl ?_ (Nat.le_of_ble_eq_true rfl) (Nat.le_of_ble_eq_true rfl)
      refine cast (congrFun (congrFun hQ9 _) _) ?_
      refine ⟨_, _, rfl, (fm1.le (q' := 59) (by decide)), h1, sp_X1 (k := 2) ?_ (by decide) th1 R1⟩
      first | (first | (refine sp_k32_2 ?_ ?_ <;> (first | (with_reducible assumption) | (refine Or.inl ?_; (with_reducible assumption)) | (refine Or.inr ?_; (with_reducible assumption)) | (refine Or.inr (Or.inl ?_); (with_reducible assumption)) | (refine Or.inr (Or.inr ?_); (with_reducible assumption)) | (refine Or.inr (Or.inr (Or.inl ?_)); (with_reducible assumption)) | (refine Or.inr (Or.inr (Or.inr ?_)); (with_reducible assumption)) | (refine fun z => Or.elim z ?_ ?_ <;> (with_reducible assumption)) | (refine fun z => Or.elim z ?_ (fun z => Or.elim z ?_ ?_) <;> (with_reducible assumption)) | (refine fun z => Or.elim z ?_ (fun z => Or.elim z ?_ (fun z => Or.elim z ?_ ?_)) <;> (with_reducible assumption)) | (refine fun z => Or.elim z (fun z9 => z9 ?_) ?_ <;> (first | (with_reducible assumption) | (refine Or.inl ?_; (with_reducible assumption)) | (refine Or.inr (Or.inl ?_); (with_reducible assumption)) | (refine Or.inr (Or.inr ?_); (with_reducible assumption)) | (refine Or.inr (Or.inr (Or.inl ?_)); (with_reducible assumption)) | (refine Or.inr (Or.inr (Or.inr ?_)); (with_reducible assumption)))) | (refine Or.inl (fun z => Or.elim z ?_ (fun z => Or.elim z ?_ ?_)) <;> (with_reducible assumption)) | (refine Or.inl (fun z => Or.elim z ?_ (fun z => Or.elim z ?_ (fun z => Or.elim z ?_ ?_))) <;> (with_reducible assumption))))) | (first | (refine sp_k32_2 ?_ ?_ <;> (first | assumption | (refine Or.inl ?_; assumption) | (refine Or.inr ?_; assumption) | (refine Or.inr (Or.inl ?_); assumption) | (refine Or.inr (Or.inr ?_); assumption) | (refine Or.inr (Or.inr (Or.inl ?_)); assumption) | (refine Or.inr (Or.inr (Or.inr ?_)); assumption) | (refine fun z => Or.elim z ?_ ?_ <;> assumption) | (refine fun z => Or.elim z ?_ (fun z => Or.elim z ?_ ?_) <;> assumption) | (refine fun z => Or.elim z ?_ (fun z => Or.elim z ?_ (fun z => Or.elim z ?_ ?_)) <;> assumption) | (refine fun z => Or.elim z (fun z9 => z9 ?_) ?_ <;> (first | assumption | (refine Or.inl ?_; assumption) | (refine Or.inr (Or.inl ?_); assumption) | (refine Or.inr (Or.inr ?_); assumption) | (refine Or.inr (Or.inr (Or.inl ?_)); assumption) | (refine Or.inr (Or.inr (Or.inr ?_)); assumption))) | (refine Or.inl (fun z => Or.elim z ?_ (fun z => Or.elim z ?_ ?_)) <;> assumption) | (refine Or.inl (fun z => Or.elim z ?_ (fun z => Or.elim z ?_ (fun z => Or.elim z ?_ ?_))) <;> assumption))))
set_option maxRecDepth 100000 in
set_option maxHeartbeats 8000000 in
theorem cx_putIfAbsent (hl : l.stackTraces = false) (w : z_W) (S : sp_S) (s : z_Z) (t : Int32) (k : Int32) (y : Int32) (h : z_mst w s) (R : sp_MR S s) (ok : sp_ok S) : z_Con G l mX11_putIfAbsent 24 2 52 w [.ref 1000, .int t, .int k, .int y] (fun v w9 => ∃ (r9 : Int32) (s9 : z_Z), v = some (.int r9) ∧ z_fm 59 w w9 ∧ z_mst w9 s9 ∧ s9.1.1 = sp_k32 t (sp_bk k ∨ sp_bv y) ∧ sp_MR (if sp_k32 t (sp_bk k ∨ sp_bv y) = 0 then sp_tb S (sp_i t) (sp_pia (sp_srt (sp_i t)) (sp_T S (sp_i t)) (sp_C S 2) (sp_i k) y) else S) s9 ∧ (sp_k32 t (sp_bk k ∨ sp_bv y) = 0 → r9 = (sp_pia (sp_srt (sp_i t)) (sp_T S (sp_i t)) (sp_C S 2) (sp_i k) y).1.getD (-9))) (fun _ _ => False) := by
  generalize hQ9 : (fun (v : Option Value) (w9 : z_W) => ∃ (r9 : Int32) (s9 : z_Z), v = some (.int r9) ∧ z_fm 59 w w9 ∧ z_mst w9 s9 ∧ s9.1.1 = sp_k32 t (sp_bk k ∨ sp_bv y) ∧ sp_MR (if sp_k32 t (sp_bk k ∨ sp_bv y) = 0 then sp_tb S (sp_i t) (sp_pia (sp_srt (sp_i t)) (sp_T S (sp_i t)) (sp_C S 2) (sp_i k) y) else S) s9 ∧ (sp_k32 t (sp_bk k ∨ sp_bv y) = 0 → r9 = (sp_pia (sp_srt (sp_i t)) (sp_T S (sp_i t)) (sp_C S 2) (sp_i k) y).1.getD (-9))) = Q9
  refine z_body hl (by decide) rfl (Nat.le_of_ble_eq_true rfl) ?_
  show z_J G l mX11_putIfAbsent _ 0 [(0, _), (1, _), (2, _), (3, _)] [] _ 0 0
  refine j_aload_n dX11_putIfAbsent_0 rfl rfl ?_
  refine j_iload_n dX11_putIfAbsent_1 rfl ?_
  refine j_iload_n dX11_putIfAbsent_2 rfl ?_
  refine j_iload_n dX11_putIfAbsent_3 rfl ?_
  refine j_callV (q := (RX11, TX11, 8)) dX11_putIfAbsent_4 kX11_isNoPair lX11_142 inX11_isNoPair seX11_isNoPair h.m rfl (cx_isNoPair hl w S _ _ _ _ h R) (Nat.le_of_ble_eq_true rfl) ⟨(Nat.le_of_ble_eq_true rfl), (Nat.le_of_ble_eq_true rfl)⟩ rfl (Nat.le_of_ble_eq_true rfl) rfl rfl (fun _ _ h => h.elim) ?_
  rintro _ w1 (⟨i1, k1, s1, rfl, hi1, hk1, htt1, hbk1, hbv1, rfl, rfl, fm1, h1, R1, th1⟩ | ⟨s1, rfl, fm1, h1, R1, th1, hno1⟩ | ⟨s1, rfl, fm1, h1, R1, th1, htt1, hP1⟩)
  · have ei1 : sp_i (nI i1) = i1 := sp_in' (by omega)
    have ek1 : sp_i (nI k1) = k1 := sp_in' (by omega)
    refine j_if_eq (tgt := 12) dX11_putIfAbsent_7 (by decide) (fun c_7_10 => ?_) (fun c_7_10 => ?_)
    · refine j_aload_n dX11_putIfAbsent_12 rfl rfl ?_
      refine j_iload_n dX11_putIfAbsent_13 rfl ?_
      refine j_iload_n dX11_putIfAbsent_14 rfl ?_
      refine j_callV (q := (RX11, TX11, 8)) dX11_putIfAbsent_15 kX11_valueOf lX11_145 inX11_valueOf seX11_valueOf h1.m rfl (cx_valueOf hl w1 S _ (i1) (k1) h1 R1 (by omega) (by omega)) (Nat.le_of_ble_eq_true rfl) ⟨(Nat.le_of_ble_eq_true rfl), (Nat.le_of_ble_eq_true rfl)⟩ rfl (Nat.le_of_ble_eq_true rfl) rfl rfl (fun _ _ h => h.elim) ?_
      rintro _ _ ⟨rfl, hw489⟩
      refine j_w w1 hw489 ?_
      refine j_istore (lo' := [(4, _), (0, _), (1, _), (2, _), (3, _)]) dX11_putIfAbsent_18 (by decide) rfl ?_
      refine j_iload dX11_putIfAbsent_20 rfl ?_
      refine j_sipush (v := (-1000)) dX11_putIfAbsent_22 (by decide) ?_
      refine j_icmp_ne (tgt := 35) dX11_putIfAbsent_25 (by decide) (fun c_25_20 => ?_) (fun c_25_20 => ?_)
      · refine j_iload dX11_putIfAbsent_35 rfl ?_
        refine j_iret dX11_putIfAbsent_37 rfl rfl ?_ (Nat.le_of_ble_eq_true rfl) (Nat.le_of_ble_eq_true rfl)
        refine cast (congrFun (congrFun hQ9 _) _) ?_
        try rw [ei1]
        try rw [ek1]
        refine ⟨_, _, rfl, (fm1.le (q' := 59) (by decide)), h1, sp_X0 ?_ th1 (by rw [sp_pia, if_neg c_25_20, sp_tb_id]; exact R1) (by rw [sp_pia, if_neg c_25_20]; rfl)⟩
        first | (first | (refine sp_k32_0 ?_ ?_ <;> (first | (with_reducible assumption) | (refine Or.inl ?_; (with_reducible assumption)) | (refine Or.inr ?_; (with_reducible assumption)) | (refine Or.inr (Or.inl ?_); (with_reducible assumption)) | (refine Or.inr (Or.inr ?_); (with_reducible assumption)) | (refine Or.inr (Or.inr (Or.inl ?_)); (with_reducible assumption)) | (refine Or.inr (Or.inr (Or.inr ?_)); (with_reducible assumption)) | (refine fun z => Or.elim z ?_ ?_ <;> (with_reducible assumption)) | (refine fun z => Or.elim z ?_ (fun z => Or.elim z ?_ ?_) <;> (with_reducible assumption)) | (refine fun z => Or.elim z ?_ (fun z => Or.elim z ?_ (fun z => Or.elim z ?_ ?_)) <;> (with_reducible assumption)) | (refine fun z => Or.elim z (fun z9 => z9 ?_) ?_ <;> (first | (with_reducible assumption) | (refine Or.inl ?_; (with_reducible assumption)) | (refine Or.inr (Or.inl ?_); (with_reducible assumption)) | (refine Or.inr (Or.inr ?_); (with_reducible assumption)) | (refine Or.inr (Or.inr (Or.inl ?_)); (with_reducible assumption)) | (refine Or.inr (Or.inr (Or.inr ?_)); (with_reducible assumption)))) | (refine Or.inl (fun z => Or.elim z ?_ (fun z => Or.elim z ?_ ?_)) <;> (with_reducible assumption)) | (refine Or.inl (fun z => Or.elim z ?_ (fun z => Or.elim z ?_ (fun z => Or.elim z ?_ ?_))) <;> (with_reducible assumption))))) | (first | (refine sp_k32_0 ?_ ?_ <;> (first | assumption | (refine Or.inl ?_; assumption) | (refine Or.inr ?_; assumption) | (refine Or.inr (Or.inl ?_); assumption) | (refine Or.inr (Or.inr ?_); assumption) | (refine Or.inr (Or.inr (Or.inl ?_)); assumption) | (refine Or.inr (Or.inr (Or.inr ?_)); assumption) | (refine fun z => Or.elim z ?_ ?_ <;> assumption) | (refine fun z => Or.elim z ?_ (fun z => Or.elim z ?_ ?_) <;> assumption) | (refine fun z => Or.elim z ?_ (fun z => Or.elim z ?_ (fun z => Or.elim z ?_ ?_)) <;> assumption) | (refine fun z => Or.elim z (fun z9 => z9 ?_) ?_ <;> (first | assumption | (refine Or.inl ?_; assumption) | (refine Or.inr (Or.inl ?_); assumption) | (refine Or.inr (Or.inr ?_); assumption) | (refine Or.inr (Or.inr (Or.inl ?_)); assumption) | (refine Or.inr (Or.inr (Or.inr ?_)); assumption))) | (refine Or.inl (fun z => Or.elim z ?_ (fun z => Or.elim z ?_ ?_)) <;> assumption) | (refine Or.inl (fun z => Or.elim z ?_ (fun z => Or.elim z ?_ (fun z => Or.elim z ?_ ?_))) <;> assumption))))
      · refine j_aload_n dX11_putIfAbsent_28 rfl rfl ?_
        refine j_iload_n dX11_putIfAbsent_29 rfl ?_
        refine j_iload_n dX11_putIfAbsent_30 rfl ?_
        refine j_iload_n dX11_putIfAbsent_31 rfl ?_
        refine j_callV (q := (RX11, TX11, 8)) dX11_putIfAbsent_32 kX11_lay lX11_147 inX11_lay seX11_lay h1.m rfl (cx_lay hl w1 S _ (i1) (k1) _ h1 R1 (by omega) (by omega) (ok.2.1 (i1) (by omega))) (Nat.le_of_ble_eq_true rfl) ⟨(Nat.le_of_ble_eq_true rfl), (Nat.le_of_ble_eq_true rfl)⟩ rfl (Nat.le_of_ble_eq_true rfl) rfl rfl (fun _ _ h => h.elim) ?_
        rintro _ w2 ⟨rfl, s2, fm2, h2, R2, th2⟩
        have tx2 := th2.trans th1
        refine j_iload dX11_putIfAbsent_35 rfl ?_
        refine j_iret dX11_putIfAbsent_37 rfl rfl ?_ (Nat.le_of_ble_eq_true rfl) (Nat.le_of_ble_eq_true rfl)
        refine cast (congrFun (congrFun hQ9 _) _) ?_
        try rw [ei1]
        try rw [ek1]
        refine ⟨_, _, rfl, ((fm1.le (q' := 59) (by decide)).tr (fm2.le (q' := 59) (by decide))), h2, sp_X0 ?_ tx2 (by rw [sp_pia, if_pos c_25_20]; exact R2) (by rw [sp_pia, if_pos c_25_20]; exact c_25_20)⟩
        first | (first | (refine sp_k32_0 ?_ ?_ <;> (first | (with_reducible assumption) | (refine Or.inl ?_; (with_reducible assumption)) | (refine Or.inr ?_; (with_reducible assumption)) | (refine Or.inr (Or.inl ?_); (with_reducible assumption)) | (refine Or.inr (Or.inr ?_); (with_reducible assumption)) | (refine Or.inr (Or.inr (Or.inl ?_)); (with_reducible assumption)) | (refine Or.inr (Or.inr (Or.inr ?_)); (with_reducible assumption)) | (refine fun z => Or.elim z ?_ ?_ <;> (with_reducible assumption)) | (refine fun z => Or.elim z ?_ (fun z => Or.elim z ?_ ?_) <;> (with_reducible assumption)) | (refine fun z => Or.elim z ?_ (fun z => Or.elim z ?_ (fun z => Or.elim z ?_ ?_)) <;> (with_reducible assumption)) | (refine fun z => Or.elim z (fun z9 => z9 ?_) ?_ <;> (first | (with_reducible assumption) | (refine Or.inl ?_; (with_reducible assumption)) | (refine Or.inr (Or.inl ?_); (with_reducible assumption)) | (refine Or.inr (Or.inr ?_); (with_reducible assumption)) | (refine Or.inr (Or.inr (Or.inl ?_)); (with_reducible assumption)) | (refine Or.inr (Or.inr (Or.inr ?_)); (with_reducible assumption)))) | (refine Or.inl (fun z => Or.elim z ?_ (fun z => Or.elim z ?_ ?_)) <;> (with_reducible assumption)) | (refine Or.inl (fun z => Or.elim z ?_ (fun z => Or.elim z ?_ (fun z => Or.elim z ?_ ?_))) <;> (with_reducible assumption))))) | (first | (refine sp_k32_0 ?_ ?_ <;> (first | assumption | (refine Or.inl ?_; assumption) | (refine Or.inr ?_; assumption) | (refine Or.inr (Or.inl ?_); assumption) | (refine Or.inr (Or.inr ?_); assumption) | (refine Or.inr (Or.inr (Or.inl ?_)); assumption) | (refine Or.inr (Or.inr (Or.inr ?_)); assumption) | (refine fun z => Or.elim z ?_ ?_ <;> assumption) | (refine fun z => Or.elim z ?_ (fun z => Or.elim z ?_ ?_) <;> assumption) | (refine fun z => Or.elim z ?_ (fun z => Or.elim z ?_ (fun z => Or.elim z ?_ ?_)) <;> assumption) | (refine fun z => Or.elim z (fun z9 => z9 ?_) ?_ <;> (first | assumption | (refine Or.inl ?_; assumption) | (refine Or.inr (Or.inl ?_); assumption) | (refine Or.inr (Or.inr ?_); assumption) | (refine Or.inr (Or.inr (Or.inl ?_)); assumption) | (refine Or.inr (Or.inr (Or.inr ?_)); assumption))) | (refine Or.inl (fun z => Or.elim z ?_ (fun z => Or.elim z ?_ ?_)) <;> assumption) | (refine Or.inl (fun z => Or.elim z ?_ (fun z => Or.elim z ?_ (fun z => Or.elim z ?_ ?_))) <;> assumption))))
    · exact absurd c_7_10 (by decide)
  · refine j_if_eq (tgt := 12) dX11_putIfAbsent_7 (by decide) (fun c_7_43 => ?_) (fun c_7_43 => ?_)
    · exact absurd c_7_43 (by decide)
    · refine j_iconst (v := 0) dX11_putIfAbsent_10 (by decide) ?_
      refine j_iret dX11_putIfAbsent_11 rfl rfl ?_ (Nat.le_of_ble_eq_true rfl) (Nat.le_of_ble_eq_true rfl)
      refine cast (congrFun (congrFun hQ9 _) _) ?_
      refine ⟨_, _, rfl, (fm1.le (q' := 59) (by decide)), h1, sp_X1 (k := 1) ?_ (by decide) th1 R1⟩
      first | (first | (refine sp_k32_1 ?_ <;> (first | (with_reducible assumption) | (refine Or.inl ?_; (with_reducible assumption)) | (refine Or.inr ?_; (with_reducible assumption)) | (refine Or.inr (Or.inl ?_); (with_reducible assumption)) | (refine Or.inr (Or.inr ?_); (with_reducible assumption)) | (refine Or.inr (Or.inr (Or.inl ?_)); (with_reducible assumption)) | (refine Or.inr (Or.inr (Or.inr ?_)); (with_reducible assumption)) | (refine fun z => Or.elim z ?_ ?_ <;> (with_reducible assumption)) | (refine fun z => Or.elim z ?_ (fun z => Or.elim z ?_ ?_) <;> (with_reducible assumption)) | (refine fun z => Or.elim z ?_ (fun z => Or.elim z ?_ (fun z => Or.elim z ?_ ?_)) <;> (with_reducible assumption)) | (refine fun z => Or.elim z (fun z9 => z9 ?_) ?_ <;> (first | (with_reducible assumption) | (refine Or.inl ?_; (with_reducible assumption)) | (refine Or.inr (Or.inl ?_); (with_reducible assumption)) | (refine Or.inr (Or.inr ?_); (with_reducible assumption)) | (refine Or.inr (Or.inr (Or.inl ?_)); (with_reducible assumption)) | (refine Or.inr (Or.inr (Or.inr ?_)); (with_reducible assumption)))) | (refine Or.inl (fun z => Or.elim z ?_ (fun z => Or.elim z ?_ ?_)) <;> (with_reducible assumption)) | (refine Or.inl (fun z => Or.elim z ?_ (fun z => Or.elim z ?_ (fun z => Or.elim z ?_ ?_))) <;> (with_reducible assumption))))) | (first | (refine sp_k32_1 ?_ <;> (first | assumption | (refine Or.inl ?_; assumption) | (refine Or.inr ?_; assumption) | (refine Or.inr (Or.inl ?_); assumption) | (refine Or.inr (Or.inr ?_); assumption) | (refine Or.inr (Or.inr (Or.inl ?_)); assumption) | (refine Or.inr (Or.inr (Or.inr ?_)); assumption) | (refine fun z => Or.elim z ?_ ?_ <;> assumption) | (refine fun z => Or.elim z ?_ (fun z => Or.elim z ?_ ?_) <;> assumption) | (refine fun z => Or.elim z ?_ (fun z => Or.elim z ?_ (fun z => Or.elim z ?_ ?_)) <;> assumption) | (refine fun z => Or.elim z (fun z9 => z9 ?_) ?_ <;> (first | assumption | (refine Or.inl ?_; assumption) | (refine Or.inr (Or.inl ?_); assumption) | (refine Or.inr (Or.inr ?_); assumption) | (refine Or.inr (Or.inr (Or.inl ?_)); assumption) | (refine Or.inr (Or.inr (Or.inr ?_)); assumption))) | (refine Or.inl (fun z => Or.elim z ?_ (fun z => Or.elim z ?_ ?_)) <;> assumption) | (refine Or.inl (fun z => Or.elim z ?_ (fun z => Or.elim z ?_ (fun z => Or.elim z ?_ ?_))) <;> assumption))))
  · refine j_if_eq (tgt := 12) dX11_putIfAbsent_7 (by decide) (fun c_7_50 => ?_) (fun c_7_50 => ?_)
    · exact absurd c_7_50 (by decide)
    · refine j_iconst (v := 0) dX11_putIfAbsent_10 (by decide) ?_
      refine j_iret dX11_putIfAbsent_11 rfl rfl ?_ (Nat.le_of_ble_eq_true rfl) (Nat.le_of_ble_eq_true rfl)
      refine cast (congrFun (congrFun hQ9 _) _) ?_
      refine ⟨_, _, rfl, (fm1.le (q' := 59) (by decide)), h1, sp_X1 (k := 2) ?_ (by decide) th1 R1⟩
      first | (first | (refine sp_k32_2 ?_ ?_ <;> (first | (with_reducible assumption) | (refine Or.inl ?_; (with_reducible assumption)) | (refine Or.inr ?_; (with_reducible assumption)) | (refine Or.inr (Or.inl ?_); (with_reducible assumption)) | (refine Or.inr (Or.inr ?_); (with_reducible assumption)) | (refine Or.inr (Or.inr (Or.inl ?_)); (with_reducible assumption)) | (refine Or.inr (Or.inr (Or.inr ?_)); (with_reducible assumption)) | (refine fun z => Or.elim z ?_ ?_ <;> (with_reducible assumption)) | (refine fun z => Or.elim z ?_ (fun z => Or.elim z ?_ ?_) <;> (with_reducible assumption)) | (refine fun z => Or.elim z ?_ (fun z => Or.elim z ?_ (fun z => Or.elim z ?_ ?_)) <;> (with_reducible assumption)) | (refine fun z => Or.elim z (fun z9 => z9 ?_) ?_ <;> (first | (with_reducible assumption) | (refine Or.inl ?_; (with_reducible assumption)) | (refine Or.inr (Or.inl ?_); (with_reducible assumption)) | (refine Or.inr (Or.inr ?_); (with_reducible assumption)) | (refine Or.inr (Or.inr (Or.inl ?_)); (with_reducible assumption)) | (refine Or.inr (Or.inr (Or.inr ?_)); (with_reducible assumption)))) | (refine Or.inl (fun z => Or.elim z ?_ (fun z => Or.elim z ?_ ?_)) <;> (with_reducible assumption)) | (refine Or.inl (fun z => Or.elim z ?_ (fun z => Or.elim z ?_ (fun z => Or.elim z ?_ ?_))) <;> (with_reducible assumption))))) | (first | (refine sp_k32_2 ?_ ?_ <;> (first | assumption | (refine Or.inl ?_; assumption) | (refine Or.inr ?_; assumption) | (refine Or.inr (Or.inl ?_); assumption) | (refine Or.inr (Or.inr ?_); assumption) | (refine Or.inr (Or.inr (Or.inl ?_)); assumption) | (refine Or.inr (Or.inr (Or.inr ?_)); assumption) | (refine fun z => Or.elim z ?_ ?_ <;> assumption) | (refine fun z => Or.elim z ?_ (fun z => Or.elim z ?_ ?_) <;> assumption) | (refine fun z => Or.elim z ?_ (fun z => Or.elim z ?_ (fun z => Or.elim z ?_ ?_)) <;> assumption) | (refine fun z => Or.elim z (fun z9 => z9 ?_) ?_ <;> (first | assumption | (refine Or.inl ?_; assumption) | (refine Or.inr (Or.inl ?_); assumption) | (refine Or.inr (Or.inr ?_); assumption) | (refine Or.inr (Or.inr (Or.inl ?_)); assumption) | (refine Or.inr (Or.inr (Or.inr ?_)); assumption))) | (refine Or.inl (fun z => Or.elim z ?_ (fun z => Or.elim z ?_ ?_)) <;> assumption) | (refine Or.inl (fun z => Or.elim z ?_ (fun z => Or.elim z ?_ (fun z => Or.elim z ?_ ?_))) <;> assumption))))
set_option maxRecDepth 100000 in
set_option maxHeartbeats 8000000 in
theorem cx_replace (hl : l.stackTraces = false) (w : z_W) (S : sp_S) (s : z_Z) (t : Int32) (k : Int32) (y : Int32) (h : z_mst w s) (R : sp_MR S s) (ok : sp_ok S) : z_Con G l mX11_replace 24 2 52 w [.ref 1000, .int t, .int k, .int y] (fun v w9 => ∃ (r9 : Int32) (s9 : z_Z), v = some (.int r9) ∧ z_fm 59 w w9 ∧ z_mst w9 s9 ∧ s9.1.1 = sp_k32 t (sp_bk k ∨ sp_bv y) ∧ sp_MR (if sp_k32 t (sp_bk k ∨ sp_bv y) = 0 then sp_tb S (sp_i t) (sp_rep (sp_srt (sp_i t)) (sp_T S (sp_i t)) (sp_C S 2) (sp_i k) y) else S) s9 ∧ (sp_k32 t (sp_bk k ∨ sp_bv y) = 0 → r9 = (sp_rep (sp_srt (sp_i t)) (sp_T S (sp_i t)) (sp_C S 2) (sp_i k) y).1.getD (-9))) (fun _ _ => False) := by
  generalize hQ9 : (fun (v : Option Value) (w9 : z_W) => ∃ (r9 : Int32) (s9 : z_Z), v = some (.int r9) ∧ z_fm 59 w w9 ∧ z_mst w9 s9 ∧ s9.1.1 = sp_k32 t (sp_bk k ∨ sp_bv y) ∧ sp_MR (if sp_k32 t (sp_bk k ∨ sp_bv y) = 0 then sp_tb S (sp_i t) (sp_rep (sp_srt (sp_i t)) (sp_T S (sp_i t)) (sp_C S 2) (sp_i k) y) else S) s9 ∧ (sp_k32 t (sp_bk k ∨ sp_bv y) = 0 → r9 = (sp_rep (sp_srt (sp_i t)) (sp_T S (sp_i t)) (sp_C S 2) (sp_i k) y).1.getD (-9))) = Q9
  refine z_body hl (by decide) rfl (Nat.le_of_ble_eq_true rfl) ?_
  show z_J G l mX11_replace _ 0 [(0, _), (1, _), (2, _), (3, _)] [] _ 0 0
  refine j_aload_n dX11_replace_0 rfl rfl ?_
  refine j_iload_n dX11_replace_1 rfl ?_
  refine j_iload_n dX11_replace_2 rfl ?_
  refine j_iload_n dX11_replace_3 rfl ?_
  refine j_callV (q := (RX11, TX11, 8)) dX11_replace_4 kX11_isNoPair lX11_142 inX11_isNoPair seX11_isNoPair h.m rfl (cx_isNoPair hl w S _ _ _ _ h R) (Nat.le_of_ble_eq_true rfl) ⟨(Nat.le_of_ble_eq_true rfl), (Nat.le_of_ble_eq_true rfl)⟩ rfl (Nat.le_of_ble_eq_true rfl) rfl rfl (fun _ _ h => h.elim) ?_
  rintro _ w1 (⟨i1, k1, s1, rfl, hi1, hk1, htt1, hbk1, hbv1, rfl, rfl, fm1, h1, R1, th1⟩ | ⟨s1, rfl, fm1, h1, R1, th1, hno1⟩ | ⟨s1, rfl, fm1, h1, R1, th1, htt1, hP1⟩)
  · have ei1 : sp_i (nI i1) = i1 := sp_in' (by omega)
    have ek1 : sp_i (nI k1) = k1 := sp_in' (by omega)
    refine j_if_eq (tgt := 12) dX11_replace_7 (by decide) (fun c_7_10 => ?_) (fun c_7_10 => ?_)
    · refine j_aload_n dX11_replace_12 rfl rfl ?_
      refine j_iload_n dX11_replace_13 rfl ?_
      refine j_iload_n dX11_replace_14 rfl ?_
      refine j_callV (q := (RX11, TX11, 8)) dX11_replace_15 kX11_valueOf lX11_145 inX11_valueOf seX11_valueOf h1.m rfl (cx_valueOf hl w1 S _ (i1) (k1) h1 R1 (by omega) (by omega)) (Nat.le_of_ble_eq_true rfl) ⟨(Nat.le_of_ble_eq_true rfl), (Nat.le_of_ble_eq_true rfl)⟩ rfl (Nat.le_of_ble_eq_true rfl) rfl rfl (fun _ _ h => h.elim) ?_
      rintro _ _ ⟨rfl, hw490⟩
      refine j_w w1 hw490 ?_
      refine j_istore (lo' := [(4, _), (0, _), (1, _), (2, _), (3, _)]) dX11_replace_18 (by decide) rfl ?_
      refine j_iload dX11_replace_20 rfl ?_
      refine j_sipush (v := (-1000)) dX11_replace_22 (by decide) ?_
      refine j_icmp_eq (tgt := 35) dX11_replace_25 (by decide) (fun c_25_20 => ?_) (fun c_25_20 => ?_)
      · refine j_iload dX11_replace_35 rfl ?_
        refine j_iret dX11_replace_37 rfl rfl ?_ (Nat.le_of_ble_eq_true rfl) (Nat.le_of_ble_eq_true rfl)
        refine cast (congrFun (congrFun hQ9 _) _) ?_
        try rw [ei1]
        try rw [ek1]
        refine ⟨_, _, rfl, (fm1.le (q' := 59) (by decide)), h1, sp_X0 ?_ th1 (by rw [sp_rep, if_pos c_25_20, sp_tb_id]; exact R1) (by rw [sp_rep, if_pos c_25_20]; exact c_25_20)⟩
        first | (first | (refine sp_k32_0 ?_ ?_ <;> (first | (with_reducible assumption) | (refine Or.inl ?_; (with_reducible assumption)) | (refine Or.inr ?_; (with_reducible assumption)) | (refine Or.inr (Or.inl ?_); (with_reducible assumption)) | (refine Or.inr (Or.inr ?_); (with_reducible assumption)) | (refine Or.inr (Or.inr (Or.inl ?_)); (with_reducible assumption)) | (refine Or.inr (Or.inr (Or.inr ?_)); (with_reducible assumption)) | (refine fun z => Or.elim z ?_ ?_ <;> (with_reducible assumption)) | (refine fun z => Or.elim z ?_ (fun z => Or.elim z ?_ ?_) <;> (with_reducible assumption)) | (refine fun z => Or.elim z ?_ (fun z => Or.elim z ?_ (fun z => Or.elim z ?_ ?_)) <;> (with_reducible assumption)) | (refine fun z => Or.elim z (fun z9 => z9 ?_) ?_ <;> (first | (with_reducible assumption) | (refine Or.inl ?_; (with_reducible assumption)) | (refine Or.inr (Or.inl ?_); (with_reducible assumption)) | (refine Or.inr (Or.inr ?_); (with_reducible assumption)) | (refine Or.inr (Or.inr (Or.inl ?_)); (with_reducible assumption)) | (refine Or.inr (Or.inr (Or.inr ?_)); (with_reducible assumption)))) | (refine Or.inl (fun z => Or.elim z ?_ (fun z => Or.elim z ?_ ?_)) <;> (with_reducible assumption)) | (refine Or.inl (fun z => Or.elim z ?_ (fun z => Or.elim z ?_ (fun z => Or.elim z ?_ ?_))) <;> (with_reducible assumption))))) | (first | (refine sp_k32_0 ?_ ?_ <;> (first | assumption | (refine Or.inl ?_; assumption) | (refine Or.inr ?_; assumption) | (refine Or.inr (Or.inl ?_); assumption) | (refine Or.inr (Or.inr ?_); assumption) | (refine Or.inr (Or.inr (Or.inl ?_)); assumption) | (refine Or.inr (Or.inr (Or.inr ?_)); assumption) | (refine fun z => Or.elim z ?_ ?_ <;> assumption) | (refine fun z => Or.elim z ?_ (fun z => Or.elim z ?_ ?_) <;> assumption) | (refine fun z => Or.elim z ?_ (fun z => Or.elim z ?_ (fun z => Or.elim z ?_ ?_)) <;> assumption) | (refine fun z => Or.elim z (fun z9 => z9 ?_) ?_ <;> (first | assumption | (refine Or.inl ?_; assumption) | (refine Or.inr (Or.inl ?_); assumption) | (refine Or.inr (Or.inr ?_); assumption) | (refine Or.inr (Or.inr (Or.inl ?_)); assumption) | (refine Or.inr (Or.inr (Or.inr ?_)); assumption))) | (refine Or.inl (fun z => Or.elim z ?_ (fun z => Or.elim z ?_ ?_)) <;> assumption) | (refine Or.inl (fun z => Or.elim z ?_ (fun z => Or.elim z ?_ (fun z => Or.elim z ?_ ?_))) <;> assumption))))
      · refine j_aload_n dX11_replace_28 rfl rfl ?_
        refine j_iload_n dX11_replace_29 rfl ?_
        refine j_iload_n dX11_replace_30 rfl ?_
        refine j_iload_n dX11_replace_31 rfl ?_
        refine j_callV (q := (RX11, TX11, 8)) dX11_replace_32 kX11_lay lX11_147 inX11_lay seX11_lay h1.m rfl (cx_lay hl w1 S _ (i1) (k1) _ h1 R1 (by omega) (by omega) (ok.2.1 (i1) (by omega))) (Nat.le_of_ble_eq_true rfl) ⟨(Nat.le_of_ble_eq_true rfl), (Nat.le_of_ble_eq_true rfl)⟩ rfl (Nat.le_of_ble_eq_true rfl) rfl rfl (fun _ _ h => h.elim) ?_
        rintro _ w2 ⟨rfl, s2, fm2, h2, R2, th2⟩
        have tx2 := th2.trans th1
        refine j_iload dX11_replace_35 rfl ?_
        refine j_iret dX11_replace_37 rfl rfl ?_ (Nat.le_of_ble_eq_true rfl) (Nat.le_of_ble_eq_true rfl)
        refine cast (congrFun (congrFun hQ9 _) _) ?_
        try rw [ei1]
        try rw [ek1]
        refine ⟨_, _, rfl, ((fm1.le (q' := 59) (by decide)).tr (fm2.le (q' := 59) (by decide))), h2, sp_X0 ?_ tx2 (by rw [sp_rep, if_neg c_25_20]; exact R2) (by rw [sp_rep, if_neg c_25_20]; rfl)⟩
        first | (first | (refine sp_k32_0 ?_ ?_ <;> (first | (with_reducible assumption) | (refine Or.inl ?_; (with_reducible assumption)) | (refine Or.inr ?_; (with_reducible assumption)) | (refine Or.inr (Or.inl ?_); (with_reducible assumption)) | (refine Or.inr (Or.inr ?_); (with_reducible assumption)) | (refine Or.inr (Or.inr (Or.inl ?_)); (with_reducible assumption)) | (refine Or.inr (Or.inr (Or.inr ?_)); (with_reducible assumption)) | (refine fun z => Or.elim z ?_ ?_ <;> (with_reducible assumption)) | (refine fun z => Or.elim z ?_ (fun z => Or.elim z ?_ ?_) <;> (with_reducible assumption)) | (refine fun z => Or.elim z ?_ (fun z => Or.elim z ?_ (fun z => Or.elim z ?_ ?_)) <;> (with_reducible assumption)) | (refine fun z => Or.elim z (fun z9 => z9 ?_) ?_ <;> (first | (with_reducible assumption) | (refine Or.inl ?_; (with_reducible assumption)) | (refine Or.inr (Or.inl ?_); (with_reducible assumption)) | (refine Or.inr (Or.inr ?_); (with_reducible assumption)) | (refine Or.inr (Or.inr (Or.inl ?_)); (with_reducible assumption)) | (refine Or.inr (Or.inr (Or.inr ?_)); (with_reducible assumption)))) | (refine Or.inl (fun z => Or.elim z ?_ (fun z => Or.elim z ?_ ?_)) <;> (with_reducible assumption)) | (refine Or.inl (fun z => Or.elim z ?_ (fun z => Or.elim z ?_ (fun z => Or.elim z ?_ ?_))) <;> (with_reducible assumption))))) | (first | (refine sp_k32_0 ?_ ?_ <;> (first | assumption | (refine Or.inl ?_; assumption) | (refine Or.inr ?_; assumption) | (refine Or.inr (Or.inl ?_); assumption) | (refine Or.inr (Or.inr ?_); assumption) | (refine Or.inr (Or.inr (Or.inl ?_)); assumption) | (refine Or.inr (Or.inr (Or.inr ?_)); assumption) | (refine fun z => Or.elim z ?_ ?_ <;> assumption) | (refine fun z => Or.elim z ?_ (fun z => Or.elim z ?_ ?_) <;> assumption) | (refine fun z => Or.elim z ?_ (fun z => Or.elim z ?_ (fun z => Or.elim z ?_ ?_)) <;> assumption) | (refine fun z => Or.elim z (fun z9 => z9 ?_) ?_ <;> (first | assumption | (refine Or.inl ?_; assumption) | (refine Or.inr (Or.inl ?_); assumption) | (refine Or.inr (Or.inr ?_); assumption) | (refine Or.inr (Or.inr (Or.inl ?_)); assumption) | (refine Or.inr (Or.inr (Or.inr ?_)); assumption))) | (refine Or.inl (fun z => Or.elim z ?_ (fun z => Or.elim z ?_ ?_)) <;> assumption) | (refine Or.inl (fun z => Or.elim z ?_ (fun z => Or.elim z ?_ (fun z => Or.elim z ?_ ?_))) <;> assumption))))
    · exact absurd c_7_10 (by decide)
  · refine j_if_eq (tgt := 12) dX11_replace_7 (by decide) (fun c_7_43 => ?_) (fun c_7_43 => ?_)
    · exact absurd c_7_43 (by decide)
    · refine j_iconst (v := 0) dX11_replace_10 (by decide) ?_
      refine j_iret dX11_replace_11 rfl rfl ?_ (Nat.le_of_ble_eq_true rfl) (Nat.le_of_ble_eq_true rfl)
      refine cast (congrFun (congrFun hQ9 _) _) ?_
      refine ⟨_, _, rfl, (fm1.le (q' := 59) (by decide)), h1, sp_X1 (k := 1) ?_ (by decide) th1 R1⟩
      first | (first | (refine sp_k32_1 ?_ <;> (first | (with_reducible assumption) | (refine Or.inl ?_; (with_reducible assumption)) | (refine Or.inr ?_; (with_reducible assumption)) | (refine Or.inr (Or.inl ?_); (with_reducible assumption)) | (refine Or.inr (Or.inr ?_); (with_reducible assumption)) | (refine Or.inr (Or.inr (Or.inl ?_)); (with_reducible assumption)) | (refine Or.inr (Or.inr (Or.inr ?_)); (with_reducible assumption)) | (refine fun z => Or.elim z ?_ ?_ <;> (with_reducible assumption)) | (refine fun z => Or.elim z ?_ (fun z => Or.elim z ?_ ?_) <;> (with_reducible assumption)) | (refine fun z => Or.elim z ?_ (fun z => Or.elim z ?_ (fun z => Or.elim z ?_ ?_)) <;> (with_reducible assumption)) | (refine fun z => Or.elim z (fun z9 => z9 ?_) ?_ <;> (first | (with_reducible assumption) | (refine Or.inl ?_; (with_reducible assumption)) | (refine Or.inr (Or.inl ?_); (with_reducible assumption)) | (refine Or.inr (Or.inr ?_); (with_reducible assumption)) | (refine Or.inr (Or.inr (Or.inl ?_)); (with_reducible assumption)) | (refine Or.inr (Or.inr (Or.inr ?_)); (with_reducible assumption)))) | (refine Or.inl (fun z => Or.elim z ?_ (fun z => Or.elim z ?_ ?_)) <;> (with_reducible assumption)) | (refine Or.inl (fun z => Or.elim z ?_ (fun z => Or.elim z ?_ (fun z => Or.elim z ?_ ?_))) <;> (with_reducible assumption))))) | (first | (refine sp_k32_1 ?_ <;> (first | assumption | (refine Or.inl ?_; assumption) | (refine Or.inr ?_; assumption) | (refine Or.inr (Or.inl ?_); assumption) | (refine Or.inr (Or.inr ?_); assumption) | (refine Or.inr (Or.inr (Or.inl ?_)); assumption) | (refine Or.inr (Or.inr (Or.inr ?_)); assumption) | (refine fun z => Or.elim z ?_ ?_ <;> assumption) | (refine fun z => Or.elim z ?_ (fun z => Or.elim z ?_ ?_) <;> assumption) | (refine fun z => Or.elim z ?_ (fun z => Or.elim z ?_ (fun z => Or.elim z ?_ ?_)) <;> assumption) | (refine fun z => Or.elim z (fun z9 => z9 ?_) ?_ <;> (first | assumption | (refine Or.inl ?_; assumption) | (refine Or.inr (Or.inl ?_); assumption) | (refine Or.inr (Or.inr ?_); assumption) | (refine Or.inr (Or.inr (Or.inl ?_)); assumption) | (refine Or.inr (Or.inr (Or.inr ?_)); assumption))) | (refine Or.inl (fun z => Or.elim z ?_ (fun z => Or.elim z ?_ ?_)) <;> assumption) | (refine Or.inl (fun z => Or.elim z ?_ (fun z => Or.elim z ?_ (fun z => Or.elim z ?_ ?_))) <;> assumption))))
  · refine j_if_eq (tgt := 12) dX11_replace_7 (by decide) (fun c_7_50 => ?_) (fun c_7_50 => ?_)
    · exact absurd c_7_50 (by decide)
    · refine j_iconst (v := 0) dX11_replace_10 (by decide) ?_
      refine j_iret dX11_replace_11 rfl rfl ?_ (Nat.le_of_ble_eq_true rfl) (Nat.le_of_ble_eq_true rfl)
      refine cast (congrFun (congrFun hQ9 _) _) ?_
      refine ⟨_, _, rfl, (fm1.le (q' := 59) (by decide)), h1, sp_X1 (k := 2) ?_ (by decide) th1 R1⟩
      first | (first | (refine sp_k32_2 ?_ ?_ <;> (first | (with_reducible assumption) | (refine Or.inl ?_; (with_reducible assumption)) | (refine Or.inr ?_; (with_reducible assumption)) | (refine Or.inr (Or.inl ?_); (with_reducible assumption)) | (refine Or.inr (Or.inr ?_); (with_reducible assumption)) | (refine Or.inr (Or.inr (Or.inl ?_)); (with_reducible assumption)) | (refine Or.inr (Or.inr (Or.inr ?_)); (with_reducible assumption)) | (refine fun z => Or.elim z ?_ ?_ <;> (with_reducible assumption)) | (refine fun z => Or.elim z ?_ (fun z => Or.elim z ?_ ?_) <;> (with_reducible assumption)) | (refine fun z => Or.elim z ?_ (fun z => Or.elim z ?_ (fun z => Or.elim z ?_ ?_)) <;> (with_reducible assumption)) | (refine fun z => Or.elim z (fun z9 => z9 ?_) ?_ <;> (first | (with_reducible assumption) | (refine Or.inl ?_; (with_reducible assumption)) | (refine Or.inr (Or.inl ?_); (with_reducible assumption)) | (refine Or.inr (Or.inr ?_); (with_reducible assumption)) | (refine Or.inr (Or.inr (Or.inl ?_)); (with_reducible assumption)) | (refine Or.inr (Or.inr (Or.inr ?_)); (with_reducible assumption)))) | (refine Or.inl (fun z => Or.elim z ?_ (fun z => Or.elim z ?_ ?_)) <;> (with_reducible assumption)) | (refine Or.inl (fun z => Or.elim z ?_ (fun z => Or.elim z ?_ (fun z => Or.elim z ?_ ?_))) <;> (with_reducible assumption))))) | (first | (refine sp_k32_2 ?_ ?_ <;> (first | assumption | (refine Or.inl ?_; assumption) | (refine Or.inr ?_; assumption) | (refine Or.inr (Or.inl ?_); assumption) | (refine Or.inr (Or.inr ?_); assumption) | (refine Or.inr (Or.inr (Or.inl ?_)); assumption) | (refine Or.inr (Or.inr (Or.inr ?_)); assumption) | (refine fun z => Or.elim z ?_ ?_ <;> assumption) | (refine fun z => Or.elim z ?_ (fun z => Or.elim z ?_ ?_) <;> assumption) | (refine fun z => Or.elim z ?_ (fun z => Or.elim z ?_ (fun z => Or.elim z ?_ ?_)) <;> assumption) | (refine fun z => Or.elim z (fun z9 => z9 ?_) ?_ <;> (first | assumption | (refine Or.inl ?_; assumption) | (refine Or.inr (Or.inl ?_); assumption) | (refine Or.inr (Or.inr ?_); assumption) | (refine Or.inr (Or.inr (Or.inl ?_)); assumption) | (refine Or.inr (Or.inr (Or.inr ?_)); assumption))) | (refine Or.inl (fun z => Or.elim z ?_ (fun z => Or.elim z ?_ ?_)) <;> assumption) | (refine Or.inl (fun z => Or.elim z ?_ (fun z => Or.elim z ?_ (fun z => Or.elim z ?_ ?_))) <;> assumption))))
set_option maxRecDepth 100000 in
set_option maxHeartbeats 8000000 in
theorem cx_replaceIf (hl : l.stackTraces = false) (w : z_W) (S : sp_S) (s : z_Z) (t : Int32) (k : Int32) (o : Int32) (y : Int32) (h : z_mst w s) (R : sp_MR S s) (ok : sp_ok S) : z_Con G l mX11_replaceIf 24 2 52 w [.ref 1000, .int t, .int k, .int o, .int y] (fun v w9 => ∃ (r9 : Int32) (s9 : z_Z), v = some (.int r9) ∧ z_fm 59 w w9 ∧ z_mst w9 s9 ∧ s9.1.1 = sp_k32 t (sp_bk k ∨ sp_bv o ∨ sp_bv y) ∧ sp_MR (if sp_k32 t (sp_bk k ∨ sp_bv o ∨ sp_bv y) = 0 then sp_tb S (sp_i t) (sp_rif (sp_srt (sp_i t)) (sp_T S (sp_i t)) (sp_C S 2) (sp_i k) o y) else S) s9 ∧ (sp_k32 t (sp_bk k ∨ sp_bv o ∨ sp_bv y) = 0 → r9 = (sp_rif (sp_srt (sp_i t)) (sp_T S (sp_i t)) (sp_C S 2) (sp_i k) o y).1.getD (-9))) (fun _ _ => False) := by
  generalize hQ9 : (fun (v : Option Value) (w9 : z_W) => ∃ (r9 : Int32) (s9 : z_Z), v = some (.int r9) ∧ z_fm 59 w w9 ∧ z_mst w9 s9 ∧ s9.1.1 = sp_k32 t (sp_bk k ∨ sp_bv o ∨ sp_bv y) ∧ sp_MR (if sp_k32 t (sp_bk k ∨ sp_bv o ∨ sp_bv y) = 0 then sp_tb S (sp_i t) (sp_rif (sp_srt (sp_i t)) (sp_T S (sp_i t)) (sp_C S 2) (sp_i k) o y) else S) s9 ∧ (sp_k32 t (sp_bk k ∨ sp_bv o ∨ sp_bv y) = 0 → r9 = (sp_rif (sp_srt (sp_i t)) (sp_T S (sp_i t)) (sp_C S 2) (sp_i k) o y).1.getD (-9))) = Q9
  refine z_body hl (by decide) rfl (Nat.le_of_ble_eq_true rfl) ?_
  show z_J G l mX11_replaceIf _ 0 [(0, _), (1, _), (2, _), (3, _), (4, _)] [] _ 0 0
  refine j_aload_n dX11_replaceIf_0 rfl rfl ?_
  refine j_iload_n dX11_replaceIf_1 rfl ?_
  refine j_iload_n dX11_replaceIf_2 rfl ?_
  refine j_iload_n dX11_replaceIf_3 rfl ?_
  refine j_callV (q := (RX11, TX11, 8)) dX11_replaceIf_4 kX11_isNoPair lX11_142 inX11_isNoPair seX11_isNoPair h.m rfl (cx_isNoPair hl w S _ _ _ _ h R) (Nat.le_of_ble_eq_true rfl) ⟨(Nat.le_of_ble_eq_true rfl), (Nat.le_of_ble_eq_true rfl)⟩ rfl (Nat.le_of_ble_eq_true rfl) rfl rfl (fun _ _ h => h.elim) ?_
  rintro _ w1 (⟨i1, k1, s1, rfl, hi1, hk1, htt1, hbk1, hbv1, rfl, rfl, fm1, h1, R1, th1⟩ | ⟨s1, rfl, fm1, h1, R1, th1, hno1⟩ | ⟨s1, rfl, fm1, h1, R1, th1, htt1, hP1⟩)
  · have ei1 : sp_i (nI i1) = i1 := sp_in' (by omega)
    have ek1 : sp_i (nI k1) = k1 := sp_in' (by omega)
    refine j_if_ne (tgt := 23) dX11_replaceIf_7 (by decide) (fun c_7_10 => ?_) (fun c_7_10 => ?_)
    · exact absurd c_7_10 (by decide)
    · refine j_aload_n dX11_replaceIf_10 rfl rfl ?_
      refine j_iload dX11_replaceIf_11 rfl ?_
      refine j_callS dX11_replaceIf_13 kX11_isNoValue lX11_79 stX11_isNoValue (cm_isNoValue_r hl w1 _) (Nat.le_of_ble_eq_true rfl) ⟨(Nat.le_of_ble_eq_true rfl), (Nat.le_of_ble_eq_true rfl)⟩ rfl (Nat.le_of_ble_eq_true rfl) rfl rfl (fun _ _ h => h.elim) ?_
      rintro _ _ ⟨⟨rfl, hno491⟩ | ⟨rfl, hye491⟩, hw491⟩
      · refine j_w w1 hw491 ?_
        refine j_iconst (v := 2) dX11_replaceIf_16 (by decide) ?_
        refine j_callV (q := (RX11, TX11, 8)) dX11_replaceIf_17 kX11_refuse lX11_52 inX11_refuse seX11_refuse h1.m rfl (cm_refuse1 hl w1 _ _ h1 th1 (by decide)) (Nat.le_of_ble_eq_true rfl) ⟨(Nat.le_of_ble_eq_true rfl), (Nat.le_of_ble_eq_true rfl)⟩ rfl (Nat.le_of_ble_eq_true rfl) rfl rfl (fun _ _ h => h.elim) ?_
        rintro _ w2 ⟨rfl, fm2, h2⟩
        have R2 := R1.th (k := 2)
        refine j_if_eq (tgt := 25) dX11_replaceIf_20 (by decide) (fun c_20_21 => ?_) (fun c_20_21 => ?_)
        · exact absurd c_20_21 (by decide)
        · refine j_iconst (v := 0) dX11_replaceIf_23 (by decide) ?_
          refine j_iret dX11_replaceIf_24 rfl rfl ?_ (Nat.le_of_ble_eq_true rfl) (Nat.le_of_ble_eq_true rfl)
          refine cast (congrFun (congrFun hQ9 _) _) ?_
          try rw [ei1]
          try rw [ek1]
          refine ⟨_, _, rfl, ((fm1.le (q' := 59) (by decide)).tr (fm2.le (q' := 59) (by decide))), h2, sp_X1 (k := 2) ?_ (by decide) rfl R2⟩
          first | (first | (refine sp_k32_2 ?_ ?_ <;> (first | (with_reducible assumption) | (refine Or.inl ?_; (with_reducible assumption)) | (refine Or.inr ?_; (with_reducible assumption)) | (refine Or.inr (Or.inl ?_); (with_reducible assumption)) | (refine Or.inr (Or.inr ?_); (with_reducible assumption)) | (refine Or.inr (Or.inr (Or.inl ?_)); (with_reducible assumption)) | (refine Or.inr (Or.inr (Or.inr ?_)); (with_reducible assumption)) | (refine fun z => Or.elim z ?_ ?_ <;> (with_reducible assumption)) | (refine fun z => Or.elim z ?_ (fun z => Or.elim z ?_ ?_) <;> (with_reducible assumption)) | (refine fun z => Or.elim z ?_ (fun z => Or.elim z ?_ (fun z => Or.elim z ?_ ?_)) <;> (with_reducible assumption)) | (refine fun z => Or.elim z (fun z9 => z9 ?_) ?_ <;> (first | (with_reducible assumption) | (refine Or.inl ?_; (with_reducible assumption)) | (refine Or.inr (Or.inl ?_); (with_reducible assumption)) | (refine Or.inr (Or.inr ?_); (with_reducible assumption)) | (refine Or.inr (Or.inr (Or.inl ?_)); (with_reducible assumption)) | (refine Or.inr (Or.inr (Or.inr ?_)); (with_reducible assumption)))) | (refine Or.inl (fun z => Or.elim z ?_ (fun z => Or.elim z ?_ ?_)) <;> (with_reducible assumption)) | (refine Or.inl (fun z => Or.elim z ?_ (fun z => Or.elim z ?_ (fun z => Or.elim z ?_ ?_))) <;> (with_reducible assumption))))) | (first | (refine sp_k32_2 ?_ ?_ <;> (first | assumption | (refine Or.inl ?_; assumption) | (refine Or.inr ?_; assumption) | (refine Or.inr (Or.inl ?_); assumption) | (refine Or.inr (Or.inr ?_); assumption) | (refine Or.inr (Or.inr (Or.inl ?_)); assumption) | (refine Or.inr (Or.inr (Or.inr ?_)); assumption) | (refine fun z => Or.elim z ?_ ?_ <;> assumption) | (refine fun z => Or.elim z ?_ (fun z => Or.elim z ?_ ?_) <;> assumption) | (refine fun z => Or.elim z ?_ (fun z => Or.elim z ?_ (fun z => Or.elim z ?_ ?_)) <;> assumption) | (refine fun z => Or.elim z (fun z9 => z9 ?_) ?_ <;> (first | assumption | (refine Or.inl ?_; assumption) | (refine Or.inr (Or.inl ?_); assumption) | (refine Or.inr (Or.inr ?_); assumption) | (refine Or.inr (Or.inr (Or.inl ?_)); assumption) | (refine Or.inr (Or.inr (Or.inr ?_)); assumption))) | (refine Or.inl (fun z => Or.elim z ?_ (fun z => Or.elim z ?_ ?_)) <;> assumption) | (refine Or.inl (fun z => Or.elim z ?_ (fun z => Or.elim z ?_ (fun z => Or.elim z ?_ ?_))) <;> assumption))))
      · refine j_w w1 hw491 ?_
        refine j_iconst (v := 2) dX11_replaceIf_16 (by decide) ?_
        refine j_callV (q := (RX11, TX11, 8)) dX11_replaceIf_17 kX11_refuse lX11_52 inX11_refuse seX11_refuse h1.m rfl (cm_refuse0 hl w1 _ _ h1 th1) (Nat.le_of_ble_eq_true rfl) ⟨(Nat.le_of_ble_eq_true rfl), (Nat.le_of_ble_eq_true rfl)⟩ rfl (Nat.le_of_ble_eq_true rfl) rfl rfl (fun _ _ h => h.elim) ?_
        rintro _ _ ⟨rfl, hw492⟩
        refine j_w w1 hw492 ?_
        refine j_if_eq (tgt := 25) dX11_replaceIf_20 (by decide) (fun c_20_35 => ?_) (fun c_20_35 => ?_)
        · refine j_aload_n dX11_replaceIf_25 rfl rfl ?_
          refine j_iload_n dX11_replaceIf_26 rfl ?_
          refine j_iload_n dX11_replaceIf_27 rfl ?_
          refine j_callV (q := (RX11, TX11, 8)) dX11_replaceIf_28 kX11_valueOf lX11_145 inX11_valueOf seX11_valueOf h1.m rfl (cx_valueOf hl w1 S _ (i1) (k1) h1 R1 (by omega) (by omega)) (Nat.le_of_ble_eq_true rfl) ⟨(Nat.le_of_ble_eq_true rfl), (Nat.le_of_ble_eq_true rfl)⟩ rfl (Nat.le_of_ble_eq_true rfl) rfl rfl (fun _ _ h => h.elim) ?_
          rintro _ _ ⟨rfl, hw493⟩
          refine j_w w1 hw493 ?_
          refine j_iload_n dX11_replaceIf_31 rfl ?_
          refine j_icmp_ne (tgt := 39) dX11_replaceIf_32 (by decide) (fun c_32_43 => ?_) (fun c_32_43 => ?_)
          · refine j_iconst (v := 0) dX11_replaceIf_39 (by decide) ?_
            refine j_istore (lo' := [(5, _), (0, _), (1, _), (2, _), (3, _), (4, _)]) dX11_replaceIf_40 (by decide) rfl ?_
            refine j_iload dX11_replaceIf_42 rfl ?_
            refine j_if_eq (tgt := 55) dX11_replaceIf_44 (by decide) (fun c_44_47 => ?_) (fun c_44_47 => ?_)
            · refine j_iload dX11_replaceIf_55 rfl ?_
              refine j_iret dX11_replaceIf_57 rfl rfl ?_ (Nat.le_of_ble_eq_true rfl) (Nat.le_of_ble_eq_true rfl)
              refine cast (congrFun (congrFun hQ9 _) _) ?_
              try rw [ei1]
              try rw [ek1]
              refine ⟨_, _, rfl, (fm1.le (q' := 59) (by decide)), h1, sp_X0 ?_ th1 (by rw [sp_rif, if_neg c_32_43, sp_tb_id]; exact R1) (by rw [sp_rif, if_neg c_32_43]; rfl)⟩
              first | (first | (refine sp_k32_0 ?_ ?_ <;> (first | (with_reducible assumption) | (refine Or.inl ?_; (with_reducible assumption)) | (refine Or.inr ?_; (with_reducible assumption)) | (refine Or.inr (Or.inl ?_); (with_reducible assumption)) | (refine Or.inr (Or.inr ?_); (with_reducible assumption)) | (refine Or.inr (Or.inr (Or.inl ?_)); (with_reducible assumption)) | (refine Or.inr (Or.inr (Or.inr ?_)); (with_reducible assumption)) | (refine fun z => Or.elim z ?_ ?_ <;> (with_reducible assumption)) | (refine fun z => Or.elim z ?_ (fun z => Or.elim z ?_ ?_) <;> (with_reducible assumption)) | (refine fun z => Or.elim z ?_ (fun z => Or.elim z ?_ (fun z => Or.elim z ?_ ?_)) <;> (with_reducible assumption)) | (refine fun z => Or.elim z (fun z9 => z9 ?_) ?_ <;> (first | (with_reducible assumption) | (refine Or.inl ?_; (with_reducible assumption)) | (refine Or.inr (Or.inl ?_); (with_reducible assumption)) | (refine Or.inr (Or.inr ?_); (with_reducible assumption)) | (refine Or.inr (Or.inr (Or.inl ?_)); (with_reducible assumption)) | (refine Or.inr (Or.inr (Or.inr ?_)); (with_reducible assumption)))) | (refine Or.inl (fun z => Or.elim z ?_ (fun z => Or.elim z ?_ ?_)) <;> (with_reducible assumption)) | (refine Or.inl (fun z => Or.elim z ?_ (fun z => Or.elim z ?_ (fun z => Or.elim z ?_ ?_))) <;> (with_reducible assumption))))) | (first | (refine sp_k32_0 ?_ ?_ <;> (first | assumption | (refine Or.inl ?_; assumption) | (refine Or.inr ?_; assumption) | (refine Or.inr (Or.inl ?_); assumption) | (refine Or.inr (Or.inr ?_); assumption) | (refine Or.inr (Or.inr (Or.inl ?_)); assumption) | (refine Or.inr (Or.inr (Or.inr ?_)); assumption) | (refine fun z => Or.elim z ?_ ?_ <;> assumption) | (refine fun z => Or.elim z ?_ (fun z => Or.elim z ?_ ?_) <;> assumption) | (refine fun z => Or.elim z ?_ (fun z => Or.elim z ?_ (fun z => Or.elim z ?_ ?_)) <;> assumption) | (refine fun z => Or.elim z (fun z9 => z9 ?_) ?_ <;> (first | assumption | (refine Or.inl ?_; assumption) | (refine Or.inr (Or.inl ?_); assumption) | (refine Or.inr (Or.inr ?_); assumption) | (refine Or.inr (Or.inr (Or.inl ?_)); assumption) | (refine Or.inr (Or.inr (Or.inr ?_)); assumption))) | (refine Or.inl (fun z => Or.elim z ?_ (fun z => Or.elim z ?_ ?_)) <;> assumption) | (refine Or.inl (fun z => Or.elim z ?_ (fun z => Or.elim z ?_ (fun z => Or.elim z ?_ ?_))) <;> assumption))))
            · exact absurd c_44_47 (by decide)
          · refine j_iconst (v := 1) dX11_replaceIf_35 (by decide) ?_
            refine j_goto (tgt := 40) dX11_replaceIf_36 (by decide) ?_
            refine j_istore (lo' := [(5, _), (0, _), (1, _), (2, _), (3, _), (4, _)]) dX11_replaceIf_40 (by decide) rfl ?_
            refine j_iload dX11_replaceIf_42 rfl ?_
            refine j_if_eq (tgt := 55) dX11_replaceIf_44 (by decide) (fun c_44_60 => ?_) (fun c_44_60 => ?_)
            · exact absurd c_44_60 (by decide)
            · refine j_aload_n dX11_replaceIf_47 rfl rfl ?_
              refine j_iload_n dX11_replaceIf_48 rfl ?_
              refine j_iload_n dX11_replaceIf_49 rfl ?_
              refine j_iload dX11_replaceIf_50 rfl ?_
              refine j_callV (q := (RX11, TX11, 8)) dX11_replaceIf_52 kX11_lay lX11_147 inX11_lay seX11_lay h1.m rfl (cx_lay hl w1 S _ (i1) (k1) _ h1 R1 (by omega) (by omega) (ok.2.1 (i1) (by omega))) (Nat.le_of_ble_eq_true rfl) ⟨(Nat.le_of_ble_eq_true rfl), (Nat.le_of_ble_eq_true rfl)⟩ rfl (Nat.le_of_ble_eq_true rfl) rfl rfl (fun _ _ h => h.elim) ?_
              rintro _ w3 ⟨rfl, s3, fm3, h3, R3, th3⟩
              have tx3 := th3.trans th1
              refine j_iload dX11_replaceIf_55 rfl ?_
              refine j_iret dX11_replaceIf_57 rfl rfl ?_ (Nat.le_of_ble_eq_true rfl) (Nat.le_of_ble_eq_true rfl)
              refine cast (congrFun (congrFun hQ9 _) _) ?_
              try rw [ei1]
              try rw [ek1]
              refine ⟨_, _, rfl, ((fm1.le (q' := 59) (by decide)).tr (fm3.le (q' := 59) (by decide))), h3, sp_X0 ?_ tx3 (by rw [sp_rif, if_pos c_32_43]; exact R3) (by rw [sp_rif, if_pos c_32_43]; rfl)⟩
              first | (first | (refine sp_k32_0 ?_ ?_ <;> (first | (with_reducible assumption) | (refine Or.inl ?_; (with_reducible assumption)) | (refine Or.inr ?_; (with_reducible assumption)) | (refine Or.inr (Or.inl ?_); (with_reducible assumption)) | (refine Or.inr (Or.inr ?_); (with_reducible assumption)) | (refine Or.inr (Or.inr (Or.inl ?_)); (with_reducible assumption)) | (refine Or.inr (Or.inr (Or.inr ?_)); (with_reducible assumption)) | (refine fun z => Or.elim z ?_ ?_ <;> (with_reducible assumption)) | (refine fun z => Or.elim z ?_ (fun z => Or.elim z ?_ ?_) <;> (with_reducible assumption)) | (refine fun z => Or.elim z ?_ (fun z => Or.elim z ?_ (fun z => Or.elim z ?_ ?_)) <;> (with_reducible assumption)) | (refine fun z => Or.elim z (fun z9 => z9 ?_) ?_ <;> (first | (with_reducible assumption) | (refine Or.inl ?_; (with_reducible assumption)) | (refine Or.inr (Or.inl ?_); (with_reducible assumption)) | (refine Or.inr (Or.inr ?_); (with_reducible assumption)) | (refine Or.inr (Or.inr (Or.inl ?_)); (with_reducible assumption)) | (refine Or.inr (Or.inr (Or.inr ?_)); (with_reducible assumption)))) | (refine Or.inl (fun z => Or.elim z ?_ (fun z => Or.elim z ?_ ?_)) <;> (with_reducible assumption)) | (refine Or.inl (fun z => Or.elim z ?_ (fun z => Or.elim z ?_ (fun z => Or.elim z ?_ ?_))) <;> (with_reducible assumption))))) | (first | (refine sp_k32_0 ?_ ?_ <;> (first | assumption | (refine Or.inl ?_; assumption) | (refine Or.inr ?_; assumption) | (refine Or.inr (Or.inl ?_); assumption) | (refine Or.inr (Or.inr ?_); assumption) | (refine Or.inr (Or.inr (Or.inl ?_)); assumption) | (refine Or.inr (Or.inr (Or.inr ?_)); assumption) | (refine fun z => Or.elim z ?_ ?_ <;> assumption) | (refine fun z => Or.elim z ?_ (fun z => Or.elim z ?_ ?_) <;> assumption) | (refine fun z => Or.elim z ?_ (fun z => Or.elim z ?_ (fun z => Or.elim z ?_ ?_)) <;> assumption) | (refine fun z => Or.elim z (fun z9 => z9 ?_) ?_ <;> (first | assumption | (refine Or.inl ?_; assumption) | (refine Or.inr (Or.inl ?_); assumption) | (refine Or.inr (Or.inr ?_); assumption) | (refine Or.inr (Or.inr (Or.inl ?_)); assumption) | (refine Or.inr (Or.inr (Or.inr ?_)); assumption))) | (refine Or.inl (fun z => Or.elim z ?_ (fun z => Or.elim z ?_ ?_)) <;> assumption) | (refine Or.inl (fun z => Or.elim z ?_ (fun z => Or.elim z ?_ (fun z => Or.elim z ?_ ?_))) <;> assumption))))
        · exact absurd c_20_35 (by decide)
  · refine j_if_ne (tgt := 23) dX11_replaceIf_7 (by decide) (fun c_7_77 => ?_) (fun c_7_77 => ?_)
    · refine j_iconst (v := 0) dX11_replaceIf_23 (by decide) ?_
      refine j_iret dX11_replaceIf_24 rfl rfl ?_ (Nat.le_of_ble_eq_true rfl) (Nat.le_of_ble_eq_true rfl)
      refine cast (congrFun (congrFun hQ9 _) _) ?_
      refine ⟨_, _, rfl, (fm1.le (q' := 59) (by decide)), h1, sp_X1 (k := 1) ?_ (by decide) th1 R1⟩
      first | (first | (refine sp_k32_1 ?_ <;> (first | (with_reducible assumption) | (refine Or.inl ?_; (with_reducible assumption)) | (refine Or.inr ?_; (with_reducible assumption)) | (refine Or.inr (Or.inl ?_); (with_reducible assumption)) | (refine Or.inr (Or.inr ?_); (with_reducible assumption)) | (refine Or.inr (Or.inr (Or.inl ?_)); (with_reducible assumption)) | (refine Or.inr (Or.inr (Or.inr ?_)); (with_reducible assumption)) | (refine fun z => Or.elim z ?_ ?_ <;> (with_reducible assumption)) | (refine fun z => Or.elim z ?_ (fun z => Or.elim z ?_ ?_) <;> (with_reducible assumption)) | (refine fun z => Or.elim z ?_ (fun z => Or.elim z ?_ (fun z => Or.elim z ?_ ?_)) <;> (with_reducible assumption)) | (refine fun z => Or.elim z (fun z9 => z9 ?_) ?_ <;> (first | (with_reducible assumption) | (refine Or.inl ?_; (with_reducible assumption)) | (refine Or.inr (Or.inl ?_); (with_reducible assumption)) | (refine Or.inr (Or.inr ?_); (with_reducible assumption)) | (refine Or.inr (Or.inr (Or.inl ?_)); (with_reducible assumption)) | (refine Or.inr (Or.inr (Or.inr ?_)); (with_reducible assumption)))) | (refine Or.inl (fun z => Or.elim z ?_ (fun z => Or.elim z ?_ ?_)) <;> (with_reducible assumption)) | (refine Or.inl (fun z => Or.elim z ?_ (fun z => Or.elim z ?_ (fun z => Or.elim z ?_ ?_))) <;> (with_reducible assumption))))) | (first | (refine sp_k32_1 ?_ <;> (first | assumption | (refine Or.inl ?_; assumption) | (refine Or.inr ?_; assumption) | (refine Or.inr (Or.inl ?_); assumption) | (refine Or.inr (Or.inr ?_); assumption) | (refine Or.inr (Or.inr (Or.inl ?_)); assumption) | (refine Or.inr (Or.inr (Or.inr ?_)); assumption) | (refine fun z => Or.elim z ?_ ?_ <;> assumption) | (refine fun z => Or.elim z ?_ (fun z => Or.elim z ?_ ?_) <;> assumption) | (refine fun z => Or.elim z ?_ (fun z => Or.elim z ?_ (fun z => Or.elim z ?_ ?_)) <;> assumption) | (refine fun z => Or.elim z (fun z9 => z9 ?_) ?_ <;> (first | assumption | (refine Or.inl ?_; assumption) | (refine Or.inr (Or.inl ?_); assumption) | (refine Or.inr (Or.inr ?_); assumption) | (refine Or.inr (Or.inr (Or.inl ?_)); assumption) | (refine Or.inr (Or.inr (Or.inr ?_)); assumption))) | (refine Or.inl (fun z => Or.elim z ?_ (fun z => Or.elim z ?_ ?_)) <;> assumption) | (refine Or.inl (fun z => Or.elim z ?_ (fun z => Or.elim z ?_ (fun z => Or.elim z ?_ ?_))) <;> assumption))))
    · exact absurd c_7_77 (by decide)
  · have hP9 : sp_bk k ∨ sp_bv o ∨ sp_bv y := hP1.elim Or.inl (fun z9 => Or.inr (Or.inl z9))
    refine j_if_ne (tgt := 23) dX11_replaceIf_7 (by decide) (fun c_7_85 => ?_) (fun c_7_85 => ?_)
    · refine j_iconst (v := 0) dX11_replaceIf_23 (by decide) ?_
      refine j_iret dX11_replaceIf_24 rfl rfl ?_ (Nat.le_of_ble_eq_true rfl) (Nat.le_of_ble_eq_true rfl)
      refine cast (congrFun (congrFun hQ9 _) _) ?_
      refine ⟨_, _, rfl, (fm1.le (q' := 59) (by decide)), h1, sp_X1 (k := 2) ?_ (by decide) th1 R1⟩
      first | (first | (refine sp_k32_2 ?_ ?_ <;> (first | (with_reducible assumption) | (refine Or.inl ?_; (with_reducible assumption)) | (refine Or.inr ?_; (with_reducible assumption)) | (refine Or.inr (Or.inl ?_); (with_reducible assumption)) | (refine Or.inr (Or.inr ?_); (with_reducible assumption)) | (refine Or.inr (Or.inr (Or.inl ?_)); (with_reducible assumption)) | (refine Or.inr (Or.inr (Or.inr ?_)); (with_reducible assumption)) | (refine fun z => Or.elim z ?_ ?_ <;> (with_reducible assumption)) | (refine fun z => Or.elim z ?_ (fun z => Or.elim z ?_ ?_) <;> (with_reducible assumption)) | (refine fun z => Or.elim z ?_ (fun z => Or.elim z ?_ (fun z => Or.elim z ?_ ?_)) <;> (with_reducible assumption)) | (refine fun z => Or.elim z (fun z9 => z9 ?_) ?_ <;> (first | (with_reducible assumption) | (refine Or.inl ?_; (with_reducible assumption)) | (refine Or.inr (Or.inl ?_); (with_reducible assumption)) | (refine Or.inr (Or.inr ?_); (with_reducible assumption)) | (refine Or.inr (Or.inr (Or.inl ?_)); (with_reducible assumption)) | (refine Or.inr (Or.inr (Or.inr ?_)); (with_reducible assumption)))) | (refine Or.inl (fun z => Or.elim z ?_ (fun z => Or.elim z ?_ ?_)) <;> (with_reducible assumption)) | (refine Or.inl (fun z => Or.elim z ?_ (fun z => Or.elim z ?_ (fun z => Or.elim z ?_ ?_))) <;> (with_reducible assumption))))) | (first | (refine sp_k32_2 ?_ ?_ <;> (first | assumption | (refine Or.inl ?_; assumption) | (refine Or.inr ?_; assumption) | (refine Or.inr (Or.inl ?_); assumption) | (refine Or.inr (Or.inr ?_); assumption) | (refine Or.inr (Or.inr (Or.inl ?_)); assumption) | (refine Or.inr (Or.inr (Or.inr ?_)); assumption) | (refine fun z => Or.elim z ?_ ?_ <;> assumption) | (refine fun z => Or.elim z ?_ (fun z => Or.elim z ?_ ?_) <;> assumption) | (refine fun z => Or.elim z ?_ (fun z => Or.elim z ?_ (fun z => Or.elim z ?_ ?_)) <;> assumption) | (refine fun z => Or.elim z (fun z9 => z9 ?_) ?_ <;> (first | assumption | (refine Or.inl ?_; assumption) | (refine Or.inr (Or.inl ?_); assumption) | (refine Or.inr (Or.inr ?_); assumption) | (refine Or.inr (Or.inr (Or.inl ?_)); assumption) | (refine Or.inr (Or.inr (Or.inr ?_)); assumption))) | (refine Or.inl (fun z => Or.elim z ?_ (fun z => Or.elim z ?_ ?_)) <;> assumption) | (refine Or.inl (fun z => Or.elim z ?_ (fun z => Or.elim z ?_ (fun z => Or.elim z ?_ ?_))) <;> assumption))))
    · exact absurd c_7_85 (by decide)
set_option maxRecDepth 100000 in
set_option maxHeartbeats 8000000 in
theorem cx_removePair (hl : l.stackTraces = false) (w : z_W) (S : sp_S) (s : z_Z) (t : Int32) (k : Int32) (y : Int32) (h : z_mst w s) (R : sp_MR S s) (ok : sp_ok S) : z_Con G l mX11_removePair 24 2 52 w [.ref 1000, .int t, .int k, .int y] (fun v w9 => ∃ (r9 : Int32) (s9 : z_Z), v = some (.int r9) ∧ z_fm 59 w w9 ∧ z_mst w9 s9 ∧ s9.1.1 = sp_k32 t (sp_bk k ∨ sp_bv y) ∧ sp_MR (if sp_k32 t (sp_bk k ∨ sp_bv y) = 0 then sp_tb S (sp_i t) (sp_rmp (sp_T S (sp_i t)) (sp_C S 2) (sp_i k) y) else S) s9 ∧ (sp_k32 t (sp_bk k ∨ sp_bv y) = 0 → r9 = (sp_rmp (sp_T S (sp_i t)) (sp_C S 2) (sp_i k) y).1.getD (-9))) (fun _ _ => False) := by
  generalize hQ9 : (fun (v : Option Value) (w9 : z_W) => ∃ (r9 : Int32) (s9 : z_Z), v = some (.int r9) ∧ z_fm 59 w w9 ∧ z_mst w9 s9 ∧ s9.1.1 = sp_k32 t (sp_bk k ∨ sp_bv y) ∧ sp_MR (if sp_k32 t (sp_bk k ∨ sp_bv y) = 0 then sp_tb S (sp_i t) (sp_rmp (sp_T S (sp_i t)) (sp_C S 2) (sp_i k) y) else S) s9 ∧ (sp_k32 t (sp_bk k ∨ sp_bv y) = 0 → r9 = (sp_rmp (sp_T S (sp_i t)) (sp_C S 2) (sp_i k) y).1.getD (-9))) = Q9
  refine z_body hl (by decide) rfl (Nat.le_of_ble_eq_true rfl) ?_
  show z_J G l mX11_removePair _ 0 [(0, _), (1, _), (2, _), (3, _)] [] _ 0 0
  refine j_aload_n dX11_removePair_0 rfl rfl ?_
  refine j_iload_n dX11_removePair_1 rfl ?_
  refine j_iload_n dX11_removePair_2 rfl ?_
  refine j_iload_n dX11_removePair_3 rfl ?_
  refine j_callV (q := (RX11, TX11, 8)) dX11_removePair_4 kX11_isNoPair lX11_142 inX11_isNoPair seX11_isNoPair h.m rfl (cx_isNoPair hl w S _ _ _ _ h R) (Nat.le_of_ble_eq_true rfl) ⟨(Nat.le_of_ble_eq_true rfl), (Nat.le_of_ble_eq_true rfl)⟩ rfl (Nat.le_of_ble_eq_true rfl) rfl rfl (fun _ _ h => h.elim) ?_
  rintro _ w1 (⟨i1, k1, s1, rfl, hi1, hk1, htt1, hbk1, hbv1, rfl, rfl, fm1, h1, R1, th1⟩ | ⟨s1, rfl, fm1, h1, R1, th1, hno1⟩ | ⟨s1, rfl, fm1, h1, R1, th1, htt1, hP1⟩)
  · have ei1 : sp_i (nI i1) = i1 := sp_in' (by omega)
    have ek1 : sp_i (nI k1) = k1 := sp_in' (by omega)
    refine j_if_eq (tgt := 12) dX11_removePair_7 (by decide) (fun c_7_10 => ?_) (fun c_7_10 => ?_)
    · refine j_aload_n dX11_removePair_12 rfl rfl ?_
      refine j_iload_n dX11_removePair_13 rfl ?_
      refine j_iload_n dX11_removePair_14 rfl ?_
      refine j_callV (q := (RX11, TX11, 8)) dX11_removePair_15 kX11_valueOf lX11_145 inX11_valueOf seX11_valueOf h1.m rfl (cx_valueOf hl w1 S _ (i1) (k1) h1 R1 (by omega) (by omega)) (Nat.le_of_ble_eq_true rfl) ⟨(Nat.le_of_ble_eq_true rfl), (Nat.le_of_ble_eq_true rfl)⟩ rfl (Nat.le_of_ble_eq_true rfl) rfl rfl (fun _ _ h => h.elim) ?_
      rintro _ _ ⟨rfl, hw494⟩
      refine j_w w1 hw494 ?_
      refine j_iload_n dX11_removePair_18 rfl ?_
      refine j_icmp_ne (tgt := 26) dX11_removePair_19 (by decide) (fun c_19_18 => ?_) (fun c_19_18 => ?_)
      · refine j_iconst (v := 0) dX11_removePair_26 (by decide) ?_
        refine j_istore (lo' := [(4, _), (0, _), (1, _), (2, _), (3, _)]) dX11_removePair_27 (by decide) rfl ?_
        refine j_iload dX11_removePair_29 rfl ?_
        refine j_if_eq (tgt := 40) dX11_removePair_31 (by decide) (fun c_31_22 => ?_) (fun c_31_22 => ?_)
        · refine j_iload dX11_removePair_40 rfl ?_
          refine j_iret dX11_removePair_42 rfl rfl ?_ (Nat.le_of_ble_eq_true rfl) (Nat.le_of_ble_eq_true rfl)
          refine cast (congrFun (congrFun hQ9 _) _) ?_
          try rw [ei1]
          try rw [ek1]
          refine ⟨_, _, rfl, (fm1.le (q' := 59) (by decide)), h1, sp_X0 ?_ th1 (by rw [sp_rmp, if_neg c_19_18, sp_tb_id]; exact R1) (by rw [sp_rmp, if_neg c_19_18]; rfl)⟩
          first | (first | (refine sp_k32_0 ?_ ?_ <;> (first | (with_reducible assumption) | (refine Or.inl ?_; (with_reducible assumption)) | (refine Or.inr ?_; (with_reducible assumption)) | (refine Or.inr (Or.inl ?_); (with_reducible assumption)) | (refine Or.inr (Or.inr ?_); (with_reducible assumption)) | (refine Or.inr (Or.inr (Or.inl ?_)); (with_reducible assumption)) | (refine Or.inr (Or.inr (Or.inr ?_)); (with_reducible assumption)) | (refine fun z => Or.elim z ?_ ?_ <;> (with_reducible assumption)) | (refine fun z => Or.elim z ?_ (fun z => Or.elim z ?_ ?_) <;> (with_reducible assumption)) | (refine fun z => Or.elim z ?_ (fun z => Or.elim z ?_ (fun z => Or.elim z ?_ ?_)) <;> (with_reducible assumption)) | (refine fun z => Or.elim z (fun z9 => z9 ?_) ?_ <;> (first | (with_reducible assumption) | (refine Or.inl ?_; (with_reducible assumption)) | (refine Or.inr (Or.inl ?_); (with_reducible assumption)) | (refine Or.inr (Or.inr ?_); (with_reducible assumption)) | (refine Or.inr (Or.inr (Or.inl ?_)); (with_reducible assumption)) | (refine Or.inr (Or.inr (Or.inr ?_)); (with_reducible assumption)))) | (refine Or.inl (fun z => Or.elim z ?_ (fun z => Or.elim z ?_ ?_)) <;> (with_reducible assumption)) | (refine Or.inl (fun z => Or.elim z ?_ (fun z => Or.elim z ?_ (fun z => Or.elim z ?_ ?_))) <;> (with_reducible assumption))))) | (first | (refine sp_k32_0 ?_ ?_ <;> (first | assumption | (refine Or.inl ?_; assumption) | (refine Or.inr ?_; assumption) | (refine Or.inr (Or.inl ?_); assumption) | (refine Or.inr (Or.inr ?_); assumption) | (refine Or.inr (Or.inr (Or.inl ?_)); assumption) | (refine Or.inr (Or.inr (Or.inr ?_)); assumption) | (refine fun z => Or.elim z ?_ ?_ <;> assumption) | (refine fun z => Or.elim z ?_ (fun z => Or.elim z ?_ ?_) <;> assumption) | (refine fun z => Or.elim z ?_ (fun z => Or.elim z ?_ (fun z => Or.elim z ?_ ?_)) <;> assumption) | (refine fun z => Or.elim z (fun z9 => z9 ?_) ?_ <;> (first | assumption | (refine Or.inl ?_; assumption) | (refine Or.inr (Or.inl ?_); assumption) | (refine Or.inr (Or.inr ?_); assumption) | (refine Or.inr (Or.inr (Or.inl ?_)); assumption) | (refine Or.inr (Or.inr (Or.inr ?_)); assumption))) | (refine Or.inl (fun z => Or.elim z ?_ (fun z => Or.elim z ?_ ?_)) <;> assumption) | (refine Or.inl (fun z => Or.elim z ?_ (fun z => Or.elim z ?_ (fun z => Or.elim z ?_ ?_))) <;> assumption))))
        · exact absurd c_31_22 (by decide)
      · refine j_iconst (v := 1) dX11_removePair_22 (by decide) ?_
        refine j_goto (tgt := 27) dX11_removePair_23 (by decide) ?_
        refine j_istore (lo' := [(4, _), (0, _), (1, _), (2, _), (3, _)]) dX11_removePair_27 (by decide) rfl ?_
        refine j_iload dX11_removePair_29 rfl ?_
        refine j_if_eq (tgt := 40) dX11_removePair_31 (by decide) (fun c_31_35 => ?_) (fun c_31_35 => ?_)
        · exact absurd c_31_35 (by decide)
        · refine j_aload_n dX11_removePair_34 rfl rfl ?_
          refine j_iload_n dX11_removePair_35 rfl ?_
          refine j_iload_n dX11_removePair_36 rfl ?_
          refine j_callV (q := (RX11, TX11, 8)) dX11_removePair_37 kX11_go lX11_151 inX11_go seX11_go h1.m rfl (cx_go hl w1 S _ (i1) (k1) h1 R1 (by omega) (by omega) (ok.2.1 (i1) (by omega))) (Nat.le_of_ble_eq_true rfl) ⟨(Nat.le_of_ble_eq_true rfl), (Nat.le_of_ble_eq_true rfl)⟩ rfl (Nat.le_of_ble_eq_true rfl) rfl rfl (fun _ _ h => h.elim) ?_
          rintro _ w2 ⟨rfl, s2, fm2, h2, R2, th2⟩
          have tx2 := th2.trans th1
          refine j_iload dX11_removePair_40 rfl ?_
          refine j_iret dX11_removePair_42 rfl rfl ?_ (Nat.le_of_ble_eq_true rfl) (Nat.le_of_ble_eq_true rfl)
          refine cast (congrFun (congrFun hQ9 _) _) ?_
          try rw [ei1]
          try rw [ek1]
          refine ⟨_, _, rfl, ((fm1.le (q' := 59) (by decide)).tr (fm2.le (q' := 59) (by decide))), h2, sp_X0 ?_ tx2 (by rw [sp_rmp, if_pos c_19_18]; exact R2) (by rw [sp_rmp, if_pos c_19_18]; rfl)⟩
          first | (first | (refine sp_k32_0 ?_ ?_ <;> (first | (with_reducible assumption) | (refine Or.inl ?_; (with_reducible assumption)) | (refine Or.inr ?_; (with_reducible assumption)) | (refine Or.inr (Or.inl ?_); (with_reducible assumption)) | (refine Or.inr (Or.inr ?_); (with_reducible assumption)) | (refine Or.inr (Or.inr (Or.inl ?_)); (with_reducible assumption)) | (refine Or.inr (Or.inr (Or.inr ?_)); (with_reducible assumption)) | (refine fun z => Or.elim z ?_ ?_ <;> (with_reducible assumption)) | (refine fun z => Or.elim z ?_ (fun z => Or.elim z ?_ ?_) <;> (with_reducible assumption)) | (refine fun z => Or.elim z ?_ (fun z => Or.elim z ?_ (fun z => Or.elim z ?_ ?_)) <;> (with_reducible assumption)) | (refine fun z => Or.elim z (fun z9 => z9 ?_) ?_ <;> (first | (with_reducible assumption) | (refine Or.inl ?_; (with_reducible assumption)) | (refine Or.inr (Or.inl ?_); (with_reducible assumption)) | (refine Or.inr (Or.inr ?_); (with_reducible assumption)) | (refine Or.inr (Or.inr (Or.inl ?_)); (with_reducible assumption)) | (refine Or.inr (Or.inr (Or.inr ?_)); (with_reducible assumption)))) | (refine Or.inl (fun z => Or.elim z ?_ (fun z => Or.elim z ?_ ?_)) <;> (with_reducible assumption)) | (refine Or.inl (fun z => Or.elim z ?_ (fun z => Or.elim z ?_ (fun z => Or.elim z ?_ ?_))) <;> (with_reducible assumption))))) | (first | (refine sp_k32_0 ?_ ?_ <;> (first | assumption | (refine Or.inl ?_; assumption) | (refine Or.inr ?_; assumption) | (refine Or.inr (Or.inl ?_); assumption) | (refine Or.inr (Or.inr ?_); assumption) | (refine Or.inr (Or.inr (Or.inl ?_)); assumption) | (refine Or.inr (Or.inr (Or.inr ?_)); assumption) | (refine fun z => Or.elim z ?_ ?_ <;> assumption) | (refine fun z => Or.elim z ?_ (fun z => Or.elim z ?_ ?_) <;> assumption) | (refine fun z => Or.elim z ?_ (fun z => Or.elim z ?_ (fun z => Or.elim z ?_ ?_)) <;> assumption) | (refine fun z => Or.elim z (fun z9 => z9 ?_) ?_ <;> (first | assumption | (refine Or.inl ?_; assumption) | (refine Or.inr (Or.inl ?_); assumption) | (refine Or.inr (Or.inr ?_); assumption) | (refine Or.inr (Or.inr (Or.inl ?_)); assumption) | (refine Or.inr (Or.inr (Or.inr ?_)); assumption))) | (refine Or.inl (fun z => Or.elim z ?_ (fun z => Or.elim z ?_ ?_)) <;> assumption) | (refine Or.inl (fun z => Or.elim z ?_ (fun z => Or.elim z ?_ (fun z => Or.elim z ?_ ?_))) <;> assumption))))
    · exact absurd c_7_10 (by decide)
  · refine j_if_eq (tgt := 12) dX11_removePair_7 (by decide) (fun c_7_51 => ?_) (fun c_7_51 => ?_)
    · exact absurd c_7_51 (by decide)
    · refine j_iconst (v := 0) dX11_removePair_10 (by decide) ?_
      refine j_iret dX11_removePair_11 rfl rfl ?_ (Nat.le_of_ble_eq_true rfl) (Nat.le_of_ble_eq_true rfl)
      refine cast (congrFun (congrFun hQ9 _) _) ?_
      refine ⟨_, _, rfl, (fm1.le (q' := 59) (by decide)), h1, sp_X1 (k := 1) ?_ (by decide) th1 R1⟩
      first | (first | (refine sp_k32_1 ?_ <;> (first | (with_reducible assumption) | (refine Or.inl ?_; (with_reducible assumption)) | (refine Or.inr ?_; (with_reducible assumption)) | (refine Or.inr (Or.inl ?_); (with_reducible assumption)) | (refine Or.inr (Or.inr ?_); (with_reducible assumption)) | (refine Or.inr (Or.inr (Or.inl ?_)); (with_reducible assumption)) | (refine Or.inr (Or.inr (Or.inr ?_)); (with_reducible assumption)) | (refine fun z => Or.elim z ?_ ?_ <;> (with_reducible assumption)) | (refine fun z => Or.elim z ?_ (fun z => Or.elim z ?_ ?_) <;> (with_reducible assumption)) | (refine fun z => Or.elim z ?_ (fun z => Or.elim z ?_ (fun z => Or.elim z ?_ ?_)) <;> (with_reducible assumption)) | (refine fun z => Or.elim z (fun z9 => z9 ?_) ?_ <;> (first | (with_reducible assumption) | (refine Or.inl ?_; (with_reducible assumption)) | (refine Or.inr (Or.inl ?_); (with_reducible assumption)) | (refine Or.inr (Or.inr ?_); (with_reducible assumption)) | (refine Or.inr (Or.inr (Or.inl ?_)); (with_reducible assumption)) | (refine Or.inr (Or.inr (Or.inr ?_)); (with_reducible assumption)))) | (refine Or.inl (fun z => Or.elim z ?_ (fun z => Or.elim z ?_ ?_)) <;> (with_reducible assumption)) | (refine Or.inl (fun z => Or.elim z ?_ (fun z => Or.elim z ?_ (fun z => Or.elim z ?_ ?_))) <;> (with_reducible assumption))))) | (first | (refine sp_k32_1 ?_ <;> (first | assumption | (refine Or.inl ?_; assumption) | (refine Or.inr ?_; assumption) | (refine Or.inr (Or.inl ?_); assumption) | (refine Or.inr (Or.inr ?_); assumption) | (refine Or.inr (Or.inr (Or.inl ?_)); assumption) | (refine Or.inr (Or.inr (Or.inr ?_)); assumption) | (refine fun z => Or.elim z ?_ ?_ <;> assumption) | (refine fun z => Or.elim z ?_ (fun z => Or.elim z ?_ ?_) <;> assumption) | (refine fun z => Or.elim z ?_ (fun z => Or.elim z ?_ (fun z => Or.elim z ?_ ?_)) <;> assumption) | (refine fun z => Or.elim z (fun z9 => z9 ?_) ?_ <;> (first | assumption | (refine Or.inl ?_; assumption) | (refine Or.inr (Or.inl ?_); assumption) | (refine Or.inr (Or.inr ?_); assumption) | (refine Or.inr (Or.inr (Or.inl ?_)); assumption) | (refine Or.inr (Or.inr (Or.inr ?_)); assumption))) | (refine Or.inl (fun z => Or.elim z ?_ (fun z => Or.elim z ?_ ?_)) <;> assumption) | (refine Or.inl (fun z => Or.elim z ?_ (fun z => Or.elim z ?_ (fun z => Or.elim z ?_ ?_))) <;> assumption))))
  · refine j_if_eq (tgt := 12) dX11_removePair_7 (by decide) (fun c_7_58 => ?_) (fun c_7_58 => ?_)
    · exact absurd c_7_58 (by decide)
    · refine j_iconst (v := 0) dX11_removePair_10 (by decide) ?_
      refine j_iret dX11_removePair_11 rfl rfl ?_ (Nat.le_of_ble_eq_true rfl) (Nat.le_of_ble_eq_true rfl)
      refine cast (congrFun (congrFun hQ9 _) _) ?_
      refine ⟨_, _, rfl, (fm1.le (q' := 59) (by decide)), h1, sp_X1 (k := 2) ?_ (by decide) th1 R1⟩
      first | (first | (refine sp_k32_2 ?_ ?_ <;> (first | (with_reducible assumption) | (refine Or.inl ?_; (with_reducible assumption)) | (refine Or.inr ?_; (with_reducible assumption)) | (refine Or.inr (Or.inl ?_); (with_reducible assumption)) | (refine Or.inr (Or.inr ?_); (with_reducible assumption)) | (refine Or.inr (Or.inr (Or.inl ?_)); (with_reducible assumption)) | (refine Or.inr (Or.inr (Or.inr ?_)); (with_reducible assumption)) | (refine fun z => Or.elim z ?_ ?_ <;> (with_reducible assumption)) | (refine fun z => Or.elim z ?_ (fun z => Or.elim z ?_ ?_) <;> (with_reducible assumption)) | (refine fun z => Or.elim z ?_ (fun z => Or.elim z ?_ (fun z => Or.elim z ?_ ?_)) <;> (with_reducible assumption)) | (refine fun z => Or.elim z (fun z9 => z9 ?_) ?_ <;> (first | (with_reducible assumption) | (refine Or.inl ?_; (with_reducible assumption)) | (refine Or.inr (Or.inl ?_); (with_reducible assumption)) | (refine Or.inr (Or.inr ?_); (with_reducible assumption)) | (refine Or.inr (Or.inr (Or.inl ?_)); (with_reducible assumption)) | (refine Or.inr (Or.inr (Or.inr ?_)); (with_reducible assumption)))) | (refine Or.inl (fun z => Or.elim z ?_ (fun z => Or.elim z ?_ ?_)) <;> (with_reducible assumption)) | (refine Or.inl (fun z => Or.elim z ?_ (fun z => Or.elim z ?_ (fun z => Or.elim z ?_ ?_))) <;> (with_reducible assumption))))) | (first | (refine sp_k32_2 ?_ ?_ <;> (first | assumption | (refine Or.inl ?_; assumption) | (refine Or.inr ?_; assumption) | (refine Or.inr (Or.inl ?_); assumption) | (refine Or.inr (Or.inr ?_); assumption) | (refine Or.inr (Or.inr (Or.inl ?_)); assumption) | (refine Or.inr (Or.inr (Or.inr ?_)); assumption) | (refine fun z => Or.elim z ?_ ?_ <;> assumption) | (refine fun z => Or.elim z ?_ (fun z => Or.elim z ?_ ?_) <;> assumption) | (refine fun z => Or.elim z ?_ (fun z => Or.elim z ?_ (fun z => Or.elim z ?_ ?_)) <;> assumption) | (refine fun z => Or.elim z (fun z9 => z9 ?_) ?_ <;> (first | assumption | (refine Or.inl ?_; assumption) | (refine Or.inr (Or.inl ?_); assumption) | (refine Or.inr (Or.inr ?_); assumption) | (refine Or.inr (Or.inr (Or.inl ?_)); assumption) | (refine Or.inr (Or.inr (Or.inr ?_)); assumption))) | (refine Or.inl (fun z => Or.elim z ?_ (fun z => Or.elim z ?_ ?_)) <;> assumption) | (refine Or.inl (fun z => Or.elim z ?_ (fun z => Or.elim z ?_ (fun z => Or.elim z ?_ ?_))) <;> assumption))))
theorem sp_becf {b : Bool} {T : List (Nat × Int32)} {c : Nat → Int32} {k : Nat} {o : Option Int32} : (sp_bec b T c k o).1 = o := by
  cases o with
  | none => rfl
  | some y =>
    unfold sp_bec
    by_cases h : y = -1000
    · simp only [if_pos h]
      by_cases h2 : sp_lk T k = -1000
      · simp only [if_pos h2]
      · simp only [if_neg h2]
    · simp only [if_neg h]
theorem sp_bec_v {b : Bool} {T : List (Nat × Int32)} {c : Nat → Int32} {k : Nat} {y : Int32} (h : ¬ sp_bv y) : sp_bec b T c k (some y) = (some y, sp_pt b T k y, z_bp c 5) := if_neg (sp_vln (q_nor h))
set_option maxRecDepth 100000 in
set_option maxHeartbeats 8000000 in
theorem cx_computeIfAbsent (hl : l.stackTraces = false) (w : z_W) (S : sp_S) (s : z_Z) (t : Int32) (k : Int32) (r : Int32) (n : Int32) (h : z_mst w s) (R : sp_MR S s) (ok : sp_ok S) : z_Con G l mX11_computeIfAbsent 26 2 52 w [.ref 1000, .int t, .int k, .int r, .int n] (fun v w9 => ∃ (r9 : Int32) (s9 : z_Z), v = some (.int r9) ∧ z_fm 59 w w9 ∧ z_mst w9 s9 ∧ s9.1.1 = sp_k32 t (sp_bk k ∨ (r < 0 ∨ 5 < r) ∨ sp_bv n) ∧ sp_MR (if sp_k32 t (sp_bk k ∨ (r < 0 ∨ 5 < r) ∨ sp_bv n) = 0 then sp_tb S (sp_i t) (sp_cia (sp_srt (sp_i t)) (sp_T S (sp_i t)) (sp_C S 2) (sp_i k) r n) else S) s9 ∧ (sp_k32 t (sp_bk k ∨ (r < 0 ∨ 5 < r) ∨ sp_bv n) = 0 → r9 = (sp_cia (sp_srt (sp_i t)) (sp_T S (sp_i t)) (sp_C S 2) (sp_i k) r n).1.getD (-9))) (fun _ _ => False) := by
  generalize hQ9 : (fun (v : Option Value) (w9 : z_W) => ∃ (r9 : Int32) (s9 : z_Z), v = some (.int r9) ∧ z_fm 59 w w9 ∧ z_mst w9 s9 ∧ s9.1.1 = sp_k32 t (sp_bk k ∨ (r < 0 ∨ 5 < r) ∨ sp_bv n) ∧ sp_MR (if sp_k32 t (sp_bk k ∨ (r < 0 ∨ 5 < r) ∨ sp_bv n) = 0 then sp_tb S (sp_i t) (sp_cia (sp_srt (sp_i t)) (sp_T S (sp_i t)) (sp_C S 2) (sp_i k) r n) else S) s9 ∧ (sp_k32 t (sp_bk k ∨ (r < 0 ∨ 5 < r) ∨ sp_bv n) = 0 → r9 = (sp_cia (sp_srt (sp_i t)) (sp_T S (sp_i t)) (sp_C S 2) (sp_i k) r n).1.getD (-9))) = Q9
  refine z_body hl (by decide) rfl (Nat.le_of_ble_eq_true rfl) ?_
  show z_J G l mX11_computeIfAbsent _ 0 [(0, _), (1, _), (2, _), (3, _), (4, _)] [] _ 0 0
  refine j_aload_n dX11_computeIfAbsent_0 rfl rfl ?_
  refine j_iload_n dX11_computeIfAbsent_1 rfl ?_
  refine j_iload_n dX11_computeIfAbsent_2 rfl ?_
  refine j_iload_n dX11_computeIfAbsent_3 rfl ?_
  refine j_iload dX11_computeIfAbsent_4 rfl ?_
  refine j_callV (q := (RX11, TX11, 8)) dX11_computeIfAbsent_6 kX11_isNoRule lX11_155 inX11_isNoRule seX11_isNoRule h.m rfl (cx_isNoRule hl w S _ _ _ _ _ h R) (Nat.le_of_ble_eq_true rfl) ⟨(Nat.le_of_ble_eq_true rfl), (Nat.le_of_ble_eq_true rfl)⟩ rfl (Nat.le_of_ble_eq_true rfl) rfl rfl (fun _ _ h => h.elim) ?_
  rintro _ w1 (⟨i1, k1, s1, rfl, hi1, hk1, htt1, hbk1, hbr1, hbv1, rfl, rfl, fm1, h1, R1, th1⟩ | ⟨s1, rfl, fm1, h1, R1, th1, hno1⟩ | ⟨s1, rfl, fm1, h1, R1, th1, htt1, hP1⟩)
  · have ei1 : sp_i (nI i1) = i1 := sp_in' (by omega)
    have ek1 : sp_i (nI k1) = k1 := sp_in' (by omega)
    refine j_if_eq (tgt := 14) dX11_computeIfAbsent_9 (by decide) (fun c_9_11 => ?_) (fun c_9_11 => ?_)
    · refine j_aload_n dX11_computeIfAbsent_14 rfl rfl ?_
      refine j_iload_n dX11_computeIfAbsent_15 rfl ?_
      refine j_iload_n dX11_computeIfAbsent_16 rfl ?_
      refine j_callV (q := (RX11, TX11, 8)) dX11_computeIfAbsent_17 kX11_valueOf lX11_145 inX11_valueOf seX11_valueOf h1.m rfl (cx_valueOf hl w1 S _ (i1) (k1) h1 R1 (by omega) (by omega)) (Nat.le_of_ble_eq_true rfl) ⟨(Nat.le_of_ble_eq_true rfl), (Nat.le_of_ble_eq_true rfl)⟩ rfl (Nat.le_of_ble_eq_true rfl) rfl rfl (fun _ _ h => h.elim) ?_
      rintro _ _ ⟨rfl, hw495⟩
      refine j_w w1 hw495 ?_
      refine j_istore (lo' := [(5, _), (0, _), (1, _), (2, _), (3, _), (4, _)]) dX11_computeIfAbsent_20 (by decide) rfl ?_
      refine j_iload dX11_computeIfAbsent_22 rfl ?_
      refine j_sipush (v := (-1000)) dX11_computeIfAbsent_24 (by decide) ?_
      refine j_icmp_eq (tgt := 35) dX11_computeIfAbsent_27 (by decide) (fun c_27_21 => ?_) (fun c_27_21 => ?_)
      · refine j_aload_n dX11_computeIfAbsent_35 rfl rfl ?_
        refine j_iload_n dX11_computeIfAbsent_36 rfl ?_
        refine j_iload_n dX11_computeIfAbsent_37 rfl ?_
        refine j_iload_n dX11_computeIfAbsent_38 rfl ?_
        refine j_iload_n dX11_computeIfAbsent_39 rfl ?_
        refine j_iconst (v := 0) dX11_computeIfAbsent_40 (by decide) ?_
        refine j_iload dX11_computeIfAbsent_41 rfl ?_
        refine j_callS dX11_computeIfAbsent_43 kX11_rule lX11_115 stX11_rule (cm_rule_r hl w1 _ _ _ _ (by decide) (sp_vl (by assumption)).2) (Nat.le_of_ble_eq_true rfl) ⟨(Nat.le_of_ble_eq_true rfl), (Nat.le_of_ble_eq_true rfl)⟩ rfl (Nat.le_of_ble_eq_true rfl) rfl rfl (fun _ _ h => h.elim) ?_
        rintro _ _ ⟨⟨rfl, hq496⟩ | ⟨y496, rfl, hq496, hne496⟩, hw496⟩
        · refine j_w w1 hw496 ?_
          refine j_callV (q := (RX11, TX11, 8)) dX11_computeIfAbsent_46 kX11_become lX11_159 inX11_become seX11_become h1.m rfl (cx_become_n hl w1 S _ (i1) (k1) h1 R1 (by omega) (by omega) (ok.2.1 (i1) (by omega))) (Nat.le_of_ble_eq_true rfl) ⟨(Nat.le_of_ble_eq_true rfl), (Nat.le_of_ble_eq_true rfl)⟩ rfl (Nat.le_of_ble_eq_true rfl) rfl rfl (fun _ _ h => h.elim) ?_
          rintro _ w2 ⟨s2, rfl, fm2, h2, R2, th2⟩
          have tx2 := th2.trans th1
          refine j_iret dX11_computeIfAbsent_49 rfl rfl ?_ (Nat.le_of_ble_eq_true rfl) (Nat.le_of_ble_eq_true rfl)
          refine cast (congrFun (congrFun hQ9 _) _) ?_
          try rw [ei1]
          try rw [ek1]
          refine ⟨_, _, rfl, ((fm1.le (q' := 59) (by decide)).tr (fm2.le (q' := 59) (by decide))), h2, sp_X0 ?_ tx2 (by rw [sp_cia, if_pos c_27_21, hq496]; exact R2) (by rw [sp_cia, if_pos c_27_21, hq496, sp_becf])⟩
          first | (first | (refine sp_k32_0 ?_ ?_ <;> (first | (with_reducible assumption) | (refine Or.inl ?_; (with_reducible assumption)) | (refine Or.inr ?_; (with_reducible assumption)) | (refine Or.inr (Or.inl ?_); (with_reducible assumption)) | (refine Or.inr (Or.inr ?_); (with_reducible assumption)) | (refine Or.inr (Or.inr (Or.inl ?_)); (with_reducible assumption)) | (refine Or.inr (Or.inr (Or.inr ?_)); (with_reducible assumption)) | (refine fun z => Or.elim z ?_ ?_ <;> (with_reducible assumption)) | (refine fun z => Or.elim z ?_ (fun z => Or.elim z ?_ ?_) <;> (with_reducible assumption)) | (refine fun z => Or.elim z ?_ (fun z => Or.elim z ?_ (fun z => Or.elim z ?_ ?_)) <;> (with_reducible assumption)) | (refine fun z => Or.elim z (fun z9 => z9 ?_) ?_ <;> (first | (with_reducible assumption) | (refine Or.inl ?_; (with_reducible assumption)) | (refine Or.inr (Or.inl ?_); (with_reducible assumption)) | (refine Or.inr (Or.inr ?_); (with_reducible assumption)) | (refine Or.inr (Or.inr (Or.inl ?_)); (with_reducible assumption)) | (refine Or.inr (Or.inr (Or.inr ?_)); (with_reducible assumption)))) | (refine Or.inl (fun z => Or.elim z ?_ (fun z => Or.elim z ?_ ?_)) <;> (with_reducible assumption)) | (refine Or.inl (fun z => Or.elim z ?_ (fun z => Or.elim z ?_ (fun z => Or.elim z ?_ ?_))) <;> (with_reducible assumption))))) | (first | (refine sp_k32_0 ?_ ?_ <;> (first | assumption | (refine Or.inl ?_; assumption) | (refine Or.inr ?_; assumption) | (refine Or.inr (Or.inl ?_); assumption) | (refine Or.inr (Or.inr ?_); assumption) | (refine Or.inr (Or.inr (Or.inl ?_)); assumption) | (refine Or.inr (Or.inr (Or.inr ?_)); assumption) | (refine fun z => Or.elim z ?_ ?_ <;> assumption) | (refine fun z => Or.elim z ?_ (fun z => Or.elim z ?_ ?_) <;> assumption) | (refine fun z => Or.elim z ?_ (fun z => Or.elim z ?_ (fun z => Or.elim z ?_ ?_)) <;> assumption) | (refine fun z => Or.elim z (fun z9 => z9 ?_) ?_ <;> (first | assumption | (refine Or.inl ?_; assumption) | (refine Or.inr (Or.inl ?_); assumption) | (refine Or.inr (Or.inr ?_); assumption) | (refine Or.inr (Or.inr (Or.inl ?_)); assumption) | (refine Or.inr (Or.inr (Or.inr ?_)); assumption))) | (refine Or.inl (fun z => Or.elim z ?_ (fun z => Or.elim z ?_ ?_)) <;> assumption) | (refine Or.inl (fun z => Or.elim z ?_ (fun z => Or.elim z ?_ (fun z => Or.elim z ?_ ?_))) <;> assumption))))
        · refine j_w w1 hw496 ?_
          refine j_callV (q := (RX11, TX11, 8)) dX11_computeIfAbsent_46 kX11_become lX11_159 inX11_become seX11_become h1.m rfl (cx_become_s hl w1 S _ (i1) (k1) y496 h1 R1 (by omega) (by omega) (ok.2.1 (i1) (by omega)) hne496) (Nat.le_of_ble_eq_true rfl) ⟨(Nat.le_of_ble_eq_true rfl), (Nat.le_of_ble_eq_true rfl)⟩ rfl (Nat.le_of_ble_eq_true rfl) rfl rfl (fun _ _ h => h.elim) ?_
          rintro _ w3 ⟨s3, rfl, fm3, h3, R3, th3⟩
          have tx3 := th3.trans th1
          refine j_iret dX11_computeIfAbsent_49 rfl rfl ?_ (Nat.le_of_ble_eq_true rfl) (Nat.le_of_ble_eq_true rfl)
          refine cast (congrFun (congrFun hQ9 _) _) ?_
          try rw [ei1]
          try rw [ek1]
          refine ⟨_, _, rfl, ((fm1.le (q' := 59) (by decide)).tr (fm3.le (q' := 59) (by decide))), h3, sp_X0 ?_ tx3 (by rw [sp_cia, if_pos c_27_21, hq496]; exact R3) (by rw [sp_cia, if_pos c_27_21, hq496, sp_becf])⟩
          first | (first | (refine sp_k32_0 ?_ ?_ <;> (first | (with_reducible assumption) | (refine Or.inl ?_; (with_reducible assumption)) | (refine Or.inr ?_; (with_reducible assumption)) | (refine Or.inr (Or.inl ?_); (with_reducible assumption)) | (refine Or.inr (Or.inr ?_); (with_reducible assumption)) | (refine Or.inr (Or.inr (Or.inl ?_)); (with_reducible assumption)) | (refine Or.inr (Or.inr (Or.inr ?_)); (with_reducible assumption)) | (refine fun z => Or.elim z ?_ ?_ <;> (with_reducible assumption)) | (refine fun z => Or.elim z ?_ (fun z => Or.elim z ?_ ?_) <;> (with_reducible assumption)) | (refine fun z => Or.elim z ?_ (fun z => Or.elim z ?_ (fun z => Or.elim z ?_ ?_)) <;> (with_reducible assumption)) | (refine fun z => Or.elim z (fun z9 => z9 ?_) ?_ <;> (first | (with_reducible assumption) | (refine Or.inl ?_; (with_reducible assumption)) | (refine Or.inr (Or.inl ?_); (with_reducible assumption)) | (refine Or.inr (Or.inr ?_); (with_reducible assumption)) | (refine Or.inr (Or.inr (Or.inl ?_)); (with_reducible assumption)) | (refine Or.inr (Or.inr (Or.inr ?_)); (with_reducible assumption)))) | (refine Or.inl (fun z => Or.elim z ?_ (fun z => Or.elim z ?_ ?_)) <;> (with_reducible assumption)) | (refine Or.inl (fun z => Or.elim z ?_ (fun z => Or.elim z ?_ (fun z => Or.elim z ?_ ?_))) <;> (with_reducible assumption))))) | (first | (refine sp_k32_0 ?_ ?_ <;> (first | assumption | (refine Or.inl ?_; assumption) | (refine Or.inr ?_; assumption) | (refine Or.inr (Or.inl ?_); assumption) | (refine Or.inr (Or.inr ?_); assumption) | (refine Or.inr (Or.inr (Or.inl ?_)); assumption) | (refine Or.inr (Or.inr (Or.inr ?_)); assumption) | (refine fun z => Or.elim z ?_ ?_ <;> assumption) | (refine fun z => Or.elim z ?_ (fun z => Or.elim z ?_ ?_) <;> assumption) | (refine fun z => Or.elim z ?_ (fun z => Or.elim z ?_ (fun z => Or.elim z ?_ ?_)) <;> assumption) | (refine fun z => Or.elim z (fun z9 => z9 ?_) ?_ <;> (first | assumption | (refine Or.inl ?_; assumption) | (refine Or.inr (Or.inl ?_); assumption) | (refine Or.inr (Or.inr ?_); assumption) | (refine Or.inr (Or.inr (Or.inl ?_)); assumption) | (refine Or.inr (Or.inr (Or.inr ?_)); assumption))) | (refine Or.inl (fun z => Or.elim z ?_ (fun z => Or.elim z ?_ ?_)) <;> assumption) | (refine Or.inl (fun z => Or.elim z ?_ (fun z => Or.elim z ?_ (fun z => Or.elim z ?_ ?_))) <;> assumption))))
      · refine j_iload dX11_computeIfAbsent_30 rfl ?_
        refine j_goto (tgt := 49) dX11_computeIfAbsent_32 (by decide) ?_
        refine j_iret dX11_computeIfAbsent_49 rfl rfl ?_ (Nat.le_of_ble_eq_true rfl) (Nat.le_of_ble_eq_true rfl)
        refine cast (congrFun (congrFun hQ9 _) _) ?_
        try rw [ei1]
        try rw [ek1]
        refine ⟨_, _, rfl, (fm1.le (q' := 59) (by decide)), h1, sp_X0 ?_ th1 (by rw [sp_cia, if_neg c_27_21, sp_tb_id]; exact R1) (by rw [sp_cia, if_neg c_27_21]; rfl)⟩
        first | (first | (refine sp_k32_0 ?_ ?_ <;> (first | (with_reducible assumption) | (refine Or.inl ?_; (with_reducible assumption)) | (refine Or.inr ?_; (with_reducible assumption)) | (refine Or.inr (Or.inl ?_); (with_reducible assumption)) | (refine Or.inr (Or.inr ?_); (with_reducible assumption)) | (refine Or.inr (Or.inr (Or.inl ?_)); (with_reducible assumption)) | (refine Or.inr (Or.inr (Or.inr ?_)); (with_reducible assumption)) | (refine fun z => Or.elim z ?_ ?_ <;> (with_reducible assumption)) | (refine fun z => Or.elim z ?_ (fun z => Or.elim z ?_ ?_) <;> (with_reducible assumption)) | (refine fun z => Or.elim z ?_ (fun z => Or.elim z ?_ (fun z => Or.elim z ?_ ?_)) <;> (with_reducible assumption)) | (refine fun z => Or.elim z (fun z9 => z9 ?_) ?_ <;> (first | (with_reducible assumption) | (refine Or.inl ?_; (with_reducible assumption)) | (refine Or.inr (Or.inl ?_); (with_reducible assumption)) | (refine Or.inr (Or.inr ?_); (with_reducible assumption)) | (refine Or.inr (Or.inr (Or.inl ?_)); (with_reducible assumption)) | (refine Or.inr (Or.inr (Or.inr ?_)); (with_reducible assumption)))) | (refine Or.inl (fun z => Or.elim z ?_ (fun z => Or.elim z ?_ ?_)) <;> (with_reducible assumption)) | (refine Or.inl (fun z => Or.elim z ?_ (fun z => Or.elim z ?_ (fun z => Or.elim z ?_ ?_))) <;> (with_reducible assumption))))) | (first | (refine sp_k32_0 ?_ ?_ <;> (first | assumption | (refine Or.inl ?_; assumption) | (refine Or.inr ?_; assumption) | (refine Or.inr (Or.inl ?_); assumption) | (refine Or.inr (Or.inr ?_); assumption) | (refine Or.inr (Or.inr (Or.inl ?_)); assumption) | (refine Or.inr (Or.inr (Or.inr ?_)); assumption) | (refine fun z => Or.elim z ?_ ?_ <;> assumption) | (refine fun z => Or.elim z ?_ (fun z => Or.elim z ?_ ?_) <;> assumption) | (refine fun z => Or.elim z ?_ (fun z => Or.elim z ?_ (fun z => Or.elim z ?_ ?_)) <;> assumption) | (refine fun z => Or.elim z (fun z9 => z9 ?_) ?_ <;> (first | assumption | (refine Or.inl ?_; assumption) | (refine Or.inr (Or.inl ?_); assumption) | (refine Or.inr (Or.inr ?_); assumption) | (refine Or.inr (Or.inr (Or.inl ?_)); assumption) | (refine Or.inr (Or.inr (Or.inr ?_)); assumption))) | (refine Or.inl (fun z => Or.elim z ?_ (fun z => Or.elim z ?_ ?_)) <;> assumption) | (refine Or.inl (fun z => Or.elim z ?_ (fun z => Or.elim z ?_ (fun z => Or.elim z ?_ ?_))) <;> assumption))))
    · exact absurd c_9_11 (by decide)
  · refine j_if_eq (tgt := 14) dX11_computeIfAbsent_9 (by decide) (fun c_9_60 => ?_) (fun c_9_60 => ?_)
    · exact absurd c_9_60 (by decide)
    · refine j_iconst (v := 0) dX11_computeIfAbsent_12 (by decide) ?_
      refine j_iret dX11_computeIfAbsent_13 rfl rfl ?_ (Nat.le_of_ble_eq_true rfl) (Nat.le_of_ble_eq_true rfl)
      refine cast (congrFun (congrFun hQ9 _) _) ?_
      refine ⟨_, _, rfl, (fm1.le (q' := 59) (by decide)), h1, sp_X1 (k := 1) ?_ (by decide) th1 R1⟩
      first | (first | (refine sp_k32_1 ?_ <;> (first | (with_reducible assumption) | (refine Or.inl ?_; (with_reducible assumption)) | (refine Or.inr ?_; (with_reducible assumption)) | (refine Or.inr (Or.inl ?_); (with_reducible assumption)) | (refine Or.inr (Or.inr ?_); (with_reducible assumption)) | (refine Or.inr (Or.inr (Or.inl ?_)); (with_reducible assumption)) | (refine Or.inr (Or.inr (Or.inr ?_)); (with_reducible assumption)) | (refine fun z => Or.elim z ?_ ?_ <;> (with_reducible assumption)) | (refine fun z => Or.elim z ?_ (fun z => Or.elim z ?_ ?_) <;> (with_reducible assumption)) | (refine fun z => Or.elim z ?_ (fun z => Or.elim z ?_ (fun z => Or.elim z ?_ ?_)) <;> (with_reducible assumption)) | (refine fun z => Or.elim z (fun z9 => z9 ?_) ?_ <;> (first | (with_reducible assumption) | (refine Or.inl ?_; (with_reducible assumption)) | (refine Or.inr (Or.inl ?_); (with_reducible assumption)) | (refine Or.inr (Or.inr ?_); (with_reducible assumption)) | (refine Or.inr (Or.inr (Or.inl ?_)); (with_reducible assumption)) | (refine Or.inr (Or.inr (Or.inr ?_)); (with_reducible assumption)))) | (refine Or.inl (fun z => Or.elim z ?_ (fun z => Or.elim z ?_ ?_)) <;> (with_reducible assumption)) | (refine Or.inl (fun z => Or.elim z ?_ (fun z => Or.elim z ?_ (fun z => Or.elim z ?_ ?_))) <;> (with_reducible assumption))))) | (first | (refine sp_k32_1 ?_ <;> (first | assumption | (refine Or.inl ?_; assumption) | (refine Or.inr ?_; assumption) | (refine Or.inr (Or.inl ?_); assumption) | (refine Or.inr (Or.inr ?_); assumption) | (refine Or.inr (Or.inr (Or.inl ?_)); assumption) | (refine Or.inr (Or.inr (Or.inr ?_)); assumption) | (refine fun z => Or.elim z ?_ ?_ <;> assumption) | (refine fun z => Or.elim z ?_ (fun z => Or.elim z ?_ ?_) <;> assumption) | (refine fun z => Or.elim z ?_ (fun z => Or.elim z ?_ (fun z => Or.elim z ?_ ?_)) <;> assumption) | (refine fun z => Or.elim z (fun z9 => z9 ?_) ?_ <;> (first | assumption | (refine Or.inl ?_; assumption) | (refine Or.inr (Or.inl ?_); assumption) | (refine Or.inr (Or.inr ?_); assumption) | (refine Or.inr (Or.inr (Or.inl ?_)); assumption) | (refine Or.inr (Or.inr (Or.inr ?_)); assumption))) | (refine Or.inl (fun z => Or.elim z ?_ (fun z => Or.elim z ?_ ?_)) <;> assumption) | (refine Or.inl (fun z => Or.elim z ?_ (fun z => Or.elim z ?_ (fun z => Or.elim z ?_ ?_))) <;> assumption))))
  · refine j_if_eq (tgt := 14) dX11_computeIfAbsent_9 (by decide) (fun c_9_67 => ?_) (fun c_9_67 => ?_)
    · exact absurd c_9_67 (by decide)
    · refine j_iconst (v := 0) dX11_computeIfAbsent_12 (by decide) ?_
      refine j_iret dX11_computeIfAbsent_13 rfl rfl ?_ (Nat.le_of_ble_eq_true rfl) (Nat.le_of_ble_eq_true rfl)
      refine cast (congrFun (congrFun hQ9 _) _) ?_
      refine ⟨_, _, rfl, (fm1.le (q' := 59) (by decide)), h1, sp_X1 (k := 2) ?_ (by decide) th1 R1⟩
      first | (first | (refine sp_k32_2 ?_ ?_ <;> (first | (with_reducible assumption) | (refine Or.inl ?_; (with_reducible assumption)) | (refine Or.inr ?_; (with_reducible assumption)) | (refine Or.inr (Or.inl ?_); (with_reducible assumption)) | (refine Or.inr (Or.inr ?_); (with_reducible assumption)) | (refine Or.inr (Or.inr (Or.inl ?_)); (with_reducible assumption)) | (refine Or.inr (Or.inr (Or.inr ?_)); (with_reducible assumption)) | (refine fun z => Or.elim z ?_ ?_ <;> (with_reducible assumption)) | (refine fun z => Or.elim z ?_ (fun z => Or.elim z ?_ ?_) <;> (with_reducible assumption)) | (refine fun z => Or.elim z ?_ (fun z => Or.elim z ?_ (fun z => Or.elim z ?_ ?_)) <;> (with_reducible assumption)) | (refine fun z => Or.elim z (fun z9 => z9 ?_) ?_ <;> (first | (with_reducible assumption) | (refine Or.inl ?_; (with_reducible assumption)) | (refine Or.inr (Or.inl ?_); (with_reducible assumption)) | (refine Or.inr (Or.inr ?_); (with_reducible assumption)) | (refine Or.inr (Or.inr (Or.inl ?_)); (with_reducible assumption)) | (refine Or.inr (Or.inr (Or.inr ?_)); (with_reducible assumption)))) | (refine Or.inl (fun z => Or.elim z ?_ (fun z => Or.elim z ?_ ?_)) <;> (with_reducible assumption)) | (refine Or.inl (fun z => Or.elim z ?_ (fun z => Or.elim z ?_ (fun z => Or.elim z ?_ ?_))) <;> (with_reducible assumption))))) | (first | (refine sp_k32_2 ?_ ?_ <;> (first | assumption | (refine Or.inl ?_; assumption) | (refine Or.inr ?_; assumption) | (refine Or.inr (Or.inl ?_); assumption) | (refine Or.inr (Or.inr ?_); assumption) | (refine Or.inr (Or.inr (Or.inl ?_)); assumption) | (refine Or.inr (Or.inr (Or.inr ?_)); assumption) | (refine fun z => Or.elim z ?_ ?_ <;> assumption) | (refine fun z => Or.elim z ?_ (fun z => Or.elim z ?_ ?_) <;> assumption) | (refine fun z => Or.elim z ?_ (fun z => Or.elim z ?_ (fun z => Or.elim z ?_ ?_)) <;> assumption) | (refine fun z => Or.elim z (fun z9 => z9 ?_) ?_ <;> (first | assumption | (refine Or.inl ?_; assumption) | (refine Or.inr (Or.inl ?_); assumption) | (refine Or.inr (Or.inr ?_); assumption) | (refine Or.inr (Or.inr (Or.inl ?_)); assumption) | (refine Or.inr (Or.inr (Or.inr ?_)); assumption))) | (refine Or.inl (fun z => Or.elim z ?_ (fun z => Or.elim z ?_ ?_)) <;> assumption) | (refine Or.inl (fun z => Or.elim z ?_ (fun z => Or.elim z ?_ (fun z => Or.elim z ?_ ?_))) <;> assumption))))
set_option maxRecDepth 100000 in
set_option maxHeartbeats 8000000 in
theorem cx_computeIfPresent (hl : l.stackTraces = false) (w : z_W) (S : sp_S) (s : z_Z) (t : Int32) (k : Int32) (r : Int32) (n : Int32) (h : z_mst w s) (R : sp_MR S s) (ok : sp_ok S) : z_Con G l mX11_computeIfPresent 26 2 52 w [.ref 1000, .int t, .int k, .int r, .int n] (fun v w9 => ∃ (r9 : Int32) (s9 : z_Z), v = some (.int r9) ∧ z_fm 59 w w9 ∧ z_mst w9 s9 ∧ s9.1.1 = sp_k32 t (sp_bk k ∨ (r < 0 ∨ 5 < r) ∨ sp_bv n) ∧ sp_MR (if sp_k32 t (sp_bk k ∨ (r < 0 ∨ 5 < r) ∨ sp_bv n) = 0 then sp_tb S (sp_i t) (sp_cip (sp_srt (sp_i t)) (sp_T S (sp_i t)) (sp_C S 2) (sp_i k) r n) else S) s9 ∧ (sp_k32 t (sp_bk k ∨ (r < 0 ∨ 5 < r) ∨ sp_bv n) = 0 → r9 = (sp_cip (sp_srt (sp_i t)) (sp_T S (sp_i t)) (sp_C S 2) (sp_i k) r n).1.getD (-9))) (fun _ _ => False) := by
  generalize hQ9 : (fun (v : Option Value) (w9 : z_W) => ∃ (r9 : Int32) (s9 : z_Z), v = some (.int r9) ∧ z_fm 59 w w9 ∧ z_mst w9 s9 ∧ s9.1.1 = sp_k32 t (sp_bk k ∨ (r < 0 ∨ 5 < r) ∨ sp_bv n) ∧ sp_MR (if sp_k32 t (sp_bk k ∨ (r < 0 ∨ 5 < r) ∨ sp_bv n) = 0 then sp_tb S (sp_i t) (sp_cip (sp_srt (sp_i t)) (sp_T S (sp_i t)) (sp_C S 2) (sp_i k) r n) else S) s9 ∧ (sp_k32 t (sp_bk k ∨ (r < 0 ∨ 5 < r) ∨ sp_bv n) = 0 → r9 = (sp_cip (sp_srt (sp_i t)) (sp_T S (sp_i t)) (sp_C S 2) (sp_i k) r n).1.getD (-9))) = Q9
  refine z_body hl (by decide) rfl (Nat.le_of_ble_eq_true rfl) ?_
  show z_J G l mX11_computeIfPresent _ 0 [(0, _), (1, _), (2, _), (3, _), (4, _)] [] _ 0 0
  refine j_aload_n dX11_computeIfPresent_0 rfl rfl ?_
  refine j_iload_n dX11_computeIfPresent_1 rfl ?_
  refine j_iload_n dX11_computeIfPresent_2 rfl ?_
  refine j_iload_n dX11_computeIfPresent_3 rfl ?_
  refine j_iload dX11_computeIfPresent_4 rfl ?_
  refine j_callV (q := (RX11, TX11, 8)) dX11_computeIfPresent_6 kX11_isNoRule lX11_155 inX11_isNoRule seX11_isNoRule h.m rfl (cx_isNoRule hl w S _ _ _ _ _ h R) (Nat.le_of_ble_eq_true rfl) ⟨(Nat.le_of_ble_eq_true rfl), (Nat.le_of_ble_eq_true rfl)⟩ rfl (Nat.le_of_ble_eq_true rfl) rfl rfl (fun _ _ h => h.elim) ?_
  rintro _ w1 (⟨i1, k1, s1, rfl, hi1, hk1, htt1, hbk1, hbr1, hbv1, rfl, rfl, fm1, h1, R1, th1⟩ | ⟨s1, rfl, fm1, h1, R1, th1, hno1⟩ | ⟨s1, rfl, fm1, h1, R1, th1, htt1, hP1⟩)
  · have ei1 : sp_i (nI i1) = i1 := sp_in' (by omega)
    have ek1 : sp_i (nI k1) = k1 := sp_in' (by omega)
    refine j_if_eq (tgt := 14) dX11_computeIfPresent_9 (by decide) (fun c_9_11 => ?_) (fun c_9_11 => ?_)
    · refine j_aload_n dX11_computeIfPresent_14 rfl rfl ?_
      refine j_iload_n dX11_computeIfPresent_15 rfl ?_
      refine j_iload_n dX11_computeIfPresent_16 rfl ?_
      refine j_callV (q := (RX11, TX11, 8)) dX11_computeIfPresent_17 kX11_valueOf lX11_145 inX11_valueOf seX11_valueOf h1.m rfl (cx_valueOf hl w1 S _ (i1) (k1) h1 R1 (by omega) (by omega)) (Nat.le_of_ble_eq_true rfl) ⟨(Nat.le_of_ble_eq_true rfl), (Nat.le_of_ble_eq_true rfl)⟩ rfl (Nat.le_of_ble_eq_true rfl) rfl rfl (fun _ _ h => h.elim) ?_
      rintro _ _ ⟨rfl, hw497⟩
      refine j_w w1 hw497 ?_
      refine j_istore (lo' := [(5, _), (0, _), (1, _), (2, _), (3, _), (4, _)]) dX11_computeIfPresent_20 (by decide) rfl ?_
      refine j_iload dX11_computeIfPresent_22 rfl ?_
      refine j_sipush (v := (-1000)) dX11_computeIfPresent_24 (by decide) ?_
      refine j_icmp_ne (tgt := 36) dX11_computeIfPresent_27 (by decide) (fun c_27_21 => ?_) (fun c_27_21 => ?_)
      · refine j_aload_n dX11_computeIfPresent_36 rfl rfl ?_
        refine j_iload_n dX11_computeIfPresent_37 rfl ?_
        refine j_iload_n dX11_computeIfPresent_38 rfl ?_
        refine j_iload_n dX11_computeIfPresent_39 rfl ?_
        refine j_iload_n dX11_computeIfPresent_40 rfl ?_
        refine j_iload dX11_computeIfPresent_41 rfl ?_
        refine j_iload dX11_computeIfPresent_43 rfl ?_
        refine j_callS dX11_computeIfPresent_45 kX11_rule lX11_115 stX11_rule (cm_rule_r hl w1 _ _ _ _ (sp_lk99 (ok.2.1 i1 (by omega))) (sp_vl (by assumption)).2) (Nat.le_of_ble_eq_true rfl) ⟨(Nat.le_of_ble_eq_true rfl), (Nat.le_of_ble_eq_true rfl)⟩ rfl (Nat.le_of_ble_eq_true rfl) rfl rfl (fun _ _ h => h.elim) ?_
        rintro _ _ ⟨⟨rfl, hq498⟩ | ⟨y498, rfl, hq498, hne498⟩, hw498⟩
        · refine j_w w1 hw498 ?_
          refine j_callV (q := (RX11, TX11, 8)) dX11_computeIfPresent_48 kX11_become lX11_159 inX11_become seX11_become h1.m rfl (cx_become_n hl w1 S _ (i1) (k1) h1 R1 (by omega) (by omega) (ok.2.1 (i1) (by omega))) (Nat.le_of_ble_eq_true rfl) ⟨(Nat.le_of_ble_eq_true rfl), (Nat.le_of_ble_eq_true rfl)⟩ rfl (Nat.le_of_ble_eq_true rfl) rfl rfl (fun _ _ h => h.elim) ?_
          rintro _ w2 ⟨s2, rfl, fm2, h2, R2, th2⟩
          have tx2 := th2.trans th1
          refine j_iret dX11_computeIfPresent_51 rfl rfl ?_ (Nat.le_of_ble_eq_true rfl) (Nat.le_of_ble_eq_true rfl)
          refine cast (congrFun (congrFun hQ9 _) _) ?_
          try rw [ei1]
          try rw [ek1]
          refine ⟨_, _, rfl, ((fm1.le (q' := 59) (by decide)).tr (fm2.le (q' := 59) (by decide))), h2, sp_X0 ?_ tx2 (by rw [sp_cip, if_neg c_27_21, hq498]; exact R2) (by rw [sp_cip, if_neg c_27_21, hq498, sp_becf])⟩
          first | (first | (refine sp_k32_0 ?_ ?_ <;> (first | (with_reducible assumption) | (refine Or.inl ?_; (with_reducible assumption)) | (refine Or.inr ?_; (with_reducible assumption)) | (refine Or.inr (Or.inl ?_); (with_reducible assumption)) | (refine Or.inr (Or.inr ?_); (with_reducible assumption)) | (refine Or.inr (Or.inr (Or.inl ?_)); (with_reducible assumption)) | (refine Or.inr (Or.inr (Or.inr ?_)); (with_reducible assumption)) | (refine fun z => Or.elim z ?_ ?_ <;> (with_reducible assumption)) | (refine fun z => Or.elim z ?_ (fun z => Or.elim z ?_ ?_) <;> (with_reducible assumption)) | (refine fun z => Or.elim z ?_ (fun z => Or.elim z ?_ (fun z => Or.elim z ?_ ?_)) <;> (with_reducible assumption)) | (refine fun z => Or.elim z (fun z9 => z9 ?_) ?_ <;> (first | (with_reducible assumption) | (refine Or.inl ?_; (with_reducible assumption)) | (refine Or.inr (Or.inl ?_); (with_reducible assumption)) | (refine Or.inr (Or.inr ?_); (with_reducible assumption)) | (refine Or.inr (Or.inr (Or.inl ?_)); (with_reducible assumption)) | (refine Or.inr (Or.inr (Or.inr ?_)); (with_reducible assumption)))) | (refine Or.inl (fun z => Or.elim z ?_ (fun z => Or.elim z ?_ ?_)) <;> (with_reducible assumption)) | (refine Or.inl (fun z => Or.elim z ?_ (fun z => Or.elim z ?_ (fun z => Or.elim z ?_ ?_))) <;> (with_reducible assumption))))) | (first | (refine sp_k32_0 ?_ ?_ <;> (first | assumption | (refine Or.inl ?_; assumption) | (refine Or.inr ?_; assumption) | (refine Or.inr (Or.inl ?_); assumption) | (refine Or.inr (Or.inr ?_); assumption) | (refine Or.inr (Or.inr (Or.inl ?_)); assumption) | (refine Or.inr (Or.inr (Or.inr ?_)); assumption) | (refine fun z => Or.elim z ?_ ?_ <;> assumption) | (refine fun z => Or.elim z ?_ (fun z => Or.elim z ?_ ?_) <;> assumption) | (refine fun z => Or.elim z ?_ (fun z => Or.elim z ?_ (fun z => Or.elim z ?_ ?_)) <;> assumption) | (refine fun z => Or.elim z (fun z9 => z9 ?_) ?_ <;> (first | assumption | (refine Or.inl ?_; assumption) | (refine Or.inr (Or.inl ?_); assumption) | (refine Or.inr (Or.inr ?_); assumption) | (refine Or.inr (Or.inr (Or.inl ?_)); assumption) | (refine Or.inr (Or.inr (Or.inr ?_)); assumption))) | (refine Or.inl (fun z => Or.elim z ?_ (fun z => Or.elim z ?_ ?_)) <;> assumption) | (refine Or.inl (fun z => Or.elim z ?_ (fun z => Or.elim z ?_ (fun z => Or.elim z ?_ ?_))) <;> assumption))))
        · refine j_w w1 hw498 ?_
          refine j_callV (q := (RX11, TX11, 8)) dX11_computeIfPresent_48 kX11_become lX11_159 inX11_become seX11_become h1.m rfl (cx_become_s hl w1 S _ (i1) (k1) y498 h1 R1 (by omega) (by omega) (ok.2.1 (i1) (by omega)) hne498) (Nat.le_of_ble_eq_true rfl) ⟨(Nat.le_of_ble_eq_true rfl), (Nat.le_of_ble_eq_true rfl)⟩ rfl (Nat.le_of_ble_eq_true rfl) rfl rfl (fun _ _ h => h.elim) ?_
          rintro _ w3 ⟨s3, rfl, fm3, h3, R3, th3⟩
          have tx3 := th3.trans th1
          refine j_iret dX11_computeIfPresent_51 rfl rfl ?_ (Nat.le_of_ble_eq_true rfl) (Nat.le_of_ble_eq_true rfl)
          refine cast (congrFun (congrFun hQ9 _) _) ?_
          try rw [ei1]
          try rw [ek1]
          refine ⟨_, _, rfl, ((fm1.le (q' := 59) (by decide)).tr (fm3.le (q' := 59) (by decide))), h3, sp_X0 ?_ tx3 (by rw [sp_cip, if_neg c_27_21, hq498]; exact R3) (by rw [sp_cip, if_neg c_27_21, hq498, sp_becf])⟩
          first | (first | (refine sp_k32_0 ?_ ?_ <;> (first | (with_reducible assumption) | (refine Or.inl ?_; (with_reducible assumption)) | (refine Or.inr ?_; (with_reducible assumption)) | (refine Or.inr (Or.inl ?_); (with_reducible assumption)) | (refine Or.inr (Or.inr ?_); (with_reducible assumption)) | (refine Or.inr (Or.inr (Or.inl ?_)); (with_reducible assumption)) | (refine Or.inr (Or.inr (Or.inr ?_)); (with_reducible assumption)) | (refine fun z => Or.elim z ?_ ?_ <;> (with_reducible assumption)) | (refine fun z => Or.elim z ?_ (fun z => Or.elim z ?_ ?_) <;> (with_reducible assumption)) | (refine fun z => Or.elim z ?_ (fun z => Or.elim z ?_ (fun z => Or.elim z ?_ ?_)) <;> (with_reducible assumption)) | (refine fun z => Or.elim z (fun z9 => z9 ?_) ?_ <;> (first | (with_reducible assumption) | (refine Or.inl ?_; (with_reducible assumption)) | (refine Or.inr (Or.inl ?_); (with_reducible assumption)) | (refine Or.inr (Or.inr ?_); (with_reducible assumption)) | (refine Or.inr (Or.inr (Or.inl ?_)); (with_reducible assumption)) | (refine Or.inr (Or.inr (Or.inr ?_)); (with_reducible assumption)))) | (refine Or.inl (fun z => Or.elim z ?_ (fun z => Or.elim z ?_ ?_)) <;> (with_reducible assumption)) | (refine Or.inl (fun z => Or.elim z ?_ (fun z => Or.elim z ?_ (fun z => Or.elim z ?_ ?_))) <;> (with_reducible assumption))))) | (first | (refine sp_k32_0 ?_ ?_ <;> (first | assumption | (refine Or.inl ?_; assumption) | (refine Or.inr ?_; assumption) | (refine Or.inr (Or.inl ?_); assumption) | (refine Or.inr (Or.inr ?_); assumption) | (refine Or.inr (Or.inr (Or.inl ?_)); assumption) | (refine Or.inr (Or.inr (Or.inr ?_)); assumption) | (refine fun z => Or.elim z ?_ ?_ <;> assumption) | (refine fun z => Or.elim z ?_ (fun z => Or.elim z ?_ ?_) <;> assumption) | (refine fun z => Or.elim z ?_ (fun z => Or.elim z ?_ (fun z => Or.elim z ?_ ?_)) <;> assumption) | (refine fun z => Or.elim z (fun z9 => z9 ?_) ?_ <;> (first | assumption | (refine Or.inl ?_; assumption) | (refine Or.inr (Or.inl ?_); assumption) | (refine Or.inr (Or.inr ?_); assumption) | (refine Or.inr (Or.inr (Or.inl ?_)); assumption) | (refine Or.inr (Or.inr (Or.inr ?_)); assumption))) | (refine Or.inl (fun z => Or.elim z ?_ (fun z => Or.elim z ?_ ?_)) <;> assumption) | (refine Or.inl (fun z => Or.elim z ?_ (fun z => Or.elim z ?_ (fun z => Or.elim z ?_ ?_))) <;> assumption))))
      · refine j_sipush (v := (-1000)) dX11_computeIfPresent_30 (by decide) ?_
        refine j_goto (tgt := 51) dX11_computeIfPresent_33 (by decide) ?_
        refine j_iret dX11_computeIfPresent_51 rfl rfl ?_ (Nat.le_of_ble_eq_true rfl) (Nat.le_of_ble_eq_true rfl)
        refine cast (congrFun (congrFun hQ9 _) _) ?_
        try rw [ei1]
        try rw [ek1]
        refine ⟨_, _, rfl, (fm1.le (q' := 59) (by decide)), h1, sp_X0 ?_ th1 (by rw [sp_cip, if_pos c_27_21, sp_tb_id]; exact R1) (by rw [sp_cip, if_pos c_27_21]; rfl)⟩
        first | (first | (refine sp_k32_0 ?_ ?_ <;> (first | (with_reducible assumption) | (refine Or.inl ?_; (with_reducible assumption)) | (refine Or.inr ?_; (with_reducible assumption)) | (refine Or.inr (Or.inl ?_); (with_reducible assumption)) | (refine Or.inr (Or.inr ?_); (with_reducible assumption)) | (refine Or.inr (Or.inr (Or.inl ?_)); (with_reducible assumption)) | (refine Or.inr (Or.inr (Or.inr ?_)); (with_reducible assumption)) | (refine fun z => Or.elim z ?_ ?_ <;> (with_reducible assumption)) | (refine fun z => Or.elim z ?_ (fun z => Or.elim z ?_ ?_) <;> (with_reducible assumption)) | (refine fun z => Or.elim z ?_ (fun z => Or.elim z ?_ (fun z => Or.elim z ?_ ?_)) <;> (with_reducible assumption)) | (refine fun z => Or.elim z (fun z9 => z9 ?_) ?_ <;> (first | (with_reducible assumption) | (refine Or.inl ?_; (with_reducible assumption)) | (refine Or.inr (Or.inl ?_); (with_reducible assumption)) | (refine Or.inr (Or.inr ?_); (with_reducible assumption)) | (refine Or.inr (Or.inr (Or.inl ?_)); (with_reducible assumption)) | (refine Or.inr (Or.inr (Or.inr ?_)); (with_reducible assumption)))) | (refine Or.inl (fun z => Or.elim z ?_ (fun z => Or.elim z ?_ ?_)) <;> (with_reducible assumption)) | (refine Or.inl (fun z => Or.elim z ?_ (fun z => Or.elim z ?_ (fun z => Or.elim z ?_ ?_))) <;> (with_reducible assumption))))) | (first | (refine sp_k32_0 ?_ ?_ <;> (first | assumption | (refine Or.inl ?_; assumption) | (refine Or.inr ?_; assumption) | (refine Or.inr (Or.inl ?_); assumption) | (refine Or.inr (Or.inr ?_); assumption) | (refine Or.inr (Or.inr (Or.inl ?_)); assumption) | (refine Or.inr (Or.inr (Or.inr ?_)); assumption) | (refine fun z => Or.elim z ?_ ?_ <;> assumption) | (refine fun z => Or.elim z ?_ (fun z => Or.elim z ?_ ?_) <;> assumption) | (refine fun z => Or.elim z ?_ (fun z => Or.elim z ?_ (fun z => Or.elim z ?_ ?_)) <;> assumption) | (refine fun z => Or.elim z (fun z9 => z9 ?_) ?_ <;> (first | assumption | (refine Or.inl ?_; assumption) | (refine Or.inr (Or.inl ?_); assumption) | (refine Or.inr (Or.inr ?_); assumption) | (refine Or.inr (Or.inr (Or.inl ?_)); assumption) | (refine Or.inr (Or.inr (Or.inr ?_)); assumption))) | (refine Or.inl (fun z => Or.elim z ?_ (fun z => Or.elim z ?_ ?_)) <;> assumption) | (refine Or.inl (fun z => Or.elim z ?_ (fun z => Or.elim z ?_ (fun z => Or.elim z ?_ ?_))) <;> assumption))))
    · exact absurd c_9_11 (by decide)
  · refine j_if_eq (tgt := 14) dX11_computeIfPresent_9 (by decide) (fun c_9_60 => ?_) (fun c_9_60 => ?_)
    · exact absurd c_9_60 (by decide)
    · refine j_iconst (v := 0) dX11_computeIfPresent_12 (by decide) ?_
      refine j_iret dX11_computeIfPresent_13 rfl rfl ?_ (Nat.le_of_ble_eq_true rfl) (Nat.le_of_ble_eq_true rfl)
      refine cast (congrFun (congrFun hQ9 _) _) ?_
      refine ⟨_, _, rfl, (fm1.le (q' := 59) (by decide)), h1, sp_X1 (k := 1) ?_ (by decide) th1 R1⟩
      first | (first | (refine sp_k32_1 ?_ <;> (first | (with_reducible assumption) | (refine Or.inl ?_; (with_reducible assumption)) | (refine Or.inr ?_; (with_reducible assumption)) | (refine Or.inr (Or.inl ?_); (with_reducible assumption)) | (refine Or.inr (Or.inr ?_); (with_reducible assumption)) | (refine Or.inr (Or.inr (Or.inl ?_)); (with_reducible assumption)) | (refine Or.inr (Or.inr (Or.inr ?_)); (with_reducible assumption)) | (refine fun z => Or.elim z ?_ ?_ <;> (with_reducible assumption)) | (refine fun z => Or.elim z ?_ (fun z => Or.elim z ?_ ?_) <;> (with_reducible assumption)) | (refine fun z => Or.elim z ?_ (fun z => Or.elim z ?_ (fun z => Or.elim z ?_ ?_)) <;> (with_reducible assumption)) | (refine fun z => Or.elim z (fun z9 => z9 ?_) ?_ <;> (first | (with_reducible assumption) | (refine Or.inl ?_; (with_reducible assumption)) | (refine Or.inr (Or.inl ?_); (with_reducible assumption)) | (refine Or.inr (Or.inr ?_); (with_reducible assumption)) | (refine Or.inr (Or.inr (Or.inl ?_)); (with_reducible assumption)) | (refine Or.inr (Or.inr (Or.inr ?_)); (with_reducible assumption)))) | (refine Or.inl (fun z => Or.elim z ?_ (fun z => Or.elim z ?_ ?_)) <;> (with_reducible assumption)) | (refine Or.inl (fun z => Or.elim z ?_ (fun z => Or.elim z ?_ (fun z => Or.elim z ?_ ?_))) <;> (with_reducible assumption))))) | (first | (refine sp_k32_1 ?_ <;> (first | assumption | (refine Or.inl ?_; assumption) | (refine Or.inr ?_; assumption) | (refine Or.inr (Or.inl ?_); assumption) | (refine Or.inr (Or.inr ?_); assumption) | (refine Or.inr (Or.inr (Or.inl ?_)); assumption) | (refine Or.inr (Or.inr (Or.inr ?_)); assumption) | (refine fun z => Or.elim z ?_ ?_ <;> assumption) | (refine fun z => Or.elim z ?_ (fun z => Or.elim z ?_ ?_) <;> assumption) | (refine fun z => Or.elim z ?_ (fun z => Or.elim z ?_ (fun z => Or.elim z ?_ ?_)) <;> assumption) | (refine fun z => Or.elim z (fun z9 => z9 ?_) ?_ <;> (first | assumption | (refine Or.inl ?_; assumption) | (refine Or.inr (Or.inl ?_); assumption) | (refine Or.inr (Or.inr ?_); assumption) | (refine Or.inr (Or.inr (Or.inl ?_)); assumption) | (refine Or.inr (Or.inr (Or.inr ?_)); assumption))) | (refine Or.inl (fun z => Or.elim z ?_ (fun z => Or.elim z ?_ ?_)) <;> assumption) | (refine Or.inl (fun z => Or.elim z ?_ (fun z => Or.elim z ?_ (fun z => Or.elim z ?_ ?_))) <;> assumption))))
  · refine j_if_eq (tgt := 14) dX11_computeIfPresent_9 (by decide) (fun c_9_67 => ?_) (fun c_9_67 => ?_)
    · exact absurd c_9_67 (by decide)
    · refine j_iconst (v := 0) dX11_computeIfPresent_12 (by decide) ?_
      refine j_iret dX11_computeIfPresent_13 rfl rfl ?_ (Nat.le_of_ble_eq_true rfl) (Nat.le_of_ble_eq_true rfl)
      refine cast (congrFun (congrFun hQ9 _) _) ?_
      refine ⟨_, _, rfl, (fm1.le (q' := 59) (by decide)), h1, sp_X1 (k := 2) ?_ (by decide) th1 R1⟩
      first | (first | (refine sp_k32_2 ?_ ?_ <;> (first | (with_reducible assumption) | (refine Or.inl ?_; (with_reducible assumption)) | (refine Or.inr ?_; (with_reducible assumption)) | (refine Or.inr (Or.inl ?_); (with_reducible assumption)) | (refine Or.inr (Or.inr ?_); (with_reducible assumption)) | (refine Or.inr (Or.inr (Or.inl ?_)); (with_reducible assumption)) | (refine Or.inr (Or.inr (Or.inr ?_)); (with_reducible assumption)) | (refine fun z => Or.elim z ?_ ?_ <;> (with_reducible assumption)) | (refine fun z => Or.elim z ?_ (fun z => Or.elim z ?_ ?_) <;> (with_reducible assumption)) | (refine fun z => Or.elim z ?_ (fun z => Or.elim z ?_ (fun z => Or.elim z ?_ ?_)) <;> (with_reducible assumption)) | (refine fun z => Or.elim z (fun z9 => z9 ?_) ?_ <;> (first | (with_reducible assumption) | (refine Or.inl ?_; (with_reducible assumption)) | (refine Or.inr (Or.inl ?_); (with_reducible assumption)) | (refine Or.inr (Or.inr ?_); (with_reducible assumption)) | (refine Or.inr (Or.inr (Or.inl ?_)); (with_reducible assumption)) | (refine Or.inr (Or.inr (Or.inr ?_)); (with_reducible assumption)))) | (refine Or.inl (fun z => Or.elim z ?_ (fun z => Or.elim z ?_ ?_)) <;> (with_reducible assumption)) | (refine Or.inl (fun z => Or.elim z ?_ (fun z => Or.elim z ?_ (fun z => Or.elim z ?_ ?_))) <;> (with_reducible assumption))))) | (first | (refine sp_k32_2 ?_ ?_ <;> (first | assumption | (refine Or.inl ?_; assumption) | (refine Or.inr ?_; assumption) | (refine Or.inr (Or.inl ?_); assumption) | (refine Or.inr (Or.inr ?_); assumption) | (refine Or.inr (Or.inr (Or.inl ?_)); assumption) | (refine Or.inr (Or.inr (Or.inr ?_)); assumption) | (refine fun z => Or.elim z ?_ ?_ <;> assumption) | (refine fun z => Or.elim z ?_ (fun z => Or.elim z ?_ ?_) <;> assumption) | (refine fun z => Or.elim z ?_ (fun z => Or.elim z ?_ (fun z => Or.elim z ?_ ?_)) <;> assumption) | (refine fun z => Or.elim z (fun z9 => z9 ?_) ?_ <;> (first | assumption | (refine Or.inl ?_; assumption) | (refine Or.inr (Or.inl ?_); assumption) | (refine Or.inr (Or.inr ?_); assumption) | (refine Or.inr (Or.inr (Or.inl ?_)); assumption) | (refine Or.inr (Or.inr (Or.inr ?_)); assumption))) | (refine Or.inl (fun z => Or.elim z ?_ (fun z => Or.elim z ?_ ?_)) <;> assumption) | (refine Or.inl (fun z => Or.elim z ?_ (fun z => Or.elim z ?_ (fun z => Or.elim z ?_ ?_))) <;> assumption))))
set_option maxRecDepth 100000 in
set_option maxHeartbeats 8000000 in
theorem cx_compute (hl : l.stackTraces = false) (w : z_W) (S : sp_S) (s : z_Z) (t : Int32) (k : Int32) (r : Int32) (n : Int32) (h : z_mst w s) (R : sp_MR S s) (ok : sp_ok S) : z_Con G l mX11_compute 26 2 52 w [.ref 1000, .int t, .int k, .int r, .int n] (fun v w9 => ∃ (r9 : Int32) (s9 : z_Z), v = some (.int r9) ∧ z_fm 59 w w9 ∧ z_mst w9 s9 ∧ s9.1.1 = sp_k32 t (sp_bk k ∨ (r < 0 ∨ 5 < r) ∨ sp_bv n) ∧ sp_MR (if sp_k32 t (sp_bk k ∨ (r < 0 ∨ 5 < r) ∨ sp_bv n) = 0 then sp_tb S (sp_i t) (sp_cmp (sp_srt (sp_i t)) (sp_T S (sp_i t)) (sp_C S 2) (sp_i k) r n) else S) s9 ∧ (sp_k32 t (sp_bk k ∨ (r < 0 ∨ 5 < r) ∨ sp_bv n) = 0 → r9 = (sp_cmp (sp_srt (sp_i t)) (sp_T S (sp_i t)) (sp_C S 2) (sp_i k) r n).1.getD (-9))) (fun _ _ => False) := by
  generalize hQ9 : (fun (v : Option Value) (w9 : z_W) => ∃ (r9 : Int32) (s9 : z_Z), v = some (.int r9) ∧ z_fm 59 w w9 ∧ z_mst w9 s9 ∧ s9.1.1 = sp_k32 t (sp_bk k ∨ (r < 0 ∨ 5 < r) ∨ sp_bv n) ∧ sp_MR (if sp_k32 t (sp_bk k ∨ (r < 0 ∨ 5 < r) ∨ sp_bv n) = 0 then sp_tb S (sp_i t) (sp_cmp (sp_srt (sp_i t)) (sp_T S (sp_i t)) (sp_C S 2) (sp_i k) r n) else S) s9 ∧ (sp_k32 t (sp_bk k ∨ (r < 0 ∨ 5 < r) ∨ sp_bv n) = 0 → r9 = (sp_cmp (sp_srt (sp_i t)) (sp_T S (sp_i t)) (sp_C S 2) (sp_i k) r n).1.getD (-9))) = Q9
  refine z_body hl (by decide) rfl (Nat.le_of_ble_eq_true rfl) ?_
  show z_J G l mX11_compute _ 0 [(0, _), (1, _), (2, _), (3, _), (4, _)] [] _ 0 0
  refine j_aload_n dX11_compute_0 rfl rfl ?_
  refine j_iload_n dX11_compute_1 rfl ?_
  refine j_iload_n dX11_compute_2 rfl ?_
  refine j_iload_n dX11_compute_3 rfl ?_
  refine j_iload dX11_compute_4 rfl ?_
  refine j_callV (q := (RX11, TX11, 8)) dX11_compute_6 kX11_isNoRule lX11_155 inX11_isNoRule seX11_isNoRule h.m rfl (cx_isNoRule hl w S _ _ _ _ _ h R) (Nat.le_of_ble_eq_true rfl) ⟨(Nat.le_of_ble_eq_true rfl), (Nat.le_of_ble_eq_true rfl)⟩ rfl (Nat.le_of_ble_eq_true rfl) rfl rfl (fun _ _ h => h.elim) ?_
  rintro _ w1 (⟨i1, k1, s1, rfl, hi1, hk1, htt1, hbk1, hbr1, hbv1, rfl, rfl, fm1, h1, R1, th1⟩ | ⟨s1, rfl, fm1, h1, R1, th1, hno1⟩ | ⟨s1, rfl, fm1, h1, R1, th1, htt1, hP1⟩)
  · have ei1 : sp_i (nI i1) = i1 := sp_in' (by omega)
    have ek1 : sp_i (nI k1) = k1 := sp_in' (by omega)
    refine j_if_eq (tgt := 14) dX11_compute_9 (by decide) (fun c_9_11 => ?_) (fun c_9_11 => ?_)
    · refine j_aload_n dX11_compute_14 rfl rfl ?_
      refine j_iload_n dX11_compute_15 rfl ?_
      refine j_iload_n dX11_compute_16 rfl ?_
      refine j_callV (q := (RX11, TX11, 8)) dX11_compute_17 kX11_valueOf lX11_145 inX11_valueOf seX11_valueOf h1.m rfl (cx_valueOf hl w1 S _ (i1) (k1) h1 R1 (by omega) (by omega)) (Nat.le_of_ble_eq_true rfl) ⟨(Nat.le_of_ble_eq_true rfl), (Nat.le_of_ble_eq_true rfl)⟩ rfl (Nat.le_of_ble_eq_true rfl) rfl rfl (fun _ _ h => h.elim) ?_
      rintro _ _ ⟨rfl, hw499⟩
      refine j_w w1 hw499 ?_
      refine j_istore (lo' := [(5, _), (0, _), (1, _), (2, _), (3, _), (4, _)]) dX11_compute_20 (by decide) rfl ?_
      refine j_aload_n dX11_compute_22 rfl rfl ?_
      refine j_iload_n dX11_compute_23 rfl ?_
      refine j_iload_n dX11_compute_24 rfl ?_
      refine j_iload_n dX11_compute_25 rfl ?_
      refine j_iload_n dX11_compute_26 rfl ?_
      refine j_iload dX11_compute_27 rfl ?_
      refine j_sipush (v := (-1000)) dX11_compute_29 (by decide) ?_
      refine j_icmp_ne (tgt := 39) dX11_compute_32 (by decide) (fun c_32_26 => ?_) (fun c_32_26 => ?_)
      · refine j_iload dX11_compute_39 rfl ?_
        refine j_iload dX11_compute_41 rfl ?_
        refine j_callS dX11_compute_43 kX11_rule lX11_115 stX11_rule (cm_rule_r hl w1 _ _ _ _ (sp_lk99 (ok.2.1 i1 (by omega))) (sp_vl (by assumption)).2) (Nat.le_of_ble_eq_true rfl) ⟨(Nat.le_of_ble_eq_true rfl), (Nat.le_of_ble_eq_true rfl)⟩ rfl (Nat.le_of_ble_eq_true rfl) rfl rfl (fun _ _ h => h.elim) ?_
        rintro _ _ ⟨⟨rfl, hq500⟩ | ⟨y500, rfl, hq500, hne500⟩, hw500⟩
        · refine j_w w1 hw500 ?_
          refine j_callV (q := (RX11, TX11, 8)) dX11_compute_46 kX11_become lX11_159 inX11_become seX11_become h1.m rfl (cx_become_n hl w1 S _ (i1) (k1) h1 R1 (by omega) (by omega) (ok.2.1 (i1) (by omega))) (Nat.le_of_ble_eq_true rfl) ⟨(Nat.le_of_ble_eq_true rfl), (Nat.le_of_ble_eq_true rfl)⟩ rfl (Nat.le_of_ble_eq_true rfl) rfl rfl (fun _ _ h => h.elim) ?_
          rintro _ w2 ⟨s2, rfl, fm2, h2, R2, th2⟩
          have tx2 := th2.trans th1
          refine j_iret dX11_compute_49 rfl rfl ?_ (Nat.le_of_ble_eq_true rfl) (Nat.le_of_ble_eq_true rfl)
          refine cast (congrFun (congrFun hQ9 _) _) ?_
          try rw [ei1]
          try rw [ek1]
          refine ⟨_, _, rfl, ((fm1.le (q' := 59) (by decide)).tr (fm2.le (q' := 59) (by decide))), h2, sp_X0 ?_ tx2 (by rw [sp_cmp, show q_d (sp_lk (sp_T S i1) k1) = _ from if_neg c_32_26, hq500]; exact R2) (by rw [sp_cmp, show q_d (sp_lk (sp_T S i1) k1) = _ from if_neg c_32_26, hq500, sp_becf])⟩
          first | (first | (refine sp_k32_0 ?_ ?_ <;> (first | (with_reducible assumption) | (refine Or.inl ?_; (with_reducible assumption)) | (refine Or.inr ?_; (with_reducible assumption)) | (refine Or.inr (Or.inl ?_); (with_reducible assumption)) | (refine Or.inr (Or.inr ?_); (with_reducible assumption)) | (refine Or.inr (Or.inr (Or.inl ?_)); (with_reducible assumption)) | (refine Or.inr (Or.inr (Or.inr ?_)); (with_reducible assumption)) | (refine fun z => Or.elim z ?_ ?_ <;> (with_reducible assumption)) | (refine fun z => Or.elim z ?_ (fun z => Or.elim z ?_ ?_) <;> (with_reducible assumption)) | (refine fun z => Or.elim z ?_ (fun z => Or.elim z ?_ (fun z => Or.elim z ?_ ?_)) <;> (with_reducible assumption)) | (refine fun z => Or.elim z (fun z9 => z9 ?_) ?_ <;> (first | (with_reducible assumption) | (refine Or.inl ?_; (with_reducible assumption)) | (refine Or.inr (Or.inl ?_); (with_reducible assumption)) | (refine Or.inr (Or.inr ?_); (with_reducible assumption)) | (refine Or.inr (Or.inr (Or.inl ?_)); (with_reducible assumption)) | (refine Or.inr (Or.inr (Or.inr ?_)); (with_reducible assumption)))) | (refine Or.inl (fun z => Or.elim z ?_ (fun z => Or.elim z ?_ ?_)) <;> (with_reducible assumption)) | (refine Or.inl (fun z => Or.elim z ?_ (fun z => Or.elim z ?_ (fun z => Or.elim z ?_ ?_))) <;> (with_reducible assumption))))) | (first | (refine sp_k32_0 ?_ ?_ <;> (first | assumption | (refine Or.inl ?_; assumption) | (refine Or.inr ?_; assumption) | (refine Or.inr (Or.inl ?_); assumption) | (refine Or.inr (Or.inr ?_); assumption) | (refine Or.inr (Or.inr (Or.inl ?_)); assumption) | (refine Or.inr (Or.inr (Or.inr ?_)); assumption) | (refine fun z => Or.elim z ?_ ?_ <;> assumption) | (refine fun z => Or.elim z ?_ (fun z => Or.elim z ?_ ?_) <;> assumption) | (refine fun z => Or.elim z ?_ (fun z => Or.elim z ?_ (fun z => Or.elim z ?_ ?_)) <;> assumption) | (refine fun z => Or.elim z (fun z9 => z9 ?_) ?_ <;> (first | assumption | (refine Or.inl ?_; assumption) | (refine Or.inr (Or.inl ?_); assumption) | (refine Or.inr (Or.inr ?_); assumption) | (refine Or.inr (Or.inr (Or.inl ?_)); assumption) | (refine Or.inr (Or.inr (Or.inr ?_)); assumption))) | (refine Or.inl (fun z => Or.elim z ?_ (fun z => Or.elim z ?_ ?_)) <;> assumption) | (refine Or.inl (fun z => Or.elim z ?_ (fun z => Or.elim z ?_ (fun z => Or.elim z ?_ ?_))) <;> assumption))))
        · refine j_w w1 hw500 ?_
          refine j_callV (q := (RX11, TX11, 8)) dX11_compute_46 kX11_become lX11_159 inX11_become seX11_become h1.m rfl (cx_become_s hl w1 S _ (i1) (k1) y500 h1 R1 (by omega) (by omega) (ok.2.1 (i1) (by omega)) hne500) (Nat.le_of_ble_eq_true rfl) ⟨(Nat.le_of_ble_eq_true rfl), (Nat.le_of_ble_eq_true rfl)⟩ rfl (Nat.le_of_ble_eq_true rfl) rfl rfl (fun _ _ h => h.elim) ?_
          rintro _ w3 ⟨s3, rfl, fm3, h3, R3, th3⟩
          have tx3 := th3.trans th1
          refine j_iret dX11_compute_49 rfl rfl ?_ (Nat.le_of_ble_eq_true rfl) (Nat.le_of_ble_eq_true rfl)
          refine cast (congrFun (congrFun hQ9 _) _) ?_
          try rw [ei1]
          try rw [ek1]
          refine ⟨_, _, rfl, ((fm1.le (q' := 59) (by decide)).tr (fm3.le (q' := 59) (by decide))), h3, sp_X0 ?_ tx3 (by rw [sp_cmp, show q_d (sp_lk (sp_T S i1) k1) = _ from if_neg c_32_26, hq500]; exact R3) (by rw [sp_cmp, show q_d (sp_lk (sp_T S i1) k1) = _ from if_neg c_32_26, hq500, sp_becf])⟩
          first | (first | (refine sp_k32_0 ?_ ?_ <;> (first | (with_reducible assumption) | (refine Or.inl ?_; (with_reducible assumption)) | (refine Or.inr ?_; (with_reducible assumption)) | (refine Or.inr (Or.inl ?_); (with_reducible assumption)) | (refine Or.inr (Or.inr ?_); (with_reducible assumption)) | (refine Or.inr (Or.inr (Or.inl ?_)); (with_reducible assumption)) | (refine Or.inr (Or.inr (Or.inr ?_)); (with_reducible assumption)) | (refine fun z => Or.elim z ?_ ?_ <;> (with_reducible assumption)) | (refine fun z => Or.elim z ?_ (fun z => Or.elim z ?_ ?_) <;> (with_reducible assumption)) | (refine fun z => Or.elim z ?_ (fun z => Or.elim z ?_ (fun z => Or.elim z ?_ ?_)) <;> (with_reducible assumption)) | (refine fun z => Or.elim z (fun z9 => z9 ?_) ?_ <;> (first | (with_reducible assumption) | (refine Or.inl ?_; (with_reducible assumption)) | (refine Or.inr (Or.inl ?_); (with_reducible assumption)) | (refine Or.inr (Or.inr ?_); (with_reducible assumption)) | (refine Or.inr (Or.inr (Or.inl ?_)); (with_reducible assumption)) | (refine Or.inr (Or.inr (Or.inr ?_)); (with_reducible assumption)))) | (refine Or.inl (fun z => Or.elim z ?_ (fun z => Or.elim z ?_ ?_)) <;> (with_reducible assumption)) | (refine Or.inl (fun z => Or.elim z ?_ (fun z => Or.elim z ?_ (fun z => Or.elim z ?_ ?_))) <;> (with_reducible assumption))))) | (first | (refine sp_k32_0 ?_ ?_ <;> (first | assumption | (refine Or.inl ?_; assumption) | (refine Or.inr ?_; assumption) | (refine Or.inr (Or.inl ?_); assumption) | (refine Or.inr (Or.inr ?_); assumption) | (refine Or.inr (Or.inr (Or.inl ?_)); assumption) | (refine Or.inr (Or.inr (Or.inr ?_)); assumption) | (refine fun z => Or.elim z ?_ ?_ <;> assumption) | (refine fun z => Or.elim z ?_ (fun z => Or.elim z ?_ ?_) <;> assumption) | (refine fun z => Or.elim z ?_ (fun z => Or.elim z ?_ (fun z => Or.elim z ?_ ?_)) <;> assumption) | (refine fun z => Or.elim z (fun z9 => z9 ?_) ?_ <;> (first | assumption | (refine Or.inl ?_; assumption) | (refine Or.inr (Or.inl ?_); assumption) | (refine Or.inr (Or.inr ?_); assumption) | (refine Or.inr (Or.inr (Or.inl ?_)); assumption) | (refine Or.inr (Or.inr (Or.inr ?_)); assumption))) | (refine Or.inl (fun z => Or.elim z ?_ (fun z => Or.elim z ?_ ?_)) <;> assumption) | (refine Or.inl (fun z => Or.elim z ?_ (fun z => Or.elim z ?_ (fun z => Or.elim z ?_ ?_))) <;> assumption))))
      · refine j_iconst (v := 0) dX11_compute_35 (by decide) ?_
        refine j_goto (tgt := 41) dX11_compute_36 (by decide) ?_
        refine j_iload dX11_compute_41 rfl ?_
        refine j_callS dX11_compute_43 kX11_rule lX11_115 stX11_rule (cm_rule_r hl w1 _ _ _ _ (by decide) (sp_vl (by assumption)).2) (Nat.le_of_ble_eq_true rfl) ⟨(Nat.le_of_ble_eq_true rfl), (Nat.le_of_ble_eq_true rfl)⟩ rfl (Nat.le_of_ble_eq_true rfl) rfl rfl (fun _ _ h => h.elim) ?_
        rintro _ _ ⟨⟨rfl, hq501⟩ | ⟨y501, rfl, hq501, hne501⟩, hw501⟩
        · refine j_w w1 hw501 ?_
          refine j_callV (q := (RX11, TX11, 8)) dX11_compute_46 kX11_become lX11_159 inX11_become seX11_become h1.m rfl (cx_become_n hl w1 S _ (i1) (k1) h1 R1 (by omega) (by omega) (ok.2.1 (i1) (by omega))) (Nat.le_of_ble_eq_true rfl) ⟨(Nat.le_of_ble_eq_true rfl), (Nat.le_of_ble_eq_true rfl)⟩ rfl (Nat.le_of_ble_eq_true rfl) rfl rfl (fun _ _ h => h.elim) ?_
          rintro _ w4 ⟨s4, rfl, fm4, h4, R4, th4⟩
          have tx4 := th4.trans th1
          refine j_iret dX11_compute_49 rfl rfl ?_ (Nat.le_of_ble_eq_true rfl) (Nat.le_of_ble_eq_true rfl)
          refine cast (congrFun (congrFun hQ9 _) _) ?_
          try rw [ei1]
          try rw [ek1]
          refine ⟨_, _, rfl, ((fm1.le (q' := 59) (by decide)).tr (fm4.le (q' := 59) (by decide))), h4, sp_X0 ?_ tx4 (by rw [sp_cmp, show q_d (sp_lk (sp_T S i1) k1) = _ from if_pos c_32_26, hq501]; exact R4) (by rw [sp_cmp, show q_d (sp_lk (sp_T S i1) k1) = _ from if_pos c_32_26, hq501, sp_becf])⟩
          first | (first | (refine sp_k32_0 ?_ ?_ <;> (first | (with_reducible assumption) | (refine Or.inl ?_; (with_reducible assumption)) | (refine Or.inr ?_; (with_reducible assumption)) | (refine Or.inr (Or.inl ?_); (with_reducible assumption)) | (refine Or.inr (Or.inr ?_); (with_reducible assumption)) | (refine Or.inr (Or.inr (Or.inl ?_)); (with_reducible assumption)) | (refine Or.inr (Or.inr (Or.inr ?_)); (with_reducible assumption)) | (refine fun z => Or.elim z ?_ ?_ <;> (with_reducible assumption)) | (refine fun z => Or.elim z ?_ (fun z => Or.elim z ?_ ?_) <;> (with_reducible assumption)) | (refine fun z => Or.elim z ?_ (fun z => Or.elim z ?_ (fun z => Or.elim z ?_ ?_)) <;> (with_reducible assumption)) | (refine fun z => Or.elim z (fun z9 => z9 ?_) ?_ <;> (first | (with_reducible assumption) | (refine Or.inl ?_; (with_reducible assumption)) | (refine Or.inr (Or.inl ?_); (with_reducible assumption)) | (refine Or.inr (Or.inr ?_); (with_reducible assumption)) | (refine Or.inr (Or.inr (Or.inl ?_)); (with_reducible assumption)) | (refine Or.inr (Or.inr (Or.inr ?_)); (with_reducible assumption)))) | (refine Or.inl (fun z => Or.elim z ?_ (fun z => Or.elim z ?_ ?_)) <;> (with_reducible assumption)) | (refine Or.inl (fun z => Or.elim z ?_ (fun z => Or.elim z ?_ (fun z => Or.elim z ?_ ?_))) <;> (with_reducible assumption))))) | (first | (refine sp_k32_0 ?_ ?_ <;> (first | assumption | (refine Or.inl ?_; assumption) | (refine Or.inr ?_; assumption) | (refine Or.inr (Or.inl ?_); assumption) | (refine Or.inr (Or.inr ?_); assumption) | (refine Or.inr (Or.inr (Or.inl ?_)); assumption) | (refine Or.inr (Or.inr (Or.inr ?_)); assumption) | (refine fun z => Or.elim z ?_ ?_ <;> assumption) | (refine fun z => Or.elim z ?_ (fun z => Or.elim z ?_ ?_) <;> assumption) | (refine fun z => Or.elim z ?_ (fun z => Or.elim z ?_ (fun z => Or.elim z ?_ ?_)) <;> assumption) | (refine fun z => Or.elim z (fun z9 => z9 ?_) ?_ <;> (first | assumption | (refine Or.inl ?_; assumption) | (refine Or.inr (Or.inl ?_); assumption) | (refine Or.inr (Or.inr ?_); assumption) | (refine Or.inr (Or.inr (Or.inl ?_)); assumption) | (refine Or.inr (Or.inr (Or.inr ?_)); assumption))) | (refine Or.inl (fun z => Or.elim z ?_ (fun z => Or.elim z ?_ ?_)) <;> assumption) | (refine Or.inl (fun z => Or.elim z ?_ (fun z => Or.elim z ?_ (fun z => Or.elim z ?_ ?_))) <;> assumption))))
        · refine j_w w1 hw501 ?_
          refine j_callV (q := (RX11, TX11, 8)) dX11_compute_46 kX11_become lX11_159 inX11_become seX11_become h1.m rfl (cx_become_s hl w1 S _ (i1) (k1) y501 h1 R1 (by omega) (by omega) (ok.2.1 (i1) (by omega)) hne501) (Nat.le_of_ble_eq_true rfl) ⟨(Nat.le_of_ble_eq_true rfl), (Nat.le_of_ble_eq_true rfl)⟩ rfl (Nat.le_of_ble_eq_true rfl) rfl rfl (fun _ _ h => h.elim) ?_
          rintro _ w5 ⟨s5, rfl, fm5, h5, R5, th5⟩
          have tx5 := th5.trans th1
          refine j_iret dX11_compute_49 rfl rfl ?_ (Nat.le_of_ble_eq_true rfl) (Nat.le_of_ble_eq_true rfl)
          refine cast (congrFun (congrFun hQ9 _) _) ?_
          try rw [ei1]
          try rw [ek1]
          refine ⟨_, _, rfl, ((fm1.le (q' := 59) (by decide)).tr (fm5.le (q' := 59) (by decide))), h5, sp_X0 ?_ tx5 (by rw [sp_cmp, show q_d (sp_lk (sp_T S i1) k1) = _ from if_pos c_32_26, hq501]; exact R5) (by rw [sp_cmp, show q_d (sp_lk (sp_T S i1) k1) = _ from if_pos c_32_26, hq501, sp_becf])⟩
          first | (first | (refine sp_k32_0 ?_ ?_ <;> (first | (with_reducible assumption) | (refine Or.inl ?_; (with_reducible assumption)) | (refine Or.inr ?_; (with_reducible assumption)) | (refine Or.inr (Or.inl ?_); (with_reducible assumption)) | (refine Or.inr (Or.inr ?_); (with_reducible assumption)) | (refine Or.inr (Or.inr (Or.inl ?_)); (with_reducible assumption)) | (refine Or.inr (Or.inr (Or.inr ?_)); (with_reducible assumption)) | (refine fun z => Or.elim z ?_ ?_ <;> (with_reducible assumption)) | (refine fun z => Or.elim z ?_ (fun z => Or.elim z ?_ ?_) <;> (with_reducible assumption)) | (refine fun z => Or.elim z ?_ (fun z => Or.elim z ?_ (fun z => Or.elim z ?_ ?_)) <;> (with_reducible assumption)) | (refine fun z => Or.elim z (fun z9 => z9 ?_) ?_ <;> (first | (with_reducible assumption) | (refine Or.inl ?_; (with_reducible assumption)) | (refine Or.inr (Or.inl ?_); (with_reducible assumption)) | (refine Or.inr (Or.inr ?_); (with_reducible assumption)) | (refine Or.inr (Or.inr (Or.inl ?_)); (with_reducible assumption)) | (refine Or.inr (Or.inr (Or.inr ?_)); (with_reducible assumption)))) | (refine Or.inl (fun z => Or.elim z ?_ (fun z => Or.elim z ?_ ?_)) <;> (with_reducible assumption)) | (refine Or.inl (fun z => Or.elim z ?_ (fun z => Or.elim z ?_ (fun z => Or.elim z ?_ ?_))) <;> (with_reducible assumption))))) | (first | (refine sp_k32_0 ?_ ?_ <;> (first | assumption | (refine Or.inl ?_; assumption) | (refine Or.inr ?_; assumption) | (refine Or.inr (Or.inl ?_); assumption) | (refine Or.inr (Or.inr ?_); assumption) | (refine Or.inr (Or.inr (Or.inl ?_)); assumption) | (refine Or.inr (Or.inr (Or.inr ?_)); assumption) | (refine fun z => Or.elim z ?_ ?_ <;> assumption) | (refine fun z => Or.elim z ?_ (fun z => Or.elim z ?_ ?_) <;> assumption) | (refine fun z => Or.elim z ?_ (fun z => Or.elim z ?_ (fun z => Or.elim z ?_ ?_)) <;> assumption) | (refine fun z => Or.elim z (fun z9 => z9 ?_) ?_ <;> (first | assumption | (refine Or.inl ?_; assumption) | (refine Or.inr (Or.inl ?_); assumption) | (refine Or.inr (Or.inr ?_); assumption) | (refine Or.inr (Or.inr (Or.inl ?_)); assumption) | (refine Or.inr (Or.inr (Or.inr ?_)); assumption))) | (refine Or.inl (fun z => Or.elim z ?_ (fun z => Or.elim z ?_ ?_)) <;> assumption) | (refine Or.inl (fun z => Or.elim z ?_ (fun z => Or.elim z ?_ (fun z => Or.elim z ?_ ?_))) <;> assumption))))
    · exact absurd c_9_11 (by decide)
  · refine j_if_eq (tgt := 14) dX11_compute_9 (by decide) (fun c_9_77 => ?_) (fun c_9_77 => ?_)
    · exact absurd c_9_77 (by decide)
    · refine j_iconst (v := 0) dX11_compute_12 (by decide) ?_
      refine j_iret dX11_compute_13 rfl rfl ?_ (Nat.le_of_ble_eq_true rfl) (Nat.le_of_ble_eq_true rfl)
      refine cast (congrFun (congrFun hQ9 _) _) ?_
      refine ⟨_, _, rfl, (fm1.le (q' := 59) (by decide)), h1, sp_X1 (k := 1) ?_ (by decide) th1 R1⟩
      first | (first | (refine sp_k32_1 ?_ <;> (first | (with_reducible assumption) | (refine Or.inl ?_; (with_reducible assumption)) | (refine Or.inr ?_; (with_reducible assumption)) | (refine Or.inr (Or.inl ?_); (with_reducible assumption)) | (refine Or.inr (Or.inr ?_); (with_reducible assumption)) | (refine Or.inr (Or.inr (Or.inl ?_)); (with_reducible assumption)) | (refine Or.inr (Or.inr (Or.inr ?_)); (with_reducible assumption)) | (refine fun z => Or.elim z ?_ ?_ <;> (with_reducible assumption)) | (refine fun z => Or.elim z ?_ (fun z => Or.elim z ?_ ?_) <;> (with_reducible assumption)) | (refine fun z => Or.elim z ?_ (fun z => Or.elim z ?_ (fun z => Or.elim z ?_ ?_)) <;> (with_reducible assumption)) | (refine fun z => Or.elim z (fun z9 => z9 ?_) ?_ <;> (first | (with_reducible assumption) | (refine Or.inl ?_; (with_reducible assumption)) | (refine Or.inr (Or.inl ?_); (with_reducible assumption)) | (refine Or.inr (Or.inr ?_); (with_reducible assumption)) | (refine Or.inr (Or.inr (Or.inl ?_)); (with_reducible assumption)) | (refine Or.inr (Or.inr (Or.inr ?_)); (with_reducible assumption)))) | (refine Or.inl (fun z => Or.elim z ?_ (fun z => Or.elim z ?_ ?_)) <;> (with_reducible assumption)) | (refine Or.inl (fun z => Or.elim z ?_ (fun z => Or.elim z ?_ (fun z => Or.elim z ?_ ?_))) <;> (with_reducible assumption))))) | (first | (refine sp_k32_1 ?_ <;> (first | assumption | (refine Or.inl ?_; assumption) | (refine Or.inr ?_; assumption) | (refine Or.inr (Or.inl ?_); assumption) | (refine Or.inr (Or.inr ?_); assumption) | (refine Or.inr (Or.inr (Or.inl ?_)); assumption) | (refine Or.inr (Or.inr (Or.inr ?_)); assumption) | (refine fun z => Or.elim z ?_ ?_ <;> assumption) | (refine fun z => Or.elim z ?_ (fun z => Or.elim z ?_ ?_) <;> assumption) | (refine fun z => Or.elim z ?_ (fun z => Or.elim z ?_ (fun z => Or.elim z ?_ ?_)) <;> assumption) | (refine fun z => Or.elim z (fun z9 => z9 ?_) ?_ <;> (first | assumption | (refine Or.inl ?_; assumption) | (refine Or.inr (Or.inl ?_); assumption) | (refine Or.inr (Or.inr ?_); assumption) | (refine Or.inr (Or.inr (Or.inl ?_)); assumption) | (refine Or.inr (Or.inr (Or.inr ?_)); assumption))) | (refine Or.inl (fun z => Or.elim z ?_ (fun z => Or.elim z ?_ ?_)) <;> assumption) | (refine Or.inl (fun z => Or.elim z ?_ (fun z => Or.elim z ?_ (fun z => Or.elim z ?_ ?_))) <;> assumption))))
  · refine j_if_eq (tgt := 14) dX11_compute_9 (by decide) (fun c_9_84 => ?_) (fun c_9_84 => ?_)
    · exact absurd c_9_84 (by decide)
    · refine j_iconst (v := 0) dX11_compute_12 (by decide) ?_
      refine j_iret dX11_compute_13 rfl rfl ?_ (Nat.le_of_ble_eq_true rfl) (Nat.le_of_ble_eq_true rfl)
      refine cast (congrFun (congrFun hQ9 _) _) ?_
      refine ⟨_, _, rfl, (fm1.le (q' := 59) (by decide)), h1, sp_X1 (k := 2) ?_ (by decide) th1 R1⟩
      first | (first | (refine sp_k32_2 ?_ ?_ <;> (first | (with_reducible assumption) | (refine Or.inl ?_; (with_reducible assumption)) | (refine Or.inr ?_; (with_reducible assumption)) | (refine Or.inr (Or.inl ?_); (with_reducible assumption)) | (refine Or.inr (Or.inr ?_); (with_reducible assumption)) | (refine Or.inr (Or.inr (Or.inl ?_)); (with_reducible assumption)) | (refine Or.inr (Or.inr (Or.inr ?_)); (with_reducible assumption)) | (refine fun z => Or.elim z ?_ ?_ <;> (with_reducible assumption)) | (refine fun z => Or.elim z ?_ (fun z => Or.elim z ?_ ?_) <;> (with_reducible assumption)) | (refine fun z => Or.elim z ?_ (fun z => Or.elim z ?_ (fun z => Or.elim z ?_ ?_)) <;> (with_reducible assumption)) | (refine fun z => Or.elim z (fun z9 => z9 ?_) ?_ <;> (first | (with_reducible assumption) | (refine Or.inl ?_; (with_reducible assumption)) | (refine Or.inr (Or.inl ?_); (with_reducible assumption)) | (refine Or.inr (Or.inr ?_); (with_reducible assumption)) | (refine Or.inr (Or.inr (Or.inl ?_)); (with_reducible assumption)) | (refine Or.inr (Or.inr (Or.inr ?_)); (with_reducible assumption)))) | (refine Or.inl (fun z => Or.elim z ?_ (fun z => Or.elim z ?_ ?_)) <;> (with_reducible assumption)) | (refine Or.inl (fun z => Or.elim z ?_ (fun z => Or.elim z ?_ (fun z => Or.elim z ?_ ?_))) <;> (with_reducible assumption))))) | (first | (refine sp_k32_2 ?_ ?_ <;> (first | assumption | (refine Or.inl ?_; assumption) | (refine Or.inr ?_; assumption) | (refine Or.inr (Or.inl ?_); assumption) | (refine Or.inr (Or.inr ?_); assumption) | (refine Or.inr (Or.inr (Or.inl ?_)); assumption) | (refine Or.inr (Or.inr (Or.inr ?_)); assumption) | (refine fun z => Or.elim z ?_ ?_ <;> assumption) | (refine fun z => Or.elim z ?_ (fun z => Or.elim z ?_ ?_) <;> assumption) | (refine fun z => Or.elim z ?_ (fun z => Or.elim z ?_ (fun z => Or.elim z ?_ ?_)) <;> assumption) | (refine fun z => Or.elim z (fun z9 => z9 ?_) ?_ <;> (first | assumption | (refine Or.inl ?_; assumption) | (refine Or.inr (Or.inl ?_); assumption) | (refine Or.inr (Or.inr ?_); assumption) | (refine Or.inr (Or.inr (Or.inl ?_)); assumption) | (refine Or.inr (Or.inr (Or.inr ?_)); assumption))) | (refine Or.inl (fun z => Or.elim z ?_ (fun z => Or.elim z ?_ ?_)) <;> assumption) | (refine Or.inl (fun z => Or.elim z ?_ (fun z => Or.elim z ?_ (fun z => Or.elim z ?_ ?_))) <;> assumption))))
set_option maxRecDepth 100000 in
set_option maxHeartbeats 8000000 in
theorem cx_merge (hl : l.stackTraces = false) (w : z_W) (S : sp_S) (s : z_Z) (t : Int32) (k : Int32) (y : Int32) (r : Int32) (h : z_mst w s) (R : sp_MR S s) (ok : sp_ok S) : z_Con G l mX11_merge 26 2 52 w [.ref 1000, .int t, .int k, .int y, .int r] (fun v w9 => ∃ (r9 : Int32) (s9 : z_Z), v = some (.int r9) ∧ z_fm 59 w w9 ∧ z_mst w9 s9 ∧ s9.1.1 = sp_k32 t (sp_bk k ∨ (r < 0 ∨ 5 < r) ∨ sp_bv y) ∧ sp_MR (if sp_k32 t (sp_bk k ∨ (r < 0 ∨ 5 < r) ∨ sp_bv y) = 0 then sp_tb S (sp_i t) (sp_mrg (sp_srt (sp_i t)) (sp_T S (sp_i t)) (sp_C S 2) (sp_i k) y r) else S) s9 ∧ (sp_k32 t (sp_bk k ∨ (r < 0 ∨ 5 < r) ∨ sp_bv y) = 0 → r9 = (sp_mrg (sp_srt (sp_i t)) (sp_T S (sp_i t)) (sp_C S 2) (sp_i k) y r).1.getD (-9))) (fun _ _ => False) := by
  generalize hQ9 : (fun (v : Option Value) (w9 : z_W) => ∃ (r9 : Int32) (s9 : z_Z), v = some (.int r9) ∧ z_fm 59 w w9 ∧ z_mst w9 s9 ∧ s9.1.1 = sp_k32 t (sp_bk k ∨ (r < 0 ∨ 5 < r) ∨ sp_bv y) ∧ sp_MR (if sp_k32 t (sp_bk k ∨ (r < 0 ∨ 5 < r) ∨ sp_bv y) = 0 then sp_tb S (sp_i t) (sp_mrg (sp_srt (sp_i t)) (sp_T S (sp_i t)) (sp_C S 2) (sp_i k) y r) else S) s9 ∧ (sp_k32 t (sp_bk k ∨ (r < 0 ∨ 5 < r) ∨ sp_bv y) = 0 → r9 = (sp_mrg (sp_srt (sp_i t)) (sp_T S (sp_i t)) (sp_C S 2) (sp_i k) y r).1.getD (-9))) = Q9
  refine z_body hl (by decide) rfl (Nat.le_of_ble_eq_true rfl) ?_
  show z_J G l mX11_merge _ 0 [(0, _), (1, _), (2, _), (3, _), (4, _)] [] _ 0 0
  refine j_aload_n dX11_merge_0 rfl rfl ?_
  refine j_iload_n dX11_merge_1 rfl ?_
  refine j_iload_n dX11_merge_2 rfl ?_
  refine j_iload dX11_merge_3 rfl ?_
  refine j_iload_n dX11_merge_5 rfl ?_
  refine j_callV (q := (RX11, TX11, 8)) dX11_merge_6 kX11_isNoRule lX11_155 inX11_isNoRule seX11_isNoRule h.m rfl (cx_isNoRule hl w S _ _ _ _ _ h R) (Nat.le_of_ble_eq_true rfl) ⟨(Nat.le_of_ble_eq_true rfl), (Nat.le_of_ble_eq_true rfl)⟩ rfl (Nat.le_of_ble_eq_true rfl) rfl rfl (fun _ _ h => h.elim) ?_
  rintro _ w1 (⟨i1, k1, s1, rfl, hi1, hk1, htt1, hbk1, hbr1, hbv1, rfl, rfl, fm1, h1, R1, th1⟩ | ⟨s1, rfl, fm1, h1, R1, th1, hno1⟩ | ⟨s1, rfl, fm1, h1, R1, th1, htt1, hP1⟩)
  · have ei1 : sp_i (nI i1) = i1 := sp_in' (by omega)
    have ek1 : sp_i (nI k1) = k1 := sp_in' (by omega)
    refine j_if_eq (tgt := 14) dX11_merge_9 (by decide) (fun c_9_11 => ?_) (fun c_9_11 => ?_)
    · refine j_aload_n dX11_merge_14 rfl rfl ?_
      refine j_iload_n dX11_merge_15 rfl ?_
      refine j_iload_n dX11_merge_16 rfl ?_
      refine j_callV (q := (RX11, TX11, 8)) dX11_merge_17 kX11_valueOf lX11_145 inX11_valueOf seX11_valueOf h1.m rfl (cx_valueOf hl w1 S _ (i1) (k1) h1 R1 (by omega) (by omega)) (Nat.le_of_ble_eq_true rfl) ⟨(Nat.le_of_ble_eq_true rfl), (Nat.le_of_ble_eq_true rfl)⟩ rfl (Nat.le_of_ble_eq_true rfl) rfl rfl (fun _ _ h => h.elim) ?_
      rintro _ _ ⟨rfl, hw502⟩
      refine j_w w1 hw502 ?_
      refine j_istore (lo' := [(5, _), (0, _), (1, _), (2, _), (3, _), (4, _)]) dX11_merge_20 (by decide) rfl ?_
      refine j_aload_n dX11_merge_22 rfl rfl ?_
      refine j_iload_n dX11_merge_23 rfl ?_
      refine j_iload_n dX11_merge_24 rfl ?_
      refine j_iload dX11_merge_25 rfl ?_
      refine j_sipush (v := (-1000)) dX11_merge_27 (by decide) ?_
      refine j_icmp_ne (tgt := 37) dX11_merge_30 (by decide) (fun c_30_24 => ?_) (fun c_30_24 => ?_)
      · refine j_iload dX11_merge_37 rfl ?_
        refine j_iload_n dX11_merge_39 rfl ?_
        refine j_iload dX11_merge_40 rfl ?_
        refine j_iload_n dX11_merge_42 rfl ?_
        refine j_callS dX11_merge_43 kX11_rule lX11_115 stX11_rule (cm_rule_r hl w1 _ _ _ _ (sp_lk99 (ok.2.1 i1 (by omega))) (sp_vl (by assumption)).2) (Nat.le_of_ble_eq_true rfl) ⟨(Nat.le_of_ble_eq_true rfl), (Nat.le_of_ble_eq_true rfl)⟩ rfl (Nat.le_of_ble_eq_true rfl) rfl rfl (fun _ _ h => h.elim) ?_
        rintro _ _ ⟨⟨rfl, hq503⟩ | ⟨y503, rfl, hq503, hne503⟩, hw503⟩
        · refine j_w w1 hw503 ?_
          refine j_callV (q := (RX11, TX11, 8)) dX11_merge_46 kX11_become lX11_159 inX11_become seX11_become h1.m rfl (cx_become_n hl w1 S _ (i1) (k1) h1 R1 (by omega) (by omega) (ok.2.1 (i1) (by omega))) (Nat.le_of_ble_eq_true rfl) ⟨(Nat.le_of_ble_eq_true rfl), (Nat.le_of_ble_eq_true rfl)⟩ rfl (Nat.le_of_ble_eq_true rfl) rfl rfl (fun _ _ h => h.elim) ?_
          rintro _ w2 ⟨s2, rfl, fm2, h2, R2, th2⟩
          have tx2 := th2.trans th1
          refine j_iret dX11_merge_49 rfl rfl ?_ (Nat.le_of_ble_eq_true rfl) (Nat.le_of_ble_eq_true rfl)
          refine cast (congrFun (congrFun hQ9 _) _) ?_
          try rw [ei1]
          try rw [ek1]
          refine ⟨_, _, rfl, ((fm1.le (q' := 59) (by decide)).tr (fm2.le (q' := 59) (by decide))), h2, sp_X0 ?_ tx2 (by rw [sp_mrg, if_neg c_30_24, hq503]; exact R2) (by rw [sp_mrg, if_neg c_30_24, hq503, sp_becf])⟩
          first | (first | (refine sp_k32_0 ?_ ?_ <;> (first | (with_reducible assumption) | (refine Or.inl ?_; (with_reducible assumption)) | (refine Or.inr ?_; (with_reducible assumption)) | (refine Or.inr (Or.inl ?_); (with_reducible assumption)) | (refine Or.inr (Or.inr ?_); (with_reducible assumption)) | (refine Or.inr (Or.inr (Or.inl ?_)); (with_reducible assumption)) | (refine Or.inr (Or.inr (Or.inr ?_)); (with_reducible assumption)) | (refine fun z => Or.elim z ?_ ?_ <;> (with_reducible assumption)) | (refine fun z => Or.elim z ?_ (fun z => Or.elim z ?_ ?_) <;> (with_reducible assumption)) | (refine fun z => Or.elim z ?_ (fun z => Or.elim z ?_ (fun z => Or.elim z ?_ ?_)) <;> (with_reducible assumption)) | (refine fun z => Or.elim z (fun z9 => z9 ?_) ?_ <;> (first | (with_reducible assumption) | (refine Or.inl ?_; (with_reducible assumption)) | (refine Or.inr (Or.inl ?_); (with_reducible assumption)) | (refine Or.inr (Or.inr ?_); (with_reducible assumption)) | (refine Or.inr (Or.inr (Or.inl ?_)); (with_reducible assumption)) | (refine Or.inr (Or.inr (Or.inr ?_)); (with_reducible assumption)))) | (refine Or.inl (fun z => Or.elim z ?_ (fun z => Or.elim z ?_ ?_)) <;> (with_reducible assumption)) | (refine Or.inl (fun z => Or.elim z ?_ (fun z => Or.elim z ?_ (fun z => Or.elim z ?_ ?_))) <;> (with_reducible assumption))))) | (first | (refine sp_k32_0 ?_ ?_ <;> (first | assumption | (refine Or.inl ?_; assumption) | (refine Or.inr ?_; assumption) | (refine Or.inr (Or.inl ?_); assumption) | (refine Or.inr (Or.inr ?_); assumption) | (refine Or.inr (Or.inr (Or.inl ?_)); assumption) | (refine Or.inr (Or.inr (Or.inr ?_)); assumption) | (refine fun z => Or.elim z ?_ ?_ <;> assumption) | (refine fun z => Or.elim z ?_ (fun z => Or.elim z ?_ ?_) <;> assumption) | (refine fun z => Or.elim z ?_ (fun z => Or.elim z ?_ (fun z => Or.elim z ?_ ?_)) <;> assumption) | (refine fun z => Or.elim z (fun z9 => z9 ?_) ?_ <;> (first | assumption | (refine Or.inl ?_; assumption) | (refine Or.inr (Or.inl ?_); assumption) | (refine Or.inr (Or.inr ?_); assumption) | (refine Or.inr (Or.inr (Or.inl ?_)); assumption) | (refine Or.inr (Or.inr (Or.inr ?_)); assumption))) | (refine Or.inl (fun z => Or.elim z ?_ (fun z => Or.elim z ?_ ?_)) <;> assumption) | (refine Or.inl (fun z => Or.elim z ?_ (fun z => Or.elim z ?_ (fun z => Or.elim z ?_ ?_))) <;> assumption))))
        · refine j_w w1 hw503 ?_
          refine j_callV (q := (RX11, TX11, 8)) dX11_merge_46 kX11_become lX11_159 inX11_become seX11_become h1.m rfl (cx_become_s hl w1 S _ (i1) (k1) y503 h1 R1 (by omega) (by omega) (ok.2.1 (i1) (by omega)) hne503) (Nat.le_of_ble_eq_true rfl) ⟨(Nat.le_of_ble_eq_true rfl), (Nat.le_of_ble_eq_true rfl)⟩ rfl (Nat.le_of_ble_eq_true rfl) rfl rfl (fun _ _ h => h.elim) ?_
          rintro _ w3 ⟨s3, rfl, fm3, h3, R3, th3⟩
          have tx3 := th3.trans th1
          refine j_iret dX11_merge_49 rfl rfl ?_ (Nat.le_of_ble_eq_true rfl) (Nat.le_of_ble_eq_true rfl)
          refine cast (congrFun (congrFun hQ9 _) _) ?_
          try rw [ei1]
          try rw [ek1]
          refine ⟨_, _, rfl, ((fm1.le (q' := 59) (by decide)).tr (fm3.le (q' := 59) (by decide))), h3, sp_X0 ?_ tx3 (by rw [sp_mrg, if_neg c_30_24, hq503]; exact R3) (by rw [sp_mrg, if_neg c_30_24, hq503, sp_becf])⟩
          first | (first | (refine sp_k32_0 ?_ ?_ <;> (first | (with_reducible assumption) | (refine Or.inl ?_; (with_reducible assumption)) | (refine Or.inr ?_; (with_reducible assumption)) | (refine Or.inr (Or.inl ?_); (with_reducible assumption)) | (refine Or.inr (Or.inr ?_); (with_reducible assumption)) | (refine Or.inr (Or.inr (Or.inl ?_)); (with_reducible assumption)) | (refine Or.inr (Or.inr (Or.inr ?_)); (with_reducible assumption)) | (refine fun z => Or.elim z ?_ ?_ <;> (with_reducible assumption)) | (refine fun z => Or.elim z ?_ (fun z => Or.elim z ?_ ?_) <;> (with_reducible assumption)) | (refine fun z => Or.elim z ?_ (fun z => Or.elim z ?_ (fun z => Or.elim z ?_ ?_)) <;> (with_reducible assumption)) | (refine fun z => Or.elim z (fun z9 => z9 ?_) ?_ <;> (first | (with_reducible assumption) | (refine Or.inl ?_; (with_reducible assumption)) | (refine Or.inr (Or.inl ?_); (with_reducible assumption)) | (refine Or.inr (Or.inr ?_); (with_reducible assumption)) | (refine Or.inr (Or.inr (Or.inl ?_)); (with_reducible assumption)) | (refine Or.inr (Or.inr (Or.inr ?_)); (with_reducible assumption)))) | (refine Or.inl (fun z => Or.elim z ?_ (fun z => Or.elim z ?_ ?_)) <;> (with_reducible assumption)) | (refine Or.inl (fun z => Or.elim z ?_ (fun z => Or.elim z ?_ (fun z => Or.elim z ?_ ?_))) <;> (with_reducible assumption))))) | (first | (refine sp_k32_0 ?_ ?_ <;> (first | assumption | (refine Or.inl ?_; assumption) | (refine Or.inr ?_; assumption) | (refine Or.inr (Or.inl ?_); assumption) | (refine Or.inr (Or.inr ?_); assumption) | (refine Or.inr (Or.inr (Or.inl ?_)); assumption) | (refine Or.inr (Or.inr (Or.inr ?_)); assumption) | (refine fun z => Or.elim z ?_ ?_ <;> assumption) | (refine fun z => Or.elim z ?_ (fun z => Or.elim z ?_ ?_) <;> assumption) | (refine fun z => Or.elim z ?_ (fun z => Or.elim z ?_ (fun z => Or.elim z ?_ ?_)) <;> assumption) | (refine fun z => Or.elim z (fun z9 => z9 ?_) ?_ <;> (first | assumption | (refine Or.inl ?_; assumption) | (refine Or.inr (Or.inl ?_); assumption) | (refine Or.inr (Or.inr ?_); assumption) | (refine Or.inr (Or.inr (Or.inl ?_)); assumption) | (refine Or.inr (Or.inr (Or.inr ?_)); assumption))) | (refine Or.inl (fun z => Or.elim z ?_ (fun z => Or.elim z ?_ ?_)) <;> assumption) | (refine Or.inl (fun z => Or.elim z ?_ (fun z => Or.elim z ?_ (fun z => Or.elim z ?_ ?_))) <;> assumption))))
      · refine j_iload_n dX11_merge_33 rfl ?_
        refine j_goto (tgt := 46) dX11_merge_34 (by decide) ?_
        refine j_callV (q := (RX11, TX11, 8)) dX11_merge_46 kX11_become lX11_159 inX11_become seX11_become h1.m rfl (cx_become_s hl w1 S _ (i1) (k1) y h1 R1 (by omega) (by omega) (ok.2.1 (i1) (by omega)) (sp_vl5 (by assumption))) (Nat.le_of_ble_eq_true rfl) ⟨(Nat.le_of_ble_eq_true rfl), (Nat.le_of_ble_eq_true rfl)⟩ rfl (Nat.le_of_ble_eq_true rfl) rfl rfl (fun _ _ h => h.elim) ?_
        rintro _ w4 ⟨s4, rfl, fm4, h4, R4, th4⟩
        have tx4 := th4.trans th1
        refine j_iret dX11_merge_49 rfl rfl ?_ (Nat.le_of_ble_eq_true rfl) (Nat.le_of_ble_eq_true rfl)
        refine cast (congrFun (congrFun hQ9 _) _) ?_
        try rw [ei1]
        try rw [ek1]
        refine ⟨_, _, rfl, ((fm1.le (q' := 59) (by decide)).tr (fm4.le (q' := 59) (by decide))), h4, sp_X0 ?_ tx4 (by rw [sp_mrg, if_pos c_30_24]; have e := R4; rw [sp_bec_v (by assumption)] at e; exact e) (by rw [sp_mrg, if_pos c_30_24])⟩
        first | (first | (refine sp_k32_0 ?_ ?_ <;> (first | (with_reducible assumption) | (refine Or.inl ?_; (with_reducible assumption)) | (refine Or.inr ?_; (with_reducible assumption)) | (refine Or.inr (Or.inl ?_); (with_reducible assumption)) | (refine Or.inr (Or.inr ?_); (with_reducible assumption)) | (refine Or.inr (Or.inr (Or.inl ?_)); (with_reducible assumption)) | (refine Or.inr (Or.inr (Or.inr ?_)); (with_reducible assumption)) | (refine fun z => Or.elim z ?_ ?_ <;> (with_reducible assumption)) | (refine fun z => Or.elim z ?_ (fun z => Or.elim z ?_ ?_) <;> (with_reducible assumption)) | (refine fun z => Or.elim z ?_ (fun z => Or.elim z ?_ (fun z => Or.elim z ?_ ?_)) <;> (with_reducible assumption)) | (refine fun z => Or.elim z (fun z9 => z9 ?_) ?_ <;> (first | (with_reducible assumption) | (refine Or.inl ?_; (with_reducible assumption)) | (refine Or.inr (Or.inl ?_); (with_reducible assumption)) | (refine Or.inr (Or.inr ?_); (with_reducible assumption)) | (refine Or.inr (Or.inr (Or.inl ?_)); (with_reducible assumption)) | (refine Or.inr (Or.inr (Or.inr ?_)); (with_reducible assumption)))) | (refine Or.inl (fun z => Or.elim z ?_ (fun z => Or.elim z ?_ ?_)) <;> (with_reducible assumption)) | (refine Or.inl (fun z => Or.elim z ?_ (fun z => Or.elim z ?_ (fun z => Or.elim z ?_ ?_))) <;> (with_reducible assumption))))) | (first | (refine sp_k32_0 ?_ ?_ <;> (first | assumption | (refine Or.inl ?_; assumption) | (refine Or.inr ?_; assumption) | (refine Or.inr (Or.inl ?_); assumption) | (refine Or.inr (Or.inr ?_); assumption) | (refine Or.inr (Or.inr (Or.inl ?_)); assumption) | (refine Or.inr (Or.inr (Or.inr ?_)); assumption) | (refine fun z => Or.elim z ?_ ?_ <;> assumption) | (refine fun z => Or.elim z ?_ (fun z => Or.elim z ?_ ?_) <;> assumption) | (refine fun z => Or.elim z ?_ (fun z => Or.elim z ?_ (fun z => Or.elim z ?_ ?_)) <;> assumption) | (refine fun z => Or.elim z (fun z9 => z9 ?_) ?_ <;> (first | assumption | (refine Or.inl ?_; assumption) | (refine Or.inr (Or.inl ?_); assumption) | (refine Or.inr (Or.inr ?_); assumption) | (refine Or.inr (Or.inr (Or.inl ?_)); assumption) | (refine Or.inr (Or.inr (Or.inr ?_)); assumption))) | (refine Or.inl (fun z => Or.elim z ?_ (fun z => Or.elim z ?_ ?_)) <;> assumption) | (refine Or.inl (fun z => Or.elim z ?_ (fun z => Or.elim z ?_ (fun z => Or.elim z ?_ ?_))) <;> assumption))))
    · exact absurd c_9_11 (by decide)
  · refine j_if_eq (tgt := 14) dX11_merge_9 (by decide) (fun c_9_63 => ?_) (fun c_9_63 => ?_)
    · exact absurd c_9_63 (by decide)
    · refine j_iconst (v := 0) dX11_merge_12 (by decide) ?_
      refine j_iret dX11_merge_13 rfl rfl ?_ (Nat.le_of_ble_eq_true rfl) (Nat.le_of_ble_eq_true rfl)
      refine cast (congrFun (congrFun hQ9 _) _) ?_
      refine ⟨_, _, rfl, (fm1.le (q' := 59) (by decide)), h1, sp_X1 (k := 1) ?_ (by decide) th1 R1⟩
      first | (first | (refine sp_k32_1 ?_ <;> (first | (with_reducible assumption) | (refine Or.inl ?_; (with_reducible assumption)) | (refine Or.inr ?_; (with_reducible assumption)) | (refine Or.inr (Or.inl ?_); (with_reducible assumption)) | (refine Or.inr (Or.inr ?_); (with_reducible assumption)) | (refine Or.inr (Or.inr (Or.inl ?_)); (with_reducible assumption)) | (refine Or.inr (Or.inr (Or.inr ?_)); (with_reducible assumption)) | (refine fun z => Or.elim z ?_ ?_ <;> (with_reducible assumption)) | (refine fun z => Or.elim z ?_ (fun z => Or.elim z ?_ ?_) <;> (with_reducible assumption)) | (refine fun z => Or.elim z ?_ (fun z => Or.elim z ?_ (fun z => Or.elim z ?_ ?_)) <;> (with_reducible assumption)) | (refine fun z => Or.elim z (fun z9 => z9 ?_) ?_ <;> (first | (with_reducible assumption) | (refine Or.inl ?_; (with_reducible assumption)) | (refine Or.inr (Or.inl ?_); (with_reducible assumption)) | (refine Or.inr (Or.inr ?_); (with_reducible assumption)) | (refine Or.inr (Or.inr (Or.inl ?_)); (with_reducible assumption)) | (refine Or.inr (Or.inr (Or.inr ?_)); (with_reducible assumption)))) | (refine Or.inl (fun z => Or.elim z ?_ (fun z => Or.elim z ?_ ?_)) <;> (with_reducible assumption)) | (refine Or.inl (fun z => Or.elim z ?_ (fun z => Or.elim z ?_ (fun z => Or.elim z ?_ ?_))) <;> (with_reducible assumption))))) | (first | (refine sp_k32_1 ?_ <;> (first | assumption | (refine Or.inl ?_; assumption) | (refine Or.inr ?_; assumption) | (refine Or.inr (Or.inl ?_); assumption) | (refine Or.inr (Or.inr ?_); assumption) | (refine Or.inr (Or.inr (Or.inl ?_)); assumption) | (refine Or.inr (Or.inr (Or.inr ?_)); assumption) | (refine fun z => Or.elim z ?_ ?_ <;> assumption) | (refine fun z => Or.elim z ?_ (fun z => Or.elim z ?_ ?_) <;> assumption) | (refine fun z => Or.elim z ?_ (fun z => Or.elim z ?_ (fun z => Or.elim z ?_ ?_)) <;> assumption) | (refine fun z => Or.elim z (fun z9 => z9 ?_) ?_ <;> (first | assumption | (refine Or.inl ?_; assumption) | (refine Or.inr (Or.inl ?_); assumption) | (refine Or.inr (Or.inr ?_); assumption) | (refine Or.inr (Or.inr (Or.inl ?_)); assumption) | (refine Or.inr (Or.inr (Or.inr ?_)); assumption))) | (refine Or.inl (fun z => Or.elim z ?_ (fun z => Or.elim z ?_ ?_)) <;> assumption) | (refine Or.inl (fun z => Or.elim z ?_ (fun z => Or.elim z ?_ (fun z => Or.elim z ?_ ?_))) <;> assumption))))
  · refine j_if_eq (tgt := 14) dX11_merge_9 (by decide) (fun c_9_70 => ?_) (fun c_9_70 => ?_)
    · exact absurd c_9_70 (by decide)
    · refine j_iconst (v := 0) dX11_merge_12 (by decide) ?_
      refine j_iret dX11_merge_13 rfl rfl ?_ (Nat.le_of_ble_eq_true rfl) (Nat.le_of_ble_eq_true rfl)
      refine cast (congrFun (congrFun hQ9 _) _) ?_
      refine ⟨_, _, rfl, (fm1.le (q' := 59) (by decide)), h1, sp_X1 (k := 2) ?_ (by decide) th1 R1⟩
      first | (first | (refine sp_k32_2 ?_ ?_ <;> (first | (with_reducible assumption) | (refine Or.inl ?_; (with_reducible assumption)) | (refine Or.inr ?_; (with_reducible assumption)) | (refine Or.inr (Or.inl ?_); (with_reducible assumption)) | (refine Or.inr (Or.inr ?_); (with_reducible assumption)) | (refine Or.inr (Or.inr (Or.inl ?_)); (with_reducible assumption)) | (refine Or.inr (Or.inr (Or.inr ?_)); (with_reducible assumption)) | (refine fun z => Or.elim z ?_ ?_ <;> (with_reducible assumption)) | (refine fun z => Or.elim z ?_ (fun z => Or.elim z ?_ ?_) <;> (with_reducible assumption)) | (refine fun z => Or.elim z ?_ (fun z => Or.elim z ?_ (fun z => Or.elim z ?_ ?_)) <;> (with_reducible assumption)) | (refine fun z => Or.elim z (fun z9 => z9 ?_) ?_ <;> (first | (with_reducible assumption) | (refine Or.inl ?_; (with_reducible assumption)) | (refine Or.inr (Or.inl ?_); (with_reducible assumption)) | (refine Or.inr (Or.inr ?_); (with_reducible assumption)) | (refine Or.inr (Or.inr (Or.inl ?_)); (with_reducible assumption)) | (refine Or.inr (Or.inr (Or.inr ?_)); (with_reducible assumption)))) | (refine Or.inl (fun z => Or.elim z ?_ (fun z => Or.elim z ?_ ?_)) <;> (with_reducible assumption)) | (refine Or.inl (fun z => Or.elim z ?_ (fun z => Or.elim z ?_ (fun z => Or.elim z ?_ ?_))) <;> (with_reducible assumption))))) | (first | (refine sp_k32_2 ?_ ?_ <;> (first | assumption | (refine Or.inl ?_; assumption) | (refine Or.inr ?_; assumption) | (refine Or.inr (Or.inl ?_); assumption) | (refine Or.inr (Or.inr ?_); assumption) | (refine Or.inr (Or.inr (Or.inl ?_)); assumption) | (refine Or.inr (Or.inr (Or.inr ?_)); assumption) | (refine fun z => Or.elim z ?_ ?_ <;> assumption) | (refine fun z => Or.elim z ?_ (fun z => Or.elim z ?_ ?_) <;> assumption) | (refine fun z => Or.elim z ?_ (fun z => Or.elim z ?_ (fun z => Or.elim z ?_ ?_)) <;> assumption) | (refine fun z => Or.elim z (fun z9 => z9 ?_) ?_ <;> (first | assumption | (refine Or.inl ?_; assumption) | (refine Or.inr (Or.inl ?_); assumption) | (refine Or.inr (Or.inr ?_); assumption) | (refine Or.inr (Or.inr (Or.inl ?_)); assumption) | (refine Or.inr (Or.inr (Or.inr ?_)); assumption))) | (refine Or.inl (fun z => Or.elim z ?_ (fun z => Or.elim z ?_ ?_)) <;> assumption) | (refine Or.inl (fun z => Or.elim z ?_ (fun z => Or.elim z ?_ (fun z => Or.elim z ?_ ?_))) <;> assumption))))
set_option maxRecDepth 100000 in
set_option maxHeartbeats 8000000 in
theorem cx_get (hl : l.stackTraces = false) (w : z_W) (S : sp_S) (s : z_Z) (t : Int32) (k : Int32) (h : z_mst w s) (R : sp_MR S s)  : z_Con G l mX11_get 24 2 52 w [.ref 1000, .int t, .int k] (fun v w9 => ∃ (r9 : Int32) (s9 : z_Z), v = some (.int r9) ∧ z_fm 59 w w9 ∧ z_mst w9 s9 ∧ s9.1.1 = sp_k32 t (sp_bk k) ∧ sp_MR (if sp_k32 t (sp_bk k) = 0 then S else S) s9 ∧ (sp_k32 t (sp_bk k) = 0 → r9 = sp_lk (sp_T S (sp_i t)) (sp_i k))) (fun _ _ => False) := by
  generalize hQ9 : (fun (v : Option Value) (w9 : z_W) => ∃ (r9 : Int32) (s9 : z_Z), v = some (.int r9) ∧ z_fm 59 w w9 ∧ z_mst w9 s9 ∧ s9.1.1 = sp_k32 t (sp_bk k) ∧ sp_MR (if sp_k32 t (sp_bk k) = 0 then S else S) s9 ∧ (sp_k32 t (sp_bk k) = 0 → r9 = sp_lk (sp_T S (sp_i t)) (sp_i k))) = Q9
  refine z_body hl (by decide) rfl (Nat.le_of_ble_eq_true rfl) ?_
  show z_J G l mX11_get _ 0 [(0, _), (1, _), (2, _)] [] _ 0 0
  refine j_aload_n dX11_get_0 rfl rfl ?_
  refine j_iload_n dX11_get_1 rfl ?_
  refine j_iload_n dX11_get_2 rfl ?_
  refine j_iconst (v := 0) dX11_get_3 (by decide) ?_
  refine j_callV (q := (RX11, TX11, 8)) dX11_get_4 kX11_isNoPair lX11_142 inX11_isNoPair seX11_isNoPair h.m rfl (cx_isNoPair hl w S _ _ _ 0 h R) (Nat.le_of_ble_eq_true rfl) ⟨(Nat.le_of_ble_eq_true rfl), (Nat.le_of_ble_eq_true rfl)⟩ rfl (Nat.le_of_ble_eq_true rfl) rfl rfl (fun _ _ h => h.elim) ?_
  rintro _ w1 (⟨i1, k1, s1, rfl, hi1, hk1, htt1, hbk1, hbv1, rfl, rfl, fm1, h1, R1, th1⟩ | ⟨s1, rfl, fm1, h1, R1, th1, hno1⟩ | ⟨s1, rfl, fm1, h1, R1, th1, htt1, hP1⟩)
  · have ei1 : sp_i (nI i1) = i1 := sp_in' (by omega)
    have ek1 : sp_i (nI k1) = k1 := sp_in' (by omega)
    refine j_if_eq (tgt := 14) dX11_get_7 (by decide) (fun c_7_10 => ?_) (fun c_7_10 => ?_)
    · refine j_aload_n dX11_get_14 rfl rfl ?_
      refine j_iload_n dX11_get_15 rfl ?_
      refine j_iload_n dX11_get_16 rfl ?_
      refine j_callV (q := (RX11, TX11, 8)) dX11_get_17 kX11_valueOf lX11_145 inX11_valueOf seX11_valueOf h1.m rfl (cx_valueOf hl w1 S _ (i1) (k1) h1 R1 (by omega) (by omega)) (Nat.le_of_ble_eq_true rfl) ⟨(Nat.le_of_ble_eq_true rfl), (Nat.le_of_ble_eq_true rfl)⟩ rfl (Nat.le_of_ble_eq_true rfl) rfl rfl (fun _ _ h => h.elim) ?_
      rintro _ _ ⟨rfl, hw504⟩
      refine j_w w1 hw504 ?_
      refine j_iret dX11_get_20 rfl rfl ?_ (Nat.le_of_ble_eq_true rfl) (Nat.le_of_ble_eq_true rfl)
      refine cast (congrFun (congrFun hQ9 _) _) ?_
      try rw [ei1]
      try rw [ek1]
      refine ⟨_, _, rfl, (fm1.le (q' := 59) (by decide)), h1, sp_X0 ?_ th1 R1 rfl⟩
      first | (first | (refine sp_k32_0 ?_ ?_ <;> (first | (with_reducible assumption) | (refine Or.inl ?_; (with_reducible assumption)) | (refine Or.inr ?_; (with_reducible assumption)) | (refine Or.inr (Or.inl ?_); (with_reducible assumption)) | (refine Or.inr (Or.inr ?_); (with_reducible assumption)) | (refine Or.inr (Or.inr (Or.inl ?_)); (with_reducible assumption)) | (refine Or.inr (Or.inr (Or.inr ?_)); (with_reducible assumption)) | (refine fun z => Or.elim z ?_ ?_ <;> (with_reducible assumption)) | (refine fun z => Or.elim z ?_ (fun z => Or.elim z ?_ ?_) <;> (with_reducible assumption)) | (refine fun z => Or.elim z ?_ (fun z => Or.elim z ?_ (fun z => Or.elim z ?_ ?_)) <;> (with_reducible assumption)) | (refine fun z => Or.elim z (fun z9 => z9 ?_) ?_ <;> (first | (with_reducible assumption) | (refine Or.inl ?_; (with_reducible assumption)) | (refine Or.inr (Or.inl ?_); (with_reducible assumption)) | (refine Or.inr (Or.inr ?_); (with_reducible assumption)) | (refine Or.inr (Or.inr (Or.inl ?_)); (with_reducible assumption)) | (refine Or.inr (Or.inr (Or.inr ?_)); (with_reducible assumption)))) | (refine Or.inl (fun z => Or.elim z ?_ (fun z => Or.elim z ?_ ?_)) <;> (with_reducible assumption)) | (refine Or.inl (fun z => Or.elim z ?_ (fun z => Or.elim z ?_ (fun z => Or.elim z ?_ ?_))) <;> (with_reducible assumption))))) | (first | (refine sp_k32_0 ?_ ?_ <;> (first | assumption | (refine Or.inl ?_; assumption) | (refine Or.inr ?_; assumption) | (refine Or.inr (Or.inl ?_); assumption) | (refine Or.inr (Or.inr ?_); assumption) | (refine Or.inr (Or.inr (Or.inl ?_)); assumption) | (refine Or.inr (Or.inr (Or.inr ?_)); assumption) | (refine fun z => Or.elim z ?_ ?_ <;> assumption) | (refine fun z => Or.elim z ?_ (fun z => Or.elim z ?_ ?_) <;> assumption) | (refine fun z => Or.elim z ?_ (fun z => Or.elim z ?_ (fun z => Or.elim z ?_ ?_)) <;> assumption) | (refine fun z => Or.elim z (fun z9 => z9 ?_) ?_ <;> (first | assumption | (refine Or.inl ?_; assumption) | (refine Or.inr (Or.inl ?_); assumption) | (refine Or.inr (Or.inr ?_); assumption) | (refine Or.inr (Or.inr (Or.inl ?_)); assumption) | (refine Or.inr (Or.inr (Or.inr ?_)); assumption))) | (refine Or.inl (fun z => Or.elim z ?_ (fun z => Or.elim z ?_ ?_)) <;> assumption) | (refine Or.inl (fun z => Or.elim z ?_ (fun z => Or.elim z ?_ (fun z => Or.elim z ?_ ?_))) <;> assumption))))
    · exact absurd c_7_10 (by decide)
  · refine j_if_eq (tgt := 14) dX11_get_7 (by decide) (fun c_7_24 => ?_) (fun c_7_24 => ?_)
    · exact absurd c_7_24 (by decide)
    · refine j_iconst (v := 0) dX11_get_10 (by decide) ?_
      refine j_goto (tgt := 20) dX11_get_11 (by decide) ?_
      refine j_iret dX11_get_20 rfl rfl ?_ (Nat.le_of_ble_eq_true rfl) (Nat.le_of_ble_eq_true rfl)
      refine cast (congrFun (congrFun hQ9 _) _) ?_
      refine ⟨_, _, rfl, (fm1.le (q' := 59) (by decide)), h1, sp_X1 (k := 1) ?_ (by decide) th1 R1⟩
      first | (first | (refine sp_k32_1 ?_ <;> (first | (with_reducible assumption) | (refine Or.inl ?_; (with_reducible assumption)) | (refine Or.inr ?_; (with_reducible assumption)) | (refine Or.inr (Or.inl ?_); (with_reducible assumption)) | (refine Or.inr (Or.inr ?_); (with_reducible assumption)) | (refine Or.inr (Or.inr (Or.inl ?_)); (with_reducible assumption)) | (refine Or.inr (Or.inr (Or.inr ?_)); (with_reducible assumption)) | (refine fun z => Or.elim z ?_ ?_ <;> (with_reducible assumption)) | (refine fun z => Or.elim z ?_ (fun z => Or.elim z ?_ ?_) <;> (with_reducible assumption)) | (refine fun z => Or.elim z ?_ (fun z => Or.elim z ?_ (fun z => Or.elim z ?_ ?_)) <;> (with_reducible assumption)) | (refine fun z => Or.elim z (fun z9 => z9 ?_) ?_ <;> (first | (with_reducible assumption) | (refine Or.inl ?_; (with_reducible assumption)) | (refine Or.inr (Or.inl ?_); (with_reducible assumption)) | (refine Or.inr (Or.inr ?_); (with_reducible assumption)) | (refine Or.inr (Or.inr (Or.inl ?_)); (with_reducible assumption)) | (refine Or.inr (Or.inr (Or.inr ?_)); (with_reducible assumption)))) | (refine Or.inl (fun z => Or.elim z ?_ (fun z => Or.elim z ?_ ?_)) <;> (with_reducible assumption)) | (refine Or.inl (fun z => Or.elim z ?_ (fun z => Or.elim z ?_ (fun z => Or.elim z ?_ ?_))) <;> (with_reducible assumption))))) | (first | (refine sp_k32_1 ?_ <;> (first | assumption | (refine Or.inl ?_; assumption) | (refine Or.inr ?_; assumption) | (refine Or.inr (Or.inl ?_); assumption) | (refine Or.inr (Or.inr ?_); assumption) | (refine Or.inr (Or.inr (Or.inl ?_)); assumption) | (refine Or.inr (Or.inr (Or.inr ?_)); assumption) | (refine fun z => Or.elim z ?_ ?_ <;> assumption) | (refine fun z => Or.elim z ?_ (fun z => Or.elim z ?_ ?_) <;> assumption) | (refine fun z => Or.elim z ?_ (fun z => Or.elim z ?_ (fun z => Or.elim z ?_ ?_)) <;> assumption) | (refine fun z => Or.elim z (fun z9 => z9 ?_) ?_ <;> (first | assumption | (refine Or.inl ?_; assumption) | (refine Or.inr (Or.inl ?_); assumption) | (refine Or.inr (Or.inr ?_); assumption) | (refine Or.inr (Or.inr (Or.inl ?_)); assumption) | (refine Or.inr (Or.inr (Or.inr ?_)); assumption))) | (refine Or.inl (fun z => Or.elim z ?_ (fun z => Or.elim z ?_ ?_)) <;> assumption) | (refine Or.inl (fun z => Or.elim z ?_ (fun z => Or.elim z ?_ (fun z => Or.elim z ?_ ?_))) <;> assumption))))
  · have hP9 : sp_bk k := hP1.resolve_right (by decide)
    refine j_if_eq (tgt := 14) dX11_get_7 (by decide) (fun c_7_33 => ?_) (fun c_7_33 => ?_)
    · exact absurd c_7_33 (by decide)
    · refine j_iconst (v := 0) dX11_get_10 (by decide) ?_
      refine j_goto (tgt := 20) dX11_get_11 (by decide) ?_
      refine j_iret dX11_get_20 rfl rfl ?_ (Nat.le_of_ble_eq_true rfl) (Nat.le_of_ble_eq_true rfl)
      refine cast (congrFun (congrFun hQ9 _) _) ?_
      refine ⟨_, _, rfl, (fm1.le (q' := 59) (by decide)), h1, sp_X1 (k := 2) ?_ (by decide) th1 R1⟩
      first | (first | (refine sp_k32_2 ?_ ?_ <;> (first | (with_reducible assumption) | (refine Or.inl ?_; (with_reducible assumption)) | (refine Or.inr ?_; (with_reducible assumption)) | (refine Or.inr (Or.inl ?_); (with_reducible assumption)) | (refine Or.inr (Or.inr ?_); (with_reducible assumption)) | (refine Or.inr (Or.inr (Or.inl ?_)); (with_reducible assumption)) | (refine Or.inr (Or.inr (Or.inr ?_)); (with_reducible assumption)) | (refine fun z => Or.elim z ?_ ?_ <;> (with_reducible assumption)) | (refine fun z => Or.elim z ?_ (fun z => Or.elim z ?_ ?_) <;> (with_reducible assumption)) | (refine fun z => Or.elim z ?_ (fun z => Or.elim z ?_ (fun z => Or.elim z ?_ ?_)) <;> (with_reducible assumption)) | (refine fun z => Or.elim z (fun z9 => z9 ?_) ?_ <;> (first | (with_reducible assumption) | (refine Or.inl ?_; (with_reducible assumption)) | (refine Or.inr (Or.inl ?_); (with_reducible assumption)) | (refine Or.inr (Or.inr ?_); (with_reducible assumption)) | (refine Or.inr (Or.inr (Or.inl ?_)); (with_reducible assumption)) | (refine Or.inr (Or.inr (Or.inr ?_)); (with_reducible assumption)))) | (refine Or.inl (fun z => Or.elim z ?_ (fun z => Or.elim z ?_ ?_)) <;> (with_reducible assumption)) | (refine Or.inl (fun z => Or.elim z ?_ (fun z => Or.elim z ?_ (fun z => Or.elim z ?_ ?_))) <;> (with_reducible assumption))))) | (first | (refine sp_k32_2 ?_ ?_ <;> (first | assumption | (refine Or.inl ?_; assumption) | (refine Or.inr ?_; assumption) | (refine Or.inr (Or.inl ?_); assumption) | (refine Or.inr (Or.inr ?_); assumption) | (refine Or.inr (Or.inr (Or.inl ?_)); assumption) | (refine Or.inr (Or.inr (Or.inr ?_)); assumption) | (refine fun z => Or.elim z ?_ ?_ <;> assumption) | (refine fun z => Or.elim z ?_ (fun z => Or.elim z ?_ ?_) <;> assumption) | (refine fun z => Or.elim z ?_ (fun z => Or.elim z ?_ (fun z => Or.elim z ?_ ?_)) <;> assumption) | (refine fun z => Or.elim z (fun z9 => z9 ?_) ?_ <;> (first | assumption | (refine Or.inl ?_; assumption) | (refine Or.inr (Or.inl ?_); assumption) | (refine Or.inr (Or.inr ?_); assumption) | (refine Or.inr (Or.inr (Or.inl ?_)); assumption) | (refine Or.inr (Or.inr (Or.inr ?_)); assumption))) | (refine Or.inl (fun z => Or.elim z ?_ (fun z => Or.elim z ?_ ?_)) <;> assumption) | (refine Or.inl (fun z => Or.elim z ?_ (fun z => Or.elim z ?_ (fun z => Or.elim z ?_ ?_))) <;> assumption))))
set_option maxRecDepth 100000 in
set_option maxHeartbeats 8000000 in
theorem cx_getOr (hl : l.stackTraces = false) (w : z_W) (S : sp_S) (s : z_Z) (t : Int32) (k : Int32) (y : Int32) (h : z_mst w s) (R : sp_MR S s)  : z_Con G l mX11_getOr 24 2 52 w [.ref 1000, .int t, .int k, .int y] (fun v w9 => ∃ (r9 : Int32) (s9 : z_Z), v = some (.int r9) ∧ z_fm 59 w w9 ∧ z_mst w9 s9 ∧ s9.1.1 = sp_k32 t (sp_bk k ∨ sp_bv y) ∧ sp_MR (if sp_k32 t (sp_bk k ∨ sp_bv y) = 0 then S else S) s9 ∧ (sp_k32 t (sp_bk k ∨ sp_bv y) = 0 → r9 = (if sp_lk (sp_T S (sp_i t)) (sp_i k) = -1000 then y else sp_lk (sp_T S (sp_i t)) (sp_i k)))) (fun _ _ => False) := by
  generalize hQ9 : (fun (v : Option Value) (w9 : z_W) => ∃ (r9 : Int32) (s9 : z_Z), v = some (.int r9) ∧ z_fm 59 w w9 ∧ z_mst w9 s9 ∧ s9.1.1 = sp_k32 t (sp_bk k ∨ sp_bv y) ∧ sp_MR (if sp_k32 t (sp_bk k ∨ sp_bv y) = 0 then S else S) s9 ∧ (sp_k32 t (sp_bk k ∨ sp_bv y) = 0 → r9 = (if sp_lk (sp_T S (sp_i t)) (sp_i k) = -1000 then y else sp_lk (sp_T S (sp_i t)) (sp_i k)))) = Q9
  refine z_body hl (by decide) rfl (Nat.le_of_ble_eq_true rfl) ?_
  show z_J G l mX11_getOr _ 0 [(0, _), (1, _), (2, _), (3, _)] [] _ 0 0
  refine j_aload_n dX11_getOr_0 rfl rfl ?_
  refine j_iload_n dX11_getOr_1 rfl ?_
  refine j_iload_n dX11_getOr_2 rfl ?_
  refine j_iload_n dX11_getOr_3 rfl ?_
  refine j_callV (q := (RX11, TX11, 8)) dX11_getOr_4 kX11_isNoPair lX11_142 inX11_isNoPair seX11_isNoPair h.m rfl (cx_isNoPair hl w S _ _ _ _ h R) (Nat.le_of_ble_eq_true rfl) ⟨(Nat.le_of_ble_eq_true rfl), (Nat.le_of_ble_eq_true rfl)⟩ rfl (Nat.le_of_ble_eq_true rfl) rfl rfl (fun _ _ h => h.elim) ?_
  rintro _ w1 (⟨i1, k1, s1, rfl, hi1, hk1, htt1, hbk1, hbv1, rfl, rfl, fm1, h1, R1, th1⟩ | ⟨s1, rfl, fm1, h1, R1, th1, hno1⟩ | ⟨s1, rfl, fm1, h1, R1, th1, htt1, hP1⟩)
  · have ei1 : sp_i (nI i1) = i1 := sp_in' (by omega)
    have ek1 : sp_i (nI k1) = k1 := sp_in' (by omega)
    refine j_if_eq (tgt := 12) dX11_getOr_7 (by decide) (fun c_7_10 => ?_) (fun c_7_10 => ?_)
    · refine j_aload_n dX11_getOr_12 rfl rfl ?_
      refine j_iload_n dX11_getOr_13 rfl ?_
      refine j_iload_n dX11_getOr_14 rfl ?_
      refine j_callV (q := (RX11, TX11, 8)) dX11_getOr_15 kX11_valueOf lX11_145 inX11_valueOf seX11_valueOf h1.m rfl (cx_valueOf hl w1 S _ (i1) (k1) h1 R1 (by omega) (by omega)) (Nat.le_of_ble_eq_true rfl) ⟨(Nat.le_of_ble_eq_true rfl), (Nat.le_of_ble_eq_true rfl)⟩ rfl (Nat.le_of_ble_eq_true rfl) rfl rfl (fun _ _ h => h.elim) ?_
      rintro _ _ ⟨rfl, hw505⟩
      refine j_w w1 hw505 ?_
      refine j_istore (lo' := [(4, _), (0, _), (1, _), (2, _), (3, _)]) dX11_getOr_18 (by decide) rfl ?_
      refine j_iload dX11_getOr_20 rfl ?_
      refine j_sipush (v := (-1000)) dX11_getOr_22 (by decide) ?_
      refine j_icmp_ne (tgt := 32) dX11_getOr_25 (by decide) (fun c_25_20 => ?_) (fun c_25_20 => ?_)
      · refine j_iload dX11_getOr_32 rfl ?_
        refine j_iret dX11_getOr_34 rfl rfl ?_ (Nat.le_of_ble_eq_true rfl) (Nat.le_of_ble_eq_true rfl)
        refine cast (congrFun (congrFun hQ9 _) _) ?_
        try rw [ei1]
        try rw [ek1]
        refine ⟨_, _, rfl, (fm1.le (q' := 59) (by decide)), h1, sp_X0 ?_ th1 R1 (by rw [if_neg c_25_20])⟩
        first | (first | (refine sp_k32_0 ?_ ?_ <;> (first | (with_reducible assumption) | (refine Or.inl ?_; (with_reducible assumption)) | (refine Or.inr ?_; (with_reducible assumption)) | (refine Or.inr (Or.inl ?_); (with_reducible assumption)) | (refine Or.inr (Or.inr ?_); (with_reducible assumption)) | (refine Or.inr (Or.inr (Or.inl ?_)); (with_reducible assumption)) | (refine Or.inr (Or.inr (Or.inr ?_)); (with_reducible assumption)) | (refine fun z => Or.elim z ?_ ?_ <;> (with_reducible assumption)) | (refine fun z => Or.elim z ?_ (fun z => Or.elim z ?_ ?_) <;> (with_reducible assumption)) | (refine fun z => Or.elim z ?_ (fun z => Or.elim z ?_ (fun z => Or.elim z ?_ ?_)) <;> (with_reducible assumption)) | (refine fun z => Or.elim z (fun z9 => z9 ?_) ?_ <;> (first | (with_reducible assumption) | (refine Or.inl ?_; (with_reducible assumption)) | (refine Or.inr (Or.inl ?_); (with_reducible assumption)) | (refine Or.inr (Or.inr ?_); (with_reducible assumption)) | (refine Or.inr (Or.inr (Or.inl ?_)); (with_reducible assumption)) | (refine Or.inr (Or.inr (Or.inr ?_)); (with_reducible assumption)))) | (refine Or.inl (fun z => Or.elim z ?_ (fun z => Or.elim z ?_ ?_)) <;> (with_reducible assumption)) | (refine Or.inl (fun z => Or.elim z ?_ (fun z => Or.elim z ?_ (fun z => Or.elim z ?_ ?_))) <;> (with_reducible assumption))))) | (first | (refine sp_k32_0 ?_ ?_ <;> (first | assumption | (refine Or.inl ?_; assumption) | (refine Or.inr ?_; assumption) | (refine Or.inr (Or.inl ?_); assumption) | (refine Or.inr (Or.inr ?_); assumption) | (refine Or.inr (Or.inr (Or.inl ?_)); assumption) | (refine Or.inr (Or.inr (Or.inr ?_)); assumption) | (refine fun z => Or.elim z ?_ ?_ <;> assumption) | (refine fun z => Or.elim z ?_ (fun z => Or.elim z ?_ ?_) <;> assumption) | (refine fun z => Or.elim z ?_ (fun z => Or.elim z ?_ (fun z => Or.elim z ?_ ?_)) <;> assumption) | (refine fun z => Or.elim z (fun z9 => z9 ?_) ?_ <;> (first | assumption | (refine Or.inl ?_; assumption) | (refine Or.inr (Or.inl ?_); assumption) | (refine Or.inr (Or.inr ?_); assumption) | (refine Or.inr (Or.inr (Or.inl ?_)); assumption) | (refine Or.inr (Or.inr (Or.inr ?_)); assumption))) | (refine Or.inl (fun z => Or.elim z ?_ (fun z => Or.elim z ?_ ?_)) <;> assumption) | (refine Or.inl (fun z => Or.elim z ?_ (fun z => Or.elim z ?_ (fun z => Or.elim z ?_ ?_))) <;> assumption))))
      · refine j_iload_n dX11_getOr_28 rfl ?_
        refine j_goto (tgt := 34) dX11_getOr_29 (by decide) ?_
        refine j_iret dX11_getOr_34 rfl rfl ?_ (Nat.le_of_ble_eq_true rfl) (Nat.le_of_ble_eq_true rfl)
        refine cast (congrFun (congrFun hQ9 _) _) ?_
        try rw [ei1]
        try rw [ek1]
        refine ⟨_, _, rfl, (fm1.le (q' := 59) (by decide)), h1, sp_X0 ?_ th1 R1 (by rw [if_pos c_25_20])⟩
        first | (first | (refine sp_k32_0 ?_ ?_ <;> (first | (with_reducible assumption) | (refine Or.inl ?_; (with_reducible assumption)) | (refine Or.inr ?_; (with_reducible assumption)) | (refine Or.inr (Or.inl ?_); (with_reducible assumption)) | (refine Or.inr (Or.inr ?_); (with_reducible assumption)) | (refine Or.inr (Or.inr (Or.inl ?_)); (with_reducible assumption)) | (refine Or.inr (Or.inr (Or.inr ?_)); (with_reducible assumption)) | (refine fun z => Or.elim z ?_ ?_ <;> (with_reducible assumption)) | (refine fun z => Or.elim z ?_ (fun z => Or.elim z ?_ ?_) <;> (with_reducible assumption)) | (refine fun z => Or.elim z ?_ (fun z => Or.elim z ?_ (fun z => Or.elim z ?_ ?_)) <;> (with_reducible assumption)) | (refine fun z => Or.elim z (fun z9 => z9 ?_) ?_ <;> (first | (with_reducible assumption) | (refine Or.inl ?_; (with_reducible assumption)) | (refine Or.inr (Or.inl ?_); (with_reducible assumption)) | (refine Or.inr (Or.inr ?_); (with_reducible assumption)) | (refine Or.inr (Or.inr (Or.inl ?_)); (with_reducible assumption)) | (refine Or.inr (Or.inr (Or.inr ?_)); (with_reducible assumption)))) | (refine Or.inl (fun z => Or.elim z ?_ (fun z => Or.elim z ?_ ?_)) <;> (with_reducible assumption)) | (refine Or.inl (fun z => Or.elim z ?_ (fun z => Or.elim z ?_ (fun z => Or.elim z ?_ ?_))) <;> (with_reducible assumption))))) | (first | (refine sp_k32_0 ?_ ?_ <;> (first | assumption | (refine Or.inl ?_; assumption) | (refine Or.inr ?_; assumption) | (refine Or.inr (Or.inl ?_); assumption) | (refine Or.inr (Or.inr ?_); assumption) | (refine Or.inr (Or.inr (Or.inl ?_)); assumption) | (refine Or.inr (Or.inr (Or.inr ?_)); assumption) | (refine fun z => Or.elim z ?_ ?_ <;> assumption) | (refine fun z => Or.elim z ?_ (fun z => Or.elim z ?_ ?_) <;> assumption) | (refine fun z => Or.elim z ?_ (fun z => Or.elim z ?_ (fun z => Or.elim z ?_ ?_)) <;> assumption) | (refine fun z => Or.elim z (fun z9 => z9 ?_) ?_ <;> (first | assumption | (refine Or.inl ?_; assumption) | (refine Or.inr (Or.inl ?_); assumption) | (refine Or.inr (Or.inr ?_); assumption) | (refine Or.inr (Or.inr (Or.inl ?_)); assumption) | (refine Or.inr (Or.inr (Or.inr ?_)); assumption))) | (refine Or.inl (fun z => Or.elim z ?_ (fun z => Or.elim z ?_ ?_)) <;> assumption) | (refine Or.inl (fun z => Or.elim z ?_ (fun z => Or.elim z ?_ (fun z => Or.elim z ?_ ?_))) <;> assumption))))
    · exact absurd c_7_10 (by decide)
  · refine j_if_eq (tgt := 12) dX11_getOr_7 (by decide) (fun c_7_37 => ?_) (fun c_7_37 => ?_)
    · exact absurd c_7_37 (by decide)
    · refine j_iconst (v := 0) dX11_getOr_10 (by decide) ?_
      refine j_iret dX11_getOr_11 rfl rfl ?_ (Nat.le_of_ble_eq_true rfl) (Nat.le_of_ble_eq_true rfl)
      refine cast (congrFun (congrFun hQ9 _) _) ?_
      refine ⟨_, _, rfl, (fm1.le (q' := 59) (by decide)), h1, sp_X1 (k := 1) ?_ (by decide) th1 R1⟩
      first | (first | (refine sp_k32_1 ?_ <;> (first | (with_reducible assumption) | (refine Or.inl ?_; (with_reducible assumption)) | (refine Or.inr ?_; (with_reducible assumption)) | (refine Or.inr (Or.inl ?_); (with_reducible assumption)) | (refine Or.inr (Or.inr ?_); (with_reducible assumption)) | (refine Or.inr (Or.inr (Or.inl ?_)); (with_reducible assumption)) | (refine Or.inr (Or.inr (Or.inr ?_)); (with_reducible assumption)) | (refine fun z => Or.elim z ?_ ?_ <;> (with_reducible assumption)) | (refine fun z => Or.elim z ?_ (fun z => Or.elim z ?_ ?_) <;> (with_reducible assumption)) | (refine fun z => Or.elim z ?_ (fun z => Or.elim z ?_ (fun z => Or.elim z ?_ ?_)) <;> (with_reducible assumption)) | (refine fun z => Or.elim z (fun z9 => z9 ?_) ?_ <;> (first | (with_reducible assumption) | (refine Or.inl ?_; (with_reducible assumption)) | (refine Or.inr (Or.inl ?_); (with_reducible assumption)) | (refine Or.inr (Or.inr ?_); (with_reducible assumption)) | (refine Or.inr (Or.inr (Or.inl ?_)); (with_reducible assumption)) | (refine Or.inr (Or.inr (Or.inr ?_)); (with_reducible assumption)))) | (refine Or.inl (fun z => Or.elim z ?_ (fun z => Or.elim z ?_ ?_)) <;> (with_reducible assumption)) | (refine Or.inl (fun z => Or.elim z ?_ (fun z => Or.elim z ?_ (fun z => Or.elim z ?_ ?_))) <;> (with_reducible assumption))))) | (first | (refine sp_k32_1 ?_ <;> (first | assumption | (refine Or.inl ?_; assumption) | (refine Or.inr ?_; assumption) | (refine Or.inr (Or.inl ?_); assumption) | (refine Or.inr (Or.inr ?_); assumption) | (refine Or.inr (Or.inr (Or.inl ?_)); assumption) | (refine Or.inr (Or.inr (Or.inr ?_)); assumption) | (refine fun z => Or.elim z ?_ ?_ <;> assumption) | (refine fun z => Or.elim z ?_ (fun z => Or.elim z ?_ ?_) <;> assumption) | (refine fun z => Or.elim z ?_ (fun z => Or.elim z ?_ (fun z => Or.elim z ?_ ?_)) <;> assumption) | (refine fun z => Or.elim z (fun z9 => z9 ?_) ?_ <;> (first | assumption | (refine Or.inl ?_; assumption) | (refine Or.inr (Or.inl ?_); assumption) | (refine Or.inr (Or.inr ?_); assumption) | (refine Or.inr (Or.inr (Or.inl ?_)); assumption) | (refine Or.inr (Or.inr (Or.inr ?_)); assumption))) | (refine Or.inl (fun z => Or.elim z ?_ (fun z => Or.elim z ?_ ?_)) <;> assumption) | (refine Or.inl (fun z => Or.elim z ?_ (fun z => Or.elim z ?_ (fun z => Or.elim z ?_ ?_))) <;> assumption))))
  · refine j_if_eq (tgt := 12) dX11_getOr_7 (by decide) (fun c_7_44 => ?_) (fun c_7_44 => ?_)
    · exact absurd c_7_44 (by decide)
    · refine j_iconst (v := 0) dX11_getOr_10 (by decide) ?_
      refine j_iret dX11_getOr_11 rfl rfl ?_ (Nat.le_of_ble_eq_true rfl) (Nat.le_of_ble_eq_true rfl)
      refine cast (congrFun (congrFun hQ9 _) _) ?_
      refine ⟨_, _, rfl, (fm1.le (q' := 59) (by decide)), h1, sp_X1 (k := 2) ?_ (by decide) th1 R1⟩
      first | (first | (refine sp_k32_2 ?_ ?_ <;> (first | (with_reducible assumption) | (refine Or.inl ?_; (with_reducible assumption)) | (refine Or.inr ?_; (with_reducible assumption)) | (refine Or.inr (Or.inl ?_); (with_reducible assumption)) | (refine Or.inr (Or.inr ?_); (with_reducible assumption)) | (refine Or.inr (Or.inr (Or.inl ?_)); (with_reducible assumption)) | (refine Or.inr (Or.inr (Or.inr ?_)); (with_reducible assumption)) | (refine fun z => Or.elim z ?_ ?_ <;> (with_reducible assumption)) | (refine fun z => Or.elim z ?_ (fun z => Or.elim z ?_ ?_) <;> (with_reducible assumption)) | (refine fun z => Or.elim z ?_ (fun z => Or.elim z ?_ (fun z => Or.elim z ?_ ?_)) <;> (with_reducible assumption)) | (refine fun z => Or.elim z (fun z9 => z9 ?_) ?_ <;> (first | (with_reducible assumption) | (refine Or.inl ?_; (with_reducible assumption)) | (refine Or.inr (Or.inl ?_); (with_reducible assumption)) | (refine Or.inr (Or.inr ?_); (with_reducible assumption)) | (refine Or.inr (Or.inr (Or.inl ?_)); (with_reducible assumption)) | (refine Or.inr (Or.inr (Or.inr ?_)); (with_reducible assumption)))) | (refine Or.inl (fun z => Or.elim z ?_ (fun z => Or.elim z ?_ ?_)) <;> (with_reducible assumption)) | (refine Or.inl (fun z => Or.elim z ?_ (fun z => Or.elim z ?_ (fun z => Or.elim z ?_ ?_))) <;> (with_reducible assumption))))) | (first | (refine sp_k32_2 ?_ ?_ <;> (first | assumption | (refine Or.inl ?_; assumption) | (refine Or.inr ?_; assumption) | (refine Or.inr (Or.inl ?_); assumption) | (refine Or.inr (Or.inr ?_); assumption) | (refine Or.inr (Or.inr (Or.inl ?_)); assumption) | (refine Or.inr (Or.inr (Or.inr ?_)); assumption) | (refine fun z => Or.elim z ?_ ?_ <;> assumption) | (refine fun z => Or.elim z ?_ (fun z => Or.elim z ?_ ?_) <;> assumption) | (refine fun z => Or.elim z ?_ (fun z => Or.elim z ?_ (fun z => Or.elim z ?_ ?_)) <;> assumption) | (refine fun z => Or.elim z (fun z9 => z9 ?_) ?_ <;> (first | assumption | (refine Or.inl ?_; assumption) | (refine Or.inr (Or.inl ?_); assumption) | (refine Or.inr (Or.inr ?_); assumption) | (refine Or.inr (Or.inr (Or.inl ?_)); assumption) | (refine Or.inr (Or.inr (Or.inr ?_)); assumption))) | (refine Or.inl (fun z => Or.elim z ?_ (fun z => Or.elim z ?_ ?_)) <;> assumption) | (refine Or.inl (fun z => Or.elim z ?_ (fun z => Or.elim z ?_ (fun z => Or.elim z ?_ ?_))) <;> assumption))))
set_option maxRecDepth 100000 in
set_option maxHeartbeats 8000000 in
theorem cx_has (hl : l.stackTraces = false) (w : z_W) (S : sp_S) (s : z_Z) (t : Int32) (k : Int32) (h : z_mst w s) (R : sp_MR S s) (ok : sp_ok S) : z_Con G l mX11_has 24 2 52 w [.ref 1000, .int t, .int k] (fun v w9 => ∃ (r9 : Int32) (s9 : z_Z), v = some (.int r9) ∧ z_fm 59 w w9 ∧ z_mst w9 s9 ∧ s9.1.1 = sp_k32 t (sp_bk k) ∧ sp_MR (if sp_k32 t (sp_bk k) = 0 then S else S) s9 ∧ (sp_k32 t (sp_bk k) = 0 → r9 = z_bi (!(decide (sp_lk (sp_T S (sp_i t)) (sp_i k) = -1000))))) (fun _ _ => False) := by
  generalize hQ9 : (fun (v : Option Value) (w9 : z_W) => ∃ (r9 : Int32) (s9 : z_Z), v = some (.int r9) ∧ z_fm 59 w w9 ∧ z_mst w9 s9 ∧ s9.1.1 = sp_k32 t (sp_bk k) ∧ sp_MR (if sp_k32 t (sp_bk k) = 0 then S else S) s9 ∧ (sp_k32 t (sp_bk k) = 0 → r9 = z_bi (!(decide (sp_lk (sp_T S (sp_i t)) (sp_i k) = -1000))))) = Q9
  refine z_body hl (by decide) rfl (Nat.le_of_ble_eq_true rfl) ?_
  show z_J G l mX11_has _ 0 [(0, _), (1, _), (2, _)] [] _ 0 0
  refine j_aload_n dX11_has_0 rfl rfl ?_
  refine j_iload_n dX11_has_1 rfl ?_
  refine j_iload_n dX11_has_2 rfl ?_
  refine j_iconst (v := 0) dX11_has_3 (by decide) ?_
  refine j_callV (q := (RX11, TX11, 8)) dX11_has_4 kX11_isNoPair lX11_142 inX11_isNoPair seX11_isNoPair h.m rfl (cx_isNoPair hl w S _ _ _ 0 h R) (Nat.le_of_ble_eq_true rfl) ⟨(Nat.le_of_ble_eq_true rfl), (Nat.le_of_ble_eq_true rfl)⟩ rfl (Nat.le_of_ble_eq_true rfl) rfl rfl (fun _ _ h => h.elim) ?_
  rintro _ w1 (⟨i1, k1, s1, rfl, hi1, hk1, htt1, hbk1, hbv1, rfl, rfl, fm1, h1, R1, th1⟩ | ⟨s1, rfl, fm1, h1, R1, th1, hno1⟩ | ⟨s1, rfl, fm1, h1, R1, th1, htt1, hP1⟩)
  · have ei1 : sp_i (nI i1) = i1 := sp_in' (by omega)
    have ek1 : sp_i (nI k1) = k1 := sp_in' (by omega)
    refine j_if_ne (tgt := 23) dX11_has_7 (by decide) (fun c_7_10 => ?_) (fun c_7_10 => ?_)
    · exact absurd c_7_10 (by decide)
    · refine j_aload_n dX11_has_10 rfl rfl ?_
      refine j_iload_n dX11_has_11 rfl ?_
      refine j_iload_n dX11_has_12 rfl ?_
      refine j_callV (q := (RX11, TX11, 8)) dX11_has_13 kX11_place lX11_130 inX11_place seX11_place h1.m rfl (cm_place_r hl w1 _ _ (i1) (k1) (sp_T S (i1)) h1 R1 (by omega) (by omega) rfl) (Nat.le_of_ble_eq_true rfl) ⟨(Nat.le_of_ble_eq_true rfl), (Nat.le_of_ble_eq_true rfl)⟩ rfl (Nat.le_of_ble_eq_true rfl) rfl rfl (fun _ _ h => h.elim) ?_
      rintro _ _ ⟨⟨j506, e506, rfl, hj506, he506, hlk506, hmem506, hjl506, hl20506⟩ | ⟨rfl, hnk506, hlk506⟩, hw506⟩
      · refine j_w w1 hw506 ?_
        refine j_if_lt (tgt := 23) dX11_has_16 (by decide) (fun c_16_18 => ?_) (fun c_16_18 => ?_)
        · exact absurd c_16_18 (nI_pos (n := j506) (by omega))
        · refine j_iconst (v := 1) dX11_has_19 (by decide) ?_
          refine j_goto (tgt := 24) dX11_has_20 (by decide) ?_
          refine j_iret dX11_has_24 rfl rfl ?_ (Nat.le_of_ble_eq_true rfl) (Nat.le_of_ble_eq_true rfl)
          refine cast (congrFun (congrFun hQ9 _) _) ?_
          try rw [ei1]
          try rw [ek1]
          refine ⟨_, _, rfl, (fm1.le (q' := 59) (by decide)), h1, sp_X0 ?_ th1 R1 (by rw [decide_eq_false (sp_vln (sp_lk_vl (ok.2.1 i1 (by omega)).2 hmem506))]; rfl)⟩
          first | (first | (refine sp_k32_0 ?_ ?_ <;> (first | (with_reducible assumption) | (refine Or.inl ?_; (with_reducible assumption)) | (refine Or.inr ?_; (with_reducible assumption)) | (refine Or.inr (Or.inl ?_); (with_reducible assumption)) | (refine Or.inr (Or.inr ?_); (with_reducible assumption)) | (refine Or.inr (Or.inr (Or.inl ?_)); (with_reducible assumption)) | (refine Or.inr (Or.inr (Or.inr ?_)); (with_reducible assumption)) | (refine fun z => Or.elim z ?_ ?_ <;> (with_reducible assumption)) | (refine fun z => Or.elim z ?_ (fun z => Or.elim z ?_ ?_) <;> (with_reducible assumption)) | (refine fun z => Or.elim z ?_ (fun z => Or.elim z ?_ (fun z => Or.elim z ?_ ?_)) <;> (with_reducible assumption)) | (refine fun z => Or.elim z (fun z9 => z9 ?_) ?_ <;> (first | (with_reducible assumption) | (refine Or.inl ?_; (with_reducible assumption)) | (refine Or.inr (Or.inl ?_); (with_reducible assumption)) | (refine Or.inr (Or.inr ?_); (with_reducible assumption)) | (refine Or.inr (Or.inr (Or.inl ?_)); (with_reducible assumption)) | (refine Or.inr (Or.inr (Or.inr ?_)); (with_reducible assumption)))) | (refine Or.inl (fun z => Or.elim z ?_ (fun z => Or.elim z ?_ ?_)) <;> (with_reducible assumption)) | (refine Or.inl (fun z => Or.elim z ?_ (fun z => Or.elim z ?_ (fun z => Or.elim z ?_ ?_))) <;> (with_reducible assumption))))) | (first | (refine sp_k32_0 ?_ ?_ <;> (first | assumption | (refine Or.inl ?_; assumption) | (refine Or.inr ?_; assumption) | (refine Or.inr (Or.inl ?_); assumption) | (refine Or.inr (Or.inr ?_); assumption) | (refine Or.inr (Or.inr (Or.inl ?_)); assumption) | (refine Or.inr (Or.inr (Or.inr ?_)); assumption) | (refine fun z => Or.elim z ?_ ?_ <;> assumption) | (refine fun z => Or.elim z ?_ (fun z => Or.elim z ?_ ?_) <;> assumption) | (refine fun z => Or.elim z ?_ (fun z => Or.elim z ?_ (fun z => Or.elim z ?_ ?_)) <;> assumption) | (refine fun z => Or.elim z (fun z9 => z9 ?_) ?_ <;> (first | assumption | (refine Or.inl ?_; assumption) | (refine Or.inr (Or.inl ?_); assumption) | (refine Or.inr (Or.inr ?_); assumption) | (refine Or.inr (Or.inr (Or.inl ?_)); assumption) | (refine Or.inr (Or.inr (Or.inr ?_)); assumption))) | (refine Or.inl (fun z => Or.elim z ?_ (fun z => Or.elim z ?_ ?_)) <;> assumption) | (refine Or.inl (fun z => Or.elim z ?_ (fun z => Or.elim z ?_ (fun z => Or.elim z ?_ ?_))) <;> assumption))))
      · refine j_w w1 hw506 ?_
        refine j_if_lt (tgt := 23) dX11_has_16 (by decide) (fun c_16_29 => ?_) (fun c_16_29 => ?_)
        · refine j_iconst (v := 0) dX11_has_23 (by decide) ?_
          refine j_iret dX11_has_24 rfl rfl ?_ (Nat.le_of_ble_eq_true rfl) (Nat.le_of_ble_eq_true rfl)
          refine cast (congrFun (congrFun hQ9 _) _) ?_
          try rw [ei1]
          try rw [ek1]
          refine ⟨_, _, rfl, (fm1.le (q' := 59) (by decide)), h1, sp_X0 ?_ th1 R1 (by rw [decide_eq_true hlk506]; rfl)⟩
          first | (first | (refine sp_k32_0 ?_ ?_ <;> (first | (with_reducible assumption) | (refine Or.inl ?_; (with_reducible assumption)) | (refine Or.inr ?_; (with_reducible assumption)) | (refine Or.inr (Or.inl ?_); (with_reducible assumption)) | (refine Or.inr (Or.inr ?_); (with_reducible assumption)) | (refine Or.inr (Or.inr (Or.inl ?_)); (with_reducible assumption)) | (refine Or.inr (Or.inr (Or.inr ?_)); (with_reducible assumption)) | (refine fun z => Or.elim z ?_ ?_ <;> (with_reducible assumption)) | (refine fun z => Or.elim z ?_ (fun z => Or.elim z ?_ ?_) <;> (with_reducible assumption)) | (refine fun z => Or.elim z ?_ (fun z => Or.elim z ?_ (fun z => Or.elim z ?_ ?_)) <;> (with_reducible assumption)) | (refine fun z => Or.elim z (fun z9 => z9 ?_) ?_ <;> (first | (with_reducible assumption) | (refine Or.inl ?_; (with_reducible assumption)) | (refine Or.inr (Or.inl ?_); (with_reducible assumption)) | (refine Or.inr (Or.inr ?_); (with_reducible assumption)) | (refine Or.inr (Or.inr (Or.inl ?_)); (with_reducible assumption)) | (refine Or.inr (Or.inr (Or.inr ?_)); (with_reducible assumption)))) | (refine Or.inl (fun z => Or.elim z ?_ (fun z => Or.elim z ?_ ?_)) <;> (with_reducible assumption)) | (refine Or.inl (fun z => Or.elim z ?_ (fun z => Or.elim z ?_ (fun z => Or.elim z ?_ ?_))) <;> (with_reducible assumption))))) | (first | (refine sp_k32_0 ?_ ?_ <;> (first | assumption | (refine Or.inl ?_; assumption) | (refine Or.inr ?_; assumption) | (refine Or.inr (Or.inl ?_); assumption) | (refine Or.inr (Or.inr ?_); assumption) | (refine Or.inr (Or.inr (Or.inl ?_)); assumption) | (refine Or.inr (Or.inr (Or.inr ?_)); assumption) | (refine fun z => Or.elim z ?_ ?_ <;> assumption) | (refine fun z => Or.elim z ?_ (fun z => Or.elim z ?_ ?_) <;> assumption) | (refine fun z => Or.elim z ?_ (fun z => Or.elim z ?_ (fun z => Or.elim z ?_ ?_)) <;> assumption) | (refine fun z => Or.elim z (fun z9 => z9 ?_) ?_ <;> (first | assumption | (refine Or.inl ?_; assumption) | (refine Or.inr (Or.inl ?_); assumption) | (refine Or.inr (Or.inr ?_); assumption) | (refine Or.inr (Or.inr (Or.inl ?_)); assumption) | (refine Or.inr (Or.inr (Or.inr ?_)); assumption))) | (refine Or.inl (fun z => Or.elim z ?_ (fun z => Or.elim z ?_ ?_)) <;> assumption) | (refine Or.inl (fun z => Or.elim z ?_ (fun z => Or.elim z ?_ (fun z => Or.elim z ?_ ?_))) <;> assumption))))
        · exact absurd c_16_29 (by decide)
  · refine j_if_ne (tgt := 23) dX11_has_7 (by decide) (fun c_7_38 => ?_) (fun c_7_38 => ?_)
    · refine j_iconst (v := 0) dX11_has_23 (by decide) ?_
      refine j_iret dX11_has_24 rfl rfl ?_ (Nat.le_of_ble_eq_true rfl) (Nat.le_of_ble_eq_true rfl)
      refine cast (congrFun (congrFun hQ9 _) _) ?_
      refine ⟨_, _, rfl, (fm1.le (q' := 59) (by decide)), h1, sp_X1 (k := 1) ?_ (by decide) th1 R1⟩
      first | (first | (refine sp_k32_1 ?_ <;> (first | (with_reducible assumption) | (refine Or.inl ?_; (with_reducible assumption)) | (refine Or.inr ?_; (with_reducible assumption)) | (refine Or.inr (Or.inl ?_); (with_reducible assumption)) | (refine Or.inr (Or.inr ?_); (with_reducible assumption)) | (refine Or.inr (Or.inr (Or.inl ?_)); (with_reducible assumption)) | (refine Or.inr (Or.inr (Or.inr ?_)); (with_reducible assumption)) | (refine fun z => Or.elim z ?_ ?_ <;> (with_reducible assumption)) | (refine fun z => Or.elim z ?_ (fun z => Or.elim z ?_ ?_) <;> (with_reducible assumption)) | (refine fun z => Or.elim z ?_ (fun z => Or.elim z ?_ (fun z => Or.elim z ?_ ?_)) <;> (with_reducible assumption)) | (refine fun z => Or.elim z (fun z9 => z9 ?_) ?_ <;> (first | (with_reducible assumption) | (refine Or.inl ?_; (with_reducible assumption)) | (refine Or.inr (Or.inl ?_); (with_reducible assumption)) | (refine Or.inr (Or.inr ?_); (with_reducible assumption)) | (refine Or.inr (Or.inr (Or.inl ?_)); (with_reducible assumption)) | (refine Or.inr (Or.inr (Or.inr ?_)); (with_reducible assumption)))) | (refine Or.inl (fun z => Or.elim z ?_ (fun z => Or.elim z ?_ ?_)) <;> (with_reducible assumption)) | (refine Or.inl (fun z => Or.elim z ?_ (fun z => Or.elim z ?_ (fun z => Or.elim z ?_ ?_))) <;> (with_reducible assumption))))) | (first | (refine sp_k32_1 ?_ <;> (first | assumption | (refine Or.inl ?_; assumption) | (refine Or.inr ?_; assumption) | (refine Or.inr (Or.inl ?_); assumption) | (refine Or.inr (Or.inr ?_); assumption) | (refine Or.inr (Or.inr (Or.inl ?_)); assumption) | (refine Or.inr (Or.inr (Or.inr ?_)); assumption) | (refine fun z => Or.elim z ?_ ?_ <;> assumption) | (refine fun z => Or.elim z ?_ (fun z => Or.elim z ?_ ?_) <;> assumption) | (refine fun z => Or.elim z ?_ (fun z => Or.elim z ?_ (fun z => Or.elim z ?_ ?_)) <;> assumption) | (refine fun z => Or.elim z (fun z9 => z9 ?_) ?_ <;> (first | assumption | (refine Or.inl ?_; assumption) | (refine Or.inr (Or.inl ?_); assumption) | (refine Or.inr (Or.inr ?_); assumption) | (refine Or.inr (Or.inr (Or.inl ?_)); assumption) | (refine Or.inr (Or.inr (Or.inr ?_)); assumption))) | (refine Or.inl (fun z => Or.elim z ?_ (fun z => Or.elim z ?_ ?_)) <;> assumption) | (refine Or.inl (fun z => Or.elim z ?_ (fun z => Or.elim z ?_ (fun z => Or.elim z ?_ ?_))) <;> assumption))))
    · exact absurd c_7_38 (by decide)
  · have hP9 : sp_bk k := hP1.resolve_right (by decide)
    refine j_if_ne (tgt := 23) dX11_has_7 (by decide) (fun c_7_46 => ?_) (fun c_7_46 => ?_)
    · refine j_iconst (v := 0) dX11_has_23 (by decide) ?_
      refine j_iret dX11_has_24 rfl rfl ?_ (Nat.le_of_ble_eq_true rfl) (Nat.le_of_ble_eq_true rfl)
      refine cast (congrFun (congrFun hQ9 _) _) ?_
      refine ⟨_, _, rfl, (fm1.le (q' := 59) (by decide)), h1, sp_X1 (k := 2) ?_ (by decide) th1 R1⟩
      first | (first | (refine sp_k32_2 ?_ ?_ <;> (first | (with_reducible assumption) | (refine Or.inl ?_; (with_reducible assumption)) | (refine Or.inr ?_; (with_reducible assumption)) | (refine Or.inr (Or.inl ?_); (with_reducible assumption)) | (refine Or.inr (Or.inr ?_); (with_reducible assumption)) | (refine Or.inr (Or.inr (Or.inl ?_)); (with_reducible assumption)) | (refine Or.inr (Or.inr (Or.inr ?_)); (with_reducible assumption)) | (refine fun z => Or.elim z ?_ ?_ <;> (with_reducible assumption)) | (refine fun z => Or.elim z ?_ (fun z => Or.elim z ?_ ?_) <;> (with_reducible assumption)) | (refine fun z => Or.elim z ?_ (fun z => Or.elim z ?_ (fun z => Or.elim z ?_ ?_)) <;> (with_reducible assumption)) | (refine fun z => Or.elim z (fun z9 => z9 ?_) ?_ <;> (first | (with_reducible assumption) | (refine Or.inl ?_; (with_reducible assumption)) | (refine Or.inr (Or.inl ?_); (with_reducible assumption)) | (refine Or.inr (Or.inr ?_); (with_reducible assumption)) | (refine Or.inr (Or.inr (Or.inl ?_)); (with_reducible assumption)) | (refine Or.inr (Or.inr (Or.inr ?_)); (with_reducible assumption)))) | (refine Or.inl (fun z => Or.elim z ?_ (fun z => Or.elim z ?_ ?_)) <;> (with_reducible assumption)) | (refine Or.inl (fun z => Or.elim z ?_ (fun z => Or.elim z ?_ (fun z => Or.elim z ?_ ?_))) <;> (with_reducible assumption))))) | (first | (refine sp_k32_2 ?_ ?_ <;> (first | assumption | (refine Or.inl ?_; assumption) | (refine Or.inr ?_; assumption) | (refine Or.inr (Or.inl ?_); assumption) | (refine Or.inr (Or.inr ?_); assumption) | (refine Or.inr (Or.inr (Or.inl ?_)); assumption) | (refine Or.inr (Or.inr (Or.inr ?_)); assumption) | (refine fun z => Or.elim z ?_ ?_ <;> assumption) | (refine fun z => Or.elim z ?_ (fun z => Or.elim z ?_ ?_) <;> assumption) | (refine fun z => Or.elim z ?_ (fun z => Or.elim z ?_ (fun z => Or.elim z ?_ ?_)) <;> assumption) | (refine fun z => Or.elim z (fun z9 => z9 ?_) ?_ <;> (first | assumption | (refine Or.inl ?_; assumption) | (refine Or.inr (Or.inl ?_); assumption) | (refine Or.inr (Or.inr ?_); assumption) | (refine Or.inr (Or.inr (Or.inl ?_)); assumption) | (refine Or.inr (Or.inr (Or.inr ?_)); assumption))) | (refine Or.inl (fun z => Or.elim z ?_ (fun z => Or.elim z ?_ ?_)) <;> assumption) | (refine Or.inl (fun z => Or.elim z ?_ (fun z => Or.elim z ?_ (fun z => Or.elim z ?_ ?_))) <;> assumption))))
    · exact absurd c_7_46 (by decide)
set_option maxRecDepth 100000 in
set_option maxHeartbeats 8000000 in
theorem cx_size (hl : l.stackTraces = false) (w : z_W) (S : sp_S) (s : z_Z) (t : Int32) (h : z_mst w s) (R : sp_MR S s)  : z_Con G l mX11_size 20 0 0 w [.ref 1000, .int t] (fun v w9 => ∃ (r9 : Int32) (s9 : z_Z), v = some (.int r9) ∧ z_fm 59 w w9 ∧ z_mst w9 s9 ∧ s9.1.1 = sp_k3 t ∧ sp_MR (if sp_k3 t = 0 then S else S) s9 ∧ (sp_k3 t = 0 → r9 = nI (sp_T S (sp_i t)).length)) (fun _ _ => False) := by
  generalize hQ9 : (fun (v : Option Value) (w9 : z_W) => ∃ (r9 : Int32) (s9 : z_Z), v = some (.int r9) ∧ z_fm 59 w w9 ∧ z_mst w9 s9 ∧ s9.1.1 = sp_k3 t ∧ sp_MR (if sp_k3 t = 0 then S else S) s9 ∧ (sp_k3 t = 0 → r9 = nI (sp_T S (sp_i t)).length)) = Q9
  refine z_body hl (by decide) rfl (Nat.le_of_ble_eq_true rfl) ?_
  show z_J G l mX11_size _ 0 [(0, _), (1, _)] [] _ 0 0
  refine j_aload_n dX11_size_0 rfl rfl ?_
  refine j_iload_n dX11_size_1 rfl ?_
  refine j_callS dX11_size_2 kX11_isNoTable lX11_136 stX11_isNoTable (cm_isNoTable_r hl w _) (Nat.le_of_ble_eq_true rfl) ⟨(Nat.le_of_ble_eq_true rfl), (Nat.le_of_ble_eq_true rfl)⟩ rfl (Nat.le_of_ble_eq_true rfl) rfl rfl (fun _ _ h => h.elim) ?_
  rintro _ _ ⟨⟨rfl, hno507⟩ | ⟨rfl, i507, hi507, ht507, rfl⟩, hw507⟩
  · refine j_w w hw507 ?_
    refine j_iconst (v := 1) dX11_size_5 (by decide) ?_
    refine j_callV (q := (RX11, TX11, 8)) dX11_size_6 kX11_start lX11_76 inX11_start seX11_start h.m rfl (cm_start1 hl w _ _ h (by decide)) (Nat.le_of_ble_eq_true rfl) ⟨(Nat.le_of_ble_eq_true rfl), (Nat.le_of_ble_eq_true rfl)⟩ rfl (Nat.le_of_ble_eq_true rfl) rfl rfl (fun _ _ h => h.elim) ?_
    rintro _ w1 ⟨rfl, fm1, h1⟩
    have R1 := R.th (k := 1)
    refine j_if_eq (tgt := 16) dX11_size_9 (by decide) (fun c_9_11 => ?_) (fun c_9_11 => ?_)
    · exact absurd c_9_11 (by decide)
    · refine j_iconst (v := 0) dX11_size_12 (by decide) ?_
      refine j_goto (tgt := 30) dX11_size_13 (by decide) ?_
      refine j_iret dX11_size_30 rfl rfl ?_ (Nat.le_of_ble_eq_true rfl) (Nat.le_of_ble_eq_true rfl)
      refine cast (congrFun (congrFun hQ9 _) _) ?_
      refine ⟨_, _, rfl, (fm1.le (q' := 59) (by decide)), h1, sp_X1 (k := 1) ?_ (by decide) rfl R1⟩
      first | (first | (refine sp_k3_1 ?_ <;> (first | (with_reducible assumption) | (refine Or.inl ?_; (with_reducible assumption)) | (refine Or.inr ?_; (with_reducible assumption)) | (refine Or.inr (Or.inl ?_); (with_reducible assumption)) | (refine Or.inr (Or.inr ?_); (with_reducible assumption)) | (refine Or.inr (Or.inr (Or.inl ?_)); (with_reducible assumption)) | (refine Or.inr (Or.inr (Or.inr ?_)); (with_reducible assumption)) | (refine fun z => Or.elim z ?_ ?_ <;> (with_reducible assumption)) | (refine fun z => Or.elim z ?_ (fun z => Or.elim z ?_ ?_) <;> (with_reducible assumption)) | (refine fun z => Or.elim z ?_ (fun z => Or.elim z ?_ (fun z => Or.elim z ?_ ?_)) <;> (with_reducible assumption)) | (refine fun z => Or.elim z (fun z9 => z9 ?_) ?_ <;> (first | (with_reducible assumption) | (refine Or.inl ?_; (with_reducible assumption)) | (refine Or.inr (Or.inl ?_); (with_reducible assumption)) | (refine Or.inr (Or.inr ?_); (with_reducible assumption)) | (refine Or.inr (Or.inr (Or.inl ?_)); (with_reducible assumption)) | (refine Or.inr (Or.inr (Or.inr ?_)); (with_reducible assumption)))) | (refine Or.inl (fun z => Or.elim z ?_ (fun z => Or.elim z ?_ ?_)) <;> (with_reducible assumption)) | (refine Or.inl (fun z => Or.elim z ?_ (fun z => Or.elim z ?_ (fun z => Or.elim z ?_ ?_))) <;> (with_reducible assumption))))) | (first | (refine sp_k3_1 ?_ <;> (first | assumption | (refine Or.inl ?_; assumption) | (refine Or.inr ?_; assumption) | (refine Or.inr (Or.inl ?_); assumption) | (refine Or.inr (Or.inr ?_); assumption) | (refine Or.inr (Or.inr (Or.inl ?_)); assumption) | (refine Or.inr (Or.inr (Or.inr ?_)); assumption) | (refine fun z => Or.elim z ?_ ?_ <;> assumption) | (refine fun z => Or.elim z ?_ (fun z => Or.elim z ?_ ?_) <;> assumption) | (refine fun z => Or.elim z ?_ (fun z => Or.elim z ?_ (fun z => Or.elim z ?_ ?_)) <;> assumption) | (refine fun z => Or.elim z (fun z9 => z9 ?_) ?_ <;> (first | assumption | (refine Or.inl ?_; assumption) | (refine Or.inr (Or.inl ?_); assumption) | (refine Or.inr (Or.inr ?_); assumption) | (refine Or.inr (Or.inr (Or.inl ?_)); assumption) | (refine Or.inr (Or.inr (Or.inr ?_)); assumption))) | (refine Or.inl (fun z => Or.elim z ?_ (fun z => Or.elim z ?_ ?_)) <;> assumption) | (refine Or.inl (fun z => Or.elim z ?_ (fun z => Or.elim z ?_ (fun z => Or.elim z ?_ ?_))) <;> assumption))))
  · refine j_w w hw507 ?_
    have ei507 : sp_i (nI i507) = i507 := sp_in' (by omega)
    refine j_iconst (v := 1) dX11_size_5 (by decide) ?_
    refine j_callV (q := (RX11, TX11, 8)) dX11_size_6 kX11_start lX11_76 inX11_start seX11_start h.m rfl (cm_start0 hl w _ _ h) (Nat.le_of_ble_eq_true rfl) ⟨(Nat.le_of_ble_eq_true rfl), (Nat.le_of_ble_eq_true rfl)⟩ rfl (Nat.le_of_ble_eq_true rfl) rfl rfl (fun _ _ h => h.elim) ?_
    rintro _ w2 ⟨rfl, fm2, h2⟩
    have R2 := R.th (k := 0)
    refine j_if_eq (tgt := 16) dX11_size_9 (by decide) (fun c_9_25 => ?_) (fun c_9_25 => ?_)
    · refine j_aload_n dX11_size_16 rfl rfl ?_
      refine j_getf dX11_size_17 fX11_34 h2.m rfl ?_
      refine j_iload_n dX11_size_20 rfl ?_
      obtain ⟨lv509, -, lg509⟩ := z_li.cell h2.tabs
      refine j_callV (q := (RJx4a65c, TJx4a65c, 3)) dX11_size_21 kJx4a65c_get_915e3 lX11_82 inJx4a65c_get_915e3 seJx4a65c_get_915e3 lg509 rfl (cl_get hl w2 47 1007 _ _ (i507) _ h2.tabs (z_thr3 (t := i507) (by omega))) (Nat.le_of_ble_eq_true rfl) ⟨(Nat.le_of_ble_eq_true rfl), (Nat.le_of_ble_eq_true rfl)⟩ rfl (Nat.le_of_ble_eq_true rfl) rfl rfl (fun _ _ h => h.elim) ?_
      rintro _ _ ⟨rfl, hw510⟩
      refine j_w w2 hw510 ?_
      refine j_castS dX11_size_24 (z_w 1341 ((lwt_6_3 6).trans rfl) (by decide +kernel)) (z_li.is (h2.tb (t := i507) (by omega))) ?_
      obtain ⟨lv512, -, lg512⟩ := z_li.cell (h2.tb (t := i507) (by omega))
      refine j_callV (q := (RJx4a65c, TJx4a65c, 3)) dX11_size_27 kJx4a65c_size_8abf5 lX11_86 inJx4a65c_size_8abf5 seJx4a65c_size_8abf5 lg512 rfl (cl_sizeT hl w2 (i507) (sp_T S (i507)) h2 R2 (by omega) rfl) (Nat.le_of_ble_eq_true rfl) ⟨(Nat.le_of_ble_eq_true rfl), (Nat.le_of_ble_eq_true rfl)⟩ rfl (Nat.le_of_ble_eq_true rfl) rfl rfl (fun _ _ h => h.elim) ?_
      rintro _ _ ⟨rfl, hw513⟩
      refine j_w w2 hw513 ?_
      have hz513 : (sp_T S (i507)).length ≤ 20 := R2.l20 h2 (t := i507) (by omega) rfl
      refine j_iret dX11_size_30 rfl rfl ?_ (Nat.le_of_ble_eq_true rfl) (Nat.le_of_ble_eq_true rfl)
      refine cast (congrFun (congrFun hQ9 _) _) ?_
      try rw [ei507]
      refine ⟨_, _, rfl, (fm2.le (q' := 59) (by decide)), h2, sp_X0 ?_ rfl R2 rfl⟩
      first | (first | (refine sp_k3_0 ?_ <;> (first | (with_reducible assumption) | (refine Or.inl ?_; (with_reducible assumption)) | (refine Or.inr ?_; (with_reducible assumption)) | (refine Or.inr (Or.inl ?_); (with_reducible assumption)) | (refine Or.inr (Or.inr ?_); (with_reducible assumption)) | (refine Or.inr (Or.inr (Or.inl ?_)); (with_reducible assumption)) | (refine Or.inr (Or.inr (Or.inr ?_)); (with_reducible assumption)) | (refine fun z => Or.elim z ?_ ?_ <;> (with_reducible assumption)) | (refine fun z => Or.elim z ?_ (fun z => Or.elim z ?_ ?_) <;> (with_reducible assumption)) | (refine fun z => Or.elim z ?_ (fun z => Or.elim z ?_ (fun z => Or.elim z ?_ ?_)) <;> (with_reducible assumption)) | (refine fun z => Or.elim z (fun z9 => z9 ?_) ?_ <;> (first | (with_reducible assumption) | (refine Or.inl ?_; (with_reducible assumption)) | (refine Or.inr (Or.inl ?_); (with_reducible assumption)) | (refine Or.inr (Or.inr ?_); (with_reducible assumption)) | (refine Or.inr (Or.inr (Or.inl ?_)); (with_reducible assumption)) | (refine Or.inr (Or.inr (Or.inr ?_)); (with_reducible assumption)))) | (refine Or.inl (fun z => Or.elim z ?_ (fun z => Or.elim z ?_ ?_)) <;> (with_reducible assumption)) | (refine Or.inl (fun z => Or.elim z ?_ (fun z => Or.elim z ?_ (fun z => Or.elim z ?_ ?_))) <;> (with_reducible assumption))))) | (first | (refine sp_k3_0 ?_ <;> (first | assumption | (refine Or.inl ?_; assumption) | (refine Or.inr ?_; assumption) | (refine Or.inr (Or.inl ?_); assumption) | (refine Or.inr (Or.inr ?_); assumption) | (refine Or.inr (Or.inr (Or.inl ?_)); assumption) | (refine Or.inr (Or.inr (Or.inr ?_)); assumption) | (refine fun z => Or.elim z ?_ ?_ <;> assumption) | (refine fun z => Or.elim z ?_ (fun z => Or.elim z ?_ ?_) <;> assumption) | (refine fun z => Or.elim z ?_ (fun z => Or.elim z ?_ (fun z => Or.elim z ?_ ?_)) <;> assumption) | (refine fun z => Or.elim z (fun z9 => z9 ?_) ?_ <;> (first | assumption | (refine Or.inl ?_; assumption) | (refine Or.inr (Or.inl ?_); assumption) | (refine Or.inr (Or.inr ?_); assumption) | (refine Or.inr (Or.inr (Or.inl ?_)); assumption) | (refine Or.inr (Or.inr (Or.inr ?_)); assumption))) | (refine Or.inl (fun z => Or.elim z ?_ (fun z => Or.elim z ?_ ?_)) <;> assumption) | (refine Or.inl (fun z => Or.elim z ?_ (fun z => Or.elim z ?_ (fun z => Or.elim z ?_ ?_))) <;> assumption))))
    · exact absurd c_9_25 (by decide)
set_option maxRecDepth 100000 in
set_option maxHeartbeats 8000000 in
theorem cx_clear (hl : l.stackTraces = false) (w : z_W) (S : sp_S) (s : z_Z) (t : Int32) (h : z_mst w s) (R : sp_MR S s)  : z_Con G l mX11_clear 20 0 0 w [.ref 1000, .int t] (fun v w9 => ∃ (r9 : Int32) (s9 : z_Z), v = some (.int r9) ∧ z_fm 59 w w9 ∧ z_mst w9 s9 ∧ s9.1.1 = sp_k3 t ∧ sp_MR (if sp_k3 t = 0 then sp_uT S (sp_i t) [] else S) s9 ∧ (sp_k3 t = 0 → r9 = nI (sp_T S (sp_i t)).length)) (fun _ _ => False) := by
  generalize hQ9 : (fun (v : Option Value) (w9 : z_W) => ∃ (r9 : Int32) (s9 : z_Z), v = some (.int r9) ∧ z_fm 59 w w9 ∧ z_mst w9 s9 ∧ s9.1.1 = sp_k3 t ∧ sp_MR (if sp_k3 t = 0 then sp_uT S (sp_i t) [] else S) s9 ∧ (sp_k3 t = 0 → r9 = nI (sp_T S (sp_i t)).length)) = Q9
  refine z_body hl (by decide) rfl (Nat.le_of_ble_eq_true rfl) ?_
  show z_J G l mX11_clear _ 0 [(0, _), (1, _)] [] _ 0 0
  refine j_aload_n dX11_clear_0 rfl rfl ?_
  refine j_iload_n dX11_clear_1 rfl ?_
  refine j_callS dX11_clear_2 kX11_isNoTable lX11_136 stX11_isNoTable (cm_isNoTable_r hl w _) (Nat.le_of_ble_eq_true rfl) ⟨(Nat.le_of_ble_eq_true rfl), (Nat.le_of_ble_eq_true rfl)⟩ rfl (Nat.le_of_ble_eq_true rfl) rfl rfl (fun _ _ h => h.elim) ?_
  rintro _ _ ⟨⟨rfl, hno514⟩ | ⟨rfl, i514, hi514, ht514, rfl⟩, hw514⟩
  · refine j_w w hw514 ?_
    refine j_iconst (v := 1) dX11_clear_5 (by decide) ?_
    refine j_callV (q := (RX11, TX11, 8)) dX11_clear_6 kX11_start lX11_76 inX11_start seX11_start h.m rfl (cm_start1 hl w _ _ h (by decide)) (Nat.le_of_ble_eq_true rfl) ⟨(Nat.le_of_ble_eq_true rfl), (Nat.le_of_ble_eq_true rfl)⟩ rfl (Nat.le_of_ble_eq_true rfl) rfl rfl (fun _ _ h => h.elim) ?_
    rintro _ w1 ⟨rfl, fm1, h1⟩
    have R1 := R.th (k := 1)
    refine j_if_eq (tgt := 14) dX11_clear_9 (by decide) (fun c_9_11 => ?_) (fun c_9_11 => ?_)
    · exact absurd c_9_11 (by decide)
    · refine j_iconst (v := 0) dX11_clear_12 (by decide) ?_
      refine j_iret dX11_clear_13 rfl rfl ?_ (Nat.le_of_ble_eq_true rfl) (Nat.le_of_ble_eq_true rfl)
      refine cast (congrFun (congrFun hQ9 _) _) ?_
      refine ⟨_, _, rfl, (fm1.le (q' := 59) (by decide)), h1, sp_X1 (k := 1) ?_ (by decide) rfl R1⟩
      first | (first | (refine sp_k3_1 ?_ <;> (first | (with_reducible assumption) | (refine Or.inl ?_; (with_reducible assumption)) | (refine Or.inr ?_; (with_reducible assumption)) | (refine Or.inr (Or.inl ?_); (with_reducible assumption)) | (refine Or.inr (Or.inr ?_); (with_reducible assumption)) | (refine Or.inr (Or.inr (Or.inl ?_)); (with_reducible assumption)) | (refine Or.inr (Or.inr (Or.inr ?_)); (with_reducible assumption)) | (refine fun z => Or.elim z ?_ ?_ <;> (with_reducible assumption)) | (refine fun z => Or.elim z ?_ (fun z => Or.elim z ?_ ?_) <;> (with_reducible assumption)) | (refine fun z => Or.elim z ?_ (fun z => Or.elim z ?_ (fun z => Or.elim z ?_ ?_)) <;> (with_reducible assumption)) | (refine fun z => Or.elim z (fun z9 => z9 ?_) ?_ <;> (first | (with_reducible assumption) | (refine Or.inl ?_; (with_reducible assumption)) | (refine Or.inr (Or.inl ?_); (with_reducible assumption)) | (refine Or.inr (Or.inr ?_); (with_reducible assumption)) | (refine Or.inr (Or.inr (Or.inl ?_)); (with_reducible assumption)) | (refine Or.inr (Or.inr (Or.inr ?_)); (with_reducible assumption)))) | (refine Or.inl (fun z => Or.elim z ?_ (fun z => Or.elim z ?_ ?_)) <;> (with_reducible assumption)) | (refine Or.inl (fun z => Or.elim z ?_ (fun z => Or.elim z ?_ (fun z => Or.elim z ?_ ?_))) <;> (with_reducible assumption))))) | (first | (refine sp_k3_1 ?_ <;> (first | assumption | (refine Or.inl ?_; assumption) | (refine Or.inr ?_; assumption) | (refine Or.inr (Or.inl ?_); assumption) | (refine Or.inr (Or.inr ?_); assumption) | (refine Or.inr (Or.inr (Or.inl ?_)); assumption) | (refine Or.inr (Or.inr (Or.inr ?_)); assumption) | (refine fun z => Or.elim z ?_ ?_ <;> assumption) | (refine fun z => Or.elim z ?_ (fun z => Or.elim z ?_ ?_) <;> assumption) | (refine fun z => Or.elim z ?_ (fun z => Or.elim z ?_ (fun z => Or.elim z ?_ ?_)) <;> assumption) | (refine fun z => Or.elim z (fun z9 => z9 ?_) ?_ <;> (first | assumption | (refine Or.inl ?_; assumption) | (refine Or.inr (Or.inl ?_); assumption) | (refine Or.inr (Or.inr ?_); assumption) | (refine Or.inr (Or.inr (Or.inl ?_)); assumption) | (refine Or.inr (Or.inr (Or.inr ?_)); assumption))) | (refine Or.inl (fun z => Or.elim z ?_ (fun z => Or.elim z ?_ ?_)) <;> assumption) | (refine Or.inl (fun z => Or.elim z ?_ (fun z => Or.elim z ?_ (fun z => Or.elim z ?_ ?_))) <;> assumption))))
  · refine j_w w hw514 ?_
    have ei514 : sp_i (nI i514) = i514 := sp_in' (by omega)
    refine j_iconst (v := 1) dX11_clear_5 (by decide) ?_
    refine j_callV (q := (RX11, TX11, 8)) dX11_clear_6 kX11_start lX11_76 inX11_start seX11_start h.m rfl (cm_start0 hl w _ _ h) (Nat.le_of_ble_eq_true rfl) ⟨(Nat.le_of_ble_eq_true rfl), (Nat.le_of_ble_eq_true rfl)⟩ rfl (Nat.le_of_ble_eq_true rfl) rfl rfl (fun _ _ h => h.elim) ?_
    rintro _ w2 ⟨rfl, fm2, h2⟩
    have R2 := R.th (k := 0)
    refine j_if_eq (tgt := 14) dX11_clear_9 (by decide) (fun c_9_24 => ?_) (fun c_9_24 => ?_)
    · refine j_aload_n dX11_clear_14 rfl rfl ?_
      refine j_getf dX11_clear_15 fX11_34 h2.m rfl ?_
      refine j_iload_n dX11_clear_18 rfl ?_
      obtain ⟨lv516, -, lg516⟩ := z_li.cell h2.tabs
      refine j_callV (q := (RJx4a65c, TJx4a65c, 3)) dX11_clear_19 kJx4a65c_get_915e3 lX11_82 inJx4a65c_get_915e3 seJx4a65c_get_915e3 lg516 rfl (cl_get hl w2 47 1007 _ _ (i514) _ h2.tabs (z_thr3 (t := i514) (by omega))) (Nat.le_of_ble_eq_true rfl) ⟨(Nat.le_of_ble_eq_true rfl), (Nat.le_of_ble_eq_true rfl)⟩ rfl (Nat.le_of_ble_eq_true rfl) rfl rfl (fun _ _ h => h.elim) ?_
      rintro _ _ ⟨rfl, hw517⟩
      refine j_w w2 hw517 ?_
      refine j_castS dX11_clear_22 (z_w 1341 ((lwt_6_3 6).trans rfl) (by decide +kernel)) (z_li.is (h2.tb (t := i514) (by omega))) ?_
      obtain ⟨lv519, -, lg519⟩ := z_li.cell (h2.tb (t := i514) (by omega))
      refine j_callV (q := (RJx4a65c, TJx4a65c, 3)) dX11_clear_25 kJx4a65c_size_8abf5 lX11_86 inJx4a65c_size_8abf5 seJx4a65c_size_8abf5 lg519 rfl (cl_sizeT hl w2 (i514) (sp_T S (i514)) h2 R2 (by omega) rfl) (Nat.le_of_ble_eq_true rfl) ⟨(Nat.le_of_ble_eq_true rfl), (Nat.le_of_ble_eq_true rfl)⟩ rfl (Nat.le_of_ble_eq_true rfl) rfl rfl (fun _ _ h => h.elim) ?_
      rintro _ _ ⟨rfl, hw520⟩
      refine j_w w2 hw520 ?_
      have hz520 : (sp_T S (i514)).length ≤ 20 := R2.l20 h2 (t := i514) (by omega) rfl
      refine j_istore_n (lo' := [(2, _), (0, _), (1, _)]) dX11_clear_28 (by decide) rfl ?_
      refine j_aload_n dX11_clear_29 rfl rfl ?_
      refine j_getf dX11_clear_30 fX11_34 h2.m rfl ?_
      refine j_iload_n dX11_clear_33 rfl ?_
      obtain ⟨lv522, -, lg522⟩ := z_li.cell h2.tabs
      refine j_callV (q := (RJx4a65c, TJx4a65c, 3)) dX11_clear_34 kJx4a65c_get_915e3 lX11_82 inJx4a65c_get_915e3 seJx4a65c_get_915e3 lg522 rfl (cl_get hl w2 47 1007 _ _ (i514) _ h2.tabs (z_thr3 (t := i514) (by omega))) (Nat.le_of_ble_eq_true rfl) ⟨(Nat.le_of_ble_eq_true rfl), (Nat.le_of_ble_eq_true rfl)⟩ rfl (Nat.le_of_ble_eq_true rfl) rfl rfl (fun _ _ h => h.elim) ?_
      rintro _ _ ⟨rfl, hw523⟩
      refine j_w w2 hw523 ?_
      refine j_castS dX11_clear_37 (z_w 1341 ((lwt_6_3 6).trans rfl) (by decide +kernel)) (z_li.is (h2.tb (t := i514) (by omega))) ?_
      obtain ⟨lv525, -, lg525⟩ := z_li.cell (h2.tb (t := i514) (by omega))
      refine j_callV (q := (RJx4a65c, TJx4a65c, 3)) dX11_clear_40 kJx4a65c_clear_da8c8 lX11_176 inJx4a65c_clear_da8c8 seJx4a65c_clear_da8c8 lg525 rfl (cl_clear hl w2 _ _ _ _ (h2.tb (t := i514) (by omega)) h2.fn) (Nat.le_of_ble_eq_true rfl) ⟨(Nat.le_of_ble_eq_true rfl), (Nat.le_of_ble_eq_true rfl)⟩ rfl (Nat.le_of_ble_eq_true rfl) rfl rfl (fun _ _ h => h.elim) ?_
      rintro _ w3 ⟨rfl, fw3, mo3, hr3⟩
      have fm3 := fw3.fm (q := 56) (by omega)
      have h3 := h2.li51 (t0 := i514) (P := []) (by omega) fw3 hr3 z_pr.nil
      have R3 := R2.up (t := i514) (c := mo3) (P := []) (T := []) rfl
      refine j_iload_n dX11_clear_43 rfl ?_
      refine j_iret dX11_clear_44 rfl rfl ?_ (Nat.le_of_ble_eq_true rfl) (Nat.le_of_ble_eq_true rfl)
      refine cast (congrFun (congrFun hQ9 _) _) ?_
      try rw [ei514]
      refine ⟨_, _, rfl, ((fm2.le (q' := 59) (by decide)).tr (fm3.le (q' := 59) (by decide))), h3, sp_X0 ?_ rfl R3 rfl⟩
      first | (first | (refine sp_k3_0 ?_ <;> (first | (with_reducible assumption) | (refine Or.inl ?_; (with_reducible assumption)) | (refine Or.inr ?_; (with_reducible assumption)) | (refine Or.inr (Or.inl ?_); (with_reducible assumption)) | (refine Or.inr (Or.inr ?_); (with_reducible assumption)) | (refine Or.inr (Or.inr (Or.inl ?_)); (with_reducible assumption)) | (refine Or.inr (Or.inr (Or.inr ?_)); (with_reducible assumption)) | (refine fun z => Or.elim z ?_ ?_ <;> (with_reducible assumption)) | (refine fun z => Or.elim z ?_ (fun z => Or.elim z ?_ ?_) <;> (with_reducible assumption)) | (refine fun z => Or.elim z ?_ (fun z => Or.elim z ?_ (fun z => Or.elim z ?_ ?_)) <;> (with_reducible assumption)) | (refine fun z => Or.elim z (fun z9 => z9 ?_) ?_ <;> (first | (with_reducible assumption) | (refine Or.inl ?_; (with_reducible assumption)) | (refine Or.inr (Or.inl ?_); (with_reducible assumption)) | (refine Or.inr (Or.inr ?_); (with_reducible assumption)) | (refine Or.inr (Or.inr (Or.inl ?_)); (with_reducible assumption)) | (refine Or.inr (Or.inr (Or.inr ?_)); (with_reducible assumption)))) | (refine Or.inl (fun z => Or.elim z ?_ (fun z => Or.elim z ?_ ?_)) <;> (with_reducible assumption)) | (refine Or.inl (fun z => Or.elim z ?_ (fun z => Or.elim z ?_ (fun z => Or.elim z ?_ ?_))) <;> (with_reducible assumption))))) | (first | (refine sp_k3_0 ?_ <;> (first | assumption | (refine Or.inl ?_; assumption) | (refine Or.inr ?_; assumption) | (refine Or.inr (Or.inl ?_); assumption) | (refine Or.inr (Or.inr ?_); assumption) | (refine Or.inr (Or.inr (Or.inl ?_)); assumption) | (refine Or.inr (Or.inr (Or.inr ?_)); assumption) | (refine fun z => Or.elim z ?_ ?_ <;> assumption) | (refine fun z => Or.elim z ?_ (fun z => Or.elim z ?_ ?_) <;> assumption) | (refine fun z => Or.elim z ?_ (fun z => Or.elim z ?_ (fun z => Or.elim z ?_ ?_)) <;> assumption) | (refine fun z => Or.elim z (fun z9 => z9 ?_) ?_ <;> (first | assumption | (refine Or.inl ?_; assumption) | (refine Or.inr (Or.inl ?_); assumption) | (refine Or.inr (Or.inr ?_); assumption) | (refine Or.inr (Or.inr (Or.inl ?_)); assumption) | (refine Or.inr (Or.inr (Or.inr ?_)); assumption))) | (refine Or.inl (fun z => Or.elim z ?_ (fun z => Or.elim z ?_ ?_)) <;> assumption) | (refine Or.inl (fun z => Or.elim z ?_ (fun z => Or.elim z ?_ (fun z => Or.elim z ?_ ?_))) <;> assumption))))
    · exact absurd c_9_24 (by decide)
set_option maxRecDepth 100000 in
set_option maxHeartbeats 8000000 in
theorem cx_areLike (hl : l.stackTraces = false) (w : z_W) (S : sp_S) (s : z_Z) (t : Int32) (u : Int32) (h : z_mst w s) (R : sp_MR S s)  : z_Con G l mX11_areLike 24 0 0 w [.ref 1000, .int t, .int u] (fun v w9 => ∃ (r9 : Int32) (s9 : z_Z), v = some (.int r9) ∧ z_fm 59 w w9 ∧ z_mst w9 s9 ∧ s9.1.1 = sp_k33 t u ∧ sp_MR (if sp_k33 t u = 0 then S else S) s9 ∧ (sp_k33 t u = 0 → r9 = z_bi (sp_lik (sp_T S (sp_i t)) (sp_T S (sp_i u))))) (fun _ _ => False) := by
  generalize hQ9 : (fun (v : Option Value) (w9 : z_W) => ∃ (r9 : Int32) (s9 : z_Z), v = some (.int r9) ∧ z_fm 59 w w9 ∧ z_mst w9 s9 ∧ s9.1.1 = sp_k33 t u ∧ sp_MR (if sp_k33 t u = 0 then S else S) s9 ∧ (sp_k33 t u = 0 → r9 = z_bi (sp_lik (sp_T S (sp_i t)) (sp_T S (sp_i u))))) = Q9
  refine z_body hl (by decide) rfl (Nat.le_of_ble_eq_true rfl) ?_
  show z_J G l mX11_areLike _ 0 [(0, _), (1, _), (2, _)] [] _ 0 0
  refine j_aload_n dX11_areLike_0 rfl rfl ?_
  refine j_iload_n dX11_areLike_1 rfl ?_
  refine j_callS dX11_areLike_2 kX11_isNoTable lX11_136 stX11_isNoTable (cm_isNoTable_r hl w _) (Nat.le_of_ble_eq_true rfl) ⟨(Nat.le_of_ble_eq_true rfl), (Nat.le_of_ble_eq_true rfl)⟩ rfl (Nat.le_of_ble_eq_true rfl) rfl rfl (fun _ _ h => h.elim) ?_
  rintro _ _ ⟨⟨rfl, hno526⟩ | ⟨rfl, i526, hi526, ht526, rfl⟩, hw526⟩
  · refine j_w w hw526 ?_
    refine j_if_ne (tgt := 15) dX11_areLike_5 (by decide) (fun c_5_7 => ?_) (fun c_5_7 => ?_)
    · refine j_iconst (v := 1) dX11_areLike_15 (by decide) ?_
      refine j_goto (tgt := 20) dX11_areLike_16 (by decide) ?_
      refine j_iconst (v := 1) dX11_areLike_20 (by decide) ?_
      refine j_callV (q := (RX11, TX11, 8)) dX11_areLike_21 kX11_start lX11_76 inX11_start seX11_start h.m rfl (cm_start1 hl w _ _ h (by decide)) (Nat.le_of_ble_eq_true rfl) ⟨(Nat.le_of_ble_eq_true rfl), (Nat.le_of_ble_eq_true rfl)⟩ rfl (Nat.le_of_ble_eq_true rfl) rfl rfl (fun _ _ h => h.elim) ?_
      rintro _ w1 ⟨rfl, fm1, h1⟩
      have R1 := R.th (k := 1)
      refine j_if_eq (tgt := 29) dX11_areLike_24 (by decide) (fun c_24_14 => ?_) (fun c_24_14 => ?_)
      · exact absurd c_24_14 (by decide)
      · refine j_iconst (v := 0) dX11_areLike_27 (by decide) ?_
        refine j_iret dX11_areLike_28 rfl rfl ?_ (Nat.le_of_ble_eq_true rfl) (Nat.le_of_ble_eq_true rfl)
        refine cast (congrFun (congrFun hQ9 _) _) ?_
        refine ⟨_, _, rfl, (fm1.le (q' := 59) (by decide)), h1, sp_X1 (k := 1) ?_ (by decide) rfl R1⟩
        first | (first | (refine sp_k33_1 ?_ <;> (first | (with_reducible assumption) | (refine Or.inl ?_; (with_reducible assumption)) | (refine Or.inr ?_; (with_reducible assumption)) | (refine Or.inr (Or.inl ?_); (with_reducible assumption)) | (refine Or.inr (Or.inr ?_); (with_reducible assumption)) | (refine Or.inr (Or.inr (Or.inl ?_)); (with_reducible assumption)) | (refine Or.inr (Or.inr (Or.inr ?_)); (with_reducible assumption)) | (refine fun z => Or.elim z ?_ ?_ <;> (with_reducible assumption)) | (refine fun z => Or.elim z ?_ (fun z => Or.elim z ?_ ?_) <;> (with_reducible assumption)) | (refine fun z => Or.elim z ?_ (fun z => Or.elim z ?_ (fun z => Or.elim z ?_ ?_)) <;> (with_reducible assumption)) | (refine fun z => Or.elim z (fun z9 => z9 ?_) ?_ <;> (first | (with_reducible assumption) | (refine Or.inl ?_; (with_reducible assumption)) | (refine Or.inr (Or.inl ?_); (with_reducible assumption)) | (refine Or.inr (Or.inr ?_); (with_reducible assumption)) | (refine Or.inr (Or.inr (Or.inl ?_)); (with_reducible assumption)) | (refine Or.inr (Or.inr (Or.inr ?_)); (with_reducible assumption)))) | (refine Or.inl (fun z => Or.elim z ?_ (fun z => Or.elim z ?_ ?_)) <;> (with_reducible assumption)) | (refine Or.inl (fun z => Or.elim z ?_ (fun z => Or.elim z ?_ (fun z => Or.elim z ?_ ?_))) <;> (with_reducible assumption)))) | (refine sp_k33_1' ?_ <;> (first | (with_reducible assumption) | (refine Or.inl ?_; (with_reducible assumption)) | (refine Or.inr ?_; (with_reducible assumption)) | (refine Or.inr (Or.inl ?_); (with_reducible assumption)) | (refine Or.inr (Or.inr ?_); (with_reducible assumption)) | (refine Or.inr (Or.inr (Or.inl ?_)); (with_reducible assumption)) | (refine Or.inr (Or.inr (Or.inr ?_)); (with_reducible assumption)) | (refine fun z => Or.elim z ?_ ?_ <;> (with_reducible assumption)) | (refine fun z => Or.elim z ?_ (fun z => Or.elim z ?_ ?_) <;> (with_reducible assumption)) | (refine fun z => Or.elim z ?_ (fun z => Or.elim z ?_ (fun z => Or.elim z ?_ ?_)) <;> (with_reducible assumption)) | (refine fun z => Or.elim z (fun z9 => z9 ?_) ?_ <;> (first | (with_reducible assumption) | (refine Or.inl ?_; (with_reducible assumption)) | (refine Or.inr (Or.inl ?_); (with_reducible assumption)) | (refine Or.inr (Or.inr ?_); (with_reducible assumption)) | (refine Or.inr (Or.inr (Or.inl ?_)); (with_reducible assumption)) | (refine Or.inr (Or.inr (Or.inr ?_)); (with_reducible assumption)))) | (refine Or.inl (fun z => Or.elim z ?_ (fun z => Or.elim z ?_ ?_)) <;> (with_reducible assumption)) | (refine Or.inl (fun z => Or.elim z ?_ (fun z => Or.elim z ?_ (fun z => Or.elim z ?_ ?_))) <;> (with_reducible assumption))))) | (first | (refine sp_k33_1 ?_ <;> (first | assumption | (refine Or.inl ?_; assumption) | (refine Or.inr ?_; assumption) | (refine Or.inr (Or.inl ?_); assumption) | (refine Or.inr (Or.inr ?_); assumption) | (refine Or.inr (Or.inr (Or.inl ?_)); assumption) | (refine Or.inr (Or.inr (Or.inr ?_)); assumption) | (refine fun z => Or.elim z ?_ ?_ <;> assumption) | (refine fun z => Or.elim z ?_ (fun z => Or.elim z ?_ ?_) <;> assumption) | (refine fun z => Or.elim z ?_ (fun z => Or.elim z ?_ (fun z => Or.elim z ?_ ?_)) <;> assumption) | (refine fun z => Or.elim z (fun z9 => z9 ?_) ?_ <;> (first | assumption | (refine Or.inl ?_; assumption) | (refine Or.inr (Or.inl ?_); assumption) | (refine Or.inr (Or.inr ?_); assumption) | (refine Or.inr (Or.inr (Or.inl ?_)); assumption) | (refine Or.inr (Or.inr (Or.inr ?_)); assumption))) | (refine Or.inl (fun z => Or.elim z ?_ (fun z => Or.elim z ?_ ?_)) <;> assumption) | (refine Or.inl (fun z => Or.elim z ?_ (fun z => Or.elim z ?_ (fun z => Or.elim z ?_ ?_))) <;> assumption))) | (refine sp_k33_1' ?_ <;> (first | assumption | (refine Or.inl ?_; assumption) | (refine Or.inr ?_; assumption) | (refine Or.inr (Or.inl ?_); assumption) | (refine Or.inr (Or.inr ?_); assumption) | (refine Or.inr (Or.inr (Or.inl ?_)); assumption) | (refine Or.inr (Or.inr (Or.inr ?_)); assumption) | (refine fun z => Or.elim z ?_ ?_ <;> assumption) | (refine fun z => Or.elim z ?_ (fun z => Or.elim z ?_ ?_) <;> assumption) | (refine fun z => Or.elim z ?_ (fun z => Or.elim z ?_ (fun z => Or.elim z ?_ ?_)) <;> assumption) | (refine fun z => Or.elim z (fun z9 => z9 ?_) ?_ <;> (first | assumption | (refine Or.inl ?_; assumption) | (refine Or.inr (Or.inl ?_); assumption) | (refine Or.inr (Or.inr ?_); assumption) | (refine Or.inr (Or.inr (Or.inl ?_)); assumption) | (refine Or.inr (Or.inr (Or.inr ?_)); assumption))) | (refine Or.inl (fun z => Or.elim z ?_ (fun z => Or.elim z ?_ ?_)) <;> assumption) | (refine Or.inl (fun z => Or.elim z ?_ (fun z => Or.elim z ?_ (fun z => Or.elim z ?_ ?_))) <;> assumption))))
    · exact absurd c_5_7 (by decide)
  · refine j_w w hw526 ?_
    have ei526 : sp_i (nI i526) = i526 := sp_in' (by omega)
    refine j_if_ne (tgt := 15) dX11_areLike_5 (by decide) (fun c_5_24 => ?_) (fun c_5_24 => ?_)
    · exact absurd c_5_24 (by decide)
    · refine j_iload_n dX11_areLike_8 rfl ?_
      refine j_callS dX11_areLike_9 kX11_isNoTable lX11_136 stX11_isNoTable (cm_isNoTable_r hl w _) (Nat.le_of_ble_eq_true rfl) ⟨(Nat.le_of_ble_eq_true rfl), (Nat.le_of_ble_eq_true rfl)⟩ rfl (Nat.le_of_ble_eq_true rfl) rfl rfl (fun _ _ h => h.elim) ?_
      rintro _ _ ⟨⟨rfl, hno527⟩ | ⟨rfl, i527, hi527, ht527, rfl⟩, hw527⟩
      · refine j_w w hw527 ?_
        refine j_if_eq (tgt := 19) dX11_areLike_12 (by decide) (fun c_12_30 => ?_) (fun c_12_30 => ?_)
        · exact absurd c_12_30 (by decide)
        · refine j_iconst (v := 1) dX11_areLike_15 (by decide) ?_
          refine j_goto (tgt := 20) dX11_areLike_16 (by decide) ?_
          refine j_iconst (v := 1) dX11_areLike_20 (by decide) ?_
          refine j_callV (q := (RX11, TX11, 8)) dX11_areLike_21 kX11_start lX11_76 inX11_start seX11_start h.m rfl (cm_start1 hl w _ _ h (by decide)) (Nat.le_of_ble_eq_true rfl) ⟨(Nat.le_of_ble_eq_true rfl), (Nat.le_of_ble_eq_true rfl)⟩ rfl (Nat.le_of_ble_eq_true rfl) rfl rfl (fun _ _ h => h.elim) ?_
          rintro _ w2 ⟨rfl, fm2, h2⟩
          have R2 := R.th (k := 1)
          refine j_if_eq (tgt := 29) dX11_areLike_24 (by decide) (fun c_24_38 => ?_) (fun c_24_38 => ?_)
          · exact absurd c_24_38 (by decide)
          · refine j_iconst (v := 0) dX11_areLike_27 (by decide) ?_
            refine j_iret dX11_areLike_28 rfl rfl ?_ (Nat.le_of_ble_eq_true rfl) (Nat.le_of_ble_eq_true rfl)
            refine cast (congrFun (congrFun hQ9 _) _) ?_
            try rw [ei526]
            refine ⟨_, _, rfl, (fm2.le (q' := 59) (by decide)), h2, sp_X1 (k := 1) ?_ (by decide) rfl R2⟩
            first | (first | (refine sp_k33_1 ?_ <;> (first | (with_reducible assumption) | (refine Or.inl ?_; (with_reducible assumption)) | (refine Or.inr ?_; (with_reducible assumption)) | (refine Or.inr (Or.inl ?_); (with_reducible assumption)) | (refine Or.inr (Or.inr ?_); (with_reducible assumption)) | (refine Or.inr (Or.inr (Or.inl ?_)); (with_reducible assumption)) | (refine Or.inr (Or.inr (Or.inr ?_)); (with_reducible assumption)) | (refine fun z => Or.elim z ?_ ?_ <;> (with_reducible assumption)) | (refine fun z => Or.elim z ?_ (fun z => Or.elim z ?_ ?_) <;> (with_reducible assumption)) | (refine fun z => Or.elim z ?_ (fun z => Or.elim z ?_ (fun z => Or.elim z ?_ ?_)) <;> (with_reducible assumption)) | (refine fun z => Or.elim z (fun z9 => z9 ?_) ?_ <;> (first | (with_reducible assumption) | (refine Or.inl ?_; (with_reducible assumption)) | (refine Or.inr (Or.inl ?_); (with_reducible assumption)) | (refine Or.inr (Or.inr ?_); (with_reducible assumption)) | (refine Or.inr (Or.inr (Or.inl ?_)); (with_reducible assumption)) | (refine Or.inr (Or.inr (Or.inr ?_)); (with_reducible assumption)))) | (refine Or.inl (fun z => Or.elim z ?_ (fun z => Or.elim z ?_ ?_)) <;> (with_reducible assumption)) | (refine Or.inl (fun z => Or.elim z ?_ (fun z => Or.elim z ?_ (fun z => Or.elim z ?_ ?_))) <;> (with_reducible assumption)))) | (refine sp_k33_1' ?_ <;> (first | (with_reducible assumption) | (refine Or.inl ?_; (with_reducible assumption)) | (refine Or.inr ?_; (with_reducible assumption)) | (refine Or.inr (Or.inl ?_); (with_reducible assumption)) | (refine Or.inr (Or.inr ?_); (with_reducible assumption)) | (refine Or.inr (Or.inr (Or.inl ?_)); (with_reducible assumption)) | (refine Or.inr (Or.inr (Or.inr ?_)); (with_reducible assumption)) | (refine fun z => Or.elim z ?_ ?_ <;> (with_reducible assumption)) | (refine fun z => Or.elim z ?_ (fun z => Or.elim z ?_ ?_) <;> (with_reducible assumption)) | (refine fun z => Or.elim z ?_ (fun z => Or.elim z ?_ (fun z => Or.elim z ?_ ?_)) <;> (with_reducible assumption)) | (refine fun z => Or.elim z (fun z9 => z9 ?_) ?_ <;> (first | (with_reducible assumption) | (refine Or.inl ?_; (with_reducible assumption)) | (refine Or.inr (Or.inl ?_); (with_reducible assumption)) | (refine Or.inr (Or.inr ?_); (with_reducible assumption)) | (refine Or.inr (Or.inr (Or.inl ?_)); (with_reducible assumption)) | (refine Or.inr (Or.inr (Or.inr ?_)); (with_reducible assumption)))) | (refine Or.inl (fun z => Or.elim z ?_ (fun z => Or.elim z ?_ ?_)) <;> (with_reducible assumption)) | (refine Or.inl (fun z => Or.elim z ?_ (fun z => Or.elim z ?_ (fun z => Or.elim z ?_ ?_))) <;> (with_reducible assumption))))) | (first | (refine sp_k33_1 ?_ <;> (first | assumption | (refine Or.inl ?_; assumption) | (refine Or.inr ?_; assumption) | (refine Or.inr (Or.inl ?_); assumption) | (refine Or.inr (Or.inr ?_); assumption) | (refine Or.inr (Or.inr (Or.inl ?_)); assumption) | (refine Or.inr (Or.inr (Or.inr ?_)); assumption) | (refine fun z => Or.elim z ?_ ?_ <;> assumption) | (refine fun z => Or.elim z ?_ (fun z => Or.elim z ?_ ?_) <;> assumption) | (refine fun z => Or.elim z ?_ (fun z => Or.elim z ?_ (fun z => Or.elim z ?_ ?_)) <;> assumption) | (refine fun z => Or.elim z (fun z9 => z9 ?_) ?_ <;> (first | assumption | (refine Or.inl ?_; assumption) | (refine Or.inr (Or.inl ?_); assumption) | (refine Or.inr (Or.inr ?_); assumption) | (refine Or.inr (Or.inr (Or.inl ?_)); assumption) | (refine Or.inr (Or.inr (Or.inr ?_)); assumption))) | (refine Or.inl (fun z => Or.elim z ?_ (fun z => Or.elim z ?_ ?_)) <;> assumption) | (refine Or.inl (fun z => Or.elim z ?_ (fun z => Or.elim z ?_ (fun z => Or.elim z ?_ ?_))) <;> assumption))) | (refine sp_k33_1' ?_ <;> (first | assumption | (refine Or.inl ?_; assumption) | (refine Or.inr ?_; assumption) | (refine Or.inr (Or.inl ?_); assumption) | (refine Or.inr (Or.inr ?_); assumption) | (refine Or.inr (Or.inr (Or.inl ?_)); assumption) | (refine Or.inr (Or.inr (Or.inr ?_)); assumption) | (refine fun z => Or.elim z ?_ ?_ <;> assumption) | (refine fun z => Or.elim z ?_ (fun z => Or.elim z ?_ ?_) <;> assumption) | (refine fun z => Or.elim z ?_ (fun z => Or.elim z ?_ (fun z => Or.elim z ?_ ?_)) <;> assumption) | (refine fun z => Or.elim z (fun z9 => z9 ?_) ?_ <;> (first | assumption | (refine Or.inl ?_; assumption) | (refine Or.inr (Or.inl ?_); assumption) | (refine Or.inr (Or.inr ?_); assumption) | (refine Or.inr (Or.inr (Or.inl ?_)); assumption) | (refine Or.inr (Or.inr (Or.inr ?_)); assumption))) | (refine Or.inl (fun z => Or.elim z ?_ (fun z => Or.elim z ?_ ?_)) <;> assumption) | (refine Or.inl (fun z => Or.elim z ?_ (fun z => Or.elim z ?_ (fun z => Or.elim z ?_ ?_))) <;> assumption))))
      · refine j_w w hw527 ?_
        have ei527 : sp_i (nI i527) = i527 := sp_in' (by omega)
        refine j_if_eq (tgt := 19) dX11_areLike_12 (by decide) (fun c_12_48 => ?_) (fun c_12_48 => ?_)
        · refine j_iconst (v := 0) dX11_areLike_19 (by decide) ?_
          refine j_iconst (v := 1) dX11_areLike_20 (by decide) ?_
          refine j_callV (q := (RX11, TX11, 8)) dX11_areLike_21 kX11_start lX11_76 inX11_start seX11_start h.m rfl (cm_start0 hl w _ _ h) (Nat.le_of_ble_eq_true rfl) ⟨(Nat.le_of_ble_eq_true rfl), (Nat.le_of_ble_eq_true rfl)⟩ rfl (Nat.le_of_ble_eq_true rfl) rfl rfl (fun _ _ h => h.elim) ?_
          rintro _ w3 ⟨rfl, fm3, h3⟩
          have R3 := R.th (k := 0)
          refine j_if_eq (tgt := 29) dX11_areLike_24 (by decide) (fun c_24_54 => ?_) (fun c_24_54 => ?_)
          · refine j_iconst (v := 0) dX11_areLike_29 (by decide) ?_
            refine j_istore_n (lo' := [(3, _), (0, _), (1, _), (2, _)]) dX11_areLike_30 (by decide) rfl ?_
            have loop31 : ∀ (n9 : Nat) (w4 : z_W) (s1 : z_Z) (j : Nat), (j ≤ 20) → (20 < j + n9) → (∀ q, q < j → sp_lk (sp_T S i526) q = sp_lk (sp_T S i527) q) → (sp_MR S s1) → (s1.1.1 = 0) → (z_mst w4 s1) → (z_fm 59 w w4) → z_J G l mX11_areLike (24, 0, 0, w, Q9, (fun _ _ => False)) 31 [(0, .ref 1000), (1, .int (nI i526)), (2, .int (nI i527)), (3, .int (nI j))] [] w4 0 0 := by
              intro n9
              induction n9 with
              | zero => intro w4 s1 j hj hf9 hq hR hth hm hfm; exact absurd hf9 (by omega)
              | succ n9 ih =>
                intro w4 s1 j hj hf9 hq hR hth hm hfm
                refine j_iload_n dX11_areLike_31 rfl ?_
                refine j_bipush (v := 20) dX11_areLike_32 (by decide) ?_
                refine j_icmp_ge (tgt := 60) dX11_areLike_34 (by decide) (fun c_34_65 => ?_) (fun c_34_65 => ?_)
                · have hb34 : 20 ≤ j := (nI_leI (a := 20) (b := j) (by omega) (by omega)).mp c_34_65
                  refine j_iconst (v := 1) dX11_areLike_60 (by decide) ?_
                  refine j_iret dX11_areLike_61 rfl rfl ?_ (Nat.le_of_ble_eq_true rfl) (Nat.le_of_ble_eq_true rfl)
                  refine cast (congrFun (congrFun hQ9 _) _) ?_
                  try rw [ei526]
                  try rw [ei527]
                  refine ⟨_, _, rfl, hfm, hm, sp_X0 ?_ hth hR (by rw [sp_lik1 (fun q hq1 => hq q (by omega))]; rfl)⟩
                  first | (first | (refine sp_k33_0 ?_ ?_ <;> (first | (with_reducible assumption) | (refine Or.inl ?_; (with_reducible assumption)) | (refine Or.inr ?_; (with_reducible assumption)) | (refine Or.inr (Or.inl ?_); (with_reducible assumption)) | (refine Or.inr (Or.inr ?_); (with_reducible assumption)) | (refine Or.inr (Or.inr (Or.inl ?_)); (with_reducible assumption)) | (refine Or.inr (Or.inr (Or.inr ?_)); (with_reducible assumption)) | (refine fun z => Or.elim z ?_ ?_ <;> (with_reducible assumption)) | (refine fun z => Or.elim z ?_ (fun z => Or.elim z ?_ ?_) <;> (with_reducible assumption)) | (refine fun z => Or.elim z ?_ (fun z => Or.elim z ?_ (fun z => Or.elim z ?_ ?_)) <;> (with_reducible assumption)) | (refine fun z => Or.elim z (fun z9 => z9 ?_) ?_ <;> (first | (with_reducible assumption) | (refine Or.inl ?_; (with_reducible assumption)) | (refine Or.inr (Or.inl ?_); (with_reducible assumption)) | (refine Or.inr (Or.inr ?_); (with_reducible assumption)) | (refine Or.inr (Or.inr (Or.inl ?_)); (with_reducible assumption)) | (refine Or.inr (Or.inr (Or.inr ?_)); (with_reducible assumption)))) | (refine Or.inl (fun z => Or.elim z ?_ (fun z => Or.elim z ?_ ?_)) <;> (with_reducible assumption)) | (refine Or.inl (fun z => Or.elim z ?_ (fun z => Or.elim z ?_ (fun z => Or.elim z ?_ ?_))) <;> (with_reducible assumption))))) | (first | (refine sp_k33_0 ?_ ?_ <;> (first | assumption | (refine Or.inl ?_; assumption) | (refine Or.inr ?_; assumption) | (refine Or.inr (Or.inl ?_); assumption) | (refine Or.inr (Or.inr ?_); assumption) | (refine Or.inr (Or.inr (Or.inl ?_)); assumption) | (refine Or.inr (Or.inr (Or.inr ?_)); assumption) | (refine fun z => Or.elim z ?_ ?_ <;> assumption) | (refine fun z => Or.elim z ?_ (fun z => Or.elim z ?_ ?_) <;> assumption) | (refine fun z => Or.elim z ?_ (fun z => Or.elim z ?_ (fun z => Or.elim z ?_ ?_)) <;> assumption) | (refine fun z => Or.elim z (fun z9 => z9 ?_) ?_ <;> (first | assumption | (refine Or.inl ?_; assumption) | (refine Or.inr (Or.inl ?_); assumption) | (refine Or.inr (Or.inr ?_); assumption) | (refine Or.inr (Or.inr (Or.inl ?_)); assumption) | (refine Or.inr (Or.inr (Or.inr ?_)); assumption))) | (refine Or.inl (fun z => Or.elim z ?_ (fun z => Or.elim z ?_ ?_)) <;> assumption) | (refine Or.inl (fun z => Or.elim z ?_ (fun z => Or.elim z ?_ (fun z => Or.elim z ?_ ?_))) <;> assumption))))
                · have hb34 : j < 20 := Nat.not_le.mp (fun z => c_34_65 ((nI_leI (a := 20) (b := j) (by omega) (by omega)).mpr z))
                  refine j_aload_n dX11_areLike_37 rfl rfl ?_
                  refine j_iload_n dX11_areLike_38 rfl ?_
                  refine j_iload_n dX11_areLike_39 rfl ?_
                  refine j_callV (q := (RX11, TX11, 8)) dX11_areLike_40 kX11_valueOf lX11_145 inX11_valueOf seX11_valueOf hm.m rfl (cx_valueOf hl w4 S _ (i526) (j) hm hR (by omega) (by omega)) (Nat.le_of_ble_eq_true rfl) ⟨(Nat.le_of_ble_eq_true rfl), (Nat.le_of_ble_eq_true rfl)⟩ rfl (Nat.le_of_ble_eq_true rfl) rfl rfl (fun _ _ h => h.elim) ?_
                  rintro _ _ ⟨rfl, hw528⟩
                  refine j_w w4 hw528 ?_
                  refine j_aload_n dX11_areLike_43 rfl rfl ?_
                  refine j_iload_n dX11_areLike_44 rfl ?_
                  refine j_iload_n dX11_areLike_45 rfl ?_
                  refine j_callV (q := (RX11, TX11, 8)) dX11_areLike_46 kX11_valueOf lX11_145 inX11_valueOf seX11_valueOf hm.m rfl (cx_valueOf hl w4 S _ (i527) (j) hm hR (by omega) (by omega)) (Nat.le_of_ble_eq_true rfl) ⟨(Nat.le_of_ble_eq_true rfl), (Nat.le_of_ble_eq_true rfl)⟩ rfl (Nat.le_of_ble_eq_true rfl) rfl rfl (fun _ _ h => h.elim) ?_
                  rintro _ _ ⟨rfl, hw529⟩
                  refine j_w w4 hw529 ?_
                  refine j_icmp_eq (tgt := 54) dX11_areLike_49 (by decide) (fun c_49_87 => ?_) (fun c_49_87 => ?_)
                  · refine j_iinc (lo' := [(3, _), (0, _), (1, _), (2, _)]) dX11_areLike_54 rfl (z_inc _) (by decide) rfl ?_
                    refine j_goto (tgt := 31) dX11_areLike_57 (by decide) ?_
                    exact j_lo2 (ih w4 _ (j + 1) (by omega) (by omega) (fun q hq1 => by rcases Nat.lt_succ_iff_lt_or_eq.mp hq1 with z | z; exact hq q z; rw [z]; exact c_49_87) hR (by exact hth) hm hfm) (z_q1 rfl (z_q1 rfl (z_q1 rfl (z_q1 rfl z_q0))))
                  · refine j_iconst (v := 0) dX11_areLike_52 (by decide) ?_
                    refine j_iret dX11_areLike_53 rfl rfl ?_ (Nat.le_of_ble_eq_true rfl) (Nat.le_of_ble_eq_true rfl)
                    refine cast (congrFun (congrFun hQ9 _) _) ?_
                    try rw [ei526]
                    try rw [ei527]
                    refine ⟨_, _, rfl, hfm, hm, sp_X0 ?_ hth hR (by rw [sp_lik0 (k := j) (by omega) c_49_87]; rfl)⟩
                    first | (first | (refine sp_k33_0 ?_ ?_ <;> (first | (with_reducible assumption) | (refine Or.inl ?_; (with_reducible assumption)) | (refine Or.inr ?_; (with_reducible assumption)) | (refine Or.inr (Or.inl ?_); (with_reducible assumption)) | (refine Or.inr (Or.inr ?_); (with_reducible assumption)) | (refine Or.inr (Or.inr (Or.inl ?_)); (with_reducible assumption)) | (refine Or.inr (Or.inr (Or.inr ?_)); (with_reducible assumption)) | (refine fun z => Or.elim z ?_ ?_ <;> (with_reducible assumption)) | (refine fun z => Or.elim z ?_ (fun z => Or.elim z ?_ ?_) <;> (with_reducible assumption)) | (refine fun z => Or.elim z ?_ (fun z => Or.elim z ?_ (fun z => Or.elim z ?_ ?_)) <;> (with_reducible assumption)) | (refine fun z => Or.elim z (fun z9 => z9 ?_) ?_ <;> (first | (with_reducible assumption) | (refine Or.inl ?_; (with_reducible assumption)) | (refine Or.inr (Or.inl ?_); (with_reducible assumption)) | (refine Or.inr (Or.inr ?_); (with_reducible assumption)) | (refine Or.inr (Or.inr (Or.inl ?_)); (with_reducible assumption)) | (refine Or.inr (Or.inr (Or.inr ?_)); (with_reducible assumption)))) | (refine Or.inl (fun z => Or.elim z ?_ (fun z => Or.elim z ?_ ?_)) <;> (with_reducible assumption)) | (refine Or.inl (fun z => Or.elim z ?_ (fun z => Or.elim z ?_ (fun z => Or.elim z ?_ ?_))) <;> (with_reducible assumption))))) | (first | (refine sp_k33_0 ?_ ?_ <;> (first | assumption | (refine Or.inl ?_; assumption) | (refine Or.inr ?_; assumption) | (refine Or.inr (Or.inl ?_); assumption) | (refine Or.inr (Or.inr ?_); assumption) | (refine Or.inr (Or.inr (Or.inl ?_)); assumption) | (refine Or.inr (Or.inr (Or.inr ?_)); assumption) | (refine fun z => Or.elim z ?_ ?_ <;> assumption) | (refine fun z => Or.elim z ?_ (fun z => Or.elim z ?_ ?_) <;> assumption) | (refine fun z => Or.elim z ?_ (fun z => Or.elim z ?_ (fun z => Or.elim z ?_ ?_)) <;> assumption) | (refine fun z => Or.elim z (fun z9 => z9 ?_) ?_ <;> (first | assumption | (refine Or.inl ?_; assumption) | (refine Or.inr (Or.inl ?_); assumption) | (refine Or.inr (Or.inr ?_); assumption) | (refine Or.inr (Or.inr (Or.inl ?_)); assumption) | (refine Or.inr (Or.inr (Or.inr ?_)); assumption))) | (refine Or.inl (fun z => Or.elim z ?_ (fun z => Or.elim z ?_ ?_)) <;> assumption) | (refine Or.inl (fun z => Or.elim z ?_ (fun z => Or.elim z ?_ (fun z => Or.elim z ?_ ?_))) <;> assumption))))
            exact j_lo2 (loop31 21 w3 _ 0 (by omega) (by omega) (fun q hq => absurd hq (Nat.not_lt_zero _)) R3 (by exact rfl) h3 (fm3.le (q' := 59) (by decide))) (z_q1 rfl (z_q1 rfl (z_q1 rfl (z_q1 rfl z_q0))))
          · exact absurd c_24_54 (by decide)
        · exact absurd c_12_48 (by decide)
theorem sp_asc {T : List (Nat × Int32)} {k : Nat} {e1 e0 : Nat × Int32} (h : sp_ri2 T) (hk : 1 ≤ k) (h1 : T[k]? = some e1) (h0 : T[k - 1]? = some e0) : e0.1 < e1.1 := by
  have hp := List.pairwise_iff_getElem.mp h
  have l1 := (List.getElem?_eq_some_iff.mp h1).1
  have l0 := (List.getElem?_eq_some_iff.mp h0).1
  have hl : (sp_ks T).length = T.length := List.length_map ..
  have h2 := hp (k - 1) k (by omega) (by omega) (by omega)
  have a1 : (sp_ks T)[k]'(by omega) = e1.1 := by
    rw [← sp_gk l1, h1]; rfl
  have a0 : (sp_ks T)[k - 1]'(by omega) = e0.1 := by
    rw [← sp_gk l0, h0]; rfl
  rw [a1, a0] at h2
  exact h2
set_option maxRecDepth 100000 in
set_option maxHeartbeats 8000000 in
theorem cx_isTrue (hl : l.stackTraces = false) (w : z_W) (S : sp_S) (s : z_Z)  (h : z_mst w s) (R : sp_MR S s) (ok : sp_ok S) : z_Con G l mX11_isTrue 16 0 0 w [.ref 1000] (fun v w9 => v = some (.int 1) ∧ w9 = w) (fun _ _ => False) := by
  generalize hQ9 : (fun (v : Option Value) (w9 : z_W) => v = some (.int 1) ∧ w9 = w) = Q9
  refine z_body hl (by decide) rfl (Nat.le_of_ble_eq_true rfl) ?_
  show z_J G l mX11_isTrue _ 0 [(0, _)] [] _ 0 0
  refine j_iconst (v := 1) dX11_isTrue_0 (by decide) ?_
  refine j_istore_n (lo' := [(1, _), (0, _)]) dX11_isTrue_1 (by decide) rfl ?_
  have loop2 : ∀ (n9 : Nat) (w1 : z_W) (k : Nat), (1 ≤ k) → (k ≤ 21) → (21 < k + n9) → (z_mst w1 s) → (w1 = w) → z_J G l mX11_isTrue (16, 0, 0, w, Q9, (fun _ _ => False)) 2 [(0, .ref 1000), (1, .int (nI k))] [] w1 0 0 := by
    intro n9
    induction n9 with
    | zero => intro w1 k hk1 hk20 hf9 hm hW; exact absurd hf9 (by omega)
    | succ n9 ih =>
      intro w1 k hk1 hk20 hf9 hm hW
      refine j_iload_n dX11_isTrue_2 rfl ?_
      refine j_aload_n dX11_isTrue_3 rfl rfl ?_
      refine j_getf dX11_isTrue_4 fX11_34 hm.m rfl ?_
      refine j_iconst (v := 2) dX11_isTrue_7 (by decide) ?_
      obtain ⟨lv531, -, lg531⟩ := z_li.cell hm.tabs
      refine j_callV (q := (RJx4a65c, TJx4a65c, 3)) dX11_isTrue_8 kJx4a65c_get_915e3 lX11_82 inJx4a65c_get_915e3 seJx4a65c_get_915e3 lg531 rfl (cl_get hl w1 47 1007 _ _ (2) _ hm.tabs (z_thr3 (t := 2) (by decide))) (Nat.le_of_ble_eq_true rfl) ⟨(Nat.le_of_ble_eq_true rfl), (Nat.le_of_ble_eq_true rfl)⟩ rfl (Nat.le_of_ble_eq_true rfl) rfl rfl (fun _ _ h => h.elim) ?_
      rintro _ _ ⟨rfl, hw532⟩
      refine j_w w1 hw532 ?_
      refine j_castS dX11_isTrue_11 (z_w 1341 ((lwt_6_3 6).trans rfl) (by decide +kernel)) (z_li.is (hm.tb (t := 2) (by decide))) ?_
      obtain ⟨lv534, -, lg534⟩ := z_li.cell (hm.tb (t := 2) (by decide))
      refine j_callV (q := (RJx4a65c, TJx4a65c, 3)) dX11_isTrue_14 kJx4a65c_size_8abf5 lX11_86 inJx4a65c_size_8abf5 seJx4a65c_size_8abf5 lg534 rfl (cl_sizeT hl w1 (2) (sp_T S (2)) hm R (by decide) rfl) (Nat.le_of_ble_eq_true rfl) ⟨(Nat.le_of_ble_eq_true rfl), (Nat.le_of_ble_eq_true rfl)⟩ rfl (Nat.le_of_ble_eq_true rfl) rfl rfl (fun _ _ h => h.elim) ?_
      rintro _ _ ⟨rfl, hw535⟩
      refine j_w w1 hw535 ?_
      have hz535 : (sp_T S (2)).length ≤ 20 := R.l20 hm (t := 2) (by decide) rfl
      refine j_icmp_ge (tgt := 73) dX11_isTrue_17 (by decide) (fun c_17_24 => ?_) (fun c_17_24 => ?_)
      · have hb17 : (sp_T S (2)).length ≤ k := (nI_leI (a := (sp_T S (2)).length) (b := k) (by omega) (by omega)).mp c_17_24
        refine j_iconst (v := 1) dX11_isTrue_73 (by decide) ?_
        refine j_iret dX11_isTrue_74 rfl rfl ?_ (Nat.le_of_ble_eq_true rfl) (Nat.le_of_ble_eq_true rfl)
        refine cast (congrFun (congrFun hQ9 _) _) ?_
        exact ⟨rfl, hW⟩
      · have hb17 : k < (sp_T S (2)).length := Nat.not_le.mp (fun z => c_17_24 ((nI_leI (a := (sp_T S (2)).length) (b := k) (by omega) (by omega)).mpr z))
        refine j_aload_n dX11_isTrue_20 rfl rfl ?_
        refine j_getf dX11_isTrue_21 fX11_34 hm.m rfl ?_
        refine j_iconst (v := 2) dX11_isTrue_24 (by decide) ?_
        obtain ⟨lv537, -, lg537⟩ := z_li.cell hm.tabs
        refine j_callV (q := (RJx4a65c, TJx4a65c, 3)) dX11_isTrue_25 kJx4a65c_get_915e3 lX11_82 inJx4a65c_get_915e3 seJx4a65c_get_915e3 lg537 rfl (cl_get hl w1 47 1007 _ _ (2) _ hm.tabs (z_thr3 (t := 2) (by decide))) (Nat.le_of_ble_eq_true rfl) ⟨(Nat.le_of_ble_eq_true rfl), (Nat.le_of_ble_eq_true rfl)⟩ rfl (Nat.le_of_ble_eq_true rfl) rfl rfl (fun _ _ h => h.elim) ?_
        rintro _ _ ⟨rfl, hw538⟩
        refine j_w w1 hw538 ?_
        refine j_castS dX11_isTrue_28 (z_w 1341 ((lwt_6_3 6).trans rfl) (by decide +kernel)) (z_li.is (hm.tb (t := 2) (by decide))) ?_
        refine j_iload_n dX11_isTrue_31 rfl ?_
        obtain ⟨x540, hx540⟩ : ∃ x, (sp_T S (2))[k]? = some x := ⟨_, List.getElem?_eq_getElem (show k < (sp_T S (2)).length by omega)⟩
        obtain ⟨p540, hp540, hq540, hk540, hv0540, hv1540, hv2540⟩ := R.prB hm (t := 2) (k := k) (by decide) rfl hx540
        obtain ⟨lv541, -, lg541⟩ := z_li.cell (hm.tb (t := 2) (by decide))
        refine j_callV (q := (RJx4a65c, TJx4a65c, 3)) dX11_isTrue_32 kJx4a65c_get_915e3 lX11_82 inJx4a65c_get_915e3 seJx4a65c_get_915e3 lg541 rfl (cl_get hl w1 _ _ _ _ (k) _ (hm.tb (t := 2) (by decide)) hq540) (Nat.le_of_ble_eq_true rfl) ⟨(Nat.le_of_ble_eq_true rfl), (Nat.le_of_ble_eq_true rfl)⟩ rfl (Nat.le_of_ble_eq_true rfl) rfl rfl (fun _ _ h => h.elim) ?_
        rintro _ _ ⟨rfl, hw542⟩
        refine j_w w1 hw542 ?_
        refine j_castS dX11_isTrue_35 (z_w 1663 ((lwt_7_5 28).trans rfl) (by decide +kernel)) (z_isA ((hm.pr (t := 2) (by decide)).1 p540 hp540).2) ?_
        refine j_iconst (v := 0) dX11_isTrue_38 (by decide) ?_
        refine j_ld dX11_isTrue_39 ((hm.pr (t := 2) (by decide)).1 p540 hp540).2 (vp_in_nI (n := 0) (by decide) (by decide)) ?_
        refine j_top (congrArg Value.int (show _ = nI x540.1 from by rw [show (0 : Int32).toNatClampNeg = 0 from by decide]; exact hv0540)) ?_
        refine j_aload_n dX11_isTrue_40 rfl rfl ?_
        refine j_getf dX11_isTrue_41 fX11_34 hm.m rfl ?_
        refine j_iconst (v := 2) dX11_isTrue_44 (by decide) ?_
        obtain ⟨lv546, -, lg546⟩ := z_li.cell hm.tabs
        refine j_callV (q := (RJx4a65c, TJx4a65c, 3)) dX11_isTrue_45 kJx4a65c_get_915e3 lX11_82 inJx4a65c_get_915e3 seJx4a65c_get_915e3 lg546 rfl (cl_get hl w1 47 1007 _ _ (2) _ hm.tabs (z_thr3 (t := 2) (by decide))) (Nat.le_of_ble_eq_true rfl) ⟨(Nat.le_of_ble_eq_true rfl), (Nat.le_of_ble_eq_true rfl)⟩ rfl (Nat.le_of_ble_eq_true rfl) rfl rfl (fun _ _ h => h.elim) ?_
        rintro _ _ ⟨rfl, hw547⟩
        refine j_w w1 hw547 ?_
        refine j_castS dX11_isTrue_48 (z_w 1341 ((lwt_6_3 6).trans rfl) (by decide +kernel)) (z_li.is (hm.tb (t := 2) (by decide))) ?_
        refine j_iload_n dX11_isTrue_51 rfl ?_
        refine j_iconst (v := 1) dX11_isTrue_52 (by decide) ?_
        refine j_isub dX11_isTrue_53 ?_
        refine j_top (congrArg Value.int (pk_sub (a := k) (b := 1) (by omega))) ?_
        obtain ⟨x549, hx549⟩ : ∃ x, (sp_T S (2))[(k - 1)]? = some x := ⟨_, List.getElem?_eq_getElem (show (k - 1) < (sp_T S (2)).length by omega)⟩
        obtain ⟨p549, hp549, hq549, hk549, hv0549, hv1549, hv2549⟩ := R.prB hm (t := 2) (k := (k - 1)) (by decide) rfl hx549
        obtain ⟨lv550, -, lg550⟩ := z_li.cell (hm.tb (t := 2) (by decide))
        refine j_callV (q := (RJx4a65c, TJx4a65c, 3)) dX11_isTrue_54 kJx4a65c_get_915e3 lX11_82 inJx4a65c_get_915e3 seJx4a65c_get_915e3 lg550 rfl (cl_get hl w1 _ _ _ _ ((k - 1)) _ (hm.tb (t := 2) (by decide)) hq549) (Nat.le_of_ble_eq_true rfl) ⟨(Nat.le_of_ble_eq_true rfl), (Nat.le_of_ble_eq_true rfl)⟩ rfl (Nat.le_of_ble_eq_true rfl) rfl rfl (fun _ _ h => h.elim) ?_
        rintro _ _ ⟨rfl, hw551⟩
        refine j_w w1 hw551 ?_
        refine j_castS dX11_isTrue_57 (z_w 1663 ((lwt_7_5 28).trans rfl) (by decide +kernel)) (z_isA ((hm.pr (t := 2) (by decide)).1 p549 hp549).2) ?_
        refine j_iconst (v := 0) dX11_isTrue_60 (by decide) ?_
        refine j_ld dX11_isTrue_61 ((hm.pr (t := 2) (by decide)).1 p549 hp549).2 (vp_in_nI (n := 0) (by decide) (by decide)) ?_
        refine j_top (congrArg Value.int (show _ = nI x549.1 from by rw [show (0 : Int32).toNatClampNeg = 0 from by decide]; exact hv0549)) ?_
        refine j_icmp_gt (tgt := 67) dX11_isTrue_62 (by decide) (fun c_62_72 => ?_) (fun c_62_72 => ?_)
        · have hb62 : x549.1 < x540.1 := (nI_ltI (a := x549.1) (b := x540.1) (by omega) (by omega)).mp c_62_72
          refine j_iinc (lo' := [(1, _), (0, _)]) dX11_isTrue_67 rfl (z_inc _) (by decide) rfl ?_
          refine j_goto (tgt := 2) dX11_isTrue_70 (by decide) ?_
          exact j_lo2 (ih w1 (k + 1) (by omega) (by omega) (by omega) hm hW) (z_q1 rfl (z_q1 rfl z_q0))
        · have hb62 : ¬ x549.1 < x540.1 := fun z => c_62_72 ((nI_ltI (a := x549.1) (b := x540.1) (by omega) (by omega)).mpr z)
          refine j_iconst (v := 0) dX11_isTrue_65 (by decide) ?_
          refine j_iret dX11_isTrue_66 rfl rfl ?_ (Nat.le_of_ble_eq_true rfl) (Nat.le_of_ble_eq_true rfl)
          refine cast (congrFun (congrFun hQ9 _) _) ?_
          exact absurd (sp_asc ok.2.2.1 hk1 hx540 hx549) hb62
  exact j_lo2 (loop2 22 w 1 (by omega) (by omega) (by omega) h rfl) (z_q1 rfl (z_q1 rfl z_q0))
set_option maxRecDepth 100000 in
set_option maxHeartbeats 8000000 in
theorem cx_isSound (hl : l.stackTraces = false) (w : z_W) (S : sp_S) (s : z_Z)  (h : z_mst w s) (R : sp_MR S s) (ok : sp_ok S) : z_Con G l mX11_isSound 20 0 0 w [.ref 1000] (fun v w9 => ∃ (r9 : Int32) (s9 : z_Z), v = some (.int r9) ∧ z_fm 59 w w9 ∧ z_mst w9 s9 ∧ s9.1.1 = 0 ∧ sp_MR (S) s9 ∧ r9 = (1 : Int32)) (fun _ _ => False) := by
  generalize hQ9 : (fun (v : Option Value) (w9 : z_W) => ∃ (r9 : Int32) (s9 : z_Z), v = some (.int r9) ∧ z_fm 59 w w9 ∧ z_mst w9 s9 ∧ s9.1.1 = 0 ∧ sp_MR (S) s9 ∧ r9 = (1 : Int32)) = Q9
  refine z_body hl (by decide) rfl (Nat.le_of_ble_eq_true rfl) ?_
  show z_J G l mX11_isSound _ 0 [(0, _)] [] _ 0 0
  refine j_aload_n dX11_isSound_0 rfl rfl ?_
  refine j_iconst (v := 0) dX11_isSound_1 (by decide) ?_
  refine j_put (w' := _) dX11_isSound_2 fX11_48 tX11_0 h.m ⟨rfl, rfl⟩ rfl ?_
  refine j_seal (by omega) ?_
  intro w1 u1
  have fw1 := u1.fw (ρ := 40) (by omega) (by omega)
  have h1 := h.up40 fw1 u1.1
  have R1 := R.th (k := 0)
  refine j_aload_n dX11_isSound_5 rfl rfl ?_
  refine j_callV (q := (RX11, TX11, 8)) dX11_isSound_6 kX11_isTrue lX11_240 inX11_isTrue seX11_isTrue h1.m rfl (cx_isTrue hl w1 _ _ h1 R1 ok) (Nat.le_of_ble_eq_true rfl) ⟨(Nat.le_of_ble_eq_true rfl), (Nat.le_of_ble_eq_true rfl)⟩ rfl (Nat.le_of_ble_eq_true rfl) rfl rfl (fun _ _ h => h.elim) ?_
  rintro _ _ ⟨rfl, hw554⟩
  refine j_w w1 hw554 ?_
  refine j_iret dX11_isSound_9 rfl rfl ?_ (Nat.le_of_ble_eq_true rfl) (Nat.le_of_ble_eq_true rfl)
  refine cast (congrFun (congrFun hQ9 _) _) ?_
  exact ⟨_, _, rfl, (fw1.fm (q := 59) (by omega)), h1, rfl, R1, rfl⟩
end ZMe6
end ZM6
