section ZMr0
/-! the model, as S tells it -/
abbrev sp_u (L : List Int32) : List UInt32 := L.map Int32.toUInt32
abbrev sp_tpK (K : Nat → Nat → Int32) (P : List Nat) : List (Nat × Int32) := P.map fun p => ((K p 0).toNatClampNeg, K p 1)
def sp_MR (S : sp_S) (s : z_Z) : Prop := s.1.2 = S.1 ∧ (∀ i, i < 2 → (z_qw s i).2 = sp_u (sp_R S i)) ∧ (∀ i, i < 2 → z_qf s i = z_bi (sp_F S i)) ∧ (∀ i, i < 3 → ∀ j, j < 7 → z_qc s i j = sp_C S i j) ∧ (∀ t, t < 3 → sp_tpK (z_qk s) (z_qp s t).2 = sp_T S t) ∧ ∀ g, g < 2 → z_qh s g = (sp_E S g).1 ∧ (z_ql s g).2 = sp_u (sp_E S g).2
theorem sp_inj_on {α β : Type} {f : α → β} : ∀ {L : List α}, (L.map f).Nodup → ∀ {a b : α}, a ∈ L → b ∈ L → f a = f b → a = b
  | [], _, _, _, ha, _, _ => by cases ha
  | x :: L, h, a, b, ha, hb, e => by
    rw [List.map_cons, List.nodup_cons] at h
    rcases List.mem_cons.mp ha with za | za
    · rcases List.mem_cons.mp hb with zb | zb
      · rw [za, zb]
      · exact absurd (List.mem_map.mpr ⟨b, zb, by rw [← e, za]⟩) h.1
    · rcases List.mem_cons.mp hb with zb | zb
      · exact absurd (List.mem_map.mpr ⟨a, za, by rw [e, zb]⟩) h.1
      · exact sp_inj_on h.2 za zb e
theorem sp_erm {α β : Type} (f : α → β) : ∀ (L : List α) (j : Nat), (L.eraseIdx j).map f = (L.map f).eraseIdx j
  | [], _ => rfl
  | _ :: _, 0 => rfl
  | x :: L, j + 1 => congrArg (f x :: ·) (sp_erm f L j)
variable {S : sp_S} {s : z_Z}
theorem sp_MR.rf (h : sp_MR S s) : s.1.2 = S.1 := h.1
theorem sp_MR.w (h : sp_MR S s) {i : Nat} (hi : i < 2) : (z_qw s i).2 = sp_u (sp_R S i) := h.2.1 i hi
theorem sp_MR.f (h : sp_MR S s) {i : Nat} (hi : i < 2) : z_qf s i = z_bi (sp_F S i) := h.2.2.1 i hi
theorem sp_MR.c (h : sp_MR S s) {i j : Nat} (hi : i < 3) (hj : j < 7) : z_qc s i j = sp_C S i j := h.2.2.2.1 i hi j hj
theorem sp_MR.t (h : sp_MR S s) {t : Nat} (ht : t < 3) : sp_tpK (z_qk s) (z_qp s t).2 = sp_T S t := h.2.2.2.2.1 t ht
theorem sp_MR.h (h : sp_MR S s) {g : Nat} (hg : g < 2) : z_qh s g = (sp_E S g).1 := (h.2.2.2.2.2 g hg).1
theorem sp_MR.l (h : sp_MR S s) {g : Nat} (hg : g < 2) : (z_ql s g).2 = sp_u (sp_E S g).2 := (h.2.2.2.2.2 g hg).2
theorem sp_MR.wl (h : sp_MR S s) {i : Nat} (hi : i < 2) : (z_qw s i).2.length = (sp_R S i).length := by rw [h.w hi, List.length_map]
theorem sp_MR.tl (h : sp_MR S s) {t : Nat} (ht : t < 3) : (z_qp s t).2.length = (sp_T S t).length := by rw [← h.t ht, List.length_map]
theorem sp_MR.th (h : sp_MR S s) {k : Int32} : sp_MR S (z_tm s (k, s.1.2.1, s.1.2.2)) := h
theorem sp_MR.nine (h : sp_MR S s) {k : Int32} : sp_MR (sp_nine S) (z_tm s (k, s.1.2.1 + 1, s.1.2.2)) := ⟨by show (s.1.2.1 + 1, s.1.2.2) = (S.1.1 + 1, S.1.2); rw [h.1], h.2⟩
theorem sp_MR.ni (h : sp_MR S s) : sp_MR (sp_nine S) (z_tm s (s.1.1, s.1.2.1 + 1, s.1.2.2)) := h.nine
theorem sp_MR.kno (h : sp_MR S s) {k : Int32} : sp_MR (sp_kno S) (z_tm s (k, s.1.2.1, s.1.2.2 + 1)) := ⟨by show (s.1.2.1, s.1.2.2 + 1) = (S.1.1, S.1.2 + 1); rw [h.1], h.2⟩
theorem sp_MR.tr (h : sp_MR S s) {x : Int32 × (Nat → Nat)} : sp_MR S (z_tr s x) := h
theorem sp_MR.uw {i : Nat} {c : Int32} {B : List UInt32} {L : List Int32} (h : sp_MR S s) (hB : B = sp_u L) : sp_MR (sp_uR S i L) (z_tw s (z_fu (z_qw s) i (c, B))) := by
  refine ⟨h.1, fun j hj => ?_, h.2.2⟩
  show (z_fu (z_qw s) i (c, B) j).2 = sp_u (z_fu (sp_R S) i L j)
  by_cases e : j = i
  · rw [e, z_fu_self, z_fu_self, hB]
  · rw [z_fu_ne e, z_fu_ne e]; exact h.w hj
theorem sp_MR.uf {i : Nat} {x : Int32} {b : Bool} (h : sp_MR S s) (hx : x = z_bi b) : sp_MR (sp_uF S i b) (z_tf s (z_ui (z_qf s) i x)) := by
  refine ⟨h.1, h.2.1, fun j hj => ?_, h.2.2.2⟩
  show z_ui (z_qf s) i x j = z_bi (z_fu (sp_F S) i b j)
  by_cases e : j = i
  · rw [e, z_ui_self, z_fu_self, hx]
  · rw [z_ui_ne e, z_fu_ne e]; exact h.f hj
theorem sp_MR.uc {i : Nat} {F c : Nat → Int32} (h : sp_MR S s) (hF : ∀ j, j < 7 → F j = c j) : sp_MR (sp_uC S i c) (z_tc s (z_fu (z_qc s) i F)) := by
  refine ⟨h.1, h.2.1, h.2.2.1, fun i2 hi j hj => ?_, h.2.2.2.2⟩
  show z_fu (z_qc s) i F i2 j = z_fu (sp_C S) i c i2 j
  by_cases e : i2 = i
  · rw [e, z_fu_self, z_fu_self]; exact hF j hj
  · rw [z_fu_ne e, z_fu_ne e]; exact h.c hi hj
theorem sp_MR.bp {i k : Nat} (h : sp_MR S s) (hi : i < 3) (hk : k < 7) : sp_MR (sp_uC S i (z_bp (sp_C S i) k)) (z_tc s (z_fu (z_qc s) i (z_ui (z_qc s i) k (z_qc s i k + 1)))) := by
  refine h.uc (fun j hj => ?_)
  by_cases e : j = k
  · rw [e, z_ui_self, h.c hi hk]; exact z_ui_self.symm
  · rw [z_ui_ne e, h.c hi hj]; exact (z_ui_ne e).symm
theorem sp_MR.bpa {i k a : Nat} (h : sp_MR S s) (hi : i < 3) (hk : k < 7) : sp_MR (sp_uC S i (sp_bps (sp_C S i) k a)) (z_tc s (z_fu (z_qc s) i (z_ui (z_qc s i) k (z_qc s i k + nI a)))) := by
  refine h.uc (fun j hj => ?_)
  by_cases e : j = k
  · rw [e, z_ui_self, h.c hi hk, sp_bps_self]
  · rw [z_ui_ne e, h.c hi hj, sp_bps_ne e]
theorem sp_MR.uh {g : Nat} {x : Int32 × Int32 × Int32 × Int32} (h : sp_MR S s) : sp_MR (sp_uE S g (x, (sp_E S g).2)) (z_th s (z_fu (z_qh s) g x)) := by
  refine ⟨h.1, h.2.1, h.2.2.1, h.2.2.2.1, h.2.2.2.2.1, fun j hj => ?_⟩
  show z_fu (z_qh s) g x j = (z_fu (sp_E S) g (x, (sp_E S g).2) j).1 ∧ (z_ql s j).2 = sp_u (z_fu (sp_E S) g (x, (sp_E S g).2) j).2
  by_cases e : j = g
  · subst e; rw [z_fu_self, z_fu_self]; exact ⟨rfl, h.l hj⟩
  · rw [z_fu_ne e, z_fu_ne e]; exact ⟨h.h hj, h.l hj⟩
theorem sp_MR.up {t : Nat} {c : Int32} {P : List Nat} {T : List (Nat × Int32)} (h : sp_MR S s) (hP : sp_tpK (z_qk s) P = T) : sp_MR (sp_uT S t T) (z_tp s (z_fu (z_qp s) t (c, P))) := by
  refine ⟨h.1, h.2.1, h.2.2.1, h.2.2.2.1, fun j hj => ?_, h.2.2.2.2.2⟩
  show sp_tpK (z_qk s) (z_fu (z_qp s) t (c, P) j).2 = z_fu (sp_T S) t T j
  by_cases e : j = t
  · rw [e, z_fu_self, z_fu_self]; exact hP
  · rw [z_fu_ne e, z_fu_ne e]; exact h.t hj
/-- another hearer's state -/
theorem sp_MR.ue {g : Nat} {s9 : z_Z} {h2 : sp_H} (h : sp_MR S s) (hx : z_sx s s9) (h1 : z_qh s9 g = h2.1) (hl : (z_ql s9 g).2 = sp_u h2.2) (ho : ∀ j, j ≠ g → z_qh s9 j = z_qh s j ∧ z_ql s9 j = z_ql s j) : sp_MR (sp_uE S g h2) s9 := by
  obtain ⟨x1, x2, x3, x4, x5, x6, x7, x8⟩ := hx
  refine ⟨?_, fun i hi => ?_, fun i hi => ?_, fun i hi j hj => ?_, fun t ht => ?_, fun j hj => ?_⟩
  · rw [x1]; exact h.1
  · rw [x7]; exact h.w hi
  · rw [x3]; exact h.f hi
  · rw [x4]; exact h.c hi hj
  · rw [x6, x8]; exact h.t ht
  · show z_qh s9 j = (z_fu (sp_E S) g h2 j).1 ∧ (z_ql s9 j).2 = sp_u (z_fu (sp_E S) g h2 j).2
    by_cases e : j = g
    · rw [e, z_fu_self]; exact ⟨h1, hl⟩
    · rw [z_fu_ne e, (ho j e).1, (ho j e).2]; exact ⟨h.h hj, h.l hj⟩
theorem sp_rec_u {L : List Int32} {x : Int32} (hl : L.length ≤ 10) : z_rec (sp_u L) x = sp_u (sp_rec L x) := by
  unfold z_rec sp_rec
  have e1 : (sp_u L ++ [x.toUInt32]).length = L.length + 1 := by rw [List.length_append, List.length_map]; rfl
  by_cases c : L.length < 10
  · rw [if_pos (by omega), if_pos c]; show _ = List.map _ (L ++ [x]); rw [List.map_append]; rfl
  · rw [if_neg (by omega), if_neg c]
    cases L with
    | nil => exact absurd (show 0 < 10 by decide) c
    | cons a L => show sp_u L ++ [x.toUInt32] = List.map _ (L ++ [x]); rw [List.map_append]; rfl
/-- tables: keys and values by the pairs -/
theorem sp_kn {w : z_W} {ρ : Nat} {P : List Nat} {K : Nat → Nat → Int32} (h : z_pr w ρ P K) {p : Nat} (hp : p ∈ P) : (K p 0).toNatClampNeg < 20 ∧ K p 0 = nI (K p 0).toNatClampNeg := by
  obtain ⟨k, hk, e⟩ := (h.1 p hp).1.2.2
  rw [e, z_cla (by omega)]
  exact ⟨hk, rfl⟩
theorem sp_kd {w : z_W} {ρ : Nat} {P : List Nat} {K : Nat → Nat → Int32} (h : z_pr w ρ P K) : (sp_ks (sp_tpK K P)).Nodup := by
  unfold sp_ks
  rw [List.map_map]
  have h2 := h.2
  rw [List.Nodup, List.pairwise_map] at h2 ⊢
  refine List.Pairwise.imp_of_mem (fun {a b} ha hb hab e => hab ?_) h2
  have e : (K a 0).toNatClampNeg = (K b 0).toNatClampNeg := e
  rw [(sp_kn h ha).2, (sp_kn h hb).2, e]
theorem sp_pin {w : z_W} {ρ : Nat} {P : List Nat} {K : Nat → Nat → Int32} (h : z_pr w ρ P K) {p q : Nat} (hp : p ∈ P) (hq : q ∈ P) (e : (K p 0).toNatClampNeg = (K q 0).toNatClampNeg) : p = q := by
  have h2 := h.2
  have e2 : K p 0 = K q 0 := by rw [(sp_kn h hp).2, (sp_kn h hq).2, e]
  exact sp_inj_on h2 hp hq e2
theorem sp_lk_tp {w : z_W} {ρ : Nat} {P : List Nat} {K : Nat → Nat → Int32} (h : z_pr w ρ P K) {p k : Nat} (hp : p ∈ P) (e : K p 0 = nI k) (hk : k < 20) : sp_lk (sp_tpK K P) k = K p 1 := by
  have h1 := sp_lk_mem (sp_kd h) (List.mem_map.mpr ⟨p, hp, rfl⟩ : ((K p 0).toNatClampNeg, K p 1) ∈ sp_tpK K P)
  have e2 : (K p 0).toNatClampNeg = k := by rw [e, z_cla (by omega)]
  rw [← e2]
  exact h1
theorem sp_lk_tpn {P : List Nat} {K : Nat → Nat → Int32} {k : Nat} (hk : k < 20) (hq : ∀ p ∈ P, ∃ j, j < 20 ∧ K p 0 = nI j) (e : ∀ p ∈ P, ¬ K p 0 = nI k) : k ∉ sp_ks (sp_tpK K P) := fun z => by
  unfold sp_ks at z
  rw [List.map_map] at z
  obtain ⟨p, hp, e2⟩ := List.mem_map.mp z
  have e2 : (K p 0).toNatClampNeg = k := e2
  obtain ⟨j, hj, e3⟩ := hq p hp
  refine e p hp ?_
  rw [e3, z_cla (by omega)] at e2
  rw [e3, e2]
theorem sp_MR.uk {w : z_W} {t0 p : Nat} {F : Nat → Int32} {v : Int32} (h : sp_MR S s) (hm : z_mst w s) (ht0 : t0 < 3) (hp : p ∈ (z_qp s t0).2) (hF : F 0 = z_qk s p 0) (hv : F 1 = v) : sp_MR (sp_uT S t0 (sp_st (sp_T S t0) ((z_qk s p 0).toNatClampNeg) v)) (z_tk s (z_fu (z_qk s) p F)) := by
  refine ⟨h.1, h.2.1, h.2.2.1, h.2.2.2.1, fun j hj => ?_, h.2.2.2.2.2⟩
  show sp_tpK (z_fu (z_qk s) p F) (z_qp s j).2 = z_fu (sp_T S) t0 (sp_st (sp_T S t0) ((z_qk s p 0).toNatClampNeg) v) j
  by_cases e : j = t0
  · subst e
    rw [z_fu_self, ← h.t hj, sp_st, List.map_map]
    refine List.map_congr_left (fun q hq => ?_)
    show ((z_fu (z_qk s) p F q 0).toNatClampNeg, z_fu (z_qk s) p F q 1) = if (z_qk s q 0).toNatClampNeg = (z_qk s p 0).toNatClampNeg then ((z_qk s q 0).toNatClampNeg, v) else ((z_qk s q 0).toNatClampNeg, z_qk s q 1)
    by_cases e2 : q = p
    · subst e2; rw [z_fu_self, if_pos rfl, hF, hv]
    · rw [z_fu_ne e2, if_neg (fun z => e2 (sp_pin (hm.pr hj) hq hp z))]
  · rw [z_fu_ne e, ← h.t hj]
    refine List.map_congr_left (fun q hq => ?_)
    have a1 := ((hm.pr hj).1 q hq).1.2.1
    have a2 := ((hm.pr ht0).1 p hp).1.2.1
    rw [z_fu_ne (fun z => by subst z; omega)]
theorem sp_MR.newk {w0 : z_W} {x : Nat} {F : Nat → Int32} (h : sp_MR S s) (h0 : z_mst w0 s) (hx : z_g w0 x = none) : sp_MR S (z_tk s (z_fu (z_qk s) x F)) := by
  refine ⟨h.1, h.2.1, h.2.2.1, h.2.2.2.1, fun j hj => ?_, h.2.2.2.2.2⟩
  show sp_tpK (z_fu (z_qk s) x F) (z_qp s j).2 = _
  rw [← h.t hj]
  refine List.map_congr_left (fun q hq => ?_)
  rw [z_fu_ne (fun z => by
    have := ((h0.pr hj).1 q hq).2
    rw [z, hx] at this
    cases this)]
theorem sp_tp_ins {K : Nat → Nat → Int32} {P : List Nat} {x a k : Nat} {v : Int32} (h0 : K x 0 = nI k) (hk : k < 20) (h1 : K x 1 = v) : sp_tpK K (P.take a ++ x :: P.drop a) = sp_ins (sp_tpK K P) a k v := by
  unfold sp_ins
  rw [sp_tpK, List.map_append, List.map_cons, List.map_take, List.map_drop, h0, h1, z_cla (by omega)]
theorem sp_er_go : ∀ {T : List (Nat × Int32)} {j : Nat} {p : Nat × Int32}, (sp_ks T).Nodup → T[j]? = some p → T.eraseIdx j = sp_go T p.1
  | [], j, p, _, h => by cases h
  | q :: T, 0, p, hd, h => by
    have e : q = p := Option.some.inj h
    subst e
    have hd : (q.1 :: sp_ks T).Nodup := hd
    rw [List.nodup_cons] at hd
    show T = List.filter _ (q :: T)
    rw [List.filter_cons, if_neg (by rw [beq_self_eq_true]; exact Bool.false_ne_true)]
    exact (sp_go_no hd.1).symm
  | q :: T, j + 1, p, hd, h => by
    have h : T[j]? = some p := h
    have hd : (q.1 :: sp_ks T).Nodup := hd
    rw [List.nodup_cons] at hd
    have hne : q.1 ≠ p.1 := fun z => hd.1 (by rw [z]; exact List.mem_map.mpr ⟨p, List.mem_of_getElem? h, rfl⟩)
    show q :: T.eraseIdx j = List.filter _ (q :: T)
    rw [List.filter_cons, if_pos (by rw [beq_false_of_ne hne]; rfl), sp_er_go hd.2 h]
    rfl
theorem sp_tp_er {K : Nat → Nat → Int32} {P : List Nat} {j : Nat} : sp_tpK K (P.eraseIdx j) = (sp_tpK K P).eraseIdx j := by
  exact sp_erm _ _ _
/-- nothing changes -/
theorem sp_uT_id {t : Nat} : sp_uT S t (sp_T S t) = S := by
  refine congrArg (fun f => (S.1, S.2.1, S.2.2.1, S.2.2.2.1, f, S.2.2.2.2.2)) (funext fun j => ?_)
  show z_fu (sp_T S) t (sp_T S t) j = sp_T S j
  by_cases e : j = t
  · rw [e, z_fu_self]
  · rw [z_fu_ne e]
theorem sp_uC_id {i : Nat} : sp_uC S i (sp_C S i) = S := by
  refine congrArg (fun f => (S.1, S.2.1, S.2.2.1, f, S.2.2.2.2)) (funext fun j => ?_)
  show z_fu (sp_C S) i (sp_C S i) j = sp_C S j
  by_cases e : j = i
  · rw [e, z_fu_self]
  · rw [z_fu_ne e]
theorem sp_tc_id {t : Nat} : sp_tc S t (sp_C S 2) = S := by
  unfold sp_tc
  cases Nat.beq t 0
  · rfl
  · exact sp_uC_id
/-- the forms in which a call ends -/
theorem sp_X1 {T k a R : Int32} {S K : sp_S} {s9 : z_Z} (hT : T = k) (hk : ¬ k = 0) (h1 : s9.1.1 = k) (h2 : sp_MR S s9) : s9.1.1 = T ∧ sp_MR (if T = 0 then K else S) s9 ∧ (T = 0 → a = R) := by
  subst hT
  exact ⟨h1, by rw [if_neg hk]; exact h2, fun z => absurd z hk⟩
theorem sp_X0 {T a R : Int32} {S K : sp_S} {s9 : z_Z} (hT : T = 0) (h1 : s9.1.1 = 0) (h2 : sp_MR K s9) (h3 : a = R) : s9.1.1 = T ∧ sp_MR (if T = 0 then K else S) s9 ∧ (T = 0 → a = R) := by
  subst hT
  exact ⟨h1, by rw [if_pos rfl]; exact h2, fun _ => h3⟩
end ZMr0
