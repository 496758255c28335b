section ZOk
variable {S : sp_S}
theorem ok_uR {i : Nat} {B : List Int32} (ok : sp_ok S) (hB : B.length ≤ 12 ∧ ∀ v ∈ B, z_vl v) : sp_ok (sp_uR S i B) := by
  refine ⟨fun j hj => ?_, ok.2⟩
  show (z_fu (sp_R S) i B j).length ≤ 12 ∧ ∀ v ∈ z_fu (sp_R S) i B j, z_vl v
  by_cases e : j = i
  · rw [e, z_fu_self]; exact hB
  · rw [z_fu_ne e]; exact ok.1 j hj
theorem ok_uC {i : Nat} {c : Nat → Int32} (ok : sp_ok S) : sp_ok (sp_uC S i c) := ok
theorem ok_uF {i : Nat} {b : Bool} (ok : sp_ok S) : sp_ok (sp_uF S i b) := ok
theorem ok_uT {t : Nat} {T : List (Nat × Int32)} (ok : sp_ok S) (hT : sp_okT T) (h2 : t = 2 → sp_ri2 T) : sp_ok (sp_uT S t T) := by
  refine ⟨ok.1, fun j hj => ?_, ?_, ok.2.2.2⟩
  · show sp_okT (z_fu (sp_T S) t T j)
    by_cases e : j = t
    · rw [e, z_fu_self]; exact hT
    · rw [z_fu_ne e]; exact ok.2.1 j hj
  · show sp_ri2 (z_fu (sp_T S) t T 2)
    by_cases e : 2 = t
    · rw [← e, z_fu_self]; exact h2 e.symm
    · rw [z_fu_ne e]; exact ok.2.2.1
theorem ok_uE {g : Nat} {h : sp_H} (ok : sp_ok S) (hh : h.2.length ≤ 10) : sp_ok (sp_uE S g h) := by
  refine ⟨ok.1, ok.2.1, ok.2.2.1, fun j hj => ?_⟩
  show (z_fu (sp_E S) g h j).2.length ≤ 10
  by_cases e : j = g
  · rw [e, z_fu_self]; exact hh
  · rw [z_fu_ne e]; exact ok.2.2.2 j hj
theorem ok_nn {α : Type} {o : Option α} (ok : sp_ok S) : sp_ok (sp_nn S o) := ok
theorem ok_bn {b : Bool} (ok : sp_ok S) : sp_ok (sp_bn S b) := ok
theorem ok_nine (ok : sp_ok S) : sp_ok (sp_nine S) := ok
theorem ok_kno (ok : sp_ok S) : sp_ok (sp_kno S) := ok
theorem ok_tc {t : Nat} {c : Nat → Int32} (ok : sp_ok S) : sp_ok (sp_tc S t c) := by
  unfold sp_tc
  cases Nat.beq t 0
  · exact ok
  · exact ok
theorem ok_S0 : sp_ok sp_S0 := ⟨fun _ _ => ⟨Nat.zero_le _, fun _ h => by cases h⟩, fun _ _ => ⟨List.nodup_nil, fun _ h => by cases h⟩, List.Pairwise.nil, fun _ _ => Nat.zero_le _⟩
theorem sp_i_2 {r : Int32} (h : sp_two r) : sp_i r < 2 := by rcases h with rfl | rfl <;> decide
theorem sp_i_3 {r : Int32} (h : sp_thr r) : sp_i r < 3 := by rcases h with rfl | rfl | rfl <;> decide
theorem z_k23 {r : Int32} {P Q : Prop} [Decidable P] [Decidable Q] (h : sp_k23 r P Q = 0) : sp_two r ∧ ¬ P ∧ ¬ Q := by
  unfold sp_k23 at h
  by_cases a : sp_two r
  · rw [if_pos a] at h
    by_cases b : P
    · rw [if_pos b] at h; exact absurd h (by decide)
    · rw [if_neg b] at h
      by_cases c : Q
      · rw [if_pos c] at h; exact absurd h (by decide)
      · exact ⟨a, b, c⟩
  · rw [if_neg a] at h; exact absurd h (by decide)
theorem z_k22 {r : Int32} {P : Prop} [Decidable P] (h : q_k22 r P = 0) : sp_two r ∧ ¬ P := by
  by_cases a : sp_two r
  · rw [q_k22, if_pos a] at h
    by_cases b : P
    · rw [if_pos b] at h; exact absurd h (by decide)
    · exact ⟨a, b⟩
  · rw [q_k22, if_neg a] at h; exact absurd h (by decide)
theorem z_k2 {r : Int32} (h : q_k2 r = 0) : sp_two r := by
  by_cases a : sp_two r
  · exact a
  · rw [q_k2, if_neg a] at h; exact absurd h (by decide)
theorem z_k2b {r g : Int32} (h : sp_k2b r g = 0) : sp_two r ∧ sp_two g := by
  unfold sp_k2b at h
  by_cases a : sp_two r ∧ sp_two g
  · exact a
  · rw [if_neg a] at h; exact absurd h (by decide)
theorem z_k2c {r g : Int32} {P : Prop} [Decidable P] (h : sp_k2c r g P = 0) : sp_two r ∧ sp_two g ∧ ¬ P := by
  unfold sp_k2c at h
  by_cases a : sp_two r ∧ sp_two g
  · rw [if_pos a] at h
    by_cases b : P
    · rw [if_pos b] at h; exact absurd h (by decide)
    · exact ⟨a.1, a.2, b⟩
  · rw [if_neg a] at h; exact absurd h (by decide)
theorem z_k3b {r g : Int32} (h : sp_k3b r g = 0) : sp_thr r ∧ sp_two g := by
  unfold sp_k3b at h
  by_cases a : sp_thr r ∧ sp_two g
  · exact a
  · rw [if_neg a] at h; exact absurd h (by decide)
theorem z_k32 {r : Int32} {P : Prop} [Decidable P] (h : sp_k32 r P = 0) : sp_thr r ∧ ¬ P := by
  unfold sp_k32 at h
  by_cases a : sp_thr r
  · rw [if_pos a] at h
    by_cases b : P
    · rw [if_pos b] at h; exact absurd h (by decide)
    · exact ⟨a, b⟩
  · rw [if_neg a] at h; exact absurd h (by decide)
theorem q_mxv {v n : Int32} (hv : z_vl v) (hn : z_vl n) : z_vl (q_mx v n) := by
  unfold q_mx
  split
  · exact hn
  · exact hv
theorem q_rtv {r k v n y : Int32} (hv : z_vl v) (hn : z_vl n) (h : q_rt r k v n = some y) : y = -1000 ∨ z_vl y := by
  unfold q_rt at h
  split at h
  · cases h; exact Or.inr (q_bdr _)
  split at h
  · cases h; exact Or.inr (q_mxv hv hn)
  split at h
  · cases h
    cases q_ev (q_bd (v + n)) with
    | true => exact Or.inr (q_bdr _)
    | false => exact Or.inl rfl
  split at h
  · cases h; exact Or.inl rfl
  split at h
  · revert h
    cases q_ev (q_bd (v + n)) with
    | true => intro h; cases h; exact Or.inr (q_bdr _)
    | false => intro h; cases h
  · cases h; exact Or.inr (q_bdr _)
theorem q_rtv2 {r k v n y : Int32} (hr : r = 0 ∨ r = 1 ∨ r = 4 ∨ r = 5) (hv : z_vl v) (hn : z_vl n) (h : q_rt r k v n = some y) : z_vl y := by
  rcases hr with rfl | rfl | rfl | rfl
  · rw [q_rt0] at h; cases h; exact q_bdr _
  · rw [q_rt1] at h; cases h; exact q_mxv hv hn
  · rw [q_rt4] at h
    revert h
    cases q_ev (q_bd (v + n)) with
    | true => intro h; cases h; exact q_bdr _
    | false => intro h; cases h
  · rw [q_rt5 (Or.inr (by decide))] at h; cases h; exact q_bdr _
theorem sp_ri_ok {b : Bool} {t n : Int32} : ∀ {L A : List Int32} {c : Nat → Int32} {k : Bool}, (sp_ri b t n c A k L).2.2.length ≤ A.length + L.length ∧ ∀ v ∈ (sp_ri b t n c A k L).2.2, v ∈ A ∨ v ∈ L
  | [], A, c, k => ⟨Nat.le_refl _, fun v h => Or.inl h⟩
  | x :: L, A, c, k => by
    have all : (A ++ x :: L).length ≤ A.length + (x :: L).length ∧ ∀ v ∈ A ++ x :: L, v ∈ A ∨ v ∈ x :: L := ⟨by rw [List.length_append]; exact Nat.le_refl _, fun v h => List.mem_append.mp h⟩
    rcases q_tt_s (t := t) (x := x) (n := n) with e | e | e
    · rw [sp_riN e]; exact all
    · cases b with
      | true => rw [sp_riF e]; exact all
      | false =>
        rw [sp_riT e]
        have ih := sp_ri_ok (b := false) (t := t) (n := n) (L := L) (A := A) (c := z_bp (z_bp (z_bp c 1) 2) 4) (k := true)
        exact ⟨Nat.le_trans ih.1 (by rw [List.length_cons]; omega), fun v h => (ih.2 v h).imp id (List.mem_cons_of_mem _)⟩
    · rw [sp_riO e (by decide)]
      have ih := sp_ri_ok (b := b) (t := t) (n := n) (L := L) (A := A ++ [x]) (c := z_bp (z_bp c 1) 2) (k := k)
      refine ⟨Nat.le_trans ih.1 (by rw [List.length_append, List.length_cons, List.length_cons, List.length_nil]; omega), fun v h => ?_⟩
      rcases ih.2 v h with h | h
      · rcases List.mem_append.mp h with h | h
        · exact Or.inl h
        · exact Or.inr (by rw [List.mem_singleton.mp h]; exact List.mem_cons_self)
      · exact Or.inr (List.mem_cons_of_mem _ h)
theorem sp_ra_ok {b : Bool} {r n : Int32} (hr : r = 0 ∨ r = 1 ∨ r = 4 ∨ r = 5) (hn : z_vl n) : ∀ {L A : List Int32} {c : Nat → Int32}, (∀ v ∈ A, z_vl v) → (∀ v ∈ L, z_vl v) → (sp_ra b r n c A L).2.2.length = A.length + L.length ∧ ∀ v ∈ (sp_ra b r n c A L).2.2, z_vl v
  | [], A, c, hA, _ => ⟨rfl, hA⟩
  | x :: L, A, c, hA, hL => by
    have all : (A ++ x :: L).length = A.length + (x :: L).length ∧ ∀ v ∈ A ++ x :: L, z_vl v := ⟨by rw [List.length_append], fun v h => (List.mem_append.mp h).elim (hA v) (hL v)⟩
    cases e : q_rt r 0 x n with
    | none => rw [sp_raN e]; exact all
    | some y =>
      cases b with
      | true => rw [sp_raF e]; exact all
      | false =>
        rw [sp_raT e]
        have ih := sp_ra_ok (b := false) hr hn (L := L) (A := A ++ [y]) (c := z_bp (z_bp (z_bp c 1) 2) 3) (fun v h => (List.mem_append.mp h).elim (hA v) (fun z => by rw [List.mem_singleton.mp z]; exact q_rtv2 hr (hL x List.mem_cons_self) hn e)) (fun v h => hL v (List.mem_cons_of_mem _ h))
        exact ⟨by rw [ih.1, List.length_append, List.length_cons, List.length_cons, List.length_nil]; omega, ih.2⟩
theorem sp_rt_ok {r n : Int32} (hr : r = 0 ∨ r = 1 ∨ r = 4 ∨ r = 5) (hn : z_vl n) : ∀ {L A : List (Nat × Int32)} {c : Nat → Int32}, (∀ p ∈ A, p.1 < 20 ∧ z_vl p.2) → (∀ p ∈ L, p.1 < 20 ∧ z_vl p.2) → sp_ks (sp_rt r n c A L).2.2 = sp_ks (A ++ L) ∧ ∀ p ∈ (sp_rt r n c A L).2.2, p.1 < 20 ∧ z_vl p.2
  | [], A, c, hA, _ => ⟨by rw [List.append_nil]; rfl, hA⟩
  | x :: L, A, c, hA, hL => by
    cases e : q_rt r (nI x.1) x.2 n with
    | none => rw [sp_rtN e]; exact ⟨rfl, fun v h => (List.mem_append.mp h).elim (hA v) (hL v)⟩
    | some y =>
      rw [sp_rtS e]
      have hx := hL x List.mem_cons_self
      have ih := sp_rt_ok hr hn (L := L) (A := A ++ [(x.1, y)]) (c := z_bp (z_bp (z_bp c 1) 2) 3) (fun v h => (List.mem_append.mp h).elim (hA v) (fun z => by rw [List.mem_singleton.mp z]; exact ⟨hx.1, q_rtv2 hr hx.2 hn e⟩)) (fun v h => hL v (List.mem_cons_of_mem _ h))
      refine ⟨?_, ih.2⟩
      rw [ih.1]
      unfold sp_ks
      rw [List.map_append, List.map_append, List.map_append, List.append_assoc]
      rfl
theorem ok_hr {i g a : Nat} (ok : sp_ok S) (hg : g < 2) : sp_ok (sp_hrS S i g a) := ok_nn (ok_uE (ok_uC ok) (sp_ho_le _ _ _ _ (ok.2.2.2 g hg)))
theorem ok_sft {i : Nat} {t n : Int32} (ok : sp_ok S) (hi : i < 2) : sp_ok (sp_sftS S i t n) := by
  have h := sp_ri_ok (b := sp_F S i) (t := t) (n := n) (L := sp_R S i) (A := []) (c := z_bp (sp_C S i) 0) (k := false)
  exact ok_nn (ok_uR (ok_uC ok) ⟨Nat.le_trans h.1 (by rw [List.length_nil, Nat.zero_add]; exact (ok.1 i hi).1), fun v hv => (h.2 v hv).elim (fun z => by cases z) ((ok.1 i hi).2 v)⟩)
theorem ok_chg {i : Nat} {r n : Int32} (ok : sp_ok S) (hi : i < 2) (hr : r = 0 ∨ r = 1 ∨ r = 4 ∨ r = 5) (hn : z_vl n) : sp_ok (sp_chgS S i r n) := by
  have h := sp_ra_ok (b := sp_F S i) hr hn (L := sp_R S i) (A := []) (c := z_bp (sp_C S i) 0) (fun v z => by cases z) (ok.1 i hi).2
  exact ok_bn (ok_uR (ok_uC ok) ⟨by unfold sp_chg; rw [h.1, List.length_nil, Nat.zero_add]; exact (ok.1 i hi).1, h.2⟩)
theorem ok_tb {t : Nat} {o : sp_O} (ok : sp_ok S) (h1 : sp_okT o.2.1) (h2 : t = 2 → sp_ri2 o.2.1) : sp_ok (sp_tb S t o) := ok_nn (ok_tc (ok_uT ok h1 h2))
theorem ok_pt {t k : Nat} {v : Int32} (ok : sp_ok S) (ht : t < 3) (hk : k < 20) (hv : z_vl v) : sp_okT (sp_pt (sp_srt t) (sp_T S t) k v) ∧ (t = 2 → sp_ri2 (sp_pt (sp_srt t) (sp_T S t) k v)) :=
  ⟨sp_pt_ok (ok.2.1 t ht) hk hv, fun e => by subst e; exact sp_pt_ri (ok.2.1 2 ht) ok.2.2.1⟩
theorem ok_go {t k : Nat} (ok : sp_ok S) (ht : t < 3) : sp_okT (sp_go (sp_T S t) k) ∧ (t = 2 → sp_ri2 (sp_go (sp_T S t) k)) :=
  ⟨sp_go_ok (ok.2.1 t ht), fun e => by subst e; exact sp_go_ri ok.2.2.1⟩
theorem ok_id {t : Nat} (ok : sp_ok S) (ht : t < 3) : sp_okT (sp_T S t) ∧ (t = 2 → sp_ri2 (sp_T S t)) := ⟨ok.2.1 t ht, fun e => by subst e; exact ok.2.2.1⟩
theorem ok_bec {t k : Nat} {o : Option Int32} {c : Nat → Int32} (ok : sp_ok S) (ht : t < 3) (hk : k < 20) (ho : ∀ y, o = some y → y = -1000 ∨ z_vl y) : sp_okT (sp_bec (sp_srt t) (sp_T S t) c k o).2.1 ∧ (t = 2 → sp_ri2 (sp_bec (sp_srt t) (sp_T S t) c k o).2.1) := by
  cases o with
  | none => exact ok_id ok ht
  | some y =>
    by_cases e : y = -1000
    · by_cases e2 : sp_lk (sp_T S t) k = -1000
      · have h9 : sp_bec (sp_srt t) (sp_T S t) c k (some y) = (some y, sp_T S t, c) := (if_pos e).trans (if_pos e2)
        rw [h9]; exact ok_id ok ht
      · have h9 : sp_bec (sp_srt t) (sp_T S t) c k (some y) = (some y, sp_go (sp_T S t) k, z_bp c 6) := (if_pos e).trans (if_neg e2)
        rw [h9]; exact ok_go ok ht
    · have h9 : sp_bec (sp_srt t) (sp_T S t) c k (some y) = (some y, sp_pt (sp_srt t) (sp_T S t) k y, z_bp c 5) := if_neg e
      rw [h9]; exact ok_pt ok ht hk ((ho y rfl).resolve_left e)
theorem sp_k20 {k : Int32} (h : ¬ sp_bk k) : sp_i k < 20 := by
  obtain ⟨i, hi, rfl⟩ := sp_nt (m := 19) (b := 19) rfl (by decide) h
  rw [sp_in' (by omega)]
  omega
theorem ok_type {r y : Int32} (ok : sp_ok S) (h : sp_k23 r (sp_bv y) ((sp_R S (sp_i r)).length = 12) = 0) : sp_ok (sp_uR S (sp_i r) (sp_R S (sp_i r) ++ [y])) := by
  obtain ⟨h1, h2, h3⟩ := z_k23 h
  have h4 := ok.1 (sp_i r) (sp_i_2 h1)
  refine ok_uR ok ⟨by rw [List.length_append]; show _ + 1 ≤ 12; omega, fun v hv => ?_⟩
  rcases List.mem_append.mp hv with z | z
  · exact h4.2 v z
  · rw [List.mem_singleton.mp z]; exact sp_vl h2
theorem ok_drop {r : Int32} {n : Nat} {P : Prop} [Decidable P] (ok : sp_ok S) (h : q_k22 r P = 0) : sp_ok (sp_uR S (sp_i r) ((sp_R S (sp_i r)).take n)) := by
  have h4 := ok.1 (sp_i r) (sp_i_2 (z_k22 h).1)
  exact ok_uR ok ⟨by rw [List.length_take]; have := h4.1; omega, fun v hv => h4.2 v (List.mem_of_mem_take hv)⟩
theorem ok_copy {r : Int32} (ok : sp_ok S) (h : q_k2 r = 0) : sp_ok (sp_uR S (sp_i r) (sp_R S (1 - sp_i r))) := ok_uR ok (ok.1 _ (by have := sp_i_2 (z_k2 h); omega))
theorem ok_put {t k y : Int32} (ok : sp_ok S) (h : sp_k32 t (sp_bk k ∨ sp_bv y) = 0) : sp_ok (sp_tb S (sp_i t) (sp_put (sp_srt (sp_i t)) (sp_T S (sp_i t)) (sp_C S 2) (sp_i k) y)) := by
  obtain ⟨h1, h2⟩ := z_k32 h
  have h3 := ok_pt (v := y) ok (sp_i_3 h1) (sp_k20 (fun z => h2 (Or.inl z))) (sp_vl (fun z => h2 (Or.inr z)))
  exact ok_tb ok h3.1 h3.2
theorem ok_remove {t k : Int32} (ok : sp_ok S) (h : sp_k32 t (sp_bk k) = 0) : sp_ok (sp_tb S (sp_i t) (sp_del (sp_T S (sp_i t)) (sp_C S 2) (sp_i k))) := by
  have h3 := ok_go (k := sp_i k) ok (sp_i_3 (z_k32 h).1)
  exact ok_tb ok h3.1 h3.2
theorem ok_putIfAbsent {t k y : Int32} (ok : sp_ok S) (h : sp_k32 t (sp_bk k ∨ sp_bv y) = 0) : sp_ok (sp_tb S (sp_i t) (sp_pia (sp_srt (sp_i t)) (sp_T S (sp_i t)) (sp_C S 2) (sp_i k) y)) := by
  obtain ⟨h1, h2⟩ := z_k32 h
  unfold sp_pia
  split
  · have h3 := ok_pt (v := y) ok (sp_i_3 h1) (sp_k20 (fun z => h2 (Or.inl z))) (sp_vl (fun z => h2 (Or.inr z)))
    exact ok_tb ok h3.1 h3.2
  · have h3 := ok_id ok (sp_i_3 h1)
    exact ok_tb ok h3.1 h3.2
theorem ok_replace {t k y : Int32} (ok : sp_ok S) (h : sp_k32 t (sp_bk k ∨ sp_bv y) = 0) : sp_ok (sp_tb S (sp_i t) (sp_rep (sp_srt (sp_i t)) (sp_T S (sp_i t)) (sp_C S 2) (sp_i k) y)) := by
  obtain ⟨h1, h2⟩ := z_k32 h
  unfold sp_rep
  split
  · have h3 := ok_id ok (sp_i_3 h1)
    exact ok_tb ok h3.1 h3.2
  · have h3 := ok_pt (v := y) ok (sp_i_3 h1) (sp_k20 (fun z => h2 (Or.inl z))) (sp_vl (fun z => h2 (Or.inr z)))
    exact ok_tb ok h3.1 h3.2
theorem ok_replaceIf {t k o y : Int32} (ok : sp_ok S) (h : sp_k32 t (sp_bk k ∨ sp_bv o ∨ sp_bv y) = 0) : sp_ok (sp_tb S (sp_i t) (sp_rif (sp_srt (sp_i t)) (sp_T S (sp_i t)) (sp_C S 2) (sp_i k) o y)) := by
  obtain ⟨h1, h2⟩ := z_k32 h
  unfold sp_rif
  split
  · have h3 := ok_pt (v := y) ok (sp_i_3 h1) (sp_k20 (fun z => h2 (Or.inl z))) (sp_vl (fun z => h2 (Or.inr (Or.inr z))))
    exact ok_tb ok h3.1 h3.2
  · have h3 := ok_id ok (sp_i_3 h1)
    exact ok_tb ok h3.1 h3.2
theorem ok_removePair {t k y : Int32} (ok : sp_ok S) (h : sp_k32 t (sp_bk k ∨ sp_bv y) = 0) : sp_ok (sp_tb S (sp_i t) (sp_rmp (sp_T S (sp_i t)) (sp_C S 2) (sp_i k) y)) := by
  obtain ⟨h1, h2⟩ := z_k32 h
  unfold sp_rmp
  split
  · have h3 := ok_go (k := sp_i k) ok (sp_i_3 h1)
    exact ok_tb ok h3.1 h3.2
  · have h3 := ok_id ok (sp_i_3 h1)
    exact ok_tb ok h3.1 h3.2
theorem ok_computeIfAbsent {t k r n : Int32} (ok : sp_ok S) (h : sp_k32 t (sp_bk k ∨ (r < 0 ∨ 5 < r) ∨ sp_bv n) = 0) : sp_ok (sp_tb S (sp_i t) (sp_cia (sp_srt (sp_i t)) (sp_T S (sp_i t)) (sp_C S 2) (sp_i k) r n)) := by
  obtain ⟨h1, h2⟩ := z_k32 h
  unfold sp_cia
  split
  · have h3 := ok_bec (c := sp_C S 2) (o := q_rt r (nI (sp_i k)) 0 n) ok (sp_i_3 h1) (sp_k20 (fun z => h2 (Or.inl z))) (fun y hy => q_rtv ⟨by decide, by decide⟩ (sp_vl (fun z => h2 (Or.inr (Or.inr z)))) hy)
    exact ok_tb ok h3.1 h3.2
  · have h3 := ok_id ok (sp_i_3 h1)
    exact ok_tb ok h3.1 h3.2
theorem ok_computeIfPresent {t k r n : Int32} (ok : sp_ok S) (h : sp_k32 t (sp_bk k ∨ (r < 0 ∨ 5 < r) ∨ sp_bv n) = 0) : sp_ok (sp_tb S (sp_i t) (sp_cip (sp_srt (sp_i t)) (sp_T S (sp_i t)) (sp_C S 2) (sp_i k) r n)) := by
  obtain ⟨h1, h2⟩ := z_k32 h
  unfold sp_cip
  split
  · have h3 := ok_id ok (sp_i_3 h1)
    exact ok_tb ok h3.1 h3.2
  · rename_i c
    have h3 := ok_bec (c := sp_C S 2) (o := q_rt r (nI (sp_i k)) (sp_lk (sp_T S (sp_i t)) (sp_i k)) n) ok (sp_i_3 h1) (sp_k20 (fun z => h2 (Or.inl z))) (fun y hy => q_rtv (sp_lk_vl (ok.2.1 _ (sp_i_3 h1)).2 (sp_memk (ok.2.1 _ (sp_i_3 h1)) c)) (sp_vl (fun z => h2 (Or.inr (Or.inr z)))) hy)
    exact ok_tb ok h3.1 h3.2
theorem ok_compute {t k r n : Int32} (ok : sp_ok S) (h : sp_k32 t (sp_bk k ∨ (r < 0 ∨ 5 < r) ∨ sp_bv n) = 0) : sp_ok (sp_tb S (sp_i t) (sp_cmp (sp_srt (sp_i t)) (sp_T S (sp_i t)) (sp_C S 2) (sp_i k) r n)) := by
  obtain ⟨h1, h2⟩ := z_k32 h
  have h3 := ok_bec (c := sp_C S 2) (o := q_rt r (nI (sp_i k)) (q_d (sp_lk (sp_T S (sp_i t)) (sp_i k))) n) ok (sp_i_3 h1) (sp_k20 (fun z => h2 (Or.inl z))) (fun y hy => q_rtv (q_d_vl (ok.2.1 _ (sp_i_3 h1))) (sp_vl (fun z => h2 (Or.inr (Or.inr z)))) hy)
  exact ok_tb ok h3.1 h3.2
theorem ok_merge {t k y r : Int32} (ok : sp_ok S) (h : sp_k32 t (sp_bk k ∨ (r < 0 ∨ 5 < r) ∨ sp_bv y) = 0) : sp_ok (sp_tb S (sp_i t) (sp_mrg (sp_srt (sp_i t)) (sp_T S (sp_i t)) (sp_C S 2) (sp_i k) y r)) := by
  obtain ⟨h1, h2⟩ := z_k32 h
  unfold sp_mrg
  split
  · have h3 := ok_pt (v := y) ok (sp_i_3 h1) (sp_k20 (fun z => h2 (Or.inl z))) (sp_vl (fun z => h2 (Or.inr (Or.inr z))))
    exact ok_tb ok h3.1 h3.2
  · rename_i c
    have h3 := ok_bec (c := sp_C S 2) (o := q_rt r (nI (sp_i k)) (sp_lk (sp_T S (sp_i t)) (sp_i k)) y) ok (sp_i_3 h1) (sp_k20 (fun z => h2 (Or.inl z))) (fun y2 hy => q_rtv (sp_lk_vl (ok.2.1 _ (sp_i_3 h1)).2 (sp_memk (ok.2.1 _ (sp_i_3 h1)) c)) (sp_vl (fun z => h2 (Or.inr (Or.inr z)))) hy)
    exact ok_tb ok h3.1 h3.2
theorem ok_htb {t g : Nat} (ok : sp_ok S) (hg : g < 2) : sp_ok (sp_htbS S t g) := ok_nn (ok_uE (ok_tc ok) (sp_ho_le _ _ _ _ (ok.2.2.2 g hg)))
theorem ok_ctb {t : Nat} {r n : Int32} (ok : sp_ok S) (ht : t < 3) (hr : r = 0 ∨ r = 1 ∨ r = 4 ∨ r = 5) (hn : z_vl n) : sp_ok (sp_ctbS S t r n) := by
  have h := sp_rt_ok hr hn (L := sp_T S t) (A := []) (c := z_bp (sp_C S 2) 0) (fun v z => by cases z) (ok.2.1 t ht).2
  have hk : sp_ks (sp_ctb S t r n).2.2 = sp_ks (sp_T S t) := h.1
  refine ok_bn (ok_tc (ok_uT ok ⟨?_, h.2⟩ (fun e => ?_)))
  · rw [hk]; exact (ok.2.1 t ht).1
  · show (sp_ks (sp_ctb S t r n).2.2).Pairwise (· < ·)
    rw [hk]; subst e; exact ok.2.2.1
theorem ok_clear {t : Nat} (ok : sp_ok S) : sp_ok (sp_uT S t []) := ok_uT ok ⟨List.nodup_nil, fun _ h => by cases h⟩ (fun _ => List.Pairwise.nil)
theorem ok_hsp {a b c : Int32} {d g : Nat} (ok : sp_ok S) (hg : g < 2) : sp_ok (sp_hspS S a b c d g) := ok_nn (ok_uE ok (sp_ho_le _ _ _ _ (ok.2.2.2 g hg)))
theorem ok_stop {g : Nat} {n : Int32} (ok : sp_ok S) (hg : g < 2) : sp_ok (sp_uE S g (sp_stp' (sp_E S g) n)) := ok_uE ok (ok.2.2.2 g hg)
theorem ok_forget {g : Nat} (ok : sp_ok S) : sp_ok (sp_uE S g (sp_fgt (sp_E S g))) := ok_uE ok (Nat.zero_le _)
theorem ok_csS (ok : sp_ok S) : sp_ok (sp_csS S) := ok
end ZOk
