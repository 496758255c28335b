section ZSps
abbrev sp_i (r : Int32) : Nat := r.toNatClampNeg
theorem sp_i0 : sp_i 0 = 0 := by decide
theorem sp_i1 : sp_i 1 = 1 := by decide
theorem sp_i2 : sp_i 2 = 2 := by decide
theorem sp_in' {n : Nat} (h : n < 2147483648) : sp_i (nI n) = n := z_cla h
abbrev sp_two (r : Int32) : Prop := r = 0 ∨ r = 1
abbrev sp_thr (r : Int32) : Prop := r = 0 ∨ r = 1 ∨ r = 2
abbrev sp_bv (v : Int32) : Prop := v < -999 ∨ 999 < v
abbrev sp_bk (k : Int32) : Prop := k < 0 ∨ 19 < k
def sp_k23 (r : Int32) (P Q : Prop) [Decidable P] [Decidable Q] : Int32 := if sp_two r then (if P then 2 else if Q then 3 else 0) else 1
def sp_k21 (r : Int32) (P : Prop) [Decidable P] : Int32 := if sp_two r then (if P then 1 else 0) else 1
def sp_k2b (r g : Int32) : Int32 := if sp_two r ∧ sp_two g then 0 else 1
def sp_k2c (r g : Int32) (P : Prop) [Decidable P] : Int32 := if sp_two r ∧ sp_two g then (if P then 2 else 0) else 1
def sp_k3 (r : Int32) : Int32 := if sp_thr r then 0 else 1
def sp_k3b (r g : Int32) : Int32 := if sp_thr r ∧ sp_two g then 0 else 1
def sp_k33 (r g : Int32) : Int32 := if sp_thr r ∧ sp_thr g then 0 else 1
def sp_k32 (r : Int32) (P : Prop) [Decidable P] : Int32 := if sp_thr r then (if P then 2 else 0) else 1
theorem sp_k2_0 {r : Int32} (h : sp_two r) : q_k2 r = 0 := if_pos h
theorem sp_k2_1 {r : Int32} (h : ¬ sp_two r) : q_k2 r = 1 := if_neg h
theorem sp_k22_0 {r : Int32} {P : Prop} [Decidable P] (h : sp_two r) (hP : ¬ P) : q_k22 r P = 0 := q_k2c h hP
theorem sp_k22_1 {r : Int32} {P : Prop} [Decidable P] (h : ¬ sp_two r) : q_k22 r P = 1 := if_neg h
theorem sp_k22_2 {r : Int32} {P : Prop} [Decidable P] (h : sp_two r) (hP : P) : q_k22 r P = 2 := q_k2b h hP
theorem sp_k23_0 {r : Int32} {P Q : Prop} [Decidable P] [Decidable Q] (h : sp_two r) (hP : ¬ P) (hQ : ¬ Q) : sp_k23 r P Q = 0 := (if_pos h).trans ((if_neg hP).trans (if_neg hQ))
theorem sp_k23_1 {r : Int32} {P Q : Prop} [Decidable P] [Decidable Q] (h : ¬ sp_two r) : sp_k23 r P Q = 1 := if_neg h
theorem sp_k23_2 {r : Int32} {P Q : Prop} [Decidable P] [Decidable Q] (h : sp_two r) (hP : P) : sp_k23 r P Q = 2 := (if_pos h).trans (if_pos hP)
theorem sp_k23_3 {r : Int32} {P Q : Prop} [Decidable P] [Decidable Q] (h : sp_two r) (hP : ¬ P) (hQ : Q) : sp_k23 r P Q = 3 := (if_pos h).trans ((if_neg hP).trans (if_pos hQ))
theorem sp_k21_0 {r : Int32} {P : Prop} [Decidable P] (h : sp_two r) (hP : ¬ P) : sp_k21 r P = 0 := (if_pos h).trans (if_neg hP)
theorem sp_k21_1 {r : Int32} {P : Prop} [Decidable P] (h : ¬ sp_two r) : sp_k21 r P = 1 := if_neg h
theorem sp_k21_2 {r : Int32} {P : Prop} [Decidable P] (h : sp_two r) (hP : P) : sp_k21 r P = 1 := (if_pos h).trans (if_pos hP)
theorem sp_k2b_0 {r g : Int32} (h : sp_two r) (h2 : sp_two g) : sp_k2b r g = 0 := if_pos ⟨h, h2⟩
theorem sp_k2b_1 {r g : Int32} (h : ¬ sp_two r) : sp_k2b r g = 1 := if_neg (fun z => h z.1)
theorem sp_k2b_1' {r g : Int32} (h : ¬ sp_two g) : sp_k2b r g = 1 := if_neg (fun z => h z.2)
theorem sp_k2c_0 {r g : Int32} {P : Prop} [Decidable P] (h : sp_two r) (h2 : sp_two g) (hP : ¬ P) : sp_k2c r g P = 0 := (if_pos ⟨h, h2⟩).trans (if_neg hP)
theorem sp_k2c_1 {r g : Int32} {P : Prop} [Decidable P] (h : ¬ sp_two r) : sp_k2c r g P = 1 := if_neg (fun z => h z.1)
theorem sp_k2c_1' {r g : Int32} {P : Prop} [Decidable P] (h : ¬ sp_two g) : sp_k2c r g P = 1 := if_neg (fun z => h z.2)
theorem sp_k2c_2 {r g : Int32} {P : Prop} [Decidable P] (h : sp_two r) (h2 : sp_two g) (hP : P) : sp_k2c r g P = 2 := (if_pos ⟨h, h2⟩).trans (if_pos hP)
theorem sp_k3_0 {r : Int32} (h : sp_thr r) : sp_k3 r = 0 := if_pos h
theorem sp_k3_1 {r : Int32} (h : ¬ sp_thr r) : sp_k3 r = 1 := if_neg h
theorem sp_k3b_0 {r g : Int32} (h : sp_thr r) (h2 : sp_two g) : sp_k3b r g = 0 := if_pos ⟨h, h2⟩
theorem sp_k3b_1 {r g : Int32} (h : ¬ sp_thr r) : sp_k3b r g = 1 := if_neg (fun z => h z.1)
theorem sp_k3b_1' {r g : Int32} (h : ¬ sp_two g) : sp_k3b r g = 1 := if_neg (fun z => h z.2)
theorem sp_k33_0 {r g : Int32} (h : sp_thr r) (h2 : sp_thr g) : sp_k33 r g = 0 := if_pos ⟨h, h2⟩
theorem sp_k33_1 {r g : Int32} (h : ¬ sp_thr r) : sp_k33 r g = 1 := if_neg (fun z => h z.1)
theorem sp_k33_1' {r g : Int32} (h : ¬ sp_thr g) : sp_k33 r g = 1 := if_neg (fun z => h z.2)
theorem sp_k32_0 {r : Int32} {P : Prop} [Decidable P] (h : sp_thr r) (hP : ¬ P) : sp_k32 r P = 0 := (if_pos h).trans (if_neg hP)
theorem sp_k32_1 {r : Int32} {P : Prop} [Decidable P] (h : ¬ sp_thr r) : sp_k32 r P = 1 := if_neg h
theorem sp_k32_2 {r : Int32} {P : Prop} [Decidable P] (h : sp_thr r) (hP : P) : sp_k32 r P = 2 := (if_pos h).trans (if_pos hP)
theorem sp_nt {x : Int32} {m : Nat} {b : Int32} (hb : b = nI m) (hm : m < 2147483647) (h : ¬ (x < 0 ∨ b < x)) : ∃ i, i ≤ m ∧ x = nI i := by
  obtain ⟨i, hi, e⟩ := z_nat (a := 0) rfl hb (by omega) (q_nor h)
  exact ⟨i, by omega, e⟩
theorem sp_nt1 {x : Int32} {m : Nat} {b : Int32} (hb : b = nI m) (hm : m < 2147483647) (h : ¬ (x < 1 ∨ b < x)) : ∃ i, 1 ≤ i ∧ i ≤ m ∧ x = nI i := by
  obtain ⟨i, h1, hi, e⟩ := z_nat1 hb (by omega) (q_nor h)
  exact ⟨i, h1, by omega, e⟩
theorem sp_vl {x : Int32} (h : ¬ sp_bv x) : z_vl x := q_nor h
def sp_srt (t : Nat) : Bool := Nat.beq t 2
def sp_an (o : Option Nat) : Int32 := (o.map nI).getD (-9)
def sp_ab (o : Option Bool) : Int32 := (o.map z_bi).getD (-9)
def sp_hr (S : sp_S) (i g a : Nat) : Option Nat × (Nat → Int32) × sp_H := sp_ho (sp_bps (z_bp (sp_C S i) 0) 2 a) (sp_E S g) 0 ((sp_R S i).drop a)
def sp_hrS (S : sp_S) (i g a : Nat) : sp_S := sp_nn (sp_uE (sp_uC S i (sp_hr S i g a).2.1) g (sp_hr S i g a).2.2) (sp_hr S i g a).1
def sp_sft (S : sp_S) (i : Nat) (t n : Int32) : Option Bool × (Nat → Int32) × List Int32 := sp_ri (sp_F S i) t n (z_bp (sp_C S i) 0) [] false (sp_R S i)
def sp_sftS (S : sp_S) (i : Nat) (t n : Int32) : sp_S := sp_nn (sp_uR (sp_uC S i (sp_sft S i t n).2.1) i (sp_sft S i t n).2.2) (sp_sft S i t n).1
def sp_chg (S : sp_S) (i : Nat) (r n : Int32) : Bool × (Nat → Int32) × List Int32 := sp_ra (sp_F S i) r n (z_bp (sp_C S i) 0) [] (sp_R S i)
def sp_chgS (S : sp_S) (i : Nat) (r n : Int32) : sp_S := sp_bn (sp_uR (sp_uC S i (sp_chg S i r n).2.1) i (sp_chg S i r n).2.2) (sp_chg S i r n).1
def sp_tc (S : sp_S) (t : Nat) (c : Nat → Int32) : sp_S := cond (Nat.beq t 0) (sp_uC S 2 c) S
def sp_tb (S : sp_S) (t : Nat) (o : sp_O) : sp_S := sp_nn (sp_tc (sp_uT S t o.2.1) t o.2.2) o.1
def sp_htb (S : sp_S) (t g : Nat) : Option Nat × (Nat → Int32) × sp_H := sp_ho (z_bp (sp_C S 2) 0) (sp_E S g) 0 (sp_prs (sp_T S t))
def sp_htbS (S : sp_S) (t g : Nat) : sp_S := sp_nn (sp_uE (sp_tc S t (sp_htb S t g).2.1) g (sp_htb S t g).2.2) (sp_htb S t g).1
def sp_ctb (S : sp_S) (t : Nat) (r n : Int32) : Bool × (Nat → Int32) × List (Nat × Int32) := sp_rt r n (z_bp (sp_C S 2) 0) [] (sp_T S t)
def sp_ctbS (S : sp_S) (t : Nat) (r n : Int32) : sp_S := sp_bn (sp_tc (sp_uT S t (sp_ctb S t r n).2.2) t (sp_ctb S t r n).2.1) (sp_ctb S t r n).1
def sp_mn (a b c : Int32) : Nat := (z_mny a b c).toNatClampNeg
abbrev sp_bsp (a b c : Int32) : Prop := sp_bv a ∨ sp_bv b ∨ (c < 1 ∨ 99 < c) ∨ (z_mny a b c < 0 ∨ 40 < z_mny a b c)
def sp_hsp (S : sp_S) (a b c : Int32) (d g : Nat) : Option Nat × (Nat → Int32) × sp_H := sp_ho (fun _ => 0) (sp_E S g) 0 (sp_spn a c d (sp_mn a b c - d))
def sp_hspS (S : sp_S) (a b c : Int32) (d g : Nat) : sp_S := sp_nn (sp_uE S g (sp_hsp S a b c d g).2.2) (sp_hsp S a b c d g).1
def sp_cs (S : sp_S) : Int32 := q_sm (sp_C S 2) 7 + q_sm (sp_C S 0) 7 + q_sm (sp_C S 1) 7
def sp_csS (S : sp_S) : sp_S := sp_uC (sp_uC (sp_uC S 2 (q_zr (sp_C S 2) 7)) 0 (q_zr (sp_C S 0) 7)) 1 (q_zr (sp_C S 1) 7)
def sp_fgt (h : sp_H) : sp_H := ((h.1.1, 0, 0, -1), [])
def sp_stp' (h : sp_H) (n : Int32) : sp_H := ((n, h.1.2), h.2)
def sp_hse (S : sp_S) (w : Int32) : Int32 := if w = 0 then nI (sp_R S 0).length + nI (sp_R S 1).length else if w = 1 then nI (sp_T S 0).length + nI (sp_T S 1).length + nI (sp_T S 2).length else if w = 2 then (sp_E S 0).1.2.1 + (sp_E S 1).1.2.1 else if w = 3 then S.1.1 else S.1.2
def sp_S0 : sp_S := ((0, 0), (fun _ => []), (fun _ => false), (fun _ _ => 0), (fun _ => []), (fun _ => ((-1000, 0, 0, -1), [])))
def sp_ok (S : sp_S) : Prop := (∀ i, i < 2 → (sp_R S i).length ≤ 12 ∧ ∀ v ∈ sp_R S i, z_vl v) ∧ (∀ t, t < 3 → sp_okT (sp_T S t)) ∧ sp_ri2 (sp_T S 2) ∧ ∀ g, g < 2 → (sp_E S g).2.length ≤ 10
theorem sp_bec_c {b : Bool} {T : List (Nat × Int32)} {c c2 : Nat → Int32} {k : Nat} {o : Option Int32} : (sp_bec b T c k o).1 = (sp_bec b T c2 k o).1 ∧ (sp_bec b T c k o).2.1 = (sp_bec b T c2 k o).2.1 := by
  cases o with
  | none => exact ⟨rfl, rfl⟩
  | some y =>
    unfold sp_bec
    by_cases h : y = -1000
    · simp only [if_pos h]
      by_cases h2 : sp_lk T k = -1000
      · simp only [if_pos h2]; exact ⟨trivial, trivial⟩
      · simp only [if_neg h2]; exact ⟨trivial, trivial⟩
    · simp only [if_neg h]; exact ⟨trivial, trivial⟩
theorem sp_cia_c {b : Bool} {T : List (Nat × Int32)} {c c2 : Nat → Int32} {k : Nat} {r n : Int32} : (sp_cia b T c k r n).1 = (sp_cia b T c2 k r n).1 ∧ (sp_cia b T c k r n).2.1 = (sp_cia b T c2 k r n).2.1 := by
  unfold sp_cia
  by_cases h : sp_lk T k = -1000
  · simp only [if_pos h]; exact sp_bec_c
  · simp only [if_neg h]; exact ⟨trivial, trivial⟩
theorem sp_cip_c {b : Bool} {T : List (Nat × Int32)} {c c2 : Nat → Int32} {k : Nat} {r n : Int32} : (sp_cip b T c k r n).1 = (sp_cip b T c2 k r n).1 ∧ (sp_cip b T c k r n).2.1 = (sp_cip b T c2 k r n).2.1 := by
  unfold sp_cip
  by_cases h : sp_lk T k = -1000
  · simp only [if_pos h]; exact ⟨trivial, trivial⟩
  · simp only [if_neg h]; exact sp_bec_c
theorem sp_mrg_c {b : Bool} {T : List (Nat × Int32)} {c c2 : Nat → Int32} {k : Nat} {v r : Int32} : (sp_mrg b T c k v r).1 = (sp_mrg b T c2 k v r).1 ∧ (sp_mrg b T c k v r).2.1 = (sp_mrg b T c2 k v r).2.1 := by
  unfold sp_mrg
  by_cases h : sp_lk T k = -1000
  · simp only [if_pos h]; exact ⟨trivial, trivial⟩
  · simp only [if_neg h]; exact sp_bec_c
theorem sp_bec_n {b : Bool} {T : List (Nat × Int32)} {c : Nat → Int32} {k : Nat} {o : Option Int32} (h : ∀ y, o = some y → ¬ y = -1001) : ∀ y, (sp_bec b T c k o).1 = some y → ¬ y = -1001 := by
  intro y hy
  cases o with
  | none => cases hy
  | some z =>
    have e : (sp_bec b T c k (some z)).1 = some z := by
      unfold sp_bec
      by_cases h1 : z = -1000
      · simp only [if_pos h1]
        by_cases h2 : sp_lk T k = -1000
        · simp only [if_pos h2]
        · simp only [if_neg h2]
      · simp only [if_neg h1]
    rw [e] at hy
    cases hy
    exact h _ rfl
theorem sp_lk_n {T : List (Nat × Int32)} {k : Nat} (h : sp_okT T) : ¬ sp_lk T k = -1001 := by
  rcases sp_lk_r (k := k) h with z | z
  · rw [z]; decide
  · exact q_vlo z
theorem sp_cmp_n {b : Bool} {T : List (Nat × Int32)} {c : Nat → Int32} {k : Nat} {r n : Int32} (h : sp_okT T) (hn : z_vl n) : ∀ y, (sp_cmp b T c k r n).1 = some y → ¬ y = -1001 := sp_bec_n (fun _ hy => q_rtm (q_d_vl h) hn hy)
theorem sp_cia_n {b : Bool} {T : List (Nat × Int32)} {c : Nat → Int32} {k : Nat} {r n : Int32} (h : sp_okT T) (hn : z_vl n) : ∀ y, (sp_cia b T c k r n).1 = some y → ¬ y = -1001 := by
  unfold sp_cia
  by_cases e : sp_lk T k = -1000
  · rw [if_pos e]; exact sp_bec_n (fun _ hy => q_rtm ⟨by decide, by decide⟩ hn hy)
  · rw [if_neg e]; intro y hy; cases hy; exact sp_lk_n h
theorem sp_cip_n {b : Bool} {T : List (Nat × Int32)} {c : Nat → Int32} {k : Nat} {r n : Int32} (h : sp_okT T) (hn : z_vl n) : ∀ y, (sp_cip b T c k r n).1 = some y → ¬ y = -1001 := by
  unfold sp_cip
  by_cases e : sp_lk T k = -1000
  · rw [if_pos e]; intro y hy; cases hy; decide
  · rw [if_neg e]; exact sp_bec_n (fun _ hy => q_rtm (sp_lk_vl h.2 (sp_memk h e)) hn hy)
theorem sp_mrg_n {b : Bool} {T : List (Nat × Int32)} {c : Nat → Int32} {k : Nat} {v r : Int32} (h : sp_okT T) (hv : z_vl v) : ∀ y, (sp_mrg b T c k v r).1 = some y → ¬ y = -1001 := by
  unfold sp_mrg
  by_cases e : sp_lk T k = -1000
  · rw [if_pos e]; intro y hy; cases hy; exact q_vlo hv
  · rw [if_neg e]; exact sp_bec_n (fun _ hy => q_rtm (sp_lk_vl h.2 (sp_memk h e)) hv hy)
theorem sp_thr_of {r : Int32} {n : Nat} (h : (r = 0 ∧ n = 10) ∨ (r = 1 ∧ n = 16) ∨ (r = 2 ∧ n = 21)) : sp_thr r := h.elim (fun z => Or.inl z.1) (fun z => z.elim (fun z => Or.inr (Or.inl z.1)) (fun z => Or.inr (Or.inr z.1)))
theorem sp_spn_len : ∀ {n : Nat} {a b : Int32} {k : Nat}, (sp_spn a b k n).length = n
  | 0, _, _, _ => rfl
  | n + 1, a, b, k => by rw [sp_spnS, List.length_cons, sp_spn_len]
theorem sp_a0 {a c : Int32} : a + nI 0 * c = a := by
  rw [show nI 0 = 0 from rfl, Int32.zero_mul, Int32.add_zero]
theorem sp_le40 {m : Int32} (h : m ≤ 40) : m.toNatClampNeg ≤ 40 := by
  have h1 := Int32.le_iff_toInt_le.mp h
  rw [show (40 : Int32).toInt = 40 from rfl] at h1
  show m.toInt.toNat ≤ 40
  omega
theorem sp_mn_e {a b c : Int32} (h : 0 ≤ z_mny a b c) : z_mny a b c = nI (sp_mn a b c) := by
  obtain ⟨i, hi, e⟩ := z_nat (k := z_mny a b c) (a := 0) (m := 2147483647) (b := 2147483647) rfl rfl (by omega) ⟨h, by
    rw [Int32.le_iff_toInt_le]
    have := Int32.toInt_lt (z_mny a b c)
    rw [show (2147483647 : Int32).toInt = 2147483647 from rfl]
    omega⟩
  unfold sp_mn
  rw [e, z_cla (by omega)]
theorem sp_hse4 {S : sp_S} {w : Int32} (h : w.toInt < 0 ∨ 3 < w.toInt) : sp_hse S w = S.1.2 := by
  unfold sp_hse
  rw [if_neg (by rintro rfl; revert h; decide), if_neg (by rintro rfl; revert h; decide), if_neg (by rintro rfl; revert h; decide), if_neg (by rintro rfl; revert h; decide)]
end ZSps
