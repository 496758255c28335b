section ZM0
section ZSps
abbrev sp_i (r : Int32) : Nat := r.toNatClampNeg
theorem sp_i0 : sp_i 0 = 0 := by decide
theorem sp_i1 : sp_i 1 = 1 := by decide
theorem sp_i2 : sp_i 2 = 2 := by decide
theorem sp_in' {n : Nat} (h : n < 2147483648) : sp_i (nI n) = n := z_cla h
abbrev sp_two (r : Int32) : Prop := r = 0 ∨ r = 1
abbrev sp_thr (r : Int32) : Prop := r = 0 ∨ r = 1 ∨ r = 2
abbrev sp_bv (v : Int32) : Prop := v < -999 ∨ 999 < v
abbrev sp_bk (k : Int32) : Prop := k < 0 ∨ 19 < k
def sp_k23 (r : Int32) (P Q : Prop) [Decidable P] [Decidable Q] : Int32 := if sp_two r then (if P then 2 else if Q then 3 else 0) else 1
def sp_k21 (r : Int32) (P : Prop) [Decidable P] : Int32 := if sp_two r then (if P then 1 else 0) else 1
def sp_k2b (r g : Int32) : Int32 := if sp_two r ∧ sp_two g then 0 else 1
def sp_k2c (r g : Int32) (P : Prop) [Decidable P] : Int32 := if sp_two r ∧ sp_two g then (if P then 2 else 0) else 1
def sp_k3 (r : Int32) : Int32 := if sp_thr r then 0 else 1
def sp_k3b (r g : Int32) : Int32 := if sp_thr r ∧ sp_two g then 0 else 1
def sp_k33 (r g : Int32) : Int32 := if sp_thr r ∧ sp_thr g then 0 else 1
def sp_k32 (r : Int32) (P : Prop) [Decidable P] : Int32 := if sp_thr r then (if P then 2 else 0) else 1
theorem sp_k2_0 {r : Int32} (h : sp_two r) : q_k2 r = 0 := if_pos h
theorem sp_k2_1 {r : Int32} (h : ¬ sp_two r) : q_k2 r = 1 := if_neg h
theorem sp_k22_0 {r : Int32} {P : Prop} [Decidable P] (h : sp_two r) (hP : ¬ P) : q_k22 r P = 0 := q_k2c h hP
theorem sp_k22_1 {r : Int32} {P : Prop} [Decidable P] (h : ¬ sp_two r) : q_k22 r P = 1 := if_neg h
theorem sp_k22_2 {r : Int32} {P : Prop} [Decidable P] (h : sp_two r) (hP : P) : q_k22 r P = 2 := q_k2b h hP
theorem sp_k23_0 {r : Int32} {P Q : Prop} [Decidable P] [Decidable Q] (h : sp_two r) (hP : ¬ P) (hQ : ¬ Q) : sp_k23 r P Q = 0 := (if_pos h).trans ((if_neg hP).trans (if_neg hQ))
theorem sp_k23_1 {r : Int32} {P Q : Prop} [Decidable P] [Decidable Q] (h : ¬ sp_two r) : sp_k23 r P Q = 1 := if_neg h
theorem sp_k23_2 {r : Int32} {P Q : Prop} [Decidable P] [Decidable Q] (h : sp_two r) (hP : P) : sp_k23 r P Q = 2 := (if_pos h).trans (if_pos hP)
theorem sp_k23_3 {r : Int32} {P Q : Prop} [Decidable P] [Decidable Q] (h : sp_two r) (hP : ¬ P) (hQ : Q) : sp_k23 r P Q = 3 := (if_pos h).trans ((if_neg hP).trans (if_pos hQ))
theorem sp_k21_0 {r : Int32} {P : Prop} [Decidable P] (h : sp_two r) (hP : ¬ P) : sp_k21 r P = 0 := (if_pos h).trans (if_neg hP)
theorem sp_k21_1 {r : Int32} {P : Prop} [Decidable P] (h : ¬ sp_two r) : sp_k21 r P = 1 := if_neg h
theorem sp_k21_2 {r : Int32} {P : Prop} [Decidable P] (h : sp_two r) (hP : P) : sp_k21 r P = 1 := (if_pos h).trans (if_pos hP)
theorem sp_k2b_0 {r g : Int32} (h : sp_two r) (h2 : sp_two g) : sp_k2b r g = 0 := if_pos ⟨h, h2⟩
theorem sp_k2b_1 {r g : Int32} (h : ¬ sp_two r) : sp_k2b r g = 1 := if_neg (fun z => h z.1)
theorem sp_k2b_1' {r g : Int32} (h : ¬ sp_two g) : sp_k2b r g = 1 := if_neg (fun z => h z.2)
theorem sp_k2c_0 {r g : Int32} {P : Prop} [Decidable P] (h : sp_two r) (h2 : sp_two g) (hP : ¬ P) : sp_k2c r g P = 0 := (if_pos ⟨h, h2⟩).trans (if_neg hP)
theorem sp_k2c_1 {r g : Int32} {P : Prop} [Decidable P] (h : ¬ sp_two r) : sp_k2c r g P = 1 := if_neg (fun z => h z.1)
theorem sp_k2c_1' {r g : Int32} {P : Prop} [Decidable P] (h : ¬ sp_two g) : sp_k2c r g P = 1 := if_neg (fun z => h z.2)
theorem sp_k2c_2 {r g : Int32} {P : Prop} [Decidable P] (h : sp_two r) (h2 : sp_two g) (hP : P) : sp_k2c r g P = 2 := (if_pos ⟨h, h2⟩).trans (if_pos hP)
theorem sp_k3_0 {r : Int32} (h : sp_thr r) : sp_k3 r = 0 := if_pos h
theorem sp_k3_1 {r : Int32} (h : ¬ sp_thr r) : sp_k3 r = 1 := if_neg h
theorem sp_k3b_0 {r g : Int32} (h : sp_thr r) (h2 : sp_two g) : sp_k3b r g = 0 := if_pos ⟨h, h2⟩
theorem sp_k3b_1 {r g : Int32} (h : ¬ sp_thr r) : sp_k3b r g = 1 := if_neg (fun z => h z.1)
theorem sp_k3b_1' {r g : Int32} (h : ¬ sp_two g) : sp_k3b r g = 1 := if_neg (fun z => h z.2)
theorem sp_k33_0 {r g : Int32} (h : sp_thr r) (h2 : sp_thr g) : sp_k33 r g = 0 := if_pos ⟨h, h2⟩
theorem sp_k33_1 {r g : Int32} (h : ¬ sp_thr r) : sp_k33 r g = 1 := if_neg (fun z => h z.1)
theorem sp_k33_1' {r g : Int32} (h : ¬ sp_thr g) : sp_k33 r g = 1 := if_neg (fun z => h z.2)
theorem sp_k32_0 {r : Int32} {P : Prop} [Decidable P] (h : sp_thr r) (hP : ¬ P) : sp_k32 r P = 0 := (if_pos h).trans (if_neg hP)
theorem sp_k32_1 {r : Int32} {P : Prop} [Decidable P] (h : ¬ sp_thr r) : sp_k32 r P = 1 := if_neg h
theorem sp_k32_2 {r : Int32} {P : Prop} [Decidable P] (h : sp_thr r) (hP : P) : sp_k32 r P = 2 := (if_pos h).trans (if_pos hP)
theorem sp_nt {x : Int32} {m : Nat} {b : Int32} (hb : b = nI m) (hm : m < 2147483647) (h : ¬ (x < 0 ∨ b < x)) : ∃ i, i ≤ m ∧ x = nI i := by
  obtain ⟨i, hi, e⟩ := z_nat (a := 0) rfl hb (by omega) (q_nor h)
  exact ⟨i, by omega, e⟩
theorem sp_nt1 {x : Int32} {m : Nat} {b : Int32} (hb : b = nI m) (hm : m < 2147483647) (h : ¬ (x < 1 ∨ b < x)) : ∃ i, 1 ≤ i ∧ i ≤ m ∧ x = nI i := by
  obtain ⟨i, h1, hi, e⟩ := z_nat1 hb (by omega) (q_nor h)
  exact ⟨i, h1, by omega, e⟩
theorem sp_vl {x : Int32} (h : ¬ sp_bv x) : z_vl x := q_nor h
def sp_srt (t : Nat) : Bool := Nat.beq t 2
def sp_an (o : Option Nat) : Int32 := (o.map nI).getD (-9)
def sp_ab (o : Option Bool) : Int32 := (o.map z_bi).getD (-9)
def sp_hr (S : sp_S) (i g a : Nat) : Option Nat × (Nat → Int32) × sp_H := sp_ho (sp_bps (z_bp (sp_C S i) 0) 2 a) (sp_E S g) 0 ((sp_R S i).drop a)
def sp_hrS (S : sp_S) (i g a : Nat) : sp_S := sp_nn (sp_uE (sp_uC S i (sp_hr S i g a).2.1) g (sp_hr S i g a).2.2) (sp_hr S i g a).1
def sp_sft (S : sp_S) (i : Nat) (t n : Int32) : Option Bool × (Nat → Int32) × List Int32 := sp_ri (sp_F S i) t n (z_bp (sp_C S i) 0) [] false (sp_R S i)
def sp_sftS (S : sp_S) (i : Nat) (t n : Int32) : sp_S := sp_nn (sp_uR (sp_uC S i (sp_sft S i t n).2.1) i (sp_sft S i t n).2.2) (sp_sft S i t n).1
def sp_chg (S : sp_S) (i : Nat) (r n : Int32) : Bool × (Nat → Int32) × List Int32 := sp_ra (sp_F S i) r n (z_bp (sp_C S i) 0) [] (sp_R S i)
def sp_chgS (S : sp_S) (i : Nat) (r n : Int32) : sp_S := sp_bn (sp_uR (sp_uC S i (sp_chg S i r n).2.1) i (sp_chg S i r n).2.2) (sp_chg S i r n).1
def sp_tc (S : sp_S) (t : Nat) (c : Nat → Int32) : sp_S := cond (Nat.beq t 0) (sp_uC S 2 c) S
def sp_tb (S : sp_S) (t : Nat) (o : sp_O) : sp_S := sp_nn (sp_tc (sp_uT S t o.2.1) t o.2.2) o.1
def sp_htb (S : sp_S) (t g : Nat) : Option Nat × (Nat → Int32) × sp_H := sp_ho (z_bp (sp_C S 2) 0) (sp_E S g) 0 (sp_prs (sp_T S t))
def sp_htbS (S : sp_S) (t g : Nat) : sp_S := sp_nn (sp_uE (sp_tc S t (sp_htb S t g).2.1) g (sp_htb S t g).2.2) (sp_htb S t g).1
def sp_ctb (S : sp_S) (t : Nat) (r n : Int32) : Bool × (Nat → Int32) × List (Nat × Int32) := sp_rt r n (z_bp (sp_C S 2) 0) [] (sp_T S t)
def sp_ctbS (S : sp_S) (t : Nat) (r n : Int32) : sp_S := sp_bn (sp_tc (sp_uT S t (sp_ctb S t r n).2.2) t (sp_ctb S t r n).2.1) (sp_ctb S t r n).1
def sp_mn (a b c : Int32) : Nat := (z_mny a b c).toNatClampNeg
abbrev sp_bsp (a b c : Int32) : Prop := sp_bv a ∨ sp_bv b ∨ (c < 1 ∨ 99 < c) ∨ (z_mny a b c < 0 ∨ 40 < z_mny a b c)
def sp_hsp (S : sp_S) (a b c : Int32) (d g : Nat) : Option Nat × (Nat → Int32) × sp_H := sp_ho (fun _ => 0) (sp_E S g) 0 (sp_spn a c d (sp_mn a b c - d))
def sp_hspS (S : sp_S) (a b c : Int32) (d g : Nat) : sp_S := sp_nn (sp_uE S g (sp_hsp S a b c d g).2.2) (sp_hsp S a b c d g).1
def sp_cs (S : sp_S) : Int32 := q_sm (sp_C S 2) 7 + q_sm (sp_C S 0) 7 + q_sm (sp_C S 1) 7
def sp_csS (S : sp_S) : sp_S := sp_uC (sp_uC (sp_uC S 2 (q_zr (sp_C S 2) 7)) 0 (q_zr (sp_C S 0) 7)) 1 (q_zr (sp_C S 1) 7)
def sp_fgt (h : sp_H) : sp_H := ((h.1.1, 0, 0, -1), [])
def sp_stp' (h : sp_H) (n : Int32) : sp_H := ((n, h.1.2), h.2)
def sp_hse (S : sp_S) (w : Int32) : Int32 := if w = 0 then nI (sp_R S 0).length + nI (sp_R S 1).length else if w = 1 then nI (sp_T S 0).length + nI (sp_T S 1).length + nI (sp_T S 2).length else if w = 2 then (sp_E S 0).1.2.1 + (sp_E S 1).1.2.1 else if w = 3 then S.1.1 else S.1.2
def sp_S0 : sp_S := ((0, 0), (fun _ => []), (fun _ => false), (fun _ _ => 0), (fun _ => []), (fun _ => ((-1000, 0, 0, -1), [])))
def sp_ok (S : sp_S) : Prop := (∀ i, i < 2 → (sp_R S i).length ≤ 12 ∧ ∀ v ∈ sp_R S i, z_vl v) ∧ (∀ t, t < 3 → sp_okT (sp_T S t)) ∧ sp_ri2 (sp_T S 2) ∧ ∀ g, g < 2 → (sp_E S g).2.length ≤ 10
theorem sp_bec_c {b : Bool} {T : List (Nat × Int32)} {c c2 : Nat → Int32} {k : Nat} {o : Option Int32} : (sp_bec b T c k o).1 = (sp_bec b T c2 k o).1 ∧ (sp_bec b T c k o).2.1 = (sp_bec b T c2 k o).2.1 := by
  cases o with
  | none => exact ⟨rfl, rfl⟩
  | some y =>
    unfold sp_bec
    by_cases h : y = -1000
    · simp only [if_pos h]
      by_cases h2 : sp_lk T k = -1000
      · simp only [if_pos h2]; exact ⟨trivial, trivial⟩
      · simp only [if_neg h2]; exact ⟨trivial, trivial⟩
    · simp only [if_neg h]; exact ⟨trivial, trivial⟩
theorem sp_cia_c {b : Bool} {T : List (Nat × Int32)} {c c2 : Nat → Int32} {k : Nat} {r n : Int32} : (sp_cia b T c k r n).1 = (sp_cia b T c2 k r n).1 ∧ (sp_cia b T c k r n).2.1 = (sp_cia b T c2 k r n).2.1 := by
  unfold sp_cia
  by_cases h : sp_lk T k = -1000
  · simp only [if_pos h]; exact sp_bec_c
  · simp only [if_neg h]; exact ⟨trivial, trivial⟩
theorem sp_cip_c {b : Bool} {T : List (Nat × Int32)} {c c2 : Nat → Int32} {k : Nat} {r n : Int32} : (sp_cip b T c k r n).1 = (sp_cip b T c2 k r n).1 ∧ (sp_cip b T c k r n).2.1 = (sp_cip b T c2 k r n).2.1 := by
  unfold sp_cip
  by_cases h : sp_lk T k = -1000
  · simp only [if_pos h]; exact ⟨trivial, trivial⟩
  · simp only [if_neg h]; exact sp_bec_c
theorem sp_mrg_c {b : Bool} {T : List (Nat × Int32)} {c c2 : Nat → Int32} {k : Nat} {v r : Int32} : (sp_mrg b T c k v r).1 = (sp_mrg b T c2 k v r).1 ∧ (sp_mrg b T c k v r).2.1 = (sp_mrg b T c2 k v r).2.1 := by
  unfold sp_mrg
  by_cases h : sp_lk T k = -1000
  · simp only [if_pos h]; exact ⟨trivial, trivial⟩
  · simp only [if_neg h]; exact sp_bec_c
theorem sp_bec_n {b : Bool} {T : List (Nat × Int32)} {c : Nat → Int32} {k : Nat} {o : Option Int32} (h : ∀ y, o = some y → ¬ y = -1001) : ∀ y, (sp_bec b T c k o).1 = some y → ¬ y = -1001 := by
  intro y hy
  cases o with
  | none => cases hy
  | some z =>
    have e : (sp_bec b T c k (some z)).1 = some z := by
      unfold sp_bec
      by_cases h1 : z = -1000
      · simp only [if_pos h1]
        by_cases h2 : sp_lk T k = -1000
        · simp only [if_pos h2]
        · simp only [if_neg h2]
      · simp only [if_neg h1]
    rw [e] at hy
    cases hy
    exact h _ rfl
theorem sp_lk_n {T : List (Nat × Int32)} {k : Nat} (h : sp_okT T) : ¬ sp_lk T k = -1001 := by
  rcases sp_lk_r (k := k) h with z | z
  · rw [z]; decide
  · exact q_vlo z
theorem sp_cmp_n {b : Bool} {T : List (Nat × Int32)} {c : Nat → Int32} {k : Nat} {r n : Int32} (h : sp_okT T) (hn : z_vl n) : ∀ y, (sp_cmp b T c k r n).1 = some y → ¬ y = -1001 := sp_bec_n (fun _ hy => q_rtm (q_d_vl h) hn hy)
theorem sp_cia_n {b : Bool} {T : List (Nat × Int32)} {c : Nat → Int32} {k : Nat} {r n : Int32} (h : sp_okT T) (hn : z_vl n) : ∀ y, (sp_cia b T c k r n).1 = some y → ¬ y = -1001 := by
  unfold sp_cia
  by_cases e : sp_lk T k = -1000
  · rw [if_pos e]; exact sp_bec_n (fun _ hy => q_rtm ⟨by decide, by decide⟩ hn hy)
  · rw [if_neg e]; intro y hy; cases hy; exact sp_lk_n h
theorem sp_cip_n {b : Bool} {T : List (Nat × Int32)} {c : Nat → Int32} {k : Nat} {r n : Int32} (h : sp_okT T) (hn : z_vl n) : ∀ y, (sp_cip b T c k r n).1 = some y → ¬ y = -1001 := by
  unfold sp_cip
  by_cases e : sp_lk T k = -1000
  · rw [if_pos e]; intro y hy; cases hy; decide
  · rw [if_neg e]; exact sp_bec_n (fun _ hy => q_rtm (sp_lk_vl h.2 (sp_memk h e)) hn hy)
theorem sp_mrg_n {b : Bool} {T : List (Nat × Int32)} {c : Nat → Int32} {k : Nat} {v r : Int32} (h : sp_okT T) (hv : z_vl v) : ∀ y, (sp_mrg b T c k v r).1 = some y → ¬ y = -1001 := by
  unfold sp_mrg
  by_cases e : sp_lk T k = -1000
  · rw [if_pos e]; intro y hy; cases hy; exact q_vlo hv
  · rw [if_neg e]; exact sp_bec_n (fun _ hy => q_rtm (sp_lk_vl h.2 (sp_memk h e)) hv hy)
theorem sp_thr_of {r : Int32} {n : Nat} (h : (r = 0 ∧ n = 10) ∨ (r = 1 ∧ n = 16) ∨ (r = 2 ∧ n = 21)) : sp_thr r := h.elim (fun z => Or.inl z.1) (fun z => z.elim (fun z => Or.inr (Or.inl z.1)) (fun z => Or.inr (Or.inr z.1)))
theorem sp_spn_len : ∀ {n : Nat} {a b : Int32} {k : Nat}, (sp_spn a b k n).length = n
  | 0, _, _, _ => rfl
  | n + 1, a, b, k => by rw [sp_spnS, List.length_cons, sp_spn_len]
theorem sp_a0 {a c : Int32} : a + nI 0 * c = a := by
  rw [show nI 0 = 0 from rfl, Int32.zero_mul, Int32.add_zero]
theorem sp_le40 {m : Int32} (h : m ≤ 40) : m.toNatClampNeg ≤ 40 := by
  have h1 := Int32.le_iff_toInt_le.mp h
  rw [show (40 : Int32).toInt = 40 from rfl] at h1
  show m.toInt.toNat ≤ 40
  omega
theorem sp_mn_e {a b c : Int32} (h : 0 ≤ z_mny a b c) : z_mny a b c = nI (sp_mn a b c) := by
  obtain ⟨i, hi, e⟩ := z_nat (k := z_mny a b c) (a := 0) (m := 2147483647) (b := 2147483647) rfl rfl (by omega) ⟨h, by
    rw [Int32.le_iff_toInt_le]
    have := Int32.toInt_lt (z_mny a b c)
    rw [show (2147483647 : Int32).toInt = 2147483647 from rfl]
    omega⟩
  unfold sp_mn
  rw [e, z_cla (by omega)]
theorem sp_hse4 {S : sp_S} {w : Int32} (h : w.toInt < 0 ∨ 3 < w.toInt) : sp_hse S w = S.1.2 := by
  unfold sp_hse
  rw [if_neg (by rintro rfl; revert h; decide), if_neg (by rintro rfl; revert h; decide), if_neg (by rintro rfl; revert h; decide), if_neg (by rintro rfl; revert h; decide)]
end ZSps
end ZM0
section ZM1
section ZCwS
def sp_CW (S : sp_S) (L : List z_E) : Prop := ∃ (fa : Nat → Int32) (fb : Nat → Int32) (mt : Int32) (ft : Nat → Int32) (ct : Nat → Int32) (f0 : Nat → Int32) (g0 : Nat → Int32) (f1 : Nat → Int32) (g1 : Nat → Int32) (c1 : Nat → Int32) (f2 : Nat → Int32) (g2 : Nat → Int32) (c2 : Nat → Int32) (f3 : Nat → Int32) (g3 : Nat → Int32) (c3 : Nat → Int32) (m3 : Int32) (f4 : Nat → Int32) (g4 : Nat → Int32) (c4 : Nat → Int32) (m4 : Int32) (f5 : Nat → Int32) (g5 : Nat → Int32) (c5 : Nat → Int32) (m5 : Int32) (ef0 : Nat → Int32) (ef1 : Nat → Int32), z_row 12 (nI (sp_R S 0).length) fa (sp_R S 0) ∧ z_row 12 (nI (sp_R S 1).length) fb (sp_R S 1) ∧ z_tba f0 g0 (sp_T S 0) ∧ z_tba f1 g1 (sp_T S 1) ∧ z_tba f2 g2 (sp_T S 2) ∧ z_row 10 (nI (sp_E S 0).2.length) ef0 (sp_E S 0).2 ∧ z_row 10 (nI (sp_E S 1).2.length) ef1 (sp_E S 1).2 ∧ z_m20 m3 ∧ z_m20 m4 ∧ z_m20 m5 ∧ L = (z_cw S.1.1 S.1.2 (nI (sp_R S 0).length) (sp_F S 0) fa (sp_C S 0) (nI (sp_R S 1).length) (sp_F S 1) fb (sp_C S 1) mt false ft ct f0 g0 (sp_C S 2) (nI (sp_T S 0).length) 0 f1 g1 c1 (nI (sp_T S 1).length) 0 f2 g2 c2 (nI (sp_T S 2).length) 1 f3 g3 c3 m3 0 f4 g4 c4 m4 0 f5 g5 c5 m5 1 (nI (sp_E S 0).2.length) (sp_E S 0).1.2.1 (sp_E S 0).1.2.2.1 (sp_E S 0).1.2.2.2 (sp_E S 0).1.1 ef0 (nI (sp_E S 1).2.length) (sp_E S 1).1.2.1 (sp_E S 1).1.2.2.1 (sp_E S 1).1.2.2.2 (sp_E S 1).1.1 ef1 [])
theorem sp_CWc {S : sp_S} {L : List z_E} (h : sp_CW S L) : L.length = 51 ∧ L.map (z_re (List.range 51)) = L := by
  obtain ⟨fa, fb, mt, ft, ct, f0, g0, f1, g1, c1, f2, g2, c2, f3, g3, c3, m3, f4, g4, c4, m4, f5, g5, c5, m5, ef0, ef1, -, -, -, -, -, -, -, -, -, -, rfl⟩ := h
  exact ⟨rfl, z_cwR⟩
set_option maxRecDepth 100000 in
theorem sp_CWe {S : sp_S} {L : List z_E} {fa : Nat → Int32} {fb : Nat → Int32} {mt : Int32} {ft : Nat → Int32} {ct : Nat → Int32} {f0 : Nat → Int32} {g0 : Nat → Int32} {f1 : Nat → Int32} {g1 : Nat → Int32} {c1 : Nat → Int32} {f2 : Nat → Int32} {g2 : Nat → Int32} {c2 : Nat → Int32} {f3 : Nat → Int32} {g3 : Nat → Int32} {c3 : Nat → Int32} {m3 : Int32} {f4 : Nat → Int32} {g4 : Nat → Int32} {c4 : Nat → Int32} {m4 : Int32} {f5 : Nat → Int32} {g5 : Nat → Int32} {c5 : Nat → Int32} {m5 : Int32} {ef0 : Nat → Int32} {ef1 : Nat → Int32} (hra : z_row 12 (nI (sp_R S 0).length) fa (sp_R S 0)) (hrb : z_row 12 (nI (sp_R S 1).length) fb (sp_R S 1)) (ht0 : z_tba f0 g0 (sp_T S 0)) (ht1 : z_tba f1 g1 (sp_T S 1)) (ht2 : z_tba f2 g2 (sp_T S 2)) (he0 : z_row 10 (nI (sp_E S 0).2.length) ef0 (sp_E S 0).2) (he1 : z_row 10 (nI (sp_E S 1).2.length) ef1 (sp_E S 1).2) (hzm3 : z_m20 m3) (hzm4 : z_m20 m4) (hzm5 : z_m20 m5) (e : L = (z_cw S.1.1 S.1.2 (nI (sp_R S 0).length) (sp_F S 0) fa (sp_C S 0) (nI (sp_R S 1).length) (sp_F S 1) fb (sp_C S 1) mt false ft ct f0 g0 (sp_C S 2) (nI (sp_T S 0).length) 0 f1 g1 c1 (nI (sp_T S 1).length) 0 f2 g2 c2 (nI (sp_T S 2).length) 1 f3 g3 c3 m3 0 f4 g4 c4 m4 0 f5 g5 c5 m5 1 (nI (sp_E S 0).2.length) (sp_E S 0).1.2.1 (sp_E S 0).1.2.2.1 (sp_E S 0).1.2.2.2 (sp_E S 0).1.1 ef0 (nI (sp_E S 1).2.length) (sp_E S 1).1.2.1 (sp_E S 1).1.2.2.1 (sp_E S 1).1.2.2.2 (sp_E S 1).1.1 ef1 [])) : sp_CW S L := ⟨fa, fb, mt, ft, ct, f0, g0, f1, g1, c1, f2, g2, c2, f3, g3, c3, m3, f4, g4, c4, m4, f5, g5, c5, m5, ef0, ef1, hra, hrb, ht0, ht1, ht2, he0, he1, hzm3, hzm4, hzm5, e⟩
section ZCel
variable {G : z_G} {l : Launch}
set_option maxRecDepth 100000 in
theorem sp_elX {S : sp_S} {L : List z_E} {y : z_M} {rk mc ms : Nat} {av : List Value} {Q : Option Value → List z_E → Prop} {X : String → Prop} (hW : sp_CW S L) (h : ∀ (fa : Nat → Int32) (fb : Nat → Int32) (mt : Int32) (ft : Nat → Int32) (ct : Nat → Int32) (f0 : Nat → Int32) (g0 : Nat → Int32) (f1 : Nat → Int32) (g1 : Nat → Int32) (c1 : Nat → Int32) (f2 : Nat → Int32) (g2 : Nat → Int32) (c2 : Nat → Int32) (f3 : Nat → Int32) (g3 : Nat → Int32) (c3 : Nat → Int32) (m3 : Int32) (f4 : Nat → Int32) (g4 : Nat → Int32) (c4 : Nat → Int32) (m4 : Int32) (f5 : Nat → Int32) (g5 : Nat → Int32) (c5 : Nat → Int32) (m5 : Int32) (ef0 : Nat → Int32) (ef1 : Nat → Int32), (z_row 12 (nI (sp_R S 0).length) fa (sp_R S 0)) → (z_row 12 (nI (sp_R S 1).length) fb (sp_R S 1)) → (z_tba f0 g0 (sp_T S 0)) → (z_tba f1 g1 (sp_T S 1)) → (z_tba f2 g2 (sp_T S 2)) → (z_row 10 (nI (sp_E S 0).2.length) ef0 (sp_E S 0).2) → (z_row 10 (nI (sp_E S 1).2.length) ef1 (sp_E S 1).2) → (z_m20 m3) → (z_m20 m4) → (z_m20 m5) → z_CX G l y rk mc ms (z_cw S.1.1 S.1.2 (nI (sp_R S 0).length) (sp_F S 0) fa (sp_C S 0) (nI (sp_R S 1).length) (sp_F S 1) fb (sp_C S 1) mt false ft ct f0 g0 (sp_C S 2) (nI (sp_T S 0).length) 0 f1 g1 c1 (nI (sp_T S 1).length) 0 f2 g2 c2 (nI (sp_T S 2).length) 1 f3 g3 c3 m3 0 f4 g4 c4 m4 0 f5 g5 c5 m5 1 (nI (sp_E S 0).2.length) (sp_E S 0).1.2.1 (sp_E S 0).1.2.2.1 (sp_E S 0).1.2.2.2 (sp_E S 0).1.1 ef0 (nI (sp_E S 1).2.length) (sp_E S 1).1.2.1 (sp_E S 1).1.2.2.1 (sp_E S 1).1.2.2.2 (sp_E S 1).1.1 ef1 []) av Q (fun E L9 => X E ∧ L9 = (z_cw S.1.1 S.1.2 (nI (sp_R S 0).length) (sp_F S 0) fa (sp_C S 0) (nI (sp_R S 1).length) (sp_F S 1) fb (sp_C S 1) mt false ft ct f0 g0 (sp_C S 2) (nI (sp_T S 0).length) 0 f1 g1 c1 (nI (sp_T S 1).length) 0 f2 g2 c2 (nI (sp_T S 2).length) 1 f3 g3 c3 m3 0 f4 g4 c4 m4 0 f5 g5 c5 m5 1 (nI (sp_E S 0).2.length) (sp_E S 0).1.2.1 (sp_E S 0).1.2.2.1 (sp_E S 0).1.2.2.2 (sp_E S 0).1.1 ef0 (nI (sp_E S 1).2.length) (sp_E S 1).1.2.1 (sp_E S 1).1.2.2.1 (sp_E S 1).1.2.2.2 (sp_E S 1).1.1 ef1 []))) : z_CX G l y rk mc ms L av Q (fun E L9 => X E ∧ L9 = L) := by
  obtain ⟨fa, fb, mt, ft, ct, f0, g0, f1, g1, c1, f2, g2, c2, f3, g3, c3, m3, f4, g4, c4, m4, f5, g5, c5, m5, ef0, ef1, hra, hrb, ht0, ht1, ht2, he0, he1, hzm3, hzm4, hzm5, rfl⟩ := hW
  exact h fa fb mt ft ct f0 g0 f1 g1 c1 f2 g2 c2 f3 g3 c3 m3 f4 g4 c4 m4 f5 g5 c5 m5 ef0 ef1 hra hrb ht0 ht1 ht2 he0 he1 hzm3 hzm4 hzm5
set_option maxRecDepth 100000 in
theorem sp_elF {S : sp_S} {L : List z_E} {y : z_M} {rk mc ms : Nat} {av : List Value} {Q : Option Value → List z_E → Prop} (hW : sp_CW S L) (h : ∀ (fa : Nat → Int32) (fb : Nat → Int32) (mt : Int32) (ft : Nat → Int32) (ct : Nat → Int32) (f0 : Nat → Int32) (g0 : Nat → Int32) (f1 : Nat → Int32) (g1 : Nat → Int32) (c1 : Nat → Int32) (f2 : Nat → Int32) (g2 : Nat → Int32) (c2 : Nat → Int32) (f3 : Nat → Int32) (g3 : Nat → Int32) (c3 : Nat → Int32) (m3 : Int32) (f4 : Nat → Int32) (g4 : Nat → Int32) (c4 : Nat → Int32) (m4 : Int32) (f5 : Nat → Int32) (g5 : Nat → Int32) (c5 : Nat → Int32) (m5 : Int32) (ef0 : Nat → Int32) (ef1 : Nat → Int32), (z_row 12 (nI (sp_R S 0).length) fa (sp_R S 0)) → (z_row 12 (nI (sp_R S 1).length) fb (sp_R S 1)) → (z_tba f0 g0 (sp_T S 0)) → (z_tba f1 g1 (sp_T S 1)) → (z_tba f2 g2 (sp_T S 2)) → (z_row 10 (nI (sp_E S 0).2.length) ef0 (sp_E S 0).2) → (z_row 10 (nI (sp_E S 1).2.length) ef1 (sp_E S 1).2) → (z_m20 m3) → (z_m20 m4) → (z_m20 m5) → z_CF G l y rk mc ms (z_cw S.1.1 S.1.2 (nI (sp_R S 0).length) (sp_F S 0) fa (sp_C S 0) (nI (sp_R S 1).length) (sp_F S 1) fb (sp_C S 1) mt false ft ct f0 g0 (sp_C S 2) (nI (sp_T S 0).length) 0 f1 g1 c1 (nI (sp_T S 1).length) 0 f2 g2 c2 (nI (sp_T S 2).length) 1 f3 g3 c3 m3 0 f4 g4 c4 m4 0 f5 g5 c5 m5 1 (nI (sp_E S 0).2.length) (sp_E S 0).1.2.1 (sp_E S 0).1.2.2.1 (sp_E S 0).1.2.2.2 (sp_E S 0).1.1 ef0 (nI (sp_E S 1).2.length) (sp_E S 1).1.2.1 (sp_E S 1).1.2.2.1 (sp_E S 1).1.2.2.2 (sp_E S 1).1.1 ef1 []) av Q) : z_CF G l y rk mc ms L av Q := by
  obtain ⟨fa, fb, mt, ft, ct, f0, g0, f1, g1, c1, f2, g2, c2, f3, g3, c3, m3, f4, g4, c4, m4, f5, g5, c5, m5, ef0, ef1, hra, hrb, ht0, ht1, ht2, he0, he1, hzm3, hzm4, hzm5, rfl⟩ := hW
  exact h fa fb mt ft ct f0 g0 f1 g1 c1 f2 g2 c2 f3 g3 c3 m3 f4 g4 c4 m4 f5 g5 c5 m5 ef0 ef1 hra hrb ht0 ht1 ht2 he0 he1 hzm3 hzm4 hzm5
end ZCel
end ZCwS
end ZM1
section ZM2
section ZCp
variable {G : z_G} {l : Launch}
set_option maxRecDepth 100000 in
set_option maxHeartbeats 8000000 in
theorem c_X8_tableFor_e (hl : l.stackTraces = false) (rf : Int32) (kn : Int32) (ma : Int32) (xa : Bool) (fa : Nat → Int32) (ca : Nat → Int32) (mb : Int32) (xb : Bool) (fb : Nat → Int32) (cb : Nat → Int32) (mt : Int32) (xt : Bool) (ft : Nat → Int32) (ct : Nat → Int32) (f0 : Nat → Int32) (g0 : Nat → Int32) (c0 : Nat → Int32) (m0 : Int32) (s0 : Int32) (f1 : Nat → Int32) (g1 : Nat → Int32) (c1 : Nat → Int32) (m1 : Int32) (s1 : Int32) (f2 : Nat → Int32) (g2 : Nat → Int32) (c2 : Nat → Int32) (m2 : Int32) (s2 : Int32) (f3 : Nat → Int32) (g3 : Nat → Int32) (c3 : Nat → Int32) (m3 : Int32) (s3 : Int32) (f4 : Nat → Int32) (g4 : Nat → Int32) (c4 : Nat → Int32) (m4 : Int32) (s4 : Int32) (f5 : Nat → Int32) (g5 : Nat → Int32) (c5 : Nat → Int32) (m5 : Int32) (s5 : Int32) (ek0 : Int32) (em0 : Int32) (es0 : Int32) (el0 : Int32) (b0 : Int32) (ef0 : Nat → Int32) (ek1 : Int32) (em1 : Int32) (es1 : Int32) (el1 : Int32) (b1 : Int32) (ef1 : Nat → Int32) (r : Int32)  : z_CX G l mX8_tableFor 10 1 6 (z_cw rf kn ma xa fa ca mb xb fb cb mt xt ft ct f0 g0 c0 m0 s0 f1 g1 c1 m1 s1 f2 g2 c2 m2 s2 f3 g3 c3 m3 s3 f4 g4 c4 m4 s4 f5 g5 c5 m5 s5 ek0 em0 es0 el0 b0 ef0 ek1 em1 es1 el1 b1 ef1 []) [.ref 0, .int r] (fun v L => ∃ n : Nat, v = some (.ref n) ∧ ((r = 0 ∧ n = 10) ∨ (r = 1 ∧ n = 16) ∨ (r = 2 ∧ n = 21)) ∧ L = (z_cw rf kn ma xa fa ca mb xb fb cb mt xt ft ct f0 g0 c0 m0 s0 f1 g1 c1 m1 s1 f2 g2 c2 m2 s2 f3 g3 c3 m3 s3 f4 g4 c4 m4 s4 f5 g5 c5 m5 s5 ek0 em0 es0 el0 b0 ef0 ek1 em1 es1 el1 b1 ef1 [])) (fun E L => (z_xI E ∧ ¬ sp_thr r) ∧ L = (z_cw rf kn ma xa fa ca mb xb fb cb mt xt ft ct f0 g0 c0 m0 s0 f1 g1 c1 m1 s1 f2 g2 c2 m2 s2 f3 g3 c3 m3 s3 f4 g4 c4 m4 s4 f5 g5 c5 m5 s5 ek0 em0 es0 el0 b0 ef0 ek1 em1 es1 el1 b1 ef1 [])) := by
  refine z_body hl (by decide) rfl (Nat.le_of_ble_eq_true rfl) ?_
  show z_J G l mX8_tableFor (z_SX 10 1 6 (z_cw rf kn ma xa fa ca mb xb fb cb mt xt ft ct f0 g0 c0 m0 s0 f1 g1 c1 m1 s1 f2 g2 c2 m2 s2 f3 g3 c3 m3 s3 f4 g4 c4 m4 s4 f5 g5 c5 m5 s5 ek0 em0 es0 el0 b0 ef0 ek1 em1 es1 el1 b1 ef1 []) (fun v L => ∃ n : Nat, v = some (.ref n) ∧ ((r = 0 ∧ n = 10) ∨ (r = 1 ∧ n = 16) ∨ (r = 2 ∧ n = 21)) ∧ L = (z_cw rf kn ma xa fa ca mb xb fb cb mt xt ft ct f0 g0 c0 m0 s0 f1 g1 c1 m1 s1 f2 g2 c2 m2 s2 f3 g3 c3 m3 s3 f4 g4 c4 m4 s4 f5 g5 c5 m5 s5 ek0 em0 es0 el0 b0 ef0 ek1 em1 es1 el1 b1 ef1 [])) (fun E L => (z_xI E ∧ ¬ sp_thr r) ∧ L = (z_cw rf kn ma xa fa ca mb xb fb cb mt xt ft ct f0 g0 c0 m0 s0 f1 g1 c1 m1 s1 f2 g2 c2 m2 s2 f3 g3 c3 m3 s3 f4 g4 c4 m4 s4 f5 g5 c5 m5 s5 ek0 em0 es0 el0 b0 ef0 ek1 em1 es1 el1 b1 ef1 []))) 0 [(0, _), (1, _)] [] _ 0 0
  refine j_iload_n dX8_tableFor_0 rfl ?_
  refine j_if_lt (tgt := 13) dX8_tableFor_1 (by decide) (fun c_1 => ?_) (fun c_1 => ?_)
  · exact j_throwSW (text := "there is no such table") rfl th_I (by decide +kernel) dX8_tableFor_13 dX8_tableFor_16 dX8_tableFor_17 dX8_tableFor_20 dX8_tableFor_23 (Nat.le_of_ble_eq_true rfl) (Nat.le_of_ble_eq_true rfl) ⟨rfl, rfl, ⟨rfl, by first | exact q_n3a c_1 | exact q_n3b c_10⟩, rfl⟩ (Nat.le_of_ble_eq_true rfl) (Nat.le_of_ble_eq_true rfl)
  · refine j_iload_n dX8_tableFor_4 rfl ?_
    refine j_aload_n dX8_tableFor_5 rfl rfl ?_
    refine j_getf dX8_tableFor_6 fX8_25 rfl rfl ?_
    refine j_alen dX8_tableFor_9 rfl rfl rfl ?_
    refine j_icmp_lt (tgt := 24) dX8_tableFor_10 (by decide) (fun c_10 => ?_) (fun c_10 => ?_)
    · rcases z_r3 c_1 c_10 with rfl | rfl | rfl
      · refine j_aload_n dX8_tableFor_24 rfl rfl ?_
        refine j_getf dX8_tableFor_25 fX8_25 rfl rfl ?_
        refine j_iload_n dX8_tableFor_28 rfl ?_
        refine j_aald (v := .ref 10) dX8_tableFor_29 rfl rfl rfl (vp_in_iff.mpr (by decide)) rfl ?_
        refine j_aret dX8_tableFor_30 rfl (Or.inl ⟨_, rfl⟩) rfl ?_ (Nat.le_of_ble_eq_true rfl) (Nat.le_of_ble_eq_true rfl)
        exact ⟨rfl, rfl, _, rfl, (by first | exact Or.inl ⟨rfl, rfl⟩ | exact Or.inr (Or.inl ⟨rfl, rfl⟩) | exact Or.inr (Or.inr ⟨rfl, rfl⟩)), rfl⟩
      · refine j_aload_n dX8_tableFor_24 rfl rfl ?_
        refine j_getf dX8_tableFor_25 fX8_25 rfl rfl ?_
        refine j_iload_n dX8_tableFor_28 rfl ?_
        refine j_aald (v := .ref 16) dX8_tableFor_29 rfl rfl rfl (vp_in_iff.mpr (by decide)) rfl ?_
        refine j_aret dX8_tableFor_30 rfl (Or.inl ⟨_, rfl⟩) rfl ?_ (Nat.le_of_ble_eq_true rfl) (Nat.le_of_ble_eq_true rfl)
        exact ⟨rfl, rfl, _, rfl, (by first | exact Or.inl ⟨rfl, rfl⟩ | exact Or.inr (Or.inl ⟨rfl, rfl⟩) | exact Or.inr (Or.inr ⟨rfl, rfl⟩)), rfl⟩
      · refine j_aload_n dX8_tableFor_24 rfl rfl ?_
        refine j_getf dX8_tableFor_25 fX8_25 rfl rfl ?_
        refine j_iload_n dX8_tableFor_28 rfl ?_
        refine j_aald (v := .ref 21) dX8_tableFor_29 rfl rfl rfl (vp_in_iff.mpr (by decide)) rfl ?_
        refine j_aret dX8_tableFor_30 rfl (Or.inl ⟨_, rfl⟩) rfl ?_ (Nat.le_of_ble_eq_true rfl) (Nat.le_of_ble_eq_true rfl)
        exact ⟨rfl, rfl, _, rfl, (by first | exact Or.inl ⟨rfl, rfl⟩ | exact Or.inr (Or.inl ⟨rfl, rfl⟩) | exact Or.inr (Or.inr ⟨rfl, rfl⟩)), rfl⟩
    · exact j_throwSW (text := "there is no such table") rfl th_I (by decide +kernel) dX8_tableFor_13 dX8_tableFor_16 dX8_tableFor_17 dX8_tableFor_20 dX8_tableFor_23 (Nat.le_of_ble_eq_true rfl) (Nat.le_of_ble_eq_true rfl) ⟨rfl, rfl, ⟨rfl, by first | exact q_n3a c_1 | exact q_n3b c_10⟩, rfl⟩ (Nat.le_of_ble_eq_true rfl) (Nat.le_of_ble_eq_true rfl)
set_option maxRecDepth 100000 in
set_option maxHeartbeats 8000000 in
theorem c_X8_tableFor__e (hl : l.stackTraces = false) (rf : Int32) (kn : Int32) (ma : Int32) (xa : Bool) (fa : Nat → Int32) (ca : Nat → Int32) (mb : Int32) (xb : Bool) (fb : Nat → Int32) (cb : Nat → Int32) (mt : Int32) (xt : Bool) (ft : Nat → Int32) (ct : Nat → Int32) (f0 : Nat → Int32) (g0 : Nat → Int32) (c0 : Nat → Int32) (m0 : Int32) (s0 : Int32) (f1 : Nat → Int32) (g1 : Nat → Int32) (c1 : Nat → Int32) (m1 : Int32) (s1 : Int32) (f2 : Nat → Int32) (g2 : Nat → Int32) (c2 : Nat → Int32) (m2 : Int32) (s2 : Int32) (f3 : Nat → Int32) (g3 : Nat → Int32) (c3 : Nat → Int32) (m3 : Int32) (s3 : Int32) (f4 : Nat → Int32) (g4 : Nat → Int32) (c4 : Nat → Int32) (m4 : Int32) (s4 : Int32) (f5 : Nat → Int32) (g5 : Nat → Int32) (c5 : Nat → Int32) (m5 : Int32) (s5 : Int32) (ek0 : Int32) (em0 : Int32) (es0 : Int32) (el0 : Int32) (b0 : Int32) (ef0 : Nat → Int32) (ek1 : Int32) (em1 : Int32) (es1 : Int32) (el1 : Int32) (b1 : Int32) (ef1 : Nat → Int32) (r k : Int32)  : z_CX G l mX8_tableFor_ 14 3 18 (z_cw rf kn ma xa fa ca mb xb fb cb mt xt ft ct f0 g0 c0 m0 s0 f1 g1 c1 m1 s1 f2 g2 c2 m2 s2 f3 g3 c3 m3 s3 f4 g4 c4 m4 s4 f5 g5 c5 m5 s5 ek0 em0 es0 el0 b0 ef0 ek1 em1 es1 el1 b1 ef1 []) [.ref 0, .int r, .int k] (fun v L => ∃ n : Nat, v = some (.ref n) ∧ ((r = 0 ∧ n = 10) ∨ (r = 1 ∧ n = 16) ∨ (r = 2 ∧ n = 21)) ∧ ¬ sp_bk k ∧ L = (z_cw rf kn ma xa fa ca mb xb fb cb mt xt ft ct f0 g0 c0 m0 s0 f1 g1 c1 m1 s1 f2 g2 c2 m2 s2 f3 g3 c3 m3 s3 f4 g4 c4 m4 s4 f5 g5 c5 m5 s5 ek0 em0 es0 el0 b0 ef0 ek1 em1 es1 el1 b1 ef1 [])) (fun E L => ((z_xI E ∧ ¬ sp_thr r) ∨ (z_xA E ∧ sp_thr r ∧ sp_bk k)) ∧ L = (z_cw rf kn ma xa fa ca mb xb fb cb mt xt ft ct f0 g0 c0 m0 s0 f1 g1 c1 m1 s1 f2 g2 c2 m2 s2 f3 g3 c3 m3 s3 f4 g4 c4 m4 s4 f5 g5 c5 m5 s5 ek0 em0 es0 el0 b0 ef0 ek1 em1 es1 el1 b1 ef1 [])) := by
  refine z_body hl (by decide) rfl (Nat.le_of_ble_eq_true rfl) ?_
  show z_J G l mX8_tableFor_ (z_SX 14 3 18 (z_cw rf kn ma xa fa ca mb xb fb cb mt xt ft ct f0 g0 c0 m0 s0 f1 g1 c1 m1 s1 f2 g2 c2 m2 s2 f3 g3 c3 m3 s3 f4 g4 c4 m4 s4 f5 g5 c5 m5 s5 ek0 em0 es0 el0 b0 ef0 ek1 em1 es1 el1 b1 ef1 []) (fun v L => ∃ n : Nat, v = some (.ref n) ∧ ((r = 0 ∧ n = 10) ∨ (r = 1 ∧ n = 16) ∨ (r = 2 ∧ n = 21)) ∧ ¬ sp_bk k ∧ L = (z_cw rf kn ma xa fa ca mb xb fb cb mt xt ft ct f0 g0 c0 m0 s0 f1 g1 c1 m1 s1 f2 g2 c2 m2 s2 f3 g3 c3 m3 s3 f4 g4 c4 m4 s4 f5 g5 c5 m5 s5 ek0 em0 es0 el0 b0 ef0 ek1 em1 es1 el1 b1 ef1 [])) (fun E L => ((z_xI E ∧ ¬ sp_thr r) ∨ (z_xA E ∧ sp_thr r ∧ sp_bk k)) ∧ L = (z_cw rf kn ma xa fa ca mb xb fb cb mt xt ft ct f0 g0 c0 m0 s0 f1 g1 c1 m1 s1 f2 g2 c2 m2 s2 f3 g3 c3 m3 s3 f4 g4 c4 m4 s4 f5 g5 c5 m5 s5 ek0 em0 es0 el0 b0 ef0 ek1 em1 es1 el1 b1 ef1 []))) 0 [(0, _), (1, _), (2, _)] [] _ 0 0
  refine j_aload_n dX8_tableFor__0 rfl rfl ?_
  refine j_iload_n dX8_tableFor__1 rfl ?_
  refine j_callV (q := (RX8, TX8, 9)) dX8_tableFor__2 kX8_tableFor lX8_157 inX8_tableFor seX8_tableFor rfl rfl (z_dirX (c_X8_tableFor_e hl _ _ _ _ _ _ _ _ _ _ _ _ _ _ _ _ _ _ _ _ _ _ _ _ _ _ _ _ _ _ _ _ _ _ _ _ _ _ _ _ _ _ _ _ _ _ _ _ _ _ _ _ _ _ _ _ _)) (Nat.le_of_ble_eq_true rfl) ⟨(Nat.le_of_ble_eq_true rfl), (Nat.le_of_ble_eq_true rfl)⟩ rfl (Nat.le_of_ble_eq_true rfl) rfl rfl (fun _ _ h => by obtain ⟨_, ⟨h1, rfl⟩, rfl⟩ := h; exact ⟨rfl, rfl, Or.inl h1, rfl⟩) ?_
  rintro _ _ ⟨_, ⟨_, rfl, hr, rfl⟩, rfl⟩
  refine j_astore_n (lo' := [(3, _), (0, _), (1, _), (2, _)]) dX8_tableFor__5 rfl (by decide) rfl ?_
  refine j_iload_n dX8_tableFor__6 rfl ?_
  refine j_callS dX8_tableFor__7 kX8_checkKey lX8_234 stX8_checkKey (c_X8_checkKey_e hl _ _) (Nat.le_of_ble_eq_true rfl) ⟨(Nat.le_of_ble_eq_true rfl), (Nat.le_of_ble_eq_true rfl)⟩ rfl (Nat.le_of_ble_eq_true rfl) rfl rfl (fun _ _ h => by obtain ⟨h1, rfl⟩ := h; exact ⟨rfl, rfl, Or.inr ⟨h1.1, sp_thr_of hr, h1.2⟩, rfl⟩) ?_
  rintro _ _ ⟨⟨rfl, hc7⟩, rfl⟩
  refine j_aload_n dX8_tableFor__10 rfl rfl ?_
  refine j_aret dX8_tableFor__11 rfl (Or.inl ⟨_, rfl⟩) rfl ?_ (Nat.le_of_ble_eq_true rfl) (Nat.le_of_ble_eq_true rfl)
  exact ⟨rfl, rfl, _, rfl, hr, hc7, rfl⟩
set_option maxRecDepth 100000 in
set_option maxHeartbeats 8000000 in
theorem c_X8_tableToReckon_e (hl : l.stackTraces = false) (rf : Int32) (kn : Int32) (ma : Int32) (xa : Bool) (fa : Nat → Int32) (ca : Nat → Int32) (mb : Int32) (xb : Bool) (fb : Nat → Int32) (cb : Nat → Int32) (mt : Int32) (xt : Bool) (ft : Nat → Int32) (ct : Nat → Int32) (f0 : Nat → Int32) (g0 : Nat → Int32) (c0 : Nat → Int32) (m0 : Int32) (s0 : Int32) (f1 : Nat → Int32) (g1 : Nat → Int32) (c1 : Nat → Int32) (m1 : Int32) (s1 : Int32) (f2 : Nat → Int32) (g2 : Nat → Int32) (c2 : Nat → Int32) (m2 : Int32) (s2 : Int32) (f3 : Nat → Int32) (g3 : Nat → Int32) (c3 : Nat → Int32) (m3 : Int32) (s3 : Int32) (f4 : Nat → Int32) (g4 : Nat → Int32) (c4 : Nat → Int32) (m4 : Int32) (s4 : Int32) (f5 : Nat → Int32) (g5 : Nat → Int32) (c5 : Nat → Int32) (m5 : Int32) (s5 : Int32) (ek0 : Int32) (em0 : Int32) (es0 : Int32) (el0 : Int32) (b0 : Int32) (ef0 : Nat → Int32) (ek1 : Int32) (em1 : Int32) (es1 : Int32) (el1 : Int32) (b1 : Int32) (ef1 : Nat → Int32) (r k u n9 : Int32)  : z_CX G l mX8_tableToReckon 16 6 36 (z_cw rf kn ma xa fa ca mb xb fb cb mt xt ft ct f0 g0 c0 m0 s0 f1 g1 c1 m1 s1 f2 g2 c2 m2 s2 f3 g3 c3 m3 s3 f4 g4 c4 m4 s4 f5 g5 c5 m5 s5 ek0 em0 es0 el0 b0 ef0 ek1 em1 es1 el1 b1 ef1 []) [.ref 0, .int r, .int k, .int u, .int n9] (fun v L => ∃ n : Nat, v = some (.ref n) ∧ ((r = 0 ∧ n = 10) ∨ (r = 1 ∧ n = 16) ∨ (r = 2 ∧ n = 21)) ∧ ¬ (sp_bk k ∨ (u < 0 ∨ 5 < u) ∨ sp_bv n9) ∧ L = (z_cw rf kn ma xa fa ca mb xb fb cb mt xt ft ct f0 g0 c0 m0 s0 f1 g1 c1 m1 s1 f2 g2 c2 m2 s2 f3 g3 c3 m3 s3 f4 g4 c4 m4 s4 f5 g5 c5 m5 s5 ek0 em0 es0 el0 b0 ef0 ek1 em1 es1 el1 b1 ef1 [])) (fun E L => ((z_xI E ∧ ¬ sp_thr r) ∨ (z_xA E ∧ sp_thr r ∧ (sp_bk k ∨ (u < 0 ∨ 5 < u) ∨ sp_bv n9))) ∧ L = (z_cw rf kn ma xa fa ca mb xb fb cb mt xt ft ct f0 g0 c0 m0 s0 f1 g1 c1 m1 s1 f2 g2 c2 m2 s2 f3 g3 c3 m3 s3 f4 g4 c4 m4 s4 f5 g5 c5 m5 s5 ek0 em0 es0 el0 b0 ef0 ek1 em1 es1 el1 b1 ef1 [])) := by
  refine z_body hl (by decide) rfl (Nat.le_of_ble_eq_true rfl) ?_
  show z_J G l mX8_tableToReckon (z_SX 16 6 36 (z_cw rf kn ma xa fa ca mb xb fb cb mt xt ft ct f0 g0 c0 m0 s0 f1 g1 c1 m1 s1 f2 g2 c2 m2 s2 f3 g3 c3 m3 s3 f4 g4 c4 m4 s4 f5 g5 c5 m5 s5 ek0 em0 es0 el0 b0 ef0 ek1 em1 es1 el1 b1 ef1 []) (fun v L => ∃ n : Nat, v = some (.ref n) ∧ ((r = 0 ∧ n = 10) ∨ (r = 1 ∧ n = 16) ∨ (r = 2 ∧ n = 21)) ∧ ¬ (sp_bk k ∨ (u < 0 ∨ 5 < u) ∨ sp_bv n9) ∧ L = (z_cw rf kn ma xa fa ca mb xb fb cb mt xt ft ct f0 g0 c0 m0 s0 f1 g1 c1 m1 s1 f2 g2 c2 m2 s2 f3 g3 c3 m3 s3 f4 g4 c4 m4 s4 f5 g5 c5 m5 s5 ek0 em0 es0 el0 b0 ef0 ek1 em1 es1 el1 b1 ef1 [])) (fun E L => ((z_xI E ∧ ¬ sp_thr r) ∨ (z_xA E ∧ sp_thr r ∧ (sp_bk k ∨ (u < 0 ∨ 5 < u) ∨ sp_bv n9))) ∧ L = (z_cw rf kn ma xa fa ca mb xb fb cb mt xt ft ct f0 g0 c0 m0 s0 f1 g1 c1 m1 s1 f2 g2 c2 m2 s2 f3 g3 c3 m3 s3 f4 g4 c4 m4 s4 f5 g5 c5 m5 s5 ek0 em0 es0 el0 b0 ef0 ek1 em1 es1 el1 b1 ef1 []))) 0 [(0, _), (1, _), (2, _), (3, _), (4, _)] [] _ 0 0
  refine j_aload_n dX8_tableToReckon_0 rfl rfl ?_
  refine j_iload_n dX8_tableToReckon_1 rfl ?_
  refine j_iload_n dX8_tableToReckon_2 rfl ?_
  refine j_callV (q := (RX8, TX8, 9)) dX8_tableToReckon_3 kX8_tableFor_ lX8_126 inX8_tableFor_ seX8_tableFor_ rfl rfl (z_dirX (c_X8_tableFor__e hl _ _ _ _ _ _ _ _ _ _ _ _ _ _ _ _ _ _ _ _ _ _ _ _ _ _ _ _ _ _ _ _ _ _ _ _ _ _ _ _ _ _ _ _ _ _ _ _ _ _ _ _ _ _ _ _ _ _)) (Nat.le_of_ble_eq_true rfl) ⟨(Nat.le_of_ble_eq_true rfl), (Nat.le_of_ble_eq_true rfl)⟩ rfl (Nat.le_of_ble_eq_true rfl) rfl rfl (fun _ _ h => by obtain ⟨_, ⟨h1, rfl⟩, rfl⟩ := h; exact ⟨rfl, rfl, h1.elim (fun z => Or.inl z) (fun z => Or.inr ⟨z.1, z.2.1, Or.inl z.2.2⟩), rfl⟩) ?_
  rintro _ _ ⟨_, ⟨_, rfl, hr, hk, rfl⟩, rfl⟩
  refine j_astore (lo' := [(5, _), (0, _), (1, _), (2, _), (3, _), (4, _)]) dX8_tableToReckon_6 rfl (by decide) rfl ?_
  refine j_iload_n dX8_tableToReckon_8 rfl ?_
  refine j_iconst (v := 0) dX8_tableToReckon_9 (by decide) ?_
  refine j_iconst (v := 5) dX8_tableToReckon_10 (by decide) ?_
  refine j_callS dX8_tableToReckon_11 kX8_checkRange lX8_72 stX8_checkRange (c_X8_checkRange_e hl _ _ _ _) (Nat.le_of_ble_eq_true rfl) ⟨(Nat.le_of_ble_eq_true rfl), (Nat.le_of_ble_eq_true rfl)⟩ rfl (Nat.le_of_ble_eq_true rfl) rfl rfl (fun _ _ h => by obtain ⟨h1, rfl⟩ := h; exact ⟨rfl, rfl, Or.inr ⟨h1.1, sp_thr_of hr, Or.inr (Or.inl h1.2)⟩, rfl⟩) ?_
  rintro _ _ ⟨⟨rfl, hc11⟩, rfl⟩
  refine j_iload dX8_tableToReckon_14 rfl ?_
  refine j_callS dX8_tableToReckon_16 kX8_checkValue lX8_50 stX8_checkValue (c_X8_checkValue_e hl _ _) (Nat.le_of_ble_eq_true rfl) ⟨(Nat.le_of_ble_eq_true rfl), (Nat.le_of_ble_eq_true rfl)⟩ rfl (Nat.le_of_ble_eq_true rfl) rfl rfl (fun _ _ h => by obtain ⟨h1, rfl⟩ := h; exact ⟨rfl, rfl, Or.inr ⟨h1.1, sp_thr_of hr, Or.inr (Or.inr h1.2)⟩, rfl⟩) ?_
  rintro _ _ ⟨⟨rfl, hc16⟩, rfl⟩
  refine j_aload dX8_tableToReckon_19 rfl rfl ?_
  refine j_aret dX8_tableToReckon_21 rfl (Or.inl ⟨_, rfl⟩) rfl ?_ (Nat.le_of_ble_eq_true rfl) (Nat.le_of_ble_eq_true rfl)
  exact ⟨rfl, rfl, _, rfl, hr, (fun z => z.elim hk (fun z => z.elim hc11 hc16)), rfl⟩
set_option maxRecDepth 100000 in
set_option maxHeartbeats 8000000 in
theorem c_X8_answer_f_e (hl : l.stackTraces = false) (rf : Int32) (kn : Int32) (ma : Int32) (xa : Bool) (fa : Nat → Int32) (ca : Nat → Int32) (mb : Int32) (xb : Bool) (fb : Nat → Int32) (cb : Nat → Int32) (mt : Int32) (xt : Bool) (ft : Nat → Int32) (ct : Nat → Int32) (f0 : Nat → Int32) (g0 : Nat → Int32) (c0 : Nat → Int32) (m0 : Int32) (s0 : Int32) (f1 : Nat → Int32) (g1 : Nat → Int32) (c1 : Nat → Int32) (m1 : Int32) (s1 : Int32) (f2 : Nat → Int32) (g2 : Nat → Int32) (c2 : Nat → Int32) (m2 : Int32) (s2 : Int32) (f3 : Nat → Int32) (g3 : Nat → Int32) (c3 : Nat → Int32) (m3 : Int32) (s3 : Int32) (f4 : Nat → Int32) (g4 : Nat → Int32) (c4 : Nat → Int32) (m4 : Int32) (s4 : Int32) (f5 : Nat → Int32) (g5 : Nat → Int32) (c5 : Nat → Int32) (m5 : Int32) (s5 : Int32) (ek0 : Int32) (em0 : Int32) (es0 : Int32) (el0 : Int32) (b0 : Int32) (ef0 : Nat → Int32) (ek1 : Int32) (em1 : Int32) (es1 : Int32) (el1 : Int32) (b1 : Int32) (ef1 : Nat → Int32) {α : Type} (o : Option α) (f : α → Int32) (hn : ∀ y, o = some y → ¬ f y = -1001) : z_CF G l mX8_answer 11 0 0 (z_cw rf kn ma xa fa ca mb xb fb cb mt xt ft ct f0 g0 c0 m0 s0 f1 g1 c1 m1 s1 f2 g2 c2 m2 s2 f3 g3 c3 m3 s3 f4 g4 c4 m4 s4 f5 g5 c5 m5 s5 ek0 em0 es0 el0 b0 ef0 ek1 em1 es1 el1 b1 ef1 []) [.ref 0, .int ((o.map f).getD (-1001))] (fun v L => v = some (.int ((o.map f).getD (-9))) ∧ L = (z_cw (sp_rfn rf o) kn ma xa fa ca mb xb fb cb mt xt ft ct f0 g0 c0 m0 s0 f1 g1 c1 m1 s1 f2 g2 c2 m2 s2 f3 g3 c3 m3 s3 f4 g4 c4 m4 s4 f5 g5 c5 m5 s5 ek0 em0 es0 el0 b0 ef0 ek1 em1 es1 el1 b1 ef1 [])) := by
  refine z_body hl (by decide) rfl (Nat.le_of_ble_eq_true rfl) ?_
  show z_J G l mX8_answer (z_SF 11 0 0 (z_cw rf kn ma xa fa ca mb xb fb cb mt xt ft ct f0 g0 c0 m0 s0 f1 g1 c1 m1 s1 f2 g2 c2 m2 s2 f3 g3 c3 m3 s3 f4 g4 c4 m4 s4 f5 g5 c5 m5 s5 ek0 em0 es0 el0 b0 ef0 ek1 em1 es1 el1 b1 ef1 []) (fun v L => v = some (.int ((o.map f).getD (-9))) ∧ L = (z_cw (sp_rfn rf o) kn ma xa fa ca mb xb fb cb mt xt ft ct f0 g0 c0 m0 s0 f1 g1 c1 m1 s1 f2 g2 c2 m2 s2 f3 g3 c3 m3 s3 f4 g4 c4 m4 s4 f5 g5 c5 m5 s5 ek0 em0 es0 el0 b0 ef0 ek1 em1 es1 el1 b1 ef1 []))) 0 [(0, _), (1, _)] [] _ 0 0
  refine j_iload_n dX8_answer_0 rfl ?_
  refine j_sipush (v := (-1001)) dX8_answer_1 (by decide) ?_
  refine j_icmp_ne (tgt := 14) dX8_answer_4 (by decide) (fun c_4 => ?_) (fun c_4 => ?_)
  · obtain ⟨y, rfl⟩ : ∃ y, o = some y := by cases o with | none => exact absurd rfl c_4 | some y => exact ⟨y, rfl⟩
    refine j_iload_n dX8_answer_14 rfl ?_
    refine j_iret dX8_answer_15 rfl rfl ?_ (Nat.le_of_ble_eq_true rfl) (Nat.le_of_ble_eq_true rfl)
    exact ⟨rfl, (by first | exact z_cwl | rfl), rfl, rfl⟩
  · have ho : o = none := by
      cases o with
      | none => rfl
      | some y => exact absurd c_4 (hn y rfl)
    subst ho
    refine j_aload_n dX8_answer_7 rfl rfl ?_
    refine j_callV (q := (RX8, TX8, 9)) dX8_answer_8 kX8_refused lX8_119 inX8_refused seX8_refused rfl rfl (z_dirF (c_X8_refused_e hl _ _ _ _ _ _ _ _ _ _ _ _ _ _ _ _ _ _ _ _ _ _ _ _ _ _ _ _ _ _ _ _ _ _ _ _ _ _ _ _ _ _ _ _ _ _ _ _ _ _ _ _ _ _ _ _)) (Nat.le_of_ble_eq_true rfl) ⟨(Nat.le_of_ble_eq_true rfl), (Nat.le_of_ble_eq_true rfl)⟩ rfl (Nat.le_of_ble_eq_true rfl) rfl rfl (fun _ _ h => h.elim) ?_
    rintro _ _ ⟨_, ⟨rfl, rfl⟩, rfl⟩
    refine j_goto (tgt := 15) dX8_answer_11 (by decide) ?_
    refine j_iret dX8_answer_15 rfl rfl ?_ (Nat.le_of_ble_eq_true rfl) (Nat.le_of_ble_eq_true rfl)
    exact ⟨rfl, (by first | exact z_cwl | rfl), rfl, rfl⟩
set_option maxRecDepth 100000 in
set_option maxHeartbeats 8000000 in
theorem c_X8_answer_e (hl : l.stackTraces = false) (rf : Int32) (kn : Int32) (ma : Int32) (xa : Bool) (fa : Nat → Int32) (ca : Nat → Int32) (mb : Int32) (xb : Bool) (fb : Nat → Int32) (cb : Nat → Int32) (mt : Int32) (xt : Bool) (ft : Nat → Int32) (ct : Nat → Int32) (f0 : Nat → Int32) (g0 : Nat → Int32) (c0 : Nat → Int32) (m0 : Int32) (s0 : Int32) (f1 : Nat → Int32) (g1 : Nat → Int32) (c1 : Nat → Int32) (m1 : Int32) (s1 : Int32) (f2 : Nat → Int32) (g2 : Nat → Int32) (c2 : Nat → Int32) (m2 : Int32) (s2 : Int32) (f3 : Nat → Int32) (g3 : Nat → Int32) (c3 : Nat → Int32) (m3 : Int32) (s3 : Int32) (f4 : Nat → Int32) (g4 : Nat → Int32) (c4 : Nat → Int32) (m4 : Int32) (s4 : Int32) (f5 : Nat → Int32) (g5 : Nat → Int32) (c5 : Nat → Int32) (m5 : Int32) (s5 : Int32) (ek0 : Int32) (em0 : Int32) (es0 : Int32) (el0 : Int32) (b0 : Int32) (ef0 : Nat → Int32) (ek1 : Int32) (em1 : Int32) (es1 : Int32) (el1 : Int32) (b1 : Int32) (ef1 : Nat → Int32) (o : Option Int32) (hn : ∀ y, o = some y → ¬ y = -1001) : z_CF G l mX8_answer 11 0 0 (z_cw rf kn ma xa fa ca mb xb fb cb mt xt ft ct f0 g0 c0 m0 s0 f1 g1 c1 m1 s1 f2 g2 c2 m2 s2 f3 g3 c3 m3 s3 f4 g4 c4 m4 s4 f5 g5 c5 m5 s5 ek0 em0 es0 el0 b0 ef0 ek1 em1 es1 el1 b1 ef1 []) [.ref 0, .int (o.getD (-1001))] (fun v L => v = some (.int (o.getD (-9))) ∧ L = (z_cw (sp_rfn rf o) kn ma xa fa ca mb xb fb cb mt xt ft ct f0 g0 c0 m0 s0 f1 g1 c1 m1 s1 f2 g2 c2 m2 s2 f3 g3 c3 m3 s3 f4 g4 c4 m4 s4 f5 g5 c5 m5 s5 ek0 em0 es0 el0 b0 ef0 ek1 em1 es1 el1 b1 ef1 [])) := by
  refine z_body hl (by decide) rfl (Nat.le_of_ble_eq_true rfl) ?_
  show z_J G l mX8_answer (z_SF 11 0 0 (z_cw rf kn ma xa fa ca mb xb fb cb mt xt ft ct f0 g0 c0 m0 s0 f1 g1 c1 m1 s1 f2 g2 c2 m2 s2 f3 g3 c3 m3 s3 f4 g4 c4 m4 s4 f5 g5 c5 m5 s5 ek0 em0 es0 el0 b0 ef0 ek1 em1 es1 el1 b1 ef1 []) (fun v L => v = some (.int (o.getD (-9))) ∧ L = (z_cw (sp_rfn rf o) kn ma xa fa ca mb xb fb cb mt xt ft ct f0 g0 c0 m0 s0 f1 g1 c1 m1 s1 f2 g2 c2 m2 s2 f3 g3 c3 m3 s3 f4 g4 c4 m4 s4 f5 g5 c5 m5 s5 ek0 em0 es0 el0 b0 ef0 ek1 em1 es1 el1 b1 ef1 []))) 0 [(0, _), (1, _)] [] _ 0 0
  refine j_iload_n dX8_answer_0 rfl ?_
  refine j_sipush (v := (-1001)) dX8_answer_1 (by decide) ?_
  refine j_icmp_ne (tgt := 14) dX8_answer_4 (by decide) (fun c_4 => ?_) (fun c_4 => ?_)
  · obtain ⟨y, rfl⟩ : ∃ y, o = some y := by cases o with | none => exact absurd rfl c_4 | some y => exact ⟨y, rfl⟩
    refine j_iload_n dX8_answer_14 rfl ?_
    refine j_iret dX8_answer_15 rfl rfl ?_ (Nat.le_of_ble_eq_true rfl) (Nat.le_of_ble_eq_true rfl)
    exact ⟨rfl, (by first | exact z_cwl | rfl), rfl, rfl⟩
  · have ho : o = none := by
      cases o with
      | none => rfl
      | some y => exact absurd c_4 (hn y rfl)
    subst ho
    refine j_aload_n dX8_answer_7 rfl rfl ?_
    refine j_callV (q := (RX8, TX8, 9)) dX8_answer_8 kX8_refused lX8_119 inX8_refused seX8_refused rfl rfl (z_dirF (c_X8_refused_e hl _ _ _ _ _ _ _ _ _ _ _ _ _ _ _ _ _ _ _ _ _ _ _ _ _ _ _ _ _ _ _ _ _ _ _ _ _ _ _ _ _ _ _ _ _ _ _ _ _ _ _ _ _ _ _ _)) (Nat.le_of_ble_eq_true rfl) ⟨(Nat.le_of_ble_eq_true rfl), (Nat.le_of_ble_eq_true rfl)⟩ rfl (Nat.le_of_ble_eq_true rfl) rfl rfl (fun _ _ h => h.elim) ?_
    rintro _ _ ⟨_, ⟨rfl, rfl⟩, rfl⟩
    refine j_goto (tgt := 15) dX8_answer_11 (by decide) ?_
    refine j_iret dX8_answer_15 rfl rfl ?_ (Nat.le_of_ble_eq_true rfl) (Nat.le_of_ble_eq_true rfl)
    exact ⟨rfl, (by first | exact z_cwl | rfl), rfl, rfl⟩
set_option maxRecDepth 100000 in
set_option maxHeartbeats 8000000 in
theorem c_X8_type_p (hl : l.stackTraces = false) (S : sp_S) (fa : Nat → Int32) (fb : Nat → Int32) (mt : Int32) (ft : Nat → Int32) (ct : Nat → Int32) (f0 : Nat → Int32) (g0 : Nat → Int32) (f1 : Nat → Int32) (g1 : Nat → Int32) (c1 : Nat → Int32) (f2 : Nat → Int32) (g2 : Nat → Int32) (c2 : Nat → Int32) (f3 : Nat → Int32) (g3 : Nat → Int32) (c3 : Nat → Int32) (m3 : Int32) (f4 : Nat → Int32) (g4 : Nat → Int32) (c4 : Nat → Int32) (m4 : Int32) (f5 : Nat → Int32) (g5 : Nat → Int32) (c5 : Nat → Int32) (m5 : Int32) (ef0 : Nat → Int32) (ef1 : Nat → Int32) (r : Int32) (y : Int32) (ok : sp_ok S) (hra : z_row 12 (nI (sp_R S 0).length) fa (sp_R S 0)) (hrb : z_row 12 (nI (sp_R S 1).length) fb (sp_R S 1)) (ht0 : z_tba f0 g0 (sp_T S 0)) (ht1 : z_tba f1 g1 (sp_T S 1)) (ht2 : z_tba f2 g2 (sp_T S 2)) (he0 : z_row 10 (nI (sp_E S 0).2.length) ef0 (sp_E S 0).2) (he1 : z_row 10 (nI (sp_E S 1).2.length) ef1 (sp_E S 1).2) (hzm3 : z_m20 m3) (hzm4 : z_m20 m4) (hzm5 : z_m20 m5) : z_CX G l mX8_type 20 14 120 (z_cw S.1.1 S.1.2 (nI (sp_R S 0).length) (sp_F S 0) fa (sp_C S 0) (nI (sp_R S 1).length) (sp_F S 1) fb (sp_C S 1) mt false ft ct f0 g0 (sp_C S 2) (nI (sp_T S 0).length) 0 f1 g1 c1 (nI (sp_T S 1).length) 0 f2 g2 c2 (nI (sp_T S 2).length) 1 f3 g3 c3 m3 0 f4 g4 c4 m4 0 f5 g5 c5 m5 1 (nI (sp_E S 0).2.length) (sp_E S 0).1.2.1 (sp_E S 0).1.2.2.1 (sp_E S 0).1.2.2.2 (sp_E S 0).1.1 ef0 (nI (sp_E S 1).2.length) (sp_E S 1).1.2.1 (sp_E S 1).1.2.2.1 (sp_E S 1).1.2.2.2 (sp_E S 1).1.1 ef1 []) [.ref 0, .int r, .int y] (fun v L => sp_k23 r (sp_bv y) ((sp_R S (sp_i r)).length = 12) = 0 ∧ v = some (.int (nI ((sp_R S (sp_i r)) ++ [y]).length)) ∧ sp_CW (sp_uR S (sp_i r) ((sp_R S (sp_i r)) ++ [y])) L) (fun E L => ((z_xI E ∧ sp_k23 r (sp_bv y) ((sp_R S (sp_i r)).length = 12) = 1) ∨ (z_xA E ∧ sp_k23 r (sp_bv y) ((sp_R S (sp_i r)).length = 12) = 2) ∨ (z_xS E ∧ sp_k23 r (sp_bv y) ((sp_R S (sp_i r)).length = 12) = 3)) ∧ L = (z_cw S.1.1 S.1.2 (nI (sp_R S 0).length) (sp_F S 0) fa (sp_C S 0) (nI (sp_R S 1).length) (sp_F S 1) fb (sp_C S 1) mt false ft ct f0 g0 (sp_C S 2) (nI (sp_T S 0).length) 0 f1 g1 c1 (nI (sp_T S 1).length) 0 f2 g2 c2 (nI (sp_T S 2).length) 1 f3 g3 c3 m3 0 f4 g4 c4 m4 0 f5 g5 c5 m5 1 (nI (sp_E S 0).2.length) (sp_E S 0).1.2.1 (sp_E S 0).1.2.2.1 (sp_E S 0).1.2.2.2 (sp_E S 0).1.1 ef0 (nI (sp_E S 1).2.length) (sp_E S 1).1.2.1 (sp_E S 1).1.2.2.1 (sp_E S 1).1.2.2.2 (sp_E S 1).1.1 ef1 [])) := by
  refine z_body hl (by decide) rfl (Nat.le_of_ble_eq_true rfl) ?_
  show z_J G l mX8_type (z_SX 20 14 120 (z_cw S.1.1 S.1.2 (nI (sp_R S 0).length) (sp_F S 0) fa (sp_C S 0) (nI (sp_R S 1).length) (sp_F S 1) fb (sp_C S 1) mt false ft ct f0 g0 (sp_C S 2) (nI (sp_T S 0).length) 0 f1 g1 c1 (nI (sp_T S 1).length) 0 f2 g2 c2 (nI (sp_T S 2).length) 1 f3 g3 c3 m3 0 f4 g4 c4 m4 0 f5 g5 c5 m5 1 (nI (sp_E S 0).2.length) (sp_E S 0).1.2.1 (sp_E S 0).1.2.2.1 (sp_E S 0).1.2.2.2 (sp_E S 0).1.1 ef0 (nI (sp_E S 1).2.length) (sp_E S 1).1.2.1 (sp_E S 1).1.2.2.1 (sp_E S 1).1.2.2.2 (sp_E S 1).1.1 ef1 []) (fun v L => sp_k23 r (sp_bv y) ((sp_R S (sp_i r)).length = 12) = 0 ∧ v = some (.int (nI ((sp_R S (sp_i r)) ++ [y]).length)) ∧ sp_CW (sp_uR S (sp_i r) ((sp_R S (sp_i r)) ++ [y])) L) (fun E L => ((z_xI E ∧ sp_k23 r (sp_bv y) ((sp_R S (sp_i r)).length = 12) = 1) ∨ (z_xA E ∧ sp_k23 r (sp_bv y) ((sp_R S (sp_i r)).length = 12) = 2) ∨ (z_xS E ∧ sp_k23 r (sp_bv y) ((sp_R S (sp_i r)).length = 12) = 3)) ∧ L = (z_cw S.1.1 S.1.2 (nI (sp_R S 0).length) (sp_F S 0) fa (sp_C S 0) (nI (sp_R S 1).length) (sp_F S 1) fb (sp_C S 1) mt false ft ct f0 g0 (sp_C S 2) (nI (sp_T S 0).length) 0 f1 g1 c1 (nI (sp_T S 1).length) 0 f2 g2 c2 (nI (sp_T S 2).length) 1 f3 g3 c3 m3 0 f4 g4 c4 m4 0 f5 g5 c5 m5 1 (nI (sp_E S 0).2.length) (sp_E S 0).1.2.1 (sp_E S 0).1.2.2.1 (sp_E S 0).1.2.2.2 (sp_E S 0).1.1 ef0 (nI (sp_E S 1).2.length) (sp_E S 1).1.2.1 (sp_E S 1).1.2.2.1 (sp_E S 1).1.2.2.2 (sp_E S 1).1.1 ef1 []))) 0 [(0, _), (1, _), (2, _)] [] _ 0 0
  refine j_aload_n dX8_type_0 rfl rfl ?_
  refine j_iload_n dX8_type_1 rfl ?_
  refine j_callV (q := (RX8, TX8, 9)) dX8_type_2 kX8_rowFor lX8_46 inX8_rowFor seX8_rowFor rfl rfl (z_dirX (c_X8_rowFor_e hl _ _ _ _ _ _ _ _ _ _ _ _ _ _ _ _ _ _ _ _ _ _ _ _ _ _ _ _ _ _ _ _ _ _ _ _ _ _ _ _ _ _ _ _ _ _ _ _ _ _ _ _ _ _ _ _ _)) (Nat.le_of_ble_eq_true rfl) ⟨(Nat.le_of_ble_eq_true rfl), (Nat.le_of_ble_eq_true rfl)⟩ rfl (Nat.le_of_ble_eq_true rfl) rfl rfl (fun _ _ h => by obtain ⟨_, ⟨h1, rfl⟩, rfl⟩ := h; exact ⟨rfl, rfl, Or.inl ⟨h1.1, sp_k23_1 h1.2⟩, rfl⟩) ?_
  rintro _ _ ⟨_, ⟨_, rfl, hr, rfl⟩, rfl⟩
  rcases hr with ⟨e_2, rfl⟩ | ⟨e_2, rfl⟩
  · subst e_2
    refine j_astore_n (lo' := [(3, _), (0, _), (1, _), (2, _)]) dX8_type_5 rfl (by decide) rfl ?_
    refine j_iload_n dX8_type_6 rfl ?_
    refine j_callS dX8_type_7 kX8_checkValue lX8_50 stX8_checkValue (c_X8_checkValue_e hl _ _) (Nat.le_of_ble_eq_true rfl) ⟨(Nat.le_of_ble_eq_true rfl), (Nat.le_of_ble_eq_true rfl)⟩ rfl (Nat.le_of_ble_eq_true rfl) rfl rfl (fun _ _ h => by obtain ⟨h1, rfl⟩ := h; exact ⟨rfl, rfl, Or.inr (Or.inl ⟨h1.1, sp_k23_2 (Or.inl rfl) h1.2⟩), rfl⟩) ?_
    rintro _ _ ⟨⟨rfl, hc7⟩, rfl⟩
    refine j_aload_n dX8_type_10 rfl rfl ?_
    refine j_callV (q := (RX1, TX1, 4)) dX8_type_11 kX1_isFull lX8_54 inX1_isFull seX1_isFull rfl rfl (z_frame [2, 3, 4, 5] rfl (by decide) (Nat.le_of_ble_eq_true rfl) (c_X1_isFull_e hl _ _ _ (sp_R S 0) (sp_R S 0).length hra rfl)) (Nat.le_of_ble_eq_true rfl) ⟨(Nat.le_of_ble_eq_true rfl), (Nat.le_of_ble_eq_true rfl)⟩ rfl (Nat.le_of_ble_eq_true rfl) rfl rfl (fun _ _ h => h.elim) ?_
    rintro _ _ ⟨_, _, ⟨rfl, rfl⟩, rfl, rfl⟩
    refine j_ws (L' := z_cw _ _ _ _ _ _ _ _ _ _ _ _ _ _ _ _ _ _ _ _ _ _ _ _ _ _ _ _ _ _ _ _ _ _ _ _ _ _ _ _ _ _ _ _ _ _ _ _ _ _ _ _ _ _ _ _ []) (by decide) rfl rfl ?_
    refine j_if_eq (tgt := 27) dX8_type_14 (by decide) (fun c_14 => ?_) (fun c_14 => ?_)
    · have hb14 := z_bF c_14
      refine j_aload_n dX8_type_27 rfl rfl ?_
      refine j_iload_n dX8_type_28 rfl ?_
      have hlt : (sp_R S 0).length < 12 := by have := of_decide_eq_false hb14; omega
      refine j_callV (q := (RX1, TX1, 4)) dX8_type_29 kX1_append lX8_65 inX1_append seX1_append rfl rfl (z_frame [2, 3, 4, 5] rfl (by decide) (Nat.le_of_ble_eq_true rfl) (c_X1_append_e hl _ _ _ (sp_R S 0) (sp_R S 0).length y hra rfl hlt)) (Nat.le_of_ble_eq_true rfl) ⟨(Nat.le_of_ble_eq_true rfl), (Nat.le_of_ble_eq_true rfl)⟩ rfl (Nat.le_of_ble_eq_true rfl) rfl rfl (fun _ _ h => h.elim) ?_
      rintro _ _ ⟨_, _, ⟨rfl, rfl⟩, rfl, rfl⟩
      refine j_ws (L' := z_cw _ _ _ _ _ _ _ _ _ _ _ _ _ _ _ _ _ _ _ _ _ _ _ _ _ _ _ _ _ _ _ _ _ _ _ _ _ _ _ _ _ _ _ _ _ _ _ _ _ _ _ _ _ _ _ _ []) (by decide) rfl rfl ?_
      refine j_aload_n dX8_type_32 rfl rfl ?_
      refine j_getf dX8_type_33 fX8_68 rfl rfl ?_
      refine j_iret dX8_type_36 rfl rfl ?_ (Nat.le_of_ble_eq_true rfl) (Nat.le_of_ble_eq_true rfl)
      refine ⟨rfl, (by first | exact z_cwl | rfl), ?_⟩
      rw [sp_i0]
      exact ⟨sp_k23_0 (Or.inl rfl) hc7 (by omega), rfl, (sp_CWe ((by have z := hra.push (x := y) hlt; rw [← show ((sp_R S 0) ++ [y]).length = (sp_R S 0).length + 1 from List.length_append] at z; exact z)) hrb ht0 ht1 ht2 he0 he1 hzm3 hzm4 hzm5 rfl)⟩
    · have hb14 := z_bt c_14
      have h12 : (sp_R S 0).length = 12 := by have := of_decide_eq_true hb14; have := hra.2.1; omega
      exact j_throwS (text := "the row is full") rfl th_S (by decide +kernel) dX8_type_17 dX8_type_20 dX8_type_21 dX8_type_23 dX8_type_26 (Nat.le_of_ble_eq_true rfl) (Nat.le_of_ble_eq_true rfl) ⟨rfl, rfl, (Or.inr (Or.inr ⟨rfl, sp_k23_3 (Or.inl rfl) hc7 (by rw [sp_i0]; exact h12)⟩)), rfl⟩ (Nat.le_of_ble_eq_true rfl) (Nat.le_of_ble_eq_true rfl)
  · subst e_2
    refine j_astore_n (lo' := [(3, _), (0, _), (1, _), (2, _)]) dX8_type_5 rfl (by decide) rfl ?_
    refine j_iload_n dX8_type_6 rfl ?_
    refine j_callS dX8_type_7 kX8_checkValue lX8_50 stX8_checkValue (c_X8_checkValue_e hl _ _) (Nat.le_of_ble_eq_true rfl) ⟨(Nat.le_of_ble_eq_true rfl), (Nat.le_of_ble_eq_true rfl)⟩ rfl (Nat.le_of_ble_eq_true rfl) rfl rfl (fun _ _ h => by obtain ⟨h1, rfl⟩ := h; exact ⟨rfl, rfl, Or.inr (Or.inl ⟨h1.1, sp_k23_2 (Or.inr rfl) h1.2⟩), rfl⟩) ?_
    rintro _ _ ⟨⟨rfl, hc7⟩, rfl⟩
    refine j_aload_n dX8_type_10 rfl rfl ?_
    refine j_callV (q := (RX1, TX1, 4)) dX8_type_11 kX1_isFull lX8_54 inX1_isFull seX1_isFull rfl rfl (z_frame [6, 7, 8, 9] rfl (by decide) (Nat.le_of_ble_eq_true rfl) (c_X1_isFull_e hl _ _ _ (sp_R S 1) (sp_R S 1).length hrb rfl)) (Nat.le_of_ble_eq_true rfl) ⟨(Nat.le_of_ble_eq_true rfl), (Nat.le_of_ble_eq_true rfl)⟩ rfl (Nat.le_of_ble_eq_true rfl) rfl rfl (fun _ _ h => h.elim) ?_
    rintro _ _ ⟨_, _, ⟨rfl, rfl⟩, rfl, rfl⟩
    refine j_ws (L' := z_cw _ _ _ _ _ _ _ _ _ _ _ _ _ _ _ _ _ _ _ _ _ _ _ _ _ _ _ _ _ _ _ _ _ _ _ _ _ _ _ _ _ _ _ _ _ _ _ _ _ _ _ _ _ _ _ _ []) (by decide) rfl rfl ?_
    refine j_if_eq (tgt := 27) dX8_type_14 (by decide) (fun c_14 => ?_) (fun c_14 => ?_)
    · have hb14 := z_bF c_14
      refine j_aload_n dX8_type_27 rfl rfl ?_
      refine j_iload_n dX8_type_28 rfl ?_
      have hlt : (sp_R S 1).length < 12 := by have := of_decide_eq_false hb14; omega
      refine j_callV (q := (RX1, TX1, 4)) dX8_type_29 kX1_append lX8_65 inX1_append seX1_append rfl rfl (z_frame [6, 7, 8, 9] rfl (by decide) (Nat.le_of_ble_eq_true rfl) (c_X1_append_e hl _ _ _ (sp_R S 1) (sp_R S 1).length y hrb rfl hlt)) (Nat.le_of_ble_eq_true rfl) ⟨(Nat.le_of_ble_eq_true rfl), (Nat.le_of_ble_eq_true rfl)⟩ rfl (Nat.le_of_ble_eq_true rfl) rfl rfl (fun _ _ h => h.elim) ?_
      rintro _ _ ⟨_, _, ⟨rfl, rfl⟩, rfl, rfl⟩
      refine j_ws (L' := z_cw _ _ _ _ _ _ _ _ _ _ _ _ _ _ _ _ _ _ _ _ _ _ _ _ _ _ _ _ _ _ _ _ _ _ _ _ _ _ _ _ _ _ _ _ _ _ _ _ _ _ _ _ _ _ _ _ []) (by decide) rfl rfl ?_
      refine j_aload_n dX8_type_32 rfl rfl ?_
      refine j_getf dX8_type_33 fX8_68 rfl rfl ?_
      refine j_iret dX8_type_36 rfl rfl ?_ (Nat.le_of_ble_eq_true rfl) (Nat.le_of_ble_eq_true rfl)
      refine ⟨rfl, (by first | exact z_cwl | rfl), ?_⟩
      rw [sp_i1]
      exact ⟨sp_k23_0 (Or.inr rfl) hc7 (by omega), rfl, (sp_CWe hra ((by have z := hrb.push (x := y) hlt; rw [← show ((sp_R S 1) ++ [y]).length = (sp_R S 1).length + 1 from List.length_append] at z; exact z)) ht0 ht1 ht2 he0 he1 hzm3 hzm4 hzm5 rfl)⟩
    · have hb14 := z_bt c_14
      have h12 : (sp_R S 1).length = 12 := by have := of_decide_eq_true hb14; have := hrb.2.1; omega
      exact j_throwS (text := "the row is full") rfl th_S (by decide +kernel) dX8_type_17 dX8_type_20 dX8_type_21 dX8_type_23 dX8_type_26 (Nat.le_of_ble_eq_true rfl) (Nat.le_of_ble_eq_true rfl) ⟨rfl, rfl, (Or.inr (Or.inr ⟨rfl, sp_k23_3 (Or.inr rfl) hc7 (by rw [sp_i1]; exact h12)⟩)), rfl⟩ (Nat.le_of_ble_eq_true rfl) (Nat.le_of_ble_eq_true rfl)
set_option maxRecDepth 100000 in
set_option maxHeartbeats 8000000 in
theorem c_X8_drop_p (hl : l.stackTraces = false) (S : sp_S) (fa : Nat → Int32) (fb : Nat → Int32) (mt : Int32) (ft : Nat → Int32) (ct : Nat → Int32) (f0 : Nat → Int32) (g0 : Nat → Int32) (f1 : Nat → Int32) (g1 : Nat → Int32) (c1 : Nat → Int32) (f2 : Nat → Int32) (g2 : Nat → Int32) (c2 : Nat → Int32) (f3 : Nat → Int32) (g3 : Nat → Int32) (c3 : Nat → Int32) (m3 : Int32) (f4 : Nat → Int32) (g4 : Nat → Int32) (c4 : Nat → Int32) (m4 : Int32) (f5 : Nat → Int32) (g5 : Nat → Int32) (c5 : Nat → Int32) (m5 : Int32) (ef0 : Nat → Int32) (ef1 : Nat → Int32) (r : Int32) (m : Int32) (ok : sp_ok S) (hra : z_row 12 (nI (sp_R S 0).length) fa (sp_R S 0)) (hrb : z_row 12 (nI (sp_R S 1).length) fb (sp_R S 1)) (ht0 : z_tba f0 g0 (sp_T S 0)) (ht1 : z_tba f1 g1 (sp_T S 1)) (ht2 : z_tba f2 g2 (sp_T S 2)) (he0 : z_row 10 (nI (sp_E S 0).2.length) ef0 (sp_E S 0).2) (he1 : z_row 10 (nI (sp_E S 1).2.length) ef1 (sp_E S 1).2) (hzm3 : z_m20 m3) (hzm4 : z_m20 m4) (hzm5 : z_m20 m5) : z_CX G l mX8_drop 20 14 120 (z_cw S.1.1 S.1.2 (nI (sp_R S 0).length) (sp_F S 0) fa (sp_C S 0) (nI (sp_R S 1).length) (sp_F S 1) fb (sp_C S 1) mt false ft ct f0 g0 (sp_C S 2) (nI (sp_T S 0).length) 0 f1 g1 c1 (nI (sp_T S 1).length) 0 f2 g2 c2 (nI (sp_T S 2).length) 1 f3 g3 c3 m3 0 f4 g4 c4 m4 0 f5 g5 c5 m5 1 (nI (sp_E S 0).2.length) (sp_E S 0).1.2.1 (sp_E S 0).1.2.2.1 (sp_E S 0).1.2.2.2 (sp_E S 0).1.1 ef0 (nI (sp_E S 1).2.length) (sp_E S 1).1.2.1 (sp_E S 1).1.2.2.1 (sp_E S 1).1.2.2.2 (sp_E S 1).1.1 ef1 []) [.ref 0, .int r, .int m] (fun v L => q_k22 r (m < 1 ∨ nI (sp_R S (sp_i r)).length < m) = 0 ∧ v = some (.int (nI ((sp_R S (sp_i r)).take ((sp_R S (sp_i r)).length - sp_i m)).length)) ∧ sp_CW (sp_uR S (sp_i r) ((sp_R S (sp_i r)).take ((sp_R S (sp_i r)).length - sp_i m))) L) (fun E L => ((z_xI E ∧ q_k22 r (m < 1 ∨ nI (sp_R S (sp_i r)).length < m) = 1) ∨ (z_xA E ∧ q_k22 r (m < 1 ∨ nI (sp_R S (sp_i r)).length < m) = 2)) ∧ L = (z_cw S.1.1 S.1.2 (nI (sp_R S 0).length) (sp_F S 0) fa (sp_C S 0) (nI (sp_R S 1).length) (sp_F S 1) fb (sp_C S 1) mt false ft ct f0 g0 (sp_C S 2) (nI (sp_T S 0).length) 0 f1 g1 c1 (nI (sp_T S 1).length) 0 f2 g2 c2 (nI (sp_T S 2).length) 1 f3 g3 c3 m3 0 f4 g4 c4 m4 0 f5 g5 c5 m5 1 (nI (sp_E S 0).2.length) (sp_E S 0).1.2.1 (sp_E S 0).1.2.2.1 (sp_E S 0).1.2.2.2 (sp_E S 0).1.1 ef0 (nI (sp_E S 1).2.length) (sp_E S 1).1.2.1 (sp_E S 1).1.2.2.1 (sp_E S 1).1.2.2.2 (sp_E S 1).1.1 ef1 [])) := by
  refine z_body hl (by decide) rfl (Nat.le_of_ble_eq_true rfl) ?_
  show z_J G l mX8_drop (z_SX 20 14 120 (z_cw S.1.1 S.1.2 (nI (sp_R S 0).length) (sp_F S 0) fa (sp_C S 0) (nI (sp_R S 1).length) (sp_F S 1) fb (sp_C S 1) mt false ft ct f0 g0 (sp_C S 2) (nI (sp_T S 0).length) 0 f1 g1 c1 (nI (sp_T S 1).length) 0 f2 g2 c2 (nI (sp_T S 2).length) 1 f3 g3 c3 m3 0 f4 g4 c4 m4 0 f5 g5 c5 m5 1 (nI (sp_E S 0).2.length) (sp_E S 0).1.2.1 (sp_E S 0).1.2.2.1 (sp_E S 0).1.2.2.2 (sp_E S 0).1.1 ef0 (nI (sp_E S 1).2.length) (sp_E S 1).1.2.1 (sp_E S 1).1.2.2.1 (sp_E S 1).1.2.2.2 (sp_E S 1).1.1 ef1 []) (fun v L => q_k22 r (m < 1 ∨ nI (sp_R S (sp_i r)).length < m) = 0 ∧ v = some (.int (nI ((sp_R S (sp_i r)).take ((sp_R S (sp_i r)).length - sp_i m)).length)) ∧ sp_CW (sp_uR S (sp_i r) ((sp_R S (sp_i r)).take ((sp_R S (sp_i r)).length - sp_i m))) L) (fun E L => ((z_xI E ∧ q_k22 r (m < 1 ∨ nI (sp_R S (sp_i r)).length < m) = 1) ∨ (z_xA E ∧ q_k22 r (m < 1 ∨ nI (sp_R S (sp_i r)).length < m) = 2)) ∧ L = (z_cw S.1.1 S.1.2 (nI (sp_R S 0).length) (sp_F S 0) fa (sp_C S 0) (nI (sp_R S 1).length) (sp_F S 1) fb (sp_C S 1) mt false ft ct f0 g0 (sp_C S 2) (nI (sp_T S 0).length) 0 f1 g1 c1 (nI (sp_T S 1).length) 0 f2 g2 c2 (nI (sp_T S 2).length) 1 f3 g3 c3 m3 0 f4 g4 c4 m4 0 f5 g5 c5 m5 1 (nI (sp_E S 0).2.length) (sp_E S 0).1.2.1 (sp_E S 0).1.2.2.1 (sp_E S 0).1.2.2.2 (sp_E S 0).1.1 ef0 (nI (sp_E S 1).2.length) (sp_E S 1).1.2.1 (sp_E S 1).1.2.2.1 (sp_E S 1).1.2.2.2 (sp_E S 1).1.1 ef1 []))) 0 [(0, _), (1, _), (2, _)] [] _ 0 0
  refine j_aload_n dX8_drop_0 rfl rfl ?_
  refine j_iload_n dX8_drop_1 rfl ?_
  refine j_callV (q := (RX8, TX8, 9)) dX8_drop_2 kX8_rowFor lX8_46 inX8_rowFor seX8_rowFor rfl rfl (z_dirX (c_X8_rowFor_e hl _ _ _ _ _ _ _ _ _ _ _ _ _ _ _ _ _ _ _ _ _ _ _ _ _ _ _ _ _ _ _ _ _ _ _ _ _ _ _ _ _ _ _ _ _ _ _ _ _ _ _ _ _ _ _ _ _)) (Nat.le_of_ble_eq_true rfl) ⟨(Nat.le_of_ble_eq_true rfl), (Nat.le_of_ble_eq_true rfl)⟩ rfl (Nat.le_of_ble_eq_true rfl) rfl rfl (fun _ _ h => by obtain ⟨_, ⟨h1, rfl⟩, rfl⟩ := h; exact ⟨rfl, rfl, Or.inl ⟨h1.1, sp_k22_1 h1.2⟩, rfl⟩) ?_
  rintro _ _ ⟨_, ⟨_, rfl, hr, rfl⟩, rfl⟩
  rcases hr with ⟨e_2, rfl⟩ | ⟨e_2, rfl⟩
  · subst e_2
    refine j_astore_n (lo' := [(3, _), (0, _), (1, _), (2, _)]) dX8_drop_5 rfl (by decide) rfl ?_
    refine j_iload_n dX8_drop_6 rfl ?_
    refine j_iconst (v := 1) dX8_drop_7 (by decide) ?_
    refine j_aload_n dX8_drop_8 rfl rfl ?_
    refine j_getf dX8_drop_9 fX8_68 rfl rfl ?_
    refine j_callS dX8_drop_12 kX8_checkRange lX8_72 stX8_checkRange (c_X8_checkRange_e hl _ _ _ _) (Nat.le_of_ble_eq_true rfl) ⟨(Nat.le_of_ble_eq_true rfl), (Nat.le_of_ble_eq_true rfl)⟩ rfl (Nat.le_of_ble_eq_true rfl) rfl rfl (fun _ _ h => by obtain ⟨h1, rfl⟩ := h; exact ⟨rfl, rfl, Or.inr ⟨h1.1, sp_k22_2 (Or.inl rfl) (by rw [sp_i0]; exact h1.2)⟩, rfl⟩) ?_
    rintro _ _ ⟨⟨rfl, hc12⟩, rfl⟩
    obtain ⟨k, hk1, hk2, rfl⟩ := sp_nt1 (m := (sp_R S 0).length) rfl (by have := hra.2.1; omega) hc12
    refine j_aload_n dX8_drop_15 rfl rfl ?_
    refine j_iload_n dX8_drop_16 rfl ?_
    refine j_callV (q := (RX1, TX1, 4)) dX8_drop_17 kX1_shorten lX8_76 inX1_shorten seX1_shorten rfl rfl (z_frame [2, 3, 4, 5] rfl (by decide) (Nat.le_of_ble_eq_true rfl) (c_X1_shorten_e hl _ _ _ (sp_R S 0) (sp_R S 0).length k hra rfl hk2)) (Nat.le_of_ble_eq_true rfl) ⟨(Nat.le_of_ble_eq_true rfl), (Nat.le_of_ble_eq_true rfl)⟩ rfl (Nat.le_of_ble_eq_true rfl) rfl rfl (fun _ _ h => h.elim) ?_
    rintro _ _ ⟨_, _, ⟨rfl, rfl⟩, rfl, rfl⟩
    refine j_ws (L' := z_cw _ _ _ _ _ _ _ _ _ _ _ _ _ _ _ _ _ _ _ _ _ _ _ _ _ _ _ _ _ _ _ _ _ _ _ _ _ _ _ _ _ _ _ _ _ _ _ _ _ _ _ _ _ _ _ _ []) (by decide) rfl rfl ?_
    refine j_aload_n dX8_drop_20 rfl rfl ?_
    refine j_getf dX8_drop_21 fX8_68 rfl rfl ?_
    refine j_iret dX8_drop_24 rfl rfl ?_ (Nat.le_of_ble_eq_true rfl) (Nat.le_of_ble_eq_true rfl)
    refine ⟨rfl, (by first | exact z_cwl | rfl), ?_⟩
    rw [sp_i0, sp_in' (n := k) (by have := hra.2.1; omega)]
    exact ⟨sp_k22_0 (Or.inl rfl) hc12, rfl, (sp_CWe ((by have z := hra.take hk2; exact (sp_take_row hra hk2))) hrb ht0 ht1 ht2 he0 he1 hzm3 hzm4 hzm5 rfl)⟩
  · subst e_2
    refine j_astore_n (lo' := [(3, _), (0, _), (1, _), (2, _)]) dX8_drop_5 rfl (by decide) rfl ?_
    refine j_iload_n dX8_drop_6 rfl ?_
    refine j_iconst (v := 1) dX8_drop_7 (by decide) ?_
    refine j_aload_n dX8_drop_8 rfl rfl ?_
    refine j_getf dX8_drop_9 fX8_68 rfl rfl ?_
    refine j_callS dX8_drop_12 kX8_checkRange lX8_72 stX8_checkRange (c_X8_checkRange_e hl _ _ _ _) (Nat.le_of_ble_eq_true rfl) ⟨(Nat.le_of_ble_eq_true rfl), (Nat.le_of_ble_eq_true rfl)⟩ rfl (Nat.le_of_ble_eq_true rfl) rfl rfl (fun _ _ h => by obtain ⟨h1, rfl⟩ := h; exact ⟨rfl, rfl, Or.inr ⟨h1.1, sp_k22_2 (Or.inr rfl) (by rw [sp_i1]; exact h1.2)⟩, rfl⟩) ?_
    rintro _ _ ⟨⟨rfl, hc12⟩, rfl⟩
    obtain ⟨k, hk1, hk2, rfl⟩ := sp_nt1 (m := (sp_R S 1).length) rfl (by have := hrb.2.1; omega) hc12
    refine j_aload_n dX8_drop_15 rfl rfl ?_
    refine j_iload_n dX8_drop_16 rfl ?_
    refine j_callV (q := (RX1, TX1, 4)) dX8_drop_17 kX1_shorten lX8_76 inX1_shorten seX1_shorten rfl rfl (z_frame [6, 7, 8, 9] rfl (by decide) (Nat.le_of_ble_eq_true rfl) (c_X1_shorten_e hl _ _ _ (sp_R S 1) (sp_R S 1).length k hrb rfl hk2)) (Nat.le_of_ble_eq_true rfl) ⟨(Nat.le_of_ble_eq_true rfl), (Nat.le_of_ble_eq_true rfl)⟩ rfl (Nat.le_of_ble_eq_true rfl) rfl rfl (fun _ _ h => h.elim) ?_
    rintro _ _ ⟨_, _, ⟨rfl, rfl⟩, rfl, rfl⟩
    refine j_ws (L' := z_cw _ _ _ _ _ _ _ _ _ _ _ _ _ _ _ _ _ _ _ _ _ _ _ _ _ _ _ _ _ _ _ _ _ _ _ _ _ _ _ _ _ _ _ _ _ _ _ _ _ _ _ _ _ _ _ _ []) (by decide) rfl rfl ?_
    refine j_aload_n dX8_drop_20 rfl rfl ?_
    refine j_getf dX8_drop_21 fX8_68 rfl rfl ?_
    refine j_iret dX8_drop_24 rfl rfl ?_ (Nat.le_of_ble_eq_true rfl) (Nat.le_of_ble_eq_true rfl)
    refine ⟨rfl, (by first | exact z_cwl | rfl), ?_⟩
    rw [sp_i1, sp_in' (n := k) (by have := hrb.2.1; omega)]
    exact ⟨sp_k22_0 (Or.inr rfl) hc12, rfl, (sp_CWe hra ((by have z := hrb.take hk2; exact (sp_take_row hrb hk2))) ht0 ht1 ht2 he0 he1 hzm3 hzm4 hzm5 rfl)⟩
set_option maxRecDepth 100000 in
set_option maxHeartbeats 8000000 in
theorem c_X8_fix_p (hl : l.stackTraces = false) (S : sp_S) (fa : Nat → Int32) (fb : Nat → Int32) (mt : Int32) (ft : Nat → Int32) (ct : Nat → Int32) (f0 : Nat → Int32) (g0 : Nat → Int32) (f1 : Nat → Int32) (g1 : Nat → Int32) (c1 : Nat → Int32) (f2 : Nat → Int32) (g2 : Nat → Int32) (c2 : Nat → Int32) (f3 : Nat → Int32) (g3 : Nat → Int32) (c3 : Nat → Int32) (m3 : Int32) (f4 : Nat → Int32) (g4 : Nat → Int32) (c4 : Nat → Int32) (m4 : Int32) (f5 : Nat → Int32) (g5 : Nat → Int32) (c5 : Nat → Int32) (m5 : Int32) (ef0 : Nat → Int32) (ef1 : Nat → Int32) (r : Int32) (b : Bool) (ok : sp_ok S) (hra : z_row 12 (nI (sp_R S 0).length) fa (sp_R S 0)) (hrb : z_row 12 (nI (sp_R S 1).length) fb (sp_R S 1)) (ht0 : z_tba f0 g0 (sp_T S 0)) (ht1 : z_tba f1 g1 (sp_T S 1)) (ht2 : z_tba f2 g2 (sp_T S 2)) (he0 : z_row 10 (nI (sp_E S 0).2.length) ef0 (sp_E S 0).2) (he1 : z_row 10 (nI (sp_E S 1).2.length) ef1 (sp_E S 1).2) (hzm3 : z_m20 m3) (hzm4 : z_m20 m4) (hzm5 : z_m20 m5) : z_CX G l mX8_fix 20 14 120 (z_cw S.1.1 S.1.2 (nI (sp_R S 0).length) (sp_F S 0) fa (sp_C S 0) (nI (sp_R S 1).length) (sp_F S 1) fb (sp_C S 1) mt false ft ct f0 g0 (sp_C S 2) (nI (sp_T S 0).length) 0 f1 g1 c1 (nI (sp_T S 1).length) 0 f2 g2 c2 (nI (sp_T S 2).length) 1 f3 g3 c3 m3 0 f4 g4 c4 m4 0 f5 g5 c5 m5 1 (nI (sp_E S 0).2.length) (sp_E S 0).1.2.1 (sp_E S 0).1.2.2.1 (sp_E S 0).1.2.2.2 (sp_E S 0).1.1 ef0 (nI (sp_E S 1).2.length) (sp_E S 1).1.2.1 (sp_E S 1).1.2.2.1 (sp_E S 1).1.2.2.2 (sp_E S 1).1.1 ef1 []) [.ref 0, .int r, .int (z_bi b)] (fun v L => q_k2 r = 0 ∧ v = some (.int (z_bi (sp_F S (sp_i r)))) ∧ sp_CW (sp_uF S (sp_i r) b) L) (fun E L => ((z_xI E ∧ q_k2 r = 1)) ∧ L = (z_cw S.1.1 S.1.2 (nI (sp_R S 0).length) (sp_F S 0) fa (sp_C S 0) (nI (sp_R S 1).length) (sp_F S 1) fb (sp_C S 1) mt false ft ct f0 g0 (sp_C S 2) (nI (sp_T S 0).length) 0 f1 g1 c1 (nI (sp_T S 1).length) 0 f2 g2 c2 (nI (sp_T S 2).length) 1 f3 g3 c3 m3 0 f4 g4 c4 m4 0 f5 g5 c5 m5 1 (nI (sp_E S 0).2.length) (sp_E S 0).1.2.1 (sp_E S 0).1.2.2.1 (sp_E S 0).1.2.2.2 (sp_E S 0).1.1 ef0 (nI (sp_E S 1).2.length) (sp_E S 1).1.2.1 (sp_E S 1).1.2.2.1 (sp_E S 1).1.2.2.2 (sp_E S 1).1.1 ef1 [])) := by
  refine z_body hl (by decide) rfl (Nat.le_of_ble_eq_true rfl) ?_
  show z_J G l mX8_fix (z_SX 20 14 120 (z_cw S.1.1 S.1.2 (nI (sp_R S 0).length) (sp_F S 0) fa (sp_C S 0) (nI (sp_R S 1).length) (sp_F S 1) fb (sp_C S 1) mt false ft ct f0 g0 (sp_C S 2) (nI (sp_T S 0).length) 0 f1 g1 c1 (nI (sp_T S 1).length) 0 f2 g2 c2 (nI (sp_T S 2).length) 1 f3 g3 c3 m3 0 f4 g4 c4 m4 0 f5 g5 c5 m5 1 (nI (sp_E S 0).2.length) (sp_E S 0).1.2.1 (sp_E S 0).1.2.2.1 (sp_E S 0).1.2.2.2 (sp_E S 0).1.1 ef0 (nI (sp_E S 1).2.length) (sp_E S 1).1.2.1 (sp_E S 1).1.2.2.1 (sp_E S 1).1.2.2.2 (sp_E S 1).1.1 ef1 []) (fun v L => q_k2 r = 0 ∧ v = some (.int (z_bi (sp_F S (sp_i r)))) ∧ sp_CW (sp_uF S (sp_i r) b) L) (fun E L => ((z_xI E ∧ q_k2 r = 1)) ∧ L = (z_cw S.1.1 S.1.2 (nI (sp_R S 0).length) (sp_F S 0) fa (sp_C S 0) (nI (sp_R S 1).length) (sp_F S 1) fb (sp_C S 1) mt false ft ct f0 g0 (sp_C S 2) (nI (sp_T S 0).length) 0 f1 g1 c1 (nI (sp_T S 1).length) 0 f2 g2 c2 (nI (sp_T S 2).length) 1 f3 g3 c3 m3 0 f4 g4 c4 m4 0 f5 g5 c5 m5 1 (nI (sp_E S 0).2.length) (sp_E S 0).1.2.1 (sp_E S 0).1.2.2.1 (sp_E S 0).1.2.2.2 (sp_E S 0).1.1 ef0 (nI (sp_E S 1).2.length) (sp_E S 1).1.2.1 (sp_E S 1).1.2.2.1 (sp_E S 1).1.2.2.2 (sp_E S 1).1.1 ef1 []))) 0 [(0, _), (1, _), (2, _)] [] _ 0 0
  refine j_aload_n dX8_fix_0 rfl rfl ?_
  refine j_iload_n dX8_fix_1 rfl ?_
  refine j_callV (q := (RX8, TX8, 9)) dX8_fix_2 kX8_rowFor lX8_46 inX8_rowFor seX8_rowFor rfl rfl (z_dirX (c_X8_rowFor_e hl _ _ _ _ _ _ _ _ _ _ _ _ _ _ _ _ _ _ _ _ _ _ _ _ _ _ _ _ _ _ _ _ _ _ _ _ _ _ _ _ _ _ _ _ _ _ _ _ _ _ _ _ _ _ _ _ _)) (Nat.le_of_ble_eq_true rfl) ⟨(Nat.le_of_ble_eq_true rfl), (Nat.le_of_ble_eq_true rfl)⟩ rfl (Nat.le_of_ble_eq_true rfl) rfl rfl (fun _ _ h => by obtain ⟨_, ⟨h1, rfl⟩, rfl⟩ := h; exact ⟨rfl, rfl, ⟨h1.1, sp_k2_1 h1.2⟩, rfl⟩) ?_
  rintro _ _ ⟨_, ⟨_, rfl, hr, rfl⟩, rfl⟩
  rcases hr with ⟨e_2, rfl⟩ | ⟨e_2, rfl⟩
  · subst e_2
    refine j_astore_n (lo' := [(3, _), (0, _), (1, _), (2, _)]) dX8_fix_5 rfl (by decide) rfl ?_
    refine j_aload_n dX8_fix_6 rfl rfl ?_
    refine j_getf dX8_fix_7 fX8_79 rfl rfl ?_
    refine j_callS dX8_fix_10 kX8_oneIf lX8_83 stX8_oneIf (c_X8_oneIf_b hl _ (sp_F S 0)) (Nat.le_of_ble_eq_true rfl) ⟨(Nat.le_of_ble_eq_true rfl), (Nat.le_of_ble_eq_true rfl)⟩ rfl (Nat.le_of_ble_eq_true rfl) rfl rfl (fun _ _ h => h.elim) ?_
    rintro _ _ ⟨rfl, rfl⟩
    refine j_istore (lo' := [(4, _), (3, _), (0, _), (1, _), (2, _)]) dX8_fix_13 (by decide) rfl ?_
    refine j_aload_n dX8_fix_15 rfl rfl ?_
    refine j_iload_n dX8_fix_16 rfl ?_
    refine j_put (w' := (z_cw _ _ _ _ _ _ _ _ _ _ _ _ _ _ _ _ _ _ _ _ _ _ _ _ _ _ _ _ _ _ _ _ _ _ _ _ _ _ _ _ _ _ _ _ _ _ _ _ _ _ _ _ _ _ _ _ [], z_no)) dX8_fix_17 fX8_79 tX1_3 rfl ⟨z_bn _, z_bf _⟩ rfl ?_
    refine j_iload dX8_fix_20 rfl ?_
    refine j_iret dX8_fix_22 rfl rfl ?_ (Nat.le_of_ble_eq_true rfl) (Nat.le_of_ble_eq_true rfl)
    refine ⟨rfl, (by first | exact z_cwl | rfl), ?_⟩
    rw [sp_i0]
    exact ⟨sp_k2_0 (Or.inl rfl), rfl, (sp_CWe hra hrb ht0 ht1 ht2 he0 he1 hzm3 hzm4 hzm5 rfl)⟩
  · subst e_2
    refine j_astore_n (lo' := [(3, _), (0, _), (1, _), (2, _)]) dX8_fix_5 rfl (by decide) rfl ?_
    refine j_aload_n dX8_fix_6 rfl rfl ?_
    refine j_getf dX8_fix_7 fX8_79 rfl rfl ?_
    refine j_callS dX8_fix_10 kX8_oneIf lX8_83 stX8_oneIf (c_X8_oneIf_b hl _ (sp_F S 1)) (Nat.le_of_ble_eq_true rfl) ⟨(Nat.le_of_ble_eq_true rfl), (Nat.le_of_ble_eq_true rfl)⟩ rfl (Nat.le_of_ble_eq_true rfl) rfl rfl (fun _ _ h => h.elim) ?_
    rintro _ _ ⟨rfl, rfl⟩
    refine j_istore (lo' := [(4, _), (3, _), (0, _), (1, _), (2, _)]) dX8_fix_13 (by decide) rfl ?_
    refine j_aload_n dX8_fix_15 rfl rfl ?_
    refine j_iload_n dX8_fix_16 rfl ?_
    refine j_put (w' := (z_cw _ _ _ _ _ _ _ _ _ _ _ _ _ _ _ _ _ _ _ _ _ _ _ _ _ _ _ _ _ _ _ _ _ _ _ _ _ _ _ _ _ _ _ _ _ _ _ _ _ _ _ _ _ _ _ _ [], z_no)) dX8_fix_17 fX8_79 tX1_3 rfl ⟨z_bn _, z_bf _⟩ rfl ?_
    refine j_iload dX8_fix_20 rfl ?_
    refine j_iret dX8_fix_22 rfl rfl ?_ (Nat.le_of_ble_eq_true rfl) (Nat.le_of_ble_eq_true rfl)
    refine ⟨rfl, (by first | exact z_cwl | rfl), ?_⟩
    rw [sp_i1]
    exact ⟨sp_k2_0 (Or.inr rfl), rfl, (sp_CWe hra hrb ht0 ht1 ht2 he0 he1 hzm3 hzm4 hzm5 rfl)⟩
set_option maxRecDepth 100000 in
set_option maxHeartbeats 8000000 in
theorem c_X8_isFixed_p (hl : l.stackTraces = false) (S : sp_S) (fa : Nat → Int32) (fb : Nat → Int32) (mt : Int32) (ft : Nat → Int32) (ct : Nat → Int32) (f0 : Nat → Int32) (g0 : Nat → Int32) (f1 : Nat → Int32) (g1 : Nat → Int32) (c1 : Nat → Int32) (f2 : Nat → Int32) (g2 : Nat → Int32) (c2 : Nat → Int32) (f3 : Nat → Int32) (g3 : Nat → Int32) (c3 : Nat → Int32) (m3 : Int32) (f4 : Nat → Int32) (g4 : Nat → Int32) (c4 : Nat → Int32) (m4 : Int32) (f5 : Nat → Int32) (g5 : Nat → Int32) (c5 : Nat → Int32) (m5 : Int32) (ef0 : Nat → Int32) (ef1 : Nat → Int32) (r : Int32) (ok : sp_ok S) (hra : z_row 12 (nI (sp_R S 0).length) fa (sp_R S 0)) (hrb : z_row 12 (nI (sp_R S 1).length) fb (sp_R S 1)) (ht0 : z_tba f0 g0 (sp_T S 0)) (ht1 : z_tba f1 g1 (sp_T S 1)) (ht2 : z_tba f2 g2 (sp_T S 2)) (he0 : z_row 10 (nI (sp_E S 0).2.length) ef0 (sp_E S 0).2) (he1 : z_row 10 (nI (sp_E S 1).2.length) ef1 (sp_E S 1).2) (hzm3 : z_m20 m3) (hzm4 : z_m20 m4) (hzm5 : z_m20 m5) : z_CX G l mX8_isFixed 20 14 120 (z_cw S.1.1 S.1.2 (nI (sp_R S 0).length) (sp_F S 0) fa (sp_C S 0) (nI (sp_R S 1).length) (sp_F S 1) fb (sp_C S 1) mt false ft ct f0 g0 (sp_C S 2) (nI (sp_T S 0).length) 0 f1 g1 c1 (nI (sp_T S 1).length) 0 f2 g2 c2 (nI (sp_T S 2).length) 1 f3 g3 c3 m3 0 f4 g4 c4 m4 0 f5 g5 c5 m5 1 (nI (sp_E S 0).2.length) (sp_E S 0).1.2.1 (sp_E S 0).1.2.2.1 (sp_E S 0).1.2.2.2 (sp_E S 0).1.1 ef0 (nI (sp_E S 1).2.length) (sp_E S 1).1.2.1 (sp_E S 1).1.2.2.1 (sp_E S 1).1.2.2.2 (sp_E S 1).1.1 ef1 []) [.ref 0, .int r] (fun v L => q_k2 r = 0 ∧ v = some (.int (z_bi (sp_F S (sp_i r)))) ∧ sp_CW (S) L) (fun E L => ((z_xI E ∧ q_k2 r = 1)) ∧ L = (z_cw S.1.1 S.1.2 (nI (sp_R S 0).length) (sp_F S 0) fa (sp_C S 0) (nI (sp_R S 1).length) (sp_F S 1) fb (sp_C S 1) mt false ft ct f0 g0 (sp_C S 2) (nI (sp_T S 0).length) 0 f1 g1 c1 (nI (sp_T S 1).length) 0 f2 g2 c2 (nI (sp_T S 2).length) 1 f3 g3 c3 m3 0 f4 g4 c4 m4 0 f5 g5 c5 m5 1 (nI (sp_E S 0).2.length) (sp_E S 0).1.2.1 (sp_E S 0).1.2.2.1 (sp_E S 0).1.2.2.2 (sp_E S 0).1.1 ef0 (nI (sp_E S 1).2.length) (sp_E S 1).1.2.1 (sp_E S 1).1.2.2.1 (sp_E S 1).1.2.2.2 (sp_E S 1).1.1 ef1 [])) := by
  refine z_body hl (by decide) rfl (Nat.le_of_ble_eq_true rfl) ?_
  show z_J G l mX8_isFixed (z_SX 20 14 120 (z_cw S.1.1 S.1.2 (nI (sp_R S 0).length) (sp_F S 0) fa (sp_C S 0) (nI (sp_R S 1).length) (sp_F S 1) fb (sp_C S 1) mt false ft ct f0 g0 (sp_C S 2) (nI (sp_T S 0).length) 0 f1 g1 c1 (nI (sp_T S 1).length) 0 f2 g2 c2 (nI (sp_T S 2).length) 1 f3 g3 c3 m3 0 f4 g4 c4 m4 0 f5 g5 c5 m5 1 (nI (sp_E S 0).2.length) (sp_E S 0).1.2.1 (sp_E S 0).1.2.2.1 (sp_E S 0).1.2.2.2 (sp_E S 0).1.1 ef0 (nI (sp_E S 1).2.length) (sp_E S 1).1.2.1 (sp_E S 1).1.2.2.1 (sp_E S 1).1.2.2.2 (sp_E S 1).1.1 ef1 []) (fun v L => q_k2 r = 0 ∧ v = some (.int (z_bi (sp_F S (sp_i r)))) ∧ sp_CW (S) L) (fun E L => ((z_xI E ∧ q_k2 r = 1)) ∧ L = (z_cw S.1.1 S.1.2 (nI (sp_R S 0).length) (sp_F S 0) fa (sp_C S 0) (nI (sp_R S 1).length) (sp_F S 1) fb (sp_C S 1) mt false ft ct f0 g0 (sp_C S 2) (nI (sp_T S 0).length) 0 f1 g1 c1 (nI (sp_T S 1).length) 0 f2 g2 c2 (nI (sp_T S 2).length) 1 f3 g3 c3 m3 0 f4 g4 c4 m4 0 f5 g5 c5 m5 1 (nI (sp_E S 0).2.length) (sp_E S 0).1.2.1 (sp_E S 0).1.2.2.1 (sp_E S 0).1.2.2.2 (sp_E S 0).1.1 ef0 (nI (sp_E S 1).2.length) (sp_E S 1).1.2.1 (sp_E S 1).1.2.2.1 (sp_E S 1).1.2.2.2 (sp_E S 1).1.1 ef1 []))) 0 [(0, _), (1, _)] [] _ 0 0
  refine j_aload_n dX8_isFixed_0 rfl rfl ?_
  refine j_iload_n dX8_isFixed_1 rfl ?_
  refine j_callV (q := (RX8, TX8, 9)) dX8_isFixed_2 kX8_rowFor lX8_46 inX8_rowFor seX8_rowFor rfl rfl (z_dirX (c_X8_rowFor_e hl _ _ _ _ _ _ _ _ _ _ _ _ _ _ _ _ _ _ _ _ _ _ _ _ _ _ _ _ _ _ _ _ _ _ _ _ _ _ _ _ _ _ _ _ _ _ _ _ _ _ _ _ _ _ _ _ _)) (Nat.le_of_ble_eq_true rfl) ⟨(Nat.le_of_ble_eq_true rfl), (Nat.le_of_ble_eq_true rfl)⟩ rfl (Nat.le_of_ble_eq_true rfl) rfl rfl (fun _ _ h => by obtain ⟨_, ⟨h1, rfl⟩, rfl⟩ := h; exact ⟨rfl, rfl, ⟨h1.1, sp_k2_1 h1.2⟩, rfl⟩) ?_
  rintro _ _ ⟨_, ⟨_, rfl, hr, rfl⟩, rfl⟩
  rcases hr with ⟨e_2, rfl⟩ | ⟨e_2, rfl⟩
  · subst e_2
    refine j_getf dX8_isFixed_5 fX8_79 rfl rfl ?_
    refine j_iret dX8_isFixed_8 rfl (z_bn _) ?_ (Nat.le_of_ble_eq_true rfl) (Nat.le_of_ble_eq_true rfl)
    refine ⟨rfl, (by first | exact z_cwl | rfl), ?_⟩
    rw [sp_i0]
    exact ⟨sp_k2_0 (Or.inl rfl), rfl, (sp_CWe hra hrb ht0 ht1 ht2 he0 he1 hzm3 hzm4 hzm5 rfl)⟩
  · subst e_2
    refine j_getf dX8_isFixed_5 fX8_79 rfl rfl ?_
    refine j_iret dX8_isFixed_8 rfl (z_bn _) ?_ (Nat.le_of_ble_eq_true rfl) (Nat.le_of_ble_eq_true rfl)
    refine ⟨rfl, (by first | exact z_cwl | rfl), ?_⟩
    rw [sp_i1]
    exact ⟨sp_k2_0 (Or.inr rfl), rfl, (sp_CWe hra hrb ht0 ht1 ht2 he0 he1 hzm3 hzm4 hzm5 rfl)⟩
set_option maxRecDepth 100000 in
set_option maxHeartbeats 8000000 in
theorem c_X8_length_p (hl : l.stackTraces = false) (S : sp_S) (fa : Nat → Int32) (fb : Nat → Int32) (mt : Int32) (ft : Nat → Int32) (ct : Nat → Int32) (f0 : Nat → Int32) (g0 : Nat → Int32) (f1 : Nat → Int32) (g1 : Nat → Int32) (c1 : Nat → Int32) (f2 : Nat → Int32) (g2 : Nat → Int32) (c2 : Nat → Int32) (f3 : Nat → Int32) (g3 : Nat → Int32) (c3 : Nat → Int32) (m3 : Int32) (f4 : Nat → Int32) (g4 : Nat → Int32) (c4 : Nat → Int32) (m4 : Int32) (f5 : Nat → Int32) (g5 : Nat → Int32) (c5 : Nat → Int32) (m5 : Int32) (ef0 : Nat → Int32) (ef1 : Nat → Int32) (r : Int32) (ok : sp_ok S) (hra : z_row 12 (nI (sp_R S 0).length) fa (sp_R S 0)) (hrb : z_row 12 (nI (sp_R S 1).length) fb (sp_R S 1)) (ht0 : z_tba f0 g0 (sp_T S 0)) (ht1 : z_tba f1 g1 (sp_T S 1)) (ht2 : z_tba f2 g2 (sp_T S 2)) (he0 : z_row 10 (nI (sp_E S 0).2.length) ef0 (sp_E S 0).2) (he1 : z_row 10 (nI (sp_E S 1).2.length) ef1 (sp_E S 1).2) (hzm3 : z_m20 m3) (hzm4 : z_m20 m4) (hzm5 : z_m20 m5) : z_CX G l mX8_length 20 14 120 (z_cw S.1.1 S.1.2 (nI (sp_R S 0).length) (sp_F S 0) fa (sp_C S 0) (nI (sp_R S 1).length) (sp_F S 1) fb (sp_C S 1) mt false ft ct f0 g0 (sp_C S 2) (nI (sp_T S 0).length) 0 f1 g1 c1 (nI (sp_T S 1).length) 0 f2 g2 c2 (nI (sp_T S 2).length) 1 f3 g3 c3 m3 0 f4 g4 c4 m4 0 f5 g5 c5 m5 1 (nI (sp_E S 0).2.length) (sp_E S 0).1.2.1 (sp_E S 0).1.2.2.1 (sp_E S 0).1.2.2.2 (sp_E S 0).1.1 ef0 (nI (sp_E S 1).2.length) (sp_E S 1).1.2.1 (sp_E S 1).1.2.2.1 (sp_E S 1).1.2.2.2 (sp_E S 1).1.1 ef1 []) [.ref 0, .int r] (fun v L => q_k2 r = 0 ∧ v = some (.int (nI (sp_R S (sp_i r)).length)) ∧ sp_CW (S) L) (fun E L => ((z_xI E ∧ q_k2 r = 1)) ∧ L = (z_cw S.1.1 S.1.2 (nI (sp_R S 0).length) (sp_F S 0) fa (sp_C S 0) (nI (sp_R S 1).length) (sp_F S 1) fb (sp_C S 1) mt false ft ct f0 g0 (sp_C S 2) (nI (sp_T S 0).length) 0 f1 g1 c1 (nI (sp_T S 1).length) 0 f2 g2 c2 (nI (sp_T S 2).length) 1 f3 g3 c3 m3 0 f4 g4 c4 m4 0 f5 g5 c5 m5 1 (nI (sp_E S 0).2.length) (sp_E S 0).1.2.1 (sp_E S 0).1.2.2.1 (sp_E S 0).1.2.2.2 (sp_E S 0).1.1 ef0 (nI (sp_E S 1).2.length) (sp_E S 1).1.2.1 (sp_E S 1).1.2.2.1 (sp_E S 1).1.2.2.2 (sp_E S 1).1.1 ef1 [])) := by
  refine z_body hl (by decide) rfl (Nat.le_of_ble_eq_true rfl) ?_
  show z_J G l mX8_length (z_SX 20 14 120 (z_cw S.1.1 S.1.2 (nI (sp_R S 0).length) (sp_F S 0) fa (sp_C S 0) (nI (sp_R S 1).length) (sp_F S 1) fb (sp_C S 1) mt false ft ct f0 g0 (sp_C S 2) (nI (sp_T S 0).length) 0 f1 g1 c1 (nI (sp_T S 1).length) 0 f2 g2 c2 (nI (sp_T S 2).length) 1 f3 g3 c3 m3 0 f4 g4 c4 m4 0 f5 g5 c5 m5 1 (nI (sp_E S 0).2.length) (sp_E S 0).1.2.1 (sp_E S 0).1.2.2.1 (sp_E S 0).1.2.2.2 (sp_E S 0).1.1 ef0 (nI (sp_E S 1).2.length) (sp_E S 1).1.2.1 (sp_E S 1).1.2.2.1 (sp_E S 1).1.2.2.2 (sp_E S 1).1.1 ef1 []) (fun v L => q_k2 r = 0 ∧ v = some (.int (nI (sp_R S (sp_i r)).length)) ∧ sp_CW (S) L) (fun E L => ((z_xI E ∧ q_k2 r = 1)) ∧ L = (z_cw S.1.1 S.1.2 (nI (sp_R S 0).length) (sp_F S 0) fa (sp_C S 0) (nI (sp_R S 1).length) (sp_F S 1) fb (sp_C S 1) mt false ft ct f0 g0 (sp_C S 2) (nI (sp_T S 0).length) 0 f1 g1 c1 (nI (sp_T S 1).length) 0 f2 g2 c2 (nI (sp_T S 2).length) 1 f3 g3 c3 m3 0 f4 g4 c4 m4 0 f5 g5 c5 m5 1 (nI (sp_E S 0).2.length) (sp_E S 0).1.2.1 (sp_E S 0).1.2.2.1 (sp_E S 0).1.2.2.2 (sp_E S 0).1.1 ef0 (nI (sp_E S 1).2.length) (sp_E S 1).1.2.1 (sp_E S 1).1.2.2.1 (sp_E S 1).1.2.2.2 (sp_E S 1).1.1 ef1 []))) 0 [(0, _), (1, _)] [] _ 0 0
  refine j_aload_n dX8_length_0 rfl rfl ?_
  refine j_iload_n dX8_length_1 rfl ?_
  refine j_callV (q := (RX8, TX8, 9)) dX8_length_2 kX8_rowFor lX8_46 inX8_rowFor seX8_rowFor rfl rfl (z_dirX (c_X8_rowFor_e hl _ _ _ _ _ _ _ _ _ _ _ _ _ _ _ _ _ _ _ _ _ _ _ _ _ _ _ _ _ _ _ _ _ _ _ _ _ _ _ _ _ _ _ _ _ _ _ _ _ _ _ _ _ _ _ _ _)) (Nat.le_of_ble_eq_true rfl) ⟨(Nat.le_of_ble_eq_true rfl), (Nat.le_of_ble_eq_true rfl)⟩ rfl (Nat.le_of_ble_eq_true rfl) rfl rfl (fun _ _ h => by obtain ⟨_, ⟨h1, rfl⟩, rfl⟩ := h; exact ⟨rfl, rfl, ⟨h1.1, sp_k2_1 h1.2⟩, rfl⟩) ?_
  rintro _ _ ⟨_, ⟨_, rfl, hr, rfl⟩, rfl⟩
  rcases hr with ⟨e_2, rfl⟩ | ⟨e_2, rfl⟩
  · subst e_2
    refine j_getf dX8_length_5 fX8_68 rfl rfl ?_
    refine j_iret dX8_length_8 rfl rfl ?_ (Nat.le_of_ble_eq_true rfl) (Nat.le_of_ble_eq_true rfl)
    refine ⟨rfl, (by first | exact z_cwl | rfl), ?_⟩
    rw [sp_i0]
    exact ⟨sp_k2_0 (Or.inl rfl), rfl, (sp_CWe hra hrb ht0 ht1 ht2 he0 he1 hzm3 hzm4 hzm5 rfl)⟩
  · subst e_2
    refine j_getf dX8_length_5 fX8_68 rfl rfl ?_
    refine j_iret dX8_length_8 rfl rfl ?_ (Nat.le_of_ble_eq_true rfl) (Nat.le_of_ble_eq_true rfl)
    refine ⟨rfl, (by first | exact z_cwl | rfl), ?_⟩
    rw [sp_i1]
    exact ⟨sp_k2_0 (Or.inr rfl), rfl, (sp_CWe hra hrb ht0 ht1 ht2 he0 he1 hzm3 hzm4 hzm5 rfl)⟩
end ZCp
end ZM2
section ZM3
section ZCp2
variable {G : z_G} {l : Launch}
set_option maxRecDepth 100000 in
set_option maxHeartbeats 8000000 in
theorem c_X8_checkRule_e (hl : l.stackTraces = false) (w : z_W) (a : Int32)  : z_Con G l mX8_checkRule 10 1 6 w [.int a] (fun v w9 => (v = none ∧ ¬ a = 0) ∧ w9 = w) (fun E w9 => (z_xA E ∧ a = 0) ∧ w9 = w) := by
  refine z_body hl (by decide) rfl (Nat.le_of_ble_eq_true rfl) ?_
  show z_J G l mX8_checkRule ((10, 1, 6, w, (fun v w9 => (v = none ∧ ¬ a = 0) ∧ w9 = w), fun E w9 => (z_xA E ∧ a = 0) ∧ w9 = w)) 0 [(0, _)] [] _ 0 0
  refine j_iload_n dX8_checkRule_0 rfl ?_
  refine j_if_ne (tgt := 15) dX8_checkRule_1 (by decide) (fun c_1 => ?_) (fun c_1 => ?_)
  · refine j_vret dX8_checkRule_15 rfl ?_ (Nat.le_of_ble_eq_true rfl) (Nat.le_of_ble_eq_true rfl)
    exact ⟨⟨rfl, c_1⟩, rfl⟩
  · exact j_throwSW (text := "the rule is not one of these") rfl th_A (by decide +kernel) dX8_checkRule_4 dX8_checkRule_7 dX8_checkRule_8 dX8_checkRule_11 dX8_checkRule_14 (Nat.le_of_ble_eq_true rfl) (Nat.le_of_ble_eq_true rfl) ⟨⟨rfl, c_1⟩, rfl⟩ (Nat.le_of_ble_eq_true rfl) (Nat.le_of_ble_eq_true rfl)
set_option maxRecDepth 100000 in
set_option maxHeartbeats 8000000 in
theorem c_X8_spanLength_e (hl : l.stackTraces = false) (w : z_W) (a b c : Int32) (hc : ¬ c < 1) : z_Con G l mX8_spanLength 10 0 0 w [.int a, .int b, .int c] (fun v w9 => (v = some (.int (z_mny a b c))) ∧ w9 = w) (fun _ _ => False) := by
  refine z_body hl (by decide) rfl (Nat.le_of_ble_eq_true rfl) ?_
  show z_J G l mX8_spanLength ((10, 0, 0, w, (fun v w9 => (v = some (.int (z_mny a b c))) ∧ w9 = w), fun _ _ => False)) 0 [(0, _), (1, _), (2, _)] [] _ 0 0
  refine j_iload_n dX8_spanLength_0 rfl ?_
  refine j_iload_n dX8_spanLength_1 rfl ?_
  refine j_icmp_gt (tgt := 10) dX8_spanLength_2 (by decide) (fun c_2 => ?_) (fun c_2 => ?_)
  · have e9 : z_mny a b c = 0 := if_neg (Int32.not_le.mpr c_2)
    refine j_iconst (v := 0) dX8_spanLength_10 (by decide) ?_
    refine j_goto (tgt := 21) dX8_spanLength_11 (by decide) ?_
    refine j_iret dX8_spanLength_21 rfl rfl ?_ (Nat.le_of_ble_eq_true rfl) (Nat.le_of_ble_eq_true rfl)
    exact ⟨by rw [e9], rfl⟩
  · have e9 : z_mny a b c = (b - a) / c + 1 := if_pos (Int32.not_lt.mp c_2)
    refine j_iload_n dX8_spanLength_5 rfl ?_
    refine j_iconst (v := 1) dX8_spanLength_6 (by decide) ?_
    refine j_icmp_ge (tgt := 14) dX8_spanLength_7 (by decide) (fun c_7 => ?_) (fun c_7 => ?_)
    · refine j_iload_n dX8_spanLength_14 rfl ?_
      refine j_iload_n dX8_spanLength_15 rfl ?_
      refine j_isub dX8_spanLength_16 ?_
      refine j_iload_n dX8_spanLength_17 rfl ?_
      refine j_idiv dX8_spanLength_18 (by rintro rfl; exact hc (by decide)) ?_
      refine j_iconst (v := 1) dX8_spanLength_19 (by decide) ?_
      refine j_iadd dX8_spanLength_20 ?_
      refine j_iret dX8_spanLength_21 rfl rfl ?_ (Nat.le_of_ble_eq_true rfl) (Nat.le_of_ble_eq_true rfl)
      exact ⟨by rw [e9], rfl⟩
    · exact absurd (Int32.not_le.mp c_7) hc
set_option maxRecDepth 100000 in
set_option maxHeartbeats 8000000 in
theorem c_X8_checkSpan_e (hl : l.stackTraces = false) (w : z_W) (a b c : Int32)  : z_Con G l mX8_checkSpan 12 4 24 w [.int a, .int b, .int c] (fun v w9 => (v = none ∧ ¬ sp_bsp a b c) ∧ w9 = w) (fun E w9 => (z_xA E ∧ sp_bsp a b c) ∧ w9 = w) := by
  refine z_body hl (by decide) rfl (Nat.le_of_ble_eq_true rfl) ?_
  show z_J G l mX8_checkSpan ((12, 4, 24, w, (fun v w9 => (v = none ∧ ¬ sp_bsp a b c) ∧ w9 = w), fun E w9 => (z_xA E ∧ sp_bsp a b c) ∧ w9 = w)) 0 [(0, _), (1, _), (2, _)] [] _ 0 0
  refine j_iload_n dX8_checkSpan_0 rfl ?_
  refine j_callS dX8_checkSpan_1 kX8_checkValue lX8_50 stX8_checkValue (c_X8_checkValue_e hl _ _) (Nat.le_of_ble_eq_true rfl) ⟨(Nat.le_of_ble_eq_true rfl), (Nat.le_of_ble_eq_true rfl)⟩ rfl (Nat.le_of_ble_eq_true rfl) rfl rfl (fun _ _ h => ⟨(fun h1 => ⟨h1.1, Or.inl h1.2⟩) h.1, h.2⟩) ?_
  rintro _ _ ⟨⟨rfl, hc1⟩, rfl⟩
  refine j_iload_n dX8_checkSpan_4 rfl ?_
  refine j_callS dX8_checkSpan_5 kX8_checkValue lX8_50 stX8_checkValue (c_X8_checkValue_e hl _ _) (Nat.le_of_ble_eq_true rfl) ⟨(Nat.le_of_ble_eq_true rfl), (Nat.le_of_ble_eq_true rfl)⟩ rfl (Nat.le_of_ble_eq_true rfl) rfl rfl (fun _ _ h => ⟨(fun h1 => ⟨h1.1, Or.inr (Or.inl h1.2)⟩) h.1, h.2⟩) ?_
  rintro _ _ ⟨⟨rfl, hc5⟩, rfl⟩
  refine j_iload_n dX8_checkSpan_8 rfl ?_
  refine j_iconst (v := 1) dX8_checkSpan_9 (by decide) ?_
  refine j_bipush (v := 99) dX8_checkSpan_10 (by decide) ?_
  refine j_callS dX8_checkSpan_12 kX8_checkRange lX8_72 stX8_checkRange (c_X8_checkRange_e hl _ _ _ _) (Nat.le_of_ble_eq_true rfl) ⟨(Nat.le_of_ble_eq_true rfl), (Nat.le_of_ble_eq_true rfl)⟩ rfl (Nat.le_of_ble_eq_true rfl) rfl rfl (fun _ _ h => ⟨(fun h1 => ⟨h1.1, Or.inr (Or.inr (Or.inl h1.2))⟩) h.1, h.2⟩) ?_
  rintro _ _ ⟨⟨rfl, hc12⟩, rfl⟩
  refine j_iload_n dX8_checkSpan_15 rfl ?_
  refine j_iload_n dX8_checkSpan_16 rfl ?_
  refine j_iload_n dX8_checkSpan_17 rfl ?_
  refine j_callS dX8_checkSpan_18 kX8_spanLength lX8_176 stX8_spanLength (c_X8_spanLength_e hl _ _ _ _ (fun z => hc12 (Or.inl z))) (Nat.le_of_ble_eq_true rfl) ⟨(Nat.le_of_ble_eq_true rfl), (Nat.le_of_ble_eq_true rfl)⟩ rfl (Nat.le_of_ble_eq_true rfl) rfl rfl (fun _ _ h => h.elim) ?_
  rintro _ _ ⟨rfl, rfl⟩
  refine j_iconst (v := 0) dX8_checkSpan_21 (by decide) ?_
  refine j_bipush (v := 40) dX8_checkSpan_22 (by decide) ?_
  refine j_callS dX8_checkSpan_24 kX8_checkRange lX8_72 stX8_checkRange (c_X8_checkRange_e hl _ _ _ _) (Nat.le_of_ble_eq_true rfl) ⟨(Nat.le_of_ble_eq_true rfl), (Nat.le_of_ble_eq_true rfl)⟩ rfl (Nat.le_of_ble_eq_true rfl) rfl rfl (fun _ _ h => ⟨(fun h1 => ⟨h1.1, Or.inr (Or.inr (Or.inr h1.2))⟩) h.1, h.2⟩) ?_
  rintro _ _ ⟨⟨rfl, hc24⟩, rfl⟩
  refine j_vret dX8_checkSpan_27 rfl ?_ (Nat.le_of_ble_eq_true rfl) (Nat.le_of_ble_eq_true rfl)
  exact ⟨⟨rfl, fun z => z.elim hc1 (fun z => z.elim hc5 (fun z => z.elim hc12 hc24))⟩, rfl⟩
theorem sp_plc {p : Int32} {n : Nat} (hn : n ≤ 12) : (0 ≤ p ∧ p < nI n) ↔ ¬ (p < 0 ∨ nI n - 1 < p) := by
  have e1 : (nI n).toInt = n := nI_toInt (by omega)
  have e2 : (nI n - 1).toInt = (n : Int) - 1 := pk_sub_toInt (a := n) (b := 1) (by omega) (by decide)
  simp only [Int32.lt_iff_toInt_lt, Int32.le_iff_toInt_le, e1, e2, show (0 : Int32).toInt = 0 from rfl]
  omega
set_option maxRecDepth 100000 in
set_option maxHeartbeats 8000000 in
theorem c_X1_isPlace_g_e (hl : l.stackTraces = false) (x : Bool) (f c : Nat → Int32) (M : Nat) (p : Int32) (h12 : M ≤ 12) : z_CF G l mX1_isPlace 10 0 0 [.inr (6, [.ref 1, .ref 2, .int (nI M), .int (z_bi x)]), z_ia 12 f, .inr (11, [.ref 3]), z_ia 7 c] [.ref 0, .int p] (fun v L => v = some (.int (z_bi (decide (0 ≤ p ∧ p < nI M)))) ∧ L = [.inr (6, [.ref 1, .ref 2, .int (nI M), .int (z_bi x)]), z_ia 12 f, .inr (11, [.ref 3]), z_ia 7 c]) := by
  refine z_body hl (by decide) rfl (Nat.le_of_ble_eq_true rfl) ?_
  show z_J G l mX1_isPlace (z_SF 10 0 0 [.inr (6, [.ref 1, .ref 2, .int (nI M), .int (z_bi x)]), z_ia 12 f, .inr (11, [.ref 3]), z_ia 7 c] (fun v L => v = some (.int (z_bi (decide (0 ≤ p ∧ p < nI M)))) ∧ L = [.inr (6, [.ref 1, .ref 2, .int (nI M), .int (z_bi x)]), z_ia 12 f, .inr (11, [.ref 3]), z_ia 7 c])) 0 [(0, _), (1, _)] [] _ 0 0
  refine j_iload_n dX1_isPlace_0 rfl ?_
  refine j_if_lt (tgt := 25) dX1_isPlace_1 (by decide) (fun c_1 => ?_) (fun c_1 => ?_)
  · have e9 : decide (0 ≤ p ∧ p < nI M) = false := decide_eq_false (fun z => absurd c_1 (Int32.not_lt.mpr z.1))
    refine j_iconst (v := 0) dX1_isPlace_25 (by decide) ?_
    refine j_iret dX1_isPlace_26 rfl rfl ?_ (Nat.le_of_ble_eq_true rfl) (Nat.le_of_ble_eq_true rfl)
    exact ⟨rfl, (by first | exact z_cwl | rfl), (by rw [e9] <;> rfl), rfl⟩
  · refine j_iload_n dX1_isPlace_4 rfl ?_
    refine j_aload_n dX1_isPlace_5 rfl rfl ?_
    refine j_getf dX1_isPlace_6 fX1_22 rfl rfl ?_
    refine j_icmp_ge (tgt := 25) dX1_isPlace_9 (by decide) (fun c_9 => ?_) (fun c_9 => ?_)
    · have e9 : decide (0 ≤ p ∧ p < nI M) = false := decide_eq_false (fun z => absurd z.2 (Int32.not_lt.mpr c_9))
      refine j_iconst (v := 0) dX1_isPlace_25 (by decide) ?_
      refine j_iret dX1_isPlace_26 rfl rfl ?_ (Nat.le_of_ble_eq_true rfl) (Nat.le_of_ble_eq_true rfl)
      exact ⟨rfl, (by first | exact z_cwl | rfl), (by rw [e9] <;> rfl), rfl⟩
    · have e9 : decide (0 ≤ p ∧ p < nI M) = true := decide_eq_true ⟨Int32.not_lt.mp c_1, Int32.not_le.mp c_9⟩
      refine j_iload_n dX1_isPlace_12 rfl ?_
      refine j_aload_n dX1_isPlace_13 rfl rfl ?_
      refine j_getf dX1_isPlace_14 fX1_9 rfl rfl ?_
      refine j_alen dX1_isPlace_17 rfl rfl rfl ?_
      refine j_icmp_ge (tgt := 25) dX1_isPlace_18 (by decide) (fun c_18 => ?_) (fun c_18 => ?_)
      · exact absurd (Int32.lt_iff_toInt_lt.mp (Int32.not_le.mp c_9)) (by have h9 := Int32.le_iff_toInt_le.mp c_18; rw [show (Int32.ofNat 12).toInt = 12 from rfl] at h9; rw [nI_toInt (by omega)]; omega)
      · refine j_iconst (v := 1) dX1_isPlace_21 (by decide) ?_
        refine j_goto (tgt := 26) dX1_isPlace_22 (by decide) ?_
        refine j_iret dX1_isPlace_26 rfl rfl ?_ (Nat.le_of_ble_eq_true rfl) (Nat.le_of_ble_eq_true rfl)
        exact ⟨rfl, (by first | exact z_cwl | rfl), (by rw [e9] <;> rfl), rfl⟩
set_option maxRecDepth 100000 in
set_option maxHeartbeats 8000000 in
theorem c_X8_at_p (hl : l.stackTraces = false) (S : sp_S) (fa : Nat → Int32) (fb : Nat → Int32) (mt : Int32) (ft : Nat → Int32) (ct : Nat → Int32) (f0 : Nat → Int32) (g0 : Nat → Int32) (f1 : Nat → Int32) (g1 : Nat → Int32) (c1 : Nat → Int32) (f2 : Nat → Int32) (g2 : Nat → Int32) (c2 : Nat → Int32) (f3 : Nat → Int32) (g3 : Nat → Int32) (c3 : Nat → Int32) (m3 : Int32) (f4 : Nat → Int32) (g4 : Nat → Int32) (c4 : Nat → Int32) (m4 : Int32) (f5 : Nat → Int32) (g5 : Nat → Int32) (c5 : Nat → Int32) (m5 : Int32) (ef0 : Nat → Int32) (ef1 : Nat → Int32) (r : Int32) (p : Int32) (ok : sp_ok S) (hra : z_row 12 (nI (sp_R S 0).length) fa (sp_R S 0)) (hrb : z_row 12 (nI (sp_R S 1).length) fb (sp_R S 1)) (ht0 : z_tba f0 g0 (sp_T S 0)) (ht1 : z_tba f1 g1 (sp_T S 1)) (ht2 : z_tba f2 g2 (sp_T S 2)) (he0 : z_row 10 (nI (sp_E S 0).2.length) ef0 (sp_E S 0).2) (he1 : z_row 10 (nI (sp_E S 1).2.length) ef1 (sp_E S 1).2) (hzm3 : z_m20 m3) (hzm4 : z_m20 m4) (hzm5 : z_m20 m5) : z_CX G l mX8_at 20 14 120 (z_cw S.1.1 S.1.2 (nI (sp_R S 0).length) (sp_F S 0) fa (sp_C S 0) (nI (sp_R S 1).length) (sp_F S 1) fb (sp_C S 1) mt false ft ct f0 g0 (sp_C S 2) (nI (sp_T S 0).length) 0 f1 g1 c1 (nI (sp_T S 1).length) 0 f2 g2 c2 (nI (sp_T S 2).length) 1 f3 g3 c3 m3 0 f4 g4 c4 m4 0 f5 g5 c5 m5 1 (nI (sp_E S 0).2.length) (sp_E S 0).1.2.1 (sp_E S 0).1.2.2.1 (sp_E S 0).1.2.2.2 (sp_E S 0).1.1 ef0 (nI (sp_E S 1).2.length) (sp_E S 1).1.2.1 (sp_E S 1).1.2.2.1 (sp_E S 1).1.2.2.2 (sp_E S 1).1.1 ef1 []) [.ref 0, .int r, .int p] (fun v L => sp_k21 r (p < 0 ∨ nI (sp_R S (sp_i r)).length - 1 < p) = 0 ∧ v = some (.int (((sp_R S (sp_i r))[sp_i p]?).getD 0)) ∧ sp_CW (S) L) (fun E L => ((z_xI E ∧ sp_k21 r (p < 0 ∨ nI (sp_R S (sp_i r)).length - 1 < p) = 1)) ∧ L = (z_cw S.1.1 S.1.2 (nI (sp_R S 0).length) (sp_F S 0) fa (sp_C S 0) (nI (sp_R S 1).length) (sp_F S 1) fb (sp_C S 1) mt false ft ct f0 g0 (sp_C S 2) (nI (sp_T S 0).length) 0 f1 g1 c1 (nI (sp_T S 1).length) 0 f2 g2 c2 (nI (sp_T S 2).length) 1 f3 g3 c3 m3 0 f4 g4 c4 m4 0 f5 g5 c5 m5 1 (nI (sp_E S 0).2.length) (sp_E S 0).1.2.1 (sp_E S 0).1.2.2.1 (sp_E S 0).1.2.2.2 (sp_E S 0).1.1 ef0 (nI (sp_E S 1).2.length) (sp_E S 1).1.2.1 (sp_E S 1).1.2.2.1 (sp_E S 1).1.2.2.2 (sp_E S 1).1.1 ef1 [])) := by
  refine z_body hl (by decide) rfl (Nat.le_of_ble_eq_true rfl) ?_
  show z_J G l mX8_at (z_SX 20 14 120 (z_cw S.1.1 S.1.2 (nI (sp_R S 0).length) (sp_F S 0) fa (sp_C S 0) (nI (sp_R S 1).length) (sp_F S 1) fb (sp_C S 1) mt false ft ct f0 g0 (sp_C S 2) (nI (sp_T S 0).length) 0 f1 g1 c1 (nI (sp_T S 1).length) 0 f2 g2 c2 (nI (sp_T S 2).length) 1 f3 g3 c3 m3 0 f4 g4 c4 m4 0 f5 g5 c5 m5 1 (nI (sp_E S 0).2.length) (sp_E S 0).1.2.1 (sp_E S 0).1.2.2.1 (sp_E S 0).1.2.2.2 (sp_E S 0).1.1 ef0 (nI (sp_E S 1).2.length) (sp_E S 1).1.2.1 (sp_E S 1).1.2.2.1 (sp_E S 1).1.2.2.2 (sp_E S 1).1.1 ef1 []) (fun v L => sp_k21 r (p < 0 ∨ nI (sp_R S (sp_i r)).length - 1 < p) = 0 ∧ v = some (.int (((sp_R S (sp_i r))[sp_i p]?).getD 0)) ∧ sp_CW (S) L) (fun E L => ((z_xI E ∧ sp_k21 r (p < 0 ∨ nI (sp_R S (sp_i r)).length - 1 < p) = 1)) ∧ L = (z_cw S.1.1 S.1.2 (nI (sp_R S 0).length) (sp_F S 0) fa (sp_C S 0) (nI (sp_R S 1).length) (sp_F S 1) fb (sp_C S 1) mt false ft ct f0 g0 (sp_C S 2) (nI (sp_T S 0).length) 0 f1 g1 c1 (nI (sp_T S 1).length) 0 f2 g2 c2 (nI (sp_T S 2).length) 1 f3 g3 c3 m3 0 f4 g4 c4 m4 0 f5 g5 c5 m5 1 (nI (sp_E S 0).2.length) (sp_E S 0).1.2.1 (sp_E S 0).1.2.2.1 (sp_E S 0).1.2.2.2 (sp_E S 0).1.1 ef0 (nI (sp_E S 1).2.length) (sp_E S 1).1.2.1 (sp_E S 1).1.2.2.1 (sp_E S 1).1.2.2.2 (sp_E S 1).1.1 ef1 []))) 0 [(0, _), (1, _), (2, _)] [] _ 0 0
  refine j_aload_n dX8_at_0 rfl rfl ?_
  refine j_iload_n dX8_at_1 rfl ?_
  refine j_callV (q := (RX8, TX8, 9)) dX8_at_2 kX8_rowFor lX8_46 inX8_rowFor seX8_rowFor rfl rfl (z_dirX (c_X8_rowFor_e hl _ _ _ _ _ _ _ _ _ _ _ _ _ _ _ _ _ _ _ _ _ _ _ _ _ _ _ _ _ _ _ _ _ _ _ _ _ _ _ _ _ _ _ _ _ _ _ _ _ _ _ _ _ _ _ _ _)) (Nat.le_of_ble_eq_true rfl) ⟨(Nat.le_of_ble_eq_true rfl), (Nat.le_of_ble_eq_true rfl)⟩ rfl (Nat.le_of_ble_eq_true rfl) rfl rfl (fun _ _ h => by obtain ⟨_, ⟨h1, rfl⟩, rfl⟩ := h; exact ⟨rfl, rfl, ⟨h1.1, sp_k21_1 h1.2⟩, rfl⟩) ?_
  rintro _ _ ⟨_, ⟨_, rfl, hr, rfl⟩, rfl⟩
  rcases hr with ⟨e_2, rfl⟩ | ⟨e_2, rfl⟩
  · subst e_2
    refine j_astore_n (lo' := [(3, _), (0, _), (1, _), (2, _)]) dX8_at_5 rfl (by decide) rfl ?_
    refine j_aload_n dX8_at_6 rfl rfl ?_
    refine j_iload_n dX8_at_7 rfl ?_
    refine j_callV (q := (RX1, TX1, 4)) dX8_at_8 kX1_isPlace lX8_194 inX1_isPlace seX1_isPlace rfl rfl (z_frame [2, 3, 4, 5] rfl (by decide) (Nat.le_of_ble_eq_true rfl) (c_X1_isPlace_g_e hl _ _ _ (sp_R S 0).length p hra.2.1)) (Nat.le_of_ble_eq_true rfl) ⟨(Nat.le_of_ble_eq_true rfl), (Nat.le_of_ble_eq_true rfl)⟩ rfl (Nat.le_of_ble_eq_true rfl) rfl rfl (fun _ _ h => h.elim) ?_
    rintro _ _ ⟨_, _, ⟨rfl, rfl⟩, rfl, rfl⟩
    refine j_ws (L' := z_cw _ _ _ _ _ _ _ _ _ _ _ _ _ _ _ _ _ _ _ _ _ _ _ _ _ _ _ _ _ _ _ _ _ _ _ _ _ _ _ _ _ _ _ _ _ _ _ _ _ _ _ _ _ _ _ _ []) (by decide) rfl rfl ?_
    refine j_if_ne (tgt := 24) dX8_at_11 (by decide) (fun c_11 => ?_) (fun c_11 => ?_)
    · have hb11 := z_bt c_11
      have hpp : ¬ (p < 0 ∨ nI (sp_R S 0).length - 1 < p) := (sp_plc hra.2.1).mp (of_decide_eq_true hb11)
      have hp0 : ¬ (p < 0 ∨ nI (sp_R S 0).length - 1 < p) := hpp
      obtain ⟨k, hk, rfl⟩ := z_natm (n := (sp_R S 0).length) (by have := hra.2.1; omega) (q_nor hp0)
      refine j_aload_n dX8_at_24 rfl rfl ?_
      refine j_iload_n dX8_at_25 rfl ?_
      refine j_callV (q := (RX1, TX1, 4)) dX8_at_26 kX1_valueAt lX8_203 inX1_valueAt seX1_valueAt rfl rfl (z_frame [2, 3, 4, 5] rfl (by decide) (Nat.le_of_ble_eq_true rfl) (c_X1_valueAt_e hl _ _ _ (sp_R S 0) (sp_R S 0).length k hra rfl hk)) (Nat.le_of_ble_eq_true rfl) ⟨(Nat.le_of_ble_eq_true rfl), (Nat.le_of_ble_eq_true rfl)⟩ rfl (Nat.le_of_ble_eq_true rfl) rfl rfl (fun _ _ h => h.elim) ?_
      rintro _ _ ⟨_, _, ⟨rfl, rfl⟩, rfl, rfl⟩
      refine j_ws (L' := z_cw _ _ _ _ _ _ _ _ _ _ _ _ _ _ _ _ _ _ _ _ _ _ _ _ _ _ _ _ _ _ _ _ _ _ _ _ _ _ _ _ _ _ _ _ _ _ _ _ _ _ _ _ _ _ _ _ []) (by decide) rfl rfl ?_
      refine j_iret dX8_at_29 rfl rfl ?_ (Nat.le_of_ble_eq_true rfl) (Nat.le_of_ble_eq_true rfl)
      refine ⟨rfl, (by first | exact z_cwl | rfl), ?_⟩
      rw [sp_i0, sp_in' (n := k) (by have := hra.2.1; omega), hra.2.2 k hk]
      exact ⟨sp_k21_0 (Or.inl rfl) hpp, rfl, (sp_CWe hra hrb ht0 ht1 ht2 he0 he1 hzm3 hzm4 hzm5 rfl)⟩
    · have hb11 := z_bF c_11
      have hpn : p < 0 ∨ nI (sp_R S 0).length - 1 < p := Decidable.of_not_not (fun z => of_decide_eq_false hb11 ((sp_plc hra.2.1).mpr z))
      exact j_throwS (text := "there is no such place") rfl th_I (by decide +kernel) dX8_at_14 dX8_at_17 dX8_at_18 dX8_at_20 dX8_at_23 (Nat.le_of_ble_eq_true rfl) (Nat.le_of_ble_eq_true rfl) ⟨rfl, rfl, ⟨rfl, sp_k21_2 (Or.inl rfl) (by rw [sp_i0]; exact hpn)⟩, rfl⟩ (Nat.le_of_ble_eq_true rfl) (Nat.le_of_ble_eq_true rfl)
  · subst e_2
    refine j_astore_n (lo' := [(3, _), (0, _), (1, _), (2, _)]) dX8_at_5 rfl (by decide) rfl ?_
    refine j_aload_n dX8_at_6 rfl rfl ?_
    refine j_iload_n dX8_at_7 rfl ?_
    refine j_callV (q := (RX1, TX1, 4)) dX8_at_8 kX1_isPlace lX8_194 inX1_isPlace seX1_isPlace rfl rfl (z_frame [6, 7, 8, 9] rfl (by decide) (Nat.le_of_ble_eq_true rfl) (c_X1_isPlace_g_e hl _ _ _ (sp_R S 1).length p hrb.2.1)) (Nat.le_of_ble_eq_true rfl) ⟨(Nat.le_of_ble_eq_true rfl), (Nat.le_of_ble_eq_true rfl)⟩ rfl (Nat.le_of_ble_eq_true rfl) rfl rfl (fun _ _ h => h.elim) ?_
    rintro _ _ ⟨_, _, ⟨rfl, rfl⟩, rfl, rfl⟩
    refine j_ws (L' := z_cw _ _ _ _ _ _ _ _ _ _ _ _ _ _ _ _ _ _ _ _ _ _ _ _ _ _ _ _ _ _ _ _ _ _ _ _ _ _ _ _ _ _ _ _ _ _ _ _ _ _ _ _ _ _ _ _ []) (by decide) rfl rfl ?_
    refine j_if_ne (tgt := 24) dX8_at_11 (by decide) (fun c_11 => ?_) (fun c_11 => ?_)
    · have hb11 := z_bt c_11
      have hpp : ¬ (p < 0 ∨ nI (sp_R S 1).length - 1 < p) := (sp_plc hrb.2.1).mp (of_decide_eq_true hb11)
      have hp0 : ¬ (p < 0 ∨ nI (sp_R S 1).length - 1 < p) := hpp
      obtain ⟨k, hk, rfl⟩ := z_natm (n := (sp_R S 1).length) (by have := hrb.2.1; omega) (q_nor hp0)
      refine j_aload_n dX8_at_24 rfl rfl ?_
      refine j_iload_n dX8_at_25 rfl ?_
      refine j_callV (q := (RX1, TX1, 4)) dX8_at_26 kX1_valueAt lX8_203 inX1_valueAt seX1_valueAt rfl rfl (z_frame [6, 7, 8, 9] rfl (by decide) (Nat.le_of_ble_eq_true rfl) (c_X1_valueAt_e hl _ _ _ (sp_R S 1) (sp_R S 1).length k hrb rfl hk)) (Nat.le_of_ble_eq_true rfl) ⟨(Nat.le_of_ble_eq_true rfl), (Nat.le_of_ble_eq_true rfl)⟩ rfl (Nat.le_of_ble_eq_true rfl) rfl rfl (fun _ _ h => h.elim) ?_
      rintro _ _ ⟨_, _, ⟨rfl, rfl⟩, rfl, rfl⟩
      refine j_ws (L' := z_cw _ _ _ _ _ _ _ _ _ _ _ _ _ _ _ _ _ _ _ _ _ _ _ _ _ _ _ _ _ _ _ _ _ _ _ _ _ _ _ _ _ _ _ _ _ _ _ _ _ _ _ _ _ _ _ _ []) (by decide) rfl rfl ?_
      refine j_iret dX8_at_29 rfl rfl ?_ (Nat.le_of_ble_eq_true rfl) (Nat.le_of_ble_eq_true rfl)
      refine ⟨rfl, (by first | exact z_cwl | rfl), ?_⟩
      rw [sp_i1, sp_in' (n := k) (by have := hrb.2.1; omega), hrb.2.2 k hk]
      exact ⟨sp_k21_0 (Or.inr rfl) hpp, rfl, (sp_CWe hra hrb ht0 ht1 ht2 he0 he1 hzm3 hzm4 hzm5 rfl)⟩
    · have hb11 := z_bF c_11
      have hpn : p < 0 ∨ nI (sp_R S 1).length - 1 < p := Decidable.of_not_not (fun z => of_decide_eq_false hb11 ((sp_plc hrb.2.1).mpr z))
      exact j_throwS (text := "there is no such place") rfl th_I (by decide +kernel) dX8_at_14 dX8_at_17 dX8_at_18 dX8_at_20 dX8_at_23 (Nat.le_of_ble_eq_true rfl) (Nat.le_of_ble_eq_true rfl) ⟨rfl, rfl, ⟨rfl, sp_k21_2 (Or.inr rfl) (by rw [sp_i1]; exact hpn)⟩, rfl⟩ (Nat.le_of_ble_eq_true rfl) (Nat.le_of_ble_eq_true rfl)
set_option maxRecDepth 100000 in
set_option maxHeartbeats 8000000 in
theorem c_X8_hear_p (hl : l.stackTraces = false) (S : sp_S) (fa : Nat → Int32) (fb : Nat → Int32) (mt : Int32) (ft : Nat → Int32) (ct : Nat → Int32) (f0 : Nat → Int32) (g0 : Nat → Int32) (f1 : Nat → Int32) (g1 : Nat → Int32) (c1 : Nat → Int32) (f2 : Nat → Int32) (g2 : Nat → Int32) (c2 : Nat → Int32) (f3 : Nat → Int32) (g3 : Nat → Int32) (c3 : Nat → Int32) (m3 : Int32) (f4 : Nat → Int32) (g4 : Nat → Int32) (c4 : Nat → Int32) (m4 : Int32) (f5 : Nat → Int32) (g5 : Nat → Int32) (c5 : Nat → Int32) (m5 : Int32) (ef0 : Nat → Int32) (ef1 : Nat → Int32) (r : Int32) (g : Int32) (ok : sp_ok S) (hra : z_row 12 (nI (sp_R S 0).length) fa (sp_R S 0)) (hrb : z_row 12 (nI (sp_R S 1).length) fb (sp_R S 1)) (ht0 : z_tba f0 g0 (sp_T S 0)) (ht1 : z_tba f1 g1 (sp_T S 1)) (ht2 : z_tba f2 g2 (sp_T S 2)) (he0 : z_row 10 (nI (sp_E S 0).2.length) ef0 (sp_E S 0).2) (he1 : z_row 10 (nI (sp_E S 1).2.length) ef1 (sp_E S 1).2) (hzm3 : z_m20 m3) (hzm4 : z_m20 m4) (hzm5 : z_m20 m5) : z_CX G l mX8_hear 20 14 120 (z_cw S.1.1 S.1.2 (nI (sp_R S 0).length) (sp_F S 0) fa (sp_C S 0) (nI (sp_R S 1).length) (sp_F S 1) fb (sp_C S 1) mt false ft ct f0 g0 (sp_C S 2) (nI (sp_T S 0).length) 0 f1 g1 c1 (nI (sp_T S 1).length) 0 f2 g2 c2 (nI (sp_T S 2).length) 1 f3 g3 c3 m3 0 f4 g4 c4 m4 0 f5 g5 c5 m5 1 (nI (sp_E S 0).2.length) (sp_E S 0).1.2.1 (sp_E S 0).1.2.2.1 (sp_E S 0).1.2.2.2 (sp_E S 0).1.1 ef0 (nI (sp_E S 1).2.length) (sp_E S 1).1.2.1 (sp_E S 1).1.2.2.1 (sp_E S 1).1.2.2.2 (sp_E S 1).1.1 ef1 []) [.ref 0, .int r, .int g] (fun v L => sp_k2b r g = 0 ∧ v = some (.int (sp_an (sp_hr S (sp_i r) (sp_i g) 0).1)) ∧ sp_CW (sp_hrS S (sp_i r) (sp_i g) 0) L) (fun E L => ((z_xI E ∧ sp_k2b r g = 1)) ∧ L = (z_cw S.1.1 S.1.2 (nI (sp_R S 0).length) (sp_F S 0) fa (sp_C S 0) (nI (sp_R S 1).length) (sp_F S 1) fb (sp_C S 1) mt false ft ct f0 g0 (sp_C S 2) (nI (sp_T S 0).length) 0 f1 g1 c1 (nI (sp_T S 1).length) 0 f2 g2 c2 (nI (sp_T S 2).length) 1 f3 g3 c3 m3 0 f4 g4 c4 m4 0 f5 g5 c5 m5 1 (nI (sp_E S 0).2.length) (sp_E S 0).1.2.1 (sp_E S 0).1.2.2.1 (sp_E S 0).1.2.2.2 (sp_E S 0).1.1 ef0 (nI (sp_E S 1).2.length) (sp_E S 1).1.2.1 (sp_E S 1).1.2.2.1 (sp_E S 1).1.2.2.2 (sp_E S 1).1.1 ef1 [])) := by
  refine z_body hl (by decide) rfl (Nat.le_of_ble_eq_true rfl) ?_
  show z_J G l mX8_hear (z_SX 20 14 120 (z_cw S.1.1 S.1.2 (nI (sp_R S 0).length) (sp_F S 0) fa (sp_C S 0) (nI (sp_R S 1).length) (sp_F S 1) fb (sp_C S 1) mt false ft ct f0 g0 (sp_C S 2) (nI (sp_T S 0).length) 0 f1 g1 c1 (nI (sp_T S 1).length) 0 f2 g2 c2 (nI (sp_T S 2).length) 1 f3 g3 c3 m3 0 f4 g4 c4 m4 0 f5 g5 c5 m5 1 (nI (sp_E S 0).2.length) (sp_E S 0).1.2.1 (sp_E S 0).1.2.2.1 (sp_E S 0).1.2.2.2 (sp_E S 0).1.1 ef0 (nI (sp_E S 1).2.length) (sp_E S 1).1.2.1 (sp_E S 1).1.2.2.1 (sp_E S 1).1.2.2.2 (sp_E S 1).1.1 ef1 []) (fun v L => sp_k2b r g = 0 ∧ v = some (.int (sp_an (sp_hr S (sp_i r) (sp_i g) 0).1)) ∧ sp_CW (sp_hrS S (sp_i r) (sp_i g) 0) L) (fun E L => ((z_xI E ∧ sp_k2b r g = 1)) ∧ L = (z_cw S.1.1 S.1.2 (nI (sp_R S 0).length) (sp_F S 0) fa (sp_C S 0) (nI (sp_R S 1).length) (sp_F S 1) fb (sp_C S 1) mt false ft ct f0 g0 (sp_C S 2) (nI (sp_T S 0).length) 0 f1 g1 c1 (nI (sp_T S 1).length) 0 f2 g2 c2 (nI (sp_T S 2).length) 1 f3 g3 c3 m3 0 f4 g4 c4 m4 0 f5 g5 c5 m5 1 (nI (sp_E S 0).2.length) (sp_E S 0).1.2.1 (sp_E S 0).1.2.2.1 (sp_E S 0).1.2.2.2 (sp_E S 0).1.1 ef0 (nI (sp_E S 1).2.length) (sp_E S 1).1.2.1 (sp_E S 1).1.2.2.1 (sp_E S 1).1.2.2.2 (sp_E S 1).1.1 ef1 []))) 0 [(0, _), (1, _), (2, _)] [] _ 0 0
  refine j_aload_n dX8_hear_0 rfl rfl ?_
  refine j_iload_n dX8_hear_1 rfl ?_
  refine j_callV (q := (RX8, TX8, 9)) dX8_hear_2 kX8_rowFor lX8_46 inX8_rowFor seX8_rowFor rfl rfl (z_dirX (c_X8_rowFor_e hl _ _ _ _ _ _ _ _ _ _ _ _ _ _ _ _ _ _ _ _ _ _ _ _ _ _ _ _ _ _ _ _ _ _ _ _ _ _ _ _ _ _ _ _ _ _ _ _ _ _ _ _ _ _ _ _ _)) (Nat.le_of_ble_eq_true rfl) ⟨(Nat.le_of_ble_eq_true rfl), (Nat.le_of_ble_eq_true rfl)⟩ rfl (Nat.le_of_ble_eq_true rfl) rfl rfl (fun _ _ h => by obtain ⟨_, ⟨h1, rfl⟩, rfl⟩ := h; exact ⟨rfl, rfl, ⟨h1.1, sp_k2b_1 h1.2⟩, rfl⟩) ?_
  rintro _ _ ⟨_, ⟨_, rfl, hr, rfl⟩, rfl⟩
  rcases hr with ⟨e_2, rfl⟩ | ⟨e_2, rfl⟩
  · subst e_2
    refine j_astore_n (lo' := [(3, _), (0, _), (1, _), (2, _)]) dX8_hear_5 rfl (by decide) rfl ?_
    refine j_aload_n dX8_hear_6 rfl rfl ?_
    refine j_iload_n dX8_hear_7 rfl ?_
    refine j_callV (q := (RX8, TX8, 9)) dX8_hear_8 kX8_hearerFor lX8_87 inX8_hearerFor seX8_hearerFor rfl rfl (z_dirX (c_X8_hearerFor_e hl _ _ _ _ _ _ _ _ _ _ _ _ _ _ _ _ _ _ _ _ _ _ _ _ _ _ _ _ _ _ _ _ _ _ _ _ _ _ _ _ _ _ _ _ _ _ _ _ _ _ _ _ _ _ _ _ _)) (Nat.le_of_ble_eq_true rfl) ⟨(Nat.le_of_ble_eq_true rfl), (Nat.le_of_ble_eq_true rfl)⟩ rfl (Nat.le_of_ble_eq_true rfl) rfl rfl (fun _ _ h => by obtain ⟨_, ⟨h1, rfl⟩, rfl⟩ := h; exact ⟨rfl, rfl, ⟨h1.1, sp_k2b_1' h1.2⟩, rfl⟩) ?_
    rintro _ _ ⟨_, ⟨_, rfl, hr, rfl⟩, rfl⟩
    rcases hr with ⟨e_8, rfl⟩ | ⟨e_8, rfl⟩
    · subst e_8
      refine j_astore (lo' := [(4, _), (3, _), (0, _), (1, _), (2, _)]) dX8_hear_11 rfl (by decide) rfl ?_
      refine j_aload_n dX8_hear_13 rfl rfl ?_
      refine j_new (w' := (z_cw _ _ _ _ _ _ _ _ _ _ _ _ _ _ _ _ _ _ _ _ _ _ _ _ _ _ _ _ _ _ _ _ _ _ _ _ _ _ _ _ _ _ _ _ _ _ _ _ _ _ _ _ _ _ _ _ [.inr (7, [_, _, _, _, _])], z_no)) (n := 51) dX8_hear_14 nX8_91 rfl (z_al_l rfl rfl) (Nat.le_of_ble_eq_true rfl) (Nat.le_of_ble_eq_true rfl) ?_
      refine j_dup dX8_hear_17 rfl ?_
      refine j_aload_n dX8_hear_18 rfl rfl ?_
      refine j_callI dX8_hear_19 kX2_init rfl lX8_93 inX2_init rfl (z_frame [51, 2, 3, 4, 5] rfl (by decide) (Nat.le_of_ble_eq_true rfl) (c_X2_init_e hl _ _ _ _)) (Nat.le_of_ble_eq_true rfl) ⟨(Nat.le_of_ble_eq_true rfl), (Nat.le_of_ble_eq_true rfl)⟩ rfl (Nat.le_of_ble_eq_true rfl) rfl rfl (fun _ _ h => h.elim) ?_
      rintro _ _ ⟨_, _, ⟨rfl, rfl⟩, rfl, rfl⟩
      refine j_ws (L' := z_cw _ _ _ _ _ _ _ _ _ _ _ _ _ _ _ _ _ _ _ _ _ _ _ _ _ _ _ _ _ _ _ _ _ _ _ _ _ _ _ _ _ _ _ _ _ _ _ _ _ _ _ _ _ _ _ _ [.inr (7, [_, _, _, _, _])]) (by decide) rfl rfl ?_
      refine j_aload dX8_hear_22 rfl rfl ?_
      refine j_callS dX8_hear_24 kX8_hearOut lX8_96 stX8_hearOut (z_frame [51, 2, 3, 4, 5, 27, 28] rfl (by decide) (Nat.le_of_ble_eq_true rfl) (c_X8_hearOut_X2_e hl _ _ 0 _ _ _ (sp_R S 0) _ (sp_E S 0) _ hra rfl (by omega) he0)) (Nat.le_of_ble_eq_true rfl) ⟨(Nat.le_of_ble_eq_true rfl), (Nat.le_of_ble_eq_true rfl)⟩ rfl (Nat.le_of_ble_eq_true rfl) rfl rfl (fun _ _ h => h.elim) ?_
      rintro _ _ ⟨_, _, ⟨rfl, _, _, ef9, he9, rfl⟩, rfl, rfl⟩
      refine j_ws (L' := z_cw _ _ _ _ _ _ _ _ _ _ _ _ _ _ _ _ _ _ _ _ _ _ _ _ _ _ _ _ _ _ _ _ _ _ _ _ _ _ _ _ _ _ _ _ _ _ _ _ _ _ _ _ _ _ _ _ [.inr (7, [_, _, _, _, _])]) (by decide) rfl rfl ?_
      refine j_lo (lo' := []) z_q0 ?_
      refine j_dropL (n := 51) rfl (Nat.le_of_ble_eq_true rfl) (Nat.le_of_ble_eq_true rfl) (Nat.le_of_ble_eq_true rfl) z_cwc rfl rfl ?_
      refine j_w (z_cw _ _ _ _ _ _ _ _ _ _ _ _ _ _ _ _ _ _ _ _ _ _ _ _ _ _ _ _ _ _ _ _ _ _ _ _ _ _ _ _ _ _ _ _ _ _ _ _ _ _ _ _ _ _ _ _ [], z_no) rfl ?_
      refine j_callV (q := (RX8, TX8, 9)) dX8_hear_27 kX8_answer lX8_100 inX8_answer seX8_answer rfl rfl (z_dirF (c_X8_answer_f_e hl _ _ _ _ _ _ _ _ _ _ _ _ _ _ _ _ _ _ _ _ _ _ _ _ _ _ _ _ _ _ _ _ _ _ _ _ _ _ _ _ _ _ _ _ _ _ _ _ _ _ _ _ _ _ _ _ (sp_hr S 0 0 0).1 nI (fun y hy z => absurd (nI_pos' (n := y) (by have h8 := sp_ho_n _ _ _ _ hy; rw [List.length_drop] at h8; have := hra.2.1; omega)) (by rw [z]; decide)))) (Nat.le_of_ble_eq_true rfl) ⟨(Nat.le_of_ble_eq_true rfl), (Nat.le_of_ble_eq_true rfl)⟩ rfl (Nat.le_of_ble_eq_true rfl) rfl rfl (fun _ _ h => h.elim) ?_
      rintro _ _ ⟨_, ⟨rfl, rfl⟩, rfl⟩
      refine j_iret dX8_hear_30 rfl rfl ?_ (Nat.le_of_ble_eq_true rfl) (Nat.le_of_ble_eq_true rfl)
      refine ⟨rfl, (by first | exact z_cwl | rfl), ?_⟩
      try rw [sp_i0]
      exact ⟨sp_k2b_0 (Or.inl rfl) (Or.inl rfl), rfl, (sp_CWe hra hrb ht0 ht1 ht2 he9 he1 hzm3 hzm4 hzm5 rfl)⟩
    · subst e_8
      refine j_astore (lo' := [(4, _), (3, _), (0, _), (1, _), (2, _)]) dX8_hear_11 rfl (by decide) rfl ?_
      refine j_aload_n dX8_hear_13 rfl rfl ?_
      refine j_new (w' := (z_cw _ _ _ _ _ _ _ _ _ _ _ _ _ _ _ _ _ _ _ _ _ _ _ _ _ _ _ _ _ _ _ _ _ _ _ _ _ _ _ _ _ _ _ _ _ _ _ _ _ _ _ _ _ _ _ _ [.inr (7, [_, _, _, _, _])], z_no)) (n := 51) dX8_hear_14 nX8_91 rfl (z_al_l rfl rfl) (Nat.le_of_ble_eq_true rfl) (Nat.le_of_ble_eq_true rfl) ?_
      refine j_dup dX8_hear_17 rfl ?_
      refine j_aload_n dX8_hear_18 rfl rfl ?_
      refine j_callI dX8_hear_19 kX2_init rfl lX8_93 inX2_init rfl (z_frame [51, 2, 3, 4, 5] rfl (by decide) (Nat.le_of_ble_eq_true rfl) (c_X2_init_e hl _ _ _ _)) (Nat.le_of_ble_eq_true rfl) ⟨(Nat.le_of_ble_eq_true rfl), (Nat.le_of_ble_eq_true rfl)⟩ rfl (Nat.le_of_ble_eq_true rfl) rfl rfl (fun _ _ h => h.elim) ?_
      rintro _ _ ⟨_, _, ⟨rfl, rfl⟩, rfl, rfl⟩
      refine j_ws (L' := z_cw _ _ _ _ _ _ _ _ _ _ _ _ _ _ _ _ _ _ _ _ _ _ _ _ _ _ _ _ _ _ _ _ _ _ _ _ _ _ _ _ _ _ _ _ _ _ _ _ _ _ _ _ _ _ _ _ [.inr (7, [_, _, _, _, _])]) (by decide) rfl rfl ?_
      refine j_aload dX8_hear_22 rfl rfl ?_
      refine j_callS dX8_hear_24 kX8_hearOut lX8_96 stX8_hearOut (z_frame [51, 2, 3, 4, 5, 29, 30] rfl (by decide) (Nat.le_of_ble_eq_true rfl) (c_X8_hearOut_X2_e hl _ _ 0 _ _ _ (sp_R S 0) _ (sp_E S 1) _ hra rfl (by omega) he1)) (Nat.le_of_ble_eq_true rfl) ⟨(Nat.le_of_ble_eq_true rfl), (Nat.le_of_ble_eq_true rfl)⟩ rfl (Nat.le_of_ble_eq_true rfl) rfl rfl (fun _ _ h => h.elim) ?_
      rintro _ _ ⟨_, _, ⟨rfl, _, _, ef9, he9, rfl⟩, rfl, rfl⟩
      refine j_ws (L' := z_cw _ _ _ _ _ _ _ _ _ _ _ _ _ _ _ _ _ _ _ _ _ _ _ _ _ _ _ _ _ _ _ _ _ _ _ _ _ _ _ _ _ _ _ _ _ _ _ _ _ _ _ _ _ _ _ _ [.inr (7, [_, _, _, _, _])]) (by decide) rfl rfl ?_
      refine j_lo (lo' := []) z_q0 ?_
      refine j_dropL (n := 51) rfl (Nat.le_of_ble_eq_true rfl) (Nat.le_of_ble_eq_true rfl) (Nat.le_of_ble_eq_true rfl) z_cwc rfl rfl ?_
      refine j_w (z_cw _ _ _ _ _ _ _ _ _ _ _ _ _ _ _ _ _ _ _ _ _ _ _ _ _ _ _ _ _ _ _ _ _ _ _ _ _ _ _ _ _ _ _ _ _ _ _ _ _ _ _ _ _ _ _ _ [], z_no) rfl ?_
      refine j_callV (q := (RX8, TX8, 9)) dX8_hear_27 kX8_answer lX8_100 inX8_answer seX8_answer rfl rfl (z_dirF (c_X8_answer_f_e hl _ _ _ _ _ _ _ _ _ _ _ _ _ _ _ _ _ _ _ _ _ _ _ _ _ _ _ _ _ _ _ _ _ _ _ _ _ _ _ _ _ _ _ _ _ _ _ _ _ _ _ _ _ _ _ _ (sp_hr S 0 1 0).1 nI (fun y hy z => absurd (nI_pos' (n := y) (by have h8 := sp_ho_n _ _ _ _ hy; rw [List.length_drop] at h8; have := hra.2.1; omega)) (by rw [z]; decide)))) (Nat.le_of_ble_eq_true rfl) ⟨(Nat.le_of_ble_eq_true rfl), (Nat.le_of_ble_eq_true rfl)⟩ rfl (Nat.le_of_ble_eq_true rfl) rfl rfl (fun _ _ h => h.elim) ?_
      rintro _ _ ⟨_, ⟨rfl, rfl⟩, rfl⟩
      refine j_iret dX8_hear_30 rfl rfl ?_ (Nat.le_of_ble_eq_true rfl) (Nat.le_of_ble_eq_true rfl)
      refine ⟨rfl, (by first | exact z_cwl | rfl), ?_⟩
      try rw [sp_i0]
      try rw [sp_i1]
      exact ⟨sp_k2b_0 (Or.inl rfl) (Or.inr rfl), rfl, (sp_CWe hra hrb ht0 ht1 ht2 he0 he9 hzm3 hzm4 hzm5 rfl)⟩
  · subst e_2
    refine j_astore_n (lo' := [(3, _), (0, _), (1, _), (2, _)]) dX8_hear_5 rfl (by decide) rfl ?_
    refine j_aload_n dX8_hear_6 rfl rfl ?_
    refine j_iload_n dX8_hear_7 rfl ?_
    refine j_callV (q := (RX8, TX8, 9)) dX8_hear_8 kX8_hearerFor lX8_87 inX8_hearerFor seX8_hearerFor rfl rfl (z_dirX (c_X8_hearerFor_e hl _ _ _ _ _ _ _ _ _ _ _ _ _ _ _ _ _ _ _ _ _ _ _ _ _ _ _ _ _ _ _ _ _ _ _ _ _ _ _ _ _ _ _ _ _ _ _ _ _ _ _ _ _ _ _ _ _)) (Nat.le_of_ble_eq_true rfl) ⟨(Nat.le_of_ble_eq_true rfl), (Nat.le_of_ble_eq_true rfl)⟩ rfl (Nat.le_of_ble_eq_true rfl) rfl rfl (fun _ _ h => by obtain ⟨_, ⟨h1, rfl⟩, rfl⟩ := h; exact ⟨rfl, rfl, ⟨h1.1, sp_k2b_1' h1.2⟩, rfl⟩) ?_
    rintro _ _ ⟨_, ⟨_, rfl, hr, rfl⟩, rfl⟩
    rcases hr with ⟨e_8, rfl⟩ | ⟨e_8, rfl⟩
    · subst e_8
      refine j_astore (lo' := [(4, _), (3, _), (0, _), (1, _), (2, _)]) dX8_hear_11 rfl (by decide) rfl ?_
      refine j_aload_n dX8_hear_13 rfl rfl ?_
      refine j_new (w' := (z_cw _ _ _ _ _ _ _ _ _ _ _ _ _ _ _ _ _ _ _ _ _ _ _ _ _ _ _ _ _ _ _ _ _ _ _ _ _ _ _ _ _ _ _ _ _ _ _ _ _ _ _ _ _ _ _ _ [.inr (7, [_, _, _, _, _])], z_no)) (n := 51) dX8_hear_14 nX8_91 rfl (z_al_l rfl rfl) (Nat.le_of_ble_eq_true rfl) (Nat.le_of_ble_eq_true rfl) ?_
      refine j_dup dX8_hear_17 rfl ?_
      refine j_aload_n dX8_hear_18 rfl rfl ?_
      refine j_callI dX8_hear_19 kX2_init rfl lX8_93 inX2_init rfl (z_frame [51, 6, 7, 8, 9] rfl (by decide) (Nat.le_of_ble_eq_true rfl) (c_X2_init_e hl _ _ _ _)) (Nat.le_of_ble_eq_true rfl) ⟨(Nat.le_of_ble_eq_true rfl), (Nat.le_of_ble_eq_true rfl)⟩ rfl (Nat.le_of_ble_eq_true rfl) rfl rfl (fun _ _ h => h.elim) ?_
      rintro _ _ ⟨_, _, ⟨rfl, rfl⟩, rfl, rfl⟩
      refine j_ws (L' := z_cw _ _ _ _ _ _ _ _ _ _ _ _ _ _ _ _ _ _ _ _ _ _ _ _ _ _ _ _ _ _ _ _ _ _ _ _ _ _ _ _ _ _ _ _ _ _ _ _ _ _ _ _ _ _ _ _ [.inr (7, [_, _, _, _, _])]) (by decide) rfl rfl ?_
      refine j_aload dX8_hear_22 rfl rfl ?_
      refine j_callS dX8_hear_24 kX8_hearOut lX8_96 stX8_hearOut (z_frame [51, 6, 7, 8, 9, 27, 28] rfl (by decide) (Nat.le_of_ble_eq_true rfl) (c_X8_hearOut_X2_e hl _ _ 0 _ _ _ (sp_R S 1) _ (sp_E S 0) _ hrb rfl (by omega) he0)) (Nat.le_of_ble_eq_true rfl) ⟨(Nat.le_of_ble_eq_true rfl), (Nat.le_of_ble_eq_true rfl)⟩ rfl (Nat.le_of_ble_eq_true rfl) rfl rfl (fun _ _ h => h.elim) ?_
      rintro _ _ ⟨_, _, ⟨rfl, _, _, ef9, he9, rfl⟩, rfl, rfl⟩
      refine j_ws (L' := z_cw _ _ _ _ _ _ _ _ _ _ _ _ _ _ _ _ _ _ _ _ _ _ _ _ _ _ _ _ _ _ _ _ _ _ _ _ _ _ _ _ _ _ _ _ _ _ _ _ _ _ _ _ _ _ _ _ [.inr (7, [_, _, _, _, _])]) (by decide) rfl rfl ?_
      refine j_lo (lo' := []) z_q0 ?_
      refine j_dropL (n := 51) rfl (Nat.le_of_ble_eq_true rfl) (Nat.le_of_ble_eq_true rfl) (Nat.le_of_ble_eq_true rfl) z_cwc rfl rfl ?_
      refine j_w (z_cw _ _ _ _ _ _ _ _ _ _ _ _ _ _ _ _ _ _ _ _ _ _ _ _ _ _ _ _ _ _ _ _ _ _ _ _ _ _ _ _ _ _ _ _ _ _ _ _ _ _ _ _ _ _ _ _ [], z_no) rfl ?_
      refine j_callV (q := (RX8, TX8, 9)) dX8_hear_27 kX8_answer lX8_100 inX8_answer seX8_answer rfl rfl (z_dirF (c_X8_answer_f_e hl _ _ _ _ _ _ _ _ _ _ _ _ _ _ _ _ _ _ _ _ _ _ _ _ _ _ _ _ _ _ _ _ _ _ _ _ _ _ _ _ _ _ _ _ _ _ _ _ _ _ _ _ _ _ _ _ (sp_hr S 1 0 0).1 nI (fun y hy z => absurd (nI_pos' (n := y) (by have h8 := sp_ho_n _ _ _ _ hy; rw [List.length_drop] at h8; have := hrb.2.1; omega)) (by rw [z]; decide)))) (Nat.le_of_ble_eq_true rfl) ⟨(Nat.le_of_ble_eq_true rfl), (Nat.le_of_ble_eq_true rfl)⟩ rfl (Nat.le_of_ble_eq_true rfl) rfl rfl (fun _ _ h => h.elim) ?_
      rintro _ _ ⟨_, ⟨rfl, rfl⟩, rfl⟩
      refine j_iret dX8_hear_30 rfl rfl ?_ (Nat.le_of_ble_eq_true rfl) (Nat.le_of_ble_eq_true rfl)
      refine ⟨rfl, (by first | exact z_cwl | rfl), ?_⟩
      try rw [sp_i0]
      try rw [sp_i1]
      exact ⟨sp_k2b_0 (Or.inr rfl) (Or.inl rfl), rfl, (sp_CWe hra hrb ht0 ht1 ht2 he9 he1 hzm3 hzm4 hzm5 rfl)⟩
    · subst e_8
      refine j_astore (lo' := [(4, _), (3, _), (0, _), (1, _), (2, _)]) dX8_hear_11 rfl (by decide) rfl ?_
      refine j_aload_n dX8_hear_13 rfl rfl ?_
      refine j_new (w' := (z_cw _ _ _ _ _ _ _ _ _ _ _ _ _ _ _ _ _ _ _ _ _ _ _ _ _ _ _ _ _ _ _ _ _ _ _ _ _ _ _ _ _ _ _ _ _ _ _ _ _ _ _ _ _ _ _ _ [.inr (7, [_, _, _, _, _])], z_no)) (n := 51) dX8_hear_14 nX8_91 rfl (z_al_l rfl rfl) (Nat.le_of_ble_eq_true rfl) (Nat.le_of_ble_eq_true rfl) ?_
      refine j_dup dX8_hear_17 rfl ?_
      refine j_aload_n dX8_hear_18 rfl rfl ?_
      refine j_callI dX8_hear_19 kX2_init rfl lX8_93 inX2_init rfl (z_frame [51, 6, 7, 8, 9] rfl (by decide) (Nat.le_of_ble_eq_true rfl) (c_X2_init_e hl _ _ _ _)) (Nat.le_of_ble_eq_true rfl) ⟨(Nat.le_of_ble_eq_true rfl), (Nat.le_of_ble_eq_true rfl)⟩ rfl (Nat.le_of_ble_eq_true rfl) rfl rfl (fun _ _ h => h.elim) ?_
      rintro _ _ ⟨_, _, ⟨rfl, rfl⟩, rfl, rfl⟩
      refine j_ws (L' := z_cw _ _ _ _ _ _ _ _ _ _ _ _ _ _ _ _ _ _ _ _ _ _ _ _ _ _ _ _ _ _ _ _ _ _ _ _ _ _ _ _ _ _ _ _ _ _ _ _ _ _ _ _ _ _ _ _ [.inr (7, [_, _, _, _, _])]) (by decide) rfl rfl ?_
      refine j_aload dX8_hear_22 rfl rfl ?_
      refine j_callS dX8_hear_24 kX8_hearOut lX8_96 stX8_hearOut (z_frame [51, 6, 7, 8, 9, 29, 30] rfl (by decide) (Nat.le_of_ble_eq_true rfl) (c_X8_hearOut_X2_e hl _ _ 0 _ _ _ (sp_R S 1) _ (sp_E S 1) _ hrb rfl (by omega) he1)) (Nat.le_of_ble_eq_true rfl) ⟨(Nat.le_of_ble_eq_true rfl), (Nat.le_of_ble_eq_true rfl)⟩ rfl (Nat.le_of_ble_eq_true rfl) rfl rfl (fun _ _ h => h.elim) ?_
      rintro _ _ ⟨_, _, ⟨rfl, _, _, ef9, he9, rfl⟩, rfl, rfl⟩
      refine j_ws (L' := z_cw _ _ _ _ _ _ _ _ _ _ _ _ _ _ _ _ _ _ _ _ _ _ _ _ _ _ _ _ _ _ _ _ _ _ _ _ _ _ _ _ _ _ _ _ _ _ _ _ _ _ _ _ _ _ _ _ [.inr (7, [_, _, _, _, _])]) (by decide) rfl rfl ?_
      refine j_lo (lo' := []) z_q0 ?_
      refine j_dropL (n := 51) rfl (Nat.le_of_ble_eq_true rfl) (Nat.le_of_ble_eq_true rfl) (Nat.le_of_ble_eq_true rfl) z_cwc rfl rfl ?_
      refine j_w (z_cw _ _ _ _ _ _ _ _ _ _ _ _ _ _ _ _ _ _ _ _ _ _ _ _ _ _ _ _ _ _ _ _ _ _ _ _ _ _ _ _ _ _ _ _ _ _ _ _ _ _ _ _ _ _ _ _ [], z_no) rfl ?_
      refine j_callV (q := (RX8, TX8, 9)) dX8_hear_27 kX8_answer lX8_100 inX8_answer seX8_answer rfl rfl (z_dirF (c_X8_answer_f_e hl _ _ _ _ _ _ _ _ _ _ _ _ _ _ _ _ _ _ _ _ _ _ _ _ _ _ _ _ _ _ _ _ _ _ _ _ _ _ _ _ _ _ _ _ _ _ _ _ _ _ _ _ _ _ _ _ (sp_hr S 1 1 0).1 nI (fun y hy z => absurd (nI_pos' (n := y) (by have h8 := sp_ho_n _ _ _ _ hy; rw [List.length_drop] at h8; have := hrb.2.1; omega)) (by rw [z]; decide)))) (Nat.le_of_ble_eq_true rfl) ⟨(Nat.le_of_ble_eq_true rfl), (Nat.le_of_ble_eq_true rfl)⟩ rfl (Nat.le_of_ble_eq_true rfl) rfl rfl (fun _ _ h => h.elim) ?_
      rintro _ _ ⟨_, ⟨rfl, rfl⟩, rfl⟩
      refine j_iret dX8_hear_30 rfl rfl ?_ (Nat.le_of_ble_eq_true rfl) (Nat.le_of_ble_eq_true rfl)
      refine ⟨rfl, (by first | exact z_cwl | rfl), ?_⟩
      try rw [sp_i1]
      exact ⟨sp_k2b_0 (Or.inr rfl) (Or.inr rfl), rfl, (sp_CWe hra hrb ht0 ht1 ht2 he0 he9 hzm3 hzm4 hzm5 rfl)⟩
set_option maxRecDepth 100000 in
set_option maxHeartbeats 8000000 in
theorem c_X8_rest_p (hl : l.stackTraces = false) (S : sp_S) (fa : Nat → Int32) (fb : Nat → Int32) (mt : Int32) (ft : Nat → Int32) (ct : Nat → Int32) (f0 : Nat → Int32) (g0 : Nat → Int32) (f1 : Nat → Int32) (g1 : Nat → Int32) (c1 : Nat → Int32) (f2 : Nat → Int32) (g2 : Nat → Int32) (c2 : Nat → Int32) (f3 : Nat → Int32) (g3 : Nat → Int32) (c3 : Nat → Int32) (m3 : Int32) (f4 : Nat → Int32) (g4 : Nat → Int32) (c4 : Nat → Int32) (m4 : Int32) (f5 : Nat → Int32) (g5 : Nat → Int32) (c5 : Nat → Int32) (m5 : Int32) (ef0 : Nat → Int32) (ef1 : Nat → Int32) (r : Int32) (a : Int32) (g : Int32) (ok : sp_ok S) (hra : z_row 12 (nI (sp_R S 0).length) fa (sp_R S 0)) (hrb : z_row 12 (nI (sp_R S 1).length) fb (sp_R S 1)) (ht0 : z_tba f0 g0 (sp_T S 0)) (ht1 : z_tba f1 g1 (sp_T S 1)) (ht2 : z_tba f2 g2 (sp_T S 2)) (he0 : z_row 10 (nI (sp_E S 0).2.length) ef0 (sp_E S 0).2) (he1 : z_row 10 (nI (sp_E S 1).2.length) ef1 (sp_E S 1).2) (hzm3 : z_m20 m3) (hzm4 : z_m20 m4) (hzm5 : z_m20 m5) : z_CX G l mX8_rest 20 14 120 (z_cw S.1.1 S.1.2 (nI (sp_R S 0).length) (sp_F S 0) fa (sp_C S 0) (nI (sp_R S 1).length) (sp_F S 1) fb (sp_C S 1) mt false ft ct f0 g0 (sp_C S 2) (nI (sp_T S 0).length) 0 f1 g1 c1 (nI (sp_T S 1).length) 0 f2 g2 c2 (nI (sp_T S 2).length) 1 f3 g3 c3 m3 0 f4 g4 c4 m4 0 f5 g5 c5 m5 1 (nI (sp_E S 0).2.length) (sp_E S 0).1.2.1 (sp_E S 0).1.2.2.1 (sp_E S 0).1.2.2.2 (sp_E S 0).1.1 ef0 (nI (sp_E S 1).2.length) (sp_E S 1).1.2.1 (sp_E S 1).1.2.2.1 (sp_E S 1).1.2.2.2 (sp_E S 1).1.1 ef1 []) [.ref 0, .int r, .int a, .int g] (fun v L => sp_k2c r g (a < 0 ∨ nI (sp_R S (sp_i r)).length < a) = 0 ∧ v = some (.int (sp_an (sp_hr S (sp_i r) (sp_i g) (sp_i a)).1)) ∧ sp_CW (sp_hrS S (sp_i r) (sp_i g) (sp_i a)) L) (fun E L => ((z_xI E ∧ sp_k2c r g (a < 0 ∨ nI (sp_R S (sp_i r)).length < a) = 1) ∨ (z_xA E ∧ sp_k2c r g (a < 0 ∨ nI (sp_R S (sp_i r)).length < a) = 2)) ∧ L = (z_cw S.1.1 S.1.2 (nI (sp_R S 0).length) (sp_F S 0) fa (sp_C S 0) (nI (sp_R S 1).length) (sp_F S 1) fb (sp_C S 1) mt false ft ct f0 g0 (sp_C S 2) (nI (sp_T S 0).length) 0 f1 g1 c1 (nI (sp_T S 1).length) 0 f2 g2 c2 (nI (sp_T S 2).length) 1 f3 g3 c3 m3 0 f4 g4 c4 m4 0 f5 g5 c5 m5 1 (nI (sp_E S 0).2.length) (sp_E S 0).1.2.1 (sp_E S 0).1.2.2.1 (sp_E S 0).1.2.2.2 (sp_E S 0).1.1 ef0 (nI (sp_E S 1).2.length) (sp_E S 1).1.2.1 (sp_E S 1).1.2.2.1 (sp_E S 1).1.2.2.2 (sp_E S 1).1.1 ef1 [])) := by
  refine z_body hl (by decide) rfl (Nat.le_of_ble_eq_true rfl) ?_
  show z_J G l mX8_rest (z_SX 20 14 120 (z_cw S.1.1 S.1.2 (nI (sp_R S 0).length) (sp_F S 0) fa (sp_C S 0) (nI (sp_R S 1).length) (sp_F S 1) fb (sp_C S 1) mt false ft ct f0 g0 (sp_C S 2) (nI (sp_T S 0).length) 0 f1 g1 c1 (nI (sp_T S 1).length) 0 f2 g2 c2 (nI (sp_T S 2).length) 1 f3 g3 c3 m3 0 f4 g4 c4 m4 0 f5 g5 c5 m5 1 (nI (sp_E S 0).2.length) (sp_E S 0).1.2.1 (sp_E S 0).1.2.2.1 (sp_E S 0).1.2.2.2 (sp_E S 0).1.1 ef0 (nI (sp_E S 1).2.length) (sp_E S 1).1.2.1 (sp_E S 1).1.2.2.1 (sp_E S 1).1.2.2.2 (sp_E S 1).1.1 ef1 []) (fun v L => sp_k2c r g (a < 0 ∨ nI (sp_R S (sp_i r)).length < a) = 0 ∧ v = some (.int (sp_an (sp_hr S (sp_i r) (sp_i g) (sp_i a)).1)) ∧ sp_CW (sp_hrS S (sp_i r) (sp_i g) (sp_i a)) L) (fun E L => ((z_xI E ∧ sp_k2c r g (a < 0 ∨ nI (sp_R S (sp_i r)).length < a) = 1) ∨ (z_xA E ∧ sp_k2c r g (a < 0 ∨ nI (sp_R S (sp_i r)).length < a) = 2)) ∧ L = (z_cw S.1.1 S.1.2 (nI (sp_R S 0).length) (sp_F S 0) fa (sp_C S 0) (nI (sp_R S 1).length) (sp_F S 1) fb (sp_C S 1) mt false ft ct f0 g0 (sp_C S 2) (nI (sp_T S 0).length) 0 f1 g1 c1 (nI (sp_T S 1).length) 0 f2 g2 c2 (nI (sp_T S 2).length) 1 f3 g3 c3 m3 0 f4 g4 c4 m4 0 f5 g5 c5 m5 1 (nI (sp_E S 0).2.length) (sp_E S 0).1.2.1 (sp_E S 0).1.2.2.1 (sp_E S 0).1.2.2.2 (sp_E S 0).1.1 ef0 (nI (sp_E S 1).2.length) (sp_E S 1).1.2.1 (sp_E S 1).1.2.2.1 (sp_E S 1).1.2.2.2 (sp_E S 1).1.1 ef1 []))) 0 [(0, _), (1, _), (2, _), (3, _)] [] _ 0 0
  refine j_aload_n dX8_rest_0 rfl rfl ?_
  refine j_iload_n dX8_rest_1 rfl ?_
  refine j_callV (q := (RX8, TX8, 9)) dX8_rest_2 kX8_rowFor lX8_46 inX8_rowFor seX8_rowFor rfl rfl (z_dirX (c_X8_rowFor_e hl _ _ _ _ _ _ _ _ _ _ _ _ _ _ _ _ _ _ _ _ _ _ _ _ _ _ _ _ _ _ _ _ _ _ _ _ _ _ _ _ _ _ _ _ _ _ _ _ _ _ _ _ _ _ _ _ _)) (Nat.le_of_ble_eq_true rfl) ⟨(Nat.le_of_ble_eq_true rfl), (Nat.le_of_ble_eq_true rfl)⟩ rfl (Nat.le_of_ble_eq_true rfl) rfl rfl (fun _ _ h => by obtain ⟨_, ⟨h1, rfl⟩, rfl⟩ := h; exact ⟨rfl, rfl, Or.inl ⟨h1.1, sp_k2c_1 h1.2⟩, rfl⟩) ?_
  rintro _ _ ⟨_, ⟨_, rfl, hr, rfl⟩, rfl⟩
  rcases hr with ⟨e_2, rfl⟩ | ⟨e_2, rfl⟩
  · subst e_2
    refine j_astore (lo' := [(4, _), (0, _), (1, _), (2, _), (3, _)]) dX8_rest_5 rfl (by decide) rfl ?_
    refine j_aload_n dX8_rest_7 rfl rfl ?_
    refine j_iload_n dX8_rest_8 rfl ?_
    refine j_callV (q := (RX8, TX8, 9)) dX8_rest_9 kX8_hearerFor lX8_87 inX8_hearerFor seX8_hearerFor rfl rfl (z_dirX (c_X8_hearerFor_e hl _ _ _ _ _ _ _ _ _ _ _ _ _ _ _ _ _ _ _ _ _ _ _ _ _ _ _ _ _ _ _ _ _ _ _ _ _ _ _ _ _ _ _ _ _ _ _ _ _ _ _ _ _ _ _ _ _)) (Nat.le_of_ble_eq_true rfl) ⟨(Nat.le_of_ble_eq_true rfl), (Nat.le_of_ble_eq_true rfl)⟩ rfl (Nat.le_of_ble_eq_true rfl) rfl rfl (fun _ _ h => by obtain ⟨_, ⟨h1, rfl⟩, rfl⟩ := h; exact ⟨rfl, rfl, Or.inl ⟨h1.1, sp_k2c_1' h1.2⟩, rfl⟩) ?_
    rintro _ _ ⟨_, ⟨_, rfl, hr, rfl⟩, rfl⟩
    rcases hr with ⟨e_9, rfl⟩ | ⟨e_9, rfl⟩
    · subst e_9
      refine j_astore (lo' := [(5, _), (4, _), (0, _), (1, _), (2, _), (3, _)]) dX8_rest_12 rfl (by decide) rfl ?_
      refine j_iload_n dX8_rest_14 rfl ?_
      refine j_iconst (v := 0) dX8_rest_15 (by decide) ?_
      refine j_aload dX8_rest_16 rfl rfl ?_
      refine j_getf dX8_rest_18 fX8_68 rfl rfl ?_
      refine j_callS dX8_rest_21 kX8_checkRange lX8_72 stX8_checkRange (c_X8_checkRange_e hl _ _ _ _) (Nat.le_of_ble_eq_true rfl) ⟨(Nat.le_of_ble_eq_true rfl), (Nat.le_of_ble_eq_true rfl)⟩ rfl (Nat.le_of_ble_eq_true rfl) rfl rfl (fun _ _ h => by obtain ⟨h1, rfl⟩ := h; exact ⟨rfl, rfl, Or.inr ⟨h1.1, sp_k2c_2 (Or.inl rfl) (Or.inl rfl) (by rw [sp_i0]; exact h1.2)⟩, rfl⟩) ?_
      rintro _ _ ⟨⟨rfl, hc21⟩, rfl⟩
      obtain ⟨k, hk2, rfl⟩ := sp_nt (m := (sp_R S 0).length) rfl (by have := hra.2.1; omega) hc21
      refine j_new (w' := (z_cw _ _ _ _ _ _ _ _ _ _ _ _ _ _ _ _ _ _ _ _ _ _ _ _ _ _ _ _ _ _ _ _ _ _ _ _ _ _ _ _ _ _ _ _ _ _ _ _ _ _ _ _ _ _ _ _ [.inr (7, [_, _, _, _, _])], z_no)) (n := 51) dX8_rest_24 nX8_91 rfl (z_al_l rfl rfl) (Nat.le_of_ble_eq_true rfl) (Nat.le_of_ble_eq_true rfl) ?_
      refine j_dup dX8_rest_27 rfl ?_
      refine j_aload dX8_rest_28 rfl rfl ?_
      refine j_callI dX8_rest_30 kX2_init rfl lX8_93 inX2_init rfl (z_frame [51, 2, 3, 4, 5] rfl (by decide) (Nat.le_of_ble_eq_true rfl) (c_X2_init_e hl _ _ _ _)) (Nat.le_of_ble_eq_true rfl) ⟨(Nat.le_of_ble_eq_true rfl), (Nat.le_of_ble_eq_true rfl)⟩ rfl (Nat.le_of_ble_eq_true rfl) rfl rfl (fun _ _ h => h.elim) ?_
      rintro _ _ ⟨_, _, ⟨rfl, rfl⟩, rfl, rfl⟩
      refine j_ws (L' := z_cw _ _ _ _ _ _ _ _ _ _ _ _ _ _ _ _ _ _ _ _ _ _ _ _ _ _ _ _ _ _ _ _ _ _ _ _ _ _ _ _ _ _ _ _ _ _ _ _ _ _ _ _ _ _ _ _ [.inr (7, [_, _, _, _, _])]) (by decide) rfl rfl ?_
      refine j_astore (lo' := [(6, _), (5, _), (4, _), (0, _), (1, _), (2, _), (3, _)]) dX8_rest_33 rfl (by decide) rfl ?_
      refine j_aload dX8_rest_35 rfl rfl ?_
      refine j_iload_n dX8_rest_37 rfl ?_
      refine j_callS dX8_rest_38 kX8_passBy lX8_104 stX8_passBy (z_frame [51, 2, 3, 4, 5] rfl (by decide) (Nat.le_of_ble_eq_true rfl) (c_X8_passBy_X2_e hl _ _ _ _ _ (sp_R S 0) _ k hra rfl hk2)) (Nat.le_of_ble_eq_true rfl) ⟨(Nat.le_of_ble_eq_true rfl), (Nat.le_of_ble_eq_true rfl)⟩ rfl (Nat.le_of_ble_eq_true rfl) rfl rfl (fun _ _ h => h.elim) ?_
      rintro _ _ ⟨_, _, ⟨rfl, u9, rfl⟩, rfl, rfl⟩
      refine j_ws (L' := z_cw _ _ _ _ _ _ _ _ _ _ _ _ _ _ _ _ _ _ _ _ _ _ _ _ _ _ _ _ _ _ _ _ _ _ _ _ _ _ _ _ _ _ _ _ _ _ _ _ _ _ _ _ _ _ _ _ [.inr (7, [_, _, _, _, _])]) (by decide) rfl rfl ?_
      refine j_aload_n dX8_rest_41 rfl rfl ?_
      refine j_aload dX8_rest_42 rfl rfl ?_
      refine j_aload dX8_rest_44 rfl rfl ?_
      refine j_callS dX8_rest_46 kX8_hearOut lX8_96 stX8_hearOut (z_frame [51, 2, 3, 4, 5, 27, 28] rfl (by decide) (Nat.le_of_ble_eq_true rfl) (c_X8_hearOut_X2_e hl _ _ k _ _ _ (sp_R S 0) _ (sp_E S 0) _ hra rfl (by omega) he0)) (Nat.le_of_ble_eq_true rfl) ⟨(Nat.le_of_ble_eq_true rfl), (Nat.le_of_ble_eq_true rfl)⟩ rfl (Nat.le_of_ble_eq_true rfl) rfl rfl (fun _ _ h => h.elim) ?_
      rintro _ _ ⟨_, _, ⟨rfl, _, _, ef9, he9, rfl⟩, rfl, rfl⟩
      refine j_ws (L' := z_cw _ _ _ _ _ _ _ _ _ _ _ _ _ _ _ _ _ _ _ _ _ _ _ _ _ _ _ _ _ _ _ _ _ _ _ _ _ _ _ _ _ _ _ _ _ _ _ _ _ _ _ _ _ _ _ _ [.inr (7, [_, _, _, _, _])]) (by decide) rfl rfl ?_
      refine j_lo (lo' := []) z_q0 ?_
      refine j_dropL (n := 51) rfl (Nat.le_of_ble_eq_true rfl) (Nat.le_of_ble_eq_true rfl) (Nat.le_of_ble_eq_true rfl) z_cwc rfl rfl ?_
      refine j_w (z_cw _ _ _ _ _ _ _ _ _ _ _ _ _ _ _ _ _ _ _ _ _ _ _ _ _ _ _ _ _ _ _ _ _ _ _ _ _ _ _ _ _ _ _ _ _ _ _ _ _ _ _ _ _ _ _ _ [], z_no) rfl ?_
      refine j_callV (q := (RX8, TX8, 9)) dX8_rest_49 kX8_answer lX8_100 inX8_answer seX8_answer rfl rfl (z_dirF (c_X8_answer_f_e hl _ _ _ _ _ _ _ _ _ _ _ _ _ _ _ _ _ _ _ _ _ _ _ _ _ _ _ _ _ _ _ _ _ _ _ _ _ _ _ _ _ _ _ _ _ _ _ _ _ _ _ _ _ _ _ _ (sp_hr S 0 0 k).1 nI (fun y hy z => absurd (nI_pos' (n := y) (by have h8 := sp_ho_n _ _ _ _ hy; rw [List.length_drop] at h8; have := hra.2.1; omega)) (by rw [z]; decide)))) (Nat.le_of_ble_eq_true rfl) ⟨(Nat.le_of_ble_eq_true rfl), (Nat.le_of_ble_eq_true rfl)⟩ rfl (Nat.le_of_ble_eq_true rfl) rfl rfl (fun _ _ h => h.elim) ?_
      rintro _ _ ⟨_, ⟨rfl, rfl⟩, rfl⟩
      refine j_iret dX8_rest_52 rfl rfl ?_ (Nat.le_of_ble_eq_true rfl) (Nat.le_of_ble_eq_true rfl)
      refine ⟨rfl, (by first | exact z_cwl | rfl), ?_⟩
      try rw [sp_i0]
      rw [sp_in' (n := k) (by have := hra.2.1; omega)]
      exact ⟨sp_k2c_0 (Or.inl rfl) (Or.inl rfl) hc21, rfl, (sp_CWe hra hrb ht0 ht1 ht2 he9 he1 hzm3 hzm4 hzm5 rfl)⟩
    · subst e_9
      refine j_astore (lo' := [(5, _), (4, _), (0, _), (1, _), (2, _), (3, _)]) dX8_rest_12 rfl (by decide) rfl ?_
      refine j_iload_n dX8_rest_14 rfl ?_
      refine j_iconst (v := 0) dX8_rest_15 (by decide) ?_
      refine j_aload dX8_rest_16 rfl rfl ?_
      refine j_getf dX8_rest_18 fX8_68 rfl rfl ?_
      refine j_callS dX8_rest_21 kX8_checkRange lX8_72 stX8_checkRange (c_X8_checkRange_e hl _ _ _ _) (Nat.le_of_ble_eq_true rfl) ⟨(Nat.le_of_ble_eq_true rfl), (Nat.le_of_ble_eq_true rfl)⟩ rfl (Nat.le_of_ble_eq_true rfl) rfl rfl (fun _ _ h => by obtain ⟨h1, rfl⟩ := h; exact ⟨rfl, rfl, Or.inr ⟨h1.1, sp_k2c_2 (Or.inl rfl) (Or.inr rfl) (by rw [sp_i0]; exact h1.2)⟩, rfl⟩) ?_
      rintro _ _ ⟨⟨rfl, hc21⟩, rfl⟩
      obtain ⟨k, hk2, rfl⟩ := sp_nt (m := (sp_R S 0).length) rfl (by have := hra.2.1; omega) hc21
      refine j_new (w' := (z_cw _ _ _ _ _ _ _ _ _ _ _ _ _ _ _ _ _ _ _ _ _ _ _ _ _ _ _ _ _ _ _ _ _ _ _ _ _ _ _ _ _ _ _ _ _ _ _ _ _ _ _ _ _ _ _ _ [.inr (7, [_, _, _, _, _])], z_no)) (n := 51) dX8_rest_24 nX8_91 rfl (z_al_l rfl rfl) (Nat.le_of_ble_eq_true rfl) (Nat.le_of_ble_eq_true rfl) ?_
      refine j_dup dX8_rest_27 rfl ?_
      refine j_aload dX8_rest_28 rfl rfl ?_
      refine j_callI dX8_rest_30 kX2_init rfl lX8_93 inX2_init rfl (z_frame [51, 2, 3, 4, 5] rfl (by decide) (Nat.le_of_ble_eq_true rfl) (c_X2_init_e hl _ _ _ _)) (Nat.le_of_ble_eq_true rfl) ⟨(Nat.le_of_ble_eq_true rfl), (Nat.le_of_ble_eq_true rfl)⟩ rfl (Nat.le_of_ble_eq_true rfl) rfl rfl (fun _ _ h => h.elim) ?_
      rintro _ _ ⟨_, _, ⟨rfl, rfl⟩, rfl, rfl⟩
      refine j_ws (L' := z_cw _ _ _ _ _ _ _ _ _ _ _ _ _ _ _ _ _ _ _ _ _ _ _ _ _ _ _ _ _ _ _ _ _ _ _ _ _ _ _ _ _ _ _ _ _ _ _ _ _ _ _ _ _ _ _ _ [.inr (7, [_, _, _, _, _])]) (by decide) rfl rfl ?_
      refine j_astore (lo' := [(6, _), (5, _), (4, _), (0, _), (1, _), (2, _), (3, _)]) dX8_rest_33 rfl (by decide) rfl ?_
      refine j_aload dX8_rest_35 rfl rfl ?_
      refine j_iload_n dX8_rest_37 rfl ?_
      refine j_callS dX8_rest_38 kX8_passBy lX8_104 stX8_passBy (z_frame [51, 2, 3, 4, 5] rfl (by decide) (Nat.le_of_ble_eq_true rfl) (c_X8_passBy_X2_e hl _ _ _ _ _ (sp_R S 0) _ k hra rfl hk2)) (Nat.le_of_ble_eq_true rfl) ⟨(Nat.le_of_ble_eq_true rfl), (Nat.le_of_ble_eq_true rfl)⟩ rfl (Nat.le_of_ble_eq_true rfl) rfl rfl (fun _ _ h => h.elim) ?_
      rintro _ _ ⟨_, _, ⟨rfl, u9, rfl⟩, rfl, rfl⟩
      refine j_ws (L' := z_cw _ _ _ _ _ _ _ _ _ _ _ _ _ _ _ _ _ _ _ _ _ _ _ _ _ _ _ _ _ _ _ _ _ _ _ _ _ _ _ _ _ _ _ _ _ _ _ _ _ _ _ _ _ _ _ _ [.inr (7, [_, _, _, _, _])]) (by decide) rfl rfl ?_
      refine j_aload_n dX8_rest_41 rfl rfl ?_
      refine j_aload dX8_rest_42 rfl rfl ?_
      refine j_aload dX8_rest_44 rfl rfl ?_
      refine j_callS dX8_rest_46 kX8_hearOut lX8_96 stX8_hearOut (z_frame [51, 2, 3, 4, 5, 29, 30] rfl (by decide) (Nat.le_of_ble_eq_true rfl) (c_X8_hearOut_X2_e hl _ _ k _ _ _ (sp_R S 0) _ (sp_E S 1) _ hra rfl (by omega) he1)) (Nat.le_of_ble_eq_true rfl) ⟨(Nat.le_of_ble_eq_true rfl), (Nat.le_of_ble_eq_true rfl)⟩ rfl (Nat.le_of_ble_eq_true rfl) rfl rfl (fun _ _ h => h.elim) ?_
      rintro _ _ ⟨_, _, ⟨rfl, _, _, ef9, he9, rfl⟩, rfl, rfl⟩
      refine j_ws (L' := z_cw _ _ _ _ _ _ _ _ _ _ _ _ _ _ _ _ _ _ _ _ _ _ _ _ _ _ _ _ _ _ _ _ _ _ _ _ _ _ _ _ _ _ _ _ _ _ _ _ _ _ _ _ _ _ _ _ [.inr (7, [_, _, _, _, _])]) (by decide) rfl rfl ?_
      refine j_lo (lo' := []) z_q0 ?_
      refine j_dropL (n := 51) rfl (Nat.le_of_ble_eq_true rfl) (Nat.le_of_ble_eq_true rfl) (Nat.le_of_ble_eq_true rfl) z_cwc rfl rfl ?_
      refine j_w (z_cw _ _ _ _ _ _ _ _ _ _ _ _ _ _ _ _ _ _ _ _ _ _ _ _ _ _ _ _ _ _ _ _ _ _ _ _ _ _ _ _ _ _ _ _ _ _ _ _ _ _ _ _ _ _ _ _ [], z_no) rfl ?_
      refine j_callV (q := (RX8, TX8, 9)) dX8_rest_49 kX8_answer lX8_100 inX8_answer seX8_answer rfl rfl (z_dirF (c_X8_answer_f_e hl _ _ _ _ _ _ _ _ _ _ _ _ _ _ _ _ _ _ _ _ _ _ _ _ _ _ _ _ _ _ _ _ _ _ _ _ _ _ _ _ _ _ _ _ _ _ _ _ _ _ _ _ _ _ _ _ (sp_hr S 0 1 k).1 nI (fun y hy z => absurd (nI_pos' (n := y) (by have h8 := sp_ho_n _ _ _ _ hy; rw [List.length_drop] at h8; have := hra.2.1; omega)) (by rw [z]; decide)))) (Nat.le_of_ble_eq_true rfl) ⟨(Nat.le_of_ble_eq_true rfl), (Nat.le_of_ble_eq_true rfl)⟩ rfl (Nat.le_of_ble_eq_true rfl) rfl rfl (fun _ _ h => h.elim) ?_
      rintro _ _ ⟨_, ⟨rfl, rfl⟩, rfl⟩
      refine j_iret dX8_rest_52 rfl rfl ?_ (Nat.le_of_ble_eq_true rfl) (Nat.le_of_ble_eq_true rfl)
      refine ⟨rfl, (by first | exact z_cwl | rfl), ?_⟩
      try rw [sp_i0]
      try rw [sp_i1]
      rw [sp_in' (n := k) (by have := hra.2.1; omega)]
      exact ⟨sp_k2c_0 (Or.inl rfl) (Or.inr rfl) hc21, rfl, (sp_CWe hra hrb ht0 ht1 ht2 he0 he9 hzm3 hzm4 hzm5 rfl)⟩
  · subst e_2
    refine j_astore (lo' := [(4, _), (0, _), (1, _), (2, _), (3, _)]) dX8_rest_5 rfl (by decide) rfl ?_
    refine j_aload_n dX8_rest_7 rfl rfl ?_
    refine j_iload_n dX8_rest_8 rfl ?_
    refine j_callV (q := (RX8, TX8, 9)) dX8_rest_9 kX8_hearerFor lX8_87 inX8_hearerFor seX8_hearerFor rfl rfl (z_dirX (c_X8_hearerFor_e hl _ _ _ _ _ _ _ _ _ _ _ _ _ _ _ _ _ _ _ _ _ _ _ _ _ _ _ _ _ _ _ _ _ _ _ _ _ _ _ _ _ _ _ _ _ _ _ _ _ _ _ _ _ _ _ _ _)) (Nat.le_of_ble_eq_true rfl) ⟨(Nat.le_of_ble_eq_true rfl), (Nat.le_of_ble_eq_true rfl)⟩ rfl (Nat.le_of_ble_eq_true rfl) rfl rfl (fun _ _ h => by obtain ⟨_, ⟨h1, rfl⟩, rfl⟩ := h; exact ⟨rfl, rfl, Or.inl ⟨h1.1, sp_k2c_1' h1.2⟩, rfl⟩) ?_
    rintro _ _ ⟨_, ⟨_, rfl, hr, rfl⟩, rfl⟩
    rcases hr with ⟨e_9, rfl⟩ | ⟨e_9, rfl⟩
    · subst e_9
      refine j_astore (lo' := [(5, _), (4, _), (0, _), (1, _), (2, _), (3, _)]) dX8_rest_12 rfl (by decide) rfl ?_
      refine j_iload_n dX8_rest_14 rfl ?_
      refine j_iconst (v := 0) dX8_rest_15 (by decide) ?_
      refine j_aload dX8_rest_16 rfl rfl ?_
      refine j_getf dX8_rest_18 fX8_68 rfl rfl ?_
      refine j_callS dX8_rest_21 kX8_checkRange lX8_72 stX8_checkRange (c_X8_checkRange_e hl _ _ _ _) (Nat.le_of_ble_eq_true rfl) ⟨(Nat.le_of_ble_eq_true rfl), (Nat.le_of_ble_eq_true rfl)⟩ rfl (Nat.le_of_ble_eq_true rfl) rfl rfl (fun _ _ h => by obtain ⟨h1, rfl⟩ := h; exact ⟨rfl, rfl, Or.inr ⟨h1.1, sp_k2c_2 (Or.inr rfl) (Or.inl rfl) (by rw [sp_i1]; exact h1.2)⟩, rfl⟩) ?_
      rintro _ _ ⟨⟨rfl, hc21⟩, rfl⟩
      obtain ⟨k, hk2, rfl⟩ := sp_nt (m := (sp_R S 1).length) rfl (by have := hrb.2.1; omega) hc21
      refine j_new (w' := (z_cw _ _ _ _ _ _ _ _ _ _ _ _ _ _ _ _ _ _ _ _ _ _ _ _ _ _ _ _ _ _ _ _ _ _ _ _ _ _ _ _ _ _ _ _ _ _ _ _ _ _ _ _ _ _ _ _ [.inr (7, [_, _, _, _, _])], z_no)) (n := 51) dX8_rest_24 nX8_91 rfl (z_al_l rfl rfl) (Nat.le_of_ble_eq_true rfl) (Nat.le_of_ble_eq_true rfl) ?_
      refine j_dup dX8_rest_27 rfl ?_
      refine j_aload dX8_rest_28 rfl rfl ?_
      refine j_callI dX8_rest_30 kX2_init rfl lX8_93 inX2_init rfl (z_frame [51, 6, 7, 8, 9] rfl (by decide) (Nat.le_of_ble_eq_true rfl) (c_X2_init_e hl _ _ _ _)) (Nat.le_of_ble_eq_true rfl) ⟨(Nat.le_of_ble_eq_true rfl), (Nat.le_of_ble_eq_true rfl)⟩ rfl (Nat.le_of_ble_eq_true rfl) rfl rfl (fun _ _ h => h.elim) ?_
      rintro _ _ ⟨_, _, ⟨rfl, rfl⟩, rfl, rfl⟩
      refine j_ws (L' := z_cw _ _ _ _ _ _ _ _ _ _ _ _ _ _ _ _ _ _ _ _ _ _ _ _ _ _ _ _ _ _ _ _ _ _ _ _ _ _ _ _ _ _ _ _ _ _ _ _ _ _ _ _ _ _ _ _ [.inr (7, [_, _, _, _, _])]) (by decide) rfl rfl ?_
      refine j_astore (lo' := [(6, _), (5, _), (4, _), (0, _), (1, _), (2, _), (3, _)]) dX8_rest_33 rfl (by decide) rfl ?_
      refine j_aload dX8_rest_35 rfl rfl ?_
      refine j_iload_n dX8_rest_37 rfl ?_
      refine j_callS dX8_rest_38 kX8_passBy lX8_104 stX8_passBy (z_frame [51, 6, 7, 8, 9] rfl (by decide) (Nat.le_of_ble_eq_true rfl) (c_X8_passBy_X2_e hl _ _ _ _ _ (sp_R S 1) _ k hrb rfl hk2)) (Nat.le_of_ble_eq_true rfl) ⟨(Nat.le_of_ble_eq_true rfl), (Nat.le_of_ble_eq_true rfl)⟩ rfl (Nat.le_of_ble_eq_true rfl) rfl rfl (fun _ _ h => h.elim) ?_
      rintro _ _ ⟨_, _, ⟨rfl, u9, rfl⟩, rfl, rfl⟩
      refine j_ws (L' := z_cw _ _ _ _ _ _ _ _ _ _ _ _ _ _ _ _ _ _ _ _ _ _ _ _ _ _ _ _ _ _ _ _ _ _ _ _ _ _ _ _ _ _ _ _ _ _ _ _ _ _ _ _ _ _ _ _ [.inr (7, [_, _, _, _, _])]) (by decide) rfl rfl ?_
      refine j_aload_n dX8_rest_41 rfl rfl ?_
      refine j_aload dX8_rest_42 rfl rfl ?_
      refine j_aload dX8_rest_44 rfl rfl ?_
      refine j_callS dX8_rest_46 kX8_hearOut lX8_96 stX8_hearOut (z_frame [51, 6, 7, 8, 9, 27, 28] rfl (by decide) (Nat.le_of_ble_eq_true rfl) (c_X8_hearOut_X2_e hl _ _ k _ _ _ (sp_R S 1) _ (sp_E S 0) _ hrb rfl (by omega) he0)) (Nat.le_of_ble_eq_true rfl) ⟨(Nat.le_of_ble_eq_true rfl), (Nat.le_of_ble_eq_true rfl)⟩ rfl (Nat.le_of_ble_eq_true rfl) rfl rfl (fun _ _ h => h.elim) ?_
      rintro _ _ ⟨_, _, ⟨rfl, _, _, ef9, he9, rfl⟩, rfl, rfl⟩
      refine j_ws (L' := z_cw _ _ _ _ _ _ _ _ _ _ _ _ _ _ _ _ _ _ _ _ _ _ _ _ _ _ _ _ _ _ _ _ _ _ _ _ _ _ _ _ _ _ _ _ _ _ _ _ _ _ _ _ _ _ _ _ [.inr (7, [_, _, _, _, _])]) (by decide) rfl rfl ?_
      refine j_lo (lo' := []) z_q0 ?_
      refine j_dropL (n := 51) rfl (Nat.le_of_ble_eq_true rfl) (Nat.le_of_ble_eq_true rfl) (Nat.le_of_ble_eq_true rfl) z_cwc rfl rfl ?_
      refine j_w (z_cw _ _ _ _ _ _ _ _ _ _ _ _ _ _ _ _ _ _ _ _ _ _ _ _ _ _ _ _ _ _ _ _ _ _ _ _ _ _ _ _ _ _ _ _ _ _ _ _ _ _ _ _ _ _ _ _ [], z_no) rfl ?_
      refine j_callV (q := (RX8, TX8, 9)) dX8_rest_49 kX8_answer lX8_100 inX8_answer seX8_answer rfl rfl (z_dirF (c_X8_answer_f_e hl _ _ _ _ _ _ _ _ _ _ _ _ _ _ _ _ _ _ _ _ _ _ _ _ _ _ _ _ _ _ _ _ _ _ _ _ _ _ _ _ _ _ _ _ _ _ _ _ _ _ _ _ _ _ _ _ (sp_hr S 1 0 k).1 nI (fun y hy z => absurd (nI_pos' (n := y) (by have h8 := sp_ho_n _ _ _ _ hy; rw [List.length_drop] at h8; have := hrb.2.1; omega)) (by rw [z]; decide)))) (Nat.le_of_ble_eq_true rfl) ⟨(Nat.le_of_ble_eq_true rfl), (Nat.le_of_ble_eq_true rfl)⟩ rfl (Nat.le_of_ble_eq_true rfl) rfl rfl (fun _ _ h => h.elim) ?_
      rintro _ _ ⟨_, ⟨rfl, rfl⟩, rfl⟩
      refine j_iret dX8_rest_52 rfl rfl ?_ (Nat.le_of_ble_eq_true rfl) (Nat.le_of_ble_eq_true rfl)
      refine ⟨rfl, (by first | exact z_cwl | rfl), ?_⟩
      try rw [sp_i0]
      try rw [sp_i1]
      rw [sp_in' (n := k) (by have := hrb.2.1; omega)]
      exact ⟨sp_k2c_0 (Or.inr rfl) (Or.inl rfl) hc21, rfl, (sp_CWe hra hrb ht0 ht1 ht2 he9 he1 hzm3 hzm4 hzm5 rfl)⟩
    · subst e_9
      refine j_astore (lo' := [(5, _), (4, _), (0, _), (1, _), (2, _), (3, _)]) dX8_rest_12 rfl (by decide) rfl ?_
      refine j_iload_n dX8_rest_14 rfl ?_
      refine j_iconst (v := 0) dX8_rest_15 (by decide) ?_
      refine j_aload dX8_rest_16 rfl rfl ?_
      refine j_getf dX8_rest_18 fX8_68 rfl rfl ?_
      refine j_callS dX8_rest_21 kX8_checkRange lX8_72 stX8_checkRange (c_X8_checkRange_e hl _ _ _ _) (Nat.le_of_ble_eq_true rfl) ⟨(Nat.le_of_ble_eq_true rfl), (Nat.le_of_ble_eq_true rfl)⟩ rfl (Nat.le_of_ble_eq_true rfl) rfl rfl (fun _ _ h => by obtain ⟨h1, rfl⟩ := h; exact ⟨rfl, rfl, Or.inr ⟨h1.1, sp_k2c_2 (Or.inr rfl) (Or.inr rfl) (by rw [sp_i1]; exact h1.2)⟩, rfl⟩) ?_
      rintro _ _ ⟨⟨rfl, hc21⟩, rfl⟩
      obtain ⟨k, hk2, rfl⟩ := sp_nt (m := (sp_R S 1).length) rfl (by have := hrb.2.1; omega) hc21
      refine j_new (w' := (z_cw _ _ _ _ _ _ _ _ _ _ _ _ _ _ _ _ _ _ _ _ _ _ _ _ _ _ _ _ _ _ _ _ _ _ _ _ _ _ _ _ _ _ _ _ _ _ _ _ _ _ _ _ _ _ _ _ [.inr (7, [_, _, _, _, _])], z_no)) (n := 51) dX8_rest_24 nX8_91 rfl (z_al_l rfl rfl) (Nat.le_of_ble_eq_true rfl) (Nat.le_of_ble_eq_true rfl) ?_
      refine j_dup dX8_rest_27 rfl ?_
      refine j_aload dX8_rest_28 rfl rfl ?_
      refine j_callI dX8_rest_30 kX2_init rfl lX8_93 inX2_init rfl (z_frame [51, 6, 7, 8, 9] rfl (by decide) (Nat.le_of_ble_eq_true rfl) (c_X2_init_e hl _ _ _ _)) (Nat.le_of_ble_eq_true rfl) ⟨(Nat.le_of_ble_eq_true rfl), (Nat.le_of_ble_eq_true rfl)⟩ rfl (Nat.le_of_ble_eq_true rfl) rfl rfl (fun _ _ h => h.elim) ?_
      rintro _ _ ⟨_, _, ⟨rfl, rfl⟩, rfl, rfl⟩
      refine j_ws (L' := z_cw _ _ _ _ _ _ _ _ _ _ _ _ _ _ _ _ _ _ _ _ _ _ _ _ _ _ _ _ _ _ _ _ _ _ _ _ _ _ _ _ _ _ _ _ _ _ _ _ _ _ _ _ _ _ _ _ [.inr (7, [_, _, _, _, _])]) (by decide) rfl rfl ?_
      refine j_astore (lo' := [(6, _), (5, _), (4, _), (0, _), (1, _), (2, _), (3, _)]) dX8_rest_33 rfl (by decide) rfl ?_
      refine j_aload dX8_rest_35 rfl rfl ?_
      refine j_iload_n dX8_rest_37 rfl ?_
      refine j_callS dX8_rest_38 kX8_passBy lX8_104 stX8_passBy (z_frame [51, 6, 7, 8, 9] rfl (by decide) (Nat.le_of_ble_eq_true rfl) (c_X8_passBy_X2_e hl _ _ _ _ _ (sp_R S 1) _ k hrb rfl hk2)) (Nat.le_of_ble_eq_true rfl) ⟨(Nat.le_of_ble_eq_true rfl), (Nat.le_of_ble_eq_true rfl)⟩ rfl (Nat.le_of_ble_eq_true rfl) rfl rfl (fun _ _ h => h.elim) ?_
      rintro _ _ ⟨_, _, ⟨rfl, u9, rfl⟩, rfl, rfl⟩
      refine j_ws (L' := z_cw _ _ _ _ _ _ _ _ _ _ _ _ _ _ _ _ _ _ _ _ _ _ _ _ _ _ _ _ _ _ _ _ _ _ _ _ _ _ _ _ _ _ _ _ _ _ _ _ _ _ _ _ _ _ _ _ [.inr (7, [_, _, _, _, _])]) (by decide) rfl rfl ?_
      refine j_aload_n dX8_rest_41 rfl rfl ?_
      refine j_aload dX8_rest_42 rfl rfl ?_
      refine j_aload dX8_rest_44 rfl rfl ?_
      refine j_callS dX8_rest_46 kX8_hearOut lX8_96 stX8_hearOut (z_frame [51, 6, 7, 8, 9, 29, 30] rfl (by decide) (Nat.le_of_ble_eq_true rfl) (c_X8_hearOut_X2_e hl _ _ k _ _ _ (sp_R S 1) _ (sp_E S 1) _ hrb rfl (by omega) he1)) (Nat.le_of_ble_eq_true rfl) ⟨(Nat.le_of_ble_eq_true rfl), (Nat.le_of_ble_eq_true rfl)⟩ rfl (Nat.le_of_ble_eq_true rfl) rfl rfl (fun _ _ h => h.elim) ?_
      rintro _ _ ⟨_, _, ⟨rfl, _, _, ef9, he9, rfl⟩, rfl, rfl⟩
      refine j_ws (L' := z_cw _ _ _ _ _ _ _ _ _ _ _ _ _ _ _ _ _ _ _ _ _ _ _ _ _ _ _ _ _ _ _ _ _ _ _ _ _ _ _ _ _ _ _ _ _ _ _ _ _ _ _ _ _ _ _ _ [.inr (7, [_, _, _, _, _])]) (by decide) rfl rfl ?_
      refine j_lo (lo' := []) z_q0 ?_
      refine j_dropL (n := 51) rfl (Nat.le_of_ble_eq_true rfl) (Nat.le_of_ble_eq_true rfl) (Nat.le_of_ble_eq_true rfl) z_cwc rfl rfl ?_
      refine j_w (z_cw _ _ _ _ _ _ _ _ _ _ _ _ _ _ _ _ _ _ _ _ _ _ _ _ _ _ _ _ _ _ _ _ _ _ _ _ _ _ _ _ _ _ _ _ _ _ _ _ _ _ _ _ _ _ _ _ [], z_no) rfl ?_
      refine j_callV (q := (RX8, TX8, 9)) dX8_rest_49 kX8_answer lX8_100 inX8_answer seX8_answer rfl rfl (z_dirF (c_X8_answer_f_e hl _ _ _ _ _ _ _ _ _ _ _ _ _ _ _ _ _ _ _ _ _ _ _ _ _ _ _ _ _ _ _ _ _ _ _ _ _ _ _ _ _ _ _ _ _ _ _ _ _ _ _ _ _ _ _ _ (sp_hr S 1 1 k).1 nI (fun y hy z => absurd (nI_pos' (n := y) (by have h8 := sp_ho_n _ _ _ _ hy; rw [List.length_drop] at h8; have := hrb.2.1; omega)) (by rw [z]; decide)))) (Nat.le_of_ble_eq_true rfl) ⟨(Nat.le_of_ble_eq_true rfl), (Nat.le_of_ble_eq_true rfl)⟩ rfl (Nat.le_of_ble_eq_true rfl) rfl rfl (fun _ _ h => h.elim) ?_
      rintro _ _ ⟨_, ⟨rfl, rfl⟩, rfl⟩
      refine j_iret dX8_rest_52 rfl rfl ?_ (Nat.le_of_ble_eq_true rfl) (Nat.le_of_ble_eq_true rfl)
      refine ⟨rfl, (by first | exact z_cwl | rfl), ?_⟩
      try rw [sp_i1]
      rw [sp_in' (n := k) (by have := hrb.2.1; omega)]
      exact ⟨sp_k2c_0 (Or.inr rfl) (Or.inr rfl) hc21, rfl, (sp_CWe hra hrb ht0 ht1 ht2 he0 he9 hzm3 hzm4 hzm5 rfl)⟩
set_option maxRecDepth 100000 in
set_option maxHeartbeats 8000000 in
theorem c_X8_removeIf_p (hl : l.stackTraces = false) (S : sp_S) (fa : Nat → Int32) (fb : Nat → Int32) (mt : Int32) (ft : Nat → Int32) (ct : Nat → Int32) (f0 : Nat → Int32) (g0 : Nat → Int32) (f1 : Nat → Int32) (g1 : Nat → Int32) (c1 : Nat → Int32) (f2 : Nat → Int32) (g2 : Nat → Int32) (c2 : Nat → Int32) (f3 : Nat → Int32) (g3 : Nat → Int32) (c3 : Nat → Int32) (m3 : Int32) (f4 : Nat → Int32) (g4 : Nat → Int32) (c4 : Nat → Int32) (m4 : Int32) (f5 : Nat → Int32) (g5 : Nat → Int32) (c5 : Nat → Int32) (m5 : Int32) (ef0 : Nat → Int32) (ef1 : Nat → Int32) (r : Int32) (t : Int32) (n : Int32) (ok : sp_ok S) (hra : z_row 12 (nI (sp_R S 0).length) fa (sp_R S 0)) (hrb : z_row 12 (nI (sp_R S 1).length) fb (sp_R S 1)) (ht0 : z_tba f0 g0 (sp_T S 0)) (ht1 : z_tba f1 g1 (sp_T S 1)) (ht2 : z_tba f2 g2 (sp_T S 2)) (he0 : z_row 10 (nI (sp_E S 0).2.length) ef0 (sp_E S 0).2) (he1 : z_row 10 (nI (sp_E S 1).2.length) ef1 (sp_E S 1).2) (hzm3 : z_m20 m3) (hzm4 : z_m20 m4) (hzm5 : z_m20 m5) : z_CX G l mX8_removeIf 20 14 120 (z_cw S.1.1 S.1.2 (nI (sp_R S 0).length) (sp_F S 0) fa (sp_C S 0) (nI (sp_R S 1).length) (sp_F S 1) fb (sp_C S 1) mt false ft ct f0 g0 (sp_C S 2) (nI (sp_T S 0).length) 0 f1 g1 c1 (nI (sp_T S 1).length) 0 f2 g2 c2 (nI (sp_T S 2).length) 1 f3 g3 c3 m3 0 f4 g4 c4 m4 0 f5 g5 c5 m5 1 (nI (sp_E S 0).2.length) (sp_E S 0).1.2.1 (sp_E S 0).1.2.2.1 (sp_E S 0).1.2.2.2 (sp_E S 0).1.1 ef0 (nI (sp_E S 1).2.length) (sp_E S 1).1.2.1 (sp_E S 1).1.2.2.1 (sp_E S 1).1.2.2.2 (sp_E S 1).1.1 ef1 []) [.ref 0, .int r, .int t, .int n] (fun v L => q_k22 r ((t < 0 ∨ 5 < t) ∨ sp_bv n) = 0 ∧ v = some (.int (sp_ab (sp_sft S (sp_i r) t n).1)) ∧ sp_CW (sp_sftS S (sp_i r) t n) L) (fun E L => ((z_xI E ∧ q_k22 r ((t < 0 ∨ 5 < t) ∨ sp_bv n) = 1) ∨ (z_xA E ∧ q_k22 r ((t < 0 ∨ 5 < t) ∨ sp_bv n) = 2)) ∧ L = (z_cw S.1.1 S.1.2 (nI (sp_R S 0).length) (sp_F S 0) fa (sp_C S 0) (nI (sp_R S 1).length) (sp_F S 1) fb (sp_C S 1) mt false ft ct f0 g0 (sp_C S 2) (nI (sp_T S 0).length) 0 f1 g1 c1 (nI (sp_T S 1).length) 0 f2 g2 c2 (nI (sp_T S 2).length) 1 f3 g3 c3 m3 0 f4 g4 c4 m4 0 f5 g5 c5 m5 1 (nI (sp_E S 0).2.length) (sp_E S 0).1.2.1 (sp_E S 0).1.2.2.1 (sp_E S 0).1.2.2.2 (sp_E S 0).1.1 ef0 (nI (sp_E S 1).2.length) (sp_E S 1).1.2.1 (sp_E S 1).1.2.2.1 (sp_E S 1).1.2.2.2 (sp_E S 1).1.1 ef1 [])) := by
  refine z_body hl (by decide) rfl (Nat.le_of_ble_eq_true rfl) ?_
  show z_J G l mX8_removeIf (z_SX 20 14 120 (z_cw S.1.1 S.1.2 (nI (sp_R S 0).length) (sp_F S 0) fa (sp_C S 0) (nI (sp_R S 1).length) (sp_F S 1) fb (sp_C S 1) mt false ft ct f0 g0 (sp_C S 2) (nI (sp_T S 0).length) 0 f1 g1 c1 (nI (sp_T S 1).length) 0 f2 g2 c2 (nI (sp_T S 2).length) 1 f3 g3 c3 m3 0 f4 g4 c4 m4 0 f5 g5 c5 m5 1 (nI (sp_E S 0).2.length) (sp_E S 0).1.2.1 (sp_E S 0).1.2.2.1 (sp_E S 0).1.2.2.2 (sp_E S 0).1.1 ef0 (nI (sp_E S 1).2.length) (sp_E S 1).1.2.1 (sp_E S 1).1.2.2.1 (sp_E S 1).1.2.2.2 (sp_E S 1).1.1 ef1 []) (fun v L => q_k22 r ((t < 0 ∨ 5 < t) ∨ sp_bv n) = 0 ∧ v = some (.int (sp_ab (sp_sft S (sp_i r) t n).1)) ∧ sp_CW (sp_sftS S (sp_i r) t n) L) (fun E L => ((z_xI E ∧ q_k22 r ((t < 0 ∨ 5 < t) ∨ sp_bv n) = 1) ∨ (z_xA E ∧ q_k22 r ((t < 0 ∨ 5 < t) ∨ sp_bv n) = 2)) ∧ L = (z_cw S.1.1 S.1.2 (nI (sp_R S 0).length) (sp_F S 0) fa (sp_C S 0) (nI (sp_R S 1).length) (sp_F S 1) fb (sp_C S 1) mt false ft ct f0 g0 (sp_C S 2) (nI (sp_T S 0).length) 0 f1 g1 c1 (nI (sp_T S 1).length) 0 f2 g2 c2 (nI (sp_T S 2).length) 1 f3 g3 c3 m3 0 f4 g4 c4 m4 0 f5 g5 c5 m5 1 (nI (sp_E S 0).2.length) (sp_E S 0).1.2.1 (sp_E S 0).1.2.2.1 (sp_E S 0).1.2.2.2 (sp_E S 0).1.1 ef0 (nI (sp_E S 1).2.length) (sp_E S 1).1.2.1 (sp_E S 1).1.2.2.1 (sp_E S 1).1.2.2.2 (sp_E S 1).1.1 ef1 []))) 0 [(0, _), (1, _), (2, _), (3, _)] [] _ 0 0
  refine j_aload_n dX8_removeIf_0 rfl rfl ?_
  refine j_iload_n dX8_removeIf_1 rfl ?_
  refine j_callV (q := (RX8, TX8, 9)) dX8_removeIf_2 kX8_rowFor lX8_46 inX8_rowFor seX8_rowFor rfl rfl (z_dirX (c_X8_rowFor_e hl _ _ _ _ _ _ _ _ _ _ _ _ _ _ _ _ _ _ _ _ _ _ _ _ _ _ _ _ _ _ _ _ _ _ _ _ _ _ _ _ _ _ _ _ _ _ _ _ _ _ _ _ _ _ _ _ _)) (Nat.le_of_ble_eq_true rfl) ⟨(Nat.le_of_ble_eq_true rfl), (Nat.le_of_ble_eq_true rfl)⟩ rfl (Nat.le_of_ble_eq_true rfl) rfl rfl (fun _ _ h => by obtain ⟨_, ⟨h1, rfl⟩, rfl⟩ := h; exact ⟨rfl, rfl, Or.inl ⟨h1.1, sp_k22_1 h1.2⟩, rfl⟩) ?_
  rintro _ _ ⟨_, ⟨_, rfl, hr, rfl⟩, rfl⟩
  rcases hr with ⟨e_2, rfl⟩ | ⟨e_2, rfl⟩
  · subst e_2
    refine j_astore (lo' := [(4, _), (0, _), (1, _), (2, _), (3, _)]) dX8_removeIf_5 rfl (by decide) rfl ?_
    refine j_iload_n dX8_removeIf_7 rfl ?_
    refine j_iconst (v := 0) dX8_removeIf_8 (by decide) ?_
    refine j_iconst (v := 5) dX8_removeIf_9 (by decide) ?_
    refine j_callS dX8_removeIf_10 kX8_checkRange lX8_72 stX8_checkRange (c_X8_checkRange_e hl _ _ _ _) (Nat.le_of_ble_eq_true rfl) ⟨(Nat.le_of_ble_eq_true rfl), (Nat.le_of_ble_eq_true rfl)⟩ rfl (Nat.le_of_ble_eq_true rfl) rfl rfl (fun _ _ h => by obtain ⟨h1, rfl⟩ := h; exact ⟨rfl, rfl, Or.inr ⟨h1.1, sp_k22_2 (Or.inl rfl) (Or.inl h1.2)⟩, rfl⟩) ?_
    rintro _ _ ⟨⟨rfl, hc10⟩, rfl⟩
    refine j_iload_n dX8_removeIf_13 rfl ?_
    refine j_callS dX8_removeIf_14 kX8_checkValue lX8_50 stX8_checkValue (c_X8_checkValue_e hl _ _) (Nat.le_of_ble_eq_true rfl) ⟨(Nat.le_of_ble_eq_true rfl), (Nat.le_of_ble_eq_true rfl)⟩ rfl (Nat.le_of_ble_eq_true rfl) rfl rfl (fun _ _ h => by obtain ⟨h1, rfl⟩ := h; exact ⟨rfl, rfl, Or.inr ⟨h1.1, sp_k22_2 (Or.inl rfl) (Or.inr h1.2)⟩, rfl⟩) ?_
    rintro _ _ ⟨⟨rfl, hc14⟩, rfl⟩
    refine j_aload_n dX8_removeIf_17 rfl rfl ?_
    refine j_new (w' := (z_cw _ _ _ _ _ _ _ _ _ _ _ _ _ _ _ _ _ _ _ _ _ _ _ _ _ _ _ _ _ _ _ _ _ _ _ _ _ _ _ _ _ _ _ _ _ _ _ _ _ _ _ _ _ _ _ _ [.inr (7, [_, _, _, _, _])], z_no)) (n := 51) dX8_removeIf_18 nX8_91 rfl (z_al_l rfl rfl) (Nat.le_of_ble_eq_true rfl) (Nat.le_of_ble_eq_true rfl) ?_
    refine j_dup dX8_removeIf_21 rfl ?_
    refine j_aload dX8_removeIf_22 rfl rfl ?_
    refine j_callI dX8_removeIf_24 kX2_init rfl lX8_93 inX2_init rfl (z_frame [51, 2, 3, 4, 5] rfl (by decide) (Nat.le_of_ble_eq_true rfl) (c_X2_init_e hl _ _ _ _)) (Nat.le_of_ble_eq_true rfl) ⟨(Nat.le_of_ble_eq_true rfl), (Nat.le_of_ble_eq_true rfl)⟩ rfl (Nat.le_of_ble_eq_true rfl) rfl rfl (fun _ _ h => h.elim) ?_
    rintro _ _ ⟨_, _, ⟨rfl, rfl⟩, rfl, rfl⟩
    refine j_ws (L' := z_cw _ _ _ _ _ _ _ _ _ _ _ _ _ _ _ _ _ _ _ _ _ _ _ _ _ _ _ _ _ _ _ _ _ _ _ _ _ _ _ _ _ _ _ _ _ _ _ _ _ _ _ _ _ _ _ _ [.inr (7, [_, _, _, _, _])]) (by decide) rfl rfl ?_
    refine j_iload_n dX8_removeIf_27 rfl ?_
    refine j_iload_n dX8_removeIf_28 rfl ?_
    refine j_callS dX8_removeIf_29 kX8_takeEach lX8_108 stX8_takeEach (z_frame [51, 2, 3, 4, 5] rfl (by decide) (Nat.le_of_ble_eq_true rfl) (c_X8_takeEach_e hl _ _ _ _ _ (sp_R S 0) _ _ _ hra rfl)) (Nat.le_of_ble_eq_true rfl) ⟨(Nat.le_of_ble_eq_true rfl), (Nat.le_of_ble_eq_true rfl)⟩ rfl (Nat.le_of_ble_eq_true rfl) rfl rfl (fun _ _ h => h.elim) ?_
    rintro _ _ ⟨_, _, ⟨rfl, _, _, f9, hr9, rfl⟩, rfl, rfl⟩
    refine j_ws (L' := z_cw _ _ _ _ _ _ _ _ _ _ _ _ _ _ _ _ _ _ _ _ _ _ _ _ _ _ _ _ _ _ _ _ _ _ _ _ _ _ _ _ _ _ _ _ _ _ _ _ _ _ _ _ _ _ _ _ [.inr (7, [_, _, _, _, _])]) (by decide) rfl rfl ?_
    refine j_lo (lo' := []) z_q0 ?_
    refine j_dropL (n := 51) rfl (Nat.le_of_ble_eq_true rfl) (Nat.le_of_ble_eq_true rfl) (Nat.le_of_ble_eq_true rfl) z_cwc rfl rfl ?_
    refine j_w (z_cw _ _ _ _ _ _ _ _ _ _ _ _ _ _ _ _ _ _ _ _ _ _ _ _ _ _ _ _ _ _ _ _ _ _ _ _ _ _ _ _ _ _ _ _ _ _ _ _ _ _ _ _ _ _ _ _ [], z_no) rfl ?_
    refine j_callV (q := (RX8, TX8, 9)) dX8_removeIf_32 kX8_answer lX8_100 inX8_answer seX8_answer rfl rfl (z_dirF (c_X8_answer_f_e hl _ _ _ _ _ _ _ _ _ _ _ _ _ _ _ _ _ _ _ _ _ _ _ _ _ _ _ _ _ _ _ _ _ _ _ _ _ _ _ _ _ _ _ _ _ _ _ _ _ _ _ _ _ _ _ _ (sp_sft S 0 t n).1 z_bi (fun y _ => by cases y <;> decide))) (Nat.le_of_ble_eq_true rfl) ⟨(Nat.le_of_ble_eq_true rfl), (Nat.le_of_ble_eq_true rfl)⟩ rfl (Nat.le_of_ble_eq_true rfl) rfl rfl (fun _ _ h => h.elim) ?_
    rintro _ _ ⟨_, ⟨rfl, rfl⟩, rfl⟩
    refine j_iret dX8_removeIf_35 rfl rfl ?_ (Nat.le_of_ble_eq_true rfl) (Nat.le_of_ble_eq_true rfl)
    refine ⟨rfl, (by first | exact z_cwl | rfl), ?_⟩
    rw [sp_i0]
    exact ⟨sp_k22_0 (Or.inl rfl) (fun z => z.elim hc10 hc14), rfl, (sp_CWe hr9 hrb ht0 ht1 ht2 he0 he1 hzm3 hzm4 hzm5 rfl)⟩
  · subst e_2
    refine j_astore (lo' := [(4, _), (0, _), (1, _), (2, _), (3, _)]) dX8_removeIf_5 rfl (by decide) rfl ?_
    refine j_iload_n dX8_removeIf_7 rfl ?_
    refine j_iconst (v := 0) dX8_removeIf_8 (by decide) ?_
    refine j_iconst (v := 5) dX8_removeIf_9 (by decide) ?_
    refine j_callS dX8_removeIf_10 kX8_checkRange lX8_72 stX8_checkRange (c_X8_checkRange_e hl _ _ _ _) (Nat.le_of_ble_eq_true rfl) ⟨(Nat.le_of_ble_eq_true rfl), (Nat.le_of_ble_eq_true rfl)⟩ rfl (Nat.le_of_ble_eq_true rfl) rfl rfl (fun _ _ h => by obtain ⟨h1, rfl⟩ := h; exact ⟨rfl, rfl, Or.inr ⟨h1.1, sp_k22_2 (Or.inr rfl) (Or.inl h1.2)⟩, rfl⟩) ?_
    rintro _ _ ⟨⟨rfl, hc10⟩, rfl⟩
    refine j_iload_n dX8_removeIf_13 rfl ?_
    refine j_callS dX8_removeIf_14 kX8_checkValue lX8_50 stX8_checkValue (c_X8_checkValue_e hl _ _) (Nat.le_of_ble_eq_true rfl) ⟨(Nat.le_of_ble_eq_true rfl), (Nat.le_of_ble_eq_true rfl)⟩ rfl (Nat.le_of_ble_eq_true rfl) rfl rfl (fun _ _ h => by obtain ⟨h1, rfl⟩ := h; exact ⟨rfl, rfl, Or.inr ⟨h1.1, sp_k22_2 (Or.inr rfl) (Or.inr h1.2)⟩, rfl⟩) ?_
    rintro _ _ ⟨⟨rfl, hc14⟩, rfl⟩
    refine j_aload_n dX8_removeIf_17 rfl rfl ?_
    refine j_new (w' := (z_cw _ _ _ _ _ _ _ _ _ _ _ _ _ _ _ _ _ _ _ _ _ _ _ _ _ _ _ _ _ _ _ _ _ _ _ _ _ _ _ _ _ _ _ _ _ _ _ _ _ _ _ _ _ _ _ _ [.inr (7, [_, _, _, _, _])], z_no)) (n := 51) dX8_removeIf_18 nX8_91 rfl (z_al_l rfl rfl) (Nat.le_of_ble_eq_true rfl) (Nat.le_of_ble_eq_true rfl) ?_
    refine j_dup dX8_removeIf_21 rfl ?_
    refine j_aload dX8_removeIf_22 rfl rfl ?_
    refine j_callI dX8_removeIf_24 kX2_init rfl lX8_93 inX2_init rfl (z_frame [51, 6, 7, 8, 9] rfl (by decide) (Nat.le_of_ble_eq_true rfl) (c_X2_init_e hl _ _ _ _)) (Nat.le_of_ble_eq_true rfl) ⟨(Nat.le_of_ble_eq_true rfl), (Nat.le_of_ble_eq_true rfl)⟩ rfl (Nat.le_of_ble_eq_true rfl) rfl rfl (fun _ _ h => h.elim) ?_
    rintro _ _ ⟨_, _, ⟨rfl, rfl⟩, rfl, rfl⟩
    refine j_ws (L' := z_cw _ _ _ _ _ _ _ _ _ _ _ _ _ _ _ _ _ _ _ _ _ _ _ _ _ _ _ _ _ _ _ _ _ _ _ _ _ _ _ _ _ _ _ _ _ _ _ _ _ _ _ _ _ _ _ _ [.inr (7, [_, _, _, _, _])]) (by decide) rfl rfl ?_
    refine j_iload_n dX8_removeIf_27 rfl ?_
    refine j_iload_n dX8_removeIf_28 rfl ?_
    refine j_callS dX8_removeIf_29 kX8_takeEach lX8_108 stX8_takeEach (z_frame [51, 6, 7, 8, 9] rfl (by decide) (Nat.le_of_ble_eq_true rfl) (c_X8_takeEach_e hl _ _ _ _ _ (sp_R S 1) _ _ _ hrb rfl)) (Nat.le_of_ble_eq_true rfl) ⟨(Nat.le_of_ble_eq_true rfl), (Nat.le_of_ble_eq_true rfl)⟩ rfl (Nat.le_of_ble_eq_true rfl) rfl rfl (fun _ _ h => h.elim) ?_
    rintro _ _ ⟨_, _, ⟨rfl, _, _, f9, hr9, rfl⟩, rfl, rfl⟩
    refine j_ws (L' := z_cw _ _ _ _ _ _ _ _ _ _ _ _ _ _ _ _ _ _ _ _ _ _ _ _ _ _ _ _ _ _ _ _ _ _ _ _ _ _ _ _ _ _ _ _ _ _ _ _ _ _ _ _ _ _ _ _ [.inr (7, [_, _, _, _, _])]) (by decide) rfl rfl ?_
    refine j_lo (lo' := []) z_q0 ?_
    refine j_dropL (n := 51) rfl (Nat.le_of_ble_eq_true rfl) (Nat.le_of_ble_eq_true rfl) (Nat.le_of_ble_eq_true rfl) z_cwc rfl rfl ?_
    refine j_w (z_cw _ _ _ _ _ _ _ _ _ _ _ _ _ _ _ _ _ _ _ _ _ _ _ _ _ _ _ _ _ _ _ _ _ _ _ _ _ _ _ _ _ _ _ _ _ _ _ _ _ _ _ _ _ _ _ _ [], z_no) rfl ?_
    refine j_callV (q := (RX8, TX8, 9)) dX8_removeIf_32 kX8_answer lX8_100 inX8_answer seX8_answer rfl rfl (z_dirF (c_X8_answer_f_e hl _ _ _ _ _ _ _ _ _ _ _ _ _ _ _ _ _ _ _ _ _ _ _ _ _ _ _ _ _ _ _ _ _ _ _ _ _ _ _ _ _ _ _ _ _ _ _ _ _ _ _ _ _ _ _ _ (sp_sft S 1 t n).1 z_bi (fun y _ => by cases y <;> decide))) (Nat.le_of_ble_eq_true rfl) ⟨(Nat.le_of_ble_eq_true rfl), (Nat.le_of_ble_eq_true rfl)⟩ rfl (Nat.le_of_ble_eq_true rfl) rfl rfl (fun _ _ h => h.elim) ?_
    rintro _ _ ⟨_, ⟨rfl, rfl⟩, rfl⟩
    refine j_iret dX8_removeIf_35 rfl rfl ?_ (Nat.le_of_ble_eq_true rfl) (Nat.le_of_ble_eq_true rfl)
    refine ⟨rfl, (by first | exact z_cwl | rfl), ?_⟩
    rw [sp_i1]
    exact ⟨sp_k22_0 (Or.inr rfl) (fun z => z.elim hc10 hc14), rfl, (sp_CWe hra hr9 ht0 ht1 ht2 he0 he1 hzm3 hzm4 hzm5 rfl)⟩
set_option maxRecDepth 100000 in
set_option maxHeartbeats 8000000 in
theorem c_X8_replaceAll_p (hl : l.stackTraces = false) (S : sp_S) (fa : Nat → Int32) (fb : Nat → Int32) (mt : Int32) (ft : Nat → Int32) (ct : Nat → Int32) (f0 : Nat → Int32) (g0 : Nat → Int32) (f1 : Nat → Int32) (g1 : Nat → Int32) (c1 : Nat → Int32) (f2 : Nat → Int32) (g2 : Nat → Int32) (c2 : Nat → Int32) (f3 : Nat → Int32) (g3 : Nat → Int32) (c3 : Nat → Int32) (m3 : Int32) (f4 : Nat → Int32) (g4 : Nat → Int32) (c4 : Nat → Int32) (m4 : Int32) (f5 : Nat → Int32) (g5 : Nat → Int32) (c5 : Nat → Int32) (m5 : Int32) (ef0 : Nat → Int32) (ef1 : Nat → Int32) (r : Int32) (u : Int32) (n : Int32) (ok : sp_ok S) (hra : z_row 12 (nI (sp_R S 0).length) fa (sp_R S 0)) (hrb : z_row 12 (nI (sp_R S 1).length) fb (sp_R S 1)) (ht0 : z_tba f0 g0 (sp_T S 0)) (ht1 : z_tba f1 g1 (sp_T S 1)) (ht2 : z_tba f2 g2 (sp_T S 2)) (he0 : z_row 10 (nI (sp_E S 0).2.length) ef0 (sp_E S 0).2) (he1 : z_row 10 (nI (sp_E S 1).2.length) ef1 (sp_E S 1).2) (hzm3 : z_m20 m3) (hzm4 : z_m20 m4) (hzm5 : z_m20 m5) : z_CX G l mX8_replaceAll 20 14 120 (z_cw S.1.1 S.1.2 (nI (sp_R S 0).length) (sp_F S 0) fa (sp_C S 0) (nI (sp_R S 1).length) (sp_F S 1) fb (sp_C S 1) mt false ft ct f0 g0 (sp_C S 2) (nI (sp_T S 0).length) 0 f1 g1 c1 (nI (sp_T S 1).length) 0 f2 g2 c2 (nI (sp_T S 2).length) 1 f3 g3 c3 m3 0 f4 g4 c4 m4 0 f5 g5 c5 m5 1 (nI (sp_E S 0).2.length) (sp_E S 0).1.2.1 (sp_E S 0).1.2.2.1 (sp_E S 0).1.2.2.2 (sp_E S 0).1.1 ef0 (nI (sp_E S 1).2.length) (sp_E S 1).1.2.1 (sp_E S 1).1.2.2.1 (sp_E S 1).1.2.2.2 (sp_E S 1).1.1 ef1 []) [.ref 0, .int r, .int u, .int n] (fun v L => q_k22 r (¬ (u = 0 ∨ u = 1 ∨ u = 4) ∨ sp_bv n) = 0 ∧ v = some (.int (cond (sp_chg S (sp_i r) u n).1 (nI (sp_chg S (sp_i r) u n).2.2.length) (-9))) ∧ sp_CW (sp_chgS S (sp_i r) u n) L) (fun E L => ((z_xI E ∧ q_k22 r (¬ (u = 0 ∨ u = 1 ∨ u = 4) ∨ sp_bv n) = 1) ∨ (z_xA E ∧ q_k22 r (¬ (u = 0 ∨ u = 1 ∨ u = 4) ∨ sp_bv n) = 2)) ∧ L = (z_cw S.1.1 S.1.2 (nI (sp_R S 0).length) (sp_F S 0) fa (sp_C S 0) (nI (sp_R S 1).length) (sp_F S 1) fb (sp_C S 1) mt false ft ct f0 g0 (sp_C S 2) (nI (sp_T S 0).length) 0 f1 g1 c1 (nI (sp_T S 1).length) 0 f2 g2 c2 (nI (sp_T S 2).length) 1 f3 g3 c3 m3 0 f4 g4 c4 m4 0 f5 g5 c5 m5 1 (nI (sp_E S 0).2.length) (sp_E S 0).1.2.1 (sp_E S 0).1.2.2.1 (sp_E S 0).1.2.2.2 (sp_E S 0).1.1 ef0 (nI (sp_E S 1).2.length) (sp_E S 1).1.2.1 (sp_E S 1).1.2.2.1 (sp_E S 1).1.2.2.2 (sp_E S 1).1.1 ef1 [])) := by
  refine z_body hl (by decide) rfl (Nat.le_of_ble_eq_true rfl) ?_
  show z_J G l mX8_replaceAll (z_SX 20 14 120 (z_cw S.1.1 S.1.2 (nI (sp_R S 0).length) (sp_F S 0) fa (sp_C S 0) (nI (sp_R S 1).length) (sp_F S 1) fb (sp_C S 1) mt false ft ct f0 g0 (sp_C S 2) (nI (sp_T S 0).length) 0 f1 g1 c1 (nI (sp_T S 1).length) 0 f2 g2 c2 (nI (sp_T S 2).length) 1 f3 g3 c3 m3 0 f4 g4 c4 m4 0 f5 g5 c5 m5 1 (nI (sp_E S 0).2.length) (sp_E S 0).1.2.1 (sp_E S 0).1.2.2.1 (sp_E S 0).1.2.2.2 (sp_E S 0).1.1 ef0 (nI (sp_E S 1).2.length) (sp_E S 1).1.2.1 (sp_E S 1).1.2.2.1 (sp_E S 1).1.2.2.2 (sp_E S 1).1.1 ef1 []) (fun v L => q_k22 r (¬ (u = 0 ∨ u = 1 ∨ u = 4) ∨ sp_bv n) = 0 ∧ v = some (.int (cond (sp_chg S (sp_i r) u n).1 (nI (sp_chg S (sp_i r) u n).2.2.length) (-9))) ∧ sp_CW (sp_chgS S (sp_i r) u n) L) (fun E L => ((z_xI E ∧ q_k22 r (¬ (u = 0 ∨ u = 1 ∨ u = 4) ∨ sp_bv n) = 1) ∨ (z_xA E ∧ q_k22 r (¬ (u = 0 ∨ u = 1 ∨ u = 4) ∨ sp_bv n) = 2)) ∧ L = (z_cw S.1.1 S.1.2 (nI (sp_R S 0).length) (sp_F S 0) fa (sp_C S 0) (nI (sp_R S 1).length) (sp_F S 1) fb (sp_C S 1) mt false ft ct f0 g0 (sp_C S 2) (nI (sp_T S 0).length) 0 f1 g1 c1 (nI (sp_T S 1).length) 0 f2 g2 c2 (nI (sp_T S 2).length) 1 f3 g3 c3 m3 0 f4 g4 c4 m4 0 f5 g5 c5 m5 1 (nI (sp_E S 0).2.length) (sp_E S 0).1.2.1 (sp_E S 0).1.2.2.1 (sp_E S 0).1.2.2.2 (sp_E S 0).1.1 ef0 (nI (sp_E S 1).2.length) (sp_E S 1).1.2.1 (sp_E S 1).1.2.2.1 (sp_E S 1).1.2.2.2 (sp_E S 1).1.1 ef1 []))) 0 [(0, _), (1, _), (2, _), (3, _)] [] _ 0 0
  refine j_aload_n dX8_replaceAll_0 rfl rfl ?_
  refine j_iload_n dX8_replaceAll_1 rfl ?_
  refine j_callV (q := (RX8, TX8, 9)) dX8_replaceAll_2 kX8_rowFor lX8_46 inX8_rowFor seX8_rowFor rfl rfl (z_dirX (c_X8_rowFor_e hl _ _ _ _ _ _ _ _ _ _ _ _ _ _ _ _ _ _ _ _ _ _ _ _ _ _ _ _ _ _ _ _ _ _ _ _ _ _ _ _ _ _ _ _ _ _ _ _ _ _ _ _ _ _ _ _ _)) (Nat.le_of_ble_eq_true rfl) ⟨(Nat.le_of_ble_eq_true rfl), (Nat.le_of_ble_eq_true rfl)⟩ rfl (Nat.le_of_ble_eq_true rfl) rfl rfl (fun _ _ h => by obtain ⟨_, ⟨h1, rfl⟩, rfl⟩ := h; exact ⟨rfl, rfl, Or.inl ⟨h1.1, sp_k22_1 h1.2⟩, rfl⟩) ?_
  rintro _ _ ⟨_, ⟨_, rfl, hr, rfl⟩, rfl⟩
  rcases hr with ⟨e_2, rfl⟩ | ⟨e_2, rfl⟩
  · subst e_2
    refine j_astore (lo' := [(4, _), (0, _), (1, _), (2, _), (3, _)]) dX8_replaceAll_5 rfl (by decide) rfl ?_
    refine j_iload_n dX8_replaceAll_7 rfl ?_
    refine j_if_eq (tgt := 21) dX8_replaceAll_8 (by decide) (fun c_8 => ?_) (fun c_8 => ?_)
    · have hu : u = 0 ∨ u = 1 ∨ u = 4 := Or.inl c_8
      refine j_iconst (v := 1) dX8_replaceAll_21 (by decide) ?_
      refine j_goto (tgt := 26) dX8_replaceAll_22 (by decide) ?_
      refine j_callS dX8_replaceAll_26 kX8_checkRule lX8_112 stX8_checkRule (c_X8_checkRule_e hl _ _) (Nat.le_of_ble_eq_true rfl) ⟨(Nat.le_of_ble_eq_true rfl), (Nat.le_of_ble_eq_true rfl)⟩ rfl (Nat.le_of_ble_eq_true rfl) rfl rfl (fun _ _ h => by obtain ⟨h1, rfl⟩ := h; exact ⟨rfl, rfl, absurd h1.2 (by decide), rfl⟩) ?_
      rintro _ _ ⟨⟨rfl, hcr⟩, rfl⟩
      have hu2 : ¬ u = 2 := by rintro rfl; exact absurd hu (by decide)
      have hu3 : ¬ u = 3 := by rintro rfl; exact absurd hu (by decide)
      refine j_iload_n dX8_replaceAll_29 rfl ?_
      refine j_callS dX8_replaceAll_30 kX8_checkValue lX8_50 stX8_checkValue (c_X8_checkValue_e hl _ _) (Nat.le_of_ble_eq_true rfl) ⟨(Nat.le_of_ble_eq_true rfl), (Nat.le_of_ble_eq_true rfl)⟩ rfl (Nat.le_of_ble_eq_true rfl) rfl rfl (fun _ _ h => by obtain ⟨h1, rfl⟩ := h; exact ⟨rfl, rfl, Or.inr ⟨h1.1, sp_k22_2 (Or.inl rfl) (Or.inr h1.2)⟩, rfl⟩) ?_
      rintro _ _ ⟨⟨rfl, hc30⟩, rfl⟩
      refine j_new (w' := (z_cw _ _ _ _ _ _ _ _ _ _ _ _ _ _ _ _ _ _ _ _ _ _ _ _ _ _ _ _ _ _ _ _ _ _ _ _ _ _ _ _ _ _ _ _ _ _ _ _ _ _ _ _ _ _ _ _ [.inr (7, [_, _, _, _, _])], z_no)) (n := 51) dX8_replaceAll_33 nX8_91 rfl (z_al_l rfl rfl) (Nat.le_of_ble_eq_true rfl) (Nat.le_of_ble_eq_true rfl) ?_
      refine j_dup dX8_replaceAll_36 rfl ?_
      refine j_aload dX8_replaceAll_37 rfl rfl ?_
      refine j_callI dX8_replaceAll_39 kX2_init rfl lX8_93 inX2_init rfl (z_frame [51, 2, 3, 4, 5] rfl (by decide) (Nat.le_of_ble_eq_true rfl) (c_X2_init_e hl _ _ _ _)) (Nat.le_of_ble_eq_true rfl) ⟨(Nat.le_of_ble_eq_true rfl), (Nat.le_of_ble_eq_true rfl)⟩ rfl (Nat.le_of_ble_eq_true rfl) rfl rfl (fun _ _ h => h.elim) ?_
      rintro _ _ ⟨_, _, ⟨rfl, rfl⟩, rfl, rfl⟩
      refine j_ws (L' := z_cw _ _ _ _ _ _ _ _ _ _ _ _ _ _ _ _ _ _ _ _ _ _ _ _ _ _ _ _ _ _ _ _ _ _ _ _ _ _ _ _ _ _ _ _ _ _ _ _ _ _ _ _ _ _ _ _ [.inr (7, [_, _, _, _, _])]) (by decide) rfl rfl ?_
      refine j_iload_n dX8_replaceAll_42 rfl ?_
      refine j_iload_n dX8_replaceAll_43 rfl ?_
      refine j_callS dX8_replaceAll_44 kX8_changeEach lX8_115 stX8_changeEach (z_frame [51, 2, 3, 4, 5] rfl (by decide) (Nat.le_of_ble_eq_true rfl) (c_X8_changeEach_X2_e hl _ _ _ _ (sp_R S 0) _ _ _ hra rfl (ok.1 0 (by decide)).2 hu2 hu3 (sp_vl hc30))) (Nat.le_of_ble_eq_true rfl) ⟨(Nat.le_of_ble_eq_true rfl), (Nat.le_of_ble_eq_true rfl)⟩ rfl (Nat.le_of_ble_eq_true rfl) rfl rfl (fun _ _ h => h.elim) ?_
      rintro _ _ ⟨_, _, ⟨rfl, _, _, f9, hr9, rfl⟩, rfl, rfl⟩
      refine j_ws (L' := z_cw _ _ _ _ _ _ _ _ _ _ _ _ _ _ _ _ _ _ _ _ _ _ _ _ _ _ _ _ _ _ _ _ _ _ _ _ _ _ _ _ _ _ _ _ _ _ _ _ _ _ _ _ _ _ _ _ [.inr (7, [_, _, _, _, _])]) (by decide) rfl rfl ?_
      refine j_istore (lo' := [(5, _), (4, _), (0, _), (1, _), (2, _), (3, _)]) dX8_replaceAll_47 (by decide) rfl ?_
      refine j_dropL (n := 51) rfl (Nat.le_of_ble_eq_true rfl) (Nat.le_of_ble_eq_true rfl) (Nat.le_of_ble_eq_true rfl) z_cwc rfl rfl ?_
      refine j_w (z_cw _ _ _ _ _ _ _ _ _ _ _ _ _ _ _ _ _ _ _ _ _ _ _ _ _ _ _ _ _ _ _ _ _ _ _ _ _ _ _ _ _ _ _ _ _ _ _ _ _ _ _ _ _ _ _ _ [], z_no) rfl ?_
      refine j_iload dX8_replaceAll_49 rfl ?_
      refine j_if_eq (tgt := 62) dX8_replaceAll_51 (by decide) (fun c_51 => ?_) (fun c_51 => ?_)
      · have hb51 := z_bF c_51
        have hbl : (sp_chg S 0 u n).1 = false := hb51
        refine j_aload_n dX8_replaceAll_62 rfl rfl ?_
        refine j_callV (q := (RX8, TX8, 9)) dX8_replaceAll_63 kX8_refused lX8_119 inX8_refused seX8_refused rfl rfl (z_dirF (c_X8_refused_e hl _ _ _ _ _ _ _ _ _ _ _ _ _ _ _ _ _ _ _ _ _ _ _ _ _ _ _ _ _ _ _ _ _ _ _ _ _ _ _ _ _ _ _ _ _ _ _ _ _ _ _ _ _ _ _ _)) (Nat.le_of_ble_eq_true rfl) ⟨(Nat.le_of_ble_eq_true rfl), (Nat.le_of_ble_eq_true rfl)⟩ rfl (Nat.le_of_ble_eq_true rfl) rfl rfl (fun _ _ h => h.elim) ?_
        rintro _ _ ⟨_, ⟨rfl, rfl⟩, rfl⟩
        refine j_iret dX8_replaceAll_66 rfl rfl ?_ (Nat.le_of_ble_eq_true rfl) (Nat.le_of_ble_eq_true rfl)
        refine ⟨rfl, (by first | exact z_cwl | rfl), ?_⟩
        try rw [sp_i0]
        exact ⟨sp_k22_0 (Or.inl rfl) (fun z => z.elim (fun z => z hu) hc30), (by rw [hbl]; rfl), (sp_CWe hr9 hrb ht0 ht1 ht2 he0 he1 hzm3 hzm4 hzm5 ((by unfold sp_chgS; rw [hbl]; rfl)))⟩
      · have hb51 := z_bt c_51
        have hbl : (sp_chg S 0 u n).1 = true := hb51
        refine j_aload dX8_replaceAll_54 rfl rfl ?_
        refine j_getf dX8_replaceAll_56 fX8_68 rfl rfl ?_
        refine j_goto (tgt := 66) dX8_replaceAll_59 (by decide) ?_
        refine j_iret dX8_replaceAll_66 rfl rfl ?_ (Nat.le_of_ble_eq_true rfl) (Nat.le_of_ble_eq_true rfl)
        refine ⟨rfl, (by first | exact z_cwl | rfl), ?_⟩
        try rw [sp_i0]
        exact ⟨sp_k22_0 (Or.inl rfl) (fun z => z.elim (fun z => z hu) hc30), (by rw [hbl]; rfl), (sp_CWe hr9 hrb ht0 ht1 ht2 he0 he1 hzm3 hzm4 hzm5 ((by unfold sp_chgS; rw [hbl]; rfl)))⟩
    · refine j_iload_n dX8_replaceAll_11 rfl ?_
      refine j_iconst (v := 1) dX8_replaceAll_12 (by decide) ?_
      refine j_icmp_eq (tgt := 21) dX8_replaceAll_13 (by decide) (fun c_13 => ?_) (fun c_13 => ?_)
      · have hu : u = 0 ∨ u = 1 ∨ u = 4 := Or.inr (Or.inl c_13)
        refine j_iconst (v := 1) dX8_replaceAll_21 (by decide) ?_
        refine j_goto (tgt := 26) dX8_replaceAll_22 (by decide) ?_
        refine j_callS dX8_replaceAll_26 kX8_checkRule lX8_112 stX8_checkRule (c_X8_checkRule_e hl _ _) (Nat.le_of_ble_eq_true rfl) ⟨(Nat.le_of_ble_eq_true rfl), (Nat.le_of_ble_eq_true rfl)⟩ rfl (Nat.le_of_ble_eq_true rfl) rfl rfl (fun _ _ h => by obtain ⟨h1, rfl⟩ := h; exact ⟨rfl, rfl, absurd h1.2 (by decide), rfl⟩) ?_
        rintro _ _ ⟨⟨rfl, hcr⟩, rfl⟩
        have hu2 : ¬ u = 2 := by rintro rfl; exact absurd hu (by decide)
        have hu3 : ¬ u = 3 := by rintro rfl; exact absurd hu (by decide)
        refine j_iload_n dX8_replaceAll_29 rfl ?_
        refine j_callS dX8_replaceAll_30 kX8_checkValue lX8_50 stX8_checkValue (c_X8_checkValue_e hl _ _) (Nat.le_of_ble_eq_true rfl) ⟨(Nat.le_of_ble_eq_true rfl), (Nat.le_of_ble_eq_true rfl)⟩ rfl (Nat.le_of_ble_eq_true rfl) rfl rfl (fun _ _ h => by obtain ⟨h1, rfl⟩ := h; exact ⟨rfl, rfl, Or.inr ⟨h1.1, sp_k22_2 (Or.inl rfl) (Or.inr h1.2)⟩, rfl⟩) ?_
        rintro _ _ ⟨⟨rfl, hc30⟩, rfl⟩
        refine j_new (w' := (z_cw _ _ _ _ _ _ _ _ _ _ _ _ _ _ _ _ _ _ _ _ _ _ _ _ _ _ _ _ _ _ _ _ _ _ _ _ _ _ _ _ _ _ _ _ _ _ _ _ _ _ _ _ _ _ _ _ [.inr (7, [_, _, _, _, _])], z_no)) (n := 51) dX8_replaceAll_33 nX8_91 rfl (z_al_l rfl rfl) (Nat.le_of_ble_eq_true rfl) (Nat.le_of_ble_eq_true rfl) ?_
        refine j_dup dX8_replaceAll_36 rfl ?_
        refine j_aload dX8_replaceAll_37 rfl rfl ?_
        refine j_callI dX8_replaceAll_39 kX2_init rfl lX8_93 inX2_init rfl (z_frame [51, 2, 3, 4, 5] rfl (by decide) (Nat.le_of_ble_eq_true rfl) (c_X2_init_e hl _ _ _ _)) (Nat.le_of_ble_eq_true rfl) ⟨(Nat.le_of_ble_eq_true rfl), (Nat.le_of_ble_eq_true rfl)⟩ rfl (Nat.le_of_ble_eq_true rfl) rfl rfl (fun _ _ h => h.elim) ?_
        rintro _ _ ⟨_, _, ⟨rfl, rfl⟩, rfl, rfl⟩
        refine j_ws (L' := z_cw _ _ _ _ _ _ _ _ _ _ _ _ _ _ _ _ _ _ _ _ _ _ _ _ _ _ _ _ _ _ _ _ _ _ _ _ _ _ _ _ _ _ _ _ _ _ _ _ _ _ _ _ _ _ _ _ [.inr (7, [_, _, _, _, _])]) (by decide) rfl rfl ?_
        refine j_iload_n dX8_replaceAll_42 rfl ?_
        refine j_iload_n dX8_replaceAll_43 rfl ?_
        refine j_callS dX8_replaceAll_44 kX8_changeEach lX8_115 stX8_changeEach (z_frame [51, 2, 3, 4, 5] rfl (by decide) (Nat.le_of_ble_eq_true rfl) (c_X8_changeEach_X2_e hl _ _ _ _ (sp_R S 0) _ _ _ hra rfl (ok.1 0 (by decide)).2 hu2 hu3 (sp_vl hc30))) (Nat.le_of_ble_eq_true rfl) ⟨(Nat.le_of_ble_eq_true rfl), (Nat.le_of_ble_eq_true rfl)⟩ rfl (Nat.le_of_ble_eq_true rfl) rfl rfl (fun _ _ h => h.elim) ?_
        rintro _ _ ⟨_, _, ⟨rfl, _, _, f9, hr9, rfl⟩, rfl, rfl⟩
        refine j_ws (L' := z_cw _ _ _ _ _ _ _ _ _ _ _ _ _ _ _ _ _ _ _ _ _ _ _ _ _ _ _ _ _ _ _ _ _ _ _ _ _ _ _ _ _ _ _ _ _ _ _ _ _ _ _ _ _ _ _ _ [.inr (7, [_, _, _, _, _])]) (by decide) rfl rfl ?_
        refine j_istore (lo' := [(5, _), (4, _), (0, _), (1, _), (2, _), (3, _)]) dX8_replaceAll_47 (by decide) rfl ?_
        refine j_dropL (n := 51) rfl (Nat.le_of_ble_eq_true rfl) (Nat.le_of_ble_eq_true rfl) (Nat.le_of_ble_eq_true rfl) z_cwc rfl rfl ?_
        refine j_w (z_cw _ _ _ _ _ _ _ _ _ _ _ _ _ _ _ _ _ _ _ _ _ _ _ _ _ _ _ _ _ _ _ _ _ _ _ _ _ _ _ _ _ _ _ _ _ _ _ _ _ _ _ _ _ _ _ _ [], z_no) rfl ?_
        refine j_iload dX8_replaceAll_49 rfl ?_
        refine j_if_eq (tgt := 62) dX8_replaceAll_51 (by decide) (fun c_51 => ?_) (fun c_51 => ?_)
        · have hb51 := z_bF c_51
          have hbl : (sp_chg S 0 u n).1 = false := hb51
          refine j_aload_n dX8_replaceAll_62 rfl rfl ?_
          refine j_callV (q := (RX8, TX8, 9)) dX8_replaceAll_63 kX8_refused lX8_119 inX8_refused seX8_refused rfl rfl (z_dirF (c_X8_refused_e hl _ _ _ _ _ _ _ _ _ _ _ _ _ _ _ _ _ _ _ _ _ _ _ _ _ _ _ _ _ _ _ _ _ _ _ _ _ _ _ _ _ _ _ _ _ _ _ _ _ _ _ _ _ _ _ _)) (Nat.le_of_ble_eq_true rfl) ⟨(Nat.le_of_ble_eq_true rfl), (Nat.le_of_ble_eq_true rfl)⟩ rfl (Nat.le_of_ble_eq_true rfl) rfl rfl (fun _ _ h => h.elim) ?_
          rintro _ _ ⟨_, ⟨rfl, rfl⟩, rfl⟩
          refine j_iret dX8_replaceAll_66 rfl rfl ?_ (Nat.le_of_ble_eq_true rfl) (Nat.le_of_ble_eq_true rfl)
          refine ⟨rfl, (by first | exact z_cwl | rfl), ?_⟩
          try rw [sp_i0]
          exact ⟨sp_k22_0 (Or.inl rfl) (fun z => z.elim (fun z => z hu) hc30), (by rw [hbl]; rfl), (sp_CWe hr9 hrb ht0 ht1 ht2 he0 he1 hzm3 hzm4 hzm5 ((by unfold sp_chgS; rw [hbl]; rfl)))⟩
        · have hb51 := z_bt c_51
          have hbl : (sp_chg S 0 u n).1 = true := hb51
          refine j_aload dX8_replaceAll_54 rfl rfl ?_
          refine j_getf dX8_replaceAll_56 fX8_68 rfl rfl ?_
          refine j_goto (tgt := 66) dX8_replaceAll_59 (by decide) ?_
          refine j_iret dX8_replaceAll_66 rfl rfl ?_ (Nat.le_of_ble_eq_true rfl) (Nat.le_of_ble_eq_true rfl)
          refine ⟨rfl, (by first | exact z_cwl | rfl), ?_⟩
          try rw [sp_i0]
          exact ⟨sp_k22_0 (Or.inl rfl) (fun z => z.elim (fun z => z hu) hc30), (by rw [hbl]; rfl), (sp_CWe hr9 hrb ht0 ht1 ht2 he0 he1 hzm3 hzm4 hzm5 ((by unfold sp_chgS; rw [hbl]; rfl)))⟩
      · refine j_iload_n dX8_replaceAll_16 rfl ?_
        refine j_iconst (v := 4) dX8_replaceAll_17 (by decide) ?_
        refine j_icmp_ne (tgt := 25) dX8_replaceAll_18 (by decide) (fun c_18 => ?_) (fun c_18 => ?_)
        · have hnu : ¬ (u = 0 ∨ u = 1 ∨ u = 4) := (fun z => z.elim c_8 (fun z => z.elim c_13 c_18))
          refine j_iconst (v := 0) dX8_replaceAll_25 (by decide) ?_
          refine j_callS dX8_replaceAll_26 kX8_checkRule lX8_112 stX8_checkRule (c_X8_checkRule_e hl _ _) (Nat.le_of_ble_eq_true rfl) ⟨(Nat.le_of_ble_eq_true rfl), (Nat.le_of_ble_eq_true rfl)⟩ rfl (Nat.le_of_ble_eq_true rfl) rfl rfl (fun _ _ h => by obtain ⟨h1, rfl⟩ := h; exact ⟨rfl, rfl, Or.inr ⟨h1.1, sp_k22_2 (Or.inl rfl) (Or.inl hnu)⟩, rfl⟩) ?_
          rintro _ _ ⟨⟨rfl, hcr⟩, rfl⟩
          exact absurd rfl hcr
        · have hu : u = 0 ∨ u = 1 ∨ u = 4 := Or.inr (Or.inr (c_18))
          refine j_iconst (v := 1) dX8_replaceAll_21 (by decide) ?_
          refine j_goto (tgt := 26) dX8_replaceAll_22 (by decide) ?_
          refine j_callS dX8_replaceAll_26 kX8_checkRule lX8_112 stX8_checkRule (c_X8_checkRule_e hl _ _) (Nat.le_of_ble_eq_true rfl) ⟨(Nat.le_of_ble_eq_true rfl), (Nat.le_of_ble_eq_true rfl)⟩ rfl (Nat.le_of_ble_eq_true rfl) rfl rfl (fun _ _ h => by obtain ⟨h1, rfl⟩ := h; exact ⟨rfl, rfl, absurd h1.2 (by decide), rfl⟩) ?_
          rintro _ _ ⟨⟨rfl, hcr⟩, rfl⟩
          have hu2 : ¬ u = 2 := by rintro rfl; exact absurd hu (by decide)
          have hu3 : ¬ u = 3 := by rintro rfl; exact absurd hu (by decide)
          refine j_iload_n dX8_replaceAll_29 rfl ?_
          refine j_callS dX8_replaceAll_30 kX8_checkValue lX8_50 stX8_checkValue (c_X8_checkValue_e hl _ _) (Nat.le_of_ble_eq_true rfl) ⟨(Nat.le_of_ble_eq_true rfl), (Nat.le_of_ble_eq_true rfl)⟩ rfl (Nat.le_of_ble_eq_true rfl) rfl rfl (fun _ _ h => by obtain ⟨h1, rfl⟩ := h; exact ⟨rfl, rfl, Or.inr ⟨h1.1, sp_k22_2 (Or.inl rfl) (Or.inr h1.2)⟩, rfl⟩) ?_
          rintro _ _ ⟨⟨rfl, hc30⟩, rfl⟩
          refine j_new (w' := (z_cw _ _ _ _ _ _ _ _ _ _ _ _ _ _ _ _ _ _ _ _ _ _ _ _ _ _ _ _ _ _ _ _ _ _ _ _ _ _ _ _ _ _ _ _ _ _ _ _ _ _ _ _ _ _ _ _ [.inr (7, [_, _, _, _, _])], z_no)) (n := 51) dX8_replaceAll_33 nX8_91 rfl (z_al_l rfl rfl) (Nat.le_of_ble_eq_true rfl) (Nat.le_of_ble_eq_true rfl) ?_
          refine j_dup dX8_replaceAll_36 rfl ?_
          refine j_aload dX8_replaceAll_37 rfl rfl ?_
          refine j_callI dX8_replaceAll_39 kX2_init rfl lX8_93 inX2_init rfl (z_frame [51, 2, 3, 4, 5] rfl (by decide) (Nat.le_of_ble_eq_true rfl) (c_X2_init_e hl _ _ _ _)) (Nat.le_of_ble_eq_true rfl) ⟨(Nat.le_of_ble_eq_true rfl), (Nat.le_of_ble_eq_true rfl)⟩ rfl (Nat.le_of_ble_eq_true rfl) rfl rfl (fun _ _ h => h.elim) ?_
          rintro _ _ ⟨_, _, ⟨rfl, rfl⟩, rfl, rfl⟩
          refine j_ws (L' := z_cw _ _ _ _ _ _ _ _ _ _ _ _ _ _ _ _ _ _ _ _ _ _ _ _ _ _ _ _ _ _ _ _ _ _ _ _ _ _ _ _ _ _ _ _ _ _ _ _ _ _ _ _ _ _ _ _ [.inr (7, [_, _, _, _, _])]) (by decide) rfl rfl ?_
          refine j_iload_n dX8_replaceAll_42 rfl ?_
          refine j_iload_n dX8_replaceAll_43 rfl ?_
          refine j_callS dX8_replaceAll_44 kX8_changeEach lX8_115 stX8_changeEach (z_frame [51, 2, 3, 4, 5] rfl (by decide) (Nat.le_of_ble_eq_true rfl) (c_X8_changeEach_X2_e hl _ _ _ _ (sp_R S 0) _ _ _ hra rfl (ok.1 0 (by decide)).2 hu2 hu3 (sp_vl hc30))) (Nat.le_of_ble_eq_true rfl) ⟨(Nat.le_of_ble_eq_true rfl), (Nat.le_of_ble_eq_true rfl)⟩ rfl (Nat.le_of_ble_eq_true rfl) rfl rfl (fun _ _ h => h.elim) ?_
          rintro _ _ ⟨_, _, ⟨rfl, _, _, f9, hr9, rfl⟩, rfl, rfl⟩
          refine j_ws (L' := z_cw _ _ _ _ _ _ _ _ _ _ _ _ _ _ _ _ _ _ _ _ _ _ _ _ _ _ _ _ _ _ _ _ _ _ _ _ _ _ _ _ _ _ _ _ _ _ _ _ _ _ _ _ _ _ _ _ [.inr (7, [_, _, _, _, _])]) (by decide) rfl rfl ?_
          refine j_istore (lo' := [(5, _), (4, _), (0, _), (1, _), (2, _), (3, _)]) dX8_replaceAll_47 (by decide) rfl ?_
          refine j_dropL (n := 51) rfl (Nat.le_of_ble_eq_true rfl) (Nat.le_of_ble_eq_true rfl) (Nat.le_of_ble_eq_true rfl) z_cwc rfl rfl ?_
          refine j_w (z_cw _ _ _ _ _ _ _ _ _ _ _ _ _ _ _ _ _ _ _ _ _ _ _ _ _ _ _ _ _ _ _ _ _ _ _ _ _ _ _ _ _ _ _ _ _ _ _ _ _ _ _ _ _ _ _ _ [], z_no) rfl ?_
          refine j_iload dX8_replaceAll_49 rfl ?_
          refine j_if_eq (tgt := 62) dX8_replaceAll_51 (by decide) (fun c_51 => ?_) (fun c_51 => ?_)
          · have hb51 := z_bF c_51
            have hbl : (sp_chg S 0 u n).1 = false := hb51
            refine j_aload_n dX8_replaceAll_62 rfl rfl ?_
            refine j_callV (q := (RX8, TX8, 9)) dX8_replaceAll_63 kX8_refused lX8_119 inX8_refused seX8_refused rfl rfl (z_dirF (c_X8_refused_e hl _ _ _ _ _ _ _ _ _ _ _ _ _ _ _ _ _ _ _ _ _ _ _ _ _ _ _ _ _ _ _ _ _ _ _ _ _ _ _ _ _ _ _ _ _ _ _ _ _ _ _ _ _ _ _ _)) (Nat.le_of_ble_eq_true rfl) ⟨(Nat.le_of_ble_eq_true rfl), (Nat.le_of_ble_eq_true rfl)⟩ rfl (Nat.le_of_ble_eq_true rfl) rfl rfl (fun _ _ h => h.elim) ?_
            rintro _ _ ⟨_, ⟨rfl, rfl⟩, rfl⟩
            refine j_iret dX8_replaceAll_66 rfl rfl ?_ (Nat.le_of_ble_eq_true rfl) (Nat.le_of_ble_eq_true rfl)
            refine ⟨rfl, (by first | exact z_cwl | rfl), ?_⟩
            try rw [sp_i0]
            exact ⟨sp_k22_0 (Or.inl rfl) (fun z => z.elim (fun z => z hu) hc30), (by rw [hbl]; rfl), (sp_CWe hr9 hrb ht0 ht1 ht2 he0 he1 hzm3 hzm4 hzm5 ((by unfold sp_chgS; rw [hbl]; rfl)))⟩
          · have hb51 := z_bt c_51
            have hbl : (sp_chg S 0 u n).1 = true := hb51
            refine j_aload dX8_replaceAll_54 rfl rfl ?_
            refine j_getf dX8_replaceAll_56 fX8_68 rfl rfl ?_
            refine j_goto (tgt := 66) dX8_replaceAll_59 (by decide) ?_
            refine j_iret dX8_replaceAll_66 rfl rfl ?_ (Nat.le_of_ble_eq_true rfl) (Nat.le_of_ble_eq_true rfl)
            refine ⟨rfl, (by first | exact z_cwl | rfl), ?_⟩
            try rw [sp_i0]
            exact ⟨sp_k22_0 (Or.inl rfl) (fun z => z.elim (fun z => z hu) hc30), (by rw [hbl]; rfl), (sp_CWe hr9 hrb ht0 ht1 ht2 he0 he1 hzm3 hzm4 hzm5 ((by unfold sp_chgS; rw [hbl]; rfl)))⟩
  · subst e_2
    refine j_astore (lo' := [(4, _), (0, _), (1, _), (2, _), (3, _)]) dX8_replaceAll_5 rfl (by decide) rfl ?_
    refine j_iload_n dX8_replaceAll_7 rfl ?_
    refine j_if_eq (tgt := 21) dX8_replaceAll_8 (by decide) (fun c_8 => ?_) (fun c_8 => ?_)
    · have hu : u = 0 ∨ u = 1 ∨ u = 4 := Or.inl c_8
      refine j_iconst (v := 1) dX8_replaceAll_21 (by decide) ?_
      refine j_goto (tgt := 26) dX8_replaceAll_22 (by decide) ?_
      refine j_callS dX8_replaceAll_26 kX8_checkRule lX8_112 stX8_checkRule (c_X8_checkRule_e hl _ _) (Nat.le_of_ble_eq_true rfl) ⟨(Nat.le_of_ble_eq_true rfl), (Nat.le_of_ble_eq_true rfl)⟩ rfl (Nat.le_of_ble_eq_true rfl) rfl rfl (fun _ _ h => by obtain ⟨h1, rfl⟩ := h; exact ⟨rfl, rfl, absurd h1.2 (by decide), rfl⟩) ?_
      rintro _ _ ⟨⟨rfl, hcr⟩, rfl⟩
      have hu2 : ¬ u = 2 := by rintro rfl; exact absurd hu (by decide)
      have hu3 : ¬ u = 3 := by rintro rfl; exact absurd hu (by decide)
      refine j_iload_n dX8_replaceAll_29 rfl ?_
      refine j_callS dX8_replaceAll_30 kX8_checkValue lX8_50 stX8_checkValue (c_X8_checkValue_e hl _ _) (Nat.le_of_ble_eq_true rfl) ⟨(Nat.le_of_ble_eq_true rfl), (Nat.le_of_ble_eq_true rfl)⟩ rfl (Nat.le_of_ble_eq_true rfl) rfl rfl (fun _ _ h => by obtain ⟨h1, rfl⟩ := h; exact ⟨rfl, rfl, Or.inr ⟨h1.1, sp_k22_2 (Or.inr rfl) (Or.inr h1.2)⟩, rfl⟩) ?_
      rintro _ _ ⟨⟨rfl, hc30⟩, rfl⟩
      refine j_new (w' := (z_cw _ _ _ _ _ _ _ _ _ _ _ _ _ _ _ _ _ _ _ _ _ _ _ _ _ _ _ _ _ _ _ _ _ _ _ _ _ _ _ _ _ _ _ _ _ _ _ _ _ _ _ _ _ _ _ _ [.inr (7, [_, _, _, _, _])], z_no)) (n := 51) dX8_replaceAll_33 nX8_91 rfl (z_al_l rfl rfl) (Nat.le_of_ble_eq_true rfl) (Nat.le_of_ble_eq_true rfl) ?_
      refine j_dup dX8_replaceAll_36 rfl ?_
      refine j_aload dX8_replaceAll_37 rfl rfl ?_
      refine j_callI dX8_replaceAll_39 kX2_init rfl lX8_93 inX2_init rfl (z_frame [51, 6, 7, 8, 9] rfl (by decide) (Nat.le_of_ble_eq_true rfl) (c_X2_init_e hl _ _ _ _)) (Nat.le_of_ble_eq_true rfl) ⟨(Nat.le_of_ble_eq_true rfl), (Nat.le_of_ble_eq_true rfl)⟩ rfl (Nat.le_of_ble_eq_true rfl) rfl rfl (fun _ _ h => h.elim) ?_
      rintro _ _ ⟨_, _, ⟨rfl, rfl⟩, rfl, rfl⟩
      refine j_ws (L' := z_cw _ _ _ _ _ _ _ _ _ _ _ _ _ _ _ _ _ _ _ _ _ _ _ _ _ _ _ _ _ _ _ _ _ _ _ _ _ _ _ _ _ _ _ _ _ _ _ _ _ _ _ _ _ _ _ _ [.inr (7, [_, _, _, _, _])]) (by decide) rfl rfl ?_
      refine j_iload_n dX8_replaceAll_42 rfl ?_
      refine j_iload_n dX8_replaceAll_43 rfl ?_
      refine j_callS dX8_replaceAll_44 kX8_changeEach lX8_115 stX8_changeEach (z_frame [51, 6, 7, 8, 9] rfl (by decide) (Nat.le_of_ble_eq_true rfl) (c_X8_changeEach_X2_e hl _ _ _ _ (sp_R S 1) _ _ _ hrb rfl (ok.1 1 (by decide)).2 hu2 hu3 (sp_vl hc30))) (Nat.le_of_ble_eq_true rfl) ⟨(Nat.le_of_ble_eq_true rfl), (Nat.le_of_ble_eq_true rfl)⟩ rfl (Nat.le_of_ble_eq_true rfl) rfl rfl (fun _ _ h => h.elim) ?_
      rintro _ _ ⟨_, _, ⟨rfl, _, _, f9, hr9, rfl⟩, rfl, rfl⟩
      refine j_ws (L' := z_cw _ _ _ _ _ _ _ _ _ _ _ _ _ _ _ _ _ _ _ _ _ _ _ _ _ _ _ _ _ _ _ _ _ _ _ _ _ _ _ _ _ _ _ _ _ _ _ _ _ _ _ _ _ _ _ _ [.inr (7, [_, _, _, _, _])]) (by decide) rfl rfl ?_
      refine j_istore (lo' := [(5, _), (4, _), (0, _), (1, _), (2, _), (3, _)]) dX8_replaceAll_47 (by decide) rfl ?_
      refine j_dropL (n := 51) rfl (Nat.le_of_ble_eq_true rfl) (Nat.le_of_ble_eq_true rfl) (Nat.le_of_ble_eq_true rfl) z_cwc rfl rfl ?_
      refine j_w (z_cw _ _ _ _ _ _ _ _ _ _ _ _ _ _ _ _ _ _ _ _ _ _ _ _ _ _ _ _ _ _ _ _ _ _ _ _ _ _ _ _ _ _ _ _ _ _ _ _ _ _ _ _ _ _ _ _ [], z_no) rfl ?_
      refine j_iload dX8_replaceAll_49 rfl ?_
      refine j_if_eq (tgt := 62) dX8_replaceAll_51 (by decide) (fun c_51 => ?_) (fun c_51 => ?_)
      · have hb51 := z_bF c_51
        have hbl : (sp_chg S 1 u n).1 = false := hb51
        refine j_aload_n dX8_replaceAll_62 rfl rfl ?_
        refine j_callV (q := (RX8, TX8, 9)) dX8_replaceAll_63 kX8_refused lX8_119 inX8_refused seX8_refused rfl rfl (z_dirF (c_X8_refused_e hl _ _ _ _ _ _ _ _ _ _ _ _ _ _ _ _ _ _ _ _ _ _ _ _ _ _ _ _ _ _ _ _ _ _ _ _ _ _ _ _ _ _ _ _ _ _ _ _ _ _ _ _ _ _ _ _)) (Nat.le_of_ble_eq_true rfl) ⟨(Nat.le_of_ble_eq_true rfl), (Nat.le_of_ble_eq_true rfl)⟩ rfl (Nat.le_of_ble_eq_true rfl) rfl rfl (fun _ _ h => h.elim) ?_
        rintro _ _ ⟨_, ⟨rfl, rfl⟩, rfl⟩
        refine j_iret dX8_replaceAll_66 rfl rfl ?_ (Nat.le_of_ble_eq_true rfl) (Nat.le_of_ble_eq_true rfl)
        refine ⟨rfl, (by first | exact z_cwl | rfl), ?_⟩
        try rw [sp_i1]
        exact ⟨sp_k22_0 (Or.inr rfl) (fun z => z.elim (fun z => z hu) hc30), (by rw [hbl]; rfl), (sp_CWe hra hr9 ht0 ht1 ht2 he0 he1 hzm3 hzm4 hzm5 ((by unfold sp_chgS; rw [hbl]; rfl)))⟩
      · have hb51 := z_bt c_51
        have hbl : (sp_chg S 1 u n).1 = true := hb51
        refine j_aload dX8_replaceAll_54 rfl rfl ?_
        refine j_getf dX8_replaceAll_56 fX8_68 rfl rfl ?_
        refine j_goto (tgt := 66) dX8_replaceAll_59 (by decide) ?_
        refine j_iret dX8_replaceAll_66 rfl rfl ?_ (Nat.le_of_ble_eq_true rfl) (Nat.le_of_ble_eq_true rfl)
        refine ⟨rfl, (by first | exact z_cwl | rfl), ?_⟩
        try rw [sp_i1]
        exact ⟨sp_k22_0 (Or.inr rfl) (fun z => z.elim (fun z => z hu) hc30), (by rw [hbl]; rfl), (sp_CWe hra hr9 ht0 ht1 ht2 he0 he1 hzm3 hzm4 hzm5 ((by unfold sp_chgS; rw [hbl]; rfl)))⟩
    · refine j_iload_n dX8_replaceAll_11 rfl ?_
      refine j_iconst (v := 1) dX8_replaceAll_12 (by decide) ?_
      refine j_icmp_eq (tgt := 21) dX8_replaceAll_13 (by decide) (fun c_13 => ?_) (fun c_13 => ?_)
      · have hu : u = 0 ∨ u = 1 ∨ u = 4 := Or.inr (Or.inl c_13)
        refine j_iconst (v := 1) dX8_replaceAll_21 (by decide) ?_
        refine j_goto (tgt := 26) dX8_replaceAll_22 (by decide) ?_
        refine j_callS dX8_replaceAll_26 kX8_checkRule lX8_112 stX8_checkRule (c_X8_checkRule_e hl _ _) (Nat.le_of_ble_eq_true rfl) ⟨(Nat.le_of_ble_eq_true rfl), (Nat.le_of_ble_eq_true rfl)⟩ rfl (Nat.le_of_ble_eq_true rfl) rfl rfl (fun _ _ h => by obtain ⟨h1, rfl⟩ := h; exact ⟨rfl, rfl, absurd h1.2 (by decide), rfl⟩) ?_
        rintro _ _ ⟨⟨rfl, hcr⟩, rfl⟩
        have hu2 : ¬ u = 2 := by rintro rfl; exact absurd hu (by decide)
        have hu3 : ¬ u = 3 := by rintro rfl; exact absurd hu (by decide)
        refine j_iload_n dX8_replaceAll_29 rfl ?_
        refine j_callS dX8_replaceAll_30 kX8_checkValue lX8_50 stX8_checkValue (c_X8_checkValue_e hl _ _) (Nat.le_of_ble_eq_true rfl) ⟨(Nat.le_of_ble_eq_true rfl), (Nat.le_of_ble_eq_true rfl)⟩ rfl (Nat.le_of_ble_eq_true rfl) rfl rfl (fun _ _ h => by obtain ⟨h1, rfl⟩ := h; exact ⟨rfl, rfl, Or.inr ⟨h1.1, sp_k22_2 (Or.inr rfl) (Or.inr h1.2)⟩, rfl⟩) ?_
        rintro _ _ ⟨⟨rfl, hc30⟩, rfl⟩
        refine j_new (w' := (z_cw _ _ _ _ _ _ _ _ _ _ _ _ _ _ _ _ _ _ _ _ _ _ _ _ _ _ _ _ _ _ _ _ _ _ _ _ _ _ _ _ _ _ _ _ _ _ _ _ _ _ _ _ _ _ _ _ [.inr (7, [_, _, _, _, _])], z_no)) (n := 51) dX8_replaceAll_33 nX8_91 rfl (z_al_l rfl rfl) (Nat.le_of_ble_eq_true rfl) (Nat.le_of_ble_eq_true rfl) ?_
        refine j_dup dX8_replaceAll_36 rfl ?_
        refine j_aload dX8_replaceAll_37 rfl rfl ?_
        refine j_callI dX8_replaceAll_39 kX2_init rfl lX8_93 inX2_init rfl (z_frame [51, 6, 7, 8, 9] rfl (by decide) (Nat.le_of_ble_eq_true rfl) (c_X2_init_e hl _ _ _ _)) (Nat.le_of_ble_eq_true rfl) ⟨(Nat.le_of_ble_eq_true rfl), (Nat.le_of_ble_eq_true rfl)⟩ rfl (Nat.le_of_ble_eq_true rfl) rfl rfl (fun _ _ h => h.elim) ?_
        rintro _ _ ⟨_, _, ⟨rfl, rfl⟩, rfl, rfl⟩
        refine j_ws (L' := z_cw _ _ _ _ _ _ _ _ _ _ _ _ _ _ _ _ _ _ _ _ _ _ _ _ _ _ _ _ _ _ _ _ _ _ _ _ _ _ _ _ _ _ _ _ _ _ _ _ _ _ _ _ _ _ _ _ [.inr (7, [_, _, _, _, _])]) (by decide) rfl rfl ?_
        refine j_iload_n dX8_replaceAll_42 rfl ?_
        refine j_iload_n dX8_replaceAll_43 rfl ?_
        refine j_callS dX8_replaceAll_44 kX8_changeEach lX8_115 stX8_changeEach (z_frame [51, 6, 7, 8, 9] rfl (by decide) (Nat.le_of_ble_eq_true rfl) (c_X8_changeEach_X2_e hl _ _ _ _ (sp_R S 1) _ _ _ hrb rfl (ok.1 1 (by decide)).2 hu2 hu3 (sp_vl hc30))) (Nat.le_of_ble_eq_true rfl) ⟨(Nat.le_of_ble_eq_true rfl), (Nat.le_of_ble_eq_true rfl)⟩ rfl (Nat.le_of_ble_eq_true rfl) rfl rfl (fun _ _ h => h.elim) ?_
        rintro _ _ ⟨_, _, ⟨rfl, _, _, f9, hr9, rfl⟩, rfl, rfl⟩
        refine j_ws (L' := z_cw _ _ _ _ _ _ _ _ _ _ _ _ _ _ _ _ _ _ _ _ _ _ _ _ _ _ _ _ _ _ _ _ _ _ _ _ _ _ _ _ _ _ _ _ _ _ _ _ _ _ _ _ _ _ _ _ [.inr (7, [_, _, _, _, _])]) (by decide) rfl rfl ?_
        refine j_istore (lo' := [(5, _), (4, _), (0, _), (1, _), (2, _), (3, _)]) dX8_replaceAll_47 (by decide) rfl ?_
        refine j_dropL (n := 51) rfl (Nat.le_of_ble_eq_true rfl) (Nat.le_of_ble_eq_true rfl) (Nat.le_of_ble_eq_true rfl) z_cwc rfl rfl ?_
        refine j_w (z_cw _ _ _ _ _ _ _ _ _ _ _ _ _ _ _ _ _ _ _ _ _ _ _ _ _ _ _ _ _ _ _ _ _ _ _ _ _ _ _ _ _ _ _ _ _ _ _ _ _ _ _ _ _ _ _ _ [], z_no) rfl ?_
        refine j_iload dX8_replaceAll_49 rfl ?_
        refine j_if_eq (tgt := 62) dX8_replaceAll_51 (by decide) (fun c_51 => ?_) (fun c_51 => ?_)
        · have hb51 := z_bF c_51
          have hbl : (sp_chg S 1 u n).1 = false := hb51
          refine j_aload_n dX8_replaceAll_62 rfl rfl ?_
          refine j_callV (q := (RX8, TX8, 9)) dX8_replaceAll_63 kX8_refused lX8_119 inX8_refused seX8_refused rfl rfl (z_dirF (c_X8_refused_e hl _ _ _ _ _ _ _ _ _ _ _ _ _ _ _ _ _ _ _ _ _ _ _ _ _ _ _ _ _ _ _ _ _ _ _ _ _ _ _ _ _ _ _ _ _ _ _ _ _ _ _ _ _ _ _ _)) (Nat.le_of_ble_eq_true rfl) ⟨(Nat.le_of_ble_eq_true rfl), (Nat.le_of_ble_eq_true rfl)⟩ rfl (Nat.le_of_ble_eq_true rfl) rfl rfl (fun _ _ h => h.elim) ?_
          rintro _ _ ⟨_, ⟨rfl, rfl⟩, rfl⟩
          refine j_iret dX8_replaceAll_66 rfl rfl ?_ (Nat.le_of_ble_eq_true rfl) (Nat.le_of_ble_eq_true rfl)
          refine ⟨rfl, (by first | exact z_cwl | rfl), ?_⟩
          try rw [sp_i1]
          exact ⟨sp_k22_0 (Or.inr rfl) (fun z => z.elim (fun z => z hu) hc30), (by rw [hbl]; rfl), (sp_CWe hra hr9 ht0 ht1 ht2 he0 he1 hzm3 hzm4 hzm5 ((by unfold sp_chgS; rw [hbl]; rfl)))⟩
        · have hb51 := z_bt c_51
          have hbl : (sp_chg S 1 u n).1 = true := hb51
          refine j_aload dX8_replaceAll_54 rfl rfl ?_
          refine j_getf dX8_replaceAll_56 fX8_68 rfl rfl ?_
          refine j_goto (tgt := 66) dX8_replaceAll_59 (by decide) ?_
          refine j_iret dX8_replaceAll_66 rfl rfl ?_ (Nat.le_of_ble_eq_true rfl) (Nat.le_of_ble_eq_true rfl)
          refine ⟨rfl, (by first | exact z_cwl | rfl), ?_⟩
          try rw [sp_i1]
          exact ⟨sp_k22_0 (Or.inr rfl) (fun z => z.elim (fun z => z hu) hc30), (by rw [hbl]; rfl), (sp_CWe hra hr9 ht0 ht1 ht2 he0 he1 hzm3 hzm4 hzm5 ((by unfold sp_chgS; rw [hbl]; rfl)))⟩
      · refine j_iload_n dX8_replaceAll_16 rfl ?_
        refine j_iconst (v := 4) dX8_replaceAll_17 (by decide) ?_
        refine j_icmp_ne (tgt := 25) dX8_replaceAll_18 (by decide) (fun c_18 => ?_) (fun c_18 => ?_)
        · have hnu : ¬ (u = 0 ∨ u = 1 ∨ u = 4) := (fun z => z.elim c_8 (fun z => z.elim c_13 c_18))
          refine j_iconst (v := 0) dX8_replaceAll_25 (by decide) ?_
          refine j_callS dX8_replaceAll_26 kX8_checkRule lX8_112 stX8_checkRule (c_X8_checkRule_e hl _ _) (Nat.le_of_ble_eq_true rfl) ⟨(Nat.le_of_ble_eq_true rfl), (Nat.le_of_ble_eq_true rfl)⟩ rfl (Nat.le_of_ble_eq_true rfl) rfl rfl (fun _ _ h => by obtain ⟨h1, rfl⟩ := h; exact ⟨rfl, rfl, Or.inr ⟨h1.1, sp_k22_2 (Or.inr rfl) (Or.inl hnu)⟩, rfl⟩) ?_
          rintro _ _ ⟨⟨rfl, hcr⟩, rfl⟩
          exact absurd rfl hcr
        · have hu : u = 0 ∨ u = 1 ∨ u = 4 := Or.inr (Or.inr (c_18))
          refine j_iconst (v := 1) dX8_replaceAll_21 (by decide) ?_
          refine j_goto (tgt := 26) dX8_replaceAll_22 (by decide) ?_
          refine j_callS dX8_replaceAll_26 kX8_checkRule lX8_112 stX8_checkRule (c_X8_checkRule_e hl _ _) (Nat.le_of_ble_eq_true rfl) ⟨(Nat.le_of_ble_eq_true rfl), (Nat.le_of_ble_eq_true rfl)⟩ rfl (Nat.le_of_ble_eq_true rfl) rfl rfl (fun _ _ h => by obtain ⟨h1, rfl⟩ := h; exact ⟨rfl, rfl, absurd h1.2 (by decide), rfl⟩) ?_
          rintro _ _ ⟨⟨rfl, hcr⟩, rfl⟩
          have hu2 : ¬ u = 2 := by rintro rfl; exact absurd hu (by decide)
          have hu3 : ¬ u = 3 := by rintro rfl; exact absurd hu (by decide)
          refine j_iload_n dX8_replaceAll_29 rfl ?_
          refine j_callS dX8_replaceAll_30 kX8_checkValue lX8_50 stX8_checkValue (c_X8_checkValue_e hl _ _) (Nat.le_of_ble_eq_true rfl) ⟨(Nat.le_of_ble_eq_true rfl), (Nat.le_of_ble_eq_true rfl)⟩ rfl (Nat.le_of_ble_eq_true rfl) rfl rfl (fun _ _ h => by obtain ⟨h1, rfl⟩ := h; exact ⟨rfl, rfl, Or.inr ⟨h1.1, sp_k22_2 (Or.inr rfl) (Or.inr h1.2)⟩, rfl⟩) ?_
          rintro _ _ ⟨⟨rfl, hc30⟩, rfl⟩
          refine j_new (w' := (z_cw _ _ _ _ _ _ _ _ _ _ _ _ _ _ _ _ _ _ _ _ _ _ _ _ _ _ _ _ _ _ _ _ _ _ _ _ _ _ _ _ _ _ _ _ _ _ _ _ _ _ _ _ _ _ _ _ [.inr (7, [_, _, _, _, _])], z_no)) (n := 51) dX8_replaceAll_33 nX8_91 rfl (z_al_l rfl rfl) (Nat.le_of_ble_eq_true rfl) (Nat.le_of_ble_eq_true rfl) ?_
          refine j_dup dX8_replaceAll_36 rfl ?_
          refine j_aload dX8_replaceAll_37 rfl rfl ?_
          refine j_callI dX8_replaceAll_39 kX2_init rfl lX8_93 inX2_init rfl (z_frame [51, 6, 7, 8, 9] rfl (by decide) (Nat.le_of_ble_eq_true rfl) (c_X2_init_e hl _ _ _ _)) (Nat.le_of_ble_eq_true rfl) ⟨(Nat.le_of_ble_eq_true rfl), (Nat.le_of_ble_eq_true rfl)⟩ rfl (Nat.le_of_ble_eq_true rfl) rfl rfl (fun _ _ h => h.elim) ?_
          rintro _ _ ⟨_, _, ⟨rfl, rfl⟩, rfl, rfl⟩
          refine j_ws (L' := z_cw _ _ _ _ _ _ _ _ _ _ _ _ _ _ _ _ _ _ _ _ _ _ _ _ _ _ _ _ _ _ _ _ _ _ _ _ _ _ _ _ _ _ _ _ _ _ _ _ _ _ _ _ _ _ _ _ [.inr (7, [_, _, _, _, _])]) (by decide) rfl rfl ?_
          refine j_iload_n dX8_replaceAll_42 rfl ?_
          refine j_iload_n dX8_replaceAll_43 rfl ?_
          refine j_callS dX8_replaceAll_44 kX8_changeEach lX8_115 stX8_changeEach (z_frame [51, 6, 7, 8, 9] rfl (by decide) (Nat.le_of_ble_eq_true rfl) (c_X8_changeEach_X2_e hl _ _ _ _ (sp_R S 1) _ _ _ hrb rfl (ok.1 1 (by decide)).2 hu2 hu3 (sp_vl hc30))) (Nat.le_of_ble_eq_true rfl) ⟨(Nat.le_of_ble_eq_true rfl), (Nat.le_of_ble_eq_true rfl)⟩ rfl (Nat.le_of_ble_eq_true rfl) rfl rfl (fun _ _ h => h.elim) ?_
          rintro _ _ ⟨_, _, ⟨rfl, _, _, f9, hr9, rfl⟩, rfl, rfl⟩
          refine j_ws (L' := z_cw _ _ _ _ _ _ _ _ _ _ _ _ _ _ _ _ _ _ _ _ _ _ _ _ _ _ _ _ _ _ _ _ _ _ _ _ _ _ _ _ _ _ _ _ _ _ _ _ _ _ _ _ _ _ _ _ [.inr (7, [_, _, _, _, _])]) (by decide) rfl rfl ?_
          refine j_istore (lo' := [(5, _), (4, _), (0, _), (1, _), (2, _), (3, _)]) dX8_replaceAll_47 (by decide) rfl ?_
          refine j_dropL (n := 51) rfl (Nat.le_of_ble_eq_true rfl) (Nat.le_of_ble_eq_true rfl) (Nat.le_of_ble_eq_true rfl) z_cwc rfl rfl ?_
          refine j_w (z_cw _ _ _ _ _ _ _ _ _ _ _ _ _ _ _ _ _ _ _ _ _ _ _ _ _ _ _ _ _ _ _ _ _ _ _ _ _ _ _ _ _ _ _ _ _ _ _ _ _ _ _ _ _ _ _ _ [], z_no) rfl ?_
          refine j_iload dX8_replaceAll_49 rfl ?_
          refine j_if_eq (tgt := 62) dX8_replaceAll_51 (by decide) (fun c_51 => ?_) (fun c_51 => ?_)
          · have hb51 := z_bF c_51
            have hbl : (sp_chg S 1 u n).1 = false := hb51
            refine j_aload_n dX8_replaceAll_62 rfl rfl ?_
            refine j_callV (q := (RX8, TX8, 9)) dX8_replaceAll_63 kX8_refused lX8_119 inX8_refused seX8_refused rfl rfl (z_dirF (c_X8_refused_e hl _ _ _ _ _ _ _ _ _ _ _ _ _ _ _ _ _ _ _ _ _ _ _ _ _ _ _ _ _ _ _ _ _ _ _ _ _ _ _ _ _ _ _ _ _ _ _ _ _ _ _ _ _ _ _ _)) (Nat.le_of_ble_eq_true rfl) ⟨(Nat.le_of_ble_eq_true rfl), (Nat.le_of_ble_eq_true rfl)⟩ rfl (Nat.le_of_ble_eq_true rfl) rfl rfl (fun _ _ h => h.elim) ?_
            rintro _ _ ⟨_, ⟨rfl, rfl⟩, rfl⟩
            refine j_iret dX8_replaceAll_66 rfl rfl ?_ (Nat.le_of_ble_eq_true rfl) (Nat.le_of_ble_eq_true rfl)
            refine ⟨rfl, (by first | exact z_cwl | rfl), ?_⟩
            try rw [sp_i1]
            exact ⟨sp_k22_0 (Or.inr rfl) (fun z => z.elim (fun z => z hu) hc30), (by rw [hbl]; rfl), (sp_CWe hra hr9 ht0 ht1 ht2 he0 he1 hzm3 hzm4 hzm5 ((by unfold sp_chgS; rw [hbl]; rfl)))⟩
          · have hb51 := z_bt c_51
            have hbl : (sp_chg S 1 u n).1 = true := hb51
            refine j_aload dX8_replaceAll_54 rfl rfl ?_
            refine j_getf dX8_replaceAll_56 fX8_68 rfl rfl ?_
            refine j_goto (tgt := 66) dX8_replaceAll_59 (by decide) ?_
            refine j_iret dX8_replaceAll_66 rfl rfl ?_ (Nat.le_of_ble_eq_true rfl) (Nat.le_of_ble_eq_true rfl)
            refine ⟨rfl, (by first | exact z_cwl | rfl), ?_⟩
            try rw [sp_i1]
            exact ⟨sp_k22_0 (Or.inr rfl) (fun z => z.elim (fun z => z hu) hc30), (by rw [hbl]; rfl), (sp_CWe hra hr9 ht0 ht1 ht2 he0 he1 hzm3 hzm4 hzm5 ((by unfold sp_chgS; rw [hbl]; rfl)))⟩
set_option maxRecDepth 100000 in
set_option maxHeartbeats 8000000 in
theorem c_X8_copy_p (hl : l.stackTraces = false) (S : sp_S) (fa : Nat → Int32) (fb : Nat → Int32) (mt : Int32) (ft : Nat → Int32) (ct : Nat → Int32) (f0 : Nat → Int32) (g0 : Nat → Int32) (f1 : Nat → Int32) (g1 : Nat → Int32) (c1 : Nat → Int32) (f2 : Nat → Int32) (g2 : Nat → Int32) (c2 : Nat → Int32) (f3 : Nat → Int32) (g3 : Nat → Int32) (c3 : Nat → Int32) (m3 : Int32) (f4 : Nat → Int32) (g4 : Nat → Int32) (c4 : Nat → Int32) (m4 : Int32) (f5 : Nat → Int32) (g5 : Nat → Int32) (c5 : Nat → Int32) (m5 : Int32) (ef0 : Nat → Int32) (ef1 : Nat → Int32) (r : Int32) (ok : sp_ok S) (hra : z_row 12 (nI (sp_R S 0).length) fa (sp_R S 0)) (hrb : z_row 12 (nI (sp_R S 1).length) fb (sp_R S 1)) (ht0 : z_tba f0 g0 (sp_T S 0)) (ht1 : z_tba f1 g1 (sp_T S 1)) (ht2 : z_tba f2 g2 (sp_T S 2)) (he0 : z_row 10 (nI (sp_E S 0).2.length) ef0 (sp_E S 0).2) (he1 : z_row 10 (nI (sp_E S 1).2.length) ef1 (sp_E S 1).2) (hzm3 : z_m20 m3) (hzm4 : z_m20 m4) (hzm5 : z_m20 m5) : z_CX G l mX8_copy 20 14 120 (z_cw S.1.1 S.1.2 (nI (sp_R S 0).length) (sp_F S 0) fa (sp_C S 0) (nI (sp_R S 1).length) (sp_F S 1) fb (sp_C S 1) mt false ft ct f0 g0 (sp_C S 2) (nI (sp_T S 0).length) 0 f1 g1 c1 (nI (sp_T S 1).length) 0 f2 g2 c2 (nI (sp_T S 2).length) 1 f3 g3 c3 m3 0 f4 g4 c4 m4 0 f5 g5 c5 m5 1 (nI (sp_E S 0).2.length) (sp_E S 0).1.2.1 (sp_E S 0).1.2.2.1 (sp_E S 0).1.2.2.2 (sp_E S 0).1.1 ef0 (nI (sp_E S 1).2.length) (sp_E S 1).1.2.1 (sp_E S 1).1.2.2.1 (sp_E S 1).1.2.2.2 (sp_E S 1).1.1 ef1 []) [.ref 0, .int r] (fun v L => q_k2 r = 0 ∧ v = some (.int (nI (sp_R S (1 - sp_i r)).length)) ∧ sp_CW (sp_uR S (sp_i r) (sp_R S (1 - sp_i r))) L) (fun E L => ((z_xI E ∧ q_k2 r = 1)) ∧ L = (z_cw S.1.1 S.1.2 (nI (sp_R S 0).length) (sp_F S 0) fa (sp_C S 0) (nI (sp_R S 1).length) (sp_F S 1) fb (sp_C S 1) mt false ft ct f0 g0 (sp_C S 2) (nI (sp_T S 0).length) 0 f1 g1 c1 (nI (sp_T S 1).length) 0 f2 g2 c2 (nI (sp_T S 2).length) 1 f3 g3 c3 m3 0 f4 g4 c4 m4 0 f5 g5 c5 m5 1 (nI (sp_E S 0).2.length) (sp_E S 0).1.2.1 (sp_E S 0).1.2.2.1 (sp_E S 0).1.2.2.2 (sp_E S 0).1.1 ef0 (nI (sp_E S 1).2.length) (sp_E S 1).1.2.1 (sp_E S 1).1.2.2.1 (sp_E S 1).1.2.2.2 (sp_E S 1).1.1 ef1 [])) := by
  refine z_body hl (by decide) rfl (Nat.le_of_ble_eq_true rfl) ?_
  show z_J G l mX8_copy (z_SX 20 14 120 (z_cw S.1.1 S.1.2 (nI (sp_R S 0).length) (sp_F S 0) fa (sp_C S 0) (nI (sp_R S 1).length) (sp_F S 1) fb (sp_C S 1) mt false ft ct f0 g0 (sp_C S 2) (nI (sp_T S 0).length) 0 f1 g1 c1 (nI (sp_T S 1).length) 0 f2 g2 c2 (nI (sp_T S 2).length) 1 f3 g3 c3 m3 0 f4 g4 c4 m4 0 f5 g5 c5 m5 1 (nI (sp_E S 0).2.length) (sp_E S 0).1.2.1 (sp_E S 0).1.2.2.1 (sp_E S 0).1.2.2.2 (sp_E S 0).1.1 ef0 (nI (sp_E S 1).2.length) (sp_E S 1).1.2.1 (sp_E S 1).1.2.2.1 (sp_E S 1).1.2.2.2 (sp_E S 1).1.1 ef1 []) (fun v L => q_k2 r = 0 ∧ v = some (.int (nI (sp_R S (1 - sp_i r)).length)) ∧ sp_CW (sp_uR S (sp_i r) (sp_R S (1 - sp_i r))) L) (fun E L => ((z_xI E ∧ q_k2 r = 1)) ∧ L = (z_cw S.1.1 S.1.2 (nI (sp_R S 0).length) (sp_F S 0) fa (sp_C S 0) (nI (sp_R S 1).length) (sp_F S 1) fb (sp_C S 1) mt false ft ct f0 g0 (sp_C S 2) (nI (sp_T S 0).length) 0 f1 g1 c1 (nI (sp_T S 1).length) 0 f2 g2 c2 (nI (sp_T S 2).length) 1 f3 g3 c3 m3 0 f4 g4 c4 m4 0 f5 g5 c5 m5 1 (nI (sp_E S 0).2.length) (sp_E S 0).1.2.1 (sp_E S 0).1.2.2.1 (sp_E S 0).1.2.2.2 (sp_E S 0).1.1 ef0 (nI (sp_E S 1).2.length) (sp_E S 1).1.2.1 (sp_E S 1).1.2.2.1 (sp_E S 1).1.2.2.2 (sp_E S 1).1.1 ef1 []))) 0 [(0, _), (1, _)] [] _ 0 0
  refine j_aload_n dX8_copy_0 rfl rfl ?_
  refine j_iload_n dX8_copy_1 rfl ?_
  refine j_callV (q := (RX8, TX8, 9)) dX8_copy_2 kX8_rowFor lX8_46 inX8_rowFor seX8_rowFor rfl rfl (z_dirX (c_X8_rowFor_e hl _ _ _ _ _ _ _ _ _ _ _ _ _ _ _ _ _ _ _ _ _ _ _ _ _ _ _ _ _ _ _ _ _ _ _ _ _ _ _ _ _ _ _ _ _ _ _ _ _ _ _ _ _ _ _ _ _)) (Nat.le_of_ble_eq_true rfl) ⟨(Nat.le_of_ble_eq_true rfl), (Nat.le_of_ble_eq_true rfl)⟩ rfl (Nat.le_of_ble_eq_true rfl) rfl rfl (fun _ _ h => by obtain ⟨_, ⟨h1, rfl⟩, rfl⟩ := h; exact ⟨rfl, rfl, ⟨h1.1, sp_k2_1 h1.2⟩, rfl⟩) ?_
  rintro _ _ ⟨_, ⟨_, rfl, hr, rfl⟩, rfl⟩
  rcases hr with ⟨e_2, rfl⟩ | ⟨e_2, rfl⟩
  · subst e_2
    refine j_astore_n (lo' := [(2, _), (0, _), (1, _)]) dX8_copy_5 rfl (by decide) rfl ?_
    refine j_aload_n dX8_copy_6 rfl rfl ?_
    refine j_aload_n dX8_copy_7 rfl rfl ?_
    refine j_iconst (v := 1) dX8_copy_8 (by decide) ?_
    refine j_iload_n dX8_copy_9 rfl ?_
    refine j_isub dX8_copy_10 ?_
    refine j_callV (q := (RX8, TX8, 9)) dX8_copy_11 kX8_rowFor lX8_46 inX8_rowFor seX8_rowFor rfl rfl (z_dirX (c_X8_rowFor_e hl _ _ _ _ _ _ _ _ _ _ _ _ _ _ _ _ _ _ _ _ _ _ _ _ _ _ _ _ _ _ _ _ _ _ _ _ _ _ _ _ _ _ _ _ _ _ _ _ _ _ _ _ _ _ _ _ _)) (Nat.le_of_ble_eq_true rfl) ⟨(Nat.le_of_ble_eq_true rfl), (Nat.le_of_ble_eq_true rfl)⟩ rfl (Nat.le_of_ble_eq_true rfl) rfl rfl (fun _ _ h => by obtain ⟨_, ⟨h1, rfl⟩, rfl⟩ := h; exact ⟨rfl, rfl, absurd h1.2 (by decide), rfl⟩) ?_
    rintro _ _ ⟨_, ⟨_, rfl, hr, rfl⟩, rfl⟩
    rcases hr with ⟨e_11, rfl⟩ | ⟨e_11, rfl⟩
    · exact absurd e_11 (by decide)
    · refine j_callV (q := (RX1, TX1, 4)) dX8_copy_14 kX1_become lX8_123 inX1_become seX1_become rfl rfl (z_frame [2, 3, 4, 5, 6, 7, 8, 9] rfl (by decide) (Nat.le_of_ble_eq_true rfl) (c_X1_become_e hl _ _ _ _ _ _ _ _)) (Nat.le_of_ble_eq_true rfl) ⟨(Nat.le_of_ble_eq_true rfl), (Nat.le_of_ble_eq_true rfl)⟩ rfl (Nat.le_of_ble_eq_true rfl) rfl rfl (fun _ _ h => h.elim) ?_
      rintro _ _ ⟨_, _, ⟨rfl, f9, hf9, rfl⟩, rfl, rfl⟩
      refine j_ws (L' := z_cw _ _ _ _ _ _ _ _ _ _ _ _ _ _ _ _ _ _ _ _ _ _ _ _ _ _ _ _ _ _ _ _ _ _ _ _ _ _ _ _ _ _ _ _ _ _ _ _ _ _ _ _ _ _ _ _ []) (by decide) rfl rfl ?_
      refine j_aload_n dX8_copy_17 rfl rfl ?_
      refine j_getf dX8_copy_18 fX8_68 rfl rfl ?_
      refine j_iret dX8_copy_21 rfl rfl ?_ (Nat.le_of_ble_eq_true rfl) (Nat.le_of_ble_eq_true rfl)
      refine ⟨rfl, (by first | exact z_cwl | rfl), ?_⟩
      rw [sp_i0]
      exact ⟨sp_k2_0 (Or.inl rfl), rfl, (sp_CWe ((hrb.eqf hf9)) hrb ht0 ht1 ht2 he0 he1 hzm3 hzm4 hzm5 rfl)⟩
  · subst e_2
    refine j_astore_n (lo' := [(2, _), (0, _), (1, _)]) dX8_copy_5 rfl (by decide) rfl ?_
    refine j_aload_n dX8_copy_6 rfl rfl ?_
    refine j_aload_n dX8_copy_7 rfl rfl ?_
    refine j_iconst (v := 1) dX8_copy_8 (by decide) ?_
    refine j_iload_n dX8_copy_9 rfl ?_
    refine j_isub dX8_copy_10 ?_
    refine j_callV (q := (RX8, TX8, 9)) dX8_copy_11 kX8_rowFor lX8_46 inX8_rowFor seX8_rowFor rfl rfl (z_dirX (c_X8_rowFor_e hl _ _ _ _ _ _ _ _ _ _ _ _ _ _ _ _ _ _ _ _ _ _ _ _ _ _ _ _ _ _ _ _ _ _ _ _ _ _ _ _ _ _ _ _ _ _ _ _ _ _ _ _ _ _ _ _ _)) (Nat.le_of_ble_eq_true rfl) ⟨(Nat.le_of_ble_eq_true rfl), (Nat.le_of_ble_eq_true rfl)⟩ rfl (Nat.le_of_ble_eq_true rfl) rfl rfl (fun _ _ h => by obtain ⟨_, ⟨h1, rfl⟩, rfl⟩ := h; exact ⟨rfl, rfl, absurd h1.2 (by decide), rfl⟩) ?_
    rintro _ _ ⟨_, ⟨_, rfl, hr, rfl⟩, rfl⟩
    rcases hr with ⟨e_11, rfl⟩ | ⟨e_11, rfl⟩
    · refine j_callV (q := (RX1, TX1, 4)) dX8_copy_14 kX1_become lX8_123 inX1_become seX1_become rfl rfl (z_frame [6, 7, 8, 9, 2, 3, 4, 5] rfl (by decide) (Nat.le_of_ble_eq_true rfl) (c_X1_become_e hl _ _ _ _ _ _ _ _)) (Nat.le_of_ble_eq_true rfl) ⟨(Nat.le_of_ble_eq_true rfl), (Nat.le_of_ble_eq_true rfl)⟩ rfl (Nat.le_of_ble_eq_true rfl) rfl rfl (fun _ _ h => h.elim) ?_
      rintro _ _ ⟨_, _, ⟨rfl, f9, hf9, rfl⟩, rfl, rfl⟩
      refine j_ws (L' := z_cw _ _ _ _ _ _ _ _ _ _ _ _ _ _ _ _ _ _ _ _ _ _ _ _ _ _ _ _ _ _ _ _ _ _ _ _ _ _ _ _ _ _ _ _ _ _ _ _ _ _ _ _ _ _ _ _ []) (by decide) rfl rfl ?_
      refine j_aload_n dX8_copy_17 rfl rfl ?_
      refine j_getf dX8_copy_18 fX8_68 rfl rfl ?_
      refine j_iret dX8_copy_21 rfl rfl ?_ (Nat.le_of_ble_eq_true rfl) (Nat.le_of_ble_eq_true rfl)
      refine ⟨rfl, (by first | exact z_cwl | rfl), ?_⟩
      rw [sp_i1]
      exact ⟨sp_k2_0 (Or.inr rfl), rfl, (sp_CWe hra ((hra.eqf hf9)) ht0 ht1 ht2 he0 he1 hzm3 hzm4 hzm5 rfl)⟩
    · exact absurd e_11 (by decide)
set_option maxRecDepth 100000 in
set_option maxHeartbeats 8000000 in
theorem c_X8_counts_p (hl : l.stackTraces = false) (S : sp_S) (fa : Nat → Int32) (fb : Nat → Int32) (mt : Int32) (ft : Nat → Int32) (ct : Nat → Int32) (f0 : Nat → Int32) (g0 : Nat → Int32) (f1 : Nat → Int32) (g1 : Nat → Int32) (c1 : Nat → Int32) (f2 : Nat → Int32) (g2 : Nat → Int32) (c2 : Nat → Int32) (f3 : Nat → Int32) (g3 : Nat → Int32) (c3 : Nat → Int32) (m3 : Int32) (f4 : Nat → Int32) (g4 : Nat → Int32) (c4 : Nat → Int32) (m4 : Int32) (f5 : Nat → Int32) (g5 : Nat → Int32) (c5 : Nat → Int32) (m5 : Int32) (ef0 : Nat → Int32) (ef1 : Nat → Int32) (r : Int32) (w : Int32) (ok : sp_ok S) (hra : z_row 12 (nI (sp_R S 0).length) fa (sp_R S 0)) (hrb : z_row 12 (nI (sp_R S 1).length) fb (sp_R S 1)) (ht0 : z_tba f0 g0 (sp_T S 0)) (ht1 : z_tba f1 g1 (sp_T S 1)) (ht2 : z_tba f2 g2 (sp_T S 2)) (he0 : z_row 10 (nI (sp_E S 0).2.length) ef0 (sp_E S 0).2) (he1 : z_row 10 (nI (sp_E S 1).2.length) ef1 (sp_E S 1).2) (hzm3 : z_m20 m3) (hzm4 : z_m20 m4) (hzm5 : z_m20 m5) : z_CX G l mX8_counts 20 14 120 (z_cw S.1.1 S.1.2 (nI (sp_R S 0).length) (sp_F S 0) fa (sp_C S 0) (nI (sp_R S 1).length) (sp_F S 1) fb (sp_C S 1) mt false ft ct f0 g0 (sp_C S 2) (nI (sp_T S 0).length) 0 f1 g1 c1 (nI (sp_T S 1).length) 0 f2 g2 c2 (nI (sp_T S 2).length) 1 f3 g3 c3 m3 0 f4 g4 c4 m4 0 f5 g5 c5 m5 1 (nI (sp_E S 0).2.length) (sp_E S 0).1.2.1 (sp_E S 0).1.2.2.1 (sp_E S 0).1.2.2.2 (sp_E S 0).1.1 ef0 (nI (sp_E S 1).2.length) (sp_E S 1).1.2.1 (sp_E S 1).1.2.2.1 (sp_E S 1).1.2.2.2 (sp_E S 1).1.1 ef1 []) [.ref 0, .int r, .int w] (fun v L => q_k22 r (w < 0 ∨ 4 < w) = 0 ∧ v = some (.int (sp_C S (sp_i r) (sp_i w))) ∧ sp_CW (S) L) (fun E L => ((z_xI E ∧ q_k22 r (w < 0 ∨ 4 < w) = 1) ∨ (z_xA E ∧ q_k22 r (w < 0 ∨ 4 < w) = 2)) ∧ L = (z_cw S.1.1 S.1.2 (nI (sp_R S 0).length) (sp_F S 0) fa (sp_C S 0) (nI (sp_R S 1).length) (sp_F S 1) fb (sp_C S 1) mt false ft ct f0 g0 (sp_C S 2) (nI (sp_T S 0).length) 0 f1 g1 c1 (nI (sp_T S 1).length) 0 f2 g2 c2 (nI (sp_T S 2).length) 1 f3 g3 c3 m3 0 f4 g4 c4 m4 0 f5 g5 c5 m5 1 (nI (sp_E S 0).2.length) (sp_E S 0).1.2.1 (sp_E S 0).1.2.2.1 (sp_E S 0).1.2.2.2 (sp_E S 0).1.1 ef0 (nI (sp_E S 1).2.length) (sp_E S 1).1.2.1 (sp_E S 1).1.2.2.1 (sp_E S 1).1.2.2.2 (sp_E S 1).1.1 ef1 [])) := by
  refine z_body hl (by decide) rfl (Nat.le_of_ble_eq_true rfl) ?_
  show z_J G l mX8_counts (z_SX 20 14 120 (z_cw S.1.1 S.1.2 (nI (sp_R S 0).length) (sp_F S 0) fa (sp_C S 0) (nI (sp_R S 1).length) (sp_F S 1) fb (sp_C S 1) mt false ft ct f0 g0 (sp_C S 2) (nI (sp_T S 0).length) 0 f1 g1 c1 (nI (sp_T S 1).length) 0 f2 g2 c2 (nI (sp_T S 2).length) 1 f3 g3 c3 m3 0 f4 g4 c4 m4 0 f5 g5 c5 m5 1 (nI (sp_E S 0).2.length) (sp_E S 0).1.2.1 (sp_E S 0).1.2.2.1 (sp_E S 0).1.2.2.2 (sp_E S 0).1.1 ef0 (nI (sp_E S 1).2.length) (sp_E S 1).1.2.1 (sp_E S 1).1.2.2.1 (sp_E S 1).1.2.2.2 (sp_E S 1).1.1 ef1 []) (fun v L => q_k22 r (w < 0 ∨ 4 < w) = 0 ∧ v = some (.int (sp_C S (sp_i r) (sp_i w))) ∧ sp_CW (S) L) (fun E L => ((z_xI E ∧ q_k22 r (w < 0 ∨ 4 < w) = 1) ∨ (z_xA E ∧ q_k22 r (w < 0 ∨ 4 < w) = 2)) ∧ L = (z_cw S.1.1 S.1.2 (nI (sp_R S 0).length) (sp_F S 0) fa (sp_C S 0) (nI (sp_R S 1).length) (sp_F S 1) fb (sp_C S 1) mt false ft ct f0 g0 (sp_C S 2) (nI (sp_T S 0).length) 0 f1 g1 c1 (nI (sp_T S 1).length) 0 f2 g2 c2 (nI (sp_T S 2).length) 1 f3 g3 c3 m3 0 f4 g4 c4 m4 0 f5 g5 c5 m5 1 (nI (sp_E S 0).2.length) (sp_E S 0).1.2.1 (sp_E S 0).1.2.2.1 (sp_E S 0).1.2.2.2 (sp_E S 0).1.1 ef0 (nI (sp_E S 1).2.length) (sp_E S 1).1.2.1 (sp_E S 1).1.2.2.1 (sp_E S 1).1.2.2.2 (sp_E S 1).1.1 ef1 []))) 0 [(0, _), (1, _), (2, _)] [] _ 0 0
  refine j_aload_n dX8_counts_0 rfl rfl ?_
  refine j_iload_n dX8_counts_1 rfl ?_
  refine j_callV (q := (RX8, TX8, 9)) dX8_counts_2 kX8_rowFor lX8_46 inX8_rowFor seX8_rowFor rfl rfl (z_dirX (c_X8_rowFor_e hl _ _ _ _ _ _ _ _ _ _ _ _ _ _ _ _ _ _ _ _ _ _ _ _ _ _ _ _ _ _ _ _ _ _ _ _ _ _ _ _ _ _ _ _ _ _ _ _ _ _ _ _ _ _ _ _ _)) (Nat.le_of_ble_eq_true rfl) ⟨(Nat.le_of_ble_eq_true rfl), (Nat.le_of_ble_eq_true rfl)⟩ rfl (Nat.le_of_ble_eq_true rfl) rfl rfl (fun _ _ h => by obtain ⟨_, ⟨h1, rfl⟩, rfl⟩ := h; exact ⟨rfl, rfl, Or.inl ⟨h1.1, sp_k22_1 h1.2⟩, rfl⟩) ?_
  rintro _ _ ⟨_, ⟨_, rfl, hr, rfl⟩, rfl⟩
  rcases hr with ⟨e_2, rfl⟩ | ⟨e_2, rfl⟩
  · subst e_2
    refine j_astore_n (lo' := [(3, _), (0, _), (1, _), (2, _)]) dX8_counts_5 rfl (by decide) rfl ?_
    refine j_iload_n dX8_counts_6 rfl ?_
    refine j_iconst (v := 0) dX8_counts_7 (by decide) ?_
    refine j_iconst (v := 4) dX8_counts_8 (by decide) ?_
    refine j_callS dX8_counts_9 kX8_checkRange lX8_72 stX8_checkRange (c_X8_checkRange_e hl _ _ _ _) (Nat.le_of_ble_eq_true rfl) ⟨(Nat.le_of_ble_eq_true rfl), (Nat.le_of_ble_eq_true rfl)⟩ rfl (Nat.le_of_ble_eq_true rfl) rfl rfl (fun _ _ h => by obtain ⟨h1, rfl⟩ := h; exact ⟨rfl, rfl, Or.inr ⟨h1.1, sp_k22_2 (Or.inl rfl) h1.2⟩, rfl⟩) ?_
    rintro _ _ ⟨⟨rfl, hc9⟩, rfl⟩
    have hw0 := hc9
    obtain ⟨k, hk2, rfl⟩ := sp_nt (m := 4) rfl (by decide) hw0
    refine j_aload_n dX8_counts_12 rfl rfl ?_
    refine j_getf dX8_counts_13 fX8_214 rfl rfl ?_
    refine j_iload_n dX8_counts_16 rfl ?_
    refine j_callV (q := (RX6, TX6, 1)) dX8_counts_17 kX6_of lX8_218 inX6_of seX6_of rfl rfl (z_frame [4, 5] rfl (by decide) (Nat.le_of_ble_eq_true rfl) (c_X6_of_e hl _ k (by omega))) (Nat.le_of_ble_eq_true rfl) ⟨(Nat.le_of_ble_eq_true rfl), (Nat.le_of_ble_eq_true rfl)⟩ rfl (Nat.le_of_ble_eq_true rfl) rfl rfl (fun _ _ h => h.elim) ?_
    rintro _ _ ⟨_, _, ⟨rfl, rfl⟩, rfl, rfl⟩
    refine j_ws (L' := z_cw _ _ _ _ _ _ _ _ _ _ _ _ _ _ _ _ _ _ _ _ _ _ _ _ _ _ _ _ _ _ _ _ _ _ _ _ _ _ _ _ _ _ _ _ _ _ _ _ _ _ _ _ _ _ _ _ []) (by decide) rfl rfl ?_
    refine j_iret dX8_counts_20 rfl rfl ?_ (Nat.le_of_ble_eq_true rfl) (Nat.le_of_ble_eq_true rfl)
    refine ⟨rfl, (by first | exact z_cwl | rfl), ?_⟩
    rw [sp_i0, sp_in' (n := k) (by omega)]
    exact ⟨sp_k22_0 (Or.inl rfl) hw0, rfl, (sp_CWe hra hrb ht0 ht1 ht2 he0 he1 hzm3 hzm4 hzm5 rfl)⟩
  · subst e_2
    refine j_astore_n (lo' := [(3, _), (0, _), (1, _), (2, _)]) dX8_counts_5 rfl (by decide) rfl ?_
    refine j_iload_n dX8_counts_6 rfl ?_
    refine j_iconst (v := 0) dX8_counts_7 (by decide) ?_
    refine j_iconst (v := 4) dX8_counts_8 (by decide) ?_
    refine j_callS dX8_counts_9 kX8_checkRange lX8_72 stX8_checkRange (c_X8_checkRange_e hl _ _ _ _) (Nat.le_of_ble_eq_true rfl) ⟨(Nat.le_of_ble_eq_true rfl), (Nat.le_of_ble_eq_true rfl)⟩ rfl (Nat.le_of_ble_eq_true rfl) rfl rfl (fun _ _ h => by obtain ⟨h1, rfl⟩ := h; exact ⟨rfl, rfl, Or.inr ⟨h1.1, sp_k22_2 (Or.inr rfl) h1.2⟩, rfl⟩) ?_
    rintro _ _ ⟨⟨rfl, hc9⟩, rfl⟩
    have hw0 := hc9
    obtain ⟨k, hk2, rfl⟩ := sp_nt (m := 4) rfl (by decide) hw0
    refine j_aload_n dX8_counts_12 rfl rfl ?_
    refine j_getf dX8_counts_13 fX8_214 rfl rfl ?_
    refine j_iload_n dX8_counts_16 rfl ?_
    refine j_callV (q := (RX6, TX6, 1)) dX8_counts_17 kX6_of lX8_218 inX6_of seX6_of rfl rfl (z_frame [8, 9] rfl (by decide) (Nat.le_of_ble_eq_true rfl) (c_X6_of_e hl _ k (by omega))) (Nat.le_of_ble_eq_true rfl) ⟨(Nat.le_of_ble_eq_true rfl), (Nat.le_of_ble_eq_true rfl)⟩ rfl (Nat.le_of_ble_eq_true rfl) rfl rfl (fun _ _ h => h.elim) ?_
    rintro _ _ ⟨_, _, ⟨rfl, rfl⟩, rfl, rfl⟩
    refine j_ws (L' := z_cw _ _ _ _ _ _ _ _ _ _ _ _ _ _ _ _ _ _ _ _ _ _ _ _ _ _ _ _ _ _ _ _ _ _ _ _ _ _ _ _ _ _ _ _ _ _ _ _ _ _ _ _ _ _ _ _ []) (by decide) rfl rfl ?_
    refine j_iret dX8_counts_20 rfl rfl ?_ (Nat.le_of_ble_eq_true rfl) (Nat.le_of_ble_eq_true rfl)
    refine ⟨rfl, (by first | exact z_cwl | rfl), ?_⟩
    rw [sp_i1, sp_in' (n := k) (by omega)]
    exact ⟨sp_k22_0 (Or.inr rfl) hw0, rfl, (sp_CWe hra hrb ht0 ht1 ht2 he0 he1 hzm3 hzm4 hzm5 rfl)⟩
set_option maxRecDepth 100000 in
set_option maxHeartbeats 8000000 in
theorem c_X8_shelfCounts_p (hl : l.stackTraces = false) (S : sp_S) (fa : Nat → Int32) (fb : Nat → Int32) (mt : Int32) (ft : Nat → Int32) (ct : Nat → Int32) (f0 : Nat → Int32) (g0 : Nat → Int32) (f1 : Nat → Int32) (g1 : Nat → Int32) (c1 : Nat → Int32) (f2 : Nat → Int32) (g2 : Nat → Int32) (c2 : Nat → Int32) (f3 : Nat → Int32) (g3 : Nat → Int32) (c3 : Nat → Int32) (m3 : Int32) (f4 : Nat → Int32) (g4 : Nat → Int32) (c4 : Nat → Int32) (m4 : Int32) (f5 : Nat → Int32) (g5 : Nat → Int32) (c5 : Nat → Int32) (m5 : Int32) (ef0 : Nat → Int32) (ef1 : Nat → Int32) (w : Int32) (ok : sp_ok S) (hra : z_row 12 (nI (sp_R S 0).length) fa (sp_R S 0)) (hrb : z_row 12 (nI (sp_R S 1).length) fb (sp_R S 1)) (ht0 : z_tba f0 g0 (sp_T S 0)) (ht1 : z_tba f1 g1 (sp_T S 1)) (ht2 : z_tba f2 g2 (sp_T S 2)) (he0 : z_row 10 (nI (sp_E S 0).2.length) ef0 (sp_E S 0).2) (he1 : z_row 10 (nI (sp_E S 1).2.length) ef1 (sp_E S 1).2) (hzm3 : z_m20 m3) (hzm4 : z_m20 m4) (hzm5 : z_m20 m5) : z_CX G l mX8_shelfCounts 20 14 120 (z_cw S.1.1 S.1.2 (nI (sp_R S 0).length) (sp_F S 0) fa (sp_C S 0) (nI (sp_R S 1).length) (sp_F S 1) fb (sp_C S 1) mt false ft ct f0 g0 (sp_C S 2) (nI (sp_T S 0).length) 0 f1 g1 c1 (nI (sp_T S 1).length) 0 f2 g2 c2 (nI (sp_T S 2).length) 1 f3 g3 c3 m3 0 f4 g4 c4 m4 0 f5 g5 c5 m5 1 (nI (sp_E S 0).2.length) (sp_E S 0).1.2.1 (sp_E S 0).1.2.2.1 (sp_E S 0).1.2.2.2 (sp_E S 0).1.1 ef0 (nI (sp_E S 1).2.length) (sp_E S 1).1.2.1 (sp_E S 1).1.2.2.1 (sp_E S 1).1.2.2.2 (sp_E S 1).1.1 ef1 []) [.ref 0, .int w] (fun v L => q_k1 (w < 0 ∨ 6 < w) = 0 ∧ v = some (.int (sp_C S 2 (sp_i w))) ∧ sp_CW (S) L) (fun E L => ((z_xA E ∧ q_k1 (w < 0 ∨ 6 < w) = 1)) ∧ L = (z_cw S.1.1 S.1.2 (nI (sp_R S 0).length) (sp_F S 0) fa (sp_C S 0) (nI (sp_R S 1).length) (sp_F S 1) fb (sp_C S 1) mt false ft ct f0 g0 (sp_C S 2) (nI (sp_T S 0).length) 0 f1 g1 c1 (nI (sp_T S 1).length) 0 f2 g2 c2 (nI (sp_T S 2).length) 1 f3 g3 c3 m3 0 f4 g4 c4 m4 0 f5 g5 c5 m5 1 (nI (sp_E S 0).2.length) (sp_E S 0).1.2.1 (sp_E S 0).1.2.2.1 (sp_E S 0).1.2.2.2 (sp_E S 0).1.1 ef0 (nI (sp_E S 1).2.length) (sp_E S 1).1.2.1 (sp_E S 1).1.2.2.1 (sp_E S 1).1.2.2.2 (sp_E S 1).1.1 ef1 [])) := by
  refine z_body hl (by decide) rfl (Nat.le_of_ble_eq_true rfl) ?_
  show z_J G l mX8_shelfCounts (z_SX 20 14 120 (z_cw S.1.1 S.1.2 (nI (sp_R S 0).length) (sp_F S 0) fa (sp_C S 0) (nI (sp_R S 1).length) (sp_F S 1) fb (sp_C S 1) mt false ft ct f0 g0 (sp_C S 2) (nI (sp_T S 0).length) 0 f1 g1 c1 (nI (sp_T S 1).length) 0 f2 g2 c2 (nI (sp_T S 2).length) 1 f3 g3 c3 m3 0 f4 g4 c4 m4 0 f5 g5 c5 m5 1 (nI (sp_E S 0).2.length) (sp_E S 0).1.2.1 (sp_E S 0).1.2.2.1 (sp_E S 0).1.2.2.2 (sp_E S 0).1.1 ef0 (nI (sp_E S 1).2.length) (sp_E S 1).1.2.1 (sp_E S 1).1.2.2.1 (sp_E S 1).1.2.2.2 (sp_E S 1).1.1 ef1 []) (fun v L => q_k1 (w < 0 ∨ 6 < w) = 0 ∧ v = some (.int (sp_C S 2 (sp_i w))) ∧ sp_CW (S) L) (fun E L => ((z_xA E ∧ q_k1 (w < 0 ∨ 6 < w) = 1)) ∧ L = (z_cw S.1.1 S.1.2 (nI (sp_R S 0).length) (sp_F S 0) fa (sp_C S 0) (nI (sp_R S 1).length) (sp_F S 1) fb (sp_C S 1) mt false ft ct f0 g0 (sp_C S 2) (nI (sp_T S 0).length) 0 f1 g1 c1 (nI (sp_T S 1).length) 0 f2 g2 c2 (nI (sp_T S 2).length) 1 f3 g3 c3 m3 0 f4 g4 c4 m4 0 f5 g5 c5 m5 1 (nI (sp_E S 0).2.length) (sp_E S 0).1.2.1 (sp_E S 0).1.2.2.1 (sp_E S 0).1.2.2.2 (sp_E S 0).1.1 ef0 (nI (sp_E S 1).2.length) (sp_E S 1).1.2.1 (sp_E S 1).1.2.2.1 (sp_E S 1).1.2.2.2 (sp_E S 1).1.1 ef1 []))) 0 [(0, _), (1, _)] [] _ 0 0
  refine j_iload_n dX8_shelfCounts_0 rfl ?_
  refine j_iconst (v := 0) dX8_shelfCounts_1 (by decide) ?_
  refine j_bipush (v := 6) dX8_shelfCounts_2 (by decide) ?_
  refine j_callS dX8_shelfCounts_4 kX8_checkRange lX8_72 stX8_checkRange (c_X8_checkRange_e hl _ _ _ _) (Nat.le_of_ble_eq_true rfl) ⟨(Nat.le_of_ble_eq_true rfl), (Nat.le_of_ble_eq_true rfl)⟩ rfl (Nat.le_of_ble_eq_true rfl) rfl rfl (fun _ _ h => by obtain ⟨h1, rfl⟩ := h; exact ⟨rfl, rfl, ⟨h1.1, if_pos h1.2⟩, rfl⟩) ?_
  rintro _ _ ⟨⟨rfl, hc4⟩, rfl⟩
  have hw0 := hc4
  obtain ⟨k, hk2, rfl⟩ := sp_nt (m := 6) rfl (by decide) hw0
  refine j_aload_n dX8_shelfCounts_7 rfl rfl ?_
  refine j_getf dX8_shelfCounts_8 fX8_21 rfl rfl ?_
  refine j_getf dX8_shelfCounts_11 fX8_223 rfl rfl ?_
  refine j_iload_n dX8_shelfCounts_14 rfl ?_
  refine j_callV (q := (RX6, TX6, 1)) dX8_shelfCounts_15 kX6_of lX8_218 inX6_of seX6_of rfl rfl (z_frame [13, 14] rfl (by decide) (Nat.le_of_ble_eq_true rfl) (c_X6_of_e hl _ k (by omega))) (Nat.le_of_ble_eq_true rfl) ⟨(Nat.le_of_ble_eq_true rfl), (Nat.le_of_ble_eq_true rfl)⟩ rfl (Nat.le_of_ble_eq_true rfl) rfl rfl (fun _ _ h => h.elim) ?_
  rintro _ _ ⟨_, _, ⟨rfl, rfl⟩, rfl, rfl⟩
  refine j_ws (L' := z_cw _ _ _ _ _ _ _ _ _ _ _ _ _ _ _ _ _ _ _ _ _ _ _ _ _ _ _ _ _ _ _ _ _ _ _ _ _ _ _ _ _ _ _ _ _ _ _ _ _ _ _ _ _ _ _ _ []) (by decide) rfl rfl ?_
  refine j_iret dX8_shelfCounts_18 rfl rfl ?_ (Nat.le_of_ble_eq_true rfl) (Nat.le_of_ble_eq_true rfl)
  refine ⟨rfl, (by first | exact z_cwl | rfl), ?_⟩
  rw [sp_in' (n := k) (by omega)]
  exact ⟨if_neg hw0, rfl, (sp_CWe hra hrb ht0 ht1 ht2 he0 he1 hzm3 hzm4 hzm5 rfl)⟩
set_option maxRecDepth 100000 in
set_option maxHeartbeats 8000000 in
theorem c_X8_forgetCounts_p (hl : l.stackTraces = false) (S : sp_S) (fa : Nat → Int32) (fb : Nat → Int32) (mt : Int32) (ft : Nat → Int32) (ct : Nat → Int32) (f0 : Nat → Int32) (g0 : Nat → Int32) (f1 : Nat → Int32) (g1 : Nat → Int32) (c1 : Nat → Int32) (f2 : Nat → Int32) (g2 : Nat → Int32) (c2 : Nat → Int32) (f3 : Nat → Int32) (g3 : Nat → Int32) (c3 : Nat → Int32) (m3 : Int32) (f4 : Nat → Int32) (g4 : Nat → Int32) (c4 : Nat → Int32) (m4 : Int32) (f5 : Nat → Int32) (g5 : Nat → Int32) (c5 : Nat → Int32) (m5 : Int32) (ef0 : Nat → Int32) (ef1 : Nat → Int32)  (ok : sp_ok S) (hra : z_row 12 (nI (sp_R S 0).length) fa (sp_R S 0)) (hrb : z_row 12 (nI (sp_R S 1).length) fb (sp_R S 1)) (ht0 : z_tba f0 g0 (sp_T S 0)) (ht1 : z_tba f1 g1 (sp_T S 1)) (ht2 : z_tba f2 g2 (sp_T S 2)) (he0 : z_row 10 (nI (sp_E S 0).2.length) ef0 (sp_E S 0).2) (he1 : z_row 10 (nI (sp_E S 1).2.length) ef1 (sp_E S 1).2) (hzm3 : z_m20 m3) (hzm4 : z_m20 m4) (hzm5 : z_m20 m5) : z_CF G l mX8_forgetCounts 20 14 120 (z_cw S.1.1 S.1.2 (nI (sp_R S 0).length) (sp_F S 0) fa (sp_C S 0) (nI (sp_R S 1).length) (sp_F S 1) fb (sp_C S 1) mt false ft ct f0 g0 (sp_C S 2) (nI (sp_T S 0).length) 0 f1 g1 c1 (nI (sp_T S 1).length) 0 f2 g2 c2 (nI (sp_T S 2).length) 1 f3 g3 c3 m3 0 f4 g4 c4 m4 0 f5 g5 c5 m5 1 (nI (sp_E S 0).2.length) (sp_E S 0).1.2.1 (sp_E S 0).1.2.2.1 (sp_E S 0).1.2.2.2 (sp_E S 0).1.1 ef0 (nI (sp_E S 1).2.length) (sp_E S 1).1.2.1 (sp_E S 1).1.2.2.1 (sp_E S 1).1.2.2.2 (sp_E S 1).1.1 ef1 []) [.ref 0] (fun v L => v = some (.int (sp_cs S)) ∧ sp_CW (sp_csS S) L) := by
  refine z_body hl (by decide) rfl (Nat.le_of_ble_eq_true rfl) ?_
  show z_J G l mX8_forgetCounts (z_SF 20 14 120 (z_cw S.1.1 S.1.2 (nI (sp_R S 0).length) (sp_F S 0) fa (sp_C S 0) (nI (sp_R S 1).length) (sp_F S 1) fb (sp_C S 1) mt false ft ct f0 g0 (sp_C S 2) (nI (sp_T S 0).length) 0 f1 g1 c1 (nI (sp_T S 1).length) 0 f2 g2 c2 (nI (sp_T S 2).length) 1 f3 g3 c3 m3 0 f4 g4 c4 m4 0 f5 g5 c5 m5 1 (nI (sp_E S 0).2.length) (sp_E S 0).1.2.1 (sp_E S 0).1.2.2.1 (sp_E S 0).1.2.2.2 (sp_E S 0).1.1 ef0 (nI (sp_E S 1).2.length) (sp_E S 1).1.2.1 (sp_E S 1).1.2.2.1 (sp_E S 1).1.2.2.2 (sp_E S 1).1.1 ef1 []) (fun v L => v = some (.int (sp_cs S)) ∧ sp_CW (sp_csS S) L)) 0 [(0, _)] [] _ 0 0
  refine j_aload_n dX8_forgetCounts_0 rfl rfl ?_
  refine j_getf dX8_forgetCounts_1 fX8_21 rfl rfl ?_
  refine j_getf dX8_forgetCounts_4 fX8_223 rfl rfl ?_
  refine j_callV (q := (RX6, TX6, 1)) dX8_forgetCounts_7 kX6_startAnew lX8_224 inX6_startAnew seX6_startAnew rfl rfl (z_frame [13, 14] rfl (by decide) (Nat.le_of_ble_eq_true rfl) (c_X6_startAnew_e hl _)) (Nat.le_of_ble_eq_true rfl) ⟨(Nat.le_of_ble_eq_true rfl), (Nat.le_of_ble_eq_true rfl)⟩ rfl (Nat.le_of_ble_eq_true rfl) rfl rfl (fun _ _ h => h.elim) ?_
  rintro _ _ ⟨_, _, ⟨rfl, rfl⟩, rfl, rfl⟩
  refine j_ws (L' := z_cw _ _ _ _ _ _ _ _ _ _ _ _ _ _ _ _ _ _ _ _ _ _ _ _ _ _ _ _ _ _ _ _ _ _ _ _ _ _ _ _ _ _ _ _ _ _ _ _ _ _ _ _ _ _ _ _ []) (by decide) rfl rfl ?_
  refine j_istore_n (lo' := [(1, _), (0, _)]) dX8_forgetCounts_10 (by decide) rfl ?_
  refine j_aload_n dX8_forgetCounts_11 rfl rfl ?_
  refine j_getf dX8_forgetCounts_12 fX8_10 rfl rfl ?_
  refine j_astore_n (lo' := [(2, _), (1, _), (0, _)]) dX8_forgetCounts_15 rfl (by decide) rfl ?_
  refine j_aload_n dX8_forgetCounts_16 rfl rfl ?_
  refine j_alen dX8_forgetCounts_17 rfl rfl rfl ?_
  refine j_istore_n (lo' := [(3, _), (2, _), (1, _), (0, _)]) dX8_forgetCounts_18 (by decide) rfl ?_
  refine j_iconst (v := 0) dX8_forgetCounts_19 (by decide) ?_
  refine j_istore (lo' := [(4, _), (3, _), (2, _), (1, _), (0, _)]) dX8_forgetCounts_20 (by decide) rfl ?_
  refine j_iload dX8_forgetCounts_22 rfl ?_
  refine j_iload_n dX8_forgetCounts_24 rfl ?_
  refine j_icmp_ge (tgt := 51) dX8_forgetCounts_25 (by decide) (fun c_25 => ?_) (fun c_25 => ?_)
  · exact absurd c_25 (by decide)
  · refine j_aload_n dX8_forgetCounts_28 rfl rfl ?_
    refine j_iload dX8_forgetCounts_29 rfl ?_
    refine j_aald (v := .ref 2) dX8_forgetCounts_31 rfl rfl rfl (vp_in_iff.mpr (by decide)) rfl ?_
    refine j_astore (lo' := [(5, _), (4, _), (3, _), (2, _), (1, _), (0, _)]) dX8_forgetCounts_32 rfl (by decide) rfl ?_
    refine j_iload_n dX8_forgetCounts_34 rfl ?_
    refine j_aload dX8_forgetCounts_35 rfl rfl ?_
    refine j_getf dX8_forgetCounts_37 fX8_214 rfl rfl ?_
    refine j_callV (q := (RX6, TX6, 1)) dX8_forgetCounts_40 kX6_startAnew lX8_224 inX6_startAnew seX6_startAnew rfl rfl (z_frame [4, 5] rfl (by decide) (Nat.le_of_ble_eq_true rfl) (c_X6_startAnew_e hl _)) (Nat.le_of_ble_eq_true rfl) ⟨(Nat.le_of_ble_eq_true rfl), (Nat.le_of_ble_eq_true rfl)⟩ rfl (Nat.le_of_ble_eq_true rfl) rfl rfl (fun _ _ h => h.elim) ?_
    rintro _ _ ⟨_, _, ⟨rfl, rfl⟩, rfl, rfl⟩
    refine j_ws (L' := z_cw _ _ _ _ _ _ _ _ _ _ _ _ _ _ _ _ _ _ _ _ _ _ _ _ _ _ _ _ _ _ _ _ _ _ _ _ _ _ _ _ _ _ _ _ _ _ _ _ _ _ _ _ _ _ _ _ []) (by decide) rfl rfl ?_
    refine j_iadd dX8_forgetCounts_43 ?_
    refine j_istore_n (lo' := [(1, _), (5, _), (4, _), (3, _), (2, _), (0, _)]) dX8_forgetCounts_44 (by decide) rfl ?_
    refine j_iinc (lo' := [(4, _), (1, _), (5, _), (3, _), (2, _), (0, _)]) dX8_forgetCounts_45 rfl rfl (by decide) rfl ?_
    refine j_goto (tgt := 22) dX8_forgetCounts_48 (by decide) ?_
    refine j_iload dX8_forgetCounts_22 rfl ?_
    refine j_iload_n dX8_forgetCounts_24 rfl ?_
    refine j_icmp_ge (tgt := 51) dX8_forgetCounts_25 (by decide) (fun c_25 => ?_) (fun c_25 => ?_)
    · exact absurd c_25 (by decide)
    · refine j_aload_n dX8_forgetCounts_28 rfl rfl ?_
      refine j_iload dX8_forgetCounts_29 rfl ?_
      refine j_aald (v := .ref 6) dX8_forgetCounts_31 rfl rfl rfl (vp_in_iff.mpr (by decide)) rfl ?_
      refine j_astore (lo' := [(5, _), (4, _), (1, _), (3, _), (2, _), (0, _)]) dX8_forgetCounts_32 rfl (by decide) rfl ?_
      refine j_iload_n dX8_forgetCounts_34 rfl ?_
      refine j_aload dX8_forgetCounts_35 rfl rfl ?_
      refine j_getf dX8_forgetCounts_37 fX8_214 rfl rfl ?_
      refine j_callV (q := (RX6, TX6, 1)) dX8_forgetCounts_40 kX6_startAnew lX8_224 inX6_startAnew seX6_startAnew rfl rfl (z_frame [8, 9] rfl (by decide) (Nat.le_of_ble_eq_true rfl) (c_X6_startAnew_e hl _)) (Nat.le_of_ble_eq_true rfl) ⟨(Nat.le_of_ble_eq_true rfl), (Nat.le_of_ble_eq_true rfl)⟩ rfl (Nat.le_of_ble_eq_true rfl) rfl rfl (fun _ _ h => h.elim) ?_
      rintro _ _ ⟨_, _, ⟨rfl, rfl⟩, rfl, rfl⟩
      refine j_ws (L' := z_cw _ _ _ _ _ _ _ _ _ _ _ _ _ _ _ _ _ _ _ _ _ _ _ _ _ _ _ _ _ _ _ _ _ _ _ _ _ _ _ _ _ _ _ _ _ _ _ _ _ _ _ _ _ _ _ _ []) (by decide) rfl rfl ?_
      refine j_iadd dX8_forgetCounts_43 ?_
      refine j_istore_n (lo' := [(1, _), (5, _), (4, _), (3, _), (2, _), (0, _)]) dX8_forgetCounts_44 (by decide) rfl ?_
      refine j_iinc (lo' := [(4, _), (1, _), (5, _), (3, _), (2, _), (0, _)]) dX8_forgetCounts_45 rfl rfl (by decide) rfl ?_
      refine j_goto (tgt := 22) dX8_forgetCounts_48 (by decide) ?_
      refine j_iload dX8_forgetCounts_22 rfl ?_
      refine j_iload_n dX8_forgetCounts_24 rfl ?_
      refine j_icmp_ge (tgt := 51) dX8_forgetCounts_25 (by decide) (fun c_25 => ?_) (fun c_25 => ?_)
      · refine j_iload_n dX8_forgetCounts_51 rfl ?_
        refine j_iret dX8_forgetCounts_52 rfl rfl ?_ (Nat.le_of_ble_eq_true rfl) (Nat.le_of_ble_eq_true rfl)
        exact ⟨rfl, (by first | exact z_cwl | rfl), rfl, (sp_CWe hra hrb ht0 ht1 ht2 he0 he1 hzm3 hzm4 hzm5 rfl)⟩
      · exact absurd (by decide) c_25
set_option maxRecDepth 100000 in
set_option maxHeartbeats 8000000 in
theorem c_X8_stop_p (hl : l.stackTraces = false) (S : sp_S) (fa : Nat → Int32) (fb : Nat → Int32) (mt : Int32) (ft : Nat → Int32) (ct : Nat → Int32) (f0 : Nat → Int32) (g0 : Nat → Int32) (f1 : Nat → Int32) (g1 : Nat → Int32) (c1 : Nat → Int32) (f2 : Nat → Int32) (g2 : Nat → Int32) (c2 : Nat → Int32) (f3 : Nat → Int32) (g3 : Nat → Int32) (c3 : Nat → Int32) (m3 : Int32) (f4 : Nat → Int32) (g4 : Nat → Int32) (c4 : Nat → Int32) (m4 : Int32) (f5 : Nat → Int32) (g5 : Nat → Int32) (c5 : Nat → Int32) (m5 : Int32) (ef0 : Nat → Int32) (ef1 : Nat → Int32) (g : Int32) (n : Int32) (ok : sp_ok S) (hra : z_row 12 (nI (sp_R S 0).length) fa (sp_R S 0)) (hrb : z_row 12 (nI (sp_R S 1).length) fb (sp_R S 1)) (ht0 : z_tba f0 g0 (sp_T S 0)) (ht1 : z_tba f1 g1 (sp_T S 1)) (ht2 : z_tba f2 g2 (sp_T S 2)) (he0 : z_row 10 (nI (sp_E S 0).2.length) ef0 (sp_E S 0).2) (he1 : z_row 10 (nI (sp_E S 1).2.length) ef1 (sp_E S 1).2) (hzm3 : z_m20 m3) (hzm4 : z_m20 m4) (hzm5 : z_m20 m5) : z_CX G l mX8_stop 20 14 120 (z_cw S.1.1 S.1.2 (nI (sp_R S 0).length) (sp_F S 0) fa (sp_C S 0) (nI (sp_R S 1).length) (sp_F S 1) fb (sp_C S 1) mt false ft ct f0 g0 (sp_C S 2) (nI (sp_T S 0).length) 0 f1 g1 c1 (nI (sp_T S 1).length) 0 f2 g2 c2 (nI (sp_T S 2).length) 1 f3 g3 c3 m3 0 f4 g4 c4 m4 0 f5 g5 c5 m5 1 (nI (sp_E S 0).2.length) (sp_E S 0).1.2.1 (sp_E S 0).1.2.2.1 (sp_E S 0).1.2.2.2 (sp_E S 0).1.1 ef0 (nI (sp_E S 1).2.length) (sp_E S 1).1.2.1 (sp_E S 1).1.2.2.1 (sp_E S 1).1.2.2.2 (sp_E S 1).1.1 ef1 []) [.ref 0, .int g, .int n] (fun v L => q_k22 g (n < -1000 ∨ 99999 < n) = 0 ∧ v = some (.int ((sp_E S (sp_i g)).1.1)) ∧ sp_CW (sp_uE S (sp_i g) (sp_stp' (sp_E S (sp_i g)) n)) L) (fun E L => ((z_xI E ∧ q_k22 g (n < -1000 ∨ 99999 < n) = 1) ∨ (z_xA E ∧ q_k22 g (n < -1000 ∨ 99999 < n) = 2)) ∧ L = (z_cw S.1.1 S.1.2 (nI (sp_R S 0).length) (sp_F S 0) fa (sp_C S 0) (nI (sp_R S 1).length) (sp_F S 1) fb (sp_C S 1) mt false ft ct f0 g0 (sp_C S 2) (nI (sp_T S 0).length) 0 f1 g1 c1 (nI (sp_T S 1).length) 0 f2 g2 c2 (nI (sp_T S 2).length) 1 f3 g3 c3 m3 0 f4 g4 c4 m4 0 f5 g5 c5 m5 1 (nI (sp_E S 0).2.length) (sp_E S 0).1.2.1 (sp_E S 0).1.2.2.1 (sp_E S 0).1.2.2.2 (sp_E S 0).1.1 ef0 (nI (sp_E S 1).2.length) (sp_E S 1).1.2.1 (sp_E S 1).1.2.2.1 (sp_E S 1).1.2.2.2 (sp_E S 1).1.1 ef1 [])) := by
  refine z_body hl (by decide) rfl (Nat.le_of_ble_eq_true rfl) ?_
  show z_J G l mX8_stop (z_SX 20 14 120 (z_cw S.1.1 S.1.2 (nI (sp_R S 0).length) (sp_F S 0) fa (sp_C S 0) (nI (sp_R S 1).length) (sp_F S 1) fb (sp_C S 1) mt false ft ct f0 g0 (sp_C S 2) (nI (sp_T S 0).length) 0 f1 g1 c1 (nI (sp_T S 1).length) 0 f2 g2 c2 (nI (sp_T S 2).length) 1 f3 g3 c3 m3 0 f4 g4 c4 m4 0 f5 g5 c5 m5 1 (nI (sp_E S 0).2.length) (sp_E S 0).1.2.1 (sp_E S 0).1.2.2.1 (sp_E S 0).1.2.2.2 (sp_E S 0).1.1 ef0 (nI (sp_E S 1).2.length) (sp_E S 1).1.2.1 (sp_E S 1).1.2.2.1 (sp_E S 1).1.2.2.2 (sp_E S 1).1.1 ef1 []) (fun v L => q_k22 g (n < -1000 ∨ 99999 < n) = 0 ∧ v = some (.int ((sp_E S (sp_i g)).1.1)) ∧ sp_CW (sp_uE S (sp_i g) (sp_stp' (sp_E S (sp_i g)) n)) L) (fun E L => ((z_xI E ∧ q_k22 g (n < -1000 ∨ 99999 < n) = 1) ∨ (z_xA E ∧ q_k22 g (n < -1000 ∨ 99999 < n) = 2)) ∧ L = (z_cw S.1.1 S.1.2 (nI (sp_R S 0).length) (sp_F S 0) fa (sp_C S 0) (nI (sp_R S 1).length) (sp_F S 1) fb (sp_C S 1) mt false ft ct f0 g0 (sp_C S 2) (nI (sp_T S 0).length) 0 f1 g1 c1 (nI (sp_T S 1).length) 0 f2 g2 c2 (nI (sp_T S 2).length) 1 f3 g3 c3 m3 0 f4 g4 c4 m4 0 f5 g5 c5 m5 1 (nI (sp_E S 0).2.length) (sp_E S 0).1.2.1 (sp_E S 0).1.2.2.1 (sp_E S 0).1.2.2.2 (sp_E S 0).1.1 ef0 (nI (sp_E S 1).2.length) (sp_E S 1).1.2.1 (sp_E S 1).1.2.2.1 (sp_E S 1).1.2.2.2 (sp_E S 1).1.1 ef1 []))) 0 [(0, _), (1, _), (2, _)] [] _ 0 0
  refine j_aload_n dX8_stop_0 rfl rfl ?_
  refine j_iload_n dX8_stop_1 rfl ?_
  refine j_callV (q := (RX8, TX8, 9)) dX8_stop_2 kX8_hearerFor lX8_87 inX8_hearerFor seX8_hearerFor rfl rfl (z_dirX (c_X8_hearerFor_e hl _ _ _ _ _ _ _ _ _ _ _ _ _ _ _ _ _ _ _ _ _ _ _ _ _ _ _ _ _ _ _ _ _ _ _ _ _ _ _ _ _ _ _ _ _ _ _ _ _ _ _ _ _ _ _ _ _)) (Nat.le_of_ble_eq_true rfl) ⟨(Nat.le_of_ble_eq_true rfl), (Nat.le_of_ble_eq_true rfl)⟩ rfl (Nat.le_of_ble_eq_true rfl) rfl rfl (fun _ _ h => by obtain ⟨_, ⟨h1, rfl⟩, rfl⟩ := h; exact ⟨rfl, rfl, Or.inl ⟨h1.1, sp_k22_1 h1.2⟩, rfl⟩) ?_
  rintro _ _ ⟨_, ⟨_, rfl, hr, rfl⟩, rfl⟩
  rcases hr with ⟨e_2, rfl⟩ | ⟨e_2, rfl⟩
  · subst e_2
    refine j_astore_n (lo' := [(3, _), (0, _), (1, _), (2, _)]) dX8_stop_5 rfl (by decide) rfl ?_
    refine j_iload_n dX8_stop_6 rfl ?_
    refine j_sipush (v := (-1000)) dX8_stop_7 (by decide) ?_
    refine j_ldc dX8_stop_10 kcX8_179 ?_
    refine j_callS dX8_stop_12 kX8_checkRange lX8_72 stX8_checkRange (c_X8_checkRange_e hl _ _ _ _) (Nat.le_of_ble_eq_true rfl) ⟨(Nat.le_of_ble_eq_true rfl), (Nat.le_of_ble_eq_true rfl)⟩ rfl (Nat.le_of_ble_eq_true rfl) rfl rfl (fun _ _ h => by obtain ⟨h1, rfl⟩ := h; exact ⟨rfl, rfl, Or.inr ⟨h1.1, sp_k22_2 (Or.inl rfl) h1.2⟩, rfl⟩) ?_
    rintro _ _ ⟨⟨rfl, hc12⟩, rfl⟩
    refine j_aload_n dX8_stop_15 rfl rfl ?_
    refine j_getf dX8_stop_16 fX8_180 rfl rfl ?_
    refine j_istore (lo' := [(4, _), (3, _), (0, _), (1, _), (2, _)]) dX8_stop_19 (by decide) rfl ?_
    refine j_aload_n dX8_stop_21 rfl rfl ?_
    refine j_iload_n dX8_stop_22 rfl ?_
    refine j_put (w' := (z_cw _ _ _ _ _ _ _ _ _ _ _ _ _ _ _ _ _ _ _ _ _ _ _ _ _ _ _ _ _ _ _ _ _ _ _ _ _ _ _ _ _ _ _ _ _ _ _ _ _ _ _ _ _ _ _ _ [], z_no)) dX8_stop_23 fX8_180 tX0_5 rfl ⟨rfl, rfl⟩ rfl ?_
    refine j_iload dX8_stop_26 rfl ?_
    refine j_iret dX8_stop_28 rfl rfl ?_ (Nat.le_of_ble_eq_true rfl) (Nat.le_of_ble_eq_true rfl)
    refine ⟨rfl, (by first | exact z_cwl | rfl), ?_⟩
    rw [sp_i0]
    exact ⟨sp_k22_0 (Or.inl rfl) hc12, rfl, (sp_CWe hra hrb ht0 ht1 ht2 he0 he1 hzm3 hzm4 hzm5 rfl)⟩
  · subst e_2
    refine j_astore_n (lo' := [(3, _), (0, _), (1, _), (2, _)]) dX8_stop_5 rfl (by decide) rfl ?_
    refine j_iload_n dX8_stop_6 rfl ?_
    refine j_sipush (v := (-1000)) dX8_stop_7 (by decide) ?_
    refine j_ldc dX8_stop_10 kcX8_179 ?_
    refine j_callS dX8_stop_12 kX8_checkRange lX8_72 stX8_checkRange (c_X8_checkRange_e hl _ _ _ _) (Nat.le_of_ble_eq_true rfl) ⟨(Nat.le_of_ble_eq_true rfl), (Nat.le_of_ble_eq_true rfl)⟩ rfl (Nat.le_of_ble_eq_true rfl) rfl rfl (fun _ _ h => by obtain ⟨h1, rfl⟩ := h; exact ⟨rfl, rfl, Or.inr ⟨h1.1, sp_k22_2 (Or.inr rfl) h1.2⟩, rfl⟩) ?_
    rintro _ _ ⟨⟨rfl, hc12⟩, rfl⟩
    refine j_aload_n dX8_stop_15 rfl rfl ?_
    refine j_getf dX8_stop_16 fX8_180 rfl rfl ?_
    refine j_istore (lo' := [(4, _), (3, _), (0, _), (1, _), (2, _)]) dX8_stop_19 (by decide) rfl ?_
    refine j_aload_n dX8_stop_21 rfl rfl ?_
    refine j_iload_n dX8_stop_22 rfl ?_
    refine j_put (w' := (z_cw _ _ _ _ _ _ _ _ _ _ _ _ _ _ _ _ _ _ _ _ _ _ _ _ _ _ _ _ _ _ _ _ _ _ _ _ _ _ _ _ _ _ _ _ _ _ _ _ _ _ _ _ _ _ _ _ [], z_no)) dX8_stop_23 fX8_180 tX0_5 rfl ⟨rfl, rfl⟩ rfl ?_
    refine j_iload dX8_stop_26 rfl ?_
    refine j_iret dX8_stop_28 rfl rfl ?_ (Nat.le_of_ble_eq_true rfl) (Nat.le_of_ble_eq_true rfl)
    refine ⟨rfl, (by first | exact z_cwl | rfl), ?_⟩
    rw [sp_i1]
    exact ⟨sp_k22_0 (Or.inr rfl) hc12, rfl, (sp_CWe hra hrb ht0 ht1 ht2 he0 he1 hzm3 hzm4 hzm5 rfl)⟩
set_option maxRecDepth 100000 in
set_option maxHeartbeats 8000000 in
theorem c_X8_forget_p (hl : l.stackTraces = false) (S : sp_S) (fa : Nat → Int32) (fb : Nat → Int32) (mt : Int32) (ft : Nat → Int32) (ct : Nat → Int32) (f0 : Nat → Int32) (g0 : Nat → Int32) (f1 : Nat → Int32) (g1 : Nat → Int32) (c1 : Nat → Int32) (f2 : Nat → Int32) (g2 : Nat → Int32) (c2 : Nat → Int32) (f3 : Nat → Int32) (g3 : Nat → Int32) (c3 : Nat → Int32) (m3 : Int32) (f4 : Nat → Int32) (g4 : Nat → Int32) (c4 : Nat → Int32) (m4 : Int32) (f5 : Nat → Int32) (g5 : Nat → Int32) (c5 : Nat → Int32) (m5 : Int32) (ef0 : Nat → Int32) (ef1 : Nat → Int32) (g : Int32) (ok : sp_ok S) (hra : z_row 12 (nI (sp_R S 0).length) fa (sp_R S 0)) (hrb : z_row 12 (nI (sp_R S 1).length) fb (sp_R S 1)) (ht0 : z_tba f0 g0 (sp_T S 0)) (ht1 : z_tba f1 g1 (sp_T S 1)) (ht2 : z_tba f2 g2 (sp_T S 2)) (he0 : z_row 10 (nI (sp_E S 0).2.length) ef0 (sp_E S 0).2) (he1 : z_row 10 (nI (sp_E S 1).2.length) ef1 (sp_E S 1).2) (hzm3 : z_m20 m3) (hzm4 : z_m20 m4) (hzm5 : z_m20 m5) : z_CX G l mX8_forget 20 14 120 (z_cw S.1.1 S.1.2 (nI (sp_R S 0).length) (sp_F S 0) fa (sp_C S 0) (nI (sp_R S 1).length) (sp_F S 1) fb (sp_C S 1) mt false ft ct f0 g0 (sp_C S 2) (nI (sp_T S 0).length) 0 f1 g1 c1 (nI (sp_T S 1).length) 0 f2 g2 c2 (nI (sp_T S 2).length) 1 f3 g3 c3 m3 0 f4 g4 c4 m4 0 f5 g5 c5 m5 1 (nI (sp_E S 0).2.length) (sp_E S 0).1.2.1 (sp_E S 0).1.2.2.1 (sp_E S 0).1.2.2.2 (sp_E S 0).1.1 ef0 (nI (sp_E S 1).2.length) (sp_E S 1).1.2.1 (sp_E S 1).1.2.2.1 (sp_E S 1).1.2.2.2 (sp_E S 1).1.1 ef1 []) [.ref 0, .int g] (fun v L => q_k2 g = 0 ∧ v = some (.int ((sp_E S (sp_i g)).1.2.1)) ∧ sp_CW (sp_uE S (sp_i g) (sp_fgt (sp_E S (sp_i g)))) L) (fun E L => ((z_xI E ∧ q_k2 g = 1)) ∧ L = (z_cw S.1.1 S.1.2 (nI (sp_R S 0).length) (sp_F S 0) fa (sp_C S 0) (nI (sp_R S 1).length) (sp_F S 1) fb (sp_C S 1) mt false ft ct f0 g0 (sp_C S 2) (nI (sp_T S 0).length) 0 f1 g1 c1 (nI (sp_T S 1).length) 0 f2 g2 c2 (nI (sp_T S 2).length) 1 f3 g3 c3 m3 0 f4 g4 c4 m4 0 f5 g5 c5 m5 1 (nI (sp_E S 0).2.length) (sp_E S 0).1.2.1 (sp_E S 0).1.2.2.1 (sp_E S 0).1.2.2.2 (sp_E S 0).1.1 ef0 (nI (sp_E S 1).2.length) (sp_E S 1).1.2.1 (sp_E S 1).1.2.2.1 (sp_E S 1).1.2.2.2 (sp_E S 1).1.1 ef1 [])) := by
  refine z_body hl (by decide) rfl (Nat.le_of_ble_eq_true rfl) ?_
  show z_J G l mX8_forget (z_SX 20 14 120 (z_cw S.1.1 S.1.2 (nI (sp_R S 0).length) (sp_F S 0) fa (sp_C S 0) (nI (sp_R S 1).length) (sp_F S 1) fb (sp_C S 1) mt false ft ct f0 g0 (sp_C S 2) (nI (sp_T S 0).length) 0 f1 g1 c1 (nI (sp_T S 1).length) 0 f2 g2 c2 (nI (sp_T S 2).length) 1 f3 g3 c3 m3 0 f4 g4 c4 m4 0 f5 g5 c5 m5 1 (nI (sp_E S 0).2.length) (sp_E S 0).1.2.1 (sp_E S 0).1.2.2.1 (sp_E S 0).1.2.2.2 (sp_E S 0).1.1 ef0 (nI (sp_E S 1).2.length) (sp_E S 1).1.2.1 (sp_E S 1).1.2.2.1 (sp_E S 1).1.2.2.2 (sp_E S 1).1.1 ef1 []) (fun v L => q_k2 g = 0 ∧ v = some (.int ((sp_E S (sp_i g)).1.2.1)) ∧ sp_CW (sp_uE S (sp_i g) (sp_fgt (sp_E S (sp_i g)))) L) (fun E L => ((z_xI E ∧ q_k2 g = 1)) ∧ L = (z_cw S.1.1 S.1.2 (nI (sp_R S 0).length) (sp_F S 0) fa (sp_C S 0) (nI (sp_R S 1).length) (sp_F S 1) fb (sp_C S 1) mt false ft ct f0 g0 (sp_C S 2) (nI (sp_T S 0).length) 0 f1 g1 c1 (nI (sp_T S 1).length) 0 f2 g2 c2 (nI (sp_T S 2).length) 1 f3 g3 c3 m3 0 f4 g4 c4 m4 0 f5 g5 c5 m5 1 (nI (sp_E S 0).2.length) (sp_E S 0).1.2.1 (sp_E S 0).1.2.2.1 (sp_E S 0).1.2.2.2 (sp_E S 0).1.1 ef0 (nI (sp_E S 1).2.length) (sp_E S 1).1.2.1 (sp_E S 1).1.2.2.1 (sp_E S 1).1.2.2.2 (sp_E S 1).1.1 ef1 []))) 0 [(0, _), (1, _)] [] _ 0 0
  refine j_aload_n dX8_forget_0 rfl rfl ?_
  refine j_iload_n dX8_forget_1 rfl ?_
  refine j_callV (q := (RX8, TX8, 9)) dX8_forget_2 kX8_hearerFor lX8_87 inX8_hearerFor seX8_hearerFor rfl rfl (z_dirX (c_X8_hearerFor_e hl _ _ _ _ _ _ _ _ _ _ _ _ _ _ _ _ _ _ _ _ _ _ _ _ _ _ _ _ _ _ _ _ _ _ _ _ _ _ _ _ _ _ _ _ _ _ _ _ _ _ _ _ _ _ _ _ _)) (Nat.le_of_ble_eq_true rfl) ⟨(Nat.le_of_ble_eq_true rfl), (Nat.le_of_ble_eq_true rfl)⟩ rfl (Nat.le_of_ble_eq_true rfl) rfl rfl (fun _ _ h => by obtain ⟨_, ⟨h1, rfl⟩, rfl⟩ := h; exact ⟨rfl, rfl, ⟨h1.1, sp_k2_1 h1.2⟩, rfl⟩) ?_
  rintro _ _ ⟨_, ⟨_, rfl, hr, rfl⟩, rfl⟩
  rcases hr with ⟨e_2, rfl⟩ | ⟨e_2, rfl⟩
  · subst e_2
    refine j_astore_n (lo' := [(2, _), (0, _), (1, _)]) dX8_forget_5 rfl (by decide) rfl ?_
    refine j_aload_n dX8_forget_6 rfl rfl ?_
    refine j_getf dX8_forget_7 fX8_183 rfl rfl ?_
    refine j_istore_n (lo' := [(3, _), (2, _), (0, _), (1, _)]) dX8_forget_10 (by decide) rfl ?_
    refine j_aload_n dX8_forget_11 rfl rfl ?_
    refine j_callV (q := (RX0, TX0, 6)) dX8_forget_12 kX0_beginAnew lX8_184 inX0_beginAnew seX0_beginAnew rfl rfl (z_frame [27, 28] rfl (by decide) (Nat.le_of_ble_eq_true rfl) (c_X0_beginAnew_e hl (sp_E S 0) _)) (Nat.le_of_ble_eq_true rfl) ⟨(Nat.le_of_ble_eq_true rfl), (Nat.le_of_ble_eq_true rfl)⟩ rfl (Nat.le_of_ble_eq_true rfl) rfl rfl (fun _ _ h => h.elim) ?_
    rintro _ _ ⟨_, _, ⟨rfl, rfl⟩, rfl, rfl⟩
    refine j_ws (L' := z_cw _ _ _ _ _ _ _ _ _ _ _ _ _ _ _ _ _ _ _ _ _ _ _ _ _ _ _ _ _ _ _ _ _ _ _ _ _ _ _ _ _ _ _ _ _ _ _ _ _ _ _ _ _ _ _ _ []) (by decide) rfl rfl ?_
    refine j_iload_n dX8_forget_15 rfl ?_
    refine j_iret dX8_forget_16 rfl rfl ?_ (Nat.le_of_ble_eq_true rfl) (Nat.le_of_ble_eq_true rfl)
    refine ⟨rfl, (by first | exact z_cwl | rfl), ?_⟩
    rw [sp_i0]
    exact ⟨sp_k2_0 (Or.inl rfl), rfl, (sp_CWe hra hrb ht0 ht1 ht2 z_row.nil he1 hzm3 hzm4 hzm5 rfl)⟩
  · subst e_2
    refine j_astore_n (lo' := [(2, _), (0, _), (1, _)]) dX8_forget_5 rfl (by decide) rfl ?_
    refine j_aload_n dX8_forget_6 rfl rfl ?_
    refine j_getf dX8_forget_7 fX8_183 rfl rfl ?_
    refine j_istore_n (lo' := [(3, _), (2, _), (0, _), (1, _)]) dX8_forget_10 (by decide) rfl ?_
    refine j_aload_n dX8_forget_11 rfl rfl ?_
    refine j_callV (q := (RX0, TX0, 6)) dX8_forget_12 kX0_beginAnew lX8_184 inX0_beginAnew seX0_beginAnew rfl rfl (z_frame [29, 30] rfl (by decide) (Nat.le_of_ble_eq_true rfl) (c_X0_beginAnew_e hl (sp_E S 1) _)) (Nat.le_of_ble_eq_true rfl) ⟨(Nat.le_of_ble_eq_true rfl), (Nat.le_of_ble_eq_true rfl)⟩ rfl (Nat.le_of_ble_eq_true rfl) rfl rfl (fun _ _ h => h.elim) ?_
    rintro _ _ ⟨_, _, ⟨rfl, rfl⟩, rfl, rfl⟩
    refine j_ws (L' := z_cw _ _ _ _ _ _ _ _ _ _ _ _ _ _ _ _ _ _ _ _ _ _ _ _ _ _ _ _ _ _ _ _ _ _ _ _ _ _ _ _ _ _ _ _ _ _ _ _ _ _ _ _ _ _ _ _ []) (by decide) rfl rfl ?_
    refine j_iload_n dX8_forget_15 rfl ?_
    refine j_iret dX8_forget_16 rfl rfl ?_ (Nat.le_of_ble_eq_true rfl) (Nat.le_of_ble_eq_true rfl)
    refine ⟨rfl, (by first | exact z_cwl | rfl), ?_⟩
    rw [sp_i1]
    exact ⟨sp_k2_0 (Or.inr rfl), rfl, (sp_CWe hra hrb ht0 ht1 ht2 he0 z_row.nil hzm3 hzm4 hzm5 rfl)⟩
set_option maxRecDepth 100000 in
set_option maxHeartbeats 8000000 in
theorem c_X8_heard_p (hl : l.stackTraces = false) (S : sp_S) (fa : Nat → Int32) (fb : Nat → Int32) (mt : Int32) (ft : Nat → Int32) (ct : Nat → Int32) (f0 : Nat → Int32) (g0 : Nat → Int32) (f1 : Nat → Int32) (g1 : Nat → Int32) (c1 : Nat → Int32) (f2 : Nat → Int32) (g2 : Nat → Int32) (c2 : Nat → Int32) (f3 : Nat → Int32) (g3 : Nat → Int32) (c3 : Nat → Int32) (m3 : Int32) (f4 : Nat → Int32) (g4 : Nat → Int32) (c4 : Nat → Int32) (m4 : Int32) (f5 : Nat → Int32) (g5 : Nat → Int32) (c5 : Nat → Int32) (m5 : Int32) (ef0 : Nat → Int32) (ef1 : Nat → Int32) (g : Int32) (w : Int32) (ok : sp_ok S) (hra : z_row 12 (nI (sp_R S 0).length) fa (sp_R S 0)) (hrb : z_row 12 (nI (sp_R S 1).length) fb (sp_R S 1)) (ht0 : z_tba f0 g0 (sp_T S 0)) (ht1 : z_tba f1 g1 (sp_T S 1)) (ht2 : z_tba f2 g2 (sp_T S 2)) (he0 : z_row 10 (nI (sp_E S 0).2.length) ef0 (sp_E S 0).2) (he1 : z_row 10 (nI (sp_E S 1).2.length) ef1 (sp_E S 1).2) (hzm3 : z_m20 m3) (hzm4 : z_m20 m4) (hzm5 : z_m20 m5) : z_CX G l mX8_heard 20 14 120 (z_cw S.1.1 S.1.2 (nI (sp_R S 0).length) (sp_F S 0) fa (sp_C S 0) (nI (sp_R S 1).length) (sp_F S 1) fb (sp_C S 1) mt false ft ct f0 g0 (sp_C S 2) (nI (sp_T S 0).length) 0 f1 g1 c1 (nI (sp_T S 1).length) 0 f2 g2 c2 (nI (sp_T S 2).length) 1 f3 g3 c3 m3 0 f4 g4 c4 m4 0 f5 g5 c5 m5 1 (nI (sp_E S 0).2.length) (sp_E S 0).1.2.1 (sp_E S 0).1.2.2.1 (sp_E S 0).1.2.2.2 (sp_E S 0).1.1 ef0 (nI (sp_E S 1).2.length) (sp_E S 1).1.2.1 (sp_E S 1).1.2.2.1 (sp_E S 1).1.2.2.2 (sp_E S 1).1.1 ef1 []) [.ref 0, .int g, .int w] (fun v L => q_k22 g (w < 0 ∨ 3 < w) = 0 ∧ v = some (.int (sp_tel (sp_E S (sp_i g)) w)) ∧ sp_CW (S) L) (fun E L => ((z_xI E ∧ q_k22 g (w < 0 ∨ 3 < w) = 1) ∨ (z_xA E ∧ q_k22 g (w < 0 ∨ 3 < w) = 2)) ∧ L = (z_cw S.1.1 S.1.2 (nI (sp_R S 0).length) (sp_F S 0) fa (sp_C S 0) (nI (sp_R S 1).length) (sp_F S 1) fb (sp_C S 1) mt false ft ct f0 g0 (sp_C S 2) (nI (sp_T S 0).length) 0 f1 g1 c1 (nI (sp_T S 1).length) 0 f2 g2 c2 (nI (sp_T S 2).length) 1 f3 g3 c3 m3 0 f4 g4 c4 m4 0 f5 g5 c5 m5 1 (nI (sp_E S 0).2.length) (sp_E S 0).1.2.1 (sp_E S 0).1.2.2.1 (sp_E S 0).1.2.2.2 (sp_E S 0).1.1 ef0 (nI (sp_E S 1).2.length) (sp_E S 1).1.2.1 (sp_E S 1).1.2.2.1 (sp_E S 1).1.2.2.2 (sp_E S 1).1.1 ef1 [])) := by
  refine z_body hl (by decide) rfl (Nat.le_of_ble_eq_true rfl) ?_
  show z_J G l mX8_heard (z_SX 20 14 120 (z_cw S.1.1 S.1.2 (nI (sp_R S 0).length) (sp_F S 0) fa (sp_C S 0) (nI (sp_R S 1).length) (sp_F S 1) fb (sp_C S 1) mt false ft ct f0 g0 (sp_C S 2) (nI (sp_T S 0).length) 0 f1 g1 c1 (nI (sp_T S 1).length) 0 f2 g2 c2 (nI (sp_T S 2).length) 1 f3 g3 c3 m3 0 f4 g4 c4 m4 0 f5 g5 c5 m5 1 (nI (sp_E S 0).2.length) (sp_E S 0).1.2.1 (sp_E S 0).1.2.2.1 (sp_E S 0).1.2.2.2 (sp_E S 0).1.1 ef0 (nI (sp_E S 1).2.length) (sp_E S 1).1.2.1 (sp_E S 1).1.2.2.1 (sp_E S 1).1.2.2.2 (sp_E S 1).1.1 ef1 []) (fun v L => q_k22 g (w < 0 ∨ 3 < w) = 0 ∧ v = some (.int (sp_tel (sp_E S (sp_i g)) w)) ∧ sp_CW (S) L) (fun E L => ((z_xI E ∧ q_k22 g (w < 0 ∨ 3 < w) = 1) ∨ (z_xA E ∧ q_k22 g (w < 0 ∨ 3 < w) = 2)) ∧ L = (z_cw S.1.1 S.1.2 (nI (sp_R S 0).length) (sp_F S 0) fa (sp_C S 0) (nI (sp_R S 1).length) (sp_F S 1) fb (sp_C S 1) mt false ft ct f0 g0 (sp_C S 2) (nI (sp_T S 0).length) 0 f1 g1 c1 (nI (sp_T S 1).length) 0 f2 g2 c2 (nI (sp_T S 2).length) 1 f3 g3 c3 m3 0 f4 g4 c4 m4 0 f5 g5 c5 m5 1 (nI (sp_E S 0).2.length) (sp_E S 0).1.2.1 (sp_E S 0).1.2.2.1 (sp_E S 0).1.2.2.2 (sp_E S 0).1.1 ef0 (nI (sp_E S 1).2.length) (sp_E S 1).1.2.1 (sp_E S 1).1.2.2.1 (sp_E S 1).1.2.2.2 (sp_E S 1).1.1 ef1 []))) 0 [(0, _), (1, _), (2, _)] [] _ 0 0
  refine j_aload_n dX8_heard_0 rfl rfl ?_
  refine j_iload_n dX8_heard_1 rfl ?_
  refine j_callV (q := (RX8, TX8, 9)) dX8_heard_2 kX8_hearerFor lX8_87 inX8_hearerFor seX8_hearerFor rfl rfl (z_dirX (c_X8_hearerFor_e hl _ _ _ _ _ _ _ _ _ _ _ _ _ _ _ _ _ _ _ _ _ _ _ _ _ _ _ _ _ _ _ _ _ _ _ _ _ _ _ _ _ _ _ _ _ _ _ _ _ _ _ _ _ _ _ _ _)) (Nat.le_of_ble_eq_true rfl) ⟨(Nat.le_of_ble_eq_true rfl), (Nat.le_of_ble_eq_true rfl)⟩ rfl (Nat.le_of_ble_eq_true rfl) rfl rfl (fun _ _ h => by obtain ⟨_, ⟨h1, rfl⟩, rfl⟩ := h; exact ⟨rfl, rfl, Or.inl ⟨h1.1, sp_k22_1 h1.2⟩, rfl⟩) ?_
  rintro _ _ ⟨_, ⟨_, rfl, hr, rfl⟩, rfl⟩
  rcases hr with ⟨e_2, rfl⟩ | ⟨e_2, rfl⟩
  · subst e_2
    refine j_astore_n (lo' := [(3, _), (0, _), (1, _), (2, _)]) dX8_heard_5 rfl (by decide) rfl ?_
    refine j_iload_n dX8_heard_6 rfl ?_
    refine j_iconst (v := 0) dX8_heard_7 (by decide) ?_
    refine j_iconst (v := 3) dX8_heard_8 (by decide) ?_
    refine j_callS dX8_heard_9 kX8_checkRange lX8_72 stX8_checkRange (c_X8_checkRange_e hl _ _ _ _) (Nat.le_of_ble_eq_true rfl) ⟨(Nat.le_of_ble_eq_true rfl), (Nat.le_of_ble_eq_true rfl)⟩ rfl (Nat.le_of_ble_eq_true rfl) rfl rfl (fun _ _ h => by obtain ⟨h1, rfl⟩ := h; exact ⟨rfl, rfl, Or.inr ⟨h1.1, sp_k22_2 (Or.inl rfl) h1.2⟩, rfl⟩) ?_
    rintro _ _ ⟨⟨rfl, hc9⟩, rfl⟩
    refine j_aload_n dX8_heard_12 rfl rfl ?_
    refine j_iload_n dX8_heard_13 rfl ?_
    refine j_callV (q := (RX0, TX0, 6)) dX8_heard_14 kX0_tells lX8_187 inX0_tells seX0_tells rfl rfl (z_frame [27, 28] rfl (by decide) (Nat.le_of_ble_eq_true rfl) (c_X0_tells_e hl (sp_E S 0) _ w)) (Nat.le_of_ble_eq_true rfl) ⟨(Nat.le_of_ble_eq_true rfl), (Nat.le_of_ble_eq_true rfl)⟩ rfl (Nat.le_of_ble_eq_true rfl) rfl rfl (fun _ _ h => h.elim) ?_
    rintro _ _ ⟨_, _, ⟨rfl, rfl⟩, rfl, rfl⟩
    refine j_ws (L' := z_cw _ _ _ _ _ _ _ _ _ _ _ _ _ _ _ _ _ _ _ _ _ _ _ _ _ _ _ _ _ _ _ _ _ _ _ _ _ _ _ _ _ _ _ _ _ _ _ _ _ _ _ _ _ _ _ _ []) (by decide) rfl rfl ?_
    refine j_iret dX8_heard_17 rfl rfl ?_ (Nat.le_of_ble_eq_true rfl) (Nat.le_of_ble_eq_true rfl)
    refine ⟨rfl, (by first | exact z_cwl | rfl), ?_⟩
    rw [sp_i0]
    exact ⟨sp_k22_0 (Or.inl rfl) hc9, rfl, (sp_CWe hra hrb ht0 ht1 ht2 he0 he1 hzm3 hzm4 hzm5 rfl)⟩
  · subst e_2
    refine j_astore_n (lo' := [(3, _), (0, _), (1, _), (2, _)]) dX8_heard_5 rfl (by decide) rfl ?_
    refine j_iload_n dX8_heard_6 rfl ?_
    refine j_iconst (v := 0) dX8_heard_7 (by decide) ?_
    refine j_iconst (v := 3) dX8_heard_8 (by decide) ?_
    refine j_callS dX8_heard_9 kX8_checkRange lX8_72 stX8_checkRange (c_X8_checkRange_e hl _ _ _ _) (Nat.le_of_ble_eq_true rfl) ⟨(Nat.le_of_ble_eq_true rfl), (Nat.le_of_ble_eq_true rfl)⟩ rfl (Nat.le_of_ble_eq_true rfl) rfl rfl (fun _ _ h => by obtain ⟨h1, rfl⟩ := h; exact ⟨rfl, rfl, Or.inr ⟨h1.1, sp_k22_2 (Or.inr rfl) h1.2⟩, rfl⟩) ?_
    rintro _ _ ⟨⟨rfl, hc9⟩, rfl⟩
    refine j_aload_n dX8_heard_12 rfl rfl ?_
    refine j_iload_n dX8_heard_13 rfl ?_
    refine j_callV (q := (RX0, TX0, 6)) dX8_heard_14 kX0_tells lX8_187 inX0_tells seX0_tells rfl rfl (z_frame [29, 30] rfl (by decide) (Nat.le_of_ble_eq_true rfl) (c_X0_tells_e hl (sp_E S 1) _ w)) (Nat.le_of_ble_eq_true rfl) ⟨(Nat.le_of_ble_eq_true rfl), (Nat.le_of_ble_eq_true rfl)⟩ rfl (Nat.le_of_ble_eq_true rfl) rfl rfl (fun _ _ h => h.elim) ?_
    rintro _ _ ⟨_, _, ⟨rfl, rfl⟩, rfl, rfl⟩
    refine j_ws (L' := z_cw _ _ _ _ _ _ _ _ _ _ _ _ _ _ _ _ _ _ _ _ _ _ _ _ _ _ _ _ _ _ _ _ _ _ _ _ _ _ _ _ _ _ _ _ _ _ _ _ _ _ _ _ _ _ _ _ []) (by decide) rfl rfl ?_
    refine j_iret dX8_heard_17 rfl rfl ?_ (Nat.le_of_ble_eq_true rfl) (Nat.le_of_ble_eq_true rfl)
    refine ⟨rfl, (by first | exact z_cwl | rfl), ?_⟩
    rw [sp_i1]
    exact ⟨sp_k22_0 (Or.inr rfl) hc9, rfl, (sp_CWe hra hrb ht0 ht1 ht2 he0 he1 hzm3 hzm4 hzm5 rfl)⟩
set_option maxRecDepth 100000 in
set_option maxHeartbeats 8000000 in
theorem c_X8_knock_p (hl : l.stackTraces = false) (S : sp_S) (fa : Nat → Int32) (fb : Nat → Int32) (mt : Int32) (ft : Nat → Int32) (ct : Nat → Int32) (f0 : Nat → Int32) (g0 : Nat → Int32) (f1 : Nat → Int32) (g1 : Nat → Int32) (c1 : Nat → Int32) (f2 : Nat → Int32) (g2 : Nat → Int32) (c2 : Nat → Int32) (f3 : Nat → Int32) (g3 : Nat → Int32) (c3 : Nat → Int32) (m3 : Int32) (f4 : Nat → Int32) (g4 : Nat → Int32) (c4 : Nat → Int32) (m4 : Int32) (f5 : Nat → Int32) (g5 : Nat → Int32) (c5 : Nat → Int32) (m5 : Int32) (ef0 : Nat → Int32) (ef1 : Nat → Int32)  (ok : sp_ok S) (hra : z_row 12 (nI (sp_R S 0).length) fa (sp_R S 0)) (hrb : z_row 12 (nI (sp_R S 1).length) fb (sp_R S 1)) (ht0 : z_tba f0 g0 (sp_T S 0)) (ht1 : z_tba f1 g1 (sp_T S 1)) (ht2 : z_tba f2 g2 (sp_T S 2)) (he0 : z_row 10 (nI (sp_E S 0).2.length) ef0 (sp_E S 0).2) (he1 : z_row 10 (nI (sp_E S 1).2.length) ef1 (sp_E S 1).2) (hzm3 : z_m20 m3) (hzm4 : z_m20 m4) (hzm5 : z_m20 m5) : z_CF G l mX8_knock 20 14 120 (z_cw S.1.1 S.1.2 (nI (sp_R S 0).length) (sp_F S 0) fa (sp_C S 0) (nI (sp_R S 1).length) (sp_F S 1) fb (sp_C S 1) mt false ft ct f0 g0 (sp_C S 2) (nI (sp_T S 0).length) 0 f1 g1 c1 (nI (sp_T S 1).length) 0 f2 g2 c2 (nI (sp_T S 2).length) 1 f3 g3 c3 m3 0 f4 g4 c4 m4 0 f5 g5 c5 m5 1 (nI (sp_E S 0).2.length) (sp_E S 0).1.2.1 (sp_E S 0).1.2.2.1 (sp_E S 0).1.2.2.2 (sp_E S 0).1.1 ef0 (nI (sp_E S 1).2.length) (sp_E S 1).1.2.1 (sp_E S 1).1.2.2.1 (sp_E S 1).1.2.2.2 (sp_E S 1).1.1 ef1 []) [.ref 0] (fun v L => v = some (.int (S.1.2 + 1)) ∧ sp_CW (sp_kno S) L) := by
  refine z_body hl (by decide) rfl (Nat.le_of_ble_eq_true rfl) ?_
  show z_J G l mX8_knock (z_SF 20 14 120 (z_cw S.1.1 S.1.2 (nI (sp_R S 0).length) (sp_F S 0) fa (sp_C S 0) (nI (sp_R S 1).length) (sp_F S 1) fb (sp_C S 1) mt false ft ct f0 g0 (sp_C S 2) (nI (sp_T S 0).length) 0 f1 g1 c1 (nI (sp_T S 1).length) 0 f2 g2 c2 (nI (sp_T S 2).length) 1 f3 g3 c3 m3 0 f4 g4 c4 m4 0 f5 g5 c5 m5 1 (nI (sp_E S 0).2.length) (sp_E S 0).1.2.1 (sp_E S 0).1.2.2.1 (sp_E S 0).1.2.2.2 (sp_E S 0).1.1 ef0 (nI (sp_E S 1).2.length) (sp_E S 1).1.2.1 (sp_E S 1).1.2.2.1 (sp_E S 1).1.2.2.2 (sp_E S 1).1.1 ef1 []) (fun v L => v = some (.int (S.1.2 + 1)) ∧ sp_CW (sp_kno S) L)) 0 [(0, _)] [] _ 0 0
  refine j_aload_n dX8_knock_0 rfl rfl ?_
  refine j_dup dX8_knock_1 rfl ?_
  refine j_getf dX8_knock_2 fX8_244 rfl rfl ?_
  refine j_iconst (v := 1) dX8_knock_5 (by decide) ?_
  refine j_iadd dX8_knock_6 ?_
  refine j_put (w' := (z_cw _ _ _ _ _ _ _ _ _ _ _ _ _ _ _ _ _ _ _ _ _ _ _ _ _ _ _ _ _ _ _ _ _ _ _ _ _ _ _ _ _ _ _ _ _ _ _ _ _ _ _ _ _ _ _ _ [], z_no)) dX8_knock_7 fX8_244 tX8_8 rfl ⟨rfl, rfl⟩ rfl ?_
  refine j_aload_n dX8_knock_10 rfl rfl ?_
  refine j_getf dX8_knock_11 fX8_244 rfl rfl ?_
  refine j_iret dX8_knock_14 rfl rfl ?_ (Nat.le_of_ble_eq_true rfl) (Nat.le_of_ble_eq_true rfl)
  exact ⟨rfl, (by first | exact z_cwl | rfl), rfl, (sp_CWe hra hrb ht0 ht1 ht2 he0 he1 hzm3 hzm4 hzm5 rfl)⟩
end ZCp2
end ZM3
section ZM4
section ZCp3
variable {G : z_G} {l : Launch}
theorem c_X4_reckonAbsent_c (hl : l.stackTraces = false) (c2 : Nat → Int32) (b : Bool) (f g c : Nat → Int32) (T : List (Nat × Int32)) (k : Nat) (r n : Int32) (ht : z_tba f g T) (hk : k < 20) (hn : z_vl n) : z_CF G l mX4_reckonAbsent 14 0 0 [.inr (9, [.int (z_bi b), .ref 1, .ref 2, .ref 3, .int (nI (T).length)]), z_ia 20 f, z_ia 20 g, .inr (11, [.ref 4]), z_ia 7 c] [.ref 0, .int (nI k), .int r, .int n] (fun v L => v = some (.int ((sp_cia b T c2 k r n).1.getD (-1001))) ∧ ∃ f' g' : Nat → Int32, z_tba f' g' (sp_cia b T c2 k r n).2.1 ∧ L = [.inr (9, [.int (z_bi b), .ref 1, .ref 2, .ref 3, .int (nI ((sp_cia b T c2 k r n).2.1).length)]), z_ia 20 f', z_ia 20 g', .inr (11, [.ref 4]), z_ia 7 (sp_cia b T c k r n).2.2]) := by
  rw [(sp_cia_c (c := c2) (c2 := c)).1, (sp_cia_c (c := c2) (c2 := c)).2]
  exact c_X4_reckonAbsent_e hl b f g c T k r n ht hk hn
theorem c_X4_reckonPresent_c (hl : l.stackTraces = false) (c2 : Nat → Int32) (b : Bool) (f g c : Nat → Int32) (T : List (Nat × Int32)) (k : Nat) (r n : Int32) (ht : z_tba f g T) (hk : k < 20) (hn : z_vl n) : z_CF G l mX4_reckonPresent 16 0 0 [.inr (9, [.int (z_bi b), .ref 1, .ref 2, .ref 3, .int (nI (T).length)]), z_ia 20 f, z_ia 20 g, .inr (11, [.ref 4]), z_ia 7 c] [.ref 0, .int (nI k), .int r, .int n] (fun v L => v = some (.int ((sp_cip b T c2 k r n).1.getD (-1001))) ∧ ∃ f' g' : Nat → Int32, z_tba f' g' (sp_cip b T c2 k r n).2.1 ∧ L = [.inr (9, [.int (z_bi b), .ref 1, .ref 2, .ref 3, .int (nI ((sp_cip b T c2 k r n).2.1).length)]), z_ia 20 f', z_ia 20 g', .inr (11, [.ref 4]), z_ia 7 (sp_cip b T c k r n).2.2]) := by
  rw [(sp_cip_c (c := c2) (c2 := c)).1, (sp_cip_c (c := c2) (c2 := c)).2]
  exact c_X4_reckonPresent_e hl b f g c T k r n ht hk hn
theorem c_X4_join_c (hl : l.stackTraces = false) (c2 : Nat → Int32) (b : Bool) (f g c : Nat → Int32) (T : List (Nat × Int32)) (k : Nat) (x r : Int32) (ht : z_tba f g T) (hk : k < 20) (hvl : z_vl x) : z_CF G l mX4_join 16 0 0 [.inr (9, [.int (z_bi b), .ref 1, .ref 2, .ref 3, .int (nI (T).length)]), z_ia 20 f, z_ia 20 g, .inr (11, [.ref 4]), z_ia 7 c] [.ref 0, .int (nI k), .int x, .int r] (fun v L => v = some (.int ((sp_mrg b T c2 k x r).1.getD (-1001))) ∧ ∃ f' g' : Nat → Int32, z_tba f' g' (sp_mrg b T c2 k x r).2.1 ∧ L = [.inr (9, [.int (z_bi b), .ref 1, .ref 2, .ref 3, .int (nI ((sp_mrg b T c2 k x r).2.1).length)]), z_ia 20 f', z_ia 20 g', .inr (11, [.ref 4]), z_ia 7 (sp_mrg b T c k x r).2.2]) := by
  rw [(sp_mrg_c (c := c2) (c2 := c)).1, (sp_mrg_c (c := c2) (c2 := c)).2]
  exact c_X4_join_e hl b f g c T k x r ht hk hvl
theorem c_X4_reckon_c (hl : l.stackTraces = false) (c2 : Nat → Int32) (b : Bool) (f g c : Nat → Int32) (T : List (Nat × Int32)) (k : Nat) (r n : Int32) (ht : z_tba f g T) (hk : k < 20) (hn : z_vl n) : z_CF G l mX4_reckon 14 0 0 [.inr (9, [.int (z_bi b), .ref 1, .ref 2, .ref 3, .int (nI (T).length)]), z_ia 20 f, z_ia 20 g, .inr (11, [.ref 4]), z_ia 7 c] [.ref 0, .int (nI k), .int r, .int n] (fun v L => v = some (.int ((sp_cmp b T c2 k r n).1.getD (-1001))) ∧ ∃ f' g' : Nat → Int32, z_tba f' g' (sp_cmp b T c2 k r n).2.1 ∧ L = [.inr (9, [.int (z_bi b), .ref 1, .ref 2, .ref 3, .int (nI ((sp_cmp b T c2 k r n).2.1).length)]), z_ia 20 f', z_ia 20 g', .inr (11, [.ref 4]), z_ia 7 (sp_bec b T c k (q_rt r (nI k) (q_d (sp_lk T k)) n)).2.2]) := by
  rw [show sp_cmp b T c2 k r n = sp_bec b T c2 k (q_rt r (nI k) (q_d (sp_lk T k)) n) from rfl, (sp_bec_c (c := c2) (c2 := c)).1, (sp_bec_c (c := c2) (c2 := c)).2]
  exact c_X4_reckon_e hl b f g c T k r n ht hk hn
theorem c_X8_hearOut_X5_c (hl : l.stackTraces = false) (c2 : Nat → Int32) (k u : Int32) (b : Bool) (f g c : Nat → Int32) (M : Nat) (T : List (Nat × Int32)) (h : sp_H) (ef : Nat → Int32) (ht : z_tba f g T) (hM : M = T.length) (he : z_row 10 (nI h.2.length) ef h.2) : z_CF G l mX8_hearOut 15 0 0 [.inr (10, [.ref 4, .int k, .int u, .ref 1, .int (nI 0)]), .inr (9, [.int (z_bi b), .ref 2, .ref 3, .ref 4, .int (nI M)]), z_ia 20 f, z_ia 20 g, .inr (11, [.ref 5]), z_ia 7 c, .inr (5, [.ref 7, .int (nI h.2.length), .int h.1.2.1, .int h.1.2.2.1, .int h.1.2.2.2, .int h.1.1]), z_ia 10 ef] [.ref 0, .ref 6] (fun v L => v = some (.int (((sp_ho c2 h 0 (sp_prs T)).1.map nI).getD (-1001))) ∧ ∃ (k' : Int32) (u' : Int32) (p' : Int32) (ef' : Nat → Int32), z_row 10 (nI (sp_ho c2 h 0 (sp_prs T)).2.2.2.length) ef' (sp_ho c2 h 0 (sp_prs T)).2.2.2 ∧ L = [.inr (10, [.ref 4, .int k', .int u', .ref 1, .int p']), .inr (9, [.int (z_bi b), .ref 2, .ref 3, .ref 4, .int (nI M)]), z_ia 20 f, z_ia 20 g, .inr (11, [.ref 5]), z_ia 7 (sp_ho c h 0 (sp_prs T)).2.1, .inr (5, [.ref 7, .int (nI (sp_ho c2 h 0 (sp_prs T)).2.2.2.length), .int (sp_ho c2 h 0 (sp_prs T)).2.2.1.2.1, .int (sp_ho c2 h 0 (sp_prs T)).2.2.1.2.2.1, .int (sp_ho c2 h 0 (sp_prs T)).2.2.1.2.2.2, .int (sp_ho c2 h 0 (sp_prs T)).2.2.1.1]), z_ia 10 ef']) := by
  rw [(sp_hoc (sp_prs T) c2 c h 0).1, (sp_hoc (sp_prs T) c2 c h 0).2]
  exact c_X8_hearOut_X5_e hl k u b f g c M T h ef ht hM he
theorem c_X8_changeEach_X5_c (hl : l.stackTraces = false) (c2 : Nat → Int32) (k u : Int32) (b : Bool) (f g c : Nat → Int32) (M : Nat) (T : List (Nat × Int32)) (r n : Int32) (ht : z_tba f g T) (hM : M = T.length) (hr2n : ¬ r = 2) (hr3n : ¬ r = 3) (hn : z_vl n) : z_CF G l mX8_changeEach 15 0 0 [.inr (10, [.ref 4, .int k, .int u, .ref 1, .int (nI 0)]), .inr (9, [.int (z_bi b), .ref 2, .ref 3, .ref 4, .int (nI M)]), z_ia 20 f, z_ia 20 g, .inr (11, [.ref 5]), z_ia 7 c] [.ref 0, .int r, .int n] (fun v L => v = some (.int (z_bi (sp_rt r n c2 [] T).1)) ∧ ∃ (k' u' p' : Int32) (f' : Nat → Int32), z_tba f' g (sp_rt r n c2 [] T).2.2 ∧ L = [.inr (10, [.ref 4, .int k', .int u', .ref 1, .int p']), .inr (9, [.int (z_bi b), .ref 2, .ref 3, .ref 4, .int (nI (sp_rt r n c2 [] T).2.2.length)]), z_ia 20 f', z_ia 20 g, .inr (11, [.ref 5]), z_ia 7 (sp_rt r n c [] T).2.1]) := by
  rw [(sp_rtc T [] r n c2 c).1, (sp_rtc T [] r n c2 c).2]
  exact c_X8_changeEach_X5_e hl k u b f g c M T r n ht hM hr2n hr3n hn
theorem c_X8_hearOut_X3_c (hl : l.stackTraces = false) (c2 : Nat → Int32) (k u t b a : Int32) (c : Nat → Int32) (j : Nat) (h : sp_H) (ef : Nat → Int32) (hav : z_vl a) (htv : z_vl t) (hbv : 1 ≤ b ∧ b ≤ 99) (h40 : z_mny a t b ≤ 40) (hm40 : (z_mny a t b).toNatClampNeg ≤ 40) (hj : j ≤ (z_mny a t b).toNatClampNeg) (he : z_row 10 (nI h.2.length) ef h.2) : z_CF G l mX8_hearOut 15 0 0 [.inr (8, [.ref 1, .int k, .int u, .int t, .int b, .int (a + nI j * b)]), .inr (11, [.ref 2]), z_ia 7 c, .inr (5, [.ref 4, .int (nI h.2.length), .int h.1.2.1, .int h.1.2.2.1, .int h.1.2.2.2, .int h.1.1]), z_ia 10 ef] [.ref 0, .ref 3] (fun v L => v = some (.int (((sp_ho c2 h 0 (sp_spn a b j ((z_mny a t b).toNatClampNeg - j))).1.map nI).getD (-1001))) ∧ ∃ (u' : Int32) (a' : Int32) (ef' : Nat → Int32), z_row 10 (nI (sp_ho c2 h 0 (sp_spn a b j ((z_mny a t b).toNatClampNeg - j))).2.2.2.length) ef' (sp_ho c2 h 0 (sp_spn a b j ((z_mny a t b).toNatClampNeg - j))).2.2.2 ∧ L = [.inr (8, [.ref 1, .int k, .int u', .int t, .int b, .int a']), .inr (11, [.ref 2]), z_ia 7 (sp_ho c h 0 (sp_spn a b j ((z_mny a t b).toNatClampNeg - j))).2.1, .inr (5, [.ref 4, .int (nI (sp_ho c2 h 0 (sp_spn a b j ((z_mny a t b).toNatClampNeg - j))).2.2.2.length), .int (sp_ho c2 h 0 (sp_spn a b j ((z_mny a t b).toNatClampNeg - j))).2.2.1.2.1, .int (sp_ho c2 h 0 (sp_spn a b j ((z_mny a t b).toNatClampNeg - j))).2.2.1.2.2.1, .int (sp_ho c2 h 0 (sp_spn a b j ((z_mny a t b).toNatClampNeg - j))).2.2.1.2.2.2, .int (sp_ho c2 h 0 (sp_spn a b j ((z_mny a t b).toNatClampNeg - j))).2.2.1.1]), z_ia 10 ef']) := by
  rw [(sp_hoc (sp_spn a b j ((z_mny a t b).toNatClampNeg - j)) c2 c h 0).1, (sp_hoc (sp_spn a b j ((z_mny a t b).toNatClampNeg - j)) c2 c h 0).2]
  exact c_X8_hearOut_X3_e hl k u t b a c j h ef hav htv hbv h40 hm40 hj he
set_option maxRecDepth 100000 in
set_option maxHeartbeats 8000000 in
theorem c_X8_put_p (hl : l.stackTraces = false) (S : sp_S) (fa : Nat → Int32) (fb : Nat → Int32) (mt : Int32) (ft : Nat → Int32) (ct : Nat → Int32) (f0 : Nat → Int32) (g0 : Nat → Int32) (f1 : Nat → Int32) (g1 : Nat → Int32) (c1 : Nat → Int32) (f2 : Nat → Int32) (g2 : Nat → Int32) (c2 : Nat → Int32) (f3 : Nat → Int32) (g3 : Nat → Int32) (c3 : Nat → Int32) (m3 : Int32) (f4 : Nat → Int32) (g4 : Nat → Int32) (c4 : Nat → Int32) (m4 : Int32) (f5 : Nat → Int32) (g5 : Nat → Int32) (c5 : Nat → Int32) (m5 : Int32) (ef0 : Nat → Int32) (ef1 : Nat → Int32) (t : Int32) (k : Int32) (y : Int32) (ok : sp_ok S) (hra : z_row 12 (nI (sp_R S 0).length) fa (sp_R S 0)) (hrb : z_row 12 (nI (sp_R S 1).length) fb (sp_R S 1)) (ht0 : z_tba f0 g0 (sp_T S 0)) (ht1 : z_tba f1 g1 (sp_T S 1)) (ht2 : z_tba f2 g2 (sp_T S 2)) (he0 : z_row 10 (nI (sp_E S 0).2.length) ef0 (sp_E S 0).2) (he1 : z_row 10 (nI (sp_E S 1).2.length) ef1 (sp_E S 1).2) (hzm3 : z_m20 m3) (hzm4 : z_m20 m4) (hzm5 : z_m20 m5) : z_CX G l mX8_put 20 14 120 (z_cw S.1.1 S.1.2 (nI (sp_R S 0).length) (sp_F S 0) fa (sp_C S 0) (nI (sp_R S 1).length) (sp_F S 1) fb (sp_C S 1) mt false ft ct f0 g0 (sp_C S 2) (nI (sp_T S 0).length) 0 f1 g1 c1 (nI (sp_T S 1).length) 0 f2 g2 c2 (nI (sp_T S 2).length) 1 f3 g3 c3 m3 0 f4 g4 c4 m4 0 f5 g5 c5 m5 1 (nI (sp_E S 0).2.length) (sp_E S 0).1.2.1 (sp_E S 0).1.2.2.1 (sp_E S 0).1.2.2.2 (sp_E S 0).1.1 ef0 (nI (sp_E S 1).2.length) (sp_E S 1).1.2.1 (sp_E S 1).1.2.2.1 (sp_E S 1).1.2.2.2 (sp_E S 1).1.1 ef1 []) [.ref 0, .int t, .int k, .int y] (fun v L => sp_k32 t (sp_bk k ∨ sp_bv y) = 0 ∧ v = some (.int ((sp_put (sp_srt (sp_i t)) (sp_T S (sp_i t)) (sp_C S 2) (sp_i k) y).1.getD (-9))) ∧ sp_CW (sp_tb S (sp_i t) (sp_put (sp_srt (sp_i t)) (sp_T S (sp_i t)) (sp_C S 2) (sp_i k) y)) L) (fun E L => ((z_xI E ∧ sp_k32 t (sp_bk k ∨ sp_bv y) = 1) ∨ (z_xA E ∧ sp_k32 t (sp_bk k ∨ sp_bv y) = 2)) ∧ L = (z_cw S.1.1 S.1.2 (nI (sp_R S 0).length) (sp_F S 0) fa (sp_C S 0) (nI (sp_R S 1).length) (sp_F S 1) fb (sp_C S 1) mt false ft ct f0 g0 (sp_C S 2) (nI (sp_T S 0).length) 0 f1 g1 c1 (nI (sp_T S 1).length) 0 f2 g2 c2 (nI (sp_T S 2).length) 1 f3 g3 c3 m3 0 f4 g4 c4 m4 0 f5 g5 c5 m5 1 (nI (sp_E S 0).2.length) (sp_E S 0).1.2.1 (sp_E S 0).1.2.2.1 (sp_E S 0).1.2.2.2 (sp_E S 0).1.1 ef0 (nI (sp_E S 1).2.length) (sp_E S 1).1.2.1 (sp_E S 1).1.2.2.1 (sp_E S 1).1.2.2.2 (sp_E S 1).1.1 ef1 [])) := by
  refine z_body hl (by decide) rfl (Nat.le_of_ble_eq_true rfl) ?_
  show z_J G l mX8_put (z_SX 20 14 120 (z_cw S.1.1 S.1.2 (nI (sp_R S 0).length) (sp_F S 0) fa (sp_C S 0) (nI (sp_R S 1).length) (sp_F S 1) fb (sp_C S 1) mt false ft ct f0 g0 (sp_C S 2) (nI (sp_T S 0).length) 0 f1 g1 c1 (nI (sp_T S 1).length) 0 f2 g2 c2 (nI (sp_T S 2).length) 1 f3 g3 c3 m3 0 f4 g4 c4 m4 0 f5 g5 c5 m5 1 (nI (sp_E S 0).2.length) (sp_E S 0).1.2.1 (sp_E S 0).1.2.2.1 (sp_E S 0).1.2.2.2 (sp_E S 0).1.1 ef0 (nI (sp_E S 1).2.length) (sp_E S 1).1.2.1 (sp_E S 1).1.2.2.1 (sp_E S 1).1.2.2.2 (sp_E S 1).1.1 ef1 []) (fun v L => sp_k32 t (sp_bk k ∨ sp_bv y) = 0 ∧ v = some (.int ((sp_put (sp_srt (sp_i t)) (sp_T S (sp_i t)) (sp_C S 2) (sp_i k) y).1.getD (-9))) ∧ sp_CW (sp_tb S (sp_i t) (sp_put (sp_srt (sp_i t)) (sp_T S (sp_i t)) (sp_C S 2) (sp_i k) y)) L) (fun E L => ((z_xI E ∧ sp_k32 t (sp_bk k ∨ sp_bv y) = 1) ∨ (z_xA E ∧ sp_k32 t (sp_bk k ∨ sp_bv y) = 2)) ∧ L = (z_cw S.1.1 S.1.2 (nI (sp_R S 0).length) (sp_F S 0) fa (sp_C S 0) (nI (sp_R S 1).length) (sp_F S 1) fb (sp_C S 1) mt false ft ct f0 g0 (sp_C S 2) (nI (sp_T S 0).length) 0 f1 g1 c1 (nI (sp_T S 1).length) 0 f2 g2 c2 (nI (sp_T S 2).length) 1 f3 g3 c3 m3 0 f4 g4 c4 m4 0 f5 g5 c5 m5 1 (nI (sp_E S 0).2.length) (sp_E S 0).1.2.1 (sp_E S 0).1.2.2.1 (sp_E S 0).1.2.2.2 (sp_E S 0).1.1 ef0 (nI (sp_E S 1).2.length) (sp_E S 1).1.2.1 (sp_E S 1).1.2.2.1 (sp_E S 1).1.2.2.2 (sp_E S 1).1.1 ef1 []))) 0 [(0, _), (1, _), (2, _), (3, _)] [] _ 0 0
  refine j_aload_n dX8_put_0 rfl rfl ?_
  refine j_iload_n dX8_put_1 rfl ?_
  refine j_iload_n dX8_put_2 rfl ?_
  refine j_callV (q := (RX8, TX8, 9)) dX8_put_3 kX8_tableFor_ lX8_126 inX8_tableFor_ seX8_tableFor_ rfl rfl (z_dirX (c_X8_tableFor__e hl _ _ _ _ _ _ _ _ _ _ _ _ _ _ _ _ _ _ _ _ _ _ _ _ _ _ _ _ _ _ _ _ _ _ _ _ _ _ _ _ _ _ _ _ _ _ _ _ _ _ _ _ _ _ _ _ _ _)) (Nat.le_of_ble_eq_true rfl) ⟨(Nat.le_of_ble_eq_true rfl), (Nat.le_of_ble_eq_true rfl)⟩ rfl (Nat.le_of_ble_eq_true rfl) rfl rfl (fun _ _ h => by obtain ⟨_, ⟨h1, rfl⟩, rfl⟩ := h; exact ⟨rfl, rfl, h1.elim (fun z => Or.inl ⟨z.1, sp_k32_1 z.2⟩) (fun z => Or.inr ⟨z.1, sp_k32_2 z.2.1 (Or.inl (z.2.2))⟩), rfl⟩) ?_
  rintro _ _ ⟨_, ⟨_, rfl, hr, hk3, rfl⟩, rfl⟩
  have hk0 := hk3
  obtain ⟨q, hq, rfl⟩ := sp_nt (m := 19) rfl (by decide) hk0
  rcases hr with ⟨e_3, rfl⟩ | ⟨e_3, rfl⟩ | ⟨e_3, rfl⟩
  · subst e_3
    refine j_astore (lo' := [(4, _), (0, _), (1, _), (2, _), (3, _)]) dX8_put_6 rfl (by decide) rfl ?_
    refine j_iload_n dX8_put_8 rfl ?_
    refine j_callS dX8_put_9 kX8_checkValue lX8_50 stX8_checkValue (c_X8_checkValue_e hl _ _) (Nat.le_of_ble_eq_true rfl) ⟨(Nat.le_of_ble_eq_true rfl), (Nat.le_of_ble_eq_true rfl)⟩ rfl (Nat.le_of_ble_eq_true rfl) rfl rfl (fun _ _ h => by obtain ⟨h1, rfl⟩ := h; exact ⟨rfl, rfl, Or.inr ⟨h1.1, sp_k32_2 (Or.inl rfl) (Or.inr h1.2)⟩, rfl⟩) ?_
    rintro _ _ ⟨⟨rfl, hc9⟩, rfl⟩
    refine j_aload dX8_put_12 rfl rfl ?_
    refine j_iload_n dX8_put_14 rfl ?_
    refine j_iload_n dX8_put_15 rfl ?_
    refine j_callV (q := (RX4, TX4, 5)) dX8_put_16 kX4_store lX8_130 inX4_store seX4_store rfl rfl (z_frame [10, 11, 12, 13, 14] rfl (by decide) (Nat.le_of_ble_eq_true rfl) (c_X4_store_e hl false _ _ _ (sp_T S 0) q y ht0 (by omega) (sp_vl hc9))) (Nat.le_of_ble_eq_true rfl) ⟨(Nat.le_of_ble_eq_true rfl), (Nat.le_of_ble_eq_true rfl)⟩ rfl (Nat.le_of_ble_eq_true rfl) rfl rfl (fun _ _ h => h.elim) ?_
    rintro _ _ ⟨_, _, ⟨rfl, f9, g9, ht9, rfl⟩, rfl, rfl⟩
    refine j_ws (L' := z_cw _ _ _ _ _ _ _ _ _ _ _ _ _ _ _ _ _ _ _ _ _ _ _ _ _ _ _ _ _ _ _ _ _ _ _ _ _ _ _ _ _ _ _ _ _ _ _ _ _ _ _ _ _ _ _ _ []) (by decide) rfl rfl ?_
    refine j_iret dX8_put_19 rfl rfl ?_ (Nat.le_of_ble_eq_true rfl) (Nat.le_of_ble_eq_true rfl)
    refine ⟨rfl, (by first | exact z_cwl | rfl), ?_⟩
    rw [sp_i0, sp_in' (n := q) (by omega)]
    exact ⟨sp_k32_0 (Or.inl rfl) (fun z => z.elim hk0 hc9), rfl, (sp_CWe hra hrb ht9 ht1 ht2 he0 he1 hzm3 hzm4 hzm5 rfl)⟩
  · subst e_3
    refine j_astore (lo' := [(4, _), (0, _), (1, _), (2, _), (3, _)]) dX8_put_6 rfl (by decide) rfl ?_
    refine j_iload_n dX8_put_8 rfl ?_
    refine j_callS dX8_put_9 kX8_checkValue lX8_50 stX8_checkValue (c_X8_checkValue_e hl _ _) (Nat.le_of_ble_eq_true rfl) ⟨(Nat.le_of_ble_eq_true rfl), (Nat.le_of_ble_eq_true rfl)⟩ rfl (Nat.le_of_ble_eq_true rfl) rfl rfl (fun _ _ h => by obtain ⟨h1, rfl⟩ := h; exact ⟨rfl, rfl, Or.inr ⟨h1.1, sp_k32_2 (Or.inr (Or.inl rfl)) (Or.inr h1.2)⟩, rfl⟩) ?_
    rintro _ _ ⟨⟨rfl, hc9⟩, rfl⟩
    refine j_aload dX8_put_12 rfl rfl ?_
    refine j_iload_n dX8_put_14 rfl ?_
    refine j_iload_n dX8_put_15 rfl ?_
    refine j_callV (q := (RX4, TX4, 5)) dX8_put_16 kX4_store lX8_130 inX4_store seX4_store rfl rfl (z_frame [16, 17, 18, 19, 20] rfl (by decide) (Nat.le_of_ble_eq_true rfl) (c_X4_store_e hl false _ _ _ (sp_T S 1) q y ht1 (by omega) (sp_vl hc9))) (Nat.le_of_ble_eq_true rfl) ⟨(Nat.le_of_ble_eq_true rfl), (Nat.le_of_ble_eq_true rfl)⟩ rfl (Nat.le_of_ble_eq_true rfl) rfl rfl (fun _ _ h => h.elim) ?_
    rintro _ _ ⟨_, _, ⟨rfl, f9, g9, ht9, rfl⟩, rfl, rfl⟩
    refine j_ws (L' := z_cw _ _ _ _ _ _ _ _ _ _ _ _ _ _ _ _ _ _ _ _ _ _ _ _ _ _ _ _ _ _ _ _ _ _ _ _ _ _ _ _ _ _ _ _ _ _ _ _ _ _ _ _ _ _ _ _ []) (by decide) rfl rfl ?_
    refine j_iret dX8_put_19 rfl rfl ?_ (Nat.le_of_ble_eq_true rfl) (Nat.le_of_ble_eq_true rfl)
    refine ⟨rfl, (by first | exact z_cwl | rfl), ?_⟩
    rw [sp_i1, sp_in' (n := q) (by omega)]
    exact ⟨sp_k32_0 (Or.inr (Or.inl rfl)) (fun z => z.elim hk0 hc9), rfl, (sp_CWe hra hrb ht0 ht9 ht2 he0 he1 hzm3 hzm4 hzm5 rfl)⟩
  · subst e_3
    refine j_astore (lo' := [(4, _), (0, _), (1, _), (2, _), (3, _)]) dX8_put_6 rfl (by decide) rfl ?_
    refine j_iload_n dX8_put_8 rfl ?_
    refine j_callS dX8_put_9 kX8_checkValue lX8_50 stX8_checkValue (c_X8_checkValue_e hl _ _) (Nat.le_of_ble_eq_true rfl) ⟨(Nat.le_of_ble_eq_true rfl), (Nat.le_of_ble_eq_true rfl)⟩ rfl (Nat.le_of_ble_eq_true rfl) rfl rfl (fun _ _ h => by obtain ⟨h1, rfl⟩ := h; exact ⟨rfl, rfl, Or.inr ⟨h1.1, sp_k32_2 (Or.inr (Or.inr rfl)) (Or.inr h1.2)⟩, rfl⟩) ?_
    rintro _ _ ⟨⟨rfl, hc9⟩, rfl⟩
    refine j_aload dX8_put_12 rfl rfl ?_
    refine j_iload_n dX8_put_14 rfl ?_
    refine j_iload_n dX8_put_15 rfl ?_
    refine j_callV (q := (RX4, TX4, 5)) dX8_put_16 kX4_store lX8_130 inX4_store seX4_store rfl rfl (z_frame [21, 22, 23, 24, 25] rfl (by decide) (Nat.le_of_ble_eq_true rfl) (c_X4_store_e hl true _ _ _ (sp_T S 2) q y ht2 (by omega) (sp_vl hc9))) (Nat.le_of_ble_eq_true rfl) ⟨(Nat.le_of_ble_eq_true rfl), (Nat.le_of_ble_eq_true rfl)⟩ rfl (Nat.le_of_ble_eq_true rfl) rfl rfl (fun _ _ h => h.elim) ?_
    rintro _ _ ⟨_, _, ⟨rfl, f9, g9, ht9, rfl⟩, rfl, rfl⟩
    refine j_ws (L' := z_cw _ _ _ _ _ _ _ _ _ _ _ _ _ _ _ _ _ _ _ _ _ _ _ _ _ _ _ _ _ _ _ _ _ _ _ _ _ _ _ _ _ _ _ _ _ _ _ _ _ _ _ _ _ _ _ _ []) (by decide) rfl rfl ?_
    refine j_iret dX8_put_19 rfl rfl ?_ (Nat.le_of_ble_eq_true rfl) (Nat.le_of_ble_eq_true rfl)
    refine ⟨rfl, (by first | exact z_cwl | rfl), ?_⟩
    rw [sp_i2, sp_in' (n := q) (by omega)]
    exact ⟨sp_k32_0 (Or.inr (Or.inr rfl)) (fun z => z.elim hk0 hc9), rfl, (sp_CWe hra hrb ht0 ht1 ht9 he0 he1 hzm3 hzm4 hzm5 rfl)⟩
set_option maxRecDepth 100000 in
set_option maxHeartbeats 8000000 in
theorem c_X8_remove_p (hl : l.stackTraces = false) (S : sp_S) (fa : Nat → Int32) (fb : Nat → Int32) (mt : Int32) (ft : Nat → Int32) (ct : Nat → Int32) (f0 : Nat → Int32) (g0 : Nat → Int32) (f1 : Nat → Int32) (g1 : Nat → Int32) (c1 : Nat → Int32) (f2 : Nat → Int32) (g2 : Nat → Int32) (c2 : Nat → Int32) (f3 : Nat → Int32) (g3 : Nat → Int32) (c3 : Nat → Int32) (m3 : Int32) (f4 : Nat → Int32) (g4 : Nat → Int32) (c4 : Nat → Int32) (m4 : Int32) (f5 : Nat → Int32) (g5 : Nat → Int32) (c5 : Nat → Int32) (m5 : Int32) (ef0 : Nat → Int32) (ef1 : Nat → Int32) (t : Int32) (k : Int32) (ok : sp_ok S) (hra : z_row 12 (nI (sp_R S 0).length) fa (sp_R S 0)) (hrb : z_row 12 (nI (sp_R S 1).length) fb (sp_R S 1)) (ht0 : z_tba f0 g0 (sp_T S 0)) (ht1 : z_tba f1 g1 (sp_T S 1)) (ht2 : z_tba f2 g2 (sp_T S 2)) (he0 : z_row 10 (nI (sp_E S 0).2.length) ef0 (sp_E S 0).2) (he1 : z_row 10 (nI (sp_E S 1).2.length) ef1 (sp_E S 1).2) (hzm3 : z_m20 m3) (hzm4 : z_m20 m4) (hzm5 : z_m20 m5) : z_CX G l mX8_remove 20 14 120 (z_cw S.1.1 S.1.2 (nI (sp_R S 0).length) (sp_F S 0) fa (sp_C S 0) (nI (sp_R S 1).length) (sp_F S 1) fb (sp_C S 1) mt false ft ct f0 g0 (sp_C S 2) (nI (sp_T S 0).length) 0 f1 g1 c1 (nI (sp_T S 1).length) 0 f2 g2 c2 (nI (sp_T S 2).length) 1 f3 g3 c3 m3 0 f4 g4 c4 m4 0 f5 g5 c5 m5 1 (nI (sp_E S 0).2.length) (sp_E S 0).1.2.1 (sp_E S 0).1.2.2.1 (sp_E S 0).1.2.2.2 (sp_E S 0).1.1 ef0 (nI (sp_E S 1).2.length) (sp_E S 1).1.2.1 (sp_E S 1).1.2.2.1 (sp_E S 1).1.2.2.2 (sp_E S 1).1.1 ef1 []) [.ref 0, .int t, .int k] (fun v L => sp_k32 t (sp_bk k) = 0 ∧ v = some (.int ((sp_del (sp_T S (sp_i t)) (sp_C S 2) (sp_i k)).1.getD (-9))) ∧ sp_CW (sp_tb S (sp_i t) (sp_del (sp_T S (sp_i t)) (sp_C S 2) (sp_i k))) L) (fun E L => ((z_xI E ∧ sp_k32 t (sp_bk k) = 1) ∨ (z_xA E ∧ sp_k32 t (sp_bk k) = 2)) ∧ L = (z_cw S.1.1 S.1.2 (nI (sp_R S 0).length) (sp_F S 0) fa (sp_C S 0) (nI (sp_R S 1).length) (sp_F S 1) fb (sp_C S 1) mt false ft ct f0 g0 (sp_C S 2) (nI (sp_T S 0).length) 0 f1 g1 c1 (nI (sp_T S 1).length) 0 f2 g2 c2 (nI (sp_T S 2).length) 1 f3 g3 c3 m3 0 f4 g4 c4 m4 0 f5 g5 c5 m5 1 (nI (sp_E S 0).2.length) (sp_E S 0).1.2.1 (sp_E S 0).1.2.2.1 (sp_E S 0).1.2.2.2 (sp_E S 0).1.1 ef0 (nI (sp_E S 1).2.length) (sp_E S 1).1.2.1 (sp_E S 1).1.2.2.1 (sp_E S 1).1.2.2.2 (sp_E S 1).1.1 ef1 [])) := by
  refine z_body hl (by decide) rfl (Nat.le_of_ble_eq_true rfl) ?_
  show z_J G l mX8_remove (z_SX 20 14 120 (z_cw S.1.1 S.1.2 (nI (sp_R S 0).length) (sp_F S 0) fa (sp_C S 0) (nI (sp_R S 1).length) (sp_F S 1) fb (sp_C S 1) mt false ft ct f0 g0 (sp_C S 2) (nI (sp_T S 0).length) 0 f1 g1 c1 (nI (sp_T S 1).length) 0 f2 g2 c2 (nI (sp_T S 2).length) 1 f3 g3 c3 m3 0 f4 g4 c4 m4 0 f5 g5 c5 m5 1 (nI (sp_E S 0).2.length) (sp_E S 0).1.2.1 (sp_E S 0).1.2.2.1 (sp_E S 0).1.2.2.2 (sp_E S 0).1.1 ef0 (nI (sp_E S 1).2.length) (sp_E S 1).1.2.1 (sp_E S 1).1.2.2.1 (sp_E S 1).1.2.2.2 (sp_E S 1).1.1 ef1 []) (fun v L => sp_k32 t (sp_bk k) = 0 ∧ v = some (.int ((sp_del (sp_T S (sp_i t)) (sp_C S 2) (sp_i k)).1.getD (-9))) ∧ sp_CW (sp_tb S (sp_i t) (sp_del (sp_T S (sp_i t)) (sp_C S 2) (sp_i k))) L) (fun E L => ((z_xI E ∧ sp_k32 t (sp_bk k) = 1) ∨ (z_xA E ∧ sp_k32 t (sp_bk k) = 2)) ∧ L = (z_cw S.1.1 S.1.2 (nI (sp_R S 0).length) (sp_F S 0) fa (sp_C S 0) (nI (sp_R S 1).length) (sp_F S 1) fb (sp_C S 1) mt false ft ct f0 g0 (sp_C S 2) (nI (sp_T S 0).length) 0 f1 g1 c1 (nI (sp_T S 1).length) 0 f2 g2 c2 (nI (sp_T S 2).length) 1 f3 g3 c3 m3 0 f4 g4 c4 m4 0 f5 g5 c5 m5 1 (nI (sp_E S 0).2.length) (sp_E S 0).1.2.1 (sp_E S 0).1.2.2.1 (sp_E S 0).1.2.2.2 (sp_E S 0).1.1 ef0 (nI (sp_E S 1).2.length) (sp_E S 1).1.2.1 (sp_E S 1).1.2.2.1 (sp_E S 1).1.2.2.2 (sp_E S 1).1.1 ef1 []))) 0 [(0, _), (1, _), (2, _)] [] _ 0 0
  refine j_aload_n dX8_remove_0 rfl rfl ?_
  refine j_iload_n dX8_remove_1 rfl ?_
  refine j_iload_n dX8_remove_2 rfl ?_
  refine j_callV (q := (RX8, TX8, 9)) dX8_remove_3 kX8_tableFor_ lX8_126 inX8_tableFor_ seX8_tableFor_ rfl rfl (z_dirX (c_X8_tableFor__e hl _ _ _ _ _ _ _ _ _ _ _ _ _ _ _ _ _ _ _ _ _ _ _ _ _ _ _ _ _ _ _ _ _ _ _ _ _ _ _ _ _ _ _ _ _ _ _ _ _ _ _ _ _ _ _ _ _ _)) (Nat.le_of_ble_eq_true rfl) ⟨(Nat.le_of_ble_eq_true rfl), (Nat.le_of_ble_eq_true rfl)⟩ rfl (Nat.le_of_ble_eq_true rfl) rfl rfl (fun _ _ h => by obtain ⟨_, ⟨h1, rfl⟩, rfl⟩ := h; exact ⟨rfl, rfl, h1.elim (fun z => Or.inl ⟨z.1, sp_k32_1 z.2⟩) (fun z => Or.inr ⟨z.1, sp_k32_2 z.2.1 (z.2.2)⟩), rfl⟩) ?_
  rintro _ _ ⟨_, ⟨_, rfl, hr, hk3, rfl⟩, rfl⟩
  have hk0 := hk3
  obtain ⟨q, hq, rfl⟩ := sp_nt (m := 19) rfl (by decide) hk0
  rcases hr with ⟨e_3, rfl⟩ | ⟨e_3, rfl⟩ | ⟨e_3, rfl⟩
  · subst e_3
    refine j_iload_n dX8_remove_6 rfl ?_
    refine j_callV (q := (RX4, TX4, 5)) dX8_remove_7 kX4_sendAway lX8_134 inX4_sendAway seX4_sendAway rfl rfl (z_frame [10, 11, 12, 13, 14] rfl (by decide) (Nat.le_of_ble_eq_true rfl) (c_X4_sendAway_e hl false _ _ _ (sp_T S 0) q ht0 (by omega))) (Nat.le_of_ble_eq_true rfl) ⟨(Nat.le_of_ble_eq_true rfl), (Nat.le_of_ble_eq_true rfl)⟩ rfl (Nat.le_of_ble_eq_true rfl) rfl rfl (fun _ _ h => h.elim) ?_
    rintro _ _ ⟨_, _, ⟨rfl, f9, g9, ht9, rfl⟩, rfl, rfl⟩
    refine j_ws (L' := z_cw _ _ _ _ _ _ _ _ _ _ _ _ _ _ _ _ _ _ _ _ _ _ _ _ _ _ _ _ _ _ _ _ _ _ _ _ _ _ _ _ _ _ _ _ _ _ _ _ _ _ _ _ _ _ _ _ []) (by decide) rfl rfl ?_
    refine j_iret dX8_remove_10 rfl rfl ?_ (Nat.le_of_ble_eq_true rfl) (Nat.le_of_ble_eq_true rfl)
    refine ⟨rfl, (by first | exact z_cwl | rfl), ?_⟩
    rw [sp_i0, sp_in' (n := q) (by omega)]
    exact ⟨sp_k32_0 (Or.inl rfl) hk0, rfl, (sp_CWe hra hrb ht9 ht1 ht2 he0 he1 hzm3 hzm4 hzm5 rfl)⟩
  · subst e_3
    refine j_iload_n dX8_remove_6 rfl ?_
    refine j_callV (q := (RX4, TX4, 5)) dX8_remove_7 kX4_sendAway lX8_134 inX4_sendAway seX4_sendAway rfl rfl (z_frame [16, 17, 18, 19, 20] rfl (by decide) (Nat.le_of_ble_eq_true rfl) (c_X4_sendAway_e hl false _ _ _ (sp_T S 1) q ht1 (by omega))) (Nat.le_of_ble_eq_true rfl) ⟨(Nat.le_of_ble_eq_true rfl), (Nat.le_of_ble_eq_true rfl)⟩ rfl (Nat.le_of_ble_eq_true rfl) rfl rfl (fun _ _ h => h.elim) ?_
    rintro _ _ ⟨_, _, ⟨rfl, f9, g9, ht9, rfl⟩, rfl, rfl⟩
    refine j_ws (L' := z_cw _ _ _ _ _ _ _ _ _ _ _ _ _ _ _ _ _ _ _ _ _ _ _ _ _ _ _ _ _ _ _ _ _ _ _ _ _ _ _ _ _ _ _ _ _ _ _ _ _ _ _ _ _ _ _ _ []) (by decide) rfl rfl ?_
    refine j_iret dX8_remove_10 rfl rfl ?_ (Nat.le_of_ble_eq_true rfl) (Nat.le_of_ble_eq_true rfl)
    refine ⟨rfl, (by first | exact z_cwl | rfl), ?_⟩
    rw [sp_i1, sp_in' (n := q) (by omega)]
    exact ⟨sp_k32_0 (Or.inr (Or.inl rfl)) hk0, rfl, (sp_CWe hra hrb ht0 ht9 ht2 he0 he1 hzm3 hzm4 hzm5 rfl)⟩
  · subst e_3
    refine j_iload_n dX8_remove_6 rfl ?_
    refine j_callV (q := (RX4, TX4, 5)) dX8_remove_7 kX4_sendAway lX8_134 inX4_sendAway seX4_sendAway rfl rfl (z_frame [21, 22, 23, 24, 25] rfl (by decide) (Nat.le_of_ble_eq_true rfl) (c_X4_sendAway_e hl true _ _ _ (sp_T S 2) q ht2 (by omega))) (Nat.le_of_ble_eq_true rfl) ⟨(Nat.le_of_ble_eq_true rfl), (Nat.le_of_ble_eq_true rfl)⟩ rfl (Nat.le_of_ble_eq_true rfl) rfl rfl (fun _ _ h => h.elim) ?_
    rintro _ _ ⟨_, _, ⟨rfl, f9, g9, ht9, rfl⟩, rfl, rfl⟩
    refine j_ws (L' := z_cw _ _ _ _ _ _ _ _ _ _ _ _ _ _ _ _ _ _ _ _ _ _ _ _ _ _ _ _ _ _ _ _ _ _ _ _ _ _ _ _ _ _ _ _ _ _ _ _ _ _ _ _ _ _ _ _ []) (by decide) rfl rfl ?_
    refine j_iret dX8_remove_10 rfl rfl ?_ (Nat.le_of_ble_eq_true rfl) (Nat.le_of_ble_eq_true rfl)
    refine ⟨rfl, (by first | exact z_cwl | rfl), ?_⟩
    rw [sp_i2, sp_in' (n := q) (by omega)]
    exact ⟨sp_k32_0 (Or.inr (Or.inr rfl)) hk0, rfl, (sp_CWe hra hrb ht0 ht1 ht9 he0 he1 hzm3 hzm4 hzm5 rfl)⟩
set_option maxRecDepth 100000 in
set_option maxHeartbeats 8000000 in
theorem c_X8_putIfAbsent_p (hl : l.stackTraces = false) (S : sp_S) (fa : Nat → Int32) (fb : Nat → Int32) (mt : Int32) (ft : Nat → Int32) (ct : Nat → Int32) (f0 : Nat → Int32) (g0 : Nat → Int32) (f1 : Nat → Int32) (g1 : Nat → Int32) (c1 : Nat → Int32) (f2 : Nat → Int32) (g2 : Nat → Int32) (c2 : Nat → Int32) (f3 : Nat → Int32) (g3 : Nat → Int32) (c3 : Nat → Int32) (m3 : Int32) (f4 : Nat → Int32) (g4 : Nat → Int32) (c4 : Nat → Int32) (m4 : Int32) (f5 : Nat → Int32) (g5 : Nat → Int32) (c5 : Nat → Int32) (m5 : Int32) (ef0 : Nat → Int32) (ef1 : Nat → Int32) (t : Int32) (k : Int32) (y : Int32) (ok : sp_ok S) (hra : z_row 12 (nI (sp_R S 0).length) fa (sp_R S 0)) (hrb : z_row 12 (nI (sp_R S 1).length) fb (sp_R S 1)) (ht0 : z_tba f0 g0 (sp_T S 0)) (ht1 : z_tba f1 g1 (sp_T S 1)) (ht2 : z_tba f2 g2 (sp_T S 2)) (he0 : z_row 10 (nI (sp_E S 0).2.length) ef0 (sp_E S 0).2) (he1 : z_row 10 (nI (sp_E S 1).2.length) ef1 (sp_E S 1).2) (hzm3 : z_m20 m3) (hzm4 : z_m20 m4) (hzm5 : z_m20 m5) : z_CX G l mX8_putIfAbsent 20 14 120 (z_cw S.1.1 S.1.2 (nI (sp_R S 0).length) (sp_F S 0) fa (sp_C S 0) (nI (sp_R S 1).length) (sp_F S 1) fb (sp_C S 1) mt false ft ct f0 g0 (sp_C S 2) (nI (sp_T S 0).length) 0 f1 g1 c1 (nI (sp_T S 1).length) 0 f2 g2 c2 (nI (sp_T S 2).length) 1 f3 g3 c3 m3 0 f4 g4 c4 m4 0 f5 g5 c5 m5 1 (nI (sp_E S 0).2.length) (sp_E S 0).1.2.1 (sp_E S 0).1.2.2.1 (sp_E S 0).1.2.2.2 (sp_E S 0).1.1 ef0 (nI (sp_E S 1).2.length) (sp_E S 1).1.2.1 (sp_E S 1).1.2.2.1 (sp_E S 1).1.2.2.2 (sp_E S 1).1.1 ef1 []) [.ref 0, .int t, .int k, .int y] (fun v L => sp_k32 t (sp_bk k ∨ sp_bv y) = 0 ∧ v = some (.int ((sp_pia (sp_srt (sp_i t)) (sp_T S (sp_i t)) (sp_C S 2) (sp_i k) y).1.getD (-9))) ∧ sp_CW (sp_tb S (sp_i t) (sp_pia (sp_srt (sp_i t)) (sp_T S (sp_i t)) (sp_C S 2) (sp_i k) y)) L) (fun E L => ((z_xI E ∧ sp_k32 t (sp_bk k ∨ sp_bv y) = 1) ∨ (z_xA E ∧ sp_k32 t (sp_bk k ∨ sp_bv y) = 2)) ∧ L = (z_cw S.1.1 S.1.2 (nI (sp_R S 0).length) (sp_F S 0) fa (sp_C S 0) (nI (sp_R S 1).length) (sp_F S 1) fb (sp_C S 1) mt false ft ct f0 g0 (sp_C S 2) (nI (sp_T S 0).length) 0 f1 g1 c1 (nI (sp_T S 1).length) 0 f2 g2 c2 (nI (sp_T S 2).length) 1 f3 g3 c3 m3 0 f4 g4 c4 m4 0 f5 g5 c5 m5 1 (nI (sp_E S 0).2.length) (sp_E S 0).1.2.1 (sp_E S 0).1.2.2.1 (sp_E S 0).1.2.2.2 (sp_E S 0).1.1 ef0 (nI (sp_E S 1).2.length) (sp_E S 1).1.2.1 (sp_E S 1).1.2.2.1 (sp_E S 1).1.2.2.2 (sp_E S 1).1.1 ef1 [])) := by
  refine z_body hl (by decide) rfl (Nat.le_of_ble_eq_true rfl) ?_
  show z_J G l mX8_putIfAbsent (z_SX 20 14 120 (z_cw S.1.1 S.1.2 (nI (sp_R S 0).length) (sp_F S 0) fa (sp_C S 0) (nI (sp_R S 1).length) (sp_F S 1) fb (sp_C S 1) mt false ft ct f0 g0 (sp_C S 2) (nI (sp_T S 0).length) 0 f1 g1 c1 (nI (sp_T S 1).length) 0 f2 g2 c2 (nI (sp_T S 2).length) 1 f3 g3 c3 m3 0 f4 g4 c4 m4 0 f5 g5 c5 m5 1 (nI (sp_E S 0).2.length) (sp_E S 0).1.2.1 (sp_E S 0).1.2.2.1 (sp_E S 0).1.2.2.2 (sp_E S 0).1.1 ef0 (nI (sp_E S 1).2.length) (sp_E S 1).1.2.1 (sp_E S 1).1.2.2.1 (sp_E S 1).1.2.2.2 (sp_E S 1).1.1 ef1 []) (fun v L => sp_k32 t (sp_bk k ∨ sp_bv y) = 0 ∧ v = some (.int ((sp_pia (sp_srt (sp_i t)) (sp_T S (sp_i t)) (sp_C S 2) (sp_i k) y).1.getD (-9))) ∧ sp_CW (sp_tb S (sp_i t) (sp_pia (sp_srt (sp_i t)) (sp_T S (sp_i t)) (sp_C S 2) (sp_i k) y)) L) (fun E L => ((z_xI E ∧ sp_k32 t (sp_bk k ∨ sp_bv y) = 1) ∨ (z_xA E ∧ sp_k32 t (sp_bk k ∨ sp_bv y) = 2)) ∧ L = (z_cw S.1.1 S.1.2 (nI (sp_R S 0).length) (sp_F S 0) fa (sp_C S 0) (nI (sp_R S 1).length) (sp_F S 1) fb (sp_C S 1) mt false ft ct f0 g0 (sp_C S 2) (nI (sp_T S 0).length) 0 f1 g1 c1 (nI (sp_T S 1).length) 0 f2 g2 c2 (nI (sp_T S 2).length) 1 f3 g3 c3 m3 0 f4 g4 c4 m4 0 f5 g5 c5 m5 1 (nI (sp_E S 0).2.length) (sp_E S 0).1.2.1 (sp_E S 0).1.2.2.1 (sp_E S 0).1.2.2.2 (sp_E S 0).1.1 ef0 (nI (sp_E S 1).2.length) (sp_E S 1).1.2.1 (sp_E S 1).1.2.2.1 (sp_E S 1).1.2.2.2 (sp_E S 1).1.1 ef1 []))) 0 [(0, _), (1, _), (2, _), (3, _)] [] _ 0 0
  refine j_aload_n dX8_putIfAbsent_0 rfl rfl ?_
  refine j_iload_n dX8_putIfAbsent_1 rfl ?_
  refine j_iload_n dX8_putIfAbsent_2 rfl ?_
  refine j_callV (q := (RX8, TX8, 9)) dX8_putIfAbsent_3 kX8_tableFor_ lX8_126 inX8_tableFor_ seX8_tableFor_ rfl rfl (z_dirX (c_X8_tableFor__e hl _ _ _ _ _ _ _ _ _ _ _ _ _ _ _ _ _ _ _ _ _ _ _ _ _ _ _ _ _ _ _ _ _ _ _ _ _ _ _ _ _ _ _ _ _ _ _ _ _ _ _ _ _ _ _ _ _ _)) (Nat.le_of_ble_eq_true rfl) ⟨(Nat.le_of_ble_eq_true rfl), (Nat.le_of_ble_eq_true rfl)⟩ rfl (Nat.le_of_ble_eq_true rfl) rfl rfl (fun _ _ h => by obtain ⟨_, ⟨h1, rfl⟩, rfl⟩ := h; exact ⟨rfl, rfl, h1.elim (fun z => Or.inl ⟨z.1, sp_k32_1 z.2⟩) (fun z => Or.inr ⟨z.1, sp_k32_2 z.2.1 (Or.inl (z.2.2))⟩), rfl⟩) ?_
  rintro _ _ ⟨_, ⟨_, rfl, hr, hk3, rfl⟩, rfl⟩
  have hk0 := hk3
  obtain ⟨q, hq, rfl⟩ := sp_nt (m := 19) rfl (by decide) hk0
  rcases hr with ⟨e_3, rfl⟩ | ⟨e_3, rfl⟩ | ⟨e_3, rfl⟩
  · subst e_3
    refine j_astore (lo' := [(4, _), (0, _), (1, _), (2, _), (3, _)]) dX8_putIfAbsent_6 rfl (by decide) rfl ?_
    refine j_iload_n dX8_putIfAbsent_8 rfl ?_
    refine j_callS dX8_putIfAbsent_9 kX8_checkValue lX8_50 stX8_checkValue (c_X8_checkValue_e hl _ _) (Nat.le_of_ble_eq_true rfl) ⟨(Nat.le_of_ble_eq_true rfl), (Nat.le_of_ble_eq_true rfl)⟩ rfl (Nat.le_of_ble_eq_true rfl) rfl rfl (fun _ _ h => by obtain ⟨h1, rfl⟩ := h; exact ⟨rfl, rfl, Or.inr ⟨h1.1, sp_k32_2 (Or.inl rfl) (Or.inr h1.2)⟩, rfl⟩) ?_
    rintro _ _ ⟨⟨rfl, hc9⟩, rfl⟩
    refine j_aload dX8_putIfAbsent_12 rfl rfl ?_
    refine j_iload_n dX8_putIfAbsent_14 rfl ?_
    refine j_callV (q := (RX4, TX4, 5)) dX8_putIfAbsent_15 kX4_look lX8_137 inX4_look seX4_look rfl rfl (z_frame [10, 11, 12, 13, 14] rfl (by decide) (Nat.le_of_ble_eq_true rfl) (c_X4_look_e hl false _ _ _ _ (sp_T S 0) q ht0 (by omega))) (Nat.le_of_ble_eq_true rfl) ⟨(Nat.le_of_ble_eq_true rfl), (Nat.le_of_ble_eq_true rfl)⟩ rfl (Nat.le_of_ble_eq_true rfl) rfl rfl (fun _ _ h => h.elim) ?_
    rintro _ _ ⟨_, _, ⟨rfl, rfl⟩, rfl, rfl⟩
    refine j_ws (L' := z_cw _ _ _ _ _ _ _ _ _ _ _ _ _ _ _ _ _ _ _ _ _ _ _ _ _ _ _ _ _ _ _ _ _ _ _ _ _ _ _ _ _ _ _ _ _ _ _ _ _ _ _ _ _ _ _ _ []) (by decide) rfl rfl ?_
    refine j_istore (lo' := [(5, _), (4, _), (0, _), (1, _), (2, _), (3, _)]) dX8_putIfAbsent_18 (by decide) rfl ?_
    refine j_iload dX8_putIfAbsent_20 rfl ?_
    refine j_sipush (v := (-1000)) dX8_putIfAbsent_22 (by decide) ?_
    refine j_icmp_ne (tgt := 38) dX8_putIfAbsent_25 (by decide) (fun c_25 => ?_) (fun c_25 => ?_)
    · have e9 : sp_pia (sp_srt 0) (sp_T S 0) (sp_C S 2) q y = (some (sp_lk (sp_T S 0) q), (sp_T S 0), (sp_C S 2)) := if_neg c_25
      refine j_iload dX8_putIfAbsent_38 rfl ?_
      refine j_iret dX8_putIfAbsent_40 rfl rfl ?_ (Nat.le_of_ble_eq_true rfl) (Nat.le_of_ble_eq_true rfl)
      refine ⟨rfl, (by first | exact z_cwl | rfl), ?_⟩
      rw [sp_i0, sp_in' (n := q) (by omega)]
      rw [e9]
      exact ⟨sp_k32_0 (Or.inl rfl) (fun z => z.elim hk0 hc9), rfl, (sp_CWe hra hrb ht0 ht1 ht2 he0 he1 hzm3 hzm4 hzm5 rfl)⟩
    · have e9 : sp_pia (sp_srt 0) (sp_T S 0) (sp_C S 2) q y = (some (-1000), (sp_pt (sp_srt 0) (sp_T S 0) q y), z_bp (sp_C S 2) 5) := if_pos c_25
      refine j_aload dX8_putIfAbsent_28 rfl rfl ?_
      refine j_iload_n dX8_putIfAbsent_30 rfl ?_
      refine j_iload_n dX8_putIfAbsent_31 rfl ?_
      refine j_callV (q := (RX4, TX4, 5)) dX8_putIfAbsent_32 kX4_store lX8_130 inX4_store seX4_store rfl rfl (z_frame [10, 11, 12, 13, 14] rfl (by decide) (Nat.le_of_ble_eq_true rfl) (c_X4_store_e hl false _ _ _ (sp_T S 0) q y ht0 (by omega) (sp_vl hc9))) (Nat.le_of_ble_eq_true rfl) ⟨(Nat.le_of_ble_eq_true rfl), (Nat.le_of_ble_eq_true rfl)⟩ rfl (Nat.le_of_ble_eq_true rfl) rfl rfl (fun _ _ h => h.elim) ?_
      rintro _ _ ⟨_, _, ⟨rfl, f9, g9, ht9, rfl⟩, rfl, rfl⟩
      refine j_ws (L' := z_cw _ _ _ _ _ _ _ _ _ _ _ _ _ _ _ _ _ _ _ _ _ _ _ _ _ _ _ _ _ _ _ _ _ _ _ _ _ _ _ _ _ _ _ _ _ _ _ _ _ _ _ _ _ _ _ _ []) (by decide) rfl rfl ?_
      refine j_goto (tgt := 40) dX8_putIfAbsent_35 (by decide) ?_
      refine j_iret dX8_putIfAbsent_40 rfl rfl ?_ (Nat.le_of_ble_eq_true rfl) (Nat.le_of_ble_eq_true rfl)
      have c9 := c_25
      refine ⟨rfl, (by first | exact z_cwl | rfl), ?_⟩
      rw [sp_i0, sp_in' (n := q) (by omega)]
      rw [e9]
      exact ⟨sp_k32_0 (Or.inl rfl) (fun z => z.elim hk0 hc9), (by rw [c9]; rfl), (sp_CWe hra hrb ht9 ht1 ht2 he0 he1 hzm3 hzm4 hzm5 rfl)⟩
  · subst e_3
    refine j_astore (lo' := [(4, _), (0, _), (1, _), (2, _), (3, _)]) dX8_putIfAbsent_6 rfl (by decide) rfl ?_
    refine j_iload_n dX8_putIfAbsent_8 rfl ?_
    refine j_callS dX8_putIfAbsent_9 kX8_checkValue lX8_50 stX8_checkValue (c_X8_checkValue_e hl _ _) (Nat.le_of_ble_eq_true rfl) ⟨(Nat.le_of_ble_eq_true rfl), (Nat.le_of_ble_eq_true rfl)⟩ rfl (Nat.le_of_ble_eq_true rfl) rfl rfl (fun _ _ h => by obtain ⟨h1, rfl⟩ := h; exact ⟨rfl, rfl, Or.inr ⟨h1.1, sp_k32_2 (Or.inr (Or.inl rfl)) (Or.inr h1.2)⟩, rfl⟩) ?_
    rintro _ _ ⟨⟨rfl, hc9⟩, rfl⟩
    refine j_aload dX8_putIfAbsent_12 rfl rfl ?_
    refine j_iload_n dX8_putIfAbsent_14 rfl ?_
    refine j_callV (q := (RX4, TX4, 5)) dX8_putIfAbsent_15 kX4_look lX8_137 inX4_look seX4_look rfl rfl (z_frame [16, 17, 18, 19, 20] rfl (by decide) (Nat.le_of_ble_eq_true rfl) (c_X4_look_e hl false _ _ _ _ (sp_T S 1) q ht1 (by omega))) (Nat.le_of_ble_eq_true rfl) ⟨(Nat.le_of_ble_eq_true rfl), (Nat.le_of_ble_eq_true rfl)⟩ rfl (Nat.le_of_ble_eq_true rfl) rfl rfl (fun _ _ h => h.elim) ?_
    rintro _ _ ⟨_, _, ⟨rfl, rfl⟩, rfl, rfl⟩
    refine j_ws (L' := z_cw _ _ _ _ _ _ _ _ _ _ _ _ _ _ _ _ _ _ _ _ _ _ _ _ _ _ _ _ _ _ _ _ _ _ _ _ _ _ _ _ _ _ _ _ _ _ _ _ _ _ _ _ _ _ _ _ []) (by decide) rfl rfl ?_
    refine j_istore (lo' := [(5, _), (4, _), (0, _), (1, _), (2, _), (3, _)]) dX8_putIfAbsent_18 (by decide) rfl ?_
    refine j_iload dX8_putIfAbsent_20 rfl ?_
    refine j_sipush (v := (-1000)) dX8_putIfAbsent_22 (by decide) ?_
    refine j_icmp_ne (tgt := 38) dX8_putIfAbsent_25 (by decide) (fun c_25 => ?_) (fun c_25 => ?_)
    · have e9 : sp_pia (sp_srt 1) (sp_T S 1) (sp_C S 2) q y = (some (sp_lk (sp_T S 1) q), (sp_T S 1), (sp_C S 2)) := if_neg c_25
      refine j_iload dX8_putIfAbsent_38 rfl ?_
      refine j_iret dX8_putIfAbsent_40 rfl rfl ?_ (Nat.le_of_ble_eq_true rfl) (Nat.le_of_ble_eq_true rfl)
      refine ⟨rfl, (by first | exact z_cwl | rfl), ?_⟩
      rw [sp_i1, sp_in' (n := q) (by omega)]
      rw [e9]
      exact ⟨sp_k32_0 (Or.inr (Or.inl rfl)) (fun z => z.elim hk0 hc9), rfl, (sp_CWe hra hrb ht0 ht1 ht2 he0 he1 hzm3 hzm4 hzm5 rfl)⟩
    · have e9 : sp_pia (sp_srt 1) (sp_T S 1) (sp_C S 2) q y = (some (-1000), (sp_pt (sp_srt 1) (sp_T S 1) q y), z_bp (sp_C S 2) 5) := if_pos c_25
      refine j_aload dX8_putIfAbsent_28 rfl rfl ?_
      refine j_iload_n dX8_putIfAbsent_30 rfl ?_
      refine j_iload_n dX8_putIfAbsent_31 rfl ?_
      refine j_callV (q := (RX4, TX4, 5)) dX8_putIfAbsent_32 kX4_store lX8_130 inX4_store seX4_store rfl rfl (z_frame [16, 17, 18, 19, 20] rfl (by decide) (Nat.le_of_ble_eq_true rfl) (c_X4_store_e hl false _ _ _ (sp_T S 1) q y ht1 (by omega) (sp_vl hc9))) (Nat.le_of_ble_eq_true rfl) ⟨(Nat.le_of_ble_eq_true rfl), (Nat.le_of_ble_eq_true rfl)⟩ rfl (Nat.le_of_ble_eq_true rfl) rfl rfl (fun _ _ h => h.elim) ?_
      rintro _ _ ⟨_, _, ⟨rfl, f9, g9, ht9, rfl⟩, rfl, rfl⟩
      refine j_ws (L' := z_cw _ _ _ _ _ _ _ _ _ _ _ _ _ _ _ _ _ _ _ _ _ _ _ _ _ _ _ _ _ _ _ _ _ _ _ _ _ _ _ _ _ _ _ _ _ _ _ _ _ _ _ _ _ _ _ _ []) (by decide) rfl rfl ?_
      refine j_goto (tgt := 40) dX8_putIfAbsent_35 (by decide) ?_
      refine j_iret dX8_putIfAbsent_40 rfl rfl ?_ (Nat.le_of_ble_eq_true rfl) (Nat.le_of_ble_eq_true rfl)
      have c9 := c_25
      refine ⟨rfl, (by first | exact z_cwl | rfl), ?_⟩
      rw [sp_i1, sp_in' (n := q) (by omega)]
      rw [e9]
      exact ⟨sp_k32_0 (Or.inr (Or.inl rfl)) (fun z => z.elim hk0 hc9), (by rw [c9]; rfl), (sp_CWe hra hrb ht0 ht9 ht2 he0 he1 hzm3 hzm4 hzm5 rfl)⟩
  · subst e_3
    refine j_astore (lo' := [(4, _), (0, _), (1, _), (2, _), (3, _)]) dX8_putIfAbsent_6 rfl (by decide) rfl ?_
    refine j_iload_n dX8_putIfAbsent_8 rfl ?_
    refine j_callS dX8_putIfAbsent_9 kX8_checkValue lX8_50 stX8_checkValue (c_X8_checkValue_e hl _ _) (Nat.le_of_ble_eq_true rfl) ⟨(Nat.le_of_ble_eq_true rfl), (Nat.le_of_ble_eq_true rfl)⟩ rfl (Nat.le_of_ble_eq_true rfl) rfl rfl (fun _ _ h => by obtain ⟨h1, rfl⟩ := h; exact ⟨rfl, rfl, Or.inr ⟨h1.1, sp_k32_2 (Or.inr (Or.inr rfl)) (Or.inr h1.2)⟩, rfl⟩) ?_
    rintro _ _ ⟨⟨rfl, hc9⟩, rfl⟩
    refine j_aload dX8_putIfAbsent_12 rfl rfl ?_
    refine j_iload_n dX8_putIfAbsent_14 rfl ?_
    refine j_callV (q := (RX4, TX4, 5)) dX8_putIfAbsent_15 kX4_look lX8_137 inX4_look seX4_look rfl rfl (z_frame [21, 22, 23, 24, 25] rfl (by decide) (Nat.le_of_ble_eq_true rfl) (c_X4_look_e hl true _ _ _ _ (sp_T S 2) q ht2 (by omega))) (Nat.le_of_ble_eq_true rfl) ⟨(Nat.le_of_ble_eq_true rfl), (Nat.le_of_ble_eq_true rfl)⟩ rfl (Nat.le_of_ble_eq_true rfl) rfl rfl (fun _ _ h => h.elim) ?_
    rintro _ _ ⟨_, _, ⟨rfl, rfl⟩, rfl, rfl⟩
    refine j_ws (L' := z_cw _ _ _ _ _ _ _ _ _ _ _ _ _ _ _ _ _ _ _ _ _ _ _ _ _ _ _ _ _ _ _ _ _ _ _ _ _ _ _ _ _ _ _ _ _ _ _ _ _ _ _ _ _ _ _ _ []) (by decide) rfl rfl ?_
    refine j_istore (lo' := [(5, _), (4, _), (0, _), (1, _), (2, _), (3, _)]) dX8_putIfAbsent_18 (by decide) rfl ?_
    refine j_iload dX8_putIfAbsent_20 rfl ?_
    refine j_sipush (v := (-1000)) dX8_putIfAbsent_22 (by decide) ?_
    refine j_icmp_ne (tgt := 38) dX8_putIfAbsent_25 (by decide) (fun c_25 => ?_) (fun c_25 => ?_)
    · have e9 : sp_pia (sp_srt 2) (sp_T S 2) (sp_C S 2) q y = (some (sp_lk (sp_T S 2) q), (sp_T S 2), (sp_C S 2)) := if_neg c_25
      refine j_iload dX8_putIfAbsent_38 rfl ?_
      refine j_iret dX8_putIfAbsent_40 rfl rfl ?_ (Nat.le_of_ble_eq_true rfl) (Nat.le_of_ble_eq_true rfl)
      refine ⟨rfl, (by first | exact z_cwl | rfl), ?_⟩
      rw [sp_i2, sp_in' (n := q) (by omega)]
      rw [e9]
      exact ⟨sp_k32_0 (Or.inr (Or.inr rfl)) (fun z => z.elim hk0 hc9), rfl, (sp_CWe hra hrb ht0 ht1 ht2 he0 he1 hzm3 hzm4 hzm5 rfl)⟩
    · have e9 : sp_pia (sp_srt 2) (sp_T S 2) (sp_C S 2) q y = (some (-1000), (sp_pt (sp_srt 2) (sp_T S 2) q y), z_bp (sp_C S 2) 5) := if_pos c_25
      refine j_aload dX8_putIfAbsent_28 rfl rfl ?_
      refine j_iload_n dX8_putIfAbsent_30 rfl ?_
      refine j_iload_n dX8_putIfAbsent_31 rfl ?_
      refine j_callV (q := (RX4, TX4, 5)) dX8_putIfAbsent_32 kX4_store lX8_130 inX4_store seX4_store rfl rfl (z_frame [21, 22, 23, 24, 25] rfl (by decide) (Nat.le_of_ble_eq_true rfl) (c_X4_store_e hl true _ _ _ (sp_T S 2) q y ht2 (by omega) (sp_vl hc9))) (Nat.le_of_ble_eq_true rfl) ⟨(Nat.le_of_ble_eq_true rfl), (Nat.le_of_ble_eq_true rfl)⟩ rfl (Nat.le_of_ble_eq_true rfl) rfl rfl (fun _ _ h => h.elim) ?_
      rintro _ _ ⟨_, _, ⟨rfl, f9, g9, ht9, rfl⟩, rfl, rfl⟩
      refine j_ws (L' := z_cw _ _ _ _ _ _ _ _ _ _ _ _ _ _ _ _ _ _ _ _ _ _ _ _ _ _ _ _ _ _ _ _ _ _ _ _ _ _ _ _ _ _ _ _ _ _ _ _ _ _ _ _ _ _ _ _ []) (by decide) rfl rfl ?_
      refine j_goto (tgt := 40) dX8_putIfAbsent_35 (by decide) ?_
      refine j_iret dX8_putIfAbsent_40 rfl rfl ?_ (Nat.le_of_ble_eq_true rfl) (Nat.le_of_ble_eq_true rfl)
      have c9 := c_25
      refine ⟨rfl, (by first | exact z_cwl | rfl), ?_⟩
      rw [sp_i2, sp_in' (n := q) (by omega)]
      rw [e9]
      exact ⟨sp_k32_0 (Or.inr (Or.inr rfl)) (fun z => z.elim hk0 hc9), (by rw [c9]; rfl), (sp_CWe hra hrb ht0 ht1 ht9 he0 he1 hzm3 hzm4 hzm5 rfl)⟩
set_option maxRecDepth 100000 in
set_option maxHeartbeats 8000000 in
theorem c_X8_replace_p (hl : l.stackTraces = false) (S : sp_S) (fa : Nat → Int32) (fb : Nat → Int32) (mt : Int32) (ft : Nat → Int32) (ct : Nat → Int32) (f0 : Nat → Int32) (g0 : Nat → Int32) (f1 : Nat → Int32) (g1 : Nat → Int32) (c1 : Nat → Int32) (f2 : Nat → Int32) (g2 : Nat → Int32) (c2 : Nat → Int32) (f3 : Nat → Int32) (g3 : Nat → Int32) (c3 : Nat → Int32) (m3 : Int32) (f4 : Nat → Int32) (g4 : Nat → Int32) (c4 : Nat → Int32) (m4 : Int32) (f5 : Nat → Int32) (g5 : Nat → Int32) (c5 : Nat → Int32) (m5 : Int32) (ef0 : Nat → Int32) (ef1 : Nat → Int32) (t : Int32) (k : Int32) (y : Int32) (ok : sp_ok S) (hra : z_row 12 (nI (sp_R S 0).length) fa (sp_R S 0)) (hrb : z_row 12 (nI (sp_R S 1).length) fb (sp_R S 1)) (ht0 : z_tba f0 g0 (sp_T S 0)) (ht1 : z_tba f1 g1 (sp_T S 1)) (ht2 : z_tba f2 g2 (sp_T S 2)) (he0 : z_row 10 (nI (sp_E S 0).2.length) ef0 (sp_E S 0).2) (he1 : z_row 10 (nI (sp_E S 1).2.length) ef1 (sp_E S 1).2) (hzm3 : z_m20 m3) (hzm4 : z_m20 m4) (hzm5 : z_m20 m5) : z_CX G l mX8_replace 20 14 120 (z_cw S.1.1 S.1.2 (nI (sp_R S 0).length) (sp_F S 0) fa (sp_C S 0) (nI (sp_R S 1).length) (sp_F S 1) fb (sp_C S 1) mt false ft ct f0 g0 (sp_C S 2) (nI (sp_T S 0).length) 0 f1 g1 c1 (nI (sp_T S 1).length) 0 f2 g2 c2 (nI (sp_T S 2).length) 1 f3 g3 c3 m3 0 f4 g4 c4 m4 0 f5 g5 c5 m5 1 (nI (sp_E S 0).2.length) (sp_E S 0).1.2.1 (sp_E S 0).1.2.2.1 (sp_E S 0).1.2.2.2 (sp_E S 0).1.1 ef0 (nI (sp_E S 1).2.length) (sp_E S 1).1.2.1 (sp_E S 1).1.2.2.1 (sp_E S 1).1.2.2.2 (sp_E S 1).1.1 ef1 []) [.ref 0, .int t, .int k, .int y] (fun v L => sp_k32 t (sp_bk k ∨ sp_bv y) = 0 ∧ v = some (.int ((sp_rep (sp_srt (sp_i t)) (sp_T S (sp_i t)) (sp_C S 2) (sp_i k) y).1.getD (-9))) ∧ sp_CW (sp_tb S (sp_i t) (sp_rep (sp_srt (sp_i t)) (sp_T S (sp_i t)) (sp_C S 2) (sp_i k) y)) L) (fun E L => ((z_xI E ∧ sp_k32 t (sp_bk k ∨ sp_bv y) = 1) ∨ (z_xA E ∧ sp_k32 t (sp_bk k ∨ sp_bv y) = 2)) ∧ L = (z_cw S.1.1 S.1.2 (nI (sp_R S 0).length) (sp_F S 0) fa (sp_C S 0) (nI (sp_R S 1).length) (sp_F S 1) fb (sp_C S 1) mt false ft ct f0 g0 (sp_C S 2) (nI (sp_T S 0).length) 0 f1 g1 c1 (nI (sp_T S 1).length) 0 f2 g2 c2 (nI (sp_T S 2).length) 1 f3 g3 c3 m3 0 f4 g4 c4 m4 0 f5 g5 c5 m5 1 (nI (sp_E S 0).2.length) (sp_E S 0).1.2.1 (sp_E S 0).1.2.2.1 (sp_E S 0).1.2.2.2 (sp_E S 0).1.1 ef0 (nI (sp_E S 1).2.length) (sp_E S 1).1.2.1 (sp_E S 1).1.2.2.1 (sp_E S 1).1.2.2.2 (sp_E S 1).1.1 ef1 [])) := by
  refine z_body hl (by decide) rfl (Nat.le_of_ble_eq_true rfl) ?_
  show z_J G l mX8_replace (z_SX 20 14 120 (z_cw S.1.1 S.1.2 (nI (sp_R S 0).length) (sp_F S 0) fa (sp_C S 0) (nI (sp_R S 1).length) (sp_F S 1) fb (sp_C S 1) mt false ft ct f0 g0 (sp_C S 2) (nI (sp_T S 0).length) 0 f1 g1 c1 (nI (sp_T S 1).length) 0 f2 g2 c2 (nI (sp_T S 2).length) 1 f3 g3 c3 m3 0 f4 g4 c4 m4 0 f5 g5 c5 m5 1 (nI (sp_E S 0).2.length) (sp_E S 0).1.2.1 (sp_E S 0).1.2.2.1 (sp_E S 0).1.2.2.2 (sp_E S 0).1.1 ef0 (nI (sp_E S 1).2.length) (sp_E S 1).1.2.1 (sp_E S 1).1.2.2.1 (sp_E S 1).1.2.2.2 (sp_E S 1).1.1 ef1 []) (fun v L => sp_k32 t (sp_bk k ∨ sp_bv y) = 0 ∧ v = some (.int ((sp_rep (sp_srt (sp_i t)) (sp_T S (sp_i t)) (sp_C S 2) (sp_i k) y).1.getD (-9))) ∧ sp_CW (sp_tb S (sp_i t) (sp_rep (sp_srt (sp_i t)) (sp_T S (sp_i t)) (sp_C S 2) (sp_i k) y)) L) (fun E L => ((z_xI E ∧ sp_k32 t (sp_bk k ∨ sp_bv y) = 1) ∨ (z_xA E ∧ sp_k32 t (sp_bk k ∨ sp_bv y) = 2)) ∧ L = (z_cw S.1.1 S.1.2 (nI (sp_R S 0).length) (sp_F S 0) fa (sp_C S 0) (nI (sp_R S 1).length) (sp_F S 1) fb (sp_C S 1) mt false ft ct f0 g0 (sp_C S 2) (nI (sp_T S 0).length) 0 f1 g1 c1 (nI (sp_T S 1).length) 0 f2 g2 c2 (nI (sp_T S 2).length) 1 f3 g3 c3 m3 0 f4 g4 c4 m4 0 f5 g5 c5 m5 1 (nI (sp_E S 0).2.length) (sp_E S 0).1.2.1 (sp_E S 0).1.2.2.1 (sp_E S 0).1.2.2.2 (sp_E S 0).1.1 ef0 (nI (sp_E S 1).2.length) (sp_E S 1).1.2.1 (sp_E S 1).1.2.2.1 (sp_E S 1).1.2.2.2 (sp_E S 1).1.1 ef1 []))) 0 [(0, _), (1, _), (2, _), (3, _)] [] _ 0 0
  refine j_aload_n dX8_replace_0 rfl rfl ?_
  refine j_iload_n dX8_replace_1 rfl ?_
  refine j_iload_n dX8_replace_2 rfl ?_
  refine j_callV (q := (RX8, TX8, 9)) dX8_replace_3 kX8_tableFor_ lX8_126 inX8_tableFor_ seX8_tableFor_ rfl rfl (z_dirX (c_X8_tableFor__e hl _ _ _ _ _ _ _ _ _ _ _ _ _ _ _ _ _ _ _ _ _ _ _ _ _ _ _ _ _ _ _ _ _ _ _ _ _ _ _ _ _ _ _ _ _ _ _ _ _ _ _ _ _ _ _ _ _ _)) (Nat.le_of_ble_eq_true rfl) ⟨(Nat.le_of_ble_eq_true rfl), (Nat.le_of_ble_eq_true rfl)⟩ rfl (Nat.le_of_ble_eq_true rfl) rfl rfl (fun _ _ h => by obtain ⟨_, ⟨h1, rfl⟩, rfl⟩ := h; exact ⟨rfl, rfl, h1.elim (fun z => Or.inl ⟨z.1, sp_k32_1 z.2⟩) (fun z => Or.inr ⟨z.1, sp_k32_2 z.2.1 (Or.inl (z.2.2))⟩), rfl⟩) ?_
  rintro _ _ ⟨_, ⟨_, rfl, hr, hk3, rfl⟩, rfl⟩
  have hk0 := hk3
  obtain ⟨q, hq, rfl⟩ := sp_nt (m := 19) rfl (by decide) hk0
  rcases hr with ⟨e_3, rfl⟩ | ⟨e_3, rfl⟩ | ⟨e_3, rfl⟩
  · subst e_3
    refine j_astore (lo' := [(4, _), (0, _), (1, _), (2, _), (3, _)]) dX8_replace_6 rfl (by decide) rfl ?_
    refine j_iload_n dX8_replace_8 rfl ?_
    refine j_callS dX8_replace_9 kX8_checkValue lX8_50 stX8_checkValue (c_X8_checkValue_e hl _ _) (Nat.le_of_ble_eq_true rfl) ⟨(Nat.le_of_ble_eq_true rfl), (Nat.le_of_ble_eq_true rfl)⟩ rfl (Nat.le_of_ble_eq_true rfl) rfl rfl (fun _ _ h => by obtain ⟨h1, rfl⟩ := h; exact ⟨rfl, rfl, Or.inr ⟨h1.1, sp_k32_2 (Or.inl rfl) (Or.inr h1.2)⟩, rfl⟩) ?_
    rintro _ _ ⟨⟨rfl, hc9⟩, rfl⟩
    refine j_aload dX8_replace_12 rfl rfl ?_
    refine j_iload_n dX8_replace_14 rfl ?_
    refine j_callV (q := (RX4, TX4, 5)) dX8_replace_15 kX4_look lX8_137 inX4_look seX4_look rfl rfl (z_frame [10, 11, 12, 13, 14] rfl (by decide) (Nat.le_of_ble_eq_true rfl) (c_X4_look_e hl false _ _ _ _ (sp_T S 0) q ht0 (by omega))) (Nat.le_of_ble_eq_true rfl) ⟨(Nat.le_of_ble_eq_true rfl), (Nat.le_of_ble_eq_true rfl)⟩ rfl (Nat.le_of_ble_eq_true rfl) rfl rfl (fun _ _ h => h.elim) ?_
    rintro _ _ ⟨_, _, ⟨rfl, rfl⟩, rfl, rfl⟩
    refine j_ws (L' := z_cw _ _ _ _ _ _ _ _ _ _ _ _ _ _ _ _ _ _ _ _ _ _ _ _ _ _ _ _ _ _ _ _ _ _ _ _ _ _ _ _ _ _ _ _ _ _ _ _ _ _ _ _ _ _ _ _ []) (by decide) rfl rfl ?_
    refine j_sipush (v := (-1000)) dX8_replace_18 (by decide) ?_
    refine j_icmp_ne (tgt := 30) dX8_replace_21 (by decide) (fun c_21 => ?_) (fun c_21 => ?_)
    · have e9 : sp_rep (sp_srt 0) (sp_T S 0) (sp_C S 2) q y = (some (sp_lk (sp_T S 0) q), (sp_pt (sp_srt 0) (sp_T S 0) q y), z_bp (sp_C S 2) 5) := if_neg c_21
      refine j_aload dX8_replace_30 rfl rfl ?_
      refine j_iload_n dX8_replace_32 rfl ?_
      refine j_iload_n dX8_replace_33 rfl ?_
      refine j_callV (q := (RX4, TX4, 5)) dX8_replace_34 kX4_store lX8_130 inX4_store seX4_store rfl rfl (z_frame [10, 11, 12, 13, 14] rfl (by decide) (Nat.le_of_ble_eq_true rfl) (c_X4_store_e hl false _ _ _ (sp_T S 0) q y ht0 (by omega) (sp_vl hc9))) (Nat.le_of_ble_eq_true rfl) ⟨(Nat.le_of_ble_eq_true rfl), (Nat.le_of_ble_eq_true rfl)⟩ rfl (Nat.le_of_ble_eq_true rfl) rfl rfl (fun _ _ h => h.elim) ?_
      rintro _ _ ⟨_, _, ⟨rfl, f9, g9, ht9, rfl⟩, rfl, rfl⟩
      refine j_ws (L' := z_cw _ _ _ _ _ _ _ _ _ _ _ _ _ _ _ _ _ _ _ _ _ _ _ _ _ _ _ _ _ _ _ _ _ _ _ _ _ _ _ _ _ _ _ _ _ _ _ _ _ _ _ _ _ _ _ _ []) (by decide) rfl rfl ?_
      refine j_iret dX8_replace_37 rfl rfl ?_ (Nat.le_of_ble_eq_true rfl) (Nat.le_of_ble_eq_true rfl)
      refine ⟨rfl, (by first | exact z_cwl | rfl), ?_⟩
      rw [sp_i0, sp_in' (n := q) (by omega)]
      rw [e9]
      exact ⟨sp_k32_0 (Or.inl rfl) (fun z => z.elim hk0 hc9), rfl, (sp_CWe hra hrb ht9 ht1 ht2 he0 he1 hzm3 hzm4 hzm5 rfl)⟩
    · have e9 : sp_rep (sp_srt 0) (sp_T S 0) (sp_C S 2) q y = (some (-1000), (sp_T S 0), (sp_C S 2)) := if_pos c_21
      refine j_sipush (v := (-1000)) dX8_replace_24 (by decide) ?_
      refine j_goto (tgt := 37) dX8_replace_27 (by decide) ?_
      refine j_iret dX8_replace_37 rfl rfl ?_ (Nat.le_of_ble_eq_true rfl) (Nat.le_of_ble_eq_true rfl)
      refine ⟨rfl, (by first | exact z_cwl | rfl), ?_⟩
      rw [sp_i0, sp_in' (n := q) (by omega)]
      rw [e9]
      exact ⟨sp_k32_0 (Or.inl rfl) (fun z => z.elim hk0 hc9), rfl, (sp_CWe hra hrb ht0 ht1 ht2 he0 he1 hzm3 hzm4 hzm5 rfl)⟩
  · subst e_3
    refine j_astore (lo' := [(4, _), (0, _), (1, _), (2, _), (3, _)]) dX8_replace_6 rfl (by decide) rfl ?_
    refine j_iload_n dX8_replace_8 rfl ?_
    refine j_callS dX8_replace_9 kX8_checkValue lX8_50 stX8_checkValue (c_X8_checkValue_e hl _ _) (Nat.le_of_ble_eq_true rfl) ⟨(Nat.le_of_ble_eq_true rfl), (Nat.le_of_ble_eq_true rfl)⟩ rfl (Nat.le_of_ble_eq_true rfl) rfl rfl (fun _ _ h => by obtain ⟨h1, rfl⟩ := h; exact ⟨rfl, rfl, Or.inr ⟨h1.1, sp_k32_2 (Or.inr (Or.inl rfl)) (Or.inr h1.2)⟩, rfl⟩) ?_
    rintro _ _ ⟨⟨rfl, hc9⟩, rfl⟩
    refine j_aload dX8_replace_12 rfl rfl ?_
    refine j_iload_n dX8_replace_14 rfl ?_
    refine j_callV (q := (RX4, TX4, 5)) dX8_replace_15 kX4_look lX8_137 inX4_look seX4_look rfl rfl (z_frame [16, 17, 18, 19, 20] rfl (by decide) (Nat.le_of_ble_eq_true rfl) (c_X4_look_e hl false _ _ _ _ (sp_T S 1) q ht1 (by omega))) (Nat.le_of_ble_eq_true rfl) ⟨(Nat.le_of_ble_eq_true rfl), (Nat.le_of_ble_eq_true rfl)⟩ rfl (Nat.le_of_ble_eq_true rfl) rfl rfl (fun _ _ h => h.elim) ?_
    rintro _ _ ⟨_, _, ⟨rfl, rfl⟩, rfl, rfl⟩
    refine j_ws (L' := z_cw _ _ _ _ _ _ _ _ _ _ _ _ _ _ _ _ _ _ _ _ _ _ _ _ _ _ _ _ _ _ _ _ _ _ _ _ _ _ _ _ _ _ _ _ _ _ _ _ _ _ _ _ _ _ _ _ []) (by decide) rfl rfl ?_
    refine j_sipush (v := (-1000)) dX8_replace_18 (by decide) ?_
    refine j_icmp_ne (tgt := 30) dX8_replace_21 (by decide) (fun c_21 => ?_) (fun c_21 => ?_)
    · have e9 : sp_rep (sp_srt 1) (sp_T S 1) (sp_C S 2) q y = (some (sp_lk (sp_T S 1) q), (sp_pt (sp_srt 1) (sp_T S 1) q y), z_bp (sp_C S 2) 5) := if_neg c_21
      refine j_aload dX8_replace_30 rfl rfl ?_
      refine j_iload_n dX8_replace_32 rfl ?_
      refine j_iload_n dX8_replace_33 rfl ?_
      refine j_callV (q := (RX4, TX4, 5)) dX8_replace_34 kX4_store lX8_130 inX4_store seX4_store rfl rfl (z_frame [16, 17, 18, 19, 20] rfl (by decide) (Nat.le_of_ble_eq_true rfl) (c_X4_store_e hl false _ _ _ (sp_T S 1) q y ht1 (by omega) (sp_vl hc9))) (Nat.le_of_ble_eq_true rfl) ⟨(Nat.le_of_ble_eq_true rfl), (Nat.le_of_ble_eq_true rfl)⟩ rfl (Nat.le_of_ble_eq_true rfl) rfl rfl (fun _ _ h => h.elim) ?_
      rintro _ _ ⟨_, _, ⟨rfl, f9, g9, ht9, rfl⟩, rfl, rfl⟩
      refine j_ws (L' := z_cw _ _ _ _ _ _ _ _ _ _ _ _ _ _ _ _ _ _ _ _ _ _ _ _ _ _ _ _ _ _ _ _ _ _ _ _ _ _ _ _ _ _ _ _ _ _ _ _ _ _ _ _ _ _ _ _ []) (by decide) rfl rfl ?_
      refine j_iret dX8_replace_37 rfl rfl ?_ (Nat.le_of_ble_eq_true rfl) (Nat.le_of_ble_eq_true rfl)
      refine ⟨rfl, (by first | exact z_cwl | rfl), ?_⟩
      rw [sp_i1, sp_in' (n := q) (by omega)]
      rw [e9]
      exact ⟨sp_k32_0 (Or.inr (Or.inl rfl)) (fun z => z.elim hk0 hc9), rfl, (sp_CWe hra hrb ht0 ht9 ht2 he0 he1 hzm3 hzm4 hzm5 rfl)⟩
    · have e9 : sp_rep (sp_srt 1) (sp_T S 1) (sp_C S 2) q y = (some (-1000), (sp_T S 1), (sp_C S 2)) := if_pos c_21
      refine j_sipush (v := (-1000)) dX8_replace_24 (by decide) ?_
      refine j_goto (tgt := 37) dX8_replace_27 (by decide) ?_
      refine j_iret dX8_replace_37 rfl rfl ?_ (Nat.le_of_ble_eq_true rfl) (Nat.le_of_ble_eq_true rfl)
      refine ⟨rfl, (by first | exact z_cwl | rfl), ?_⟩
      rw [sp_i1, sp_in' (n := q) (by omega)]
      rw [e9]
      exact ⟨sp_k32_0 (Or.inr (Or.inl rfl)) (fun z => z.elim hk0 hc9), rfl, (sp_CWe hra hrb ht0 ht1 ht2 he0 he1 hzm3 hzm4 hzm5 rfl)⟩
  · subst e_3
    refine j_astore (lo' := [(4, _), (0, _), (1, _), (2, _), (3, _)]) dX8_replace_6 rfl (by decide) rfl ?_
    refine j_iload_n dX8_replace_8 rfl ?_
    refine j_callS dX8_replace_9 kX8_checkValue lX8_50 stX8_checkValue (c_X8_checkValue_e hl _ _) (Nat.le_of_ble_eq_true rfl) ⟨(Nat.le_of_ble_eq_true rfl), (Nat.le_of_ble_eq_true rfl)⟩ rfl (Nat.le_of_ble_eq_true rfl) rfl rfl (fun _ _ h => by obtain ⟨h1, rfl⟩ := h; exact ⟨rfl, rfl, Or.inr ⟨h1.1, sp_k32_2 (Or.inr (Or.inr rfl)) (Or.inr h1.2)⟩, rfl⟩) ?_
    rintro _ _ ⟨⟨rfl, hc9⟩, rfl⟩
    refine j_aload dX8_replace_12 rfl rfl ?_
    refine j_iload_n dX8_replace_14 rfl ?_
    refine j_callV (q := (RX4, TX4, 5)) dX8_replace_15 kX4_look lX8_137 inX4_look seX4_look rfl rfl (z_frame [21, 22, 23, 24, 25] rfl (by decide) (Nat.le_of_ble_eq_true rfl) (c_X4_look_e hl true _ _ _ _ (sp_T S 2) q ht2 (by omega))) (Nat.le_of_ble_eq_true rfl) ⟨(Nat.le_of_ble_eq_true rfl), (Nat.le_of_ble_eq_true rfl)⟩ rfl (Nat.le_of_ble_eq_true rfl) rfl rfl (fun _ _ h => h.elim) ?_
    rintro _ _ ⟨_, _, ⟨rfl, rfl⟩, rfl, rfl⟩
    refine j_ws (L' := z_cw _ _ _ _ _ _ _ _ _ _ _ _ _ _ _ _ _ _ _ _ _ _ _ _ _ _ _ _ _ _ _ _ _ _ _ _ _ _ _ _ _ _ _ _ _ _ _ _ _ _ _ _ _ _ _ _ []) (by decide) rfl rfl ?_
    refine j_sipush (v := (-1000)) dX8_replace_18 (by decide) ?_
    refine j_icmp_ne (tgt := 30) dX8_replace_21 (by decide) (fun c_21 => ?_) (fun c_21 => ?_)
    · have e9 : sp_rep (sp_srt 2) (sp_T S 2) (sp_C S 2) q y = (some (sp_lk (sp_T S 2) q), (sp_pt (sp_srt 2) (sp_T S 2) q y), z_bp (sp_C S 2) 5) := if_neg c_21
      refine j_aload dX8_replace_30 rfl rfl ?_
      refine j_iload_n dX8_replace_32 rfl ?_
      refine j_iload_n dX8_replace_33 rfl ?_
      refine j_callV (q := (RX4, TX4, 5)) dX8_replace_34 kX4_store lX8_130 inX4_store seX4_store rfl rfl (z_frame [21, 22, 23, 24, 25] rfl (by decide) (Nat.le_of_ble_eq_true rfl) (c_X4_store_e hl true _ _ _ (sp_T S 2) q y ht2 (by omega) (sp_vl hc9))) (Nat.le_of_ble_eq_true rfl) ⟨(Nat.le_of_ble_eq_true rfl), (Nat.le_of_ble_eq_true rfl)⟩ rfl (Nat.le_of_ble_eq_true rfl) rfl rfl (fun _ _ h => h.elim) ?_
      rintro _ _ ⟨_, _, ⟨rfl, f9, g9, ht9, rfl⟩, rfl, rfl⟩
      refine j_ws (L' := z_cw _ _ _ _ _ _ _ _ _ _ _ _ _ _ _ _ _ _ _ _ _ _ _ _ _ _ _ _ _ _ _ _ _ _ _ _ _ _ _ _ _ _ _ _ _ _ _ _ _ _ _ _ _ _ _ _ []) (by decide) rfl rfl ?_
      refine j_iret dX8_replace_37 rfl rfl ?_ (Nat.le_of_ble_eq_true rfl) (Nat.le_of_ble_eq_true rfl)
      refine ⟨rfl, (by first | exact z_cwl | rfl), ?_⟩
      rw [sp_i2, sp_in' (n := q) (by omega)]
      rw [e9]
      exact ⟨sp_k32_0 (Or.inr (Or.inr rfl)) (fun z => z.elim hk0 hc9), rfl, (sp_CWe hra hrb ht0 ht1 ht9 he0 he1 hzm3 hzm4 hzm5 rfl)⟩
    · have e9 : sp_rep (sp_srt 2) (sp_T S 2) (sp_C S 2) q y = (some (-1000), (sp_T S 2), (sp_C S 2)) := if_pos c_21
      refine j_sipush (v := (-1000)) dX8_replace_24 (by decide) ?_
      refine j_goto (tgt := 37) dX8_replace_27 (by decide) ?_
      refine j_iret dX8_replace_37 rfl rfl ?_ (Nat.le_of_ble_eq_true rfl) (Nat.le_of_ble_eq_true rfl)
      refine ⟨rfl, (by first | exact z_cwl | rfl), ?_⟩
      rw [sp_i2, sp_in' (n := q) (by omega)]
      rw [e9]
      exact ⟨sp_k32_0 (Or.inr (Or.inr rfl)) (fun z => z.elim hk0 hc9), rfl, (sp_CWe hra hrb ht0 ht1 ht2 he0 he1 hzm3 hzm4 hzm5 rfl)⟩
set_option maxRecDepth 100000 in
set_option maxHeartbeats 8000000 in
theorem c_X8_replaceIf_p (hl : l.stackTraces = false) (S : sp_S) (fa : Nat → Int32) (fb : Nat → Int32) (mt : Int32) (ft : Nat → Int32) (ct : Nat → Int32) (f0 : Nat → Int32) (g0 : Nat → Int32) (f1 : Nat → Int32) (g1 : Nat → Int32) (c1 : Nat → Int32) (f2 : Nat → Int32) (g2 : Nat → Int32) (c2 : Nat → Int32) (f3 : Nat → Int32) (g3 : Nat → Int32) (c3 : Nat → Int32) (m3 : Int32) (f4 : Nat → Int32) (g4 : Nat → Int32) (c4 : Nat → Int32) (m4 : Int32) (f5 : Nat → Int32) (g5 : Nat → Int32) (c5 : Nat → Int32) (m5 : Int32) (ef0 : Nat → Int32) (ef1 : Nat → Int32) (t : Int32) (k : Int32) (o : Int32) (y : Int32) (ok : sp_ok S) (hra : z_row 12 (nI (sp_R S 0).length) fa (sp_R S 0)) (hrb : z_row 12 (nI (sp_R S 1).length) fb (sp_R S 1)) (ht0 : z_tba f0 g0 (sp_T S 0)) (ht1 : z_tba f1 g1 (sp_T S 1)) (ht2 : z_tba f2 g2 (sp_T S 2)) (he0 : z_row 10 (nI (sp_E S 0).2.length) ef0 (sp_E S 0).2) (he1 : z_row 10 (nI (sp_E S 1).2.length) ef1 (sp_E S 1).2) (hzm3 : z_m20 m3) (hzm4 : z_m20 m4) (hzm5 : z_m20 m5) : z_CX G l mX8_replaceIf 20 14 120 (z_cw S.1.1 S.1.2 (nI (sp_R S 0).length) (sp_F S 0) fa (sp_C S 0) (nI (sp_R S 1).length) (sp_F S 1) fb (sp_C S 1) mt false ft ct f0 g0 (sp_C S 2) (nI (sp_T S 0).length) 0 f1 g1 c1 (nI (sp_T S 1).length) 0 f2 g2 c2 (nI (sp_T S 2).length) 1 f3 g3 c3 m3 0 f4 g4 c4 m4 0 f5 g5 c5 m5 1 (nI (sp_E S 0).2.length) (sp_E S 0).1.2.1 (sp_E S 0).1.2.2.1 (sp_E S 0).1.2.2.2 (sp_E S 0).1.1 ef0 (nI (sp_E S 1).2.length) (sp_E S 1).1.2.1 (sp_E S 1).1.2.2.1 (sp_E S 1).1.2.2.2 (sp_E S 1).1.1 ef1 []) [.ref 0, .int t, .int k, .int o, .int y] (fun v L => sp_k32 t (sp_bk k ∨ sp_bv o ∨ sp_bv y) = 0 ∧ v = some (.int ((sp_rif (sp_srt (sp_i t)) (sp_T S (sp_i t)) (sp_C S 2) (sp_i k) o y).1.getD (-9))) ∧ sp_CW (sp_tb S (sp_i t) (sp_rif (sp_srt (sp_i t)) (sp_T S (sp_i t)) (sp_C S 2) (sp_i k) o y)) L) (fun E L => ((z_xI E ∧ sp_k32 t (sp_bk k ∨ sp_bv o ∨ sp_bv y) = 1) ∨ (z_xA E ∧ sp_k32 t (sp_bk k ∨ sp_bv o ∨ sp_bv y) = 2)) ∧ L = (z_cw S.1.1 S.1.2 (nI (sp_R S 0).length) (sp_F S 0) fa (sp_C S 0) (nI (sp_R S 1).length) (sp_F S 1) fb (sp_C S 1) mt false ft ct f0 g0 (sp_C S 2) (nI (sp_T S 0).length) 0 f1 g1 c1 (nI (sp_T S 1).length) 0 f2 g2 c2 (nI (sp_T S 2).length) 1 f3 g3 c3 m3 0 f4 g4 c4 m4 0 f5 g5 c5 m5 1 (nI (sp_E S 0).2.length) (sp_E S 0).1.2.1 (sp_E S 0).1.2.2.1 (sp_E S 0).1.2.2.2 (sp_E S 0).1.1 ef0 (nI (sp_E S 1).2.length) (sp_E S 1).1.2.1 (sp_E S 1).1.2.2.1 (sp_E S 1).1.2.2.2 (sp_E S 1).1.1 ef1 [])) := by
  refine z_body hl (by decide) rfl (Nat.le_of_ble_eq_true rfl) ?_
  show z_J G l mX8_replaceIf (z_SX 20 14 120 (z_cw S.1.1 S.1.2 (nI (sp_R S 0).length) (sp_F S 0) fa (sp_C S 0) (nI (sp_R S 1).length) (sp_F S 1) fb (sp_C S 1) mt false ft ct f0 g0 (sp_C S 2) (nI (sp_T S 0).length) 0 f1 g1 c1 (nI (sp_T S 1).length) 0 f2 g2 c2 (nI (sp_T S 2).length) 1 f3 g3 c3 m3 0 f4 g4 c4 m4 0 f5 g5 c5 m5 1 (nI (sp_E S 0).2.length) (sp_E S 0).1.2.1 (sp_E S 0).1.2.2.1 (sp_E S 0).1.2.2.2 (sp_E S 0).1.1 ef0 (nI (sp_E S 1).2.length) (sp_E S 1).1.2.1 (sp_E S 1).1.2.2.1 (sp_E S 1).1.2.2.2 (sp_E S 1).1.1 ef1 []) (fun v L => sp_k32 t (sp_bk k ∨ sp_bv o ∨ sp_bv y) = 0 ∧ v = some (.int ((sp_rif (sp_srt (sp_i t)) (sp_T S (sp_i t)) (sp_C S 2) (sp_i k) o y).1.getD (-9))) ∧ sp_CW (sp_tb S (sp_i t) (sp_rif (sp_srt (sp_i t)) (sp_T S (sp_i t)) (sp_C S 2) (sp_i k) o y)) L) (fun E L => ((z_xI E ∧ sp_k32 t (sp_bk k ∨ sp_bv o ∨ sp_bv y) = 1) ∨ (z_xA E ∧ sp_k32 t (sp_bk k ∨ sp_bv o ∨ sp_bv y) = 2)) ∧ L = (z_cw S.1.1 S.1.2 (nI (sp_R S 0).length) (sp_F S 0) fa (sp_C S 0) (nI (sp_R S 1).length) (sp_F S 1) fb (sp_C S 1) mt false ft ct f0 g0 (sp_C S 2) (nI (sp_T S 0).length) 0 f1 g1 c1 (nI (sp_T S 1).length) 0 f2 g2 c2 (nI (sp_T S 2).length) 1 f3 g3 c3 m3 0 f4 g4 c4 m4 0 f5 g5 c5 m5 1 (nI (sp_E S 0).2.length) (sp_E S 0).1.2.1 (sp_E S 0).1.2.2.1 (sp_E S 0).1.2.2.2 (sp_E S 0).1.1 ef0 (nI (sp_E S 1).2.length) (sp_E S 1).1.2.1 (sp_E S 1).1.2.2.1 (sp_E S 1).1.2.2.2 (sp_E S 1).1.1 ef1 []))) 0 [(0, _), (1, _), (2, _), (3, _), (4, _)] [] _ 0 0
  refine j_aload_n dX8_replaceIf_0 rfl rfl ?_
  refine j_iload_n dX8_replaceIf_1 rfl ?_
  refine j_iload_n dX8_replaceIf_2 rfl ?_
  refine j_callV (q := (RX8, TX8, 9)) dX8_replaceIf_3 kX8_tableFor_ lX8_126 inX8_tableFor_ seX8_tableFor_ rfl rfl (z_dirX (c_X8_tableFor__e hl _ _ _ _ _ _ _ _ _ _ _ _ _ _ _ _ _ _ _ _ _ _ _ _ _ _ _ _ _ _ _ _ _ _ _ _ _ _ _ _ _ _ _ _ _ _ _ _ _ _ _ _ _ _ _ _ _ _)) (Nat.le_of_ble_eq_true rfl) ⟨(Nat.le_of_ble_eq_true rfl), (Nat.le_of_ble_eq_true rfl)⟩ rfl (Nat.le_of_ble_eq_true rfl) rfl rfl (fun _ _ h => by obtain ⟨_, ⟨h1, rfl⟩, rfl⟩ := h; exact ⟨rfl, rfl, h1.elim (fun z => Or.inl ⟨z.1, sp_k32_1 z.2⟩) (fun z => Or.inr ⟨z.1, sp_k32_2 z.2.1 (Or.inl (z.2.2))⟩), rfl⟩) ?_
  rintro _ _ ⟨_, ⟨_, rfl, hr, hk3, rfl⟩, rfl⟩
  have hk0 := hk3
  obtain ⟨q, hq, rfl⟩ := sp_nt (m := 19) rfl (by decide) hk0
  rcases hr with ⟨e_3, rfl⟩ | ⟨e_3, rfl⟩ | ⟨e_3, rfl⟩
  · subst e_3
    refine j_astore (lo' := [(5, _), (0, _), (1, _), (2, _), (3, _), (4, _)]) dX8_replaceIf_6 rfl (by decide) rfl ?_
    refine j_iload_n dX8_replaceIf_8 rfl ?_
    refine j_callS dX8_replaceIf_9 kX8_checkValue lX8_50 stX8_checkValue (c_X8_checkValue_e hl _ _) (Nat.le_of_ble_eq_true rfl) ⟨(Nat.le_of_ble_eq_true rfl), (Nat.le_of_ble_eq_true rfl)⟩ rfl (Nat.le_of_ble_eq_true rfl) rfl rfl (fun _ _ h => by obtain ⟨h1, rfl⟩ := h; exact ⟨rfl, rfl, Or.inr ⟨h1.1, sp_k32_2 (Or.inl rfl) (Or.inr <| Or.inl h1.2)⟩, rfl⟩) ?_
    rintro _ _ ⟨⟨rfl, hc9⟩, rfl⟩
    refine j_iload dX8_replaceIf_12 rfl ?_
    refine j_callS dX8_replaceIf_14 kX8_checkValue lX8_50 stX8_checkValue (c_X8_checkValue_e hl _ _) (Nat.le_of_ble_eq_true rfl) ⟨(Nat.le_of_ble_eq_true rfl), (Nat.le_of_ble_eq_true rfl)⟩ rfl (Nat.le_of_ble_eq_true rfl) rfl rfl (fun _ _ h => by obtain ⟨h1, rfl⟩ := h; exact ⟨rfl, rfl, Or.inr ⟨h1.1, sp_k32_2 (Or.inl rfl) (Or.inr <| Or.inr h1.2)⟩, rfl⟩) ?_
    rintro _ _ ⟨⟨rfl, hc14⟩, rfl⟩
    refine j_aload dX8_replaceIf_17 rfl rfl ?_
    refine j_iload_n dX8_replaceIf_19 rfl ?_
    refine j_callV (q := (RX4, TX4, 5)) dX8_replaceIf_20 kX4_look lX8_137 inX4_look seX4_look rfl rfl (z_frame [10, 11, 12, 13, 14] rfl (by decide) (Nat.le_of_ble_eq_true rfl) (c_X4_look_e hl false _ _ _ _ (sp_T S 0) q ht0 (by omega))) (Nat.le_of_ble_eq_true rfl) ⟨(Nat.le_of_ble_eq_true rfl), (Nat.le_of_ble_eq_true rfl)⟩ rfl (Nat.le_of_ble_eq_true rfl) rfl rfl (fun _ _ h => h.elim) ?_
    rintro _ _ ⟨_, _, ⟨rfl, rfl⟩, rfl, rfl⟩
    refine j_ws (L' := z_cw _ _ _ _ _ _ _ _ _ _ _ _ _ _ _ _ _ _ _ _ _ _ _ _ _ _ _ _ _ _ _ _ _ _ _ _ _ _ _ _ _ _ _ _ _ _ _ _ _ _ _ _ _ _ _ _ []) (by decide) rfl rfl ?_
    refine j_iload_n dX8_replaceIf_23 rfl ?_
    refine j_icmp_eq (tgt := 29) dX8_replaceIf_24 (by decide) (fun c_24 => ?_) (fun c_24 => ?_)
    · have e9 : sp_rif (sp_srt 0) (sp_T S 0) (sp_C S 2) q o y = (some 1, (sp_pt (sp_srt 0) (sp_T S 0) q y), z_bp (sp_C S 2) 5) := if_pos c_24
      refine j_aload dX8_replaceIf_29 rfl rfl ?_
      refine j_iload_n dX8_replaceIf_31 rfl ?_
      refine j_iload dX8_replaceIf_32 rfl ?_
      refine j_callV (q := (RX4, TX4, 5)) dX8_replaceIf_34 kX4_store lX8_130 inX4_store seX4_store rfl rfl (z_frame [10, 11, 12, 13, 14] rfl (by decide) (Nat.le_of_ble_eq_true rfl) (c_X4_store_e hl false _ _ _ (sp_T S 0) q y ht0 (by omega) (sp_vl hc14))) (Nat.le_of_ble_eq_true rfl) ⟨(Nat.le_of_ble_eq_true rfl), (Nat.le_of_ble_eq_true rfl)⟩ rfl (Nat.le_of_ble_eq_true rfl) rfl rfl (fun _ _ h => h.elim) ?_
      rintro _ _ ⟨_, _, ⟨rfl, f9, g9, ht9, rfl⟩, rfl, rfl⟩
      refine j_ws (L' := z_cw _ _ _ _ _ _ _ _ _ _ _ _ _ _ _ _ _ _ _ _ _ _ _ _ _ _ _ _ _ _ _ _ _ _ _ _ _ _ _ _ _ _ _ _ _ _ _ _ _ _ _ _ _ _ _ _ []) (by decide) rfl rfl ?_
      refine j_pop dX8_replaceIf_37 rfl ?_
      refine j_iconst (v := 1) dX8_replaceIf_38 (by decide) ?_
      refine j_iret dX8_replaceIf_39 rfl rfl ?_ (Nat.le_of_ble_eq_true rfl) (Nat.le_of_ble_eq_true rfl)
      refine ⟨rfl, (by first | exact z_cwl | rfl), ?_⟩
      rw [sp_i0, sp_in' (n := q) (by omega)]
      rw [e9]
      exact ⟨sp_k32_0 (Or.inl rfl) (fun z => z.elim hk0 (fun z => z.elim hc9 hc14)), rfl, (sp_CWe hra hrb ht9 ht1 ht2 he0 he1 hzm3 hzm4 hzm5 rfl)⟩
    · have e9 : sp_rif (sp_srt 0) (sp_T S 0) (sp_C S 2) q o y = (some 0, (sp_T S 0), (sp_C S 2)) := if_neg c_24
      refine j_iconst (v := 0) dX8_replaceIf_27 (by decide) ?_
      refine j_iret dX8_replaceIf_28 rfl rfl ?_ (Nat.le_of_ble_eq_true rfl) (Nat.le_of_ble_eq_true rfl)
      refine ⟨rfl, (by first | exact z_cwl | rfl), ?_⟩
      rw [sp_i0, sp_in' (n := q) (by omega)]
      rw [e9]
      exact ⟨sp_k32_0 (Or.inl rfl) (fun z => z.elim hk0 (fun z => z.elim hc9 hc14)), rfl, (sp_CWe hra hrb ht0 ht1 ht2 he0 he1 hzm3 hzm4 hzm5 rfl)⟩
  · subst e_3
    refine j_astore (lo' := [(5, _), (0, _), (1, _), (2, _), (3, _), (4, _)]) dX8_replaceIf_6 rfl (by decide) rfl ?_
    refine j_iload_n dX8_replaceIf_8 rfl ?_
    refine j_callS dX8_replaceIf_9 kX8_checkValue lX8_50 stX8_checkValue (c_X8_checkValue_e hl _ _) (Nat.le_of_ble_eq_true rfl) ⟨(Nat.le_of_ble_eq_true rfl), (Nat.le_of_ble_eq_true rfl)⟩ rfl (Nat.le_of_ble_eq_true rfl) rfl rfl (fun _ _ h => by obtain ⟨h1, rfl⟩ := h; exact ⟨rfl, rfl, Or.inr ⟨h1.1, sp_k32_2 (Or.inr (Or.inl rfl)) (Or.inr <| Or.inl h1.2)⟩, rfl⟩) ?_
    rintro _ _ ⟨⟨rfl, hc9⟩, rfl⟩
    refine j_iload dX8_replaceIf_12 rfl ?_
    refine j_callS dX8_replaceIf_14 kX8_checkValue lX8_50 stX8_checkValue (c_X8_checkValue_e hl _ _) (Nat.le_of_ble_eq_true rfl) ⟨(Nat.le_of_ble_eq_true rfl), (Nat.le_of_ble_eq_true rfl)⟩ rfl (Nat.le_of_ble_eq_true rfl) rfl rfl (fun _ _ h => by obtain ⟨h1, rfl⟩ := h; exact ⟨rfl, rfl, Or.inr ⟨h1.1, sp_k32_2 (Or.inr (Or.inl rfl)) (Or.inr <| Or.inr h1.2)⟩, rfl⟩) ?_
    rintro _ _ ⟨⟨rfl, hc14⟩, rfl⟩
    refine j_aload dX8_replaceIf_17 rfl rfl ?_
    refine j_iload_n dX8_replaceIf_19 rfl ?_
    refine j_callV (q := (RX4, TX4, 5)) dX8_replaceIf_20 kX4_look lX8_137 inX4_look seX4_look rfl rfl (z_frame [16, 17, 18, 19, 20] rfl (by decide) (Nat.le_of_ble_eq_true rfl) (c_X4_look_e hl false _ _ _ _ (sp_T S 1) q ht1 (by omega))) (Nat.le_of_ble_eq_true rfl) ⟨(Nat.le_of_ble_eq_true rfl), (Nat.le_of_ble_eq_true rfl)⟩ rfl (Nat.le_of_ble_eq_true rfl) rfl rfl (fun _ _ h => h.elim) ?_
    rintro _ _ ⟨_, _, ⟨rfl, rfl⟩, rfl, rfl⟩
    refine j_ws (L' := z_cw _ _ _ _ _ _ _ _ _ _ _ _ _ _ _ _ _ _ _ _ _ _ _ _ _ _ _ _ _ _ _ _ _ _ _ _ _ _ _ _ _ _ _ _ _ _ _ _ _ _ _ _ _ _ _ _ []) (by decide) rfl rfl ?_
    refine j_iload_n dX8_replaceIf_23 rfl ?_
    refine j_icmp_eq (tgt := 29) dX8_replaceIf_24 (by decide) (fun c_24 => ?_) (fun c_24 => ?_)
    · have e9 : sp_rif (sp_srt 1) (sp_T S 1) (sp_C S 2) q o y = (some 1, (sp_pt (sp_srt 1) (sp_T S 1) q y), z_bp (sp_C S 2) 5) := if_pos c_24
      refine j_aload dX8_replaceIf_29 rfl rfl ?_
      refine j_iload_n dX8_replaceIf_31 rfl ?_
      refine j_iload dX8_replaceIf_32 rfl ?_
      refine j_callV (q := (RX4, TX4, 5)) dX8_replaceIf_34 kX4_store lX8_130 inX4_store seX4_store rfl rfl (z_frame [16, 17, 18, 19, 20] rfl (by decide) (Nat.le_of_ble_eq_true rfl) (c_X4_store_e hl false _ _ _ (sp_T S 1) q y ht1 (by omega) (sp_vl hc14))) (Nat.le_of_ble_eq_true rfl) ⟨(Nat.le_of_ble_eq_true rfl), (Nat.le_of_ble_eq_true rfl)⟩ rfl (Nat.le_of_ble_eq_true rfl) rfl rfl (fun _ _ h => h.elim) ?_
      rintro _ _ ⟨_, _, ⟨rfl, f9, g9, ht9, rfl⟩, rfl, rfl⟩
      refine j_ws (L' := z_cw _ _ _ _ _ _ _ _ _ _ _ _ _ _ _ _ _ _ _ _ _ _ _ _ _ _ _ _ _ _ _ _ _ _ _ _ _ _ _ _ _ _ _ _ _ _ _ _ _ _ _ _ _ _ _ _ []) (by decide) rfl rfl ?_
      refine j_pop dX8_replaceIf_37 rfl ?_
      refine j_iconst (v := 1) dX8_replaceIf_38 (by decide) ?_
      refine j_iret dX8_replaceIf_39 rfl rfl ?_ (Nat.le_of_ble_eq_true rfl) (Nat.le_of_ble_eq_true rfl)
      refine ⟨rfl, (by first | exact z_cwl | rfl), ?_⟩
      rw [sp_i1, sp_in' (n := q) (by omega)]
      rw [e9]
      exact ⟨sp_k32_0 (Or.inr (Or.inl rfl)) (fun z => z.elim hk0 (fun z => z.elim hc9 hc14)), rfl, (sp_CWe hra hrb ht0 ht9 ht2 he0 he1 hzm3 hzm4 hzm5 rfl)⟩
    · have e9 : sp_rif (sp_srt 1) (sp_T S 1) (sp_C S 2) q o y = (some 0, (sp_T S 1), (sp_C S 2)) := if_neg c_24
      refine j_iconst (v := 0) dX8_replaceIf_27 (by decide) ?_
      refine j_iret dX8_replaceIf_28 rfl rfl ?_ (Nat.le_of_ble_eq_true rfl) (Nat.le_of_ble_eq_true rfl)
      refine ⟨rfl, (by first | exact z_cwl | rfl), ?_⟩
      rw [sp_i1, sp_in' (n := q) (by omega)]
      rw [e9]
      exact ⟨sp_k32_0 (Or.inr (Or.inl rfl)) (fun z => z.elim hk0 (fun z => z.elim hc9 hc14)), rfl, (sp_CWe hra hrb ht0 ht1 ht2 he0 he1 hzm3 hzm4 hzm5 rfl)⟩
  · subst e_3
    refine j_astore (lo' := [(5, _), (0, _), (1, _), (2, _), (3, _), (4, _)]) dX8_replaceIf_6 rfl (by decide) rfl ?_
    refine j_iload_n dX8_replaceIf_8 rfl ?_
    refine j_callS dX8_replaceIf_9 kX8_checkValue lX8_50 stX8_checkValue (c_X8_checkValue_e hl _ _) (Nat.le_of_ble_eq_true rfl) ⟨(Nat.le_of_ble_eq_true rfl), (Nat.le_of_ble_eq_true rfl)⟩ rfl (Nat.le_of_ble_eq_true rfl) rfl rfl (fun _ _ h => by obtain ⟨h1, rfl⟩ := h; exact ⟨rfl, rfl, Or.inr ⟨h1.1, sp_k32_2 (Or.inr (Or.inr rfl)) (Or.inr <| Or.inl h1.2)⟩, rfl⟩) ?_
    rintro _ _ ⟨⟨rfl, hc9⟩, rfl⟩
    refine j_iload dX8_replaceIf_12 rfl ?_
    refine j_callS dX8_replaceIf_14 kX8_checkValue lX8_50 stX8_checkValue (c_X8_checkValue_e hl _ _) (Nat.le_of_ble_eq_true rfl) ⟨(Nat.le_of_ble_eq_true rfl), (Nat.le_of_ble_eq_true rfl)⟩ rfl (Nat.le_of_ble_eq_true rfl) rfl rfl (fun _ _ h => by obtain ⟨h1, rfl⟩ := h; exact ⟨rfl, rfl, Or.inr ⟨h1.1, sp_k32_2 (Or.inr (Or.inr rfl)) (Or.inr <| Or.inr h1.2)⟩, rfl⟩) ?_
    rintro _ _ ⟨⟨rfl, hc14⟩, rfl⟩
    refine j_aload dX8_replaceIf_17 rfl rfl ?_
    refine j_iload_n dX8_replaceIf_19 rfl ?_
    refine j_callV (q := (RX4, TX4, 5)) dX8_replaceIf_20 kX4_look lX8_137 inX4_look seX4_look rfl rfl (z_frame [21, 22, 23, 24, 25] rfl (by decide) (Nat.le_of_ble_eq_true rfl) (c_X4_look_e hl true _ _ _ _ (sp_T S 2) q ht2 (by omega))) (Nat.le_of_ble_eq_true rfl) ⟨(Nat.le_of_ble_eq_true rfl), (Nat.le_of_ble_eq_true rfl)⟩ rfl (Nat.le_of_ble_eq_true rfl) rfl rfl (fun _ _ h => h.elim) ?_
    rintro _ _ ⟨_, _, ⟨rfl, rfl⟩, rfl, rfl⟩
    refine j_ws (L' := z_cw _ _ _ _ _ _ _ _ _ _ _ _ _ _ _ _ _ _ _ _ _ _ _ _ _ _ _ _ _ _ _ _ _ _ _ _ _ _ _ _ _ _ _ _ _ _ _ _ _ _ _ _ _ _ _ _ []) (by decide) rfl rfl ?_
    refine j_iload_n dX8_replaceIf_23 rfl ?_
    refine j_icmp_eq (tgt := 29) dX8_replaceIf_24 (by decide) (fun c_24 => ?_) (fun c_24 => ?_)
    · have e9 : sp_rif (sp_srt 2) (sp_T S 2) (sp_C S 2) q o y = (some 1, (sp_pt (sp_srt 2) (sp_T S 2) q y), z_bp (sp_C S 2) 5) := if_pos c_24
      refine j_aload dX8_replaceIf_29 rfl rfl ?_
      refine j_iload_n dX8_replaceIf_31 rfl ?_
      refine j_iload dX8_replaceIf_32 rfl ?_
      refine j_callV (q := (RX4, TX4, 5)) dX8_replaceIf_34 kX4_store lX8_130 inX4_store seX4_store rfl rfl (z_frame [21, 22, 23, 24, 25] rfl (by decide) (Nat.le_of_ble_eq_true rfl) (c_X4_store_e hl true _ _ _ (sp_T S 2) q y ht2 (by omega) (sp_vl hc14))) (Nat.le_of_ble_eq_true rfl) ⟨(Nat.le_of_ble_eq_true rfl), (Nat.le_of_ble_eq_true rfl)⟩ rfl (Nat.le_of_ble_eq_true rfl) rfl rfl (fun _ _ h => h.elim) ?_
      rintro _ _ ⟨_, _, ⟨rfl, f9, g9, ht9, rfl⟩, rfl, rfl⟩
      refine j_ws (L' := z_cw _ _ _ _ _ _ _ _ _ _ _ _ _ _ _ _ _ _ _ _ _ _ _ _ _ _ _ _ _ _ _ _ _ _ _ _ _ _ _ _ _ _ _ _ _ _ _ _ _ _ _ _ _ _ _ _ []) (by decide) rfl rfl ?_
      refine j_pop dX8_replaceIf_37 rfl ?_
      refine j_iconst (v := 1) dX8_replaceIf_38 (by decide) ?_
      refine j_iret dX8_replaceIf_39 rfl rfl ?_ (Nat.le_of_ble_eq_true rfl) (Nat.le_of_ble_eq_true rfl)
      refine ⟨rfl, (by first | exact z_cwl | rfl), ?_⟩
      rw [sp_i2, sp_in' (n := q) (by omega)]
      rw [e9]
      exact ⟨sp_k32_0 (Or.inr (Or.inr rfl)) (fun z => z.elim hk0 (fun z => z.elim hc9 hc14)), rfl, (sp_CWe hra hrb ht0 ht1 ht9 he0 he1 hzm3 hzm4 hzm5 rfl)⟩
    · have e9 : sp_rif (sp_srt 2) (sp_T S 2) (sp_C S 2) q o y = (some 0, (sp_T S 2), (sp_C S 2)) := if_neg c_24
      refine j_iconst (v := 0) dX8_replaceIf_27 (by decide) ?_
      refine j_iret dX8_replaceIf_28 rfl rfl ?_ (Nat.le_of_ble_eq_true rfl) (Nat.le_of_ble_eq_true rfl)
      refine ⟨rfl, (by first | exact z_cwl | rfl), ?_⟩
      rw [sp_i2, sp_in' (n := q) (by omega)]
      rw [e9]
      exact ⟨sp_k32_0 (Or.inr (Or.inr rfl)) (fun z => z.elim hk0 (fun z => z.elim hc9 hc14)), rfl, (sp_CWe hra hrb ht0 ht1 ht2 he0 he1 hzm3 hzm4 hzm5 rfl)⟩
set_option maxRecDepth 100000 in
set_option maxHeartbeats 8000000 in
theorem c_X8_removePair_p (hl : l.stackTraces = false) (S : sp_S) (fa : Nat → Int32) (fb : Nat → Int32) (mt : Int32) (ft : Nat → Int32) (ct : Nat → Int32) (f0 : Nat → Int32) (g0 : Nat → Int32) (f1 : Nat → Int32) (g1 : Nat → Int32) (c1 : Nat → Int32) (f2 : Nat → Int32) (g2 : Nat → Int32) (c2 : Nat → Int32) (f3 : Nat → Int32) (g3 : Nat → Int32) (c3 : Nat → Int32) (m3 : Int32) (f4 : Nat → Int32) (g4 : Nat → Int32) (c4 : Nat → Int32) (m4 : Int32) (f5 : Nat → Int32) (g5 : Nat → Int32) (c5 : Nat → Int32) (m5 : Int32) (ef0 : Nat → Int32) (ef1 : Nat → Int32) (t : Int32) (k : Int32) (y : Int32) (ok : sp_ok S) (hra : z_row 12 (nI (sp_R S 0).length) fa (sp_R S 0)) (hrb : z_row 12 (nI (sp_R S 1).length) fb (sp_R S 1)) (ht0 : z_tba f0 g0 (sp_T S 0)) (ht1 : z_tba f1 g1 (sp_T S 1)) (ht2 : z_tba f2 g2 (sp_T S 2)) (he0 : z_row 10 (nI (sp_E S 0).2.length) ef0 (sp_E S 0).2) (he1 : z_row 10 (nI (sp_E S 1).2.length) ef1 (sp_E S 1).2) (hzm3 : z_m20 m3) (hzm4 : z_m20 m4) (hzm5 : z_m20 m5) : z_CX G l mX8_removePair 20 14 120 (z_cw S.1.1 S.1.2 (nI (sp_R S 0).length) (sp_F S 0) fa (sp_C S 0) (nI (sp_R S 1).length) (sp_F S 1) fb (sp_C S 1) mt false ft ct f0 g0 (sp_C S 2) (nI (sp_T S 0).length) 0 f1 g1 c1 (nI (sp_T S 1).length) 0 f2 g2 c2 (nI (sp_T S 2).length) 1 f3 g3 c3 m3 0 f4 g4 c4 m4 0 f5 g5 c5 m5 1 (nI (sp_E S 0).2.length) (sp_E S 0).1.2.1 (sp_E S 0).1.2.2.1 (sp_E S 0).1.2.2.2 (sp_E S 0).1.1 ef0 (nI (sp_E S 1).2.length) (sp_E S 1).1.2.1 (sp_E S 1).1.2.2.1 (sp_E S 1).1.2.2.2 (sp_E S 1).1.1 ef1 []) [.ref 0, .int t, .int k, .int y] (fun v L => sp_k32 t (sp_bk k ∨ sp_bv y) = 0 ∧ v = some (.int ((sp_rmp (sp_T S (sp_i t)) (sp_C S 2) (sp_i k) y).1.getD (-9))) ∧ sp_CW (sp_tb S (sp_i t) (sp_rmp (sp_T S (sp_i t)) (sp_C S 2) (sp_i k) y)) L) (fun E L => ((z_xI E ∧ sp_k32 t (sp_bk k ∨ sp_bv y) = 1) ∨ (z_xA E ∧ sp_k32 t (sp_bk k ∨ sp_bv y) = 2)) ∧ L = (z_cw S.1.1 S.1.2 (nI (sp_R S 0).length) (sp_F S 0) fa (sp_C S 0) (nI (sp_R S 1).length) (sp_F S 1) fb (sp_C S 1) mt false ft ct f0 g0 (sp_C S 2) (nI (sp_T S 0).length) 0 f1 g1 c1 (nI (sp_T S 1).length) 0 f2 g2 c2 (nI (sp_T S 2).length) 1 f3 g3 c3 m3 0 f4 g4 c4 m4 0 f5 g5 c5 m5 1 (nI (sp_E S 0).2.length) (sp_E S 0).1.2.1 (sp_E S 0).1.2.2.1 (sp_E S 0).1.2.2.2 (sp_E S 0).1.1 ef0 (nI (sp_E S 1).2.length) (sp_E S 1).1.2.1 (sp_E S 1).1.2.2.1 (sp_E S 1).1.2.2.2 (sp_E S 1).1.1 ef1 [])) := by
  refine z_body hl (by decide) rfl (Nat.le_of_ble_eq_true rfl) ?_
  show z_J G l mX8_removePair (z_SX 20 14 120 (z_cw S.1.1 S.1.2 (nI (sp_R S 0).length) (sp_F S 0) fa (sp_C S 0) (nI (sp_R S 1).length) (sp_F S 1) fb (sp_C S 1) mt false ft ct f0 g0 (sp_C S 2) (nI (sp_T S 0).length) 0 f1 g1 c1 (nI (sp_T S 1).length) 0 f2 g2 c2 (nI (sp_T S 2).length) 1 f3 g3 c3 m3 0 f4 g4 c4 m4 0 f5 g5 c5 m5 1 (nI (sp_E S 0).2.length) (sp_E S 0).1.2.1 (sp_E S 0).1.2.2.1 (sp_E S 0).1.2.2.2 (sp_E S 0).1.1 ef0 (nI (sp_E S 1).2.length) (sp_E S 1).1.2.1 (sp_E S 1).1.2.2.1 (sp_E S 1).1.2.2.2 (sp_E S 1).1.1 ef1 []) (fun v L => sp_k32 t (sp_bk k ∨ sp_bv y) = 0 ∧ v = some (.int ((sp_rmp (sp_T S (sp_i t)) (sp_C S 2) (sp_i k) y).1.getD (-9))) ∧ sp_CW (sp_tb S (sp_i t) (sp_rmp (sp_T S (sp_i t)) (sp_C S 2) (sp_i k) y)) L) (fun E L => ((z_xI E ∧ sp_k32 t (sp_bk k ∨ sp_bv y) = 1) ∨ (z_xA E ∧ sp_k32 t (sp_bk k ∨ sp_bv y) = 2)) ∧ L = (z_cw S.1.1 S.1.2 (nI (sp_R S 0).length) (sp_F S 0) fa (sp_C S 0) (nI (sp_R S 1).length) (sp_F S 1) fb (sp_C S 1) mt false ft ct f0 g0 (sp_C S 2) (nI (sp_T S 0).length) 0 f1 g1 c1 (nI (sp_T S 1).length) 0 f2 g2 c2 (nI (sp_T S 2).length) 1 f3 g3 c3 m3 0 f4 g4 c4 m4 0 f5 g5 c5 m5 1 (nI (sp_E S 0).2.length) (sp_E S 0).1.2.1 (sp_E S 0).1.2.2.1 (sp_E S 0).1.2.2.2 (sp_E S 0).1.1 ef0 (nI (sp_E S 1).2.length) (sp_E S 1).1.2.1 (sp_E S 1).1.2.2.1 (sp_E S 1).1.2.2.2 (sp_E S 1).1.1 ef1 []))) 0 [(0, _), (1, _), (2, _), (3, _)] [] _ 0 0
  refine j_aload_n dX8_removePair_0 rfl rfl ?_
  refine j_iload_n dX8_removePair_1 rfl ?_
  refine j_iload_n dX8_removePair_2 rfl ?_
  refine j_callV (q := (RX8, TX8, 9)) dX8_removePair_3 kX8_tableFor_ lX8_126 inX8_tableFor_ seX8_tableFor_ rfl rfl (z_dirX (c_X8_tableFor__e hl _ _ _ _ _ _ _ _ _ _ _ _ _ _ _ _ _ _ _ _ _ _ _ _ _ _ _ _ _ _ _ _ _ _ _ _ _ _ _ _ _ _ _ _ _ _ _ _ _ _ _ _ _ _ _ _ _ _)) (Nat.le_of_ble_eq_true rfl) ⟨(Nat.le_of_ble_eq_true rfl), (Nat.le_of_ble_eq_true rfl)⟩ rfl (Nat.le_of_ble_eq_true rfl) rfl rfl (fun _ _ h => by obtain ⟨_, ⟨h1, rfl⟩, rfl⟩ := h; exact ⟨rfl, rfl, h1.elim (fun z => Or.inl ⟨z.1, sp_k32_1 z.2⟩) (fun z => Or.inr ⟨z.1, sp_k32_2 z.2.1 (Or.inl (z.2.2))⟩), rfl⟩) ?_
  rintro _ _ ⟨_, ⟨_, rfl, hr, hk3, rfl⟩, rfl⟩
  have hk0 := hk3
  obtain ⟨q, hq, rfl⟩ := sp_nt (m := 19) rfl (by decide) hk0
  rcases hr with ⟨e_3, rfl⟩ | ⟨e_3, rfl⟩ | ⟨e_3, rfl⟩
  · subst e_3
    refine j_astore (lo' := [(4, _), (0, _), (1, _), (2, _), (3, _)]) dX8_removePair_6 rfl (by decide) rfl ?_
    refine j_iload_n dX8_removePair_8 rfl ?_
    refine j_callS dX8_removePair_9 kX8_checkValue lX8_50 stX8_checkValue (c_X8_checkValue_e hl _ _) (Nat.le_of_ble_eq_true rfl) ⟨(Nat.le_of_ble_eq_true rfl), (Nat.le_of_ble_eq_true rfl)⟩ rfl (Nat.le_of_ble_eq_true rfl) rfl rfl (fun _ _ h => by obtain ⟨h1, rfl⟩ := h; exact ⟨rfl, rfl, Or.inr ⟨h1.1, sp_k32_2 (Or.inl rfl) (Or.inr h1.2)⟩, rfl⟩) ?_
    rintro _ _ ⟨⟨rfl, hc9⟩, rfl⟩
    refine j_aload dX8_removePair_12 rfl rfl ?_
    refine j_iload_n dX8_removePair_14 rfl ?_
    refine j_callV (q := (RX4, TX4, 5)) dX8_removePair_15 kX4_look lX8_137 inX4_look seX4_look rfl rfl (z_frame [10, 11, 12, 13, 14] rfl (by decide) (Nat.le_of_ble_eq_true rfl) (c_X4_look_e hl false _ _ _ _ (sp_T S 0) q ht0 (by omega))) (Nat.le_of_ble_eq_true rfl) ⟨(Nat.le_of_ble_eq_true rfl), (Nat.le_of_ble_eq_true rfl)⟩ rfl (Nat.le_of_ble_eq_true rfl) rfl rfl (fun _ _ h => h.elim) ?_
    rintro _ _ ⟨_, _, ⟨rfl, rfl⟩, rfl, rfl⟩
    refine j_ws (L' := z_cw _ _ _ _ _ _ _ _ _ _ _ _ _ _ _ _ _ _ _ _ _ _ _ _ _ _ _ _ _ _ _ _ _ _ _ _ _ _ _ _ _ _ _ _ _ _ _ _ _ _ _ _ _ _ _ _ []) (by decide) rfl rfl ?_
    refine j_iload_n dX8_removePair_18 rfl ?_
    refine j_icmp_eq (tgt := 24) dX8_removePair_19 (by decide) (fun c_19 => ?_) (fun c_19 => ?_)
    · have e9 : sp_rmp (sp_T S 0) (sp_C S 2) q y = (some 1, sp_go (sp_T S 0) q, z_bp (sp_C S 2) 6) := if_pos c_19
      refine j_aload dX8_removePair_24 rfl rfl ?_
      refine j_iload_n dX8_removePair_26 rfl ?_
      refine j_callV (q := (RX4, TX4, 5)) dX8_removePair_27 kX4_sendAway lX8_134 inX4_sendAway seX4_sendAway rfl rfl (z_frame [10, 11, 12, 13, 14] rfl (by decide) (Nat.le_of_ble_eq_true rfl) (c_X4_sendAway_e hl false _ _ _ (sp_T S 0) q ht0 (by omega))) (Nat.le_of_ble_eq_true rfl) ⟨(Nat.le_of_ble_eq_true rfl), (Nat.le_of_ble_eq_true rfl)⟩ rfl (Nat.le_of_ble_eq_true rfl) rfl rfl (fun _ _ h => h.elim) ?_
      rintro _ _ ⟨_, _, ⟨rfl, f9, g9, ht9, rfl⟩, rfl, rfl⟩
      refine j_ws (L' := z_cw _ _ _ _ _ _ _ _ _ _ _ _ _ _ _ _ _ _ _ _ _ _ _ _ _ _ _ _ _ _ _ _ _ _ _ _ _ _ _ _ _ _ _ _ _ _ _ _ _ _ _ _ _ _ _ _ []) (by decide) rfl rfl ?_
      refine j_pop dX8_removePair_30 rfl ?_
      refine j_iconst (v := 1) dX8_removePair_31 (by decide) ?_
      refine j_iret dX8_removePair_32 rfl rfl ?_ (Nat.le_of_ble_eq_true rfl) (Nat.le_of_ble_eq_true rfl)
      refine ⟨rfl, (by first | exact z_cwl | rfl), ?_⟩
      rw [sp_i0, sp_in' (n := q) (by omega)]
      rw [e9]
      exact ⟨sp_k32_0 (Or.inl rfl) (fun z => z.elim hk0 hc9), rfl, (sp_CWe hra hrb ht9 ht1 ht2 he0 he1 hzm3 hzm4 hzm5 rfl)⟩
    · have e9 : sp_rmp (sp_T S 0) (sp_C S 2) q y = (some 0, (sp_T S 0), (sp_C S 2)) := if_neg c_19
      refine j_iconst (v := 0) dX8_removePair_22 (by decide) ?_
      refine j_iret dX8_removePair_23 rfl rfl ?_ (Nat.le_of_ble_eq_true rfl) (Nat.le_of_ble_eq_true rfl)
      refine ⟨rfl, (by first | exact z_cwl | rfl), ?_⟩
      rw [sp_i0, sp_in' (n := q) (by omega)]
      rw [e9]
      exact ⟨sp_k32_0 (Or.inl rfl) (fun z => z.elim hk0 hc9), rfl, (sp_CWe hra hrb ht0 ht1 ht2 he0 he1 hzm3 hzm4 hzm5 rfl)⟩
  · subst e_3
    refine j_astore (lo' := [(4, _), (0, _), (1, _), (2, _), (3, _)]) dX8_removePair_6 rfl (by decide) rfl ?_
    refine j_iload_n dX8_removePair_8 rfl ?_
    refine j_callS dX8_removePair_9 kX8_checkValue lX8_50 stX8_checkValue (c_X8_checkValue_e hl _ _) (Nat.le_of_ble_eq_true rfl) ⟨(Nat.le_of_ble_eq_true rfl), (Nat.le_of_ble_eq_true rfl)⟩ rfl (Nat.le_of_ble_eq_true rfl) rfl rfl (fun _ _ h => by obtain ⟨h1, rfl⟩ := h; exact ⟨rfl, rfl, Or.inr ⟨h1.1, sp_k32_2 (Or.inr (Or.inl rfl)) (Or.inr h1.2)⟩, rfl⟩) ?_
    rintro _ _ ⟨⟨rfl, hc9⟩, rfl⟩
    refine j_aload dX8_removePair_12 rfl rfl ?_
    refine j_iload_n dX8_removePair_14 rfl ?_
    refine j_callV (q := (RX4, TX4, 5)) dX8_removePair_15 kX4_look lX8_137 inX4_look seX4_look rfl rfl (z_frame [16, 17, 18, 19, 20] rfl (by decide) (Nat.le_of_ble_eq_true rfl) (c_X4_look_e hl false _ _ _ _ (sp_T S 1) q ht1 (by omega))) (Nat.le_of_ble_eq_true rfl) ⟨(Nat.le_of_ble_eq_true rfl), (Nat.le_of_ble_eq_true rfl)⟩ rfl (Nat.le_of_ble_eq_true rfl) rfl rfl (fun _ _ h => h.elim) ?_
    rintro _ _ ⟨_, _, ⟨rfl, rfl⟩, rfl, rfl⟩
    refine j_ws (L' := z_cw _ _ _ _ _ _ _ _ _ _ _ _ _ _ _ _ _ _ _ _ _ _ _ _ _ _ _ _ _ _ _ _ _ _ _ _ _ _ _ _ _ _ _ _ _ _ _ _ _ _ _ _ _ _ _ _ []) (by decide) rfl rfl ?_
    refine j_iload_n dX8_removePair_18 rfl ?_
    refine j_icmp_eq (tgt := 24) dX8_removePair_19 (by decide) (fun c_19 => ?_) (fun c_19 => ?_)
    · have e9 : sp_rmp (sp_T S 1) (sp_C S 2) q y = (some 1, sp_go (sp_T S 1) q, z_bp (sp_C S 2) 6) := if_pos c_19
      refine j_aload dX8_removePair_24 rfl rfl ?_
      refine j_iload_n dX8_removePair_26 rfl ?_
      refine j_callV (q := (RX4, TX4, 5)) dX8_removePair_27 kX4_sendAway lX8_134 inX4_sendAway seX4_sendAway rfl rfl (z_frame [16, 17, 18, 19, 20] rfl (by decide) (Nat.le_of_ble_eq_true rfl) (c_X4_sendAway_e hl false _ _ _ (sp_T S 1) q ht1 (by omega))) (Nat.le_of_ble_eq_true rfl) ⟨(Nat.le_of_ble_eq_true rfl), (Nat.le_of_ble_eq_true rfl)⟩ rfl (Nat.le_of_ble_eq_true rfl) rfl rfl (fun _ _ h => h.elim) ?_
      rintro _ _ ⟨_, _, ⟨rfl, f9, g9, ht9, rfl⟩, rfl, rfl⟩
      refine j_ws (L' := z_cw _ _ _ _ _ _ _ _ _ _ _ _ _ _ _ _ _ _ _ _ _ _ _ _ _ _ _ _ _ _ _ _ _ _ _ _ _ _ _ _ _ _ _ _ _ _ _ _ _ _ _ _ _ _ _ _ []) (by decide) rfl rfl ?_
      refine j_pop dX8_removePair_30 rfl ?_
      refine j_iconst (v := 1) dX8_removePair_31 (by decide) ?_
      refine j_iret dX8_removePair_32 rfl rfl ?_ (Nat.le_of_ble_eq_true rfl) (Nat.le_of_ble_eq_true rfl)
      refine ⟨rfl, (by first | exact z_cwl | rfl), ?_⟩
      rw [sp_i1, sp_in' (n := q) (by omega)]
      rw [e9]
      exact ⟨sp_k32_0 (Or.inr (Or.inl rfl)) (fun z => z.elim hk0 hc9), rfl, (sp_CWe hra hrb ht0 ht9 ht2 he0 he1 hzm3 hzm4 hzm5 rfl)⟩
    · have e9 : sp_rmp (sp_T S 1) (sp_C S 2) q y = (some 0, (sp_T S 1), (sp_C S 2)) := if_neg c_19
      refine j_iconst (v := 0) dX8_removePair_22 (by decide) ?_
      refine j_iret dX8_removePair_23 rfl rfl ?_ (Nat.le_of_ble_eq_true rfl) (Nat.le_of_ble_eq_true rfl)
      refine ⟨rfl, (by first | exact z_cwl | rfl), ?_⟩
      rw [sp_i1, sp_in' (n := q) (by omega)]
      rw [e9]
      exact ⟨sp_k32_0 (Or.inr (Or.inl rfl)) (fun z => z.elim hk0 hc9), rfl, (sp_CWe hra hrb ht0 ht1 ht2 he0 he1 hzm3 hzm4 hzm5 rfl)⟩
  · subst e_3
    refine j_astore (lo' := [(4, _), (0, _), (1, _), (2, _), (3, _)]) dX8_removePair_6 rfl (by decide) rfl ?_
    refine j_iload_n dX8_removePair_8 rfl ?_
    refine j_callS dX8_removePair_9 kX8_checkValue lX8_50 stX8_checkValue (c_X8_checkValue_e hl _ _) (Nat.le_of_ble_eq_true rfl) ⟨(Nat.le_of_ble_eq_true rfl), (Nat.le_of_ble_eq_true rfl)⟩ rfl (Nat.le_of_ble_eq_true rfl) rfl rfl (fun _ _ h => by obtain ⟨h1, rfl⟩ := h; exact ⟨rfl, rfl, Or.inr ⟨h1.1, sp_k32_2 (Or.inr (Or.inr rfl)) (Or.inr h1.2)⟩, rfl⟩) ?_
    rintro _ _ ⟨⟨rfl, hc9⟩, rfl⟩
    refine j_aload dX8_removePair_12 rfl rfl ?_
    refine j_iload_n dX8_removePair_14 rfl ?_
    refine j_callV (q := (RX4, TX4, 5)) dX8_removePair_15 kX4_look lX8_137 inX4_look seX4_look rfl rfl (z_frame [21, 22, 23, 24, 25] rfl (by decide) (Nat.le_of_ble_eq_true rfl) (c_X4_look_e hl true _ _ _ _ (sp_T S 2) q ht2 (by omega))) (Nat.le_of_ble_eq_true rfl) ⟨(Nat.le_of_ble_eq_true rfl), (Nat.le_of_ble_eq_true rfl)⟩ rfl (Nat.le_of_ble_eq_true rfl) rfl rfl (fun _ _ h => h.elim) ?_
    rintro _ _ ⟨_, _, ⟨rfl, rfl⟩, rfl, rfl⟩
    refine j_ws (L' := z_cw _ _ _ _ _ _ _ _ _ _ _ _ _ _ _ _ _ _ _ _ _ _ _ _ _ _ _ _ _ _ _ _ _ _ _ _ _ _ _ _ _ _ _ _ _ _ _ _ _ _ _ _ _ _ _ _ []) (by decide) rfl rfl ?_
    refine j_iload_n dX8_removePair_18 rfl ?_
    refine j_icmp_eq (tgt := 24) dX8_removePair_19 (by decide) (fun c_19 => ?_) (fun c_19 => ?_)
    · have e9 : sp_rmp (sp_T S 2) (sp_C S 2) q y = (some 1, sp_go (sp_T S 2) q, z_bp (sp_C S 2) 6) := if_pos c_19
      refine j_aload dX8_removePair_24 rfl rfl ?_
      refine j_iload_n dX8_removePair_26 rfl ?_
      refine j_callV (q := (RX4, TX4, 5)) dX8_removePair_27 kX4_sendAway lX8_134 inX4_sendAway seX4_sendAway rfl rfl (z_frame [21, 22, 23, 24, 25] rfl (by decide) (Nat.le_of_ble_eq_true rfl) (c_X4_sendAway_e hl true _ _ _ (sp_T S 2) q ht2 (by omega))) (Nat.le_of_ble_eq_true rfl) ⟨(Nat.le_of_ble_eq_true rfl), (Nat.le_of_ble_eq_true rfl)⟩ rfl (Nat.le_of_ble_eq_true rfl) rfl rfl (fun _ _ h => h.elim) ?_
      rintro _ _ ⟨_, _, ⟨rfl, f9, g9, ht9, rfl⟩, rfl, rfl⟩
      refine j_ws (L' := z_cw _ _ _ _ _ _ _ _ _ _ _ _ _ _ _ _ _ _ _ _ _ _ _ _ _ _ _ _ _ _ _ _ _ _ _ _ _ _ _ _ _ _ _ _ _ _ _ _ _ _ _ _ _ _ _ _ []) (by decide) rfl rfl ?_
      refine j_pop dX8_removePair_30 rfl ?_
      refine j_iconst (v := 1) dX8_removePair_31 (by decide) ?_
      refine j_iret dX8_removePair_32 rfl rfl ?_ (Nat.le_of_ble_eq_true rfl) (Nat.le_of_ble_eq_true rfl)
      refine ⟨rfl, (by first | exact z_cwl | rfl), ?_⟩
      rw [sp_i2, sp_in' (n := q) (by omega)]
      rw [e9]
      exact ⟨sp_k32_0 (Or.inr (Or.inr rfl)) (fun z => z.elim hk0 hc9), rfl, (sp_CWe hra hrb ht0 ht1 ht9 he0 he1 hzm3 hzm4 hzm5 rfl)⟩
    · have e9 : sp_rmp (sp_T S 2) (sp_C S 2) q y = (some 0, (sp_T S 2), (sp_C S 2)) := if_neg c_19
      refine j_iconst (v := 0) dX8_removePair_22 (by decide) ?_
      refine j_iret dX8_removePair_23 rfl rfl ?_ (Nat.le_of_ble_eq_true rfl) (Nat.le_of_ble_eq_true rfl)
      refine ⟨rfl, (by first | exact z_cwl | rfl), ?_⟩
      rw [sp_i2, sp_in' (n := q) (by omega)]
      rw [e9]
      exact ⟨sp_k32_0 (Or.inr (Or.inr rfl)) (fun z => z.elim hk0 hc9), rfl, (sp_CWe hra hrb ht0 ht1 ht2 he0 he1 hzm3 hzm4 hzm5 rfl)⟩
set_option maxRecDepth 100000 in
set_option maxHeartbeats 8000000 in
theorem c_X8_computeIfAbsent_p (hl : l.stackTraces = false) (S : sp_S) (fa : Nat → Int32) (fb : Nat → Int32) (mt : Int32) (ft : Nat → Int32) (ct : Nat → Int32) (f0 : Nat → Int32) (g0 : Nat → Int32) (f1 : Nat → Int32) (g1 : Nat → Int32) (c1 : Nat → Int32) (f2 : Nat → Int32) (g2 : Nat → Int32) (c2 : Nat → Int32) (f3 : Nat → Int32) (g3 : Nat → Int32) (c3 : Nat → Int32) (m3 : Int32) (f4 : Nat → Int32) (g4 : Nat → Int32) (c4 : Nat → Int32) (m4 : Int32) (f5 : Nat → Int32) (g5 : Nat → Int32) (c5 : Nat → Int32) (m5 : Int32) (ef0 : Nat → Int32) (ef1 : Nat → Int32) (t : Int32) (k : Int32) (r : Int32) (n : Int32) (ok : sp_ok S) (hra : z_row 12 (nI (sp_R S 0).length) fa (sp_R S 0)) (hrb : z_row 12 (nI (sp_R S 1).length) fb (sp_R S 1)) (ht0 : z_tba f0 g0 (sp_T S 0)) (ht1 : z_tba f1 g1 (sp_T S 1)) (ht2 : z_tba f2 g2 (sp_T S 2)) (he0 : z_row 10 (nI (sp_E S 0).2.length) ef0 (sp_E S 0).2) (he1 : z_row 10 (nI (sp_E S 1).2.length) ef1 (sp_E S 1).2) (hzm3 : z_m20 m3) (hzm4 : z_m20 m4) (hzm5 : z_m20 m5) : z_CX G l mX8_computeIfAbsent 20 14 120 (z_cw S.1.1 S.1.2 (nI (sp_R S 0).length) (sp_F S 0) fa (sp_C S 0) (nI (sp_R S 1).length) (sp_F S 1) fb (sp_C S 1) mt false ft ct f0 g0 (sp_C S 2) (nI (sp_T S 0).length) 0 f1 g1 c1 (nI (sp_T S 1).length) 0 f2 g2 c2 (nI (sp_T S 2).length) 1 f3 g3 c3 m3 0 f4 g4 c4 m4 0 f5 g5 c5 m5 1 (nI (sp_E S 0).2.length) (sp_E S 0).1.2.1 (sp_E S 0).1.2.2.1 (sp_E S 0).1.2.2.2 (sp_E S 0).1.1 ef0 (nI (sp_E S 1).2.length) (sp_E S 1).1.2.1 (sp_E S 1).1.2.2.1 (sp_E S 1).1.2.2.2 (sp_E S 1).1.1 ef1 []) [.ref 0, .int t, .int k, .int r, .int n] (fun v L => sp_k32 t (sp_bk k ∨ (r < 0 ∨ 5 < r) ∨ sp_bv n) = 0 ∧ v = some (.int ((sp_cia (sp_srt (sp_i t)) (sp_T S (sp_i t)) (sp_C S 2) (sp_i k) r n).1.getD (-9))) ∧ sp_CW (sp_tb S (sp_i t) (sp_cia (sp_srt (sp_i t)) (sp_T S (sp_i t)) (sp_C S 2) (sp_i k) r n)) L) (fun E L => ((z_xI E ∧ sp_k32 t (sp_bk k ∨ (r < 0 ∨ 5 < r) ∨ sp_bv n) = 1) ∨ (z_xA E ∧ sp_k32 t (sp_bk k ∨ (r < 0 ∨ 5 < r) ∨ sp_bv n) = 2)) ∧ L = (z_cw S.1.1 S.1.2 (nI (sp_R S 0).length) (sp_F S 0) fa (sp_C S 0) (nI (sp_R S 1).length) (sp_F S 1) fb (sp_C S 1) mt false ft ct f0 g0 (sp_C S 2) (nI (sp_T S 0).length) 0 f1 g1 c1 (nI (sp_T S 1).length) 0 f2 g2 c2 (nI (sp_T S 2).length) 1 f3 g3 c3 m3 0 f4 g4 c4 m4 0 f5 g5 c5 m5 1 (nI (sp_E S 0).2.length) (sp_E S 0).1.2.1 (sp_E S 0).1.2.2.1 (sp_E S 0).1.2.2.2 (sp_E S 0).1.1 ef0 (nI (sp_E S 1).2.length) (sp_E S 1).1.2.1 (sp_E S 1).1.2.2.1 (sp_E S 1).1.2.2.2 (sp_E S 1).1.1 ef1 [])) := by
  refine z_body hl (by decide) rfl (Nat.le_of_ble_eq_true rfl) ?_
  show z_J G l mX8_computeIfAbsent (z_SX 20 14 120 (z_cw S.1.1 S.1.2 (nI (sp_R S 0).length) (sp_F S 0) fa (sp_C S 0) (nI (sp_R S 1).length) (sp_F S 1) fb (sp_C S 1) mt false ft ct f0 g0 (sp_C S 2) (nI (sp_T S 0).length) 0 f1 g1 c1 (nI (sp_T S 1).length) 0 f2 g2 c2 (nI (sp_T S 2).length) 1 f3 g3 c3 m3 0 f4 g4 c4 m4 0 f5 g5 c5 m5 1 (nI (sp_E S 0).2.length) (sp_E S 0).1.2.1 (sp_E S 0).1.2.2.1 (sp_E S 0).1.2.2.2 (sp_E S 0).1.1 ef0 (nI (sp_E S 1).2.length) (sp_E S 1).1.2.1 (sp_E S 1).1.2.2.1 (sp_E S 1).1.2.2.2 (sp_E S 1).1.1 ef1 []) (fun v L => sp_k32 t (sp_bk k ∨ (r < 0 ∨ 5 < r) ∨ sp_bv n) = 0 ∧ v = some (.int ((sp_cia (sp_srt (sp_i t)) (sp_T S (sp_i t)) (sp_C S 2) (sp_i k) r n).1.getD (-9))) ∧ sp_CW (sp_tb S (sp_i t) (sp_cia (sp_srt (sp_i t)) (sp_T S (sp_i t)) (sp_C S 2) (sp_i k) r n)) L) (fun E L => ((z_xI E ∧ sp_k32 t (sp_bk k ∨ (r < 0 ∨ 5 < r) ∨ sp_bv n) = 1) ∨ (z_xA E ∧ sp_k32 t (sp_bk k ∨ (r < 0 ∨ 5 < r) ∨ sp_bv n) = 2)) ∧ L = (z_cw S.1.1 S.1.2 (nI (sp_R S 0).length) (sp_F S 0) fa (sp_C S 0) (nI (sp_R S 1).length) (sp_F S 1) fb (sp_C S 1) mt false ft ct f0 g0 (sp_C S 2) (nI (sp_T S 0).length) 0 f1 g1 c1 (nI (sp_T S 1).length) 0 f2 g2 c2 (nI (sp_T S 2).length) 1 f3 g3 c3 m3 0 f4 g4 c4 m4 0 f5 g5 c5 m5 1 (nI (sp_E S 0).2.length) (sp_E S 0).1.2.1 (sp_E S 0).1.2.2.1 (sp_E S 0).1.2.2.2 (sp_E S 0).1.1 ef0 (nI (sp_E S 1).2.length) (sp_E S 1).1.2.1 (sp_E S 1).1.2.2.1 (sp_E S 1).1.2.2.2 (sp_E S 1).1.1 ef1 []))) 0 [(0, _), (1, _), (2, _), (3, _), (4, _)] [] _ 0 0
  refine j_aload_n dX8_computeIfAbsent_0 rfl rfl ?_
  refine j_iload_n dX8_computeIfAbsent_1 rfl ?_
  refine j_iload_n dX8_computeIfAbsent_2 rfl ?_
  refine j_iload_n dX8_computeIfAbsent_3 rfl ?_
  refine j_iload dX8_computeIfAbsent_4 rfl ?_
  refine j_callV (q := (RX8, TX8, 9)) dX8_computeIfAbsent_6 kX8_tableToReckon lX8_140 inX8_tableToReckon seX8_tableToReckon rfl rfl (z_dirX (c_X8_tableToReckon_e hl _ _ _ _ _ _ _ _ _ _ _ _ _ _ _ _ _ _ _ _ _ _ _ _ _ _ _ _ _ _ _ _ _ _ _ _ _ _ _ _ _ _ _ _ _ _ _ _ _ _ _ _ _ _ _ _ _ _ _ _)) (Nat.le_of_ble_eq_true rfl) ⟨(Nat.le_of_ble_eq_true rfl), (Nat.le_of_ble_eq_true rfl)⟩ rfl (Nat.le_of_ble_eq_true rfl) rfl rfl (fun _ _ h => by obtain ⟨_, ⟨h1, rfl⟩, rfl⟩ := h; exact ⟨rfl, rfl, h1.elim (fun z => Or.inl ⟨z.1, sp_k32_1 z.2⟩) (fun z => Or.inr ⟨z.1, sp_k32_2 z.2.1 z.2.2⟩), rfl⟩) ?_
  rintro _ _ ⟨_, ⟨_, rfl, hr, hk6, rfl⟩, rfl⟩
  have hk0 := hk6
  obtain ⟨q, hq, rfl⟩ := sp_nt (m := 19) rfl (by decide) (fun z => hk0 (Or.inl z))
  rcases hr with ⟨e_6, rfl⟩ | ⟨e_6, rfl⟩ | ⟨e_6, rfl⟩
  · subst e_6
    refine j_astore (lo' := [(5, _), (0, _), (1, _), (2, _), (3, _), (4, _)]) dX8_computeIfAbsent_9 rfl (by decide) rfl ?_
    refine j_aload_n dX8_computeIfAbsent_11 rfl rfl ?_
    refine j_aload dX8_computeIfAbsent_12 rfl rfl ?_
    refine j_iload_n dX8_computeIfAbsent_14 rfl ?_
    refine j_iload_n dX8_computeIfAbsent_15 rfl ?_
    refine j_iload dX8_computeIfAbsent_16 rfl ?_
    refine j_callV (q := (RX4, TX4, 5)) dX8_computeIfAbsent_18 kX4_reckonAbsent lX8_144 inX4_reckonAbsent seX4_reckonAbsent rfl rfl (z_frame [10, 11, 12, 13, 14] rfl (by decide) (Nat.le_of_ble_eq_true rfl) (c_X4_reckonAbsent_c hl (sp_C S 2) false _ _ (sp_C S 2) (sp_T S 0) q r n ht0 (by omega) (sp_vl (fun z => hk0 (Or.inr (Or.inr z)))))) (Nat.le_of_ble_eq_true rfl) ⟨(Nat.le_of_ble_eq_true rfl), (Nat.le_of_ble_eq_true rfl)⟩ rfl (Nat.le_of_ble_eq_true rfl) rfl rfl (fun _ _ h => h.elim) ?_
    rintro _ _ ⟨_, _, ⟨rfl, f9, g9, ht9, rfl⟩, rfl, rfl⟩
    refine j_ws (L' := z_cw _ _ _ _ _ _ _ _ _ _ _ _ _ _ _ _ _ _ _ _ _ _ _ _ _ _ _ _ _ _ _ _ _ _ _ _ _ _ _ _ _ _ _ _ _ _ _ _ _ _ _ _ _ _ _ _ []) (by decide) rfl rfl ?_
    refine j_callV (q := (RX8, TX8, 9)) dX8_computeIfAbsent_21 kX8_answer lX8_100 inX8_answer seX8_answer rfl rfl (z_dirF (c_X8_answer_e hl _ _ _ _ _ _ _ _ _ _ _ _ _ _ _ _ _ _ _ _ _ _ _ _ _ _ _ _ _ _ _ _ _ _ _ _ _ _ _ _ _ _ _ _ _ _ _ _ _ _ _ _ _ _ _ _ (sp_cia false (sp_T S 0) (sp_C S 2) q r n).1 (sp_cia_n ht0.1 (sp_vl (fun z => hk0 (Or.inr (Or.inr z))))))) (Nat.le_of_ble_eq_true rfl) ⟨(Nat.le_of_ble_eq_true rfl), (Nat.le_of_ble_eq_true rfl)⟩ rfl (Nat.le_of_ble_eq_true rfl) rfl rfl (fun _ _ h => h.elim) ?_
    rintro _ _ ⟨_, ⟨rfl, rfl⟩, rfl⟩
    refine j_iret dX8_computeIfAbsent_24 rfl rfl ?_ (Nat.le_of_ble_eq_true rfl) (Nat.le_of_ble_eq_true rfl)
    refine ⟨rfl, (by first | exact z_cwl | rfl), ?_⟩
    rw [sp_i0, sp_in' (n := q) (by omega)]
    exact ⟨sp_k32_0 (Or.inl rfl) hk0, rfl, (sp_CWe hra hrb ht9 ht1 ht2 he0 he1 hzm3 hzm4 hzm5 rfl)⟩
  · subst e_6
    refine j_astore (lo' := [(5, _), (0, _), (1, _), (2, _), (3, _), (4, _)]) dX8_computeIfAbsent_9 rfl (by decide) rfl ?_
    refine j_aload_n dX8_computeIfAbsent_11 rfl rfl ?_
    refine j_aload dX8_computeIfAbsent_12 rfl rfl ?_
    refine j_iload_n dX8_computeIfAbsent_14 rfl ?_
    refine j_iload_n dX8_computeIfAbsent_15 rfl ?_
    refine j_iload dX8_computeIfAbsent_16 rfl ?_
    refine j_callV (q := (RX4, TX4, 5)) dX8_computeIfAbsent_18 kX4_reckonAbsent lX8_144 inX4_reckonAbsent seX4_reckonAbsent rfl rfl (z_frame [16, 17, 18, 19, 20] rfl (by decide) (Nat.le_of_ble_eq_true rfl) (c_X4_reckonAbsent_c hl (sp_C S 2) false _ _ _ (sp_T S 1) q r n ht1 (by omega) (sp_vl (fun z => hk0 (Or.inr (Or.inr z)))))) (Nat.le_of_ble_eq_true rfl) ⟨(Nat.le_of_ble_eq_true rfl), (Nat.le_of_ble_eq_true rfl)⟩ rfl (Nat.le_of_ble_eq_true rfl) rfl rfl (fun _ _ h => h.elim) ?_
    rintro _ _ ⟨_, _, ⟨rfl, f9, g9, ht9, rfl⟩, rfl, rfl⟩
    refine j_ws (L' := z_cw _ _ _ _ _ _ _ _ _ _ _ _ _ _ _ _ _ _ _ _ _ _ _ _ _ _ _ _ _ _ _ _ _ _ _ _ _ _ _ _ _ _ _ _ _ _ _ _ _ _ _ _ _ _ _ _ []) (by decide) rfl rfl ?_
    refine j_callV (q := (RX8, TX8, 9)) dX8_computeIfAbsent_21 kX8_answer lX8_100 inX8_answer seX8_answer rfl rfl (z_dirF (c_X8_answer_e hl _ _ _ _ _ _ _ _ _ _ _ _ _ _ _ _ _ _ _ _ _ _ _ _ _ _ _ _ _ _ _ _ _ _ _ _ _ _ _ _ _ _ _ _ _ _ _ _ _ _ _ _ _ _ _ _ (sp_cia false (sp_T S 1) (sp_C S 2) q r n).1 (sp_cia_n ht1.1 (sp_vl (fun z => hk0 (Or.inr (Or.inr z))))))) (Nat.le_of_ble_eq_true rfl) ⟨(Nat.le_of_ble_eq_true rfl), (Nat.le_of_ble_eq_true rfl)⟩ rfl (Nat.le_of_ble_eq_true rfl) rfl rfl (fun _ _ h => h.elim) ?_
    rintro _ _ ⟨_, ⟨rfl, rfl⟩, rfl⟩
    refine j_iret dX8_computeIfAbsent_24 rfl rfl ?_ (Nat.le_of_ble_eq_true rfl) (Nat.le_of_ble_eq_true rfl)
    refine ⟨rfl, (by first | exact z_cwl | rfl), ?_⟩
    rw [sp_i1, sp_in' (n := q) (by omega)]
    exact ⟨sp_k32_0 (Or.inr (Or.inl rfl)) hk0, rfl, (sp_CWe hra hrb ht0 ht9 ht2 he0 he1 hzm3 hzm4 hzm5 rfl)⟩
  · subst e_6
    refine j_astore (lo' := [(5, _), (0, _), (1, _), (2, _), (3, _), (4, _)]) dX8_computeIfAbsent_9 rfl (by decide) rfl ?_
    refine j_aload_n dX8_computeIfAbsent_11 rfl rfl ?_
    refine j_aload dX8_computeIfAbsent_12 rfl rfl ?_
    refine j_iload_n dX8_computeIfAbsent_14 rfl ?_
    refine j_iload_n dX8_computeIfAbsent_15 rfl ?_
    refine j_iload dX8_computeIfAbsent_16 rfl ?_
    refine j_callV (q := (RX4, TX4, 5)) dX8_computeIfAbsent_18 kX4_reckonAbsent lX8_144 inX4_reckonAbsent seX4_reckonAbsent rfl rfl (z_frame [21, 22, 23, 24, 25] rfl (by decide) (Nat.le_of_ble_eq_true rfl) (c_X4_reckonAbsent_c hl (sp_C S 2) true _ _ _ (sp_T S 2) q r n ht2 (by omega) (sp_vl (fun z => hk0 (Or.inr (Or.inr z)))))) (Nat.le_of_ble_eq_true rfl) ⟨(Nat.le_of_ble_eq_true rfl), (Nat.le_of_ble_eq_true rfl)⟩ rfl (Nat.le_of_ble_eq_true rfl) rfl rfl (fun _ _ h => h.elim) ?_
    rintro _ _ ⟨_, _, ⟨rfl, f9, g9, ht9, rfl⟩, rfl, rfl⟩
    refine j_ws (L' := z_cw _ _ _ _ _ _ _ _ _ _ _ _ _ _ _ _ _ _ _ _ _ _ _ _ _ _ _ _ _ _ _ _ _ _ _ _ _ _ _ _ _ _ _ _ _ _ _ _ _ _ _ _ _ _ _ _ []) (by decide) rfl rfl ?_
    refine j_callV (q := (RX8, TX8, 9)) dX8_computeIfAbsent_21 kX8_answer lX8_100 inX8_answer seX8_answer rfl rfl (z_dirF (c_X8_answer_e hl _ _ _ _ _ _ _ _ _ _ _ _ _ _ _ _ _ _ _ _ _ _ _ _ _ _ _ _ _ _ _ _ _ _ _ _ _ _ _ _ _ _ _ _ _ _ _ _ _ _ _ _ _ _ _ _ (sp_cia true (sp_T S 2) (sp_C S 2) q r n).1 (sp_cia_n ht2.1 (sp_vl (fun z => hk0 (Or.inr (Or.inr z))))))) (Nat.le_of_ble_eq_true rfl) ⟨(Nat.le_of_ble_eq_true rfl), (Nat.le_of_ble_eq_true rfl)⟩ rfl (Nat.le_of_ble_eq_true rfl) rfl rfl (fun _ _ h => h.elim) ?_
    rintro _ _ ⟨_, ⟨rfl, rfl⟩, rfl⟩
    refine j_iret dX8_computeIfAbsent_24 rfl rfl ?_ (Nat.le_of_ble_eq_true rfl) (Nat.le_of_ble_eq_true rfl)
    refine ⟨rfl, (by first | exact z_cwl | rfl), ?_⟩
    rw [sp_i2, sp_in' (n := q) (by omega)]
    exact ⟨sp_k32_0 (Or.inr (Or.inr rfl)) hk0, rfl, (sp_CWe hra hrb ht0 ht1 ht9 he0 he1 hzm3 hzm4 hzm5 rfl)⟩
set_option maxRecDepth 100000 in
set_option maxHeartbeats 8000000 in
theorem c_X8_computeIfPresent_p (hl : l.stackTraces = false) (S : sp_S) (fa : Nat → Int32) (fb : Nat → Int32) (mt : Int32) (ft : Nat → Int32) (ct : Nat → Int32) (f0 : Nat → Int32) (g0 : Nat → Int32) (f1 : Nat → Int32) (g1 : Nat → Int32) (c1 : Nat → Int32) (f2 : Nat → Int32) (g2 : Nat → Int32) (c2 : Nat → Int32) (f3 : Nat → Int32) (g3 : Nat → Int32) (c3 : Nat → Int32) (m3 : Int32) (f4 : Nat → Int32) (g4 : Nat → Int32) (c4 : Nat → Int32) (m4 : Int32) (f5 : Nat → Int32) (g5 : Nat → Int32) (c5 : Nat → Int32) (m5 : Int32) (ef0 : Nat → Int32) (ef1 : Nat → Int32) (t : Int32) (k : Int32) (r : Int32) (n : Int32) (ok : sp_ok S) (hra : z_row 12 (nI (sp_R S 0).length) fa (sp_R S 0)) (hrb : z_row 12 (nI (sp_R S 1).length) fb (sp_R S 1)) (ht0 : z_tba f0 g0 (sp_T S 0)) (ht1 : z_tba f1 g1 (sp_T S 1)) (ht2 : z_tba f2 g2 (sp_T S 2)) (he0 : z_row 10 (nI (sp_E S 0).2.length) ef0 (sp_E S 0).2) (he1 : z_row 10 (nI (sp_E S 1).2.length) ef1 (sp_E S 1).2) (hzm3 : z_m20 m3) (hzm4 : z_m20 m4) (hzm5 : z_m20 m5) : z_CX G l mX8_computeIfPresent 20 14 120 (z_cw S.1.1 S.1.2 (nI (sp_R S 0).length) (sp_F S 0) fa (sp_C S 0) (nI (sp_R S 1).length) (sp_F S 1) fb (sp_C S 1) mt false ft ct f0 g0 (sp_C S 2) (nI (sp_T S 0).length) 0 f1 g1 c1 (nI (sp_T S 1).length) 0 f2 g2 c2 (nI (sp_T S 2).length) 1 f3 g3 c3 m3 0 f4 g4 c4 m4 0 f5 g5 c5 m5 1 (nI (sp_E S 0).2.length) (sp_E S 0).1.2.1 (sp_E S 0).1.2.2.1 (sp_E S 0).1.2.2.2 (sp_E S 0).1.1 ef0 (nI (sp_E S 1).2.length) (sp_E S 1).1.2.1 (sp_E S 1).1.2.2.1 (sp_E S 1).1.2.2.2 (sp_E S 1).1.1 ef1 []) [.ref 0, .int t, .int k, .int r, .int n] (fun v L => sp_k32 t (sp_bk k ∨ (r < 0 ∨ 5 < r) ∨ sp_bv n) = 0 ∧ v = some (.int ((sp_cip (sp_srt (sp_i t)) (sp_T S (sp_i t)) (sp_C S 2) (sp_i k) r n).1.getD (-9))) ∧ sp_CW (sp_tb S (sp_i t) (sp_cip (sp_srt (sp_i t)) (sp_T S (sp_i t)) (sp_C S 2) (sp_i k) r n)) L) (fun E L => ((z_xI E ∧ sp_k32 t (sp_bk k ∨ (r < 0 ∨ 5 < r) ∨ sp_bv n) = 1) ∨ (z_xA E ∧ sp_k32 t (sp_bk k ∨ (r < 0 ∨ 5 < r) ∨ sp_bv n) = 2)) ∧ L = (z_cw S.1.1 S.1.2 (nI (sp_R S 0).length) (sp_F S 0) fa (sp_C S 0) (nI (sp_R S 1).length) (sp_F S 1) fb (sp_C S 1) mt false ft ct f0 g0 (sp_C S 2) (nI (sp_T S 0).length) 0 f1 g1 c1 (nI (sp_T S 1).length) 0 f2 g2 c2 (nI (sp_T S 2).length) 1 f3 g3 c3 m3 0 f4 g4 c4 m4 0 f5 g5 c5 m5 1 (nI (sp_E S 0).2.length) (sp_E S 0).1.2.1 (sp_E S 0).1.2.2.1 (sp_E S 0).1.2.2.2 (sp_E S 0).1.1 ef0 (nI (sp_E S 1).2.length) (sp_E S 1).1.2.1 (sp_E S 1).1.2.2.1 (sp_E S 1).1.2.2.2 (sp_E S 1).1.1 ef1 [])) := by
  refine z_body hl (by decide) rfl (Nat.le_of_ble_eq_true rfl) ?_
  show z_J G l mX8_computeIfPresent (z_SX 20 14 120 (z_cw S.1.1 S.1.2 (nI (sp_R S 0).length) (sp_F S 0) fa (sp_C S 0) (nI (sp_R S 1).length) (sp_F S 1) fb (sp_C S 1) mt false ft ct f0 g0 (sp_C S 2) (nI (sp_T S 0).length) 0 f1 g1 c1 (nI (sp_T S 1).length) 0 f2 g2 c2 (nI (sp_T S 2).length) 1 f3 g3 c3 m3 0 f4 g4 c4 m4 0 f5 g5 c5 m5 1 (nI (sp_E S 0).2.length) (sp_E S 0).1.2.1 (sp_E S 0).1.2.2.1 (sp_E S 0).1.2.2.2 (sp_E S 0).1.1 ef0 (nI (sp_E S 1).2.length) (sp_E S 1).1.2.1 (sp_E S 1).1.2.2.1 (sp_E S 1).1.2.2.2 (sp_E S 1).1.1 ef1 []) (fun v L => sp_k32 t (sp_bk k ∨ (r < 0 ∨ 5 < r) ∨ sp_bv n) = 0 ∧ v = some (.int ((sp_cip (sp_srt (sp_i t)) (sp_T S (sp_i t)) (sp_C S 2) (sp_i k) r n).1.getD (-9))) ∧ sp_CW (sp_tb S (sp_i t) (sp_cip (sp_srt (sp_i t)) (sp_T S (sp_i t)) (sp_C S 2) (sp_i k) r n)) L) (fun E L => ((z_xI E ∧ sp_k32 t (sp_bk k ∨ (r < 0 ∨ 5 < r) ∨ sp_bv n) = 1) ∨ (z_xA E ∧ sp_k32 t (sp_bk k ∨ (r < 0 ∨ 5 < r) ∨ sp_bv n) = 2)) ∧ L = (z_cw S.1.1 S.1.2 (nI (sp_R S 0).length) (sp_F S 0) fa (sp_C S 0) (nI (sp_R S 1).length) (sp_F S 1) fb (sp_C S 1) mt false ft ct f0 g0 (sp_C S 2) (nI (sp_T S 0).length) 0 f1 g1 c1 (nI (sp_T S 1).length) 0 f2 g2 c2 (nI (sp_T S 2).length) 1 f3 g3 c3 m3 0 f4 g4 c4 m4 0 f5 g5 c5 m5 1 (nI (sp_E S 0).2.length) (sp_E S 0).1.2.1 (sp_E S 0).1.2.2.1 (sp_E S 0).1.2.2.2 (sp_E S 0).1.1 ef0 (nI (sp_E S 1).2.length) (sp_E S 1).1.2.1 (sp_E S 1).1.2.2.1 (sp_E S 1).1.2.2.2 (sp_E S 1).1.1 ef1 []))) 0 [(0, _), (1, _), (2, _), (3, _), (4, _)] [] _ 0 0
  refine j_aload_n dX8_computeIfPresent_0 rfl rfl ?_
  refine j_iload_n dX8_computeIfPresent_1 rfl ?_
  refine j_iload_n dX8_computeIfPresent_2 rfl ?_
  refine j_iload_n dX8_computeIfPresent_3 rfl ?_
  refine j_iload dX8_computeIfPresent_4 rfl ?_
  refine j_callV (q := (RX8, TX8, 9)) dX8_computeIfPresent_6 kX8_tableToReckon lX8_140 inX8_tableToReckon seX8_tableToReckon rfl rfl (z_dirX (c_X8_tableToReckon_e hl _ _ _ _ _ _ _ _ _ _ _ _ _ _ _ _ _ _ _ _ _ _ _ _ _ _ _ _ _ _ _ _ _ _ _ _ _ _ _ _ _ _ _ _ _ _ _ _ _ _ _ _ _ _ _ _ _ _ _ _)) (Nat.le_of_ble_eq_true rfl) ⟨(Nat.le_of_ble_eq_true rfl), (Nat.le_of_ble_eq_true rfl)⟩ rfl (Nat.le_of_ble_eq_true rfl) rfl rfl (fun _ _ h => by obtain ⟨_, ⟨h1, rfl⟩, rfl⟩ := h; exact ⟨rfl, rfl, h1.elim (fun z => Or.inl ⟨z.1, sp_k32_1 z.2⟩) (fun z => Or.inr ⟨z.1, sp_k32_2 z.2.1 z.2.2⟩), rfl⟩) ?_
  rintro _ _ ⟨_, ⟨_, rfl, hr, hk6, rfl⟩, rfl⟩
  have hk0 := hk6
  obtain ⟨q, hq, rfl⟩ := sp_nt (m := 19) rfl (by decide) (fun z => hk0 (Or.inl z))
  rcases hr with ⟨e_6, rfl⟩ | ⟨e_6, rfl⟩ | ⟨e_6, rfl⟩
  · subst e_6
    refine j_astore (lo' := [(5, _), (0, _), (1, _), (2, _), (3, _), (4, _)]) dX8_computeIfPresent_9 rfl (by decide) rfl ?_
    refine j_aload_n dX8_computeIfPresent_11 rfl rfl ?_
    refine j_aload dX8_computeIfPresent_12 rfl rfl ?_
    refine j_iload_n dX8_computeIfPresent_14 rfl ?_
    refine j_iload_n dX8_computeIfPresent_15 rfl ?_
    refine j_iload dX8_computeIfPresent_16 rfl ?_
    refine j_callV (q := (RX4, TX4, 5)) dX8_computeIfPresent_18 kX4_reckonPresent lX8_148 inX4_reckonPresent seX4_reckonPresent rfl rfl (z_frame [10, 11, 12, 13, 14] rfl (by decide) (Nat.le_of_ble_eq_true rfl) (c_X4_reckonPresent_c hl (sp_C S 2) false _ _ (sp_C S 2) (sp_T S 0) q r n ht0 (by omega) (sp_vl (fun z => hk0 (Or.inr (Or.inr z)))))) (Nat.le_of_ble_eq_true rfl) ⟨(Nat.le_of_ble_eq_true rfl), (Nat.le_of_ble_eq_true rfl)⟩ rfl (Nat.le_of_ble_eq_true rfl) rfl rfl (fun _ _ h => h.elim) ?_
    rintro _ _ ⟨_, _, ⟨rfl, f9, g9, ht9, rfl⟩, rfl, rfl⟩
    refine j_ws (L' := z_cw _ _ _ _ _ _ _ _ _ _ _ _ _ _ _ _ _ _ _ _ _ _ _ _ _ _ _ _ _ _ _ _ _ _ _ _ _ _ _ _ _ _ _ _ _ _ _ _ _ _ _ _ _ _ _ _ []) (by decide) rfl rfl ?_
    refine j_callV (q := (RX8, TX8, 9)) dX8_computeIfPresent_21 kX8_answer lX8_100 inX8_answer seX8_answer rfl rfl (z_dirF (c_X8_answer_e hl _ _ _ _ _ _ _ _ _ _ _ _ _ _ _ _ _ _ _ _ _ _ _ _ _ _ _ _ _ _ _ _ _ _ _ _ _ _ _ _ _ _ _ _ _ _ _ _ _ _ _ _ _ _ _ _ (sp_cip false (sp_T S 0) (sp_C S 2) q r n).1 (sp_cip_n ht0.1 (sp_vl (fun z => hk0 (Or.inr (Or.inr z))))))) (Nat.le_of_ble_eq_true rfl) ⟨(Nat.le_of_ble_eq_true rfl), (Nat.le_of_ble_eq_true rfl)⟩ rfl (Nat.le_of_ble_eq_true rfl) rfl rfl (fun _ _ h => h.elim) ?_
    rintro _ _ ⟨_, ⟨rfl, rfl⟩, rfl⟩
    refine j_iret dX8_computeIfPresent_24 rfl rfl ?_ (Nat.le_of_ble_eq_true rfl) (Nat.le_of_ble_eq_true rfl)
    refine ⟨rfl, (by first | exact z_cwl | rfl), ?_⟩
    rw [sp_i0, sp_in' (n := q) (by omega)]
    exact ⟨sp_k32_0 (Or.inl rfl) hk0, rfl, (sp_CWe hra hrb ht9 ht1 ht2 he0 he1 hzm3 hzm4 hzm5 rfl)⟩
  · subst e_6
    refine j_astore (lo' := [(5, _), (0, _), (1, _), (2, _), (3, _), (4, _)]) dX8_computeIfPresent_9 rfl (by decide) rfl ?_
    refine j_aload_n dX8_computeIfPresent_11 rfl rfl ?_
    refine j_aload dX8_computeIfPresent_12 rfl rfl ?_
    refine j_iload_n dX8_computeIfPresent_14 rfl ?_
    refine j_iload_n dX8_computeIfPresent_15 rfl ?_
    refine j_iload dX8_computeIfPresent_16 rfl ?_
    refine j_callV (q := (RX4, TX4, 5)) dX8_computeIfPresent_18 kX4_reckonPresent lX8_148 inX4_reckonPresent seX4_reckonPresent rfl rfl (z_frame [16, 17, 18, 19, 20] rfl (by decide) (Nat.le_of_ble_eq_true rfl) (c_X4_reckonPresent_c hl (sp_C S 2) false _ _ _ (sp_T S 1) q r n ht1 (by omega) (sp_vl (fun z => hk0 (Or.inr (Or.inr z)))))) (Nat.le_of_ble_eq_true rfl) ⟨(Nat.le_of_ble_eq_true rfl), (Nat.le_of_ble_eq_true rfl)⟩ rfl (Nat.le_of_ble_eq_true rfl) rfl rfl (fun _ _ h => h.elim) ?_
    rintro _ _ ⟨_, _, ⟨rfl, f9, g9, ht9, rfl⟩, rfl, rfl⟩
    refine j_ws (L' := z_cw _ _ _ _ _ _ _ _ _ _ _ _ _ _ _ _ _ _ _ _ _ _ _ _ _ _ _ _ _ _ _ _ _ _ _ _ _ _ _ _ _ _ _ _ _ _ _ _ _ _ _ _ _ _ _ _ []) (by decide) rfl rfl ?_
    refine j_callV (q := (RX8, TX8, 9)) dX8_computeIfPresent_21 kX8_answer lX8_100 inX8_answer seX8_answer rfl rfl (z_dirF (c_X8_answer_e hl _ _ _ _ _ _ _ _ _ _ _ _ _ _ _ _ _ _ _ _ _ _ _ _ _ _ _ _ _ _ _ _ _ _ _ _ _ _ _ _ _ _ _ _ _ _ _ _ _ _ _ _ _ _ _ _ (sp_cip false (sp_T S 1) (sp_C S 2) q r n).1 (sp_cip_n ht1.1 (sp_vl (fun z => hk0 (Or.inr (Or.inr z))))))) (Nat.le_of_ble_eq_true rfl) ⟨(Nat.le_of_ble_eq_true rfl), (Nat.le_of_ble_eq_true rfl)⟩ rfl (Nat.le_of_ble_eq_true rfl) rfl rfl (fun _ _ h => h.elim) ?_
    rintro _ _ ⟨_, ⟨rfl, rfl⟩, rfl⟩
    refine j_iret dX8_computeIfPresent_24 rfl rfl ?_ (Nat.le_of_ble_eq_true rfl) (Nat.le_of_ble_eq_true rfl)
    refine ⟨rfl, (by first | exact z_cwl | rfl), ?_⟩
    rw [sp_i1, sp_in' (n := q) (by omega)]
    exact ⟨sp_k32_0 (Or.inr (Or.inl rfl)) hk0, rfl, (sp_CWe hra hrb ht0 ht9 ht2 he0 he1 hzm3 hzm4 hzm5 rfl)⟩
  · subst e_6
    refine j_astore (lo' := [(5, _), (0, _), (1, _), (2, _), (3, _), (4, _)]) dX8_computeIfPresent_9 rfl (by decide) rfl ?_
    refine j_aload_n dX8_computeIfPresent_11 rfl rfl ?_
    refine j_aload dX8_computeIfPresent_12 rfl rfl ?_
    refine j_iload_n dX8_computeIfPresent_14 rfl ?_
    refine j_iload_n dX8_computeIfPresent_15 rfl ?_
    refine j_iload dX8_computeIfPresent_16 rfl ?_
    refine j_callV (q := (RX4, TX4, 5)) dX8_computeIfPresent_18 kX4_reckonPresent lX8_148 inX4_reckonPresent seX4_reckonPresent rfl rfl (z_frame [21, 22, 23, 24, 25] rfl (by decide) (Nat.le_of_ble_eq_true rfl) (c_X4_reckonPresent_c hl (sp_C S 2) true _ _ _ (sp_T S 2) q r n ht2 (by omega) (sp_vl (fun z => hk0 (Or.inr (Or.inr z)))))) (Nat.le_of_ble_eq_true rfl) ⟨(Nat.le_of_ble_eq_true rfl), (Nat.le_of_ble_eq_true rfl)⟩ rfl (Nat.le_of_ble_eq_true rfl) rfl rfl (fun _ _ h => h.elim) ?_
    rintro _ _ ⟨_, _, ⟨rfl, f9, g9, ht9, rfl⟩, rfl, rfl⟩
    refine j_ws (L' := z_cw _ _ _ _ _ _ _ _ _ _ _ _ _ _ _ _ _ _ _ _ _ _ _ _ _ _ _ _ _ _ _ _ _ _ _ _ _ _ _ _ _ _ _ _ _ _ _ _ _ _ _ _ _ _ _ _ []) (by decide) rfl rfl ?_
    refine j_callV (q := (RX8, TX8, 9)) dX8_computeIfPresent_21 kX8_answer lX8_100 inX8_answer seX8_answer rfl rfl (z_dirF (c_X8_answer_e hl _ _ _ _ _ _ _ _ _ _ _ _ _ _ _ _ _ _ _ _ _ _ _ _ _ _ _ _ _ _ _ _ _ _ _ _ _ _ _ _ _ _ _ _ _ _ _ _ _ _ _ _ _ _ _ _ (sp_cip true (sp_T S 2) (sp_C S 2) q r n).1 (sp_cip_n ht2.1 (sp_vl (fun z => hk0 (Or.inr (Or.inr z))))))) (Nat.le_of_ble_eq_true rfl) ⟨(Nat.le_of_ble_eq_true rfl), (Nat.le_of_ble_eq_true rfl)⟩ rfl (Nat.le_of_ble_eq_true rfl) rfl rfl (fun _ _ h => h.elim) ?_
    rintro _ _ ⟨_, ⟨rfl, rfl⟩, rfl⟩
    refine j_iret dX8_computeIfPresent_24 rfl rfl ?_ (Nat.le_of_ble_eq_true rfl) (Nat.le_of_ble_eq_true rfl)
    refine ⟨rfl, (by first | exact z_cwl | rfl), ?_⟩
    rw [sp_i2, sp_in' (n := q) (by omega)]
    exact ⟨sp_k32_0 (Or.inr (Or.inr rfl)) hk0, rfl, (sp_CWe hra hrb ht0 ht1 ht9 he0 he1 hzm3 hzm4 hzm5 rfl)⟩
set_option maxRecDepth 100000 in
set_option maxHeartbeats 8000000 in
theorem c_X8_compute_p (hl : l.stackTraces = false) (S : sp_S) (fa : Nat → Int32) (fb : Nat → Int32) (mt : Int32) (ft : Nat → Int32) (ct : Nat → Int32) (f0 : Nat → Int32) (g0 : Nat → Int32) (f1 : Nat → Int32) (g1 : Nat → Int32) (c1 : Nat → Int32) (f2 : Nat → Int32) (g2 : Nat → Int32) (c2 : Nat → Int32) (f3 : Nat → Int32) (g3 : Nat → Int32) (c3 : Nat → Int32) (m3 : Int32) (f4 : Nat → Int32) (g4 : Nat → Int32) (c4 : Nat → Int32) (m4 : Int32) (f5 : Nat → Int32) (g5 : Nat → Int32) (c5 : Nat → Int32) (m5 : Int32) (ef0 : Nat → Int32) (ef1 : Nat → Int32) (t : Int32) (k : Int32) (r : Int32) (n : Int32) (ok : sp_ok S) (hra : z_row 12 (nI (sp_R S 0).length) fa (sp_R S 0)) (hrb : z_row 12 (nI (sp_R S 1).length) fb (sp_R S 1)) (ht0 : z_tba f0 g0 (sp_T S 0)) (ht1 : z_tba f1 g1 (sp_T S 1)) (ht2 : z_tba f2 g2 (sp_T S 2)) (he0 : z_row 10 (nI (sp_E S 0).2.length) ef0 (sp_E S 0).2) (he1 : z_row 10 (nI (sp_E S 1).2.length) ef1 (sp_E S 1).2) (hzm3 : z_m20 m3) (hzm4 : z_m20 m4) (hzm5 : z_m20 m5) : z_CX G l mX8_compute 20 14 120 (z_cw S.1.1 S.1.2 (nI (sp_R S 0).length) (sp_F S 0) fa (sp_C S 0) (nI (sp_R S 1).length) (sp_F S 1) fb (sp_C S 1) mt false ft ct f0 g0 (sp_C S 2) (nI (sp_T S 0).length) 0 f1 g1 c1 (nI (sp_T S 1).length) 0 f2 g2 c2 (nI (sp_T S 2).length) 1 f3 g3 c3 m3 0 f4 g4 c4 m4 0 f5 g5 c5 m5 1 (nI (sp_E S 0).2.length) (sp_E S 0).1.2.1 (sp_E S 0).1.2.2.1 (sp_E S 0).1.2.2.2 (sp_E S 0).1.1 ef0 (nI (sp_E S 1).2.length) (sp_E S 1).1.2.1 (sp_E S 1).1.2.2.1 (sp_E S 1).1.2.2.2 (sp_E S 1).1.1 ef1 []) [.ref 0, .int t, .int k, .int r, .int n] (fun v L => sp_k32 t (sp_bk k ∨ (r < 0 ∨ 5 < r) ∨ sp_bv n) = 0 ∧ v = some (.int ((sp_cmp (sp_srt (sp_i t)) (sp_T S (sp_i t)) (sp_C S 2) (sp_i k) r n).1.getD (-9))) ∧ sp_CW (sp_tb S (sp_i t) (sp_cmp (sp_srt (sp_i t)) (sp_T S (sp_i t)) (sp_C S 2) (sp_i k) r n)) L) (fun E L => ((z_xI E ∧ sp_k32 t (sp_bk k ∨ (r < 0 ∨ 5 < r) ∨ sp_bv n) = 1) ∨ (z_xA E ∧ sp_k32 t (sp_bk k ∨ (r < 0 ∨ 5 < r) ∨ sp_bv n) = 2)) ∧ L = (z_cw S.1.1 S.1.2 (nI (sp_R S 0).length) (sp_F S 0) fa (sp_C S 0) (nI (sp_R S 1).length) (sp_F S 1) fb (sp_C S 1) mt false ft ct f0 g0 (sp_C S 2) (nI (sp_T S 0).length) 0 f1 g1 c1 (nI (sp_T S 1).length) 0 f2 g2 c2 (nI (sp_T S 2).length) 1 f3 g3 c3 m3 0 f4 g4 c4 m4 0 f5 g5 c5 m5 1 (nI (sp_E S 0).2.length) (sp_E S 0).1.2.1 (sp_E S 0).1.2.2.1 (sp_E S 0).1.2.2.2 (sp_E S 0).1.1 ef0 (nI (sp_E S 1).2.length) (sp_E S 1).1.2.1 (sp_E S 1).1.2.2.1 (sp_E S 1).1.2.2.2 (sp_E S 1).1.1 ef1 [])) := by
  refine z_body hl (by decide) rfl (Nat.le_of_ble_eq_true rfl) ?_
  show z_J G l mX8_compute (z_SX 20 14 120 (z_cw S.1.1 S.1.2 (nI (sp_R S 0).length) (sp_F S 0) fa (sp_C S 0) (nI (sp_R S 1).length) (sp_F S 1) fb (sp_C S 1) mt false ft ct f0 g0 (sp_C S 2) (nI (sp_T S 0).length) 0 f1 g1 c1 (nI (sp_T S 1).length) 0 f2 g2 c2 (nI (sp_T S 2).length) 1 f3 g3 c3 m3 0 f4 g4 c4 m4 0 f5 g5 c5 m5 1 (nI (sp_E S 0).2.length) (sp_E S 0).1.2.1 (sp_E S 0).1.2.2.1 (sp_E S 0).1.2.2.2 (sp_E S 0).1.1 ef0 (nI (sp_E S 1).2.length) (sp_E S 1).1.2.1 (sp_E S 1).1.2.2.1 (sp_E S 1).1.2.2.2 (sp_E S 1).1.1 ef1 []) (fun v L => sp_k32 t (sp_bk k ∨ (r < 0 ∨ 5 < r) ∨ sp_bv n) = 0 ∧ v = some (.int ((sp_cmp (sp_srt (sp_i t)) (sp_T S (sp_i t)) (sp_C S 2) (sp_i k) r n).1.getD (-9))) ∧ sp_CW (sp_tb S (sp_i t) (sp_cmp (sp_srt (sp_i t)) (sp_T S (sp_i t)) (sp_C S 2) (sp_i k) r n)) L) (fun E L => ((z_xI E ∧ sp_k32 t (sp_bk k ∨ (r < 0 ∨ 5 < r) ∨ sp_bv n) = 1) ∨ (z_xA E ∧ sp_k32 t (sp_bk k ∨ (r < 0 ∨ 5 < r) ∨ sp_bv n) = 2)) ∧ L = (z_cw S.1.1 S.1.2 (nI (sp_R S 0).length) (sp_F S 0) fa (sp_C S 0) (nI (sp_R S 1).length) (sp_F S 1) fb (sp_C S 1) mt false ft ct f0 g0 (sp_C S 2) (nI (sp_T S 0).length) 0 f1 g1 c1 (nI (sp_T S 1).length) 0 f2 g2 c2 (nI (sp_T S 2).length) 1 f3 g3 c3 m3 0 f4 g4 c4 m4 0 f5 g5 c5 m5 1 (nI (sp_E S 0).2.length) (sp_E S 0).1.2.1 (sp_E S 0).1.2.2.1 (sp_E S 0).1.2.2.2 (sp_E S 0).1.1 ef0 (nI (sp_E S 1).2.length) (sp_E S 1).1.2.1 (sp_E S 1).1.2.2.1 (sp_E S 1).1.2.2.2 (sp_E S 1).1.1 ef1 []))) 0 [(0, _), (1, _), (2, _), (3, _), (4, _)] [] _ 0 0
  refine j_aload_n dX8_compute_0 rfl rfl ?_
  refine j_iload_n dX8_compute_1 rfl ?_
  refine j_iload_n dX8_compute_2 rfl ?_
  refine j_iload_n dX8_compute_3 rfl ?_
  refine j_iload dX8_compute_4 rfl ?_
  refine j_callV (q := (RX8, TX8, 9)) dX8_compute_6 kX8_tableToReckon lX8_140 inX8_tableToReckon seX8_tableToReckon rfl rfl (z_dirX (c_X8_tableToReckon_e hl _ _ _ _ _ _ _ _ _ _ _ _ _ _ _ _ _ _ _ _ _ _ _ _ _ _ _ _ _ _ _ _ _ _ _ _ _ _ _ _ _ _ _ _ _ _ _ _ _ _ _ _ _ _ _ _ _ _ _ _)) (Nat.le_of_ble_eq_true rfl) ⟨(Nat.le_of_ble_eq_true rfl), (Nat.le_of_ble_eq_true rfl)⟩ rfl (Nat.le_of_ble_eq_true rfl) rfl rfl (fun _ _ h => by obtain ⟨_, ⟨h1, rfl⟩, rfl⟩ := h; exact ⟨rfl, rfl, h1.elim (fun z => Or.inl ⟨z.1, sp_k32_1 z.2⟩) (fun z => Or.inr ⟨z.1, sp_k32_2 z.2.1 z.2.2⟩), rfl⟩) ?_
  rintro _ _ ⟨_, ⟨_, rfl, hr, hk6, rfl⟩, rfl⟩
  have hk0 := hk6
  obtain ⟨q, hq, rfl⟩ := sp_nt (m := 19) rfl (by decide) (fun z => hk0 (Or.inl z))
  rcases hr with ⟨e_6, rfl⟩ | ⟨e_6, rfl⟩ | ⟨e_6, rfl⟩
  · subst e_6
    refine j_astore (lo' := [(5, _), (0, _), (1, _), (2, _), (3, _), (4, _)]) dX8_compute_9 rfl (by decide) rfl ?_
    refine j_aload_n dX8_compute_11 rfl rfl ?_
    refine j_aload dX8_compute_12 rfl rfl ?_
    refine j_iload_n dX8_compute_14 rfl ?_
    refine j_iload_n dX8_compute_15 rfl ?_
    refine j_iload dX8_compute_16 rfl ?_
    refine j_callV (q := (RX4, TX4, 5)) dX8_compute_18 kX4_reckon lX8_151 inX4_reckon seX4_reckon rfl rfl (z_frame [10, 11, 12, 13, 14] rfl (by decide) (Nat.le_of_ble_eq_true rfl) (c_X4_reckon_c hl (sp_C S 2) false _ _ (sp_C S 2) (sp_T S 0) q r n ht0 (by omega) (sp_vl (fun z => hk0 (Or.inr (Or.inr z)))))) (Nat.le_of_ble_eq_true rfl) ⟨(Nat.le_of_ble_eq_true rfl), (Nat.le_of_ble_eq_true rfl)⟩ rfl (Nat.le_of_ble_eq_true rfl) rfl rfl (fun _ _ h => h.elim) ?_
    rintro _ _ ⟨_, _, ⟨rfl, f9, g9, ht9, rfl⟩, rfl, rfl⟩
    refine j_ws (L' := z_cw _ _ _ _ _ _ _ _ _ _ _ _ _ _ _ _ _ _ _ _ _ _ _ _ _ _ _ _ _ _ _ _ _ _ _ _ _ _ _ _ _ _ _ _ _ _ _ _ _ _ _ _ _ _ _ _ []) (by decide) rfl rfl ?_
    refine j_callV (q := (RX8, TX8, 9)) dX8_compute_21 kX8_answer lX8_100 inX8_answer seX8_answer rfl rfl (z_dirF (c_X8_answer_e hl _ _ _ _ _ _ _ _ _ _ _ _ _ _ _ _ _ _ _ _ _ _ _ _ _ _ _ _ _ _ _ _ _ _ _ _ _ _ _ _ _ _ _ _ _ _ _ _ _ _ _ _ _ _ _ _ (sp_cmp false (sp_T S 0) (sp_C S 2) q r n).1 (sp_cmp_n ht0.1 (sp_vl (fun z => hk0 (Or.inr (Or.inr z))))))) (Nat.le_of_ble_eq_true rfl) ⟨(Nat.le_of_ble_eq_true rfl), (Nat.le_of_ble_eq_true rfl)⟩ rfl (Nat.le_of_ble_eq_true rfl) rfl rfl (fun _ _ h => h.elim) ?_
    rintro _ _ ⟨_, ⟨rfl, rfl⟩, rfl⟩
    refine j_iret dX8_compute_24 rfl rfl ?_ (Nat.le_of_ble_eq_true rfl) (Nat.le_of_ble_eq_true rfl)
    refine ⟨rfl, (by first | exact z_cwl | rfl), ?_⟩
    rw [sp_i0, sp_in' (n := q) (by omega)]
    exact ⟨sp_k32_0 (Or.inl rfl) hk0, rfl, (sp_CWe hra hrb ht9 ht1 ht2 he0 he1 hzm3 hzm4 hzm5 rfl)⟩
  · subst e_6
    refine j_astore (lo' := [(5, _), (0, _), (1, _), (2, _), (3, _), (4, _)]) dX8_compute_9 rfl (by decide) rfl ?_
    refine j_aload_n dX8_compute_11 rfl rfl ?_
    refine j_aload dX8_compute_12 rfl rfl ?_
    refine j_iload_n dX8_compute_14 rfl ?_
    refine j_iload_n dX8_compute_15 rfl ?_
    refine j_iload dX8_compute_16 rfl ?_
    refine j_callV (q := (RX4, TX4, 5)) dX8_compute_18 kX4_reckon lX8_151 inX4_reckon seX4_reckon rfl rfl (z_frame [16, 17, 18, 19, 20] rfl (by decide) (Nat.le_of_ble_eq_true rfl) (c_X4_reckon_c hl (sp_C S 2) false _ _ _ (sp_T S 1) q r n ht1 (by omega) (sp_vl (fun z => hk0 (Or.inr (Or.inr z)))))) (Nat.le_of_ble_eq_true rfl) ⟨(Nat.le_of_ble_eq_true rfl), (Nat.le_of_ble_eq_true rfl)⟩ rfl (Nat.le_of_ble_eq_true rfl) rfl rfl (fun _ _ h => h.elim) ?_
    rintro _ _ ⟨_, _, ⟨rfl, f9, g9, ht9, rfl⟩, rfl, rfl⟩
    refine j_ws (L' := z_cw _ _ _ _ _ _ _ _ _ _ _ _ _ _ _ _ _ _ _ _ _ _ _ _ _ _ _ _ _ _ _ _ _ _ _ _ _ _ _ _ _ _ _ _ _ _ _ _ _ _ _ _ _ _ _ _ []) (by decide) rfl rfl ?_
    refine j_callV (q := (RX8, TX8, 9)) dX8_compute_21 kX8_answer lX8_100 inX8_answer seX8_answer rfl rfl (z_dirF (c_X8_answer_e hl _ _ _ _ _ _ _ _ _ _ _ _ _ _ _ _ _ _ _ _ _ _ _ _ _ _ _ _ _ _ _ _ _ _ _ _ _ _ _ _ _ _ _ _ _ _ _ _ _ _ _ _ _ _ _ _ (sp_cmp false (sp_T S 1) (sp_C S 2) q r n).1 (sp_cmp_n ht1.1 (sp_vl (fun z => hk0 (Or.inr (Or.inr z))))))) (Nat.le_of_ble_eq_true rfl) ⟨(Nat.le_of_ble_eq_true rfl), (Nat.le_of_ble_eq_true rfl)⟩ rfl (Nat.le_of_ble_eq_true rfl) rfl rfl (fun _ _ h => h.elim) ?_
    rintro _ _ ⟨_, ⟨rfl, rfl⟩, rfl⟩
    refine j_iret dX8_compute_24 rfl rfl ?_ (Nat.le_of_ble_eq_true rfl) (Nat.le_of_ble_eq_true rfl)
    refine ⟨rfl, (by first | exact z_cwl | rfl), ?_⟩
    rw [sp_i1, sp_in' (n := q) (by omega)]
    exact ⟨sp_k32_0 (Or.inr (Or.inl rfl)) hk0, rfl, (sp_CWe hra hrb ht0 ht9 ht2 he0 he1 hzm3 hzm4 hzm5 rfl)⟩
  · subst e_6
    refine j_astore (lo' := [(5, _), (0, _), (1, _), (2, _), (3, _), (4, _)]) dX8_compute_9 rfl (by decide) rfl ?_
    refine j_aload_n dX8_compute_11 rfl rfl ?_
    refine j_aload dX8_compute_12 rfl rfl ?_
    refine j_iload_n dX8_compute_14 rfl ?_
    refine j_iload_n dX8_compute_15 rfl ?_
    refine j_iload dX8_compute_16 rfl ?_
    refine j_callV (q := (RX4, TX4, 5)) dX8_compute_18 kX4_reckon lX8_151 inX4_reckon seX4_reckon rfl rfl (z_frame [21, 22, 23, 24, 25] rfl (by decide) (Nat.le_of_ble_eq_true rfl) (c_X4_reckon_c hl (sp_C S 2) true _ _ _ (sp_T S 2) q r n ht2 (by omega) (sp_vl (fun z => hk0 (Or.inr (Or.inr z)))))) (Nat.le_of_ble_eq_true rfl) ⟨(Nat.le_of_ble_eq_true rfl), (Nat.le_of_ble_eq_true rfl)⟩ rfl (Nat.le_of_ble_eq_true rfl) rfl rfl (fun _ _ h => h.elim) ?_
    rintro _ _ ⟨_, _, ⟨rfl, f9, g9, ht9, rfl⟩, rfl, rfl⟩
    refine j_ws (L' := z_cw _ _ _ _ _ _ _ _ _ _ _ _ _ _ _ _ _ _ _ _ _ _ _ _ _ _ _ _ _ _ _ _ _ _ _ _ _ _ _ _ _ _ _ _ _ _ _ _ _ _ _ _ _ _ _ _ []) (by decide) rfl rfl ?_
    refine j_callV (q := (RX8, TX8, 9)) dX8_compute_21 kX8_answer lX8_100 inX8_answer seX8_answer rfl rfl (z_dirF (c_X8_answer_e hl _ _ _ _ _ _ _ _ _ _ _ _ _ _ _ _ _ _ _ _ _ _ _ _ _ _ _ _ _ _ _ _ _ _ _ _ _ _ _ _ _ _ _ _ _ _ _ _ _ _ _ _ _ _ _ _ (sp_cmp true (sp_T S 2) (sp_C S 2) q r n).1 (sp_cmp_n ht2.1 (sp_vl (fun z => hk0 (Or.inr (Or.inr z))))))) (Nat.le_of_ble_eq_true rfl) ⟨(Nat.le_of_ble_eq_true rfl), (Nat.le_of_ble_eq_true rfl)⟩ rfl (Nat.le_of_ble_eq_true rfl) rfl rfl (fun _ _ h => h.elim) ?_
    rintro _ _ ⟨_, ⟨rfl, rfl⟩, rfl⟩
    refine j_iret dX8_compute_24 rfl rfl ?_ (Nat.le_of_ble_eq_true rfl) (Nat.le_of_ble_eq_true rfl)
    refine ⟨rfl, (by first | exact z_cwl | rfl), ?_⟩
    rw [sp_i2, sp_in' (n := q) (by omega)]
    exact ⟨sp_k32_0 (Or.inr (Or.inr rfl)) hk0, rfl, (sp_CWe hra hrb ht0 ht1 ht9 he0 he1 hzm3 hzm4 hzm5 rfl)⟩
set_option maxRecDepth 100000 in
set_option maxHeartbeats 8000000 in
theorem c_X8_merge_p (hl : l.stackTraces = false) (S : sp_S) (fa : Nat → Int32) (fb : Nat → Int32) (mt : Int32) (ft : Nat → Int32) (ct : Nat → Int32) (f0 : Nat → Int32) (g0 : Nat → Int32) (f1 : Nat → Int32) (g1 : Nat → Int32) (c1 : Nat → Int32) (f2 : Nat → Int32) (g2 : Nat → Int32) (c2 : Nat → Int32) (f3 : Nat → Int32) (g3 : Nat → Int32) (c3 : Nat → Int32) (m3 : Int32) (f4 : Nat → Int32) (g4 : Nat → Int32) (c4 : Nat → Int32) (m4 : Int32) (f5 : Nat → Int32) (g5 : Nat → Int32) (c5 : Nat → Int32) (m5 : Int32) (ef0 : Nat → Int32) (ef1 : Nat → Int32) (t : Int32) (k : Int32) (y : Int32) (r : Int32) (ok : sp_ok S) (hra : z_row 12 (nI (sp_R S 0).length) fa (sp_R S 0)) (hrb : z_row 12 (nI (sp_R S 1).length) fb (sp_R S 1)) (ht0 : z_tba f0 g0 (sp_T S 0)) (ht1 : z_tba f1 g1 (sp_T S 1)) (ht2 : z_tba f2 g2 (sp_T S 2)) (he0 : z_row 10 (nI (sp_E S 0).2.length) ef0 (sp_E S 0).2) (he1 : z_row 10 (nI (sp_E S 1).2.length) ef1 (sp_E S 1).2) (hzm3 : z_m20 m3) (hzm4 : z_m20 m4) (hzm5 : z_m20 m5) : z_CX G l mX8_merge 20 14 120 (z_cw S.1.1 S.1.2 (nI (sp_R S 0).length) (sp_F S 0) fa (sp_C S 0) (nI (sp_R S 1).length) (sp_F S 1) fb (sp_C S 1) mt false ft ct f0 g0 (sp_C S 2) (nI (sp_T S 0).length) 0 f1 g1 c1 (nI (sp_T S 1).length) 0 f2 g2 c2 (nI (sp_T S 2).length) 1 f3 g3 c3 m3 0 f4 g4 c4 m4 0 f5 g5 c5 m5 1 (nI (sp_E S 0).2.length) (sp_E S 0).1.2.1 (sp_E S 0).1.2.2.1 (sp_E S 0).1.2.2.2 (sp_E S 0).1.1 ef0 (nI (sp_E S 1).2.length) (sp_E S 1).1.2.1 (sp_E S 1).1.2.2.1 (sp_E S 1).1.2.2.2 (sp_E S 1).1.1 ef1 []) [.ref 0, .int t, .int k, .int y, .int r] (fun v L => sp_k32 t (sp_bk k ∨ (r < 0 ∨ 5 < r) ∨ sp_bv y) = 0 ∧ v = some (.int ((sp_mrg (sp_srt (sp_i t)) (sp_T S (sp_i t)) (sp_C S 2) (sp_i k) y r).1.getD (-9))) ∧ sp_CW (sp_tb S (sp_i t) (sp_mrg (sp_srt (sp_i t)) (sp_T S (sp_i t)) (sp_C S 2) (sp_i k) y r)) L) (fun E L => ((z_xI E ∧ sp_k32 t (sp_bk k ∨ (r < 0 ∨ 5 < r) ∨ sp_bv y) = 1) ∨ (z_xA E ∧ sp_k32 t (sp_bk k ∨ (r < 0 ∨ 5 < r) ∨ sp_bv y) = 2)) ∧ L = (z_cw S.1.1 S.1.2 (nI (sp_R S 0).length) (sp_F S 0) fa (sp_C S 0) (nI (sp_R S 1).length) (sp_F S 1) fb (sp_C S 1) mt false ft ct f0 g0 (sp_C S 2) (nI (sp_T S 0).length) 0 f1 g1 c1 (nI (sp_T S 1).length) 0 f2 g2 c2 (nI (sp_T S 2).length) 1 f3 g3 c3 m3 0 f4 g4 c4 m4 0 f5 g5 c5 m5 1 (nI (sp_E S 0).2.length) (sp_E S 0).1.2.1 (sp_E S 0).1.2.2.1 (sp_E S 0).1.2.2.2 (sp_E S 0).1.1 ef0 (nI (sp_E S 1).2.length) (sp_E S 1).1.2.1 (sp_E S 1).1.2.2.1 (sp_E S 1).1.2.2.2 (sp_E S 1).1.1 ef1 [])) := by
  refine z_body hl (by decide) rfl (Nat.le_of_ble_eq_true rfl) ?_
  show z_J G l mX8_merge (z_SX 20 14 120 (z_cw S.1.1 S.1.2 (nI (sp_R S 0).length) (sp_F S 0) fa (sp_C S 0) (nI (sp_R S 1).length) (sp_F S 1) fb (sp_C S 1) mt false ft ct f0 g0 (sp_C S 2) (nI (sp_T S 0).length) 0 f1 g1 c1 (nI (sp_T S 1).length) 0 f2 g2 c2 (nI (sp_T S 2).length) 1 f3 g3 c3 m3 0 f4 g4 c4 m4 0 f5 g5 c5 m5 1 (nI (sp_E S 0).2.length) (sp_E S 0).1.2.1 (sp_E S 0).1.2.2.1 (sp_E S 0).1.2.2.2 (sp_E S 0).1.1 ef0 (nI (sp_E S 1).2.length) (sp_E S 1).1.2.1 (sp_E S 1).1.2.2.1 (sp_E S 1).1.2.2.2 (sp_E S 1).1.1 ef1 []) (fun v L => sp_k32 t (sp_bk k ∨ (r < 0 ∨ 5 < r) ∨ sp_bv y) = 0 ∧ v = some (.int ((sp_mrg (sp_srt (sp_i t)) (sp_T S (sp_i t)) (sp_C S 2) (sp_i k) y r).1.getD (-9))) ∧ sp_CW (sp_tb S (sp_i t) (sp_mrg (sp_srt (sp_i t)) (sp_T S (sp_i t)) (sp_C S 2) (sp_i k) y r)) L) (fun E L => ((z_xI E ∧ sp_k32 t (sp_bk k ∨ (r < 0 ∨ 5 < r) ∨ sp_bv y) = 1) ∨ (z_xA E ∧ sp_k32 t (sp_bk k ∨ (r < 0 ∨ 5 < r) ∨ sp_bv y) = 2)) ∧ L = (z_cw S.1.1 S.1.2 (nI (sp_R S 0).length) (sp_F S 0) fa (sp_C S 0) (nI (sp_R S 1).length) (sp_F S 1) fb (sp_C S 1) mt false ft ct f0 g0 (sp_C S 2) (nI (sp_T S 0).length) 0 f1 g1 c1 (nI (sp_T S 1).length) 0 f2 g2 c2 (nI (sp_T S 2).length) 1 f3 g3 c3 m3 0 f4 g4 c4 m4 0 f5 g5 c5 m5 1 (nI (sp_E S 0).2.length) (sp_E S 0).1.2.1 (sp_E S 0).1.2.2.1 (sp_E S 0).1.2.2.2 (sp_E S 0).1.1 ef0 (nI (sp_E S 1).2.length) (sp_E S 1).1.2.1 (sp_E S 1).1.2.2.1 (sp_E S 1).1.2.2.2 (sp_E S 1).1.1 ef1 []))) 0 [(0, _), (1, _), (2, _), (3, _), (4, _)] [] _ 0 0
  refine j_aload_n dX8_merge_0 rfl rfl ?_
  refine j_iload_n dX8_merge_1 rfl ?_
  refine j_iload_n dX8_merge_2 rfl ?_
  refine j_iload dX8_merge_3 rfl ?_
  refine j_iload_n dX8_merge_5 rfl ?_
  refine j_callV (q := (RX8, TX8, 9)) dX8_merge_6 kX8_tableToReckon lX8_140 inX8_tableToReckon seX8_tableToReckon rfl rfl (z_dirX (c_X8_tableToReckon_e hl _ _ _ _ _ _ _ _ _ _ _ _ _ _ _ _ _ _ _ _ _ _ _ _ _ _ _ _ _ _ _ _ _ _ _ _ _ _ _ _ _ _ _ _ _ _ _ _ _ _ _ _ _ _ _ _ _ _ _ _)) (Nat.le_of_ble_eq_true rfl) ⟨(Nat.le_of_ble_eq_true rfl), (Nat.le_of_ble_eq_true rfl)⟩ rfl (Nat.le_of_ble_eq_true rfl) rfl rfl (fun _ _ h => by obtain ⟨_, ⟨h1, rfl⟩, rfl⟩ := h; exact ⟨rfl, rfl, h1.elim (fun z => Or.inl ⟨z.1, sp_k32_1 z.2⟩) (fun z => Or.inr ⟨z.1, sp_k32_2 z.2.1 z.2.2⟩), rfl⟩) ?_
  rintro _ _ ⟨_, ⟨_, rfl, hr, hk6, rfl⟩, rfl⟩
  have hk0 := hk6
  obtain ⟨q, hq, rfl⟩ := sp_nt (m := 19) rfl (by decide) (fun z => hk0 (Or.inl z))
  rcases hr with ⟨e_6, rfl⟩ | ⟨e_6, rfl⟩ | ⟨e_6, rfl⟩
  · subst e_6
    refine j_astore (lo' := [(5, _), (0, _), (1, _), (2, _), (3, _), (4, _)]) dX8_merge_9 rfl (by decide) rfl ?_
    refine j_aload_n dX8_merge_11 rfl rfl ?_
    refine j_aload dX8_merge_12 rfl rfl ?_
    refine j_iload_n dX8_merge_14 rfl ?_
    refine j_iload_n dX8_merge_15 rfl ?_
    refine j_iload dX8_merge_16 rfl ?_
    refine j_callV (q := (RX4, TX4, 5)) dX8_merge_18 kX4_join lX8_154 inX4_join seX4_join rfl rfl (z_frame [10, 11, 12, 13, 14] rfl (by decide) (Nat.le_of_ble_eq_true rfl) (c_X4_join_c hl (sp_C S 2) false _ _ (sp_C S 2) (sp_T S 0) q y r ht0 (by omega) (sp_vl (fun z => hk0 (Or.inr (Or.inr z)))))) (Nat.le_of_ble_eq_true rfl) ⟨(Nat.le_of_ble_eq_true rfl), (Nat.le_of_ble_eq_true rfl)⟩ rfl (Nat.le_of_ble_eq_true rfl) rfl rfl (fun _ _ h => h.elim) ?_
    rintro _ _ ⟨_, _, ⟨rfl, f9, g9, ht9, rfl⟩, rfl, rfl⟩
    refine j_ws (L' := z_cw _ _ _ _ _ _ _ _ _ _ _ _ _ _ _ _ _ _ _ _ _ _ _ _ _ _ _ _ _ _ _ _ _ _ _ _ _ _ _ _ _ _ _ _ _ _ _ _ _ _ _ _ _ _ _ _ []) (by decide) rfl rfl ?_
    refine j_callV (q := (RX8, TX8, 9)) dX8_merge_21 kX8_answer lX8_100 inX8_answer seX8_answer rfl rfl (z_dirF (c_X8_answer_e hl _ _ _ _ _ _ _ _ _ _ _ _ _ _ _ _ _ _ _ _ _ _ _ _ _ _ _ _ _ _ _ _ _ _ _ _ _ _ _ _ _ _ _ _ _ _ _ _ _ _ _ _ _ _ _ _ (sp_mrg false (sp_T S 0) (sp_C S 2) q y r).1 (sp_mrg_n ht0.1 (sp_vl (fun z => hk0 (Or.inr (Or.inr z))))))) (Nat.le_of_ble_eq_true rfl) ⟨(Nat.le_of_ble_eq_true rfl), (Nat.le_of_ble_eq_true rfl)⟩ rfl (Nat.le_of_ble_eq_true rfl) rfl rfl (fun _ _ h => h.elim) ?_
    rintro _ _ ⟨_, ⟨rfl, rfl⟩, rfl⟩
    refine j_iret dX8_merge_24 rfl rfl ?_ (Nat.le_of_ble_eq_true rfl) (Nat.le_of_ble_eq_true rfl)
    refine ⟨rfl, (by first | exact z_cwl | rfl), ?_⟩
    rw [sp_i0, sp_in' (n := q) (by omega)]
    exact ⟨sp_k32_0 (Or.inl rfl) hk0, rfl, (sp_CWe hra hrb ht9 ht1 ht2 he0 he1 hzm3 hzm4 hzm5 rfl)⟩
  · subst e_6
    refine j_astore (lo' := [(5, _), (0, _), (1, _), (2, _), (3, _), (4, _)]) dX8_merge_9 rfl (by decide) rfl ?_
    refine j_aload_n dX8_merge_11 rfl rfl ?_
    refine j_aload dX8_merge_12 rfl rfl ?_
    refine j_iload_n dX8_merge_14 rfl ?_
    refine j_iload_n dX8_merge_15 rfl ?_
    refine j_iload dX8_merge_16 rfl ?_
    refine j_callV (q := (RX4, TX4, 5)) dX8_merge_18 kX4_join lX8_154 inX4_join seX4_join rfl rfl (z_frame [16, 17, 18, 19, 20] rfl (by decide) (Nat.le_of_ble_eq_true rfl) (c_X4_join_c hl (sp_C S 2) false _ _ _ (sp_T S 1) q y r ht1 (by omega) (sp_vl (fun z => hk0 (Or.inr (Or.inr z)))))) (Nat.le_of_ble_eq_true rfl) ⟨(Nat.le_of_ble_eq_true rfl), (Nat.le_of_ble_eq_true rfl)⟩ rfl (Nat.le_of_ble_eq_true rfl) rfl rfl (fun _ _ h => h.elim) ?_
    rintro _ _ ⟨_, _, ⟨rfl, f9, g9, ht9, rfl⟩, rfl, rfl⟩
    refine j_ws (L' := z_cw _ _ _ _ _ _ _ _ _ _ _ _ _ _ _ _ _ _ _ _ _ _ _ _ _ _ _ _ _ _ _ _ _ _ _ _ _ _ _ _ _ _ _ _ _ _ _ _ _ _ _ _ _ _ _ _ []) (by decide) rfl rfl ?_
    refine j_callV (q := (RX8, TX8, 9)) dX8_merge_21 kX8_answer lX8_100 inX8_answer seX8_answer rfl rfl (z_dirF (c_X8_answer_e hl _ _ _ _ _ _ _ _ _ _ _ _ _ _ _ _ _ _ _ _ _ _ _ _ _ _ _ _ _ _ _ _ _ _ _ _ _ _ _ _ _ _ _ _ _ _ _ _ _ _ _ _ _ _ _ _ (sp_mrg false (sp_T S 1) (sp_C S 2) q y r).1 (sp_mrg_n ht1.1 (sp_vl (fun z => hk0 (Or.inr (Or.inr z))))))) (Nat.le_of_ble_eq_true rfl) ⟨(Nat.le_of_ble_eq_true rfl), (Nat.le_of_ble_eq_true rfl)⟩ rfl (Nat.le_of_ble_eq_true rfl) rfl rfl (fun _ _ h => h.elim) ?_
    rintro _ _ ⟨_, ⟨rfl, rfl⟩, rfl⟩
    refine j_iret dX8_merge_24 rfl rfl ?_ (Nat.le_of_ble_eq_true rfl) (Nat.le_of_ble_eq_true rfl)
    refine ⟨rfl, (by first | exact z_cwl | rfl), ?_⟩
    rw [sp_i1, sp_in' (n := q) (by omega)]
    exact ⟨sp_k32_0 (Or.inr (Or.inl rfl)) hk0, rfl, (sp_CWe hra hrb ht0 ht9 ht2 he0 he1 hzm3 hzm4 hzm5 rfl)⟩
  · subst e_6
    refine j_astore (lo' := [(5, _), (0, _), (1, _), (2, _), (3, _), (4, _)]) dX8_merge_9 rfl (by decide) rfl ?_
    refine j_aload_n dX8_merge_11 rfl rfl ?_
    refine j_aload dX8_merge_12 rfl rfl ?_
    refine j_iload_n dX8_merge_14 rfl ?_
    refine j_iload_n dX8_merge_15 rfl ?_
    refine j_iload dX8_merge_16 rfl ?_
    refine j_callV (q := (RX4, TX4, 5)) dX8_merge_18 kX4_join lX8_154 inX4_join seX4_join rfl rfl (z_frame [21, 22, 23, 24, 25] rfl (by decide) (Nat.le_of_ble_eq_true rfl) (c_X4_join_c hl (sp_C S 2) true _ _ _ (sp_T S 2) q y r ht2 (by omega) (sp_vl (fun z => hk0 (Or.inr (Or.inr z)))))) (Nat.le_of_ble_eq_true rfl) ⟨(Nat.le_of_ble_eq_true rfl), (Nat.le_of_ble_eq_true rfl)⟩ rfl (Nat.le_of_ble_eq_true rfl) rfl rfl (fun _ _ h => h.elim) ?_
    rintro _ _ ⟨_, _, ⟨rfl, f9, g9, ht9, rfl⟩, rfl, rfl⟩
    refine j_ws (L' := z_cw _ _ _ _ _ _ _ _ _ _ _ _ _ _ _ _ _ _ _ _ _ _ _ _ _ _ _ _ _ _ _ _ _ _ _ _ _ _ _ _ _ _ _ _ _ _ _ _ _ _ _ _ _ _ _ _ []) (by decide) rfl rfl ?_
    refine j_callV (q := (RX8, TX8, 9)) dX8_merge_21 kX8_answer lX8_100 inX8_answer seX8_answer rfl rfl (z_dirF (c_X8_answer_e hl _ _ _ _ _ _ _ _ _ _ _ _ _ _ _ _ _ _ _ _ _ _ _ _ _ _ _ _ _ _ _ _ _ _ _ _ _ _ _ _ _ _ _ _ _ _ _ _ _ _ _ _ _ _ _ _ (sp_mrg true (sp_T S 2) (sp_C S 2) q y r).1 (sp_mrg_n ht2.1 (sp_vl (fun z => hk0 (Or.inr (Or.inr z))))))) (Nat.le_of_ble_eq_true rfl) ⟨(Nat.le_of_ble_eq_true rfl), (Nat.le_of_ble_eq_true rfl)⟩ rfl (Nat.le_of_ble_eq_true rfl) rfl rfl (fun _ _ h => h.elim) ?_
    rintro _ _ ⟨_, ⟨rfl, rfl⟩, rfl⟩
    refine j_iret dX8_merge_24 rfl rfl ?_ (Nat.le_of_ble_eq_true rfl) (Nat.le_of_ble_eq_true rfl)
    refine ⟨rfl, (by first | exact z_cwl | rfl), ?_⟩
    rw [sp_i2, sp_in' (n := q) (by omega)]
    exact ⟨sp_k32_0 (Or.inr (Or.inr rfl)) hk0, rfl, (sp_CWe hra hrb ht0 ht1 ht9 he0 he1 hzm3 hzm4 hzm5 rfl)⟩
set_option maxRecDepth 100000 in
set_option maxHeartbeats 8000000 in
theorem c_X8_hearTable_p (hl : l.stackTraces = false) (S : sp_S) (fa : Nat → Int32) (fb : Nat → Int32) (mt : Int32) (ft : Nat → Int32) (ct : Nat → Int32) (f0 : Nat → Int32) (g0 : Nat → Int32) (f1 : Nat → Int32) (g1 : Nat → Int32) (c1 : Nat → Int32) (f2 : Nat → Int32) (g2 : Nat → Int32) (c2 : Nat → Int32) (f3 : Nat → Int32) (g3 : Nat → Int32) (c3 : Nat → Int32) (m3 : Int32) (f4 : Nat → Int32) (g4 : Nat → Int32) (c4 : Nat → Int32) (m4 : Int32) (f5 : Nat → Int32) (g5 : Nat → Int32) (c5 : Nat → Int32) (m5 : Int32) (ef0 : Nat → Int32) (ef1 : Nat → Int32) (t : Int32) (g : Int32) (ok : sp_ok S) (hra : z_row 12 (nI (sp_R S 0).length) fa (sp_R S 0)) (hrb : z_row 12 (nI (sp_R S 1).length) fb (sp_R S 1)) (ht0 : z_tba f0 g0 (sp_T S 0)) (ht1 : z_tba f1 g1 (sp_T S 1)) (ht2 : z_tba f2 g2 (sp_T S 2)) (he0 : z_row 10 (nI (sp_E S 0).2.length) ef0 (sp_E S 0).2) (he1 : z_row 10 (nI (sp_E S 1).2.length) ef1 (sp_E S 1).2) (hzm3 : z_m20 m3) (hzm4 : z_m20 m4) (hzm5 : z_m20 m5) : z_CX G l mX8_hearTable 20 14 120 (z_cw S.1.1 S.1.2 (nI (sp_R S 0).length) (sp_F S 0) fa (sp_C S 0) (nI (sp_R S 1).length) (sp_F S 1) fb (sp_C S 1) mt false ft ct f0 g0 (sp_C S 2) (nI (sp_T S 0).length) 0 f1 g1 c1 (nI (sp_T S 1).length) 0 f2 g2 c2 (nI (sp_T S 2).length) 1 f3 g3 c3 m3 0 f4 g4 c4 m4 0 f5 g5 c5 m5 1 (nI (sp_E S 0).2.length) (sp_E S 0).1.2.1 (sp_E S 0).1.2.2.1 (sp_E S 0).1.2.2.2 (sp_E S 0).1.1 ef0 (nI (sp_E S 1).2.length) (sp_E S 1).1.2.1 (sp_E S 1).1.2.2.1 (sp_E S 1).1.2.2.2 (sp_E S 1).1.1 ef1 []) [.ref 0, .int t, .int g] (fun v L => sp_k3b t g = 0 ∧ v = some (.int (sp_an (sp_htb S (sp_i t) (sp_i g)).1)) ∧ sp_CW (sp_htbS S (sp_i t) (sp_i g)) L) (fun E L => ((z_xI E ∧ sp_k3b t g = 1)) ∧ L = (z_cw S.1.1 S.1.2 (nI (sp_R S 0).length) (sp_F S 0) fa (sp_C S 0) (nI (sp_R S 1).length) (sp_F S 1) fb (sp_C S 1) mt false ft ct f0 g0 (sp_C S 2) (nI (sp_T S 0).length) 0 f1 g1 c1 (nI (sp_T S 1).length) 0 f2 g2 c2 (nI (sp_T S 2).length) 1 f3 g3 c3 m3 0 f4 g4 c4 m4 0 f5 g5 c5 m5 1 (nI (sp_E S 0).2.length) (sp_E S 0).1.2.1 (sp_E S 0).1.2.2.1 (sp_E S 0).1.2.2.2 (sp_E S 0).1.1 ef0 (nI (sp_E S 1).2.length) (sp_E S 1).1.2.1 (sp_E S 1).1.2.2.1 (sp_E S 1).1.2.2.2 (sp_E S 1).1.1 ef1 [])) := by
  refine z_body hl (by decide) rfl (Nat.le_of_ble_eq_true rfl) ?_
  show z_J G l mX8_hearTable (z_SX 20 14 120 (z_cw S.1.1 S.1.2 (nI (sp_R S 0).length) (sp_F S 0) fa (sp_C S 0) (nI (sp_R S 1).length) (sp_F S 1) fb (sp_C S 1) mt false ft ct f0 g0 (sp_C S 2) (nI (sp_T S 0).length) 0 f1 g1 c1 (nI (sp_T S 1).length) 0 f2 g2 c2 (nI (sp_T S 2).length) 1 f3 g3 c3 m3 0 f4 g4 c4 m4 0 f5 g5 c5 m5 1 (nI (sp_E S 0).2.length) (sp_E S 0).1.2.1 (sp_E S 0).1.2.2.1 (sp_E S 0).1.2.2.2 (sp_E S 0).1.1 ef0 (nI (sp_E S 1).2.length) (sp_E S 1).1.2.1 (sp_E S 1).1.2.2.1 (sp_E S 1).1.2.2.2 (sp_E S 1).1.1 ef1 []) (fun v L => sp_k3b t g = 0 ∧ v = some (.int (sp_an (sp_htb S (sp_i t) (sp_i g)).1)) ∧ sp_CW (sp_htbS S (sp_i t) (sp_i g)) L) (fun E L => ((z_xI E ∧ sp_k3b t g = 1)) ∧ L = (z_cw S.1.1 S.1.2 (nI (sp_R S 0).length) (sp_F S 0) fa (sp_C S 0) (nI (sp_R S 1).length) (sp_F S 1) fb (sp_C S 1) mt false ft ct f0 g0 (sp_C S 2) (nI (sp_T S 0).length) 0 f1 g1 c1 (nI (sp_T S 1).length) 0 f2 g2 c2 (nI (sp_T S 2).length) 1 f3 g3 c3 m3 0 f4 g4 c4 m4 0 f5 g5 c5 m5 1 (nI (sp_E S 0).2.length) (sp_E S 0).1.2.1 (sp_E S 0).1.2.2.1 (sp_E S 0).1.2.2.2 (sp_E S 0).1.1 ef0 (nI (sp_E S 1).2.length) (sp_E S 1).1.2.1 (sp_E S 1).1.2.2.1 (sp_E S 1).1.2.2.2 (sp_E S 1).1.1 ef1 []))) 0 [(0, _), (1, _), (2, _)] [] _ 0 0
  refine j_aload_n dX8_hearTable_0 rfl rfl ?_
  refine j_iload_n dX8_hearTable_1 rfl ?_
  refine j_callV (q := (RX8, TX8, 9)) dX8_hearTable_2 kX8_tableFor lX8_157 inX8_tableFor seX8_tableFor rfl rfl (z_dirX (c_X8_tableFor_e hl _ _ _ _ _ _ _ _ _ _ _ _ _ _ _ _ _ _ _ _ _ _ _ _ _ _ _ _ _ _ _ _ _ _ _ _ _ _ _ _ _ _ _ _ _ _ _ _ _ _ _ _ _ _ _ _ _)) (Nat.le_of_ble_eq_true rfl) ⟨(Nat.le_of_ble_eq_true rfl), (Nat.le_of_ble_eq_true rfl)⟩ rfl (Nat.le_of_ble_eq_true rfl) rfl rfl (fun _ _ h => by obtain ⟨_, ⟨h1, rfl⟩, rfl⟩ := h; exact ⟨rfl, rfl, ⟨h1.1, sp_k3b_1 h1.2⟩, rfl⟩) ?_
  rintro _ _ ⟨_, ⟨_, rfl, hr, rfl⟩, rfl⟩
  rcases hr with ⟨e_2, rfl⟩ | ⟨e_2, rfl⟩ | ⟨e_2, rfl⟩
  · subst e_2
    refine j_astore_n (lo' := [(3, _), (0, _), (1, _), (2, _)]) dX8_hearTable_5 rfl (by decide) rfl ?_
    refine j_aload_n dX8_hearTable_6 rfl rfl ?_
    refine j_iload_n dX8_hearTable_7 rfl ?_
    refine j_callV (q := (RX8, TX8, 9)) dX8_hearTable_8 kX8_hearerFor lX8_87 inX8_hearerFor seX8_hearerFor rfl rfl (z_dirX (c_X8_hearerFor_e hl _ _ _ _ _ _ _ _ _ _ _ _ _ _ _ _ _ _ _ _ _ _ _ _ _ _ _ _ _ _ _ _ _ _ _ _ _ _ _ _ _ _ _ _ _ _ _ _ _ _ _ _ _ _ _ _ _)) (Nat.le_of_ble_eq_true rfl) ⟨(Nat.le_of_ble_eq_true rfl), (Nat.le_of_ble_eq_true rfl)⟩ rfl (Nat.le_of_ble_eq_true rfl) rfl rfl (fun _ _ h => by obtain ⟨_, ⟨h1, rfl⟩, rfl⟩ := h; exact ⟨rfl, rfl, ⟨h1.1, sp_k3b_1' h1.2⟩, rfl⟩) ?_
    rintro _ _ ⟨_, ⟨_, rfl, hr, rfl⟩, rfl⟩
    rcases hr with ⟨e_8, rfl⟩ | ⟨e_8, rfl⟩
    · subst e_8
      refine j_astore (lo' := [(4, _), (3, _), (0, _), (1, _), (2, _)]) dX8_hearTable_11 rfl (by decide) rfl ?_
      refine j_aload_n dX8_hearTable_13 rfl rfl ?_
      refine j_new (w' := (z_cw _ _ _ _ _ _ _ _ _ _ _ _ _ _ _ _ _ _ _ _ _ _ _ _ _ _ _ _ _ _ _ _ _ _ _ _ _ _ _ _ _ _ _ _ _ _ _ _ _ _ _ _ _ _ _ _ [.inr (10, [_, _, _, _, _])], z_no)) (n := 51) dX8_hearTable_14 nX8_160 rfl (z_al_l rfl rfl) (Nat.le_of_ble_eq_true rfl) (Nat.le_of_ble_eq_true rfl) ?_
      refine j_dup dX8_hearTable_17 rfl ?_
      refine j_aload_n dX8_hearTable_18 rfl rfl ?_
      refine j_callI dX8_hearTable_19 kX5_init rfl lX8_162 inX5_init rfl (z_frame [51, 10, 11, 12, 13, 14] rfl (by decide) (Nat.le_of_ble_eq_true rfl) (c_X5_init_e hl false _ _ _ _)) (Nat.le_of_ble_eq_true rfl) ⟨(Nat.le_of_ble_eq_true rfl), (Nat.le_of_ble_eq_true rfl)⟩ rfl (Nat.le_of_ble_eq_true rfl) rfl rfl (fun _ _ h => h.elim) ?_
      rintro _ _ ⟨_, _, ⟨rfl, rfl⟩, rfl, rfl⟩
      refine j_ws (L' := z_cw _ _ _ _ _ _ _ _ _ _ _ _ _ _ _ _ _ _ _ _ _ _ _ _ _ _ _ _ _ _ _ _ _ _ _ _ _ _ _ _ _ _ _ _ _ _ _ _ _ _ _ _ _ _ _ _ [.inr (10, [_, _, _, _, _])]) (by decide) rfl rfl ?_
      refine j_aload dX8_hearTable_22 rfl rfl ?_
      refine j_callS dX8_hearTable_24 kX8_hearOut lX8_96 stX8_hearOut (z_frame [51, 10, 11, 12, 13, 14, 27, 28] rfl (by decide) (Nat.le_of_ble_eq_true rfl) (c_X8_hearOut_X5_c hl (z_bp (sp_C S 2) 0) _ _ false _ _ _ _ (sp_T S 0) (sp_E S 0) _ ht0 rfl he0)) (Nat.le_of_ble_eq_true rfl) ⟨(Nat.le_of_ble_eq_true rfl), (Nat.le_of_ble_eq_true rfl)⟩ rfl (Nat.le_of_ble_eq_true rfl) rfl rfl (fun _ _ h => h.elim) ?_
      rintro _ _ ⟨_, _, ⟨rfl, _, _, _, ef9, he9, rfl⟩, rfl, rfl⟩
      refine j_ws (L' := z_cw _ _ _ _ _ _ _ _ _ _ _ _ _ _ _ _ _ _ _ _ _ _ _ _ _ _ _ _ _ _ _ _ _ _ _ _ _ _ _ _ _ _ _ _ _ _ _ _ _ _ _ _ _ _ _ _ [.inr (10, [_, _, _, _, _])]) (by decide) rfl rfl ?_
      refine j_lo (lo' := []) z_q0 ?_
      refine j_dropL (n := 51) rfl (Nat.le_of_ble_eq_true rfl) (Nat.le_of_ble_eq_true rfl) (Nat.le_of_ble_eq_true rfl) z_cwc rfl rfl ?_
      refine j_w (z_cw _ _ _ _ _ _ _ _ _ _ _ _ _ _ _ _ _ _ _ _ _ _ _ _ _ _ _ _ _ _ _ _ _ _ _ _ _ _ _ _ _ _ _ _ _ _ _ _ _ _ _ _ _ _ _ _ [], z_no) rfl ?_
      refine j_callV (q := (RX8, TX8, 9)) dX8_hearTable_27 kX8_answer lX8_100 inX8_answer seX8_answer rfl rfl (z_dirF (c_X8_answer_f_e hl _ _ _ _ _ _ _ _ _ _ _ _ _ _ _ _ _ _ _ _ _ _ _ _ _ _ _ _ _ _ _ _ _ _ _ _ _ _ _ _ _ _ _ _ _ _ _ _ _ _ _ _ _ _ _ _ (sp_htb S 0 0).1 nI (fun y hy z => absurd (nI_pos' (n := y) (by have h8 := sp_ho_n _ _ _ _ hy; rw [sp_prl] at h8; have := ht0.len; omega)) (by rw [z]; decide)))) (Nat.le_of_ble_eq_true rfl) ⟨(Nat.le_of_ble_eq_true rfl), (Nat.le_of_ble_eq_true rfl)⟩ rfl (Nat.le_of_ble_eq_true rfl) rfl rfl (fun _ _ h => h.elim) ?_
      rintro _ _ ⟨_, ⟨rfl, rfl⟩, rfl⟩
      refine j_iret dX8_hearTable_30 rfl rfl ?_ (Nat.le_of_ble_eq_true rfl) (Nat.le_of_ble_eq_true rfl)
      refine ⟨rfl, (by first | exact z_cwl | rfl), ?_⟩
      try rw [sp_i0]
      exact ⟨sp_k3b_0 (Or.inl rfl) (Or.inl rfl), rfl, (sp_CWe hra hrb ht0 ht1 ht2 he9 he1 hzm3 hzm4 hzm5 rfl)⟩
    · subst e_8
      refine j_astore (lo' := [(4, _), (3, _), (0, _), (1, _), (2, _)]) dX8_hearTable_11 rfl (by decide) rfl ?_
      refine j_aload_n dX8_hearTable_13 rfl rfl ?_
      refine j_new (w' := (z_cw _ _ _ _ _ _ _ _ _ _ _ _ _ _ _ _ _ _ _ _ _ _ _ _ _ _ _ _ _ _ _ _ _ _ _ _ _ _ _ _ _ _ _ _ _ _ _ _ _ _ _ _ _ _ _ _ [.inr (10, [_, _, _, _, _])], z_no)) (n := 51) dX8_hearTable_14 nX8_160 rfl (z_al_l rfl rfl) (Nat.le_of_ble_eq_true rfl) (Nat.le_of_ble_eq_true rfl) ?_
      refine j_dup dX8_hearTable_17 rfl ?_
      refine j_aload_n dX8_hearTable_18 rfl rfl ?_
      refine j_callI dX8_hearTable_19 kX5_init rfl lX8_162 inX5_init rfl (z_frame [51, 10, 11, 12, 13, 14] rfl (by decide) (Nat.le_of_ble_eq_true rfl) (c_X5_init_e hl false _ _ _ _)) (Nat.le_of_ble_eq_true rfl) ⟨(Nat.le_of_ble_eq_true rfl), (Nat.le_of_ble_eq_true rfl)⟩ rfl (Nat.le_of_ble_eq_true rfl) rfl rfl (fun _ _ h => h.elim) ?_
      rintro _ _ ⟨_, _, ⟨rfl, rfl⟩, rfl, rfl⟩
      refine j_ws (L' := z_cw _ _ _ _ _ _ _ _ _ _ _ _ _ _ _ _ _ _ _ _ _ _ _ _ _ _ _ _ _ _ _ _ _ _ _ _ _ _ _ _ _ _ _ _ _ _ _ _ _ _ _ _ _ _ _ _ [.inr (10, [_, _, _, _, _])]) (by decide) rfl rfl ?_
      refine j_aload dX8_hearTable_22 rfl rfl ?_
      refine j_callS dX8_hearTable_24 kX8_hearOut lX8_96 stX8_hearOut (z_frame [51, 10, 11, 12, 13, 14, 29, 30] rfl (by decide) (Nat.le_of_ble_eq_true rfl) (c_X8_hearOut_X5_c hl (z_bp (sp_C S 2) 0) _ _ false _ _ _ _ (sp_T S 0) (sp_E S 1) _ ht0 rfl he1)) (Nat.le_of_ble_eq_true rfl) ⟨(Nat.le_of_ble_eq_true rfl), (Nat.le_of_ble_eq_true rfl)⟩ rfl (Nat.le_of_ble_eq_true rfl) rfl rfl (fun _ _ h => h.elim) ?_
      rintro _ _ ⟨_, _, ⟨rfl, _, _, _, ef9, he9, rfl⟩, rfl, rfl⟩
      refine j_ws (L' := z_cw _ _ _ _ _ _ _ _ _ _ _ _ _ _ _ _ _ _ _ _ _ _ _ _ _ _ _ _ _ _ _ _ _ _ _ _ _ _ _ _ _ _ _ _ _ _ _ _ _ _ _ _ _ _ _ _ [.inr (10, [_, _, _, _, _])]) (by decide) rfl rfl ?_
      refine j_lo (lo' := []) z_q0 ?_
      refine j_dropL (n := 51) rfl (Nat.le_of_ble_eq_true rfl) (Nat.le_of_ble_eq_true rfl) (Nat.le_of_ble_eq_true rfl) z_cwc rfl rfl ?_
      refine j_w (z_cw _ _ _ _ _ _ _ _ _ _ _ _ _ _ _ _ _ _ _ _ _ _ _ _ _ _ _ _ _ _ _ _ _ _ _ _ _ _ _ _ _ _ _ _ _ _ _ _ _ _ _ _ _ _ _ _ [], z_no) rfl ?_
      refine j_callV (q := (RX8, TX8, 9)) dX8_hearTable_27 kX8_answer lX8_100 inX8_answer seX8_answer rfl rfl (z_dirF (c_X8_answer_f_e hl _ _ _ _ _ _ _ _ _ _ _ _ _ _ _ _ _ _ _ _ _ _ _ _ _ _ _ _ _ _ _ _ _ _ _ _ _ _ _ _ _ _ _ _ _ _ _ _ _ _ _ _ _ _ _ _ (sp_htb S 0 1).1 nI (fun y hy z => absurd (nI_pos' (n := y) (by have h8 := sp_ho_n _ _ _ _ hy; rw [sp_prl] at h8; have := ht0.len; omega)) (by rw [z]; decide)))) (Nat.le_of_ble_eq_true rfl) ⟨(Nat.le_of_ble_eq_true rfl), (Nat.le_of_ble_eq_true rfl)⟩ rfl (Nat.le_of_ble_eq_true rfl) rfl rfl (fun _ _ h => h.elim) ?_
      rintro _ _ ⟨_, ⟨rfl, rfl⟩, rfl⟩
      refine j_iret dX8_hearTable_30 rfl rfl ?_ (Nat.le_of_ble_eq_true rfl) (Nat.le_of_ble_eq_true rfl)
      refine ⟨rfl, (by first | exact z_cwl | rfl), ?_⟩
      try rw [sp_i0]
      try rw [sp_i1]
      exact ⟨sp_k3b_0 (Or.inl rfl) (Or.inr rfl), rfl, (sp_CWe hra hrb ht0 ht1 ht2 he0 he9 hzm3 hzm4 hzm5 rfl)⟩
  · subst e_2
    refine j_astore_n (lo' := [(3, _), (0, _), (1, _), (2, _)]) dX8_hearTable_5 rfl (by decide) rfl ?_
    refine j_aload_n dX8_hearTable_6 rfl rfl ?_
    refine j_iload_n dX8_hearTable_7 rfl ?_
    refine j_callV (q := (RX8, TX8, 9)) dX8_hearTable_8 kX8_hearerFor lX8_87 inX8_hearerFor seX8_hearerFor rfl rfl (z_dirX (c_X8_hearerFor_e hl _ _ _ _ _ _ _ _ _ _ _ _ _ _ _ _ _ _ _ _ _ _ _ _ _ _ _ _ _ _ _ _ _ _ _ _ _ _ _ _ _ _ _ _ _ _ _ _ _ _ _ _ _ _ _ _ _)) (Nat.le_of_ble_eq_true rfl) ⟨(Nat.le_of_ble_eq_true rfl), (Nat.le_of_ble_eq_true rfl)⟩ rfl (Nat.le_of_ble_eq_true rfl) rfl rfl (fun _ _ h => by obtain ⟨_, ⟨h1, rfl⟩, rfl⟩ := h; exact ⟨rfl, rfl, ⟨h1.1, sp_k3b_1' h1.2⟩, rfl⟩) ?_
    rintro _ _ ⟨_, ⟨_, rfl, hr, rfl⟩, rfl⟩
    rcases hr with ⟨e_8, rfl⟩ | ⟨e_8, rfl⟩
    · subst e_8
      refine j_astore (lo' := [(4, _), (3, _), (0, _), (1, _), (2, _)]) dX8_hearTable_11 rfl (by decide) rfl ?_
      refine j_aload_n dX8_hearTable_13 rfl rfl ?_
      refine j_new (w' := (z_cw _ _ _ _ _ _ _ _ _ _ _ _ _ _ _ _ _ _ _ _ _ _ _ _ _ _ _ _ _ _ _ _ _ _ _ _ _ _ _ _ _ _ _ _ _ _ _ _ _ _ _ _ _ _ _ _ [.inr (10, [_, _, _, _, _])], z_no)) (n := 51) dX8_hearTable_14 nX8_160 rfl (z_al_l rfl rfl) (Nat.le_of_ble_eq_true rfl) (Nat.le_of_ble_eq_true rfl) ?_
      refine j_dup dX8_hearTable_17 rfl ?_
      refine j_aload_n dX8_hearTable_18 rfl rfl ?_
      refine j_callI dX8_hearTable_19 kX5_init rfl lX8_162 inX5_init rfl (z_frame [51, 16, 17, 18, 19, 20] rfl (by decide) (Nat.le_of_ble_eq_true rfl) (c_X5_init_e hl false _ _ _ _)) (Nat.le_of_ble_eq_true rfl) ⟨(Nat.le_of_ble_eq_true rfl), (Nat.le_of_ble_eq_true rfl)⟩ rfl (Nat.le_of_ble_eq_true rfl) rfl rfl (fun _ _ h => h.elim) ?_
      rintro _ _ ⟨_, _, ⟨rfl, rfl⟩, rfl, rfl⟩
      refine j_ws (L' := z_cw _ _ _ _ _ _ _ _ _ _ _ _ _ _ _ _ _ _ _ _ _ _ _ _ _ _ _ _ _ _ _ _ _ _ _ _ _ _ _ _ _ _ _ _ _ _ _ _ _ _ _ _ _ _ _ _ [.inr (10, [_, _, _, _, _])]) (by decide) rfl rfl ?_
      refine j_aload dX8_hearTable_22 rfl rfl ?_
      refine j_callS dX8_hearTable_24 kX8_hearOut lX8_96 stX8_hearOut (z_frame [51, 16, 17, 18, 19, 20, 27, 28] rfl (by decide) (Nat.le_of_ble_eq_true rfl) (c_X8_hearOut_X5_c hl (z_bp (sp_C S 2) 0) _ _ false _ _ _ _ (sp_T S 1) (sp_E S 0) _ ht1 rfl he0)) (Nat.le_of_ble_eq_true rfl) ⟨(Nat.le_of_ble_eq_true rfl), (Nat.le_of_ble_eq_true rfl)⟩ rfl (Nat.le_of_ble_eq_true rfl) rfl rfl (fun _ _ h => h.elim) ?_
      rintro _ _ ⟨_, _, ⟨rfl, _, _, _, ef9, he9, rfl⟩, rfl, rfl⟩
      refine j_ws (L' := z_cw _ _ _ _ _ _ _ _ _ _ _ _ _ _ _ _ _ _ _ _ _ _ _ _ _ _ _ _ _ _ _ _ _ _ _ _ _ _ _ _ _ _ _ _ _ _ _ _ _ _ _ _ _ _ _ _ [.inr (10, [_, _, _, _, _])]) (by decide) rfl rfl ?_
      refine j_lo (lo' := []) z_q0 ?_
      refine j_dropL (n := 51) rfl (Nat.le_of_ble_eq_true rfl) (Nat.le_of_ble_eq_true rfl) (Nat.le_of_ble_eq_true rfl) z_cwc rfl rfl ?_
      refine j_w (z_cw _ _ _ _ _ _ _ _ _ _ _ _ _ _ _ _ _ _ _ _ _ _ _ _ _ _ _ _ _ _ _ _ _ _ _ _ _ _ _ _ _ _ _ _ _ _ _ _ _ _ _ _ _ _ _ _ [], z_no) rfl ?_
      refine j_callV (q := (RX8, TX8, 9)) dX8_hearTable_27 kX8_answer lX8_100 inX8_answer seX8_answer rfl rfl (z_dirF (c_X8_answer_f_e hl _ _ _ _ _ _ _ _ _ _ _ _ _ _ _ _ _ _ _ _ _ _ _ _ _ _ _ _ _ _ _ _ _ _ _ _ _ _ _ _ _ _ _ _ _ _ _ _ _ _ _ _ _ _ _ _ (sp_htb S 1 0).1 nI (fun y hy z => absurd (nI_pos' (n := y) (by have h8 := sp_ho_n _ _ _ _ hy; rw [sp_prl] at h8; have := ht1.len; omega)) (by rw [z]; decide)))) (Nat.le_of_ble_eq_true rfl) ⟨(Nat.le_of_ble_eq_true rfl), (Nat.le_of_ble_eq_true rfl)⟩ rfl (Nat.le_of_ble_eq_true rfl) rfl rfl (fun _ _ h => h.elim) ?_
      rintro _ _ ⟨_, ⟨rfl, rfl⟩, rfl⟩
      refine j_iret dX8_hearTable_30 rfl rfl ?_ (Nat.le_of_ble_eq_true rfl) (Nat.le_of_ble_eq_true rfl)
      refine ⟨rfl, (by first | exact z_cwl | rfl), ?_⟩
      try rw [sp_i0]
      try rw [sp_i1]
      exact ⟨sp_k3b_0 (Or.inr (Or.inl rfl)) (Or.inl rfl), rfl, (sp_CWe hra hrb ht0 ht1 ht2 he9 he1 hzm3 hzm4 hzm5 rfl)⟩
    · subst e_8
      refine j_astore (lo' := [(4, _), (3, _), (0, _), (1, _), (2, _)]) dX8_hearTable_11 rfl (by decide) rfl ?_
      refine j_aload_n dX8_hearTable_13 rfl rfl ?_
      refine j_new (w' := (z_cw _ _ _ _ _ _ _ _ _ _ _ _ _ _ _ _ _ _ _ _ _ _ _ _ _ _ _ _ _ _ _ _ _ _ _ _ _ _ _ _ _ _ _ _ _ _ _ _ _ _ _ _ _ _ _ _ [.inr (10, [_, _, _, _, _])], z_no)) (n := 51) dX8_hearTable_14 nX8_160 rfl (z_al_l rfl rfl) (Nat.le_of_ble_eq_true rfl) (Nat.le_of_ble_eq_true rfl) ?_
      refine j_dup dX8_hearTable_17 rfl ?_
      refine j_aload_n dX8_hearTable_18 rfl rfl ?_
      refine j_callI dX8_hearTable_19 kX5_init rfl lX8_162 inX5_init rfl (z_frame [51, 16, 17, 18, 19, 20] rfl (by decide) (Nat.le_of_ble_eq_true rfl) (c_X5_init_e hl false _ _ _ _)) (Nat.le_of_ble_eq_true rfl) ⟨(Nat.le_of_ble_eq_true rfl), (Nat.le_of_ble_eq_true rfl)⟩ rfl (Nat.le_of_ble_eq_true rfl) rfl rfl (fun _ _ h => h.elim) ?_
      rintro _ _ ⟨_, _, ⟨rfl, rfl⟩, rfl, rfl⟩
      refine j_ws (L' := z_cw _ _ _ _ _ _ _ _ _ _ _ _ _ _ _ _ _ _ _ _ _ _ _ _ _ _ _ _ _ _ _ _ _ _ _ _ _ _ _ _ _ _ _ _ _ _ _ _ _ _ _ _ _ _ _ _ [.inr (10, [_, _, _, _, _])]) (by decide) rfl rfl ?_
      refine j_aload dX8_hearTable_22 rfl rfl ?_
      refine j_callS dX8_hearTable_24 kX8_hearOut lX8_96 stX8_hearOut (z_frame [51, 16, 17, 18, 19, 20, 29, 30] rfl (by decide) (Nat.le_of_ble_eq_true rfl) (c_X8_hearOut_X5_c hl (z_bp (sp_C S 2) 0) _ _ false _ _ _ _ (sp_T S 1) (sp_E S 1) _ ht1 rfl he1)) (Nat.le_of_ble_eq_true rfl) ⟨(Nat.le_of_ble_eq_true rfl), (Nat.le_of_ble_eq_true rfl)⟩ rfl (Nat.le_of_ble_eq_true rfl) rfl rfl (fun _ _ h => h.elim) ?_
      rintro _ _ ⟨_, _, ⟨rfl, _, _, _, ef9, he9, rfl⟩, rfl, rfl⟩
      refine j_ws (L' := z_cw _ _ _ _ _ _ _ _ _ _ _ _ _ _ _ _ _ _ _ _ _ _ _ _ _ _ _ _ _ _ _ _ _ _ _ _ _ _ _ _ _ _ _ _ _ _ _ _ _ _ _ _ _ _ _ _ [.inr (10, [_, _, _, _, _])]) (by decide) rfl rfl ?_
      refine j_lo (lo' := []) z_q0 ?_
      refine j_dropL (n := 51) rfl (Nat.le_of_ble_eq_true rfl) (Nat.le_of_ble_eq_true rfl) (Nat.le_of_ble_eq_true rfl) z_cwc rfl rfl ?_
      refine j_w (z_cw _ _ _ _ _ _ _ _ _ _ _ _ _ _ _ _ _ _ _ _ _ _ _ _ _ _ _ _ _ _ _ _ _ _ _ _ _ _ _ _ _ _ _ _ _ _ _ _ _ _ _ _ _ _ _ _ [], z_no) rfl ?_
      refine j_callV (q := (RX8, TX8, 9)) dX8_hearTable_27 kX8_answer lX8_100 inX8_answer seX8_answer rfl rfl (z_dirF (c_X8_answer_f_e hl _ _ _ _ _ _ _ _ _ _ _ _ _ _ _ _ _ _ _ _ _ _ _ _ _ _ _ _ _ _ _ _ _ _ _ _ _ _ _ _ _ _ _ _ _ _ _ _ _ _ _ _ _ _ _ _ (sp_htb S 1 1).1 nI (fun y hy z => absurd (nI_pos' (n := y) (by have h8 := sp_ho_n _ _ _ _ hy; rw [sp_prl] at h8; have := ht1.len; omega)) (by rw [z]; decide)))) (Nat.le_of_ble_eq_true rfl) ⟨(Nat.le_of_ble_eq_true rfl), (Nat.le_of_ble_eq_true rfl)⟩ rfl (Nat.le_of_ble_eq_true rfl) rfl rfl (fun _ _ h => h.elim) ?_
      rintro _ _ ⟨_, ⟨rfl, rfl⟩, rfl⟩
      refine j_iret dX8_hearTable_30 rfl rfl ?_ (Nat.le_of_ble_eq_true rfl) (Nat.le_of_ble_eq_true rfl)
      refine ⟨rfl, (by first | exact z_cwl | rfl), ?_⟩
      try rw [sp_i1]
      exact ⟨sp_k3b_0 (Or.inr (Or.inl rfl)) (Or.inr rfl), rfl, (sp_CWe hra hrb ht0 ht1 ht2 he0 he9 hzm3 hzm4 hzm5 rfl)⟩
  · subst e_2
    refine j_astore_n (lo' := [(3, _), (0, _), (1, _), (2, _)]) dX8_hearTable_5 rfl (by decide) rfl ?_
    refine j_aload_n dX8_hearTable_6 rfl rfl ?_
    refine j_iload_n dX8_hearTable_7 rfl ?_
    refine j_callV (q := (RX8, TX8, 9)) dX8_hearTable_8 kX8_hearerFor lX8_87 inX8_hearerFor seX8_hearerFor rfl rfl (z_dirX (c_X8_hearerFor_e hl _ _ _ _ _ _ _ _ _ _ _ _ _ _ _ _ _ _ _ _ _ _ _ _ _ _ _ _ _ _ _ _ _ _ _ _ _ _ _ _ _ _ _ _ _ _ _ _ _ _ _ _ _ _ _ _ _)) (Nat.le_of_ble_eq_true rfl) ⟨(Nat.le_of_ble_eq_true rfl), (Nat.le_of_ble_eq_true rfl)⟩ rfl (Nat.le_of_ble_eq_true rfl) rfl rfl (fun _ _ h => by obtain ⟨_, ⟨h1, rfl⟩, rfl⟩ := h; exact ⟨rfl, rfl, ⟨h1.1, sp_k3b_1' h1.2⟩, rfl⟩) ?_
    rintro _ _ ⟨_, ⟨_, rfl, hr, rfl⟩, rfl⟩
    rcases hr with ⟨e_8, rfl⟩ | ⟨e_8, rfl⟩
    · subst e_8
      refine j_astore (lo' := [(4, _), (3, _), (0, _), (1, _), (2, _)]) dX8_hearTable_11 rfl (by decide) rfl ?_
      refine j_aload_n dX8_hearTable_13 rfl rfl ?_
      refine j_new (w' := (z_cw _ _ _ _ _ _ _ _ _ _ _ _ _ _ _ _ _ _ _ _ _ _ _ _ _ _ _ _ _ _ _ _ _ _ _ _ _ _ _ _ _ _ _ _ _ _ _ _ _ _ _ _ _ _ _ _ [.inr (10, [_, _, _, _, _])], z_no)) (n := 51) dX8_hearTable_14 nX8_160 rfl (z_al_l rfl rfl) (Nat.le_of_ble_eq_true rfl) (Nat.le_of_ble_eq_true rfl) ?_
      refine j_dup dX8_hearTable_17 rfl ?_
      refine j_aload_n dX8_hearTable_18 rfl rfl ?_
      refine j_callI dX8_hearTable_19 kX5_init rfl lX8_162 inX5_init rfl (z_frame [51, 21, 22, 23, 24, 25] rfl (by decide) (Nat.le_of_ble_eq_true rfl) (c_X5_init_e hl true _ _ _ _)) (Nat.le_of_ble_eq_true rfl) ⟨(Nat.le_of_ble_eq_true rfl), (Nat.le_of_ble_eq_true rfl)⟩ rfl (Nat.le_of_ble_eq_true rfl) rfl rfl (fun _ _ h => h.elim) ?_
      rintro _ _ ⟨_, _, ⟨rfl, rfl⟩, rfl, rfl⟩
      refine j_ws (L' := z_cw _ _ _ _ _ _ _ _ _ _ _ _ _ _ _ _ _ _ _ _ _ _ _ _ _ _ _ _ _ _ _ _ _ _ _ _ _ _ _ _ _ _ _ _ _ _ _ _ _ _ _ _ _ _ _ _ [.inr (10, [_, _, _, _, _])]) (by decide) rfl rfl ?_
      refine j_aload dX8_hearTable_22 rfl rfl ?_
      refine j_callS dX8_hearTable_24 kX8_hearOut lX8_96 stX8_hearOut (z_frame [51, 21, 22, 23, 24, 25, 27, 28] rfl (by decide) (Nat.le_of_ble_eq_true rfl) (c_X8_hearOut_X5_c hl (z_bp (sp_C S 2) 0) _ _ true _ _ _ _ (sp_T S 2) (sp_E S 0) _ ht2 rfl he0)) (Nat.le_of_ble_eq_true rfl) ⟨(Nat.le_of_ble_eq_true rfl), (Nat.le_of_ble_eq_true rfl)⟩ rfl (Nat.le_of_ble_eq_true rfl) rfl rfl (fun _ _ h => h.elim) ?_
      rintro _ _ ⟨_, _, ⟨rfl, _, _, _, ef9, he9, rfl⟩, rfl, rfl⟩
      refine j_ws (L' := z_cw _ _ _ _ _ _ _ _ _ _ _ _ _ _ _ _ _ _ _ _ _ _ _ _ _ _ _ _ _ _ _ _ _ _ _ _ _ _ _ _ _ _ _ _ _ _ _ _ _ _ _ _ _ _ _ _ [.inr (10, [_, _, _, _, _])]) (by decide) rfl rfl ?_
      refine j_lo (lo' := []) z_q0 ?_
      refine j_dropL (n := 51) rfl (Nat.le_of_ble_eq_true rfl) (Nat.le_of_ble_eq_true rfl) (Nat.le_of_ble_eq_true rfl) z_cwc rfl rfl ?_
      refine j_w (z_cw _ _ _ _ _ _ _ _ _ _ _ _ _ _ _ _ _ _ _ _ _ _ _ _ _ _ _ _ _ _ _ _ _ _ _ _ _ _ _ _ _ _ _ _ _ _ _ _ _ _ _ _ _ _ _ _ [], z_no) rfl ?_
      refine j_callV (q := (RX8, TX8, 9)) dX8_hearTable_27 kX8_answer lX8_100 inX8_answer seX8_answer rfl rfl (z_dirF (c_X8_answer_f_e hl _ _ _ _ _ _ _ _ _ _ _ _ _ _ _ _ _ _ _ _ _ _ _ _ _ _ _ _ _ _ _ _ _ _ _ _ _ _ _ _ _ _ _ _ _ _ _ _ _ _ _ _ _ _ _ _ (sp_htb S 2 0).1 nI (fun y hy z => absurd (nI_pos' (n := y) (by have h8 := sp_ho_n _ _ _ _ hy; rw [sp_prl] at h8; have := ht2.len; omega)) (by rw [z]; decide)))) (Nat.le_of_ble_eq_true rfl) ⟨(Nat.le_of_ble_eq_true rfl), (Nat.le_of_ble_eq_true rfl)⟩ rfl (Nat.le_of_ble_eq_true rfl) rfl rfl (fun _ _ h => h.elim) ?_
      rintro _ _ ⟨_, ⟨rfl, rfl⟩, rfl⟩
      refine j_iret dX8_hearTable_30 rfl rfl ?_ (Nat.le_of_ble_eq_true rfl) (Nat.le_of_ble_eq_true rfl)
      refine ⟨rfl, (by first | exact z_cwl | rfl), ?_⟩
      try rw [sp_i0]
      try rw [sp_i2]
      exact ⟨sp_k3b_0 (Or.inr (Or.inr rfl)) (Or.inl rfl), rfl, (sp_CWe hra hrb ht0 ht1 ht2 he9 he1 hzm3 hzm4 hzm5 rfl)⟩
    · subst e_8
      refine j_astore (lo' := [(4, _), (3, _), (0, _), (1, _), (2, _)]) dX8_hearTable_11 rfl (by decide) rfl ?_
      refine j_aload_n dX8_hearTable_13 rfl rfl ?_
      refine j_new (w' := (z_cw _ _ _ _ _ _ _ _ _ _ _ _ _ _ _ _ _ _ _ _ _ _ _ _ _ _ _ _ _ _ _ _ _ _ _ _ _ _ _ _ _ _ _ _ _ _ _ _ _ _ _ _ _ _ _ _ [.inr (10, [_, _, _, _, _])], z_no)) (n := 51) dX8_hearTable_14 nX8_160 rfl (z_al_l rfl rfl) (Nat.le_of_ble_eq_true rfl) (Nat.le_of_ble_eq_true rfl) ?_
      refine j_dup dX8_hearTable_17 rfl ?_
      refine j_aload_n dX8_hearTable_18 rfl rfl ?_
      refine j_callI dX8_hearTable_19 kX5_init rfl lX8_162 inX5_init rfl (z_frame [51, 21, 22, 23, 24, 25] rfl (by decide) (Nat.le_of_ble_eq_true rfl) (c_X5_init_e hl true _ _ _ _)) (Nat.le_of_ble_eq_true rfl) ⟨(Nat.le_of_ble_eq_true rfl), (Nat.le_of_ble_eq_true rfl)⟩ rfl (Nat.le_of_ble_eq_true rfl) rfl rfl (fun _ _ h => h.elim) ?_
      rintro _ _ ⟨_, _, ⟨rfl, rfl⟩, rfl, rfl⟩
      refine j_ws (L' := z_cw _ _ _ _ _ _ _ _ _ _ _ _ _ _ _ _ _ _ _ _ _ _ _ _ _ _ _ _ _ _ _ _ _ _ _ _ _ _ _ _ _ _ _ _ _ _ _ _ _ _ _ _ _ _ _ _ [.inr (10, [_, _, _, _, _])]) (by decide) rfl rfl ?_
      refine j_aload dX8_hearTable_22 rfl rfl ?_
      refine j_callS dX8_hearTable_24 kX8_hearOut lX8_96 stX8_hearOut (z_frame [51, 21, 22, 23, 24, 25, 29, 30] rfl (by decide) (Nat.le_of_ble_eq_true rfl) (c_X8_hearOut_X5_c hl (z_bp (sp_C S 2) 0) _ _ true _ _ _ _ (sp_T S 2) (sp_E S 1) _ ht2 rfl he1)) (Nat.le_of_ble_eq_true rfl) ⟨(Nat.le_of_ble_eq_true rfl), (Nat.le_of_ble_eq_true rfl)⟩ rfl (Nat.le_of_ble_eq_true rfl) rfl rfl (fun _ _ h => h.elim) ?_
      rintro _ _ ⟨_, _, ⟨rfl, _, _, _, ef9, he9, rfl⟩, rfl, rfl⟩
      refine j_ws (L' := z_cw _ _ _ _ _ _ _ _ _ _ _ _ _ _ _ _ _ _ _ _ _ _ _ _ _ _ _ _ _ _ _ _ _ _ _ _ _ _ _ _ _ _ _ _ _ _ _ _ _ _ _ _ _ _ _ _ [.inr (10, [_, _, _, _, _])]) (by decide) rfl rfl ?_
      refine j_lo (lo' := []) z_q0 ?_
      refine j_dropL (n := 51) rfl (Nat.le_of_ble_eq_true rfl) (Nat.le_of_ble_eq_true rfl) (Nat.le_of_ble_eq_true rfl) z_cwc rfl rfl ?_
      refine j_w (z_cw _ _ _ _ _ _ _ _ _ _ _ _ _ _ _ _ _ _ _ _ _ _ _ _ _ _ _ _ _ _ _ _ _ _ _ _ _ _ _ _ _ _ _ _ _ _ _ _ _ _ _ _ _ _ _ _ [], z_no) rfl ?_
      refine j_callV (q := (RX8, TX8, 9)) dX8_hearTable_27 kX8_answer lX8_100 inX8_answer seX8_answer rfl rfl (z_dirF (c_X8_answer_f_e hl _ _ _ _ _ _ _ _ _ _ _ _ _ _ _ _ _ _ _ _ _ _ _ _ _ _ _ _ _ _ _ _ _ _ _ _ _ _ _ _ _ _ _ _ _ _ _ _ _ _ _ _ _ _ _ _ (sp_htb S 2 1).1 nI (fun y hy z => absurd (nI_pos' (n := y) (by have h8 := sp_ho_n _ _ _ _ hy; rw [sp_prl] at h8; have := ht2.len; omega)) (by rw [z]; decide)))) (Nat.le_of_ble_eq_true rfl) ⟨(Nat.le_of_ble_eq_true rfl), (Nat.le_of_ble_eq_true rfl)⟩ rfl (Nat.le_of_ble_eq_true rfl) rfl rfl (fun _ _ h => h.elim) ?_
      rintro _ _ ⟨_, ⟨rfl, rfl⟩, rfl⟩
      refine j_iret dX8_hearTable_30 rfl rfl ?_ (Nat.le_of_ble_eq_true rfl) (Nat.le_of_ble_eq_true rfl)
      refine ⟨rfl, (by first | exact z_cwl | rfl), ?_⟩
      try rw [sp_i1]
      try rw [sp_i2]
      exact ⟨sp_k3b_0 (Or.inr (Or.inr rfl)) (Or.inr rfl), rfl, (sp_CWe hra hrb ht0 ht1 ht2 he0 he9 hzm3 hzm4 hzm5 rfl)⟩
set_option maxRecDepth 100000 in
set_option maxHeartbeats 8000000 in
theorem c_X8_replaceTable_p (hl : l.stackTraces = false) (S : sp_S) (fa : Nat → Int32) (fb : Nat → Int32) (mt : Int32) (ft : Nat → Int32) (ct : Nat → Int32) (f0 : Nat → Int32) (g0 : Nat → Int32) (f1 : Nat → Int32) (g1 : Nat → Int32) (c1 : Nat → Int32) (f2 : Nat → Int32) (g2 : Nat → Int32) (c2 : Nat → Int32) (f3 : Nat → Int32) (g3 : Nat → Int32) (c3 : Nat → Int32) (m3 : Int32) (f4 : Nat → Int32) (g4 : Nat → Int32) (c4 : Nat → Int32) (m4 : Int32) (f5 : Nat → Int32) (g5 : Nat → Int32) (c5 : Nat → Int32) (m5 : Int32) (ef0 : Nat → Int32) (ef1 : Nat → Int32) (t : Int32) (r : Int32) (n : Int32) (ok : sp_ok S) (hra : z_row 12 (nI (sp_R S 0).length) fa (sp_R S 0)) (hrb : z_row 12 (nI (sp_R S 1).length) fb (sp_R S 1)) (ht0 : z_tba f0 g0 (sp_T S 0)) (ht1 : z_tba f1 g1 (sp_T S 1)) (ht2 : z_tba f2 g2 (sp_T S 2)) (he0 : z_row 10 (nI (sp_E S 0).2.length) ef0 (sp_E S 0).2) (he1 : z_row 10 (nI (sp_E S 1).2.length) ef1 (sp_E S 1).2) (hzm3 : z_m20 m3) (hzm4 : z_m20 m4) (hzm5 : z_m20 m5) : z_CX G l mX8_replaceTable 20 14 120 (z_cw S.1.1 S.1.2 (nI (sp_R S 0).length) (sp_F S 0) fa (sp_C S 0) (nI (sp_R S 1).length) (sp_F S 1) fb (sp_C S 1) mt false ft ct f0 g0 (sp_C S 2) (nI (sp_T S 0).length) 0 f1 g1 c1 (nI (sp_T S 1).length) 0 f2 g2 c2 (nI (sp_T S 2).length) 1 f3 g3 c3 m3 0 f4 g4 c4 m4 0 f5 g5 c5 m5 1 (nI (sp_E S 0).2.length) (sp_E S 0).1.2.1 (sp_E S 0).1.2.2.1 (sp_E S 0).1.2.2.2 (sp_E S 0).1.1 ef0 (nI (sp_E S 1).2.length) (sp_E S 1).1.2.1 (sp_E S 1).1.2.2.1 (sp_E S 1).1.2.2.2 (sp_E S 1).1.1 ef1 []) [.ref 0, .int t, .int r, .int n] (fun v L => sp_k32 t (¬ (r = 0 ∨ r = 1 ∨ r = 4 ∨ r = 5) ∨ sp_bv n) = 0 ∧ v = some (.int (cond (sp_ctb S (sp_i t) r n).1 (nI (sp_ctb S (sp_i t) r n).2.2.length) (-9))) ∧ sp_CW (sp_ctbS S (sp_i t) r n) L) (fun E L => ((z_xI E ∧ sp_k32 t (¬ (r = 0 ∨ r = 1 ∨ r = 4 ∨ r = 5) ∨ sp_bv n) = 1) ∨ (z_xA E ∧ sp_k32 t (¬ (r = 0 ∨ r = 1 ∨ r = 4 ∨ r = 5) ∨ sp_bv n) = 2)) ∧ L = (z_cw S.1.1 S.1.2 (nI (sp_R S 0).length) (sp_F S 0) fa (sp_C S 0) (nI (sp_R S 1).length) (sp_F S 1) fb (sp_C S 1) mt false ft ct f0 g0 (sp_C S 2) (nI (sp_T S 0).length) 0 f1 g1 c1 (nI (sp_T S 1).length) 0 f2 g2 c2 (nI (sp_T S 2).length) 1 f3 g3 c3 m3 0 f4 g4 c4 m4 0 f5 g5 c5 m5 1 (nI (sp_E S 0).2.length) (sp_E S 0).1.2.1 (sp_E S 0).1.2.2.1 (sp_E S 0).1.2.2.2 (sp_E S 0).1.1 ef0 (nI (sp_E S 1).2.length) (sp_E S 1).1.2.1 (sp_E S 1).1.2.2.1 (sp_E S 1).1.2.2.2 (sp_E S 1).1.1 ef1 [])) := by
  refine z_body hl (by decide) rfl (Nat.le_of_ble_eq_true rfl) ?_
  show z_J G l mX8_replaceTable (z_SX 20 14 120 (z_cw S.1.1 S.1.2 (nI (sp_R S 0).length) (sp_F S 0) fa (sp_C S 0) (nI (sp_R S 1).length) (sp_F S 1) fb (sp_C S 1) mt false ft ct f0 g0 (sp_C S 2) (nI (sp_T S 0).length) 0 f1 g1 c1 (nI (sp_T S 1).length) 0 f2 g2 c2 (nI (sp_T S 2).length) 1 f3 g3 c3 m3 0 f4 g4 c4 m4 0 f5 g5 c5 m5 1 (nI (sp_E S 0).2.length) (sp_E S 0).1.2.1 (sp_E S 0).1.2.2.1 (sp_E S 0).1.2.2.2 (sp_E S 0).1.1 ef0 (nI (sp_E S 1).2.length) (sp_E S 1).1.2.1 (sp_E S 1).1.2.2.1 (sp_E S 1).1.2.2.2 (sp_E S 1).1.1 ef1 []) (fun v L => sp_k32 t (¬ (r = 0 ∨ r = 1 ∨ r = 4 ∨ r = 5) ∨ sp_bv n) = 0 ∧ v = some (.int (cond (sp_ctb S (sp_i t) r n).1 (nI (sp_ctb S (sp_i t) r n).2.2.length) (-9))) ∧ sp_CW (sp_ctbS S (sp_i t) r n) L) (fun E L => ((z_xI E ∧ sp_k32 t (¬ (r = 0 ∨ r = 1 ∨ r = 4 ∨ r = 5) ∨ sp_bv n) = 1) ∨ (z_xA E ∧ sp_k32 t (¬ (r = 0 ∨ r = 1 ∨ r = 4 ∨ r = 5) ∨ sp_bv n) = 2)) ∧ L = (z_cw S.1.1 S.1.2 (nI (sp_R S 0).length) (sp_F S 0) fa (sp_C S 0) (nI (sp_R S 1).length) (sp_F S 1) fb (sp_C S 1) mt false ft ct f0 g0 (sp_C S 2) (nI (sp_T S 0).length) 0 f1 g1 c1 (nI (sp_T S 1).length) 0 f2 g2 c2 (nI (sp_T S 2).length) 1 f3 g3 c3 m3 0 f4 g4 c4 m4 0 f5 g5 c5 m5 1 (nI (sp_E S 0).2.length) (sp_E S 0).1.2.1 (sp_E S 0).1.2.2.1 (sp_E S 0).1.2.2.2 (sp_E S 0).1.1 ef0 (nI (sp_E S 1).2.length) (sp_E S 1).1.2.1 (sp_E S 1).1.2.2.1 (sp_E S 1).1.2.2.2 (sp_E S 1).1.1 ef1 []))) 0 [(0, _), (1, _), (2, _), (3, _)] [] _ 0 0
  refine j_aload_n dX8_replaceTable_0 rfl rfl ?_
  refine j_iload_n dX8_replaceTable_1 rfl ?_
  refine j_callV (q := (RX8, TX8, 9)) dX8_replaceTable_2 kX8_tableFor lX8_157 inX8_tableFor seX8_tableFor rfl rfl (z_dirX (c_X8_tableFor_e hl _ _ _ _ _ _ _ _ _ _ _ _ _ _ _ _ _ _ _ _ _ _ _ _ _ _ _ _ _ _ _ _ _ _ _ _ _ _ _ _ _ _ _ _ _ _ _ _ _ _ _ _ _ _ _ _ _)) (Nat.le_of_ble_eq_true rfl) ⟨(Nat.le_of_ble_eq_true rfl), (Nat.le_of_ble_eq_true rfl)⟩ rfl (Nat.le_of_ble_eq_true rfl) rfl rfl (fun _ _ h => by obtain ⟨_, ⟨h1, rfl⟩, rfl⟩ := h; exact ⟨rfl, rfl, Or.inl ⟨h1.1, sp_k32_1 h1.2⟩, rfl⟩) ?_
  rintro _ _ ⟨_, ⟨_, rfl, hr, rfl⟩, rfl⟩
  rcases hr with ⟨e_2, rfl⟩ | ⟨e_2, rfl⟩ | ⟨e_2, rfl⟩
  · subst e_2
    refine j_astore (lo' := [(4, _), (0, _), (1, _), (2, _), (3, _)]) dX8_replaceTable_5 rfl (by decide) rfl ?_
    refine j_iload_n dX8_replaceTable_7 rfl ?_
    refine j_if_eq (tgt := 26) dX8_replaceTable_8 (by decide) (fun c_8 => ?_) (fun c_8 => ?_)
    · have hu : r = 0 ∨ r = 1 ∨ r = 4 ∨ r = 5 := Or.inl c_8
      refine j_iconst (v := 1) dX8_replaceTable_26 (by decide) ?_
      refine j_goto (tgt := 31) dX8_replaceTable_27 (by decide) ?_
      refine j_callS dX8_replaceTable_31 kX8_checkRule lX8_112 stX8_checkRule (c_X8_checkRule_e hl _ _) (Nat.le_of_ble_eq_true rfl) ⟨(Nat.le_of_ble_eq_true rfl), (Nat.le_of_ble_eq_true rfl)⟩ rfl (Nat.le_of_ble_eq_true rfl) rfl rfl (fun _ _ h => by obtain ⟨h1, rfl⟩ := h; exact ⟨rfl, rfl, absurd h1.2 (by decide), rfl⟩) ?_
      rintro _ _ ⟨⟨rfl, hcr⟩, rfl⟩
      have hu2 : ¬ r = 2 := by rintro rfl; exact absurd hu (by decide)
      have hu3 : ¬ r = 3 := by rintro rfl; exact absurd hu (by decide)
      refine j_iload_n dX8_replaceTable_34 rfl ?_
      refine j_callS dX8_replaceTable_35 kX8_checkValue lX8_50 stX8_checkValue (c_X8_checkValue_e hl _ _) (Nat.le_of_ble_eq_true rfl) ⟨(Nat.le_of_ble_eq_true rfl), (Nat.le_of_ble_eq_true rfl)⟩ rfl (Nat.le_of_ble_eq_true rfl) rfl rfl (fun _ _ h => by obtain ⟨h1, rfl⟩ := h; exact ⟨rfl, rfl, Or.inr ⟨h1.1, sp_k32_2 (Or.inl rfl) (Or.inr h1.2)⟩, rfl⟩) ?_
      rintro _ _ ⟨⟨rfl, hc35⟩, rfl⟩
      refine j_new (w' := (z_cw _ _ _ _ _ _ _ _ _ _ _ _ _ _ _ _ _ _ _ _ _ _ _ _ _ _ _ _ _ _ _ _ _ _ _ _ _ _ _ _ _ _ _ _ _ _ _ _ _ _ _ _ _ _ _ _ [.inr (10, [_, _, _, _, _])], z_no)) (n := 51) dX8_replaceTable_38 nX8_160 rfl (z_al_l rfl rfl) (Nat.le_of_ble_eq_true rfl) (Nat.le_of_ble_eq_true rfl) ?_
      refine j_dup dX8_replaceTable_41 rfl ?_
      refine j_aload dX8_replaceTable_42 rfl rfl ?_
      refine j_callI dX8_replaceTable_44 kX5_init rfl lX8_162 inX5_init rfl (z_frame [51, 10, 11, 12, 13, 14] rfl (by decide) (Nat.le_of_ble_eq_true rfl) (c_X5_init_e hl false _ _ _ _)) (Nat.le_of_ble_eq_true rfl) ⟨(Nat.le_of_ble_eq_true rfl), (Nat.le_of_ble_eq_true rfl)⟩ rfl (Nat.le_of_ble_eq_true rfl) rfl rfl (fun _ _ h => h.elim) ?_
      rintro _ _ ⟨_, _, ⟨rfl, rfl⟩, rfl, rfl⟩
      refine j_ws (L' := z_cw _ _ _ _ _ _ _ _ _ _ _ _ _ _ _ _ _ _ _ _ _ _ _ _ _ _ _ _ _ _ _ _ _ _ _ _ _ _ _ _ _ _ _ _ _ _ _ _ _ _ _ _ _ _ _ _ [.inr (10, [_, _, _, _, _])]) (by decide) rfl rfl ?_
      refine j_iload_n dX8_replaceTable_47 rfl ?_
      refine j_iload_n dX8_replaceTable_48 rfl ?_
      refine j_callS dX8_replaceTable_49 kX8_changeEach lX8_115 stX8_changeEach (z_frame [51, 10, 11, 12, 13, 14] rfl (by decide) (Nat.le_of_ble_eq_true rfl) (c_X8_changeEach_X5_c hl (z_bp (sp_C S 2) 0) _ _ false _ _ _ _ (sp_T S 0) _ _ ht0 rfl hu2 hu3 (sp_vl hc35))) (Nat.le_of_ble_eq_true rfl) ⟨(Nat.le_of_ble_eq_true rfl), (Nat.le_of_ble_eq_true rfl)⟩ rfl (Nat.le_of_ble_eq_true rfl) rfl rfl (fun _ _ h => h.elim) ?_
      rintro _ _ ⟨_, _, ⟨rfl, _, _, _, f9, ht9, rfl⟩, rfl, rfl⟩
      refine j_ws (L' := z_cw _ _ _ _ _ _ _ _ _ _ _ _ _ _ _ _ _ _ _ _ _ _ _ _ _ _ _ _ _ _ _ _ _ _ _ _ _ _ _ _ _ _ _ _ _ _ _ _ _ _ _ _ _ _ _ _ [.inr (10, [_, _, _, _, _])]) (by decide) rfl rfl ?_
      refine j_istore (lo' := [(5, _), (4, _), (0, _), (1, _), (2, _), (3, _)]) dX8_replaceTable_52 (by decide) rfl ?_
      refine j_dropL (n := 51) rfl (Nat.le_of_ble_eq_true rfl) (Nat.le_of_ble_eq_true rfl) (Nat.le_of_ble_eq_true rfl) z_cwc rfl rfl ?_
      refine j_w (z_cw _ _ _ _ _ _ _ _ _ _ _ _ _ _ _ _ _ _ _ _ _ _ _ _ _ _ _ _ _ _ _ _ _ _ _ _ _ _ _ _ _ _ _ _ _ _ _ _ _ _ _ _ _ _ _ _ [], z_no) rfl ?_
      refine j_iload dX8_replaceTable_54 rfl ?_
      refine j_if_eq (tgt := 67) dX8_replaceTable_56 (by decide) (fun c_56 => ?_) (fun c_56 => ?_)
      · have hb56 := z_bF c_56
        have hbl : (sp_ctb S 0 r n).1 = false := hb56
        refine j_aload_n dX8_replaceTable_67 rfl rfl ?_
        refine j_callV (q := (RX8, TX8, 9)) dX8_replaceTable_68 kX8_refused lX8_119 inX8_refused seX8_refused rfl rfl (z_dirF (c_X8_refused_e hl _ _ _ _ _ _ _ _ _ _ _ _ _ _ _ _ _ _ _ _ _ _ _ _ _ _ _ _ _ _ _ _ _ _ _ _ _ _ _ _ _ _ _ _ _ _ _ _ _ _ _ _ _ _ _ _)) (Nat.le_of_ble_eq_true rfl) ⟨(Nat.le_of_ble_eq_true rfl), (Nat.le_of_ble_eq_true rfl)⟩ rfl (Nat.le_of_ble_eq_true rfl) rfl rfl (fun _ _ h => h.elim) ?_
        rintro _ _ ⟨_, ⟨rfl, rfl⟩, rfl⟩
        refine j_iret dX8_replaceTable_71 rfl rfl ?_ (Nat.le_of_ble_eq_true rfl) (Nat.le_of_ble_eq_true rfl)
        refine ⟨rfl, (by first | exact z_cwl | rfl), ?_⟩
        try rw [sp_i0]
        exact ⟨sp_k32_0 (Or.inl rfl) (fun z => z.elim (fun z => z hu) hc35), (by rw [hbl]; rfl), (sp_CWe hra hrb ht9 ht1 ht2 he0 he1 hzm3 hzm4 hzm5 ((by unfold sp_ctbS; rw [hbl]; rfl)))⟩
      · have hb56 := z_bt c_56
        have hbl : (sp_ctb S 0 r n).1 = true := hb56
        refine j_aload dX8_replaceTable_59 rfl rfl ?_
        refine j_getf dX8_replaceTable_61 fX8_165 rfl rfl ?_
        refine j_goto (tgt := 71) dX8_replaceTable_64 (by decide) ?_
        refine j_iret dX8_replaceTable_71 rfl rfl ?_ (Nat.le_of_ble_eq_true rfl) (Nat.le_of_ble_eq_true rfl)
        refine ⟨rfl, (by first | exact z_cwl | rfl), ?_⟩
        try rw [sp_i0]
        exact ⟨sp_k32_0 (Or.inl rfl) (fun z => z.elim (fun z => z hu) hc35), (by rw [hbl]; rfl), (sp_CWe hra hrb ht9 ht1 ht2 he0 he1 hzm3 hzm4 hzm5 ((by unfold sp_ctbS; rw [hbl]; rfl)))⟩
    · refine j_iload_n dX8_replaceTable_11 rfl ?_
      refine j_iconst (v := 1) dX8_replaceTable_12 (by decide) ?_
      refine j_icmp_eq (tgt := 26) dX8_replaceTable_13 (by decide) (fun c_13 => ?_) (fun c_13 => ?_)
      · have hu : r = 0 ∨ r = 1 ∨ r = 4 ∨ r = 5 := Or.inr (Or.inl c_13)
        refine j_iconst (v := 1) dX8_replaceTable_26 (by decide) ?_
        refine j_goto (tgt := 31) dX8_replaceTable_27 (by decide) ?_
        refine j_callS dX8_replaceTable_31 kX8_checkRule lX8_112 stX8_checkRule (c_X8_checkRule_e hl _ _) (Nat.le_of_ble_eq_true rfl) ⟨(Nat.le_of_ble_eq_true rfl), (Nat.le_of_ble_eq_true rfl)⟩ rfl (Nat.le_of_ble_eq_true rfl) rfl rfl (fun _ _ h => by obtain ⟨h1, rfl⟩ := h; exact ⟨rfl, rfl, absurd h1.2 (by decide), rfl⟩) ?_
        rintro _ _ ⟨⟨rfl, hcr⟩, rfl⟩
        have hu2 : ¬ r = 2 := by rintro rfl; exact absurd hu (by decide)
        have hu3 : ¬ r = 3 := by rintro rfl; exact absurd hu (by decide)
        refine j_iload_n dX8_replaceTable_34 rfl ?_
        refine j_callS dX8_replaceTable_35 kX8_checkValue lX8_50 stX8_checkValue (c_X8_checkValue_e hl _ _) (Nat.le_of_ble_eq_true rfl) ⟨(Nat.le_of_ble_eq_true rfl), (Nat.le_of_ble_eq_true rfl)⟩ rfl (Nat.le_of_ble_eq_true rfl) rfl rfl (fun _ _ h => by obtain ⟨h1, rfl⟩ := h; exact ⟨rfl, rfl, Or.inr ⟨h1.1, sp_k32_2 (Or.inl rfl) (Or.inr h1.2)⟩, rfl⟩) ?_
        rintro _ _ ⟨⟨rfl, hc35⟩, rfl⟩
        refine j_new (w' := (z_cw _ _ _ _ _ _ _ _ _ _ _ _ _ _ _ _ _ _ _ _ _ _ _ _ _ _ _ _ _ _ _ _ _ _ _ _ _ _ _ _ _ _ _ _ _ _ _ _ _ _ _ _ _ _ _ _ [.inr (10, [_, _, _, _, _])], z_no)) (n := 51) dX8_replaceTable_38 nX8_160 rfl (z_al_l rfl rfl) (Nat.le_of_ble_eq_true rfl) (Nat.le_of_ble_eq_true rfl) ?_
        refine j_dup dX8_replaceTable_41 rfl ?_
        refine j_aload dX8_replaceTable_42 rfl rfl ?_
        refine j_callI dX8_replaceTable_44 kX5_init rfl lX8_162 inX5_init rfl (z_frame [51, 10, 11, 12, 13, 14] rfl (by decide) (Nat.le_of_ble_eq_true rfl) (c_X5_init_e hl false _ _ _ _)) (Nat.le_of_ble_eq_true rfl) ⟨(Nat.le_of_ble_eq_true rfl), (Nat.le_of_ble_eq_true rfl)⟩ rfl (Nat.le_of_ble_eq_true rfl) rfl rfl (fun _ _ h => h.elim) ?_
        rintro _ _ ⟨_, _, ⟨rfl, rfl⟩, rfl, rfl⟩
        refine j_ws (L' := z_cw _ _ _ _ _ _ _ _ _ _ _ _ _ _ _ _ _ _ _ _ _ _ _ _ _ _ _ _ _ _ _ _ _ _ _ _ _ _ _ _ _ _ _ _ _ _ _ _ _ _ _ _ _ _ _ _ [.inr (10, [_, _, _, _, _])]) (by decide) rfl rfl ?_
        refine j_iload_n dX8_replaceTable_47 rfl ?_
        refine j_iload_n dX8_replaceTable_48 rfl ?_
        refine j_callS dX8_replaceTable_49 kX8_changeEach lX8_115 stX8_changeEach (z_frame [51, 10, 11, 12, 13, 14] rfl (by decide) (Nat.le_of_ble_eq_true rfl) (c_X8_changeEach_X5_c hl (z_bp (sp_C S 2) 0) _ _ false _ _ _ _ (sp_T S 0) _ _ ht0 rfl hu2 hu3 (sp_vl hc35))) (Nat.le_of_ble_eq_true rfl) ⟨(Nat.le_of_ble_eq_true rfl), (Nat.le_of_ble_eq_true rfl)⟩ rfl (Nat.le_of_ble_eq_true rfl) rfl rfl (fun _ _ h => h.elim) ?_
        rintro _ _ ⟨_, _, ⟨rfl, _, _, _, f9, ht9, rfl⟩, rfl, rfl⟩
        refine j_ws (L' := z_cw _ _ _ _ _ _ _ _ _ _ _ _ _ _ _ _ _ _ _ _ _ _ _ _ _ _ _ _ _ _ _ _ _ _ _ _ _ _ _ _ _ _ _ _ _ _ _ _ _ _ _ _ _ _ _ _ [.inr (10, [_, _, _, _, _])]) (by decide) rfl rfl ?_
        refine j_istore (lo' := [(5, _), (4, _), (0, _), (1, _), (2, _), (3, _)]) dX8_replaceTable_52 (by decide) rfl ?_
        refine j_dropL (n := 51) rfl (Nat.le_of_ble_eq_true rfl) (Nat.le_of_ble_eq_true rfl) (Nat.le_of_ble_eq_true rfl) z_cwc rfl rfl ?_
        refine j_w (z_cw _ _ _ _ _ _ _ _ _ _ _ _ _ _ _ _ _ _ _ _ _ _ _ _ _ _ _ _ _ _ _ _ _ _ _ _ _ _ _ _ _ _ _ _ _ _ _ _ _ _ _ _ _ _ _ _ [], z_no) rfl ?_
        refine j_iload dX8_replaceTable_54 rfl ?_
        refine j_if_eq (tgt := 67) dX8_replaceTable_56 (by decide) (fun c_56 => ?_) (fun c_56 => ?_)
        · have hb56 := z_bF c_56
          have hbl : (sp_ctb S 0 r n).1 = false := hb56
          refine j_aload_n dX8_replaceTable_67 rfl rfl ?_
          refine j_callV (q := (RX8, TX8, 9)) dX8_replaceTable_68 kX8_refused lX8_119 inX8_refused seX8_refused rfl rfl (z_dirF (c_X8_refused_e hl _ _ _ _ _ _ _ _ _ _ _ _ _ _ _ _ _ _ _ _ _ _ _ _ _ _ _ _ _ _ _ _ _ _ _ _ _ _ _ _ _ _ _ _ _ _ _ _ _ _ _ _ _ _ _ _)) (Nat.le_of_ble_eq_true rfl) ⟨(Nat.le_of_ble_eq_true rfl), (Nat.le_of_ble_eq_true rfl)⟩ rfl (Nat.le_of_ble_eq_true rfl) rfl rfl (fun _ _ h => h.elim) ?_
          rintro _ _ ⟨_, ⟨rfl, rfl⟩, rfl⟩
          refine j_iret dX8_replaceTable_71 rfl rfl ?_ (Nat.le_of_ble_eq_true rfl) (Nat.le_of_ble_eq_true rfl)
          refine ⟨rfl, (by first | exact z_cwl | rfl), ?_⟩
          try rw [sp_i0]
          exact ⟨sp_k32_0 (Or.inl rfl) (fun z => z.elim (fun z => z hu) hc35), (by rw [hbl]; rfl), (sp_CWe hra hrb ht9 ht1 ht2 he0 he1 hzm3 hzm4 hzm5 ((by unfold sp_ctbS; rw [hbl]; rfl)))⟩
        · have hb56 := z_bt c_56
          have hbl : (sp_ctb S 0 r n).1 = true := hb56
          refine j_aload dX8_replaceTable_59 rfl rfl ?_
          refine j_getf dX8_replaceTable_61 fX8_165 rfl rfl ?_
          refine j_goto (tgt := 71) dX8_replaceTable_64 (by decide) ?_
          refine j_iret dX8_replaceTable_71 rfl rfl ?_ (Nat.le_of_ble_eq_true rfl) (Nat.le_of_ble_eq_true rfl)
          refine ⟨rfl, (by first | exact z_cwl | rfl), ?_⟩
          try rw [sp_i0]
          exact ⟨sp_k32_0 (Or.inl rfl) (fun z => z.elim (fun z => z hu) hc35), (by rw [hbl]; rfl), (sp_CWe hra hrb ht9 ht1 ht2 he0 he1 hzm3 hzm4 hzm5 ((by unfold sp_ctbS; rw [hbl]; rfl)))⟩
      · refine j_iload_n dX8_replaceTable_16 rfl ?_
        refine j_iconst (v := 4) dX8_replaceTable_17 (by decide) ?_
        refine j_icmp_eq (tgt := 26) dX8_replaceTable_18 (by decide) (fun c_18 => ?_) (fun c_18 => ?_)
        · have hu : r = 0 ∨ r = 1 ∨ r = 4 ∨ r = 5 := Or.inr (Or.inr (Or.inl c_18))
          refine j_iconst (v := 1) dX8_replaceTable_26 (by decide) ?_
          refine j_goto (tgt := 31) dX8_replaceTable_27 (by decide) ?_
          refine j_callS dX8_replaceTable_31 kX8_checkRule lX8_112 stX8_checkRule (c_X8_checkRule_e hl _ _) (Nat.le_of_ble_eq_true rfl) ⟨(Nat.le_of_ble_eq_true rfl), (Nat.le_of_ble_eq_true rfl)⟩ rfl (Nat.le_of_ble_eq_true rfl) rfl rfl (fun _ _ h => by obtain ⟨h1, rfl⟩ := h; exact ⟨rfl, rfl, absurd h1.2 (by decide), rfl⟩) ?_
          rintro _ _ ⟨⟨rfl, hcr⟩, rfl⟩
          have hu2 : ¬ r = 2 := by rintro rfl; exact absurd hu (by decide)
          have hu3 : ¬ r = 3 := by rintro rfl; exact absurd hu (by decide)
          refine j_iload_n dX8_replaceTable_34 rfl ?_
          refine j_callS dX8_replaceTable_35 kX8_checkValue lX8_50 stX8_checkValue (c_X8_checkValue_e hl _ _) (Nat.le_of_ble_eq_true rfl) ⟨(Nat.le_of_ble_eq_true rfl), (Nat.le_of_ble_eq_true rfl)⟩ rfl (Nat.le_of_ble_eq_true rfl) rfl rfl (fun _ _ h => by obtain ⟨h1, rfl⟩ := h; exact ⟨rfl, rfl, Or.inr ⟨h1.1, sp_k32_2 (Or.inl rfl) (Or.inr h1.2)⟩, rfl⟩) ?_
          rintro _ _ ⟨⟨rfl, hc35⟩, rfl⟩
          refine j_new (w' := (z_cw _ _ _ _ _ _ _ _ _ _ _ _ _ _ _ _ _ _ _ _ _ _ _ _ _ _ _ _ _ _ _ _ _ _ _ _ _ _ _ _ _ _ _ _ _ _ _ _ _ _ _ _ _ _ _ _ [.inr (10, [_, _, _, _, _])], z_no)) (n := 51) dX8_replaceTable_38 nX8_160 rfl (z_al_l rfl rfl) (Nat.le_of_ble_eq_true rfl) (Nat.le_of_ble_eq_true rfl) ?_
          refine j_dup dX8_replaceTable_41 rfl ?_
          refine j_aload dX8_replaceTable_42 rfl rfl ?_
          refine j_callI dX8_replaceTable_44 kX5_init rfl lX8_162 inX5_init rfl (z_frame [51, 10, 11, 12, 13, 14] rfl (by decide) (Nat.le_of_ble_eq_true rfl) (c_X5_init_e hl false _ _ _ _)) (Nat.le_of_ble_eq_true rfl) ⟨(Nat.le_of_ble_eq_true rfl), (Nat.le_of_ble_eq_true rfl)⟩ rfl (Nat.le_of_ble_eq_true rfl) rfl rfl (fun _ _ h => h.elim) ?_
          rintro _ _ ⟨_, _, ⟨rfl, rfl⟩, rfl, rfl⟩
          refine j_ws (L' := z_cw _ _ _ _ _ _ _ _ _ _ _ _ _ _ _ _ _ _ _ _ _ _ _ _ _ _ _ _ _ _ _ _ _ _ _ _ _ _ _ _ _ _ _ _ _ _ _ _ _ _ _ _ _ _ _ _ [.inr (10, [_, _, _, _, _])]) (by decide) rfl rfl ?_
          refine j_iload_n dX8_replaceTable_47 rfl ?_
          refine j_iload_n dX8_replaceTable_48 rfl ?_
          refine j_callS dX8_replaceTable_49 kX8_changeEach lX8_115 stX8_changeEach (z_frame [51, 10, 11, 12, 13, 14] rfl (by decide) (Nat.le_of_ble_eq_true rfl) (c_X8_changeEach_X5_c hl (z_bp (sp_C S 2) 0) _ _ false _ _ _ _ (sp_T S 0) _ _ ht0 rfl hu2 hu3 (sp_vl hc35))) (Nat.le_of_ble_eq_true rfl) ⟨(Nat.le_of_ble_eq_true rfl), (Nat.le_of_ble_eq_true rfl)⟩ rfl (Nat.le_of_ble_eq_true rfl) rfl rfl (fun _ _ h => h.elim) ?_
          rintro _ _ ⟨_, _, ⟨rfl, _, _, _, f9, ht9, rfl⟩, rfl, rfl⟩
          refine j_ws (L' := z_cw _ _ _ _ _ _ _ _ _ _ _ _ _ _ _ _ _ _ _ _ _ _ _ _ _ _ _ _ _ _ _ _ _ _ _ _ _ _ _ _ _ _ _ _ _ _ _ _ _ _ _ _ _ _ _ _ [.inr (10, [_, _, _, _, _])]) (by decide) rfl rfl ?_
          refine j_istore (lo' := [(5, _), (4, _), (0, _), (1, _), (2, _), (3, _)]) dX8_replaceTable_52 (by decide) rfl ?_
          refine j_dropL (n := 51) rfl (Nat.le_of_ble_eq_true rfl) (Nat.le_of_ble_eq_true rfl) (Nat.le_of_ble_eq_true rfl) z_cwc rfl rfl ?_
          refine j_w (z_cw _ _ _ _ _ _ _ _ _ _ _ _ _ _ _ _ _ _ _ _ _ _ _ _ _ _ _ _ _ _ _ _ _ _ _ _ _ _ _ _ _ _ _ _ _ _ _ _ _ _ _ _ _ _ _ _ [], z_no) rfl ?_
          refine j_iload dX8_replaceTable_54 rfl ?_
          refine j_if_eq (tgt := 67) dX8_replaceTable_56 (by decide) (fun c_56 => ?_) (fun c_56 => ?_)
          · have hb56 := z_bF c_56
            have hbl : (sp_ctb S 0 r n).1 = false := hb56
            refine j_aload_n dX8_replaceTable_67 rfl rfl ?_
            refine j_callV (q := (RX8, TX8, 9)) dX8_replaceTable_68 kX8_refused lX8_119 inX8_refused seX8_refused rfl rfl (z_dirF (c_X8_refused_e hl _ _ _ _ _ _ _ _ _ _ _ _ _ _ _ _ _ _ _ _ _ _ _ _ _ _ _ _ _ _ _ _ _ _ _ _ _ _ _ _ _ _ _ _ _ _ _ _ _ _ _ _ _ _ _ _)) (Nat.le_of_ble_eq_true rfl) ⟨(Nat.le_of_ble_eq_true rfl), (Nat.le_of_ble_eq_true rfl)⟩ rfl (Nat.le_of_ble_eq_true rfl) rfl rfl (fun _ _ h => h.elim) ?_
            rintro _ _ ⟨_, ⟨rfl, rfl⟩, rfl⟩
            refine j_iret dX8_replaceTable_71 rfl rfl ?_ (Nat.le_of_ble_eq_true rfl) (Nat.le_of_ble_eq_true rfl)
            refine ⟨rfl, (by first | exact z_cwl | rfl), ?_⟩
            try rw [sp_i0]
            exact ⟨sp_k32_0 (Or.inl rfl) (fun z => z.elim (fun z => z hu) hc35), (by rw [hbl]; rfl), (sp_CWe hra hrb ht9 ht1 ht2 he0 he1 hzm3 hzm4 hzm5 ((by unfold sp_ctbS; rw [hbl]; rfl)))⟩
          · have hb56 := z_bt c_56
            have hbl : (sp_ctb S 0 r n).1 = true := hb56
            refine j_aload dX8_replaceTable_59 rfl rfl ?_
            refine j_getf dX8_replaceTable_61 fX8_165 rfl rfl ?_
            refine j_goto (tgt := 71) dX8_replaceTable_64 (by decide) ?_
            refine j_iret dX8_replaceTable_71 rfl rfl ?_ (Nat.le_of_ble_eq_true rfl) (Nat.le_of_ble_eq_true rfl)
            refine ⟨rfl, (by first | exact z_cwl | rfl), ?_⟩
            try rw [sp_i0]
            exact ⟨sp_k32_0 (Or.inl rfl) (fun z => z.elim (fun z => z hu) hc35), (by rw [hbl]; rfl), (sp_CWe hra hrb ht9 ht1 ht2 he0 he1 hzm3 hzm4 hzm5 ((by unfold sp_ctbS; rw [hbl]; rfl)))⟩
        · refine j_iload_n dX8_replaceTable_21 rfl ?_
          refine j_iconst (v := 5) dX8_replaceTable_22 (by decide) ?_
          refine j_icmp_ne (tgt := 30) dX8_replaceTable_23 (by decide) (fun c_23 => ?_) (fun c_23 => ?_)
          · have hnu : ¬ (r = 0 ∨ r = 1 ∨ r = 4 ∨ r = 5) := (fun z => z.elim c_8 (fun z => z.elim c_13 (fun z => z.elim c_18 c_23)))
            refine j_iconst (v := 0) dX8_replaceTable_30 (by decide) ?_
            refine j_callS dX8_replaceTable_31 kX8_checkRule lX8_112 stX8_checkRule (c_X8_checkRule_e hl _ _) (Nat.le_of_ble_eq_true rfl) ⟨(Nat.le_of_ble_eq_true rfl), (Nat.le_of_ble_eq_true rfl)⟩ rfl (Nat.le_of_ble_eq_true rfl) rfl rfl (fun _ _ h => by obtain ⟨h1, rfl⟩ := h; exact ⟨rfl, rfl, Or.inr ⟨h1.1, sp_k32_2 (Or.inl rfl) (Or.inl hnu)⟩, rfl⟩) ?_
            rintro _ _ ⟨⟨rfl, hcr⟩, rfl⟩
            exact absurd rfl hcr
          · have hu : r = 0 ∨ r = 1 ∨ r = 4 ∨ r = 5 := Or.inr (Or.inr (Or.inr (c_23)))
            refine j_iconst (v := 1) dX8_replaceTable_26 (by decide) ?_
            refine j_goto (tgt := 31) dX8_replaceTable_27 (by decide) ?_
            refine j_callS dX8_replaceTable_31 kX8_checkRule lX8_112 stX8_checkRule (c_X8_checkRule_e hl _ _) (Nat.le_of_ble_eq_true rfl) ⟨(Nat.le_of_ble_eq_true rfl), (Nat.le_of_ble_eq_true rfl)⟩ rfl (Nat.le_of_ble_eq_true rfl) rfl rfl (fun _ _ h => by obtain ⟨h1, rfl⟩ := h; exact ⟨rfl, rfl, absurd h1.2 (by decide), rfl⟩) ?_
            rintro _ _ ⟨⟨rfl, hcr⟩, rfl⟩
            have hu2 : ¬ r = 2 := by rintro rfl; exact absurd hu (by decide)
            have hu3 : ¬ r = 3 := by rintro rfl; exact absurd hu (by decide)
            refine j_iload_n dX8_replaceTable_34 rfl ?_
            refine j_callS dX8_replaceTable_35 kX8_checkValue lX8_50 stX8_checkValue (c_X8_checkValue_e hl _ _) (Nat.le_of_ble_eq_true rfl) ⟨(Nat.le_of_ble_eq_true rfl), (Nat.le_of_ble_eq_true rfl)⟩ rfl (Nat.le_of_ble_eq_true rfl) rfl rfl (fun _ _ h => by obtain ⟨h1, rfl⟩ := h; exact ⟨rfl, rfl, Or.inr ⟨h1.1, sp_k32_2 (Or.inl rfl) (Or.inr h1.2)⟩, rfl⟩) ?_
            rintro _ _ ⟨⟨rfl, hc35⟩, rfl⟩
            refine j_new (w' := (z_cw _ _ _ _ _ _ _ _ _ _ _ _ _ _ _ _ _ _ _ _ _ _ _ _ _ _ _ _ _ _ _ _ _ _ _ _ _ _ _ _ _ _ _ _ _ _ _ _ _ _ _ _ _ _ _ _ [.inr (10, [_, _, _, _, _])], z_no)) (n := 51) dX8_replaceTable_38 nX8_160 rfl (z_al_l rfl rfl) (Nat.le_of_ble_eq_true rfl) (Nat.le_of_ble_eq_true rfl) ?_
            refine j_dup dX8_replaceTable_41 rfl ?_
            refine j_aload dX8_replaceTable_42 rfl rfl ?_
            refine j_callI dX8_replaceTable_44 kX5_init rfl lX8_162 inX5_init rfl (z_frame [51, 10, 11, 12, 13, 14] rfl (by decide) (Nat.le_of_ble_eq_true rfl) (c_X5_init_e hl false _ _ _ _)) (Nat.le_of_ble_eq_true rfl) ⟨(Nat.le_of_ble_eq_true rfl), (Nat.le_of_ble_eq_true rfl)⟩ rfl (Nat.le_of_ble_eq_true rfl) rfl rfl (fun _ _ h => h.elim) ?_
            rintro _ _ ⟨_, _, ⟨rfl, rfl⟩, rfl, rfl⟩
            refine j_ws (L' := z_cw _ _ _ _ _ _ _ _ _ _ _ _ _ _ _ _ _ _ _ _ _ _ _ _ _ _ _ _ _ _ _ _ _ _ _ _ _ _ _ _ _ _ _ _ _ _ _ _ _ _ _ _ _ _ _ _ [.inr (10, [_, _, _, _, _])]) (by decide) rfl rfl ?_
            refine j_iload_n dX8_replaceTable_47 rfl ?_
            refine j_iload_n dX8_replaceTable_48 rfl ?_
            refine j_callS dX8_replaceTable_49 kX8_changeEach lX8_115 stX8_changeEach (z_frame [51, 10, 11, 12, 13, 14] rfl (by decide) (Nat.le_of_ble_eq_true rfl) (c_X8_changeEach_X5_c hl (z_bp (sp_C S 2) 0) _ _ false _ _ _ _ (sp_T S 0) _ _ ht0 rfl hu2 hu3 (sp_vl hc35))) (Nat.le_of_ble_eq_true rfl) ⟨(Nat.le_of_ble_eq_true rfl), (Nat.le_of_ble_eq_true rfl)⟩ rfl (Nat.le_of_ble_eq_true rfl) rfl rfl (fun _ _ h => h.elim) ?_
            rintro _ _ ⟨_, _, ⟨rfl, _, _, _, f9, ht9, rfl⟩, rfl, rfl⟩
            refine j_ws (L' := z_cw _ _ _ _ _ _ _ _ _ _ _ _ _ _ _ _ _ _ _ _ _ _ _ _ _ _ _ _ _ _ _ _ _ _ _ _ _ _ _ _ _ _ _ _ _ _ _ _ _ _ _ _ _ _ _ _ [.inr (10, [_, _, _, _, _])]) (by decide) rfl rfl ?_
            refine j_istore (lo' := [(5, _), (4, _), (0, _), (1, _), (2, _), (3, _)]) dX8_replaceTable_52 (by decide) rfl ?_
            refine j_dropL (n := 51) rfl (Nat.le_of_ble_eq_true rfl) (Nat.le_of_ble_eq_true rfl) (Nat.le_of_ble_eq_true rfl) z_cwc rfl rfl ?_
            refine j_w (z_cw _ _ _ _ _ _ _ _ _ _ _ _ _ _ _ _ _ _ _ _ _ _ _ _ _ _ _ _ _ _ _ _ _ _ _ _ _ _ _ _ _ _ _ _ _ _ _ _ _ _ _ _ _ _ _ _ [], z_no) rfl ?_
            refine j_iload dX8_replaceTable_54 rfl ?_
            refine j_if_eq (tgt := 67) dX8_replaceTable_56 (by decide) (fun c_56 => ?_) (fun c_56 => ?_)
            · have hb56 := z_bF c_56
              have hbl : (sp_ctb S 0 r n).1 = false := hb56
              refine j_aload_n dX8_replaceTable_67 rfl rfl ?_
              refine j_callV (q := (RX8, TX8, 9)) dX8_replaceTable_68 kX8_refused lX8_119 inX8_refused seX8_refused rfl rfl (z_dirF (c_X8_refused_e hl _ _ _ _ _ _ _ _ _ _ _ _ _ _ _ _ _ _ _ _ _ _ _ _ _ _ _ _ _ _ _ _ _ _ _ _ _ _ _ _ _ _ _ _ _ _ _ _ _ _ _ _ _ _ _ _)) (Nat.le_of_ble_eq_true rfl) ⟨(Nat.le_of_ble_eq_true rfl), (Nat.le_of_ble_eq_true rfl)⟩ rfl (Nat.le_of_ble_eq_true rfl) rfl rfl (fun _ _ h => h.elim) ?_
              rintro _ _ ⟨_, ⟨rfl, rfl⟩, rfl⟩
              refine j_iret dX8_replaceTable_71 rfl rfl ?_ (Nat.le_of_ble_eq_true rfl) (Nat.le_of_ble_eq_true rfl)
              refine ⟨rfl, (by first | exact z_cwl | rfl), ?_⟩
              try rw [sp_i0]
              exact ⟨sp_k32_0 (Or.inl rfl) (fun z => z.elim (fun z => z hu) hc35), (by rw [hbl]; rfl), (sp_CWe hra hrb ht9 ht1 ht2 he0 he1 hzm3 hzm4 hzm5 ((by unfold sp_ctbS; rw [hbl]; rfl)))⟩
            · have hb56 := z_bt c_56
              have hbl : (sp_ctb S 0 r n).1 = true := hb56
              refine j_aload dX8_replaceTable_59 rfl rfl ?_
              refine j_getf dX8_replaceTable_61 fX8_165 rfl rfl ?_
              refine j_goto (tgt := 71) dX8_replaceTable_64 (by decide) ?_
              refine j_iret dX8_replaceTable_71 rfl rfl ?_ (Nat.le_of_ble_eq_true rfl) (Nat.le_of_ble_eq_true rfl)
              refine ⟨rfl, (by first | exact z_cwl | rfl), ?_⟩
              try rw [sp_i0]
              exact ⟨sp_k32_0 (Or.inl rfl) (fun z => z.elim (fun z => z hu) hc35), (by rw [hbl]; rfl), (sp_CWe hra hrb ht9 ht1 ht2 he0 he1 hzm3 hzm4 hzm5 ((by unfold sp_ctbS; rw [hbl]; rfl)))⟩
  · subst e_2
    refine j_astore (lo' := [(4, _), (0, _), (1, _), (2, _), (3, _)]) dX8_replaceTable_5 rfl (by decide) rfl ?_
    refine j_iload_n dX8_replaceTable_7 rfl ?_
    refine j_if_eq (tgt := 26) dX8_replaceTable_8 (by decide) (fun c_8 => ?_) (fun c_8 => ?_)
    · have hu : r = 0 ∨ r = 1 ∨ r = 4 ∨ r = 5 := Or.inl c_8
      refine j_iconst (v := 1) dX8_replaceTable_26 (by decide) ?_
      refine j_goto (tgt := 31) dX8_replaceTable_27 (by decide) ?_
      refine j_callS dX8_replaceTable_31 kX8_checkRule lX8_112 stX8_checkRule (c_X8_checkRule_e hl _ _) (Nat.le_of_ble_eq_true rfl) ⟨(Nat.le_of_ble_eq_true rfl), (Nat.le_of_ble_eq_true rfl)⟩ rfl (Nat.le_of_ble_eq_true rfl) rfl rfl (fun _ _ h => by obtain ⟨h1, rfl⟩ := h; exact ⟨rfl, rfl, absurd h1.2 (by decide), rfl⟩) ?_
      rintro _ _ ⟨⟨rfl, hcr⟩, rfl⟩
      have hu2 : ¬ r = 2 := by rintro rfl; exact absurd hu (by decide)
      have hu3 : ¬ r = 3 := by rintro rfl; exact absurd hu (by decide)
      refine j_iload_n dX8_replaceTable_34 rfl ?_
      refine j_callS dX8_replaceTable_35 kX8_checkValue lX8_50 stX8_checkValue (c_X8_checkValue_e hl _ _) (Nat.le_of_ble_eq_true rfl) ⟨(Nat.le_of_ble_eq_true rfl), (Nat.le_of_ble_eq_true rfl)⟩ rfl (Nat.le_of_ble_eq_true rfl) rfl rfl (fun _ _ h => by obtain ⟨h1, rfl⟩ := h; exact ⟨rfl, rfl, Or.inr ⟨h1.1, sp_k32_2 (Or.inr (Or.inl rfl)) (Or.inr h1.2)⟩, rfl⟩) ?_
      rintro _ _ ⟨⟨rfl, hc35⟩, rfl⟩
      refine j_new (w' := (z_cw _ _ _ _ _ _ _ _ _ _ _ _ _ _ _ _ _ _ _ _ _ _ _ _ _ _ _ _ _ _ _ _ _ _ _ _ _ _ _ _ _ _ _ _ _ _ _ _ _ _ _ _ _ _ _ _ [.inr (10, [_, _, _, _, _])], z_no)) (n := 51) dX8_replaceTable_38 nX8_160 rfl (z_al_l rfl rfl) (Nat.le_of_ble_eq_true rfl) (Nat.le_of_ble_eq_true rfl) ?_
      refine j_dup dX8_replaceTable_41 rfl ?_
      refine j_aload dX8_replaceTable_42 rfl rfl ?_
      refine j_callI dX8_replaceTable_44 kX5_init rfl lX8_162 inX5_init rfl (z_frame [51, 16, 17, 18, 19, 20] rfl (by decide) (Nat.le_of_ble_eq_true rfl) (c_X5_init_e hl false _ _ _ _)) (Nat.le_of_ble_eq_true rfl) ⟨(Nat.le_of_ble_eq_true rfl), (Nat.le_of_ble_eq_true rfl)⟩ rfl (Nat.le_of_ble_eq_true rfl) rfl rfl (fun _ _ h => h.elim) ?_
      rintro _ _ ⟨_, _, ⟨rfl, rfl⟩, rfl, rfl⟩
      refine j_ws (L' := z_cw _ _ _ _ _ _ _ _ _ _ _ _ _ _ _ _ _ _ _ _ _ _ _ _ _ _ _ _ _ _ _ _ _ _ _ _ _ _ _ _ _ _ _ _ _ _ _ _ _ _ _ _ _ _ _ _ [.inr (10, [_, _, _, _, _])]) (by decide) rfl rfl ?_
      refine j_iload_n dX8_replaceTable_47 rfl ?_
      refine j_iload_n dX8_replaceTable_48 rfl ?_
      refine j_callS dX8_replaceTable_49 kX8_changeEach lX8_115 stX8_changeEach (z_frame [51, 16, 17, 18, 19, 20] rfl (by decide) (Nat.le_of_ble_eq_true rfl) (c_X8_changeEach_X5_c hl (z_bp (sp_C S 2) 0) _ _ false _ _ _ _ (sp_T S 1) _ _ ht1 rfl hu2 hu3 (sp_vl hc35))) (Nat.le_of_ble_eq_true rfl) ⟨(Nat.le_of_ble_eq_true rfl), (Nat.le_of_ble_eq_true rfl)⟩ rfl (Nat.le_of_ble_eq_true rfl) rfl rfl (fun _ _ h => h.elim) ?_
      rintro _ _ ⟨_, _, ⟨rfl, _, _, _, f9, ht9, rfl⟩, rfl, rfl⟩
      refine j_ws (L' := z_cw _ _ _ _ _ _ _ _ _ _ _ _ _ _ _ _ _ _ _ _ _ _ _ _ _ _ _ _ _ _ _ _ _ _ _ _ _ _ _ _ _ _ _ _ _ _ _ _ _ _ _ _ _ _ _ _ [.inr (10, [_, _, _, _, _])]) (by decide) rfl rfl ?_
      refine j_istore (lo' := [(5, _), (4, _), (0, _), (1, _), (2, _), (3, _)]) dX8_replaceTable_52 (by decide) rfl ?_
      refine j_dropL (n := 51) rfl (Nat.le_of_ble_eq_true rfl) (Nat.le_of_ble_eq_true rfl) (Nat.le_of_ble_eq_true rfl) z_cwc rfl rfl ?_
      refine j_w (z_cw _ _ _ _ _ _ _ _ _ _ _ _ _ _ _ _ _ _ _ _ _ _ _ _ _ _ _ _ _ _ _ _ _ _ _ _ _ _ _ _ _ _ _ _ _ _ _ _ _ _ _ _ _ _ _ _ [], z_no) rfl ?_
      refine j_iload dX8_replaceTable_54 rfl ?_
      refine j_if_eq (tgt := 67) dX8_replaceTable_56 (by decide) (fun c_56 => ?_) (fun c_56 => ?_)
      · have hb56 := z_bF c_56
        have hbl : (sp_ctb S 1 r n).1 = false := hb56
        refine j_aload_n dX8_replaceTable_67 rfl rfl ?_
        refine j_callV (q := (RX8, TX8, 9)) dX8_replaceTable_68 kX8_refused lX8_119 inX8_refused seX8_refused rfl rfl (z_dirF (c_X8_refused_e hl _ _ _ _ _ _ _ _ _ _ _ _ _ _ _ _ _ _ _ _ _ _ _ _ _ _ _ _ _ _ _ _ _ _ _ _ _ _ _ _ _ _ _ _ _ _ _ _ _ _ _ _ _ _ _ _)) (Nat.le_of_ble_eq_true rfl) ⟨(Nat.le_of_ble_eq_true rfl), (Nat.le_of_ble_eq_true rfl)⟩ rfl (Nat.le_of_ble_eq_true rfl) rfl rfl (fun _ _ h => h.elim) ?_
        rintro _ _ ⟨_, ⟨rfl, rfl⟩, rfl⟩
        refine j_iret dX8_replaceTable_71 rfl rfl ?_ (Nat.le_of_ble_eq_true rfl) (Nat.le_of_ble_eq_true rfl)
        refine ⟨rfl, (by first | exact z_cwl | rfl), ?_⟩
        try rw [sp_i1]
        exact ⟨sp_k32_0 (Or.inr (Or.inl rfl)) (fun z => z.elim (fun z => z hu) hc35), (by rw [hbl]; rfl), (sp_CWe hra hrb ht0 ht9 ht2 he0 he1 hzm3 hzm4 hzm5 ((by unfold sp_ctbS; rw [hbl]; rfl)))⟩
      · have hb56 := z_bt c_56
        have hbl : (sp_ctb S 1 r n).1 = true := hb56
        refine j_aload dX8_replaceTable_59 rfl rfl ?_
        refine j_getf dX8_replaceTable_61 fX8_165 rfl rfl ?_
        refine j_goto (tgt := 71) dX8_replaceTable_64 (by decide) ?_
        refine j_iret dX8_replaceTable_71 rfl rfl ?_ (Nat.le_of_ble_eq_true rfl) (Nat.le_of_ble_eq_true rfl)
        refine ⟨rfl, (by first | exact z_cwl | rfl), ?_⟩
        try rw [sp_i1]
        exact ⟨sp_k32_0 (Or.inr (Or.inl rfl)) (fun z => z.elim (fun z => z hu) hc35), (by rw [hbl]; rfl), (sp_CWe hra hrb ht0 ht9 ht2 he0 he1 hzm3 hzm4 hzm5 ((by unfold sp_ctbS; rw [hbl]; rfl)))⟩
    · refine j_iload_n dX8_replaceTable_11 rfl ?_
      refine j_iconst (v := 1) dX8_replaceTable_12 (by decide) ?_
      refine j_icmp_eq (tgt := 26) dX8_replaceTable_13 (by decide) (fun c_13 => ?_) (fun c_13 => ?_)
      · have hu : r = 0 ∨ r = 1 ∨ r = 4 ∨ r = 5 := Or.inr (Or.inl c_13)
        refine j_iconst (v := 1) dX8_replaceTable_26 (by decide) ?_
        refine j_goto (tgt := 31) dX8_replaceTable_27 (by decide) ?_
        refine j_callS dX8_replaceTable_31 kX8_checkRule lX8_112 stX8_checkRule (c_X8_checkRule_e hl _ _) (Nat.le_of_ble_eq_true rfl) ⟨(Nat.le_of_ble_eq_true rfl), (Nat.le_of_ble_eq_true rfl)⟩ rfl (Nat.le_of_ble_eq_true rfl) rfl rfl (fun _ _ h => by obtain ⟨h1, rfl⟩ := h; exact ⟨rfl, rfl, absurd h1.2 (by decide), rfl⟩) ?_
        rintro _ _ ⟨⟨rfl, hcr⟩, rfl⟩
        have hu2 : ¬ r = 2 := by rintro rfl; exact absurd hu (by decide)
        have hu3 : ¬ r = 3 := by rintro rfl; exact absurd hu (by decide)
        refine j_iload_n dX8_replaceTable_34 rfl ?_
        refine j_callS dX8_replaceTable_35 kX8_checkValue lX8_50 stX8_checkValue (c_X8_checkValue_e hl _ _) (Nat.le_of_ble_eq_true rfl) ⟨(Nat.le_of_ble_eq_true rfl), (Nat.le_of_ble_eq_true rfl)⟩ rfl (Nat.le_of_ble_eq_true rfl) rfl rfl (fun _ _ h => by obtain ⟨h1, rfl⟩ := h; exact ⟨rfl, rfl, Or.inr ⟨h1.1, sp_k32_2 (Or.inr (Or.inl rfl)) (Or.inr h1.2)⟩, rfl⟩) ?_
        rintro _ _ ⟨⟨rfl, hc35⟩, rfl⟩
        refine j_new (w' := (z_cw _ _ _ _ _ _ _ _ _ _ _ _ _ _ _ _ _ _ _ _ _ _ _ _ _ _ _ _ _ _ _ _ _ _ _ _ _ _ _ _ _ _ _ _ _ _ _ _ _ _ _ _ _ _ _ _ [.inr (10, [_, _, _, _, _])], z_no)) (n := 51) dX8_replaceTable_38 nX8_160 rfl (z_al_l rfl rfl) (Nat.le_of_ble_eq_true rfl) (Nat.le_of_ble_eq_true rfl) ?_
        refine j_dup dX8_replaceTable_41 rfl ?_
        refine j_aload dX8_replaceTable_42 rfl rfl ?_
        refine j_callI dX8_replaceTable_44 kX5_init rfl lX8_162 inX5_init rfl (z_frame [51, 16, 17, 18, 19, 20] rfl (by decide) (Nat.le_of_ble_eq_true rfl) (c_X5_init_e hl false _ _ _ _)) (Nat.le_of_ble_eq_true rfl) ⟨(Nat.le_of_ble_eq_true rfl), (Nat.le_of_ble_eq_true rfl)⟩ rfl (Nat.le_of_ble_eq_true rfl) rfl rfl (fun _ _ h => h.elim) ?_
        rintro _ _ ⟨_, _, ⟨rfl, rfl⟩, rfl, rfl⟩
        refine j_ws (L' := z_cw _ _ _ _ _ _ _ _ _ _ _ _ _ _ _ _ _ _ _ _ _ _ _ _ _ _ _ _ _ _ _ _ _ _ _ _ _ _ _ _ _ _ _ _ _ _ _ _ _ _ _ _ _ _ _ _ [.inr (10, [_, _, _, _, _])]) (by decide) rfl rfl ?_
        refine j_iload_n dX8_replaceTable_47 rfl ?_
        refine j_iload_n dX8_replaceTable_48 rfl ?_
        refine j_callS dX8_replaceTable_49 kX8_changeEach lX8_115 stX8_changeEach (z_frame [51, 16, 17, 18, 19, 20] rfl (by decide) (Nat.le_of_ble_eq_true rfl) (c_X8_changeEach_X5_c hl (z_bp (sp_C S 2) 0) _ _ false _ _ _ _ (sp_T S 1) _ _ ht1 rfl hu2 hu3 (sp_vl hc35))) (Nat.le_of_ble_eq_true rfl) ⟨(Nat.le_of_ble_eq_true rfl), (Nat.le_of_ble_eq_true rfl)⟩ rfl (Nat.le_of_ble_eq_true rfl) rfl rfl (fun _ _ h => h.elim) ?_
        rintro _ _ ⟨_, _, ⟨rfl, _, _, _, f9, ht9, rfl⟩, rfl, rfl⟩
        refine j_ws (L' := z_cw _ _ _ _ _ _ _ _ _ _ _ _ _ _ _ _ _ _ _ _ _ _ _ _ _ _ _ _ _ _ _ _ _ _ _ _ _ _ _ _ _ _ _ _ _ _ _ _ _ _ _ _ _ _ _ _ [.inr (10, [_, _, _, _, _])]) (by decide) rfl rfl ?_
        refine j_istore (lo' := [(5, _), (4, _), (0, _), (1, _), (2, _), (3, _)]) dX8_replaceTable_52 (by decide) rfl ?_
        refine j_dropL (n := 51) rfl (Nat.le_of_ble_eq_true rfl) (Nat.le_of_ble_eq_true rfl) (Nat.le_of_ble_eq_true rfl) z_cwc rfl rfl ?_
        refine j_w (z_cw _ _ _ _ _ _ _ _ _ _ _ _ _ _ _ _ _ _ _ _ _ _ _ _ _ _ _ _ _ _ _ _ _ _ _ _ _ _ _ _ _ _ _ _ _ _ _ _ _ _ _ _ _ _ _ _ [], z_no) rfl ?_
        refine j_iload dX8_replaceTable_54 rfl ?_
        refine j_if_eq (tgt := 67) dX8_replaceTable_56 (by decide) (fun c_56 => ?_) (fun c_56 => ?_)
        · have hb56 := z_bF c_56
          have hbl : (sp_ctb S 1 r n).1 = false := hb56
          refine j_aload_n dX8_replaceTable_67 rfl rfl ?_
          refine j_callV (q := (RX8, TX8, 9)) dX8_replaceTable_68 kX8_refused lX8_119 inX8_refused seX8_refused rfl rfl (z_dirF (c_X8_refused_e hl _ _ _ _ _ _ _ _ _ _ _ _ _ _ _ _ _ _ _ _ _ _ _ _ _ _ _ _ _ _ _ _ _ _ _ _ _ _ _ _ _ _ _ _ _ _ _ _ _ _ _ _ _ _ _ _)) (Nat.le_of_ble_eq_true rfl) ⟨(Nat.le_of_ble_eq_true rfl), (Nat.le_of_ble_eq_true rfl)⟩ rfl (Nat.le_of_ble_eq_true rfl) rfl rfl (fun _ _ h => h.elim) ?_
          rintro _ _ ⟨_, ⟨rfl, rfl⟩, rfl⟩
          refine j_iret dX8_replaceTable_71 rfl rfl ?_ (Nat.le_of_ble_eq_true rfl) (Nat.le_of_ble_eq_true rfl)
          refine ⟨rfl, (by first | exact z_cwl | rfl), ?_⟩
          try rw [sp_i1]
          exact ⟨sp_k32_0 (Or.inr (Or.inl rfl)) (fun z => z.elim (fun z => z hu) hc35), (by rw [hbl]; rfl), (sp_CWe hra hrb ht0 ht9 ht2 he0 he1 hzm3 hzm4 hzm5 ((by unfold sp_ctbS; rw [hbl]; rfl)))⟩
        · have hb56 := z_bt c_56
          have hbl : (sp_ctb S 1 r n).1 = true := hb56
          refine j_aload dX8_replaceTable_59 rfl rfl ?_
          refine j_getf dX8_replaceTable_61 fX8_165 rfl rfl ?_
          refine j_goto (tgt := 71) dX8_replaceTable_64 (by decide) ?_
          refine j_iret dX8_replaceTable_71 rfl rfl ?_ (Nat.le_of_ble_eq_true rfl) (Nat.le_of_ble_eq_true rfl)
          refine ⟨rfl, (by first | exact z_cwl | rfl), ?_⟩
          try rw [sp_i1]
          exact ⟨sp_k32_0 (Or.inr (Or.inl rfl)) (fun z => z.elim (fun z => z hu) hc35), (by rw [hbl]; rfl), (sp_CWe hra hrb ht0 ht9 ht2 he0 he1 hzm3 hzm4 hzm5 ((by unfold sp_ctbS; rw [hbl]; rfl)))⟩
      · refine j_iload_n dX8_replaceTable_16 rfl ?_
        refine j_iconst (v := 4) dX8_replaceTable_17 (by decide) ?_
        refine j_icmp_eq (tgt := 26) dX8_replaceTable_18 (by decide) (fun c_18 => ?_) (fun c_18 => ?_)
        · have hu : r = 0 ∨ r = 1 ∨ r = 4 ∨ r = 5 := Or.inr (Or.inr (Or.inl c_18))
          refine j_iconst (v := 1) dX8_replaceTable_26 (by decide) ?_
          refine j_goto (tgt := 31) dX8_replaceTable_27 (by decide) ?_
          refine j_callS dX8_replaceTable_31 kX8_checkRule lX8_112 stX8_checkRule (c_X8_checkRule_e hl _ _) (Nat.le_of_ble_eq_true rfl) ⟨(Nat.le_of_ble_eq_true rfl), (Nat.le_of_ble_eq_true rfl)⟩ rfl (Nat.le_of_ble_eq_true rfl) rfl rfl (fun _ _ h => by obtain ⟨h1, rfl⟩ := h; exact ⟨rfl, rfl, absurd h1.2 (by decide), rfl⟩) ?_
          rintro _ _ ⟨⟨rfl, hcr⟩, rfl⟩
          have hu2 : ¬ r = 2 := by rintro rfl; exact absurd hu (by decide)
          have hu3 : ¬ r = 3 := by rintro rfl; exact absurd hu (by decide)
          refine j_iload_n dX8_replaceTable_34 rfl ?_
          refine j_callS dX8_replaceTable_35 kX8_checkValue lX8_50 stX8_checkValue (c_X8_checkValue_e hl _ _) (Nat.le_of_ble_eq_true rfl) ⟨(Nat.le_of_ble_eq_true rfl), (Nat.le_of_ble_eq_true rfl)⟩ rfl (Nat.le_of_ble_eq_true rfl) rfl rfl (fun _ _ h => by obtain ⟨h1, rfl⟩ := h; exact ⟨rfl, rfl, Or.inr ⟨h1.1, sp_k32_2 (Or.inr (Or.inl rfl)) (Or.inr h1.2)⟩, rfl⟩) ?_
          rintro _ _ ⟨⟨rfl, hc35⟩, rfl⟩
          refine j_new (w' := (z_cw _ _ _ _ _ _ _ _ _ _ _ _ _ _ _ _ _ _ _ _ _ _ _ _ _ _ _ _ _ _ _ _ _ _ _ _ _ _ _ _ _ _ _ _ _ _ _ _ _ _ _ _ _ _ _ _ [.inr (10, [_, _, _, _, _])], z_no)) (n := 51) dX8_replaceTable_38 nX8_160 rfl (z_al_l rfl rfl) (Nat.le_of_ble_eq_true rfl) (Nat.le_of_ble_eq_true rfl) ?_
          refine j_dup dX8_replaceTable_41 rfl ?_
          refine j_aload dX8_replaceTable_42 rfl rfl ?_
          refine j_callI dX8_replaceTable_44 kX5_init rfl lX8_162 inX5_init rfl (z_frame [51, 16, 17, 18, 19, 20] rfl (by decide) (Nat.le_of_ble_eq_true rfl) (c_X5_init_e hl false _ _ _ _)) (Nat.le_of_ble_eq_true rfl) ⟨(Nat.le_of_ble_eq_true rfl), (Nat.le_of_ble_eq_true rfl)⟩ rfl (Nat.le_of_ble_eq_true rfl) rfl rfl (fun _ _ h => h.elim) ?_
          rintro _ _ ⟨_, _, ⟨rfl, rfl⟩, rfl, rfl⟩
          refine j_ws (L' := z_cw _ _ _ _ _ _ _ _ _ _ _ _ _ _ _ _ _ _ _ _ _ _ _ _ _ _ _ _ _ _ _ _ _ _ _ _ _ _ _ _ _ _ _ _ _ _ _ _ _ _ _ _ _ _ _ _ [.inr (10, [_, _, _, _, _])]) (by decide) rfl rfl ?_
          refine j_iload_n dX8_replaceTable_47 rfl ?_
          refine j_iload_n dX8_replaceTable_48 rfl ?_
          refine j_callS dX8_replaceTable_49 kX8_changeEach lX8_115 stX8_changeEach (z_frame [51, 16, 17, 18, 19, 20] rfl (by decide) (Nat.le_of_ble_eq_true rfl) (c_X8_changeEach_X5_c hl (z_bp (sp_C S 2) 0) _ _ false _ _ _ _ (sp_T S 1) _ _ ht1 rfl hu2 hu3 (sp_vl hc35))) (Nat.le_of_ble_eq_true rfl) ⟨(Nat.le_of_ble_eq_true rfl), (Nat.le_of_ble_eq_true rfl)⟩ rfl (Nat.le_of_ble_eq_true rfl) rfl rfl (fun _ _ h => h.elim) ?_
          rintro _ _ ⟨_, _, ⟨rfl, _, _, _, f9, ht9, rfl⟩, rfl, rfl⟩
          refine j_ws (L' := z_cw _ _ _ _ _ _ _ _ _ _ _ _ _ _ _ _ _ _ _ _ _ _ _ _ _ _ _ _ _ _ _ _ _ _ _ _ _ _ _ _ _ _ _ _ _ _ _ _ _ _ _ _ _ _ _ _ [.inr (10, [_, _, _, _, _])]) (by decide) rfl rfl ?_
          refine j_istore (lo' := [(5, _), (4, _), (0, _), (1, _), (2, _), (3, _)]) dX8_replaceTable_52 (by decide) rfl ?_
          refine j_dropL (n := 51) rfl (Nat.le_of_ble_eq_true rfl) (Nat.le_of_ble_eq_true rfl) (Nat.le_of_ble_eq_true rfl) z_cwc rfl rfl ?_
          refine j_w (z_cw _ _ _ _ _ _ _ _ _ _ _ _ _ _ _ _ _ _ _ _ _ _ _ _ _ _ _ _ _ _ _ _ _ _ _ _ _ _ _ _ _ _ _ _ _ _ _ _ _ _ _ _ _ _ _ _ [], z_no) rfl ?_
          refine j_iload dX8_replaceTable_54 rfl ?_
          refine j_if_eq (tgt := 67) dX8_replaceTable_56 (by decide) (fun c_56 => ?_) (fun c_56 => ?_)
          · have hb56 := z_bF c_56
            have hbl : (sp_ctb S 1 r n).1 = false := hb56
            refine j_aload_n dX8_replaceTable_67 rfl rfl ?_
            refine j_callV (q := (RX8, TX8, 9)) dX8_replaceTable_68 kX8_refused lX8_119 inX8_refused seX8_refused rfl rfl (z_dirF (c_X8_refused_e hl _ _ _ _ _ _ _ _ _ _ _ _ _ _ _ _ _ _ _ _ _ _ _ _ _ _ _ _ _ _ _ _ _ _ _ _ _ _ _ _ _ _ _ _ _ _ _ _ _ _ _ _ _ _ _ _)) (Nat.le_of_ble_eq_true rfl) ⟨(Nat.le_of_ble_eq_true rfl), (Nat.le_of_ble_eq_true rfl)⟩ rfl (Nat.le_of_ble_eq_true rfl) rfl rfl (fun _ _ h => h.elim) ?_
            rintro _ _ ⟨_, ⟨rfl, rfl⟩, rfl⟩
            refine j_iret dX8_replaceTable_71 rfl rfl ?_ (Nat.le_of_ble_eq_true rfl) (Nat.le_of_ble_eq_true rfl)
            refine ⟨rfl, (by first | exact z_cwl | rfl), ?_⟩
            try rw [sp_i1]
            exact ⟨sp_k32_0 (Or.inr (Or.inl rfl)) (fun z => z.elim (fun z => z hu) hc35), (by rw [hbl]; rfl), (sp_CWe hra hrb ht0 ht9 ht2 he0 he1 hzm3 hzm4 hzm5 ((by unfold sp_ctbS; rw [hbl]; rfl)))⟩
          · have hb56 := z_bt c_56
            have hbl : (sp_ctb S 1 r n).1 = true := hb56
            refine j_aload dX8_replaceTable_59 rfl rfl ?_
            refine j_getf dX8_replaceTable_61 fX8_165 rfl rfl ?_
            refine j_goto (tgt := 71) dX8_replaceTable_64 (by decide) ?_
            refine j_iret dX8_replaceTable_71 rfl rfl ?_ (Nat.le_of_ble_eq_true rfl) (Nat.le_of_ble_eq_true rfl)
            refine ⟨rfl, (by first | exact z_cwl | rfl), ?_⟩
            try rw [sp_i1]
            exact ⟨sp_k32_0 (Or.inr (Or.inl rfl)) (fun z => z.elim (fun z => z hu) hc35), (by rw [hbl]; rfl), (sp_CWe hra hrb ht0 ht9 ht2 he0 he1 hzm3 hzm4 hzm5 ((by unfold sp_ctbS; rw [hbl]; rfl)))⟩
        · refine j_iload_n dX8_replaceTable_21 rfl ?_
          refine j_iconst (v := 5) dX8_replaceTable_22 (by decide) ?_
          refine j_icmp_ne (tgt := 30) dX8_replaceTable_23 (by decide) (fun c_23 => ?_) (fun c_23 => ?_)
          · have hnu : ¬ (r = 0 ∨ r = 1 ∨ r = 4 ∨ r = 5) := (fun z => z.elim c_8 (fun z => z.elim c_13 (fun z => z.elim c_18 c_23)))
            refine j_iconst (v := 0) dX8_replaceTable_30 (by decide) ?_
            refine j_callS dX8_replaceTable_31 kX8_checkRule lX8_112 stX8_checkRule (c_X8_checkRule_e hl _ _) (Nat.le_of_ble_eq_true rfl) ⟨(Nat.le_of_ble_eq_true rfl), (Nat.le_of_ble_eq_true rfl)⟩ rfl (Nat.le_of_ble_eq_true rfl) rfl rfl (fun _ _ h => by obtain ⟨h1, rfl⟩ := h; exact ⟨rfl, rfl, Or.inr ⟨h1.1, sp_k32_2 (Or.inr (Or.inl rfl)) (Or.inl hnu)⟩, rfl⟩) ?_
            rintro _ _ ⟨⟨rfl, hcr⟩, rfl⟩
            exact absurd rfl hcr
          · have hu : r = 0 ∨ r = 1 ∨ r = 4 ∨ r = 5 := Or.inr (Or.inr (Or.inr (c_23)))
            refine j_iconst (v := 1) dX8_replaceTable_26 (by decide) ?_
            refine j_goto (tgt := 31) dX8_replaceTable_27 (by decide) ?_
            refine j_callS dX8_replaceTable_31 kX8_checkRule lX8_112 stX8_checkRule (c_X8_checkRule_e hl _ _) (Nat.le_of_ble_eq_true rfl) ⟨(Nat.le_of_ble_eq_true rfl), (Nat.le_of_ble_eq_true rfl)⟩ rfl (Nat.le_of_ble_eq_true rfl) rfl rfl (fun _ _ h => by obtain ⟨h1, rfl⟩ := h; exact ⟨rfl, rfl, absurd h1.2 (by decide), rfl⟩) ?_
            rintro _ _ ⟨⟨rfl, hcr⟩, rfl⟩
            have hu2 : ¬ r = 2 := by rintro rfl; exact absurd hu (by decide)
            have hu3 : ¬ r = 3 := by rintro rfl; exact absurd hu (by decide)
            refine j_iload_n dX8_replaceTable_34 rfl ?_
            refine j_callS dX8_replaceTable_35 kX8_checkValue lX8_50 stX8_checkValue (c_X8_checkValue_e hl _ _) (Nat.le_of_ble_eq_true rfl) ⟨(Nat.le_of_ble_eq_true rfl), (Nat.le_of_ble_eq_true rfl)⟩ rfl (Nat.le_of_ble_eq_true rfl) rfl rfl (fun _ _ h => by obtain ⟨h1, rfl⟩ := h; exact ⟨rfl, rfl, Or.inr ⟨h1.1, sp_k32_2 (Or.inr (Or.inl rfl)) (Or.inr h1.2)⟩, rfl⟩) ?_
            rintro _ _ ⟨⟨rfl, hc35⟩, rfl⟩
            refine j_new (w' := (z_cw _ _ _ _ _ _ _ _ _ _ _ _ _ _ _ _ _ _ _ _ _ _ _ _ _ _ _ _ _ _ _ _ _ _ _ _ _ _ _ _ _ _ _ _ _ _ _ _ _ _ _ _ _ _ _ _ [.inr (10, [_, _, _, _, _])], z_no)) (n := 51) dX8_replaceTable_38 nX8_160 rfl (z_al_l rfl rfl) (Nat.le_of_ble_eq_true rfl) (Nat.le_of_ble_eq_true rfl) ?_
            refine j_dup dX8_replaceTable_41 rfl ?_
            refine j_aload dX8_replaceTable_42 rfl rfl ?_
            refine j_callI dX8_replaceTable_44 kX5_init rfl lX8_162 inX5_init rfl (z_frame [51, 16, 17, 18, 19, 20] rfl (by decide) (Nat.le_of_ble_eq_true rfl) (c_X5_init_e hl false _ _ _ _)) (Nat.le_of_ble_eq_true rfl) ⟨(Nat.le_of_ble_eq_true rfl), (Nat.le_of_ble_eq_true rfl)⟩ rfl (Nat.le_of_ble_eq_true rfl) rfl rfl (fun _ _ h => h.elim) ?_
            rintro _ _ ⟨_, _, ⟨rfl, rfl⟩, rfl, rfl⟩
            refine j_ws (L' := z_cw _ _ _ _ _ _ _ _ _ _ _ _ _ _ _ _ _ _ _ _ _ _ _ _ _ _ _ _ _ _ _ _ _ _ _ _ _ _ _ _ _ _ _ _ _ _ _ _ _ _ _ _ _ _ _ _ [.inr (10, [_, _, _, _, _])]) (by decide) rfl rfl ?_
            refine j_iload_n dX8_replaceTable_47 rfl ?_
            refine j_iload_n dX8_replaceTable_48 rfl ?_
            refine j_callS dX8_replaceTable_49 kX8_changeEach lX8_115 stX8_changeEach (z_frame [51, 16, 17, 18, 19, 20] rfl (by decide) (Nat.le_of_ble_eq_true rfl) (c_X8_changeEach_X5_c hl (z_bp (sp_C S 2) 0) _ _ false _ _ _ _ (sp_T S 1) _ _ ht1 rfl hu2 hu3 (sp_vl hc35))) (Nat.le_of_ble_eq_true rfl) ⟨(Nat.le_of_ble_eq_true rfl), (Nat.le_of_ble_eq_true rfl)⟩ rfl (Nat.le_of_ble_eq_true rfl) rfl rfl (fun _ _ h => h.elim) ?_
            rintro _ _ ⟨_, _, ⟨rfl, _, _, _, f9, ht9, rfl⟩, rfl, rfl⟩
            refine j_ws (L' := z_cw _ _ _ _ _ _ _ _ _ _ _ _ _ _ _ _ _ _ _ _ _ _ _ _ _ _ _ _ _ _ _ _ _ _ _ _ _ _ _ _ _ _ _ _ _ _ _ _ _ _ _ _ _ _ _ _ [.inr (10, [_, _, _, _, _])]) (by decide) rfl rfl ?_
            refine j_istore (lo' := [(5, _), (4, _), (0, _), (1, _), (2, _), (3, _)]) dX8_replaceTable_52 (by decide) rfl ?_
            refine j_dropL (n := 51) rfl (Nat.le_of_ble_eq_true rfl) (Nat.le_of_ble_eq_true rfl) (Nat.le_of_ble_eq_true rfl) z_cwc rfl rfl ?_
            refine j_w (z_cw _ _ _ _ _ _ _ _ _ _ _ _ _ _ _ _ _ _ _ _ _ _ _ _ _ _ _ _ _ _ _ _ _ _ _ _ _ _ _ _ _ _ _ _ _ _ _ _ _ _ _ _ _ _ _ _ [], z_no) rfl ?_
            refine j_iload dX8_replaceTable_54 rfl ?_
            refine j_if_eq (tgt := 67) dX8_replaceTable_56 (by decide) (fun c_56 => ?_) (fun c_56 => ?_)
            · have hb56 := z_bF c_56
              have hbl : (sp_ctb S 1 r n).1 = false := hb56
              refine j_aload_n dX8_replaceTable_67 rfl rfl ?_
              refine j_callV (q := (RX8, TX8, 9)) dX8_replaceTable_68 kX8_refused lX8_119 inX8_refused seX8_refused rfl rfl (z_dirF (c_X8_refused_e hl _ _ _ _ _ _ _ _ _ _ _ _ _ _ _ _ _ _ _ _ _ _ _ _ _ _ _ _ _ _ _ _ _ _ _ _ _ _ _ _ _ _ _ _ _ _ _ _ _ _ _ _ _ _ _ _)) (Nat.le_of_ble_eq_true rfl) ⟨(Nat.le_of_ble_eq_true rfl), (Nat.le_of_ble_eq_true rfl)⟩ rfl (Nat.le_of_ble_eq_true rfl) rfl rfl (fun _ _ h => h.elim) ?_
              rintro _ _ ⟨_, ⟨rfl, rfl⟩, rfl⟩
              refine j_iret dX8_replaceTable_71 rfl rfl ?_ (Nat.le_of_ble_eq_true rfl) (Nat.le_of_ble_eq_true rfl)
              refine ⟨rfl, (by first | exact z_cwl | rfl), ?_⟩
              try rw [sp_i1]
              exact ⟨sp_k32_0 (Or.inr (Or.inl rfl)) (fun z => z.elim (fun z => z hu) hc35), (by rw [hbl]; rfl), (sp_CWe hra hrb ht0 ht9 ht2 he0 he1 hzm3 hzm4 hzm5 ((by unfold sp_ctbS; rw [hbl]; rfl)))⟩
            · have hb56 := z_bt c_56
              have hbl : (sp_ctb S 1 r n).1 = true := hb56
              refine j_aload dX8_replaceTable_59 rfl rfl ?_
              refine j_getf dX8_replaceTable_61 fX8_165 rfl rfl ?_
              refine j_goto (tgt := 71) dX8_replaceTable_64 (by decide) ?_
              refine j_iret dX8_replaceTable_71 rfl rfl ?_ (Nat.le_of_ble_eq_true rfl) (Nat.le_of_ble_eq_true rfl)
              refine ⟨rfl, (by first | exact z_cwl | rfl), ?_⟩
              try rw [sp_i1]
              exact ⟨sp_k32_0 (Or.inr (Or.inl rfl)) (fun z => z.elim (fun z => z hu) hc35), (by rw [hbl]; rfl), (sp_CWe hra hrb ht0 ht9 ht2 he0 he1 hzm3 hzm4 hzm5 ((by unfold sp_ctbS; rw [hbl]; rfl)))⟩
  · subst e_2
    refine j_astore (lo' := [(4, _), (0, _), (1, _), (2, _), (3, _)]) dX8_replaceTable_5 rfl (by decide) rfl ?_
    refine j_iload_n dX8_replaceTable_7 rfl ?_
    refine j_if_eq (tgt := 26) dX8_replaceTable_8 (by decide) (fun c_8 => ?_) (fun c_8 => ?_)
    · have hu : r = 0 ∨ r = 1 ∨ r = 4 ∨ r = 5 := Or.inl c_8
      refine j_iconst (v := 1) dX8_replaceTable_26 (by decide) ?_
      refine j_goto (tgt := 31) dX8_replaceTable_27 (by decide) ?_
      refine j_callS dX8_replaceTable_31 kX8_checkRule lX8_112 stX8_checkRule (c_X8_checkRule_e hl _ _) (Nat.le_of_ble_eq_true rfl) ⟨(Nat.le_of_ble_eq_true rfl), (Nat.le_of_ble_eq_true rfl)⟩ rfl (Nat.le_of_ble_eq_true rfl) rfl rfl (fun _ _ h => by obtain ⟨h1, rfl⟩ := h; exact ⟨rfl, rfl, absurd h1.2 (by decide), rfl⟩) ?_
      rintro _ _ ⟨⟨rfl, hcr⟩, rfl⟩
      have hu2 : ¬ r = 2 := by rintro rfl; exact absurd hu (by decide)
      have hu3 : ¬ r = 3 := by rintro rfl; exact absurd hu (by decide)
      refine j_iload_n dX8_replaceTable_34 rfl ?_
      refine j_callS dX8_replaceTable_35 kX8_checkValue lX8_50 stX8_checkValue (c_X8_checkValue_e hl _ _) (Nat.le_of_ble_eq_true rfl) ⟨(Nat.le_of_ble_eq_true rfl), (Nat.le_of_ble_eq_true rfl)⟩ rfl (Nat.le_of_ble_eq_true rfl) rfl rfl (fun _ _ h => by obtain ⟨h1, rfl⟩ := h; exact ⟨rfl, rfl, Or.inr ⟨h1.1, sp_k32_2 (Or.inr (Or.inr rfl)) (Or.inr h1.2)⟩, rfl⟩) ?_
      rintro _ _ ⟨⟨rfl, hc35⟩, rfl⟩
      refine j_new (w' := (z_cw _ _ _ _ _ _ _ _ _ _ _ _ _ _ _ _ _ _ _ _ _ _ _ _ _ _ _ _ _ _ _ _ _ _ _ _ _ _ _ _ _ _ _ _ _ _ _ _ _ _ _ _ _ _ _ _ [.inr (10, [_, _, _, _, _])], z_no)) (n := 51) dX8_replaceTable_38 nX8_160 rfl (z_al_l rfl rfl) (Nat.le_of_ble_eq_true rfl) (Nat.le_of_ble_eq_true rfl) ?_
      refine j_dup dX8_replaceTable_41 rfl ?_
      refine j_aload dX8_replaceTable_42 rfl rfl ?_
      refine j_callI dX8_replaceTable_44 kX5_init rfl lX8_162 inX5_init rfl (z_frame [51, 21, 22, 23, 24, 25] rfl (by decide) (Nat.le_of_ble_eq_true rfl) (c_X5_init_e hl true _ _ _ _)) (Nat.le_of_ble_eq_true rfl) ⟨(Nat.le_of_ble_eq_true rfl), (Nat.le_of_ble_eq_true rfl)⟩ rfl (Nat.le_of_ble_eq_true rfl) rfl rfl (fun _ _ h => h.elim) ?_
      rintro _ _ ⟨_, _, ⟨rfl, rfl⟩, rfl, rfl⟩
      refine j_ws (L' := z_cw _ _ _ _ _ _ _ _ _ _ _ _ _ _ _ _ _ _ _ _ _ _ _ _ _ _ _ _ _ _ _ _ _ _ _ _ _ _ _ _ _ _ _ _ _ _ _ _ _ _ _ _ _ _ _ _ [.inr (10, [_, _, _, _, _])]) (by decide) rfl rfl ?_
      refine j_iload_n dX8_replaceTable_47 rfl ?_
      refine j_iload_n dX8_replaceTable_48 rfl ?_
      refine j_callS dX8_replaceTable_49 kX8_changeEach lX8_115 stX8_changeEach (z_frame [51, 21, 22, 23, 24, 25] rfl (by decide) (Nat.le_of_ble_eq_true rfl) (c_X8_changeEach_X5_c hl (z_bp (sp_C S 2) 0) _ _ true _ _ _ _ (sp_T S 2) _ _ ht2 rfl hu2 hu3 (sp_vl hc35))) (Nat.le_of_ble_eq_true rfl) ⟨(Nat.le_of_ble_eq_true rfl), (Nat.le_of_ble_eq_true rfl)⟩ rfl (Nat.le_of_ble_eq_true rfl) rfl rfl (fun _ _ h => h.elim) ?_
      rintro _ _ ⟨_, _, ⟨rfl, _, _, _, f9, ht9, rfl⟩, rfl, rfl⟩
      refine j_ws (L' := z_cw _ _ _ _ _ _ _ _ _ _ _ _ _ _ _ _ _ _ _ _ _ _ _ _ _ _ _ _ _ _ _ _ _ _ _ _ _ _ _ _ _ _ _ _ _ _ _ _ _ _ _ _ _ _ _ _ [.inr (10, [_, _, _, _, _])]) (by decide) rfl rfl ?_
      refine j_istore (lo' := [(5, _), (4, _), (0, _), (1, _), (2, _), (3, _)]) dX8_replaceTable_52 (by decide) rfl ?_
      refine j_dropL (n := 51) rfl (Nat.le_of_ble_eq_true rfl) (Nat.le_of_ble_eq_true rfl) (Nat.le_of_ble_eq_true rfl) z_cwc rfl rfl ?_
      refine j_w (z_cw _ _ _ _ _ _ _ _ _ _ _ _ _ _ _ _ _ _ _ _ _ _ _ _ _ _ _ _ _ _ _ _ _ _ _ _ _ _ _ _ _ _ _ _ _ _ _ _ _ _ _ _ _ _ _ _ [], z_no) rfl ?_
      refine j_iload dX8_replaceTable_54 rfl ?_
      refine j_if_eq (tgt := 67) dX8_replaceTable_56 (by decide) (fun c_56 => ?_) (fun c_56 => ?_)
      · have hb56 := z_bF c_56
        have hbl : (sp_ctb S 2 r n).1 = false := hb56
        refine j_aload_n dX8_replaceTable_67 rfl rfl ?_
        refine j_callV (q := (RX8, TX8, 9)) dX8_replaceTable_68 kX8_refused lX8_119 inX8_refused seX8_refused rfl rfl (z_dirF (c_X8_refused_e hl _ _ _ _ _ _ _ _ _ _ _ _ _ _ _ _ _ _ _ _ _ _ _ _ _ _ _ _ _ _ _ _ _ _ _ _ _ _ _ _ _ _ _ _ _ _ _ _ _ _ _ _ _ _ _ _)) (Nat.le_of_ble_eq_true rfl) ⟨(Nat.le_of_ble_eq_true rfl), (Nat.le_of_ble_eq_true rfl)⟩ rfl (Nat.le_of_ble_eq_true rfl) rfl rfl (fun _ _ h => h.elim) ?_
        rintro _ _ ⟨_, ⟨rfl, rfl⟩, rfl⟩
        refine j_iret dX8_replaceTable_71 rfl rfl ?_ (Nat.le_of_ble_eq_true rfl) (Nat.le_of_ble_eq_true rfl)
        refine ⟨rfl, (by first | exact z_cwl | rfl), ?_⟩
        try rw [sp_i2]
        exact ⟨sp_k32_0 (Or.inr (Or.inr rfl)) (fun z => z.elim (fun z => z hu) hc35), (by rw [hbl]; rfl), (sp_CWe hra hrb ht0 ht1 ht9 he0 he1 hzm3 hzm4 hzm5 ((by unfold sp_ctbS; rw [hbl]; rfl)))⟩
      · have hb56 := z_bt c_56
        have hbl : (sp_ctb S 2 r n).1 = true := hb56
        refine j_aload dX8_replaceTable_59 rfl rfl ?_
        refine j_getf dX8_replaceTable_61 fX8_165 rfl rfl ?_
        refine j_goto (tgt := 71) dX8_replaceTable_64 (by decide) ?_
        refine j_iret dX8_replaceTable_71 rfl rfl ?_ (Nat.le_of_ble_eq_true rfl) (Nat.le_of_ble_eq_true rfl)
        refine ⟨rfl, (by first | exact z_cwl | rfl), ?_⟩
        try rw [sp_i2]
        exact ⟨sp_k32_0 (Or.inr (Or.inr rfl)) (fun z => z.elim (fun z => z hu) hc35), (by rw [hbl]; rfl), (sp_CWe hra hrb ht0 ht1 ht9 he0 he1 hzm3 hzm4 hzm5 ((by unfold sp_ctbS; rw [hbl]; rfl)))⟩
    · refine j_iload_n dX8_replaceTable_11 rfl ?_
      refine j_iconst (v := 1) dX8_replaceTable_12 (by decide) ?_
      refine j_icmp_eq (tgt := 26) dX8_replaceTable_13 (by decide) (fun c_13 => ?_) (fun c_13 => ?_)
      · have hu : r = 0 ∨ r = 1 ∨ r = 4 ∨ r = 5 := Or.inr (Or.inl c_13)
        refine j_iconst (v := 1) dX8_replaceTable_26 (by decide) ?_
        refine j_goto (tgt := 31) dX8_replaceTable_27 (by decide) ?_
        refine j_callS dX8_replaceTable_31 kX8_checkRule lX8_112 stX8_checkRule (c_X8_checkRule_e hl _ _) (Nat.le_of_ble_eq_true rfl) ⟨(Nat.le_of_ble_eq_true rfl), (Nat.le_of_ble_eq_true rfl)⟩ rfl (Nat.le_of_ble_eq_true rfl) rfl rfl (fun _ _ h => by obtain ⟨h1, rfl⟩ := h; exact ⟨rfl, rfl, absurd h1.2 (by decide), rfl⟩) ?_
        rintro _ _ ⟨⟨rfl, hcr⟩, rfl⟩
        have hu2 : ¬ r = 2 := by rintro rfl; exact absurd hu (by decide)
        have hu3 : ¬ r = 3 := by rintro rfl; exact absurd hu (by decide)
        refine j_iload_n dX8_replaceTable_34 rfl ?_
        refine j_callS dX8_replaceTable_35 kX8_checkValue lX8_50 stX8_checkValue (c_X8_checkValue_e hl _ _) (Nat.le_of_ble_eq_true rfl) ⟨(Nat.le_of_ble_eq_true rfl), (Nat.le_of_ble_eq_true rfl)⟩ rfl (Nat.le_of_ble_eq_true rfl) rfl rfl (fun _ _ h => by obtain ⟨h1, rfl⟩ := h; exact ⟨rfl, rfl, Or.inr ⟨h1.1, sp_k32_2 (Or.inr (Or.inr rfl)) (Or.inr h1.2)⟩, rfl⟩) ?_
        rintro _ _ ⟨⟨rfl, hc35⟩, rfl⟩
        refine j_new (w' := (z_cw _ _ _ _ _ _ _ _ _ _ _ _ _ _ _ _ _ _ _ _ _ _ _ _ _ _ _ _ _ _ _ _ _ _ _ _ _ _ _ _ _ _ _ _ _ _ _ _ _ _ _ _ _ _ _ _ [.inr (10, [_, _, _, _, _])], z_no)) (n := 51) dX8_replaceTable_38 nX8_160 rfl (z_al_l rfl rfl) (Nat.le_of_ble_eq_true rfl) (Nat.le_of_ble_eq_true rfl) ?_
        refine j_dup dX8_replaceTable_41 rfl ?_
        refine j_aload dX8_replaceTable_42 rfl rfl ?_
        refine j_callI dX8_replaceTable_44 kX5_init rfl lX8_162 inX5_init rfl (z_frame [51, 21, 22, 23, 24, 25] rfl (by decide) (Nat.le_of_ble_eq_true rfl) (c_X5_init_e hl true _ _ _ _)) (Nat.le_of_ble_eq_true rfl) ⟨(Nat.le_of_ble_eq_true rfl), (Nat.le_of_ble_eq_true rfl)⟩ rfl (Nat.le_of_ble_eq_true rfl) rfl rfl (fun _ _ h => h.elim) ?_
        rintro _ _ ⟨_, _, ⟨rfl, rfl⟩, rfl, rfl⟩
        refine j_ws (L' := z_cw _ _ _ _ _ _ _ _ _ _ _ _ _ _ _ _ _ _ _ _ _ _ _ _ _ _ _ _ _ _ _ _ _ _ _ _ _ _ _ _ _ _ _ _ _ _ _ _ _ _ _ _ _ _ _ _ [.inr (10, [_, _, _, _, _])]) (by decide) rfl rfl ?_
        refine j_iload_n dX8_replaceTable_47 rfl ?_
        refine j_iload_n dX8_replaceTable_48 rfl ?_
        refine j_callS dX8_replaceTable_49 kX8_changeEach lX8_115 stX8_changeEach (z_frame [51, 21, 22, 23, 24, 25] rfl (by decide) (Nat.le_of_ble_eq_true rfl) (c_X8_changeEach_X5_c hl (z_bp (sp_C S 2) 0) _ _ true _ _ _ _ (sp_T S 2) _ _ ht2 rfl hu2 hu3 (sp_vl hc35))) (Nat.le_of_ble_eq_true rfl) ⟨(Nat.le_of_ble_eq_true rfl), (Nat.le_of_ble_eq_true rfl)⟩ rfl (Nat.le_of_ble_eq_true rfl) rfl rfl (fun _ _ h => h.elim) ?_
        rintro _ _ ⟨_, _, ⟨rfl, _, _, _, f9, ht9, rfl⟩, rfl, rfl⟩
        refine j_ws (L' := z_cw _ _ _ _ _ _ _ _ _ _ _ _ _ _ _ _ _ _ _ _ _ _ _ _ _ _ _ _ _ _ _ _ _ _ _ _ _ _ _ _ _ _ _ _ _ _ _ _ _ _ _ _ _ _ _ _ [.inr (10, [_, _, _, _, _])]) (by decide) rfl rfl ?_
        refine j_istore (lo' := [(5, _), (4, _), (0, _), (1, _), (2, _), (3, _)]) dX8_replaceTable_52 (by decide) rfl ?_
        refine j_dropL (n := 51) rfl (Nat.le_of_ble_eq_true rfl) (Nat.le_of_ble_eq_true rfl) (Nat.le_of_ble_eq_true rfl) z_cwc rfl rfl ?_
        refine j_w (z_cw _ _ _ _ _ _ _ _ _ _ _ _ _ _ _ _ _ _ _ _ _ _ _ _ _ _ _ _ _ _ _ _ _ _ _ _ _ _ _ _ _ _ _ _ _ _ _ _ _ _ _ _ _ _ _ _ [], z_no) rfl ?_
        refine j_iload dX8_replaceTable_54 rfl ?_
        refine j_if_eq (tgt := 67) dX8_replaceTable_56 (by decide) (fun c_56 => ?_) (fun c_56 => ?_)
        · have hb56 := z_bF c_56
          have hbl : (sp_ctb S 2 r n).1 = false := hb56
          refine j_aload_n dX8_replaceTable_67 rfl rfl ?_
          refine j_callV (q := (RX8, TX8, 9)) dX8_replaceTable_68 kX8_refused lX8_119 inX8_refused seX8_refused rfl rfl (z_dirF (c_X8_refused_e hl _ _ _ _ _ _ _ _ _ _ _ _ _ _ _ _ _ _ _ _ _ _ _ _ _ _ _ _ _ _ _ _ _ _ _ _ _ _ _ _ _ _ _ _ _ _ _ _ _ _ _ _ _ _ _ _)) (Nat.le_of_ble_eq_true rfl) ⟨(Nat.le_of_ble_eq_true rfl), (Nat.le_of_ble_eq_true rfl)⟩ rfl (Nat.le_of_ble_eq_true rfl) rfl rfl (fun _ _ h => h.elim) ?_
          rintro _ _ ⟨_, ⟨rfl, rfl⟩, rfl⟩
          refine j_iret dX8_replaceTable_71 rfl rfl ?_ (Nat.le_of_ble_eq_true rfl) (Nat.le_of_ble_eq_true rfl)
          refine ⟨rfl, (by first | exact z_cwl | rfl), ?_⟩
          try rw [sp_i2]
          exact ⟨sp_k32_0 (Or.inr (Or.inr rfl)) (fun z => z.elim (fun z => z hu) hc35), (by rw [hbl]; rfl), (sp_CWe hra hrb ht0 ht1 ht9 he0 he1 hzm3 hzm4 hzm5 ((by unfold sp_ctbS; rw [hbl]; rfl)))⟩
        · have hb56 := z_bt c_56
          have hbl : (sp_ctb S 2 r n).1 = true := hb56
          refine j_aload dX8_replaceTable_59 rfl rfl ?_
          refine j_getf dX8_replaceTable_61 fX8_165 rfl rfl ?_
          refine j_goto (tgt := 71) dX8_replaceTable_64 (by decide) ?_
          refine j_iret dX8_replaceTable_71 rfl rfl ?_ (Nat.le_of_ble_eq_true rfl) (Nat.le_of_ble_eq_true rfl)
          refine ⟨rfl, (by first | exact z_cwl | rfl), ?_⟩
          try rw [sp_i2]
          exact ⟨sp_k32_0 (Or.inr (Or.inr rfl)) (fun z => z.elim (fun z => z hu) hc35), (by rw [hbl]; rfl), (sp_CWe hra hrb ht0 ht1 ht9 he0 he1 hzm3 hzm4 hzm5 ((by unfold sp_ctbS; rw [hbl]; rfl)))⟩
      · refine j_iload_n dX8_replaceTable_16 rfl ?_
        refine j_iconst (v := 4) dX8_replaceTable_17 (by decide) ?_
        refine j_icmp_eq (tgt := 26) dX8_replaceTable_18 (by decide) (fun c_18 => ?_) (fun c_18 => ?_)
        · have hu : r = 0 ∨ r = 1 ∨ r = 4 ∨ r = 5 := Or.inr (Or.inr (Or.inl c_18))
          refine j_iconst (v := 1) dX8_replaceTable_26 (by decide) ?_
          refine j_goto (tgt := 31) dX8_replaceTable_27 (by decide) ?_
          refine j_callS dX8_replaceTable_31 kX8_checkRule lX8_112 stX8_checkRule (c_X8_checkRule_e hl _ _) (Nat.le_of_ble_eq_true rfl) ⟨(Nat.le_of_ble_eq_true rfl), (Nat.le_of_ble_eq_true rfl)⟩ rfl (Nat.le_of_ble_eq_true rfl) rfl rfl (fun _ _ h => by obtain ⟨h1, rfl⟩ := h; exact ⟨rfl, rfl, absurd h1.2 (by decide), rfl⟩) ?_
          rintro _ _ ⟨⟨rfl, hcr⟩, rfl⟩
          have hu2 : ¬ r = 2 := by rintro rfl; exact absurd hu (by decide)
          have hu3 : ¬ r = 3 := by rintro rfl; exact absurd hu (by decide)
          refine j_iload_n dX8_replaceTable_34 rfl ?_
          refine j_callS dX8_replaceTable_35 kX8_checkValue lX8_50 stX8_checkValue (c_X8_checkValue_e hl _ _) (Nat.le_of_ble_eq_true rfl) ⟨(Nat.le_of_ble_eq_true rfl), (Nat.le_of_ble_eq_true rfl)⟩ rfl (Nat.le_of_ble_eq_true rfl) rfl rfl (fun _ _ h => by obtain ⟨h1, rfl⟩ := h; exact ⟨rfl, rfl, Or.inr ⟨h1.1, sp_k32_2 (Or.inr (Or.inr rfl)) (Or.inr h1.2)⟩, rfl⟩) ?_
          rintro _ _ ⟨⟨rfl, hc35⟩, rfl⟩
          refine j_new (w' := (z_cw _ _ _ _ _ _ _ _ _ _ _ _ _ _ _ _ _ _ _ _ _ _ _ _ _ _ _ _ _ _ _ _ _ _ _ _ _ _ _ _ _ _ _ _ _ _ _ _ _ _ _ _ _ _ _ _ [.inr (10, [_, _, _, _, _])], z_no)) (n := 51) dX8_replaceTable_38 nX8_160 rfl (z_al_l rfl rfl) (Nat.le_of_ble_eq_true rfl) (Nat.le_of_ble_eq_true rfl) ?_
          refine j_dup dX8_replaceTable_41 rfl ?_
          refine j_aload dX8_replaceTable_42 rfl rfl ?_
          refine j_callI dX8_replaceTable_44 kX5_init rfl lX8_162 inX5_init rfl (z_frame [51, 21, 22, 23, 24, 25] rfl (by decide) (Nat.le_of_ble_eq_true rfl) (c_X5_init_e hl true _ _ _ _)) (Nat.le_of_ble_eq_true rfl) ⟨(Nat.le_of_ble_eq_true rfl), (Nat.le_of_ble_eq_true rfl)⟩ rfl (Nat.le_of_ble_eq_true rfl) rfl rfl (fun _ _ h => h.elim) ?_
          rintro _ _ ⟨_, _, ⟨rfl, rfl⟩, rfl, rfl⟩
          refine j_ws (L' := z_cw _ _ _ _ _ _ _ _ _ _ _ _ _ _ _ _ _ _ _ _ _ _ _ _ _ _ _ _ _ _ _ _ _ _ _ _ _ _ _ _ _ _ _ _ _ _ _ _ _ _ _ _ _ _ _ _ [.inr (10, [_, _, _, _, _])]) (by decide) rfl rfl ?_
          refine j_iload_n dX8_replaceTable_47 rfl ?_
          refine j_iload_n dX8_replaceTable_48 rfl ?_
          refine j_callS dX8_replaceTable_49 kX8_changeEach lX8_115 stX8_changeEach (z_frame [51, 21, 22, 23, 24, 25] rfl (by decide) (Nat.le_of_ble_eq_true rfl) (c_X8_changeEach_X5_c hl (z_bp (sp_C S 2) 0) _ _ true _ _ _ _ (sp_T S 2) _ _ ht2 rfl hu2 hu3 (sp_vl hc35))) (Nat.le_of_ble_eq_true rfl) ⟨(Nat.le_of_ble_eq_true rfl), (Nat.le_of_ble_eq_true rfl)⟩ rfl (Nat.le_of_ble_eq_true rfl) rfl rfl (fun _ _ h => h.elim) ?_
          rintro _ _ ⟨_, _, ⟨rfl, _, _, _, f9, ht9, rfl⟩, rfl, rfl⟩
          refine j_ws (L' := z_cw _ _ _ _ _ _ _ _ _ _ _ _ _ _ _ _ _ _ _ _ _ _ _ _ _ _ _ _ _ _ _ _ _ _ _ _ _ _ _ _ _ _ _ _ _ _ _ _ _ _ _ _ _ _ _ _ [.inr (10, [_, _, _, _, _])]) (by decide) rfl rfl ?_
          refine j_istore (lo' := [(5, _), (4, _), (0, _), (1, _), (2, _), (3, _)]) dX8_replaceTable_52 (by decide) rfl ?_
          refine j_dropL (n := 51) rfl (Nat.le_of_ble_eq_true rfl) (Nat.le_of_ble_eq_true rfl) (Nat.le_of_ble_eq_true rfl) z_cwc rfl rfl ?_
          refine j_w (z_cw _ _ _ _ _ _ _ _ _ _ _ _ _ _ _ _ _ _ _ _ _ _ _ _ _ _ _ _ _ _ _ _ _ _ _ _ _ _ _ _ _ _ _ _ _ _ _ _ _ _ _ _ _ _ _ _ [], z_no) rfl ?_
          refine j_iload dX8_replaceTable_54 rfl ?_
          refine j_if_eq (tgt := 67) dX8_replaceTable_56 (by decide) (fun c_56 => ?_) (fun c_56 => ?_)
          · have hb56 := z_bF c_56
            have hbl : (sp_ctb S 2 r n).1 = false := hb56
            refine j_aload_n dX8_replaceTable_67 rfl rfl ?_
            refine j_callV (q := (RX8, TX8, 9)) dX8_replaceTable_68 kX8_refused lX8_119 inX8_refused seX8_refused rfl rfl (z_dirF (c_X8_refused_e hl _ _ _ _ _ _ _ _ _ _ _ _ _ _ _ _ _ _ _ _ _ _ _ _ _ _ _ _ _ _ _ _ _ _ _ _ _ _ _ _ _ _ _ _ _ _ _ _ _ _ _ _ _ _ _ _)) (Nat.le_of_ble_eq_true rfl) ⟨(Nat.le_of_ble_eq_true rfl), (Nat.le_of_ble_eq_true rfl)⟩ rfl (Nat.le_of_ble_eq_true rfl) rfl rfl (fun _ _ h => h.elim) ?_
            rintro _ _ ⟨_, ⟨rfl, rfl⟩, rfl⟩
            refine j_iret dX8_replaceTable_71 rfl rfl ?_ (Nat.le_of_ble_eq_true rfl) (Nat.le_of_ble_eq_true rfl)
            refine ⟨rfl, (by first | exact z_cwl | rfl), ?_⟩
            try rw [sp_i2]
            exact ⟨sp_k32_0 (Or.inr (Or.inr rfl)) (fun z => z.elim (fun z => z hu) hc35), (by rw [hbl]; rfl), (sp_CWe hra hrb ht0 ht1 ht9 he0 he1 hzm3 hzm4 hzm5 ((by unfold sp_ctbS; rw [hbl]; rfl)))⟩
          · have hb56 := z_bt c_56
            have hbl : (sp_ctb S 2 r n).1 = true := hb56
            refine j_aload dX8_replaceTable_59 rfl rfl ?_
            refine j_getf dX8_replaceTable_61 fX8_165 rfl rfl ?_
            refine j_goto (tgt := 71) dX8_replaceTable_64 (by decide) ?_
            refine j_iret dX8_replaceTable_71 rfl rfl ?_ (Nat.le_of_ble_eq_true rfl) (Nat.le_of_ble_eq_true rfl)
            refine ⟨rfl, (by first | exact z_cwl | rfl), ?_⟩
            try rw [sp_i2]
            exact ⟨sp_k32_0 (Or.inr (Or.inr rfl)) (fun z => z.elim (fun z => z hu) hc35), (by rw [hbl]; rfl), (sp_CWe hra hrb ht0 ht1 ht9 he0 he1 hzm3 hzm4 hzm5 ((by unfold sp_ctbS; rw [hbl]; rfl)))⟩
        · refine j_iload_n dX8_replaceTable_21 rfl ?_
          refine j_iconst (v := 5) dX8_replaceTable_22 (by decide) ?_
          refine j_icmp_ne (tgt := 30) dX8_replaceTable_23 (by decide) (fun c_23 => ?_) (fun c_23 => ?_)
          · have hnu : ¬ (r = 0 ∨ r = 1 ∨ r = 4 ∨ r = 5) := (fun z => z.elim c_8 (fun z => z.elim c_13 (fun z => z.elim c_18 c_23)))
            refine j_iconst (v := 0) dX8_replaceTable_30 (by decide) ?_
            refine j_callS dX8_replaceTable_31 kX8_checkRule lX8_112 stX8_checkRule (c_X8_checkRule_e hl _ _) (Nat.le_of_ble_eq_true rfl) ⟨(Nat.le_of_ble_eq_true rfl), (Nat.le_of_ble_eq_true rfl)⟩ rfl (Nat.le_of_ble_eq_true rfl) rfl rfl (fun _ _ h => by obtain ⟨h1, rfl⟩ := h; exact ⟨rfl, rfl, Or.inr ⟨h1.1, sp_k32_2 (Or.inr (Or.inr rfl)) (Or.inl hnu)⟩, rfl⟩) ?_
            rintro _ _ ⟨⟨rfl, hcr⟩, rfl⟩
            exact absurd rfl hcr
          · have hu : r = 0 ∨ r = 1 ∨ r = 4 ∨ r = 5 := Or.inr (Or.inr (Or.inr (c_23)))
            refine j_iconst (v := 1) dX8_replaceTable_26 (by decide) ?_
            refine j_goto (tgt := 31) dX8_replaceTable_27 (by decide) ?_
            refine j_callS dX8_replaceTable_31 kX8_checkRule lX8_112 stX8_checkRule (c_X8_checkRule_e hl _ _) (Nat.le_of_ble_eq_true rfl) ⟨(Nat.le_of_ble_eq_true rfl), (Nat.le_of_ble_eq_true rfl)⟩ rfl (Nat.le_of_ble_eq_true rfl) rfl rfl (fun _ _ h => by obtain ⟨h1, rfl⟩ := h; exact ⟨rfl, rfl, absurd h1.2 (by decide), rfl⟩) ?_
            rintro _ _ ⟨⟨rfl, hcr⟩, rfl⟩
            have hu2 : ¬ r = 2 := by rintro rfl; exact absurd hu (by decide)
            have hu3 : ¬ r = 3 := by rintro rfl; exact absurd hu (by decide)
            refine j_iload_n dX8_replaceTable_34 rfl ?_
            refine j_callS dX8_replaceTable_35 kX8_checkValue lX8_50 stX8_checkValue (c_X8_checkValue_e hl _ _) (Nat.le_of_ble_eq_true rfl) ⟨(Nat.le_of_ble_eq_true rfl), (Nat.le_of_ble_eq_true rfl)⟩ rfl (Nat.le_of_ble_eq_true rfl) rfl rfl (fun _ _ h => by obtain ⟨h1, rfl⟩ := h; exact ⟨rfl, rfl, Or.inr ⟨h1.1, sp_k32_2 (Or.inr (Or.inr rfl)) (Or.inr h1.2)⟩, rfl⟩) ?_
            rintro _ _ ⟨⟨rfl, hc35⟩, rfl⟩
            refine j_new (w' := (z_cw _ _ _ _ _ _ _ _ _ _ _ _ _ _ _ _ _ _ _ _ _ _ _ _ _ _ _ _ _ _ _ _ _ _ _ _ _ _ _ _ _ _ _ _ _ _ _ _ _ _ _ _ _ _ _ _ [.inr (10, [_, _, _, _, _])], z_no)) (n := 51) dX8_replaceTable_38 nX8_160 rfl (z_al_l rfl rfl) (Nat.le_of_ble_eq_true rfl) (Nat.le_of_ble_eq_true rfl) ?_
            refine j_dup dX8_replaceTable_41 rfl ?_
            refine j_aload dX8_replaceTable_42 rfl rfl ?_
            refine j_callI dX8_replaceTable_44 kX5_init rfl lX8_162 inX5_init rfl (z_frame [51, 21, 22, 23, 24, 25] rfl (by decide) (Nat.le_of_ble_eq_true rfl) (c_X5_init_e hl true _ _ _ _)) (Nat.le_of_ble_eq_true rfl) ⟨(Nat.le_of_ble_eq_true rfl), (Nat.le_of_ble_eq_true rfl)⟩ rfl (Nat.le_of_ble_eq_true rfl) rfl rfl (fun _ _ h => h.elim) ?_
            rintro _ _ ⟨_, _, ⟨rfl, rfl⟩, rfl, rfl⟩
            refine j_ws (L' := z_cw _ _ _ _ _ _ _ _ _ _ _ _ _ _ _ _ _ _ _ _ _ _ _ _ _ _ _ _ _ _ _ _ _ _ _ _ _ _ _ _ _ _ _ _ _ _ _ _ _ _ _ _ _ _ _ _ [.inr (10, [_, _, _, _, _])]) (by decide) rfl rfl ?_
            refine j_iload_n dX8_replaceTable_47 rfl ?_
            refine j_iload_n dX8_replaceTable_48 rfl ?_
            refine j_callS dX8_replaceTable_49 kX8_changeEach lX8_115 stX8_changeEach (z_frame [51, 21, 22, 23, 24, 25] rfl (by decide) (Nat.le_of_ble_eq_true rfl) (c_X8_changeEach_X5_c hl (z_bp (sp_C S 2) 0) _ _ true _ _ _ _ (sp_T S 2) _ _ ht2 rfl hu2 hu3 (sp_vl hc35))) (Nat.le_of_ble_eq_true rfl) ⟨(Nat.le_of_ble_eq_true rfl), (Nat.le_of_ble_eq_true rfl)⟩ rfl (Nat.le_of_ble_eq_true rfl) rfl rfl (fun _ _ h => h.elim) ?_
            rintro _ _ ⟨_, _, ⟨rfl, _, _, _, f9, ht9, rfl⟩, rfl, rfl⟩
            refine j_ws (L' := z_cw _ _ _ _ _ _ _ _ _ _ _ _ _ _ _ _ _ _ _ _ _ _ _ _ _ _ _ _ _ _ _ _ _ _ _ _ _ _ _ _ _ _ _ _ _ _ _ _ _ _ _ _ _ _ _ _ [.inr (10, [_, _, _, _, _])]) (by decide) rfl rfl ?_
            refine j_istore (lo' := [(5, _), (4, _), (0, _), (1, _), (2, _), (3, _)]) dX8_replaceTable_52 (by decide) rfl ?_
            refine j_dropL (n := 51) rfl (Nat.le_of_ble_eq_true rfl) (Nat.le_of_ble_eq_true rfl) (Nat.le_of_ble_eq_true rfl) z_cwc rfl rfl ?_
            refine j_w (z_cw _ _ _ _ _ _ _ _ _ _ _ _ _ _ _ _ _ _ _ _ _ _ _ _ _ _ _ _ _ _ _ _ _ _ _ _ _ _ _ _ _ _ _ _ _ _ _ _ _ _ _ _ _ _ _ _ [], z_no) rfl ?_
            refine j_iload dX8_replaceTable_54 rfl ?_
            refine j_if_eq (tgt := 67) dX8_replaceTable_56 (by decide) (fun c_56 => ?_) (fun c_56 => ?_)
            · have hb56 := z_bF c_56
              have hbl : (sp_ctb S 2 r n).1 = false := hb56
              refine j_aload_n dX8_replaceTable_67 rfl rfl ?_
              refine j_callV (q := (RX8, TX8, 9)) dX8_replaceTable_68 kX8_refused lX8_119 inX8_refused seX8_refused rfl rfl (z_dirF (c_X8_refused_e hl _ _ _ _ _ _ _ _ _ _ _ _ _ _ _ _ _ _ _ _ _ _ _ _ _ _ _ _ _ _ _ _ _ _ _ _ _ _ _ _ _ _ _ _ _ _ _ _ _ _ _ _ _ _ _ _)) (Nat.le_of_ble_eq_true rfl) ⟨(Nat.le_of_ble_eq_true rfl), (Nat.le_of_ble_eq_true rfl)⟩ rfl (Nat.le_of_ble_eq_true rfl) rfl rfl (fun _ _ h => h.elim) ?_
              rintro _ _ ⟨_, ⟨rfl, rfl⟩, rfl⟩
              refine j_iret dX8_replaceTable_71 rfl rfl ?_ (Nat.le_of_ble_eq_true rfl) (Nat.le_of_ble_eq_true rfl)
              refine ⟨rfl, (by first | exact z_cwl | rfl), ?_⟩
              try rw [sp_i2]
              exact ⟨sp_k32_0 (Or.inr (Or.inr rfl)) (fun z => z.elim (fun z => z hu) hc35), (by rw [hbl]; rfl), (sp_CWe hra hrb ht0 ht1 ht9 he0 he1 hzm3 hzm4 hzm5 ((by unfold sp_ctbS; rw [hbl]; rfl)))⟩
            · have hb56 := z_bt c_56
              have hbl : (sp_ctb S 2 r n).1 = true := hb56
              refine j_aload dX8_replaceTable_59 rfl rfl ?_
              refine j_getf dX8_replaceTable_61 fX8_165 rfl rfl ?_
              refine j_goto (tgt := 71) dX8_replaceTable_64 (by decide) ?_
              refine j_iret dX8_replaceTable_71 rfl rfl ?_ (Nat.le_of_ble_eq_true rfl) (Nat.le_of_ble_eq_true rfl)
              refine ⟨rfl, (by first | exact z_cwl | rfl), ?_⟩
              try rw [sp_i2]
              exact ⟨sp_k32_0 (Or.inr (Or.inr rfl)) (fun z => z.elim (fun z => z hu) hc35), (by rw [hbl]; rfl), (sp_CWe hra hrb ht0 ht1 ht9 he0 he1 hzm3 hzm4 hzm5 ((by unfold sp_ctbS; rw [hbl]; rfl)))⟩
set_option maxRecDepth 100000 in
set_option maxHeartbeats 8000000 in
theorem c_X8_clear_p (hl : l.stackTraces = false) (S : sp_S) (fa : Nat → Int32) (fb : Nat → Int32) (mt : Int32) (ft : Nat → Int32) (ct : Nat → Int32) (f0 : Nat → Int32) (g0 : Nat → Int32) (f1 : Nat → Int32) (g1 : Nat → Int32) (c1 : Nat → Int32) (f2 : Nat → Int32) (g2 : Nat → Int32) (c2 : Nat → Int32) (f3 : Nat → Int32) (g3 : Nat → Int32) (c3 : Nat → Int32) (m3 : Int32) (f4 : Nat → Int32) (g4 : Nat → Int32) (c4 : Nat → Int32) (m4 : Int32) (f5 : Nat → Int32) (g5 : Nat → Int32) (c5 : Nat → Int32) (m5 : Int32) (ef0 : Nat → Int32) (ef1 : Nat → Int32) (t : Int32) (ok : sp_ok S) (hra : z_row 12 (nI (sp_R S 0).length) fa (sp_R S 0)) (hrb : z_row 12 (nI (sp_R S 1).length) fb (sp_R S 1)) (ht0 : z_tba f0 g0 (sp_T S 0)) (ht1 : z_tba f1 g1 (sp_T S 1)) (ht2 : z_tba f2 g2 (sp_T S 2)) (he0 : z_row 10 (nI (sp_E S 0).2.length) ef0 (sp_E S 0).2) (he1 : z_row 10 (nI (sp_E S 1).2.length) ef1 (sp_E S 1).2) (hzm3 : z_m20 m3) (hzm4 : z_m20 m4) (hzm5 : z_m20 m5) : z_CX G l mX8_clear 20 14 120 (z_cw S.1.1 S.1.2 (nI (sp_R S 0).length) (sp_F S 0) fa (sp_C S 0) (nI (sp_R S 1).length) (sp_F S 1) fb (sp_C S 1) mt false ft ct f0 g0 (sp_C S 2) (nI (sp_T S 0).length) 0 f1 g1 c1 (nI (sp_T S 1).length) 0 f2 g2 c2 (nI (sp_T S 2).length) 1 f3 g3 c3 m3 0 f4 g4 c4 m4 0 f5 g5 c5 m5 1 (nI (sp_E S 0).2.length) (sp_E S 0).1.2.1 (sp_E S 0).1.2.2.1 (sp_E S 0).1.2.2.2 (sp_E S 0).1.1 ef0 (nI (sp_E S 1).2.length) (sp_E S 1).1.2.1 (sp_E S 1).1.2.2.1 (sp_E S 1).1.2.2.2 (sp_E S 1).1.1 ef1 []) [.ref 0, .int t] (fun v L => sp_k3 t = 0 ∧ v = some (.int (nI (sp_T S (sp_i t)).length)) ∧ sp_CW (sp_uT S (sp_i t) []) L) (fun E L => ((z_xI E ∧ sp_k3 t = 1)) ∧ L = (z_cw S.1.1 S.1.2 (nI (sp_R S 0).length) (sp_F S 0) fa (sp_C S 0) (nI (sp_R S 1).length) (sp_F S 1) fb (sp_C S 1) mt false ft ct f0 g0 (sp_C S 2) (nI (sp_T S 0).length) 0 f1 g1 c1 (nI (sp_T S 1).length) 0 f2 g2 c2 (nI (sp_T S 2).length) 1 f3 g3 c3 m3 0 f4 g4 c4 m4 0 f5 g5 c5 m5 1 (nI (sp_E S 0).2.length) (sp_E S 0).1.2.1 (sp_E S 0).1.2.2.1 (sp_E S 0).1.2.2.2 (sp_E S 0).1.1 ef0 (nI (sp_E S 1).2.length) (sp_E S 1).1.2.1 (sp_E S 1).1.2.2.1 (sp_E S 1).1.2.2.2 (sp_E S 1).1.1 ef1 [])) := by
  refine z_body hl (by decide) rfl (Nat.le_of_ble_eq_true rfl) ?_
  show z_J G l mX8_clear (z_SX 20 14 120 (z_cw S.1.1 S.1.2 (nI (sp_R S 0).length) (sp_F S 0) fa (sp_C S 0) (nI (sp_R S 1).length) (sp_F S 1) fb (sp_C S 1) mt false ft ct f0 g0 (sp_C S 2) (nI (sp_T S 0).length) 0 f1 g1 c1 (nI (sp_T S 1).length) 0 f2 g2 c2 (nI (sp_T S 2).length) 1 f3 g3 c3 m3 0 f4 g4 c4 m4 0 f5 g5 c5 m5 1 (nI (sp_E S 0).2.length) (sp_E S 0).1.2.1 (sp_E S 0).1.2.2.1 (sp_E S 0).1.2.2.2 (sp_E S 0).1.1 ef0 (nI (sp_E S 1).2.length) (sp_E S 1).1.2.1 (sp_E S 1).1.2.2.1 (sp_E S 1).1.2.2.2 (sp_E S 1).1.1 ef1 []) (fun v L => sp_k3 t = 0 ∧ v = some (.int (nI (sp_T S (sp_i t)).length)) ∧ sp_CW (sp_uT S (sp_i t) []) L) (fun E L => ((z_xI E ∧ sp_k3 t = 1)) ∧ L = (z_cw S.1.1 S.1.2 (nI (sp_R S 0).length) (sp_F S 0) fa (sp_C S 0) (nI (sp_R S 1).length) (sp_F S 1) fb (sp_C S 1) mt false ft ct f0 g0 (sp_C S 2) (nI (sp_T S 0).length) 0 f1 g1 c1 (nI (sp_T S 1).length) 0 f2 g2 c2 (nI (sp_T S 2).length) 1 f3 g3 c3 m3 0 f4 g4 c4 m4 0 f5 g5 c5 m5 1 (nI (sp_E S 0).2.length) (sp_E S 0).1.2.1 (sp_E S 0).1.2.2.1 (sp_E S 0).1.2.2.2 (sp_E S 0).1.1 ef0 (nI (sp_E S 1).2.length) (sp_E S 1).1.2.1 (sp_E S 1).1.2.2.1 (sp_E S 1).1.2.2.2 (sp_E S 1).1.1 ef1 []))) 0 [(0, _), (1, _)] [] _ 0 0
  refine j_aload_n dX8_clear_0 rfl rfl ?_
  refine j_iload_n dX8_clear_1 rfl ?_
  refine j_callV (q := (RX8, TX8, 9)) dX8_clear_2 kX8_tableFor lX8_157 inX8_tableFor seX8_tableFor rfl rfl (z_dirX (c_X8_tableFor_e hl _ _ _ _ _ _ _ _ _ _ _ _ _ _ _ _ _ _ _ _ _ _ _ _ _ _ _ _ _ _ _ _ _ _ _ _ _ _ _ _ _ _ _ _ _ _ _ _ _ _ _ _ _ _ _ _ _)) (Nat.le_of_ble_eq_true rfl) ⟨(Nat.le_of_ble_eq_true rfl), (Nat.le_of_ble_eq_true rfl)⟩ rfl (Nat.le_of_ble_eq_true rfl) rfl rfl (fun _ _ h => by obtain ⟨_, ⟨h1, rfl⟩, rfl⟩ := h; exact ⟨rfl, rfl, ⟨h1.1, sp_k3_1 h1.2⟩, rfl⟩) ?_
  rintro _ _ ⟨_, ⟨_, rfl, hr, rfl⟩, rfl⟩
  rcases hr with ⟨e_2, rfl⟩ | ⟨e_2, rfl⟩ | ⟨e_2, rfl⟩
  · subst e_2
    refine j_callV (q := (RX4, TX4, 5)) dX8_clear_5 kX4_makeEmpty lX8_166 inX4_makeEmpty seX4_makeEmpty rfl rfl (z_frame [10, 11, 12, 13, 14] rfl (by decide) (Nat.le_of_ble_eq_true rfl) (c_X4_makeEmpty_e hl false _ _ _ (sp_T S 0) ht0)) (Nat.le_of_ble_eq_true rfl) ⟨(Nat.le_of_ble_eq_true rfl), (Nat.le_of_ble_eq_true rfl)⟩ rfl (Nat.le_of_ble_eq_true rfl) rfl rfl (fun _ _ h => h.elim) ?_
    rintro _ _ ⟨_, _, ⟨rfl, f9, ht9, rfl⟩, rfl, rfl⟩
    refine j_ws (L' := z_cw _ _ _ _ _ _ _ _ _ _ _ _ _ _ _ _ _ _ _ _ _ _ _ _ _ _ _ _ _ _ _ _ _ _ _ _ _ _ _ _ _ _ _ _ _ _ _ _ _ _ _ _ _ _ _ _ []) (by decide) rfl rfl ?_
    refine j_iret dX8_clear_8 rfl rfl ?_ (Nat.le_of_ble_eq_true rfl) (Nat.le_of_ble_eq_true rfl)
    refine ⟨rfl, (by first | exact z_cwl | rfl), ?_⟩
    rw [sp_i0]
    exact ⟨sp_k3_0 (Or.inl rfl), rfl, (sp_CWe hra hrb ht9 ht1 ht2 he0 he1 hzm3 hzm4 hzm5 rfl)⟩
  · subst e_2
    refine j_callV (q := (RX4, TX4, 5)) dX8_clear_5 kX4_makeEmpty lX8_166 inX4_makeEmpty seX4_makeEmpty rfl rfl (z_frame [16, 17, 18, 19, 20] rfl (by decide) (Nat.le_of_ble_eq_true rfl) (c_X4_makeEmpty_e hl false _ _ _ (sp_T S 1) ht1)) (Nat.le_of_ble_eq_true rfl) ⟨(Nat.le_of_ble_eq_true rfl), (Nat.le_of_ble_eq_true rfl)⟩ rfl (Nat.le_of_ble_eq_true rfl) rfl rfl (fun _ _ h => h.elim) ?_
    rintro _ _ ⟨_, _, ⟨rfl, f9, ht9, rfl⟩, rfl, rfl⟩
    refine j_ws (L' := z_cw _ _ _ _ _ _ _ _ _ _ _ _ _ _ _ _ _ _ _ _ _ _ _ _ _ _ _ _ _ _ _ _ _ _ _ _ _ _ _ _ _ _ _ _ _ _ _ _ _ _ _ _ _ _ _ _ []) (by decide) rfl rfl ?_
    refine j_iret dX8_clear_8 rfl rfl ?_ (Nat.le_of_ble_eq_true rfl) (Nat.le_of_ble_eq_true rfl)
    refine ⟨rfl, (by first | exact z_cwl | rfl), ?_⟩
    rw [sp_i1]
    exact ⟨sp_k3_0 (Or.inr (Or.inl rfl)), rfl, (sp_CWe hra hrb ht0 ht9 ht2 he0 he1 hzm3 hzm4 hzm5 rfl)⟩
  · subst e_2
    refine j_callV (q := (RX4, TX4, 5)) dX8_clear_5 kX4_makeEmpty lX8_166 inX4_makeEmpty seX4_makeEmpty rfl rfl (z_frame [21, 22, 23, 24, 25] rfl (by decide) (Nat.le_of_ble_eq_true rfl) (c_X4_makeEmpty_e hl true _ _ _ (sp_T S 2) ht2)) (Nat.le_of_ble_eq_true rfl) ⟨(Nat.le_of_ble_eq_true rfl), (Nat.le_of_ble_eq_true rfl)⟩ rfl (Nat.le_of_ble_eq_true rfl) rfl rfl (fun _ _ h => h.elim) ?_
    rintro _ _ ⟨_, _, ⟨rfl, f9, ht9, rfl⟩, rfl, rfl⟩
    refine j_ws (L' := z_cw _ _ _ _ _ _ _ _ _ _ _ _ _ _ _ _ _ _ _ _ _ _ _ _ _ _ _ _ _ _ _ _ _ _ _ _ _ _ _ _ _ _ _ _ _ _ _ _ _ _ _ _ _ _ _ _ []) (by decide) rfl rfl ?_
    refine j_iret dX8_clear_8 rfl rfl ?_ (Nat.le_of_ble_eq_true rfl) (Nat.le_of_ble_eq_true rfl)
    refine ⟨rfl, (by first | exact z_cwl | rfl), ?_⟩
    rw [sp_i2]
    exact ⟨sp_k3_0 (Or.inr (Or.inr rfl)), rfl, (sp_CWe hra hrb ht0 ht1 ht9 he0 he1 hzm3 hzm4 hzm5 rfl)⟩
set_option maxRecDepth 100000 in
set_option maxHeartbeats 8000000 in
theorem c_X8_get_p (hl : l.stackTraces = false) (S : sp_S) (fa : Nat → Int32) (fb : Nat → Int32) (mt : Int32) (ft : Nat → Int32) (ct : Nat → Int32) (f0 : Nat → Int32) (g0 : Nat → Int32) (f1 : Nat → Int32) (g1 : Nat → Int32) (c1 : Nat → Int32) (f2 : Nat → Int32) (g2 : Nat → Int32) (c2 : Nat → Int32) (f3 : Nat → Int32) (g3 : Nat → Int32) (c3 : Nat → Int32) (m3 : Int32) (f4 : Nat → Int32) (g4 : Nat → Int32) (c4 : Nat → Int32) (m4 : Int32) (f5 : Nat → Int32) (g5 : Nat → Int32) (c5 : Nat → Int32) (m5 : Int32) (ef0 : Nat → Int32) (ef1 : Nat → Int32) (t : Int32) (k : Int32) (ok : sp_ok S) (hra : z_row 12 (nI (sp_R S 0).length) fa (sp_R S 0)) (hrb : z_row 12 (nI (sp_R S 1).length) fb (sp_R S 1)) (ht0 : z_tba f0 g0 (sp_T S 0)) (ht1 : z_tba f1 g1 (sp_T S 1)) (ht2 : z_tba f2 g2 (sp_T S 2)) (he0 : z_row 10 (nI (sp_E S 0).2.length) ef0 (sp_E S 0).2) (he1 : z_row 10 (nI (sp_E S 1).2.length) ef1 (sp_E S 1).2) (hzm3 : z_m20 m3) (hzm4 : z_m20 m4) (hzm5 : z_m20 m5) : z_CX G l mX8_get 20 14 120 (z_cw S.1.1 S.1.2 (nI (sp_R S 0).length) (sp_F S 0) fa (sp_C S 0) (nI (sp_R S 1).length) (sp_F S 1) fb (sp_C S 1) mt false ft ct f0 g0 (sp_C S 2) (nI (sp_T S 0).length) 0 f1 g1 c1 (nI (sp_T S 1).length) 0 f2 g2 c2 (nI (sp_T S 2).length) 1 f3 g3 c3 m3 0 f4 g4 c4 m4 0 f5 g5 c5 m5 1 (nI (sp_E S 0).2.length) (sp_E S 0).1.2.1 (sp_E S 0).1.2.2.1 (sp_E S 0).1.2.2.2 (sp_E S 0).1.1 ef0 (nI (sp_E S 1).2.length) (sp_E S 1).1.2.1 (sp_E S 1).1.2.2.1 (sp_E S 1).1.2.2.2 (sp_E S 1).1.1 ef1 []) [.ref 0, .int t, .int k] (fun v L => sp_k32 t (sp_bk k) = 0 ∧ v = some (.int (sp_lk (sp_T S (sp_i t)) (sp_i k))) ∧ sp_CW (S) L) (fun E L => ((z_xI E ∧ sp_k32 t (sp_bk k) = 1) ∨ (z_xA E ∧ sp_k32 t (sp_bk k) = 2)) ∧ L = (z_cw S.1.1 S.1.2 (nI (sp_R S 0).length) (sp_F S 0) fa (sp_C S 0) (nI (sp_R S 1).length) (sp_F S 1) fb (sp_C S 1) mt false ft ct f0 g0 (sp_C S 2) (nI (sp_T S 0).length) 0 f1 g1 c1 (nI (sp_T S 1).length) 0 f2 g2 c2 (nI (sp_T S 2).length) 1 f3 g3 c3 m3 0 f4 g4 c4 m4 0 f5 g5 c5 m5 1 (nI (sp_E S 0).2.length) (sp_E S 0).1.2.1 (sp_E S 0).1.2.2.1 (sp_E S 0).1.2.2.2 (sp_E S 0).1.1 ef0 (nI (sp_E S 1).2.length) (sp_E S 1).1.2.1 (sp_E S 1).1.2.2.1 (sp_E S 1).1.2.2.2 (sp_E S 1).1.1 ef1 [])) := by
  refine z_body hl (by decide) rfl (Nat.le_of_ble_eq_true rfl) ?_
  show z_J G l mX8_get (z_SX 20 14 120 (z_cw S.1.1 S.1.2 (nI (sp_R S 0).length) (sp_F S 0) fa (sp_C S 0) (nI (sp_R S 1).length) (sp_F S 1) fb (sp_C S 1) mt false ft ct f0 g0 (sp_C S 2) (nI (sp_T S 0).length) 0 f1 g1 c1 (nI (sp_T S 1).length) 0 f2 g2 c2 (nI (sp_T S 2).length) 1 f3 g3 c3 m3 0 f4 g4 c4 m4 0 f5 g5 c5 m5 1 (nI (sp_E S 0).2.length) (sp_E S 0).1.2.1 (sp_E S 0).1.2.2.1 (sp_E S 0).1.2.2.2 (sp_E S 0).1.1 ef0 (nI (sp_E S 1).2.length) (sp_E S 1).1.2.1 (sp_E S 1).1.2.2.1 (sp_E S 1).1.2.2.2 (sp_E S 1).1.1 ef1 []) (fun v L => sp_k32 t (sp_bk k) = 0 ∧ v = some (.int (sp_lk (sp_T S (sp_i t)) (sp_i k))) ∧ sp_CW (S) L) (fun E L => ((z_xI E ∧ sp_k32 t (sp_bk k) = 1) ∨ (z_xA E ∧ sp_k32 t (sp_bk k) = 2)) ∧ L = (z_cw S.1.1 S.1.2 (nI (sp_R S 0).length) (sp_F S 0) fa (sp_C S 0) (nI (sp_R S 1).length) (sp_F S 1) fb (sp_C S 1) mt false ft ct f0 g0 (sp_C S 2) (nI (sp_T S 0).length) 0 f1 g1 c1 (nI (sp_T S 1).length) 0 f2 g2 c2 (nI (sp_T S 2).length) 1 f3 g3 c3 m3 0 f4 g4 c4 m4 0 f5 g5 c5 m5 1 (nI (sp_E S 0).2.length) (sp_E S 0).1.2.1 (sp_E S 0).1.2.2.1 (sp_E S 0).1.2.2.2 (sp_E S 0).1.1 ef0 (nI (sp_E S 1).2.length) (sp_E S 1).1.2.1 (sp_E S 1).1.2.2.1 (sp_E S 1).1.2.2.2 (sp_E S 1).1.1 ef1 []))) 0 [(0, _), (1, _), (2, _)] [] _ 0 0
  refine j_aload_n dX8_get_0 rfl rfl ?_
  refine j_iload_n dX8_get_1 rfl ?_
  refine j_iload_n dX8_get_2 rfl ?_
  refine j_callV (q := (RX8, TX8, 9)) dX8_get_3 kX8_tableFor_ lX8_126 inX8_tableFor_ seX8_tableFor_ rfl rfl (z_dirX (c_X8_tableFor__e hl _ _ _ _ _ _ _ _ _ _ _ _ _ _ _ _ _ _ _ _ _ _ _ _ _ _ _ _ _ _ _ _ _ _ _ _ _ _ _ _ _ _ _ _ _ _ _ _ _ _ _ _ _ _ _ _ _ _)) (Nat.le_of_ble_eq_true rfl) ⟨(Nat.le_of_ble_eq_true rfl), (Nat.le_of_ble_eq_true rfl)⟩ rfl (Nat.le_of_ble_eq_true rfl) rfl rfl (fun _ _ h => by obtain ⟨_, ⟨h1, rfl⟩, rfl⟩ := h; exact ⟨rfl, rfl, h1.elim (fun z => Or.inl ⟨z.1, sp_k32_1 z.2⟩) (fun z => Or.inr ⟨z.1, sp_k32_2 z.2.1 (z.2.2)⟩), rfl⟩) ?_
  rintro _ _ ⟨_, ⟨_, rfl, hr, hk3, rfl⟩, rfl⟩
  have hk0 := hk3
  obtain ⟨q, hq, rfl⟩ := sp_nt (m := 19) rfl (by decide) hk0
  rcases hr with ⟨e_3, rfl⟩ | ⟨e_3, rfl⟩ | ⟨e_3, rfl⟩
  · subst e_3
    refine j_iload_n dX8_get_6 rfl ?_
    refine j_callV (q := (RX4, TX4, 5)) dX8_get_7 kX4_look lX8_137 inX4_look seX4_look rfl rfl (z_frame [10, 11, 12, 13, 14] rfl (by decide) (Nat.le_of_ble_eq_true rfl) (c_X4_look_e hl false _ _ _ _ (sp_T S 0) q ht0 (by omega))) (Nat.le_of_ble_eq_true rfl) ⟨(Nat.le_of_ble_eq_true rfl), (Nat.le_of_ble_eq_true rfl)⟩ rfl (Nat.le_of_ble_eq_true rfl) rfl rfl (fun _ _ h => h.elim) ?_
    rintro _ _ ⟨_, _, ⟨rfl, rfl⟩, rfl, rfl⟩
    refine j_ws (L' := z_cw _ _ _ _ _ _ _ _ _ _ _ _ _ _ _ _ _ _ _ _ _ _ _ _ _ _ _ _ _ _ _ _ _ _ _ _ _ _ _ _ _ _ _ _ _ _ _ _ _ _ _ _ _ _ _ _ []) (by decide) rfl rfl ?_
    refine j_iret dX8_get_10 rfl rfl ?_ (Nat.le_of_ble_eq_true rfl) (Nat.le_of_ble_eq_true rfl)
    refine ⟨rfl, (by first | exact z_cwl | rfl), ?_⟩
    rw [sp_i0, sp_in' (n := q) (by omega)]
    exact ⟨sp_k32_0 (Or.inl rfl) hk0, rfl, (sp_CWe hra hrb ht0 ht1 ht2 he0 he1 hzm3 hzm4 hzm5 rfl)⟩
  · subst e_3
    refine j_iload_n dX8_get_6 rfl ?_
    refine j_callV (q := (RX4, TX4, 5)) dX8_get_7 kX4_look lX8_137 inX4_look seX4_look rfl rfl (z_frame [16, 17, 18, 19, 20] rfl (by decide) (Nat.le_of_ble_eq_true rfl) (c_X4_look_e hl false _ _ _ _ (sp_T S 1) q ht1 (by omega))) (Nat.le_of_ble_eq_true rfl) ⟨(Nat.le_of_ble_eq_true rfl), (Nat.le_of_ble_eq_true rfl)⟩ rfl (Nat.le_of_ble_eq_true rfl) rfl rfl (fun _ _ h => h.elim) ?_
    rintro _ _ ⟨_, _, ⟨rfl, rfl⟩, rfl, rfl⟩
    refine j_ws (L' := z_cw _ _ _ _ _ _ _ _ _ _ _ _ _ _ _ _ _ _ _ _ _ _ _ _ _ _ _ _ _ _ _ _ _ _ _ _ _ _ _ _ _ _ _ _ _ _ _ _ _ _ _ _ _ _ _ _ []) (by decide) rfl rfl ?_
    refine j_iret dX8_get_10 rfl rfl ?_ (Nat.le_of_ble_eq_true rfl) (Nat.le_of_ble_eq_true rfl)
    refine ⟨rfl, (by first | exact z_cwl | rfl), ?_⟩
    rw [sp_i1, sp_in' (n := q) (by omega)]
    exact ⟨sp_k32_0 (Or.inr (Or.inl rfl)) hk0, rfl, (sp_CWe hra hrb ht0 ht1 ht2 he0 he1 hzm3 hzm4 hzm5 rfl)⟩
  · subst e_3
    refine j_iload_n dX8_get_6 rfl ?_
    refine j_callV (q := (RX4, TX4, 5)) dX8_get_7 kX4_look lX8_137 inX4_look seX4_look rfl rfl (z_frame [21, 22, 23, 24, 25] rfl (by decide) (Nat.le_of_ble_eq_true rfl) (c_X4_look_e hl true _ _ _ _ (sp_T S 2) q ht2 (by omega))) (Nat.le_of_ble_eq_true rfl) ⟨(Nat.le_of_ble_eq_true rfl), (Nat.le_of_ble_eq_true rfl)⟩ rfl (Nat.le_of_ble_eq_true rfl) rfl rfl (fun _ _ h => h.elim) ?_
    rintro _ _ ⟨_, _, ⟨rfl, rfl⟩, rfl, rfl⟩
    refine j_ws (L' := z_cw _ _ _ _ _ _ _ _ _ _ _ _ _ _ _ _ _ _ _ _ _ _ _ _ _ _ _ _ _ _ _ _ _ _ _ _ _ _ _ _ _ _ _ _ _ _ _ _ _ _ _ _ _ _ _ _ []) (by decide) rfl rfl ?_
    refine j_iret dX8_get_10 rfl rfl ?_ (Nat.le_of_ble_eq_true rfl) (Nat.le_of_ble_eq_true rfl)
    refine ⟨rfl, (by first | exact z_cwl | rfl), ?_⟩
    rw [sp_i2, sp_in' (n := q) (by omega)]
    exact ⟨sp_k32_0 (Or.inr (Or.inr rfl)) hk0, rfl, (sp_CWe hra hrb ht0 ht1 ht2 he0 he1 hzm3 hzm4 hzm5 rfl)⟩
set_option maxRecDepth 100000 in
set_option maxHeartbeats 8000000 in
theorem c_X8_getOr_p (hl : l.stackTraces = false) (S : sp_S) (fa : Nat → Int32) (fb : Nat → Int32) (mt : Int32) (ft : Nat → Int32) (ct : Nat → Int32) (f0 : Nat → Int32) (g0 : Nat → Int32) (f1 : Nat → Int32) (g1 : Nat → Int32) (c1 : Nat → Int32) (f2 : Nat → Int32) (g2 : Nat → Int32) (c2 : Nat → Int32) (f3 : Nat → Int32) (g3 : Nat → Int32) (c3 : Nat → Int32) (m3 : Int32) (f4 : Nat → Int32) (g4 : Nat → Int32) (c4 : Nat → Int32) (m4 : Int32) (f5 : Nat → Int32) (g5 : Nat → Int32) (c5 : Nat → Int32) (m5 : Int32) (ef0 : Nat → Int32) (ef1 : Nat → Int32) (t : Int32) (k : Int32) (y : Int32) (ok : sp_ok S) (hra : z_row 12 (nI (sp_R S 0).length) fa (sp_R S 0)) (hrb : z_row 12 (nI (sp_R S 1).length) fb (sp_R S 1)) (ht0 : z_tba f0 g0 (sp_T S 0)) (ht1 : z_tba f1 g1 (sp_T S 1)) (ht2 : z_tba f2 g2 (sp_T S 2)) (he0 : z_row 10 (nI (sp_E S 0).2.length) ef0 (sp_E S 0).2) (he1 : z_row 10 (nI (sp_E S 1).2.length) ef1 (sp_E S 1).2) (hzm3 : z_m20 m3) (hzm4 : z_m20 m4) (hzm5 : z_m20 m5) : z_CX G l mX8_getOr 20 14 120 (z_cw S.1.1 S.1.2 (nI (sp_R S 0).length) (sp_F S 0) fa (sp_C S 0) (nI (sp_R S 1).length) (sp_F S 1) fb (sp_C S 1) mt false ft ct f0 g0 (sp_C S 2) (nI (sp_T S 0).length) 0 f1 g1 c1 (nI (sp_T S 1).length) 0 f2 g2 c2 (nI (sp_T S 2).length) 1 f3 g3 c3 m3 0 f4 g4 c4 m4 0 f5 g5 c5 m5 1 (nI (sp_E S 0).2.length) (sp_E S 0).1.2.1 (sp_E S 0).1.2.2.1 (sp_E S 0).1.2.2.2 (sp_E S 0).1.1 ef0 (nI (sp_E S 1).2.length) (sp_E S 1).1.2.1 (sp_E S 1).1.2.2.1 (sp_E S 1).1.2.2.2 (sp_E S 1).1.1 ef1 []) [.ref 0, .int t, .int k, .int y] (fun v L => sp_k32 t (sp_bk k ∨ sp_bv y) = 0 ∧ v = some (.int ((if sp_lk (sp_T S (sp_i t)) (sp_i k) = -1000 then y else sp_lk (sp_T S (sp_i t)) (sp_i k)))) ∧ sp_CW (S) L) (fun E L => ((z_xI E ∧ sp_k32 t (sp_bk k ∨ sp_bv y) = 1) ∨ (z_xA E ∧ sp_k32 t (sp_bk k ∨ sp_bv y) = 2)) ∧ L = (z_cw S.1.1 S.1.2 (nI (sp_R S 0).length) (sp_F S 0) fa (sp_C S 0) (nI (sp_R S 1).length) (sp_F S 1) fb (sp_C S 1) mt false ft ct f0 g0 (sp_C S 2) (nI (sp_T S 0).length) 0 f1 g1 c1 (nI (sp_T S 1).length) 0 f2 g2 c2 (nI (sp_T S 2).length) 1 f3 g3 c3 m3 0 f4 g4 c4 m4 0 f5 g5 c5 m5 1 (nI (sp_E S 0).2.length) (sp_E S 0).1.2.1 (sp_E S 0).1.2.2.1 (sp_E S 0).1.2.2.2 (sp_E S 0).1.1 ef0 (nI (sp_E S 1).2.length) (sp_E S 1).1.2.1 (sp_E S 1).1.2.2.1 (sp_E S 1).1.2.2.2 (sp_E S 1).1.1 ef1 [])) := by
  refine z_body hl (by decide) rfl (Nat.le_of_ble_eq_true rfl) ?_
  show z_J G l mX8_getOr (z_SX 20 14 120 (z_cw S.1.1 S.1.2 (nI (sp_R S 0).length) (sp_F S 0) fa (sp_C S 0) (nI (sp_R S 1).length) (sp_F S 1) fb (sp_C S 1) mt false ft ct f0 g0 (sp_C S 2) (nI (sp_T S 0).length) 0 f1 g1 c1 (nI (sp_T S 1).length) 0 f2 g2 c2 (nI (sp_T S 2).length) 1 f3 g3 c3 m3 0 f4 g4 c4 m4 0 f5 g5 c5 m5 1 (nI (sp_E S 0).2.length) (sp_E S 0).1.2.1 (sp_E S 0).1.2.2.1 (sp_E S 0).1.2.2.2 (sp_E S 0).1.1 ef0 (nI (sp_E S 1).2.length) (sp_E S 1).1.2.1 (sp_E S 1).1.2.2.1 (sp_E S 1).1.2.2.2 (sp_E S 1).1.1 ef1 []) (fun v L => sp_k32 t (sp_bk k ∨ sp_bv y) = 0 ∧ v = some (.int ((if sp_lk (sp_T S (sp_i t)) (sp_i k) = -1000 then y else sp_lk (sp_T S (sp_i t)) (sp_i k)))) ∧ sp_CW (S) L) (fun E L => ((z_xI E ∧ sp_k32 t (sp_bk k ∨ sp_bv y) = 1) ∨ (z_xA E ∧ sp_k32 t (sp_bk k ∨ sp_bv y) = 2)) ∧ L = (z_cw S.1.1 S.1.2 (nI (sp_R S 0).length) (sp_F S 0) fa (sp_C S 0) (nI (sp_R S 1).length) (sp_F S 1) fb (sp_C S 1) mt false ft ct f0 g0 (sp_C S 2) (nI (sp_T S 0).length) 0 f1 g1 c1 (nI (sp_T S 1).length) 0 f2 g2 c2 (nI (sp_T S 2).length) 1 f3 g3 c3 m3 0 f4 g4 c4 m4 0 f5 g5 c5 m5 1 (nI (sp_E S 0).2.length) (sp_E S 0).1.2.1 (sp_E S 0).1.2.2.1 (sp_E S 0).1.2.2.2 (sp_E S 0).1.1 ef0 (nI (sp_E S 1).2.length) (sp_E S 1).1.2.1 (sp_E S 1).1.2.2.1 (sp_E S 1).1.2.2.2 (sp_E S 1).1.1 ef1 []))) 0 [(0, _), (1, _), (2, _), (3, _)] [] _ 0 0
  refine j_aload_n dX8_getOr_0 rfl rfl ?_
  refine j_iload_n dX8_getOr_1 rfl ?_
  refine j_iload_n dX8_getOr_2 rfl ?_
  refine j_callV (q := (RX8, TX8, 9)) dX8_getOr_3 kX8_tableFor_ lX8_126 inX8_tableFor_ seX8_tableFor_ rfl rfl (z_dirX (c_X8_tableFor__e hl _ _ _ _ _ _ _ _ _ _ _ _ _ _ _ _ _ _ _ _ _ _ _ _ _ _ _ _ _ _ _ _ _ _ _ _ _ _ _ _ _ _ _ _ _ _ _ _ _ _ _ _ _ _ _ _ _ _)) (Nat.le_of_ble_eq_true rfl) ⟨(Nat.le_of_ble_eq_true rfl), (Nat.le_of_ble_eq_true rfl)⟩ rfl (Nat.le_of_ble_eq_true rfl) rfl rfl (fun _ _ h => by obtain ⟨_, ⟨h1, rfl⟩, rfl⟩ := h; exact ⟨rfl, rfl, h1.elim (fun z => Or.inl ⟨z.1, sp_k32_1 z.2⟩) (fun z => Or.inr ⟨z.1, sp_k32_2 z.2.1 (Or.inl (z.2.2))⟩), rfl⟩) ?_
  rintro _ _ ⟨_, ⟨_, rfl, hr, hk3, rfl⟩, rfl⟩
  have hk0 := hk3
  obtain ⟨q, hq, rfl⟩ := sp_nt (m := 19) rfl (by decide) hk0
  rcases hr with ⟨e_3, rfl⟩ | ⟨e_3, rfl⟩ | ⟨e_3, rfl⟩
  · subst e_3
    refine j_astore (lo' := [(4, _), (0, _), (1, _), (2, _), (3, _)]) dX8_getOr_6 rfl (by decide) rfl ?_
    refine j_iload_n dX8_getOr_8 rfl ?_
    refine j_callS dX8_getOr_9 kX8_checkValue lX8_50 stX8_checkValue (c_X8_checkValue_e hl _ _) (Nat.le_of_ble_eq_true rfl) ⟨(Nat.le_of_ble_eq_true rfl), (Nat.le_of_ble_eq_true rfl)⟩ rfl (Nat.le_of_ble_eq_true rfl) rfl rfl (fun _ _ h => by obtain ⟨h1, rfl⟩ := h; exact ⟨rfl, rfl, Or.inr ⟨h1.1, sp_k32_2 (Or.inl rfl) (Or.inr h1.2)⟩, rfl⟩) ?_
    rintro _ _ ⟨⟨rfl, hc9⟩, rfl⟩
    refine j_aload dX8_getOr_12 rfl rfl ?_
    refine j_iload_n dX8_getOr_14 rfl ?_
    refine j_callV (q := (RX4, TX4, 5)) dX8_getOr_15 kX4_look lX8_137 inX4_look seX4_look rfl rfl (z_frame [10, 11, 12, 13, 14] rfl (by decide) (Nat.le_of_ble_eq_true rfl) (c_X4_look_e hl false _ _ _ _ (sp_T S 0) q ht0 (by omega))) (Nat.le_of_ble_eq_true rfl) ⟨(Nat.le_of_ble_eq_true rfl), (Nat.le_of_ble_eq_true rfl)⟩ rfl (Nat.le_of_ble_eq_true rfl) rfl rfl (fun _ _ h => h.elim) ?_
    rintro _ _ ⟨_, _, ⟨rfl, rfl⟩, rfl, rfl⟩
    refine j_ws (L' := z_cw _ _ _ _ _ _ _ _ _ _ _ _ _ _ _ _ _ _ _ _ _ _ _ _ _ _ _ _ _ _ _ _ _ _ _ _ _ _ _ _ _ _ _ _ _ _ _ _ _ _ _ _ _ _ _ _ []) (by decide) rfl rfl ?_
    refine j_istore (lo' := [(5, _), (4, _), (0, _), (1, _), (2, _), (3, _)]) dX8_getOr_18 (by decide) rfl ?_
    refine j_iload dX8_getOr_20 rfl ?_
    refine j_sipush (v := (-1000)) dX8_getOr_22 (by decide) ?_
    refine j_icmp_ne (tgt := 32) dX8_getOr_25 (by decide) (fun c_25 => ?_) (fun c_25 => ?_)
    · refine j_iload dX8_getOr_32 rfl ?_
      refine j_iret dX8_getOr_34 rfl rfl ?_ (Nat.le_of_ble_eq_true rfl) (Nat.le_of_ble_eq_true rfl)
      refine ⟨rfl, (by first | exact z_cwl | rfl), ?_⟩
      rw [sp_i0, sp_in' (n := q) (by omega)]
      exact ⟨sp_k32_0 (Or.inl rfl) (fun z => z.elim hk0 hc9), (by first | rw [if_neg c_25] | rw [if_pos c_25]), (sp_CWe hra hrb ht0 ht1 ht2 he0 he1 hzm3 hzm4 hzm5 rfl)⟩
    · refine j_iload_n dX8_getOr_28 rfl ?_
      refine j_goto (tgt := 34) dX8_getOr_29 (by decide) ?_
      refine j_iret dX8_getOr_34 rfl rfl ?_ (Nat.le_of_ble_eq_true rfl) (Nat.le_of_ble_eq_true rfl)
      refine ⟨rfl, (by first | exact z_cwl | rfl), ?_⟩
      rw [sp_i0, sp_in' (n := q) (by omega)]
      exact ⟨sp_k32_0 (Or.inl rfl) (fun z => z.elim hk0 hc9), (by first | rw [if_neg c_25] | rw [if_pos c_25]), (sp_CWe hra hrb ht0 ht1 ht2 he0 he1 hzm3 hzm4 hzm5 rfl)⟩
  · subst e_3
    refine j_astore (lo' := [(4, _), (0, _), (1, _), (2, _), (3, _)]) dX8_getOr_6 rfl (by decide) rfl ?_
    refine j_iload_n dX8_getOr_8 rfl ?_
    refine j_callS dX8_getOr_9 kX8_checkValue lX8_50 stX8_checkValue (c_X8_checkValue_e hl _ _) (Nat.le_of_ble_eq_true rfl) ⟨(Nat.le_of_ble_eq_true rfl), (Nat.le_of_ble_eq_true rfl)⟩ rfl (Nat.le_of_ble_eq_true rfl) rfl rfl (fun _ _ h => by obtain ⟨h1, rfl⟩ := h; exact ⟨rfl, rfl, Or.inr ⟨h1.1, sp_k32_2 (Or.inr (Or.inl rfl)) (Or.inr h1.2)⟩, rfl⟩) ?_
    rintro _ _ ⟨⟨rfl, hc9⟩, rfl⟩
    refine j_aload dX8_getOr_12 rfl rfl ?_
    refine j_iload_n dX8_getOr_14 rfl ?_
    refine j_callV (q := (RX4, TX4, 5)) dX8_getOr_15 kX4_look lX8_137 inX4_look seX4_look rfl rfl (z_frame [16, 17, 18, 19, 20] rfl (by decide) (Nat.le_of_ble_eq_true rfl) (c_X4_look_e hl false _ _ _ _ (sp_T S 1) q ht1 (by omega))) (Nat.le_of_ble_eq_true rfl) ⟨(Nat.le_of_ble_eq_true rfl), (Nat.le_of_ble_eq_true rfl)⟩ rfl (Nat.le_of_ble_eq_true rfl) rfl rfl (fun _ _ h => h.elim) ?_
    rintro _ _ ⟨_, _, ⟨rfl, rfl⟩, rfl, rfl⟩
    refine j_ws (L' := z_cw _ _ _ _ _ _ _ _ _ _ _ _ _ _ _ _ _ _ _ _ _ _ _ _ _ _ _ _ _ _ _ _ _ _ _ _ _ _ _ _ _ _ _ _ _ _ _ _ _ _ _ _ _ _ _ _ []) (by decide) rfl rfl ?_
    refine j_istore (lo' := [(5, _), (4, _), (0, _), (1, _), (2, _), (3, _)]) dX8_getOr_18 (by decide) rfl ?_
    refine j_iload dX8_getOr_20 rfl ?_
    refine j_sipush (v := (-1000)) dX8_getOr_22 (by decide) ?_
    refine j_icmp_ne (tgt := 32) dX8_getOr_25 (by decide) (fun c_25 => ?_) (fun c_25 => ?_)
    · refine j_iload dX8_getOr_32 rfl ?_
      refine j_iret dX8_getOr_34 rfl rfl ?_ (Nat.le_of_ble_eq_true rfl) (Nat.le_of_ble_eq_true rfl)
      refine ⟨rfl, (by first | exact z_cwl | rfl), ?_⟩
      rw [sp_i1, sp_in' (n := q) (by omega)]
      exact ⟨sp_k32_0 (Or.inr (Or.inl rfl)) (fun z => z.elim hk0 hc9), (by first | rw [if_neg c_25] | rw [if_pos c_25]), (sp_CWe hra hrb ht0 ht1 ht2 he0 he1 hzm3 hzm4 hzm5 rfl)⟩
    · refine j_iload_n dX8_getOr_28 rfl ?_
      refine j_goto (tgt := 34) dX8_getOr_29 (by decide) ?_
      refine j_iret dX8_getOr_34 rfl rfl ?_ (Nat.le_of_ble_eq_true rfl) (Nat.le_of_ble_eq_true rfl)
      refine ⟨rfl, (by first | exact z_cwl | rfl), ?_⟩
      rw [sp_i1, sp_in' (n := q) (by omega)]
      exact ⟨sp_k32_0 (Or.inr (Or.inl rfl)) (fun z => z.elim hk0 hc9), (by first | rw [if_neg c_25] | rw [if_pos c_25]), (sp_CWe hra hrb ht0 ht1 ht2 he0 he1 hzm3 hzm4 hzm5 rfl)⟩
  · subst e_3
    refine j_astore (lo' := [(4, _), (0, _), (1, _), (2, _), (3, _)]) dX8_getOr_6 rfl (by decide) rfl ?_
    refine j_iload_n dX8_getOr_8 rfl ?_
    refine j_callS dX8_getOr_9 kX8_checkValue lX8_50 stX8_checkValue (c_X8_checkValue_e hl _ _) (Nat.le_of_ble_eq_true rfl) ⟨(Nat.le_of_ble_eq_true rfl), (Nat.le_of_ble_eq_true rfl)⟩ rfl (Nat.le_of_ble_eq_true rfl) rfl rfl (fun _ _ h => by obtain ⟨h1, rfl⟩ := h; exact ⟨rfl, rfl, Or.inr ⟨h1.1, sp_k32_2 (Or.inr (Or.inr rfl)) (Or.inr h1.2)⟩, rfl⟩) ?_
    rintro _ _ ⟨⟨rfl, hc9⟩, rfl⟩
    refine j_aload dX8_getOr_12 rfl rfl ?_
    refine j_iload_n dX8_getOr_14 rfl ?_
    refine j_callV (q := (RX4, TX4, 5)) dX8_getOr_15 kX4_look lX8_137 inX4_look seX4_look rfl rfl (z_frame [21, 22, 23, 24, 25] rfl (by decide) (Nat.le_of_ble_eq_true rfl) (c_X4_look_e hl true _ _ _ _ (sp_T S 2) q ht2 (by omega))) (Nat.le_of_ble_eq_true rfl) ⟨(Nat.le_of_ble_eq_true rfl), (Nat.le_of_ble_eq_true rfl)⟩ rfl (Nat.le_of_ble_eq_true rfl) rfl rfl (fun _ _ h => h.elim) ?_
    rintro _ _ ⟨_, _, ⟨rfl, rfl⟩, rfl, rfl⟩
    refine j_ws (L' := z_cw _ _ _ _ _ _ _ _ _ _ _ _ _ _ _ _ _ _ _ _ _ _ _ _ _ _ _ _ _ _ _ _ _ _ _ _ _ _ _ _ _ _ _ _ _ _ _ _ _ _ _ _ _ _ _ _ []) (by decide) rfl rfl ?_
    refine j_istore (lo' := [(5, _), (4, _), (0, _), (1, _), (2, _), (3, _)]) dX8_getOr_18 (by decide) rfl ?_
    refine j_iload dX8_getOr_20 rfl ?_
    refine j_sipush (v := (-1000)) dX8_getOr_22 (by decide) ?_
    refine j_icmp_ne (tgt := 32) dX8_getOr_25 (by decide) (fun c_25 => ?_) (fun c_25 => ?_)
    · refine j_iload dX8_getOr_32 rfl ?_
      refine j_iret dX8_getOr_34 rfl rfl ?_ (Nat.le_of_ble_eq_true rfl) (Nat.le_of_ble_eq_true rfl)
      refine ⟨rfl, (by first | exact z_cwl | rfl), ?_⟩
      rw [sp_i2, sp_in' (n := q) (by omega)]
      exact ⟨sp_k32_0 (Or.inr (Or.inr rfl)) (fun z => z.elim hk0 hc9), (by first | rw [if_neg c_25] | rw [if_pos c_25]), (sp_CWe hra hrb ht0 ht1 ht2 he0 he1 hzm3 hzm4 hzm5 rfl)⟩
    · refine j_iload_n dX8_getOr_28 rfl ?_
      refine j_goto (tgt := 34) dX8_getOr_29 (by decide) ?_
      refine j_iret dX8_getOr_34 rfl rfl ?_ (Nat.le_of_ble_eq_true rfl) (Nat.le_of_ble_eq_true rfl)
      refine ⟨rfl, (by first | exact z_cwl | rfl), ?_⟩
      rw [sp_i2, sp_in' (n := q) (by omega)]
      exact ⟨sp_k32_0 (Or.inr (Or.inr rfl)) (fun z => z.elim hk0 hc9), (by first | rw [if_neg c_25] | rw [if_pos c_25]), (sp_CWe hra hrb ht0 ht1 ht2 he0 he1 hzm3 hzm4 hzm5 rfl)⟩
set_option maxRecDepth 100000 in
set_option maxHeartbeats 8000000 in
theorem c_X8_has_p (hl : l.stackTraces = false) (S : sp_S) (fa : Nat → Int32) (fb : Nat → Int32) (mt : Int32) (ft : Nat → Int32) (ct : Nat → Int32) (f0 : Nat → Int32) (g0 : Nat → Int32) (f1 : Nat → Int32) (g1 : Nat → Int32) (c1 : Nat → Int32) (f2 : Nat → Int32) (g2 : Nat → Int32) (c2 : Nat → Int32) (f3 : Nat → Int32) (g3 : Nat → Int32) (c3 : Nat → Int32) (m3 : Int32) (f4 : Nat → Int32) (g4 : Nat → Int32) (c4 : Nat → Int32) (m4 : Int32) (f5 : Nat → Int32) (g5 : Nat → Int32) (c5 : Nat → Int32) (m5 : Int32) (ef0 : Nat → Int32) (ef1 : Nat → Int32) (t : Int32) (k : Int32) (ok : sp_ok S) (hra : z_row 12 (nI (sp_R S 0).length) fa (sp_R S 0)) (hrb : z_row 12 (nI (sp_R S 1).length) fb (sp_R S 1)) (ht0 : z_tba f0 g0 (sp_T S 0)) (ht1 : z_tba f1 g1 (sp_T S 1)) (ht2 : z_tba f2 g2 (sp_T S 2)) (he0 : z_row 10 (nI (sp_E S 0).2.length) ef0 (sp_E S 0).2) (he1 : z_row 10 (nI (sp_E S 1).2.length) ef1 (sp_E S 1).2) (hzm3 : z_m20 m3) (hzm4 : z_m20 m4) (hzm5 : z_m20 m5) : z_CX G l mX8_has 20 14 120 (z_cw S.1.1 S.1.2 (nI (sp_R S 0).length) (sp_F S 0) fa (sp_C S 0) (nI (sp_R S 1).length) (sp_F S 1) fb (sp_C S 1) mt false ft ct f0 g0 (sp_C S 2) (nI (sp_T S 0).length) 0 f1 g1 c1 (nI (sp_T S 1).length) 0 f2 g2 c2 (nI (sp_T S 2).length) 1 f3 g3 c3 m3 0 f4 g4 c4 m4 0 f5 g5 c5 m5 1 (nI (sp_E S 0).2.length) (sp_E S 0).1.2.1 (sp_E S 0).1.2.2.1 (sp_E S 0).1.2.2.2 (sp_E S 0).1.1 ef0 (nI (sp_E S 1).2.length) (sp_E S 1).1.2.1 (sp_E S 1).1.2.2.1 (sp_E S 1).1.2.2.2 (sp_E S 1).1.1 ef1 []) [.ref 0, .int t, .int k] (fun v L => sp_k32 t (sp_bk k) = 0 ∧ v = some (.int (z_bi (!(decide (sp_lk (sp_T S (sp_i t)) (sp_i k) = -1000))))) ∧ sp_CW (S) L) (fun E L => ((z_xI E ∧ sp_k32 t (sp_bk k) = 1) ∨ (z_xA E ∧ sp_k32 t (sp_bk k) = 2)) ∧ L = (z_cw S.1.1 S.1.2 (nI (sp_R S 0).length) (sp_F S 0) fa (sp_C S 0) (nI (sp_R S 1).length) (sp_F S 1) fb (sp_C S 1) mt false ft ct f0 g0 (sp_C S 2) (nI (sp_T S 0).length) 0 f1 g1 c1 (nI (sp_T S 1).length) 0 f2 g2 c2 (nI (sp_T S 2).length) 1 f3 g3 c3 m3 0 f4 g4 c4 m4 0 f5 g5 c5 m5 1 (nI (sp_E S 0).2.length) (sp_E S 0).1.2.1 (sp_E S 0).1.2.2.1 (sp_E S 0).1.2.2.2 (sp_E S 0).1.1 ef0 (nI (sp_E S 1).2.length) (sp_E S 1).1.2.1 (sp_E S 1).1.2.2.1 (sp_E S 1).1.2.2.2 (sp_E S 1).1.1 ef1 [])) := by
  refine z_body hl (by decide) rfl (Nat.le_of_ble_eq_true rfl) ?_
  show z_J G l mX8_has (z_SX 20 14 120 (z_cw S.1.1 S.1.2 (nI (sp_R S 0).length) (sp_F S 0) fa (sp_C S 0) (nI (sp_R S 1).length) (sp_F S 1) fb (sp_C S 1) mt false ft ct f0 g0 (sp_C S 2) (nI (sp_T S 0).length) 0 f1 g1 c1 (nI (sp_T S 1).length) 0 f2 g2 c2 (nI (sp_T S 2).length) 1 f3 g3 c3 m3 0 f4 g4 c4 m4 0 f5 g5 c5 m5 1 (nI (sp_E S 0).2.length) (sp_E S 0).1.2.1 (sp_E S 0).1.2.2.1 (sp_E S 0).1.2.2.2 (sp_E S 0).1.1 ef0 (nI (sp_E S 1).2.length) (sp_E S 1).1.2.1 (sp_E S 1).1.2.2.1 (sp_E S 1).1.2.2.2 (sp_E S 1).1.1 ef1 []) (fun v L => sp_k32 t (sp_bk k) = 0 ∧ v = some (.int (z_bi (!(decide (sp_lk (sp_T S (sp_i t)) (sp_i k) = -1000))))) ∧ sp_CW (S) L) (fun E L => ((z_xI E ∧ sp_k32 t (sp_bk k) = 1) ∨ (z_xA E ∧ sp_k32 t (sp_bk k) = 2)) ∧ L = (z_cw S.1.1 S.1.2 (nI (sp_R S 0).length) (sp_F S 0) fa (sp_C S 0) (nI (sp_R S 1).length) (sp_F S 1) fb (sp_C S 1) mt false ft ct f0 g0 (sp_C S 2) (nI (sp_T S 0).length) 0 f1 g1 c1 (nI (sp_T S 1).length) 0 f2 g2 c2 (nI (sp_T S 2).length) 1 f3 g3 c3 m3 0 f4 g4 c4 m4 0 f5 g5 c5 m5 1 (nI (sp_E S 0).2.length) (sp_E S 0).1.2.1 (sp_E S 0).1.2.2.1 (sp_E S 0).1.2.2.2 (sp_E S 0).1.1 ef0 (nI (sp_E S 1).2.length) (sp_E S 1).1.2.1 (sp_E S 1).1.2.2.1 (sp_E S 1).1.2.2.2 (sp_E S 1).1.1 ef1 []))) 0 [(0, _), (1, _), (2, _)] [] _ 0 0
  refine j_aload_n dX8_has_0 rfl rfl ?_
  refine j_iload_n dX8_has_1 rfl ?_
  refine j_iload_n dX8_has_2 rfl ?_
  refine j_callV (q := (RX8, TX8, 9)) dX8_has_3 kX8_tableFor_ lX8_126 inX8_tableFor_ seX8_tableFor_ rfl rfl (z_dirX (c_X8_tableFor__e hl _ _ _ _ _ _ _ _ _ _ _ _ _ _ _ _ _ _ _ _ _ _ _ _ _ _ _ _ _ _ _ _ _ _ _ _ _ _ _ _ _ _ _ _ _ _ _ _ _ _ _ _ _ _ _ _ _ _)) (Nat.le_of_ble_eq_true rfl) ⟨(Nat.le_of_ble_eq_true rfl), (Nat.le_of_ble_eq_true rfl)⟩ rfl (Nat.le_of_ble_eq_true rfl) rfl rfl (fun _ _ h => by obtain ⟨_, ⟨h1, rfl⟩, rfl⟩ := h; exact ⟨rfl, rfl, h1.elim (fun z => Or.inl ⟨z.1, sp_k32_1 z.2⟩) (fun z => Or.inr ⟨z.1, sp_k32_2 z.2.1 (z.2.2)⟩), rfl⟩) ?_
  rintro _ _ ⟨_, ⟨_, rfl, hr, hk3, rfl⟩, rfl⟩
  have hk0 := hk3
  obtain ⟨q, hq, rfl⟩ := sp_nt (m := 19) rfl (by decide) hk0
  rcases hr with ⟨e_3, rfl⟩ | ⟨e_3, rfl⟩ | ⟨e_3, rfl⟩
  · subst e_3
    refine j_iload_n dX8_has_6 rfl ?_
    refine j_callV (q := (RX4, TX4, 5)) dX8_has_7 kX4_look lX8_137 inX4_look seX4_look rfl rfl (z_frame [10, 11, 12, 13, 14] rfl (by decide) (Nat.le_of_ble_eq_true rfl) (c_X4_look_e hl false _ _ _ _ (sp_T S 0) q ht0 (by omega))) (Nat.le_of_ble_eq_true rfl) ⟨(Nat.le_of_ble_eq_true rfl), (Nat.le_of_ble_eq_true rfl)⟩ rfl (Nat.le_of_ble_eq_true rfl) rfl rfl (fun _ _ h => h.elim) ?_
    rintro _ _ ⟨_, _, ⟨rfl, rfl⟩, rfl, rfl⟩
    refine j_ws (L' := z_cw _ _ _ _ _ _ _ _ _ _ _ _ _ _ _ _ _ _ _ _ _ _ _ _ _ _ _ _ _ _ _ _ _ _ _ _ _ _ _ _ _ _ _ _ _ _ _ _ _ _ _ _ _ _ _ _ []) (by decide) rfl rfl ?_
    refine j_sipush (v := (-1000)) dX8_has_10 (by decide) ?_
    refine j_icmp_eq (tgt := 20) dX8_has_13 (by decide) (fun c_13 => ?_) (fun c_13 => ?_)
    · refine j_iconst (v := 0) dX8_has_20 (by decide) ?_
      refine j_iret dX8_has_21 rfl rfl ?_ (Nat.le_of_ble_eq_true rfl) (Nat.le_of_ble_eq_true rfl)
      refine ⟨rfl, (by first | exact z_cwl | rfl), ?_⟩
      rw [sp_i0, sp_in' (n := q) (by omega)]
      exact ⟨sp_k32_0 (Or.inl rfl) hk0, (by first | (rw [decide_eq_true c_13]; rfl) | (rw [decide_eq_false c_13]; rfl)), (sp_CWe hra hrb ht0 ht1 ht2 he0 he1 hzm3 hzm4 hzm5 rfl)⟩
    · refine j_iconst (v := 1) dX8_has_16 (by decide) ?_
      refine j_goto (tgt := 21) dX8_has_17 (by decide) ?_
      refine j_iret dX8_has_21 rfl rfl ?_ (Nat.le_of_ble_eq_true rfl) (Nat.le_of_ble_eq_true rfl)
      refine ⟨rfl, (by first | exact z_cwl | rfl), ?_⟩
      rw [sp_i0, sp_in' (n := q) (by omega)]
      exact ⟨sp_k32_0 (Or.inl rfl) hk0, (by first | (rw [decide_eq_true c_13]; rfl) | (rw [decide_eq_false c_13]; rfl)), (sp_CWe hra hrb ht0 ht1 ht2 he0 he1 hzm3 hzm4 hzm5 rfl)⟩
  · subst e_3
    refine j_iload_n dX8_has_6 rfl ?_
    refine j_callV (q := (RX4, TX4, 5)) dX8_has_7 kX4_look lX8_137 inX4_look seX4_look rfl rfl (z_frame [16, 17, 18, 19, 20] rfl (by decide) (Nat.le_of_ble_eq_true rfl) (c_X4_look_e hl false _ _ _ _ (sp_T S 1) q ht1 (by omega))) (Nat.le_of_ble_eq_true rfl) ⟨(Nat.le_of_ble_eq_true rfl), (Nat.le_of_ble_eq_true rfl)⟩ rfl (Nat.le_of_ble_eq_true rfl) rfl rfl (fun _ _ h => h.elim) ?_
    rintro _ _ ⟨_, _, ⟨rfl, rfl⟩, rfl, rfl⟩
    refine j_ws (L' := z_cw _ _ _ _ _ _ _ _ _ _ _ _ _ _ _ _ _ _ _ _ _ _ _ _ _ _ _ _ _ _ _ _ _ _ _ _ _ _ _ _ _ _ _ _ _ _ _ _ _ _ _ _ _ _ _ _ []) (by decide) rfl rfl ?_
    refine j_sipush (v := (-1000)) dX8_has_10 (by decide) ?_
    refine j_icmp_eq (tgt := 20) dX8_has_13 (by decide) (fun c_13 => ?_) (fun c_13 => ?_)
    · refine j_iconst (v := 0) dX8_has_20 (by decide) ?_
      refine j_iret dX8_has_21 rfl rfl ?_ (Nat.le_of_ble_eq_true rfl) (Nat.le_of_ble_eq_true rfl)
      refine ⟨rfl, (by first | exact z_cwl | rfl), ?_⟩
      rw [sp_i1, sp_in' (n := q) (by omega)]
      exact ⟨sp_k32_0 (Or.inr (Or.inl rfl)) hk0, (by first | (rw [decide_eq_true c_13]; rfl) | (rw [decide_eq_false c_13]; rfl)), (sp_CWe hra hrb ht0 ht1 ht2 he0 he1 hzm3 hzm4 hzm5 rfl)⟩
    · refine j_iconst (v := 1) dX8_has_16 (by decide) ?_
      refine j_goto (tgt := 21) dX8_has_17 (by decide) ?_
      refine j_iret dX8_has_21 rfl rfl ?_ (Nat.le_of_ble_eq_true rfl) (Nat.le_of_ble_eq_true rfl)
      refine ⟨rfl, (by first | exact z_cwl | rfl), ?_⟩
      rw [sp_i1, sp_in' (n := q) (by omega)]
      exact ⟨sp_k32_0 (Or.inr (Or.inl rfl)) hk0, (by first | (rw [decide_eq_true c_13]; rfl) | (rw [decide_eq_false c_13]; rfl)), (sp_CWe hra hrb ht0 ht1 ht2 he0 he1 hzm3 hzm4 hzm5 rfl)⟩
  · subst e_3
    refine j_iload_n dX8_has_6 rfl ?_
    refine j_callV (q := (RX4, TX4, 5)) dX8_has_7 kX4_look lX8_137 inX4_look seX4_look rfl rfl (z_frame [21, 22, 23, 24, 25] rfl (by decide) (Nat.le_of_ble_eq_true rfl) (c_X4_look_e hl true _ _ _ _ (sp_T S 2) q ht2 (by omega))) (Nat.le_of_ble_eq_true rfl) ⟨(Nat.le_of_ble_eq_true rfl), (Nat.le_of_ble_eq_true rfl)⟩ rfl (Nat.le_of_ble_eq_true rfl) rfl rfl (fun _ _ h => h.elim) ?_
    rintro _ _ ⟨_, _, ⟨rfl, rfl⟩, rfl, rfl⟩
    refine j_ws (L' := z_cw _ _ _ _ _ _ _ _ _ _ _ _ _ _ _ _ _ _ _ _ _ _ _ _ _ _ _ _ _ _ _ _ _ _ _ _ _ _ _ _ _ _ _ _ _ _ _ _ _ _ _ _ _ _ _ _ []) (by decide) rfl rfl ?_
    refine j_sipush (v := (-1000)) dX8_has_10 (by decide) ?_
    refine j_icmp_eq (tgt := 20) dX8_has_13 (by decide) (fun c_13 => ?_) (fun c_13 => ?_)
    · refine j_iconst (v := 0) dX8_has_20 (by decide) ?_
      refine j_iret dX8_has_21 rfl rfl ?_ (Nat.le_of_ble_eq_true rfl) (Nat.le_of_ble_eq_true rfl)
      refine ⟨rfl, (by first | exact z_cwl | rfl), ?_⟩
      rw [sp_i2, sp_in' (n := q) (by omega)]
      exact ⟨sp_k32_0 (Or.inr (Or.inr rfl)) hk0, (by first | (rw [decide_eq_true c_13]; rfl) | (rw [decide_eq_false c_13]; rfl)), (sp_CWe hra hrb ht0 ht1 ht2 he0 he1 hzm3 hzm4 hzm5 rfl)⟩
    · refine j_iconst (v := 1) dX8_has_16 (by decide) ?_
      refine j_goto (tgt := 21) dX8_has_17 (by decide) ?_
      refine j_iret dX8_has_21 rfl rfl ?_ (Nat.le_of_ble_eq_true rfl) (Nat.le_of_ble_eq_true rfl)
      refine ⟨rfl, (by first | exact z_cwl | rfl), ?_⟩
      rw [sp_i2, sp_in' (n := q) (by omega)]
      exact ⟨sp_k32_0 (Or.inr (Or.inr rfl)) hk0, (by first | (rw [decide_eq_true c_13]; rfl) | (rw [decide_eq_false c_13]; rfl)), (sp_CWe hra hrb ht0 ht1 ht2 he0 he1 hzm3 hzm4 hzm5 rfl)⟩
set_option maxRecDepth 100000 in
set_option maxHeartbeats 8000000 in
theorem c_X8_size_p (hl : l.stackTraces = false) (S : sp_S) (fa : Nat → Int32) (fb : Nat → Int32) (mt : Int32) (ft : Nat → Int32) (ct : Nat → Int32) (f0 : Nat → Int32) (g0 : Nat → Int32) (f1 : Nat → Int32) (g1 : Nat → Int32) (c1 : Nat → Int32) (f2 : Nat → Int32) (g2 : Nat → Int32) (c2 : Nat → Int32) (f3 : Nat → Int32) (g3 : Nat → Int32) (c3 : Nat → Int32) (m3 : Int32) (f4 : Nat → Int32) (g4 : Nat → Int32) (c4 : Nat → Int32) (m4 : Int32) (f5 : Nat → Int32) (g5 : Nat → Int32) (c5 : Nat → Int32) (m5 : Int32) (ef0 : Nat → Int32) (ef1 : Nat → Int32) (t : Int32) (ok : sp_ok S) (hra : z_row 12 (nI (sp_R S 0).length) fa (sp_R S 0)) (hrb : z_row 12 (nI (sp_R S 1).length) fb (sp_R S 1)) (ht0 : z_tba f0 g0 (sp_T S 0)) (ht1 : z_tba f1 g1 (sp_T S 1)) (ht2 : z_tba f2 g2 (sp_T S 2)) (he0 : z_row 10 (nI (sp_E S 0).2.length) ef0 (sp_E S 0).2) (he1 : z_row 10 (nI (sp_E S 1).2.length) ef1 (sp_E S 1).2) (hzm3 : z_m20 m3) (hzm4 : z_m20 m4) (hzm5 : z_m20 m5) : z_CX G l mX8_size 20 14 120 (z_cw S.1.1 S.1.2 (nI (sp_R S 0).length) (sp_F S 0) fa (sp_C S 0) (nI (sp_R S 1).length) (sp_F S 1) fb (sp_C S 1) mt false ft ct f0 g0 (sp_C S 2) (nI (sp_T S 0).length) 0 f1 g1 c1 (nI (sp_T S 1).length) 0 f2 g2 c2 (nI (sp_T S 2).length) 1 f3 g3 c3 m3 0 f4 g4 c4 m4 0 f5 g5 c5 m5 1 (nI (sp_E S 0).2.length) (sp_E S 0).1.2.1 (sp_E S 0).1.2.2.1 (sp_E S 0).1.2.2.2 (sp_E S 0).1.1 ef0 (nI (sp_E S 1).2.length) (sp_E S 1).1.2.1 (sp_E S 1).1.2.2.1 (sp_E S 1).1.2.2.2 (sp_E S 1).1.1 ef1 []) [.ref 0, .int t] (fun v L => sp_k3 t = 0 ∧ v = some (.int (nI (sp_T S (sp_i t)).length)) ∧ sp_CW (S) L) (fun E L => ((z_xI E ∧ sp_k3 t = 1)) ∧ L = (z_cw S.1.1 S.1.2 (nI (sp_R S 0).length) (sp_F S 0) fa (sp_C S 0) (nI (sp_R S 1).length) (sp_F S 1) fb (sp_C S 1) mt false ft ct f0 g0 (sp_C S 2) (nI (sp_T S 0).length) 0 f1 g1 c1 (nI (sp_T S 1).length) 0 f2 g2 c2 (nI (sp_T S 2).length) 1 f3 g3 c3 m3 0 f4 g4 c4 m4 0 f5 g5 c5 m5 1 (nI (sp_E S 0).2.length) (sp_E S 0).1.2.1 (sp_E S 0).1.2.2.1 (sp_E S 0).1.2.2.2 (sp_E S 0).1.1 ef0 (nI (sp_E S 1).2.length) (sp_E S 1).1.2.1 (sp_E S 1).1.2.2.1 (sp_E S 1).1.2.2.2 (sp_E S 1).1.1 ef1 [])) := by
  refine z_body hl (by decide) rfl (Nat.le_of_ble_eq_true rfl) ?_
  show z_J G l mX8_size (z_SX 20 14 120 (z_cw S.1.1 S.1.2 (nI (sp_R S 0).length) (sp_F S 0) fa (sp_C S 0) (nI (sp_R S 1).length) (sp_F S 1) fb (sp_C S 1) mt false ft ct f0 g0 (sp_C S 2) (nI (sp_T S 0).length) 0 f1 g1 c1 (nI (sp_T S 1).length) 0 f2 g2 c2 (nI (sp_T S 2).length) 1 f3 g3 c3 m3 0 f4 g4 c4 m4 0 f5 g5 c5 m5 1 (nI (sp_E S 0).2.length) (sp_E S 0).1.2.1 (sp_E S 0).1.2.2.1 (sp_E S 0).1.2.2.2 (sp_E S 0).1.1 ef0 (nI (sp_E S 1).2.length) (sp_E S 1).1.2.1 (sp_E S 1).1.2.2.1 (sp_E S 1).1.2.2.2 (sp_E S 1).1.1 ef1 []) (fun v L => sp_k3 t = 0 ∧ v = some (.int (nI (sp_T S (sp_i t)).length)) ∧ sp_CW (S) L) (fun E L => ((z_xI E ∧ sp_k3 t = 1)) ∧ L = (z_cw S.1.1 S.1.2 (nI (sp_R S 0).length) (sp_F S 0) fa (sp_C S 0) (nI (sp_R S 1).length) (sp_F S 1) fb (sp_C S 1) mt false ft ct f0 g0 (sp_C S 2) (nI (sp_T S 0).length) 0 f1 g1 c1 (nI (sp_T S 1).length) 0 f2 g2 c2 (nI (sp_T S 2).length) 1 f3 g3 c3 m3 0 f4 g4 c4 m4 0 f5 g5 c5 m5 1 (nI (sp_E S 0).2.length) (sp_E S 0).1.2.1 (sp_E S 0).1.2.2.1 (sp_E S 0).1.2.2.2 (sp_E S 0).1.1 ef0 (nI (sp_E S 1).2.length) (sp_E S 1).1.2.1 (sp_E S 1).1.2.2.1 (sp_E S 1).1.2.2.2 (sp_E S 1).1.1 ef1 []))) 0 [(0, _), (1, _)] [] _ 0 0
  refine j_aload_n dX8_size_0 rfl rfl ?_
  refine j_iload_n dX8_size_1 rfl ?_
  refine j_callV (q := (RX8, TX8, 9)) dX8_size_2 kX8_tableFor lX8_157 inX8_tableFor seX8_tableFor rfl rfl (z_dirX (c_X8_tableFor_e hl _ _ _ _ _ _ _ _ _ _ _ _ _ _ _ _ _ _ _ _ _ _ _ _ _ _ _ _ _ _ _ _ _ _ _ _ _ _ _ _ _ _ _ _ _ _ _ _ _ _ _ _ _ _ _ _ _)) (Nat.le_of_ble_eq_true rfl) ⟨(Nat.le_of_ble_eq_true rfl), (Nat.le_of_ble_eq_true rfl)⟩ rfl (Nat.le_of_ble_eq_true rfl) rfl rfl (fun _ _ h => by obtain ⟨_, ⟨h1, rfl⟩, rfl⟩ := h; exact ⟨rfl, rfl, ⟨h1.1, sp_k3_1 h1.2⟩, rfl⟩) ?_
  rintro _ _ ⟨_, ⟨_, rfl, hr, rfl⟩, rfl⟩
  rcases hr with ⟨e_2, rfl⟩ | ⟨e_2, rfl⟩ | ⟨e_2, rfl⟩
  · subst e_2
    refine j_getf dX8_size_5 fX8_165 rfl rfl ?_
    refine j_iret dX8_size_8 rfl rfl ?_ (Nat.le_of_ble_eq_true rfl) (Nat.le_of_ble_eq_true rfl)
    refine ⟨rfl, (by first | exact z_cwl | rfl), ?_⟩
    rw [sp_i0]
    exact ⟨sp_k3_0 (Or.inl rfl), rfl, (sp_CWe hra hrb ht0 ht1 ht2 he0 he1 hzm3 hzm4 hzm5 rfl)⟩
  · subst e_2
    refine j_getf dX8_size_5 fX8_165 rfl rfl ?_
    refine j_iret dX8_size_8 rfl rfl ?_ (Nat.le_of_ble_eq_true rfl) (Nat.le_of_ble_eq_true rfl)
    refine ⟨rfl, (by first | exact z_cwl | rfl), ?_⟩
    rw [sp_i1]
    exact ⟨sp_k3_0 (Or.inr (Or.inl rfl)), rfl, (sp_CWe hra hrb ht0 ht1 ht2 he0 he1 hzm3 hzm4 hzm5 rfl)⟩
  · subst e_2
    refine j_getf dX8_size_5 fX8_165 rfl rfl ?_
    refine j_iret dX8_size_8 rfl rfl ?_ (Nat.le_of_ble_eq_true rfl) (Nat.le_of_ble_eq_true rfl)
    refine ⟨rfl, (by first | exact z_cwl | rfl), ?_⟩
    rw [sp_i2]
    exact ⟨sp_k3_0 (Or.inr (Or.inr rfl)), rfl, (sp_CWe hra hrb ht0 ht1 ht2 he0 he1 hzm3 hzm4 hzm5 rfl)⟩
set_option maxRecDepth 100000 in
set_option maxHeartbeats 8000000 in
theorem c_X8_areLike_p (hl : l.stackTraces = false) (S : sp_S) (fa : Nat → Int32) (fb : Nat → Int32) (mt : Int32) (ft : Nat → Int32) (ct : Nat → Int32) (f0 : Nat → Int32) (g0 : Nat → Int32) (f1 : Nat → Int32) (g1 : Nat → Int32) (c1 : Nat → Int32) (f2 : Nat → Int32) (g2 : Nat → Int32) (c2 : Nat → Int32) (f3 : Nat → Int32) (g3 : Nat → Int32) (c3 : Nat → Int32) (m3 : Int32) (f4 : Nat → Int32) (g4 : Nat → Int32) (c4 : Nat → Int32) (m4 : Int32) (f5 : Nat → Int32) (g5 : Nat → Int32) (c5 : Nat → Int32) (m5 : Int32) (ef0 : Nat → Int32) (ef1 : Nat → Int32) (t : Int32) (u : Int32) (ok : sp_ok S) (hra : z_row 12 (nI (sp_R S 0).length) fa (sp_R S 0)) (hrb : z_row 12 (nI (sp_R S 1).length) fb (sp_R S 1)) (ht0 : z_tba f0 g0 (sp_T S 0)) (ht1 : z_tba f1 g1 (sp_T S 1)) (ht2 : z_tba f2 g2 (sp_T S 2)) (he0 : z_row 10 (nI (sp_E S 0).2.length) ef0 (sp_E S 0).2) (he1 : z_row 10 (nI (sp_E S 1).2.length) ef1 (sp_E S 1).2) (hzm3 : z_m20 m3) (hzm4 : z_m20 m4) (hzm5 : z_m20 m5) : z_CX G l mX8_areLike 20 14 120 (z_cw S.1.1 S.1.2 (nI (sp_R S 0).length) (sp_F S 0) fa (sp_C S 0) (nI (sp_R S 1).length) (sp_F S 1) fb (sp_C S 1) mt false ft ct f0 g0 (sp_C S 2) (nI (sp_T S 0).length) 0 f1 g1 c1 (nI (sp_T S 1).length) 0 f2 g2 c2 (nI (sp_T S 2).length) 1 f3 g3 c3 m3 0 f4 g4 c4 m4 0 f5 g5 c5 m5 1 (nI (sp_E S 0).2.length) (sp_E S 0).1.2.1 (sp_E S 0).1.2.2.1 (sp_E S 0).1.2.2.2 (sp_E S 0).1.1 ef0 (nI (sp_E S 1).2.length) (sp_E S 1).1.2.1 (sp_E S 1).1.2.2.1 (sp_E S 1).1.2.2.2 (sp_E S 1).1.1 ef1 []) [.ref 0, .int t, .int u] (fun v L => sp_k33 t u = 0 ∧ v = some (.int (z_bi (sp_lik (sp_T S (sp_i t)) (sp_T S (sp_i u))))) ∧ sp_CW (S) L) (fun E L => ((z_xI E ∧ sp_k33 t u = 1)) ∧ L = (z_cw S.1.1 S.1.2 (nI (sp_R S 0).length) (sp_F S 0) fa (sp_C S 0) (nI (sp_R S 1).length) (sp_F S 1) fb (sp_C S 1) mt false ft ct f0 g0 (sp_C S 2) (nI (sp_T S 0).length) 0 f1 g1 c1 (nI (sp_T S 1).length) 0 f2 g2 c2 (nI (sp_T S 2).length) 1 f3 g3 c3 m3 0 f4 g4 c4 m4 0 f5 g5 c5 m5 1 (nI (sp_E S 0).2.length) (sp_E S 0).1.2.1 (sp_E S 0).1.2.2.1 (sp_E S 0).1.2.2.2 (sp_E S 0).1.1 ef0 (nI (sp_E S 1).2.length) (sp_E S 1).1.2.1 (sp_E S 1).1.2.2.1 (sp_E S 1).1.2.2.2 (sp_E S 1).1.1 ef1 [])) := by
  refine z_body hl (by decide) rfl (Nat.le_of_ble_eq_true rfl) ?_
  show z_J G l mX8_areLike (z_SX 20 14 120 (z_cw S.1.1 S.1.2 (nI (sp_R S 0).length) (sp_F S 0) fa (sp_C S 0) (nI (sp_R S 1).length) (sp_F S 1) fb (sp_C S 1) mt false ft ct f0 g0 (sp_C S 2) (nI (sp_T S 0).length) 0 f1 g1 c1 (nI (sp_T S 1).length) 0 f2 g2 c2 (nI (sp_T S 2).length) 1 f3 g3 c3 m3 0 f4 g4 c4 m4 0 f5 g5 c5 m5 1 (nI (sp_E S 0).2.length) (sp_E S 0).1.2.1 (sp_E S 0).1.2.2.1 (sp_E S 0).1.2.2.2 (sp_E S 0).1.1 ef0 (nI (sp_E S 1).2.length) (sp_E S 1).1.2.1 (sp_E S 1).1.2.2.1 (sp_E S 1).1.2.2.2 (sp_E S 1).1.1 ef1 []) (fun v L => sp_k33 t u = 0 ∧ v = some (.int (z_bi (sp_lik (sp_T S (sp_i t)) (sp_T S (sp_i u))))) ∧ sp_CW (S) L) (fun E L => ((z_xI E ∧ sp_k33 t u = 1)) ∧ L = (z_cw S.1.1 S.1.2 (nI (sp_R S 0).length) (sp_F S 0) fa (sp_C S 0) (nI (sp_R S 1).length) (sp_F S 1) fb (sp_C S 1) mt false ft ct f0 g0 (sp_C S 2) (nI (sp_T S 0).length) 0 f1 g1 c1 (nI (sp_T S 1).length) 0 f2 g2 c2 (nI (sp_T S 2).length) 1 f3 g3 c3 m3 0 f4 g4 c4 m4 0 f5 g5 c5 m5 1 (nI (sp_E S 0).2.length) (sp_E S 0).1.2.1 (sp_E S 0).1.2.2.1 (sp_E S 0).1.2.2.2 (sp_E S 0).1.1 ef0 (nI (sp_E S 1).2.length) (sp_E S 1).1.2.1 (sp_E S 1).1.2.2.1 (sp_E S 1).1.2.2.2 (sp_E S 1).1.1 ef1 []))) 0 [(0, _), (1, _), (2, _)] [] _ 0 0
  refine j_aload_n dX8_areLike_0 rfl rfl ?_
  refine j_iload_n dX8_areLike_1 rfl ?_
  refine j_callV (q := (RX8, TX8, 9)) dX8_areLike_2 kX8_tableFor lX8_157 inX8_tableFor seX8_tableFor rfl rfl (z_dirX (c_X8_tableFor_e hl _ _ _ _ _ _ _ _ _ _ _ _ _ _ _ _ _ _ _ _ _ _ _ _ _ _ _ _ _ _ _ _ _ _ _ _ _ _ _ _ _ _ _ _ _ _ _ _ _ _ _ _ _ _ _ _ _)) (Nat.le_of_ble_eq_true rfl) ⟨(Nat.le_of_ble_eq_true rfl), (Nat.le_of_ble_eq_true rfl)⟩ rfl (Nat.le_of_ble_eq_true rfl) rfl rfl (fun _ _ h => by obtain ⟨_, ⟨h1, rfl⟩, rfl⟩ := h; exact ⟨rfl, rfl, ⟨h1.1, sp_k33_1 h1.2⟩, rfl⟩) ?_
  rintro _ _ ⟨_, ⟨_, rfl, hr, rfl⟩, rfl⟩
  rcases hr with ⟨e_2, rfl⟩ | ⟨e_2, rfl⟩ | ⟨e_2, rfl⟩
  · subst e_2
    refine j_astore_n (lo' := [(3, _), (0, _), (1, _), (2, _)]) dX8_areLike_5 rfl (by decide) rfl ?_
    refine j_aload_n dX8_areLike_6 rfl rfl ?_
    refine j_aload_n dX8_areLike_7 rfl rfl ?_
    refine j_iload_n dX8_areLike_8 rfl ?_
    refine j_callV (q := (RX8, TX8, 9)) dX8_areLike_9 kX8_tableFor lX8_157 inX8_tableFor seX8_tableFor rfl rfl (z_dirX (c_X8_tableFor_e hl _ _ _ _ _ _ _ _ _ _ _ _ _ _ _ _ _ _ _ _ _ _ _ _ _ _ _ _ _ _ _ _ _ _ _ _ _ _ _ _ _ _ _ _ _ _ _ _ _ _ _ _ _ _ _ _ _)) (Nat.le_of_ble_eq_true rfl) ⟨(Nat.le_of_ble_eq_true rfl), (Nat.le_of_ble_eq_true rfl)⟩ rfl (Nat.le_of_ble_eq_true rfl) rfl rfl (fun _ _ h => by obtain ⟨_, ⟨h1, rfl⟩, rfl⟩ := h; exact ⟨rfl, rfl, ⟨h1.1, sp_k33_1' h1.2⟩, rfl⟩) ?_
    rintro _ _ ⟨_, ⟨_, rfl, hr, rfl⟩, rfl⟩
    rcases hr with ⟨e_9, rfl⟩ | ⟨e_9, rfl⟩ | ⟨e_9, rfl⟩
    · subst e_9
      refine j_callV (q := (RX4, TX4, 5)) dX8_areLike_12 kX4_hasPairsOf lX8_230 inX4_hasPairsOf seX4_hasPairsOf rfl rfl (z_frame [10, 11, 12, 13, 14] rfl (by decide) (Nat.le_of_ble_eq_true rfl) (c_X4_hasPairsOf_s_e hl false _ _ _ (sp_T S 0) ht0)) (Nat.le_of_ble_eq_true rfl) ⟨(Nat.le_of_ble_eq_true rfl), (Nat.le_of_ble_eq_true rfl)⟩ rfl (Nat.le_of_ble_eq_true rfl) rfl rfl (fun _ _ h => h.elim) ?_
      rintro _ _ ⟨_, _, ⟨rfl, rfl⟩, rfl, rfl⟩
      refine j_ws (L' := z_cw _ _ _ _ _ _ _ _ _ _ _ _ _ _ _ _ _ _ _ _ _ _ _ _ _ _ _ _ _ _ _ _ _ _ _ _ _ _ _ _ _ _ _ _ _ _ _ _ _ _ _ _ _ _ _ _ []) (by decide) rfl rfl ?_
      refine j_iret dX8_areLike_15 rfl (z_bn _) ?_ (Nat.le_of_ble_eq_true rfl) (Nat.le_of_ble_eq_true rfl)
      refine ⟨rfl, (by first | exact z_cwl | rfl), ?_⟩
      try rw [sp_i0]
      exact ⟨sp_k33_0 (Or.inl rfl) (Or.inl rfl), rfl, (sp_CWe hra hrb ht0 ht1 ht2 he0 he1 hzm3 hzm4 hzm5 rfl)⟩
    · subst e_9
      refine j_callV (q := (RX4, TX4, 5)) dX8_areLike_12 kX4_hasPairsOf lX8_230 inX4_hasPairsOf seX4_hasPairsOf rfl rfl (z_frame [10, 11, 12, 13, 14, 16, 17, 18, 19, 20] rfl (by decide) (Nat.le_of_ble_eq_true rfl) (c_X4_hasPairsOf_e hl false _ _ _ (sp_T S 0) false _ _ _ (sp_T S 1) ht0 ht1)) (Nat.le_of_ble_eq_true rfl) ⟨(Nat.le_of_ble_eq_true rfl), (Nat.le_of_ble_eq_true rfl)⟩ rfl (Nat.le_of_ble_eq_true rfl) rfl rfl (fun _ _ h => h.elim) ?_
      rintro _ _ ⟨_, _, ⟨rfl, rfl⟩, rfl, rfl⟩
      refine j_ws (L' := z_cw _ _ _ _ _ _ _ _ _ _ _ _ _ _ _ _ _ _ _ _ _ _ _ _ _ _ _ _ _ _ _ _ _ _ _ _ _ _ _ _ _ _ _ _ _ _ _ _ _ _ _ _ _ _ _ _ []) (by decide) rfl rfl ?_
      refine j_iret dX8_areLike_15 rfl (z_bn _) ?_ (Nat.le_of_ble_eq_true rfl) (Nat.le_of_ble_eq_true rfl)
      refine ⟨rfl, (by first | exact z_cwl | rfl), ?_⟩
      try rw [sp_i0]
      try rw [sp_i1]
      exact ⟨sp_k33_0 (Or.inl rfl) (Or.inr (Or.inl rfl)), rfl, (sp_CWe hra hrb ht0 ht1 ht2 he0 he1 hzm3 hzm4 hzm5 rfl)⟩
    · subst e_9
      refine j_callV (q := (RX4, TX4, 5)) dX8_areLike_12 kX4_hasPairsOf lX8_230 inX4_hasPairsOf seX4_hasPairsOf rfl rfl (z_frame [10, 11, 12, 13, 14, 21, 22, 23, 24, 25] rfl (by decide) (Nat.le_of_ble_eq_true rfl) (c_X4_hasPairsOf_e hl false _ _ _ (sp_T S 0) true _ _ _ (sp_T S 2) ht0 ht2)) (Nat.le_of_ble_eq_true rfl) ⟨(Nat.le_of_ble_eq_true rfl), (Nat.le_of_ble_eq_true rfl)⟩ rfl (Nat.le_of_ble_eq_true rfl) rfl rfl (fun _ _ h => h.elim) ?_
      rintro _ _ ⟨_, _, ⟨rfl, rfl⟩, rfl, rfl⟩
      refine j_ws (L' := z_cw _ _ _ _ _ _ _ _ _ _ _ _ _ _ _ _ _ _ _ _ _ _ _ _ _ _ _ _ _ _ _ _ _ _ _ _ _ _ _ _ _ _ _ _ _ _ _ _ _ _ _ _ _ _ _ _ []) (by decide) rfl rfl ?_
      refine j_iret dX8_areLike_15 rfl (z_bn _) ?_ (Nat.le_of_ble_eq_true rfl) (Nat.le_of_ble_eq_true rfl)
      refine ⟨rfl, (by first | exact z_cwl | rfl), ?_⟩
      try rw [sp_i0]
      try rw [sp_i2]
      exact ⟨sp_k33_0 (Or.inl rfl) (Or.inr (Or.inr rfl)), rfl, (sp_CWe hra hrb ht0 ht1 ht2 he0 he1 hzm3 hzm4 hzm5 rfl)⟩
  · subst e_2
    refine j_astore_n (lo' := [(3, _), (0, _), (1, _), (2, _)]) dX8_areLike_5 rfl (by decide) rfl ?_
    refine j_aload_n dX8_areLike_6 rfl rfl ?_
    refine j_aload_n dX8_areLike_7 rfl rfl ?_
    refine j_iload_n dX8_areLike_8 rfl ?_
    refine j_callV (q := (RX8, TX8, 9)) dX8_areLike_9 kX8_tableFor lX8_157 inX8_tableFor seX8_tableFor rfl rfl (z_dirX (c_X8_tableFor_e hl _ _ _ _ _ _ _ _ _ _ _ _ _ _ _ _ _ _ _ _ _ _ _ _ _ _ _ _ _ _ _ _ _ _ _ _ _ _ _ _ _ _ _ _ _ _ _ _ _ _ _ _ _ _ _ _ _)) (Nat.le_of_ble_eq_true rfl) ⟨(Nat.le_of_ble_eq_true rfl), (Nat.le_of_ble_eq_true rfl)⟩ rfl (Nat.le_of_ble_eq_true rfl) rfl rfl (fun _ _ h => by obtain ⟨_, ⟨h1, rfl⟩, rfl⟩ := h; exact ⟨rfl, rfl, ⟨h1.1, sp_k33_1' h1.2⟩, rfl⟩) ?_
    rintro _ _ ⟨_, ⟨_, rfl, hr, rfl⟩, rfl⟩
    rcases hr with ⟨e_9, rfl⟩ | ⟨e_9, rfl⟩ | ⟨e_9, rfl⟩
    · subst e_9
      refine j_callV (q := (RX4, TX4, 5)) dX8_areLike_12 kX4_hasPairsOf lX8_230 inX4_hasPairsOf seX4_hasPairsOf rfl rfl (z_frame [16, 17, 18, 19, 20, 10, 11, 12, 13, 14] rfl (by decide) (Nat.le_of_ble_eq_true rfl) (c_X4_hasPairsOf_e hl false _ _ _ (sp_T S 1) false _ _ _ (sp_T S 0) ht1 ht0)) (Nat.le_of_ble_eq_true rfl) ⟨(Nat.le_of_ble_eq_true rfl), (Nat.le_of_ble_eq_true rfl)⟩ rfl (Nat.le_of_ble_eq_true rfl) rfl rfl (fun _ _ h => h.elim) ?_
      rintro _ _ ⟨_, _, ⟨rfl, rfl⟩, rfl, rfl⟩
      refine j_ws (L' := z_cw _ _ _ _ _ _ _ _ _ _ _ _ _ _ _ _ _ _ _ _ _ _ _ _ _ _ _ _ _ _ _ _ _ _ _ _ _ _ _ _ _ _ _ _ _ _ _ _ _ _ _ _ _ _ _ _ []) (by decide) rfl rfl ?_
      refine j_iret dX8_areLike_15 rfl (z_bn _) ?_ (Nat.le_of_ble_eq_true rfl) (Nat.le_of_ble_eq_true rfl)
      refine ⟨rfl, (by first | exact z_cwl | rfl), ?_⟩
      try rw [sp_i0]
      try rw [sp_i1]
      exact ⟨sp_k33_0 (Or.inr (Or.inl rfl)) (Or.inl rfl), rfl, (sp_CWe hra hrb ht0 ht1 ht2 he0 he1 hzm3 hzm4 hzm5 rfl)⟩
    · subst e_9
      refine j_callV (q := (RX4, TX4, 5)) dX8_areLike_12 kX4_hasPairsOf lX8_230 inX4_hasPairsOf seX4_hasPairsOf rfl rfl (z_frame [16, 17, 18, 19, 20] rfl (by decide) (Nat.le_of_ble_eq_true rfl) (c_X4_hasPairsOf_s_e hl false _ _ _ (sp_T S 1) ht1)) (Nat.le_of_ble_eq_true rfl) ⟨(Nat.le_of_ble_eq_true rfl), (Nat.le_of_ble_eq_true rfl)⟩ rfl (Nat.le_of_ble_eq_true rfl) rfl rfl (fun _ _ h => h.elim) ?_
      rintro _ _ ⟨_, _, ⟨rfl, rfl⟩, rfl, rfl⟩
      refine j_ws (L' := z_cw _ _ _ _ _ _ _ _ _ _ _ _ _ _ _ _ _ _ _ _ _ _ _ _ _ _ _ _ _ _ _ _ _ _ _ _ _ _ _ _ _ _ _ _ _ _ _ _ _ _ _ _ _ _ _ _ []) (by decide) rfl rfl ?_
      refine j_iret dX8_areLike_15 rfl (z_bn _) ?_ (Nat.le_of_ble_eq_true rfl) (Nat.le_of_ble_eq_true rfl)
      refine ⟨rfl, (by first | exact z_cwl | rfl), ?_⟩
      try rw [sp_i1]
      exact ⟨sp_k33_0 (Or.inr (Or.inl rfl)) (Or.inr (Or.inl rfl)), rfl, (sp_CWe hra hrb ht0 ht1 ht2 he0 he1 hzm3 hzm4 hzm5 rfl)⟩
    · subst e_9
      refine j_callV (q := (RX4, TX4, 5)) dX8_areLike_12 kX4_hasPairsOf lX8_230 inX4_hasPairsOf seX4_hasPairsOf rfl rfl (z_frame [16, 17, 18, 19, 20, 21, 22, 23, 24, 25] rfl (by decide) (Nat.le_of_ble_eq_true rfl) (c_X4_hasPairsOf_e hl false _ _ _ (sp_T S 1) true _ _ _ (sp_T S 2) ht1 ht2)) (Nat.le_of_ble_eq_true rfl) ⟨(Nat.le_of_ble_eq_true rfl), (Nat.le_of_ble_eq_true rfl)⟩ rfl (Nat.le_of_ble_eq_true rfl) rfl rfl (fun _ _ h => h.elim) ?_
      rintro _ _ ⟨_, _, ⟨rfl, rfl⟩, rfl, rfl⟩
      refine j_ws (L' := z_cw _ _ _ _ _ _ _ _ _ _ _ _ _ _ _ _ _ _ _ _ _ _ _ _ _ _ _ _ _ _ _ _ _ _ _ _ _ _ _ _ _ _ _ _ _ _ _ _ _ _ _ _ _ _ _ _ []) (by decide) rfl rfl ?_
      refine j_iret dX8_areLike_15 rfl (z_bn _) ?_ (Nat.le_of_ble_eq_true rfl) (Nat.le_of_ble_eq_true rfl)
      refine ⟨rfl, (by first | exact z_cwl | rfl), ?_⟩
      try rw [sp_i1]
      try rw [sp_i2]
      exact ⟨sp_k33_0 (Or.inr (Or.inl rfl)) (Or.inr (Or.inr rfl)), rfl, (sp_CWe hra hrb ht0 ht1 ht2 he0 he1 hzm3 hzm4 hzm5 rfl)⟩
  · subst e_2
    refine j_astore_n (lo' := [(3, _), (0, _), (1, _), (2, _)]) dX8_areLike_5 rfl (by decide) rfl ?_
    refine j_aload_n dX8_areLike_6 rfl rfl ?_
    refine j_aload_n dX8_areLike_7 rfl rfl ?_
    refine j_iload_n dX8_areLike_8 rfl ?_
    refine j_callV (q := (RX8, TX8, 9)) dX8_areLike_9 kX8_tableFor lX8_157 inX8_tableFor seX8_tableFor rfl rfl (z_dirX (c_X8_tableFor_e hl _ _ _ _ _ _ _ _ _ _ _ _ _ _ _ _ _ _ _ _ _ _ _ _ _ _ _ _ _ _ _ _ _ _ _ _ _ _ _ _ _ _ _ _ _ _ _ _ _ _ _ _ _ _ _ _ _)) (Nat.le_of_ble_eq_true rfl) ⟨(Nat.le_of_ble_eq_true rfl), (Nat.le_of_ble_eq_true rfl)⟩ rfl (Nat.le_of_ble_eq_true rfl) rfl rfl (fun _ _ h => by obtain ⟨_, ⟨h1, rfl⟩, rfl⟩ := h; exact ⟨rfl, rfl, ⟨h1.1, sp_k33_1' h1.2⟩, rfl⟩) ?_
    rintro _ _ ⟨_, ⟨_, rfl, hr, rfl⟩, rfl⟩
    rcases hr with ⟨e_9, rfl⟩ | ⟨e_9, rfl⟩ | ⟨e_9, rfl⟩
    · subst e_9
      refine j_callV (q := (RX4, TX4, 5)) dX8_areLike_12 kX4_hasPairsOf lX8_230 inX4_hasPairsOf seX4_hasPairsOf rfl rfl (z_frame [21, 22, 23, 24, 25, 10, 11, 12, 13, 14] rfl (by decide) (Nat.le_of_ble_eq_true rfl) (c_X4_hasPairsOf_e hl true _ _ _ (sp_T S 2) false _ _ _ (sp_T S 0) ht2 ht0)) (Nat.le_of_ble_eq_true rfl) ⟨(Nat.le_of_ble_eq_true rfl), (Nat.le_of_ble_eq_true rfl)⟩ rfl (Nat.le_of_ble_eq_true rfl) rfl rfl (fun _ _ h => h.elim) ?_
      rintro _ _ ⟨_, _, ⟨rfl, rfl⟩, rfl, rfl⟩
      refine j_ws (L' := z_cw _ _ _ _ _ _ _ _ _ _ _ _ _ _ _ _ _ _ _ _ _ _ _ _ _ _ _ _ _ _ _ _ _ _ _ _ _ _ _ _ _ _ _ _ _ _ _ _ _ _ _ _ _ _ _ _ []) (by decide) rfl rfl ?_
      refine j_iret dX8_areLike_15 rfl (z_bn _) ?_ (Nat.le_of_ble_eq_true rfl) (Nat.le_of_ble_eq_true rfl)
      refine ⟨rfl, (by first | exact z_cwl | rfl), ?_⟩
      try rw [sp_i0]
      try rw [sp_i2]
      exact ⟨sp_k33_0 (Or.inr (Or.inr rfl)) (Or.inl rfl), rfl, (sp_CWe hra hrb ht0 ht1 ht2 he0 he1 hzm3 hzm4 hzm5 rfl)⟩
    · subst e_9
      refine j_callV (q := (RX4, TX4, 5)) dX8_areLike_12 kX4_hasPairsOf lX8_230 inX4_hasPairsOf seX4_hasPairsOf rfl rfl (z_frame [21, 22, 23, 24, 25, 16, 17, 18, 19, 20] rfl (by decide) (Nat.le_of_ble_eq_true rfl) (c_X4_hasPairsOf_e hl true _ _ _ (sp_T S 2) false _ _ _ (sp_T S 1) ht2 ht1)) (Nat.le_of_ble_eq_true rfl) ⟨(Nat.le_of_ble_eq_true rfl), (Nat.le_of_ble_eq_true rfl)⟩ rfl (Nat.le_of_ble_eq_true rfl) rfl rfl (fun _ _ h => h.elim) ?_
      rintro _ _ ⟨_, _, ⟨rfl, rfl⟩, rfl, rfl⟩
      refine j_ws (L' := z_cw _ _ _ _ _ _ _ _ _ _ _ _ _ _ _ _ _ _ _ _ _ _ _ _ _ _ _ _ _ _ _ _ _ _ _ _ _ _ _ _ _ _ _ _ _ _ _ _ _ _ _ _ _ _ _ _ []) (by decide) rfl rfl ?_
      refine j_iret dX8_areLike_15 rfl (z_bn _) ?_ (Nat.le_of_ble_eq_true rfl) (Nat.le_of_ble_eq_true rfl)
      refine ⟨rfl, (by first | exact z_cwl | rfl), ?_⟩
      try rw [sp_i1]
      try rw [sp_i2]
      exact ⟨sp_k33_0 (Or.inr (Or.inr rfl)) (Or.inr (Or.inl rfl)), rfl, (sp_CWe hra hrb ht0 ht1 ht2 he0 he1 hzm3 hzm4 hzm5 rfl)⟩
    · subst e_9
      refine j_callV (q := (RX4, TX4, 5)) dX8_areLike_12 kX4_hasPairsOf lX8_230 inX4_hasPairsOf seX4_hasPairsOf rfl rfl (z_frame [21, 22, 23, 24, 25] rfl (by decide) (Nat.le_of_ble_eq_true rfl) (c_X4_hasPairsOf_s_e hl true _ _ _ (sp_T S 2) ht2)) (Nat.le_of_ble_eq_true rfl) ⟨(Nat.le_of_ble_eq_true rfl), (Nat.le_of_ble_eq_true rfl)⟩ rfl (Nat.le_of_ble_eq_true rfl) rfl rfl (fun _ _ h => h.elim) ?_
      rintro _ _ ⟨_, _, ⟨rfl, rfl⟩, rfl, rfl⟩
      refine j_ws (L' := z_cw _ _ _ _ _ _ _ _ _ _ _ _ _ _ _ _ _ _ _ _ _ _ _ _ _ _ _ _ _ _ _ _ _ _ _ _ _ _ _ _ _ _ _ _ _ _ _ _ _ _ _ _ _ _ _ _ []) (by decide) rfl rfl ?_
      refine j_iret dX8_areLike_15 rfl (z_bn _) ?_ (Nat.le_of_ble_eq_true rfl) (Nat.le_of_ble_eq_true rfl)
      refine ⟨rfl, (by first | exact z_cwl | rfl), ?_⟩
      try rw [sp_i2]
      exact ⟨sp_k33_0 (Or.inr (Or.inr rfl)) (Or.inr (Or.inr rfl)), rfl, (sp_CWe hra hrb ht0 ht1 ht2 he0 he1 hzm3 hzm4 hzm5 rfl)⟩
end ZCp3
end ZM4
section ZM5
section ZCp4
variable {G : z_G} {l : Launch}
set_option maxRecDepth 100000 in
set_option maxHeartbeats 8000000 in
theorem c_X8_hearSpan_p (hl : l.stackTraces = false) (S : sp_S) (fa : Nat → Int32) (fb : Nat → Int32) (mt : Int32) (ft : Nat → Int32) (ct : Nat → Int32) (f0 : Nat → Int32) (g0 : Nat → Int32) (f1 : Nat → Int32) (g1 : Nat → Int32) (c1 : Nat → Int32) (f2 : Nat → Int32) (g2 : Nat → Int32) (c2 : Nat → Int32) (f3 : Nat → Int32) (g3 : Nat → Int32) (c3 : Nat → Int32) (m3 : Int32) (f4 : Nat → Int32) (g4 : Nat → Int32) (c4 : Nat → Int32) (m4 : Int32) (f5 : Nat → Int32) (g5 : Nat → Int32) (c5 : Nat → Int32) (m5 : Int32) (ef0 : Nat → Int32) (ef1 : Nat → Int32) (a : Int32) (b : Int32) (c : Int32) (g : Int32) (ok : sp_ok S) (hra : z_row 12 (nI (sp_R S 0).length) fa (sp_R S 0)) (hrb : z_row 12 (nI (sp_R S 1).length) fb (sp_R S 1)) (ht0 : z_tba f0 g0 (sp_T S 0)) (ht1 : z_tba f1 g1 (sp_T S 1)) (ht2 : z_tba f2 g2 (sp_T S 2)) (he0 : z_row 10 (nI (sp_E S 0).2.length) ef0 (sp_E S 0).2) (he1 : z_row 10 (nI (sp_E S 1).2.length) ef1 (sp_E S 1).2) (hzm3 : z_m20 m3) (hzm4 : z_m20 m4) (hzm5 : z_m20 m5) : z_CX G l mX8_hearSpan 20 14 120 (z_cw S.1.1 S.1.2 (nI (sp_R S 0).length) (sp_F S 0) fa (sp_C S 0) (nI (sp_R S 1).length) (sp_F S 1) fb (sp_C S 1) mt false ft ct f0 g0 (sp_C S 2) (nI (sp_T S 0).length) 0 f1 g1 c1 (nI (sp_T S 1).length) 0 f2 g2 c2 (nI (sp_T S 2).length) 1 f3 g3 c3 m3 0 f4 g4 c4 m4 0 f5 g5 c5 m5 1 (nI (sp_E S 0).2.length) (sp_E S 0).1.2.1 (sp_E S 0).1.2.2.1 (sp_E S 0).1.2.2.2 (sp_E S 0).1.1 ef0 (nI (sp_E S 1).2.length) (sp_E S 1).1.2.1 (sp_E S 1).1.2.2.1 (sp_E S 1).1.2.2.2 (sp_E S 1).1.1 ef1 []) [.ref 0, .int a, .int b, .int c, .int g] (fun v L => q_k22 g (sp_bsp a b c) = 0 ∧ v = some (.int (sp_an (sp_hsp S a b c 0 (sp_i g)).1)) ∧ sp_CW (sp_hspS S a b c 0 (sp_i g)) L) (fun E L => ((z_xI E ∧ q_k22 g (sp_bsp a b c) = 1) ∨ (z_xA E ∧ q_k22 g (sp_bsp a b c) = 2)) ∧ L = (z_cw S.1.1 S.1.2 (nI (sp_R S 0).length) (sp_F S 0) fa (sp_C S 0) (nI (sp_R S 1).length) (sp_F S 1) fb (sp_C S 1) mt false ft ct f0 g0 (sp_C S 2) (nI (sp_T S 0).length) 0 f1 g1 c1 (nI (sp_T S 1).length) 0 f2 g2 c2 (nI (sp_T S 2).length) 1 f3 g3 c3 m3 0 f4 g4 c4 m4 0 f5 g5 c5 m5 1 (nI (sp_E S 0).2.length) (sp_E S 0).1.2.1 (sp_E S 0).1.2.2.1 (sp_E S 0).1.2.2.2 (sp_E S 0).1.1 ef0 (nI (sp_E S 1).2.length) (sp_E S 1).1.2.1 (sp_E S 1).1.2.2.1 (sp_E S 1).1.2.2.2 (sp_E S 1).1.1 ef1 [])) := by
  refine z_body hl (by decide) rfl (Nat.le_of_ble_eq_true rfl) ?_
  show z_J G l mX8_hearSpan (z_SX 20 14 120 (z_cw S.1.1 S.1.2 (nI (sp_R S 0).length) (sp_F S 0) fa (sp_C S 0) (nI (sp_R S 1).length) (sp_F S 1) fb (sp_C S 1) mt false ft ct f0 g0 (sp_C S 2) (nI (sp_T S 0).length) 0 f1 g1 c1 (nI (sp_T S 1).length) 0 f2 g2 c2 (nI (sp_T S 2).length) 1 f3 g3 c3 m3 0 f4 g4 c4 m4 0 f5 g5 c5 m5 1 (nI (sp_E S 0).2.length) (sp_E S 0).1.2.1 (sp_E S 0).1.2.2.1 (sp_E S 0).1.2.2.2 (sp_E S 0).1.1 ef0 (nI (sp_E S 1).2.length) (sp_E S 1).1.2.1 (sp_E S 1).1.2.2.1 (sp_E S 1).1.2.2.2 (sp_E S 1).1.1 ef1 []) (fun v L => q_k22 g (sp_bsp a b c) = 0 ∧ v = some (.int (sp_an (sp_hsp S a b c 0 (sp_i g)).1)) ∧ sp_CW (sp_hspS S a b c 0 (sp_i g)) L) (fun E L => ((z_xI E ∧ q_k22 g (sp_bsp a b c) = 1) ∨ (z_xA E ∧ q_k22 g (sp_bsp a b c) = 2)) ∧ L = (z_cw S.1.1 S.1.2 (nI (sp_R S 0).length) (sp_F S 0) fa (sp_C S 0) (nI (sp_R S 1).length) (sp_F S 1) fb (sp_C S 1) mt false ft ct f0 g0 (sp_C S 2) (nI (sp_T S 0).length) 0 f1 g1 c1 (nI (sp_T S 1).length) 0 f2 g2 c2 (nI (sp_T S 2).length) 1 f3 g3 c3 m3 0 f4 g4 c4 m4 0 f5 g5 c5 m5 1 (nI (sp_E S 0).2.length) (sp_E S 0).1.2.1 (sp_E S 0).1.2.2.1 (sp_E S 0).1.2.2.2 (sp_E S 0).1.1 ef0 (nI (sp_E S 1).2.length) (sp_E S 1).1.2.1 (sp_E S 1).1.2.2.1 (sp_E S 1).1.2.2.2 (sp_E S 1).1.1 ef1 []))) 0 [(0, _), (1, _), (2, _), (3, _), (4, _)] [] _ 0 0
  refine j_aload_n dX8_hearSpan_0 rfl rfl ?_
  refine j_iload dX8_hearSpan_1 rfl ?_
  refine j_callV (q := (RX8, TX8, 9)) dX8_hearSpan_3 kX8_hearerFor lX8_87 inX8_hearerFor seX8_hearerFor rfl rfl (z_dirX (c_X8_hearerFor_e hl _ _ _ _ _ _ _ _ _ _ _ _ _ _ _ _ _ _ _ _ _ _ _ _ _ _ _ _ _ _ _ _ _ _ _ _ _ _ _ _ _ _ _ _ _ _ _ _ _ _ _ _ _ _ _ _ _)) (Nat.le_of_ble_eq_true rfl) ⟨(Nat.le_of_ble_eq_true rfl), (Nat.le_of_ble_eq_true rfl)⟩ rfl (Nat.le_of_ble_eq_true rfl) rfl rfl (fun _ _ h => by obtain ⟨_, ⟨h1, rfl⟩, rfl⟩ := h; exact ⟨rfl, rfl, Or.inl ⟨h1.1, sp_k22_1 h1.2⟩, rfl⟩) ?_
  rintro _ _ ⟨_, ⟨_, rfl, hr, rfl⟩, rfl⟩
  rcases hr with ⟨e_3, rfl⟩ | ⟨e_3, rfl⟩
  · subst e_3
    refine j_astore (lo' := [(5, _), (0, _), (1, _), (2, _), (3, _), (4, _)]) dX8_hearSpan_6 rfl (by decide) rfl ?_
    refine j_iload_n dX8_hearSpan_8 rfl ?_
    refine j_iload_n dX8_hearSpan_9 rfl ?_
    refine j_iload_n dX8_hearSpan_10 rfl ?_
    refine j_callS dX8_hearSpan_11 kX8_checkSpan lX8_169 stX8_checkSpan (c_X8_checkSpan_e hl _ _ _ _) (Nat.le_of_ble_eq_true rfl) ⟨(Nat.le_of_ble_eq_true rfl), (Nat.le_of_ble_eq_true rfl)⟩ rfl (Nat.le_of_ble_eq_true rfl) rfl rfl (fun _ _ h => by obtain ⟨h1, rfl⟩ := h; exact ⟨rfl, rfl, Or.inr ⟨h1.1, sp_k22_2 (Or.inl rfl) h1.2⟩, rfl⟩) ?_
    rintro _ _ ⟨⟨rfl, hc11⟩, rfl⟩
    have hs := hc11
    have hav : z_vl a := sp_vl (fun z => hs (Or.inl z))
    have htv : z_vl b := sp_vl (fun z => hs (Or.inr (Or.inl z)))
    have hbv : 1 ≤ c ∧ c ≤ 99 := q_nor (fun z => hs (Or.inr (Or.inr (Or.inl z))))
    have h40 : 0 ≤ z_mny a b c ∧ z_mny a b c ≤ 40 := q_nor (fun z => hs (Or.inr (Or.inr (Or.inr z))))
    have hm40 : (z_mny a b c).toNatClampNeg ≤ 40 := sp_le40 h40.2
    have hm41 : sp_mn a b c ≤ 40 := hm40
    obtain ⟨k, hk⟩ : ∃ k : Nat, k = 0 := ⟨0, rfl⟩
    refine j_aload_n dX8_hearSpan_14 rfl rfl ?_
    refine j_new (w' := (z_cw _ _ _ _ _ _ _ _ _ _ _ _ _ _ _ _ _ _ _ _ _ _ _ _ _ _ _ _ _ _ _ _ _ _ _ _ _ _ _ _ _ _ _ _ _ _ _ _ _ _ _ _ _ _ _ _ [.inr (8, [_, _, _, _, _, _])], z_no)) (n := 51) dX8_hearSpan_15 nX8_172 rfl (z_al_l rfl rfl) (Nat.le_of_ble_eq_true rfl) (Nat.le_of_ble_eq_true rfl) ?_
    refine j_dup dX8_hearSpan_18 rfl ?_
    refine j_iload_n dX8_hearSpan_19 rfl ?_
    refine j_iload_n dX8_hearSpan_20 rfl ?_
    refine j_iload_n dX8_hearSpan_21 rfl ?_
    refine j_callI dX8_hearSpan_22 kX3_init rfl lX8_174 inX3_init rfl (z_frameN [51] rfl (by decide) (Nat.le_of_ble_eq_true rfl) (Nat.le_of_ble_eq_true rfl) (c_X3_init hl _ _ _)) (Nat.le_of_ble_eq_true rfl) ⟨(Nat.le_of_ble_eq_true rfl), (Nat.le_of_ble_eq_true rfl)⟩ rfl (Nat.le_of_ble_eq_true rfl) rfl rfl (fun _ _ h => h.elim) ?_
    rintro _ _ ⟨_, _, ⟨rfl, c9, rfl⟩, rfl, rfl⟩
    refine j_w (z_cw _ _ _ _ _ _ _ _ _ _ _ _ _ _ _ _ _ _ _ _ _ _ _ _ _ _ _ _ _ _ _ _ _ _ _ _ _ _ _ _ _ _ _ _ _ _ _ _ _ _ _ _ _ _ _ _ [.inr (8, [_, _, _, _, _, _]), .inr (11, [_]), z_ia 7 _], z_no) rfl ?_
    refine j_aload dX8_hearSpan_25 rfl rfl ?_
    refine j_w (z_cw _ _ _ _ _ _ _ _ _ _ _ _ _ _ _ _ _ _ _ _ _ _ _ _ _ _ _ _ _ _ _ _ _ _ _ _ _ _ _ _ _ _ _ _ _ _ _ _ _ _ _ _ _ _ _ _ [.inr (8, [_, _, _, _, _, .int (a + nI k * c)]), .inr (11, [_]), z_ia 7 _], z_no) (by rw [hk, sp_a0] <;> rfl) ?_
    refine j_callS dX8_hearSpan_27 kX8_hearOut lX8_96 stX8_hearOut (z_frame [51, 52, 53, 27, 28] rfl (by decide) (Nat.le_of_ble_eq_true rfl) (c_X8_hearOut_X3_c hl (fun _ => 0) _ _ b c a _ k (sp_E S 0) _ hav htv hbv h40.2 hm40 (by omega) he0)) (Nat.le_of_ble_eq_true rfl) ⟨(Nat.le_of_ble_eq_true rfl), (Nat.le_of_ble_eq_true rfl)⟩ rfl (Nat.le_of_ble_eq_true rfl) rfl rfl (fun _ _ h => h.elim) ?_
    rintro _ _ ⟨_, _, ⟨rfl, _, _, ef9, he9, rfl⟩, rfl, rfl⟩
    refine j_ws (L' := z_cw _ _ _ _ _ _ _ _ _ _ _ _ _ _ _ _ _ _ _ _ _ _ _ _ _ _ _ _ _ _ _ _ _ _ _ _ _ _ _ _ _ _ _ _ _ _ _ _ _ _ _ _ _ _ _ _ [.inr (8, [_, _, _, _, _, _]), .inr (11, [_]), z_ia 7 _]) (by decide) rfl rfl ?_
    refine j_lo (lo' := []) z_q0 ?_
    refine j_dropL (n := 51) rfl (Nat.le_of_ble_eq_true rfl) (Nat.le_of_ble_eq_true rfl) (Nat.le_of_ble_eq_true rfl) z_cwc rfl rfl ?_
    refine j_w (z_cw _ _ _ _ _ _ _ _ _ _ _ _ _ _ _ _ _ _ _ _ _ _ _ _ _ _ _ _ _ _ _ _ _ _ _ _ _ _ _ _ _ _ _ _ _ _ _ _ _ _ _ _ _ _ _ _ [], z_no) rfl ?_
    refine j_callV (q := (RX8, TX8, 9)) dX8_hearSpan_30 kX8_answer lX8_100 inX8_answer seX8_answer rfl rfl (z_dirF (c_X8_answer_f_e hl _ _ _ _ _ _ _ _ _ _ _ _ _ _ _ _ _ _ _ _ _ _ _ _ _ _ _ _ _ _ _ _ _ _ _ _ _ _ _ _ _ _ _ _ _ _ _ _ _ _ _ _ _ _ _ _ (sp_hsp S a b c k 0).1 nI (fun y hy z => absurd (nI_pos' (n := y) (by have h8 := sp_ho_n _ _ _ _ hy; rw [sp_spn_len] at h8; omega)) (by rw [z]; decide)))) (Nat.le_of_ble_eq_true rfl) ⟨(Nat.le_of_ble_eq_true rfl), (Nat.le_of_ble_eq_true rfl)⟩ rfl (Nat.le_of_ble_eq_true rfl) rfl rfl (fun _ _ h => h.elim) ?_
    rintro _ _ ⟨_, ⟨rfl, rfl⟩, rfl⟩
    refine j_iret dX8_hearSpan_33 rfl rfl ?_ (Nat.le_of_ble_eq_true rfl) (Nat.le_of_ble_eq_true rfl)
    refine ⟨rfl, (by first | exact z_cwl | rfl), ?_⟩
    rw [sp_i0, show sp_hsp S a b c 0 0 = sp_hsp S a b c k 0 by rw [hk], show sp_hspS S a b c 0 0 = sp_hspS S a b c k 0 by rw [hk]]
    exact ⟨sp_k22_0 (Or.inl rfl) hs, rfl, (sp_CWe hra hrb ht0 ht1 ht2 he9 he1 hzm3 hzm4 hzm5 rfl)⟩
  · subst e_3
    refine j_astore (lo' := [(5, _), (0, _), (1, _), (2, _), (3, _), (4, _)]) dX8_hearSpan_6 rfl (by decide) rfl ?_
    refine j_iload_n dX8_hearSpan_8 rfl ?_
    refine j_iload_n dX8_hearSpan_9 rfl ?_
    refine j_iload_n dX8_hearSpan_10 rfl ?_
    refine j_callS dX8_hearSpan_11 kX8_checkSpan lX8_169 stX8_checkSpan (c_X8_checkSpan_e hl _ _ _ _) (Nat.le_of_ble_eq_true rfl) ⟨(Nat.le_of_ble_eq_true rfl), (Nat.le_of_ble_eq_true rfl)⟩ rfl (Nat.le_of_ble_eq_true rfl) rfl rfl (fun _ _ h => by obtain ⟨h1, rfl⟩ := h; exact ⟨rfl, rfl, Or.inr ⟨h1.1, sp_k22_2 (Or.inr rfl) h1.2⟩, rfl⟩) ?_
    rintro _ _ ⟨⟨rfl, hc11⟩, rfl⟩
    have hs := hc11
    have hav : z_vl a := sp_vl (fun z => hs (Or.inl z))
    have htv : z_vl b := sp_vl (fun z => hs (Or.inr (Or.inl z)))
    have hbv : 1 ≤ c ∧ c ≤ 99 := q_nor (fun z => hs (Or.inr (Or.inr (Or.inl z))))
    have h40 : 0 ≤ z_mny a b c ∧ z_mny a b c ≤ 40 := q_nor (fun z => hs (Or.inr (Or.inr (Or.inr z))))
    have hm40 : (z_mny a b c).toNatClampNeg ≤ 40 := sp_le40 h40.2
    have hm41 : sp_mn a b c ≤ 40 := hm40
    obtain ⟨k, hk⟩ : ∃ k : Nat, k = 0 := ⟨0, rfl⟩
    refine j_aload_n dX8_hearSpan_14 rfl rfl ?_
    refine j_new (w' := (z_cw _ _ _ _ _ _ _ _ _ _ _ _ _ _ _ _ _ _ _ _ _ _ _ _ _ _ _ _ _ _ _ _ _ _ _ _ _ _ _ _ _ _ _ _ _ _ _ _ _ _ _ _ _ _ _ _ [.inr (8, [_, _, _, _, _, _])], z_no)) (n := 51) dX8_hearSpan_15 nX8_172 rfl (z_al_l rfl rfl) (Nat.le_of_ble_eq_true rfl) (Nat.le_of_ble_eq_true rfl) ?_
    refine j_dup dX8_hearSpan_18 rfl ?_
    refine j_iload_n dX8_hearSpan_19 rfl ?_
    refine j_iload_n dX8_hearSpan_20 rfl ?_
    refine j_iload_n dX8_hearSpan_21 rfl ?_
    refine j_callI dX8_hearSpan_22 kX3_init rfl lX8_174 inX3_init rfl (z_frameN [51] rfl (by decide) (Nat.le_of_ble_eq_true rfl) (Nat.le_of_ble_eq_true rfl) (c_X3_init hl _ _ _)) (Nat.le_of_ble_eq_true rfl) ⟨(Nat.le_of_ble_eq_true rfl), (Nat.le_of_ble_eq_true rfl)⟩ rfl (Nat.le_of_ble_eq_true rfl) rfl rfl (fun _ _ h => h.elim) ?_
    rintro _ _ ⟨_, _, ⟨rfl, c9, rfl⟩, rfl, rfl⟩
    refine j_w (z_cw _ _ _ _ _ _ _ _ _ _ _ _ _ _ _ _ _ _ _ _ _ _ _ _ _ _ _ _ _ _ _ _ _ _ _ _ _ _ _ _ _ _ _ _ _ _ _ _ _ _ _ _ _ _ _ _ [.inr (8, [_, _, _, _, _, _]), .inr (11, [_]), z_ia 7 _], z_no) rfl ?_
    refine j_aload dX8_hearSpan_25 rfl rfl ?_
    refine j_w (z_cw _ _ _ _ _ _ _ _ _ _ _ _ _ _ _ _ _ _ _ _ _ _ _ _ _ _ _ _ _ _ _ _ _ _ _ _ _ _ _ _ _ _ _ _ _ _ _ _ _ _ _ _ _ _ _ _ [.inr (8, [_, _, _, _, _, .int (a + nI k * c)]), .inr (11, [_]), z_ia 7 _], z_no) (by rw [hk, sp_a0] <;> rfl) ?_
    refine j_callS dX8_hearSpan_27 kX8_hearOut lX8_96 stX8_hearOut (z_frame [51, 52, 53, 29, 30] rfl (by decide) (Nat.le_of_ble_eq_true rfl) (c_X8_hearOut_X3_c hl (fun _ => 0) _ _ b c a _ k (sp_E S 1) _ hav htv hbv h40.2 hm40 (by omega) he1)) (Nat.le_of_ble_eq_true rfl) ⟨(Nat.le_of_ble_eq_true rfl), (Nat.le_of_ble_eq_true rfl)⟩ rfl (Nat.le_of_ble_eq_true rfl) rfl rfl (fun _ _ h => h.elim) ?_
    rintro _ _ ⟨_, _, ⟨rfl, _, _, ef9, he9, rfl⟩, rfl, rfl⟩
    refine j_ws (L' := z_cw _ _ _ _ _ _ _ _ _ _ _ _ _ _ _ _ _ _ _ _ _ _ _ _ _ _ _ _ _ _ _ _ _ _ _ _ _ _ _ _ _ _ _ _ _ _ _ _ _ _ _ _ _ _ _ _ [.inr (8, [_, _, _, _, _, _]), .inr (11, [_]), z_ia 7 _]) (by decide) rfl rfl ?_
    refine j_lo (lo' := []) z_q0 ?_
    refine j_dropL (n := 51) rfl (Nat.le_of_ble_eq_true rfl) (Nat.le_of_ble_eq_true rfl) (Nat.le_of_ble_eq_true rfl) z_cwc rfl rfl ?_
    refine j_w (z_cw _ _ _ _ _ _ _ _ _ _ _ _ _ _ _ _ _ _ _ _ _ _ _ _ _ _ _ _ _ _ _ _ _ _ _ _ _ _ _ _ _ _ _ _ _ _ _ _ _ _ _ _ _ _ _ _ [], z_no) rfl ?_
    refine j_callV (q := (RX8, TX8, 9)) dX8_hearSpan_30 kX8_answer lX8_100 inX8_answer seX8_answer rfl rfl (z_dirF (c_X8_answer_f_e hl _ _ _ _ _ _ _ _ _ _ _ _ _ _ _ _ _ _ _ _ _ _ _ _ _ _ _ _ _ _ _ _ _ _ _ _ _ _ _ _ _ _ _ _ _ _ _ _ _ _ _ _ _ _ _ _ (sp_hsp S a b c k 1).1 nI (fun y hy z => absurd (nI_pos' (n := y) (by have h8 := sp_ho_n _ _ _ _ hy; rw [sp_spn_len] at h8; omega)) (by rw [z]; decide)))) (Nat.le_of_ble_eq_true rfl) ⟨(Nat.le_of_ble_eq_true rfl), (Nat.le_of_ble_eq_true rfl)⟩ rfl (Nat.le_of_ble_eq_true rfl) rfl rfl (fun _ _ h => h.elim) ?_
    rintro _ _ ⟨_, ⟨rfl, rfl⟩, rfl⟩
    refine j_iret dX8_hearSpan_33 rfl rfl ?_ (Nat.le_of_ble_eq_true rfl) (Nat.le_of_ble_eq_true rfl)
    refine ⟨rfl, (by first | exact z_cwl | rfl), ?_⟩
    rw [sp_i1, show sp_hsp S a b c 0 1 = sp_hsp S a b c k 1 by rw [hk], show sp_hspS S a b c 0 1 = sp_hspS S a b c k 1 by rw [hk]]
    exact ⟨sp_k22_0 (Or.inr rfl) hs, rfl, (sp_CWe hra hrb ht0 ht1 ht2 he0 he9 hzm3 hzm4 hzm5 rfl)⟩
set_option maxRecDepth 100000 in
set_option maxHeartbeats 8000000 in
theorem c_X8_hearSteps_p (hl : l.stackTraces = false) (S : sp_S) (fa : Nat → Int32) (fb : Nat → Int32) (mt : Int32) (ft : Nat → Int32) (ct : Nat → Int32) (f0 : Nat → Int32) (g0 : Nat → Int32) (f1 : Nat → Int32) (g1 : Nat → Int32) (c1 : Nat → Int32) (f2 : Nat → Int32) (g2 : Nat → Int32) (c2 : Nat → Int32) (f3 : Nat → Int32) (g3 : Nat → Int32) (c3 : Nat → Int32) (m3 : Int32) (f4 : Nat → Int32) (g4 : Nat → Int32) (c4 : Nat → Int32) (m4 : Int32) (f5 : Nat → Int32) (g5 : Nat → Int32) (c5 : Nat → Int32) (m5 : Int32) (ef0 : Nat → Int32) (ef1 : Nat → Int32) (a : Int32) (b : Int32) (c : Int32) (d : Int32) (g : Int32) (ok : sp_ok S) (hra : z_row 12 (nI (sp_R S 0).length) fa (sp_R S 0)) (hrb : z_row 12 (nI (sp_R S 1).length) fb (sp_R S 1)) (ht0 : z_tba f0 g0 (sp_T S 0)) (ht1 : z_tba f1 g1 (sp_T S 1)) (ht2 : z_tba f2 g2 (sp_T S 2)) (he0 : z_row 10 (nI (sp_E S 0).2.length) ef0 (sp_E S 0).2) (he1 : z_row 10 (nI (sp_E S 1).2.length) ef1 (sp_E S 1).2) (hzm3 : z_m20 m3) (hzm4 : z_m20 m4) (hzm5 : z_m20 m5) : z_CX G l mX8_hearSteps 20 14 120 (z_cw S.1.1 S.1.2 (nI (sp_R S 0).length) (sp_F S 0) fa (sp_C S 0) (nI (sp_R S 1).length) (sp_F S 1) fb (sp_C S 1) mt false ft ct f0 g0 (sp_C S 2) (nI (sp_T S 0).length) 0 f1 g1 c1 (nI (sp_T S 1).length) 0 f2 g2 c2 (nI (sp_T S 2).length) 1 f3 g3 c3 m3 0 f4 g4 c4 m4 0 f5 g5 c5 m5 1 (nI (sp_E S 0).2.length) (sp_E S 0).1.2.1 (sp_E S 0).1.2.2.1 (sp_E S 0).1.2.2.2 (sp_E S 0).1.1 ef0 (nI (sp_E S 1).2.length) (sp_E S 1).1.2.1 (sp_E S 1).1.2.2.1 (sp_E S 1).1.2.2.2 (sp_E S 1).1.1 ef1 []) [.ref 0, .int a, .int b, .int c, .int d, .int g] (fun v L => q_k22 g (sp_bsp a b c ∨ (d < 0 ∨ z_mny a b c < d)) = 0 ∧ v = some (.int (sp_an (sp_hsp S a b c (sp_i d) (sp_i g)).1)) ∧ sp_CW (sp_hspS S a b c (sp_i d) (sp_i g)) L) (fun E L => ((z_xI E ∧ q_k22 g (sp_bsp a b c ∨ (d < 0 ∨ z_mny a b c < d)) = 1) ∨ (z_xA E ∧ q_k22 g (sp_bsp a b c ∨ (d < 0 ∨ z_mny a b c < d)) = 2)) ∧ L = (z_cw S.1.1 S.1.2 (nI (sp_R S 0).length) (sp_F S 0) fa (sp_C S 0) (nI (sp_R S 1).length) (sp_F S 1) fb (sp_C S 1) mt false ft ct f0 g0 (sp_C S 2) (nI (sp_T S 0).length) 0 f1 g1 c1 (nI (sp_T S 1).length) 0 f2 g2 c2 (nI (sp_T S 2).length) 1 f3 g3 c3 m3 0 f4 g4 c4 m4 0 f5 g5 c5 m5 1 (nI (sp_E S 0).2.length) (sp_E S 0).1.2.1 (sp_E S 0).1.2.2.1 (sp_E S 0).1.2.2.2 (sp_E S 0).1.1 ef0 (nI (sp_E S 1).2.length) (sp_E S 1).1.2.1 (sp_E S 1).1.2.2.1 (sp_E S 1).1.2.2.2 (sp_E S 1).1.1 ef1 [])) := by
  refine z_body hl (by decide) rfl (Nat.le_of_ble_eq_true rfl) ?_
  show z_J G l mX8_hearSteps (z_SX 20 14 120 (z_cw S.1.1 S.1.2 (nI (sp_R S 0).length) (sp_F S 0) fa (sp_C S 0) (nI (sp_R S 1).length) (sp_F S 1) fb (sp_C S 1) mt false ft ct f0 g0 (sp_C S 2) (nI (sp_T S 0).length) 0 f1 g1 c1 (nI (sp_T S 1).length) 0 f2 g2 c2 (nI (sp_T S 2).length) 1 f3 g3 c3 m3 0 f4 g4 c4 m4 0 f5 g5 c5 m5 1 (nI (sp_E S 0).2.length) (sp_E S 0).1.2.1 (sp_E S 0).1.2.2.1 (sp_E S 0).1.2.2.2 (sp_E S 0).1.1 ef0 (nI (sp_E S 1).2.length) (sp_E S 1).1.2.1 (sp_E S 1).1.2.2.1 (sp_E S 1).1.2.2.2 (sp_E S 1).1.1 ef1 []) (fun v L => q_k22 g (sp_bsp a b c ∨ (d < 0 ∨ z_mny a b c < d)) = 0 ∧ v = some (.int (sp_an (sp_hsp S a b c (sp_i d) (sp_i g)).1)) ∧ sp_CW (sp_hspS S a b c (sp_i d) (sp_i g)) L) (fun E L => ((z_xI E ∧ q_k22 g (sp_bsp a b c ∨ (d < 0 ∨ z_mny a b c < d)) = 1) ∨ (z_xA E ∧ q_k22 g (sp_bsp a b c ∨ (d < 0 ∨ z_mny a b c < d)) = 2)) ∧ L = (z_cw S.1.1 S.1.2 (nI (sp_R S 0).length) (sp_F S 0) fa (sp_C S 0) (nI (sp_R S 1).length) (sp_F S 1) fb (sp_C S 1) mt false ft ct f0 g0 (sp_C S 2) (nI (sp_T S 0).length) 0 f1 g1 c1 (nI (sp_T S 1).length) 0 f2 g2 c2 (nI (sp_T S 2).length) 1 f3 g3 c3 m3 0 f4 g4 c4 m4 0 f5 g5 c5 m5 1 (nI (sp_E S 0).2.length) (sp_E S 0).1.2.1 (sp_E S 0).1.2.2.1 (sp_E S 0).1.2.2.2 (sp_E S 0).1.1 ef0 (nI (sp_E S 1).2.length) (sp_E S 1).1.2.1 (sp_E S 1).1.2.2.1 (sp_E S 1).1.2.2.2 (sp_E S 1).1.1 ef1 []))) 0 [(0, _), (1, _), (2, _), (3, _), (4, _), (5, _)] [] _ 0 0
  refine j_aload_n dX8_hearSteps_0 rfl rfl ?_
  refine j_iload dX8_hearSteps_1 rfl ?_
  refine j_callV (q := (RX8, TX8, 9)) dX8_hearSteps_3 kX8_hearerFor lX8_87 inX8_hearerFor seX8_hearerFor rfl rfl (z_dirX (c_X8_hearerFor_e hl _ _ _ _ _ _ _ _ _ _ _ _ _ _ _ _ _ _ _ _ _ _ _ _ _ _ _ _ _ _ _ _ _ _ _ _ _ _ _ _ _ _ _ _ _ _ _ _ _ _ _ _ _ _ _ _ _)) (Nat.le_of_ble_eq_true rfl) ⟨(Nat.le_of_ble_eq_true rfl), (Nat.le_of_ble_eq_true rfl)⟩ rfl (Nat.le_of_ble_eq_true rfl) rfl rfl (fun _ _ h => by obtain ⟨_, ⟨h1, rfl⟩, rfl⟩ := h; exact ⟨rfl, rfl, Or.inl ⟨h1.1, sp_k22_1 h1.2⟩, rfl⟩) ?_
  rintro _ _ ⟨_, ⟨_, rfl, hr, rfl⟩, rfl⟩
  rcases hr with ⟨e_3, rfl⟩ | ⟨e_3, rfl⟩
  · subst e_3
    refine j_astore (lo' := [(6, _), (0, _), (1, _), (2, _), (3, _), (4, _), (5, _)]) dX8_hearSteps_6 rfl (by decide) rfl ?_
    refine j_iload_n dX8_hearSteps_8 rfl ?_
    refine j_iload_n dX8_hearSteps_9 rfl ?_
    refine j_iload_n dX8_hearSteps_10 rfl ?_
    refine j_callS dX8_hearSteps_11 kX8_checkSpan lX8_169 stX8_checkSpan (c_X8_checkSpan_e hl _ _ _ _) (Nat.le_of_ble_eq_true rfl) ⟨(Nat.le_of_ble_eq_true rfl), (Nat.le_of_ble_eq_true rfl)⟩ rfl (Nat.le_of_ble_eq_true rfl) rfl rfl (fun _ _ h => by obtain ⟨h1, rfl⟩ := h; exact ⟨rfl, rfl, Or.inr ⟨h1.1, sp_k22_2 (Or.inl rfl) (Or.inl h1.2)⟩, rfl⟩) ?_
    rintro _ _ ⟨⟨rfl, hc11⟩, rfl⟩
    have hs := hc11
    have hav : z_vl a := sp_vl (fun z => hs (Or.inl z))
    have htv : z_vl b := sp_vl (fun z => hs (Or.inr (Or.inl z)))
    have hbv : 1 ≤ c ∧ c ≤ 99 := q_nor (fun z => hs (Or.inr (Or.inr (Or.inl z))))
    have h40 : 0 ≤ z_mny a b c ∧ z_mny a b c ≤ 40 := q_nor (fun z => hs (Or.inr (Or.inr (Or.inr z))))
    have hm40 : (z_mny a b c).toNatClampNeg ≤ 40 := sp_le40 h40.2
    have hm41 : sp_mn a b c ≤ 40 := hm40
    refine j_iload dX8_hearSteps_14 rfl ?_
    refine j_iconst (v := 0) dX8_hearSteps_16 (by decide) ?_
    refine j_iload_n dX8_hearSteps_17 rfl ?_
    refine j_iload_n dX8_hearSteps_18 rfl ?_
    refine j_iload_n dX8_hearSteps_19 rfl ?_
    refine j_callS dX8_hearSteps_20 kX8_spanLength lX8_176 stX8_spanLength (c_X8_spanLength_e hl _ _ _ _ (fun z => hs (Or.inr (Or.inr (Or.inl (Or.inl z)))))) (Nat.le_of_ble_eq_true rfl) ⟨(Nat.le_of_ble_eq_true rfl), (Nat.le_of_ble_eq_true rfl)⟩ rfl (Nat.le_of_ble_eq_true rfl) rfl rfl (fun _ _ h => h.elim) ?_
    rintro _ _ ⟨rfl, rfl⟩
    refine j_callS dX8_hearSteps_23 kX8_checkRange lX8_72 stX8_checkRange (c_X8_checkRange_e hl _ _ _ _) (Nat.le_of_ble_eq_true rfl) ⟨(Nat.le_of_ble_eq_true rfl), (Nat.le_of_ble_eq_true rfl)⟩ rfl (Nat.le_of_ble_eq_true rfl) rfl rfl (fun _ _ h => by obtain ⟨h1, rfl⟩ := h; exact ⟨rfl, rfl, Or.inr ⟨h1.1, sp_k22_2 (Or.inl rfl) (Or.inr h1.2)⟩, rfl⟩) ?_
    rintro _ _ ⟨⟨rfl, hc23⟩, rfl⟩
    have hd0 := hc23
    obtain ⟨k, hk2, rfl⟩ := sp_nt (m := (sp_mn a b c)) (sp_mn_e h40.1) (by have := hm40; show (z_mny a b c).toNatClampNeg < _; omega) hd0
    have hk3 : k ≤ (z_mny a b c).toNatClampNeg := hk2
    refine j_new (w' := (z_cw _ _ _ _ _ _ _ _ _ _ _ _ _ _ _ _ _ _ _ _ _ _ _ _ _ _ _ _ _ _ _ _ _ _ _ _ _ _ _ _ _ _ _ _ _ _ _ _ _ _ _ _ _ _ _ _ [.inr (8, [_, _, _, _, _, _])], z_no)) (n := 51) dX8_hearSteps_26 nX8_172 rfl (z_al_l rfl rfl) (Nat.le_of_ble_eq_true rfl) (Nat.le_of_ble_eq_true rfl) ?_
    refine j_dup dX8_hearSteps_29 rfl ?_
    refine j_iload_n dX8_hearSteps_30 rfl ?_
    refine j_iload_n dX8_hearSteps_31 rfl ?_
    refine j_iload_n dX8_hearSteps_32 rfl ?_
    refine j_callI dX8_hearSteps_33 kX3_init rfl lX8_174 inX3_init rfl (z_frameN [51] rfl (by decide) (Nat.le_of_ble_eq_true rfl) (Nat.le_of_ble_eq_true rfl) (c_X3_init hl _ _ _)) (Nat.le_of_ble_eq_true rfl) ⟨(Nat.le_of_ble_eq_true rfl), (Nat.le_of_ble_eq_true rfl)⟩ rfl (Nat.le_of_ble_eq_true rfl) rfl rfl (fun _ _ h => h.elim) ?_
    rintro _ _ ⟨_, _, ⟨rfl, c9, rfl⟩, rfl, rfl⟩
    refine j_w (z_cw _ _ _ _ _ _ _ _ _ _ _ _ _ _ _ _ _ _ _ _ _ _ _ _ _ _ _ _ _ _ _ _ _ _ _ _ _ _ _ _ _ _ _ _ _ _ _ _ _ _ _ _ _ _ _ _ [.inr (8, [_, _, _, _, _, _]), .inr (11, [_]), z_ia 7 _], z_no) rfl ?_
    refine j_astore (lo' := [(7, _), (6, _), (0, _), (1, _), (2, _), (3, _), (4, _), (5, _)]) dX8_hearSteps_36 rfl (by decide) rfl ?_
    refine j_aload dX8_hearSteps_38 rfl rfl ?_
    refine j_iload dX8_hearSteps_40 rfl ?_
    refine j_w (z_cw _ _ _ _ _ _ _ _ _ _ _ _ _ _ _ _ _ _ _ _ _ _ _ _ _ _ _ _ _ _ _ _ _ _ _ _ _ _ _ _ _ _ _ _ _ _ _ _ _ _ _ _ _ _ _ _ [.inr (8, [_, _, _, _, _, .int (a + nI 0 * c)]), .inr (11, [_]), z_ia 7 _], z_no) (by rw [sp_a0] <;> rfl) ?_
    refine j_callS dX8_hearSteps_42 kX8_passBy lX8_104 stX8_passBy (z_frame [51, 52, 53] rfl (by decide) (Nat.le_of_ble_eq_true rfl) (c_X8_passBy_X3_e hl _ _ _ c a _ 0 k (by omega))) (Nat.le_of_ble_eq_true rfl) ⟨(Nat.le_of_ble_eq_true rfl), (Nat.le_of_ble_eq_true rfl)⟩ rfl (Nat.le_of_ble_eq_true rfl) rfl rfl (fun _ _ h => h.elim) ?_
    rintro _ _ ⟨_, _, ⟨rfl, u9, c8, rfl⟩, rfl, rfl⟩
    refine j_ws (L' := z_cw _ _ _ _ _ _ _ _ _ _ _ _ _ _ _ _ _ _ _ _ _ _ _ _ _ _ _ _ _ _ _ _ _ _ _ _ _ _ _ _ _ _ _ _ _ _ _ _ _ _ _ _ _ _ _ _ [.inr (8, [_, _, _, _, _, _]), .inr (11, [_]), z_ia 7 _]) (by decide) rfl rfl ?_
    rw [show a + nI (0 + k) * c = a + nI k * c from congrArg (fun z => a + nI z * c) (Nat.zero_add k)]
    refine j_aload_n dX8_hearSteps_45 rfl rfl ?_
    refine j_aload dX8_hearSteps_46 rfl rfl ?_
    refine j_aload dX8_hearSteps_48 rfl rfl ?_
    refine j_callS dX8_hearSteps_50 kX8_hearOut lX8_96 stX8_hearOut (z_frame [51, 52, 53, 27, 28] rfl (by decide) (Nat.le_of_ble_eq_true rfl) (c_X8_hearOut_X3_c hl (fun _ => 0) _ _ b c a _ k (sp_E S 0) _ hav htv hbv h40.2 hm40 (by omega) he0)) (Nat.le_of_ble_eq_true rfl) ⟨(Nat.le_of_ble_eq_true rfl), (Nat.le_of_ble_eq_true rfl)⟩ rfl (Nat.le_of_ble_eq_true rfl) rfl rfl (fun _ _ h => h.elim) ?_
    rintro _ _ ⟨_, _, ⟨rfl, _, _, ef9, he9, rfl⟩, rfl, rfl⟩
    refine j_ws (L' := z_cw _ _ _ _ _ _ _ _ _ _ _ _ _ _ _ _ _ _ _ _ _ _ _ _ _ _ _ _ _ _ _ _ _ _ _ _ _ _ _ _ _ _ _ _ _ _ _ _ _ _ _ _ _ _ _ _ [.inr (8, [_, _, _, _, _, _]), .inr (11, [_]), z_ia 7 _]) (by decide) rfl rfl ?_
    refine j_lo (lo' := []) z_q0 ?_
    refine j_dropL (n := 51) rfl (Nat.le_of_ble_eq_true rfl) (Nat.le_of_ble_eq_true rfl) (Nat.le_of_ble_eq_true rfl) z_cwc rfl rfl ?_
    refine j_w (z_cw _ _ _ _ _ _ _ _ _ _ _ _ _ _ _ _ _ _ _ _ _ _ _ _ _ _ _ _ _ _ _ _ _ _ _ _ _ _ _ _ _ _ _ _ _ _ _ _ _ _ _ _ _ _ _ _ [], z_no) rfl ?_
    refine j_callV (q := (RX8, TX8, 9)) dX8_hearSteps_53 kX8_answer lX8_100 inX8_answer seX8_answer rfl rfl (z_dirF (c_X8_answer_f_e hl _ _ _ _ _ _ _ _ _ _ _ _ _ _ _ _ _ _ _ _ _ _ _ _ _ _ _ _ _ _ _ _ _ _ _ _ _ _ _ _ _ _ _ _ _ _ _ _ _ _ _ _ _ _ _ _ (sp_hsp S a b c k 0).1 nI (fun y hy z => absurd (nI_pos' (n := y) (by have h8 := sp_ho_n _ _ _ _ hy; rw [sp_spn_len] at h8; omega)) (by rw [z]; decide)))) (Nat.le_of_ble_eq_true rfl) ⟨(Nat.le_of_ble_eq_true rfl), (Nat.le_of_ble_eq_true rfl)⟩ rfl (Nat.le_of_ble_eq_true rfl) rfl rfl (fun _ _ h => h.elim) ?_
    rintro _ _ ⟨_, ⟨rfl, rfl⟩, rfl⟩
    refine j_iret dX8_hearSteps_56 rfl rfl ?_ (Nat.le_of_ble_eq_true rfl) (Nat.le_of_ble_eq_true rfl)
    refine ⟨rfl, (by first | exact z_cwl | rfl), ?_⟩
    rw [sp_i0, sp_in' (n := k) (by omega)]
    exact ⟨sp_k22_0 (Or.inl rfl) (fun z => z.elim hs hd0), rfl, (sp_CWe hra hrb ht0 ht1 ht2 he9 he1 hzm3 hzm4 hzm5 rfl)⟩
  · subst e_3
    refine j_astore (lo' := [(6, _), (0, _), (1, _), (2, _), (3, _), (4, _), (5, _)]) dX8_hearSteps_6 rfl (by decide) rfl ?_
    refine j_iload_n dX8_hearSteps_8 rfl ?_
    refine j_iload_n dX8_hearSteps_9 rfl ?_
    refine j_iload_n dX8_hearSteps_10 rfl ?_
    refine j_callS dX8_hearSteps_11 kX8_checkSpan lX8_169 stX8_checkSpan (c_X8_checkSpan_e hl _ _ _ _) (Nat.le_of_ble_eq_true rfl) ⟨(Nat.le_of_ble_eq_true rfl), (Nat.le_of_ble_eq_true rfl)⟩ rfl (Nat.le_of_ble_eq_true rfl) rfl rfl (fun _ _ h => by obtain ⟨h1, rfl⟩ := h; exact ⟨rfl, rfl, Or.inr ⟨h1.1, sp_k22_2 (Or.inr rfl) (Or.inl h1.2)⟩, rfl⟩) ?_
    rintro _ _ ⟨⟨rfl, hc11⟩, rfl⟩
    have hs := hc11
    have hav : z_vl a := sp_vl (fun z => hs (Or.inl z))
    have htv : z_vl b := sp_vl (fun z => hs (Or.inr (Or.inl z)))
    have hbv : 1 ≤ c ∧ c ≤ 99 := q_nor (fun z => hs (Or.inr (Or.inr (Or.inl z))))
    have h40 : 0 ≤ z_mny a b c ∧ z_mny a b c ≤ 40 := q_nor (fun z => hs (Or.inr (Or.inr (Or.inr z))))
    have hm40 : (z_mny a b c).toNatClampNeg ≤ 40 := sp_le40 h40.2
    have hm41 : sp_mn a b c ≤ 40 := hm40
    refine j_iload dX8_hearSteps_14 rfl ?_
    refine j_iconst (v := 0) dX8_hearSteps_16 (by decide) ?_
    refine j_iload_n dX8_hearSteps_17 rfl ?_
    refine j_iload_n dX8_hearSteps_18 rfl ?_
    refine j_iload_n dX8_hearSteps_19 rfl ?_
    refine j_callS dX8_hearSteps_20 kX8_spanLength lX8_176 stX8_spanLength (c_X8_spanLength_e hl _ _ _ _ (fun z => hs (Or.inr (Or.inr (Or.inl (Or.inl z)))))) (Nat.le_of_ble_eq_true rfl) ⟨(Nat.le_of_ble_eq_true rfl), (Nat.le_of_ble_eq_true rfl)⟩ rfl (Nat.le_of_ble_eq_true rfl) rfl rfl (fun _ _ h => h.elim) ?_
    rintro _ _ ⟨rfl, rfl⟩
    refine j_callS dX8_hearSteps_23 kX8_checkRange lX8_72 stX8_checkRange (c_X8_checkRange_e hl _ _ _ _) (Nat.le_of_ble_eq_true rfl) ⟨(Nat.le_of_ble_eq_true rfl), (Nat.le_of_ble_eq_true rfl)⟩ rfl (Nat.le_of_ble_eq_true rfl) rfl rfl (fun _ _ h => by obtain ⟨h1, rfl⟩ := h; exact ⟨rfl, rfl, Or.inr ⟨h1.1, sp_k22_2 (Or.inr rfl) (Or.inr h1.2)⟩, rfl⟩) ?_
    rintro _ _ ⟨⟨rfl, hc23⟩, rfl⟩
    have hd0 := hc23
    obtain ⟨k, hk2, rfl⟩ := sp_nt (m := (sp_mn a b c)) (sp_mn_e h40.1) (by have := hm40; show (z_mny a b c).toNatClampNeg < _; omega) hd0
    have hk3 : k ≤ (z_mny a b c).toNatClampNeg := hk2
    refine j_new (w' := (z_cw _ _ _ _ _ _ _ _ _ _ _ _ _ _ _ _ _ _ _ _ _ _ _ _ _ _ _ _ _ _ _ _ _ _ _ _ _ _ _ _ _ _ _ _ _ _ _ _ _ _ _ _ _ _ _ _ [.inr (8, [_, _, _, _, _, _])], z_no)) (n := 51) dX8_hearSteps_26 nX8_172 rfl (z_al_l rfl rfl) (Nat.le_of_ble_eq_true rfl) (Nat.le_of_ble_eq_true rfl) ?_
    refine j_dup dX8_hearSteps_29 rfl ?_
    refine j_iload_n dX8_hearSteps_30 rfl ?_
    refine j_iload_n dX8_hearSteps_31 rfl ?_
    refine j_iload_n dX8_hearSteps_32 rfl ?_
    refine j_callI dX8_hearSteps_33 kX3_init rfl lX8_174 inX3_init rfl (z_frameN [51] rfl (by decide) (Nat.le_of_ble_eq_true rfl) (Nat.le_of_ble_eq_true rfl) (c_X3_init hl _ _ _)) (Nat.le_of_ble_eq_true rfl) ⟨(Nat.le_of_ble_eq_true rfl), (Nat.le_of_ble_eq_true rfl)⟩ rfl (Nat.le_of_ble_eq_true rfl) rfl rfl (fun _ _ h => h.elim) ?_
    rintro _ _ ⟨_, _, ⟨rfl, c9, rfl⟩, rfl, rfl⟩
    refine j_w (z_cw _ _ _ _ _ _ _ _ _ _ _ _ _ _ _ _ _ _ _ _ _ _ _ _ _ _ _ _ _ _ _ _ _ _ _ _ _ _ _ _ _ _ _ _ _ _ _ _ _ _ _ _ _ _ _ _ [.inr (8, [_, _, _, _, _, _]), .inr (11, [_]), z_ia 7 _], z_no) rfl ?_
    refine j_astore (lo' := [(7, _), (6, _), (0, _), (1, _), (2, _), (3, _), (4, _), (5, _)]) dX8_hearSteps_36 rfl (by decide) rfl ?_
    refine j_aload dX8_hearSteps_38 rfl rfl ?_
    refine j_iload dX8_hearSteps_40 rfl ?_
    refine j_w (z_cw _ _ _ _ _ _ _ _ _ _ _ _ _ _ _ _ _ _ _ _ _ _ _ _ _ _ _ _ _ _ _ _ _ _ _ _ _ _ _ _ _ _ _ _ _ _ _ _ _ _ _ _ _ _ _ _ [.inr (8, [_, _, _, _, _, .int (a + nI 0 * c)]), .inr (11, [_]), z_ia 7 _], z_no) (by rw [sp_a0] <;> rfl) ?_
    refine j_callS dX8_hearSteps_42 kX8_passBy lX8_104 stX8_passBy (z_frame [51, 52, 53] rfl (by decide) (Nat.le_of_ble_eq_true rfl) (c_X8_passBy_X3_e hl _ _ _ c a _ 0 k (by omega))) (Nat.le_of_ble_eq_true rfl) ⟨(Nat.le_of_ble_eq_true rfl), (Nat.le_of_ble_eq_true rfl)⟩ rfl (Nat.le_of_ble_eq_true rfl) rfl rfl (fun _ _ h => h.elim) ?_
    rintro _ _ ⟨_, _, ⟨rfl, u9, c8, rfl⟩, rfl, rfl⟩
    refine j_ws (L' := z_cw _ _ _ _ _ _ _ _ _ _ _ _ _ _ _ _ _ _ _ _ _ _ _ _ _ _ _ _ _ _ _ _ _ _ _ _ _ _ _ _ _ _ _ _ _ _ _ _ _ _ _ _ _ _ _ _ [.inr (8, [_, _, _, _, _, _]), .inr (11, [_]), z_ia 7 _]) (by decide) rfl rfl ?_
    rw [show a + nI (0 + k) * c = a + nI k * c from congrArg (fun z => a + nI z * c) (Nat.zero_add k)]
    refine j_aload_n dX8_hearSteps_45 rfl rfl ?_
    refine j_aload dX8_hearSteps_46 rfl rfl ?_
    refine j_aload dX8_hearSteps_48 rfl rfl ?_
    refine j_callS dX8_hearSteps_50 kX8_hearOut lX8_96 stX8_hearOut (z_frame [51, 52, 53, 29, 30] rfl (by decide) (Nat.le_of_ble_eq_true rfl) (c_X8_hearOut_X3_c hl (fun _ => 0) _ _ b c a _ k (sp_E S 1) _ hav htv hbv h40.2 hm40 (by omega) he1)) (Nat.le_of_ble_eq_true rfl) ⟨(Nat.le_of_ble_eq_true rfl), (Nat.le_of_ble_eq_true rfl)⟩ rfl (Nat.le_of_ble_eq_true rfl) rfl rfl (fun _ _ h => h.elim) ?_
    rintro _ _ ⟨_, _, ⟨rfl, _, _, ef9, he9, rfl⟩, rfl, rfl⟩
    refine j_ws (L' := z_cw _ _ _ _ _ _ _ _ _ _ _ _ _ _ _ _ _ _ _ _ _ _ _ _ _ _ _ _ _ _ _ _ _ _ _ _ _ _ _ _ _ _ _ _ _ _ _ _ _ _ _ _ _ _ _ _ [.inr (8, [_, _, _, _, _, _]), .inr (11, [_]), z_ia 7 _]) (by decide) rfl rfl ?_
    refine j_lo (lo' := []) z_q0 ?_
    refine j_dropL (n := 51) rfl (Nat.le_of_ble_eq_true rfl) (Nat.le_of_ble_eq_true rfl) (Nat.le_of_ble_eq_true rfl) z_cwc rfl rfl ?_
    refine j_w (z_cw _ _ _ _ _ _ _ _ _ _ _ _ _ _ _ _ _ _ _ _ _ _ _ _ _ _ _ _ _ _ _ _ _ _ _ _ _ _ _ _ _ _ _ _ _ _ _ _ _ _ _ _ _ _ _ _ [], z_no) rfl ?_
    refine j_callV (q := (RX8, TX8, 9)) dX8_hearSteps_53 kX8_answer lX8_100 inX8_answer seX8_answer rfl rfl (z_dirF (c_X8_answer_f_e hl _ _ _ _ _ _ _ _ _ _ _ _ _ _ _ _ _ _ _ _ _ _ _ _ _ _ _ _ _ _ _ _ _ _ _ _ _ _ _ _ _ _ _ _ _ _ _ _ _ _ _ _ _ _ _ _ (sp_hsp S a b c k 1).1 nI (fun y hy z => absurd (nI_pos' (n := y) (by have h8 := sp_ho_n _ _ _ _ hy; rw [sp_spn_len] at h8; omega)) (by rw [z]; decide)))) (Nat.le_of_ble_eq_true rfl) ⟨(Nat.le_of_ble_eq_true rfl), (Nat.le_of_ble_eq_true rfl)⟩ rfl (Nat.le_of_ble_eq_true rfl) rfl rfl (fun _ _ h => h.elim) ?_
    rintro _ _ ⟨_, ⟨rfl, rfl⟩, rfl⟩
    refine j_iret dX8_hearSteps_56 rfl rfl ?_ (Nat.le_of_ble_eq_true rfl) (Nat.le_of_ble_eq_true rfl)
    refine ⟨rfl, (by first | exact z_cwl | rfl), ?_⟩
    rw [sp_i1, sp_in' (n := k) (by omega)]
    exact ⟨sp_k22_0 (Or.inr rfl) (fun z => z.elim hs hd0), rfl, (sp_CWe hra hrb ht0 ht1 ht2 he0 he9 hzm3 hzm4 hzm5 rfl)⟩
set_option maxRecDepth 100000 in
set_option maxHeartbeats 8000000 in
theorem c_X8_takeStep_p (hl : l.stackTraces = false) (S : sp_S) (fa : Nat → Int32) (fb : Nat → Int32) (mt : Int32) (ft : Nat → Int32) (ct : Nat → Int32) (f0 : Nat → Int32) (g0 : Nat → Int32) (f1 : Nat → Int32) (g1 : Nat → Int32) (c1 : Nat → Int32) (f2 : Nat → Int32) (g2 : Nat → Int32) (c2 : Nat → Int32) (f3 : Nat → Int32) (g3 : Nat → Int32) (c3 : Nat → Int32) (m3 : Int32) (f4 : Nat → Int32) (g4 : Nat → Int32) (c4 : Nat → Int32) (m4 : Int32) (f5 : Nat → Int32) (g5 : Nat → Int32) (c5 : Nat → Int32) (m5 : Int32) (ef0 : Nat → Int32) (ef1 : Nat → Int32) (a : Int32) (b : Int32) (ok : sp_ok S) (hra : z_row 12 (nI (sp_R S 0).length) fa (sp_R S 0)) (hrb : z_row 12 (nI (sp_R S 1).length) fb (sp_R S 1)) (ht0 : z_tba f0 g0 (sp_T S 0)) (ht1 : z_tba f1 g1 (sp_T S 1)) (ht2 : z_tba f2 g2 (sp_T S 2)) (he0 : z_row 10 (nI (sp_E S 0).2.length) ef0 (sp_E S 0).2) (he1 : z_row 10 (nI (sp_E S 1).2.length) ef1 (sp_E S 1).2) (hzm3 : z_m20 m3) (hzm4 : z_m20 m4) (hzm5 : z_m20 m5) : z_CX G l mX8_takeStep 20 14 120 (z_cw S.1.1 S.1.2 (nI (sp_R S 0).length) (sp_F S 0) fa (sp_C S 0) (nI (sp_R S 1).length) (sp_F S 1) fb (sp_C S 1) mt false ft ct f0 g0 (sp_C S 2) (nI (sp_T S 0).length) 0 f1 g1 c1 (nI (sp_T S 1).length) 0 f2 g2 c2 (nI (sp_T S 2).length) 1 f3 g3 c3 m3 0 f4 g4 c4 m4 0 f5 g5 c5 m5 1 (nI (sp_E S 0).2.length) (sp_E S 0).1.2.1 (sp_E S 0).1.2.2.1 (sp_E S 0).1.2.2.2 (sp_E S 0).1.1 ef0 (nI (sp_E S 1).2.length) (sp_E S 1).1.2.1 (sp_E S 1).1.2.2.1 (sp_E S 1).1.2.2.2 (sp_E S 1).1.1 ef1 []) [.ref 0, .int a, .int b] (fun v L => q_k1 (sp_bv b ∨ (a < -999 ∨ b < a)) = 0 ∧ v = some (.int ((-9 : Int32))) ∧ sp_CW (sp_nine S) L) (fun E L => ((z_xA E ∧ q_k1 (sp_bv b ∨ (a < -999 ∨ b < a)) = 1)) ∧ L = (z_cw S.1.1 S.1.2 (nI (sp_R S 0).length) (sp_F S 0) fa (sp_C S 0) (nI (sp_R S 1).length) (sp_F S 1) fb (sp_C S 1) mt false ft ct f0 g0 (sp_C S 2) (nI (sp_T S 0).length) 0 f1 g1 c1 (nI (sp_T S 1).length) 0 f2 g2 c2 (nI (sp_T S 2).length) 1 f3 g3 c3 m3 0 f4 g4 c4 m4 0 f5 g5 c5 m5 1 (nI (sp_E S 0).2.length) (sp_E S 0).1.2.1 (sp_E S 0).1.2.2.1 (sp_E S 0).1.2.2.2 (sp_E S 0).1.1 ef0 (nI (sp_E S 1).2.length) (sp_E S 1).1.2.1 (sp_E S 1).1.2.2.1 (sp_E S 1).1.2.2.2 (sp_E S 1).1.1 ef1 [])) := by
  refine z_body hl (by decide) rfl (Nat.le_of_ble_eq_true rfl) ?_
  show z_J G l mX8_takeStep (z_SX 20 14 120 (z_cw S.1.1 S.1.2 (nI (sp_R S 0).length) (sp_F S 0) fa (sp_C S 0) (nI (sp_R S 1).length) (sp_F S 1) fb (sp_C S 1) mt false ft ct f0 g0 (sp_C S 2) (nI (sp_T S 0).length) 0 f1 g1 c1 (nI (sp_T S 1).length) 0 f2 g2 c2 (nI (sp_T S 2).length) 1 f3 g3 c3 m3 0 f4 g4 c4 m4 0 f5 g5 c5 m5 1 (nI (sp_E S 0).2.length) (sp_E S 0).1.2.1 (sp_E S 0).1.2.2.1 (sp_E S 0).1.2.2.2 (sp_E S 0).1.1 ef0 (nI (sp_E S 1).2.length) (sp_E S 1).1.2.1 (sp_E S 1).1.2.2.1 (sp_E S 1).1.2.2.2 (sp_E S 1).1.1 ef1 []) (fun v L => q_k1 (sp_bv b ∨ (a < -999 ∨ b < a)) = 0 ∧ v = some (.int ((-9 : Int32))) ∧ sp_CW (sp_nine S) L) (fun E L => ((z_xA E ∧ q_k1 (sp_bv b ∨ (a < -999 ∨ b < a)) = 1)) ∧ L = (z_cw S.1.1 S.1.2 (nI (sp_R S 0).length) (sp_F S 0) fa (sp_C S 0) (nI (sp_R S 1).length) (sp_F S 1) fb (sp_C S 1) mt false ft ct f0 g0 (sp_C S 2) (nI (sp_T S 0).length) 0 f1 g1 c1 (nI (sp_T S 1).length) 0 f2 g2 c2 (nI (sp_T S 2).length) 1 f3 g3 c3 m3 0 f4 g4 c4 m4 0 f5 g5 c5 m5 1 (nI (sp_E S 0).2.length) (sp_E S 0).1.2.1 (sp_E S 0).1.2.2.1 (sp_E S 0).1.2.2.2 (sp_E S 0).1.1 ef0 (nI (sp_E S 1).2.length) (sp_E S 1).1.2.1 (sp_E S 1).1.2.2.1 (sp_E S 1).1.2.2.2 (sp_E S 1).1.1 ef1 []))) 0 [(0, _), (1, _), (2, _)] [] _ 0 0
  refine j_iload_n dX8_takeStep_0 rfl ?_
  refine j_callS dX8_takeStep_1 kX8_checkValue lX8_50 stX8_checkValue (c_X8_checkValue_e hl _ _) (Nat.le_of_ble_eq_true rfl) ⟨(Nat.le_of_ble_eq_true rfl), (Nat.le_of_ble_eq_true rfl)⟩ rfl (Nat.le_of_ble_eq_true rfl) rfl rfl (fun _ _ h => by obtain ⟨h1, rfl⟩ := h; exact ⟨rfl, rfl, ⟨h1.1, if_pos (Or.inl h1.2)⟩, rfl⟩) ?_
  rintro _ _ ⟨⟨rfl, hc1⟩, rfl⟩
  refine j_iload_n dX8_takeStep_4 rfl ?_
  refine j_sipush (v := (-999)) dX8_takeStep_5 (by decide) ?_
  refine j_iload_n dX8_takeStep_8 rfl ?_
  refine j_callS dX8_takeStep_9 kX8_checkRange lX8_72 stX8_checkRange (c_X8_checkRange_e hl _ _ _ _) (Nat.le_of_ble_eq_true rfl) ⟨(Nat.le_of_ble_eq_true rfl), (Nat.le_of_ble_eq_true rfl)⟩ rfl (Nat.le_of_ble_eq_true rfl) rfl rfl (fun _ _ h => by obtain ⟨h1, rfl⟩ := h; exact ⟨rfl, rfl, ⟨h1.1, if_pos (Or.inr h1.2)⟩, rfl⟩) ?_
  rintro _ _ ⟨⟨rfl, hc9⟩, rfl⟩
  refine j_aload_n dX8_takeStep_12 rfl rfl ?_
  refine j_callV (q := (RX8, TX8, 9)) dX8_takeStep_13 kX8_refused lX8_119 inX8_refused seX8_refused rfl rfl (z_dirF (c_X8_refused_e hl _ _ _ _ _ _ _ _ _ _ _ _ _ _ _ _ _ _ _ _ _ _ _ _ _ _ _ _ _ _ _ _ _ _ _ _ _ _ _ _ _ _ _ _ _ _ _ _ _ _ _ _ _ _ _ _)) (Nat.le_of_ble_eq_true rfl) ⟨(Nat.le_of_ble_eq_true rfl), (Nat.le_of_ble_eq_true rfl)⟩ rfl (Nat.le_of_ble_eq_true rfl) rfl rfl (fun _ _ h => h.elim) ?_
  rintro _ _ ⟨_, ⟨rfl, rfl⟩, rfl⟩
  refine j_iret dX8_takeStep_16 rfl rfl ?_ (Nat.le_of_ble_eq_true rfl) (Nat.le_of_ble_eq_true rfl)
  exact ⟨rfl, (by first | exact z_cwl | rfl), if_neg (fun z => z.elim hc1 hc9), rfl, (sp_CWe hra hrb ht0 ht1 ht2 he0 he1 hzm3 hzm4 hzm5 rfl)⟩
set_option maxRecDepth 100000 in
set_option maxHeartbeats 8000000 in
theorem c_X8_given_p (hl : l.stackTraces = false) (S : sp_S) (fa : Nat → Int32) (fb : Nat → Int32) (mt : Int32) (ft : Nat → Int32) (ct : Nat → Int32) (f0 : Nat → Int32) (g0 : Nat → Int32) (f1 : Nat → Int32) (g1 : Nat → Int32) (c1 : Nat → Int32) (f2 : Nat → Int32) (g2 : Nat → Int32) (c2 : Nat → Int32) (f3 : Nat → Int32) (g3 : Nat → Int32) (c3 : Nat → Int32) (m3 : Int32) (f4 : Nat → Int32) (g4 : Nat → Int32) (c4 : Nat → Int32) (m4 : Int32) (f5 : Nat → Int32) (g5 : Nat → Int32) (c5 : Nat → Int32) (m5 : Int32) (ef0 : Nat → Int32) (ef1 : Nat → Int32) (r : Int32) (k : Int32) (y : Int32) (n : Int32) (ok : sp_ok S) (hra : z_row 12 (nI (sp_R S 0).length) fa (sp_R S 0)) (hrb : z_row 12 (nI (sp_R S 1).length) fb (sp_R S 1)) (ht0 : z_tba f0 g0 (sp_T S 0)) (ht1 : z_tba f1 g1 (sp_T S 1)) (ht2 : z_tba f2 g2 (sp_T S 2)) (he0 : z_row 10 (nI (sp_E S 0).2.length) ef0 (sp_E S 0).2) (he1 : z_row 10 (nI (sp_E S 1).2.length) ef1 (sp_E S 1).2) (hzm3 : z_m20 m3) (hzm4 : z_m20 m4) (hzm5 : z_m20 m5) : z_CX G l mX8_given 20 14 120 (z_cw S.1.1 S.1.2 (nI (sp_R S 0).length) (sp_F S 0) fa (sp_C S 0) (nI (sp_R S 1).length) (sp_F S 1) fb (sp_C S 1) mt false ft ct f0 g0 (sp_C S 2) (nI (sp_T S 0).length) 0 f1 g1 c1 (nI (sp_T S 1).length) 0 f2 g2 c2 (nI (sp_T S 2).length) 1 f3 g3 c3 m3 0 f4 g4 c4 m4 0 f5 g5 c5 m5 1 (nI (sp_E S 0).2.length) (sp_E S 0).1.2.1 (sp_E S 0).1.2.2.1 (sp_E S 0).1.2.2.2 (sp_E S 0).1.1 ef0 (nI (sp_E S 1).2.length) (sp_E S 1).1.2.1 (sp_E S 1).1.2.2.1 (sp_E S 1).1.2.2.2 (sp_E S 1).1.1 ef1 []) [.ref 0, .int r, .int k, .int y, .int n] (fun v L => q_k1 (sp_bk k ∨ (y < -1000 ∨ 999 < y) ∨ (r < 0 ∨ 5 < r) ∨ sp_bv n) = 0 ∧ v = some (.int ((q_rt r k (q_d y) n).getD (-9))) ∧ sp_CW (S) L) (fun E L => ((z_xA E ∧ q_k1 (sp_bk k ∨ (y < -1000 ∨ 999 < y) ∨ (r < 0 ∨ 5 < r) ∨ sp_bv n) = 1)) ∧ L = (z_cw S.1.1 S.1.2 (nI (sp_R S 0).length) (sp_F S 0) fa (sp_C S 0) (nI (sp_R S 1).length) (sp_F S 1) fb (sp_C S 1) mt false ft ct f0 g0 (sp_C S 2) (nI (sp_T S 0).length) 0 f1 g1 c1 (nI (sp_T S 1).length) 0 f2 g2 c2 (nI (sp_T S 2).length) 1 f3 g3 c3 m3 0 f4 g4 c4 m4 0 f5 g5 c5 m5 1 (nI (sp_E S 0).2.length) (sp_E S 0).1.2.1 (sp_E S 0).1.2.2.1 (sp_E S 0).1.2.2.2 (sp_E S 0).1.1 ef0 (nI (sp_E S 1).2.length) (sp_E S 1).1.2.1 (sp_E S 1).1.2.2.1 (sp_E S 1).1.2.2.2 (sp_E S 1).1.1 ef1 [])) := by
  refine z_body hl (by decide) rfl (Nat.le_of_ble_eq_true rfl) ?_
  show z_J G l mX8_given (z_SX 20 14 120 (z_cw S.1.1 S.1.2 (nI (sp_R S 0).length) (sp_F S 0) fa (sp_C S 0) (nI (sp_R S 1).length) (sp_F S 1) fb (sp_C S 1) mt false ft ct f0 g0 (sp_C S 2) (nI (sp_T S 0).length) 0 f1 g1 c1 (nI (sp_T S 1).length) 0 f2 g2 c2 (nI (sp_T S 2).length) 1 f3 g3 c3 m3 0 f4 g4 c4 m4 0 f5 g5 c5 m5 1 (nI (sp_E S 0).2.length) (sp_E S 0).1.2.1 (sp_E S 0).1.2.2.1 (sp_E S 0).1.2.2.2 (sp_E S 0).1.1 ef0 (nI (sp_E S 1).2.length) (sp_E S 1).1.2.1 (sp_E S 1).1.2.2.1 (sp_E S 1).1.2.2.2 (sp_E S 1).1.1 ef1 []) (fun v L => q_k1 (sp_bk k ∨ (y < -1000 ∨ 999 < y) ∨ (r < 0 ∨ 5 < r) ∨ sp_bv n) = 0 ∧ v = some (.int ((q_rt r k (q_d y) n).getD (-9))) ∧ sp_CW (S) L) (fun E L => ((z_xA E ∧ q_k1 (sp_bk k ∨ (y < -1000 ∨ 999 < y) ∨ (r < 0 ∨ 5 < r) ∨ sp_bv n) = 1)) ∧ L = (z_cw S.1.1 S.1.2 (nI (sp_R S 0).length) (sp_F S 0) fa (sp_C S 0) (nI (sp_R S 1).length) (sp_F S 1) fb (sp_C S 1) mt false ft ct f0 g0 (sp_C S 2) (nI (sp_T S 0).length) 0 f1 g1 c1 (nI (sp_T S 1).length) 0 f2 g2 c2 (nI (sp_T S 2).length) 1 f3 g3 c3 m3 0 f4 g4 c4 m4 0 f5 g5 c5 m5 1 (nI (sp_E S 0).2.length) (sp_E S 0).1.2.1 (sp_E S 0).1.2.2.1 (sp_E S 0).1.2.2.2 (sp_E S 0).1.1 ef0 (nI (sp_E S 1).2.length) (sp_E S 1).1.2.1 (sp_E S 1).1.2.2.1 (sp_E S 1).1.2.2.2 (sp_E S 1).1.1 ef1 []))) 0 [(0, _), (1, _), (2, _), (3, _), (4, _)] [] _ 0 0
  refine j_iload_n dX8_given_0 rfl ?_
  refine j_callS dX8_given_1 kX8_checkKey lX8_234 stX8_checkKey (c_X8_checkKey_e hl _ _) (Nat.le_of_ble_eq_true rfl) ⟨(Nat.le_of_ble_eq_true rfl), (Nat.le_of_ble_eq_true rfl)⟩ rfl (Nat.le_of_ble_eq_true rfl) rfl rfl (fun _ _ h => by obtain ⟨h1, rfl⟩ := h; exact ⟨rfl, rfl, ⟨h1.1, if_pos (Or.inl h1.2)⟩, rfl⟩) ?_
  rintro _ _ ⟨⟨rfl, hc1⟩, rfl⟩
  refine j_iload_n dX8_given_4 rfl ?_
  refine j_sipush (v := (-1000)) dX8_given_5 (by decide) ?_
  refine j_sipush (v := 999) dX8_given_8 (by decide) ?_
  refine j_callS dX8_given_11 kX8_checkRange lX8_72 stX8_checkRange (c_X8_checkRange_e hl _ _ _ _) (Nat.le_of_ble_eq_true rfl) ⟨(Nat.le_of_ble_eq_true rfl), (Nat.le_of_ble_eq_true rfl)⟩ rfl (Nat.le_of_ble_eq_true rfl) rfl rfl (fun _ _ h => by obtain ⟨h1, rfl⟩ := h; exact ⟨rfl, rfl, ⟨h1.1, if_pos (Or.inr (Or.inl h1.2))⟩, rfl⟩) ?_
  rintro _ _ ⟨⟨rfl, hc11⟩, rfl⟩
  refine j_iload_n dX8_given_14 rfl ?_
  refine j_iconst (v := 0) dX8_given_15 (by decide) ?_
  refine j_iconst (v := 5) dX8_given_16 (by decide) ?_
  refine j_callS dX8_given_17 kX8_checkRange lX8_72 stX8_checkRange (c_X8_checkRange_e hl _ _ _ _) (Nat.le_of_ble_eq_true rfl) ⟨(Nat.le_of_ble_eq_true rfl), (Nat.le_of_ble_eq_true rfl)⟩ rfl (Nat.le_of_ble_eq_true rfl) rfl rfl (fun _ _ h => by obtain ⟨h1, rfl⟩ := h; exact ⟨rfl, rfl, ⟨h1.1, if_pos (Or.inr (Or.inr (Or.inl h1.2)))⟩, rfl⟩) ?_
  rintro _ _ ⟨⟨rfl, hc17⟩, rfl⟩
  refine j_iload dX8_given_20 rfl ?_
  refine j_callS dX8_given_22 kX8_checkValue lX8_50 stX8_checkValue (c_X8_checkValue_e hl _ _) (Nat.le_of_ble_eq_true rfl) ⟨(Nat.le_of_ble_eq_true rfl), (Nat.le_of_ble_eq_true rfl)⟩ rfl (Nat.le_of_ble_eq_true rfl) rfl rfl (fun _ _ h => by obtain ⟨h1, rfl⟩ := h; exact ⟨rfl, rfl, ⟨h1.1, if_pos (Or.inr (Or.inr (Or.inr h1.2)))⟩, rfl⟩) ?_
  rintro _ _ ⟨⟨rfl, hc22⟩, rfl⟩
  refine j_iload_n dX8_given_25 rfl ?_
  refine j_iload_n dX8_given_26 rfl ?_
  refine j_iload_n dX8_given_27 rfl ?_
  refine j_iload dX8_given_28 rfl ?_
  refine j_callS dX8_given_30 kX8_ruleTells lX8_237 stX8_ruleTells (c_X8_ruleTells_e hl _ _ _ _ _) (Nat.le_of_ble_eq_true rfl) ⟨(Nat.le_of_ble_eq_true rfl), (Nat.le_of_ble_eq_true rfl)⟩ rfl (Nat.le_of_ble_eq_true rfl) rfl rfl (fun _ _ h => h.elim) ?_
  rintro _ _ ⟨rfl, rfl⟩
  refine j_istore (lo' := [(5, _), (0, _), (1, _), (2, _), (3, _), (4, _)]) dX8_given_33 (by decide) rfl ?_
  refine j_iload dX8_given_35 rfl ?_
  refine j_sipush (v := (-1001)) dX8_given_37 (by decide) ?_
  refine j_icmp_ne (tgt := 48) dX8_given_40 (by decide) (fun c_40 => ?_) (fun c_40 => ?_)
  · refine j_iload dX8_given_48 rfl ?_
    refine j_iret dX8_given_50 rfl rfl ?_ (Nat.le_of_ble_eq_true rfl) (Nat.le_of_ble_eq_true rfl)
    first | exact ⟨rfl, rfl, q_k1a hc1 hc11 hc17 hc22, (by rw [q_g1 hc11 hc22 (by first | exact c_40 | exact Decidable.of_not_not c_40)] <;> rfl), (sp_CWe hra hrb ht0 ht1 ht2 he0 he1 hzm3 hzm4 hzm5 rfl)⟩ | exact ⟨rfl, rfl, q_k1a hc1 hc11 hc17 hc22, (by rw [q_g2 c_40] <;> rfl), (sp_CWe hra hrb ht0 ht1 ht2 he0 he1 hzm3 hzm4 hzm5 rfl)⟩
  · refine j_bipush (v := (-9)) dX8_given_43 (by decide) ?_
    refine j_goto (tgt := 50) dX8_given_45 (by decide) ?_
    refine j_iret dX8_given_50 rfl rfl ?_ (Nat.le_of_ble_eq_true rfl) (Nat.le_of_ble_eq_true rfl)
    first | exact ⟨rfl, rfl, q_k1a hc1 hc11 hc17 hc22, (by rw [q_g1 hc11 hc22 (by first | exact c_40 | exact Decidable.of_not_not c_40)] <;> rfl), (sp_CWe hra hrb ht0 ht1 ht2 he0 he1 hzm3 hzm4 hzm5 rfl)⟩ | exact ⟨rfl, rfl, q_k1a hc1 hc11 hc17 hc22, (by rw [q_g2 c_40] <;> rfl), (sp_CWe hra hrb ht0 ht1 ht2 he0 he1 hzm3 hzm4 hzm5 rfl)⟩
set_option maxRecDepth 100000 in
set_option maxHeartbeats 8000000 in
theorem c_X8_tested_p (hl : l.stackTraces = false) (S : sp_S) (fa : Nat → Int32) (fb : Nat → Int32) (mt : Int32) (ft : Nat → Int32) (ct : Nat → Int32) (f0 : Nat → Int32) (g0 : Nat → Int32) (f1 : Nat → Int32) (g1 : Nat → Int32) (c1 : Nat → Int32) (f2 : Nat → Int32) (g2 : Nat → Int32) (c2 : Nat → Int32) (f3 : Nat → Int32) (g3 : Nat → Int32) (c3 : Nat → Int32) (m3 : Int32) (f4 : Nat → Int32) (g4 : Nat → Int32) (c4 : Nat → Int32) (m4 : Int32) (f5 : Nat → Int32) (g5 : Nat → Int32) (c5 : Nat → Int32) (m5 : Int32) (ef0 : Nat → Int32) (ef1 : Nat → Int32) (t : Int32) (y : Int32) (n : Int32) (ok : sp_ok S) (hra : z_row 12 (nI (sp_R S 0).length) fa (sp_R S 0)) (hrb : z_row 12 (nI (sp_R S 1).length) fb (sp_R S 1)) (ht0 : z_tba f0 g0 (sp_T S 0)) (ht1 : z_tba f1 g1 (sp_T S 1)) (ht2 : z_tba f2 g2 (sp_T S 2)) (he0 : z_row 10 (nI (sp_E S 0).2.length) ef0 (sp_E S 0).2) (he1 : z_row 10 (nI (sp_E S 1).2.length) ef1 (sp_E S 1).2) (hzm3 : z_m20 m3) (hzm4 : z_m20 m4) (hzm5 : z_m20 m5) : z_CX G l mX8_tested 20 14 120 (z_cw S.1.1 S.1.2 (nI (sp_R S 0).length) (sp_F S 0) fa (sp_C S 0) (nI (sp_R S 1).length) (sp_F S 1) fb (sp_C S 1) mt false ft ct f0 g0 (sp_C S 2) (nI (sp_T S 0).length) 0 f1 g1 c1 (nI (sp_T S 1).length) 0 f2 g2 c2 (nI (sp_T S 2).length) 1 f3 g3 c3 m3 0 f4 g4 c4 m4 0 f5 g5 c5 m5 1 (nI (sp_E S 0).2.length) (sp_E S 0).1.2.1 (sp_E S 0).1.2.2.1 (sp_E S 0).1.2.2.2 (sp_E S 0).1.1 ef0 (nI (sp_E S 1).2.length) (sp_E S 1).1.2.1 (sp_E S 1).1.2.2.1 (sp_E S 1).1.2.2.2 (sp_E S 1).1.1 ef1 []) [.ref 0, .int t, .int y, .int n] (fun v L => q_k1 ((t < 0 ∨ 5 < t) ∨ sp_bv y ∨ sp_bv n) = 0 ∧ v = some (.int ((q_tt t y n).getD (-9))) ∧ sp_CW (S) L) (fun E L => ((z_xA E ∧ q_k1 ((t < 0 ∨ 5 < t) ∨ sp_bv y ∨ sp_bv n) = 1)) ∧ L = (z_cw S.1.1 S.1.2 (nI (sp_R S 0).length) (sp_F S 0) fa (sp_C S 0) (nI (sp_R S 1).length) (sp_F S 1) fb (sp_C S 1) mt false ft ct f0 g0 (sp_C S 2) (nI (sp_T S 0).length) 0 f1 g1 c1 (nI (sp_T S 1).length) 0 f2 g2 c2 (nI (sp_T S 2).length) 1 f3 g3 c3 m3 0 f4 g4 c4 m4 0 f5 g5 c5 m5 1 (nI (sp_E S 0).2.length) (sp_E S 0).1.2.1 (sp_E S 0).1.2.2.1 (sp_E S 0).1.2.2.2 (sp_E S 0).1.1 ef0 (nI (sp_E S 1).2.length) (sp_E S 1).1.2.1 (sp_E S 1).1.2.2.1 (sp_E S 1).1.2.2.2 (sp_E S 1).1.1 ef1 [])) := by
  refine z_body hl (by decide) rfl (Nat.le_of_ble_eq_true rfl) ?_
  show z_J G l mX8_tested (z_SX 20 14 120 (z_cw S.1.1 S.1.2 (nI (sp_R S 0).length) (sp_F S 0) fa (sp_C S 0) (nI (sp_R S 1).length) (sp_F S 1) fb (sp_C S 1) mt false ft ct f0 g0 (sp_C S 2) (nI (sp_T S 0).length) 0 f1 g1 c1 (nI (sp_T S 1).length) 0 f2 g2 c2 (nI (sp_T S 2).length) 1 f3 g3 c3 m3 0 f4 g4 c4 m4 0 f5 g5 c5 m5 1 (nI (sp_E S 0).2.length) (sp_E S 0).1.2.1 (sp_E S 0).1.2.2.1 (sp_E S 0).1.2.2.2 (sp_E S 0).1.1 ef0 (nI (sp_E S 1).2.length) (sp_E S 1).1.2.1 (sp_E S 1).1.2.2.1 (sp_E S 1).1.2.2.2 (sp_E S 1).1.1 ef1 []) (fun v L => q_k1 ((t < 0 ∨ 5 < t) ∨ sp_bv y ∨ sp_bv n) = 0 ∧ v = some (.int ((q_tt t y n).getD (-9))) ∧ sp_CW (S) L) (fun E L => ((z_xA E ∧ q_k1 ((t < 0 ∨ 5 < t) ∨ sp_bv y ∨ sp_bv n) = 1)) ∧ L = (z_cw S.1.1 S.1.2 (nI (sp_R S 0).length) (sp_F S 0) fa (sp_C S 0) (nI (sp_R S 1).length) (sp_F S 1) fb (sp_C S 1) mt false ft ct f0 g0 (sp_C S 2) (nI (sp_T S 0).length) 0 f1 g1 c1 (nI (sp_T S 1).length) 0 f2 g2 c2 (nI (sp_T S 2).length) 1 f3 g3 c3 m3 0 f4 g4 c4 m4 0 f5 g5 c5 m5 1 (nI (sp_E S 0).2.length) (sp_E S 0).1.2.1 (sp_E S 0).1.2.2.1 (sp_E S 0).1.2.2.2 (sp_E S 0).1.1 ef0 (nI (sp_E S 1).2.length) (sp_E S 1).1.2.1 (sp_E S 1).1.2.2.1 (sp_E S 1).1.2.2.2 (sp_E S 1).1.1 ef1 []))) 0 [(0, _), (1, _), (2, _), (3, _)] [] _ 0 0
  refine j_iload_n dX8_tested_0 rfl ?_
  refine j_iconst (v := 0) dX8_tested_1 (by decide) ?_
  refine j_iconst (v := 5) dX8_tested_2 (by decide) ?_
  refine j_callS dX8_tested_3 kX8_checkRange lX8_72 stX8_checkRange (c_X8_checkRange_e hl _ _ _ _) (Nat.le_of_ble_eq_true rfl) ⟨(Nat.le_of_ble_eq_true rfl), (Nat.le_of_ble_eq_true rfl)⟩ rfl (Nat.le_of_ble_eq_true rfl) rfl rfl (fun _ _ h => by obtain ⟨h1, rfl⟩ := h; exact ⟨rfl, rfl, ⟨h1.1, if_pos (Or.inl h1.2)⟩, rfl⟩) ?_
  rintro _ _ ⟨⟨rfl, hc3⟩, rfl⟩
  refine j_iload_n dX8_tested_6 rfl ?_
  refine j_callS dX8_tested_7 kX8_checkValue lX8_50 stX8_checkValue (c_X8_checkValue_e hl _ _) (Nat.le_of_ble_eq_true rfl) ⟨(Nat.le_of_ble_eq_true rfl), (Nat.le_of_ble_eq_true rfl)⟩ rfl (Nat.le_of_ble_eq_true rfl) rfl rfl (fun _ _ h => by obtain ⟨h1, rfl⟩ := h; exact ⟨rfl, rfl, ⟨h1.1, if_pos (Or.inr (Or.inl h1.2))⟩, rfl⟩) ?_
  rintro _ _ ⟨⟨rfl, hc7⟩, rfl⟩
  refine j_iload_n dX8_tested_10 rfl ?_
  refine j_callS dX8_tested_11 kX8_checkValue lX8_50 stX8_checkValue (c_X8_checkValue_e hl _ _) (Nat.le_of_ble_eq_true rfl) ⟨(Nat.le_of_ble_eq_true rfl), (Nat.le_of_ble_eq_true rfl)⟩ rfl (Nat.le_of_ble_eq_true rfl) rfl rfl (fun _ _ h => by obtain ⟨h1, rfl⟩ := h; exact ⟨rfl, rfl, ⟨h1.1, if_pos (Or.inr (Or.inr h1.2))⟩, rfl⟩) ?_
  rintro _ _ ⟨⟨rfl, hc11⟩, rfl⟩
  refine j_iload_n dX8_tested_14 rfl ?_
  refine j_iload_n dX8_tested_15 rfl ?_
  refine j_iload_n dX8_tested_16 rfl ?_
  refine j_callS dX8_tested_17 kX8_testTells lX8_241 stX8_testTells (c_X8_testTells_e hl _ _ _ _) (Nat.le_of_ble_eq_true rfl) ⟨(Nat.le_of_ble_eq_true rfl), (Nat.le_of_ble_eq_true rfl)⟩ rfl (Nat.le_of_ble_eq_true rfl) rfl rfl (fun _ _ h => h.elim) ?_
  rintro _ _ ⟨rfl, rfl⟩
  refine j_istore (lo' := [(4, _), (0, _), (1, _), (2, _), (3, _)]) dX8_tested_20 (by decide) rfl ?_
  refine j_iload dX8_tested_22 rfl ?_
  refine j_sipush (v := (-1001)) dX8_tested_24 (by decide) ?_
  refine j_icmp_ne (tgt := 35) dX8_tested_27 (by decide) (fun c_27 => ?_) (fun c_27 => ?_)
  · refine j_iload dX8_tested_35 rfl ?_
    refine j_iret dX8_tested_37 rfl rfl ?_ (Nat.le_of_ble_eq_true rfl) (Nat.le_of_ble_eq_true rfl)
    first | exact ⟨rfl, rfl, q_k1b hc3 hc7 hc11, (by rw [q_h1 (by first | exact c_27 | exact Decidable.of_not_not c_27)] <;> rfl), (sp_CWe hra hrb ht0 ht1 ht2 he0 he1 hzm3 hzm4 hzm5 rfl)⟩ | exact ⟨rfl, rfl, q_k1b hc3 hc7 hc11, (by rw [q_g2 c_27] <;> rfl), (sp_CWe hra hrb ht0 ht1 ht2 he0 he1 hzm3 hzm4 hzm5 rfl)⟩
  · refine j_bipush (v := (-9)) dX8_tested_30 (by decide) ?_
    refine j_goto (tgt := 37) dX8_tested_32 (by decide) ?_
    refine j_iret dX8_tested_37 rfl rfl ?_ (Nat.le_of_ble_eq_true rfl) (Nat.le_of_ble_eq_true rfl)
    first | exact ⟨rfl, rfl, q_k1b hc3 hc7 hc11, (by rw [q_h1 (by first | exact c_27 | exact Decidable.of_not_not c_27)] <;> rfl), (sp_CWe hra hrb ht0 ht1 ht2 he0 he1 hzm3 hzm4 hzm5 rfl)⟩ | exact ⟨rfl, rfl, q_k1b hc3 hc7 hc11, (by rw [q_g2 c_27] <;> rfl), (sp_CWe hra hrb ht0 ht1 ht2 he0 he1 hzm3 hzm4 hzm5 rfl)⟩
set_option maxRecDepth 100000 in
set_option maxHeartbeats 8000000 in
theorem c_X8_valuesOfRows_e (hl : l.stackTraces = false) (S : sp_S) (fa : Nat → Int32) (fb : Nat → Int32) (mt : Int32) (ft : Nat → Int32) (ct : Nat → Int32) (f0 : Nat → Int32) (g0 : Nat → Int32) (f1 : Nat → Int32) (g1 : Nat → Int32) (c1 : Nat → Int32) (f2 : Nat → Int32) (g2 : Nat → Int32) (c2 : Nat → Int32) (f3 : Nat → Int32) (g3 : Nat → Int32) (c3 : Nat → Int32) (m3 : Int32) (f4 : Nat → Int32) (g4 : Nat → Int32) (c4 : Nat → Int32) (m4 : Int32) (f5 : Nat → Int32) (g5 : Nat → Int32) (c5 : Nat → Int32) (m5 : Int32) (ef0 : Nat → Int32) (ef1 : Nat → Int32)  : z_CF G l mX8_valuesOfRows 10 0 0 (z_cw S.1.1 S.1.2 (nI (sp_R S 0).length) (sp_F S 0) fa (sp_C S 0) (nI (sp_R S 1).length) (sp_F S 1) fb (sp_C S 1) mt false ft ct f0 g0 (sp_C S 2) (nI (sp_T S 0).length) 0 f1 g1 c1 (nI (sp_T S 1).length) 0 f2 g2 c2 (nI (sp_T S 2).length) 1 f3 g3 c3 m3 0 f4 g4 c4 m4 0 f5 g5 c5 m5 1 (nI (sp_E S 0).2.length) (sp_E S 0).1.2.1 (sp_E S 0).1.2.2.1 (sp_E S 0).1.2.2.2 (sp_E S 0).1.1 ef0 (nI (sp_E S 1).2.length) (sp_E S 1).1.2.1 (sp_E S 1).1.2.2.1 (sp_E S 1).1.2.2.2 (sp_E S 1).1.1 ef1 []) [.ref 0] (fun v L => v = some (.int (nI (0 + (sp_R S 0).length + (sp_R S 1).length))) ∧ L = (z_cw S.1.1 S.1.2 (nI (sp_R S 0).length) (sp_F S 0) fa (sp_C S 0) (nI (sp_R S 1).length) (sp_F S 1) fb (sp_C S 1) mt false ft ct f0 g0 (sp_C S 2) (nI (sp_T S 0).length) 0 f1 g1 c1 (nI (sp_T S 1).length) 0 f2 g2 c2 (nI (sp_T S 2).length) 1 f3 g3 c3 m3 0 f4 g4 c4 m4 0 f5 g5 c5 m5 1 (nI (sp_E S 0).2.length) (sp_E S 0).1.2.1 (sp_E S 0).1.2.2.1 (sp_E S 0).1.2.2.2 (sp_E S 0).1.1 ef0 (nI (sp_E S 1).2.length) (sp_E S 1).1.2.1 (sp_E S 1).1.2.2.1 (sp_E S 1).1.2.2.2 (sp_E S 1).1.1 ef1 [])) := by
  refine z_body hl (by decide) rfl (Nat.le_of_ble_eq_true rfl) ?_
  show z_J G l mX8_valuesOfRows (z_SF 10 0 0 (z_cw S.1.1 S.1.2 (nI (sp_R S 0).length) (sp_F S 0) fa (sp_C S 0) (nI (sp_R S 1).length) (sp_F S 1) fb (sp_C S 1) mt false ft ct f0 g0 (sp_C S 2) (nI (sp_T S 0).length) 0 f1 g1 c1 (nI (sp_T S 1).length) 0 f2 g2 c2 (nI (sp_T S 2).length) 1 f3 g3 c3 m3 0 f4 g4 c4 m4 0 f5 g5 c5 m5 1 (nI (sp_E S 0).2.length) (sp_E S 0).1.2.1 (sp_E S 0).1.2.2.1 (sp_E S 0).1.2.2.2 (sp_E S 0).1.1 ef0 (nI (sp_E S 1).2.length) (sp_E S 1).1.2.1 (sp_E S 1).1.2.2.1 (sp_E S 1).1.2.2.2 (sp_E S 1).1.1 ef1 []) (fun v L => v = some (.int (nI (0 + (sp_R S 0).length + (sp_R S 1).length))) ∧ L = (z_cw S.1.1 S.1.2 (nI (sp_R S 0).length) (sp_F S 0) fa (sp_C S 0) (nI (sp_R S 1).length) (sp_F S 1) fb (sp_C S 1) mt false ft ct f0 g0 (sp_C S 2) (nI (sp_T S 0).length) 0 f1 g1 c1 (nI (sp_T S 1).length) 0 f2 g2 c2 (nI (sp_T S 2).length) 1 f3 g3 c3 m3 0 f4 g4 c4 m4 0 f5 g5 c5 m5 1 (nI (sp_E S 0).2.length) (sp_E S 0).1.2.1 (sp_E S 0).1.2.2.1 (sp_E S 0).1.2.2.2 (sp_E S 0).1.1 ef0 (nI (sp_E S 1).2.length) (sp_E S 1).1.2.1 (sp_E S 1).1.2.2.1 (sp_E S 1).1.2.2.2 (sp_E S 1).1.1 ef1 []))) 0 [(0, _)] [] _ 0 0
  refine j_iconst (v := 0) dX8_valuesOfRows_0 (by decide) ?_
  refine j_istore_n (lo' := [(1, _), (0, _)]) dX8_valuesOfRows_1 (by decide) rfl ?_
  refine j_aload_n dX8_valuesOfRows_2 rfl rfl ?_
  refine j_getf dX8_valuesOfRows_3 fX8_10 rfl rfl ?_
  refine j_astore_n (lo' := [(2, _), (1, _), (0, _)]) dX8_valuesOfRows_6 rfl (by decide) rfl ?_
  refine j_aload_n dX8_valuesOfRows_7 rfl rfl ?_
  refine j_alen dX8_valuesOfRows_8 rfl rfl rfl ?_
  refine j_istore_n (lo' := [(3, _), (2, _), (1, _), (0, _)]) dX8_valuesOfRows_9 (by decide) rfl ?_
  refine j_iconst (v := 0) dX8_valuesOfRows_10 (by decide) ?_
  refine j_istore (lo' := [(4, _), (3, _), (2, _), (1, _), (0, _)]) dX8_valuesOfRows_11 (by decide) rfl ?_
  refine j_iload dX8_valuesOfRows_13 rfl ?_
  refine j_iload_n dX8_valuesOfRows_15 rfl ?_
  refine j_icmp_ge (tgt := 39) dX8_valuesOfRows_16 (by decide) (fun c_16 => ?_) (fun c_16 => ?_)
  · exact absurd c_16 (by decide)
  · refine j_aload_n dX8_valuesOfRows_19 rfl rfl ?_
    refine j_iload dX8_valuesOfRows_20 rfl ?_
    refine j_aald (v := .ref 2) dX8_valuesOfRows_22 rfl rfl rfl (vp_in_iff.mpr (by decide)) rfl ?_
    refine j_astore (lo' := [(5, _), (4, _), (3, _), (2, _), (1, _), (0, _)]) dX8_valuesOfRows_23 rfl (by decide) rfl ?_
    refine j_iload_n dX8_valuesOfRows_25 rfl ?_
    refine j_aload dX8_valuesOfRows_26 rfl rfl ?_
    refine j_getf dX8_valuesOfRows_28 fX8_68 rfl rfl ?_
    refine j_iadd dX8_valuesOfRows_31 ?_
    refine j_top (congrArg Value.int (show nI (0) + nI ((sp_R S 0).length) = nI (0 + (sp_R S 0).length) from nI_add _ _)) ?_
    refine j_istore_n (lo' := [(1, _), (5, _), (4, _), (3, _), (2, _), (0, _)]) dX8_valuesOfRows_32 (by decide) rfl ?_
    refine j_iinc (lo' := [(4, _), (1, _), (5, _), (3, _), (2, _), (0, _)]) dX8_valuesOfRows_33 rfl rfl (by decide) rfl ?_
    refine j_goto (tgt := 13) dX8_valuesOfRows_36 (by decide) ?_
    refine j_iload dX8_valuesOfRows_13 rfl ?_
    refine j_iload_n dX8_valuesOfRows_15 rfl ?_
    refine j_icmp_ge (tgt := 39) dX8_valuesOfRows_16 (by decide) (fun c_16 => ?_) (fun c_16 => ?_)
    · exact absurd c_16 (by decide)
    · refine j_aload_n dX8_valuesOfRows_19 rfl rfl ?_
      refine j_iload dX8_valuesOfRows_20 rfl ?_
      refine j_aald (v := .ref 6) dX8_valuesOfRows_22 rfl rfl rfl (vp_in_iff.mpr (by decide)) rfl ?_
      refine j_astore (lo' := [(5, _), (4, _), (1, _), (3, _), (2, _), (0, _)]) dX8_valuesOfRows_23 rfl (by decide) rfl ?_
      refine j_iload_n dX8_valuesOfRows_25 rfl ?_
      refine j_aload dX8_valuesOfRows_26 rfl rfl ?_
      refine j_getf dX8_valuesOfRows_28 fX8_68 rfl rfl ?_
      refine j_iadd dX8_valuesOfRows_31 ?_
      refine j_top (congrArg Value.int (show nI ((0 + (sp_R S 0).length)) + nI ((sp_R S 1).length) = nI ((0 + (sp_R S 0).length) + (sp_R S 1).length) from nI_add _ _)) ?_
      refine j_istore_n (lo' := [(1, _), (5, _), (4, _), (3, _), (2, _), (0, _)]) dX8_valuesOfRows_32 (by decide) rfl ?_
      refine j_iinc (lo' := [(4, _), (1, _), (5, _), (3, _), (2, _), (0, _)]) dX8_valuesOfRows_33 rfl rfl (by decide) rfl ?_
      refine j_goto (tgt := 13) dX8_valuesOfRows_36 (by decide) ?_
      refine j_iload dX8_valuesOfRows_13 rfl ?_
      refine j_iload_n dX8_valuesOfRows_15 rfl ?_
      refine j_icmp_ge (tgt := 39) dX8_valuesOfRows_16 (by decide) (fun c_16 => ?_) (fun c_16 => ?_)
      · refine j_iload_n dX8_valuesOfRows_39 rfl ?_
        refine j_iret dX8_valuesOfRows_40 rfl rfl ?_ (Nat.le_of_ble_eq_true rfl) (Nat.le_of_ble_eq_true rfl)
        exact ⟨rfl, (by first | exact z_cwl | rfl), rfl, rfl⟩
      · exact absurd (by decide) c_16
set_option maxRecDepth 100000 in
set_option maxHeartbeats 8000000 in
theorem c_X8_pairsOfTables_e (hl : l.stackTraces = false) (S : sp_S) (fa : Nat → Int32) (fb : Nat → Int32) (mt : Int32) (ft : Nat → Int32) (ct : Nat → Int32) (f0 : Nat → Int32) (g0 : Nat → Int32) (f1 : Nat → Int32) (g1 : Nat → Int32) (c1 : Nat → Int32) (f2 : Nat → Int32) (g2 : Nat → Int32) (c2 : Nat → Int32) (f3 : Nat → Int32) (g3 : Nat → Int32) (c3 : Nat → Int32) (m3 : Int32) (f4 : Nat → Int32) (g4 : Nat → Int32) (c4 : Nat → Int32) (m4 : Int32) (f5 : Nat → Int32) (g5 : Nat → Int32) (c5 : Nat → Int32) (m5 : Int32) (ef0 : Nat → Int32) (ef1 : Nat → Int32)  : z_CF G l mX8_pairsOfTables 10 0 0 (z_cw S.1.1 S.1.2 (nI (sp_R S 0).length) (sp_F S 0) fa (sp_C S 0) (nI (sp_R S 1).length) (sp_F S 1) fb (sp_C S 1) mt false ft ct f0 g0 (sp_C S 2) (nI (sp_T S 0).length) 0 f1 g1 c1 (nI (sp_T S 1).length) 0 f2 g2 c2 (nI (sp_T S 2).length) 1 f3 g3 c3 m3 0 f4 g4 c4 m4 0 f5 g5 c5 m5 1 (nI (sp_E S 0).2.length) (sp_E S 0).1.2.1 (sp_E S 0).1.2.2.1 (sp_E S 0).1.2.2.2 (sp_E S 0).1.1 ef0 (nI (sp_E S 1).2.length) (sp_E S 1).1.2.1 (sp_E S 1).1.2.2.1 (sp_E S 1).1.2.2.2 (sp_E S 1).1.1 ef1 []) [.ref 0] (fun v L => v = some (.int (nI (0 + (sp_T S 0).length + (sp_T S 1).length + (sp_T S 2).length))) ∧ L = (z_cw S.1.1 S.1.2 (nI (sp_R S 0).length) (sp_F S 0) fa (sp_C S 0) (nI (sp_R S 1).length) (sp_F S 1) fb (sp_C S 1) mt false ft ct f0 g0 (sp_C S 2) (nI (sp_T S 0).length) 0 f1 g1 c1 (nI (sp_T S 1).length) 0 f2 g2 c2 (nI (sp_T S 2).length) 1 f3 g3 c3 m3 0 f4 g4 c4 m4 0 f5 g5 c5 m5 1 (nI (sp_E S 0).2.length) (sp_E S 0).1.2.1 (sp_E S 0).1.2.2.1 (sp_E S 0).1.2.2.2 (sp_E S 0).1.1 ef0 (nI (sp_E S 1).2.length) (sp_E S 1).1.2.1 (sp_E S 1).1.2.2.1 (sp_E S 1).1.2.2.2 (sp_E S 1).1.1 ef1 [])) := by
  refine z_body hl (by decide) rfl (Nat.le_of_ble_eq_true rfl) ?_
  show z_J G l mX8_pairsOfTables (z_SF 10 0 0 (z_cw S.1.1 S.1.2 (nI (sp_R S 0).length) (sp_F S 0) fa (sp_C S 0) (nI (sp_R S 1).length) (sp_F S 1) fb (sp_C S 1) mt false ft ct f0 g0 (sp_C S 2) (nI (sp_T S 0).length) 0 f1 g1 c1 (nI (sp_T S 1).length) 0 f2 g2 c2 (nI (sp_T S 2).length) 1 f3 g3 c3 m3 0 f4 g4 c4 m4 0 f5 g5 c5 m5 1 (nI (sp_E S 0).2.length) (sp_E S 0).1.2.1 (sp_E S 0).1.2.2.1 (sp_E S 0).1.2.2.2 (sp_E S 0).1.1 ef0 (nI (sp_E S 1).2.length) (sp_E S 1).1.2.1 (sp_E S 1).1.2.2.1 (sp_E S 1).1.2.2.2 (sp_E S 1).1.1 ef1 []) (fun v L => v = some (.int (nI (0 + (sp_T S 0).length + (sp_T S 1).length + (sp_T S 2).length))) ∧ L = (z_cw S.1.1 S.1.2 (nI (sp_R S 0).length) (sp_F S 0) fa (sp_C S 0) (nI (sp_R S 1).length) (sp_F S 1) fb (sp_C S 1) mt false ft ct f0 g0 (sp_C S 2) (nI (sp_T S 0).length) 0 f1 g1 c1 (nI (sp_T S 1).length) 0 f2 g2 c2 (nI (sp_T S 2).length) 1 f3 g3 c3 m3 0 f4 g4 c4 m4 0 f5 g5 c5 m5 1 (nI (sp_E S 0).2.length) (sp_E S 0).1.2.1 (sp_E S 0).1.2.2.1 (sp_E S 0).1.2.2.2 (sp_E S 0).1.1 ef0 (nI (sp_E S 1).2.length) (sp_E S 1).1.2.1 (sp_E S 1).1.2.2.1 (sp_E S 1).1.2.2.2 (sp_E S 1).1.1 ef1 []))) 0 [(0, _)] [] _ 0 0
  refine j_iconst (v := 0) dX8_pairsOfTables_0 (by decide) ?_
  refine j_istore_n (lo' := [(1, _), (0, _)]) dX8_pairsOfTables_1 (by decide) rfl ?_
  refine j_aload_n dX8_pairsOfTables_2 rfl rfl ?_
  refine j_getf dX8_pairsOfTables_3 fX8_25 rfl rfl ?_
  refine j_astore_n (lo' := [(2, _), (1, _), (0, _)]) dX8_pairsOfTables_6 rfl (by decide) rfl ?_
  refine j_aload_n dX8_pairsOfTables_7 rfl rfl ?_
  refine j_alen dX8_pairsOfTables_8 rfl rfl rfl ?_
  refine j_istore_n (lo' := [(3, _), (2, _), (1, _), (0, _)]) dX8_pairsOfTables_9 (by decide) rfl ?_
  refine j_iconst (v := 0) dX8_pairsOfTables_10 (by decide) ?_
  refine j_istore (lo' := [(4, _), (3, _), (2, _), (1, _), (0, _)]) dX8_pairsOfTables_11 (by decide) rfl ?_
  refine j_iload dX8_pairsOfTables_13 rfl ?_
  refine j_iload_n dX8_pairsOfTables_15 rfl ?_
  refine j_icmp_ge (tgt := 39) dX8_pairsOfTables_16 (by decide) (fun c_16 => ?_) (fun c_16 => ?_)
  · exact absurd c_16 (by decide)
  · refine j_aload_n dX8_pairsOfTables_19 rfl rfl ?_
    refine j_iload dX8_pairsOfTables_20 rfl ?_
    refine j_aald (v := .ref 10) dX8_pairsOfTables_22 rfl rfl rfl (vp_in_iff.mpr (by decide)) rfl ?_
    refine j_astore (lo' := [(5, _), (4, _), (3, _), (2, _), (1, _), (0, _)]) dX8_pairsOfTables_23 rfl (by decide) rfl ?_
    refine j_iload_n dX8_pairsOfTables_25 rfl ?_
    refine j_aload dX8_pairsOfTables_26 rfl rfl ?_
    refine j_getf dX8_pairsOfTables_28 fX8_165 rfl rfl ?_
    refine j_iadd dX8_pairsOfTables_31 ?_
    refine j_top (congrArg Value.int (show nI (0) + nI ((sp_T S 0).length) = nI (0 + (sp_T S 0).length) from nI_add _ _)) ?_
    refine j_istore_n (lo' := [(1, _), (5, _), (4, _), (3, _), (2, _), (0, _)]) dX8_pairsOfTables_32 (by decide) rfl ?_
    refine j_iinc (lo' := [(4, _), (1, _), (5, _), (3, _), (2, _), (0, _)]) dX8_pairsOfTables_33 rfl rfl (by decide) rfl ?_
    refine j_goto (tgt := 13) dX8_pairsOfTables_36 (by decide) ?_
    refine j_iload dX8_pairsOfTables_13 rfl ?_
    refine j_iload_n dX8_pairsOfTables_15 rfl ?_
    refine j_icmp_ge (tgt := 39) dX8_pairsOfTables_16 (by decide) (fun c_16 => ?_) (fun c_16 => ?_)
    · exact absurd c_16 (by decide)
    · refine j_aload_n dX8_pairsOfTables_19 rfl rfl ?_
      refine j_iload dX8_pairsOfTables_20 rfl ?_
      refine j_aald (v := .ref 16) dX8_pairsOfTables_22 rfl rfl rfl (vp_in_iff.mpr (by decide)) rfl ?_
      refine j_astore (lo' := [(5, _), (4, _), (1, _), (3, _), (2, _), (0, _)]) dX8_pairsOfTables_23 rfl (by decide) rfl ?_
      refine j_iload_n dX8_pairsOfTables_25 rfl ?_
      refine j_aload dX8_pairsOfTables_26 rfl rfl ?_
      refine j_getf dX8_pairsOfTables_28 fX8_165 rfl rfl ?_
      refine j_iadd dX8_pairsOfTables_31 ?_
      refine j_top (congrArg Value.int (show nI ((0 + (sp_T S 0).length)) + nI ((sp_T S 1).length) = nI ((0 + (sp_T S 0).length) + (sp_T S 1).length) from nI_add _ _)) ?_
      refine j_istore_n (lo' := [(1, _), (5, _), (4, _), (3, _), (2, _), (0, _)]) dX8_pairsOfTables_32 (by decide) rfl ?_
      refine j_iinc (lo' := [(4, _), (1, _), (5, _), (3, _), (2, _), (0, _)]) dX8_pairsOfTables_33 rfl rfl (by decide) rfl ?_
      refine j_goto (tgt := 13) dX8_pairsOfTables_36 (by decide) ?_
      refine j_iload dX8_pairsOfTables_13 rfl ?_
      refine j_iload_n dX8_pairsOfTables_15 rfl ?_
      refine j_icmp_ge (tgt := 39) dX8_pairsOfTables_16 (by decide) (fun c_16 => ?_) (fun c_16 => ?_)
      · exact absurd c_16 (by decide)
      · refine j_aload_n dX8_pairsOfTables_19 rfl rfl ?_
        refine j_iload dX8_pairsOfTables_20 rfl ?_
        refine j_aald (v := .ref 21) dX8_pairsOfTables_22 rfl rfl rfl (vp_in_iff.mpr (by decide)) rfl ?_
        refine j_astore (lo' := [(5, _), (4, _), (1, _), (3, _), (2, _), (0, _)]) dX8_pairsOfTables_23 rfl (by decide) rfl ?_
        refine j_iload_n dX8_pairsOfTables_25 rfl ?_
        refine j_aload dX8_pairsOfTables_26 rfl rfl ?_
        refine j_getf dX8_pairsOfTables_28 fX8_165 rfl rfl ?_
        refine j_iadd dX8_pairsOfTables_31 ?_
        refine j_top (congrArg Value.int (show nI (((0 + (sp_T S 0).length) + (sp_T S 1).length)) + nI ((sp_T S 2).length) = nI (((0 + (sp_T S 0).length) + (sp_T S 1).length) + (sp_T S 2).length) from nI_add _ _)) ?_
        refine j_istore_n (lo' := [(1, _), (5, _), (4, _), (3, _), (2, _), (0, _)]) dX8_pairsOfTables_32 (by decide) rfl ?_
        refine j_iinc (lo' := [(4, _), (1, _), (5, _), (3, _), (2, _), (0, _)]) dX8_pairsOfTables_33 rfl rfl (by decide) rfl ?_
        refine j_goto (tgt := 13) dX8_pairsOfTables_36 (by decide) ?_
        refine j_iload dX8_pairsOfTables_13 rfl ?_
        refine j_iload_n dX8_pairsOfTables_15 rfl ?_
        refine j_icmp_ge (tgt := 39) dX8_pairsOfTables_16 (by decide) (fun c_16 => ?_) (fun c_16 => ?_)
        · refine j_iload_n dX8_pairsOfTables_39 rfl ?_
          refine j_iret dX8_pairsOfTables_40 rfl rfl ?_ (Nat.le_of_ble_eq_true rfl) (Nat.le_of_ble_eq_true rfl)
          exact ⟨rfl, (by first | exact z_cwl | rfl), rfl, rfl⟩
        · exact absurd (by decide) c_16
set_option maxRecDepth 100000 in
set_option maxHeartbeats 8000000 in
theorem c_X8_numbersHeard_e (hl : l.stackTraces = false) (S : sp_S) (fa : Nat → Int32) (fb : Nat → Int32) (mt : Int32) (ft : Nat → Int32) (ct : Nat → Int32) (f0 : Nat → Int32) (g0 : Nat → Int32) (f1 : Nat → Int32) (g1 : Nat → Int32) (c1 : Nat → Int32) (f2 : Nat → Int32) (g2 : Nat → Int32) (c2 : Nat → Int32) (f3 : Nat → Int32) (g3 : Nat → Int32) (c3 : Nat → Int32) (m3 : Int32) (f4 : Nat → Int32) (g4 : Nat → Int32) (c4 : Nat → Int32) (m4 : Int32) (f5 : Nat → Int32) (g5 : Nat → Int32) (c5 : Nat → Int32) (m5 : Int32) (ef0 : Nat → Int32) (ef1 : Nat → Int32)  : z_CF G l mX8_numbersHeard 10 0 0 (z_cw S.1.1 S.1.2 (nI (sp_R S 0).length) (sp_F S 0) fa (sp_C S 0) (nI (sp_R S 1).length) (sp_F S 1) fb (sp_C S 1) mt false ft ct f0 g0 (sp_C S 2) (nI (sp_T S 0).length) 0 f1 g1 c1 (nI (sp_T S 1).length) 0 f2 g2 c2 (nI (sp_T S 2).length) 1 f3 g3 c3 m3 0 f4 g4 c4 m4 0 f5 g5 c5 m5 1 (nI (sp_E S 0).2.length) (sp_E S 0).1.2.1 (sp_E S 0).1.2.2.1 (sp_E S 0).1.2.2.2 (sp_E S 0).1.1 ef0 (nI (sp_E S 1).2.length) (sp_E S 1).1.2.1 (sp_E S 1).1.2.2.1 (sp_E S 1).1.2.2.2 (sp_E S 1).1.1 ef1 []) [.ref 0] (fun v L => v = some (.int (0 + (sp_E S 0).1.2.1 + (sp_E S 1).1.2.1)) ∧ L = (z_cw S.1.1 S.1.2 (nI (sp_R S 0).length) (sp_F S 0) fa (sp_C S 0) (nI (sp_R S 1).length) (sp_F S 1) fb (sp_C S 1) mt false ft ct f0 g0 (sp_C S 2) (nI (sp_T S 0).length) 0 f1 g1 c1 (nI (sp_T S 1).length) 0 f2 g2 c2 (nI (sp_T S 2).length) 1 f3 g3 c3 m3 0 f4 g4 c4 m4 0 f5 g5 c5 m5 1 (nI (sp_E S 0).2.length) (sp_E S 0).1.2.1 (sp_E S 0).1.2.2.1 (sp_E S 0).1.2.2.2 (sp_E S 0).1.1 ef0 (nI (sp_E S 1).2.length) (sp_E S 1).1.2.1 (sp_E S 1).1.2.2.1 (sp_E S 1).1.2.2.2 (sp_E S 1).1.1 ef1 [])) := by
  refine z_body hl (by decide) rfl (Nat.le_of_ble_eq_true rfl) ?_
  show z_J G l mX8_numbersHeard (z_SF 10 0 0 (z_cw S.1.1 S.1.2 (nI (sp_R S 0).length) (sp_F S 0) fa (sp_C S 0) (nI (sp_R S 1).length) (sp_F S 1) fb (sp_C S 1) mt false ft ct f0 g0 (sp_C S 2) (nI (sp_T S 0).length) 0 f1 g1 c1 (nI (sp_T S 1).length) 0 f2 g2 c2 (nI (sp_T S 2).length) 1 f3 g3 c3 m3 0 f4 g4 c4 m4 0 f5 g5 c5 m5 1 (nI (sp_E S 0).2.length) (sp_E S 0).1.2.1 (sp_E S 0).1.2.2.1 (sp_E S 0).1.2.2.2 (sp_E S 0).1.1 ef0 (nI (sp_E S 1).2.length) (sp_E S 1).1.2.1 (sp_E S 1).1.2.2.1 (sp_E S 1).1.2.2.2 (sp_E S 1).1.1 ef1 []) (fun v L => v = some (.int (0 + (sp_E S 0).1.2.1 + (sp_E S 1).1.2.1)) ∧ L = (z_cw S.1.1 S.1.2 (nI (sp_R S 0).length) (sp_F S 0) fa (sp_C S 0) (nI (sp_R S 1).length) (sp_F S 1) fb (sp_C S 1) mt false ft ct f0 g0 (sp_C S 2) (nI (sp_T S 0).length) 0 f1 g1 c1 (nI (sp_T S 1).length) 0 f2 g2 c2 (nI (sp_T S 2).length) 1 f3 g3 c3 m3 0 f4 g4 c4 m4 0 f5 g5 c5 m5 1 (nI (sp_E S 0).2.length) (sp_E S 0).1.2.1 (sp_E S 0).1.2.2.1 (sp_E S 0).1.2.2.2 (sp_E S 0).1.1 ef0 (nI (sp_E S 1).2.length) (sp_E S 1).1.2.1 (sp_E S 1).1.2.2.1 (sp_E S 1).1.2.2.2 (sp_E S 1).1.1 ef1 []))) 0 [(0, _)] [] _ 0 0
  refine j_iconst (v := 0) dX8_numbersHeard_0 (by decide) ?_
  refine j_istore_n (lo' := [(1, _), (0, _)]) dX8_numbersHeard_1 (by decide) rfl ?_
  refine j_aload_n dX8_numbersHeard_2 rfl rfl ?_
  refine j_getf dX8_numbersHeard_3 fX8_32 rfl rfl ?_
  refine j_astore_n (lo' := [(2, _), (1, _), (0, _)]) dX8_numbersHeard_6 rfl (by decide) rfl ?_
  refine j_aload_n dX8_numbersHeard_7 rfl rfl ?_
  refine j_alen dX8_numbersHeard_8 rfl rfl rfl ?_
  refine j_istore_n (lo' := [(3, _), (2, _), (1, _), (0, _)]) dX8_numbersHeard_9 (by decide) rfl ?_
  refine j_iconst (v := 0) dX8_numbersHeard_10 (by decide) ?_
  refine j_istore (lo' := [(4, _), (3, _), (2, _), (1, _), (0, _)]) dX8_numbersHeard_11 (by decide) rfl ?_
  refine j_iload dX8_numbersHeard_13 rfl ?_
  refine j_iload_n dX8_numbersHeard_15 rfl ?_
  refine j_icmp_ge (tgt := 39) dX8_numbersHeard_16 (by decide) (fun c_16 => ?_) (fun c_16 => ?_)
  · exact absurd c_16 (by decide)
  · refine j_aload_n dX8_numbersHeard_19 rfl rfl ?_
    refine j_iload dX8_numbersHeard_20 rfl ?_
    refine j_aald (v := .ref 27) dX8_numbersHeard_22 rfl rfl rfl (vp_in_iff.mpr (by decide)) rfl ?_
    refine j_astore (lo' := [(5, _), (4, _), (3, _), (2, _), (1, _), (0, _)]) dX8_numbersHeard_23 rfl (by decide) rfl ?_
    refine j_iload_n dX8_numbersHeard_25 rfl ?_
    refine j_aload dX8_numbersHeard_26 rfl rfl ?_
    refine j_getf dX8_numbersHeard_28 fX8_183 rfl rfl ?_
    refine j_iadd dX8_numbersHeard_31 ?_
    refine j_istore_n (lo' := [(1, _), (5, _), (4, _), (3, _), (2, _), (0, _)]) dX8_numbersHeard_32 (by decide) rfl ?_
    refine j_iinc (lo' := [(4, _), (1, _), (5, _), (3, _), (2, _), (0, _)]) dX8_numbersHeard_33 rfl rfl (by decide) rfl ?_
    refine j_goto (tgt := 13) dX8_numbersHeard_36 (by decide) ?_
    refine j_iload dX8_numbersHeard_13 rfl ?_
    refine j_iload_n dX8_numbersHeard_15 rfl ?_
    refine j_icmp_ge (tgt := 39) dX8_numbersHeard_16 (by decide) (fun c_16 => ?_) (fun c_16 => ?_)
    · exact absurd c_16 (by decide)
    · refine j_aload_n dX8_numbersHeard_19 rfl rfl ?_
      refine j_iload dX8_numbersHeard_20 rfl ?_
      refine j_aald (v := .ref 29) dX8_numbersHeard_22 rfl rfl rfl (vp_in_iff.mpr (by decide)) rfl ?_
      refine j_astore (lo' := [(5, _), (4, _), (1, _), (3, _), (2, _), (0, _)]) dX8_numbersHeard_23 rfl (by decide) rfl ?_
      refine j_iload_n dX8_numbersHeard_25 rfl ?_
      refine j_aload dX8_numbersHeard_26 rfl rfl ?_
      refine j_getf dX8_numbersHeard_28 fX8_183 rfl rfl ?_
      refine j_iadd dX8_numbersHeard_31 ?_
      refine j_istore_n (lo' := [(1, _), (5, _), (4, _), (3, _), (2, _), (0, _)]) dX8_numbersHeard_32 (by decide) rfl ?_
      refine j_iinc (lo' := [(4, _), (1, _), (5, _), (3, _), (2, _), (0, _)]) dX8_numbersHeard_33 rfl rfl (by decide) rfl ?_
      refine j_goto (tgt := 13) dX8_numbersHeard_36 (by decide) ?_
      refine j_iload dX8_numbersHeard_13 rfl ?_
      refine j_iload_n dX8_numbersHeard_15 rfl ?_
      refine j_icmp_ge (tgt := 39) dX8_numbersHeard_16 (by decide) (fun c_16 => ?_) (fun c_16 => ?_)
      · refine j_iload_n dX8_numbersHeard_39 rfl ?_
        refine j_iret dX8_numbersHeard_40 rfl rfl ?_ (Nat.le_of_ble_eq_true rfl) (Nat.le_of_ble_eq_true rfl)
        exact ⟨rfl, (by first | exact z_cwl | rfl), rfl, rfl⟩
      · exact absurd (by decide) c_16
set_option maxRecDepth 100000 in
set_option maxHeartbeats 8000000 in
theorem c_X8_house_p (hl : l.stackTraces = false) (S : sp_S) (fa : Nat → Int32) (fb : Nat → Int32) (mt : Int32) (ft : Nat → Int32) (ct : Nat → Int32) (f0 : Nat → Int32) (g0 : Nat → Int32) (f1 : Nat → Int32) (g1 : Nat → Int32) (c1 : Nat → Int32) (f2 : Nat → Int32) (g2 : Nat → Int32) (c2 : Nat → Int32) (f3 : Nat → Int32) (g3 : Nat → Int32) (c3 : Nat → Int32) (m3 : Int32) (f4 : Nat → Int32) (g4 : Nat → Int32) (c4 : Nat → Int32) (m4 : Int32) (f5 : Nat → Int32) (g5 : Nat → Int32) (c5 : Nat → Int32) (m5 : Int32) (ef0 : Nat → Int32) (ef1 : Nat → Int32) (w : Int32) (ok : sp_ok S) (hra : z_row 12 (nI (sp_R S 0).length) fa (sp_R S 0)) (hrb : z_row 12 (nI (sp_R S 1).length) fb (sp_R S 1)) (ht0 : z_tba f0 g0 (sp_T S 0)) (ht1 : z_tba f1 g1 (sp_T S 1)) (ht2 : z_tba f2 g2 (sp_T S 2)) (he0 : z_row 10 (nI (sp_E S 0).2.length) ef0 (sp_E S 0).2) (he1 : z_row 10 (nI (sp_E S 1).2.length) ef1 (sp_E S 1).2) (hzm3 : z_m20 m3) (hzm4 : z_m20 m4) (hzm5 : z_m20 m5) : z_CX G l mX8_house 20 14 120 (z_cw S.1.1 S.1.2 (nI (sp_R S 0).length) (sp_F S 0) fa (sp_C S 0) (nI (sp_R S 1).length) (sp_F S 1) fb (sp_C S 1) mt false ft ct f0 g0 (sp_C S 2) (nI (sp_T S 0).length) 0 f1 g1 c1 (nI (sp_T S 1).length) 0 f2 g2 c2 (nI (sp_T S 2).length) 1 f3 g3 c3 m3 0 f4 g4 c4 m4 0 f5 g5 c5 m5 1 (nI (sp_E S 0).2.length) (sp_E S 0).1.2.1 (sp_E S 0).1.2.2.1 (sp_E S 0).1.2.2.2 (sp_E S 0).1.1 ef0 (nI (sp_E S 1).2.length) (sp_E S 1).1.2.1 (sp_E S 1).1.2.2.1 (sp_E S 1).1.2.2.2 (sp_E S 1).1.1 ef1 []) [.ref 0, .int w] (fun v L => q_k1 (w < 0 ∨ 4 < w) = 0 ∧ v = some (.int (sp_hse S w)) ∧ sp_CW (S) L) (fun E L => ((z_xA E ∧ q_k1 (w < 0 ∨ 4 < w) = 1)) ∧ L = (z_cw S.1.1 S.1.2 (nI (sp_R S 0).length) (sp_F S 0) fa (sp_C S 0) (nI (sp_R S 1).length) (sp_F S 1) fb (sp_C S 1) mt false ft ct f0 g0 (sp_C S 2) (nI (sp_T S 0).length) 0 f1 g1 c1 (nI (sp_T S 1).length) 0 f2 g2 c2 (nI (sp_T S 2).length) 1 f3 g3 c3 m3 0 f4 g4 c4 m4 0 f5 g5 c5 m5 1 (nI (sp_E S 0).2.length) (sp_E S 0).1.2.1 (sp_E S 0).1.2.2.1 (sp_E S 0).1.2.2.2 (sp_E S 0).1.1 ef0 (nI (sp_E S 1).2.length) (sp_E S 1).1.2.1 (sp_E S 1).1.2.2.1 (sp_E S 1).1.2.2.2 (sp_E S 1).1.1 ef1 [])) := by
  refine z_body hl (by decide) rfl (Nat.le_of_ble_eq_true rfl) ?_
  show z_J G l mX8_house (z_SX 20 14 120 (z_cw S.1.1 S.1.2 (nI (sp_R S 0).length) (sp_F S 0) fa (sp_C S 0) (nI (sp_R S 1).length) (sp_F S 1) fb (sp_C S 1) mt false ft ct f0 g0 (sp_C S 2) (nI (sp_T S 0).length) 0 f1 g1 c1 (nI (sp_T S 1).length) 0 f2 g2 c2 (nI (sp_T S 2).length) 1 f3 g3 c3 m3 0 f4 g4 c4 m4 0 f5 g5 c5 m5 1 (nI (sp_E S 0).2.length) (sp_E S 0).1.2.1 (sp_E S 0).1.2.2.1 (sp_E S 0).1.2.2.2 (sp_E S 0).1.1 ef0 (nI (sp_E S 1).2.length) (sp_E S 1).1.2.1 (sp_E S 1).1.2.2.1 (sp_E S 1).1.2.2.2 (sp_E S 1).1.1 ef1 []) (fun v L => q_k1 (w < 0 ∨ 4 < w) = 0 ∧ v = some (.int (sp_hse S w)) ∧ sp_CW (S) L) (fun E L => ((z_xA E ∧ q_k1 (w < 0 ∨ 4 < w) = 1)) ∧ L = (z_cw S.1.1 S.1.2 (nI (sp_R S 0).length) (sp_F S 0) fa (sp_C S 0) (nI (sp_R S 1).length) (sp_F S 1) fb (sp_C S 1) mt false ft ct f0 g0 (sp_C S 2) (nI (sp_T S 0).length) 0 f1 g1 c1 (nI (sp_T S 1).length) 0 f2 g2 c2 (nI (sp_T S 2).length) 1 f3 g3 c3 m3 0 f4 g4 c4 m4 0 f5 g5 c5 m5 1 (nI (sp_E S 0).2.length) (sp_E S 0).1.2.1 (sp_E S 0).1.2.2.1 (sp_E S 0).1.2.2.2 (sp_E S 0).1.1 ef0 (nI (sp_E S 1).2.length) (sp_E S 1).1.2.1 (sp_E S 1).1.2.2.1 (sp_E S 1).1.2.2.2 (sp_E S 1).1.1 ef1 []))) 0 [(0, _), (1, _)] [] _ 0 0
  refine j_iload_n dX8_house_0 rfl ?_
  refine j_iconst (v := 0) dX8_house_1 (by decide) ?_
  refine j_iconst (v := 4) dX8_house_2 (by decide) ?_
  refine j_callS dX8_house_3 kX8_checkRange lX8_72 stX8_checkRange (c_X8_checkRange_e hl _ _ _ _) (Nat.le_of_ble_eq_true rfl) ⟨(Nat.le_of_ble_eq_true rfl), (Nat.le_of_ble_eq_true rfl)⟩ rfl (Nat.le_of_ble_eq_true rfl) rfl rfl (fun _ _ h => by obtain ⟨h1, rfl⟩ := h; exact ⟨rfl, rfl, ⟨h1.1, if_pos h1.2⟩, rfl⟩) ?_
  rintro _ _ ⟨⟨rfl, hc3⟩, rfl⟩
  refine j_iload_n dX8_house_6 rfl ?_
  rcases z_sw4 w with rfl | rfl | rfl | rfl | hp
  · refine j_tsIn (tgt := 36) dX8_house_7 (by decide) (by decide) rfl (by decide) ?_
    refine j_aload_n dX8_house_36 rfl rfl ?_
    refine j_callV (q := (RX8, TX8, 9)) dX8_house_37 kX8_valuesOfRows lX8_247 inX8_valuesOfRows seX8_valuesOfRows rfl rfl (z_dirF (c_X8_valuesOfRows_e hl S _ _ _ _ _ _ _ _ _ _ _ _ _ _ _ _ _ _ _ _ _ _ _ _ _ _ _)) (Nat.le_of_ble_eq_true rfl) ⟨(Nat.le_of_ble_eq_true rfl), (Nat.le_of_ble_eq_true rfl)⟩ rfl (Nat.le_of_ble_eq_true rfl) rfl rfl (fun _ _ h => h.elim) ?_
    rintro _ _ ⟨_, ⟨rfl, rfl⟩, rfl⟩
    refine j_iret dX8_house_40 rfl rfl ?_ (Nat.le_of_ble_eq_true rfl) (Nat.le_of_ble_eq_true rfl)
    exact ⟨rfl, (by first | exact z_cwl | rfl), if_neg hc3, (by rw [Nat.zero_add, ← nI_add]; rfl), (sp_CWe hra hrb ht0 ht1 ht2 he0 he1 hzm3 hzm4 hzm5 rfl)⟩
  · refine j_tsIn (tgt := 41) dX8_house_7 (by decide) (by decide) rfl (by decide) ?_
    refine j_aload_n dX8_house_41 rfl rfl ?_
    refine j_callV (q := (RX8, TX8, 9)) dX8_house_42 kX8_pairsOfTables lX8_250 inX8_pairsOfTables seX8_pairsOfTables rfl rfl (z_dirF (c_X8_pairsOfTables_e hl S _ _ _ _ _ _ _ _ _ _ _ _ _ _ _ _ _ _ _ _ _ _ _ _ _ _ _)) (Nat.le_of_ble_eq_true rfl) ⟨(Nat.le_of_ble_eq_true rfl), (Nat.le_of_ble_eq_true rfl)⟩ rfl (Nat.le_of_ble_eq_true rfl) rfl rfl (fun _ _ h => h.elim) ?_
    rintro _ _ ⟨_, ⟨rfl, rfl⟩, rfl⟩
    refine j_iret dX8_house_45 rfl rfl ?_ (Nat.le_of_ble_eq_true rfl) (Nat.le_of_ble_eq_true rfl)
    exact ⟨rfl, (by first | exact z_cwl | rfl), if_neg hc3, (by rw [Nat.zero_add, ← nI_add, ← nI_add]; rfl), (sp_CWe hra hrb ht0 ht1 ht2 he0 he1 hzm3 hzm4 hzm5 rfl)⟩
  · refine j_tsIn (tgt := 46) dX8_house_7 (by decide) (by decide) rfl (by decide) ?_
    refine j_aload_n dX8_house_46 rfl rfl ?_
    refine j_callV (q := (RX8, TX8, 9)) dX8_house_47 kX8_numbersHeard lX8_253 inX8_numbersHeard seX8_numbersHeard rfl rfl (z_dirF (c_X8_numbersHeard_e hl S _ _ _ _ _ _ _ _ _ _ _ _ _ _ _ _ _ _ _ _ _ _ _ _ _ _ _)) (Nat.le_of_ble_eq_true rfl) ⟨(Nat.le_of_ble_eq_true rfl), (Nat.le_of_ble_eq_true rfl)⟩ rfl (Nat.le_of_ble_eq_true rfl) rfl rfl (fun _ _ h => h.elim) ?_
    rintro _ _ ⟨_, ⟨rfl, rfl⟩, rfl⟩
    refine j_iret dX8_house_50 rfl rfl ?_ (Nat.le_of_ble_eq_true rfl) (Nat.le_of_ble_eq_true rfl)
    exact ⟨rfl, (by first | exact z_cwl | rfl), if_neg hc3, (by rw [Int32.zero_add]; rfl), (sp_CWe hra hrb ht0 ht1 ht2 he0 he1 hzm3 hzm4 hzm5 rfl)⟩
  · refine j_tsIn (tgt := 51) dX8_house_7 (by decide) (by decide) rfl (by decide) ?_
    refine j_aload_n dX8_house_51 rfl rfl ?_
    refine j_getf dX8_house_52 fX8_256 rfl rfl ?_
    refine j_iret dX8_house_55 rfl rfl ?_ (Nat.le_of_ble_eq_true rfl) (Nat.le_of_ble_eq_true rfl)
    exact ⟨rfl, (by first | exact z_cwl | rfl), if_neg hc3, rfl, (sp_CWe hra hrb ht0 ht1 ht2 he0 he1 hzm3 hzm4 hzm5 rfl)⟩
  · refine j_tsOut (tgt := 56) dX8_house_7 hp (by decide) ?_
    refine j_aload_n dX8_house_56 rfl rfl ?_
    refine j_getf dX8_house_57 fX8_244 rfl rfl ?_
    refine j_iret dX8_house_60 rfl rfl ?_ (Nat.le_of_ble_eq_true rfl) (Nat.le_of_ble_eq_true rfl)
    exact ⟨rfl, (by first | exact z_cwl | rfl), if_neg hc3, (by rw [sp_hse4 hp] <;> rfl), (sp_CWe hra hrb ht0 ht1 ht2 he0 he1 hzm3 hzm4 hzm5 rfl)⟩
end ZCp4
end ZM5
section ZM6
section ZCi
variable {G : z_G} {l : Launch}
theorem z_tba.nl {f g : Nat → Int32} (h : ∀ k, k < 20 → f k = -1000) : z_tba f g [] := ⟨⟨List.nodup_nil, fun _ h => by cases h⟩, h, z_sq.nil⟩
theorem z_row.nl {N : Nat} {f : Nat → Int32} : z_row N (nI ([] : List Int32).length) f [] := z_row.nil
theorem q_fill {f : Nat → Int32} {j : Nat} {x : Int32} (hj : j < 20) (hf : ∀ q, q < j → f q = x) : ∀ q, q < j + 1 → z_ui f (nI j).toNatClampNeg x q = x := fun q hq => by
  rw [z_cla (by omega)]
  rcases Nat.lt_succ_iff_lt_or_eq.mp hq with z | z
  · rw [z_ui_ne (by omega)]; exact hf q z
  · rw [z, z_ui_self]
set_option maxRecDepth 100000 in
set_option maxHeartbeats 8000000 in
theorem c_X6_init_z (hl : l.stackTraces = false)  : z_CN G l mX6_init 10 1 7 1 [.inr (11, [.null])] [.ref 0] (fun v L => v = none ∧ L = [.inr (11, [.ref 1]), z_ia 7 (fun _ => 0)]) := by
  refine z_body hl (by decide) rfl (Nat.le_of_ble_eq_true rfl) ?_
  show z_J G l mX6_init (z_SN 10 1 7 1 [.inr (11, [.null])] (fun v L => v = none ∧ L = [.inr (11, [.ref 1]), z_ia 7 (fun _ => 0)])) 0 [(0, _)] [] _ 0 0
  refine j_aload_n dX6_init_0 rfl rfl ?_
  refine j_objI dX6_init_1 oX6_3 z_oi1 z_oi2 (Nat.le_of_ble_eq_true rfl) (Nat.le_of_ble_eq_true rfl) ?_
  refine j_aload_n dX6_init_4 rfl rfl ?_
  refine j_bipush (v := 7) dX6_init_5 (by decide) ?_
  refine j_newa (kd := 0) (N := 7) (w' := ([.inr (11, [_]), _], z_no)) (n := 1) dX6_init_7 rfl rfl arc_int ⟨rfl, fun _ _ h => h⟩ (by decide) rfl (by decide) rfl (z_al_l rfl rfl) (Nat.le_of_ble_eq_true rfl) (Nat.le_of_ble_eq_true rfl) ?_
  refine j_putF (w' := ([.inr (11, [_]), _], z_no)) dX6_init_9 fX6_9 tX6_0 rfl (z_dc rfl rfl (z_w 103 ((lwt_1_1 28).trans rfl) (by decide +kernel))) rfl (Or.inr ⟨_, rfl⟩) rfl ?_
  refine j_vret dX6_init_12 rfl ?_ (Nat.le_of_ble_eq_true rfl) (Nat.le_of_ble_eq_true rfl)
  exact ⟨rfl, (Nat.le_of_ble_eq_true rfl), rfl, rfl⟩
set_option maxRecDepth 100000 in
set_option maxHeartbeats 8000000 in
theorem c_X1_init_z (hl : l.stackTraces = false)  : z_CN G l mX1_init 11 3 20 3 [.inr (6, [.null, .null, .int 0, .int 0])] [.ref 0] (fun v L => v = none ∧ ∃ f : Nat → Int32, L = [.inr (6, [.ref 1, .ref 2, .int 0, .int 0]), z_ia 12 f, .inr (11, [.ref 3]), z_ia 7 (fun _ => 0)]) := by
  refine z_body hl (by decide) rfl (Nat.le_of_ble_eq_true rfl) ?_
  show z_J G l mX1_init (z_SN 11 3 20 3 [.inr (6, [.null, .null, .int 0, .int 0])] (fun v L => v = none ∧ ∃ f : Nat → Int32, L = [.inr (6, [.ref 1, .ref 2, .int 0, .int 0]), z_ia 12 f, .inr (11, [.ref 3]), z_ia 7 (fun _ => 0)])) 0 [(0, _)] [] _ 0 0
  refine j_aload_n dX1_init_0 rfl rfl ?_
  refine j_objI dX1_init_1 oX1_3 z_oi1 z_oi2 (Nat.le_of_ble_eq_true rfl) (Nat.le_of_ble_eq_true rfl) ?_
  refine j_aload_n dX1_init_4 rfl rfl ?_
  refine j_bipush (v := 12) dX1_init_5 (by decide) ?_
  refine j_newa (kd := 0) (N := 12) (w' := ([.inr (6, [_, _, _, _]), _], z_no)) (n := 1) dX1_init_7 rfl rfl arc_int ⟨rfl, fun _ _ h => h⟩ (by decide) rfl (by decide) rfl (z_al_l rfl rfl) (Nat.le_of_ble_eq_true rfl) (Nat.le_of_ble_eq_true rfl) ?_
  refine j_putF (w' := ([.inr (6, [_, _, _, _]), _], z_no)) dX1_init_9 fX1_9 tX1_0 rfl (z_dc rfl rfl (z_w 108 ((lwt_1_2 3).trans rfl) (by decide +kernel))) rfl (Or.inr ⟨_, rfl⟩) rfl ?_
  refine j_aload_n dX1_init_12 rfl rfl ?_
  refine j_new (w' := ([.inr (6, [_, _, _, _]), _, _], z_no)) (n := 2) dX1_init_13 nX1_15 rfl (z_al_l rfl rfl) (Nat.le_of_ble_eq_true rfl) (Nat.le_of_ble_eq_true rfl) ?_
  refine j_dup dX1_init_16 rfl ?_
  refine j_callIN dX1_init_17 kX6_init rfl lX1_17 inX6_init rfl (z_frameN [2] rfl (by decide) (Nat.le_of_ble_eq_true rfl) (Nat.le_of_ble_eq_true rfl) (c_X6_init_z hl)) (Nat.le_of_ble_eq_true rfl) ⟨(Nat.le_of_ble_eq_true rfl), (Nat.le_of_ble_eq_true rfl)⟩ rfl (Nat.le_of_ble_eq_true rfl) rfl rfl (fun _ _ h => h.elim) ?_
  rintro _ _ ⟨_, _, ⟨rfl, rfl⟩, rfl, rfl⟩
  refine j_w ([.inr (6, [_, _, _, _]), _, _, _], z_no) rfl ?_
  refine j_putF (w' := ([.inr (6, [_, _, _, _]), _, _, _], z_no)) dX1_init_20 fX1_18 tX1_1 rfl (z_dc rfl rfl (z_w 111 ((lwt_1_2 6).trans rfl) (by decide +kernel))) rfl (Or.inl ⟨_, rfl⟩) rfl ?_
  refine j_vret dX1_init_23 rfl ?_ (Nat.le_of_ble_eq_true rfl) (Nat.le_of_ble_eq_true rfl)
  exact ⟨rfl, (Nat.le_of_ble_eq_true rfl), rfl, _, rfl⟩
set_option maxRecDepth 100000 in
set_option maxHeartbeats 8000000 in
theorem c_X4_init_z (hl : l.stackTraces = false) (b : Bool) : z_CN G l mX4_init 12 4 48 4 [.inr (9, [.int 0, .null, .null, .null, .int 0])] [.ref 0, .int (z_bi b)] (fun v L => v = none ∧ ∃ (f g : Nat → Int32), (∀ k, k < 20 → f k = -1000) ∧ L = [.inr (9, [.int (z_bi b), .ref 1, .ref 2, .ref 3, .int 0]), z_ia 20 f, z_ia 20 g, .inr (11, [.ref 4]), z_ia 7 (fun _ => 0)]) := by
  refine z_body hl (by decide) rfl (Nat.le_of_ble_eq_true rfl) ?_
  show z_J G l mX4_init (z_SN 12 4 48 4 [.inr (9, [.int 0, .null, .null, .null, .int 0])] (fun v L => v = none ∧ ∃ (f g : Nat → Int32), (∀ k, k < 20 → f k = -1000) ∧ L = [.inr (9, [.int (z_bi b), .ref 1, .ref 2, .ref 3, .int 0]), z_ia 20 f, z_ia 20 g, .inr (11, [.ref 4]), z_ia 7 (fun _ => 0)])) 0 [(0, _), (1, _)] [] _ 0 0
  refine j_aload_n dX4_init_0 rfl rfl ?_
  refine j_objI dX4_init_1 oX4_3 z_oi1 z_oi2 (Nat.le_of_ble_eq_true rfl) (Nat.le_of_ble_eq_true rfl) ?_
  refine j_aload_n dX4_init_4 rfl rfl ?_
  refine j_bipush (v := 20) dX4_init_5 (by decide) ?_
  refine j_newa (kd := 0) (N := 20) (w' := ([.inr (9, [_, _, _, _, _]), _], z_no)) (n := 1) dX4_init_7 rfl rfl arc_int ⟨rfl, fun _ _ h => h⟩ (by decide) rfl (by decide) rfl (z_al_l rfl rfl) (Nat.le_of_ble_eq_true rfl) (Nat.le_of_ble_eq_true rfl) ?_
  refine j_putF (w' := ([.inr (9, [_, _, _, _, _]), _], z_no)) dX4_init_9 fX4_9 tX4_1 rfl (z_dc rfl rfl (z_w 136 ((lwt_1_3 1).trans rfl) (by decide +kernel))) rfl (Or.inr ⟨_, rfl⟩) rfl ?_
  refine j_aload_n dX4_init_12 rfl rfl ?_
  refine j_bipush (v := 20) dX4_init_13 (by decide) ?_
  refine j_newa (kd := 0) (N := 20) (w' := ([.inr (9, [_, _, _, _, _]), _, _], z_no)) (n := 2) dX4_init_15 rfl rfl arc_int ⟨rfl, fun _ _ h => h⟩ (by decide) rfl (by decide) rfl (z_al_l rfl rfl) (Nat.le_of_ble_eq_true rfl) (Nat.le_of_ble_eq_true rfl) ?_
  refine j_putF (w' := ([.inr (9, [_, _, _, _, _]), _, _], z_no)) dX4_init_17 fX4_15 tX4_2 rfl (z_dc rfl rfl (z_w 137 ((lwt_1_3 2).trans rfl) (by decide +kernel))) rfl (Or.inr ⟨_, rfl⟩) rfl ?_
  refine j_aload_n dX4_init_20 rfl rfl ?_
  refine j_new (w' := ([.inr (9, [_, _, _, _, _]), _, _, _], z_no)) (n := 3) dX4_init_21 nX4_18 rfl (z_al_l rfl rfl) (Nat.le_of_ble_eq_true rfl) (Nat.le_of_ble_eq_true rfl) ?_
  refine j_dup dX4_init_24 rfl ?_
  refine j_callIN dX4_init_25 kX6_init rfl lX4_20 inX6_init rfl (z_frameN [3] rfl (by decide) (Nat.le_of_ble_eq_true rfl) (Nat.le_of_ble_eq_true rfl) (c_X6_init_z hl)) (Nat.le_of_ble_eq_true rfl) ⟨(Nat.le_of_ble_eq_true rfl), (Nat.le_of_ble_eq_true rfl)⟩ rfl (Nat.le_of_ble_eq_true rfl) rfl rfl (fun _ _ h => h.elim) ?_
  rintro _ _ ⟨_, _, ⟨rfl, rfl⟩, rfl, rfl⟩
  refine j_w ([.inr (9, [_, _, _, _, _]), _, _, _, _], z_no) rfl ?_
  refine j_putF (w' := ([.inr (9, [_, _, _, _, _]), _, _, _, _], z_no)) dX4_init_28 fX4_21 tX4_3 rfl (z_dc rfl rfl (z_w 139 ((lwt_1_3 4).trans rfl) (by decide +kernel))) rfl (Or.inl ⟨_, rfl⟩) rfl ?_
  refine j_aload_n dX4_init_31 rfl rfl ?_
  refine j_iload_n dX4_init_32 rfl ?_
  refine j_putF (w' := ([.inr (9, [_, _, _, _, _]), _, _, _, _], z_no)) dX4_init_33 fX4_25 tX4_0 rfl (z_dc rfl rfl (z_w 135 ((lwt_1_3 0).trans rfl) (by decide +kernel))) rfl ⟨z_bn _, z_bf _⟩ rfl ?_
  refine j_iconst (v := 0) dX4_init_36 (by decide) ?_
  refine j_istore_n (lo' := [(2, _), (0, _), (1, _)]) dX4_init_37 (by decide) rfl ?_
  have loop : ∀ (n j : Nat) (f' : Nat → Int32), j ≤ 20 → 20 < j + n → (∀ q, q < j → f' q = -1000) → z_J G l mX4_init (z_SN 12 4 48 4 [.inr (9, [.int 0, .null, .null, .null, .int 0])] (fun v L => v = none ∧ ∃ (f g : Nat → Int32), (∀ k, k < 20 → f k = -1000) ∧ L = [.inr (9, [.int (z_bi b), .ref 1, .ref 2, .ref 3, .int 0]), z_ia 20 f, z_ia 20 g, .inr (11, [.ref 4]), z_ia 7 (fun _ => 0)])) 38 [(0, .ref 0), (2, .int (nI j))] [] ([.inr (9, [.int (z_bi b), .ref 1, .ref 2, .ref 3, .int 0]), z_ia 20 f', z_ia 20 (fun _ => 0), .inr (11, [.ref 4]), z_ia 7 (fun _ => 0)], z_no) 4 48 := by
    intro n
    induction n with
    | zero => intro j f' h1 h2 hf; exact absurd h2 (by omega)
    | succ n ih =>
      intro j f' h1 h2 hf
      refine j_iload_n dX4_init_38 rfl ?_
      refine j_aload_n dX4_init_39 rfl rfl ?_
      refine j_getf dX4_init_40 fX4_9 rfl rfl ?_
      refine j_alen dX4_init_43 rfl rfl rfl ?_
      refine j_icmp_ge (tgt := 62) dX4_init_44 (by decide) (fun c_44 => ?_) (fun c_44 => ?_)
      · refine j_vret dX4_init_62 rfl ?_ (Nat.le_of_ble_eq_true rfl) (Nat.le_of_ble_eq_true rfl)
        exact ⟨rfl, (Nat.le_of_ble_eq_true rfl), rfl, _, _, (fun k hk => hf k (by have h9 := z_geI c_44 (by omega) (by decide); omega)), rfl⟩
      · have hj : j < 20 := z_ltI c_44 (by omega) (by decide)
        refine j_aload_n dX4_init_47 rfl rfl ?_
        refine j_getf dX4_init_48 fX4_9 rfl rfl ?_
        refine j_iload_n dX4_init_51 rfl ?_
        refine j_sipush (v := (-1000)) dX4_init_52 (by decide) ?_
        refine j_sto (w' := ([.inr (9, [_, _, _, _, _]), z_ia 20 _, z_ia 20 _, .inr (11, [_]), z_ia 7 _], z_no)) dX4_init_55 rfl (vp_in_nI hj (by decide)) rfl ?_
        refine j_iinc (lo' := [(2, _), (0, _)]) dX4_init_56 rfl (z_inc _) (by decide) rfl ?_
        refine j_goto (tgt := 38) dX4_init_59 (by decide) ?_
        exact j_lo2 (ih (j + 1) _ (by omega) (by omega) (q_fill hj hf)) (z_q1 rfl (z_q1 rfl z_q0))
  exact j_lo2 (loop (20 + 1) 0 _ (by omega) (by omega) (fun q hq => absurd hq (Nat.not_lt_zero _))) (z_q1 rfl (z_q1 rfl z_q0))
set_option maxRecDepth 100000 in
theorem sp_cw0 {fa : Nat → Int32} {fb : Nat → Int32} {mt : Int32} {ft : Nat → Int32} {ct : Nat → Int32} {f0 : Nat → Int32} {g0 : Nat → Int32} {f1 : Nat → Int32} {g1 : Nat → Int32} {c1 : Nat → Int32} {f2 : Nat → Int32} {g2 : Nat → Int32} {c2 : Nat → Int32} {f3 : Nat → Int32} {g3 : Nat → Int32} {c3 : Nat → Int32} {f4 : Nat → Int32} {g4 : Nat → Int32} {c4 : Nat → Int32} {f5 : Nat → Int32} {g5 : Nat → Int32} {c5 : Nat → Int32} {ef0 : Nat → Int32} {ef1 : Nat → Int32} (h0 : ∀ k, k < 20 → f0 k = -1000) (h1 : ∀ k, k < 20 → f1 k = -1000) (h2 : ∀ k, k < 20 → f2 k = -1000) : sp_CW sp_S0 ((z_cw 0 0 0 false fa (fun _ => 0) 0 false fb (fun _ => 0) mt false ft ct f0 g0 (fun _ => 0) 0 0 f1 g1 c1 0 0 f2 g2 c2 0 1 f3 g3 c3 0 0 f4 g4 c4 0 0 f5 g5 c5 0 1 0 0 0 (-1) (-1000) ef0 0 0 0 (-1) (-1000) ef1 [])) :=
  ⟨fa, fb, mt, ft, ct, f0, g0, f1, g1, c1, f2, g2, c2, f3, g3, c3, 0, f4, g4, c4, 0, f5, g5, c5, 0, ef0, ef1, z_row.nl, z_row.nl, z_tba.nl h0, z_tba.nl h1, z_tba.nl h2, z_row.nl, z_row.nl, z_m20z, z_m20z, z_m20z, rfl⟩
set_option maxRecDepth 100000 in
set_option maxHeartbeats 8000000 in
theorem c_X8_init_z (hl : l.stackTraces = false)  : z_CN G l mX8_init 14 50 440 50 [.inr (12, [.null, .null, .null, .null, .null, .null, .null, .int 0, .int 0])] [.ref 0] (fun v L => v = none ∧ sp_CW sp_S0 L) := by
  refine z_body hl (by decide) rfl (Nat.le_of_ble_eq_true rfl) ?_
  show z_J G l mX8_init (z_SN 14 50 440 50 [.inr (12, [.null, .null, .null, .null, .null, .null, .null, .int 0, .int 0])] (fun v L => v = none ∧ sp_CW sp_S0 L)) 0 [(0, _)] [] _ 0 0
  refine j_aload_n dX8_init_0 rfl rfl ?_
  refine j_objI dX8_init_1 oX8_1 z_oi1 z_oi2 (Nat.le_of_ble_eq_true rfl) (Nat.le_of_ble_eq_true rfl) ?_
  refine j_aload_n dX8_init_4 rfl rfl ?_
  refine j_iconst (v := 2) dX8_init_5 (by decide) ?_
  refine j_anew (kd := 4) (N := 2) (w' := (.inr (12, [_, _, _, _, _, _, _, _, _]) :: _ :: [], z_no)) (n := 1) dX8_init_6 rfl aX8_7 ao_X1 (by decide) rfl (by decide) (z_al_l rfl rfl) (Nat.le_of_ble_eq_true rfl) (Nat.le_of_ble_eq_true rfl) ?_
  refine j_dup dX8_init_9 rfl ?_
  refine j_iconst (v := 0) dX8_init_10 (by decide) ?_
  refine j_new (w' := (.inr (12, [_, _, _, _, _, _, _, _, _]) :: .inl (4, 2, _) :: _ :: [], z_no)) (n := 2) dX8_init_11 nX8_7 rfl (z_al_l rfl rfl) (Nat.le_of_ble_eq_true rfl) (Nat.le_of_ble_eq_true rfl) ?_
  refine j_dup dX8_init_14 rfl ?_
  refine j_callIN dX8_init_15 kX1_init rfl lX8_9 inX1_init rfl (z_frameN [2] rfl (by decide) (Nat.le_of_ble_eq_true rfl) (Nat.le_of_ble_eq_true rfl) (c_X1_init_z hl)) (Nat.le_of_ble_eq_true rfl) ⟨(Nat.le_of_ble_eq_true rfl), (Nat.le_of_ble_eq_true rfl)⟩ rfl (Nat.le_of_ble_eq_true rfl) rfl rfl (fun _ _ h => h.elim) ?_
  rintro _ _ ⟨_, _, ⟨rfl, _, rfl⟩, rfl, rfl⟩
  refine j_w (.inr (12, [_, _, _, _, _, _, _, _, _]) :: .inl (4, 2, _) :: .inr (6, [.ref 3, .ref 4, .int _, .int _]) :: z_ia 12 _ :: .inr (11, [.ref 5]) :: z_ia 7 _ :: [], z_no) rfl ?_
  refine j_aast (w' := (.inr (12, [_, _, _, _, _, _, _, _, _]) :: .inl (4, 2, _) :: .inr (6, [.ref 3, .ref 4, .int _, .int _]) :: z_ia 12 _ :: .inr (11, [.ref 5]) :: z_ia 7 _ :: [], z_no)) dX8_init_18 rfl rfl rfl rfl (vp_in_iff.mpr (by decide)) rfl ?_
  refine j_dup dX8_init_19 rfl ?_
  refine j_iconst (v := 1) dX8_init_20 (by decide) ?_
  refine j_new (w' := (.inr (12, [_, _, _, _, _, _, _, _, _]) :: .inl (4, 2, _) :: .inr (6, [.ref 3, .ref 4, .int _, .int _]) :: z_ia 12 _ :: .inr (11, [.ref 5]) :: z_ia 7 _ :: _ :: [], z_no)) (n := 6) dX8_init_21 nX8_7 rfl (z_al_l rfl rfl) (Nat.le_of_ble_eq_true rfl) (Nat.le_of_ble_eq_true rfl) ?_
  refine j_dup dX8_init_24 rfl ?_
  refine j_callIN dX8_init_25 kX1_init rfl lX8_9 inX1_init rfl (z_frameN [6] rfl (by decide) (Nat.le_of_ble_eq_true rfl) (Nat.le_of_ble_eq_true rfl) (c_X1_init_z hl)) (Nat.le_of_ble_eq_true rfl) ⟨(Nat.le_of_ble_eq_true rfl), (Nat.le_of_ble_eq_true rfl)⟩ rfl (Nat.le_of_ble_eq_true rfl) rfl rfl (fun _ _ h => h.elim) ?_
  rintro _ _ ⟨_, _, ⟨rfl, _, rfl⟩, rfl, rfl⟩
  refine j_w (.inr (12, [_, _, _, _, _, _, _, _, _]) :: .inl (4, 2, _) :: .inr (6, [.ref 3, .ref 4, .int _, .int _]) :: z_ia 12 _ :: .inr (11, [.ref 5]) :: z_ia 7 _ :: .inr (6, [.ref 7, .ref 8, .int _, .int _]) :: z_ia 12 _ :: .inr (11, [.ref 9]) :: z_ia 7 _ :: [], z_no) rfl ?_
  refine j_aast (w' := (.inr (12, [_, _, _, _, _, _, _, _, _]) :: .inl (4, 2, _) :: .inr (6, [.ref 3, .ref 4, .int _, .int _]) :: z_ia 12 _ :: .inr (11, [.ref 5]) :: z_ia 7 _ :: .inr (6, [.ref 7, .ref 8, .int _, .int _]) :: z_ia 12 _ :: .inr (11, [.ref 9]) :: z_ia 7 _ :: [], z_no)) dX8_init_28 rfl rfl rfl rfl (vp_in_iff.mpr (by decide)) rfl ?_
  refine j_putF (w' := (.inr (12, [_, _, _, _, _, _, _, _, _]) :: .inl (4, 2, _) :: .inr (6, [.ref 3, .ref 4, .int _, .int _]) :: z_ia 12 _ :: .inr (11, [.ref 5]) :: z_ia 7 _ :: .inr (6, [.ref 7, .ref 8, .int _, .int _]) :: z_ia 12 _ :: .inr (11, [.ref 9]) :: z_ia 7 _ :: [], z_no)) dX8_init_29 fX8_10 tX8_0 rfl (z_dc rfl rfl (z_w 184 ((lwt_1_4 19).trans rfl) (by decide +kernel))) rfl (Or.inr ⟨_, rfl⟩) rfl ?_
  refine j_aload_n dX8_init_32 rfl rfl ?_
  refine j_new (w' := (.inr (12, [_, _, _, _, _, _, _, _, _]) :: .inl (4, 2, _) :: .inr (6, [.ref 3, .ref 4, .int _, .int _]) :: z_ia 12 _ :: .inr (11, [.ref 5]) :: z_ia 7 _ :: .inr (6, [.ref 7, .ref 8, .int _, .int _]) :: z_ia 12 _ :: .inr (11, [.ref 9]) :: z_ia 7 _ :: _ :: [], z_no)) (n := 10) dX8_init_33 nX8_16 rfl (z_al_l rfl rfl) (Nat.le_of_ble_eq_true rfl) (Nat.le_of_ble_eq_true rfl) ?_
  refine j_dup dX8_init_36 rfl ?_
  refine j_iconst (v := 0) dX8_init_37 (by decide) ?_
  refine j_callI dX8_init_38 kX4_init rfl lX8_18 inX4_init rfl (z_frameN [10] rfl (by decide) (Nat.le_of_ble_eq_true rfl) (Nat.le_of_ble_eq_true rfl) (c_X4_init_z hl false)) (Nat.le_of_ble_eq_true rfl) ⟨(Nat.le_of_ble_eq_true rfl), (Nat.le_of_ble_eq_true rfl)⟩ rfl (Nat.le_of_ble_eq_true rfl) rfl rfl (fun _ _ h => h.elim) ?_
  rintro _ _ ⟨_, _, ⟨rfl, _, _, hf10, rfl⟩, rfl, rfl⟩
  refine j_w (.inr (12, [_, _, _, _, _, _, _, _, _]) :: .inl (4, 2, _) :: .inr (6, [.ref 3, .ref 4, .int _, .int _]) :: z_ia 12 _ :: .inr (11, [.ref 5]) :: z_ia 7 _ :: .inr (6, [.ref 7, .ref 8, .int _, .int _]) :: z_ia 12 _ :: .inr (11, [.ref 9]) :: z_ia 7 _ :: .inr (9, [.int _, .ref 11, .ref 12, .ref 13, .int _]) :: z_ia 20 _ :: z_ia 20 _ :: .inr (11, [.ref 14]) :: z_ia 7 _ :: [], z_no) rfl ?_
  refine j_putF (w' := (.inr (12, [_, _, _, _, _, _, _, _, _]) :: .inl (4, 2, _) :: .inr (6, [.ref 3, .ref 4, .int _, .int _]) :: z_ia 12 _ :: .inr (11, [.ref 5]) :: z_ia 7 _ :: .inr (6, [.ref 7, .ref 8, .int _, .int _]) :: z_ia 12 _ :: .inr (11, [.ref 9]) :: z_ia 7 _ :: .inr (9, [.int _, .ref 11, .ref 12, .ref 13, .int _]) :: z_ia 20 _ :: z_ia 20 _ :: .inr (11, [.ref 14]) :: z_ia 7 _ :: [], z_no)) dX8_init_41 fX8_21 tX8_1 rfl (z_dc rfl rfl (z_w 185 ((lwt_1_4 20).trans rfl) (by decide +kernel))) rfl (Or.inl ⟨_, rfl⟩) rfl ?_
  refine j_aload_n dX8_init_44 rfl rfl ?_
  refine j_iconst (v := 3) dX8_init_45 (by decide) ?_
  refine j_anew (kd := 5) (N := 3) (w' := (.inr (12, [_, _, _, _, _, _, _, _, _]) :: .inl (4, 2, _) :: .inr (6, [.ref 3, .ref 4, .int _, .int _]) :: z_ia 12 _ :: .inr (11, [.ref 5]) :: z_ia 7 _ :: .inr (6, [.ref 7, .ref 8, .int _, .int _]) :: z_ia 12 _ :: .inr (11, [.ref 9]) :: z_ia 7 _ :: .inr (9, [.int _, .ref 11, .ref 12, .ref 13, .int _]) :: z_ia 20 _ :: z_ia 20 _ :: .inr (11, [.ref 14]) :: z_ia 7 _ :: _ :: [], z_no)) (n := 15) dX8_init_46 rfl aX8_16 ao_X4 (by decide) rfl (by decide) (z_al_l rfl rfl) (Nat.le_of_ble_eq_true rfl) (Nat.le_of_ble_eq_true rfl) ?_
  refine j_dup dX8_init_49 rfl ?_
  refine j_iconst (v := 0) dX8_init_50 (by decide) ?_
  refine j_aload_n dX8_init_51 rfl rfl ?_
  refine j_getf dX8_init_52 fX8_21 rfl rfl ?_
  refine j_aast (w' := (.inr (12, [_, _, _, _, _, _, _, _, _]) :: .inl (4, 2, _) :: .inr (6, [.ref 3, .ref 4, .int _, .int _]) :: z_ia 12 _ :: .inr (11, [.ref 5]) :: z_ia 7 _ :: .inr (6, [.ref 7, .ref 8, .int _, .int _]) :: z_ia 12 _ :: .inr (11, [.ref 9]) :: z_ia 7 _ :: .inr (9, [.int _, .ref 11, .ref 12, .ref 13, .int _]) :: z_ia 20 _ :: z_ia 20 _ :: .inr (11, [.ref 14]) :: z_ia 7 _ :: _ :: [], z_no)) dX8_init_55 rfl rfl rfl rfl (vp_in_iff.mpr (by decide)) rfl ?_
  refine j_dup dX8_init_56 rfl ?_
  refine j_iconst (v := 1) dX8_init_57 (by decide) ?_
  refine j_new (w' := (.inr (12, [_, _, _, _, _, _, _, _, _]) :: .inl (4, 2, _) :: .inr (6, [.ref 3, .ref 4, .int _, .int _]) :: z_ia 12 _ :: .inr (11, [.ref 5]) :: z_ia 7 _ :: .inr (6, [.ref 7, .ref 8, .int _, .int _]) :: z_ia 12 _ :: .inr (11, [.ref 9]) :: z_ia 7 _ :: .inr (9, [.int _, .ref 11, .ref 12, .ref 13, .int _]) :: z_ia 20 _ :: z_ia 20 _ :: .inr (11, [.ref 14]) :: z_ia 7 _ :: .inl (5, 3, _) :: _ :: [], z_no)) (n := 16) dX8_init_58 nX8_16 rfl (z_al_l rfl rfl) (Nat.le_of_ble_eq_true rfl) (Nat.le_of_ble_eq_true rfl) ?_
  refine j_dup dX8_init_61 rfl ?_
  refine j_iconst (v := 0) dX8_init_62 (by decide) ?_
  refine j_callI dX8_init_63 kX4_init rfl lX8_18 inX4_init rfl (z_frameN [16] rfl (by decide) (Nat.le_of_ble_eq_true rfl) (Nat.le_of_ble_eq_true rfl) (c_X4_init_z hl false)) (Nat.le_of_ble_eq_true rfl) ⟨(Nat.le_of_ble_eq_true rfl), (Nat.le_of_ble_eq_true rfl)⟩ rfl (Nat.le_of_ble_eq_true rfl) rfl rfl (fun _ _ h => h.elim) ?_
  rintro _ _ ⟨_, _, ⟨rfl, _, _, hf16, rfl⟩, rfl, rfl⟩
  refine j_w (.inr (12, [_, _, _, _, _, _, _, _, _]) :: .inl (4, 2, _) :: .inr (6, [.ref 3, .ref 4, .int _, .int _]) :: z_ia 12 _ :: .inr (11, [.ref 5]) :: z_ia 7 _ :: .inr (6, [.ref 7, .ref 8, .int _, .int _]) :: z_ia 12 _ :: .inr (11, [.ref 9]) :: z_ia 7 _ :: .inr (9, [.int _, .ref 11, .ref 12, .ref 13, .int _]) :: z_ia 20 _ :: z_ia 20 _ :: .inr (11, [.ref 14]) :: z_ia 7 _ :: .inl (5, 3, _) :: .inr (9, [.int _, .ref 17, .ref 18, .ref 19, .int _]) :: z_ia 20 _ :: z_ia 20 _ :: .inr (11, [.ref 20]) :: z_ia 7 _ :: [], z_no) rfl ?_
  refine j_aast (w' := (.inr (12, [_, _, _, _, _, _, _, _, _]) :: .inl (4, 2, _) :: .inr (6, [.ref 3, .ref 4, .int _, .int _]) :: z_ia 12 _ :: .inr (11, [.ref 5]) :: z_ia 7 _ :: .inr (6, [.ref 7, .ref 8, .int _, .int _]) :: z_ia 12 _ :: .inr (11, [.ref 9]) :: z_ia 7 _ :: .inr (9, [.int _, .ref 11, .ref 12, .ref 13, .int _]) :: z_ia 20 _ :: z_ia 20 _ :: .inr (11, [.ref 14]) :: z_ia 7 _ :: .inl (5, 3, _) :: .inr (9, [.int _, .ref 17, .ref 18, .ref 19, .int _]) :: z_ia 20 _ :: z_ia 20 _ :: .inr (11, [.ref 20]) :: z_ia 7 _ :: [], z_no)) dX8_init_66 rfl rfl rfl rfl (vp_in_iff.mpr (by decide)) rfl ?_
  refine j_dup dX8_init_67 rfl ?_
  refine j_iconst (v := 2) dX8_init_68 (by decide) ?_
  refine j_new (w' := (.inr (12, [_, _, _, _, _, _, _, _, _]) :: .inl (4, 2, _) :: .inr (6, [.ref 3, .ref 4, .int _, .int _]) :: z_ia 12 _ :: .inr (11, [.ref 5]) :: z_ia 7 _ :: .inr (6, [.ref 7, .ref 8, .int _, .int _]) :: z_ia 12 _ :: .inr (11, [.ref 9]) :: z_ia 7 _ :: .inr (9, [.int _, .ref 11, .ref 12, .ref 13, .int _]) :: z_ia 20 _ :: z_ia 20 _ :: .inr (11, [.ref 14]) :: z_ia 7 _ :: .inl (5, 3, _) :: .inr (9, [.int _, .ref 17, .ref 18, .ref 19, .int _]) :: z_ia 20 _ :: z_ia 20 _ :: .inr (11, [.ref 20]) :: z_ia 7 _ :: _ :: [], z_no)) (n := 21) dX8_init_69 nX8_16 rfl (z_al_l rfl rfl) (Nat.le_of_ble_eq_true rfl) (Nat.le_of_ble_eq_true rfl) ?_
  refine j_dup dX8_init_72 rfl ?_
  refine j_iconst (v := 1) dX8_init_73 (by decide) ?_
  refine j_callI dX8_init_74 kX4_init rfl lX8_18 inX4_init rfl (z_frameN [21] rfl (by decide) (Nat.le_of_ble_eq_true rfl) (Nat.le_of_ble_eq_true rfl) (c_X4_init_z hl true)) (Nat.le_of_ble_eq_true rfl) ⟨(Nat.le_of_ble_eq_true rfl), (Nat.le_of_ble_eq_true rfl)⟩ rfl (Nat.le_of_ble_eq_true rfl) rfl rfl (fun _ _ h => h.elim) ?_
  rintro _ _ ⟨_, _, ⟨rfl, _, _, hf21, rfl⟩, rfl, rfl⟩
  refine j_w (.inr (12, [_, _, _, _, _, _, _, _, _]) :: .inl (4, 2, _) :: .inr (6, [.ref 3, .ref 4, .int _, .int _]) :: z_ia 12 _ :: .inr (11, [.ref 5]) :: z_ia 7 _ :: .inr (6, [.ref 7, .ref 8, .int _, .int _]) :: z_ia 12 _ :: .inr (11, [.ref 9]) :: z_ia 7 _ :: .inr (9, [.int _, .ref 11, .ref 12, .ref 13, .int _]) :: z_ia 20 _ :: z_ia 20 _ :: .inr (11, [.ref 14]) :: z_ia 7 _ :: .inl (5, 3, _) :: .inr (9, [.int _, .ref 17, .ref 18, .ref 19, .int _]) :: z_ia 20 _ :: z_ia 20 _ :: .inr (11, [.ref 20]) :: z_ia 7 _ :: .inr (9, [.int _, .ref 22, .ref 23, .ref 24, .int _]) :: z_ia 20 _ :: z_ia 20 _ :: .inr (11, [.ref 25]) :: z_ia 7 _ :: [], z_no) rfl ?_
  refine j_aast (w' := (.inr (12, [_, _, _, _, _, _, _, _, _]) :: .inl (4, 2, _) :: .inr (6, [.ref 3, .ref 4, .int _, .int _]) :: z_ia 12 _ :: .inr (11, [.ref 5]) :: z_ia 7 _ :: .inr (6, [.ref 7, .ref 8, .int _, .int _]) :: z_ia 12 _ :: .inr (11, [.ref 9]) :: z_ia 7 _ :: .inr (9, [.int _, .ref 11, .ref 12, .ref 13, .int _]) :: z_ia 20 _ :: z_ia 20 _ :: .inr (11, [.ref 14]) :: z_ia 7 _ :: .inl (5, 3, _) :: .inr (9, [.int _, .ref 17, .ref 18, .ref 19, .int _]) :: z_ia 20 _ :: z_ia 20 _ :: .inr (11, [.ref 20]) :: z_ia 7 _ :: .inr (9, [.int _, .ref 22, .ref 23, .ref 24, .int _]) :: z_ia 20 _ :: z_ia 20 _ :: .inr (11, [.ref 25]) :: z_ia 7 _ :: [], z_no)) dX8_init_77 rfl rfl rfl rfl (vp_in_iff.mpr (by decide)) rfl ?_
  refine j_putF (w' := (.inr (12, [_, _, _, _, _, _, _, _, _]) :: .inl (4, 2, _) :: .inr (6, [.ref 3, .ref 4, .int _, .int _]) :: z_ia 12 _ :: .inr (11, [.ref 5]) :: z_ia 7 _ :: .inr (6, [.ref 7, .ref 8, .int _, .int _]) :: z_ia 12 _ :: .inr (11, [.ref 9]) :: z_ia 7 _ :: .inr (9, [.int _, .ref 11, .ref 12, .ref 13, .int _]) :: z_ia 20 _ :: z_ia 20 _ :: .inr (11, [.ref 14]) :: z_ia 7 _ :: .inl (5, 3, _) :: .inr (9, [.int _, .ref 17, .ref 18, .ref 19, .int _]) :: z_ia 20 _ :: z_ia 20 _ :: .inr (11, [.ref 20]) :: z_ia 7 _ :: .inr (9, [.int _, .ref 22, .ref 23, .ref 24, .int _]) :: z_ia 20 _ :: z_ia 20 _ :: .inr (11, [.ref 25]) :: z_ia 7 _ :: [], z_no)) dX8_init_78 fX8_25 tX8_2 rfl (z_dc rfl rfl (z_w 186 ((lwt_1_4 21).trans rfl) (by decide +kernel))) rfl (Or.inr ⟨_, rfl⟩) rfl ?_
  refine j_aload_n dX8_init_81 rfl rfl ?_
  refine j_iconst (v := 2) dX8_init_82 (by decide) ?_
  refine j_anew (kd := 6) (N := 2) (w' := (.inr (12, [_, _, _, _, _, _, _, _, _]) :: .inl (4, 2, _) :: .inr (6, [.ref 3, .ref 4, .int _, .int _]) :: z_ia 12 _ :: .inr (11, [.ref 5]) :: z_ia 7 _ :: .inr (6, [.ref 7, .ref 8, .int _, .int _]) :: z_ia 12 _ :: .inr (11, [.ref 9]) :: z_ia 7 _ :: .inr (9, [.int _, .ref 11, .ref 12, .ref 13, .int _]) :: z_ia 20 _ :: z_ia 20 _ :: .inr (11, [.ref 14]) :: z_ia 7 _ :: .inl (5, 3, _) :: .inr (9, [.int _, .ref 17, .ref 18, .ref 19, .int _]) :: z_ia 20 _ :: z_ia 20 _ :: .inr (11, [.ref 20]) :: z_ia 7 _ :: .inr (9, [.int _, .ref 22, .ref 23, .ref 24, .int _]) :: z_ia 20 _ :: z_ia 20 _ :: .inr (11, [.ref 25]) :: z_ia 7 _ :: _ :: [], z_no)) (n := 26) dX8_init_83 rfl aX8_29 ao_X0 (by decide) rfl (by decide) (z_al_l rfl rfl) (Nat.le_of_ble_eq_true rfl) (Nat.le_of_ble_eq_true rfl) ?_
  refine j_dup dX8_init_86 rfl ?_
  refine j_iconst (v := 0) dX8_init_87 (by decide) ?_
  refine j_new (w' := (.inr (12, [_, _, _, _, _, _, _, _, _]) :: .inl (4, 2, _) :: .inr (6, [.ref 3, .ref 4, .int _, .int _]) :: z_ia 12 _ :: .inr (11, [.ref 5]) :: z_ia 7 _ :: .inr (6, [.ref 7, .ref 8, .int _, .int _]) :: z_ia 12 _ :: .inr (11, [.ref 9]) :: z_ia 7 _ :: .inr (9, [.int _, .ref 11, .ref 12, .ref 13, .int _]) :: z_ia 20 _ :: z_ia 20 _ :: .inr (11, [.ref 14]) :: z_ia 7 _ :: .inl (5, 3, _) :: .inr (9, [.int _, .ref 17, .ref 18, .ref 19, .int _]) :: z_ia 20 _ :: z_ia 20 _ :: .inr (11, [.ref 20]) :: z_ia 7 _ :: .inr (9, [.int _, .ref 22, .ref 23, .ref 24, .int _]) :: z_ia 20 _ :: z_ia 20 _ :: .inr (11, [.ref 25]) :: z_ia 7 _ :: .inl (6, 2, _) :: _ :: [], z_no)) (n := 27) dX8_init_88 nX8_29 rfl (z_al_l rfl rfl) (Nat.le_of_ble_eq_true rfl) (Nat.le_of_ble_eq_true rfl) ?_
  refine j_dup dX8_init_91 rfl ?_
  refine j_callIN dX8_init_92 kX0_init rfl lX8_31 inX0_init rfl (z_frameN [27] rfl (by decide) (Nat.le_of_ble_eq_true rfl) (Nat.le_of_ble_eq_true rfl) (c_X0_init hl)) (Nat.le_of_ble_eq_true rfl) ⟨(Nat.le_of_ble_eq_true rfl), (Nat.le_of_ble_eq_true rfl)⟩ rfl (Nat.le_of_ble_eq_true rfl) rfl rfl (fun _ _ h => h.elim) ?_
  rintro _ _ ⟨_, _, ⟨rfl, _, rfl⟩, rfl, rfl⟩
  refine j_w (.inr (12, [_, _, _, _, _, _, _, _, _]) :: .inl (4, 2, _) :: .inr (6, [.ref 3, .ref 4, .int _, .int _]) :: z_ia 12 _ :: .inr (11, [.ref 5]) :: z_ia 7 _ :: .inr (6, [.ref 7, .ref 8, .int _, .int _]) :: z_ia 12 _ :: .inr (11, [.ref 9]) :: z_ia 7 _ :: .inr (9, [.int _, .ref 11, .ref 12, .ref 13, .int _]) :: z_ia 20 _ :: z_ia 20 _ :: .inr (11, [.ref 14]) :: z_ia 7 _ :: .inl (5, 3, _) :: .inr (9, [.int _, .ref 17, .ref 18, .ref 19, .int _]) :: z_ia 20 _ :: z_ia 20 _ :: .inr (11, [.ref 20]) :: z_ia 7 _ :: .inr (9, [.int _, .ref 22, .ref 23, .ref 24, .int _]) :: z_ia 20 _ :: z_ia 20 _ :: .inr (11, [.ref 25]) :: z_ia 7 _ :: .inl (6, 2, _) :: .inr (5, [.ref 28, .int _, .int _, .int _, .int _, .int _]) :: z_ia 10 _ :: [], z_no) rfl ?_
  refine j_aast (w' := (.inr (12, [_, _, _, _, _, _, _, _, _]) :: .inl (4, 2, _) :: .inr (6, [.ref 3, .ref 4, .int _, .int _]) :: z_ia 12 _ :: .inr (11, [.ref 5]) :: z_ia 7 _ :: .inr (6, [.ref 7, .ref 8, .int _, .int _]) :: z_ia 12 _ :: .inr (11, [.ref 9]) :: z_ia 7 _ :: .inr (9, [.int _, .ref 11, .ref 12, .ref 13, .int _]) :: z_ia 20 _ :: z_ia 20 _ :: .inr (11, [.ref 14]) :: z_ia 7 _ :: .inl (5, 3, _) :: .inr (9, [.int _, .ref 17, .ref 18, .ref 19, .int _]) :: z_ia 20 _ :: z_ia 20 _ :: .inr (11, [.ref 20]) :: z_ia 7 _ :: .inr (9, [.int _, .ref 22, .ref 23, .ref 24, .int _]) :: z_ia 20 _ :: z_ia 20 _ :: .inr (11, [.ref 25]) :: z_ia 7 _ :: .inl (6, 2, _) :: .inr (5, [.ref 28, .int _, .int _, .int _, .int _, .int _]) :: z_ia 10 _ :: [], z_no)) dX8_init_95 rfl rfl rfl rfl (vp_in_iff.mpr (by decide)) rfl ?_
  refine j_dup dX8_init_96 rfl ?_
  refine j_iconst (v := 1) dX8_init_97 (by decide) ?_
  refine j_new (w' := (.inr (12, [_, _, _, _, _, _, _, _, _]) :: .inl (4, 2, _) :: .inr (6, [.ref 3, .ref 4, .int _, .int _]) :: z_ia 12 _ :: .inr (11, [.ref 5]) :: z_ia 7 _ :: .inr (6, [.ref 7, .ref 8, .int _, .int _]) :: z_ia 12 _ :: .inr (11, [.ref 9]) :: z_ia 7 _ :: .inr (9, [.int _, .ref 11, .ref 12, .ref 13, .int _]) :: z_ia 20 _ :: z_ia 20 _ :: .inr (11, [.ref 14]) :: z_ia 7 _ :: .inl (5, 3, _) :: .inr (9, [.int _, .ref 17, .ref 18, .ref 19, .int _]) :: z_ia 20 _ :: z_ia 20 _ :: .inr (11, [.ref 20]) :: z_ia 7 _ :: .inr (9, [.int _, .ref 22, .ref 23, .ref 24, .int _]) :: z_ia 20 _ :: z_ia 20 _ :: .inr (11, [.ref 25]) :: z_ia 7 _ :: .inl (6, 2, _) :: .inr (5, [.ref 28, .int _, .int _, .int _, .int _, .int _]) :: z_ia 10 _ :: _ :: [], z_no)) (n := 29) dX8_init_98 nX8_29 rfl (z_al_l rfl rfl) (Nat.le_of_ble_eq_true rfl) (Nat.le_of_ble_eq_true rfl) ?_
  refine j_dup dX8_init_101 rfl ?_
  refine j_callIN dX8_init_102 kX0_init rfl lX8_31 inX0_init rfl (z_frameN [29] rfl (by decide) (Nat.le_of_ble_eq_true rfl) (Nat.le_of_ble_eq_true rfl) (c_X0_init hl)) (Nat.le_of_ble_eq_true rfl) ⟨(Nat.le_of_ble_eq_true rfl), (Nat.le_of_ble_eq_true rfl)⟩ rfl (Nat.le_of_ble_eq_true rfl) rfl rfl (fun _ _ h => h.elim) ?_
  rintro _ _ ⟨_, _, ⟨rfl, _, rfl⟩, rfl, rfl⟩
  refine j_w (.inr (12, [_, _, _, _, _, _, _, _, _]) :: .inl (4, 2, _) :: .inr (6, [.ref 3, .ref 4, .int _, .int _]) :: z_ia 12 _ :: .inr (11, [.ref 5]) :: z_ia 7 _ :: .inr (6, [.ref 7, .ref 8, .int _, .int _]) :: z_ia 12 _ :: .inr (11, [.ref 9]) :: z_ia 7 _ :: .inr (9, [.int _, .ref 11, .ref 12, .ref 13, .int _]) :: z_ia 20 _ :: z_ia 20 _ :: .inr (11, [.ref 14]) :: z_ia 7 _ :: .inl (5, 3, _) :: .inr (9, [.int _, .ref 17, .ref 18, .ref 19, .int _]) :: z_ia 20 _ :: z_ia 20 _ :: .inr (11, [.ref 20]) :: z_ia 7 _ :: .inr (9, [.int _, .ref 22, .ref 23, .ref 24, .int _]) :: z_ia 20 _ :: z_ia 20 _ :: .inr (11, [.ref 25]) :: z_ia 7 _ :: .inl (6, 2, _) :: .inr (5, [.ref 28, .int _, .int _, .int _, .int _, .int _]) :: z_ia 10 _ :: .inr (5, [.ref 30, .int _, .int _, .int _, .int _, .int _]) :: z_ia 10 _ :: [], z_no) rfl ?_
  refine j_aast (w' := (.inr (12, [_, _, _, _, _, _, _, _, _]) :: .inl (4, 2, _) :: .inr (6, [.ref 3, .ref 4, .int _, .int _]) :: z_ia 12 _ :: .inr (11, [.ref 5]) :: z_ia 7 _ :: .inr (6, [.ref 7, .ref 8, .int _, .int _]) :: z_ia 12 _ :: .inr (11, [.ref 9]) :: z_ia 7 _ :: .inr (9, [.int _, .ref 11, .ref 12, .ref 13, .int _]) :: z_ia 20 _ :: z_ia 20 _ :: .inr (11, [.ref 14]) :: z_ia 7 _ :: .inl (5, 3, _) :: .inr (9, [.int _, .ref 17, .ref 18, .ref 19, .int _]) :: z_ia 20 _ :: z_ia 20 _ :: .inr (11, [.ref 20]) :: z_ia 7 _ :: .inr (9, [.int _, .ref 22, .ref 23, .ref 24, .int _]) :: z_ia 20 _ :: z_ia 20 _ :: .inr (11, [.ref 25]) :: z_ia 7 _ :: .inl (6, 2, _) :: .inr (5, [.ref 28, .int _, .int _, .int _, .int _, .int _]) :: z_ia 10 _ :: .inr (5, [.ref 30, .int _, .int _, .int _, .int _, .int _]) :: z_ia 10 _ :: [], z_no)) dX8_init_105 rfl rfl rfl rfl (vp_in_iff.mpr (by decide)) rfl ?_
  refine j_putF (w' := (.inr (12, [_, _, _, _, _, _, _, _, _]) :: .inl (4, 2, _) :: .inr (6, [.ref 3, .ref 4, .int _, .int _]) :: z_ia 12 _ :: .inr (11, [.ref 5]) :: z_ia 7 _ :: .inr (6, [.ref 7, .ref 8, .int _, .int _]) :: z_ia 12 _ :: .inr (11, [.ref 9]) :: z_ia 7 _ :: .inr (9, [.int _, .ref 11, .ref 12, .ref 13, .int _]) :: z_ia 20 _ :: z_ia 20 _ :: .inr (11, [.ref 14]) :: z_ia 7 _ :: .inl (5, 3, _) :: .inr (9, [.int _, .ref 17, .ref 18, .ref 19, .int _]) :: z_ia 20 _ :: z_ia 20 _ :: .inr (11, [.ref 20]) :: z_ia 7 _ :: .inr (9, [.int _, .ref 22, .ref 23, .ref 24, .int _]) :: z_ia 20 _ :: z_ia 20 _ :: .inr (11, [.ref 25]) :: z_ia 7 _ :: .inl (6, 2, _) :: .inr (5, [.ref 28, .int _, .int _, .int _, .int _, .int _]) :: z_ia 10 _ :: .inr (5, [.ref 30, .int _, .int _, .int _, .int _, .int _]) :: z_ia 10 _ :: [], z_no)) dX8_init_106 fX8_32 tX8_3 rfl (z_dc rfl rfl (z_w 187 ((lwt_1_4 22).trans rfl) (by decide +kernel))) rfl (Or.inr ⟨_, rfl⟩) rfl ?_
  refine j_aload_n dX8_init_109 rfl rfl ?_
  refine j_new (w' := (.inr (12, [_, _, _, _, _, _, _, _, _]) :: .inl (4, 2, _) :: .inr (6, [.ref 3, .ref 4, .int _, .int _]) :: z_ia 12 _ :: .inr (11, [.ref 5]) :: z_ia 7 _ :: .inr (6, [.ref 7, .ref 8, .int _, .int _]) :: z_ia 12 _ :: .inr (11, [.ref 9]) :: z_ia 7 _ :: .inr (9, [.int _, .ref 11, .ref 12, .ref 13, .int _]) :: z_ia 20 _ :: z_ia 20 _ :: .inr (11, [.ref 14]) :: z_ia 7 _ :: .inl (5, 3, _) :: .inr (9, [.int _, .ref 17, .ref 18, .ref 19, .int _]) :: z_ia 20 _ :: z_ia 20 _ :: .inr (11, [.ref 20]) :: z_ia 7 _ :: .inr (9, [.int _, .ref 22, .ref 23, .ref 24, .int _]) :: z_ia 20 _ :: z_ia 20 _ :: .inr (11, [.ref 25]) :: z_ia 7 _ :: .inl (6, 2, _) :: .inr (5, [.ref 28, .int _, .int _, .int _, .int _, .int _]) :: z_ia 10 _ :: .inr (5, [.ref 30, .int _, .int _, .int _, .int _, .int _]) :: z_ia 10 _ :: _ :: [], z_no)) (n := 31) dX8_init_110 nX8_7 rfl (z_al_l rfl rfl) (Nat.le_of_ble_eq_true rfl) (Nat.le_of_ble_eq_true rfl) ?_
  refine j_dup dX8_init_113 rfl ?_
  refine j_callIN dX8_init_114 kX1_init rfl lX8_9 inX1_init rfl (z_frameN [31] rfl (by decide) (Nat.le_of_ble_eq_true rfl) (Nat.le_of_ble_eq_true rfl) (c_X1_init_z hl)) (Nat.le_of_ble_eq_true rfl) ⟨(Nat.le_of_ble_eq_true rfl), (Nat.le_of_ble_eq_true rfl)⟩ rfl (Nat.le_of_ble_eq_true rfl) rfl rfl (fun _ _ h => h.elim) ?_
  rintro _ _ ⟨_, _, ⟨rfl, _, rfl⟩, rfl, rfl⟩
  refine j_w (.inr (12, [_, _, _, _, _, _, _, _, _]) :: .inl (4, 2, _) :: .inr (6, [.ref 3, .ref 4, .int _, .int _]) :: z_ia 12 _ :: .inr (11, [.ref 5]) :: z_ia 7 _ :: .inr (6, [.ref 7, .ref 8, .int _, .int _]) :: z_ia 12 _ :: .inr (11, [.ref 9]) :: z_ia 7 _ :: .inr (9, [.int _, .ref 11, .ref 12, .ref 13, .int _]) :: z_ia 20 _ :: z_ia 20 _ :: .inr (11, [.ref 14]) :: z_ia 7 _ :: .inl (5, 3, _) :: .inr (9, [.int _, .ref 17, .ref 18, .ref 19, .int _]) :: z_ia 20 _ :: z_ia 20 _ :: .inr (11, [.ref 20]) :: z_ia 7 _ :: .inr (9, [.int _, .ref 22, .ref 23, .ref 24, .int _]) :: z_ia 20 _ :: z_ia 20 _ :: .inr (11, [.ref 25]) :: z_ia 7 _ :: .inl (6, 2, _) :: .inr (5, [.ref 28, .int _, .int _, .int _, .int _, .int _]) :: z_ia 10 _ :: .inr (5, [.ref 30, .int _, .int _, .int _, .int _, .int _]) :: z_ia 10 _ :: .inr (6, [.ref 32, .ref 33, .int _, .int _]) :: z_ia 12 _ :: .inr (11, [.ref 34]) :: z_ia 7 _ :: [], z_no) rfl ?_
  refine j_putF (w' := (.inr (12, [_, _, _, _, _, _, _, _, _]) :: .inl (4, 2, _) :: .inr (6, [.ref 3, .ref 4, .int _, .int _]) :: z_ia 12 _ :: .inr (11, [.ref 5]) :: z_ia 7 _ :: .inr (6, [.ref 7, .ref 8, .int _, .int _]) :: z_ia 12 _ :: .inr (11, [.ref 9]) :: z_ia 7 _ :: .inr (9, [.int _, .ref 11, .ref 12, .ref 13, .int _]) :: z_ia 20 _ :: z_ia 20 _ :: .inr (11, [.ref 14]) :: z_ia 7 _ :: .inl (5, 3, _) :: .inr (9, [.int _, .ref 17, .ref 18, .ref 19, .int _]) :: z_ia 20 _ :: z_ia 20 _ :: .inr (11, [.ref 20]) :: z_ia 7 _ :: .inr (9, [.int _, .ref 22, .ref 23, .ref 24, .int _]) :: z_ia 20 _ :: z_ia 20 _ :: .inr (11, [.ref 25]) :: z_ia 7 _ :: .inl (6, 2, _) :: .inr (5, [.ref 28, .int _, .int _, .int _, .int _, .int _]) :: z_ia 10 _ :: .inr (5, [.ref 30, .int _, .int _, .int _, .int _, .int _]) :: z_ia 10 _ :: .inr (6, [.ref 32, .ref 33, .int _, .int _]) :: z_ia 12 _ :: .inr (11, [.ref 34]) :: z_ia 7 _ :: [], z_no)) dX8_init_117 fX8_36 tX8_4 rfl (z_dc rfl rfl (z_w 188 ((lwt_1_4 23).trans rfl) (by decide +kernel))) rfl (Or.inl ⟨_, rfl⟩) rfl ?_
  refine j_aload_n dX8_init_120 rfl rfl ?_
  refine j_new (w' := (.inr (12, [_, _, _, _, _, _, _, _, _]) :: .inl (4, 2, _) :: .inr (6, [.ref 3, .ref 4, .int _, .int _]) :: z_ia 12 _ :: .inr (11, [.ref 5]) :: z_ia 7 _ :: .inr (6, [.ref 7, .ref 8, .int _, .int _]) :: z_ia 12 _ :: .inr (11, [.ref 9]) :: z_ia 7 _ :: .inr (9, [.int _, .ref 11, .ref 12, .ref 13, .int _]) :: z_ia 20 _ :: z_ia 20 _ :: .inr (11, [.ref 14]) :: z_ia 7 _ :: .inl (5, 3, _) :: .inr (9, [.int _, .ref 17, .ref 18, .ref 19, .int _]) :: z_ia 20 _ :: z_ia 20 _ :: .inr (11, [.ref 20]) :: z_ia 7 _ :: .inr (9, [.int _, .ref 22, .ref 23, .ref 24, .int _]) :: z_ia 20 _ :: z_ia 20 _ :: .inr (11, [.ref 25]) :: z_ia 7 _ :: .inl (6, 2, _) :: .inr (5, [.ref 28, .int _, .int _, .int _, .int _, .int _]) :: z_ia 10 _ :: .inr (5, [.ref 30, .int _, .int _, .int _, .int _, .int _]) :: z_ia 10 _ :: .inr (6, [.ref 32, .ref 33, .int _, .int _]) :: z_ia 12 _ :: .inr (11, [.ref 34]) :: z_ia 7 _ :: _ :: [], z_no)) (n := 35) dX8_init_121 nX8_16 rfl (z_al_l rfl rfl) (Nat.le_of_ble_eq_true rfl) (Nat.le_of_ble_eq_true rfl) ?_
  refine j_dup dX8_init_124 rfl ?_
  refine j_iconst (v := 0) dX8_init_125 (by decide) ?_
  refine j_callI dX8_init_126 kX4_init rfl lX8_18 inX4_init rfl (z_frameN [35] rfl (by decide) (Nat.le_of_ble_eq_true rfl) (Nat.le_of_ble_eq_true rfl) (c_X4_init_z hl false)) (Nat.le_of_ble_eq_true rfl) ⟨(Nat.le_of_ble_eq_true rfl), (Nat.le_of_ble_eq_true rfl)⟩ rfl (Nat.le_of_ble_eq_true rfl) rfl rfl (fun _ _ h => h.elim) ?_
  rintro _ _ ⟨_, _, ⟨rfl, _, _, hf35, rfl⟩, rfl, rfl⟩
  refine j_w (.inr (12, [_, _, _, _, _, _, _, _, _]) :: .inl (4, 2, _) :: .inr (6, [.ref 3, .ref 4, .int _, .int _]) :: z_ia 12 _ :: .inr (11, [.ref 5]) :: z_ia 7 _ :: .inr (6, [.ref 7, .ref 8, .int _, .int _]) :: z_ia 12 _ :: .inr (11, [.ref 9]) :: z_ia 7 _ :: .inr (9, [.int _, .ref 11, .ref 12, .ref 13, .int _]) :: z_ia 20 _ :: z_ia 20 _ :: .inr (11, [.ref 14]) :: z_ia 7 _ :: .inl (5, 3, _) :: .inr (9, [.int _, .ref 17, .ref 18, .ref 19, .int _]) :: z_ia 20 _ :: z_ia 20 _ :: .inr (11, [.ref 20]) :: z_ia 7 _ :: .inr (9, [.int _, .ref 22, .ref 23, .ref 24, .int _]) :: z_ia 20 _ :: z_ia 20 _ :: .inr (11, [.ref 25]) :: z_ia 7 _ :: .inl (6, 2, _) :: .inr (5, [.ref 28, .int _, .int _, .int _, .int _, .int _]) :: z_ia 10 _ :: .inr (5, [.ref 30, .int _, .int _, .int _, .int _, .int _]) :: z_ia 10 _ :: .inr (6, [.ref 32, .ref 33, .int _, .int _]) :: z_ia 12 _ :: .inr (11, [.ref 34]) :: z_ia 7 _ :: .inr (9, [.int _, .ref 36, .ref 37, .ref 38, .int _]) :: z_ia 20 _ :: z_ia 20 _ :: .inr (11, [.ref 39]) :: z_ia 7 _ :: [], z_no) rfl ?_
  refine j_putF (w' := (.inr (12, [_, _, _, _, _, _, _, _, _]) :: .inl (4, 2, _) :: .inr (6, [.ref 3, .ref 4, .int _, .int _]) :: z_ia 12 _ :: .inr (11, [.ref 5]) :: z_ia 7 _ :: .inr (6, [.ref 7, .ref 8, .int _, .int _]) :: z_ia 12 _ :: .inr (11, [.ref 9]) :: z_ia 7 _ :: .inr (9, [.int _, .ref 11, .ref 12, .ref 13, .int _]) :: z_ia 20 _ :: z_ia 20 _ :: .inr (11, [.ref 14]) :: z_ia 7 _ :: .inl (5, 3, _) :: .inr (9, [.int _, .ref 17, .ref 18, .ref 19, .int _]) :: z_ia 20 _ :: z_ia 20 _ :: .inr (11, [.ref 20]) :: z_ia 7 _ :: .inr (9, [.int _, .ref 22, .ref 23, .ref 24, .int _]) :: z_ia 20 _ :: z_ia 20 _ :: .inr (11, [.ref 25]) :: z_ia 7 _ :: .inl (6, 2, _) :: .inr (5, [.ref 28, .int _, .int _, .int _, .int _, .int _]) :: z_ia 10 _ :: .inr (5, [.ref 30, .int _, .int _, .int _, .int _, .int _]) :: z_ia 10 _ :: .inr (6, [.ref 32, .ref 33, .int _, .int _]) :: z_ia 12 _ :: .inr (11, [.ref 34]) :: z_ia 7 _ :: .inr (9, [.int _, .ref 36, .ref 37, .ref 38, .int _]) :: z_ia 20 _ :: z_ia 20 _ :: .inr (11, [.ref 39]) :: z_ia 7 _ :: [], z_no)) dX8_init_129 fX8_40 tX8_5 rfl (z_dc rfl rfl (z_w 189 ((lwt_1_4 24).trans rfl) (by decide +kernel))) rfl (Or.inl ⟨_, rfl⟩) rfl ?_
  refine j_aload_n dX8_init_132 rfl rfl ?_
  refine j_iconst (v := 3) dX8_init_133 (by decide) ?_
  refine j_anew (kd := 5) (N := 3) (w' := (.inr (12, [_, _, _, _, _, _, _, _, _]) :: .inl (4, 2, _) :: .inr (6, [.ref 3, .ref 4, .int _, .int _]) :: z_ia 12 _ :: .inr (11, [.ref 5]) :: z_ia 7 _ :: .inr (6, [.ref 7, .ref 8, .int _, .int _]) :: z_ia 12 _ :: .inr (11, [.ref 9]) :: z_ia 7 _ :: .inr (9, [.int _, .ref 11, .ref 12, .ref 13, .int _]) :: z_ia 20 _ :: z_ia 20 _ :: .inr (11, [.ref 14]) :: z_ia 7 _ :: .inl (5, 3, _) :: .inr (9, [.int _, .ref 17, .ref 18, .ref 19, .int _]) :: z_ia 20 _ :: z_ia 20 _ :: .inr (11, [.ref 20]) :: z_ia 7 _ :: .inr (9, [.int _, .ref 22, .ref 23, .ref 24, .int _]) :: z_ia 20 _ :: z_ia 20 _ :: .inr (11, [.ref 25]) :: z_ia 7 _ :: .inl (6, 2, _) :: .inr (5, [.ref 28, .int _, .int _, .int _, .int _, .int _]) :: z_ia 10 _ :: .inr (5, [.ref 30, .int _, .int _, .int _, .int _, .int _]) :: z_ia 10 _ :: .inr (6, [.ref 32, .ref 33, .int _, .int _]) :: z_ia 12 _ :: .inr (11, [.ref 34]) :: z_ia 7 _ :: .inr (9, [.int _, .ref 36, .ref 37, .ref 38, .int _]) :: z_ia 20 _ :: z_ia 20 _ :: .inr (11, [.ref 39]) :: z_ia 7 _ :: _ :: [], z_no)) (n := 40) dX8_init_134 rfl aX8_16 ao_X4 (by decide) rfl (by decide) (z_al_l rfl rfl) (Nat.le_of_ble_eq_true rfl) (Nat.le_of_ble_eq_true rfl) ?_
  refine j_dup dX8_init_137 rfl ?_
  refine j_iconst (v := 0) dX8_init_138 (by decide) ?_
  refine j_aload_n dX8_init_139 rfl rfl ?_
  refine j_getf dX8_init_140 fX8_40 rfl rfl ?_
  refine j_aast (w' := (.inr (12, [_, _, _, _, _, _, _, _, _]) :: .inl (4, 2, _) :: .inr (6, [.ref 3, .ref 4, .int _, .int _]) :: z_ia 12 _ :: .inr (11, [.ref 5]) :: z_ia 7 _ :: .inr (6, [.ref 7, .ref 8, .int _, .int _]) :: z_ia 12 _ :: .inr (11, [.ref 9]) :: z_ia 7 _ :: .inr (9, [.int _, .ref 11, .ref 12, .ref 13, .int _]) :: z_ia 20 _ :: z_ia 20 _ :: .inr (11, [.ref 14]) :: z_ia 7 _ :: .inl (5, 3, _) :: .inr (9, [.int _, .ref 17, .ref 18, .ref 19, .int _]) :: z_ia 20 _ :: z_ia 20 _ :: .inr (11, [.ref 20]) :: z_ia 7 _ :: .inr (9, [.int _, .ref 22, .ref 23, .ref 24, .int _]) :: z_ia 20 _ :: z_ia 20 _ :: .inr (11, [.ref 25]) :: z_ia 7 _ :: .inl (6, 2, _) :: .inr (5, [.ref 28, .int _, .int _, .int _, .int _, .int _]) :: z_ia 10 _ :: .inr (5, [.ref 30, .int _, .int _, .int _, .int _, .int _]) :: z_ia 10 _ :: .inr (6, [.ref 32, .ref 33, .int _, .int _]) :: z_ia 12 _ :: .inr (11, [.ref 34]) :: z_ia 7 _ :: .inr (9, [.int _, .ref 36, .ref 37, .ref 38, .int _]) :: z_ia 20 _ :: z_ia 20 _ :: .inr (11, [.ref 39]) :: z_ia 7 _ :: _ :: [], z_no)) dX8_init_143 rfl rfl rfl rfl (vp_in_iff.mpr (by decide)) rfl ?_
  refine j_dup dX8_init_144 rfl ?_
  refine j_iconst (v := 1) dX8_init_145 (by decide) ?_
  refine j_new (w' := (.inr (12, [_, _, _, _, _, _, _, _, _]) :: .inl (4, 2, _) :: .inr (6, [.ref 3, .ref 4, .int _, .int _]) :: z_ia 12 _ :: .inr (11, [.ref 5]) :: z_ia 7 _ :: .inr (6, [.ref 7, .ref 8, .int _, .int _]) :: z_ia 12 _ :: .inr (11, [.ref 9]) :: z_ia 7 _ :: .inr (9, [.int _, .ref 11, .ref 12, .ref 13, .int _]) :: z_ia 20 _ :: z_ia 20 _ :: .inr (11, [.ref 14]) :: z_ia 7 _ :: .inl (5, 3, _) :: .inr (9, [.int _, .ref 17, .ref 18, .ref 19, .int _]) :: z_ia 20 _ :: z_ia 20 _ :: .inr (11, [.ref 20]) :: z_ia 7 _ :: .inr (9, [.int _, .ref 22, .ref 23, .ref 24, .int _]) :: z_ia 20 _ :: z_ia 20 _ :: .inr (11, [.ref 25]) :: z_ia 7 _ :: .inl (6, 2, _) :: .inr (5, [.ref 28, .int _, .int _, .int _, .int _, .int _]) :: z_ia 10 _ :: .inr (5, [.ref 30, .int _, .int _, .int _, .int _, .int _]) :: z_ia 10 _ :: .inr (6, [.ref 32, .ref 33, .int _, .int _]) :: z_ia 12 _ :: .inr (11, [.ref 34]) :: z_ia 7 _ :: .inr (9, [.int _, .ref 36, .ref 37, .ref 38, .int _]) :: z_ia 20 _ :: z_ia 20 _ :: .inr (11, [.ref 39]) :: z_ia 7 _ :: .inl (5, 3, _) :: _ :: [], z_no)) (n := 41) dX8_init_146 nX8_16 rfl (z_al_l rfl rfl) (Nat.le_of_ble_eq_true rfl) (Nat.le_of_ble_eq_true rfl) ?_
  refine j_dup dX8_init_149 rfl ?_
  refine j_iconst (v := 0) dX8_init_150 (by decide) ?_
  refine j_callI dX8_init_151 kX4_init rfl lX8_18 inX4_init rfl (z_frameN [41] rfl (by decide) (Nat.le_of_ble_eq_true rfl) (Nat.le_of_ble_eq_true rfl) (c_X4_init_z hl false)) (Nat.le_of_ble_eq_true rfl) ⟨(Nat.le_of_ble_eq_true rfl), (Nat.le_of_ble_eq_true rfl)⟩ rfl (Nat.le_of_ble_eq_true rfl) rfl rfl (fun _ _ h => h.elim) ?_
  rintro _ _ ⟨_, _, ⟨rfl, _, _, hf41, rfl⟩, rfl, rfl⟩
  refine j_w (.inr (12, [_, _, _, _, _, _, _, _, _]) :: .inl (4, 2, _) :: .inr (6, [.ref 3, .ref 4, .int _, .int _]) :: z_ia 12 _ :: .inr (11, [.ref 5]) :: z_ia 7 _ :: .inr (6, [.ref 7, .ref 8, .int _, .int _]) :: z_ia 12 _ :: .inr (11, [.ref 9]) :: z_ia 7 _ :: .inr (9, [.int _, .ref 11, .ref 12, .ref 13, .int _]) :: z_ia 20 _ :: z_ia 20 _ :: .inr (11, [.ref 14]) :: z_ia 7 _ :: .inl (5, 3, _) :: .inr (9, [.int _, .ref 17, .ref 18, .ref 19, .int _]) :: z_ia 20 _ :: z_ia 20 _ :: .inr (11, [.ref 20]) :: z_ia 7 _ :: .inr (9, [.int _, .ref 22, .ref 23, .ref 24, .int _]) :: z_ia 20 _ :: z_ia 20 _ :: .inr (11, [.ref 25]) :: z_ia 7 _ :: .inl (6, 2, _) :: .inr (5, [.ref 28, .int _, .int _, .int _, .int _, .int _]) :: z_ia 10 _ :: .inr (5, [.ref 30, .int _, .int _, .int _, .int _, .int _]) :: z_ia 10 _ :: .inr (6, [.ref 32, .ref 33, .int _, .int _]) :: z_ia 12 _ :: .inr (11, [.ref 34]) :: z_ia 7 _ :: .inr (9, [.int _, .ref 36, .ref 37, .ref 38, .int _]) :: z_ia 20 _ :: z_ia 20 _ :: .inr (11, [.ref 39]) :: z_ia 7 _ :: .inl (5, 3, _) :: .inr (9, [.int _, .ref 42, .ref 43, .ref 44, .int _]) :: z_ia 20 _ :: z_ia 20 _ :: .inr (11, [.ref 45]) :: z_ia 7 _ :: [], z_no) rfl ?_
  refine j_aast (w' := (.inr (12, [_, _, _, _, _, _, _, _, _]) :: .inl (4, 2, _) :: .inr (6, [.ref 3, .ref 4, .int _, .int _]) :: z_ia 12 _ :: .inr (11, [.ref 5]) :: z_ia 7 _ :: .inr (6, [.ref 7, .ref 8, .int _, .int _]) :: z_ia 12 _ :: .inr (11, [.ref 9]) :: z_ia 7 _ :: .inr (9, [.int _, .ref 11, .ref 12, .ref 13, .int _]) :: z_ia 20 _ :: z_ia 20 _ :: .inr (11, [.ref 14]) :: z_ia 7 _ :: .inl (5, 3, _) :: .inr (9, [.int _, .ref 17, .ref 18, .ref 19, .int _]) :: z_ia 20 _ :: z_ia 20 _ :: .inr (11, [.ref 20]) :: z_ia 7 _ :: .inr (9, [.int _, .ref 22, .ref 23, .ref 24, .int _]) :: z_ia 20 _ :: z_ia 20 _ :: .inr (11, [.ref 25]) :: z_ia 7 _ :: .inl (6, 2, _) :: .inr (5, [.ref 28, .int _, .int _, .int _, .int _, .int _]) :: z_ia 10 _ :: .inr (5, [.ref 30, .int _, .int _, .int _, .int _, .int _]) :: z_ia 10 _ :: .inr (6, [.ref 32, .ref 33, .int _, .int _]) :: z_ia 12 _ :: .inr (11, [.ref 34]) :: z_ia 7 _ :: .inr (9, [.int _, .ref 36, .ref 37, .ref 38, .int _]) :: z_ia 20 _ :: z_ia 20 _ :: .inr (11, [.ref 39]) :: z_ia 7 _ :: .inl (5, 3, _) :: .inr (9, [.int _, .ref 42, .ref 43, .ref 44, .int _]) :: z_ia 20 _ :: z_ia 20 _ :: .inr (11, [.ref 45]) :: z_ia 7 _ :: [], z_no)) dX8_init_154 rfl rfl rfl rfl (vp_in_iff.mpr (by decide)) rfl ?_
  refine j_dup dX8_init_155 rfl ?_
  refine j_iconst (v := 2) dX8_init_156 (by decide) ?_
  refine j_new (w' := (.inr (12, [_, _, _, _, _, _, _, _, _]) :: .inl (4, 2, _) :: .inr (6, [.ref 3, .ref 4, .int _, .int _]) :: z_ia 12 _ :: .inr (11, [.ref 5]) :: z_ia 7 _ :: .inr (6, [.ref 7, .ref 8, .int _, .int _]) :: z_ia 12 _ :: .inr (11, [.ref 9]) :: z_ia 7 _ :: .inr (9, [.int _, .ref 11, .ref 12, .ref 13, .int _]) :: z_ia 20 _ :: z_ia 20 _ :: .inr (11, [.ref 14]) :: z_ia 7 _ :: .inl (5, 3, _) :: .inr (9, [.int _, .ref 17, .ref 18, .ref 19, .int _]) :: z_ia 20 _ :: z_ia 20 _ :: .inr (11, [.ref 20]) :: z_ia 7 _ :: .inr (9, [.int _, .ref 22, .ref 23, .ref 24, .int _]) :: z_ia 20 _ :: z_ia 20 _ :: .inr (11, [.ref 25]) :: z_ia 7 _ :: .inl (6, 2, _) :: .inr (5, [.ref 28, .int _, .int _, .int _, .int _, .int _]) :: z_ia 10 _ :: .inr (5, [.ref 30, .int _, .int _, .int _, .int _, .int _]) :: z_ia 10 _ :: .inr (6, [.ref 32, .ref 33, .int _, .int _]) :: z_ia 12 _ :: .inr (11, [.ref 34]) :: z_ia 7 _ :: .inr (9, [.int _, .ref 36, .ref 37, .ref 38, .int _]) :: z_ia 20 _ :: z_ia 20 _ :: .inr (11, [.ref 39]) :: z_ia 7 _ :: .inl (5, 3, _) :: .inr (9, [.int _, .ref 42, .ref 43, .ref 44, .int _]) :: z_ia 20 _ :: z_ia 20 _ :: .inr (11, [.ref 45]) :: z_ia 7 _ :: _ :: [], z_no)) (n := 46) dX8_init_157 nX8_16 rfl (z_al_l rfl rfl) (Nat.le_of_ble_eq_true rfl) (Nat.le_of_ble_eq_true rfl) ?_
  refine j_dup dX8_init_160 rfl ?_
  refine j_iconst (v := 1) dX8_init_161 (by decide) ?_
  refine j_callI dX8_init_162 kX4_init rfl lX8_18 inX4_init rfl (z_frameN [46] rfl (by decide) (Nat.le_of_ble_eq_true rfl) (Nat.le_of_ble_eq_true rfl) (c_X4_init_z hl true)) (Nat.le_of_ble_eq_true rfl) ⟨(Nat.le_of_ble_eq_true rfl), (Nat.le_of_ble_eq_true rfl)⟩ rfl (Nat.le_of_ble_eq_true rfl) rfl rfl (fun _ _ h => h.elim) ?_
  rintro _ _ ⟨_, _, ⟨rfl, _, _, hf46, rfl⟩, rfl, rfl⟩
  refine j_w (.inr (12, [_, _, _, _, _, _, _, _, _]) :: .inl (4, 2, _) :: .inr (6, [.ref 3, .ref 4, .int _, .int _]) :: z_ia 12 _ :: .inr (11, [.ref 5]) :: z_ia 7 _ :: .inr (6, [.ref 7, .ref 8, .int _, .int _]) :: z_ia 12 _ :: .inr (11, [.ref 9]) :: z_ia 7 _ :: .inr (9, [.int _, .ref 11, .ref 12, .ref 13, .int _]) :: z_ia 20 _ :: z_ia 20 _ :: .inr (11, [.ref 14]) :: z_ia 7 _ :: .inl (5, 3, _) :: .inr (9, [.int _, .ref 17, .ref 18, .ref 19, .int _]) :: z_ia 20 _ :: z_ia 20 _ :: .inr (11, [.ref 20]) :: z_ia 7 _ :: .inr (9, [.int _, .ref 22, .ref 23, .ref 24, .int _]) :: z_ia 20 _ :: z_ia 20 _ :: .inr (11, [.ref 25]) :: z_ia 7 _ :: .inl (6, 2, _) :: .inr (5, [.ref 28, .int _, .int _, .int _, .int _, .int _]) :: z_ia 10 _ :: .inr (5, [.ref 30, .int _, .int _, .int _, .int _, .int _]) :: z_ia 10 _ :: .inr (6, [.ref 32, .ref 33, .int _, .int _]) :: z_ia 12 _ :: .inr (11, [.ref 34]) :: z_ia 7 _ :: .inr (9, [.int _, .ref 36, .ref 37, .ref 38, .int _]) :: z_ia 20 _ :: z_ia 20 _ :: .inr (11, [.ref 39]) :: z_ia 7 _ :: .inl (5, 3, _) :: .inr (9, [.int _, .ref 42, .ref 43, .ref 44, .int _]) :: z_ia 20 _ :: z_ia 20 _ :: .inr (11, [.ref 45]) :: z_ia 7 _ :: .inr (9, [.int _, .ref 47, .ref 48, .ref 49, .int _]) :: z_ia 20 _ :: z_ia 20 _ :: .inr (11, [.ref 50]) :: z_ia 7 _ :: [], z_no) rfl ?_
  refine j_aast (w' := (.inr (12, [_, _, _, _, _, _, _, _, _]) :: .inl (4, 2, _) :: .inr (6, [.ref 3, .ref 4, .int _, .int _]) :: z_ia 12 _ :: .inr (11, [.ref 5]) :: z_ia 7 _ :: .inr (6, [.ref 7, .ref 8, .int _, .int _]) :: z_ia 12 _ :: .inr (11, [.ref 9]) :: z_ia 7 _ :: .inr (9, [.int _, .ref 11, .ref 12, .ref 13, .int _]) :: z_ia 20 _ :: z_ia 20 _ :: .inr (11, [.ref 14]) :: z_ia 7 _ :: .inl (5, 3, _) :: .inr (9, [.int _, .ref 17, .ref 18, .ref 19, .int _]) :: z_ia 20 _ :: z_ia 20 _ :: .inr (11, [.ref 20]) :: z_ia 7 _ :: .inr (9, [.int _, .ref 22, .ref 23, .ref 24, .int _]) :: z_ia 20 _ :: z_ia 20 _ :: .inr (11, [.ref 25]) :: z_ia 7 _ :: .inl (6, 2, _) :: .inr (5, [.ref 28, .int _, .int _, .int _, .int _, .int _]) :: z_ia 10 _ :: .inr (5, [.ref 30, .int _, .int _, .int _, .int _, .int _]) :: z_ia 10 _ :: .inr (6, [.ref 32, .ref 33, .int _, .int _]) :: z_ia 12 _ :: .inr (11, [.ref 34]) :: z_ia 7 _ :: .inr (9, [.int _, .ref 36, .ref 37, .ref 38, .int _]) :: z_ia 20 _ :: z_ia 20 _ :: .inr (11, [.ref 39]) :: z_ia 7 _ :: .inl (5, 3, _) :: .inr (9, [.int _, .ref 42, .ref 43, .ref 44, .int _]) :: z_ia 20 _ :: z_ia 20 _ :: .inr (11, [.ref 45]) :: z_ia 7 _ :: .inr (9, [.int _, .ref 47, .ref 48, .ref 49, .int _]) :: z_ia 20 _ :: z_ia 20 _ :: .inr (11, [.ref 50]) :: z_ia 7 _ :: [], z_no)) dX8_init_165 rfl rfl rfl rfl (vp_in_iff.mpr (by decide)) rfl ?_
  refine j_putF (w' := (.inr (12, [_, _, _, _, _, _, _, _, _]) :: .inl (4, 2, _) :: .inr (6, [.ref 3, .ref 4, .int _, .int _]) :: z_ia 12 _ :: .inr (11, [.ref 5]) :: z_ia 7 _ :: .inr (6, [.ref 7, .ref 8, .int _, .int _]) :: z_ia 12 _ :: .inr (11, [.ref 9]) :: z_ia 7 _ :: .inr (9, [.int _, .ref 11, .ref 12, .ref 13, .int _]) :: z_ia 20 _ :: z_ia 20 _ :: .inr (11, [.ref 14]) :: z_ia 7 _ :: .inl (5, 3, _) :: .inr (9, [.int _, .ref 17, .ref 18, .ref 19, .int _]) :: z_ia 20 _ :: z_ia 20 _ :: .inr (11, [.ref 20]) :: z_ia 7 _ :: .inr (9, [.int _, .ref 22, .ref 23, .ref 24, .int _]) :: z_ia 20 _ :: z_ia 20 _ :: .inr (11, [.ref 25]) :: z_ia 7 _ :: .inl (6, 2, _) :: .inr (5, [.ref 28, .int _, .int _, .int _, .int _, .int _]) :: z_ia 10 _ :: .inr (5, [.ref 30, .int _, .int _, .int _, .int _, .int _]) :: z_ia 10 _ :: .inr (6, [.ref 32, .ref 33, .int _, .int _]) :: z_ia 12 _ :: .inr (11, [.ref 34]) :: z_ia 7 _ :: .inr (9, [.int _, .ref 36, .ref 37, .ref 38, .int _]) :: z_ia 20 _ :: z_ia 20 _ :: .inr (11, [.ref 39]) :: z_ia 7 _ :: .inl (5, 3, _) :: .inr (9, [.int _, .ref 42, .ref 43, .ref 44, .int _]) :: z_ia 20 _ :: z_ia 20 _ :: .inr (11, [.ref 45]) :: z_ia 7 _ :: .inr (9, [.int _, .ref 47, .ref 48, .ref 49, .int _]) :: z_ia 20 _ :: z_ia 20 _ :: .inr (11, [.ref 50]) :: z_ia 7 _ :: [], z_no)) dX8_init_166 fX8_43 tX8_6 rfl (z_dc rfl rfl (z_w 190 ((lwt_1_4 25).trans rfl) (by decide +kernel))) rfl (Or.inr ⟨_, rfl⟩) rfl ?_
  refine j_vret dX8_init_169 rfl ?_ (Nat.le_of_ble_eq_true rfl) (Nat.le_of_ble_eq_true rfl)
  exact ⟨rfl, (Nat.le_of_ble_eq_true rfl), rfl, sp_cw0 hf10 hf16 hf21⟩
end ZCi
end ZM6
