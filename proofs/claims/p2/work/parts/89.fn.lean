section ZFn
/-! what the rules and the tests tell, on both sides; none: it refuses -/
def q_bd (v : Int32) : Int32 := if v < -999 then -999 else if 999 < v then 999 else v
def q_ev (v : Int32) : Bool := decide (v &&& 1 = 0)
def q_mx (v n : Int32) : Int32 := if v < n then n else v
def q_rt (r k v n : Int32) : Option Int32 :=
  if r = 0 then some (q_bd (v + n)) else if r = 1 then some (q_mx v n) else if r = 2 then some (cond (q_ev (q_bd (v + n))) (q_bd (v + n)) (-1000)) else if r = 3 then some (-1000) else if r = 4 then cond (q_ev (q_bd (v + n))) (some (q_bd (v + n))) none else some (q_bd (k + n))
def q_tt (t v n : Int32) : Option Int32 :=
  if t = 0 then some (z_bi (q_ev v)) else if t = 1 then some (z_bi (!q_ev v)) else if t = 2 then some (z_bi (decide (v < n))) else if t = 3 then some (z_bi (decide (n < v))) else if t = 4 then some (z_bi (decide (v = n))) else if v = n then none else some 0
def q_d (v : Int32) : Int32 := if v = -1000 then 0 else v
theorem q_and1 (v : Int32) : v &&& 1 = 0 ↔ v.toInt % 2 = 0 := by
  have e : (v &&& 1).toBitVec.toNat = v.toBitVec.toNat % 2 := by
    rw [Int32.toBitVec_and, BitVec.toNat_and]
    exact Nat.and_one_is_mod _
  have t : v.toInt = if 2 * v.toBitVec.toNat < 2 ^ 32 then (v.toBitVec.toNat : Int) else (v.toBitVec.toNat : Int) - 2 ^ 32 := BitVec.toInt_eq_toNat_cond v.toBitVec
  constructor
  · intro h
    have h2 : (v &&& 1).toBitVec.toNat = 0 := by rw [h]; rfl
    rw [e] at h2
    rw [t]
    split <;> omega
  · intro h
    apply Int32.toBitVec_inj.mp
    apply BitVec.eq_of_toNat_eq
    rw [e]
    show v.toBitVec.toNat % 2 = 0
    rw [t] at h
    split at h <;> omega
theorem q_tdiv2 (V : Int) : (0 ≤ V ∧ V.tdiv 2 = V / 2) ∨ (V < 0 ∧ V.tdiv 2 = -((-V) / 2)) := by
  rcases Int.lt_or_le V 0 with h | h
  · refine Or.inr ⟨h, ?_⟩
    have e : (-(-V)).tdiv 2 = -((-V).tdiv 2) := Int.neg_tdiv (-V) 2
    rw [Int.neg_neg] at e
    rw [e, Int.tdiv_eq_ediv_of_nonneg (by omega)]
  · exact Or.inl ⟨h, Int.tdiv_eq_ediv_of_nonneg h⟩
theorem q_rem2 (v : Int32) : (v - v / 2 * 2).toInt = v.toInt - v.toInt.tdiv 2 * 2 := by
  have h1 := Int32.le_toInt v
  have h2 := Int32.toInt_lt v
  have hd : (v / 2).toInt = v.toInt.tdiv 2 := Int32.toInt_div_of_ne_right v 2 (by decide)
  rw [Int32.toInt_sub, Int32.toInt_mul, hd, show (2 : Int32).toInt = 2 from rfl]
  have e1 : (v.toInt.tdiv 2 * 2).bmod (2 ^ 32) = v.toInt.tdiv 2 * 2 := by
    rcases q_tdiv2 v.toInt with ⟨h, e⟩ | ⟨h, e⟩
    · rw [e]; exact Int.bmod_eq_of_le (by omega) (by omega)
    · rw [e]; exact Int.bmod_eq_of_le (by omega) (by omega)
  rw [e1]
  rcases q_tdiv2 v.toInt with ⟨h, e⟩ | ⟨h, e⟩
  · rw [e]; exact Int.bmod_eq_of_le (by omega) (by omega)
  · rw [e]; exact Int.bmod_eq_of_le (by omega) (by omega)
theorem q_evm (v : Int32) : v - v / 2 * 2 = 0 ↔ v &&& 1 = 0 := by
  rw [q_and1]
  have h := q_rem2 v
  have hd := q_tdiv2 v.toInt
  constructor
  · intro z
    rw [z] at h
    have h : (0 : Int) = v.toInt - v.toInt.tdiv 2 * 2 := h
    omega
  · intro z
    apply Int32.toInt_inj.mp
    rw [h]
    show v.toInt - v.toInt.tdiv 2 * 2 = 0
    rcases hd with ⟨h, e⟩ | ⟨h, e⟩ <;> rw [e] <;> omega
theorem q_ev1 {v : Int32} (h : v &&& 1 = 0) : q_ev v = true := decide_eq_true h
theorem q_ev0 {v : Int32} (h : ¬ v &&& 1 = 0) : q_ev v = false := decide_eq_false h
theorem q_evm1 {v : Int32} (h : v - v / 2 * 2 = 0) : q_ev v = true := q_ev1 ((q_evm v).mp h)
theorem q_evm0 {v : Int32} (h : ¬ v - v / 2 * 2 = 0) : q_ev v = false := q_ev0 (fun z => h ((q_evm v).mpr z))
theorem q_bd1 {v : Int32} (h : 999 < v) : q_bd v = 999 := by
  have h : (999 : Int32).toInt < v.toInt := Int32.lt_iff_toInt_lt.mp h
  unfold q_bd
  rw [if_neg (fun z => by have z : v.toInt < (-999 : Int32).toInt := Int32.lt_iff_toInt_lt.mp z; rw [show (999 : Int32).toInt = 999 from rfl] at h; rw [show (-999 : Int32).toInt = -999 from rfl] at z; omega), if_pos (Int32.lt_iff_toInt_lt.mpr h)]
theorem q_bd2 {v : Int32} (h : v < -999) : q_bd v = -999 := by
  unfold q_bd
  rw [if_pos h]
theorem q_bd3 {v : Int32} (h1 : ¬ v < -999) (h2 : ¬ 999 < v) : q_bd v = v := by
  unfold q_bd
  rw [if_neg h1, if_neg h2]
theorem q_bdm (v : Int32) : (if (-999 : Int32) < (if v < (999 : Int32) then v else 999) then (if v < (999 : Int32) then v else 999) else -999) = q_bd v := by
  by_cases h : v < 999
  · rw [if_pos h]
    by_cases h2 : v < -999
    · rw [q_bd2 h2, if_neg (fun z => Int32.lt_irrefl (Int32.lt_trans z h2))]
    · rw [q_bd3 h2 (fun z => Int32.lt_irrefl (Int32.lt_trans z h))]
      by_cases h3 : -999 < v
      · rw [if_pos h3]
      · rw [if_neg h3]
        exact Int32.le_antisymm (Int32.not_lt.mp h2) (Int32.not_lt.mp h3)
  · rw [if_neg h, if_pos (by decide)]
    by_cases h2 : 999 < v
    · rw [q_bd1 h2]
    · have e : v = 999 := Int32.le_antisymm (Int32.not_lt.mp h2) (Int32.not_lt.mp h)
      rw [e]
      rfl
/-- a rule tells a VALUE or NOTHING, where its value and number are VALUES -/
theorem q_sw {r : Int32} (h : r.toInt < 0 ∨ 4 < r.toInt) : ¬ r = 0 ∧ ¬ r = 1 ∧ ¬ r = 2 ∧ ¬ r = 3 ∧ ¬ r = 4 := by
  refine ⟨fun z => ?_, fun z => ?_, fun z => ?_, fun z => ?_, fun z => ?_⟩ <;> · subst z; revert h; decide
theorem q_rt5 {r k v n : Int32} (h : r.toInt < 0 ∨ 4 < r.toInt) : q_rt r k v n = some (q_bd (k + n)) := by
  obtain ⟨h0, h1, h2, h3, h4⟩ := q_sw h
  unfold q_rt
  rw [if_neg h0, if_neg h1, if_neg h2, if_neg h3, if_neg h4]
theorem q_tt5 {r v n : Int32} (h : r.toInt < 0 ∨ 4 < r.toInt) : q_tt r v n = if v = n then none else some 0 := by
  obtain ⟨h0, h1, h2, h3, h4⟩ := q_sw h
  unfold q_tt
  rw [if_neg h0, if_neg h1, if_neg h2, if_neg h3, if_neg h4]
theorem q_rt0 {k v n : Int32} : q_rt 0 k v n = some (q_bd (v + n)) := rfl
theorem q_rt1 {k v n : Int32} : q_rt 1 k v n = some (q_mx v n) := rfl
theorem q_rt2 {k v n : Int32} : q_rt 2 k v n = some (cond (q_ev (q_bd (v + n))) (q_bd (v + n)) (-1000)) := rfl
theorem q_rt3 {k v n : Int32} : q_rt 3 k v n = some (-1000) := rfl
theorem q_rt4 {k v n : Int32} : q_rt 4 k v n = cond (q_ev (q_bd (v + n))) (some (q_bd (v + n))) none := rfl
theorem q_tt0 {v n : Int32} : q_tt 0 v n = some (z_bi (q_ev v)) := rfl
theorem q_tt1 {v n : Int32} : q_tt 1 v n = some (z_bi (!q_ev v)) := rfl
theorem q_tt2 {v n : Int32} : q_tt 2 v n = some (z_bi (decide (v < n))) := rfl
theorem q_tt3 {v n : Int32} : q_tt 3 v n = some (z_bi (decide (n < v))) := rfl
theorem q_tt4 {v n : Int32} : q_tt 4 v n = some (z_bi (decide (v = n))) := rfl
theorem q_bdr (v : Int32) : z_vl (q_bd v) := by
  unfold q_bd z_vl
  split
  · exact ⟨by decide, by decide⟩
  · split
    · exact ⟨by decide, by decide⟩
    · exact ⟨Int32.not_lt.mp (by assumption), Int32.not_lt.mp (by assumption)⟩
theorem q_mx1 {v n : Int32} (h : n < v) : q_mx v n = v := if_neg (fun z => Int32.lt_irrefl (Int32.lt_trans h z))
theorem q_mx2 {v n : Int32} (h : v ≤ n) : q_mx v n = n := by
  unfold q_mx
  by_cases c : v < n
  · rw [if_pos c]
  · rw [if_neg c]
    exact Int32.le_antisymm h (Int32.not_lt.mp c)
theorem q_n2a {r : Int32} (h : r < 0) : ¬ (r = 0 ∨ r = 1) := by
  rintro (rfl | rfl)
  · exact absurd h (by decide)
  · exact absurd h (by decide)
theorem q_n2b {r : Int32} (h : ¬ r < Int32.ofNat 2) : ¬ (r = 0 ∨ r = 1) := by
  rintro (rfl | rfl)
  · exact h (by decide)
  · exact h (by decide)
/-- what is thrown: 0 nothing, else which -/
abbrev q_k1 (P : Prop) [Decidable P] : Int32 := if P then 1 else 0
abbrev q_k2 (r : Int32) : Int32 := if r = 0 ∨ r = 1 then 0 else 1
abbrev q_k22 (r : Int32) (P : Prop) [Decidable P] : Int32 := if r = 0 ∨ r = 1 then (if P then 2 else 0) else 1
theorem q_k1a {A B C D : Prop} [Decidable (A ∨ B ∨ C ∨ D)] (h1 : ¬ A) (h2 : ¬ B) (h3 : ¬ C) (h4 : ¬ D) : q_k1 (A ∨ B ∨ C ∨ D) = 0 := if_neg (fun z => z.elim h1 (fun z => z.elim h2 (fun z => z.elim h3 h4)))
theorem q_k1b {A B C : Prop} [Decidable (A ∨ B ∨ C)] (h1 : ¬ A) (h2 : ¬ B) (h3 : ¬ C) : q_k1 (A ∨ B ∨ C) = 0 := if_neg (fun z => z.elim h1 (fun z => z.elim h2 h3))
theorem q_k1c {A B : Prop} [Decidable (A ∨ B)] (h1 : ¬ A) (h2 : ¬ B) : q_k1 (A ∨ B) = 0 := if_neg (fun z => z.elim h1 h2)
theorem q_k2b {r : Int32} {P : Prop} [Decidable P] (e : r = 0 ∨ r = 1) (h : P) : q_k22 r P = 2 := by
  unfold q_k22
  rw [if_pos e, if_pos h]
theorem q_k2c {r : Int32} {P : Prop} [Decidable P] (e : r = 0 ∨ r = 1) (h : ¬ P) : q_k22 r P = 0 := by
  unfold q_k22
  rw [if_pos e, if_neg h]
theorem q_lo {x : Int32} (h : -1000 ≤ x) : ¬ x = -1001 := by
  rintro rfl
  exact absurd h (by decide)
theorem q_vlo {x : Int32} (h : z_vl x) : ¬ x = -1001 := by
  rintro rfl
  exact absurd h.1 (by decide)
theorem q_nor {x a b : Int32} (h : ¬ (x < a ∨ b < x)) : a ≤ x ∧ x ≤ b := ⟨Int32.not_lt.mp (fun z => h (Or.inl z)), Int32.not_lt.mp (fun z => h (Or.inr z))⟩
theorem q_dlo {q : Int32} (h : -1000 ≤ q) : ¬ q_d q = -1001 := by
  unfold q_d
  split
  · decide
  · exact q_lo h
theorem q_rtn {r p v t : Int32} (h1 : ¬ v = -1001) (h2 : ¬ t = -1001) (c : (q_rt r p v t).getD (-1001) = -1001) : q_rt r p v t = none := by
  by_cases e0 : r = 0
  · subst e0
    exact absurd c (q_vlo (q_bdr _))
  by_cases e1 : r = 1
  · subst e1
    rw [q_rt1] at c
    have c : q_mx v t = -1001 := c
    unfold q_mx at c
    split at c
    · exact absurd c h2
    · exact absurd c h1
  by_cases e2 : r = 2
  · subst e2
    rw [q_rt2] at c
    cases hb : q_ev (q_bd (v + t)) with
    | true => rw [hb] at c; exact absurd c (q_vlo (q_bdr _))
    | false => rw [hb] at c; exact absurd (show (-1000 : Int32) = -1001 from c) (by decide)
  by_cases e3 : r = 3
  · subst e3
    exact absurd c (by rw [q_rt3]; decide)
  by_cases e4 : r = 4
  · subst e4
    rw [q_rt4] at c ⊢
    cases hb : q_ev (q_bd (v + t)) with
    | true => rw [hb] at c; exact absurd c (q_vlo (q_bdr _))
    | false => rfl
  unfold q_rt at c
  rw [if_neg e0, if_neg e1, if_neg e2, if_neg e3, if_neg e4] at c
  exact absurd c (q_vlo (q_bdr _))
theorem q_g1 {r p q t : Int32} (h1 : ¬ (q < -1000 ∨ 999 < q)) (h4 : ¬ (t < -999 ∨ 999 < t)) (c : (q_rt r p (q_d q) t).getD (-1001) = -1001) : (q_rt r p (q_d q) t).getD (-9) = -9 := by
  rw [q_rtn (q_dlo (q_nor h1).1) (q_vlo (q_nor h4)) c]
  rfl
theorem q_g2 {o : Option Int32} {a b : Int32} (c : ¬ o.getD a = a) : o.getD a = o.getD b := by
  cases o with
  | none => exact absurd rfl c
  | some x => rfl
theorem q_bi {b : Bool} : z_bi b = 0 ∨ z_bi b = 1 := by cases b <;> decide
theorem q_tts {r p q x : Int32} (h : q_tt r p q = some x) : x = 0 ∨ x = 1 := by
  unfold q_tt at h
  split at h
  · cases h; exact q_bi
  split at h
  · cases h; exact q_bi
  split at h
  · cases h; exact q_bi
  split at h
  · cases h; exact q_bi
  split at h
  · cases h; exact q_bi
  split at h
  · cases h
  · cases h; exact Or.inl rfl
theorem q_h1 {r p q : Int32} (c : (q_tt r p q).getD (-1001) = -1001) : (q_tt r p q).getD (-9) = -9 := by
  cases h : q_tt r p q with
  | none => rfl
  | some x =>
    rw [h] at c
    have c : x = -1001 := c
    rcases q_tts h with z | z
    · rw [z] at c; exact absurd c (by decide)
    · rw [z] at c; exact absurd c (by decide)
end ZFn
