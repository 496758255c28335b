section ZW9
theorem z_sw4 (x : Int32) : x = (0 : Int32) ∨ x = (1 : Int32) ∨ x = (2 : Int32) ∨ x = (3 : Int32) ∨ (x.toInt < 0 ∨ 3 < x.toInt) := by
  by_cases h0 : x.toInt = (0 : Nat)
  · exact Or.inl (z_swE h0 (by decide))
  by_cases h1 : x.toInt = (1 : Nat)
  · exact Or.inr (Or.inl (z_swE h1 (by decide)))
  by_cases h2 : x.toInt = (2 : Nat)
  · exact Or.inr (Or.inr (Or.inl (z_swE h2 (by decide))))
  by_cases h3 : x.toInt = (3 : Nat)
  · exact Or.inr (Or.inr (Or.inr (Or.inl (z_swE h3 (by decide)))))
  exact Or.inr (Or.inr (Or.inr (Or.inr (by omega))))
theorem z_sw5 (x : Int32) : x = (0 : Int32) ∨ x = (1 : Int32) ∨ x = (2 : Int32) ∨ x = (3 : Int32) ∨ x = (4 : Int32) ∨ (x.toInt < 0 ∨ 4 < x.toInt) := by
  by_cases h0 : x.toInt = (0 : Nat)
  · exact Or.inl (z_swE h0 (by decide))
  by_cases h1 : x.toInt = (1 : Nat)
  · exact Or.inr (Or.inl (z_swE h1 (by decide)))
  by_cases h2 : x.toInt = (2 : Nat)
  · exact Or.inr (Or.inr (Or.inl (z_swE h2 (by decide))))
  by_cases h3 : x.toInt = (3 : Nat)
  · exact Or.inr (Or.inr (Or.inr (Or.inl (z_swE h3 (by decide)))))
  by_cases h4 : x.toInt = (4 : Nat)
  · exact Or.inr (Or.inr (Or.inr (Or.inr (Or.inl (z_swE h4 (by decide))))))
  exact Or.inr (Or.inr (Or.inr (Or.inr (Or.inr (by omega)))))
def z_xA (E : String) : Prop := E = "java/lang/IllegalArgumentException"
def z_xI (E : String) : Prop := E = "java/lang/IndexOutOfBoundsException"
def z_xS (E : String) : Prop := E = "java/lang/IllegalStateException"
theorem z_lt1 {p m : Int32} (h : ¬ m ≤ p) : (p + Int32.ofInt 1).toInt = p.toInt + 1 := by
  have h1 : p.toInt < m.toInt := Int.not_le.mp (fun z => h ((Int32.le_iff_toInt_le).mpr z))
  have h2 := Int32.toInt_lt m
  have h3 := Int32.le_toInt p
  rw [Int32.toInt_add, show (Int32.ofInt 1).toInt = 1 from rfl]
  exact Int.bmod_eq_of_le (by omega) (by omega)
theorem z_ms {p m : Int32} {n : Nat} (h : ¬ m ≤ p) (hn : (m.toInt - p.toInt).toNat < n + 1) : (m.toInt - (p + Int32.ofInt 1).toInt).toNat < n := by
  have h1 : p.toInt < m.toInt := Int.not_le.mp (fun z => h ((Int32.le_iff_toInt_le).mpr z))
  rw [z_lt1 h]
  omega
theorem z_dirX {G : z_G} {l : Launch} {y : z_M} {rk mc ms : Nat} {L0 : List z_E} {av : List Value} {Q : Option Value → List z_E → Prop} {X : String → List z_E → Prop} (h : z_CX G l y rk mc ms L0 av Q X) : z_Con G l y rk mc ms (L0, z_no) av (fun v w => ∃ L' : List z_E, Q v L' ∧ w = (L', z_no)) (fun E w => ∃ L' : List z_E, X E L' ∧ w = (L', z_no)) :=
  z_weak h (fun _ w h => ⟨w.1, h.2.2, by rw [← h.1]⟩) (fun _ w h => ⟨w.1, h.2.2, by rw [← h.1]⟩)
theorem z_dirF {G : z_G} {l : Launch} {y : z_M} {rk mc ms : Nat} {L0 : List z_E} {av : List Value} {Q : Option Value → List z_E → Prop} (h : z_CF G l y rk mc ms L0 av Q) : z_Con G l y rk mc ms (L0, z_no) av (fun v w => ∃ L' : List z_E, Q v L' ∧ w = (L', z_no)) (fun _ _ => False) :=
  z_weak h (fun _ w h => ⟨w.1, h.2.2, by rw [← h.1]⟩) (fun _ _ h => h)
theorem arc_int : Cond.arrayClass .int ∈ z_tbl := (z_w 107 ((lwt_1_2 2).trans rfl) (by decide +kernel))
theorem arc_byte : Cond.arrayClass .byte ∈ z_tbl := (z_w 525 ((lwg_3 0).trans rfl) (by decide +kernel))
theorem arc_boolean : Cond.arrayClass .boolean ∈ z_tbl := (z_w 1401 ((lwt_6_5 6).trans rfl) (by decide +kernel))
theorem z_leZ {j : Nat} {z : Int32} (n : Nat) (hz : z = Int32.ofNat n) (h : ¬ z < nI j) (hj : j < 2147483648) (hn : n < 2147483648) : j ≤ n := by
  rw [hz] at h
  refine Nat.not_lt.mp (fun h2 => h ((Int32.lt_iff_toInt_lt).mpr ?_))
  rw [show Int32.ofNat n = nI n from rfl, nI_toInt (by omega), nI_toInt (by omega)]
  omega
end ZW9
