section ZCW
abbrev z_cw (rf : Int32) (kn : Int32) (ma : Int32) (xa : Bool) (fa : Nat → Int32) (ca : Nat → Int32) (mb : Int32) (xb : Bool) (fb : Nat → Int32) (cb : Nat → Int32) (mt : Int32) (xt : Bool) (ft : Nat → Int32) (ct : Nat → Int32) (f0 : Nat → Int32) (g0 : Nat → Int32) (c0 : Nat → Int32) (m0 : Int32) (s0 : Int32) (f1 : Nat → Int32) (g1 : Nat → Int32) (c1 : Nat → Int32) (m1 : Int32) (s1 : Int32) (f2 : Nat → Int32) (g2 : Nat → Int32) (c2 : Nat → Int32) (m2 : Int32) (s2 : Int32) (f3 : Nat → Int32) (g3 : Nat → Int32) (c3 : Nat → Int32) (m3 : Int32) (s3 : Int32) (f4 : Nat → Int32) (g4 : Nat → Int32) (c4 : Nat → Int32) (m4 : Int32) (s4 : Int32) (f5 : Nat → Int32) (g5 : Nat → Int32) (c5 : Nat → Int32) (m5 : Int32) (s5 : Int32) (ek0 : Int32) (em0 : Int32) (es0 : Int32) (el0 : Int32) (b0 : Int32) (ef0 : Nat → Int32) (ek1 : Int32) (em1 : Int32) (es1 : Int32) (el1 : Int32) (b1 : Int32) (ef1 : Nat → Int32) (X : List z_E) : List z_E := [.inr (12, [.ref 1, .ref 10, .ref 15, .ref 26, .ref 31, .ref 35, .ref 40, .int rf, .int kn]), .inl (4, 2, z_u (z_u (fun _ => .null) 0 (.ref 2)) 1 (.ref 6)), .inr (6, [.ref 3, .ref 4, .int ma, .int (z_bi xa)]), z_ia 12 fa, .inr (11, [.ref 5]), z_ia 7 ca, .inr (6, [.ref 7, .ref 8, .int mb, .int (z_bi xb)]), z_ia 12 fb, .inr (11, [.ref 9]), z_ia 7 cb, .inr (9, [.int s0, .ref 11, .ref 12, .ref 13, .int m0]), z_ia 20 f0, z_ia 20 g0, .inr (11, [.ref 14]), z_ia 7 c0, .inl (5, 3, z_u (z_u (z_u (fun _ => .null) 0 (.ref 10)) 1 (.ref 16)) 2 (.ref 21)), .inr (9, [.int s1, .ref 17, .ref 18, .ref 19, .int m1]), z_ia 20 f1, z_ia 20 g1, .inr (11, [.ref 20]), z_ia 7 c1, .inr (9, [.int s2, .ref 22, .ref 23, .ref 24, .int m2]), z_ia 20 f2, z_ia 20 g2, .inr (11, [.ref 25]), z_ia 7 c2, .inl (6, 2, z_u (z_u (fun _ => .null) 0 (.ref 27)) 1 (.ref 29)), .inr (5, [.ref 28, .int ek0, .int em0, .int es0, .int el0, .int b0]), z_ia 10 ef0, .inr (5, [.ref 30, .int ek1, .int em1, .int es1, .int el1, .int b1]), z_ia 10 ef1, .inr (6, [.ref 32, .ref 33, .int mt, .int (z_bi xt)]), z_ia 12 ft, .inr (11, [.ref 34]), z_ia 7 ct, .inr (9, [.int s3, .ref 36, .ref 37, .ref 38, .int m3]), z_ia 20 f3, z_ia 20 g3, .inr (11, [.ref 39]), z_ia 7 c3, .inl (5, 3, z_u (z_u (z_u (fun _ => .null) 0 (.ref 35)) 1 (.ref 41)) 2 (.ref 46)), .inr (9, [.int s4, .ref 42, .ref 43, .ref 44, .int m4]), z_ia 20 f4, z_ia 20 g4, .inr (11, [.ref 45]), z_ia 7 c4, .inr (9, [.int s5, .ref 47, .ref 48, .ref 49, .int m5]), z_ia 20 f5, z_ia 20 g5, .inr (11, [.ref 50]), z_ia 7 c5] ++ X
theorem z_cwl {rf : Int32} {kn : Int32} {ma : Int32} {xa : Bool} {fa : Nat → Int32} {ca : Nat → Int32} {mb : Int32} {xb : Bool} {fb : Nat → Int32} {cb : Nat → Int32} {mt : Int32} {xt : Bool} {ft : Nat → Int32} {ct : Nat → Int32} {f0 : Nat → Int32} {g0 : Nat → Int32} {c0 : Nat → Int32} {m0 : Int32} {s0 : Int32} {f1 : Nat → Int32} {g1 : Nat → Int32} {c1 : Nat → Int32} {m1 : Int32} {s1 : Int32} {f2 : Nat → Int32} {g2 : Nat → Int32} {c2 : Nat → Int32} {m2 : Int32} {s2 : Int32} {f3 : Nat → Int32} {g3 : Nat → Int32} {c3 : Nat → Int32} {m3 : Int32} {s3 : Int32} {f4 : Nat → Int32} {g4 : Nat → Int32} {c4 : Nat → Int32} {m4 : Int32} {s4 : Int32} {f5 : Nat → Int32} {g5 : Nat → Int32} {c5 : Nat → Int32} {m5 : Int32} {s5 : Int32} {ek0 : Int32} {em0 : Int32} {es0 : Int32} {el0 : Int32} {b0 : Int32} {ef0 : Nat → Int32} {ek1 : Int32} {em1 : Int32} {es1 : Int32} {el1 : Int32} {b1 : Int32} {ef1 : Nat → Int32} {rf' : Int32} {kn' : Int32} {ma' : Int32} {xa' : Bool} {fa' : Nat → Int32} {ca' : Nat → Int32} {mb' : Int32} {xb' : Bool} {fb' : Nat → Int32} {cb' : Nat → Int32} {mt' : Int32} {xt' : Bool} {ft' : Nat → Int32} {ct' : Nat → Int32} {f0' : Nat → Int32} {g0' : Nat → Int32} {c0' : Nat → Int32} {m0' : Int32} {s0' : Int32} {f1' : Nat → Int32} {g1' : Nat → Int32} {c1' : Nat → Int32} {m1' : Int32} {s1' : Int32} {f2' : Nat → Int32} {g2' : Nat → Int32} {c2' : Nat → Int32} {m2' : Int32} {s2' : Int32} {f3' : Nat → Int32} {g3' : Nat → Int32} {c3' : Nat → Int32} {m3' : Int32} {s3' : Int32} {f4' : Nat → Int32} {g4' : Nat → Int32} {c4' : Nat → Int32} {m4' : Int32} {s4' : Int32} {f5' : Nat → Int32} {g5' : Nat → Int32} {c5' : Nat → Int32} {m5' : Int32} {s5' : Int32} {ek0' : Int32} {em0' : Int32} {es0' : Int32} {el0' : Int32} {b0' : Int32} {ef0' : Nat → Int32} {ek1' : Int32} {em1' : Int32} {es1' : Int32} {el1' : Int32} {b1' : Int32} {ef1' : Nat → Int32} : (z_cw rf kn ma xa fa ca mb xb fb cb mt xt ft ct f0 g0 c0 m0 s0 f1 g1 c1 m1 s1 f2 g2 c2 m2 s2 f3 g3 c3 m3 s3 f4 g4 c4 m4 s4 f5 g5 c5 m5 s5 ek0 em0 es0 el0 b0 ef0 ek1 em1 es1 el1 b1 ef1 []).length = (z_cw rf' kn' ma' xa' fa' ca' mb' xb' fb' cb' mt' xt' ft' ct' f0' g0' c0' m0' s0' f1' g1' c1' m1' s1' f2' g2' c2' m2' s2' f3' g3' c3' m3' s3' f4' g4' c4' m4' s4' f5' g5' c5' m5' s5' ek0' em0' es0' el0' b0' ef0' ek1' em1' es1' el1' b1' ef1' []).length := rfl
def z_Wk (kn : Int32) (xa xb : Bool) (b0 b1 : Int32) (L : List z_E) : Prop := ∃ (rf : Int32) (ma : Int32) (fa : Nat → Int32) (ca : Nat → Int32) (mb : Int32) (fb : Nat → Int32) (cb : Nat → Int32) (mt : Int32) (xt : Bool) (ft : Nat → Int32) (ct : Nat → Int32) (f0 : Nat → Int32) (g0 : Nat → Int32) (c0 : Nat → Int32) (m0 : Int32) (s0 : Int32) (f1 : Nat → Int32) (g1 : Nat → Int32) (c1 : Nat → Int32) (m1 : Int32) (s1 : Int32) (f2 : Nat → Int32) (g2 : Nat → Int32) (c2 : Nat → Int32) (m2 : Int32) (s2 : Int32) (f3 : Nat → Int32) (g3 : Nat → Int32) (c3 : Nat → Int32) (m3 : Int32) (s3 : Int32) (f4 : Nat → Int32) (g4 : Nat → Int32) (c4 : Nat → Int32) (m4 : Int32) (s4 : Int32) (f5 : Nat → Int32) (g5 : Nat → Int32) (c5 : Nat → Int32) (m5 : Int32) (s5 : Int32) (ek0 : Int32) (em0 : Int32) (es0 : Int32) (el0 : Int32) (ef0 : Nat → Int32) (ek1 : Int32) (em1 : Int32) (es1 : Int32) (el1 : Int32) (ef1 : Nat → Int32), z_m20 m0 ∧ z_m20 m1 ∧ z_m20 m2 ∧ z_m20 m3 ∧ z_m20 m4 ∧ z_m20 m5 ∧ L = z_cw rf kn ma xa fa ca mb xb fb cb mt xt ft ct f0 g0 c0 m0 s0 f1 g1 c1 m1 s1 f2 g2 c2 m2 s2 f3 g3 c3 m3 s3 f4 g4 c4 m4 s4 f5 g5 c5 m5 s5 ek0 em0 es0 el0 b0 ef0 ek1 em1 es1 el1 b1 ef1 []
theorem z_wk {rf : Int32} {kn : Int32} {ma : Int32} {xa : Bool} {fa : Nat → Int32} {ca : Nat → Int32} {mb : Int32} {xb : Bool} {fb : Nat → Int32} {cb : Nat → Int32} {mt : Int32} {xt : Bool} {ft : Nat → Int32} {ct : Nat → Int32} {f0 : Nat → Int32} {g0 : Nat → Int32} {c0 : Nat → Int32} {m0 : Int32} {s0 : Int32} {f1 : Nat → Int32} {g1 : Nat → Int32} {c1 : Nat → Int32} {m1 : Int32} {s1 : Int32} {f2 : Nat → Int32} {g2 : Nat → Int32} {c2 : Nat → Int32} {m2 : Int32} {s2 : Int32} {f3 : Nat → Int32} {g3 : Nat → Int32} {c3 : Nat → Int32} {m3 : Int32} {s3 : Int32} {f4 : Nat → Int32} {g4 : Nat → Int32} {c4 : Nat → Int32} {m4 : Int32} {s4 : Int32} {f5 : Nat → Int32} {g5 : Nat → Int32} {c5 : Nat → Int32} {m5 : Int32} {s5 : Int32} {ek0 : Int32} {em0 : Int32} {es0 : Int32} {el0 : Int32} {b0 : Int32} {ef0 : Nat → Int32} {ek1 : Int32} {em1 : Int32} {es1 : Int32} {el1 : Int32} {b1 : Int32} {ef1 : Nat → Int32} (h0 : z_m20 m0) (h1 : z_m20 m1) (h2 : z_m20 m2) (h3 : z_m20 m3) (h4 : z_m20 m4) (h5 : z_m20 m5) : z_Wk kn xa xb b0 b1 (z_cw rf kn ma xa fa ca mb xb fb cb mt xt ft ct f0 g0 c0 m0 s0 f1 g1 c1 m1 s1 f2 g2 c2 m2 s2 f3 g3 c3 m3 s3 f4 g4 c4 m4 s4 f5 g5 c5 m5 s5 ek0 em0 es0 el0 b0 ef0 ek1 em1 es1 el1 b1 ef1 []) := ⟨_, _, _, _, _, _, _, _, _, _, _, _, _, _, _, _, _, _, _, _, _, _, _, _, _, _, _, _, _, _, _, _, _, _, _, _, _, _, _, _, _, _, _, _, _, _, _, _, _, _, _, h0, h1, h2, h3, h4, h5, rfl⟩
theorem z_c2 {n a b k : Nat} (ha : a < n) (hb : b < n) : z_cE n (.inl (k, 2, z_u (z_u (fun _ => .null) 0 (.ref a)) 1 (.ref b))) := fun j hj => by
  match j, hj with
  | 0, _ => exact ha
  | 1, _ => exact hb
theorem z_c3 {n a b c k : Nat} (ha : a < n) (hb : b < n) (hc : c < n) : z_cE n (.inl (k, 3, z_u (z_u (z_u (fun _ => .null) 0 (.ref a)) 1 (.ref b)) 2 (.ref c))) := fun j hj => by
  match j, hj with
  | 0, _ => exact ha
  | 1, _ => exact hb
  | 2, _ => exact hc
set_option maxRecDepth 100000 in
theorem z_cwc {rf : Int32} {kn : Int32} {ma : Int32} {xa : Bool} {fa : Nat → Int32} {ca : Nat → Int32} {mb : Int32} {xb : Bool} {fb : Nat → Int32} {cb : Nat → Int32} {mt : Int32} {xt : Bool} {ft : Nat → Int32} {ct : Nat → Int32} {f0 : Nat → Int32} {g0 : Nat → Int32} {c0 : Nat → Int32} {m0 : Int32} {s0 : Int32} {f1 : Nat → Int32} {g1 : Nat → Int32} {c1 : Nat → Int32} {m1 : Int32} {s1 : Int32} {f2 : Nat → Int32} {g2 : Nat → Int32} {c2 : Nat → Int32} {m2 : Int32} {s2 : Int32} {f3 : Nat → Int32} {g3 : Nat → Int32} {c3 : Nat → Int32} {m3 : Int32} {s3 : Int32} {f4 : Nat → Int32} {g4 : Nat → Int32} {c4 : Nat → Int32} {m4 : Int32} {s4 : Int32} {f5 : Nat → Int32} {g5 : Nat → Int32} {c5 : Nat → Int32} {m5 : Int32} {s5 : Int32} {ek0 : Int32} {em0 : Int32} {es0 : Int32} {el0 : Int32} {b0 : Int32} {ef0 : Nat → Int32} {ek1 : Int32} {em1 : Int32} {es1 : Int32} {el1 : Int32} {b1 : Int32} {ef1 : Nat → Int32} : z_cL 51 (z_cw rf kn ma xa fa ca mb xb fb cb mt xt ft ct f0 g0 c0 m0 s0 f1 g1 c1 m1 s1 f2 g2 c2 m2 s2 f3 g3 c3 m3 s3 f4 g4 c4 m4 s4 f5 g5 c5 m5 s5 ek0 em0 es0 el0 b0 ef0 ek1 em1 es1 el1 b1 ef1 []) := ⟨(z_cEc (Nat.le_of_ble_eq_true rfl : _ < 51) (z_cEc (Nat.le_of_ble_eq_true rfl : _ < 51) (z_cEc (Nat.le_of_ble_eq_true rfl : _ < 51) (z_cEc (Nat.le_of_ble_eq_true rfl : _ < 51) (z_cEc (Nat.le_of_ble_eq_true rfl : _ < 51) (z_cEc (Nat.le_of_ble_eq_true rfl : _ < 51) (z_cEc (Nat.le_of_ble_eq_true rfl : _ < 51) (z_cEc trivial (z_cEc trivial z_cE0))))))))), (z_c2 (Nat.le_of_ble_eq_true rfl) (Nat.le_of_ble_eq_true rfl)), (z_cEc (Nat.le_of_ble_eq_true rfl : _ < 51) (z_cEc (Nat.le_of_ble_eq_true rfl : _ < 51) (z_cEc trivial (z_cEc trivial z_cE0)))), z_cia, (z_cEc (Nat.le_of_ble_eq_true rfl : _ < 51) z_cE0), z_cia, (z_cEc (Nat.le_of_ble_eq_true rfl : _ < 51) (z_cEc (Nat.le_of_ble_eq_true rfl : _ < 51) (z_cEc trivial (z_cEc trivial z_cE0)))), z_cia, (z_cEc (Nat.le_of_ble_eq_true rfl : _ < 51) z_cE0), z_cia, (z_cEc trivial (z_cEc (Nat.le_of_ble_eq_true rfl : _ < 51) (z_cEc (Nat.le_of_ble_eq_true rfl : _ < 51) (z_cEc (Nat.le_of_ble_eq_true rfl : _ < 51) (z_cEc trivial z_cE0))))), z_cia, z_cia, (z_cEc (Nat.le_of_ble_eq_true rfl : _ < 51) z_cE0), z_cia, (z_c3 (Nat.le_of_ble_eq_true rfl) (Nat.le_of_ble_eq_true rfl) (Nat.le_of_ble_eq_true rfl)), (z_cEc trivial (z_cEc (Nat.le_of_ble_eq_true rfl : _ < 51) (z_cEc (Nat.le_of_ble_eq_true rfl : _ < 51) (z_cEc (Nat.le_of_ble_eq_true rfl : _ < 51) (z_cEc trivial z_cE0))))), z_cia, z_cia, (z_cEc (Nat.le_of_ble_eq_true rfl : _ < 51) z_cE0), z_cia, (z_cEc trivial (z_cEc (Nat.le_of_ble_eq_true rfl : _ < 51) (z_cEc (Nat.le_of_ble_eq_true rfl : _ < 51) (z_cEc (Nat.le_of_ble_eq_true rfl : _ < 51) (z_cEc trivial z_cE0))))), z_cia, z_cia, (z_cEc (Nat.le_of_ble_eq_true rfl : _ < 51) z_cE0), z_cia, (z_c2 (Nat.le_of_ble_eq_true rfl) (Nat.le_of_ble_eq_true rfl)), (z_cEc (Nat.le_of_ble_eq_true rfl : _ < 51) (z_cEc trivial (z_cEc trivial (z_cEc trivial (z_cEc trivial (z_cEc trivial z_cE0)))))), z_cia, (z_cEc (Nat.le_of_ble_eq_true rfl : _ < 51) (z_cEc trivial (z_cEc trivial (z_cEc trivial (z_cEc trivial (z_cEc trivial z_cE0)))))), z_cia, (z_cEc (Nat.le_of_ble_eq_true rfl : _ < 51) (z_cEc (Nat.le_of_ble_eq_true rfl : _ < 51) (z_cEc trivial (z_cEc trivial z_cE0)))), z_cia, (z_cEc (Nat.le_of_ble_eq_true rfl : _ < 51) z_cE0), z_cia, (z_cEc trivial (z_cEc (Nat.le_of_ble_eq_true rfl : _ < 51) (z_cEc (Nat.le_of_ble_eq_true rfl : _ < 51) (z_cEc (Nat.le_of_ble_eq_true rfl : _ < 51) (z_cEc trivial z_cE0))))), z_cia, z_cia, (z_cEc (Nat.le_of_ble_eq_true rfl : _ < 51) z_cE0), z_cia, (z_c3 (Nat.le_of_ble_eq_true rfl) (Nat.le_of_ble_eq_true rfl) (Nat.le_of_ble_eq_true rfl)), (z_cEc trivial (z_cEc (Nat.le_of_ble_eq_true rfl : _ < 51) (z_cEc (Nat.le_of_ble_eq_true rfl : _ < 51) (z_cEc (Nat.le_of_ble_eq_true rfl : _ < 51) (z_cEc trivial z_cE0))))), z_cia, z_cia, (z_cEc (Nat.le_of_ble_eq_true rfl : _ < 51) z_cE0), z_cia, (z_cEc trivial (z_cEc (Nat.le_of_ble_eq_true rfl : _ < 51) (z_cEc (Nat.le_of_ble_eq_true rfl : _ < 51) (z_cEc (Nat.le_of_ble_eq_true rfl : _ < 51) (z_cEc trivial z_cE0))))), z_cia, z_cia, (z_cEc (Nat.le_of_ble_eq_true rfl : _ < 51) z_cE0), z_cia, trivial⟩
def z_cVb (n : Nat) (v : Value) : Bool := match v with
  | .ref a => Nat.blt a n
  | _ => true
def z_stb (n : Nat) : List Value → Bool
  | [] => true
  | v :: t => z_cVb n v && z_stb n t
theorem z_cVt {n : Nat} {v : Value} (h : z_cVb n v = true) : z_cV n v := by
  cases v with
  | ref a => exact Nat.le_of_ble_eq_true h
  | int x => exact trivial
  | long x => exact trivial
  | null => exact trivial
  | float b => exact trivial
  | double b => exact trivial
  | retAddr k => exact trivial
theorem z_stc {n : Nat} : ∀ {st : List Value}, z_stb n st = true → ∀ v ∈ st, z_cV n v
  | [], _, _, h => by cases h
  | a :: t, h, v, hv => by
    unfold z_stb at h
    rw [Bool.and_eq_true] at h
    rcases List.mem_cons.mp hv with rfl | hv
    · exact z_cVt h.1
    · exact z_stc h.2 v hv
def z_lob (n : Nat) : List (Nat × Value) → Bool
  | [] => true
  | q :: t => z_cVb n q.2 && z_lob n t
theorem z_LLc {P P' : Value → Value → Prop} {n : Nat} (hP : ∀ a b, z_cV n a → P a b → P' a b) : ∀ {as bs : List (Nat × Value)}, z_lob n as = true → z_LL P as bs → z_LL P' as bs
  | [], [], _, _ => trivial
  | [], _ :: _, _, h => h.elim
  | _ :: _, [], _, h => h.elim
  | a :: as, b :: bs, h9, h => by
    unfold z_lob at h9
    rw [Bool.and_eq_true] at h9
    exact ⟨⟨h.1.1, hP _ _ (z_cVt h9.1) h.1.2⟩, z_LLc hP (as := as) (bs := bs) h9.2 h.2⟩
theorem j_dropL {G : z_G} {l : Launch} {y : z_M} {S : z_S} {pc n : Nat} {lo : List (Nat × Value)} {st : List Value} {L L0 : List z_E} {kc ks : Nat} (hL0 : S.2.2.2.1 = (L0, z_no)) (hn : L0.length ≤ n) (hn2 : n ≤ 1000) (hl2 : n ≤ L.length) (hc : z_cL n (L.take n)) (hst : z_stb n st = true) (hlb : z_lob n lo = true) (h : z_J G l y S pc lo st (L.take n, z_no) kc ks) : z_J G l y S pc lo st (L, z_no) kc ks := by
  intro p e s m args below meth c R0 hok R H locs ls cst hat hlo hst0
  have hd : ∀ k, z_d (L.take n, z_no) k ↔ k < n := by
    intro k
    constructor
    · intro ⟨e9, he9⟩
      have h1 := (List.getElem?_eq_some_iff.mp (z_gL he9)).1
      rw [List.length_take] at h1
      omega
    · intro hk
      have h1 : k < (L.take n).length := by rw [List.length_take]; omega
      exact ⟨_, z_Lg' (by rw [List.length_take]; omega) (List.getElem?_eq_getElem h1)⟩
  have hge : ∀ k e9, z_g (L.take n, z_no) k = some e9 → z_g (L, z_no) k = some e9 := by
    intro k e9 he9
    have hk := (hd k).mp ⟨_, he9⟩
    have h1 := z_gL he9
    rw [List.getElem?_take_of_lt hk] at h1
    show cond (Nat.blt k 1000) L[k]? (z_no k) = _
    rw [z_blt (by omega)]
    exact h1
  have hdd : ∀ k, z_d (L.take n, z_no) k → z_d (L, z_no) k := fun k ⟨e9, he9⟩ => ⟨e9, hge k e9 he9⟩
  have hv : ∀ v c, z_cV n v → z_V G R (L, z_no) v c → z_V G R (L.take n, z_no) v c := by
    intro v c hc9 hv
    cases v with
    | int x => exact hv
    | long x => exact hv
    | null => exact hv
    | float b => exact hv
    | retAddr k => exact hv
    | double b => exact hv
    | ref a => exact ⟨(hd a).mpr hc9, hv.2⟩
  have hvl : ∀ (as bs : List Value), (∀ v ∈ as, z_cV n v) → z_L (z_V G R (L, z_no)) as bs → z_L (z_V G R (L.take n, z_no)) as bs := by
    intro as
    induction as with
    | nil =>
      intro bs _ h9
      cases bs with
      | nil => exact trivial
      | cons b bs => exact h9.elim
    | cons a as ih =>
      intro bs h8 h9
      cases bs with
      | nil => exact h9.elim
      | cons b bs => exact ⟨hv _ _ (h8 a List.mem_cons_self) h9.1, ih bs (fun v hv9 => h8 v (List.mem_cons_of_mem _ hv9)) h9.2⟩
  obtain ⟨hP, hT, hF⟩ := hat
  have hat2 : z_at G S R0 s R (L.take n, z_no) H locs := by
    refine ⟨⟨fun k e9 he9 => ?_, fun a b ha hb hab => hP.2.1 a b (hdd a ha) (hdd b hb) hab, fun q b hq => ⟨(hP.2.2 q b hq).1, fun k hk => (hP.2.2 q b hq).2 k (hdd k hk)⟩⟩, ⟨fun k hk => ⟨?_, (hT.1 k hk).2⟩, hT.2.1, fun k hk hno => hT.2.2.1 k (hdd k hk) hno, hT.2.2.2⟩, hF⟩
    · obtain ⟨h3, h4⟩ := hP.1 k e9 (hge k e9 he9)
      refine ⟨?_, h4⟩
      have hce : z_cE n e9 := z_cLm hc e9 (List.mem_of_getElem? (z_gL he9))
      cases e9 with
      | inl x =>
        obtain ⟨z, z1, z2⟩ := h3
        exact ⟨z, z1, fun j hj => hv _ _ (hce j hj) (z2 j hj)⟩
      | inr o =>
        obtain ⟨q, gs, x1, x2, x3, x4⟩ := h3
        exact ⟨q, gs, x1, x2, x3, hvl _ _ hce x4⟩
    · rw [hL0] at hk
      obtain ⟨e9, he9⟩ := hk
      have h1 := (List.getElem?_eq_some_iff.mp (z_gL he9)).1
      exact (hd k).mpr (by omega)
  obtain ⟨clo, h1, h2⟩ := hlo
  exact h p e s m args below meth c R0 hok R H locs ls cst hat2 ⟨clo, h1, z_LLc hv hlb h2⟩ (hvl _ _ (z_stc hst) hst0)
theorem z_r2 {r : Int32} (h0 : ¬ r < 0) (h1 : r < Int32.ofNat 2) : r = 0 ∨ r = 1 := by
  obtain ⟨k, hk, rfl⟩ := vp_in_of (z_in h0 (fun z => absurd h1 (Int32.not_lt.mpr z)) (by decide)) (by decide)
  match k, hk with
  | 0, _ => exact Or.inl rfl
  | 1, _ => exact Or.inr rfl
theorem z_r3 {r : Int32} (h0 : ¬ r < 0) (h1 : r < Int32.ofNat 3) : r = 0 ∨ r = 1 ∨ r = 2 := by
  obtain ⟨k, hk, rfl⟩ := vp_in_of (z_in h0 (fun z => absurd h1 (Int32.not_lt.mpr z)) (by decide)) (by decide)
  match k, hk with
  | 0, _ => exact Or.inl rfl
  | 1, _ => exact Or.inr (Or.inl rfl)
  | 2, _ => exact Or.inr (Or.inr rfl)
end ZCW
