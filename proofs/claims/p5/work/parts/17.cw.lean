section ZM0
section ZCW
abbrev z_cw (rf : Int32) (kn : Int32) (ma : Int32) (xa : Bool) (fa : Nat → Int32) (ca : Nat → Int32) (mb : Int32) (xb : Bool) (fb : Nat → Int32) (cb : Nat → Int32) (mt : Int32) (xt : Bool) (ft : Nat → Int32) (ct : Nat → Int32) (f0 : Nat → Int32) (g0 : Nat → Int32) (c0 : Nat → Int32) (m0 : Int32) (s0 : Int32) (f1 : Nat → Int32) (g1 : Nat → Int32) (c1 : Nat → Int32) (m1 : Int32) (s1 : Int32) (f2 : Nat → Int32) (g2 : Nat → Int32) (c2 : Nat → Int32) (m2 : Int32) (s2 : Int32) (f3 : Nat → Int32) (g3 : Nat → Int32) (c3 : Nat → Int32) (m3 : Int32) (s3 : Int32) (f4 : Nat → Int32) (g4 : Nat → Int32) (c4 : Nat → Int32) (m4 : Int32) (s4 : Int32) (f5 : Nat → Int32) (g5 : Nat → Int32) (c5 : Nat → Int32) (m5 : Int32) (s5 : Int32) (ek0 : Int32) (em0 : Int32) (es0 : Int32) (el0 : Int32) (b0 : Int32) (ef0 : Nat → Int32) (ek1 : Int32) (em1 : Int32) (es1 : Int32) (el1 : Int32) (b1 : Int32) (ef1 : Nat → Int32) (X : List z_E) : List z_E := [.inr (12, [.ref 1, .ref 10, .ref 15, .ref 26, .ref 31, .ref 35, .ref 40, .int rf, .int kn]), .inl (4, 2, z_u (z_u (fun _ => .null) 0 (.ref 2)) 1 (.ref 6)), .inr (6, [.ref 3, .ref 4, .int ma, .int (z_bi xa)]), z_ia 12 fa, .inr (11, [.ref 5]), z_ia 7 ca, .inr (6, [.ref 7, .ref 8, .int mb, .int (z_bi xb)]), z_ia 12 fb, .inr (11, [.ref 9]), z_ia 7 cb, .inr (9, [.int s0, .ref 11, .ref 12, .ref 13, .int m0]), z_ia 20 f0, z_ia 20 g0, .inr (11, [.ref 14]), z_ia 7 c0, .inl (5, 3, z_u (z_u (z_u (fun _ => .null) 0 (.ref 10)) 1 (.ref 16)) 2 (.ref 21)), .inr (9, [.int s1, .ref 17, .ref 18, .ref 19, .int m1]), z_ia 20 f1, z_ia 20 g1, .inr (11, [.ref 20]), z_ia 7 c1, .inr (9, [.int s2, .ref 22, .ref 23, .ref 24, .int m2]), z_ia 20 f2, z_ia 20 g2, .inr (11, [.ref 25]), z_ia 7 c2, .inl (6, 2, z_u (z_u (fun _ => .null) 0 (.ref 27)) 1 (.ref 29)), .inr (5, [.ref 28, .int ek0, .int em0, .int es0, .int el0, .int b0]), z_ia 10 ef0, .inr (5, [.ref 30, .int ek1, .int em1, .int es1, .int el1, .int b1]), z_ia 10 ef1, .inr (6, [.ref 32, .ref 33, .int mt, .int (z_bi xt)]), z_ia 12 ft, .inr (11, [.ref 34]), z_ia 7 ct, .inr (9, [.int s3, .ref 36, .ref 37, .ref 38, .int m3]), z_ia 20 f3, z_ia 20 g3, .inr (11, [.ref 39]), z_ia 7 c3, .inl (5, 3, z_u (z_u (z_u (fun _ => .null) 0 (.ref 35)) 1 (.ref 41)) 2 (.ref 46)), .inr (9, [.int s4, .ref 42, .ref 43, .ref 44, .int m4]), z_ia 20 f4, z_ia 20 g4, .inr (11, [.ref 45]), z_ia 7 c4, .inr (9, [.int s5, .ref 47, .ref 48, .ref 49, .int m5]), z_ia 20 f5, z_ia 20 g5, .inr (11, [.ref 50]), z_ia 7 c5] ++ X
def z_Wk (kn : Int32) (xa xb : Bool) (b0 b1 : Int32) (L : List z_E) : Prop := ∃ (rf : Int32) (ma : Int32) (fa : Nat → Int32) (ca : Nat → Int32) (mb : Int32) (fb : Nat → Int32) (cb : Nat → Int32) (mt : Int32) (xt : Bool) (ft : Nat → Int32) (ct : Nat → Int32) (f0 : Nat → Int32) (g0 : Nat → Int32) (c0 : Nat → Int32) (m0 : Int32) (s0 : Int32) (f1 : Nat → Int32) (g1 : Nat → Int32) (c1 : Nat → Int32) (m1 : Int32) (s1 : Int32) (f2 : Nat → Int32) (g2 : Nat → Int32) (c2 : Nat → Int32) (m2 : Int32) (s2 : Int32) (f3 : Nat → Int32) (g3 : Nat → Int32) (c3 : Nat → Int32) (m3 : Int32) (s3 : Int32) (f4 : Nat → Int32) (g4 : Nat → Int32) (c4 : Nat → Int32) (m4 : Int32) (s4 : Int32) (f5 : Nat → Int32) (g5 : Nat → Int32) (c5 : Nat → Int32) (m5 : Int32) (s5 : Int32) (ek0 : Int32) (em0 : Int32) (es0 : Int32) (el0 : Int32) (ef0 : Nat → Int32) (ek1 : Int32) (em1 : Int32) (es1 : Int32) (el1 : Int32) (ef1 : Nat → Int32), z_m20 m0 ∧ z_m20 m1 ∧ z_m20 m2 ∧ z_m20 m3 ∧ z_m20 m4 ∧ z_m20 m5 ∧ L = z_cw rf kn ma xa fa ca mb xb fb cb mt xt ft ct f0 g0 c0 m0 s0 f1 g1 c1 m1 s1 f2 g2 c2 m2 s2 f3 g3 c3 m3 s3 f4 g4 c4 m4 s4 f5 g5 c5 m5 s5 ek0 em0 es0 el0 b0 ef0 ek1 em1 es1 el1 b1 ef1 []
theorem z_wk {rf : Int32} {kn : Int32} {ma : Int32} {xa : Bool} {fa : Nat → Int32} {ca : Nat → Int32} {mb : Int32} {xb : Bool} {fb : Nat → Int32} {cb : Nat → Int32} {mt : Int32} {xt : Bool} {ft : Nat → Int32} {ct : Nat → Int32} {f0 : Nat → Int32} {g0 : Nat → Int32} {c0 : Nat → Int32} {m0 : Int32} {s0 : Int32} {f1 : Nat → Int32} {g1 : Nat → Int32} {c1 : Nat → Int32} {m1 : Int32} {s1 : Int32} {f2 : Nat → Int32} {g2 : Nat → Int32} {c2 : Nat → Int32} {m2 : Int32} {s2 : Int32} {f3 : Nat → Int32} {g3 : Nat → Int32} {c3 : Nat → Int32} {m3 : Int32} {s3 : Int32} {f4 : Nat → Int32} {g4 : Nat → Int32} {c4 : Nat → Int32} {m4 : Int32} {s4 : Int32} {f5 : Nat → Int32} {g5 : Nat → Int32} {c5 : Nat → Int32} {m5 : Int32} {s5 : Int32} {ek0 : Int32} {em0 : Int32} {es0 : Int32} {el0 : Int32} {b0 : Int32} {ef0 : Nat → Int32} {ek1 : Int32} {em1 : Int32} {es1 : Int32} {el1 : Int32} {b1 : Int32} {ef1 : Nat → Int32} (h0 : z_m20 m0) (h1 : z_m20 m1) (h2 : z_m20 m2) (h3 : z_m20 m3) (h4 : z_m20 m4) (h5 : z_m20 m5) : z_Wk kn xa xb b0 b1 (z_cw rf kn ma xa fa ca mb xb fb cb mt xt ft ct f0 g0 c0 m0 s0 f1 g1 c1 m1 s1 f2 g2 c2 m2 s2 f3 g3 c3 m3 s3 f4 g4 c4 m4 s4 f5 g5 c5 m5 s5 ek0 em0 es0 el0 b0 ef0 ek1 em1 es1 el1 b1 ef1 []) := ⟨_, _, _, _, _, _, _, _, _, _, _, _, _, _, _, _, _, _, _, _, _, _, _, _, _, _, _, _, _, _, _, _, _, _, _, _, _, _, _, _, _, _, _, _, _, _, _, _, _, _, _, h0, h1, h2, h3, h4, h5, rfl⟩
theorem z_c2 {n a b k : Nat} (ha : a < n) (hb : b < n) : z_cE n (.inl (k, 2, z_u (z_u (fun _ => .null) 0 (.ref a)) 1 (.ref b))) := fun j hj => by
  match j, hj with
  | 0, _ => exact ha
  | 1, _ => exact hb
theorem z_c3 {n a b c k : Nat} (ha : a < n) (hb : b < n) (hc : c < n) : z_cE n (.inl (k, 3, z_u (z_u (z_u (fun _ => .null) 0 (.ref a)) 1 (.ref b)) 2 (.ref c))) := fun j hj => by
  match j, hj with
  | 0, _ => exact ha
  | 1, _ => exact hb
  | 2, _ => exact hc
set_option maxRecDepth 100000 in
theorem z_cwc {rf : Int32} {kn : Int32} {ma : Int32} {xa : Bool} {fa : Nat → Int32} {ca : Nat → Int32} {mb : Int32} {xb : Bool} {fb : Nat → Int32} {cb : Nat → Int32} {mt : Int32} {xt : Bool} {ft : Nat → Int32} {ct : Nat → Int32} {f0 : Nat → Int32} {g0 : Nat → Int32} {c0 : Nat → Int32} {m0 : Int32} {s0 : Int32} {f1 : Nat → Int32} {g1 : Nat → Int32} {c1 : Nat → Int32} {m1 : Int32} {s1 : Int32} {f2 : Nat → Int32} {g2 : Nat → Int32} {c2 : Nat → Int32} {m2 : Int32} {s2 : Int32} {f3 : Nat → Int32} {g3 : Nat → Int32} {c3 : Nat → Int32} {m3 : Int32} {s3 : Int32} {f4 : Nat → Int32} {g4 : Nat → Int32} {c4 : Nat → Int32} {m4 : Int32} {s4 : Int32} {f5 : Nat → Int32} {g5 : Nat → Int32} {c5 : Nat → Int32} {m5 : Int32} {s5 : Int32} {ek0 : Int32} {em0 : Int32} {es0 : Int32} {el0 : Int32} {b0 : Int32} {ef0 : Nat → Int32} {ek1 : Int32} {em1 : Int32} {es1 : Int32} {el1 : Int32} {b1 : Int32} {ef1 : Nat → Int32} : z_cL 51 (z_cw rf kn ma xa fa ca mb xb fb cb mt xt ft ct f0 g0 c0 m0 s0 f1 g1 c1 m1 s1 f2 g2 c2 m2 s2 f3 g3 c3 m3 s3 f4 g4 c4 m4 s4 f5 g5 c5 m5 s5 ek0 em0 es0 el0 b0 ef0 ek1 em1 es1 el1 b1 ef1 []) := ⟨(z_cEc (Nat.le_of_ble_eq_true rfl : _ < 51) (z_cEc (Nat.le_of_ble_eq_true rfl : _ < 51) (z_cEc (Nat.le_of_ble_eq_true rfl : _ < 51) (z_cEc (Nat.le_of_ble_eq_true rfl : _ < 51) (z_cEc (Nat.le_of_ble_eq_true rfl : _ < 51) (z_cEc (Nat.le_of_ble_eq_true rfl : _ < 51) (z_cEc (Nat.le_of_ble_eq_true rfl : _ < 51) (z_cEc trivial (z_cEc trivial z_cE0))))))))), (z_c2 (Nat.le_of_ble_eq_true rfl) (Nat.le_of_ble_eq_true rfl)), (z_cEc (Nat.le_of_ble_eq_true rfl : _ < 51) (z_cEc (Nat.le_of_ble_eq_true rfl : _ < 51) (z_cEc trivial (z_cEc trivial z_cE0)))), z_cia, (z_cEc (Nat.le_of_ble_eq_true rfl : _ < 51) z_cE0), z_cia, (z_cEc (Nat.le_of_ble_eq_true rfl : _ < 51) (z_cEc (Nat.le_of_ble_eq_true rfl : _ < 51) (z_cEc trivial (z_cEc trivial z_cE0)))), z_cia, (z_cEc (Nat.le_of_ble_eq_true rfl : _ < 51) z_cE0), z_cia, (z_cEc trivial (z_cEc (Nat.le_of_ble_eq_true rfl : _ < 51) (z_cEc (Nat.le_of_ble_eq_true rfl : _ < 51) (z_cEc (Nat.le_of_ble_eq_true rfl : _ < 51) (z_cEc trivial z_cE0))))), z_cia, z_cia, (z_cEc (Nat.le_of_ble_eq_true rfl : _ < 51) z_cE0), z_cia, (z_c3 (Nat.le_of_ble_eq_true rfl) (Nat.le_of_ble_eq_true rfl) (Nat.le_of_ble_eq_true rfl)), (z_cEc trivial (z_cEc (Nat.le_of_ble_eq_true rfl : _ < 51) (z_cEc (Nat.le_of_ble_eq_true rfl : _ < 51) (z_cEc (Nat.le_of_ble_eq_true rfl : _ < 51) (z_cEc trivial z_cE0))))), z_cia, z_cia, (z_cEc (Nat.le_of_ble_eq_true rfl : _ < 51) z_cE0), z_cia, (z_cEc trivial (z_cEc (Nat.le_of_ble_eq_true rfl : _ < 51) (z_cEc (Nat.le_of_ble_eq_true rfl : _ < 51) (z_cEc (Nat.le_of_ble_eq_true rfl : _ < 51) (z_cEc trivial z_cE0))))), z_cia, z_cia, (z_cEc (Nat.le_of_ble_eq_true rfl : _ < 51) z_cE0), z_cia, (z_c2 (Nat.le_of_ble_eq_true rfl) (Nat.le_of_ble_eq_true rfl)), (z_cEc (Nat.le_of_ble_eq_true rfl : _ < 51) (z_cEc trivial (z_cEc trivial (z_cEc trivial (z_cEc trivial (z_cEc trivial z_cE0)))))), z_cia, (z_cEc (Nat.le_of_ble_eq_true rfl : _ < 51) (z_cEc trivial (z_cEc trivial (z_cEc trivial (z_cEc trivial (z_cEc trivial z_cE0)))))), z_cia, (z_cEc (Nat.le_of_ble_eq_true rfl : _ < 51) (z_cEc (Nat.le_of_ble_eq_true rfl : _ < 51) (z_cEc trivial (z_cEc trivial z_cE0)))), z_cia, (z_cEc (Nat.le_of_ble_eq_true rfl : _ < 51) z_cE0), z_cia, (z_cEc trivial (z_cEc (Nat.le_of_ble_eq_true rfl : _ < 51) (z_cEc (Nat.le_of_ble_eq_true rfl : _ < 51) (z_cEc (Nat.le_of_ble_eq_true rfl : _ < 51) (z_cEc trivial z_cE0))))), z_cia, z_cia, (z_cEc (Nat.le_of_ble_eq_true rfl : _ < 51) z_cE0), z_cia, (z_c3 (Nat.le_of_ble_eq_true rfl) (Nat.le_of_ble_eq_true rfl) (Nat.le_of_ble_eq_true rfl)), (z_cEc trivial (z_cEc (Nat.le_of_ble_eq_true rfl : _ < 51) (z_cEc (Nat.le_of_ble_eq_true rfl : _ < 51) (z_cEc (Nat.le_of_ble_eq_true rfl : _ < 51) (z_cEc trivial z_cE0))))), z_cia, z_cia, (z_cEc (Nat.le_of_ble_eq_true rfl : _ < 51) z_cE0), z_cia, (z_cEc trivial (z_cEc (Nat.le_of_ble_eq_true rfl : _ < 51) (z_cEc (Nat.le_of_ble_eq_true rfl : _ < 51) (z_cEc (Nat.le_of_ble_eq_true rfl : _ < 51) (z_cEc trivial z_cE0))))), z_cia, z_cia, (z_cEc (Nat.le_of_ble_eq_true rfl : _ < 51) z_cE0), z_cia, trivial⟩
def z_cVb (n : Nat) (v : Value) : Bool := match v with
  | .ref a => Nat.blt a n
  | _ => true
def z_stb (n : Nat) : List Value → Bool
  | [] => true
  | v :: t => z_cVb n v && z_stb n t
theorem z_cVt {n : Nat} {v : Value} (h : z_cVb n v = true) : z_cV n v := by
  cases v with
  | ref a => exact Nat.le_of_ble_eq_true h
  | int x => exact trivial
  | long x => exact trivial
  | null => exact trivial
  | float b => exact trivial
  | double b => exact trivial
  | retAddr k => exact trivial
theorem z_stc {n : Nat} : ∀ {st : List Value}, z_stb n st = true → ∀ v ∈ st, z_cV n v
  | [], _, _, h => by cases h
  | a :: t, h, v, hv => by
    unfold z_stb at h
    rw [Bool.and_eq_true] at h
    rcases List.mem_cons.mp hv with rfl | hv
    · exact z_cVt h.1
    · exact z_stc h.2 v hv
def z_lob (n : Nat) : List (Nat × Value) → Bool
  | [] => true
  | q :: t => z_cVb n q.2 && z_lob n t
theorem z_LLc {P P' : Value → Value → Prop} {n : Nat} (hP : ∀ a b, z_cV n a → P a b → P' a b) : ∀ {as bs : List (Nat × Value)}, z_lob n as = true → z_LL P as bs → z_LL P' as bs
  | [], [], _, _ => trivial
  | [], _ :: _, _, h => h.elim
  | _ :: _, [], _, h => h.elim
  | a :: as, b :: bs, h9, h => by
    unfold z_lob at h9
    rw [Bool.and_eq_true] at h9
    exact ⟨⟨h.1.1, hP _ _ (z_cVt h9.1) h.1.2⟩, z_LLc hP (as := as) (bs := bs) h9.2 h.2⟩
theorem j_dropL {G : z_G} {l : Launch} {y : z_M} {S : z_S} {pc n : Nat} {lo : List (Nat × Value)} {st : List Value} {L L0 : List z_E} {kc ks : Nat} (hL0 : S.2.2.2.1 = (L0, z_no)) (hn : L0.length ≤ n) (hn2 : n ≤ 1000) (hl2 : n ≤ L.length) (hc : z_cL n (L.take n)) (hst : z_stb n st = true) (hlb : z_lob n lo = true) (h : z_J G l y S pc lo st (L.take n, z_no) kc ks) : z_J G l y S pc lo st (L, z_no) kc ks := by
  intro p e s m args below meth c R0 hok R H locs ls cst hat hlo hst0
  have hd : ∀ k, z_d (L.take n, z_no) k ↔ k < n := by
    intro k
    constructor
    · intro ⟨e9, he9⟩
      have h1 := (List.getElem?_eq_some_iff.mp (z_gL he9)).1
      rw [List.length_take] at h1
      omega
    · intro hk
      have h1 : k < (L.take n).length := by rw [List.length_take]; omega
      exact ⟨_, z_Lg' (by rw [List.length_take]; omega) (List.getElem?_eq_getElem h1)⟩
  have hge : ∀ k e9, z_g (L.take n, z_no) k = some e9 → z_g (L, z_no) k = some e9 := by
    intro k e9 he9
    have hk := (hd k).mp ⟨_, he9⟩
    have h1 := z_gL he9
    rw [List.getElem?_take_of_lt hk] at h1
    show cond (Nat.blt k 1000) L[k]? (z_no k) = _
    rw [z_blt (by omega)]
    exact h1
  have hdd : ∀ k, z_d (L.take n, z_no) k → z_d (L, z_no) k := fun k ⟨e9, he9⟩ => ⟨e9, hge k e9 he9⟩
  have hv : ∀ v c, z_cV n v → z_V G R (L, z_no) v c → z_V G R (L.take n, z_no) v c := by
    intro v c hc9 hv
    cases v with
    | int x => exact hv
    | long x => exact hv
    | null => exact hv
    | float b => exact hv
    | retAddr k => exact hv
    | double b => exact hv
    | ref a => exact ⟨(hd a).mpr hc9, hv.2⟩
  have hvl : ∀ (as bs : List Value), (∀ v ∈ as, z_cV n v) → z_L (z_V G R (L, z_no)) as bs → z_L (z_V G R (L.take n, z_no)) as bs := by
    intro as
    induction as with
    | nil =>
      intro bs _ h9
      cases bs with
      | nil => exact trivial
      | cons b bs => exact h9.elim
    | cons a as ih =>
      intro bs h8 h9
      cases bs with
      | nil => exact h9.elim
      | cons b bs => exact ⟨hv _ _ (h8 a List.mem_cons_self) h9.1, ih bs (fun v hv9 => h8 v (List.mem_cons_of_mem _ hv9)) h9.2⟩
  obtain ⟨hP, hT, hF⟩ := hat
  have hat2 : z_at G S R0 s R (L.take n, z_no) H locs := by
    refine ⟨⟨fun k e9 he9 => ?_, fun a b ha hb hab => hP.2.1 a b (hdd a ha) (hdd b hb) hab, fun q b hq => ⟨(hP.2.2 q b hq).1, fun k hk => (hP.2.2 q b hq).2 k (hdd k hk)⟩⟩, ⟨fun k hk => ⟨?_, (hT.1 k hk).2⟩, hT.2.1, fun k hk hno => hT.2.2.1 k (hdd k hk) hno, hT.2.2.2⟩, hF⟩
    · obtain ⟨h3, h4⟩ := hP.1 k e9 (hge k e9 he9)
      refine ⟨?_, h4⟩
      have hce : z_cE n e9 := z_cLm hc e9 (List.mem_of_getElem? (z_gL he9))
      cases e9 with
      | inl x =>
        obtain ⟨z, z1, z2⟩ := h3
        exact ⟨z, z1, fun j hj => hv _ _ (hce j hj) (z2 j hj)⟩
      | inr o =>
        obtain ⟨q, gs, x1, x2, x3, x4⟩ := h3
        exact ⟨q, gs, x1, x2, x3, hvl _ _ hce x4⟩
    · rw [hL0] at hk
      obtain ⟨e9, he9⟩ := hk
      have h1 := (List.getElem?_eq_some_iff.mp (z_gL he9)).1
      exact (hd k).mpr (by omega)
  obtain ⟨clo, h1, h2⟩ := hlo
  exact h p e s m args below meth c R0 hok R H locs ls cst hat2 ⟨clo, h1, z_LLc hv hlb h2⟩ (hvl _ _ (z_stc hst) hst0)
theorem z_r2 {r : Int32} (h0 : ¬ r < 0) (h1 : r < Int32.ofNat 2) : r = 0 ∨ r = 1 := by
  obtain ⟨k, hk, rfl⟩ := vp_in_of (z_in h0 (fun z => absurd h1 (Int32.not_lt.mpr z)) (by decide)) (by decide)
  match k, hk with
  | 0, _ => exact Or.inl rfl
  | 1, _ => exact Or.inr rfl
theorem z_r3 {r : Int32} (h0 : ¬ r < 0) (h1 : r < Int32.ofNat 3) : r = 0 ∨ r = 1 ∨ r = 2 := by
  obtain ⟨k, hk, rfl⟩ := vp_in_of (z_in h0 (fun z => absurd h1 (Int32.not_lt.mpr z)) (by decide)) (by decide)
  match k, hk with
  | 0, _ => exact Or.inl rfl
  | 1, _ => exact Or.inr (Or.inl rfl)
  | 2, _ => exact Or.inr (Or.inr rfl)
end ZCW
end ZM0
section ZM1
section ZJK
variable {G : z_G} {l : Launch} {y : z_M} {S : z_S} {pc : Nat} {lo : List (Nat × Value)} {st : List Value} {w w' : z_W} {kc ks : Nat}
theorem z_fS {R0 R : z_R} {s : State} {p : Program} {m : MethodId} {args : Array Value} {meth : Method} {c : Code} {H : Heap} {locs : List Loc} (hok : z_ok G l y S p s m args meth c R0) (hat : z_at G S R0 s R w H locs) : va_S (fun q => z_b G ≤ q) s.heap H locs :=
  ⟨hat.2.2.1, fun q hq hA => hat.2.2.2.1 q hq (fun z => hA (z_hA hok q z)), hat.2.2.2.2⟩
theorem z_okc {R0 : z_R} {s : State} {p : Program} {m : MethodId} {args : Array Value} {meth : Method} {c : Code} (hok : z_ok G l y S p s m args meth c R0) : z_cst G s := hok.2.2.2.2.2.2.2.1.2.2.2.2.2.2.2
def z_cvb (v : Value) : Bool := match v with
  | .int _ => true
  | .retAddr _ => true
  | _ => false
theorem z_cvV {R : z_R} {v c : Value} (hb : z_cvb v = true) (h : z_cv G v c) : z_V G R w v c := by
  cases v with
  | int x => exact h
  | retAddr k => exact h
  | long x => exact Bool.noConfusion hb
  | null => exact Bool.noConfusion hb
  | ref n => exact Bool.noConfusion hb
  | float b => exact Bool.noConfusion hb
  | double b => exact Bool.noConfusion hb
theorem j_gets {idx : Nat} {x : String × String × String × Value} (hd : decode y.2.1 pc = .ok (.getstatic idx, 3)) (hx9 : x ∈ z_zst) (hcb : z_cvb x.2.2.2 = true) (hl : Cond.fieldLink y.1.cls idx x.1 x.2.1 x.2.2.1 ∈ z_tbl) (h : z_J G l y S (pc + 3) lo (x.2.2.2 :: st) w kc ks) : z_J G l y S pc lo st w kc ks := by
  intro p e s m args below meth c R0 hok R H locs ls cst hat hlo hst
  obtain ⟨v, hv, hz⟩ := (z_okc hok).2.2.1 x hx9
  exact va_gets hok.1 hok.2.1 hz (z_fS hok hat) hok.2.2.2.2.2.1 (hok.2.2.2.2.2.2.1 _ hl) (fun _ h => h) hd (h p e s m args below meth c R0 hok R H locs ls (v :: cst) hat hlo ⟨z_cvV hcb hv, hst⟩)
theorem j_alenK {k N : Nat} {ty : FieldType} (hd : decode y.2.1 pc = .ok (.arraylength, 1)) (hT : ∀ (U : State) (q : Nat), z_cst G U → z_k G k q → ∃ f, z_vT G ty q N f U) (h : z_J G l y S (pc + 1) lo (.int (Int32.ofNat N) :: st) w kc ks) : z_J G l y S pc lo (.retAddr k :: st) w kc ks := by
  intro p e s m args below meth c R0 hok R H locs ls cst hat hlo hst
  obtain ⟨c1, cs1, rfl, ⟨q, h1, hk⟩, hst1⟩ := z_Lc hst
  subst h1
  obtain ⟨f, hf⟩ := hT s q (z_okc hok) hk
  obtain ⟨cell, a1, a2, a3, a4, a5, -⟩ := hf.kept (z_fS hok hat).2.1
  exact W.alen (n := Int32.ofNat N) hok.1 hok.2.1 a1 a2 a5 rfl rfl hd (h p e s m args below meth c R0 hok R H locs ls _ hat hlo ⟨rfl, hst1⟩)
theorem z_clt {i : Int32} {n N : Nat} (hin : vp_in i N) (hn : N ≤ n) : ¬ (i < 0 ∨ n ≤ i.toNatClampNeg) := fun z => by
  rcases z with z | z
  · exact hin (Or.inl z)
  · exact hin (Or.inr (Nat.le_trans hn z))
theorem j_baldK {k N : Nat} {i : Int32} (hd : decode y.2.1 pc = .ok (.baload, 1)) (hT : ∀ (U : State) (q : Nat), z_cst G U → z_k G k q → ∃ f, z_vT G .byte q N f U ∧ ∀ j, j < N → ∃ x, f j = .int x) (hin : vp_in i N) (h : ∀ x : Int32, z_J G l y S (pc + 1) lo (.int x :: st) w kc ks) : z_J G l y S pc lo (.int i :: .retAddr k :: st) w kc ks := by
  intro p e9 s m args below meth c R0 hok R H locs ls cst hat hlo hst
  obtain ⟨c0, cs0, rfl, h0, hst0⟩ := z_Lc hst
  have h0 : c0 = .int i := h0
  subst h0
  obtain ⟨c1, cs1, rfl, ⟨q, h1, hk⟩, hst1⟩ := z_Lc hst0
  subst h1
  obtain ⟨f, hf, hx⟩ := hT s q (z_okc hok) hk
  obtain ⟨cell, a1, a2, a3, a4, a5, a6, -⟩ := hf.kept (z_fS hok hat).2.1
  have hlt : i.toNatClampNeg < N := Nat.not_le.mp (fun z => hin (Or.inr z))
  obtain ⟨x, e⟩ := hx _ hlt
  exact W.bald hok.1 hok.2.1 a1 a2 a3 (z_clt hin a4) (by rw [a6 _ hlt, e]) rfl rfl hd (h x p e9 s m args below meth c R0 hok R H locs ls _ hat hlo ⟨rfl, hst1⟩)
theorem j_aaldC {i : Int32} (hd : decode y.2.1 pc = .ok (.aaload, 1)) (hin : vp_in i 256) (h : z_J G l y S (pc + 1) lo (.float (z_cn i.toNatClampNeg) :: st) w kc ks) : z_J G l y S pc lo (.int i :: .retAddr 2 :: st) w kc ks := by
  intro p e s m args below meth c R0 hok R H locs ls cst hat hlo hst
  obtain ⟨c0, cs0, rfl, h0, hst0⟩ := z_Lc hst
  have h0 : c0 = .int i := h0
  subst h0
  obtain ⟨c1, cs1, rfl, ⟨q, h1, hk⟩, hst1⟩ := z_Lc hst0
  subst h1
  obtain ⟨f, hf, hx⟩ := (z_okc hok).2.2.2.2.1 q hk
  obtain ⟨cell, a1, a2, a3, a4, a5, a6, -⟩ := hf.kept (z_fS hok hat).2.1
  have hlt : i.toNatClampNeg < 256 := Nat.not_le.mp (fun z => hin (Or.inr z))
  obtain ⟨r, er, hr⟩ := hx _ hlt
  exact W.aald (ty := .object "java/lang/Integer") hok.1 hok.2.1 a1 a2 rfl a3 (z_clt hin a4) (by rw [a6 _ hlt, er]) rfl rfl hd (h p e s m args below meth c R0 hok R H locs ls _ hat hlo ⟨⟨r, rfl, Or.inr ⟨_, hlt, hr, rfl⟩⟩, hst1⟩)
theorem z_box {R0 R : z_R} {s : State} {p : Program} {m : MethodId} {args : Array Value} {meth : Method} {c : Code} {H : Heap} {locs : List Loc} {q : Nat} {b : UInt32} (hok : z_ok G l y S p s m args meth c R0) (hat : z_at G S R0 s R w H locs) (h : R.2 q = some b ∨ z_cb G q b) : z_OB q (z_dC G 2) 1 (z_dI G 2) H (fun _ => .int b.toInt32) := by
  rcases h with h | ⟨j, hj, hk, rfl⟩
  · exact z_OB.of (hat.1.2.2 q b h).1
  · obtain ⟨cell, h1, h2⟩ := (z_okc hok).2.2.2.2.2.2.1 j q hj hk
    exact ⟨cell, by rw [(z_fS hok hat).2.1 q (Array.getElem?_eq_some_iff.mp h1).1 ((z_okc hok).2.1 _ _ (Or.inr (by omega)) hk)]; exact h1, h2⟩
theorem j_getB {idx : Nat} {b : UInt32} (hd : decode y.2.1 pc = .ok (.getfield idx, 3)) (hF : z_F y.1.cls idx 2 0) (h : z_J G l y S (pc + 3) lo (.int b.toInt32 :: st) w kc ks) : z_J G l y S pc lo (.float b :: st) w kc ks := by
  intro p e s m args below meth c R0 hok R H locs ls cst hat hlo hst
  obtain ⟨c1, cs1, rfl, ⟨a, h1, hbx⟩, hst1⟩ := z_Lc hst
  subst h1
  obtain ⟨cell, o1, o2, o3, o4⟩ := z_box hok hat hbx
  obtain ⟨q', ref, f1, f2, f3, f4, f5⟩ := hF
  have kk := h p e s m args below meth c R0 hok R H locs ls (.int b.toInt32 :: cs1) hat hlo ⟨rfl, hst1⟩
  obtain ⟨hx, hb, -, -, -, hown, hts, henv, -⟩ := hok
  obtain ⟨hS, hfc, kC, hkC, hkind⟩ := henv.1 2 _ f1
  obtain ⟨cf, kf, fi, f, hi, hsl⟩ := hS 0 f2
  have hsta := (u_facts hfc hkC (u_lays (ws := z_tbl) hts f3 f2) hi).1
  have hi2 : s.fieldFound? ref (q'.2.1 0).2.1 (q'.2.1 0).2.2.1 = some (cf, kf, fi, f) := by
    rcases f5 with z | z
    · rw [← z]; exact hi
    · exact u_same (hts _ z) _ hi
  have hsv : cell.slots[f.slot]? = some (.int b.toInt32) := by
    rw [hsl]
    exact o4 0 (by decide)
  rcases f4 with f4 | ⟨host, f4⟩
  · exact W.getf hx hb hown (hts _ f4) hi2 hsta o1 o3.2 hsv rfl rfl hd kk
  · exact va_Wgetf hx hb hown (va_Nw.use (w := Cond.fieldLinkNest y.1.cls idx ref (q'.2.1 0).2.1 (q'.2.1 0).2.2.1 host) rfl (henv.2.2.1 _ f4)) hi2 hsta o1 o3.2 hsv rfl rfl hd kk
theorem j_ldcS {i idx : Nat} {t : String × Nat × String} (hd : decode y.2.1 pc = .ok (.ldc idx, 2)) (hi : z_strs[i]? = some t) (ht : t.1 = "LoopdefaultsModel" ∨ t.1 = "LoopdefaultsModel$Hearer") (h1 : t.1 = y.1.cls) (h2 : t.2.1 = idx) (h : z_J G l y S (pc + 2) lo (.retAddr (10 + i) :: st) w kc ks) : z_J G l y S pc lo st w kc ks := by
  intro p e s m args below meth c R0 hok R H locs ls cst hat hlo hst
  obtain ⟨a, bq, ha, -, hR, -⟩ := (z_okc hok).2.2.2.2.2.2.2.2.1 i t hi ht
  subst h2
  rw [h1] at hR
  exact va_ldcS hok.1 hok.2.1 hok.2.2.2.2.2.1 hR hd (h p e s m args below meth c R0 hok R H locs ls (.ref a :: cst) hat hlo ⟨⟨a, rfl, ha⟩, hst⟩)
theorem j_ldcM {idx : Nat} (hd : decode y.2.1 pc = .ok (.ldc idx, 2)) (hl : Cond.classLink y.1.cls idx "[Ljava/lang/Object;" ∈ z_tbl) (h : z_J G l y S (pc + 2) lo (.retAddr 6 :: st) w kc ks) : z_J G l y S pc lo st w kc ks := by
  intro p e s m args below meth c R0 hok R H locs ls cst hat hlo hst
  obtain ⟨q, hq, hm⟩ := (z_okc hok).2.2.2.2.2.2.2.1
  exact va_ldcM hok.1 hok.2.1 hok.2.2.2.2.2.1 (hok.2.2.2.2.2.2.1 _ hl) hm hd (h p e s m args below meth c R0 hok R H locs ls (.ref q :: cst) hat hlo ⟨⟨q, rfl, hq⟩, hst⟩)
end ZJK
end ZM1
section ZM2
section ZJ2
variable {G : z_G} {l : Launch} {y : z_M} {S : z_S} {pc : Nat} {lo : List (Nat × Value)} {st : List Value} {w w' : z_W} {kc ks : Nat}
def z_is (w : z_W) (v : Value) (C : String) : Prop := match v with
  | .ref n => (∃ (o : Nat × List Value) (q : vw_C), z_g w n = some (.inr o) ∧ z_cls[o.1]? = some q ∧ q.1 = C) ∨ ∃ (x : Nat × Nat × (Nat → Value)) (ty : FieldType), z_g w n = some (.inl x) ∧ z_tyl[x.1]? = some ty ∧ "[" ++ ty.toString = C
  | .float _ => C = "java/lang/Integer"
  | _ => False
theorem z_RAf {U : State} {c : ClassId} {ty : FieldType} (h : va_RA U c ty) : U.vm.findClass ("[" ++ ty.toString) = some c := by
  unfold va_RA at h
  split at h
  · obtain ⟨-, -, -, -, -, h4⟩ := h
    exact h4
  · exact h
theorem z_isC {R0 R : z_R} {s : State} {p : Program} {m : MethodId} {args : Array Value} {meth : Method} {c : Code} {H : Heap} {locs : List Loc} {v : Value} {a : Nat} {C : String} (hok : z_ok G l y S p s m args meth c R0) (hat : z_at G S R0 s R w H locs) (hv : z_V G R w v (.ref a)) (hi : z_is w v C) : ∃ cell : Cell, H[a]? = some cell ∧ cell.vm.isStatics = false ∧ s.vm.findClass C = some cell.cls := by
  have henv := hok.2.2.2.2.2.2.2.1
  cases v with
  | int x => exact hi.elim
  | long x => exact hi.elim
  | null => exact hi.elim
  | retAddr k => exact hi.elim
  | double b => exact hi.elim
  | float b =>
    obtain ⟨q, e, hb⟩ := hv
    cases e
    have hi : C = "java/lang/Integer" := hi
    obtain ⟨cell, g1, g2, g3, -⟩ := z_box hok hat hb
    exact ⟨cell, g1, g3.1, by rw [hi, g2]; exact (henv.1 2 _ rfl).2.1⟩
  | ref n =>
    obtain ⟨-, e⟩ := hv
    cases e
    rcases hi with ⟨o, q, h1, h2, h3⟩ | ⟨x, ty, h1, h2, h3⟩
    · obtain ⟨q', gs, x1, x2, ⟨cell, g1, g2, g3, -⟩, -⟩ := (hat.1.1 n _ h1).1
      exact ⟨cell, g1, by rw [g3]; rfl, by rw [g2, ← h3]; exact (henv.1 o.1 q h2).2.1⟩
    · obtain ⟨z, z1, -⟩ := (hat.1.1 n _ h1).1
      exact ⟨_, z1, rfl, by rw [← h3]; exact z_RAf (henv.2.1 x.1 ty h2).2⟩
theorem z_isR {R : z_R} {v c : Value} {C : String} (hv : z_V G R w v c) (hi : z_is w v C) : ∃ a, c = .ref a := by
  cases v with
  | int x => exact hi.elim
  | long x => exact hi.elim
  | null => exact hi.elim
  | retAddr k => exact hi.elim
  | double b => exact hi.elim
  | float b => obtain ⟨q, e, -⟩ := hv; exact ⟨q, e⟩
  | ref n => exact ⟨_, hv.2⟩
theorem j_castS {idx : Nat} {v : Value} {C : String} (hd : decode y.2.1 pc = .ok (.checkcast idx, 3)) (hl : Cond.classLink y.1.cls idx C ∈ z_tbl) (hi : z_is w v C) (h : z_J G l y S (pc + 3) lo (v :: st) w kc ks) : z_J G l y S pc lo (v :: st) w kc ks := by
  intro p e s m args below meth c R0 hok R H locs ls cst hat hlo hst
  obtain ⟨c1, cs1, rfl, hv, hst1⟩ := z_Lc hst
  obtain ⟨a, rfl⟩ := z_isR hv hi
  obtain ⟨cell, g1, g2, g3⟩ := z_isC hok hat hv hi
  have k := h p e s m args below meth c R0 hok R H locs ls (.ref a :: cs1) hat hlo ⟨hv, hst1⟩
  intro T hT X
  obtain ⟨vm', X', st9⟩ := X.checkcastYes hok.1 hok.2.2.2.2.2.1 (hok.2.2.2.2.2.2.1 _ hl) (by rw [hT]; exact g1) g2 g3 (va_asg _ _) (g := F0 m pc ls (.ref a :: cs1)) rfl rfl (by rw [hok.2.1]; exact hd)
  obtain ⟨t, a1, b1⟩ := k (T.setVm vm') hT X'
  exact ⟨t, st9 t a1, b1⟩
theorem j_castY {idx : Nat} {v : Value} {C nm : String} (hd : decode y.2.1 pc = .ok (.checkcast idx, 3)) (hl : Cond.classLink y.1.cls idx nm ∈ z_tbl) (hc : Cond.castable C nm ∈ z_nst) (hi : z_is w v C) (h : z_J G l y S (pc + 3) lo (v :: st) w kc ks) : z_J G l y S pc lo (v :: st) w kc ks := by
  intro p e s m args below meth c R0 hok R H locs ls cst hat hlo hst
  obtain ⟨c1, cs1, rfl, hv, hst1⟩ := z_Lc hst
  obtain ⟨a, rfl⟩ := z_isR hv hi
  obtain ⟨cell, g1, g2, g3⟩ := z_isC hok hat hv hi
  exact va_castY hok.1 hok.2.1 hok.2.2.2.2.2.1 (hok.2.2.2.2.2.2.1 _ hl) (hok.2.2.2.2.2.2.2.1.2.2.1 _ hc) ⟨cell, g1, g2, g3⟩ hd (h p e s m args below meth c R0 hok R H locs ls (.ref a :: cs1) hat hlo ⟨hv, hst1⟩)
theorem j_aastO {a kd n : Nat} {f : Nat → Value} {v : Value} {C E : String} {i : Int32} (hd : decode y.2.1 pc = .ok (.aastore, 1)) (hg : z_g w a = some (.inl (kd, n, f))) (hk : z_tyl[kd]? = some (.object E)) (hi : z_is w v C) (hc : Cond.castable C E ∈ z_nst) (hin : vp_in i n) (hw : z_s w a (.inl (kd, n, z_u f i.toNatClampNeg v)) = w') (h : z_J G l y S (pc + 1) lo st w' kc ks) : z_J G l y S pc lo (v :: .int i :: .ref a :: st) w kc ks := by
  intro p e s m args below meth c R0 hok R H locs ls cst hat hlo hst
  obtain ⟨c9, cs9, rfl, h9, hst1⟩ := z_Lc hst
  obtain ⟨c0, cs0, rfl, h0, hst2⟩ := z_Lc hst1
  obtain ⟨c1, cs1, rfl, ⟨-, h1⟩, hst3⟩ := z_Lc hst2
  obtain ⟨b, rfl⟩ := z_isR h9 hi
  have h0 : c0 = .int i := h0
  subst h0
  subst h1
  subst hw
  obtain ⟨z, z1, z2⟩ := (hat.1.1 a _ hg).1
  obtain ⟨cellV, g1, g2, g3⟩ := z_isC hok hat h9 hi
  have hok2 := hok
  obtain ⟨hx, hb, -, -, -, hown, hts, henv, -⟩ := hok2
  have hlt : i.toNatClampNeg < n := Nat.not_le.mp fun q => hin (Or.inr q)
  have hi0 : ¬ i < 0 := fun q => hin (Or.inl q)
  obtain ⟨kA, comp, k1, k2, k3, -⟩ := (henv.2.1 kd _ hk).2
  obtain ⟨c5, t5, f1, f2, f3⟩ := Cond.castable_spec (va_Nw.use (A := args) rfl (henv.2.2.1 _ hc))
  cases g3.symm.trans f1
  cases k3.symm.trans f2
  obtain ⟨kC, hkC, -⟩ := Vm.findClass_spec f2
  obtain ⟨kV, hkV, -⟩ := Vm.findClass_spec g3
  refine W.aast hx hb z1 (fun q h => by cases h) (fun h => by cases h) k1 k2 rfl hkC ⟨hi0, by show _ < (arrV _ _ _).slots.size; rw [arrV_size]; exact hlt⟩ g1 (fun q h => by rw [h] at g2; exact absurd (show (true : Bool) = false from g2) (by decide)) hkV f3 rfl rfl hd ?_
  intro H' e1 e2 e3
  exact h p e s m args below meth c R0 hok R H' _ ls cs1 (z_write hat hg e2 e3 (z_Xu (z_Vs hg) z2 h9 e1)) (z_lom (z_Vs hg) hlo) (z_Lm (z_Vs hg) hst3)
end ZJ2
end ZM2
section ZM3
section ZJ3
variable {G : z_G} {l : Launch} {y : z_M} {S : z_S} {pc : Nat} {lo : List (Nat × Value)} {st : List Value} {w w' : z_W} {kc ks : Nat}
theorem j_aastN {a kd n : Nat} {f : Nat → Value} {E : String} {i : Int32} (hd : decode y.2.1 pc = .ok (.aastore, 1)) (hg : z_g w a = some (.inl (kd, n, f))) (hk : z_tyl[kd]? = some (.object E)) (hin : vp_in i n) (hw : z_s w a (.inl (kd, n, z_u f i.toNatClampNeg .null)) = w') (h : z_J G l y S (pc + 1) lo st w' kc ks) : z_J G l y S pc lo (.null :: .int i :: .ref a :: st) w kc ks := by
  intro p e s m args below meth c R0 hok R H locs ls cst hat hlo hst
  obtain ⟨c9, cs9, rfl, h9, hst1⟩ := z_Lc hst
  obtain ⟨c0, cs0, rfl, h0, hst2⟩ := z_Lc hst1
  obtain ⟨c1, cs1, rfl, ⟨-, h1⟩, hst3⟩ := z_Lc hst2
  have h9' : c9 = .null := h9
  have h0 : c0 = .int i := h0
  subst h9'
  subst h0
  subst h1
  subst hw
  obtain ⟨z, z1, z2⟩ := (hat.1.1 a _ hg).1
  have hok2 := hok
  obtain ⟨hx, hb, -, -, -, hown, hts, henv, -⟩ := hok2
  refine va_WaastN hx hb z1 ((henv.2.1 kd _ hk).1 n z) (fun h => by cases h) (by rw [arrV_size]; exact hin) rfl rfl hd ?_
  intro H' e1 e2 e3
  exact h p e s m args below meth c R0 hok R H' _ ls cs1 (z_write hat hg e2 e3 (z_Xu (z_Vs hg) z2 h9 e1)) (z_lom (z_Vs hg) hlo) (z_Lm (z_Vs hg) hst3)
theorem z_nn {z : Int32} (hz : ¬ z < 0) : z.toInt = (z.toNatClampNeg : Int) := by
  have hz0 : (0 : Int) ≤ z.toInt := by
    have := Int32.not_lt.mp hz
    simpa using Int32.le_iff_toInt_le.mp this
  show z.toInt = ((z.toInt.toNat : Nat) : Int)
  omega
theorem z_writeM {R0 R : z_R} {s : State} {H H' : Heap} {locs L : List Loc} {n : Nat} {e0 e : z_E} (hat : z_at G S R0 s R w H locs) (hn : z_g w n = some e0) (h1 : H'.size = H.size) (h2 : ∀ q : Nat, q ≠ R.1 n → H'[q]? = H[q]?) (h3 : z_X G R (z_s w n e) e (R.1 n) H') (hL : ∀ x ∈ L, x.base = R.1 n) : z_at G S R0 s R (z_s w n e) H' (locs ++ L) := by
  have hw := z_write (i := 0) hat hn h1 h2 h3
  refine ⟨hw.1, hw.2.1, hw.2.2.1, hw.2.2.2.1, fun x hx => ?_⟩
  rcases List.mem_append.mp hx with hx | hx
  · exact hat.2.2.2.2 x hx
  · rw [hL x hx]
    exact (hat.1.1 n _ hn).2
theorem z_Xc9 {R : z_R} {w w' : z_W} {kd n0 n1 sp dp k A : Nat} {f g f9 g9 : Nat → Value} {H' : Heap} (hV : ∀ v c, z_V G R w v c → z_V G R w' v c) (hf : ∀ j, j < n0 → z_V G R w (f j) (f9 j)) (hg : ∀ j, j < n1 → z_V G R w (g j) (g9 j)) (hs : sp + k ≤ n0) (he : H'[A]? = some (arrV (z_dA G kd) n1 (va_cpy f9 g9 sp dp k))) : z_X G R w' (.inl (kd, n1, va_cpy f g sp dp k)) A H' := by
  refine ⟨_, he, fun j hj => ?_⟩
  show z_V G R w' (va_cpy f g sp dp k j) (va_cpy f9 g9 sp dp k j)
  unfold va_cpy
  by_cases hc : dp ≤ j ∧ j < dp + k
  · rw [if_pos hc, if_pos hc]
    exact hV _ _ (hf _ (by omega))
  · rw [if_neg hc, if_neg hc]
    exact hV _ _ (hg _ hj)
theorem j_acopy {idx a b kd n0 n1 : Nat} {f g : Nat → Value} {sp dp n : Int32} {ty : FieldType} (hd : decode y.2.1 pc = .ok (.invokestatic idx, 3)) (hl : Cond.methodLink y.1.cls idx arraycopyName ∈ z_tbl) (hnat : Cond.native arraycopyName ∈ z_tbl) (hstat : Cond.static arraycopyName ∈ z_tbl) (hini : Cond.initialized "java/lang/System" ∈ z_tbl)
    (hga : z_g w a = some (.inl (kd, n0, f))) (hgb : z_g w b = some (.inl (kd, n1, g))) (hk : z_tyl[kd]? = some ty) (h1 : ¬ sp < 0) (h2 : ¬ dp < 0) (h3 : ¬ n < 0) (h4 : sp.toNatClampNeg + n.toNatClampNeg ≤ n0) (h5 : dp.toNatClampNeg + n.toNatClampNeg ≤ n1)
    (hel : ∀ i, i < n.toNatClampNeg → (∃ x, f (sp.toNatClampNeg + i) = .int x ∧ fits ty (.int x) = true) ∨ (f (sp.toNatClampNeg + i) = .null ∧ ty.isReference = true) ∨ ∃ C E, ty = .object E ∧ z_is w (f (sp.toNatClampNeg + i)) C ∧ Cond.castable C E ∈ z_nst)
    (hrk : 1 ≤ S.1) (hW : z_cat st ≤ 8) (hw : z_s w b (.inl (kd, n1, va_cpy f g sp.toNatClampNeg dp.toNatClampNeg n.toNatClampNeg)) = w') (h : z_J G l y S (pc + 3) lo st w' kc ks) : z_J G l y S pc lo (.int n :: .int dp :: .ref b :: .int sp :: .ref a :: st) w kc ks := by
  intro p e s m args below meth c R0 hok R H locs ls cst hat hlo hst
  obtain ⟨c9, cs9, rfl, e9, hst1⟩ := z_Lc hst
  obtain ⟨c8, cs8, rfl, e8, hst2⟩ := z_Lc hst1
  obtain ⟨c7, cs7, rfl, ⟨-, e7⟩, hst3⟩ := z_Lc hst2
  obtain ⟨c6, cs6, rfl, e6, hst4⟩ := z_Lc hst3
  obtain ⟨c5, cs5, rfl, ⟨-, e5⟩, hst5⟩ := z_Lc hst4
  have e9 : c9 = .int n := e9
  have e8 : c8 = .int dp := e8
  have e6 : c6 = .int sp := e6
  subst e9 e8 e7 e6 e5
  subst hw
  obtain ⟨za, a1, a2⟩ := (hat.1.1 a _ hga).1
  obtain ⟨zb, b1, b2⟩ := (hat.1.1 b _ hgb).1
  have hok2 := hok
  obtain ⟨hx, hb, -, -, -, hown, hts, henv, -⟩ := hok2
  obtain ⟨-, kA, hkA, cm, hkk⟩ := (henv.2.1 kd _ hk).1 n0 za
  have hsz := hlo.choose_spec.1.1
  have kk := fun (H' : Heap) (L : List Loc) q1 q2 q3 q4 => h p e s m args below meth c R0 hok R H' (locs ++ L) ls cs5 (z_writeM (H' := H') (L := L) hat hgb q1 q2 q3 q4) (z_lom (z_Vs hgb) hlo) (z_Lm (z_Vs hgb) hst5)
  have h8 : 2 * (F0 m pc ls (.int n :: .int dp :: .ref (R.1 b) :: .int sp :: .ref (R.1 a) :: cs5)).monitorRoom + (cs5.map fun v => v.category).sum ≤ 8 := lv_room (by rw [z_Lcs hst5]; exact hW)
  have h40 : 40 ≤ (z_rm S.1 S.2.1 S.2.2.1).locals := by show 40 ≤ 40 * S.1; omega
  have hnw : nativeFrameWords "java/lang/System" "arraycopy" 5 + 11 ≤ 32 := by decide
  intro T hT X
  obtain ⟨vm', X', step⟩ := X.arraycopy hx hown (hts _ hl) (hts _ hnat) (hts _ hstat) (hts _ hini) (src := R.1 a) (dst := R.1 b) (cs := arrV (z_dA G kd) n0 za) (cd := arrV (z_dA G kd) n1 zb) (srcPos := sp) (destPos := dp) (n := n) (by rw [hT]; exact a1) (by rw [hT]; exact b1)
    (fun _ h => by cases h) (fun _ h => by cases h) (fun h => by cases h) (fun h => by cases h) hkA hkA hkk hkk (by simp) h1 h2 h3
    (by rw [z_nn h1, z_nn h3, arrV_size]; omega)
    (by rw [z_nn h2, z_nn h3, arrV_size]; omega)
    (fun vm₁ hal i hi => by
      have hlt : sp.toNatClampNeg + i < n0 := by omega
      have e0 : (arrV (z_dA G kd) n0 za).slots.getD (sp.toNatClampNeg + i) .null = za (sp.toNatClampNeg + i) := by
        rw [Array.getD_eq_getD_getElem?, arrV_read _ _ hlt]
        rfl
      rw [e0]
      have hv := a2 _ hlt
      rcases hel i hi with ⟨x, ex, hf⟩ | ⟨ex, hr⟩ | ⟨C, E, rfl, hi9, hc⟩
      · have hv : z_V G R w (f (sp.toNatClampNeg + i)) (za (sp.toNatClampNeg + i)) := hv
        rw [ex] at hv
        have hv : za (sp.toNatClampNeg + i) = .int x := hv
        rw [hv]
        exact ⟨hf, trivial⟩
      · have hv : z_V G R w (f (sp.toNatClampNeg + i)) (za (sp.toNatClampNeg + i)) := hv
        rw [ex] at hv
        have hv : za (sp.toNatClampNeg + i) = .null := hv
        rw [hv]
        refine ⟨?_, trivial⟩
        cases ty <;> first | rfl | cases hr
      · obtain ⟨q, eq⟩ := z_isR hv hi9
        rw [eq]
        have hv : z_V G R w (f (sp.toNatClampNeg + i)) (za (sp.toNatClampNeg + i)) := hv
        rw [eq] at hv
        obtain ⟨cellV, g1, g2, g3⟩ := z_isC hok hat hv hi9
        obtain ⟨kA9, comp, r1, r2, r3, -⟩ := (henv.2.1 kd _ hk).2
        cases hkA.symm.trans r1
        cases hkk.symm.trans r2
        obtain ⟨c5, t5, f1, f2, f3⟩ := Cond.castable_spec (va_Nw.use (A := args) rfl (henv.2.2.1 _ hc))
        cases g3.symm.trans f1
        cases r3.symm.trans f2
        obtain ⟨kC, hkC, -⟩ := Vm.findClass_spec g3
        obtain ⟨kE, hkE, -⟩ := Vm.findClass_spec r3
        obtain ⟨kC', hkC', -⟩ := hal.2.2 _ _ hkC
        obtain ⟨kE', hkE', -⟩ := hal.2.2 _ _ hkE
        refine ⟨rfl, cellV, (show T.heap[q]? = some cellV by rw [hT]; exact g1), (fun q h => by rw [h] at g2; exact absurd (show (true : Bool) = false from g2) (by decide)), ⟨kC', hkC'⟩, ?_, ?_⟩
        · exact ⟨kE', hkE'⟩
        · show vm₁.assignable _ _ = true
          rw [hal.assignable]
          exact f3)
    (g := F0 m pc ls (.int n :: .int dp :: .ref (R.1 b) :: .int sp :: .ref (R.1 a) :: cs5)) rfl (by rw [← hsz]) (rest := cs5) rfl (by rw [hb]; exact hd) hrk (by omega)
  have e1 : copied (arrV (z_dA G kd) n0 za) (arrV (z_dA G kd) n1 zb) sp dp n = arrV (z_dA G kd) n1 (va_cpy za zb sp.toNatClampNeg dp.toNatClampNeg n.toNatClampNeg) := va_copied (fun z => z) (z_dA G kd) (z_dA G kd) za zb h4
  rw [e1] at X' step
  have hl9 : R.1 b < H.size := (Array.getElem?_eq_some_iff.mp b1).1
  have hheap : ((T.setVm vm').setCell (R.1 b) (arrV (z_dA G kd) n1 (va_cpy za zb sp.toNatClampNeg dp.toNatClampNeg n.toNatClampNeg))).heap = H.setIfInBounds (R.1 b) (arrV (z_dA G kd) n1 (va_cpy za zb sp.toNatClampNeg dp.toNatClampNeg n.toNatClampNeg)) := by rw [← hT]; rfl
  obtain ⟨t, t1, t2⟩ := kk _ _ (by simp) (fun q hq => by simp [Array.getElem?_setIfInBounds, Ne.symm hq]) (z_Xc9 (z_Vs hgb) a2 b2 h4 (by simp [Array.getElem?_setIfInBounds, hl9])) (fun x hx => by
    obtain ⟨z, -, hz⟩ := List.mem_map.mp hx
    rw [← hz]) _ hheap X'
  exact ⟨t, step t t1, t2⟩
end ZJ3
end ZM3
section ZM4
section ZJ4
variable {G : z_G} {l : Launch} {y : z_M} {S : z_S} {pc : Nat} {lo : List (Nat × Value)} {st : List Value} {w w' : z_W} {kc ks : Nat}
theorem j_toBox {n : Nat} {x : Int32} {L L0 : List z_E} (hL0 : S.2.2.2.1 = (L0, z_no)) (hn : L0.length ≤ n) (hn2 : n + 1 ≤ 1000) (hl2 : L.length = n + 1) (hlast : L[n]? = some (.inr (2, [.int x]))) (hc : z_cL n (L.take n)) (hst : z_stb n st = true) (h : z_J G l y S pc [] (.float x.toUInt32 :: st) (L.take n, z_no) kc ks) : z_J G l y S pc lo (.ref n :: st) (L, z_no) kc ks := by
  intro p e s m args below meth c R0 hok R H locs ls cst hat hlo hst0
  obtain ⟨c1, cs1, rfl, ⟨-, hc1⟩, hst1⟩ := z_Lc hst0
  subst hc1
  have hd : ∀ k, z_d (L.take n, z_no) k ↔ k < n := by
    intro k
    constructor
    · intro ⟨e9, he9⟩
      have h1 := (List.getElem?_eq_some_iff.mp (z_gL he9)).1
      rw [List.length_take] at h1
      omega
    · intro hk
      have h1 : k < (L.take n).length := by rw [List.length_take]; omega
      exact ⟨_, z_Lg' (by rw [List.length_take]; omega) (List.getElem?_eq_getElem h1)⟩
  have hge : ∀ k e9, z_g (L.take n, z_no) k = some e9 → z_g (L, z_no) k = some e9 := by
    intro k e9 he9
    have hk := (hd k).mp ⟨_, he9⟩
    have h1 := z_gL he9
    rw [List.getElem?_take_of_lt hk] at h1
    show cond (Nat.blt k 1000) L[k]? (z_no k) = _
    rw [z_blt (by omega)]
    exact h1
  have hdd : ∀ k, z_d (L.take n, z_no) k → z_d (L, z_no) k := fun k ⟨e9, he9⟩ => ⟨e9, hge k e9 he9⟩
  have hgn : z_g (L, z_no) n = some (.inr (2, [.int x])) := by
    show cond (Nat.blt n 1000) L[n]? (z_no n) = _
    rw [z_blt (by omega)]
    exact hlast
  obtain ⟨hP, hT, hF⟩ := hat
  have hno : ∀ q b, R.2 q = some b → q ≠ R.1 n := fun q b hq e9 => (hP.2.2 q b hq).2 n ⟨_, hgn⟩ e9.symm
  have hR2 : ∀ q b, R.2 q = some b → (if q = R.1 n then some x.toUInt32 else R.2 q) = some b := fun q b hq => by rw [if_neg (hno q b hq)]; exact hq
  have hv : ∀ v c, z_cV n v → z_V G R (L, z_no) v c → z_V G (R.1, fun q => if q = R.1 n then some x.toUInt32 else R.2 q) (L.take n, z_no) v c := by
    intro v c hc9 hv
    cases v with
    | int x => exact hv
    | long x => exact hv
    | null => exact hv
    | float b => obtain ⟨q, h1, h2⟩ := hv; exact ⟨q, h1, h2.imp (hR2 q b) id⟩
    | retAddr k => exact hv
    | double b => exact hv
    | ref a => exact ⟨(hd a).mpr hc9, hv.2⟩
  have hvl : ∀ (as bs : List Value), (∀ v ∈ as, z_cV n v) → z_L (z_V G R (L, z_no)) as bs → z_L (z_V G (R.1, fun q => if q = R.1 n then some x.toUInt32 else R.2 q) (L.take n, z_no)) as bs := by
    intro as
    induction as with
    | nil =>
      intro bs _ h9
      cases bs with
      | nil => exact trivial
      | cons b bs => exact h9.elim
    | cons a as ih =>
      intro bs h8 h9
      cases bs with
      | nil => exact h9.elim
      | cons b bs => exact ⟨hv _ _ (h8 a List.mem_cons_self) h9.1, ih bs (fun v hv9 => h8 v (List.mem_cons_of_mem _ hv9)) h9.2⟩
  have hbox : t_OB (R.1 n) (z_dC G 2) 1 (z_dI G 2) H (fun _ => .int x.toUInt32.toInt32) := by
    obtain ⟨q, gs, x1, x2, ⟨cell, g1, g2, g3, g4⟩, x4⟩ := (hP.1 n _ hgn).1
    obtain ⟨b, bs, rfl, hb, -⟩ := z_Lc x4
    have hb : b = .int x := hb
    subst hb
    refine ⟨cell, g1, g2, g3, fun k hk => ?_⟩
    obtain rfl : k = 0 := by omega
    exact g4 0 (by rw [← x2]; exact Nat.zero_lt_one)
  have hat2 : z_at G S R0 s (R.1, fun q => if q = R.1 n then some x.toUInt32 else R.2 q) (L.take n, z_no) H locs := by
    refine ⟨⟨fun k e9 he9 => ?_, fun a b ha hb hab => hP.2.1 a b (hdd a ha) (hdd b hb) hab, fun q b hq => ?_⟩, ⟨fun k hk => ⟨?_, (hT.1 k hk).2⟩, fun q b hq => hR2 q b (hT.2.1 q b hq), fun k hk hno => hT.2.2.1 k (hdd k hk) hno, fun q b hq hq0 => ?_⟩, hF⟩
    · obtain ⟨h3, h4⟩ := hP.1 k e9 (hge k e9 he9)
      refine ⟨?_, h4⟩
      have hce : z_cE n e9 := z_cLm hc e9 (List.mem_of_getElem? (z_gL he9))
      cases e9 with
      | inl x =>
        obtain ⟨z, z1, z2⟩ := h3
        exact ⟨z, z1, fun j hj => hv _ _ (hce j hj) (z2 j hj)⟩
      | inr o =>
        obtain ⟨q, gs, x1, x2, x3, x4⟩ := h3
        exact ⟨q, gs, x1, x2, x3, hvl _ _ hce x4⟩
    · have hq : (if q = R.1 n then some x.toUInt32 else R.2 q) = some b := hq
      by_cases hqn : q = R.1 n
      · rw [if_pos hqn] at hq
        obtain rfl := Option.some.inj hq
        subst hqn
        refine ⟨hbox, fun k hk e9 => ?_⟩
        have h1 := hP.2.1 k n (hdd k hk) ⟨_, hgn⟩ e9
        have h2 := (hd k).mp hk
        omega
      · rw [if_neg hqn] at hq
        exact ⟨(hP.2.2 q b hq).1, fun k hk => (hP.2.2 q b hq).2 k (hdd k hk)⟩
    · rw [hL0] at hk
      obtain ⟨e9, he9⟩ := hk
      have h1 := (List.getElem?_eq_some_iff.mp (z_gL he9)).1
      exact (hd k).mpr (by omega)
    · have hq : (if q = R.1 n then some x.toUInt32 else R.2 q) = some b := hq
      by_cases hqn : q = R.1 n
      · rw [hqn]
        refine hT.2.2.1 n ⟨_, hgn⟩ ?_
        rw [hL0]
        intro ⟨e9, he9⟩
        have h1 := (List.getElem?_eq_some_iff.mp (z_gL he9)).1
        omega
      · rw [if_neg hqn] at hq
        exact hT.2.2.2 q b hq hq0
  obtain ⟨clo, h1, h2⟩ := hlo
  exact h p e s m args below meth c R0 hok (R.1, fun q => if q = R.1 n then some x.toUInt32 else R.2 q) H locs ls (.ref (R.1 n) :: cs1) hat2 ⟨[], ⟨h1.1, h1.2.1, fun _ hx => by cases hx⟩, trivial⟩ ⟨⟨R.1 n, rfl, Or.inl (if_pos rfl)⟩, hvl _ _ (z_stc hst) hst1⟩
theorem j_getC {idx a n : Nat} {f : Nat → Value} (hd : decode y.2.1 pc = .ok (.invokevirtual idx, 3)) (hl : Cond.methodLink y.1.cls idx ⟨"java/lang/Object", "getClass", "()Ljava/lang/Class;"⟩ ∈ z_tbl) (hdc : Cond.declares ⟨"java/lang/Object", "getClass", "()Ljava/lang/Class;"⟩ ∈ z_nst)
    (hs : Cond.selects "[Ljava/lang/Object;" ⟨"java/lang/Object", "getClass", "()Ljava/lang/Class;"⟩ ⟨"java/lang/Object", "getClass", "()Ljava/lang/Class;"⟩ ∈ z_tbl) (hi : Cond.instanceMethod ⟨"java/lang/Object", "getClass", "()Ljava/lang/Class;"⟩ ∈ z_tbl) (hnat : Cond.native ⟨"java/lang/Object", "getClass", "()Ljava/lang/Class;"⟩ ∈ z_tbl)
    (hg : z_g w a = some (.inl (3, n, f))) (hrk : 1 ≤ S.1) (hW : z_cat st ≤ 8) (h : z_J G l y S (pc + 3) lo (.retAddr 6 :: st) w kc ks) : z_J G l y S pc lo (.ref a :: st) w kc ks := by
  intro p e s m args below meth c R0 hok R H locs ls cst hat hlo hst
  obtain ⟨c1, cs1, rfl, hv, hst1⟩ := z_Lc hst
  obtain ⟨-, h1⟩ := hv
  subst h1
  obtain ⟨q, hq, hm⟩ := (z_okc hok).2.2.2.2.2.2.2.1
  have hts := hok.2.2.2.2.2.2.1
  have hsz := hlo.choose_spec.1.1
  have h8 : (cs1.map fun v => v.category).sum ≤ 8 := by rw [z_Lcs hst1]; exact hW
  have h40 : 40 ≤ (z_rm S.1 S.2.1 S.2.2.1).locals := by show 40 ≤ 40 * S.1; omega
  obtain ⟨z, z1, -⟩ := (hat.1.1 a _ hg).1
  exact va_getC hok.1 hok.2.1 hsz.symm hok.2.2.2.2.2.1 (hts _ hl) (va_Nw.use (w := Cond.declares ⟨"java/lang/Object", "getClass", "()Ljava/lang/Class;"⟩) rfl (hok.2.2.2.2.2.2.2.1.2.2.1 _ hdc)) (hts _ hs) (hts _ hi) (hts _ hnat) hm ⟨_, z1, rfl, z_RAf (ty := .object "java/lang/Object") (hok.2.2.2.2.2.2.2.1.2.1 3 _ rfl).2⟩ hrk (by omega) hd (h p e s m args below meth c R0 hok R H locs ls (.ref q :: cs1) hat hlo ⟨⟨q, rfl, hq⟩, hst1⟩)
theorem j_acmp_neK {k : Nat} {off : Int} {tgt : Nat} (hd : decode y.2.1 pc = .ok (.if_acmp .ne off, 3)) (ht : (pc : Int) + off = (tgt : Int)) (h : z_J G l y S (pc + 3) lo st w kc ks) : z_J G l y S pc lo (.retAddr k :: .retAddr k :: st) w kc ks := by
  intro p e s m args below meth c R0 hok R H locs ls cst hat hlo hst
  obtain ⟨c1, cs1, rfl, ⟨q1, h1, k1⟩, hst1⟩ := z_Lc hst
  obtain ⟨c2, cs2, rfl, ⟨q2, h2, k2⟩, hst2⟩ := z_Lc hst1
  subst h1 h2
  have e9 := (z_okc hok).1 k q1 q2 k1 k2
  subst e9
  exact lv_acmp_ne (rx := some q1) (ry := some q1) hok.1 hok.2.1 hd ht (fun z => absurd rfl z) (fun _ => h p e s m args below meth c R0 hok R H locs ls _ hat hlo hst2)
theorem j_acmp_eqR {k a : Nat} {off : Int} {tgt : Nat} (hd : decode y.2.1 pc = .ok (.if_acmp .eq off, 3)) (ht : (pc : Int) + off = (tgt : Int)) (h : z_J G l y S (pc + 3) lo st w kc ks) (hk6 : k < 6 ∨ 8 ≤ k := by decide) : z_J G l y S pc lo (.retAddr k :: .ref a :: st) w kc ks := by
  intro p e s m args below meth c R0 hok R H locs ls cst hat hlo hst
  obtain ⟨c1, cs1, rfl, ⟨q1, h1, k1⟩, hst1⟩ := z_Lc hst
  obtain ⟨c2, cs2, rfl, ⟨⟨e9, d2⟩, h2⟩, hst2⟩ := z_Lc hst1
  subst h1 h2
  have hlo9 := (hat.1.1 a e9 d2).2
  have hk9 := (z_okc hok).2.1 k q1 hk6 k1
  exact lv_acmp_eq (rx := some (R.1 a)) (ry := some q1) hok.1 hok.2.1 hd ht (fun z => absurd (Option.some.inj z) (fun z => hk9 (by rw [← z]; exact hlo9))) (fun _ => h p e s m args below meth c R0 hok R H locs ls _ hat hlo hst2)
end ZJ4
end ZM4
