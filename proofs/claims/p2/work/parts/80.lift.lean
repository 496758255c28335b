section ZLift
variable {G : z_G} {l : Launch}
theorem z_s_id {w : z_W} {n : Nat} {e : z_E} (h : z_g w n = some e) : z_s w n e = w := by
  obtain ⟨L, P⟩ := w
  cases hb : Nat.blt n 1000 with
  | true =>
    simp only [z_g, hb, cond] at h
    simp only [z_s, hb, cond]
    obtain ⟨h1, h2⟩ := List.getElem?_eq_some_iff.mp h
    rw [← h2, List.set_getElem_self h1]
  | false =>
    simp only [z_g, hb, cond] at h
    simp only [z_s, hb, cond]
    refine congrArg (Prod.mk L) (funext fun m => ?_)
    cases hm : Nat.beq m n with
    | true => rw [Nat.eq_of_beq_eq_true hm, h]
    | false => rfl
theorem z_ss_id : ∀ {th : List Nat} {es : List z_E} {w : z_W}, th.map (z_g w) = es.map some → z_ss w th es = w
  | [], es, w, _ => by unfold z_ss; rfl
  | n :: th, [], w, h => by simp at h
  | n :: th, e :: es, w, h => by
    simp only [List.map_cons, List.cons.injEq] at h
    unfold z_ss
    rw [z_s_id h.1]
    exact z_ss_id h.2
/-- a contract that changes nothing, in any world that holds its cells -/
theorem z_rof {y : z_M} {rk mc ms : Nat} {L0 : List z_E} {av : List Value} {Q : Option Value → List z_E → Prop} {Qv : Option Value → Prop} {w : z_W} (th : List Nat) (hth : th.map (z_g w) = L0.map (fun e => some (z_re th e))) (hnd : th.Nodup) (hl : L0.length ≤ 1000) (h : z_CF G l y rk mc ms L0 av Q) (hQ : ∀ v L', Q v L' → Qv v ∧ L' = L0) : z_Con G l y rk mc ms w (av.map (z_rn th)) (fun v w9 => (∃ v0, Qv v0 ∧ v = v0.map (z_rn th)) ∧ w9 = w) (fun _ _ => False) := by
  refine z_weak (z_frame th hth hnd hl h) (fun v w' hq => ?_) (fun _ _ h => h)
  obtain ⟨v0, L', q, hv, rfl⟩ := hq
  obtain ⟨q1, rfl⟩ := hQ _ _ q
  refine ⟨⟨v0, q1, hv⟩, z_ss_id ?_⟩
  rw [hth, List.map_map]
  rfl
theorem z_idth {L : List z_E} {P : Nat → Option z_E} {N : Nat} (hN : L.length = N) (hN2 : N ≤ 1000) (hc : L.map (z_re (List.range N)) = L) : (List.range N).map (z_g (L, P)) = L.map (fun e => some (z_re (List.range N) e)) := by
  have e1 : L.map (fun e => some (z_re (List.range N) e)) = (L.map (z_re (List.range N))).map some := by rw [List.map_map]; rfl
  rw [e1, hc]
  apply List.ext_getElem?
  intro i
  rw [List.getElem?_map, List.getElem?_map]
  by_cases hi : i < N
  · rw [List.getElem?_range hi]
    have hb : Nat.blt i 1000 = true := z_blt (by omega)
    show some (z_g (L, P) i) = Option.map some L[i]?
    simp only [z_g, hb, cond]
    rw [List.getElem?_eq_getElem (by omega)]
    rfl
  · rw [List.getElem?_eq_none (by rw [List.length_range]; omega), List.getElem?_eq_none (by omega)]
    rfl
theorem z_ssR {P : Nat → Option z_E} : ∀ (es X A : List z_E), X.length = es.length → A.length + es.length ≤ 1000 → z_ss (A ++ X, P) (List.range' A.length es.length) es = (A ++ es, P)
  | [], [], A, _, _ => by unfold z_ss; rfl
  | [], x :: X, A, h, _ => by simp at h
  | e :: es, [], A, h, _ => by simp at h
  | e :: es, x :: X, A, h, hl => by
    simp only [List.length_cons, Nat.add_right_cancel_iff] at h
    simp only [List.length_cons] at hl
    have hb : Nat.blt A.length 1000 = true := z_blt (by omega)
    have e1 : z_s (A ++ x :: X, P) A.length e = ((A ++ [e]) ++ X, P) := by
      simp only [z_s, hb, cond]
      rw [List.set_append_right _ _ (Nat.le_refl _), Nat.sub_self, List.append_assoc]
      rfl
    have e2 := z_ssR (P := P) es X (A ++ [e]) h (by rw [List.length_append]; show A.length + 1 + _ ≤ 1000; omega)
    rw [List.length_cons, List.range'_succ]
    unfold z_ss
    rw [e1]
    have e3 : (A ++ [e]).length = A.length + 1 := by rw [List.length_append]; rfl
    rw [e3] at e2
    rw [e2, List.append_assoc]
    rfl
theorem z_ssR0 {P : Nat → Option z_E} {es X : List z_E} {N : Nat} (h : X.length = N) (h2 : es.length = N) (hl : N ≤ 1000) : z_ss (X, P) (List.range N) es = (es, P) := by
  have e := z_ssR (P := P) es X [] (by omega) (by show 0 + _ ≤ _; omega)
  rw [List.range_eq_range', ← h2]
  exact e
theorem z_lift {y : z_M} {rk mc ms : Nat} {L0 : List z_E} {P : Nat → Option z_E} {av : List Value} {Q : Option Value → List z_E → Prop} {X : String → List z_E → Prop} (N : Nat) (hN : L0.length = N) (hN2 : N ≤ 1000) (hc : L0.map (z_re (List.range N)) = L0) (hav : av.map (z_rn (List.range N)) = av) (h : z_CX G l y rk mc ms L0 av Q X)
    (hQ : ∀ v L', Q v L' → L'.length = N ∧ L'.map (z_re (List.range N)) = L' ∧ v.map (z_rn (List.range N)) = v) (hX : ∀ E L', X E L' → L'.length = N ∧ L'.map (z_re (List.range N)) = L') : z_Con G l y rk mc ms (L0, P) av (fun v w => Q v w.1 ∧ w.2 = P) (fun E w => X E w.1 ∧ w.2 = P) := by
  have h0 := z_frameX (w := (L0, P)) (List.range N) (z_idth hN hN2 hc) List.nodup_range (by omega) h
  rw [hav] at h0
  refine z_weak h0 (fun v w' hq => ?_) (fun E w' hx => ?_)
  · obtain ⟨v0, L', q1, rfl, rfl⟩ := hq
    obtain ⟨a1, a2, a3⟩ := hQ v0 L' q1
    rw [a2, a3, z_ssR0 hN a1 hN2]
    exact ⟨q1, rfl⟩
  · obtain ⟨L', q1, rfl⟩ := hx
    obtain ⟨a1, a2⟩ := hX E L' q1
    rw [a2, z_ssR0 hN a1 hN2]
    exact ⟨q1, rfl⟩
theorem z_mc {f : z_E → z_E} {x : z_E} {xs : List z_E} (h : f x = x) (t : xs.map f = xs) : (x :: xs).map f = x :: xs := by rw [List.map_cons, h, t]
theorem z_mn {f : z_E → z_E} : ([] : List z_E).map f = [] := rfl
theorem z_rn_u {th : List Nat} {f : Nat → Value} {k : Nat} {x : Value} : (fun j => z_rn th (z_u f k x j)) = z_u (fun j => z_rn th (f j)) k (z_rn th x) := funext fun j => by
  unfold z_u
  cases Nat.beq j k <;> rfl
theorem z_u2R {th : List Nat} {k n a b : Nat} (ha : z_rn th (.ref a) = .ref a) (hb : z_rn th (.ref b) = .ref b) : z_re th (.inl (k, n, z_u (z_u (fun _ => .null) 0 (.ref a)) 1 (.ref b))) = .inl (k, n, z_u (z_u (fun _ => .null) 0 (.ref a)) 1 (.ref b)) := by
  unfold z_re
  simp only [z_rn_u, ha, hb]
  rfl
theorem z_u3R {th : List Nat} {k n a b c : Nat} (ha : z_rn th (.ref a) = .ref a) (hb : z_rn th (.ref b) = .ref b) (hc : z_rn th (.ref c) = .ref c) : z_re th (.inl (k, n, z_u (z_u (z_u (fun _ => .null) 0 (.ref a)) 1 (.ref b)) 2 (.ref c))) = .inl (k, n, z_u (z_u (z_u (fun _ => .null) 0 (.ref a)) 1 (.ref b)) 2 (.ref c)) := by
  unfold z_re
  simp only [z_rn_u, ha, hb, hc]
  rfl
set_option maxRecDepth 100000 in
set_option maxHeartbeats 8000000 in
theorem z_cwR {rf : Int32} {kn : Int32} {ma : Int32} {xa : Bool} {fa : Nat → Int32} {ca : Nat → Int32} {mb : Int32} {xb : Bool} {fb : Nat → Int32} {cb : Nat → Int32} {mt : Int32} {xt : Bool} {ft : Nat → Int32} {ct : Nat → Int32} {f0 : Nat → Int32} {g0 : Nat → Int32} {c0 : Nat → Int32} {m0 : Int32} {s0 : Int32} {f1 : Nat → Int32} {g1 : Nat → Int32} {c1 : Nat → Int32} {m1 : Int32} {s1 : Int32} {f2 : Nat → Int32} {g2 : Nat → Int32} {c2 : Nat → Int32} {m2 : Int32} {s2 : Int32} {f3 : Nat → Int32} {g3 : Nat → Int32} {c3 : Nat → Int32} {m3 : Int32} {s3 : Int32} {f4 : Nat → Int32} {g4 : Nat → Int32} {c4 : Nat → Int32} {m4 : Int32} {s4 : Int32} {f5 : Nat → Int32} {g5 : Nat → Int32} {c5 : Nat → Int32} {m5 : Int32} {s5 : Int32} {ek0 : Int32} {em0 : Int32} {es0 : Int32} {el0 : Int32} {b0 : Int32} {ef0 : Nat → Int32} {ek1 : Int32} {em1 : Int32} {es1 : Int32} {el1 : Int32} {b1 : Int32} {ef1 : Nat → Int32} : (z_cw rf kn ma xa fa ca mb xb fb cb mt xt ft ct f0 g0 c0 m0 s0 f1 g1 c1 m1 s1 f2 g2 c2 m2 s2 f3 g3 c3 m3 s3 f4 g4 c4 m4 s4 f5 g5 c5 m5 s5 ek0 em0 es0 el0 b0 ef0 ek1 em1 es1 el1 b1 ef1 []).map (z_re (List.range 51)) = z_cw rf kn ma xa fa ca mb xb fb cb mt xt ft ct f0 g0 c0 m0 s0 f1 g1 c1 m1 s1 f2 g2 c2 m2 s2 f3 g3 c3 m3 s3 f4 g4 c4 m4 s4 f5 g5 c5 m5 s5 ek0 em0 es0 el0 b0 ef0 ek1 em1 es1 el1 b1 ef1 [] := by
  rw [z_cw, List.append_nil]
  exact (z_mc rfl (z_mc (z_u2R rfl rfl) (z_mc rfl (z_mc rfl (z_mc rfl (z_mc rfl (z_mc rfl (z_mc rfl (z_mc rfl (z_mc rfl (z_mc rfl (z_mc rfl (z_mc rfl (z_mc rfl (z_mc rfl (z_mc (z_u3R rfl rfl rfl) (z_mc rfl (z_mc rfl (z_mc rfl (z_mc rfl (z_mc rfl (z_mc rfl (z_mc rfl (z_mc rfl (z_mc rfl (z_mc rfl (z_mc (z_u2R rfl rfl) (z_mc rfl (z_mc rfl (z_mc rfl (z_mc rfl (z_mc rfl (z_mc rfl (z_mc rfl (z_mc rfl (z_mc rfl (z_mc rfl (z_mc rfl (z_mc rfl (z_mc rfl (z_mc (z_u3R rfl rfl rfl) (z_mc rfl (z_mc rfl (z_mc rfl (z_mc rfl (z_mc rfl (z_mc rfl (z_mc rfl (z_mc rfl (z_mc rfl (z_mc rfl z_mn)))))))))))))))))))))))))))))))))))))))))))))))))))
/-- the class between two calls, of which the knocks alone are told -/
def z_Wn (kn : Int32) (L : List z_E) : Prop := ∃ (xa xb : Bool) (b0 b1 : Int32), z_Wk kn xa xb b0 b1 L
theorem z_WkC {kn : Int32} {xa xb : Bool} {b0 b1 : Int32} {L : List z_E} (h : z_Wk kn xa xb b0 b1 L) : L.length = 51 ∧ L.map (z_re (List.range 51)) = L := by
  obtain ⟨rf, ma, fa, ca, mb, fb, cb, mt, xt, ft, ct, f0, g0, c0, m0, s0, f1, g1, c1, m1, s1, f2, g2, c2, m2, s2, f3, g3, c3, m3, s3, f4, g4, c4, m4, s4, f5, g5, c5, m5, s5, ek0, em0, es0, el0, ef0, ek1, em1, es1, el1, ef1, -, -, -, -, -, -, hL⟩ := h
  subst hL
  exact ⟨rfl, z_cwR⟩
theorem z_WnC {kn : Int32} {L : List z_E} (h : z_Wn kn L) : L.length = 51 ∧ L.map (z_re (List.range 51)) = L := by
  obtain ⟨xa, xb, b0, b1, h⟩ := h
  exact z_WkC h
/-- what a call of the class leaves: the names of the function part, but those of the regions 56 to 58 -/
def z_hi (w w9 : z_W) : Prop := (∀ n, 1000 ≤ n → (n % 64 < 56 ∨ 58 < n % 64) → z_g w9 n = z_g w n) ∧ (z_fn w → z_fn w9)
theorem z_hi.rf {w : z_W} : z_hi w w := ⟨fun _ _ _ => rfl, id⟩
theorem z_hi.tr {a b c : z_W} (h : z_hi a b) (h2 : z_hi b c) : z_hi a c := ⟨fun n h3 h4 => (h2.1 n h3 h4).trans (h.1 n h3 h4), fun z => h2.2 (h.2 z)⟩
theorem z_hi.of {w w9 : z_W} (h1 : w9.1.length = 51) (h2 : w9.2 = w.2) : z_hi w w9 := ⟨fun n hn _ => by
  have hb : Nat.blt n 1000 = false := z_bltF hn
  simp only [z_g, hb, cond]
  rw [h2], fun hf => ⟨by omega, by rw [h2]; exact hf.2⟩⟩
theorem z_mst.hi {w w' : z_W} {s : z_Z} (h : z_mst w s) (hw : z_hi w w') : z_mst w' s := by
  obtain ⟨h0, h1, h2, h3, ⟨f4, h4, h4'⟩, h5, h6, ⟨f7, h7, h7'⟩, h8, h9, h10, h11, h12⟩ := h
  have k : ∀ r, r < 56 → ∀ n, 1000 ≤ n → n % 64 = r → z_g w' n = z_g w n := fun r hr n h9 hn => hw.1 n h9 (by omega)
  exact ⟨hw.2 h0, (k 40 (by omega) 1000 (by omega) (by omega)).trans h1, z_li.m (k 41 (by omega)) h2, (k 42 (by omega) 1002 (by omega) (by omega)).trans h3, ⟨f4, (k 43 (by omega) 1003 (by omega) (by omega)).trans h4, h4'⟩, fun i hi => (k (44 + i) (by omega) (1004 + i) (by omega) (by omega)).trans (h5 i hi), z_li.m (k 47 (by omega)) h6, ⟨f7, (k 48 (by omega) 1008 (by omega) (by omega)).trans h7, h7'⟩, fun i hi => (k (49 + i) (by omega) (1009 + i) (by omega) (by omega)).trans (h8 i hi), fun t ht => z_li.m (k (51 + t) (by omega)) (h9 t ht), fun i hi => ⟨z_li.m (k (54 + i) (by omega)) (h10 i hi).1, (h10 i hi).2⟩, fun i hi => ⟨z_li.m (k (11 + i) (by omega)) (h11 i hi).1, (h11 i hi).2⟩, fun t ht => z_pr.m (k (14 + t) (by omega)) (h12 t ht)⟩
/-- the class's cells stay, and all but the regions 56 to 58 -/
def z_lf (w w9 : z_W) : Prop := w9.1 = w.1 ∧ z_hi w w9
theorem z_lf.rf {w : z_W} : z_lf w w := ⟨rfl, z_hi.rf⟩
theorem z_lf.tr {a b c : z_W} (h : z_lf a b) (h2 : z_lf b c) : z_lf a c := ⟨h2.1.trans h.1, h.2.tr h2.2⟩
theorem z_fw.lf {ρ : Nat} {w w9 : z_W} (h : z_fw ρ w w9) (hρ : 56 ≤ ρ ∧ ρ ≤ 58) : z_lf w w9 := ⟨h.1, fun n h1 h2 => h.2.2 n (Or.inr (by omega)), h.2.1⟩
theorem z_lf.g {w w9 : z_W} {n : Nat} {e : z_E} (h : z_lf w w9) (hn : n < 1000) (hg : z_g w n = some e) : z_g w9 n = some e := by
  have hb : Nat.blt n 1000 = true := z_blt hn
  simp only [z_g, hb, cond] at hg ⊢
  rw [h.1]
  exact hg
theorem z_g1 {w : z_W} {L : List z_E} {n : Nat} {e : z_E} (h1 : w.1 = L) (hn : n < 1000) (hL : L[n]? = some e) : z_g w n = some e := by
  have hb : Nat.blt n 1000 = true := z_blt hn
  simp only [z_g, hb, cond]
  rw [h1]
  exact hL
end ZLift
