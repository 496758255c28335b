section ZLawK
variable {G : z_G} {l : Launch} {y : z_M} {S : z_S} {pc : Nat} {lo : List (Nat × Value)} {st : List Value} {w w' : z_W} {kc ks : Nat}
theorem j_lcmp {a b : Int64} (hd : decode y.2.1 pc = .ok (.lcmp, 1)) (h : z_J G l y S (pc + 1) lo (.int (lg_cmp a b) :: st) w kc ks) : z_J G l y S pc lo (.long b :: .long a :: st) w kc ks := by
  intro p e s m args below meth c R0 hok R H locs ls cst hat hlo hst
  obtain ⟨c1, cs1, rfl, h1, hst1⟩ := z_Lc hst
  obtain ⟨c2, cs2, rfl, h2, hst2⟩ := z_Lc hst1
  have h1 : c1 = .long b := h1
  have h2 : c2 = .long a := h2
  subst h1 h2
  exact W.lcmp hok.1 hok.2.1 hd (h p e s m args below meth c R0 hok R H locs ls _ hat hlo ⟨rfl, hst2⟩)
theorem q_cmp {a b : Int64} (h : a = b) : lg_cmp a b = 0 := by
  subst h
  unfold lg_cmp
  rw [if_neg (Int64.lt_irrefl), if_pos rfl]
/-- the model's knocks, flags and stops are what k says -/
def z_kr (k : z_ky) (q : Int32 × (Nat → Int32) × (Nat → Int32)) : Prop := q.1 = k.1 ∧ (q.2.1 0 = z_bi k.2.1 ∧ q.2.1 1 = z_bi k.2.2.1) ∧ q.2.2 0 = k.2.2.2.1 ∧ q.2.2 1 = k.2.2.2.2
/-- between two calls of the law: the class with the key c, the model with the key m, the last answer n in the place x -/
def z_LT (x : Nat) (c m : z_ky) (n : Int64) (w : z_W) : Prop := z_WN c w.1 ∧ (∃ s, z_mst w s ∧ z_kr m (z_key s)) ∧ (∃ v : Value, z_g w x = some (.inr (13, [.long n, v]))) ∧ 1000 ≤ x ∧ x % 64 = 60
theorem z_LT.cls {x : Nat} {c c' m : z_ky} {n : Int64} {w w9 : z_W} (h : z_LT x c m n w) (h1 : z_WN c' w9.1) (h2 : z_hi w w9) : z_LT x c' m n w9 := by
  obtain ⟨-, ⟨s, hs, hk⟩, ⟨v, hg⟩, hx, hx2⟩ := h
  exact ⟨h1, ⟨s, hs.hi h2, hk⟩, ⟨v, (h2.1 x hx (Or.inr (by omega))).trans hg⟩, hx, hx2⟩
theorem z_LT.out {x : Nat} {c m : z_ky} {n n' : Int64} {w w9 : z_W} {v : Value} (h : z_LT x c m n w) (u : z_up w x (.inr (13, [.long n', v])) w9) : z_LT x c m n' w9 := by
  obtain ⟨hW, ⟨s, hs, hk⟩, -, hx, hx2⟩ := h
  exact ⟨by rw [u.2.2.1]; exact hW, ⟨s, hs.hm ⟨fun m h1 h2 => u.2.1 m (fun z => by omega), u.2.2.2⟩, hk⟩, ⟨v, u.1⟩, hx, hx2⟩
theorem z_LT.x1 {x : Nat} {c m : z_ky} {n : Int64} {w : z_W} (h : z_LT x c m n w) : 1000 ≤ x := h.2.2.2.1
theorem z_LT.fn {x : Nat} {c m : z_ky} {n : Int64} {w : z_W} (h : z_LT x c m n w) : z_fn w := by
  obtain ⟨-, ⟨s, hs, -⟩, -⟩ := h
  exact hs.fn
theorem z_LT.rc {x : Nat} {c m : z_ky} {n : Int64} {w : z_W} (h : z_LT x c m n w) : ∃ fs, z_g w 0 = some (.inr (12, fs)) := by
  obtain ⟨⟨rf, ma, fa, ca, mb, fb, cb, mt, xt, ft, ct, f0, g0, c0, m0, s0, f1, g1, c1, m1, s1, f2, g2, c2, m2, s2, f3, g3, c3, m3, s3, f4, g4, c4, m4, s4, f5, g5, c5, m5, s5, ek0, em0, es0, el0, ef0, ek1, em1, es1, el1, ef1, -, -, -, -, -, -, hL⟩, -⟩ := h
  exact ⟨_, z_g1 hL (by decide) rfl⟩
theorem z_LT.mod {x : Nat} {c m m' : z_ky} {n : Int64} {w w9 : z_W} {s9 : z_Z} (h : z_LT x c m n w) (h1 : z_fm 59 w w9) (h2 : z_mst w9 s9) (h3 : z_kr m' (z_key s9)) : z_LT x c m' n w9 := by
  obtain ⟨hW, -, ⟨v, hg⟩, hx, hx2⟩ := h
  exact ⟨by rw [h1.1]; exact hW, ⟨s9, h2, h3⟩, ⟨v, h1.g hx (by omega) hg⟩, hx, hx2⟩
/-- what the model told of its last throw -/
def z_trw (w : z_W) (t : Int32) : Prop := ∃ s, z_mst w s ∧ s.1.1 = t
theorem z_kr.fix {m : z_ky} {s s9 : z_Z} {b : Bool} {i : Nat} (h : z_kr m (z_key s)) (hi : i < 2) (e : z_key s9 = (s.1.2.2, z_ui (z_qf s) i (z_bi b), fun h => (z_qh s h).1)) : z_kr (u_fix m (nI i) b) (z_key s9) := by
  rw [e]
  obtain ⟨h1, ⟨h2, h3⟩, h4, h5⟩ := h
  have h2 : z_qf s 0 = z_bi m.2.1 := h2
  have h3 : z_qf s 1 = z_bi m.2.2.1 := h3
  rcases (show i = 0 ∨ i = 1 by omega) with rfl | rfl
  · exact ⟨h1, ⟨show z_ui (z_qf s) 0 (z_bi b) 0 = z_bi b from z_ui_self, show z_ui (z_qf s) 0 (z_bi b) 1 = z_bi m.2.2.1 from (z_ui_ne (by decide)).trans h3⟩, h4, h5⟩
  · exact ⟨h1, ⟨show z_ui (z_qf s) 1 (z_bi b) 0 = z_bi m.2.1 from (z_ui_ne (by decide)).trans h2, show z_ui (z_qf s) 1 (z_bi b) 1 = z_bi b from z_ui_self⟩, h4, h5⟩
theorem z_kr.stop {m : z_ky} {s s9 : z_Z} {p : Int32} {i : Nat} (h : z_kr m (z_key s)) (hi : i < 2) (e : z_key s9 = (s.1.2.2, z_qf s, z_fu (fun h => (z_qh s h).1) i p)) : z_kr (u_stop m (nI i) p) (z_key s9) := by
  rw [e]
  obtain ⟨h1, ⟨h2, h3⟩, h4, h5⟩ := h
  have h4 : (fun h => (z_qh s h).1) 0 = m.2.2.2.1 := h4
  have h5 : (fun h => (z_qh s h).1) 1 = m.2.2.2.2 := h5
  rcases (show i = 0 ∨ i = 1 by omega) with rfl | rfl
  · exact ⟨h1, ⟨h2, h3⟩, show z_fu (fun h => (z_qh s h).1) 0 p 0 = p from z_fu_self, show z_fu (fun h => (z_qh s h).1) 0 p 1 = m.2.2.2.2 from (z_fu_ne (by decide)).trans h5⟩
  · exact ⟨h1, ⟨h2, h3⟩, show z_fu (fun h => (z_qh s h).1) 1 p 0 = m.2.2.2.1 from (z_fu_ne (by decide)).trans h4, show z_fu (fun h => (z_qh s h).1) 1 p 1 = p from z_fu_self⟩
theorem z_kr.isf {m : z_ky} {s : z_Z} {r : Int32} {i : Nat} (h : z_kr m (z_key s)) (hi : i < 2) (e : (r = 1 ∧ ¬ z_qf s i = 0) ∨ (r = 0 ∧ z_qf s i = 0)) : r = z_bi (u_isf m (nI i)) := by
  obtain ⟨h1, ⟨h2, h3⟩, h4, h5⟩ := h
  have h2 : z_qf s 0 = z_bi m.2.1 := h2
  have h3 : z_qf s 1 = z_bi m.2.2.1 := h3
  rcases (show i = 0 ∨ i = 1 by omega) with rfl | rfl
  · rw [h2] at e
    show r = z_bi m.2.1
    rcases e with ⟨rfl, e⟩ | ⟨rfl, e⟩
    · rw [z_bt e]; rfl
    · rw [z_bF e]; rfl
  · rw [h3] at e
    show r = z_bi m.2.2.1
    rcases e with ⟨rfl, e⟩ | ⟨rfl, e⟩
    · rw [z_bt e]; rfl
    · rw [z_bF e]; rfl
theorem z_kr.bar {m : z_ky} {s : z_Z} {i : Nat} (h : z_kr m (z_key s)) (hi : i < 2) : (z_qh s i).1 = u_bar m (nI i) := by
  obtain ⟨h1, h2, h4, h5⟩ := h
  rcases (show i = 0 ∨ i = 1 by omega) with rfl | rfl
  · exact h4
  · exact h5
theorem u_fixm {m : z_ky} {r : Int32} {b : Bool} (h : ¬ (r = 0 ∨ r = 1)) : u_fix m r b = m := u_fixn (if_neg h)
theorem km_fix (hl : l.stackTraces = false) {x : Nat} {c m : z_ky} {n : Int64} (w : z_W) (LT : z_LT x c m n w) (a : Int32) (b : Bool) : z_Con G l mX11_fix 20 0 0 w [.ref 1000, .int a, .int (z_bi b)] (fun v w9 => ∃ r : Int32, v = some (.int r) ∧ z_LT x c (u_fix m a b) n w9 ∧ z_trw w9 (q_k2 a) ∧ (q_k2 a = 0 → r = z_bi (u_isf m a))) (fun _ _ => False) := by
  obtain ⟨-, ⟨s, hs, hk⟩, -⟩ := id LT
  refine z_weak (cm_fix_e hl w s a (z_bi b) hs (z_bn b)) (fun v w9 q => ?_) (fun _ _ h => h)
  obtain ⟨r, s9, hv, fm, h9, ht, ⟨hn, ke⟩ | ⟨i, hi, rfl, hr, ke⟩⟩ := q
  · refine ⟨r, hv, by rw [u_fixm hn]; exact LT.mod fm h9 (by rw [ke]; exact hk), ⟨s9, h9, ht⟩, fun z => ?_⟩
    rw [q_k2, if_neg hn] at z
    exact absurd z (by decide)
  · exact ⟨r, hv, LT.mod fm h9 (hk.fix hi ke), ⟨s9, h9, ht⟩, fun _ => hk.isf hi hr⟩
theorem km_isFixed (hl : l.stackTraces = false) {x : Nat} {c m : z_ky} {n : Int64} (w : z_W) (LT : z_LT x c m n w) (a : Int32) : z_Con G l mX11_isFixed 20 0 0 w [.ref 1000, .int a] (fun v w9 => ∃ r : Int32, v = some (.int r) ∧ z_LT x c m n w9 ∧ z_trw w9 (q_k2 a) ∧ (q_k2 a = 0 → r = z_bi (u_isf m a))) (fun _ _ => False) := by
  obtain ⟨-, ⟨s, hs, hk⟩, -⟩ := id LT
  refine z_weak (cm_isFixed_e hl w s a hs) (fun v w9 q => ?_) (fun _ _ h => h)
  obtain ⟨r, s9, hv, fm, h9, ht, ⟨hn, ke⟩ | ⟨i, hi, rfl, hr, ke⟩⟩ := q
  · refine ⟨r, hv, LT.mod fm h9 (by rw [ke]; exact hk), ⟨s9, h9, ht⟩, fun z => ?_⟩
    rw [q_k2, if_neg hn] at z
    exact absurd z (by decide)
  · exact ⟨r, hv, LT.mod fm h9 (by rw [ke]; exact hk), ⟨s9, h9, ht⟩, fun _ => hk.isf hi hr⟩
/-- the class's key behind a stop: nothing changes where it throws -/
def u_stp (k : z_ky) (r p : Int32) : z_ky := if q_k22 r (p < -1000 ∨ 99999 < p) = 0 then u_stop k r p else k
theorem km_stop (hl : l.stackTraces = false) {x : Nat} {c m : z_ky} {n : Int64} (w : z_W) (LT : z_LT x c m n w) (a b : Int32) : z_Con G l mX11_stop 20 0 0 w [.ref 1000, .int a, .int b] (fun v w9 => ∃ r : Int32, v = some (.int r) ∧ z_LT x c (u_stp m a b) n w9 ∧ z_trw w9 (q_k22 a (b < -1000 ∨ 99999 < b)) ∧ (q_k22 a (b < -1000 ∨ 99999 < b) = 0 → r = u_bar m a)) (fun _ _ => False) := by
  obtain ⟨-, ⟨s, hs, hk⟩, -⟩ := id LT
  refine z_weak (cm_stop_e hl w s a b hs) (fun v w9 q => ?_) (fun _ _ h => h)
  obtain ⟨r, s9, hv, fm, h9, ht, ⟨hn, ke⟩ | ⟨i, hi, rfl, h0, hr, ke⟩⟩ := q
  · rw [ht] at hn
    exact ⟨r, hv, by rw [u_stp, if_neg hn]; exact LT.mod fm h9 (by rw [ke]; exact hk), ⟨s9, h9, ht⟩, fun z => absurd z hn⟩
  · exact ⟨r, hv, by rw [u_stp, if_pos (ht.symm.trans h0)]; exact LT.mod fm h9 (hk.stop hi ke), ⟨s9, h9, ht⟩, fun _ => hr.trans (hk.bar hi)⟩
theorem km_knock (hl : l.stackTraces = false) {x : Nat} {c m : z_ky} {n : Int64} (w : z_W) (LT : z_LT x c m n w) : z_Con G l mX11_knock 10 0 0 w [.ref 1000] (fun v w9 => v = some (.int (m.1 + 1)) ∧ z_LT x c (m.1 + 1, m.2) n w9) (fun _ _ => False) := by
  obtain ⟨-, ⟨s, hs, hk⟩, -⟩ := id LT
  refine z_weak (cm_knock hl w s hs) (fun v w9 q => ?_) (fun _ _ h => h)
  obtain ⟨hv, fm, h9⟩ := q
  have e : s.1.2.2 = m.1 := hk.1
  exact ⟨by rw [hv, e], LT.mod (fm.le (by decide)) h9 ⟨by rw [← e]; rfl, hk.2⟩⟩
theorem km_pure {y : z_M} {rk mc ms : Nat} {av : List Value} {x : Nat} {c m : z_ky} {n : Int64} {w : z_W} {s : z_Z} {t : Int32} {R : Int32} (LT : z_LT x c m n w) (hk : z_kr m (z_key s)) (h : z_Con G l y rk mc ms w av (fun v w9 => ∃ (r : Int32) (s9 : z_Z), v = some (.int r) ∧ z_fm 59 w w9 ∧ z_mst w9 s9 ∧ z_key s9 = z_key s ∧ s9.1.1 = t ∧ (s9.1.1 = 0 → r = R)) (fun _ _ => False)) : z_Con G l y rk mc ms w av (fun v w9 => ∃ r : Int32, v = some (.int r) ∧ z_LT x c m n w9 ∧ z_trw w9 t ∧ (t = 0 → r = R)) (fun _ _ => False) := by
  refine z_weak h (fun v w9 q => ?_) (fun _ _ h => h)
  obtain ⟨r, s9, hv, fm, h9, ke, ht, hr⟩ := q
  exact ⟨r, hv, LT.mod fm h9 (by rw [ke]; exact hk), ⟨s9, h9, ht⟩, fun z => hr (ht.trans z)⟩
theorem km_given (hl : l.stackTraces = false) {x : Nat} {c m : z_ky} {n : Int64} (w : z_W) (LT : z_LT x c m n w) (r p q t : Int32) : z_Con G l mX11_given 20 0 0 w [.ref 1000, .int r, .int p, .int q, .int t] (fun v w9 => ∃ a : Int32, v = some (.int a) ∧ z_LT x c m n w9 ∧ z_trw w9 (q_k1 ((p < 0 ∨ 19 < p) ∨ (q < -1000 ∨ 999 < q) ∨ (r < 0 ∨ 5 < r) ∨ (t < -999 ∨ 999 < t))) ∧ (q_k1 ((p < 0 ∨ 19 < p) ∨ (q < -1000 ∨ 999 < q) ∨ (r < 0 ∨ 5 < r) ∨ (t < -999 ∨ 999 < t)) = 0 → a = (q_rt r p (q_d q) t).getD (-9))) (fun _ _ => False) := by
  obtain ⟨-, ⟨s, hs, hk⟩, -⟩ := id LT
  exact km_pure LT hk (cm_given_e hl w s r p q t hs)
theorem km_tested (hl : l.stackTraces = false) {x : Nat} {c m : z_ky} {n : Int64} (w : z_W) (LT : z_LT x c m n w) (r p q : Int32) : z_Con G l mX11_tested 20 0 0 w [.ref 1000, .int r, .int p, .int q] (fun v w9 => ∃ a : Int32, v = some (.int a) ∧ z_LT x c m n w9 ∧ z_trw w9 (q_k1 ((r < 0 ∨ 5 < r) ∨ (p < -999 ∨ 999 < p) ∨ (q < -999 ∨ 999 < q))) ∧ (q_k1 ((r < 0 ∨ 5 < r) ∨ (p < -999 ∨ 999 < p) ∨ (q < -999 ∨ 999 < q)) = 0 → a = (q_tt r p q).getD (-9))) (fun _ _ => False) := by
  obtain ⟨-, ⟨s, hs, hk⟩, -⟩ := id LT
  exact km_pure LT hk (cm_tested_e hl w s r p q hs)
theorem km_takeStep (hl : l.stackTraces = false) {x : Nat} {c m : z_ky} {n : Int64} (w : z_W) (LT : z_LT x c m n w) (r p : Int32) : z_Con G l mX11_takeStep 20 0 0 w [.ref 1000, .int r, .int p] (fun v w9 => ∃ a : Int32, v = some (.int a) ∧ z_LT x c m n w9 ∧ z_trw w9 (q_k1 ((p < -999 ∨ 999 < p) ∨ (r < -999 ∨ p < r))) ∧ (q_k1 ((p < -999 ∨ 999 < p) ∨ (r < -999 ∨ p < r)) = 0 → a = -9)) (fun _ _ => False) := by
  obtain ⟨-, ⟨s, hs, hk⟩, -⟩ := id LT
  exact km_pure LT hk (cm_takeStep_e hl w s r p hs)
end ZLawK
