section ZLiftK
variable {G : z_G} {l : Launch}
/-- what is told of the class between two calls: knocks, which rows are fixed, the hearers' stops -/
abbrev z_ky : Type := Int32 × Bool × Bool × Int32 × Int32
def z_WN (k : z_ky) (L : List z_E) : Prop := z_Wk k.1 k.2.1 k.2.2.1 k.2.2.2.1 k.2.2.2.2 L
theorem z_WN.C {k : z_ky} {L : List z_E} (h : z_WN k L) : L.length = 51 ∧ L.map (z_re (List.range 51)) = L := z_WkC h
theorem z_WN.Wn {k : z_ky} {L : List z_E} (h : z_WN k L) : z_Wn k.1 L := ⟨_, _, _, _, h⟩
def u_fix (k : z_ky) (r : Int32) (b : Bool) : z_ky := if r = 0 then (k.1, b, k.2.2) else if r = 1 then (k.1, k.2.1, b, k.2.2.2) else k
def u_isf (k : z_ky) (r : Int32) : Bool := if r = 0 then k.2.1 else k.2.2.1
def u_stop (k : z_ky) (r p : Int32) : z_ky := if r = 0 then (k.1, k.2.1, k.2.2.1, p, k.2.2.2.2) else if r = 1 then (k.1, k.2.1, k.2.2.1, k.2.2.2.1, p) else k
def u_bar (k : z_ky) (r : Int32) : Int32 := if r = 0 then k.2.2.2.1 else k.2.2.2.2
theorem u_fixn {k : z_ky} {r : Int32} {b : Bool} (h : q_k2 r = 1) : u_fix k r b = k := by
  have hn : ¬ (r = 0 ∨ r = 1) := fun z => by rw [q_k2, if_pos z] at h; exact absurd h (by decide)
  unfold u_fix
  rw [if_neg (fun z => hn (Or.inl z)), if_neg (fun z => hn (Or.inr z))]
set_option maxRecDepth 100000 in
theorem pk_type (hl : l.stackTraces = false) (w : z_W) (ky : z_ky) (hW : z_WN ky w.1) (r p : Int32) : z_Con G l mX8_type 20 14 120 w [.ref 0, .int r, .int p] (fun v w9 => (∃ x : Int32, v = some (.int x)) ∧ z_WN ky w9.1 ∧ z_hi w w9) (fun E w9 => z_xIAS E ∧ z_WN ky w9.1 ∧ z_hi w w9) := by
  obtain ⟨L, P⟩ := w
  obtain ⟨kn, xa, xb, b0, b1⟩ := ky
  obtain ⟨rf, ma, fa, ca, mb, fb, cb, mt, xt, ft, ct, f0, g0, c0, m0, s0, f1, g1, c1, m1, s1, f2, g2, c2, m2, s2, f3, g3, c3, m3, s3, f4, g4, c4, m4, s4, f5, g5, c5, m5, s5, ek0, em0, es0, el0, ef0, ek1, em1, es1, el1, ef1, h0, h1, h2, h3, h4, h5, hL⟩ := hW
  have hL : L = _ := hL
  subst hL
  refine z_weak (z_lift 51 rfl (by decide) z_cwR rfl (c_X8_type hl rf kn ma xa fa ca mb xb fb cb mt xt ft ct f0 g0 c0 m0 s0 f1 g1 c1 m1 s1 f2 g2 c2 m2 s2 f3 g3 c3 m3 s3 f4 g4 c4 m4 s4 f5 g5 c5 m5 s5 ek0 em0 es0 el0 b0 ef0 ek1 em1 es1 el1 b1 ef1 r p h0 h1 h2 h3 h4 h5) (fun v L' q => ?_) (fun E L' q => ?_)) (fun v w' q => ?_) (fun E w' q => ?_)
  · obtain ⟨⟨x, rfl⟩, q⟩ := q
    exact ⟨(z_WkC q).1, (z_WkC q).2, rfl⟩
  · obtain ⟨-, rfl⟩ := q
    exact ⟨rfl, z_cwR⟩
  · obtain ⟨q, hp⟩ := q
    obtain ⟨q1, q⟩ := q
    exact ⟨q1, q, z_hi.of (z_WkC q).1 hp⟩
  · obtain ⟨⟨q1, q2⟩, hp⟩ := q
    have q3 : z_Wk kn xa xb b0 b1 (z_cw rf kn ma xa fa ca mb xb fb cb mt xt ft ct f0 g0 c0 m0 s0 f1 g1 c1 m1 s1 f2 g2 c2 m2 s2 f3 g3 c3 m3 s3 f4 g4 c4 m4 s4 f5 g5 c5 m5 s5 ek0 em0 es0 el0 b0 ef0 ek1 em1 es1 el1 b1 ef1 []) := z_wk h0 h1 h2 h3 h4 h5
    exact ⟨q1, q2 ▸ q3, z_hi.of (by rw [q2]; rfl) hp⟩
set_option maxRecDepth 100000 in
theorem pk_drop (hl : l.stackTraces = false) (w : z_W) (ky : z_ky) (hW : z_WN ky w.1) (r p : Int32) : z_Con G l mX8_drop 20 14 120 w [.ref 0, .int r, .int p] (fun v w9 => (∃ x : Int32, v = some (.int x)) ∧ z_WN ky w9.1 ∧ z_hi w w9) (fun E w9 => z_xIA E ∧ z_WN ky w9.1 ∧ z_hi w w9) := by
  obtain ⟨L, P⟩ := w
  obtain ⟨kn, xa, xb, b0, b1⟩ := ky
  obtain ⟨rf, ma, fa, ca, mb, fb, cb, mt, xt, ft, ct, f0, g0, c0, m0, s0, f1, g1, c1, m1, s1, f2, g2, c2, m2, s2, f3, g3, c3, m3, s3, f4, g4, c4, m4, s4, f5, g5, c5, m5, s5, ek0, em0, es0, el0, ef0, ek1, em1, es1, el1, ef1, h0, h1, h2, h3, h4, h5, hL⟩ := hW
  have hL : L = _ := hL
  subst hL
  refine z_weak (z_lift 51 rfl (by decide) z_cwR rfl (c_X8_drop hl rf kn ma xa fa ca mb xb fb cb mt xt ft ct f0 g0 c0 m0 s0 f1 g1 c1 m1 s1 f2 g2 c2 m2 s2 f3 g3 c3 m3 s3 f4 g4 c4 m4 s4 f5 g5 c5 m5 s5 ek0 em0 es0 el0 b0 ef0 ek1 em1 es1 el1 b1 ef1 r p h0 h1 h2 h3 h4 h5) (fun v L' q => ?_) (fun E L' q => ?_)) (fun v w' q => ?_) (fun E w' q => ?_)
  · obtain ⟨⟨x, rfl⟩, q⟩ := q
    exact ⟨(z_WkC q).1, (z_WkC q).2, rfl⟩
  · obtain ⟨-, rfl⟩ := q
    exact ⟨rfl, z_cwR⟩
  · obtain ⟨q, hp⟩ := q
    obtain ⟨q1, q⟩ := q
    exact ⟨q1, q, z_hi.of (z_WkC q).1 hp⟩
  · obtain ⟨⟨q1, q2⟩, hp⟩ := q
    have q3 : z_Wk kn xa xb b0 b1 (z_cw rf kn ma xa fa ca mb xb fb cb mt xt ft ct f0 g0 c0 m0 s0 f1 g1 c1 m1 s1 f2 g2 c2 m2 s2 f3 g3 c3 m3 s3 f4 g4 c4 m4 s4 f5 g5 c5 m5 s5 ek0 em0 es0 el0 b0 ef0 ek1 em1 es1 el1 b1 ef1 []) := z_wk h0 h1 h2 h3 h4 h5
    exact ⟨q1, q2 ▸ q3, z_hi.of (by rw [q2]; rfl) hp⟩
set_option maxRecDepth 100000 in
theorem pk_fix (hl : l.stackTraces = false) (w : z_W) (ky : z_ky) (hW : z_WN ky w.1) (r : Int32) (b : Bool) : z_Con G l mX8_fix 20 14 120 w [.ref 0, .int r, .int (z_bi b)] (fun v w9 => q_k2 r = 0 ∧ v = some (.int (z_bi (u_isf ky r))) ∧ z_WN (u_fix ky r b) w9.1 ∧ z_hi w w9) (fun E w9 => (z_xI E ∧ q_k2 r = 1) ∧ z_WN ky w9.1 ∧ z_hi w w9) := by
  obtain ⟨L, P⟩ := w
  obtain ⟨kn, xa, xb, b0, b1⟩ := ky
  obtain ⟨rf, ma, fa, ca, mb, fb, cb, mt, xt, ft, ct, f0, g0, c0, m0, s0, f1, g1, c1, m1, s1, f2, g2, c2, m2, s2, f3, g3, c3, m3, s3, f4, g4, c4, m4, s4, f5, g5, c5, m5, s5, ek0, em0, es0, el0, ef0, ek1, em1, es1, el1, ef1, h0, h1, h2, h3, h4, h5, hL⟩ := hW
  have hL : L = _ := hL
  subst hL
  refine z_weak (z_lift 51 rfl (by decide) z_cwR rfl (c_X8_fix_e hl rf kn ma xa fa ca mb xb fb cb mt xt ft ct f0 g0 c0 m0 s0 f1 g1 c1 m1 s1 f2 g2 c2 m2 s2 f3 g3 c3 m3 s3 f4 g4 c4 m4 s4 f5 g5 c5 m5 s5 ek0 em0 es0 el0 b0 ef0 ek1 em1 es1 el1 b1 ef1 r b h0 h1 h2 h3 h4 h5) (fun v L' q => ?_) (fun E L' q => ?_)) (fun v w' q => ?_) (fun E w' q => ?_)
  · obtain ⟨-, b9, rfl, ⟨-, -, q⟩ | ⟨-, -, q⟩⟩ := q
    · exact ⟨(z_WkC q).1, (z_WkC q).2, rfl⟩
    exact ⟨(z_WkC q).1, (z_WkC q).2, rfl⟩
  · obtain ⟨-, rfl⟩ := q
    exact ⟨rfl, z_cwR⟩
  · obtain ⟨q, hp⟩ := q
    obtain ⟨hk, b9, q1, ⟨rfl, rfl, q⟩ | ⟨rfl, rfl, q⟩⟩ := q
    · exact ⟨hk, q1, q, z_hi.of (z_WkC q).1 hp⟩
    · exact ⟨hk, q1, q, z_hi.of (z_WkC q).1 hp⟩
  · obtain ⟨⟨q1, q2⟩, hp⟩ := q
    have q3 : z_Wk kn xa xb b0 b1 (z_cw rf kn ma xa fa ca mb xb fb cb mt xt ft ct f0 g0 c0 m0 s0 f1 g1 c1 m1 s1 f2 g2 c2 m2 s2 f3 g3 c3 m3 s3 f4 g4 c4 m4 s4 f5 g5 c5 m5 s5 ek0 em0 es0 el0 b0 ef0 ek1 em1 es1 el1 b1 ef1 []) := z_wk h0 h1 h2 h3 h4 h5
    exact ⟨q1, q2 ▸ q3, z_hi.of (by rw [q2]; rfl) hp⟩
set_option maxRecDepth 100000 in
theorem pk_hear (hl : l.stackTraces = false) (w : z_W) (ky : z_ky) (hW : z_WN ky w.1) (r p : Int32) : z_Con G l mX8_hear 20 14 120 w [.ref 0, .int r, .int p] (fun v w9 => (∃ x : Int32, v = some (.int x)) ∧ z_WN ky w9.1 ∧ z_hi w w9) (fun E w9 => z_xI E ∧ z_WN ky w9.1 ∧ z_hi w w9) := by
  obtain ⟨L, P⟩ := w
  obtain ⟨kn, xa, xb, b0, b1⟩ := ky
  obtain ⟨rf, ma, fa, ca, mb, fb, cb, mt, xt, ft, ct, f0, g0, c0, m0, s0, f1, g1, c1, m1, s1, f2, g2, c2, m2, s2, f3, g3, c3, m3, s3, f4, g4, c4, m4, s4, f5, g5, c5, m5, s5, ek0, em0, es0, el0, ef0, ek1, em1, es1, el1, ef1, h0, h1, h2, h3, h4, h5, hL⟩ := hW
  have hL : L = _ := hL
  subst hL
  refine z_weak (z_lift 51 rfl (by decide) z_cwR rfl (c_X8_hear hl rf kn ma xa fa ca mb xb fb cb mt xt ft ct f0 g0 c0 m0 s0 f1 g1 c1 m1 s1 f2 g2 c2 m2 s2 f3 g3 c3 m3 s3 f4 g4 c4 m4 s4 f5 g5 c5 m5 s5 ek0 em0 es0 el0 b0 ef0 ek1 em1 es1 el1 b1 ef1 r p h0 h1 h2 h3 h4 h5) (fun v L' q => ?_) (fun E L' q => ?_)) (fun v w' q => ?_) (fun E w' q => ?_)
  · obtain ⟨⟨x, rfl⟩, q⟩ := q
    exact ⟨(z_WkC q).1, (z_WkC q).2, rfl⟩
  · obtain ⟨-, rfl⟩ := q
    exact ⟨rfl, z_cwR⟩
  · obtain ⟨q, hp⟩ := q
    obtain ⟨q1, q⟩ := q
    exact ⟨q1, q, z_hi.of (z_WkC q).1 hp⟩
  · obtain ⟨⟨q1, q2⟩, hp⟩ := q
    have q3 : z_Wk kn xa xb b0 b1 (z_cw rf kn ma xa fa ca mb xb fb cb mt xt ft ct f0 g0 c0 m0 s0 f1 g1 c1 m1 s1 f2 g2 c2 m2 s2 f3 g3 c3 m3 s3 f4 g4 c4 m4 s4 f5 g5 c5 m5 s5 ek0 em0 es0 el0 b0 ef0 ek1 em1 es1 el1 b1 ef1 []) := z_wk h0 h1 h2 h3 h4 h5
    exact ⟨q1, q2 ▸ q3, z_hi.of (by rw [q2]; rfl) hp⟩
set_option maxRecDepth 100000 in
theorem pk_rest (hl : l.stackTraces = false) (w : z_W) (ky : z_ky) (hW : z_WN ky w.1) (r p q : Int32) : z_Con G l mX8_rest 20 14 120 w [.ref 0, .int r, .int p, .int q] (fun v w9 => (∃ x : Int32, v = some (.int x)) ∧ z_WN ky w9.1 ∧ z_hi w w9) (fun E w9 => z_xIA E ∧ z_WN ky w9.1 ∧ z_hi w w9) := by
  obtain ⟨L, P⟩ := w
  obtain ⟨kn, xa, xb, b0, b1⟩ := ky
  obtain ⟨rf, ma, fa, ca, mb, fb, cb, mt, xt, ft, ct, f0, g0, c0, m0, s0, f1, g1, c1, m1, s1, f2, g2, c2, m2, s2, f3, g3, c3, m3, s3, f4, g4, c4, m4, s4, f5, g5, c5, m5, s5, ek0, em0, es0, el0, ef0, ek1, em1, es1, el1, ef1, h0, h1, h2, h3, h4, h5, hL⟩ := hW
  have hL : L = _ := hL
  subst hL
  refine z_weak (z_lift 51 rfl (by decide) z_cwR rfl (c_X8_rest hl rf kn ma xa fa ca mb xb fb cb mt xt ft ct f0 g0 c0 m0 s0 f1 g1 c1 m1 s1 f2 g2 c2 m2 s2 f3 g3 c3 m3 s3 f4 g4 c4 m4 s4 f5 g5 c5 m5 s5 ek0 em0 es0 el0 b0 ef0 ek1 em1 es1 el1 b1 ef1 r p q h0 h1 h2 h3 h4 h5) (fun v L' q => ?_) (fun E L' q => ?_)) (fun v w' q => ?_) (fun E w' q => ?_)
  · obtain ⟨⟨x, rfl⟩, q⟩ := q
    exact ⟨(z_WkC q).1, (z_WkC q).2, rfl⟩
  · obtain ⟨-, rfl⟩ := q
    exact ⟨rfl, z_cwR⟩
  · obtain ⟨q, hp⟩ := q
    obtain ⟨q1, q⟩ := q
    exact ⟨q1, q, z_hi.of (z_WkC q).1 hp⟩
  · obtain ⟨⟨q1, q2⟩, hp⟩ := q
    have q3 : z_Wk kn xa xb b0 b1 (z_cw rf kn ma xa fa ca mb xb fb cb mt xt ft ct f0 g0 c0 m0 s0 f1 g1 c1 m1 s1 f2 g2 c2 m2 s2 f3 g3 c3 m3 s3 f4 g4 c4 m4 s4 f5 g5 c5 m5 s5 ek0 em0 es0 el0 b0 ef0 ek1 em1 es1 el1 b1 ef1 []) := z_wk h0 h1 h2 h3 h4 h5
    exact ⟨q1, q2 ▸ q3, z_hi.of (by rw [q2]; rfl) hp⟩
set_option maxRecDepth 100000 in
theorem pk_removeIf (hl : l.stackTraces = false) (w : z_W) (ky : z_ky) (hW : z_WN ky w.1) (r p q : Int32) : z_Con G l mX8_removeIf 20 14 120 w [.ref 0, .int r, .int p, .int q] (fun v w9 => (∃ x : Int32, v = some (.int x)) ∧ z_WN ky w9.1 ∧ z_hi w w9) (fun E w9 => z_xIA E ∧ z_WN ky w9.1 ∧ z_hi w w9) := by
  obtain ⟨L, P⟩ := w
  obtain ⟨kn, xa, xb, b0, b1⟩ := ky
  obtain ⟨rf, ma, fa, ca, mb, fb, cb, mt, xt, ft, ct, f0, g0, c0, m0, s0, f1, g1, c1, m1, s1, f2, g2, c2, m2, s2, f3, g3, c3, m3, s3, f4, g4, c4, m4, s4, f5, g5, c5, m5, s5, ek0, em0, es0, el0, ef0, ek1, em1, es1, el1, ef1, h0, h1, h2, h3, h4, h5, hL⟩ := hW
  have hL : L = _ := hL
  subst hL
  refine z_weak (z_lift 51 rfl (by decide) z_cwR rfl (c_X8_removeIf hl rf kn ma xa fa ca mb xb fb cb mt xt ft ct f0 g0 c0 m0 s0 f1 g1 c1 m1 s1 f2 g2 c2 m2 s2 f3 g3 c3 m3 s3 f4 g4 c4 m4 s4 f5 g5 c5 m5 s5 ek0 em0 es0 el0 b0 ef0 ek1 em1 es1 el1 b1 ef1 r p q h0 h1 h2 h3 h4 h5) (fun v L' q => ?_) (fun E L' q => ?_)) (fun v w' q => ?_) (fun E w' q => ?_)
  · obtain ⟨⟨x, rfl⟩, q⟩ := q
    exact ⟨(z_WkC q).1, (z_WkC q).2, rfl⟩
  · obtain ⟨-, rfl⟩ := q
    exact ⟨rfl, z_cwR⟩
  · obtain ⟨q, hp⟩ := q
    obtain ⟨q1, q⟩ := q
    exact ⟨q1, q, z_hi.of (z_WkC q).1 hp⟩
  · obtain ⟨⟨q1, q2⟩, hp⟩ := q
    have q3 : z_Wk kn xa xb b0 b1 (z_cw rf kn ma xa fa ca mb xb fb cb mt xt ft ct f0 g0 c0 m0 s0 f1 g1 c1 m1 s1 f2 g2 c2 m2 s2 f3 g3 c3 m3 s3 f4 g4 c4 m4 s4 f5 g5 c5 m5 s5 ek0 em0 es0 el0 b0 ef0 ek1 em1 es1 el1 b1 ef1 []) := z_wk h0 h1 h2 h3 h4 h5
    exact ⟨q1, q2 ▸ q3, z_hi.of (by rw [q2]; rfl) hp⟩
set_option maxRecDepth 100000 in
theorem pk_replaceAll (hl : l.stackTraces = false) (w : z_W) (ky : z_ky) (hW : z_WN ky w.1) (r p q : Int32) : z_Con G l mX8_replaceAll 20 14 120 w [.ref 0, .int r, .int p, .int q] (fun v w9 => (∃ x : Int32, v = some (.int x)) ∧ z_WN ky w9.1 ∧ z_hi w w9) (fun E w9 => z_xIA E ∧ z_WN ky w9.1 ∧ z_hi w w9) := by
  obtain ⟨L, P⟩ := w
  obtain ⟨kn, xa, xb, b0, b1⟩ := ky
  obtain ⟨rf, ma, fa, ca, mb, fb, cb, mt, xt, ft, ct, f0, g0, c0, m0, s0, f1, g1, c1, m1, s1, f2, g2, c2, m2, s2, f3, g3, c3, m3, s3, f4, g4, c4, m4, s4, f5, g5, c5, m5, s5, ek0, em0, es0, el0, ef0, ek1, em1, es1, el1, ef1, h0, h1, h2, h3, h4, h5, hL⟩ := hW
  have hL : L = _ := hL
  subst hL
  refine z_weak (z_lift 51 rfl (by decide) z_cwR rfl (c_X8_replaceAll hl rf kn ma xa fa ca mb xb fb cb mt xt ft ct f0 g0 c0 m0 s0 f1 g1 c1 m1 s1 f2 g2 c2 m2 s2 f3 g3 c3 m3 s3 f4 g4 c4 m4 s4 f5 g5 c5 m5 s5 ek0 em0 es0 el0 b0 ef0 ek1 em1 es1 el1 b1 ef1 r p q h0 h1 h2 h3 h4 h5) (fun v L' q => ?_) (fun E L' q => ?_)) (fun v w' q => ?_) (fun E w' q => ?_)
  · obtain ⟨⟨x, rfl⟩, q⟩ := q
    exact ⟨(z_WkC q).1, (z_WkC q).2, rfl⟩
  · obtain ⟨-, rfl⟩ := q
    exact ⟨rfl, z_cwR⟩
  · obtain ⟨q, hp⟩ := q
    obtain ⟨q1, q⟩ := q
    exact ⟨q1, q, z_hi.of (z_WkC q).1 hp⟩
  · obtain ⟨⟨q1, q2⟩, hp⟩ := q
    have q3 : z_Wk kn xa xb b0 b1 (z_cw rf kn ma xa fa ca mb xb fb cb mt xt ft ct f0 g0 c0 m0 s0 f1 g1 c1 m1 s1 f2 g2 c2 m2 s2 f3 g3 c3 m3 s3 f4 g4 c4 m4 s4 f5 g5 c5 m5 s5 ek0 em0 es0 el0 b0 ef0 ek1 em1 es1 el1 b1 ef1 []) := z_wk h0 h1 h2 h3 h4 h5
    exact ⟨q1, q2 ▸ q3, z_hi.of (by rw [q2]; rfl) hp⟩
set_option maxRecDepth 100000 in
theorem pk_copy (hl : l.stackTraces = false) (w : z_W) (ky : z_ky) (hW : z_WN ky w.1) (r : Int32) : z_Con G l mX8_copy 20 14 120 w [.ref 0, .int r] (fun v w9 => (∃ x : Int32, v = some (.int x)) ∧ z_WN ky w9.1 ∧ z_hi w w9) (fun E w9 => z_xI E ∧ z_WN ky w9.1 ∧ z_hi w w9) := by
  obtain ⟨L, P⟩ := w
  obtain ⟨kn, xa, xb, b0, b1⟩ := ky
  obtain ⟨rf, ma, fa, ca, mb, fb, cb, mt, xt, ft, ct, f0, g0, c0, m0, s0, f1, g1, c1, m1, s1, f2, g2, c2, m2, s2, f3, g3, c3, m3, s3, f4, g4, c4, m4, s4, f5, g5, c5, m5, s5, ek0, em0, es0, el0, ef0, ek1, em1, es1, el1, ef1, h0, h1, h2, h3, h4, h5, hL⟩ := hW
  have hL : L = _ := hL
  subst hL
  refine z_weak (z_lift 51 rfl (by decide) z_cwR rfl (c_X8_copy hl rf kn ma xa fa ca mb xb fb cb mt xt ft ct f0 g0 c0 m0 s0 f1 g1 c1 m1 s1 f2 g2 c2 m2 s2 f3 g3 c3 m3 s3 f4 g4 c4 m4 s4 f5 g5 c5 m5 s5 ek0 em0 es0 el0 b0 ef0 ek1 em1 es1 el1 b1 ef1 r h0 h1 h2 h3 h4 h5) (fun v L' q => ?_) (fun E L' q => ?_)) (fun v w' q => ?_) (fun E w' q => ?_)
  · obtain ⟨⟨x, rfl⟩, q⟩ := q
    exact ⟨(z_WkC q).1, (z_WkC q).2, rfl⟩
  · obtain ⟨-, rfl⟩ := q
    exact ⟨rfl, z_cwR⟩
  · obtain ⟨q, hp⟩ := q
    obtain ⟨q1, q⟩ := q
    exact ⟨q1, q, z_hi.of (z_WkC q).1 hp⟩
  · obtain ⟨⟨q1, q2⟩, hp⟩ := q
    have q3 : z_Wk kn xa xb b0 b1 (z_cw rf kn ma xa fa ca mb xb fb cb mt xt ft ct f0 g0 c0 m0 s0 f1 g1 c1 m1 s1 f2 g2 c2 m2 s2 f3 g3 c3 m3 s3 f4 g4 c4 m4 s4 f5 g5 c5 m5 s5 ek0 em0 es0 el0 b0 ef0 ek1 em1 es1 el1 b1 ef1 []) := z_wk h0 h1 h2 h3 h4 h5
    exact ⟨q1, q2 ▸ q3, z_hi.of (by rw [q2]; rfl) hp⟩
set_option maxRecDepth 100000 in
theorem pk_put (hl : l.stackTraces = false) (w : z_W) (ky : z_ky) (hW : z_WN ky w.1) (r p q : Int32) : z_Con G l mX8_put 20 14 120 w [.ref 0, .int r, .int p, .int q] (fun v w9 => (∃ x : Int32, v = some (.int x)) ∧ z_WN ky w9.1 ∧ z_hi w w9) (fun E w9 => z_xIA E ∧ z_WN ky w9.1 ∧ z_hi w w9) := by
  obtain ⟨L, P⟩ := w
  obtain ⟨kn, xa, xb, b0, b1⟩ := ky
  obtain ⟨rf, ma, fa, ca, mb, fb, cb, mt, xt, ft, ct, f0, g0, c0, m0, s0, f1, g1, c1, m1, s1, f2, g2, c2, m2, s2, f3, g3, c3, m3, s3, f4, g4, c4, m4, s4, f5, g5, c5, m5, s5, ek0, em0, es0, el0, ef0, ek1, em1, es1, el1, ef1, h0, h1, h2, h3, h4, h5, hL⟩ := hW
  have hL : L = _ := hL
  subst hL
  refine z_weak (z_lift 51 rfl (by decide) z_cwR rfl (c_X8_put hl rf kn ma xa fa ca mb xb fb cb mt xt ft ct f0 g0 c0 m0 s0 f1 g1 c1 m1 s1 f2 g2 c2 m2 s2 f3 g3 c3 m3 s3 f4 g4 c4 m4 s4 f5 g5 c5 m5 s5 ek0 em0 es0 el0 b0 ef0 ek1 em1 es1 el1 b1 ef1 r p q h0 h1 h2 h3 h4 h5) (fun v L' q => ?_) (fun E L' q => ?_)) (fun v w' q => ?_) (fun E w' q => ?_)
  · obtain ⟨⟨x, rfl⟩, q⟩ := q
    exact ⟨(z_WkC q).1, (z_WkC q).2, rfl⟩
  · obtain ⟨-, rfl⟩ := q
    exact ⟨rfl, z_cwR⟩
  · obtain ⟨q, hp⟩ := q
    obtain ⟨q1, q⟩ := q
    exact ⟨q1, q, z_hi.of (z_WkC q).1 hp⟩
  · obtain ⟨⟨q1, q2⟩, hp⟩ := q
    have q3 : z_Wk kn xa xb b0 b1 (z_cw rf kn ma xa fa ca mb xb fb cb mt xt ft ct f0 g0 c0 m0 s0 f1 g1 c1 m1 s1 f2 g2 c2 m2 s2 f3 g3 c3 m3 s3 f4 g4 c4 m4 s4 f5 g5 c5 m5 s5 ek0 em0 es0 el0 b0 ef0 ek1 em1 es1 el1 b1 ef1 []) := z_wk h0 h1 h2 h3 h4 h5
    exact ⟨q1, q2 ▸ q3, z_hi.of (by rw [q2]; rfl) hp⟩
set_option maxRecDepth 100000 in
theorem pk_putIfAbsent (hl : l.stackTraces = false) (w : z_W) (ky : z_ky) (hW : z_WN ky w.1) (r p q : Int32) : z_Con G l mX8_putIfAbsent 20 14 120 w [.ref 0, .int r, .int p, .int q] (fun v w9 => (∃ x : Int32, v = some (.int x)) ∧ z_WN ky w9.1 ∧ z_hi w w9) (fun E w9 => z_xIA E ∧ z_WN ky w9.1 ∧ z_hi w w9) := by
  obtain ⟨L, P⟩ := w
  obtain ⟨kn, xa, xb, b0, b1⟩ := ky
  obtain ⟨rf, ma, fa, ca, mb, fb, cb, mt, xt, ft, ct, f0, g0, c0, m0, s0, f1, g1, c1, m1, s1, f2, g2, c2, m2, s2, f3, g3, c3, m3, s3, f4, g4, c4, m4, s4, f5, g5, c5, m5, s5, ek0, em0, es0, el0, ef0, ek1, em1, es1, el1, ef1, h0, h1, h2, h3, h4, h5, hL⟩ := hW
  have hL : L = _ := hL
  subst hL
  refine z_weak (z_lift 51 rfl (by decide) z_cwR rfl (c_X8_putIfAbsent hl rf kn ma xa fa ca mb xb fb cb mt xt ft ct f0 g0 c0 m0 s0 f1 g1 c1 m1 s1 f2 g2 c2 m2 s2 f3 g3 c3 m3 s3 f4 g4 c4 m4 s4 f5 g5 c5 m5 s5 ek0 em0 es0 el0 b0 ef0 ek1 em1 es1 el1 b1 ef1 r p q h0 h1 h2 h3 h4 h5) (fun v L' q => ?_) (fun E L' q => ?_)) (fun v w' q => ?_) (fun E w' q => ?_)
  · obtain ⟨⟨x, rfl⟩, q⟩ := q
    exact ⟨(z_WkC q).1, (z_WkC q).2, rfl⟩
  · obtain ⟨-, rfl⟩ := q
    exact ⟨rfl, z_cwR⟩
  · obtain ⟨q, hp⟩ := q
    obtain ⟨q1, q⟩ := q
    exact ⟨q1, q, z_hi.of (z_WkC q).1 hp⟩
  · obtain ⟨⟨q1, q2⟩, hp⟩ := q
    have q3 : z_Wk kn xa xb b0 b1 (z_cw rf kn ma xa fa ca mb xb fb cb mt xt ft ct f0 g0 c0 m0 s0 f1 g1 c1 m1 s1 f2 g2 c2 m2 s2 f3 g3 c3 m3 s3 f4 g4 c4 m4 s4 f5 g5 c5 m5 s5 ek0 em0 es0 el0 b0 ef0 ek1 em1 es1 el1 b1 ef1 []) := z_wk h0 h1 h2 h3 h4 h5
    exact ⟨q1, q2 ▸ q3, z_hi.of (by rw [q2]; rfl) hp⟩
set_option maxRecDepth 100000 in
theorem pk_replace (hl : l.stackTraces = false) (w : z_W) (ky : z_ky) (hW : z_WN ky w.1) (r p q : Int32) : z_Con G l mX8_replace 20 14 120 w [.ref 0, .int r, .int p, .int q] (fun v w9 => (∃ x : Int32, v = some (.int x)) ∧ z_WN ky w9.1 ∧ z_hi w w9) (fun E w9 => z_xIA E ∧ z_WN ky w9.1 ∧ z_hi w w9) := by
  obtain ⟨L, P⟩ := w
  obtain ⟨kn, xa, xb, b0, b1⟩ := ky
  obtain ⟨rf, ma, fa, ca, mb, fb, cb, mt, xt, ft, ct, f0, g0, c0, m0, s0, f1, g1, c1, m1, s1, f2, g2, c2, m2, s2, f3, g3, c3, m3, s3, f4, g4, c4, m4, s4, f5, g5, c5, m5, s5, ek0, em0, es0, el0, ef0, ek1, em1, es1, el1, ef1, h0, h1, h2, h3, h4, h5, hL⟩ := hW
  have hL : L = _ := hL
  subst hL
  refine z_weak (z_lift 51 rfl (by decide) z_cwR rfl (c_X8_replace hl rf kn ma xa fa ca mb xb fb cb mt xt ft ct f0 g0 c0 m0 s0 f1 g1 c1 m1 s1 f2 g2 c2 m2 s2 f3 g3 c3 m3 s3 f4 g4 c4 m4 s4 f5 g5 c5 m5 s5 ek0 em0 es0 el0 b0 ef0 ek1 em1 es1 el1 b1 ef1 r p q h0 h1 h2 h3 h4 h5) (fun v L' q => ?_) (fun E L' q => ?_)) (fun v w' q => ?_) (fun E w' q => ?_)
  · obtain ⟨⟨x, rfl⟩, q⟩ := q
    exact ⟨(z_WkC q).1, (z_WkC q).2, rfl⟩
  · obtain ⟨-, rfl⟩ := q
    exact ⟨rfl, z_cwR⟩
  · obtain ⟨q, hp⟩ := q
    obtain ⟨q1, q⟩ := q
    exact ⟨q1, q, z_hi.of (z_WkC q).1 hp⟩
  · obtain ⟨⟨q1, q2⟩, hp⟩ := q
    have q3 : z_Wk kn xa xb b0 b1 (z_cw rf kn ma xa fa ca mb xb fb cb mt xt ft ct f0 g0 c0 m0 s0 f1 g1 c1 m1 s1 f2 g2 c2 m2 s2 f3 g3 c3 m3 s3 f4 g4 c4 m4 s4 f5 g5 c5 m5 s5 ek0 em0 es0 el0 b0 ef0 ek1 em1 es1 el1 b1 ef1 []) := z_wk h0 h1 h2 h3 h4 h5
    exact ⟨q1, q2 ▸ q3, z_hi.of (by rw [q2]; rfl) hp⟩
set_option maxRecDepth 100000 in
theorem pk_remove (hl : l.stackTraces = false) (w : z_W) (ky : z_ky) (hW : z_WN ky w.1) (r p : Int32) : z_Con G l mX8_remove 20 14 120 w [.ref 0, .int r, .int p] (fun v w9 => (∃ x : Int32, v = some (.int x)) ∧ z_WN ky w9.1 ∧ z_hi w w9) (fun E w9 => z_xIA E ∧ z_WN ky w9.1 ∧ z_hi w w9) := by
  obtain ⟨L, P⟩ := w
  obtain ⟨kn, xa, xb, b0, b1⟩ := ky
  obtain ⟨rf, ma, fa, ca, mb, fb, cb, mt, xt, ft, ct, f0, g0, c0, m0, s0, f1, g1, c1, m1, s1, f2, g2, c2, m2, s2, f3, g3, c3, m3, s3, f4, g4, c4, m4, s4, f5, g5, c5, m5, s5, ek0, em0, es0, el0, ef0, ek1, em1, es1, el1, ef1, h0, h1, h2, h3, h4, h5, hL⟩ := hW
  have hL : L = _ := hL
  subst hL
  refine z_weak (z_lift 51 rfl (by decide) z_cwR rfl (c_X8_remove hl rf kn ma xa fa ca mb xb fb cb mt xt ft ct f0 g0 c0 m0 s0 f1 g1 c1 m1 s1 f2 g2 c2 m2 s2 f3 g3 c3 m3 s3 f4 g4 c4 m4 s4 f5 g5 c5 m5 s5 ek0 em0 es0 el0 b0 ef0 ek1 em1 es1 el1 b1 ef1 r p h0 h1 h2 h3 h4 h5) (fun v L' q => ?_) (fun E L' q => ?_)) (fun v w' q => ?_) (fun E w' q => ?_)
  · obtain ⟨⟨x, rfl⟩, q⟩ := q
    exact ⟨(z_WkC q).1, (z_WkC q).2, rfl⟩
  · obtain ⟨-, rfl⟩ := q
    exact ⟨rfl, z_cwR⟩
  · obtain ⟨q, hp⟩ := q
    obtain ⟨q1, q⟩ := q
    exact ⟨q1, q, z_hi.of (z_WkC q).1 hp⟩
  · obtain ⟨⟨q1, q2⟩, hp⟩ := q
    have q3 : z_Wk kn xa xb b0 b1 (z_cw rf kn ma xa fa ca mb xb fb cb mt xt ft ct f0 g0 c0 m0 s0 f1 g1 c1 m1 s1 f2 g2 c2 m2 s2 f3 g3 c3 m3 s3 f4 g4 c4 m4 s4 f5 g5 c5 m5 s5 ek0 em0 es0 el0 b0 ef0 ek1 em1 es1 el1 b1 ef1 []) := z_wk h0 h1 h2 h3 h4 h5
    exact ⟨q1, q2 ▸ q3, z_hi.of (by rw [q2]; rfl) hp⟩
set_option maxRecDepth 100000 in
theorem pk_replaceIf (hl : l.stackTraces = false) (w : z_W) (ky : z_ky) (hW : z_WN ky w.1) (r p q t : Int32) : z_Con G l mX8_replaceIf 20 14 120 w [.ref 0, .int r, .int p, .int q, .int t] (fun v w9 => (∃ b9 : Bool, v = some (.int (z_bi b9))) ∧ z_WN ky w9.1 ∧ z_hi w w9) (fun E w9 => z_xIA E ∧ z_WN ky w9.1 ∧ z_hi w w9) := by
  obtain ⟨L, P⟩ := w
  obtain ⟨kn, xa, xb, b0, b1⟩ := ky
  obtain ⟨rf, ma, fa, ca, mb, fb, cb, mt, xt, ft, ct, f0, g0, c0, m0, s0, f1, g1, c1, m1, s1, f2, g2, c2, m2, s2, f3, g3, c3, m3, s3, f4, g4, c4, m4, s4, f5, g5, c5, m5, s5, ek0, em0, es0, el0, ef0, ek1, em1, es1, el1, ef1, h0, h1, h2, h3, h4, h5, hL⟩ := hW
  have hL : L = _ := hL
  subst hL
  refine z_weak (z_lift 51 rfl (by decide) z_cwR rfl (c_X8_replaceIf hl rf kn ma xa fa ca mb xb fb cb mt xt ft ct f0 g0 c0 m0 s0 f1 g1 c1 m1 s1 f2 g2 c2 m2 s2 f3 g3 c3 m3 s3 f4 g4 c4 m4 s4 f5 g5 c5 m5 s5 ek0 em0 es0 el0 b0 ef0 ek1 em1 es1 el1 b1 ef1 r p q t h0 h1 h2 h3 h4 h5) (fun v L' q => ?_) (fun E L' q => ?_)) (fun v w' q => ?_) (fun E w' q => ?_)
  · obtain ⟨⟨x, rfl⟩, q⟩ := q
    exact ⟨(z_WkC q).1, (z_WkC q).2, rfl⟩
  · obtain ⟨-, rfl⟩ := q
    exact ⟨rfl, z_cwR⟩
  · obtain ⟨q, hp⟩ := q
    obtain ⟨q1, q⟩ := q
    exact ⟨q1, q, z_hi.of (z_WkC q).1 hp⟩
  · obtain ⟨⟨q1, q2⟩, hp⟩ := q
    have q3 : z_Wk kn xa xb b0 b1 (z_cw rf kn ma xa fa ca mb xb fb cb mt xt ft ct f0 g0 c0 m0 s0 f1 g1 c1 m1 s1 f2 g2 c2 m2 s2 f3 g3 c3 m3 s3 f4 g4 c4 m4 s4 f5 g5 c5 m5 s5 ek0 em0 es0 el0 b0 ef0 ek1 em1 es1 el1 b1 ef1 []) := z_wk h0 h1 h2 h3 h4 h5
    exact ⟨q1, q2 ▸ q3, z_hi.of (by rw [q2]; rfl) hp⟩
set_option maxRecDepth 100000 in
theorem pk_removePair (hl : l.stackTraces = false) (w : z_W) (ky : z_ky) (hW : z_WN ky w.1) (r p q : Int32) : z_Con G l mX8_removePair 20 14 120 w [.ref 0, .int r, .int p, .int q] (fun v w9 => (∃ b9 : Bool, v = some (.int (z_bi b9))) ∧ z_WN ky w9.1 ∧ z_hi w w9) (fun E w9 => z_xIA E ∧ z_WN ky w9.1 ∧ z_hi w w9) := by
  obtain ⟨L, P⟩ := w
  obtain ⟨kn, xa, xb, b0, b1⟩ := ky
  obtain ⟨rf, ma, fa, ca, mb, fb, cb, mt, xt, ft, ct, f0, g0, c0, m0, s0, f1, g1, c1, m1, s1, f2, g2, c2, m2, s2, f3, g3, c3, m3, s3, f4, g4, c4, m4, s4, f5, g5, c5, m5, s5, ek0, em0, es0, el0, ef0, ek1, em1, es1, el1, ef1, h0, h1, h2, h3, h4, h5, hL⟩ := hW
  have hL : L = _ := hL
  subst hL
  refine z_weak (z_lift 51 rfl (by decide) z_cwR rfl (c_X8_removePair hl rf kn ma xa fa ca mb xb fb cb mt xt ft ct f0 g0 c0 m0 s0 f1 g1 c1 m1 s1 f2 g2 c2 m2 s2 f3 g3 c3 m3 s3 f4 g4 c4 m4 s4 f5 g5 c5 m5 s5 ek0 em0 es0 el0 b0 ef0 ek1 em1 es1 el1 b1 ef1 r p q h0 h1 h2 h3 h4 h5) (fun v L' q => ?_) (fun E L' q => ?_)) (fun v w' q => ?_) (fun E w' q => ?_)
  · obtain ⟨⟨x, rfl⟩, q⟩ := q
    exact ⟨(z_WkC q).1, (z_WkC q).2, rfl⟩
  · obtain ⟨-, rfl⟩ := q
    exact ⟨rfl, z_cwR⟩
  · obtain ⟨q, hp⟩ := q
    obtain ⟨q1, q⟩ := q
    exact ⟨q1, q, z_hi.of (z_WkC q).1 hp⟩
  · obtain ⟨⟨q1, q2⟩, hp⟩ := q
    have q3 : z_Wk kn xa xb b0 b1 (z_cw rf kn ma xa fa ca mb xb fb cb mt xt ft ct f0 g0 c0 m0 s0 f1 g1 c1 m1 s1 f2 g2 c2 m2 s2 f3 g3 c3 m3 s3 f4 g4 c4 m4 s4 f5 g5 c5 m5 s5 ek0 em0 es0 el0 b0 ef0 ek1 em1 es1 el1 b1 ef1 []) := z_wk h0 h1 h2 h3 h4 h5
    exact ⟨q1, q2 ▸ q3, z_hi.of (by rw [q2]; rfl) hp⟩
set_option maxRecDepth 100000 in
theorem pk_computeIfAbsent (hl : l.stackTraces = false) (w : z_W) (ky : z_ky) (hW : z_WN ky w.1) (r p q t : Int32) : z_Con G l mX8_computeIfAbsent 20 14 120 w [.ref 0, .int r, .int p, .int q, .int t] (fun v w9 => (∃ x : Int32, v = some (.int x)) ∧ z_WN ky w9.1 ∧ z_hi w w9) (fun E w9 => z_xIA E ∧ z_WN ky w9.1 ∧ z_hi w w9) := by
  obtain ⟨L, P⟩ := w
  obtain ⟨kn, xa, xb, b0, b1⟩ := ky
  obtain ⟨rf, ma, fa, ca, mb, fb, cb, mt, xt, ft, ct, f0, g0, c0, m0, s0, f1, g1, c1, m1, s1, f2, g2, c2, m2, s2, f3, g3, c3, m3, s3, f4, g4, c4, m4, s4, f5, g5, c5, m5, s5, ek0, em0, es0, el0, ef0, ek1, em1, es1, el1, ef1, h0, h1, h2, h3, h4, h5, hL⟩ := hW
  have hL : L = _ := hL
  subst hL
  refine z_weak (z_lift 51 rfl (by decide) z_cwR rfl (c_X8_computeIfAbsent hl rf kn ma xa fa ca mb xb fb cb mt xt ft ct f0 g0 c0 m0 s0 f1 g1 c1 m1 s1 f2 g2 c2 m2 s2 f3 g3 c3 m3 s3 f4 g4 c4 m4 s4 f5 g5 c5 m5 s5 ek0 em0 es0 el0 b0 ef0 ek1 em1 es1 el1 b1 ef1 r p q t h0 h1 h2 h3 h4 h5) (fun v L' q => ?_) (fun E L' q => ?_)) (fun v w' q => ?_) (fun E w' q => ?_)
  · obtain ⟨⟨x, rfl⟩, q⟩ := q
    exact ⟨(z_WkC q).1, (z_WkC q).2, rfl⟩
  · obtain ⟨-, rfl⟩ := q
    exact ⟨rfl, z_cwR⟩
  · obtain ⟨q, hp⟩ := q
    obtain ⟨q1, q⟩ := q
    exact ⟨q1, q, z_hi.of (z_WkC q).1 hp⟩
  · obtain ⟨⟨q1, q2⟩, hp⟩ := q
    have q3 : z_Wk kn xa xb b0 b1 (z_cw rf kn ma xa fa ca mb xb fb cb mt xt ft ct f0 g0 c0 m0 s0 f1 g1 c1 m1 s1 f2 g2 c2 m2 s2 f3 g3 c3 m3 s3 f4 g4 c4 m4 s4 f5 g5 c5 m5 s5 ek0 em0 es0 el0 b0 ef0 ek1 em1 es1 el1 b1 ef1 []) := z_wk h0 h1 h2 h3 h4 h5
    exact ⟨q1, q2 ▸ q3, z_hi.of (by rw [q2]; rfl) hp⟩
set_option maxRecDepth 100000 in
theorem pk_computeIfPresent (hl : l.stackTraces = false) (w : z_W) (ky : z_ky) (hW : z_WN ky w.1) (r p q t : Int32) : z_Con G l mX8_computeIfPresent 20 14 120 w [.ref 0, .int r, .int p, .int q, .int t] (fun v w9 => (∃ x : Int32, v = some (.int x)) ∧ z_WN ky w9.1 ∧ z_hi w w9) (fun E w9 => z_xIA E ∧ z_WN ky w9.1 ∧ z_hi w w9) := by
  obtain ⟨L, P⟩ := w
  obtain ⟨kn, xa, xb, b0, b1⟩ := ky
  obtain ⟨rf, ma, fa, ca, mb, fb, cb, mt, xt, ft, ct, f0, g0, c0, m0, s0, f1, g1, c1, m1, s1, f2, g2, c2, m2, s2, f3, g3, c3, m3, s3, f4, g4, c4, m4, s4, f5, g5, c5, m5, s5, ek0, em0, es0, el0, ef0, ek1, em1, es1, el1, ef1, h0, h1, h2, h3, h4, h5, hL⟩ := hW
  have hL : L = _ := hL
  subst hL
  refine z_weak (z_lift 51 rfl (by decide) z_cwR rfl (c_X8_computeIfPresent hl rf kn ma xa fa ca mb xb fb cb mt xt ft ct f0 g0 c0 m0 s0 f1 g1 c1 m1 s1 f2 g2 c2 m2 s2 f3 g3 c3 m3 s3 f4 g4 c4 m4 s4 f5 g5 c5 m5 s5 ek0 em0 es0 el0 b0 ef0 ek1 em1 es1 el1 b1 ef1 r p q t h0 h1 h2 h3 h4 h5) (fun v L' q => ?_) (fun E L' q => ?_)) (fun v w' q => ?_) (fun E w' q => ?_)
  · obtain ⟨⟨x, rfl⟩, q⟩ := q
    exact ⟨(z_WkC q).1, (z_WkC q).2, rfl⟩
  · obtain ⟨-, rfl⟩ := q
    exact ⟨rfl, z_cwR⟩
  · obtain ⟨q, hp⟩ := q
    obtain ⟨q1, q⟩ := q
    exact ⟨q1, q, z_hi.of (z_WkC q).1 hp⟩
  · obtain ⟨⟨q1, q2⟩, hp⟩ := q
    have q3 : z_Wk kn xa xb b0 b1 (z_cw rf kn ma xa fa ca mb xb fb cb mt xt ft ct f0 g0 c0 m0 s0 f1 g1 c1 m1 s1 f2 g2 c2 m2 s2 f3 g3 c3 m3 s3 f4 g4 c4 m4 s4 f5 g5 c5 m5 s5 ek0 em0 es0 el0 b0 ef0 ek1 em1 es1 el1 b1 ef1 []) := z_wk h0 h1 h2 h3 h4 h5
    exact ⟨q1, q2 ▸ q3, z_hi.of (by rw [q2]; rfl) hp⟩
set_option maxRecDepth 100000 in
theorem pk_compute (hl : l.stackTraces = false) (w : z_W) (ky : z_ky) (hW : z_WN ky w.1) (r p q t : Int32) : z_Con G l mX8_compute 20 14 120 w [.ref 0, .int r, .int p, .int q, .int t] (fun v w9 => (∃ x : Int32, v = some (.int x)) ∧ z_WN ky w9.1 ∧ z_hi w w9) (fun E w9 => z_xIA E ∧ z_WN ky w9.1 ∧ z_hi w w9) := by
  obtain ⟨L, P⟩ := w
  obtain ⟨kn, xa, xb, b0, b1⟩ := ky
  obtain ⟨rf, ma, fa, ca, mb, fb, cb, mt, xt, ft, ct, f0, g0, c0, m0, s0, f1, g1, c1, m1, s1, f2, g2, c2, m2, s2, f3, g3, c3, m3, s3, f4, g4, c4, m4, s4, f5, g5, c5, m5, s5, ek0, em0, es0, el0, ef0, ek1, em1, es1, el1, ef1, h0, h1, h2, h3, h4, h5, hL⟩ := hW
  have hL : L = _ := hL
  subst hL
  refine z_weak (z_lift 51 rfl (by decide) z_cwR rfl (c_X8_compute hl rf kn ma xa fa ca mb xb fb cb mt xt ft ct f0 g0 c0 m0 s0 f1 g1 c1 m1 s1 f2 g2 c2 m2 s2 f3 g3 c3 m3 s3 f4 g4 c4 m4 s4 f5 g5 c5 m5 s5 ek0 em0 es0 el0 b0 ef0 ek1 em1 es1 el1 b1 ef1 r p q t h0 h1 h2 h3 h4 h5) (fun v L' q => ?_) (fun E L' q => ?_)) (fun v w' q => ?_) (fun E w' q => ?_)
  · obtain ⟨⟨x, rfl⟩, q⟩ := q
    exact ⟨(z_WkC q).1, (z_WkC q).2, rfl⟩
  · obtain ⟨-, rfl⟩ := q
    exact ⟨rfl, z_cwR⟩
  · obtain ⟨q, hp⟩ := q
    obtain ⟨q1, q⟩ := q
    exact ⟨q1, q, z_hi.of (z_WkC q).1 hp⟩
  · obtain ⟨⟨q1, q2⟩, hp⟩ := q
    have q3 : z_Wk kn xa xb b0 b1 (z_cw rf kn ma xa fa ca mb xb fb cb mt xt ft ct f0 g0 c0 m0 s0 f1 g1 c1 m1 s1 f2 g2 c2 m2 s2 f3 g3 c3 m3 s3 f4 g4 c4 m4 s4 f5 g5 c5 m5 s5 ek0 em0 es0 el0 b0 ef0 ek1 em1 es1 el1 b1 ef1 []) := z_wk h0 h1 h2 h3 h4 h5
    exact ⟨q1, q2 ▸ q3, z_hi.of (by rw [q2]; rfl) hp⟩
set_option maxRecDepth 100000 in
theorem pk_merge (hl : l.stackTraces = false) (w : z_W) (ky : z_ky) (hW : z_WN ky w.1) (r p q t : Int32) : z_Con G l mX8_merge 20 14 120 w [.ref 0, .int r, .int p, .int q, .int t] (fun v w9 => (∃ x : Int32, v = some (.int x)) ∧ z_WN ky w9.1 ∧ z_hi w w9) (fun E w9 => z_xIA E ∧ z_WN ky w9.1 ∧ z_hi w w9) := by
  obtain ⟨L, P⟩ := w
  obtain ⟨kn, xa, xb, b0, b1⟩ := ky
  obtain ⟨rf, ma, fa, ca, mb, fb, cb, mt, xt, ft, ct, f0, g0, c0, m0, s0, f1, g1, c1, m1, s1, f2, g2, c2, m2, s2, f3, g3, c3, m3, s3, f4, g4, c4, m4, s4, f5, g5, c5, m5, s5, ek0, em0, es0, el0, ef0, ek1, em1, es1, el1, ef1, h0, h1, h2, h3, h4, h5, hL⟩ := hW
  have hL : L = _ := hL
  subst hL
  refine z_weak (z_lift 51 rfl (by decide) z_cwR rfl (c_X8_merge hl rf kn ma xa fa ca mb xb fb cb mt xt ft ct f0 g0 c0 m0 s0 f1 g1 c1 m1 s1 f2 g2 c2 m2 s2 f3 g3 c3 m3 s3 f4 g4 c4 m4 s4 f5 g5 c5 m5 s5 ek0 em0 es0 el0 b0 ef0 ek1 em1 es1 el1 b1 ef1 r p q t h0 h1 h2 h3 h4 h5) (fun v L' q => ?_) (fun E L' q => ?_)) (fun v w' q => ?_) (fun E w' q => ?_)
  · obtain ⟨⟨x, rfl⟩, q⟩ := q
    exact ⟨(z_WkC q).1, (z_WkC q).2, rfl⟩
  · obtain ⟨-, rfl⟩ := q
    exact ⟨rfl, z_cwR⟩
  · obtain ⟨q, hp⟩ := q
    obtain ⟨q1, q⟩ := q
    exact ⟨q1, q, z_hi.of (z_WkC q).1 hp⟩
  · obtain ⟨⟨q1, q2⟩, hp⟩ := q
    have q3 : z_Wk kn xa xb b0 b1 (z_cw rf kn ma xa fa ca mb xb fb cb mt xt ft ct f0 g0 c0 m0 s0 f1 g1 c1 m1 s1 f2 g2 c2 m2 s2 f3 g3 c3 m3 s3 f4 g4 c4 m4 s4 f5 g5 c5 m5 s5 ek0 em0 es0 el0 b0 ef0 ek1 em1 es1 el1 b1 ef1 []) := z_wk h0 h1 h2 h3 h4 h5
    exact ⟨q1, q2 ▸ q3, z_hi.of (by rw [q2]; rfl) hp⟩
set_option maxRecDepth 100000 in
theorem pk_clear (hl : l.stackTraces = false) (w : z_W) (ky : z_ky) (hW : z_WN ky w.1) (r : Int32) : z_Con G l mX8_clear 20 14 120 w [.ref 0, .int r] (fun v w9 => (∃ x : Int32, v = some (.int x)) ∧ z_WN ky w9.1 ∧ z_hi w w9) (fun E w9 => z_xI E ∧ z_WN ky w9.1 ∧ z_hi w w9) := by
  obtain ⟨L, P⟩ := w
  obtain ⟨kn, xa, xb, b0, b1⟩ := ky
  obtain ⟨rf, ma, fa, ca, mb, fb, cb, mt, xt, ft, ct, f0, g0, c0, m0, s0, f1, g1, c1, m1, s1, f2, g2, c2, m2, s2, f3, g3, c3, m3, s3, f4, g4, c4, m4, s4, f5, g5, c5, m5, s5, ek0, em0, es0, el0, ef0, ek1, em1, es1, el1, ef1, h0, h1, h2, h3, h4, h5, hL⟩ := hW
  have hL : L = _ := hL
  subst hL
  refine z_weak (z_lift 51 rfl (by decide) z_cwR rfl (c_X8_clear hl rf kn ma xa fa ca mb xb fb cb mt xt ft ct f0 g0 c0 m0 s0 f1 g1 c1 m1 s1 f2 g2 c2 m2 s2 f3 g3 c3 m3 s3 f4 g4 c4 m4 s4 f5 g5 c5 m5 s5 ek0 em0 es0 el0 b0 ef0 ek1 em1 es1 el1 b1 ef1 r h0 h1 h2 h3 h4 h5) (fun v L' q => ?_) (fun E L' q => ?_)) (fun v w' q => ?_) (fun E w' q => ?_)
  · obtain ⟨⟨x, rfl⟩, q⟩ := q
    exact ⟨(z_WkC q).1, (z_WkC q).2, rfl⟩
  · obtain ⟨-, rfl⟩ := q
    exact ⟨rfl, z_cwR⟩
  · obtain ⟨q, hp⟩ := q
    obtain ⟨q1, q⟩ := q
    exact ⟨q1, q, z_hi.of (z_WkC q).1 hp⟩
  · obtain ⟨⟨q1, q2⟩, hp⟩ := q
    have q3 : z_Wk kn xa xb b0 b1 (z_cw rf kn ma xa fa ca mb xb fb cb mt xt ft ct f0 g0 c0 m0 s0 f1 g1 c1 m1 s1 f2 g2 c2 m2 s2 f3 g3 c3 m3 s3 f4 g4 c4 m4 s4 f5 g5 c5 m5 s5 ek0 em0 es0 el0 b0 ef0 ek1 em1 es1 el1 b1 ef1 []) := z_wk h0 h1 h2 h3 h4 h5
    exact ⟨q1, q2 ▸ q3, z_hi.of (by rw [q2]; rfl) hp⟩
set_option maxRecDepth 100000 in
theorem pk_hearTable (hl : l.stackTraces = false) (w : z_W) (ky : z_ky) (hW : z_WN ky w.1) (r p : Int32) : z_Con G l mX8_hearTable 20 14 120 w [.ref 0, .int r, .int p] (fun v w9 => (∃ x : Int32, v = some (.int x)) ∧ z_WN ky w9.1 ∧ z_hi w w9) (fun E w9 => z_xI E ∧ z_WN ky w9.1 ∧ z_hi w w9) := by
  obtain ⟨L, P⟩ := w
  obtain ⟨kn, xa, xb, b0, b1⟩ := ky
  obtain ⟨rf, ma, fa, ca, mb, fb, cb, mt, xt, ft, ct, f0, g0, c0, m0, s0, f1, g1, c1, m1, s1, f2, g2, c2, m2, s2, f3, g3, c3, m3, s3, f4, g4, c4, m4, s4, f5, g5, c5, m5, s5, ek0, em0, es0, el0, ef0, ek1, em1, es1, el1, ef1, h0, h1, h2, h3, h4, h5, hL⟩ := hW
  have hL : L = _ := hL
  subst hL
  refine z_weak (z_lift 51 rfl (by decide) z_cwR rfl (c_X8_hearTable hl rf kn ma xa fa ca mb xb fb cb mt xt ft ct f0 g0 c0 m0 s0 f1 g1 c1 m1 s1 f2 g2 c2 m2 s2 f3 g3 c3 m3 s3 f4 g4 c4 m4 s4 f5 g5 c5 m5 s5 ek0 em0 es0 el0 b0 ef0 ek1 em1 es1 el1 b1 ef1 r p h0 h1 h2 h3 h4 h5) (fun v L' q => ?_) (fun E L' q => ?_)) (fun v w' q => ?_) (fun E w' q => ?_)
  · obtain ⟨⟨x, rfl⟩, q⟩ := q
    exact ⟨(z_WkC q).1, (z_WkC q).2, rfl⟩
  · obtain ⟨-, rfl⟩ := q
    exact ⟨rfl, z_cwR⟩
  · obtain ⟨q, hp⟩ := q
    obtain ⟨q1, q⟩ := q
    exact ⟨q1, q, z_hi.of (z_WkC q).1 hp⟩
  · obtain ⟨⟨q1, q2⟩, hp⟩ := q
    have q3 : z_Wk kn xa xb b0 b1 (z_cw rf kn ma xa fa ca mb xb fb cb mt xt ft ct f0 g0 c0 m0 s0 f1 g1 c1 m1 s1 f2 g2 c2 m2 s2 f3 g3 c3 m3 s3 f4 g4 c4 m4 s4 f5 g5 c5 m5 s5 ek0 em0 es0 el0 b0 ef0 ek1 em1 es1 el1 b1 ef1 []) := z_wk h0 h1 h2 h3 h4 h5
    exact ⟨q1, q2 ▸ q3, z_hi.of (by rw [q2]; rfl) hp⟩
set_option maxRecDepth 100000 in
theorem pk_replaceTable (hl : l.stackTraces = false) (w : z_W) (ky : z_ky) (hW : z_WN ky w.1) (r p q : Int32) : z_Con G l mX8_replaceTable 20 14 120 w [.ref 0, .int r, .int p, .int q] (fun v w9 => (∃ x : Int32, v = some (.int x)) ∧ z_WN ky w9.1 ∧ z_hi w w9) (fun E w9 => z_xIA E ∧ z_WN ky w9.1 ∧ z_hi w w9) := by
  obtain ⟨L, P⟩ := w
  obtain ⟨kn, xa, xb, b0, b1⟩ := ky
  obtain ⟨rf, ma, fa, ca, mb, fb, cb, mt, xt, ft, ct, f0, g0, c0, m0, s0, f1, g1, c1, m1, s1, f2, g2, c2, m2, s2, f3, g3, c3, m3, s3, f4, g4, c4, m4, s4, f5, g5, c5, m5, s5, ek0, em0, es0, el0, ef0, ek1, em1, es1, el1, ef1, h0, h1, h2, h3, h4, h5, hL⟩ := hW
  have hL : L = _ := hL
  subst hL
  refine z_weak (z_lift 51 rfl (by decide) z_cwR rfl (c_X8_replaceTable hl rf kn ma xa fa ca mb xb fb cb mt xt ft ct f0 g0 c0 m0 s0 f1 g1 c1 m1 s1 f2 g2 c2 m2 s2 f3 g3 c3 m3 s3 f4 g4 c4 m4 s4 f5 g5 c5 m5 s5 ek0 em0 es0 el0 b0 ef0 ek1 em1 es1 el1 b1 ef1 r p q h0 h1 h2 h3 h4 h5) (fun v L' q => ?_) (fun E L' q => ?_)) (fun v w' q => ?_) (fun E w' q => ?_)
  · obtain ⟨⟨x, rfl⟩, q⟩ := q
    exact ⟨(z_WkC q).1, (z_WkC q).2, rfl⟩
  · obtain ⟨-, rfl⟩ := q
    exact ⟨rfl, z_cwR⟩
  · obtain ⟨q, hp⟩ := q
    obtain ⟨q1, q⟩ := q
    exact ⟨q1, q, z_hi.of (z_WkC q).1 hp⟩
  · obtain ⟨⟨q1, q2⟩, hp⟩ := q
    have q3 : z_Wk kn xa xb b0 b1 (z_cw rf kn ma xa fa ca mb xb fb cb mt xt ft ct f0 g0 c0 m0 s0 f1 g1 c1 m1 s1 f2 g2 c2 m2 s2 f3 g3 c3 m3 s3 f4 g4 c4 m4 s4 f5 g5 c5 m5 s5 ek0 em0 es0 el0 b0 ef0 ek1 em1 es1 el1 b1 ef1 []) := z_wk h0 h1 h2 h3 h4 h5
    exact ⟨q1, q2 ▸ q3, z_hi.of (by rw [q2]; rfl) hp⟩
set_option maxRecDepth 100000 in
theorem pk_hearSpan (hl : l.stackTraces = false) (w : z_W) (ky : z_ky) (hW : z_WN ky w.1) (r p q t : Int32) : z_Con G l mX8_hearSpan 20 14 120 w [.ref 0, .int r, .int p, .int q, .int t] (fun v w9 => (∃ x : Int32, v = some (.int x)) ∧ z_WN ky w9.1 ∧ z_hi w w9) (fun E w9 => z_xIA E ∧ z_WN ky w9.1 ∧ z_hi w w9) := by
  obtain ⟨L, P⟩ := w
  obtain ⟨kn, xa, xb, b0, b1⟩ := ky
  obtain ⟨rf, ma, fa, ca, mb, fb, cb, mt, xt, ft, ct, f0, g0, c0, m0, s0, f1, g1, c1, m1, s1, f2, g2, c2, m2, s2, f3, g3, c3, m3, s3, f4, g4, c4, m4, s4, f5, g5, c5, m5, s5, ek0, em0, es0, el0, ef0, ek1, em1, es1, el1, ef1, h0, h1, h2, h3, h4, h5, hL⟩ := hW
  have hL : L = _ := hL
  subst hL
  refine z_weak (z_lift 51 rfl (by decide) z_cwR rfl (c_X8_hearSpan hl rf kn ma xa fa ca mb xb fb cb mt xt ft ct f0 g0 c0 m0 s0 f1 g1 c1 m1 s1 f2 g2 c2 m2 s2 f3 g3 c3 m3 s3 f4 g4 c4 m4 s4 f5 g5 c5 m5 s5 ek0 em0 es0 el0 b0 ef0 ek1 em1 es1 el1 b1 ef1 r p q t h0 h1 h2 h3 h4 h5) (fun v L' q => ?_) (fun E L' q => ?_)) (fun v w' q => ?_) (fun E w' q => ?_)
  · obtain ⟨⟨x, rfl⟩, q⟩ := q
    exact ⟨(z_WkC q).1, (z_WkC q).2, rfl⟩
  · obtain ⟨-, rfl⟩ := q
    exact ⟨rfl, z_cwR⟩
  · obtain ⟨q, hp⟩ := q
    obtain ⟨q1, q⟩ := q
    exact ⟨q1, q, z_hi.of (z_WkC q).1 hp⟩
  · obtain ⟨⟨q1, q2⟩, hp⟩ := q
    have q3 : z_Wk kn xa xb b0 b1 (z_cw rf kn ma xa fa ca mb xb fb cb mt xt ft ct f0 g0 c0 m0 s0 f1 g1 c1 m1 s1 f2 g2 c2 m2 s2 f3 g3 c3 m3 s3 f4 g4 c4 m4 s4 f5 g5 c5 m5 s5 ek0 em0 es0 el0 b0 ef0 ek1 em1 es1 el1 b1 ef1 []) := z_wk h0 h1 h2 h3 h4 h5
    exact ⟨q1, q2 ▸ q3, z_hi.of (by rw [q2]; rfl) hp⟩
set_option maxRecDepth 100000 in
theorem pk_hearSteps (hl : l.stackTraces = false) (w : z_W) (ky : z_ky) (hW : z_WN ky w.1) (r p q t u9 : Int32) : z_Con G l mX8_hearSteps 20 14 120 w [.ref 0, .int r, .int p, .int q, .int t, .int u9] (fun v w9 => (∃ x : Int32, v = some (.int x)) ∧ z_WN ky w9.1 ∧ z_hi w w9) (fun E w9 => z_xIA E ∧ z_WN ky w9.1 ∧ z_hi w w9) := by
  obtain ⟨L, P⟩ := w
  obtain ⟨kn, xa, xb, b0, b1⟩ := ky
  obtain ⟨rf, ma, fa, ca, mb, fb, cb, mt, xt, ft, ct, f0, g0, c0, m0, s0, f1, g1, c1, m1, s1, f2, g2, c2, m2, s2, f3, g3, c3, m3, s3, f4, g4, c4, m4, s4, f5, g5, c5, m5, s5, ek0, em0, es0, el0, ef0, ek1, em1, es1, el1, ef1, h0, h1, h2, h3, h4, h5, hL⟩ := hW
  have hL : L = _ := hL
  subst hL
  refine z_weak (z_lift 51 rfl (by decide) z_cwR rfl (c_X8_hearSteps hl rf kn ma xa fa ca mb xb fb cb mt xt ft ct f0 g0 c0 m0 s0 f1 g1 c1 m1 s1 f2 g2 c2 m2 s2 f3 g3 c3 m3 s3 f4 g4 c4 m4 s4 f5 g5 c5 m5 s5 ek0 em0 es0 el0 b0 ef0 ek1 em1 es1 el1 b1 ef1 r p q t u9 h0 h1 h2 h3 h4 h5) (fun v L' q => ?_) (fun E L' q => ?_)) (fun v w' q => ?_) (fun E w' q => ?_)
  · obtain ⟨⟨x, rfl⟩, q⟩ := q
    exact ⟨(z_WkC q).1, (z_WkC q).2, rfl⟩
  · obtain ⟨-, rfl⟩ := q
    exact ⟨rfl, z_cwR⟩
  · obtain ⟨q, hp⟩ := q
    obtain ⟨q1, q⟩ := q
    exact ⟨q1, q, z_hi.of (z_WkC q).1 hp⟩
  · obtain ⟨⟨q1, q2⟩, hp⟩ := q
    have q3 : z_Wk kn xa xb b0 b1 (z_cw rf kn ma xa fa ca mb xb fb cb mt xt ft ct f0 g0 c0 m0 s0 f1 g1 c1 m1 s1 f2 g2 c2 m2 s2 f3 g3 c3 m3 s3 f4 g4 c4 m4 s4 f5 g5 c5 m5 s5 ek0 em0 es0 el0 b0 ef0 ek1 em1 es1 el1 b1 ef1 []) := z_wk h0 h1 h2 h3 h4 h5
    exact ⟨q1, q2 ▸ q3, z_hi.of (by rw [q2]; rfl) hp⟩
set_option maxRecDepth 100000 in
theorem pk_takeStep (hl : l.stackTraces = false) (w : z_W) (ky : z_ky) (hW : z_WN ky w.1) (r p : Int32) : z_Con G l mX8_takeStep 20 14 120 w [.ref 0, .int r, .int p] (fun v w9 => q_k1 ((p < -999 ∨ 999 < p) ∨ (r < -999 ∨ p < r)) = 0 ∧ v = some (.int (-9)) ∧ z_WN ky w9.1 ∧ z_hi w w9) (fun E w9 => (z_xA E ∧ q_k1 ((p < -999 ∨ 999 < p) ∨ (r < -999 ∨ p < r)) = 1) ∧ z_WN ky w9.1 ∧ z_hi w w9) := by
  obtain ⟨L, P⟩ := w
  obtain ⟨kn, xa, xb, b0, b1⟩ := ky
  obtain ⟨rf, ma, fa, ca, mb, fb, cb, mt, xt, ft, ct, f0, g0, c0, m0, s0, f1, g1, c1, m1, s1, f2, g2, c2, m2, s2, f3, g3, c3, m3, s3, f4, g4, c4, m4, s4, f5, g5, c5, m5, s5, ek0, em0, es0, el0, ef0, ek1, em1, es1, el1, ef1, h0, h1, h2, h3, h4, h5, hL⟩ := hW
  have hL : L = _ := hL
  subst hL
  refine z_weak (z_lift 51 rfl (by decide) z_cwR rfl (c_X8_takeStep_e hl rf kn ma xa fa ca mb xb fb cb mt xt ft ct f0 g0 c0 m0 s0 f1 g1 c1 m1 s1 f2 g2 c2 m2 s2 f3 g3 c3 m3 s3 f4 g4 c4 m4 s4 f5 g5 c5 m5 s5 ek0 em0 es0 el0 b0 ef0 ek1 em1 es1 el1 b1 ef1 r p h0 h1 h2 h3 h4 h5) (fun v L' q => ?_) (fun E L' q => ?_)) (fun v w' q => ?_) (fun E w' q => ?_)
  · obtain ⟨-, rfl, q⟩ := q
    exact ⟨(z_WkC q).1, (z_WkC q).2, rfl⟩
  · obtain ⟨-, rfl⟩ := q
    exact ⟨rfl, z_cwR⟩
  · obtain ⟨q, hp⟩ := q
    obtain ⟨hk, q1, q⟩ := q
    exact ⟨hk, q1, q, z_hi.of (z_WkC q).1 hp⟩
  · obtain ⟨⟨q1, q2⟩, hp⟩ := q
    have q3 : z_Wk kn xa xb b0 b1 (z_cw rf kn ma xa fa ca mb xb fb cb mt xt ft ct f0 g0 c0 m0 s0 f1 g1 c1 m1 s1 f2 g2 c2 m2 s2 f3 g3 c3 m3 s3 f4 g4 c4 m4 s4 f5 g5 c5 m5 s5 ek0 em0 es0 el0 b0 ef0 ek1 em1 es1 el1 b1 ef1 []) := z_wk h0 h1 h2 h3 h4 h5
    exact ⟨q1, q2 ▸ q3, z_hi.of (by rw [q2]; rfl) hp⟩
set_option maxRecDepth 100000 in
theorem pk_stop (hl : l.stackTraces = false) (w : z_W) (ky : z_ky) (hW : z_WN ky w.1) (r p : Int32) : z_Con G l mX8_stop 20 14 120 w [.ref 0, .int r, .int p] (fun v w9 => q_k22 r (p < -1000 ∨ 99999 < p) = 0 ∧ v = some (.int (u_bar ky r)) ∧ z_WN (u_stop ky r p) w9.1 ∧ z_hi w w9) (fun E w9 => ((z_xI E ∧ q_k22 r (p < -1000 ∨ 99999 < p) = 1) ∨ (z_xA E ∧ q_k22 r (p < -1000 ∨ 99999 < p) = 2)) ∧ z_WN ky w9.1 ∧ z_hi w w9) := by
  obtain ⟨L, P⟩ := w
  obtain ⟨kn, xa, xb, b0, b1⟩ := ky
  obtain ⟨rf, ma, fa, ca, mb, fb, cb, mt, xt, ft, ct, f0, g0, c0, m0, s0, f1, g1, c1, m1, s1, f2, g2, c2, m2, s2, f3, g3, c3, m3, s3, f4, g4, c4, m4, s4, f5, g5, c5, m5, s5, ek0, em0, es0, el0, ef0, ek1, em1, es1, el1, ef1, h0, h1, h2, h3, h4, h5, hL⟩ := hW
  have hL : L = _ := hL
  subst hL
  refine z_weak (z_lift 51 rfl (by decide) z_cwR rfl (c_X8_stop_e hl rf kn ma xa fa ca mb xb fb cb mt xt ft ct f0 g0 c0 m0 s0 f1 g1 c1 m1 s1 f2 g2 c2 m2 s2 f3 g3 c3 m3 s3 f4 g4 c4 m4 s4 f5 g5 c5 m5 s5 ek0 em0 es0 el0 b0 ef0 ek1 em1 es1 el1 b1 ef1 r p h0 h1 h2 h3 h4 h5) (fun v L' q => ?_) (fun E L' q => ?_)) (fun v w' q => ?_) (fun E w' q => ?_)
  · obtain ⟨-, x, rfl, ⟨-, -, q⟩ | ⟨-, -, q⟩⟩ := q
    · exact ⟨(z_WkC q).1, (z_WkC q).2, rfl⟩
    exact ⟨(z_WkC q).1, (z_WkC q).2, rfl⟩
  · obtain ⟨-, rfl⟩ := q
    exact ⟨rfl, z_cwR⟩
  · obtain ⟨q, hp⟩ := q
    obtain ⟨hk, x, q1, ⟨rfl, rfl, q⟩ | ⟨rfl, rfl, q⟩⟩ := q
    · exact ⟨hk, q1, q, z_hi.of (z_WkC q).1 hp⟩
    · exact ⟨hk, q1, q, z_hi.of (z_WkC q).1 hp⟩
  · obtain ⟨⟨q1, q2⟩, hp⟩ := q
    have q3 : z_Wk kn xa xb b0 b1 (z_cw rf kn ma xa fa ca mb xb fb cb mt xt ft ct f0 g0 c0 m0 s0 f1 g1 c1 m1 s1 f2 g2 c2 m2 s2 f3 g3 c3 m3 s3 f4 g4 c4 m4 s4 f5 g5 c5 m5 s5 ek0 em0 es0 el0 b0 ef0 ek1 em1 es1 el1 b1 ef1 []) := z_wk h0 h1 h2 h3 h4 h5
    exact ⟨q1, q2 ▸ q3, z_hi.of (by rw [q2]; rfl) hp⟩
set_option maxRecDepth 100000 in
theorem pk_forget (hl : l.stackTraces = false) (w : z_W) (ky : z_ky) (hW : z_WN ky w.1) (r : Int32) : z_Con G l mX8_forget 20 14 120 w [.ref 0, .int r] (fun v w9 => (∃ x : Int32, v = some (.int x)) ∧ z_WN ky w9.1 ∧ z_hi w w9) (fun E w9 => z_xI E ∧ z_WN ky w9.1 ∧ z_hi w w9) := by
  obtain ⟨L, P⟩ := w
  obtain ⟨kn, xa, xb, b0, b1⟩ := ky
  obtain ⟨rf, ma, fa, ca, mb, fb, cb, mt, xt, ft, ct, f0, g0, c0, m0, s0, f1, g1, c1, m1, s1, f2, g2, c2, m2, s2, f3, g3, c3, m3, s3, f4, g4, c4, m4, s4, f5, g5, c5, m5, s5, ek0, em0, es0, el0, ef0, ek1, em1, es1, el1, ef1, h0, h1, h2, h3, h4, h5, hL⟩ := hW
  have hL : L = _ := hL
  subst hL
  refine z_weak (z_lift 51 rfl (by decide) z_cwR rfl (c_X8_forget hl rf kn ma xa fa ca mb xb fb cb mt xt ft ct f0 g0 c0 m0 s0 f1 g1 c1 m1 s1 f2 g2 c2 m2 s2 f3 g3 c3 m3 s3 f4 g4 c4 m4 s4 f5 g5 c5 m5 s5 ek0 em0 es0 el0 b0 ef0 ek1 em1 es1 el1 b1 ef1 r h0 h1 h2 h3 h4 h5) (fun v L' q => ?_) (fun E L' q => ?_)) (fun v w' q => ?_) (fun E w' q => ?_)
  · obtain ⟨⟨x, rfl⟩, q⟩ := q
    exact ⟨(z_WkC q).1, (z_WkC q).2, rfl⟩
  · obtain ⟨-, rfl⟩ := q
    exact ⟨rfl, z_cwR⟩
  · obtain ⟨q, hp⟩ := q
    obtain ⟨q1, q⟩ := q
    exact ⟨q1, q, z_hi.of (z_WkC q).1 hp⟩
  · obtain ⟨⟨q1, q2⟩, hp⟩ := q
    have q3 : z_Wk kn xa xb b0 b1 (z_cw rf kn ma xa fa ca mb xb fb cb mt xt ft ct f0 g0 c0 m0 s0 f1 g1 c1 m1 s1 f2 g2 c2 m2 s2 f3 g3 c3 m3 s3 f4 g4 c4 m4 s4 f5 g5 c5 m5 s5 ek0 em0 es0 el0 b0 ef0 ek1 em1 es1 el1 b1 ef1 []) := z_wk h0 h1 h2 h3 h4 h5
    exact ⟨q1, q2 ▸ q3, z_hi.of (by rw [q2]; rfl) hp⟩
set_option maxRecDepth 100000 in
theorem pk_heard (hl : l.stackTraces = false) (w : z_W) (ky : z_ky) (hW : z_WN ky w.1) (r p : Int32) : z_Con G l mX8_heard 20 14 120 w [.ref 0, .int r, .int p] (fun v w9 => (∃ x : Int32, v = some (.int x)) ∧ z_WN ky w9.1 ∧ z_hi w w9) (fun E w9 => z_xIA E ∧ z_WN ky w9.1 ∧ z_hi w w9) := by
  obtain ⟨L, P⟩ := w
  obtain ⟨kn, xa, xb, b0, b1⟩ := ky
  obtain ⟨rf, ma, fa, ca, mb, fb, cb, mt, xt, ft, ct, f0, g0, c0, m0, s0, f1, g1, c1, m1, s1, f2, g2, c2, m2, s2, f3, g3, c3, m3, s3, f4, g4, c4, m4, s4, f5, g5, c5, m5, s5, ek0, em0, es0, el0, ef0, ek1, em1, es1, el1, ef1, h0, h1, h2, h3, h4, h5, hL⟩ := hW
  have hL : L = _ := hL
  subst hL
  refine z_weak (z_lift 51 rfl (by decide) z_cwR rfl (c_X8_heard hl rf kn ma xa fa ca mb xb fb cb mt xt ft ct f0 g0 c0 m0 s0 f1 g1 c1 m1 s1 f2 g2 c2 m2 s2 f3 g3 c3 m3 s3 f4 g4 c4 m4 s4 f5 g5 c5 m5 s5 ek0 em0 es0 el0 b0 ef0 ek1 em1 es1 el1 b1 ef1 r p h0 h1 h2 h3 h4 h5) (fun v L' q => ?_) (fun E L' q => ?_)) (fun v w' q => ?_) (fun E w' q => ?_)
  · obtain ⟨⟨x, rfl⟩, q⟩ := q
    exact ⟨(z_WkC q).1, (z_WkC q).2, rfl⟩
  · obtain ⟨-, rfl⟩ := q
    exact ⟨rfl, z_cwR⟩
  · obtain ⟨q, hp⟩ := q
    obtain ⟨q1, q⟩ := q
    exact ⟨q1, q, z_hi.of (z_WkC q).1 hp⟩
  · obtain ⟨⟨q1, q2⟩, hp⟩ := q
    have q3 : z_Wk kn xa xb b0 b1 (z_cw rf kn ma xa fa ca mb xb fb cb mt xt ft ct f0 g0 c0 m0 s0 f1 g1 c1 m1 s1 f2 g2 c2 m2 s2 f3 g3 c3 m3 s3 f4 g4 c4 m4 s4 f5 g5 c5 m5 s5 ek0 em0 es0 el0 b0 ef0 ek1 em1 es1 el1 b1 ef1 []) := z_wk h0 h1 h2 h3 h4 h5
    exact ⟨q1, q2 ▸ q3, z_hi.of (by rw [q2]; rfl) hp⟩
set_option maxRecDepth 100000 in
theorem pk_length (hl : l.stackTraces = false) (w : z_W) (ky : z_ky) (hW : z_WN ky w.1) (r : Int32) : z_Con G l mX8_length 20 14 120 w [.ref 0, .int r] (fun v w9 => (∃ x : Int32, v = some (.int x)) ∧ z_WN ky w9.1 ∧ z_hi w w9) (fun E w9 => z_xI E ∧ z_WN ky w9.1 ∧ z_hi w w9) := by
  obtain ⟨L, P⟩ := w
  obtain ⟨kn, xa, xb, b0, b1⟩ := ky
  obtain ⟨rf, ma, fa, ca, mb, fb, cb, mt, xt, ft, ct, f0, g0, c0, m0, s0, f1, g1, c1, m1, s1, f2, g2, c2, m2, s2, f3, g3, c3, m3, s3, f4, g4, c4, m4, s4, f5, g5, c5, m5, s5, ek0, em0, es0, el0, ef0, ek1, em1, es1, el1, ef1, h0, h1, h2, h3, h4, h5, hL⟩ := hW
  have hL : L = _ := hL
  subst hL
  refine z_weak (z_lift 51 rfl (by decide) z_cwR rfl (c_X8_length hl rf kn ma xa fa ca mb xb fb cb mt xt ft ct f0 g0 c0 m0 s0 f1 g1 c1 m1 s1 f2 g2 c2 m2 s2 f3 g3 c3 m3 s3 f4 g4 c4 m4 s4 f5 g5 c5 m5 s5 ek0 em0 es0 el0 b0 ef0 ek1 em1 es1 el1 b1 ef1 r h0 h1 h2 h3 h4 h5) (fun v L' q => ?_) (fun E L' q => ?_)) (fun v w' q => ?_) (fun E w' q => ?_)
  · obtain ⟨⟨x, rfl⟩, q⟩ := q
    exact ⟨(z_WkC q).1, (z_WkC q).2, rfl⟩
  · obtain ⟨-, rfl⟩ := q
    exact ⟨rfl, z_cwR⟩
  · obtain ⟨q, hp⟩ := q
    obtain ⟨q1, q⟩ := q
    exact ⟨q1, q, z_hi.of (z_WkC q).1 hp⟩
  · obtain ⟨⟨q1, q2⟩, hp⟩ := q
    have q3 : z_Wk kn xa xb b0 b1 (z_cw rf kn ma xa fa ca mb xb fb cb mt xt ft ct f0 g0 c0 m0 s0 f1 g1 c1 m1 s1 f2 g2 c2 m2 s2 f3 g3 c3 m3 s3 f4 g4 c4 m4 s4 f5 g5 c5 m5 s5 ek0 em0 es0 el0 b0 ef0 ek1 em1 es1 el1 b1 ef1 []) := z_wk h0 h1 h2 h3 h4 h5
    exact ⟨q1, q2 ▸ q3, z_hi.of (by rw [q2]; rfl) hp⟩
set_option maxRecDepth 100000 in
theorem pk_at (hl : l.stackTraces = false) (w : z_W) (ky : z_ky) (hW : z_WN ky w.1) (r p : Int32) : z_Con G l mX8_at 20 14 120 w [.ref 0, .int r, .int p] (fun v w9 => (∃ x : Int32, v = some (.int x)) ∧ z_WN ky w9.1 ∧ z_hi w w9) (fun E w9 => z_xI E ∧ z_WN ky w9.1 ∧ z_hi w w9) := by
  obtain ⟨L, P⟩ := w
  obtain ⟨kn, xa, xb, b0, b1⟩ := ky
  obtain ⟨rf, ma, fa, ca, mb, fb, cb, mt, xt, ft, ct, f0, g0, c0, m0, s0, f1, g1, c1, m1, s1, f2, g2, c2, m2, s2, f3, g3, c3, m3, s3, f4, g4, c4, m4, s4, f5, g5, c5, m5, s5, ek0, em0, es0, el0, ef0, ek1, em1, es1, el1, ef1, h0, h1, h2, h3, h4, h5, hL⟩ := hW
  have hL : L = _ := hL
  subst hL
  refine z_weak (z_lift 51 rfl (by decide) z_cwR rfl (c_X8_at hl rf kn ma xa fa ca mb xb fb cb mt xt ft ct f0 g0 c0 m0 s0 f1 g1 c1 m1 s1 f2 g2 c2 m2 s2 f3 g3 c3 m3 s3 f4 g4 c4 m4 s4 f5 g5 c5 m5 s5 ek0 em0 es0 el0 b0 ef0 ek1 em1 es1 el1 b1 ef1 r p h0 h1 h2 h3 h4 h5) (fun v L' q => ?_) (fun E L' q => ?_)) (fun v w' q => ?_) (fun E w' q => ?_)
  · obtain ⟨⟨x, rfl⟩, q⟩ := q
    exact ⟨(z_WkC q).1, (z_WkC q).2, rfl⟩
  · obtain ⟨-, rfl⟩ := q
    exact ⟨rfl, z_cwR⟩
  · obtain ⟨q, hp⟩ := q
    obtain ⟨q1, q⟩ := q
    exact ⟨q1, q, z_hi.of (z_WkC q).1 hp⟩
  · obtain ⟨⟨q1, q2⟩, hp⟩ := q
    have q3 : z_Wk kn xa xb b0 b1 (z_cw rf kn ma xa fa ca mb xb fb cb mt xt ft ct f0 g0 c0 m0 s0 f1 g1 c1 m1 s1 f2 g2 c2 m2 s2 f3 g3 c3 m3 s3 f4 g4 c4 m4 s4 f5 g5 c5 m5 s5 ek0 em0 es0 el0 b0 ef0 ek1 em1 es1 el1 b1 ef1 []) := z_wk h0 h1 h2 h3 h4 h5
    exact ⟨q1, q2 ▸ q3, z_hi.of (by rw [q2]; rfl) hp⟩
set_option maxRecDepth 100000 in
theorem pk_isFixed (hl : l.stackTraces = false) (w : z_W) (ky : z_ky) (hW : z_WN ky w.1) (r : Int32) : z_Con G l mX8_isFixed 20 14 120 w [.ref 0, .int r] (fun v w9 => q_k2 r = 0 ∧ v = some (.int (z_bi (u_isf ky r))) ∧ z_WN ky w9.1 ∧ z_hi w w9) (fun E w9 => (z_xI E ∧ q_k2 r = 1) ∧ z_WN ky w9.1 ∧ z_hi w w9) := by
  obtain ⟨L, P⟩ := w
  obtain ⟨kn, xa, xb, b0, b1⟩ := ky
  obtain ⟨rf, ma, fa, ca, mb, fb, cb, mt, xt, ft, ct, f0, g0, c0, m0, s0, f1, g1, c1, m1, s1, f2, g2, c2, m2, s2, f3, g3, c3, m3, s3, f4, g4, c4, m4, s4, f5, g5, c5, m5, s5, ek0, em0, es0, el0, ef0, ek1, em1, es1, el1, ef1, h0, h1, h2, h3, h4, h5, hL⟩ := hW
  have hL : L = _ := hL
  subst hL
  refine z_weak (z_lift 51 rfl (by decide) z_cwR rfl (c_X8_isFixed_e hl rf kn ma xa fa ca mb xb fb cb mt xt ft ct f0 g0 c0 m0 s0 f1 g1 c1 m1 s1 f2 g2 c2 m2 s2 f3 g3 c3 m3 s3 f4 g4 c4 m4 s4 f5 g5 c5 m5 s5 ek0 em0 es0 el0 b0 ef0 ek1 em1 es1 el1 b1 ef1 r h0 h1 h2 h3 h4 h5) (fun v L' q => ?_) (fun E L' q => ?_)) (fun v w' q => ?_) (fun E w' q => ?_)
  · obtain ⟨-, b9, rfl, -, q⟩ := q
    exact ⟨(z_WkC q).1, (z_WkC q).2, rfl⟩
  · obtain ⟨-, rfl⟩ := q
    exact ⟨rfl, z_cwR⟩
  · obtain ⟨q, hp⟩ := q
    obtain ⟨hk, b9, q1, ⟨rfl, rfl⟩ | ⟨rfl, rfl⟩, q⟩ := q
    · exact ⟨hk, q1, q, z_hi.of (z_WkC q).1 hp⟩
    · exact ⟨hk, q1, q, z_hi.of (z_WkC q).1 hp⟩
  · obtain ⟨⟨q1, q2⟩, hp⟩ := q
    have q3 : z_Wk kn xa xb b0 b1 (z_cw rf kn ma xa fa ca mb xb fb cb mt xt ft ct f0 g0 c0 m0 s0 f1 g1 c1 m1 s1 f2 g2 c2 m2 s2 f3 g3 c3 m3 s3 f4 g4 c4 m4 s4 f5 g5 c5 m5 s5 ek0 em0 es0 el0 b0 ef0 ek1 em1 es1 el1 b1 ef1 []) := z_wk h0 h1 h2 h3 h4 h5
    exact ⟨q1, q2 ▸ q3, z_hi.of (by rw [q2]; rfl) hp⟩
set_option maxRecDepth 100000 in
theorem pk_counts (hl : l.stackTraces = false) (w : z_W) (ky : z_ky) (hW : z_WN ky w.1) (r p : Int32) : z_Con G l mX8_counts 20 14 120 w [.ref 0, .int r, .int p] (fun v w9 => (∃ x : Int32, v = some (.int x)) ∧ z_WN ky w9.1 ∧ z_hi w w9) (fun E w9 => z_xIA E ∧ z_WN ky w9.1 ∧ z_hi w w9) := by
  obtain ⟨L, P⟩ := w
  obtain ⟨kn, xa, xb, b0, b1⟩ := ky
  obtain ⟨rf, ma, fa, ca, mb, fb, cb, mt, xt, ft, ct, f0, g0, c0, m0, s0, f1, g1, c1, m1, s1, f2, g2, c2, m2, s2, f3, g3, c3, m3, s3, f4, g4, c4, m4, s4, f5, g5, c5, m5, s5, ek0, em0, es0, el0, ef0, ek1, em1, es1, el1, ef1, h0, h1, h2, h3, h4, h5, hL⟩ := hW
  have hL : L = _ := hL
  subst hL
  refine z_weak (z_lift 51 rfl (by decide) z_cwR rfl (c_X8_counts hl rf kn ma xa fa ca mb xb fb cb mt xt ft ct f0 g0 c0 m0 s0 f1 g1 c1 m1 s1 f2 g2 c2 m2 s2 f3 g3 c3 m3 s3 f4 g4 c4 m4 s4 f5 g5 c5 m5 s5 ek0 em0 es0 el0 b0 ef0 ek1 em1 es1 el1 b1 ef1 r p h0 h1 h2 h3 h4 h5) (fun v L' q => ?_) (fun E L' q => ?_)) (fun v w' q => ?_) (fun E w' q => ?_)
  · obtain ⟨⟨x, rfl⟩, q⟩ := q
    exact ⟨(z_WkC q).1, (z_WkC q).2, rfl⟩
  · obtain ⟨-, rfl⟩ := q
    exact ⟨rfl, z_cwR⟩
  · obtain ⟨q, hp⟩ := q
    obtain ⟨q1, q⟩ := q
    exact ⟨q1, q, z_hi.of (z_WkC q).1 hp⟩
  · obtain ⟨⟨q1, q2⟩, hp⟩ := q
    have q3 : z_Wk kn xa xb b0 b1 (z_cw rf kn ma xa fa ca mb xb fb cb mt xt ft ct f0 g0 c0 m0 s0 f1 g1 c1 m1 s1 f2 g2 c2 m2 s2 f3 g3 c3 m3 s3 f4 g4 c4 m4 s4 f5 g5 c5 m5 s5 ek0 em0 es0 el0 b0 ef0 ek1 em1 es1 el1 b1 ef1 []) := z_wk h0 h1 h2 h3 h4 h5
    exact ⟨q1, q2 ▸ q3, z_hi.of (by rw [q2]; rfl) hp⟩
set_option maxRecDepth 100000 in
theorem pk_shelfCounts (hl : l.stackTraces = false) (w : z_W) (ky : z_ky) (hW : z_WN ky w.1) (r : Int32) : z_Con G l mX8_shelfCounts 20 14 120 w [.ref 0, .int r] (fun v w9 => (∃ x : Int32, v = some (.int x)) ∧ z_WN ky w9.1 ∧ z_hi w w9) (fun E w9 => z_xA E ∧ z_WN ky w9.1 ∧ z_hi w w9) := by
  obtain ⟨L, P⟩ := w
  obtain ⟨kn, xa, xb, b0, b1⟩ := ky
  obtain ⟨rf, ma, fa, ca, mb, fb, cb, mt, xt, ft, ct, f0, g0, c0, m0, s0, f1, g1, c1, m1, s1, f2, g2, c2, m2, s2, f3, g3, c3, m3, s3, f4, g4, c4, m4, s4, f5, g5, c5, m5, s5, ek0, em0, es0, el0, ef0, ek1, em1, es1, el1, ef1, h0, h1, h2, h3, h4, h5, hL⟩ := hW
  have hL : L = _ := hL
  subst hL
  refine z_weak (z_lift 51 rfl (by decide) z_cwR rfl (c_X8_shelfCounts hl rf kn ma xa fa ca mb xb fb cb mt xt ft ct f0 g0 c0 m0 s0 f1 g1 c1 m1 s1 f2 g2 c2 m2 s2 f3 g3 c3 m3 s3 f4 g4 c4 m4 s4 f5 g5 c5 m5 s5 ek0 em0 es0 el0 b0 ef0 ek1 em1 es1 el1 b1 ef1 r h0 h1 h2 h3 h4 h5) (fun v L' q => ?_) (fun E L' q => ?_)) (fun v w' q => ?_) (fun E w' q => ?_)
  · obtain ⟨⟨x, rfl⟩, q⟩ := q
    exact ⟨(z_WkC q).1, (z_WkC q).2, rfl⟩
  · obtain ⟨-, rfl⟩ := q
    exact ⟨rfl, z_cwR⟩
  · obtain ⟨q, hp⟩ := q
    obtain ⟨q1, q⟩ := q
    exact ⟨q1, q, z_hi.of (z_WkC q).1 hp⟩
  · obtain ⟨⟨q1, q2⟩, hp⟩ := q
    have q3 : z_Wk kn xa xb b0 b1 (z_cw rf kn ma xa fa ca mb xb fb cb mt xt ft ct f0 g0 c0 m0 s0 f1 g1 c1 m1 s1 f2 g2 c2 m2 s2 f3 g3 c3 m3 s3 f4 g4 c4 m4 s4 f5 g5 c5 m5 s5 ek0 em0 es0 el0 b0 ef0 ek1 em1 es1 el1 b1 ef1 []) := z_wk h0 h1 h2 h3 h4 h5
    exact ⟨q1, q2 ▸ q3, z_hi.of (by rw [q2]; rfl) hp⟩
set_option maxRecDepth 100000 in
theorem pk_forgetCounts (hl : l.stackTraces = false) (w : z_W) (ky : z_ky) (hW : z_WN ky w.1) : z_Con G l mX8_forgetCounts 20 14 120 w [.ref 0] (fun v w9 => (∃ x : Int32, v = some (.int x)) ∧ z_WN ky w9.1 ∧ z_hi w w9) (fun _ _ => False) := by
  obtain ⟨L, P⟩ := w
  obtain ⟨kn, xa, xb, b0, b1⟩ := ky
  obtain ⟨rf, ma, fa, ca, mb, fb, cb, mt, xt, ft, ct, f0, g0, c0, m0, s0, f1, g1, c1, m1, s1, f2, g2, c2, m2, s2, f3, g3, c3, m3, s3, f4, g4, c4, m4, s4, f5, g5, c5, m5, s5, ek0, em0, es0, el0, ef0, ek1, em1, es1, el1, ef1, h0, h1, h2, h3, h4, h5, hL⟩ := hW
  have hL : L = _ := hL
  subst hL
  refine z_weak (z_lift 51 rfl (by decide) z_cwR rfl (z_CFX (X := fun _ _ => False) (c_X8_forgetCounts hl rf kn ma xa fa ca mb xb fb cb mt xt ft ct f0 g0 c0 m0 s0 f1 g1 c1 m1 s1 f2 g2 c2 m2 s2 f3 g3 c3 m3 s3 f4 g4 c4 m4 s4 f5 g5 c5 m5 s5 ek0 em0 es0 el0 b0 ef0 ek1 em1 es1 el1 b1 ef1 h0 h1 h2 h3 h4 h5)) (fun v L' q => ?_) (fun E L' q => ?_)) (fun v w' q => ?_) (fun E w' q => ?_)
  · obtain ⟨⟨x, rfl⟩, q⟩ := q
    exact ⟨(z_WkC q).1, (z_WkC q).2, rfl⟩
  · exact q.elim
  · obtain ⟨q, hp⟩ := q
    obtain ⟨q1, q⟩ := q
    exact ⟨q1, q, z_hi.of (z_WkC q).1 hp⟩
  · exact q.1.elim
set_option maxRecDepth 100000 in
theorem pk_get (hl : l.stackTraces = false) (w : z_W) (ky : z_ky) (hW : z_WN ky w.1) (r p : Int32) : z_Con G l mX8_get 20 14 120 w [.ref 0, .int r, .int p] (fun v w9 => (∃ x : Int32, v = some (.int x)) ∧ z_WN ky w9.1 ∧ z_hi w w9) (fun E w9 => z_xIA E ∧ z_WN ky w9.1 ∧ z_hi w w9) := by
  obtain ⟨L, P⟩ := w
  obtain ⟨kn, xa, xb, b0, b1⟩ := ky
  obtain ⟨rf, ma, fa, ca, mb, fb, cb, mt, xt, ft, ct, f0, g0, c0, m0, s0, f1, g1, c1, m1, s1, f2, g2, c2, m2, s2, f3, g3, c3, m3, s3, f4, g4, c4, m4, s4, f5, g5, c5, m5, s5, ek0, em0, es0, el0, ef0, ek1, em1, es1, el1, ef1, h0, h1, h2, h3, h4, h5, hL⟩ := hW
  have hL : L = _ := hL
  subst hL
  refine z_weak (z_lift 51 rfl (by decide) z_cwR rfl (c_X8_get hl rf kn ma xa fa ca mb xb fb cb mt xt ft ct f0 g0 c0 m0 s0 f1 g1 c1 m1 s1 f2 g2 c2 m2 s2 f3 g3 c3 m3 s3 f4 g4 c4 m4 s4 f5 g5 c5 m5 s5 ek0 em0 es0 el0 b0 ef0 ek1 em1 es1 el1 b1 ef1 r p h0 h1 h2 h3 h4 h5) (fun v L' q => ?_) (fun E L' q => ?_)) (fun v w' q => ?_) (fun E w' q => ?_)
  · obtain ⟨⟨x, rfl⟩, q⟩ := q
    exact ⟨(z_WkC q).1, (z_WkC q).2, rfl⟩
  · obtain ⟨-, rfl⟩ := q
    exact ⟨rfl, z_cwR⟩
  · obtain ⟨q, hp⟩ := q
    obtain ⟨q1, q⟩ := q
    exact ⟨q1, q, z_hi.of (z_WkC q).1 hp⟩
  · obtain ⟨⟨q1, q2⟩, hp⟩ := q
    have q3 : z_Wk kn xa xb b0 b1 (z_cw rf kn ma xa fa ca mb xb fb cb mt xt ft ct f0 g0 c0 m0 s0 f1 g1 c1 m1 s1 f2 g2 c2 m2 s2 f3 g3 c3 m3 s3 f4 g4 c4 m4 s4 f5 g5 c5 m5 s5 ek0 em0 es0 el0 b0 ef0 ek1 em1 es1 el1 b1 ef1 []) := z_wk h0 h1 h2 h3 h4 h5
    exact ⟨q1, q2 ▸ q3, z_hi.of (by rw [q2]; rfl) hp⟩
set_option maxRecDepth 100000 in
theorem pk_getOr (hl : l.stackTraces = false) (w : z_W) (ky : z_ky) (hW : z_WN ky w.1) (r p q : Int32) : z_Con G l mX8_getOr 20 14 120 w [.ref 0, .int r, .int p, .int q] (fun v w9 => (∃ x : Int32, v = some (.int x)) ∧ z_WN ky w9.1 ∧ z_hi w w9) (fun E w9 => z_xIA E ∧ z_WN ky w9.1 ∧ z_hi w w9) := by
  obtain ⟨L, P⟩ := w
  obtain ⟨kn, xa, xb, b0, b1⟩ := ky
  obtain ⟨rf, ma, fa, ca, mb, fb, cb, mt, xt, ft, ct, f0, g0, c0, m0, s0, f1, g1, c1, m1, s1, f2, g2, c2, m2, s2, f3, g3, c3, m3, s3, f4, g4, c4, m4, s4, f5, g5, c5, m5, s5, ek0, em0, es0, el0, ef0, ek1, em1, es1, el1, ef1, h0, h1, h2, h3, h4, h5, hL⟩ := hW
  have hL : L = _ := hL
  subst hL
  refine z_weak (z_lift 51 rfl (by decide) z_cwR rfl (c_X8_getOr hl rf kn ma xa fa ca mb xb fb cb mt xt ft ct f0 g0 c0 m0 s0 f1 g1 c1 m1 s1 f2 g2 c2 m2 s2 f3 g3 c3 m3 s3 f4 g4 c4 m4 s4 f5 g5 c5 m5 s5 ek0 em0 es0 el0 b0 ef0 ek1 em1 es1 el1 b1 ef1 r p q h0 h1 h2 h3 h4 h5) (fun v L' q => ?_) (fun E L' q => ?_)) (fun v w' q => ?_) (fun E w' q => ?_)
  · obtain ⟨⟨x, rfl⟩, q⟩ := q
    exact ⟨(z_WkC q).1, (z_WkC q).2, rfl⟩
  · obtain ⟨-, rfl⟩ := q
    exact ⟨rfl, z_cwR⟩
  · obtain ⟨q, hp⟩ := q
    obtain ⟨q1, q⟩ := q
    exact ⟨q1, q, z_hi.of (z_WkC q).1 hp⟩
  · obtain ⟨⟨q1, q2⟩, hp⟩ := q
    have q3 : z_Wk kn xa xb b0 b1 (z_cw rf kn ma xa fa ca mb xb fb cb mt xt ft ct f0 g0 c0 m0 s0 f1 g1 c1 m1 s1 f2 g2 c2 m2 s2 f3 g3 c3 m3 s3 f4 g4 c4 m4 s4 f5 g5 c5 m5 s5 ek0 em0 es0 el0 b0 ef0 ek1 em1 es1 el1 b1 ef1 []) := z_wk h0 h1 h2 h3 h4 h5
    exact ⟨q1, q2 ▸ q3, z_hi.of (by rw [q2]; rfl) hp⟩
set_option maxRecDepth 100000 in
theorem pk_has (hl : l.stackTraces = false) (w : z_W) (ky : z_ky) (hW : z_WN ky w.1) (r p : Int32) : z_Con G l mX8_has 20 14 120 w [.ref 0, .int r, .int p] (fun v w9 => (∃ b9 : Bool, v = some (.int (z_bi b9))) ∧ z_WN ky w9.1 ∧ z_hi w w9) (fun E w9 => z_xIA E ∧ z_WN ky w9.1 ∧ z_hi w w9) := by
  obtain ⟨L, P⟩ := w
  obtain ⟨kn, xa, xb, b0, b1⟩ := ky
  obtain ⟨rf, ma, fa, ca, mb, fb, cb, mt, xt, ft, ct, f0, g0, c0, m0, s0, f1, g1, c1, m1, s1, f2, g2, c2, m2, s2, f3, g3, c3, m3, s3, f4, g4, c4, m4, s4, f5, g5, c5, m5, s5, ek0, em0, es0, el0, ef0, ek1, em1, es1, el1, ef1, h0, h1, h2, h3, h4, h5, hL⟩ := hW
  have hL : L = _ := hL
  subst hL
  refine z_weak (z_lift 51 rfl (by decide) z_cwR rfl (c_X8_has hl rf kn ma xa fa ca mb xb fb cb mt xt ft ct f0 g0 c0 m0 s0 f1 g1 c1 m1 s1 f2 g2 c2 m2 s2 f3 g3 c3 m3 s3 f4 g4 c4 m4 s4 f5 g5 c5 m5 s5 ek0 em0 es0 el0 b0 ef0 ek1 em1 es1 el1 b1 ef1 r p h0 h1 h2 h3 h4 h5) (fun v L' q => ?_) (fun E L' q => ?_)) (fun v w' q => ?_) (fun E w' q => ?_)
  · obtain ⟨⟨x, rfl⟩, q⟩ := q
    exact ⟨(z_WkC q).1, (z_WkC q).2, rfl⟩
  · obtain ⟨-, rfl⟩ := q
    exact ⟨rfl, z_cwR⟩
  · obtain ⟨q, hp⟩ := q
    obtain ⟨q1, q⟩ := q
    exact ⟨q1, q, z_hi.of (z_WkC q).1 hp⟩
  · obtain ⟨⟨q1, q2⟩, hp⟩ := q
    have q3 : z_Wk kn xa xb b0 b1 (z_cw rf kn ma xa fa ca mb xb fb cb mt xt ft ct f0 g0 c0 m0 s0 f1 g1 c1 m1 s1 f2 g2 c2 m2 s2 f3 g3 c3 m3 s3 f4 g4 c4 m4 s4 f5 g5 c5 m5 s5 ek0 em0 es0 el0 b0 ef0 ek1 em1 es1 el1 b1 ef1 []) := z_wk h0 h1 h2 h3 h4 h5
    exact ⟨q1, q2 ▸ q3, z_hi.of (by rw [q2]; rfl) hp⟩
set_option maxRecDepth 100000 in
theorem pk_size (hl : l.stackTraces = false) (w : z_W) (ky : z_ky) (hW : z_WN ky w.1) (r : Int32) : z_Con G l mX8_size 20 14 120 w [.ref 0, .int r] (fun v w9 => (∃ x : Int32, v = some (.int x)) ∧ z_WN ky w9.1 ∧ z_hi w w9) (fun E w9 => z_xI E ∧ z_WN ky w9.1 ∧ z_hi w w9) := by
  obtain ⟨L, P⟩ := w
  obtain ⟨kn, xa, xb, b0, b1⟩ := ky
  obtain ⟨rf, ma, fa, ca, mb, fb, cb, mt, xt, ft, ct, f0, g0, c0, m0, s0, f1, g1, c1, m1, s1, f2, g2, c2, m2, s2, f3, g3, c3, m3, s3, f4, g4, c4, m4, s4, f5, g5, c5, m5, s5, ek0, em0, es0, el0, ef0, ek1, em1, es1, el1, ef1, h0, h1, h2, h3, h4, h5, hL⟩ := hW
  have hL : L = _ := hL
  subst hL
  refine z_weak (z_lift 51 rfl (by decide) z_cwR rfl (c_X8_size hl rf kn ma xa fa ca mb xb fb cb mt xt ft ct f0 g0 c0 m0 s0 f1 g1 c1 m1 s1 f2 g2 c2 m2 s2 f3 g3 c3 m3 s3 f4 g4 c4 m4 s4 f5 g5 c5 m5 s5 ek0 em0 es0 el0 b0 ef0 ek1 em1 es1 el1 b1 ef1 r h0 h1 h2 h3 h4 h5) (fun v L' q => ?_) (fun E L' q => ?_)) (fun v w' q => ?_) (fun E w' q => ?_)
  · obtain ⟨⟨x, rfl⟩, q⟩ := q
    exact ⟨(z_WkC q).1, (z_WkC q).2, rfl⟩
  · obtain ⟨-, rfl⟩ := q
    exact ⟨rfl, z_cwR⟩
  · obtain ⟨q, hp⟩ := q
    obtain ⟨q1, q⟩ := q
    exact ⟨q1, q, z_hi.of (z_WkC q).1 hp⟩
  · obtain ⟨⟨q1, q2⟩, hp⟩ := q
    have q3 : z_Wk kn xa xb b0 b1 (z_cw rf kn ma xa fa ca mb xb fb cb mt xt ft ct f0 g0 c0 m0 s0 f1 g1 c1 m1 s1 f2 g2 c2 m2 s2 f3 g3 c3 m3 s3 f4 g4 c4 m4 s4 f5 g5 c5 m5 s5 ek0 em0 es0 el0 b0 ef0 ek1 em1 es1 el1 b1 ef1 []) := z_wk h0 h1 h2 h3 h4 h5
    exact ⟨q1, q2 ▸ q3, z_hi.of (by rw [q2]; rfl) hp⟩
set_option maxRecDepth 100000 in
theorem pk_areLike (hl : l.stackTraces = false) (w : z_W) (ky : z_ky) (hW : z_WN ky w.1) (r p : Int32) : z_Con G l mX8_areLike 20 14 120 w [.ref 0, .int r, .int p] (fun v w9 => (∃ b9 : Bool, v = some (.int (z_bi b9))) ∧ z_WN ky w9.1 ∧ z_hi w w9) (fun E w9 => z_xI E ∧ z_WN ky w9.1 ∧ z_hi w w9) := by
  obtain ⟨L, P⟩ := w
  obtain ⟨kn, xa, xb, b0, b1⟩ := ky
  obtain ⟨rf, ma, fa, ca, mb, fb, cb, mt, xt, ft, ct, f0, g0, c0, m0, s0, f1, g1, c1, m1, s1, f2, g2, c2, m2, s2, f3, g3, c3, m3, s3, f4, g4, c4, m4, s4, f5, g5, c5, m5, s5, ek0, em0, es0, el0, ef0, ek1, em1, es1, el1, ef1, h0, h1, h2, h3, h4, h5, hL⟩ := hW
  have hL : L = _ := hL
  subst hL
  refine z_weak (z_lift 51 rfl (by decide) z_cwR rfl (c_X8_areLike hl rf kn ma xa fa ca mb xb fb cb mt xt ft ct f0 g0 c0 m0 s0 f1 g1 c1 m1 s1 f2 g2 c2 m2 s2 f3 g3 c3 m3 s3 f4 g4 c4 m4 s4 f5 g5 c5 m5 s5 ek0 em0 es0 el0 b0 ef0 ek1 em1 es1 el1 b1 ef1 r p h0 h1 h2 h3 h4 h5) (fun v L' q => ?_) (fun E L' q => ?_)) (fun v w' q => ?_) (fun E w' q => ?_)
  · obtain ⟨⟨x, rfl⟩, q⟩ := q
    exact ⟨(z_WkC q).1, (z_WkC q).2, rfl⟩
  · obtain ⟨-, rfl⟩ := q
    exact ⟨rfl, z_cwR⟩
  · obtain ⟨q, hp⟩ := q
    obtain ⟨q1, q⟩ := q
    exact ⟨q1, q, z_hi.of (z_WkC q).1 hp⟩
  · obtain ⟨⟨q1, q2⟩, hp⟩ := q
    have q3 : z_Wk kn xa xb b0 b1 (z_cw rf kn ma xa fa ca mb xb fb cb mt xt ft ct f0 g0 c0 m0 s0 f1 g1 c1 m1 s1 f2 g2 c2 m2 s2 f3 g3 c3 m3 s3 f4 g4 c4 m4 s4 f5 g5 c5 m5 s5 ek0 em0 es0 el0 b0 ef0 ek1 em1 es1 el1 b1 ef1 []) := z_wk h0 h1 h2 h3 h4 h5
    exact ⟨q1, q2 ▸ q3, z_hi.of (by rw [q2]; rfl) hp⟩
set_option maxRecDepth 100000 in
theorem pk_given (hl : l.stackTraces = false) (w : z_W) (ky : z_ky) (hW : z_WN ky w.1) (r p q t : Int32) : z_Con G l mX8_given 20 14 120 w [.ref 0, .int r, .int p, .int q, .int t] (fun v w9 => q_k1 ((p < 0 ∨ 19 < p) ∨ (q < -1000 ∨ 999 < q) ∨ (r < 0 ∨ 5 < r) ∨ (t < -999 ∨ 999 < t)) = 0 ∧ v = some (.int ((q_rt r p (q_d q) t).getD (-9))) ∧ z_WN ky w9.1 ∧ z_hi w w9) (fun E w9 => (z_xA E ∧ q_k1 ((p < 0 ∨ 19 < p) ∨ (q < -1000 ∨ 999 < q) ∨ (r < 0 ∨ 5 < r) ∨ (t < -999 ∨ 999 < t)) = 1) ∧ z_WN ky w9.1 ∧ z_hi w w9) := by
  obtain ⟨L, P⟩ := w
  obtain ⟨kn, xa, xb, b0, b1⟩ := ky
  obtain ⟨rf, ma, fa, ca, mb, fb, cb, mt, xt, ft, ct, f0, g0, c0, m0, s0, f1, g1, c1, m1, s1, f2, g2, c2, m2, s2, f3, g3, c3, m3, s3, f4, g4, c4, m4, s4, f5, g5, c5, m5, s5, ek0, em0, es0, el0, ef0, ek1, em1, es1, el1, ef1, h0, h1, h2, h3, h4, h5, hL⟩ := hW
  have hL : L = _ := hL
  subst hL
  refine z_weak (z_lift 51 rfl (by decide) z_cwR rfl (c_X8_given_e hl rf kn ma xa fa ca mb xb fb cb mt xt ft ct f0 g0 c0 m0 s0 f1 g1 c1 m1 s1 f2 g2 c2 m2 s2 f3 g3 c3 m3 s3 f4 g4 c4 m4 s4 f5 g5 c5 m5 s5 ek0 em0 es0 el0 b0 ef0 ek1 em1 es1 el1 b1 ef1 r p q t h0 h1 h2 h3 h4 h5) (fun v L' q => ?_) (fun E L' q => ?_)) (fun v w' q => ?_) (fun E w' q => ?_)
  · obtain ⟨-, rfl, q⟩ := q
    exact ⟨(z_WkC q).1, (z_WkC q).2, rfl⟩
  · obtain ⟨-, rfl⟩ := q
    exact ⟨rfl, z_cwR⟩
  · obtain ⟨q, hp⟩ := q
    obtain ⟨hk, q1, q⟩ := q
    exact ⟨hk, q1, q, z_hi.of (z_WkC q).1 hp⟩
  · obtain ⟨⟨q1, q2⟩, hp⟩ := q
    have q3 : z_Wk kn xa xb b0 b1 (z_cw rf kn ma xa fa ca mb xb fb cb mt xt ft ct f0 g0 c0 m0 s0 f1 g1 c1 m1 s1 f2 g2 c2 m2 s2 f3 g3 c3 m3 s3 f4 g4 c4 m4 s4 f5 g5 c5 m5 s5 ek0 em0 es0 el0 b0 ef0 ek1 em1 es1 el1 b1 ef1 []) := z_wk h0 h1 h2 h3 h4 h5
    exact ⟨q1, q2 ▸ q3, z_hi.of (by rw [q2]; rfl) hp⟩
set_option maxRecDepth 100000 in
theorem pk_tested (hl : l.stackTraces = false) (w : z_W) (ky : z_ky) (hW : z_WN ky w.1) (r p q : Int32) : z_Con G l mX8_tested 20 14 120 w [.ref 0, .int r, .int p, .int q] (fun v w9 => q_k1 ((r < 0 ∨ 5 < r) ∨ (p < -999 ∨ 999 < p) ∨ (q < -999 ∨ 999 < q)) = 0 ∧ v = some (.int ((q_tt r p q).getD (-9))) ∧ z_WN ky w9.1 ∧ z_hi w w9) (fun E w9 => (z_xA E ∧ q_k1 ((r < 0 ∨ 5 < r) ∨ (p < -999 ∨ 999 < p) ∨ (q < -999 ∨ 999 < q)) = 1) ∧ z_WN ky w9.1 ∧ z_hi w w9) := by
  obtain ⟨L, P⟩ := w
  obtain ⟨kn, xa, xb, b0, b1⟩ := ky
  obtain ⟨rf, ma, fa, ca, mb, fb, cb, mt, xt, ft, ct, f0, g0, c0, m0, s0, f1, g1, c1, m1, s1, f2, g2, c2, m2, s2, f3, g3, c3, m3, s3, f4, g4, c4, m4, s4, f5, g5, c5, m5, s5, ek0, em0, es0, el0, ef0, ek1, em1, es1, el1, ef1, h0, h1, h2, h3, h4, h5, hL⟩ := hW
  have hL : L = _ := hL
  subst hL
  refine z_weak (z_lift 51 rfl (by decide) z_cwR rfl (c_X8_tested_e hl rf kn ma xa fa ca mb xb fb cb mt xt ft ct f0 g0 c0 m0 s0 f1 g1 c1 m1 s1 f2 g2 c2 m2 s2 f3 g3 c3 m3 s3 f4 g4 c4 m4 s4 f5 g5 c5 m5 s5 ek0 em0 es0 el0 b0 ef0 ek1 em1 es1 el1 b1 ef1 r p q h0 h1 h2 h3 h4 h5) (fun v L' q => ?_) (fun E L' q => ?_)) (fun v w' q => ?_) (fun E w' q => ?_)
  · obtain ⟨-, rfl, q⟩ := q
    exact ⟨(z_WkC q).1, (z_WkC q).2, rfl⟩
  · obtain ⟨-, rfl⟩ := q
    exact ⟨rfl, z_cwR⟩
  · obtain ⟨q, hp⟩ := q
    obtain ⟨hk, q1, q⟩ := q
    exact ⟨hk, q1, q, z_hi.of (z_WkC q).1 hp⟩
  · obtain ⟨⟨q1, q2⟩, hp⟩ := q
    have q3 : z_Wk kn xa xb b0 b1 (z_cw rf kn ma xa fa ca mb xb fb cb mt xt ft ct f0 g0 c0 m0 s0 f1 g1 c1 m1 s1 f2 g2 c2 m2 s2 f3 g3 c3 m3 s3 f4 g4 c4 m4 s4 f5 g5 c5 m5 s5 ek0 em0 es0 el0 b0 ef0 ek1 em1 es1 el1 b1 ef1 []) := z_wk h0 h1 h2 h3 h4 h5
    exact ⟨q1, q2 ▸ q3, z_hi.of (by rw [q2]; rfl) hp⟩
set_option maxRecDepth 100000 in
theorem pk_knock (hl : l.stackTraces = false) (w : z_W) (ky : z_ky) (hW : z_WN ky w.1) : z_Con G l mX8_knock 20 14 120 w [.ref 0] (fun v w9 => v = some (.int (ky.1 + 1)) ∧ z_WN (ky.1 + 1, ky.2) w9.1 ∧ z_hi w w9) (fun _ _ => False) := by
  obtain ⟨L, P⟩ := w
  obtain ⟨kn, xa, xb, b0, b1⟩ := ky
  obtain ⟨rf, ma, fa, ca, mb, fb, cb, mt, xt, ft, ct, f0, g0, c0, m0, s0, f1, g1, c1, m1, s1, f2, g2, c2, m2, s2, f3, g3, c3, m3, s3, f4, g4, c4, m4, s4, f5, g5, c5, m5, s5, ek0, em0, es0, el0, ef0, ek1, em1, es1, el1, ef1, h0, h1, h2, h3, h4, h5, hL⟩ := hW
  have hL : L = _ := hL
  subst hL
  refine z_weak (z_lift 51 rfl (by decide) z_cwR rfl (z_CFX (X := fun _ _ => False) (c_X8_knock hl rf kn ma xa fa ca mb xb fb cb mt xt ft ct f0 g0 c0 m0 s0 f1 g1 c1 m1 s1 f2 g2 c2 m2 s2 f3 g3 c3 m3 s3 f4 g4 c4 m4 s4 f5 g5 c5 m5 s5 ek0 em0 es0 el0 b0 ef0 ek1 em1 es1 el1 b1 ef1 h0 h1 h2 h3 h4 h5)) (fun v L' q => ?_) (fun E L' q => ?_)) (fun v w' q => ?_) (fun E w' q => ?_)
  · obtain ⟨rfl, q⟩ := q
    exact ⟨(z_WkC q).1, (z_WkC q).2, rfl⟩
  · exact q.elim
  · obtain ⟨q, hp⟩ := q
    obtain ⟨q1, q⟩ := q
    exact ⟨q1, q, z_hi.of (z_WkC q).1 hp⟩
  · exact q.1.elim
set_option maxRecDepth 100000 in
theorem pk_house (hl : l.stackTraces = false) (w : z_W) (ky : z_ky) (hW : z_WN ky w.1) (p : Int32) : z_Con G l mX8_house 20 14 120 w [.ref 0, .int p] (fun v w9 => (∃ x : Int32, v = some (.int x)) ∧ z_WN ky w9.1 ∧ z_hi w w9) (fun E w9 => z_xA E ∧ z_WN ky w9.1 ∧ z_hi w w9) := by
  obtain ⟨L, P⟩ := w
  obtain ⟨kn, xa, xb, b0, b1⟩ := ky
  obtain ⟨rf, ma, fa, ca, mb, fb, cb, mt, xt, ft, ct, f0, g0, c0, m0, s0, f1, g1, c1, m1, s1, f2, g2, c2, m2, s2, f3, g3, c3, m3, s3, f4, g4, c4, m4, s4, f5, g5, c5, m5, s5, ek0, em0, es0, el0, ef0, ek1, em1, es1, el1, ef1, h0, h1, h2, h3, h4, h5, hL⟩ := hW
  have hL : L = _ := hL
  subst hL
  refine z_weak (z_lift 51 rfl (by decide) z_cwR rfl (c_X8_house hl rf kn ma xa fa ca mb xb fb cb mt xt ft ct f0 g0 c0 m0 s0 f1 g1 c1 m1 s1 f2 g2 c2 m2 s2 f3 g3 c3 m3 s3 f4 g4 c4 m4 s4 f5 g5 c5 m5 s5 ek0 em0 es0 el0 b0 ef0 ek1 em1 es1 el1 b1 ef1 p h0 h1 h2 h3 h4 h5) (fun v L' q => ?_) (fun E L' q => ?_)) (fun v w' q => ?_) (fun E w' q => ?_)
  · obtain ⟨⟨x, rfl⟩, q⟩ := q
    exact ⟨(z_WkC q).1, (z_WkC q).2, rfl⟩
  · obtain ⟨-, rfl⟩ := q
    exact ⟨rfl, z_cwR⟩
  · obtain ⟨q, hp⟩ := q
    obtain ⟨q1, q⟩ := q
    exact ⟨q1, q, z_hi.of (z_WkC q).1 hp⟩
  · obtain ⟨⟨q1, q2⟩, hp⟩ := q
    have q3 : z_Wk kn xa xb b0 b1 (z_cw rf kn ma xa fa ca mb xb fb cb mt xt ft ct f0 g0 c0 m0 s0 f1 g1 c1 m1 s1 f2 g2 c2 m2 s2 f3 g3 c3 m3 s3 f4 g4 c4 m4 s4 f5 g5 c5 m5 s5 ek0 em0 es0 el0 b0 ef0 ek1 em1 es1 el1 b1 ef1 []) := z_wk h0 h1 h2 h3 h4 h5
    exact ⟨q1, q2 ▸ q3, z_hi.of (by rw [q2]; rfl) hp⟩
set_option maxRecDepth 100000 in
theorem pk_isSound (hl : l.stackTraces = false) (w : z_W) (ky : z_ky) (hW : z_WN ky w.1) : z_Con G l mX8_isSound 21 12 60 w [.ref 0] (fun v w9 => (∃ b9 : Bool, v = some (.int (z_bi b9))) ∧ z_WN ky w9.1 ∧ z_hi w w9) (fun _ _ => False) := by
  obtain ⟨L, P⟩ := w
  obtain ⟨kn, xa, xb, b0, b1⟩ := ky
  obtain ⟨rf, ma, fa, ca, mb, fb, cb, mt, xt, ft, ct, f0, g0, c0, m0, s0, f1, g1, c1, m1, s1, f2, g2, c2, m2, s2, f3, g3, c3, m3, s3, f4, g4, c4, m4, s4, f5, g5, c5, m5, s5, ek0, em0, es0, el0, ef0, ek1, em1, es1, el1, ef1, h0, h1, h2, h3, h4, h5, hL⟩ := hW
  have hL : L = _ := hL
  subst hL
  refine z_weak (z_lift 51 rfl (by decide) z_cwR rfl (z_CFX (X := fun _ _ => False) (c_X8_isSound hl rf kn ma xa fa ca mb xb fb cb mt xt ft ct f0 g0 c0 m0 s0 f1 g1 c1 m1 s1 f2 g2 c2 m2 s2 f3 g3 c3 m3 s3 f4 g4 c4 m4 s4 f5 g5 c5 m5 s5 ek0 em0 es0 el0 b0 ef0 ek1 em1 es1 el1 b1 ef1 h0 h1 h2 h3 h4 h5)) (fun v L' q => ?_) (fun E L' q => ?_)) (fun v w' q => ?_) (fun E w' q => ?_)
  · obtain ⟨⟨x, rfl⟩, q⟩ := q
    exact ⟨(z_WkC q).1, (z_WkC q).2, rfl⟩
  · exact q.elim
  · obtain ⟨q, hp⟩ := q
    obtain ⟨q1, q⟩ := q
    exact ⟨q1, q, z_hi.of (z_WkC q).1 hp⟩
  · exact q.1.elim
end ZLiftK
