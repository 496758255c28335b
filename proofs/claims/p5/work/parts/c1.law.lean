section ZLxa
variable {G : z_G} {l : Launch} {y : z_M} {S : z_S} {pc : Nat} {lo : List (Nat × Value)} {st : List Value} {w w9 : z_W} {kc ks : Nat}
theorem j_lcmp {a b : Int64} (hd : decode y.2.1 pc = .ok (.lcmp, 1)) (h : z_J G l y S (pc + 1) lo (.int (lg_cmp a b) :: st) w kc ks) : z_J G l y S pc lo (.long b :: .long a :: st) w kc ks := by
  intro p e s m args below meth c R0 hok R H locs ls cst hat hlo hst
  obtain ⟨c1, cs1, rfl, h1, hst1⟩ := z_Lc hst
  obtain ⟨c2, cs2, rfl, h2, hst2⟩ := z_Lc hst1
  have h1 : c1 = .long b := h1
  have h2 : c2 = .long a := h2
  subst h1 h2
  exact W.lcmp hok.1 hok.2.1 hd (h p e s m args below meth c R0 hok R H locs ls _ hat hlo ⟨rfl, hst2⟩)
theorem q_cmp {a b : Int64} (h : a = b) : lg_cmp a b = 0 := by
  subst h
  unfold lg_cmp
  rw [if_neg (Int64.lt_irrefl), if_pos rfl]
end ZLxa
section ZLx
variable {G : z_G} {l : Launch}
theorem sp_rif01 {b : Bool} {T : List (Nat × Int32)} {c : Nat → Int32} {k : Nat} {o v : Int32} : (sp_rif b T c k o v).1.getD (-9) = 0 ∨ (sp_rif b T c k o v).1.getD (-9) = 1 := by
  unfold sp_rif
  split
  · exact Or.inr rfl
  · exact Or.inl rfl
theorem sp_rmp01 {T : List (Nat × Int32)} {c : Nat → Int32} {k : Nat} {v : Int32} : (sp_rmp T c k v).1.getD (-9) = 0 ∨ (sp_rmp T c k v).1.getD (-9) = 1 := by
  unfold sp_rmp
  split
  · exact Or.inr rfl
  · exact Or.inl rfl
def z_LX (x : Nat) (C M : sp_S) (n : Int64) (w : z_W) : Prop := (sp_CW C w.1 ∧ sp_ok C) ∧ (∃ s, z_mst w s ∧ sp_MR M s ∧ sp_ok M) ∧ (∃ v : Value, z_g w x = some (.inr (13, [.long n, v]))) ∧ 1000 ≤ x ∧ x % 64 = 60
theorem z_LX.cls {x : Nat} {C C2 M : sp_S} {n : Int64} {w w9 : z_W} (h : z_LX x C M n w) (h1 : sp_CW C2 w9.1) (ok : sp_ok C2) (h2 : z_hi w w9) : z_LX x C2 M n w9 := by
  obtain ⟨-, ⟨s, hs, hk⟩, ⟨v, hg⟩, hx, hx2⟩ := h
  exact ⟨⟨h1, ok⟩, ⟨s, hs.hi h2, hk⟩, ⟨v, (h2.1 x hx (Or.inr (by omega))).trans hg⟩, hx, hx2⟩
theorem z_LX.out {x : Nat} {C M : sp_S} {n n' : Int64} {w w9 : z_W} {v : Value} (h : z_LX x C M n w) (u : z_up w x (.inr (13, [.long n', v])) w9) : z_LX x C M n' w9 := by
  obtain ⟨hW, ⟨s, hs, hk⟩, -, hx, hx2⟩ := h
  exact ⟨by rw [u.2.2.1]; exact hW, ⟨s, hs.hm ⟨fun m h1 h2 => u.2.1 m (fun z => by omega), u.2.2.2⟩, hk⟩, ⟨v, u.1⟩, hx, hx2⟩
theorem z_LX.x1 {x : Nat} {C M : sp_S} {n : Int64} {w : z_W} (h : z_LX x C M n w) : 1000 ≤ x := h.2.2.2.1
theorem z_LX.fn {x : Nat} {C M : sp_S} {n : Int64} {w : z_W} (h : z_LX x C M n w) : z_fn w := by
  obtain ⟨-, ⟨s, hs, -⟩, -⟩ := h
  exact hs.fn
theorem sp_CW.c0 {S : sp_S} {w : z_W} (h : sp_CW S w.1) : ∃ fs, z_g w 0 = some (.inr (12, fs)) := by
  obtain ⟨fa, fb, mt, ft, ct, f0, g0, f1, g1, c1, f2, g2, c2, f3, g3, c3, m3, f4, g4, c4, m4, f5, g5, c5, m5, ef0, ef1, hra, hrb, ht0, ht1, ht2, he0, he1, hzm3, hzm4, hzm5, hL⟩ := h
  exact ⟨_, z_g1 hL (by decide) rfl⟩
theorem z_LX.rc {x : Nat} {C M : sp_S} {n : Int64} {w : z_W} (h : z_LX x C M n w) : ∃ fs, z_g w 0 = some (.inr (12, fs)) := h.1.1.c0
theorem z_LX.mod {x : Nat} {C M M2 : sp_S} {n : Int64} {w w9 : z_W} {s9 : z_Z} (h : z_LX x C M n w) (h1 : z_fm 59 w w9) (h2 : z_mst w9 s9) (h3 : sp_MR M2 s9) (ok : sp_ok M2) : z_LX x C M2 n w9 := by
  obtain ⟨hW, -, ⟨v, hg⟩, hx, hx2⟩ := h
  exact ⟨by rw [h1.1]; exact hW, ⟨s9, h2, h3, ok⟩, ⟨v, h1.g hx (by omega) hg⟩, hx, hx2⟩
def z_trw (w : z_W) (t : Int32) : Prop := ∃ s, z_mst w s ∧ s.1.1 = t
abbrev t_type (S : sp_S) (r : Int32) (y : Int32) : Int32 := sp_k23 r (sp_bv y) ((sp_R S (sp_i r)).length = 12)
def k_type (S : sp_S) (r : Int32) (y : Int32) : sp_S := if t_type S r y = 0 then sp_uR S (sp_i r) ((sp_R S (sp_i r)) ++ [y]) else S
abbrev a_type (S : sp_S) (r : Int32) (y : Int32) : Int32 := nI ((sp_R S (sp_i r)) ++ [y]).length
theorem okk_type {S : sp_S} (r : Int32) (y : Int32) (ok : sp_ok S) : sp_ok (k_type S r y) := by
  unfold k_type
  by_cases h : t_type S r y = 0
  · rw [if_pos h]; exact ok_type ok h
  · rw [if_neg h]; exact ok
theorem kx_type (hl : l.stackTraces = false) {x : Nat} {C S : sp_S} {n9 : Int64} (w : z_W) (LT : z_LX x C S n9 w) (r : Int32) (y : Int32) : z_Con G l mX11_type 22 2 33 w [.ref 1000, .int r, .int y] (fun v w9 => ∃ r9 : Int32, v = some (.int r9) ∧ z_LX x C (k_type S r y) n9 w9 ∧ z_trw w9 (t_type S r y) ∧ (t_type S r y = 0 → r9 = a_type S r y)) (fun _ _ => False) := by
  obtain ⟨-, ⟨s, hs, hR, ok⟩, -⟩ := id LT
  refine z_weak (cx_type hl w S s r y hs hR) (fun v w9 q => ?_) (fun _ _ h => h)
  obtain ⟨r9, s9, hv, fm, h9, ht, R9, hr⟩ := q
  exact ⟨r9, hv, LT.mod fm h9 R9 (okk_type _ _ ok), ⟨s9, h9, ht⟩, hr⟩
abbrev t_drop (S : sp_S) (r : Int32) (m : Int32) : Int32 := q_k22 r (m < 1 ∨ nI (sp_R S (sp_i r)).length < m)
def k_drop (S : sp_S) (r : Int32) (m : Int32) : sp_S := if t_drop S r m = 0 then sp_uR S (sp_i r) ((sp_R S (sp_i r)).take ((sp_R S (sp_i r)).length - sp_i m)) else S
abbrev a_drop (S : sp_S) (r : Int32) (m : Int32) : Int32 := nI ((sp_R S (sp_i r)).take ((sp_R S (sp_i r)).length - sp_i m)).length
theorem okk_drop {S : sp_S} (r : Int32) (m : Int32) (ok : sp_ok S) : sp_ok (k_drop S r m) := by
  unfold k_drop
  by_cases h : t_drop S r m = 0
  · rw [if_pos h]; exact ok_drop ok h
  · rw [if_neg h]; exact ok
theorem kx_drop (hl : l.stackTraces = false) {x : Nat} {C S : sp_S} {n9 : Int64} (w : z_W) (LT : z_LX x C S n9 w) (r : Int32) (m : Int32) : z_Con G l mX11_drop 22 0 0 w [.ref 1000, .int r, .int m] (fun v w9 => ∃ r9 : Int32, v = some (.int r9) ∧ z_LX x C (k_drop S r m) n9 w9 ∧ z_trw w9 (t_drop S r m) ∧ (t_drop S r m = 0 → r9 = a_drop S r m)) (fun _ _ => False) := by
  obtain ⟨-, ⟨s, hs, hR, ok⟩, -⟩ := id LT
  refine z_weak (cx_drop hl w S s r m hs hR) (fun v w9 q => ?_) (fun _ _ h => h)
  obtain ⟨r9, s9, hv, fm, h9, ht, R9, hr⟩ := q
  exact ⟨r9, hv, LT.mod fm h9 R9 (okk_drop _ _ ok), ⟨s9, h9, ht⟩, hr⟩
abbrev t_fix (S : sp_S) (r : Int32) (b : Bool) : Int32 := q_k2 r
def k_fix (S : sp_S) (r : Int32) (b : Bool) : sp_S := if t_fix S r b = 0 then sp_uF S (sp_i r) b else S
abbrev a_fix (S : sp_S) (r : Int32) (b : Bool) : Int32 := z_bi (sp_F S (sp_i r))
theorem okk_fix {S : sp_S} (r : Int32) (b : Bool) (ok : sp_ok S) : sp_ok (k_fix S r b) := by
  unfold k_fix
  by_cases h : t_fix S r b = 0
  · rw [if_pos h]; exact ok_uF ok
  · rw [if_neg h]; exact ok
theorem kx_fix (hl : l.stackTraces = false) {x : Nat} {C S : sp_S} {n9 : Int64} (w : z_W) (LT : z_LX x C S n9 w) (r : Int32) (b : Bool) : z_Con G l mX11_fix 20 0 0 w [.ref 1000, .int r, .int (z_bi b)] (fun v w9 => ∃ r9 : Int32, v = some (.int r9) ∧ z_LX x C (k_fix S r b) n9 w9 ∧ z_trw w9 (t_fix S r b) ∧ (t_fix S r b = 0 → r9 = a_fix S r b)) (fun _ _ => False) := by
  obtain ⟨-, ⟨s, hs, hR, ok⟩, -⟩ := id LT
  refine z_weak (cx_fix hl w S s r b hs hR) (fun v w9 q => ?_) (fun _ _ h => h)
  obtain ⟨r9, s9, hv, fm, h9, ht, R9, hr⟩ := q
  exact ⟨r9, hv, LT.mod fm h9 R9 (okk_fix _ _ ok), ⟨s9, h9, ht⟩, hr⟩
abbrev t_hear (S : sp_S) (r : Int32) (g : Int32) : Int32 := sp_k2b r g
def k_hear (S : sp_S) (r : Int32) (g : Int32) : sp_S := if t_hear S r g = 0 then sp_hrS S (sp_i r) (sp_i g) 0 else S
abbrev a_hear (S : sp_S) (r : Int32) (g : Int32) : Int32 := sp_an (sp_hr S (sp_i r) (sp_i g) 0).1
theorem okk_hear {S : sp_S} (r : Int32) (g : Int32) (ok : sp_ok S) : sp_ok (k_hear S r g) := by
  unfold k_hear
  by_cases h : t_hear S r g = 0
  · rw [if_pos h]; exact ok_hr ok (sp_i_2 (z_k2b h).2)
  · rw [if_neg h]; exact ok
theorem kx_hear (hl : l.stackTraces = false) {x : Nat} {C S : sp_S} {n9 : Int64} (w : z_W) (LT : z_LX x C S n9 w) (r : Int32) (g : Int32) : z_Con G l mX11_hear 22 24 372 w [.ref 1000, .int r, .int g] (fun v w9 => ∃ r9 : Int32, v = some (.int r9) ∧ z_LX x C (k_hear S r g) n9 w9 ∧ z_trw w9 (t_hear S r g) ∧ (t_hear S r g = 0 → r9 = a_hear S r g)) (fun _ _ => False) := by
  obtain ⟨-, ⟨s, hs, hR, ok⟩, -⟩ := id LT
  refine z_weak (cx_hear hl w S s r g hs hR) (fun v w9 q => ?_) (fun _ _ h => h)
  obtain ⟨r9, s9, hv, fm, h9, ht, R9, hr⟩ := q
  exact ⟨r9, hv, LT.mod fm h9 R9 (okk_hear _ _ ok), ⟨s9, h9, ht⟩, hr⟩
abbrev t_rest (S : sp_S) (r : Int32) (a : Int32) (g : Int32) : Int32 := sp_k2c r g (a < 0 ∨ nI (sp_R S (sp_i r)).length < a)
def k_rest (S : sp_S) (r : Int32) (a : Int32) (g : Int32) : sp_S := if t_rest S r a g = 0 then sp_hrS S (sp_i r) (sp_i g) (sp_i a) else S
abbrev a_rest (S : sp_S) (r : Int32) (a : Int32) (g : Int32) : Int32 := sp_an (sp_hr S (sp_i r) (sp_i g) (sp_i a)).1
theorem okk_rest {S : sp_S} (r : Int32) (a : Int32) (g : Int32) (ok : sp_ok S) : sp_ok (k_rest S r a g) := by
  unfold k_rest
  by_cases h : t_rest S r a g = 0
  · rw [if_pos h]; exact ok_hr ok (sp_i_2 (z_k2c h).2.1)
  · rw [if_neg h]; exact ok
theorem kx_rest (hl : l.stackTraces = false) {x : Nat} {C S : sp_S} {n9 : Int64} (w : z_W) (LT : z_LX x C S n9 w) (r : Int32) (a : Int32) (g : Int32) : z_Con G l mX11_rest 22 24 372 w [.ref 1000, .int r, .int a, .int g] (fun v w9 => ∃ r9 : Int32, v = some (.int r9) ∧ z_LX x C (k_rest S r a g) n9 w9 ∧ z_trw w9 (t_rest S r a g) ∧ (t_rest S r a g = 0 → r9 = a_rest S r a g)) (fun _ _ => False) := by
  obtain ⟨-, ⟨s, hs, hR, ok⟩, -⟩ := id LT
  refine z_weak (cx_rest hl w S s r a g hs hR) (fun v w9 q => ?_) (fun _ _ h => h)
  obtain ⟨r9, s9, hv, fm, h9, ht, R9, hr⟩ := q
  exact ⟨r9, hv, LT.mod fm h9 R9 (okk_rest _ _ _ ok), ⟨s9, h9, ht⟩, hr⟩
abbrev t_removeIf (S : sp_S) (r : Int32) (t : Int32) (n : Int32) : Int32 := q_k22 r ((t < 0 ∨ 5 < t) ∨ sp_bv n)
def k_removeIf (S : sp_S) (r : Int32) (t : Int32) (n : Int32) : sp_S := if t_removeIf S r t n = 0 then sp_sftS S (sp_i r) t n else S
abbrev a_removeIf (S : sp_S) (r : Int32) (t : Int32) (n : Int32) : Int32 := sp_ab (sp_sft S (sp_i r) t n).1
theorem okk_removeIf {S : sp_S} (r : Int32) (t : Int32) (n : Int32) (ok : sp_ok S) : sp_ok (k_removeIf S r t n) := by
  unfold k_removeIf
  by_cases h : t_removeIf S r t n = 0
  · rw [if_pos h]; exact ok_sft ok (sp_i_2 (z_k22 h).1)
  · rw [if_neg h]; exact ok
theorem kx_removeIf (hl : l.stackTraces = false) {x : Nat} {C S : sp_S} {n9 : Int64} (w : z_W) (LT : z_LX x C S n9 w) (r : Int32) (t : Int32) (n : Int32) : z_Con G l mX11_removeIf 22 0 0 w [.ref 1000, .int r, .int t, .int n] (fun v w9 => ∃ r9 : Int32, v = some (.int r9) ∧ z_LX x C (k_removeIf S r t n) n9 w9 ∧ z_trw w9 (t_removeIf S r t n) ∧ (t_removeIf S r t n = 0 → r9 = a_removeIf S r t n)) (fun _ _ => False) := by
  obtain ⟨-, ⟨s, hs, hR, ok⟩, -⟩ := id LT
  refine z_weak (cx_removeIf hl w S s r t n hs hR) (fun v w9 q => ?_) (fun _ _ h => h)
  obtain ⟨r9, s9, hv, fm, h9, ht, R9, hr⟩ := q
  exact ⟨r9, hv, LT.mod fm h9 R9 (okk_removeIf _ _ _ ok), ⟨s9, h9, ht⟩, hr⟩
abbrev t_replaceAll (S : sp_S) (r : Int32) (u : Int32) (n : Int32) : Int32 := q_k22 r (¬ (u = 0 ∨ u = 1 ∨ u = 4) ∨ sp_bv n)
def k_replaceAll (S : sp_S) (r : Int32) (u : Int32) (n : Int32) : sp_S := if t_replaceAll S r u n = 0 then sp_chgS S (sp_i r) u n else S
abbrev a_replaceAll (S : sp_S) (r : Int32) (u : Int32) (n : Int32) : Int32 := cond (sp_chg S (sp_i r) u n).1 (nI (sp_chg S (sp_i r) u n).2.2.length) (-9)
theorem okk_replaceAll {S : sp_S} (r : Int32) (u : Int32) (n : Int32) (ok : sp_ok S) : sp_ok (k_replaceAll S r u n) := by
  unfold k_replaceAll
  by_cases h : t_replaceAll S r u n = 0
  · rw [if_pos h]; exact ok_chg ok (sp_i_2 (z_k22 h).1) (Decidable.byContradiction fun z => (z_k22 h).2 (Or.inl fun y => z (y.elim Or.inl fun y => y.elim (fun y => Or.inr (Or.inl y)) fun y => Or.inr (Or.inr (Or.inl y))))) (sp_vl fun z => (z_k22 h).2 (Or.inr z))
  · rw [if_neg h]; exact ok
theorem kx_replaceAll (hl : l.stackTraces = false) {x : Nat} {C S : sp_S} {n9 : Int64} (w : z_W) (LT : z_LX x C S n9 w) (r : Int32) (u : Int32) (n : Int32) : z_Con G l mX11_replaceAll 22 12 12 w [.ref 1000, .int r, .int u, .int n] (fun v w9 => ∃ r9 : Int32, v = some (.int r9) ∧ z_LX x C (k_replaceAll S r u n) n9 w9 ∧ z_trw w9 (t_replaceAll S r u n) ∧ (t_replaceAll S r u n = 0 → r9 = a_replaceAll S r u n)) (fun _ _ => False) := by
  obtain ⟨-, ⟨s, hs, hR, ok⟩, -⟩ := id LT
  refine z_weak (cx_replaceAll hl w S s r u n hs hR ok) (fun v w9 q => ?_) (fun _ _ h => h)
  obtain ⟨r9, s9, hv, fm, h9, ht, R9, hr⟩ := q
  exact ⟨r9, hv, LT.mod fm h9 R9 (okk_replaceAll _ _ _ ok), ⟨s9, h9, ht⟩, hr⟩
abbrev t_copy (S : sp_S) (r : Int32) : Int32 := q_k2 r
def k_copy (S : sp_S) (r : Int32) : sp_S := if t_copy S r = 0 then sp_uR S (sp_i r) (sp_R S (1 - sp_i r)) else S
abbrev a_copy (S : sp_S) (r : Int32) : Int32 := nI (sp_R S (1 - sp_i r)).length
theorem okk_copy {S : sp_S} (r : Int32) (ok : sp_ok S) : sp_ok (k_copy S r) := by
  unfold k_copy
  by_cases h : t_copy S r = 0
  · rw [if_pos h]; exact ok_copy ok h
  · rw [if_neg h]; exact ok
theorem kx_copy (hl : l.stackTraces = false) {x : Nat} {C S : sp_S} {n9 : Int64} (w : z_W) (LT : z_LX x C S n9 w) (r : Int32) : z_Con G l mX11_copy 22 2 15 w [.ref 1000, .int r] (fun v w9 => ∃ r9 : Int32, v = some (.int r9) ∧ z_LX x C (k_copy S r) n9 w9 ∧ z_trw w9 (t_copy S r) ∧ (t_copy S r = 0 → r9 = a_copy S r)) (fun _ _ => False) := by
  obtain ⟨-, ⟨s, hs, hR, ok⟩, -⟩ := id LT
  refine z_weak (cx_copy hl w S s r hs hR) (fun v w9 q => ?_) (fun _ _ h => h)
  obtain ⟨r9, s9, hv, fm, h9, ht, R9, hr⟩ := q
  exact ⟨r9, hv, LT.mod fm h9 R9 (okk_copy _ ok), ⟨s9, h9, ht⟩, hr⟩
abbrev t_put (S : sp_S) (t : Int32) (k : Int32) (y : Int32) : Int32 := sp_k32 t (sp_bk k ∨ sp_bv y)
def k_put (S : sp_S) (t : Int32) (k : Int32) (y : Int32) : sp_S := if t_put S t k y = 0 then sp_tb S (sp_i t) (sp_put (sp_srt (sp_i t)) (sp_T S (sp_i t)) (sp_C S 2) (sp_i k) y) else S
abbrev a_put (S : sp_S) (t : Int32) (k : Int32) (y : Int32) : Int32 := (sp_put (sp_srt (sp_i t)) (sp_T S (sp_i t)) (sp_C S 2) (sp_i k) y).1.getD (-9)
theorem okk_put {S : sp_S} (t : Int32) (k : Int32) (y : Int32) (ok : sp_ok S) : sp_ok (k_put S t k y) := by
  unfold k_put
  by_cases h : t_put S t k y = 0
  · rw [if_pos h]; exact ok_put ok h
  · rw [if_neg h]; exact ok
theorem kx_put (hl : l.stackTraces = false) {x : Nat} {C S : sp_S} {n9 : Int64} (w : z_W) (LT : z_LX x C S n9 w) (t : Int32) (k : Int32) (y : Int32) : z_Con G l mX11_put 24 2 52 w [.ref 1000, .int t, .int k, .int y] (fun v w9 => ∃ r9 : Int32, v = some (.int r9) ∧ z_LX x C (k_put S t k y) n9 w9 ∧ z_trw w9 (t_put S t k y) ∧ (t_put S t k y = 0 → r9 = a_put S t k y)) (fun _ _ => False) := by
  obtain ⟨-, ⟨s, hs, hR, ok⟩, -⟩ := id LT
  refine z_weak (cx_put hl w S s t k y hs hR ok) (fun v w9 q => ?_) (fun _ _ h => h)
  obtain ⟨r9, s9, hv, fm, h9, ht, R9, hr⟩ := q
  exact ⟨r9, hv, LT.mod fm h9 R9 (okk_put _ _ _ ok), ⟨s9, h9, ht⟩, hr⟩
abbrev t_remove (S : sp_S) (t : Int32) (k : Int32) : Int32 := sp_k32 t (sp_bk k)
def k_remove (S : sp_S) (t : Int32) (k : Int32) : sp_S := if t_remove S t k = 0 then sp_tb S (sp_i t) (sp_del (sp_T S (sp_i t)) (sp_C S 2) (sp_i k)) else S
abbrev a_remove (S : sp_S) (t : Int32) (k : Int32) : Int32 := (sp_del (sp_T S (sp_i t)) (sp_C S 2) (sp_i k)).1.getD (-9)
theorem okk_remove {S : sp_S} (t : Int32) (k : Int32) (ok : sp_ok S) : sp_ok (k_remove S t k) := by
  unfold k_remove
  by_cases h : t_remove S t k = 0
  · rw [if_pos h]; exact ok_remove ok h
  · rw [if_neg h]; exact ok
theorem kx_remove (hl : l.stackTraces = false) {x : Nat} {C S : sp_S} {n9 : Int64} (w : z_W) (LT : z_LX x C S n9 w) (t : Int32) (k : Int32) : z_Con G l mX11_remove 24 2 52 w [.ref 1000, .int t, .int k] (fun v w9 => ∃ r9 : Int32, v = some (.int r9) ∧ z_LX x C (k_remove S t k) n9 w9 ∧ z_trw w9 (t_remove S t k) ∧ (t_remove S t k = 0 → r9 = a_remove S t k)) (fun _ _ => False) := by
  obtain ⟨-, ⟨s, hs, hR, ok⟩, -⟩ := id LT
  refine z_weak (cx_remove hl w S s t k hs hR ok) (fun v w9 q => ?_) (fun _ _ h => h)
  obtain ⟨r9, s9, hv, fm, h9, ht, R9, hr⟩ := q
  exact ⟨r9, hv, LT.mod fm h9 R9 (okk_remove _ _ ok), ⟨s9, h9, ht⟩, hr⟩
abbrev t_putIfAbsent (S : sp_S) (t : Int32) (k : Int32) (y : Int32) : Int32 := sp_k32 t (sp_bk k ∨ sp_bv y)
def k_putIfAbsent (S : sp_S) (t : Int32) (k : Int32) (y : Int32) : sp_S := if t_putIfAbsent S t k y = 0 then sp_tb S (sp_i t) (sp_pia (sp_srt (sp_i t)) (sp_T S (sp_i t)) (sp_C S 2) (sp_i k) y) else S
abbrev a_putIfAbsent (S : sp_S) (t : Int32) (k : Int32) (y : Int32) : Int32 := (sp_pia (sp_srt (sp_i t)) (sp_T S (sp_i t)) (sp_C S 2) (sp_i k) y).1.getD (-9)
theorem okk_putIfAbsent {S : sp_S} (t : Int32) (k : Int32) (y : Int32) (ok : sp_ok S) : sp_ok (k_putIfAbsent S t k y) := by
  unfold k_putIfAbsent
  by_cases h : t_putIfAbsent S t k y = 0
  · rw [if_pos h]; exact ok_putIfAbsent ok h
  · rw [if_neg h]; exact ok
theorem kx_putIfAbsent (hl : l.stackTraces = false) {x : Nat} {C S : sp_S} {n9 : Int64} (w : z_W) (LT : z_LX x C S n9 w) (t : Int32) (k : Int32) (y : Int32) : z_Con G l mX11_putIfAbsent 24 2 52 w [.ref 1000, .int t, .int k, .int y] (fun v w9 => ∃ r9 : Int32, v = some (.int r9) ∧ z_LX x C (k_putIfAbsent S t k y) n9 w9 ∧ z_trw w9 (t_putIfAbsent S t k y) ∧ (t_putIfAbsent S t k y = 0 → r9 = a_putIfAbsent S t k y)) (fun _ _ => False) := by
  obtain ⟨-, ⟨s, hs, hR, ok⟩, -⟩ := id LT
  refine z_weak (cx_putIfAbsent hl w S s t k y hs hR ok) (fun v w9 q => ?_) (fun _ _ h => h)
  obtain ⟨r9, s9, hv, fm, h9, ht, R9, hr⟩ := q
  exact ⟨r9, hv, LT.mod fm h9 R9 (okk_putIfAbsent _ _ _ ok), ⟨s9, h9, ht⟩, hr⟩
abbrev t_replace (S : sp_S) (t : Int32) (k : Int32) (y : Int32) : Int32 := sp_k32 t (sp_bk k ∨ sp_bv y)
def k_replace (S : sp_S) (t : Int32) (k : Int32) (y : Int32) : sp_S := if t_replace S t k y = 0 then sp_tb S (sp_i t) (sp_rep (sp_srt (sp_i t)) (sp_T S (sp_i t)) (sp_C S 2) (sp_i k) y) else S
abbrev a_replace (S : sp_S) (t : Int32) (k : Int32) (y : Int32) : Int32 := (sp_rep (sp_srt (sp_i t)) (sp_T S (sp_i t)) (sp_C S 2) (sp_i k) y).1.getD (-9)
theorem okk_replace {S : sp_S} (t : Int32) (k : Int32) (y : Int32) (ok : sp_ok S) : sp_ok (k_replace S t k y) := by
  unfold k_replace
  by_cases h : t_replace S t k y = 0
  · rw [if_pos h]; exact ok_replace ok h
  · rw [if_neg h]; exact ok
theorem kx_replace (hl : l.stackTraces = false) {x : Nat} {C S : sp_S} {n9 : Int64} (w : z_W) (LT : z_LX x C S n9 w) (t : Int32) (k : Int32) (y : Int32) : z_Con G l mX11_replace 24 2 52 w [.ref 1000, .int t, .int k, .int y] (fun v w9 => ∃ r9 : Int32, v = some (.int r9) ∧ z_LX x C (k_replace S t k y) n9 w9 ∧ z_trw w9 (t_replace S t k y) ∧ (t_replace S t k y = 0 → r9 = a_replace S t k y)) (fun _ _ => False) := by
  obtain ⟨-, ⟨s, hs, hR, ok⟩, -⟩ := id LT
  refine z_weak (cx_replace hl w S s t k y hs hR ok) (fun v w9 q => ?_) (fun _ _ h => h)
  obtain ⟨r9, s9, hv, fm, h9, ht, R9, hr⟩ := q
  exact ⟨r9, hv, LT.mod fm h9 R9 (okk_replace _ _ _ ok), ⟨s9, h9, ht⟩, hr⟩
abbrev t_replaceIf (S : sp_S) (t : Int32) (k : Int32) (o : Int32) (y : Int32) : Int32 := sp_k32 t (sp_bk k ∨ sp_bv o ∨ sp_bv y)
def k_replaceIf (S : sp_S) (t : Int32) (k : Int32) (o : Int32) (y : Int32) : sp_S := if t_replaceIf S t k o y = 0 then sp_tb S (sp_i t) (sp_rif (sp_srt (sp_i t)) (sp_T S (sp_i t)) (sp_C S 2) (sp_i k) o y) else S
abbrev a_replaceIf (S : sp_S) (t : Int32) (k : Int32) (o : Int32) (y : Int32) : Int32 := (sp_rif (sp_srt (sp_i t)) (sp_T S (sp_i t)) (sp_C S 2) (sp_i k) o y).1.getD (-9)
theorem okk_replaceIf {S : sp_S} (t : Int32) (k : Int32) (o : Int32) (y : Int32) (ok : sp_ok S) : sp_ok (k_replaceIf S t k o y) := by
  unfold k_replaceIf
  by_cases h : t_replaceIf S t k o y = 0
  · rw [if_pos h]; exact ok_replaceIf ok h
  · rw [if_neg h]; exact ok
theorem kx_replaceIf (hl : l.stackTraces = false) {x : Nat} {C S : sp_S} {n9 : Int64} (w : z_W) (LT : z_LX x C S n9 w) (t : Int32) (k : Int32) (o : Int32) (y : Int32) : z_Con G l mX11_replaceIf 24 2 52 w [.ref 1000, .int t, .int k, .int o, .int y] (fun v w9 => ∃ r9 : Int32, v = some (.int r9) ∧ z_LX x C (k_replaceIf S t k o y) n9 w9 ∧ z_trw w9 (t_replaceIf S t k o y) ∧ (t_replaceIf S t k o y = 0 → r9 = a_replaceIf S t k o y)) (fun _ _ => False) := by
  obtain ⟨-, ⟨s, hs, hR, ok⟩, -⟩ := id LT
  refine z_weak (cx_replaceIf hl w S s t k o y hs hR ok) (fun v w9 q => ?_) (fun _ _ h => h)
  obtain ⟨r9, s9, hv, fm, h9, ht, R9, hr⟩ := q
  exact ⟨r9, hv, LT.mod fm h9 R9 (okk_replaceIf _ _ _ _ ok), ⟨s9, h9, ht⟩, hr⟩
abbrev t_removePair (S : sp_S) (t : Int32) (k : Int32) (y : Int32) : Int32 := sp_k32 t (sp_bk k ∨ sp_bv y)
def k_removePair (S : sp_S) (t : Int32) (k : Int32) (y : Int32) : sp_S := if t_removePair S t k y = 0 then sp_tb S (sp_i t) (sp_rmp (sp_T S (sp_i t)) (sp_C S 2) (sp_i k) y) else S
abbrev a_removePair (S : sp_S) (t : Int32) (k : Int32) (y : Int32) : Int32 := (sp_rmp (sp_T S (sp_i t)) (sp_C S 2) (sp_i k) y).1.getD (-9)
theorem okk_removePair {S : sp_S} (t : Int32) (k : Int32) (y : Int32) (ok : sp_ok S) : sp_ok (k_removePair S t k y) := by
  unfold k_removePair
  by_cases h : t_removePair S t k y = 0
  · rw [if_pos h]; exact ok_removePair ok h
  · rw [if_neg h]; exact ok
theorem kx_removePair (hl : l.stackTraces = false) {x : Nat} {C S : sp_S} {n9 : Int64} (w : z_W) (LT : z_LX x C S n9 w) (t : Int32) (k : Int32) (y : Int32) : z_Con G l mX11_removePair 24 2 52 w [.ref 1000, .int t, .int k, .int y] (fun v w9 => ∃ r9 : Int32, v = some (.int r9) ∧ z_LX x C (k_removePair S t k y) n9 w9 ∧ z_trw w9 (t_removePair S t k y) ∧ (t_removePair S t k y = 0 → r9 = a_removePair S t k y)) (fun _ _ => False) := by
  obtain ⟨-, ⟨s, hs, hR, ok⟩, -⟩ := id LT
  refine z_weak (cx_removePair hl w S s t k y hs hR ok) (fun v w9 q => ?_) (fun _ _ h => h)
  obtain ⟨r9, s9, hv, fm, h9, ht, R9, hr⟩ := q
  exact ⟨r9, hv, LT.mod fm h9 R9 (okk_removePair _ _ _ ok), ⟨s9, h9, ht⟩, hr⟩
abbrev t_computeIfAbsent (S : sp_S) (t : Int32) (k : Int32) (r : Int32) (n : Int32) : Int32 := sp_k32 t (sp_bk k ∨ (r < 0 ∨ 5 < r) ∨ sp_bv n)
def k_computeIfAbsent (S : sp_S) (t : Int32) (k : Int32) (r : Int32) (n : Int32) : sp_S := if t_computeIfAbsent S t k r n = 0 then sp_tb S (sp_i t) (sp_cia (sp_srt (sp_i t)) (sp_T S (sp_i t)) (sp_C S 2) (sp_i k) r n) else S
abbrev a_computeIfAbsent (S : sp_S) (t : Int32) (k : Int32) (r : Int32) (n : Int32) : Int32 := (sp_cia (sp_srt (sp_i t)) (sp_T S (sp_i t)) (sp_C S 2) (sp_i k) r n).1.getD (-9)
theorem okk_computeIfAbsent {S : sp_S} (t : Int32) (k : Int32) (r : Int32) (n : Int32) (ok : sp_ok S) : sp_ok (k_computeIfAbsent S t k r n) := by
  unfold k_computeIfAbsent
  by_cases h : t_computeIfAbsent S t k r n = 0
  · rw [if_pos h]; exact ok_computeIfAbsent ok h
  · rw [if_neg h]; exact ok
theorem kx_computeIfAbsent (hl : l.stackTraces = false) {x : Nat} {C S : sp_S} {n9 : Int64} (w : z_W) (LT : z_LX x C S n9 w) (t : Int32) (k : Int32) (r : Int32) (n : Int32) : z_Con G l mX11_computeIfAbsent 26 2 52 w [.ref 1000, .int t, .int k, .int r, .int n] (fun v w9 => ∃ r9 : Int32, v = some (.int r9) ∧ z_LX x C (k_computeIfAbsent S t k r n) n9 w9 ∧ z_trw w9 (t_computeIfAbsent S t k r n) ∧ (t_computeIfAbsent S t k r n = 0 → r9 = a_computeIfAbsent S t k r n)) (fun _ _ => False) := by
  obtain ⟨-, ⟨s, hs, hR, ok⟩, -⟩ := id LT
  refine z_weak (cx_computeIfAbsent hl w S s t k r n hs hR ok) (fun v w9 q => ?_) (fun _ _ h => h)
  obtain ⟨r9, s9, hv, fm, h9, ht, R9, hr⟩ := q
  exact ⟨r9, hv, LT.mod fm h9 R9 (okk_computeIfAbsent _ _ _ _ ok), ⟨s9, h9, ht⟩, hr⟩
abbrev t_computeIfPresent (S : sp_S) (t : Int32) (k : Int32) (r : Int32) (n : Int32) : Int32 := sp_k32 t (sp_bk k ∨ (r < 0 ∨ 5 < r) ∨ sp_bv n)
def k_computeIfPresent (S : sp_S) (t : Int32) (k : Int32) (r : Int32) (n : Int32) : sp_S := if t_computeIfPresent S t k r n = 0 then sp_tb S (sp_i t) (sp_cip (sp_srt (sp_i t)) (sp_T S (sp_i t)) (sp_C S 2) (sp_i k) r n) else S
abbrev a_computeIfPresent (S : sp_S) (t : Int32) (k : Int32) (r : Int32) (n : Int32) : Int32 := (sp_cip (sp_srt (sp_i t)) (sp_T S (sp_i t)) (sp_C S 2) (sp_i k) r n).1.getD (-9)
theorem okk_computeIfPresent {S : sp_S} (t : Int32) (k : Int32) (r : Int32) (n : Int32) (ok : sp_ok S) : sp_ok (k_computeIfPresent S t k r n) := by
  unfold k_computeIfPresent
  by_cases h : t_computeIfPresent S t k r n = 0
  · rw [if_pos h]; exact ok_computeIfPresent ok h
  · rw [if_neg h]; exact ok
theorem kx_computeIfPresent (hl : l.stackTraces = false) {x : Nat} {C S : sp_S} {n9 : Int64} (w : z_W) (LT : z_LX x C S n9 w) (t : Int32) (k : Int32) (r : Int32) (n : Int32) : z_Con G l mX11_computeIfPresent 26 2 52 w [.ref 1000, .int t, .int k, .int r, .int n] (fun v w9 => ∃ r9 : Int32, v = some (.int r9) ∧ z_LX x C (k_computeIfPresent S t k r n) n9 w9 ∧ z_trw w9 (t_computeIfPresent S t k r n) ∧ (t_computeIfPresent S t k r n = 0 → r9 = a_computeIfPresent S t k r n)) (fun _ _ => False) := by
  obtain ⟨-, ⟨s, hs, hR, ok⟩, -⟩ := id LT
  refine z_weak (cx_computeIfPresent hl w S s t k r n hs hR ok) (fun v w9 q => ?_) (fun _ _ h => h)
  obtain ⟨r9, s9, hv, fm, h9, ht, R9, hr⟩ := q
  exact ⟨r9, hv, LT.mod fm h9 R9 (okk_computeIfPresent _ _ _ _ ok), ⟨s9, h9, ht⟩, hr⟩
abbrev t_compute (S : sp_S) (t : Int32) (k : Int32) (r : Int32) (n : Int32) : Int32 := sp_k32 t (sp_bk k ∨ (r < 0 ∨ 5 < r) ∨ sp_bv n)
def k_compute (S : sp_S) (t : Int32) (k : Int32) (r : Int32) (n : Int32) : sp_S := if t_compute S t k r n = 0 then sp_tb S (sp_i t) (sp_cmp (sp_srt (sp_i t)) (sp_T S (sp_i t)) (sp_C S 2) (sp_i k) r n) else S
abbrev a_compute (S : sp_S) (t : Int32) (k : Int32) (r : Int32) (n : Int32) : Int32 := (sp_cmp (sp_srt (sp_i t)) (sp_T S (sp_i t)) (sp_C S 2) (sp_i k) r n).1.getD (-9)
theorem okk_compute {S : sp_S} (t : Int32) (k : Int32) (r : Int32) (n : Int32) (ok : sp_ok S) : sp_ok (k_compute S t k r n) := by
  unfold k_compute
  by_cases h : t_compute S t k r n = 0
  · rw [if_pos h]; exact ok_compute ok h
  · rw [if_neg h]; exact ok
theorem kx_compute (hl : l.stackTraces = false) {x : Nat} {C S : sp_S} {n9 : Int64} (w : z_W) (LT : z_LX x C S n9 w) (t : Int32) (k : Int32) (r : Int32) (n : Int32) : z_Con G l mX11_compute 26 2 52 w [.ref 1000, .int t, .int k, .int r, .int n] (fun v w9 => ∃ r9 : Int32, v = some (.int r9) ∧ z_LX x C (k_compute S t k r n) n9 w9 ∧ z_trw w9 (t_compute S t k r n) ∧ (t_compute S t k r n = 0 → r9 = a_compute S t k r n)) (fun _ _ => False) := by
  obtain ⟨-, ⟨s, hs, hR, ok⟩, -⟩ := id LT
  refine z_weak (cx_compute hl w S s t k r n hs hR ok) (fun v w9 q => ?_) (fun _ _ h => h)
  obtain ⟨r9, s9, hv, fm, h9, ht, R9, hr⟩ := q
  exact ⟨r9, hv, LT.mod fm h9 R9 (okk_compute _ _ _ _ ok), ⟨s9, h9, ht⟩, hr⟩
abbrev t_merge (S : sp_S) (t : Int32) (k : Int32) (y : Int32) (r : Int32) : Int32 := sp_k32 t (sp_bk k ∨ (r < 0 ∨ 5 < r) ∨ sp_bv y)
def k_merge (S : sp_S) (t : Int32) (k : Int32) (y : Int32) (r : Int32) : sp_S := if t_merge S t k y r = 0 then sp_tb S (sp_i t) (sp_mrg (sp_srt (sp_i t)) (sp_T S (sp_i t)) (sp_C S 2) (sp_i k) y r) else S
abbrev a_merge (S : sp_S) (t : Int32) (k : Int32) (y : Int32) (r : Int32) : Int32 := (sp_mrg (sp_srt (sp_i t)) (sp_T S (sp_i t)) (sp_C S 2) (sp_i k) y r).1.getD (-9)
theorem okk_merge {S : sp_S} (t : Int32) (k : Int32) (y : Int32) (r : Int32) (ok : sp_ok S) : sp_ok (k_merge S t k y r) := by
  unfold k_merge
  by_cases h : t_merge S t k y r = 0
  · rw [if_pos h]; exact ok_merge ok h
  · rw [if_neg h]; exact ok
theorem kx_merge (hl : l.stackTraces = false) {x : Nat} {C S : sp_S} {n9 : Int64} (w : z_W) (LT : z_LX x C S n9 w) (t : Int32) (k : Int32) (y : Int32) (r : Int32) : z_Con G l mX11_merge 26 2 52 w [.ref 1000, .int t, .int k, .int y, .int r] (fun v w9 => ∃ r9 : Int32, v = some (.int r9) ∧ z_LX x C (k_merge S t k y r) n9 w9 ∧ z_trw w9 (t_merge S t k y r) ∧ (t_merge S t k y r = 0 → r9 = a_merge S t k y r)) (fun _ _ => False) := by
  obtain ⟨-, ⟨s, hs, hR, ok⟩, -⟩ := id LT
  refine z_weak (cx_merge hl w S s t k y r hs hR ok) (fun v w9 q => ?_) (fun _ _ h => h)
  obtain ⟨r9, s9, hv, fm, h9, ht, R9, hr⟩ := q
  exact ⟨r9, hv, LT.mod fm h9 R9 (okk_merge _ _ _ _ ok), ⟨s9, h9, ht⟩, hr⟩
abbrev t_hearTable (S : sp_S) (t : Int32) (g : Int32) : Int32 := sp_k3b t g
def k_hearTable (S : sp_S) (t : Int32) (g : Int32) : sp_S := if t_hearTable S t g = 0 then sp_htbS S (sp_i t) (sp_i g) else S
abbrev a_hearTable (S : sp_S) (t : Int32) (g : Int32) : Int32 := sp_an (sp_htb S (sp_i t) (sp_i g)).1
theorem okk_hearTable {S : sp_S} (t : Int32) (g : Int32) (ok : sp_ok S) : sp_ok (k_hearTable S t g) := by
  unfold k_hearTable
  by_cases h : t_hearTable S t g = 0
  · rw [if_pos h]; exact ok_htb ok (sp_i_2 (z_k3b h).2)
  · rw [if_neg h]; exact ok
theorem kx_hearTable (hl : l.stackTraces = false) {x : Nat} {C S : sp_S} {n9 : Int64} (w : z_W) (LT : z_LX x C S n9 w) (t : Int32) (g : Int32) : z_Con G l mX11_hearTable 22 42 631 w [.ref 1000, .int t, .int g] (fun v w9 => ∃ r9 : Int32, v = some (.int r9) ∧ z_LX x C (k_hearTable S t g) n9 w9 ∧ z_trw w9 (t_hearTable S t g) ∧ (t_hearTable S t g = 0 → r9 = a_hearTable S t g)) (fun _ _ => False) := by
  obtain ⟨-, ⟨s, hs, hR, ok⟩, -⟩ := id LT
  refine z_weak (cx_hearTable hl w S s t g hs hR) (fun v w9 q => ?_) (fun _ _ h => h)
  obtain ⟨r9, s9, hv, fm, h9, ht, R9, hr⟩ := q
  exact ⟨r9, hv, LT.mod fm h9 R9 (okk_hearTable _ _ ok), ⟨s9, h9, ht⟩, hr⟩
abbrev t_replaceTable (S : sp_S) (t : Int32) (r : Int32) (n : Int32) : Int32 := sp_k32 t (¬ (r = 0 ∨ r = 1 ∨ r = 4 ∨ r = 5) ∨ sp_bv n)
def k_replaceTable (S : sp_S) (t : Int32) (r : Int32) (n : Int32) : sp_S := if t_replaceTable S t r n = 0 then sp_ctbS S (sp_i t) r n else S
abbrev a_replaceTable (S : sp_S) (t : Int32) (r : Int32) (n : Int32) : Int32 := cond (sp_ctb S (sp_i t) r n).1 (nI (sp_ctb S (sp_i t) r n).2.2.length) (-9)
theorem okk_replaceTable {S : sp_S} (t : Int32) (r : Int32) (n : Int32) (ok : sp_ok S) : sp_ok (k_replaceTable S t r n) := by
  unfold k_replaceTable
  by_cases h : t_replaceTable S t r n = 0
  · rw [if_pos h]; exact ok_ctb ok (sp_i_3 (z_k32 h).1) (Decidable.byContradiction fun z => (z_k32 h).2 (Or.inl z)) (sp_vl fun z => (z_k32 h).2 (Or.inr z))
  · rw [if_neg h]; exact ok
theorem kx_replaceTable (hl : l.stackTraces = false) {x : Nat} {C S : sp_S} {n9 : Int64} (w : z_W) (LT : z_LX x C S n9 w) (t : Int32) (r : Int32) (n : Int32) : z_Con G l mX11_replaceTable 22 2 11 w [.ref 1000, .int t, .int r, .int n] (fun v w9 => ∃ r9 : Int32, v = some (.int r9) ∧ z_LX x C (k_replaceTable S t r n) n9 w9 ∧ z_trw w9 (t_replaceTable S t r n) ∧ (t_replaceTable S t r n = 0 → r9 = a_replaceTable S t r n)) (fun _ _ => False) := by
  obtain ⟨-, ⟨s, hs, hR, ok⟩, -⟩ := id LT
  refine z_weak (cx_replaceTable hl w S s t r n hs hR ok) (fun v w9 q => ?_) (fun _ _ h => h)
  obtain ⟨r9, s9, hv, fm, h9, ht, R9, hr⟩ := q
  exact ⟨r9, hv, LT.mod fm h9 R9 (okk_replaceTable _ _ _ ok), ⟨s9, h9, ht⟩, hr⟩
abbrev t_clear (S : sp_S) (t : Int32) : Int32 := sp_k3 t
def k_clear (S : sp_S) (t : Int32) : sp_S := if t_clear S t = 0 then sp_uT S (sp_i t) [] else S
abbrev a_clear (S : sp_S) (t : Int32) : Int32 := nI (sp_T S (sp_i t)).length
theorem okk_clear {S : sp_S} (t : Int32) (ok : sp_ok S) : sp_ok (k_clear S t) := by
  unfold k_clear
  by_cases h : t_clear S t = 0
  · rw [if_pos h]; exact ok_clear ok
  · rw [if_neg h]; exact ok
theorem kx_clear (hl : l.stackTraces = false) {x : Nat} {C S : sp_S} {n9 : Int64} (w : z_W) (LT : z_LX x C S n9 w) (t : Int32) : z_Con G l mX11_clear 20 0 0 w [.ref 1000, .int t] (fun v w9 => ∃ r9 : Int32, v = some (.int r9) ∧ z_LX x C (k_clear S t) n9 w9 ∧ z_trw w9 (t_clear S t) ∧ (t_clear S t = 0 → r9 = a_clear S t)) (fun _ _ => False) := by
  obtain ⟨-, ⟨s, hs, hR, ok⟩, -⟩ := id LT
  refine z_weak (cx_clear hl w S s t hs hR) (fun v w9 q => ?_) (fun _ _ h => h)
  obtain ⟨r9, s9, hv, fm, h9, ht, R9, hr⟩ := q
  exact ⟨r9, hv, LT.mod fm h9 R9 (okk_clear _ ok), ⟨s9, h9, ht⟩, hr⟩
abbrev t_hearSpan (S : sp_S) (a : Int32) (b : Int32) (c : Int32) (g : Int32) : Int32 := q_k22 g (sp_bsp a b c)
def k_hearSpan (S : sp_S) (a : Int32) (b : Int32) (c : Int32) (g : Int32) : sp_S := if t_hearSpan S a b c g = 0 then sp_hspS S a b c 0 (sp_i g) else S
abbrev a_hearSpan (S : sp_S) (a : Int32) (b : Int32) (c : Int32) (g : Int32) : Int32 := sp_an (sp_hsp S a b c 0 (sp_i g)).1
theorem okk_hearSpan {S : sp_S} (a : Int32) (b : Int32) (c : Int32) (g : Int32) (ok : sp_ok S) : sp_ok (k_hearSpan S a b c g) := by
  unfold k_hearSpan
  by_cases h : t_hearSpan S a b c g = 0
  · rw [if_pos h]; exact ok_hsp ok (sp_i_2 (z_k22 h).1)
  · rw [if_neg h]; exact ok
theorem kx_hearSpan (hl : l.stackTraces = false) {x : Nat} {C S : sp_S} {n9 : Int64} (w : z_W) (LT : z_LX x C S n9 w) (a : Int32) (b : Int32) (c : Int32) (g : Int32) : z_Con G l mX11_hearSpan 24 80 1240 w [.ref 1000, .int a, .int b, .int c, .int g] (fun v w9 => ∃ r9 : Int32, v = some (.int r9) ∧ z_LX x C (k_hearSpan S a b c g) n9 w9 ∧ z_trw w9 (t_hearSpan S a b c g) ∧ (t_hearSpan S a b c g = 0 → r9 = a_hearSpan S a b c g)) (fun _ _ => False) := by
  obtain ⟨-, ⟨s, hs, hR, ok⟩, -⟩ := id LT
  refine z_weak (cx_hearSpan hl w S s a b c g hs hR) (fun v w9 q => ?_) (fun _ _ h => h)
  obtain ⟨r9, s9, hv, fm, h9, ht, R9, hr⟩ := q
  exact ⟨r9, hv, LT.mod fm h9 R9 (okk_hearSpan _ _ _ _ ok), ⟨s9, h9, ht⟩, hr⟩
abbrev t_hearSteps (S : sp_S) (a : Int32) (b : Int32) (c : Int32) (d : Int32) (g : Int32) : Int32 := q_k22 g (sp_bsp a b c ∨ (d < 0 ∨ z_mny a b c < d))
def k_hearSteps (S : sp_S) (a : Int32) (b : Int32) (c : Int32) (d : Int32) (g : Int32) : sp_S := if t_hearSteps S a b c d g = 0 then sp_hspS S a b c (sp_i d) (sp_i g) else S
abbrev a_hearSteps (S : sp_S) (a : Int32) (b : Int32) (c : Int32) (d : Int32) (g : Int32) : Int32 := sp_an (sp_hsp S a b c (sp_i d) (sp_i g)).1
theorem okk_hearSteps {S : sp_S} (a : Int32) (b : Int32) (c : Int32) (d : Int32) (g : Int32) (ok : sp_ok S) : sp_ok (k_hearSteps S a b c d g) := by
  unfold k_hearSteps
  by_cases h : t_hearSteps S a b c d g = 0
  · rw [if_pos h]; exact ok_hsp ok (sp_i_2 (z_k22 h).1)
  · rw [if_neg h]; exact ok
theorem kx_hearSteps (hl : l.stackTraces = false) {x : Nat} {C S : sp_S} {n9 : Int64} (w : z_W) (LT : z_LX x C S n9 w) (a : Int32) (b : Int32) (c : Int32) (d : Int32) (g : Int32) : z_Con G l mX11_hearSteps 24 80 1240 w [.ref 1000, .int a, .int b, .int c, .int d, .int g] (fun v w9 => ∃ r9 : Int32, v = some (.int r9) ∧ z_LX x C (k_hearSteps S a b c d g) n9 w9 ∧ z_trw w9 (t_hearSteps S a b c d g) ∧ (t_hearSteps S a b c d g = 0 → r9 = a_hearSteps S a b c d g)) (fun _ _ => False) := by
  obtain ⟨-, ⟨s, hs, hR, ok⟩, -⟩ := id LT
  refine z_weak (cx_hearSteps hl w S s a b c d g hs hR) (fun v w9 q => ?_) (fun _ _ h => h)
  obtain ⟨r9, s9, hv, fm, h9, ht, R9, hr⟩ := q
  exact ⟨r9, hv, LT.mod fm h9 R9 (okk_hearSteps _ _ _ _ _ ok), ⟨s9, h9, ht⟩, hr⟩
abbrev t_takeStep (S : sp_S) (a : Int32) (b : Int32) : Int32 := q_k1 (sp_bv b ∨ (a < -999 ∨ b < a))
def k_takeStep (S : sp_S) (a : Int32) (b : Int32) : sp_S := if t_takeStep S a b = 0 then sp_nine S else S
abbrev a_takeStep (S : sp_S) (a : Int32) (b : Int32) : Int32 := (-9 : Int32)
theorem okk_takeStep {S : sp_S} (a : Int32) (b : Int32) (ok : sp_ok S) : sp_ok (k_takeStep S a b) := by
  unfold k_takeStep
  by_cases h : t_takeStep S a b = 0
  · rw [if_pos h]; exact ok_nine ok
  · rw [if_neg h]; exact ok
theorem kx_takeStep (hl : l.stackTraces = false) {x : Nat} {C S : sp_S} {n9 : Int64} (w : z_W) (LT : z_LX x C S n9 w) (a : Int32) (b : Int32) : z_Con G l mX11_takeStep 20 0 0 w [.ref 1000, .int a, .int b] (fun v w9 => ∃ r9 : Int32, v = some (.int r9) ∧ z_LX x C (k_takeStep S a b) n9 w9 ∧ z_trw w9 (t_takeStep S a b) ∧ (t_takeStep S a b = 0 → r9 = a_takeStep S a b)) (fun _ _ => False) := by
  obtain ⟨-, ⟨s, hs, hR, ok⟩, -⟩ := id LT
  refine z_weak (cx_takeStep hl w S s a b hs hR) (fun v w9 q => ?_) (fun _ _ h => h)
  obtain ⟨r9, s9, hv, fm, h9, ht, R9, hr⟩ := q
  exact ⟨r9, hv, LT.mod fm h9 R9 (okk_takeStep _ _ ok), ⟨s9, h9, ht⟩, hr⟩
abbrev t_stop (S : sp_S) (g : Int32) (n : Int32) : Int32 := q_k22 g (n < -1000 ∨ 99999 < n)
def k_stop (S : sp_S) (g : Int32) (n : Int32) : sp_S := if t_stop S g n = 0 then sp_uE S (sp_i g) (sp_stp' (sp_E S (sp_i g)) n) else S
abbrev a_stop (S : sp_S) (g : Int32) (n : Int32) : Int32 := (sp_E S (sp_i g)).1.1
theorem okk_stop {S : sp_S} (g : Int32) (n : Int32) (ok : sp_ok S) : sp_ok (k_stop S g n) := by
  unfold k_stop
  by_cases h : t_stop S g n = 0
  · rw [if_pos h]; exact ok_stop ok (sp_i_2 (z_k22 h).1)
  · rw [if_neg h]; exact ok
theorem kx_stop (hl : l.stackTraces = false) {x : Nat} {C S : sp_S} {n9 : Int64} (w : z_W) (LT : z_LX x C S n9 w) (g : Int32) (n : Int32) : z_Con G l mX11_stop 20 0 0 w [.ref 1000, .int g, .int n] (fun v w9 => ∃ r9 : Int32, v = some (.int r9) ∧ z_LX x C (k_stop S g n) n9 w9 ∧ z_trw w9 (t_stop S g n) ∧ (t_stop S g n = 0 → r9 = a_stop S g n)) (fun _ _ => False) := by
  obtain ⟨-, ⟨s, hs, hR, ok⟩, -⟩ := id LT
  refine z_weak (cx_stop hl w S s g n hs hR) (fun v w9 q => ?_) (fun _ _ h => h)
  obtain ⟨r9, s9, hv, fm, h9, ht, R9, hr⟩ := q
  exact ⟨r9, hv, LT.mod fm h9 R9 (okk_stop _ _ ok), ⟨s9, h9, ht⟩, hr⟩
abbrev t_forget (S : sp_S) (g : Int32) : Int32 := q_k2 g
def k_forget (S : sp_S) (g : Int32) : sp_S := if t_forget S g = 0 then sp_uE S (sp_i g) (sp_fgt (sp_E S (sp_i g))) else S
abbrev a_forget (S : sp_S) (g : Int32) : Int32 := (sp_E S (sp_i g)).1.2.1
theorem okk_forget {S : sp_S} (g : Int32) (ok : sp_ok S) : sp_ok (k_forget S g) := by
  unfold k_forget
  by_cases h : t_forget S g = 0
  · rw [if_pos h]; exact ok_forget ok
  · rw [if_neg h]; exact ok
theorem kx_forget (hl : l.stackTraces = false) {x : Nat} {C S : sp_S} {n9 : Int64} (w : z_W) (LT : z_LX x C S n9 w) (g : Int32) : z_Con G l mX11_forget 20 0 0 w [.ref 1000, .int g] (fun v w9 => ∃ r9 : Int32, v = some (.int r9) ∧ z_LX x C (k_forget S g) n9 w9 ∧ z_trw w9 (t_forget S g) ∧ (t_forget S g = 0 → r9 = a_forget S g)) (fun _ _ => False) := by
  obtain ⟨-, ⟨s, hs, hR, ok⟩, -⟩ := id LT
  refine z_weak (cx_forget hl w S s g hs hR) (fun v w9 q => ?_) (fun _ _ h => h)
  obtain ⟨r9, s9, hv, fm, h9, ht, R9, hr⟩ := q
  exact ⟨r9, hv, LT.mod fm h9 R9 (okk_forget _ ok), ⟨s9, h9, ht⟩, hr⟩
abbrev t_heard (S : sp_S) (g : Int32) (w0 : Int32) : Int32 := q_k22 g (w0 < 0 ∨ 3 < w0)
def k_heard (S : sp_S) (g : Int32) (w0 : Int32) : sp_S := if t_heard S g w0 = 0 then S else S
abbrev a_heard (S : sp_S) (g : Int32) (w0 : Int32) : Int32 := sp_tel (sp_E S (sp_i g)) w0
theorem okk_heard {S : sp_S} (g : Int32) (w0 : Int32) (ok : sp_ok S) : sp_ok (k_heard S g w0) := by
  unfold k_heard
  by_cases h : t_heard S g w0 = 0
  · rw [if_pos h]; exact ok
  · rw [if_neg h]; exact ok
theorem kx_heard (hl : l.stackTraces = false) {x : Nat} {C S : sp_S} {n9 : Int64} (w : z_W) (LT : z_LX x C S n9 w) (g : Int32) (w0 : Int32) : z_Con G l mX11_heard 20 0 0 w [.ref 1000, .int g, .int w0] (fun v w9 => ∃ r9 : Int32, v = some (.int r9) ∧ z_LX x C (k_heard S g w0) n9 w9 ∧ z_trw w9 (t_heard S g w0) ∧ (t_heard S g w0 = 0 → r9 = a_heard S g w0)) (fun _ _ => False) := by
  obtain ⟨-, ⟨s, hs, hR, ok⟩, -⟩ := id LT
  refine z_weak (cx_heard hl w S s g w0 hs hR) (fun v w9 q => ?_) (fun _ _ h => h)
  obtain ⟨r9, s9, hv, fm, h9, ht, R9, hr⟩ := q
  exact ⟨r9, hv, LT.mod fm h9 R9 (okk_heard _ _ ok), ⟨s9, h9, ht⟩, hr⟩
abbrev t_length (S : sp_S) (r : Int32) : Int32 := q_k2 r
def k_length (S : sp_S) (r : Int32) : sp_S := if t_length S r = 0 then S else S
abbrev a_length (S : sp_S) (r : Int32) : Int32 := nI (sp_R S (sp_i r)).length
theorem okk_length {S : sp_S} (r : Int32) (ok : sp_ok S) : sp_ok (k_length S r) := by
  unfold k_length
  by_cases h : t_length S r = 0
  · rw [if_pos h]; exact ok
  · rw [if_neg h]; exact ok
theorem kx_length (hl : l.stackTraces = false) {x : Nat} {C S : sp_S} {n9 : Int64} (w : z_W) (LT : z_LX x C S n9 w) (r : Int32) : z_Con G l mX11_length 20 0 0 w [.ref 1000, .int r] (fun v w9 => ∃ r9 : Int32, v = some (.int r9) ∧ z_LX x C (k_length S r) n9 w9 ∧ z_trw w9 (t_length S r) ∧ (t_length S r = 0 → r9 = a_length S r)) (fun _ _ => False) := by
  obtain ⟨-, ⟨s, hs, hR, ok⟩, -⟩ := id LT
  refine z_weak (cx_length hl w S s r hs hR) (fun v w9 q => ?_) (fun _ _ h => h)
  obtain ⟨r9, s9, hv, fm, h9, ht, R9, hr⟩ := q
  exact ⟨r9, hv, LT.mod fm h9 R9 (okk_length _ ok), ⟨s9, h9, ht⟩, hr⟩
abbrev t_at (S : sp_S) (r : Int32) (p : Int32) : Int32 := sp_k21 r (p < 0 ∨ nI (sp_R S (sp_i r)).length - 1 < p)
def k_at (S : sp_S) (r : Int32) (p : Int32) : sp_S := if t_at S r p = 0 then S else S
abbrev a_at (S : sp_S) (r : Int32) (p : Int32) : Int32 := ((sp_R S (sp_i r))[sp_i p]?).getD 0
theorem okk_at {S : sp_S} (r : Int32) (p : Int32) (ok : sp_ok S) : sp_ok (k_at S r p) := by
  unfold k_at
  by_cases h : t_at S r p = 0
  · rw [if_pos h]; exact ok
  · rw [if_neg h]; exact ok
theorem kx_at (hl : l.stackTraces = false) {x : Nat} {C S : sp_S} {n9 : Int64} (w : z_W) (LT : z_LX x C S n9 w) (r : Int32) (p : Int32) : z_Con G l mX11_at 20 0 0 w [.ref 1000, .int r, .int p] (fun v w9 => ∃ r9 : Int32, v = some (.int r9) ∧ z_LX x C (k_at S r p) n9 w9 ∧ z_trw w9 (t_at S r p) ∧ (t_at S r p = 0 → r9 = a_at S r p)) (fun _ _ => False) := by
  obtain ⟨-, ⟨s, hs, hR, ok⟩, -⟩ := id LT
  refine z_weak (cx_at hl w S s r p hs hR) (fun v w9 q => ?_) (fun _ _ h => h)
  obtain ⟨r9, s9, hv, fm, h9, ht, R9, hr⟩ := q
  exact ⟨r9, hv, LT.mod fm h9 R9 (okk_at _ _ ok), ⟨s9, h9, ht⟩, hr⟩
abbrev t_isFixed (S : sp_S) (r : Int32) : Int32 := q_k2 r
def k_isFixed (S : sp_S) (r : Int32) : sp_S := if t_isFixed S r = 0 then S else S
abbrev a_isFixed (S : sp_S) (r : Int32) : Int32 := z_bi (sp_F S (sp_i r))
theorem okk_isFixed {S : sp_S} (r : Int32) (ok : sp_ok S) : sp_ok (k_isFixed S r) := by
  unfold k_isFixed
  by_cases h : t_isFixed S r = 0
  · rw [if_pos h]; exact ok
  · rw [if_neg h]; exact ok
theorem kx_isFixed (hl : l.stackTraces = false) {x : Nat} {C S : sp_S} {n9 : Int64} (w : z_W) (LT : z_LX x C S n9 w) (r : Int32) : z_Con G l mX11_isFixed 20 0 0 w [.ref 1000, .int r] (fun v w9 => ∃ r9 : Int32, v = some (.int r9) ∧ z_LX x C (k_isFixed S r) n9 w9 ∧ z_trw w9 (t_isFixed S r) ∧ (t_isFixed S r = 0 → r9 = a_isFixed S r)) (fun _ _ => False) := by
  obtain ⟨-, ⟨s, hs, hR, ok⟩, -⟩ := id LT
  refine z_weak (cx_isFixed hl w S s r hs hR) (fun v w9 q => ?_) (fun _ _ h => h)
  obtain ⟨r9, s9, hv, fm, h9, ht, R9, hr⟩ := q
  exact ⟨r9, hv, LT.mod fm h9 R9 (okk_isFixed _ ok), ⟨s9, h9, ht⟩, hr⟩
abbrev t_counts (S : sp_S) (r : Int32) (w0 : Int32) : Int32 := q_k22 r (w0 < 0 ∨ 4 < w0)
def k_counts (S : sp_S) (r : Int32) (w0 : Int32) : sp_S := if t_counts S r w0 = 0 then S else S
abbrev a_counts (S : sp_S) (r : Int32) (w0 : Int32) : Int32 := sp_C S (sp_i r) (sp_i w0)
theorem okk_counts {S : sp_S} (r : Int32) (w0 : Int32) (ok : sp_ok S) : sp_ok (k_counts S r w0) := by
  unfold k_counts
  by_cases h : t_counts S r w0 = 0
  · rw [if_pos h]; exact ok
  · rw [if_neg h]; exact ok
theorem kx_counts (hl : l.stackTraces = false) {x : Nat} {C S : sp_S} {n9 : Int64} (w : z_W) (LT : z_LX x C S n9 w) (r : Int32) (w0 : Int32) : z_Con G l mX11_counts 20 0 0 w [.ref 1000, .int r, .int w0] (fun v w9 => ∃ r9 : Int32, v = some (.int r9) ∧ z_LX x C (k_counts S r w0) n9 w9 ∧ z_trw w9 (t_counts S r w0) ∧ (t_counts S r w0 = 0 → r9 = a_counts S r w0)) (fun _ _ => False) := by
  obtain ⟨-, ⟨s, hs, hR, ok⟩, -⟩ := id LT
  refine z_weak (cx_counts hl w S s r w0 hs hR) (fun v w9 q => ?_) (fun _ _ h => h)
  obtain ⟨r9, s9, hv, fm, h9, ht, R9, hr⟩ := q
  exact ⟨r9, hv, LT.mod fm h9 R9 (okk_counts _ _ ok), ⟨s9, h9, ht⟩, hr⟩
abbrev t_shelfCounts (S : sp_S) (w0 : Int32) : Int32 := q_k1 (w0 < 0 ∨ 6 < w0)
def k_shelfCounts (S : sp_S) (w0 : Int32) : sp_S := if t_shelfCounts S w0 = 0 then S else S
abbrev a_shelfCounts (S : sp_S) (w0 : Int32) : Int32 := sp_C S 2 (sp_i w0)
theorem okk_shelfCounts {S : sp_S} (w0 : Int32) (ok : sp_ok S) : sp_ok (k_shelfCounts S w0) := by
  unfold k_shelfCounts
  by_cases h : t_shelfCounts S w0 = 0
  · rw [if_pos h]; exact ok
  · rw [if_neg h]; exact ok
theorem kx_shelfCounts (hl : l.stackTraces = false) {x : Nat} {C S : sp_S} {n9 : Int64} (w : z_W) (LT : z_LX x C S n9 w) (w0 : Int32) : z_Con G l mX11_shelfCounts 20 0 0 w [.ref 1000, .int w0] (fun v w9 => ∃ r9 : Int32, v = some (.int r9) ∧ z_LX x C (k_shelfCounts S w0) n9 w9 ∧ z_trw w9 (t_shelfCounts S w0) ∧ (t_shelfCounts S w0 = 0 → r9 = a_shelfCounts S w0)) (fun _ _ => False) := by
  obtain ⟨-, ⟨s, hs, hR, ok⟩, -⟩ := id LT
  refine z_weak (cx_shelfCounts hl w S s w0 hs hR) (fun v w9 q => ?_) (fun _ _ h => h)
  obtain ⟨r9, s9, hv, fm, h9, ht, R9, hr⟩ := q
  exact ⟨r9, hv, LT.mod fm h9 R9 (okk_shelfCounts _ ok), ⟨s9, h9, ht⟩, hr⟩
theorem okk_forgetCounts {S : sp_S} (ok : sp_ok S) : sp_ok (sp_csS S) := ok_csS ok
theorem kx_forgetCounts (hl : l.stackTraces = false) {x : Nat} {C S : sp_S} {n9 : Int64} (w : z_W) (LT : z_LX x C S n9 w) : z_Con G l mX11_forgetCounts 20 0 0 w [.ref 1000] (fun v w9 => ∃ r9 : Int32, v = some (.int r9) ∧ z_LX x C (sp_csS S) n9 w9 ∧ z_trw w9 0 ∧ r9 = sp_cs S) (fun _ _ => False) := by
  obtain ⟨-, ⟨s, hs, hR, ok⟩, -⟩ := id LT
  refine z_weak (cx_forgetCounts hl w S s hs hR) (fun v w9 q => ?_) (fun _ _ h => h)
  obtain ⟨r9, s9, hv, fm, h9, ht, R9, hr⟩ := q
  exact ⟨r9, hv, LT.mod fm h9 R9 (okk_forgetCounts ok), ⟨s9, h9, ht⟩, hr⟩
abbrev t_get (S : sp_S) (t : Int32) (k : Int32) : Int32 := sp_k32 t (sp_bk k)
def k_get (S : sp_S) (t : Int32) (k : Int32) : sp_S := if t_get S t k = 0 then S else S
abbrev a_get (S : sp_S) (t : Int32) (k : Int32) : Int32 := sp_lk (sp_T S (sp_i t)) (sp_i k)
theorem okk_get {S : sp_S} (t : Int32) (k : Int32) (ok : sp_ok S) : sp_ok (k_get S t k) := by
  unfold k_get
  by_cases h : t_get S t k = 0
  · rw [if_pos h]; exact ok
  · rw [if_neg h]; exact ok
theorem kx_get (hl : l.stackTraces = false) {x : Nat} {C S : sp_S} {n9 : Int64} (w : z_W) (LT : z_LX x C S n9 w) (t : Int32) (k : Int32) : z_Con G l mX11_get 24 2 52 w [.ref 1000, .int t, .int k] (fun v w9 => ∃ r9 : Int32, v = some (.int r9) ∧ z_LX x C (k_get S t k) n9 w9 ∧ z_trw w9 (t_get S t k) ∧ (t_get S t k = 0 → r9 = a_get S t k)) (fun _ _ => False) := by
  obtain ⟨-, ⟨s, hs, hR, ok⟩, -⟩ := id LT
  refine z_weak (cx_get hl w S s t k hs hR) (fun v w9 q => ?_) (fun _ _ h => h)
  obtain ⟨r9, s9, hv, fm, h9, ht, R9, hr⟩ := q
  exact ⟨r9, hv, LT.mod fm h9 R9 (okk_get _ _ ok), ⟨s9, h9, ht⟩, hr⟩
abbrev t_getOr (S : sp_S) (t : Int32) (k : Int32) (y : Int32) : Int32 := sp_k32 t (sp_bk k ∨ sp_bv y)
def k_getOr (S : sp_S) (t : Int32) (k : Int32) (y : Int32) : sp_S := if t_getOr S t k y = 0 then S else S
abbrev a_getOr (S : sp_S) (t : Int32) (k : Int32) (y : Int32) : Int32 := (if sp_lk (sp_T S (sp_i t)) (sp_i k) = -1000 then y else sp_lk (sp_T S (sp_i t)) (sp_i k))
theorem okk_getOr {S : sp_S} (t : Int32) (k : Int32) (y : Int32) (ok : sp_ok S) : sp_ok (k_getOr S t k y) := by
  unfold k_getOr
  by_cases h : t_getOr S t k y = 0
  · rw [if_pos h]; exact ok
  · rw [if_neg h]; exact ok
theorem kx_getOr (hl : l.stackTraces = false) {x : Nat} {C S : sp_S} {n9 : Int64} (w : z_W) (LT : z_LX x C S n9 w) (t : Int32) (k : Int32) (y : Int32) : z_Con G l mX11_getOr 24 2 52 w [.ref 1000, .int t, .int k, .int y] (fun v w9 => ∃ r9 : Int32, v = some (.int r9) ∧ z_LX x C (k_getOr S t k y) n9 w9 ∧ z_trw w9 (t_getOr S t k y) ∧ (t_getOr S t k y = 0 → r9 = a_getOr S t k y)) (fun _ _ => False) := by
  obtain ⟨-, ⟨s, hs, hR, ok⟩, -⟩ := id LT
  refine z_weak (cx_getOr hl w S s t k y hs hR) (fun v w9 q => ?_) (fun _ _ h => h)
  obtain ⟨r9, s9, hv, fm, h9, ht, R9, hr⟩ := q
  exact ⟨r9, hv, LT.mod fm h9 R9 (okk_getOr _ _ _ ok), ⟨s9, h9, ht⟩, hr⟩
abbrev t_has (S : sp_S) (t : Int32) (k : Int32) : Int32 := sp_k32 t (sp_bk k)
def k_has (S : sp_S) (t : Int32) (k : Int32) : sp_S := if t_has S t k = 0 then S else S
abbrev a_has (S : sp_S) (t : Int32) (k : Int32) : Int32 := z_bi (!(decide (sp_lk (sp_T S (sp_i t)) (sp_i k) = -1000)))
theorem okk_has {S : sp_S} (t : Int32) (k : Int32) (ok : sp_ok S) : sp_ok (k_has S t k) := by
  unfold k_has
  by_cases h : t_has S t k = 0
  · rw [if_pos h]; exact ok
  · rw [if_neg h]; exact ok
theorem kx_has (hl : l.stackTraces = false) {x : Nat} {C S : sp_S} {n9 : Int64} (w : z_W) (LT : z_LX x C S n9 w) (t : Int32) (k : Int32) : z_Con G l mX11_has 24 2 52 w [.ref 1000, .int t, .int k] (fun v w9 => ∃ r9 : Int32, v = some (.int r9) ∧ z_LX x C (k_has S t k) n9 w9 ∧ z_trw w9 (t_has S t k) ∧ (t_has S t k = 0 → r9 = a_has S t k)) (fun _ _ => False) := by
  obtain ⟨-, ⟨s, hs, hR, ok⟩, -⟩ := id LT
  refine z_weak (cx_has hl w S s t k hs hR ok) (fun v w9 q => ?_) (fun _ _ h => h)
  obtain ⟨r9, s9, hv, fm, h9, ht, R9, hr⟩ := q
  exact ⟨r9, hv, LT.mod fm h9 R9 (okk_has _ _ ok), ⟨s9, h9, ht⟩, hr⟩
abbrev t_size (S : sp_S) (t : Int32) : Int32 := sp_k3 t
def k_size (S : sp_S) (t : Int32) : sp_S := if t_size S t = 0 then S else S
abbrev a_size (S : sp_S) (t : Int32) : Int32 := nI (sp_T S (sp_i t)).length
theorem okk_size {S : sp_S} (t : Int32) (ok : sp_ok S) : sp_ok (k_size S t) := by
  unfold k_size
  by_cases h : t_size S t = 0
  · rw [if_pos h]; exact ok
  · rw [if_neg h]; exact ok
theorem kx_size (hl : l.stackTraces = false) {x : Nat} {C S : sp_S} {n9 : Int64} (w : z_W) (LT : z_LX x C S n9 w) (t : Int32) : z_Con G l mX11_size 20 0 0 w [.ref 1000, .int t] (fun v w9 => ∃ r9 : Int32, v = some (.int r9) ∧ z_LX x C (k_size S t) n9 w9 ∧ z_trw w9 (t_size S t) ∧ (t_size S t = 0 → r9 = a_size S t)) (fun _ _ => False) := by
  obtain ⟨-, ⟨s, hs, hR, ok⟩, -⟩ := id LT
  refine z_weak (cx_size hl w S s t hs hR) (fun v w9 q => ?_) (fun _ _ h => h)
  obtain ⟨r9, s9, hv, fm, h9, ht, R9, hr⟩ := q
  exact ⟨r9, hv, LT.mod fm h9 R9 (okk_size _ ok), ⟨s9, h9, ht⟩, hr⟩
abbrev t_areLike (S : sp_S) (t : Int32) (u : Int32) : Int32 := sp_k33 t u
def k_areLike (S : sp_S) (t : Int32) (u : Int32) : sp_S := if t_areLike S t u = 0 then S else S
abbrev a_areLike (S : sp_S) (t : Int32) (u : Int32) : Int32 := z_bi (sp_lik (sp_T S (sp_i t)) (sp_T S (sp_i u)))
theorem okk_areLike {S : sp_S} (t : Int32) (u : Int32) (ok : sp_ok S) : sp_ok (k_areLike S t u) := by
  unfold k_areLike
  by_cases h : t_areLike S t u = 0
  · rw [if_pos h]; exact ok
  · rw [if_neg h]; exact ok
theorem kx_areLike (hl : l.stackTraces = false) {x : Nat} {C S : sp_S} {n9 : Int64} (w : z_W) (LT : z_LX x C S n9 w) (t : Int32) (u : Int32) : z_Con G l mX11_areLike 24 0 0 w [.ref 1000, .int t, .int u] (fun v w9 => ∃ r9 : Int32, v = some (.int r9) ∧ z_LX x C (k_areLike S t u) n9 w9 ∧ z_trw w9 (t_areLike S t u) ∧ (t_areLike S t u = 0 → r9 = a_areLike S t u)) (fun _ _ => False) := by
  obtain ⟨-, ⟨s, hs, hR, ok⟩, -⟩ := id LT
  refine z_weak (cx_areLike hl w S s t u hs hR) (fun v w9 q => ?_) (fun _ _ h => h)
  obtain ⟨r9, s9, hv, fm, h9, ht, R9, hr⟩ := q
  exact ⟨r9, hv, LT.mod fm h9 R9 (okk_areLike _ _ ok), ⟨s9, h9, ht⟩, hr⟩
abbrev t_given (S : sp_S) (r : Int32) (k : Int32) (y : Int32) (n : Int32) : Int32 := q_k1 (sp_bk k ∨ (y < -1000 ∨ 999 < y) ∨ (r < 0 ∨ 5 < r) ∨ sp_bv n)
def k_given (S : sp_S) (r : Int32) (k : Int32) (y : Int32) (n : Int32) : sp_S := if t_given S r k y n = 0 then S else S
abbrev a_given (S : sp_S) (r : Int32) (k : Int32) (y : Int32) (n : Int32) : Int32 := (q_rt r k (q_d y) n).getD (-9)
theorem okk_given {S : sp_S} (r : Int32) (k : Int32) (y : Int32) (n : Int32) (ok : sp_ok S) : sp_ok (k_given S r k y n) := by
  unfold k_given
  by_cases h : t_given S r k y n = 0
  · rw [if_pos h]; exact ok
  · rw [if_neg h]; exact ok
theorem kx_given (hl : l.stackTraces = false) {x : Nat} {C S : sp_S} {n9 : Int64} (w : z_W) (LT : z_LX x C S n9 w) (r : Int32) (k : Int32) (y : Int32) (n : Int32) : z_Con G l mX11_given 20 0 0 w [.ref 1000, .int r, .int k, .int y, .int n] (fun v w9 => ∃ r9 : Int32, v = some (.int r9) ∧ z_LX x C (k_given S r k y n) n9 w9 ∧ z_trw w9 (t_given S r k y n) ∧ (t_given S r k y n = 0 → r9 = a_given S r k y n)) (fun _ _ => False) := by
  obtain ⟨-, ⟨s, hs, hR, ok⟩, -⟩ := id LT
  refine z_weak (cx_given hl w S s r k y n hs hR) (fun v w9 q => ?_) (fun _ _ h => h)
  obtain ⟨r9, s9, hv, fm, h9, ht, R9, hr⟩ := q
  exact ⟨r9, hv, LT.mod fm h9 R9 (okk_given _ _ _ _ ok), ⟨s9, h9, ht⟩, hr⟩
abbrev t_tested (S : sp_S) (t : Int32) (y : Int32) (n : Int32) : Int32 := q_k1 ((t < 0 ∨ 5 < t) ∨ sp_bv y ∨ sp_bv n)
def k_tested (S : sp_S) (t : Int32) (y : Int32) (n : Int32) : sp_S := if t_tested S t y n = 0 then S else S
abbrev a_tested (S : sp_S) (t : Int32) (y : Int32) (n : Int32) : Int32 := (q_tt t y n).getD (-9)
theorem okk_tested {S : sp_S} (t : Int32) (y : Int32) (n : Int32) (ok : sp_ok S) : sp_ok (k_tested S t y n) := by
  unfold k_tested
  by_cases h : t_tested S t y n = 0
  · rw [if_pos h]; exact ok
  · rw [if_neg h]; exact ok
theorem kx_tested (hl : l.stackTraces = false) {x : Nat} {C S : sp_S} {n9 : Int64} (w : z_W) (LT : z_LX x C S n9 w) (t : Int32) (y : Int32) (n : Int32) : z_Con G l mX11_tested 20 0 0 w [.ref 1000, .int t, .int y, .int n] (fun v w9 => ∃ r9 : Int32, v = some (.int r9) ∧ z_LX x C (k_tested S t y n) n9 w9 ∧ z_trw w9 (t_tested S t y n) ∧ (t_tested S t y n = 0 → r9 = a_tested S t y n)) (fun _ _ => False) := by
  obtain ⟨-, ⟨s, hs, hR, ok⟩, -⟩ := id LT
  refine z_weak (cx_tested hl w S s t y n hs hR) (fun v w9 q => ?_) (fun _ _ h => h)
  obtain ⟨r9, s9, hv, fm, h9, ht, R9, hr⟩ := q
  exact ⟨r9, hv, LT.mod fm h9 R9 (okk_tested _ _ _ ok), ⟨s9, h9, ht⟩, hr⟩
theorem okk_knock {S : sp_S} (ok : sp_ok S) : sp_ok (sp_kno S) := ok_kno ok
theorem kx_knock (hl : l.stackTraces = false) {x : Nat} {C S : sp_S} {n9 : Int64} (w : z_W) (LT : z_LX x C S n9 w) : z_Con G l mX11_knock 10 0 0 w [.ref 1000] (fun v w9 => ∃ r9 : Int32, v = some (.int r9) ∧ z_LX x C (sp_kno S) n9 w9 ∧ z_trw w9 0 ∧ r9 = S.1.2 + 1) (fun _ _ => False) := by
  obtain ⟨-, ⟨s, hs, hR, ok⟩, -⟩ := id LT
  refine z_weak (cx_knock hl w S s hs hR) (fun v w9 q => ?_) (fun _ _ h => h)
  obtain ⟨r9, s9, hv, fm, h9, ht, R9, hr⟩ := q
  exact ⟨r9, hv, LT.mod fm h9 R9 (okk_knock ok), ⟨s9, h9, ht⟩, hr⟩
abbrev t_house (S : sp_S) (w0 : Int32) : Int32 := q_k1 (w0 < 0 ∨ 4 < w0)
def k_house (S : sp_S) (w0 : Int32) : sp_S := if t_house S w0 = 0 then S else S
abbrev a_house (S : sp_S) (w0 : Int32) : Int32 := sp_hse S w0
theorem okk_house {S : sp_S} (w0 : Int32) (ok : sp_ok S) : sp_ok (k_house S w0) := by
  unfold k_house
  by_cases h : t_house S w0 = 0
  · rw [if_pos h]; exact ok
  · rw [if_neg h]; exact ok
theorem kx_house (hl : l.stackTraces = false) {x : Nat} {C S : sp_S} {n9 : Int64} (w : z_W) (LT : z_LX x C S n9 w) (w0 : Int32) : z_Con G l mX11_house 22 2 9 w [.ref 1000, .int w0] (fun v w9 => ∃ r9 : Int32, v = some (.int r9) ∧ z_LX x C (k_house S w0) n9 w9 ∧ z_trw w9 (t_house S w0) ∧ (t_house S w0 = 0 → r9 = a_house S w0)) (fun _ _ => False) := by
  obtain ⟨-, ⟨s, hs, hR, ok⟩, -⟩ := id LT
  refine z_weak (cx_house hl w S s w0 hs hR) (fun v w9 q => ?_) (fun _ _ h => h)
  obtain ⟨r9, s9, hv, fm, h9, ht, R9, hr⟩ := q
  exact ⟨r9, hv, LT.mod fm h9 R9 (okk_house _ ok), ⟨s9, h9, ht⟩, hr⟩
theorem okk_isSound {S : sp_S} (ok : sp_ok S) : sp_ok (S) := ok
theorem kx_isSound (hl : l.stackTraces = false) {x : Nat} {C S : sp_S} {n9 : Int64} (w : z_W) (LT : z_LX x C S n9 w) : z_Con G l mX11_isSound 20 0 0 w [.ref 1000] (fun v w9 => ∃ r9 : Int32, v = some (.int r9) ∧ z_LX x C (S) n9 w9 ∧ z_trw w9 0 ∧ r9 = (1 : Int32)) (fun _ _ => False) := by
  obtain ⟨-, ⟨s, hs, hR, ok⟩, -⟩ := id LT
  refine z_weak (cx_isSound hl w S s hs hR ok) (fun v w9 q => ?_) (fun _ _ h => h)
  obtain ⟨r9, s9, hv, fm, h9, ht, R9, hr⟩ := q
  exact ⟨r9, hv, LT.mod fm h9 R9 (okk_isSound ok), ⟨s9, h9, ht⟩, hr⟩
theorem kx_heardText (hl : l.stackTraces = false) {x : Nat} {C S : sp_S} {n9 : Int64} (w : z_W) (LT : z_LX x C S n9 w) (r : Int32) : z_Con G l mX11_heardText 20 20 640 w [.ref 1000, .int r] (fun v w9 => ∃ r9 : Value, v = some r9 ∧ z_ir r9 = true ∧ z_LX x C S n9 w9) (fun _ _ => False) := by
  obtain ⟨-, ⟨s, hs, hR, ok⟩, -⟩ := id LT
  refine z_weak (cs_heardText hl w S s r hs hR) (fun v w9 q => ?_) (fun _ _ h => h)
  obtain ⟨r9, s9, hv, hi, fm, h9, R9⟩ := q
  exact ⟨r9, hv, hi, LT.mod fm h9 R9 ok⟩
theorem kx_rowText (hl : l.stackTraces = false) {x : Nat} {C S : sp_S} {n9 : Int64} (w : z_W) (LT : z_LX x C S n9 w) (r : Int32) : z_Con G l mX11_rowText 20 24 800 w [.ref 1000, .int r] (fun v w9 => ∃ r9 : Value, v = some r9 ∧ z_ir r9 = true ∧ z_LX x C S n9 w9) (fun _ _ => False) := by
  obtain ⟨-, ⟨s, hs, hR, ok⟩, -⟩ := id LT
  refine z_weak (cs_rowText hl w S s r hs hR) (fun v w9 q => ?_) (fun _ _ h => h)
  obtain ⟨r9, s9, hv, hi, fm, h9, R9⟩ := q
  exact ⟨r9, hv, hi, LT.mod fm h9 R9 ok⟩
theorem kx_text (hl : l.stackTraces = false) {x : Nat} {C S : sp_S} {n9 : Int64} (w : z_W) (LT : z_LX x C S n9 w) (r : Int32) : z_Con G l mX11_text 20 66 2450 w [.ref 1000, .int r] (fun v w9 => ∃ r9 : Value, v = some r9 ∧ z_ir r9 = true ∧ z_LX x C S n9 w9) (fun _ _ => False) := by
  obtain ⟨-, ⟨s, hs, hR, ok⟩, -⟩ := id LT
  refine z_weak (cs_text hl w S s r hs hR) (fun v w9 q => ?_) (fun _ _ h => h)
  obtain ⟨r9, s9, hv, hi, fm, h9, R9⟩ := q
  exact ⟨r9, hv, hi, LT.mod fm h9 R9 ok⟩
theorem kx_digest (hl : l.stackTraces = false) {x : Nat} {C S : sp_S} {n9 : Int64} (w : z_W) (LT : z_LX x C S n9 w) : z_Con G l mX11_digest 24 56 1349 w [.ref 1000] (fun v w9 => ∃ r9 : Int64, v = some (.long r9) ∧ z_LX x C S n9 w9) (fun _ _ => False) := by
  obtain ⟨-, ⟨s, hs, hR, ok⟩, -⟩ := id LT
  refine z_weak (cs_digest hl w S s hs hR) (fun v w9 q => ?_) (fun _ _ h => h)
  obtain ⟨r9, s9, hv, fm, h9, R9⟩ := q
  exact ⟨r9, hv, LT.mod fm h9 R9 ok⟩
end ZLx
