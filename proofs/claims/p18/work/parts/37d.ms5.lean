section ZMe
variable {w w' : z_W} {s : z_Z}
theorem z_li.mono {ρ a : Nat} {mo : Int32} {L : List Value} (hw : ∀ (k : Nat) (e : z_E), z_g w k = some e → z_g w' k = some e) (h : z_li w ρ a mo L) : z_li w' ρ a mo L := by
  obtain ⟨h1, h2, h3, h4⟩ := h
  refine ⟨h1, h2, h3, ?_⟩
  rcases h4 with ⟨m, n, f, a1, a2, a3, a4, a5, a6⟩ | ⟨k, a1, a2, a3⟩
  · exact Or.inl ⟨m, n, f, a1, a2, a3, hw _ _ a4, hw _ _ a5, a6⟩
  · exact Or.inr ⟨k, a1, a2, hw _ _ a3⟩
theorem z_pr.mono {ρ : Nat} {P : List Nat} {K : Nat → Nat → Int32} (hw : ∀ (k : Nat) (e : z_E), z_g w k = some e → z_g w' k = some e) (h : z_pr w ρ P K) : z_pr w' ρ P K := ⟨fun p hp => ⟨(h.1 p hp).1, hw _ _ (h.1 p hp).2⟩, h.2⟩
theorem z_mst.mono (h : z_mst w s) (hw : ∀ (k : Nat) (e : z_E), z_g w k = some e → z_g w' k = some e) (hf : z_fn w') : z_mst w' s := by
  obtain ⟨h0, h1, h2, h3, ⟨f4, h4, h4'⟩, h5, h6, ⟨f7, h7, h7'⟩, h8, h9, h10, h11, h12⟩ := h
  exact ⟨hf, hw _ _ h1, z_li.mono hw h2, hw _ _ h3, ⟨f4, hw _ _ h4, h4'⟩, fun i hi => hw _ _ (h5 i hi), z_li.mono hw h6, ⟨f7, hw _ _ h7, h7'⟩, fun i hi => hw _ _ (h8 i hi), fun t ht => z_li.mono hw (h9 t ht), fun i hi => ⟨z_li.mono hw (h10 i hi).1, (h10 i hi).2⟩, fun i hi => ⟨z_li.mono hw (h11 i hi).1, (h11 i hi).2⟩, fun t ht => z_pr.mono hw (h12 t ht)⟩
theorem z_mst.li51 {t0 : Nat} {mo : Int32} {P : List Nat} (h : z_mst w s) (ht0 : t0 < 3) (hw : z_fw (51 + t0) w w') (u : z_li w' (51 + t0) (1011 + t0) mo (z_rs P)) (hp : z_pr w' (14 + t0) P (z_qk s)) : z_mst w' (z_tp s (z_fu (z_qp s) t0 (mo, P))) := by
  obtain ⟨h0, h1, h2, h3, ⟨f4, h4, h4'⟩, h5, h6, ⟨f7, h7, h7'⟩, h8, h9, h10, h11, h12⟩ := h
  have k : ∀ r, r ≠ 51 + t0 → ∀ n, 1000 ≤ n → n % 64 = r → z_g w' n = z_g w n := fun r hr n _ hn => hw.2.2 n (Or.inr (by omega))
  exact ⟨hw.2.1 h0, (k 40 (by omega) 1000 (by omega) (by omega)).trans h1, z_li.m (k 41 (by omega)) h2, (k 42 (by omega) 1002 (by omega) (by omega)).trans h3, ⟨f4, (k 43 (by omega) 1003 (by omega) (by omega)).trans h4, h4'⟩, fun i hi => (k (44 + i) (by omega) (1004 + i) (by omega) (by omega)).trans (h5 i hi), z_li.m (k 47 (by omega)) h6, ⟨f7, (k 48 (by omega) 1008 (by omega) (by omega)).trans h7, h7'⟩, fun i hi => (k (49 + i) (by omega) (1009 + i) (by omega) (by omega)).trans (h8 i hi), fun t ht => (by
    show z_li w' (51 + t) (1011 + t) (z_fu (z_qp s) t0 (mo, P) t).1 (z_rs (z_fu (z_qp s) t0 (mo, P) t).2)
    by_cases hii : t = t0
    · subst hii; rw [z_fu_self]; exact u
    · rw [z_fu_ne hii]; exact z_li.m (k (51 + t) (by omega)) (h9 t ht)), fun i hi => ⟨z_li.m (k (54 + i) (by omega)) (h10 i hi).1, (h10 i hi).2⟩, fun i hi => ⟨z_li.m (k (11 + i) (by omega)) (h11 i hi).1, (h11 i hi).2⟩, fun t ht => (by
    show z_pr w' (14 + t) (z_fu (z_qp s) t0 (mo, P) t).2 (z_qk s)
    by_cases hii : t = t0
    · subst hii; rw [z_fu_self]; exact hp
    · rw [z_fu_ne hii]; exact z_pr.m (k (14 + t) (by omega)) (h12 t ht))⟩
theorem z_mst.up14 {t0 p : Nat} {F : Nat → Int32} (h : z_mst w s) (ht0 : t0 < 3) (hp : p ∈ (z_qp s t0).2) (u : z_up w p (.inl (0, 2, fun j => .int (F j))) w') (hF : F 0 = z_qk s p 0) : z_mst w' (z_tk s (z_fu (z_qk s) p F)) := by
  obtain ⟨h0, h1, h2, h3, ⟨f4, h4, h4'⟩, h5, h6, ⟨f7, h7, h7'⟩, h8, h9, h10, h11, h12⟩ := h
  obtain ⟨p1, p2, p3⟩ := ((h12 t0 ht0).1 p hp).1
  have k : ∀ r, r ≠ 14 + t0 → ∀ n, 1000 ≤ n → n % 64 = r → z_g w' n = z_g w n := fun r hr n _ hn => u.2.1 n (fun z => by subst z; omega)
  exact ⟨u.2.2.2 h0, (k 40 (by omega) 1000 (by omega) (by omega)).trans h1, z_li.m (k 41 (by omega)) h2, (k 42 (by omega) 1002 (by omega) (by omega)).trans h3, ⟨f4, (k 43 (by omega) 1003 (by omega) (by omega)).trans h4, h4'⟩, fun i hi => (k (44 + i) (by omega) (1004 + i) (by omega) (by omega)).trans (h5 i hi), z_li.m (k 47 (by omega)) h6, ⟨f7, (k 48 (by omega) 1008 (by omega) (by omega)).trans h7, h7'⟩, fun i hi => (k (49 + i) (by omega) (1009 + i) (by omega) (by omega)).trans (h8 i hi), fun t ht => z_li.m (k (51 + t) (by omega)) (h9 t ht), fun i hi => ⟨z_li.m (k (54 + i) (by omega)) (h10 i hi).1, (h10 i hi).2⟩, fun i hi => ⟨z_li.m (k (11 + i) (by omega)) (h11 i hi).1, (h11 i hi).2⟩, fun t ht => (by
    show z_pr w' (14 + t) (z_qp s t).2 (z_fu (z_qk s) p F)
    have e : ∀ q, z_fu (z_qk s) p F q 0 = z_qk s q 0 := fun q => by
      by_cases hq : q = p
      · subst hq; rw [z_fu_self]; exact hF
      · rw [z_fu_ne hq]
    refine ⟨fun q hq => ?_, by simp only [e]; exact (h12 t ht).2⟩
    obtain ⟨⟨q1, q2, q3⟩, q4⟩ := (h12 t ht).1 q hq
    rw [e]
    by_cases hqp : q = p
    · subst hqp; rw [z_fu_self]; exact ⟨⟨q1, q2, q3⟩, u.1⟩
    · rw [z_fu_ne hqp]; exact ⟨⟨q1, q2, q3⟩, (u.2.1 q hqp).trans q4⟩)⟩
theorem z_mst.newk {w0 : z_W} {x : Nat} {F : Nat → Int32} (h0 : z_mst w0 s) (hx : z_g w0 x = none) (h : z_mst w s) : z_mst w (z_tk s (z_fu (z_qk s) x F)) := by
  obtain ⟨a0, a1, a2, a3, a4, a5, a6, a7, a8, a9, a10, a11, a12⟩ := h
  refine ⟨a0, a1, a2, a3, a4, a5, a6, a7, a8, a9, a10, a11, fun t ht => ?_⟩
  show z_pr w (14 + t) (z_qp s t).2 (z_fu (z_qk s) x F)
  have hne : ∀ p ∈ (z_qp s t).2, p ≠ x := fun p hp z => by
    have := ((h0.pr ht).1 p hp).2
    rw [z, hx] at this
    cases this
  refine ⟨fun p hp => by rw [z_fu_ne (hne p hp)]; exact (a12 t ht).1 p hp, ?_⟩
  have e : ((z_qp s t).2.map fun p => z_fu (z_qk s) x F p 0) = (z_qp s t).2.map fun p => z_qk s p 0 := List.map_congr_left (fun p hp => by rw [z_fu_ne (hne p hp)])
  rw [e]
  exact (a12 t ht).2
theorem z_pr.ins {ρ x j : Nat} {P : List Nat} {K : Nat → Nat → Int32} (h : z_pr w ρ P K) (hx : 1000 ≤ x ∧ x % 64 = ρ ∧ ∃ k, k < 20 ∧ K x 0 = nI k) (hg : z_g w x = some (.inl (0, 2, fun j => .int (K x j)))) (hno : ∀ p ∈ P, ¬ K p 0 = K x 0) : z_pr w ρ (P.take j ++ x :: P.drop j) K := by
  have hperm : (P.take j ++ x :: P.drop j).Perm (x :: P) := by
    have := @List.perm_middle _ x (P.take j) (P.drop j)
    rw [List.take_append_drop] at this
    exact this
  refine ⟨fun p hp => ?_, ?_⟩
  · rcases List.mem_cons.mp (hperm.mem_iff.mp hp) with rfl | hp
    · exact ⟨hx, hg⟩
    · exact h.1 p hp
  · rw [(hperm.map _).nodup_iff, List.map_cons, List.nodup_cons]
    refine ⟨fun hm => ?_, h.2⟩
    obtain ⟨p, hp, e⟩ := List.mem_map.mp hm
    exact hno p hp e
theorem z_pr.rem {ρ j : Nat} {P : List Nat} {K : Nat → Nat → Int32} (h : z_pr w ρ P K) : z_pr w ρ (P.eraseIdx j) K := by
  have hs := List.eraseIdx_sublist P j
  exact ⟨fun p hp => h.1 p (hs.subset hp), h.2.sublist (hs.map _)⟩
theorem z_pr.nil {ρ : Nat} {K : Nat → Nat → Int32} : z_pr w ρ [] K := ⟨fun p hp => (by cases hp), List.nodup_nil⟩
theorem z_rs_el {ρ σ : Nat} {P : List Nat} {K : Nat → Nat → Int32} (h : z_pr w ρ P K) (hne : ρ ≠ σ) : ∀ v ∈ z_rs P, z_el σ w v := fun v hv => by
  obtain ⟨p, hp, rfl⟩ := List.mem_map.mp hv
  obtain ⟨⟨p1, p2, -⟩, p3⟩ := h.1 p hp
  exact ⟨Or.inr ⟨p, rfl, Or.inr (fun z => hne (p2.symm.trans z))⟩, "[I", z_isA p3, (z_wn 1999 ((lwt_9_1 4).trans rfl) (by decide +kernel))⟩
theorem z_decr1 {a : Nat} (h : 1 ≤ a) : nI a + (-1) = nI (a - 1) := by
  obtain ⟨b, rfl⟩ : ∃ b, a = b + 1 := ⟨a - 1, by omega⟩
  rw [Nat.add_sub_cancel]
  exact z_decr b
end ZMe
