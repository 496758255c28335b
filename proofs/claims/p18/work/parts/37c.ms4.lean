section ZMd
theorem j_zsto {G : z_G} {l : Launch} {y : z_M} {S : z_S} {pc : Nat} {lo : List (Nat × Value)} {st : List Value} {w w' : z_W} {kc ks a n : Nat} {f : Nat → Int32} {i x : Int32} (hd : decode y.2.1 pc = .ok (.bastore, 1)) (hg : z_g w a = some (.inl (1, n, fun j => .int (f j)))) (hin : vp_in i n) (hnr : narrow .boolean (.int x) = .int x) (hw : z_s w a (.inl (1, n, fun j => .int (z_ui f i.toNatClampNeg x j))) = w') (h : z_J G l y S (pc + 1) lo st w' kc ks) : z_J G l y S pc lo (.int x :: .int i :: .ref a :: st) w kc ks :=
  j_zast hd hg hin hnr (by rw [z_uie]; exact hw) h
theorem z_nat1 {k : Int32} {m : Nat} {b : Int32} (hb : b = nI m) (hm : m < 2147483648) (h : 1 ≤ k ∧ k ≤ b) : ∃ i, 1 ≤ i ∧ i < m + 1 ∧ k = nI i := by
  obtain ⟨i, h1, rfl⟩ := z_nat (k := k) (a := 0) rfl hb hm ⟨Int32.le_trans (by decide) h.1, h.2⟩
  exact ⟨i, (nI_leI (a := 1) (b := i) (by omega) (by omega)).mp h.1, h1, rfl⟩
theorem z_natm {k : Int32} {n : Nat} (hn : n < 2147483648) (h : 0 ≤ k ∧ k ≤ nI n - 1) : ∃ i, i < n ∧ k = nI i := by
  cases n with
  | zero => exact absurd (Int32.le_trans h.1 h.2) (by decide)
  | succ n =>
    rw [nI_pred] at h
    exact z_nat (k := k) (a := 0) rfl rfl (by omega) h
theorem z_ne0 {x : Int32} (h : 1 ≤ x) : ¬ x = 0 := fun z => by subst z; exact absurd h (by decide)
theorem z_mst.cp {w w2 w3 : z_W} {s : z_Z} {i0 x : Nat} {mo mr : Int32} {B : List UInt32} (h : z_mst w s) (hi0 : i0 < 2) (hw2 : z_fw (11 + i0) w w2) (hw3 : z_fw 41 w2 w3) (hr : z_li w3 41 1001 mr (([.ref ((z_qr s).2 0), .ref ((z_qr s).2 1)] : List Value).set i0 (.ref x))) (u : z_li w2 (11 + i0) x mo (z_bx B)) (hB : B.length ≤ 12) : z_mst w3 (z_tw (z_tr s (mr, z_fu (z_qr s).2 i0 x)) (z_fu (z_qw s) i0 (mo, B))) := by
  obtain ⟨h0, h1, h2, h3, ⟨f4, h4, h4'⟩, h5, h6, ⟨f7, h7, h7'⟩, h8, h9, h10, h11, h12⟩ := h
  have k : ∀ r, r ≠ 11 + i0 → r ≠ 41 → ∀ n, 1000 ≤ n → n % 64 = r → z_g w3 n = z_g w n := fun r hr hr2 n _ hn => (hw3.2.2 n (Or.inr (by omega))).trans (hw2.2.2 n (Or.inr (by omega)))
  exact ⟨hw3.2.1 (hw2.2.1 h0), (k 40 (by omega) (by omega) 1000 (by omega) (by omega)).trans h1, (by
    show z_li w3 41 1001 mr [.ref (z_fu (z_qr s).2 i0 x 0), .ref (z_fu (z_qr s).2 i0 x 1)]
    rcases (by omega : i0 = 0 ∨ i0 = 1) with rfl | rfl <;> exact hr), (k 42 (by omega) (by omega) 1002 (by omega) (by omega)).trans h3, ⟨f4, (k 43 (by omega) (by omega) 1003 (by omega) (by omega)).trans h4, h4'⟩, fun i hi => (k (44 + i) (by omega) (by omega) (1004 + i) (by omega) (by omega)).trans (h5 i hi), z_li.m (k 47 (by omega) (by omega)) h6, ⟨f7, (k 48 (by omega) (by omega) 1008 (by omega) (by omega)).trans h7, h7'⟩, fun i hi => (k (49 + i) (by omega) (by omega) (1009 + i) (by omega) (by omega)).trans (h8 i hi), fun t ht => z_li.m (k (51 + t) (by omega) (by omega)) (h9 t ht), fun i hi => ⟨z_li.m (k (54 + i) (by omega) (by omega)) (h10 i hi).1, (h10 i hi).2⟩, fun i hi => (by
    show z_li w3 (11 + i) (z_fu (z_qr s).2 i0 x i) (z_fu (z_qw s) i0 (mo, B) i).1 (z_bx (z_fu (z_qw s) i0 (mo, B) i).2) ∧ (z_fu (z_qw s) i0 (mo, B) i).2.length ≤ 12
    by_cases hii : i = i0
    · subst hii; rw [z_fu_self, z_fu_self]; exact ⟨u.fw hw3 (by omega), hB⟩
    · rw [z_fu_ne hii, z_fu_ne hii]; exact ⟨z_li.m (k (11 + i) (by omega) (by omega)) (h11 i hi).1, (h11 i hi).2⟩), fun t ht => z_pr.m (k (14 + t) (by omega) (by omega)) (h12 t ht)⟩
end ZMd
section ZMd2
theorem z_nodup_le : ∀ (n : Nat) (L : List Nat), L.Nodup → (∀ x ∈ L, x < n) → L.length ≤ n
  | 0, L, _, h => by
    cases L with
    | nil => exact Nat.le_refl _
    | cons a t => exact absurd (h a List.mem_cons_self) (Nat.not_lt_zero _)
  | n + 1, L, hd, h => by
    have h1 := z_nodup_le n (L.erase n) (hd.erase n) (fun x hx => by
      have h2 := h x (List.mem_of_mem_erase hx)
      have h3 : x ≠ n := fun z => by subst z; exact absurd hx (hd.not_mem_erase)
      omega)
    have h4 : L.length ≤ (L.erase n).length + 1 := by
      rw [List.length_erase]
      split <;> omega
    omega
theorem z_pr.len {w : z_W} {ρ : Nat} {P : List Nat} {K : Nat → Nat → Int32} (h : z_pr w ρ P K) : P.length ≤ 20 := by
  have h1 := z_nodup_le 20 (P.map fun p => (K p 0).toNatClampNeg) (by
    have h2 := h.2
    rw [List.Nodup, List.pairwise_map] at h2 ⊢
    refine List.Pairwise.imp_of_mem (fun {a b} ha hb hab => ?_) h2
    obtain ⟨k1, a1, a2⟩ := (h.1 a ha).1.2.2
    obtain ⟨k2, b1, b2⟩ := (h.1 b hb).1.2.2
    intro e
    rw [a2, b2, z_cla (by omega), z_cla (by omega)] at e
    exact hab (by rw [a2, b2, e])) (fun x hx => by
    obtain ⟨p, hp, rfl⟩ := List.mem_map.mp hx
    obtain ⟨k1, a1, a2⟩ := (h.1 p hp).1.2.2
    rw [a2, z_cla (by omega)]
    exact a1)
  rw [List.length_map] at h1
  exact h1
end ZMd2
