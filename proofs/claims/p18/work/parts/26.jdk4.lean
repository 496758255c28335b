section ZJ4
variable {G : z_G} {l : Launch} {y : z_M} {S : z_S} {pc : Nat} {lo : List (Nat × Value)} {st : List Value} {w w' : z_W} {kc ks : Nat}
theorem j_toBox {n : Nat} {x : Int32} {L L0 : List z_E} (hL0 : S.2.2.2.1 = (L0, z_no)) (hn : L0.length ≤ n) (hn2 : n + 1 ≤ 1000) (hl2 : L.length = n + 1) (hlast : L[n]? = some (.inr (2, [.int x]))) (hc : z_cL n (L.take n)) (hst : z_stb n st = true) (h : z_J G l y S pc [] (.float x.toUInt32 :: st) (L.take n, z_no) kc ks) : z_J G l y S pc lo (.ref n :: st) (L, z_no) kc ks := by
  intro p e s m args below meth c R0 hok R H locs ls cst hat hlo hst0
  obtain ⟨c1, cs1, rfl, ⟨-, hc1⟩, hst1⟩ := z_Lc hst0
  subst hc1
  have hd : ∀ k, z_d (L.take n, z_no) k ↔ k < n := by
    intro k
    constructor
    · intro ⟨e9, he9⟩
      have h1 := (List.getElem?_eq_some_iff.mp (z_gL he9)).1
      rw [List.length_take] at h1
      omega
    · intro hk
      have h1 : k < (L.take n).length := by rw [List.length_take]; omega
      exact ⟨_, z_Lg' (by rw [List.length_take]; omega) (List.getElem?_eq_getElem h1)⟩
  have hge : ∀ k e9, z_g (L.take n, z_no) k = some e9 → z_g (L, z_no) k = some e9 := by
    intro k e9 he9
    have hk := (hd k).mp ⟨_, he9⟩
    have h1 := z_gL he9
    rw [List.getElem?_take_of_lt hk] at h1
    show cond (Nat.blt k 1000) L[k]? (z_no k) = _
    rw [z_blt (by omega)]
    exact h1
  have hdd : ∀ k, z_d (L.take n, z_no) k → z_d (L, z_no) k := fun k ⟨e9, he9⟩ => ⟨e9, hge k e9 he9⟩
  have hgn : z_g (L, z_no) n = some (.inr (2, [.int x])) := by
    show cond (Nat.blt n 1000) L[n]? (z_no n) = _
    rw [z_blt (by omega)]
    exact hlast
  obtain ⟨hP, hT, hF⟩ := hat
  have hno : ∀ q b, R.2 q = some b → q ≠ R.1 n := fun q b hq e9 => (hP.2.2 q b hq).2 n ⟨_, hgn⟩ e9.symm
  have hR2 : ∀ q b, R.2 q = some b → (if q = R.1 n then some x.toUInt32 else R.2 q) = some b := fun q b hq => by rw [if_neg (hno q b hq)]; exact hq
  have hv : ∀ v c, z_cV n v → z_V G R (L, z_no) v c → z_V G (R.1, fun q => if q = R.1 n then some x.toUInt32 else R.2 q) (L.take n, z_no) v c := by
    intro v c hc9 hv
    cases v with
    | int x => exact hv
    | long x => exact hv
    | null => exact hv
    | float b => obtain ⟨q, h1, h2⟩ := hv; exact ⟨q, h1, h2.imp (hR2 q b) id⟩
    | retAddr k => exact hv
    | double b => exact hv
    | ref a => exact ⟨(hd a).mpr hc9, hv.2⟩
  have hvl : ∀ (as bs : List Value), (∀ v ∈ as, z_cV n v) → z_L (z_V G R (L, z_no)) as bs → z_L (z_V G (R.1, fun q => if q = R.1 n then some x.toUInt32 else R.2 q) (L.take n, z_no)) as bs := by
    intro as
    induction as with
    | nil =>
      intro bs _ h9
      cases bs with
      | nil => exact trivial
      | cons b bs => exact h9.elim
    | cons a as ih =>
      intro bs h8 h9
      cases bs with
      | nil => exact h9.elim
      | cons b bs => exact ⟨hv _ _ (h8 a List.mem_cons_self) h9.1, ih bs (fun v hv9 => h8 v (List.mem_cons_of_mem _ hv9)) h9.2⟩
  have hbox : t_OB (R.1 n) (z_dC G 2) 1 (z_dI G 2) H (fun _ => .int x.toUInt32.toInt32) := by
    obtain ⟨q, gs, x1, x2, ⟨cell, g1, g2, g3, g4⟩, x4⟩ := (hP.1 n _ hgn).1
    obtain ⟨b, bs, rfl, hb, -⟩ := z_Lc x4
    have hb : b = .int x := hb
    subst hb
    refine ⟨cell, g1, g2, g3, fun k hk => ?_⟩
    obtain rfl : k = 0 := by omega
    exact g4 0 (by rw [← x2]; exact Nat.zero_lt_one)
  have hat2 : z_at G S R0 s (R.1, fun q => if q = R.1 n then some x.toUInt32 else R.2 q) (L.take n, z_no) H locs := by
    refine ⟨⟨fun k e9 he9 => ?_, fun a b ha hb hab => hP.2.1 a b (hdd a ha) (hdd b hb) hab, fun q b hq => ?_⟩, ⟨fun k hk => ⟨?_, (hT.1 k hk).2⟩, fun q b hq => hR2 q b (hT.2.1 q b hq), fun k hk hno => hT.2.2.1 k (hdd k hk) hno, fun q b hq hq0 => ?_⟩, hF⟩
    · obtain ⟨h3, h4⟩ := hP.1 k e9 (hge k e9 he9)
      refine ⟨?_, h4⟩
      have hce : z_cE n e9 := z_cLm hc e9 (List.mem_of_getElem? (z_gL he9))
      cases e9 with
      | inl x =>
        obtain ⟨z, z1, z2⟩ := h3
        exact ⟨z, z1, fun j hj => hv _ _ (hce j hj) (z2 j hj)⟩
      | inr o =>
        obtain ⟨q, gs, x1, x2, x3, x4⟩ := h3
        exact ⟨q, gs, x1, x2, x3, hvl _ _ hce x4⟩
    · have hq : (if q = R.1 n then some x.toUInt32 else R.2 q) = some b := hq
      by_cases hqn : q = R.1 n
      · rw [if_pos hqn] at hq
        obtain rfl := Option.some.inj hq
        subst hqn
        refine ⟨hbox, fun k hk e9 => ?_⟩
        have h1 := hP.2.1 k n (hdd k hk) ⟨_, hgn⟩ e9
        have h2 := (hd k).mp hk
        omega
      · rw [if_neg hqn] at hq
        exact ⟨(hP.2.2 q b hq).1, fun k hk => (hP.2.2 q b hq).2 k (hdd k hk)⟩
    · rw [hL0] at hk
      obtain ⟨e9, he9⟩ := hk
      have h1 := (List.getElem?_eq_some_iff.mp (z_gL he9)).1
      exact (hd k).mpr (by omega)
    · have hq : (if q = R.1 n then some x.toUInt32 else R.2 q) = some b := hq
      by_cases hqn : q = R.1 n
      · rw [hqn]
        refine hT.2.2.1 n ⟨_, hgn⟩ ?_
        rw [hL0]
        intro ⟨e9, he9⟩
        have h1 := (List.getElem?_eq_some_iff.mp (z_gL he9)).1
        omega
      · rw [if_neg hqn] at hq
        exact hT.2.2.2 q b hq hq0
  obtain ⟨clo, h1, h2⟩ := hlo
  exact h p e s m args below meth c R0 hok (R.1, fun q => if q = R.1 n then some x.toUInt32 else R.2 q) H locs ls (.ref (R.1 n) :: cs1) hat2 ⟨[], ⟨h1.1, h1.2.1, fun _ hx => by cases hx⟩, trivial⟩ ⟨⟨R.1 n, rfl, Or.inl (if_pos rfl)⟩, hvl _ _ (z_stc hst) hst1⟩
theorem j_getC {idx a n : Nat} {f : Nat → Value} (hd : decode y.2.1 pc = .ok (.invokevirtual idx, 3)) (hl : Cond.methodLink y.1.cls idx ⟨"java/lang/Object", "getClass", "()Ljava/lang/Class;"⟩ ∈ z_tbl) (hdc : Cond.declares ⟨"java/lang/Object", "getClass", "()Ljava/lang/Class;"⟩ ∈ z_nst)
    (hs : Cond.selects "[Ljava/lang/Object;" ⟨"java/lang/Object", "getClass", "()Ljava/lang/Class;"⟩ ⟨"java/lang/Object", "getClass", "()Ljava/lang/Class;"⟩ ∈ z_tbl) (hi : Cond.instanceMethod ⟨"java/lang/Object", "getClass", "()Ljava/lang/Class;"⟩ ∈ z_tbl) (hnat : Cond.native ⟨"java/lang/Object", "getClass", "()Ljava/lang/Class;"⟩ ∈ z_tbl)
    (hg : z_g w a = some (.inl (3, n, f))) (hrk : 1 ≤ S.1) (hW : z_cat st ≤ 8) (h : z_J G l y S (pc + 3) lo (.retAddr 6 :: st) w kc ks) : z_J G l y S pc lo (.ref a :: st) w kc ks := by
  intro p e s m args below meth c R0 hok R H locs ls cst hat hlo hst
  obtain ⟨c1, cs1, rfl, hv, hst1⟩ := z_Lc hst
  obtain ⟨-, h1⟩ := hv
  subst h1
  obtain ⟨q, hq, hm⟩ := (z_okc hok).2.2.2.2.2.2.2.1
  have hts := hok.2.2.2.2.2.2.1
  have hsz := hlo.choose_spec.1.1
  have h8 : (cs1.map fun v => v.category).sum ≤ 8 := by rw [z_Lcs hst1]; exact hW
  have h40 : 40 ≤ (z_rm S.1 S.2.1 S.2.2.1).locals := by show 40 ≤ 40 * S.1; omega
  obtain ⟨z, z1, -⟩ := (hat.1.1 a _ hg).1
  exact va_getC hok.1 hok.2.1 hsz.symm hok.2.2.2.2.2.1 (hts _ hl) (va_Nw.use (w := Cond.declares ⟨"java/lang/Object", "getClass", "()Ljava/lang/Class;"⟩) rfl (hok.2.2.2.2.2.2.2.1.2.2.1 _ hdc)) (hts _ hs) (hts _ hi) (hts _ hnat) hm ⟨_, z1, rfl, z_RAf (ty := .object "java/lang/Object") (hok.2.2.2.2.2.2.2.1.2.1 3 _ rfl).2⟩ hrk (by omega) hd (h p e s m args below meth c R0 hok R H locs ls (.ref q :: cs1) hat hlo ⟨⟨q, rfl, hq⟩, hst1⟩)
theorem j_acmp_neK {k : Nat} {off : Int} {tgt : Nat} (hd : decode y.2.1 pc = .ok (.if_acmp .ne off, 3)) (ht : (pc : Int) + off = (tgt : Int)) (h : z_J G l y S (pc + 3) lo st w kc ks) : z_J G l y S pc lo (.retAddr k :: .retAddr k :: st) w kc ks := by
  intro p e s m args below meth c R0 hok R H locs ls cst hat hlo hst
  obtain ⟨c1, cs1, rfl, ⟨q1, h1, k1⟩, hst1⟩ := z_Lc hst
  obtain ⟨c2, cs2, rfl, ⟨q2, h2, k2⟩, hst2⟩ := z_Lc hst1
  subst h1 h2
  have e9 := (z_okc hok).1 k q1 q2 k1 k2
  subst e9
  exact lv_acmp_ne (rx := some q1) (ry := some q1) hok.1 hok.2.1 hd ht (fun z => absurd rfl z) (fun _ => h p e s m args below meth c R0 hok R H locs ls _ hat hlo hst2)
theorem j_acmp_eqR {k a : Nat} {off : Int} {tgt : Nat} (hd : decode y.2.1 pc = .ok (.if_acmp .eq off, 3)) (ht : (pc : Int) + off = (tgt : Int)) (h : z_J G l y S (pc + 3) lo st w kc ks) (hk6 : k < 6 ∨ 8 ≤ k := by decide) : z_J G l y S pc lo (.retAddr k :: .ref a :: st) w kc ks := by
  intro p e s m args below meth c R0 hok R H locs ls cst hat hlo hst
  obtain ⟨c1, cs1, rfl, ⟨q1, h1, k1⟩, hst1⟩ := z_Lc hst
  obtain ⟨c2, cs2, rfl, ⟨⟨e9, d2⟩, h2⟩, hst2⟩ := z_Lc hst1
  subst h1 h2
  have hlo9 := (hat.1.1 a e9 d2).2
  have hk9 := (z_okc hok).2.1 k q1 hk6 k1
  exact lv_acmp_eq (rx := some (R.1 a)) (ry := some q1) hok.1 hok.2.1 hd ht (fun z => absurd (Option.some.inj z) (fun z => hk9 (by rw [← z]; exact hlo9))) (fun _ => h p e s m args below meth c R0 hok R H locs ls _ hat hlo hst2)
end ZJ4
