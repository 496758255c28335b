section ZFN
def z_CN (G : z_G) (l : Launch) (y : z_M) (rk mc ms nm : Nat) (L0 : List z_E) (av : List Value) (Q : Option Value → List z_E → Prop) : Prop :=
  z_Con G l y rk mc ms (L0, z_no) av (fun v w => w.2 = z_no ∧ w.1.length ≤ L0.length + nm ∧ Q v w.1) (fun _ _ => False)
def z_thN (th : List Nat) (n k : Nat) : List Nat := th ++ (List.range k).map (fun j => n + j)
def z_wN (w : z_W) (th : List Nat) (L' : List z_E) (k0 : Nat) : z_W :=
  let th' := z_thN th w.1.length (L'.length - k0)
  let w2 := z_ss w th ((L'.take k0).map (z_re th'))
  (w2.1 ++ (L'.drop k0).map (z_re th'), w2.2)
theorem z_ss_len : ∀ {th : List Nat} {es : List z_E} {w : z_W}, (z_ss w th es).1.length = w.1.length
  | [], es, w => by unfold z_ss; rfl
  | k :: th, [], w => by unfold z_ss; rfl
  | k :: th, e :: es, w => by
    unfold z_ss
    rw [z_ss_len]
    cases hb : Nat.blt k 1000 <;> simp only [z_s, hb, cond]
    exact List.length_set
theorem z_blt {n : Nat} (h : n < 1000) : Nat.blt n 1000 = true := Nat.ble_eq_true_of_le (by omega)
theorem z_bltF {n : Nat} (h : 1000 ≤ n) : Nat.blt n 1000 = false := by
  cases hb : Nat.blt n 1000 with
  | false => rfl
  | true => exact absurd (Nat.le_of_ble_eq_true hb) (by omega)
theorem z_gap {w : z_W} {X : List z_E} {n : Nat} (h : n < w.1.length ∨ 1000 ≤ n) : z_g (w.1 ++ X, w.2) n = z_g w n := by
  by_cases hn : n < 1000
  · simp only [z_g, z_blt hn, cond]
    rcases h with h | h
    · exact List.getElem?_append_left h
    · omega
  · simp only [z_g, z_bltF (Nat.not_lt.mp hn), cond]
theorem z_gap2 {w : z_W} {X : List z_E} {n : Nat} (h : w.1.length ≤ n) (hn : n < 1000) : z_g (w.1 ++ X, w.2) n = X[n - w.1.length]? := by
  simp only [z_g, z_blt hn, cond]
  exact List.getElem?_append_right h
set_option maxHeartbeats 8000000 in
theorem z_frameN {G : z_G} {l : Launch} {y : z_M} {rk mc ms nm : Nat} {L0 : List z_E} {av : List Value} {Q : Option Value → List z_E → Prop} {w : z_W} (th : List Nat) (hth : th.map (z_g w) = L0.map (fun e => some (z_re th e))) (hnd : th.Nodup) (hl : L0.length + nm ≤ 1000) (hw : w.1.length + nm ≤ 1000) (h : z_CN G l y rk mc ms nm L0 av Q) :
    z_Con G l y rk mc ms w (av.map (z_rn th)) (fun v w' => ∃ (v0 : Option Value) (L' : List z_E), Q v0 L' ∧ v = v0.map (z_rn (z_thN th w.1.length (L'.length - L0.length))) ∧ w' = z_wN w th L' L0.length) (fun _ _ => False) := by
  intro R0
  have hM := h ((fun i => R0.1 (th.getD i 0)), R0.2)
  intro p e ha hc hk s m args below hf happ hPc hK
  obtain ⟨⟨cav, rfl, hav⟩, henv, hP, hb⟩ := hPc
  have hlen : th.length = L0.length := by have := congrArg List.length hth; simpa using this
  have hl1 : L0.length ≤ 1000 := by omega
  have hat : ∀ (i : Nat) (e : z_E), L0[i]? = some e → ∃ n, th[i]? = some n ∧ z_g w n = some (z_re th e) := by
    intro i e he
    have h1 : (th.map (z_g w))[i]? = (L0.map (fun e => some (z_re th e)))[i]? := by rw [hth]
    rw [List.getElem?_map, List.getElem?_map, he] at h1
    cases hi : th[i]? with
    | none => rw [hi] at h1; cases h1
    | some n => rw [hi] at h1; exact ⟨n, rfl, Option.some.inj h1⟩
  have hget : ∀ {i n : Nat}, th[i]? = some n → th.getD i 0 = n := by
    intro i n hi
    rw [List.getD_eq_getElem?_getD, hi]
    rfl
  have hdi : ∀ i, z_d (L0, z_no) i → ∃ n, th[i]? = some n ∧ z_d w n := by
    intro i ⟨e, he⟩
    obtain ⟨n, h1, h2⟩ := hat i e (z_gL he)
    exact ⟨n, h1, ⟨_, h2⟩⟩
  have hid : ∀ {i n : Nat}, th[i]? = some n → z_d (L0, z_no) i := by
    intro i n hi
    have h1 : i < L0.length := by rw [← hlen]; exact (List.getElem?_eq_some_iff.mp hi).1
    exact ⟨L0[i], z_Lg' hl1 (List.getElem?_eq_getElem h1)⟩
  have hbs : ∀ v c, z_V G R0 w (z_rn th v) c → z_V G ((fun i => R0.1 (th.getD i 0)), R0.2) (L0, z_no) v c := by
    intro v c hv
    cases v with
    | int x => exact hv
    | long x => exact hv
    | null => exact hv
    | float b => exact hv
    | retAddr k => exact hv
    | double b => exact hv
    | ref i =>
      cases hi : th[i]? with
      | none => simp only [z_rn, hi] at hv; exact hv.elim
      | some n =>
        simp only [z_rn, hi] at hv
        refine ⟨hid hi, ?_⟩
        show c = .ref (R0.1 (th.getD i 0))
        rw [hget hi]
        exact hv.2
  have hP0 : z_P G ((fun i => R0.1 (th.getD i 0)), R0.2) (L0, z_no) s.heap := by
    refine ⟨fun n e he => ?_, fun a b ha hb hab => ?_, fun q b hq => ⟨(hP.2.2 q b hq).1, fun n hn => ?_⟩⟩
    · obtain ⟨k, h1, h2⟩ := hat n e (z_gL he)
      obtain ⟨h3, h4⟩ := hP.1 k _ h2
      show z_X _ _ _ _ (R0.1 (th.getD n 0)) _ ∧ _ ≤ R0.1 (th.getD n 0)
      rw [hget h1]
      refine ⟨?_, h4⟩
      cases e with
      | inl x =>
        obtain ⟨z, z1, z2⟩ := h3
        exact ⟨z, z1, fun j hj => hbs _ _ (z2 j hj)⟩
      | inr o =>
        obtain ⟨q, gs, x1, x2, x3, x4⟩ := h3
        exact ⟨q, gs, x1, by rw [← x2]; exact (List.length_map _).symm, x3, z_Lmp hbs x4⟩
    · obtain ⟨k1, a1, a2⟩ := hdi a ha
      obtain ⟨k2, b1, b2⟩ := hdi b hb
      have hab : R0.1 (th.getD a 0) = R0.1 (th.getD b 0) := hab
      rw [hget a1, hget b1] at hab
      have := hP.2.1 k1 k2 a2 b2 hab
      subst this
      exact z_ndi hnd a1 b1
    · obtain ⟨k1, a1, a2⟩ := hdi n hn
      show R0.1 (th.getD n 0) ≠ q
      rw [hget a1]
      exact (hP.2.2 q b hq).2 k1 a2
  obtain ⟨nn, o, s1, s2, s3, hQ⟩ := hM p e ha hc hk s m cav.toArray below hf happ ⟨⟨cav, rfl, z_Lmp hbs hav⟩, henv, hP0, hb⟩ hK
  refine ⟨nn, o, s1, s2, s3, ?_⟩
  generalize stepsAlone p.tables e nn s = t at hQ
  rcases hQ with ⟨⟨v, cv, R', w', ho, hO, ⟨hw2, hwl, hq⟩, hP', hT, hF⟩, hfe⟩ | ⟨q, ho, E, ce, L, ⟨R', w', hx, -⟩, -⟩
  · obtain ⟨L', P'⟩ := w'
    have hw2 : P' = z_no := hw2
    subst hw2
    have hwl : L'.length ≤ L0.length + nm := hwl
    have hl' : L'.length ≤ 1000 := by omega
    have hge : L0.length ≤ L'.length := by
      rcases Nat.lt_or_ge L'.length L0.length with z | z
      · have h1 : z_d (L0, z_no) L'.length := ⟨_, z_Lg' hl1 (List.getElem?_eq_getElem z)⟩
        obtain ⟨e9, he9⟩ := (hT.1 _ h1).1
        have := (List.getElem?_eq_some_iff.mp (z_gL he9)).1
        omega
      · exact z
    generalize hK0 : L'.length - L0.length = kk
    generalize hTH : z_thN th w.1.length kk = th'
    have hwN : z_wN w th L' L0.length = ((z_ss w th ((L'.take L0.length).map (z_re th'))).1 ++ (L'.drop L0.length).map (z_re th'), (z_ss w th ((L'.take L0.length).map (z_re th'))).2) := by
      unfold z_wN
      rw [hK0, hTH]
    generalize hW2 : z_ss w th ((L'.take L0.length).map (z_re th')) = w2 at hwN
    have hR : ∀ {i n : Nat}, th[i]? = some n → R'.1 i = R0.1 n := by
      intro i n hi
      rw [(hT.1 i (hid hi)).2]
      show R0.1 (th.getD i 0) = _
      rw [hget hi]
    have hdth : ∀ k ∈ th, z_d w k := by
      intro k hk9
      obtain ⟨i, hi⟩ := List.getElem?_of_mem hk9
      obtain ⟨e9, he9⟩ := hid hi
      obtain ⟨n9, h9, h8⟩ := hat i e9 (z_gL he9)
      rw [hi] at h9
      cases h9
      exact ⟨_, h8⟩
    have hl2 : w2.1.length = w.1.length := by rw [← hW2]; exact z_ss_len
    have hdw2 : ∀ n, z_d w2 n ↔ z_d w n := by rw [← hW2]; exact z_ss_d hdth
    -- names: old ones, and the added
    have hold9 : ∀ {n : Nat}, z_d w n → n < w.1.length ∨ 1000 ≤ n := by
      intro n ⟨e9, he9⟩
      by_cases hn : n < 1000
      · simp only [z_g, z_blt hn, cond] at he9
        exact Or.inl (List.getElem?_eq_some_iff.mp he9).1
      · exact Or.inr (Nat.not_lt.mp hn)
    have hgO : ∀ {n : Nat}, (n < w.1.length ∨ 1000 ≤ n) → z_g (z_wN w th L' L0.length) n = z_g w2 n := by
      intro n hn
      rw [hwN]
      exact z_gap (by rw [hl2]; exact hn)
    have hgN : ∀ {j : Nat}, j < kk → z_g (z_wN w th L' L0.length) (w.1.length + j) = (L'[L0.length + j]?).map (z_re th') := by
      intro j hj
      rw [hwN, z_gap2 (by rw [hl2]; omega) (by omega), hl2, List.getElem?_map, List.getElem?_drop]
      congr 2
      omega
    have hdO : ∀ {n : Nat}, z_d w n → z_d (z_wN w th L' L0.length) n := by
      intro n hn
      obtain ⟨e9, he9⟩ := (hdw2 n).mpr hn
      exact ⟨e9, by rw [hgO (hold9 hn)]; exact he9⟩
    have hdN : ∀ {n : Nat}, z_d (z_wN w th L' L0.length) n → z_d w n ∨ ∃ j, j < kk ∧ n = w.1.length + j := by
      intro n ⟨e9, he9⟩
      by_cases h1 : n < w.1.length ∨ 1000 ≤ n
      · rw [hgO h1] at he9
        exact Or.inl ((hdw2 n).mp ⟨e9, he9⟩)
      · have h2 : n < 1000 := by omega
        rw [hwN, z_gap2 (by rw [hl2]; omega) h2, hl2, List.getElem?_map, List.getElem?_drop] at he9
        cases h3 : L'[L0.length + (n - w.1.length)]? with
        | none => rw [h3] at he9; cases he9
        | some e8 =>
          have h4 := (List.getElem?_eq_some_iff.mp h3).1
          exact Or.inr ⟨n - w.1.length, by omega, by omega⟩
    have hthO : ∀ {i n : Nat}, th[i]? = some n → th'[i]? = some n := by
      intro i n hi
      rw [← hTH]
      unfold z_thN
      rw [List.getElem?_append_left (List.getElem?_eq_some_iff.mp hi).1]
      exact hi
    have hthN : ∀ {j : Nat}, j < kk → th'[L0.length + j]? = some (w.1.length + j) := by
      intro j hj
      rw [← hTH]
      unfold z_thN
      rw [List.getElem?_append_right (by omega), List.getElem?_map, List.getElem?_range (by omega)]
      show some (w.1.length + (L0.length + j - th.length)) = _
      rw [hlen]
      congr 2
      omega
    -- the later addresses
    generalize hRR : ((fun n => if n < w.1.length ∨ 1000 ≤ n then R0.1 n else R'.1 (L0.length + (n - w.1.length)), R'.2) : z_R) = RR
    have hRO : ∀ {n : Nat}, z_d w n → RR.1 n = R0.1 n := by
      intro n hn
      rw [← hRR]
      show (if n < w.1.length ∨ 1000 ≤ n then R0.1 n else _) = _
      rw [if_pos (hold9 hn)]
    have hRN : ∀ {j : Nat}, j < kk → RR.1 (w.1.length + j) = R'.1 (L0.length + j) := by
      intro j hj
      rw [← hRR]
      show (if w.1.length + j < w.1.length ∨ 1000 ≤ w.1.length + j then _ else R'.1 (L0.length + (w.1.length + j - w.1.length))) = _
      rw [if_neg (by omega), Nat.add_sub_cancel_left]
    have hR2 : RR.2 = R'.2 := by rw [← hRR]
    have hdL : ∀ i, z_d (L', z_no) i → (∃ n, th[i]? = some n) ∨ ∃ j, j < kk ∧ i = L0.length + j := by
      intro i ⟨e9, he9⟩
      have h1 := (List.getElem?_eq_some_iff.mp (z_gL he9)).1
      by_cases h2 : i < L0.length
      · exact Or.inl ⟨_, List.getElem?_eq_getElem (by rw [hlen]; exact h2)⟩
      · exact Or.inr ⟨i - L0.length, by omega, by omega⟩
    have hdNn : ∀ {j : Nat}, j < kk → z_d (L', z_no) (L0.length + j) := fun {j} hj => ⟨_, z_Lg' hl' (List.getElem?_eq_getElem (by omega))⟩
    have hdNw : ∀ {j : Nat}, j < kk → z_d (z_wN w th L' L0.length) (w.1.length + j) := by
      intro j hj
      have h1 := hgN hj
      rw [List.getElem?_eq_getElem (by omega)] at h1
      exact ⟨_, h1⟩
    have hsb : ∀ v c, z_V G R' (L', z_no) v c → z_V G RR (z_wN w th L' L0.length) (z_rn th' v) c := by
      intro v c hv
      cases v with
      | int x => exact hv
      | long x => exact hv
      | null => exact hv
      | float b => obtain ⟨q, h1, h2⟩ := hv; exact ⟨q, h1, by rw [hR2]; exact h2⟩
      | retAddr k => exact hv
      | double b => exact hv
      | ref i =>
        obtain ⟨h1, h2⟩ := hv
        rcases hdL i h1 with ⟨n, hi⟩ | ⟨j, hj, rfl⟩
        · simp only [z_rn, hthO hi]
          have hn := hdth n (List.mem_of_getElem? hi)
          exact ⟨hdO hn, by rw [h2, hR hi, hRO hn]⟩
        · simp only [z_rn, hthN hj]
          exact ⟨hdNw hj, by rw [h2, hRN hj]⟩
    have hbb : ∀ v c, z_V G R0 w v c → z_V G RR (z_wN w th L' L0.length) v c := by
      intro v c hv
      cases v with
      | int x => exact hv
      | long x => exact hv
      | null => exact hv
      | float b => obtain ⟨q, h1, h2⟩ := hv; exact ⟨q, h1, by rw [hR2]; exact h2.imp (hT.2.1 q b) id⟩
      | retAddr k => exact hv
      | double b => exact hv
      | ref n => exact ⟨hdO hv.1, by rw [hRO hv.1]; exact hv.2⟩
    have hnew : ∀ {j : Nat}, j < kk → s.heap.size ≤ R'.1 (L0.length + j) := by
      intro j hj
      refine hT.2.2.1 _ (hdNn hj) ?_
      rintro ⟨e9, he9⟩
      have := (List.getElem?_eq_some_iff.mp (z_gL he9)).1
      omega
    have hA : ∀ q, z_A ((fun i => R0.1 (th.getD i 0)), R0.2) (L0, z_no) s.heap.size q → z_A R0 w s.heap.size q := by
      rintro q (⟨i, hi, rfl⟩ | hq9)
      · obtain ⟨n, h1, h2⟩ := hdi i hi
        refine Or.inl ⟨n, h2, ?_⟩
        show R0.1 n = R0.1 (th.getD i 0)
        rw [hget h1]
      · exact Or.inr hq9
    have hold : ∀ n, z_d w n → n ∉ th → t.heap[R0.1 n]? = s.heap[R0.1 n]? := by
      intro n ⟨e9, he9⟩ hn
      refine hF.2 _ (hP.1 n e9 he9).1.lt ?_
      rintro (⟨i, hi, h9⟩ | h9)
      · obtain ⟨k, h1, h2⟩ := hdi i hi
        have h9 : R0.1 (th.getD i 0) = R0.1 n := h9
        rw [hget h1] at h9
        have := hP.2.1 k n h2 ⟨e9, he9⟩ h9
        subst this
        exact hn (List.mem_of_getElem? h1)
      · have := (hP.1 n e9 he9).1.lt
        omega
    have hltO : ∀ {n : Nat}, z_d w n → R0.1 n < s.heap.size := fun {n} ⟨e9, he9⟩ => (hP.1 n e9 he9).1.lt
    have hcell : ∀ {i : Nat} {e8 : z_E} {a : Nat}, z_X G R' (L', z_no) e8 a t.heap → z_X G RR (z_wN w th L' L0.length) (z_re th' e8) a t.heap := by
      intro i e8 a h3
      cases e8 with
      | inl x =>
        obtain ⟨z, z1, z2⟩ := h3
        exact ⟨z, z1, fun j hj => hsb _ _ (z2 j hj)⟩
      | inr o =>
        obtain ⟨q, gs, x1, x2, x3, x4⟩ := h3
        exact ⟨q, gs, x1, by rw [← x2]; exact List.length_map _, x3, z_Lpm hsb x4⟩
    refine Or.inl ⟨⟨v.map (z_rn th'), cv, RR, z_wN w th L' L0.length, ho, ?_, ⟨v, L', hq, by rw [hK0, hTH], rfl⟩, ⟨fun n e9 hn => ?_, fun a b ha hb hab => ?_, fun q b hq9 => ?_⟩, ⟨fun n hn => ⟨hdO hn, hRO hn⟩, fun q b hq9 => by rw [hR2]; exact hT.2.1 q b hq9, fun n hn hno => ?_, fun q b hq9 => by rw [hR2] at hq9; exact hT.2.2.2 q b hq9⟩, hF.1, fun q h1 h2 => hF.2 q h1 (fun z => h2 (hA q z))⟩, hfe⟩
    · cases v with
      | none =>
        cases cv with
        | none => exact trivial
        | some cv => exact hO.elim
      | some v =>
        cases cv with
        | none => exact hO.elim
        | some cv => exact hsb _ _ hO
    · rcases hdN ⟨e9, hn⟩ with hn1 | ⟨j, hj, rfl⟩
      · rw [hRO hn1]
        rw [hgO (hold9 hn1)] at hn
        by_cases hn9 : n ∈ th
        · obtain ⟨i, hi⟩ := List.getElem?_of_mem hn9
          have hil0 : i < L0.length := by rw [← hlen]; exact (List.getElem?_eq_some_iff.mp hi).1
          have hil : i < L'.length := by omega
          have h1 : z_g (z_ss w th ((L'.take L0.length).map (z_re th'))) n = some (z_re th' L'[i]) := z_ss_at hnd hdth hi (by rw [List.getElem?_map, List.getElem?_take, if_pos hil0, List.getElem?_eq_getElem hil]; rfl)
          rw [hW2, hn] at h1
          have h1 := Option.some.inj h1
          obtain ⟨h3, h4⟩ := hP'.1 i L'[i] (z_Lg' hl' (List.getElem?_eq_getElem hil))
          rw [hR hi] at h3 h4
          refine ⟨?_, h4⟩
          rw [h1]
          exact hcell (i := i) h3
        · rw [← hW2, z_ss_ne hn9] at hn
          exact ⟨(hP.1 n e9 hn).1.kept hbb (hold n hn1 hn9), (hP.1 n e9 hn).2⟩
      · rw [hRN hj]
        rw [hgN hj, List.getElem?_eq_getElem (by omega)] at hn
        have h1 := Option.some.inj hn
        obtain ⟨h3, h4⟩ := hP'.1 (L0.length + j) _ (z_Lg' hl' (List.getElem?_eq_getElem (by omega)))
        refine ⟨?_, h4⟩
        rw [← h1]
        exact hcell (i := 0) h3
    · rcases hdN ha with h1 | ⟨i, hi, rfl⟩ <;> rcases hdN hb with h2 | ⟨j, hj, rfl⟩
      · rw [hRO h1, hRO h2] at hab
        exact hP.2.1 a b h1 h2 hab
      · rw [hRO h1, hRN hj] at hab
        have := hltO h1
        have := hnew hj
        omega
      · rw [hRN hi, hRO h2] at hab
        have := hltO h2
        have := hnew hi
        omega
      · rw [hRN hi, hRN hj] at hab
        have := hP'.2.1 _ _ (hdNn hi) (hdNn hj) hab
        omega
    · rw [hR2] at hq9
      refine ⟨(hP'.2.2 q b hq9).1, fun n hn => ?_⟩
      rcases hdN hn with hn2 | ⟨j, hj, rfl⟩
      · rw [hRO hn2]
        by_cases hn9 : n ∈ th
        · obtain ⟨i, hi⟩ := List.getElem?_of_mem hn9
          have h1 := (hP'.2.2 q b hq9).2 i (hT.1 i (hid hi)).1
          rw [hR hi] at h1
          exact h1
        · cases h8 : R0.2 q with
          | none =>
            have h7 := hT.2.2.2 q b hq9 h8
            have := hltO hn2
            omega
          | some b8 => exact (hP.2.2 q b8 h8).2 n hn2
      · rw [hRN hj]
        exact (hP'.2.2 q b hq9).2 _ (hdNn hj)
    · rcases hdN hn with hn2 | ⟨j, hj, rfl⟩
      · exact absurd hn2 hno
      · rw [hRN hj]
        exact hnew hj
  · exact hx.elim
abbrev z_SN (rk mc ms nm : Nat) (L0 : List z_E) (Q : Option Value → List z_E → Prop) : z_S := (rk, mc, ms, (L0, z_no), (fun v w => w.2 = z_no ∧ w.1.length ≤ L0.length + nm ∧ Q v w.1), fun _ _ => False)
end ZFN
