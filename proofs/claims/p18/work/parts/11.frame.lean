section ZF
def z_no : Nat → Option z_E := fun _ => none
def z_rn (th : List Nat) (v : Value) : Value := match v with
  | .ref i => (match th[i]? with
    | some n => .ref n
    | none => .double 0)
  | v => v
def z_re (th : List Nat) (e : z_E) : z_E := match e with
  | .inl x => .inl (x.1, x.2.1, fun j => z_rn th (x.2.2 j))
  | .inr o => .inr (o.1, o.2.map (z_rn th))
def z_ss (w : z_W) : List Nat → List z_E → z_W
  | n :: th, e :: es => z_ss (z_s w n e) th es
  | _, _ => w
theorem z_ss_d : ∀ {th : List Nat} {es : List z_E} {w : z_W}, (∀ k ∈ th, z_d w k) → ∀ n, z_d (z_ss w th es) n ↔ z_d w n
  | [], es, w, _, n => by unfold z_ss; exact Iff.rfl
  | k :: th, [], w, _, n => by unfold z_ss; exact Iff.rfl
  | k :: th, e :: es, w, h, n => by
    obtain ⟨e0, he0⟩ := h k List.mem_cons_self
    unfold z_ss
    rw [z_ss_d (fun k' hk' => (z_ds he0 k').mpr (h k' (List.mem_cons_of_mem _ hk'))) n]
    exact z_ds he0 n
theorem z_ss_ne : ∀ {th : List Nat} {es : List z_E} {w : z_W} {n : Nat}, n ∉ th → z_g (z_ss w th es) n = z_g w n
  | [], es, w, n, _ => by unfold z_ss; rfl
  | k :: th, [], w, n, _ => by unfold z_ss; rfl
  | k :: th, e :: es, w, n, h => by
    unfold z_ss
    rw [z_ss_ne (fun z => h (List.mem_cons_of_mem _ z)), z_gs_ne (fun z => h (by rw [z]; exact List.mem_cons_self))]
theorem z_ss_at : ∀ {th : List Nat} {es : List z_E} {w : z_W} {n i : Nat} {e : z_E}, th.Nodup → (∀ k ∈ th, z_d w k) → th[i]? = some n → es[i]? = some e → z_g (z_ss w th es) n = some e
  | [], es, w, n, i, e, _, _, h1, _ => by simp at h1
  | k :: th, [], w, n, i, e, _, _, _, h2 => by simp at h2
  | k :: th, e0 :: es, w, n, i, e, hnd, hd, h1, h2 => by
    obtain ⟨e1, he1⟩ := hd k List.mem_cons_self
    have hnd' := List.nodup_cons.mp hnd
    unfold z_ss
    cases i with
    | zero =>
      have h1 : k = n := Option.some.inj h1
      have h2 : e0 = e := Option.some.inj h2
      subst h1
      subst h2
      rw [z_ss_ne hnd'.1]
      exact z_gs_self he1
    | succ i =>
      exact z_ss_at hnd'.2 (fun k' hk' => (z_ds he1 k').mpr (hd k' (List.mem_cons_of_mem _ hk'))) h1 h2
theorem z_ndi : ∀ {th : List Nat} {i j n : Nat}, th.Nodup → th[i]? = some n → th[j]? = some n → i = j
  | [], i, j, n, _, h, _ => by simp at h
  | k :: th, 0, 0, n, _, _, _ => rfl
  | k :: th, 0, j + 1, n, hnd, h1, h2 => by
    have h1 : k = n := Option.some.inj h1
    subst h1
    have h3 : k ∈ th := List.mem_of_getElem? (l := th) (i := j) h2
    exact absurd h3 (List.nodup_cons.mp hnd).1
  | k :: th, i + 1, 0, n, hnd, h1, h2 => by
    have h2 : k = n := Option.some.inj h2
    subst h2
    have h3 : k ∈ th := List.mem_of_getElem? (l := th) (i := i) h1
    exact absurd h3 (List.nodup_cons.mp hnd).1
  | k :: th, i + 1, j + 1, n, hnd, h1, h2 => congrArg (· + 1) (z_ndi (List.nodup_cons.mp hnd).2 h1 h2)
theorem z_gL {L : List z_E} {n : Nat} {e : z_E} (h : z_g (L, z_no) n = some e) : L[n]? = some e := by
  cases hb : Nat.blt n 1000 <;> simp only [z_g, hb, cond] at h
  · cases h
  · exact h
theorem z_Lg' {L : List z_E} {n : Nat} {e : z_E} (hl : L.length ≤ 1000) (h : L[n]? = some e) : z_g (L, z_no) n = some e := by
  have hn := (List.getElem?_eq_some_iff.mp h).1
  have hb : Nat.blt n 1000 = true := Nat.ble_eq_true_of_le (by omega)
  simp only [z_g, hb, cond]
  exact h
theorem z_Lmp {P P' : Value → Value → Prop} {f : Value → Value} (hP : ∀ a b, P (f a) b → P' a b) : ∀ {as bs : List Value}, z_L P (as.map f) bs → z_L P' as bs
  | [], [], _ => trivial
  | _ :: _, [], h => h.elim
  | [], _ :: _, h => h.elim
  | a :: as, b :: bs, h => ⟨hP a b h.1, z_Lmp hP (as := as) (bs := bs) h.2⟩
theorem z_Lpm {P P' : Value → Value → Prop} {f : Value → Value} (hP : ∀ a b, P a b → P' (f a) b) : ∀ {as bs : List Value}, z_L P as bs → z_L P' (as.map f) bs
  | [], [], _ => trivial
  | _ :: _, [], h => h.elim
  | [], _ :: _, h => h.elim
  | a :: as, b :: bs, h => ⟨hP a b h.1, z_Lpm hP (as := as) (bs := bs) h.2⟩
def z_CF (G : z_G) (l : Launch) (y : z_M) (rk mc ms : Nat) (L0 : List z_E) (av : List Value) (Q : Option Value → List z_E → Prop) : Prop :=
  z_Con G l y rk mc ms (L0, z_no) av (fun v w => w.2 = z_no ∧ w.1.length = L0.length ∧ Q v w.1) (fun _ _ => False)
set_option maxHeartbeats 4000000 in
theorem z_frame {G : z_G} {l : Launch} {y : z_M} {rk mc ms : Nat} {L0 : List z_E} {av : List Value} {Q : Option Value → List z_E → Prop} {w : z_W} (th : List Nat) (hth : th.map (z_g w) = L0.map (fun e => some (z_re th e))) (hnd : th.Nodup) (hl : L0.length ≤ 1000) (h : z_CF G l y rk mc ms L0 av Q) :
    z_Con G l y rk mc ms w (av.map (z_rn th)) (fun v w' => ∃ (v0 : Option Value) (L' : List z_E), Q v0 L' ∧ v = v0.map (z_rn th) ∧ w' = z_ss w th (L'.map (z_re th))) (fun _ _ => False) := by
  intro R0
  have hM := h ((fun i => R0.1 (th.getD i 0)), R0.2)
  intro p e ha hc hk s m args below hf happ hPc hK
  obtain ⟨⟨cav, rfl, hav⟩, henv, hP, hb⟩ := hPc
  have hlen : th.length = L0.length := by have := congrArg List.length hth; simpa using this
  have hat : ∀ (i : Nat) (e : z_E), L0[i]? = some e → ∃ n, th[i]? = some n ∧ z_g w n = some (z_re th e) := by
    intro i e he
    have h1 : (th.map (z_g w))[i]? = (L0.map (fun e => some (z_re th e)))[i]? := by rw [hth]
    rw [List.getElem?_map, List.getElem?_map, he] at h1
    cases hi : th[i]? with
    | none => rw [hi] at h1; cases h1
    | some n => rw [hi] at h1; exact ⟨n, rfl, Option.some.inj h1⟩
  have hget : ∀ {i n : Nat}, th[i]? = some n → th.getD i 0 = n := by
    intro i n hi
    rw [List.getD_eq_getElem?_getD, hi]
    rfl
  have hdi : ∀ i, z_d (L0, z_no) i → ∃ n, th[i]? = some n ∧ z_d w n := by
    intro i ⟨e, he⟩
    obtain ⟨n, h1, h2⟩ := hat i e (z_gL he)
    exact ⟨n, h1, ⟨_, h2⟩⟩
  have hid : ∀ {i n : Nat}, th[i]? = some n → z_d (L0, z_no) i := by
    intro i n hi
    have h1 : i < L0.length := by rw [← hlen]; exact (List.getElem?_eq_some_iff.mp hi).1
    exact ⟨L0[i], z_Lg' hl (List.getElem?_eq_getElem h1)⟩
  have hbs : ∀ v c, z_V G R0 w (z_rn th v) c → z_V G ((fun i => R0.1 (th.getD i 0)), R0.2) (L0, z_no) v c := by
    intro v c hv
    cases v with
    | int x => exact hv
    | long x => exact hv
    | null => exact hv
    | float b => exact hv
    | retAddr k => exact hv
    | double b => exact hv
    | ref i =>
      cases hi : th[i]? with
      | none => simp only [z_rn, hi] at hv; exact hv.elim
      | some n =>
        simp only [z_rn, hi] at hv
        refine ⟨hid hi, ?_⟩
        show c = .ref (R0.1 (th.getD i 0))
        rw [hget hi]
        exact hv.2
  have hP0 : z_P G ((fun i => R0.1 (th.getD i 0)), R0.2) (L0, z_no) s.heap := by
    refine ⟨fun n e he => ?_, fun a b ha hb hab => ?_, fun q b hq => ⟨(hP.2.2 q b hq).1, fun n hn => ?_⟩⟩
    · obtain ⟨k, h1, h2⟩ := hat n e (z_gL he)
      obtain ⟨h3, h4⟩ := hP.1 k _ h2
      show z_X _ _ _ _ (R0.1 (th.getD n 0)) _ ∧ _ ≤ R0.1 (th.getD n 0)
      rw [hget h1]
      refine ⟨?_, h4⟩
      cases e with
      | inl x =>
        obtain ⟨z, z1, z2⟩ := h3
        exact ⟨z, z1, fun j hj => hbs _ _ (z2 j hj)⟩
      | inr o =>
        obtain ⟨q, gs, x1, x2, x3, x4⟩ := h3
        exact ⟨q, gs, x1, by rw [← x2]; exact (List.length_map _).symm, x3, z_Lmp hbs x4⟩
    · obtain ⟨k1, a1, a2⟩ := hdi a ha
      obtain ⟨k2, b1, b2⟩ := hdi b hb
      have hab : R0.1 (th.getD a 0) = R0.1 (th.getD b 0) := hab
      rw [hget a1, hget b1] at hab
      have := hP.2.1 k1 k2 a2 b2 hab
      subst this
      exact z_ndi hnd a1 b1
    · obtain ⟨k1, a1, a2⟩ := hdi n hn
      show R0.1 (th.getD n 0) ≠ q
      rw [hget a1]
      exact (hP.2.2 q b hq).2 k1 a2
  obtain ⟨nn, o, s1, s2, s3, hQ⟩ := hM p e ha hc hk s m cav.toArray below hf happ ⟨⟨cav, rfl, z_Lmp hbs hav⟩, henv, hP0, hb⟩ hK
  refine ⟨nn, o, s1, s2, s3, ?_⟩
  generalize stepsAlone p.tables e nn s = t at hQ
  rcases hQ with ⟨⟨v, cv, R', w', ho, hO, ⟨hw2, hwl, hq⟩, hP', hT, hF⟩, hfe⟩ | ⟨q, ho, E, ce, L, ⟨R', w', hx, -⟩, -⟩
  · obtain ⟨L', P'⟩ := w'
    have hw2 : P' = z_no := hw2
    subst hw2
    have hwl : L'.length = L0.length := hwl
    have hl' : L'.length ≤ 1000 := by rw [hwl]; exact hl
    have hR : ∀ {i n : Nat}, th[i]? = some n → R'.1 i = R0.1 n := by
      intro i n hi
      rw [(hT.1 i (hid hi)).2]
      show R0.1 (th.getD i 0) = _
      rw [hget hi]
    have hdth : ∀ k ∈ th, z_d w k := by
      intro k hk9
      obtain ⟨i, hi⟩ := List.getElem?_of_mem hk9
      obtain ⟨e9, he9⟩ := hid hi
      obtain ⟨n9, h9, h8⟩ := hat i e9 (z_gL he9)
      rw [hi] at h9
      cases h9
      exact ⟨_, h8⟩
    have hdw : ∀ n, z_d (z_ss w th (L'.map (z_re th))) n ↔ z_d w n := z_ss_d hdth
    have hdL : ∀ i, z_d (L', z_no) i → ∃ n, th[i]? = some n := by
      intro i ⟨e9, he9⟩
      have h1 := (List.getElem?_eq_some_iff.mp (z_gL he9)).1
      exact ⟨_, List.getElem?_eq_getElem (by rw [hlen, ← hwl]; exact h1)⟩
    have hsb : ∀ v c, z_V G R' (L', z_no) v c → z_V G (R0.1, R'.2) (z_ss w th (L'.map (z_re th))) (z_rn th v) c := by
      intro v c hv
      cases v with
      | int x => exact hv
      | long x => exact hv
      | null => exact hv
      | float b => exact hv
      | retAddr k => exact hv
      | double b => exact hv
      | ref i =>
        obtain ⟨h1, h2⟩ := hv
        obtain ⟨n, hi⟩ := hdL i h1
        simp only [z_rn, hi]
        exact ⟨(hdw n).mpr (hdth n (List.mem_of_getElem? hi)), by rw [h2, hR hi]⟩
    have hbb : ∀ v c, z_V G R0 w v c → z_V G (R0.1, R'.2) (z_ss w th (L'.map (z_re th))) v c := by
      intro v c hv
      cases v with
      | int x => exact hv
      | long x => exact hv
      | null => exact hv
      | float b => obtain ⟨q, h1, h2⟩ := hv; exact ⟨q, h1, h2.imp (hT.2.1 q b) id⟩
      | retAddr k => exact hv
      | double b => exact hv
      | ref n => exact ⟨(hdw n).mpr hv.1, hv.2⟩
    have hA : ∀ q, z_A ((fun i => R0.1 (th.getD i 0)), R0.2) (L0, z_no) s.heap.size q → z_A R0 w s.heap.size q := by
      rintro q (⟨i, hi, rfl⟩ | hq9)
      · obtain ⟨n, h1, h2⟩ := hdi i hi
        refine Or.inl ⟨n, h2, ?_⟩
        show R0.1 n = R0.1 (th.getD i 0)
        rw [hget h1]
      · exact Or.inr hq9
    have hold : ∀ n, z_d w n → n ∉ th → t.heap[R0.1 n]? = s.heap[R0.1 n]? := by
      intro n ⟨e9, he9⟩ hn
      refine hF.2 _ (hP.1 n e9 he9).1.lt ?_
      rintro (⟨i, hi, h9⟩ | h9)
      · obtain ⟨k, h1, h2⟩ := hdi i hi
        have h9 : R0.1 (th.getD i 0) = R0.1 n := h9
        rw [hget h1] at h9
        have := hP.2.1 k n h2 ⟨e9, he9⟩ h9
        subst this
        exact hn (List.mem_of_getElem? h1)
      · have := (hP.1 n e9 he9).1.lt
        omega
    refine Or.inl ⟨⟨v.map (z_rn th), cv, (R0.1, R'.2), z_ss w th (L'.map (z_re th)), ho, ?_, ⟨v, L', hq, rfl, rfl⟩, ⟨fun n e9 hn => ?_, fun a b ha hb hab => hP.2.1 a b ((hdw a).mp ha) ((hdw b).mp hb) hab, fun q b hq9 => ⟨(hP'.2.2 q b hq9).1, fun n hn => ?_⟩⟩, ⟨fun n hn => ⟨(hdw n).mpr hn, rfl⟩, hT.2.1, fun n hn hno => absurd ((hdw n).mp hn) hno, hT.2.2.2⟩, hF.1, fun q h1 h2 => hF.2 q h1 (fun z => h2 (hA q z))⟩, hfe⟩
    · cases v with
      | none =>
        cases cv with
        | none => exact trivial
        | some cv => exact hO.elim
      | some v =>
        cases cv with
        | none => exact hO.elim
        | some cv => exact hsb _ _ hO
    · by_cases hn9 : n ∈ th
      · obtain ⟨i, hi⟩ := List.getElem?_of_mem hn9
        have hil : i < L'.length := by rw [hwl, ← hlen]; exact (List.getElem?_eq_some_iff.mp hi).1
        have h1 : z_g (z_ss w th (L'.map (z_re th))) n = some (z_re th L'[i]) := z_ss_at hnd hdth hi (by rw [List.getElem?_map, List.getElem?_eq_getElem hil]; rfl)
        rw [hn] at h1
        have h1 := Option.some.inj h1
        obtain ⟨h3, h4⟩ := hP'.1 i L'[i] (z_Lg' hl' (List.getElem?_eq_getElem hil))
        rw [hR hi] at h3 h4
        refine ⟨?_, h4⟩
        rw [h1]
        generalize L'[i] = e8 at h3
        cases e8 with
        | inl x =>
          obtain ⟨z, z1, z2⟩ := h3
          exact ⟨z, z1, fun j hj => hsb _ _ (z2 j hj)⟩
        | inr o =>
          obtain ⟨q, gs, x1, x2, x3, x4⟩ := h3
          exact ⟨q, gs, x1, by rw [← x2]; exact List.length_map _, x3, z_Lpm hsb x4⟩
      · rw [z_ss_ne hn9] at hn
        exact ⟨(hP.1 n e9 hn).1.kept hbb (hold n ⟨_, hn⟩ hn9), (hP.1 n e9 hn).2⟩
    · have hn2 := (hdw n).mp hn
      by_cases hn9 : n ∈ th
      · obtain ⟨i, hi⟩ := List.getElem?_of_mem hn9
        have h1 := (hP'.2.2 q b hq9).2 i (hT.1 i (hid hi)).1
        rw [hR hi] at h1
        exact h1
      · cases h8 : R0.2 q with
        | none =>
          have h7 := hT.2.2.2 q b hq9 h8
          obtain ⟨e8, he8⟩ := hn2
          have := (hP.1 n e8 he8).1.lt
          show R0.1 n ≠ q
          omega
        | some b8 => exact (hP.2.2 q b8 h8).2 n hn2
  · exact hx.elim
theorem j_w {G : z_G} {l : Launch} {y : z_M} {S : z_S} {pc : Nat} {lo : List (Nat × Value)} {st : List Value} {w : z_W} {kc ks : Nat} (w' : z_W) (e : w = w') (h : z_J G l y S pc lo st w' kc ks) : z_J G l y S pc lo st w kc ks := e ▸ h
theorem z_weak {G : z_G} {l : Launch} {y : z_M} {rk mc ms : Nat} {w : z_W} {av : List Value} {Q Q' : Option Value → z_W → Prop} {X X' : String → z_W → Prop} (h : z_Con G l y rk mc ms w av Q X) (hQ : ∀ v w', Q v w' → Q' v w') (hX : ∀ E w', X E w' → X' E w') : z_Con G l y rk mc ms w av Q' X' := by
  intro R0 p e ha hc hk s m args below hf happ hPc hK
  obtain ⟨nn, o, s1, s2, s3, hq⟩ := h R0 p e ha hc hk s m args below hf happ hPc hK
  refine ⟨nn, o, s1, s2, s3, ?_⟩
  rcases hq with ⟨⟨v, cv, R', w', ho, hO, hq, r⟩, hfe⟩ | ⟨q, ho, E, ce, L, ⟨R', w', hx, r⟩, r2⟩
  · exact Or.inl ⟨⟨v, cv, R', w', ho, hO, hQ _ _ hq, r⟩, hfe⟩
  · exact Or.inr ⟨q, ho, E, ce, L, ⟨R', w', hX _ _ hx, r⟩, r2⟩
def zq_pk (e : z_E) (i : Nat) : List Nat → List z_E → z_E
  | n :: th, x :: es => cond (Nat.beq i n) x (zq_pk e i th es)
  | _, _ => e
def zq_up (th : List Nat) (es : List z_E) : Nat → List z_E → List z_E
  | _, [] => []
  | i, e :: L => zq_pk e i th es :: zq_up th es (i + 1) L
theorem zq_pk_nil {e : z_E} {i : Nat} {es : List z_E} : zq_pk e i [] es = e := by cases es <;> rfl
theorem zq_pk_ne {e : z_E} {i : Nat} : ∀ {th : List Nat} {es : List z_E}, i ∉ th → zq_pk e i th es = e
  | [], es, _ => zq_pk_nil
  | n :: th, [], _ => rfl
  | n :: th, x :: es, h => by
    have h1 : Nat.beq i n = false := z_beq (fun z => h (by rw [z]; exact List.mem_cons_self))
    show cond (Nat.beq i n) x (zq_pk e i th es) = e
    rw [h1]
    exact zq_pk_ne (fun z => h (List.mem_cons_of_mem _ z))
theorem zq_up_nil {es : List z_E} : ∀ {L : List z_E} {i : Nat}, zq_up [] es i L = L
  | [], _ => rfl
  | e :: L, i => by
    show zq_pk e i [] es :: zq_up [] es (i + 1) L = _
    rw [zq_pk_nil, zq_up_nil]
theorem zq_up_nil2 {n : Nat} {th : List Nat} : ∀ {L : List z_E} {i : Nat}, zq_up (n :: th) [] i L = L
  | [], _ => rfl
  | e :: L, i => by
    show e :: zq_up (n :: th) [] (i + 1) L = _
    rw [zq_up_nil2]
theorem zq_up_lt {th : List Nat} {es : List z_E} {n : Nat} {x : z_E} : ∀ {L : List z_E} {i : Nat}, n < i → zq_up (n :: th) (x :: es) i L = zq_up th es i L
  | [], _, _ => rfl
  | e :: L, i, h => by
    have h1 : Nat.beq i n = false := z_beq (by omega)
    have h2 := zq_up_lt (th := th) (es := es) (n := n) (x := x) (L := L) (i := i + 1) (by omega)
    show cond (Nat.beq i n) x (zq_pk e i th es) :: zq_up (n :: th) (x :: es) (i + 1) L = zq_pk e i th es :: zq_up th es (i + 1) L
    rw [h1, h2] <;> rfl
theorem zq_up_set {th : List Nat} {es : List z_E} {x : z_E} : ∀ {L : List z_E} {k i : Nat}, i + k ∉ th → zq_up th es i (L.set k x) = zq_up ((i + k) :: th) (x :: es) i L
  | [], k, i, _ => by cases k <;> rfl
  | e :: L, 0, i, h => by
    have h2 : zq_pk x i th es = x := zq_pk_ne h
    have h3 := zq_up_lt (th := th) (es := es) (n := i) (x := x) (L := L) (i := i + 1) (by omega)
    show zq_pk x i th es :: zq_up th es (i + 1) L = cond (Nat.beq i i) x (zq_pk e i th es) :: zq_up (i :: th) (x :: es) (i + 1) L
    rw [h2, h3, Nat.beq_refl] <;> rfl
  | e :: L, k + 1, i, h => by
    have h1 : Nat.beq i (i + (k + 1)) = false := z_beq (by omega)
    have e1 : i + 1 + k = i + (k + 1) := by omega
    have h3 := zq_up_set (th := th) (es := es) (x := x) (L := L) (k := k) (i := i + 1) (by rw [e1]; exact h)
    rw [e1] at h3
    show zq_pk e i th es :: zq_up th es (i + 1) (L.set k x) = cond (Nat.beq i (i + (k + 1))) x (zq_pk e i th es) :: zq_up ((i + (k + 1)) :: th) (x :: es) (i + 1) L
    rw [h1, h3] <;> rfl
theorem zq_ss {P : Nat → Option z_E} : ∀ {th : List Nat} {es : List z_E} {L : List z_E}, th.Nodup → (th.all fun n => Nat.blt n 1000) = true → z_ss (L, P) th es = (zq_up th es 0 L, P)
  | [], es, L, _, _ => by
    have h : z_ss (L, P) [] es = (L, P) := by unfold z_ss; rfl
    rw [h, zq_up_nil]
  | n :: th, [], L, _, _ => by
    have h : z_ss (L, P) (n :: th) [] = (L, P) := by unfold z_ss; rfl
    rw [h, zq_up_nil2]
  | n :: th, x :: es, L, hnd, hlt => by
    have h := List.nodup_cons.mp hnd
    rw [List.all_cons, Bool.and_eq_true] at hlt
    have hb : Nat.blt n 1000 = true := hlt.1
    have h1 : z_s (L, P) n x = (L.set n x, P) := by
      show cond (Nat.blt n 1000) (L.set n x, P) _ = _
      rw [hb] <;> rfl
    have h2 := zq_up_set (th := th) (es := es) (x := x) (L := L) (k := n) (i := 0) (by rw [Nat.zero_add]; exact h.1)
    rw [Nat.zero_add] at h2
    show z_ss (z_s (L, P) n x) th es = _
    rw [h1, zq_ss h.2 hlt.2, h2]
theorem j_ws {G : z_G} {l : Launch} {y : z_M} {S : z_S} {pc : Nat} {lo : List (Nat × Value)} {st : List Value} {kc ks : Nat} {L L' : List z_E} {P : Nat → Option z_E} {th : List Nat} {es : List z_E} (hnd : th.Nodup) (hlt : (th.all fun n => Nat.blt n 1000) = true) (e : zq_up th es 0 L = L') (h : z_J G l y S pc lo st (L', P) kc ks) : z_J G l y S pc lo st (z_ss (L, P) th es) kc ks := by
  rw [zq_ss hnd hlt, e]
  exact h
end ZF
