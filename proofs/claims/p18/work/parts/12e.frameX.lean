section ZFX
def z_CX (G : z_G) (l : Launch) (y : z_M) (rk mc ms : Nat) (L0 : List z_E) (av : List Value) (Q : Option Value → List z_E → Prop) (X : String → List z_E → Prop) : Prop :=
  z_Con G l y rk mc ms (L0, z_no) av (fun v w => w.2 = z_no ∧ w.1.length = L0.length ∧ Q v w.1) (fun E w => w.2 = z_no ∧ w.1.length = L0.length ∧ X E w.1)
set_option maxHeartbeats 4000000 in
theorem z_frameX {G : z_G} {l : Launch} {y : z_M} {rk mc ms : Nat} {L0 : List z_E} {av : List Value} {Q : Option Value → List z_E → Prop} {X : String → List z_E → Prop} {w : z_W} (th : List Nat) (hth : th.map (z_g w) = L0.map (fun e => some (z_re th e))) (hnd : th.Nodup) (hl : L0.length ≤ 1000) (h : z_CX G l y rk mc ms L0 av Q X) :
    z_Con G l y rk mc ms w (av.map (z_rn th)) (fun v w' => ∃ (v0 : Option Value) (L' : List z_E), Q v0 L' ∧ v = v0.map (z_rn th) ∧ w' = z_ss w th (L'.map (z_re th))) (fun E w' => ∃ L' : List z_E, X E L' ∧ w' = z_ss w th (L'.map (z_re th))) := by
  intro R0
  have hM := h ((fun i => R0.1 (th.getD i 0)), R0.2)
  intro p e ha hc hk s m args below hf happ hPc hK
  obtain ⟨⟨cav, rfl, hav⟩, henv, hP, hb⟩ := hPc
  have hlen : th.length = L0.length := by have := congrArg List.length hth; simpa using this
  have hat : ∀ (i : Nat) (e : z_E), L0[i]? = some e → ∃ n, th[i]? = some n ∧ z_g w n = some (z_re th e) := by
    intro i e he
    have h1 : (th.map (z_g w))[i]? = (L0.map (fun e => some (z_re th e)))[i]? := by rw [hth]
    rw [List.getElem?_map, List.getElem?_map, he] at h1
    cases hi : th[i]? with
    | none => rw [hi] at h1; cases h1
    | some n => rw [hi] at h1; exact ⟨n, rfl, Option.some.inj h1⟩
  have hget : ∀ {i n : Nat}, th[i]? = some n → th.getD i 0 = n := by
    intro i n hi
    rw [List.getD_eq_getElem?_getD, hi]
    rfl
  have hdi : ∀ i, z_d (L0, z_no) i → ∃ n, th[i]? = some n ∧ z_d w n := by
    intro i ⟨e, he⟩
    obtain ⟨n, h1, h2⟩ := hat i e (z_gL he)
    exact ⟨n, h1, ⟨_, h2⟩⟩
  have hid : ∀ {i n : Nat}, th[i]? = some n → z_d (L0, z_no) i := by
    intro i n hi
    have h1 : i < L0.length := by rw [← hlen]; exact (List.getElem?_eq_some_iff.mp hi).1
    exact ⟨L0[i], z_Lg' hl (List.getElem?_eq_getElem h1)⟩
  have hbs : ∀ v c, z_V G R0 w (z_rn th v) c → z_V G ((fun i => R0.1 (th.getD i 0)), R0.2) (L0, z_no) v c := by
    intro v c hv
    cases v with
    | int x => exact hv
    | long x => exact hv
    | null => exact hv
    | float b => exact hv
    | retAddr k => exact hv
    | double b => exact hv
    | ref i =>
      cases hi : th[i]? with
      | none => simp only [z_rn, hi] at hv; exact hv.elim
      | some n =>
        simp only [z_rn, hi] at hv
        refine ⟨hid hi, ?_⟩
        show c = .ref (R0.1 (th.getD i 0))
        rw [hget hi]
        exact hv.2
  have hP0 : z_P G ((fun i => R0.1 (th.getD i 0)), R0.2) (L0, z_no) s.heap := by
    refine ⟨fun n e he => ?_, fun a b ha hb hab => ?_, fun q b hq => ⟨(hP.2.2 q b hq).1, fun n hn => ?_⟩⟩
    · obtain ⟨k, h1, h2⟩ := hat n e (z_gL he)
      obtain ⟨h3, h4⟩ := hP.1 k _ h2
      show z_X _ _ _ _ (R0.1 (th.getD n 0)) _ ∧ _ ≤ R0.1 (th.getD n 0)
      rw [hget h1]
      refine ⟨?_, h4⟩
      cases e with
      | inl x =>
        obtain ⟨z, z1, z2⟩ := h3
        exact ⟨z, z1, fun j hj => hbs _ _ (z2 j hj)⟩
      | inr o =>
        obtain ⟨q, gs, x1, x2, x3, x4⟩ := h3
        exact ⟨q, gs, x1, by rw [← x2]; exact (List.length_map _).symm, x3, z_Lmp hbs x4⟩
    · obtain ⟨k1, a1, a2⟩ := hdi a ha
      obtain ⟨k2, b1, b2⟩ := hdi b hb
      have hab : R0.1 (th.getD a 0) = R0.1 (th.getD b 0) := hab
      rw [hget a1, hget b1] at hab
      have := hP.2.1 k1 k2 a2 b2 hab
      subst this
      exact z_ndi hnd a1 b1
    · obtain ⟨k1, a1, a2⟩ := hdi n hn
      show R0.1 (th.getD n 0) ≠ q
      rw [hget a1]
      exact (hP.2.2 q b hq).2 k1 a2
  obtain ⟨nn, o, s1, s2, s3, hQ⟩ := hM p e ha hc hk s m cav.toArray below hf happ ⟨⟨cav, rfl, z_Lmp hbs hav⟩, henv, hP0, hb⟩ hK
  refine ⟨nn, o, s1, s2, s3, ?_⟩
  generalize stepsAlone p.tables e nn s = t at hQ
  have key : ∀ (R' : z_R) (L' : List z_E) (P' : Nat → Option z_E), P' = z_no → L'.length = L0.length → z_P G R' (L', P') t.heap → z_T ((fun i => R0.1 (th.getD i 0)), R0.2) (L0, z_no) s.heap.size R' (L', P') → va_F (z_A ((fun i => R0.1 (th.getD i 0)), R0.2) (L0, z_no) s.heap.size) s t →
      (∀ v c, z_V G R' (L', P') v c → z_V G (R0.1, R'.2) (z_ss w th (L'.map (z_re th))) (z_rn th v) c) ∧ z_P G (R0.1, R'.2) (z_ss w th (L'.map (z_re th))) t.heap ∧ z_T R0 w s.heap.size (R0.1, R'.2) (z_ss w th (L'.map (z_re th))) ∧ va_F (z_A R0 w s.heap.size) s t := by
    intro R' L' P' hw2 hwl hP' hT hF
    subst hw2
    have hl' : L'.length ≤ 1000 := by rw [hwl]; exact hl
    have hR : ∀ {i n : Nat}, th[i]? = some n → R'.1 i = R0.1 n := by
      intro i n hi
      rw [(hT.1 i (hid hi)).2]
      show R0.1 (th.getD i 0) = _
      rw [hget hi]
    have hdth : ∀ k ∈ th, z_d w k := by
      intro k hk9
      obtain ⟨i, hi⟩ := List.getElem?_of_mem hk9
      obtain ⟨e9, he9⟩ := hid hi
      obtain ⟨n9, h9, h8⟩ := hat i e9 (z_gL he9)
      rw [hi] at h9
      cases h9
      exact ⟨_, h8⟩
    have hdw : ∀ n, z_d (z_ss w th (L'.map (z_re th))) n ↔ z_d w n := z_ss_d hdth
    have hdL : ∀ i, z_d (L', z_no) i → ∃ n, th[i]? = some n := by
      intro i ⟨e9, he9⟩
      have h1 := (List.getElem?_eq_some_iff.mp (z_gL he9)).1
      exact ⟨_, List.getElem?_eq_getElem (by rw [hlen, ← hwl]; exact h1)⟩
    have hsb : ∀ v c, z_V G R' (L', z_no) v c → z_V G (R0.1, R'.2) (z_ss w th (L'.map (z_re th))) (z_rn th v) c := by
      intro v c hv
      cases v with
      | int x => exact hv
      | long x => exact hv
      | null => exact hv
      | float b => exact hv
      | retAddr k => exact hv
      | double b => exact hv
      | ref i =>
        obtain ⟨h1, h2⟩ := hv
        obtain ⟨n, hi⟩ := hdL i h1
        simp only [z_rn, hi]
        exact ⟨(hdw n).mpr (hdth n (List.mem_of_getElem? hi)), by rw [h2, hR hi]⟩
    have hbb : ∀ v c, z_V G R0 w v c → z_V G (R0.1, R'.2) (z_ss w th (L'.map (z_re th))) v c := by
      intro v c hv
      cases v with
      | int x => exact hv
      | long x => exact hv
      | null => exact hv
      | float b => obtain ⟨q, h1, h2⟩ := hv; exact ⟨q, h1, h2.imp (hT.2.1 q b) id⟩
      | retAddr k => exact hv
      | double b => exact hv
      | ref n => exact ⟨(hdw n).mpr hv.1, hv.2⟩
    have hA : ∀ q, z_A ((fun i => R0.1 (th.getD i 0)), R0.2) (L0, z_no) s.heap.size q → z_A R0 w s.heap.size q := by
      rintro q (⟨i, hi, rfl⟩ | hq9)
      · obtain ⟨n, h1, h2⟩ := hdi i hi
        refine Or.inl ⟨n, h2, ?_⟩
        show R0.1 n = R0.1 (th.getD i 0)
        rw [hget h1]
      · exact Or.inr hq9
    have hold : ∀ n, z_d w n → n ∉ th → t.heap[R0.1 n]? = s.heap[R0.1 n]? := by
      intro n ⟨e9, he9⟩ hn
      refine hF.2 _ (hP.1 n e9 he9).1.lt ?_
      rintro (⟨i, hi, h9⟩ | h9)
      · obtain ⟨k, h1, h2⟩ := hdi i hi
        have h9 : R0.1 (th.getD i 0) = R0.1 n := h9
        rw [hget h1] at h9
        have := hP.2.1 k n h2 ⟨e9, he9⟩ h9
        subst this
        exact hn (List.mem_of_getElem? h1)
      · have := (hP.1 n e9 he9).1.lt
        omega
    refine ⟨hsb, ⟨fun n e9 hn => ?_, fun a b ha hb hab => hP.2.1 a b ((hdw a).mp ha) ((hdw b).mp hb) hab, fun q b hq9 => ⟨(hP'.2.2 q b hq9).1, fun n hn => ?_⟩⟩, ⟨fun n hn => ⟨(hdw n).mpr hn, rfl⟩, hT.2.1, fun n hn hno => absurd ((hdw n).mp hn) hno, hT.2.2.2⟩, hF.1, fun q h1 h2 => hF.2 q h1 (fun z => h2 (hA q z))⟩
    · by_cases hn9 : n ∈ th
      · obtain ⟨i, hi⟩ := List.getElem?_of_mem hn9
        have hil : i < L'.length := by rw [hwl, ← hlen]; exact (List.getElem?_eq_some_iff.mp hi).1
        have h1 : z_g (z_ss w th (L'.map (z_re th))) n = some (z_re th L'[i]) := z_ss_at hnd hdth hi (by rw [List.getElem?_map, List.getElem?_eq_getElem hil]; rfl)
        rw [hn] at h1
        have h1 := Option.some.inj h1
        obtain ⟨h3, h4⟩ := hP'.1 i L'[i] (z_Lg' hl' (List.getElem?_eq_getElem hil))
        rw [hR hi] at h3 h4
        refine ⟨?_, h4⟩
        rw [h1]
        generalize L'[i] = e8 at h3
        cases e8 with
        | inl x =>
          obtain ⟨z, z1, z2⟩ := h3
          exact ⟨z, z1, fun j hj => hsb _ _ (z2 j hj)⟩
        | inr o =>
          obtain ⟨q, gs, x1, x2, x3, x4⟩ := h3
          exact ⟨q, gs, x1, by rw [← x2]; exact List.length_map _, x3, z_Lpm hsb x4⟩
      · rw [z_ss_ne hn9] at hn
        exact ⟨(hP.1 n e9 hn).1.kept hbb (hold n ⟨_, hn⟩ hn9), (hP.1 n e9 hn).2⟩
    · have hn2 := (hdw n).mp hn
      by_cases hn9 : n ∈ th
      · obtain ⟨i, hi⟩ := List.getElem?_of_mem hn9
        have h1 := (hP'.2.2 q b hq9).2 i (hT.1 i (hid hi)).1
        rw [hR hi] at h1
        exact h1
      · cases h8 : R0.2 q with
        | none =>
          have h7 := hT.2.2.2 q b hq9 h8
          obtain ⟨e8, he8⟩ := hn2
          have := (hP.1 n e8 he8).1.lt
          show R0.1 n ≠ q
          omega
        | some b8 => exact (hP.2.2 q b8 h8).2 n hn2
  rcases hQ with ⟨⟨v, cv, R', w', ho, hO, ⟨hw2, hwl, hq⟩, hP', hT, hF⟩, hfe⟩ | ⟨q, ho, E, ce, L, ⟨R', w', ⟨hw2, hwl, hx⟩, hP', hT, hF⟩, r2⟩
  · obtain ⟨L', P'⟩ := w'
    obtain ⟨hsb, k2, k3, k4⟩ := key R' L' P' hw2 hwl hP' hT hF
    refine Or.inl ⟨⟨v.map (z_rn th), cv, (R0.1, R'.2), z_ss w th (L'.map (z_re th)), ho, ?_, ⟨v, L', hq, rfl, rfl⟩, k2, k3, k4⟩, hfe⟩
    cases v with
    | none =>
      cases cv with
      | none => exact trivial
      | some cv => exact hO.elim
    | some v =>
      cases cv with
      | none => exact hO.elim
      | some cv => exact hsb _ _ hO
  · obtain ⟨L', P'⟩ := w'
    obtain ⟨hsb, k2, k3, k4⟩ := key R' L' P' hw2 hwl hP' hT hF
    exact Or.inr ⟨q, ho, E, ce, L, ⟨(R0.1, R'.2), z_ss w th (L'.map (z_re th)), ⟨L', hx, rfl⟩, k2, k3, k4⟩, r2⟩
theorem z_CFX {G : z_G} {l : Launch} {y : z_M} {rk mc ms : Nat} {L0 : List z_E} {av : List Value} {Q : Option Value → List z_E → Prop} {X : String → List z_E → Prop} (h : z_CF G l y rk mc ms L0 av Q) : z_CX G l y rk mc ms L0 av Q X := z_weak h (fun _ _ h => h) (fun _ _ h => h.elim)
abbrev z_SX (rk mc ms : Nat) (L0 : List z_E) (Q : Option Value → List z_E → Prop) (X : String → List z_E → Prop) : z_S := (rk, mc, ms, (L0, z_no), (fun v w => w.2 = z_no ∧ w.1.length = L0.length ∧ Q v w.1), fun E w => w.2 = z_no ∧ w.1.length = L0.length ∧ X E w.1)
def z_cV (n : Nat) (v : Value) : Prop := match v with
  | .ref a => a < n
  | _ => True
def z_cE (n : Nat) (e : z_E) : Prop := match e with
  | .inl x => ∀ j, j < x.2.1 → z_cV n (x.2.2 j)
  | .inr o => ∀ v ∈ o.2, z_cV n v
theorem z_cia {n k : Nat} {f : Nat → Int32} : z_cE n (z_ia k f) := fun _ _ => trivial
theorem z_cE0 {n k : Nat} : z_cE n (.inr (k, [])) := fun _ h => by cases h
theorem z_cEc {n k : Nat} {v : Value} {t : List Value} (h : z_cV n v) (ht : z_cE n (.inr (k, t))) : z_cE n (.inr (k, v :: t)) := fun x hx => by
  rcases List.mem_cons.mp hx with rfl | hx
  · exact h
  · exact ht x hx
def z_cL (n : Nat) : List z_E → Prop
  | [] => True
  | e :: t => z_cE n e ∧ z_cL n t
theorem z_cLm {n : Nat} : ∀ {L : List z_E}, z_cL n L → ∀ e ∈ L, z_cE n e
  | [], _, _, h => by cases h
  | a :: t, h, e, he => by
    rcases List.mem_cons.mp he with rfl | he
    · exact h.1
    · exact z_cLm h.2 e he
end ZFX
