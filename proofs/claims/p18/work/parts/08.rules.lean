section ZR
variable {G : z_G} {l : Launch} {y : z_M} {S : z_S} {pc : Nat} {lo : List (Nat × Value)} {st : List Value} {w : z_W} {kc ks : Nat}
theorem j_iconst {x : Int} {v : Int32} (hd : decode y.2.1 pc = .ok (.iconst x, 1)) (hv : Int32.ofInt x = v) (h : z_J G l y S (pc + 1) lo (.int v :: st) w kc ks) : z_J G l y S pc lo st w kc ks := by
  intro p e s m args below meth c R0 hok R H locs ls cst hat hlo hst
  exact lv_iconst hok.1 hok.2.1 hd hv (h p e s m args below meth c R0 hok R H locs ls _ hat hlo ⟨rfl, hst⟩)
theorem j_bipush {x : Int} {v : Int32} (hd : decode y.2.1 pc = .ok (.bipush x, 2)) (hv : (Int8.ofInt x).toInt32 = v) (h : z_J G l y S (pc + 2) lo (.int v :: st) w kc ks) : z_J G l y S pc lo st w kc ks := by
  intro p e s m args below meth c R0 hok R H locs ls cst hat hlo hst
  exact lv_bipush hok.1 hok.2.1 hd hv (h p e s m args below meth c R0 hok R H locs ls _ hat hlo ⟨rfl, hst⟩)
theorem j_sipush {x : Int} {v : Int32} (hd : decode y.2.1 pc = .ok (.sipush x, 3)) (hv : (Int16.ofInt x).toInt32 = v) (h : z_J G l y S (pc + 3) lo (.int v :: st) w kc ks) : z_J G l y S pc lo st w kc ks := by
  intro p e s m args below meth c R0 hok R H locs ls cst hat hlo hst
  exact lv_sipush hok.1 hok.2.1 hd hv (h p e s m args below meth c R0 hok R H locs ls _ hat hlo ⟨rfl, hst⟩)
theorem j_lconst {x : Fin 2} {v : Int64} (hd : decode y.2.1 pc = .ok (.lconst x, 1)) (hv : Int64.ofNat (x : Nat) = v) (h : z_J G l y S (pc + 1) lo (.long v :: st) w kc ks) : z_J G l y S pc lo st w kc ks := by
  intro p e s m args below meth c R0 hok R H locs ls cst hat hlo hst
  exact lv_lconst hok.1 hok.2.1 hd hv (h p e s m args below meth c R0 hok R H locs ls _ hat hlo ⟨rfl, hst⟩)
theorem j_null (hd : decode y.2.1 pc = .ok (.aconst_null, 1)) (h : z_J G l y S (pc + 1) lo (.null :: st) w kc ks) : z_J G l y S pc lo st w kc ks := by
  intro p e s m args below meth c R0 hok R H locs ls cst hat hlo hst
  exact lv_null hok.1 hok.2.1 hd (h p e s m args below meth c R0 hok R H locs ls _ hat hlo ⟨rfl, hst⟩)
theorem j_iload {i : Nat} {x : Int32} (hd : decode y.2.1 pc = .ok (.iload i, 2)) (hf : z_find lo i = some (.int x)) (h : z_J G l y S (pc + 2) lo (.int x :: st) w kc ks) : z_J G l y S pc lo st w kc ks := by
  intro p e s m args below meth c R0 hok R H locs ls cst hat hlo hst
  obtain ⟨v, h1, h2⟩ := z_lof hlo hf
  have h2 : v = .int x := h2
  subst h2
  exact lv_iload hok.1 hok.2.1 hd h1 (h p e s m args below meth c R0 hok R H locs ls _ hat hlo ⟨rfl, hst⟩)
theorem j_iload_n {k : Fin 4} {x : Int32} (hd : decode y.2.1 pc = .ok (.iload_n k, 1)) (hf : z_find lo (k : Nat) = some (.int x)) (h : z_J G l y S (pc + 1) lo (.int x :: st) w kc ks) : z_J G l y S pc lo st w kc ks := by
  intro p e s m args below meth c R0 hok R H locs ls cst hat hlo hst
  obtain ⟨v, h1, h2⟩ := z_lof hlo hf
  have h2 : v = .int x := h2
  subst h2
  exact lv_iload_n hok.1 hok.2.1 hd rfl h1 (h p e s m args below meth c R0 hok R H locs ls _ hat hlo ⟨rfl, hst⟩)
theorem j_lload_n {k : Fin 4} {x : Int64} (hd : decode y.2.1 pc = .ok (.lload_n k, 1)) (hf : z_find lo (k : Nat) = some (.long x)) (h : z_J G l y S (pc + 1) lo (.long x :: st) w kc ks) : z_J G l y S pc lo st w kc ks := by
  intro p e s m args below meth c R0 hok R H locs ls cst hat hlo hst
  obtain ⟨v, h1, h2⟩ := z_lof hlo hf
  have h2 : v = .long x := h2
  subst h2
  exact lv_lload_n hok.1 hok.2.1 hd rfl h1 (h p e s m args below meth c R0 hok R H locs ls _ hat hlo ⟨rfl, hst⟩)
def z_ir (v : Value) : Bool := match v with
  | .ref _ => true
  | .null => true
  | .float _ => true
  | .retAddr _ => true
  | _ => false
theorem z_V_ir {G : z_G} {R : z_R} {w : z_W} {v c : Value} (hr : z_ir v = true) (h : z_V G R w v c) : c = .null ∨ ∃ q, c = .ref q := by
  cases v with
  | int x => cases hr
  | long x => cases hr
  | null => exact Or.inl h
  | ref n => exact Or.inr ⟨_, h.2⟩
  | float b => obtain ⟨q, h1, -⟩ := h; exact Or.inr ⟨q, h1⟩
  | retAddr k => obtain ⟨q, h1, -⟩ := h; exact Or.inr ⟨q, h1⟩
  | double b => exact h.elim
theorem j_aload {i : Nat} {v : Value} (hd : decode y.2.1 pc = .ok (.aload i, 2)) (hf : z_find lo i = some v) (hr : z_ir v = true) (h : z_J G l y S (pc + 2) lo (v :: st) w kc ks) : z_J G l y S pc lo st w kc ks := by
  intro p e s m args below meth c R0 hok R H locs ls cst hat hlo hst
  obtain ⟨cv, h1, h2⟩ := z_lof hlo hf
  have h3 := h p e s m args below meth c R0 hok R H locs ls (cv :: cst) hat hlo ⟨h2, hst⟩
  rcases z_V_ir hr h2 with e1 | ⟨q, e1⟩
  · subst e1
    exact lv_aloadN hok.1 hok.2.1 hd h1 h3
  · subst e1
    exact lv_aload hok.1 hok.2.1 hd h1 h3
theorem j_aload_n {k : Fin 4} {v : Value} (hd : decode y.2.1 pc = .ok (.aload_n k, 1)) (hf : z_find lo (k : Nat) = some v) (hr : z_ir v = true) (h : z_J G l y S (pc + 1) lo (v :: st) w kc ks) : z_J G l y S pc lo st w kc ks := by
  intro p e s m args below meth c R0 hok R H locs ls cst hat hlo hst
  obtain ⟨cv, h1, h2⟩ := z_lof hlo hf
  have h3 := h p e s m args below meth c R0 hok R H locs ls (cv :: cst) hat hlo ⟨h2, hst⟩
  rcases z_V_ir hr h2 with e1 | ⟨q, e1⟩
  · subst e1
    exact lv_aload_nN hok.1 hok.2.1 hd rfl h1 h3
  · subst e1
    exact lv_aload_n hok.1 hok.2.1 hd rfl h1 h3
theorem j_istore {i : Nat} {x : Int32} {lo' : List (Nat × Value)} (hd : decode y.2.1 pc = .ok (.istore i, 2)) (hn : i < y.2.2.1) (hl : z_st lo i (.int x) = lo') (h : z_J G l y S (pc + 2) lo' st w kc ks) : z_J G l y S pc lo (.int x :: st) w kc ks := by
  intro p e s m args below meth c R0 hok R H locs ls cst hat hlo hst
  obtain ⟨c1, cs1, rfl, h1, hst1⟩ := z_Lc hst
  have h1 : c1 = .int x := h1
  subst h1
  obtain ⟨clo, h2, h3⟩ := hlo
  refine lv_istore hok.1 hok.2.1 hd h2 (by rw [hok.2.2.1]; exact hn) rfl (fun ls' hls => ?_)
  exact h p e s m args below meth c R0 hok R H locs ls' _ hat ⟨_, hls, by rw [← hl]; exact z_LLst (fun _ _ => z_V_cat) h3 rfl⟩ hst1
theorem j_istore_n {k : Fin 4} {x : Int32} {lo' : List (Nat × Value)} (hd : decode y.2.1 pc = .ok (.istore_n k, 1)) (hn : (k : Nat) < y.2.2.1) (hl : z_st lo (k : Nat) (.int x) = lo') (h : z_J G l y S (pc + 1) lo' st w kc ks) : z_J G l y S pc lo (.int x :: st) w kc ks := by
  intro p e s m args below meth c R0 hok R H locs ls cst hat hlo hst
  obtain ⟨c1, cs1, rfl, h1, hst1⟩ := z_Lc hst
  have h1 : c1 = .int x := h1
  subst h1
  obtain ⟨clo, h2, h3⟩ := hlo
  refine lv_istore_n hok.1 hok.2.1 hd rfl h2 (by rw [hok.2.2.1]; exact hn) rfl (fun ls' hls => ?_)
  exact h p e s m args below meth c R0 hok R H locs ls' _ hat ⟨_, hls, by rw [← hl]; exact z_LLst (fun _ _ => z_V_cat) h3 rfl⟩ hst1
theorem j_astore {i : Nat} {v : Value} {lo' : List (Nat × Value)} (hd : decode y.2.1 pc = .ok (.astore i, 2)) (hr : z_ir v = true) (hn : i < y.2.2.1) (hl : z_st lo i v = lo') (h : z_J G l y S (pc + 2) lo' st w kc ks) : z_J G l y S pc lo (v :: st) w kc ks := by
  intro p e s m args below meth c R0 hok R H locs ls cst hat hlo hst
  obtain ⟨c1, cs1, rfl, h1, hst1⟩ := z_Lc hst
  obtain ⟨clo, h2, h3⟩ := hlo
  have h4 : ∀ ls' : Array Slot, lv_has ls' c.maxLocals (z_st clo i c1) → W p l e (z_rm S.1 S.2.1 S.2.2.1) s m args below meth c H locs kc ks (vx_MQ below (z_Qc G R0 S.2.2.2.1 S.2.2.2.2.1) (z_Xc G R0 S.2.2.2.1 S.2.2.2.2.2) args s S.2.1 S.2.2.1 (fun q => z_b G ≤ q)) (F0 m (pc + 2) ls' cs1) := fun ls' hls => h p e s m args below meth c R0 hok R H locs ls' _ hat ⟨_, hls, by rw [← hl]; exact z_LLst (fun _ _ => z_V_cat) h3 h1⟩ hst1
  rcases z_V_ir hr h1 with e1 | ⟨q, e1⟩
  · subst e1
    exact lv_astoreN hok.1 hok.2.1 hd h2 (by rw [hok.2.2.1]; exact hn) rfl h4
  · subst e1
    exact lv_astore hok.1 hok.2.1 hd h2 (by rw [hok.2.2.1]; exact hn) rfl h4
theorem j_lstore_n {k : Fin 4} {x : Int64} {lo' : List (Nat × Value)} (hd : decode y.2.1 pc = .ok (.lstore_n k, 1)) (hn : (k : Nat) + 1 < y.2.2.1) (hl : z_st2 lo (k : Nat) (.long x) = lo') (h : z_J G l y S (pc + 1) lo' st w kc ks) : z_J G l y S pc lo (.long x :: st) w kc ks := by
  intro p e s m args below meth c R0 hok R H locs ls cst hat hlo hst
  obtain ⟨c1, cs1, rfl, h1, hst1⟩ := z_Lc hst
  have h1 : c1 = .long x := h1
  subst h1
  obtain ⟨clo, h2, h3⟩ := hlo
  refine lv_lstore_n hok.1 hok.2.1 hd rfl h2 (by rw [hok.2.2.1]; exact hn) rfl (fun ls' hls => ?_)
  exact h p e s m args below meth c R0 hok R H locs ls' _ hat ⟨_, hls, by rw [← hl]; exact z_LLst2 (fun _ _ => z_V_cat) h3 rfl⟩ hst1
theorem j_astore_n {k : Fin 4} {v : Value} {lo' : List (Nat × Value)} (hd : decode y.2.1 pc = .ok (.astore_n k, 1)) (hr : z_ir v = true) (hn : (k : Nat) < y.2.2.1) (hl : z_st lo (k : Nat) v = lo') (h : z_J G l y S (pc + 1) lo' st w kc ks) : z_J G l y S pc lo (v :: st) w kc ks := by
  intro p e s m args below meth c R0 hok R H locs ls cst hat hlo hst
  obtain ⟨c1, cs1, rfl, h1, hst1⟩ := z_Lc hst
  obtain ⟨clo, h2, h3⟩ := hlo
  have h4 : ∀ ls' : Array Slot, lv_has ls' c.maxLocals (z_st clo (k : Nat) c1) → W p l e (z_rm S.1 S.2.1 S.2.2.1) s m args below meth c H locs kc ks (vx_MQ below (z_Qc G R0 S.2.2.2.1 S.2.2.2.2.1) (z_Xc G R0 S.2.2.2.1 S.2.2.2.2.2) args s S.2.1 S.2.2.1 (fun q => z_b G ≤ q)) (F0 m (pc + 1) ls' cs1) := fun ls' hls => h p e s m args below meth c R0 hok R H locs ls' _ hat ⟨_, hls, by rw [← hl]; exact z_LLst (fun _ _ => z_V_cat) h3 h1⟩ hst1
  rcases z_V_ir hr h1 with e1 | ⟨q, e1⟩
  · subst e1
    exact lv_astore_nN hok.1 hok.2.1 hd rfl h2 (by rw [hok.2.2.1]; exact hn) rfl h4
  · subst e1
    exact lv_astore_n hok.1 hok.2.1 hd rfl h2 (by rw [hok.2.2.1]; exact hn) rfl h4
theorem j_iinc {i : Nat} {d : Int} {x v : Int32} {lo' : List (Nat × Value)} (hd : decode y.2.1 pc = .ok (.iinc i d, 3)) (hf : z_find lo i = some (.int x)) (hv : x + Int32.ofInt d = v) (hn : i < y.2.2.1) (hl : z_st lo i (.int v) = lo') (h : z_J G l y S (pc + 3) lo' st w kc ks) : z_J G l y S pc lo st w kc ks := by
  intro p e s m args below meth c R0 hok R H locs ls cst hat hlo hst
  obtain ⟨clo, h2, h3⟩ := hlo
  obtain ⟨cv, h4, h5⟩ := z_LLf h3 hf
  have h5 : cv = .int x := h5
  subst h5
  obtain ⟨k, hk⟩ := List.getElem?_of_mem h4
  refine lv_iinc hok.1 hok.2.1 hd h2 hk hv (by rw [hok.2.2.1]; exact hn) rfl (fun ls' hls => ?_)
  exact h p e s m args below meth c R0 hok R H locs ls' _ hat ⟨_, hls, by rw [← hl]; exact z_LLst (fun _ _ => z_V_cat) h3 rfl⟩ hst
theorem j_iadd {a b : Int32} (hd : decode y.2.1 pc = .ok (.iadd, 1)) (h : z_J G l y S (pc + 1) lo (.int (a + b) :: st) w kc ks) : z_J G l y S pc lo (.int b :: .int a :: st) w kc ks := by
  intro p e s m args below meth c R0 hok R H locs ls cst hat hlo hst
  obtain ⟨c1, cs1, rfl, h1, hst1⟩ := z_Lc hst
  obtain ⟨c2, cs2, rfl, h2, hst2⟩ := z_Lc hst1
  have h1 : c1 = .int b := h1
  have h2 : c2 = .int a := h2
  subst h1 h2
  exact lv_iadd hok.1 hok.2.1 hd (h p e s m args below meth c R0 hok R H locs ls _ hat hlo ⟨rfl, hst2⟩)
theorem j_isub {a b : Int32} (hd : decode y.2.1 pc = .ok (.isub, 1)) (h : z_J G l y S (pc + 1) lo (.int (a - b) :: st) w kc ks) : z_J G l y S pc lo (.int b :: .int a :: st) w kc ks := by
  intro p e s m args below meth c R0 hok R H locs ls cst hat hlo hst
  obtain ⟨c1, cs1, rfl, h1, hst1⟩ := z_Lc hst
  obtain ⟨c2, cs2, rfl, h2, hst2⟩ := z_Lc hst1
  have h1 : c1 = .int b := h1
  have h2 : c2 = .int a := h2
  subst h1 h2
  exact lv_isub hok.1 hok.2.1 hd (h p e s m args below meth c R0 hok R H locs ls _ hat hlo ⟨rfl, hst2⟩)
theorem j_imul {a b : Int32} (hd : decode y.2.1 pc = .ok (.imul, 1)) (h : z_J G l y S (pc + 1) lo (.int (a * b) :: st) w kc ks) : z_J G l y S pc lo (.int b :: .int a :: st) w kc ks := by
  intro p e s m args below meth c R0 hok R H locs ls cst hat hlo hst
  obtain ⟨c1, cs1, rfl, h1, hst1⟩ := z_Lc hst
  obtain ⟨c2, cs2, rfl, h2, hst2⟩ := z_Lc hst1
  have h1 : c1 = .int b := h1
  have h2 : c2 = .int a := h2
  subst h1 h2
  exact lv_imul hok.1 hok.2.1 hd (h p e s m args below meth c R0 hok R H locs ls _ hat hlo ⟨rfl, hst2⟩)
theorem j_iand {a b : Int32} (hd : decode y.2.1 pc = .ok (.iand, 1)) (h : z_J G l y S (pc + 1) lo (.int (a &&& b) :: st) w kc ks) : z_J G l y S pc lo (.int b :: .int a :: st) w kc ks := by
  intro p e s m args below meth c R0 hok R H locs ls cst hat hlo hst
  obtain ⟨c1, cs1, rfl, h1, hst1⟩ := z_Lc hst
  obtain ⟨c2, cs2, rfl, h2, hst2⟩ := z_Lc hst1
  have h1 : c1 = .int b := h1
  have h2 : c2 = .int a := h2
  subst h1 h2
  exact lv_iand hok.1 hok.2.1 hd (h p e s m args below meth c R0 hok R H locs ls _ hat hlo ⟨rfl, hst2⟩)
theorem j_ladd {a b : Int64} (hd : decode y.2.1 pc = .ok (.ladd, 1)) (h : z_J G l y S (pc + 1) lo (.long (a + b) :: st) w kc ks) : z_J G l y S pc lo (.long b :: .long a :: st) w kc ks := by
  intro p e s m args below meth c R0 hok R H locs ls cst hat hlo hst
  obtain ⟨c1, cs1, rfl, h1, hst1⟩ := z_Lc hst
  obtain ⟨c2, cs2, rfl, h2, hst2⟩ := z_Lc hst1
  have h1 : c1 = .long b := h1
  have h2 : c2 = .long a := h2
  subst h1 h2
  exact lv_ladd hok.1 hok.2.1 hd (h p e s m args below meth c R0 hok R H locs ls _ hat hlo ⟨rfl, hst2⟩)
theorem j_lmul {a b : Int64} (hd : decode y.2.1 pc = .ok (.lmul, 1)) (h : z_J G l y S (pc + 1) lo (.long (a * b) :: st) w kc ks) : z_J G l y S pc lo (.long b :: .long a :: st) w kc ks := by
  intro p e s m args below meth c R0 hok R H locs ls cst hat hlo hst
  obtain ⟨c1, cs1, rfl, h1, hst1⟩ := z_Lc hst
  obtain ⟨c2, cs2, rfl, h2, hst2⟩ := z_Lc hst1
  have h1 : c1 = .long b := h1
  have h2 : c2 = .long a := h2
  subst h1 h2
  exact lv_lmul hok.1 hok.2.1 hd (h p e s m args below meth c R0 hok R H locs ls _ hat hlo ⟨rfl, hst2⟩)
theorem j_i2l {a : Int32} (hd : decode y.2.1 pc = .ok (.i2l, 1)) (h : z_J G l y S (pc + 1) lo (.long (a.toInt64) :: st) w kc ks) : z_J G l y S pc lo (.int a :: st) w kc ks := by
  intro p e s m args below meth c R0 hok R H locs ls cst hat hlo hst
  obtain ⟨c1, cs1, rfl, h1, hst1⟩ := z_Lc hst
  have h1 : c1 = .int a := h1
  subst h1
  exact lv_i2l hok.1 hok.2.1 hd rfl (h p e s m args below meth c R0 hok R H locs ls (.long a.toInt64 :: cs1) hat hlo ⟨rfl, hst1⟩)
theorem j_i2b {a : Int32} (hd : decode y.2.1 pc = .ok (.i2b, 1)) (h : z_J G l y S (pc + 1) lo (.int (a.toInt8.toInt32) :: st) w kc ks) : z_J G l y S pc lo (.int a :: st) w kc ks := by
  intro p e s m args below meth c R0 hok R H locs ls cst hat hlo hst
  obtain ⟨c1, cs1, rfl, h1, hst1⟩ := z_Lc hst
  have h1 : c1 = .int a := h1
  subst h1
  exact lv_i2b hok.1 hok.2.1 hd rfl (h p e s m args below meth c R0 hok R H locs ls (.int a.toInt8.toInt32 :: cs1) hat hlo ⟨rfl, hst1⟩)
theorem j_ineg {a : Int32} (hd : decode y.2.1 pc = .ok (.ineg, 1)) (h : z_J G l y S (pc + 1) lo (.int (-a) :: st) w kc ks) : z_J G l y S pc lo (.int a :: st) w kc ks := by
  intro p e s m args below meth c R0 hok R H locs ls cst hat hlo hst
  obtain ⟨c1, cs1, rfl, h1, hst1⟩ := z_Lc hst
  have h1 : c1 = .int a := h1
  subst h1
  exact lv_ineg hok.1 hok.2.1 hd (h p e s m args below meth c R0 hok R H locs ls _ hat hlo ⟨rfl, hst1⟩)
theorem j_dup {a : Value} (hd : decode y.2.1 pc = .ok (.dup, 1)) (hc : a.category = 1) (h : z_J G l y S (pc + 1) lo (a :: a :: st) w kc ks) : z_J G l y S pc lo (a :: st) w kc ks := by
  intro p e s m args below meth c R0 hok R H locs ls cst hat hlo hst
  obtain ⟨c1, cs1, rfl, h1, hst1⟩ := z_Lc hst
  exact lv_dup hok.1 hok.2.1 hd ((z_V_cat h1).trans hc) (h p e s m args below meth c R0 hok R H locs ls _ hat hlo ⟨h1, h1, hst1⟩)
theorem j_pop {a : Value} (hd : decode y.2.1 pc = .ok (.pop, 1)) (hc : a.category = 1) (h : z_J G l y S (pc + 1) lo st w kc ks) : z_J G l y S pc lo (a :: st) w kc ks := by
  intro p e s m args below meth c R0 hok R H locs ls cst hat hlo hst
  obtain ⟨c1, cs1, rfl, h1, hst1⟩ := z_Lc hst
  exact lv_pop hok.1 hok.2.1 hd ((z_V_cat h1).trans hc) (h p e s m args below meth c R0 hok R H locs ls _ hat hlo hst1)
theorem j_pop2 {a : Value} (hd : decode y.2.1 pc = .ok (.pop2, 1)) (hc : a.category = 2) (h : z_J G l y S (pc + 1) lo st w kc ks) : z_J G l y S pc lo (a :: st) w kc ks := by
  intro p e s m args below meth c R0 hok R H locs ls cst hat hlo hst
  obtain ⟨c1, cs1, rfl, h1, hst1⟩ := z_Lc hst
  exact lv_pop2_2 hok.1 hok.2.1 hd ((z_V_cat h1).trans hc) (h p e s m args below meth c R0 hok R H locs ls _ hat hlo hst1)
theorem j_dup_x1 {a b : Value} (hd : decode y.2.1 pc = .ok (.dup_x1, 1)) (hc : a.category = 1) (hc2 : b.category = 1) (h : z_J G l y S (pc + 1) lo (a :: b :: a :: st) w kc ks) : z_J G l y S pc lo (a :: b :: st) w kc ks := by
  intro p e s m args below meth c R0 hok R H locs ls cst hat hlo hst
  obtain ⟨c1, cs1, rfl, h1, hst1⟩ := z_Lc hst
  obtain ⟨c2, cs2, rfl, h2, hst2⟩ := z_Lc hst1
  exact lv_dup_x1 hok.1 hok.2.1 hd ((z_V_cat h1).trans hc) ((z_V_cat h2).trans hc2) (h p e s m args below meth c R0 hok R H locs ls _ hat hlo ⟨h1, h2, h1, hst2⟩)
theorem j_dup2 {a b : Value} (hd : decode y.2.1 pc = .ok (.dup2, 1)) (hc : a.category = 1) (hc2 : b.category = 1) (h : z_J G l y S (pc + 1) lo (a :: b :: a :: b :: st) w kc ks) : z_J G l y S pc lo (a :: b :: st) w kc ks := by
  intro p e s m args below meth c R0 hok R H locs ls cst hat hlo hst
  obtain ⟨c1, cs1, rfl, h1, hst1⟩ := z_Lc hst
  obtain ⟨c2, cs2, rfl, h2, hst2⟩ := z_Lc hst1
  exact lv_dup2_11 hok.1 hok.2.1 hd ((z_V_cat h1).trans hc) ((z_V_cat h2).trans hc2) (h p e s m args below meth c R0 hok R H locs ls _ hat hlo ⟨h1, h2, h1, h2, hst2⟩)
theorem j_goto {off : Int} {tgt : Nat} (hd : decode y.2.1 pc = .ok (.goto off, 3)) (ht : (pc : Int) + off = (tgt : Int)) (h : z_J G l y S tgt lo st w kc ks) : z_J G l y S pc lo st w kc ks := by
  intro p e s m args below meth c R0 hok R H locs ls cst hat hlo hst
  exact lv_goto hok.1 hok.2.1 hd ht (h p e s m args below meth c R0 hok R H locs ls _ hat hlo hst)
theorem j_if_eq {x : Int32} {off : Int} {tgt : Nat} (hd : decode y.2.1 pc = .ok (.ifCond .eq off, 3)) (ht : (pc : Int) + off = (tgt : Int)) (kt : x = 0 → z_J G l y S tgt lo st w kc ks) (kf : ¬ x = 0 → z_J G l y S (pc + 3) lo st w kc ks) : z_J G l y S pc lo (.int x :: st) w kc ks := by
  intro p e s m args below meth c R0 hok R H locs ls cst hat hlo hst
  obtain ⟨c1, cs1, rfl, h1, hst1⟩ := z_Lc hst
  have h1 : c1 = .int x := h1
  subst h1
  exact lv_if_eq hok.1 hok.2.1 hd ht (fun c9 => kt c9 p e s m args below meth c R0 hok R H locs ls _ hat hlo hst1) (fun c9 => kf c9 p e s m args below meth c R0 hok R H locs ls _ hat hlo hst1)
theorem j_icmp_eq {x b : Int32} {off : Int} {tgt : Nat} (hd : decode y.2.1 pc = .ok (.if_icmp .eq off, 3)) (ht : (pc : Int) + off = (tgt : Int)) (kt : x = b → z_J G l y S tgt lo st w kc ks) (kf : ¬ x = b → z_J G l y S (pc + 3) lo st w kc ks) : z_J G l y S pc lo (.int b :: .int x :: st) w kc ks := by
  intro p e s m args below meth c R0 hok R H locs ls cst hat hlo hst
  obtain ⟨c1, cs1, rfl, h1, hst1⟩ := z_Lc hst
  obtain ⟨c2, cs2, rfl, h2, hst2⟩ := z_Lc hst1
  have h1 : c1 = .int b := h1
  have h2 : c2 = .int x := h2
  subst h1 h2
  exact lv_icmp_eq hok.1 hok.2.1 hd ht (fun c9 => kt c9 p e s m args below meth c R0 hok R H locs ls _ hat hlo hst2) (fun c9 => kf c9 p e s m args below meth c R0 hok R H locs ls _ hat hlo hst2)
theorem j_if_ne {x : Int32} {off : Int} {tgt : Nat} (hd : decode y.2.1 pc = .ok (.ifCond .ne off, 3)) (ht : (pc : Int) + off = (tgt : Int)) (kt : ¬ x = 0 → z_J G l y S tgt lo st w kc ks) (kf : x = 0 → z_J G l y S (pc + 3) lo st w kc ks) : z_J G l y S pc lo (.int x :: st) w kc ks := by
  intro p e s m args below meth c R0 hok R H locs ls cst hat hlo hst
  obtain ⟨c1, cs1, rfl, h1, hst1⟩ := z_Lc hst
  have h1 : c1 = .int x := h1
  subst h1
  exact lv_if_ne hok.1 hok.2.1 hd ht (fun c9 => kt c9 p e s m args below meth c R0 hok R H locs ls _ hat hlo hst1) (fun c9 => kf c9 p e s m args below meth c R0 hok R H locs ls _ hat hlo hst1)
theorem j_icmp_ne {x b : Int32} {off : Int} {tgt : Nat} (hd : decode y.2.1 pc = .ok (.if_icmp .ne off, 3)) (ht : (pc : Int) + off = (tgt : Int)) (kt : ¬ x = b → z_J G l y S tgt lo st w kc ks) (kf : x = b → z_J G l y S (pc + 3) lo st w kc ks) : z_J G l y S pc lo (.int b :: .int x :: st) w kc ks := by
  intro p e s m args below meth c R0 hok R H locs ls cst hat hlo hst
  obtain ⟨c1, cs1, rfl, h1, hst1⟩ := z_Lc hst
  obtain ⟨c2, cs2, rfl, h2, hst2⟩ := z_Lc hst1
  have h1 : c1 = .int b := h1
  have h2 : c2 = .int x := h2
  subst h1 h2
  exact lv_icmp_ne hok.1 hok.2.1 hd ht (fun c9 => kt c9 p e s m args below meth c R0 hok R H locs ls _ hat hlo hst2) (fun c9 => kf c9 p e s m args below meth c R0 hok R H locs ls _ hat hlo hst2)
theorem j_if_lt {x : Int32} {off : Int} {tgt : Nat} (hd : decode y.2.1 pc = .ok (.ifCond .lt off, 3)) (ht : (pc : Int) + off = (tgt : Int)) (kt : x < 0 → z_J G l y S tgt lo st w kc ks) (kf : ¬ x < 0 → z_J G l y S (pc + 3) lo st w kc ks) : z_J G l y S pc lo (.int x :: st) w kc ks := by
  intro p e s m args below meth c R0 hok R H locs ls cst hat hlo hst
  obtain ⟨c1, cs1, rfl, h1, hst1⟩ := z_Lc hst
  have h1 : c1 = .int x := h1
  subst h1
  exact lv_if_lt hok.1 hok.2.1 hd ht (fun c9 => kt c9 p e s m args below meth c R0 hok R H locs ls _ hat hlo hst1) (fun c9 => kf c9 p e s m args below meth c R0 hok R H locs ls _ hat hlo hst1)
theorem j_icmp_lt {x b : Int32} {off : Int} {tgt : Nat} (hd : decode y.2.1 pc = .ok (.if_icmp .lt off, 3)) (ht : (pc : Int) + off = (tgt : Int)) (kt : x < b → z_J G l y S tgt lo st w kc ks) (kf : ¬ x < b → z_J G l y S (pc + 3) lo st w kc ks) : z_J G l y S pc lo (.int b :: .int x :: st) w kc ks := by
  intro p e s m args below meth c R0 hok R H locs ls cst hat hlo hst
  obtain ⟨c1, cs1, rfl, h1, hst1⟩ := z_Lc hst
  obtain ⟨c2, cs2, rfl, h2, hst2⟩ := z_Lc hst1
  have h1 : c1 = .int b := h1
  have h2 : c2 = .int x := h2
  subst h1 h2
  exact lv_icmp_lt hok.1 hok.2.1 hd ht (fun c9 => kt c9 p e s m args below meth c R0 hok R H locs ls _ hat hlo hst2) (fun c9 => kf c9 p e s m args below meth c R0 hok R H locs ls _ hat hlo hst2)
theorem j_if_ge {x : Int32} {off : Int} {tgt : Nat} (hd : decode y.2.1 pc = .ok (.ifCond .ge off, 3)) (ht : (pc : Int) + off = (tgt : Int)) (kt : 0 ≤ x → z_J G l y S tgt lo st w kc ks) (kf : ¬ 0 ≤ x → z_J G l y S (pc + 3) lo st w kc ks) : z_J G l y S pc lo (.int x :: st) w kc ks := by
  intro p e s m args below meth c R0 hok R H locs ls cst hat hlo hst
  obtain ⟨c1, cs1, rfl, h1, hst1⟩ := z_Lc hst
  have h1 : c1 = .int x := h1
  subst h1
  exact lv_if_ge hok.1 hok.2.1 hd ht (fun c9 => kt c9 p e s m args below meth c R0 hok R H locs ls _ hat hlo hst1) (fun c9 => kf c9 p e s m args below meth c R0 hok R H locs ls _ hat hlo hst1)
theorem j_icmp_ge {x b : Int32} {off : Int} {tgt : Nat} (hd : decode y.2.1 pc = .ok (.if_icmp .ge off, 3)) (ht : (pc : Int) + off = (tgt : Int)) (kt : b ≤ x → z_J G l y S tgt lo st w kc ks) (kf : ¬ b ≤ x → z_J G l y S (pc + 3) lo st w kc ks) : z_J G l y S pc lo (.int b :: .int x :: st) w kc ks := by
  intro p e s m args below meth c R0 hok R H locs ls cst hat hlo hst
  obtain ⟨c1, cs1, rfl, h1, hst1⟩ := z_Lc hst
  obtain ⟨c2, cs2, rfl, h2, hst2⟩ := z_Lc hst1
  have h1 : c1 = .int b := h1
  have h2 : c2 = .int x := h2
  subst h1 h2
  exact lv_icmp_ge hok.1 hok.2.1 hd ht (fun c9 => kt c9 p e s m args below meth c R0 hok R H locs ls _ hat hlo hst2) (fun c9 => kf c9 p e s m args below meth c R0 hok R H locs ls _ hat hlo hst2)
theorem j_if_gt {x : Int32} {off : Int} {tgt : Nat} (hd : decode y.2.1 pc = .ok (.ifCond .gt off, 3)) (ht : (pc : Int) + off = (tgt : Int)) (kt : 0 < x → z_J G l y S tgt lo st w kc ks) (kf : ¬ 0 < x → z_J G l y S (pc + 3) lo st w kc ks) : z_J G l y S pc lo (.int x :: st) w kc ks := by
  intro p e s m args below meth c R0 hok R H locs ls cst hat hlo hst
  obtain ⟨c1, cs1, rfl, h1, hst1⟩ := z_Lc hst
  have h1 : c1 = .int x := h1
  subst h1
  exact lv_if_gt hok.1 hok.2.1 hd ht (fun c9 => kt c9 p e s m args below meth c R0 hok R H locs ls _ hat hlo hst1) (fun c9 => kf c9 p e s m args below meth c R0 hok R H locs ls _ hat hlo hst1)
theorem j_icmp_gt {x b : Int32} {off : Int} {tgt : Nat} (hd : decode y.2.1 pc = .ok (.if_icmp .gt off, 3)) (ht : (pc : Int) + off = (tgt : Int)) (kt : b < x → z_J G l y S tgt lo st w kc ks) (kf : ¬ b < x → z_J G l y S (pc + 3) lo st w kc ks) : z_J G l y S pc lo (.int b :: .int x :: st) w kc ks := by
  intro p e s m args below meth c R0 hok R H locs ls cst hat hlo hst
  obtain ⟨c1, cs1, rfl, h1, hst1⟩ := z_Lc hst
  obtain ⟨c2, cs2, rfl, h2, hst2⟩ := z_Lc hst1
  have h1 : c1 = .int b := h1
  have h2 : c2 = .int x := h2
  subst h1 h2
  exact lv_icmp_gt hok.1 hok.2.1 hd ht (fun c9 => kt c9 p e s m args below meth c R0 hok R H locs ls _ hat hlo hst2) (fun c9 => kf c9 p e s m args below meth c R0 hok R H locs ls _ hat hlo hst2)
theorem j_if_le {x : Int32} {off : Int} {tgt : Nat} (hd : decode y.2.1 pc = .ok (.ifCond .le off, 3)) (ht : (pc : Int) + off = (tgt : Int)) (kt : x ≤ 0 → z_J G l y S tgt lo st w kc ks) (kf : ¬ x ≤ 0 → z_J G l y S (pc + 3) lo st w kc ks) : z_J G l y S pc lo (.int x :: st) w kc ks := by
  intro p e s m args below meth c R0 hok R H locs ls cst hat hlo hst
  obtain ⟨c1, cs1, rfl, h1, hst1⟩ := z_Lc hst
  have h1 : c1 = .int x := h1
  subst h1
  exact lv_if_le hok.1 hok.2.1 hd ht (fun c9 => kt c9 p e s m args below meth c R0 hok R H locs ls _ hat hlo hst1) (fun c9 => kf c9 p e s m args below meth c R0 hok R H locs ls _ hat hlo hst1)
theorem j_icmp_le {x b : Int32} {off : Int} {tgt : Nat} (hd : decode y.2.1 pc = .ok (.if_icmp .le off, 3)) (ht : (pc : Int) + off = (tgt : Int)) (kt : x ≤ b → z_J G l y S tgt lo st w kc ks) (kf : ¬ x ≤ b → z_J G l y S (pc + 3) lo st w kc ks) : z_J G l y S pc lo (.int b :: .int x :: st) w kc ks := by
  intro p e s m args below meth c R0 hok R H locs ls cst hat hlo hst
  obtain ⟨c1, cs1, rfl, h1, hst1⟩ := z_Lc hst
  obtain ⟨c2, cs2, rfl, h2, hst2⟩ := z_Lc hst1
  have h1 : c1 = .int b := h1
  have h2 : c2 = .int x := h2
  subst h1 h2
  exact lv_icmp_le hok.1 hok.2.1 hd ht (fun c9 => kt c9 p e s m args below meth c R0 hok R H locs ls _ hat hlo hst2) (fun c9 => kf c9 p e s m args below meth c R0 hok R H locs ls _ hat hlo hst2)
theorem j_widen {kc' ks' : Nat} (h1 : kc ≤ kc') (h2 : ks ≤ ks') (h : z_J G l y S pc lo st w kc' ks') : z_J G l y S pc lo st w kc ks := by
  intro p e s m args below meth c R0 hok R H locs ls cst hat hlo hst
  exact W.widen h1 h2 (h p e s m args below meth c R0 hok R H locs ls _ hat hlo hst)
theorem j_lo {lo' : List (Nat × Value)} (hs : ∀ q ∈ lo', z_find lo q.1 = some q.2) (h : z_J G l y S pc lo' st w kc ks) : z_J G l y S pc lo st w kc ks := by
  intro p e s m args below meth c R0 hok R H locs ls cst hat hlo hst
  refine h p e s m args below meth c R0 hok R H locs ls _ hat ?_ hst
  clear h
  induction lo' with
  | nil => obtain ⟨clo, h1, -⟩ := hlo; exact ⟨[], ⟨h1.1, h1.2.1, fun _ h => by cases h⟩, trivial⟩
  | cons q t ih =>
    obtain ⟨clo, h1, h2⟩ := ih (fun q' hq => hs q' (List.mem_cons_of_mem _ hq))
    obtain ⟨cv, h3, h4⟩ := z_lof hlo (hs q List.mem_cons_self)
    exact ⟨(q.1, cv) :: clo, ⟨h1.1, h1.2.1, fun x hx => by
      rcases List.mem_cons.mp hx with rfl | hx
      · exact h3
      · exact h1.2.2 x hx⟩, ⟨⟨rfl, h4⟩, h2⟩⟩
end ZR
