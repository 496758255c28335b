section ZMn
variable {G : z_G} {l : Launch} {y : z_M} {S : z_S} {pc : Nat} {lo : List (Nat × Value)} {st : List Value} {w w' : z_W} {kc ks : Nat}
theorem z_inn (cc : ClassId) : Jvm.Free.Multi.innerC cc 7 (.int 0) = arrV cc 7 (fun _ => .int 0) := by
  show ({ cls := cc, slots := Array.replicate 7 (.int 0), vm := .none } : Cell) = _
  rw [arrV_new]
theorem z_out3 (cc : ClassId) (h0 : Nat) : Jvm.Free.Multi.outerC cc 3 h0 3 = arrV cc 3 (fun j => if j < 3 then .ref (h0 + 1 + j) else .null) := by
  rw [vr_outer]
  refine congrArg (arrV cc 3) (funext fun j => ?_)
  by_cases h : j < 3
  · rw [if_pos h, if_pos h]; rfl
  · rw [if_neg h, if_neg h]; rfl
set_option maxHeartbeats 4000000 in
theorem j_mnew {idx a b c d : Nat} (hd : decode y.2.1 pc = .ok (.multianewarray idx 2, 4)) (hcl : Cond.classLink y.1.cls idx "[[I" ∈ z_tbl) (hov : Cond.arrayOver (.array .int) ∈ z_nst) (har : Cond.arrayClass .int ∈ z_tbl)
    (ha : 1000 ≤ a) (hb : 1000 ≤ b) (hc : 1000 ≤ c) (hd9 : 1000 ≤ d) (fa : z_g w a = none) (fb : z_g w b = none) (fc : z_g w c = none) (fd : z_g w d = none) (nab : b ≠ a) (nac : c ≠ a) (nad : d ≠ a) (nbc : c ≠ b) (nbd : d ≠ b) (ncd : d ≠ c)
    (hcs : kc + (1 + 3) ≤ S.2.1) (hss : ks + (3 + 3 * 7) ≤ S.2.2.1)
    (h : z_J G l y S (pc + 4) lo (.ref a :: st) (z_s (z_s (z_s (z_s (z_s w a (.inl (8, 3, fun _ => .null))) b (.inl (0, 7, fun _ => .int 0))) c (.inl (0, 7, fun _ => .int 0))) d (.inl (0, 7, fun _ => .int 0))) a (.inl (8, 3, z_u (z_u (z_u (fun _ => .null) 0 (.ref b)) 1 (.ref c)) 2 (.ref d)))) (kc + 1 + 3) (ks + 3 + 3 * 7)) : z_J G l y S pc lo (.int 7 :: .int 3 :: st) w kc ks := by
  intro p e s m args below meth c9 R0 hok R H locs ls cst hat hlo hst
  obtain ⟨v1, cs1, rfl, e1, hst1⟩ := z_Lc hst
  obtain ⟨v2, cs2, rfl, e2, hst2⟩ := z_Lc hst1
  have e1 : v1 = .int 7 := e1
  have e2 : v2 = .int 3 := e2
  subst e1 e2
  have hok2 := hok
  obtain ⟨hx, hbc, -, -, -, hown, hts, henv, -, hbs, -⟩ := hok2
  obtain ⟨hO8, hR8⟩ := henv.2.1 8 _ rfl
  obtain ⟨hO0, hR0⟩ := henv.2.1 0 _ rfl
  have g8 := z_RAf hR8
  have g0 := z_RAf hR0
  intro T hT X
  obtain ⟨vm₁, cA, comp, -, fA, fC, -, -, X', step⟩ := X.multianewarray2F hx (ty := .int) hown (hts _ hcl) (show (Cond.arrayOver (.array .int)).before args s = true from henv.2.2.1 _ hov) (hts _ har) (g := F0 m pc ls (.int 7 :: .int 3 :: cs2)) rfl (by rw [hbc]; exact hd) rfl (by decide) (by decide) (by decide) (by decide) (by decide) rfl rfl hcs hss
  have ea : cA = z_dA G 8 := Option.some.inj (fA.symm.trans g8)
  have eb : comp = z_dA G 0 := Option.some.inj (fC.symm.trans g0)
  subst ea eb
  have n3 : ((3 : Int32)).toNatClampNeg = 3 := by decide
  have n7 : ((7 : Int32)).toNatClampNeg = 7 := by decide
  rw [n3, n7] at X' step
  have hTh : (T.setVm vm₁).heap = H := hT
  generalize hF : Jvm.Free.Multi.fill (T.setVm vm₁) (z_dA G 8) (z_dA G 0) 3 7 (defaultValue .int) 3 = F at X' step
  obtain ⟨f1, f2, -, -⟩ := Jvm.Free.Multi.fill_facts (T.setVm vm₁) (z_dA G 8) (z_dA G 0) 3 7 (defaultValue .int) 3
  rw [hF, hTh] at f1 f2
  have hold : ∀ x : Nat, x < H.size → F.heap[x]? = H[x]? := fun x hx => by
    have := Jvm.Free.Multi.fill_old (T.setVm vm₁) (z_dA G 8) (z_dA G 0) 3 7 (defaultValue .int) (a := x) (by rw [hTh]; exact hx) 3
    rw [hF, hTh] at this
    exact this
  have hrow : ∀ j : Nat, j < 3 → F.heap[H.size + 1 + j]? = some (arrV (z_dA G 0) 7 (fun _ => .int 0)) := fun j hj => by
    have := Jvm.Free.Multi.fill_inner (T.setVm vm₁) (z_dA G 8) (z_dA G 0) 3 7 (defaultValue .int) 3 j hj
    rw [hF, hTh] at this
    exact this.trans (congrArg some (z_inn _))
  rw [z_out3] at f2
  have wa := z_alW (e := .inl (8, 3, fun _ => .null)) fa ha
  have fb1 : z_g (z_s w a (.inl (8, 3, fun _ => .null))) b = none := by rw [z_gs_ne nab]; exact fb
  have wb := z_alW (e := .inl (0, 7, fun _ => .int 0)) fb1 hb
  have fc1 : z_g (z_s (z_s w a (.inl (8, 3, fun _ => .null))) b (.inl (0, 7, fun _ => .int 0))) c = none := by rw [z_gs_ne nbc, z_gs_ne nac]; exact fc
  have wc := z_alW (e := .inl (0, 7, fun _ => .int 0)) fc1 hc
  have fd1 : z_g (z_s (z_s (z_s w a (.inl (8, 3, fun _ => .null))) b (.inl (0, 7, fun _ => .int 0))) c (.inl (0, 7, fun _ => .int 0))) d = none := by rw [z_gs_ne ncd, z_gs_ne nbd, z_gs_ne nad]; exact fd
  have wd := z_alW (e := .inl (0, 7, fun _ => .int 0)) fd1 hd9
  have hat1 := z_alloc hbs hat wa.1 wa.2 (H' := H.push (arrV (z_dA G 8) 3 (fun _ => .null))) (Array.size_push _) (fun q hq => by rw [Array.getElem?_push, if_neg (Nat.ne_of_lt hq)]) ⟨fun _ => .null, Array.getElem?_push_size, fun _ _ => rfl⟩
  have s1 : (H.push (arrV (z_dA G 8) 3 (fun _ => .null))).size = H.size + 1 := Array.size_push _
  generalize hP1 : H.push (arrV (z_dA G 8) 3 (fun _ => .null)) = P1 at hat1 s1
  have hat2 := z_alloc hbs hat1 wb.1 wb.2 (H' := P1.push (arrV (z_dA G 0) 7 (fun _ => .int 0))) (Array.size_push _) (fun q hq => by rw [Array.getElem?_push, if_neg (Nat.ne_of_lt hq)]) ⟨fun _ => .int 0, Array.getElem?_push_size, fun _ _ => rfl⟩
  have s2 : (P1.push (arrV (z_dA G 0) 7 (fun _ => .int 0))).size = P1.size + 1 := Array.size_push _
  generalize hP2 : P1.push (arrV (z_dA G 0) 7 (fun _ => .int 0)) = P2 at hat2 s2
  have hat3 := z_alloc hbs hat2 wc.1 wc.2 (H' := P2.push (arrV (z_dA G 0) 7 (fun _ => .int 0))) (Array.size_push _) (fun q hq => by rw [Array.getElem?_push, if_neg (Nat.ne_of_lt hq)]) ⟨fun _ => .int 0, Array.getElem?_push_size, fun _ _ => rfl⟩
  have s3 : (P2.push (arrV (z_dA G 0) 7 (fun _ => .int 0))).size = P2.size + 1 := Array.size_push _
  generalize hP3 : P2.push (arrV (z_dA G 0) 7 (fun _ => .int 0)) = P3 at hat3 s3
  have hat4 := z_alloc hbs hat3 wd.1 wd.2 (H' := P3.push (arrV (z_dA G 0) 7 (fun _ => .int 0))) (Array.size_push _) (fun q hq => by rw [Array.getElem?_push, if_neg (Nat.ne_of_lt hq)]) ⟨fun _ => .int 0, Array.getElem?_push_size, fun _ _ => rfl⟩
  have s4 : (P3.push (arrV (z_dA G 0) 7 (fun _ => .int 0))).size = P3.size + 1 := Array.size_push _
  generalize hP4 : P3.push (arrV (z_dA G 0) 7 (fun _ => .int 0)) = P4 at hat4 s4
  have vV : ∀ v cv, z_V G R w v cv → z_V G ((fun m => if m = d then P3.size else (fun m => if m = c then P2.size else (fun m => if m = b then P1.size else (fun m => if m = a then H.size else R.1 m) m) m) m), R.2) _ v cv := fun v cv hv => z_Va (q := P3.size) wd.1 wd.2 v cv (z_Va (q := P2.size) wc.1 wc.2 v cv (z_Va (q := P1.size) wb.1 wb.2 v cv (z_Va (q := H.size) wa.1 wa.2 v cv hv)))
  generalize hw4 : z_s (z_s (z_s (z_s w a (.inl (8, 3, fun _ => .null))) b (.inl (0, 7, fun _ => .int 0))) c (.inl (0, 7, fun _ => .int 0))) d (.inl (0, 7, fun _ => .int 0)) = w4 at hat4 h vV
  have ga : z_g w4 a = some (.inl (8, 3, fun _ => .null)) := by rw [← hw4, z_gs_ne (Ne.symm nad), z_gs_ne (Ne.symm nac), z_gs_ne (Ne.symm nab)]; exact wa.2.1
  have gb : z_d w4 b := ⟨.inl (0, 7, fun _ => .int 0), by rw [← hw4, z_gs_ne (Ne.symm nbd), z_gs_ne (Ne.symm nbc)]; exact wb.2.1⟩
  have gc : z_d w4 c := ⟨.inl (0, 7, fun _ => .int 0), by rw [← hw4, z_gs_ne (Ne.symm ncd)]; exact wc.2.1⟩
  have gd : z_d w4 d := ⟨.inl (0, 7, fun _ => .int 0), by rw [← hw4]; exact wd.2.1⟩
  generalize hR4 : (((fun m => if m = d then P3.size else (fun m => if m = c then P2.size else (fun m => if m = b then P1.size else (fun m => if m = a then H.size else R.1 m) m) m) m) : Nat → Nat), R.2) = R4 at hat4
  have ra : R4.1 a = H.size := by rw [← hR4]; simp [Ne.symm nad, Ne.symm nac, Ne.symm nab]
  have rb : R4.1 b = H.size + 1 := by rw [← hR4]; simp [Ne.symm nbd, Ne.symm nbc, s1]
  have rc : R4.1 c = H.size + 1 + 1 := by rw [← hR4]; simp [Ne.symm ncd, s1, s2]
  have rd : R4.1 d = H.size + 1 + 2 := by rw [← hR4]; simp [s1, s2, s3]
  have hq4 : ∀ q : Nat, q ≠ H.size → F.heap[q]? = P4[q]? := fun q hq => by
    rw [← hP4, ← hP3, ← hP2, ← hP1]
    rcases Nat.lt_trichotomy q H.size with h1 | h1 | h1
    · rw [hold q h1, Array.getElem?_push, if_neg (by simp; omega), Array.getElem?_push, if_neg (by simp; omega), Array.getElem?_push, if_neg (by simp; omega), Array.getElem?_push, if_neg (by omega)]
    · exact absurd h1 hq
    · by_cases h2 : q < H.size + 4
      · obtain ⟨j, hj, rfl⟩ : ∃ j, j < 3 ∧ q = H.size + 1 + j := ⟨q - (H.size + 1), by omega, by omega⟩
        rw [hrow j hj]
        rcases (by omega : j = 0 ∨ j = 1 ∨ j = 2) with rfl | rfl | rfl
        · rw [Array.getElem?_push, if_neg (by simp <;> omega), Array.getElem?_push, if_neg (by simp), Array.getElem?_push, if_pos (by simp)]
        · rw [Array.getElem?_push, if_neg (by simp), Array.getElem?_push, if_pos (by simp)]
        · rw [Array.getElem?_push, if_pos (by simp)]
      · rw [Array.getElem?_eq_none (by rw [f1]; omega), Array.getElem?_eq_none (by simp; omega)]
  have hat5 := z_writeM (H' := F.heap) (L := []) (e := .inl (8, 3, z_u (z_u (z_u (fun _ => .null) 0 (.ref b)) 1 (.ref c)) 2 (.ref d))) hat4 ga (by rw [f1]; omega) (fun q hq => hq4 q (by rw [← ra]; exact hq)) ⟨fun j => if j < 3 then .ref (H.size + 1 + j) else .null, by rw [ra]; exact f2, fun j hj => by
    have hdd : ∀ n, z_d (z_s w4 a (.inl (8, 3, z_u (z_u (z_u (fun _ => .null) 0 (.ref b)) 1 (.ref c)) 2 (.ref d)))) n ↔ z_d w4 n := z_ds ga
    match j, hj with
    | 0, _ => exact ⟨(hdd b).mpr gb, by rw [rb]; rfl⟩
    | 1, _ => exact ⟨(hdd c).mpr gc, by rw [rc]; rfl⟩
    | 2, _ => exact ⟨(hdd d).mpr gd, by rw [rd]; rfl⟩⟩ (fun x hx => by cases hx)
  rw [List.append_nil] at hat5
  have vV5 : ∀ v cv, z_V G R w v cv → z_V G R4 (z_s w4 a (.inl (8, 3, z_u (z_u (z_u (fun _ => .null) 0 (.ref b)) 1 (.ref c)) 2 (.ref d)))) v cv := fun v cv hv => z_Vs ga v cv (by rw [← hR4]; exact vV v cv hv)
  obtain ⟨t, t1, t2⟩ := h p e s m args below meth c9 R0 hok R4 F.heap locs ls (.ref H.size :: cs2) hat5 (z_lom vV5 hlo) ⟨⟨(z_ds ga a).mpr ⟨_, ga⟩, by rw [ra]⟩, z_Lm vV5 hst2⟩ F rfl X'
  refine ⟨t, step t ?_, t2⟩
  have e9 : T.heap.size = H.size := by rw [hT]
  rw [e9]
  exact t1
end ZMn
