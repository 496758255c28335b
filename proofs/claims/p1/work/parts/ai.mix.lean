section ZDg
def sp_mx (d : Int64) (x : Int32) : Int64 := d * 31 + x.toInt64
def sp_mxl (d : Int64) (L : List Int32) : Int64 := L.foldl sp_mx d
theorem sp_mxl_app {d : Int64} {A B : List Int32} : sp_mxl d (A ++ B) = sp_mxl (sp_mxl d A) B := List.foldl_append
theorem sp_mxl_nil {d : Int64} : sp_mxl d [] = d := rfl
theorem sp_mxl_c {d : Int64} {x : Int32} {L : List Int32} : sp_mxl d (x :: L) = sp_mxl (sp_mx d x) L := rfl
theorem sp_mxl_s {d : Int64} {L : List Int32} {x : Int32} : sp_mxl d (L ++ [x]) = sp_mx (sp_mxl d L) x := sp_mxl_app
def sp_rwl (B : List Int32) (x : Bool) (c : Nat → Int32) : List Int32 := nI B.length :: (B ++ (z_bi x :: (List.range 5).map c))
def sp_tbl (T : List (Nat × Int32)) : List Int32 := T.flatMap fun p => [nI p.1, p.2]
theorem sp_tbl_s {T : List (Nat × Int32)} {j : Nat} {p : Nat × Int32} (h : T[j]? = some p) : sp_tbl (T.take (j + 1)) = sp_tbl (T.take j) ++ [nI p.1, p.2] := by
  unfold sp_tbl
  rw [List.take_succ, h, List.flatMap_append]
  rfl
theorem z_row.tk {N : Nat} {m : Int32} {f : Nat → Int32} {B : List Int32} {j : Nat} (h : z_row N m f B) (hj : j < B.length) : B.take (j + 1) = B.take j ++ [f j] := by
  rw [List.take_succ, h.2.2 j hj]
  rfl
theorem sp_rg {c : Nat → Int32} {i : Nat} : (List.range (i + 1)).map c = (List.range i).map c ++ [c i] := by
  rw [List.range_succ, List.map_append]
  rfl
def sp_jl (L : List Int32) : Nat := (L.map z_sz).sum + (L.length - 1)
theorem sp_jl_s {L : List Int32} {x : Int32} : sp_jl (L ++ [x]) = sp_jl L + (if L.length = 0 then 0 else 1) + z_sz x := by
  unfold sp_jl
  rw [List.map_append, List.sum_append, List.length_append]
  show (L.map z_sz).sum + (z_sz x + 0) + (L.length + 1 - 1) = _
  split <;> omega
def sp_hel (E : sp_H) : List Int32 := (List.range 4).map (fun i => sp_tel E (nI i)) ++ [nI (sp_jl E.2)]
def sp_hsv (S : sp_S) (k : Nat) : Int32 := sp_hse S (nI k)
def sp_rws (S : sp_S) : Nat → List Int32
  | 0 => []
  | k + 1 => sp_rws S k ++ sp_rwl (sp_R S k) (sp_F S k) (sp_C S k)
def sp_tbs (S : sp_S) : Nat → List Int32
  | 0 => []
  | k + 1 => sp_tbs S k ++ (nI (sp_T S k).length :: sp_tbl (sp_T S k))
def sp_hes (S : sp_S) : Nat → List Int32
  | 0 => []
  | k + 1 => sp_hes S k ++ sp_hel (sp_E S k)
def sp_d1 (S : sp_S) : Int64 := sp_mxl 7774 ((List.range 5).map (sp_hsv S))
def sp_d2 (S : sp_S) : Int64 := sp_mxl (sp_d1 S) (sp_rws S 2)
def sp_d3 (S : sp_S) : Int64 := sp_mxl (sp_d2 S) (sp_tbs S 3)
def sp_d4 (S : sp_S) : Int64 := sp_mxl (sp_d3 S) ((List.range 7).map (sp_C S 2))
def sp_d5 (S : sp_S) : Int64 := sp_mxl (sp_d4 S) (sp_hes S 2)
def sp_dg (S : sp_S) : Int64 := sp_mx (sp_d5 S) 1
theorem sp_e1 {S : sp_S} : sp_mxl 7774 ((List.range 5).map (sp_hsv S)) = sp_mxl (sp_d1 S) (sp_rws S 0) := (show sp_mxl 7774 ((List.range 5).map (sp_hsv S)) = sp_d1 S from rfl).trans (sp_mxl_nil (d := sp_d1 S)).symm
theorem sp_e2 {S : sp_S} : sp_mxl (sp_d1 S) (sp_rws S 2) = sp_mxl (sp_d2 S) (sp_tbs S 0) := (show sp_mxl (sp_d1 S) (sp_rws S 2) = sp_d2 S from rfl).trans (sp_mxl_nil (d := sp_d2 S)).symm
theorem sp_e3 {S : sp_S} : sp_mxl (sp_d2 S) (sp_tbs S 3) = sp_mxl (sp_d3 S) ((List.range 0).map (sp_C S 2)) := (show sp_mxl (sp_d2 S) (sp_tbs S 3) = sp_d3 S from rfl).trans (sp_mxl_nil (d := sp_d3 S)).symm
theorem sp_e4 {S : sp_S} : sp_mxl (sp_d3 S) ((List.range 7).map (sp_C S 2)) = sp_mxl (sp_d4 S) (sp_hes S 0) := (show sp_mxl (sp_d3 S) ((List.range 7).map (sp_C S 2)) = sp_d4 S from rfl).trans (sp_mxl_nil (d := sp_d4 S)).symm
theorem sp_e5 {S : sp_S} : sp_mx (sp_mxl (sp_d4 S) (sp_hes S 2)) (z_bi true) = sp_dg S := congrArg (fun d => sp_mx d 1) (show sp_mxl (sp_d4 S) (sp_hes S 2) = sp_d5 S from rfl)
end ZDg
section ZDm
variable {G : z_G} {l : Launch}
theorem c_X8_mixed_e (hl : l.stackTraces = false) (w : z_W) (a : Int64) (b : Int32) : z_Con G l mX8_mixed 10 0 0 w [.long a, .int b] (fun v w9 => v = some (.long (sp_mx a b)) ∧ w9 = w) (fun _ _ => False) := by
  refine z_body hl (by decide) rfl (Nat.le_of_ble_eq_true rfl) ?_
  show z_J G l mX8_mixed ((10, 0, 0, w, (fun v w9 => v = some (.long (sp_mx a b)) ∧ w9 = w), fun _ _ => False)) 0 [(0, _), (2, _)] [] _ 0 0
  refine j_lload_n dX8_mixed_0 rfl ?_
  refine j_ldc2 dX8_mixed_1 kcX8_350 ?_
  refine j_lmul dX8_mixed_4 ?_
  refine j_iload_n dX8_mixed_5 rfl ?_
  refine j_i2l dX8_mixed_6 ?_
  refine j_ladd dX8_mixed_7 ?_
  refine j_lret dX8_mixed_8 rfl ?_ (Nat.le_of_ble_eq_true rfl) (Nat.le_of_ble_eq_true rfl)
  exact ⟨rfl, rfl⟩
set_option maxRecDepth 100000 in
set_option maxHeartbeats 8000000 in
theorem c_X8_mixedRow_e (hl : l.stackTraces = false) (x : Bool) (f c : Nat → Int32) (B : List Int32) (M : Nat) (a : Int64) (hr : z_row 12 (nI M) f B) (hM : M = B.length) : z_CF G l mX8_mixedRow 12 0 0 [.inr (6, [.ref 1, .ref 2, .int (nI M), .int (z_bi x)]), z_ia 12 f, .inr (11, [.ref 3]), z_ia 7 c] [.long a, .ref 0] (fun v L => v = some (.long (sp_mxl a (sp_rwl B x c))) ∧ L = [.inr (6, [.ref 1, .ref 2, .int (nI M), .int (z_bi x)]), z_ia 12 f, .inr (11, [.ref 3]), z_ia 7 c]) := by
  refine z_body hl (by decide) rfl (Nat.le_of_ble_eq_true rfl) ?_
  show z_J G l mX8_mixedRow (z_SF 12 0 0 [.inr (6, [.ref 1, .ref 2, .int (nI M), .int (z_bi x)]), z_ia 12 f, .inr (11, [.ref 3]), z_ia 7 c] (fun v L => v = some (.long (sp_mxl a (sp_rwl B x c))) ∧ L = [.inr (6, [.ref 1, .ref 2, .int (nI M), .int (z_bi x)]), z_ia 12 f, .inr (11, [.ref 3]), z_ia 7 c])) 0 [(0, _), (2, _)] [] _ 0 0
  have hln := hr.2.1
  refine j_lload_n dX8_mixedRow_0 rfl ?_
  refine j_aload_n dX8_mixedRow_1 rfl rfl ?_
  refine j_getf dX8_mixedRow_2 fX8_68 rfl rfl ?_
  refine j_callS dX8_mixedRow_5 kX8_mixed lX8_277 stX8_mixed (c_X8_mixed_e hl _ _ _) (Nat.le_of_ble_eq_true rfl) ⟨(Nat.le_of_ble_eq_true rfl), (Nat.le_of_ble_eq_true rfl)⟩ rfl (Nat.le_of_ble_eq_true rfl) rfl rfl (fun _ _ h => h.elim) ?_
  rintro _ _ ⟨rfl, rfl⟩
  refine j_lstore_n (lo' := [(3, _), (0, _), (2, _)]) dX8_mixedRow_8 (by decide) rfl ?_
  refine j_iconst (v := 0) dX8_mixedRow_9 (by decide) ?_
  refine j_istore (lo' := [(5, _), (3, _), (0, _), (2, _)]) dX8_mixedRow_10 (by decide) rfl ?_
  have loop : ∀ (n9 : Nat) (d : Int64) (j : Nat), (d = sp_mxl (sp_mx a (nI M)) (B.take j)) → (j ≤ M) → (M < j + n9) → z_J G l mX8_mixedRow (z_SF 12 0 0 [.inr (6, [.ref 1, .ref 2, .int (nI M), .int (z_bi x)]), z_ia 12 f, .inr (11, [.ref 3]), z_ia 7 c] (fun v L => v = some (.long (sp_mxl a (sp_rwl B x c))) ∧ L = [.inr (6, [.ref 1, .ref 2, .int (nI M), .int (z_bi x)]), z_ia 12 f, .inr (11, [.ref 3]), z_ia 7 c])) 12 [(0, .long a), (2, .ref 0), (3, .long d), (5, .int (nI j))] [] ([.inr (6, [.ref 1, .ref 2, .int (nI M), .int (z_bi x)]), z_ia 12 f, .inr (11, [.ref 3]), z_ia 7 c], z_no) 0 0 := by
    intro n9
    induction n9 with
    | zero => intro d j hd hj hf9; exact absurd hf9 (by omega)
    | succ n9 ih =>
      intro d j hd hj hf9
      refine j_iload dX8_mixedRow_12 rfl ?_
      refine j_aload_n dX8_mixedRow_14 rfl rfl ?_
      refine j_getf dX8_mixedRow_15 fX8_68 rfl rfl ?_
      refine j_icmp_ge (tgt := 38) dX8_mixedRow_18 (by decide) (fun c_18 => ?_) (fun c_18 => ?_)
      · have hb18 : M ≤ j := (nI_leI (a := M) (b := j) (by omega) (by omega)).mp c_18
        have hjM : j = M := by omega
        refine j_lload_n dX8_mixedRow_38 rfl ?_
        refine j_aload_n dX8_mixedRow_39 rfl rfl ?_
        refine j_getf dX8_mixedRow_40 fX8_79 rfl rfl ?_
        refine j_callS dX8_mixedRow_43 kX8_oneIf lX8_83 stX8_oneIf (c_X8_oneIf_b hl _ x) (Nat.le_of_ble_eq_true rfl) ⟨(Nat.le_of_ble_eq_true rfl), (Nat.le_of_ble_eq_true rfl)⟩ rfl (Nat.le_of_ble_eq_true rfl) rfl rfl (fun _ _ h => h.elim) ?_
        rintro _ _ ⟨rfl, rfl⟩
        refine j_callS dX8_mixedRow_46 kX8_mixed lX8_277 stX8_mixed (c_X8_mixed_e hl _ _ _) (Nat.le_of_ble_eq_true rfl) ⟨(Nat.le_of_ble_eq_true rfl), (Nat.le_of_ble_eq_true rfl)⟩ rfl (Nat.le_of_ble_eq_true rfl) rfl rfl (fun _ _ h => h.elim) ?_
        rintro _ _ ⟨rfl, rfl⟩
        refine j_lstore_n (lo' := [(3, _), (0, _), (2, _), (5, _)]) dX8_mixedRow_49 (by decide) rfl ?_
        refine j_iconst (v := 0) dX8_mixedRow_50 (by decide) ?_
        refine j_istore (lo' := [(5, _), (3, _), (0, _), (2, _)]) dX8_mixedRow_51 (by decide) rfl ?_
        have loop2 : ∀ (n8 : Nat) (e : Int64) (i : Nat), (e = sp_mxl (sp_mx d (z_bi x)) ((List.range i).map c)) → (i ≤ 5) → (5 < i + n8) → z_J G l mX8_mixedRow (z_SF 12 0 0 [.inr (6, [.ref 1, .ref 2, .int (nI M), .int (z_bi x)]), z_ia 12 f, .inr (11, [.ref 3]), z_ia 7 c] (fun v L => v = some (.long (sp_mxl a (sp_rwl B x c))) ∧ L = [.inr (6, [.ref 1, .ref 2, .int (nI M), .int (z_bi x)]), z_ia 12 f, .inr (11, [.ref 3]), z_ia 7 c])) 53 [(0, .long a), (2, .ref 0), (3, .long e), (5, .int (nI i))] [] ([.inr (6, [.ref 1, .ref 2, .int (nI M), .int (z_bi x)]), z_ia 12 f, .inr (11, [.ref 3]), z_ia 7 c], z_no) 0 0 := by
          intro n8
          induction n8 with
          | zero => intro e i he hi hf8; exact absurd hf8 (by omega)
          | succ n8 ih8 =>
            intro e i he hi hf8
            refine j_iload dX8_mixedRow_53 rfl ?_
            refine j_iconst (v := 4) dX8_mixedRow_55 (by decide) ?_
            refine j_icmp_gt (tgt := 79) dX8_mixedRow_56 (by decide) (fun c_56 => ?_) (fun c_56 => ?_)
            · have hb56 : 4 < i := (nI_ltI (a := 4) (b := i) (by omega) (by omega)).mp c_56
              have hi5 : i = 5 := by omega
              refine j_lload_n dX8_mixedRow_79 rfl ?_
              refine j_lret dX8_mixedRow_80 rfl ?_ (Nat.le_of_ble_eq_true rfl) (Nat.le_of_ble_eq_true rfl)
              refine ⟨rfl, rfl, congrArg (fun z => some (Value.long z)) ?_, rfl⟩
              rw [he, hi5, hd, hjM, hM, List.take_length]
              show _ = sp_mxl a (nI B.length :: (B ++ (z_bi x :: (List.range 5).map c)))
              rw [sp_mxl_c, sp_mxl_app, sp_mxl_c]
            · have hb56 : ¬ 4 < i := fun z => c_56 ((nI_ltI (a := 4) (b := i) (by omega) (by omega)).mpr z)
              refine j_lload_n dX8_mixedRow_59 rfl ?_
              refine j_aload_n dX8_mixedRow_60 rfl rfl ?_
              refine j_getf dX8_mixedRow_61 fX8_214 rfl rfl ?_
              refine j_iload dX8_mixedRow_64 rfl ?_
              refine j_callV (q := (RX6, TX6, 1)) dX8_mixedRow_66 kX6_of lX8_218 inX6_of seX6_of rfl rfl (z_frame [2, 3] rfl (by decide) (Nat.le_of_ble_eq_true rfl) (c_X6_of_e hl _ i (by omega))) (Nat.le_of_ble_eq_true rfl) ⟨(Nat.le_of_ble_eq_true rfl), (Nat.le_of_ble_eq_true rfl)⟩ rfl (Nat.le_of_ble_eq_true rfl) rfl rfl (fun _ _ h => h.elim) ?_
              rintro _ _ ⟨_, _, ⟨rfl, rfl⟩, rfl, rfl⟩
              refine j_ws (L' := [.inr (6, [_, _, _, _]), z_ia 12 _, .inr (11, [_]), z_ia 7 _]) (by decide) rfl rfl ?_
              refine j_callS dX8_mixedRow_69 kX8_mixed lX8_277 stX8_mixed (c_X8_mixed_e hl _ _ _) (Nat.le_of_ble_eq_true rfl) ⟨(Nat.le_of_ble_eq_true rfl), (Nat.le_of_ble_eq_true rfl)⟩ rfl (Nat.le_of_ble_eq_true rfl) rfl rfl (fun _ _ h => h.elim) ?_
              rintro _ _ ⟨rfl, rfl⟩
              refine j_lstore_n (lo' := [(3, _), (0, _), (2, _), (5, _)]) dX8_mixedRow_72 (by decide) rfl ?_
              refine j_iinc (lo' := [(5, _), (3, _), (0, _), (2, _)]) dX8_mixedRow_73 rfl (z_inc _) (by decide) rfl ?_
              refine j_goto (tgt := 53) dX8_mixedRow_76 (by decide) ?_
              exact j_lo2 (ih8 _ (i + 1) (by rw [he, sp_rg, sp_mxl_s]) (by omega) (by omega)) (z_q1 rfl (z_q1 rfl (z_q1 rfl (z_q1 rfl z_q0))))
        exact j_lo2 (loop2 6 _ 0 sp_mxl_nil.symm (by omega) (by omega)) (z_q1 rfl (z_q1 rfl (z_q1 rfl (z_q1 rfl z_q0))))
      · have hb18 : j < M := Nat.not_le.mp (fun z => c_18 ((nI_leI (a := M) (b := j) (by omega) (by omega)).mpr z))
        refine j_lload_n dX8_mixedRow_21 rfl ?_
        refine j_aload_n dX8_mixedRow_22 rfl rfl ?_
        refine j_iload dX8_mixedRow_23 rfl ?_
        refine j_callV (q := (RX1, TX1, 4)) dX8_mixedRow_25 kX1_valueAt lX8_203 inX1_valueAt seX1_valueAt rfl rfl (z_frame [0, 1, 2, 3] rfl (by decide) (Nat.le_of_ble_eq_true rfl) (c_X1_valueAt_e hl _ _ _ B M j hr hM (by omega))) (Nat.le_of_ble_eq_true rfl) ⟨(Nat.le_of_ble_eq_true rfl), (Nat.le_of_ble_eq_true rfl)⟩ rfl (Nat.le_of_ble_eq_true rfl) rfl rfl (fun _ _ h => h.elim) ?_
        rintro _ _ ⟨_, _, ⟨rfl, rfl⟩, rfl, rfl⟩
        refine j_ws (L' := [.inr (6, [_, _, _, _]), z_ia 12 _, .inr (11, [_]), z_ia 7 _]) (by decide) rfl rfl ?_
        refine j_callS dX8_mixedRow_28 kX8_mixed lX8_277 stX8_mixed (c_X8_mixed_e hl _ _ _) (Nat.le_of_ble_eq_true rfl) ⟨(Nat.le_of_ble_eq_true rfl), (Nat.le_of_ble_eq_true rfl)⟩ rfl (Nat.le_of_ble_eq_true rfl) rfl rfl (fun _ _ h => h.elim) ?_
        rintro _ _ ⟨rfl, rfl⟩
        refine j_lstore_n (lo' := [(3, _), (0, _), (2, _), (5, _)]) dX8_mixedRow_31 (by decide) rfl ?_
        refine j_iinc (lo' := [(5, _), (3, _), (0, _), (2, _)]) dX8_mixedRow_32 rfl (z_inc _) (by decide) rfl ?_
        refine j_goto (tgt := 12) dX8_mixedRow_35 (by decide) ?_
        exact j_lo2 (ih _ (j + 1) (by rw [hd, hr.tk (by omega), sp_mxl_s]) (by omega) (by omega)) (z_q1 rfl (z_q1 rfl (z_q1 rfl (z_q1 rfl z_q0))))
  exact j_lo2 (loop (M + 1) _ 0 sp_mxl_nil.symm (by omega) (by omega)) (z_q1 rfl (z_q1 rfl (z_q1 rfl (z_q1 rfl z_q0))))
set_option maxRecDepth 100000 in
set_option maxHeartbeats 8000000 in
theorem c_X8_mixedTable_e (hl : l.stackTraces = false) (b : Bool) (f g c : Nat → Int32) (T : List (Nat × Int32)) (a : Int64) (ht : z_tba f g T) : z_CF G l mX8_mixedTable 12 0 0 [.inr (9, [.int (z_bi b), .ref 1, .ref 2, .ref 3, .int (nI (T).length)]), z_ia 20 f, z_ia 20 g, .inr (11, [.ref 4]), z_ia 7 c] [.long a, .ref 0] (fun v L => v = some (.long (sp_mxl a (nI T.length :: sp_tbl T))) ∧ L = [.inr (9, [.int (z_bi b), .ref 1, .ref 2, .ref 3, .int (nI (T).length)]), z_ia 20 f, z_ia 20 g, .inr (11, [.ref 4]), z_ia 7 c]) := by
  refine z_body hl (by decide) rfl (Nat.le_of_ble_eq_true rfl) ?_
  show z_J G l mX8_mixedTable (z_SF 12 0 0 [.inr (9, [.int (z_bi b), .ref 1, .ref 2, .ref 3, .int (nI (T).length)]), z_ia 20 f, z_ia 20 g, .inr (11, [.ref 4]), z_ia 7 c] (fun v L => v = some (.long (sp_mxl a (nI T.length :: sp_tbl T))) ∧ L = [.inr (9, [.int (z_bi b), .ref 1, .ref 2, .ref 3, .int (nI (T).length)]), z_ia 20 f, z_ia 20 g, .inr (11, [.ref 4]), z_ia 7 c])) 0 [(0, _), (2, _)] [] _ 0 0
  have hln := ht.len
  refine j_lload_n dX8_mixedTable_0 rfl ?_
  refine j_aload_n dX8_mixedTable_1 rfl rfl ?_
  refine j_getf dX8_mixedTable_2 fX8_165 rfl rfl ?_
  refine j_callS dX8_mixedTable_5 kX8_mixed lX8_277 stX8_mixed (c_X8_mixed_e hl _ _ _) (Nat.le_of_ble_eq_true rfl) ⟨(Nat.le_of_ble_eq_true rfl), (Nat.le_of_ble_eq_true rfl)⟩ rfl (Nat.le_of_ble_eq_true rfl) rfl rfl (fun _ _ h => h.elim) ?_
  rintro _ _ ⟨rfl, rfl⟩
  refine j_lstore_n (lo' := [(3, _), (0, _), (2, _)]) dX8_mixedTable_8 (by decide) rfl ?_
  refine j_iconst (v := 0) dX8_mixedTable_9 (by decide) ?_
  refine j_istore (lo' := [(5, _), (3, _), (0, _), (2, _)]) dX8_mixedTable_10 (by decide) rfl ?_
  have loop : ∀ (n9 : Nat) (d : Int64) (j : Nat), (d = sp_mxl (sp_mx a (nI T.length)) (sp_tbl (T.take j))) → (j ≤ T.length) → (T.length < j + n9) → z_J G l mX8_mixedTable (z_SF 12 0 0 [.inr (9, [.int (z_bi b), .ref 1, .ref 2, .ref 3, .int (nI (T).length)]), z_ia 20 f, z_ia 20 g, .inr (11, [.ref 4]), z_ia 7 c] (fun v L => v = some (.long (sp_mxl a (nI T.length :: sp_tbl T))) ∧ L = [.inr (9, [.int (z_bi b), .ref 1, .ref 2, .ref 3, .int (nI (T).length)]), z_ia 20 f, z_ia 20 g, .inr (11, [.ref 4]), z_ia 7 c])) 12 [(0, .long a), (2, .ref 0), (3, .long d), (5, .int (nI j))] [] ([.inr (9, [.int (z_bi b), .ref 1, .ref 2, .ref 3, .int (nI (T).length)]), z_ia 20 f, z_ia 20 g, .inr (11, [.ref 4]), z_ia 7 c], z_no) 0 0 := by
    intro n9
    induction n9 with
    | zero => intro d j hd hj hf9; exact absurd hf9 (by omega)
    | succ n9 ih =>
      intro d j hd hj hf9
      refine j_iload dX8_mixedTable_12 rfl ?_
      refine j_aload_n dX8_mixedTable_14 rfl rfl ?_
      refine j_getf dX8_mixedTable_15 fX8_165 rfl rfl ?_
      refine j_icmp_ge (tgt := 51) dX8_mixedTable_18 (by decide) (fun c_18 => ?_) (fun c_18 => ?_)
      · have hb18 : T.length ≤ j := (nI_leI (a := T.length) (b := j) (by omega) (by omega)).mp c_18
        have hjT : j = T.length := by omega
        refine j_lload_n dX8_mixedTable_51 rfl ?_
        refine j_lret dX8_mixedTable_52 rfl ?_ (Nat.le_of_ble_eq_true rfl) (Nat.le_of_ble_eq_true rfl)
        refine ⟨rfl, rfl, congrArg (fun z => some (Value.long z)) ?_, rfl⟩
        rw [hd, hjT, List.take_length]
        exact sp_mxl_c.symm
      · have hb18 : j < T.length := Nat.not_le.mp (fun z => c_18 ((nI_leI (a := T.length) (b := j) (by omega) (by omega)).mpr z))
        obtain ⟨p9, hp9, hm9⟩ := sp_gt (T := T) (j := j) (by omega)
        refine j_aload_n dX8_mixedTable_21 rfl rfl ?_
        refine j_iload dX8_mixedTable_22 rfl ?_
        refine j_callV (q := (RX4, TX4, 5)) dX8_mixedTable_24 kX4_keyAt lX8_352 inX4_keyAt seX4_keyAt rfl rfl (z_frame [0, 1, 2, 3, 4] rfl (by decide) (Nat.le_of_ble_eq_true rfl) (c_X4_keyAt_e hl _ _ _ _ T.length T j p9 ht rfl hp9)) (Nat.le_of_ble_eq_true rfl) ⟨(Nat.le_of_ble_eq_true rfl), (Nat.le_of_ble_eq_true rfl)⟩ rfl (Nat.le_of_ble_eq_true rfl) rfl rfl (fun _ _ h => h.elim) ?_
        rintro _ _ ⟨_, _, ⟨rfl, rfl⟩, rfl, rfl⟩
        refine j_ws (L' := [.inr (9, [_, _, _, _, _]), z_ia 20 _, z_ia 20 _, .inr (11, [_]), z_ia 7 _]) (by decide) rfl rfl ?_
        refine j_istore (lo' := [(6, _), (0, _), (2, _), (3, _), (5, _)]) dX8_mixedTable_27 (by decide) rfl ?_
        refine j_lload_n dX8_mixedTable_29 rfl ?_
        refine j_iload dX8_mixedTable_30 rfl ?_
        refine j_callS dX8_mixedTable_32 kX8_mixed lX8_277 stX8_mixed (c_X8_mixed_e hl _ _ _) (Nat.le_of_ble_eq_true rfl) ⟨(Nat.le_of_ble_eq_true rfl), (Nat.le_of_ble_eq_true rfl)⟩ rfl (Nat.le_of_ble_eq_true rfl) rfl rfl (fun _ _ h => h.elim) ?_
        rintro _ _ ⟨rfl, rfl⟩
        refine j_aload_n dX8_mixedTable_35 rfl rfl ?_
        refine j_iload dX8_mixedTable_36 rfl ?_
        refine j_callV (q := (RX4, TX4, 5)) dX8_mixedTable_38 kX4_look lX8_137 inX4_look seX4_look rfl rfl (z_frame [0, 1, 2, 3, 4] rfl (by decide) (Nat.le_of_ble_eq_true rfl) (c_X4_look_e hl _ _ _ _ _ T p9.1 ht (ht.1.2 p9 hm9).1)) (Nat.le_of_ble_eq_true rfl) ⟨(Nat.le_of_ble_eq_true rfl), (Nat.le_of_ble_eq_true rfl)⟩ rfl (Nat.le_of_ble_eq_true rfl) rfl rfl (fun _ _ h => h.elim) ?_
        rintro _ _ ⟨_, _, ⟨rfl, rfl⟩, rfl, rfl⟩
        refine j_ws (L' := [.inr (9, [_, _, _, _, _]), z_ia 20 _, z_ia 20 _, .inr (11, [_]), z_ia 7 _]) (by decide) rfl rfl ?_
        refine j_callS dX8_mixedTable_41 kX8_mixed lX8_277 stX8_mixed (c_X8_mixed_e hl _ _ _) (Nat.le_of_ble_eq_true rfl) ⟨(Nat.le_of_ble_eq_true rfl), (Nat.le_of_ble_eq_true rfl)⟩ rfl (Nat.le_of_ble_eq_true rfl) rfl rfl (fun _ _ h => h.elim) ?_
        rintro _ _ ⟨rfl, rfl⟩
        refine j_lstore_n (lo' := [(3, _), (6, _), (0, _), (2, _), (5, _)]) dX8_mixedTable_44 (by decide) rfl ?_
        refine j_iinc (lo' := [(5, _), (3, _), (6, _), (0, _), (2, _)]) dX8_mixedTable_45 rfl (z_inc _) (by decide) rfl ?_
        refine j_goto (tgt := 12) dX8_mixedTable_48 (by decide) ?_
        exact j_lo2 (ih _ (j + 1) (by rw [hd, sp_lk_mem ht.1.1 hm9, sp_tbl_s hp9, sp_mxl_app, sp_mxl_c, sp_mxl_c, sp_mxl_nil]) (by omega) (by omega)) (z_q1 rfl (z_q1 rfl (z_q1 rfl (z_q1 rfl z_q0))))
  exact j_lo2 (loop (T.length + 1) _ 0 sp_mxl_nil.symm (by omega) (by omega)) (z_q1 rfl (z_q1 rfl (z_q1 rfl (z_q1 rfl z_q0))))
end ZDm
