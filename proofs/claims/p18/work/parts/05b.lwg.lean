section ZLg
theorem lwg_ap {A B : List Cond} {n : Nat} (h : A.length = n) (i : Nat) : (A ++ B)[i + n]? = B[i]? := by
  subst h
  rw [List.getElem?_append_right (Nat.le_add_left _ _), Nat.add_sub_cancel]
theorem lwt_d {a0 a1 a2 a3 a4 a5 a6 a7 a8 a9 a10 a11 a12 a13 a14 a15 a16 a17 a18 a19 a20 a21 a22 a23 a24 a25 a26 a27 a28 a29 : Cond} {l : List Cond} : List.drop 30 (a0 :: a1 :: a2 :: a3 :: a4 :: a5 :: a6 :: a7 :: a8 :: a9 :: a10 :: a11 :: a12 :: a13 :: a14 :: a15 :: a16 :: a17 :: a18 :: a19 :: a20 :: a21 :: a22 :: a23 :: a24 :: a25 :: a26 :: a27 :: a28 :: a29 :: l) = l := rfl
theorem lwt_a {A B T : List Cond} {n : Nat} (h : A.drop n = T) (hn : n ≤ A.length) (i : Nat) : (A ++ B)[i + n]? = (T ++ B)[i]? := by
  subst h
  have e : A ++ B = A.take n ++ (A.drop n ++ B) := by rw [← List.append_assoc, List.take_append_drop]
  have e2 : (A.take n).length = n := by rw [List.length_take]; omega
  rw [e]
  exact lwg_ap e2 i
theorem lwt_1 {A T : List Cond} {n : Nat} (h : A.drop n = T) (i : Nat) : A[i + n]? = T[i]? := by
  subst h
  rw [List.getElem?_drop, Nat.add_comm]
theorem lwt_s {A T T2 : List Cond} {n m : Nat} (h : A.drop n = T) (h2 : T.drop m = T2) : A.drop (n + m) = T2 := by
  rw [← List.drop_drop, h, h2]
theorem lwg_1 (i : Nat) : lw_tbl[i + 45]? = (tables_1_1 ++ (tables_1_2 ++ (tables_1_3 ++ (tables_1_4 ++ (tables_1_5 ++ (tables_1_6 ++ (tables_1_7 ++ (tables_1_8 ++ tables_1_9))))))))[i]? := lwg_ap (A := k2_sels lw_privs) (B := tables_1) (by decide +kernel) i
theorem lwg_2 (i : Nat) : lw_tbl[i + 285]? = (tables_1_2 ++ (tables_1_3 ++ (tables_1_4 ++ (tables_1_5 ++ (tables_1_6 ++ (tables_1_7 ++ (tables_1_8 ++ tables_1_9)))))))[i]? := (lwg_1 (i + 240)).trans (lwg_ap (A := tables_1_1) (by decide +kernel) i)
theorem lwg_3 (i : Nat) : lw_tbl[i + 525]? = (tables_1_3 ++ (tables_1_4 ++ (tables_1_5 ++ (tables_1_6 ++ (tables_1_7 ++ (tables_1_8 ++ tables_1_9))))))[i]? := (lwg_2 (i + 240)).trans (lwg_ap (A := tables_1_2) (by decide +kernel) i)
theorem lwg_4 (i : Nat) : lw_tbl[i + 765]? = (tables_1_4 ++ (tables_1_5 ++ (tables_1_6 ++ (tables_1_7 ++ (tables_1_8 ++ tables_1_9)))))[i]? := (lwg_3 (i + 240)).trans (lwg_ap (A := tables_1_3) (by decide +kernel) i)
theorem lwg_5 (i : Nat) : lw_tbl[i + 1005]? = (tables_1_5 ++ (tables_1_6 ++ (tables_1_7 ++ (tables_1_8 ++ tables_1_9))))[i]? := (lwg_4 (i + 240)).trans (lwg_ap (A := tables_1_4) (by decide +kernel) i)
theorem lwg_6 (i : Nat) : lw_tbl[i + 1245]? = (tables_1_6 ++ (tables_1_7 ++ (tables_1_8 ++ tables_1_9)))[i]? := (lwg_5 (i + 240)).trans (lwg_ap (A := tables_1_5) (by decide +kernel) i)
theorem lwg_7 (i : Nat) : lw_tbl[i + 1485]? = (tables_1_7 ++ (tables_1_8 ++ tables_1_9))[i]? := (lwg_6 (i + 240)).trans (lwg_ap (A := tables_1_6) (by decide +kernel) i)
theorem lwg_8 (i : Nat) : lw_tbl[i + 1725]? = (tables_1_8 ++ tables_1_9)[i]? := (lwg_7 (i + 240)).trans (lwg_ap (A := tables_1_7) (by decide +kernel) i)
theorem lwg_9 (i : Nat) : lw_tbl[i + 1965]? = tables_1_9[i]? := (lwg_8 (i + 240)).trans (lwg_ap (A := tables_1_8) (by decide +kernel) i)
set_option maxRecDepth 100000 in
noncomputable def tl_1_1 : {l : List Cond // List.drop 30 tables_1_1 = l} := ⟨_, lwt_d⟩
theorem tld_1_1 : tables_1_1.drop 30 = tl_1_1.1 := tl_1_1.2
theorem lwt_1_1 (i : Nat) : lw_tbl[i + 75]? = (tl_1_1.1 ++ (tables_1_2 ++ (tables_1_3 ++ (tables_1_4 ++ (tables_1_5 ++ (tables_1_6 ++ (tables_1_7 ++ (tables_1_8 ++ tables_1_9))))))))[i]? := (lwg_1 (i + 30)).trans (lwt_a tld_1_1 (by decide +kernel) i)
set_option maxRecDepth 100000 in
noncomputable def tl_1_2 : {l : List Cond // List.drop 30 tl_1_1.1 = l} := ⟨_, lwt_d⟩
theorem tld_1_2 : tables_1_1.drop 60 = tl_1_2.1 := lwt_s tld_1_1 tl_1_2.2
theorem lwt_1_2 (i : Nat) : lw_tbl[i + 105]? = (tl_1_2.1 ++ (tables_1_2 ++ (tables_1_3 ++ (tables_1_4 ++ (tables_1_5 ++ (tables_1_6 ++ (tables_1_7 ++ (tables_1_8 ++ tables_1_9))))))))[i]? := (lwg_1 (i + 60)).trans (lwt_a tld_1_2 (by decide +kernel) i)
set_option maxRecDepth 100000 in
noncomputable def tl_1_3 : {l : List Cond // List.drop 30 tl_1_2.1 = l} := ⟨_, lwt_d⟩
theorem tld_1_3 : tables_1_1.drop 90 = tl_1_3.1 := lwt_s tld_1_2 tl_1_3.2
theorem lwt_1_3 (i : Nat) : lw_tbl[i + 135]? = (tl_1_3.1 ++ (tables_1_2 ++ (tables_1_3 ++ (tables_1_4 ++ (tables_1_5 ++ (tables_1_6 ++ (tables_1_7 ++ (tables_1_8 ++ tables_1_9))))))))[i]? := (lwg_1 (i + 90)).trans (lwt_a tld_1_3 (by decide +kernel) i)
set_option maxRecDepth 100000 in
noncomputable def tl_1_4 : {l : List Cond // List.drop 30 tl_1_3.1 = l} := ⟨_, lwt_d⟩
theorem tld_1_4 : tables_1_1.drop 120 = tl_1_4.1 := lwt_s tld_1_3 tl_1_4.2
theorem lwt_1_4 (i : Nat) : lw_tbl[i + 165]? = (tl_1_4.1 ++ (tables_1_2 ++ (tables_1_3 ++ (tables_1_4 ++ (tables_1_5 ++ (tables_1_6 ++ (tables_1_7 ++ (tables_1_8 ++ tables_1_9))))))))[i]? := (lwg_1 (i + 120)).trans (lwt_a tld_1_4 (by decide +kernel) i)
set_option maxRecDepth 100000 in
noncomputable def tl_1_5 : {l : List Cond // List.drop 30 tl_1_4.1 = l} := ⟨_, lwt_d⟩
theorem tld_1_5 : tables_1_1.drop 150 = tl_1_5.1 := lwt_s tld_1_4 tl_1_5.2
theorem lwt_1_5 (i : Nat) : lw_tbl[i + 195]? = (tl_1_5.1 ++ (tables_1_2 ++ (tables_1_3 ++ (tables_1_4 ++ (tables_1_5 ++ (tables_1_6 ++ (tables_1_7 ++ (tables_1_8 ++ tables_1_9))))))))[i]? := (lwg_1 (i + 150)).trans (lwt_a tld_1_5 (by decide +kernel) i)
set_option maxRecDepth 100000 in
noncomputable def tl_1_6 : {l : List Cond // List.drop 30 tl_1_5.1 = l} := ⟨_, lwt_d⟩
theorem tld_1_6 : tables_1_1.drop 180 = tl_1_6.1 := lwt_s tld_1_5 tl_1_6.2
theorem lwt_1_6 (i : Nat) : lw_tbl[i + 225]? = (tl_1_6.1 ++ (tables_1_2 ++ (tables_1_3 ++ (tables_1_4 ++ (tables_1_5 ++ (tables_1_6 ++ (tables_1_7 ++ (tables_1_8 ++ tables_1_9))))))))[i]? := (lwg_1 (i + 180)).trans (lwt_a tld_1_6 (by decide +kernel) i)
set_option maxRecDepth 100000 in
noncomputable def tl_1_7 : {l : List Cond // List.drop 30 tl_1_6.1 = l} := ⟨_, lwt_d⟩
theorem tld_1_7 : tables_1_1.drop 210 = tl_1_7.1 := lwt_s tld_1_6 tl_1_7.2
theorem lwt_1_7 (i : Nat) : lw_tbl[i + 255]? = (tl_1_7.1 ++ (tables_1_2 ++ (tables_1_3 ++ (tables_1_4 ++ (tables_1_5 ++ (tables_1_6 ++ (tables_1_7 ++ (tables_1_8 ++ tables_1_9))))))))[i]? := (lwg_1 (i + 210)).trans (lwt_a tld_1_7 (by decide +kernel) i)
set_option maxRecDepth 100000 in
noncomputable def tl_2_1 : {l : List Cond // List.drop 30 tables_1_2 = l} := ⟨_, lwt_d⟩
theorem tld_2_1 : tables_1_2.drop 30 = tl_2_1.1 := tl_2_1.2
theorem lwt_2_1 (i : Nat) : lw_tbl[i + 315]? = (tl_2_1.1 ++ (tables_1_3 ++ (tables_1_4 ++ (tables_1_5 ++ (tables_1_6 ++ (tables_1_7 ++ (tables_1_8 ++ tables_1_9)))))))[i]? := (lwg_2 (i + 30)).trans (lwt_a tld_2_1 (by decide +kernel) i)
set_option maxRecDepth 100000 in
noncomputable def tl_2_2 : {l : List Cond // List.drop 30 tl_2_1.1 = l} := ⟨_, lwt_d⟩
theorem tld_2_2 : tables_1_2.drop 60 = tl_2_2.1 := lwt_s tld_2_1 tl_2_2.2
theorem lwt_2_2 (i : Nat) : lw_tbl[i + 345]? = (tl_2_2.1 ++ (tables_1_3 ++ (tables_1_4 ++ (tables_1_5 ++ (tables_1_6 ++ (tables_1_7 ++ (tables_1_8 ++ tables_1_9)))))))[i]? := (lwg_2 (i + 60)).trans (lwt_a tld_2_2 (by decide +kernel) i)
set_option maxRecDepth 100000 in
noncomputable def tl_2_3 : {l : List Cond // List.drop 30 tl_2_2.1 = l} := ⟨_, lwt_d⟩
theorem tld_2_3 : tables_1_2.drop 90 = tl_2_3.1 := lwt_s tld_2_2 tl_2_3.2
theorem lwt_2_3 (i : Nat) : lw_tbl[i + 375]? = (tl_2_3.1 ++ (tables_1_3 ++ (tables_1_4 ++ (tables_1_5 ++ (tables_1_6 ++ (tables_1_7 ++ (tables_1_8 ++ tables_1_9)))))))[i]? := (lwg_2 (i + 90)).trans (lwt_a tld_2_3 (by decide +kernel) i)
set_option maxRecDepth 100000 in
noncomputable def tl_2_4 : {l : List Cond // List.drop 30 tl_2_3.1 = l} := ⟨_, lwt_d⟩
theorem tld_2_4 : tables_1_2.drop 120 = tl_2_4.1 := lwt_s tld_2_3 tl_2_4.2
theorem lwt_2_4 (i : Nat) : lw_tbl[i + 405]? = (tl_2_4.1 ++ (tables_1_3 ++ (tables_1_4 ++ (tables_1_5 ++ (tables_1_6 ++ (tables_1_7 ++ (tables_1_8 ++ tables_1_9)))))))[i]? := (lwg_2 (i + 120)).trans (lwt_a tld_2_4 (by decide +kernel) i)
set_option maxRecDepth 100000 in
noncomputable def tl_2_5 : {l : List Cond // List.drop 30 tl_2_4.1 = l} := ⟨_, lwt_d⟩
theorem tld_2_5 : tables_1_2.drop 150 = tl_2_5.1 := lwt_s tld_2_4 tl_2_5.2
theorem lwt_2_5 (i : Nat) : lw_tbl[i + 435]? = (tl_2_5.1 ++ (tables_1_3 ++ (tables_1_4 ++ (tables_1_5 ++ (tables_1_6 ++ (tables_1_7 ++ (tables_1_8 ++ tables_1_9)))))))[i]? := (lwg_2 (i + 150)).trans (lwt_a tld_2_5 (by decide +kernel) i)
set_option maxRecDepth 100000 in
noncomputable def tl_2_6 : {l : List Cond // List.drop 30 tl_2_5.1 = l} := ⟨_, lwt_d⟩
theorem tld_2_6 : tables_1_2.drop 180 = tl_2_6.1 := lwt_s tld_2_5 tl_2_6.2
theorem lwt_2_6 (i : Nat) : lw_tbl[i + 465]? = (tl_2_6.1 ++ (tables_1_3 ++ (tables_1_4 ++ (tables_1_5 ++ (tables_1_6 ++ (tables_1_7 ++ (tables_1_8 ++ tables_1_9)))))))[i]? := (lwg_2 (i + 180)).trans (lwt_a tld_2_6 (by decide +kernel) i)
set_option maxRecDepth 100000 in
noncomputable def tl_2_7 : {l : List Cond // List.drop 30 tl_2_6.1 = l} := ⟨_, lwt_d⟩
theorem tld_2_7 : tables_1_2.drop 210 = tl_2_7.1 := lwt_s tld_2_6 tl_2_7.2
theorem lwt_2_7 (i : Nat) : lw_tbl[i + 495]? = (tl_2_7.1 ++ (tables_1_3 ++ (tables_1_4 ++ (tables_1_5 ++ (tables_1_6 ++ (tables_1_7 ++ (tables_1_8 ++ tables_1_9)))))))[i]? := (lwg_2 (i + 210)).trans (lwt_a tld_2_7 (by decide +kernel) i)
set_option maxRecDepth 100000 in
noncomputable def tl_3_1 : {l : List Cond // List.drop 30 tables_1_3 = l} := ⟨_, lwt_d⟩
theorem tld_3_1 : tables_1_3.drop 30 = tl_3_1.1 := tl_3_1.2
theorem lwt_3_1 (i : Nat) : lw_tbl[i + 555]? = (tl_3_1.1 ++ (tables_1_4 ++ (tables_1_5 ++ (tables_1_6 ++ (tables_1_7 ++ (tables_1_8 ++ tables_1_9))))))[i]? := (lwg_3 (i + 30)).trans (lwt_a tld_3_1 (by decide +kernel) i)
set_option maxRecDepth 100000 in
noncomputable def tl_3_2 : {l : List Cond // List.drop 30 tl_3_1.1 = l} := ⟨_, lwt_d⟩
theorem tld_3_2 : tables_1_3.drop 60 = tl_3_2.1 := lwt_s tld_3_1 tl_3_2.2
theorem lwt_3_2 (i : Nat) : lw_tbl[i + 585]? = (tl_3_2.1 ++ (tables_1_4 ++ (tables_1_5 ++ (tables_1_6 ++ (tables_1_7 ++ (tables_1_8 ++ tables_1_9))))))[i]? := (lwg_3 (i + 60)).trans (lwt_a tld_3_2 (by decide +kernel) i)
set_option maxRecDepth 100000 in
noncomputable def tl_3_3 : {l : List Cond // List.drop 30 tl_3_2.1 = l} := ⟨_, lwt_d⟩
theorem tld_3_3 : tables_1_3.drop 90 = tl_3_3.1 := lwt_s tld_3_2 tl_3_3.2
theorem lwt_3_3 (i : Nat) : lw_tbl[i + 615]? = (tl_3_3.1 ++ (tables_1_4 ++ (tables_1_5 ++ (tables_1_6 ++ (tables_1_7 ++ (tables_1_8 ++ tables_1_9))))))[i]? := (lwg_3 (i + 90)).trans (lwt_a tld_3_3 (by decide +kernel) i)
set_option maxRecDepth 100000 in
noncomputable def tl_3_4 : {l : List Cond // List.drop 30 tl_3_3.1 = l} := ⟨_, lwt_d⟩
theorem tld_3_4 : tables_1_3.drop 120 = tl_3_4.1 := lwt_s tld_3_3 tl_3_4.2
set_option maxRecDepth 100000 in
noncomputable def tl_3_5 : {l : List Cond // List.drop 30 tl_3_4.1 = l} := ⟨_, lwt_d⟩
theorem tld_3_5 : tables_1_3.drop 150 = tl_3_5.1 := lwt_s tld_3_4 tl_3_5.2
theorem lwt_3_5 (i : Nat) : lw_tbl[i + 675]? = (tl_3_5.1 ++ (tables_1_4 ++ (tables_1_5 ++ (tables_1_6 ++ (tables_1_7 ++ (tables_1_8 ++ tables_1_9))))))[i]? := (lwg_3 (i + 150)).trans (lwt_a tld_3_5 (by decide +kernel) i)
set_option maxRecDepth 100000 in
noncomputable def tl_3_6 : {l : List Cond // List.drop 30 tl_3_5.1 = l} := ⟨_, lwt_d⟩
theorem tld_3_6 : tables_1_3.drop 180 = tl_3_6.1 := lwt_s tld_3_5 tl_3_6.2
theorem lwt_3_6 (i : Nat) : lw_tbl[i + 705]? = (tl_3_6.1 ++ (tables_1_4 ++ (tables_1_5 ++ (tables_1_6 ++ (tables_1_7 ++ (tables_1_8 ++ tables_1_9))))))[i]? := (lwg_3 (i + 180)).trans (lwt_a tld_3_6 (by decide +kernel) i)
set_option maxRecDepth 100000 in
noncomputable def tl_3_7 : {l : List Cond // List.drop 30 tl_3_6.1 = l} := ⟨_, lwt_d⟩
theorem tld_3_7 : tables_1_3.drop 210 = tl_3_7.1 := lwt_s tld_3_6 tl_3_7.2
theorem lwt_3_7 (i : Nat) : lw_tbl[i + 735]? = (tl_3_7.1 ++ (tables_1_4 ++ (tables_1_5 ++ (tables_1_6 ++ (tables_1_7 ++ (tables_1_8 ++ tables_1_9))))))[i]? := (lwg_3 (i + 210)).trans (lwt_a tld_3_7 (by decide +kernel) i)
set_option maxRecDepth 100000 in
noncomputable def tl_4_1 : {l : List Cond // List.drop 30 tables_1_4 = l} := ⟨_, lwt_d⟩
theorem tld_4_1 : tables_1_4.drop 30 = tl_4_1.1 := tl_4_1.2
theorem lwt_4_1 (i : Nat) : lw_tbl[i + 795]? = (tl_4_1.1 ++ (tables_1_5 ++ (tables_1_6 ++ (tables_1_7 ++ (tables_1_8 ++ tables_1_9)))))[i]? := (lwg_4 (i + 30)).trans (lwt_a tld_4_1 (by decide +kernel) i)
set_option maxRecDepth 100000 in
noncomputable def tl_4_2 : {l : List Cond // List.drop 30 tl_4_1.1 = l} := ⟨_, lwt_d⟩
theorem tld_4_2 : tables_1_4.drop 60 = tl_4_2.1 := lwt_s tld_4_1 tl_4_2.2
theorem lwt_4_2 (i : Nat) : lw_tbl[i + 825]? = (tl_4_2.1 ++ (tables_1_5 ++ (tables_1_6 ++ (tables_1_7 ++ (tables_1_8 ++ tables_1_9)))))[i]? := (lwg_4 (i + 60)).trans (lwt_a tld_4_2 (by decide +kernel) i)
set_option maxRecDepth 100000 in
noncomputable def tl_4_3 : {l : List Cond // List.drop 30 tl_4_2.1 = l} := ⟨_, lwt_d⟩
theorem tld_4_3 : tables_1_4.drop 90 = tl_4_3.1 := lwt_s tld_4_2 tl_4_3.2
theorem lwt_4_3 (i : Nat) : lw_tbl[i + 855]? = (tl_4_3.1 ++ (tables_1_5 ++ (tables_1_6 ++ (tables_1_7 ++ (tables_1_8 ++ tables_1_9)))))[i]? := (lwg_4 (i + 90)).trans (lwt_a tld_4_3 (by decide +kernel) i)
set_option maxRecDepth 100000 in
noncomputable def tl_4_4 : {l : List Cond // List.drop 30 tl_4_3.1 = l} := ⟨_, lwt_d⟩
theorem tld_4_4 : tables_1_4.drop 120 = tl_4_4.1 := lwt_s tld_4_3 tl_4_4.2
theorem lwt_4_4 (i : Nat) : lw_tbl[i + 885]? = (tl_4_4.1 ++ (tables_1_5 ++ (tables_1_6 ++ (tables_1_7 ++ (tables_1_8 ++ tables_1_9)))))[i]? := (lwg_4 (i + 120)).trans (lwt_a tld_4_4 (by decide +kernel) i)
set_option maxRecDepth 100000 in
noncomputable def tl_4_5 : {l : List Cond // List.drop 30 tl_4_4.1 = l} := ⟨_, lwt_d⟩
theorem tld_4_5 : tables_1_4.drop 150 = tl_4_5.1 := lwt_s tld_4_4 tl_4_5.2
theorem lwt_4_5 (i : Nat) : lw_tbl[i + 915]? = (tl_4_5.1 ++ (tables_1_5 ++ (tables_1_6 ++ (tables_1_7 ++ (tables_1_8 ++ tables_1_9)))))[i]? := (lwg_4 (i + 150)).trans (lwt_a tld_4_5 (by decide +kernel) i)
set_option maxRecDepth 100000 in
noncomputable def tl_4_6 : {l : List Cond // List.drop 30 tl_4_5.1 = l} := ⟨_, lwt_d⟩
theorem tld_4_6 : tables_1_4.drop 180 = tl_4_6.1 := lwt_s tld_4_5 tl_4_6.2
theorem lwt_4_6 (i : Nat) : lw_tbl[i + 945]? = (tl_4_6.1 ++ (tables_1_5 ++ (tables_1_6 ++ (tables_1_7 ++ (tables_1_8 ++ tables_1_9)))))[i]? := (lwg_4 (i + 180)).trans (lwt_a tld_4_6 (by decide +kernel) i)
set_option maxRecDepth 100000 in
noncomputable def tl_4_7 : {l : List Cond // List.drop 30 tl_4_6.1 = l} := ⟨_, lwt_d⟩
theorem tld_4_7 : tables_1_4.drop 210 = tl_4_7.1 := lwt_s tld_4_6 tl_4_7.2
theorem lwt_4_7 (i : Nat) : lw_tbl[i + 975]? = (tl_4_7.1 ++ (tables_1_5 ++ (tables_1_6 ++ (tables_1_7 ++ (tables_1_8 ++ tables_1_9)))))[i]? := (lwg_4 (i + 210)).trans (lwt_a tld_4_7 (by decide +kernel) i)
set_option maxRecDepth 100000 in
noncomputable def tl_5_1 : {l : List Cond // List.drop 30 tables_1_5 = l} := ⟨_, lwt_d⟩
theorem tld_5_1 : tables_1_5.drop 30 = tl_5_1.1 := tl_5_1.2
theorem lwt_5_1 (i : Nat) : lw_tbl[i + 1035]? = (tl_5_1.1 ++ (tables_1_6 ++ (tables_1_7 ++ (tables_1_8 ++ tables_1_9))))[i]? := (lwg_5 (i + 30)).trans (lwt_a tld_5_1 (by decide +kernel) i)
set_option maxRecDepth 100000 in
noncomputable def tl_5_2 : {l : List Cond // List.drop 30 tl_5_1.1 = l} := ⟨_, lwt_d⟩
theorem tld_5_2 : tables_1_5.drop 60 = tl_5_2.1 := lwt_s tld_5_1 tl_5_2.2
theorem lwt_5_2 (i : Nat) : lw_tbl[i + 1065]? = (tl_5_2.1 ++ (tables_1_6 ++ (tables_1_7 ++ (tables_1_8 ++ tables_1_9))))[i]? := (lwg_5 (i + 60)).trans (lwt_a tld_5_2 (by decide +kernel) i)
set_option maxRecDepth 100000 in
noncomputable def tl_5_3 : {l : List Cond // List.drop 30 tl_5_2.1 = l} := ⟨_, lwt_d⟩
theorem tld_5_3 : tables_1_5.drop 90 = tl_5_3.1 := lwt_s tld_5_2 tl_5_3.2
theorem lwt_5_3 (i : Nat) : lw_tbl[i + 1095]? = (tl_5_3.1 ++ (tables_1_6 ++ (tables_1_7 ++ (tables_1_8 ++ tables_1_9))))[i]? := (lwg_5 (i + 90)).trans (lwt_a tld_5_3 (by decide +kernel) i)
set_option maxRecDepth 100000 in
noncomputable def tl_5_4 : {l : List Cond // List.drop 30 tl_5_3.1 = l} := ⟨_, lwt_d⟩
theorem tld_5_4 : tables_1_5.drop 120 = tl_5_4.1 := lwt_s tld_5_3 tl_5_4.2
theorem lwt_5_4 (i : Nat) : lw_tbl[i + 1125]? = (tl_5_4.1 ++ (tables_1_6 ++ (tables_1_7 ++ (tables_1_8 ++ tables_1_9))))[i]? := (lwg_5 (i + 120)).trans (lwt_a tld_5_4 (by decide +kernel) i)
set_option maxRecDepth 100000 in
noncomputable def tl_5_5 : {l : List Cond // List.drop 30 tl_5_4.1 = l} := ⟨_, lwt_d⟩
theorem tld_5_5 : tables_1_5.drop 150 = tl_5_5.1 := lwt_s tld_5_4 tl_5_5.2
theorem lwt_5_5 (i : Nat) : lw_tbl[i + 1155]? = (tl_5_5.1 ++ (tables_1_6 ++ (tables_1_7 ++ (tables_1_8 ++ tables_1_9))))[i]? := (lwg_5 (i + 150)).trans (lwt_a tld_5_5 (by decide +kernel) i)
set_option maxRecDepth 100000 in
noncomputable def tl_5_6 : {l : List Cond // List.drop 30 tl_5_5.1 = l} := ⟨_, lwt_d⟩
theorem tld_5_6 : tables_1_5.drop 180 = tl_5_6.1 := lwt_s tld_5_5 tl_5_6.2
theorem lwt_5_6 (i : Nat) : lw_tbl[i + 1185]? = (tl_5_6.1 ++ (tables_1_6 ++ (tables_1_7 ++ (tables_1_8 ++ tables_1_9))))[i]? := (lwg_5 (i + 180)).trans (lwt_a tld_5_6 (by decide +kernel) i)
set_option maxRecDepth 100000 in
noncomputable def tl_5_7 : {l : List Cond // List.drop 30 tl_5_6.1 = l} := ⟨_, lwt_d⟩
theorem tld_5_7 : tables_1_5.drop 210 = tl_5_7.1 := lwt_s tld_5_6 tl_5_7.2
theorem lwt_5_7 (i : Nat) : lw_tbl[i + 1215]? = (tl_5_7.1 ++ (tables_1_6 ++ (tables_1_7 ++ (tables_1_8 ++ tables_1_9))))[i]? := (lwg_5 (i + 210)).trans (lwt_a tld_5_7 (by decide +kernel) i)
set_option maxRecDepth 100000 in
noncomputable def tl_6_1 : {l : List Cond // List.drop 30 tables_1_6 = l} := ⟨_, lwt_d⟩
theorem tld_6_1 : tables_1_6.drop 30 = tl_6_1.1 := tl_6_1.2
theorem lwt_6_1 (i : Nat) : lw_tbl[i + 1275]? = (tl_6_1.1 ++ (tables_1_7 ++ (tables_1_8 ++ tables_1_9)))[i]? := (lwg_6 (i + 30)).trans (lwt_a tld_6_1 (by decide +kernel) i)
set_option maxRecDepth 100000 in
noncomputable def tl_6_2 : {l : List Cond // List.drop 30 tl_6_1.1 = l} := ⟨_, lwt_d⟩
theorem tld_6_2 : tables_1_6.drop 60 = tl_6_2.1 := lwt_s tld_6_1 tl_6_2.2
theorem lwt_6_2 (i : Nat) : lw_tbl[i + 1305]? = (tl_6_2.1 ++ (tables_1_7 ++ (tables_1_8 ++ tables_1_9)))[i]? := (lwg_6 (i + 60)).trans (lwt_a tld_6_2 (by decide +kernel) i)
set_option maxRecDepth 100000 in
noncomputable def tl_6_3 : {l : List Cond // List.drop 30 tl_6_2.1 = l} := ⟨_, lwt_d⟩
theorem tld_6_3 : tables_1_6.drop 90 = tl_6_3.1 := lwt_s tld_6_2 tl_6_3.2
theorem lwt_6_3 (i : Nat) : lw_tbl[i + 1335]? = (tl_6_3.1 ++ (tables_1_7 ++ (tables_1_8 ++ tables_1_9)))[i]? := (lwg_6 (i + 90)).trans (lwt_a tld_6_3 (by decide +kernel) i)
set_option maxRecDepth 100000 in
noncomputable def tl_6_4 : {l : List Cond // List.drop 30 tl_6_3.1 = l} := ⟨_, lwt_d⟩
theorem tld_6_4 : tables_1_6.drop 120 = tl_6_4.1 := lwt_s tld_6_3 tl_6_4.2
theorem lwt_6_4 (i : Nat) : lw_tbl[i + 1365]? = (tl_6_4.1 ++ (tables_1_7 ++ (tables_1_8 ++ tables_1_9)))[i]? := (lwg_6 (i + 120)).trans (lwt_a tld_6_4 (by decide +kernel) i)
set_option maxRecDepth 100000 in
noncomputable def tl_6_5 : {l : List Cond // List.drop 30 tl_6_4.1 = l} := ⟨_, lwt_d⟩
theorem tld_6_5 : tables_1_6.drop 150 = tl_6_5.1 := lwt_s tld_6_4 tl_6_5.2
theorem lwt_6_5 (i : Nat) : lw_tbl[i + 1395]? = (tl_6_5.1 ++ (tables_1_7 ++ (tables_1_8 ++ tables_1_9)))[i]? := (lwg_6 (i + 150)).trans (lwt_a tld_6_5 (by decide +kernel) i)
set_option maxRecDepth 100000 in
noncomputable def tl_6_6 : {l : List Cond // List.drop 30 tl_6_5.1 = l} := ⟨_, lwt_d⟩
theorem tld_6_6 : tables_1_6.drop 180 = tl_6_6.1 := lwt_s tld_6_5 tl_6_6.2
theorem lwt_6_6 (i : Nat) : lw_tbl[i + 1425]? = (tl_6_6.1 ++ (tables_1_7 ++ (tables_1_8 ++ tables_1_9)))[i]? := (lwg_6 (i + 180)).trans (lwt_a tld_6_6 (by decide +kernel) i)
set_option maxRecDepth 100000 in
noncomputable def tl_6_7 : {l : List Cond // List.drop 30 tl_6_6.1 = l} := ⟨_, lwt_d⟩
theorem tld_6_7 : tables_1_6.drop 210 = tl_6_7.1 := lwt_s tld_6_6 tl_6_7.2
theorem lwt_6_7 (i : Nat) : lw_tbl[i + 1455]? = (tl_6_7.1 ++ (tables_1_7 ++ (tables_1_8 ++ tables_1_9)))[i]? := (lwg_6 (i + 210)).trans (lwt_a tld_6_7 (by decide +kernel) i)
set_option maxRecDepth 100000 in
noncomputable def tl_7_1 : {l : List Cond // List.drop 30 tables_1_7 = l} := ⟨_, lwt_d⟩
theorem tld_7_1 : tables_1_7.drop 30 = tl_7_1.1 := tl_7_1.2
theorem lwt_7_1 (i : Nat) : lw_tbl[i + 1515]? = (tl_7_1.1 ++ (tables_1_8 ++ tables_1_9))[i]? := (lwg_7 (i + 30)).trans (lwt_a tld_7_1 (by decide +kernel) i)
set_option maxRecDepth 100000 in
noncomputable def tl_7_2 : {l : List Cond // List.drop 30 tl_7_1.1 = l} := ⟨_, lwt_d⟩
theorem tld_7_2 : tables_1_7.drop 60 = tl_7_2.1 := lwt_s tld_7_1 tl_7_2.2
theorem lwt_7_2 (i : Nat) : lw_tbl[i + 1545]? = (tl_7_2.1 ++ (tables_1_8 ++ tables_1_9))[i]? := (lwg_7 (i + 60)).trans (lwt_a tld_7_2 (by decide +kernel) i)
set_option maxRecDepth 100000 in
noncomputable def tl_7_3 : {l : List Cond // List.drop 30 tl_7_2.1 = l} := ⟨_, lwt_d⟩
theorem tld_7_3 : tables_1_7.drop 90 = tl_7_3.1 := lwt_s tld_7_2 tl_7_3.2
theorem lwt_7_3 (i : Nat) : lw_tbl[i + 1575]? = (tl_7_3.1 ++ (tables_1_8 ++ tables_1_9))[i]? := (lwg_7 (i + 90)).trans (lwt_a tld_7_3 (by decide +kernel) i)
set_option maxRecDepth 100000 in
noncomputable def tl_7_4 : {l : List Cond // List.drop 30 tl_7_3.1 = l} := ⟨_, lwt_d⟩
theorem tld_7_4 : tables_1_7.drop 120 = tl_7_4.1 := lwt_s tld_7_3 tl_7_4.2
theorem lwt_7_4 (i : Nat) : lw_tbl[i + 1605]? = (tl_7_4.1 ++ (tables_1_8 ++ tables_1_9))[i]? := (lwg_7 (i + 120)).trans (lwt_a tld_7_4 (by decide +kernel) i)
set_option maxRecDepth 100000 in
noncomputable def tl_7_5 : {l : List Cond // List.drop 30 tl_7_4.1 = l} := ⟨_, lwt_d⟩
theorem tld_7_5 : tables_1_7.drop 150 = tl_7_5.1 := lwt_s tld_7_4 tl_7_5.2
theorem lwt_7_5 (i : Nat) : lw_tbl[i + 1635]? = (tl_7_5.1 ++ (tables_1_8 ++ tables_1_9))[i]? := (lwg_7 (i + 150)).trans (lwt_a tld_7_5 (by decide +kernel) i)
set_option maxRecDepth 100000 in
noncomputable def tl_7_6 : {l : List Cond // List.drop 30 tl_7_5.1 = l} := ⟨_, lwt_d⟩
theorem tld_7_6 : tables_1_7.drop 180 = tl_7_6.1 := lwt_s tld_7_5 tl_7_6.2
theorem lwt_7_6 (i : Nat) : lw_tbl[i + 1665]? = (tl_7_6.1 ++ (tables_1_8 ++ tables_1_9))[i]? := (lwg_7 (i + 180)).trans (lwt_a tld_7_6 (by decide +kernel) i)
set_option maxRecDepth 100000 in
noncomputable def tl_7_7 : {l : List Cond // List.drop 30 tl_7_6.1 = l} := ⟨_, lwt_d⟩
theorem tld_7_7 : tables_1_7.drop 210 = tl_7_7.1 := lwt_s tld_7_6 tl_7_7.2
theorem lwt_7_7 (i : Nat) : lw_tbl[i + 1695]? = (tl_7_7.1 ++ (tables_1_8 ++ tables_1_9))[i]? := (lwg_7 (i + 210)).trans (lwt_a tld_7_7 (by decide +kernel) i)
set_option maxRecDepth 100000 in
noncomputable def tl_8_1 : {l : List Cond // List.drop 30 tables_1_8 = l} := ⟨_, lwt_d⟩
theorem tld_8_1 : tables_1_8.drop 30 = tl_8_1.1 := tl_8_1.2
theorem lwt_8_1 (i : Nat) : lw_tbl[i + 1755]? = (tl_8_1.1 ++ tables_1_9)[i]? := (lwg_8 (i + 30)).trans (lwt_a tld_8_1 (by decide +kernel) i)
set_option maxRecDepth 100000 in
noncomputable def tl_8_2 : {l : List Cond // List.drop 30 tl_8_1.1 = l} := ⟨_, lwt_d⟩
theorem tld_8_2 : tables_1_8.drop 60 = tl_8_2.1 := lwt_s tld_8_1 tl_8_2.2
theorem lwt_8_2 (i : Nat) : lw_tbl[i + 1785]? = (tl_8_2.1 ++ tables_1_9)[i]? := (lwg_8 (i + 60)).trans (lwt_a tld_8_2 (by decide +kernel) i)
set_option maxRecDepth 100000 in
noncomputable def tl_8_3 : {l : List Cond // List.drop 30 tl_8_2.1 = l} := ⟨_, lwt_d⟩
theorem tld_8_3 : tables_1_8.drop 90 = tl_8_3.1 := lwt_s tld_8_2 tl_8_3.2
theorem lwt_8_3 (i : Nat) : lw_tbl[i + 1815]? = (tl_8_3.1 ++ tables_1_9)[i]? := (lwg_8 (i + 90)).trans (lwt_a tld_8_3 (by decide +kernel) i)
set_option maxRecDepth 100000 in
noncomputable def tl_8_4 : {l : List Cond // List.drop 30 tl_8_3.1 = l} := ⟨_, lwt_d⟩
theorem tld_8_4 : tables_1_8.drop 120 = tl_8_4.1 := lwt_s tld_8_3 tl_8_4.2
theorem lwt_8_4 (i : Nat) : lw_tbl[i + 1845]? = (tl_8_4.1 ++ tables_1_9)[i]? := (lwg_8 (i + 120)).trans (lwt_a tld_8_4 (by decide +kernel) i)
set_option maxRecDepth 100000 in
noncomputable def tl_8_5 : {l : List Cond // List.drop 30 tl_8_4.1 = l} := ⟨_, lwt_d⟩
theorem tld_8_5 : tables_1_8.drop 150 = tl_8_5.1 := lwt_s tld_8_4 tl_8_5.2
theorem lwt_8_5 (i : Nat) : lw_tbl[i + 1875]? = (tl_8_5.1 ++ tables_1_9)[i]? := (lwg_8 (i + 150)).trans (lwt_a tld_8_5 (by decide +kernel) i)
set_option maxRecDepth 100000 in
noncomputable def tl_8_6 : {l : List Cond // List.drop 30 tl_8_5.1 = l} := ⟨_, lwt_d⟩
theorem tld_8_6 : tables_1_8.drop 180 = tl_8_6.1 := lwt_s tld_8_5 tl_8_6.2
theorem lwt_8_6 (i : Nat) : lw_tbl[i + 1905]? = (tl_8_6.1 ++ tables_1_9)[i]? := (lwg_8 (i + 180)).trans (lwt_a tld_8_6 (by decide +kernel) i)
set_option maxRecDepth 100000 in
noncomputable def tl_8_7 : {l : List Cond // List.drop 30 tl_8_6.1 = l} := ⟨_, lwt_d⟩
theorem tld_8_7 : tables_1_8.drop 210 = tl_8_7.1 := lwt_s tld_8_6 tl_8_7.2
theorem lwt_8_7 (i : Nat) : lw_tbl[i + 1935]? = (tl_8_7.1 ++ tables_1_9)[i]? := (lwg_8 (i + 210)).trans (lwt_a tld_8_7 (by decide +kernel) i)
set_option maxRecDepth 100000 in
noncomputable def tl_9_1 : {l : List Cond // List.drop 30 tables_1_9 = l} := ⟨_, lwt_d⟩
theorem tld_9_1 : tables_1_9.drop 30 = tl_9_1.1 := tl_9_1.2
theorem lwt_9_1 (i : Nat) : lw_tbl[i + 1995]? = (tl_9_1.1)[i]? := (lwg_9 (i + 30)).trans (lwt_1 tld_9_1 i)
end ZLg
