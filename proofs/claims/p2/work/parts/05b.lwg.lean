section ZLg
theorem lwg_ap {A B : List Cond} {n : Nat} (h : A.length = n) (i : Nat) : (A ++ B)[i + n]? = B[i]? := by
  subst h
  rw [List.getElem?_append_right (Nat.le_add_left _ _), Nat.add_sub_cancel]
theorem lwg_1 (i : Nat) : lw_tbl[i + 45]? = (tables_1_1 ++ (tables_1_2 ++ (tables_1_3 ++ (tables_1_4 ++ (tables_1_5 ++ (tables_1_6 ++ (tables_1_7 ++ (tables_1_8 ++ tables_1_9))))))))[i]? := lwg_ap (A := k2_sels lw_privs) (B := tables_1) (by decide +kernel) i
theorem lwg_2 (i : Nat) : lw_tbl[i + 285]? = (tables_1_2 ++ (tables_1_3 ++ (tables_1_4 ++ (tables_1_5 ++ (tables_1_6 ++ (tables_1_7 ++ (tables_1_8 ++ tables_1_9)))))))[i]? := (lwg_1 (i + 240)).trans (lwg_ap (A := tables_1_1) (by decide +kernel) i)
theorem lwg_3 (i : Nat) : lw_tbl[i + 525]? = (tables_1_3 ++ (tables_1_4 ++ (tables_1_5 ++ (tables_1_6 ++ (tables_1_7 ++ (tables_1_8 ++ tables_1_9))))))[i]? := (lwg_2 (i + 240)).trans (lwg_ap (A := tables_1_2) (by decide +kernel) i)
theorem lwg_4 (i : Nat) : lw_tbl[i + 765]? = (tables_1_4 ++ (tables_1_5 ++ (tables_1_6 ++ (tables_1_7 ++ (tables_1_8 ++ tables_1_9)))))[i]? := (lwg_3 (i + 240)).trans (lwg_ap (A := tables_1_3) (by decide +kernel) i)
theorem lwg_5 (i : Nat) : lw_tbl[i + 1005]? = (tables_1_5 ++ (tables_1_6 ++ (tables_1_7 ++ (tables_1_8 ++ tables_1_9))))[i]? := (lwg_4 (i + 240)).trans (lwg_ap (A := tables_1_4) (by decide +kernel) i)
theorem lwg_6 (i : Nat) : lw_tbl[i + 1245]? = (tables_1_6 ++ (tables_1_7 ++ (tables_1_8 ++ tables_1_9)))[i]? := (lwg_5 (i + 240)).trans (lwg_ap (A := tables_1_5) (by decide +kernel) i)
theorem lwg_7 (i : Nat) : lw_tbl[i + 1485]? = (tables_1_7 ++ (tables_1_8 ++ tables_1_9))[i]? := (lwg_6 (i + 240)).trans (lwg_ap (A := tables_1_6) (by decide +kernel) i)
theorem lwg_8 (i : Nat) : lw_tbl[i + 1725]? = (tables_1_8 ++ tables_1_9)[i]? := (lwg_7 (i + 240)).trans (lwg_ap (A := tables_1_7) (by decide +kernel) i)
theorem lwg_9 (i : Nat) : lw_tbl[i + 1965]? = tables_1_9[i]? := (lwg_8 (i + 240)).trans (lwg_ap (A := tables_1_8) (by decide +kernel) i)
end ZLg
