section ZT
def ztq_s : List (Nat × Nat) → List Cond
  | [] => []
  | (a, b) :: t => (lw_tbl.drop a).take b ++ ztq_s t
theorem ztq_i {w : Cond} : ∀ {l : List (Nat × Nat)}, w ∈ ztq_s l → w ∈ lw_tbl
  | [], h => nomatch h
  | (_, _) :: _, h => (List.mem_append.mp h).elim (fun g => List.mem_of_mem_drop (List.mem_of_mem_take g)) ztq_i
abbrev ztq_sl : List Cond := ztq_s [(458, 67), (847, 50), (87, 16), (1986, 10), (61, 6), (1436, 3), (8, 1), (132, 1), (162, 1), (247, 1), (572, 1), (736, 1), (760, 1), (804, 1), (836, 1), (1340, 1), (1352, 1), (1378, 1), (1534, 1), (1676, 1), (1688, 1), (1750, 1), (1965, 1)]
theorem ztq_of {own cls : String} {ic : Nat} {names : List String} (h5 : (vx_atS own ic cls names).all (fun w => decide (w ∈ ztq_sl) && (goodWord w || (z_isN w && w.onTables)) && vx_ot w) = true) : (vx_atS own ic cls names).all (fun w => decide (w ∈ lw_tbl) && (goodWord w || (z_isN w && w.onTables)) && vx_ot w) = true := by
  rw [List.all_eq_true] at h5 ⊢
  intro w hw
  have h := h5 w hw
  simp only [Bool.and_eq_true, decide_eq_true_eq] at h ⊢
  exact ⟨⟨ztq_i h.1.1, h.1.2⟩, h.2⟩
set_option maxRecDepth 100000 in
set_option maxHeartbeats 4000000 in
theorem th_A : z_thr RX8 302 306 "java/lang/IllegalArgumentException" ["java/lang/RuntimeException", "java/lang/Exception"] := z_thrOf (by decide +kernel) (by decide +kernel) (z_w 458 ((lwt_2_5 23).trans rfl) (by decide +kernel)) (z_w 65 ((lwg_1 20).trans rfl) (by decide +kernel)) (ztq_of (by decide +kernel))
set_option maxRecDepth 100000 in
set_option maxHeartbeats 4000000 in
theorem th_I : z_thr RX8 198 202 "java/lang/IndexOutOfBoundsException" ["java/lang/RuntimeException", "java/lang/Exception"] := z_thrOf (by decide +kernel) (by decide +kernel) (z_w 858 ((lwt_4_3 3).trans rfl) (by decide +kernel)) (z_w 64 ((lwg_1 19).trans rfl) (by decide +kernel)) (ztq_of (by decide +kernel))
set_option maxRecDepth 100000 in
set_option maxHeartbeats 4000000 in
theorem th_S : z_thr RX8 58 62 "java/lang/IllegalStateException" ["java/lang/RuntimeException", "java/lang/Exception"] := z_thrOf (by decide +kernel) (by decide +kernel) (z_w 881 ((lwt_4_3 26).trans rfl) (by decide +kernel)) (z_w 66 ((lwg_1 21).trans rfl) (by decide +kernel)) (ztq_of (by decide +kernel))
theorem kcX8_272 : Cond.constantLong RX8 272 7774 ∈ z_tbl := (z_w 450 ((lwt_2_5 15).trans rfl) (by decide +kernel))
theorem kcX8_350 : Cond.constantLong RX8 350 31 ∈ z_tbl := (z_w 541 ((lwg_3 16).trans rfl) (by decide +kernel))
theorem kcJ8_200 : Cond.constant RJ8 200 2147483639 ∈ z_tbl := (z_w 616 ((lwt_3_3 1).trans rfl) (by decide +kernel))
theorem kcJ5_39 : Cond.constant RJ5 39 2147483647 ∈ z_tbl := (z_w 620 ((lwt_3_3 5).trans rfl) (by decide +kernel))
theorem kcX8_179 : Cond.constant RX8 179 99999 ∈ z_tbl := (z_w 1195 ((lwt_5_6 10).trans rfl) (by decide +kernel))
theorem kcX11_67 : Cond.constant RX11 67 100000 ∈ z_tbl := (z_w 1595 ((lwt_7_3 20).trans rfl) (by decide +kernel))
theorem kcX11_189 : Cond.constant RX11 189 99999 ∈ z_tbl := (z_w 1825 ((lwt_8_3 10).trans rfl) (by decide +kernel))
theorem kcX11_245 : Cond.constantLong RX11 245 7774 ∈ z_tbl := (z_w 1959 ((lwt_8_7 24).trans rfl) (by decide +kernel))
theorem kcX11_243 : Cond.constantLong RX11 243 31 ∈ z_tbl := (z_w 1963 ((lwt_8_7 28).trans rfl) (by decide +kernel))
end ZT
