section ZT
set_option maxRecDepth 100000 in
set_option maxHeartbeats 4000000 in
theorem th_A : z_thr RX8 302 306 "java/lang/IllegalArgumentException" ["java/lang/RuntimeException", "java/lang/Exception"] := z_thrOf (by decide +kernel) (by decide +kernel) (z_w 458 ((lwg_2 173).trans (by decide +kernel)) (by decide +kernel)) (z_w 65 ((lwg_1 20).trans (by decide +kernel)) (by decide +kernel)) (by decide +kernel)
set_option maxRecDepth 100000 in
set_option maxHeartbeats 4000000 in
theorem th_I : z_thr RX8 198 202 "java/lang/IndexOutOfBoundsException" ["java/lang/RuntimeException", "java/lang/Exception"] := z_thrOf (by decide +kernel) (by decide +kernel) (z_w 858 ((lwg_4 93).trans (by decide +kernel)) (by decide +kernel)) (z_w 64 ((lwg_1 19).trans (by decide +kernel)) (by decide +kernel)) (by decide +kernel)
set_option maxRecDepth 100000 in
set_option maxHeartbeats 4000000 in
theorem th_S : z_thr RX8 58 62 "java/lang/IllegalStateException" ["java/lang/RuntimeException", "java/lang/Exception"] := z_thrOf (by decide +kernel) (by decide +kernel) (z_w 881 ((lwg_4 116).trans (by decide +kernel)) (by decide +kernel)) (z_w 66 ((lwg_1 21).trans (by decide +kernel)) (by decide +kernel)) (by decide +kernel)
theorem kcX8_272 : Cond.constantLong RX8 272 7774 ∈ z_tbl := (z_w 450 ((lwg_2 165).trans (by decide +kernel)) (by decide +kernel))
theorem kcX8_350 : Cond.constantLong RX8 350 31 ∈ z_tbl := (z_w 541 ((lwg_3 16).trans (by decide +kernel)) (by decide +kernel))
theorem kcJ2_20 : Cond.constant RJ2 20 1073741823 ∈ z_tbl := (z_w 581 ((lwg_3 56).trans (by decide +kernel)) (by decide +kernel))
theorem kcJ8_200 : Cond.constant RJ8 200 2147483639 ∈ z_tbl := (z_w 616 ((lwg_3 91).trans (by decide +kernel)) (by decide +kernel))
theorem kcJ5_39 : Cond.constant RJ5 39 2147483647 ∈ z_tbl := (z_w 620 ((lwg_3 95).trans (by decide +kernel)) (by decide +kernel))
theorem kcX8_179 : Cond.constant RX8 179 99999 ∈ z_tbl := (z_w 1195 ((lwg_5 190).trans (by decide +kernel)) (by decide +kernel))
theorem kcX11_67 : Cond.constant RX11 67 100000 ∈ z_tbl := (z_w 1595 ((lwg_7 110).trans (by decide +kernel)) (by decide +kernel))
theorem kcX11_189 : Cond.constant RX11 189 99999 ∈ z_tbl := (z_w 1825 ((lwg_8 100).trans (by decide +kernel)) (by decide +kernel))
theorem kcX11_245 : Cond.constantLong RX11 245 7774 ∈ z_tbl := (z_w 1959 ((lwg_8 234).trans (by decide +kernel)) (by decide +kernel))
theorem kcX11_243 : Cond.constantLong RX11 243 31 ∈ z_tbl := (z_w 1963 ((lwg_8 238).trans (by decide +kernel)) (by decide +kernel))
end ZT
