section ZT
set_option maxRecDepth 100000 in
set_option maxHeartbeats 4000000 in
theorem th_A : z_thr RX8 302 306 "java/lang/IllegalArgumentException" ["java/lang/RuntimeException", "java/lang/Exception"] := z_thrOf (by decide +kernel) (by decide +kernel) (z_w 458 (by decide +kernel) (by decide +kernel)) (z_w 65 (by decide +kernel) (by decide +kernel)) (by decide +kernel)
set_option maxRecDepth 100000 in
set_option maxHeartbeats 4000000 in
theorem th_I : z_thr RX8 198 202 "java/lang/IndexOutOfBoundsException" ["java/lang/RuntimeException", "java/lang/Exception"] := z_thrOf (by decide +kernel) (by decide +kernel) (z_w 858 (by decide +kernel) (by decide +kernel)) (z_w 64 (by decide +kernel) (by decide +kernel)) (by decide +kernel)
set_option maxRecDepth 100000 in
set_option maxHeartbeats 4000000 in
theorem th_S : z_thr RX8 58 62 "java/lang/IllegalStateException" ["java/lang/RuntimeException", "java/lang/Exception"] := z_thrOf (by decide +kernel) (by decide +kernel) (z_w 881 (by decide +kernel) (by decide +kernel)) (z_w 66 (by decide +kernel) (by decide +kernel)) (by decide +kernel)
theorem kcX8_272 : Cond.constantLong RX8 272 7774 ∈ z_tbl := (z_w 450 (by decide +kernel) (by decide +kernel))
theorem kcX8_350 : Cond.constantLong RX8 350 31 ∈ z_tbl := (z_w 541 (by decide +kernel) (by decide +kernel))
theorem kcJ2_20 : Cond.constant RJ2 20 1073741823 ∈ z_tbl := (z_w 581 (by decide +kernel) (by decide +kernel))
theorem kcJ8_200 : Cond.constant RJ8 200 2147483639 ∈ z_tbl := (z_w 616 (by decide +kernel) (by decide +kernel))
theorem kcJ5_39 : Cond.constant RJ5 39 2147483647 ∈ z_tbl := (z_w 620 (by decide +kernel) (by decide +kernel))
theorem kcX8_179 : Cond.constant RX8 179 99999 ∈ z_tbl := (z_w 1195 (by decide +kernel) (by decide +kernel))
theorem kcX11_67 : Cond.constant RX11 67 100000 ∈ z_tbl := (z_w 1595 (by decide +kernel) (by decide +kernel))
theorem kcX11_189 : Cond.constant RX11 189 99999 ∈ z_tbl := (z_w 1825 (by decide +kernel) (by decide +kernel))
theorem kcX11_245 : Cond.constantLong RX11 245 7774 ∈ z_tbl := (z_w 1959 (by decide +kernel) (by decide +kernel))
theorem kcX11_243 : Cond.constantLong RX11 243 31 ∈ z_tbl := (z_w 1963 (by decide +kernel) (by decide +kernel))
end ZT
