section ZSb2
variable {G : z_G} {l : Launch}
set_option maxRecDepth 100000 in
set_option maxHeartbeats 8000000 in
theorem sb_size (hl : l.stackTraces = false) (w : z_W) (x : Int32)  : z_Con G l mJ6_stringSize_0f7a4 10 0 0 w [.int x] (fun v w9 => v = some (.int (nI (z_sz x))) ∧ w9 = w) (fun _ _ => False) := by
  refine z_body hl (by decide) rfl (Nat.le_of_ble_eq_true rfl) ?_
  show z_J G l mJ6_stringSize_0f7a4 _ 0 [(0, _)] [] _ 0 0
  refine j_iconst (v := 1) dJ6_stringSize_0f7a4_0 (by decide) ?_
  refine j_istore_n (lo' := [(1, _), (0, _)]) dJ6_stringSize_0f7a4_1 (by decide) rfl ?_
  refine j_iload_n dJ6_stringSize_0f7a4_2 rfl ?_
  refine j_if_lt (tgt := 11) dJ6_stringSize_0f7a4_3 (by decide) (fun c_3_5 => ?_) (fun c_3_5 => ?_)
  · have hx : x < 0 := c_3_5
    have hi : (x).toInt = -(x.toInt.natAbs : Int) := z_poI hx
    refine j_bipush (v := (-10)) dJ6_stringSize_0f7a4_11 (by decide) ?_
    refine j_istore_n (lo' := [(2, _), (1, _), (0, _)]) dJ6_stringSize_0f7a4_13 (by decide) rfl ?_
    refine j_iconst (v := 1) dJ6_stringSize_0f7a4_14 (by decide) ?_
    refine j_istore_n (lo' := [(3, _), (2, _), (1, _), (0, _)]) dJ6_stringSize_0f7a4_15 (by decide) rfl ?_
    refine j_iload_n dJ6_stringSize_0f7a4_16 rfl ?_
    refine j_bipush (v := 10) dJ6_stringSize_0f7a4_17 (by decide) ?_
    refine j_icmp_ge (tgt := 42) dJ6_stringSize_0f7a4_19 (by decide) (fun c_19_14 => ?_) (fun c_19_14 => ?_)
    · exact absurd c_19_14 (by decide)
    · refine j_iload_n dJ6_stringSize_0f7a4_22 rfl ?_
      refine j_iload_n dJ6_stringSize_0f7a4_23 rfl ?_
      refine j_icmp_le (tgt := 31) dJ6_stringSize_0f7a4_24 (by decide) (fun c_24_18 => ?_) (fun c_24_18 => ?_)
      · have hl1 : 10 ≤ x.toInt.natAbs := by have := z_leI c_24_18 hi (show (-10 : Int32).toInt = -10 by decide); omega
        refine j_bipush (v := 10) dJ6_stringSize_0f7a4_31 (by decide) ?_
        refine j_iload_n dJ6_stringSize_0f7a4_33 rfl ?_
        refine j_imul dJ6_stringSize_0f7a4_34 ?_
        refine j_top (congrArg Value.int (show (10 : Int32) * (-10) = (-100) by decide)) ?_
        refine j_istore_n (lo' := [(2, _), (3, _), (1, _), (0, _)]) dJ6_stringSize_0f7a4_35 (by decide) rfl ?_
        refine j_iinc (v := 2) (lo' := [(3, _), (2, _), (1, _), (0, _)]) dJ6_stringSize_0f7a4_36 rfl (by decide) (by decide) rfl ?_
        refine j_goto (tgt := 16) dJ6_stringSize_0f7a4_39 (by decide) ?_
        refine j_iload_n dJ6_stringSize_0f7a4_16 rfl ?_
        refine j_bipush (v := 10) dJ6_stringSize_0f7a4_17 (by decide) ?_
        refine j_icmp_ge (tgt := 42) dJ6_stringSize_0f7a4_19 (by decide) (fun c_19_29 => ?_) (fun c_19_29 => ?_)
        · exact absurd c_19_29 (by decide)
        · refine j_iload_n dJ6_stringSize_0f7a4_22 rfl ?_
          refine j_iload_n dJ6_stringSize_0f7a4_23 rfl ?_
          refine j_icmp_le (tgt := 31) dJ6_stringSize_0f7a4_24 (by decide) (fun c_24_33 => ?_) (fun c_24_33 => ?_)
          · have hl2 : 100 ≤ x.toInt.natAbs := by have := z_leI c_24_33 hi (show (-100 : Int32).toInt = -100 by decide); omega
            refine j_bipush (v := 10) dJ6_stringSize_0f7a4_31 (by decide) ?_
            refine j_iload_n dJ6_stringSize_0f7a4_33 rfl ?_
            refine j_imul dJ6_stringSize_0f7a4_34 ?_
            refine j_top (congrArg Value.int (show (10 : Int32) * (-100) = (-1000) by decide)) ?_
            refine j_istore_n (lo' := [(2, _), (3, _), (1, _), (0, _)]) dJ6_stringSize_0f7a4_35 (by decide) rfl ?_
            refine j_iinc (v := 3) (lo' := [(3, _), (2, _), (1, _), (0, _)]) dJ6_stringSize_0f7a4_36 rfl (by decide) (by decide) rfl ?_
            refine j_goto (tgt := 16) dJ6_stringSize_0f7a4_39 (by decide) ?_
            refine j_iload_n dJ6_stringSize_0f7a4_16 rfl ?_
            refine j_bipush (v := 10) dJ6_stringSize_0f7a4_17 (by decide) ?_
            refine j_icmp_ge (tgt := 42) dJ6_stringSize_0f7a4_19 (by decide) (fun c_19_44 => ?_) (fun c_19_44 => ?_)
            · exact absurd c_19_44 (by decide)
            · refine j_iload_n dJ6_stringSize_0f7a4_22 rfl ?_
              refine j_iload_n dJ6_stringSize_0f7a4_23 rfl ?_
              refine j_icmp_le (tgt := 31) dJ6_stringSize_0f7a4_24 (by decide) (fun c_24_48 => ?_) (fun c_24_48 => ?_)
              · have hl3 : 1000 ≤ x.toInt.natAbs := by have := z_leI c_24_48 hi (show (-1000 : Int32).toInt = -1000 by decide); omega
                refine j_bipush (v := 10) dJ6_stringSize_0f7a4_31 (by decide) ?_
                refine j_iload_n dJ6_stringSize_0f7a4_33 rfl ?_
                refine j_imul dJ6_stringSize_0f7a4_34 ?_
                refine j_top (congrArg Value.int (show (10 : Int32) * (-1000) = (-10000) by decide)) ?_
                refine j_istore_n (lo' := [(2, _), (3, _), (1, _), (0, _)]) dJ6_stringSize_0f7a4_35 (by decide) rfl ?_
                refine j_iinc (v := 4) (lo' := [(3, _), (2, _), (1, _), (0, _)]) dJ6_stringSize_0f7a4_36 rfl (by decide) (by decide) rfl ?_
                refine j_goto (tgt := 16) dJ6_stringSize_0f7a4_39 (by decide) ?_
                refine j_iload_n dJ6_stringSize_0f7a4_16 rfl ?_
                refine j_bipush (v := 10) dJ6_stringSize_0f7a4_17 (by decide) ?_
                refine j_icmp_ge (tgt := 42) dJ6_stringSize_0f7a4_19 (by decide) (fun c_19_59 => ?_) (fun c_19_59 => ?_)
                · exact absurd c_19_59 (by decide)
                · refine j_iload_n dJ6_stringSize_0f7a4_22 rfl ?_
                  refine j_iload_n dJ6_stringSize_0f7a4_23 rfl ?_
                  refine j_icmp_le (tgt := 31) dJ6_stringSize_0f7a4_24 (by decide) (fun c_24_63 => ?_) (fun c_24_63 => ?_)
                  · have hl4 : 10000 ≤ x.toInt.natAbs := by have := z_leI c_24_63 hi (show (-10000 : Int32).toInt = -10000 by decide); omega
                    refine j_bipush (v := 10) dJ6_stringSize_0f7a4_31 (by decide) ?_
                    refine j_iload_n dJ6_stringSize_0f7a4_33 rfl ?_
                    refine j_imul dJ6_stringSize_0f7a4_34 ?_
                    refine j_top (congrArg Value.int (show (10 : Int32) * (-10000) = (-100000) by decide)) ?_
                    refine j_istore_n (lo' := [(2, _), (3, _), (1, _), (0, _)]) dJ6_stringSize_0f7a4_35 (by decide) rfl ?_
                    refine j_iinc (v := 5) (lo' := [(3, _), (2, _), (1, _), (0, _)]) dJ6_stringSize_0f7a4_36 rfl (by decide) (by decide) rfl ?_
                    refine j_goto (tgt := 16) dJ6_stringSize_0f7a4_39 (by decide) ?_
                    refine j_iload_n dJ6_stringSize_0f7a4_16 rfl ?_
                    refine j_bipush (v := 10) dJ6_stringSize_0f7a4_17 (by decide) ?_
                    refine j_icmp_ge (tgt := 42) dJ6_stringSize_0f7a4_19 (by decide) (fun c_19_74 => ?_) (fun c_19_74 => ?_)
                    · exact absurd c_19_74 (by decide)
                    · refine j_iload_n dJ6_stringSize_0f7a4_22 rfl ?_
                      refine j_iload_n dJ6_stringSize_0f7a4_23 rfl ?_
                      refine j_icmp_le (tgt := 31) dJ6_stringSize_0f7a4_24 (by decide) (fun c_24_78 => ?_) (fun c_24_78 => ?_)
                      · have hl5 : 100000 ≤ x.toInt.natAbs := by have := z_leI c_24_78 hi (show (-100000 : Int32).toInt = -100000 by decide); omega
                        refine j_bipush (v := 10) dJ6_stringSize_0f7a4_31 (by decide) ?_
                        refine j_iload_n dJ6_stringSize_0f7a4_33 rfl ?_
                        refine j_imul dJ6_stringSize_0f7a4_34 ?_
                        refine j_top (congrArg Value.int (show (10 : Int32) * (-100000) = (-1000000) by decide)) ?_
                        refine j_istore_n (lo' := [(2, _), (3, _), (1, _), (0, _)]) dJ6_stringSize_0f7a4_35 (by decide) rfl ?_
                        refine j_iinc (v := 6) (lo' := [(3, _), (2, _), (1, _), (0, _)]) dJ6_stringSize_0f7a4_36 rfl (by decide) (by decide) rfl ?_
                        refine j_goto (tgt := 16) dJ6_stringSize_0f7a4_39 (by decide) ?_
                        refine j_iload_n dJ6_stringSize_0f7a4_16 rfl ?_
                        refine j_bipush (v := 10) dJ6_stringSize_0f7a4_17 (by decide) ?_
                        refine j_icmp_ge (tgt := 42) dJ6_stringSize_0f7a4_19 (by decide) (fun c_19_89 => ?_) (fun c_19_89 => ?_)
                        · exact absurd c_19_89 (by decide)
                        · refine j_iload_n dJ6_stringSize_0f7a4_22 rfl ?_
                          refine j_iload_n dJ6_stringSize_0f7a4_23 rfl ?_
                          refine j_icmp_le (tgt := 31) dJ6_stringSize_0f7a4_24 (by decide) (fun c_24_93 => ?_) (fun c_24_93 => ?_)
                          · have hl6 : 1000000 ≤ x.toInt.natAbs := by have := z_leI c_24_93 hi (show (-1000000 : Int32).toInt = -1000000 by decide); omega
                            refine j_bipush (v := 10) dJ6_stringSize_0f7a4_31 (by decide) ?_
                            refine j_iload_n dJ6_stringSize_0f7a4_33 rfl ?_
                            refine j_imul dJ6_stringSize_0f7a4_34 ?_
                            refine j_top (congrArg Value.int (show (10 : Int32) * (-1000000) = (-10000000) by decide)) ?_
                            refine j_istore_n (lo' := [(2, _), (3, _), (1, _), (0, _)]) dJ6_stringSize_0f7a4_35 (by decide) rfl ?_
                            refine j_iinc (v := 7) (lo' := [(3, _), (2, _), (1, _), (0, _)]) dJ6_stringSize_0f7a4_36 rfl (by decide) (by decide) rfl ?_
                            refine j_goto (tgt := 16) dJ6_stringSize_0f7a4_39 (by decide) ?_
                            refine j_iload_n dJ6_stringSize_0f7a4_16 rfl ?_
                            refine j_bipush (v := 10) dJ6_stringSize_0f7a4_17 (by decide) ?_
                            refine j_icmp_ge (tgt := 42) dJ6_stringSize_0f7a4_19 (by decide) (fun c_19_104 => ?_) (fun c_19_104 => ?_)
                            · exact absurd c_19_104 (by decide)
                            · refine j_iload_n dJ6_stringSize_0f7a4_22 rfl ?_
                              refine j_iload_n dJ6_stringSize_0f7a4_23 rfl ?_
                              refine j_icmp_le (tgt := 31) dJ6_stringSize_0f7a4_24 (by decide) (fun c_24_108 => ?_) (fun c_24_108 => ?_)
                              · have hl7 : 10000000 ≤ x.toInt.natAbs := by have := z_leI c_24_108 hi (show (-10000000 : Int32).toInt = -10000000 by decide); omega
                                refine j_bipush (v := 10) dJ6_stringSize_0f7a4_31 (by decide) ?_
                                refine j_iload_n dJ6_stringSize_0f7a4_33 rfl ?_
                                refine j_imul dJ6_stringSize_0f7a4_34 ?_
                                refine j_top (congrArg Value.int (show (10 : Int32) * (-10000000) = (-100000000) by decide)) ?_
                                refine j_istore_n (lo' := [(2, _), (3, _), (1, _), (0, _)]) dJ6_stringSize_0f7a4_35 (by decide) rfl ?_
                                refine j_iinc (v := 8) (lo' := [(3, _), (2, _), (1, _), (0, _)]) dJ6_stringSize_0f7a4_36 rfl (by decide) (by decide) rfl ?_
                                refine j_goto (tgt := 16) dJ6_stringSize_0f7a4_39 (by decide) ?_
                                refine j_iload_n dJ6_stringSize_0f7a4_16 rfl ?_
                                refine j_bipush (v := 10) dJ6_stringSize_0f7a4_17 (by decide) ?_
                                refine j_icmp_ge (tgt := 42) dJ6_stringSize_0f7a4_19 (by decide) (fun c_19_119 => ?_) (fun c_19_119 => ?_)
                                · exact absurd c_19_119 (by decide)
                                · refine j_iload_n dJ6_stringSize_0f7a4_22 rfl ?_
                                  refine j_iload_n dJ6_stringSize_0f7a4_23 rfl ?_
                                  refine j_icmp_le (tgt := 31) dJ6_stringSize_0f7a4_24 (by decide) (fun c_24_123 => ?_) (fun c_24_123 => ?_)
                                  · have hl8 : 100000000 ≤ x.toInt.natAbs := by have := z_leI c_24_123 hi (show (-100000000 : Int32).toInt = -100000000 by decide); omega
                                    refine j_bipush (v := 10) dJ6_stringSize_0f7a4_31 (by decide) ?_
                                    refine j_iload_n dJ6_stringSize_0f7a4_33 rfl ?_
                                    refine j_imul dJ6_stringSize_0f7a4_34 ?_
                                    refine j_top (congrArg Value.int (show (10 : Int32) * (-100000000) = (-1000000000) by decide)) ?_
                                    refine j_istore_n (lo' := [(2, _), (3, _), (1, _), (0, _)]) dJ6_stringSize_0f7a4_35 (by decide) rfl ?_
                                    refine j_iinc (v := 9) (lo' := [(3, _), (2, _), (1, _), (0, _)]) dJ6_stringSize_0f7a4_36 rfl (by decide) (by decide) rfl ?_
                                    refine j_goto (tgt := 16) dJ6_stringSize_0f7a4_39 (by decide) ?_
                                    refine j_iload_n dJ6_stringSize_0f7a4_16 rfl ?_
                                    refine j_bipush (v := 10) dJ6_stringSize_0f7a4_17 (by decide) ?_
                                    refine j_icmp_ge (tgt := 42) dJ6_stringSize_0f7a4_19 (by decide) (fun c_19_134 => ?_) (fun c_19_134 => ?_)
                                    · exact absurd c_19_134 (by decide)
                                    · refine j_iload_n dJ6_stringSize_0f7a4_22 rfl ?_
                                      refine j_iload_n dJ6_stringSize_0f7a4_23 rfl ?_
                                      refine j_icmp_le (tgt := 31) dJ6_stringSize_0f7a4_24 (by decide) (fun c_24_138 => ?_) (fun c_24_138 => ?_)
                                      · have hl9 : 1000000000 ≤ x.toInt.natAbs := by have := z_leI c_24_138 hi (show (-1000000000 : Int32).toInt = -1000000000 by decide); omega
                                        refine j_bipush (v := 10) dJ6_stringSize_0f7a4_31 (by decide) ?_
                                        refine j_iload_n dJ6_stringSize_0f7a4_33 rfl ?_
                                        refine j_imul dJ6_stringSize_0f7a4_34 ?_
                                        refine j_top (congrArg Value.int (show (10 : Int32) * (-1000000000) = (-1410065408) by decide)) ?_
                                        refine j_istore_n (lo' := [(2, _), (3, _), (1, _), (0, _)]) dJ6_stringSize_0f7a4_35 (by decide) rfl ?_
                                        refine j_iinc (v := 10) (lo' := [(3, _), (2, _), (1, _), (0, _)]) dJ6_stringSize_0f7a4_36 rfl (by decide) (by decide) rfl ?_
                                        refine j_goto (tgt := 16) dJ6_stringSize_0f7a4_39 (by decide) ?_
                                        refine j_iload_n dJ6_stringSize_0f7a4_16 rfl ?_
                                        refine j_bipush (v := 10) dJ6_stringSize_0f7a4_17 (by decide) ?_
                                        refine j_icmp_ge (tgt := 42) dJ6_stringSize_0f7a4_19 (by decide) (fun c_19_149 => ?_) (fun c_19_149 => ?_)
                                        · refine j_bipush (v := 10) dJ6_stringSize_0f7a4_42 (by decide) ?_
                                          refine j_iload_n dJ6_stringSize_0f7a4_44 rfl ?_
                                          refine j_iadd dJ6_stringSize_0f7a4_45 ?_
                                          refine j_iret dJ6_stringSize_0f7a4_46 rfl rfl ?_ (Nat.le_of_ble_eq_true rfl) (Nat.le_of_ble_eq_true rfl)
                                          have hd : z_dg x.toInt.natAbs = 10 := by unfold z_dg; rw [if_neg (show ¬ x.toInt.natAbs < 10 by omega), if_neg (show ¬ x.toInt.natAbs < 100 by omega), if_neg (show ¬ x.toInt.natAbs < 1000 by omega), if_neg (show ¬ x.toInt.natAbs < 10000 by omega), if_neg (show ¬ x.toInt.natAbs < 100000 by omega), if_neg (show ¬ x.toInt.natAbs < 1000000 by omega), if_neg (show ¬ x.toInt.natAbs < 10000000 by omega), if_neg (show ¬ x.toInt.natAbs < 100000000 by omega), if_neg (show ¬ x.toInt.natAbs < 1000000000 by omega)]
                                          have hz : z_sz x = 11 := by unfold z_sz; rw [if_pos hx, hd]
                                          rw [hz]
                                          exact ⟨rfl, rfl⟩
                                        · exact absurd (by decide) c_19_149
                                      · have hu : x.toInt.natAbs < 1000000000 := by have := z_nleI c_24_138 hi (show (-1000000000 : Int32).toInt = -1000000000 by decide); omega
                                        refine j_iload_n dJ6_stringSize_0f7a4_27 rfl ?_
                                        refine j_iload_n dJ6_stringSize_0f7a4_28 rfl ?_
                                        refine j_iadd dJ6_stringSize_0f7a4_29 ?_
                                        refine j_iret dJ6_stringSize_0f7a4_30 rfl rfl ?_ (Nat.le_of_ble_eq_true rfl) (Nat.le_of_ble_eq_true rfl)
                                        have hd : z_dg x.toInt.natAbs = 9 := z_dgL (k := 9) ⟨Or.inr hl8, hu⟩ (by omega)
                                        have hz : z_sz x = 10 := by unfold z_sz; rw [if_pos hx, hd]
                                        rw [hz]
                                        exact ⟨rfl, rfl⟩
                                  · have hu : x.toInt.natAbs < 100000000 := by have := z_nleI c_24_123 hi (show (-100000000 : Int32).toInt = -100000000 by decide); omega
                                    refine j_iload_n dJ6_stringSize_0f7a4_27 rfl ?_
                                    refine j_iload_n dJ6_stringSize_0f7a4_28 rfl ?_
                                    refine j_iadd dJ6_stringSize_0f7a4_29 ?_
                                    refine j_iret dJ6_stringSize_0f7a4_30 rfl rfl ?_ (Nat.le_of_ble_eq_true rfl) (Nat.le_of_ble_eq_true rfl)
                                    have hd : z_dg x.toInt.natAbs = 8 := z_dgL (k := 8) ⟨Or.inr hl7, hu⟩ (by omega)
                                    have hz : z_sz x = 9 := by unfold z_sz; rw [if_pos hx, hd]
                                    rw [hz]
                                    exact ⟨rfl, rfl⟩
                              · have hu : x.toInt.natAbs < 10000000 := by have := z_nleI c_24_108 hi (show (-10000000 : Int32).toInt = -10000000 by decide); omega
                                refine j_iload_n dJ6_stringSize_0f7a4_27 rfl ?_
                                refine j_iload_n dJ6_stringSize_0f7a4_28 rfl ?_
                                refine j_iadd dJ6_stringSize_0f7a4_29 ?_
                                refine j_iret dJ6_stringSize_0f7a4_30 rfl rfl ?_ (Nat.le_of_ble_eq_true rfl) (Nat.le_of_ble_eq_true rfl)
                                have hd : z_dg x.toInt.natAbs = 7 := z_dgL (k := 7) ⟨Or.inr hl6, hu⟩ (by omega)
                                have hz : z_sz x = 8 := by unfold z_sz; rw [if_pos hx, hd]
                                rw [hz]
                                exact ⟨rfl, rfl⟩
                          · have hu : x.toInt.natAbs < 1000000 := by have := z_nleI c_24_93 hi (show (-1000000 : Int32).toInt = -1000000 by decide); omega
                            refine j_iload_n dJ6_stringSize_0f7a4_27 rfl ?_
                            refine j_iload_n dJ6_stringSize_0f7a4_28 rfl ?_
                            refine j_iadd dJ6_stringSize_0f7a4_29 ?_
                            refine j_iret dJ6_stringSize_0f7a4_30 rfl rfl ?_ (Nat.le_of_ble_eq_true rfl) (Nat.le_of_ble_eq_true rfl)
                            have hd : z_dg x.toInt.natAbs = 6 := z_dgL (k := 6) ⟨Or.inr hl5, hu⟩ (by omega)
                            have hz : z_sz x = 7 := by unfold z_sz; rw [if_pos hx, hd]
                            rw [hz]
                            exact ⟨rfl, rfl⟩
                      · have hu : x.toInt.natAbs < 100000 := by have := z_nleI c_24_78 hi (show (-100000 : Int32).toInt = -100000 by decide); omega
                        refine j_iload_n dJ6_stringSize_0f7a4_27 rfl ?_
                        refine j_iload_n dJ6_stringSize_0f7a4_28 rfl ?_
                        refine j_iadd dJ6_stringSize_0f7a4_29 ?_
                        refine j_iret dJ6_stringSize_0f7a4_30 rfl rfl ?_ (Nat.le_of_ble_eq_true rfl) (Nat.le_of_ble_eq_true rfl)
                        have hd : z_dg x.toInt.natAbs = 5 := z_dgL (k := 5) ⟨Or.inr hl4, hu⟩ (by omega)
                        have hz : z_sz x = 6 := by unfold z_sz; rw [if_pos hx, hd]
                        rw [hz]
                        exact ⟨rfl, rfl⟩
                  · have hu : x.toInt.natAbs < 10000 := by have := z_nleI c_24_63 hi (show (-10000 : Int32).toInt = -10000 by decide); omega
                    refine j_iload_n dJ6_stringSize_0f7a4_27 rfl ?_
                    refine j_iload_n dJ6_stringSize_0f7a4_28 rfl ?_
                    refine j_iadd dJ6_stringSize_0f7a4_29 ?_
                    refine j_iret dJ6_stringSize_0f7a4_30 rfl rfl ?_ (Nat.le_of_ble_eq_true rfl) (Nat.le_of_ble_eq_true rfl)
                    have hd : z_dg x.toInt.natAbs = 4 := z_dgL (k := 4) ⟨Or.inr hl3, hu⟩ (by omega)
                    have hz : z_sz x = 5 := by unfold z_sz; rw [if_pos hx, hd]
                    rw [hz]
                    exact ⟨rfl, rfl⟩
              · have hu : x.toInt.natAbs < 1000 := by have := z_nleI c_24_48 hi (show (-1000 : Int32).toInt = -1000 by decide); omega
                refine j_iload_n dJ6_stringSize_0f7a4_27 rfl ?_
                refine j_iload_n dJ6_stringSize_0f7a4_28 rfl ?_
                refine j_iadd dJ6_stringSize_0f7a4_29 ?_
                refine j_iret dJ6_stringSize_0f7a4_30 rfl rfl ?_ (Nat.le_of_ble_eq_true rfl) (Nat.le_of_ble_eq_true rfl)
                have hd : z_dg x.toInt.natAbs = 3 := z_dgL (k := 3) ⟨Or.inr hl2, hu⟩ (by omega)
                have hz : z_sz x = 4 := by unfold z_sz; rw [if_pos hx, hd]
                rw [hz]
                exact ⟨rfl, rfl⟩
          · have hu : x.toInt.natAbs < 100 := by have := z_nleI c_24_33 hi (show (-100 : Int32).toInt = -100 by decide); omega
            refine j_iload_n dJ6_stringSize_0f7a4_27 rfl ?_
            refine j_iload_n dJ6_stringSize_0f7a4_28 rfl ?_
            refine j_iadd dJ6_stringSize_0f7a4_29 ?_
            refine j_iret dJ6_stringSize_0f7a4_30 rfl rfl ?_ (Nat.le_of_ble_eq_true rfl) (Nat.le_of_ble_eq_true rfl)
            have hd : z_dg x.toInt.natAbs = 2 := z_dgL (k := 2) ⟨Or.inr hl1, hu⟩ (by omega)
            have hz : z_sz x = 3 := by unfold z_sz; rw [if_pos hx, hd]
            rw [hz]
            exact ⟨rfl, rfl⟩
      · have hu : x.toInt.natAbs < 10 := by have := z_nleI c_24_18 hi (show (-10 : Int32).toInt = -10 by decide); omega
        refine j_iload_n dJ6_stringSize_0f7a4_27 rfl ?_
        refine j_iload_n dJ6_stringSize_0f7a4_28 rfl ?_
        refine j_iadd dJ6_stringSize_0f7a4_29 ?_
        refine j_iret dJ6_stringSize_0f7a4_30 rfl rfl ?_ (Nat.le_of_ble_eq_true rfl) (Nat.le_of_ble_eq_true rfl)
        have hd : z_dg x.toInt.natAbs = 1 := z_dgL (k := 1) ⟨Or.inl rfl, hu⟩ (by omega)
        have hz : z_sz x = 2 := by unfold z_sz; rw [if_pos hx, hd]
        rw [hz]
        exact ⟨rfl, rfl⟩
  · have hx : ¬ x < 0 := c_3_5
    have hi : (-x).toInt = -(x.toInt.natAbs : Int) := z_ngI hx
    refine j_iconst (v := 0) dJ6_stringSize_0f7a4_6 (by decide) ?_
    refine j_istore_n (lo' := [(1, _), (0, _)]) dJ6_stringSize_0f7a4_7 (by decide) rfl ?_
    refine j_iload_n dJ6_stringSize_0f7a4_8 rfl ?_
    refine j_ineg dJ6_stringSize_0f7a4_9 ?_
    refine j_istore_n (lo' := [(0, _), (1, _)]) dJ6_stringSize_0f7a4_10 (by decide) rfl ?_
    refine j_bipush (v := (-10)) dJ6_stringSize_0f7a4_11 (by decide) ?_
    refine j_istore_n (lo' := [(2, _), (0, _), (1, _)]) dJ6_stringSize_0f7a4_13 (by decide) rfl ?_
    refine j_iconst (v := 1) dJ6_stringSize_0f7a4_14 (by decide) ?_
    refine j_istore_n (lo' := [(3, _), (2, _), (0, _), (1, _)]) dJ6_stringSize_0f7a4_15 (by decide) rfl ?_
    refine j_iload_n dJ6_stringSize_0f7a4_16 rfl ?_
    refine j_bipush (v := 10) dJ6_stringSize_0f7a4_17 (by decide) ?_
    refine j_icmp_ge (tgt := 42) dJ6_stringSize_0f7a4_19 (by decide) (fun c_19_253 => ?_) (fun c_19_253 => ?_)
    · exact absurd c_19_253 (by decide)
    · refine j_iload_n dJ6_stringSize_0f7a4_22 rfl ?_
      refine j_iload_n dJ6_stringSize_0f7a4_23 rfl ?_
      refine j_icmp_le (tgt := 31) dJ6_stringSize_0f7a4_24 (by decide) (fun c_24_257 => ?_) (fun c_24_257 => ?_)
      · have hl1 : 10 ≤ x.toInt.natAbs := by have := z_leI c_24_257 hi (show (-10 : Int32).toInt = -10 by decide); omega
        refine j_bipush (v := 10) dJ6_stringSize_0f7a4_31 (by decide) ?_
        refine j_iload_n dJ6_stringSize_0f7a4_33 rfl ?_
        refine j_imul dJ6_stringSize_0f7a4_34 ?_
        refine j_top (congrArg Value.int (show (10 : Int32) * (-10) = (-100) by decide)) ?_
        refine j_istore_n (lo' := [(2, _), (3, _), (0, _), (1, _)]) dJ6_stringSize_0f7a4_35 (by decide) rfl ?_
        refine j_iinc (v := 2) (lo' := [(3, _), (2, _), (0, _), (1, _)]) dJ6_stringSize_0f7a4_36 rfl (by decide) (by decide) rfl ?_
        refine j_goto (tgt := 16) dJ6_stringSize_0f7a4_39 (by decide) ?_
        refine j_iload_n dJ6_stringSize_0f7a4_16 rfl ?_
        refine j_bipush (v := 10) dJ6_stringSize_0f7a4_17 (by decide) ?_
        refine j_icmp_ge (tgt := 42) dJ6_stringSize_0f7a4_19 (by decide) (fun c_19_268 => ?_) (fun c_19_268 => ?_)
        · exact absurd c_19_268 (by decide)
        · refine j_iload_n dJ6_stringSize_0f7a4_22 rfl ?_
          refine j_iload_n dJ6_stringSize_0f7a4_23 rfl ?_
          refine j_icmp_le (tgt := 31) dJ6_stringSize_0f7a4_24 (by decide) (fun c_24_272 => ?_) (fun c_24_272 => ?_)
          · have hl2 : 100 ≤ x.toInt.natAbs := by have := z_leI c_24_272 hi (show (-100 : Int32).toInt = -100 by decide); omega
            refine j_bipush (v := 10) dJ6_stringSize_0f7a4_31 (by decide) ?_
            refine j_iload_n dJ6_stringSize_0f7a4_33 rfl ?_
            refine j_imul dJ6_stringSize_0f7a4_34 ?_
            refine j_top (congrArg Value.int (show (10 : Int32) * (-100) = (-1000) by decide)) ?_
            refine j_istore_n (lo' := [(2, _), (3, _), (0, _), (1, _)]) dJ6_stringSize_0f7a4_35 (by decide) rfl ?_
            refine j_iinc (v := 3) (lo' := [(3, _), (2, _), (0, _), (1, _)]) dJ6_stringSize_0f7a4_36 rfl (by decide) (by decide) rfl ?_
            refine j_goto (tgt := 16) dJ6_stringSize_0f7a4_39 (by decide) ?_
            refine j_iload_n dJ6_stringSize_0f7a4_16 rfl ?_
            refine j_bipush (v := 10) dJ6_stringSize_0f7a4_17 (by decide) ?_
            refine j_icmp_ge (tgt := 42) dJ6_stringSize_0f7a4_19 (by decide) (fun c_19_283 => ?_) (fun c_19_283 => ?_)
            · exact absurd c_19_283 (by decide)
            · refine j_iload_n dJ6_stringSize_0f7a4_22 rfl ?_
              refine j_iload_n dJ6_stringSize_0f7a4_23 rfl ?_
              refine j_icmp_le (tgt := 31) dJ6_stringSize_0f7a4_24 (by decide) (fun c_24_287 => ?_) (fun c_24_287 => ?_)
              · have hl3 : 1000 ≤ x.toInt.natAbs := by have := z_leI c_24_287 hi (show (-1000 : Int32).toInt = -1000 by decide); omega
                refine j_bipush (v := 10) dJ6_stringSize_0f7a4_31 (by decide) ?_
                refine j_iload_n dJ6_stringSize_0f7a4_33 rfl ?_
                refine j_imul dJ6_stringSize_0f7a4_34 ?_
                refine j_top (congrArg Value.int (show (10 : Int32) * (-1000) = (-10000) by decide)) ?_
                refine j_istore_n (lo' := [(2, _), (3, _), (0, _), (1, _)]) dJ6_stringSize_0f7a4_35 (by decide) rfl ?_
                refine j_iinc (v := 4) (lo' := [(3, _), (2, _), (0, _), (1, _)]) dJ6_stringSize_0f7a4_36 rfl (by decide) (by decide) rfl ?_
                refine j_goto (tgt := 16) dJ6_stringSize_0f7a4_39 (by decide) ?_
                refine j_iload_n dJ6_stringSize_0f7a4_16 rfl ?_
                refine j_bipush (v := 10) dJ6_stringSize_0f7a4_17 (by decide) ?_
                refine j_icmp_ge (tgt := 42) dJ6_stringSize_0f7a4_19 (by decide) (fun c_19_298 => ?_) (fun c_19_298 => ?_)
                · exact absurd c_19_298 (by decide)
                · refine j_iload_n dJ6_stringSize_0f7a4_22 rfl ?_
                  refine j_iload_n dJ6_stringSize_0f7a4_23 rfl ?_
                  refine j_icmp_le (tgt := 31) dJ6_stringSize_0f7a4_24 (by decide) (fun c_24_302 => ?_) (fun c_24_302 => ?_)
                  · have hl4 : 10000 ≤ x.toInt.natAbs := by have := z_leI c_24_302 hi (show (-10000 : Int32).toInt = -10000 by decide); omega
                    refine j_bipush (v := 10) dJ6_stringSize_0f7a4_31 (by decide) ?_
                    refine j_iload_n dJ6_stringSize_0f7a4_33 rfl ?_
                    refine j_imul dJ6_stringSize_0f7a4_34 ?_
                    refine j_top (congrArg Value.int (show (10 : Int32) * (-10000) = (-100000) by decide)) ?_
                    refine j_istore_n (lo' := [(2, _), (3, _), (0, _), (1, _)]) dJ6_stringSize_0f7a4_35 (by decide) rfl ?_
                    refine j_iinc (v := 5) (lo' := [(3, _), (2, _), (0, _), (1, _)]) dJ6_stringSize_0f7a4_36 rfl (by decide) (by decide) rfl ?_
                    refine j_goto (tgt := 16) dJ6_stringSize_0f7a4_39 (by decide) ?_
                    refine j_iload_n dJ6_stringSize_0f7a4_16 rfl ?_
                    refine j_bipush (v := 10) dJ6_stringSize_0f7a4_17 (by decide) ?_
                    refine j_icmp_ge (tgt := 42) dJ6_stringSize_0f7a4_19 (by decide) (fun c_19_313 => ?_) (fun c_19_313 => ?_)
                    · exact absurd c_19_313 (by decide)
                    · refine j_iload_n dJ6_stringSize_0f7a4_22 rfl ?_
                      refine j_iload_n dJ6_stringSize_0f7a4_23 rfl ?_
                      refine j_icmp_le (tgt := 31) dJ6_stringSize_0f7a4_24 (by decide) (fun c_24_317 => ?_) (fun c_24_317 => ?_)
                      · have hl5 : 100000 ≤ x.toInt.natAbs := by have := z_leI c_24_317 hi (show (-100000 : Int32).toInt = -100000 by decide); omega
                        refine j_bipush (v := 10) dJ6_stringSize_0f7a4_31 (by decide) ?_
                        refine j_iload_n dJ6_stringSize_0f7a4_33 rfl ?_
                        refine j_imul dJ6_stringSize_0f7a4_34 ?_
                        refine j_top (congrArg Value.int (show (10 : Int32) * (-100000) = (-1000000) by decide)) ?_
                        refine j_istore_n (lo' := [(2, _), (3, _), (0, _), (1, _)]) dJ6_stringSize_0f7a4_35 (by decide) rfl ?_
                        refine j_iinc (v := 6) (lo' := [(3, _), (2, _), (0, _), (1, _)]) dJ6_stringSize_0f7a4_36 rfl (by decide) (by decide) rfl ?_
                        refine j_goto (tgt := 16) dJ6_stringSize_0f7a4_39 (by decide) ?_
                        refine j_iload_n dJ6_stringSize_0f7a4_16 rfl ?_
                        refine j_bipush (v := 10) dJ6_stringSize_0f7a4_17 (by decide) ?_
                        refine j_icmp_ge (tgt := 42) dJ6_stringSize_0f7a4_19 (by decide) (fun c_19_328 => ?_) (fun c_19_328 => ?_)
                        · exact absurd c_19_328 (by decide)
                        · refine j_iload_n dJ6_stringSize_0f7a4_22 rfl ?_
                          refine j_iload_n dJ6_stringSize_0f7a4_23 rfl ?_
                          refine j_icmp_le (tgt := 31) dJ6_stringSize_0f7a4_24 (by decide) (fun c_24_332 => ?_) (fun c_24_332 => ?_)
                          · have hl6 : 1000000 ≤ x.toInt.natAbs := by have := z_leI c_24_332 hi (show (-1000000 : Int32).toInt = -1000000 by decide); omega
                            refine j_bipush (v := 10) dJ6_stringSize_0f7a4_31 (by decide) ?_
                            refine j_iload_n dJ6_stringSize_0f7a4_33 rfl ?_
                            refine j_imul dJ6_stringSize_0f7a4_34 ?_
                            refine j_top (congrArg Value.int (show (10 : Int32) * (-1000000) = (-10000000) by decide)) ?_
                            refine j_istore_n (lo' := [(2, _), (3, _), (0, _), (1, _)]) dJ6_stringSize_0f7a4_35 (by decide) rfl ?_
                            refine j_iinc (v := 7) (lo' := [(3, _), (2, _), (0, _), (1, _)]) dJ6_stringSize_0f7a4_36 rfl (by decide) (by decide) rfl ?_
                            refine j_goto (tgt := 16) dJ6_stringSize_0f7a4_39 (by decide) ?_
                            refine j_iload_n dJ6_stringSize_0f7a4_16 rfl ?_
                            refine j_bipush (v := 10) dJ6_stringSize_0f7a4_17 (by decide) ?_
                            refine j_icmp_ge (tgt := 42) dJ6_stringSize_0f7a4_19 (by decide) (fun c_19_343 => ?_) (fun c_19_343 => ?_)
                            · exact absurd c_19_343 (by decide)
                            · refine j_iload_n dJ6_stringSize_0f7a4_22 rfl ?_
                              refine j_iload_n dJ6_stringSize_0f7a4_23 rfl ?_
                              refine j_icmp_le (tgt := 31) dJ6_stringSize_0f7a4_24 (by decide) (fun c_24_347 => ?_) (fun c_24_347 => ?_)
                              · have hl7 : 10000000 ≤ x.toInt.natAbs := by have := z_leI c_24_347 hi (show (-10000000 : Int32).toInt = -10000000 by decide); omega
                                refine j_bipush (v := 10) dJ6_stringSize_0f7a4_31 (by decide) ?_
                                refine j_iload_n dJ6_stringSize_0f7a4_33 rfl ?_
                                refine j_imul dJ6_stringSize_0f7a4_34 ?_
                                refine j_top (congrArg Value.int (show (10 : Int32) * (-10000000) = (-100000000) by decide)) ?_
                                refine j_istore_n (lo' := [(2, _), (3, _), (0, _), (1, _)]) dJ6_stringSize_0f7a4_35 (by decide) rfl ?_
                                refine j_iinc (v := 8) (lo' := [(3, _), (2, _), (0, _), (1, _)]) dJ6_stringSize_0f7a4_36 rfl (by decide) (by decide) rfl ?_
                                refine j_goto (tgt := 16) dJ6_stringSize_0f7a4_39 (by decide) ?_
                                refine j_iload_n dJ6_stringSize_0f7a4_16 rfl ?_
                                refine j_bipush (v := 10) dJ6_stringSize_0f7a4_17 (by decide) ?_
                                refine j_icmp_ge (tgt := 42) dJ6_stringSize_0f7a4_19 (by decide) (fun c_19_358 => ?_) (fun c_19_358 => ?_)
                                · exact absurd c_19_358 (by decide)
                                · refine j_iload_n dJ6_stringSize_0f7a4_22 rfl ?_
                                  refine j_iload_n dJ6_stringSize_0f7a4_23 rfl ?_
                                  refine j_icmp_le (tgt := 31) dJ6_stringSize_0f7a4_24 (by decide) (fun c_24_362 => ?_) (fun c_24_362 => ?_)
                                  · have hl8 : 100000000 ≤ x.toInt.natAbs := by have := z_leI c_24_362 hi (show (-100000000 : Int32).toInt = -100000000 by decide); omega
                                    refine j_bipush (v := 10) dJ6_stringSize_0f7a4_31 (by decide) ?_
                                    refine j_iload_n dJ6_stringSize_0f7a4_33 rfl ?_
                                    refine j_imul dJ6_stringSize_0f7a4_34 ?_
                                    refine j_top (congrArg Value.int (show (10 : Int32) * (-100000000) = (-1000000000) by decide)) ?_
                                    refine j_istore_n (lo' := [(2, _), (3, _), (0, _), (1, _)]) dJ6_stringSize_0f7a4_35 (by decide) rfl ?_
                                    refine j_iinc (v := 9) (lo' := [(3, _), (2, _), (0, _), (1, _)]) dJ6_stringSize_0f7a4_36 rfl (by decide) (by decide) rfl ?_
                                    refine j_goto (tgt := 16) dJ6_stringSize_0f7a4_39 (by decide) ?_
                                    refine j_iload_n dJ6_stringSize_0f7a4_16 rfl ?_
                                    refine j_bipush (v := 10) dJ6_stringSize_0f7a4_17 (by decide) ?_
                                    refine j_icmp_ge (tgt := 42) dJ6_stringSize_0f7a4_19 (by decide) (fun c_19_373 => ?_) (fun c_19_373 => ?_)
                                    · exact absurd c_19_373 (by decide)
                                    · refine j_iload_n dJ6_stringSize_0f7a4_22 rfl ?_
                                      refine j_iload_n dJ6_stringSize_0f7a4_23 rfl ?_
                                      refine j_icmp_le (tgt := 31) dJ6_stringSize_0f7a4_24 (by decide) (fun c_24_377 => ?_) (fun c_24_377 => ?_)
                                      · have hl9 : 1000000000 ≤ x.toInt.natAbs := by have := z_leI c_24_377 hi (show (-1000000000 : Int32).toInt = -1000000000 by decide); omega
                                        refine j_bipush (v := 10) dJ6_stringSize_0f7a4_31 (by decide) ?_
                                        refine j_iload_n dJ6_stringSize_0f7a4_33 rfl ?_
                                        refine j_imul dJ6_stringSize_0f7a4_34 ?_
                                        refine j_top (congrArg Value.int (show (10 : Int32) * (-1000000000) = (-1410065408) by decide)) ?_
                                        refine j_istore_n (lo' := [(2, _), (3, _), (0, _), (1, _)]) dJ6_stringSize_0f7a4_35 (by decide) rfl ?_
                                        refine j_iinc (v := 10) (lo' := [(3, _), (2, _), (0, _), (1, _)]) dJ6_stringSize_0f7a4_36 rfl (by decide) (by decide) rfl ?_
                                        refine j_goto (tgt := 16) dJ6_stringSize_0f7a4_39 (by decide) ?_
                                        refine j_iload_n dJ6_stringSize_0f7a4_16 rfl ?_
                                        refine j_bipush (v := 10) dJ6_stringSize_0f7a4_17 (by decide) ?_
                                        refine j_icmp_ge (tgt := 42) dJ6_stringSize_0f7a4_19 (by decide) (fun c_19_388 => ?_) (fun c_19_388 => ?_)
                                        · refine j_bipush (v := 10) dJ6_stringSize_0f7a4_42 (by decide) ?_
                                          refine j_iload_n dJ6_stringSize_0f7a4_44 rfl ?_
                                          refine j_iadd dJ6_stringSize_0f7a4_45 ?_
                                          refine j_iret dJ6_stringSize_0f7a4_46 rfl rfl ?_ (Nat.le_of_ble_eq_true rfl) (Nat.le_of_ble_eq_true rfl)
                                          have hd : z_dg x.toInt.natAbs = 10 := by unfold z_dg; rw [if_neg (show ¬ x.toInt.natAbs < 10 by omega), if_neg (show ¬ x.toInt.natAbs < 100 by omega), if_neg (show ¬ x.toInt.natAbs < 1000 by omega), if_neg (show ¬ x.toInt.natAbs < 10000 by omega), if_neg (show ¬ x.toInt.natAbs < 100000 by omega), if_neg (show ¬ x.toInt.natAbs < 1000000 by omega), if_neg (show ¬ x.toInt.natAbs < 10000000 by omega), if_neg (show ¬ x.toInt.natAbs < 100000000 by omega), if_neg (show ¬ x.toInt.natAbs < 1000000000 by omega)]
                                          have hz : z_sz x = 10 := by unfold z_sz; rw [if_neg hx, hd]
                                          rw [hz]
                                          exact ⟨rfl, rfl⟩
                                        · exact absurd (by decide) c_19_388
                                      · have hu : x.toInt.natAbs < 1000000000 := by have := z_nleI c_24_377 hi (show (-1000000000 : Int32).toInt = -1000000000 by decide); omega
                                        refine j_iload_n dJ6_stringSize_0f7a4_27 rfl ?_
                                        refine j_iload_n dJ6_stringSize_0f7a4_28 rfl ?_
                                        refine j_iadd dJ6_stringSize_0f7a4_29 ?_
                                        refine j_iret dJ6_stringSize_0f7a4_30 rfl rfl ?_ (Nat.le_of_ble_eq_true rfl) (Nat.le_of_ble_eq_true rfl)
                                        have hd : z_dg x.toInt.natAbs = 9 := z_dgL (k := 9) ⟨Or.inr hl8, hu⟩ (by omega)
                                        have hz : z_sz x = 9 := by unfold z_sz; rw [if_neg hx, hd]
                                        rw [hz]
                                        exact ⟨rfl, rfl⟩
                                  · have hu : x.toInt.natAbs < 100000000 := by have := z_nleI c_24_362 hi (show (-100000000 : Int32).toInt = -100000000 by decide); omega
                                    refine j_iload_n dJ6_stringSize_0f7a4_27 rfl ?_
                                    refine j_iload_n dJ6_stringSize_0f7a4_28 rfl ?_
                                    refine j_iadd dJ6_stringSize_0f7a4_29 ?_
                                    refine j_iret dJ6_stringSize_0f7a4_30 rfl rfl ?_ (Nat.le_of_ble_eq_true rfl) (Nat.le_of_ble_eq_true rfl)
                                    have hd : z_dg x.toInt.natAbs = 8 := z_dgL (k := 8) ⟨Or.inr hl7, hu⟩ (by omega)
                                    have hz : z_sz x = 8 := by unfold z_sz; rw [if_neg hx, hd]
                                    rw [hz]
                                    exact ⟨rfl, rfl⟩
                              · have hu : x.toInt.natAbs < 10000000 := by have := z_nleI c_24_347 hi (show (-10000000 : Int32).toInt = -10000000 by decide); omega
                                refine j_iload_n dJ6_stringSize_0f7a4_27 rfl ?_
                                refine j_iload_n dJ6_stringSize_0f7a4_28 rfl ?_
                                refine j_iadd dJ6_stringSize_0f7a4_29 ?_
                                refine j_iret dJ6_stringSize_0f7a4_30 rfl rfl ?_ (Nat.le_of_ble_eq_true rfl) (Nat.le_of_ble_eq_true rfl)
                                have hd : z_dg x.toInt.natAbs = 7 := z_dgL (k := 7) ⟨Or.inr hl6, hu⟩ (by omega)
                                have hz : z_sz x = 7 := by unfold z_sz; rw [if_neg hx, hd]
                                rw [hz]
                                exact ⟨rfl, rfl⟩
                          · have hu : x.toInt.natAbs < 1000000 := by have := z_nleI c_24_332 hi (show (-1000000 : Int32).toInt = -1000000 by decide); omega
                            refine j_iload_n dJ6_stringSize_0f7a4_27 rfl ?_
                            refine j_iload_n dJ6_stringSize_0f7a4_28 rfl ?_
                            refine j_iadd dJ6_stringSize_0f7a4_29 ?_
                            refine j_iret dJ6_stringSize_0f7a4_30 rfl rfl ?_ (Nat.le_of_ble_eq_true rfl) (Nat.le_of_ble_eq_true rfl)
                            have hd : z_dg x.toInt.natAbs = 6 := z_dgL (k := 6) ⟨Or.inr hl5, hu⟩ (by omega)
                            have hz : z_sz x = 6 := by unfold z_sz; rw [if_neg hx, hd]
                            rw [hz]
                            exact ⟨rfl, rfl⟩
                      · have hu : x.toInt.natAbs < 100000 := by have := z_nleI c_24_317 hi (show (-100000 : Int32).toInt = -100000 by decide); omega
                        refine j_iload_n dJ6_stringSize_0f7a4_27 rfl ?_
                        refine j_iload_n dJ6_stringSize_0f7a4_28 rfl ?_
                        refine j_iadd dJ6_stringSize_0f7a4_29 ?_
                        refine j_iret dJ6_stringSize_0f7a4_30 rfl rfl ?_ (Nat.le_of_ble_eq_true rfl) (Nat.le_of_ble_eq_true rfl)
                        have hd : z_dg x.toInt.natAbs = 5 := z_dgL (k := 5) ⟨Or.inr hl4, hu⟩ (by omega)
                        have hz : z_sz x = 5 := by unfold z_sz; rw [if_neg hx, hd]
                        rw [hz]
                        exact ⟨rfl, rfl⟩
                  · have hu : x.toInt.natAbs < 10000 := by have := z_nleI c_24_302 hi (show (-10000 : Int32).toInt = -10000 by decide); omega
                    refine j_iload_n dJ6_stringSize_0f7a4_27 rfl ?_
                    refine j_iload_n dJ6_stringSize_0f7a4_28 rfl ?_
                    refine j_iadd dJ6_stringSize_0f7a4_29 ?_
                    refine j_iret dJ6_stringSize_0f7a4_30 rfl rfl ?_ (Nat.le_of_ble_eq_true rfl) (Nat.le_of_ble_eq_true rfl)
                    have hd : z_dg x.toInt.natAbs = 4 := z_dgL (k := 4) ⟨Or.inr hl3, hu⟩ (by omega)
                    have hz : z_sz x = 4 := by unfold z_sz; rw [if_neg hx, hd]
                    rw [hz]
                    exact ⟨rfl, rfl⟩
              · have hu : x.toInt.natAbs < 1000 := by have := z_nleI c_24_287 hi (show (-1000 : Int32).toInt = -1000 by decide); omega
                refine j_iload_n dJ6_stringSize_0f7a4_27 rfl ?_
                refine j_iload_n dJ6_stringSize_0f7a4_28 rfl ?_
                refine j_iadd dJ6_stringSize_0f7a4_29 ?_
                refine j_iret dJ6_stringSize_0f7a4_30 rfl rfl ?_ (Nat.le_of_ble_eq_true rfl) (Nat.le_of_ble_eq_true rfl)
                have hd : z_dg x.toInt.natAbs = 3 := z_dgL (k := 3) ⟨Or.inr hl2, hu⟩ (by omega)
                have hz : z_sz x = 3 := by unfold z_sz; rw [if_neg hx, hd]
                rw [hz]
                exact ⟨rfl, rfl⟩
          · have hu : x.toInt.natAbs < 100 := by have := z_nleI c_24_272 hi (show (-100 : Int32).toInt = -100 by decide); omega
            refine j_iload_n dJ6_stringSize_0f7a4_27 rfl ?_
            refine j_iload_n dJ6_stringSize_0f7a4_28 rfl ?_
            refine j_iadd dJ6_stringSize_0f7a4_29 ?_
            refine j_iret dJ6_stringSize_0f7a4_30 rfl rfl ?_ (Nat.le_of_ble_eq_true rfl) (Nat.le_of_ble_eq_true rfl)
            have hd : z_dg x.toInt.natAbs = 2 := z_dgL (k := 2) ⟨Or.inr hl1, hu⟩ (by omega)
            have hz : z_sz x = 2 := by unfold z_sz; rw [if_neg hx, hd]
            rw [hz]
            exact ⟨rfl, rfl⟩
      · have hu : x.toInt.natAbs < 10 := by have := z_nleI c_24_257 hi (show (-10 : Int32).toInt = -10 by decide); omega
        refine j_iload_n dJ6_stringSize_0f7a4_27 rfl ?_
        refine j_iload_n dJ6_stringSize_0f7a4_28 rfl ?_
        refine j_iadd dJ6_stringSize_0f7a4_29 ?_
        refine j_iret dJ6_stringSize_0f7a4_30 rfl rfl ?_ (Nat.le_of_ble_eq_true rfl) (Nat.le_of_ble_eq_true rfl)
        have hd : z_dg x.toInt.natAbs = 1 := z_dgL (k := 1) ⟨Or.inl rfl, hu⟩ (by omega)
        have hz : z_sz x = 1 := by unfold z_sz; rw [if_neg hx, hd]
        rw [hz]
        exact ⟨rfl, rfl⟩
set_option maxRecDepth 100000 in
set_option maxHeartbeats 8000000 in
theorem sb_getC (hl : l.stackTraces = false) (w : z_W) (ρ m N p b : Nat) (f : Nat → Value) (e : z_E) (x : Int32) (hm : 1000 ≤ m) (hm2 : m % 64 = ρ) (gm : z_g w m = some (.inl (2, N, f))) (hby : z_by f) (hb : b ≠ m) (gb : z_g w b = some e) (hp : z_sz x ≤ p) (hpN : p ≤ N) (hN : N ≤ 5000) : z_Con G l mJ6_getChars_ba4f3 10 0 0 w [.int x, .int (nI p), .ref m] (fun v w9 => ∃ (r : Int32) (g : Nat → Value), v = some (.int r) ∧ z_fw ρ w w9 ∧ z_g w9 m = some (.inl (2, N, g)) ∧ z_by g ∧ z_g w9 b = some e) (fun _ _ => False) := by
  refine z_body hl (by decide) rfl (Nat.le_of_ble_eq_true rfl) ?_
  show z_J G l mJ6_getChars_ba4f3 _ 0 [(0, _), (1, _), (2, _)] [] _ 0 0
  refine j_iload_n dJ6_getChars_ba4f3_0 rfl ?_
  refine j_istore (lo' := [(5, _), (0, _), (1, _), (2, _)]) dJ6_getChars_ba4f3_1 (by decide) rfl ?_
  refine j_iload_n dJ6_getChars_ba4f3_3 rfl ?_
  refine j_if_ge (tgt := 11) dJ6_getChars_ba4f3_4 (by decide) (fun c_4_5 => ?_) (fun c_4_5 => ?_)
  · have hx : ¬ x < 0 := Int32.not_lt.mpr c_4_5
    refine j_iconst (v := 0) dJ6_getChars_ba4f3_11 (by decide) ?_
    refine j_istore (lo' := [(6, _), (5, _), (0, _), (1, _), (2, _)]) dJ6_getChars_ba4f3_12 (by decide) rfl ?_
    refine j_iload dJ6_getChars_ba4f3_14 rfl ?_
    refine j_if_ne (tgt := 22) dJ6_getChars_ba4f3_16 (by decide) (fun c_16_10 => ?_) (fun c_16_10 => ?_)
    · exact absurd rfl c_16_10
    · refine j_iload_n dJ6_getChars_ba4f3_19 rfl ?_
      refine j_ineg dJ6_getChars_ba4f3_20 ?_
      refine j_istore_n (lo' := [(0, _), (6, _), (5, _), (1, _), (2, _)]) dJ6_getChars_ba4f3_21 (by decide) rfl ?_
      have hi : (-x).toInt = -(x.toInt.natAbs : Int) := z_ngI hx
      have hsz : z_sz x = 0 + z_dg x.toInt.natAbs := by unfold z_sz; rw [if_neg hx]
      have hna : x.toInt.natAbs ≤ 2147483648 := by have h7 := Int32.le_toInt x; have h8 := Int32.toInt_lt x; omega
      have loop22 : ∀ (n9 : Nat) (w1 : z_W) (i : Int32) (W p1 : Nat) (F : Nat → Value), (W < n9) → (i.toInt = -(W : Int)) → (W ≤ 2147483648) → (0 + z_dg W ≤ p1) → (p1 ≤ N) → (z_fw ρ w w1) → (z_g w1 m = some (.inl (2, N, F))) → (z_by F) → (z_g w1 b = some e) → z_J G l mJ6_getChars_ba4f3 (10, 0, 0, w, (fun v w9 => ∃ (r : Int32) (g : Nat → Value), v = some (.int r) ∧ z_fw ρ w w9 ∧ z_g w9 m = some (.inl (2, N, g)) ∧ z_by g ∧ z_g w9 b = some e), (fun _ _ => False)) 22 [(0, .int i), (1, .int (nI p)), (2, .ref m), (5, .int (nI p1)), (6, .int 0)] [] w1 0 0 := by
        intro n9
        induction n9 with
        | zero => intro w1 i W p1 F k0 k1 kw kp kN k2 k3 k4 k5; exact absurd k0 (Nat.not_lt_zero _)
        | succ n9 ih =>
          intro w1 i W p1 F k0 k1 kw kp kN k2 k3 k4 k5
          refine j_iload_n dJ6_getChars_ba4f3_22 rfl ?_
          refine j_bipush (v := (-100)) dJ6_getChars_ba4f3_23 (by decide) ?_
          refine j_icmp_gt (tgt := 72) dJ6_getChars_ba4f3_25 (by decide) (fun c_25_26 => ?_) (fun c_25_26 => ?_)
          · have hW1 : W < 100 := by have c9 := Int32.lt_iff_toInt_lt.mp c_25_26; rw [k1, show (-100 : Int32).toInt = -100 from rfl] at c9; omega
            have hdg := z_dg_in W
            refine j_aload_n dJ6_getChars_ba4f3_72 rfl rfl ?_
            refine j_iinc (lo' := [(5, _), (0, _), (1, _), (2, _), (6, _)]) dJ6_getChars_ba4f3_73 rfl (z_dcI (by omega)) (by decide) rfl ?_
            refine j_iload dJ6_getChars_ba4f3_76 rfl ?_
            refine j_gets dJ6_getChars_ba4f3_78 (List.mem_of_getElem? (i := 5) rfl) rfl (z_w 703 ((lwt_3_5 28).trans rfl) (by decide +kernel)) ?_
            refine j_iload_n dJ6_getChars_ba4f3_81 rfl ?_
            refine j_ineg dJ6_getChars_ba4f3_82 ?_
            refine j_baldK (k := 3) (N := 100) dJ6_getChars_ba4f3_83 (fun U q9 h hk9 => h.2.2.2.2.2.1 3 q9 (by decide) hk9) (z_vpin (z_negI k1 (by omega)) hW1) ?_
            intro y6
            refine j_bastW (w' := _) dJ6_getChars_ba4f3_84 k3 (vp_in_nI (by omega) (by omega)) rfl ?_
            refine j_seal hm ?_
            intro w2 u2
            have g2_b := (u2.2.1 _ hb).trans k5
            have g2_m := u2.1
            refine j_iload_n dJ6_getChars_ba4f3_85 rfl ?_
            refine j_bipush (v := (-9)) dJ6_getChars_ba4f3_86 (by decide) ?_
            refine j_icmp_ge (tgt := 104) dJ6_getChars_ba4f3_88 (by decide) (fun c_88_44 => ?_) (fun c_88_44 => ?_)
            · refine j_iload dJ6_getChars_ba4f3_104 rfl ?_
              refine j_if_eq (tgt := 118) dJ6_getChars_ba4f3_106 (by decide) (fun c_106_46 => ?_) (fun c_106_46 => ?_)
              · refine j_iload dJ6_getChars_ba4f3_118 rfl ?_
                refine j_iret dJ6_getChars_ba4f3_120 rfl rfl ?_ (Nat.le_of_ble_eq_true rfl) (Nat.le_of_ble_eq_true rfl)
                exact ⟨_, _, rfl, (k2.tr (u2.fw hm hm2)), g2_m, z_byU k4 (z_fB _), g2_b⟩
              · exact absurd rfl c_106_46
            · have hW2 : 10 ≤ W := by have c9 : ¬ (-9 : Int32).toInt ≤ i.toInt := fun z => c_88_44 (Int32.le_iff_toInt_le.mpr z); rw [k1, show (-9 : Int32).toInt = -9 from rfl] at c9; omega
              have hd2 : z_dg W = 2 := z_dgL (k := 2) ⟨Or.inr (by show 10 ≤ _; omega), by show _ < 100; omega⟩ (by omega)
              refine j_aload_n dJ6_getChars_ba4f3_91 rfl rfl ?_
              refine j_iinc (lo' := [(5, _), (0, _), (1, _), (2, _), (6, _)]) dJ6_getChars_ba4f3_92 rfl (z_dcI (by omega)) (by decide) rfl ?_
              refine j_iload dJ6_getChars_ba4f3_95 rfl ?_
              refine j_gets dJ6_getChars_ba4f3_97 (List.mem_of_getElem? (i := 6) rfl) rfl (z_w 705 ((lwt_3_6 0).trans rfl) (by decide +kernel)) ?_
              refine j_iload_n dJ6_getChars_ba4f3_100 rfl ?_
              refine j_ineg dJ6_getChars_ba4f3_101 ?_
              refine j_baldK (k := 4) (N := 100) dJ6_getChars_ba4f3_102 (fun U q9 h hk9 => h.2.2.2.2.2.1 4 q9 (by decide) hk9) (z_vpin (z_negI k1 (by omega)) hW1) ?_
              intro y7
              refine j_bastW (w' := _) dJ6_getChars_ba4f3_103 g2_m (vp_in_nI (by omega) (by omega)) rfl ?_
              refine j_seal hm ?_
              intro w3 u3
              have g3_b := (u3.2.1 _ hb).trans g2_b
              have g3_m := u3.1
              refine j_iload dJ6_getChars_ba4f3_104 rfl ?_
              refine j_if_eq (tgt := 118) dJ6_getChars_ba4f3_106 (by decide) (fun c_106_67 => ?_) (fun c_106_67 => ?_)
              · refine j_iload dJ6_getChars_ba4f3_118 rfl ?_
                refine j_iret dJ6_getChars_ba4f3_120 rfl rfl ?_ (Nat.le_of_ble_eq_true rfl) (Nat.le_of_ble_eq_true rfl)
                exact ⟨_, _, rfl, ((k2.tr (u2.fw hm hm2)).tr (u3.fw hm hm2)), g3_m, z_byU (z_byU k4 (z_fB _)) (z_fB _), g3_b⟩
              · exact absurd rfl c_106_67
          · have hW1 : 100 ≤ W := by have c9 : ¬ (-100 : Int32).toInt < i.toInt := fun z => c_25_26 (Int32.lt_iff_toInt_lt.mpr z); rw [k1, show (-100 : Int32).toInt = -100 from rfl] at c9; omega
            have hdg := z_dg100 (w := W) hW1 kw
            refine j_iload_n dJ6_getChars_ba4f3_28 rfl ?_
            refine j_bipush (v := 100) dJ6_getChars_ba4f3_29 (by decide) ?_
            refine j_idiv dJ6_getChars_ba4f3_31 (by decide) ?_
            refine j_istore_n (lo' := [(3, _), (0, _), (1, _), (2, _), (5, _), (6, _)]) dJ6_getChars_ba4f3_32 (by decide) rfl ?_
            refine j_iload_n dJ6_getChars_ba4f3_33 rfl ?_
            refine j_bipush (v := 100) dJ6_getChars_ba4f3_34 (by decide) ?_
            refine j_imul dJ6_getChars_ba4f3_36 ?_
            refine j_iload_n dJ6_getChars_ba4f3_37 rfl ?_
            refine j_isub dJ6_getChars_ba4f3_38 ?_
            refine j_istore (lo' := [(4, _), (3, _), (0, _), (1, _), (2, _), (5, _), (6, _)]) dJ6_getChars_ba4f3_39 (by decide) rfl ?_
            refine j_iload_n dJ6_getChars_ba4f3_41 rfl ?_
            refine j_istore_n (lo' := [(0, _), (4, _), (3, _), (1, _), (2, _), (5, _), (6, _)]) dJ6_getChars_ba4f3_42 (by decide) rfl ?_
            refine j_aload_n dJ6_getChars_ba4f3_43 rfl rfl ?_
            refine j_iinc (lo' := [(5, _), (0, _), (4, _), (3, _), (1, _), (2, _), (6, _)]) dJ6_getChars_ba4f3_44 rfl (z_dcI (by omega)) (by decide) rfl ?_
            refine j_iload dJ6_getChars_ba4f3_47 rfl ?_
            refine j_gets dJ6_getChars_ba4f3_49 (List.mem_of_getElem? (i := 5) rfl) rfl (z_w 703 ((lwt_3_5 28).trans rfl) (by decide +kernel)) ?_
            refine j_iload dJ6_getChars_ba4f3_52 rfl ?_
            refine j_baldK (k := 3) (N := 100) dJ6_getChars_ba4f3_54 (fun U q9 h hk9 => h.2.2.2.2.2.1 3 q9 (by decide) hk9) (z_vpin (z_remI k1 kw) (Nat.mod_lt _ (by decide))) ?_
            intro y8
            refine j_bastW (w' := _) dJ6_getChars_ba4f3_55 k3 (vp_in_nI (by omega) (by omega)) rfl ?_
            refine j_seal hm ?_
            intro w4 u4
            have g4_b := (u4.2.1 _ hb).trans k5
            have g4_m := u4.1
            refine j_aload_n dJ6_getChars_ba4f3_56 rfl rfl ?_
            refine j_iinc (lo' := [(5, _), (0, _), (4, _), (3, _), (1, _), (2, _), (6, _)]) dJ6_getChars_ba4f3_57 rfl (z_dcI (by omega)) (by decide) rfl ?_
            refine j_iload dJ6_getChars_ba4f3_60 rfl ?_
            refine j_gets dJ6_getChars_ba4f3_62 (List.mem_of_getElem? (i := 6) rfl) rfl (z_w 705 ((lwt_3_6 0).trans rfl) (by decide +kernel)) ?_
            refine j_iload dJ6_getChars_ba4f3_65 rfl ?_
            refine j_baldK (k := 4) (N := 100) dJ6_getChars_ba4f3_67 (fun U q9 h hk9 => h.2.2.2.2.2.1 4 q9 (by decide) hk9) (z_vpin (z_remI k1 kw) (Nat.mod_lt _ (by decide))) ?_
            intro y9
            refine j_bastW (w' := _) dJ6_getChars_ba4f3_68 g4_m (vp_in_nI (by omega) (by omega)) rfl ?_
            refine j_seal hm ?_
            intro w5 u5
            have g5_b := (u5.2.1 _ hb).trans g4_b
            have g5_m := u5.1
            refine j_goto (tgt := 22) dJ6_getChars_ba4f3_69 (by decide) ?_
            exact j_lo2 (ih w5 _ (W / 100) (p1 - 1 - 1) _ (by omega) (z_divI k1 kw) (by omega) (by have := z_dg100 (w := W) hW1 kw; omega) (by omega) ((k2.tr (u4.fw hm hm2)).tr (u5.fw hm hm2)) g5_m (z_byU (z_byU k4 (z_fB _)) (z_fB _)) g5_b) (z_q1 rfl (z_q1 rfl (z_q1 rfl (z_q1 rfl (z_q1 rfl z_q0)))))
      exact j_lo2 (loop22 (x.toInt.natAbs + 1) w _ x.toInt.natAbs p f (by omega) hi hna (by omega) hpN z_fw.rf gm hby gb) (z_q1 rfl (z_q1 rfl (z_q1 rfl (z_q1 rfl (z_q1 rfl z_q0)))))
  · have hx : x < 0 := Int32.not_le.mp c_4_5
    refine j_iconst (v := 1) dJ6_getChars_ba4f3_7 (by decide) ?_
    refine j_goto (tgt := 12) dJ6_getChars_ba4f3_8 (by decide) ?_
    refine j_istore (lo' := [(6, _), (5, _), (0, _), (1, _), (2, _)]) dJ6_getChars_ba4f3_12 (by decide) rfl ?_
    refine j_iload dJ6_getChars_ba4f3_14 rfl ?_
    refine j_if_ne (tgt := 22) dJ6_getChars_ba4f3_16 (by decide) (fun c_16_118 => ?_) (fun c_16_118 => ?_)
    · have hi : (x).toInt = -(x.toInt.natAbs : Int) := z_poI hx
      have hsz : z_sz x = 1 + z_dg x.toInt.natAbs := by unfold z_sz; rw [if_pos hx]
      have hna : x.toInt.natAbs ≤ 2147483648 := by have h7 := Int32.le_toInt x; have h8 := Int32.toInt_lt x; omega
      have loop22 : ∀ (n9 : Nat) (w6 : z_W) (i : Int32) (W p1 : Nat) (F : Nat → Value), (W < n9) → (i.toInt = -(W : Int)) → (W ≤ 2147483648) → (1 + z_dg W ≤ p1) → (p1 ≤ N) → (z_fw ρ w w6) → (z_g w6 m = some (.inl (2, N, F))) → (z_by F) → (z_g w6 b = some e) → z_J G l mJ6_getChars_ba4f3 (10, 0, 0, w, (fun v w9 => ∃ (r : Int32) (g : Nat → Value), v = some (.int r) ∧ z_fw ρ w w9 ∧ z_g w9 m = some (.inl (2, N, g)) ∧ z_by g ∧ z_g w9 b = some e), (fun _ _ => False)) 22 [(0, .int i), (1, .int (nI p)), (2, .ref m), (5, .int (nI p1)), (6, .int 1)] [] w6 0 0 := by
        intro n9
        induction n9 with
        | zero => intro w6 i W p1 F k0 k1 kw kp kN k2 k3 k4 k5; exact absurd k0 (Nat.not_lt_zero _)
        | succ n9 ih =>
          intro w6 i W p1 F k0 k1 kw kp kN k2 k3 k4 k5
          refine j_iload_n dJ6_getChars_ba4f3_22 rfl ?_
          refine j_bipush (v := (-100)) dJ6_getChars_ba4f3_23 (by decide) ?_
          refine j_icmp_gt (tgt := 72) dJ6_getChars_ba4f3_25 (by decide) (fun c_25_130 => ?_) (fun c_25_130 => ?_)
          · have hW1 : W < 100 := by have c9 := Int32.lt_iff_toInt_lt.mp c_25_130; rw [k1, show (-100 : Int32).toInt = -100 from rfl] at c9; omega
            have hdg := z_dg_in W
            refine j_aload_n dJ6_getChars_ba4f3_72 rfl rfl ?_
            refine j_iinc (lo' := [(5, _), (0, _), (1, _), (2, _), (6, _)]) dJ6_getChars_ba4f3_73 rfl (z_dcI (by omega)) (by decide) rfl ?_
            refine j_iload dJ6_getChars_ba4f3_76 rfl ?_
            refine j_gets dJ6_getChars_ba4f3_78 (List.mem_of_getElem? (i := 5) rfl) rfl (z_w 703 ((lwt_3_5 28).trans rfl) (by decide +kernel)) ?_
            refine j_iload_n dJ6_getChars_ba4f3_81 rfl ?_
            refine j_ineg dJ6_getChars_ba4f3_82 ?_
            refine j_baldK (k := 3) (N := 100) dJ6_getChars_ba4f3_83 (fun U q9 h hk9 => h.2.2.2.2.2.1 3 q9 (by decide) hk9) (z_vpin (z_negI k1 (by omega)) hW1) ?_
            intro y10
            refine j_bastW (w' := _) dJ6_getChars_ba4f3_84 k3 (vp_in_nI (by omega) (by omega)) rfl ?_
            refine j_seal hm ?_
            intro w7 u7
            have g7_b := (u7.2.1 _ hb).trans k5
            have g7_m := u7.1
            refine j_iload_n dJ6_getChars_ba4f3_85 rfl ?_
            refine j_bipush (v := (-9)) dJ6_getChars_ba4f3_86 (by decide) ?_
            refine j_icmp_ge (tgt := 104) dJ6_getChars_ba4f3_88 (by decide) (fun c_88_148 => ?_) (fun c_88_148 => ?_)
            · refine j_iload dJ6_getChars_ba4f3_104 rfl ?_
              refine j_if_eq (tgt := 118) dJ6_getChars_ba4f3_106 (by decide) (fun c_106_150 => ?_) (fun c_106_150 => ?_)
              · exact absurd c_106_150 (by decide)
              · refine j_aload_n dJ6_getChars_ba4f3_109 rfl rfl ?_
                refine j_iinc (lo' := [(5, _), (0, _), (1, _), (2, _), (6, _)]) dJ6_getChars_ba4f3_110 rfl (z_dcI (by omega)) (by decide) rfl ?_
                refine j_iload dJ6_getChars_ba4f3_113 rfl ?_
                refine j_bipush (v := 45) dJ6_getChars_ba4f3_115 (by decide) ?_
                refine j_bastW (w' := _) dJ6_getChars_ba4f3_117 g7_m (vp_in_nI (by omega) (by omega)) rfl ?_
                refine j_seal hm ?_
                intro w8 u8
                have g8_b := (u8.2.1 _ hb).trans g7_b
                have g8_m := u8.1
                refine j_iload dJ6_getChars_ba4f3_118 rfl ?_
                refine j_iret dJ6_getChars_ba4f3_120 rfl rfl ?_ (Nat.le_of_ble_eq_true rfl) (Nat.le_of_ble_eq_true rfl)
                exact ⟨_, _, rfl, ((k2.tr (u7.fw hm hm2)).tr (u8.fw hm hm2)), g8_m, z_byU (z_byU k4 (z_fB _)) (z_fB _), g8_b⟩
            · have hW2 : 10 ≤ W := by have c9 : ¬ (-9 : Int32).toInt ≤ i.toInt := fun z => c_88_148 (Int32.le_iff_toInt_le.mpr z); rw [k1, show (-9 : Int32).toInt = -9 from rfl] at c9; omega
              have hd2 : z_dg W = 2 := z_dgL (k := 2) ⟨Or.inr (by show 10 ≤ _; omega), by show _ < 100; omega⟩ (by omega)
              refine j_aload_n dJ6_getChars_ba4f3_91 rfl rfl ?_
              refine j_iinc (lo' := [(5, _), (0, _), (1, _), (2, _), (6, _)]) dJ6_getChars_ba4f3_92 rfl (z_dcI (by omega)) (by decide) rfl ?_
              refine j_iload dJ6_getChars_ba4f3_95 rfl ?_
              refine j_gets dJ6_getChars_ba4f3_97 (List.mem_of_getElem? (i := 6) rfl) rfl (z_w 705 ((lwt_3_6 0).trans rfl) (by decide +kernel)) ?_
              refine j_iload_n dJ6_getChars_ba4f3_100 rfl ?_
              refine j_ineg dJ6_getChars_ba4f3_101 ?_
              refine j_baldK (k := 4) (N := 100) dJ6_getChars_ba4f3_102 (fun U q9 h hk9 => h.2.2.2.2.2.1 4 q9 (by decide) hk9) (z_vpin (z_negI k1 (by omega)) hW1) ?_
              intro y11
              refine j_bastW (w' := _) dJ6_getChars_ba4f3_103 g7_m (vp_in_nI (by omega) (by omega)) rfl ?_
              refine j_seal hm ?_
              intro w9 u9
              have g9_b := (u9.2.1 _ hb).trans g7_b
              have g9_m := u9.1
              refine j_iload dJ6_getChars_ba4f3_104 rfl ?_
              refine j_if_eq (tgt := 118) dJ6_getChars_ba4f3_106 (by decide) (fun c_106_180 => ?_) (fun c_106_180 => ?_)
              · exact absurd c_106_180 (by decide)
              · refine j_aload_n dJ6_getChars_ba4f3_109 rfl rfl ?_
                refine j_iinc (lo' := [(5, _), (0, _), (1, _), (2, _), (6, _)]) dJ6_getChars_ba4f3_110 rfl (z_dcI (by omega)) (by decide) rfl ?_
                refine j_iload dJ6_getChars_ba4f3_113 rfl ?_
                refine j_bipush (v := 45) dJ6_getChars_ba4f3_115 (by decide) ?_
                refine j_bastW (w' := _) dJ6_getChars_ba4f3_117 g9_m (vp_in_nI (by omega) (by omega)) rfl ?_
                refine j_seal hm ?_
                intro w10 u10
                have g10_b := (u10.2.1 _ hb).trans g9_b
                have g10_m := u10.1
                refine j_iload dJ6_getChars_ba4f3_118 rfl ?_
                refine j_iret dJ6_getChars_ba4f3_120 rfl rfl ?_ (Nat.le_of_ble_eq_true rfl) (Nat.le_of_ble_eq_true rfl)
                exact ⟨_, _, rfl, (((k2.tr (u7.fw hm hm2)).tr (u9.fw hm hm2)).tr (u10.fw hm hm2)), g10_m, z_byU (z_byU (z_byU k4 (z_fB _)) (z_fB _)) (z_fB _), g10_b⟩
          · have hW1 : 100 ≤ W := by have c9 : ¬ (-100 : Int32).toInt < i.toInt := fun z => c_25_130 (Int32.lt_iff_toInt_lt.mpr z); rw [k1, show (-100 : Int32).toInt = -100 from rfl] at c9; omega
            have hdg := z_dg100 (w := W) hW1 kw
            refine j_iload_n dJ6_getChars_ba4f3_28 rfl ?_
            refine j_bipush (v := 100) dJ6_getChars_ba4f3_29 (by decide) ?_
            refine j_idiv dJ6_getChars_ba4f3_31 (by decide) ?_
            refine j_istore_n (lo' := [(3, _), (0, _), (1, _), (2, _), (5, _), (6, _)]) dJ6_getChars_ba4f3_32 (by decide) rfl ?_
            refine j_iload_n dJ6_getChars_ba4f3_33 rfl ?_
            refine j_bipush (v := 100) dJ6_getChars_ba4f3_34 (by decide) ?_
            refine j_imul dJ6_getChars_ba4f3_36 ?_
            refine j_iload_n dJ6_getChars_ba4f3_37 rfl ?_
            refine j_isub dJ6_getChars_ba4f3_38 ?_
            refine j_istore (lo' := [(4, _), (3, _), (0, _), (1, _), (2, _), (5, _), (6, _)]) dJ6_getChars_ba4f3_39 (by decide) rfl ?_
            refine j_iload_n dJ6_getChars_ba4f3_41 rfl ?_
            refine j_istore_n (lo' := [(0, _), (4, _), (3, _), (1, _), (2, _), (5, _), (6, _)]) dJ6_getChars_ba4f3_42 (by decide) rfl ?_
            refine j_aload_n dJ6_getChars_ba4f3_43 rfl rfl ?_
            refine j_iinc (lo' := [(5, _), (0, _), (4, _), (3, _), (1, _), (2, _), (6, _)]) dJ6_getChars_ba4f3_44 rfl (z_dcI (by omega)) (by decide) rfl ?_
            refine j_iload dJ6_getChars_ba4f3_47 rfl ?_
            refine j_gets dJ6_getChars_ba4f3_49 (List.mem_of_getElem? (i := 5) rfl) rfl (z_w 703 ((lwt_3_5 28).trans rfl) (by decide +kernel)) ?_
            refine j_iload dJ6_getChars_ba4f3_52 rfl ?_
            refine j_baldK (k := 3) (N := 100) dJ6_getChars_ba4f3_54 (fun U q9 h hk9 => h.2.2.2.2.2.1 3 q9 (by decide) hk9) (z_vpin (z_remI k1 kw) (Nat.mod_lt _ (by decide))) ?_
            intro y12
            refine j_bastW (w' := _) dJ6_getChars_ba4f3_55 k3 (vp_in_nI (by omega) (by omega)) rfl ?_
            refine j_seal hm ?_
            intro w11 u11
            have g11_b := (u11.2.1 _ hb).trans k5
            have g11_m := u11.1
            refine j_aload_n dJ6_getChars_ba4f3_56 rfl rfl ?_
            refine j_iinc (lo' := [(5, _), (0, _), (4, _), (3, _), (1, _), (2, _), (6, _)]) dJ6_getChars_ba4f3_57 rfl (z_dcI (by omega)) (by decide) rfl ?_
            refine j_iload dJ6_getChars_ba4f3_60 rfl ?_
            refine j_gets dJ6_getChars_ba4f3_62 (List.mem_of_getElem? (i := 6) rfl) rfl (z_w 705 ((lwt_3_6 0).trans rfl) (by decide +kernel)) ?_
            refine j_iload dJ6_getChars_ba4f3_65 rfl ?_
            refine j_baldK (k := 4) (N := 100) dJ6_getChars_ba4f3_67 (fun U q9 h hk9 => h.2.2.2.2.2.1 4 q9 (by decide) hk9) (z_vpin (z_remI k1 kw) (Nat.mod_lt _ (by decide))) ?_
            intro y13
            refine j_bastW (w' := _) dJ6_getChars_ba4f3_68 g11_m (vp_in_nI (by omega) (by omega)) rfl ?_
            refine j_seal hm ?_
            intro w12 u12
            have g12_b := (u12.2.1 _ hb).trans g11_b
            have g12_m := u12.1
            refine j_goto (tgt := 22) dJ6_getChars_ba4f3_69 (by decide) ?_
            exact j_lo2 (ih w12 _ (W / 100) (p1 - 1 - 1) _ (by omega) (z_divI k1 kw) (by omega) (by have := z_dg100 (w := W) hW1 kw; omega) (by omega) ((k2.tr (u11.fw hm hm2)).tr (u12.fw hm hm2)) g12_m (z_byU (z_byU k4 (z_fB _)) (z_fB _)) g12_b) (z_q1 rfl (z_q1 rfl (z_q1 rfl (z_q1 rfl (z_q1 rfl z_q0)))))
      exact j_lo2 (loop22 (x.toInt.natAbs + 1) w _ x.toInt.natAbs p f (by omega) hi hna (by omega) hpN z_fw.rf gm hby gb) (z_q1 rfl (z_q1 rfl (z_q1 rfl (z_q1 rfl (z_q1 rfl z_q0)))))
    · exact absurd c_16_118 (by decide)
set_option maxRecDepth 100000 in
set_option maxHeartbeats 8000000 in
theorem sb_apI0 (hl : l.stackTraces = false) (w : z_W) (ρ a n N : Nat) (x : Int32) (h : z_sb w ρ a n N) (hq : n + z_sz x ≤ 2 * N + 2) (hN : z_gr N (n + z_sz x) ≤ 5000) (hρ : ρ < 64) (hf : z_fn w) : z_Con G l mJ5_append_c97b9 16 (z_gr N (n + z_sz x) / 16 - N / 16) (2 * (z_gr N (n + z_sz x) - N)) w [.ref a, .int x] (fun v w9 => v = some (.ref a) ∧ z_fw ρ w w9 ∧ z_sb w9 ρ a (n + z_sz x) (z_gr N (n + z_sz x))) (fun _ _ => False) := by
  obtain ⟨h1, h2, h3, h4, h5, m, f, ml, a1, a2, a3, ga, gm, a6⟩ := id h
  have hge := z_gr_ge hq
  have hle := z_gr_le (N := N) (m := n + z_sz x)
  refine z_body hl (by decide) rfl (Nat.le_of_ble_eq_true rfl) ?_
  show z_J G l mJ5_append_c97b9 _ 0 [(0, _), (1, _)] [] _ 0 0
  refine j_aload_n dJ5_append_c97b9_0 rfl rfl ?_
  refine j_getf dJ5_append_c97b9_1 fJ5_79 ga rfl ?_
  refine j_istore_n (lo' := [(2, _), (0, _), (1, _)]) dJ5_append_c97b9_4 (by decide) rfl ?_
  refine j_iload_n dJ5_append_c97b9_5 rfl ?_
  refine j_iload_n dJ5_append_c97b9_6 rfl ?_
  refine j_callS dJ5_append_c97b9_7 kJ6_stringSize_0f7a4 lJ5_245 stJ6_stringSize_0f7a4 (sb_size hl w x) (Nat.le_of_ble_eq_true rfl) ⟨(by show _ ≤ z_gr N (n + z_sz x) / 16 - N / 16; omega), (by show _ ≤ 2 * (z_gr N (n + z_sz x) - N); omega)⟩ rfl (Nat.le_of_ble_eq_true rfl) rfl rfl (fun _ _ h => h.elim) ?_
  rintro _ _ ⟨rfl, hw14⟩
  refine j_w w hw14 ?_
  refine j_iadd dJ5_append_c97b9_10 ?_
  refine j_top (congrArg Value.int (nI_add n (z_sz x))) ?_
  refine j_istore_n (lo' := [(3, _), (2, _), (0, _), (1, _)]) dJ5_append_c97b9_11 (by decide) rfl ?_
  refine j_aload_n dJ5_append_c97b9_12 rfl rfl ?_
  refine j_iload_n dJ5_append_c97b9_13 rfl ?_
  refine j_callP (x := yJ5_isLatin1_aae02) (q := (RJ4, TJ4, 4)) dJ5_append_c97b9_14 kJ5_ensureCapacityInternal_d00df lJ5_100 inJ5_ensureCapacityInternal_d00df ⟨(z_w 640 ((lwt_3_3 25).trans rfl) (by decide +kernel)), rfl, (z_wn 603 ((lwt_3_2 18).trans rfl) (by decide +kernel))⟩ ga rfl (sb_ens hl w ρ a n N (n + z_sz x) h (by omega) (by omega) hρ hf) (Nat.le_of_ble_eq_true rfl) ⟨(by show _ ≤ z_gr N (n + z_sz x) / 16 - N / 16; omega), (by show _ ≤ 2 * (z_gr N (n + z_sz x) - N); omega)⟩ rfl (Nat.le_of_ble_eq_true rfl) rfl rfl (fun _ _ h => h.elim) ?_
  rintro _ w1 ⟨rfl, fw1, hs1⟩
  have hf1 := fw1.2.1 hf
  obtain ⟨-, -, h3_1, h4_1, h5_1, m_1, f_1, ml_1, a1_1, a2_1, a3_1, ga_1, gm_1, a6_1⟩ := id hs1
  refine j_aload_n dJ5_append_c97b9_17 rfl rfl ?_
  refine j_callU (q := (RJ4, TJ4, 4)) dJ5_append_c97b9_18 kJ5_isLatin1_aae02 cuJ5_83_J4 ga_1 rfl (sb_lat hl w1 _ _ _ _ ga_1) (Nat.le_of_ble_eq_true rfl) ⟨(by show _ ≤ z_gr N (n + z_sz x) / 16 - N / 16; omega), (by show _ ≤ 2 * (z_gr N (n + z_sz x) - N); omega)⟩ rfl (Nat.le_of_ble_eq_true rfl) rfl rfl (fun _ _ h => h.elim) ?_
  rintro _ _ ⟨rfl, hw15⟩
  refine j_w w1 hw15 ?_
  refine j_if_eq (tgt := 37) dJ5_append_c97b9_21 (by decide) (fun c_21_23 => ?_) (fun c_21_23 => ?_)
  · exact absurd c_21_23 (by decide)
  · refine j_iload_n dJ5_append_c97b9_24 rfl ?_
    refine j_iload_n dJ5_append_c97b9_25 rfl ?_
    refine j_aload_n dJ5_append_c97b9_26 rfl rfl ?_
    refine j_getf dJ5_append_c97b9_27 fJ5_15 ga_1 rfl ?_
    refine j_callS dJ5_append_c97b9_30 kJ6_getChars_ba4f3 lJ5_248 stJ6_getChars_ba4f3 (sb_getC hl w1 ρ m_1 (z_gr N (n + z_sz x)) (n + z_sz x) a f_1 _ x a1_1 a2_1 gm_1 a6_1 (Ne.symm a3_1) ga_1 (by omega) hge hN) (Nat.le_of_ble_eq_true rfl) ⟨(by show _ ≤ z_gr N (n + z_sz x) / 16 - N / 16; omega), (by show _ ≤ 2 * (z_gr N (n + z_sz x) - N); omega)⟩ rfl (Nat.le_of_ble_eq_true rfl) rfl rfl (fun _ _ h => h.elim) ?_
    rintro _ w2 ⟨r2, f9_2, rfl, fw2, gm9_2, by9_2, ga9_2⟩
    have hf2 := fw2.2.1 hf1
    refine j_pop dJ5_append_c97b9_33 rfl ?_
    refine j_goto (tgt := 48) dJ5_append_c97b9_34 (by decide) ?_
    refine j_aload_n dJ5_append_c97b9_48 rfl rfl ?_
    refine j_iload_n dJ5_append_c97b9_49 rfl ?_
    refine j_put (w' := _) dJ5_append_c97b9_50 fJ5_79 tJ4_3 ga9_2 ⟨rfl, rfl⟩ rfl ?_
    refine j_seal h1 ?_
    intro w3 u3
    have g3_m := (u3.2.1 _ a3_1).trans gm9_2
    have g3_a := u3.1
    have hf3 := u3.2.2.2 hf2
    refine j_aload_n dJ5_append_c97b9_53 rfl rfl ?_
    refine j_aret dJ5_append_c97b9_54 rfl (Or.inl ⟨_, rfl⟩) rfl ?_ (by show _ ≤ z_gr N (n + z_sz x) / 16 - N / 16; omega) (by show _ ≤ 2 * (z_gr N (n + z_sz x) - N); omega)
    exact ⟨rfl, ((fw1.tr fw2).tr (u3.fw h1 h2)), h1, h2, hge, by omega, hN, m_1, _, ml_1, a1_1, a2_1, a3_1, g3_a, g3_m, by9_2⟩
set_option maxRecDepth 100000 in
set_option maxHeartbeats 8000000 in
theorem sb_apI (hl : l.stackTraces = false) (w : z_W) (ρ a n N : Nat) (x : Int32) (h : z_sb w ρ a n N) (hq : n + z_sz x ≤ 2 * N + 2) (hN : z_gr N (n + z_sz x) ≤ 5000) (hρ : ρ < 64) (hf : z_fn w) : z_Con G l mJ4_append_bf812 17 (z_gr N (n + z_sz x) / 16 - N / 16) (2 * (z_gr N (n + z_sz x) - N)) w [.ref a, .int x] (fun v w9 => v = some (.ref a) ∧ z_fw ρ w w9 ∧ z_sb w9 ρ a (n + z_sz x) (z_gr N (n + z_sz x))) (fun _ _ => False) := by
  obtain ⟨h1, h2, h3, h4, h5, m, f, ml, a1, a2, a3, ga, gm, a6⟩ := id h
  refine z_body hl (by decide) rfl (Nat.le_of_ble_eq_true rfl) ?_
  show z_J G l mJ4_append_bf812 _ 0 [(0, _), (1, _)] [] _ 0 0
  refine j_aload_n dJ4_append_bf812_0 rfl rfl ?_
  refine j_iload_n dJ4_append_bf812_1 rfl ?_
  refine j_callSu (q := (RJ4, TJ4, 4)) dJ4_append_bf812_2 kJ5_append_c97b9 ⟨lJ4_53, (z_w 1970 ((lwg_9 5).trans rfl) (by decide +kernel)), (z_w 594 ((lwt_3_2 9).trans rfl) (by decide +kernel)), inJ5_append_c97b9, (by decide)⟩ ga rfl (sb_apI0 hl w ρ a n N x h hq hN hρ hf) (Nat.le_of_ble_eq_true rfl) ⟨(by show _ ≤ z_gr N (n + z_sz x) / 16 - N / 16; omega), (by show _ ≤ 2 * (z_gr N (n + z_sz x) - N); omega)⟩ rfl (Nat.le_of_ble_eq_true rfl) rfl rfl (fun _ _ h => h.elim) ?_
  rintro _ w1 ⟨rfl, fw1, hs1⟩
  have hf1 := fw1.2.1 hf
  refine j_pop dJ4_append_bf812_5 rfl ?_
  refine j_aload_n dJ4_append_bf812_6 rfl rfl ?_
  refine j_aret dJ4_append_bf812_7 rfl (Or.inl ⟨_, rfl⟩) rfl ?_ (by show _ ≤ z_gr N (n + z_sz x) / 16 - N / 16; omega) (by show _ ≤ 2 * (z_gr N (n + z_sz x) - N); omega)
  exact ⟨rfl, fw1, hs1⟩
theorem z_cst10 {U : State} {i q : Nat} {t : String × Nat × String} (h : z_cst G U) (hi : z_strs[i]? = some t) (hk : z_k G (50 + i) q) : ∃ f, z_vT G .byte q t.2.2.length f U ∧ ∀ j, j < t.2.2.length → ∃ x, f j = .int x ∧ fits .byte (.int x) = true := h.2.2.2.2.2.2.2.2.2.1 i q t hi hk
theorem z_strl {i : Nat} {t : String × Nat × String} (h : z_strs[i]? = some t) : t.2.2.length ≤ 30 := by
  have h1 := (List.all_eq_true.mp (show z_strs.all (fun t => decide (t.2.2.length ≤ 30)) = true by decide +kernel)) t (List.mem_of_getElem? h)
  simpa using h1
set_option maxRecDepth 100000 in
set_option maxHeartbeats 8000000 in
theorem sk_cod (hl : l.stackTraces = false) (w : z_W) (i : Nat) (t : String × Nat × String) (hi9 : z_strs[i]? = some t) (ht9 : t.1 = "LoopdefaultsModel" ∨ t.1 = "LoopdefaultsModel$Hearer") : z_Con G l mJ0_coder_7d493 10 0 0 w [.retAddr (10 + i)] (fun v w9 => v = some (.int 0) ∧ w9 = w) (fun _ _ => False) := by
  refine z_body hl (by decide) rfl (Nat.le_of_ble_eq_true rfl) ?_
  show z_J G l mJ0_coder_7d493 _ 0 [(0, _)] [] _ 0 0
  refine j_gets dJ0_coder_7d493_0 (List.mem_of_getElem? (i := 0) rfl) rfl (z_w 787 ((lwg_4 22).trans rfl) (by decide +kernel)) ?_
  refine j_if_eq (tgt := 13) dJ0_coder_7d493_3 (by decide) (fun c_3_3 => ?_) (fun c_3_3 => ?_)
  · exact absurd c_3_3 (by decide)
  · refine j_aload_n dJ0_coder_7d493_6 rfl rfl ?_
    refine j_getSK (k := 1) dJ0_coder_7d493_7 fJ0_15 hi9 ht9 (by decide) rfl ?_
    refine j_goto (tgt := 14) dJ0_coder_7d493_10 (by decide) ?_
    refine j_iret dJ0_coder_7d493_14 rfl rfl ?_ (Nat.le_of_ble_eq_true rfl) (Nat.le_of_ble_eq_true rfl)
    exact ⟨rfl, rfl⟩
set_option maxRecDepth 100000 in
set_option maxHeartbeats 8000000 in
theorem sk_len (hl : l.stackTraces = false) (w : z_W) (i : Nat) (t : String × Nat × String) (hi9 : z_strs[i]? = some t) (ht9 : t.1 = "LoopdefaultsModel" ∨ t.1 = "LoopdefaultsModel$Hearer") : z_Con G l mJ0_length_8abf5 11 0 0 w [.retAddr (10 + i)] (fun v w9 => v = some (.int (nI t.2.2.length)) ∧ w9 = w) (fun _ _ => False) := by
  refine z_body hl (by decide) rfl (Nat.le_of_ble_eq_true rfl) ?_
  show z_J G l mJ0_length_8abf5 _ 0 [(0, _)] [] _ 0 0
  refine j_aload_n dJ0_length_8abf5_0 rfl rfl ?_
  refine j_getSK (k := 0) dJ0_length_8abf5_1 fJ0_9 hi9 ht9 (by decide) rfl ?_
  refine j_alenK (k := 50 + i) (N := t.2.2.length) dJ0_length_8abf5_4 (fun U q9 h hk9 => by obtain ⟨f9, hf9, -⟩ := z_cst10 h hi9 hk9; exact ⟨f9, hf9⟩) ?_
  refine j_aload_n dJ0_length_8abf5_5 rfl rfl ?_
  refine j_callVK (i := i) dJ0_length_8abf5_6 kJ0_coder_7d493 lJ0_335 inJ0_coder_7d493 (z_w 785 ((lwg_4 20).trans rfl) (by decide +kernel)) hi9 ht9 (sk_cod hl w i t hi9 ht9) (Nat.le_of_ble_eq_true rfl) ⟨(Nat.le_of_ble_eq_true rfl), (Nat.le_of_ble_eq_true rfl)⟩ rfl (Nat.le_of_ble_eq_true rfl) rfl rfl (fun _ _ h => h.elim) ?_
  rintro _ _ ⟨rfl, hw16⟩
  refine j_w w hw16 ?_
  refine j_ishr dJ0_length_8abf5_9 ?_
  refine j_top (congrArg Value.int (sb_shr0 (nI t.2.2.length))) ?_
  refine j_iret dJ0_length_8abf5_10 rfl rfl ?_ (Nat.le_of_ble_eq_true rfl) (Nat.le_of_ble_eq_true rfl)
  exact ⟨rfl, rfl⟩
set_option maxRecDepth 100000 in
set_option maxHeartbeats 8000000 in
theorem sk_get (hl : l.stackTraces = false) (w : z_W) (ρ m N n b : Nat) (f : Nat → Value) (e : z_E) (i : Nat) (t : String × Nat × String) (hi9 : z_strs[i]? = some t) (ht9 : t.1 = "LoopdefaultsModel" ∨ t.1 = "LoopdefaultsModel$Hearer") (hm : 1000 ≤ m) (hm2 : m % 64 = ρ) (gm : z_g w m = some (.inl (2, N, f))) (hby : z_by f) (hb : b ≠ m) (gb : z_g w b = some e) (hp : n + t.2.2.length ≤ N) (hN : N ≤ 5000) : z_Con G l mJ0_getBytes_840e7 12 0 0 w [.retAddr (10 + i), .ref m, .int (nI n), .int 0] (fun v w9 => v = none ∧ z_fw ρ w w9 ∧ ∃ g, z_g w9 m = some (.inl (2, N, g)) ∧ z_by g ∧ z_g w9 b = some e) (fun _ _ => False) := by
  have hl9 := z_strl hi9
  have hlk : (Int32.ofNat t.2.2.length).toNatClampNeg = t.2.2.length := z_cla (n := t.2.2.length) (by omega)
  refine z_body hl (by decide) rfl (Nat.le_of_ble_eq_true rfl) ?_
  show z_J G l mJ0_getBytes_840e7 _ 0 [(0, _), (1, _), (2, _), (3, _)] [] _ 0 0
  refine j_aload_n dJ0_getBytes_840e7_0 rfl rfl ?_
  refine j_callVK (i := i) dJ0_getBytes_840e7_1 kJ0_coder_7d493 lJ0_335 inJ0_coder_7d493 (z_w 785 ((lwg_4 20).trans rfl) (by decide +kernel)) hi9 ht9 (sk_cod hl w i t hi9 ht9) (Nat.le_of_ble_eq_true rfl) ⟨(Nat.le_of_ble_eq_true rfl), (Nat.le_of_ble_eq_true rfl)⟩ rfl (Nat.le_of_ble_eq_true rfl) rfl rfl (fun _ _ h => h.elim) ?_
  rintro _ _ ⟨rfl, hw17⟩
  refine j_w w hw17 ?_
  refine j_iload_n dJ0_getBytes_840e7_4 rfl ?_
  refine j_icmp_ne (tgt := 28) dJ0_getBytes_840e7_5 (by decide) (fun c_5_7 => ?_) (fun c_5_7 => ?_)
  · exact absurd rfl c_5_7
  · refine j_aload_n dJ0_getBytes_840e7_8 rfl rfl ?_
    refine j_getSK (k := 0) dJ0_getBytes_840e7_9 fJ0_9 hi9 ht9 (by decide) rfl ?_
    refine j_iconst (v := 0) dJ0_getBytes_840e7_12 (by decide) ?_
    refine j_aload_n dJ0_getBytes_840e7_13 rfl rfl ?_
    refine j_iload_n dJ0_getBytes_840e7_14 rfl ?_
    refine j_iload_n dJ0_getBytes_840e7_15 rfl ?_
    refine j_ishl dJ0_getBytes_840e7_16 ?_
    refine j_top (congrArg Value.int (sb_shl0 (nI n))) ?_
    refine j_aload_n dJ0_getBytes_840e7_17 rfl rfl ?_
    refine j_getSK (k := 0) dJ0_getBytes_840e7_18 fJ0_9 hi9 ht9 (by decide) rfl ?_
    refine j_alenK (k := 50 + i) (N := t.2.2.length) dJ0_getBytes_840e7_21 (fun U q9 h hk9 => by obtain ⟨f9, hf9, -⟩ := z_cst10 h hi9 hk9; exact ⟨f9, hf9⟩) ?_
    refine j_acopyK (k := 50 + i) (n0 := t.2.2.length) (kd := 2) (ty := .byte) dJ0_getBytes_840e7_22 (z_w 801 ((lwt_4_1 6).trans rfl) (by decide +kernel)) ac_n ac_s ac_i (fun U q9 h hk9 => z_cst10 h hi9 hk9) gm rfl (by decide) (nI_pos (by omega)) (nI_pos (by omega)) (by rw [hlk]; show 0 + _ ≤ _; omega) (by rw [z_cla (by omega), hlk]; omega) (Nat.le_of_ble_eq_true rfl) (Nat.le_of_ble_eq_true rfl) ?_
    intro f9 hf9
    refine j_seal hm ?_
    intro w1 u1
    have g1_b := (u1.2.1 _ hb).trans gb
    have g1_m := u1.1
    refine j_goto (tgt := 43) dJ0_getBytes_840e7_25 (by decide) ?_
    refine j_vret dJ0_getBytes_840e7_43 rfl ?_ (Nat.le_of_ble_eq_true rfl) (Nat.le_of_ble_eq_true rfl)
    exact ⟨rfl, (u1.fw hm hm2), _, g1_m, z_byC (fun j _ h7 => hf9 j (by rw [hlk] at h7; have h8 : j < 0 + t.2.2.length := h7; omega)) hby, g1_b⟩
set_option maxRecDepth 100000 in
set_option maxHeartbeats 8000000 in
theorem sk_inf (hl : l.stackTraces = false) (w : z_W) (a : Nat) (v0 : Value) (ml c : Int32) (i : Nat) (t : String × Nat × String) (hi9 : z_strs[i]? = some t) (ht9 : t.1 = "LoopdefaultsModel" ∨ t.1 = "LoopdefaultsModel$Hearer") (ga : z_g w a = some (.inr (1, [v0, .int 0, .int ml, .int c]))) : z_Con G l mJ5_inflateIfNeededFor_a7421 12 0 0 w [.ref a, .retAddr (10 + i)] (fun v w9 => v = none ∧ w9 = w) (fun _ _ => False) := by
  refine z_body hl (by decide) rfl (Nat.le_of_ble_eq_true rfl) ?_
  show z_J G l mJ5_inflateIfNeededFor_a7421 _ 0 [(0, _), (1, _)] [] _ 0 0
  refine j_gets dJ5_inflateIfNeededFor_a7421_0 (List.mem_of_getElem? (i := 0) rfl) rfl (z_w 573 ((lwt_3_1 18).trans rfl) (by decide +kernel)) ?_
  refine j_if_eq (tgt := 21) dJ5_inflateIfNeededFor_a7421_3 (by decide) (fun c_3_3 => ?_) (fun c_3_3 => ?_)
  · exact absurd c_3_3 (by decide)
  · refine j_aload_n dJ5_inflateIfNeededFor_a7421_6 rfl rfl ?_
    refine j_getf dJ5_inflateIfNeededFor_a7421_7 fJ5_22 ga rfl ?_
    refine j_aload_n dJ5_inflateIfNeededFor_a7421_10 rfl rfl ?_
    refine j_callVK (i := i) dJ5_inflateIfNeededFor_a7421_11 kJ0_coder_7d493 lJ5_40 inJ0_coder_7d493 (z_w 785 ((lwg_4 20).trans rfl) (by decide +kernel)) hi9 ht9 (sk_cod hl w i t hi9 ht9) (Nat.le_of_ble_eq_true rfl) ⟨(Nat.le_of_ble_eq_true rfl), (Nat.le_of_ble_eq_true rfl)⟩ rfl (Nat.le_of_ble_eq_true rfl) rfl rfl (fun _ _ h => h.elim) ?_
    rintro _ _ ⟨rfl, hw18⟩
    refine j_w w hw18 ?_
    refine j_icmp_eq (tgt := 21) dJ5_inflateIfNeededFor_a7421_14 (by decide) (fun c_14_11 => ?_) (fun c_14_11 => ?_)
    · refine j_vret dJ5_inflateIfNeededFor_a7421_21 rfl ?_ (Nat.le_of_ble_eq_true rfl) (Nat.le_of_ble_eq_true rfl)
      exact ⟨rfl, rfl⟩
    · exact absurd rfl c_14_11
set_option maxRecDepth 100000 in
set_option maxHeartbeats 8000000 in
theorem sk_put (hl : l.stackTraces = false) (w : z_W) (ρ a m N n : Nat) (f : Nat → Value) (ml c : Int32) (i : Nat) (t : String × Nat × String) (hi9 : z_strs[i]? = some t) (ht9 : t.1 = "LoopdefaultsModel" ∨ t.1 = "LoopdefaultsModel$Hearer") (a1 : 1000 ≤ m) (a2 : m % 64 = ρ) (a3 : m ≠ a) (ga : z_g w a = some (.inr (1, [.ref m, .int 0, .int ml, .int c]))) (gm : z_g w m = some (.inl (2, N, f))) (hby : z_by f) (hp : n + t.2.2.length ≤ N) (hN : N ≤ 5000) : z_Con G l mJ5_putStringAt_47b60 14 0 0 w [.ref a, .int (nI n), .retAddr (10 + i)] (fun v w9 => v = none ∧ z_fw ρ w w9 ∧ ∃ g, z_g w9 m = some (.inl (2, N, g)) ∧ z_by g ∧ z_g w9 a = some (.inr (1, [.ref m, .int 0, .int ml, .int c]))) (fun _ _ => False) := by
  refine z_body hl (by decide) rfl (Nat.le_of_ble_eq_true rfl) ?_
  show z_J G l mJ5_putStringAt_47b60 _ 0 [(0, _), (1, _), (2, _)] [] _ 0 0
  refine j_aload_n dJ5_putStringAt_47b60_0 rfl rfl ?_
  refine j_aload_n dJ5_putStringAt_47b60_1 rfl rfl ?_
  refine j_callP (x := yJ5_isLatin1_aae02) (q := (RJ4, TJ4, 4)) dJ5_putStringAt_47b60_2 kJ5_inflateIfNeededFor_a7421 lJ5_397 inJ5_inflateIfNeededFor_a7421 ⟨(z_w 640 ((lwt_3_3 25).trans rfl) (by decide +kernel)), rfl, (z_wn 793 ((lwg_4 28).trans rfl) (by decide +kernel))⟩ ga rfl (sk_inf hl w a _ _ _ i t hi9 ht9 ga) (Nat.le_of_ble_eq_true rfl) ⟨(Nat.le_of_ble_eq_true rfl), (Nat.le_of_ble_eq_true rfl)⟩ rfl (Nat.le_of_ble_eq_true rfl) rfl rfl (fun _ _ h => h.elim) ?_
  rintro _ _ ⟨rfl, hw19⟩
  refine j_w w hw19 ?_
  refine j_aload_n dJ5_putStringAt_47b60_5 rfl rfl ?_
  refine j_aload_n dJ5_putStringAt_47b60_6 rfl rfl ?_
  refine j_getf dJ5_putStringAt_47b60_7 fJ5_15 ga rfl ?_
  refine j_iload_n dJ5_putStringAt_47b60_10 rfl ?_
  refine j_aload_n dJ5_putStringAt_47b60_11 rfl rfl ?_
  refine j_getf dJ5_putStringAt_47b60_12 fJ5_22 ga rfl ?_
  refine j_callVK (i := i) dJ5_putStringAt_47b60_15 kJ0_getBytes_840e7 lJ5_399 inJ0_getBytes_840e7 (z_w 799 ((lwt_4_1 4).trans rfl) (by decide +kernel)) hi9 ht9 (sk_get hl w ρ m N n a f _ i t hi9 ht9 a1 a2 gm hby (Ne.symm a3) ga hp hN) (Nat.le_of_ble_eq_true rfl) ⟨(Nat.le_of_ble_eq_true rfl), (Nat.le_of_ble_eq_true rfl)⟩ rfl (Nat.le_of_ble_eq_true rfl) rfl rfl (fun _ _ h => h.elim) ?_
  rintro _ w1 ⟨rfl, fw1, g9_1, gm9_1, by9_1, ga9_1⟩
  refine j_vret dJ5_putStringAt_47b60_18 rfl ?_ (Nat.le_of_ble_eq_true rfl) (Nat.le_of_ble_eq_true rfl)
  exact ⟨rfl, fw1, _, gm9_1, by9_1, ga9_1⟩
set_option maxRecDepth 100000 in
set_option maxHeartbeats 8000000 in
theorem sb_apS0 (hl : l.stackTraces = false) (w : z_W) (ρ a n N : Nat) (i : Nat) (t : String × Nat × String) (hi9 : z_strs[i]? = some t) (ht9 : t.1 = "LoopdefaultsModel" ∨ t.1 = "LoopdefaultsModel$Hearer") (h : z_sb w ρ a n N) (hq : n + t.2.2.length ≤ 2 * N + 2) (hN : z_gr N (n + t.2.2.length) ≤ 5000) (hρ : ρ < 64) (hf : z_fn w) : z_Con G l mJ5_append_cf1ce 16 (z_gr N (n + t.2.2.length) / 16 - N / 16) (2 * (z_gr N (n + t.2.2.length) - N)) w [.ref a, .retAddr (10 + i)] (fun v w9 => v = some (.ref a) ∧ z_fw ρ w w9 ∧ z_sb w9 ρ a (n + t.2.2.length) (z_gr N (n + t.2.2.length))) (fun _ _ => False) := by
  obtain ⟨h1, h2, h3, h4, h5, m, f, ml, a1, a2, a3, ga, gm, a6⟩ := id h
  have hge := z_gr_ge hq
  have hle := z_gr_le (N := N) (m := n + t.2.2.length)
  refine z_body hl (by decide) rfl (Nat.le_of_ble_eq_true rfl) ?_
  show z_J G l mJ5_append_cf1ce _ 0 [(0, _), (1, _)] [] _ 0 0
  refine j_aload_n dJ5_append_cf1ce_0 rfl rfl ?_
  refine j_ifnn (tgt := 9) dJ5_append_cf1ce_1 (by decide) rfl (by simp) ?_
  refine j_aload_n dJ5_append_cf1ce_9 rfl rfl ?_
  refine j_callVK (i := i) dJ5_append_cf1ce_10 kJ0_length_8abf5 lJ5_32 inJ0_length_8abf5 (z_w 781 ((lwg_4 16).trans rfl) (by decide +kernel)) hi9 ht9 (sk_len hl w i t hi9 ht9) (Nat.le_of_ble_eq_true rfl) ⟨(by show _ ≤ z_gr N (n + t.2.2.length) / 16 - N / 16; omega), (by show _ ≤ 2 * (z_gr N (n + t.2.2.length) - N); omega)⟩ rfl (Nat.le_of_ble_eq_true rfl) rfl rfl (fun _ _ h => h.elim) ?_
  rintro _ _ ⟨rfl, hw20⟩
  refine j_w w hw20 ?_
  refine j_istore_n (lo' := [(2, _), (0, _), (1, _)]) dJ5_append_cf1ce_13 (by decide) rfl ?_
  refine j_aload_n dJ5_append_cf1ce_14 rfl rfl ?_
  refine j_aload_n dJ5_append_cf1ce_15 rfl rfl ?_
  refine j_getf dJ5_append_cf1ce_16 fJ5_79 ga rfl ?_
  refine j_iload_n dJ5_append_cf1ce_19 rfl ?_
  refine j_iadd dJ5_append_cf1ce_20 ?_
  refine j_top (congrArg Value.int (nI_add n t.2.2.length)) ?_
  refine j_callP (x := yJ5_isLatin1_aae02) (q := (RJ4, TJ4, 4)) dJ5_append_cf1ce_21 kJ5_ensureCapacityInternal_d00df lJ5_100 inJ5_ensureCapacityInternal_d00df ⟨(z_w 640 ((lwt_3_3 25).trans rfl) (by decide +kernel)), rfl, (z_wn 603 ((lwt_3_2 18).trans rfl) (by decide +kernel))⟩ ga rfl (sb_ens hl w ρ a n N (n + t.2.2.length) h (by omega) (by omega) hρ hf) (Nat.le_of_ble_eq_true rfl) ⟨(by show _ ≤ z_gr N (n + t.2.2.length) / 16 - N / 16; omega), (by show _ ≤ 2 * (z_gr N (n + t.2.2.length) - N); omega)⟩ rfl (Nat.le_of_ble_eq_true rfl) rfl rfl (fun _ _ h => h.elim) ?_
  rintro _ w1 ⟨rfl, fw1, hs1⟩
  have hf1 := fw1.2.1 hf
  obtain ⟨-, -, h3_1, h4_1, h5_1, m_1, f_1, ml_1, a1_1, a2_1, a3_1, ga_1, gm_1, a6_1⟩ := id hs1
  refine j_aload_n dJ5_append_cf1ce_24 rfl rfl ?_
  refine j_aload_n dJ5_append_cf1ce_25 rfl rfl ?_
  refine j_getf dJ5_append_cf1ce_26 fJ5_79 ga_1 rfl ?_
  refine j_aload_n dJ5_append_cf1ce_29 rfl rfl ?_
  refine j_callP (x := yJ5_isLatin1_aae02) (q := (RJ4, TJ4, 4)) dJ5_append_cf1ce_30 kJ5_putStringAt_47b60 lJ5_208 inJ5_putStringAt_47b60 ⟨(z_w 640 ((lwt_3_3 25).trans rfl) (by decide +kernel)), rfl, (z_wn 789 ((lwg_4 24).trans rfl) (by decide +kernel))⟩ ga_1 rfl (sk_put hl w1 ρ a m_1 (z_gr N (n + t.2.2.length)) n f_1 ml_1 (nI n) i t hi9 ht9 a1_1 a2_1 a3_1 ga_1 gm_1 a6_1 hge hN) (Nat.le_of_ble_eq_true rfl) ⟨(by show _ ≤ z_gr N (n + t.2.2.length) / 16 - N / 16; omega), (by show _ ≤ 2 * (z_gr N (n + t.2.2.length) - N); omega)⟩ rfl (Nat.le_of_ble_eq_true rfl) rfl rfl (fun _ _ h => h.elim) ?_
  rintro _ w2 ⟨rfl, fw2, g9_2, gm9_2, by9_2, ga9_2⟩
  have hf2 := fw2.2.1 hf1
  refine j_aload_n dJ5_append_cf1ce_33 rfl rfl ?_
  refine j_dup dJ5_append_cf1ce_34 rfl ?_
  refine j_getf dJ5_append_cf1ce_35 fJ5_79 ga9_2 rfl ?_
  refine j_iload_n dJ5_append_cf1ce_38 rfl ?_
  refine j_iadd dJ5_append_cf1ce_39 ?_
  refine j_top (congrArg Value.int (nI_add n t.2.2.length)) ?_
  refine j_put (w' := _) dJ5_append_cf1ce_40 fJ5_79 tJ4_3 ga9_2 ⟨rfl, rfl⟩ rfl ?_
  refine j_seal h1 ?_
  intro w3 u3
  have g3_m := (u3.2.1 _ a3_1).trans gm9_2
  have g3_a := u3.1
  have hf3 := u3.2.2.2 hf2
  refine j_aload_n dJ5_append_cf1ce_43 rfl rfl ?_
  refine j_aret dJ5_append_cf1ce_44 rfl (Or.inl ⟨_, rfl⟩) rfl ?_ (by show _ ≤ z_gr N (n + t.2.2.length) / 16 - N / 16; omega) (by show _ ≤ 2 * (z_gr N (n + t.2.2.length) - N); omega)
  exact ⟨rfl, ((fw1.tr fw2).tr (u3.fw h1 h2)), h1, h2, hge, by omega, hN, m_1, _, ml_1, a1_1, a2_1, a3_1, g3_a, g3_m, by9_2⟩
set_option maxRecDepth 100000 in
set_option maxHeartbeats 8000000 in
theorem sb_apS (hl : l.stackTraces = false) (w : z_W) (ρ a n N : Nat) (i : Nat) (t : String × Nat × String) (hi9 : z_strs[i]? = some t) (ht9 : t.1 = "LoopdefaultsModel" ∨ t.1 = "LoopdefaultsModel$Hearer") (h : z_sb w ρ a n N) (hq : n + t.2.2.length ≤ 2 * N + 2) (hN : z_gr N (n + t.2.2.length) ≤ 5000) (hρ : ρ < 64) (hf : z_fn w) : z_Con G l mJ4_append_15ec4 17 (z_gr N (n + t.2.2.length) / 16 - N / 16) (2 * (z_gr N (n + t.2.2.length) - N)) w [.ref a, .retAddr (10 + i)] (fun v w9 => v = some (.ref a) ∧ z_fw ρ w w9 ∧ z_sb w9 ρ a (n + t.2.2.length) (z_gr N (n + t.2.2.length))) (fun _ _ => False) := by
  obtain ⟨h1, h2, h3, h4, h5, m, f, ml, a1, a2, a3, ga, gm, a6⟩ := id h
  refine z_body hl (by decide) rfl (Nat.le_of_ble_eq_true rfl) ?_
  show z_J G l mJ4_append_15ec4 _ 0 [(0, _), (1, _)] [] _ 0 0
  refine j_aload_n dJ4_append_15ec4_0 rfl rfl ?_
  refine j_aload_n dJ4_append_15ec4_1 rfl rfl ?_
  refine j_callSu (q := (RJ4, TJ4, 4)) dJ4_append_15ec4_2 kJ5_append_cf1ce ⟨lJ4_29, (z_w 1971 ((lwg_9 6).trans rfl) (by decide +kernel)), (z_w 594 ((lwt_3_2 9).trans rfl) (by decide +kernel)), inJ5_append_cf1ce, (by decide)⟩ ga rfl (sb_apS0 hl w ρ a n N i t hi9 ht9 h hq hN hρ hf) (Nat.le_of_ble_eq_true rfl) ⟨(by show _ ≤ z_gr N (n + t.2.2.length) / 16 - N / 16; omega), (by show _ ≤ 2 * (z_gr N (n + t.2.2.length) - N); omega)⟩ rfl (Nat.le_of_ble_eq_true rfl) rfl rfl (fun _ _ h => h.elim) ?_
  rintro _ w1 ⟨rfl, fw1, hs1⟩
  have hf1 := fw1.2.1 hf
  refine j_pop dJ4_append_15ec4_5 rfl ?_
  refine j_aload_n dJ4_append_15ec4_6 rfl rfl ?_
  refine j_aret dJ4_append_15ec4_7 rfl (Or.inl ⟨_, rfl⟩) rfl ?_ (by show _ ≤ z_gr N (n + t.2.2.length) / 16 - N / 16; omega) (by show _ ≤ 2 * (z_gr N (n + t.2.2.length) - N); omega)
  exact ⟨rfl, fw1, hs1⟩
def z_tx (w : z_W) (ρ r n : Nat) : Prop := 1000 ≤ r ∧ r % 64 = ρ ∧ ∃ b f, 1000 ≤ b ∧ b % 64 = ρ ∧ b ≠ r ∧ z_g w r = some (.inr (0, [.ref b, .int 0, .int 0, .int 0])) ∧ z_g w b = some (.inl (2, n, f))
set_option maxRecDepth 100000 in
set_option maxHeartbeats 8000000 in
theorem sb_val (hl : l.stackTraces = false) (w : z_W) (a m : Nat) (ml c : Int32) (ga : z_g w a = some (.inr (1, [.ref m, .int 0, .int ml, .int c]))) : z_Con G l mJ5_getValue_6d5f1 10 0 0 w [.ref a] (fun v w9 => v = some (.ref m) ∧ w9 = w) (fun _ _ => False) := by
  refine z_body hl (by decide) rfl (Nat.le_of_ble_eq_true rfl) ?_
  show z_J G l mJ5_getValue_6d5f1 _ 0 [(0, _)] [] _ 0 0
  refine j_aload_n dJ5_getValue_6d5f1_0 rfl rfl ?_
  refine j_getf dJ5_getValue_6d5f1_1 fJ5_15 ga rfl ?_
  refine j_aret dJ5_getValue_6d5f1_4 rfl (Or.inr ⟨_, rfl⟩) rfl ?_ (Nat.le_of_ble_eq_true rfl) (Nat.le_of_ble_eq_true rfl)
  exact ⟨rfl, rfl⟩
set_option maxRecDepth 100000 in
set_option maxHeartbeats 8000000 in
theorem sb_chkL (hl : l.stackTraces = false) (w : z_W) (x z : Int32) (hxz : x ≤ z) : z_Con G l mJ7_checkLength_df160 10 0 0 w [.int x, .int z] (fun v w9 => v = none ∧ w9 = w) (fun _ _ => False) := by
  refine z_body hl (by decide) rfl (Nat.le_of_ble_eq_true rfl) ?_
  show z_J G l mJ7_checkLength_df160 _ 0 [(0, _), (1, _)] [] _ 0 0
  refine j_iload_n dJ7_checkLength_df160_0 rfl ?_
  refine j_iload_n dJ7_checkLength_df160_1 rfl ?_
  refine j_icmp_ge (tgt := 37) dJ7_checkLength_df160_2 (by decide) (fun c_2_4 => ?_) (fun c_2_4 => ?_)
  · refine j_vret dJ7_checkLength_df160_37 rfl ?_ (Nat.le_of_ble_eq_true rfl) (Nat.le_of_ble_eq_true rfl)
    exact ⟨rfl, rfl⟩
  · exact absurd hxz c_2_4
set_option maxRecDepth 100000 in
set_option maxHeartbeats 8000000 in
theorem sb_cpRB (hl : l.stackTraces = false) (w : z_W) (ρ m N q : Nat) (f : Nat → Value) (hρ : ρ < 64) (hf : z_fn w) (gm : z_g w m = some (.inl (2, N, f))) (hby : z_by f) (hq : q ≤ N) (hN : N ≤ 5000) : z_Con G l mJ7_copyOfRangeByte_39247 11 1 q w [.ref m, .int 0, .int (nI q)] (fun v w9 => ∃ (m9 : Nat) (g : Nat → Value), v = some (.ref m9) ∧ z_fw ρ w w9 ∧ 1000 ≤ m9 ∧ m9 % 64 = ρ ∧ (∀ k e, z_g w k = some e → k ≠ m9) ∧ z_g w9 m9 = some (.inl (2, q, g)) ∧ (∀ k e, z_g w k = some e → z_g w9 k = some e)) (fun _ _ => False) := by
  refine z_body hl (by decide) rfl (Nat.le_of_ble_eq_true rfl) ?_
  show z_J G l mJ7_copyOfRangeByte_39247 _ 0 [(0, _), (1, _), (2, _)] [] _ 0 0
  refine j_iload_n dJ7_copyOfRangeByte_39247_0 rfl ?_
  refine j_iload_n dJ7_copyOfRangeByte_39247_1 rfl ?_
  refine j_callS dJ7_copyOfRangeByte_39247_2 kJ7_checkLength_df160 lJ7_343 stJ7_checkLength_df160 (sb_chkL hl w _ _ (nI_leI (a := 0) (b := q) (by omega) (by omega) |>.mpr (Nat.zero_le _))) (Nat.le_of_ble_eq_true rfl) ⟨(Nat.le_of_ble_eq_true rfl), (by show _ ≤ q; omega)⟩ rfl (Nat.le_of_ble_eq_true rfl) rfl rfl (fun _ _ h => h.elim) ?_
  rintro _ _ ⟨rfl, hw21⟩
  refine j_w w hw21 ?_
  refine j_iload_n dJ7_copyOfRangeByte_39247_5 rfl ?_
  refine j_iload_n dJ7_copyOfRangeByte_39247_6 rfl ?_
  refine j_isub dJ7_copyOfRangeByte_39247_7 ?_
  refine j_top (congrArg Value.int (show nI q - 0 = nI q from pk_sub (a := q) (b := 0) (Nat.zero_le _))) ?_
  refine j_istore_n (lo' := [(3, _), (0, _), (1, _), (2, _)]) dJ7_copyOfRangeByte_39247_8 (by decide) rfl ?_
  refine j_iload_n dJ7_copyOfRangeByte_39247_9 rfl ?_
  obtain ⟨x1, hx1a, hx1b, hx1c⟩ := z_fresh (ρ) hρ hf
  have n_m_x1 := z_neF hx1c gm
  refine j_newa (kd := 2) (N := q) (w' := _) (n := x1) dJ7_copyOfRangeByte_39247_10 rfl rfl arc_byte ⟨rfl, fun _ _ h => h⟩ (nI_pos (by omega)) (z_cla (by omega)) (by show q * 1 ≤ _; omega) rfl (z_alW hx1c hx1a) (Nat.le_of_ble_eq_true rfl) (by show _ ≤ q; omega) ?_
  refine j_seal hx1a ?_
  intro w1 u1
  have g1_m := (u1.2.1 _ n_m_x1).trans gm
  have g1_x1 := u1.1
  have hf1 := u1.2.2.2 hf
  refine j_astore (lo' := [(4, _), (3, _), (0, _), (1, _), (2, _)]) dJ7_copyOfRangeByte_39247_12 rfl (by decide) rfl ?_
  refine j_aload_n dJ7_copyOfRangeByte_39247_14 rfl rfl ?_
  refine j_iload_n dJ7_copyOfRangeByte_39247_15 rfl ?_
  refine j_aload dJ7_copyOfRangeByte_39247_16 rfl rfl ?_
  refine j_iconst (v := 0) dJ7_copyOfRangeByte_39247_18 (by decide) ?_
  refine j_aload_n dJ7_copyOfRangeByte_39247_19 rfl rfl ?_
  refine j_alen dJ7_copyOfRangeByte_39247_20 g1_m rfl rfl ?_
  refine j_iload_n dJ7_copyOfRangeByte_39247_21 rfl ?_
  refine j_isub dJ7_copyOfRangeByte_39247_22 ?_
  refine j_top (congrArg Value.int (show nI N - 0 = nI N from pk_sub (a := N) (b := 0) (Nat.zero_le _))) ?_
  refine j_iload_n dJ7_copyOfRangeByte_39247_23 rfl ?_
  refine j_mmin dJ7_copyOfRangeByte_39247_24 lJ7_304 (Nat.le_of_ble_eq_true rfl) (Nat.le_of_ble_eq_true rfl) (Nat.le_of_ble_eq_true rfl) (by show _ ≤ q; omega) ?_
  refine j_top (congrArg Value.int (nI_mn (a := N) (b := q) (by omega) (by omega))) ?_
  refine j_acopy (w' := _) dJ7_copyOfRangeByte_39247_27 lJ7_150 ac_n ac_s ac_i g1_m g1_x1 rfl (by decide) (by decide) (nI_pos (by omega)) (by rw [z_cla (by omega)]; show 0 + _ ≤ N; omega) (by rw [z_cla (by omega)]; show 0 + _ ≤ q; omega) (fun i _ => Or.inl (hby _)) (Nat.le_of_ble_eq_true rfl) (Nat.le_of_ble_eq_true rfl) rfl ?_
  refine j_seal hx1a ?_
  intro w2 u2
  have g2_m := (u2.2.1 _ n_m_x1).trans g1_m
  have g2_x1 := u2.1
  have hf2 := u2.2.2.2 hf1
  refine j_aload dJ7_copyOfRangeByte_39247_30 rfl rfl ?_
  refine j_aret dJ7_copyOfRangeByte_39247_32 rfl (Or.inr ⟨_, rfl⟩) rfl ?_ (Nat.le_of_ble_eq_true rfl) (by show _ ≤ q; omega)
  exact ⟨x1, _, rfl, ((u1.fw hx1a hx1b).tr (u2.fw hx1a hx1b)), hx1a, hx1b, fun k e hk => z_neF hx1c hk, g2_x1, fun k e hk => (u2.2.1 k (z_neF hx1c hk)).trans ((u1.2.1 k (z_neF hx1c hk)).trans hk)⟩
theorem z_isB {w : z_W} {p n : Nat} {f : Nat → Value} (h : z_g w p = some (.inl (2, n, f))) : z_is w (.ref p) "[B" := Or.inr ⟨_, _, h, rfl, rfl⟩
set_option maxRecDepth 100000 in
set_option maxHeartbeats 8000000 in
theorem sb_cpR (hl : l.stackTraces = false) (w : z_W) (ρ m N q : Nat) (f : Nat → Value) (hρ : ρ < 64) (hf : z_fn w) (gm : z_g w m = some (.inl (2, N, f))) (hby : z_by f) (hq : q ≤ N) (hN : N ≤ 5000) : z_Con G l mJ7_copyOfRange_39247 12 1 q w [.ref m, .int 0, .int (nI q)] (fun v w9 => ∃ (m9 : Nat) (g : Nat → Value), v = some (.ref m9) ∧ z_fw ρ w w9 ∧ 1000 ≤ m9 ∧ m9 % 64 = ρ ∧ (∀ k e, z_g w k = some e → k ≠ m9) ∧ z_g w9 m9 = some (.inl (2, q, g)) ∧ (∀ k e, z_g w k = some e → z_g w9 k = some e)) (fun _ _ => False) := by
  refine z_body hl (by decide) rfl (Nat.le_of_ble_eq_true rfl) ?_
  show z_J G l mJ7_copyOfRange_39247 _ 0 [(0, _), (1, _), (2, _)] [] _ 0 0
  refine j_iload_n dJ7_copyOfRange_39247_0 rfl ?_
  refine j_if_ne (tgt := 10) dJ7_copyOfRange_39247_1 (by decide) (fun c_1_3 => ?_) (fun c_1_3 => ?_)
  · exact absurd rfl c_1_3
  · refine j_iload_n dJ7_copyOfRange_39247_4 rfl ?_
    refine j_aload_n dJ7_copyOfRange_39247_5 rfl rfl ?_
    refine j_alen dJ7_copyOfRange_39247_6 gm rfl rfl ?_
    refine j_icmp_eq (tgt := 17) dJ7_copyOfRange_39247_7 (by decide) (fun c_7_8 => ?_) (fun c_7_8 => ?_)
    · have hqN : q = N := nI_inj c_7_8 (by omega) (by omega)
      refine j_aload_n dJ7_copyOfRange_39247_17 rfl rfl ?_
      obtain ⟨x1, hx1a, hx1b, hx1c⟩ := z_fresh (ρ) hρ hf
      have n_m_x1 := z_neF hx1c gm
      refine j_clone (w' := _) (n := x1) dJ7_copyOfRange_39247_18 (z_w 624 ((lwt_3_3 9).trans rfl) (by decide +kernel)) (z_w 625 ((lwt_3_3 10).trans rfl) (by decide +kernel)) (z_w 626 ((lwt_3_3 11).trans rfl) (by decide +kernel)) (z_w 627 ((lwt_3_3 12).trans rfl) (by decide +kernel)) (z_w 628 ((lwt_3_3 13).trans rfl) (by decide +kernel)) (z_wn 629 ((lwt_3_3 14).trans rfl) (by decide +kernel)) gm hby (z_alW hx1c hx1a) (Nat.le_of_ble_eq_true rfl) (Nat.le_of_ble_eq_true rfl) (Nat.le_of_ble_eq_true rfl) (by show _ ≤ q; omega) ?_
      refine j_seal hx1a ?_
      intro w1 u1
      have g1_m := (u1.2.1 _ n_m_x1).trans gm
      have g1_x1 := u1.1
      have hf1 := u1.2.2.2 hf
      refine j_castS dJ7_copyOfRange_39247_21 (z_w 630 ((lwt_3_3 15).trans rfl) (by decide +kernel)) (z_isB g1_x1) ?_
      refine j_aret dJ7_copyOfRange_39247_24 rfl (Or.inr ⟨_, rfl⟩) rfl ?_ (Nat.le_of_ble_eq_true rfl) (by show _ ≤ q; omega)
      exact ⟨x1, _, rfl, (u1.fw hx1a hx1b), hx1a, hx1b, fun k e hk => z_neF hx1c hk, hqN ▸ g1_x1, fun k e hk => (u1.2.1 k (z_neF hx1c hk)).trans hk⟩
    · refine j_aload_n dJ7_copyOfRange_39247_10 rfl rfl ?_
      refine j_iload_n dJ7_copyOfRange_39247_11 rfl ?_
      refine j_iload_n dJ7_copyOfRange_39247_12 rfl ?_
      refine j_callS dJ7_copyOfRange_39247_13 kJ7_copyOfRangeByte_39247 lJ7_339 stJ7_copyOfRangeByte_39247 (sb_cpRB hl w ρ m N q f hρ hf gm hby hq hN) (Nat.le_of_ble_eq_true rfl) ⟨(Nat.le_of_ble_eq_true rfl), (by show _ ≤ q; omega)⟩ rfl (Nat.le_of_ble_eq_true rfl) rfl rfl (fun _ _ h => h.elim) ?_
      rintro _ w2 ⟨m9, g9, rfl, fw2, c1, c2, c3, c4, c5⟩
      have hf2 := fw2.2.1 hf
      refine j_aret dJ7_copyOfRange_39247_16 rfl (Or.inr ⟨_, rfl⟩) rfl ?_ (Nat.le_of_ble_eq_true rfl) (by show _ ≤ q; omega)
      exact ⟨m9, g9, rfl, fw2, c1, c2, c3, c4, c5⟩
set_option maxRecDepth 100000 in
set_option maxHeartbeats 8000000 in
theorem sb_str0 (hl : l.stackTraces = false) (w : z_W) (ρ σ a n N r : Nat) (h : z_sb w σ a n N) (hσ : σ ≠ ρ) (r1 : 1000 ≤ r) (r2 : r % 64 = ρ) (gr : z_g w r = some (.inr (0, [.null, .int 0, .int 0, .int 0]))) (hρ : ρ < 64) (hf : z_fn w) : z_Con G l mJ0_init_db425 13 1 n w [.ref r, .ref a, .null] (fun v w9 => v = none ∧ z_fw ρ w w9 ∧ z_tx w9 ρ r n) (fun _ _ => False) := by
  obtain ⟨h1, h2, h3, h4, h5, m, f, ml, a1, a2, a3, ga, gm, a6⟩ := id h
  refine z_body hl (by decide) rfl (Nat.le_of_ble_eq_true rfl) ?_
  show z_J G l mJ0_init_db425 _ 0 [(0, _), (1, _), (2, _)] [] _ 0 0
  refine j_aload_n dJ0_init_db425_0 rfl rfl ?_
  refine j_objI dJ0_init_db425_1 oJ0_1 z_oi1 z_oi2 (Nat.le_of_ble_eq_true rfl) (Nat.le_of_ble_eq_true rfl) ?_
  refine j_aload_n dJ0_init_db425_4 rfl rfl ?_
  refine j_callU (q := (RJ4, TJ4, 4)) dJ0_init_db425_5 kJ5_getValue_6d5f1 cuJ0_552_J4 ga rfl (sb_val hl w a m ml _ ga) (Nat.le_of_ble_eq_true rfl) ⟨(Nat.le_of_ble_eq_true rfl), (by show _ ≤ n; omega)⟩ rfl (Nat.le_of_ble_eq_true rfl) rfl rfl (fun _ _ h => h.elim) ?_
  rintro _ _ ⟨rfl, hw22⟩
  refine j_w w hw22 ?_
  refine j_astore_n (lo' := [(3, _), (0, _), (1, _), (2, _)]) dJ0_init_db425_8 rfl (by decide) rfl ?_
  refine j_aload_n dJ0_init_db425_9 rfl rfl ?_
  refine j_callUd (y0 := mJ5_length_8abf5) (x := yJ5_length_8abf5) (q := (RJ4, TJ4, 4)) dJ0_init_db425_10 kJ4_length_8abf5 lJ0_549 (z_w 744 ((lwt_3_7 9).trans rfl) (by decide +kernel)) ⟨rfl, rfl, kJ5_length_8abf5.2.1, inJ5_length_8abf5⟩ (z_w 745 ((lwt_3_7 10).trans rfl) (by decide +kernel)) inJ4_length_8abf5 (by decide) rfl ga rfl (sb_len hl w σ a n N h) (Nat.le_of_ble_eq_true rfl) ⟨(Nat.le_of_ble_eq_true rfl), (by show _ ≤ n; omega)⟩ rfl (Nat.le_of_ble_eq_true rfl) rfl rfl (fun _ _ h => h.elim) ?_
  rintro _ _ ⟨rfl, hw23⟩
  refine j_w w hw23 ?_
  refine j_istore (lo' := [(4, _), (3, _), (0, _), (1, _), (2, _)]) dJ0_init_db425_13 (by decide) rfl ?_
  refine j_aload_n dJ0_init_db425_15 rfl rfl ?_
  refine j_callU (q := (RJ4, TJ4, 4)) dJ0_init_db425_16 kJ5_isLatin1_aae02 cuJ0_1047_J4 ga rfl (sb_lat hl w _ _ _ _ ga) (Nat.le_of_ble_eq_true rfl) ⟨(Nat.le_of_ble_eq_true rfl), (by show _ ≤ n; omega)⟩ rfl (Nat.le_of_ble_eq_true rfl) rfl rfl (fun _ _ h => h.elim) ?_
  rintro _ _ ⟨rfl, hw24⟩
  refine j_w w hw24 ?_
  refine j_if_eq (tgt := 41) dJ0_init_db425_19 (by decide) (fun c_19_18 => ?_) (fun c_19_18 => ?_)
  · exact absurd c_19_18 (by decide)
  · refine j_aload_n dJ0_init_db425_22 rfl rfl ?_
    refine j_iconst (v := 0) dJ0_init_db425_23 (by decide) ?_
    refine j_putF (w' := _) dJ0_init_db425_24 fJ0_15 tJ0_1 rfl (z_dc rfl rfl (z_w 819 ((lwt_4_1 24).trans rfl) (by decide +kernel))) gr ⟨rfl, rfl⟩ rfl ?_
    refine j_seal r1 ?_
    intro w1 u1
    have g1_a := (u1.2.1 _ (by omega)).trans ga
    have g1_m := (u1.2.1 _ (by omega)).trans gm
    have g1_r := u1.1
    have hf1 := u1.2.2.2 hf
    refine j_aload_n dJ0_init_db425_27 rfl rfl ?_
    refine j_aload_n dJ0_init_db425_28 rfl rfl ?_
    refine j_iconst (v := 0) dJ0_init_db425_29 (by decide) ?_
    refine j_iload dJ0_init_db425_30 rfl ?_
    refine j_callS dJ0_init_db425_32 kJ7_copyOfRange_39247 lJ0_54 stJ7_copyOfRange_39247 (sb_cpR hl w1 ρ m N n f hρ hf1 g1_m a6 h3 h5) (Nat.le_of_ble_eq_true rfl) ⟨(Nat.le_of_ble_eq_true rfl), (by show _ ≤ n; omega)⟩ rfl (Nat.le_of_ble_eq_true rfl) rfl rfl (fun _ _ h => h.elim) ?_
    rintro _ w2 ⟨m9, g9, rfl, fw2, c1, c2, c3, c4, c5⟩
    have hf2 := fw2.2.1 hf1
    have g2_r := c5 r _ g1_r
    refine j_putF (w' := _) dJ0_init_db425_35 fJ0_9 tJ0_0 rfl (z_dc rfl rfl (z_w 818 ((lwt_4_1 23).trans rfl) (by decide +kernel))) g2_r (Or.inr ⟨_, rfl⟩) rfl ?_
    refine j_seal r1 ?_
    intro w3 u3
    have g3_m2 := (u3.2.1 _ (Ne.symm (c3 r _ g1_r))).trans c4
    have g3_r := u3.1
    have hf3 := u3.2.2.2 hf2
    refine j_goto (tgt := 97) dJ0_init_db425_38 (by decide) ?_
    refine j_vret dJ0_init_db425_97 rfl ?_ (Nat.le_of_ble_eq_true rfl) (by show _ ≤ n; omega)
    exact ⟨rfl, (((u1.fw r1 r2).tr fw2).tr (u3.fw r1 r2)), r1, r2, m9, g9, c1, c2, Ne.symm (c3 r _ g1_r), g3_r, g3_m2⟩
set_option maxRecDepth 100000 in
set_option maxHeartbeats 8000000 in
theorem sb_str1 (hl : l.stackTraces = false) (w : z_W) (ρ σ a n N r : Nat) (h : z_sb w σ a n N) (hσ : σ ≠ ρ) (r1 : 1000 ≤ r) (r2 : r % 64 = ρ) (gr : z_g w r = some (.inr (0, [.null, .int 0, .int 0, .int 0]))) (hρ : ρ < 64) (hf : z_fn w) : z_Con G l mJ0_init_81219 14 1 n w [.ref r, .ref a] (fun v w9 => v = none ∧ z_fw ρ w w9 ∧ z_tx w9 ρ r n) (fun _ _ => False) := by
  obtain ⟨h1, h2, h3, h4, h5, m, f, ml, a1, a2, a3, ga, gm, a6⟩ := id h
  refine z_body hl (by decide) rfl (Nat.le_of_ble_eq_true rfl) ?_
  show z_J G l mJ0_init_81219 _ 0 [(0, _), (1, _)] [] _ 0 0
  refine j_aload_n dJ0_init_81219_0 rfl rfl ?_
  refine j_aload_n dJ0_init_81219_1 rfl rfl ?_
  refine j_null dJ0_init_81219_2 ?_
  refine j_callI dJ0_init_81219_3 kJ0_init_db425 rfl lJ0_489 inJ0_init_db425 rfl (sb_str0 hl w ρ σ a n N r h hσ r1 r2 gr hρ hf) (Nat.le_of_ble_eq_true rfl) ⟨(Nat.le_of_ble_eq_true rfl), (by show _ ≤ n; omega)⟩ rfl (Nat.le_of_ble_eq_true rfl) rfl rfl (fun _ _ h => h.elim) ?_
  rintro _ w1 ⟨rfl, fw1, ht1⟩
  have hf1 := fw1.2.1 hf
  refine j_vret dJ0_init_81219_6 rfl ?_ (Nat.le_of_ble_eq_true rfl) (by show _ ≤ n; omega)
  exact ⟨rfl, fw1, ht1⟩
set_option maxRecDepth 100000 in
set_option maxHeartbeats 8000000 in
theorem sb_toS (hl : l.stackTraces = false) (w : z_W) (ρ σ a n N : Nat) (h : z_sb w σ a n N) (hσ : σ ≠ ρ) (hρ : ρ < 64) (hf : z_fn w) : z_Con G l mJ4_toString_0e30d 15 2 (4 + n) w [.ref a] (fun v w9 => ∃ r, v = some (.ref r) ∧ z_fw ρ w w9 ∧ z_tx w9 ρ r n) (fun _ _ => False) := by
  obtain ⟨h1, h2, h3, h4, h5, m, f, ml, a1, a2, a3, ga, gm, a6⟩ := id h
  refine z_body hl (by decide) rfl (Nat.le_of_ble_eq_true rfl) ?_
  show z_J G l mJ4_toString_0e30d _ 0 [(0, _)] [] _ 0 0
  obtain ⟨x1, hx1a, hx1b, hx1c⟩ := z_fresh (ρ) hρ hf
  have n_a_x1 := z_neF hx1c ga
  refine j_new (N := 4) (w' := _) (n := x1) dJ4_toString_0e30d_0 nJ4_18 rfl (z_alW hx1c hx1a) (Nat.le_of_ble_eq_true rfl) (by show _ ≤ 4 + n; omega) ?_
  refine j_seal hx1a ?_
  intro w1 u1
  have g1_a := (u1.2.1 _ n_a_x1).trans ga
  have g1_x1 := u1.1
  have hf1 := u1.2.2.2 hf
  refine j_dup dJ4_toString_0e30d_3 rfl ?_
  refine j_aload_n dJ4_toString_0e30d_4 rfl rfl ?_
  refine j_callI dJ4_toString_0e30d_5 kJ0_init_81219 rfl lJ4_137 inJ0_init_81219 rfl (sb_str1 hl w1 ρ σ a n N x1 (h.fw (u1.fw hx1a hx1b) hσ) hσ hx1a hx1b g1_x1 hρ hf1) (Nat.le_of_ble_eq_true rfl) ⟨(Nat.le_of_ble_eq_true rfl), (by show _ ≤ 4 + n; omega)⟩ rfl (Nat.le_of_ble_eq_true rfl) rfl rfl (fun _ _ h => h.elim) ?_
  rintro _ w2 ⟨rfl, fw2, ht2⟩
  have hf2 := fw2.2.1 hf1
  refine j_aret dJ4_toString_0e30d_8 rfl (Or.inl ⟨_, rfl⟩) rfl ?_ (Nat.le_of_ble_eq_true rfl) (by show _ ≤ 4 + n; omega)
  exact ⟨x1, rfl, ((u1.fw hx1a hx1b).tr fw2), ht2⟩
set_option maxRecDepth 100000 in
set_option maxHeartbeats 8000000 in
theorem tx_cod (hl : l.stackTraces = false) (w : z_W) (ρ r n : Nat) (h : z_tx w ρ r n) : z_Con G l mJ0_coder_7d493 10 0 0 w [.ref r] (fun v w9 => v = some (.int 0) ∧ w9 = w) (fun _ _ => False) := by
  obtain ⟨r1, r2, b, f, b1, b2, b3, gr, gb⟩ := id h
  refine z_body hl (by decide) rfl (Nat.le_of_ble_eq_true rfl) ?_
  show z_J G l mJ0_coder_7d493 _ 0 [(0, _)] [] _ 0 0
  refine j_gets dJ0_coder_7d493_0 (List.mem_of_getElem? (i := 0) rfl) rfl (z_w 787 ((lwg_4 22).trans rfl) (by decide +kernel)) ?_
  refine j_if_eq (tgt := 13) dJ0_coder_7d493_3 (by decide) (fun c_3_3 => ?_) (fun c_3_3 => ?_)
  · exact absurd c_3_3 (by decide)
  · refine j_aload_n dJ0_coder_7d493_6 rfl rfl ?_
    refine j_getf dJ0_coder_7d493_7 fJ0_15 gr rfl ?_
    refine j_goto (tgt := 14) dJ0_coder_7d493_10 (by decide) ?_
    refine j_iret dJ0_coder_7d493_14 rfl rfl ?_ (Nat.le_of_ble_eq_true rfl) (Nat.le_of_ble_eq_true rfl)
    exact ⟨rfl, rfl⟩
set_option maxRecDepth 100000 in
set_option maxHeartbeats 8000000 in
theorem tx_len (hl : l.stackTraces = false) (w : z_W) (ρ r n : Nat) (h : z_tx w ρ r n) : z_Con G l mJ0_length_8abf5 11 0 0 w [.ref r] (fun v w9 => v = some (.int (nI n)) ∧ w9 = w) (fun _ _ => False) := by
  obtain ⟨r1, r2, b, f, b1, b2, b3, gr, gb⟩ := id h
  refine z_body hl (by decide) rfl (Nat.le_of_ble_eq_true rfl) ?_
  show z_J G l mJ0_length_8abf5 _ 0 [(0, _)] [] _ 0 0
  refine j_aload_n dJ0_length_8abf5_0 rfl rfl ?_
  refine j_getf dJ0_length_8abf5_1 fJ0_9 gr rfl ?_
  refine j_alen dJ0_length_8abf5_4 gb rfl rfl ?_
  refine j_aload_n dJ0_length_8abf5_5 rfl rfl ?_
  refine j_callV (q := (RJ0, TJ0, 4)) dJ0_length_8abf5_6 kJ0_coder_7d493 lJ0_335 inJ0_coder_7d493 seJ0_coder_7d493 gr rfl (tx_cod hl w ρ r n h) (Nat.le_of_ble_eq_true rfl) ⟨(Nat.le_of_ble_eq_true rfl), (Nat.le_of_ble_eq_true rfl)⟩ rfl (Nat.le_of_ble_eq_true rfl) rfl rfl (fun _ _ h => h.elim) ?_
  rintro _ _ ⟨rfl, hw25⟩
  refine j_w w hw25 ?_
  refine j_ishr dJ0_length_8abf5_9 ?_
  refine j_top (congrArg Value.int (sb_shr0 (nI n))) ?_
  refine j_iret dJ0_length_8abf5_10 rfl rfl ?_ (Nat.le_of_ble_eq_true rfl) (Nat.le_of_ble_eq_true rfl)
  exact ⟨rfl, rfl⟩
end ZSb2
