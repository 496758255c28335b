section ZMq
variable {G : z_G} {l : Launch}
set_option maxRecDepth 100000 in
set_option maxHeartbeats 8000000 in
theorem cm_heardTold (hl : l.stackTraces = false) (w : z_W) (s : z_Z) (i : Nat) (y : Int32) (h : z_mst w s) (hi : i < 2) : z_Con G l mX11_heardTold 10 0 0 w [.ref 1000, .int (nI i), .int y] (fun v w9 => (∃ r : Int32, v = some (.int r)) ∧ w9 = w) (fun _ _ => False) := by
  have ke0 : z_key s = z_key s := rfl
  refine z_body hl (by decide) rfl (Nat.le_of_ble_eq_true rfl) ?_
  show z_J G l mX11_heardTold _ 0 [(0, _), (1, _), (2, _)] [] _ 0 0
  refine j_aload_n dX11_heardTold_0 rfl rfl ?_
  refine j_getf dX11_heardTold_1 fX11_40 h.m rfl ?_
  refine j_iload_n dX11_heardTold_4 rfl ?_
  obtain ⟨fz1, gz1, hz1⟩ := h.hs
  refine j_aald (v := .ref (1009 + i)) dX11_heardTold_5 gz1 rfl rfl (vp_in_nI (by omega) (by omega)) (by rw [z_cla (by omega)]; exact hz1 _ (by omega)) ?_
  refine j_astore_n (lo' := [(3, _), (0, _), (1, _), (2, _)]) dX11_heardTold_6 rfl (by decide) rfl ?_
  refine j_iload_n dX11_heardTold_7 rfl ?_
  refine j_if_ne (tgt := 18) dX11_heardTold_8 (by decide) (fun c_8_9 => ?_) (fun c_8_9 => ?_)
  · refine j_iload_n dX11_heardTold_18 rfl ?_
    refine j_iconst (v := 1) dX11_heardTold_19 (by decide) ?_
    refine j_icmp_ne (tgt := 30) dX11_heardTold_20 (by decide) (fun c_20_12 => ?_) (fun c_20_12 => ?_)
    · refine j_iload_n dX11_heardTold_30 rfl ?_
      refine j_iconst (v := 2) dX11_heardTold_31 (by decide) ?_
      refine j_icmp_ne (tgt := 42) dX11_heardTold_32 (by decide) (fun c_32_15 => ?_) (fun c_32_15 => ?_)
      · refine j_aload_n dX11_heardTold_42 rfl rfl ?_
        refine j_getf dX11_heardTold_43 fX11_190 (h.hd (i := i) (by omega)) rfl ?_
        refine j_iret dX11_heardTold_46 rfl rfl ?_ (Nat.le_of_ble_eq_true rfl) (Nat.le_of_ble_eq_true rfl)
        exact ⟨⟨_, rfl⟩, rfl⟩
      · refine j_aload_n dX11_heardTold_35 rfl rfl ?_
        refine j_getf dX11_heardTold_36 fX11_202 (h.hd (i := i) (by omega)) rfl ?_
        refine j_goto (tgt := 46) dX11_heardTold_39 (by decide) ?_
        refine j_iret dX11_heardTold_46 rfl rfl ?_ (Nat.le_of_ble_eq_true rfl) (Nat.le_of_ble_eq_true rfl)
        exact ⟨⟨_, rfl⟩, rfl⟩
    · refine j_aload_n dX11_heardTold_23 rfl rfl ?_
      refine j_getf dX11_heardTold_24 fX11_199 (h.hd (i := i) (by omega)) rfl ?_
      refine j_goto (tgt := 46) dX11_heardTold_27 (by decide) ?_
      refine j_iret dX11_heardTold_46 rfl rfl ?_ (Nat.le_of_ble_eq_true rfl) (Nat.le_of_ble_eq_true rfl)
      exact ⟨⟨_, rfl⟩, rfl⟩
  · refine j_aload_n dX11_heardTold_11 rfl rfl ?_
    refine j_getf dX11_heardTold_12 fX11_193 (h.hd (i := i) (by omega)) rfl ?_
    refine j_goto (tgt := 46) dX11_heardTold_15 (by decide) ?_
    refine j_iret dX11_heardTold_46 rfl rfl ?_ (Nat.le_of_ble_eq_true rfl) (Nat.le_of_ble_eq_true rfl)
    exact ⟨⟨_, rfl⟩, rfl⟩
end ZMq
