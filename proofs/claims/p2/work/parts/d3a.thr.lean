section ZMt
variable {G : z_G} {l : Launch}
set_option maxRecDepth 100000 in
set_option maxHeartbeats 8000000 in
theorem cm_thrown (hl : l.stackTraces = false) (w : z_W) (s : z_Z)  (h : z_mst w s)  : z_Con G l mX11_thrown 10 0 0 w [.ref 1000] (fun v w9 => v = some (.int s.1.1) ∧ w9 = w) (fun _ _ => False) := by
  have ke0 : z_key s = z_key s := rfl
  refine z_body hl (by decide) rfl (Nat.le_of_ble_eq_true rfl) ?_
  show z_J G l mX11_thrown _ 0 [(0, _)] [] _ 0 0
  refine j_aload_n dX11_thrown_0 rfl rfl ?_
  refine j_getf dX11_thrown_1 fX11_48 h.m rfl ?_
  refine j_iret dX11_thrown_4 rfl rfl ?_ (Nat.le_of_ble_eq_true rfl) (Nat.le_of_ble_eq_true rfl)
  exact ⟨rfl, rfl⟩
end ZMt
