section ZDg
theorem z_row.tk {N : Nat} {m : Int32} {f : Nat → Int32} {B : List Int32} {j : Nat} (h : z_row N m f B) (hj : j < B.length) : B.take (j + 1) = B.take j ++ [f j] := by
  rw [List.take_succ, h.2.2 j hj]
  rfl
end ZDg
section ZDm
variable {G : z_G} {l : Launch}
end ZDm
