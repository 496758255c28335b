section ZSo
theorem sp_m20 {n : Nat} (h : n ≤ 20) : z_m20 (nI n) := by
  unfold z_m20
  rw [nI_toInt (by omega)]
  omega
end ZSo
section ZCs
variable {G : z_G} {l : Launch}
end ZCs
