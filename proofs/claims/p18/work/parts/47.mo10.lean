section ZMs10
variable {G : z_G} {l : Launch}
theorem j_gen {y : z_M} {S : z_S} {pc : Nat} {lo : List (Nat × Value)} {st : List Value} {w : z_W} {kc ks : Nat} {x : Int32} (h : ∀ z : Int32, z_J G l y S pc lo (.int z :: st) w kc ks) : z_J G l y S pc lo (.int x :: st) w kc ks := h x
theorem z_sb.cell {w : z_W} {ρ a n N : Nat} (h : z_sb w ρ a n N) : ∃ fs, z_g w a = some (.inr (1, fs)) := by
  obtain ⟨-, -, -, -, -, m, f, ml, -, -, -, ga, -⟩ := h
  exact ⟨_, ga⟩
theorem z_tx.cell {w : z_W} {ρ a n : Nat} (h : z_tx w ρ a n) : ∃ fs, z_g w a = some (.inr (0, fs)) := by
  obtain ⟨-, -, b, f, -, -, -, ga, -⟩ := h
  exact ⟨_, ga⟩
theorem z_sb.nN {w : z_W} {ρ a n N : Nat} (h : z_sb w ρ a n N) : n ≤ N ∧ 16 ≤ N ∧ N ≤ 5000 := ⟨h.2.2.1, h.2.2.2.1, h.2.2.2.2.1⟩
theorem sb_apK (hl : l.stackTraces = false) (w : z_W) (ρ a n N i k : Nat) (t : String × Nat × String) (hi9 : z_strs[i]? = some t) (ht9 : t.1 = "LoopdefaultsModel" ∨ t.1 = "LoopdefaultsModel$Hearer") (hk : t.2.2.length = k) (h : z_sb w ρ a n N) (hq : n + k ≤ 2 * N + 2) (hN : z_gr N (n + k) ≤ 5000) (hρ : ρ < 64) (hf : z_fn w) : z_Con G l mJ4_append_15ec4 17 (z_gr N (n + k) / 16 - N / 16) (2 * (z_gr N (n + k) - N)) w [.ref a, .retAddr (10 + i)] (fun v w9 => v = some (.ref a) ∧ z_fw ρ w w9 ∧ z_sb w9 ρ a (n + k) (z_gr N (n + k))) (fun _ _ => False) := by
  subst hk
  exact sb_apS hl w ρ a n N i t hi9 ht9 h hq hN hρ hf
theorem cm_oneA (hl : l.stackTraces = false) (w : z_W) (x : Int32) : z_Con G l mX11_one 10 0 0 w [.int x] (fun v w9 => (∃ r : Int32, v = some (.int r)) ∧ w9 = w) (fun _ _ => False) := z_weak (cm_one hl w x) (fun v w' h => by rcases h with ⟨⟨h1, -⟩ | ⟨h1, -⟩, hw⟩ <;> exact ⟨⟨_, h1⟩, hw⟩) (fun _ _ h => h)
end ZMs10
