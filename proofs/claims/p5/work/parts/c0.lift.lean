section ZPx
variable {G : z_G} {l : Launch}
theorem sp_liftX {y : z_M} {rk mc ms : Nat} {L : List z_E} {P : Nat → Option z_E} {S K : sp_S} {av : List Value} {T R : Int32} {X : String → Prop} (hW : sp_CW S L) (hav : av.map (z_rn (List.range 51)) = av) (h : z_CX G l y rk mc ms L av (fun v L' => T = 0 ∧ v = some (.int R) ∧ sp_CW K L') (fun E L' => X E ∧ L' = L)) : z_Con G l y rk mc ms (L, P) av (fun v w => T = 0 ∧ v = some (.int R) ∧ sp_CW K w.1 ∧ z_hi (L, P) w) (fun E w => X E ∧ w = (L, P)) := by
  have hc := sp_CWc hW
  refine z_weak (z_lift 51 hc.1 (by decide) hc.2 hav h (fun v L' q => ?_) (fun E L' q => ?_)) (fun v w' q => ?_) (fun E w' q => ?_)
  · obtain ⟨-, rfl, q⟩ := q
    exact ⟨(sp_CWc q).1, (sp_CWc q).2, rfl⟩
  · obtain ⟨-, rfl⟩ := q
    exact hc
  · exact ⟨q.1.1, q.1.2.1, q.1.2.2, z_hi.of (sp_CWc q.1.2.2).1 q.2⟩
  · obtain ⟨⟨q1, q2⟩, q3⟩ := q
    exact ⟨q1, Prod.ext q2 q3⟩
theorem sp_liftF {y : z_M} {rk mc ms : Nat} {L : List z_E} {P : Nat → Option z_E} {S K : sp_S} {av : List Value} {R : Int32} (hW : sp_CW S L) (hav : av.map (z_rn (List.range 51)) = av) (h : z_CF G l y rk mc ms L av (fun v L' => v = some (.int R) ∧ sp_CW K L')) : z_Con G l y rk mc ms (L, P) av (fun v w => v = some (.int R) ∧ sp_CW K w.1 ∧ z_hi (L, P) w) (fun _ _ => False) := by
  have hc := sp_CWc hW
  refine z_weak (z_lift 51 hc.1 (by decide) hc.2 hav (z_CFX (X := fun _ _ => False) h) (fun v L' q => ?_) (fun E L' q => q.elim)) (fun v w' q => ?_) (fun E w' q => q.1.elim)
  · obtain ⟨rfl, q⟩ := q
    exact ⟨(sp_CWc q).1, (sp_CWc q).2, rfl⟩
  · exact ⟨q.1.1, q.1.2, z_hi.of (sp_CWc q.1.2).1 q.2⟩
set_option maxRecDepth 100000 in
theorem px_type (hl : l.stackTraces = false) (w : z_W) (S : sp_S) (hW : sp_CW S w.1) (ok : sp_ok S) (r : Int32) (y : Int32) : z_Con G l mX8_type 20 14 120 w [.ref 0, .int r, .int y] (fun v w9 => sp_k23 r (sp_bv y) ((sp_R S (sp_i r)).length = 12) = 0 ∧ v = some (.int (nI ((sp_R S (sp_i r)) ++ [y]).length)) ∧ sp_CW (sp_uR S (sp_i r) ((sp_R S (sp_i r)) ++ [y])) w9.1 ∧ z_hi w w9) (fun E w9 => ((z_xI E ∧ sp_k23 r (sp_bv y) ((sp_R S (sp_i r)).length = 12) = 1) ∨ (z_xA E ∧ sp_k23 r (sp_bv y) ((sp_R S (sp_i r)).length = 12) = 2) ∨ (z_xS E ∧ sp_k23 r (sp_bv y) ((sp_R S (sp_i r)).length = 12) = 3)) ∧ w9 = w) := by
  obtain ⟨L, P⟩ := w
  exact sp_liftX hW rfl (sp_elX hW (fun fa fb mt ft ct f0 g0 f1 g1 c1 f2 g2 c2 f3 g3 c3 m3 f4 g4 c4 m4 f5 g5 c5 m5 ef0 ef1 hra hrb ht0 ht1 ht2 he0 he1 hzm3 hzm4 hzm5 => c_X8_type_p hl S fa fb mt ft ct f0 g0 f1 g1 c1 f2 g2 c2 f3 g3 c3 m3 f4 g4 c4 m4 f5 g5 c5 m5 ef0 ef1 r y ok hra hrb ht0 ht1 ht2 he0 he1 hzm3 hzm4 hzm5))
set_option maxRecDepth 100000 in
theorem px_drop (hl : l.stackTraces = false) (w : z_W) (S : sp_S) (hW : sp_CW S w.1) (ok : sp_ok S) (r : Int32) (m : Int32) : z_Con G l mX8_drop 20 14 120 w [.ref 0, .int r, .int m] (fun v w9 => q_k22 r (m < 1 ∨ nI (sp_R S (sp_i r)).length < m) = 0 ∧ v = some (.int (nI ((sp_R S (sp_i r)).take ((sp_R S (sp_i r)).length - sp_i m)).length)) ∧ sp_CW (sp_uR S (sp_i r) ((sp_R S (sp_i r)).take ((sp_R S (sp_i r)).length - sp_i m))) w9.1 ∧ z_hi w w9) (fun E w9 => ((z_xI E ∧ q_k22 r (m < 1 ∨ nI (sp_R S (sp_i r)).length < m) = 1) ∨ (z_xA E ∧ q_k22 r (m < 1 ∨ nI (sp_R S (sp_i r)).length < m) = 2)) ∧ w9 = w) := by
  obtain ⟨L, P⟩ := w
  exact sp_liftX hW rfl (sp_elX hW (fun fa fb mt ft ct f0 g0 f1 g1 c1 f2 g2 c2 f3 g3 c3 m3 f4 g4 c4 m4 f5 g5 c5 m5 ef0 ef1 hra hrb ht0 ht1 ht2 he0 he1 hzm3 hzm4 hzm5 => c_X8_drop_p hl S fa fb mt ft ct f0 g0 f1 g1 c1 f2 g2 c2 f3 g3 c3 m3 f4 g4 c4 m4 f5 g5 c5 m5 ef0 ef1 r m ok hra hrb ht0 ht1 ht2 he0 he1 hzm3 hzm4 hzm5))
set_option maxRecDepth 100000 in
theorem px_fix (hl : l.stackTraces = false) (w : z_W) (S : sp_S) (hW : sp_CW S w.1) (ok : sp_ok S) (r : Int32) (b : Bool) : z_Con G l mX8_fix 20 14 120 w [.ref 0, .int r, .int (z_bi b)] (fun v w9 => q_k2 r = 0 ∧ v = some (.int (z_bi (sp_F S (sp_i r)))) ∧ sp_CW (sp_uF S (sp_i r) b) w9.1 ∧ z_hi w w9) (fun E w9 => ((z_xI E ∧ q_k2 r = 1)) ∧ w9 = w) := by
  obtain ⟨L, P⟩ := w
  exact sp_liftX hW rfl (sp_elX hW (fun fa fb mt ft ct f0 g0 f1 g1 c1 f2 g2 c2 f3 g3 c3 m3 f4 g4 c4 m4 f5 g5 c5 m5 ef0 ef1 hra hrb ht0 ht1 ht2 he0 he1 hzm3 hzm4 hzm5 => c_X8_fix_p hl S fa fb mt ft ct f0 g0 f1 g1 c1 f2 g2 c2 f3 g3 c3 m3 f4 g4 c4 m4 f5 g5 c5 m5 ef0 ef1 r b ok hra hrb ht0 ht1 ht2 he0 he1 hzm3 hzm4 hzm5))
set_option maxRecDepth 100000 in
theorem px_hear (hl : l.stackTraces = false) (w : z_W) (S : sp_S) (hW : sp_CW S w.1) (ok : sp_ok S) (r : Int32) (g : Int32) : z_Con G l mX8_hear 20 14 120 w [.ref 0, .int r, .int g] (fun v w9 => sp_k2b r g = 0 ∧ v = some (.int (sp_an (sp_hr S (sp_i r) (sp_i g) 0).1)) ∧ sp_CW (sp_hrS S (sp_i r) (sp_i g) 0) w9.1 ∧ z_hi w w9) (fun E w9 => ((z_xI E ∧ sp_k2b r g = 1)) ∧ w9 = w) := by
  obtain ⟨L, P⟩ := w
  exact sp_liftX hW rfl (sp_elX hW (fun fa fb mt ft ct f0 g0 f1 g1 c1 f2 g2 c2 f3 g3 c3 m3 f4 g4 c4 m4 f5 g5 c5 m5 ef0 ef1 hra hrb ht0 ht1 ht2 he0 he1 hzm3 hzm4 hzm5 => c_X8_hear_p hl S fa fb mt ft ct f0 g0 f1 g1 c1 f2 g2 c2 f3 g3 c3 m3 f4 g4 c4 m4 f5 g5 c5 m5 ef0 ef1 r g ok hra hrb ht0 ht1 ht2 he0 he1 hzm3 hzm4 hzm5))
set_option maxRecDepth 100000 in
theorem px_rest (hl : l.stackTraces = false) (w : z_W) (S : sp_S) (hW : sp_CW S w.1) (ok : sp_ok S) (r : Int32) (a : Int32) (g : Int32) : z_Con G l mX8_rest 20 14 120 w [.ref 0, .int r, .int a, .int g] (fun v w9 => sp_k2c r g (a < 0 ∨ nI (sp_R S (sp_i r)).length < a) = 0 ∧ v = some (.int (sp_an (sp_hr S (sp_i r) (sp_i g) (sp_i a)).1)) ∧ sp_CW (sp_hrS S (sp_i r) (sp_i g) (sp_i a)) w9.1 ∧ z_hi w w9) (fun E w9 => ((z_xI E ∧ sp_k2c r g (a < 0 ∨ nI (sp_R S (sp_i r)).length < a) = 1) ∨ (z_xA E ∧ sp_k2c r g (a < 0 ∨ nI (sp_R S (sp_i r)).length < a) = 2)) ∧ w9 = w) := by
  obtain ⟨L, P⟩ := w
  exact sp_liftX hW rfl (sp_elX hW (fun fa fb mt ft ct f0 g0 f1 g1 c1 f2 g2 c2 f3 g3 c3 m3 f4 g4 c4 m4 f5 g5 c5 m5 ef0 ef1 hra hrb ht0 ht1 ht2 he0 he1 hzm3 hzm4 hzm5 => c_X8_rest_p hl S fa fb mt ft ct f0 g0 f1 g1 c1 f2 g2 c2 f3 g3 c3 m3 f4 g4 c4 m4 f5 g5 c5 m5 ef0 ef1 r a g ok hra hrb ht0 ht1 ht2 he0 he1 hzm3 hzm4 hzm5))
set_option maxRecDepth 100000 in
theorem px_removeIf (hl : l.stackTraces = false) (w : z_W) (S : sp_S) (hW : sp_CW S w.1) (ok : sp_ok S) (r : Int32) (t : Int32) (n : Int32) : z_Con G l mX8_removeIf 20 14 120 w [.ref 0, .int r, .int t, .int n] (fun v w9 => q_k22 r ((t < 0 ∨ 5 < t) ∨ sp_bv n) = 0 ∧ v = some (.int (sp_ab (sp_sft S (sp_i r) t n).1)) ∧ sp_CW (sp_sftS S (sp_i r) t n) w9.1 ∧ z_hi w w9) (fun E w9 => ((z_xI E ∧ q_k22 r ((t < 0 ∨ 5 < t) ∨ sp_bv n) = 1) ∨ (z_xA E ∧ q_k22 r ((t < 0 ∨ 5 < t) ∨ sp_bv n) = 2)) ∧ w9 = w) := by
  obtain ⟨L, P⟩ := w
  exact sp_liftX hW rfl (sp_elX hW (fun fa fb mt ft ct f0 g0 f1 g1 c1 f2 g2 c2 f3 g3 c3 m3 f4 g4 c4 m4 f5 g5 c5 m5 ef0 ef1 hra hrb ht0 ht1 ht2 he0 he1 hzm3 hzm4 hzm5 => c_X8_removeIf_p hl S fa fb mt ft ct f0 g0 f1 g1 c1 f2 g2 c2 f3 g3 c3 m3 f4 g4 c4 m4 f5 g5 c5 m5 ef0 ef1 r t n ok hra hrb ht0 ht1 ht2 he0 he1 hzm3 hzm4 hzm5))
set_option maxRecDepth 100000 in
theorem px_replaceAll (hl : l.stackTraces = false) (w : z_W) (S : sp_S) (hW : sp_CW S w.1) (ok : sp_ok S) (r : Int32) (u : Int32) (n : Int32) : z_Con G l mX8_replaceAll 20 14 120 w [.ref 0, .int r, .int u, .int n] (fun v w9 => q_k22 r (¬ (u = 0 ∨ u = 1 ∨ u = 4) ∨ sp_bv n) = 0 ∧ v = some (.int (cond (sp_chg S (sp_i r) u n).1 (nI (sp_chg S (sp_i r) u n).2.2.length) (-9))) ∧ sp_CW (sp_chgS S (sp_i r) u n) w9.1 ∧ z_hi w w9) (fun E w9 => ((z_xI E ∧ q_k22 r (¬ (u = 0 ∨ u = 1 ∨ u = 4) ∨ sp_bv n) = 1) ∨ (z_xA E ∧ q_k22 r (¬ (u = 0 ∨ u = 1 ∨ u = 4) ∨ sp_bv n) = 2)) ∧ w9 = w) := by
  obtain ⟨L, P⟩ := w
  exact sp_liftX hW rfl (sp_elX hW (fun fa fb mt ft ct f0 g0 f1 g1 c1 f2 g2 c2 f3 g3 c3 m3 f4 g4 c4 m4 f5 g5 c5 m5 ef0 ef1 hra hrb ht0 ht1 ht2 he0 he1 hzm3 hzm4 hzm5 => c_X8_replaceAll_p hl S fa fb mt ft ct f0 g0 f1 g1 c1 f2 g2 c2 f3 g3 c3 m3 f4 g4 c4 m4 f5 g5 c5 m5 ef0 ef1 r u n ok hra hrb ht0 ht1 ht2 he0 he1 hzm3 hzm4 hzm5))
set_option maxRecDepth 100000 in
theorem px_copy (hl : l.stackTraces = false) (w : z_W) (S : sp_S) (hW : sp_CW S w.1) (ok : sp_ok S) (r : Int32) : z_Con G l mX8_copy 20 14 120 w [.ref 0, .int r] (fun v w9 => q_k2 r = 0 ∧ v = some (.int (nI (sp_R S (1 - sp_i r)).length)) ∧ sp_CW (sp_uR S (sp_i r) (sp_R S (1 - sp_i r))) w9.1 ∧ z_hi w w9) (fun E w9 => ((z_xI E ∧ q_k2 r = 1)) ∧ w9 = w) := by
  obtain ⟨L, P⟩ := w
  exact sp_liftX hW rfl (sp_elX hW (fun fa fb mt ft ct f0 g0 f1 g1 c1 f2 g2 c2 f3 g3 c3 m3 f4 g4 c4 m4 f5 g5 c5 m5 ef0 ef1 hra hrb ht0 ht1 ht2 he0 he1 hzm3 hzm4 hzm5 => c_X8_copy_p hl S fa fb mt ft ct f0 g0 f1 g1 c1 f2 g2 c2 f3 g3 c3 m3 f4 g4 c4 m4 f5 g5 c5 m5 ef0 ef1 r ok hra hrb ht0 ht1 ht2 he0 he1 hzm3 hzm4 hzm5))
set_option maxRecDepth 100000 in
theorem px_put (hl : l.stackTraces = false) (w : z_W) (S : sp_S) (hW : sp_CW S w.1) (ok : sp_ok S) (t : Int32) (k : Int32) (y : Int32) : z_Con G l mX8_put 20 14 120 w [.ref 0, .int t, .int k, .int y] (fun v w9 => sp_k32 t (sp_bk k ∨ sp_bv y) = 0 ∧ v = some (.int ((sp_put (sp_srt (sp_i t)) (sp_T S (sp_i t)) (sp_C S 2) (sp_i k) y).1.getD (-9))) ∧ sp_CW (sp_tb S (sp_i t) (sp_put (sp_srt (sp_i t)) (sp_T S (sp_i t)) (sp_C S 2) (sp_i k) y)) w9.1 ∧ z_hi w w9) (fun E w9 => ((z_xI E ∧ sp_k32 t (sp_bk k ∨ sp_bv y) = 1) ∨ (z_xA E ∧ sp_k32 t (sp_bk k ∨ sp_bv y) = 2)) ∧ w9 = w) := by
  obtain ⟨L, P⟩ := w
  exact sp_liftX hW rfl (sp_elX hW (fun fa fb mt ft ct f0 g0 f1 g1 c1 f2 g2 c2 f3 g3 c3 m3 f4 g4 c4 m4 f5 g5 c5 m5 ef0 ef1 hra hrb ht0 ht1 ht2 he0 he1 hzm3 hzm4 hzm5 => c_X8_put_p hl S fa fb mt ft ct f0 g0 f1 g1 c1 f2 g2 c2 f3 g3 c3 m3 f4 g4 c4 m4 f5 g5 c5 m5 ef0 ef1 t k y ok hra hrb ht0 ht1 ht2 he0 he1 hzm3 hzm4 hzm5))
set_option maxRecDepth 100000 in
theorem px_remove (hl : l.stackTraces = false) (w : z_W) (S : sp_S) (hW : sp_CW S w.1) (ok : sp_ok S) (t : Int32) (k : Int32) : z_Con G l mX8_remove 20 14 120 w [.ref 0, .int t, .int k] (fun v w9 => sp_k32 t (sp_bk k) = 0 ∧ v = some (.int ((sp_del (sp_T S (sp_i t)) (sp_C S 2) (sp_i k)).1.getD (-9))) ∧ sp_CW (sp_tb S (sp_i t) (sp_del (sp_T S (sp_i t)) (sp_C S 2) (sp_i k))) w9.1 ∧ z_hi w w9) (fun E w9 => ((z_xI E ∧ sp_k32 t (sp_bk k) = 1) ∨ (z_xA E ∧ sp_k32 t (sp_bk k) = 2)) ∧ w9 = w) := by
  obtain ⟨L, P⟩ := w
  exact sp_liftX hW rfl (sp_elX hW (fun fa fb mt ft ct f0 g0 f1 g1 c1 f2 g2 c2 f3 g3 c3 m3 f4 g4 c4 m4 f5 g5 c5 m5 ef0 ef1 hra hrb ht0 ht1 ht2 he0 he1 hzm3 hzm4 hzm5 => c_X8_remove_p hl S fa fb mt ft ct f0 g0 f1 g1 c1 f2 g2 c2 f3 g3 c3 m3 f4 g4 c4 m4 f5 g5 c5 m5 ef0 ef1 t k ok hra hrb ht0 ht1 ht2 he0 he1 hzm3 hzm4 hzm5))
set_option maxRecDepth 100000 in
theorem px_putIfAbsent (hl : l.stackTraces = false) (w : z_W) (S : sp_S) (hW : sp_CW S w.1) (ok : sp_ok S) (t : Int32) (k : Int32) (y : Int32) : z_Con G l mX8_putIfAbsent 20 14 120 w [.ref 0, .int t, .int k, .int y] (fun v w9 => sp_k32 t (sp_bk k ∨ sp_bv y) = 0 ∧ v = some (.int ((sp_pia (sp_srt (sp_i t)) (sp_T S (sp_i t)) (sp_C S 2) (sp_i k) y).1.getD (-9))) ∧ sp_CW (sp_tb S (sp_i t) (sp_pia (sp_srt (sp_i t)) (sp_T S (sp_i t)) (sp_C S 2) (sp_i k) y)) w9.1 ∧ z_hi w w9) (fun E w9 => ((z_xI E ∧ sp_k32 t (sp_bk k ∨ sp_bv y) = 1) ∨ (z_xA E ∧ sp_k32 t (sp_bk k ∨ sp_bv y) = 2)) ∧ w9 = w) := by
  obtain ⟨L, P⟩ := w
  exact sp_liftX hW rfl (sp_elX hW (fun fa fb mt ft ct f0 g0 f1 g1 c1 f2 g2 c2 f3 g3 c3 m3 f4 g4 c4 m4 f5 g5 c5 m5 ef0 ef1 hra hrb ht0 ht1 ht2 he0 he1 hzm3 hzm4 hzm5 => c_X8_putIfAbsent_p hl S fa fb mt ft ct f0 g0 f1 g1 c1 f2 g2 c2 f3 g3 c3 m3 f4 g4 c4 m4 f5 g5 c5 m5 ef0 ef1 t k y ok hra hrb ht0 ht1 ht2 he0 he1 hzm3 hzm4 hzm5))
set_option maxRecDepth 100000 in
theorem px_replace (hl : l.stackTraces = false) (w : z_W) (S : sp_S) (hW : sp_CW S w.1) (ok : sp_ok S) (t : Int32) (k : Int32) (y : Int32) : z_Con G l mX8_replace 20 14 120 w [.ref 0, .int t, .int k, .int y] (fun v w9 => sp_k32 t (sp_bk k ∨ sp_bv y) = 0 ∧ v = some (.int ((sp_rep (sp_srt (sp_i t)) (sp_T S (sp_i t)) (sp_C S 2) (sp_i k) y).1.getD (-9))) ∧ sp_CW (sp_tb S (sp_i t) (sp_rep (sp_srt (sp_i t)) (sp_T S (sp_i t)) (sp_C S 2) (sp_i k) y)) w9.1 ∧ z_hi w w9) (fun E w9 => ((z_xI E ∧ sp_k32 t (sp_bk k ∨ sp_bv y) = 1) ∨ (z_xA E ∧ sp_k32 t (sp_bk k ∨ sp_bv y) = 2)) ∧ w9 = w) := by
  obtain ⟨L, P⟩ := w
  exact sp_liftX hW rfl (sp_elX hW (fun fa fb mt ft ct f0 g0 f1 g1 c1 f2 g2 c2 f3 g3 c3 m3 f4 g4 c4 m4 f5 g5 c5 m5 ef0 ef1 hra hrb ht0 ht1 ht2 he0 he1 hzm3 hzm4 hzm5 => c_X8_replace_p hl S fa fb mt ft ct f0 g0 f1 g1 c1 f2 g2 c2 f3 g3 c3 m3 f4 g4 c4 m4 f5 g5 c5 m5 ef0 ef1 t k y ok hra hrb ht0 ht1 ht2 he0 he1 hzm3 hzm4 hzm5))
set_option maxRecDepth 100000 in
theorem px_replaceIf (hl : l.stackTraces = false) (w : z_W) (S : sp_S) (hW : sp_CW S w.1) (ok : sp_ok S) (t : Int32) (k : Int32) (o : Int32) (y : Int32) : z_Con G l mX8_replaceIf 20 14 120 w [.ref 0, .int t, .int k, .int o, .int y] (fun v w9 => sp_k32 t (sp_bk k ∨ sp_bv o ∨ sp_bv y) = 0 ∧ v = some (.int ((sp_rif (sp_srt (sp_i t)) (sp_T S (sp_i t)) (sp_C S 2) (sp_i k) o y).1.getD (-9))) ∧ sp_CW (sp_tb S (sp_i t) (sp_rif (sp_srt (sp_i t)) (sp_T S (sp_i t)) (sp_C S 2) (sp_i k) o y)) w9.1 ∧ z_hi w w9) (fun E w9 => ((z_xI E ∧ sp_k32 t (sp_bk k ∨ sp_bv o ∨ sp_bv y) = 1) ∨ (z_xA E ∧ sp_k32 t (sp_bk k ∨ sp_bv o ∨ sp_bv y) = 2)) ∧ w9 = w) := by
  obtain ⟨L, P⟩ := w
  exact sp_liftX hW rfl (sp_elX hW (fun fa fb mt ft ct f0 g0 f1 g1 c1 f2 g2 c2 f3 g3 c3 m3 f4 g4 c4 m4 f5 g5 c5 m5 ef0 ef1 hra hrb ht0 ht1 ht2 he0 he1 hzm3 hzm4 hzm5 => c_X8_replaceIf_p hl S fa fb mt ft ct f0 g0 f1 g1 c1 f2 g2 c2 f3 g3 c3 m3 f4 g4 c4 m4 f5 g5 c5 m5 ef0 ef1 t k o y ok hra hrb ht0 ht1 ht2 he0 he1 hzm3 hzm4 hzm5))
set_option maxRecDepth 100000 in
theorem px_removePair (hl : l.stackTraces = false) (w : z_W) (S : sp_S) (hW : sp_CW S w.1) (ok : sp_ok S) (t : Int32) (k : Int32) (y : Int32) : z_Con G l mX8_removePair 20 14 120 w [.ref 0, .int t, .int k, .int y] (fun v w9 => sp_k32 t (sp_bk k ∨ sp_bv y) = 0 ∧ v = some (.int ((sp_rmp (sp_T S (sp_i t)) (sp_C S 2) (sp_i k) y).1.getD (-9))) ∧ sp_CW (sp_tb S (sp_i t) (sp_rmp (sp_T S (sp_i t)) (sp_C S 2) (sp_i k) y)) w9.1 ∧ z_hi w w9) (fun E w9 => ((z_xI E ∧ sp_k32 t (sp_bk k ∨ sp_bv y) = 1) ∨ (z_xA E ∧ sp_k32 t (sp_bk k ∨ sp_bv y) = 2)) ∧ w9 = w) := by
  obtain ⟨L, P⟩ := w
  exact sp_liftX hW rfl (sp_elX hW (fun fa fb mt ft ct f0 g0 f1 g1 c1 f2 g2 c2 f3 g3 c3 m3 f4 g4 c4 m4 f5 g5 c5 m5 ef0 ef1 hra hrb ht0 ht1 ht2 he0 he1 hzm3 hzm4 hzm5 => c_X8_removePair_p hl S fa fb mt ft ct f0 g0 f1 g1 c1 f2 g2 c2 f3 g3 c3 m3 f4 g4 c4 m4 f5 g5 c5 m5 ef0 ef1 t k y ok hra hrb ht0 ht1 ht2 he0 he1 hzm3 hzm4 hzm5))
set_option maxRecDepth 100000 in
theorem px_computeIfAbsent (hl : l.stackTraces = false) (w : z_W) (S : sp_S) (hW : sp_CW S w.1) (ok : sp_ok S) (t : Int32) (k : Int32) (r : Int32) (n : Int32) : z_Con G l mX8_computeIfAbsent 20 14 120 w [.ref 0, .int t, .int k, .int r, .int n] (fun v w9 => sp_k32 t (sp_bk k ∨ (r < 0 ∨ 5 < r) ∨ sp_bv n) = 0 ∧ v = some (.int ((sp_cia (sp_srt (sp_i t)) (sp_T S (sp_i t)) (sp_C S 2) (sp_i k) r n).1.getD (-9))) ∧ sp_CW (sp_tb S (sp_i t) (sp_cia (sp_srt (sp_i t)) (sp_T S (sp_i t)) (sp_C S 2) (sp_i k) r n)) w9.1 ∧ z_hi w w9) (fun E w9 => ((z_xI E ∧ sp_k32 t (sp_bk k ∨ (r < 0 ∨ 5 < r) ∨ sp_bv n) = 1) ∨ (z_xA E ∧ sp_k32 t (sp_bk k ∨ (r < 0 ∨ 5 < r) ∨ sp_bv n) = 2)) ∧ w9 = w) := by
  obtain ⟨L, P⟩ := w
  exact sp_liftX hW rfl (sp_elX hW (fun fa fb mt ft ct f0 g0 f1 g1 c1 f2 g2 c2 f3 g3 c3 m3 f4 g4 c4 m4 f5 g5 c5 m5 ef0 ef1 hra hrb ht0 ht1 ht2 he0 he1 hzm3 hzm4 hzm5 => c_X8_computeIfAbsent_p hl S fa fb mt ft ct f0 g0 f1 g1 c1 f2 g2 c2 f3 g3 c3 m3 f4 g4 c4 m4 f5 g5 c5 m5 ef0 ef1 t k r n ok hra hrb ht0 ht1 ht2 he0 he1 hzm3 hzm4 hzm5))
set_option maxRecDepth 100000 in
theorem px_computeIfPresent (hl : l.stackTraces = false) (w : z_W) (S : sp_S) (hW : sp_CW S w.1) (ok : sp_ok S) (t : Int32) (k : Int32) (r : Int32) (n : Int32) : z_Con G l mX8_computeIfPresent 20 14 120 w [.ref 0, .int t, .int k, .int r, .int n] (fun v w9 => sp_k32 t (sp_bk k ∨ (r < 0 ∨ 5 < r) ∨ sp_bv n) = 0 ∧ v = some (.int ((sp_cip (sp_srt (sp_i t)) (sp_T S (sp_i t)) (sp_C S 2) (sp_i k) r n).1.getD (-9))) ∧ sp_CW (sp_tb S (sp_i t) (sp_cip (sp_srt (sp_i t)) (sp_T S (sp_i t)) (sp_C S 2) (sp_i k) r n)) w9.1 ∧ z_hi w w9) (fun E w9 => ((z_xI E ∧ sp_k32 t (sp_bk k ∨ (r < 0 ∨ 5 < r) ∨ sp_bv n) = 1) ∨ (z_xA E ∧ sp_k32 t (sp_bk k ∨ (r < 0 ∨ 5 < r) ∨ sp_bv n) = 2)) ∧ w9 = w) := by
  obtain ⟨L, P⟩ := w
  exact sp_liftX hW rfl (sp_elX hW (fun fa fb mt ft ct f0 g0 f1 g1 c1 f2 g2 c2 f3 g3 c3 m3 f4 g4 c4 m4 f5 g5 c5 m5 ef0 ef1 hra hrb ht0 ht1 ht2 he0 he1 hzm3 hzm4 hzm5 => c_X8_computeIfPresent_p hl S fa fb mt ft ct f0 g0 f1 g1 c1 f2 g2 c2 f3 g3 c3 m3 f4 g4 c4 m4 f5 g5 c5 m5 ef0 ef1 t k r n ok hra hrb ht0 ht1 ht2 he0 he1 hzm3 hzm4 hzm5))
set_option maxRecDepth 100000 in
theorem px_compute (hl : l.stackTraces = false) (w : z_W) (S : sp_S) (hW : sp_CW S w.1) (ok : sp_ok S) (t : Int32) (k : Int32) (r : Int32) (n : Int32) : z_Con G l mX8_compute 20 14 120 w [.ref 0, .int t, .int k, .int r, .int n] (fun v w9 => sp_k32 t (sp_bk k ∨ (r < 0 ∨ 5 < r) ∨ sp_bv n) = 0 ∧ v = some (.int ((sp_cmp (sp_srt (sp_i t)) (sp_T S (sp_i t)) (sp_C S 2) (sp_i k) r n).1.getD (-9))) ∧ sp_CW (sp_tb S (sp_i t) (sp_cmp (sp_srt (sp_i t)) (sp_T S (sp_i t)) (sp_C S 2) (sp_i k) r n)) w9.1 ∧ z_hi w w9) (fun E w9 => ((z_xI E ∧ sp_k32 t (sp_bk k ∨ (r < 0 ∨ 5 < r) ∨ sp_bv n) = 1) ∨ (z_xA E ∧ sp_k32 t (sp_bk k ∨ (r < 0 ∨ 5 < r) ∨ sp_bv n) = 2)) ∧ w9 = w) := by
  obtain ⟨L, P⟩ := w
  exact sp_liftX hW rfl (sp_elX hW (fun fa fb mt ft ct f0 g0 f1 g1 c1 f2 g2 c2 f3 g3 c3 m3 f4 g4 c4 m4 f5 g5 c5 m5 ef0 ef1 hra hrb ht0 ht1 ht2 he0 he1 hzm3 hzm4 hzm5 => c_X8_compute_p hl S fa fb mt ft ct f0 g0 f1 g1 c1 f2 g2 c2 f3 g3 c3 m3 f4 g4 c4 m4 f5 g5 c5 m5 ef0 ef1 t k r n ok hra hrb ht0 ht1 ht2 he0 he1 hzm3 hzm4 hzm5))
set_option maxRecDepth 100000 in
theorem px_merge (hl : l.stackTraces = false) (w : z_W) (S : sp_S) (hW : sp_CW S w.1) (ok : sp_ok S) (t : Int32) (k : Int32) (y : Int32) (r : Int32) : z_Con G l mX8_merge 20 14 120 w [.ref 0, .int t, .int k, .int y, .int r] (fun v w9 => sp_k32 t (sp_bk k ∨ (r < 0 ∨ 5 < r) ∨ sp_bv y) = 0 ∧ v = some (.int ((sp_mrg (sp_srt (sp_i t)) (sp_T S (sp_i t)) (sp_C S 2) (sp_i k) y r).1.getD (-9))) ∧ sp_CW (sp_tb S (sp_i t) (sp_mrg (sp_srt (sp_i t)) (sp_T S (sp_i t)) (sp_C S 2) (sp_i k) y r)) w9.1 ∧ z_hi w w9) (fun E w9 => ((z_xI E ∧ sp_k32 t (sp_bk k ∨ (r < 0 ∨ 5 < r) ∨ sp_bv y) = 1) ∨ (z_xA E ∧ sp_k32 t (sp_bk k ∨ (r < 0 ∨ 5 < r) ∨ sp_bv y) = 2)) ∧ w9 = w) := by
  obtain ⟨L, P⟩ := w
  exact sp_liftX hW rfl (sp_elX hW (fun fa fb mt ft ct f0 g0 f1 g1 c1 f2 g2 c2 f3 g3 c3 m3 f4 g4 c4 m4 f5 g5 c5 m5 ef0 ef1 hra hrb ht0 ht1 ht2 he0 he1 hzm3 hzm4 hzm5 => c_X8_merge_p hl S fa fb mt ft ct f0 g0 f1 g1 c1 f2 g2 c2 f3 g3 c3 m3 f4 g4 c4 m4 f5 g5 c5 m5 ef0 ef1 t k y r ok hra hrb ht0 ht1 ht2 he0 he1 hzm3 hzm4 hzm5))
set_option maxRecDepth 100000 in
theorem px_hearTable (hl : l.stackTraces = false) (w : z_W) (S : sp_S) (hW : sp_CW S w.1) (ok : sp_ok S) (t : Int32) (g : Int32) : z_Con G l mX8_hearTable 20 14 120 w [.ref 0, .int t, .int g] (fun v w9 => sp_k3b t g = 0 ∧ v = some (.int (sp_an (sp_htb S (sp_i t) (sp_i g)).1)) ∧ sp_CW (sp_htbS S (sp_i t) (sp_i g)) w9.1 ∧ z_hi w w9) (fun E w9 => ((z_xI E ∧ sp_k3b t g = 1)) ∧ w9 = w) := by
  obtain ⟨L, P⟩ := w
  exact sp_liftX hW rfl (sp_elX hW (fun fa fb mt ft ct f0 g0 f1 g1 c1 f2 g2 c2 f3 g3 c3 m3 f4 g4 c4 m4 f5 g5 c5 m5 ef0 ef1 hra hrb ht0 ht1 ht2 he0 he1 hzm3 hzm4 hzm5 => c_X8_hearTable_p hl S fa fb mt ft ct f0 g0 f1 g1 c1 f2 g2 c2 f3 g3 c3 m3 f4 g4 c4 m4 f5 g5 c5 m5 ef0 ef1 t g ok hra hrb ht0 ht1 ht2 he0 he1 hzm3 hzm4 hzm5))
set_option maxRecDepth 100000 in
theorem px_replaceTable (hl : l.stackTraces = false) (w : z_W) (S : sp_S) (hW : sp_CW S w.1) (ok : sp_ok S) (t : Int32) (r : Int32) (n : Int32) : z_Con G l mX8_replaceTable 20 14 120 w [.ref 0, .int t, .int r, .int n] (fun v w9 => sp_k32 t (¬ (r = 0 ∨ r = 1 ∨ r = 4 ∨ r = 5) ∨ sp_bv n) = 0 ∧ v = some (.int (cond (sp_ctb S (sp_i t) r n).1 (nI (sp_ctb S (sp_i t) r n).2.2.length) (-9))) ∧ sp_CW (sp_ctbS S (sp_i t) r n) w9.1 ∧ z_hi w w9) (fun E w9 => ((z_xI E ∧ sp_k32 t (¬ (r = 0 ∨ r = 1 ∨ r = 4 ∨ r = 5) ∨ sp_bv n) = 1) ∨ (z_xA E ∧ sp_k32 t (¬ (r = 0 ∨ r = 1 ∨ r = 4 ∨ r = 5) ∨ sp_bv n) = 2)) ∧ w9 = w) := by
  obtain ⟨L, P⟩ := w
  exact sp_liftX hW rfl (sp_elX hW (fun fa fb mt ft ct f0 g0 f1 g1 c1 f2 g2 c2 f3 g3 c3 m3 f4 g4 c4 m4 f5 g5 c5 m5 ef0 ef1 hra hrb ht0 ht1 ht2 he0 he1 hzm3 hzm4 hzm5 => c_X8_replaceTable_p hl S fa fb mt ft ct f0 g0 f1 g1 c1 f2 g2 c2 f3 g3 c3 m3 f4 g4 c4 m4 f5 g5 c5 m5 ef0 ef1 t r n ok hra hrb ht0 ht1 ht2 he0 he1 hzm3 hzm4 hzm5))
set_option maxRecDepth 100000 in
theorem px_clear (hl : l.stackTraces = false) (w : z_W) (S : sp_S) (hW : sp_CW S w.1) (ok : sp_ok S) (t : Int32) : z_Con G l mX8_clear 20 14 120 w [.ref 0, .int t] (fun v w9 => sp_k3 t = 0 ∧ v = some (.int (nI (sp_T S (sp_i t)).length)) ∧ sp_CW (sp_uT S (sp_i t) []) w9.1 ∧ z_hi w w9) (fun E w9 => ((z_xI E ∧ sp_k3 t = 1)) ∧ w9 = w) := by
  obtain ⟨L, P⟩ := w
  exact sp_liftX hW rfl (sp_elX hW (fun fa fb mt ft ct f0 g0 f1 g1 c1 f2 g2 c2 f3 g3 c3 m3 f4 g4 c4 m4 f5 g5 c5 m5 ef0 ef1 hra hrb ht0 ht1 ht2 he0 he1 hzm3 hzm4 hzm5 => c_X8_clear_p hl S fa fb mt ft ct f0 g0 f1 g1 c1 f2 g2 c2 f3 g3 c3 m3 f4 g4 c4 m4 f5 g5 c5 m5 ef0 ef1 t ok hra hrb ht0 ht1 ht2 he0 he1 hzm3 hzm4 hzm5))
set_option maxRecDepth 100000 in
theorem px_hearSpan (hl : l.stackTraces = false) (w : z_W) (S : sp_S) (hW : sp_CW S w.1) (ok : sp_ok S) (a : Int32) (b : Int32) (c : Int32) (g : Int32) : z_Con G l mX8_hearSpan 20 14 120 w [.ref 0, .int a, .int b, .int c, .int g] (fun v w9 => q_k22 g (sp_bsp a b c) = 0 ∧ v = some (.int (sp_an (sp_hsp S a b c 0 (sp_i g)).1)) ∧ sp_CW (sp_hspS S a b c 0 (sp_i g)) w9.1 ∧ z_hi w w9) (fun E w9 => ((z_xI E ∧ q_k22 g (sp_bsp a b c) = 1) ∨ (z_xA E ∧ q_k22 g (sp_bsp a b c) = 2)) ∧ w9 = w) := by
  obtain ⟨L, P⟩ := w
  exact sp_liftX hW rfl (sp_elX hW (fun fa fb mt ft ct f0 g0 f1 g1 c1 f2 g2 c2 f3 g3 c3 m3 f4 g4 c4 m4 f5 g5 c5 m5 ef0 ef1 hra hrb ht0 ht1 ht2 he0 he1 hzm3 hzm4 hzm5 => c_X8_hearSpan_p hl S fa fb mt ft ct f0 g0 f1 g1 c1 f2 g2 c2 f3 g3 c3 m3 f4 g4 c4 m4 f5 g5 c5 m5 ef0 ef1 a b c g ok hra hrb ht0 ht1 ht2 he0 he1 hzm3 hzm4 hzm5))
set_option maxRecDepth 100000 in
theorem px_hearSteps (hl : l.stackTraces = false) (w : z_W) (S : sp_S) (hW : sp_CW S w.1) (ok : sp_ok S) (a : Int32) (b : Int32) (c : Int32) (d : Int32) (g : Int32) : z_Con G l mX8_hearSteps 20 14 120 w [.ref 0, .int a, .int b, .int c, .int d, .int g] (fun v w9 => q_k22 g (sp_bsp a b c ∨ (d < 0 ∨ z_mny a b c < d)) = 0 ∧ v = some (.int (sp_an (sp_hsp S a b c (sp_i d) (sp_i g)).1)) ∧ sp_CW (sp_hspS S a b c (sp_i d) (sp_i g)) w9.1 ∧ z_hi w w9) (fun E w9 => ((z_xI E ∧ q_k22 g (sp_bsp a b c ∨ (d < 0 ∨ z_mny a b c < d)) = 1) ∨ (z_xA E ∧ q_k22 g (sp_bsp a b c ∨ (d < 0 ∨ z_mny a b c < d)) = 2)) ∧ w9 = w) := by
  obtain ⟨L, P⟩ := w
  exact sp_liftX hW rfl (sp_elX hW (fun fa fb mt ft ct f0 g0 f1 g1 c1 f2 g2 c2 f3 g3 c3 m3 f4 g4 c4 m4 f5 g5 c5 m5 ef0 ef1 hra hrb ht0 ht1 ht2 he0 he1 hzm3 hzm4 hzm5 => c_X8_hearSteps_p hl S fa fb mt ft ct f0 g0 f1 g1 c1 f2 g2 c2 f3 g3 c3 m3 f4 g4 c4 m4 f5 g5 c5 m5 ef0 ef1 a b c d g ok hra hrb ht0 ht1 ht2 he0 he1 hzm3 hzm4 hzm5))
set_option maxRecDepth 100000 in
theorem px_takeStep (hl : l.stackTraces = false) (w : z_W) (S : sp_S) (hW : sp_CW S w.1) (ok : sp_ok S) (a : Int32) (b : Int32) : z_Con G l mX8_takeStep 20 14 120 w [.ref 0, .int a, .int b] (fun v w9 => q_k1 (sp_bv b ∨ (a < -999 ∨ b < a)) = 0 ∧ v = some (.int ((-9 : Int32))) ∧ sp_CW (sp_nine S) w9.1 ∧ z_hi w w9) (fun E w9 => ((z_xA E ∧ q_k1 (sp_bv b ∨ (a < -999 ∨ b < a)) = 1)) ∧ w9 = w) := by
  obtain ⟨L, P⟩ := w
  exact sp_liftX hW rfl (sp_elX hW (fun fa fb mt ft ct f0 g0 f1 g1 c1 f2 g2 c2 f3 g3 c3 m3 f4 g4 c4 m4 f5 g5 c5 m5 ef0 ef1 hra hrb ht0 ht1 ht2 he0 he1 hzm3 hzm4 hzm5 => c_X8_takeStep_p hl S fa fb mt ft ct f0 g0 f1 g1 c1 f2 g2 c2 f3 g3 c3 m3 f4 g4 c4 m4 f5 g5 c5 m5 ef0 ef1 a b ok hra hrb ht0 ht1 ht2 he0 he1 hzm3 hzm4 hzm5))
set_option maxRecDepth 100000 in
theorem px_stop (hl : l.stackTraces = false) (w : z_W) (S : sp_S) (hW : sp_CW S w.1) (ok : sp_ok S) (g : Int32) (n : Int32) : z_Con G l mX8_stop 20 14 120 w [.ref 0, .int g, .int n] (fun v w9 => q_k22 g (n < -1000 ∨ 99999 < n) = 0 ∧ v = some (.int ((sp_E S (sp_i g)).1.1)) ∧ sp_CW (sp_uE S (sp_i g) (sp_stp' (sp_E S (sp_i g)) n)) w9.1 ∧ z_hi w w9) (fun E w9 => ((z_xI E ∧ q_k22 g (n < -1000 ∨ 99999 < n) = 1) ∨ (z_xA E ∧ q_k22 g (n < -1000 ∨ 99999 < n) = 2)) ∧ w9 = w) := by
  obtain ⟨L, P⟩ := w
  exact sp_liftX hW rfl (sp_elX hW (fun fa fb mt ft ct f0 g0 f1 g1 c1 f2 g2 c2 f3 g3 c3 m3 f4 g4 c4 m4 f5 g5 c5 m5 ef0 ef1 hra hrb ht0 ht1 ht2 he0 he1 hzm3 hzm4 hzm5 => c_X8_stop_p hl S fa fb mt ft ct f0 g0 f1 g1 c1 f2 g2 c2 f3 g3 c3 m3 f4 g4 c4 m4 f5 g5 c5 m5 ef0 ef1 g n ok hra hrb ht0 ht1 ht2 he0 he1 hzm3 hzm4 hzm5))
set_option maxRecDepth 100000 in
theorem px_forget (hl : l.stackTraces = false) (w : z_W) (S : sp_S) (hW : sp_CW S w.1) (ok : sp_ok S) (g : Int32) : z_Con G l mX8_forget 20 14 120 w [.ref 0, .int g] (fun v w9 => q_k2 g = 0 ∧ v = some (.int ((sp_E S (sp_i g)).1.2.1)) ∧ sp_CW (sp_uE S (sp_i g) (sp_fgt (sp_E S (sp_i g)))) w9.1 ∧ z_hi w w9) (fun E w9 => ((z_xI E ∧ q_k2 g = 1)) ∧ w9 = w) := by
  obtain ⟨L, P⟩ := w
  exact sp_liftX hW rfl (sp_elX hW (fun fa fb mt ft ct f0 g0 f1 g1 c1 f2 g2 c2 f3 g3 c3 m3 f4 g4 c4 m4 f5 g5 c5 m5 ef0 ef1 hra hrb ht0 ht1 ht2 he0 he1 hzm3 hzm4 hzm5 => c_X8_forget_p hl S fa fb mt ft ct f0 g0 f1 g1 c1 f2 g2 c2 f3 g3 c3 m3 f4 g4 c4 m4 f5 g5 c5 m5 ef0 ef1 g ok hra hrb ht0 ht1 ht2 he0 he1 hzm3 hzm4 hzm5))
set_option maxRecDepth 100000 in
theorem px_heard (hl : l.stackTraces = false) (w : z_W) (S : sp_S) (hW : sp_CW S w.1) (ok : sp_ok S) (g : Int32) (w0 : Int32) : z_Con G l mX8_heard 20 14 120 w [.ref 0, .int g, .int w0] (fun v w9 => q_k22 g (w0 < 0 ∨ 3 < w0) = 0 ∧ v = some (.int (sp_tel (sp_E S (sp_i g)) w0)) ∧ sp_CW (S) w9.1 ∧ z_hi w w9) (fun E w9 => ((z_xI E ∧ q_k22 g (w0 < 0 ∨ 3 < w0) = 1) ∨ (z_xA E ∧ q_k22 g (w0 < 0 ∨ 3 < w0) = 2)) ∧ w9 = w) := by
  obtain ⟨L, P⟩ := w
  exact sp_liftX hW rfl (sp_elX hW (fun fa fb mt ft ct f0 g0 f1 g1 c1 f2 g2 c2 f3 g3 c3 m3 f4 g4 c4 m4 f5 g5 c5 m5 ef0 ef1 hra hrb ht0 ht1 ht2 he0 he1 hzm3 hzm4 hzm5 => c_X8_heard_p hl S fa fb mt ft ct f0 g0 f1 g1 c1 f2 g2 c2 f3 g3 c3 m3 f4 g4 c4 m4 f5 g5 c5 m5 ef0 ef1 g w0 ok hra hrb ht0 ht1 ht2 he0 he1 hzm3 hzm4 hzm5))
set_option maxRecDepth 100000 in
theorem px_length (hl : l.stackTraces = false) (w : z_W) (S : sp_S) (hW : sp_CW S w.1) (ok : sp_ok S) (r : Int32) : z_Con G l mX8_length 20 14 120 w [.ref 0, .int r] (fun v w9 => q_k2 r = 0 ∧ v = some (.int (nI (sp_R S (sp_i r)).length)) ∧ sp_CW (S) w9.1 ∧ z_hi w w9) (fun E w9 => ((z_xI E ∧ q_k2 r = 1)) ∧ w9 = w) := by
  obtain ⟨L, P⟩ := w
  exact sp_liftX hW rfl (sp_elX hW (fun fa fb mt ft ct f0 g0 f1 g1 c1 f2 g2 c2 f3 g3 c3 m3 f4 g4 c4 m4 f5 g5 c5 m5 ef0 ef1 hra hrb ht0 ht1 ht2 he0 he1 hzm3 hzm4 hzm5 => c_X8_length_p hl S fa fb mt ft ct f0 g0 f1 g1 c1 f2 g2 c2 f3 g3 c3 m3 f4 g4 c4 m4 f5 g5 c5 m5 ef0 ef1 r ok hra hrb ht0 ht1 ht2 he0 he1 hzm3 hzm4 hzm5))
set_option maxRecDepth 100000 in
theorem px_at (hl : l.stackTraces = false) (w : z_W) (S : sp_S) (hW : sp_CW S w.1) (ok : sp_ok S) (r : Int32) (p : Int32) : z_Con G l mX8_at 20 14 120 w [.ref 0, .int r, .int p] (fun v w9 => sp_k21 r (p < 0 ∨ nI (sp_R S (sp_i r)).length - 1 < p) = 0 ∧ v = some (.int (((sp_R S (sp_i r))[sp_i p]?).getD 0)) ∧ sp_CW (S) w9.1 ∧ z_hi w w9) (fun E w9 => ((z_xI E ∧ sp_k21 r (p < 0 ∨ nI (sp_R S (sp_i r)).length - 1 < p) = 1)) ∧ w9 = w) := by
  obtain ⟨L, P⟩ := w
  exact sp_liftX hW rfl (sp_elX hW (fun fa fb mt ft ct f0 g0 f1 g1 c1 f2 g2 c2 f3 g3 c3 m3 f4 g4 c4 m4 f5 g5 c5 m5 ef0 ef1 hra hrb ht0 ht1 ht2 he0 he1 hzm3 hzm4 hzm5 => c_X8_at_p hl S fa fb mt ft ct f0 g0 f1 g1 c1 f2 g2 c2 f3 g3 c3 m3 f4 g4 c4 m4 f5 g5 c5 m5 ef0 ef1 r p ok hra hrb ht0 ht1 ht2 he0 he1 hzm3 hzm4 hzm5))
set_option maxRecDepth 100000 in
theorem px_isFixed (hl : l.stackTraces = false) (w : z_W) (S : sp_S) (hW : sp_CW S w.1) (ok : sp_ok S) (r : Int32) : z_Con G l mX8_isFixed 20 14 120 w [.ref 0, .int r] (fun v w9 => q_k2 r = 0 ∧ v = some (.int (z_bi (sp_F S (sp_i r)))) ∧ sp_CW (S) w9.1 ∧ z_hi w w9) (fun E w9 => ((z_xI E ∧ q_k2 r = 1)) ∧ w9 = w) := by
  obtain ⟨L, P⟩ := w
  exact sp_liftX hW rfl (sp_elX hW (fun fa fb mt ft ct f0 g0 f1 g1 c1 f2 g2 c2 f3 g3 c3 m3 f4 g4 c4 m4 f5 g5 c5 m5 ef0 ef1 hra hrb ht0 ht1 ht2 he0 he1 hzm3 hzm4 hzm5 => c_X8_isFixed_p hl S fa fb mt ft ct f0 g0 f1 g1 c1 f2 g2 c2 f3 g3 c3 m3 f4 g4 c4 m4 f5 g5 c5 m5 ef0 ef1 r ok hra hrb ht0 ht1 ht2 he0 he1 hzm3 hzm4 hzm5))
set_option maxRecDepth 100000 in
theorem px_counts (hl : l.stackTraces = false) (w : z_W) (S : sp_S) (hW : sp_CW S w.1) (ok : sp_ok S) (r : Int32) (w0 : Int32) : z_Con G l mX8_counts 20 14 120 w [.ref 0, .int r, .int w0] (fun v w9 => q_k22 r (w0 < 0 ∨ 4 < w0) = 0 ∧ v = some (.int (sp_C S (sp_i r) (sp_i w0))) ∧ sp_CW (S) w9.1 ∧ z_hi w w9) (fun E w9 => ((z_xI E ∧ q_k22 r (w0 < 0 ∨ 4 < w0) = 1) ∨ (z_xA E ∧ q_k22 r (w0 < 0 ∨ 4 < w0) = 2)) ∧ w9 = w) := by
  obtain ⟨L, P⟩ := w
  exact sp_liftX hW rfl (sp_elX hW (fun fa fb mt ft ct f0 g0 f1 g1 c1 f2 g2 c2 f3 g3 c3 m3 f4 g4 c4 m4 f5 g5 c5 m5 ef0 ef1 hra hrb ht0 ht1 ht2 he0 he1 hzm3 hzm4 hzm5 => c_X8_counts_p hl S fa fb mt ft ct f0 g0 f1 g1 c1 f2 g2 c2 f3 g3 c3 m3 f4 g4 c4 m4 f5 g5 c5 m5 ef0 ef1 r w0 ok hra hrb ht0 ht1 ht2 he0 he1 hzm3 hzm4 hzm5))
set_option maxRecDepth 100000 in
theorem px_shelfCounts (hl : l.stackTraces = false) (w : z_W) (S : sp_S) (hW : sp_CW S w.1) (ok : sp_ok S) (w0 : Int32) : z_Con G l mX8_shelfCounts 20 14 120 w [.ref 0, .int w0] (fun v w9 => q_k1 (w0 < 0 ∨ 6 < w0) = 0 ∧ v = some (.int (sp_C S 2 (sp_i w0))) ∧ sp_CW (S) w9.1 ∧ z_hi w w9) (fun E w9 => ((z_xA E ∧ q_k1 (w0 < 0 ∨ 6 < w0) = 1)) ∧ w9 = w) := by
  obtain ⟨L, P⟩ := w
  exact sp_liftX hW rfl (sp_elX hW (fun fa fb mt ft ct f0 g0 f1 g1 c1 f2 g2 c2 f3 g3 c3 m3 f4 g4 c4 m4 f5 g5 c5 m5 ef0 ef1 hra hrb ht0 ht1 ht2 he0 he1 hzm3 hzm4 hzm5 => c_X8_shelfCounts_p hl S fa fb mt ft ct f0 g0 f1 g1 c1 f2 g2 c2 f3 g3 c3 m3 f4 g4 c4 m4 f5 g5 c5 m5 ef0 ef1 w0 ok hra hrb ht0 ht1 ht2 he0 he1 hzm3 hzm4 hzm5))
set_option maxRecDepth 100000 in
theorem px_forgetCounts (hl : l.stackTraces = false) (w : z_W) (S : sp_S) (hW : sp_CW S w.1) (ok : sp_ok S) : z_Con G l mX8_forgetCounts 20 14 120 w [.ref 0] (fun v w9 => v = some (.int (sp_cs S)) ∧ sp_CW (sp_csS S) w9.1 ∧ z_hi w w9) (fun _ _ => False) := by
  obtain ⟨L, P⟩ := w
  exact sp_liftF hW rfl (sp_elF hW (fun fa fb mt ft ct f0 g0 f1 g1 c1 f2 g2 c2 f3 g3 c3 m3 f4 g4 c4 m4 f5 g5 c5 m5 ef0 ef1 hra hrb ht0 ht1 ht2 he0 he1 hzm3 hzm4 hzm5 => c_X8_forgetCounts_p hl S fa fb mt ft ct f0 g0 f1 g1 c1 f2 g2 c2 f3 g3 c3 m3 f4 g4 c4 m4 f5 g5 c5 m5 ef0 ef1 ok hra hrb ht0 ht1 ht2 he0 he1 hzm3 hzm4 hzm5))
set_option maxRecDepth 100000 in
theorem px_get (hl : l.stackTraces = false) (w : z_W) (S : sp_S) (hW : sp_CW S w.1) (ok : sp_ok S) (t : Int32) (k : Int32) : z_Con G l mX8_get 20 14 120 w [.ref 0, .int t, .int k] (fun v w9 => sp_k32 t (sp_bk k) = 0 ∧ v = some (.int (sp_lk (sp_T S (sp_i t)) (sp_i k))) ∧ sp_CW (S) w9.1 ∧ z_hi w w9) (fun E w9 => ((z_xI E ∧ sp_k32 t (sp_bk k) = 1) ∨ (z_xA E ∧ sp_k32 t (sp_bk k) = 2)) ∧ w9 = w) := by
  obtain ⟨L, P⟩ := w
  exact sp_liftX hW rfl (sp_elX hW (fun fa fb mt ft ct f0 g0 f1 g1 c1 f2 g2 c2 f3 g3 c3 m3 f4 g4 c4 m4 f5 g5 c5 m5 ef0 ef1 hra hrb ht0 ht1 ht2 he0 he1 hzm3 hzm4 hzm5 => c_X8_get_p hl S fa fb mt ft ct f0 g0 f1 g1 c1 f2 g2 c2 f3 g3 c3 m3 f4 g4 c4 m4 f5 g5 c5 m5 ef0 ef1 t k ok hra hrb ht0 ht1 ht2 he0 he1 hzm3 hzm4 hzm5))
set_option maxRecDepth 100000 in
theorem px_getOr (hl : l.stackTraces = false) (w : z_W) (S : sp_S) (hW : sp_CW S w.1) (ok : sp_ok S) (t : Int32) (k : Int32) (y : Int32) : z_Con G l mX8_getOr 20 14 120 w [.ref 0, .int t, .int k, .int y] (fun v w9 => sp_k32 t (sp_bk k ∨ sp_bv y) = 0 ∧ v = some (.int ((if sp_lk (sp_T S (sp_i t)) (sp_i k) = -1000 then y else sp_lk (sp_T S (sp_i t)) (sp_i k)))) ∧ sp_CW (S) w9.1 ∧ z_hi w w9) (fun E w9 => ((z_xI E ∧ sp_k32 t (sp_bk k ∨ sp_bv y) = 1) ∨ (z_xA E ∧ sp_k32 t (sp_bk k ∨ sp_bv y) = 2)) ∧ w9 = w) := by
  obtain ⟨L, P⟩ := w
  exact sp_liftX hW rfl (sp_elX hW (fun fa fb mt ft ct f0 g0 f1 g1 c1 f2 g2 c2 f3 g3 c3 m3 f4 g4 c4 m4 f5 g5 c5 m5 ef0 ef1 hra hrb ht0 ht1 ht2 he0 he1 hzm3 hzm4 hzm5 => c_X8_getOr_p hl S fa fb mt ft ct f0 g0 f1 g1 c1 f2 g2 c2 f3 g3 c3 m3 f4 g4 c4 m4 f5 g5 c5 m5 ef0 ef1 t k y ok hra hrb ht0 ht1 ht2 he0 he1 hzm3 hzm4 hzm5))
set_option maxRecDepth 100000 in
theorem px_has (hl : l.stackTraces = false) (w : z_W) (S : sp_S) (hW : sp_CW S w.1) (ok : sp_ok S) (t : Int32) (k : Int32) : z_Con G l mX8_has 20 14 120 w [.ref 0, .int t, .int k] (fun v w9 => sp_k32 t (sp_bk k) = 0 ∧ v = some (.int (z_bi (!(decide (sp_lk (sp_T S (sp_i t)) (sp_i k) = -1000))))) ∧ sp_CW (S) w9.1 ∧ z_hi w w9) (fun E w9 => ((z_xI E ∧ sp_k32 t (sp_bk k) = 1) ∨ (z_xA E ∧ sp_k32 t (sp_bk k) = 2)) ∧ w9 = w) := by
  obtain ⟨L, P⟩ := w
  exact sp_liftX hW rfl (sp_elX hW (fun fa fb mt ft ct f0 g0 f1 g1 c1 f2 g2 c2 f3 g3 c3 m3 f4 g4 c4 m4 f5 g5 c5 m5 ef0 ef1 hra hrb ht0 ht1 ht2 he0 he1 hzm3 hzm4 hzm5 => c_X8_has_p hl S fa fb mt ft ct f0 g0 f1 g1 c1 f2 g2 c2 f3 g3 c3 m3 f4 g4 c4 m4 f5 g5 c5 m5 ef0 ef1 t k ok hra hrb ht0 ht1 ht2 he0 he1 hzm3 hzm4 hzm5))
set_option maxRecDepth 100000 in
theorem px_size (hl : l.stackTraces = false) (w : z_W) (S : sp_S) (hW : sp_CW S w.1) (ok : sp_ok S) (t : Int32) : z_Con G l mX8_size 20 14 120 w [.ref 0, .int t] (fun v w9 => sp_k3 t = 0 ∧ v = some (.int (nI (sp_T S (sp_i t)).length)) ∧ sp_CW (S) w9.1 ∧ z_hi w w9) (fun E w9 => ((z_xI E ∧ sp_k3 t = 1)) ∧ w9 = w) := by
  obtain ⟨L, P⟩ := w
  exact sp_liftX hW rfl (sp_elX hW (fun fa fb mt ft ct f0 g0 f1 g1 c1 f2 g2 c2 f3 g3 c3 m3 f4 g4 c4 m4 f5 g5 c5 m5 ef0 ef1 hra hrb ht0 ht1 ht2 he0 he1 hzm3 hzm4 hzm5 => c_X8_size_p hl S fa fb mt ft ct f0 g0 f1 g1 c1 f2 g2 c2 f3 g3 c3 m3 f4 g4 c4 m4 f5 g5 c5 m5 ef0 ef1 t ok hra hrb ht0 ht1 ht2 he0 he1 hzm3 hzm4 hzm5))
set_option maxRecDepth 100000 in
theorem px_areLike (hl : l.stackTraces = false) (w : z_W) (S : sp_S) (hW : sp_CW S w.1) (ok : sp_ok S) (t : Int32) (u : Int32) : z_Con G l mX8_areLike 20 14 120 w [.ref 0, .int t, .int u] (fun v w9 => sp_k33 t u = 0 ∧ v = some (.int (z_bi (sp_lik (sp_T S (sp_i t)) (sp_T S (sp_i u))))) ∧ sp_CW (S) w9.1 ∧ z_hi w w9) (fun E w9 => ((z_xI E ∧ sp_k33 t u = 1)) ∧ w9 = w) := by
  obtain ⟨L, P⟩ := w
  exact sp_liftX hW rfl (sp_elX hW (fun fa fb mt ft ct f0 g0 f1 g1 c1 f2 g2 c2 f3 g3 c3 m3 f4 g4 c4 m4 f5 g5 c5 m5 ef0 ef1 hra hrb ht0 ht1 ht2 he0 he1 hzm3 hzm4 hzm5 => c_X8_areLike_p hl S fa fb mt ft ct f0 g0 f1 g1 c1 f2 g2 c2 f3 g3 c3 m3 f4 g4 c4 m4 f5 g5 c5 m5 ef0 ef1 t u ok hra hrb ht0 ht1 ht2 he0 he1 hzm3 hzm4 hzm5))
set_option maxRecDepth 100000 in
theorem px_given (hl : l.stackTraces = false) (w : z_W) (S : sp_S) (hW : sp_CW S w.1) (ok : sp_ok S) (r : Int32) (k : Int32) (y : Int32) (n : Int32) : z_Con G l mX8_given 20 14 120 w [.ref 0, .int r, .int k, .int y, .int n] (fun v w9 => q_k1 (sp_bk k ∨ (y < -1000 ∨ 999 < y) ∨ (r < 0 ∨ 5 < r) ∨ sp_bv n) = 0 ∧ v = some (.int ((q_rt r k (q_d y) n).getD (-9))) ∧ sp_CW (S) w9.1 ∧ z_hi w w9) (fun E w9 => ((z_xA E ∧ q_k1 (sp_bk k ∨ (y < -1000 ∨ 999 < y) ∨ (r < 0 ∨ 5 < r) ∨ sp_bv n) = 1)) ∧ w9 = w) := by
  obtain ⟨L, P⟩ := w
  exact sp_liftX hW rfl (sp_elX hW (fun fa fb mt ft ct f0 g0 f1 g1 c1 f2 g2 c2 f3 g3 c3 m3 f4 g4 c4 m4 f5 g5 c5 m5 ef0 ef1 hra hrb ht0 ht1 ht2 he0 he1 hzm3 hzm4 hzm5 => c_X8_given_p hl S fa fb mt ft ct f0 g0 f1 g1 c1 f2 g2 c2 f3 g3 c3 m3 f4 g4 c4 m4 f5 g5 c5 m5 ef0 ef1 r k y n ok hra hrb ht0 ht1 ht2 he0 he1 hzm3 hzm4 hzm5))
set_option maxRecDepth 100000 in
theorem px_tested (hl : l.stackTraces = false) (w : z_W) (S : sp_S) (hW : sp_CW S w.1) (ok : sp_ok S) (t : Int32) (y : Int32) (n : Int32) : z_Con G l mX8_tested 20 14 120 w [.ref 0, .int t, .int y, .int n] (fun v w9 => q_k1 ((t < 0 ∨ 5 < t) ∨ sp_bv y ∨ sp_bv n) = 0 ∧ v = some (.int ((q_tt t y n).getD (-9))) ∧ sp_CW (S) w9.1 ∧ z_hi w w9) (fun E w9 => ((z_xA E ∧ q_k1 ((t < 0 ∨ 5 < t) ∨ sp_bv y ∨ sp_bv n) = 1)) ∧ w9 = w) := by
  obtain ⟨L, P⟩ := w
  exact sp_liftX hW rfl (sp_elX hW (fun fa fb mt ft ct f0 g0 f1 g1 c1 f2 g2 c2 f3 g3 c3 m3 f4 g4 c4 m4 f5 g5 c5 m5 ef0 ef1 hra hrb ht0 ht1 ht2 he0 he1 hzm3 hzm4 hzm5 => c_X8_tested_p hl S fa fb mt ft ct f0 g0 f1 g1 c1 f2 g2 c2 f3 g3 c3 m3 f4 g4 c4 m4 f5 g5 c5 m5 ef0 ef1 t y n ok hra hrb ht0 ht1 ht2 he0 he1 hzm3 hzm4 hzm5))
set_option maxRecDepth 100000 in
theorem px_knock (hl : l.stackTraces = false) (w : z_W) (S : sp_S) (hW : sp_CW S w.1) (ok : sp_ok S) : z_Con G l mX8_knock 20 14 120 w [.ref 0] (fun v w9 => v = some (.int (S.1.2 + 1)) ∧ sp_CW (sp_kno S) w9.1 ∧ z_hi w w9) (fun _ _ => False) := by
  obtain ⟨L, P⟩ := w
  exact sp_liftF hW rfl (sp_elF hW (fun fa fb mt ft ct f0 g0 f1 g1 c1 f2 g2 c2 f3 g3 c3 m3 f4 g4 c4 m4 f5 g5 c5 m5 ef0 ef1 hra hrb ht0 ht1 ht2 he0 he1 hzm3 hzm4 hzm5 => c_X8_knock_p hl S fa fb mt ft ct f0 g0 f1 g1 c1 f2 g2 c2 f3 g3 c3 m3 f4 g4 c4 m4 f5 g5 c5 m5 ef0 ef1 ok hra hrb ht0 ht1 ht2 he0 he1 hzm3 hzm4 hzm5))
set_option maxRecDepth 100000 in
theorem px_house (hl : l.stackTraces = false) (w : z_W) (S : sp_S) (hW : sp_CW S w.1) (ok : sp_ok S) (w0 : Int32) : z_Con G l mX8_house 20 14 120 w [.ref 0, .int w0] (fun v w9 => q_k1 (w0 < 0 ∨ 4 < w0) = 0 ∧ v = some (.int (sp_hse S w0)) ∧ sp_CW (S) w9.1 ∧ z_hi w w9) (fun E w9 => ((z_xA E ∧ q_k1 (w0 < 0 ∨ 4 < w0) = 1)) ∧ w9 = w) := by
  obtain ⟨L, P⟩ := w
  exact sp_liftX hW rfl (sp_elX hW (fun fa fb mt ft ct f0 g0 f1 g1 c1 f2 g2 c2 f3 g3 c3 m3 f4 g4 c4 m4 f5 g5 c5 m5 ef0 ef1 hra hrb ht0 ht1 ht2 he0 he1 hzm3 hzm4 hzm5 => c_X8_house_p hl S fa fb mt ft ct f0 g0 f1 g1 c1 f2 g2 c2 f3 g3 c3 m3 f4 g4 c4 m4 f5 g5 c5 m5 ef0 ef1 w0 ok hra hrb ht0 ht1 ht2 he0 he1 hzm3 hzm4 hzm5))
end ZPx
