section ZM0
section ZPx
variable {G : z_G} {l : Launch}
theorem sp_liftX {y : z_M} {rk mc ms : Nat} {L : List z_E} {P : Nat → Option z_E} {S K : sp_S} {av : List Value} {T R : Int32} {X : String → Prop} (hW : sp_CW S L) (hav : av.map (z_rn (List.range 51)) = av) (h : z_CX G l y rk mc ms L av (fun v L' => T = 0 ∧ v = some (.int R) ∧ sp_CW K L') (fun E L' => X E ∧ L' = L)) : z_Con G l y rk mc ms (L, P) av (fun v w => T = 0 ∧ v = some (.int R) ∧ sp_CW K w.1 ∧ z_hi (L, P) w) (fun E w => X E ∧ w = (L, P)) := by
  have hc := sp_CWc hW
  refine z_weak (z_lift 51 hc.1 (by decide) hc.2 hav h (fun v L' q => ?_) (fun E L' q => ?_)) (fun v w' q => ?_) (fun E w' q => ?_)
  · obtain ⟨-, rfl, q⟩ := q
    exact ⟨(sp_CWc q).1, (sp_CWc q).2, rfl⟩
  · obtain ⟨-, rfl⟩ := q
    exact hc
  · exact ⟨q.1.1, q.1.2.1, q.1.2.2, z_hi.of (sp_CWc q.1.2.2).1 q.2⟩
  · obtain ⟨⟨q1, q2⟩, q3⟩ := q
    exact ⟨q1, Prod.ext q2 q3⟩
theorem sp_liftF {y : z_M} {rk mc ms : Nat} {L : List z_E} {P : Nat → Option z_E} {S K : sp_S} {av : List Value} {R : Int32} (hW : sp_CW S L) (hav : av.map (z_rn (List.range 51)) = av) (h : z_CF G l y rk mc ms L av (fun v L' => v = some (.int R) ∧ sp_CW K L')) : z_Con G l y rk mc ms (L, P) av (fun v w => v = some (.int R) ∧ sp_CW K w.1 ∧ z_hi (L, P) w) (fun _ _ => False) := by
  have hc := sp_CWc hW
  refine z_weak (z_lift 51 hc.1 (by decide) hc.2 hav (z_CFX (X := fun _ _ => False) h) (fun v L' q => ?_) (fun E L' q => q.elim)) (fun v w' q => ?_) (fun E w' q => q.1.elim)
  · obtain ⟨rfl, q⟩ := q
    exact ⟨(sp_CWc q).1, (sp_CWc q).2, rfl⟩
  · exact ⟨q.1.1, q.1.2, z_hi.of (sp_CWc q.1.2).1 q.2⟩
set_option maxRecDepth 100000 in
theorem px_type (hl : l.stackTraces = false) (w : z_W) (S : sp_S) (hW : sp_CW S w.1) (ok : sp_ok S) (r : Int32) (y : Int32) : z_Con G l mX8_type 20 14 120 w [.ref 0, .int r, .int y] (fun v w9 => sp_k23 r (sp_bv y) ((sp_R S (sp_i r)).length = 12) = 0 ∧ v = some (.int (nI ((sp_R S (sp_i r)) ++ [y]).length)) ∧ sp_CW (sp_uR S (sp_i r) ((sp_R S (sp_i r)) ++ [y])) w9.1 ∧ z_hi w w9) (fun E w9 => ((z_xI E ∧ sp_k23 r (sp_bv y) ((sp_R S (sp_i r)).length = 12) = 1) ∨ (z_xA E ∧ sp_k23 r (sp_bv y) ((sp_R S (sp_i r)).length = 12) = 2) ∨ (z_xS E ∧ sp_k23 r (sp_bv y) ((sp_R S (sp_i r)).length = 12) = 3)) ∧ w9 = w) := by
  obtain ⟨L, P⟩ := w
  exact sp_liftX hW rfl (sp_elX hW (fun fa fb mt ft ct f0 g0 f1 g1 c1 f2 g2 c2 f3 g3 c3 m3 f4 g4 c4 m4 f5 g5 c5 m5 ef0 ef1 hra hrb ht0 ht1 ht2 he0 he1 hzm3 hzm4 hzm5 => c_X8_type_p hl S fa fb mt ft ct f0 g0 f1 g1 c1 f2 g2 c2 f3 g3 c3 m3 f4 g4 c4 m4 f5 g5 c5 m5 ef0 ef1 r y ok hra hrb ht0 ht1 ht2 he0 he1 hzm3 hzm4 hzm5))
set_option maxRecDepth 100000 in
theorem px_drop (hl : l.stackTraces = false) (w : z_W) (S : sp_S) (hW : sp_CW S w.1) (ok : sp_ok S) (r : Int32) (m : Int32) : z_Con G l mX8_drop 20 14 120 w [.ref 0, .int r, .int m] (fun v w9 => q_k22 r (m < 1 ∨ nI (sp_R S (sp_i r)).length < m) = 0 ∧ v = some (.int (nI ((sp_R S (sp_i r)).take ((sp_R S (sp_i r)).length - sp_i m)).length)) ∧ sp_CW (sp_uR S (sp_i r) ((sp_R S (sp_i r)).take ((sp_R S (sp_i r)).length - sp_i m))) w9.1 ∧ z_hi w w9) (fun E w9 => ((z_xI E ∧ q_k22 r (m < 1 ∨ nI (sp_R S (sp_i r)).length < m) = 1) ∨ (z_xA E ∧ q_k22 r (m < 1 ∨ nI (sp_R S (sp_i r)).length < m) = 2)) ∧ w9 = w) := by
  obtain ⟨L, P⟩ := w
  exact sp_liftX hW rfl (sp_elX hW (fun fa fb mt ft ct f0 g0 f1 g1 c1 f2 g2 c2 f3 g3 c3 m3 f4 g4 c4 m4 f5 g5 c5 m5 ef0 ef1 hra hrb ht0 ht1 ht2 he0 he1 hzm3 hzm4 hzm5 => c_X8_drop_p hl S fa fb mt ft ct f0 g0 f1 g1 c1 f2 g2 c2 f3 g3 c3 m3 f4 g4 c4 m4 f5 g5 c5 m5 ef0 ef1 r m ok hra hrb ht0 ht1 ht2 he0 he1 hzm3 hzm4 hzm5))
set_option maxRecDepth 100000 in
theorem px_fix (hl : l.stackTraces = false) (w : z_W) (S : sp_S) (hW : sp_CW S w.1) (ok : sp_ok S) (r : Int32) (b : Bool) : z_Con G l mX8_fix 20 14 120 w [.ref 0, .int r, .int (z_bi b)] (fun v w9 => q_k2 r = 0 ∧ v = some (.int (z_bi (sp_F S (sp_i r)))) ∧ sp_CW (sp_uF S (sp_i r) b) w9.1 ∧ z_hi w w9) (fun E w9 => ((z_xI E ∧ q_k2 r = 1)) ∧ w9 = w) := by
  obtain ⟨L, P⟩ := w
  exact sp_liftX hW rfl (sp_elX hW (fun fa fb mt ft ct f0 g0 f1 g1 c1 f2 g2 c2 f3 g3 c3 m3 f4 g4 c4 m4 f5 g5 c5 m5 ef0 ef1 hra hrb ht0 ht1 ht2 he0 he1 hzm3 hzm4 hzm5 => c_X8_fix_p hl S fa fb mt ft ct f0 g0 f1 g1 c1 f2 g2 c2 f3 g3 c3 m3 f4 g4 c4 m4 f5 g5 c5 m5 ef0 ef1 r b ok hra hrb ht0 ht1 ht2 he0 he1 hzm3 hzm4 hzm5))
set_option maxRecDepth 100000 in
theorem px_hear (hl : l.stackTraces = false) (w : z_W) (S : sp_S) (hW : sp_CW S w.1) (ok : sp_ok S) (r : Int32) (g : Int32) : z_Con G l mX8_hear 20 14 120 w [.ref 0, .int r, .int g] (fun v w9 => sp_k2b r g = 0 ∧ v = some (.int (sp_an (sp_hr S (sp_i r) (sp_i g) 0).1)) ∧ sp_CW (sp_hrS S (sp_i r) (sp_i g) 0) w9.1 ∧ z_hi w w9) (fun E w9 => ((z_xI E ∧ sp_k2b r g = 1)) ∧ w9 = w) := by
  obtain ⟨L, P⟩ := w
  exact sp_liftX hW rfl (sp_elX hW (fun fa fb mt ft ct f0 g0 f1 g1 c1 f2 g2 c2 f3 g3 c3 m3 f4 g4 c4 m4 f5 g5 c5 m5 ef0 ef1 hra hrb ht0 ht1 ht2 he0 he1 hzm3 hzm4 hzm5 => c_X8_hear_p hl S fa fb mt ft ct f0 g0 f1 g1 c1 f2 g2 c2 f3 g3 c3 m3 f4 g4 c4 m4 f5 g5 c5 m5 ef0 ef1 r g ok hra hrb ht0 ht1 ht2 he0 he1 hzm3 hzm4 hzm5))
set_option maxRecDepth 100000 in
theorem px_rest (hl : l.stackTraces = false) (w : z_W) (S : sp_S) (hW : sp_CW S w.1) (ok : sp_ok S) (r : Int32) (a : Int32) (g : Int32) : z_Con G l mX8_rest 20 14 120 w [.ref 0, .int r, .int a, .int g] (fun v w9 => sp_k2c r g (a < 0 ∨ nI (sp_R S (sp_i r)).length < a) = 0 ∧ v = some (.int (sp_an (sp_hr S (sp_i r) (sp_i g) (sp_i a)).1)) ∧ sp_CW (sp_hrS S (sp_i r) (sp_i g) (sp_i a)) w9.1 ∧ z_hi w w9) (fun E w9 => ((z_xI E ∧ sp_k2c r g (a < 0 ∨ nI (sp_R S (sp_i r)).length < a) = 1) ∨ (z_xA E ∧ sp_k2c r g (a < 0 ∨ nI (sp_R S (sp_i r)).length < a) = 2)) ∧ w9 = w) := by
  obtain ⟨L, P⟩ := w
  exact sp_liftX hW rfl (sp_elX hW (fun fa fb mt ft ct f0 g0 f1 g1 c1 f2 g2 c2 f3 g3 c3 m3 f4 g4 c4 m4 f5 g5 c5 m5 ef0 ef1 hra hrb ht0 ht1 ht2 he0 he1 hzm3 hzm4 hzm5 => c_X8_rest_p hl S fa fb mt ft ct f0 g0 f1 g1 c1 f2 g2 c2 f3 g3 c3 m3 f4 g4 c4 m4 f5 g5 c5 m5 ef0 ef1 r a g ok hra hrb ht0 ht1 ht2 he0 he1 hzm3 hzm4 hzm5))
set_option maxRecDepth 100000 in
theorem px_removeIf (hl : l.stackTraces = false) (w : z_W) (S : sp_S) (hW : sp_CW S w.1) (ok : sp_ok S) (r : Int32) (t : Int32) (n : Int32) : z_Con G l mX8_removeIf 20 14 120 w [.ref 0, .int r, .int t, .int n] (fun v w9 => q_k22 r ((t < 0 ∨ 5 < t) ∨ sp_bv n) = 0 ∧ v = some (.int (sp_ab (sp_sft S (sp_i r) t n).1)) ∧ sp_CW (sp_sftS S (sp_i r) t n) w9.1 ∧ z_hi w w9) (fun E w9 => ((z_xI E ∧ q_k22 r ((t < 0 ∨ 5 < t) ∨ sp_bv n) = 1) ∨ (z_xA E ∧ q_k22 r ((t < 0 ∨ 5 < t) ∨ sp_bv n) = 2)) ∧ w9 = w) := by
  obtain ⟨L, P⟩ := w
  exact sp_liftX hW rfl (sp_elX hW (fun fa fb mt ft ct f0 g0 f1 g1 c1 f2 g2 c2 f3 g3 c3 m3 f4 g4 c4 m4 f5 g5 c5 m5 ef0 ef1 hra hrb ht0 ht1 ht2 he0 he1 hzm3 hzm4 hzm5 => c_X8_removeIf_p hl S fa fb mt ft ct f0 g0 f1 g1 c1 f2 g2 c2 f3 g3 c3 m3 f4 g4 c4 m4 f5 g5 c5 m5 ef0 ef1 r t n ok hra hrb ht0 ht1 ht2 he0 he1 hzm3 hzm4 hzm5))
set_option maxRecDepth 100000 in
theorem px_replaceAll (hl : l.stackTraces = false) (w : z_W) (S : sp_S) (hW : sp_CW S w.1) (ok : sp_ok S) (r : Int32) (u : Int32) (n : Int32) : z_Con G l mX8_replaceAll 20 14 120 w [.ref 0, .int r, .int u, .int n] (fun v w9 => q_k22 r (¬ (u = 0 ∨ u = 1 ∨ u = 4) ∨ sp_bv n) = 0 ∧ v = some (.int (cond (sp_chg S (sp_i r) u n).1 (nI (sp_chg S (sp_i r) u n).2.2.length) (-9))) ∧ sp_CW (sp_chgS S (sp_i r) u n) w9.1 ∧ z_hi w w9) (fun E w9 => ((z_xI E ∧ q_k22 r (¬ (u = 0 ∨ u = 1 ∨ u = 4) ∨ sp_bv n) = 1) ∨ (z_xA E ∧ q_k22 r (¬ (u = 0 ∨ u = 1 ∨ u = 4) ∨ sp_bv n) = 2)) ∧ w9 = w) := by
  obtain ⟨L, P⟩ := w
  exact sp_liftX hW rfl (sp_elX hW (fun fa fb mt ft ct f0 g0 f1 g1 c1 f2 g2 c2 f3 g3 c3 m3 f4 g4 c4 m4 f5 g5 c5 m5 ef0 ef1 hra hrb ht0 ht1 ht2 he0 he1 hzm3 hzm4 hzm5 => c_X8_replaceAll_p hl S fa fb mt ft ct f0 g0 f1 g1 c1 f2 g2 c2 f3 g3 c3 m3 f4 g4 c4 m4 f5 g5 c5 m5 ef0 ef1 r u n ok hra hrb ht0 ht1 ht2 he0 he1 hzm3 hzm4 hzm5))
set_option maxRecDepth 100000 in
theorem px_copy (hl : l.stackTraces = false) (w : z_W) (S : sp_S) (hW : sp_CW S w.1) (ok : sp_ok S) (r : Int32) : z_Con G l mX8_copy 20 14 120 w [.ref 0, .int r] (fun v w9 => q_k2 r = 0 ∧ v = some (.int (nI (sp_R S (1 - sp_i r)).length)) ∧ sp_CW (sp_uR S (sp_i r) (sp_R S (1 - sp_i r))) w9.1 ∧ z_hi w w9) (fun E w9 => ((z_xI E ∧ q_k2 r = 1)) ∧ w9 = w) := by
  obtain ⟨L, P⟩ := w
  exact sp_liftX hW rfl (sp_elX hW (fun fa fb mt ft ct f0 g0 f1 g1 c1 f2 g2 c2 f3 g3 c3 m3 f4 g4 c4 m4 f5 g5 c5 m5 ef0 ef1 hra hrb ht0 ht1 ht2 he0 he1 hzm3 hzm4 hzm5 => c_X8_copy_p hl S fa fb mt ft ct f0 g0 f1 g1 c1 f2 g2 c2 f3 g3 c3 m3 f4 g4 c4 m4 f5 g5 c5 m5 ef0 ef1 r ok hra hrb ht0 ht1 ht2 he0 he1 hzm3 hzm4 hzm5))
set_option maxRecDepth 100000 in
theorem px_put (hl : l.stackTraces = false) (w : z_W) (S : sp_S) (hW : sp_CW S w.1) (ok : sp_ok S) (t : Int32) (k : Int32) (y : Int32) : z_Con G l mX8_put 20 14 120 w [.ref 0, .int t, .int k, .int y] (fun v w9 => sp_k32 t (sp_bk k ∨ sp_bv y) = 0 ∧ v = some (.int ((sp_put (sp_srt (sp_i t)) (sp_T S (sp_i t)) (sp_C S 2) (sp_i k) y).1.getD (-9))) ∧ sp_CW (sp_tb S (sp_i t) (sp_put (sp_srt (sp_i t)) (sp_T S (sp_i t)) (sp_C S 2) (sp_i k) y)) w9.1 ∧ z_hi w w9) (fun E w9 => ((z_xI E ∧ sp_k32 t (sp_bk k ∨ sp_bv y) = 1) ∨ (z_xA E ∧ sp_k32 t (sp_bk k ∨ sp_bv y) = 2)) ∧ w9 = w) := by
  obtain ⟨L, P⟩ := w
  exact sp_liftX hW rfl (sp_elX hW (fun fa fb mt ft ct f0 g0 f1 g1 c1 f2 g2 c2 f3 g3 c3 m3 f4 g4 c4 m4 f5 g5 c5 m5 ef0 ef1 hra hrb ht0 ht1 ht2 he0 he1 hzm3 hzm4 hzm5 => c_X8_put_p hl S fa fb mt ft ct f0 g0 f1 g1 c1 f2 g2 c2 f3 g3 c3 m3 f4 g4 c4 m4 f5 g5 c5 m5 ef0 ef1 t k y ok hra hrb ht0 ht1 ht2 he0 he1 hzm3 hzm4 hzm5))
set_option maxRecDepth 100000 in
theorem px_remove (hl : l.stackTraces = false) (w : z_W) (S : sp_S) (hW : sp_CW S w.1) (ok : sp_ok S) (t : Int32) (k : Int32) : z_Con G l mX8_remove 20 14 120 w [.ref 0, .int t, .int k] (fun v w9 => sp_k32 t (sp_bk k) = 0 ∧ v = some (.int ((sp_del (sp_T S (sp_i t)) (sp_C S 2) (sp_i k)).1.getD (-9))) ∧ sp_CW (sp_tb S (sp_i t) (sp_del (sp_T S (sp_i t)) (sp_C S 2) (sp_i k))) w9.1 ∧ z_hi w w9) (fun E w9 => ((z_xI E ∧ sp_k32 t (sp_bk k) = 1) ∨ (z_xA E ∧ sp_k32 t (sp_bk k) = 2)) ∧ w9 = w) := by
  obtain ⟨L, P⟩ := w
  exact sp_liftX hW rfl (sp_elX hW (fun fa fb mt ft ct f0 g0 f1 g1 c1 f2 g2 c2 f3 g3 c3 m3 f4 g4 c4 m4 f5 g5 c5 m5 ef0 ef1 hra hrb ht0 ht1 ht2 he0 he1 hzm3 hzm4 hzm5 => c_X8_remove_p hl S fa fb mt ft ct f0 g0 f1 g1 c1 f2 g2 c2 f3 g3 c3 m3 f4 g4 c4 m4 f5 g5 c5 m5 ef0 ef1 t k ok hra hrb ht0 ht1 ht2 he0 he1 hzm3 hzm4 hzm5))
set_option maxRecDepth 100000 in
theorem px_putIfAbsent (hl : l.stackTraces = false) (w : z_W) (S : sp_S) (hW : sp_CW S w.1) (ok : sp_ok S) (t : Int32) (k : Int32) (y : Int32) : z_Con G l mX8_putIfAbsent 20 14 120 w [.ref 0, .int t, .int k, .int y] (fun v w9 => sp_k32 t (sp_bk k ∨ sp_bv y) = 0 ∧ v = some (.int ((sp_pia (sp_srt (sp_i t)) (sp_T S (sp_i t)) (sp_C S 2) (sp_i k) y).1.getD (-9))) ∧ sp_CW (sp_tb S (sp_i t) (sp_pia (sp_srt (sp_i t)) (sp_T S (sp_i t)) (sp_C S 2) (sp_i k) y)) w9.1 ∧ z_hi w w9) (fun E w9 => ((z_xI E ∧ sp_k32 t (sp_bk k ∨ sp_bv y) = 1) ∨ (z_xA E ∧ sp_k32 t (sp_bk k ∨ sp_bv y) = 2)) ∧ w9 = w) := by
  obtain ⟨L, P⟩ := w
  exact sp_liftX hW rfl (sp_elX hW (fun fa fb mt ft ct f0 g0 f1 g1 c1 f2 g2 c2 f3 g3 c3 m3 f4 g4 c4 m4 f5 g5 c5 m5 ef0 ef1 hra hrb ht0 ht1 ht2 he0 he1 hzm3 hzm4 hzm5 => c_X8_putIfAbsent_p hl S fa fb mt ft ct f0 g0 f1 g1 c1 f2 g2 c2 f3 g3 c3 m3 f4 g4 c4 m4 f5 g5 c5 m5 ef0 ef1 t k y ok hra hrb ht0 ht1 ht2 he0 he1 hzm3 hzm4 hzm5))
set_option maxRecDepth 100000 in
theorem px_replace (hl : l.stackTraces = false) (w : z_W) (S : sp_S) (hW : sp_CW S w.1) (ok : sp_ok S) (t : Int32) (k : Int32) (y : Int32) : z_Con G l mX8_replace 20 14 120 w [.ref 0, .int t, .int k, .int y] (fun v w9 => sp_k32 t (sp_bk k ∨ sp_bv y) = 0 ∧ v = some (.int ((sp_rep (sp_srt (sp_i t)) (sp_T S (sp_i t)) (sp_C S 2) (sp_i k) y).1.getD (-9))) ∧ sp_CW (sp_tb S (sp_i t) (sp_rep (sp_srt (sp_i t)) (sp_T S (sp_i t)) (sp_C S 2) (sp_i k) y)) w9.1 ∧ z_hi w w9) (fun E w9 => ((z_xI E ∧ sp_k32 t (sp_bk k ∨ sp_bv y) = 1) ∨ (z_xA E ∧ sp_k32 t (sp_bk k ∨ sp_bv y) = 2)) ∧ w9 = w) := by
  obtain ⟨L, P⟩ := w
  exact sp_liftX hW rfl (sp_elX hW (fun fa fb mt ft ct f0 g0 f1 g1 c1 f2 g2 c2 f3 g3 c3 m3 f4 g4 c4 m4 f5 g5 c5 m5 ef0 ef1 hra hrb ht0 ht1 ht2 he0 he1 hzm3 hzm4 hzm5 => c_X8_replace_p hl S fa fb mt ft ct f0 g0 f1 g1 c1 f2 g2 c2 f3 g3 c3 m3 f4 g4 c4 m4 f5 g5 c5 m5 ef0 ef1 t k y ok hra hrb ht0 ht1 ht2 he0 he1 hzm3 hzm4 hzm5))
set_option maxRecDepth 100000 in
theorem px_replaceIf (hl : l.stackTraces = false) (w : z_W) (S : sp_S) (hW : sp_CW S w.1) (ok : sp_ok S) (t : Int32) (k : Int32) (o : Int32) (y : Int32) : z_Con G l mX8_replaceIf 20 14 120 w [.ref 0, .int t, .int k, .int o, .int y] (fun v w9 => sp_k32 t (sp_bk k ∨ sp_bv o ∨ sp_bv y) = 0 ∧ v = some (.int ((sp_rif (sp_srt (sp_i t)) (sp_T S (sp_i t)) (sp_C S 2) (sp_i k) o y).1.getD (-9))) ∧ sp_CW (sp_tb S (sp_i t) (sp_rif (sp_srt (sp_i t)) (sp_T S (sp_i t)) (sp_C S 2) (sp_i k) o y)) w9.1 ∧ z_hi w w9) (fun E w9 => ((z_xI E ∧ sp_k32 t (sp_bk k ∨ sp_bv o ∨ sp_bv y) = 1) ∨ (z_xA E ∧ sp_k32 t (sp_bk k ∨ sp_bv o ∨ sp_bv y) = 2)) ∧ w9 = w) := by
  obtain ⟨L, P⟩ := w
  exact sp_liftX hW rfl (sp_elX hW (fun fa fb mt ft ct f0 g0 f1 g1 c1 f2 g2 c2 f3 g3 c3 m3 f4 g4 c4 m4 f5 g5 c5 m5 ef0 ef1 hra hrb ht0 ht1 ht2 he0 he1 hzm3 hzm4 hzm5 => c_X8_replaceIf_p hl S fa fb mt ft ct f0 g0 f1 g1 c1 f2 g2 c2 f3 g3 c3 m3 f4 g4 c4 m4 f5 g5 c5 m5 ef0 ef1 t k o y ok hra hrb ht0 ht1 ht2 he0 he1 hzm3 hzm4 hzm5))
set_option maxRecDepth 100000 in
theorem px_removePair (hl : l.stackTraces = false) (w : z_W) (S : sp_S) (hW : sp_CW S w.1) (ok : sp_ok S) (t : Int32) (k : Int32) (y : Int32) : z_Con G l mX8_removePair 20 14 120 w [.ref 0, .int t, .int k, .int y] (fun v w9 => sp_k32 t (sp_bk k ∨ sp_bv y) = 0 ∧ v = some (.int ((sp_rmp (sp_T S (sp_i t)) (sp_C S 2) (sp_i k) y).1.getD (-9))) ∧ sp_CW (sp_tb S (sp_i t) (sp_rmp (sp_T S (sp_i t)) (sp_C S 2) (sp_i k) y)) w9.1 ∧ z_hi w w9) (fun E w9 => ((z_xI E ∧ sp_k32 t (sp_bk k ∨ sp_bv y) = 1) ∨ (z_xA E ∧ sp_k32 t (sp_bk k ∨ sp_bv y) = 2)) ∧ w9 = w) := by
  obtain ⟨L, P⟩ := w
  exact sp_liftX hW rfl (sp_elX hW (fun fa fb mt ft ct f0 g0 f1 g1 c1 f2 g2 c2 f3 g3 c3 m3 f4 g4 c4 m4 f5 g5 c5 m5 ef0 ef1 hra hrb ht0 ht1 ht2 he0 he1 hzm3 hzm4 hzm5 => c_X8_removePair_p hl S fa fb mt ft ct f0 g0 f1 g1 c1 f2 g2 c2 f3 g3 c3 m3 f4 g4 c4 m4 f5 g5 c5 m5 ef0 ef1 t k y ok hra hrb ht0 ht1 ht2 he0 he1 hzm3 hzm4 hzm5))
set_option maxRecDepth 100000 in
theorem px_computeIfAbsent (hl : l.stackTraces = false) (w : z_W) (S : sp_S) (hW : sp_CW S w.1) (ok : sp_ok S) (t : Int32) (k : Int32) (r : Int32) (n : Int32) : z_Con G l mX8_computeIfAbsent 20 14 120 w [.ref 0, .int t, .int k, .int r, .int n] (fun v w9 => sp_k32 t (sp_bk k ∨ (r < 0 ∨ 5 < r) ∨ sp_bv n) = 0 ∧ v = some (.int ((sp_cia (sp_srt (sp_i t)) (sp_T S (sp_i t)) (sp_C S 2) (sp_i k) r n).1.getD (-9))) ∧ sp_CW (sp_tb S (sp_i t) (sp_cia (sp_srt (sp_i t)) (sp_T S (sp_i t)) (sp_C S 2) (sp_i k) r n)) w9.1 ∧ z_hi w w9) (fun E w9 => ((z_xI E ∧ sp_k32 t (sp_bk k ∨ (r < 0 ∨ 5 < r) ∨ sp_bv n) = 1) ∨ (z_xA E ∧ sp_k32 t (sp_bk k ∨ (r < 0 ∨ 5 < r) ∨ sp_bv n) = 2)) ∧ w9 = w) := by
  obtain ⟨L, P⟩ := w
  exact sp_liftX hW rfl (sp_elX hW (fun fa fb mt ft ct f0 g0 f1 g1 c1 f2 g2 c2 f3 g3 c3 m3 f4 g4 c4 m4 f5 g5 c5 m5 ef0 ef1 hra hrb ht0 ht1 ht2 he0 he1 hzm3 hzm4 hzm5 => c_X8_computeIfAbsent_p hl S fa fb mt ft ct f0 g0 f1 g1 c1 f2 g2 c2 f3 g3 c3 m3 f4 g4 c4 m4 f5 g5 c5 m5 ef0 ef1 t k r n ok hra hrb ht0 ht1 ht2 he0 he1 hzm3 hzm4 hzm5))
set_option maxRecDepth 100000 in
theorem px_computeIfPresent (hl : l.stackTraces = false) (w : z_W) (S : sp_S) (hW : sp_CW S w.1) (ok : sp_ok S) (t : Int32) (k : Int32) (r : Int32) (n : Int32) : z_Con G l mX8_computeIfPresent 20 14 120 w [.ref 0, .int t, .int k, .int r, .int n] (fun v w9 => sp_k32 t (sp_bk k ∨ (r < 0 ∨ 5 < r) ∨ sp_bv n) = 0 ∧ v = some (.int ((sp_cip (sp_srt (sp_i t)) (sp_T S (sp_i t)) (sp_C S 2) (sp_i k) r n).1.getD (-9))) ∧ sp_CW (sp_tb S (sp_i t) (sp_cip (sp_srt (sp_i t)) (sp_T S (sp_i t)) (sp_C S 2) (sp_i k) r n)) w9.1 ∧ z_hi w w9) (fun E w9 => ((z_xI E ∧ sp_k32 t (sp_bk k ∨ (r < 0 ∨ 5 < r) ∨ sp_bv n) = 1) ∨ (z_xA E ∧ sp_k32 t (sp_bk k ∨ (r < 0 ∨ 5 < r) ∨ sp_bv n) = 2)) ∧ w9 = w) := by
  obtain ⟨L, P⟩ := w
  exact sp_liftX hW rfl (sp_elX hW (fun fa fb mt ft ct f0 g0 f1 g1 c1 f2 g2 c2 f3 g3 c3 m3 f4 g4 c4 m4 f5 g5 c5 m5 ef0 ef1 hra hrb ht0 ht1 ht2 he0 he1 hzm3 hzm4 hzm5 => c_X8_computeIfPresent_p hl S fa fb mt ft ct f0 g0 f1 g1 c1 f2 g2 c2 f3 g3 c3 m3 f4 g4 c4 m4 f5 g5 c5 m5 ef0 ef1 t k r n ok hra hrb ht0 ht1 ht2 he0 he1 hzm3 hzm4 hzm5))
set_option maxRecDepth 100000 in
theorem px_compute (hl : l.stackTraces = false) (w : z_W) (S : sp_S) (hW : sp_CW S w.1) (ok : sp_ok S) (t : Int32) (k : Int32) (r : Int32) (n : Int32) : z_Con G l mX8_compute 20 14 120 w [.ref 0, .int t, .int k, .int r, .int n] (fun v w9 => sp_k32 t (sp_bk k ∨ (r < 0 ∨ 5 < r) ∨ sp_bv n) = 0 ∧ v = some (.int ((sp_cmp (sp_srt (sp_i t)) (sp_T S (sp_i t)) (sp_C S 2) (sp_i k) r n).1.getD (-9))) ∧ sp_CW (sp_tb S (sp_i t) (sp_cmp (sp_srt (sp_i t)) (sp_T S (sp_i t)) (sp_C S 2) (sp_i k) r n)) w9.1 ∧ z_hi w w9) (fun E w9 => ((z_xI E ∧ sp_k32 t (sp_bk k ∨ (r < 0 ∨ 5 < r) ∨ sp_bv n) = 1) ∨ (z_xA E ∧ sp_k32 t (sp_bk k ∨ (r < 0 ∨ 5 < r) ∨ sp_bv n) = 2)) ∧ w9 = w) := by
  obtain ⟨L, P⟩ := w
  exact sp_liftX hW rfl (sp_elX hW (fun fa fb mt ft ct f0 g0 f1 g1 c1 f2 g2 c2 f3 g3 c3 m3 f4 g4 c4 m4 f5 g5 c5 m5 ef0 ef1 hra hrb ht0 ht1 ht2 he0 he1 hzm3 hzm4 hzm5 => c_X8_compute_p hl S fa fb mt ft ct f0 g0 f1 g1 c1 f2 g2 c2 f3 g3 c3 m3 f4 g4 c4 m4 f5 g5 c5 m5 ef0 ef1 t k r n ok hra hrb ht0 ht1 ht2 he0 he1 hzm3 hzm4 hzm5))
set_option maxRecDepth 100000 in
theorem px_merge (hl : l.stackTraces = false) (w : z_W) (S : sp_S) (hW : sp_CW S w.1) (ok : sp_ok S) (t : Int32) (k : Int32) (y : Int32) (r : Int32) : z_Con G l mX8_merge 20 14 120 w [.ref 0, .int t, .int k, .int y, .int r] (fun v w9 => sp_k32 t (sp_bk k ∨ (r < 0 ∨ 5 < r) ∨ sp_bv y) = 0 ∧ v = some (.int ((sp_mrg (sp_srt (sp_i t)) (sp_T S (sp_i t)) (sp_C S 2) (sp_i k) y r).1.getD (-9))) ∧ sp_CW (sp_tb S (sp_i t) (sp_mrg (sp_srt (sp_i t)) (sp_T S (sp_i t)) (sp_C S 2) (sp_i k) y r)) w9.1 ∧ z_hi w w9) (fun E w9 => ((z_xI E ∧ sp_k32 t (sp_bk k ∨ (r < 0 ∨ 5 < r) ∨ sp_bv y) = 1) ∨ (z_xA E ∧ sp_k32 t (sp_bk k ∨ (r < 0 ∨ 5 < r) ∨ sp_bv y) = 2)) ∧ w9 = w) := by
  obtain ⟨L, P⟩ := w
  exact sp_liftX hW rfl (sp_elX hW (fun fa fb mt ft ct f0 g0 f1 g1 c1 f2 g2 c2 f3 g3 c3 m3 f4 g4 c4 m4 f5 g5 c5 m5 ef0 ef1 hra hrb ht0 ht1 ht2 he0 he1 hzm3 hzm4 hzm5 => c_X8_merge_p hl S fa fb mt ft ct f0 g0 f1 g1 c1 f2 g2 c2 f3 g3 c3 m3 f4 g4 c4 m4 f5 g5 c5 m5 ef0 ef1 t k y r ok hra hrb ht0 ht1 ht2 he0 he1 hzm3 hzm4 hzm5))
set_option maxRecDepth 100000 in
theorem px_hearTable (hl : l.stackTraces = false) (w : z_W) (S : sp_S) (hW : sp_CW S w.1) (ok : sp_ok S) (t : Int32) (g : Int32) : z_Con G l mX8_hearTable 20 14 120 w [.ref 0, .int t, .int g] (fun v w9 => sp_k3b t g = 0 ∧ v = some (.int (sp_an (sp_htb S (sp_i t) (sp_i g)).1)) ∧ sp_CW (sp_htbS S (sp_i t) (sp_i g)) w9.1 ∧ z_hi w w9) (fun E w9 => ((z_xI E ∧ sp_k3b t g = 1)) ∧ w9 = w) := by
  obtain ⟨L, P⟩ := w
  exact sp_liftX hW rfl (sp_elX hW (fun fa fb mt ft ct f0 g0 f1 g1 c1 f2 g2 c2 f3 g3 c3 m3 f4 g4 c4 m4 f5 g5 c5 m5 ef0 ef1 hra hrb ht0 ht1 ht2 he0 he1 hzm3 hzm4 hzm5 => c_X8_hearTable_p hl S fa fb mt ft ct f0 g0 f1 g1 c1 f2 g2 c2 f3 g3 c3 m3 f4 g4 c4 m4 f5 g5 c5 m5 ef0 ef1 t g ok hra hrb ht0 ht1 ht2 he0 he1 hzm3 hzm4 hzm5))
set_option maxRecDepth 100000 in
theorem px_replaceTable (hl : l.stackTraces = false) (w : z_W) (S : sp_S) (hW : sp_CW S w.1) (ok : sp_ok S) (t : Int32) (r : Int32) (n : Int32) : z_Con G l mX8_replaceTable 20 14 120 w [.ref 0, .int t, .int r, .int n] (fun v w9 => sp_k32 t (¬ (r = 0 ∨ r = 1 ∨ r = 4 ∨ r = 5) ∨ sp_bv n) = 0 ∧ v = some (.int (cond (sp_ctb S (sp_i t) r n).1 (nI (sp_ctb S (sp_i t) r n).2.2.length) (-9))) ∧ sp_CW (sp_ctbS S (sp_i t) r n) w9.1 ∧ z_hi w w9) (fun E w9 => ((z_xI E ∧ sp_k32 t (¬ (r = 0 ∨ r = 1 ∨ r = 4 ∨ r = 5) ∨ sp_bv n) = 1) ∨ (z_xA E ∧ sp_k32 t (¬ (r = 0 ∨ r = 1 ∨ r = 4 ∨ r = 5) ∨ sp_bv n) = 2)) ∧ w9 = w) := by
  obtain ⟨L, P⟩ := w
  exact sp_liftX hW rfl (sp_elX hW (fun fa fb mt ft ct f0 g0 f1 g1 c1 f2 g2 c2 f3 g3 c3 m3 f4 g4 c4 m4 f5 g5 c5 m5 ef0 ef1 hra hrb ht0 ht1 ht2 he0 he1 hzm3 hzm4 hzm5 => c_X8_replaceTable_p hl S fa fb mt ft ct f0 g0 f1 g1 c1 f2 g2 c2 f3 g3 c3 m3 f4 g4 c4 m4 f5 g5 c5 m5 ef0 ef1 t r n ok hra hrb ht0 ht1 ht2 he0 he1 hzm3 hzm4 hzm5))
set_option maxRecDepth 100000 in
theorem px_clear (hl : l.stackTraces = false) (w : z_W) (S : sp_S) (hW : sp_CW S w.1) (ok : sp_ok S) (t : Int32) : z_Con G l mX8_clear 20 14 120 w [.ref 0, .int t] (fun v w9 => sp_k3 t = 0 ∧ v = some (.int (nI (sp_T S (sp_i t)).length)) ∧ sp_CW (sp_uT S (sp_i t) []) w9.1 ∧ z_hi w w9) (fun E w9 => ((z_xI E ∧ sp_k3 t = 1)) ∧ w9 = w) := by
  obtain ⟨L, P⟩ := w
  exact sp_liftX hW rfl (sp_elX hW (fun fa fb mt ft ct f0 g0 f1 g1 c1 f2 g2 c2 f3 g3 c3 m3 f4 g4 c4 m4 f5 g5 c5 m5 ef0 ef1 hra hrb ht0 ht1 ht2 he0 he1 hzm3 hzm4 hzm5 => c_X8_clear_p hl S fa fb mt ft ct f0 g0 f1 g1 c1 f2 g2 c2 f3 g3 c3 m3 f4 g4 c4 m4 f5 g5 c5 m5 ef0 ef1 t ok hra hrb ht0 ht1 ht2 he0 he1 hzm3 hzm4 hzm5))
set_option maxRecDepth 100000 in
theorem px_hearSpan (hl : l.stackTraces = false) (w : z_W) (S : sp_S) (hW : sp_CW S w.1) (ok : sp_ok S) (a : Int32) (b : Int32) (c : Int32) (g : Int32) : z_Con G l mX8_hearSpan 20 14 120 w [.ref 0, .int a, .int b, .int c, .int g] (fun v w9 => q_k22 g (sp_bsp a b c) = 0 ∧ v = some (.int (sp_an (sp_hsp S a b c 0 (sp_i g)).1)) ∧ sp_CW (sp_hspS S a b c 0 (sp_i g)) w9.1 ∧ z_hi w w9) (fun E w9 => ((z_xI E ∧ q_k22 g (sp_bsp a b c) = 1) ∨ (z_xA E ∧ q_k22 g (sp_bsp a b c) = 2)) ∧ w9 = w) := by
  obtain ⟨L, P⟩ := w
  exact sp_liftX hW rfl (sp_elX hW (fun fa fb mt ft ct f0 g0 f1 g1 c1 f2 g2 c2 f3 g3 c3 m3 f4 g4 c4 m4 f5 g5 c5 m5 ef0 ef1 hra hrb ht0 ht1 ht2 he0 he1 hzm3 hzm4 hzm5 => c_X8_hearSpan_p hl S fa fb mt ft ct f0 g0 f1 g1 c1 f2 g2 c2 f3 g3 c3 m3 f4 g4 c4 m4 f5 g5 c5 m5 ef0 ef1 a b c g ok hra hrb ht0 ht1 ht2 he0 he1 hzm3 hzm4 hzm5))
set_option maxRecDepth 100000 in
theorem px_hearSteps (hl : l.stackTraces = false) (w : z_W) (S : sp_S) (hW : sp_CW S w.1) (ok : sp_ok S) (a : Int32) (b : Int32) (c : Int32) (d : Int32) (g : Int32) : z_Con G l mX8_hearSteps 20 14 120 w [.ref 0, .int a, .int b, .int c, .int d, .int g] (fun v w9 => q_k22 g (sp_bsp a b c ∨ (d < 0 ∨ z_mny a b c < d)) = 0 ∧ v = some (.int (sp_an (sp_hsp S a b c (sp_i d) (sp_i g)).1)) ∧ sp_CW (sp_hspS S a b c (sp_i d) (sp_i g)) w9.1 ∧ z_hi w w9) (fun E w9 => ((z_xI E ∧ q_k22 g (sp_bsp a b c ∨ (d < 0 ∨ z_mny a b c < d)) = 1) ∨ (z_xA E ∧ q_k22 g (sp_bsp a b c ∨ (d < 0 ∨ z_mny a b c < d)) = 2)) ∧ w9 = w) := by
  obtain ⟨L, P⟩ := w
  exact sp_liftX hW rfl (sp_elX hW (fun fa fb mt ft ct f0 g0 f1 g1 c1 f2 g2 c2 f3 g3 c3 m3 f4 g4 c4 m4 f5 g5 c5 m5 ef0 ef1 hra hrb ht0 ht1 ht2 he0 he1 hzm3 hzm4 hzm5 => c_X8_hearSteps_p hl S fa fb mt ft ct f0 g0 f1 g1 c1 f2 g2 c2 f3 g3 c3 m3 f4 g4 c4 m4 f5 g5 c5 m5 ef0 ef1 a b c d g ok hra hrb ht0 ht1 ht2 he0 he1 hzm3 hzm4 hzm5))
set_option maxRecDepth 100000 in
theorem px_takeStep (hl : l.stackTraces = false) (w : z_W) (S : sp_S) (hW : sp_CW S w.1) (ok : sp_ok S) (a : Int32) (b : Int32) : z_Con G l mX8_takeStep 20 14 120 w [.ref 0, .int a, .int b] (fun v w9 => q_k1 (sp_bv b ∨ (a < -999 ∨ b < a)) = 0 ∧ v = some (.int ((-9 : Int32))) ∧ sp_CW (sp_nine S) w9.1 ∧ z_hi w w9) (fun E w9 => ((z_xA E ∧ q_k1 (sp_bv b ∨ (a < -999 ∨ b < a)) = 1)) ∧ w9 = w) := by
  obtain ⟨L, P⟩ := w
  exact sp_liftX hW rfl (sp_elX hW (fun fa fb mt ft ct f0 g0 f1 g1 c1 f2 g2 c2 f3 g3 c3 m3 f4 g4 c4 m4 f5 g5 c5 m5 ef0 ef1 hra hrb ht0 ht1 ht2 he0 he1 hzm3 hzm4 hzm5 => c_X8_takeStep_p hl S fa fb mt ft ct f0 g0 f1 g1 c1 f2 g2 c2 f3 g3 c3 m3 f4 g4 c4 m4 f5 g5 c5 m5 ef0 ef1 a b ok hra hrb ht0 ht1 ht2 he0 he1 hzm3 hzm4 hzm5))
set_option maxRecDepth 100000 in
theorem px_stop (hl : l.stackTraces = false) (w : z_W) (S : sp_S) (hW : sp_CW S w.1) (ok : sp_ok S) (g : Int32) (n : Int32) : z_Con G l mX8_stop 20 14 120 w [.ref 0, .int g, .int n] (fun v w9 => q_k22 g (n < -1000 ∨ 99999 < n) = 0 ∧ v = some (.int ((sp_E S (sp_i g)).1.1)) ∧ sp_CW (sp_uE S (sp_i g) (sp_stp' (sp_E S (sp_i g)) n)) w9.1 ∧ z_hi w w9) (fun E w9 => ((z_xI E ∧ q_k22 g (n < -1000 ∨ 99999 < n) = 1) ∨ (z_xA E ∧ q_k22 g (n < -1000 ∨ 99999 < n) = 2)) ∧ w9 = w) := by
  obtain ⟨L, P⟩ := w
  exact sp_liftX hW rfl (sp_elX hW (fun fa fb mt ft ct f0 g0 f1 g1 c1 f2 g2 c2 f3 g3 c3 m3 f4 g4 c4 m4 f5 g5 c5 m5 ef0 ef1 hra hrb ht0 ht1 ht2 he0 he1 hzm3 hzm4 hzm5 => c_X8_stop_p hl S fa fb mt ft ct f0 g0 f1 g1 c1 f2 g2 c2 f3 g3 c3 m3 f4 g4 c4 m4 f5 g5 c5 m5 ef0 ef1 g n ok hra hrb ht0 ht1 ht2 he0 he1 hzm3 hzm4 hzm5))
set_option maxRecDepth 100000 in
theorem px_forget (hl : l.stackTraces = false) (w : z_W) (S : sp_S) (hW : sp_CW S w.1) (ok : sp_ok S) (g : Int32) : z_Con G l mX8_forget 20 14 120 w [.ref 0, .int g] (fun v w9 => q_k2 g = 0 ∧ v = some (.int ((sp_E S (sp_i g)).1.2.1)) ∧ sp_CW (sp_uE S (sp_i g) (sp_fgt (sp_E S (sp_i g)))) w9.1 ∧ z_hi w w9) (fun E w9 => ((z_xI E ∧ q_k2 g = 1)) ∧ w9 = w) := by
  obtain ⟨L, P⟩ := w
  exact sp_liftX hW rfl (sp_elX hW (fun fa fb mt ft ct f0 g0 f1 g1 c1 f2 g2 c2 f3 g3 c3 m3 f4 g4 c4 m4 f5 g5 c5 m5 ef0 ef1 hra hrb ht0 ht1 ht2 he0 he1 hzm3 hzm4 hzm5 => c_X8_forget_p hl S fa fb mt ft ct f0 g0 f1 g1 c1 f2 g2 c2 f3 g3 c3 m3 f4 g4 c4 m4 f5 g5 c5 m5 ef0 ef1 g ok hra hrb ht0 ht1 ht2 he0 he1 hzm3 hzm4 hzm5))
set_option maxRecDepth 100000 in
theorem px_heard (hl : l.stackTraces = false) (w : z_W) (S : sp_S) (hW : sp_CW S w.1) (ok : sp_ok S) (g : Int32) (w0 : Int32) : z_Con G l mX8_heard 20 14 120 w [.ref 0, .int g, .int w0] (fun v w9 => q_k22 g (w0 < 0 ∨ 3 < w0) = 0 ∧ v = some (.int (sp_tel (sp_E S (sp_i g)) w0)) ∧ sp_CW (S) w9.1 ∧ z_hi w w9) (fun E w9 => ((z_xI E ∧ q_k22 g (w0 < 0 ∨ 3 < w0) = 1) ∨ (z_xA E ∧ q_k22 g (w0 < 0 ∨ 3 < w0) = 2)) ∧ w9 = w) := by
  obtain ⟨L, P⟩ := w
  exact sp_liftX hW rfl (sp_elX hW (fun fa fb mt ft ct f0 g0 f1 g1 c1 f2 g2 c2 f3 g3 c3 m3 f4 g4 c4 m4 f5 g5 c5 m5 ef0 ef1 hra hrb ht0 ht1 ht2 he0 he1 hzm3 hzm4 hzm5 => c_X8_heard_p hl S fa fb mt ft ct f0 g0 f1 g1 c1 f2 g2 c2 f3 g3 c3 m3 f4 g4 c4 m4 f5 g5 c5 m5 ef0 ef1 g w0 ok hra hrb ht0 ht1 ht2 he0 he1 hzm3 hzm4 hzm5))
set_option maxRecDepth 100000 in
theorem px_length (hl : l.stackTraces = false) (w : z_W) (S : sp_S) (hW : sp_CW S w.1) (ok : sp_ok S) (r : Int32) : z_Con G l mX8_length 20 14 120 w [.ref 0, .int r] (fun v w9 => q_k2 r = 0 ∧ v = some (.int (nI (sp_R S (sp_i r)).length)) ∧ sp_CW (S) w9.1 ∧ z_hi w w9) (fun E w9 => ((z_xI E ∧ q_k2 r = 1)) ∧ w9 = w) := by
  obtain ⟨L, P⟩ := w
  exact sp_liftX hW rfl (sp_elX hW (fun fa fb mt ft ct f0 g0 f1 g1 c1 f2 g2 c2 f3 g3 c3 m3 f4 g4 c4 m4 f5 g5 c5 m5 ef0 ef1 hra hrb ht0 ht1 ht2 he0 he1 hzm3 hzm4 hzm5 => c_X8_length_p hl S fa fb mt ft ct f0 g0 f1 g1 c1 f2 g2 c2 f3 g3 c3 m3 f4 g4 c4 m4 f5 g5 c5 m5 ef0 ef1 r ok hra hrb ht0 ht1 ht2 he0 he1 hzm3 hzm4 hzm5))
set_option maxRecDepth 100000 in
theorem px_at (hl : l.stackTraces = false) (w : z_W) (S : sp_S) (hW : sp_CW S w.1) (ok : sp_ok S) (r : Int32) (p : Int32) : z_Con G l mX8_at 20 14 120 w [.ref 0, .int r, .int p] (fun v w9 => sp_k21 r (p < 0 ∨ nI (sp_R S (sp_i r)).length - 1 < p) = 0 ∧ v = some (.int (((sp_R S (sp_i r))[sp_i p]?).getD 0)) ∧ sp_CW (S) w9.1 ∧ z_hi w w9) (fun E w9 => ((z_xI E ∧ sp_k21 r (p < 0 ∨ nI (sp_R S (sp_i r)).length - 1 < p) = 1)) ∧ w9 = w) := by
  obtain ⟨L, P⟩ := w
  exact sp_liftX hW rfl (sp_elX hW (fun fa fb mt ft ct f0 g0 f1 g1 c1 f2 g2 c2 f3 g3 c3 m3 f4 g4 c4 m4 f5 g5 c5 m5 ef0 ef1 hra hrb ht0 ht1 ht2 he0 he1 hzm3 hzm4 hzm5 => c_X8_at_p hl S fa fb mt ft ct f0 g0 f1 g1 c1 f2 g2 c2 f3 g3 c3 m3 f4 g4 c4 m4 f5 g5 c5 m5 ef0 ef1 r p ok hra hrb ht0 ht1 ht2 he0 he1 hzm3 hzm4 hzm5))
set_option maxRecDepth 100000 in
theorem px_isFixed (hl : l.stackTraces = false) (w : z_W) (S : sp_S) (hW : sp_CW S w.1) (ok : sp_ok S) (r : Int32) : z_Con G l mX8_isFixed 20 14 120 w [.ref 0, .int r] (fun v w9 => q_k2 r = 0 ∧ v = some (.int (z_bi (sp_F S (sp_i r)))) ∧ sp_CW (S) w9.1 ∧ z_hi w w9) (fun E w9 => ((z_xI E ∧ q_k2 r = 1)) ∧ w9 = w) := by
  obtain ⟨L, P⟩ := w
  exact sp_liftX hW rfl (sp_elX hW (fun fa fb mt ft ct f0 g0 f1 g1 c1 f2 g2 c2 f3 g3 c3 m3 f4 g4 c4 m4 f5 g5 c5 m5 ef0 ef1 hra hrb ht0 ht1 ht2 he0 he1 hzm3 hzm4 hzm5 => c_X8_isFixed_p hl S fa fb mt ft ct f0 g0 f1 g1 c1 f2 g2 c2 f3 g3 c3 m3 f4 g4 c4 m4 f5 g5 c5 m5 ef0 ef1 r ok hra hrb ht0 ht1 ht2 he0 he1 hzm3 hzm4 hzm5))
set_option maxRecDepth 100000 in
theorem px_counts (hl : l.stackTraces = false) (w : z_W) (S : sp_S) (hW : sp_CW S w.1) (ok : sp_ok S) (r : Int32) (w0 : Int32) : z_Con G l mX8_counts 20 14 120 w [.ref 0, .int r, .int w0] (fun v w9 => q_k22 r (w0 < 0 ∨ 4 < w0) = 0 ∧ v = some (.int (sp_C S (sp_i r) (sp_i w0))) ∧ sp_CW (S) w9.1 ∧ z_hi w w9) (fun E w9 => ((z_xI E ∧ q_k22 r (w0 < 0 ∨ 4 < w0) = 1) ∨ (z_xA E ∧ q_k22 r (w0 < 0 ∨ 4 < w0) = 2)) ∧ w9 = w) := by
  obtain ⟨L, P⟩ := w
  exact sp_liftX hW rfl (sp_elX hW (fun fa fb mt ft ct f0 g0 f1 g1 c1 f2 g2 c2 f3 g3 c3 m3 f4 g4 c4 m4 f5 g5 c5 m5 ef0 ef1 hra hrb ht0 ht1 ht2 he0 he1 hzm3 hzm4 hzm5 => c_X8_counts_p hl S fa fb mt ft ct f0 g0 f1 g1 c1 f2 g2 c2 f3 g3 c3 m3 f4 g4 c4 m4 f5 g5 c5 m5 ef0 ef1 r w0 ok hra hrb ht0 ht1 ht2 he0 he1 hzm3 hzm4 hzm5))
set_option maxRecDepth 100000 in
theorem px_shelfCounts (hl : l.stackTraces = false) (w : z_W) (S : sp_S) (hW : sp_CW S w.1) (ok : sp_ok S) (w0 : Int32) : z_Con G l mX8_shelfCounts 20 14 120 w [.ref 0, .int w0] (fun v w9 => q_k1 (w0 < 0 ∨ 6 < w0) = 0 ∧ v = some (.int (sp_C S 2 (sp_i w0))) ∧ sp_CW (S) w9.1 ∧ z_hi w w9) (fun E w9 => ((z_xA E ∧ q_k1 (w0 < 0 ∨ 6 < w0) = 1)) ∧ w9 = w) := by
  obtain ⟨L, P⟩ := w
  exact sp_liftX hW rfl (sp_elX hW (fun fa fb mt ft ct f0 g0 f1 g1 c1 f2 g2 c2 f3 g3 c3 m3 f4 g4 c4 m4 f5 g5 c5 m5 ef0 ef1 hra hrb ht0 ht1 ht2 he0 he1 hzm3 hzm4 hzm5 => c_X8_shelfCounts_p hl S fa fb mt ft ct f0 g0 f1 g1 c1 f2 g2 c2 f3 g3 c3 m3 f4 g4 c4 m4 f5 g5 c5 m5 ef0 ef1 w0 ok hra hrb ht0 ht1 ht2 he0 he1 hzm3 hzm4 hzm5))
set_option maxRecDepth 100000 in
theorem px_forgetCounts (hl : l.stackTraces = false) (w : z_W) (S : sp_S) (hW : sp_CW S w.1) (ok : sp_ok S) : z_Con G l mX8_forgetCounts 20 14 120 w [.ref 0] (fun v w9 => v = some (.int (sp_cs S)) ∧ sp_CW (sp_csS S) w9.1 ∧ z_hi w w9) (fun _ _ => False) := by
  obtain ⟨L, P⟩ := w
  exact sp_liftF hW rfl (sp_elF hW (fun fa fb mt ft ct f0 g0 f1 g1 c1 f2 g2 c2 f3 g3 c3 m3 f4 g4 c4 m4 f5 g5 c5 m5 ef0 ef1 hra hrb ht0 ht1 ht2 he0 he1 hzm3 hzm4 hzm5 => c_X8_forgetCounts_p hl S fa fb mt ft ct f0 g0 f1 g1 c1 f2 g2 c2 f3 g3 c3 m3 f4 g4 c4 m4 f5 g5 c5 m5 ef0 ef1 ok hra hrb ht0 ht1 ht2 he0 he1 hzm3 hzm4 hzm5))
set_option maxRecDepth 100000 in
theorem px_get (hl : l.stackTraces = false) (w : z_W) (S : sp_S) (hW : sp_CW S w.1) (ok : sp_ok S) (t : Int32) (k : Int32) : z_Con G l mX8_get 20 14 120 w [.ref 0, .int t, .int k] (fun v w9 => sp_k32 t (sp_bk k) = 0 ∧ v = some (.int (sp_lk (sp_T S (sp_i t)) (sp_i k))) ∧ sp_CW (S) w9.1 ∧ z_hi w w9) (fun E w9 => ((z_xI E ∧ sp_k32 t (sp_bk k) = 1) ∨ (z_xA E ∧ sp_k32 t (sp_bk k) = 2)) ∧ w9 = w) := by
  obtain ⟨L, P⟩ := w
  exact sp_liftX hW rfl (sp_elX hW (fun fa fb mt ft ct f0 g0 f1 g1 c1 f2 g2 c2 f3 g3 c3 m3 f4 g4 c4 m4 f5 g5 c5 m5 ef0 ef1 hra hrb ht0 ht1 ht2 he0 he1 hzm3 hzm4 hzm5 => c_X8_get_p hl S fa fb mt ft ct f0 g0 f1 g1 c1 f2 g2 c2 f3 g3 c3 m3 f4 g4 c4 m4 f5 g5 c5 m5 ef0 ef1 t k ok hra hrb ht0 ht1 ht2 he0 he1 hzm3 hzm4 hzm5))
set_option maxRecDepth 100000 in
theorem px_getOr (hl : l.stackTraces = false) (w : z_W) (S : sp_S) (hW : sp_CW S w.1) (ok : sp_ok S) (t : Int32) (k : Int32) (y : Int32) : z_Con G l mX8_getOr 20 14 120 w [.ref 0, .int t, .int k, .int y] (fun v w9 => sp_k32 t (sp_bk k ∨ sp_bv y) = 0 ∧ v = some (.int ((if sp_lk (sp_T S (sp_i t)) (sp_i k) = -1000 then y else sp_lk (sp_T S (sp_i t)) (sp_i k)))) ∧ sp_CW (S) w9.1 ∧ z_hi w w9) (fun E w9 => ((z_xI E ∧ sp_k32 t (sp_bk k ∨ sp_bv y) = 1) ∨ (z_xA E ∧ sp_k32 t (sp_bk k ∨ sp_bv y) = 2)) ∧ w9 = w) := by
  obtain ⟨L, P⟩ := w
  exact sp_liftX hW rfl (sp_elX hW (fun fa fb mt ft ct f0 g0 f1 g1 c1 f2 g2 c2 f3 g3 c3 m3 f4 g4 c4 m4 f5 g5 c5 m5 ef0 ef1 hra hrb ht0 ht1 ht2 he0 he1 hzm3 hzm4 hzm5 => c_X8_getOr_p hl S fa fb mt ft ct f0 g0 f1 g1 c1 f2 g2 c2 f3 g3 c3 m3 f4 g4 c4 m4 f5 g5 c5 m5 ef0 ef1 t k y ok hra hrb ht0 ht1 ht2 he0 he1 hzm3 hzm4 hzm5))
set_option maxRecDepth 100000 in
theorem px_has (hl : l.stackTraces = false) (w : z_W) (S : sp_S) (hW : sp_CW S w.1) (ok : sp_ok S) (t : Int32) (k : Int32) : z_Con G l mX8_has 20 14 120 w [.ref 0, .int t, .int k] (fun v w9 => sp_k32 t (sp_bk k) = 0 ∧ v = some (.int (z_bi (!(decide (sp_lk (sp_T S (sp_i t)) (sp_i k) = -1000))))) ∧ sp_CW (S) w9.1 ∧ z_hi w w9) (fun E w9 => ((z_xI E ∧ sp_k32 t (sp_bk k) = 1) ∨ (z_xA E ∧ sp_k32 t (sp_bk k) = 2)) ∧ w9 = w) := by
  obtain ⟨L, P⟩ := w
  exact sp_liftX hW rfl (sp_elX hW (fun fa fb mt ft ct f0 g0 f1 g1 c1 f2 g2 c2 f3 g3 c3 m3 f4 g4 c4 m4 f5 g5 c5 m5 ef0 ef1 hra hrb ht0 ht1 ht2 he0 he1 hzm3 hzm4 hzm5 => c_X8_has_p hl S fa fb mt ft ct f0 g0 f1 g1 c1 f2 g2 c2 f3 g3 c3 m3 f4 g4 c4 m4 f5 g5 c5 m5 ef0 ef1 t k ok hra hrb ht0 ht1 ht2 he0 he1 hzm3 hzm4 hzm5))
set_option maxRecDepth 100000 in
theorem px_size (hl : l.stackTraces = false) (w : z_W) (S : sp_S) (hW : sp_CW S w.1) (ok : sp_ok S) (t : Int32) : z_Con G l mX8_size 20 14 120 w [.ref 0, .int t] (fun v w9 => sp_k3 t = 0 ∧ v = some (.int (nI (sp_T S (sp_i t)).length)) ∧ sp_CW (S) w9.1 ∧ z_hi w w9) (fun E w9 => ((z_xI E ∧ sp_k3 t = 1)) ∧ w9 = w) := by
  obtain ⟨L, P⟩ := w
  exact sp_liftX hW rfl (sp_elX hW (fun fa fb mt ft ct f0 g0 f1 g1 c1 f2 g2 c2 f3 g3 c3 m3 f4 g4 c4 m4 f5 g5 c5 m5 ef0 ef1 hra hrb ht0 ht1 ht2 he0 he1 hzm3 hzm4 hzm5 => c_X8_size_p hl S fa fb mt ft ct f0 g0 f1 g1 c1 f2 g2 c2 f3 g3 c3 m3 f4 g4 c4 m4 f5 g5 c5 m5 ef0 ef1 t ok hra hrb ht0 ht1 ht2 he0 he1 hzm3 hzm4 hzm5))
set_option maxRecDepth 100000 in
theorem px_areLike (hl : l.stackTraces = false) (w : z_W) (S : sp_S) (hW : sp_CW S w.1) (ok : sp_ok S) (t : Int32) (u : Int32) : z_Con G l mX8_areLike 20 14 120 w [.ref 0, .int t, .int u] (fun v w9 => sp_k33 t u = 0 ∧ v = some (.int (z_bi (sp_lik (sp_T S (sp_i t)) (sp_T S (sp_i u))))) ∧ sp_CW (S) w9.1 ∧ z_hi w w9) (fun E w9 => ((z_xI E ∧ sp_k33 t u = 1)) ∧ w9 = w) := by
  obtain ⟨L, P⟩ := w
  exact sp_liftX hW rfl (sp_elX hW (fun fa fb mt ft ct f0 g0 f1 g1 c1 f2 g2 c2 f3 g3 c3 m3 f4 g4 c4 m4 f5 g5 c5 m5 ef0 ef1 hra hrb ht0 ht1 ht2 he0 he1 hzm3 hzm4 hzm5 => c_X8_areLike_p hl S fa fb mt ft ct f0 g0 f1 g1 c1 f2 g2 c2 f3 g3 c3 m3 f4 g4 c4 m4 f5 g5 c5 m5 ef0 ef1 t u ok hra hrb ht0 ht1 ht2 he0 he1 hzm3 hzm4 hzm5))
set_option maxRecDepth 100000 in
theorem px_given (hl : l.stackTraces = false) (w : z_W) (S : sp_S) (hW : sp_CW S w.1) (ok : sp_ok S) (r : Int32) (k : Int32) (y : Int32) (n : Int32) : z_Con G l mX8_given 20 14 120 w [.ref 0, .int r, .int k, .int y, .int n] (fun v w9 => q_k1 (sp_bk k ∨ (y < -1000 ∨ 999 < y) ∨ (r < 0 ∨ 5 < r) ∨ sp_bv n) = 0 ∧ v = some (.int ((q_rt r k (q_d y) n).getD (-9))) ∧ sp_CW (S) w9.1 ∧ z_hi w w9) (fun E w9 => ((z_xA E ∧ q_k1 (sp_bk k ∨ (y < -1000 ∨ 999 < y) ∨ (r < 0 ∨ 5 < r) ∨ sp_bv n) = 1)) ∧ w9 = w) := by
  obtain ⟨L, P⟩ := w
  exact sp_liftX hW rfl (sp_elX hW (fun fa fb mt ft ct f0 g0 f1 g1 c1 f2 g2 c2 f3 g3 c3 m3 f4 g4 c4 m4 f5 g5 c5 m5 ef0 ef1 hra hrb ht0 ht1 ht2 he0 he1 hzm3 hzm4 hzm5 => c_X8_given_p hl S fa fb mt ft ct f0 g0 f1 g1 c1 f2 g2 c2 f3 g3 c3 m3 f4 g4 c4 m4 f5 g5 c5 m5 ef0 ef1 r k y n ok hra hrb ht0 ht1 ht2 he0 he1 hzm3 hzm4 hzm5))
set_option maxRecDepth 100000 in
theorem px_tested (hl : l.stackTraces = false) (w : z_W) (S : sp_S) (hW : sp_CW S w.1) (ok : sp_ok S) (t : Int32) (y : Int32) (n : Int32) : z_Con G l mX8_tested 20 14 120 w [.ref 0, .int t, .int y, .int n] (fun v w9 => q_k1 ((t < 0 ∨ 5 < t) ∨ sp_bv y ∨ sp_bv n) = 0 ∧ v = some (.int ((q_tt t y n).getD (-9))) ∧ sp_CW (S) w9.1 ∧ z_hi w w9) (fun E w9 => ((z_xA E ∧ q_k1 ((t < 0 ∨ 5 < t) ∨ sp_bv y ∨ sp_bv n) = 1)) ∧ w9 = w) := by
  obtain ⟨L, P⟩ := w
  exact sp_liftX hW rfl (sp_elX hW (fun fa fb mt ft ct f0 g0 f1 g1 c1 f2 g2 c2 f3 g3 c3 m3 f4 g4 c4 m4 f5 g5 c5 m5 ef0 ef1 hra hrb ht0 ht1 ht2 he0 he1 hzm3 hzm4 hzm5 => c_X8_tested_p hl S fa fb mt ft ct f0 g0 f1 g1 c1 f2 g2 c2 f3 g3 c3 m3 f4 g4 c4 m4 f5 g5 c5 m5 ef0 ef1 t y n ok hra hrb ht0 ht1 ht2 he0 he1 hzm3 hzm4 hzm5))
set_option maxRecDepth 100000 in
theorem px_knock (hl : l.stackTraces = false) (w : z_W) (S : sp_S) (hW : sp_CW S w.1) (ok : sp_ok S) : z_Con G l mX8_knock 20 14 120 w [.ref 0] (fun v w9 => v = some (.int (S.1.2 + 1)) ∧ sp_CW (sp_kno S) w9.1 ∧ z_hi w w9) (fun _ _ => False) := by
  obtain ⟨L, P⟩ := w
  exact sp_liftF hW rfl (sp_elF hW (fun fa fb mt ft ct f0 g0 f1 g1 c1 f2 g2 c2 f3 g3 c3 m3 f4 g4 c4 m4 f5 g5 c5 m5 ef0 ef1 hra hrb ht0 ht1 ht2 he0 he1 hzm3 hzm4 hzm5 => c_X8_knock_p hl S fa fb mt ft ct f0 g0 f1 g1 c1 f2 g2 c2 f3 g3 c3 m3 f4 g4 c4 m4 f5 g5 c5 m5 ef0 ef1 ok hra hrb ht0 ht1 ht2 he0 he1 hzm3 hzm4 hzm5))
set_option maxRecDepth 100000 in
theorem px_house (hl : l.stackTraces = false) (w : z_W) (S : sp_S) (hW : sp_CW S w.1) (ok : sp_ok S) (w0 : Int32) : z_Con G l mX8_house 20 14 120 w [.ref 0, .int w0] (fun v w9 => q_k1 (w0 < 0 ∨ 4 < w0) = 0 ∧ v = some (.int (sp_hse S w0)) ∧ sp_CW (S) w9.1 ∧ z_hi w w9) (fun E w9 => ((z_xA E ∧ q_k1 (w0 < 0 ∨ 4 < w0) = 1)) ∧ w9 = w) := by
  obtain ⟨L, P⟩ := w
  exact sp_liftX hW rfl (sp_elX hW (fun fa fb mt ft ct f0 g0 f1 g1 c1 f2 g2 c2 f3 g3 c3 m3 f4 g4 c4 m4 f5 g5 c5 m5 ef0 ef1 hra hrb ht0 ht1 ht2 he0 he1 hzm3 hzm4 hzm5 => c_X8_house_p hl S fa fb mt ft ct f0 g0 f1 g1 c1 f2 g2 c2 f3 g3 c3 m3 f4 g4 c4 m4 f5 g5 c5 m5 ef0 ef1 w0 ok hra hrb ht0 ht1 ht2 he0 he1 hzm3 hzm4 hzm5))
end ZPx
end ZM0
section ZM1
section ZLxa
variable {G : z_G} {l : Launch} {y : z_M} {S : z_S} {pc : Nat} {lo : List (Nat × Value)} {st : List Value} {w w9 : z_W} {kc ks : Nat}
theorem j_lcmp {a b : Int64} (hd : decode y.2.1 pc = .ok (.lcmp, 1)) (h : z_J G l y S (pc + 1) lo (.int (lg_cmp a b) :: st) w kc ks) : z_J G l y S pc lo (.long b :: .long a :: st) w kc ks := by
  intro p e s m args below meth c R0 hok R H locs ls cst hat hlo hst
  obtain ⟨c1, cs1, rfl, h1, hst1⟩ := z_Lc hst
  obtain ⟨c2, cs2, rfl, h2, hst2⟩ := z_Lc hst1
  have h1 : c1 = .long b := h1
  have h2 : c2 = .long a := h2
  subst h1 h2
  exact W.lcmp hok.1 hok.2.1 hd (h p e s m args below meth c R0 hok R H locs ls _ hat hlo ⟨rfl, hst2⟩)
theorem q_cmp {a b : Int64} (h : a = b) : lg_cmp a b = 0 := by
  subst h
  unfold lg_cmp
  rw [if_neg (Int64.lt_irrefl), if_pos rfl]
end ZLxa
section ZLx
variable {G : z_G} {l : Launch}
theorem sp_rif01 {b : Bool} {T : List (Nat × Int32)} {c : Nat → Int32} {k : Nat} {o v : Int32} : (sp_rif b T c k o v).1.getD (-9) = 0 ∨ (sp_rif b T c k o v).1.getD (-9) = 1 := by
  unfold sp_rif
  split
  · exact Or.inr rfl
  · exact Or.inl rfl
theorem sp_rmp01 {T : List (Nat × Int32)} {c : Nat → Int32} {k : Nat} {v : Int32} : (sp_rmp T c k v).1.getD (-9) = 0 ∨ (sp_rmp T c k v).1.getD (-9) = 1 := by
  unfold sp_rmp
  split
  · exact Or.inr rfl
  · exact Or.inl rfl
def z_LX (x : Nat) (C M : sp_S) (n : Int64) (w : z_W) : Prop := (sp_CW C w.1 ∧ sp_ok C) ∧ (∃ s, z_mst w s ∧ sp_MR M s ∧ sp_ok M) ∧ (∃ v : Value, z_g w x = some (.inr (13, [.long n, v]))) ∧ 1000 ≤ x ∧ x % 64 = 60
theorem z_LX.cls {x : Nat} {C C2 M : sp_S} {n : Int64} {w w9 : z_W} (h : z_LX x C M n w) (h1 : sp_CW C2 w9.1) (ok : sp_ok C2) (h2 : z_hi w w9) : z_LX x C2 M n w9 := by
  obtain ⟨-, ⟨s, hs, hk⟩, ⟨v, hg⟩, hx, hx2⟩ := h
  exact ⟨⟨h1, ok⟩, ⟨s, hs.hi h2, hk⟩, ⟨v, (h2.1 x hx (Or.inr (by omega))).trans hg⟩, hx, hx2⟩
theorem z_LX.out {x : Nat} {C M : sp_S} {n n' : Int64} {w w9 : z_W} {v : Value} (h : z_LX x C M n w) (u : z_up w x (.inr (13, [.long n', v])) w9) : z_LX x C M n' w9 := by
  obtain ⟨hW, ⟨s, hs, hk⟩, -, hx, hx2⟩ := h
  exact ⟨by rw [u.2.2.1]; exact hW, ⟨s, hs.hm ⟨fun m h1 h2 => u.2.1 m (fun z => by omega), u.2.2.2⟩, hk⟩, ⟨v, u.1⟩, hx, hx2⟩
theorem z_LX.x1 {x : Nat} {C M : sp_S} {n : Int64} {w : z_W} (h : z_LX x C M n w) : 1000 ≤ x := h.2.2.2.1
theorem z_LX.fn {x : Nat} {C M : sp_S} {n : Int64} {w : z_W} (h : z_LX x C M n w) : z_fn w := by
  obtain ⟨-, ⟨s, hs, -⟩, -⟩ := h
  exact hs.fn
theorem sp_CW.c0 {S : sp_S} {w : z_W} (h : sp_CW S w.1) : ∃ fs, z_g w 0 = some (.inr (12, fs)) := by
  obtain ⟨fa, fb, mt, ft, ct, f0, g0, f1, g1, c1, f2, g2, c2, f3, g3, c3, m3, f4, g4, c4, m4, f5, g5, c5, m5, ef0, ef1, hra, hrb, ht0, ht1, ht2, he0, he1, hzm3, hzm4, hzm5, hL⟩ := h
  exact ⟨_, z_g1 hL (by decide) rfl⟩
theorem z_LX.rc {x : Nat} {C M : sp_S} {n : Int64} {w : z_W} (h : z_LX x C M n w) : ∃ fs, z_g w 0 = some (.inr (12, fs)) := h.1.1.c0
theorem z_LX.mod {x : Nat} {C M M2 : sp_S} {n : Int64} {w w9 : z_W} {s9 : z_Z} (h : z_LX x C M n w) (h1 : z_fm 59 w w9) (h2 : z_mst w9 s9) (h3 : sp_MR M2 s9) (ok : sp_ok M2) : z_LX x C M2 n w9 := by
  obtain ⟨hW, -, ⟨v, hg⟩, hx, hx2⟩ := h
  exact ⟨by rw [h1.1]; exact hW, ⟨s9, h2, h3, ok⟩, ⟨v, h1.g hx (by omega) hg⟩, hx, hx2⟩
def z_trw (w : z_W) (t : Int32) : Prop := ∃ s, z_mst w s ∧ s.1.1 = t
abbrev t_type (S : sp_S) (r : Int32) (y : Int32) : Int32 := sp_k23 r (sp_bv y) ((sp_R S (sp_i r)).length = 12)
def k_type (S : sp_S) (r : Int32) (y : Int32) : sp_S := if t_type S r y = 0 then sp_uR S (sp_i r) ((sp_R S (sp_i r)) ++ [y]) else S
abbrev a_type (S : sp_S) (r : Int32) (y : Int32) : Int32 := nI ((sp_R S (sp_i r)) ++ [y]).length
theorem okk_type {S : sp_S} (r : Int32) (y : Int32) (ok : sp_ok S) : sp_ok (k_type S r y) := by
  unfold k_type
  by_cases h : t_type S r y = 0
  · rw [if_pos h]; exact ok_type ok h
  · rw [if_neg h]; exact ok
theorem kx_type (hl : l.stackTraces = false) {x : Nat} {C S : sp_S} {n9 : Int64} (w : z_W) (LT : z_LX x C S n9 w) (r : Int32) (y : Int32) : z_Con G l mX11_type 22 2 33 w [.ref 1000, .int r, .int y] (fun v w9 => ∃ r9 : Int32, v = some (.int r9) ∧ z_LX x C (k_type S r y) n9 w9 ∧ z_trw w9 (t_type S r y) ∧ (t_type S r y = 0 → r9 = a_type S r y)) (fun _ _ => False) := by
  obtain ⟨-, ⟨s, hs, hR, ok⟩, -⟩ := id LT
  refine z_weak (cx_type hl w S s r y hs hR) (fun v w9 q => ?_) (fun _ _ h => h)
  obtain ⟨r9, s9, hv, fm, h9, ht, R9, hr⟩ := q
  exact ⟨r9, hv, LT.mod fm h9 R9 (okk_type _ _ ok), ⟨s9, h9, ht⟩, hr⟩
abbrev t_drop (S : sp_S) (r : Int32) (m : Int32) : Int32 := q_k22 r (m < 1 ∨ nI (sp_R S (sp_i r)).length < m)
def k_drop (S : sp_S) (r : Int32) (m : Int32) : sp_S := if t_drop S r m = 0 then sp_uR S (sp_i r) ((sp_R S (sp_i r)).take ((sp_R S (sp_i r)).length - sp_i m)) else S
abbrev a_drop (S : sp_S) (r : Int32) (m : Int32) : Int32 := nI ((sp_R S (sp_i r)).take ((sp_R S (sp_i r)).length - sp_i m)).length
theorem okk_drop {S : sp_S} (r : Int32) (m : Int32) (ok : sp_ok S) : sp_ok (k_drop S r m) := by
  unfold k_drop
  by_cases h : t_drop S r m = 0
  · rw [if_pos h]; exact ok_drop ok h
  · rw [if_neg h]; exact ok
theorem kx_drop (hl : l.stackTraces = false) {x : Nat} {C S : sp_S} {n9 : Int64} (w : z_W) (LT : z_LX x C S n9 w) (r : Int32) (m : Int32) : z_Con G l mX11_drop 22 0 0 w [.ref 1000, .int r, .int m] (fun v w9 => ∃ r9 : Int32, v = some (.int r9) ∧ z_LX x C (k_drop S r m) n9 w9 ∧ z_trw w9 (t_drop S r m) ∧ (t_drop S r m = 0 → r9 = a_drop S r m)) (fun _ _ => False) := by
  obtain ⟨-, ⟨s, hs, hR, ok⟩, -⟩ := id LT
  refine z_weak (cx_drop hl w S s r m hs hR) (fun v w9 q => ?_) (fun _ _ h => h)
  obtain ⟨r9, s9, hv, fm, h9, ht, R9, hr⟩ := q
  exact ⟨r9, hv, LT.mod fm h9 R9 (okk_drop _ _ ok), ⟨s9, h9, ht⟩, hr⟩
abbrev t_fix (S : sp_S) (r : Int32) (b : Bool) : Int32 := q_k2 r
def k_fix (S : sp_S) (r : Int32) (b : Bool) : sp_S := if t_fix S r b = 0 then sp_uF S (sp_i r) b else S
abbrev a_fix (S : sp_S) (r : Int32) (b : Bool) : Int32 := z_bi (sp_F S (sp_i r))
theorem okk_fix {S : sp_S} (r : Int32) (b : Bool) (ok : sp_ok S) : sp_ok (k_fix S r b) := by
  unfold k_fix
  by_cases h : t_fix S r b = 0
  · rw [if_pos h]; exact ok_uF ok
  · rw [if_neg h]; exact ok
theorem kx_fix (hl : l.stackTraces = false) {x : Nat} {C S : sp_S} {n9 : Int64} (w : z_W) (LT : z_LX x C S n9 w) (r : Int32) (b : Bool) : z_Con G l mX11_fix 20 0 0 w [.ref 1000, .int r, .int (z_bi b)] (fun v w9 => ∃ r9 : Int32, v = some (.int r9) ∧ z_LX x C (k_fix S r b) n9 w9 ∧ z_trw w9 (t_fix S r b) ∧ (t_fix S r b = 0 → r9 = a_fix S r b)) (fun _ _ => False) := by
  obtain ⟨-, ⟨s, hs, hR, ok⟩, -⟩ := id LT
  refine z_weak (cx_fix hl w S s r b hs hR) (fun v w9 q => ?_) (fun _ _ h => h)
  obtain ⟨r9, s9, hv, fm, h9, ht, R9, hr⟩ := q
  exact ⟨r9, hv, LT.mod fm h9 R9 (okk_fix _ _ ok), ⟨s9, h9, ht⟩, hr⟩
abbrev t_hear (S : sp_S) (r : Int32) (g : Int32) : Int32 := sp_k2b r g
def k_hear (S : sp_S) (r : Int32) (g : Int32) : sp_S := if t_hear S r g = 0 then sp_hrS S (sp_i r) (sp_i g) 0 else S
abbrev a_hear (S : sp_S) (r : Int32) (g : Int32) : Int32 := sp_an (sp_hr S (sp_i r) (sp_i g) 0).1
theorem okk_hear {S : sp_S} (r : Int32) (g : Int32) (ok : sp_ok S) : sp_ok (k_hear S r g) := by
  unfold k_hear
  by_cases h : t_hear S r g = 0
  · rw [if_pos h]; exact ok_hr ok (sp_i_2 (z_k2b h).2)
  · rw [if_neg h]; exact ok
theorem kx_hear (hl : l.stackTraces = false) {x : Nat} {C S : sp_S} {n9 : Int64} (w : z_W) (LT : z_LX x C S n9 w) (r : Int32) (g : Int32) : z_Con G l mX11_hear 22 24 372 w [.ref 1000, .int r, .int g] (fun v w9 => ∃ r9 : Int32, v = some (.int r9) ∧ z_LX x C (k_hear S r g) n9 w9 ∧ z_trw w9 (t_hear S r g) ∧ (t_hear S r g = 0 → r9 = a_hear S r g)) (fun _ _ => False) := by
  obtain ⟨-, ⟨s, hs, hR, ok⟩, -⟩ := id LT
  refine z_weak (cx_hear hl w S s r g hs hR) (fun v w9 q => ?_) (fun _ _ h => h)
  obtain ⟨r9, s9, hv, fm, h9, ht, R9, hr⟩ := q
  exact ⟨r9, hv, LT.mod fm h9 R9 (okk_hear _ _ ok), ⟨s9, h9, ht⟩, hr⟩
abbrev t_rest (S : sp_S) (r : Int32) (a : Int32) (g : Int32) : Int32 := sp_k2c r g (a < 0 ∨ nI (sp_R S (sp_i r)).length < a)
def k_rest (S : sp_S) (r : Int32) (a : Int32) (g : Int32) : sp_S := if t_rest S r a g = 0 then sp_hrS S (sp_i r) (sp_i g) (sp_i a) else S
abbrev a_rest (S : sp_S) (r : Int32) (a : Int32) (g : Int32) : Int32 := sp_an (sp_hr S (sp_i r) (sp_i g) (sp_i a)).1
theorem okk_rest {S : sp_S} (r : Int32) (a : Int32) (g : Int32) (ok : sp_ok S) : sp_ok (k_rest S r a g) := by
  unfold k_rest
  by_cases h : t_rest S r a g = 0
  · rw [if_pos h]; exact ok_hr ok (sp_i_2 (z_k2c h).2.1)
  · rw [if_neg h]; exact ok
theorem kx_rest (hl : l.stackTraces = false) {x : Nat} {C S : sp_S} {n9 : Int64} (w : z_W) (LT : z_LX x C S n9 w) (r : Int32) (a : Int32) (g : Int32) : z_Con G l mX11_rest 22 24 372 w [.ref 1000, .int r, .int a, .int g] (fun v w9 => ∃ r9 : Int32, v = some (.int r9) ∧ z_LX x C (k_rest S r a g) n9 w9 ∧ z_trw w9 (t_rest S r a g) ∧ (t_rest S r a g = 0 → r9 = a_rest S r a g)) (fun _ _ => False) := by
  obtain ⟨-, ⟨s, hs, hR, ok⟩, -⟩ := id LT
  refine z_weak (cx_rest hl w S s r a g hs hR) (fun v w9 q => ?_) (fun _ _ h => h)
  obtain ⟨r9, s9, hv, fm, h9, ht, R9, hr⟩ := q
  exact ⟨r9, hv, LT.mod fm h9 R9 (okk_rest _ _ _ ok), ⟨s9, h9, ht⟩, hr⟩
abbrev t_removeIf (S : sp_S) (r : Int32) (t : Int32) (n : Int32) : Int32 := q_k22 r ((t < 0 ∨ 5 < t) ∨ sp_bv n)
def k_removeIf (S : sp_S) (r : Int32) (t : Int32) (n : Int32) : sp_S := if t_removeIf S r t n = 0 then sp_sftS S (sp_i r) t n else S
abbrev a_removeIf (S : sp_S) (r : Int32) (t : Int32) (n : Int32) : Int32 := sp_ab (sp_sft S (sp_i r) t n).1
theorem okk_removeIf {S : sp_S} (r : Int32) (t : Int32) (n : Int32) (ok : sp_ok S) : sp_ok (k_removeIf S r t n) := by
  unfold k_removeIf
  by_cases h : t_removeIf S r t n = 0
  · rw [if_pos h]; exact ok_sft ok (sp_i_2 (z_k22 h).1)
  · rw [if_neg h]; exact ok
theorem kx_removeIf (hl : l.stackTraces = false) {x : Nat} {C S : sp_S} {n9 : Int64} (w : z_W) (LT : z_LX x C S n9 w) (r : Int32) (t : Int32) (n : Int32) : z_Con G l mX11_removeIf 22 0 0 w [.ref 1000, .int r, .int t, .int n] (fun v w9 => ∃ r9 : Int32, v = some (.int r9) ∧ z_LX x C (k_removeIf S r t n) n9 w9 ∧ z_trw w9 (t_removeIf S r t n) ∧ (t_removeIf S r t n = 0 → r9 = a_removeIf S r t n)) (fun _ _ => False) := by
  obtain ⟨-, ⟨s, hs, hR, ok⟩, -⟩ := id LT
  refine z_weak (cx_removeIf hl w S s r t n hs hR) (fun v w9 q => ?_) (fun _ _ h => h)
  obtain ⟨r9, s9, hv, fm, h9, ht, R9, hr⟩ := q
  exact ⟨r9, hv, LT.mod fm h9 R9 (okk_removeIf _ _ _ ok), ⟨s9, h9, ht⟩, hr⟩
abbrev t_replaceAll (S : sp_S) (r : Int32) (u : Int32) (n : Int32) : Int32 := q_k22 r (¬ (u = 0 ∨ u = 1 ∨ u = 4) ∨ sp_bv n)
def k_replaceAll (S : sp_S) (r : Int32) (u : Int32) (n : Int32) : sp_S := if t_replaceAll S r u n = 0 then sp_chgS S (sp_i r) u n else S
abbrev a_replaceAll (S : sp_S) (r : Int32) (u : Int32) (n : Int32) : Int32 := cond (sp_chg S (sp_i r) u n).1 (nI (sp_chg S (sp_i r) u n).2.2.length) (-9)
theorem okk_replaceAll {S : sp_S} (r : Int32) (u : Int32) (n : Int32) (ok : sp_ok S) : sp_ok (k_replaceAll S r u n) := by
  unfold k_replaceAll
  by_cases h : t_replaceAll S r u n = 0
  · rw [if_pos h]; exact ok_chg ok (sp_i_2 (z_k22 h).1) (Decidable.byContradiction fun z => (z_k22 h).2 (Or.inl fun y => z (y.elim Or.inl fun y => y.elim (fun y => Or.inr (Or.inl y)) fun y => Or.inr (Or.inr (Or.inl y))))) (sp_vl fun z => (z_k22 h).2 (Or.inr z))
  · rw [if_neg h]; exact ok
theorem kx_replaceAll (hl : l.stackTraces = false) {x : Nat} {C S : sp_S} {n9 : Int64} (w : z_W) (LT : z_LX x C S n9 w) (r : Int32) (u : Int32) (n : Int32) : z_Con G l mX11_replaceAll 22 12 12 w [.ref 1000, .int r, .int u, .int n] (fun v w9 => ∃ r9 : Int32, v = some (.int r9) ∧ z_LX x C (k_replaceAll S r u n) n9 w9 ∧ z_trw w9 (t_replaceAll S r u n) ∧ (t_replaceAll S r u n = 0 → r9 = a_replaceAll S r u n)) (fun _ _ => False) := by
  obtain ⟨-, ⟨s, hs, hR, ok⟩, -⟩ := id LT
  refine z_weak (cx_replaceAll hl w S s r u n hs hR ok) (fun v w9 q => ?_) (fun _ _ h => h)
  obtain ⟨r9, s9, hv, fm, h9, ht, R9, hr⟩ := q
  exact ⟨r9, hv, LT.mod fm h9 R9 (okk_replaceAll _ _ _ ok), ⟨s9, h9, ht⟩, hr⟩
abbrev t_copy (S : sp_S) (r : Int32) : Int32 := q_k2 r
def k_copy (S : sp_S) (r : Int32) : sp_S := if t_copy S r = 0 then sp_uR S (sp_i r) (sp_R S (1 - sp_i r)) else S
abbrev a_copy (S : sp_S) (r : Int32) : Int32 := nI (sp_R S (1 - sp_i r)).length
theorem okk_copy {S : sp_S} (r : Int32) (ok : sp_ok S) : sp_ok (k_copy S r) := by
  unfold k_copy
  by_cases h : t_copy S r = 0
  · rw [if_pos h]; exact ok_copy ok h
  · rw [if_neg h]; exact ok
theorem kx_copy (hl : l.stackTraces = false) {x : Nat} {C S : sp_S} {n9 : Int64} (w : z_W) (LT : z_LX x C S n9 w) (r : Int32) : z_Con G l mX11_copy 22 2 15 w [.ref 1000, .int r] (fun v w9 => ∃ r9 : Int32, v = some (.int r9) ∧ z_LX x C (k_copy S r) n9 w9 ∧ z_trw w9 (t_copy S r) ∧ (t_copy S r = 0 → r9 = a_copy S r)) (fun _ _ => False) := by
  obtain ⟨-, ⟨s, hs, hR, ok⟩, -⟩ := id LT
  refine z_weak (cx_copy hl w S s r hs hR) (fun v w9 q => ?_) (fun _ _ h => h)
  obtain ⟨r9, s9, hv, fm, h9, ht, R9, hr⟩ := q
  exact ⟨r9, hv, LT.mod fm h9 R9 (okk_copy _ ok), ⟨s9, h9, ht⟩, hr⟩
abbrev t_put (S : sp_S) (t : Int32) (k : Int32) (y : Int32) : Int32 := sp_k32 t (sp_bk k ∨ sp_bv y)
def k_put (S : sp_S) (t : Int32) (k : Int32) (y : Int32) : sp_S := if t_put S t k y = 0 then sp_tb S (sp_i t) (sp_put (sp_srt (sp_i t)) (sp_T S (sp_i t)) (sp_C S 2) (sp_i k) y) else S
abbrev a_put (S : sp_S) (t : Int32) (k : Int32) (y : Int32) : Int32 := (sp_put (sp_srt (sp_i t)) (sp_T S (sp_i t)) (sp_C S 2) (sp_i k) y).1.getD (-9)
theorem okk_put {S : sp_S} (t : Int32) (k : Int32) (y : Int32) (ok : sp_ok S) : sp_ok (k_put S t k y) := by
  unfold k_put
  by_cases h : t_put S t k y = 0
  · rw [if_pos h]; exact ok_put ok h
  · rw [if_neg h]; exact ok
theorem kx_put (hl : l.stackTraces = false) {x : Nat} {C S : sp_S} {n9 : Int64} (w : z_W) (LT : z_LX x C S n9 w) (t : Int32) (k : Int32) (y : Int32) : z_Con G l mX11_put 24 2 52 w [.ref 1000, .int t, .int k, .int y] (fun v w9 => ∃ r9 : Int32, v = some (.int r9) ∧ z_LX x C (k_put S t k y) n9 w9 ∧ z_trw w9 (t_put S t k y) ∧ (t_put S t k y = 0 → r9 = a_put S t k y)) (fun _ _ => False) := by
  obtain ⟨-, ⟨s, hs, hR, ok⟩, -⟩ := id LT
  refine z_weak (cx_put hl w S s t k y hs hR ok) (fun v w9 q => ?_) (fun _ _ h => h)
  obtain ⟨r9, s9, hv, fm, h9, ht, R9, hr⟩ := q
  exact ⟨r9, hv, LT.mod fm h9 R9 (okk_put _ _ _ ok), ⟨s9, h9, ht⟩, hr⟩
abbrev t_remove (S : sp_S) (t : Int32) (k : Int32) : Int32 := sp_k32 t (sp_bk k)
def k_remove (S : sp_S) (t : Int32) (k : Int32) : sp_S := if t_remove S t k = 0 then sp_tb S (sp_i t) (sp_del (sp_T S (sp_i t)) (sp_C S 2) (sp_i k)) else S
abbrev a_remove (S : sp_S) (t : Int32) (k : Int32) : Int32 := (sp_del (sp_T S (sp_i t)) (sp_C S 2) (sp_i k)).1.getD (-9)
theorem okk_remove {S : sp_S} (t : Int32) (k : Int32) (ok : sp_ok S) : sp_ok (k_remove S t k) := by
  unfold k_remove
  by_cases h : t_remove S t k = 0
  · rw [if_pos h]; exact ok_remove ok h
  · rw [if_neg h]; exact ok
theorem kx_remove (hl : l.stackTraces = false) {x : Nat} {C S : sp_S} {n9 : Int64} (w : z_W) (LT : z_LX x C S n9 w) (t : Int32) (k : Int32) : z_Con G l mX11_remove 24 2 52 w [.ref 1000, .int t, .int k] (fun v w9 => ∃ r9 : Int32, v = some (.int r9) ∧ z_LX x C (k_remove S t k) n9 w9 ∧ z_trw w9 (t_remove S t k) ∧ (t_remove S t k = 0 → r9 = a_remove S t k)) (fun _ _ => False) := by
  obtain ⟨-, ⟨s, hs, hR, ok⟩, -⟩ := id LT
  refine z_weak (cx_remove hl w S s t k hs hR ok) (fun v w9 q => ?_) (fun _ _ h => h)
  obtain ⟨r9, s9, hv, fm, h9, ht, R9, hr⟩ := q
  exact ⟨r9, hv, LT.mod fm h9 R9 (okk_remove _ _ ok), ⟨s9, h9, ht⟩, hr⟩
abbrev t_putIfAbsent (S : sp_S) (t : Int32) (k : Int32) (y : Int32) : Int32 := sp_k32 t (sp_bk k ∨ sp_bv y)
def k_putIfAbsent (S : sp_S) (t : Int32) (k : Int32) (y : Int32) : sp_S := if t_putIfAbsent S t k y = 0 then sp_tb S (sp_i t) (sp_pia (sp_srt (sp_i t)) (sp_T S (sp_i t)) (sp_C S 2) (sp_i k) y) else S
abbrev a_putIfAbsent (S : sp_S) (t : Int32) (k : Int32) (y : Int32) : Int32 := (sp_pia (sp_srt (sp_i t)) (sp_T S (sp_i t)) (sp_C S 2) (sp_i k) y).1.getD (-9)
theorem okk_putIfAbsent {S : sp_S} (t : Int32) (k : Int32) (y : Int32) (ok : sp_ok S) : sp_ok (k_putIfAbsent S t k y) := by
  unfold k_putIfAbsent
  by_cases h : t_putIfAbsent S t k y = 0
  · rw [if_pos h]; exact ok_putIfAbsent ok h
  · rw [if_neg h]; exact ok
theorem kx_putIfAbsent (hl : l.stackTraces = false) {x : Nat} {C S : sp_S} {n9 : Int64} (w : z_W) (LT : z_LX x C S n9 w) (t : Int32) (k : Int32) (y : Int32) : z_Con G l mX11_putIfAbsent 24 2 52 w [.ref 1000, .int t, .int k, .int y] (fun v w9 => ∃ r9 : Int32, v = some (.int r9) ∧ z_LX x C (k_putIfAbsent S t k y) n9 w9 ∧ z_trw w9 (t_putIfAbsent S t k y) ∧ (t_putIfAbsent S t k y = 0 → r9 = a_putIfAbsent S t k y)) (fun _ _ => False) := by
  obtain ⟨-, ⟨s, hs, hR, ok⟩, -⟩ := id LT
  refine z_weak (cx_putIfAbsent hl w S s t k y hs hR ok) (fun v w9 q => ?_) (fun _ _ h => h)
  obtain ⟨r9, s9, hv, fm, h9, ht, R9, hr⟩ := q
  exact ⟨r9, hv, LT.mod fm h9 R9 (okk_putIfAbsent _ _ _ ok), ⟨s9, h9, ht⟩, hr⟩
abbrev t_replace (S : sp_S) (t : Int32) (k : Int32) (y : Int32) : Int32 := sp_k32 t (sp_bk k ∨ sp_bv y)
def k_replace (S : sp_S) (t : Int32) (k : Int32) (y : Int32) : sp_S := if t_replace S t k y = 0 then sp_tb S (sp_i t) (sp_rep (sp_srt (sp_i t)) (sp_T S (sp_i t)) (sp_C S 2) (sp_i k) y) else S
abbrev a_replace (S : sp_S) (t : Int32) (k : Int32) (y : Int32) : Int32 := (sp_rep (sp_srt (sp_i t)) (sp_T S (sp_i t)) (sp_C S 2) (sp_i k) y).1.getD (-9)
theorem okk_replace {S : sp_S} (t : Int32) (k : Int32) (y : Int32) (ok : sp_ok S) : sp_ok (k_replace S t k y) := by
  unfold k_replace
  by_cases h : t_replace S t k y = 0
  · rw [if_pos h]; exact ok_replace ok h
  · rw [if_neg h]; exact ok
theorem kx_replace (hl : l.stackTraces = false) {x : Nat} {C S : sp_S} {n9 : Int64} (w : z_W) (LT : z_LX x C S n9 w) (t : Int32) (k : Int32) (y : Int32) : z_Con G l mX11_replace 24 2 52 w [.ref 1000, .int t, .int k, .int y] (fun v w9 => ∃ r9 : Int32, v = some (.int r9) ∧ z_LX x C (k_replace S t k y) n9 w9 ∧ z_trw w9 (t_replace S t k y) ∧ (t_replace S t k y = 0 → r9 = a_replace S t k y)) (fun _ _ => False) := by
  obtain ⟨-, ⟨s, hs, hR, ok⟩, -⟩ := id LT
  refine z_weak (cx_replace hl w S s t k y hs hR ok) (fun v w9 q => ?_) (fun _ _ h => h)
  obtain ⟨r9, s9, hv, fm, h9, ht, R9, hr⟩ := q
  exact ⟨r9, hv, LT.mod fm h9 R9 (okk_replace _ _ _ ok), ⟨s9, h9, ht⟩, hr⟩
abbrev t_replaceIf (S : sp_S) (t : Int32) (k : Int32) (o : Int32) (y : Int32) : Int32 := sp_k32 t (sp_bk k ∨ sp_bv o ∨ sp_bv y)
def k_replaceIf (S : sp_S) (t : Int32) (k : Int32) (o : Int32) (y : Int32) : sp_S := if t_replaceIf S t k o y = 0 then sp_tb S (sp_i t) (sp_rif (sp_srt (sp_i t)) (sp_T S (sp_i t)) (sp_C S 2) (sp_i k) o y) else S
abbrev a_replaceIf (S : sp_S) (t : Int32) (k : Int32) (o : Int32) (y : Int32) : Int32 := (sp_rif (sp_srt (sp_i t)) (sp_T S (sp_i t)) (sp_C S 2) (sp_i k) o y).1.getD (-9)
theorem okk_replaceIf {S : sp_S} (t : Int32) (k : Int32) (o : Int32) (y : Int32) (ok : sp_ok S) : sp_ok (k_replaceIf S t k o y) := by
  unfold k_replaceIf
  by_cases h : t_replaceIf S t k o y = 0
  · rw [if_pos h]; exact ok_replaceIf ok h
  · rw [if_neg h]; exact ok
theorem kx_replaceIf (hl : l.stackTraces = false) {x : Nat} {C S : sp_S} {n9 : Int64} (w : z_W) (LT : z_LX x C S n9 w) (t : Int32) (k : Int32) (o : Int32) (y : Int32) : z_Con G l mX11_replaceIf 24 2 52 w [.ref 1000, .int t, .int k, .int o, .int y] (fun v w9 => ∃ r9 : Int32, v = some (.int r9) ∧ z_LX x C (k_replaceIf S t k o y) n9 w9 ∧ z_trw w9 (t_replaceIf S t k o y) ∧ (t_replaceIf S t k o y = 0 → r9 = a_replaceIf S t k o y)) (fun _ _ => False) := by
  obtain ⟨-, ⟨s, hs, hR, ok⟩, -⟩ := id LT
  refine z_weak (cx_replaceIf hl w S s t k o y hs hR ok) (fun v w9 q => ?_) (fun _ _ h => h)
  obtain ⟨r9, s9, hv, fm, h9, ht, R9, hr⟩ := q
  exact ⟨r9, hv, LT.mod fm h9 R9 (okk_replaceIf _ _ _ _ ok), ⟨s9, h9, ht⟩, hr⟩
abbrev t_removePair (S : sp_S) (t : Int32) (k : Int32) (y : Int32) : Int32 := sp_k32 t (sp_bk k ∨ sp_bv y)
def k_removePair (S : sp_S) (t : Int32) (k : Int32) (y : Int32) : sp_S := if t_removePair S t k y = 0 then sp_tb S (sp_i t) (sp_rmp (sp_T S (sp_i t)) (sp_C S 2) (sp_i k) y) else S
abbrev a_removePair (S : sp_S) (t : Int32) (k : Int32) (y : Int32) : Int32 := (sp_rmp (sp_T S (sp_i t)) (sp_C S 2) (sp_i k) y).1.getD (-9)
theorem okk_removePair {S : sp_S} (t : Int32) (k : Int32) (y : Int32) (ok : sp_ok S) : sp_ok (k_removePair S t k y) := by
  unfold k_removePair
  by_cases h : t_removePair S t k y = 0
  · rw [if_pos h]; exact ok_removePair ok h
  · rw [if_neg h]; exact ok
theorem kx_removePair (hl : l.stackTraces = false) {x : Nat} {C S : sp_S} {n9 : Int64} (w : z_W) (LT : z_LX x C S n9 w) (t : Int32) (k : Int32) (y : Int32) : z_Con G l mX11_removePair 24 2 52 w [.ref 1000, .int t, .int k, .int y] (fun v w9 => ∃ r9 : Int32, v = some (.int r9) ∧ z_LX x C (k_removePair S t k y) n9 w9 ∧ z_trw w9 (t_removePair S t k y) ∧ (t_removePair S t k y = 0 → r9 = a_removePair S t k y)) (fun _ _ => False) := by
  obtain ⟨-, ⟨s, hs, hR, ok⟩, -⟩ := id LT
  refine z_weak (cx_removePair hl w S s t k y hs hR ok) (fun v w9 q => ?_) (fun _ _ h => h)
  obtain ⟨r9, s9, hv, fm, h9, ht, R9, hr⟩ := q
  exact ⟨r9, hv, LT.mod fm h9 R9 (okk_removePair _ _ _ ok), ⟨s9, h9, ht⟩, hr⟩
abbrev t_computeIfAbsent (S : sp_S) (t : Int32) (k : Int32) (r : Int32) (n : Int32) : Int32 := sp_k32 t (sp_bk k ∨ (r < 0 ∨ 5 < r) ∨ sp_bv n)
def k_computeIfAbsent (S : sp_S) (t : Int32) (k : Int32) (r : Int32) (n : Int32) : sp_S := if t_computeIfAbsent S t k r n = 0 then sp_tb S (sp_i t) (sp_cia (sp_srt (sp_i t)) (sp_T S (sp_i t)) (sp_C S 2) (sp_i k) r n) else S
abbrev a_computeIfAbsent (S : sp_S) (t : Int32) (k : Int32) (r : Int32) (n : Int32) : Int32 := (sp_cia (sp_srt (sp_i t)) (sp_T S (sp_i t)) (sp_C S 2) (sp_i k) r n).1.getD (-9)
theorem okk_computeIfAbsent {S : sp_S} (t : Int32) (k : Int32) (r : Int32) (n : Int32) (ok : sp_ok S) : sp_ok (k_computeIfAbsent S t k r n) := by
  unfold k_computeIfAbsent
  by_cases h : t_computeIfAbsent S t k r n = 0
  · rw [if_pos h]; exact ok_computeIfAbsent ok h
  · rw [if_neg h]; exact ok
theorem kx_computeIfAbsent (hl : l.stackTraces = false) {x : Nat} {C S : sp_S} {n9 : Int64} (w : z_W) (LT : z_LX x C S n9 w) (t : Int32) (k : Int32) (r : Int32) (n : Int32) : z_Con G l mX11_computeIfAbsent 26 2 52 w [.ref 1000, .int t, .int k, .int r, .int n] (fun v w9 => ∃ r9 : Int32, v = some (.int r9) ∧ z_LX x C (k_computeIfAbsent S t k r n) n9 w9 ∧ z_trw w9 (t_computeIfAbsent S t k r n) ∧ (t_computeIfAbsent S t k r n = 0 → r9 = a_computeIfAbsent S t k r n)) (fun _ _ => False) := by
  obtain ⟨-, ⟨s, hs, hR, ok⟩, -⟩ := id LT
  refine z_weak (cx_computeIfAbsent hl w S s t k r n hs hR ok) (fun v w9 q => ?_) (fun _ _ h => h)
  obtain ⟨r9, s9, hv, fm, h9, ht, R9, hr⟩ := q
  exact ⟨r9, hv, LT.mod fm h9 R9 (okk_computeIfAbsent _ _ _ _ ok), ⟨s9, h9, ht⟩, hr⟩
abbrev t_computeIfPresent (S : sp_S) (t : Int32) (k : Int32) (r : Int32) (n : Int32) : Int32 := sp_k32 t (sp_bk k ∨ (r < 0 ∨ 5 < r) ∨ sp_bv n)
def k_computeIfPresent (S : sp_S) (t : Int32) (k : Int32) (r : Int32) (n : Int32) : sp_S := if t_computeIfPresent S t k r n = 0 then sp_tb S (sp_i t) (sp_cip (sp_srt (sp_i t)) (sp_T S (sp_i t)) (sp_C S 2) (sp_i k) r n) else S
abbrev a_computeIfPresent (S : sp_S) (t : Int32) (k : Int32) (r : Int32) (n : Int32) : Int32 := (sp_cip (sp_srt (sp_i t)) (sp_T S (sp_i t)) (sp_C S 2) (sp_i k) r n).1.getD (-9)
theorem okk_computeIfPresent {S : sp_S} (t : Int32) (k : Int32) (r : Int32) (n : Int32) (ok : sp_ok S) : sp_ok (k_computeIfPresent S t k r n) := by
  unfold k_computeIfPresent
  by_cases h : t_computeIfPresent S t k r n = 0
  · rw [if_pos h]; exact ok_computeIfPresent ok h
  · rw [if_neg h]; exact ok
theorem kx_computeIfPresent (hl : l.stackTraces = false) {x : Nat} {C S : sp_S} {n9 : Int64} (w : z_W) (LT : z_LX x C S n9 w) (t : Int32) (k : Int32) (r : Int32) (n : Int32) : z_Con G l mX11_computeIfPresent 26 2 52 w [.ref 1000, .int t, .int k, .int r, .int n] (fun v w9 => ∃ r9 : Int32, v = some (.int r9) ∧ z_LX x C (k_computeIfPresent S t k r n) n9 w9 ∧ z_trw w9 (t_computeIfPresent S t k r n) ∧ (t_computeIfPresent S t k r n = 0 → r9 = a_computeIfPresent S t k r n)) (fun _ _ => False) := by
  obtain ⟨-, ⟨s, hs, hR, ok⟩, -⟩ := id LT
  refine z_weak (cx_computeIfPresent hl w S s t k r n hs hR ok) (fun v w9 q => ?_) (fun _ _ h => h)
  obtain ⟨r9, s9, hv, fm, h9, ht, R9, hr⟩ := q
  exact ⟨r9, hv, LT.mod fm h9 R9 (okk_computeIfPresent _ _ _ _ ok), ⟨s9, h9, ht⟩, hr⟩
abbrev t_compute (S : sp_S) (t : Int32) (k : Int32) (r : Int32) (n : Int32) : Int32 := sp_k32 t (sp_bk k ∨ (r < 0 ∨ 5 < r) ∨ sp_bv n)
def k_compute (S : sp_S) (t : Int32) (k : Int32) (r : Int32) (n : Int32) : sp_S := if t_compute S t k r n = 0 then sp_tb S (sp_i t) (sp_cmp (sp_srt (sp_i t)) (sp_T S (sp_i t)) (sp_C S 2) (sp_i k) r n) else S
abbrev a_compute (S : sp_S) (t : Int32) (k : Int32) (r : Int32) (n : Int32) : Int32 := (sp_cmp (sp_srt (sp_i t)) (sp_T S (sp_i t)) (sp_C S 2) (sp_i k) r n).1.getD (-9)
theorem okk_compute {S : sp_S} (t : Int32) (k : Int32) (r : Int32) (n : Int32) (ok : sp_ok S) : sp_ok (k_compute S t k r n) := by
  unfold k_compute
  by_cases h : t_compute S t k r n = 0
  · rw [if_pos h]; exact ok_compute ok h
  · rw [if_neg h]; exact ok
theorem kx_compute (hl : l.stackTraces = false) {x : Nat} {C S : sp_S} {n9 : Int64} (w : z_W) (LT : z_LX x C S n9 w) (t : Int32) (k : Int32) (r : Int32) (n : Int32) : z_Con G l mX11_compute 26 2 52 w [.ref 1000, .int t, .int k, .int r, .int n] (fun v w9 => ∃ r9 : Int32, v = some (.int r9) ∧ z_LX x C (k_compute S t k r n) n9 w9 ∧ z_trw w9 (t_compute S t k r n) ∧ (t_compute S t k r n = 0 → r9 = a_compute S t k r n)) (fun _ _ => False) := by
  obtain ⟨-, ⟨s, hs, hR, ok⟩, -⟩ := id LT
  refine z_weak (cx_compute hl w S s t k r n hs hR ok) (fun v w9 q => ?_) (fun _ _ h => h)
  obtain ⟨r9, s9, hv, fm, h9, ht, R9, hr⟩ := q
  exact ⟨r9, hv, LT.mod fm h9 R9 (okk_compute _ _ _ _ ok), ⟨s9, h9, ht⟩, hr⟩
abbrev t_merge (S : sp_S) (t : Int32) (k : Int32) (y : Int32) (r : Int32) : Int32 := sp_k32 t (sp_bk k ∨ (r < 0 ∨ 5 < r) ∨ sp_bv y)
def k_merge (S : sp_S) (t : Int32) (k : Int32) (y : Int32) (r : Int32) : sp_S := if t_merge S t k y r = 0 then sp_tb S (sp_i t) (sp_mrg (sp_srt (sp_i t)) (sp_T S (sp_i t)) (sp_C S 2) (sp_i k) y r) else S
abbrev a_merge (S : sp_S) (t : Int32) (k : Int32) (y : Int32) (r : Int32) : Int32 := (sp_mrg (sp_srt (sp_i t)) (sp_T S (sp_i t)) (sp_C S 2) (sp_i k) y r).1.getD (-9)
theorem okk_merge {S : sp_S} (t : Int32) (k : Int32) (y : Int32) (r : Int32) (ok : sp_ok S) : sp_ok (k_merge S t k y r) := by
  unfold k_merge
  by_cases h : t_merge S t k y r = 0
  · rw [if_pos h]; exact ok_merge ok h
  · rw [if_neg h]; exact ok
theorem kx_merge (hl : l.stackTraces = false) {x : Nat} {C S : sp_S} {n9 : Int64} (w : z_W) (LT : z_LX x C S n9 w) (t : Int32) (k : Int32) (y : Int32) (r : Int32) : z_Con G l mX11_merge 26 2 52 w [.ref 1000, .int t, .int k, .int y, .int r] (fun v w9 => ∃ r9 : Int32, v = some (.int r9) ∧ z_LX x C (k_merge S t k y r) n9 w9 ∧ z_trw w9 (t_merge S t k y r) ∧ (t_merge S t k y r = 0 → r9 = a_merge S t k y r)) (fun _ _ => False) := by
  obtain ⟨-, ⟨s, hs, hR, ok⟩, -⟩ := id LT
  refine z_weak (cx_merge hl w S s t k y r hs hR ok) (fun v w9 q => ?_) (fun _ _ h => h)
  obtain ⟨r9, s9, hv, fm, h9, ht, R9, hr⟩ := q
  exact ⟨r9, hv, LT.mod fm h9 R9 (okk_merge _ _ _ _ ok), ⟨s9, h9, ht⟩, hr⟩
abbrev t_hearTable (S : sp_S) (t : Int32) (g : Int32) : Int32 := sp_k3b t g
def k_hearTable (S : sp_S) (t : Int32) (g : Int32) : sp_S := if t_hearTable S t g = 0 then sp_htbS S (sp_i t) (sp_i g) else S
abbrev a_hearTable (S : sp_S) (t : Int32) (g : Int32) : Int32 := sp_an (sp_htb S (sp_i t) (sp_i g)).1
theorem okk_hearTable {S : sp_S} (t : Int32) (g : Int32) (ok : sp_ok S) : sp_ok (k_hearTable S t g) := by
  unfold k_hearTable
  by_cases h : t_hearTable S t g = 0
  · rw [if_pos h]; exact ok_htb ok (sp_i_2 (z_k3b h).2)
  · rw [if_neg h]; exact ok
theorem kx_hearTable (hl : l.stackTraces = false) {x : Nat} {C S : sp_S} {n9 : Int64} (w : z_W) (LT : z_LX x C S n9 w) (t : Int32) (g : Int32) : z_Con G l mX11_hearTable 22 42 631 w [.ref 1000, .int t, .int g] (fun v w9 => ∃ r9 : Int32, v = some (.int r9) ∧ z_LX x C (k_hearTable S t g) n9 w9 ∧ z_trw w9 (t_hearTable S t g) ∧ (t_hearTable S t g = 0 → r9 = a_hearTable S t g)) (fun _ _ => False) := by
  obtain ⟨-, ⟨s, hs, hR, ok⟩, -⟩ := id LT
  refine z_weak (cx_hearTable hl w S s t g hs hR) (fun v w9 q => ?_) (fun _ _ h => h)
  obtain ⟨r9, s9, hv, fm, h9, ht, R9, hr⟩ := q
  exact ⟨r9, hv, LT.mod fm h9 R9 (okk_hearTable _ _ ok), ⟨s9, h9, ht⟩, hr⟩
abbrev t_replaceTable (S : sp_S) (t : Int32) (r : Int32) (n : Int32) : Int32 := sp_k32 t (¬ (r = 0 ∨ r = 1 ∨ r = 4 ∨ r = 5) ∨ sp_bv n)
def k_replaceTable (S : sp_S) (t : Int32) (r : Int32) (n : Int32) : sp_S := if t_replaceTable S t r n = 0 then sp_ctbS S (sp_i t) r n else S
abbrev a_replaceTable (S : sp_S) (t : Int32) (r : Int32) (n : Int32) : Int32 := cond (sp_ctb S (sp_i t) r n).1 (nI (sp_ctb S (sp_i t) r n).2.2.length) (-9)
theorem okk_replaceTable {S : sp_S} (t : Int32) (r : Int32) (n : Int32) (ok : sp_ok S) : sp_ok (k_replaceTable S t r n) := by
  unfold k_replaceTable
  by_cases h : t_replaceTable S t r n = 0
  · rw [if_pos h]; exact ok_ctb ok (sp_i_3 (z_k32 h).1) (Decidable.byContradiction fun z => (z_k32 h).2 (Or.inl z)) (sp_vl fun z => (z_k32 h).2 (Or.inr z))
  · rw [if_neg h]; exact ok
theorem kx_replaceTable (hl : l.stackTraces = false) {x : Nat} {C S : sp_S} {n9 : Int64} (w : z_W) (LT : z_LX x C S n9 w) (t : Int32) (r : Int32) (n : Int32) : z_Con G l mX11_replaceTable 22 2 11 w [.ref 1000, .int t, .int r, .int n] (fun v w9 => ∃ r9 : Int32, v = some (.int r9) ∧ z_LX x C (k_replaceTable S t r n) n9 w9 ∧ z_trw w9 (t_replaceTable S t r n) ∧ (t_replaceTable S t r n = 0 → r9 = a_replaceTable S t r n)) (fun _ _ => False) := by
  obtain ⟨-, ⟨s, hs, hR, ok⟩, -⟩ := id LT
  refine z_weak (cx_replaceTable hl w S s t r n hs hR ok) (fun v w9 q => ?_) (fun _ _ h => h)
  obtain ⟨r9, s9, hv, fm, h9, ht, R9, hr⟩ := q
  exact ⟨r9, hv, LT.mod fm h9 R9 (okk_replaceTable _ _ _ ok), ⟨s9, h9, ht⟩, hr⟩
abbrev t_clear (S : sp_S) (t : Int32) : Int32 := sp_k3 t
def k_clear (S : sp_S) (t : Int32) : sp_S := if t_clear S t = 0 then sp_uT S (sp_i t) [] else S
abbrev a_clear (S : sp_S) (t : Int32) : Int32 := nI (sp_T S (sp_i t)).length
theorem okk_clear {S : sp_S} (t : Int32) (ok : sp_ok S) : sp_ok (k_clear S t) := by
  unfold k_clear
  by_cases h : t_clear S t = 0
  · rw [if_pos h]; exact ok_clear ok
  · rw [if_neg h]; exact ok
theorem kx_clear (hl : l.stackTraces = false) {x : Nat} {C S : sp_S} {n9 : Int64} (w : z_W) (LT : z_LX x C S n9 w) (t : Int32) : z_Con G l mX11_clear 20 0 0 w [.ref 1000, .int t] (fun v w9 => ∃ r9 : Int32, v = some (.int r9) ∧ z_LX x C (k_clear S t) n9 w9 ∧ z_trw w9 (t_clear S t) ∧ (t_clear S t = 0 → r9 = a_clear S t)) (fun _ _ => False) := by
  obtain ⟨-, ⟨s, hs, hR, ok⟩, -⟩ := id LT
  refine z_weak (cx_clear hl w S s t hs hR) (fun v w9 q => ?_) (fun _ _ h => h)
  obtain ⟨r9, s9, hv, fm, h9, ht, R9, hr⟩ := q
  exact ⟨r9, hv, LT.mod fm h9 R9 (okk_clear _ ok), ⟨s9, h9, ht⟩, hr⟩
abbrev t_hearSpan (S : sp_S) (a : Int32) (b : Int32) (c : Int32) (g : Int32) : Int32 := q_k22 g (sp_bsp a b c)
def k_hearSpan (S : sp_S) (a : Int32) (b : Int32) (c : Int32) (g : Int32) : sp_S := if t_hearSpan S a b c g = 0 then sp_hspS S a b c 0 (sp_i g) else S
abbrev a_hearSpan (S : sp_S) (a : Int32) (b : Int32) (c : Int32) (g : Int32) : Int32 := sp_an (sp_hsp S a b c 0 (sp_i g)).1
theorem okk_hearSpan {S : sp_S} (a : Int32) (b : Int32) (c : Int32) (g : Int32) (ok : sp_ok S) : sp_ok (k_hearSpan S a b c g) := by
  unfold k_hearSpan
  by_cases h : t_hearSpan S a b c g = 0
  · rw [if_pos h]; exact ok_hsp ok (sp_i_2 (z_k22 h).1)
  · rw [if_neg h]; exact ok
theorem kx_hearSpan (hl : l.stackTraces = false) {x : Nat} {C S : sp_S} {n9 : Int64} (w : z_W) (LT : z_LX x C S n9 w) (a : Int32) (b : Int32) (c : Int32) (g : Int32) : z_Con G l mX11_hearSpan 24 80 1240 w [.ref 1000, .int a, .int b, .int c, .int g] (fun v w9 => ∃ r9 : Int32, v = some (.int r9) ∧ z_LX x C (k_hearSpan S a b c g) n9 w9 ∧ z_trw w9 (t_hearSpan S a b c g) ∧ (t_hearSpan S a b c g = 0 → r9 = a_hearSpan S a b c g)) (fun _ _ => False) := by
  obtain ⟨-, ⟨s, hs, hR, ok⟩, -⟩ := id LT
  refine z_weak (cx_hearSpan hl w S s a b c g hs hR) (fun v w9 q => ?_) (fun _ _ h => h)
  obtain ⟨r9, s9, hv, fm, h9, ht, R9, hr⟩ := q
  exact ⟨r9, hv, LT.mod fm h9 R9 (okk_hearSpan _ _ _ _ ok), ⟨s9, h9, ht⟩, hr⟩
abbrev t_hearSteps (S : sp_S) (a : Int32) (b : Int32) (c : Int32) (d : Int32) (g : Int32) : Int32 := q_k22 g (sp_bsp a b c ∨ (d < 0 ∨ z_mny a b c < d))
def k_hearSteps (S : sp_S) (a : Int32) (b : Int32) (c : Int32) (d : Int32) (g : Int32) : sp_S := if t_hearSteps S a b c d g = 0 then sp_hspS S a b c (sp_i d) (sp_i g) else S
abbrev a_hearSteps (S : sp_S) (a : Int32) (b : Int32) (c : Int32) (d : Int32) (g : Int32) : Int32 := sp_an (sp_hsp S a b c (sp_i d) (sp_i g)).1
theorem okk_hearSteps {S : sp_S} (a : Int32) (b : Int32) (c : Int32) (d : Int32) (g : Int32) (ok : sp_ok S) : sp_ok (k_hearSteps S a b c d g) := by
  unfold k_hearSteps
  by_cases h : t_hearSteps S a b c d g = 0
  · rw [if_pos h]; exact ok_hsp ok (sp_i_2 (z_k22 h).1)
  · rw [if_neg h]; exact ok
theorem kx_hearSteps (hl : l.stackTraces = false) {x : Nat} {C S : sp_S} {n9 : Int64} (w : z_W) (LT : z_LX x C S n9 w) (a : Int32) (b : Int32) (c : Int32) (d : Int32) (g : Int32) : z_Con G l mX11_hearSteps 24 80 1240 w [.ref 1000, .int a, .int b, .int c, .int d, .int g] (fun v w9 => ∃ r9 : Int32, v = some (.int r9) ∧ z_LX x C (k_hearSteps S a b c d g) n9 w9 ∧ z_trw w9 (t_hearSteps S a b c d g) ∧ (t_hearSteps S a b c d g = 0 → r9 = a_hearSteps S a b c d g)) (fun _ _ => False) := by
  obtain ⟨-, ⟨s, hs, hR, ok⟩, -⟩ := id LT
  refine z_weak (cx_hearSteps hl w S s a b c d g hs hR) (fun v w9 q => ?_) (fun _ _ h => h)
  obtain ⟨r9, s9, hv, fm, h9, ht, R9, hr⟩ := q
  exact ⟨r9, hv, LT.mod fm h9 R9 (okk_hearSteps _ _ _ _ _ ok), ⟨s9, h9, ht⟩, hr⟩
abbrev t_takeStep (S : sp_S) (a : Int32) (b : Int32) : Int32 := q_k1 (sp_bv b ∨ (a < -999 ∨ b < a))
def k_takeStep (S : sp_S) (a : Int32) (b : Int32) : sp_S := if t_takeStep S a b = 0 then sp_nine S else S
abbrev a_takeStep (S : sp_S) (a : Int32) (b : Int32) : Int32 := (-9 : Int32)
theorem okk_takeStep {S : sp_S} (a : Int32) (b : Int32) (ok : sp_ok S) : sp_ok (k_takeStep S a b) := by
  unfold k_takeStep
  by_cases h : t_takeStep S a b = 0
  · rw [if_pos h]; exact ok_nine ok
  · rw [if_neg h]; exact ok
theorem kx_takeStep (hl : l.stackTraces = false) {x : Nat} {C S : sp_S} {n9 : Int64} (w : z_W) (LT : z_LX x C S n9 w) (a : Int32) (b : Int32) : z_Con G l mX11_takeStep 20 0 0 w [.ref 1000, .int a, .int b] (fun v w9 => ∃ r9 : Int32, v = some (.int r9) ∧ z_LX x C (k_takeStep S a b) n9 w9 ∧ z_trw w9 (t_takeStep S a b) ∧ (t_takeStep S a b = 0 → r9 = a_takeStep S a b)) (fun _ _ => False) := by
  obtain ⟨-, ⟨s, hs, hR, ok⟩, -⟩ := id LT
  refine z_weak (cx_takeStep hl w S s a b hs hR) (fun v w9 q => ?_) (fun _ _ h => h)
  obtain ⟨r9, s9, hv, fm, h9, ht, R9, hr⟩ := q
  exact ⟨r9, hv, LT.mod fm h9 R9 (okk_takeStep _ _ ok), ⟨s9, h9, ht⟩, hr⟩
abbrev t_stop (S : sp_S) (g : Int32) (n : Int32) : Int32 := q_k22 g (n < -1000 ∨ 99999 < n)
def k_stop (S : sp_S) (g : Int32) (n : Int32) : sp_S := if t_stop S g n = 0 then sp_uE S (sp_i g) (sp_stp' (sp_E S (sp_i g)) n) else S
abbrev a_stop (S : sp_S) (g : Int32) (n : Int32) : Int32 := (sp_E S (sp_i g)).1.1
theorem okk_stop {S : sp_S} (g : Int32) (n : Int32) (ok : sp_ok S) : sp_ok (k_stop S g n) := by
  unfold k_stop
  by_cases h : t_stop S g n = 0
  · rw [if_pos h]; exact ok_stop ok (sp_i_2 (z_k22 h).1)
  · rw [if_neg h]; exact ok
theorem kx_stop (hl : l.stackTraces = false) {x : Nat} {C S : sp_S} {n9 : Int64} (w : z_W) (LT : z_LX x C S n9 w) (g : Int32) (n : Int32) : z_Con G l mX11_stop 20 0 0 w [.ref 1000, .int g, .int n] (fun v w9 => ∃ r9 : Int32, v = some (.int r9) ∧ z_LX x C (k_stop S g n) n9 w9 ∧ z_trw w9 (t_stop S g n) ∧ (t_stop S g n = 0 → r9 = a_stop S g n)) (fun _ _ => False) := by
  obtain ⟨-, ⟨s, hs, hR, ok⟩, -⟩ := id LT
  refine z_weak (cx_stop hl w S s g n hs hR) (fun v w9 q => ?_) (fun _ _ h => h)
  obtain ⟨r9, s9, hv, fm, h9, ht, R9, hr⟩ := q
  exact ⟨r9, hv, LT.mod fm h9 R9 (okk_stop _ _ ok), ⟨s9, h9, ht⟩, hr⟩
abbrev t_forget (S : sp_S) (g : Int32) : Int32 := q_k2 g
def k_forget (S : sp_S) (g : Int32) : sp_S := if t_forget S g = 0 then sp_uE S (sp_i g) (sp_fgt (sp_E S (sp_i g))) else S
abbrev a_forget (S : sp_S) (g : Int32) : Int32 := (sp_E S (sp_i g)).1.2.1
theorem okk_forget {S : sp_S} (g : Int32) (ok : sp_ok S) : sp_ok (k_forget S g) := by
  unfold k_forget
  by_cases h : t_forget S g = 0
  · rw [if_pos h]; exact ok_forget ok
  · rw [if_neg h]; exact ok
theorem kx_forget (hl : l.stackTraces = false) {x : Nat} {C S : sp_S} {n9 : Int64} (w : z_W) (LT : z_LX x C S n9 w) (g : Int32) : z_Con G l mX11_forget 20 0 0 w [.ref 1000, .int g] (fun v w9 => ∃ r9 : Int32, v = some (.int r9) ∧ z_LX x C (k_forget S g) n9 w9 ∧ z_trw w9 (t_forget S g) ∧ (t_forget S g = 0 → r9 = a_forget S g)) (fun _ _ => False) := by
  obtain ⟨-, ⟨s, hs, hR, ok⟩, -⟩ := id LT
  refine z_weak (cx_forget hl w S s g hs hR) (fun v w9 q => ?_) (fun _ _ h => h)
  obtain ⟨r9, s9, hv, fm, h9, ht, R9, hr⟩ := q
  exact ⟨r9, hv, LT.mod fm h9 R9 (okk_forget _ ok), ⟨s9, h9, ht⟩, hr⟩
abbrev t_heard (S : sp_S) (g : Int32) (w0 : Int32) : Int32 := q_k22 g (w0 < 0 ∨ 3 < w0)
def k_heard (S : sp_S) (g : Int32) (w0 : Int32) : sp_S := if t_heard S g w0 = 0 then S else S
abbrev a_heard (S : sp_S) (g : Int32) (w0 : Int32) : Int32 := sp_tel (sp_E S (sp_i g)) w0
theorem okk_heard {S : sp_S} (g : Int32) (w0 : Int32) (ok : sp_ok S) : sp_ok (k_heard S g w0) := by
  unfold k_heard
  by_cases h : t_heard S g w0 = 0
  · rw [if_pos h]; exact ok
  · rw [if_neg h]; exact ok
theorem kx_heard (hl : l.stackTraces = false) {x : Nat} {C S : sp_S} {n9 : Int64} (w : z_W) (LT : z_LX x C S n9 w) (g : Int32) (w0 : Int32) : z_Con G l mX11_heard 20 0 0 w [.ref 1000, .int g, .int w0] (fun v w9 => ∃ r9 : Int32, v = some (.int r9) ∧ z_LX x C (k_heard S g w0) n9 w9 ∧ z_trw w9 (t_heard S g w0) ∧ (t_heard S g w0 = 0 → r9 = a_heard S g w0)) (fun _ _ => False) := by
  obtain ⟨-, ⟨s, hs, hR, ok⟩, -⟩ := id LT
  refine z_weak (cx_heard hl w S s g w0 hs hR) (fun v w9 q => ?_) (fun _ _ h => h)
  obtain ⟨r9, s9, hv, fm, h9, ht, R9, hr⟩ := q
  exact ⟨r9, hv, LT.mod fm h9 R9 (okk_heard _ _ ok), ⟨s9, h9, ht⟩, hr⟩
abbrev t_length (S : sp_S) (r : Int32) : Int32 := q_k2 r
def k_length (S : sp_S) (r : Int32) : sp_S := if t_length S r = 0 then S else S
abbrev a_length (S : sp_S) (r : Int32) : Int32 := nI (sp_R S (sp_i r)).length
theorem okk_length {S : sp_S} (r : Int32) (ok : sp_ok S) : sp_ok (k_length S r) := by
  unfold k_length
  by_cases h : t_length S r = 0
  · rw [if_pos h]; exact ok
  · rw [if_neg h]; exact ok
theorem kx_length (hl : l.stackTraces = false) {x : Nat} {C S : sp_S} {n9 : Int64} (w : z_W) (LT : z_LX x C S n9 w) (r : Int32) : z_Con G l mX11_length 20 0 0 w [.ref 1000, .int r] (fun v w9 => ∃ r9 : Int32, v = some (.int r9) ∧ z_LX x C (k_length S r) n9 w9 ∧ z_trw w9 (t_length S r) ∧ (t_length S r = 0 → r9 = a_length S r)) (fun _ _ => False) := by
  obtain ⟨-, ⟨s, hs, hR, ok⟩, -⟩ := id LT
  refine z_weak (cx_length hl w S s r hs hR) (fun v w9 q => ?_) (fun _ _ h => h)
  obtain ⟨r9, s9, hv, fm, h9, ht, R9, hr⟩ := q
  exact ⟨r9, hv, LT.mod fm h9 R9 (okk_length _ ok), ⟨s9, h9, ht⟩, hr⟩
abbrev t_at (S : sp_S) (r : Int32) (p : Int32) : Int32 := sp_k21 r (p < 0 ∨ nI (sp_R S (sp_i r)).length - 1 < p)
def k_at (S : sp_S) (r : Int32) (p : Int32) : sp_S := if t_at S r p = 0 then S else S
abbrev a_at (S : sp_S) (r : Int32) (p : Int32) : Int32 := ((sp_R S (sp_i r))[sp_i p]?).getD 0
theorem okk_at {S : sp_S} (r : Int32) (p : Int32) (ok : sp_ok S) : sp_ok (k_at S r p) := by
  unfold k_at
  by_cases h : t_at S r p = 0
  · rw [if_pos h]; exact ok
  · rw [if_neg h]; exact ok
theorem kx_at (hl : l.stackTraces = false) {x : Nat} {C S : sp_S} {n9 : Int64} (w : z_W) (LT : z_LX x C S n9 w) (r : Int32) (p : Int32) : z_Con G l mX11_at 20 0 0 w [.ref 1000, .int r, .int p] (fun v w9 => ∃ r9 : Int32, v = some (.int r9) ∧ z_LX x C (k_at S r p) n9 w9 ∧ z_trw w9 (t_at S r p) ∧ (t_at S r p = 0 → r9 = a_at S r p)) (fun _ _ => False) := by
  obtain ⟨-, ⟨s, hs, hR, ok⟩, -⟩ := id LT
  refine z_weak (cx_at hl w S s r p hs hR) (fun v w9 q => ?_) (fun _ _ h => h)
  obtain ⟨r9, s9, hv, fm, h9, ht, R9, hr⟩ := q
  exact ⟨r9, hv, LT.mod fm h9 R9 (okk_at _ _ ok), ⟨s9, h9, ht⟩, hr⟩
abbrev t_isFixed (S : sp_S) (r : Int32) : Int32 := q_k2 r
def k_isFixed (S : sp_S) (r : Int32) : sp_S := if t_isFixed S r = 0 then S else S
abbrev a_isFixed (S : sp_S) (r : Int32) : Int32 := z_bi (sp_F S (sp_i r))
theorem okk_isFixed {S : sp_S} (r : Int32) (ok : sp_ok S) : sp_ok (k_isFixed S r) := by
  unfold k_isFixed
  by_cases h : t_isFixed S r = 0
  · rw [if_pos h]; exact ok
  · rw [if_neg h]; exact ok
theorem kx_isFixed (hl : l.stackTraces = false) {x : Nat} {C S : sp_S} {n9 : Int64} (w : z_W) (LT : z_LX x C S n9 w) (r : Int32) : z_Con G l mX11_isFixed 20 0 0 w [.ref 1000, .int r] (fun v w9 => ∃ r9 : Int32, v = some (.int r9) ∧ z_LX x C (k_isFixed S r) n9 w9 ∧ z_trw w9 (t_isFixed S r) ∧ (t_isFixed S r = 0 → r9 = a_isFixed S r)) (fun _ _ => False) := by
  obtain ⟨-, ⟨s, hs, hR, ok⟩, -⟩ := id LT
  refine z_weak (cx_isFixed hl w S s r hs hR) (fun v w9 q => ?_) (fun _ _ h => h)
  obtain ⟨r9, s9, hv, fm, h9, ht, R9, hr⟩ := q
  exact ⟨r9, hv, LT.mod fm h9 R9 (okk_isFixed _ ok), ⟨s9, h9, ht⟩, hr⟩
abbrev t_counts (S : sp_S) (r : Int32) (w0 : Int32) : Int32 := q_k22 r (w0 < 0 ∨ 4 < w0)
def k_counts (S : sp_S) (r : Int32) (w0 : Int32) : sp_S := if t_counts S r w0 = 0 then S else S
abbrev a_counts (S : sp_S) (r : Int32) (w0 : Int32) : Int32 := sp_C S (sp_i r) (sp_i w0)
theorem okk_counts {S : sp_S} (r : Int32) (w0 : Int32) (ok : sp_ok S) : sp_ok (k_counts S r w0) := by
  unfold k_counts
  by_cases h : t_counts S r w0 = 0
  · rw [if_pos h]; exact ok
  · rw [if_neg h]; exact ok
theorem kx_counts (hl : l.stackTraces = false) {x : Nat} {C S : sp_S} {n9 : Int64} (w : z_W) (LT : z_LX x C S n9 w) (r : Int32) (w0 : Int32) : z_Con G l mX11_counts 20 0 0 w [.ref 1000, .int r, .int w0] (fun v w9 => ∃ r9 : Int32, v = some (.int r9) ∧ z_LX x C (k_counts S r w0) n9 w9 ∧ z_trw w9 (t_counts S r w0) ∧ (t_counts S r w0 = 0 → r9 = a_counts S r w0)) (fun _ _ => False) := by
  obtain ⟨-, ⟨s, hs, hR, ok⟩, -⟩ := id LT
  refine z_weak (cx_counts hl w S s r w0 hs hR) (fun v w9 q => ?_) (fun _ _ h => h)
  obtain ⟨r9, s9, hv, fm, h9, ht, R9, hr⟩ := q
  exact ⟨r9, hv, LT.mod fm h9 R9 (okk_counts _ _ ok), ⟨s9, h9, ht⟩, hr⟩
abbrev t_shelfCounts (S : sp_S) (w0 : Int32) : Int32 := q_k1 (w0 < 0 ∨ 6 < w0)
def k_shelfCounts (S : sp_S) (w0 : Int32) : sp_S := if t_shelfCounts S w0 = 0 then S else S
abbrev a_shelfCounts (S : sp_S) (w0 : Int32) : Int32 := sp_C S 2 (sp_i w0)
theorem okk_shelfCounts {S : sp_S} (w0 : Int32) (ok : sp_ok S) : sp_ok (k_shelfCounts S w0) := by
  unfold k_shelfCounts
  by_cases h : t_shelfCounts S w0 = 0
  · rw [if_pos h]; exact ok
  · rw [if_neg h]; exact ok
theorem kx_shelfCounts (hl : l.stackTraces = false) {x : Nat} {C S : sp_S} {n9 : Int64} (w : z_W) (LT : z_LX x C S n9 w) (w0 : Int32) : z_Con G l mX11_shelfCounts 20 0 0 w [.ref 1000, .int w0] (fun v w9 => ∃ r9 : Int32, v = some (.int r9) ∧ z_LX x C (k_shelfCounts S w0) n9 w9 ∧ z_trw w9 (t_shelfCounts S w0) ∧ (t_shelfCounts S w0 = 0 → r9 = a_shelfCounts S w0)) (fun _ _ => False) := by
  obtain ⟨-, ⟨s, hs, hR, ok⟩, -⟩ := id LT
  refine z_weak (cx_shelfCounts hl w S s w0 hs hR) (fun v w9 q => ?_) (fun _ _ h => h)
  obtain ⟨r9, s9, hv, fm, h9, ht, R9, hr⟩ := q
  exact ⟨r9, hv, LT.mod fm h9 R9 (okk_shelfCounts _ ok), ⟨s9, h9, ht⟩, hr⟩
theorem okk_forgetCounts {S : sp_S} (ok : sp_ok S) : sp_ok (sp_csS S) := ok_csS ok
theorem kx_forgetCounts (hl : l.stackTraces = false) {x : Nat} {C S : sp_S} {n9 : Int64} (w : z_W) (LT : z_LX x C S n9 w) : z_Con G l mX11_forgetCounts 20 0 0 w [.ref 1000] (fun v w9 => ∃ r9 : Int32, v = some (.int r9) ∧ z_LX x C (sp_csS S) n9 w9 ∧ z_trw w9 0 ∧ r9 = sp_cs S) (fun _ _ => False) := by
  obtain ⟨-, ⟨s, hs, hR, ok⟩, -⟩ := id LT
  refine z_weak (cx_forgetCounts hl w S s hs hR) (fun v w9 q => ?_) (fun _ _ h => h)
  obtain ⟨r9, s9, hv, fm, h9, ht, R9, hr⟩ := q
  exact ⟨r9, hv, LT.mod fm h9 R9 (okk_forgetCounts ok), ⟨s9, h9, ht⟩, hr⟩
abbrev t_get (S : sp_S) (t : Int32) (k : Int32) : Int32 := sp_k32 t (sp_bk k)
def k_get (S : sp_S) (t : Int32) (k : Int32) : sp_S := if t_get S t k = 0 then S else S
abbrev a_get (S : sp_S) (t : Int32) (k : Int32) : Int32 := sp_lk (sp_T S (sp_i t)) (sp_i k)
theorem okk_get {S : sp_S} (t : Int32) (k : Int32) (ok : sp_ok S) : sp_ok (k_get S t k) := by
  unfold k_get
  by_cases h : t_get S t k = 0
  · rw [if_pos h]; exact ok
  · rw [if_neg h]; exact ok
theorem kx_get (hl : l.stackTraces = false) {x : Nat} {C S : sp_S} {n9 : Int64} (w : z_W) (LT : z_LX x C S n9 w) (t : Int32) (k : Int32) : z_Con G l mX11_get 24 2 52 w [.ref 1000, .int t, .int k] (fun v w9 => ∃ r9 : Int32, v = some (.int r9) ∧ z_LX x C (k_get S t k) n9 w9 ∧ z_trw w9 (t_get S t k) ∧ (t_get S t k = 0 → r9 = a_get S t k)) (fun _ _ => False) := by
  obtain ⟨-, ⟨s, hs, hR, ok⟩, -⟩ := id LT
  refine z_weak (cx_get hl w S s t k hs hR) (fun v w9 q => ?_) (fun _ _ h => h)
  obtain ⟨r9, s9, hv, fm, h9, ht, R9, hr⟩ := q
  exact ⟨r9, hv, LT.mod fm h9 R9 (okk_get _ _ ok), ⟨s9, h9, ht⟩, hr⟩
abbrev t_getOr (S : sp_S) (t : Int32) (k : Int32) (y : Int32) : Int32 := sp_k32 t (sp_bk k ∨ sp_bv y)
def k_getOr (S : sp_S) (t : Int32) (k : Int32) (y : Int32) : sp_S := if t_getOr S t k y = 0 then S else S
abbrev a_getOr (S : sp_S) (t : Int32) (k : Int32) (y : Int32) : Int32 := (if sp_lk (sp_T S (sp_i t)) (sp_i k) = -1000 then y else sp_lk (sp_T S (sp_i t)) (sp_i k))
theorem okk_getOr {S : sp_S} (t : Int32) (k : Int32) (y : Int32) (ok : sp_ok S) : sp_ok (k_getOr S t k y) := by
  unfold k_getOr
  by_cases h : t_getOr S t k y = 0
  · rw [if_pos h]; exact ok
  · rw [if_neg h]; exact ok
theorem kx_getOr (hl : l.stackTraces = false) {x : Nat} {C S : sp_S} {n9 : Int64} (w : z_W) (LT : z_LX x C S n9 w) (t : Int32) (k : Int32) (y : Int32) : z_Con G l mX11_getOr 24 2 52 w [.ref 1000, .int t, .int k, .int y] (fun v w9 => ∃ r9 : Int32, v = some (.int r9) ∧ z_LX x C (k_getOr S t k y) n9 w9 ∧ z_trw w9 (t_getOr S t k y) ∧ (t_getOr S t k y = 0 → r9 = a_getOr S t k y)) (fun _ _ => False) := by
  obtain ⟨-, ⟨s, hs, hR, ok⟩, -⟩ := id LT
  refine z_weak (cx_getOr hl w S s t k y hs hR) (fun v w9 q => ?_) (fun _ _ h => h)
  obtain ⟨r9, s9, hv, fm, h9, ht, R9, hr⟩ := q
  exact ⟨r9, hv, LT.mod fm h9 R9 (okk_getOr _ _ _ ok), ⟨s9, h9, ht⟩, hr⟩
abbrev t_has (S : sp_S) (t : Int32) (k : Int32) : Int32 := sp_k32 t (sp_bk k)
def k_has (S : sp_S) (t : Int32) (k : Int32) : sp_S := if t_has S t k = 0 then S else S
abbrev a_has (S : sp_S) (t : Int32) (k : Int32) : Int32 := z_bi (!(decide (sp_lk (sp_T S (sp_i t)) (sp_i k) = -1000)))
theorem okk_has {S : sp_S} (t : Int32) (k : Int32) (ok : sp_ok S) : sp_ok (k_has S t k) := by
  unfold k_has
  by_cases h : t_has S t k = 0
  · rw [if_pos h]; exact ok
  · rw [if_neg h]; exact ok
theorem kx_has (hl : l.stackTraces = false) {x : Nat} {C S : sp_S} {n9 : Int64} (w : z_W) (LT : z_LX x C S n9 w) (t : Int32) (k : Int32) : z_Con G l mX11_has 24 2 52 w [.ref 1000, .int t, .int k] (fun v w9 => ∃ r9 : Int32, v = some (.int r9) ∧ z_LX x C (k_has S t k) n9 w9 ∧ z_trw w9 (t_has S t k) ∧ (t_has S t k = 0 → r9 = a_has S t k)) (fun _ _ => False) := by
  obtain ⟨-, ⟨s, hs, hR, ok⟩, -⟩ := id LT
  refine z_weak (cx_has hl w S s t k hs hR ok) (fun v w9 q => ?_) (fun _ _ h => h)
  obtain ⟨r9, s9, hv, fm, h9, ht, R9, hr⟩ := q
  exact ⟨r9, hv, LT.mod fm h9 R9 (okk_has _ _ ok), ⟨s9, h9, ht⟩, hr⟩
abbrev t_size (S : sp_S) (t : Int32) : Int32 := sp_k3 t
def k_size (S : sp_S) (t : Int32) : sp_S := if t_size S t = 0 then S else S
abbrev a_size (S : sp_S) (t : Int32) : Int32 := nI (sp_T S (sp_i t)).length
theorem okk_size {S : sp_S} (t : Int32) (ok : sp_ok S) : sp_ok (k_size S t) := by
  unfold k_size
  by_cases h : t_size S t = 0
  · rw [if_pos h]; exact ok
  · rw [if_neg h]; exact ok
theorem kx_size (hl : l.stackTraces = false) {x : Nat} {C S : sp_S} {n9 : Int64} (w : z_W) (LT : z_LX x C S n9 w) (t : Int32) : z_Con G l mX11_size 20 0 0 w [.ref 1000, .int t] (fun v w9 => ∃ r9 : Int32, v = some (.int r9) ∧ z_LX x C (k_size S t) n9 w9 ∧ z_trw w9 (t_size S t) ∧ (t_size S t = 0 → r9 = a_size S t)) (fun _ _ => False) := by
  obtain ⟨-, ⟨s, hs, hR, ok⟩, -⟩ := id LT
  refine z_weak (cx_size hl w S s t hs hR) (fun v w9 q => ?_) (fun _ _ h => h)
  obtain ⟨r9, s9, hv, fm, h9, ht, R9, hr⟩ := q
  exact ⟨r9, hv, LT.mod fm h9 R9 (okk_size _ ok), ⟨s9, h9, ht⟩, hr⟩
abbrev t_areLike (S : sp_S) (t : Int32) (u : Int32) : Int32 := sp_k33 t u
def k_areLike (S : sp_S) (t : Int32) (u : Int32) : sp_S := if t_areLike S t u = 0 then S else S
abbrev a_areLike (S : sp_S) (t : Int32) (u : Int32) : Int32 := z_bi (sp_lik (sp_T S (sp_i t)) (sp_T S (sp_i u)))
theorem okk_areLike {S : sp_S} (t : Int32) (u : Int32) (ok : sp_ok S) : sp_ok (k_areLike S t u) := by
  unfold k_areLike
  by_cases h : t_areLike S t u = 0
  · rw [if_pos h]; exact ok
  · rw [if_neg h]; exact ok
theorem kx_areLike (hl : l.stackTraces = false) {x : Nat} {C S : sp_S} {n9 : Int64} (w : z_W) (LT : z_LX x C S n9 w) (t : Int32) (u : Int32) : z_Con G l mX11_areLike 24 0 0 w [.ref 1000, .int t, .int u] (fun v w9 => ∃ r9 : Int32, v = some (.int r9) ∧ z_LX x C (k_areLike S t u) n9 w9 ∧ z_trw w9 (t_areLike S t u) ∧ (t_areLike S t u = 0 → r9 = a_areLike S t u)) (fun _ _ => False) := by
  obtain ⟨-, ⟨s, hs, hR, ok⟩, -⟩ := id LT
  refine z_weak (cx_areLike hl w S s t u hs hR) (fun v w9 q => ?_) (fun _ _ h => h)
  obtain ⟨r9, s9, hv, fm, h9, ht, R9, hr⟩ := q
  exact ⟨r9, hv, LT.mod fm h9 R9 (okk_areLike _ _ ok), ⟨s9, h9, ht⟩, hr⟩
abbrev t_given (S : sp_S) (r : Int32) (k : Int32) (y : Int32) (n : Int32) : Int32 := q_k1 (sp_bk k ∨ (y < -1000 ∨ 999 < y) ∨ (r < 0 ∨ 5 < r) ∨ sp_bv n)
def k_given (S : sp_S) (r : Int32) (k : Int32) (y : Int32) (n : Int32) : sp_S := if t_given S r k y n = 0 then S else S
abbrev a_given (S : sp_S) (r : Int32) (k : Int32) (y : Int32) (n : Int32) : Int32 := (q_rt r k (q_d y) n).getD (-9)
theorem okk_given {S : sp_S} (r : Int32) (k : Int32) (y : Int32) (n : Int32) (ok : sp_ok S) : sp_ok (k_given S r k y n) := by
  unfold k_given
  by_cases h : t_given S r k y n = 0
  · rw [if_pos h]; exact ok
  · rw [if_neg h]; exact ok
theorem kx_given (hl : l.stackTraces = false) {x : Nat} {C S : sp_S} {n9 : Int64} (w : z_W) (LT : z_LX x C S n9 w) (r : Int32) (k : Int32) (y : Int32) (n : Int32) : z_Con G l mX11_given 20 0 0 w [.ref 1000, .int r, .int k, .int y, .int n] (fun v w9 => ∃ r9 : Int32, v = some (.int r9) ∧ z_LX x C (k_given S r k y n) n9 w9 ∧ z_trw w9 (t_given S r k y n) ∧ (t_given S r k y n = 0 → r9 = a_given S r k y n)) (fun _ _ => False) := by
  obtain ⟨-, ⟨s, hs, hR, ok⟩, -⟩ := id LT
  refine z_weak (cx_given hl w S s r k y n hs hR) (fun v w9 q => ?_) (fun _ _ h => h)
  obtain ⟨r9, s9, hv, fm, h9, ht, R9, hr⟩ := q
  exact ⟨r9, hv, LT.mod fm h9 R9 (okk_given _ _ _ _ ok), ⟨s9, h9, ht⟩, hr⟩
abbrev t_tested (S : sp_S) (t : Int32) (y : Int32) (n : Int32) : Int32 := q_k1 ((t < 0 ∨ 5 < t) ∨ sp_bv y ∨ sp_bv n)
def k_tested (S : sp_S) (t : Int32) (y : Int32) (n : Int32) : sp_S := if t_tested S t y n = 0 then S else S
abbrev a_tested (S : sp_S) (t : Int32) (y : Int32) (n : Int32) : Int32 := (q_tt t y n).getD (-9)
theorem okk_tested {S : sp_S} (t : Int32) (y : Int32) (n : Int32) (ok : sp_ok S) : sp_ok (k_tested S t y n) := by
  unfold k_tested
  by_cases h : t_tested S t y n = 0
  · rw [if_pos h]; exact ok
  · rw [if_neg h]; exact ok
theorem kx_tested (hl : l.stackTraces = false) {x : Nat} {C S : sp_S} {n9 : Int64} (w : z_W) (LT : z_LX x C S n9 w) (t : Int32) (y : Int32) (n : Int32) : z_Con G l mX11_tested 20 0 0 w [.ref 1000, .int t, .int y, .int n] (fun v w9 => ∃ r9 : Int32, v = some (.int r9) ∧ z_LX x C (k_tested S t y n) n9 w9 ∧ z_trw w9 (t_tested S t y n) ∧ (t_tested S t y n = 0 → r9 = a_tested S t y n)) (fun _ _ => False) := by
  obtain ⟨-, ⟨s, hs, hR, ok⟩, -⟩ := id LT
  refine z_weak (cx_tested hl w S s t y n hs hR) (fun v w9 q => ?_) (fun _ _ h => h)
  obtain ⟨r9, s9, hv, fm, h9, ht, R9, hr⟩ := q
  exact ⟨r9, hv, LT.mod fm h9 R9 (okk_tested _ _ _ ok), ⟨s9, h9, ht⟩, hr⟩
theorem okk_knock {S : sp_S} (ok : sp_ok S) : sp_ok (sp_kno S) := ok_kno ok
theorem kx_knock (hl : l.stackTraces = false) {x : Nat} {C S : sp_S} {n9 : Int64} (w : z_W) (LT : z_LX x C S n9 w) : z_Con G l mX11_knock 10 0 0 w [.ref 1000] (fun v w9 => ∃ r9 : Int32, v = some (.int r9) ∧ z_LX x C (sp_kno S) n9 w9 ∧ z_trw w9 0 ∧ r9 = S.1.2 + 1) (fun _ _ => False) := by
  obtain ⟨-, ⟨s, hs, hR, ok⟩, -⟩ := id LT
  refine z_weak (cx_knock hl w S s hs hR) (fun v w9 q => ?_) (fun _ _ h => h)
  obtain ⟨r9, s9, hv, fm, h9, ht, R9, hr⟩ := q
  exact ⟨r9, hv, LT.mod fm h9 R9 (okk_knock ok), ⟨s9, h9, ht⟩, hr⟩
abbrev t_house (S : sp_S) (w0 : Int32) : Int32 := q_k1 (w0 < 0 ∨ 4 < w0)
def k_house (S : sp_S) (w0 : Int32) : sp_S := if t_house S w0 = 0 then S else S
abbrev a_house (S : sp_S) (w0 : Int32) : Int32 := sp_hse S w0
theorem okk_house {S : sp_S} (w0 : Int32) (ok : sp_ok S) : sp_ok (k_house S w0) := by
  unfold k_house
  by_cases h : t_house S w0 = 0
  · rw [if_pos h]; exact ok
  · rw [if_neg h]; exact ok
theorem kx_house (hl : l.stackTraces = false) {x : Nat} {C S : sp_S} {n9 : Int64} (w : z_W) (LT : z_LX x C S n9 w) (w0 : Int32) : z_Con G l mX11_house 22 2 9 w [.ref 1000, .int w0] (fun v w9 => ∃ r9 : Int32, v = some (.int r9) ∧ z_LX x C (k_house S w0) n9 w9 ∧ z_trw w9 (t_house S w0) ∧ (t_house S w0 = 0 → r9 = a_house S w0)) (fun _ _ => False) := by
  obtain ⟨-, ⟨s, hs, hR, ok⟩, -⟩ := id LT
  refine z_weak (cx_house hl w S s w0 hs hR) (fun v w9 q => ?_) (fun _ _ h => h)
  obtain ⟨r9, s9, hv, fm, h9, ht, R9, hr⟩ := q
  exact ⟨r9, hv, LT.mod fm h9 R9 (okk_house _ ok), ⟨s9, h9, ht⟩, hr⟩
theorem okk_isSound {S : sp_S} (ok : sp_ok S) : sp_ok (S) := ok
theorem kx_isSound (hl : l.stackTraces = false) {x : Nat} {C S : sp_S} {n9 : Int64} (w : z_W) (LT : z_LX x C S n9 w) : z_Con G l mX11_isSound 20 0 0 w [.ref 1000] (fun v w9 => ∃ r9 : Int32, v = some (.int r9) ∧ z_LX x C (S) n9 w9 ∧ z_trw w9 0 ∧ r9 = (1 : Int32)) (fun _ _ => False) := by
  obtain ⟨-, ⟨s, hs, hR, ok⟩, -⟩ := id LT
  refine z_weak (cx_isSound hl w S s hs hR ok) (fun v w9 q => ?_) (fun _ _ h => h)
  obtain ⟨r9, s9, hv, fm, h9, ht, R9, hr⟩ := q
  exact ⟨r9, hv, LT.mod fm h9 R9 (okk_isSound ok), ⟨s9, h9, ht⟩, hr⟩
end ZLx
end ZM1
section ZM2
section ZCtx3
variable {G : z_G} {l : Launch}
set_option maxRecDepth 100000 in
theorem px_isSound (hl : l.stackTraces = false) (w : z_W) (S : sp_S) (hW : sp_CW S w.1) : z_Con G l mX8_isSound 21 12 60 w [.ref 0] (fun v w9 => v = some (.int 1) ∧ sp_CW S w9.1 ∧ z_hi w w9) (fun _ _ => False) := by
  obtain ⟨L, P⟩ := w
  have hc := sp_CWc hW
  obtain ⟨fa, fb, mt, ft, ct, f0, g0, f1, g1, c1, f2, g2, c2, f3, g3, c3, m3, f4, g4, c4, m4, f5, g5, c5, m5, ef0, ef1, hra, hrb, ht0, ht1, ht2, he0, he1, hzm3, hzm4, hzm5, hL⟩ := id hW
  have hL : L = _ := hL
  subst hL
  refine z_weak (z_lift (X := fun _ _ => False) 51 hc.1 (by decide) hc.2 rfl (z_CFX (c_X8_isSound_s hl S fa fb mt ft ct f0 g0 f1 g1 c1 f2 g2 c2 f3 g3 c3 m3 f4 g4 c4 m4 f5 g5 c5 m5 ef0 ef1 hra hrb ht0 ht1 ht2 he0 he1 hzm3 hzm4 hzm5)) (fun v L' q => ?_) (fun E L' q => q.elim)) (fun v w' q => ?_) (fun E w' q => q.1.elim)
  · obtain ⟨rfl, mt', ft', ct', f3', g3', c3', m3', f4', g4', c4', m4', f5', g5', c5', m5', q3, q4, q5, rfl⟩ := q
    exact ⟨rfl, z_cwR, rfl⟩
  · obtain ⟨⟨q1, mt', ft', ct', f3', g3', c3', m3', f4', g4', c4', m4', f5', g5', c5', m5', q3, q4, q5, q⟩, hp⟩ := q
    have hk : sp_CW S w'.1 := ⟨fa, fb, mt', ft', ct', f0, g0, f1, g1, c1, f2, g2, c2, f3', g3', c3', m3', f4', g4', c4', m4', f5', g5', c5', m5', ef0, ef1, hra, hrb, ht0, ht1, ht2, he0, he1, q3, q4, q5, q⟩
    exact ⟨q1, hk, z_hi.of (sp_CWc hk).1 hp⟩
end ZCtx3
end ZM2
section ZM3
section ZDy
variable {G : z_G} {l : Launch}
set_option maxRecDepth 100000 in
set_option maxHeartbeats 8000000 in
theorem cg_joinedE (hl : l.stackTraces = false) (w : z_W) (a N : Nat) (f : Nat → Int32) (B : List Int32) (ha : a < 1000) (hN : N ≤ 12) (hf : z_fn w) (hr : z_row N (nI B.length) f B) (ga : z_g w a = some (.inl (0, N, fun j => .int (f j)))) : z_Con G l mX8_joined 18 24 800 w [.ref a, .int (nI B.length)] (fun v w9 => ∃ r, v = some (.ref r) ∧ z_lf w w9 ∧ z_tx w9 57 r (sp_jl B)) (fun _ _ => False) := by
  have hln := hr.2.1
  refine z_body hl (by decide) rfl (Nat.le_of_ble_eq_true rfl) ?_
  show z_J G l mX8_joined _ 0 [(0, _), (1, _)] [] _ 0 0
  obtain ⟨x1, hx1a, hx1b, hx1c⟩ := z_fresh (56) (by decide) hf
  have n_a_x1 := z_neF hx1c ga
  refine j_new (N := 4) (w' := _) (n := x1) dX8_joined_0 nX8_360 rfl (z_alW hx1c hx1a) (Nat.le_of_ble_eq_true rfl) (Nat.le_of_ble_eq_true rfl) ?_
  refine j_seal hx1a ?_
  intro w1 u1
  have g1_a := (u1.2.1 _ n_a_x1).trans ga
  have g1_x1 := u1.1
  have hf1 := u1.2.2.2 hf
  refine j_dup dX8_joined_3 rfl ?_
  refine j_callI dX8_joined_4 kJ4_init_da8c8 rfl lX8_362 inJ4_init_da8c8 rfl (sb_ini hl w1 56 x1 hx1a hx1b (by decide) hf1 g1_x1) (Nat.le_of_ble_eq_true rfl) ⟨(by show _ ≤ 24; omega), (by show _ ≤ 800; omega)⟩ rfl (Nat.le_of_ble_eq_true rfl) rfl rfl (fun _ _ h => h.elim) ?_
  rintro _ w2 ⟨rfl, fw2, hs2⟩
  have lf2 := fw2.lf (by decide)
  have g2_a := lf2.g ha g1_a
  have hf2 := lf2.2.2 hf1
  refine j_astore_n (lo' := [(2, _), (0, _), (1, _)]) dX8_joined_7 rfl (by decide) rfl ?_
  refine j_iconst (v := 0) dX8_joined_8 (by decide) ?_
  refine j_istore_n (lo' := [(3, _), (2, _), (0, _), (1, _)]) dX8_joined_9 (by decide) rfl ?_
  have loop10 : ∀ (n9 : Nat) (w3 : z_W) (k bn bN : Nat), (z_lf w w3) → (z_fn w3) → (k ≤ N) → (N < k + n9) → (z_g w3 a = some (.inl (0, N, fun j => .int (f j)))) → (z_sb w3 56 x1 bn bN) → (bn ≤ 12 * k) → (bN ≤ 304) → (16 ≤ bN) → (bn = sp_jl (B.take k)) → (k ≤ B.length) → z_J G l mX8_joined (18, 24, 800, w, (fun v w9 => ∃ r, v = some (.ref r) ∧ z_lf w w9 ∧ z_tx w9 57 r (sp_jl B)), (fun _ _ => False)) 10 [(0, .ref a), (1, .int (nI B.length)), (2, .ref x1), (3, .int (nI k))] [] w3 (1 + bN / 16) (2 * bN) := by
    intro n9
    induction n9 with
    | zero => intro w3 k bn bN hlf10 hfn10 hj hf9 ga hsb hbn hbN hbM hjl hkB; exact absurd hf9 (by omega)
    | succ n9 ih =>
      intro w3 k bn bN hlf10 hfn10 hj hf9 ga hsb hbn hbN hbM hjl hkB
      refine j_iload_n dX8_joined_10 rfl ?_
      refine j_iload_n dX8_joined_11 rfl ?_
      refine j_icmp_ge (tgt := 46) dX8_joined_12 (by decide) (fun c_12_27 => ?_) (fun c_12_27 => ?_)
      · have hb12 : B.length ≤ k := (nI_leI (a := B.length) (b := k) (by omega) (by omega)).mp c_12_27
        refine j_aload_n dX8_joined_46 rfl rfl ?_
        have hnN := hsb.nN
        obtain ⟨fs48, gs48⟩ := hsb.cell
        refine j_callV (q := (RJ4, TJ4, 4)) dX8_joined_47 kJ4_toString_0e30d lX8_369 inJ4_toString_0e30d seJ4_toString_0e30d gs48 rfl (sb_toS hl w3 57 56 x1 (bn) (bN) hsb (by decide) (by decide) hfn10) (Nat.le_of_ble_eq_true rfl) ⟨(by show _ ≤ 24; omega), (by show _ ≤ 800; omega)⟩ rfl (Nat.le_of_ble_eq_true rfl) rfl rfl (fun _ _ h => h.elim) ?_
        rintro _ w4 ⟨r4, rfl, fw4, ht4⟩
        have lf4 := fw4.lf (by decide)
        have g4_a := lf4.g ha ga
        have hf4 := lf4.2.2 hfn10
        refine j_aret dX8_joined_50 rfl (Or.inl ⟨_, rfl⟩) rfl ?_ (by show _ ≤ 24; omega) (by show _ ≤ 800; omega)
        have e9 : bn = sp_jl B := by rw [hjl, List.take_of_length_le (by omega)]
        rw [← e9]
        exact ⟨_, rfl, (hlf10.tr lf4), ht4⟩
      · have hb12 : k < B.length := Nat.not_le.mp (fun z => c_12_27 ((nI_leI (a := B.length) (b := k) (by omega) (by omega)).mpr z))
        refine j_iload_n dX8_joined_15 rfl ?_
        refine j_aload_n dX8_joined_16 rfl rfl ?_
        refine j_alen dX8_joined_17 ga rfl rfl ?_
        refine j_icmp_ge (tgt := 46) dX8_joined_18 (by decide) (fun c_18_45 => ?_) (fun c_18_45 => ?_)
        · have hb18 : N ≤ k := (nI_leI (a := N) (b := k) (by omega) (by omega)).mp c_18_45
          refine j_aload_n dX8_joined_46 rfl rfl ?_
          have hnN := hsb.nN
          obtain ⟨fs49, gs49⟩ := hsb.cell
          refine j_callV (q := (RJ4, TJ4, 4)) dX8_joined_47 kJ4_toString_0e30d lX8_369 inJ4_toString_0e30d seJ4_toString_0e30d gs49 rfl (sb_toS hl w3 57 56 x1 (bn) (bN) hsb (by decide) (by decide) hfn10) (Nat.le_of_ble_eq_true rfl) ⟨(by show _ ≤ 24; omega), (by show _ ≤ 800; omega)⟩ rfl (Nat.le_of_ble_eq_true rfl) rfl rfl (fun _ _ h => h.elim) ?_
          rintro _ w5 ⟨r5, rfl, fw5, ht5⟩
          have lf5 := fw5.lf (by decide)
          have g5_a := lf5.g ha ga
          have hf5 := lf5.2.2 hfn10
          refine j_aret dX8_joined_50 rfl (Or.inl ⟨_, rfl⟩) rfl ?_ (by show _ ≤ 24; omega) (by show _ ≤ 800; omega)
          have e9 : bn = sp_jl B := by rw [hjl, List.take_of_length_le (by omega)]
          rw [← e9]
          exact ⟨_, rfl, (hlf10.tr lf5), ht5⟩
        · have hb18 : k < N := Nat.not_le.mp (fun z => c_18_45 ((nI_leI (a := N) (b := k) (by omega) (by omega)).mpr z))
          refine j_iload_n dX8_joined_21 rfl ?_
          refine j_if_le (tgt := 32) dX8_joined_22 (by decide) (fun c_22_61 => ?_) (fun c_22_61 => ?_)
          · have hb22 : k ≤ 0 := (nI_leI (a := k) (b := 0) (by omega) (by omega)).mp c_22_61
            refine j_aload_n dX8_joined_32 rfl rfl ?_
            refine j_aload_n dX8_joined_33 rfl rfl ?_
            refine j_iload_n dX8_joined_34 rfl ?_
            refine j_ldN (k := k) dX8_joined_35 ga (by omega) (by omega) ?_
            have hzs50 := z_sz_in (f k)
            have hnN51 := hsb.nN
            have hle51 := z_gr_le (N := bN) (m := (bn + z_sz (f k)))
            have hmx51 := z_gr_mx (N := bN) (m := (bn + z_sz (f k))) (M := 144) (by omega) (by omega)
            obtain ⟨fs52, gs52⟩ := hsb.cell
            refine j_callV (q := (RJ4, TJ4, 4)) dX8_joined_36 kJ4_append_bf812 lX8_366 inJ4_append_bf812 seJ4_append_bf812 gs52 rfl (sb_apI hl w3 56 x1 (bn) (bN) (f k) hsb (by omega) (by omega) (by decide) hfn10) (Nat.le_of_ble_eq_true rfl) ⟨(by show _ ≤ 24; omega), (by show _ ≤ 800; omega)⟩ rfl (Nat.le_of_ble_eq_true rfl) rfl rfl (fun _ _ h => h.elim) ?_
            rintro _ w6 ⟨rfl, fw6, hs6⟩
            have lf6 := fw6.lf (by decide)
            have g6_a := lf6.g ha ga
            have hf6 := lf6.2.2 hfn10
            refine j_pop dX8_joined_39 rfl ?_
            refine j_iinc (lo' := [(3, _), (0, _), (1, _), (2, _)]) dX8_joined_40 rfl (z_inc _) (by decide) rfl ?_
            refine j_goto (tgt := 10) dX8_joined_43 (by decide) ?_
            refine j_widen (kc' := 1 + (z_gr (bN) (bn + z_sz (f k))) / 16) (ks' := 2 * (z_gr (bN) (bn + z_sz (f k)))) (by omega) (by omega) ?_
            exact j_lo2 (ih w6 (k + 1) (bn + z_sz (f k)) (z_gr (bN) (bn + z_sz (f k))) (hlf10.tr lf6) hf6 (by omega) (by omega) g6_a hs6 (by omega) (by omega) (by omega) (by rw [hr.tk (by omega), sp_jl_s, ← hjl, List.length_take]; split <;> omega) (by omega)) (z_q1 rfl (z_q1 rfl (z_q1 rfl (z_q1 rfl z_q0))))
          · have hb22 : 0 < k := Nat.not_le.mp (fun z => c_22_61 ((nI_leI (a := k) (b := 0) (by omega) (by omega)).mpr z))
            refine j_aload_n dX8_joined_25 rfl rfl ?_
            refine j_bipush (v := 32) dX8_joined_26 (by decide) ?_
            have hnN53 := hsb.nN
            have hle53 := z_gr_le (N := bN) (m := (bn + 1))
            have hmx53 := z_gr_mx (N := bN) (m := (bn + 1)) (M := 144) (by omega) (by omega)
            obtain ⟨fs54, gs54⟩ := hsb.cell
            refine j_callV (q := (RJ4, TJ4, 4)) dX8_joined_28 kJ4_append_cf468 lX8_363 inJ4_append_cf468 seJ4_append_cf468 gs54 rfl (sb_apC hl w3 56 x1 (bn) (bN) (32) hsb (by omega) (by omega) (by decide) hfn10 (by decide)) (Nat.le_of_ble_eq_true rfl) ⟨(by show _ ≤ 24; omega), (by show _ ≤ 800; omega)⟩ rfl (Nat.le_of_ble_eq_true rfl) rfl rfl (fun _ _ h => h.elim) ?_
            rintro _ w7 ⟨rfl, fw7, hs7⟩
            have lf7 := fw7.lf (by decide)
            have g7_a := lf7.g ha ga
            have hf7 := lf7.2.2 hfn10
            refine j_pop dX8_joined_31 rfl ?_
            refine j_aload_n dX8_joined_32 rfl rfl ?_
            refine j_aload_n dX8_joined_33 rfl rfl ?_
            refine j_iload_n dX8_joined_34 rfl ?_
            refine j_ldN (k := k) dX8_joined_35 g7_a (by omega) (by omega) ?_
            have hzs55 := z_sz_in (f k)
            have hnN56 := hs7.nN
            have hle56 := z_gr_le (N := (z_gr (bN) (bn + 1))) (m := ((bn + 1) + z_sz (f k)))
            have hmx56 := z_gr_mx (N := (z_gr (bN) (bn + 1))) (m := ((bn + 1) + z_sz (f k))) (M := 144) (by omega) (by omega)
            obtain ⟨fs57, gs57⟩ := hs7.cell
            refine j_callV (q := (RJ4, TJ4, 4)) dX8_joined_36 kJ4_append_bf812 lX8_366 inJ4_append_bf812 seJ4_append_bf812 gs57 rfl (sb_apI hl w7 56 x1 ((bn + 1)) ((z_gr (bN) (bn + 1))) (f k) hs7 (by omega) (by omega) (by decide) hf7) (Nat.le_of_ble_eq_true rfl) ⟨(by show _ ≤ 24; omega), (by show _ ≤ 800; omega)⟩ rfl (Nat.le_of_ble_eq_true rfl) rfl rfl (fun _ _ h => h.elim) ?_
            rintro _ w8 ⟨rfl, fw8, hs8⟩
            have lf8 := fw8.lf (by decide)
            have g8_a := lf8.g ha g7_a
            have hf8 := lf8.2.2 hf7
            refine j_pop dX8_joined_39 rfl ?_
            refine j_iinc (lo' := [(3, _), (0, _), (1, _), (2, _)]) dX8_joined_40 rfl (z_inc _) (by decide) rfl ?_
            refine j_goto (tgt := 10) dX8_joined_43 (by decide) ?_
            refine j_widen (kc' := 1 + (z_gr ((z_gr (bN) (bn + 1))) ((bn + 1) + z_sz (f k))) / 16) (ks' := 2 * (z_gr ((z_gr (bN) (bn + 1))) ((bn + 1) + z_sz (f k)))) (by omega) (by omega) ?_
            exact j_lo2 (ih w8 (k + 1) ((bn + 1) + z_sz (f k)) (z_gr ((z_gr (bN) (bn + 1))) ((bn + 1) + z_sz (f k))) ((hlf10.tr lf7).tr lf8) hf8 (by omega) (by omega) g8_a hs8 (by omega) (by omega) (by omega) (by rw [hr.tk (by omega), sp_jl_s, ← hjl, List.length_take]; split <;> omega) (by omega)) (z_q1 rfl (z_q1 rfl (z_q1 rfl (z_q1 rfl z_q0))))
  refine j_widen (kc' := 1 + 16 / 16) (ks' := 2 * 16) (by omega) (by omega) ?_
  exact j_lo2 (loop10 (N + 1) w2 0 0 16 (((u1.fw hx1a hx1b).lf (by decide)).tr lf2) hf2 (by omega) (by omega) g2_a hs2 (by omega) (by omega) (by omega) rfl (by omega)) (z_q1 rfl (z_q1 rfl (z_q1 rfl (z_q1 rfl z_q0))))
set_option maxRecDepth 100000 in
set_option maxHeartbeats 8000000 in
theorem cg_recentE (hl : l.stackTraces = false) (w : z_W) (h a : Nat) (E : sp_H) (f : Nat → Int32) (hh : h < 1000) (ha : a < 1000) (hf : z_fn w) (he : z_row 10 (nI E.2.length) f E.2) (gh : z_g w h = some (.inr (5, [.ref a, .int (nI E.2.length), .int E.1.2.1, .int E.1.2.2.1, .int E.1.2.2.2, .int E.1.1]))) (ga : z_g w a = some (.inl (0, 10, fun j => .int (f j)))) : z_Con G l mX0_recent 19 24 800 w [.ref h] (fun v w9 => ∃ r, v = some (.ref r) ∧ z_lf w w9 ∧ z_tx w9 57 r (sp_jl E.2)) (fun _ _ => False) := by
  refine z_body hl (by decide) rfl (Nat.le_of_ble_eq_true rfl) ?_
  show z_J G l mX0_recent _ 0 [(0, _)] [] _ 0 0
  refine j_aload_n dX0_recent_0 rfl rfl ?_
  refine j_getf dX0_recent_1 fX0_9 gh rfl ?_
  refine j_aload_n dX0_recent_4 rfl rfl ?_
  refine j_getf dX0_recent_5 fX0_32 gh rfl ?_
  refine j_callSN dX0_recent_8 kX8_joined lX0_38 stX8_joined (cg_joinedE hl w a 10 f E.2 ha (by decide) hf he ga) (Nat.le_of_ble_eq_true rfl) ⟨(by show _ ≤ 24; omega), (by show _ ≤ 800; omega)⟩ rfl (Nat.le_of_ble_eq_true rfl) rfl rfl (fun _ _ h => h.elim) ?_
  rintro _ w1 ⟨r1, rfl, lf1, ht1⟩
  have g1_h := lf1.g hh gh
  have g1_a := lf1.g ha ga
  have hf1 := lf1.2.2 hf
  refine j_aret dX0_recent_11 rfl (Or.inl ⟨_, rfl⟩) rfl ?_ (by show _ ≤ 24; omega) (by show _ ≤ 800; omega)
  exact ⟨_, rfl, lf1, ht1⟩
set_option maxRecDepth 100000 in
set_option maxHeartbeats 8000000 in
theorem cg_mixedHE (hl : l.stackTraces = false) (w : z_W) (d0 : Int64) (h a : Nat) (E : sp_H) (f : Nat → Int32) (hh : h < 1000) (ha : a < 1000) (hf : z_fn w) (he : z_row 10 (nI E.2.length) f E.2) (gh : z_g w h = some (.inr (5, [.ref a, .int (nI E.2.length), .int E.1.2.1, .int E.1.2.2.1, .int E.1.2.2.2, .int E.1.1]))) (ga : z_g w a = some (.inl (0, 10, fun j => .int (f j)))) (hnd : [h, a].Nodup) : z_Con G l mX8_mixedHearer 20 24 800 w [.long d0, .ref h] (fun v w9 => v = some (.long (sp_mxl d0 (sp_hel E))) ∧ z_lf w w9) (fun _ _ => False) := by
  refine z_body hl (by decide) rfl (Nat.le_of_ble_eq_true rfl) ?_
  show z_J G l mX8_mixedHearer _ 0 [(0, _), (2, _)] [] _ 0 0
  refine j_lload_n dX8_mixedHearer_0 rfl ?_
  refine j_lstore_n (lo' := [(3, _), (0, _), (2, _)]) dX8_mixedHearer_1 (by decide) rfl ?_
  refine j_iconst (v := 0) dX8_mixedHearer_2 (by decide) ?_
  refine j_istore (lo' := [(5, _), (3, _), (0, _), (2, _)]) dX8_mixedHearer_3 (by decide) rfl ?_
  have loop5 : ∀ (n9 : Nat) (w1 : z_W) (k : Nat) (d : Int64), (z_lf w w1) → (z_fn w1) → (k ≤ 4) → (4 < k + n9) → (z_g w1 h = some (.inr (5, [.ref a, .int (nI E.2.length), .int E.1.2.1, .int E.1.2.2.1, .int E.1.2.2.2, .int E.1.1]))) → (z_g w1 a = some (.inl (0, 10, fun j => .int (f j)))) → (d = sp_mxl d0 ((List.range k).map (fun i => sp_tel E (nI i)))) → z_J G l mX8_mixedHearer (20, 24, 800, w, (fun v w9 => v = some (.long (sp_mxl d0 (sp_hel E))) ∧ z_lf w w9), (fun _ _ => False)) 5 [(2, .ref h), (3, .long d), (5, .int (nI k))] [] w1 (0) (0) := by
    intro n9
    induction n9 with
    | zero => intro w1 k d hlf5 hfn5 hj hf9 gh ga hd; exact absurd hf9 (by omega)
    | succ n9 ih =>
      intro w1 k d hlf5 hfn5 hj hf9 gh ga hd
      refine j_iload dX8_mixedHearer_5 rfl ?_
      refine j_iconst (v := 3) dX8_mixedHearer_7 (by decide) ?_
      refine j_icmp_gt (tgt := 28) dX8_mixedHearer_8 (by decide) (fun c_8_14 => ?_) (fun c_8_14 => ?_)
      · have hb8 : 3 < k := (nI_ltI (a := 3) (b := k) (by omega) (by omega)).mp c_8_14
        refine j_lload_n dX8_mixedHearer_28 rfl ?_
        refine j_aload_n dX8_mixedHearer_29 rfl rfl ?_
        refine j_callV (q := (RX0, TX0, 6)) dX8_mixedHearer_30 kX0_recent lX8_190 inX0_recent seX0_recent gh rfl (cg_recentE hl w1 h a E f hh ha hfn5 he gh ga) (Nat.le_of_ble_eq_true rfl) ⟨(by show _ ≤ 24; omega), (by show _ ≤ 800; omega)⟩ rfl (Nat.le_of_ble_eq_true rfl) rfl rfl (fun _ _ h => h.elim) ?_
        rintro _ w2 ⟨r2, rfl, lf2, ht2⟩
        have g2_h := lf2.g hh gh
        have g2_a := lf2.g ha ga
        have hf2 := lf2.2.2 hfn5
        obtain ⟨fs58, gs58⟩ := ht2.cell
        refine j_callV (q := (RJ0, TJ0, 4)) dX8_mixedHearer_33 kJ0_length_8abf5 lX8_355 inJ0_length_8abf5 (z_w 781 ((lwg_4 16).trans rfl) (by decide +kernel)) gs58 rfl (tx_len hl w2 57 r2 _ ht2) (Nat.le_of_ble_eq_true rfl) ⟨(by show _ ≤ 24; omega), (by show _ ≤ 800; omega)⟩ rfl (Nat.le_of_ble_eq_true rfl) rfl rfl (fun _ _ h => h.elim) ?_
        rintro _ _ ⟨rfl, hw59⟩
        refine j_w w2 hw59 ?_
        refine j_callS dX8_mixedHearer_36 kX8_mixed lX8_277 stX8_mixed (c_X8_mixed_e hl w2 _ _) (Nat.le_of_ble_eq_true rfl) ⟨(by show _ ≤ 24; omega), (by show _ ≤ 800; omega)⟩ rfl (Nat.le_of_ble_eq_true rfl) rfl rfl (fun _ _ h => h.elim) ?_
        rintro _ _ ⟨rfl, hw60⟩
        refine j_w w2 hw60 ?_
        refine j_lret dX8_mixedHearer_39 rfl ?_ (by show _ ≤ 24; omega) (by show _ ≤ 800; omega)
        refine ⟨congrArg (fun z => some (Value.long z)) ?_, (hlf5.tr lf2)⟩
        rw [hd, show k = 4 by omega]
        exact sp_mxl_s.symm
      · have hb8 : ¬ 3 < k := fun z => c_8_14 ((nI_ltI (a := 3) (b := k) (by omega) (by omega)).mpr z)
        refine j_lload_n dX8_mixedHearer_11 rfl ?_
        refine j_aload_n dX8_mixedHearer_12 rfl rfl ?_
        refine j_iload dX8_mixedHearer_13 rfl ?_
        refine j_callV (q := (RX0, TX0, 6)) dX8_mixedHearer_15 kX0_tells lX8_187 inX0_tells seX0_tells gh rfl (z_rof [h, a] (z_thc gh (z_thc ga rfl)) hnd (Nat.le_of_ble_eq_true rfl) (c_X0_tells_e hl E f (nI k)) (Qv := fun v => v = some (.int (sp_tel E (nI k)))) (fun v L q => q)) (Nat.le_of_ble_eq_true rfl) ⟨(by show _ ≤ 24; omega), (by show _ ≤ 800; omega)⟩ rfl (Nat.le_of_ble_eq_true rfl) rfl rfl (fun _ _ h => h.elim) ?_
        rintro _ _ ⟨⟨v61, rfl, rfl⟩, hw61⟩
        refine j_w w1 hw61 ?_
        refine j_callS dX8_mixedHearer_18 kX8_mixed lX8_277 stX8_mixed (c_X8_mixed_e hl w1 _ _) (Nat.le_of_ble_eq_true rfl) ⟨(by show _ ≤ 24; omega), (by show _ ≤ 800; omega)⟩ rfl (Nat.le_of_ble_eq_true rfl) rfl rfl (fun _ _ h => h.elim) ?_
        rintro _ _ ⟨rfl, hw62⟩
        refine j_w w1 hw62 ?_
        refine j_lstore_n (lo' := [(3, _), (2, _), (5, _)]) dX8_mixedHearer_21 (by decide) rfl ?_
        refine j_iinc (lo' := [(5, _), (3, _), (2, _)]) dX8_mixedHearer_22 rfl (z_inc _) (by decide) rfl ?_
        refine j_goto (tgt := 5) dX8_mixedHearer_25 (by decide) ?_
        refine j_widen (kc' := 0) (ks' := 0) (by omega) (by omega) ?_
        exact j_lo2 (ih w1 (k + 1) _ hlf5 hfn5 (by omega) (by omega) gh ga (by rw [hd, sp_rg, sp_mxl_s])) (z_q1 rfl (z_q1 rfl (z_q1 rfl z_q0)))
  refine j_widen (kc' := 0) (ks' := 0) (by omega) (by omega) ?_
  exact j_lo2 (loop5 5 w 0 _ z_lf.rf hf (by omega) (by omega) gh ga sp_mxl_nil.symm) (z_q1 rfl (z_q1 rfl (z_q1 rfl z_q0)))
set_option maxRecDepth 100000 in
set_option maxHeartbeats 8000000 in
theorem cg_houseE (hl : l.stackTraces = false) (w : z_W) (S : sp_S) (fa : Nat → Int32) (fb : Nat → Int32) (mt : Int32) (ft : Nat → Int32) (ct : Nat → Int32) (f0 : Nat → Int32) (g0 : Nat → Int32) (f1 : Nat → Int32) (g1 : Nat → Int32) (c1 : Nat → Int32) (f2 : Nat → Int32) (g2 : Nat → Int32) (c2 : Nat → Int32) (f3 : Nat → Int32) (g3 : Nat → Int32) (c3 : Nat → Int32) (m3 : Int32) (f4 : Nat → Int32) (g4 : Nat → Int32) (c4 : Nat → Int32) (m4 : Int32) (f5 : Nat → Int32) (g5 : Nat → Int32) (c5 : Nat → Int32) (m5 : Int32) (ef0 : Nat → Int32) (ef1 : Nat → Int32) (p : Int32) (h1 : w.1 = (z_cw S.1.1 S.1.2 (nI (sp_R S 0).length) (sp_F S 0) fa (sp_C S 0) (nI (sp_R S 1).length) (sp_F S 1) fb (sp_C S 1) mt false ft ct f0 g0 (sp_C S 2) (nI (sp_T S 0).length) 0 f1 g1 c1 (nI (sp_T S 1).length) 0 f2 g2 c2 (nI (sp_T S 2).length) 1 f3 g3 c3 m3 0 f4 g4 c4 m4 0 f5 g5 c5 m5 1 (nI (sp_E S 0).2.length) (sp_E S 0).1.2.1 (sp_E S 0).1.2.2.1 (sp_E S 0).1.2.2.2 (sp_E S 0).1.1 ef0 (nI (sp_E S 1).2.length) (sp_E S 1).1.2.1 (sp_E S 1).1.2.2.1 (sp_E S 1).1.2.2.2 (sp_E S 1).1.1 ef1 [])) (hpp : 0 ≤ p ∧ p ≤ 4) : z_Con G l mX8_house 20 0 0 w [.ref 0, .int p] (fun v w9 => v = some (.int (sp_hse S p)) ∧ w9 = w) (fun _ _ => False) := by
  refine z_body hl (by decide) rfl (Nat.le_of_ble_eq_true rfl) ?_
  show z_J G l mX8_house _ 0 [(0, _), (1, _)] [] _ 0 0
  refine j_iload_n dX8_house_0 rfl ?_
  refine j_iconst (v := 0) dX8_house_1 (by decide) ?_
  refine j_iconst (v := 4) dX8_house_2 (by decide) ?_
  refine j_callS dX8_house_3 kX8_checkRange lX8_72 stX8_checkRange (cg_range hl w _ _ _ hpp) (Nat.le_of_ble_eq_true rfl) ⟨(by show _ ≤ 0; omega), (by show _ ≤ 0; omega)⟩ rfl (Nat.le_of_ble_eq_true rfl) rfl rfl (fun _ _ h => h.elim) ?_
  rintro _ _ ⟨rfl, hw63⟩
  refine j_w w hw63 ?_
  refine j_iload_n dX8_house_6 rfl ?_
  rcases z_sw4 p with rfl | rfl | rfl | rfl | hp
  · refine j_tsIn (tgt := 36) dX8_house_7 (by decide) (by decide) rfl (by decide) ?_
    refine j_aload_n dX8_house_36 rfl rfl ?_
    refine j_callV (q := (RX8, TX8, 9)) dX8_house_37 kX8_valuesOfRows lX8_247 inX8_valuesOfRows seX8_valuesOfRows (z_g1 h1 (by decide) rfl) rfl (z_liftro (Qv := fun v => v = some (.int (nI (0 + (sp_R S 0).length + (sp_R S 1).length)))) (Xv := fun _ => False) 51 h1 rfl (by decide) z_cwR rfl (z_CFX (X := fun _ _ => False) (c_X8_valuesOfRows_e hl S fa fb mt ft ct f0 g0 f1 g1 c1 f2 g2 c2 f3 g3 c3 m3 f4 g4 c4 m4 f5 g5 c5 m5 ef0 ef1)) (fun v L q => q) (fun v q => by cases q; rfl) (fun E L q => q.elim)) (Nat.le_of_ble_eq_true rfl) ⟨(by show _ ≤ 0; omega), (by show _ ≤ 0; omega)⟩ rfl (Nat.le_of_ble_eq_true rfl) rfl rfl (fun _ _ h => h.1.elim) ?_
    rintro _ _ ⟨rfl, hw64⟩
    refine j_w w hw64 ?_
    refine j_iret dX8_house_40 rfl rfl ?_ (by show _ ≤ 0; omega) (by show _ ≤ 0; omega)
    first | exact ⟨congrArg (fun z => some (Value.int z)) (by rw [Nat.zero_add, ← nI_add]; rfl), rfl⟩ | exact ⟨congrArg (fun z => some (Value.int z)) (by rw [Nat.zero_add, ← nI_add, ← nI_add]; rfl), rfl⟩ | exact ⟨congrArg (fun z => some (Value.int z)) (by rw [Int32.zero_add]; rfl), rfl⟩ | exact ⟨rfl, rfl⟩ | exact ⟨congrArg (fun z => some (Value.int z)) (by rw [sp_hse4 hp] <;> rfl), rfl⟩
  · refine j_tsIn (tgt := 41) dX8_house_7 (by decide) (by decide) rfl (by decide) ?_
    refine j_aload_n dX8_house_41 rfl rfl ?_
    refine j_callV (q := (RX8, TX8, 9)) dX8_house_42 kX8_pairsOfTables lX8_250 inX8_pairsOfTables seX8_pairsOfTables (z_g1 h1 (by decide) rfl) rfl (z_liftro (Qv := fun v => v = some (.int (nI (0 + (sp_T S 0).length + (sp_T S 1).length + (sp_T S 2).length)))) (Xv := fun _ => False) 51 h1 rfl (by decide) z_cwR rfl (z_CFX (X := fun _ _ => False) (c_X8_pairsOfTables_e hl S fa fb mt ft ct f0 g0 f1 g1 c1 f2 g2 c2 f3 g3 c3 m3 f4 g4 c4 m4 f5 g5 c5 m5 ef0 ef1)) (fun v L q => q) (fun v q => by cases q; rfl) (fun E L q => q.elim)) (Nat.le_of_ble_eq_true rfl) ⟨(by show _ ≤ 0; omega), (by show _ ≤ 0; omega)⟩ rfl (Nat.le_of_ble_eq_true rfl) rfl rfl (fun _ _ h => h.1.elim) ?_
    rintro _ _ ⟨rfl, hw65⟩
    refine j_w w hw65 ?_
    refine j_iret dX8_house_45 rfl rfl ?_ (by show _ ≤ 0; omega) (by show _ ≤ 0; omega)
    first | exact ⟨congrArg (fun z => some (Value.int z)) (by rw [Nat.zero_add, ← nI_add]; rfl), rfl⟩ | exact ⟨congrArg (fun z => some (Value.int z)) (by rw [Nat.zero_add, ← nI_add, ← nI_add]; rfl), rfl⟩ | exact ⟨congrArg (fun z => some (Value.int z)) (by rw [Int32.zero_add]; rfl), rfl⟩ | exact ⟨rfl, rfl⟩ | exact ⟨congrArg (fun z => some (Value.int z)) (by rw [sp_hse4 hp] <;> rfl), rfl⟩
  · refine j_tsIn (tgt := 46) dX8_house_7 (by decide) (by decide) rfl (by decide) ?_
    refine j_aload_n dX8_house_46 rfl rfl ?_
    refine j_callV (q := (RX8, TX8, 9)) dX8_house_47 kX8_numbersHeard lX8_253 inX8_numbersHeard seX8_numbersHeard (z_g1 h1 (by decide) rfl) rfl (z_liftro (Qv := fun v => v = some (.int (0 + (sp_E S 0).1.2.1 + (sp_E S 1).1.2.1))) (Xv := fun _ => False) 51 h1 rfl (by decide) z_cwR rfl (z_CFX (X := fun _ _ => False) (c_X8_numbersHeard_e hl S fa fb mt ft ct f0 g0 f1 g1 c1 f2 g2 c2 f3 g3 c3 m3 f4 g4 c4 m4 f5 g5 c5 m5 ef0 ef1)) (fun v L q => q) (fun v q => by cases q; rfl) (fun E L q => q.elim)) (Nat.le_of_ble_eq_true rfl) ⟨(by show _ ≤ 0; omega), (by show _ ≤ 0; omega)⟩ rfl (Nat.le_of_ble_eq_true rfl) rfl rfl (fun _ _ h => h.1.elim) ?_
    rintro _ _ ⟨rfl, hw66⟩
    refine j_w w hw66 ?_
    refine j_iret dX8_house_50 rfl rfl ?_ (by show _ ≤ 0; omega) (by show _ ≤ 0; omega)
    first | exact ⟨congrArg (fun z => some (Value.int z)) (by rw [Nat.zero_add, ← nI_add]; rfl), rfl⟩ | exact ⟨congrArg (fun z => some (Value.int z)) (by rw [Nat.zero_add, ← nI_add, ← nI_add]; rfl), rfl⟩ | exact ⟨congrArg (fun z => some (Value.int z)) (by rw [Int32.zero_add]; rfl), rfl⟩ | exact ⟨rfl, rfl⟩ | exact ⟨congrArg (fun z => some (Value.int z)) (by rw [sp_hse4 hp] <;> rfl), rfl⟩
  · refine j_tsIn (tgt := 51) dX8_house_7 (by decide) (by decide) rfl (by decide) ?_
    refine j_aload_n dX8_house_51 rfl rfl ?_
    refine j_getf dX8_house_52 fX8_256 (z_g1 h1 (by decide) rfl) rfl ?_
    refine j_iret dX8_house_55 rfl rfl ?_ (by show _ ≤ 0; omega) (by show _ ≤ 0; omega)
    first | exact ⟨congrArg (fun z => some (Value.int z)) (by rw [Nat.zero_add, ← nI_add]; rfl), rfl⟩ | exact ⟨congrArg (fun z => some (Value.int z)) (by rw [Nat.zero_add, ← nI_add, ← nI_add]; rfl), rfl⟩ | exact ⟨congrArg (fun z => some (Value.int z)) (by rw [Int32.zero_add]; rfl), rfl⟩ | exact ⟨rfl, rfl⟩ | exact ⟨congrArg (fun z => some (Value.int z)) (by rw [sp_hse4 hp] <;> rfl), rfl⟩
  · refine j_tsOut (tgt := 56) dX8_house_7 hp (by decide) ?_
    refine j_aload_n dX8_house_56 rfl rfl ?_
    refine j_getf dX8_house_57 fX8_244 (z_g1 h1 (by decide) rfl) rfl ?_
    refine j_iret dX8_house_60 rfl rfl ?_ (by show _ ≤ 0; omega) (by show _ ≤ 0; omega)
    first | exact ⟨congrArg (fun z => some (Value.int z)) (by rw [Nat.zero_add, ← nI_add]; rfl), rfl⟩ | exact ⟨congrArg (fun z => some (Value.int z)) (by rw [Nat.zero_add, ← nI_add, ← nI_add]; rfl), rfl⟩ | exact ⟨congrArg (fun z => some (Value.int z)) (by rw [Int32.zero_add]; rfl), rfl⟩ | exact ⟨rfl, rfl⟩ | exact ⟨congrArg (fun z => some (Value.int z)) (by rw [sp_hse4 hp] <;> rfl), rfl⟩
set_option maxRecDepth 100000 in
set_option maxHeartbeats 16000000 in
theorem px_digest (hl : l.stackTraces = false) (w : z_W) (S : sp_S) (hW : sp_CW S w.1) (hf : z_fn w) : z_Con G l mX8_digest 24 60 1660 w [.ref 0] (fun v w9 => v = some (.long (sp_dg S)) ∧ sp_CW S w9.1 ∧ z_hi w w9) (fun _ _ => False) := by
  obtain ⟨fa, fb, mt, ft, ct, f0, g0, f1, g1, c1, f2, g2, c2, f3, g3, c3, m3, f4, g4, c4, m4, f5, g5, c5, m5, ef0, ef1, hra, hrb, ht0, ht1, ht2, he0, he1, hzm3, hzm4, hzm5, h1⟩ := id hW
  refine z_body hl (by decide) rfl (Nat.le_of_ble_eq_true rfl) ?_
  show z_J G l mX8_digest _ 0 [(0, _)] [] _ 0 0
  refine j_ldc2 dX8_digest_0 kcX8_272 ?_
  refine j_lstore_n (lo' := [(1, _), (0, _)]) dX8_digest_3 (by decide) rfl ?_
  refine j_iconst (v := 0) dX8_digest_4 (by decide) ?_
  refine j_istore_n (lo' := [(3, _), (1, _), (0, _)]) dX8_digest_5 (by decide) rfl ?_
  have loop6 : ∀ (n1 : Nat) (w1 : z_W) (k : Nat) (d : Int64), (z_lf w w1) → (z_fn w1) → (k ≤ 5) → (5 < k + n1) → (d = sp_mxl 7774 ((List.range k).map (sp_hsv S))) → z_J G l mX8_digest (24, 60, 1660, w, (fun v w9 => v = some (.long (sp_dg S)) ∧ sp_CW S w9.1 ∧ z_hi w w9), (fun _ _ => False)) 6 [(0, .ref 0), (1, .long d), (3, .int (nI k))] [] w1 (0) (0) := by
    intro n1
    induction n1 with
    | zero => intro w1 k d hlf6 hfn6 ha1 hb1 hd1; exact absurd hb1 (by omega)
    | succ n1 i1 =>
      intro w1 k d hlf6 hfn6 ha1 hb1 hd1
      refine j_iload_n dX8_digest_6 rfl ?_
      refine j_iconst (v := 4) dX8_digest_7 (by decide) ?_
      refine j_icmp_gt (tgt := 27) dX8_digest_8 (by decide) (fun c_8_14 => ?_) (fun c_8_14 => ?_)
      · have hb8 : 4 < k := (nI_ltI (a := 4) (b := k) (by omega) (by omega)).mp c_8_14
        refine j_aload_n dX8_digest_27 rfl rfl ?_
        refine j_getf dX8_digest_28 fX8_10 (z_g1 (hlf6.1.trans h1) (by decide) rfl) rfl ?_
        refine j_astore_n (lo' := [(3, _), (0, _), (1, _)]) dX8_digest_31 rfl (by decide) rfl ?_
        refine j_aload_n dX8_digest_32 rfl rfl ?_
        refine j_alen dX8_digest_33 (z_g1 (hlf6.1.trans h1) (by decide) rfl) rfl rfl ?_
        refine j_istore (lo' := [(4, _), (3, _), (0, _), (1, _)]) dX8_digest_34 (by decide) rfl ?_
        refine j_iconst (v := 0) dX8_digest_36 (by decide) ?_
        refine j_istore (lo' := [(5, _), (4, _), (3, _), (0, _), (1, _)]) dX8_digest_37 (by decide) rfl ?_
        have loop39 : ∀ (n2 : Nat) (w2 : z_W) (k : Nat) (d : Int64), (z_lf w w2) → (z_fn w2) → (k ≤ 2) → (2 < k + n2) → (d = sp_mxl (sp_d1 S) (sp_rws S k)) → z_J G l mX8_digest (24, 60, 1660, w, (fun v w9 => v = some (.long (sp_dg S)) ∧ sp_CW S w9.1 ∧ z_hi w w9), (fun _ _ => False)) 39 [(0, .ref 0), (1, .long d), (3, .ref 1), (4, .int (nI 2)), (5, .int (nI k))] [] w2 (0) (0) := by
          intro n2
          induction n2 with
          | zero => intro w2 k d hlf39 hfn39 ha2 hb2 hd2; exact absurd hb2 (by omega)
          | succ n2 i2 =>
            intro w2 k d hlf39 hfn39 ha2 hb2 hd2
            refine j_iload dX8_digest_39 rfl ?_
            refine j_iload dX8_digest_41 rfl ?_
            refine j_icmp_ge (tgt := 65) dX8_digest_43 (by decide) (fun c_43_32 => ?_) (fun c_43_32 => ?_)
            · have hb43 : 2 ≤ k := (nI_leI (a := 2) (b := k) (by omega) (by omega)).mp c_43_32
              refine j_aload_n dX8_digest_65 rfl rfl ?_
              refine j_getf dX8_digest_66 fX8_25 (z_g1 (hlf39.1.trans h1) (by decide) rfl) rfl ?_
              refine j_astore_n (lo' := [(3, _), (0, _), (1, _), (4, _), (5, _)]) dX8_digest_69 rfl (by decide) rfl ?_
              refine j_aload_n dX8_digest_70 rfl rfl ?_
              refine j_alen dX8_digest_71 (z_g1 (hlf39.1.trans h1) (by decide) rfl) rfl rfl ?_
              refine j_istore (lo' := [(4, _), (3, _), (0, _), (1, _), (5, _)]) dX8_digest_72 (by decide) rfl ?_
              refine j_iconst (v := 0) dX8_digest_74 (by decide) ?_
              refine j_istore (lo' := [(5, _), (4, _), (3, _), (0, _), (1, _)]) dX8_digest_75 (by decide) rfl ?_
              have loop77 : ∀ (n3 : Nat) (w3 : z_W) (k : Nat) (d : Int64), (z_lf w w3) → (z_fn w3) → (k ≤ 3) → (3 < k + n3) → (d = sp_mxl (sp_d2 S) (sp_tbs S k)) → z_J G l mX8_digest (24, 60, 1660, w, (fun v w9 => v = some (.long (sp_dg S)) ∧ sp_CW S w9.1 ∧ z_hi w w9), (fun _ _ => False)) 77 [(0, .ref 0), (1, .long d), (3, .ref 15), (4, .int (nI 3)), (5, .int (nI k))] [] w3 (0) (0) := by
                intro n3
                induction n3 with
                | zero => intro w3 k d hlf77 hfn77 ha3 hb3 hd3; exact absurd hb3 (by omega)
                | succ n3 i3 =>
                  intro w3 k d hlf77 hfn77 ha3 hb3 hd3
                  refine j_iload dX8_digest_77 rfl ?_
                  refine j_iload dX8_digest_79 rfl ?_
                  refine j_icmp_ge (tgt := 103) dX8_digest_81 (by decide) (fun c_81_50 => ?_) (fun c_81_50 => ?_)
                  · have hb81 : 3 ≤ k := (nI_leI (a := 3) (b := k) (by omega) (by omega)).mp c_81_50
                    refine j_iconst (v := 0) dX8_digest_103 (by decide) ?_
                    refine j_istore_n (lo' := [(3, _), (0, _), (1, _), (4, _), (5, _)]) dX8_digest_104 (by decide) rfl ?_
                    have loop105 : ∀ (n4 : Nat) (w4 : z_W) (k : Nat) (d : Int64), (z_lf w w4) → (z_fn w4) → (k ≤ 7) → (7 < k + n4) → (d = sp_mxl (sp_d3 S) ((List.range k).map (sp_C S 2))) → z_J G l mX8_digest (24, 60, 1660, w, (fun v w9 => v = some (.long (sp_dg S)) ∧ sp_CW S w9.1 ∧ z_hi w w9), (fun _ _ => False)) 105 [(0, .ref 0), (1, .long d), (3, .int (nI k))] [] w4 (0) (0) := by
                      intro n4
                      induction n4 with
                      | zero => intro w4 k d hlf105 hfn105 ha4 hb4 hd4; exact absurd hb4 (by omega)
                      | succ n4 i4 =>
                        intro w4 k d hlf105 hfn105 ha4 hb4 hd4
                        refine j_iload_n dX8_digest_105 rfl ?_
                        refine j_bipush (v := 6) dX8_digest_106 (by decide) ?_
                        refine j_icmp_gt (tgt := 133) dX8_digest_108 (by decide) (fun c_108_62 => ?_) (fun c_108_62 => ?_)
                        · have hb108 : 6 < k := (nI_ltI (a := 6) (b := k) (by omega) (by omega)).mp c_108_62
                          refine j_aload_n dX8_digest_133 rfl rfl ?_
                          refine j_getf dX8_digest_134 fX8_32 (z_g1 (hlf105.1.trans h1) (by decide) rfl) rfl ?_
                          refine j_astore_n (lo' := [(3, _), (0, _), (1, _)]) dX8_digest_137 rfl (by decide) rfl ?_
                          refine j_aload_n dX8_digest_138 rfl rfl ?_
                          refine j_alen dX8_digest_139 (z_g1 (hlf105.1.trans h1) (by decide) rfl) rfl rfl ?_
                          refine j_istore (lo' := [(4, _), (3, _), (0, _), (1, _)]) dX8_digest_140 (by decide) rfl ?_
                          refine j_iconst (v := 0) dX8_digest_142 (by decide) ?_
                          refine j_istore (lo' := [(5, _), (4, _), (3, _), (0, _), (1, _)]) dX8_digest_143 (by decide) rfl ?_
                          have loop145 : ∀ (n5 : Nat) (w5 : z_W) (k : Nat) (d : Int64), (z_lf w w5) → (z_fn w5) → (k ≤ 2) → (2 < k + n5) → (d = sp_mxl (sp_d4 S) (sp_hes S k)) → z_J G l mX8_digest (24, 60, 1660, w, (fun v w9 => v = some (.long (sp_dg S)) ∧ sp_CW S w9.1 ∧ z_hi w w9), (fun _ _ => False)) 145 [(0, .ref 0), (1, .long d), (3, .ref 26), (4, .int (nI 2)), (5, .int (nI k))] [] w5 (24 * k) (800 * k) := by
                            intro n5
                            induction n5 with
                            | zero => intro w5 k d hlf145 hfn145 ha5 hb5 hd5; exact absurd hb5 (by omega)
                            | succ n5 i5 =>
                              intro w5 k d hlf145 hfn145 ha5 hb5 hd5
                              refine j_iload dX8_digest_145 rfl ?_
                              refine j_iload dX8_digest_147 rfl ?_
                              refine j_icmp_ge (tgt := 171) dX8_digest_149 (by decide) (fun c_149_80 => ?_) (fun c_149_80 => ?_)
                              · have hb149 : 2 ≤ k := (nI_leI (a := 2) (b := k) (by omega) (by omega)).mp c_149_80
                                refine j_lload_n dX8_digest_171 rfl ?_
                                refine j_aload_n dX8_digest_172 rfl rfl ?_
                                have hWs : sp_CW S w5.1 := by rw [hlf145.1]; exact hW
                                refine j_callV (q := (RX8, TX8, 9)) dX8_digest_173 kX8_isSound lX8_293 inX8_isSound seX8_isSound (z_g1 (hlf145.1.trans h1) (by decide) rfl) rfl (px_isSound hl w5 S hWs) (Nat.le_of_ble_eq_true rfl) ⟨(by show _ ≤ 60; omega), (by show _ ≤ 1660; omega)⟩ rfl (Nat.le_of_ble_eq_true rfl) rfl rfl (fun _ _ h => h.elim) ?_
                                rintro _ w6 ⟨rfl, hWn, hhi⟩
                                refine j_callS dX8_digest_176 kX8_oneIf lX8_83 stX8_oneIf (c_X8_oneIf_b hl w6 true) (Nat.le_of_ble_eq_true rfl) ⟨(by show _ ≤ 60; omega), (by show _ ≤ 1660; omega)⟩ rfl (Nat.le_of_ble_eq_true rfl) rfl rfl (fun _ _ h => h.elim) ?_
                                rintro _ _ ⟨rfl, hw67⟩
                                refine j_w w6 hw67 ?_
                                refine j_callS dX8_digest_179 kX8_mixed lX8_277 stX8_mixed (c_X8_mixed_e hl w6 _ _) (Nat.le_of_ble_eq_true rfl) ⟨(by show _ ≤ 60; omega), (by show _ ≤ 1660; omega)⟩ rfl (Nat.le_of_ble_eq_true rfl) rfl rfl (fun _ _ h => h.elim) ?_
                                rintro _ _ ⟨rfl, hw68⟩
                                refine j_w w6 hw68 ?_
                                refine j_lret dX8_digest_182 rfl ?_ (by show _ ≤ 60; omega) (by show _ ≤ 1660; omega)
                                refine ⟨congrArg (fun z => some (Value.long z)) ?_, hWn, hlf145.2.tr hhi⟩
                                have h9 : k = 2 := by omega
                                subst h9
                                rw [hd5]
                                exact sp_e5
                              · have hb149 : k < 2 := Nat.not_le.mp (fun z => c_149_80 ((nI_leI (a := 2) (b := k) (by omega) (by omega)).mpr z))
                                rcases (by omega : k = 0 ∨ k = 1) with rfl | rfl
                                · refine j_aload_n dX8_digest_152 rfl rfl ?_
                                  refine j_iload dX8_digest_153 rfl ?_
                                  refine j_aald (v := .ref 27) dX8_digest_155 (z_g1 (hlf145.1.trans h1) (by decide) rfl) rfl rfl (vp_in_nI (by decide) (by decide)) (by rw [show (nI 0).toNatClampNeg = 0 from z_cla (by decide)]; rfl) ?_
                                  refine j_astore (lo' := [(6, _), (0, _), (1, _), (3, _), (4, _), (5, _)]) dX8_digest_156 rfl (by decide) rfl ?_
                                  refine j_lload_n dX8_digest_158 rfl ?_
                                  refine j_aload dX8_digest_159 rfl rfl ?_
                                  refine j_callS dX8_digest_161 kX8_mixedHearer lX8_289 stX8_mixedHearer (cg_mixedHE hl w5 d 27 28 (sp_E S 0) ef0 (by decide) (by decide) hfn145 he0 (z_g1 (hlf145.1.trans h1) (by decide) rfl) (z_g1 (hlf145.1.trans h1) (by decide) rfl) (by decide)) (Nat.le_of_ble_eq_true rfl) ⟨(by show _ ≤ 60; omega), (by show _ ≤ 1660; omega)⟩ rfl (Nat.le_of_ble_eq_true rfl) rfl rfl (fun _ _ h => h.elim) ?_
                                  rintro _ w7 ⟨rfl, lf7⟩
                                  have hf7 := lf7.2.2 hfn145
                                  have h1_7 := (lf7.1).trans (hlf145.1.trans h1)
                                  refine j_lstore_n (lo' := [(1, _), (6, _), (0, _), (3, _), (4, _), (5, _)]) dX8_digest_164 (by decide) rfl ?_
                                  refine j_iinc (lo' := [(5, _), (1, _), (6, _), (0, _), (3, _), (4, _)]) dX8_digest_165 rfl (z_inc _) (by decide) rfl ?_
                                  refine j_goto (tgt := 145) dX8_digest_168 (by decide) ?_
                                  refine j_widen (kc' := 24 * (0 + 1)) (ks' := 800 * (0 + 1)) (by omega) (by omega) ?_
                                  exact j_lo2 (i5 w7 (0 + 1) _ (hlf145.tr lf7) hf7 (by omega) (by omega) (by rw [hd5]; exact sp_mxl_app.symm)) (z_q1 rfl (z_q1 rfl (z_q1 rfl (z_q1 rfl (z_q1 rfl z_q0)))))
                                · refine j_aload_n dX8_digest_152 rfl rfl ?_
                                  refine j_iload dX8_digest_153 rfl ?_
                                  refine j_aald (v := .ref 29) dX8_digest_155 (z_g1 (hlf145.1.trans h1) (by decide) rfl) rfl rfl (vp_in_nI (by decide) (by decide)) (by rw [show (nI 1).toNatClampNeg = 1 from z_cla (by decide)]; rfl) ?_
                                  refine j_astore (lo' := [(6, _), (0, _), (1, _), (3, _), (4, _), (5, _)]) dX8_digest_156 rfl (by decide) rfl ?_
                                  refine j_lload_n dX8_digest_158 rfl ?_
                                  refine j_aload dX8_digest_159 rfl rfl ?_
                                  refine j_callS dX8_digest_161 kX8_mixedHearer lX8_289 stX8_mixedHearer (cg_mixedHE hl w5 d 29 30 (sp_E S 1) ef1 (by decide) (by decide) hfn145 he1 (z_g1 (hlf145.1.trans h1) (by decide) rfl) (z_g1 (hlf145.1.trans h1) (by decide) rfl) (by decide)) (Nat.le_of_ble_eq_true rfl) ⟨(by show _ ≤ 60; omega), (by show _ ≤ 1660; omega)⟩ rfl (Nat.le_of_ble_eq_true rfl) rfl rfl (fun _ _ h => h.elim) ?_
                                  rintro _ w8 ⟨rfl, lf8⟩
                                  have hf8 := lf8.2.2 hfn145
                                  have h1_8 := (lf8.1).trans (hlf145.1.trans h1)
                                  refine j_lstore_n (lo' := [(1, _), (6, _), (0, _), (3, _), (4, _), (5, _)]) dX8_digest_164 (by decide) rfl ?_
                                  refine j_iinc (lo' := [(5, _), (1, _), (6, _), (0, _), (3, _), (4, _)]) dX8_digest_165 rfl (z_inc _) (by decide) rfl ?_
                                  refine j_goto (tgt := 145) dX8_digest_168 (by decide) ?_
                                  refine j_widen (kc' := 24 * (1 + 1)) (ks' := 800 * (1 + 1)) (by omega) (by omega) ?_
                                  exact j_lo2 (i5 w8 (1 + 1) _ (hlf145.tr lf8) hf8 (by omega) (by omega) (by rw [hd5]; exact sp_mxl_app.symm)) (z_q1 rfl (z_q1 rfl (z_q1 rfl (z_q1 rfl (z_q1 rfl z_q0)))))
                          refine j_widen (kc' := 24 * 0) (ks' := 800 * 0) (by omega) (by omega) ?_
                          exact j_lo2 (loop145 3 w4 0 _ hlf105 hfn105 (by omega) (by omega) (by have h9 : k = 7 := (by omega); subst h9; exact hd4.trans sp_e4)) (z_q1 rfl (z_q1 rfl (z_q1 rfl (z_q1 rfl (z_q1 rfl z_q0)))))
                        · have hb108 : ¬ 6 < k := fun z => c_108_62 ((nI_ltI (a := 6) (b := k) (by omega) (by omega)).mpr z)
                          refine j_lload_n dX8_digest_111 rfl ?_
                          refine j_aload_n dX8_digest_112 rfl rfl ?_
                          refine j_getf dX8_digest_113 fX8_21 (z_g1 (hlf105.1.trans h1) (by decide) rfl) rfl ?_
                          refine j_getf dX8_digest_116 fX8_223 (z_g1 (hlf105.1.trans h1) (by decide) rfl) rfl ?_
                          refine j_iload_n dX8_digest_119 rfl ?_
                          refine j_callV (q := (RX6, TX6, 1)) dX8_digest_120 kX6_of lX8_218 inX6_of seX6_of (z_g1 (hlf105.1.trans h1) (by decide) rfl) rfl (z_rof [13, 14] (z_thc (z_g1 (hlf105.1.trans h1) (by decide) rfl) (z_thc (z_g1 (hlf105.1.trans h1) (by decide) rfl) rfl)) (by decide) (Nat.le_of_ble_eq_true rfl) (c_X6_of_e hl (sp_C S 2) k (by omega)) (Qv := fun v => v = some (.int (sp_C S 2 k))) (fun v L q => q)) (Nat.le_of_ble_eq_true rfl) ⟨(by show _ ≤ 60; omega), (by show _ ≤ 1660; omega)⟩ rfl (Nat.le_of_ble_eq_true rfl) rfl rfl (fun _ _ h => h.elim) ?_
                          rintro _ _ ⟨⟨v69, rfl, rfl⟩, hw69⟩
                          refine j_w w4 hw69 ?_
                          refine j_callS dX8_digest_123 kX8_mixed lX8_277 stX8_mixed (c_X8_mixed_e hl w4 _ _) (Nat.le_of_ble_eq_true rfl) ⟨(by show _ ≤ 60; omega), (by show _ ≤ 1660; omega)⟩ rfl (Nat.le_of_ble_eq_true rfl) rfl rfl (fun _ _ h => h.elim) ?_
                          rintro _ _ ⟨rfl, hw70⟩
                          refine j_w w4 hw70 ?_
                          refine j_lstore_n (lo' := [(1, _), (0, _), (3, _)]) dX8_digest_126 (by decide) rfl ?_
                          refine j_iinc (lo' := [(3, _), (1, _), (0, _)]) dX8_digest_127 rfl (z_inc _) (by decide) rfl ?_
                          refine j_goto (tgt := 105) dX8_digest_130 (by decide) ?_
                          refine j_widen (kc' := 0) (ks' := 0) (by omega) (by omega) ?_
                          exact j_lo2 (i4 w4 (k + 1) _ hlf105 hfn105 (by omega) (by omega) (by rw [hd4, sp_rg, sp_mxl_s])) (z_q1 rfl (z_q1 rfl (z_q1 rfl z_q0)))
                    refine j_widen (kc' := 0) (ks' := 0) (by omega) (by omega) ?_
                    exact j_lo2 (loop105 8 w3 0 _ hlf77 hfn77 (by omega) (by omega) (by have h9 : k = 3 := (by omega); subst h9; exact hd3.trans sp_e3)) (z_q1 rfl (z_q1 rfl (z_q1 rfl z_q0)))
                  · have hb81 : k < 3 := Nat.not_le.mp (fun z => c_81_50 ((nI_leI (a := 3) (b := k) (by omega) (by omega)).mpr z))
                    rcases (by omega : k = 0 ∨ k = 1 ∨ k = 2) with rfl | rfl | rfl
                    · refine j_aload_n dX8_digest_84 rfl rfl ?_
                      refine j_iload dX8_digest_85 rfl ?_
                      refine j_aald (v := .ref 10) dX8_digest_87 (z_g1 (hlf77.1.trans h1) (by decide) rfl) rfl rfl (vp_in_nI (by decide) (by decide)) (by rw [show (nI 0).toNatClampNeg = 0 from z_cla (by decide)]; rfl) ?_
                      refine j_astore (lo' := [(6, _), (0, _), (1, _), (3, _), (4, _), (5, _)]) dX8_digest_88 rfl (by decide) rfl ?_
                      refine j_lload_n dX8_digest_90 rfl ?_
                      refine j_aload dX8_digest_91 rfl rfl ?_
                      refine j_callS dX8_digest_93 kX8_mixedTable lX8_285 stX8_mixedTable (z_rof [10, 11, 12, 13, 14] (z_thc (z_g1 (hlf77.1.trans h1) (by decide) rfl) (z_thc (z_g1 (hlf77.1.trans h1) (by decide) rfl) (z_thc (z_g1 (hlf77.1.trans h1) (by decide) rfl) (z_thc (z_g1 (hlf77.1.trans h1) (by decide) rfl) (z_thc (z_g1 (hlf77.1.trans h1) (by decide) rfl) rfl))))) (by decide) (Nat.le_of_ble_eq_true rfl) (c_X8_mixedTable_e hl false f0 g0 (sp_C S 2) (sp_T S 0) d ht0) (Qv := fun v => v = some (.long (sp_mxl d (nI (sp_T S 0).length :: sp_tbl (sp_T S 0))))) (fun v L q => q)) (Nat.le_of_ble_eq_true rfl) ⟨(by show _ ≤ 60; omega), (by show _ ≤ 1660; omega)⟩ rfl (Nat.le_of_ble_eq_true rfl) rfl rfl (fun _ _ h => h.elim) ?_
                      rintro _ _ ⟨⟨v71, rfl, rfl⟩, hw71⟩
                      refine j_w w3 hw71 ?_
                      refine j_lstore_n (lo' := [(1, _), (6, _), (0, _), (3, _), (4, _), (5, _)]) dX8_digest_96 (by decide) rfl ?_
                      refine j_iinc (lo' := [(5, _), (1, _), (6, _), (0, _), (3, _), (4, _)]) dX8_digest_97 rfl (z_inc _) (by decide) rfl ?_
                      refine j_goto (tgt := 77) dX8_digest_100 (by decide) ?_
                      refine j_widen (kc' := 0) (ks' := 0) (by omega) (by omega) ?_
                      exact j_lo2 (i3 w3 (0 + 1) _ hlf77 hfn77 (by omega) (by omega) (by rw [hd3]; exact sp_mxl_app.symm)) (z_q1 rfl (z_q1 rfl (z_q1 rfl (z_q1 rfl (z_q1 rfl z_q0)))))
                    · refine j_aload_n dX8_digest_84 rfl rfl ?_
                      refine j_iload dX8_digest_85 rfl ?_
                      refine j_aald (v := .ref 16) dX8_digest_87 (z_g1 (hlf77.1.trans h1) (by decide) rfl) rfl rfl (vp_in_nI (by decide) (by decide)) (by rw [show (nI 1).toNatClampNeg = 1 from z_cla (by decide)]; rfl) ?_
                      refine j_astore (lo' := [(6, _), (0, _), (1, _), (3, _), (4, _), (5, _)]) dX8_digest_88 rfl (by decide) rfl ?_
                      refine j_lload_n dX8_digest_90 rfl ?_
                      refine j_aload dX8_digest_91 rfl rfl ?_
                      refine j_callS dX8_digest_93 kX8_mixedTable lX8_285 stX8_mixedTable (z_rof [16, 17, 18, 19, 20] (z_thc (z_g1 (hlf77.1.trans h1) (by decide) rfl) (z_thc (z_g1 (hlf77.1.trans h1) (by decide) rfl) (z_thc (z_g1 (hlf77.1.trans h1) (by decide) rfl) (z_thc (z_g1 (hlf77.1.trans h1) (by decide) rfl) (z_thc (z_g1 (hlf77.1.trans h1) (by decide) rfl) rfl))))) (by decide) (Nat.le_of_ble_eq_true rfl) (c_X8_mixedTable_e hl false f1 g1 c1 (sp_T S 1) d ht1) (Qv := fun v => v = some (.long (sp_mxl d (nI (sp_T S 1).length :: sp_tbl (sp_T S 1))))) (fun v L q => q)) (Nat.le_of_ble_eq_true rfl) ⟨(by show _ ≤ 60; omega), (by show _ ≤ 1660; omega)⟩ rfl (Nat.le_of_ble_eq_true rfl) rfl rfl (fun _ _ h => h.elim) ?_
                      rintro _ _ ⟨⟨v72, rfl, rfl⟩, hw72⟩
                      refine j_w w3 hw72 ?_
                      refine j_lstore_n (lo' := [(1, _), (6, _), (0, _), (3, _), (4, _), (5, _)]) dX8_digest_96 (by decide) rfl ?_
                      refine j_iinc (lo' := [(5, _), (1, _), (6, _), (0, _), (3, _), (4, _)]) dX8_digest_97 rfl (z_inc _) (by decide) rfl ?_
                      refine j_goto (tgt := 77) dX8_digest_100 (by decide) ?_
                      refine j_widen (kc' := 0) (ks' := 0) (by omega) (by omega) ?_
                      exact j_lo2 (i3 w3 (1 + 1) _ hlf77 hfn77 (by omega) (by omega) (by rw [hd3]; exact sp_mxl_app.symm)) (z_q1 rfl (z_q1 rfl (z_q1 rfl (z_q1 rfl (z_q1 rfl z_q0)))))
                    · refine j_aload_n dX8_digest_84 rfl rfl ?_
                      refine j_iload dX8_digest_85 rfl ?_
                      refine j_aald (v := .ref 21) dX8_digest_87 (z_g1 (hlf77.1.trans h1) (by decide) rfl) rfl rfl (vp_in_nI (by decide) (by decide)) (by rw [show (nI 2).toNatClampNeg = 2 from z_cla (by decide)]; rfl) ?_
                      refine j_astore (lo' := [(6, _), (0, _), (1, _), (3, _), (4, _), (5, _)]) dX8_digest_88 rfl (by decide) rfl ?_
                      refine j_lload_n dX8_digest_90 rfl ?_
                      refine j_aload dX8_digest_91 rfl rfl ?_
                      refine j_callS dX8_digest_93 kX8_mixedTable lX8_285 stX8_mixedTable (z_rof [21, 22, 23, 24, 25] (z_thc (z_g1 (hlf77.1.trans h1) (by decide) rfl) (z_thc (z_g1 (hlf77.1.trans h1) (by decide) rfl) (z_thc (z_g1 (hlf77.1.trans h1) (by decide) rfl) (z_thc (z_g1 (hlf77.1.trans h1) (by decide) rfl) (z_thc (z_g1 (hlf77.1.trans h1) (by decide) rfl) rfl))))) (by decide) (Nat.le_of_ble_eq_true rfl) (c_X8_mixedTable_e hl true f2 g2 c2 (sp_T S 2) d ht2) (Qv := fun v => v = some (.long (sp_mxl d (nI (sp_T S 2).length :: sp_tbl (sp_T S 2))))) (fun v L q => q)) (Nat.le_of_ble_eq_true rfl) ⟨(by show _ ≤ 60; omega), (by show _ ≤ 1660; omega)⟩ rfl (Nat.le_of_ble_eq_true rfl) rfl rfl (fun _ _ h => h.elim) ?_
                      rintro _ _ ⟨⟨v73, rfl, rfl⟩, hw73⟩
                      refine j_w w3 hw73 ?_
                      refine j_lstore_n (lo' := [(1, _), (6, _), (0, _), (3, _), (4, _), (5, _)]) dX8_digest_96 (by decide) rfl ?_
                      refine j_iinc (lo' := [(5, _), (1, _), (6, _), (0, _), (3, _), (4, _)]) dX8_digest_97 rfl (z_inc _) (by decide) rfl ?_
                      refine j_goto (tgt := 77) dX8_digest_100 (by decide) ?_
                      refine j_widen (kc' := 0) (ks' := 0) (by omega) (by omega) ?_
                      exact j_lo2 (i3 w3 (2 + 1) _ hlf77 hfn77 (by omega) (by omega) (by rw [hd3]; exact sp_mxl_app.symm)) (z_q1 rfl (z_q1 rfl (z_q1 rfl (z_q1 rfl (z_q1 rfl z_q0)))))
              refine j_widen (kc' := 0) (ks' := 0) (by omega) (by omega) ?_
              exact j_lo2 (loop77 4 w2 0 _ hlf39 hfn39 (by omega) (by omega) (by have h9 : k = 2 := (by omega); subst h9; exact hd2.trans sp_e2)) (z_q1 rfl (z_q1 rfl (z_q1 rfl (z_q1 rfl (z_q1 rfl z_q0)))))
            · have hb43 : k < 2 := Nat.not_le.mp (fun z => c_43_32 ((nI_leI (a := 2) (b := k) (by omega) (by omega)).mpr z))
              rcases (by omega : k = 0 ∨ k = 1) with rfl | rfl
              · refine j_aload_n dX8_digest_46 rfl rfl ?_
                refine j_iload dX8_digest_47 rfl ?_
                refine j_aald (v := .ref 2) dX8_digest_49 (z_g1 (hlf39.1.trans h1) (by decide) rfl) rfl rfl (vp_in_nI (by decide) (by decide)) (by rw [show (nI 0).toNatClampNeg = 0 from z_cla (by decide)]; rfl) ?_
                refine j_astore (lo' := [(6, _), (0, _), (1, _), (3, _), (4, _), (5, _)]) dX8_digest_50 rfl (by decide) rfl ?_
                refine j_lload_n dX8_digest_52 rfl ?_
                refine j_aload dX8_digest_53 rfl rfl ?_
                refine j_callS dX8_digest_55 kX8_mixedRow lX8_281 stX8_mixedRow (z_rof [2, 3, 4, 5] (z_thc (z_g1 (hlf39.1.trans h1) (by decide) rfl) (z_thc (z_g1 (hlf39.1.trans h1) (by decide) rfl) (z_thc (z_g1 (hlf39.1.trans h1) (by decide) rfl) (z_thc (z_g1 (hlf39.1.trans h1) (by decide) rfl) rfl)))) (by decide) (Nat.le_of_ble_eq_true rfl) (c_X8_mixedRow_e hl (sp_F S 0) fa (sp_C S 0) (sp_R S 0) _ d hra rfl) (Qv := fun v => v = some (.long (sp_mxl d (sp_rwl (sp_R S 0) (sp_F S 0) (sp_C S 0))))) (fun v L q => q)) (Nat.le_of_ble_eq_true rfl) ⟨(by show _ ≤ 60; omega), (by show _ ≤ 1660; omega)⟩ rfl (Nat.le_of_ble_eq_true rfl) rfl rfl (fun _ _ h => h.elim) ?_
                rintro _ _ ⟨⟨v74, rfl, rfl⟩, hw74⟩
                refine j_w w2 hw74 ?_
                refine j_lstore_n (lo' := [(1, _), (6, _), (0, _), (3, _), (4, _), (5, _)]) dX8_digest_58 (by decide) rfl ?_
                refine j_iinc (lo' := [(5, _), (1, _), (6, _), (0, _), (3, _), (4, _)]) dX8_digest_59 rfl (z_inc _) (by decide) rfl ?_
                refine j_goto (tgt := 39) dX8_digest_62 (by decide) ?_
                refine j_widen (kc' := 0) (ks' := 0) (by omega) (by omega) ?_
                exact j_lo2 (i2 w2 (0 + 1) _ hlf39 hfn39 (by omega) (by omega) (by rw [hd2]; exact sp_mxl_app.symm)) (z_q1 rfl (z_q1 rfl (z_q1 rfl (z_q1 rfl (z_q1 rfl z_q0)))))
              · refine j_aload_n dX8_digest_46 rfl rfl ?_
                refine j_iload dX8_digest_47 rfl ?_
                refine j_aald (v := .ref 6) dX8_digest_49 (z_g1 (hlf39.1.trans h1) (by decide) rfl) rfl rfl (vp_in_nI (by decide) (by decide)) (by rw [show (nI 1).toNatClampNeg = 1 from z_cla (by decide)]; rfl) ?_
                refine j_astore (lo' := [(6, _), (0, _), (1, _), (3, _), (4, _), (5, _)]) dX8_digest_50 rfl (by decide) rfl ?_
                refine j_lload_n dX8_digest_52 rfl ?_
                refine j_aload dX8_digest_53 rfl rfl ?_
                refine j_callS dX8_digest_55 kX8_mixedRow lX8_281 stX8_mixedRow (z_rof [6, 7, 8, 9] (z_thc (z_g1 (hlf39.1.trans h1) (by decide) rfl) (z_thc (z_g1 (hlf39.1.trans h1) (by decide) rfl) (z_thc (z_g1 (hlf39.1.trans h1) (by decide) rfl) (z_thc (z_g1 (hlf39.1.trans h1) (by decide) rfl) rfl)))) (by decide) (Nat.le_of_ble_eq_true rfl) (c_X8_mixedRow_e hl (sp_F S 1) fb (sp_C S 1) (sp_R S 1) _ d hrb rfl) (Qv := fun v => v = some (.long (sp_mxl d (sp_rwl (sp_R S 1) (sp_F S 1) (sp_C S 1))))) (fun v L q => q)) (Nat.le_of_ble_eq_true rfl) ⟨(by show _ ≤ 60; omega), (by show _ ≤ 1660; omega)⟩ rfl (Nat.le_of_ble_eq_true rfl) rfl rfl (fun _ _ h => h.elim) ?_
                rintro _ _ ⟨⟨v75, rfl, rfl⟩, hw75⟩
                refine j_w w2 hw75 ?_
                refine j_lstore_n (lo' := [(1, _), (6, _), (0, _), (3, _), (4, _), (5, _)]) dX8_digest_58 (by decide) rfl ?_
                refine j_iinc (lo' := [(5, _), (1, _), (6, _), (0, _), (3, _), (4, _)]) dX8_digest_59 rfl (z_inc _) (by decide) rfl ?_
                refine j_goto (tgt := 39) dX8_digest_62 (by decide) ?_
                refine j_widen (kc' := 0) (ks' := 0) (by omega) (by omega) ?_
                exact j_lo2 (i2 w2 (1 + 1) _ hlf39 hfn39 (by omega) (by omega) (by rw [hd2]; exact sp_mxl_app.symm)) (z_q1 rfl (z_q1 rfl (z_q1 rfl (z_q1 rfl (z_q1 rfl z_q0)))))
        refine j_widen (kc' := 0) (ks' := 0) (by omega) (by omega) ?_
        exact j_lo2 (loop39 3 w1 0 _ hlf6 hfn6 (by omega) (by omega) (by have h9 : k = 5 := (by omega); subst h9; exact hd1.trans sp_e1)) (z_q1 rfl (z_q1 rfl (z_q1 rfl (z_q1 rfl (z_q1 rfl z_q0)))))
      · have hb8 : ¬ 4 < k := fun z => c_8_14 ((nI_ltI (a := 4) (b := k) (by omega) (by omega)).mpr z)
        refine j_lload_n dX8_digest_11 rfl ?_
        refine j_aload_n dX8_digest_12 rfl rfl ?_
        refine j_iload_n dX8_digest_13 rfl ?_
        refine j_callV (q := (RX8, TX8, 9)) dX8_digest_14 kX8_house lX8_274 inX8_house seX8_house (z_g1 (hlf6.1.trans h1) (by decide) rfl) rfl (cg_houseE hl w1 S fa fb mt ft ct f0 g0 f1 g1 c1 f2 g2 c2 f3 g3 c3 m3 f4 g4 c4 m4 f5 g5 c5 m5 ef0 ef1 _ (hlf6.1.trans h1) ⟨(nI_leI (a := 0) (b := k) (by omega) (by omega)).mpr (Nat.zero_le _), (nI_leI (a := k) (b := 4) (by omega) (by omega)).mpr (by omega)⟩) (Nat.le_of_ble_eq_true rfl) ⟨(by show _ ≤ 60; omega), (by show _ ≤ 1660; omega)⟩ rfl (Nat.le_of_ble_eq_true rfl) rfl rfl (fun _ _ h => h.elim) ?_
        rintro _ _ ⟨rfl, hw76⟩
        refine j_w w1 hw76 ?_
        refine j_callS dX8_digest_17 kX8_mixed lX8_277 stX8_mixed (c_X8_mixed_e hl w1 _ _) (Nat.le_of_ble_eq_true rfl) ⟨(by show _ ≤ 60; omega), (by show _ ≤ 1660; omega)⟩ rfl (Nat.le_of_ble_eq_true rfl) rfl rfl (fun _ _ h => h.elim) ?_
        rintro _ _ ⟨rfl, hw77⟩
        refine j_w w1 hw77 ?_
        refine j_lstore_n (lo' := [(1, _), (0, _), (3, _)]) dX8_digest_20 (by decide) rfl ?_
        refine j_iinc (lo' := [(3, _), (1, _), (0, _)]) dX8_digest_21 rfl (z_inc _) (by decide) rfl ?_
        refine j_goto (tgt := 6) dX8_digest_24 (by decide) ?_
        refine j_widen (kc' := 0) (ks' := 0) (by omega) (by omega) ?_
        exact j_lo2 (i1 w1 (k + 1) _ hlf6 hfn6 (by omega) (by omega) (by rw [hd1, sp_rg, sp_mxl_s] <;> rfl)) (z_q1 rfl (z_q1 rfl (z_q1 rfl z_q0)))
  refine j_widen (kc' := 0) (ks' := 0) (by omega) (by omega) ?_
  exact j_lo2 (loop6 6 w 0 _ z_lf.rf hf (by omega) (by omega) sp_mxl_nil.symm) (z_q1 rfl (z_q1 rfl (z_q1 rfl z_q0)))
theorem ky_digest (hl : l.stackTraces = false) {x : Nat} {C S : sp_S} {n9 : Int64} (w : z_W) (LT : z_LX x C S n9 w) : z_Con G l mX11_digest 24 56 1349 w [.ref 1000] (fun v w9 => v = some (.long (sp_dg S)) ∧ z_LX x C S n9 w9) (fun _ _ => False) := by
  obtain ⟨-, ⟨s, hs, hR, ok⟩, -⟩ := id LT
  refine z_weak (cy_digest hl w S s hs hR ok) (fun v w9 q => ?_) (fun _ _ h => h)
  obtain ⟨s9, hv, fm, h9, R9⟩ := q
  exact ⟨hv, LT.mod fm h9 R9 ok⟩
end ZDy
end ZM3
section ZM4
section ZL2
def z_l2 (w w9 : z_W) : Prop := w9.1 = w.1 ∧ (∀ n, 1000 ≤ n → (n % 64 < 56 ∨ (58 < n % 64 ∧ n % 64 ≠ 61)) → z_g w9 n = z_g w n) ∧ (z_fn w → z_fn w9)
theorem z_l2.rf {w : z_W} : z_l2 w w := ⟨rfl, fun _ _ _ => rfl, id⟩
theorem z_l2.tr {a b c : z_W} (h : z_l2 a b) (h2 : z_l2 b c) : z_l2 a c := ⟨h2.1.trans h.1, fun n h3 h4 => (h2.2.1 n h3 h4).trans (h.2.1 n h3 h4), fun z => h2.2.2 (h.2.2 z)⟩
theorem z_fw.l2 {ρ : Nat} {w w9 : z_W} (h : z_fw ρ w w9) (hρ : (56 ≤ ρ ∧ ρ ≤ 58) ∨ ρ = 61) : z_l2 w w9 := ⟨h.1, fun n h1 h2 => h.2.2 n (Or.inr (by omega)), h.2.1⟩
theorem z_l2.g {w w9 : z_W} {n : Nat} {e : z_E} (h : z_l2 w w9) (hn : n < 1000) (hg : z_g w n = some e) : z_g w9 n = some e := by
  have hb : Nat.blt n 1000 = true := z_blt hn
  simp only [z_g, hb, cond] at hg ⊢
  rw [h.1]
  exact hg
end ZL2
section ZTxe
variable {G : z_G} {l : Launch}
theorem sc_apCE (hl : l.stackTraces = false) (w : z_W) (ρ a N : Nat) (L : List Int32) (c : Int32) (h : z_sbL w ρ a L N) (hq : L.length + 1 ≤ 2 * N + 2) (hN : z_gr N (L.length + 1) ≤ 5000) (hρ : ρ < 64) (hf : z_fn w) (hc : ¬ (255 : Int32) < c) (h8 : c.toInt8.toInt32.toInt8.toInt32 = c) : z_Con G l mJ4_append_cf468 16 (z_gr N (L.length + 1) / 16 - N / 16) (2 * (z_gr N (L.length + 1) - N)) w [.ref a, .int c] (fun v w9 => v = some (.ref a) ∧ z_fw ρ w w9 ∧ z_sbL w9 ρ a (L ++ [c]) (z_gr N (L.length + 1))) (fun _ _ => False) := by
  have h9 := sc_apC (G := G) hl w ρ a N L c h hq hN hρ hf hc
  rw [h8] at h9
  exact h9
set_option maxRecDepth 100000 in
set_option maxHeartbeats 8000000 in
theorem cg_joinedL (hl : l.stackTraces = false) (w : z_W) (a N : Nat) (f : Nat → Int32) (B : List Int32) (ha : a < 1000) (hN : N ≤ 12) (hf : z_fn w) (hr : z_row N (nI B.length) f B) (ga : z_g w a = some (.inl (0, N, fun j => .int (f j)))) : z_Con G l mX8_joined 18 24 800 w [.ref a, .int (nI B.length)] (fun v w9 => ∃ r, v = some (.ref r) ∧ z_l2 w w9 ∧ z_txL w9 61 r (tx_jt B)) (fun _ _ => False) := by
  have hln := hr.2.1
  refine z_body hl (by decide) rfl (Nat.le_of_ble_eq_true rfl) ?_
  show z_J G l mX8_joined _ 0 [(0, _), (1, _)] [] _ 0 0
  obtain ⟨x1, hx1a, hx1b, hx1c⟩ := z_fresh (56) (by decide) hf
  have n_a_x1 := z_neF hx1c ga
  refine j_new (N := 4) (w' := _) (n := x1) dX8_joined_0 nX8_360 rfl (z_alW hx1c hx1a) (Nat.le_of_ble_eq_true rfl) (Nat.le_of_ble_eq_true rfl) ?_
  refine j_seal hx1a ?_
  intro w1 u1
  have g1_a := (u1.2.1 _ n_a_x1).trans ga
  have g1_x1 := u1.1
  have hf1 := u1.2.2.2 hf
  refine j_dup dX8_joined_3 rfl ?_
  refine j_callI dX8_joined_4 kJ4_init_da8c8 rfl lX8_362 inJ4_init_da8c8 rfl (sb_ini hl w1 56 x1 hx1a hx1b (by decide) hf1 g1_x1) (Nat.le_of_ble_eq_true rfl) ⟨(by show _ ≤ 24; omega), (by show _ ≤ 800; omega)⟩ rfl (Nat.le_of_ble_eq_true rfl) rfl rfl (fun _ _ h => h.elim) ?_
  rintro _ w2 ⟨rfl, fw2, hs2⟩
  have hs2 := hs2.nil
  have lf2 := fw2.l2 (by decide)
  have g2_a := lf2.g ha g1_a
  have hf2 := lf2.2.2 hf1
  refine j_astore_n (lo' := [(2, _), (0, _), (1, _)]) dX8_joined_7 rfl (by decide) rfl ?_
  refine j_iconst (v := 0) dX8_joined_8 (by decide) ?_
  refine j_istore_n (lo' := [(3, _), (2, _), (0, _), (1, _)]) dX8_joined_9 (by decide) rfl ?_
  have loop10 : ∀ (n9 : Nat) (w3 : z_W) (k bN : Nat), (z_l2 w w3) → (z_fn w3) → (k ≤ N) → (N < k + n9) → (z_g w3 a = some (.inl (0, N, fun j => .int (f j)))) → (z_sbL w3 56 x1 (tx_jt (B.take k)) bN) → ((tx_jt (B.take k)).length ≤ 12 * k) → (bN ≤ 304) → (16 ≤ bN) → (k ≤ B.length) → z_J G l mX8_joined (18, 24, 800, w, (fun v w9 => ∃ r, v = some (.ref r) ∧ z_l2 w w9 ∧ z_txL w9 61 r (tx_jt B)), (fun _ _ => False)) 10 [(0, .ref a), (1, .int (nI B.length)), (2, .ref x1), (3, .int (nI k))] [] w3 (1 + bN / 16) (2 * bN) := by
    intro n9
    induction n9 with
    | zero => intro w3 k bN hlf10 hfn10 hj hf9 ga hsb hbn hbN hbM hkB; exact absurd hf9 (by omega)
    | succ n9 ih =>
      intro w3 k bN hlf10 hfn10 hj hf9 ga hsb hbn hbN hbM hkB
      refine j_iload_n dX8_joined_10 rfl ?_
      refine j_iload_n dX8_joined_11 rfl ?_
      refine j_icmp_ge (tgt := 46) dX8_joined_12 (by decide) (fun c_12_28 => ?_) (fun c_12_28 => ?_)
      · have hb12 : B.length ≤ k := (nI_leI (a := B.length) (b := k) (by omega) (by omega)).mp c_12_28
        refine j_aload_n dX8_joined_46 rfl rfl ?_
        have hnN := hsb.sb.nN
        obtain ⟨fs48, gs48⟩ := hsb.sb.cell
        refine j_callV (q := (RJ4, TJ4, 4)) dX8_joined_47 kJ4_toString_0e30d lX8_369 inJ4_toString_0e30d seJ4_toString_0e30d gs48 rfl (sd_toS hl w3 61 56 x1 (bN) ((tx_jt (B.take k))) hsb (by decide) (by decide) hfn10) (Nat.le_of_ble_eq_true rfl) ⟨(by show _ ≤ 24; omega), (by show _ ≤ 800; omega)⟩ rfl (Nat.le_of_ble_eq_true rfl) rfl rfl (fun _ _ h => h.elim) ?_
        rintro _ w4 ⟨r4, rfl, fw4, ht4⟩
        have lf4 := fw4.l2 (by decide)
        have g4_a := lf4.g ha ga
        have hf4 := lf4.2.2 hfn10
        refine j_aret dX8_joined_50 rfl (Or.inl ⟨_, rfl⟩) rfl ?_ (by show _ ≤ 24; omega) (by show _ ≤ 800; omega)
        rw [show B.take k = B from List.take_of_length_le (by omega)] at ht4
        exact ⟨_, rfl, (hlf10.tr lf4), ht4⟩
      · have hb12 : k < B.length := Nat.not_le.mp (fun z => c_12_28 ((nI_leI (a := B.length) (b := k) (by omega) (by omega)).mpr z))
        refine j_iload_n dX8_joined_15 rfl ?_
        refine j_aload_n dX8_joined_16 rfl rfl ?_
        refine j_alen dX8_joined_17 ga rfl rfl ?_
        refine j_icmp_ge (tgt := 46) dX8_joined_18 (by decide) (fun c_18_45 => ?_) (fun c_18_45 => ?_)
        · have hb18 : N ≤ k := (nI_leI (a := N) (b := k) (by omega) (by omega)).mp c_18_45
          refine j_aload_n dX8_joined_46 rfl rfl ?_
          have hnN := hsb.sb.nN
          obtain ⟨fs49, gs49⟩ := hsb.sb.cell
          refine j_callV (q := (RJ4, TJ4, 4)) dX8_joined_47 kJ4_toString_0e30d lX8_369 inJ4_toString_0e30d seJ4_toString_0e30d gs49 rfl (sd_toS hl w3 61 56 x1 (bN) ((tx_jt (B.take k))) hsb (by decide) (by decide) hfn10) (Nat.le_of_ble_eq_true rfl) ⟨(by show _ ≤ 24; omega), (by show _ ≤ 800; omega)⟩ rfl (Nat.le_of_ble_eq_true rfl) rfl rfl (fun _ _ h => h.elim) ?_
          rintro _ w5 ⟨r5, rfl, fw5, ht5⟩
          have lf5 := fw5.l2 (by decide)
          have g5_a := lf5.g ha ga
          have hf5 := lf5.2.2 hfn10
          refine j_aret dX8_joined_50 rfl (Or.inl ⟨_, rfl⟩) rfl ?_ (by show _ ≤ 24; omega) (by show _ ≤ 800; omega)
          rw [show B.take k = B from List.take_of_length_le (by omega)] at ht5
          exact ⟨_, rfl, (hlf10.tr lf5), ht5⟩
        · have hb18 : k < N := Nat.not_le.mp (fun z => c_18_45 ((nI_leI (a := N) (b := k) (by omega) (by omega)).mpr z))
          refine j_iload_n dX8_joined_21 rfl ?_
          refine j_if_le (tgt := 32) dX8_joined_22 (by decide) (fun c_22_60 => ?_) (fun c_22_60 => ?_)
          · have hb22 : k ≤ 0 := (nI_leI (a := k) (b := 0) (by omega) (by omega)).mp c_22_60
            refine j_aload_n dX8_joined_32 rfl rfl ?_
            refine j_aload_n dX8_joined_33 rfl rfl ?_
            refine j_iload_n dX8_joined_34 rfl ?_
            refine j_ldN (k := k) dX8_joined_35 ga (by omega) (by omega) ?_
            have hzs50 := z_sz_in (f k)
            have hnN51 := hsb.sb.nN
            have hle51 := z_gr_le (N := bN) (m := (((tx_jt (B.take k))).length + z_sz (f k)))
            have hmx51 := z_gr_mx (N := bN) (m := (((tx_jt (B.take k))).length + z_sz (f k))) (M := 144) (by omega) (by omega)
            obtain ⟨fs52, gs52⟩ := hsb.sb.cell
            refine j_callV (q := (RJ4, TJ4, 4)) dX8_joined_36 kJ4_append_bf812 lX8_366 inJ4_append_bf812 seJ4_append_bf812 gs52 rfl (sc_apI hl w3 56 x1 (bN) ((tx_jt (B.take k))) (f k) hsb (by omega) (by omega) (by decide) hfn10) (Nat.le_of_ble_eq_true rfl) ⟨(by show _ ≤ 24; omega), (by show _ ≤ 800; omega)⟩ rfl (Nat.le_of_ble_eq_true rfl) rfl rfl (fun _ _ h => h.elim) ?_
            rintro _ w6 ⟨rfl, fw6, hs6⟩
            have ln6 : (((tx_jt (B.take k)) ++ tx_dg (f k))).length = ((tx_jt (B.take k))).length + z_sz (f k) := by rw [List.length_append, tx_dl]; try rfl
            have lf6 := fw6.l2 (by decide)
            have g6_a := lf6.g ha ga
            have hf6 := lf6.2.2 hfn10
            refine j_pop dX8_joined_39 rfl ?_
            refine j_iinc (lo' := [(3, _), (0, _), (1, _), (2, _)]) dX8_joined_40 rfl (z_inc _) (by decide) rfl ?_
            refine j_goto (tgt := 10) dX8_joined_43 (by decide) ?_
            refine j_widen (kc' := 1 + (z_gr (bN) (((tx_jt (B.take k))).length + z_sz (f k))) / 16) (ks' := 2 * (z_gr (bN) (((tx_jt (B.take k))).length + z_sz (f k)))) (by omega) (by omega) ?_
            exact j_lo2 (ih w6 (k + 1) (z_gr (bN) (((tx_jt (B.take k))).length + z_sz (f k))) (hlf10.tr lf6) hf6 (by omega) (by omega) g6_a (by rw [hr.tk (by omega), tx_jt_s, List.length_take, if_pos (by omega)]; first | exact hs6 | (have h9 := hs6; simp only [List.append_assoc, List.nil_append, List.cons_append] at h9 ⊢; exact h9)) (by have h7 := z_sz_in (f k); rw [hr.tk (by omega), tx_jt_l, List.length_take]; split <;> omega) (by omega) (by omega) (by omega)) (z_q1 rfl (z_q1 rfl (z_q1 rfl (z_q1 rfl z_q0))))
          · have hb22 : 0 < k := Nat.not_le.mp (fun z => c_22_60 ((nI_leI (a := k) (b := 0) (by omega) (by omega)).mpr z))
            refine j_aload_n dX8_joined_25 rfl rfl ?_
            refine j_bipush (v := 32) dX8_joined_26 (by decide) ?_
            have hnN53 := hsb.sb.nN
            have hle53 := z_gr_le (N := bN) (m := (((tx_jt (B.take k))).length + 1))
            have hmx53 := z_gr_mx (N := bN) (m := (((tx_jt (B.take k))).length + 1)) (M := 144) (by omega) (by omega)
            obtain ⟨fs54, gs54⟩ := hsb.sb.cell
            refine j_callV (q := (RJ4, TJ4, 4)) dX8_joined_28 kJ4_append_cf468 lX8_363 inJ4_append_cf468 seJ4_append_cf468 gs54 rfl (sc_apCE hl w3 56 x1 (bN) ((tx_jt (B.take k))) (32) hsb (by omega) (by omega) (by decide) hfn10 (by decide) (by decide)) (Nat.le_of_ble_eq_true rfl) ⟨(by show _ ≤ 24; omega), (by show _ ≤ 800; omega)⟩ rfl (Nat.le_of_ble_eq_true rfl) rfl rfl (fun _ _ h => h.elim) ?_
            rintro _ w7 ⟨rfl, fw7, hs7⟩
            have ln7 : (((tx_jt (B.take k)) ++ [(32 : Int32)])).length = ((tx_jt (B.take k))).length + 1 := by rw [List.length_append]; try rfl
            have lf7 := fw7.l2 (by decide)
            have g7_a := lf7.g ha ga
            have hf7 := lf7.2.2 hfn10
            refine j_pop dX8_joined_31 rfl ?_
            refine j_aload_n dX8_joined_32 rfl rfl ?_
            refine j_aload_n dX8_joined_33 rfl rfl ?_
            refine j_iload_n dX8_joined_34 rfl ?_
            refine j_ldN (k := k) dX8_joined_35 g7_a (by omega) (by omega) ?_
            have hzs55 := z_sz_in (f k)
            have hnN56 := hs7.sb.nN
            have hle56 := z_gr_le (N := (z_gr (bN) (((tx_jt (B.take k))).length + 1))) (m := ((((tx_jt (B.take k)) ++ [(32 : Int32)])).length + z_sz (f k)))
            have hmx56 := z_gr_mx (N := (z_gr (bN) (((tx_jt (B.take k))).length + 1))) (m := ((((tx_jt (B.take k)) ++ [(32 : Int32)])).length + z_sz (f k))) (M := 144) (by omega) (by omega)
            obtain ⟨fs57, gs57⟩ := hs7.sb.cell
            refine j_callV (q := (RJ4, TJ4, 4)) dX8_joined_36 kJ4_append_bf812 lX8_366 inJ4_append_bf812 seJ4_append_bf812 gs57 rfl (sc_apI hl w7 56 x1 ((z_gr (bN) (((tx_jt (B.take k))).length + 1))) (((tx_jt (B.take k)) ++ [(32 : Int32)])) (f k) hs7 (by omega) (by omega) (by decide) hf7) (Nat.le_of_ble_eq_true rfl) ⟨(by show _ ≤ 24; omega), (by show _ ≤ 800; omega)⟩ rfl (Nat.le_of_ble_eq_true rfl) rfl rfl (fun _ _ h => h.elim) ?_
            rintro _ w8 ⟨rfl, fw8, hs8⟩
            have ln8 : ((((tx_jt (B.take k)) ++ [(32 : Int32)]) ++ tx_dg (f k))).length = (((tx_jt (B.take k)) ++ [(32 : Int32)])).length + z_sz (f k) := by rw [List.length_append, tx_dl]; try rfl
            have lf8 := fw8.l2 (by decide)
            have g8_a := lf8.g ha g7_a
            have hf8 := lf8.2.2 hf7
            refine j_pop dX8_joined_39 rfl ?_
            refine j_iinc (lo' := [(3, _), (0, _), (1, _), (2, _)]) dX8_joined_40 rfl (z_inc _) (by decide) rfl ?_
            refine j_goto (tgt := 10) dX8_joined_43 (by decide) ?_
            refine j_widen (kc' := 1 + (z_gr ((z_gr (bN) (((tx_jt (B.take k))).length + 1))) ((((tx_jt (B.take k)) ++ [(32 : Int32)])).length + z_sz (f k))) / 16) (ks' := 2 * (z_gr ((z_gr (bN) (((tx_jt (B.take k))).length + 1))) ((((tx_jt (B.take k)) ++ [(32 : Int32)])).length + z_sz (f k)))) (by omega) (by omega) ?_
            exact j_lo2 (ih w8 (k + 1) (z_gr ((z_gr (bN) (((tx_jt (B.take k))).length + 1))) ((((tx_jt (B.take k)) ++ [(32 : Int32)])).length + z_sz (f k))) ((hlf10.tr lf7).tr lf8) hf8 (by omega) (by omega) g8_a (by rw [hr.tk (by omega), tx_jt_s, List.length_take, if_neg (by omega)]; first | exact hs8 | (have h9 := hs8; simp only [List.append_assoc, List.nil_append, List.cons_append] at h9 ⊢; exact h9)) (by have h7 := z_sz_in (f k); rw [hr.tk (by omega), tx_jt_l, List.length_take]; split <;> omega) (by omega) (by omega) (by omega)) (z_q1 rfl (z_q1 rfl (z_q1 rfl (z_q1 rfl z_q0))))
  refine j_widen (kc' := 1 + 16 / 16) (ks' := 2 * 16) (by omega) (by omega) ?_
  exact j_lo2 (loop10 (N + 1) w2 0 16 (((u1.fw hx1a hx1b).l2 (by decide)).tr lf2) hf2 (by omega) (by omega) g2_a hs2 (Nat.le_refl 0) (by omega) (by omega) (by omega)) (z_q1 rfl (z_q1 rfl (z_q1 rfl (z_q1 rfl z_q0))))
set_option maxRecDepth 100000 in
set_option maxHeartbeats 8000000 in
theorem cg_recentL (hl : l.stackTraces = false) (w : z_W) (h a : Nat) (E : sp_H) (f : Nat → Int32) (hh : h < 1000) (ha : a < 1000) (hf : z_fn w) (he : z_row 10 (nI E.2.length) f E.2) (gh : z_g w h = some (.inr (5, [.ref a, .int (nI E.2.length), .int E.1.2.1, .int E.1.2.2.1, .int E.1.2.2.2, .int E.1.1]))) (ga : z_g w a = some (.inl (0, 10, fun j => .int (f j)))) : z_Con G l mX0_recent 19 24 800 w [.ref h] (fun v w9 => ∃ r, v = some (.ref r) ∧ z_l2 w w9 ∧ z_txL w9 61 r (tx_jt E.2)) (fun _ _ => False) := by
  refine z_body hl (by decide) rfl (Nat.le_of_ble_eq_true rfl) ?_
  show z_J G l mX0_recent _ 0 [(0, _)] [] _ 0 0
  refine j_aload_n dX0_recent_0 rfl rfl ?_
  refine j_getf dX0_recent_1 fX0_9 gh rfl ?_
  refine j_aload_n dX0_recent_4 rfl rfl ?_
  refine j_getf dX0_recent_5 fX0_32 gh rfl ?_
  refine j_callSN dX0_recent_8 kX8_joined lX0_38 stX8_joined (cg_joinedL hl w a 10 f E.2 ha (by decide) hf he ga) (Nat.le_of_ble_eq_true rfl) ⟨(by show _ ≤ 24; omega), (by show _ ≤ 800; omega)⟩ rfl (Nat.le_of_ble_eq_true rfl) rfl rfl (fun _ _ h => h.elim) ?_
  rintro _ w1 ⟨r1, rfl, lf1, ht1⟩
  have g1_h := lf1.g hh gh
  have g1_a := lf1.g ha ga
  have hf1 := lf1.2.2 hf
  refine j_aret dX0_recent_11 rfl (Or.inl ⟨_, rfl⟩) rfl ?_ (by show _ ≤ 24; omega) (by show _ ≤ 800; omega)
  exact ⟨_, rfl, lf1, ht1⟩
set_option maxRecDepth 100000 in
set_option maxHeartbeats 8000000 in
theorem cg_pairsL (hl : l.stackTraces = false) (w : z_W) (a0 a1 a2 a3 a4 : Nat) (b : Bool) (f g c : Nat → Int32) (T : List (Nat × Int32)) (l0 : a0 < 1000) (l1 : a1 < 1000) (l2 : a2 < 1000) (l3 : a3 < 1000) (l4 : a4 < 1000) (hnd : [a0, a1, a2, a3, a4].Nodup) (ht : z_tba f g T) (hf : z_fn w) (g0 : z_g w a0 = some (.inr (9, [.int (z_bi b), .ref a1, .ref a2, .ref a3, .int (nI T.length)]))) (g1 : z_g w a1 = some (z_ia 20 f)) (g2 : z_g w a2 = some (z_ia 20 g)) (g3 : z_g w a3 = some (.inr (11, [.ref a4]))) (g4 : z_g w a4 = some (z_ia 7 c)) : z_Con G l mX4_pairs 18 66 2450 w [.ref a0] (fun v w9 => ∃ r, v = some (.ref r) ∧ z_l2 w w9 ∧ z_txL w9 61 r (tx_pt T)) (fun _ _ => False) := by
  have hln := ht.len
  refine z_body hl (by decide) rfl (Nat.le_of_ble_eq_true rfl) ?_
  show z_J G l mX4_pairs _ 0 [(0, _)] [] _ 0 0
  obtain ⟨x1, hx1a, hx1b, hx1c⟩ := z_fresh (56) (by decide) hf
  have n_a0_x1 := z_neF hx1c g0
  have n_a1_x1 := z_neF hx1c g1
  have n_a2_x1 := z_neF hx1c g2
  have n_a3_x1 := z_neF hx1c g3
  have n_a4_x1 := z_neF hx1c g4
  refine j_new (N := 4) (w' := _) (n := x1) dX4_pairs_0 nX4_73 rfl (z_alW hx1c hx1a) (Nat.le_of_ble_eq_true rfl) (Nat.le_of_ble_eq_true rfl) ?_
  refine j_seal hx1a ?_
  intro w1 u1
  have g1_a0 := (u1.2.1 _ n_a0_x1).trans g0
  have g1_a1 := (u1.2.1 _ n_a1_x1).trans g1
  have g1_a2 := (u1.2.1 _ n_a2_x1).trans g2
  have g1_a3 := (u1.2.1 _ n_a3_x1).trans g3
  have g1_a4 := (u1.2.1 _ n_a4_x1).trans g4
  have g1_x1 := u1.1
  have hf1 := u1.2.2.2 hf
  refine j_dup dX4_pairs_3 rfl ?_
  refine j_callI dX4_pairs_4 kJ4_init_da8c8 rfl lX4_75 inJ4_init_da8c8 rfl (sb_ini hl w1 56 x1 hx1a hx1b (by decide) hf1 g1_x1) (Nat.le_of_ble_eq_true rfl) ⟨(by show _ ≤ 66; omega), (by show _ ≤ 2450; omega)⟩ rfl (Nat.le_of_ble_eq_true rfl) rfl rfl (fun _ _ h => h.elim) ?_
  rintro _ w2 ⟨rfl, fw2, hs2⟩
  have hs2 := hs2.nil
  have lf2 := fw2.l2 (by decide)
  have g2_a0 := lf2.g l0 g1_a0
  have g2_a1 := lf2.g l1 g1_a1
  have g2_a2 := lf2.g l2 g1_a2
  have g2_a3 := lf2.g l3 g1_a3
  have g2_a4 := lf2.g l4 g1_a4
  have hf2 := lf2.2.2 hf1
  refine j_astore_n (lo' := [(1, _), (0, _)]) dX4_pairs_7 rfl (by decide) rfl ?_
  refine j_iconst (v := 0) dX4_pairs_8 (by decide) ?_
  refine j_istore_n (lo' := [(2, _), (1, _), (0, _)]) dX4_pairs_9 (by decide) rfl ?_
  have loop10 : ∀ (n9 : Nat) (w3 : z_W) (k bN : Nat), (z_l2 w w3) → (z_fn w3) → (k ≤ T.length) → (20 < k + n9) → (z_g w3 a0 = some (.inr (9, [.int (z_bi b), .ref a1, .ref a2, .ref a3, .int (nI T.length)]))) → (z_g w3 a1 = some (z_ia 20 f)) → (z_g w3 a2 = some (z_ia 20 g)) → (z_g w3 a3 = some (.inr (11, [.ref a4]))) → (z_g w3 a4 = some (z_ia 7 c)) → (z_sbL w3 56 x1 (tx_pt (T.take k)) bN) → ((tx_pt (T.take k)).length ≤ 24 * k) → (bN ≤ 976) → (16 ≤ bN) → z_J G l mX4_pairs (18, 66, 2450, w, (fun v w9 => ∃ r, v = some (.ref r) ∧ z_l2 w w9 ∧ z_txL w9 61 r (tx_pt T)), (fun _ _ => False)) 10 [(0, .ref a0), (1, .ref x1), (2, .int (nI k))] [] w3 (1 + bN / 16) (2 * bN) := by
    intro n9
    induction n9 with
    | zero => intro w3 k bN hlf10 hfn10 hj hf9 g0 g1 g2 g3 g4 hsb hbn hbN hbM; exact absurd hf9 (by omega)
    | succ n9 ih =>
      intro w3 k bN hlf10 hfn10 hj hf9 g0 g1 g2 g3 g4 hsb hbn hbN hbM
      refine j_iload_n dX4_pairs_10 rfl ?_
      refine j_aload_n dX4_pairs_11 rfl rfl ?_
      refine j_getf dX4_pairs_12 fX4_29 g0 rfl ?_
      refine j_icmp_ge (tgt := 60) dX4_pairs_15 (by decide) (fun c_15_41 => ?_) (fun c_15_41 => ?_)
      · have hb15 : T.length ≤ k := (nI_leI (a := T.length) (b := k) (by omega) (by omega)).mp c_15_41
        refine j_aload_n dX4_pairs_60 rfl rfl ?_
        have hnN := hsb.sb.nN
        obtain ⟨fs58, gs58⟩ := hsb.sb.cell
        refine j_callV (q := (RJ4, TJ4, 4)) dX4_pairs_61 kJ4_toString_0e30d lX4_86 inJ4_toString_0e30d seJ4_toString_0e30d gs58 rfl (sd_toS hl w3 61 56 x1 (bN) ((tx_pt (T.take k))) hsb (by decide) (by decide) hfn10) (Nat.le_of_ble_eq_true rfl) ⟨(by show _ ≤ 66; omega), (by show _ ≤ 2450; omega)⟩ rfl (Nat.le_of_ble_eq_true rfl) rfl rfl (fun _ _ h => h.elim) ?_
        rintro _ w4 ⟨r4, rfl, fw4, ht4⟩
        have lf4 := fw4.l2 (by decide)
        have g4_a0 := lf4.g l0 g0
        have g4_a1 := lf4.g l1 g1
        have g4_a2 := lf4.g l2 g2
        have g4_a3 := lf4.g l3 g3
        have g4_a4 := lf4.g l4 g4
        have hf4 := lf4.2.2 hfn10
        refine j_aret dX4_pairs_64 rfl (Or.inl ⟨_, rfl⟩) rfl ?_ (by show _ ≤ 66; omega) (by show _ ≤ 2450; omega)
        rw [show T.take k = T from List.take_of_length_le (by omega)] at ht4
        exact ⟨_, rfl, (hlf10.tr lf4), ht4⟩
      · have hb15 : k < T.length := Nat.not_le.mp (fun z => c_15_41 ((nI_leI (a := T.length) (b := k) (by omega) (by omega)).mpr z))
        obtain ⟨p9, hp9⟩ : ∃ p, T[k]? = some p := ⟨_, List.getElem?_eq_getElem (by omega)⟩
        have hm9 := List.mem_of_getElem? hp9
        have hlk : sp_lk T p9.1 = p9.2 := sp_lk_mem ht.1.1 hm9
        refine j_iload_n dX4_pairs_18 rfl ?_
        refine j_if_le (tgt := 29) dX4_pairs_19 (by decide) (fun c_19_63 => ?_) (fun c_19_63 => ?_)
        · have hb19 : k ≤ 0 := (nI_leI (a := k) (b := 0) (by omega) (by omega)).mp c_19_63
          refine j_aload_n dX4_pairs_29 rfl rfl ?_
          refine j_iload_n dX4_pairs_30 rfl ?_
          refine j_callV (q := (RX4, TX4, 5)) dX4_pairs_31 kX4_keyAt lX4_80 inX4_keyAt seX4_keyAt g0 rfl (z_rof [a0, a1, a2, a3, a4] (z_thc g0 (z_thc g1 (z_thc g2 (z_thc g3 (z_thc g4 rfl))))) hnd (Nat.le_of_ble_eq_true rfl) (c_X4_keyAt_e hl b f g c T.length T k p9 ht rfl hp9) (Qv := fun v => v = some (.int (nI p9.1))) (fun v L q => q)) (Nat.le_of_ble_eq_true rfl) ⟨(by show _ ≤ 66; omega), (by show _ ≤ 2450; omega)⟩ rfl (Nat.le_of_ble_eq_true rfl) rfl rfl (fun _ _ h => h.elim) ?_
          rintro _ _ ⟨⟨v59, rfl, rfl⟩, hw59⟩
          refine j_w w3 hw59 ?_
          refine j_istore_n (lo' := [(3, _), (0, _), (1, _), (2, _)]) dX4_pairs_34 (by decide) rfl ?_
          refine j_aload_n dX4_pairs_35 rfl rfl ?_
          refine j_iload_n dX4_pairs_36 rfl ?_
          have hzs60 := z_sz_in (nI p9.1)
          have hnN61 := hsb.sb.nN
          have hle61 := z_gr_le (N := bN) (m := (((tx_pt (T.take k))).length + z_sz (nI p9.1)))
          have hmx61 := z_gr_mx (N := bN) (m := (((tx_pt (T.take k))).length + z_sz (nI p9.1))) (M := 480) (by omega) (by omega)
          obtain ⟨fs62, gs62⟩ := hsb.sb.cell
          refine j_callV (q := (RJ4, TJ4, 4)) dX4_pairs_37 kJ4_append_bf812 lX4_83 inJ4_append_bf812 seJ4_append_bf812 gs62 rfl (sc_apI hl w3 56 x1 (bN) ((tx_pt (T.take k))) (nI p9.1) hsb (by omega) (by omega) (by decide) hfn10) (Nat.le_of_ble_eq_true rfl) ⟨(by show _ ≤ 66; omega), (by show _ ≤ 2450; omega)⟩ rfl (Nat.le_of_ble_eq_true rfl) rfl rfl (fun _ _ h => h.elim) ?_
          rintro _ w5 ⟨rfl, fw5, hs5⟩
          have ln5 : (((tx_pt (T.take k)) ++ tx_dg (nI p9.1))).length = ((tx_pt (T.take k))).length + z_sz (nI p9.1) := by rw [List.length_append, tx_dl]; try rfl
          have lf5 := fw5.l2 (by decide)
          have g5_a0 := lf5.g l0 g0
          have g5_a1 := lf5.g l1 g1
          have g5_a2 := lf5.g l2 g2
          have g5_a3 := lf5.g l3 g3
          have g5_a4 := lf5.g l4 g4
          have hf5 := lf5.2.2 hfn10
          refine j_bipush (v := 61) dX4_pairs_40 (by decide) ?_
          have hnN63 := hs5.sb.nN
          have hle63 := z_gr_le (N := (z_gr (bN) (((tx_pt (T.take k))).length + z_sz (nI p9.1)))) (m := ((((tx_pt (T.take k)) ++ tx_dg (nI p9.1))).length + 1))
          have hmx63 := z_gr_mx (N := (z_gr (bN) (((tx_pt (T.take k))).length + z_sz (nI p9.1)))) (m := ((((tx_pt (T.take k)) ++ tx_dg (nI p9.1))).length + 1)) (M := 480) (by omega) (by omega)
          obtain ⟨fs64, gs64⟩ := hs5.sb.cell
          refine j_callV (q := (RJ4, TJ4, 4)) dX4_pairs_42 kJ4_append_cf468 lX4_76 inJ4_append_cf468 seJ4_append_cf468 gs64 rfl (sc_apCE hl w5 56 x1 ((z_gr (bN) (((tx_pt (T.take k))).length + z_sz (nI p9.1)))) (((tx_pt (T.take k)) ++ tx_dg (nI p9.1))) (61) hs5 (by omega) (by omega) (by decide) hf5 (by decide) (by decide)) (Nat.le_of_ble_eq_true rfl) ⟨(by show _ ≤ 66; omega), (by show _ ≤ 2450; omega)⟩ rfl (Nat.le_of_ble_eq_true rfl) rfl rfl (fun _ _ h => h.elim) ?_
          rintro _ w6 ⟨rfl, fw6, hs6⟩
          have ln6 : ((((tx_pt (T.take k)) ++ tx_dg (nI p9.1)) ++ [(61 : Int32)])).length = (((tx_pt (T.take k)) ++ tx_dg (nI p9.1))).length + 1 := by rw [List.length_append]; try rfl
          have lf6 := fw6.l2 (by decide)
          have g6_a0 := lf6.g l0 g5_a0
          have g6_a1 := lf6.g l1 g5_a1
          have g6_a2 := lf6.g l2 g5_a2
          have g6_a3 := lf6.g l3 g5_a3
          have g6_a4 := lf6.g l4 g5_a4
          have hf6 := lf6.2.2 hf5
          refine j_aload_n dX4_pairs_45 rfl rfl ?_
          refine j_iload_n dX4_pairs_46 rfl ?_
          refine j_callV (q := (RX4, TX4, 5)) dX4_pairs_47 kX4_look lX4_37 inX4_look seX4_look g6_a0 rfl (z_rof [a0, a1, a2, a3, a4] (z_thc g6_a0 (z_thc g6_a1 (z_thc g6_a2 (z_thc g6_a3 (z_thc g6_a4 rfl))))) hnd (Nat.le_of_ble_eq_true rfl) (c_X4_look_e hl b f g c (nI T.length) T p9.1 ht (ht.1.2 p9 hm9).1) (Qv := fun v => v = some (.int p9.2)) (fun v L q => ⟨q.1.trans (by rw [hlk]), q.2⟩)) (Nat.le_of_ble_eq_true rfl) ⟨(by show _ ≤ 66; omega), (by show _ ≤ 2450; omega)⟩ rfl (Nat.le_of_ble_eq_true rfl) rfl rfl (fun _ _ h => h.elim) ?_
          rintro _ _ ⟨⟨v65, rfl, rfl⟩, hw65⟩
          refine j_w w6 hw65 ?_
          have hzs66 := z_sz_in p9.2
          have hnN67 := hs6.sb.nN
          have hle67 := z_gr_le (N := (z_gr ((z_gr (bN) (((tx_pt (T.take k))).length + z_sz (nI p9.1)))) ((((tx_pt (T.take k)) ++ tx_dg (nI p9.1))).length + 1))) (m := (((((tx_pt (T.take k)) ++ tx_dg (nI p9.1)) ++ [(61 : Int32)])).length + z_sz p9.2))
          have hmx67 := z_gr_mx (N := (z_gr ((z_gr (bN) (((tx_pt (T.take k))).length + z_sz (nI p9.1)))) ((((tx_pt (T.take k)) ++ tx_dg (nI p9.1))).length + 1))) (m := (((((tx_pt (T.take k)) ++ tx_dg (nI p9.1)) ++ [(61 : Int32)])).length + z_sz p9.2)) (M := 480) (by omega) (by omega)
          obtain ⟨fs68, gs68⟩ := hs6.sb.cell
          refine j_callV (q := (RJ4, TJ4, 4)) dX4_pairs_50 kJ4_append_bf812 lX4_83 inJ4_append_bf812 seJ4_append_bf812 gs68 rfl (sc_apI hl w6 56 x1 ((z_gr ((z_gr (bN) (((tx_pt (T.take k))).length + z_sz (nI p9.1)))) ((((tx_pt (T.take k)) ++ tx_dg (nI p9.1))).length + 1))) ((((tx_pt (T.take k)) ++ tx_dg (nI p9.1)) ++ [(61 : Int32)])) p9.2 hs6 (by omega) (by omega) (by decide) hf6) (Nat.le_of_ble_eq_true rfl) ⟨(by show _ ≤ 66; omega), (by show _ ≤ 2450; omega)⟩ rfl (Nat.le_of_ble_eq_true rfl) rfl rfl (fun _ _ h => h.elim) ?_
          rintro _ w7 ⟨rfl, fw7, hs7⟩
          have ln7 : (((((tx_pt (T.take k)) ++ tx_dg (nI p9.1)) ++ [(61 : Int32)]) ++ tx_dg p9.2)).length = ((((tx_pt (T.take k)) ++ tx_dg (nI p9.1)) ++ [(61 : Int32)])).length + z_sz p9.2 := by rw [List.length_append, tx_dl]; try rfl
          have lf7 := fw7.l2 (by decide)
          have g7_a0 := lf7.g l0 g6_a0
          have g7_a1 := lf7.g l1 g6_a1
          have g7_a2 := lf7.g l2 g6_a2
          have g7_a3 := lf7.g l3 g6_a3
          have g7_a4 := lf7.g l4 g6_a4
          have hf7 := lf7.2.2 hf6
          refine j_pop dX4_pairs_53 rfl ?_
          refine j_iinc (lo' := [(2, _), (3, _), (0, _), (1, _)]) dX4_pairs_54 rfl (z_inc _) (by decide) rfl ?_
          refine j_goto (tgt := 10) dX4_pairs_57 (by decide) ?_
          refine j_widen (kc' := 1 + (z_gr ((z_gr ((z_gr (bN) (((tx_pt (T.take k))).length + z_sz (nI p9.1)))) ((((tx_pt (T.take k)) ++ tx_dg (nI p9.1))).length + 1))) (((((tx_pt (T.take k)) ++ tx_dg (nI p9.1)) ++ [(61 : Int32)])).length + z_sz p9.2)) / 16) (ks' := 2 * (z_gr ((z_gr ((z_gr (bN) (((tx_pt (T.take k))).length + z_sz (nI p9.1)))) ((((tx_pt (T.take k)) ++ tx_dg (nI p9.1))).length + 1))) (((((tx_pt (T.take k)) ++ tx_dg (nI p9.1)) ++ [(61 : Int32)])).length + z_sz p9.2))) (by omega) (by omega) ?_
          exact j_lo2 (ih w7 (k + 1) (z_gr ((z_gr ((z_gr (bN) (((tx_pt (T.take k))).length + z_sz (nI p9.1)))) ((((tx_pt (T.take k)) ++ tx_dg (nI p9.1))).length + 1))) (((((tx_pt (T.take k)) ++ tx_dg (nI p9.1)) ++ [(61 : Int32)])).length + z_sz p9.2)) (((hlf10.tr lf5).tr lf6).tr lf7) hf7 (by omega) (by omega) g7_a0 g7_a1 g7_a2 g7_a3 g7_a4 (by rw [sp_tkx hp9, tx_pt_s, List.length_take, if_pos (by omega)]; first | exact hs7 | (have h9 := hs7; simp only [List.append_assoc, List.nil_append, List.cons_append] at h9 ⊢; exact h9)) (by have h7 := z_sz_in (nI p9.1); have h8 := z_sz_in p9.2; rw [sp_tkx hp9, tx_pt_l, List.length_take]; split <;> omega) (by omega) (by omega)) (z_q1 rfl (z_q1 rfl (z_q1 rfl z_q0)))
        · have hb19 : 0 < k := Nat.not_le.mp (fun z => c_19_63 ((nI_leI (a := k) (b := 0) (by omega) (by omega)).mpr z))
          refine j_aload_n dX4_pairs_22 rfl rfl ?_
          refine j_bipush (v := 32) dX4_pairs_23 (by decide) ?_
          have hnN69 := hsb.sb.nN
          have hle69 := z_gr_le (N := bN) (m := (((tx_pt (T.take k))).length + 1))
          have hmx69 := z_gr_mx (N := bN) (m := (((tx_pt (T.take k))).length + 1)) (M := 480) (by omega) (by omega)
          obtain ⟨fs70, gs70⟩ := hsb.sb.cell
          refine j_callV (q := (RJ4, TJ4, 4)) dX4_pairs_25 kJ4_append_cf468 lX4_76 inJ4_append_cf468 seJ4_append_cf468 gs70 rfl (sc_apCE hl w3 56 x1 (bN) ((tx_pt (T.take k))) (32) hsb (by omega) (by omega) (by decide) hfn10 (by decide) (by decide)) (Nat.le_of_ble_eq_true rfl) ⟨(by show _ ≤ 66; omega), (by show _ ≤ 2450; omega)⟩ rfl (Nat.le_of_ble_eq_true rfl) rfl rfl (fun _ _ h => h.elim) ?_
          rintro _ w8 ⟨rfl, fw8, hs8⟩
          have ln8 : (((tx_pt (T.take k)) ++ [(32 : Int32)])).length = ((tx_pt (T.take k))).length + 1 := by rw [List.length_append]; try rfl
          have lf8 := fw8.l2 (by decide)
          have g8_a0 := lf8.g l0 g0
          have g8_a1 := lf8.g l1 g1
          have g8_a2 := lf8.g l2 g2
          have g8_a3 := lf8.g l3 g3
          have g8_a4 := lf8.g l4 g4
          have hf8 := lf8.2.2 hfn10
          refine j_pop dX4_pairs_28 rfl ?_
          refine j_aload_n dX4_pairs_29 rfl rfl ?_
          refine j_iload_n dX4_pairs_30 rfl ?_
          refine j_callV (q := (RX4, TX4, 5)) dX4_pairs_31 kX4_keyAt lX4_80 inX4_keyAt seX4_keyAt g8_a0 rfl (z_rof [a0, a1, a2, a3, a4] (z_thc g8_a0 (z_thc g8_a1 (z_thc g8_a2 (z_thc g8_a3 (z_thc g8_a4 rfl))))) hnd (Nat.le_of_ble_eq_true rfl) (c_X4_keyAt_e hl b f g c T.length T k p9 ht rfl hp9) (Qv := fun v => v = some (.int (nI p9.1))) (fun v L q => q)) (Nat.le_of_ble_eq_true rfl) ⟨(by show _ ≤ 66; omega), (by show _ ≤ 2450; omega)⟩ rfl (Nat.le_of_ble_eq_true rfl) rfl rfl (fun _ _ h => h.elim) ?_
          rintro _ _ ⟨⟨v71, rfl, rfl⟩, hw71⟩
          refine j_w w8 hw71 ?_
          refine j_istore_n (lo' := [(3, _), (0, _), (1, _), (2, _)]) dX4_pairs_34 (by decide) rfl ?_
          refine j_aload_n dX4_pairs_35 rfl rfl ?_
          refine j_iload_n dX4_pairs_36 rfl ?_
          have hzs72 := z_sz_in (nI p9.1)
          have hnN73 := hs8.sb.nN
          have hle73 := z_gr_le (N := (z_gr (bN) (((tx_pt (T.take k))).length + 1))) (m := ((((tx_pt (T.take k)) ++ [(32 : Int32)])).length + z_sz (nI p9.1)))
          have hmx73 := z_gr_mx (N := (z_gr (bN) (((tx_pt (T.take k))).length + 1))) (m := ((((tx_pt (T.take k)) ++ [(32 : Int32)])).length + z_sz (nI p9.1))) (M := 480) (by omega) (by omega)
          obtain ⟨fs74, gs74⟩ := hs8.sb.cell
          refine j_callV (q := (RJ4, TJ4, 4)) dX4_pairs_37 kJ4_append_bf812 lX4_83 inJ4_append_bf812 seJ4_append_bf812 gs74 rfl (sc_apI hl w8 56 x1 ((z_gr (bN) (((tx_pt (T.take k))).length + 1))) (((tx_pt (T.take k)) ++ [(32 : Int32)])) (nI p9.1) hs8 (by omega) (by omega) (by decide) hf8) (Nat.le_of_ble_eq_true rfl) ⟨(by show _ ≤ 66; omega), (by show _ ≤ 2450; omega)⟩ rfl (Nat.le_of_ble_eq_true rfl) rfl rfl (fun _ _ h => h.elim) ?_
          rintro _ w9 ⟨rfl, fw9, hs9⟩
          have ln9 : ((((tx_pt (T.take k)) ++ [(32 : Int32)]) ++ tx_dg (nI p9.1))).length = (((tx_pt (T.take k)) ++ [(32 : Int32)])).length + z_sz (nI p9.1) := by rw [List.length_append, tx_dl]; try rfl
          have lf9 := fw9.l2 (by decide)
          have g9_a0 := lf9.g l0 g8_a0
          have g9_a1 := lf9.g l1 g8_a1
          have g9_a2 := lf9.g l2 g8_a2
          have g9_a3 := lf9.g l3 g8_a3
          have g9_a4 := lf9.g l4 g8_a4
          have hf9 := lf9.2.2 hf8
          refine j_bipush (v := 61) dX4_pairs_40 (by decide) ?_
          have hnN75 := hs9.sb.nN
          have hle75 := z_gr_le (N := (z_gr ((z_gr (bN) (((tx_pt (T.take k))).length + 1))) ((((tx_pt (T.take k)) ++ [(32 : Int32)])).length + z_sz (nI p9.1)))) (m := (((((tx_pt (T.take k)) ++ [(32 : Int32)]) ++ tx_dg (nI p9.1))).length + 1))
          have hmx75 := z_gr_mx (N := (z_gr ((z_gr (bN) (((tx_pt (T.take k))).length + 1))) ((((tx_pt (T.take k)) ++ [(32 : Int32)])).length + z_sz (nI p9.1)))) (m := (((((tx_pt (T.take k)) ++ [(32 : Int32)]) ++ tx_dg (nI p9.1))).length + 1)) (M := 480) (by omega) (by omega)
          obtain ⟨fs76, gs76⟩ := hs9.sb.cell
          refine j_callV (q := (RJ4, TJ4, 4)) dX4_pairs_42 kJ4_append_cf468 lX4_76 inJ4_append_cf468 seJ4_append_cf468 gs76 rfl (sc_apCE hl w9 56 x1 ((z_gr ((z_gr (bN) (((tx_pt (T.take k))).length + 1))) ((((tx_pt (T.take k)) ++ [(32 : Int32)])).length + z_sz (nI p9.1)))) ((((tx_pt (T.take k)) ++ [(32 : Int32)]) ++ tx_dg (nI p9.1))) (61) hs9 (by omega) (by omega) (by decide) hf9 (by decide) (by decide)) (Nat.le_of_ble_eq_true rfl) ⟨(by show _ ≤ 66; omega), (by show _ ≤ 2450; omega)⟩ rfl (Nat.le_of_ble_eq_true rfl) rfl rfl (fun _ _ h => h.elim) ?_
          rintro _ w10 ⟨rfl, fw10, hs10⟩
          have ln10 : (((((tx_pt (T.take k)) ++ [(32 : Int32)]) ++ tx_dg (nI p9.1)) ++ [(61 : Int32)])).length = ((((tx_pt (T.take k)) ++ [(32 : Int32)]) ++ tx_dg (nI p9.1))).length + 1 := by rw [List.length_append]; try rfl
          have lf10 := fw10.l2 (by decide)
          have g10_a0 := lf10.g l0 g9_a0
          have g10_a1 := lf10.g l1 g9_a1
          have g10_a2 := lf10.g l2 g9_a2
          have g10_a3 := lf10.g l3 g9_a3
          have g10_a4 := lf10.g l4 g9_a4
          have hf10 := lf10.2.2 hf9
          refine j_aload_n dX4_pairs_45 rfl rfl ?_
          refine j_iload_n dX4_pairs_46 rfl ?_
          refine j_callV (q := (RX4, TX4, 5)) dX4_pairs_47 kX4_look lX4_37 inX4_look seX4_look g10_a0 rfl (z_rof [a0, a1, a2, a3, a4] (z_thc g10_a0 (z_thc g10_a1 (z_thc g10_a2 (z_thc g10_a3 (z_thc g10_a4 rfl))))) hnd (Nat.le_of_ble_eq_true rfl) (c_X4_look_e hl b f g c (nI T.length) T p9.1 ht (ht.1.2 p9 hm9).1) (Qv := fun v => v = some (.int p9.2)) (fun v L q => ⟨q.1.trans (by rw [hlk]), q.2⟩)) (Nat.le_of_ble_eq_true rfl) ⟨(by show _ ≤ 66; omega), (by show _ ≤ 2450; omega)⟩ rfl (Nat.le_of_ble_eq_true rfl) rfl rfl (fun _ _ h => h.elim) ?_
          rintro _ _ ⟨⟨v77, rfl, rfl⟩, hw77⟩
          refine j_w w10 hw77 ?_
          have hzs78 := z_sz_in p9.2
          have hnN79 := hs10.sb.nN
          have hle79 := z_gr_le (N := (z_gr ((z_gr ((z_gr (bN) (((tx_pt (T.take k))).length + 1))) ((((tx_pt (T.take k)) ++ [(32 : Int32)])).length + z_sz (nI p9.1)))) (((((tx_pt (T.take k)) ++ [(32 : Int32)]) ++ tx_dg (nI p9.1))).length + 1))) (m := ((((((tx_pt (T.take k)) ++ [(32 : Int32)]) ++ tx_dg (nI p9.1)) ++ [(61 : Int32)])).length + z_sz p9.2))
          have hmx79 := z_gr_mx (N := (z_gr ((z_gr ((z_gr (bN) (((tx_pt (T.take k))).length + 1))) ((((tx_pt (T.take k)) ++ [(32 : Int32)])).length + z_sz (nI p9.1)))) (((((tx_pt (T.take k)) ++ [(32 : Int32)]) ++ tx_dg (nI p9.1))).length + 1))) (m := ((((((tx_pt (T.take k)) ++ [(32 : Int32)]) ++ tx_dg (nI p9.1)) ++ [(61 : Int32)])).length + z_sz p9.2)) (M := 480) (by omega) (by omega)
          obtain ⟨fs80, gs80⟩ := hs10.sb.cell
          refine j_callV (q := (RJ4, TJ4, 4)) dX4_pairs_50 kJ4_append_bf812 lX4_83 inJ4_append_bf812 seJ4_append_bf812 gs80 rfl (sc_apI hl w10 56 x1 ((z_gr ((z_gr ((z_gr (bN) (((tx_pt (T.take k))).length + 1))) ((((tx_pt (T.take k)) ++ [(32 : Int32)])).length + z_sz (nI p9.1)))) (((((tx_pt (T.take k)) ++ [(32 : Int32)]) ++ tx_dg (nI p9.1))).length + 1))) (((((tx_pt (T.take k)) ++ [(32 : Int32)]) ++ tx_dg (nI p9.1)) ++ [(61 : Int32)])) p9.2 hs10 (by omega) (by omega) (by decide) hf10) (Nat.le_of_ble_eq_true rfl) ⟨(by show _ ≤ 66; omega), (by show _ ≤ 2450; omega)⟩ rfl (Nat.le_of_ble_eq_true rfl) rfl rfl (fun _ _ h => h.elim) ?_
          rintro _ w11 ⟨rfl, fw11, hs11⟩
          have ln11 : ((((((tx_pt (T.take k)) ++ [(32 : Int32)]) ++ tx_dg (nI p9.1)) ++ [(61 : Int32)]) ++ tx_dg p9.2)).length = (((((tx_pt (T.take k)) ++ [(32 : Int32)]) ++ tx_dg (nI p9.1)) ++ [(61 : Int32)])).length + z_sz p9.2 := by rw [List.length_append, tx_dl]; try rfl
          have lf11 := fw11.l2 (by decide)
          have g11_a0 := lf11.g l0 g10_a0
          have g11_a1 := lf11.g l1 g10_a1
          have g11_a2 := lf11.g l2 g10_a2
          have g11_a3 := lf11.g l3 g10_a3
          have g11_a4 := lf11.g l4 g10_a4
          have hf11 := lf11.2.2 hf10
          refine j_pop dX4_pairs_53 rfl ?_
          refine j_iinc (lo' := [(2, _), (3, _), (0, _), (1, _)]) dX4_pairs_54 rfl (z_inc _) (by decide) rfl ?_
          refine j_goto (tgt := 10) dX4_pairs_57 (by decide) ?_
          refine j_widen (kc' := 1 + (z_gr ((z_gr ((z_gr ((z_gr (bN) (((tx_pt (T.take k))).length + 1))) ((((tx_pt (T.take k)) ++ [(32 : Int32)])).length + z_sz (nI p9.1)))) (((((tx_pt (T.take k)) ++ [(32 : Int32)]) ++ tx_dg (nI p9.1))).length + 1))) ((((((tx_pt (T.take k)) ++ [(32 : Int32)]) ++ tx_dg (nI p9.1)) ++ [(61 : Int32)])).length + z_sz p9.2)) / 16) (ks' := 2 * (z_gr ((z_gr ((z_gr ((z_gr (bN) (((tx_pt (T.take k))).length + 1))) ((((tx_pt (T.take k)) ++ [(32 : Int32)])).length + z_sz (nI p9.1)))) (((((tx_pt (T.take k)) ++ [(32 : Int32)]) ++ tx_dg (nI p9.1))).length + 1))) ((((((tx_pt (T.take k)) ++ [(32 : Int32)]) ++ tx_dg (nI p9.1)) ++ [(61 : Int32)])).length + z_sz p9.2))) (by omega) (by omega) ?_
          exact j_lo2 (ih w11 (k + 1) (z_gr ((z_gr ((z_gr ((z_gr (bN) (((tx_pt (T.take k))).length + 1))) ((((tx_pt (T.take k)) ++ [(32 : Int32)])).length + z_sz (nI p9.1)))) (((((tx_pt (T.take k)) ++ [(32 : Int32)]) ++ tx_dg (nI p9.1))).length + 1))) ((((((tx_pt (T.take k)) ++ [(32 : Int32)]) ++ tx_dg (nI p9.1)) ++ [(61 : Int32)])).length + z_sz p9.2)) ((((hlf10.tr lf8).tr lf9).tr lf10).tr lf11) hf11 (by omega) (by omega) g11_a0 g11_a1 g11_a2 g11_a3 g11_a4 (by rw [sp_tkx hp9, tx_pt_s, List.length_take, if_neg (by omega)]; first | exact hs11 | (have h9 := hs11; simp only [List.append_assoc, List.nil_append, List.cons_append] at h9 ⊢; exact h9)) (by have h7 := z_sz_in (nI p9.1); have h8 := z_sz_in p9.2; rw [sp_tkx hp9, tx_pt_l, List.length_take]; split <;> omega) (by omega) (by omega)) (z_q1 rfl (z_q1 rfl (z_q1 rfl z_q0)))
  refine j_widen (kc' := 1 + 16 / 16) (ks' := 2 * 16) (by omega) (by omega) ?_
  exact j_lo2 (loop10 21 w2 0 16 (((u1.fw hx1a hx1b).l2 (by decide)).tr lf2) hf2 (by omega) (by omega) g2_a0 g2_a1 g2_a2 g2_a3 g2_a4 hs2 (Nat.le_refl 0) (by omega) (by omega)) (z_q1 rfl (z_q1 rfl (z_q1 rfl z_q0)))
set_option maxRecDepth 100000 in
set_option maxHeartbeats 8000000 in
theorem pu_rowText (hl : l.stackTraces = false) (w : z_W) (S : sp_S) (r : Int32) (hW : sp_CW S w.1) (hf : z_fn w) : z_Con G l mX8_rowText 20 26 810 w [.ref 0, .int r] (fun v w9 => q_k2 r = 0 ∧ ∃ a, v = some (.ref a) ∧ z_l2 w w9 ∧ z_txL w9 61 a (tx_jt (sp_R S (sp_i r)))) (fun E w9 => (z_xI E ∧ q_k2 r = 1) ∧ w9 = w) := by
  obtain ⟨fa, fb, mt, ft, ct, f0, g0, f1, g1, c1, f2, g2, c2, f3, g3, c3, m3, f4, g4, c4, m4, f5, g5, c5, m5, ef0, ef1, hra, hrb, ht0, ht1, ht2, he0, he1, hzm3, hzm4, hzm5, h1⟩ := id hW
  refine z_body hl (by decide) rfl (Nat.le_of_ble_eq_true rfl) ?_
  show z_J G l mX8_rowText _ 0 [(0, _), (1, _)] [] _ 0 0
  refine j_aload_n dX8_rowText_0 rfl rfl ?_
  refine j_iload_n dX8_rowText_1 rfl ?_
  refine j_callV (q := (RX8, TX8, 9)) dX8_rowText_2 kX8_rowFor lX8_46 inX8_rowFor seX8_rowFor (z_g1 h1 (by decide) rfl) rfl (z_liftro (Qv := fun v => ∃ n : Nat, v = some (.ref n) ∧ ((r = 0 ∧ n = 2) ∨ (r = 1 ∧ n = 6))) (Xv := fun E => z_xI E ∧ ¬ (r = 0 ∨ r = 1)) 51 h1 rfl (by decide) z_cwR rfl (c_X8_rowFor_e hl _ _ _ _ _ _ _ _ _ _ _ _ _ _ _ _ _ _ _ _ _ _ _ _ _ _ _ _ _ _ _ _ _ _ _ _ _ _ _ _ _ _ _ _ _ _ _ _ _ _ _ _ _ _ _ _ r) (fun v L q => by obtain ⟨n, q1, q2, q3⟩ := q; exact ⟨⟨n, q1, q2⟩, q3⟩) (fun v q => by obtain ⟨n, rfl, ⟨-, rfl⟩ | ⟨-, rfl⟩⟩ := q <;> rfl) (fun E L q => q)) (Nat.le_of_ble_eq_true rfl) ⟨(by show _ ≤ 26; omega), (by show _ ≤ 810; omega)⟩ rfl (Nat.le_of_ble_eq_true rfl) rfl rfl (fun _ _ h => ⟨⟨h.1.1, sp_k2_1 h.1.2⟩, h.2⟩) ?_
  rintro _ _ ⟨⟨n81, rfl, ⟨hr, rfl⟩ | ⟨hr, rfl⟩⟩, hw81⟩
  · refine j_w w hw81 ?_
    subst hr
    refine j_astore_n (lo' := [(2, _), (0, _), (1, _)]) dX8_rowText_5 rfl (by decide) rfl ?_
    refine j_aload_n dX8_rowText_6 rfl rfl ?_
    refine j_getf dX8_rowText_7 fX8_206 (z_g1 h1 (by decide) rfl) rfl ?_
    refine j_aload_n dX8_rowText_10 rfl rfl ?_
    refine j_getf dX8_rowText_11 fX8_68 (z_g1 h1 (by decide) rfl) rfl ?_
    refine j_callS dX8_rowText_14 kX8_joined lX8_210 stX8_joined (cg_joinedL hl w 3 12 fa (sp_R S 0) (by decide) (by decide) hf hra (z_g1 h1 (by decide) rfl)) (Nat.le_of_ble_eq_true rfl) ⟨(by show _ ≤ 26; omega), (by show _ ≤ 810; omega)⟩ rfl (Nat.le_of_ble_eq_true rfl) rfl rfl (fun _ _ h => h.elim) ?_
    rintro _ w1 ⟨r1, rfl, lf1, ht1⟩
    have hf1 := lf1.2.2 hf
    have h1_1 := (lf1.1).trans h1
    refine j_aret dX8_rowText_17 rfl (Or.inl ⟨_, rfl⟩) rfl ?_ (by show _ ≤ 26; omega) (by show _ ≤ 810; omega)
    refine ⟨sp_k2_0 (Or.inl rfl), _, rfl, lf1, ?_⟩
    rw [sp_i0]
    exact ht1
  · refine j_w w hw81 ?_
    subst hr
    refine j_astore_n (lo' := [(2, _), (0, _), (1, _)]) dX8_rowText_5 rfl (by decide) rfl ?_
    refine j_aload_n dX8_rowText_6 rfl rfl ?_
    refine j_getf dX8_rowText_7 fX8_206 (z_g1 h1 (by decide) rfl) rfl ?_
    refine j_aload_n dX8_rowText_10 rfl rfl ?_
    refine j_getf dX8_rowText_11 fX8_68 (z_g1 h1 (by decide) rfl) rfl ?_
    refine j_callS dX8_rowText_14 kX8_joined lX8_210 stX8_joined (cg_joinedL hl w 7 12 fb (sp_R S 1) (by decide) (by decide) hf hrb (z_g1 h1 (by decide) rfl)) (Nat.le_of_ble_eq_true rfl) ⟨(by show _ ≤ 26; omega), (by show _ ≤ 810; omega)⟩ rfl (Nat.le_of_ble_eq_true rfl) rfl rfl (fun _ _ h => h.elim) ?_
    rintro _ w2 ⟨r2, rfl, lf2, ht2⟩
    have hf2 := lf2.2.2 hf
    have h1_2 := (lf2.1).trans h1
    refine j_aret dX8_rowText_17 rfl (Or.inl ⟨_, rfl⟩) rfl ?_ (by show _ ≤ 26; omega) (by show _ ≤ 810; omega)
    refine ⟨sp_k2_0 (Or.inr rfl), _, rfl, lf2, ?_⟩
    rw [sp_i1]
    exact ht2
set_option maxRecDepth 100000 in
set_option maxHeartbeats 8000000 in
theorem pu_heardText (hl : l.stackTraces = false) (w : z_W) (S : sp_S) (r : Int32) (hW : sp_CW S w.1) (hf : z_fn w) : z_Con G l mX8_heardText 20 26 810 w [.ref 0, .int r] (fun v w9 => q_k2 r = 0 ∧ ∃ a, v = some (.ref a) ∧ z_l2 w w9 ∧ z_txL w9 61 a (tx_jt (sp_E S (sp_i r)).2)) (fun E w9 => (z_xI E ∧ q_k2 r = 1) ∧ w9 = w) := by
  obtain ⟨fa, fb, mt, ft, ct, f0, g0, f1, g1, c1, f2, g2, c2, f3, g3, c3, m3, f4, g4, c4, m4, f5, g5, c5, m5, ef0, ef1, hra, hrb, ht0, ht1, ht2, he0, he1, hzm3, hzm4, hzm5, h1⟩ := id hW
  refine z_body hl (by decide) rfl (Nat.le_of_ble_eq_true rfl) ?_
  show z_J G l mX8_heardText _ 0 [(0, _), (1, _)] [] _ 0 0
  refine j_aload_n dX8_heardText_0 rfl rfl ?_
  refine j_iload_n dX8_heardText_1 rfl ?_
  refine j_callV (q := (RX8, TX8, 9)) dX8_heardText_2 kX8_hearerFor lX8_87 inX8_hearerFor seX8_hearerFor (z_g1 h1 (by decide) rfl) rfl (z_liftro (Qv := fun v => ∃ n : Nat, v = some (.ref n) ∧ ((r = 0 ∧ n = 27) ∨ (r = 1 ∧ n = 29))) (Xv := fun E => z_xI E ∧ ¬ (r = 0 ∨ r = 1)) 51 h1 rfl (by decide) z_cwR rfl (c_X8_hearerFor_e hl _ _ _ _ _ _ _ _ _ _ _ _ _ _ _ _ _ _ _ _ _ _ _ _ _ _ _ _ _ _ _ _ _ _ _ _ _ _ _ _ _ _ _ _ _ _ _ _ _ _ _ _ _ _ _ _ r) (fun v L q => by obtain ⟨n, q1, q2, q3⟩ := q; exact ⟨⟨n, q1, q2⟩, q3⟩) (fun v q => by obtain ⟨n, rfl, ⟨-, rfl⟩ | ⟨-, rfl⟩⟩ := q <;> rfl) (fun E L q => q)) (Nat.le_of_ble_eq_true rfl) ⟨(by show _ ≤ 26; omega), (by show _ ≤ 810; omega)⟩ rfl (Nat.le_of_ble_eq_true rfl) rfl rfl (fun _ _ h => ⟨⟨h.1.1, sp_k2_1 h.1.2⟩, h.2⟩) ?_
  rintro _ _ ⟨⟨n82, rfl, ⟨hr, rfl⟩ | ⟨hr, rfl⟩⟩, hw82⟩
  · refine j_w w hw82 ?_
    subst hr
    refine j_callV (q := (RX0, TX0, 6)) dX8_heardText_5 kX0_recent lX8_190 inX0_recent seX0_recent (z_g1 h1 (by decide) rfl) rfl (cg_recentL hl w 27 28 (sp_E S 0) ef0 (by decide) (by decide) hf he0 (z_g1 h1 (by decide) rfl) (z_g1 h1 (by decide) rfl)) (Nat.le_of_ble_eq_true rfl) ⟨(by show _ ≤ 26; omega), (by show _ ≤ 810; omega)⟩ rfl (Nat.le_of_ble_eq_true rfl) rfl rfl (fun _ _ h => h.elim) ?_
    rintro _ w1 ⟨r1, rfl, lf1, ht1⟩
    have hf1 := lf1.2.2 hf
    have h1_1 := (lf1.1).trans h1
    refine j_aret dX8_heardText_8 rfl (Or.inl ⟨_, rfl⟩) rfl ?_ (by show _ ≤ 26; omega) (by show _ ≤ 810; omega)
    refine ⟨sp_k2_0 (Or.inl rfl), _, rfl, lf1, ?_⟩
    rw [sp_i0]
    exact ht1
  · refine j_w w hw82 ?_
    subst hr
    refine j_callV (q := (RX0, TX0, 6)) dX8_heardText_5 kX0_recent lX8_190 inX0_recent seX0_recent (z_g1 h1 (by decide) rfl) rfl (cg_recentL hl w 29 30 (sp_E S 1) ef1 (by decide) (by decide) hf he1 (z_g1 h1 (by decide) rfl) (z_g1 h1 (by decide) rfl)) (Nat.le_of_ble_eq_true rfl) ⟨(by show _ ≤ 26; omega), (by show _ ≤ 810; omega)⟩ rfl (Nat.le_of_ble_eq_true rfl) rfl rfl (fun _ _ h => h.elim) ?_
    rintro _ w2 ⟨r2, rfl, lf2, ht2⟩
    have hf2 := lf2.2.2 hf
    have h1_2 := (lf2.1).trans h1
    refine j_aret dX8_heardText_8 rfl (Or.inl ⟨_, rfl⟩) rfl ?_ (by show _ ≤ 26; omega) (by show _ ≤ 810; omega)
    refine ⟨sp_k2_0 (Or.inr rfl), _, rfl, lf2, ?_⟩
    rw [sp_i1]
    exact ht2
set_option maxRecDepth 100000 in
set_option maxHeartbeats 8000000 in
theorem pu_text (hl : l.stackTraces = false) (w : z_W) (S : sp_S) (r : Int32) (hW : sp_CW S w.1) (hf : z_fn w) : z_Con G l mX8_text 20 68 2460 w [.ref 0, .int r] (fun v w9 => sp_k3 r = 0 ∧ ∃ a, v = some (.ref a) ∧ z_l2 w w9 ∧ z_txL w9 61 a (tx_pt (sp_T S (sp_i r)))) (fun E w9 => (z_xI E ∧ sp_k3 r = 1) ∧ w9 = w) := by
  obtain ⟨fa, fb, mt, ft, ct, f0, g0, f1, g1, c1, f2, g2, c2, f3, g3, c3, m3, f4, g4, c4, m4, f5, g5, c5, m5, ef0, ef1, hra, hrb, ht0, ht1, ht2, he0, he1, hzm3, hzm4, hzm5, h1⟩ := id hW
  refine z_body hl (by decide) rfl (Nat.le_of_ble_eq_true rfl) ?_
  show z_J G l mX8_text _ 0 [(0, _), (1, _)] [] _ 0 0
  refine j_aload_n dX8_text_0 rfl rfl ?_
  refine j_iload_n dX8_text_1 rfl ?_
  refine j_callV (q := (RX8, TX8, 9)) dX8_text_2 kX8_tableFor lX8_157 inX8_tableFor seX8_tableFor (z_g1 h1 (by decide) rfl) rfl (z_liftro (Qv := fun v => ∃ n : Nat, v = some (.ref n) ∧ ((r = 0 ∧ n = 10) ∨ (r = 1 ∧ n = 16) ∨ (r = 2 ∧ n = 21))) (Xv := fun E => z_xI E ∧ ¬ sp_thr r) 51 h1 rfl (by decide) z_cwR rfl (c_X8_tableFor_e hl _ _ _ _ _ _ _ _ _ _ _ _ _ _ _ _ _ _ _ _ _ _ _ _ _ _ _ _ _ _ _ _ _ _ _ _ _ _ _ _ _ _ _ _ _ _ _ _ _ _ _ _ _ _ _ _ r) (fun v L q => by obtain ⟨n, q1, q2, q3⟩ := q; exact ⟨⟨n, q1, q2⟩, q3⟩) (fun v q => by obtain ⟨n, rfl, ⟨-, rfl⟩ | ⟨-, rfl⟩ | ⟨-, rfl⟩⟩ := q <;> rfl) (fun E L q => q)) (Nat.le_of_ble_eq_true rfl) ⟨(by show _ ≤ 68; omega), (by show _ ≤ 2460; omega)⟩ rfl (Nat.le_of_ble_eq_true rfl) rfl rfl (fun _ _ h => ⟨⟨h.1.1, sp_k3_1 h.1.2⟩, h.2⟩) ?_
  rintro _ _ ⟨⟨n83, rfl, ⟨hr, rfl⟩ | ⟨hr, rfl⟩ | ⟨hr, rfl⟩⟩, hw83⟩
  · refine j_w w hw83 ?_
    subst hr
    refine j_callV (q := (RX4, TX4, 5)) dX8_text_5 kX4_pairs lX8_227 inX4_pairs seX4_pairs (z_g1 h1 (by decide) rfl) rfl (cg_pairsL hl w 10 11 12 13 14 false f0 g0 (sp_C S 2) (sp_T S 0) (by decide) (by decide) (by decide) (by decide) (by decide) (by decide) ht0 hf (z_g1 h1 (by decide) rfl) (z_g1 h1 (by decide) rfl) (z_g1 h1 (by decide) rfl) (z_g1 h1 (by decide) rfl) (z_g1 h1 (by decide) rfl)) (Nat.le_of_ble_eq_true rfl) ⟨(by show _ ≤ 68; omega), (by show _ ≤ 2460; omega)⟩ rfl (Nat.le_of_ble_eq_true rfl) rfl rfl (fun _ _ h => h.elim) ?_
    rintro _ w1 ⟨r1, rfl, lf1, ht1⟩
    have hf1 := lf1.2.2 hf
    have h1_1 := (lf1.1).trans h1
    refine j_aret dX8_text_8 rfl (Or.inl ⟨_, rfl⟩) rfl ?_ (by show _ ≤ 68; omega) (by show _ ≤ 2460; omega)
    refine ⟨sp_k3_0 (Or.inl rfl), _, rfl, lf1, ?_⟩
    rw [sp_i0]
    exact ht1
  · refine j_w w hw83 ?_
    subst hr
    refine j_callV (q := (RX4, TX4, 5)) dX8_text_5 kX4_pairs lX8_227 inX4_pairs seX4_pairs (z_g1 h1 (by decide) rfl) rfl (cg_pairsL hl w 16 17 18 19 20 false f1 g1 c1 (sp_T S 1) (by decide) (by decide) (by decide) (by decide) (by decide) (by decide) ht1 hf (z_g1 h1 (by decide) rfl) (z_g1 h1 (by decide) rfl) (z_g1 h1 (by decide) rfl) (z_g1 h1 (by decide) rfl) (z_g1 h1 (by decide) rfl)) (Nat.le_of_ble_eq_true rfl) ⟨(by show _ ≤ 68; omega), (by show _ ≤ 2460; omega)⟩ rfl (Nat.le_of_ble_eq_true rfl) rfl rfl (fun _ _ h => h.elim) ?_
    rintro _ w2 ⟨r2, rfl, lf2, ht2⟩
    have hf2 := lf2.2.2 hf
    have h1_2 := (lf2.1).trans h1
    refine j_aret dX8_text_8 rfl (Or.inl ⟨_, rfl⟩) rfl ?_ (by show _ ≤ 68; omega) (by show _ ≤ 2460; omega)
    refine ⟨sp_k3_0 (Or.inr (Or.inl rfl)), _, rfl, lf2, ?_⟩
    rw [sp_i1]
    exact ht2
  · refine j_w w hw83 ?_
    subst hr
    refine j_callV (q := (RX4, TX4, 5)) dX8_text_5 kX4_pairs lX8_227 inX4_pairs seX4_pairs (z_g1 h1 (by decide) rfl) rfl (cg_pairsL hl w 21 22 23 24 25 true f2 g2 c2 (sp_T S 2) (by decide) (by decide) (by decide) (by decide) (by decide) (by decide) ht2 hf (z_g1 h1 (by decide) rfl) (z_g1 h1 (by decide) rfl) (z_g1 h1 (by decide) rfl) (z_g1 h1 (by decide) rfl) (z_g1 h1 (by decide) rfl)) (Nat.le_of_ble_eq_true rfl) ⟨(by show _ ≤ 68; omega), (by show _ ≤ 2460; omega)⟩ rfl (Nat.le_of_ble_eq_true rfl) rfl rfl (fun _ _ h => h.elim) ?_
    rintro _ w3 ⟨r3, rfl, lf3, ht3⟩
    have hf3 := lf3.2.2 hf
    have h1_3 := (lf3.1).trans h1
    refine j_aret dX8_text_8 rfl (Or.inl ⟨_, rfl⟩) rfl ?_ (by show _ ≤ 68; omega) (by show _ ≤ 2460; omega)
    refine ⟨sp_k3_0 (Or.inr (Or.inr rfl)), _, rfl, lf3, ?_⟩
    rw [sp_i2]
    exact ht3
end ZTxe
end ZM4
section ZM5
section ZLt
variable {G : z_G} {l : Launch}
theorem z_txL.fm {w w9 : z_W} {q r ρ : Nat} {L : List Int32} (h : z_txL w ρ r L) (hw : z_fm q w w9) (hq : q ≤ ρ) : z_txL w9 ρ r L := by
  obtain ⟨h1, h2, b, f, h3, h4, h5, h6, h7, h8⟩ := h
  exact ⟨h1, h2, b, f, h3, h4, h5, hw.g h1 (by omega) h6, hw.g h3 (by omega) h7, h8⟩
theorem z_txL.up {w w9 : z_W} {x r ρ : Nat} {L : List Int32} {e : z_E} (h : z_txL w ρ r L) (u : z_up w x e w9) (hx : x % 64 ≠ ρ) : z_txL w9 ρ r L := by
  obtain ⟨h1, h2, b, f, h3, h4, h5, h6, h7, h8⟩ := h
  exact ⟨h1, h2, b, f, h3, h4, h5, (u.2.1 r (fun z => hx (by rw [← z]; exact h2))).trans h6, (u.2.1 b (fun z => hx (by rw [← z]; exact h4))).trans h7, h8⟩
def z_LT (x : Nat) (w : z_W) (L : List Int32) : Prop := ∃ (n : Int64) (r : Nat), z_g w x = some (.inr (13, [.long n, .ref r])) ∧ z_txL w 61 r L
theorem z_LT.of {w w9 : z_W} {x r : Nat} {n : Int64} {L : List Int32} (hx : x % 64 = 60) (u : z_up w x (.inr (13, [.long n, .ref r])) w9) (h : z_txL w 61 r L) : z_LT x w9 L := ⟨n, r, u.1, h.up u (by omega)⟩
theorem z_LT.fm {w w9 : z_W} {x : Nat} {L : List Int32} (h : z_LT x w L) (h1 : 1000 ≤ x) (h2 : x % 64 = 60) (hw : z_fm 59 w w9) : z_LT x w9 L := by
  obtain ⟨n, r, hg, ht⟩ := h
  exact ⟨n, r, hw.g h1 (by omega) hg, ht.fm hw (by decide)⟩
theorem z_LX.x2 {x : Nat} {C M : sp_S} {n : Int64} {w : z_W} (h : z_LX x C M n w) : x % 64 = 60 := h.2.2.2.2
theorem z_LX.cl2 {x : Nat} {C M : sp_S} {n : Int64} {w w9 : z_W} (h : z_LX x C M n w) (h2 : z_l2 w w9) : z_LX x C M n w9 := by
  obtain ⟨hW, ⟨s, hs, hk⟩, ⟨v, hg⟩, hx, hx2⟩ := h
  exact ⟨by rw [h2.1]; exact hW, ⟨s, hs.hm ⟨fun m h1 h3 => h2.2.1 m h1 (Or.inl h3), h2.2.2⟩, hk⟩, ⟨v, (h2.2.1 x hx (Or.inr (by omega))).trans hg⟩, hx, hx2⟩
theorem kz_heardText (hl : l.stackTraces = false) {x : Nat} {C S : sp_S} {n9 : Int64} (w : z_W) (LT : z_LX x C S n9 w) (r : Int32) : z_Con G l mX11_heardText 20 20 640 w [.ref 1000, .int r] (fun v w9 => ∃ r9 : Value, v = some r9 ∧ z_ir r9 = true ∧ z_LX x C S n9 w9 ∧ z_trw w9 (q_k2 r) ∧ z_fm 59 w w9 ∧ (q_k2 r = 0 → ∃ q, r9 = .ref q ∧ z_txL w9 57 q (tx_jt (sp_E S (sp_i r)).2))) (fun _ _ => False) := by
  obtain ⟨-, ⟨s, hs, hR, ok⟩, -⟩ := id LT
  refine z_weak (cz_heardText hl w S s r hs hR) (fun v w9 q => ?_) (fun _ _ h => h)
  obtain ⟨r9, s9, hv, hi, fm, h9, ht, R9, hq⟩ := q
  exact ⟨r9, hv, hi, LT.mod fm h9 R9 ok, ⟨s9, h9, ht⟩, fm, hq⟩
theorem kz_rowText (hl : l.stackTraces = false) {x : Nat} {C S : sp_S} {n9 : Int64} (w : z_W) (LT : z_LX x C S n9 w) (r : Int32) : z_Con G l mX11_rowText 20 24 800 w [.ref 1000, .int r] (fun v w9 => ∃ r9 : Value, v = some r9 ∧ z_ir r9 = true ∧ z_LX x C S n9 w9 ∧ z_trw w9 (q_k2 r) ∧ z_fm 59 w w9 ∧ (q_k2 r = 0 → ∃ q, r9 = .ref q ∧ z_txL w9 57 q (tx_jt (sp_R S (sp_i r))))) (fun _ _ => False) := by
  obtain ⟨-, ⟨s, hs, hR, ok⟩, -⟩ := id LT
  refine z_weak (cz_rowText hl w S s r hs hR) (fun v w9 q => ?_) (fun _ _ h => h)
  obtain ⟨r9, s9, hv, hi, fm, h9, ht, R9, hq⟩ := q
  exact ⟨r9, hv, hi, LT.mod fm h9 R9 ok, ⟨s9, h9, ht⟩, fm, hq⟩
theorem kz_text (hl : l.stackTraces = false) {x : Nat} {C S : sp_S} {n9 : Int64} (w : z_W) (LT : z_LX x C S n9 w) (r : Int32) : z_Con G l mX11_text 20 66 2450 w [.ref 1000, .int r] (fun v w9 => ∃ r9 : Value, v = some r9 ∧ z_ir r9 = true ∧ z_LX x C S n9 w9 ∧ z_trw w9 (sp_k3 r) ∧ z_fm 59 w w9 ∧ (sp_k3 r = 0 → ∃ q, r9 = .ref q ∧ z_txL w9 57 q (tx_pt (sp_T S (sp_i r))))) (fun _ _ => False) := by
  obtain ⟨-, ⟨s, hs, hR, ok⟩, -⟩ := id LT
  refine z_weak (cz_text hl w S s r hs hR) (fun v w9 q => ?_) (fun _ _ h => h)
  obtain ⟨r9, s9, hv, hi, fm, h9, ht, R9, hq⟩ := q
  exact ⟨r9, hv, hi, LT.mod fm h9 R9 ok, ⟨s9, h9, ht⟩, fm, hq⟩
end ZLt
end ZM5
section ZM6
abbrev mL_type : z_M := (yL_type, cL_type, 5, (some .int), [(0, 11, 14, 19), (0, 11, 18, 21), (0, 11, 22, 23)])
theorem ncl_L : RL ≠ "java/lang/invoke/MethodHandle" ∧ RL ≠ "java/lang/invoke/VarHandle" := ⟨by decide +kernel, by decide +kernel⟩
theorem pds_120 : (parseMethodDescriptor "(LLoopdefaults;IILLoopdefaultsLaw$Out;)I").map (fun d => d.parameters.length) = some 4 := by decide +kernel
theorem kL_type : z_okw mL_type 4 := ⟨(by decide), (z_w 846 ((lwt_4_2 21).trans rfl) (by decide +kernel)), (z_w 45 ((lwg_1 0).trans rfl) (by decide +kernel)), ncl_L, pds_120, by decide⟩
theorem stL_type : Cond.static yL_type ∈ z_tbl := (z_w 845 ((lwt_4_2 20).trans rfl) (by decide +kernel))
theorem lL_7 : Cond.methodLink RL 7 yX8_type ∈ z_tbl := (z_w 850 ((lwt_4_2 25).trans rfl) (by decide +kernel))
theorem fL_13 : z_F RL 13 13 0 := ⟨(RX9, TX9, 2), "LoopdefaultsLaw$Out", rfl, by decide, iX9, Or.inr ⟨"LoopdefaultsLaw", (z_wn 837 ((lwt_4_2 12).trans rfl) (by decide +kernel))⟩, Or.inl rfl⟩
abbrev mL_drop : z_M := (yL_drop, cL_drop, 5, (some .int), [(0, 11, 14, 19), (0, 11, 18, 21)])
theorem kL_drop : z_okw mL_drop 4 := ⟨(by decide), (z_w 903 ((lwt_4_4 18).trans rfl) (by decide +kernel)), (z_w 45 ((lwg_1 0).trans rfl) (by decide +kernel)), ncl_L, pds_120, by decide⟩
theorem stL_drop : Cond.static yL_drop ∈ z_tbl := (z_w 902 ((lwt_4_4 17).trans rfl) (by decide +kernel))
theorem lL_25 : Cond.methodLink RL 25 yX8_drop ∈ z_tbl := (z_w 904 ((lwt_4_4 19).trans rfl) (by decide +kernel))
abbrev mL_fix : z_M := (yL_fix, cL_fix, 5, (some .int), [(0, 11, 14, 19)])
theorem pds_121 : (parseMethodDescriptor "(LLoopdefaults;IZLLoopdefaultsLaw$Out;)I").map (fun d => d.parameters.length) = some 4 := by decide +kernel
theorem kL_fix : z_okw mL_fix 4 := ⟨(by decide), (z_w 914 ((lwt_4_4 29).trans rfl) (by decide +kernel)), (z_w 45 ((lwg_1 0).trans rfl) (by decide +kernel)), ncl_L, pds_121, by decide⟩
theorem stL_fix : Cond.static yL_fix ∈ z_tbl := (z_w 913 ((lwt_4_4 28).trans rfl) (by decide +kernel))
theorem lL_28 : Cond.methodLink RL 28 yX8_fix ∈ z_tbl := (z_w 915 ((lwt_4_5 0).trans rfl) (by decide +kernel))
abbrev mL_hear : z_M := (yL_hear, cL_hear, 5, (some .int), [(0, 11, 14, 19)])
theorem kL_hear : z_okw mL_hear 4 := ⟨(by decide), (z_w 921 ((lwt_4_5 6).trans rfl) (by decide +kernel)), (z_w 45 ((lwg_1 0).trans rfl) (by decide +kernel)), ncl_L, pds_120, by decide⟩
theorem stL_hear : Cond.static yL_hear ∈ z_tbl := (z_w 920 ((lwt_4_5 5).trans rfl) (by decide +kernel))
theorem lL_32 : Cond.methodLink RL 32 yX8_hear ∈ z_tbl := (z_w 922 ((lwt_4_5 7).trans rfl) (by decide +kernel))
abbrev mL_rest : z_M := (yL_rest, cL_rest, 6, (some .int), [(0, 13, 16, 19), (0, 13, 20, 21)])
theorem pds_122 : (parseMethodDescriptor "(LLoopdefaults;IIILLoopdefaultsLaw$Out;)I").map (fun d => d.parameters.length) = some 5 := by decide +kernel
theorem kL_rest : z_okw mL_rest 5 := ⟨(by decide), (z_w 956 ((lwt_4_6 11).trans rfl) (by decide +kernel)), (z_w 45 ((lwg_1 0).trans rfl) (by decide +kernel)), ncl_L, pds_122, by decide⟩
theorem stL_rest : Cond.static yL_rest ∈ z_tbl := (z_w 955 ((lwt_4_6 10).trans rfl) (by decide +kernel))
theorem lL_35 : Cond.methodLink RL 35 yX8_rest ∈ z_tbl := (z_w 957 ((lwt_4_6 12).trans rfl) (by decide +kernel))
abbrev mL_removeIf : z_M := (yL_removeIf, cL_removeIf, 6, (some .int), [(0, 13, 16, 19), (0, 13, 20, 21)])
theorem kL_removeIf : z_okw mL_removeIf 5 := ⟨(by decide), (z_w 966 ((lwt_4_6 21).trans rfl) (by decide +kernel)), (z_w 45 ((lwg_1 0).trans rfl) (by decide +kernel)), ncl_L, pds_122, by decide⟩
theorem stL_removeIf : Cond.static yL_removeIf ∈ z_tbl := (z_w 965 ((lwt_4_6 20).trans rfl) (by decide +kernel))
theorem lL_39 : Cond.methodLink RL 39 yX8_removeIf ∈ z_tbl := (z_w 967 ((lwt_4_6 22).trans rfl) (by decide +kernel))
abbrev mL_replaceAll : z_M := (yL_replaceAll, cL_replaceAll, 6, (some .int), [(0, 13, 16, 19), (0, 13, 20, 21)])
theorem kL_replaceAll : z_okw mL_replaceAll 5 := ⟨(by decide), (z_w 973 ((lwt_4_6 28).trans rfl) (by decide +kernel)), (z_w 45 ((lwg_1 0).trans rfl) (by decide +kernel)), ncl_L, pds_122, by decide⟩
theorem stL_replaceAll : Cond.static yL_replaceAll ∈ z_tbl := (z_w 972 ((lwt_4_6 27).trans rfl) (by decide +kernel))
theorem lL_42 : Cond.methodLink RL 42 yX8_replaceAll ∈ z_tbl := (z_w 974 ((lwt_4_6 29).trans rfl) (by decide +kernel))
abbrev mL_copy : z_M := (yL_copy, cL_copy, 4, (some .int), [(0, 10, 13, 19)])
theorem pds_123 : (parseMethodDescriptor "(LLoopdefaults;ILLoopdefaultsLaw$Out;)I").map (fun d => d.parameters.length) = some 3 := by decide +kernel
theorem kL_copy : z_okw mL_copy 3 := ⟨(by decide), (z_w 1006 ((lwg_5 1).trans rfl) (by decide +kernel)), (z_w 45 ((lwg_1 0).trans rfl) (by decide +kernel)), ncl_L, pds_123, by decide⟩
theorem stL_copy : Cond.static yL_copy ∈ z_tbl := (z_w 1005 ((lwg_5 0).trans rfl) (by decide +kernel))
theorem lL_45 : Cond.methodLink RL 45 yX8_copy ∈ z_tbl := (z_w 1007 ((lwg_5 2).trans rfl) (by decide +kernel))
abbrev mL_put : z_M := (yL_put, cL_put, 6, (some .int), [(0, 13, 16, 19), (0, 13, 20, 21)])
theorem kL_put : z_okw mL_put 5 := ⟨(by decide), (z_w 1013 ((lwg_5 8).trans rfl) (by decide +kernel)), (z_w 45 ((lwg_1 0).trans rfl) (by decide +kernel)), ncl_L, pds_122, by decide⟩
theorem stL_put : Cond.static yL_put ∈ z_tbl := (z_w 1012 ((lwg_5 7).trans rfl) (by decide +kernel))
theorem lL_49 : Cond.methodLink RL 49 yX8_put ∈ z_tbl := (z_w 1014 ((lwg_5 9).trans rfl) (by decide +kernel))
abbrev mL_remove : z_M := (yL_remove, cL_remove, 5, (some .int), [(0, 11, 14, 19), (0, 11, 18, 21)])
theorem kL_remove : z_okw mL_remove 4 := ⟨(by decide), (z_w 1033 ((lwg_5 28).trans rfl) (by decide +kernel)), (z_w 45 ((lwg_1 0).trans rfl) (by decide +kernel)), ncl_L, pds_120, by decide⟩
theorem stL_remove : Cond.static yL_remove ∈ z_tbl := (z_w 1032 ((lwg_5 27).trans rfl) (by decide +kernel))
theorem lL_52 : Cond.methodLink RL 52 yX8_remove ∈ z_tbl := (z_w 1034 ((lwg_5 29).trans rfl) (by decide +kernel))
abbrev mL_putIfAbsent : z_M := (yL_putIfAbsent, cL_putIfAbsent, 6, (some .int), [(0, 13, 16, 19), (0, 13, 20, 21)])
theorem kL_putIfAbsent : z_okw mL_putIfAbsent 5 := ⟨(by decide), (z_w 1041 ((lwt_5_1 6).trans rfl) (by decide +kernel)), (z_w 45 ((lwg_1 0).trans rfl) (by decide +kernel)), ncl_L, pds_122, by decide⟩
theorem stL_putIfAbsent : Cond.static yL_putIfAbsent ∈ z_tbl := (z_w 1040 ((lwt_5_1 5).trans rfl) (by decide +kernel))
theorem lL_55 : Cond.methodLink RL 55 yX8_putIfAbsent ∈ z_tbl := (z_w 1042 ((lwt_5_1 7).trans rfl) (by decide +kernel))
abbrev mL_replace : z_M := (yL_replace, cL_replace, 6, (some .int), [(0, 13, 16, 19), (0, 13, 20, 21)])
theorem kL_replace : z_okw mL_replace 5 := ⟨(by decide), (z_w 1048 ((lwt_5_1 13).trans rfl) (by decide +kernel)), (z_w 45 ((lwg_1 0).trans rfl) (by decide +kernel)), ncl_L, pds_122, by decide⟩
theorem stL_replace : Cond.static yL_replace ∈ z_tbl := (z_w 1047 ((lwt_5_1 12).trans rfl) (by decide +kernel))
theorem lL_58 : Cond.methodLink RL 58 yX8_replace ∈ z_tbl := (z_w 1049 ((lwt_5_1 14).trans rfl) (by decide +kernel))
abbrev mL_replaceIf : z_M := (yL_replaceIf, cL_replaceIf, 7, (some .int), [(0, 22, 25, 19), (0, 22, 29, 21)])
theorem pds_124 : (parseMethodDescriptor "(LLoopdefaults;IIIILLoopdefaultsLaw$Out;)I").map (fun d => d.parameters.length) = some 6 := by decide +kernel
theorem kL_replaceIf : z_okw mL_replaceIf 6 := ⟨(by decide), (z_w 1055 ((lwt_5_1 20).trans rfl) (by decide +kernel)), (z_w 45 ((lwg_1 0).trans rfl) (by decide +kernel)), ncl_L, pds_124, by decide⟩
theorem stL_replaceIf : Cond.static yL_replaceIf ∈ z_tbl := (z_w 1054 ((lwt_5_1 19).trans rfl) (by decide +kernel))
theorem lL_61 : Cond.methodLink RL 61 yX8_replaceIf ∈ z_tbl := (z_w 1056 ((lwt_5_1 21).trans rfl) (by decide +kernel))
abbrev mL_removePair : z_M := (yL_removePair, cL_removePair, 6, (some .int), [(0, 20, 23, 19), (0, 20, 27, 21)])
theorem kL_removePair : z_okw mL_removePair 5 := ⟨(by decide), (z_w 1062 ((lwt_5_1 27).trans rfl) (by decide +kernel)), (z_w 45 ((lwg_1 0).trans rfl) (by decide +kernel)), ncl_L, pds_122, by decide⟩
theorem stL_removePair : Cond.static yL_removePair ∈ z_tbl := (z_w 1061 ((lwt_5_1 26).trans rfl) (by decide +kernel))
theorem lL_65 : Cond.methodLink RL 65 yX8_removePair ∈ z_tbl := (z_w 1063 ((lwt_5_1 28).trans rfl) (by decide +kernel))
abbrev mL_computeIfAbsent : z_M := (yL_computeIfAbsent, cL_computeIfAbsent, 7, (some .int), [(0, 15, 18, 19), (0, 15, 22, 21)])
theorem kL_computeIfAbsent : z_okw mL_computeIfAbsent 6 := ⟨(by decide), (z_w 1069 ((lwt_5_2 4).trans rfl) (by decide +kernel)), (z_w 45 ((lwg_1 0).trans rfl) (by decide +kernel)), ncl_L, pds_124, by decide⟩
theorem stL_computeIfAbsent : Cond.static yL_computeIfAbsent ∈ z_tbl := (z_w 1068 ((lwt_5_2 3).trans rfl) (by decide +kernel))
theorem lL_69 : Cond.methodLink RL 69 yX8_computeIfAbsent ∈ z_tbl := (z_w 1070 ((lwt_5_2 5).trans rfl) (by decide +kernel))
abbrev mL_computeIfPresent : z_M := (yL_computeIfPresent, cL_computeIfPresent, 7, (some .int), [(0, 15, 18, 19), (0, 15, 22, 21)])
theorem kL_computeIfPresent : z_okw mL_computeIfPresent 6 := ⟨(by decide), (z_w 1080 ((lwt_5_2 15).trans rfl) (by decide +kernel)), (z_w 45 ((lwg_1 0).trans rfl) (by decide +kernel)), ncl_L, pds_124, by decide⟩
theorem stL_computeIfPresent : Cond.static yL_computeIfPresent ∈ z_tbl := (z_w 1079 ((lwt_5_2 14).trans rfl) (by decide +kernel))
theorem lL_73 : Cond.methodLink RL 73 yX8_computeIfPresent ∈ z_tbl := (z_w 1081 ((lwt_5_2 16).trans rfl) (by decide +kernel))
abbrev mL_compute : z_M := (yL_compute, cL_compute, 7, (some .int), [(0, 15, 18, 19), (0, 15, 22, 21)])
theorem kL_compute : z_okw mL_compute 6 := ⟨(by decide), (z_w 1087 ((lwt_5_2 22).trans rfl) (by decide +kernel)), (z_w 45 ((lwg_1 0).trans rfl) (by decide +kernel)), ncl_L, pds_124, by decide⟩
theorem stL_compute : Cond.static yL_compute ∈ z_tbl := (z_w 1086 ((lwt_5_2 21).trans rfl) (by decide +kernel))
theorem lL_76 : Cond.methodLink RL 76 yX8_compute ∈ z_tbl := (z_w 1088 ((lwt_5_2 23).trans rfl) (by decide +kernel))
abbrev mL_merge : z_M := (yL_merge, cL_merge, 7, (some .int), [(0, 15, 18, 19), (0, 15, 22, 21)])
theorem kL_merge : z_okw mL_merge 6 := ⟨(by decide), (z_w 1094 ((lwt_5_2 29).trans rfl) (by decide +kernel)), (z_w 45 ((lwg_1 0).trans rfl) (by decide +kernel)), ncl_L, pds_124, by decide⟩
theorem stL_merge : Cond.static yL_merge ∈ z_tbl := (z_w 1093 ((lwt_5_2 28).trans rfl) (by decide +kernel))
theorem lL_79 : Cond.methodLink RL 79 yX8_merge ∈ z_tbl := (z_w 1095 ((lwt_5_3 0).trans rfl) (by decide +kernel))
abbrev mL_hearTable : z_M := (yL_hearTable, cL_hearTable, 5, (some .int), [(0, 11, 14, 19)])
theorem kL_hearTable : z_okw mL_hearTable 4 := ⟨(by decide), (z_w 1101 ((lwt_5_3 6).trans rfl) (by decide +kernel)), (z_w 45 ((lwg_1 0).trans rfl) (by decide +kernel)), ncl_L, pds_120, by decide⟩
theorem stL_hearTable : Cond.static yL_hearTable ∈ z_tbl := (z_w 1100 ((lwt_5_3 5).trans rfl) (by decide +kernel))
theorem lL_82 : Cond.methodLink RL 82 yX8_hearTable ∈ z_tbl := (z_w 1102 ((lwt_5_3 7).trans rfl) (by decide +kernel))
abbrev mL_replaceTable : z_M := (yL_replaceTable, cL_replaceTable, 6, (some .int), [(0, 13, 16, 19), (0, 13, 20, 21)])
theorem kL_replaceTable : z_okw mL_replaceTable 5 := ⟨(by decide), (z_w 1124 ((lwt_5_3 29).trans rfl) (by decide +kernel)), (z_w 45 ((lwg_1 0).trans rfl) (by decide +kernel)), ncl_L, pds_122, by decide⟩
theorem stL_replaceTable : Cond.static yL_replaceTable ∈ z_tbl := (z_w 1123 ((lwt_5_3 28).trans rfl) (by decide +kernel))
theorem lL_85 : Cond.methodLink RL 85 yX8_replaceTable ∈ z_tbl := (z_w 1125 ((lwt_5_4 0).trans rfl) (by decide +kernel))
abbrev mL_clear : z_M := (yL_clear, cL_clear, 4, (some .int), [(0, 10, 13, 19)])
theorem kL_clear : z_okw mL_clear 3 := ⟨(by decide), (z_w 1131 ((lwt_5_4 6).trans rfl) (by decide +kernel)), (z_w 45 ((lwg_1 0).trans rfl) (by decide +kernel)), ncl_L, pds_123, by decide⟩
theorem stL_clear : Cond.static yL_clear ∈ z_tbl := (z_w 1130 ((lwt_5_4 5).trans rfl) (by decide +kernel))
theorem lL_88 : Cond.methodLink RL 88 yX8_clear ∈ z_tbl := (z_w 1132 ((lwt_5_4 7).trans rfl) (by decide +kernel))
abbrev mL_hearSpan : z_M := (yL_hearSpan, cL_hearSpan, 7, (some .int), [(0, 15, 18, 19), (0, 15, 22, 21)])
theorem kL_hearSpan : z_okw mL_hearSpan 6 := ⟨(by decide), (z_w 1142 ((lwt_5_4 17).trans rfl) (by decide +kernel)), (z_w 45 ((lwg_1 0).trans rfl) (by decide +kernel)), ncl_L, pds_124, by decide⟩
theorem stL_hearSpan : Cond.static yL_hearSpan ∈ z_tbl := (z_w 1141 ((lwt_5_4 16).trans rfl) (by decide +kernel))
theorem lL_91 : Cond.methodLink RL 91 yX8_hearSpan ∈ z_tbl := (z_w 1143 ((lwt_5_4 18).trans rfl) (by decide +kernel))
abbrev mL_hearSteps : z_M := (yL_hearSteps, cL_hearSteps, 8, (some .int), [(0, 17, 20, 19), (0, 17, 24, 21)])
theorem pds_125 : (parseMethodDescriptor "(LLoopdefaults;IIIIILLoopdefaultsLaw$Out;)I").map (fun d => d.parameters.length) = some 7 := by decide +kernel
theorem kL_hearSteps : z_okw mL_hearSteps 7 := ⟨(by decide), (z_w 1176 ((lwt_5_5 21).trans rfl) (by decide +kernel)), (z_w 45 ((lwg_1 0).trans rfl) (by decide +kernel)), ncl_L, pds_125, by decide⟩
theorem stL_hearSteps : Cond.static yL_hearSteps ∈ z_tbl := (z_w 1175 ((lwt_5_5 20).trans rfl) (by decide +kernel))
theorem lL_94 : Cond.methodLink RL 94 yX8_hearSteps ∈ z_tbl := (z_w 1177 ((lwt_5_5 22).trans rfl) (by decide +kernel))
abbrev mL_takeStep : z_M := (yL_takeStep, cL_takeStep, 5, (some .int), [(0, 11, 14, 21)])
theorem kL_takeStep : z_okw mL_takeStep 4 := ⟨(by decide), (z_w 1183 ((lwt_5_5 28).trans rfl) (by decide +kernel)), (z_w 45 ((lwg_1 0).trans rfl) (by decide +kernel)), ncl_L, pds_120, by decide⟩
theorem stL_takeStep : Cond.static yL_takeStep ∈ z_tbl := (z_w 1182 ((lwt_5_5 27).trans rfl) (by decide +kernel))
theorem lL_98 : Cond.methodLink RL 98 yX8_takeStep ∈ z_tbl := (z_w 1184 ((lwt_5_5 29).trans rfl) (by decide +kernel))
abbrev mL_stop : z_M := (yL_stop, cL_stop, 5, (some .int), [(0, 11, 14, 19), (0, 11, 18, 21)])
theorem kL_stop : z_okw mL_stop 4 := ⟨(by decide), (z_w 1190 ((lwt_5_6 5).trans rfl) (by decide +kernel)), (z_w 45 ((lwg_1 0).trans rfl) (by decide +kernel)), ncl_L, pds_120, by decide⟩
theorem stL_stop : Cond.static yL_stop ∈ z_tbl := (z_w 1189 ((lwt_5_6 4).trans rfl) (by decide +kernel))
theorem lL_101 : Cond.methodLink RL 101 yX8_stop ∈ z_tbl := (z_w 1191 ((lwt_5_6 6).trans rfl) (by decide +kernel))
abbrev mL_forget : z_M := (yL_forget, cL_forget, 4, (some .int), [(0, 10, 13, 19)])
theorem kL_forget : z_okw mL_forget 3 := ⟨(by decide), (z_w 1198 ((lwt_5_6 13).trans rfl) (by decide +kernel)), (z_w 45 ((lwg_1 0).trans rfl) (by decide +kernel)), ncl_L, pds_123, by decide⟩
theorem stL_forget : Cond.static yL_forget ∈ z_tbl := (z_w 1197 ((lwt_5_6 12).trans rfl) (by decide +kernel))
theorem lL_104 : Cond.methodLink RL 104 yX8_forget ∈ z_tbl := (z_w 1199 ((lwt_5_6 14).trans rfl) (by decide +kernel))
abbrev mL_heard : z_M := (yL_heard, cL_heard, 5, (some .int), [(0, 11, 14, 19), (0, 11, 18, 21)])
theorem kL_heard : z_okw mL_heard 4 := ⟨(by decide), (z_w 1209 ((lwt_5_6 24).trans rfl) (by decide +kernel)), (z_w 45 ((lwg_1 0).trans rfl) (by decide +kernel)), ncl_L, pds_120, by decide⟩
theorem stL_heard : Cond.static yL_heard ∈ z_tbl := (z_w 1208 ((lwt_5_6 23).trans rfl) (by decide +kernel))
theorem lL_107 : Cond.methodLink RL 107 yX8_heard ∈ z_tbl := (z_w 1210 ((lwt_5_6 25).trans rfl) (by decide +kernel))
abbrev mL_heardText : z_M := (yL_heardText, cL_heardText, 4, (some .int), [(0, 9, 12, 19)])
theorem kL_heardText : z_okw mL_heardText 3 := ⟨(by decide), (z_w 1216 ((lwt_5_7 1).trans rfl) (by decide +kernel)), (z_w 45 ((lwg_1 0).trans rfl) (by decide +kernel)), ncl_L, pds_123, by decide⟩
theorem stL_heardText : Cond.static yL_heardText ∈ z_tbl := (z_w 1215 ((lwt_5_7 0).trans rfl) (by decide +kernel))
theorem lL_110 : Cond.methodLink RL 110 yX8_heardText ∈ z_tbl := (z_w 1217 ((lwt_5_7 2).trans rfl) (by decide +kernel))
theorem fL_114 : z_F RL 114 13 1 := ⟨(RX9, TX9, 2), "LoopdefaultsLaw$Out", rfl, by decide, iX9, Or.inr ⟨"LoopdefaultsLaw", (z_wn 838 ((lwt_4_2 13).trans rfl) (by decide +kernel))⟩, Or.inl rfl⟩
abbrev mL_length : z_M := (yL_length, cL_length, 4, (some .int), [(0, 10, 13, 19)])
theorem kL_length : z_okw mL_length 3 := ⟨(by decide), (z_w 1223 ((lwt_5_7 8).trans rfl) (by decide +kernel)), (z_w 45 ((lwg_1 0).trans rfl) (by decide +kernel)), ncl_L, pds_123, by decide⟩
theorem stL_length : Cond.static yL_length ∈ z_tbl := (z_w 1222 ((lwt_5_7 7).trans rfl) (by decide +kernel))
theorem lL_118 : Cond.methodLink RL 118 yX8_length ∈ z_tbl := (z_w 1224 ((lwt_5_7 9).trans rfl) (by decide +kernel))
abbrev mL_at : z_M := (yL_at, cL_at, 5, (some .int), [(0, 11, 14, 19)])
theorem kL_at : z_okw mL_at 4 := ⟨(by decide), (z_w 1230 ((lwt_5_7 15).trans rfl) (by decide +kernel)), (z_w 45 ((lwg_1 0).trans rfl) (by decide +kernel)), ncl_L, pds_120, by decide⟩
theorem stL_at : Cond.static yL_at ∈ z_tbl := (z_w 1229 ((lwt_5_7 14).trans rfl) (by decide +kernel))
theorem lL_121 : Cond.methodLink RL 121 yX8_at ∈ z_tbl := (z_w 1231 ((lwt_5_7 16).trans rfl) (by decide +kernel))
abbrev mL_rowText : z_M := (yL_rowText, cL_rowText, 4, (some .int), [(0, 9, 12, 19)])
theorem kL_rowText : z_okw mL_rowText 3 := ⟨(by decide), (z_w 1238 ((lwt_5_7 23).trans rfl) (by decide +kernel)), (z_w 45 ((lwg_1 0).trans rfl) (by decide +kernel)), ncl_L, pds_123, by decide⟩
theorem stL_rowText : Cond.static yL_rowText ∈ z_tbl := (z_w 1237 ((lwt_5_7 22).trans rfl) (by decide +kernel))
theorem lL_124 : Cond.methodLink RL 124 yX8_rowText ∈ z_tbl := (z_w 1239 ((lwt_5_7 24).trans rfl) (by decide +kernel))
abbrev mL_isFixed : z_M := (yL_isFixed, cL_isFixed, 4, (some .int), [(0, 17, 20, 19)])
theorem kL_isFixed : z_okw mL_isFixed 3 := ⟨(by decide), (z_w 1246 ((lwg_6 1).trans rfl) (by decide +kernel)), (z_w 45 ((lwg_1 0).trans rfl) (by decide +kernel)), ncl_L, pds_123, by decide⟩
theorem stL_isFixed : Cond.static yL_isFixed ∈ z_tbl := (z_w 1245 ((lwg_6 0).trans rfl) (by decide +kernel))
theorem lL_127 : Cond.methodLink RL 127 yX8_isFixed ∈ z_tbl := (z_w 1247 ((lwg_6 2).trans rfl) (by decide +kernel))
abbrev mL_counts : z_M := (yL_counts, cL_counts, 5, (some .int), [(0, 11, 14, 19), (0, 11, 18, 21)])
theorem kL_counts : z_okw mL_counts 4 := ⟨(by decide), (z_w 1253 ((lwg_6 8).trans rfl) (by decide +kernel)), (z_w 45 ((lwg_1 0).trans rfl) (by decide +kernel)), ncl_L, pds_120, by decide⟩
theorem stL_counts : Cond.static yL_counts ∈ z_tbl := (z_w 1252 ((lwg_6 7).trans rfl) (by decide +kernel))
theorem lL_131 : Cond.methodLink RL 131 yX8_counts ∈ z_tbl := (z_w 1254 ((lwg_6 9).trans rfl) (by decide +kernel))
abbrev mL_shelfCounts : z_M := (yL_shelfCounts, cL_shelfCounts, 4, (some .int), [(0, 10, 13, 21)])
theorem kL_shelfCounts : z_okw mL_shelfCounts 3 := ⟨(by decide), (z_w 1260 ((lwg_6 15).trans rfl) (by decide +kernel)), (z_w 45 ((lwg_1 0).trans rfl) (by decide +kernel)), ncl_L, pds_123, by decide⟩
theorem stL_shelfCounts : Cond.static yL_shelfCounts ∈ z_tbl := (z_w 1259 ((lwg_6 14).trans rfl) (by decide +kernel))
theorem lL_134 : Cond.methodLink RL 134 yX8_shelfCounts ∈ z_tbl := (z_w 1261 ((lwg_6 16).trans rfl) (by decide +kernel))
abbrev mL_get : z_M := (yL_get, cL_get, 5, (some .int), [(0, 11, 14, 19), (0, 11, 18, 21)])
theorem kL_get : z_okw mL_get 4 := ⟨(by decide), (z_w 1267 ((lwg_6 22).trans rfl) (by decide +kernel)), (z_w 45 ((lwg_1 0).trans rfl) (by decide +kernel)), ncl_L, pds_120, by decide⟩
theorem stL_get : Cond.static yL_get ∈ z_tbl := (z_w 1266 ((lwg_6 21).trans rfl) (by decide +kernel))
theorem lL_137 : Cond.methodLink RL 137 yX8_get ∈ z_tbl := (z_w 1268 ((lwg_6 23).trans rfl) (by decide +kernel))
abbrev mL_getOr : z_M := (yL_getOr, cL_getOr, 6, (some .int), [(0, 13, 16, 19), (0, 13, 20, 21)])
theorem kL_getOr : z_okw mL_getOr 5 := ⟨(by decide), (z_w 1274 ((lwg_6 29).trans rfl) (by decide +kernel)), (z_w 45 ((lwg_1 0).trans rfl) (by decide +kernel)), ncl_L, pds_122, by decide⟩
theorem stL_getOr : Cond.static yL_getOr ∈ z_tbl := (z_w 1273 ((lwg_6 28).trans rfl) (by decide +kernel))
theorem lL_140 : Cond.methodLink RL 140 yX8_getOr ∈ z_tbl := (z_w 1275 ((lwt_6_1 0).trans rfl) (by decide +kernel))
abbrev mL_has : z_M := (yL_has, cL_has, 5, (some .int), [(0, 18, 21, 19), (0, 18, 25, 21)])
theorem kL_has : z_okw mL_has 4 := ⟨(by decide), (z_w 1281 ((lwt_6_1 6).trans rfl) (by decide +kernel)), (z_w 45 ((lwg_1 0).trans rfl) (by decide +kernel)), ncl_L, pds_120, by decide⟩
theorem stL_has : Cond.static yL_has ∈ z_tbl := (z_w 1280 ((lwt_6_1 5).trans rfl) (by decide +kernel))
theorem lL_143 : Cond.methodLink RL 143 yX8_has ∈ z_tbl := (z_w 1282 ((lwt_6_1 7).trans rfl) (by decide +kernel))
abbrev mL_size : z_M := (yL_size, cL_size, 4, (some .int), [(0, 10, 13, 19)])
theorem kL_size : z_okw mL_size 3 := ⟨(by decide), (z_w 1288 ((lwt_6_1 13).trans rfl) (by decide +kernel)), (z_w 45 ((lwg_1 0).trans rfl) (by decide +kernel)), ncl_L, pds_123, by decide⟩
theorem stL_size : Cond.static yL_size ∈ z_tbl := (z_w 1287 ((lwt_6_1 12).trans rfl) (by decide +kernel))
theorem lL_147 : Cond.methodLink RL 147 yX8_size ∈ z_tbl := (z_w 1289 ((lwt_6_1 14).trans rfl) (by decide +kernel))
abbrev mL_text : z_M := (yL_text, cL_text, 4, (some .int), [(0, 9, 12, 19)])
theorem kL_text : z_okw mL_text 3 := ⟨(by decide), (z_w 1295 ((lwt_6_1 20).trans rfl) (by decide +kernel)), (z_w 45 ((lwg_1 0).trans rfl) (by decide +kernel)), ncl_L, pds_123, by decide⟩
theorem stL_text : Cond.static yL_text ∈ z_tbl := (z_w 1294 ((lwt_6_1 19).trans rfl) (by decide +kernel))
theorem lL_150 : Cond.methodLink RL 150 yX8_text ∈ z_tbl := (z_w 1296 ((lwt_6_1 21).trans rfl) (by decide +kernel))
abbrev mL_areLike : z_M := (yL_areLike, cL_areLike, 5, (some .int), [(0, 18, 21, 19)])
theorem kL_areLike : z_okw mL_areLike 4 := ⟨(by decide), (z_w 1312 ((lwt_6_2 7).trans rfl) (by decide +kernel)), (z_w 45 ((lwg_1 0).trans rfl) (by decide +kernel)), ncl_L, pds_120, by decide⟩
theorem stL_areLike : Cond.static yL_areLike ∈ z_tbl := (z_w 1311 ((lwt_6_2 6).trans rfl) (by decide +kernel))
theorem lL_153 : Cond.methodLink RL 153 yX8_areLike ∈ z_tbl := (z_w 1313 ((lwt_6_2 8).trans rfl) (by decide +kernel))
abbrev mL_given : z_M := (yL_given, cL_given, 7, (some .int), [(0, 15, 18, 21)])
theorem kL_given : z_okw mL_given 6 := ⟨(by decide), (z_w 1319 ((lwt_6_2 14).trans rfl) (by decide +kernel)), (z_w 45 ((lwg_1 0).trans rfl) (by decide +kernel)), ncl_L, pds_124, by decide⟩
theorem stL_given : Cond.static yL_given ∈ z_tbl := (z_w 1318 ((lwt_6_2 13).trans rfl) (by decide +kernel))
theorem lL_156 : Cond.methodLink RL 156 yX8_given ∈ z_tbl := (z_w 1320 ((lwt_6_2 15).trans rfl) (by decide +kernel))
abbrev mL_tested : z_M := (yL_tested, cL_tested, 6, (some .int), [(0, 13, 16, 21)])
theorem kL_tested : z_okw mL_tested 5 := ⟨(by decide), (z_w 1326 ((lwt_6_2 21).trans rfl) (by decide +kernel)), (z_w 45 ((lwg_1 0).trans rfl) (by decide +kernel)), ncl_L, pds_122, by decide⟩
theorem stL_tested : Cond.static yL_tested ∈ z_tbl := (z_w 1325 ((lwt_6_2 20).trans rfl) (by decide +kernel))
theorem lL_159 : Cond.methodLink RL 159 yX8_tested ∈ z_tbl := (z_w 1327 ((lwt_6_2 22).trans rfl) (by decide +kernel))
abbrev mL_house : z_M := (yL_house, cL_house, 4, (some .int), [(0, 10, 13, 21)])
theorem kL_house : z_okw mL_house 3 := ⟨(by decide), (z_w 1333 ((lwt_6_2 28).trans rfl) (by decide +kernel)), (z_w 45 ((lwg_1 0).trans rfl) (by decide +kernel)), ncl_L, pds_123, by decide⟩
theorem stL_house : Cond.static yL_house ∈ z_tbl := (z_w 1332 ((lwt_6_2 27).trans rfl) (by decide +kernel))
theorem lL_162 : Cond.methodLink RL 162 yX8_house ∈ z_tbl := (z_w 1334 ((lwt_6_2 29).trans rfl) (by decide +kernel))
theorem nL_8 : z_N RL 8 12 [.null, .null, .null, .null, .null, .null, .null, .int 0, .int 0] := ⟨(RX8, TX8, 9), tyX8, rfl, iX8, (z_w 82 ((lwt_1_1 7).trans rfl) (by decide +kernel)), (z_w 83 ((lwt_1_1 8).trans rfl) (by decide +kernel)), (z_w 46 ((lwg_1 1).trans rfl) (by decide +kernel)), tyX8_ok, rfl, by decide, rfl⟩
theorem lL_165 : Cond.methodLink RL 165 yX8_init ∈ z_tbl := (z_w 84 ((lwt_1_1 9).trans rfl) (by decide +kernel))
theorem nL_166 : z_N RL 166 15 [.int 0, .null, .null, .null, .null, .null, .int 0, .int 0] := ⟨(RX11, TX11, 8), tyX11, rfl, iX11, (z_w 1335 ((lwt_6_3 0).trans rfl) (by decide +kernel)), (z_w 1336 ((lwt_6_3 1).trans rfl) (by decide +kernel)), (z_w 51 ((lwg_1 6).trans rfl) (by decide +kernel)), tyX11_ok, rfl, by decide, rfl⟩
theorem lL_168 : Cond.methodLink RL 168 yX11_init ∈ z_tbl := (z_w 1337 ((lwt_6_3 2).trans rfl) (by decide +kernel))
theorem nL_14 : z_N RL 14 13 [.long 0, .null] := ⟨(RX9, TX9, 2), tyX9, rfl, iX9, (z_w 831 ((lwt_4_2 6).trans rfl) (by decide +kernel)), (z_w 832 ((lwt_4_2 7).trans rfl) (by decide +kernel)), (z_w 60 ((lwg_1 15).trans rfl) (by decide +kernel)), tyX9_ok, rfl, by decide, rfl⟩
theorem lL_169 : Cond.methodLinkNest RL 169 yX9_init "LoopdefaultsLaw" ∈ z_nst := (z_wn 833 ((lwt_4_2 8).trans rfl) (by decide +kernel))
theorem lL_170 : Cond.methodLink RL 170 yL_type ∈ z_tbl := (z_w 844 ((lwt_4_2 19).trans rfl) (by decide +kernel))
theorem lL_175 : Cond.methodLink RL 175 yX11_type ∈ z_tbl := (z_w 1482 ((lwt_6_7 27).trans rfl) (by decide +kernel))
abbrev mX11_thrown : z_M := (yX11_thrown, cX11_thrown, 1, (some .int), [])
theorem kX11_thrown : z_okm mX11_thrown 0 := ⟨rfl, (z_w 1481 ((lwt_6_7 26).trans rfl) (by decide +kernel)), (z_w 51 ((lwg_1 6).trans rfl) (by decide +kernel)), ncl_X11, pds_17, by decide⟩
theorem inX11_thrown : Cond.instanceMethod yX11_thrown ∈ z_tbl := (z_w 1479 ((lwt_6_7 24).trans rfl) (by decide +kernel))
theorem seX11_thrown : Cond.selects RX11 yX11_thrown yX11_thrown ∈ z_tbl := (z_w 1480 ((lwt_6_7 25).trans rfl) (by decide +kernel))
theorem lL_176 : Cond.methodLink RL 176 yX11_thrown ∈ z_tbl := (z_w 1478 ((lwt_6_7 23).trans rfl) (by decide +kernel))
theorem lL_180 : Cond.methodLink RL 180 yL_drop ∈ z_tbl := (z_w 901 ((lwt_4_4 16).trans rfl) (by decide +kernel))
theorem lL_182 : Cond.methodLink RL 182 yX11_drop ∈ z_tbl := (z_w 1539 ((lwt_7_1 24).trans rfl) (by decide +kernel))
theorem lL_183 : Cond.methodLink RL 183 yL_fix ∈ z_tbl := (z_w 912 ((lwt_4_4 27).trans rfl) (by decide +kernel))
theorem lL_186 : Cond.methodLink RL 186 yX11_fix ∈ z_tbl := (z_w 1552 ((lwt_7_2 7).trans rfl) (by decide +kernel))
theorem lL_187 : Cond.methodLink RL 187 yL_hear ∈ z_tbl := (z_w 919 ((lwt_4_5 4).trans rfl) (by decide +kernel))
theorem lL_189 : Cond.methodLink RL 189 yX11_hear ∈ z_tbl := (z_w 1559 ((lwt_7_2 14).trans rfl) (by decide +kernel))
theorem lL_190 : Cond.methodLink RL 190 yL_rest ∈ z_tbl := (z_w 954 ((lwt_4_6 9).trans rfl) (by decide +kernel))
theorem lL_193 : Cond.methodLink RL 193 yX11_rest ∈ z_tbl := (z_w 1584 ((lwt_7_3 9).trans rfl) (by decide +kernel))
theorem lL_194 : Cond.methodLink RL 194 yL_removeIf ∈ z_tbl := (z_w 964 ((lwt_4_6 19).trans rfl) (by decide +kernel))
theorem lL_196 : Cond.methodLink RL 196 yX11_removeIf ∈ z_tbl := (z_w 1588 ((lwt_7_3 13).trans rfl) (by decide +kernel))
theorem lL_197 : Cond.methodLink RL 197 yL_replaceAll ∈ z_tbl := (z_w 971 ((lwt_4_6 26).trans rfl) (by decide +kernel))
theorem lL_199 : Cond.methodLink RL 199 yX11_replaceAll ∈ z_tbl := (z_w 1596 ((lwt_7_3 21).trans rfl) (by decide +kernel))
theorem lL_200 : Cond.methodLink RL 200 yL_copy ∈ z_tbl := (z_w 1004 ((lwt_4_7 29).trans rfl) (by decide +kernel))
theorem lL_203 : Cond.methodLink RL 203 yX11_copy ∈ z_tbl := (z_w 1612 ((lwt_7_4 7).trans rfl) (by decide +kernel))
theorem lL_204 : Cond.methodLink RL 204 yL_put ∈ z_tbl := (z_w 1011 ((lwg_5 6).trans rfl) (by decide +kernel))
theorem lL_206 : Cond.methodLink RL 206 yX11_put ∈ z_tbl := (z_w 1641 ((lwt_7_5 6).trans rfl) (by decide +kernel))
theorem lL_207 : Cond.methodLink RL 207 yL_remove ∈ z_tbl := (z_w 1031 ((lwg_5 26).trans rfl) (by decide +kernel))
theorem lL_209 : Cond.methodLink RL 209 yX11_remove ∈ z_tbl := (z_w 1689 ((lwt_7_6 24).trans rfl) (by decide +kernel))
theorem lL_210 : Cond.methodLink RL 210 yL_putIfAbsent ∈ z_tbl := (z_w 1039 ((lwt_5_1 4).trans rfl) (by decide +kernel))
theorem lL_212 : Cond.methodLink RL 212 yX11_putIfAbsent ∈ z_tbl := (z_w 1697 ((lwt_7_7 2).trans rfl) (by decide +kernel))
theorem lL_213 : Cond.methodLink RL 213 yL_replace ∈ z_tbl := (z_w 1046 ((lwt_5_1 11).trans rfl) (by decide +kernel))
theorem lL_215 : Cond.methodLink RL 215 yX11_replace ∈ z_tbl := (z_w 1701 ((lwt_7_7 6).trans rfl) (by decide +kernel))
theorem lL_216 : Cond.methodLink RL 216 yL_replaceIf ∈ z_tbl := (z_w 1053 ((lwt_5_1 18).trans rfl) (by decide +kernel))
theorem lL_219 : Cond.methodLink RL 219 yX11_replaceIf ∈ z_tbl := (z_w 1705 ((lwt_7_7 10).trans rfl) (by decide +kernel))
theorem lL_220 : Cond.methodLink RL 220 yL_removePair ∈ z_tbl := (z_w 1060 ((lwt_5_1 25).trans rfl) (by decide +kernel))
theorem lL_222 : Cond.methodLink RL 222 yX11_removePair ∈ z_tbl := (z_w 1709 ((lwt_7_7 14).trans rfl) (by decide +kernel))
theorem lL_223 : Cond.methodLink RL 223 yL_computeIfAbsent ∈ z_tbl := (z_w 1067 ((lwt_5_2 2).trans rfl) (by decide +kernel))
theorem lL_225 : Cond.methodLink RL 225 yX11_computeIfAbsent ∈ z_tbl := (z_w 1713 ((lwt_7_7 18).trans rfl) (by decide +kernel))
theorem lL_226 : Cond.methodLink RL 226 yL_computeIfPresent ∈ z_tbl := (z_w 1078 ((lwt_5_2 13).trans rfl) (by decide +kernel))
theorem lL_228 : Cond.methodLink RL 228 yX11_computeIfPresent ∈ z_tbl := (z_w 1725 ((lwg_8 0).trans rfl) (by decide +kernel))
theorem lL_229 : Cond.methodLink RL 229 yL_compute ∈ z_tbl := (z_w 1085 ((lwt_5_2 20).trans rfl) (by decide +kernel))
theorem lL_231 : Cond.methodLink RL 231 yX11_compute ∈ z_tbl := (z_w 1729 ((lwg_8 4).trans rfl) (by decide +kernel))
theorem lL_232 : Cond.methodLink RL 232 yL_merge ∈ z_tbl := (z_w 1092 ((lwt_5_2 27).trans rfl) (by decide +kernel))
theorem lL_234 : Cond.methodLink RL 234 yX11_merge ∈ z_tbl := (z_w 1733 ((lwg_8 8).trans rfl) (by decide +kernel))
theorem lL_235 : Cond.methodLink RL 235 yL_hearTable ∈ z_tbl := (z_w 1099 ((lwt_5_3 4).trans rfl) (by decide +kernel))
theorem lL_237 : Cond.methodLink RL 237 yX11_hearTable ∈ z_tbl := (z_w 1737 ((lwg_8 12).trans rfl) (by decide +kernel))
theorem lL_238 : Cond.methodLink RL 238 yL_replaceTable ∈ z_tbl := (z_w 1122 ((lwt_5_3 27).trans rfl) (by decide +kernel))
theorem lL_240 : Cond.methodLink RL 240 yX11_replaceTable ∈ z_tbl := (z_w 1787 ((lwt_8_2 2).trans rfl) (by decide +kernel))
theorem lL_241 : Cond.methodLink RL 241 yL_clear ∈ z_tbl := (z_w 1129 ((lwt_5_4 4).trans rfl) (by decide +kernel))
theorem lL_243 : Cond.methodLink RL 243 yX11_clear ∈ z_tbl := (z_w 1791 ((lwt_8_2 6).trans rfl) (by decide +kernel))
theorem lL_244 : Cond.methodLink RL 244 yL_hearSpan ∈ z_tbl := (z_w 1140 ((lwt_5_4 15).trans rfl) (by decide +kernel))
theorem lL_246 : Cond.methodLink RL 246 yX11_hearSpan ∈ z_tbl := (z_w 1799 ((lwt_8_2 14).trans rfl) (by decide +kernel))
theorem lL_247 : Cond.methodLink RL 247 yL_hearSteps ∈ z_tbl := (z_w 1174 ((lwt_5_5 19).trans rfl) (by decide +kernel))
theorem lL_250 : Cond.methodLink RL 250 yX11_hearSteps ∈ z_tbl := (z_w 1813 ((lwt_8_2 28).trans rfl) (by decide +kernel))
theorem lL_251 : Cond.methodLink RL 251 yL_takeStep ∈ z_tbl := (z_w 1181 ((lwt_5_5 26).trans rfl) (by decide +kernel))
theorem lL_253 : Cond.methodLink RL 253 yX11_takeStep ∈ z_tbl := (z_w 1817 ((lwt_8_3 2).trans rfl) (by decide +kernel))
theorem lL_254 : Cond.methodLink RL 254 yL_stop ∈ z_tbl := (z_w 1188 ((lwt_5_6 3).trans rfl) (by decide +kernel))
theorem lL_256 : Cond.methodLink RL 256 yX11_stop ∈ z_tbl := (z_w 1821 ((lwt_8_3 6).trans rfl) (by decide +kernel))
theorem lL_257 : Cond.methodLink RL 257 yL_forget ∈ z_tbl := (z_w 1196 ((lwt_5_6 11).trans rfl) (by decide +kernel))
theorem lL_259 : Cond.methodLink RL 259 yX11_forget ∈ z_tbl := (z_w 1826 ((lwt_8_3 11).trans rfl) (by decide +kernel))
theorem lL_260 : Cond.methodLink RL 260 yL_heard ∈ z_tbl := (z_w 1207 ((lwt_5_6 22).trans rfl) (by decide +kernel))
theorem lL_262 : Cond.methodLink RL 262 yX11_heard ∈ z_tbl := (z_w 1835 ((lwt_8_3 20).trans rfl) (by decide +kernel))
theorem lL_263 : Cond.methodLink RL 263 yL_heardText ∈ z_tbl := (z_w 1214 ((lwt_5_6 29).trans rfl) (by decide +kernel))
theorem lL_265 : Cond.methodLink RL 265 yX11_heardText ∈ z_tbl := (z_w 1843 ((lwt_8_3 28).trans rfl) (by decide +kernel))
abbrev mJ0_equals_9ea2d : z_M := (yJ0_equals_9ea2d, cJ0_equals_9ea2d, 3, (some .boolean), [])
theorem kJ0_equals_9ea2d : z_okm mJ0_equals_9ea2d 1 := ⟨rfl, (z_w 1968 ((lwg_9 3).trans rfl) (by decide +kernel)), (z_w 76 ((lwt_1_1 1).trans rfl) (by decide +kernel)), ncl_J0, pds_109, by decide⟩
theorem inJ0_equals_9ea2d : Cond.instanceMethod yJ0_equals_9ea2d ∈ z_tbl := (z_w 1966 ((lwg_9 1).trans rfl) (by decide +kernel))
theorem seJ0_equals_9ea2d : Cond.selects RJ0 yJ0_equals_9ea2d yJ0_equals_9ea2d ∈ z_tbl := (z_w 1967 ((lwg_9 2).trans rfl) (by decide +kernel))
theorem lL_266 : Cond.methodLink RL 266 yJ0_equals_9ea2d ∈ z_tbl := (z_w 1965 ((lwg_9 0).trans rfl) (by decide +kernel))
theorem lL_272 : Cond.methodLink RL 272 yL_length ∈ z_tbl := (z_w 1221 ((lwt_5_7 6).trans rfl) (by decide +kernel))
theorem lL_274 : Cond.methodLink RL 274 yX11_length ∈ z_tbl := (z_w 1867 ((lwt_8_4 22).trans rfl) (by decide +kernel))
theorem lL_275 : Cond.methodLink RL 275 yL_at ∈ z_tbl := (z_w 1228 ((lwt_5_7 13).trans rfl) (by decide +kernel))
theorem lL_277 : Cond.methodLink RL 277 yX11_at ∈ z_tbl := (z_w 1871 ((lwt_8_4 26).trans rfl) (by decide +kernel))
theorem lL_278 : Cond.methodLink RL 278 yL_rowText ∈ z_tbl := (z_w 1236 ((lwt_5_7 21).trans rfl) (by decide +kernel))
theorem lL_280 : Cond.methodLink RL 280 yX11_rowText ∈ z_tbl := (z_w 1875 ((lwt_8_5 0).trans rfl) (by decide +kernel))
theorem lL_281 : Cond.methodLink RL 281 yL_isFixed ∈ z_tbl := (z_w 1244 ((lwt_5_7 29).trans rfl) (by decide +kernel))
theorem lL_283 : Cond.methodLink RL 283 yX11_isFixed ∈ z_tbl := (z_w 1886 ((lwt_8_5 11).trans rfl) (by decide +kernel))
theorem lL_284 : Cond.methodLink RL 284 yL_counts ∈ z_tbl := (z_w 1251 ((lwg_6 6).trans rfl) (by decide +kernel))
theorem lL_286 : Cond.methodLink RL 286 yX11_counts ∈ z_tbl := (z_w 1890 ((lwt_8_5 15).trans rfl) (by decide +kernel))
theorem lL_287 : Cond.methodLink RL 287 yL_shelfCounts ∈ z_tbl := (z_w 1258 ((lwg_6 13).trans rfl) (by decide +kernel))
theorem lL_289 : Cond.methodLink RL 289 yX11_shelfCounts ∈ z_tbl := (z_w 1894 ((lwt_8_5 19).trans rfl) (by decide +kernel))
theorem lL_290 : Cond.methodLink RL 290 yX8_forgetCounts ∈ z_tbl := (z_w 212 ((lwt_1_5 17).trans rfl) (by decide +kernel))
theorem lL_293 : Cond.methodLink RL 293 yX11_forgetCounts ∈ z_tbl := (z_w 1898 ((lwt_8_5 23).trans rfl) (by decide +kernel))
theorem lL_294 : Cond.methodLink RL 294 yL_get ∈ z_tbl := (z_w 1265 ((lwg_6 20).trans rfl) (by decide +kernel))
theorem lL_296 : Cond.methodLink RL 296 yX11_get ∈ z_tbl := (z_w 1902 ((lwt_8_5 27).trans rfl) (by decide +kernel))
theorem lL_297 : Cond.methodLink RL 297 yL_getOr ∈ z_tbl := (z_w 1272 ((lwg_6 27).trans rfl) (by decide +kernel))
theorem lL_299 : Cond.methodLink RL 299 yX11_getOr ∈ z_tbl := (z_w 1906 ((lwt_8_6 1).trans rfl) (by decide +kernel))
theorem lL_300 : Cond.methodLink RL 300 yL_has ∈ z_tbl := (z_w 1279 ((lwt_6_1 4).trans rfl) (by decide +kernel))
theorem lL_302 : Cond.methodLink RL 302 yX11_has ∈ z_tbl := (z_w 1910 ((lwt_8_6 5).trans rfl) (by decide +kernel))
theorem lL_303 : Cond.methodLink RL 303 yL_size ∈ z_tbl := (z_w 1286 ((lwt_6_1 11).trans rfl) (by decide +kernel))
theorem lL_305 : Cond.methodLink RL 305 yX11_size ∈ z_tbl := (z_w 1914 ((lwt_8_6 9).trans rfl) (by decide +kernel))
theorem lL_306 : Cond.methodLink RL 306 yL_text ∈ z_tbl := (z_w 1293 ((lwt_6_1 18).trans rfl) (by decide +kernel))
theorem lL_308 : Cond.methodLink RL 308 yX11_text ∈ z_tbl := (z_w 1918 ((lwt_8_6 13).trans rfl) (by decide +kernel))
theorem lL_309 : Cond.methodLink RL 309 yL_areLike ∈ z_tbl := (z_w 1310 ((lwt_6_2 5).trans rfl) (by decide +kernel))
theorem lL_311 : Cond.methodLink RL 311 yX11_areLike ∈ z_tbl := (z_w 1923 ((lwt_8_6 18).trans rfl) (by decide +kernel))
theorem lL_312 : Cond.methodLink RL 312 yL_given ∈ z_tbl := (z_w 1317 ((lwt_6_2 12).trans rfl) (by decide +kernel))
theorem lL_314 : Cond.methodLink RL 314 yX11_given ∈ z_tbl := (z_w 1927 ((lwt_8_6 22).trans rfl) (by decide +kernel))
theorem lL_315 : Cond.methodLink RL 315 yL_tested ∈ z_tbl := (z_w 1324 ((lwt_6_2 19).trans rfl) (by decide +kernel))
theorem lL_317 : Cond.methodLink RL 317 yX11_tested ∈ z_tbl := (z_w 1931 ((lwt_8_6 26).trans rfl) (by decide +kernel))
theorem lL_318 : Cond.methodLink RL 318 yX8_knock ∈ z_tbl := (z_w 220 ((lwt_1_5 25).trans rfl) (by decide +kernel))
theorem lL_321 : Cond.methodLink RL 321 yX11_knock ∈ z_tbl := (z_w 1935 ((lwt_8_7 0).trans rfl) (by decide +kernel))
theorem lL_322 : Cond.methodLink RL 322 yL_house ∈ z_tbl := (z_w 1331 ((lwt_6_2 26).trans rfl) (by decide +kernel))
theorem lL_324 : Cond.methodLink RL 324 yX11_house ∈ z_tbl := (z_w 1939 ((lwt_8_7 4).trans rfl) (by decide +kernel))
theorem lL_325 : Cond.methodLink RL 325 yX8_isSound ∈ z_tbl := (z_w 224 ((lwt_1_5 29).trans rfl) (by decide +kernel))
theorem lL_329 : Cond.methodLink RL 329 yX11_isSound ∈ z_tbl := (z_w 1947 ((lwt_8_7 12).trans rfl) (by decide +kernel))
theorem lL_330 : Cond.methodLink RL 330 yX8_digest ∈ z_tbl := (z_w 446 ((lwt_2_5 11).trans rfl) (by decide +kernel))
theorem lL_334 : Cond.methodLink RL 334 yX11_digest ∈ z_tbl := (z_w 1955 ((lwt_8_7 20).trans rfl) (by decide +kernel))
-- call X9 1: ('"java/lang/Object"', '"<init>"', '"()V"')
-- call X10 3: ('"java/lang/Object"', '"<init>"', '"()V"')
-- call X11 12: ('"java/lang/Object"', '"<init>"', '"()V"')
abbrev mJ1_equals_b5fdf : z_M := (yJ1_equals_b5fdf, cJ1_equals_b5fdf, 3, (some .boolean), [])
theorem pds_126 : (parseMethodDescriptor "([B[B)Z").map (fun d => d.parameters.length) = some 2 := by decide +kernel
theorem kJ1_equals_b5fdf : z_okm mJ1_equals_b5fdf 2 := ⟨rfl, (z_w 1972 ((lwg_9 7).trans rfl) (by decide +kernel)), (z_w 78 ((lwt_1_1 3).trans rfl) (by decide +kernel)), ncl_J1, pds_126, by decide⟩
theorem stJ1_equals_b5fdf : Cond.static yJ1_equals_b5fdf ∈ z_tbl := (z_w 1971 ((lwg_9 6).trans rfl) (by decide +kernel))
theorem lJ0_541 : Cond.methodLink RJ0 541 yJ1_equals_b5fdf ∈ z_tbl := (z_w 1970 ((lwg_9 5).trans rfl) (by decide +kernel))
-- call J0 212: ('"java/lang/System"', '"arraycopy"', '"(Ljava/lang/Object;ILjava/lang/Object;II)V"')
-- call J0 1: ('"java/lang/Object"', '"<init>"', '"()V"')
end ZM6
section ZM7
section ZMt
variable {G : z_G} {l : Launch}
set_option maxRecDepth 100000 in
set_option maxHeartbeats 8000000 in
theorem cm_thrown (hl : l.stackTraces = false) (w : z_W) (s : z_Z)  (h : z_mst w s)  : z_Con G l mX11_thrown 10 0 0 w [.ref 1000] (fun v w9 => v = some (.int s.1.1) ∧ w9 = w) (fun _ _ => False) := by
  have ke0 : z_key s = z_key s := rfl
  refine z_body hl (by decide) rfl (Nat.le_of_ble_eq_true rfl) ?_
  show z_J G l mX11_thrown _ 0 [(0, _)] [] _ 0 0
  refine j_aload_n dX11_thrown_0 rfl rfl ?_
  refine j_getf dX11_thrown_1 fX11_48 h.m rfl ?_
  refine j_iret dX11_thrown_4 rfl rfl ?_ (Nat.le_of_ble_eq_true rfl) (Nat.le_of_ble_eq_true rfl)
  exact ⟨rfl, rfl⟩
end ZMt
end ZM7
section ZM8
section ZEq
variable {G : z_G} {l : Launch}
theorem j_instS {y : z_M} {S : z_S} {pc : Nat} {lo : List (Nat × Value)} {st : List Value} {w : z_W} {kc ks : Nat} {idx : Nat} {v : Value} {C : String} (hd : decode y.2.1 pc = .ok (.instanceof idx, 3)) (hl : Cond.classLink y.1.cls idx C ∈ z_tbl) (hi : z_is w v C) (h : z_J G l y S (pc + 3) lo (.int 1 :: st) w kc ks) : z_J G l y S pc lo (v :: st) w kc ks := by
  intro p e s m args below meth c R0 hok R H locs ls cst hat hlo hst
  obtain ⟨c1, cs1, rfl, hv, hst1⟩ := z_Lc hst
  obtain ⟨a, rfl⟩ := z_isR hv hi
  exact va_instE hok.1 hok.2.1 hok.2.2.2.2.2.1 (hok.2.2.2.2.2.2.1 _ hl) (z_isC hok hat hv hi) hd (h p e s m args below meth c R0 hok R H locs ls (.int 1 :: cs1) hat hlo ⟨rfl, hst1⟩)
set_option maxRecDepth 100000 in
set_option maxHeartbeats 4000000 in
theorem tq_lat (hl : l.stackTraces = false) (w : z_W) (m m2 : Nat) (f g : Nat → Value) (L : List Int32) (hL : L.length ≤ 5000) (gm : z_g w m = some (.inl (2, L.length, f))) (g2 : z_g w m2 = some (.inl (2, L.length, g))) (cf : z_ct f L) (cg : z_ct g L) : z_Con G l mJ1_equals_b5fdf 10 0 0 w [.ref m, .ref m2] (fun v w9 => v = some (.int 1) ∧ w9 = w) (fun _ _ => False) := by
  refine z_body hl (by decide) rfl (Nat.le_of_ble_eq_true rfl) ?_
  show z_J G l mJ1_equals_b5fdf _ 0 [(0, _), (1, _)] [] _ 0 0
  refine j_aload_n dJ1_equals_b5fdf_0 rfl rfl ?_
  refine j_alen dJ1_equals_b5fdf_1 gm rfl rfl ?_
  refine j_aload_n dJ1_equals_b5fdf_2 rfl rfl ?_
  refine j_alen dJ1_equals_b5fdf_3 g2 rfl rfl ?_
  refine j_icmp_ne (tgt := 34) dJ1_equals_b5fdf_4 (by decide) (fun c => absurd rfl c) (fun _ => ?_)
  refine j_iconst (v := 0) dJ1_equals_b5fdf_7 (by decide) ?_
  refine j_istore_n (lo' := [(2, _), (0, _), (1, _)]) dJ1_equals_b5fdf_8 (by decide) rfl ?_
  have loop9 : ∀ (n k : Nat), k ≤ L.length → L.length < k + n → z_J G l mJ1_equals_b5fdf (10, 0, 0, w, (fun v w9 => v = some (.int 1) ∧ w9 = w), (fun _ _ => False)) 9 [(0, .ref m), (1, .ref m2), (2, .int (nI k))] [] w 0 0 := by
    intro n
    induction n with
    | zero => intro k h1 h2; exact absurd h2 (by omega)
    | succ n ih =>
      intro k h1 h2
      refine j_iload_n dJ1_equals_b5fdf_9 rfl ?_
      refine j_aload_n dJ1_equals_b5fdf_10 rfl rfl ?_
      refine j_alen dJ1_equals_b5fdf_11 gm rfl rfl ?_
      refine j_icmp_ge (tgt := 32) dJ1_equals_b5fdf_12 (by decide) (fun c => ?_) (fun c => ?_)
      · refine j_iconst (v := 1) dJ1_equals_b5fdf_32 (by decide) ?_
        refine j_iret dJ1_equals_b5fdf_33 rfl rfl ?_ (Nat.le_of_ble_eq_true rfl) (Nat.le_of_ble_eq_true rfl)
        exact ⟨rfl, rfl⟩
      · have hk : k < L.length := Nat.not_le.mp (fun z => c ((nI_leI (a := L.length) (b := k) (by omega) (by omega)).mpr z))
        obtain ⟨x, hx⟩ : ∃ x, L[k]? = some x := ⟨_, List.getElem?_eq_getElem hk⟩
        refine j_aload_n dJ1_equals_b5fdf_15 rfl rfl ?_
        refine j_iload_n dJ1_equals_b5fdf_16 rfl ?_
        refine j_bald (v := .int x) dJ1_equals_b5fdf_17 gm (vp_in_nI hk (by omega)) (by rw [z_cla (by omega)]; exact cf k x hx) ?_
        refine j_aload_n dJ1_equals_b5fdf_18 rfl rfl ?_
        refine j_iload_n dJ1_equals_b5fdf_19 rfl ?_
        refine j_bald (v := .int x) dJ1_equals_b5fdf_20 g2 (vp_in_nI hk (by omega)) (by rw [z_cla (by omega)]; exact cg k x hx) ?_
        refine j_icmp_eq (tgt := 26) dJ1_equals_b5fdf_21 (by decide) (fun _ => ?_) (fun c => absurd rfl c)
        refine j_iinc (lo' := [(2, _), (0, _), (1, _)]) dJ1_equals_b5fdf_26 rfl (z_inc _) (by decide) rfl ?_
        refine j_goto (tgt := 9) dJ1_equals_b5fdf_29 (by decide) ?_
        exact j_lo2 (ih (k + 1) (by omega) (by omega)) (z_q1 rfl (z_q1 rfl (z_q1 rfl z_q0)))
  exact j_lo2 (loop9 (L.length + 1) 0 (Nat.zero_le _) (by omega)) (z_q1 rfl (z_q1 rfl (z_q1 rfl z_q0)))
set_option maxRecDepth 100000 in
set_option maxHeartbeats 4000000 in
theorem tq_eq (hl : l.stackTraces = false) (w : z_W) (r q : Nat) (L : List Int32) (h1 : z_txL w 61 r L) (h2 : z_txL w 57 q L) : z_Con G l mJ0_equals_9ea2d 12 0 0 w [.ref r, .ref q] (fun v w9 => v = some (.int 1) ∧ w9 = w) (fun _ _ => False) := by
  obtain ⟨a1, a2, b, f, a3, a4, a5, gr, gb, cf, -⟩ := h1
  obtain ⟨e1, e2, d, g, e3, e4, e5, gq, gd, cg, hL⟩ := h2
  refine z_body hl (by decide) rfl (Nat.le_of_ble_eq_true rfl) ?_
  show z_J G l mJ0_equals_9ea2d _ 0 [(0, _), (1, _)] [] _ 0 0
  refine j_aload_n dJ0_equals_9ea2d_0 rfl rfl ?_
  refine j_aload_n dJ0_equals_9ea2d_1 rfl rfl ?_
  refine j_acmp_ne (tgt := 7) dJ0_equals_9ea2d_2 (by decide) (fun _ => ?_) (fun c => absurd c (by omega))
  refine j_aload_n dJ0_equals_9ea2d_7 rfl rfl ?_
  refine j_instS dJ0_equals_9ea2d_8 (z_w 1969 ((lwg_9 4).trans rfl) (by decide +kernel)) (Or.inl ⟨_, _, gq, rfl, rfl⟩) ?_
  refine j_if_eq (tgt := 54) dJ0_equals_9ea2d_11 (by decide) (fun c => absurd c (by decide)) (fun _ => ?_)
  refine j_aload_n dJ0_equals_9ea2d_14 rfl rfl ?_
  refine j_castS dJ0_equals_9ea2d_15 (z_w 1969 ((lwg_9 4).trans rfl) (by decide +kernel)) (Or.inl ⟨_, _, gq, rfl, rfl⟩) ?_
  refine j_astore_n (lo' := [(2, _), (0, _), (1, _)]) dJ0_equals_9ea2d_18 rfl (by decide) rfl ?_
  refine j_gets dJ0_equals_9ea2d_19 (List.mem_of_getElem? (i := 0) rfl) rfl (z_w 787 ((lwg_4 22).trans rfl) (by decide +kernel)) ?_
  refine j_if_eq (tgt := 36) dJ0_equals_9ea2d_22 (by decide) (fun c => absurd c (by decide)) (fun _ => ?_)
  refine j_aload_n dJ0_equals_9ea2d_25 rfl rfl ?_
  refine j_getf dJ0_equals_9ea2d_26 fJ0_15 gr rfl ?_
  refine j_aload_n dJ0_equals_9ea2d_29 rfl rfl ?_
  refine j_getf dJ0_equals_9ea2d_30 fJ0_15 gq rfl ?_
  refine j_icmp_ne (tgt := 54) dJ0_equals_9ea2d_33 (by decide) (fun c => absurd rfl c) (fun _ => ?_)
  refine j_aload_n dJ0_equals_9ea2d_36 rfl rfl ?_
  refine j_getf dJ0_equals_9ea2d_37 fJ0_9 gr rfl ?_
  refine j_aload_n dJ0_equals_9ea2d_40 rfl rfl ?_
  refine j_getf dJ0_equals_9ea2d_41 fJ0_9 gq rfl ?_
  refine j_callS dJ0_equals_9ea2d_44 kJ1_equals_b5fdf lJ0_541 stJ1_equals_b5fdf (tq_lat hl w b d f g L hL gb gd cf cg) (Nat.le_of_ble_eq_true rfl) ⟨(Nat.le_of_ble_eq_true rfl), (Nat.le_of_ble_eq_true rfl)⟩ rfl (Nat.le_of_ble_eq_true rfl) rfl rfl (fun _ _ h => h.elim) ?_
  rintro _ _ ⟨rfl, hw⟩
  refine j_w w hw ?_
  refine j_if_eq (tgt := 54) dJ0_equals_9ea2d_47 (by decide) (fun c => absurd c (by decide)) (fun _ => ?_)
  refine j_iconst (v := 1) dJ0_equals_9ea2d_50 (by decide) ?_
  refine j_goto (tgt := 55) dJ0_equals_9ea2d_51 (by decide) ?_
  refine j_iret dJ0_equals_9ea2d_55 rfl rfl ?_ (Nat.le_of_ble_eq_true rfl) (Nat.le_of_ble_eq_true rfl)
  exact ⟨rfl, rfl⟩
end ZEq
end ZM8
