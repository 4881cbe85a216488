/-! the law: a call -/
theorem lcs_0 {t : Nat} {u : Option Nat} {I : AI} {L : AL} {B j Ln : Nat} {Q : PQ} (h : INV t u I L B) (hB : B < 2 ^ 30) (hL : I 1001 0 = nI Ln) (hj : 7 * j + 7 ≤ Ln) (hl : Ln ≤ 3584) (hn : ∀ t2 u2 I2 L2, INV t2 u2 I2 L2 (B + 5) → I2 1000 = I 1000 → I2 1001 = I 1001 → V 271 18 [.ref 1000, .ref 0, .ref 70, .int (nI (7 * (j + 1)))] [] 123 I2 L2 (RX t2 u2) Q) : V 271 188 [.ref 1000, .ref 0, .ref 70, .int (nI (7 * j))] [] 123 I L (RX t u) Q := by
  have tg1 : tgX 123 1000 = 0 := rfl
  have l0 : lnX 123 I 1000 = Ln := by unfold lnX; rw [if_neg (by decide), if_pos rfl, hL]; exact nI_clamp (by omega)
  have e7 : 7 * j + 7 = 7 * (j + 1) := by omega
  have a1 : nI (7 * j) + 1 = nI (7 * j + 1) := nI_add _ _
  have x1 := inT (a := 7 * j + 1) (N := Ln) (by omega) (by omega)
  have c1 := nI_clamp (n := 7 * j + 1) (by omega)
  have a2 : nI (7 * j) + 2 = nI (7 * j + 2) := nI_add _ _
  have x2 := inT (a := 7 * j + 2) (N := Ln) (by omega) (by omega)
  have c2 := nI_clamp (n := 7 * j + 2) (by omega)
  have a3 : nI (7 * j) + 3 = nI (7 * j + 3) := nI_add _ _
  have x3 := inT (a := 7 * j + 3) (N := Ln) (by omega) (by omega)
  have c3 := nI_clamp (n := 7 * j + 3) (by omega)
  have a4 : nI (7 * j) + 4 = nI (7 * j + 4) := nI_add _ _
  have x4 := inT (a := 7 * j + 4) (N := Ln) (by omega) (by omega)
  have c4 := nI_clamp (n := 7 * j + 4) (by omega)
  have a5 : nI (7 * j) + 5 = nI (7 * j + 5) := nI_add _ _
  have x5 := inT (a := 7 * j + 5) (N := Ln) (by omega) (by omega)
  have c5 := nI_clamp (n := 7 * j + 5) (by omega)
  have a7 : nI (7 * j) + 7 = nI (7 * j + 7) := nI_add _ _
  obtain ⟨r, P, ⟨⟨v, rfl⟩, hx, hc⟩, hm⟩ := p_feed (x1 := I 1000 (7 * j + 1)) (x2 := I 1000 (7 * j + 2)) (x3 := I 1000 (7 * j + 3)) (x4 := I 1000 (7 * j + 4)) (x5 := I 1000 (7 * j + 5)) h
  simp (config := { decide := true, maxDischargeDepth := 20 }) only [↓reduceIte, KV_i, KV_v, wsm_0, wsm_i, wsm_l, wsm_r, dlV_i, dlV_r, dlV_l, dlV_j, cat_i, cat_l, cat_r, rf_s, true_and, and_true, and_self, if_true, if_false, ite_true, ite_false, eq_self, true_or, or_true, false_or, or_false, not_true_eq_false, not_false_eq_true, r271_188, r271_189, r271_190, r271_191, r271_192, r271_193, r271_194, r271_195, r271_196, r271_197, r271_198, r271_199, r271_200, r271_201, r271_202, r271_203, r271_204, r271_205, r271_206, r271_207, r271_208, r271_209, r271_210, r271_211, r271_212, r271_213, r271_214, r271_217, r271_218, r271_219, r271_220, r271_221, r271_222, r271_223, r271_224, r271_225, r271_226, r271_227, r271_228, r271_229, r271_230, r271_231, r271_232, r271_233, r271_234, r271_235, r271_236, r271_237, r271_238, r271_239, r271_240, r271_241, r271_242, r271_243, r271_246, r271_249, r271_250, ob_0, ob_70, tg1, l0, a1, x1, c1, a2, x2, c2, a3, x3, c3, a4, x4, c4, a5, x5, c5, a7]
  refine hc _ (fun I1 L1 t1 u1 hP => ?_)
  obtain ⟨e0, e1⟩ := hx I1 L1 t1 u1 hP
  have l1 : lnX 123 I1 1000 = Ln := by unfold lnX; rw [if_neg (by decide), if_pos rfl, e1, hL]; exact nI_clamp (by omega)
  simp (config := { decide := true, maxDischargeDepth := 20 }) only [↓reduceIte, KV_i, KV_v, wsm_0, wsm_i, wsm_l, wsm_r, dlV_i, dlV_r, dlV_l, dlV_j, cat_i, cat_l, cat_r, rf_s, true_and, and_true, and_self, if_true, if_false, ite_true, ite_false, eq_self, true_or, or_true, false_or, or_false, not_true_eq_false, not_false_eq_true, r271_188, r271_189, r271_190, r271_191, r271_192, r271_193, r271_194, r271_195, r271_196, r271_197, r271_198, r271_199, r271_200, r271_201, r271_202, r271_203, r271_204, r271_205, r271_206, r271_207, r271_208, r271_209, r271_210, r271_211, r271_212, r271_213, r271_214, r271_217, r271_218, r271_219, r271_220, r271_221, r271_222, r271_223, r271_224, r271_225, r271_226, r271_227, r271_228, r271_229, r271_230, r271_231, r271_232, r271_233, r271_234, r271_235, r271_236, r271_237, r271_238, r271_239, r271_240, r271_241, r271_242, r271_243, r271_246, r271_249, r271_250, ob_0, ob_70, tg1, l1, e0, a1, x1, c1, a2, x2, c2, a3, x3, c3, a4, x4, c4, a5, x5, c5, a7]
  refine hm I1 L1 t1 u1 hP _ (fun I2 L2 t2 u2 hI ha hb => ?_)
  simp (config := { decide := true, maxDischargeDepth := 20 }) only [↓reduceIte, KV_i, KV_v, wsm_0, wsm_i, wsm_l, wsm_r, dlV_i, dlV_r, dlV_l, dlV_j, cat_i, cat_l, cat_r, rf_s, true_and, and_true, and_self, if_true, if_false, ite_true, ite_false, eq_self, true_or, or_true, false_or, or_false, not_true_eq_false, not_false_eq_true, r271_188, r271_189, r271_190, r271_191, r271_192, r271_193, r271_194, r271_195, r271_196, r271_197, r271_198, r271_199, r271_200, r271_201, r271_202, r271_203, r271_204, r271_205, r271_206, r271_207, r271_208, r271_209, r271_210, r271_211, r271_212, r271_213, r271_214, r271_217, r271_218, r271_219, r271_220, r271_221, r271_222, r271_223, r271_224, r271_225, r271_226, r271_227, r271_228, r271_229, r271_230, r271_231, r271_232, r271_233, r271_234, r271_235, r271_236, r271_237, r271_238, r271_239, r271_240, r271_241, r271_242, r271_243, r271_246, r271_249, r271_250, r271_1435, r271_1438, a7, e7]
  exact hn t2 u2 I2 L2 hI ha hb
theorem lcs_1 {t : Nat} {u : Option Nat} {I : AI} {L : AL} {B j Ln : Nat} {Q : PQ} (h : INV t u I L B) (hB : B < 2 ^ 30) (hL : I 1001 0 = nI Ln) (hj : 7 * j + 7 ≤ Ln) (hl : Ln ≤ 3584) (hn : ∀ t2 u2 I2 L2, INV t2 u2 I2 L2 (B + 5) → I2 1000 = I 1000 → I2 1001 = I 1001 → V 271 18 [.ref 1000, .ref 0, .ref 70, .int (nI (7 * (j + 1)))] [] 123 I2 L2 (RX t2 u2) Q) : V 271 251 [.ref 1000, .ref 0, .ref 70, .int (nI (7 * j))] [] 123 I L (RX t u) Q := by
  have tg1 : tgX 123 1000 = 0 := rfl
  have l0 : lnX 123 I 1000 = Ln := by unfold lnX; rw [if_neg (by decide), if_pos rfl, hL]; exact nI_clamp (by omega)
  have e7 : 7 * j + 7 = 7 * (j + 1) := by omega
  have a1 : nI (7 * j) + 1 = nI (7 * j + 1) := nI_add _ _
  have x1 := inT (a := 7 * j + 1) (N := Ln) (by omega) (by omega)
  have c1 := nI_clamp (n := 7 * j + 1) (by omega)
  have a7 : nI (7 * j) + 7 = nI (7 * j + 7) := nI_add _ _
  obtain ⟨r, P, ⟨⟨v, rfl⟩, hx, hc⟩, hm⟩ := p_back (x := I 1000 (7 * j + 1)) h
  simp (config := { decide := true, maxDischargeDepth := 20 }) only [↓reduceIte, KV_i, KV_v, wsm_0, wsm_i, wsm_l, wsm_r, dlV_i, dlV_r, dlV_l, dlV_j, cat_i, cat_l, cat_r, rf_s, true_and, and_true, and_self, if_true, if_false, ite_true, ite_false, eq_self, true_or, or_true, false_or, or_false, not_true_eq_false, not_false_eq_true, r271_251, r271_252, r271_253, r271_254, r271_255, r271_256, r271_257, r271_260, r271_261, r271_262, r271_263, r271_264, r271_265, r271_266, r271_269, r271_272, r271_273, ob_0, ob_70, tg1, l0, a1, x1, c1, a7]
  refine hc _ (fun I1 L1 t1 u1 hP => ?_)
  obtain ⟨e0, e1⟩ := hx I1 L1 t1 u1 hP
  have l1 : lnX 123 I1 1000 = Ln := by unfold lnX; rw [if_neg (by decide), if_pos rfl, e1, hL]; exact nI_clamp (by omega)
  simp (config := { decide := true, maxDischargeDepth := 20 }) only [↓reduceIte, KV_i, KV_v, wsm_0, wsm_i, wsm_l, wsm_r, dlV_i, dlV_r, dlV_l, dlV_j, cat_i, cat_l, cat_r, rf_s, true_and, and_true, and_self, if_true, if_false, ite_true, ite_false, eq_self, true_or, or_true, false_or, or_false, not_true_eq_false, not_false_eq_true, r271_251, r271_252, r271_253, r271_254, r271_255, r271_256, r271_257, r271_260, r271_261, r271_262, r271_263, r271_264, r271_265, r271_266, r271_269, r271_272, r271_273, ob_0, ob_70, tg1, l1, e0, a1, x1, c1, a7]
  refine hm I1 L1 t1 u1 hP _ (fun I2 L2 t2 u2 hI ha hb => ?_)
  simp (config := { decide := true, maxDischargeDepth := 20 }) only [↓reduceIte, KV_i, KV_v, wsm_0, wsm_i, wsm_l, wsm_r, dlV_i, dlV_r, dlV_l, dlV_j, cat_i, cat_l, cat_r, rf_s, true_and, and_true, and_self, if_true, if_false, ite_true, ite_false, eq_self, true_or, or_true, false_or, or_false, not_true_eq_false, not_false_eq_true, r271_251, r271_252, r271_253, r271_254, r271_255, r271_256, r271_257, r271_260, r271_261, r271_262, r271_263, r271_264, r271_265, r271_266, r271_269, r271_272, r271_273, r271_1435, r271_1438, a7, e7]
  exact hn t2 u2 I2 L2 hI ha hb
theorem lcs_2 {t : Nat} {u : Option Nat} {I : AI} {L : AL} {B j Ln : Nat} {Q : PQ} (h : INV t u I L B) (hB : B < 2 ^ 30) (hL : I 1001 0 = nI Ln) (hj : 7 * j + 7 ≤ Ln) (hl : Ln ≤ 3584) (hn : ∀ t2 u2 I2 L2, INV t2 u2 I2 L2 (B + 5) → I2 1000 = I 1000 → I2 1001 = I 1001 → V 271 18 [.ref 1000, .ref 0, .ref 70, .int (nI (7 * (j + 1)))] [] 123 I2 L2 (RX t2 u2) Q) : V 271 274 [.ref 1000, .ref 0, .ref 70, .int (nI (7 * j))] [] 123 I L (RX t u) Q := by
  have tg1 : tgX 123 1000 = 0 := rfl
  have l0 : lnX 123 I 1000 = Ln := by unfold lnX; rw [if_neg (by decide), if_pos rfl, hL]; exact nI_clamp (by omega)
  have e7 : 7 * j + 7 = 7 * (j + 1) := by omega
  have a7 : nI (7 * j) + 7 = nI (7 * j + 7) := nI_add _ _
  obtain ⟨r, P, ⟨⟨v, rfl⟩, hx, hc⟩, hm⟩ := p_read  h
  simp (config := { decide := true, maxDischargeDepth := 20 }) only [↓reduceIte, KV_i, KV_v, wsm_0, wsm_i, wsm_l, wsm_r, dlV_i, dlV_r, dlV_l, dlV_j, cat_i, cat_l, cat_r, rf_s, true_and, and_true, and_self, if_true, if_false, ite_true, ite_false, eq_self, true_or, or_true, false_or, or_false, not_true_eq_false, not_false_eq_true, r271_274, r271_275, r271_278, r271_279, r271_282, r271_285, r271_286, ob_0, ob_70, tg1, l0, a7]
  refine hc _ (fun I1 L1 t1 u1 hP => ?_)
  obtain ⟨e0, e1⟩ := hx I1 L1 t1 u1 hP
  have l1 : lnX 123 I1 1000 = Ln := by unfold lnX; rw [if_neg (by decide), if_pos rfl, e1, hL]; exact nI_clamp (by omega)
  simp (config := { decide := true, maxDischargeDepth := 20 }) only [↓reduceIte, KV_i, KV_v, wsm_0, wsm_i, wsm_l, wsm_r, dlV_i, dlV_r, dlV_l, dlV_j, cat_i, cat_l, cat_r, rf_s, true_and, and_true, and_self, if_true, if_false, ite_true, ite_false, eq_self, true_or, or_true, false_or, or_false, not_true_eq_false, not_false_eq_true, r271_274, r271_275, r271_278, r271_279, r271_282, r271_285, r271_286, ob_0, ob_70, tg1, l1, e0, a7]
  refine hm I1 L1 t1 u1 hP _ (fun I2 L2 t2 u2 hI ha hb => ?_)
  simp (config := { decide := true, maxDischargeDepth := 20 }) only [↓reduceIte, KV_i, KV_v, wsm_0, wsm_i, wsm_l, wsm_r, dlV_i, dlV_r, dlV_l, dlV_j, cat_i, cat_l, cat_r, rf_s, true_and, and_true, and_self, if_true, if_false, ite_true, ite_false, eq_self, true_or, or_true, false_or, or_false, not_true_eq_false, not_false_eq_true, r271_274, r271_275, r271_278, r271_279, r271_282, r271_285, r271_286, r271_1435, r271_1438, a7, e7]
  exact hn t2 u2 I2 L2 hI ha hb
theorem lcs_3 {t : Nat} {u : Option Nat} {I : AI} {L : AL} {B j Ln : Nat} {Q : PQ} (h : INV t u I L B) (hB : B < 2 ^ 30) (hL : I 1001 0 = nI Ln) (hj : 7 * j + 7 ≤ Ln) (hl : Ln ≤ 3584) (hn : ∀ t2 u2 I2 L2, INV t2 u2 I2 L2 (B + 5) → I2 1000 = I 1000 → I2 1001 = I 1001 → V 271 18 [.ref 1000, .ref 0, .ref 70, .int (nI (7 * (j + 1)))] [] 123 I2 L2 (RX t2 u2) Q) : V 271 287 [.ref 1000, .ref 0, .ref 70, .int (nI (7 * j))] [] 123 I L (RX t u) Q := by
  have tg1 : tgX 123 1000 = 0 := rfl
  have l0 : lnX 123 I 1000 = Ln := by unfold lnX; rw [if_neg (by decide), if_pos rfl, hL]; exact nI_clamp (by omega)
  have e7 : 7 * j + 7 = 7 * (j + 1) := by omega
  have a7 : nI (7 * j) + 7 = nI (7 * j + 7) := nI_add _ _
  obtain ⟨r, P, ⟨⟨v, rfl⟩, hx, hc⟩, hm⟩ := p_place  h
  simp (config := { decide := true, maxDischargeDepth := 20 }) only [↓reduceIte, KV_i, KV_v, wsm_0, wsm_i, wsm_l, wsm_r, dlV_i, dlV_r, dlV_l, dlV_j, cat_i, cat_l, cat_r, rf_s, true_and, and_true, and_self, if_true, if_false, ite_true, ite_false, eq_self, true_or, or_true, false_or, or_false, not_true_eq_false, not_false_eq_true, r271_287, r271_288, r271_291, r271_292, r271_295, r271_298, r271_299, ob_0, ob_70, tg1, l0, a7]
  refine hc _ (fun I1 L1 t1 u1 hP => ?_)
  obtain ⟨e0, e1⟩ := hx I1 L1 t1 u1 hP
  have l1 : lnX 123 I1 1000 = Ln := by unfold lnX; rw [if_neg (by decide), if_pos rfl, e1, hL]; exact nI_clamp (by omega)
  simp (config := { decide := true, maxDischargeDepth := 20 }) only [↓reduceIte, KV_i, KV_v, wsm_0, wsm_i, wsm_l, wsm_r, dlV_i, dlV_r, dlV_l, dlV_j, cat_i, cat_l, cat_r, rf_s, true_and, and_true, and_self, if_true, if_false, ite_true, ite_false, eq_self, true_or, or_true, false_or, or_false, not_true_eq_false, not_false_eq_true, r271_287, r271_288, r271_291, r271_292, r271_295, r271_298, r271_299, ob_0, ob_70, tg1, l1, e0, a7]
  refine hm I1 L1 t1 u1 hP _ (fun I2 L2 t2 u2 hI ha hb => ?_)
  simp (config := { decide := true, maxDischargeDepth := 20 }) only [↓reduceIte, KV_i, KV_v, wsm_0, wsm_i, wsm_l, wsm_r, dlV_i, dlV_r, dlV_l, dlV_j, cat_i, cat_l, cat_r, rf_s, true_and, and_true, and_self, if_true, if_false, ite_true, ite_false, eq_self, true_or, or_true, false_or, or_false, not_true_eq_false, not_false_eq_true, r271_287, r271_288, r271_291, r271_292, r271_295, r271_298, r271_299, r271_1435, r271_1438, a7, e7]
  exact hn t2 u2 I2 L2 hI ha hb
theorem lcs_4 {t : Nat} {u : Option Nat} {I : AI} {L : AL} {B j Ln : Nat} {Q : PQ} (h : INV t u I L B) (hB : B < 2 ^ 30) (hL : I 1001 0 = nI Ln) (hj : 7 * j + 7 ≤ Ln) (hl : Ln ≤ 3584) (hn : ∀ t2 u2 I2 L2, INV t2 u2 I2 L2 (B + 5) → I2 1000 = I 1000 → I2 1001 = I 1001 → V 271 18 [.ref 1000, .ref 0, .ref 70, .int (nI (7 * (j + 1)))] [] 123 I2 L2 (RX t2 u2) Q) : V 271 300 [.ref 1000, .ref 0, .ref 70, .int (nI (7 * j))] [] 123 I L (RX t u) Q := by
  have tg1 : tgX 123 1000 = 0 := rfl
  have l0 : lnX 123 I 1000 = Ln := by unfold lnX; rw [if_neg (by decide), if_pos rfl, hL]; exact nI_clamp (by omega)
  have e7 : 7 * j + 7 = 7 * (j + 1) := by omega
  have a1 : nI (7 * j) + 1 = nI (7 * j + 1) := nI_add _ _
  have x1 := inT (a := 7 * j + 1) (N := Ln) (by omega) (by omega)
  have c1 := nI_clamp (n := 7 * j + 1) (by omega)
  have a2 : nI (7 * j) + 2 = nI (7 * j + 2) := nI_add _ _
  have x2 := inT (a := 7 * j + 2) (N := Ln) (by omega) (by omega)
  have c2 := nI_clamp (n := 7 * j + 2) (by omega)
  have a7 : nI (7 * j) + 7 = nI (7 * j + 7) := nI_add _ _
  obtain ⟨r, P, ⟨⟨v, rfl⟩, hx, hc⟩, hm⟩ := p_position (p := I 1000 (7 * j + 1)) (w := I 1000 (7 * j + 2)) h
  simp (config := { decide := true, maxDischargeDepth := 20 }) only [↓reduceIte, KV_i, KV_v, wsm_0, wsm_i, wsm_l, wsm_r, dlV_i, dlV_r, dlV_l, dlV_j, cat_i, cat_l, cat_r, rf_s, true_and, and_true, and_self, if_true, if_false, ite_true, ite_false, eq_self, true_or, or_true, false_or, or_false, not_true_eq_false, not_false_eq_true, r271_300, r271_301, r271_302, r271_303, r271_304, r271_305, r271_306, r271_307, r271_308, r271_309, r271_310, r271_311, r271_314, r271_315, r271_316, r271_317, r271_318, r271_319, r271_320, r271_321, r271_322, r271_323, r271_324, r271_325, r271_328, r271_331, r271_332, ob_0, ob_70, tg1, l0, a1, x1, c1, a2, x2, c2, a7]
  refine hc _ (fun I1 L1 t1 u1 hP => ?_)
  obtain ⟨e0, e1⟩ := hx I1 L1 t1 u1 hP
  have l1 : lnX 123 I1 1000 = Ln := by unfold lnX; rw [if_neg (by decide), if_pos rfl, e1, hL]; exact nI_clamp (by omega)
  simp (config := { decide := true, maxDischargeDepth := 20 }) only [↓reduceIte, KV_i, KV_v, wsm_0, wsm_i, wsm_l, wsm_r, dlV_i, dlV_r, dlV_l, dlV_j, cat_i, cat_l, cat_r, rf_s, true_and, and_true, and_self, if_true, if_false, ite_true, ite_false, eq_self, true_or, or_true, false_or, or_false, not_true_eq_false, not_false_eq_true, r271_300, r271_301, r271_302, r271_303, r271_304, r271_305, r271_306, r271_307, r271_308, r271_309, r271_310, r271_311, r271_314, r271_315, r271_316, r271_317, r271_318, r271_319, r271_320, r271_321, r271_322, r271_323, r271_324, r271_325, r271_328, r271_331, r271_332, ob_0, ob_70, tg1, l1, e0, a1, x1, c1, a2, x2, c2, a7]
  refine hm I1 L1 t1 u1 hP _ (fun I2 L2 t2 u2 hI ha hb => ?_)
  simp (config := { decide := true, maxDischargeDepth := 20 }) only [↓reduceIte, KV_i, KV_v, wsm_0, wsm_i, wsm_l, wsm_r, dlV_i, dlV_r, dlV_l, dlV_j, cat_i, cat_l, cat_r, rf_s, true_and, and_true, and_self, if_true, if_false, ite_true, ite_false, eq_self, true_or, or_true, false_or, or_false, not_true_eq_false, not_false_eq_true, r271_300, r271_301, r271_302, r271_303, r271_304, r271_305, r271_306, r271_307, r271_308, r271_309, r271_310, r271_311, r271_314, r271_315, r271_316, r271_317, r271_318, r271_319, r271_320, r271_321, r271_322, r271_323, r271_324, r271_325, r271_328, r271_331, r271_332, r271_1435, r271_1438, a7, e7]
  exact hn t2 u2 I2 L2 hI ha hb
theorem lcs_5 {t : Nat} {u : Option Nat} {I : AI} {L : AL} {B j Ln : Nat} {Q : PQ} (h : INV t u I L B) (hB : B < 2 ^ 30) (hL : I 1001 0 = nI Ln) (hj : 7 * j + 7 ≤ Ln) (hl : Ln ≤ 3584) (hn : ∀ t2 u2 I2 L2, INV t2 u2 I2 L2 (B + 5) → I2 1000 = I 1000 → I2 1001 = I 1001 → V 271 18 [.ref 1000, .ref 0, .ref 70, .int (nI (7 * (j + 1)))] [] 123 I2 L2 (RX t2 u2) Q) : V 271 333 [.ref 1000, .ref 0, .ref 70, .int (nI (7 * j))] [] 123 I L (RX t u) Q := by
  have tg1 : tgX 123 1000 = 0 := rfl
  have l0 : lnX 123 I 1000 = Ln := by unfold lnX; rw [if_neg (by decide), if_pos rfl, hL]; exact nI_clamp (by omega)
  have e7 : 7 * j + 7 = 7 * (j + 1) := by omega
  have a1 : nI (7 * j) + 1 = nI (7 * j + 1) := nI_add _ _
  have x1 := inT (a := 7 * j + 1) (N := Ln) (by omega) (by omega)
  have c1 := nI_clamp (n := 7 * j + 1) (by omega)
  have a2 : nI (7 * j) + 2 = nI (7 * j + 2) := nI_add _ _
  have x2 := inT (a := 7 * j + 2) (N := Ln) (by omega) (by omega)
  have c2 := nI_clamp (n := 7 * j + 2) (by omega)
  have a3 : nI (7 * j) + 3 = nI (7 * j + 3) := nI_add _ _
  have x3 := inT (a := 7 * j + 3) (N := Ln) (by omega) (by omega)
  have c3 := nI_clamp (n := 7 * j + 3) (by omega)
  have a7 : nI (7 * j) + 7 = nI (7 * j + 7) := nI_add _ _
  by_cases z : I 1000 (7 * j + 3) = 0
  · obtain ⟨r, P, ⟨⟨v, rfl⟩, hx, hc⟩, hm⟩ := p_move (p := I 1000 (7 * j + 1)) (m := I 1000 (7 * j + 2)) (w := 0) h
    simp (config := { decide := true, maxDischargeDepth := 20 }) only [↓reduceIte, KV_i, KV_v, wsm_0, wsm_i, wsm_l, wsm_r, dlV_i, dlV_r, dlV_l, dlV_j, cat_i, cat_l, cat_r, rf_s, true_and, and_true, and_self, if_true, if_false, ite_true, ite_false, eq_self, true_or, or_true, false_or, or_false, not_true_eq_false, not_false_eq_true, r271_333, r271_334, r271_335, r271_336, r271_337, r271_338, r271_339, r271_340, r271_341, r271_342, r271_343, r271_344, r271_345, r271_346, r271_347, r271_348, r271_349, r271_352, r271_353, r271_356, r271_357, r271_360, r271_361, r271_362, r271_363, r271_364, r271_365, r271_366, r271_367, r271_368, r271_369, r271_370, r271_371, r271_372, r271_373, r271_374, r271_375, r271_376, r271_379, r271_380, r271_383, r271_384, r271_387, r271_390, r271_391, ob_0, ob_70, tg1, l0, a1, x1, c1, a2, x2, c2, a3, x3, c3, a7, z]
    refine hc _ (fun I1 L1 t1 u1 hP => ?_)
    obtain ⟨e0, e1⟩ := hx I1 L1 t1 u1 hP
    have l1 : lnX 123 I1 1000 = Ln := by unfold lnX; rw [if_neg (by decide), if_pos rfl, e1, hL]; exact nI_clamp (by omega)
    simp (config := { decide := true, maxDischargeDepth := 20 }) only [↓reduceIte, KV_i, KV_v, wsm_0, wsm_i, wsm_l, wsm_r, dlV_i, dlV_r, dlV_l, dlV_j, cat_i, cat_l, cat_r, rf_s, true_and, and_true, and_self, if_true, if_false, ite_true, ite_false, eq_self, true_or, or_true, false_or, or_false, not_true_eq_false, not_false_eq_true, r271_333, r271_334, r271_335, r271_336, r271_337, r271_338, r271_339, r271_340, r271_341, r271_342, r271_343, r271_344, r271_345, r271_346, r271_347, r271_348, r271_349, r271_352, r271_353, r271_356, r271_357, r271_360, r271_361, r271_362, r271_363, r271_364, r271_365, r271_366, r271_367, r271_368, r271_369, r271_370, r271_371, r271_372, r271_373, r271_374, r271_375, r271_376, r271_379, r271_380, r271_383, r271_384, r271_387, r271_390, r271_391, ob_0, ob_70, tg1, l1, e0, a1, x1, c1, a2, x2, c2, a3, x3, c3, a7, z]
    refine hm I1 L1 t1 u1 hP _ (fun I2 L2 t2 u2 hI ha hb => ?_)
    simp (config := { decide := true, maxDischargeDepth := 20 }) only [↓reduceIte, KV_i, KV_v, wsm_0, wsm_i, wsm_l, wsm_r, dlV_i, dlV_r, dlV_l, dlV_j, cat_i, cat_l, cat_r, rf_s, true_and, and_true, and_self, if_true, if_false, ite_true, ite_false, eq_self, true_or, or_true, false_or, or_false, not_true_eq_false, not_false_eq_true, r271_333, r271_334, r271_335, r271_336, r271_337, r271_338, r271_339, r271_340, r271_341, r271_342, r271_343, r271_344, r271_345, r271_346, r271_347, r271_348, r271_349, r271_352, r271_353, r271_356, r271_357, r271_360, r271_361, r271_362, r271_363, r271_364, r271_365, r271_366, r271_367, r271_368, r271_369, r271_370, r271_371, r271_372, r271_373, r271_374, r271_375, r271_376, r271_379, r271_380, r271_383, r271_384, r271_387, r271_390, r271_391, r271_1435, r271_1438, a7, e7]
    exact hn t2 u2 I2 L2 hI ha hb
  · obtain ⟨r, P, ⟨⟨v, rfl⟩, hx, hc⟩, hm⟩ := p_move (p := I 1000 (7 * j + 1)) (m := I 1000 (7 * j + 2)) (w := 1) h
    simp (config := { decide := true, maxDischargeDepth := 20 }) only [↓reduceIte, KV_i, KV_v, wsm_0, wsm_i, wsm_l, wsm_r, dlV_i, dlV_r, dlV_l, dlV_j, cat_i, cat_l, cat_r, rf_s, true_and, and_true, and_self, if_true, if_false, ite_true, ite_false, eq_self, true_or, or_true, false_or, or_false, not_true_eq_false, not_false_eq_true, r271_333, r271_334, r271_335, r271_336, r271_337, r271_338, r271_339, r271_340, r271_341, r271_342, r271_343, r271_344, r271_345, r271_346, r271_347, r271_348, r271_349, r271_352, r271_353, r271_356, r271_357, r271_360, r271_361, r271_362, r271_363, r271_364, r271_365, r271_366, r271_367, r271_368, r271_369, r271_370, r271_371, r271_372, r271_373, r271_374, r271_375, r271_376, r271_379, r271_380, r271_383, r271_384, r271_387, r271_390, r271_391, ob_0, ob_70, tg1, l0, a1, x1, c1, a2, x2, c2, a3, x3, c3, a7, z]
    refine hc _ (fun I1 L1 t1 u1 hP => ?_)
    obtain ⟨e0, e1⟩ := hx I1 L1 t1 u1 hP
    have l1 : lnX 123 I1 1000 = Ln := by unfold lnX; rw [if_neg (by decide), if_pos rfl, e1, hL]; exact nI_clamp (by omega)
    simp (config := { decide := true, maxDischargeDepth := 20 }) only [↓reduceIte, KV_i, KV_v, wsm_0, wsm_i, wsm_l, wsm_r, dlV_i, dlV_r, dlV_l, dlV_j, cat_i, cat_l, cat_r, rf_s, true_and, and_true, and_self, if_true, if_false, ite_true, ite_false, eq_self, true_or, or_true, false_or, or_false, not_true_eq_false, not_false_eq_true, r271_333, r271_334, r271_335, r271_336, r271_337, r271_338, r271_339, r271_340, r271_341, r271_342, r271_343, r271_344, r271_345, r271_346, r271_347, r271_348, r271_349, r271_352, r271_353, r271_356, r271_357, r271_360, r271_361, r271_362, r271_363, r271_364, r271_365, r271_366, r271_367, r271_368, r271_369, r271_370, r271_371, r271_372, r271_373, r271_374, r271_375, r271_376, r271_379, r271_380, r271_383, r271_384, r271_387, r271_390, r271_391, ob_0, ob_70, tg1, l1, e0, a1, x1, c1, a2, x2, c2, a3, x3, c3, a7, z]
    refine hm I1 L1 t1 u1 hP _ (fun I2 L2 t2 u2 hI ha hb => ?_)
    simp (config := { decide := true, maxDischargeDepth := 20 }) only [↓reduceIte, KV_i, KV_v, wsm_0, wsm_i, wsm_l, wsm_r, dlV_i, dlV_r, dlV_l, dlV_j, cat_i, cat_l, cat_r, rf_s, true_and, and_true, and_self, if_true, if_false, ite_true, ite_false, eq_self, true_or, or_true, false_or, or_false, not_true_eq_false, not_false_eq_true, r271_333, r271_334, r271_335, r271_336, r271_337, r271_338, r271_339, r271_340, r271_341, r271_342, r271_343, r271_344, r271_345, r271_346, r271_347, r271_348, r271_349, r271_352, r271_353, r271_356, r271_357, r271_360, r271_361, r271_362, r271_363, r271_364, r271_365, r271_366, r271_367, r271_368, r271_369, r271_370, r271_371, r271_372, r271_373, r271_374, r271_375, r271_376, r271_379, r271_380, r271_383, r271_384, r271_387, r271_390, r271_391, r271_1435, r271_1438, a7, e7]
    exact hn t2 u2 I2 L2 hI ha hb
theorem lcs_6 {t : Nat} {u : Option Nat} {I : AI} {L : AL} {B j Ln : Nat} {Q : PQ} (h : INV t u I L B) (hB : B < 2 ^ 30) (hL : I 1001 0 = nI Ln) (hj : 7 * j + 7 ≤ Ln) (hl : Ln ≤ 3584) (hn : ∀ t2 u2 I2 L2, INV t2 u2 I2 L2 (B + 5) → I2 1000 = I 1000 → I2 1001 = I 1001 → V 271 18 [.ref 1000, .ref 0, .ref 70, .int (nI (7 * (j + 1)))] [] 123 I2 L2 (RX t2 u2) Q) : V 271 392 [.ref 1000, .ref 0, .ref 70, .int (nI (7 * j))] [] 123 I L (RX t u) Q := by
  have tg1 : tgX 123 1000 = 0 := rfl
  have l0 : lnX 123 I 1000 = Ln := by unfold lnX; rw [if_neg (by decide), if_pos rfl, hL]; exact nI_clamp (by omega)
  have e7 : 7 * j + 7 = 7 * (j + 1) := by omega
  have a1 : nI (7 * j) + 1 = nI (7 * j + 1) := nI_add _ _
  have x1 := inT (a := 7 * j + 1) (N := Ln) (by omega) (by omega)
  have c1 := nI_clamp (n := 7 * j + 1) (by omega)
  have a2 : nI (7 * j) + 2 = nI (7 * j + 2) := nI_add _ _
  have x2 := inT (a := 7 * j + 2) (N := Ln) (by omega) (by omega)
  have c2 := nI_clamp (n := 7 * j + 2) (by omega)
  have a7 : nI (7 * j) + 7 = nI (7 * j + 7) := nI_add _ _
  obtain ⟨r, P, ⟨⟨v, rfl⟩, hx, hc⟩, hm⟩ := p_man (a := I 1000 (7 * j + 1)) (w := I 1000 (7 * j + 2)) h
  simp (config := { decide := true, maxDischargeDepth := 20 }) only [↓reduceIte, KV_i, KV_v, wsm_0, wsm_i, wsm_l, wsm_r, dlV_i, dlV_r, dlV_l, dlV_j, cat_i, cat_l, cat_r, rf_s, true_and, and_true, and_self, if_true, if_false, ite_true, ite_false, eq_self, true_or, or_true, false_or, or_false, not_true_eq_false, not_false_eq_true, r271_392, r271_393, r271_394, r271_395, r271_396, r271_397, r271_398, r271_399, r271_400, r271_401, r271_402, r271_403, r271_406, r271_407, r271_408, r271_409, r271_410, r271_411, r271_412, r271_413, r271_414, r271_415, r271_416, r271_417, r271_420, r271_423, r271_424, ob_0, ob_70, tg1, l0, a1, x1, c1, a2, x2, c2, a7]
  refine hc _ (fun I1 L1 t1 u1 hP => ?_)
  obtain ⟨e0, e1⟩ := hx I1 L1 t1 u1 hP
  have l1 : lnX 123 I1 1000 = Ln := by unfold lnX; rw [if_neg (by decide), if_pos rfl, e1, hL]; exact nI_clamp (by omega)
  simp (config := { decide := true, maxDischargeDepth := 20 }) only [↓reduceIte, KV_i, KV_v, wsm_0, wsm_i, wsm_l, wsm_r, dlV_i, dlV_r, dlV_l, dlV_j, cat_i, cat_l, cat_r, rf_s, true_and, and_true, and_self, if_true, if_false, ite_true, ite_false, eq_self, true_or, or_true, false_or, or_false, not_true_eq_false, not_false_eq_true, r271_392, r271_393, r271_394, r271_395, r271_396, r271_397, r271_398, r271_399, r271_400, r271_401, r271_402, r271_403, r271_406, r271_407, r271_408, r271_409, r271_410, r271_411, r271_412, r271_413, r271_414, r271_415, r271_416, r271_417, r271_420, r271_423, r271_424, ob_0, ob_70, tg1, l1, e0, a1, x1, c1, a2, x2, c2, a7]
  refine hm I1 L1 t1 u1 hP _ (fun I2 L2 t2 u2 hI ha hb => ?_)
  simp (config := { decide := true, maxDischargeDepth := 20 }) only [↓reduceIte, KV_i, KV_v, wsm_0, wsm_i, wsm_l, wsm_r, dlV_i, dlV_r, dlV_l, dlV_j, cat_i, cat_l, cat_r, rf_s, true_and, and_true, and_self, if_true, if_false, ite_true, ite_false, eq_self, true_or, or_true, false_or, or_false, not_true_eq_false, not_false_eq_true, r271_392, r271_393, r271_394, r271_395, r271_396, r271_397, r271_398, r271_399, r271_400, r271_401, r271_402, r271_403, r271_406, r271_407, r271_408, r271_409, r271_410, r271_411, r271_412, r271_413, r271_414, r271_415, r271_416, r271_417, r271_420, r271_423, r271_424, r271_1435, r271_1438, a7, e7]
  exact hn t2 u2 I2 L2 hI ha hb
theorem lcs_7 {t : Nat} {u : Option Nat} {I : AI} {L : AL} {B j Ln : Nat} {Q : PQ} (h : INV t u I L B) (hB : B < 2 ^ 30) (hL : I 1001 0 = nI Ln) (hj : 7 * j + 7 ≤ Ln) (hl : Ln ≤ 3584) (hn : ∀ t2 u2 I2 L2, INV t2 u2 I2 L2 (B + 5) → I2 1000 = I 1000 → I2 1001 = I 1001 → V 271 18 [.ref 1000, .ref 0, .ref 70, .int (nI (7 * (j + 1)))] [] 123 I2 L2 (RX t2 u2) Q) : V 271 425 [.ref 1000, .ref 0, .ref 70, .int (nI (7 * j))] [] 123 I L (RX t u) Q := by
  have tg1 : tgX 123 1000 = 0 := rfl
  have l0 : lnX 123 I 1000 = Ln := by unfold lnX; rw [if_neg (by decide), if_pos rfl, hL]; exact nI_clamp (by omega)
  have e7 : 7 * j + 7 = 7 * (j + 1) := by omega
  have a1 : nI (7 * j) + 1 = nI (7 * j + 1) := nI_add _ _
  have x1 := inT (a := 7 * j + 1) (N := Ln) (by omega) (by omega)
  have c1 := nI_clamp (n := 7 * j + 1) (by omega)
  have a7 : nI (7 * j) + 7 = nI (7 * j + 7) := nI_add _ _
  obtain ⟨r, P, ⟨⟨v, rfl⟩, hx, hc⟩, hm⟩ := p_game (w := I 1000 (7 * j + 1)) h
  simp (config := { decide := true, maxDischargeDepth := 20 }) only [↓reduceIte, KV_i, KV_v, wsm_0, wsm_i, wsm_l, wsm_r, dlV_i, dlV_r, dlV_l, dlV_j, cat_i, cat_l, cat_r, rf_s, true_and, and_true, and_self, if_true, if_false, ite_true, ite_false, eq_self, true_or, or_true, false_or, or_false, not_true_eq_false, not_false_eq_true, r271_425, r271_426, r271_427, r271_428, r271_429, r271_430, r271_431, r271_434, r271_435, r271_436, r271_437, r271_438, r271_439, r271_440, r271_443, r271_446, r271_447, ob_0, ob_70, tg1, l0, a1, x1, c1, a7]
  refine hc _ (fun I1 L1 t1 u1 hP => ?_)
  obtain ⟨e0, e1⟩ := hx I1 L1 t1 u1 hP
  have l1 : lnX 123 I1 1000 = Ln := by unfold lnX; rw [if_neg (by decide), if_pos rfl, e1, hL]; exact nI_clamp (by omega)
  simp (config := { decide := true, maxDischargeDepth := 20 }) only [↓reduceIte, KV_i, KV_v, wsm_0, wsm_i, wsm_l, wsm_r, dlV_i, dlV_r, dlV_l, dlV_j, cat_i, cat_l, cat_r, rf_s, true_and, and_true, and_self, if_true, if_false, ite_true, ite_false, eq_self, true_or, or_true, false_or, or_false, not_true_eq_false, not_false_eq_true, r271_425, r271_426, r271_427, r271_428, r271_429, r271_430, r271_431, r271_434, r271_435, r271_436, r271_437, r271_438, r271_439, r271_440, r271_443, r271_446, r271_447, ob_0, ob_70, tg1, l1, e0, a1, x1, c1, a7]
  refine hm I1 L1 t1 u1 hP _ (fun I2 L2 t2 u2 hI ha hb => ?_)
  simp (config := { decide := true, maxDischargeDepth := 20 }) only [↓reduceIte, KV_i, KV_v, wsm_0, wsm_i, wsm_l, wsm_r, dlV_i, dlV_r, dlV_l, dlV_j, cat_i, cat_l, cat_r, rf_s, true_and, and_true, and_self, if_true, if_false, ite_true, ite_false, eq_self, true_or, or_true, false_or, or_false, not_true_eq_false, not_false_eq_true, r271_425, r271_426, r271_427, r271_428, r271_429, r271_430, r271_431, r271_434, r271_435, r271_436, r271_437, r271_438, r271_439, r271_440, r271_443, r271_446, r271_447, r271_1435, r271_1438, a7, e7]
  exact hn t2 u2 I2 L2 hI ha hb
theorem lcs_8 {t : Nat} {u : Option Nat} {I : AI} {L : AL} {B j Ln : Nat} {Q : PQ} (h : INV t u I L B) (hB : B < 2 ^ 30) (hL : I 1001 0 = nI Ln) (hj : 7 * j + 7 ≤ Ln) (hl : Ln ≤ 3584) (hn : ∀ t2 u2 I2 L2, INV t2 u2 I2 L2 (B + 5) → I2 1000 = I 1000 → I2 1001 = I 1001 → V 271 18 [.ref 1000, .ref 0, .ref 70, .int (nI (7 * (j + 1)))] [] 123 I2 L2 (RX t2 u2) Q) : V 271 448 [.ref 1000, .ref 0, .ref 70, .int (nI (7 * j))] [] 123 I L (RX t u) Q := by
  have tg1 : tgX 123 1000 = 0 := rfl
  have l0 : lnX 123 I 1000 = Ln := by unfold lnX; rw [if_neg (by decide), if_pos rfl, hL]; exact nI_clamp (by omega)
  have e7 : 7 * j + 7 = 7 * (j + 1) := by omega
  have a1 : nI (7 * j) + 1 = nI (7 * j + 1) := nI_add _ _
  have x1 := inT (a := 7 * j + 1) (N := Ln) (by omega) (by omega)
  have c1 := nI_clamp (n := 7 * j + 1) (by omega)
  have a2 : nI (7 * j) + 2 = nI (7 * j + 2) := nI_add _ _
  have x2 := inT (a := 7 * j + 2) (N := Ln) (by omega) (by omega)
  have c2 := nI_clamp (n := 7 * j + 2) (by omega)
  have a3 : nI (7 * j) + 3 = nI (7 * j + 3) := nI_add _ _
  have x3 := inT (a := 7 * j + 3) (N := Ln) (by omega) (by omega)
  have c3 := nI_clamp (n := 7 * j + 3) (by omega)
  have a4 : nI (7 * j) + 4 = nI (7 * j + 4) := nI_add _ _
  have x4 := inT (a := 7 * j + 4) (N := Ln) (by omega) (by omega)
  have c4 := nI_clamp (n := 7 * j + 4) (by omega)
  have a5 : nI (7 * j) + 5 = nI (7 * j + 5) := nI_add _ _
  have x5 := inT (a := 7 * j + 5) (N := Ln) (by omega) (by omega)
  have c5 := nI_clamp (n := 7 * j + 5) (by omega)
  have a7 : nI (7 * j) + 7 = nI (7 * j + 7) := nI_add _ _
  obtain ⟨r, P, ⟨⟨v, rfl⟩, hx, hc⟩, hm⟩ := p_begin (p := I 1000 (7 * j + 1)) (a := I 1000 (7 * j + 2)) (b := I 1000 (7 * j + 3)) (x := I 1000 (7 * j + 4)) (y := I 1000 (7 * j + 5)) h
  simp (config := { decide := true, maxDischargeDepth := 20 }) only [↓reduceIte, KV_i, KV_v, wsm_0, wsm_i, wsm_l, wsm_r, dlV_i, dlV_r, dlV_l, dlV_j, cat_i, cat_l, cat_r, rf_s, true_and, and_true, and_self, if_true, if_false, ite_true, ite_false, eq_self, true_or, or_true, false_or, or_false, not_true_eq_false, not_false_eq_true, r271_448, r271_449, r271_450, r271_451, r271_452, r271_453, r271_454, r271_455, r271_456, r271_457, r271_458, r271_459, r271_460, r271_461, r271_462, r271_463, r271_464, r271_465, r271_466, r271_467, r271_468, r271_469, r271_470, r271_471, r271_472, r271_473, r271_474, r271_477, r271_478, r271_479, r271_480, r271_481, r271_482, r271_483, r271_484, r271_485, r271_486, r271_487, r271_488, r271_489, r271_490, r271_491, r271_492, r271_493, r271_494, r271_495, r271_496, r271_497, r271_498, r271_499, r271_500, r271_501, r271_502, r271_503, r271_506, r271_509, r271_510, ob_0, ob_70, tg1, l0, a1, x1, c1, a2, x2, c2, a3, x3, c3, a4, x4, c4, a5, x5, c5, a7]
  refine hc _ (fun I1 L1 t1 u1 hP => ?_)
  obtain ⟨e0, e1⟩ := hx I1 L1 t1 u1 hP
  have l1 : lnX 123 I1 1000 = Ln := by unfold lnX; rw [if_neg (by decide), if_pos rfl, e1, hL]; exact nI_clamp (by omega)
  simp (config := { decide := true, maxDischargeDepth := 20 }) only [↓reduceIte, KV_i, KV_v, wsm_0, wsm_i, wsm_l, wsm_r, dlV_i, dlV_r, dlV_l, dlV_j, cat_i, cat_l, cat_r, rf_s, true_and, and_true, and_self, if_true, if_false, ite_true, ite_false, eq_self, true_or, or_true, false_or, or_false, not_true_eq_false, not_false_eq_true, r271_448, r271_449, r271_450, r271_451, r271_452, r271_453, r271_454, r271_455, r271_456, r271_457, r271_458, r271_459, r271_460, r271_461, r271_462, r271_463, r271_464, r271_465, r271_466, r271_467, r271_468, r271_469, r271_470, r271_471, r271_472, r271_473, r271_474, r271_477, r271_478, r271_479, r271_480, r271_481, r271_482, r271_483, r271_484, r271_485, r271_486, r271_487, r271_488, r271_489, r271_490, r271_491, r271_492, r271_493, r271_494, r271_495, r271_496, r271_497, r271_498, r271_499, r271_500, r271_501, r271_502, r271_503, r271_506, r271_509, r271_510, ob_0, ob_70, tg1, l1, e0, a1, x1, c1, a2, x2, c2, a3, x3, c3, a4, x4, c4, a5, x5, c5, a7]
  refine hm I1 L1 t1 u1 hP _ (fun I2 L2 t2 u2 hI ha hb => ?_)
  simp (config := { decide := true, maxDischargeDepth := 20 }) only [↓reduceIte, KV_i, KV_v, wsm_0, wsm_i, wsm_l, wsm_r, dlV_i, dlV_r, dlV_l, dlV_j, cat_i, cat_l, cat_r, rf_s, true_and, and_true, and_self, if_true, if_false, ite_true, ite_false, eq_self, true_or, or_true, false_or, or_false, not_true_eq_false, not_false_eq_true, r271_448, r271_449, r271_450, r271_451, r271_452, r271_453, r271_454, r271_455, r271_456, r271_457, r271_458, r271_459, r271_460, r271_461, r271_462, r271_463, r271_464, r271_465, r271_466, r271_467, r271_468, r271_469, r271_470, r271_471, r271_472, r271_473, r271_474, r271_477, r271_478, r271_479, r271_480, r271_481, r271_482, r271_483, r271_484, r271_485, r271_486, r271_487, r271_488, r271_489, r271_490, r271_491, r271_492, r271_493, r271_494, r271_495, r271_496, r271_497, r271_498, r271_499, r271_500, r271_501, r271_502, r271_503, r271_506, r271_509, r271_510, r271_1435, r271_1438, a7, e7]
  exact hn t2 u2 I2 L2 hI ha hb
theorem lcs_9 {t : Nat} {u : Option Nat} {I : AI} {L : AL} {B j Ln : Nat} {Q : PQ} (h : INV t u I L B) (hB : B < 2 ^ 30) (hL : I 1001 0 = nI Ln) (hj : 7 * j + 7 ≤ Ln) (hl : Ln ≤ 3584) (hn : ∀ t2 u2 I2 L2, INV t2 u2 I2 L2 (B + 5) → I2 1000 = I 1000 → I2 1001 = I 1001 → V 271 18 [.ref 1000, .ref 0, .ref 70, .int (nI (7 * (j + 1)))] [] 123 I2 L2 (RX t2 u2) Q) : V 271 511 [.ref 1000, .ref 0, .ref 70, .int (nI (7 * j))] [] 123 I L (RX t u) Q := by
  have tg1 : tgX 123 1000 = 0 := rfl
  have l0 : lnX 123 I 1000 = Ln := by unfold lnX; rw [if_neg (by decide), if_pos rfl, hL]; exact nI_clamp (by omega)
  have e7 : 7 * j + 7 = 7 * (j + 1) := by omega
  have a1 : nI (7 * j) + 1 = nI (7 * j + 1) := nI_add _ _
  have x1 := inT (a := 7 * j + 1) (N := Ln) (by omega) (by omega)
  have c1 := nI_clamp (n := 7 * j + 1) (by omega)
  have a7 : nI (7 * j) + 7 = nI (7 * j + 7) := nI_add _ _
  obtain ⟨r, P, ⟨⟨v, rfl⟩, hx, hc⟩, hm⟩ := p_steps (n := I 1000 (7 * j + 1)) h
  simp (config := { decide := true, maxDischargeDepth := 20 }) only [↓reduceIte, KV_i, KV_v, wsm_0, wsm_i, wsm_l, wsm_r, dlV_i, dlV_r, dlV_l, dlV_j, cat_i, cat_l, cat_r, rf_s, true_and, and_true, and_self, if_true, if_false, ite_true, ite_false, eq_self, true_or, or_true, false_or, or_false, not_true_eq_false, not_false_eq_true, r271_511, r271_512, r271_513, r271_514, r271_515, r271_516, r271_517, r271_520, r271_521, r271_522, r271_523, r271_524, r271_525, r271_526, r271_529, r271_532, r271_533, ob_0, ob_70, tg1, l0, a1, x1, c1, a7]
  refine hc _ (fun I1 L1 t1 u1 hP => ?_)
  obtain ⟨e0, e1⟩ := hx I1 L1 t1 u1 hP
  have l1 : lnX 123 I1 1000 = Ln := by unfold lnX; rw [if_neg (by decide), if_pos rfl, e1, hL]; exact nI_clamp (by omega)
  simp (config := { decide := true, maxDischargeDepth := 20 }) only [↓reduceIte, KV_i, KV_v, wsm_0, wsm_i, wsm_l, wsm_r, dlV_i, dlV_r, dlV_l, dlV_j, cat_i, cat_l, cat_r, rf_s, true_and, and_true, and_self, if_true, if_false, ite_true, ite_false, eq_self, true_or, or_true, false_or, or_false, not_true_eq_false, not_false_eq_true, r271_511, r271_512, r271_513, r271_514, r271_515, r271_516, r271_517, r271_520, r271_521, r271_522, r271_523, r271_524, r271_525, r271_526, r271_529, r271_532, r271_533, ob_0, ob_70, tg1, l1, e0, a1, x1, c1, a7]
  refine hm I1 L1 t1 u1 hP _ (fun I2 L2 t2 u2 hI ha hb => ?_)
  simp (config := { decide := true, maxDischargeDepth := 20 }) only [↓reduceIte, KV_i, KV_v, wsm_0, wsm_i, wsm_l, wsm_r, dlV_i, dlV_r, dlV_l, dlV_j, cat_i, cat_l, cat_r, rf_s, true_and, and_true, and_self, if_true, if_false, ite_true, ite_false, eq_self, true_or, or_true, false_or, or_false, not_true_eq_false, not_false_eq_true, r271_511, r271_512, r271_513, r271_514, r271_515, r271_516, r271_517, r271_520, r271_521, r271_522, r271_523, r271_524, r271_525, r271_526, r271_529, r271_532, r271_533, r271_1435, r271_1438, a7, e7]
  exact hn t2 u2 I2 L2 hI ha hb
theorem lcs_10 {t : Nat} {u : Option Nat} {I : AI} {L : AL} {B j Ln : Nat} {Q : PQ} (h : INV t u I L B) (hB : B < 2 ^ 30) (hL : I 1001 0 = nI Ln) (hj : 7 * j + 7 ≤ Ln) (hl : Ln ≤ 3584) (hn : ∀ t2 u2 I2 L2, INV t2 u2 I2 L2 (B + 5) → I2 1000 = I 1000 → I2 1001 = I 1001 → V 271 18 [.ref 1000, .ref 0, .ref 70, .int (nI (7 * (j + 1)))] [] 123 I2 L2 (RX t2 u2) Q) : V 271 534 [.ref 1000, .ref 0, .ref 70, .int (nI (7 * j))] [] 123 I L (RX t u) Q := by
  have tg1 : tgX 123 1000 = 0 := rfl
  have l0 : lnX 123 I 1000 = Ln := by unfold lnX; rw [if_neg (by decide), if_pos rfl, hL]; exact nI_clamp (by omega)
  have e7 : 7 * j + 7 = 7 * (j + 1) := by omega
  have a1 : nI (7 * j) + 1 = nI (7 * j + 1) := nI_add _ _
  have x1 := inT (a := 7 * j + 1) (N := Ln) (by omega) (by omega)
  have c1 := nI_clamp (n := 7 * j + 1) (by omega)
  have a7 : nI (7 * j) + 7 = nI (7 * j + 7) := nI_add _ _
  obtain ⟨r, P, ⟨⟨v, rfl⟩, hx, hc⟩, hm⟩ := p_make (m := I 1000 (7 * j + 1)) h
  simp (config := { decide := true, maxDischargeDepth := 20 }) only [↓reduceIte, KV_i, KV_v, wsm_0, wsm_i, wsm_l, wsm_r, dlV_i, dlV_r, dlV_l, dlV_j, cat_i, cat_l, cat_r, rf_s, true_and, and_true, and_self, if_true, if_false, ite_true, ite_false, eq_self, true_or, or_true, false_or, or_false, not_true_eq_false, not_false_eq_true, r271_534, r271_535, r271_536, r271_537, r271_538, r271_539, r271_540, r271_543, r271_544, r271_545, r271_546, r271_547, r271_548, r271_549, r271_552, r271_555, r271_556, ob_0, ob_70, tg1, l0, a1, x1, c1, a7]
  refine hc _ (fun I1 L1 t1 u1 hP => ?_)
  obtain ⟨e0, e1⟩ := hx I1 L1 t1 u1 hP
  have l1 : lnX 123 I1 1000 = Ln := by unfold lnX; rw [if_neg (by decide), if_pos rfl, e1, hL]; exact nI_clamp (by omega)
  simp (config := { decide := true, maxDischargeDepth := 20 }) only [↓reduceIte, KV_i, KV_v, wsm_0, wsm_i, wsm_l, wsm_r, dlV_i, dlV_r, dlV_l, dlV_j, cat_i, cat_l, cat_r, rf_s, true_and, and_true, and_self, if_true, if_false, ite_true, ite_false, eq_self, true_or, or_true, false_or, or_false, not_true_eq_false, not_false_eq_true, r271_534, r271_535, r271_536, r271_537, r271_538, r271_539, r271_540, r271_543, r271_544, r271_545, r271_546, r271_547, r271_548, r271_549, r271_552, r271_555, r271_556, ob_0, ob_70, tg1, l1, e0, a1, x1, c1, a7]
  refine hm I1 L1 t1 u1 hP _ (fun I2 L2 t2 u2 hI ha hb => ?_)
  simp (config := { decide := true, maxDischargeDepth := 20 }) only [↓reduceIte, KV_i, KV_v, wsm_0, wsm_i, wsm_l, wsm_r, dlV_i, dlV_r, dlV_l, dlV_j, cat_i, cat_l, cat_r, rf_s, true_and, and_true, and_self, if_true, if_false, ite_true, ite_false, eq_self, true_or, or_true, false_or, or_false, not_true_eq_false, not_false_eq_true, r271_534, r271_535, r271_536, r271_537, r271_538, r271_539, r271_540, r271_543, r271_544, r271_545, r271_546, r271_547, r271_548, r271_549, r271_552, r271_555, r271_556, r271_1435, r271_1438, a7, e7]
  exact hn t2 u2 I2 L2 hI ha hb
theorem lcs_11 {t : Nat} {u : Option Nat} {I : AI} {L : AL} {B j Ln : Nat} {Q : PQ} (h : INV t u I L B) (hB : B < 2 ^ 30) (hL : I 1001 0 = nI Ln) (hj : 7 * j + 7 ≤ Ln) (hl : Ln ≤ 3584) (hn : ∀ t2 u2 I2 L2, INV t2 u2 I2 L2 (B + 5) → I2 1000 = I 1000 → I2 1001 = I 1001 → V 271 18 [.ref 1000, .ref 0, .ref 70, .int (nI (7 * (j + 1)))] [] 123 I2 L2 (RX t2 u2) Q) : V 271 557 [.ref 1000, .ref 0, .ref 70, .int (nI (7 * j))] [] 123 I L (RX t u) Q := by
  have tg1 : tgX 123 1000 = 0 := rfl
  have l0 : lnX 123 I 1000 = Ln := by unfold lnX; rw [if_neg (by decide), if_pos rfl, hL]; exact nI_clamp (by omega)
  have e7 : 7 * j + 7 = 7 * (j + 1) := by omega
  have a1 : nI (7 * j) + 1 = nI (7 * j + 1) := nI_add _ _
  have x1 := inT (a := 7 * j + 1) (N := Ln) (by omega) (by omega)
  have c1 := nI_clamp (n := 7 * j + 1) (by omega)
  have a2 : nI (7 * j) + 2 = nI (7 * j + 2) := nI_add _ _
  have x2 := inT (a := 7 * j + 2) (N := Ln) (by omega) (by omega)
  have c2 := nI_clamp (n := 7 * j + 2) (by omega)
  have a7 : nI (7 * j) + 7 = nI (7 * j + 7) := nI_add _ _
  obtain ⟨r, P, ⟨⟨v, rfl⟩, hx, hc⟩, hm⟩ := p_learn (a := I 1000 (7 * j + 1)) (l := I 1000 (7 * j + 2)) h
  simp (config := { decide := true, maxDischargeDepth := 20 }) only [↓reduceIte, KV_i, KV_v, wsm_0, wsm_i, wsm_l, wsm_r, dlV_i, dlV_r, dlV_l, dlV_j, cat_i, cat_l, cat_r, rf_s, true_and, and_true, and_self, if_true, if_false, ite_true, ite_false, eq_self, true_or, or_true, false_or, or_false, not_true_eq_false, not_false_eq_true, r271_557, r271_558, r271_559, r271_560, r271_561, r271_562, r271_563, r271_564, r271_565, r271_566, r271_567, r271_568, r271_571, r271_572, r271_573, r271_574, r271_575, r271_576, r271_577, r271_578, r271_579, r271_580, r271_581, r271_582, r271_585, r271_588, r271_589, ob_0, ob_70, tg1, l0, a1, x1, c1, a2, x2, c2, a7]
  refine hc _ (fun I1 L1 t1 u1 hP => ?_)
  obtain ⟨e0, e1⟩ := hx I1 L1 t1 u1 hP
  have l1 : lnX 123 I1 1000 = Ln := by unfold lnX; rw [if_neg (by decide), if_pos rfl, e1, hL]; exact nI_clamp (by omega)
  simp (config := { decide := true, maxDischargeDepth := 20 }) only [↓reduceIte, KV_i, KV_v, wsm_0, wsm_i, wsm_l, wsm_r, dlV_i, dlV_r, dlV_l, dlV_j, cat_i, cat_l, cat_r, rf_s, true_and, and_true, and_self, if_true, if_false, ite_true, ite_false, eq_self, true_or, or_true, false_or, or_false, not_true_eq_false, not_false_eq_true, r271_557, r271_558, r271_559, r271_560, r271_561, r271_562, r271_563, r271_564, r271_565, r271_566, r271_567, r271_568, r271_571, r271_572, r271_573, r271_574, r271_575, r271_576, r271_577, r271_578, r271_579, r271_580, r271_581, r271_582, r271_585, r271_588, r271_589, ob_0, ob_70, tg1, l1, e0, a1, x1, c1, a2, x2, c2, a7]
  refine hm I1 L1 t1 u1 hP _ (fun I2 L2 t2 u2 hI ha hb => ?_)
  simp (config := { decide := true, maxDischargeDepth := 20 }) only [↓reduceIte, KV_i, KV_v, wsm_0, wsm_i, wsm_l, wsm_r, dlV_i, dlV_r, dlV_l, dlV_j, cat_i, cat_l, cat_r, rf_s, true_and, and_true, and_self, if_true, if_false, ite_true, ite_false, eq_self, true_or, or_true, false_or, or_false, not_true_eq_false, not_false_eq_true, r271_557, r271_558, r271_559, r271_560, r271_561, r271_562, r271_563, r271_564, r271_565, r271_566, r271_567, r271_568, r271_571, r271_572, r271_573, r271_574, r271_575, r271_576, r271_577, r271_578, r271_579, r271_580, r271_581, r271_582, r271_585, r271_588, r271_589, r271_1435, r271_1438, a7, e7]
  exact hn t2 u2 I2 L2 hI ha hb
theorem lcs_12 {t : Nat} {u : Option Nat} {I : AI} {L : AL} {B j Ln : Nat} {Q : PQ} (h : INV t u I L B) (hB : B < 2 ^ 30) (hL : I 1001 0 = nI Ln) (hj : 7 * j + 7 ≤ Ln) (hl : Ln ≤ 3584) (hn : ∀ t2 u2 I2 L2, INV t2 u2 I2 L2 (B + 5) → I2 1000 = I 1000 → I2 1001 = I 1001 → V 271 18 [.ref 1000, .ref 0, .ref 70, .int (nI (7 * (j + 1)))] [] 123 I2 L2 (RX t2 u2) Q) : V 271 590 [.ref 1000, .ref 0, .ref 70, .int (nI (7 * j))] [] 123 I L (RX t u) Q := by
  have tg1 : tgX 123 1000 = 0 := rfl
  have l0 : lnX 123 I 1000 = Ln := by unfold lnX; rw [if_neg (by decide), if_pos rfl, hL]; exact nI_clamp (by omega)
  have e7 : 7 * j + 7 = 7 * (j + 1) := by omega
  have a7 : nI (7 * j) + 7 = nI (7 * j + 7) := nI_add _ _
  obtain ⟨r, P, ⟨⟨v, rfl⟩, hx, hc⟩, hm⟩ := p_undo  h
  simp (config := { decide := true, maxDischargeDepth := 20 }) only [↓reduceIte, KV_i, KV_v, wsm_0, wsm_i, wsm_l, wsm_r, dlV_i, dlV_r, dlV_l, dlV_j, cat_i, cat_l, cat_r, rf_s, true_and, and_true, and_self, if_true, if_false, ite_true, ite_false, eq_self, true_or, or_true, false_or, or_false, not_true_eq_false, not_false_eq_true, r271_590, r271_591, r271_594, r271_595, r271_598, r271_601, r271_602, ob_0, ob_70, tg1, l0, a7]
  refine hc _ (fun I1 L1 t1 u1 hP => ?_)
  obtain ⟨e0, e1⟩ := hx I1 L1 t1 u1 hP
  have l1 : lnX 123 I1 1000 = Ln := by unfold lnX; rw [if_neg (by decide), if_pos rfl, e1, hL]; exact nI_clamp (by omega)
  simp (config := { decide := true, maxDischargeDepth := 20 }) only [↓reduceIte, KV_i, KV_v, wsm_0, wsm_i, wsm_l, wsm_r, dlV_i, dlV_r, dlV_l, dlV_j, cat_i, cat_l, cat_r, rf_s, true_and, and_true, and_self, if_true, if_false, ite_true, ite_false, eq_self, true_or, or_true, false_or, or_false, not_true_eq_false, not_false_eq_true, r271_590, r271_591, r271_594, r271_595, r271_598, r271_601, r271_602, ob_0, ob_70, tg1, l1, e0, a7]
  refine hm I1 L1 t1 u1 hP _ (fun I2 L2 t2 u2 hI ha hb => ?_)
  simp (config := { decide := true, maxDischargeDepth := 20 }) only [↓reduceIte, KV_i, KV_v, wsm_0, wsm_i, wsm_l, wsm_r, dlV_i, dlV_r, dlV_l, dlV_j, cat_i, cat_l, cat_r, rf_s, true_and, and_true, and_self, if_true, if_false, ite_true, ite_false, eq_self, true_or, or_true, false_or, or_false, not_true_eq_false, not_false_eq_true, r271_590, r271_591, r271_594, r271_595, r271_598, r271_601, r271_602, r271_1435, r271_1438, a7, e7]
  exact hn t2 u2 I2 L2 hI ha hb
theorem lcs_13 {t : Nat} {u : Option Nat} {I : AI} {L : AL} {B j Ln : Nat} {Q : PQ} (h : INV t u I L B) (hB : B < 2 ^ 30) (hL : I 1001 0 = nI Ln) (hj : 7 * j + 7 ≤ Ln) (hl : Ln ≤ 3584) (hn : ∀ t2 u2 I2 L2, INV t2 u2 I2 L2 (B + 5) → I2 1000 = I 1000 → I2 1001 = I 1001 → V 271 18 [.ref 1000, .ref 0, .ref 70, .int (nI (7 * (j + 1)))] [] 123 I2 L2 (RX t2 u2) Q) : V 271 603 [.ref 1000, .ref 0, .ref 70, .int (nI (7 * j))] [] 123 I L (RX t u) Q := by
  have tg1 : tgX 123 1000 = 0 := rfl
  have l0 : lnX 123 I 1000 = Ln := by unfold lnX; rw [if_neg (by decide), if_pos rfl, hL]; exact nI_clamp (by omega)
  have e7 : 7 * j + 7 = 7 * (j + 1) := by omega
  have a1 : nI (7 * j) + 1 = nI (7 * j + 1) := nI_add _ _
  have x1 := inT (a := 7 * j + 1) (N := Ln) (by omega) (by omega)
  have c1 := nI_clamp (n := 7 * j + 1) (by omega)
  have a2 : nI (7 * j) + 2 = nI (7 * j + 2) := nI_add _ _
  have x2 := inT (a := 7 * j + 2) (N := Ln) (by omega) (by omega)
  have c2 := nI_clamp (n := 7 * j + 2) (by omega)
  have a3 : nI (7 * j) + 3 = nI (7 * j + 3) := nI_add _ _
  have x3 := inT (a := 7 * j + 3) (N := Ln) (by omega) (by omega)
  have c3 := nI_clamp (n := 7 * j + 3) (by omega)
  have a7 : nI (7 * j) + 7 = nI (7 * j + 7) := nI_add _ _
  obtain ⟨r, P, ⟨⟨v, rfl⟩, hx, hc⟩, hm⟩ := p_want (p := I 1000 (7 * j + 1)) (a := I 1000 (7 * j + 2)) (b := I 1000 (7 * j + 3)) h
  simp (config := { decide := true, maxDischargeDepth := 20 }) only [↓reduceIte, KV_i, KV_v, wsm_0, wsm_i, wsm_l, wsm_r, dlV_i, dlV_r, dlV_l, dlV_j, cat_i, cat_l, cat_r, rf_s, true_and, and_true, and_self, if_true, if_false, ite_true, ite_false, eq_self, true_or, or_true, false_or, or_false, not_true_eq_false, not_false_eq_true, r271_603, r271_604, r271_605, r271_606, r271_607, r271_608, r271_609, r271_610, r271_611, r271_612, r271_613, r271_614, r271_615, r271_616, r271_617, r271_618, r271_619, r271_622, r271_623, r271_624, r271_625, r271_626, r271_627, r271_628, r271_629, r271_630, r271_631, r271_632, r271_633, r271_634, r271_635, r271_636, r271_637, r271_638, r271_641, r271_644, r271_645, ob_0, ob_70, tg1, l0, a1, x1, c1, a2, x2, c2, a3, x3, c3, a7]
  refine hc _ (fun I1 L1 t1 u1 hP => ?_)
  obtain ⟨e0, e1⟩ := hx I1 L1 t1 u1 hP
  have l1 : lnX 123 I1 1000 = Ln := by unfold lnX; rw [if_neg (by decide), if_pos rfl, e1, hL]; exact nI_clamp (by omega)
  simp (config := { decide := true, maxDischargeDepth := 20 }) only [↓reduceIte, KV_i, KV_v, wsm_0, wsm_i, wsm_l, wsm_r, dlV_i, dlV_r, dlV_l, dlV_j, cat_i, cat_l, cat_r, rf_s, true_and, and_true, and_self, if_true, if_false, ite_true, ite_false, eq_self, true_or, or_true, false_or, or_false, not_true_eq_false, not_false_eq_true, r271_603, r271_604, r271_605, r271_606, r271_607, r271_608, r271_609, r271_610, r271_611, r271_612, r271_613, r271_614, r271_615, r271_616, r271_617, r271_618, r271_619, r271_622, r271_623, r271_624, r271_625, r271_626, r271_627, r271_628, r271_629, r271_630, r271_631, r271_632, r271_633, r271_634, r271_635, r271_636, r271_637, r271_638, r271_641, r271_644, r271_645, ob_0, ob_70, tg1, l1, e0, a1, x1, c1, a2, x2, c2, a3, x3, c3, a7]
  refine hm I1 L1 t1 u1 hP _ (fun I2 L2 t2 u2 hI ha hb => ?_)
  simp (config := { decide := true, maxDischargeDepth := 20 }) only [↓reduceIte, KV_i, KV_v, wsm_0, wsm_i, wsm_l, wsm_r, dlV_i, dlV_r, dlV_l, dlV_j, cat_i, cat_l, cat_r, rf_s, true_and, and_true, and_self, if_true, if_false, ite_true, ite_false, eq_self, true_or, or_true, false_or, or_false, not_true_eq_false, not_false_eq_true, r271_603, r271_604, r271_605, r271_606, r271_607, r271_608, r271_609, r271_610, r271_611, r271_612, r271_613, r271_614, r271_615, r271_616, r271_617, r271_618, r271_619, r271_622, r271_623, r271_624, r271_625, r271_626, r271_627, r271_628, r271_629, r271_630, r271_631, r271_632, r271_633, r271_634, r271_635, r271_636, r271_637, r271_638, r271_641, r271_644, r271_645, r271_1435, r271_1438, a7, e7]
  exact hn t2 u2 I2 L2 hI ha hb
theorem lcs_14 {t : Nat} {u : Option Nat} {I : AI} {L : AL} {B j Ln : Nat} {Q : PQ} (h : INV t u I L B) (hB : B < 2 ^ 30) (hL : I 1001 0 = nI Ln) (hj : 7 * j + 7 ≤ Ln) (hl : Ln ≤ 3584) (hn : ∀ t2 u2 I2 L2, INV t2 u2 I2 L2 (B + 5) → I2 1000 = I 1000 → I2 1001 = I 1001 → V 271 18 [.ref 1000, .ref 0, .ref 70, .int (nI (7 * (j + 1)))] [] 123 I2 L2 (RX t2 u2) Q) : V 271 646 [.ref 1000, .ref 0, .ref 70, .int (nI (7 * j))] [] 123 I L (RX t u) Q := by
  have tg1 : tgX 123 1000 = 0 := rfl
  have l0 : lnX 123 I 1000 = Ln := by unfold lnX; rw [if_neg (by decide), if_pos rfl, hL]; exact nI_clamp (by omega)
  have e7 : 7 * j + 7 = 7 * (j + 1) := by omega
  have a1 : nI (7 * j) + 1 = nI (7 * j + 1) := nI_add _ _
  have x1 := inT (a := 7 * j + 1) (N := Ln) (by omega) (by omega)
  have c1 := nI_clamp (n := 7 * j + 1) (by omega)
  have a2 : nI (7 * j) + 2 = nI (7 * j + 2) := nI_add _ _
  have x2 := inT (a := 7 * j + 2) (N := Ln) (by omega) (by omega)
  have c2 := nI_clamp (n := 7 * j + 2) (by omega)
  have a3 : nI (7 * j) + 3 = nI (7 * j + 3) := nI_add _ _
  have x3 := inT (a := 7 * j + 3) (N := Ln) (by omega) (by omega)
  have c3 := nI_clamp (n := 7 * j + 3) (by omega)
  have a7 : nI (7 * j) + 7 = nI (7 * j + 7) := nI_add _ _
  obtain ⟨r, P, ⟨⟨v, rfl⟩, hx, hc⟩, hm⟩ := p_wants (p := I 1000 (7 * j + 1)) (a := I 1000 (7 * j + 2)) (b := I 1000 (7 * j + 3)) h
  simp (config := { decide := true, maxDischargeDepth := 20 }) only [↓reduceIte, KV_i, KV_v, wsm_0, wsm_i, wsm_l, wsm_r, dlV_i, dlV_r, dlV_l, dlV_j, cat_i, cat_l, cat_r, rf_s, true_and, and_true, and_self, if_true, if_false, ite_true, ite_false, eq_self, true_or, or_true, false_or, or_false, not_true_eq_false, not_false_eq_true, r271_646, r271_647, r271_648, r271_649, r271_650, r271_651, r271_652, r271_653, r271_654, r271_655, r271_656, r271_657, r271_658, r271_659, r271_660, r271_661, r271_662, r271_665, r271_666, r271_667, r271_668, r271_669, r271_670, r271_671, r271_672, r271_673, r271_674, r271_675, r271_676, r271_677, r271_678, r271_679, r271_680, r271_681, r271_684, r271_687, r271_688, ob_0, ob_70, tg1, l0, a1, x1, c1, a2, x2, c2, a3, x3, c3, a7]
  refine hc _ (fun I1 L1 t1 u1 hP => ?_)
  obtain ⟨e0, e1⟩ := hx I1 L1 t1 u1 hP
  have l1 : lnX 123 I1 1000 = Ln := by unfold lnX; rw [if_neg (by decide), if_pos rfl, e1, hL]; exact nI_clamp (by omega)
  simp (config := { decide := true, maxDischargeDepth := 20 }) only [↓reduceIte, KV_i, KV_v, wsm_0, wsm_i, wsm_l, wsm_r, dlV_i, dlV_r, dlV_l, dlV_j, cat_i, cat_l, cat_r, rf_s, true_and, and_true, and_self, if_true, if_false, ite_true, ite_false, eq_self, true_or, or_true, false_or, or_false, not_true_eq_false, not_false_eq_true, r271_646, r271_647, r271_648, r271_649, r271_650, r271_651, r271_652, r271_653, r271_654, r271_655, r271_656, r271_657, r271_658, r271_659, r271_660, r271_661, r271_662, r271_665, r271_666, r271_667, r271_668, r271_669, r271_670, r271_671, r271_672, r271_673, r271_674, r271_675, r271_676, r271_677, r271_678, r271_679, r271_680, r271_681, r271_684, r271_687, r271_688, ob_0, ob_70, tg1, l1, e0, a1, x1, c1, a2, x2, c2, a3, x3, c3, a7]
  refine hm I1 L1 t1 u1 hP _ (fun I2 L2 t2 u2 hI ha hb => ?_)
  simp (config := { decide := true, maxDischargeDepth := 20 }) only [↓reduceIte, KV_i, KV_v, wsm_0, wsm_i, wsm_l, wsm_r, dlV_i, dlV_r, dlV_l, dlV_j, cat_i, cat_l, cat_r, rf_s, true_and, and_true, and_self, if_true, if_false, ite_true, ite_false, eq_self, true_or, or_true, false_or, or_false, not_true_eq_false, not_false_eq_true, r271_646, r271_647, r271_648, r271_649, r271_650, r271_651, r271_652, r271_653, r271_654, r271_655, r271_656, r271_657, r271_658, r271_659, r271_660, r271_661, r271_662, r271_665, r271_666, r271_667, r271_668, r271_669, r271_670, r271_671, r271_672, r271_673, r271_674, r271_675, r271_676, r271_677, r271_678, r271_679, r271_680, r271_681, r271_684, r271_687, r271_688, r271_1435, r271_1438, a7, e7]
  exact hn t2 u2 I2 L2 hI ha hb
theorem lcs_15 {t : Nat} {u : Option Nat} {I : AI} {L : AL} {B j Ln : Nat} {Q : PQ} (h : INV t u I L B) (hB : B < 2 ^ 30) (hL : I 1001 0 = nI Ln) (hj : 7 * j + 7 ≤ Ln) (hl : Ln ≤ 3584) (hn : ∀ t2 u2 I2 L2, INV t2 u2 I2 L2 (B + 5) → I2 1000 = I 1000 → I2 1001 = I 1001 → V 271 18 [.ref 1000, .ref 0, .ref 70, .int (nI (7 * (j + 1)))] [] 123 I2 L2 (RX t2 u2) Q) : V 271 689 [.ref 1000, .ref 0, .ref 70, .int (nI (7 * j))] [] 123 I L (RX t u) Q := by
  have tg1 : tgX 123 1000 = 0 := rfl
  have l0 : lnX 123 I 1000 = Ln := by unfold lnX; rw [if_neg (by decide), if_pos rfl, hL]; exact nI_clamp (by omega)
  have e7 : 7 * j + 7 = 7 * (j + 1) := by omega
  have a1 : nI (7 * j) + 1 = nI (7 * j + 1) := nI_add _ _
  have x1 := inT (a := 7 * j + 1) (N := Ln) (by omega) (by omega)
  have c1 := nI_clamp (n := 7 * j + 1) (by omega)
  have a2 : nI (7 * j) + 2 = nI (7 * j + 2) := nI_add _ _
  have x2 := inT (a := 7 * j + 2) (N := Ln) (by omega) (by omega)
  have c2 := nI_clamp (n := 7 * j + 2) (by omega)
  have a3 : nI (7 * j) + 3 = nI (7 * j + 3) := nI_add _ _
  have x3 := inT (a := 7 * j + 3) (N := Ln) (by omega) (by omega)
  have c3 := nI_clamp (n := 7 * j + 3) (by omega)
  have a4 : nI (7 * j) + 4 = nI (7 * j + 4) := nI_add _ _
  have x4 := inT (a := 7 * j + 4) (N := Ln) (by omega) (by omega)
  have c4 := nI_clamp (n := 7 * j + 4) (by omega)
  have a5 : nI (7 * j) + 5 = nI (7 * j + 5) := nI_add _ _
  have x5 := inT (a := 7 * j + 5) (N := Ln) (by omega) (by omega)
  have c5 := nI_clamp (n := 7 * j + 5) (by omega)
  have a7 : nI (7 * j) + 7 = nI (7 * j + 7) := nI_add _ _
  obtain ⟨r, P, ⟨⟨v, rfl⟩, hx, hc⟩, hm⟩ := p_surely (p := I 1000 (7 * j + 1)) (s := I 1000 (7 * j + 2)) (k := I 1000 (7 * j + 3)) (a := I 1000 (7 * j + 4)) (e := I 1000 (7 * j + 5)) h
  simp (config := { decide := true, maxDischargeDepth := 20 }) only [↓reduceIte, KV_i, KV_v, wsm_0, wsm_i, wsm_l, wsm_r, dlV_i, dlV_r, dlV_l, dlV_j, cat_i, cat_l, cat_r, rf_s, true_and, and_true, and_self, if_true, if_false, ite_true, ite_false, eq_self, true_or, or_true, false_or, or_false, not_true_eq_false, not_false_eq_true, r271_689, r271_690, r271_691, r271_692, r271_693, r271_694, r271_695, r271_696, r271_697, r271_698, r271_699, r271_700, r271_701, r271_702, r271_703, r271_704, r271_705, r271_706, r271_707, r271_708, r271_709, r271_710, r271_711, r271_712, r271_713, r271_714, r271_715, r271_718, r271_719, r271_720, r271_721, r271_722, r271_723, r271_724, r271_725, r271_726, r271_727, r271_728, r271_729, r271_730, r271_731, r271_732, r271_733, r271_734, r271_735, r271_736, r271_737, r271_738, r271_739, r271_740, r271_741, r271_742, r271_743, r271_744, r271_747, r271_750, r271_751, ob_0, ob_70, tg1, l0, a1, x1, c1, a2, x2, c2, a3, x3, c3, a4, x4, c4, a5, x5, c5, a7]
  refine hc _ (fun I1 L1 t1 u1 hP => ?_)
  obtain ⟨e0, e1⟩ := hx I1 L1 t1 u1 hP
  have l1 : lnX 123 I1 1000 = Ln := by unfold lnX; rw [if_neg (by decide), if_pos rfl, e1, hL]; exact nI_clamp (by omega)
  simp (config := { decide := true, maxDischargeDepth := 20 }) only [↓reduceIte, KV_i, KV_v, wsm_0, wsm_i, wsm_l, wsm_r, dlV_i, dlV_r, dlV_l, dlV_j, cat_i, cat_l, cat_r, rf_s, true_and, and_true, and_self, if_true, if_false, ite_true, ite_false, eq_self, true_or, or_true, false_or, or_false, not_true_eq_false, not_false_eq_true, r271_689, r271_690, r271_691, r271_692, r271_693, r271_694, r271_695, r271_696, r271_697, r271_698, r271_699, r271_700, r271_701, r271_702, r271_703, r271_704, r271_705, r271_706, r271_707, r271_708, r271_709, r271_710, r271_711, r271_712, r271_713, r271_714, r271_715, r271_718, r271_719, r271_720, r271_721, r271_722, r271_723, r271_724, r271_725, r271_726, r271_727, r271_728, r271_729, r271_730, r271_731, r271_732, r271_733, r271_734, r271_735, r271_736, r271_737, r271_738, r271_739, r271_740, r271_741, r271_742, r271_743, r271_744, r271_747, r271_750, r271_751, ob_0, ob_70, tg1, l1, e0, a1, x1, c1, a2, x2, c2, a3, x3, c3, a4, x4, c4, a5, x5, c5, a7]
  refine hm I1 L1 t1 u1 hP _ (fun I2 L2 t2 u2 hI ha hb => ?_)
  simp (config := { decide := true, maxDischargeDepth := 20 }) only [↓reduceIte, KV_i, KV_v, wsm_0, wsm_i, wsm_l, wsm_r, dlV_i, dlV_r, dlV_l, dlV_j, cat_i, cat_l, cat_r, rf_s, true_and, and_true, and_self, if_true, if_false, ite_true, ite_false, eq_self, true_or, or_true, false_or, or_false, not_true_eq_false, not_false_eq_true, r271_689, r271_690, r271_691, r271_692, r271_693, r271_694, r271_695, r271_696, r271_697, r271_698, r271_699, r271_700, r271_701, r271_702, r271_703, r271_704, r271_705, r271_706, r271_707, r271_708, r271_709, r271_710, r271_711, r271_712, r271_713, r271_714, r271_715, r271_718, r271_719, r271_720, r271_721, r271_722, r271_723, r271_724, r271_725, r271_726, r271_727, r271_728, r271_729, r271_730, r271_731, r271_732, r271_733, r271_734, r271_735, r271_736, r271_737, r271_738, r271_739, r271_740, r271_741, r271_742, r271_743, r271_744, r271_747, r271_750, r271_751, r271_1435, r271_1438, a7, e7]
  exact hn t2 u2 I2 L2 hI ha hb
theorem lcs_16 {t : Nat} {u : Option Nat} {I : AI} {L : AL} {B j Ln : Nat} {Q : PQ} (h : INV t u I L B) (hB : B < 2 ^ 30) (hL : I 1001 0 = nI Ln) (hj : 7 * j + 7 ≤ Ln) (hl : Ln ≤ 3584) (hn : ∀ t2 u2 I2 L2, INV t2 u2 I2 L2 (B + 5) → I2 1000 = I 1000 → I2 1001 = I 1001 → V 271 18 [.ref 1000, .ref 0, .ref 70, .int (nI (7 * (j + 1)))] [] 123 I2 L2 (RX t2 u2) Q) : V 271 752 [.ref 1000, .ref 0, .ref 70, .int (nI (7 * j))] [] 123 I L (RX t u) Q := by
  have tg1 : tgX 123 1000 = 0 := rfl
  have l0 : lnX 123 I 1000 = Ln := by unfold lnX; rw [if_neg (by decide), if_pos rfl, hL]; exact nI_clamp (by omega)
  have e7 : 7 * j + 7 = 7 * (j + 1) := by omega
  have a1 : nI (7 * j) + 1 = nI (7 * j + 1) := nI_add _ _
  have x1 := inT (a := 7 * j + 1) (N := Ln) (by omega) (by omega)
  have c1 := nI_clamp (n := 7 * j + 1) (by omega)
  have a2 : nI (7 * j) + 2 = nI (7 * j + 2) := nI_add _ _
  have x2 := inT (a := 7 * j + 2) (N := Ln) (by omega) (by omega)
  have c2 := nI_clamp (n := 7 * j + 2) (by omega)
  have a3 : nI (7 * j) + 3 = nI (7 * j + 3) := nI_add _ _
  have x3 := inT (a := 7 * j + 3) (N := Ln) (by omega) (by omega)
  have c3 := nI_clamp (n := 7 * j + 3) (by omega)
  have a4 : nI (7 * j) + 4 = nI (7 * j + 4) := nI_add _ _
  have x4 := inT (a := 7 * j + 4) (N := Ln) (by omega) (by omega)
  have c4 := nI_clamp (n := 7 * j + 4) (by omega)
  have a7 : nI (7 * j) + 7 = nI (7 * j + 7) := nI_add _ _
  obtain ⟨r, P, ⟨⟨v, rfl⟩, hx, hc⟩, hm⟩ := p_loses (p := I 1000 (7 * j + 1)) (s := I 1000 (7 * j + 2)) (a := I 1000 (7 * j + 3)) (e := I 1000 (7 * j + 4)) h
  simp (config := { decide := true, maxDischargeDepth := 20 }) only [↓reduceIte, KV_i, KV_v, wsm_0, wsm_i, wsm_l, wsm_r, dlV_i, dlV_r, dlV_l, dlV_j, cat_i, cat_l, cat_r, rf_s, true_and, and_true, and_self, if_true, if_false, ite_true, ite_false, eq_self, true_or, or_true, false_or, or_false, not_true_eq_false, not_false_eq_true, r271_752, r271_753, r271_754, r271_755, r271_756, r271_757, r271_758, r271_759, r271_760, r271_761, r271_762, r271_763, r271_764, r271_765, r271_766, r271_767, r271_768, r271_769, r271_770, r271_771, r271_772, r271_773, r271_776, r271_777, r271_778, r271_779, r271_780, r271_781, r271_782, r271_783, r271_784, r271_785, r271_786, r271_787, r271_788, r271_789, r271_790, r271_791, r271_792, r271_793, r271_794, r271_795, r271_796, r271_797, r271_800, r271_803, r271_804, ob_0, ob_70, tg1, l0, a1, x1, c1, a2, x2, c2, a3, x3, c3, a4, x4, c4, a7]
  refine hc _ (fun I1 L1 t1 u1 hP => ?_)
  obtain ⟨e0, e1⟩ := hx I1 L1 t1 u1 hP
  have l1 : lnX 123 I1 1000 = Ln := by unfold lnX; rw [if_neg (by decide), if_pos rfl, e1, hL]; exact nI_clamp (by omega)
  simp (config := { decide := true, maxDischargeDepth := 20 }) only [↓reduceIte, KV_i, KV_v, wsm_0, wsm_i, wsm_l, wsm_r, dlV_i, dlV_r, dlV_l, dlV_j, cat_i, cat_l, cat_r, rf_s, true_and, and_true, and_self, if_true, if_false, ite_true, ite_false, eq_self, true_or, or_true, false_or, or_false, not_true_eq_false, not_false_eq_true, r271_752, r271_753, r271_754, r271_755, r271_756, r271_757, r271_758, r271_759, r271_760, r271_761, r271_762, r271_763, r271_764, r271_765, r271_766, r271_767, r271_768, r271_769, r271_770, r271_771, r271_772, r271_773, r271_776, r271_777, r271_778, r271_779, r271_780, r271_781, r271_782, r271_783, r271_784, r271_785, r271_786, r271_787, r271_788, r271_789, r271_790, r271_791, r271_792, r271_793, r271_794, r271_795, r271_796, r271_797, r271_800, r271_803, r271_804, ob_0, ob_70, tg1, l1, e0, a1, x1, c1, a2, x2, c2, a3, x3, c3, a4, x4, c4, a7]
  refine hm I1 L1 t1 u1 hP _ (fun I2 L2 t2 u2 hI ha hb => ?_)
  simp (config := { decide := true, maxDischargeDepth := 20 }) only [↓reduceIte, KV_i, KV_v, wsm_0, wsm_i, wsm_l, wsm_r, dlV_i, dlV_r, dlV_l, dlV_j, cat_i, cat_l, cat_r, rf_s, true_and, and_true, and_self, if_true, if_false, ite_true, ite_false, eq_self, true_or, or_true, false_or, or_false, not_true_eq_false, not_false_eq_true, r271_752, r271_753, r271_754, r271_755, r271_756, r271_757, r271_758, r271_759, r271_760, r271_761, r271_762, r271_763, r271_764, r271_765, r271_766, r271_767, r271_768, r271_769, r271_770, r271_771, r271_772, r271_773, r271_776, r271_777, r271_778, r271_779, r271_780, r271_781, r271_782, r271_783, r271_784, r271_785, r271_786, r271_787, r271_788, r271_789, r271_790, r271_791, r271_792, r271_793, r271_794, r271_795, r271_796, r271_797, r271_800, r271_803, r271_804, r271_1435, r271_1438, a7, e7]
  exact hn t2 u2 I2 L2 hI ha hb
theorem lcs_17 {t : Nat} {u : Option Nat} {I : AI} {L : AL} {B j Ln : Nat} {Q : PQ} (h : INV t u I L B) (hB : B < 2 ^ 30) (hL : I 1001 0 = nI Ln) (hj : 7 * j + 7 ≤ Ln) (hl : Ln ≤ 3584) (hn : ∀ t2 u2 I2 L2, INV t2 u2 I2 L2 (B + 5) → I2 1000 = I 1000 → I2 1001 = I 1001 → V 271 18 [.ref 1000, .ref 0, .ref 70, .int (nI (7 * (j + 1)))] [] 123 I2 L2 (RX t2 u2) Q) : V 271 805 [.ref 1000, .ref 0, .ref 70, .int (nI (7 * j))] [] 123 I L (RX t u) Q := by
  have tg1 : tgX 123 1000 = 0 := rfl
  have l0 : lnX 123 I 1000 = Ln := by unfold lnX; rw [if_neg (by decide), if_pos rfl, hL]; exact nI_clamp (by omega)
  have e7 : 7 * j + 7 = 7 * (j + 1) := by omega
  have a1 : nI (7 * j) + 1 = nI (7 * j + 1) := nI_add _ _
  have x1 := inT (a := 7 * j + 1) (N := Ln) (by omega) (by omega)
  have c1 := nI_clamp (n := 7 * j + 1) (by omega)
  have a2 : nI (7 * j) + 2 = nI (7 * j + 2) := nI_add _ _
  have x2 := inT (a := 7 * j + 2) (N := Ln) (by omega) (by omega)
  have c2 := nI_clamp (n := 7 * j + 2) (by omega)
  have a3 : nI (7 * j) + 3 = nI (7 * j + 3) := nI_add _ _
  have x3 := inT (a := 7 * j + 3) (N := Ln) (by omega) (by omega)
  have c3 := nI_clamp (n := 7 * j + 3) (by omega)
  have a4 : nI (7 * j) + 4 = nI (7 * j + 4) := nI_add _ _
  have x4 := inT (a := 7 * j + 4) (N := Ln) (by omega) (by omega)
  have c4 := nI_clamp (n := 7 * j + 4) (by omega)
  have a5 : nI (7 * j) + 5 = nI (7 * j + 5) := nI_add _ _
  have x5 := inT (a := 7 * j + 5) (N := Ln) (by omega) (by omega)
  have c5 := nI_clamp (n := 7 * j + 5) (by omega)
  have a7 : nI (7 * j) + 7 = nI (7 * j + 7) := nI_add _ _
  obtain ⟨r, P, ⟨⟨v, rfl⟩, hx, hc⟩, hm⟩ := p_seen (p := I 1000 (7 * j + 1)) (m := I 1000 (7 * j + 2)) (a := I 1000 (7 * j + 3)) (e := I 1000 (7 * j + 4)) (w := I 1000 (7 * j + 5)) h
  simp (config := { decide := true, maxDischargeDepth := 20 }) only [↓reduceIte, KV_i, KV_v, wsm_0, wsm_i, wsm_l, wsm_r, dlV_i, dlV_r, dlV_l, dlV_j, cat_i, cat_l, cat_r, rf_s, true_and, and_true, and_self, if_true, if_false, ite_true, ite_false, eq_self, true_or, or_true, false_or, or_false, not_true_eq_false, not_false_eq_true, r271_805, r271_806, r271_807, r271_808, r271_809, r271_810, r271_811, r271_812, r271_813, r271_814, r271_815, r271_816, r271_817, r271_818, r271_819, r271_820, r271_821, r271_822, r271_823, r271_824, r271_825, r271_826, r271_827, r271_828, r271_829, r271_830, r271_831, r271_834, r271_835, r271_836, r271_837, r271_838, r271_839, r271_840, r271_841, r271_842, r271_843, r271_844, r271_845, r271_846, r271_847, r271_848, r271_849, r271_850, r271_851, r271_852, r271_853, r271_854, r271_855, r271_856, r271_857, r271_858, r271_859, r271_860, r271_863, r271_866, r271_867, ob_0, ob_70, tg1, l0, a1, x1, c1, a2, x2, c2, a3, x3, c3, a4, x4, c4, a5, x5, c5, a7]
  refine hc _ (fun I1 L1 t1 u1 hP => ?_)
  obtain ⟨e0, e1⟩ := hx I1 L1 t1 u1 hP
  have l1 : lnX 123 I1 1000 = Ln := by unfold lnX; rw [if_neg (by decide), if_pos rfl, e1, hL]; exact nI_clamp (by omega)
  simp (config := { decide := true, maxDischargeDepth := 20 }) only [↓reduceIte, KV_i, KV_v, wsm_0, wsm_i, wsm_l, wsm_r, dlV_i, dlV_r, dlV_l, dlV_j, cat_i, cat_l, cat_r, rf_s, true_and, and_true, and_self, if_true, if_false, ite_true, ite_false, eq_self, true_or, or_true, false_or, or_false, not_true_eq_false, not_false_eq_true, r271_805, r271_806, r271_807, r271_808, r271_809, r271_810, r271_811, r271_812, r271_813, r271_814, r271_815, r271_816, r271_817, r271_818, r271_819, r271_820, r271_821, r271_822, r271_823, r271_824, r271_825, r271_826, r271_827, r271_828, r271_829, r271_830, r271_831, r271_834, r271_835, r271_836, r271_837, r271_838, r271_839, r271_840, r271_841, r271_842, r271_843, r271_844, r271_845, r271_846, r271_847, r271_848, r271_849, r271_850, r271_851, r271_852, r271_853, r271_854, r271_855, r271_856, r271_857, r271_858, r271_859, r271_860, r271_863, r271_866, r271_867, ob_0, ob_70, tg1, l1, e0, a1, x1, c1, a2, x2, c2, a3, x3, c3, a4, x4, c4, a5, x5, c5, a7]
  refine hm I1 L1 t1 u1 hP _ (fun I2 L2 t2 u2 hI ha hb => ?_)
  simp (config := { decide := true, maxDischargeDepth := 20 }) only [↓reduceIte, KV_i, KV_v, wsm_0, wsm_i, wsm_l, wsm_r, dlV_i, dlV_r, dlV_l, dlV_j, cat_i, cat_l, cat_r, rf_s, true_and, and_true, and_self, if_true, if_false, ite_true, ite_false, eq_self, true_or, or_true, false_or, or_false, not_true_eq_false, not_false_eq_true, r271_805, r271_806, r271_807, r271_808, r271_809, r271_810, r271_811, r271_812, r271_813, r271_814, r271_815, r271_816, r271_817, r271_818, r271_819, r271_820, r271_821, r271_822, r271_823, r271_824, r271_825, r271_826, r271_827, r271_828, r271_829, r271_830, r271_831, r271_834, r271_835, r271_836, r271_837, r271_838, r271_839, r271_840, r271_841, r271_842, r271_843, r271_844, r271_845, r271_846, r271_847, r271_848, r271_849, r271_850, r271_851, r271_852, r271_853, r271_854, r271_855, r271_856, r271_857, r271_858, r271_859, r271_860, r271_863, r271_866, r271_867, r271_1435, r271_1438, a7, e7]
  exact hn t2 u2 I2 L2 hI ha hb
theorem lcs_18 {t : Nat} {u : Option Nat} {I : AI} {L : AL} {B j Ln : Nat} {Q : PQ} (h : INV t u I L B) (hB : B < 2 ^ 30) (hL : I 1001 0 = nI Ln) (hj : 7 * j + 7 ≤ Ln) (hl : Ln ≤ 3584) (hn : ∀ t2 u2 I2 L2, INV t2 u2 I2 L2 (B + 5) → I2 1000 = I 1000 → I2 1001 = I 1001 → V 271 18 [.ref 1000, .ref 0, .ref 70, .int (nI (7 * (j + 1)))] [] 123 I2 L2 (RX t2 u2) Q) : V 271 868 [.ref 1000, .ref 0, .ref 70, .int (nI (7 * j))] [] 123 I L (RX t u) Q := by
  have tg1 : tgX 123 1000 = 0 := rfl
  have l0 : lnX 123 I 1000 = Ln := by unfold lnX; rw [if_neg (by decide), if_pos rfl, hL]; exact nI_clamp (by omega)
  have e7 : 7 * j + 7 = 7 * (j + 1) := by omega
  have a1 : nI (7 * j) + 1 = nI (7 * j + 1) := nI_add _ _
  have x1 := inT (a := 7 * j + 1) (N := Ln) (by omega) (by omega)
  have c1 := nI_clamp (n := 7 * j + 1) (by omega)
  have a7 : nI (7 * j) + 7 = nI (7 * j + 7) := nI_add _ _
  by_cases z : I 1000 (7 * j + 1) = 0
  · obtain ⟨r, P, ⟨⟨v, rfl⟩, hx, hc⟩, hm⟩ := p_cup (w := 0) h (by omega) (by decide)
    simp (config := { decide := true, maxDischargeDepth := 20 }) only [↓reduceIte, KV_i, KV_v, wsm_0, wsm_i, wsm_l, wsm_r, dlV_i, dlV_r, dlV_l, dlV_j, cat_i, cat_l, cat_r, rf_s, true_and, and_true, and_self, if_true, if_false, ite_true, ite_false, eq_self, true_or, or_true, false_or, or_false, not_true_eq_false, not_false_eq_true, r271_868, r271_869, r271_870, r271_871, r271_872, r271_873, r271_874, r271_877, r271_878, r271_881, r271_882, r271_885, r271_886, r271_887, r271_888, r271_889, r271_890, r271_891, r271_894, r271_895, r271_898, r271_899, r271_902, r271_905, r271_906, ob_0, ob_70, tg1, l0, a1, x1, c1, a7, z]
    refine hc _ (fun I1 L1 t1 u1 hP => ?_)
    obtain ⟨e0, e1⟩ := hx I1 L1 t1 u1 hP
    have l1 : lnX 123 I1 1000 = Ln := by unfold lnX; rw [if_neg (by decide), if_pos rfl, e1, hL]; exact nI_clamp (by omega)
    simp (config := { decide := true, maxDischargeDepth := 20 }) only [↓reduceIte, KV_i, KV_v, wsm_0, wsm_i, wsm_l, wsm_r, dlV_i, dlV_r, dlV_l, dlV_j, cat_i, cat_l, cat_r, rf_s, true_and, and_true, and_self, if_true, if_false, ite_true, ite_false, eq_self, true_or, or_true, false_or, or_false, not_true_eq_false, not_false_eq_true, r271_868, r271_869, r271_870, r271_871, r271_872, r271_873, r271_874, r271_877, r271_878, r271_881, r271_882, r271_885, r271_886, r271_887, r271_888, r271_889, r271_890, r271_891, r271_894, r271_895, r271_898, r271_899, r271_902, r271_905, r271_906, ob_0, ob_70, tg1, l1, e0, a1, x1, c1, a7, z]
    refine hm I1 L1 t1 u1 hP _ (fun I2 L2 t2 u2 hI ha hb => ?_)
    simp (config := { decide := true, maxDischargeDepth := 20 }) only [↓reduceIte, KV_i, KV_v, wsm_0, wsm_i, wsm_l, wsm_r, dlV_i, dlV_r, dlV_l, dlV_j, cat_i, cat_l, cat_r, rf_s, true_and, and_true, and_self, if_true, if_false, ite_true, ite_false, eq_self, true_or, or_true, false_or, or_false, not_true_eq_false, not_false_eq_true, r271_868, r271_869, r271_870, r271_871, r271_872, r271_873, r271_874, r271_877, r271_878, r271_881, r271_882, r271_885, r271_886, r271_887, r271_888, r271_889, r271_890, r271_891, r271_894, r271_895, r271_898, r271_899, r271_902, r271_905, r271_906, r271_1435, r271_1438, a7, e7]
    exact hn t2 u2 I2 L2 hI ha hb
  · obtain ⟨r, P, ⟨⟨v, rfl⟩, hx, hc⟩, hm⟩ := p_cup (w := 1) h (by omega) (by decide)
    simp (config := { decide := true, maxDischargeDepth := 20 }) only [↓reduceIte, KV_i, KV_v, wsm_0, wsm_i, wsm_l, wsm_r, dlV_i, dlV_r, dlV_l, dlV_j, cat_i, cat_l, cat_r, rf_s, true_and, and_true, and_self, if_true, if_false, ite_true, ite_false, eq_self, true_or, or_true, false_or, or_false, not_true_eq_false, not_false_eq_true, r271_868, r271_869, r271_870, r271_871, r271_872, r271_873, r271_874, r271_877, r271_878, r271_881, r271_882, r271_885, r271_886, r271_887, r271_888, r271_889, r271_890, r271_891, r271_894, r271_895, r271_898, r271_899, r271_902, r271_905, r271_906, ob_0, ob_70, tg1, l0, a1, x1, c1, a7, z]
    refine hc _ (fun I1 L1 t1 u1 hP => ?_)
    obtain ⟨e0, e1⟩ := hx I1 L1 t1 u1 hP
    have l1 : lnX 123 I1 1000 = Ln := by unfold lnX; rw [if_neg (by decide), if_pos rfl, e1, hL]; exact nI_clamp (by omega)
    simp (config := { decide := true, maxDischargeDepth := 20 }) only [↓reduceIte, KV_i, KV_v, wsm_0, wsm_i, wsm_l, wsm_r, dlV_i, dlV_r, dlV_l, dlV_j, cat_i, cat_l, cat_r, rf_s, true_and, and_true, and_self, if_true, if_false, ite_true, ite_false, eq_self, true_or, or_true, false_or, or_false, not_true_eq_false, not_false_eq_true, r271_868, r271_869, r271_870, r271_871, r271_872, r271_873, r271_874, r271_877, r271_878, r271_881, r271_882, r271_885, r271_886, r271_887, r271_888, r271_889, r271_890, r271_891, r271_894, r271_895, r271_898, r271_899, r271_902, r271_905, r271_906, ob_0, ob_70, tg1, l1, e0, a1, x1, c1, a7, z]
    refine hm I1 L1 t1 u1 hP _ (fun I2 L2 t2 u2 hI ha hb => ?_)
    simp (config := { decide := true, maxDischargeDepth := 20 }) only [↓reduceIte, KV_i, KV_v, wsm_0, wsm_i, wsm_l, wsm_r, dlV_i, dlV_r, dlV_l, dlV_j, cat_i, cat_l, cat_r, rf_s, true_and, and_true, and_self, if_true, if_false, ite_true, ite_false, eq_self, true_or, or_true, false_or, or_false, not_true_eq_false, not_false_eq_true, r271_868, r271_869, r271_870, r271_871, r271_872, r271_873, r271_874, r271_877, r271_878, r271_881, r271_882, r271_885, r271_886, r271_887, r271_888, r271_889, r271_890, r271_891, r271_894, r271_895, r271_898, r271_899, r271_902, r271_905, r271_906, r271_1435, r271_1438, a7, e7]
    exact hn t2 u2 I2 L2 hI ha hb
theorem lcs_19 {t : Nat} {u : Option Nat} {I : AI} {L : AL} {B j Ln : Nat} {Q : PQ} (h : INV t u I L B) (hB : B < 2 ^ 30) (hL : I 1001 0 = nI Ln) (hj : 7 * j + 7 ≤ Ln) (hl : Ln ≤ 3584) (hn : ∀ t2 u2 I2 L2, INV t2 u2 I2 L2 (B + 5) → I2 1000 = I 1000 → I2 1001 = I 1001 → V 271 18 [.ref 1000, .ref 0, .ref 70, .int (nI (7 * (j + 1)))] [] 123 I2 L2 (RX t2 u2) Q) : V 271 907 [.ref 1000, .ref 0, .ref 70, .int (nI (7 * j))] [] 123 I L (RX t u) Q := by
  have tg1 : tgX 123 1000 = 0 := rfl
  have l0 : lnX 123 I 1000 = Ln := by unfold lnX; rw [if_neg (by decide), if_pos rfl, hL]; exact nI_clamp (by omega)
  have e7 : 7 * j + 7 = 7 * (j + 1) := by omega
  have a1 : nI (7 * j) + 1 = nI (7 * j + 1) := nI_add _ _
  have x1 := inT (a := 7 * j + 1) (N := Ln) (by omega) (by omega)
  have c1 := nI_clamp (n := 7 * j + 1) (by omega)
  have a2 : nI (7 * j) + 2 = nI (7 * j + 2) := nI_add _ _
  have x2 := inT (a := 7 * j + 2) (N := Ln) (by omega) (by omega)
  have c2 := nI_clamp (n := 7 * j + 2) (by omega)
  have a3 : nI (7 * j) + 3 = nI (7 * j + 3) := nI_add _ _
  have x3 := inT (a := 7 * j + 3) (N := Ln) (by omega) (by omega)
  have c3 := nI_clamp (n := 7 * j + 3) (by omega)
  have a4 : nI (7 * j) + 4 = nI (7 * j + 4) := nI_add _ _
  have x4 := inT (a := 7 * j + 4) (N := Ln) (by omega) (by omega)
  have c4 := nI_clamp (n := 7 * j + 4) (by omega)
  have a5 : nI (7 * j) + 5 = nI (7 * j + 5) := nI_add _ _
  have x5 := inT (a := 7 * j + 5) (N := Ln) (by omega) (by omega)
  have c5 := nI_clamp (n := 7 * j + 5) (by omega)
  have a6 : nI (7 * j) + 6 = nI (7 * j + 6) := nI_add _ _
  have x6 := inT (a := 7 * j + 6) (N := Ln) (by omega) (by omega)
  have c6 := nI_clamp (n := 7 * j + 6) (by omega)
  have a7 : nI (7 * j) + 7 = nI (7 * j + 7) := nI_add _ _
  by_cases z : I 1000 (7 * j + 6) = 0
  · obtain ⟨r, P, ⟨⟨v, rfl⟩, hx, hc⟩, hm⟩ := p_likely (p := I 1000 (7 * j + 1)) (a := I 1000 (7 * j + 2)) (b := I 1000 (7 * j + 3)) (am := I 1000 (7 * j + 4)) (m := I 1000 (7 * j + 5)) (w := 0) h
    simp (config := { decide := true, maxDischargeDepth := 20 }) only [↓reduceIte, KV_i, KV_v, wsm_0, wsm_i, wsm_l, wsm_r, dlV_i, dlV_r, dlV_l, dlV_j, cat_i, cat_l, cat_r, rf_s, true_and, and_true, and_self, if_true, if_false, ite_true, ite_false, eq_self, true_or, or_true, false_or, or_false, not_true_eq_false, not_false_eq_true, r271_907, r271_908, r271_909, r271_910, r271_911, r271_912, r271_913, r271_914, r271_915, r271_916, r271_917, r271_918, r271_919, r271_920, r271_921, r271_922, r271_923, r271_924, r271_925, r271_926, r271_927, r271_928, r271_929, r271_930, r271_931, r271_932, r271_933, r271_934, r271_935, r271_937, r271_938, r271_939, r271_942, r271_943, r271_946, r271_947, r271_950, r271_951, r271_952, r271_953, r271_954, r271_955, r271_956, r271_957, r271_958, r271_959, r271_960, r271_961, r271_962, r271_963, r271_964, r271_965, r271_966, r271_967, r271_968, r271_969, r271_970, r271_971, r271_972, r271_973, r271_974, r271_975, r271_976, r271_977, r271_978, r271_980, r271_981, r271_982, r271_985, r271_986, r271_989, r271_990, r271_993, r271_996, r271_997, ob_0, ob_70, tg1, l0, a1, x1, c1, a2, x2, c2, a3, x3, c3, a4, x4, c4, a5, x5, c5, a6, x6, c6, a7, z]
    refine hc _ (fun I1 L1 t1 u1 hP => ?_)
    obtain ⟨e0, e1⟩ := hx I1 L1 t1 u1 hP
    have l1 : lnX 123 I1 1000 = Ln := by unfold lnX; rw [if_neg (by decide), if_pos rfl, e1, hL]; exact nI_clamp (by omega)
    simp (config := { decide := true, maxDischargeDepth := 20 }) only [↓reduceIte, KV_i, KV_v, wsm_0, wsm_i, wsm_l, wsm_r, dlV_i, dlV_r, dlV_l, dlV_j, cat_i, cat_l, cat_r, rf_s, true_and, and_true, and_self, if_true, if_false, ite_true, ite_false, eq_self, true_or, or_true, false_or, or_false, not_true_eq_false, not_false_eq_true, r271_907, r271_908, r271_909, r271_910, r271_911, r271_912, r271_913, r271_914, r271_915, r271_916, r271_917, r271_918, r271_919, r271_920, r271_921, r271_922, r271_923, r271_924, r271_925, r271_926, r271_927, r271_928, r271_929, r271_930, r271_931, r271_932, r271_933, r271_934, r271_935, r271_937, r271_938, r271_939, r271_942, r271_943, r271_946, r271_947, r271_950, r271_951, r271_952, r271_953, r271_954, r271_955, r271_956, r271_957, r271_958, r271_959, r271_960, r271_961, r271_962, r271_963, r271_964, r271_965, r271_966, r271_967, r271_968, r271_969, r271_970, r271_971, r271_972, r271_973, r271_974, r271_975, r271_976, r271_977, r271_978, r271_980, r271_981, r271_982, r271_985, r271_986, r271_989, r271_990, r271_993, r271_996, r271_997, ob_0, ob_70, tg1, l1, e0, a1, x1, c1, a2, x2, c2, a3, x3, c3, a4, x4, c4, a5, x5, c5, a6, x6, c6, a7, z]
    refine hm I1 L1 t1 u1 hP _ (fun I2 L2 t2 u2 hI ha hb => ?_)
    simp (config := { decide := true, maxDischargeDepth := 20 }) only [↓reduceIte, KV_i, KV_v, wsm_0, wsm_i, wsm_l, wsm_r, dlV_i, dlV_r, dlV_l, dlV_j, cat_i, cat_l, cat_r, rf_s, true_and, and_true, and_self, if_true, if_false, ite_true, ite_false, eq_self, true_or, or_true, false_or, or_false, not_true_eq_false, not_false_eq_true, r271_907, r271_908, r271_909, r271_910, r271_911, r271_912, r271_913, r271_914, r271_915, r271_916, r271_917, r271_918, r271_919, r271_920, r271_921, r271_922, r271_923, r271_924, r271_925, r271_926, r271_927, r271_928, r271_929, r271_930, r271_931, r271_932, r271_933, r271_934, r271_935, r271_937, r271_938, r271_939, r271_942, r271_943, r271_946, r271_947, r271_950, r271_951, r271_952, r271_953, r271_954, r271_955, r271_956, r271_957, r271_958, r271_959, r271_960, r271_961, r271_962, r271_963, r271_964, r271_965, r271_966, r271_967, r271_968, r271_969, r271_970, r271_971, r271_972, r271_973, r271_974, r271_975, r271_976, r271_977, r271_978, r271_980, r271_981, r271_982, r271_985, r271_986, r271_989, r271_990, r271_993, r271_996, r271_997, r271_1435, r271_1438, a7, e7]
    exact hn t2 u2 I2 L2 hI ha hb
  · obtain ⟨r, P, ⟨⟨v, rfl⟩, hx, hc⟩, hm⟩ := p_likely (p := I 1000 (7 * j + 1)) (a := I 1000 (7 * j + 2)) (b := I 1000 (7 * j + 3)) (am := I 1000 (7 * j + 4)) (m := I 1000 (7 * j + 5)) (w := 1) h
    simp (config := { decide := true, maxDischargeDepth := 20 }) only [↓reduceIte, KV_i, KV_v, wsm_0, wsm_i, wsm_l, wsm_r, dlV_i, dlV_r, dlV_l, dlV_j, cat_i, cat_l, cat_r, rf_s, true_and, and_true, and_self, if_true, if_false, ite_true, ite_false, eq_self, true_or, or_true, false_or, or_false, not_true_eq_false, not_false_eq_true, r271_907, r271_908, r271_909, r271_910, r271_911, r271_912, r271_913, r271_914, r271_915, r271_916, r271_917, r271_918, r271_919, r271_920, r271_921, r271_922, r271_923, r271_924, r271_925, r271_926, r271_927, r271_928, r271_929, r271_930, r271_931, r271_932, r271_933, r271_934, r271_935, r271_937, r271_938, r271_939, r271_942, r271_943, r271_946, r271_947, r271_950, r271_951, r271_952, r271_953, r271_954, r271_955, r271_956, r271_957, r271_958, r271_959, r271_960, r271_961, r271_962, r271_963, r271_964, r271_965, r271_966, r271_967, r271_968, r271_969, r271_970, r271_971, r271_972, r271_973, r271_974, r271_975, r271_976, r271_977, r271_978, r271_980, r271_981, r271_982, r271_985, r271_986, r271_989, r271_990, r271_993, r271_996, r271_997, ob_0, ob_70, tg1, l0, a1, x1, c1, a2, x2, c2, a3, x3, c3, a4, x4, c4, a5, x5, c5, a6, x6, c6, a7, z]
    refine hc _ (fun I1 L1 t1 u1 hP => ?_)
    obtain ⟨e0, e1⟩ := hx I1 L1 t1 u1 hP
    have l1 : lnX 123 I1 1000 = Ln := by unfold lnX; rw [if_neg (by decide), if_pos rfl, e1, hL]; exact nI_clamp (by omega)
    simp (config := { decide := true, maxDischargeDepth := 20 }) only [↓reduceIte, KV_i, KV_v, wsm_0, wsm_i, wsm_l, wsm_r, dlV_i, dlV_r, dlV_l, dlV_j, cat_i, cat_l, cat_r, rf_s, true_and, and_true, and_self, if_true, if_false, ite_true, ite_false, eq_self, true_or, or_true, false_or, or_false, not_true_eq_false, not_false_eq_true, r271_907, r271_908, r271_909, r271_910, r271_911, r271_912, r271_913, r271_914, r271_915, r271_916, r271_917, r271_918, r271_919, r271_920, r271_921, r271_922, r271_923, r271_924, r271_925, r271_926, r271_927, r271_928, r271_929, r271_930, r271_931, r271_932, r271_933, r271_934, r271_935, r271_937, r271_938, r271_939, r271_942, r271_943, r271_946, r271_947, r271_950, r271_951, r271_952, r271_953, r271_954, r271_955, r271_956, r271_957, r271_958, r271_959, r271_960, r271_961, r271_962, r271_963, r271_964, r271_965, r271_966, r271_967, r271_968, r271_969, r271_970, r271_971, r271_972, r271_973, r271_974, r271_975, r271_976, r271_977, r271_978, r271_980, r271_981, r271_982, r271_985, r271_986, r271_989, r271_990, r271_993, r271_996, r271_997, ob_0, ob_70, tg1, l1, e0, a1, x1, c1, a2, x2, c2, a3, x3, c3, a4, x4, c4, a5, x5, c5, a6, x6, c6, a7, z]
    refine hm I1 L1 t1 u1 hP _ (fun I2 L2 t2 u2 hI ha hb => ?_)
    simp (config := { decide := true, maxDischargeDepth := 20 }) only [↓reduceIte, KV_i, KV_v, wsm_0, wsm_i, wsm_l, wsm_r, dlV_i, dlV_r, dlV_l, dlV_j, cat_i, cat_l, cat_r, rf_s, true_and, and_true, and_self, if_true, if_false, ite_true, ite_false, eq_self, true_or, or_true, false_or, or_false, not_true_eq_false, not_false_eq_true, r271_907, r271_908, r271_909, r271_910, r271_911, r271_912, r271_913, r271_914, r271_915, r271_916, r271_917, r271_918, r271_919, r271_920, r271_921, r271_922, r271_923, r271_924, r271_925, r271_926, r271_927, r271_928, r271_929, r271_930, r271_931, r271_932, r271_933, r271_934, r271_935, r271_937, r271_938, r271_939, r271_942, r271_943, r271_946, r271_947, r271_950, r271_951, r271_952, r271_953, r271_954, r271_955, r271_956, r271_957, r271_958, r271_959, r271_960, r271_961, r271_962, r271_963, r271_964, r271_965, r271_966, r271_967, r271_968, r271_969, r271_970, r271_971, r271_972, r271_973, r271_974, r271_975, r271_976, r271_977, r271_978, r271_980, r271_981, r271_982, r271_985, r271_986, r271_989, r271_990, r271_993, r271_996, r271_997, r271_1435, r271_1438, a7, e7]
    exact hn t2 u2 I2 L2 hI ha hb
theorem lcs_20 {t : Nat} {u : Option Nat} {I : AI} {L : AL} {B j Ln : Nat} {Q : PQ} (h : INV t u I L B) (hB : B < 2 ^ 30) (hL : I 1001 0 = nI Ln) (hj : 7 * j + 7 ≤ Ln) (hl : Ln ≤ 3584) (hn : ∀ t2 u2 I2 L2, INV t2 u2 I2 L2 (B + 5) → I2 1000 = I 1000 → I2 1001 = I 1001 → V 271 18 [.ref 1000, .ref 0, .ref 70, .int (nI (7 * (j + 1)))] [] 123 I2 L2 (RX t2 u2) Q) : V 271 998 [.ref 1000, .ref 0, .ref 70, .int (nI (7 * j))] [] 123 I L (RX t u) Q := by
  have tg1 : tgX 123 1000 = 0 := rfl
  have l0 : lnX 123 I 1000 = Ln := by unfold lnX; rw [if_neg (by decide), if_pos rfl, hL]; exact nI_clamp (by omega)
  have e7 : 7 * j + 7 = 7 * (j + 1) := by omega
  have a1 : nI (7 * j) + 1 = nI (7 * j + 1) := nI_add _ _
  have x1 := inT (a := 7 * j + 1) (N := Ln) (by omega) (by omega)
  have c1 := nI_clamp (n := 7 * j + 1) (by omega)
  have a2 : nI (7 * j) + 2 = nI (7 * j + 2) := nI_add _ _
  have x2 := inT (a := 7 * j + 2) (N := Ln) (by omega) (by omega)
  have c2 := nI_clamp (n := 7 * j + 2) (by omega)
  have a3 : nI (7 * j) + 3 = nI (7 * j + 3) := nI_add _ _
  have x3 := inT (a := 7 * j + 3) (N := Ln) (by omega) (by omega)
  have c3 := nI_clamp (n := 7 * j + 3) (by omega)
  have a4 : nI (7 * j) + 4 = nI (7 * j + 4) := nI_add _ _
  have x4 := inT (a := 7 * j + 4) (N := Ln) (by omega) (by omega)
  have c4 := nI_clamp (n := 7 * j + 4) (by omega)
  have a7 : nI (7 * j) + 7 = nI (7 * j + 7) := nI_add _ _
  obtain ⟨r, P, ⟨⟨v, rfl⟩, hx, hc⟩, hm⟩ := p_most (p := I 1000 (7 * j + 1)) (a := I 1000 (7 * j + 2)) (b := I 1000 (7 * j + 3)) (am := I 1000 (7 * j + 4)) h
  simp (config := { decide := true, maxDischargeDepth := 20 }) only [↓reduceIte, KV_i, KV_v, wsm_0, wsm_i, wsm_l, wsm_r, dlV_i, dlV_r, dlV_l, dlV_j, cat_i, cat_l, cat_r, rf_s, true_and, and_true, and_self, if_true, if_false, ite_true, ite_false, eq_self, true_or, or_true, false_or, or_false, not_true_eq_false, not_false_eq_true, r271_998, r271_999, r271_1000, r271_1001, r271_1002, r271_1003, r271_1004, r271_1005, r271_1006, r271_1007, r271_1008, r271_1009, r271_1010, r271_1011, r271_1012, r271_1013, r271_1014, r271_1015, r271_1016, r271_1017, r271_1018, r271_1019, r271_1022, r271_1023, r271_1024, r271_1025, r271_1026, r271_1027, r271_1028, r271_1029, r271_1030, r271_1031, r271_1032, r271_1033, r271_1034, r271_1035, r271_1036, r271_1037, r271_1038, r271_1039, r271_1040, r271_1041, r271_1042, r271_1043, r271_1046, r271_1049, r271_1050, ob_0, ob_70, tg1, l0, a1, x1, c1, a2, x2, c2, a3, x3, c3, a4, x4, c4, a7]
  refine hc _ (fun I1 L1 t1 u1 hP => ?_)
  obtain ⟨e0, e1⟩ := hx I1 L1 t1 u1 hP
  have l1 : lnX 123 I1 1000 = Ln := by unfold lnX; rw [if_neg (by decide), if_pos rfl, e1, hL]; exact nI_clamp (by omega)
  simp (config := { decide := true, maxDischargeDepth := 20 }) only [↓reduceIte, KV_i, KV_v, wsm_0, wsm_i, wsm_l, wsm_r, dlV_i, dlV_r, dlV_l, dlV_j, cat_i, cat_l, cat_r, rf_s, true_and, and_true, and_self, if_true, if_false, ite_true, ite_false, eq_self, true_or, or_true, false_or, or_false, not_true_eq_false, not_false_eq_true, r271_998, r271_999, r271_1000, r271_1001, r271_1002, r271_1003, r271_1004, r271_1005, r271_1006, r271_1007, r271_1008, r271_1009, r271_1010, r271_1011, r271_1012, r271_1013, r271_1014, r271_1015, r271_1016, r271_1017, r271_1018, r271_1019, r271_1022, r271_1023, r271_1024, r271_1025, r271_1026, r271_1027, r271_1028, r271_1029, r271_1030, r271_1031, r271_1032, r271_1033, r271_1034, r271_1035, r271_1036, r271_1037, r271_1038, r271_1039, r271_1040, r271_1041, r271_1042, r271_1043, r271_1046, r271_1049, r271_1050, ob_0, ob_70, tg1, l1, e0, a1, x1, c1, a2, x2, c2, a3, x3, c3, a4, x4, c4, a7]
  refine hm I1 L1 t1 u1 hP _ (fun I2 L2 t2 u2 hI ha hb => ?_)
  simp (config := { decide := true, maxDischargeDepth := 20 }) only [↓reduceIte, KV_i, KV_v, wsm_0, wsm_i, wsm_l, wsm_r, dlV_i, dlV_r, dlV_l, dlV_j, cat_i, cat_l, cat_r, rf_s, true_and, and_true, and_self, if_true, if_false, ite_true, ite_false, eq_self, true_or, or_true, false_or, or_false, not_true_eq_false, not_false_eq_true, r271_998, r271_999, r271_1000, r271_1001, r271_1002, r271_1003, r271_1004, r271_1005, r271_1006, r271_1007, r271_1008, r271_1009, r271_1010, r271_1011, r271_1012, r271_1013, r271_1014, r271_1015, r271_1016, r271_1017, r271_1018, r271_1019, r271_1022, r271_1023, r271_1024, r271_1025, r271_1026, r271_1027, r271_1028, r271_1029, r271_1030, r271_1031, r271_1032, r271_1033, r271_1034, r271_1035, r271_1036, r271_1037, r271_1038, r271_1039, r271_1040, r271_1041, r271_1042, r271_1043, r271_1046, r271_1049, r271_1050, r271_1435, r271_1438, a7, e7]
  exact hn t2 u2 I2 L2 hI ha hb
theorem lcs_21 {t : Nat} {u : Option Nat} {I : AI} {L : AL} {B j Ln : Nat} {Q : PQ} (h : INV t u I L B) (hB : B < 2 ^ 30) (hL : I 1001 0 = nI Ln) (hj : 7 * j + 7 ≤ Ln) (hl : Ln ≤ 3584) (hn : ∀ t2 u2 I2 L2, INV t2 u2 I2 L2 (B + 5) → I2 1000 = I 1000 → I2 1001 = I 1001 → V 271 18 [.ref 1000, .ref 0, .ref 70, .int (nI (7 * (j + 1)))] [] 123 I2 L2 (RX t2 u2) Q) : V 271 1051 [.ref 1000, .ref 0, .ref 70, .int (nI (7 * j))] [] 123 I L (RX t u) Q := by
  have tg1 : tgX 123 1000 = 0 := rfl
  have l0 : lnX 123 I 1000 = Ln := by unfold lnX; rw [if_neg (by decide), if_pos rfl, hL]; exact nI_clamp (by omega)
  have e7 : 7 * j + 7 = 7 * (j + 1) := by omega
  have a1 : nI (7 * j) + 1 = nI (7 * j + 1) := nI_add _ _
  have x1 := inT (a := 7 * j + 1) (N := Ln) (by omega) (by omega)
  have c1 := nI_clamp (n := 7 * j + 1) (by omega)
  have a7 : nI (7 * j) + 7 = nI (7 * j + 7) := nI_add _ _
  obtain ⟨r, P, ⟨⟨v, rfl⟩, hx, hc⟩, hm⟩ := p_order (i := I 1000 (7 * j + 1)) h
  simp (config := { decide := true, maxDischargeDepth := 20 }) only [↓reduceIte, KV_i, KV_v, wsm_0, wsm_i, wsm_l, wsm_r, dlV_i, dlV_r, dlV_l, dlV_j, cat_i, cat_l, cat_r, rf_s, true_and, and_true, and_self, if_true, if_false, ite_true, ite_false, eq_self, true_or, or_true, false_or, or_false, not_true_eq_false, not_false_eq_true, r271_1051, r271_1052, r271_1053, r271_1054, r271_1055, r271_1056, r271_1057, r271_1060, r271_1061, r271_1062, r271_1063, r271_1064, r271_1065, r271_1066, r271_1069, r271_1072, r271_1073, ob_0, ob_70, tg1, l0, a1, x1, c1, a7]
  refine hc _ (fun I1 L1 t1 u1 hP => ?_)
  obtain ⟨e0, e1⟩ := hx I1 L1 t1 u1 hP
  have l1 : lnX 123 I1 1000 = Ln := by unfold lnX; rw [if_neg (by decide), if_pos rfl, e1, hL]; exact nI_clamp (by omega)
  simp (config := { decide := true, maxDischargeDepth := 20 }) only [↓reduceIte, KV_i, KV_v, wsm_0, wsm_i, wsm_l, wsm_r, dlV_i, dlV_r, dlV_l, dlV_j, cat_i, cat_l, cat_r, rf_s, true_and, and_true, and_self, if_true, if_false, ite_true, ite_false, eq_self, true_or, or_true, false_or, or_false, not_true_eq_false, not_false_eq_true, r271_1051, r271_1052, r271_1053, r271_1054, r271_1055, r271_1056, r271_1057, r271_1060, r271_1061, r271_1062, r271_1063, r271_1064, r271_1065, r271_1066, r271_1069, r271_1072, r271_1073, ob_0, ob_70, tg1, l1, e0, a1, x1, c1, a7]
  refine hm I1 L1 t1 u1 hP _ (fun I2 L2 t2 u2 hI ha hb => ?_)
  simp (config := { decide := true, maxDischargeDepth := 20 }) only [↓reduceIte, KV_i, KV_v, wsm_0, wsm_i, wsm_l, wsm_r, dlV_i, dlV_r, dlV_l, dlV_j, cat_i, cat_l, cat_r, rf_s, true_and, and_true, and_self, if_true, if_false, ite_true, ite_false, eq_self, true_or, or_true, false_or, or_false, not_true_eq_false, not_false_eq_true, r271_1051, r271_1052, r271_1053, r271_1054, r271_1055, r271_1056, r271_1057, r271_1060, r271_1061, r271_1062, r271_1063, r271_1064, r271_1065, r271_1066, r271_1069, r271_1072, r271_1073, r271_1435, r271_1438, a7, e7]
  exact hn t2 u2 I2 L2 hI ha hb
theorem lcs_22 {t : Nat} {u : Option Nat} {I : AI} {L : AL} {B j Ln : Nat} {Q : PQ} (h : INV t u I L B) (hB : B < 2 ^ 30) (hL : I 1001 0 = nI Ln) (hj : 7 * j + 7 ≤ Ln) (hl : Ln ≤ 3584) (hn : ∀ t2 u2 I2 L2, INV t2 u2 I2 L2 (B + 5) → I2 1000 = I 1000 → I2 1001 = I 1001 → V 271 18 [.ref 1000, .ref 0, .ref 70, .int (nI (7 * (j + 1)))] [] 123 I2 L2 (RX t2 u2) Q) : V 271 1074 [.ref 1000, .ref 0, .ref 70, .int (nI (7 * j))] [] 123 I L (RX t u) Q := by
  have tg1 : tgX 123 1000 = 0 := rfl
  have l0 : lnX 123 I 1000 = Ln := by unfold lnX; rw [if_neg (by decide), if_pos rfl, hL]; exact nI_clamp (by omega)
  have e7 : 7 * j + 7 = 7 * (j + 1) := by omega
  have a1 : nI (7 * j) + 1 = nI (7 * j + 1) := nI_add _ _
  have x1 := inT (a := 7 * j + 1) (N := Ln) (by omega) (by omega)
  have c1 := nI_clamp (n := 7 * j + 1) (by omega)
  have a7 : nI (7 * j) + 7 = nI (7 * j + 7) := nI_add _ _
  obtain ⟨r, P, ⟨⟨v, rfl⟩, hx, hc⟩, hm⟩ := p_courts (i := I 1000 (7 * j + 1)) h
  simp (config := { decide := true, maxDischargeDepth := 20 }) only [↓reduceIte, KV_i, KV_v, wsm_0, wsm_i, wsm_l, wsm_r, dlV_i, dlV_r, dlV_l, dlV_j, cat_i, cat_l, cat_r, rf_s, true_and, and_true, and_self, if_true, if_false, ite_true, ite_false, eq_self, true_or, or_true, false_or, or_false, not_true_eq_false, not_false_eq_true, r271_1074, r271_1075, r271_1076, r271_1077, r271_1078, r271_1079, r271_1080, r271_1083, r271_1084, r271_1085, r271_1086, r271_1087, r271_1088, r271_1089, r271_1092, r271_1095, r271_1096, ob_0, ob_70, tg1, l0, a1, x1, c1, a7]
  refine hc _ (fun I1 L1 t1 u1 hP => ?_)
  obtain ⟨e0, e1⟩ := hx I1 L1 t1 u1 hP
  have l1 : lnX 123 I1 1000 = Ln := by unfold lnX; rw [if_neg (by decide), if_pos rfl, e1, hL]; exact nI_clamp (by omega)
  simp (config := { decide := true, maxDischargeDepth := 20 }) only [↓reduceIte, KV_i, KV_v, wsm_0, wsm_i, wsm_l, wsm_r, dlV_i, dlV_r, dlV_l, dlV_j, cat_i, cat_l, cat_r, rf_s, true_and, and_true, and_self, if_true, if_false, ite_true, ite_false, eq_self, true_or, or_true, false_or, or_false, not_true_eq_false, not_false_eq_true, r271_1074, r271_1075, r271_1076, r271_1077, r271_1078, r271_1079, r271_1080, r271_1083, r271_1084, r271_1085, r271_1086, r271_1087, r271_1088, r271_1089, r271_1092, r271_1095, r271_1096, ob_0, ob_70, tg1, l1, e0, a1, x1, c1, a7]
  refine hm I1 L1 t1 u1 hP _ (fun I2 L2 t2 u2 hI ha hb => ?_)
  simp (config := { decide := true, maxDischargeDepth := 20 }) only [↓reduceIte, KV_i, KV_v, wsm_0, wsm_i, wsm_l, wsm_r, dlV_i, dlV_r, dlV_l, dlV_j, cat_i, cat_l, cat_r, rf_s, true_and, and_true, and_self, if_true, if_false, ite_true, ite_false, eq_self, true_or, or_true, false_or, or_false, not_true_eq_false, not_false_eq_true, r271_1074, r271_1075, r271_1076, r271_1077, r271_1078, r271_1079, r271_1080, r271_1083, r271_1084, r271_1085, r271_1086, r271_1087, r271_1088, r271_1089, r271_1092, r271_1095, r271_1096, r271_1435, r271_1438, a7, e7]
  exact hn t2 u2 I2 L2 hI ha hb
theorem lcs_23 {t : Nat} {u : Option Nat} {I : AI} {L : AL} {B j Ln : Nat} {Q : PQ} (h : INV t u I L B) (hB : B < 2 ^ 30) (hL : I 1001 0 = nI Ln) (hj : 7 * j + 7 ≤ Ln) (hl : Ln ≤ 3584) (hn : ∀ t2 u2 I2 L2, INV t2 u2 I2 L2 (B + 5) → I2 1000 = I 1000 → I2 1001 = I 1001 → V 271 18 [.ref 1000, .ref 0, .ref 70, .int (nI (7 * (j + 1)))] [] 123 I2 L2 (RX t2 u2) Q) : V 271 1097 [.ref 1000, .ref 0, .ref 70, .int (nI (7 * j))] [] 123 I L (RX t u) Q := by
  have tg1 : tgX 123 1000 = 0 := rfl
  have l0 : lnX 123 I 1000 = Ln := by unfold lnX; rw [if_neg (by decide), if_pos rfl, hL]; exact nI_clamp (by omega)
  have e7 : 7 * j + 7 = 7 * (j + 1) := by omega
  have a1 : nI (7 * j) + 1 = nI (7 * j + 1) := nI_add _ _
  have x1 := inT (a := 7 * j + 1) (N := Ln) (by omega) (by omega)
  have c1 := nI_clamp (n := 7 * j + 1) (by omega)
  have a2 : nI (7 * j) + 2 = nI (7 * j + 2) := nI_add _ _
  have x2 := inT (a := 7 * j + 2) (N := Ln) (by omega) (by omega)
  have c2 := nI_clamp (n := 7 * j + 2) (by omega)
  have a3 : nI (7 * j) + 3 = nI (7 * j + 3) := nI_add _ _
  have x3 := inT (a := 7 * j + 3) (N := Ln) (by omega) (by omega)
  have c3 := nI_clamp (n := 7 * j + 3) (by omega)
  have a7 : nI (7 * j) + 7 = nI (7 * j + 7) := nI_add _ _
  by_cases z : I 1000 (7 * j + 3) = 0
  · obtain ⟨r, P, ⟨⟨v, rfl⟩, hx, hc⟩, hm⟩ := p_less (d := I 1000 (7 * j + 1)) (e := I 1000 (7 * j + 2)) (w := 0) h
    simp (config := { decide := true, maxDischargeDepth := 20 }) only [↓reduceIte, KV_i, KV_v, wsm_0, wsm_i, wsm_l, wsm_r, dlV_i, dlV_r, dlV_l, dlV_j, cat_i, cat_l, cat_r, rf_s, true_and, and_true, and_self, if_true, if_false, ite_true, ite_false, eq_self, true_or, or_true, false_or, or_false, not_true_eq_false, not_false_eq_true, r271_1097, r271_1098, r271_1099, r271_1100, r271_1101, r271_1102, r271_1103, r271_1104, r271_1105, r271_1106, r271_1107, r271_1108, r271_1109, r271_1110, r271_1111, r271_1112, r271_1113, r271_1116, r271_1117, r271_1120, r271_1121, r271_1124, r271_1125, r271_1126, r271_1127, r271_1128, r271_1129, r271_1130, r271_1131, r271_1132, r271_1133, r271_1134, r271_1135, r271_1136, r271_1137, r271_1138, r271_1139, r271_1140, r271_1143, r271_1144, r271_1147, r271_1148, r271_1151, r271_1154, r271_1155, ob_0, ob_70, tg1, l0, a1, x1, c1, a2, x2, c2, a3, x3, c3, a7, z]
    refine hc _ (fun I1 L1 t1 u1 hP => ?_)
    obtain ⟨e0, e1⟩ := hx I1 L1 t1 u1 hP
    have l1 : lnX 123 I1 1000 = Ln := by unfold lnX; rw [if_neg (by decide), if_pos rfl, e1, hL]; exact nI_clamp (by omega)
    simp (config := { decide := true, maxDischargeDepth := 20 }) only [↓reduceIte, KV_i, KV_v, wsm_0, wsm_i, wsm_l, wsm_r, dlV_i, dlV_r, dlV_l, dlV_j, cat_i, cat_l, cat_r, rf_s, true_and, and_true, and_self, if_true, if_false, ite_true, ite_false, eq_self, true_or, or_true, false_or, or_false, not_true_eq_false, not_false_eq_true, r271_1097, r271_1098, r271_1099, r271_1100, r271_1101, r271_1102, r271_1103, r271_1104, r271_1105, r271_1106, r271_1107, r271_1108, r271_1109, r271_1110, r271_1111, r271_1112, r271_1113, r271_1116, r271_1117, r271_1120, r271_1121, r271_1124, r271_1125, r271_1126, r271_1127, r271_1128, r271_1129, r271_1130, r271_1131, r271_1132, r271_1133, r271_1134, r271_1135, r271_1136, r271_1137, r271_1138, r271_1139, r271_1140, r271_1143, r271_1144, r271_1147, r271_1148, r271_1151, r271_1154, r271_1155, ob_0, ob_70, tg1, l1, e0, a1, x1, c1, a2, x2, c2, a3, x3, c3, a7, z]
    refine hm I1 L1 t1 u1 hP _ (fun I2 L2 t2 u2 hI ha hb => ?_)
    simp (config := { decide := true, maxDischargeDepth := 20 }) only [↓reduceIte, KV_i, KV_v, wsm_0, wsm_i, wsm_l, wsm_r, dlV_i, dlV_r, dlV_l, dlV_j, cat_i, cat_l, cat_r, rf_s, true_and, and_true, and_self, if_true, if_false, ite_true, ite_false, eq_self, true_or, or_true, false_or, or_false, not_true_eq_false, not_false_eq_true, r271_1097, r271_1098, r271_1099, r271_1100, r271_1101, r271_1102, r271_1103, r271_1104, r271_1105, r271_1106, r271_1107, r271_1108, r271_1109, r271_1110, r271_1111, r271_1112, r271_1113, r271_1116, r271_1117, r271_1120, r271_1121, r271_1124, r271_1125, r271_1126, r271_1127, r271_1128, r271_1129, r271_1130, r271_1131, r271_1132, r271_1133, r271_1134, r271_1135, r271_1136, r271_1137, r271_1138, r271_1139, r271_1140, r271_1143, r271_1144, r271_1147, r271_1148, r271_1151, r271_1154, r271_1155, r271_1435, r271_1438, a7, e7]
    exact hn t2 u2 I2 L2 hI ha hb
  · obtain ⟨r, P, ⟨⟨v, rfl⟩, hx, hc⟩, hm⟩ := p_less (d := I 1000 (7 * j + 1)) (e := I 1000 (7 * j + 2)) (w := 1) h
    simp (config := { decide := true, maxDischargeDepth := 20 }) only [↓reduceIte, KV_i, KV_v, wsm_0, wsm_i, wsm_l, wsm_r, dlV_i, dlV_r, dlV_l, dlV_j, cat_i, cat_l, cat_r, rf_s, true_and, and_true, and_self, if_true, if_false, ite_true, ite_false, eq_self, true_or, or_true, false_or, or_false, not_true_eq_false, not_false_eq_true, r271_1097, r271_1098, r271_1099, r271_1100, r271_1101, r271_1102, r271_1103, r271_1104, r271_1105, r271_1106, r271_1107, r271_1108, r271_1109, r271_1110, r271_1111, r271_1112, r271_1113, r271_1116, r271_1117, r271_1120, r271_1121, r271_1124, r271_1125, r271_1126, r271_1127, r271_1128, r271_1129, r271_1130, r271_1131, r271_1132, r271_1133, r271_1134, r271_1135, r271_1136, r271_1137, r271_1138, r271_1139, r271_1140, r271_1143, r271_1144, r271_1147, r271_1148, r271_1151, r271_1154, r271_1155, ob_0, ob_70, tg1, l0, a1, x1, c1, a2, x2, c2, a3, x3, c3, a7, z]
    refine hc _ (fun I1 L1 t1 u1 hP => ?_)
    obtain ⟨e0, e1⟩ := hx I1 L1 t1 u1 hP
    have l1 : lnX 123 I1 1000 = Ln := by unfold lnX; rw [if_neg (by decide), if_pos rfl, e1, hL]; exact nI_clamp (by omega)
    simp (config := { decide := true, maxDischargeDepth := 20 }) only [↓reduceIte, KV_i, KV_v, wsm_0, wsm_i, wsm_l, wsm_r, dlV_i, dlV_r, dlV_l, dlV_j, cat_i, cat_l, cat_r, rf_s, true_and, and_true, and_self, if_true, if_false, ite_true, ite_false, eq_self, true_or, or_true, false_or, or_false, not_true_eq_false, not_false_eq_true, r271_1097, r271_1098, r271_1099, r271_1100, r271_1101, r271_1102, r271_1103, r271_1104, r271_1105, r271_1106, r271_1107, r271_1108, r271_1109, r271_1110, r271_1111, r271_1112, r271_1113, r271_1116, r271_1117, r271_1120, r271_1121, r271_1124, r271_1125, r271_1126, r271_1127, r271_1128, r271_1129, r271_1130, r271_1131, r271_1132, r271_1133, r271_1134, r271_1135, r271_1136, r271_1137, r271_1138, r271_1139, r271_1140, r271_1143, r271_1144, r271_1147, r271_1148, r271_1151, r271_1154, r271_1155, ob_0, ob_70, tg1, l1, e0, a1, x1, c1, a2, x2, c2, a3, x3, c3, a7, z]
    refine hm I1 L1 t1 u1 hP _ (fun I2 L2 t2 u2 hI ha hb => ?_)
    simp (config := { decide := true, maxDischargeDepth := 20 }) only [↓reduceIte, KV_i, KV_v, wsm_0, wsm_i, wsm_l, wsm_r, dlV_i, dlV_r, dlV_l, dlV_j, cat_i, cat_l, cat_r, rf_s, true_and, and_true, and_self, if_true, if_false, ite_true, ite_false, eq_self, true_or, or_true, false_or, or_false, not_true_eq_false, not_false_eq_true, r271_1097, r271_1098, r271_1099, r271_1100, r271_1101, r271_1102, r271_1103, r271_1104, r271_1105, r271_1106, r271_1107, r271_1108, r271_1109, r271_1110, r271_1111, r271_1112, r271_1113, r271_1116, r271_1117, r271_1120, r271_1121, r271_1124, r271_1125, r271_1126, r271_1127, r271_1128, r271_1129, r271_1130, r271_1131, r271_1132, r271_1133, r271_1134, r271_1135, r271_1136, r271_1137, r271_1138, r271_1139, r271_1140, r271_1143, r271_1144, r271_1147, r271_1148, r271_1151, r271_1154, r271_1155, r271_1435, r271_1438, a7, e7]
    exact hn t2 u2 I2 L2 hI ha hb
theorem lcs_24 {t : Nat} {u : Option Nat} {I : AI} {L : AL} {B j Ln : Nat} {Q : PQ} (h : INV t u I L B) (hB : B < 2 ^ 30) (hL : I 1001 0 = nI Ln) (hj : 7 * j + 7 ≤ Ln) (hl : Ln ≤ 3584) (hn : ∀ t2 u2 I2 L2, INV t2 u2 I2 L2 (B + 5) → I2 1000 = I 1000 → I2 1001 = I 1001 → V 271 18 [.ref 1000, .ref 0, .ref 70, .int (nI (7 * (j + 1)))] [] 123 I2 L2 (RX t2 u2) Q) : V 271 1156 [.ref 1000, .ref 0, .ref 70, .int (nI (7 * j))] [] 123 I L (RX t u) Q := by
  have tg1 : tgX 123 1000 = 0 := rfl
  have l0 : lnX 123 I 1000 = Ln := by unfold lnX; rw [if_neg (by decide), if_pos rfl, hL]; exact nI_clamp (by omega)
  have e7 : 7 * j + 7 = 7 * (j + 1) := by omega
  have a1 : nI (7 * j) + 1 = nI (7 * j + 1) := nI_add _ _
  have x1 := inT (a := 7 * j + 1) (N := Ln) (by omega) (by omega)
  have c1 := nI_clamp (n := 7 * j + 1) (by omega)
  have a7 : nI (7 * j) + 7 = nI (7 * j + 7) := nI_add _ _
  obtain ⟨r, P, ⟨⟨v, rfl⟩, hx, hc⟩, hm⟩ := p_reply (d := I 1000 (7 * j + 1)) h
  simp (config := { decide := true, maxDischargeDepth := 20 }) only [↓reduceIte, KV_i, KV_v, wsm_0, wsm_i, wsm_l, wsm_r, dlV_i, dlV_r, dlV_l, dlV_j, cat_i, cat_l, cat_r, rf_s, true_and, and_true, and_self, if_true, if_false, ite_true, ite_false, eq_self, true_or, or_true, false_or, or_false, not_true_eq_false, not_false_eq_true, r271_1156, r271_1157, r271_1158, r271_1159, r271_1160, r271_1161, r271_1162, r271_1165, r271_1166, r271_1167, r271_1168, r271_1169, r271_1170, r271_1171, r271_1174, r271_1177, r271_1178, ob_0, ob_70, tg1, l0, a1, x1, c1, a7]
  refine hc _ (fun I1 L1 t1 u1 hP => ?_)
  obtain ⟨e0, e1⟩ := hx I1 L1 t1 u1 hP
  have l1 : lnX 123 I1 1000 = Ln := by unfold lnX; rw [if_neg (by decide), if_pos rfl, e1, hL]; exact nI_clamp (by omega)
  simp (config := { decide := true, maxDischargeDepth := 20 }) only [↓reduceIte, KV_i, KV_v, wsm_0, wsm_i, wsm_l, wsm_r, dlV_i, dlV_r, dlV_l, dlV_j, cat_i, cat_l, cat_r, rf_s, true_and, and_true, and_self, if_true, if_false, ite_true, ite_false, eq_self, true_or, or_true, false_or, or_false, not_true_eq_false, not_false_eq_true, r271_1156, r271_1157, r271_1158, r271_1159, r271_1160, r271_1161, r271_1162, r271_1165, r271_1166, r271_1167, r271_1168, r271_1169, r271_1170, r271_1171, r271_1174, r271_1177, r271_1178, ob_0, ob_70, tg1, l1, e0, a1, x1, c1, a7]
  refine hm I1 L1 t1 u1 hP _ (fun I2 L2 t2 u2 hI ha hb => ?_)
  simp (config := { decide := true, maxDischargeDepth := 20 }) only [↓reduceIte, KV_i, KV_v, wsm_0, wsm_i, wsm_l, wsm_r, dlV_i, dlV_r, dlV_l, dlV_j, cat_i, cat_l, cat_r, rf_s, true_and, and_true, and_self, if_true, if_false, ite_true, ite_false, eq_self, true_or, or_true, false_or, or_false, not_true_eq_false, not_false_eq_true, r271_1156, r271_1157, r271_1158, r271_1159, r271_1160, r271_1161, r271_1162, r271_1165, r271_1166, r271_1167, r271_1168, r271_1169, r271_1170, r271_1171, r271_1174, r271_1177, r271_1178, r271_1435, r271_1438, a7, e7]
  exact hn t2 u2 I2 L2 hI ha hb
theorem lcs_25 {t : Nat} {u : Option Nat} {I : AI} {L : AL} {B j Ln : Nat} {Q : PQ} (h : INV t u I L B) (hB : B < 2 ^ 30) (hL : I 1001 0 = nI Ln) (hj : 7 * j + 7 ≤ Ln) (hl : Ln ≤ 3584) (hn : ∀ t2 u2 I2 L2, INV t2 u2 I2 L2 (B + 5) → I2 1000 = I 1000 → I2 1001 = I 1001 → V 271 18 [.ref 1000, .ref 0, .ref 70, .int (nI (7 * (j + 1)))] [] 123 I2 L2 (RX t2 u2) Q) : V 271 1179 [.ref 1000, .ref 0, .ref 70, .int (nI (7 * j))] [] 123 I L (RX t u) Q := by
  have tg1 : tgX 123 1000 = 0 := rfl
  have l0 : lnX 123 I 1000 = Ln := by unfold lnX; rw [if_neg (by decide), if_pos rfl, hL]; exact nI_clamp (by omega)
  have e7 : 7 * j + 7 = 7 * (j + 1) := by omega
  have a1 : nI (7 * j) + 1 = nI (7 * j + 1) := nI_add _ _
  have x1 := inT (a := 7 * j + 1) (N := Ln) (by omega) (by omega)
  have c1 := nI_clamp (n := 7 * j + 1) (by omega)
  have a7 : nI (7 * j) + 7 = nI (7 * j + 7) := nI_add _ _
  obtain ⟨r, P, ⟨⟨v, rfl⟩, hx, hc⟩, hm⟩ := p_rests (i := I 1000 (7 * j + 1)) h
  simp (config := { decide := true, maxDischargeDepth := 20 }) only [↓reduceIte, KV_i, KV_v, wsm_0, wsm_i, wsm_l, wsm_r, dlV_i, dlV_r, dlV_l, dlV_j, cat_i, cat_l, cat_r, rf_s, true_and, and_true, and_self, if_true, if_false, ite_true, ite_false, eq_self, true_or, or_true, false_or, or_false, not_true_eq_false, not_false_eq_true, r271_1179, r271_1180, r271_1181, r271_1182, r271_1183, r271_1184, r271_1185, r271_1188, r271_1189, r271_1190, r271_1191, r271_1192, r271_1193, r271_1194, r271_1197, r271_1200, r271_1201, ob_0, ob_70, tg1, l0, a1, x1, c1, a7]
  refine hc _ (fun I1 L1 t1 u1 hP => ?_)
  obtain ⟨e0, e1⟩ := hx I1 L1 t1 u1 hP
  have l1 : lnX 123 I1 1000 = Ln := by unfold lnX; rw [if_neg (by decide), if_pos rfl, e1, hL]; exact nI_clamp (by omega)
  simp (config := { decide := true, maxDischargeDepth := 20 }) only [↓reduceIte, KV_i, KV_v, wsm_0, wsm_i, wsm_l, wsm_r, dlV_i, dlV_r, dlV_l, dlV_j, cat_i, cat_l, cat_r, rf_s, true_and, and_true, and_self, if_true, if_false, ite_true, ite_false, eq_self, true_or, or_true, false_or, or_false, not_true_eq_false, not_false_eq_true, r271_1179, r271_1180, r271_1181, r271_1182, r271_1183, r271_1184, r271_1185, r271_1188, r271_1189, r271_1190, r271_1191, r271_1192, r271_1193, r271_1194, r271_1197, r271_1200, r271_1201, ob_0, ob_70, tg1, l1, e0, a1, x1, c1, a7]
  refine hm I1 L1 t1 u1 hP _ (fun I2 L2 t2 u2 hI ha hb => ?_)
  simp (config := { decide := true, maxDischargeDepth := 20 }) only [↓reduceIte, KV_i, KV_v, wsm_0, wsm_i, wsm_l, wsm_r, dlV_i, dlV_r, dlV_l, dlV_j, cat_i, cat_l, cat_r, rf_s, true_and, and_true, and_self, if_true, if_false, ite_true, ite_false, eq_self, true_or, or_true, false_or, or_false, not_true_eq_false, not_false_eq_true, r271_1179, r271_1180, r271_1181, r271_1182, r271_1183, r271_1184, r271_1185, r271_1188, r271_1189, r271_1190, r271_1191, r271_1192, r271_1193, r271_1194, r271_1197, r271_1200, r271_1201, r271_1435, r271_1438, a7, e7]
  exact hn t2 u2 I2 L2 hI ha hb
theorem lcs_26 {t : Nat} {u : Option Nat} {I : AI} {L : AL} {B j Ln : Nat} {Q : PQ} (h : INV t u I L B) (hB : B < 2 ^ 30) (hL : I 1001 0 = nI Ln) (hj : 7 * j + 7 ≤ Ln) (hl : Ln ≤ 3584) (hn : ∀ t2 u2 I2 L2, INV t2 u2 I2 L2 (B + 5) → I2 1000 = I 1000 → I2 1001 = I 1001 → V 271 18 [.ref 1000, .ref 0, .ref 70, .int (nI (7 * (j + 1)))] [] 123 I2 L2 (RX t2 u2) Q) : V 271 1202 [.ref 1000, .ref 0, .ref 70, .int (nI (7 * j))] [] 123 I L (RX t u) Q := by
  have tg1 : tgX 123 1000 = 0 := rfl
  have l0 : lnX 123 I 1000 = Ln := by unfold lnX; rw [if_neg (by decide), if_pos rfl, hL]; exact nI_clamp (by omega)
  have e7 : 7 * j + 7 = 7 * (j + 1) := by omega
  have a7 : nI (7 * j) + 7 = nI (7 * j + 7) := nI_add _ _
  obtain ⟨r, P, ⟨⟨v, rfl⟩, hx, hc⟩, hm⟩ := p_fine  h
  simp (config := { decide := true, maxDischargeDepth := 20 }) only [↓reduceIte, KV_i, KV_v, wsm_0, wsm_i, wsm_l, wsm_r, dlV_i, dlV_r, dlV_l, dlV_j, cat_i, cat_l, cat_r, rf_s, true_and, and_true, and_self, if_true, if_false, ite_true, ite_false, eq_self, true_or, or_true, false_or, or_false, not_true_eq_false, not_false_eq_true, r271_1202, r271_1203, r271_1206, r271_1207, r271_1210, r271_1213, r271_1214, ob_0, ob_70, tg1, l0, a7]
  refine hc _ (fun I1 L1 t1 u1 hP => ?_)
  obtain ⟨e0, e1⟩ := hx I1 L1 t1 u1 hP
  have l1 : lnX 123 I1 1000 = Ln := by unfold lnX; rw [if_neg (by decide), if_pos rfl, e1, hL]; exact nI_clamp (by omega)
  simp (config := { decide := true, maxDischargeDepth := 20 }) only [↓reduceIte, KV_i, KV_v, wsm_0, wsm_i, wsm_l, wsm_r, dlV_i, dlV_r, dlV_l, dlV_j, cat_i, cat_l, cat_r, rf_s, true_and, and_true, and_self, if_true, if_false, ite_true, ite_false, eq_self, true_or, or_true, false_or, or_false, not_true_eq_false, not_false_eq_true, r271_1202, r271_1203, r271_1206, r271_1207, r271_1210, r271_1213, r271_1214, ob_0, ob_70, tg1, l1, e0, a7]
  refine hm I1 L1 t1 u1 hP _ (fun I2 L2 t2 u2 hI ha hb => ?_)
  simp (config := { decide := true, maxDischargeDepth := 20 }) only [↓reduceIte, KV_i, KV_v, wsm_0, wsm_i, wsm_l, wsm_r, dlV_i, dlV_r, dlV_l, dlV_j, cat_i, cat_l, cat_r, rf_s, true_and, and_true, and_self, if_true, if_false, ite_true, ite_false, eq_self, true_or, or_true, false_or, or_false, not_true_eq_false, not_false_eq_true, r271_1202, r271_1203, r271_1206, r271_1207, r271_1210, r271_1213, r271_1214, r271_1435, r271_1438, a7, e7]
  exact hn t2 u2 I2 L2 hI ha hb
theorem lcs_27 {t : Nat} {u : Option Nat} {I : AI} {L : AL} {B j Ln : Nat} {Q : PQ} (h : INV t u I L B) (hB : B < 2 ^ 30) (hL : I 1001 0 = nI Ln) (hj : 7 * j + 7 ≤ Ln) (hl : Ln ≤ 3584) (hn : ∀ t2 u2 I2 L2, INV t2 u2 I2 L2 (B + 5) → I2 1000 = I 1000 → I2 1001 = I 1001 → V 271 18 [.ref 1000, .ref 0, .ref 70, .int (nI (7 * (j + 1)))] [] 123 I2 L2 (RX t2 u2) Q) : V 271 1215 [.ref 1000, .ref 0, .ref 70, .int (nI (7 * j))] [] 123 I L (RX t u) Q := by
  have tg1 : tgX 123 1000 = 0 := rfl
  have l0 : lnX 123 I 1000 = Ln := by unfold lnX; rw [if_neg (by decide), if_pos rfl, hL]; exact nI_clamp (by omega)
  have e7 : 7 * j + 7 = 7 * (j + 1) := by omega
  have a1 : nI (7 * j) + 1 = nI (7 * j + 1) := nI_add _ _
  have x1 := inT (a := 7 * j + 1) (N := Ln) (by omega) (by omega)
  have c1 := nI_clamp (n := 7 * j + 1) (by omega)
  have a7 : nI (7 * j) + 7 = nI (7 * j + 7) := nI_add _ _
  obtain ⟨r, P, ⟨⟨v, rfl⟩, hx, hc⟩, hm⟩ := p_pays (p := I 1000 (7 * j + 1)) h
  simp (config := { decide := true, maxDischargeDepth := 20 }) only [↓reduceIte, KV_i, KV_v, wsm_0, wsm_i, wsm_l, wsm_r, dlV_i, dlV_r, dlV_l, dlV_j, cat_i, cat_l, cat_r, rf_s, true_and, and_true, and_self, if_true, if_false, ite_true, ite_false, eq_self, true_or, or_true, false_or, or_false, not_true_eq_false, not_false_eq_true, r271_1215, r271_1216, r271_1217, r271_1218, r271_1219, r271_1220, r271_1221, r271_1224, r271_1225, r271_1226, r271_1227, r271_1228, r271_1229, r271_1230, r271_1233, r271_1236, r271_1237, ob_0, ob_70, tg1, l0, a1, x1, c1, a7]
  refine hc _ (fun I1 L1 t1 u1 hP => ?_)
  obtain ⟨e0, e1⟩ := hx I1 L1 t1 u1 hP
  have l1 : lnX 123 I1 1000 = Ln := by unfold lnX; rw [if_neg (by decide), if_pos rfl, e1, hL]; exact nI_clamp (by omega)
  simp (config := { decide := true, maxDischargeDepth := 20 }) only [↓reduceIte, KV_i, KV_v, wsm_0, wsm_i, wsm_l, wsm_r, dlV_i, dlV_r, dlV_l, dlV_j, cat_i, cat_l, cat_r, rf_s, true_and, and_true, and_self, if_true, if_false, ite_true, ite_false, eq_self, true_or, or_true, false_or, or_false, not_true_eq_false, not_false_eq_true, r271_1215, r271_1216, r271_1217, r271_1218, r271_1219, r271_1220, r271_1221, r271_1224, r271_1225, r271_1226, r271_1227, r271_1228, r271_1229, r271_1230, r271_1233, r271_1236, r271_1237, ob_0, ob_70, tg1, l1, e0, a1, x1, c1, a7]
  refine hm I1 L1 t1 u1 hP _ (fun I2 L2 t2 u2 hI ha hb => ?_)
  simp (config := { decide := true, maxDischargeDepth := 20 }) only [↓reduceIte, KV_i, KV_v, wsm_0, wsm_i, wsm_l, wsm_r, dlV_i, dlV_r, dlV_l, dlV_j, cat_i, cat_l, cat_r, rf_s, true_and, and_true, and_self, if_true, if_false, ite_true, ite_false, eq_self, true_or, or_true, false_or, or_false, not_true_eq_false, not_false_eq_true, r271_1215, r271_1216, r271_1217, r271_1218, r271_1219, r271_1220, r271_1221, r271_1224, r271_1225, r271_1226, r271_1227, r271_1228, r271_1229, r271_1230, r271_1233, r271_1236, r271_1237, r271_1435, r271_1438, a7, e7]
  exact hn t2 u2 I2 L2 hI ha hb
theorem lcs_28 {t : Nat} {u : Option Nat} {I : AI} {L : AL} {B j Ln : Nat} {Q : PQ} (h : INV t u I L B) (hB : B < 2 ^ 30) (hL : I 1001 0 = nI Ln) (hj : 7 * j + 7 ≤ Ln) (hl : Ln ≤ 3584) (hn : ∀ t2 u2 I2 L2, INV t2 u2 I2 L2 (B + 5) → I2 1000 = I 1000 → I2 1001 = I 1001 → V 271 18 [.ref 1000, .ref 0, .ref 70, .int (nI (7 * (j + 1)))] [] 123 I2 L2 (RX t2 u2) Q) : V 271 1238 [.ref 1000, .ref 0, .ref 70, .int (nI (7 * j))] [] 123 I L (RX t u) Q := by
  have tg1 : tgX 123 1000 = 0 := rfl
  have l0 : lnX 123 I 1000 = Ln := by unfold lnX; rw [if_neg (by decide), if_pos rfl, hL]; exact nI_clamp (by omega)
  have e7 : 7 * j + 7 = 7 * (j + 1) := by omega
  have a1 : nI (7 * j) + 1 = nI (7 * j + 1) := nI_add _ _
  have x1 := inT (a := 7 * j + 1) (N := Ln) (by omega) (by omega)
  have c1 := nI_clamp (n := 7 * j + 1) (by omega)
  have a2 : nI (7 * j) + 2 = nI (7 * j + 2) := nI_add _ _
  have x2 := inT (a := 7 * j + 2) (N := Ln) (by omega) (by omega)
  have c2 := nI_clamp (n := 7 * j + 2) (by omega)
  have a3 : nI (7 * j) + 3 = nI (7 * j + 3) := nI_add _ _
  have x3 := inT (a := 7 * j + 3) (N := Ln) (by omega) (by omega)
  have c3 := nI_clamp (n := 7 * j + 3) (by omega)
  have a7 : nI (7 * j) + 7 = nI (7 * j + 7) := nI_add _ _
  obtain ⟨r, P, ⟨⟨v, rfl⟩, hx, hc⟩, hm⟩ := p_tell (a := I 1000 (7 * j + 1)) (p := I 1000 (7 * j + 2)) (m := I 1000 (7 * j + 3)) h
  simp (config := { decide := true, maxDischargeDepth := 20 }) only [↓reduceIte, KV_i, KV_v, wsm_0, wsm_i, wsm_l, wsm_r, dlV_i, dlV_r, dlV_l, dlV_j, cat_i, cat_l, cat_r, rf_s, true_and, and_true, and_self, if_true, if_false, ite_true, ite_false, eq_self, true_or, or_true, false_or, or_false, not_true_eq_false, not_false_eq_true, r271_1238, r271_1239, r271_1240, r271_1241, r271_1242, r271_1243, r271_1244, r271_1245, r271_1246, r271_1247, r271_1248, r271_1249, r271_1250, r271_1251, r271_1252, r271_1253, r271_1254, r271_1257, r271_1258, r271_1259, r271_1260, r271_1261, r271_1262, r271_1263, r271_1264, r271_1265, r271_1266, r271_1267, r271_1268, r271_1269, r271_1270, r271_1271, r271_1272, r271_1273, r271_1276, r271_1279, r271_1280, ob_0, ob_70, tg1, l0, a1, x1, c1, a2, x2, c2, a3, x3, c3, a7]
  refine hc _ (fun I1 L1 t1 u1 hP => ?_)
  obtain ⟨e0, e1⟩ := hx I1 L1 t1 u1 hP
  have l1 : lnX 123 I1 1000 = Ln := by unfold lnX; rw [if_neg (by decide), if_pos rfl, e1, hL]; exact nI_clamp (by omega)
  simp (config := { decide := true, maxDischargeDepth := 20 }) only [↓reduceIte, KV_i, KV_v, wsm_0, wsm_i, wsm_l, wsm_r, dlV_i, dlV_r, dlV_l, dlV_j, cat_i, cat_l, cat_r, rf_s, true_and, and_true, and_self, if_true, if_false, ite_true, ite_false, eq_self, true_or, or_true, false_or, or_false, not_true_eq_false, not_false_eq_true, r271_1238, r271_1239, r271_1240, r271_1241, r271_1242, r271_1243, r271_1244, r271_1245, r271_1246, r271_1247, r271_1248, r271_1249, r271_1250, r271_1251, r271_1252, r271_1253, r271_1254, r271_1257, r271_1258, r271_1259, r271_1260, r271_1261, r271_1262, r271_1263, r271_1264, r271_1265, r271_1266, r271_1267, r271_1268, r271_1269, r271_1270, r271_1271, r271_1272, r271_1273, r271_1276, r271_1279, r271_1280, ob_0, ob_70, tg1, l1, e0, a1, x1, c1, a2, x2, c2, a3, x3, c3, a7]
  refine hm I1 L1 t1 u1 hP _ (fun I2 L2 t2 u2 hI ha hb => ?_)
  simp (config := { decide := true, maxDischargeDepth := 20 }) only [↓reduceIte, KV_i, KV_v, wsm_0, wsm_i, wsm_l, wsm_r, dlV_i, dlV_r, dlV_l, dlV_j, cat_i, cat_l, cat_r, rf_s, true_and, and_true, and_self, if_true, if_false, ite_true, ite_false, eq_self, true_or, or_true, false_or, or_false, not_true_eq_false, not_false_eq_true, r271_1238, r271_1239, r271_1240, r271_1241, r271_1242, r271_1243, r271_1244, r271_1245, r271_1246, r271_1247, r271_1248, r271_1249, r271_1250, r271_1251, r271_1252, r271_1253, r271_1254, r271_1257, r271_1258, r271_1259, r271_1260, r271_1261, r271_1262, r271_1263, r271_1264, r271_1265, r271_1266, r271_1267, r271_1268, r271_1269, r271_1270, r271_1271, r271_1272, r271_1273, r271_1276, r271_1279, r271_1280, r271_1435, r271_1438, a7, e7]
  exact hn t2 u2 I2 L2 hI ha hb
theorem lcs_29 {t : Nat} {u : Option Nat} {I : AI} {L : AL} {B j Ln : Nat} {Q : PQ} (h : INV t u I L B) (hB : B < 2 ^ 30) (hL : I 1001 0 = nI Ln) (hj : 7 * j + 7 ≤ Ln) (hl : Ln ≤ 3584) (hn : ∀ t2 u2 I2 L2, INV t2 u2 I2 L2 (B + 5) → I2 1000 = I 1000 → I2 1001 = I 1001 → V 271 18 [.ref 1000, .ref 0, .ref 70, .int (nI (7 * (j + 1)))] [] 123 I2 L2 (RX t2 u2) Q) : V 271 1281 [.ref 1000, .ref 0, .ref 70, .int (nI (7 * j))] [] 123 I L (RX t u) Q := by
  have tg1 : tgX 123 1000 = 0 := rfl
  have l0 : lnX 123 I 1000 = Ln := by unfold lnX; rw [if_neg (by decide), if_pos rfl, hL]; exact nI_clamp (by omega)
  have e7 : 7 * j + 7 = 7 * (j + 1) := by omega
  have a7 : nI (7 * j) + 7 = nI (7 * j + 7) := nI_add _ _
  obtain ⟨r, P, ⟨⟨v, rfl⟩, hx, hc⟩, hm⟩ := p_forget  h
  simp (config := { decide := true, maxDischargeDepth := 20 }) only [↓reduceIte, KV_i, KV_v, wsm_0, wsm_i, wsm_l, wsm_r, dlV_i, dlV_r, dlV_l, dlV_j, cat_i, cat_l, cat_r, rf_s, true_and, and_true, and_self, if_true, if_false, ite_true, ite_false, eq_self, true_or, or_true, false_or, or_false, not_true_eq_false, not_false_eq_true, r271_1281, r271_1282, r271_1285, r271_1286, r271_1289, r271_1292, r271_1293, ob_0, ob_70, tg1, l0, a7]
  refine hc _ (fun I1 L1 t1 u1 hP => ?_)
  obtain ⟨e0, e1⟩ := hx I1 L1 t1 u1 hP
  have l1 : lnX 123 I1 1000 = Ln := by unfold lnX; rw [if_neg (by decide), if_pos rfl, e1, hL]; exact nI_clamp (by omega)
  simp (config := { decide := true, maxDischargeDepth := 20 }) only [↓reduceIte, KV_i, KV_v, wsm_0, wsm_i, wsm_l, wsm_r, dlV_i, dlV_r, dlV_l, dlV_j, cat_i, cat_l, cat_r, rf_s, true_and, and_true, and_self, if_true, if_false, ite_true, ite_false, eq_self, true_or, or_true, false_or, or_false, not_true_eq_false, not_false_eq_true, r271_1281, r271_1282, r271_1285, r271_1286, r271_1289, r271_1292, r271_1293, ob_0, ob_70, tg1, l1, e0, a7]
  refine hm I1 L1 t1 u1 hP _ (fun I2 L2 t2 u2 hI ha hb => ?_)
  simp (config := { decide := true, maxDischargeDepth := 20 }) only [↓reduceIte, KV_i, KV_v, wsm_0, wsm_i, wsm_l, wsm_r, dlV_i, dlV_r, dlV_l, dlV_j, cat_i, cat_l, cat_r, rf_s, true_and, and_true, and_self, if_true, if_false, ite_true, ite_false, eq_self, true_or, or_true, false_or, or_false, not_true_eq_false, not_false_eq_true, r271_1281, r271_1282, r271_1285, r271_1286, r271_1289, r271_1292, r271_1293, r271_1435, r271_1438, a7, e7]
  exact hn t2 u2 I2 L2 hI ha hb
theorem lcs_30 {t : Nat} {u : Option Nat} {I : AI} {L : AL} {B j Ln : Nat} {Q : PQ} (h : INV t u I L B) (hB : B < 2 ^ 30) (hL : I 1001 0 = nI Ln) (hj : 7 * j + 7 ≤ Ln) (hl : Ln ≤ 3584) (hn : ∀ t2 u2 I2 L2, INV t2 u2 I2 L2 (B + 5) → I2 1000 = I 1000 → I2 1001 = I 1001 → V 271 18 [.ref 1000, .ref 0, .ref 70, .int (nI (7 * (j + 1)))] [] 123 I2 L2 (RX t2 u2) Q) : V 271 1294 [.ref 1000, .ref 0, .ref 70, .int (nI (7 * j))] [] 123 I L (RX t u) Q := by
  have tg1 : tgX 123 1000 = 0 := rfl
  have l0 : lnX 123 I 1000 = Ln := by unfold lnX; rw [if_neg (by decide), if_pos rfl, hL]; exact nI_clamp (by omega)
  have e7 : 7 * j + 7 = 7 * (j + 1) := by omega
  have a1 : nI (7 * j) + 1 = nI (7 * j + 1) := nI_add _ _
  have x1 := inT (a := 7 * j + 1) (N := Ln) (by omega) (by omega)
  have c1 := nI_clamp (n := 7 * j + 1) (by omega)
  have a2 : nI (7 * j) + 2 = nI (7 * j + 2) := nI_add _ _
  have x2 := inT (a := 7 * j + 2) (N := Ln) (by omega) (by omega)
  have c2 := nI_clamp (n := 7 * j + 2) (by omega)
  have a3 : nI (7 * j) + 3 = nI (7 * j + 3) := nI_add _ _
  have x3 := inT (a := 7 * j + 3) (N := Ln) (by omega) (by omega)
  have c3 := nI_clamp (n := 7 * j + 3) (by omega)
  have a7 : nI (7 * j) + 7 = nI (7 * j + 7) := nI_add _ _
  by_cases z : I 1000 (7 * j + 3) = 0
  · obtain ⟨r, P, ⟨⟨v, rfl⟩, hx, hc⟩, hm⟩ := p_meant (a := I 1000 (7 * j + 1)) (k := I 1000 (7 * j + 2)) (z := 0) h
    simp (config := { decide := true, maxDischargeDepth := 20 }) only [↓reduceIte, KV_i, KV_v, wsm_0, wsm_i, wsm_l, wsm_r, dlV_i, dlV_r, dlV_l, dlV_j, cat_i, cat_l, cat_r, rf_s, true_and, and_true, and_self, if_true, if_false, ite_true, ite_false, eq_self, true_or, or_true, false_or, or_false, not_true_eq_false, not_false_eq_true, r271_1294, r271_1295, r271_1296, r271_1297, r271_1298, r271_1299, r271_1300, r271_1301, r271_1302, r271_1303, r271_1304, r271_1305, r271_1306, r271_1307, r271_1308, r271_1309, r271_1310, r271_1313, r271_1314, r271_1317, r271_1318, r271_1321, r271_1322, r271_1323, r271_1324, r271_1325, r271_1326, r271_1327, r271_1328, r271_1329, r271_1330, r271_1331, r271_1332, r271_1333, r271_1334, r271_1335, r271_1336, r271_1337, r271_1340, r271_1341, r271_1344, r271_1345, r271_1348, r271_1351, r271_1352, ob_0, ob_70, tg1, l0, a1, x1, c1, a2, x2, c2, a3, x3, c3, a7, z]
    refine hc _ (fun I1 L1 t1 u1 hP => ?_)
    obtain ⟨e0, e1⟩ := hx I1 L1 t1 u1 hP
    have l1 : lnX 123 I1 1000 = Ln := by unfold lnX; rw [if_neg (by decide), if_pos rfl, e1, hL]; exact nI_clamp (by omega)
    simp (config := { decide := true, maxDischargeDepth := 20 }) only [↓reduceIte, KV_i, KV_v, wsm_0, wsm_i, wsm_l, wsm_r, dlV_i, dlV_r, dlV_l, dlV_j, cat_i, cat_l, cat_r, rf_s, true_and, and_true, and_self, if_true, if_false, ite_true, ite_false, eq_self, true_or, or_true, false_or, or_false, not_true_eq_false, not_false_eq_true, r271_1294, r271_1295, r271_1296, r271_1297, r271_1298, r271_1299, r271_1300, r271_1301, r271_1302, r271_1303, r271_1304, r271_1305, r271_1306, r271_1307, r271_1308, r271_1309, r271_1310, r271_1313, r271_1314, r271_1317, r271_1318, r271_1321, r271_1322, r271_1323, r271_1324, r271_1325, r271_1326, r271_1327, r271_1328, r271_1329, r271_1330, r271_1331, r271_1332, r271_1333, r271_1334, r271_1335, r271_1336, r271_1337, r271_1340, r271_1341, r271_1344, r271_1345, r271_1348, r271_1351, r271_1352, ob_0, ob_70, tg1, l1, e0, a1, x1, c1, a2, x2, c2, a3, x3, c3, a7, z]
    refine hm I1 L1 t1 u1 hP _ (fun I2 L2 t2 u2 hI ha hb => ?_)
    simp (config := { decide := true, maxDischargeDepth := 20 }) only [↓reduceIte, KV_i, KV_v, wsm_0, wsm_i, wsm_l, wsm_r, dlV_i, dlV_r, dlV_l, dlV_j, cat_i, cat_l, cat_r, rf_s, true_and, and_true, and_self, if_true, if_false, ite_true, ite_false, eq_self, true_or, or_true, false_or, or_false, not_true_eq_false, not_false_eq_true, r271_1294, r271_1295, r271_1296, r271_1297, r271_1298, r271_1299, r271_1300, r271_1301, r271_1302, r271_1303, r271_1304, r271_1305, r271_1306, r271_1307, r271_1308, r271_1309, r271_1310, r271_1313, r271_1314, r271_1317, r271_1318, r271_1321, r271_1322, r271_1323, r271_1324, r271_1325, r271_1326, r271_1327, r271_1328, r271_1329, r271_1330, r271_1331, r271_1332, r271_1333, r271_1334, r271_1335, r271_1336, r271_1337, r271_1340, r271_1341, r271_1344, r271_1345, r271_1348, r271_1351, r271_1352, r271_1435, r271_1438, a7, e7]
    exact hn t2 u2 I2 L2 hI ha hb
  · obtain ⟨r, P, ⟨⟨v, rfl⟩, hx, hc⟩, hm⟩ := p_meant (a := I 1000 (7 * j + 1)) (k := I 1000 (7 * j + 2)) (z := 1) h
    simp (config := { decide := true, maxDischargeDepth := 20 }) only [↓reduceIte, KV_i, KV_v, wsm_0, wsm_i, wsm_l, wsm_r, dlV_i, dlV_r, dlV_l, dlV_j, cat_i, cat_l, cat_r, rf_s, true_and, and_true, and_self, if_true, if_false, ite_true, ite_false, eq_self, true_or, or_true, false_or, or_false, not_true_eq_false, not_false_eq_true, r271_1294, r271_1295, r271_1296, r271_1297, r271_1298, r271_1299, r271_1300, r271_1301, r271_1302, r271_1303, r271_1304, r271_1305, r271_1306, r271_1307, r271_1308, r271_1309, r271_1310, r271_1313, r271_1314, r271_1317, r271_1318, r271_1321, r271_1322, r271_1323, r271_1324, r271_1325, r271_1326, r271_1327, r271_1328, r271_1329, r271_1330, r271_1331, r271_1332, r271_1333, r271_1334, r271_1335, r271_1336, r271_1337, r271_1340, r271_1341, r271_1344, r271_1345, r271_1348, r271_1351, r271_1352, ob_0, ob_70, tg1, l0, a1, x1, c1, a2, x2, c2, a3, x3, c3, a7, z]
    refine hc _ (fun I1 L1 t1 u1 hP => ?_)
    obtain ⟨e0, e1⟩ := hx I1 L1 t1 u1 hP
    have l1 : lnX 123 I1 1000 = Ln := by unfold lnX; rw [if_neg (by decide), if_pos rfl, e1, hL]; exact nI_clamp (by omega)
    simp (config := { decide := true, maxDischargeDepth := 20 }) only [↓reduceIte, KV_i, KV_v, wsm_0, wsm_i, wsm_l, wsm_r, dlV_i, dlV_r, dlV_l, dlV_j, cat_i, cat_l, cat_r, rf_s, true_and, and_true, and_self, if_true, if_false, ite_true, ite_false, eq_self, true_or, or_true, false_or, or_false, not_true_eq_false, not_false_eq_true, r271_1294, r271_1295, r271_1296, r271_1297, r271_1298, r271_1299, r271_1300, r271_1301, r271_1302, r271_1303, r271_1304, r271_1305, r271_1306, r271_1307, r271_1308, r271_1309, r271_1310, r271_1313, r271_1314, r271_1317, r271_1318, r271_1321, r271_1322, r271_1323, r271_1324, r271_1325, r271_1326, r271_1327, r271_1328, r271_1329, r271_1330, r271_1331, r271_1332, r271_1333, r271_1334, r271_1335, r271_1336, r271_1337, r271_1340, r271_1341, r271_1344, r271_1345, r271_1348, r271_1351, r271_1352, ob_0, ob_70, tg1, l1, e0, a1, x1, c1, a2, x2, c2, a3, x3, c3, a7, z]
    refine hm I1 L1 t1 u1 hP _ (fun I2 L2 t2 u2 hI ha hb => ?_)
    simp (config := { decide := true, maxDischargeDepth := 20 }) only [↓reduceIte, KV_i, KV_v, wsm_0, wsm_i, wsm_l, wsm_r, dlV_i, dlV_r, dlV_l, dlV_j, cat_i, cat_l, cat_r, rf_s, true_and, and_true, and_self, if_true, if_false, ite_true, ite_false, eq_self, true_or, or_true, false_or, or_false, not_true_eq_false, not_false_eq_true, r271_1294, r271_1295, r271_1296, r271_1297, r271_1298, r271_1299, r271_1300, r271_1301, r271_1302, r271_1303, r271_1304, r271_1305, r271_1306, r271_1307, r271_1308, r271_1309, r271_1310, r271_1313, r271_1314, r271_1317, r271_1318, r271_1321, r271_1322, r271_1323, r271_1324, r271_1325, r271_1326, r271_1327, r271_1328, r271_1329, r271_1330, r271_1331, r271_1332, r271_1333, r271_1334, r271_1335, r271_1336, r271_1337, r271_1340, r271_1341, r271_1344, r271_1345, r271_1348, r271_1351, r271_1352, r271_1435, r271_1438, a7, e7]
    exact hn t2 u2 I2 L2 hI ha hb
theorem lcs_31 {t : Nat} {u : Option Nat} {I : AI} {L : AL} {B j Ln : Nat} {Q : PQ} (h : INV t u I L B) (hB : B < 2 ^ 30) (hL : I 1001 0 = nI Ln) (hj : 7 * j + 7 ≤ Ln) (hl : Ln ≤ 3584) (hn : ∀ t2 u2 I2 L2, INV t2 u2 I2 L2 (B + 5) → I2 1000 = I 1000 → I2 1001 = I 1001 → V 271 18 [.ref 1000, .ref 0, .ref 70, .int (nI (7 * (j + 1)))] [] 123 I2 L2 (RX t2 u2) Q) : V 271 1353 [.ref 1000, .ref 0, .ref 70, .int (nI (7 * j))] [] 123 I L (RX t u) Q := by
  have tg1 : tgX 123 1000 = 0 := rfl
  have l0 : lnX 123 I 1000 = Ln := by unfold lnX; rw [if_neg (by decide), if_pos rfl, hL]; exact nI_clamp (by omega)
  have e7 : 7 * j + 7 = 7 * (j + 1) := by omega
  have a7 : nI (7 * j) + 7 = nI (7 * j + 7) := nI_add _ _
  obtain ⟨r, P, ⟨⟨v, rfl⟩, hx, hc⟩, hm⟩ := p_set  h
  simp (config := { decide := true, maxDischargeDepth := 20 }) only [↓reduceIte, KV_i, KV_v, wsm_0, wsm_i, wsm_l, wsm_r, dlV_i, dlV_r, dlV_l, dlV_j, cat_i, cat_l, cat_r, rf_s, true_and, and_true, and_self, if_true, if_false, ite_true, ite_false, eq_self, true_or, or_true, false_or, or_false, not_true_eq_false, not_false_eq_true, r271_1353, r271_1354, r271_1357, r271_1358, r271_1361, r271_1364, r271_1365, ob_0, ob_70, tg1, l0, a7]
  refine hc _ (fun I1 L1 t1 u1 hP => ?_)
  obtain ⟨e0, e1⟩ := hx I1 L1 t1 u1 hP
  have l1 : lnX 123 I1 1000 = Ln := by unfold lnX; rw [if_neg (by decide), if_pos rfl, e1, hL]; exact nI_clamp (by omega)
  simp (config := { decide := true, maxDischargeDepth := 20 }) only [↓reduceIte, KV_i, KV_v, wsm_0, wsm_i, wsm_l, wsm_r, dlV_i, dlV_r, dlV_l, dlV_j, cat_i, cat_l, cat_r, rf_s, true_and, and_true, and_self, if_true, if_false, ite_true, ite_false, eq_self, true_or, or_true, false_or, or_false, not_true_eq_false, not_false_eq_true, r271_1353, r271_1354, r271_1357, r271_1358, r271_1361, r271_1364, r271_1365, ob_0, ob_70, tg1, l1, e0, a7]
  refine hm I1 L1 t1 u1 hP _ (fun I2 L2 t2 u2 hI ha hb => ?_)
  simp (config := { decide := true, maxDischargeDepth := 20 }) only [↓reduceIte, KV_i, KV_v, wsm_0, wsm_i, wsm_l, wsm_r, dlV_i, dlV_r, dlV_l, dlV_j, cat_i, cat_l, cat_r, rf_s, true_and, and_true, and_self, if_true, if_false, ite_true, ite_false, eq_self, true_or, or_true, false_or, or_false, not_true_eq_false, not_false_eq_true, r271_1353, r271_1354, r271_1357, r271_1358, r271_1361, r271_1364, r271_1365, r271_1435, r271_1438, a7, e7]
  exact hn t2 u2 I2 L2 hI ha hb
theorem lcs_32 {t : Nat} {u : Option Nat} {I : AI} {L : AL} {B j Ln : Nat} {Q : PQ} (h : INV t u I L B) (hB : B < 2 ^ 30) (hL : I 1001 0 = nI Ln) (hj : 7 * j + 7 ≤ Ln) (hl : Ln ≤ 3584) (hn : ∀ t2 u2 I2 L2, INV t2 u2 I2 L2 (B + 5) → I2 1000 = I 1000 → I2 1001 = I 1001 → V 271 18 [.ref 1000, .ref 0, .ref 70, .int (nI (7 * (j + 1)))] [] 123 I2 L2 (RX t2 u2) Q) : V 271 1366 [.ref 1000, .ref 0, .ref 70, .int (nI (7 * j))] [] 123 I L (RX t u) Q := by
  have tg1 : tgX 123 1000 = 0 := rfl
  have l0 : lnX 123 I 1000 = Ln := by unfold lnX; rw [if_neg (by decide), if_pos rfl, hL]; exact nI_clamp (by omega)
  have e7 : 7 * j + 7 = 7 * (j + 1) := by omega
  have a1 : nI (7 * j) + 1 = nI (7 * j + 1) := nI_add _ _
  have x1 := inT (a := 7 * j + 1) (N := Ln) (by omega) (by omega)
  have c1 := nI_clamp (n := 7 * j + 1) (by omega)
  have a7 : nI (7 * j) + 7 = nI (7 * j + 7) := nI_add _ _
  obtain ⟨r, P, ⟨⟨v, rfl⟩, hx, hc⟩, hm⟩ := p_hold (x := I 1000 (7 * j + 1)) h
  simp (config := { decide := true, maxDischargeDepth := 20 }) only [↓reduceIte, KV_i, KV_v, wsm_0, wsm_i, wsm_l, wsm_r, dlV_i, dlV_r, dlV_l, dlV_j, cat_i, cat_l, cat_r, rf_s, true_and, and_true, and_self, if_true, if_false, ite_true, ite_false, eq_self, true_or, or_true, false_or, or_false, not_true_eq_false, not_false_eq_true, r271_1366, r271_1367, r271_1368, r271_1369, r271_1370, r271_1371, r271_1372, r271_1375, r271_1376, r271_1377, r271_1378, r271_1379, r271_1380, r271_1381, r271_1384, r271_1387, r271_1388, ob_0, ob_70, tg1, l0, a1, x1, c1, a7]
  refine hc _ (fun I1 L1 t1 u1 hP => ?_)
  obtain ⟨e0, e1⟩ := hx I1 L1 t1 u1 hP
  have l1 : lnX 123 I1 1000 = Ln := by unfold lnX; rw [if_neg (by decide), if_pos rfl, e1, hL]; exact nI_clamp (by omega)
  simp (config := { decide := true, maxDischargeDepth := 20 }) only [↓reduceIte, KV_i, KV_v, wsm_0, wsm_i, wsm_l, wsm_r, dlV_i, dlV_r, dlV_l, dlV_j, cat_i, cat_l, cat_r, rf_s, true_and, and_true, and_self, if_true, if_false, ite_true, ite_false, eq_self, true_or, or_true, false_or, or_false, not_true_eq_false, not_false_eq_true, r271_1366, r271_1367, r271_1368, r271_1369, r271_1370, r271_1371, r271_1372, r271_1375, r271_1376, r271_1377, r271_1378, r271_1379, r271_1380, r271_1381, r271_1384, r271_1387, r271_1388, ob_0, ob_70, tg1, l1, e0, a1, x1, c1, a7]
  refine hm I1 L1 t1 u1 hP _ (fun I2 L2 t2 u2 hI ha hb => ?_)
  simp (config := { decide := true, maxDischargeDepth := 20 }) only [↓reduceIte, KV_i, KV_v, wsm_0, wsm_i, wsm_l, wsm_r, dlV_i, dlV_r, dlV_l, dlV_j, cat_i, cat_l, cat_r, rf_s, true_and, and_true, and_self, if_true, if_false, ite_true, ite_false, eq_self, true_or, or_true, false_or, or_false, not_true_eq_false, not_false_eq_true, r271_1366, r271_1367, r271_1368, r271_1369, r271_1370, r271_1371, r271_1372, r271_1375, r271_1376, r271_1377, r271_1378, r271_1379, r271_1380, r271_1381, r271_1384, r271_1387, r271_1388, r271_1435, r271_1438, a7, e7]
  exact hn t2 u2 I2 L2 hI ha hb
theorem lcs_33 {t : Nat} {u : Option Nat} {I : AI} {L : AL} {B j Ln : Nat} {Q : PQ} (h : INV t u I L B) (hB : B < 2 ^ 30) (hL : I 1001 0 = nI Ln) (hj : 7 * j + 7 ≤ Ln) (hl : Ln ≤ 3584) (hn : ∀ t2 u2 I2 L2, INV t2 u2 I2 L2 (B + 5) → I2 1000 = I 1000 → I2 1001 = I 1001 → V 271 18 [.ref 1000, .ref 0, .ref 70, .int (nI (7 * (j + 1)))] [] 123 I2 L2 (RX t2 u2) Q) : V 271 1389 [.ref 1000, .ref 0, .ref 70, .int (nI (7 * j))] [] 123 I L (RX t u) Q := by
  have tg1 : tgX 123 1000 = 0 := rfl
  have l0 : lnX 123 I 1000 = Ln := by unfold lnX; rw [if_neg (by decide), if_pos rfl, hL]; exact nI_clamp (by omega)
  have e7 : 7 * j + 7 = 7 * (j + 1) := by omega
  have a1 : nI (7 * j) + 1 = nI (7 * j + 1) := nI_add _ _
  have x1 := inT (a := 7 * j + 1) (N := Ln) (by omega) (by omega)
  have c1 := nI_clamp (n := 7 * j + 1) (by omega)
  have a7 : nI (7 * j) + 7 = nI (7 * j + 7) := nI_add _ _
  obtain ⟨r, P, ⟨⟨v, rfl⟩, hx, hc⟩, hm⟩ := p_restore (x := I 1000 (7 * j + 1)) h
  simp (config := { decide := true, maxDischargeDepth := 20 }) only [↓reduceIte, KV_i, KV_v, wsm_0, wsm_i, wsm_l, wsm_r, dlV_i, dlV_r, dlV_l, dlV_j, cat_i, cat_l, cat_r, rf_s, true_and, and_true, and_self, if_true, if_false, ite_true, ite_false, eq_self, true_or, or_true, false_or, or_false, not_true_eq_false, not_false_eq_true, r271_1389, r271_1390, r271_1391, r271_1392, r271_1393, r271_1394, r271_1395, r271_1398, r271_1399, r271_1400, r271_1401, r271_1402, r271_1403, r271_1404, r271_1407, r271_1410, r271_1411, ob_0, ob_70, tg1, l0, a1, x1, c1, a7]
  refine hc _ (fun I1 L1 t1 u1 hP => ?_)
  obtain ⟨e0, e1⟩ := hx I1 L1 t1 u1 hP
  have l1 : lnX 123 I1 1000 = Ln := by unfold lnX; rw [if_neg (by decide), if_pos rfl, e1, hL]; exact nI_clamp (by omega)
  simp (config := { decide := true, maxDischargeDepth := 20 }) only [↓reduceIte, KV_i, KV_v, wsm_0, wsm_i, wsm_l, wsm_r, dlV_i, dlV_r, dlV_l, dlV_j, cat_i, cat_l, cat_r, rf_s, true_and, and_true, and_self, if_true, if_false, ite_true, ite_false, eq_self, true_or, or_true, false_or, or_false, not_true_eq_false, not_false_eq_true, r271_1389, r271_1390, r271_1391, r271_1392, r271_1393, r271_1394, r271_1395, r271_1398, r271_1399, r271_1400, r271_1401, r271_1402, r271_1403, r271_1404, r271_1407, r271_1410, r271_1411, ob_0, ob_70, tg1, l1, e0, a1, x1, c1, a7]
  refine hm I1 L1 t1 u1 hP _ (fun I2 L2 t2 u2 hI ha hb => ?_)
  simp (config := { decide := true, maxDischargeDepth := 20 }) only [↓reduceIte, KV_i, KV_v, wsm_0, wsm_i, wsm_l, wsm_r, dlV_i, dlV_r, dlV_l, dlV_j, cat_i, cat_l, cat_r, rf_s, true_and, and_true, and_self, if_true, if_false, ite_true, ite_false, eq_self, true_or, or_true, false_or, or_false, not_true_eq_false, not_false_eq_true, r271_1389, r271_1390, r271_1391, r271_1392, r271_1393, r271_1394, r271_1395, r271_1398, r271_1399, r271_1400, r271_1401, r271_1402, r271_1403, r271_1404, r271_1407, r271_1410, r271_1411, r271_1435, r271_1438, a7, e7]
  exact hn t2 u2 I2 L2 hI ha hb
theorem lcs_34 {t : Nat} {u : Option Nat} {I : AI} {L : AL} {B j Ln : Nat} {Q : PQ} (h : INV t u I L B) (hB : B < 2 ^ 30) (hL : I 1001 0 = nI Ln) (hj : 7 * j + 7 ≤ Ln) (hl : Ln ≤ 3584) (hn : ∀ t2 u2 I2 L2, INV t2 u2 I2 L2 (B + 5) → I2 1000 = I 1000 → I2 1001 = I 1001 → V 271 18 [.ref 1000, .ref 0, .ref 70, .int (nI (7 * (j + 1)))] [] 123 I2 L2 (RX t2 u2) Q) : V 271 1412 [.ref 1000, .ref 0, .ref 70, .int (nI (7 * j))] [] 123 I L (RX t u) Q := by
  have tg1 : tgX 123 1000 = 0 := rfl
  have l0 : lnX 123 I 1000 = Ln := by unfold lnX; rw [if_neg (by decide), if_pos rfl, hL]; exact nI_clamp (by omega)
  have e7 : 7 * j + 7 = 7 * (j + 1) := by omega
  have a1 : nI (7 * j) + 1 = nI (7 * j + 1) := nI_add _ _
  have x1 := inT (a := 7 * j + 1) (N := Ln) (by omega) (by omega)
  have c1 := nI_clamp (n := 7 * j + 1) (by omega)
  have a7 : nI (7 * j) + 7 = nI (7 * j + 7) := nI_add _ _
  obtain ⟨r, P, ⟨⟨v, rfl⟩, hx, hc⟩, hm⟩ := p_count (w := I 1000 (7 * j + 1)) h
  simp (config := { decide := true, maxDischargeDepth := 20 }) only [↓reduceIte, KV_i, KV_v, wsm_0, wsm_i, wsm_l, wsm_r, dlV_i, dlV_r, dlV_l, dlV_j, cat_i, cat_l, cat_r, rf_s, true_and, and_true, and_self, if_true, if_false, ite_true, ite_false, eq_self, true_or, or_true, false_or, or_false, not_true_eq_false, not_false_eq_true, r271_1412, r271_1413, r271_1414, r271_1415, r271_1416, r271_1417, r271_1418, r271_1421, r271_1422, r271_1423, r271_1424, r271_1425, r271_1426, r271_1427, r271_1430, r271_1433, r271_1434, ob_0, ob_70, tg1, l0, a1, x1, c1, a7]
  refine hc _ (fun I1 L1 t1 u1 hP => ?_)
  obtain ⟨e0, e1⟩ := hx I1 L1 t1 u1 hP
  have l1 : lnX 123 I1 1000 = Ln := by unfold lnX; rw [if_neg (by decide), if_pos rfl, e1, hL]; exact nI_clamp (by omega)
  simp (config := { decide := true, maxDischargeDepth := 20 }) only [↓reduceIte, KV_i, KV_v, wsm_0, wsm_i, wsm_l, wsm_r, dlV_i, dlV_r, dlV_l, dlV_j, cat_i, cat_l, cat_r, rf_s, true_and, and_true, and_self, if_true, if_false, ite_true, ite_false, eq_self, true_or, or_true, false_or, or_false, not_true_eq_false, not_false_eq_true, r271_1412, r271_1413, r271_1414, r271_1415, r271_1416, r271_1417, r271_1418, r271_1421, r271_1422, r271_1423, r271_1424, r271_1425, r271_1426, r271_1427, r271_1430, r271_1433, r271_1434, ob_0, ob_70, tg1, l1, e0, a1, x1, c1, a7]
  refine hm I1 L1 t1 u1 hP _ (fun I2 L2 t2 u2 hI ha hb => ?_)
  simp (config := { decide := true, maxDischargeDepth := 20 }) only [↓reduceIte, KV_i, KV_v, wsm_0, wsm_i, wsm_l, wsm_r, dlV_i, dlV_r, dlV_l, dlV_j, cat_i, cat_l, cat_r, rf_s, true_and, and_true, and_self, if_true, if_false, ite_true, ite_false, eq_self, true_or, or_true, false_or, or_false, not_true_eq_false, not_false_eq_true, r271_1412, r271_1413, r271_1414, r271_1415, r271_1416, r271_1417, r271_1418, r271_1421, r271_1422, r271_1423, r271_1424, r271_1425, r271_1426, r271_1427, r271_1430, r271_1433, r271_1434, r271_1435, r271_1438, a7, e7]
  exact hn t2 u2 I2 L2 hI ha hb
theorem lw_loop2 {xs : Nat → Int32} {Ln : Nat} (hl : Ln ≤ 3584) : ∀ m j t u (I : AI) (L : AL), j + m = Ln / 7 → INV t u I L (5 * j + 5) → I 1001 0 = nI Ln → V 271 18 [.ref 1000, .ref 0, .ref 70, .int (nI (7 * j))] [] 123 I L (RX t u) (fun r n1 _ _ _ => r = some (.int 1) ∧ n1 ≤ 123) := by
  intro m
  induction m with
  | zero =>
    intro j t u I L hj h hL
    have tg1 : tgX 123 1000 = 0 := rfl
    have l0 : lnX 123 I 1000 = Ln := by unfold lnX; rw [if_neg (by decide), if_pos rfl, hL]; exact nI_clamp (by omega)
    have c : (Int32.ofNat Ln - 7 < nI (7 * j)) = True := by
      by_cases z : 7 ≤ Ln
      · have e : nI Ln - 7 = nI (Ln - 7) := pk_sub (a := Ln) (b := 7) (by omega)
        show (nI Ln - 7 < nI (7 * j)) = True
        rw [e]
        exact ltT (by omega) (by omega)
      · have j0 : j = 0 := by omega
        subst j0
        have : ∀ n, n < 7 → (nI n - 7 < nI (7 * 0)) := by decide
        exact eq_true (this Ln (by omega))
    rw [r271_18]
    simp (config := { decide := true, maxDischargeDepth := 20 }) only [↓reduceIte, KV_i, KV_v, wsm_0, wsm_i, wsm_l, wsm_r, dlV_i, dlV_r, dlV_l, dlV_j, cat_i, cat_l, cat_r, rf_s, true_and, and_true, and_self, if_true, if_false, ite_true, ite_false, eq_self, true_or, or_true, false_or, or_false, not_true_eq_false, not_false_eq_true, r271_19, r271_20, r271_21, r271_23, r271_24, r271_1441, r271_1442, tg1, l0, c]
  | succ m ih =>
    intro j t u I L hj h hL
    have hj7 : 7 * j + 7 ≤ Ln := by omega
    have tg1 : tgX 123 1000 = 0 := rfl
    have l0 : lnX 123 I 1000 = Ln := by unfold lnX; rw [if_neg (by decide), if_pos rfl, hL]; exact nI_clamp (by omega)
    have c : (Int32.ofNat Ln - 7 < nI (7 * j)) = False := by
      have e : nI Ln - 7 = nI (Ln - 7) := pk_sub (a := Ln) (b := 7) (by omega)
      show (nI Ln - 7 < nI (7 * j)) = False
      rw [e]
      exact ltF (by omega) (by omega)
    have x0 := inT (a := 7 * j) (N := Ln) (by omega) (by omega)
    have c0 := nI_clamp (n := 7 * j) (by omega)
    have a7 : nI (7 * j) + 7 = nI (7 * j + 7) := nI_add _ _
    have e7 : 7 * j + 7 = 7 * (j + 1) := by omega
    have hB : 5 * j + 5 < 2 ^ 30 := by omega
    have nx : ∀ t2 u2 I2 L2, INV t2 u2 I2 L2 (5 * j + 5 + 5) → I2 1000 = I 1000 → I2 1001 = I 1001 → V 271 18 [.ref 1000, .ref 0, .ref 70, .int (nI (7 * (j + 1)))] [] 123 I2 L2 (RX t2 u2) (fun r n1 _ _ _ => r = some (.int 1) ∧ n1 ≤ 123) := fun t2 u2 I2 L2 h2 ha hb => ih (j + 1) t2 u2 I2 L2 (by omega) h2 (by rw [hb]; exact hL)
    rw [r271_18]
    simp (config := { decide := true, maxDischargeDepth := 20 }) only [↓reduceIte, KV_i, KV_v, wsm_0, wsm_i, wsm_l, wsm_r, dlV_i, dlV_r, dlV_l, dlV_j, cat_i, cat_l, cat_r, rf_s, true_and, and_true, and_self, if_true, if_false, ite_true, ite_false, eq_self, true_or, or_true, false_or, or_false, not_true_eq_false, not_false_eq_true, r271_19, r271_20, r271_21, r271_23, r271_24, r271_27, r271_28, r271_29, r271_30, r271_32, tg1, l0, c, x0, c0]
    rw [r271_33]
    by_cases w0 : I 1000 (7 * j) &&& 63 = 0
    · rw [if_pos w0]; exact lcs_0 h hB hL hj7 hl nx
    rw [if_neg w0]
    by_cases w1 : I 1000 (7 * j) &&& 63 = 1
    · rw [if_pos w1]; exact lcs_1 h hB hL hj7 hl nx
    rw [if_neg w1]
    by_cases w2 : I 1000 (7 * j) &&& 63 = 2
    · rw [if_pos w2]; exact lcs_2 h hB hL hj7 hl nx
    rw [if_neg w2]
    by_cases w3 : I 1000 (7 * j) &&& 63 = 3
    · rw [if_pos w3]; exact lcs_3 h hB hL hj7 hl nx
    rw [if_neg w3]
    by_cases w4 : I 1000 (7 * j) &&& 63 = 4
    · rw [if_pos w4]; exact lcs_4 h hB hL hj7 hl nx
    rw [if_neg w4]
    by_cases w5 : I 1000 (7 * j) &&& 63 = 5
    · rw [if_pos w5]; exact lcs_5 h hB hL hj7 hl nx
    rw [if_neg w5]
    by_cases w6 : I 1000 (7 * j) &&& 63 = 6
    · rw [if_pos w6]; exact lcs_6 h hB hL hj7 hl nx
    rw [if_neg w6]
    by_cases w7 : I 1000 (7 * j) &&& 63 = 7
    · rw [if_pos w7]; exact lcs_7 h hB hL hj7 hl nx
    rw [if_neg w7]
    by_cases w8 : I 1000 (7 * j) &&& 63 = 8
    · rw [if_pos w8]; exact lcs_8 h hB hL hj7 hl nx
    rw [if_neg w8]
    by_cases w9 : I 1000 (7 * j) &&& 63 = 9
    · rw [if_pos w9]; exact lcs_9 h hB hL hj7 hl nx
    rw [if_neg w9]
    by_cases w10 : I 1000 (7 * j) &&& 63 = 10
    · rw [if_pos w10]; exact lcs_10 h hB hL hj7 hl nx
    rw [if_neg w10]
    by_cases w11 : I 1000 (7 * j) &&& 63 = 11
    · rw [if_pos w11]; exact lcs_11 h hB hL hj7 hl nx
    rw [if_neg w11]
    by_cases w12 : I 1000 (7 * j) &&& 63 = 12
    · rw [if_pos w12]; exact lcs_12 h hB hL hj7 hl nx
    rw [if_neg w12]
    by_cases w13 : I 1000 (7 * j) &&& 63 = 13
    · rw [if_pos w13]; exact lcs_13 h hB hL hj7 hl nx
    rw [if_neg w13]
    by_cases w14 : I 1000 (7 * j) &&& 63 = 14
    · rw [if_pos w14]; exact lcs_14 h hB hL hj7 hl nx
    rw [if_neg w14]
    by_cases w15 : I 1000 (7 * j) &&& 63 = 15
    · rw [if_pos w15]; exact lcs_15 h hB hL hj7 hl nx
    rw [if_neg w15]
    by_cases w16 : I 1000 (7 * j) &&& 63 = 16
    · rw [if_pos w16]; exact lcs_16 h hB hL hj7 hl nx
    rw [if_neg w16]
    by_cases w17 : I 1000 (7 * j) &&& 63 = 17
    · rw [if_pos w17]; exact lcs_17 h hB hL hj7 hl nx
    rw [if_neg w17]
    by_cases w18 : I 1000 (7 * j) &&& 63 = 18
    · rw [if_pos w18]; exact lcs_18 h hB hL hj7 hl nx
    rw [if_neg w18]
    by_cases w19 : I 1000 (7 * j) &&& 63 = 19
    · rw [if_pos w19]; exact lcs_19 h hB hL hj7 hl nx
    rw [if_neg w19]
    by_cases w20 : I 1000 (7 * j) &&& 63 = 20
    · rw [if_pos w20]; exact lcs_20 h hB hL hj7 hl nx
    rw [if_neg w20]
    by_cases w21 : I 1000 (7 * j) &&& 63 = 21
    · rw [if_pos w21]; exact lcs_21 h hB hL hj7 hl nx
    rw [if_neg w21]
    by_cases w22 : I 1000 (7 * j) &&& 63 = 22
    · rw [if_pos w22]; exact lcs_22 h hB hL hj7 hl nx
    rw [if_neg w22]
    by_cases w23 : I 1000 (7 * j) &&& 63 = 23
    · rw [if_pos w23]; exact lcs_23 h hB hL hj7 hl nx
    rw [if_neg w23]
    by_cases w24 : I 1000 (7 * j) &&& 63 = 24
    · rw [if_pos w24]; exact lcs_24 h hB hL hj7 hl nx
    rw [if_neg w24]
    by_cases w25 : I 1000 (7 * j) &&& 63 = 25
    · rw [if_pos w25]; exact lcs_25 h hB hL hj7 hl nx
    rw [if_neg w25]
    by_cases w26 : I 1000 (7 * j) &&& 63 = 26
    · rw [if_pos w26]; exact lcs_26 h hB hL hj7 hl nx
    rw [if_neg w26]
    by_cases w27 : I 1000 (7 * j) &&& 63 = 27
    · rw [if_pos w27]; exact lcs_27 h hB hL hj7 hl nx
    rw [if_neg w27]
    by_cases w28 : I 1000 (7 * j) &&& 63 = 28
    · rw [if_pos w28]; exact lcs_28 h hB hL hj7 hl nx
    rw [if_neg w28]
    by_cases w29 : I 1000 (7 * j) &&& 63 = 29
    · rw [if_pos w29]; exact lcs_29 h hB hL hj7 hl nx
    rw [if_neg w29]
    by_cases w30 : I 1000 (7 * j) &&& 63 = 30
    · rw [if_pos w30]; exact lcs_30 h hB hL hj7 hl nx
    rw [if_neg w30]
    by_cases w31 : I 1000 (7 * j) &&& 63 = 31
    · rw [if_pos w31]; exact lcs_31 h hB hL hj7 hl nx
    rw [if_neg w31]
    by_cases w32 : I 1000 (7 * j) &&& 63 = 32
    · rw [if_pos w32]; exact lcs_32 h hB hL hj7 hl nx
    rw [if_neg w32]
    by_cases w33 : I 1000 (7 * j) &&& 63 = 33
    · rw [if_pos w33]; exact lcs_33 h hB hL hj7 hl nx
    rw [if_neg w33]
    by_cases w34 : I 1000 (7 * j) &&& 63 = 34
    · rw [if_pos w34]; exact lcs_34 h hB hL hj7 hl nx
    rw [if_neg w34]
    simp (config := { decide := true, maxDischargeDepth := 20 }) only [↓reduceIte, KV_i, KV_v, wsm_0, wsm_i, wsm_l, wsm_r, dlV_i, dlV_r, dlV_l, dlV_j, cat_i, cat_l, cat_r, rf_s, true_and, and_true, and_self, if_true, if_false, ite_true, ite_false, eq_self, true_or, or_true, false_or, or_false, not_true_eq_false, not_false_eq_true, r271_1435, r271_1438, a7, e7]
    exact nx t u I L (INV_up h) rfl rfl
