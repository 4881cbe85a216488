/-! READ: more of an E -/
theorem ex_l {kd pl vl : Nat → Nat} : ∀ r (S : PS) due cur stk out, (exP kd pl vl r S due cur stk out).1.2.2.2 = S.2.2.2 := by
  intro r
  induction r with
  | zero => intros; rfl
  | succ r ih =>
    intro S due cur stk out
    unfold exP
    repeat' split
    all_goals first | rfl | exact stop_l _ _ _ | (rw [ih, take_l])
theorem ex_le {kd pl vl : Nat → Nat} {n : Nat} {K3 K4 : Nat → Int32} {K5 : Nat → Int64} (hT : TKR kd pl vl n K3 K4 K5) : ∀ r (S : PS) due cur stk out, S.1 ≤ n → (exP kd pl vl r S due cur stk out).1.1 ≤ n := by
  intro r
  induction r with
  | zero => intro S due cur stk out h; exact h
  | succ r ih =>
    intro S due cur stk out h
    unfold exP
    repeat' split
    all_goals first | exact h | (rw [stop_x]; exact h) | (refine ih _ _ _ _ _ (take_le hT ?_ h); omega) | (exact ih _ _ _ _ _ (take_le hT (by decide) h)) | (show (stopP pl _ S).1 ≤ n; rw [stop_x]; exact h)
theorem c_readSum {t s : Nat} {I : AI} {L : AL} {Q : PQ} {S : PS} {len wl : Nat} {mk wt : Nat → Int32} (hs : s = 32 ∨ s = 51) {kd pl vl : Nat → Nat} {n : Nat} {K3 K4 : Nat → Int32} {K5 : Nat → Int64} (hT : TKR kd pl vl n K3 K4 K5) (h3 : I 3 = K3) (h4 : I 4 = K4) (h5 : L 5 = K5) (hv : ∀ j, kd j = 24 → vl j ≤ 9999) (hx : S.1 ≤ n) (hb : S.2.1 = 0 → len ≤ S.1 + 7) (hl8 : len ≤ 408) (hQ : ∀ mk' len' wt' wl', len' ≤ 408 → ((exP kd pl vl 401 S true (none, none) [] []).1.2.1 = 0 → mk' = apc mk len (exP kd pl vl 401 S true (none, none) [] []).2 ∧ len' = len + (exP kd pl vl 401 S true (none, none) [] []).2.length) → Q none 123 (wr (xm I s mk' len' wt' wl') (exP kd pl vl 401 S true (none, none) [] []).1) L (RX t (some s))) : V 39 0 [.ref 7, .retAddr 0, .retAddr 0, .retAddr 0, .retAddr 0] [] 123 (wr (xm I s mk len wt wl) S) L (RX t (some s)) Q := by
  have main : V 39 11 [.ref 7, .int 0, .int 1, .int 0, .retAddr 0] [] 123 (wr (xm I s mk len wt 0) S) L (RX t (some s)) Q := by
    by_cases e : S.2.1 = 0
    · exact lc_sum (len0 := len) (mk0 := mk) hs hT h3 h4 h5 hv 401 0 S true (none, none) [] [] wt (.retAddr 0) (by omega) hx e EXI_0 trivial (by have := hb e; show len + 0 + 0 + 0 ≤ S.1 + 7; omega) hQ
    · rw [sum_f hs e]
      rw [ex_f e] at hQ
      exact hQ mk len wt 0 hl8 (fun z => absurd z e)
  have z1 : up2 (xm I s mk len wt wl) 7 5 0 = xm I s mk len wt 0 := xu_7 hs 0
  rcases hs with rfl | rfl
  · simp (config := { decide := true, maxDischargeDepth := 20 }) only [↓reduceIte, KV_i, KV_v, wsm_0, wsm_i, wsm_l, wsm_r, dlV_i, dlV_r, dlV_l, dlV_j, cat_i, cat_l, cat_r, rf_s, true_and, and_true, and_self, if_true, if_false, ite_true, ite_false, eq_self, true_or, or_true, false_or, or_false, not_true_eq_false, not_false_eq_true, vn_0_45, vn_1_45, vn_2_45, vn_3_45, vn_4_45, vn_5_45, vn_6_45, vn_7_45, vn_8_45, vn_36_48, vn_37_48, vn_38_48, vn_39_48, vn_40_48, vn_41_48, vn_42_48, vn_43_48, vn_44_48, vn_0_9, vn_1_9, vn_2_9, vn_3_9, vn_4_9, vn_5_9, vn_6_9, vn_7_9, vn_8_9, vn_0_3, vn_1_3, vn_2_3, vn_0_4, vn_1_4, vn_2_4, vn_3_4, vn_0_64, vn_0_16, vn_0_400, vn_0_6, vn_0_14, Int32.reduceToNatClampNeg, Int32.reduceAdd, Int32.reduceSub, Int32.reduceMul, Int32.reduceLE, Int32.reduceLT, Nat.reduceAdd, nr_2, nr_30, nr_31, rd_2, rd_14, rd_71, rd_72, rd_101, rd_116, rd_121, up2_s, up2_n, upr_s, upr_n, ne_eq, not_false_eq_true, ob_0, ob_1, ob_7, ob_12, ob_17, ob_20, ob_23, ob_32, ob_46, ob_51, ob_65, rx_0_0, rx_0_1, rx_0_2, rx_0_3, rx_0_4, rx_0_5, rx_0_6, rx_0_7, rx_0_8, rx_0_9, rx_0_10, rx_1_0, rx_1_1, rx_1_2, rx_1_3, rx_1_4, rx_7_0, rx_7_1, rx_7_2, rx_7_3, rx_7_4, rx_12_0, rx_12_1, rx_12_2, rx_12_3, rx_17_0, rx_17_1, rx_20_0, rx_20_1, rx_23_0, rx_23_1, rx_23_2, rx_32_0, rx_32_1, rx_32_2, rx_32_3, rx_32_4, rx_32_5, rx_32_6, rx_32_7, rx_32_8, rx_32_9, rx_32_10, rx_32_11, rx_32_12, rx_32_13, rx_46_0, rx_46_1, rx_46_2, rx_46_3, rx_51_0, rx_51_1, rx_51_2, rx_51_3, rx_51_4, rx_51_5, rx_51_6, rx_51_7, rx_51_8, rx_51_9, rx_51_10, rx_51_11, rx_51_12, rx_51_13, rx_65_0, rx_65_1, rx_65_2, rx_65_3, rx_0_11, rx_0_12, rx_7_7, r39_0, r39_1, r39_2, r39_5, r39_6, r39_7, r39_8, r39_9, r39_10, r39_12, r39_15, r39_18, r39_19, r39_22, r39_25, r39_26, r39_29, r39_31, r39_32, r39_35, r39_37, r39_39, r39_42, r39_43, r39_45, r39_48, r39_49, r39_50, r39_53, r39_56, r39_57, r39_59, r39_62, r39_65, r39_66, r39_69, r39_70, r39_72, r39_75, r39_76, r39_77, r39_80, r39_82, r39_84, r39_87, r39_89, r39_91, r39_94, r39_95, r39_97, r39_99, r39_102, r39_104, r39_107, r39_109, r39_112, r39_113, r39_115, r39_118, r39_119, r39_120, r39_123, r39_125, r39_127, r39_130, r39_131, r39_134, r39_135, r39_137, r39_140, r39_141, r39_142, r39_145, r39_146, r39_147, r39_150, r39_153, r39_154, r39_156, r39_159, r39_160, r39_163, r39_164, r39_167, r39_168, r39_169, r39_172, r39_173, r39_175, r39_178, r39_179, r39_182, r39_185, wr_5, wr_6, wr_8, wr_9, wr_10, wr_11, wr_12, wr_n, wr_u7, wr_u8, wr_u9, wr_u10, wr_u11, wr_u12, wr_up, z1]
    exact main
  · simp (config := { decide := true, maxDischargeDepth := 20 }) only [↓reduceIte, KV_i, KV_v, wsm_0, wsm_i, wsm_l, wsm_r, dlV_i, dlV_r, dlV_l, dlV_j, cat_i, cat_l, cat_r, rf_s, true_and, and_true, and_self, if_true, if_false, ite_true, ite_false, eq_self, true_or, or_true, false_or, or_false, not_true_eq_false, not_false_eq_true, vn_0_45, vn_1_45, vn_2_45, vn_3_45, vn_4_45, vn_5_45, vn_6_45, vn_7_45, vn_8_45, vn_36_48, vn_37_48, vn_38_48, vn_39_48, vn_40_48, vn_41_48, vn_42_48, vn_43_48, vn_44_48, vn_0_9, vn_1_9, vn_2_9, vn_3_9, vn_4_9, vn_5_9, vn_6_9, vn_7_9, vn_8_9, vn_0_3, vn_1_3, vn_2_3, vn_0_4, vn_1_4, vn_2_4, vn_3_4, vn_0_64, vn_0_16, vn_0_400, vn_0_6, vn_0_14, Int32.reduceToNatClampNeg, Int32.reduceAdd, Int32.reduceSub, Int32.reduceMul, Int32.reduceLE, Int32.reduceLT, Nat.reduceAdd, nr_2, nr_30, nr_31, rd_2, rd_14, rd_71, rd_72, rd_101, rd_116, rd_121, up2_s, up2_n, upr_s, upr_n, ne_eq, not_false_eq_true, ob_0, ob_1, ob_7, ob_12, ob_17, ob_20, ob_23, ob_32, ob_46, ob_51, ob_65, rx_0_0, rx_0_1, rx_0_2, rx_0_3, rx_0_4, rx_0_5, rx_0_6, rx_0_7, rx_0_8, rx_0_9, rx_0_10, rx_1_0, rx_1_1, rx_1_2, rx_1_3, rx_1_4, rx_7_0, rx_7_1, rx_7_2, rx_7_3, rx_7_4, rx_12_0, rx_12_1, rx_12_2, rx_12_3, rx_17_0, rx_17_1, rx_20_0, rx_20_1, rx_23_0, rx_23_1, rx_23_2, rx_32_0, rx_32_1, rx_32_2, rx_32_3, rx_32_4, rx_32_5, rx_32_6, rx_32_7, rx_32_8, rx_32_9, rx_32_10, rx_32_11, rx_32_12, rx_32_13, rx_46_0, rx_46_1, rx_46_2, rx_46_3, rx_51_0, rx_51_1, rx_51_2, rx_51_3, rx_51_4, rx_51_5, rx_51_6, rx_51_7, rx_51_8, rx_51_9, rx_51_10, rx_51_11, rx_51_12, rx_51_13, rx_65_0, rx_65_1, rx_65_2, rx_65_3, rx_0_11, rx_0_12, rx_7_7, r39_0, r39_1, r39_2, r39_5, r39_6, r39_7, r39_8, r39_9, r39_10, r39_12, r39_15, r39_18, r39_19, r39_22, r39_25, r39_26, r39_29, r39_31, r39_32, r39_35, r39_37, r39_39, r39_42, r39_43, r39_45, r39_48, r39_49, r39_50, r39_53, r39_56, r39_57, r39_59, r39_62, r39_65, r39_66, r39_69, r39_70, r39_72, r39_75, r39_76, r39_77, r39_80, r39_82, r39_84, r39_87, r39_89, r39_91, r39_94, r39_95, r39_97, r39_99, r39_102, r39_104, r39_107, r39_109, r39_112, r39_113, r39_115, r39_118, r39_119, r39_120, r39_123, r39_125, r39_127, r39_130, r39_131, r39_134, r39_135, r39_137, r39_140, r39_141, r39_142, r39_145, r39_146, r39_147, r39_150, r39_153, r39_154, r39_156, r39_159, r39_160, r39_163, r39_164, r39_167, r39_168, r39_169, r39_172, r39_173, r39_175, r39_178, r39_179, r39_182, r39_185, wr_5, wr_6, wr_8, wr_9, wr_10, wr_11, wr_12, wr_n, wr_u7, wr_u8, wr_u9, wr_u10, wr_u11, wr_u12, wr_up, z1]
    exact main
theorem ex_SE {kd pl vl : Nat → Nat} : ∀ r (S Z : PS) due cur stk out, SE S Z → SE (exP kd pl vl r S due cur stk out).1 (exP kd pl vl r Z due cur stk out).1 ∧ (exP kd pl vl r S due cur stk out).2 = (exP kd pl vl r Z due cur stk out).2 := by
  intro r
  induction r with
  | zero => intro S Z due cur stk out h; exact ⟨h, rfl⟩
  | succ r ih =>
    intro S Z due cur stk out h
    by_cases e : S.2.1 = 0
    · have e2 : Z.2.1 = 0 := by rw [← h.1]; exact e
      have a := (h.2.2 e).1
      unfold exP
      rw [if_neg (show ¬ (S.2.1 ≠ 0) from fun q => q e), if_neg (show ¬ (Z.2.1 ≠ 0) from fun q => q e2), ← a]
      cases due with
      | true =>
        rw [if_pos rfl, if_pos rfl]
        by_cases q1 : kd S.1 = 32
        · rw [if_pos q1, if_pos q1]
          by_cases q2 : stk.length = 6
          · rw [if_pos q2, if_pos q2]; exact ⟨SE_stop (by decide) h, rfl⟩
          · rw [if_neg q2, if_neg q2]; exact ih _ _ _ _ _ _ (SE_take h)
        · rw [if_neg q1, if_neg q1]
          by_cases q2 : kd S.1 = 24
          · rw [if_pos q2, if_pos q2]; exact ih _ _ _ _ _ _ (SE_take h)
          · rw [if_neg q2, if_neg q2]
            by_cases q3 : 14 ≤ kd S.1 ∧ kd S.1 < 23
            · rw [if_pos q3, if_pos q3]; exact ih _ _ _ _ _ _ (SE_take h)
            · rw [if_neg q3, if_neg q3]; exact ⟨SE_stop (by decide) h, rfl⟩
      | false =>
        rw [if_neg (show ¬ (false = true) by decide), if_neg (show ¬ (false = true) by decide)]
        by_cases q1 : 27 ≤ kd S.1 ∧ kd S.1 ≤ 28
        · rw [if_pos q1, if_pos q1]; exact ih _ _ _ _ _ _ (SE_take h)
        · rw [if_neg q1, if_neg q1]
          by_cases q2 : 29 ≤ kd S.1 ∧ kd S.1 ≤ 30
          · rw [if_pos q2, if_pos q2]; exact ih _ _ _ _ _ _ (SE_take h)
          · rw [if_neg q2, if_neg q2]
            by_cases q3 : kd S.1 = 33 ∧ stk ≠ []
            · rw [if_pos q3, if_pos q3]; exact ih _ _ _ _ _ _ (SE_take h)
            · rw [if_neg q3, if_neg q3]
              refine ⟨?_, rfl⟩
              show SE (if stk = [] then S else stopP pl 1 S) (if stk = [] then Z else stopP pl 1 Z)
              by_cases q4 : stk = []
              · rw [if_pos q4, if_pos q4]; exact h
              · rw [if_neg q4, if_neg q4]; exact SE_stop (by decide) h
    · have e2 : Z.2.1 ≠ 0 := by rw [← h.1]; exact e
      rw [ex_f e, ex_f e2]
      exact ⟨h, rfl⟩
theorem ex_wf {kd pl vl : Nat → Nat} {n : Nat} {K3 K4 : Nat → Int32} {K5 : Nat → Int64} (hT : TKR kd pl vl n K3 K4 K5) (hv : ∀ j, kd j = 24 → vl j ≤ 9999) : ∀ r (S : PS) due cur stk out, S.1 ≤ n → (S.2.1 = 0 → 401 ≤ S.1 + r ∧ EXI due cur stk out) → (exP kd pl vl r S due cur stk out).1.2.1 = 0 → WFc (exP kd pl vl r S due cur stk out).2 ∧ S.1 ≤ (exP kd pl vl r S due cur stk out).1.1 ∧ (exP kd pl vl r S due cur stk out).2.length + S.1 ≤ out.length + nS cur + nL stk + (exP kd pl vl r S due cur stk out).1.1 := by
  intro r
  induction r with
  | zero =>
    intro S due cur stk out hx hE hf
    have := (hE hf).1
    have := hT.1
    omega
  | succ r ih =>
    intro S due cur stk out hx hE hf
    by_cases e : S.2.1 = 0
    · obtain ⟨hr, hE⟩ := hE e
      have go : ∀ q (due' : Bool) (cur' : Sg) (stk' : List Sg) (out' : Cd), q < 34 → (exP kd pl vl r (takeP kd pl q S) due' cur' stk' out').1.2.1 = 0 → EXI due' cur' stk' out' → out'.length + nS cur' + nL stk' ≤ out.length + nS cur + nL stk + 1 → WFc (exP kd pl vl r (takeP kd pl q S) due' cur' stk' out').2 ∧ S.1 ≤ (exP kd pl vl r (takeP kd pl q S) due' cur' stk' out').1.1 ∧ (exP kd pl vl r (takeP kd pl q S) due' cur' stk' out').2.length + S.1 ≤ out.length + nS cur + nL stk + (exP kd pl vl r (takeP kd pl q S) due' cur' stk' out').1.1 := by
        intro q due' cur' stk' out' hq f' hE' hb
        cases e4 : tkB kd q S
        · have f2 := take_f (pl := pl) e4
          rw [ex_f f2] at f'
          exact absurd f' f2
        · have tk := take_ok (pl := pl) e4
          have i1 := ih (takeP kd pl q S) due' cur' stk' out' (take_le hT hq hx) (fun _ => ⟨by rw [tk.1]; show 401 ≤ S.1 + 1 + r; omega, hE'⟩) f'
          have x1 : (takeP kd pl q S).1 = S.1 + 1 := by rw [tk.1]
          rw [x1] at i1
          exact ⟨i1.1, by omega, by omega⟩
      have nSd : nS cur = (opc cur.2).length + (opc cur.1).length := rfl
      have a2 : (out ++ sgO cur).length = out.length + nS cur := by rw [List.length_append]; unfold sgO nS; rw [List.length_append]
      have c2 : (out ++ opc cur.2).length = out.length + (opc cur.2).length := List.length_append
      have u2 : ∀ x : Nat ⊕ (Nat ⊕ Nat), (out ++ [x]).length = out.length + 1 := fun x => List.length_append
      unfold exP at hf ⊢
      rw [if_neg (fun q => q e)] at hf ⊢
      cases due with
      | true =>
        rw [if_pos rfl] at hf ⊢
        by_cases q1 : kd S.1 = 32
        · rw [if_pos q1] at hf ⊢
          by_cases q2 : stk.length = 6
          · rw [if_pos q2] at hf
            exact absurd hf (stop_n0 (by decide) e)
          · rw [if_neg q2] at hf ⊢
            exact go 32 _ _ _ _ (by decide) hf (EXI_open hE q2) (by show out.length + 0 + (nS cur + nL stk) ≤ _; omega)
        · rw [if_neg q1] at hf ⊢
          by_cases q2 : kd S.1 = 24
          · rw [if_pos q2] at hf ⊢
            exact go 24 _ _ _ _ (by decide) hf (EXI_unit (x := .inl (vl S.1)) (hv _ q2) (fun m hm => by rw [hg, if_pos hm]; rfl) hE) (by rw [u2]; omega)
          · rw [if_neg q2] at hf ⊢
            by_cases q3 : 14 ≤ kd S.1 ∧ kd S.1 < 23
            · rw [if_pos q3] at hf ⊢
              exact go (kd S.1) _ _ _ _ (by omega) hf (EXI_unit (x := .inr (.inl (kd S.1 - 14))) (show kd S.1 - 14 < 9 by omega) (fun m hm => by rw [hg, if_pos hm]; rfl) hE) (by rw [u2]; omega)
            · rw [if_neg q3] at hf
              exact absurd hf (stop_n0 (by decide) e)
      | false =>
        rw [if_neg (by decide)] at hf ⊢
        by_cases q1 : 27 ≤ kd S.1 ∧ kd S.1 ≤ 28
        · rw [if_pos q1] at hf ⊢
          exact go (kd S.1) _ _ _ _ (by omega) hf (EXI_sum (by omega) hE) (by rw [a2]; show out.length + nS cur + 1 + nL stk ≤ _; omega)
        · rw [if_neg q1] at hf ⊢
          by_cases q2 : 29 ≤ kd S.1 ∧ kd S.1 ≤ 30
          · rw [if_pos q2] at hf ⊢
            exact go (kd S.1) _ _ _ _ (by omega) hf (EXI_mul (by omega) hE) (by rw [c2]; show out.length + (opc cur.2).length + (1 + (opc cur.1).length) + nL stk ≤ _; omega)
          · rw [if_neg q2] at hf ⊢
            cases stk with
            | nil =>
              rw [if_neg (fun h => h.2 rfl), if_pos rfl] at hf ⊢
              exact ⟨EXI_end hE, Nat.le_refl _, by rw [a2]; show out.length + nS cur + S.1 ≤ out.length + nS cur + 0 + S.1; omega⟩
            | cons c0 rest =>
              by_cases q6 : kd S.1 = 33
              · rw [if_pos ⟨q6, by intro h; cases h⟩] at hf ⊢
                exact go 33 false c0 rest _ (by decide) hf (EXI_close hE) (by rw [a2]; show out.length + nS cur + nS c0 + nL rest ≤ out.length + nS cur + (nS c0 + nL rest) + 1; omega)
              · rw [if_neg (fun h => q6 h.1), if_neg (by intro h; cases h)] at hf
                exact absurd hf (stop_n0 (by decide) e)
    · rw [ex_f e] at hf
      exact absurd hf e
