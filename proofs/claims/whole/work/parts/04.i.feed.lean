/-! feed -/
def t4 (f : Nat → Int32) (k : Nat) (w : Int32) : Nat → Int32 := upr (upr (upr (upr f k (w >>> (24 &&& 31)).toInt8.toInt32) (k + 1) (w >>> (16 &&& 31)).toInt8.toInt32) (k + 2) (w >>> (8 &&& 31)).toInt8.toInt32) (k + 3) (w >>> (0 &&& 31)).toInt8.toInt32
def A4 (I : AI) (k : Nat) (w : Int32) : AI := upr (upr I 2 (t4 (I 2) k w)) 1 (upr (I 1) 5 (nI (k + 4)))
def B4 (I : AI) (k : Nat) (w : Int32) : AI := upr (upr I 71 (t4 (I 71) k w)) 70 (upr (I 70) 2 (nI (k + 4)))
theorem t4_c {f g : Nat → Int32} {k : Nat} {w : Int32} (h : ∀ i, i < k → f i = g i) : ∀ i, i < k + 4 → t4 f k w i = t4 g k w i := by
  intro i hi
  unfold t4
  simp only [upr_a]
  repeat' split
  all_goals first | rfl | (exact h i (by omega))
theorem f_addFour {t : Nat} {u : Option Nat} {I : AI} {L : AL} {Q : PQ} {k : Nat} {w : Int32} (hk : k + 4 ≤ 2000) (h5 : I 1 5 = nI k) : V 59 0 [.ref 1, .int w, .retAddr 0] [] 123 I L (RX t u) Q = Q none 123 (A4 I k w) L (RX t u) := by
  have d0 : ((2000 : Int32) ≤ nI k) = False := leF (a := 2000) (by omega) (by omega)
  have d1 : ((2000 : Int32) ≤ nI (k + 1)) = False := leF (a := 2000) (by omega) (by omega)
  have d2 : ((2000 : Int32) ≤ nI (k + 2)) = False := leF (a := 2000) (by omega) (by omega)
  have d3 : ((2000 : Int32) ≤ nI (k + 3)) = False := leF (a := 2000) (by omega) (by omega)
  have v0 := inT (a := k) (N := 2000) (by omega) (by decide)
  have v1 := inT (a := k + 1) (N := 2000) (by omega) (by decide)
  have v2 := inT (a := k + 2) (N := 2000) (by omega) (by decide)
  have v3 := inT (a := k + 3) (N := 2000) (by omega) (by decide)
  have c0 := nI_clamp (n := k) (by omega)
  have c1 := nI_clamp (n := k + 1) (by omega)
  have c2 := nI_clamp (n := k + 2) (by omega)
  have c3 := nI_clamp (n := k + 3) (by omega)
  have n1 := nI_1 k
  have n2 : nI (k + 1) + 1 = nI (k + 2) := nI_1 (k + 1)
  have n3 : nI (k + 2) + 1 = nI (k + 3) := nI_1 (k + 2)
  have n4 : nI (k + 3) + 1 = nI (k + 4) := nI_1 (k + 3)
  simp (config := { decide := true }) only [↓reduceIte, KV_i, KV_v, wsm_0, wsm_i, wsm_l, wsm_r, dlV_i, dlV_r, dlV_l, dlV_j, cat_i, cat_l, cat_r, rf_s, true_and, and_true, and_self, if_true, if_false, ite_true, ite_false, eq_self, true_or, or_true, false_or, or_false, not_true_eq_false, not_false_eq_true, vn_0_45, vn_1_45, vn_2_45, vn_3_45, vn_4_45, vn_5_45, vn_6_45, vn_7_45, vn_8_45, vn_36_48, vn_37_48, vn_38_48, vn_39_48, vn_40_48, vn_41_48, vn_42_48, vn_43_48, vn_44_48, vn_0_9, vn_1_9, vn_2_9, vn_3_9, vn_4_9, vn_5_9, vn_6_9, vn_7_9, vn_8_9, vn_0_3, vn_1_3, vn_2_3, vn_0_4, vn_1_4, vn_2_4, vn_3_4, vn_0_64, vn_0_16, vn_0_400, vn_0_6, vn_0_14, Int32.reduceToNatClampNeg, Int32.reduceAdd, Int32.reduceSub, Int32.reduceMul, Int32.reduceLE, Int32.reduceLT, Nat.reduceAdd, nr_2, nr_30, nr_31, rd_2, rd_14, rd_71, rd_72, rd_101, rd_116, rd_121, up2_s, up2_n, upr_s, upr_n, ne_eq, not_false_eq_true, ob_0, ob_1, ob_7, ob_12, ob_17, ob_20, ob_23, ob_32, ob_46, ob_51, ob_65, rx_0_0, rx_0_1, rx_0_2, rx_0_3, rx_0_4, rx_0_5, rx_0_6, rx_0_7, rx_0_8, rx_0_9, rx_0_10, rx_1_0, rx_1_1, rx_1_2, rx_1_3, rx_1_4, rx_7_0, rx_7_1, rx_7_2, rx_7_3, rx_7_4, rx_12_0, rx_12_1, rx_12_2, rx_12_3, rx_17_0, rx_17_1, rx_20_0, rx_20_1, rx_23_0, rx_23_1, rx_23_2, rx_32_0, rx_32_1, rx_32_2, rx_32_3, rx_32_4, rx_32_5, rx_32_6, rx_32_7, rx_32_8, rx_32_9, rx_32_10, rx_32_11, rx_32_12, rx_32_13, rx_46_0, rx_46_1, rx_46_2, rx_46_3, rx_51_0, rx_51_1, rx_51_2, rx_51_3, rx_51_4, rx_51_5, rx_51_6, rx_51_7, rx_51_8, rx_51_9, rx_51_10, rx_51_11, rx_51_12, rx_51_13, rx_65_0, rx_65_1, rx_65_2, rx_65_3, rx_0_11, rx_0_12, rx_7_7, r59_0, r59_2, r59_3, r59_4, r59_7, r59_8, r59_11, r59_14, r59_17, r59_18, r59_21, r59_22, r59_25, r59_26, r59_27, r59_28, r59_29, r59_30, r59_31, r59_32, r59_35, r59_36, r59_37, r59_40, r59_43, r59_46, tg_2, ln_2, h5, d0, d1, d2, d3, v0, v1, v2, v3, c0, c1, c2, c3, n1, n2, n3, n4, fb_byte_twice]
  congr 1
  funext a
  unfold A4 t4
  by_cases h1 : a = 1
  · subst h1
    simp (config := { decide := true }) only [up2_s, up2_n, upr_s, upr_n, upr_u, ne_eq, not_false_eq_true]
  · by_cases h2 : a = 2
    · subst h2
      simp (config := { decide := true }) only [up2_s, up2_n, upr_s, upr_n, upr_u, ne_eq, not_false_eq_true]
    · simp only [up2_n h1, up2_n h2, upr_n h1, upr_n h2]
theorem f_put {t : Nat} {u : Option Nat} {I : AI} {L : AL} {Q : PQ} {k : Nat} {w : Int32} (hk : k + 4 ≤ 2000) (h5 : I 70 2 = nI k) : V 140 0 [.ref 70, .int w, .retAddr 0] [] 123 I L (RX t u) Q = Q none 123 (B4 I k w) L (RX t u) := by
  have v0 := inT (a := k) (N := 2000) (by omega) (by decide)
  have v1 := inT (a := k + 1) (N := 2000) (by omega) (by decide)
  have v2 := inT (a := k + 2) (N := 2000) (by omega) (by decide)
  have v3 := inT (a := k + 3) (N := 2000) (by omega) (by decide)
  have c0 := nI_clamp (n := k) (by omega)
  have c1 := nI_clamp (n := k + 1) (by omega)
  have c2 := nI_clamp (n := k + 2) (by omega)
  have c3 := nI_clamp (n := k + 3) (by omega)
  have n1 := nI_1 k
  have n2 : nI (k + 1) + 1 = nI (k + 2) := nI_1 (k + 1)
  have n3 : nI (k + 2) + 1 = nI (k + 3) := nI_1 (k + 2)
  have n4 : nI (k + 3) + 1 = nI (k + 4) := nI_1 (k + 3)
  simp (config := { decide := true }) only [↓reduceIte, KV_i, KV_v, wsm_0, wsm_i, wsm_l, wsm_r, dlV_i, dlV_r, dlV_l, dlV_j, cat_i, cat_l, cat_r, rf_s, true_and, and_true, and_self, if_true, if_false, ite_true, ite_false, eq_self, true_or, or_true, false_or, or_false, not_true_eq_false, not_false_eq_true, vn_0_45, vn_1_45, vn_2_45, vn_3_45, vn_4_45, vn_5_45, vn_6_45, vn_7_45, vn_8_45, vn_36_48, vn_37_48, vn_38_48, vn_39_48, vn_40_48, vn_41_48, vn_42_48, vn_43_48, vn_44_48, vn_0_9, vn_1_9, vn_2_9, vn_3_9, vn_4_9, vn_5_9, vn_6_9, vn_7_9, vn_8_9, vn_0_3, vn_1_3, vn_2_3, vn_0_4, vn_1_4, vn_2_4, vn_3_4, vn_0_64, vn_0_16, vn_0_400, vn_0_6, vn_0_14, Int32.reduceToNatClampNeg, Int32.reduceAdd, Int32.reduceSub, Int32.reduceMul, Int32.reduceLE, Int32.reduceLT, Nat.reduceAdd, nr_2, nr_30, nr_31, rd_2, rd_14, rd_71, rd_72, rd_101, rd_116, rd_121, up2_s, up2_n, upr_s, upr_n, ne_eq, not_false_eq_true, ob_70, rx_70_1, rx_70_3, rx_70_5, rx_70_6, rx_70_7, rx_70_8, rx_70_9, rx_70_21, rx_70_22, rx_70_23, rx_70_24, rx_70_25, rx_70_26, rx_70_27, rx_70_28, rx_70_29, rx_70_30, rx_70_31, rx_70_32, rx_70_33, rx_70_34, rx_70_35, rx_70_36, rx_70_37, rx_70_38, rx_70_39, rx_70_40, rx_70_41, rx_70_42, rx_70_43, rx_70_45, rx_70_46, rx_70_47, rx_70_48, rx_70_49, rx_70_51, rx_70_52, rx_70_53, rx_70_55, rx_70_56, rx_70_58, rx_70_59, rx_70_60, rx_70_61, rx_70_63, rx_70_64, rx_70_65, rx_70_70, rx_70_71, rx_70_72, rx_70_73, rx_70_74, r140_0, r140_2, r140_3, r140_4, r140_7, r140_8, r140_11, r140_12, r140_15, r140_16, r140_17, r140_18, r140_19, r140_20, r140_21, r140_22, r140_25, r140_26, r140_27, r140_30, r140_33, r140_36, tg_71, ln_71, h5, v0, v1, v2, v3, c0, c1, c2, c3, n1, n2, n3, n4, fb_byte_twice]
  congr 1
  funext a
  unfold B4 t4
  by_cases h1 : a = 70
  · subst h1
    simp (config := { decide := true }) only [up2_s, up2_n, upr_s, upr_n, upr_u, ne_eq, not_false_eq_true]
  · by_cases h2 : a = 71
    · subst h2
      simp (config := { decide := true }) only [up2_s, up2_n, upr_s, upr_n, upr_u, ne_eq, not_false_eq_true]
    · simp only [up2_n h1, up2_n h2, upr_n h1, upr_n h2]
