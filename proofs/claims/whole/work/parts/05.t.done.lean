/-! things done: what is remembered -/
def mn40 (k : Nat) : Nat := if k < 40 then k + 1 else 40
def rmI (J : AI) (q k : Nat) : AI := upr (upr J 15 (fb_put (J 15) (J 13) (45 * q) 45)) 12 (upr (upr (J 12) 4 (nI ((q + 1) % 40))) 5 (nI (mn40 k)))
theorem c_remember {t q k : Nat} {u : Option Nat} {J : AI} {L : AL} {Q : PQ} (hq : q < 40) (hk : k ≤ 40) (h4 : J 12 4 = nI q) (h5 : J 12 5 = nI k) : V 12 0 [.ref 12] [] 123 J L (RX t u) Q = Q none 123 (rmI J q k) L (RX t u) := by
  have f1 : nI q * 45 = nI (q * 45) := pk_mul q 45
  have f2 := lt0F (a := q * 45) (by omega)
  have f3 := nI_clamp (n := q * 45) (by omega)
  have f4 : (q * 45 + 45 ≤ 1800) = True := eq_true (by omega)
  have f5 : nI (q + 1) - nI (q + 1) / 40 * 40 = nI ((q + 1) % 40) := pk_rem (d := 40) (by omega) (by decide) (by decide)
  have f6 : (if nI (k + 1) < (40 : Int32) then nI (k + 1) else 40) = nI (mn40 k) := by
    unfold mn40
    rcases Nat.lt_or_ge (k + 1) 40 with h | h
    · rw [if_pos (show nI (k + 1) < (40 : Int32) from nI_lt (b := 40) h (by omega)), if_pos (show k < 40 by omega)]
    · rw [if_neg (show ¬ nI (k + 1) < (40 : Int32) from nI_nlt (b := 40) h (by omega))]
      split
      · rw [show k + 1 = 40 by omega]; rfl
      · rfl
  have f7 : (if (40 : Int32) < nI (k + 1) then (40 : Int32) else nI (k + 1)) = nI (mn40 k) := by
    unfold mn40
    rcases Nat.lt_or_ge 40 (k + 1) with h | h
    · rw [if_pos (show (40 : Int32) < nI (k + 1) from nI_lt (a := 40) h (by omega)), if_neg (show ¬ k < 40 by omega)]; rfl
    · rw [if_neg (show ¬ (40 : Int32) < nI (k + 1) from nI_nlt (a := 40) h (by omega)), if_pos (show k < 40 by omega)]
  have f8 : fb_put (J 15) (fun j => J 13 (0 + j)) (q * 45) 45 = fb_put (J 15) (J 13) (45 * q) 45 := by
    rw [Nat.mul_comm]
    exact fb_put_cong (fun _ _ => rfl) (fun j _ => by rw [Nat.zero_add])
  unfold rmI
  simp (config := { decide := true }) only [↓reduceIte, KV_i, KV_v, wsm_0, wsm_i, wsm_l, wsm_r, dlV_i, dlV_r, dlV_l, dlV_j, cat_i, cat_l, cat_r, rf_s, true_and, and_true, and_self, if_true, if_false, ite_true, ite_false, eq_self, true_or, or_true, false_or, or_false, not_true_eq_false, not_false_eq_true, vn_0_45, vn_1_45, vn_2_45, vn_3_45, vn_4_45, vn_5_45, vn_6_45, vn_7_45, vn_8_45, vn_36_48, vn_37_48, vn_38_48, vn_39_48, vn_40_48, vn_41_48, vn_42_48, vn_43_48, vn_44_48, vn_0_9, vn_1_9, vn_2_9, vn_3_9, vn_4_9, vn_5_9, vn_6_9, vn_7_9, vn_8_9, vn_0_3, vn_1_3, vn_2_3, vn_0_4, vn_1_4, vn_2_4, vn_3_4, vn_0_64, vn_0_16, vn_0_400, vn_0_6, vn_0_14, Int32.reduceToNatClampNeg, Int32.reduceAdd, Int32.reduceSub, Int32.reduceMul, Int32.reduceLE, Int32.reduceLT, Nat.reduceAdd, nr_2, nr_30, nr_31, rd_2, rd_14, rd_71, rd_72, rd_101, rd_116, rd_121, up2_s, up2_n, upr_s, upr_n, ne_eq, not_false_eq_true, ob_0, ob_1, ob_7, ob_12, ob_17, ob_20, ob_23, ob_32, ob_46, ob_51, ob_65, rx_0_0, rx_0_1, rx_0_2, rx_0_3, rx_0_4, rx_0_5, rx_0_6, rx_0_7, rx_0_8, rx_0_9, rx_0_10, rx_1_0, rx_1_1, rx_1_2, rx_1_3, rx_1_4, rx_7_0, rx_7_1, rx_7_2, rx_7_3, rx_7_4, rx_12_0, rx_12_1, rx_12_2, rx_12_3, rx_17_0, rx_17_1, rx_20_0, rx_20_1, rx_23_0, rx_23_1, rx_23_2, rx_32_0, rx_32_1, rx_32_2, rx_32_3, rx_32_4, rx_32_5, rx_32_6, rx_32_7, rx_32_8, rx_32_9, rx_32_10, rx_32_11, rx_32_12, rx_32_13, rx_46_0, rx_46_1, rx_46_2, rx_46_3, rx_51_0, rx_51_1, rx_51_2, rx_51_3, rx_51_4, rx_51_5, rx_51_6, rx_51_7, rx_51_8, rx_51_9, rx_51_10, rx_51_11, rx_51_12, rx_51_13, rx_65_0, rx_65_1, rx_65_2, rx_65_3, rx_0_11, rx_0_12, rx_7_7, r12_0, r12_1, r12_4, r12_5, r12_6, r12_9, r12_10, r12_13, r12_15, r12_16, r12_18, r12_21, r12_22, r12_23, r12_26, r12_27, r12_28, r12_30, r12_31, r12_34, r12_35, r12_37, r12_38, r12_41, r12_42, r12_43, r12_46, r12_49, tg_13, ln_13, tg_15, ln_15, h4, h5, nI_1, f1, f2, f3, f4, f5, f6, f7, cpy_put, f8]
  congr 1
  unfold up2
  rw [upr_s, upr_u, upr_n (by decide)]
def shH (J : AI) (k : Nat) : Nat → Int32 := fb_put (J 115) (fun j => J 115 (j + 48)) 0 k
theorem lp_shift {t : Nat} {u : Option Nat} {J : AI} {L : AL} {Q : PQ} (hQ : V 207 39 [.ref 70, .int (nI 1872)] [] 123 (upr J 115 (shH J 1872)) L (RX t u) Q) : ∀ m k, k + m = 1872 → V 207 11 [.ref 70, .int (nI k)] [] 123 (upr J 115 (shH J k)) L (RX t u) Q := by
  intro m
  induction m with
  | zero =>
    intro k hk
    have e : k = 1872 := by omega
    subst e
    have e1 : ((1872 : Int32) ≤ nI 1872) = True := leT (a := 1872) (by omega) (by omega)
    rw [r207_11]
    simp (config := { decide := true }) only [↓reduceIte, KV_i, KV_v, wsm_0, wsm_i, wsm_l, wsm_r, dlV_i, dlV_r, dlV_l, dlV_j, cat_i, cat_l, cat_r, rf_s, true_and, and_true, and_self, if_true, if_false, ite_true, ite_false, eq_self, true_or, or_true, false_or, or_false, not_true_eq_false, not_false_eq_true, vn_0_45, vn_1_45, vn_2_45, vn_3_45, vn_4_45, vn_5_45, vn_6_45, vn_7_45, vn_8_45, vn_36_48, vn_37_48, vn_38_48, vn_39_48, vn_40_48, vn_41_48, vn_42_48, vn_43_48, vn_44_48, vn_0_9, vn_1_9, vn_2_9, vn_3_9, vn_4_9, vn_5_9, vn_6_9, vn_7_9, vn_8_9, vn_0_3, vn_1_3, vn_2_3, vn_0_4, vn_1_4, vn_2_4, vn_3_4, vn_0_64, vn_0_16, vn_0_400, vn_0_6, vn_0_14, Int32.reduceToNatClampNeg, Int32.reduceAdd, Int32.reduceSub, Int32.reduceMul, Int32.reduceLE, Int32.reduceLT, Nat.reduceAdd, nr_2, nr_30, nr_31, rd_2, rd_14, rd_71, rd_72, rd_101, rd_116, rd_121, up2_s, up2_n, upr_s, upr_n, ne_eq, not_false_eq_true, ob_70, rx_70_1, rx_70_3, rx_70_5, rx_70_6, rx_70_7, rx_70_8, rx_70_9, rx_70_21, rx_70_22, rx_70_23, rx_70_24, rx_70_25, rx_70_26, rx_70_27, rx_70_28, rx_70_29, rx_70_30, rx_70_31, rx_70_32, rx_70_33, rx_70_34, rx_70_35, rx_70_36, rx_70_37, rx_70_38, rx_70_39, rx_70_40, rx_70_41, rx_70_42, rx_70_43, rx_70_45, rx_70_46, rx_70_47, rx_70_48, rx_70_49, rx_70_51, rx_70_52, rx_70_53, rx_70_55, rx_70_56, rx_70_58, rx_70_59, rx_70_60, rx_70_61, rx_70_63, rx_70_64, rx_70_65, rx_70_70, rx_70_71, rx_70_72, rx_70_73, rx_70_74, r207_0, r207_1, r207_4, r207_6, r207_9, r207_10, r207_12, r207_15, r207_18, r207_19, r207_22, r207_23, r207_24, r207_27, r207_28, r207_30, r207_31, r207_32, r207_33, r207_36, r207_40, r207_41, r207_44, r207_45, r207_46, r207_49, r207_50, r207_51, r207_52, r207_54, r207_57, r207_58, r207_61, r207_63, r207_64, r207_67, r207_68, r207_69, r207_70, r207_71, r207_74, r207_75, r207_76, r207_77, r207_80, r207_83, r207_84, r207_85, r207_88, r207_89, r207_90, r207_93, r207_94, r207_97, e1]
    exact hQ
  | succ m ih =>
    intro k hk
    have e1 : ((1872 : Int32) ≤ nI k) = False := leF (a := 1872) (by omega) (by omega)
    have e2 := inT (a := k) (N := 1920) (by omega) (by omega)
    have e3 := nI_clamp (n := k) (by omega)
    have e5 := inT (a := k + 48) (N := 1920) (by omega) (by omega)
    have e6 := nI_clamp (n := k + 48) (by omega)
    have e7 : nI k + 48 = nI (k + 48) := nI_add k 48
    have e8 : shH J k (k + 48) = J 115 (k + 48) := by unfold shH; rw [fb_put_out (by omega)]
    have e4 : up2 (upr J 115 (shH J k)) 115 k (J 115 (k + 48)) = upr J 115 (shH J (k + 1)) := by
      have := put_s J 115 0 k (fun j => J 115 (j + 48))
      rw [Nat.zero_add] at this
      exact this
    rw [r207_11]
    simp (config := { decide := true }) only [↓reduceIte, KV_i, KV_v, wsm_0, wsm_i, wsm_l, wsm_r, dlV_i, dlV_r, dlV_l, dlV_j, cat_i, cat_l, cat_r, rf_s, true_and, and_true, and_self, if_true, if_false, ite_true, ite_false, eq_self, true_or, or_true, false_or, or_false, not_true_eq_false, not_false_eq_true, vn_0_45, vn_1_45, vn_2_45, vn_3_45, vn_4_45, vn_5_45, vn_6_45, vn_7_45, vn_8_45, vn_36_48, vn_37_48, vn_38_48, vn_39_48, vn_40_48, vn_41_48, vn_42_48, vn_43_48, vn_44_48, vn_0_9, vn_1_9, vn_2_9, vn_3_9, vn_4_9, vn_5_9, vn_6_9, vn_7_9, vn_8_9, vn_0_3, vn_1_3, vn_2_3, vn_0_4, vn_1_4, vn_2_4, vn_3_4, vn_0_64, vn_0_16, vn_0_400, vn_0_6, vn_0_14, Int32.reduceToNatClampNeg, Int32.reduceAdd, Int32.reduceSub, Int32.reduceMul, Int32.reduceLE, Int32.reduceLT, Nat.reduceAdd, nr_2, nr_30, nr_31, rd_2, rd_14, rd_71, rd_72, rd_101, rd_116, rd_121, up2_s, up2_n, upr_s, upr_n, ne_eq, not_false_eq_true, ob_70, rx_70_1, rx_70_3, rx_70_5, rx_70_6, rx_70_7, rx_70_8, rx_70_9, rx_70_21, rx_70_22, rx_70_23, rx_70_24, rx_70_25, rx_70_26, rx_70_27, rx_70_28, rx_70_29, rx_70_30, rx_70_31, rx_70_32, rx_70_33, rx_70_34, rx_70_35, rx_70_36, rx_70_37, rx_70_38, rx_70_39, rx_70_40, rx_70_41, rx_70_42, rx_70_43, rx_70_45, rx_70_46, rx_70_47, rx_70_48, rx_70_49, rx_70_51, rx_70_52, rx_70_53, rx_70_55, rx_70_56, rx_70_58, rx_70_59, rx_70_60, rx_70_61, rx_70_63, rx_70_64, rx_70_65, rx_70_70, rx_70_71, rx_70_72, rx_70_73, rx_70_74, r207_0, r207_1, r207_4, r207_6, r207_9, r207_10, r207_12, r207_15, r207_18, r207_19, r207_22, r207_23, r207_24, r207_27, r207_28, r207_30, r207_31, r207_32, r207_33, r207_36, r207_40, r207_41, r207_44, r207_45, r207_46, r207_49, r207_50, r207_51, r207_52, r207_54, r207_57, r207_58, r207_61, r207_63, r207_64, r207_67, r207_68, r207_69, r207_70, r207_71, r207_74, r207_75, r207_76, r207_77, r207_80, r207_83, r207_84, r207_85, r207_88, r207_89, r207_90, r207_93, r207_94, r207_97, tg_115, ln_115, e1, e2, e3, e5, e6, e7, e8, nI_1]
    rw [e4]
    exact ih (k + 1) (by omega)
theorem lp_push {t z : Nat} {u : Option Nat} {J : AI} {L : AL} {Q : PQ} (hz : z < 40) (hw : J 70 62 = nI z) (hQ : V 207 83 [.ref 70, .int (nI 48)] [] 123 (upr J 115 (fb_put (J 115) (J 111) (48 * z) 48)) L (RX t u) Q) : ∀ m k, k + m = 48 → V 207 51 [.ref 70, .int (nI k)] [] 123 (upr J 115 (fb_put (J 115) (J 111) (48 * z) k)) L (RX t u) Q := by
  intro m
  induction m with
  | zero =>
    intro k hk
    have e : k = 48 := by omega
    subst e
    have e1 : ((48 : Int32) ≤ nI 48) = True := leT (a := 48) (by omega) (by omega)
    rw [r207_51]
    simp (config := { decide := true }) only [↓reduceIte, KV_i, KV_v, wsm_0, wsm_i, wsm_l, wsm_r, dlV_i, dlV_r, dlV_l, dlV_j, cat_i, cat_l, cat_r, rf_s, true_and, and_true, and_self, if_true, if_false, ite_true, ite_false, eq_self, true_or, or_true, false_or, or_false, not_true_eq_false, not_false_eq_true, vn_0_45, vn_1_45, vn_2_45, vn_3_45, vn_4_45, vn_5_45, vn_6_45, vn_7_45, vn_8_45, vn_36_48, vn_37_48, vn_38_48, vn_39_48, vn_40_48, vn_41_48, vn_42_48, vn_43_48, vn_44_48, vn_0_9, vn_1_9, vn_2_9, vn_3_9, vn_4_9, vn_5_9, vn_6_9, vn_7_9, vn_8_9, vn_0_3, vn_1_3, vn_2_3, vn_0_4, vn_1_4, vn_2_4, vn_3_4, vn_0_64, vn_0_16, vn_0_400, vn_0_6, vn_0_14, Int32.reduceToNatClampNeg, Int32.reduceAdd, Int32.reduceSub, Int32.reduceMul, Int32.reduceLE, Int32.reduceLT, Nat.reduceAdd, nr_2, nr_30, nr_31, rd_2, rd_14, rd_71, rd_72, rd_101, rd_116, rd_121, up2_s, up2_n, upr_s, upr_n, ne_eq, not_false_eq_true, ob_70, rx_70_1, rx_70_3, rx_70_5, rx_70_6, rx_70_7, rx_70_8, rx_70_9, rx_70_21, rx_70_22, rx_70_23, rx_70_24, rx_70_25, rx_70_26, rx_70_27, rx_70_28, rx_70_29, rx_70_30, rx_70_31, rx_70_32, rx_70_33, rx_70_34, rx_70_35, rx_70_36, rx_70_37, rx_70_38, rx_70_39, rx_70_40, rx_70_41, rx_70_42, rx_70_43, rx_70_45, rx_70_46, rx_70_47, rx_70_48, rx_70_49, rx_70_51, rx_70_52, rx_70_53, rx_70_55, rx_70_56, rx_70_58, rx_70_59, rx_70_60, rx_70_61, rx_70_63, rx_70_64, rx_70_65, rx_70_70, rx_70_71, rx_70_72, rx_70_73, rx_70_74, r207_0, r207_1, r207_4, r207_6, r207_9, r207_10, r207_11, r207_12, r207_15, r207_18, r207_19, r207_22, r207_23, r207_24, r207_27, r207_28, r207_30, r207_31, r207_32, r207_33, r207_36, r207_39, r207_40, r207_41, r207_44, r207_45, r207_46, r207_49, r207_50, r207_52, r207_54, r207_57, r207_58, r207_61, r207_63, r207_64, r207_67, r207_68, r207_69, r207_70, r207_71, r207_74, r207_75, r207_76, r207_77, r207_80, r207_84, r207_85, r207_88, r207_89, r207_90, r207_93, r207_94, r207_97, e1]
    exact hQ
  | succ m ih =>
    intro k hk
    have e1 : ((48 : Int32) ≤ nI k) = False := leF (a := 48) (by omega) (by omega)
    have e2 := inT (a := k) (N := 48) (by omega) (by omega)
    have e3 := nI_clamp (n := k) (by omega)
    have e5 := inT (a := 48 * z + k) (N := 1920) (by omega) (by omega)
    have e6 := nI_clamp (n := 48 * z + k) (by omega)
    have e7 : 48 * nI z + nI k = nI (48 * z + k) := mA 48 48 z k rfl
    have e4 := put_s J 115 (48 * z) k (J 111)
    rw [r207_51]
    simp (config := { decide := true }) only [↓reduceIte, KV_i, KV_v, wsm_0, wsm_i, wsm_l, wsm_r, dlV_i, dlV_r, dlV_l, dlV_j, cat_i, cat_l, cat_r, rf_s, true_and, and_true, and_self, if_true, if_false, ite_true, ite_false, eq_self, true_or, or_true, false_or, or_false, not_true_eq_false, not_false_eq_true, vn_0_45, vn_1_45, vn_2_45, vn_3_45, vn_4_45, vn_5_45, vn_6_45, vn_7_45, vn_8_45, vn_36_48, vn_37_48, vn_38_48, vn_39_48, vn_40_48, vn_41_48, vn_42_48, vn_43_48, vn_44_48, vn_0_9, vn_1_9, vn_2_9, vn_3_9, vn_4_9, vn_5_9, vn_6_9, vn_7_9, vn_8_9, vn_0_3, vn_1_3, vn_2_3, vn_0_4, vn_1_4, vn_2_4, vn_3_4, vn_0_64, vn_0_16, vn_0_400, vn_0_6, vn_0_14, Int32.reduceToNatClampNeg, Int32.reduceAdd, Int32.reduceSub, Int32.reduceMul, Int32.reduceLE, Int32.reduceLT, Nat.reduceAdd, nr_2, nr_30, nr_31, rd_2, rd_14, rd_71, rd_72, rd_101, rd_116, rd_121, up2_s, up2_n, upr_s, upr_n, ne_eq, not_false_eq_true, ob_70, rx_70_1, rx_70_3, rx_70_5, rx_70_6, rx_70_7, rx_70_8, rx_70_9, rx_70_21, rx_70_22, rx_70_23, rx_70_24, rx_70_25, rx_70_26, rx_70_27, rx_70_28, rx_70_29, rx_70_30, rx_70_31, rx_70_32, rx_70_33, rx_70_34, rx_70_35, rx_70_36, rx_70_37, rx_70_38, rx_70_39, rx_70_40, rx_70_41, rx_70_42, rx_70_43, rx_70_45, rx_70_46, rx_70_47, rx_70_48, rx_70_49, rx_70_51, rx_70_52, rx_70_53, rx_70_55, rx_70_56, rx_70_58, rx_70_59, rx_70_60, rx_70_61, rx_70_63, rx_70_64, rx_70_65, rx_70_70, rx_70_71, rx_70_72, rx_70_73, rx_70_74, r207_0, r207_1, r207_4, r207_6, r207_9, r207_10, r207_11, r207_12, r207_15, r207_18, r207_19, r207_22, r207_23, r207_24, r207_27, r207_28, r207_30, r207_31, r207_32, r207_33, r207_36, r207_39, r207_40, r207_41, r207_44, r207_45, r207_46, r207_49, r207_50, r207_52, r207_54, r207_57, r207_58, r207_61, r207_63, r207_64, r207_67, r207_68, r207_69, r207_70, r207_71, r207_74, r207_75, r207_76, r207_77, r207_80, r207_84, r207_85, r207_88, r207_89, r207_90, r207_93, r207_94, r207_97, tg_115, ln_115, tg_111, ln_111, hw, e1, e2, e3, e5, e6, e7, nI_1]
    rw [e4]
    exact ih (k + 1) (by omega)
/-- what keeps() leaves -/
def KP (J J' : AI) (k : Nat) : Prop := (∀ a, a ≠ 115 → a ≠ 70 → a ≠ 111 → J' a = J a) ∧ (∀ i, i ≠ 62 → J' 70 i = J 70 i) ∧ J' 70 62 = nI (mn40 k) ∧ (∀ j, j < 48 → J' 111 j = J 112 j) ∧ (∀ j, j < 48 → J' 115 (48 * (mn40 k - 1) + j) = J 111 j) ∧ ∀ i, i + 1 < mn40 k → ∀ j, j < 48 → J' 115 (48 * i + j) = J 115 (48 * (i + (k + 1 - mn40 k)) + j)
theorem m_push {t z k : Nat} {u : Option Nat} {J J0 : AI} {L : AL} {Q : PQ} (hz : z < 40) (hw : J 70 62 = nI z) (hm : mn40 k = z + 1) (g1 : ∀ a, a ≠ 115 → a ≠ 70 → J a = J0 a) (g2 : ∀ i, i ≠ 62 → J 70 i = J0 70 i) (g3 : ∀ i, i < z → ∀ j, j < 48 → J 115 (48 * i + j) = J0 115 (48 * (i + (k + 1 - mn40 k)) + j)) (hQ : ∀ J', KP J0 J' k → Q none 123 J' L (RX t u)) : V 207 49 [.ref 70, .retAddr 0] [] 123 J L (RX t u) Q := by
  have e := lp_push (t := t) (u := u) (J := J) (L := L) (Q := Q) hz hw (by
    have hk := hQ (upr (up2 (upr J 115 (fb_put (J 115) (J 111) (48 * z) 48)) 70 62 (nI (z + 1))) 111 (fb_put (J 111) (J 112) 0 48)) (by
      refine ⟨fun a a1 a2 a3 => ?_, fun i hi => ?_, ?_, fun j hj => ?_, fun j hj => ?_, fun i hi j hj => ?_⟩
      · rw [upr_n a3, up2_n a2, upr_n a1]; exact g1 a a1 a2
      · rw [upr_n (by decide), up2_s, upr_n hi, upr_n (by decide)]; exact g2 i hi
      · rw [upr_n (by decide), up2_s, upr_s, hm]
      · rw [upr_s, fb_put_in (by omega) (by omega), g1 112 (by decide) (by decide)]; rfl
      · rw [upr_n (by decide), up2_n (by decide), upr_s, hm, Nat.add_sub_cancel, put_i (I := J) hj, g1 111 (by decide) (by decide)]
      · rw [upr_n (by decide), up2_n (by decide), upr_s, fb_put_out (by omega)]
        exact g3 i (by omega) j hj)
    rw [r207_83]
    simp (config := { decide := true }) only [↓reduceIte, KV_i, KV_v, wsm_0, wsm_i, wsm_l, wsm_r, dlV_i, dlV_r, dlV_l, dlV_j, cat_i, cat_l, cat_r, rf_s, true_and, and_true, and_self, if_true, if_false, ite_true, ite_false, eq_self, true_or, or_true, false_or, or_false, not_true_eq_false, not_false_eq_true, vn_0_45, vn_1_45, vn_2_45, vn_3_45, vn_4_45, vn_5_45, vn_6_45, vn_7_45, vn_8_45, vn_36_48, vn_37_48, vn_38_48, vn_39_48, vn_40_48, vn_41_48, vn_42_48, vn_43_48, vn_44_48, vn_0_9, vn_1_9, vn_2_9, vn_3_9, vn_4_9, vn_5_9, vn_6_9, vn_7_9, vn_8_9, vn_0_3, vn_1_3, vn_2_3, vn_0_4, vn_1_4, vn_2_4, vn_3_4, vn_0_64, vn_0_16, vn_0_400, vn_0_6, vn_0_14, Int32.reduceToNatClampNeg, Int32.reduceAdd, Int32.reduceSub, Int32.reduceMul, Int32.reduceLE, Int32.reduceLT, Nat.reduceAdd, nr_2, nr_30, nr_31, rd_2, rd_14, rd_71, rd_72, rd_101, rd_116, rd_121, up2_s, up2_n, upr_s, upr_n, ne_eq, not_false_eq_true, ob_70, rx_70_1, rx_70_3, rx_70_5, rx_70_6, rx_70_7, rx_70_8, rx_70_9, rx_70_21, rx_70_22, rx_70_23, rx_70_24, rx_70_25, rx_70_26, rx_70_27, rx_70_28, rx_70_29, rx_70_30, rx_70_31, rx_70_32, rx_70_33, rx_70_34, rx_70_35, rx_70_36, rx_70_37, rx_70_38, rx_70_39, rx_70_40, rx_70_41, rx_70_42, rx_70_43, rx_70_45, rx_70_46, rx_70_47, rx_70_48, rx_70_49, rx_70_51, rx_70_52, rx_70_53, rx_70_55, rx_70_56, rx_70_58, rx_70_59, rx_70_60, rx_70_61, rx_70_63, rx_70_64, rx_70_65, rx_70_70, rx_70_71, rx_70_72, rx_70_73, rx_70_74, r207_0, r207_1, r207_4, r207_6, r207_9, r207_10, r207_11, r207_12, r207_15, r207_18, r207_19, r207_22, r207_23, r207_24, r207_27, r207_28, r207_30, r207_31, r207_32, r207_33, r207_36, r207_39, r207_40, r207_41, r207_44, r207_45, r207_46, r207_49, r207_50, r207_52, r207_54, r207_57, r207_58, r207_61, r207_63, r207_64, r207_67, r207_68, r207_69, r207_70, r207_71, r207_74, r207_75, r207_76, r207_77, r207_80, r207_84, r207_85, r207_88, r207_89, r207_90, r207_93, r207_94, r207_97, hw, nI_1, f_keepsRow]
    exact hk) 48 0 (by omega)
  rw [put_0] at e
  simp (config := { decide := true }) only [↓reduceIte, KV_i, KV_v, wsm_0, wsm_i, wsm_l, wsm_r, dlV_i, dlV_r, dlV_l, dlV_j, cat_i, cat_l, cat_r, rf_s, true_and, and_true, and_self, if_true, if_false, ite_true, ite_false, eq_self, true_or, or_true, false_or, or_false, not_true_eq_false, not_false_eq_true, vn_0_45, vn_1_45, vn_2_45, vn_3_45, vn_4_45, vn_5_45, vn_6_45, vn_7_45, vn_8_45, vn_36_48, vn_37_48, vn_38_48, vn_39_48, vn_40_48, vn_41_48, vn_42_48, vn_43_48, vn_44_48, vn_0_9, vn_1_9, vn_2_9, vn_3_9, vn_4_9, vn_5_9, vn_6_9, vn_7_9, vn_8_9, vn_0_3, vn_1_3, vn_2_3, vn_0_4, vn_1_4, vn_2_4, vn_3_4, vn_0_64, vn_0_16, vn_0_400, vn_0_6, vn_0_14, Int32.reduceToNatClampNeg, Int32.reduceAdd, Int32.reduceSub, Int32.reduceMul, Int32.reduceLE, Int32.reduceLT, Nat.reduceAdd, nr_2, nr_30, nr_31, rd_2, rd_14, rd_71, rd_72, rd_101, rd_116, rd_121, up2_s, up2_n, upr_s, upr_n, ne_eq, not_false_eq_true, ob_70, rx_70_1, rx_70_3, rx_70_5, rx_70_6, rx_70_7, rx_70_8, rx_70_9, rx_70_21, rx_70_22, rx_70_23, rx_70_24, rx_70_25, rx_70_26, rx_70_27, rx_70_28, rx_70_29, rx_70_30, rx_70_31, rx_70_32, rx_70_33, rx_70_34, rx_70_35, rx_70_36, rx_70_37, rx_70_38, rx_70_39, rx_70_40, rx_70_41, rx_70_42, rx_70_43, rx_70_45, rx_70_46, rx_70_47, rx_70_48, rx_70_49, rx_70_51, rx_70_52, rx_70_53, rx_70_55, rx_70_56, rx_70_58, rx_70_59, rx_70_60, rx_70_61, rx_70_63, rx_70_64, rx_70_65, rx_70_70, rx_70_71, rx_70_72, rx_70_73, rx_70_74, r207_0, r207_1, r207_4, r207_6, r207_9, r207_10, r207_11, r207_12, r207_15, r207_18, r207_19, r207_22, r207_23, r207_24, r207_27, r207_28, r207_30, r207_31, r207_32, r207_33, r207_36, r207_39, r207_40, r207_41, r207_44, r207_45, r207_46, r207_49, r207_50, r207_52, r207_54, r207_57, r207_58, r207_61, r207_63, r207_64, r207_67, r207_68, r207_69, r207_70, r207_71, r207_74, r207_75, r207_76, r207_77, r207_80, r207_84, r207_85, r207_88, r207_89, r207_90, r207_93, r207_94, r207_97]
  exact e
theorem m_keeps {t k : Nat} {u : Option Nat} {J : AI} {L : AL} {Q : PQ} (hk : k ≤ 40) (hw : J 70 62 = nI k) (hQ : ∀ J', KP J J' k → Q none 123 J' L (RX t u)) : V 207 0 [.ref 70, .retAddr 0] [] 123 J L (RX t u) Q := by
  by_cases q : k = 40
  · subst q
    have hw2 : J 70 62 = 40 := hw
    have e := lp_shift (t := t) (u := u) (J := J) (L := L) (Q := Q) (by
      have e2 : ∀ X, V 207 49 [.ref 70, X] [] 123 (up2 (upr J 115 (shH J 1872)) 70 62 39) L (RX t u) Q := by
        intro X
        have e3 := m_push (t := t) (u := u) (J := up2 (upr J 115 (shH J 1872)) 70 62 39) (J0 := J) (L := L) (Q := Q) (z := 39) (k := 40) (by omega) (by rw [up2_s, upr_s]; rfl) rfl (fun a a1 a2 => by rw [up2_n a2, upr_n a1]) (fun i hi => by rw [up2_s, upr_n hi, upr_n (by decide)]) (fun i hi j hj => by
          rw [up2_n (by decide), upr_s]
          unfold shH
          rw [fb_put_in (by omega) (by omega)]
          congr 1
          have : mn40 40 = 40 := rfl
          omega) hQ
        rw [r207_49] at e3 ⊢
        simp (config := { decide := true }) only [↓reduceIte, KV_i, KV_v, wsm_0, wsm_i, wsm_l, wsm_r, dlV_i, dlV_r, dlV_l, dlV_j, cat_i, cat_l, cat_r, rf_s, true_and, and_true, and_self, if_true, if_false, ite_true, ite_false, eq_self, true_or, or_true, false_or, or_false, not_true_eq_false, not_false_eq_true, vn_0_45, vn_1_45, vn_2_45, vn_3_45, vn_4_45, vn_5_45, vn_6_45, vn_7_45, vn_8_45, vn_36_48, vn_37_48, vn_38_48, vn_39_48, vn_40_48, vn_41_48, vn_42_48, vn_43_48, vn_44_48, vn_0_9, vn_1_9, vn_2_9, vn_3_9, vn_4_9, vn_5_9, vn_6_9, vn_7_9, vn_8_9, vn_0_3, vn_1_3, vn_2_3, vn_0_4, vn_1_4, vn_2_4, vn_3_4, vn_0_64, vn_0_16, vn_0_400, vn_0_6, vn_0_14, Int32.reduceToNatClampNeg, Int32.reduceAdd, Int32.reduceSub, Int32.reduceMul, Int32.reduceLE, Int32.reduceLT, Nat.reduceAdd, nr_2, nr_30, nr_31, rd_2, rd_14, rd_71, rd_72, rd_101, rd_116, rd_121, up2_s, up2_n, upr_s, upr_n, ne_eq, not_false_eq_true, ob_70, rx_70_1, rx_70_3, rx_70_5, rx_70_6, rx_70_7, rx_70_8, rx_70_9, rx_70_21, rx_70_22, rx_70_23, rx_70_24, rx_70_25, rx_70_26, rx_70_27, rx_70_28, rx_70_29, rx_70_30, rx_70_31, rx_70_32, rx_70_33, rx_70_34, rx_70_35, rx_70_36, rx_70_37, rx_70_38, rx_70_39, rx_70_40, rx_70_41, rx_70_42, rx_70_43, rx_70_45, rx_70_46, rx_70_47, rx_70_48, rx_70_49, rx_70_51, rx_70_52, rx_70_53, rx_70_55, rx_70_56, rx_70_58, rx_70_59, rx_70_60, rx_70_61, rx_70_63, rx_70_64, rx_70_65, rx_70_70, rx_70_71, rx_70_72, rx_70_73, rx_70_74, r207_0, r207_1, r207_4, r207_6, r207_9, r207_10, r207_11, r207_12, r207_15, r207_18, r207_19, r207_22, r207_23, r207_24, r207_27, r207_28, r207_30, r207_31, r207_32, r207_33, r207_36, r207_39, r207_40, r207_41, r207_44, r207_45, r207_46, r207_50, r207_52, r207_54, r207_57, r207_58, r207_61, r207_63, r207_64, r207_67, r207_68, r207_69, r207_70, r207_71, r207_74, r207_75, r207_76, r207_77, r207_80, r207_83, r207_84, r207_85, r207_88, r207_89, r207_90, r207_93, r207_94, r207_97] at e3 ⊢
        exact e3
      rw [r207_39]
      simp (config := { decide := true }) only [↓reduceIte, KV_i, KV_v, wsm_0, wsm_i, wsm_l, wsm_r, dlV_i, dlV_r, dlV_l, dlV_j, cat_i, cat_l, cat_r, rf_s, true_and, and_true, and_self, if_true, if_false, ite_true, ite_false, eq_self, true_or, or_true, false_or, or_false, not_true_eq_false, not_false_eq_true, vn_0_45, vn_1_45, vn_2_45, vn_3_45, vn_4_45, vn_5_45, vn_6_45, vn_7_45, vn_8_45, vn_36_48, vn_37_48, vn_38_48, vn_39_48, vn_40_48, vn_41_48, vn_42_48, vn_43_48, vn_44_48, vn_0_9, vn_1_9, vn_2_9, vn_3_9, vn_4_9, vn_5_9, vn_6_9, vn_7_9, vn_8_9, vn_0_3, vn_1_3, vn_2_3, vn_0_4, vn_1_4, vn_2_4, vn_3_4, vn_0_64, vn_0_16, vn_0_400, vn_0_6, vn_0_14, Int32.reduceToNatClampNeg, Int32.reduceAdd, Int32.reduceSub, Int32.reduceMul, Int32.reduceLE, Int32.reduceLT, Nat.reduceAdd, nr_2, nr_30, nr_31, rd_2, rd_14, rd_71, rd_72, rd_101, rd_116, rd_121, up2_s, up2_n, upr_s, upr_n, ne_eq, not_false_eq_true, ob_70, rx_70_1, rx_70_3, rx_70_5, rx_70_6, rx_70_7, rx_70_8, rx_70_9, rx_70_21, rx_70_22, rx_70_23, rx_70_24, rx_70_25, rx_70_26, rx_70_27, rx_70_28, rx_70_29, rx_70_30, rx_70_31, rx_70_32, rx_70_33, rx_70_34, rx_70_35, rx_70_36, rx_70_37, rx_70_38, rx_70_39, rx_70_40, rx_70_41, rx_70_42, rx_70_43, rx_70_45, rx_70_46, rx_70_47, rx_70_48, rx_70_49, rx_70_51, rx_70_52, rx_70_53, rx_70_55, rx_70_56, rx_70_58, rx_70_59, rx_70_60, rx_70_61, rx_70_63, rx_70_64, rx_70_65, rx_70_70, rx_70_71, rx_70_72, rx_70_73, rx_70_74, r207_0, r207_1, r207_4, r207_6, r207_9, r207_10, r207_11, r207_12, r207_15, r207_18, r207_19, r207_22, r207_23, r207_24, r207_27, r207_28, r207_30, r207_31, r207_32, r207_33, r207_36, r207_40, r207_41, r207_44, r207_45, r207_46, r207_50, r207_51, r207_52, r207_54, r207_57, r207_58, r207_61, r207_63, r207_64, r207_67, r207_68, r207_69, r207_70, r207_71, r207_74, r207_75, r207_76, r207_77, r207_80, r207_83, r207_84, r207_85, r207_88, r207_89, r207_90, r207_93, r207_94, r207_97, hw2]
      exact e2 _) 1872 0 (by omega)
    have e0 : upr J 115 (shH J 0) = J := put_0 J 115 0 _
    rw [e0] at e
    simp (config := { decide := true }) only [↓reduceIte, KV_i, KV_v, wsm_0, wsm_i, wsm_l, wsm_r, dlV_i, dlV_r, dlV_l, dlV_j, cat_i, cat_l, cat_r, rf_s, true_and, and_true, and_self, if_true, if_false, ite_true, ite_false, eq_self, true_or, or_true, false_or, or_false, not_true_eq_false, not_false_eq_true, vn_0_45, vn_1_45, vn_2_45, vn_3_45, vn_4_45, vn_5_45, vn_6_45, vn_7_45, vn_8_45, vn_36_48, vn_37_48, vn_38_48, vn_39_48, vn_40_48, vn_41_48, vn_42_48, vn_43_48, vn_44_48, vn_0_9, vn_1_9, vn_2_9, vn_3_9, vn_4_9, vn_5_9, vn_6_9, vn_7_9, vn_8_9, vn_0_3, vn_1_3, vn_2_3, vn_0_4, vn_1_4, vn_2_4, vn_3_4, vn_0_64, vn_0_16, vn_0_400, vn_0_6, vn_0_14, Int32.reduceToNatClampNeg, Int32.reduceAdd, Int32.reduceSub, Int32.reduceMul, Int32.reduceLE, Int32.reduceLT, Nat.reduceAdd, nr_2, nr_30, nr_31, rd_2, rd_14, rd_71, rd_72, rd_101, rd_116, rd_121, up2_s, up2_n, upr_s, upr_n, ne_eq, not_false_eq_true, ob_70, rx_70_1, rx_70_3, rx_70_5, rx_70_6, rx_70_7, rx_70_8, rx_70_9, rx_70_21, rx_70_22, rx_70_23, rx_70_24, rx_70_25, rx_70_26, rx_70_27, rx_70_28, rx_70_29, rx_70_30, rx_70_31, rx_70_32, rx_70_33, rx_70_34, rx_70_35, rx_70_36, rx_70_37, rx_70_38, rx_70_39, rx_70_40, rx_70_41, rx_70_42, rx_70_43, rx_70_45, rx_70_46, rx_70_47, rx_70_48, rx_70_49, rx_70_51, rx_70_52, rx_70_53, rx_70_55, rx_70_56, rx_70_58, rx_70_59, rx_70_60, rx_70_61, rx_70_63, rx_70_64, rx_70_65, rx_70_70, rx_70_71, rx_70_72, rx_70_73, rx_70_74, r207_0, r207_1, r207_4, r207_6, r207_9, r207_10, r207_12, r207_15, r207_18, r207_19, r207_22, r207_23, r207_24, r207_27, r207_28, r207_30, r207_31, r207_32, r207_33, r207_36, r207_39, r207_40, r207_41, r207_44, r207_45, r207_46, r207_49, r207_50, r207_51, r207_52, r207_54, r207_57, r207_58, r207_61, r207_63, r207_64, r207_67, r207_68, r207_69, r207_70, r207_71, r207_74, r207_75, r207_76, r207_77, r207_80, r207_83, r207_84, r207_85, r207_88, r207_89, r207_90, r207_93, r207_94, r207_97, hw2]
    exact e
  · have hw2 : (nI k = 40) = False := eq_false (fun x => q ((nI_eq (b := 40) (by omega) (by omega)).mp x))
    have hm : mn40 k = k + 1 := if_pos (by omega)
    have e := m_push (t := t) (u := u) (J := J) (J0 := J) (L := L) (Q := Q) (z := k) (k := k) (by omega) hw hm (fun _ _ _ => rfl) (fun _ _ => rfl) (fun i hi j hj => by rw [hm, Nat.sub_self, Nat.add_zero]) hQ
    simp (config := { decide := true }) only [↓reduceIte, KV_i, KV_v, wsm_0, wsm_i, wsm_l, wsm_r, dlV_i, dlV_r, dlV_l, dlV_j, cat_i, cat_l, cat_r, rf_s, true_and, and_true, and_self, if_true, if_false, ite_true, ite_false, eq_self, true_or, or_true, false_or, or_false, not_true_eq_false, not_false_eq_true, vn_0_45, vn_1_45, vn_2_45, vn_3_45, vn_4_45, vn_5_45, vn_6_45, vn_7_45, vn_8_45, vn_36_48, vn_37_48, vn_38_48, vn_39_48, vn_40_48, vn_41_48, vn_42_48, vn_43_48, vn_44_48, vn_0_9, vn_1_9, vn_2_9, vn_3_9, vn_4_9, vn_5_9, vn_6_9, vn_7_9, vn_8_9, vn_0_3, vn_1_3, vn_2_3, vn_0_4, vn_1_4, vn_2_4, vn_3_4, vn_0_64, vn_0_16, vn_0_400, vn_0_6, vn_0_14, Int32.reduceToNatClampNeg, Int32.reduceAdd, Int32.reduceSub, Int32.reduceMul, Int32.reduceLE, Int32.reduceLT, Nat.reduceAdd, nr_2, nr_30, nr_31, rd_2, rd_14, rd_71, rd_72, rd_101, rd_116, rd_121, up2_s, up2_n, upr_s, upr_n, ne_eq, not_false_eq_true, ob_70, rx_70_1, rx_70_3, rx_70_5, rx_70_6, rx_70_7, rx_70_8, rx_70_9, rx_70_21, rx_70_22, rx_70_23, rx_70_24, rx_70_25, rx_70_26, rx_70_27, rx_70_28, rx_70_29, rx_70_30, rx_70_31, rx_70_32, rx_70_33, rx_70_34, rx_70_35, rx_70_36, rx_70_37, rx_70_38, rx_70_39, rx_70_40, rx_70_41, rx_70_42, rx_70_43, rx_70_45, rx_70_46, rx_70_47, rx_70_48, rx_70_49, rx_70_51, rx_70_52, rx_70_53, rx_70_55, rx_70_56, rx_70_58, rx_70_59, rx_70_60, rx_70_61, rx_70_63, rx_70_64, rx_70_65, rx_70_70, rx_70_71, rx_70_72, rx_70_73, rx_70_74, r207_0, r207_1, r207_4, r207_6, r207_9, r207_10, r207_11, r207_12, r207_15, r207_18, r207_19, r207_22, r207_23, r207_24, r207_27, r207_28, r207_30, r207_31, r207_32, r207_33, r207_36, r207_39, r207_40, r207_41, r207_44, r207_45, r207_46, r207_50, r207_51, r207_52, r207_54, r207_57, r207_58, r207_61, r207_63, r207_64, r207_67, r207_68, r207_69, r207_70, r207_71, r207_74, r207_75, r207_76, r207_77, r207_80, r207_83, r207_84, r207_85, r207_88, r207_89, r207_90, r207_93, r207_94, r207_97, hw, hw2]
    exact e
/-- what a thing done may change -/
def FD (t : Nat) (I J : AI) : Prop := (∀ a, ¬ SCR t a → a ≠ 70 → a ≠ 12 → a ≠ 13 → a ≠ 15 → a ≠ 111 → a ≠ 115 → J a = I a) ∧ ∀ k, k < 57 ∨ 69 ≤ k → J 70 k = I 70 k
theorem FD_a {t : Nat} {I J : AI} (h : FD t I J) (ht : t = 32 ∨ t = 51) {a : Nat} (ha : (t ≤ a ∧ a ≤ t + 15) ∨ a = t + 18 ∨ a ≤ 11 ∨ a = 14 ∨ a = 16 ∨ (29 ≤ a ∧ a ≤ 31) ∨ (71 ≤ a ∧ a ≤ 107) ∨ (118 ≤ a)) : J a = I a := h.1 a (SCR_n ht (by omega)) (by omega) (by omega) (by omega) (by omega) (by omega) (by omega)
theorem FD_FR {t : Nat} {I J : AI} (h : FR t I J) : FD t I J := ⟨fun a h1 h2 _ _ _ _ _ => h.1 a h1 h2, fun k hk => h.2 k (by omega)⟩
theorem FD_t {t : Nat} {I J K : AI} (h : FD t I J) (h2 : FD t J K) : FD t I K := ⟨fun a x1 x2 x3 x4 x5 x6 x7 => by rw [h2.1 a x1 x2 x3 x4 x5 x6 x7, h.1 a x1 x2 x3 x4 x5 x6 x7], fun k hk => by rw [h2.2 k hk, h.2 k hk]⟩
theorem FD_u {t : Nat} {I J : AI} (h : FD t I J) {a : Nat} (ha : SCR t a ∨ a = 12 ∨ a = 13 ∨ a = 15 ∨ a = 111 ∨ a = 115) (h70 : a ≠ 70) (S : Nat → Int32) : FD t I (upr J a S) := by
  refine ⟨fun b x1 x2 x3 x4 x5 x6 x7 => ?_, fun k hk => ?_⟩
  · rw [upr_n (show b ≠ a from fun q => by
      subst q
      rcases ha with ha | ha
      · exact x1 ha
      · omega)]; exact h.1 b x1 x2 x3 x4 x5 x6 x7
  · rw [upr_n (Ne.symm h70)]; exact h.2 k hk
theorem FD_K {t k : Nat} {I J K : AI} (h : FD t I J) (h2 : KP J K k) : FD t I K := by
  refine ⟨fun b x1 x2 x3 x4 x5 x6 x7 => ?_, fun k hk => ?_⟩
  · rw [h2.1 b x7 x2 x6]; exact h.1 b x1 x2 x3 x4 x5 x6 x7
  · rw [h2.2.1 k (by omega)]; exact h.2 k hk
theorem STX_FD {t lv np nm nl nc nd : Nat} {I J : AI} {Lw : Nat → List Int32 → Int32} (h : FD t I J) (ht : t = 32 ∨ t = 51) (hS : STX I t lv np nm nl nc nd Lw) : STX J t lv np nm nl nc nd Lw := STX_c (fun a ha => FD_a h ht (by omega)) (h.2 18 (by omega)) hS
theorem ROW_5 {I : AI} {t np nm nl B B' : Nat} {N : Nat → Int32} (hB : B ≤ B') (h : ROW I t np nm nl B N) : ROW I t np nm nl B' N := by
  refine ⟨h.1, fun a ha => ?_⟩
  obtain ⟨x, c, d, h1, h2, h3, h4⟩ := h.2 a ha
  exact ⟨x, c, d, h1, by omega, by omega, h4⟩
/-- INV behind a thing done; J: the memory before keeps() -/
theorem INV_done {t B q k lv np nm nl nc nd : Nat} {u : Option Nat} {I J M : AI} {L L' : AL} {Lw : Nat → List Int32 → Int32} {N P : Nat → Int32}
    (ht : t = 32 ∨ t = 51) (hW : WORDS L) (hTp : TAPE I) (hp : I 0 14 = I 70 17) (hS : STX I t lv np nm nl nc nd Lw) (hN : NOWX I t np nm nl B) (hH : HELD I t np nm nl B) (hT : TOLD I t np nm)
    (hq : q < 40) (hk : k ≤ 40) (hP : ∀ i, i < k → ROW I t np nm nl B (fun j => I 15 (45 * ((q + 39 - i) % 40) + j)) ∧ RR (fun j => I 115 (48 * (k - 1 - i) + j)) (fun j => I 15 (45 * ((q + 39 - i) % 40) + j)))
    (hJ : FD t I J) (hL : FL L L') (j111 : J 111 = I 111) (j115 : J 115 = I 115) (hK : KP J M k)
    (j12 : J 12 4 = nI ((q + 1) % 40)) (j12b : J 12 5 = nI (mn40 k)) (j15 : J 15 = fb_put (I 15) (I 13) (45 * q) 45) (j13 : J 13 = N) (j112 : J 112 = P)
    (hR : ROW I t np nm nl (B + 5) N) (hRR : RR P N) : INV t u M L' (B + 5) := by
  have hF := FD_K hJ hK
  obtain ⟨k1, k2, k3, k4, k5, k6⟩ := hK
  have m1 : M (t + 1) = I (t + 1) := FD_a hF ht (by omega)
  have m12 : M 12 = J 12 := k1 12 (by decide) (by decide) (by decide)
  have m13 : M 13 = N := (k1 13 (by decide) (by decide) (by decide)).trans j13
  have m15 : M 15 = fb_put (I 15) (I 13) (45 * q) 45 := (k1 15 (by decide) (by decide) (by decide)).trans j15
  have hq2 : (q + 1) % 40 < 40 := Nat.mod_lt _ (by decide)
  have hmn : mn40 k ≤ 40 ∧ 1 ≤ mn40 k ∧ (k < 40 → mn40 k = k + 1) ∧ (k = 40 → mn40 k = 40) := by unfold mn40; split <;> omega
  refine ⟨ht, ⟨fun j hj => ?_, fun j hj => ?_⟩, TAPE_c (FD_a hF ht (by omega)) (FD_a hF ht (by omega)) (by rw [FD_a hF ht (by omega)]) (hF.2 2 (by omega)) hTp, by rw [FD_a hF ht (a := 0) (by omega), hF.2 17 (by omega)]; exact hp, lv, np, nm, nl, nc, nd, Lw, STX_FD hF ht hS, ⟨⟨?_, ?_⟩, ⟨(q + 1) % 40, mn40 k, hq2, hmn.1, by rw [m12]; exact j12, by rw [m12]; exact j12b, k3, fun i hi => ?_⟩, fun z hz => ?_⟩, TOLD_c (fun a ha => FD_a hF ht (by omega)) (by rw [FD_a hF ht (a := 0) (by omega)]) (hF.2 69 (by omega)) hT⟩
  · rw [hL 6 (by omega) (by omega) (by omega)]; exact hW.1 j hj
  · rw [hL 77 (by omega) (by omega) (by omega)]; exact hW.2 j hj
  · rw [m13]; exact ROW_c m1 hR
  · rw [m13]
    exact RR_e (P := P) (N := N) (fun j hj => by rw [k4 j hj, j112]) (fun _ _ => rfl) hRR
  · rw [m15]
    by_cases qi : i = 0
    · subst qi
      have e1 : ((q + 1) % 40 + 39 - 0) % 40 = q := by omega
      rw [e1]
      refine ⟨ROW_c m1 (ROW_5 (show B ≤ B + 5 by omega) (ROW_e (N := I 13) (fun j hj => ?_) hN.1)), RR_e (P := I 111) (N := I 13) (fun j hj => ?_) (fun j hj => ?_) hN.2⟩
      · rw [fb_put_in (by omega) (by omega)]; congr 1; omega
      · have := k5 j hj
        rw [Nat.sub_zero]
        rw [this, j111]
      · rw [fb_put_in (by omega) (by omega)]; congr 1; omega
    · obtain ⟨a1, a2⟩ := hP (i - 1) (by omega)
      have e1 : ((q + 1) % 40 + 39 - i) % 40 = (q + 39 - (i - 1)) % 40 := by omega
      have e2 : (q + 39 - (i - 1)) % 40 ≠ q := by omega
      rw [e1]
      have hb : (q + 39 - (i - 1)) % 40 < 40 := Nat.mod_lt _ (by decide)
      generalize (q + 39 - (i - 1)) % 40 = w at *
      refine ⟨ROW_c m1 (ROW_5 (show B ≤ B + 5 by omega) (ROW_e (fun j hj => ?_) a1)), RR_e (fun j hj => ?_) (fun j hj => ?_) a2⟩
      · rw [fb_put_out (by omega)]
      · rw [k6 (mn40 k - 1 - i) (by omega) j hj, j115]
        congr 1
        omega
      · rw [fb_put_out (by omega)]
  · obtain ⟨d1, d2, d3⟩ := hH z hz
    rw [FD_a hF ht (a := 14) (by omega), FD_a hF ht (a := 121) (by omega), FD_a hF ht (a := 16) (by omega), FD_a hF ht (a := 122) (by omega)]
    exact ⟨d1, d2, fun d => ⟨ROW_c m1 (ROW_5 (show B ≤ B + 5 by omega) (d3 d).1), (d3 d).2⟩⟩
