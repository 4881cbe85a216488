/-! rows that are copied -/
theorem RR_e {P P' N N' : Nat → Int32} (hP : ∀ j, j < 48 → P' j = P j) (hN : ∀ j, j < 45 → N' j = N j) (h : RR P N) : RR P' N' := by
  obtain ⟨h1, h2, h3, h4, h5⟩ := h
  refine ⟨fun a j ha hj => ?_, ?_, ?_, ?_, fun hn i hi => ?_⟩
  · rw [hP _ (by omega), hN _ (by omega)]; exact h1 a j ha hj
  · rw [hP _ (by omega), hN _ (by omega)]; exact h2
  · rw [hP _ (by omega), hN _ (by omega)]; exact h3
  · rw [hP _ (by omega), hN _ (by omega)]; exact h4
  · rw [hN 0 (by omega)] at hn
    rw [hP _ (by omega), hN _ (by omega)]; exact h5 hn i hi
theorem ROW_e {I : AI} {t np nm nl B : Nat} {N N' : Nat → Int32} (hN : ∀ j, j < 45 → N' j = N j) (h : ROW I t np nm nl B N) : ROW I t np nm nl B N' := by
  obtain ⟨h1, h2⟩ := h
  refine ⟨?_, fun a ha => ?_⟩
  · rw [hN 0 (by omega), hN 1 (by omega), hN 2 (by omega), hN 3 (by omega), hN 4 (by omega)]; exact h1
  · rw [hN _ (by omega), hN _ (by omega), hN _ (by omega)]; exact h2 a ha
theorem cpy_put (f g : Nat → Int32) (sp dp n : Nat) : va_cpy f g sp dp n = fb_put g (fun j => f (sp + j)) dp n := by
  funext k
  by_cases h : dp ≤ k ∧ k < dp + n
  · rw [pk_cpy_in h.1 h.2, fb_put_in h.1 h.2]
  · rw [pk_cpy_out (by omega), fb_put_out (by omega)]
theorem put_0 (I : AI) (a o : Nat) (g : Nat → Int32) : upr I a (fb_put (I a) g o 0) = I := by rw [fb_put_0, upr_id]
theorem put_s (I : AI) (a o k : Nat) (g : Nat → Int32) : up2 (upr I a (fb_put (I a) g o k)) a (o + k) (g k) = upr I a (fb_put (I a) g o (k + 1)) := by
  unfold up2
  rw [upr_s, upr_u, ← fb_put_succ]
  rfl
theorem put_i {I : AI} {o k j : Nat} {f g : Nat → Int32} (h : j < k) : fb_put f g o k (o + j) = g j := by rw [fb_put_in (by omega) (by omega), Nat.add_sub_cancel_left]
theorem lp_copies {t : Nat} {u : Option Nat} {J : AI} {L : AL} {Q : PQ} : ∀ m k, k + m = 48 → V 188 2 [.ref 70, .int (nI k)] [] 123 (upr J 112 (fb_put (J 112) (J 111) (0) k)) L (RX t u) Q = Q none 123 (upr J 112 (fb_put (J 112) (J 111) (0) 48)) L (RX t u) := by
  intro m
  induction m with
  | zero =>
    intro k hk
    have e : k = 48 := by omega
    subst e
    have e1 : ((48 : Int32) ≤ nI 48) = True := leT (a := 48) (by omega) (by omega)
    rw [r188_2]
    simp (config := { decide := true }) only [↓reduceIte, KV_i, KV_v, wsm_0, wsm_i, wsm_l, wsm_r, dlV_i, dlV_r, dlV_l, dlV_j, cat_i, cat_l, cat_r, rf_s, true_and, and_true, and_self, if_true, if_false, ite_true, ite_false, eq_self, true_or, or_true, false_or, or_false, not_true_eq_false, not_false_eq_true, vn_0_45, vn_1_45, vn_2_45, vn_3_45, vn_4_45, vn_5_45, vn_6_45, vn_7_45, vn_8_45, vn_36_48, vn_37_48, vn_38_48, vn_39_48, vn_40_48, vn_41_48, vn_42_48, vn_43_48, vn_44_48, vn_0_9, vn_1_9, vn_2_9, vn_3_9, vn_4_9, vn_5_9, vn_6_9, vn_7_9, vn_8_9, vn_0_3, vn_1_3, vn_2_3, vn_0_4, vn_1_4, vn_2_4, vn_3_4, vn_0_64, vn_0_16, vn_0_400, vn_0_6, vn_0_14, Int32.reduceToNatClampNeg, Int32.reduceAdd, Int32.reduceSub, Int32.reduceMul, Int32.reduceLE, Int32.reduceLT, Nat.reduceAdd, nr_2, nr_30, nr_31, rd_2, rd_14, rd_71, rd_72, rd_101, rd_116, rd_121, up2_s, up2_n, upr_s, upr_n, ne_eq, not_false_eq_true, ob_70, rx_70_1, rx_70_3, rx_70_5, rx_70_6, rx_70_7, rx_70_8, rx_70_9, rx_70_21, rx_70_22, rx_70_23, rx_70_24, rx_70_25, rx_70_26, rx_70_27, rx_70_28, rx_70_29, rx_70_30, rx_70_31, rx_70_32, rx_70_33, rx_70_34, rx_70_35, rx_70_36, rx_70_37, rx_70_38, rx_70_39, rx_70_40, rx_70_41, rx_70_42, rx_70_43, rx_70_45, rx_70_46, rx_70_47, rx_70_48, rx_70_49, rx_70_51, rx_70_52, rx_70_53, rx_70_55, rx_70_56, rx_70_58, rx_70_59, rx_70_60, rx_70_61, rx_70_63, rx_70_64, rx_70_65, rx_70_70, rx_70_71, rx_70_72, rx_70_73, rx_70_74, r188_0, r188_1, r188_3, r188_5, r188_8, r188_9, r188_12, r188_13, r188_14, r188_17, r188_18, r188_19, r188_20, r188_23, r188_26, e1]
  | succ m ih =>
    intro k hk
    have e1 : ((48 : Int32) ≤ nI k) = False := leF (a := 48) (by omega) (by omega)
    have e2 := inT (a := k) (N := 48) (by omega) (by omega)
    have e3 := nI_clamp (n := k) (by omega)
    have e4 := put_s J 112 (0) k (J 111)
    rw [Nat.zero_add] at e4
    rw [r188_2]
    simp (config := { decide := true }) only [↓reduceIte, KV_i, KV_v, wsm_0, wsm_i, wsm_l, wsm_r, dlV_i, dlV_r, dlV_l, dlV_j, cat_i, cat_l, cat_r, rf_s, true_and, and_true, and_self, if_true, if_false, ite_true, ite_false, eq_self, true_or, or_true, false_or, or_false, not_true_eq_false, not_false_eq_true, vn_0_45, vn_1_45, vn_2_45, vn_3_45, vn_4_45, vn_5_45, vn_6_45, vn_7_45, vn_8_45, vn_36_48, vn_37_48, vn_38_48, vn_39_48, vn_40_48, vn_41_48, vn_42_48, vn_43_48, vn_44_48, vn_0_9, vn_1_9, vn_2_9, vn_3_9, vn_4_9, vn_5_9, vn_6_9, vn_7_9, vn_8_9, vn_0_3, vn_1_3, vn_2_3, vn_0_4, vn_1_4, vn_2_4, vn_3_4, vn_0_64, vn_0_16, vn_0_400, vn_0_6, vn_0_14, Int32.reduceToNatClampNeg, Int32.reduceAdd, Int32.reduceSub, Int32.reduceMul, Int32.reduceLE, Int32.reduceLT, Nat.reduceAdd, nr_2, nr_30, nr_31, rd_2, rd_14, rd_71, rd_72, rd_101, rd_116, rd_121, up2_s, up2_n, upr_s, upr_n, ne_eq, not_false_eq_true, ob_70, rx_70_1, rx_70_3, rx_70_5, rx_70_6, rx_70_7, rx_70_8, rx_70_9, rx_70_21, rx_70_22, rx_70_23, rx_70_24, rx_70_25, rx_70_26, rx_70_27, rx_70_28, rx_70_29, rx_70_30, rx_70_31, rx_70_32, rx_70_33, rx_70_34, rx_70_35, rx_70_36, rx_70_37, rx_70_38, rx_70_39, rx_70_40, rx_70_41, rx_70_42, rx_70_43, rx_70_45, rx_70_46, rx_70_47, rx_70_48, rx_70_49, rx_70_51, rx_70_52, rx_70_53, rx_70_55, rx_70_56, rx_70_58, rx_70_59, rx_70_60, rx_70_61, rx_70_63, rx_70_64, rx_70_65, rx_70_70, rx_70_71, rx_70_72, rx_70_73, rx_70_74, r188_0, r188_1, r188_3, r188_5, r188_8, r188_9, r188_12, r188_13, r188_14, r188_17, r188_18, r188_19, r188_20, r188_23, r188_26, tg_111, ln_111, tg_112, ln_112, e1, e2, e3, nI_1]
    rw [e4]
    exact ih (k + 1) (by omega)
theorem lp_keepsRow {t : Nat} {u : Option Nat} {J : AI} {L : AL} {Q : PQ} : ∀ m k, k + m = 48 → V 187 2 [.ref 70, .int (nI k)] [] 123 (upr J 111 (fb_put (J 111) (J 112) (0) k)) L (RX t u) Q = Q none 123 (upr J 111 (fb_put (J 111) (J 112) (0) 48)) L (RX t u) := by
  intro m
  induction m with
  | zero =>
    intro k hk
    have e : k = 48 := by omega
    subst e
    have e1 : ((48 : Int32) ≤ nI 48) = True := leT (a := 48) (by omega) (by omega)
    rw [r187_2]
    simp (config := { decide := true }) only [↓reduceIte, KV_i, KV_v, wsm_0, wsm_i, wsm_l, wsm_r, dlV_i, dlV_r, dlV_l, dlV_j, cat_i, cat_l, cat_r, rf_s, true_and, and_true, and_self, if_true, if_false, ite_true, ite_false, eq_self, true_or, or_true, false_or, or_false, not_true_eq_false, not_false_eq_true, vn_0_45, vn_1_45, vn_2_45, vn_3_45, vn_4_45, vn_5_45, vn_6_45, vn_7_45, vn_8_45, vn_36_48, vn_37_48, vn_38_48, vn_39_48, vn_40_48, vn_41_48, vn_42_48, vn_43_48, vn_44_48, vn_0_9, vn_1_9, vn_2_9, vn_3_9, vn_4_9, vn_5_9, vn_6_9, vn_7_9, vn_8_9, vn_0_3, vn_1_3, vn_2_3, vn_0_4, vn_1_4, vn_2_4, vn_3_4, vn_0_64, vn_0_16, vn_0_400, vn_0_6, vn_0_14, Int32.reduceToNatClampNeg, Int32.reduceAdd, Int32.reduceSub, Int32.reduceMul, Int32.reduceLE, Int32.reduceLT, Nat.reduceAdd, nr_2, nr_30, nr_31, rd_2, rd_14, rd_71, rd_72, rd_101, rd_116, rd_121, up2_s, up2_n, upr_s, upr_n, ne_eq, not_false_eq_true, ob_70, rx_70_1, rx_70_3, rx_70_5, rx_70_6, rx_70_7, rx_70_8, rx_70_9, rx_70_21, rx_70_22, rx_70_23, rx_70_24, rx_70_25, rx_70_26, rx_70_27, rx_70_28, rx_70_29, rx_70_30, rx_70_31, rx_70_32, rx_70_33, rx_70_34, rx_70_35, rx_70_36, rx_70_37, rx_70_38, rx_70_39, rx_70_40, rx_70_41, rx_70_42, rx_70_43, rx_70_45, rx_70_46, rx_70_47, rx_70_48, rx_70_49, rx_70_51, rx_70_52, rx_70_53, rx_70_55, rx_70_56, rx_70_58, rx_70_59, rx_70_60, rx_70_61, rx_70_63, rx_70_64, rx_70_65, rx_70_70, rx_70_71, rx_70_72, rx_70_73, rx_70_74, r187_0, r187_1, r187_3, r187_5, r187_8, r187_9, r187_12, r187_13, r187_14, r187_17, r187_18, r187_19, r187_20, r187_23, r187_26, e1]
  | succ m ih =>
    intro k hk
    have e1 : ((48 : Int32) ≤ nI k) = False := leF (a := 48) (by omega) (by omega)
    have e2 := inT (a := k) (N := 48) (by omega) (by omega)
    have e3 := nI_clamp (n := k) (by omega)
    have e4 := put_s J 111 (0) k (J 112)
    rw [Nat.zero_add] at e4
    rw [r187_2]
    simp (config := { decide := true }) only [↓reduceIte, KV_i, KV_v, wsm_0, wsm_i, wsm_l, wsm_r, dlV_i, dlV_r, dlV_l, dlV_j, cat_i, cat_l, cat_r, rf_s, true_and, and_true, and_self, if_true, if_false, ite_true, ite_false, eq_self, true_or, or_true, false_or, or_false, not_true_eq_false, not_false_eq_true, vn_0_45, vn_1_45, vn_2_45, vn_3_45, vn_4_45, vn_5_45, vn_6_45, vn_7_45, vn_8_45, vn_36_48, vn_37_48, vn_38_48, vn_39_48, vn_40_48, vn_41_48, vn_42_48, vn_43_48, vn_44_48, vn_0_9, vn_1_9, vn_2_9, vn_3_9, vn_4_9, vn_5_9, vn_6_9, vn_7_9, vn_8_9, vn_0_3, vn_1_3, vn_2_3, vn_0_4, vn_1_4, vn_2_4, vn_3_4, vn_0_64, vn_0_16, vn_0_400, vn_0_6, vn_0_14, Int32.reduceToNatClampNeg, Int32.reduceAdd, Int32.reduceSub, Int32.reduceMul, Int32.reduceLE, Int32.reduceLT, Nat.reduceAdd, nr_2, nr_30, nr_31, rd_2, rd_14, rd_71, rd_72, rd_101, rd_116, rd_121, up2_s, up2_n, upr_s, upr_n, ne_eq, not_false_eq_true, ob_70, rx_70_1, rx_70_3, rx_70_5, rx_70_6, rx_70_7, rx_70_8, rx_70_9, rx_70_21, rx_70_22, rx_70_23, rx_70_24, rx_70_25, rx_70_26, rx_70_27, rx_70_28, rx_70_29, rx_70_30, rx_70_31, rx_70_32, rx_70_33, rx_70_34, rx_70_35, rx_70_36, rx_70_37, rx_70_38, rx_70_39, rx_70_40, rx_70_41, rx_70_42, rx_70_43, rx_70_45, rx_70_46, rx_70_47, rx_70_48, rx_70_49, rx_70_51, rx_70_52, rx_70_53, rx_70_55, rx_70_56, rx_70_58, rx_70_59, rx_70_60, rx_70_61, rx_70_63, rx_70_64, rx_70_65, rx_70_70, rx_70_71, rx_70_72, rx_70_73, rx_70_74, r187_0, r187_1, r187_3, r187_5, r187_8, r187_9, r187_12, r187_13, r187_14, r187_17, r187_18, r187_19, r187_20, r187_23, r187_26, tg_111, ln_111, tg_112, ln_112, e1, e2, e3, nI_1]
    rw [e4]
    exact ih (k + 1) (by omega)
theorem lp_hold {t : Nat} {u : Option Nat} {J : AI} {L : AL} {Q : PQ} {z : Nat} (hz : z < 3) : ∀ m k, k + m = 48 → V 253 20 [.ref 70, .int (nI z), .int (nI k)] [] 123 (upr J 122 (fb_put (J 122) (J 111) (48 * z) k)) L (RX t u) Q = Q (some (.int 1)) 123 (upr J 122 (fb_put (J 122) (J 111) (48 * z) 48)) L (RX t u) := by
  intro m
  induction m with
  | zero =>
    intro k hk
    have e : k = 48 := by omega
    subst e
    have e1 : ((48 : Int32) ≤ nI 48) = True := leT (a := 48) (by omega) (by omega)
    rw [r253_20]
    simp (config := { decide := true }) only [↓reduceIte, KV_i, KV_v, wsm_0, wsm_i, wsm_l, wsm_r, dlV_i, dlV_r, dlV_l, dlV_j, cat_i, cat_l, cat_r, rf_s, true_and, and_true, and_self, if_true, if_false, ite_true, ite_false, eq_self, true_or, or_true, false_or, or_false, not_true_eq_false, not_false_eq_true, vn_0_45, vn_1_45, vn_2_45, vn_3_45, vn_4_45, vn_5_45, vn_6_45, vn_7_45, vn_8_45, vn_36_48, vn_37_48, vn_38_48, vn_39_48, vn_40_48, vn_41_48, vn_42_48, vn_43_48, vn_44_48, vn_0_9, vn_1_9, vn_2_9, vn_3_9, vn_4_9, vn_5_9, vn_6_9, vn_7_9, vn_8_9, vn_0_3, vn_1_3, vn_2_3, vn_0_4, vn_1_4, vn_2_4, vn_3_4, vn_0_64, vn_0_16, vn_0_400, vn_0_6, vn_0_14, Int32.reduceToNatClampNeg, Int32.reduceAdd, Int32.reduceSub, Int32.reduceMul, Int32.reduceLE, Int32.reduceLT, Nat.reduceAdd, nr_2, nr_30, nr_31, rd_2, rd_14, rd_71, rd_72, rd_101, rd_116, rd_121, up2_s, up2_n, upr_s, upr_n, ne_eq, not_false_eq_true, ob_70, rx_70_1, rx_70_3, rx_70_5, rx_70_6, rx_70_7, rx_70_8, rx_70_9, rx_70_21, rx_70_22, rx_70_23, rx_70_24, rx_70_25, rx_70_26, rx_70_27, rx_70_28, rx_70_29, rx_70_30, rx_70_31, rx_70_32, rx_70_33, rx_70_34, rx_70_35, rx_70_36, rx_70_37, rx_70_38, rx_70_39, rx_70_40, rx_70_41, rx_70_42, rx_70_43, rx_70_45, rx_70_46, rx_70_47, rx_70_48, rx_70_49, rx_70_51, rx_70_52, rx_70_53, rx_70_55, rx_70_56, rx_70_58, rx_70_59, rx_70_60, rx_70_61, rx_70_63, rx_70_64, rx_70_65, rx_70_70, rx_70_71, rx_70_72, rx_70_73, rx_70_74, r253_0, r253_1, r253_2, r253_3, r253_6, r253_9, r253_10, r253_11, r253_12, r253_15, r253_16, r253_17, r253_18, r253_19, r253_21, r253_23, r253_26, r253_27, r253_30, r253_32, r253_33, r253_34, r253_35, r253_36, r253_37, r253_40, r253_41, r253_42, r253_43, r253_46, r253_49, r253_50, e1]
  | succ m ih =>
    intro k hk
    have e1 : ((48 : Int32) ≤ nI k) = False := leF (a := 48) (by omega) (by omega)
    have e2 := inT (a := k) (N := 48) (by omega) (by omega)
    have e3 := nI_clamp (n := k) (by omega)
    have e4 := put_s J 122 (48 * z) k (J 111)
    have e5 : (48 : Int32) * nI z = nI (48 * z) := pk_mul 48 z
    have e6 := nI_add (48 * z) k
    have e7 := inT (a := 48 * z + k) (N := 144) (by omega) (by omega)
    have e8 := nI_clamp (n := 48 * z + k) (by omega)
    rw [r253_20]
    simp (config := { decide := true }) only [↓reduceIte, KV_i, KV_v, wsm_0, wsm_i, wsm_l, wsm_r, dlV_i, dlV_r, dlV_l, dlV_j, cat_i, cat_l, cat_r, rf_s, true_and, and_true, and_self, if_true, if_false, ite_true, ite_false, eq_self, true_or, or_true, false_or, or_false, not_true_eq_false, not_false_eq_true, vn_0_45, vn_1_45, vn_2_45, vn_3_45, vn_4_45, vn_5_45, vn_6_45, vn_7_45, vn_8_45, vn_36_48, vn_37_48, vn_38_48, vn_39_48, vn_40_48, vn_41_48, vn_42_48, vn_43_48, vn_44_48, vn_0_9, vn_1_9, vn_2_9, vn_3_9, vn_4_9, vn_5_9, vn_6_9, vn_7_9, vn_8_9, vn_0_3, vn_1_3, vn_2_3, vn_0_4, vn_1_4, vn_2_4, vn_3_4, vn_0_64, vn_0_16, vn_0_400, vn_0_6, vn_0_14, Int32.reduceToNatClampNeg, Int32.reduceAdd, Int32.reduceSub, Int32.reduceMul, Int32.reduceLE, Int32.reduceLT, Nat.reduceAdd, nr_2, nr_30, nr_31, rd_2, rd_14, rd_71, rd_72, rd_101, rd_116, rd_121, up2_s, up2_n, upr_s, upr_n, ne_eq, not_false_eq_true, ob_70, rx_70_1, rx_70_3, rx_70_5, rx_70_6, rx_70_7, rx_70_8, rx_70_9, rx_70_21, rx_70_22, rx_70_23, rx_70_24, rx_70_25, rx_70_26, rx_70_27, rx_70_28, rx_70_29, rx_70_30, rx_70_31, rx_70_32, rx_70_33, rx_70_34, rx_70_35, rx_70_36, rx_70_37, rx_70_38, rx_70_39, rx_70_40, rx_70_41, rx_70_42, rx_70_43, rx_70_45, rx_70_46, rx_70_47, rx_70_48, rx_70_49, rx_70_51, rx_70_52, rx_70_53, rx_70_55, rx_70_56, rx_70_58, rx_70_59, rx_70_60, rx_70_61, rx_70_63, rx_70_64, rx_70_65, rx_70_70, rx_70_71, rx_70_72, rx_70_73, rx_70_74, r253_0, r253_1, r253_2, r253_3, r253_6, r253_9, r253_10, r253_11, r253_12, r253_15, r253_16, r253_17, r253_18, r253_19, r253_21, r253_23, r253_26, r253_27, r253_30, r253_32, r253_33, r253_34, r253_35, r253_36, r253_37, r253_40, r253_41, r253_42, r253_43, r253_46, r253_49, r253_50, tg_111, ln_111, tg_122, ln_122, e1, e2, e3, nI_1, e5, e6, e7, e8]
    rw [e4]
    exact ih (k + 1) (by omega)
theorem lp_restore {t : Nat} {u : Option Nat} {J : AI} {L : AL} {Q : PQ} {z : Nat} (hz : z < 3) : ∀ m k, k + m = 48 → V 254 22 [.ref 70, .int (nI z), .int (nI k)] [] 123 (upr J 111 (fb_put (J 111) (fun j => J 122 (48 * z + j)) (0) k)) L (RX t u) Q = Q (some (.int 1)) 123 (up2 (upr J 111 (fb_put (J 111) (fun j => J 122 (48 * z + j)) (0) 48)) 70 62 0) L (RX t u) := by
  intro m
  induction m with
  | zero =>
    intro k hk
    have e : k = 48 := by omega
    subst e
    have e1 : ((48 : Int32) ≤ nI 48) = True := leT (a := 48) (by omega) (by omega)
    rw [r254_22]
    simp (config := { decide := true }) only [↓reduceIte, KV_i, KV_v, wsm_0, wsm_i, wsm_l, wsm_r, dlV_i, dlV_r, dlV_l, dlV_j, cat_i, cat_l, cat_r, rf_s, true_and, and_true, and_self, if_true, if_false, ite_true, ite_false, eq_self, true_or, or_true, false_or, or_false, not_true_eq_false, not_false_eq_true, vn_0_45, vn_1_45, vn_2_45, vn_3_45, vn_4_45, vn_5_45, vn_6_45, vn_7_45, vn_8_45, vn_36_48, vn_37_48, vn_38_48, vn_39_48, vn_40_48, vn_41_48, vn_42_48, vn_43_48, vn_44_48, vn_0_9, vn_1_9, vn_2_9, vn_3_9, vn_4_9, vn_5_9, vn_6_9, vn_7_9, vn_8_9, vn_0_3, vn_1_3, vn_2_3, vn_0_4, vn_1_4, vn_2_4, vn_3_4, vn_0_64, vn_0_16, vn_0_400, vn_0_6, vn_0_14, Int32.reduceToNatClampNeg, Int32.reduceAdd, Int32.reduceSub, Int32.reduceMul, Int32.reduceLE, Int32.reduceLT, Nat.reduceAdd, nr_2, nr_30, nr_31, rd_2, rd_14, rd_71, rd_72, rd_101, rd_116, rd_121, up2_s, up2_n, upr_s, upr_n, ne_eq, not_false_eq_true, ob_70, rx_70_1, rx_70_3, rx_70_5, rx_70_6, rx_70_7, rx_70_8, rx_70_9, rx_70_21, rx_70_22, rx_70_23, rx_70_24, rx_70_25, rx_70_26, rx_70_27, rx_70_28, rx_70_29, rx_70_30, rx_70_31, rx_70_32, rx_70_33, rx_70_34, rx_70_35, rx_70_36, rx_70_37, rx_70_38, rx_70_39, rx_70_40, rx_70_41, rx_70_42, rx_70_43, rx_70_45, rx_70_46, rx_70_47, rx_70_48, rx_70_49, rx_70_51, rx_70_52, rx_70_53, rx_70_55, rx_70_56, rx_70_58, rx_70_59, rx_70_60, rx_70_61, rx_70_63, rx_70_64, rx_70_65, rx_70_70, rx_70_71, rx_70_72, rx_70_73, rx_70_74, r254_0, r254_1, r254_2, r254_3, r254_6, r254_9, r254_10, r254_13, r254_14, r254_15, r254_18, r254_19, r254_20, r254_21, r254_23, r254_25, r254_28, r254_29, r254_32, r254_33, r254_34, r254_37, r254_39, r254_40, r254_41, r254_42, r254_43, r254_44, r254_45, r254_48, r254_51, r254_52, r254_53, r254_56, r254_57, e1]
  | succ m ih =>
    intro k hk
    have e1 : ((48 : Int32) ≤ nI k) = False := leF (a := 48) (by omega) (by omega)
    have e2 := inT (a := k) (N := 48) (by omega) (by omega)
    have e3 := nI_clamp (n := k) (by omega)
    have e4 := put_s J 111 (0) k (fun j => J 122 (48 * z + j))
    rw [Nat.zero_add] at e4
    have e5 : (48 : Int32) * nI z = nI (48 * z) := pk_mul 48 z
    have e6 := nI_add (48 * z) k
    have e7 := inT (a := 48 * z + k) (N := 144) (by omega) (by omega)
    have e8 := nI_clamp (n := 48 * z + k) (by omega)
    rw [r254_22]
    simp (config := { decide := true }) only [↓reduceIte, KV_i, KV_v, wsm_0, wsm_i, wsm_l, wsm_r, dlV_i, dlV_r, dlV_l, dlV_j, cat_i, cat_l, cat_r, rf_s, true_and, and_true, and_self, if_true, if_false, ite_true, ite_false, eq_self, true_or, or_true, false_or, or_false, not_true_eq_false, not_false_eq_true, vn_0_45, vn_1_45, vn_2_45, vn_3_45, vn_4_45, vn_5_45, vn_6_45, vn_7_45, vn_8_45, vn_36_48, vn_37_48, vn_38_48, vn_39_48, vn_40_48, vn_41_48, vn_42_48, vn_43_48, vn_44_48, vn_0_9, vn_1_9, vn_2_9, vn_3_9, vn_4_9, vn_5_9, vn_6_9, vn_7_9, vn_8_9, vn_0_3, vn_1_3, vn_2_3, vn_0_4, vn_1_4, vn_2_4, vn_3_4, vn_0_64, vn_0_16, vn_0_400, vn_0_6, vn_0_14, Int32.reduceToNatClampNeg, Int32.reduceAdd, Int32.reduceSub, Int32.reduceMul, Int32.reduceLE, Int32.reduceLT, Nat.reduceAdd, nr_2, nr_30, nr_31, rd_2, rd_14, rd_71, rd_72, rd_101, rd_116, rd_121, up2_s, up2_n, upr_s, upr_n, ne_eq, not_false_eq_true, ob_70, rx_70_1, rx_70_3, rx_70_5, rx_70_6, rx_70_7, rx_70_8, rx_70_9, rx_70_21, rx_70_22, rx_70_23, rx_70_24, rx_70_25, rx_70_26, rx_70_27, rx_70_28, rx_70_29, rx_70_30, rx_70_31, rx_70_32, rx_70_33, rx_70_34, rx_70_35, rx_70_36, rx_70_37, rx_70_38, rx_70_39, rx_70_40, rx_70_41, rx_70_42, rx_70_43, rx_70_45, rx_70_46, rx_70_47, rx_70_48, rx_70_49, rx_70_51, rx_70_52, rx_70_53, rx_70_55, rx_70_56, rx_70_58, rx_70_59, rx_70_60, rx_70_61, rx_70_63, rx_70_64, rx_70_65, rx_70_70, rx_70_71, rx_70_72, rx_70_73, rx_70_74, r254_0, r254_1, r254_2, r254_3, r254_6, r254_9, r254_10, r254_13, r254_14, r254_15, r254_18, r254_19, r254_20, r254_21, r254_23, r254_25, r254_28, r254_29, r254_32, r254_33, r254_34, r254_37, r254_39, r254_40, r254_41, r254_42, r254_43, r254_44, r254_45, r254_48, r254_51, r254_52, r254_53, r254_56, r254_57, tg_111, ln_111, tg_122, ln_122, e1, e2, e3, nI_1, e5, e6, e7, e8]
    rw [e4]
    exact ih (k + 1) (by omega)
theorem lp_undo {t : Nat} {u : Option Nat} {J : AI} {L : AL} {Q : PQ} {z : Nat} (hz : z < 40) (hw : J 70 62 = nI z) : ∀ m k, k + m = 48 → V 212 21 [.ref 70, .int (nI k)] [] 123 (upr J 111 (fb_put (J 111) (fun j => J 115 (48 * z + j)) (0) k)) L (RX t u) Q = Q (some (.int 1)) 123 (upr J 111 (fb_put (J 111) (fun j => J 115 (48 * z + j)) (0) 48)) L (RX t u) := by
  intro m
  induction m with
  | zero =>
    intro k hk
    have e : k = 48 := by omega
    subst e
    have e1 : ((48 : Int32) ≤ nI 48) = True := leT (a := 48) (by omega) (by omega)
    rw [r212_21]
    simp (config := { decide := true }) only [↓reduceIte, KV_i, KV_v, wsm_0, wsm_i, wsm_l, wsm_r, dlV_i, dlV_r, dlV_l, dlV_j, cat_i, cat_l, cat_r, rf_s, true_and, and_true, and_self, if_true, if_false, ite_true, ite_false, eq_self, true_or, or_true, false_or, or_false, not_true_eq_false, not_false_eq_true, vn_0_45, vn_1_45, vn_2_45, vn_3_45, vn_4_45, vn_5_45, vn_6_45, vn_7_45, vn_8_45, vn_36_48, vn_37_48, vn_38_48, vn_39_48, vn_40_48, vn_41_48, vn_42_48, vn_43_48, vn_44_48, vn_0_9, vn_1_9, vn_2_9, vn_3_9, vn_4_9, vn_5_9, vn_6_9, vn_7_9, vn_8_9, vn_0_3, vn_1_3, vn_2_3, vn_0_4, vn_1_4, vn_2_4, vn_3_4, vn_0_64, vn_0_16, vn_0_400, vn_0_6, vn_0_14, Int32.reduceToNatClampNeg, Int32.reduceAdd, Int32.reduceSub, Int32.reduceMul, Int32.reduceLE, Int32.reduceLT, Nat.reduceAdd, nr_2, nr_30, nr_31, rd_2, rd_14, rd_71, rd_72, rd_101, rd_116, rd_121, up2_s, up2_n, upr_s, upr_n, ne_eq, not_false_eq_true, ob_70, rx_70_1, rx_70_3, rx_70_5, rx_70_6, rx_70_7, rx_70_8, rx_70_9, rx_70_21, rx_70_22, rx_70_23, rx_70_24, rx_70_25, rx_70_26, rx_70_27, rx_70_28, rx_70_29, rx_70_30, rx_70_31, rx_70_32, rx_70_33, rx_70_34, rx_70_35, rx_70_36, rx_70_37, rx_70_38, rx_70_39, rx_70_40, rx_70_41, rx_70_42, rx_70_43, rx_70_45, rx_70_46, rx_70_47, rx_70_48, rx_70_49, rx_70_51, rx_70_52, rx_70_53, rx_70_55, rx_70_56, rx_70_58, rx_70_59, rx_70_60, rx_70_61, rx_70_63, rx_70_64, rx_70_65, rx_70_70, rx_70_71, rx_70_72, rx_70_73, rx_70_74, r212_0, r212_1, r212_4, r212_7, r212_8, r212_9, r212_10, r212_11, r212_14, r212_15, r212_16, r212_19, r212_20, r212_22, r212_24, r212_27, r212_28, r212_31, r212_32, r212_33, r212_36, r212_38, r212_39, r212_42, r212_43, r212_44, r212_45, r212_46, r212_47, r212_50, r212_53, r212_54, e1]
  | succ m ih =>
    intro k hk
    have e1 : ((48 : Int32) ≤ nI k) = False := leF (a := 48) (by omega) (by omega)
    have e2 := inT (a := k) (N := 48) (by omega) (by omega)
    have e3 := nI_clamp (n := k) (by omega)
    have e4 := put_s J 111 (0) k (fun j => J 115 (48 * z + j))
    rw [Nat.zero_add] at e4
    have e5 : (48 : Int32) * nI z = nI (48 * z) := pk_mul 48 z
    have e6 := nI_add (48 * z) k
    have e7 := inT (a := 48 * z + k) (N := 1920) (by omega) (by omega)
    have e8 := nI_clamp (n := 48 * z + k) (by omega)
    rw [r212_21]
    simp (config := { decide := true }) only [↓reduceIte, KV_i, KV_v, wsm_0, wsm_i, wsm_l, wsm_r, dlV_i, dlV_r, dlV_l, dlV_j, cat_i, cat_l, cat_r, rf_s, true_and, and_true, and_self, if_true, if_false, ite_true, ite_false, eq_self, true_or, or_true, false_or, or_false, not_true_eq_false, not_false_eq_true, vn_0_45, vn_1_45, vn_2_45, vn_3_45, vn_4_45, vn_5_45, vn_6_45, vn_7_45, vn_8_45, vn_36_48, vn_37_48, vn_38_48, vn_39_48, vn_40_48, vn_41_48, vn_42_48, vn_43_48, vn_44_48, vn_0_9, vn_1_9, vn_2_9, vn_3_9, vn_4_9, vn_5_9, vn_6_9, vn_7_9, vn_8_9, vn_0_3, vn_1_3, vn_2_3, vn_0_4, vn_1_4, vn_2_4, vn_3_4, vn_0_64, vn_0_16, vn_0_400, vn_0_6, vn_0_14, Int32.reduceToNatClampNeg, Int32.reduceAdd, Int32.reduceSub, Int32.reduceMul, Int32.reduceLE, Int32.reduceLT, Nat.reduceAdd, nr_2, nr_30, nr_31, rd_2, rd_14, rd_71, rd_72, rd_101, rd_116, rd_121, up2_s, up2_n, upr_s, upr_n, ne_eq, not_false_eq_true, ob_70, rx_70_1, rx_70_3, rx_70_5, rx_70_6, rx_70_7, rx_70_8, rx_70_9, rx_70_21, rx_70_22, rx_70_23, rx_70_24, rx_70_25, rx_70_26, rx_70_27, rx_70_28, rx_70_29, rx_70_30, rx_70_31, rx_70_32, rx_70_33, rx_70_34, rx_70_35, rx_70_36, rx_70_37, rx_70_38, rx_70_39, rx_70_40, rx_70_41, rx_70_42, rx_70_43, rx_70_45, rx_70_46, rx_70_47, rx_70_48, rx_70_49, rx_70_51, rx_70_52, rx_70_53, rx_70_55, rx_70_56, rx_70_58, rx_70_59, rx_70_60, rx_70_61, rx_70_63, rx_70_64, rx_70_65, rx_70_70, rx_70_71, rx_70_72, rx_70_73, rx_70_74, r212_0, r212_1, r212_4, r212_7, r212_8, r212_9, r212_10, r212_11, r212_14, r212_15, r212_16, r212_19, r212_20, r212_22, r212_24, r212_27, r212_28, r212_31, r212_32, r212_33, r212_36, r212_38, r212_39, r212_42, r212_43, r212_44, r212_45, r212_46, r212_47, r212_50, r212_53, r212_54, tg_111, ln_111, tg_115, ln_115, e1, e2, e3, nI_1, e5, e6, e7, e8, hw]
    rw [e4]
    exact ih (k + 1) (by omega)
theorem f_copies {t : Nat} {u : Option Nat} {J : AI} {L : AL} {Q : PQ} : V 188 0 [.ref 70, .retAddr 0] [] 123 J L (RX t u) Q = Q none 123 (upr J 112 (fb_put (J 112) (J 111) 0 48)) L (RX t u) := by
  have e := lp_copies (t := t) (u := u) (J := J) (L := L) (Q := Q) 48 0 (by omega)
  rw [put_0] at e
  rw [r188_0, r188_1, dlV_r]
  exact e
theorem f_keepsRow {t : Nat} {u : Option Nat} {J : AI} {L : AL} {Q : PQ} : V 187 0 [.ref 70, .retAddr 0] [] 123 J L (RX t u) Q = Q none 123 (upr J 111 (fb_put (J 111) (J 112) 0 48)) L (RX t u) := by
  have e := lp_keepsRow (t := t) (u := u) (J := J) (L := L) (Q := Q) 48 0 (by omega)
  rw [put_0] at e
  rw [r187_0, r187_1, dlV_r]
  exact e
