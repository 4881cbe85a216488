/-! READ: an E in the reference -/
def ym (J : AI) (cm ci : Nat → Int32) (cd : Nat) (wt : Nat → Int32) (wl op : Nat) : AI := up2 (up2 (up2 (upr (upr (upr J 106 cm) 107 ci) 108 wt) 70 50 (nI cd)) 70 54 (nI wl)) 70 12 (nI op)
theorem ym_n {J : AI} {cm ci wt : Nat → Int32} {cd wl op : Nat} {a : Nat} (h1 : a ≠ 106) (h2 : a ≠ 107) (h3 : a ≠ 108) (h4 : a ≠ 70) : ym J cm ci cd wt wl op a = J a := by
  unfold ym
  rw [up2_n h4, up2_n h4, up2_n h4, upr_n h3, upr_n h2, upr_n h1]
theorem ym_106 {J : AI} {cm ci wt : Nat → Int32} {cd wl op : Nat} : ym J cm ci cd wt wl op 106 = cm := rfl
theorem ym_107 {J : AI} {cm ci wt : Nat → Int32} {cd wl op : Nat} : ym J cm ci cd wt wl op 107 = ci := rfl
theorem ym_108 {J : AI} {cm ci wt : Nat → Int32} {cd wl op : Nat} : ym J cm ci cd wt wl op 108 = wt := rfl
theorem ym_70 {J : AI} {cm ci wt : Nat → Int32} {cd wl op : Nat} : ym J cm ci cd wt wl op 70 = upr (upr (upr (J 70) 50 (nI cd)) 54 (nI wl)) 12 (nI op) := rfl
theorem ym_50 {J : AI} {cm ci wt : Nat → Int32} {cd wl op : Nat} : ym J cm ci cd wt wl op 70 50 = nI cd := rfl
theorem ym_54 {J : AI} {cm ci wt : Nat → Int32} {cd wl op : Nat} : ym J cm ci cd wt wl op 70 54 = nI wl := rfl
theorem ym_12 {J : AI} {cm ci wt : Nat → Int32} {cd wl op : Nat} : ym J cm ci cd wt wl op 70 12 = nI op := rfl
theorem ym_19 {J : AI} {cm ci wt : Nat → Int32} {cd wl op : Nat} : ym J cm ci cd wt wl op 70 19 = J 70 19 := rfl
theorem ym_20 {J : AI} {cm ci wt : Nat → Int32} {cd wl op : Nat} : ym J cm ci cd wt wl op 70 20 = J 70 20 := rfl
theorem ym_44 {J : AI} {cm ci wt : Nat → Int32} {cd wl op : Nat} : ym J cm ci cd wt wl op 70 44 = J 70 44 := rfl
theorem ym_e {I J : AI} (h : ∀ a, a ≠ 106 → a ≠ 107 → a ≠ 108 → a ≠ 70 → I a = J a) (h1 : I 106 = J 106) (h2 : I 107 = J 107) (h3 : I 108 = J 108) (h4 : I 70 = J 70) : I = J := by
  funext a
  by_cases e3 : a = 106
  · subst e3; exact h1
  by_cases e4 : a = 107
  · subst e4; exact h2
  by_cases e5 : a = 108
  · subst e5; exact h3
  by_cases e6 : a = 70
  · subst e6; exact h4
  exact h a e3 e4 e5 e6
theorem upr_k {α : Type} (f : Nat → α) {k l : Nat} (h : k ≠ l) (v w : α) : upr (upr f k v) l w = upr (upr f l w) k v := by
  funext b
  unfold upr
  by_cases e1 : b = l
  · by_cases e2 : b = k
    · exact absurd (e2.symm.trans e1) h
    · simp [e1, Ne.symm h]
  · by_cases e2 : b = k
    · simp [e2, h]
    · simp [e1, e2]
theorem yu_106 {J : AI} {cm ci wt : Nat → Int32} {cd wl op : Nat} (k : Nat) (v : Int32) : up2 (ym J cm ci cd wt wl op) 106 k v = ym J (upr cm k v) ci cd wt wl op := by
  refine ym_e (fun a a1 a2 a3 a4 => ?_) ?_ ?_ ?_ ?_
  · rw [up2_n a1, ym_n a1 a2 a3 a4, ym_n a1 a2 a3 a4]
  · rw [up2_s]; rfl
  · rw [up2_n (by decide)]; rfl
  · rw [up2_n (by decide)]; rfl
  · rw [up2_n (by decide)]; rfl
theorem yu_107 {J : AI} {cm ci wt : Nat → Int32} {cd wl op : Nat} (k : Nat) (v : Int32) : up2 (ym J cm ci cd wt wl op) 107 k v = ym J cm (upr ci k v) cd wt wl op := by
  refine ym_e (fun a a1 a2 a3 a4 => ?_) ?_ ?_ ?_ ?_
  · rw [up2_n a2, ym_n a1 a2 a3 a4, ym_n a1 a2 a3 a4]
  · rw [up2_n (by decide)]; rfl
  · rw [up2_s]; rfl
  · rw [up2_n (by decide)]; rfl
  · rw [up2_n (by decide)]; rfl
theorem yu_108 {J : AI} {cm ci wt : Nat → Int32} {cd wl op : Nat} (k : Nat) (v : Int32) : up2 (ym J cm ci cd wt wl op) 108 k v = ym J cm ci cd (upr wt k v) wl op := by
  refine ym_e (fun a a1 a2 a3 a4 => ?_) ?_ ?_ ?_ ?_
  · rw [up2_n a3, ym_n a1 a2 a3 a4, ym_n a1 a2 a3 a4]
  · rw [up2_n (by decide)]; rfl
  · rw [up2_n (by decide)]; rfl
  · rw [up2_s]; rfl
  · rw [up2_n (by decide)]; rfl
theorem yu_50 {J : AI} {cm ci wt : Nat → Int32} {cd wl op : Nat} (l : Nat) : up2 (ym J cm ci cd wt wl op) 70 50 (nI l) = ym J cm ci l wt wl op := by
  refine ym_e (fun a a1 a2 a3 a4 => ?_) ?_ ?_ ?_ ?_
  · rw [up2_n a4, ym_n a1 a2 a3 a4, ym_n a1 a2 a3 a4]
  · rw [up2_n (by decide)]; rfl
  · rw [up2_n (by decide)]; rfl
  · rw [up2_n (by decide)]; rfl
  · rw [up2_s, ym_70, ym_70, upr_k _ (k := 12) (l := 50) (by decide), upr_k _ (k := 54) (l := 50) (by decide), upr_u]
theorem yu_54 {J : AI} {cm ci wt : Nat → Int32} {cd wl op : Nat} (l : Nat) : up2 (ym J cm ci cd wt wl op) 70 54 (nI l) = ym J cm ci cd wt l op := by
  refine ym_e (fun a a1 a2 a3 a4 => ?_) ?_ ?_ ?_ ?_
  · rw [up2_n a4, ym_n a1 a2 a3 a4, ym_n a1 a2 a3 a4]
  · rw [up2_n (by decide)]; rfl
  · rw [up2_n (by decide)]; rfl
  · rw [up2_n (by decide)]; rfl
  · rw [up2_s, ym_70, ym_70, upr_k _ (k := 12) (l := 54) (by decide), upr_u]
theorem yu_12 {J : AI} {cm ci wt : Nat → Int32} {cd wl op : Nat} (l : Nat) : up2 (ym J cm ci cd wt wl op) 70 12 (nI l) = ym J cm ci cd wt wl l := by
  refine ym_e (fun a a1 a2 a3 a4 => ?_) ?_ ?_ ?_ ?_
  · rw [up2_n a4, ym_n a1 a2 a3 a4, ym_n a1 a2 a3 a4]
  · rw [up2_n (by decide)]; rfl
  · rw [up2_n (by decide)]; rfl
  · rw [up2_n (by decide)]; rfl
  · rw [up2_s, ym_70, ym_70, upr_u]
theorem m_emit {t : Nat} {u : Option Nat} {J : AI} {L : AL} {Q : PQ} {S : PS} {cm ci wt : Nat → Int32} {cd wl op : Nat} {k v : Int32} (hc : cd < 840) : V 172 0 [.ref 70, .int k, .int v] [] 123 (wm (ym J cm ci cd wt wl op) S) L (RX t u) Q = Q none 123 (wm (ym J (upr cm cd k) (upr ci cd v) (cd + 1) wt wl op) S) L (RX t u) := by
  have x1 := inT (a := cd) (N := 840) (by omega) (by decide)
  have x2 := nI_clamp (n := cd) (by omega)
  simp (config := { decide := true, maxDischargeDepth := 20 }) only [↓reduceIte, KV_i, KV_v, wsm_0, wsm_i, wsm_l, wsm_r, dlV_i, dlV_r, dlV_l, dlV_j, cat_i, cat_l, cat_r, rf_s, true_and, and_true, and_self, if_true, if_false, ite_true, ite_false, eq_self, true_or, or_true, false_or, or_false, not_true_eq_false, not_false_eq_true, vn_0_45, vn_1_45, vn_2_45, vn_3_45, vn_4_45, vn_5_45, vn_6_45, vn_7_45, vn_8_45, vn_36_48, vn_37_48, vn_38_48, vn_39_48, vn_40_48, vn_41_48, vn_42_48, vn_43_48, vn_44_48, vn_0_9, vn_1_9, vn_2_9, vn_3_9, vn_4_9, vn_5_9, vn_6_9, vn_7_9, vn_8_9, vn_0_3, vn_1_3, vn_2_3, vn_0_4, vn_1_4, vn_2_4, vn_3_4, vn_0_64, vn_0_16, vn_0_400, vn_0_6, vn_0_14, Int32.reduceToNatClampNeg, Int32.reduceAdd, Int32.reduceSub, Int32.reduceMul, Int32.reduceLE, Int32.reduceLT, Nat.reduceAdd, nr_2, nr_30, nr_31, rd_2, rd_14, rd_71, rd_72, rd_101, rd_116, rd_121, up2_s, up2_n, upr_s, upr_n, ne_eq, not_false_eq_true, ob_70, rx_70_1, rx_70_3, rx_70_5, rx_70_6, rx_70_7, rx_70_8, rx_70_9, rx_70_21, rx_70_22, rx_70_23, rx_70_24, rx_70_25, rx_70_26, rx_70_27, rx_70_28, rx_70_29, rx_70_30, rx_70_31, rx_70_32, rx_70_33, rx_70_34, rx_70_35, rx_70_36, rx_70_37, rx_70_38, rx_70_39, rx_70_40, rx_70_41, rx_70_42, rx_70_43, rx_70_45, rx_70_46, rx_70_47, rx_70_48, rx_70_49, rx_70_51, rx_70_52, rx_70_53, rx_70_55, rx_70_56, rx_70_58, rx_70_59, rx_70_60, rx_70_61, rx_70_63, rx_70_64, rx_70_65, rx_70_70, rx_70_71, rx_70_72, rx_70_73, rx_70_74, r172_0, r172_1, r172_4, r172_5, r172_8, r172_9, r172_10, r172_11, r172_14, r172_15, r172_18, r172_19, r172_20, r172_21, r172_22, r172_25, r172_26, r172_27, r172_30, tg_106, ln_106, tg_107, ln_107, wm_11, wm_13, wm_14, wm_15, wm_16, wm_4, wm_12, wm_18, wm_19, wm_20, wm_44, wm_50, wm_54, wm_n, wm_up, wm_u11, wm_u13, wm_u14, wm_u15, wm_u16, wm_u12, wm_u18, wm_u19, wm_u20, wm_u44, wm_u50, wm_u54, ym_n, ym_106, ym_107, ym_108, ym_50, ym_54, ym_12, ym_19, ym_20, ym_44, yu_106, yu_107, yu_108, yu_50, yu_54, yu_12, x1, x2, nI_1]
theorem kM_v : ∀ k, k < 36 → (decide ((34 : Int32) ≤ nI (kM k)) && decide (nI (kM k) ≤ (42 : Int32))) = (decide (14 ≤ k) && decide (k < 23)) := by decide +kernel
theorem kM_s : ∀ k, k < 23 → 14 ≤ k → nI (kM k) - 34 = nI (k - 14) := by decide +kernel
theorem kM_l : ∀ k, k < 36 → (nI (kM k) < (34 : Int32) ∨ (34 : Int32) ≤ nI (kM k)) := by decide +kernel
theorem m_unit {t : Nat} {u : Option Nat} {J : AI} {L : AL} {Q : PQ} {S : PS} {cm ci wt : Nat → Int32} {cd wl op : Nat} {kd pl vl mv : Nat → Nat} {n : Nat} {K3 K4 K5 : Nat → Int32} {K6 : Nat → Int64} (hT : TMR kd pl vl mv n K3 K4 K5 K6) (h3 : J 73 = K3) (h4 : J 74 = K4) (h5 : J 75 = K5) (hg : GS n S) (e0 : S.2.1 = 0) (hc : cd < 840) : V 175 0 [.ref 70] [] 123 (wm (ym J cm ci cd wt wl op) S) L (RX t u) Q = if kd S.1 = 24 then Q none 123 (wm (ym J (upr cm cd 0) (upr ci cd (nI (vl S.1))) (cd + 1) wt wl op) (goP pl S)) L (RX t u) else if 14 ≤ kd S.1 ∧ kd S.1 < 23 then Q none 123 (wm (ym J (upr cm cd 1) (upr ci cd (nI (kd S.1 - 14))) (cd + 1) wt wl op) (goP pl S)) L (RX t u) else Q none 123 (wm (ym J cm ci cd wt wl op) (stopP pl 1 S)) L (RX t u) := by
  have t1 := hT.1
  have hx := hg.1
  have k36 := hT.2.2.1 S.1
  have x1 := inT (a := S.1) (N := 403) (by omega) (by decide)
  have x2 := nI_clamp (n := S.1) (by omega)
  obtain ⟨y3, y4, y5, y6⟩ := hT.2.1 S.1 hx
  by_cases q1 : kd S.1 = 24
  · have y7 := y5 q1
    have e3 : isP kd 24 S = true := by unfold isP; rw [decide_eq_true e0, decide_eq_true q1]; rfl
    rw [if_pos q1]
    simp (config := { decide := true, maxDischargeDepth := 20 }) only [↓reduceIte, KV_i, KV_v, wsm_0, wsm_i, wsm_l, wsm_r, dlV_i, dlV_r, dlV_l, dlV_j, cat_i, cat_l, cat_r, rf_s, true_and, and_true, and_self, if_true, if_false, ite_true, ite_false, eq_self, true_or, or_true, false_or, or_false, not_true_eq_false, not_false_eq_true, vn_0_45, vn_1_45, vn_2_45, vn_3_45, vn_4_45, vn_5_45, vn_6_45, vn_7_45, vn_8_45, vn_36_48, vn_37_48, vn_38_48, vn_39_48, vn_40_48, vn_41_48, vn_42_48, vn_43_48, vn_44_48, vn_0_9, vn_1_9, vn_2_9, vn_3_9, vn_4_9, vn_5_9, vn_6_9, vn_7_9, vn_8_9, vn_0_3, vn_1_3, vn_2_3, vn_0_4, vn_1_4, vn_2_4, vn_3_4, vn_0_64, vn_0_16, vn_0_400, vn_0_6, vn_0_14, Int32.reduceToNatClampNeg, Int32.reduceAdd, Int32.reduceSub, Int32.reduceMul, Int32.reduceLE, Int32.reduceLT, Nat.reduceAdd, nr_2, nr_30, nr_31, rd_2, rd_14, rd_71, rd_72, rd_101, rd_116, rd_121, up2_s, up2_n, upr_s, upr_n, ne_eq, not_false_eq_true, ob_70, rx_70_1, rx_70_3, rx_70_5, rx_70_6, rx_70_7, rx_70_8, rx_70_9, rx_70_21, rx_70_22, rx_70_23, rx_70_24, rx_70_25, rx_70_26, rx_70_27, rx_70_28, rx_70_29, rx_70_30, rx_70_31, rx_70_32, rx_70_33, rx_70_34, rx_70_35, rx_70_36, rx_70_37, rx_70_38, rx_70_39, rx_70_40, rx_70_41, rx_70_42, rx_70_43, rx_70_45, rx_70_46, rx_70_47, rx_70_48, rx_70_49, rx_70_51, rx_70_52, rx_70_53, rx_70_55, rx_70_56, rx_70_58, rx_70_59, rx_70_60, rx_70_61, rx_70_63, rx_70_64, rx_70_65, rx_70_70, rx_70_71, rx_70_72, rx_70_73, rx_70_74, r175_0, r175_1, r175_2, r175_5, r175_8, r175_9, r175_10, r175_11, r175_14, r175_15, r175_18, r175_19, r175_22, r175_23, r175_26, r175_29, r175_30, r175_33, r175_36, r175_37, r175_40, r175_41, r175_44, r175_45, r175_47, r175_50, r175_51, r175_54, r175_55, r175_58, r175_59, r175_61, r175_64, r175_65, r175_66, r175_67, r175_70, r175_71, r175_74, r175_75, r175_77, r175_78, r175_81, r175_82, r175_85, r175_88, r175_89, r175_90, r175_93, tg_73, ln_73, tg_75, ln_75, wm_11, wm_13, wm_14, wm_15, wm_16, wm_4, wm_12, wm_18, wm_19, wm_20, wm_44, wm_50, wm_54, wm_n, wm_up, wm_u11, wm_u13, wm_u14, wm_u15, wm_u16, wm_u12, wm_u18, wm_u19, wm_u20, wm_u44, wm_u50, wm_u54, ym_n, ym_106, ym_107, ym_108, ym_50, ym_54, ym_12, ym_19, ym_20, ym_44, yu_106, yu_107, yu_108, yu_50, yu_54, yu_12, m_is_24 hT, m_emit, m_goesOn hT, h3, h4, h5, hg, hc, e3, bI_1, x1, x2, y7]
  · have e3 : isP kd 24 S = false := by unfold isP; rw [decide_eq_false q1, Bool.and_false]
    rw [if_neg q1]
    have kv := kM_v (kd S.1) k36
    by_cases q2 : 14 ≤ kd S.1 ∧ kd S.1 < 23
    · rw [decide_eq_true q2.1, decide_eq_true q2.2] at kv
      simp only [Bool.and_self, Bool.and_eq_true, decide_eq_true_eq] at kv
      have z1 : (nI (kM (kd S.1)) < (34 : Int32)) = False := eq_false (Int32.not_lt.mpr kv.1)
      have z2 : ((42 : Int32) < nI (kM (kd S.1))) = False := eq_false (Int32.not_lt.mpr kv.2)
      have z3 := kM_s (kd S.1) q2.2 q2.1
      rw [if_pos q2]
      simp (config := { decide := true, maxDischargeDepth := 20 }) only [↓reduceIte, KV_i, KV_v, wsm_0, wsm_i, wsm_l, wsm_r, dlV_i, dlV_r, dlV_l, dlV_j, cat_i, cat_l, cat_r, rf_s, true_and, and_true, and_self, if_true, if_false, ite_true, ite_false, eq_self, true_or, or_true, false_or, or_false, not_true_eq_false, not_false_eq_true, vn_0_45, vn_1_45, vn_2_45, vn_3_45, vn_4_45, vn_5_45, vn_6_45, vn_7_45, vn_8_45, vn_36_48, vn_37_48, vn_38_48, vn_39_48, vn_40_48, vn_41_48, vn_42_48, vn_43_48, vn_44_48, vn_0_9, vn_1_9, vn_2_9, vn_3_9, vn_4_9, vn_5_9, vn_6_9, vn_7_9, vn_8_9, vn_0_3, vn_1_3, vn_2_3, vn_0_4, vn_1_4, vn_2_4, vn_3_4, vn_0_64, vn_0_16, vn_0_400, vn_0_6, vn_0_14, Int32.reduceToNatClampNeg, Int32.reduceAdd, Int32.reduceSub, Int32.reduceMul, Int32.reduceLE, Int32.reduceLT, Nat.reduceAdd, nr_2, nr_30, nr_31, rd_2, rd_14, rd_71, rd_72, rd_101, rd_116, rd_121, up2_s, up2_n, upr_s, upr_n, ne_eq, not_false_eq_true, ob_70, rx_70_1, rx_70_3, rx_70_5, rx_70_6, rx_70_7, rx_70_8, rx_70_9, rx_70_21, rx_70_22, rx_70_23, rx_70_24, rx_70_25, rx_70_26, rx_70_27, rx_70_28, rx_70_29, rx_70_30, rx_70_31, rx_70_32, rx_70_33, rx_70_34, rx_70_35, rx_70_36, rx_70_37, rx_70_38, rx_70_39, rx_70_40, rx_70_41, rx_70_42, rx_70_43, rx_70_45, rx_70_46, rx_70_47, rx_70_48, rx_70_49, rx_70_51, rx_70_52, rx_70_53, rx_70_55, rx_70_56, rx_70_58, rx_70_59, rx_70_60, rx_70_61, rx_70_63, rx_70_64, rx_70_65, rx_70_70, rx_70_71, rx_70_72, rx_70_73, rx_70_74, r175_0, r175_1, r175_2, r175_5, r175_8, r175_9, r175_10, r175_11, r175_14, r175_15, r175_18, r175_19, r175_22, r175_23, r175_26, r175_29, r175_30, r175_33, r175_36, r175_37, r175_40, r175_41, r175_44, r175_45, r175_47, r175_50, r175_51, r175_54, r175_55, r175_58, r175_59, r175_61, r175_64, r175_65, r175_66, r175_67, r175_70, r175_71, r175_74, r175_75, r175_77, r175_78, r175_81, r175_82, r175_85, r175_88, r175_89, r175_90, r175_93, tg_73, ln_73, tg_75, ln_75, wm_11, wm_13, wm_14, wm_15, wm_16, wm_4, wm_12, wm_18, wm_19, wm_20, wm_44, wm_50, wm_54, wm_n, wm_up, wm_u11, wm_u13, wm_u14, wm_u15, wm_u16, wm_u12, wm_u18, wm_u19, wm_u20, wm_u44, wm_u50, wm_u54, ym_n, ym_106, ym_107, ym_108, ym_50, ym_54, ym_12, ym_19, ym_20, ym_44, yu_106, yu_107, yu_108, yu_50, yu_54, yu_12, m_is_24 hT, m_emit, m_goesOn hT, h3, h4, h5, hg, hc, e0, e3, bI_0, x1, x2, y3, z1, z2, z3]
    · rw [if_neg q2]
      by_cases q3 : nI (kM (kd S.1)) < (34 : Int32)
      · simp (config := { decide := true, maxDischargeDepth := 20 }) only [↓reduceIte, KV_i, KV_v, wsm_0, wsm_i, wsm_l, wsm_r, dlV_i, dlV_r, dlV_l, dlV_j, cat_i, cat_l, cat_r, rf_s, true_and, and_true, and_self, if_true, if_false, ite_true, ite_false, eq_self, true_or, or_true, false_or, or_false, not_true_eq_false, not_false_eq_true, vn_0_45, vn_1_45, vn_2_45, vn_3_45, vn_4_45, vn_5_45, vn_6_45, vn_7_45, vn_8_45, vn_36_48, vn_37_48, vn_38_48, vn_39_48, vn_40_48, vn_41_48, vn_42_48, vn_43_48, vn_44_48, vn_0_9, vn_1_9, vn_2_9, vn_3_9, vn_4_9, vn_5_9, vn_6_9, vn_7_9, vn_8_9, vn_0_3, vn_1_3, vn_2_3, vn_0_4, vn_1_4, vn_2_4, vn_3_4, vn_0_64, vn_0_16, vn_0_400, vn_0_6, vn_0_14, Int32.reduceToNatClampNeg, Int32.reduceAdd, Int32.reduceSub, Int32.reduceMul, Int32.reduceLE, Int32.reduceLT, Nat.reduceAdd, nr_2, nr_30, nr_31, rd_2, rd_14, rd_71, rd_72, rd_101, rd_116, rd_121, up2_s, up2_n, upr_s, upr_n, ne_eq, not_false_eq_true, ob_70, rx_70_1, rx_70_3, rx_70_5, rx_70_6, rx_70_7, rx_70_8, rx_70_9, rx_70_21, rx_70_22, rx_70_23, rx_70_24, rx_70_25, rx_70_26, rx_70_27, rx_70_28, rx_70_29, rx_70_30, rx_70_31, rx_70_32, rx_70_33, rx_70_34, rx_70_35, rx_70_36, rx_70_37, rx_70_38, rx_70_39, rx_70_40, rx_70_41, rx_70_42, rx_70_43, rx_70_45, rx_70_46, rx_70_47, rx_70_48, rx_70_49, rx_70_51, rx_70_52, rx_70_53, rx_70_55, rx_70_56, rx_70_58, rx_70_59, rx_70_60, rx_70_61, rx_70_63, rx_70_64, rx_70_65, rx_70_70, rx_70_71, rx_70_72, rx_70_73, rx_70_74, r175_0, r175_1, r175_2, r175_5, r175_8, r175_9, r175_10, r175_11, r175_14, r175_15, r175_18, r175_19, r175_22, r175_23, r175_26, r175_29, r175_30, r175_33, r175_36, r175_37, r175_40, r175_41, r175_44, r175_45, r175_47, r175_50, r175_51, r175_54, r175_55, r175_58, r175_59, r175_61, r175_64, r175_65, r175_66, r175_67, r175_70, r175_71, r175_74, r175_75, r175_77, r175_78, r175_81, r175_82, r175_85, r175_88, r175_89, r175_90, r175_93, tg_73, ln_73, tg_75, ln_75, wm_11, wm_13, wm_14, wm_15, wm_16, wm_4, wm_12, wm_18, wm_19, wm_20, wm_44, wm_50, wm_54, wm_n, wm_up, wm_u11, wm_u13, wm_u14, wm_u15, wm_u16, wm_u12, wm_u18, wm_u19, wm_u20, wm_u44, wm_u50, wm_u54, ym_n, ym_106, ym_107, ym_108, ym_50, ym_54, ym_12, ym_19, ym_20, ym_44, yu_106, yu_107, yu_108, yu_50, yu_54, yu_12, m_is_24 hT, m_fail hT, h3, h4, h5, hg, hc, e0, e3, bI_0, x1, x2, y3, q3]
      · have z2 : ((42 : Int32) < nI (kM (kd S.1))) = True := by
          refine eq_true (Int32.not_le.mp (fun z => ?_))
          rw [decide_eq_true (Int32.not_lt.mp q3), decide_eq_true z] at kv
          simp only [Bool.and_self, Bool.true_eq, Bool.and_eq_true, decide_eq_true_eq] at kv
          exact q2 kv
        simp (config := { decide := true, maxDischargeDepth := 20 }) only [↓reduceIte, KV_i, KV_v, wsm_0, wsm_i, wsm_l, wsm_r, dlV_i, dlV_r, dlV_l, dlV_j, cat_i, cat_l, cat_r, rf_s, true_and, and_true, and_self, if_true, if_false, ite_true, ite_false, eq_self, true_or, or_true, false_or, or_false, not_true_eq_false, not_false_eq_true, vn_0_45, vn_1_45, vn_2_45, vn_3_45, vn_4_45, vn_5_45, vn_6_45, vn_7_45, vn_8_45, vn_36_48, vn_37_48, vn_38_48, vn_39_48, vn_40_48, vn_41_48, vn_42_48, vn_43_48, vn_44_48, vn_0_9, vn_1_9, vn_2_9, vn_3_9, vn_4_9, vn_5_9, vn_6_9, vn_7_9, vn_8_9, vn_0_3, vn_1_3, vn_2_3, vn_0_4, vn_1_4, vn_2_4, vn_3_4, vn_0_64, vn_0_16, vn_0_400, vn_0_6, vn_0_14, Int32.reduceToNatClampNeg, Int32.reduceAdd, Int32.reduceSub, Int32.reduceMul, Int32.reduceLE, Int32.reduceLT, Nat.reduceAdd, nr_2, nr_30, nr_31, rd_2, rd_14, rd_71, rd_72, rd_101, rd_116, rd_121, up2_s, up2_n, upr_s, upr_n, ne_eq, not_false_eq_true, ob_70, rx_70_1, rx_70_3, rx_70_5, rx_70_6, rx_70_7, rx_70_8, rx_70_9, rx_70_21, rx_70_22, rx_70_23, rx_70_24, rx_70_25, rx_70_26, rx_70_27, rx_70_28, rx_70_29, rx_70_30, rx_70_31, rx_70_32, rx_70_33, rx_70_34, rx_70_35, rx_70_36, rx_70_37, rx_70_38, rx_70_39, rx_70_40, rx_70_41, rx_70_42, rx_70_43, rx_70_45, rx_70_46, rx_70_47, rx_70_48, rx_70_49, rx_70_51, rx_70_52, rx_70_53, rx_70_55, rx_70_56, rx_70_58, rx_70_59, rx_70_60, rx_70_61, rx_70_63, rx_70_64, rx_70_65, rx_70_70, rx_70_71, rx_70_72, rx_70_73, rx_70_74, r175_0, r175_1, r175_2, r175_5, r175_8, r175_9, r175_10, r175_11, r175_14, r175_15, r175_18, r175_19, r175_22, r175_23, r175_26, r175_29, r175_30, r175_33, r175_36, r175_37, r175_40, r175_41, r175_44, r175_45, r175_47, r175_50, r175_51, r175_54, r175_55, r175_58, r175_59, r175_61, r175_64, r175_65, r175_66, r175_67, r175_70, r175_71, r175_74, r175_75, r175_77, r175_78, r175_81, r175_82, r175_85, r175_88, r175_89, r175_90, r175_93, tg_73, ln_73, tg_75, ln_75, wm_11, wm_13, wm_14, wm_15, wm_16, wm_4, wm_12, wm_18, wm_19, wm_20, wm_44, wm_50, wm_54, wm_n, wm_up, wm_u11, wm_u13, wm_u14, wm_u15, wm_u16, wm_u12, wm_u18, wm_u19, wm_u20, wm_u44, wm_u50, wm_u54, ym_n, ym_106, ym_107, ym_108, ym_50, ym_54, ym_12, ym_19, ym_20, ym_44, yu_106, yu_107, yu_108, yu_50, yu_54, yu_12, m_is_24 hT, m_fail hT, h3, h4, h5, hg, hc, e0, e3, bI_0, x1, x2, y3, q3, z2]
