/-! READ: a LAW in the reference, whole -/
theorem lm_fin {t : Nat} {u : Option Nat} {J : AI} {L : AL} {Q : PQ} {S : PS} {h f m q e cm ci wt : Nat → Int32} {br cd wl op sd : Nat} (hd : sd ≤ 1) {kd pl vl mv : Nat → Nat} {n : Nat} {K3 K4 K5 : Nat → Int32} {K6 : Nat → Int64} (hT : TMR kd pl vl mv n K3 K4 K5 K6) (h3 : J 73 = K3) (h4 : J 74 = K4) (h5 : J 75 = K5) (hv : ∀ j, kd j = 24 → vl j ≤ 9999) (hg : GS n S) (h19 : J 70 19 = nI sd) {k : Nat} (hk : k < 4) {fi : Int32} (hbr0 : 130 * sd ≤ br) (hbr : br < 130 * sd + 130) (hb : S.2.1 = 0 → op = 0 ∧ 420 * sd ≤ cd ∧ cd ≤ 420 * sd + S.1) {X3 : Value} (hQ1 : (∀ h' f' m' q' e' br' cm' ci' cd' wt' wl', (takeP kd pl 25 (exE kd pl vl S).1).2.1 = 0 → GS n (takeP kd pl 25 (exE kd pl vl S).1) → br' = br + ([] : List (Cd × Cd × Cd)).length + 1 → cd ≤ cd' → cd' ≤ 420 * sd + (takeP kd pl 25 (exE kd pl vl S).1).1 → (∀ j, j < br → h' j = h j ∧ f' j = f j ∧ m' j = m j ∧ q' j = q j ∧ e' j = e j) ∧ (∀ j, j < cd → cm' j = cm j ∧ ci' j = ci j) ∧ (∀ j, br ≤ j → j < br' → ∃ z, z ≤ cd' ∧ e' j = nI z) → MREP (ym (zm J h' f' m' q' e' br') cm' ci' cd' wt' wl' 0) sd br br' ([] : List (Cd × Cd × Cd)) (exE kd pl vl S).2 → CFX sd cm ci cm' ci' → (∀ j, (j < 130 * sd ∨ 130 * sd + 130 ≤ j) → h' j = h j ∧ f' j = f j ∧ m' j = m j ∧ q' j = q j ∧ e' j = e j) → Q none 123 (wm (ym (up2 (up2 (zm J h' f' m' q' e' br') 99 (4 * sd + k) fi) 100 (4 * sd + k) (nI br')) cm' ci' cd' wt' wl' 0) (takeP kd pl 25 (exE kd pl vl S).1)) L (RX t u))) (hQ2 : (∀ Z' h' f' m' q' e' br' cm' ci' cd' wt' wl' op', GS n Z' → FE Z' (takeP kd pl 25 (exE kd pl vl S).1) → Z'.2.1 ≠ 0 → CFX sd cm ci cm' ci' → (∀ j, (j < 130 * sd ∨ 130 * sd + 130 ≤ j) → h' j = h j ∧ f' j = f j ∧ m' j = m j ∧ q' j = q j ∧ e' j = e j) → Q none 123 (wm (ym (zm J h' f' m' q' e' br') cm' ci' cd' wt' wl' op') Z') L (RX t u))) : V 170 129 [.ref 70, .int (nI k), .int fi, X3] [] 123 (wm (ym (zm J h f m q e br) cm ci cd wt wl op) S) L (RX t u) Q := by
  have hK := TMK hT
  have hx := hg.1
  have x1 := inT (a := br) (N := 260) (by omega) (by decide)
  have x2 := nI_clamp (n := br) (by omega)
  have y1 := inT (a := 4 * sd + k) (N := 8) (by omega) (by decide)
  have y2 := nI_clamp (n := 4 * sd + k) (by omega)
  simp (config := { decide := true, maxDischargeDepth := 20 }) only [↓reduceIte, KV_i, KV_v, wsm_0, wsm_i, wsm_l, wsm_r, dlV_i, dlV_r, dlV_l, dlV_j, cat_i, cat_l, cat_r, rf_s, true_and, and_true, and_self, if_true, if_false, ite_true, ite_false, eq_self, true_or, or_true, false_or, or_false, not_true_eq_false, not_false_eq_true, vn_0_45, vn_1_45, vn_2_45, vn_3_45, vn_4_45, vn_5_45, vn_6_45, vn_7_45, vn_8_45, vn_36_48, vn_37_48, vn_38_48, vn_39_48, vn_40_48, vn_41_48, vn_42_48, vn_43_48, vn_44_48, vn_0_9, vn_1_9, vn_2_9, vn_3_9, vn_4_9, vn_5_9, vn_6_9, vn_7_9, vn_8_9, vn_0_3, vn_1_3, vn_2_3, vn_0_4, vn_1_4, vn_2_4, vn_3_4, vn_0_64, vn_0_16, vn_0_400, vn_0_6, vn_0_14, Int32.reduceToNatClampNeg, Int32.reduceAdd, Int32.reduceSub, Int32.reduceMul, Int32.reduceLE, Int32.reduceLT, Nat.reduceAdd, nr_2, nr_30, nr_31, rd_2, rd_14, rd_71, rd_72, rd_101, rd_116, rd_121, up2_s, up2_n, upr_s, upr_n, ne_eq, not_false_eq_true, ob_70, rx_70_1, rx_70_3, rx_70_5, rx_70_6, rx_70_7, rx_70_8, rx_70_9, rx_70_21, rx_70_22, rx_70_23, rx_70_24, rx_70_25, rx_70_26, rx_70_27, rx_70_28, rx_70_29, rx_70_30, rx_70_31, rx_70_32, rx_70_33, rx_70_34, rx_70_35, rx_70_36, rx_70_37, rx_70_38, rx_70_39, rx_70_40, rx_70_41, rx_70_42, rx_70_43, rx_70_45, rx_70_46, rx_70_47, rx_70_48, rx_70_49, rx_70_51, rx_70_52, rx_70_53, rx_70_55, rx_70_56, rx_70_58, rx_70_59, rx_70_60, rx_70_61, rx_70_63, rx_70_64, rx_70_65, rx_70_70, rx_70_71, rx_70_72, rx_70_73, rx_70_74, r170_0, r170_1, r170_2, r170_5, r170_6, r170_9, r170_10, r170_11, r170_13, r170_16, r170_19, r170_20, r170_22, r170_25, r170_28, r170_29, r170_30, r170_33, r170_34, r170_35, r170_38, r170_39, r170_42, r170_45, r170_46, r170_49, r170_50, r170_53, r170_54, r170_57, r170_58, r170_61, r170_62, r170_63, r170_64, r170_67, r170_68, r170_71, r170_72, r170_75, r170_76, r170_77, r170_80, r170_81, r170_83, r170_86, r170_87, r170_90, r170_91, r170_94, r170_95, r170_98, r170_99, r170_100, r170_103, r170_106, r170_107, r170_110, r170_111, r170_113, r170_116, r170_117, r170_120, r170_121, r170_123, r170_126, r170_129, r170_130, r170_133, r170_134, r170_137, r170_138, r170_139, r170_140, r170_143, r170_144, r170_145, r170_148, r170_149, r170_152, r170_155, r170_156, r170_157, r170_160, r170_161, r170_162, r170_165, r170_166, r170_167, r170_168, r170_169, r170_170, r170_171, r170_174, r170_175, r170_176, r170_179, r170_180, r170_181, r170_182, r170_183, r170_186, r170_187, tg_101, ln_101, wm_11, wm_13, wm_14, wm_15, wm_16, wm_4, wm_12, wm_18, wm_19, wm_20, wm_44, wm_50, wm_54, wm_n, wm_up, wm_u11, wm_u13, wm_u14, wm_u15, wm_u16, wm_u12, wm_u18, wm_u19, wm_u20, wm_u44, wm_u50, wm_u54, ym_n, ym_106, ym_107, ym_108, ym_50, ym_54, ym_12, ym_19, ym_20, ym_44, yu_106, yu_107, yu_108, yu_50, yu_54, yu_12, zm_n, zm_101, zm_102, zm_103, zm_104, zm_105, zm_44, zm_19, zm_20, zu_101, zu_102, zu_103, zu_104, zu_105, zu_44, ym_up, ym_u44, x1, x2]
  refine m_termU hd hT h3 h4 h5 hv hg (by omega) hb (E := exE kd pl vl S) rfl (fun Z cm' ci' cd' wt' wl' op' G F D C => ?_)
  have G2 := GS_take (q := 25) hT (by decide) G
  have F2 := FE_take (kd := kd) (pl := pl) (q := 25) F
  rcases f_cases G2 with ff | ff
  · have eq := F2.2.2 ff.1
    have z := ff.1
    have t4 := take_0 z
    have f3 : (exE kd pl vl S).1.2.1 = 0 := by rw [← F.1]; exact t4.2.1
    have w := exE_0 (pl := pl) hK hv hx f3
    have eqz := F.2.2 t4.2.1
    obtain ⟨ho, hc0, hc1⟩ := hb w.1
    have w2 := w.2.2.1
    have hn := hT.1
    have l1 : (exE kd pl vl S).1.1 ≤ n := exE_le (pl := pl) hK hx
    obtain ⟨rfl, rfl, rfl, rfl⟩ := D t4.2.1
    have q1 := hQ1 (upr h br 0) f m (upr q br (nI cd)) (upr e br (nI (cd + (exE kd pl vl S).2.length))) (br + 1) (apg kM1 cm cd (exE kd pl vl S).2) (apg kM2 ci cd (exE kd pl vl S).2) (cd + (exE kd pl vl S).2.length) wt' wl' (by rw [← eq]; exact z) (by rw [← eq]; exact G2) rfl (by omega) (by rw [← eq, t4.1, eqz]; show _ ≤ 420 * sd + ((exE kd pl vl S).1.1 + 1); omega) ⟨fun j hj => ⟨upr_n (by omega), rfl, rfl, upr_n (by omega), upr_n (by omega)⟩, fun j hj => ⟨apg_lo _ _ _ _ _ hj, apg_lo _ _ _ _ _ hj⟩, fun j j1 j2 => ⟨cd + (exE kd pl vl S).2.length, Nat.le_refl _, by rw [show j = br by omega]; exact upr_s _ _ _⟩⟩ (by
      rw [MREP]
      refine ⟨rfl, hbr0, hbr, ?_, ⟨cd, ?_, ?_, hc0, by omega, fun j hj => ⟨?_, ?_⟩⟩, w.2.1⟩
      · show upr h br 0 br = 0
        exact upr_s _ _ _
      · show upr q br (nI cd) br = _
        exact upr_s _ _ _
      · show upr e br (nI (cd + (exE kd pl vl S).2.length)) br = _
        exact upr_s _ _ _
      · exact apg_at _ _ _ _ _ hj
      · exact apg_at _ _ _ _ _ hj) C (fun j hj => ⟨upr_n (by omega), rfl, rfl, upr_n (by omega), upr_n (by omega)⟩)
    rw [← eq] at q1
    simp (config := { decide := true, maxDischargeDepth := 20 }) only [↓reduceIte, KV_i, KV_v, wsm_0, wsm_i, wsm_l, wsm_r, dlV_i, dlV_r, dlV_l, dlV_j, cat_i, cat_l, cat_r, rf_s, true_and, and_true, and_self, if_true, if_false, ite_true, ite_false, eq_self, true_or, or_true, false_or, or_false, not_true_eq_false, not_false_eq_true, vn_0_45, vn_1_45, vn_2_45, vn_3_45, vn_4_45, vn_5_45, vn_6_45, vn_7_45, vn_8_45, vn_36_48, vn_37_48, vn_38_48, vn_39_48, vn_40_48, vn_41_48, vn_42_48, vn_43_48, vn_44_48, vn_0_9, vn_1_9, vn_2_9, vn_3_9, vn_4_9, vn_5_9, vn_6_9, vn_7_9, vn_8_9, vn_0_3, vn_1_3, vn_2_3, vn_0_4, vn_1_4, vn_2_4, vn_3_4, vn_0_64, vn_0_16, vn_0_400, vn_0_6, vn_0_14, Int32.reduceToNatClampNeg, Int32.reduceAdd, Int32.reduceSub, Int32.reduceMul, Int32.reduceLE, Int32.reduceLT, Nat.reduceAdd, nr_2, nr_30, nr_31, rd_2, rd_14, rd_71, rd_72, rd_101, rd_116, rd_121, up2_s, up2_n, upr_s, upr_n, ne_eq, not_false_eq_true, ob_70, rx_70_1, rx_70_3, rx_70_5, rx_70_6, rx_70_7, rx_70_8, rx_70_9, rx_70_21, rx_70_22, rx_70_23, rx_70_24, rx_70_25, rx_70_26, rx_70_27, rx_70_28, rx_70_29, rx_70_30, rx_70_31, rx_70_32, rx_70_33, rx_70_34, rx_70_35, rx_70_36, rx_70_37, rx_70_38, rx_70_39, rx_70_40, rx_70_41, rx_70_42, rx_70_43, rx_70_45, rx_70_46, rx_70_47, rx_70_48, rx_70_49, rx_70_51, rx_70_52, rx_70_53, rx_70_55, rx_70_56, rx_70_58, rx_70_59, rx_70_60, rx_70_61, rx_70_63, rx_70_64, rx_70_65, rx_70_70, rx_70_71, rx_70_72, rx_70_73, rx_70_74, r170_0, r170_1, r170_2, r170_5, r170_6, r170_9, r170_10, r170_11, r170_13, r170_16, r170_19, r170_20, r170_22, r170_25, r170_28, r170_29, r170_30, r170_33, r170_34, r170_35, r170_38, r170_39, r170_42, r170_45, r170_46, r170_49, r170_50, r170_53, r170_54, r170_57, r170_58, r170_61, r170_62, r170_63, r170_64, r170_67, r170_68, r170_71, r170_72, r170_75, r170_76, r170_77, r170_80, r170_81, r170_83, r170_86, r170_87, r170_90, r170_91, r170_94, r170_95, r170_98, r170_99, r170_100, r170_103, r170_106, r170_107, r170_110, r170_111, r170_113, r170_116, r170_117, r170_120, r170_121, r170_123, r170_126, r170_129, r170_130, r170_133, r170_134, r170_137, r170_138, r170_139, r170_140, r170_143, r170_144, r170_145, r170_148, r170_149, r170_152, r170_155, r170_156, r170_157, r170_160, r170_161, r170_162, r170_165, r170_166, r170_167, r170_168, r170_169, r170_170, r170_171, r170_174, r170_175, r170_176, r170_179, r170_180, r170_181, r170_182, r170_183, r170_186, r170_187, tg_99, ln_99, tg_100, ln_100, wm_11, wm_13, wm_14, wm_15, wm_16, wm_4, wm_12, wm_18, wm_19, wm_20, wm_44, wm_50, wm_54, wm_n, wm_up, wm_u11, wm_u13, wm_u14, wm_u15, wm_u16, wm_u12, wm_u18, wm_u19, wm_u20, wm_u44, wm_u50, wm_u54, ym_n, ym_106, ym_107, ym_108, ym_50, ym_54, ym_12, ym_19, ym_20, ym_44, yu_106, yu_107, yu_108, yu_50, yu_54, yu_12, zm_n, zm_101, zm_102, zm_103, zm_104, zm_105, zm_44, zm_19, zm_20, zu_101, zu_102, zu_103, zu_104, zu_105, zu_44, ym_up, ym_u44, m_must_25 hT, h3, h4, h5, G, ff.2, h19, ml4, y1, y2]
    exact q1
  · have q2 := hQ2 (takeP kd pl 25 Z) (upr h br 0) f m (upr q br (nI cd)) (upr e br (nI cd')) (br + 1) cm' ci' cd' wt' wl' op' G2 F2 ff.1 C (fun j hj => ⟨upr_n (by omega), rfl, rfl, upr_n (by omega), upr_n (by omega)⟩)
    simp (config := { decide := true, maxDischargeDepth := 20 }) only [↓reduceIte, KV_i, KV_v, wsm_0, wsm_i, wsm_l, wsm_r, dlV_i, dlV_r, dlV_l, dlV_j, cat_i, cat_l, cat_r, rf_s, true_and, and_true, and_self, if_true, if_false, ite_true, ite_false, eq_self, true_or, or_true, false_or, or_false, not_true_eq_false, not_false_eq_true, vn_0_45, vn_1_45, vn_2_45, vn_3_45, vn_4_45, vn_5_45, vn_6_45, vn_7_45, vn_8_45, vn_36_48, vn_37_48, vn_38_48, vn_39_48, vn_40_48, vn_41_48, vn_42_48, vn_43_48, vn_44_48, vn_0_9, vn_1_9, vn_2_9, vn_3_9, vn_4_9, vn_5_9, vn_6_9, vn_7_9, vn_8_9, vn_0_3, vn_1_3, vn_2_3, vn_0_4, vn_1_4, vn_2_4, vn_3_4, vn_0_64, vn_0_16, vn_0_400, vn_0_6, vn_0_14, Int32.reduceToNatClampNeg, Int32.reduceAdd, Int32.reduceSub, Int32.reduceMul, Int32.reduceLE, Int32.reduceLT, Nat.reduceAdd, nr_2, nr_30, nr_31, rd_2, rd_14, rd_71, rd_72, rd_101, rd_116, rd_121, up2_s, up2_n, upr_s, upr_n, ne_eq, not_false_eq_true, ob_70, rx_70_1, rx_70_3, rx_70_5, rx_70_6, rx_70_7, rx_70_8, rx_70_9, rx_70_21, rx_70_22, rx_70_23, rx_70_24, rx_70_25, rx_70_26, rx_70_27, rx_70_28, rx_70_29, rx_70_30, rx_70_31, rx_70_32, rx_70_33, rx_70_34, rx_70_35, rx_70_36, rx_70_37, rx_70_38, rx_70_39, rx_70_40, rx_70_41, rx_70_42, rx_70_43, rx_70_45, rx_70_46, rx_70_47, rx_70_48, rx_70_49, rx_70_51, rx_70_52, rx_70_53, rx_70_55, rx_70_56, rx_70_58, rx_70_59, rx_70_60, rx_70_61, rx_70_63, rx_70_64, rx_70_65, rx_70_70, rx_70_71, rx_70_72, rx_70_73, rx_70_74, r170_0, r170_1, r170_2, r170_5, r170_6, r170_9, r170_10, r170_11, r170_13, r170_16, r170_19, r170_20, r170_22, r170_25, r170_28, r170_29, r170_30, r170_33, r170_34, r170_35, r170_38, r170_39, r170_42, r170_45, r170_46, r170_49, r170_50, r170_53, r170_54, r170_57, r170_58, r170_61, r170_62, r170_63, r170_64, r170_67, r170_68, r170_71, r170_72, r170_75, r170_76, r170_77, r170_80, r170_81, r170_83, r170_86, r170_87, r170_90, r170_91, r170_94, r170_95, r170_98, r170_99, r170_100, r170_103, r170_106, r170_107, r170_110, r170_111, r170_113, r170_116, r170_117, r170_120, r170_121, r170_123, r170_126, r170_129, r170_130, r170_133, r170_134, r170_137, r170_138, r170_139, r170_140, r170_143, r170_144, r170_145, r170_148, r170_149, r170_152, r170_155, r170_156, r170_157, r170_160, r170_161, r170_162, r170_165, r170_166, r170_167, r170_168, r170_169, r170_170, r170_171, r170_174, r170_175, r170_176, r170_179, r170_180, r170_181, r170_182, r170_183, r170_186, r170_187, tg_99, ln_99, tg_100, ln_100, wm_11, wm_13, wm_14, wm_15, wm_16, wm_4, wm_12, wm_18, wm_19, wm_20, wm_44, wm_50, wm_54, wm_n, wm_up, wm_u11, wm_u13, wm_u14, wm_u15, wm_u16, wm_u12, wm_u18, wm_u19, wm_u20, wm_u44, wm_u50, wm_u54, ym_n, ym_106, ym_107, ym_108, ym_50, ym_54, ym_12, ym_19, ym_20, ym_44, yu_106, yu_107, yu_108, yu_50, yu_54, yu_12, zm_n, zm_101, zm_102, zm_103, zm_104, zm_105, zm_44, zm_19, zm_20, zu_101, zu_102, zu_103, zu_104, zu_105, zu_44, ym_up, ym_u44, m_must_25 hT, h3, h4, h5, G, ff.2]
    exact q2
theorem lm_law {t : Nat} {u : Option Nat} {J : AI} {L : AL} {Q : PQ} {sd : Nat} (hd : sd ≤ 1) {kd pl vl mv : Nat → Nat} {n : Nat} {K3 K4 K5 : Nat → Int32} {K6 : Nat → Int64} (hT : TMR kd pl vl mv n K3 K4 K5 K6) (h3 : J 73 = K3) (h4 : J 74 = K4) (h5 : J 75 = K5) (hv : ∀ j, kd j = 24 → vl j ≤ 9999) (h19 : J 70 19 = nI sd) {k : Nat} (hk : k < 4) {fi : Int32} : ∀ r ifs (S : PS) h f m q e br cm ci cd wt wl op, ifs + r = 4 → GS n S → 130 * sd ≤ br → br + r < 130 * sd + 130 → (S.2.1 = 0 → op = 0 ∧ 420 * sd ≤ cd ∧ cd ≤ 420 * sd + S.1) → (∀ h' f' m' q' e' br' cm' ci' cd' wt' wl', (lawP kd pl vl r S).1.2.1 = 0 → GS n (lawP kd pl vl r S).1 → br' = br + (lawP kd pl vl r S).2.1.length + 1 → cd ≤ cd' → cd' ≤ 420 * sd + (lawP kd pl vl r S).1.1 → (∀ j, j < br → h' j = h j ∧ f' j = f j ∧ m' j = m j ∧ q' j = q j ∧ e' j = e j) ∧ (∀ j, j < cd → cm' j = cm j ∧ ci' j = ci j) ∧ (∀ j, br ≤ j → j < br' → ∃ z, z ≤ cd' ∧ e' j = nI z) → MREP (ym (zm J h' f' m' q' e' br') cm' ci' cd' wt' wl' 0) sd br br' (lawP kd pl vl r S).2.1 (lawP kd pl vl r S).2.2 → CFX sd cm ci cm' ci' → (∀ j, (j < 130 * sd ∨ 130 * sd + 130 ≤ j) → h' j = h j ∧ f' j = f j ∧ m' j = m j ∧ q' j = q j ∧ e' j = e j) → Q none 123 (wm (ym (up2 (up2 (zm J h' f' m' q' e' br') 99 (4 * sd + k) fi) 100 (4 * sd + k) (nI br')) cm' ci' cd' wt' wl' 0) (lawP kd pl vl r S).1) L (RX t u)) → (∀ Z' h' f' m' q' e' br' cm' ci' cd' wt' wl' op', GS n Z' → FE Z' (lawP kd pl vl r S).1 → Z'.2.1 ≠ 0 → CFX sd cm ci cm' ci' → (∀ j, (j < 130 * sd ∨ 130 * sd + 130 ≤ j) → h' j = h j ∧ f' j = f j ∧ m' j = m j ∧ q' j = q j ∧ e' j = e j) → Q none 123 (wm (ym (zm J h' f' m' q' e' br') cm' ci' cd' wt' wl' op') Z') L (RX t u)) → V 170 12 [.ref 70, .int (nI k), .int fi, .int (nI ifs)] [] 123 (wm (ym (zm J h f m q e br) cm ci cd wt wl op) S) L (RX t u) Q := by
  have hK := TMK hT
  intro r
  induction r with
  | zero =>
    intro ifs S h f m q e br cm ci cd wt wl op hi hg hbr0 hbr hb hQ1 hQ2
    obtain rfl : ifs = 4 := by omega
    have c4 : (nI 4 : Int32) = 4 := rfl
    rw [r170_12, c4]
    cases ei : isP kd 11 S
    · have he : lawP kd pl vl 0 S = (takeP kd pl 25 (exE kd pl vl S).1, [], (exE kd pl vl S).2) := by unfold lawP; rw [ei, if_neg (by decide)]
      rw [he] at hQ1 hQ2
      have main := lm_fin (t := t) (u := u) (L := L) (Q := Q) (wt := wt) (wl := wl) (op := op) (X3 := .int 4) hd hT h3 h4 h5 hv hg h19 hk (fi := fi) hbr0 (by omega) hb hQ1 hQ2
      by_cases f0 : S.2.1 = 0
      · simp (config := { decide := true, maxDischargeDepth := 20 }) only [↓reduceIte, KV_i, KV_v, wsm_0, wsm_i, wsm_l, wsm_r, dlV_i, dlV_r, dlV_l, dlV_j, cat_i, cat_l, cat_r, rf_s, true_and, and_true, and_self, if_true, if_false, ite_true, ite_false, eq_self, true_or, or_true, false_or, or_false, not_true_eq_false, not_false_eq_true, vn_0_45, vn_1_45, vn_2_45, vn_3_45, vn_4_45, vn_5_45, vn_6_45, vn_7_45, vn_8_45, vn_36_48, vn_37_48, vn_38_48, vn_39_48, vn_40_48, vn_41_48, vn_42_48, vn_43_48, vn_44_48, vn_0_9, vn_1_9, vn_2_9, vn_3_9, vn_4_9, vn_5_9, vn_6_9, vn_7_9, vn_8_9, vn_0_3, vn_1_3, vn_2_3, vn_0_4, vn_1_4, vn_2_4, vn_3_4, vn_0_64, vn_0_16, vn_0_400, vn_0_6, vn_0_14, Int32.reduceToNatClampNeg, Int32.reduceAdd, Int32.reduceSub, Int32.reduceMul, Int32.reduceLE, Int32.reduceLT, Nat.reduceAdd, nr_2, nr_30, nr_31, rd_2, rd_14, rd_71, rd_72, rd_101, rd_116, rd_121, up2_s, up2_n, upr_s, upr_n, ne_eq, not_false_eq_true, ob_70, rx_70_1, rx_70_3, rx_70_5, rx_70_6, rx_70_7, rx_70_8, rx_70_9, rx_70_21, rx_70_22, rx_70_23, rx_70_24, rx_70_25, rx_70_26, rx_70_27, rx_70_28, rx_70_29, rx_70_30, rx_70_31, rx_70_32, rx_70_33, rx_70_34, rx_70_35, rx_70_36, rx_70_37, rx_70_38, rx_70_39, rx_70_40, rx_70_41, rx_70_42, rx_70_43, rx_70_45, rx_70_46, rx_70_47, rx_70_48, rx_70_49, rx_70_51, rx_70_52, rx_70_53, rx_70_55, rx_70_56, rx_70_58, rx_70_59, rx_70_60, rx_70_61, rx_70_63, rx_70_64, rx_70_65, rx_70_70, rx_70_71, rx_70_72, rx_70_73, rx_70_74, r170_13, r170_16, r170_19, r170_20, r170_22, r170_25, wm_11, wm_13, wm_14, wm_15, wm_16, wm_4, wm_12, wm_18, wm_19, wm_20, wm_44, wm_50, wm_54, wm_n, wm_up, wm_u11, wm_u13, wm_u14, wm_u15, wm_u16, wm_u12, wm_u18, wm_u19, wm_u20, wm_u44, wm_u50, wm_u54, ym_n, ym_106, ym_107, ym_108, ym_50, ym_54, ym_12, ym_19, ym_20, ym_44, yu_106, yu_107, yu_108, yu_50, yu_54, yu_12, zm_n, zm_101, zm_102, zm_103, zm_104, zm_105, zm_44, zm_19, zm_20, zu_101, zu_102, zu_103, zu_104, zu_105, zu_44, ym_up, ym_u44, m_is_11 hT, h3, hg, ei, f0, bI_0]
        exact main
      · simp (config := { decide := true, maxDischargeDepth := 20 }) only [↓reduceIte, KV_i, KV_v, wsm_0, wsm_i, wsm_l, wsm_r, dlV_i, dlV_r, dlV_l, dlV_j, cat_i, cat_l, cat_r, rf_s, true_and, and_true, and_self, if_true, if_false, ite_true, ite_false, eq_self, true_or, or_true, false_or, or_false, not_true_eq_false, not_false_eq_true, vn_0_45, vn_1_45, vn_2_45, vn_3_45, vn_4_45, vn_5_45, vn_6_45, vn_7_45, vn_8_45, vn_36_48, vn_37_48, vn_38_48, vn_39_48, vn_40_48, vn_41_48, vn_42_48, vn_43_48, vn_44_48, vn_0_9, vn_1_9, vn_2_9, vn_3_9, vn_4_9, vn_5_9, vn_6_9, vn_7_9, vn_8_9, vn_0_3, vn_1_3, vn_2_3, vn_0_4, vn_1_4, vn_2_4, vn_3_4, vn_0_64, vn_0_16, vn_0_400, vn_0_6, vn_0_14, Int32.reduceToNatClampNeg, Int32.reduceAdd, Int32.reduceSub, Int32.reduceMul, Int32.reduceLE, Int32.reduceLT, Nat.reduceAdd, nr_2, nr_30, nr_31, rd_2, rd_14, rd_71, rd_72, rd_101, rd_116, rd_121, up2_s, up2_n, upr_s, upr_n, ne_eq, not_false_eq_true, ob_70, rx_70_1, rx_70_3, rx_70_5, rx_70_6, rx_70_7, rx_70_8, rx_70_9, rx_70_21, rx_70_22, rx_70_23, rx_70_24, rx_70_25, rx_70_26, rx_70_27, rx_70_28, rx_70_29, rx_70_30, rx_70_31, rx_70_32, rx_70_33, rx_70_34, rx_70_35, rx_70_36, rx_70_37, rx_70_38, rx_70_39, rx_70_40, rx_70_41, rx_70_42, rx_70_43, rx_70_45, rx_70_46, rx_70_47, rx_70_48, rx_70_49, rx_70_51, rx_70_52, rx_70_53, rx_70_55, rx_70_56, rx_70_58, rx_70_59, rx_70_60, rx_70_61, rx_70_63, rx_70_64, rx_70_65, rx_70_70, rx_70_71, rx_70_72, rx_70_73, rx_70_74, r170_13, r170_16, r170_19, r170_20, r170_22, r170_25, wm_11, wm_13, wm_14, wm_15, wm_16, wm_4, wm_12, wm_18, wm_19, wm_20, wm_44, wm_50, wm_54, wm_n, wm_up, wm_u11, wm_u13, wm_u14, wm_u15, wm_u16, wm_u12, wm_u18, wm_u19, wm_u20, wm_u44, wm_u50, wm_u54, ym_n, ym_106, ym_107, ym_108, ym_50, ym_54, ym_12, ym_19, ym_20, ym_44, yu_106, yu_107, yu_108, yu_50, yu_54, yu_12, zm_n, zm_101, zm_102, zm_103, zm_104, zm_105, zm_44, zm_19, zm_20, zu_101, zu_102, zu_103, zu_104, zu_105, zu_44, ym_up, ym_u44, f0]
        exact main
    · have he : lawP kd pl vl 0 S = (stopP pl 2 S, [], []) := by unfold lawP; rw [ei, if_pos rfl]
      have f0 := (is_0 ei).1
      have f2 : (stopP pl 2 S).2.1 ≠ 0 := stop_n0 (by decide) f0
      have gs : GS n (stopP pl 2 S) := GS_stop (Or.inr rfl) hg
      have ff := (f_cases gs).resolve_left (fun h => f2 h.1)
      rw [he] at hQ2
      have q2 := hQ2 (stopP pl 2 S) h f m q e br cm ci cd wt wl op gs (FE_r _) f2 (CFX_r _ _ _) (fun j _ => ⟨rfl, rfl, rfl, rfl, rfl⟩)
      simp (config := { decide := true, maxDischargeDepth := 20 }) only [↓reduceIte, KV_i, KV_v, wsm_0, wsm_i, wsm_l, wsm_r, dlV_i, dlV_r, dlV_l, dlV_j, cat_i, cat_l, cat_r, rf_s, true_and, and_true, and_self, if_true, if_false, ite_true, ite_false, eq_self, true_or, or_true, false_or, or_false, not_true_eq_false, not_false_eq_true, vn_0_45, vn_1_45, vn_2_45, vn_3_45, vn_4_45, vn_5_45, vn_6_45, vn_7_45, vn_8_45, vn_36_48, vn_37_48, vn_38_48, vn_39_48, vn_40_48, vn_41_48, vn_42_48, vn_43_48, vn_44_48, vn_0_9, vn_1_9, vn_2_9, vn_3_9, vn_4_9, vn_5_9, vn_6_9, vn_7_9, vn_8_9, vn_0_3, vn_1_3, vn_2_3, vn_0_4, vn_1_4, vn_2_4, vn_3_4, vn_0_64, vn_0_16, vn_0_400, vn_0_6, vn_0_14, Int32.reduceToNatClampNeg, Int32.reduceAdd, Int32.reduceSub, Int32.reduceMul, Int32.reduceLE, Int32.reduceLT, Nat.reduceAdd, nr_2, nr_30, nr_31, rd_2, rd_14, rd_71, rd_72, rd_101, rd_116, rd_121, up2_s, up2_n, upr_s, upr_n, ne_eq, not_false_eq_true, ob_70, rx_70_1, rx_70_3, rx_70_5, rx_70_6, rx_70_7, rx_70_8, rx_70_9, rx_70_21, rx_70_22, rx_70_23, rx_70_24, rx_70_25, rx_70_26, rx_70_27, rx_70_28, rx_70_29, rx_70_30, rx_70_31, rx_70_32, rx_70_33, rx_70_34, rx_70_35, rx_70_36, rx_70_37, rx_70_38, rx_70_39, rx_70_40, rx_70_41, rx_70_42, rx_70_43, rx_70_45, rx_70_46, rx_70_47, rx_70_48, rx_70_49, rx_70_51, rx_70_52, rx_70_53, rx_70_55, rx_70_56, rx_70_58, rx_70_59, rx_70_60, rx_70_61, rx_70_63, rx_70_64, rx_70_65, rx_70_70, rx_70_71, rx_70_72, rx_70_73, rx_70_74, r170_13, r170_16, r170_19, r170_20, r170_22, r170_25, r170_28, r170_29, r170_30, r170_33, r170_34, r170_35, r170_38, r170_39, r170_42, r170_45, wm_11, wm_13, wm_14, wm_15, wm_16, wm_4, wm_12, wm_18, wm_19, wm_20, wm_44, wm_50, wm_54, wm_n, wm_up, wm_u11, wm_u13, wm_u14, wm_u15, wm_u16, wm_u12, wm_u18, wm_u19, wm_u20, wm_u44, wm_u50, wm_u54, ym_n, ym_106, ym_107, ym_108, ym_50, ym_54, ym_12, ym_19, ym_20, ym_44, yu_106, yu_107, yu_108, yu_50, yu_54, yu_12, zm_n, zm_101, zm_102, zm_103, zm_104, zm_105, zm_44, zm_19, zm_20, zu_101, zu_102, zu_103, zu_104, zu_105, zu_44, ym_up, ym_u44, m_is_11 hT, m_fail hT, h3, h4, hg, ei, f0, ff.2, bI_1]
      exact q2
  | succ r ih =>
    intro ifs S h f m q e br cm ci cd wt wl op hi hg hbr0 hbr hb hQ1 hQ2
    have c5 : (nI ifs = (4 : Int32)) = False := eq_false (fun h => absurd ((nI_eq (a := ifs) (b := 4) (by omega) (by decide)).mp h) (by omega))
    rw [r170_12]
    cases ei : isP kd 11 S
    · have he : lawP kd pl vl (r + 1) S = (takeP kd pl 25 (exE kd pl vl S).1, [], (exE kd pl vl S).2) := by unfold lawP; rw [ei, if_neg (by decide)]
      rw [he] at hQ1 hQ2
      have main := lm_fin (t := t) (u := u) (L := L) (Q := Q) (wt := wt) (wl := wl) (op := op) (X3 := .int (nI ifs)) hd hT h3 h4 h5 hv hg h19 hk (fi := fi) hbr0 (by omega) hb hQ1 hQ2
      by_cases f0 : S.2.1 = 0
      · simp (config := { decide := true, maxDischargeDepth := 20 }) only [↓reduceIte, KV_i, KV_v, wsm_0, wsm_i, wsm_l, wsm_r, dlV_i, dlV_r, dlV_l, dlV_j, cat_i, cat_l, cat_r, rf_s, true_and, and_true, and_self, if_true, if_false, ite_true, ite_false, eq_self, true_or, or_true, false_or, or_false, not_true_eq_false, not_false_eq_true, vn_0_45, vn_1_45, vn_2_45, vn_3_45, vn_4_45, vn_5_45, vn_6_45, vn_7_45, vn_8_45, vn_36_48, vn_37_48, vn_38_48, vn_39_48, vn_40_48, vn_41_48, vn_42_48, vn_43_48, vn_44_48, vn_0_9, vn_1_9, vn_2_9, vn_3_9, vn_4_9, vn_5_9, vn_6_9, vn_7_9, vn_8_9, vn_0_3, vn_1_3, vn_2_3, vn_0_4, vn_1_4, vn_2_4, vn_3_4, vn_0_64, vn_0_16, vn_0_400, vn_0_6, vn_0_14, Int32.reduceToNatClampNeg, Int32.reduceAdd, Int32.reduceSub, Int32.reduceMul, Int32.reduceLE, Int32.reduceLT, Nat.reduceAdd, nr_2, nr_30, nr_31, rd_2, rd_14, rd_71, rd_72, rd_101, rd_116, rd_121, up2_s, up2_n, upr_s, upr_n, ne_eq, not_false_eq_true, ob_70, rx_70_1, rx_70_3, rx_70_5, rx_70_6, rx_70_7, rx_70_8, rx_70_9, rx_70_21, rx_70_22, rx_70_23, rx_70_24, rx_70_25, rx_70_26, rx_70_27, rx_70_28, rx_70_29, rx_70_30, rx_70_31, rx_70_32, rx_70_33, rx_70_34, rx_70_35, rx_70_36, rx_70_37, rx_70_38, rx_70_39, rx_70_40, rx_70_41, rx_70_42, rx_70_43, rx_70_45, rx_70_46, rx_70_47, rx_70_48, rx_70_49, rx_70_51, rx_70_52, rx_70_53, rx_70_55, rx_70_56, rx_70_58, rx_70_59, rx_70_60, rx_70_61, rx_70_63, rx_70_64, rx_70_65, rx_70_70, rx_70_71, rx_70_72, rx_70_73, rx_70_74, r170_13, r170_16, r170_19, r170_20, r170_22, r170_25, wm_11, wm_13, wm_14, wm_15, wm_16, wm_4, wm_12, wm_18, wm_19, wm_20, wm_44, wm_50, wm_54, wm_n, wm_up, wm_u11, wm_u13, wm_u14, wm_u15, wm_u16, wm_u12, wm_u18, wm_u19, wm_u20, wm_u44, wm_u50, wm_u54, ym_n, ym_106, ym_107, ym_108, ym_50, ym_54, ym_12, ym_19, ym_20, ym_44, yu_106, yu_107, yu_108, yu_50, yu_54, yu_12, zm_n, zm_101, zm_102, zm_103, zm_104, zm_105, zm_44, zm_19, zm_20, zu_101, zu_102, zu_103, zu_104, zu_105, zu_44, ym_up, ym_u44, m_is_11 hT, h3, hg, ei, f0, bI_0]
        exact main
      · simp (config := { decide := true, maxDischargeDepth := 20 }) only [↓reduceIte, KV_i, KV_v, wsm_0, wsm_i, wsm_l, wsm_r, dlV_i, dlV_r, dlV_l, dlV_j, cat_i, cat_l, cat_r, rf_s, true_and, and_true, and_self, if_true, if_false, ite_true, ite_false, eq_self, true_or, or_true, false_or, or_false, not_true_eq_false, not_false_eq_true, vn_0_45, vn_1_45, vn_2_45, vn_3_45, vn_4_45, vn_5_45, vn_6_45, vn_7_45, vn_8_45, vn_36_48, vn_37_48, vn_38_48, vn_39_48, vn_40_48, vn_41_48, vn_42_48, vn_43_48, vn_44_48, vn_0_9, vn_1_9, vn_2_9, vn_3_9, vn_4_9, vn_5_9, vn_6_9, vn_7_9, vn_8_9, vn_0_3, vn_1_3, vn_2_3, vn_0_4, vn_1_4, vn_2_4, vn_3_4, vn_0_64, vn_0_16, vn_0_400, vn_0_6, vn_0_14, Int32.reduceToNatClampNeg, Int32.reduceAdd, Int32.reduceSub, Int32.reduceMul, Int32.reduceLE, Int32.reduceLT, Nat.reduceAdd, nr_2, nr_30, nr_31, rd_2, rd_14, rd_71, rd_72, rd_101, rd_116, rd_121, up2_s, up2_n, upr_s, upr_n, ne_eq, not_false_eq_true, ob_70, rx_70_1, rx_70_3, rx_70_5, rx_70_6, rx_70_7, rx_70_8, rx_70_9, rx_70_21, rx_70_22, rx_70_23, rx_70_24, rx_70_25, rx_70_26, rx_70_27, rx_70_28, rx_70_29, rx_70_30, rx_70_31, rx_70_32, rx_70_33, rx_70_34, rx_70_35, rx_70_36, rx_70_37, rx_70_38, rx_70_39, rx_70_40, rx_70_41, rx_70_42, rx_70_43, rx_70_45, rx_70_46, rx_70_47, rx_70_48, rx_70_49, rx_70_51, rx_70_52, rx_70_53, rx_70_55, rx_70_56, rx_70_58, rx_70_59, rx_70_60, rx_70_61, rx_70_63, rx_70_64, rx_70_65, rx_70_70, rx_70_71, rx_70_72, rx_70_73, rx_70_74, r170_13, r170_16, r170_19, r170_20, r170_22, r170_25, wm_11, wm_13, wm_14, wm_15, wm_16, wm_4, wm_12, wm_18, wm_19, wm_20, wm_44, wm_50, wm_54, wm_n, wm_up, wm_u11, wm_u13, wm_u14, wm_u15, wm_u16, wm_u12, wm_u18, wm_u19, wm_u20, wm_u44, wm_u50, wm_u54, ym_n, ym_106, ym_107, ym_108, ym_50, ym_54, ym_12, ym_19, ym_20, ym_44, yu_106, yu_107, yu_108, yu_50, yu_54, yu_12, zm_n, zm_101, zm_102, zm_103, zm_104, zm_105, zm_44, zm_19, zm_20, zu_101, zu_102, zu_103, zu_104, zu_105, zu_44, ym_up, ym_u44, f0]
        exact main
    · have he : lawP kd pl vl (r + 1) S = ((lawP kd pl vl r (lw4 kd pl vl S)).1, ((lw1 kd pl vl S).2, (lw2 kd pl vl S).2, (lw3 kd pl vl S).2) :: (lawP kd pl vl r (lw4 kd pl vl S)).2.1, (lawP kd pl vl r (lw4 kd pl vl S)).2.2) := by
        conv => lhs; unfold lawP
        rw [ei, if_pos rfl]
      rw [he] at hQ1 hQ2
      have f0 := (is_0 ei).1
      obtain ⟨ho, hc0, hc1⟩ := hb f0
      have hx := hg.1
      have main := lm_iter (t := t) (u := u) (L := L) (Q := Q) (S := S) (h := h) (f := f) (m := m) (q := q) (e := e) (br := br) (cm := cm) (ci := ci) (cd := cd) (wt := wt) (wl := wl) (op := op) (X1 := .int (nI k)) (fi := fi) (ifs := ifs) hd hT h3 h4 h5 hv hg ei (by omega) ho hc0 hc1 (fun Z h1 f1 m1 q1 e1 cm1 ci1 cd1 wt1 wl1 op1 G F D C B => by
        have hn := hT.1
        have Zx := G.1
        refine ih (ifs + 1) Z h1 f1 m1 q1 e1 (br + 1) cm1 ci1 cd1 wt1 wl1 op1 (by omega) G (by omega) (by omega) (fun z => ?_) ?_ ?_
        · have eq := F.2.2 z
          have f4 : (lw4 kd pl vl S).2.1 = 0 := by rw [← eq]; exact z
          obtain ⟨_, _, fw, c1, c2, c3, c4⟩ := lw_0 (pl := pl) hK hv hx f4
          obtain ⟨d1, d2, d3, d4, d5, d6, d7, d8, d9⟩ := D z
          refine ⟨d9, by omega, ?_⟩
          rw [eq]
          omega
        · intro h' f' m' q' e' br' cm' ci' cd' wt' wl' p1 p2 p3 p4 p5 p6 p7 p8 p9
          have z : Z.2.1 = 0 := by
            by_cases y : Z.2.1 = 0
            · exact y
            · exact absurd p1 (by rw [law_s y]; exact y)
          have eq := F.2.2 z
          have hl4 : lawP kd pl vl r Z = lawP kd pl vl r (lw4 kd pl vl S) := by rw [eq]
          have z4 : (lw4 kd pl vl S).2.1 = 0 := by rw [← eq]; exact z
          rw [hl4] at p1 p2 p3 p5 p7
          rw [hl4]
          obtain ⟨_, _, fw, c1, c2, c3, c4⟩ := lw_0 (pl := pl) hK hv hx z4
          have l5 := (lw_le (pl := pl) hK hx).2.2.2.2.1
          obtain ⟨d1, d2, d3, d4, d5, d6, d7, d8, d9⟩ := D z
          obtain ⟨b1, b2, b3, b4, b5⟩ := p6.1 br (by omega)
          have hl : ∀ j, j < cd + (lw1 kd pl vl S).2.length + (lw2 kd pl vl S).2.length + (lw3 kd pl vl S).2.length → cm' j = cm1 j ∧ ci' j = ci1 j := fun j hj => p6.2.1 j (by omega)
          refine hQ1 h' f' m' q' e' br' cm' ci' cd' wt' wl' p1 p2 (by rw [p3, List.length_cons]; omega) (by omega) p5 ⟨fun j hj => ?_, fun j hj => ?_, fun j j1 j2 => ?_⟩ ?_ (CFX_t C p8) (fun j hj => ?_)
          · have x := p6.1 j (by omega)
            have y := B j (by omega)
            exact ⟨x.1.trans y.1, x.2.1.trans y.2.1, x.2.2.1.trans y.2.2.1, x.2.2.2.1.trans y.2.2.2.1, x.2.2.2.2.trans y.2.2.2.2⟩
          · have x := hl j (by omega)
            rw [x.1, x.2, d6, d7]
            exact ⟨by rw [apg_lo _ _ _ _ _ (by omega), apg_lo _ _ _ _ _ (by omega), apg_lo _ _ _ _ _ (by omega)], by rw [apg_lo _ _ _ _ _ (by omega), apg_lo _ _ _ _ _ (by omega), apg_lo _ _ _ _ _ (by omega)]⟩
          · by_cases jb : j = br
            · subst jb
              exact ⟨cd1, by omega, by rw [b5, d5, upr_s, d8]⟩
            · exact p6.2.2 j (by omega) j2
          · rw [MREP]
            refine ⟨hbr0, by omega, ?_, ⟨cd, ?_, ?_, ?_, ?_, ⟨hc0, by omega, fun j hj => ⟨?_, ?_⟩⟩, ⟨by omega, by omega, fun j hj => ⟨?_, ?_⟩⟩, ⟨by omega, by omega, fun j hj => ⟨?_, ?_⟩⟩⟩, fw, p7⟩
            · show h' br = 1
              rw [b1, d1, upr_s]
            · show f' br = _
              rw [b2, d2, upr_s]
            · show m' br = _
              rw [b3, d3, upr_s]
            · show q' br = _
              rw [b4, d4, upr_s]
            · show e' br = _
              rw [b5, d5, upr_s]
            · show cm' (cd + j) = _
              rw [(hl _ (by omega)).1, d6, apg_lo _ _ _ _ _ (by omega), apg_lo _ _ _ _ _ (by omega), apg_at _ _ _ _ _ hj]
            · show ci' (cd + j) = _
              rw [(hl _ (by omega)).2, d7, apg_lo _ _ _ _ _ (by omega), apg_lo _ _ _ _ _ (by omega), apg_at _ _ _ _ _ hj]
            · show cm' (cd + (lw1 kd pl vl S).2.length + j) = _
              rw [(hl _ (by omega)).1, d6, apg_lo _ _ _ _ _ (by omega), apg_at _ _ _ _ _ hj]
            · show ci' (cd + (lw1 kd pl vl S).2.length + j) = _
              rw [(hl _ (by omega)).2, d7, apg_lo _ _ _ _ _ (by omega), apg_at _ _ _ _ _ hj]
            · show cm' (cd + (lw1 kd pl vl S).2.length + (lw2 kd pl vl S).2.length + j) = _
              rw [(hl _ (by omega)).1, d6, apg_at _ _ _ _ _ hj]
            · show ci' (cd + (lw1 kd pl vl S).2.length + (lw2 kd pl vl S).2.length + j) = _
              rw [(hl _ (by omega)).2, d7, apg_at _ _ _ _ _ hj]
          · have x := p9 j hj
            have y := B j (by omega)
            exact ⟨x.1.trans y.1, x.2.1.trans y.2.1, x.2.2.1.trans y.2.2.1, x.2.2.2.1.trans y.2.2.2.1, x.2.2.2.2.trans y.2.2.2.2⟩
        · intro Z' h' f' m' q' e' br' cm' ci' cd' wt' wl' op' p1 p2 p3 p4 p5
          refine hQ2 Z' h' f' m' q' e' br' cm' ci' cd' wt' wl' op' p1 ?_ p3 (CFX_t C p4) (fun j hj => ?_)
          · by_cases y : Z.2.1 = 0
            · rw [F.2.2 y] at p2; exact p2
            · have y2 : (lw4 kd pl vl S).2.1 ≠ 0 := by rw [← F.1]; exact y
              rw [law_s y] at p2
              rw [law_s y2]
              exact FE_t p2 F
          · have x := p5 j hj
            have y := B j (by omega)
            exact ⟨x.1.trans y.1, x.2.1.trans y.2.1, x.2.2.1.trans y.2.2.1, x.2.2.2.1.trans y.2.2.2.1, x.2.2.2.2.trans y.2.2.2.2⟩)
      simp (config := { decide := true, maxDischargeDepth := 20 }) only [↓reduceIte, KV_i, KV_v, wsm_0, wsm_i, wsm_l, wsm_r, dlV_i, dlV_r, dlV_l, dlV_j, cat_i, cat_l, cat_r, rf_s, true_and, and_true, and_self, if_true, if_false, ite_true, ite_false, eq_self, true_or, or_true, false_or, or_false, not_true_eq_false, not_false_eq_true, vn_0_45, vn_1_45, vn_2_45, vn_3_45, vn_4_45, vn_5_45, vn_6_45, vn_7_45, vn_8_45, vn_36_48, vn_37_48, vn_38_48, vn_39_48, vn_40_48, vn_41_48, vn_42_48, vn_43_48, vn_44_48, vn_0_9, vn_1_9, vn_2_9, vn_3_9, vn_4_9, vn_5_9, vn_6_9, vn_7_9, vn_8_9, vn_0_3, vn_1_3, vn_2_3, vn_0_4, vn_1_4, vn_2_4, vn_3_4, vn_0_64, vn_0_16, vn_0_400, vn_0_6, vn_0_14, Int32.reduceToNatClampNeg, Int32.reduceAdd, Int32.reduceSub, Int32.reduceMul, Int32.reduceLE, Int32.reduceLT, Nat.reduceAdd, nr_2, nr_30, nr_31, rd_2, rd_14, rd_71, rd_72, rd_101, rd_116, rd_121, up2_s, up2_n, upr_s, upr_n, ne_eq, not_false_eq_true, ob_70, rx_70_1, rx_70_3, rx_70_5, rx_70_6, rx_70_7, rx_70_8, rx_70_9, rx_70_21, rx_70_22, rx_70_23, rx_70_24, rx_70_25, rx_70_26, rx_70_27, rx_70_28, rx_70_29, rx_70_30, rx_70_31, rx_70_32, rx_70_33, rx_70_34, rx_70_35, rx_70_36, rx_70_37, rx_70_38, rx_70_39, rx_70_40, rx_70_41, rx_70_42, rx_70_43, rx_70_45, rx_70_46, rx_70_47, rx_70_48, rx_70_49, rx_70_51, rx_70_52, rx_70_53, rx_70_55, rx_70_56, rx_70_58, rx_70_59, rx_70_60, rx_70_61, rx_70_63, rx_70_64, rx_70_65, rx_70_70, rx_70_71, rx_70_72, rx_70_73, rx_70_74, r170_13, r170_16, r170_19, r170_20, r170_22, r170_25, r170_28, r170_29, r170_30, r170_38, r170_39, r170_42, wm_11, wm_13, wm_14, wm_15, wm_16, wm_4, wm_12, wm_18, wm_19, wm_20, wm_44, wm_50, wm_54, wm_n, wm_up, wm_u11, wm_u13, wm_u14, wm_u15, wm_u16, wm_u12, wm_u18, wm_u19, wm_u20, wm_u44, wm_u50, wm_u54, ym_n, ym_106, ym_107, ym_108, ym_50, ym_54, ym_12, ym_19, ym_20, ym_44, yu_106, yu_107, yu_108, yu_50, yu_54, yu_12, zm_n, zm_101, zm_102, zm_103, zm_104, zm_105, zm_44, zm_19, zm_20, zu_101, zu_102, zu_103, zu_104, zu_105, zu_44, ym_up, ym_u44, m_is_11 hT, h3, h4, hg, ei, f0, c5, bI_1, Int32.le_refl]
      exact main
theorem law_SE {kd pl vl : Nat → Nat} : ∀ r (S Z : PS), SE S Z → SE (lawP kd pl vl r S).1 (lawP kd pl vl r Z).1 ∧ (lawP kd pl vl r S).2 = (lawP kd pl vl r Z).2 := by
  have fin : ∀ (S Z : PS), SE S Z → SE (takeP kd pl 25 (exE kd pl vl S).1) (takeP kd pl 25 (exE kd pl vl Z).1) ∧ (exE kd pl vl S).2 = (exE kd pl vl Z).2 := fun S Z h => ⟨SE_take (exE_SE h).1, (exE_SE h).2⟩
  intro r
  induction r with
  | zero =>
    intro S Z h
    unfold lawP
    rw [← is_e (q := 11) h]
    cases isP kd 11 S
    · rw [if_neg (by decide), if_neg (by decide), (fin S Z h).2]
      exact ⟨(fin S Z h).1, rfl⟩
    · rw [if_pos rfl, if_pos rfl]
      exact ⟨SE_stop (by decide) h, rfl⟩
  | succ r ih =>
    intro S Z h
    unfold lawP
    rw [← is_e (q := 11) h]
    cases isP kd 11 S
    · rw [if_neg (by decide), if_neg (by decide), (fin S Z h).2]
      exact ⟨(fin S Z h).1, rfl⟩
    · rw [if_pos rfl, if_pos rfl]
      have h1 : SE (lw1 kd pl vl S).1 (lw1 kd pl vl Z).1 ∧ (lw1 kd pl vl S).2 = (lw1 kd pl vl Z).2 := exE_SE (SE_take h)
      have h2 : SE (lw2 kd pl vl S).1 (lw2 kd pl vl Z).1 ∧ (lw2 kd pl vl S).2 = (lw2 kd pl vl Z).2 := exE_SE (SE_take h1.1)
      have h3 : SE (lw3 kd pl vl S).1 (lw3 kd pl vl Z).1 ∧ (lw3 kd pl vl S).2 = (lw3 kd pl vl Z).2 := exE_SE (SE_take h2.1)
      have h4 : SE (lw4 kd pl vl S) (lw4 kd pl vl Z) := SE_take h3.1
      have i1 := ih _ _ h4
      rw [h1.2, h2.2, h3.2, i1.2]
      exact ⟨i1.1, rfl⟩
theorem m_tellLaw {t : Nat} {u : Option Nat} {J : AI} {L : AL} {Q : PQ} {sd br cd : Nat} {S : PS} (hd : sd ≤ 1) {kd pl vl mv : Nat → Nat} {n : Nat} {K3 K4 K5 : Nat → Int32} {K6 : Nat → Int64} (hT : TMR kd pl vl mv n K3 K4 K5 K6) (h3 : J 73 = K3) (h4 : J 74 = K4) (h5 : J 75 = K5) (hv : ∀ j, kd j = 24 → vl j ≤ 9999) (hg : GS n S) (h19 : J 70 19 = nI sd) (h44 : J 70 44 = nI br) (h50 : J 70 50 = nI cd) (h12 : J 70 12 = 0) {k : Nat} (hk : k < 4) (hbr0 : 130 * sd ≤ br) (hbr : br + 4 < 130 * sd + 130) (hc0 : 420 * sd ≤ cd) (hc1 : S.2.1 = 0 → cd ≤ 420 * sd + S.1) (hQ1 : (∀ h' f' m' q' e' br' cm' ci' cd' wt' wl', (lawP kd pl vl 4 (takeP kd pl 26 S)).1.2.1 = 0 → GS n (lawP kd pl vl 4 (takeP kd pl 26 S)).1 → br' = br + (lawP kd pl vl 4 (takeP kd pl 26 S)).2.1.length + 1 → cd ≤ cd' → cd' ≤ 420 * sd + (lawP kd pl vl 4 (takeP kd pl 26 S)).1.1 → (∀ j, j < br → h' j = J 101 j ∧ f' j = J 102 j ∧ m' j = J 103 j ∧ q' j = J 104 j ∧ e' j = J 105 j) ∧ (∀ j, j < cd → cm' j = J 106 j ∧ ci' j = J 107 j) ∧ (∀ j, br ≤ j → j < br' → ∃ z, z ≤ cd' ∧ e' j = nI z) → MREP (ym (zm J h' f' m' q' e' br') cm' ci' cd' wt' wl' 0) sd br br' (lawP kd pl vl 4 (takeP kd pl 26 S)).2.1 (lawP kd pl vl 4 (takeP kd pl 26 S)).2.2 → CFX sd (J 106) (J 107) cm' ci' → (∀ j, (j < 130 * sd ∨ 130 * sd + 130 ≤ j) → h' j = J 101 j ∧ f' j = J 102 j ∧ m' j = J 103 j ∧ q' j = J 104 j ∧ e' j = J 105 j) → Q none 123 (wm (ym (up2 (up2 (zm J h' f' m' q' e' br') 99 (4 * sd + k) (nI br)) 100 (4 * sd + k) (nI br')) cm' ci' cd' wt' wl' 0) (lawP kd pl vl 4 (takeP kd pl 26 S)).1) L (RX t u))) (hQ2 : (∀ Z' h' f' m' q' e' br' cm' ci' cd' wt' wl' op', GS n Z' → FE Z' (lawP kd pl vl 4 (takeP kd pl 26 S)).1 → Z'.2.1 ≠ 0 → CFX sd (J 106) (J 107) cm' ci' → (∀ j, (j < 130 * sd ∨ 130 * sd + 130 ≤ j) → h' j = J 101 j ∧ f' j = J 102 j ∧ m' j = J 103 j ∧ q' j = J 104 j ∧ e' j = J 105 j) → Q none 123 (wm (ym (zm J h' f' m' q' e' br') cm' ci' cd' wt' wl' op') Z') L (RX t u))) : V 170 0 [.ref 70, .int (nI k), .retAddr 0, .retAddr 0] [] 123 (wm J S) L (RX t u) Q := by
  obtain ⟨wl, hwl⟩ := nI_sur (J 70 54)
  have gs := GS_take (q := 26) hT (by decide) hg
  have main := lm_law (t := t) (u := u) (L := L) (Q := Q) hd hT h3 h4 h5 hv h19 hk (fi := nI br) 4 0 (takeP kd pl 26 S) (J 101) (J 102) (J 103) (J 104) (J 105) br (J 106) (J 107) cd (J 108) wl 0 (by omega) gs hbr0 hbr (fun z => ⟨rfl, hc0, by
    have t1 := take_0 z
    have := hc1 t1.2.1
    rw [t1.1]
    show cd ≤ 420 * sd + (S.1 + 1)
    omega⟩) hQ1 hQ2
  rw [zm_id h44, ym_id h50 hwl h12] at main
  have z0 : (nI 0 : Int32) = 0 := rfl
  rw [z0] at main
  simp (config := { decide := true, maxDischargeDepth := 20 }) only [↓reduceIte, KV_i, KV_v, wsm_0, wsm_i, wsm_l, wsm_r, dlV_i, dlV_r, dlV_l, dlV_j, cat_i, cat_l, cat_r, rf_s, true_and, and_true, and_self, if_true, if_false, ite_true, ite_false, eq_self, true_or, or_true, false_or, or_false, not_true_eq_false, not_false_eq_true, vn_0_45, vn_1_45, vn_2_45, vn_3_45, vn_4_45, vn_5_45, vn_6_45, vn_7_45, vn_8_45, vn_36_48, vn_37_48, vn_38_48, vn_39_48, vn_40_48, vn_41_48, vn_42_48, vn_43_48, vn_44_48, vn_0_9, vn_1_9, vn_2_9, vn_3_9, vn_4_9, vn_5_9, vn_6_9, vn_7_9, vn_8_9, vn_0_3, vn_1_3, vn_2_3, vn_0_4, vn_1_4, vn_2_4, vn_3_4, vn_0_64, vn_0_16, vn_0_400, vn_0_6, vn_0_14, Int32.reduceToNatClampNeg, Int32.reduceAdd, Int32.reduceSub, Int32.reduceMul, Int32.reduceLE, Int32.reduceLT, Nat.reduceAdd, nr_2, nr_30, nr_31, rd_2, rd_14, rd_71, rd_72, rd_101, rd_116, rd_121, up2_s, up2_n, upr_s, upr_n, ne_eq, not_false_eq_true, ob_70, rx_70_1, rx_70_3, rx_70_5, rx_70_6, rx_70_7, rx_70_8, rx_70_9, rx_70_21, rx_70_22, rx_70_23, rx_70_24, rx_70_25, rx_70_26, rx_70_27, rx_70_28, rx_70_29, rx_70_30, rx_70_31, rx_70_32, rx_70_33, rx_70_34, rx_70_35, rx_70_36, rx_70_37, rx_70_38, rx_70_39, rx_70_40, rx_70_41, rx_70_42, rx_70_43, rx_70_45, rx_70_46, rx_70_47, rx_70_48, rx_70_49, rx_70_51, rx_70_52, rx_70_53, rx_70_55, rx_70_56, rx_70_58, rx_70_59, rx_70_60, rx_70_61, rx_70_63, rx_70_64, rx_70_65, rx_70_70, rx_70_71, rx_70_72, rx_70_73, rx_70_74, r170_0, r170_1, r170_2, r170_5, r170_6, r170_9, r170_10, r170_11, r170_13, r170_16, r170_19, r170_20, r170_22, r170_25, r170_28, r170_29, r170_30, r170_33, r170_34, r170_35, r170_38, r170_39, r170_42, r170_45, r170_46, r170_49, r170_50, r170_53, r170_54, r170_57, r170_58, r170_61, r170_62, r170_63, r170_64, r170_67, r170_68, r170_71, r170_72, r170_75, r170_76, r170_77, r170_80, r170_81, r170_83, r170_86, r170_87, r170_90, r170_91, r170_94, r170_95, r170_98, r170_99, r170_100, r170_103, r170_106, r170_107, r170_110, r170_111, r170_113, r170_116, r170_117, r170_120, r170_121, r170_123, r170_126, r170_129, r170_130, r170_133, r170_134, r170_137, r170_138, r170_139, r170_140, r170_143, r170_144, r170_145, r170_148, r170_149, r170_152, r170_155, r170_156, r170_157, r170_160, r170_161, r170_162, r170_165, r170_166, r170_167, r170_168, r170_169, r170_170, r170_171, r170_174, r170_175, r170_176, r170_179, r170_180, r170_181, r170_182, r170_183, r170_186, r170_187, wm_11, wm_13, wm_14, wm_15, wm_16, wm_4, wm_12, wm_18, wm_19, wm_20, wm_44, wm_50, wm_54, wm_n, wm_up, wm_u11, wm_u13, wm_u14, wm_u15, wm_u16, wm_u12, wm_u18, wm_u19, wm_u20, wm_u44, wm_u50, wm_u54, m_must_26 hT, h3, h4, hg, h44]
  exact main
