/-! READ: the reference, from its first step to its last -/
theorem sx_88 : ∀ b, b < 256 → (sxI b).toInt8.toInt32 = sxI b := by decide +kernel
theorem lm_copy {t : Nat} {u : Option Nat} {J : AI} {L : AL} {Q : PQ} {k : Nat} {c : Nat → Nat} (hk : k ≤ 2000) (h4 : J 70 4 = nI k) (hB : ∀ i, i < k → J 71 i = sxI (c i) ∧ c i < 256) : ∀ m i, i + m = k → V 156 10 [.ref 70, .int (nI i)] [] 123 (upr J 72 (fb_put (J 72) (J 71) 0 i)) L (RX t u) Q = V 156 36 [.ref 70, .int (nI k)] [] 123 (upr J 72 (fb_put (J 72) (J 71) 0 k)) L (RX t u) Q := by
  intro m
  induction m with
  | zero =>
    intro i hi
    obtain rfl : i = k := by omega
    have e1 : (nI i ≤ nI i) = True := eq_true (Int32.le_refl _)
    rw [r156_10]
    simp (config := { decide := true }) only [↓reduceIte, KV_i, KV_v, wsm_0, wsm_i, wsm_l, wsm_r, dlV_i, dlV_r, dlV_l, dlV_j, cat_i, cat_l, cat_r, rf_s, true_and, and_true, and_self, if_true, if_false, ite_true, ite_false, eq_self, true_or, or_true, false_or, or_false, not_true_eq_false, not_false_eq_true, vn_0_45, vn_1_45, vn_2_45, vn_3_45, vn_4_45, vn_5_45, vn_6_45, vn_7_45, vn_8_45, vn_36_48, vn_37_48, vn_38_48, vn_39_48, vn_40_48, vn_41_48, vn_42_48, vn_43_48, vn_44_48, vn_0_9, vn_1_9, vn_2_9, vn_3_9, vn_4_9, vn_5_9, vn_6_9, vn_7_9, vn_8_9, vn_0_3, vn_1_3, vn_2_3, vn_0_4, vn_1_4, vn_2_4, vn_3_4, vn_0_64, vn_0_16, vn_0_400, vn_0_6, vn_0_14, Int32.reduceToNatClampNeg, Int32.reduceAdd, Int32.reduceSub, Int32.reduceMul, Int32.reduceLE, Int32.reduceLT, Nat.reduceAdd, nr_2, nr_30, nr_31, rd_2, rd_14, rd_71, rd_72, rd_101, rd_116, rd_121, up2_s, up2_n, upr_s, upr_n, ne_eq, not_false_eq_true, ob_70, rx_70_1, rx_70_3, rx_70_5, rx_70_6, rx_70_7, rx_70_8, rx_70_9, rx_70_21, rx_70_22, rx_70_23, rx_70_24, rx_70_25, rx_70_26, rx_70_27, rx_70_28, rx_70_29, rx_70_30, rx_70_31, rx_70_32, rx_70_33, rx_70_34, rx_70_35, rx_70_36, rx_70_37, rx_70_38, rx_70_39, rx_70_40, rx_70_41, rx_70_42, rx_70_43, rx_70_45, rx_70_46, rx_70_47, rx_70_48, rx_70_49, rx_70_51, rx_70_52, rx_70_53, rx_70_55, rx_70_56, rx_70_58, rx_70_59, rx_70_60, rx_70_61, rx_70_63, rx_70_64, rx_70_65, rx_70_70, rx_70_71, rx_70_72, rx_70_73, rx_70_74, r156_11, r156_12, r156_15, h4, e1]
  | succ m ih =>
    intro i hi
    have e1 : (nI k ≤ nI i) = False := leF (a := k) (by omega) (by omega)
    have e2 := inT (a := i) (N := 2000) (by omega) (by decide)
    have e3 := nI_clamp (n := i) (by omega)
    have e4 := put_s J 72 (0) i (J 71)
    rw [Nat.zero_add] at e4
    have hb := hB i (by omega)
    have e5 : (J 71 i).toInt8.toInt32 = J 71 i := by rw [hb.1]; exact sx_88 _ hb.2
    rw [r156_10]
    simp (config := { decide := true }) only [↓reduceIte, KV_i, KV_v, wsm_0, wsm_i, wsm_l, wsm_r, dlV_i, dlV_r, dlV_l, dlV_j, cat_i, cat_l, cat_r, rf_s, true_and, and_true, and_self, if_true, if_false, ite_true, ite_false, eq_self, true_or, or_true, false_or, or_false, not_true_eq_false, not_false_eq_true, vn_0_45, vn_1_45, vn_2_45, vn_3_45, vn_4_45, vn_5_45, vn_6_45, vn_7_45, vn_8_45, vn_36_48, vn_37_48, vn_38_48, vn_39_48, vn_40_48, vn_41_48, vn_42_48, vn_43_48, vn_44_48, vn_0_9, vn_1_9, vn_2_9, vn_3_9, vn_4_9, vn_5_9, vn_6_9, vn_7_9, vn_8_9, vn_0_3, vn_1_3, vn_2_3, vn_0_4, vn_1_4, vn_2_4, vn_3_4, vn_0_64, vn_0_16, vn_0_400, vn_0_6, vn_0_14, Int32.reduceToNatClampNeg, Int32.reduceAdd, Int32.reduceSub, Int32.reduceMul, Int32.reduceLE, Int32.reduceLT, Nat.reduceAdd, nr_2, nr_30, nr_31, rd_2, rd_14, rd_71, rd_72, rd_101, rd_116, rd_121, up2_s, up2_n, upr_s, upr_n, ne_eq, not_false_eq_true, ob_70, rx_70_1, rx_70_3, rx_70_5, rx_70_6, rx_70_7, rx_70_8, rx_70_9, rx_70_21, rx_70_22, rx_70_23, rx_70_24, rx_70_25, rx_70_26, rx_70_27, rx_70_28, rx_70_29, rx_70_30, rx_70_31, rx_70_32, rx_70_33, rx_70_34, rx_70_35, rx_70_36, rx_70_37, rx_70_38, rx_70_39, rx_70_40, rx_70_41, rx_70_42, rx_70_43, rx_70_45, rx_70_46, rx_70_47, rx_70_48, rx_70_49, rx_70_51, rx_70_52, rx_70_53, rx_70_55, rx_70_56, rx_70_58, rx_70_59, rx_70_60, rx_70_61, rx_70_63, rx_70_64, rx_70_65, rx_70_70, rx_70_71, rx_70_72, rx_70_73, rx_70_74, r156_11, r156_12, r156_15, r156_18, r156_19, r156_22, r156_23, r156_24, r156_27, r156_28, r156_29, r156_30, r156_33, tg_71, ln_71, tg_72, ln_72, h4, e1, e2, e3, e5, nI_1, nr_2]
    rw [e4]
    exact ih (i + 1) (by omega)
theorem wm_id {J : AI} {S : PS} (h1 : J 70 11 = nI S.1) (h2 : J 70 13 = S.2.1) (h3 : J 70 14 = S.2.2.1) (h4 : J 70 15 = S.2.2.2.1) (h5 : J 70 16 = S.2.2.2.2) : wm J S = J := by
  unfold wm
  rw [← h1, ← h2, ← h3, ← h4, ← h5]
  funext a
  by_cases ha : a = 70
  · subst ha
    funext k
    by_cases k1 : k = 11
    · subst k1; rfl
    by_cases k2 : k = 13
    · subst k2; rfl
    by_cases k3 : k = 14
    · subst k3; rfl
    by_cases k4 : k = 15
    · subst k4; rfl
    by_cases k5 : k = 16
    · subst k5; rfl
    rw [up2_s, upr_n k5, up2_s, upr_n k4, up2_s, upr_n k3, up2_s, upr_n k2, up2_s, upr_n k1]
  · rw [up2_n ha, up2_n ha, up2_n ha, up2_n ha, up2_n ha]
/-- what the reference's first steps leave -/
def MH (lv sd : Nat) (J X : AI) : Prop := (∀ a k, PRT lv a k → ¬ (a = 70 ∧ k = 2) → X a k = J a k) ∧ X 70 2 = 0 ∧ (X 81 sd = 0 ∧ X 88 sd = 0 ∧ X 91 sd = 0 ∧ X 94 sd = 0 ∧ X 96 sd = 0 ∧ X 98 sd = 0) ∧ X 70 19 = nI sd ∧ X 70 20 = 0 ∧ X 70 44 = nI (130 * sd) ∧ X 70 50 = nI (420 * sd) ∧ X 70 12 = 0 ∧ (X 70 11 = 0 ∧ X 70 13 = 0 ∧ X 70 15 = 0) ∧ ∀ k, k < 4 → X 99 (4 * sd + k) = X 100 (4 * sd + k)
theorem FRM_v {lv : Nat} {J X : AI} (h : ∀ a k, PRT lv a k → ¬ (a = 70 ∧ k = 2) → X a k = J a k) {a k : Nat} {v : Int32} (n : ¬ PRT lv a k ∨ (a = 70 ∧ k = 2)) : ∀ b l, PRT lv b l → ¬ (b = 70 ∧ l = 2) → up2 X a k v b l = J b l := by
  intro b l q1 q2
  by_cases e : b = a
  · subst e
    by_cases e2 : l = k
    · subst e2
      rcases n with n | n
      · exact absurd q1 n
      · exact absurd n q2
    · rw [up2_s, upr_n e2]; exact h b l q1 q2
  · rw [up2_n e]; exact h b l q1 q2
theorem np_4 {lv k : Nat} (h : k = 4 ∨ k = 11 ∨ k = 12 ∨ k = 13 ∨ k = 15 ∨ k = 19 ∨ k = 20 ∨ k = 44 ∨ k = 50 ∨ k = 10) : ¬ PRT lv 70 k := by
  intro z
  have z' : (70 < 70 ∨ 70 = 71 ∨ 109 ≤ 70) ∨ (70 = 70 ∧ (k = 2 ∨ k = 17 ∨ k = 18 ∨ k = 62 ∨ k = 69)) ∨ (0 * lv ≤ k ∧ k < 0 * lv + 0) := z
  omega
theorem m_head {t lv sd k : Nat} {u : Option Nat} {J : AI} {M : AL} {Q : PQ} {c : Nat → Nat} (hlv : (lv = 0 ∧ sd = 1) ∨ (lv = 1 ∧ sd = 0)) (h18 : J 70 18 = nI lv) (h2 : J 70 2 = nI k) (hk : k ≤ 2000) (hB : ∀ i, i < k → J 71 i = sxI (c i) ∧ c i < 256) (hW : ∀ j, j < 23 → M 77 j = wmX j) (hQ : ∀ X M' m X1, MH lv sd J X → FRL M M' → (∀ j, j < m → TKM X M' c k j) → (m = 401 ∨ ∃ e, m = e + 1 ∧ kdF c k (plF c k e) = 35) → V 156 112 [.ref 70, X1] [] 123 X M' (RX t u) Q) : V 156 0 [.ref 70, .retAddr 0] [] 123 J M (RX t u) Q := by
  have cp := lm_copy (t := t) (u := u) (J := up2 J 70 4 (nI k)) (L := M) (Q := Q) (c := c) hk (by rw [up2_s, upr_s]) (fun i hi => by rw [up2_n (by decide)]; exact hB i hi) k 0 (by omega)
  rw [fb_put_0, upr_id, show (nI 0 : Int32) = 0 from rfl, show up2 J 70 4 (nI k) 72 = J 72 from up2_n (by decide), show up2 J 70 4 (nI k) 71 = J 71 from up2_n (by decide)] at cp
  have e0 : V 156 0 [.ref 70, .retAddr 0] [] 123 J M (RX t u) Q = V 156 10 [.ref 70, .int 0] [] 123 (up2 J 70 4 (nI k)) M (RX t u) Q := by simp (config := { decide := true }) only [↓reduceIte, KV_i, KV_v, wsm_0, wsm_i, wsm_l, wsm_r, dlV_i, dlV_r, dlV_l, dlV_j, cat_i, cat_l, cat_r, rf_s, true_and, and_true, and_self, if_true, if_false, ite_true, ite_false, eq_self, true_or, or_true, false_or, or_false, not_true_eq_false, not_false_eq_true, vn_0_45, vn_1_45, vn_2_45, vn_3_45, vn_4_45, vn_5_45, vn_6_45, vn_7_45, vn_8_45, vn_36_48, vn_37_48, vn_38_48, vn_39_48, vn_40_48, vn_41_48, vn_42_48, vn_43_48, vn_44_48, vn_0_9, vn_1_9, vn_2_9, vn_3_9, vn_4_9, vn_5_9, vn_6_9, vn_7_9, vn_8_9, vn_0_3, vn_1_3, vn_2_3, vn_0_4, vn_1_4, vn_2_4, vn_3_4, vn_0_64, vn_0_16, vn_0_400, vn_0_6, vn_0_14, Int32.reduceToNatClampNeg, Int32.reduceAdd, Int32.reduceSub, Int32.reduceMul, Int32.reduceLE, Int32.reduceLT, Nat.reduceAdd, nr_2, nr_30, nr_31, rd_2, rd_14, rd_71, rd_72, rd_101, rd_116, rd_121, up2_s, up2_n, upr_s, upr_n, ne_eq, not_false_eq_true, ob_70, rx_70_1, rx_70_3, rx_70_5, rx_70_6, rx_70_7, rx_70_8, rx_70_9, rx_70_21, rx_70_22, rx_70_23, rx_70_24, rx_70_25, rx_70_26, rx_70_27, rx_70_28, rx_70_29, rx_70_30, rx_70_31, rx_70_32, rx_70_33, rx_70_34, rx_70_35, rx_70_36, rx_70_37, rx_70_38, rx_70_39, rx_70_40, rx_70_41, rx_70_42, rx_70_43, rx_70_45, rx_70_46, rx_70_47, rx_70_48, rx_70_49, rx_70_51, rx_70_52, rx_70_53, rx_70_55, rx_70_56, rx_70_58, rx_70_59, rx_70_60, rx_70_61, rx_70_63, rx_70_64, rx_70_65, rx_70_70, rx_70_71, rx_70_72, rx_70_73, rx_70_74, r156_0, r156_1, r156_2, r156_5, r156_8, r156_9, h2]
  rw [e0, cp]
  generalize hT72 : fb_put (J 72) (J 71) 0 k = T72
  have b72 : ∀ i, i < k → T72 i = sxI (c i) ∧ c i < 256 := fun i hi => by
    rw [← hT72, fb_put_in (Nat.zero_le _) (by omega)]
    exact hB i hi
  simp (config := { decide := true }) only [↓reduceIte, KV_i, KV_v, wsm_0, wsm_i, wsm_l, wsm_r, dlV_i, dlV_r, dlV_l, dlV_j, cat_i, cat_l, cat_r, rf_s, true_and, and_true, and_self, if_true, if_false, ite_true, ite_false, eq_self, true_or, or_true, false_or, or_false, not_true_eq_false, not_false_eq_true, vn_0_45, vn_1_45, vn_2_45, vn_3_45, vn_4_45, vn_5_45, vn_6_45, vn_7_45, vn_8_45, vn_36_48, vn_37_48, vn_38_48, vn_39_48, vn_40_48, vn_41_48, vn_42_48, vn_43_48, vn_44_48, vn_0_9, vn_1_9, vn_2_9, vn_3_9, vn_4_9, vn_5_9, vn_6_9, vn_7_9, vn_8_9, vn_0_3, vn_1_3, vn_2_3, vn_0_4, vn_1_4, vn_2_4, vn_3_4, vn_0_64, vn_0_16, vn_0_400, vn_0_6, vn_0_14, Int32.reduceToNatClampNeg, Int32.reduceAdd, Int32.reduceSub, Int32.reduceMul, Int32.reduceLE, Int32.reduceLT, Nat.reduceAdd, nr_2, nr_30, nr_31, rd_2, rd_14, rd_71, rd_72, rd_101, rd_116, rd_121, up2_s, up2_n, upr_s, upr_n, ne_eq, not_false_eq_true, ob_70, rx_70_1, rx_70_3, rx_70_5, rx_70_6, rx_70_7, rx_70_8, rx_70_9, rx_70_21, rx_70_22, rx_70_23, rx_70_24, rx_70_25, rx_70_26, rx_70_27, rx_70_28, rx_70_29, rx_70_30, rx_70_31, rx_70_32, rx_70_33, rx_70_34, rx_70_35, rx_70_36, rx_70_37, rx_70_38, rx_70_39, rx_70_40, rx_70_41, rx_70_42, rx_70_43, rx_70_45, rx_70_46, rx_70_47, rx_70_48, rx_70_49, rx_70_51, rx_70_52, rx_70_53, rx_70_55, rx_70_56, rx_70_58, rx_70_59, rx_70_60, rx_70_61, rx_70_63, rx_70_64, rx_70_65, rx_70_70, rx_70_71, rx_70_72, rx_70_73, rx_70_74, r156_36, r156_37, r156_38, r156_41, r156_42]
  refine m_cut (c := c) hk (by rw [up2_s, upr_n (by decide), upr_n (by decide), up2_s, upr_s]) (fun i hi => by rw [up2_n (by decide), upr_s]; exact b72 i hi) hW (fun X M' m hF hTk hm => ?_)
  have x18 : X 70 18 = nI lv := by rw [hF.2.1 18 (by decide), up2_s, upr_n (by decide), upr_n (by decide), up2_s, upr_n (by decide)]; exact h18
  have fr : ∀ a k, PRT lv a k → ¬ (a = 70 ∧ k = 2) → X a k = J a k := by
    intro a l q1 q2
    by_cases e : a = 70
    · subst e
      have l10 : l ≠ 10 := fun z => np_4 (lv := lv) (k := 10) (by omega) (z ▸ q1)
      have l4 : l ≠ 4 := fun z => np_4 (lv := lv) (k := 4) (by omega) (z ▸ q1)
      have l2 : l ≠ 2 := fun z => q2 ⟨rfl, z⟩
      rw [hF.2.1 l l10, up2_s, upr_n l2, upr_n (by decide), up2_s, upr_n l4]
    · have n72 : a ≠ 72 ∧ a ≠ 73 ∧ a ≠ 74 ∧ a ≠ 75 := by
        have hz : ∀ b, (b = 72 ∨ b = 73 ∨ b = 74 ∨ b = 75) → ¬ PRT lv b l := fun b hb z => by
          have h0 : hsz b = 0 := by rcases hb with rfl | rfl | rfl | rfl <;> rfl
          unfold PRT at z
          rw [h0] at z
          omega
        exact ⟨fun z => hz 72 (by omega) (z ▸ q1), fun z => hz 73 (by omega) (z ▸ q1), fun z => hz 74 (by omega) (z ▸ q1), fun z => hz 75 (by omega) (z ▸ q1)⟩
      rw [hF.1 a n72.2.1 n72.2.2.1 n72.2.2.2 e, up2_n e, upr_n n72.1, up2_n e]
  have x2 : X 70 2 = 0 := by rw [hF.2.1 2 (by decide), up2_s, upr_s]
  have fl : FRL M M' := fun a h1 _ => hF.2.2 a h1
  rcases hlv with ⟨rfl, rfl⟩ | ⟨rfl, rfl⟩
  · have y18 : X 70 18 = 0 := x18
    have vs : vp_in (1 : Int32) 2 = True := inT (a := 1) (N := 2) (by decide) (by decide)
    have v0 : vp_in (4 : Int32) 8 = True := inT (a := 4) (N := 8) (by decide) (by decide)
    have v1 : vp_in (5 : Int32) 8 = True := inT (a := 5) (N := 8) (by decide) (by decide)
    have v2 : vp_in (6 : Int32) 8 = True := inT (a := 6) (N := 8) (by decide) (by decide)
    have v3 : vp_in (7 : Int32) 8 = True := inT (a := 7) (N := 8) (by decide) (by decide)
    simp (config := { decide := true }) only [↓reduceIte, KV_i, KV_v, wsm_0, wsm_i, wsm_l, wsm_r, dlV_i, dlV_r, dlV_l, dlV_j, cat_i, cat_l, cat_r, rf_s, true_and, and_true, and_self, if_true, if_false, ite_true, ite_false, eq_self, true_or, or_true, false_or, or_false, not_true_eq_false, not_false_eq_true, vn_0_45, vn_1_45, vn_2_45, vn_3_45, vn_4_45, vn_5_45, vn_6_45, vn_7_45, vn_8_45, vn_36_48, vn_37_48, vn_38_48, vn_39_48, vn_40_48, vn_41_48, vn_42_48, vn_43_48, vn_44_48, vn_0_9, vn_1_9, vn_2_9, vn_3_9, vn_4_9, vn_5_9, vn_6_9, vn_7_9, vn_8_9, vn_0_3, vn_1_3, vn_2_3, vn_0_4, vn_1_4, vn_2_4, vn_3_4, vn_0_64, vn_0_16, vn_0_400, vn_0_6, vn_0_14, Int32.reduceToNatClampNeg, Int32.reduceAdd, Int32.reduceSub, Int32.reduceMul, Int32.reduceLE, Int32.reduceLT, Nat.reduceAdd, nr_2, nr_30, nr_31, rd_2, rd_14, rd_71, rd_72, rd_101, rd_116, rd_121, up2_s, up2_n, upr_s, upr_n, ne_eq, not_false_eq_true, ob_70, rx_70_1, rx_70_3, rx_70_5, rx_70_6, rx_70_7, rx_70_8, rx_70_9, rx_70_21, rx_70_22, rx_70_23, rx_70_24, rx_70_25, rx_70_26, rx_70_27, rx_70_28, rx_70_29, rx_70_30, rx_70_31, rx_70_32, rx_70_33, rx_70_34, rx_70_35, rx_70_36, rx_70_37, rx_70_38, rx_70_39, rx_70_40, rx_70_41, rx_70_42, rx_70_43, rx_70_45, rx_70_46, rx_70_47, rx_70_48, rx_70_49, rx_70_51, rx_70_52, rx_70_53, rx_70_55, rx_70_56, rx_70_58, rx_70_59, rx_70_60, rx_70_61, rx_70_63, rx_70_64, rx_70_65, rx_70_70, rx_70_71, rx_70_72, rx_70_73, rx_70_74, r156_0, r156_1, r156_2, r156_5, r156_8, r156_9, r156_11, r156_12, r156_15, r156_18, r156_19, r156_22, r156_23, r156_24, r156_27, r156_28, r156_29, r156_30, r156_33, r156_36, r156_37, r156_38, r156_41, r156_42, r156_45, r156_46, r156_47, r156_50, r156_51, r156_52, r156_55, r156_56, r156_57, r156_60, r156_61, r156_62, r156_65, r156_66, r156_67, r156_68, r156_71, r156_72, r156_75, r156_76, r156_77, r156_80, r156_81, r156_82, r156_85, r156_88, r156_89, r156_92, r156_93, r156_96, r156_97, r156_100, r156_101, r156_104, r156_105, r156_108, r156_109, r156_113, r156_116, r156_119, r156_120, r156_121, r156_124, r156_127, r156_128, r156_131, r156_134, r156_135, r156_136, r156_139, r156_142, r156_143, r156_146, r156_149, r156_150, r156_153, r156_156, r156_157, r156_160, r156_163, r156_164, r156_167, r156_168, r156_171, r156_174, r156_175, r156_178, r156_179, r156_180, r156_183, r156_186, r156_187, r156_190, r156_191, r156_192, r156_193, r156_196, r156_199, r156_200, r156_203, r156_204, r156_207, r156_208, r156_209, r156_212, r156_213, r156_214, r156_217, r156_218, r156_219, r156_220, r156_221, r156_224, r156_225, r156_228, r156_229, r156_230, r156_231, r156_234, r156_237, r156_238, r155_0, r155_1, r155_4, r155_5, r155_6, r155_7, r155_8, r155_11, r155_12, r155_13, r155_14, r155_15, r155_18, r155_19, r155_20, r155_21, r155_22, r155_25, r155_26, r155_27, r155_28, r155_29, r155_32, r155_33, r155_34, r155_35, r155_36, r155_39, r155_40, r155_41, r155_42, r155_43, r155_44, r155_45, r155_46, r155_49, r155_50, r155_53, r155_54, r155_55, r155_56, r155_57, r155_58, r155_59, r155_60, r155_61, r155_64, r155_65, r155_66, r155_67, r155_68, r155_69, r155_70, r155_71, r155_74, r155_77, tg_81, ln_81, tg_88, ln_88, tg_91, ln_91, tg_94, ln_94, tg_96, ln_96, tg_98, ln_98, tg_99, ln_99, tg_100, ln_100, y18, vs, v0, v1, v2, v3]
    refine hQ _ M' m _ ⟨?_, ?_, ⟨?_, ?_, ?_, ?_, ?_, ?_⟩, ?_, ?_, ?_, ?_, ?_, ⟨?_, ?_, ?_⟩, fun j hj => ?_⟩ fl (fun j hj => ?_) hm
    · repeat' (first | exact fr | first | (refine FRM_v ?_ (Or.inl (np_4 (by omega)))) | (refine FRM_v ?_ (Or.inl (np_81 (sd := 1) (by decide)))) | (refine FRM_v ?_ (Or.inl (np_88 (sd := 1) (by decide)))) | (refine FRM_v ?_ (Or.inl (np_91 (sd := 1) (by decide)))) | (refine FRM_v ?_ (Or.inl (np_94 (sd := 1) (by decide)))) | (refine FRM_v ?_ (Or.inl (np_96 (sd := 1) (by decide)))) | (refine FRM_v ?_ (Or.inl (np_98 (sd := 1) (by decide)))) | (refine FRM_v ?_ (Or.inl (np_99 (sd := 1) (k := 0) (by decide) (by decide) (by decide)))) | (refine FRM_v ?_ (Or.inl (np_99 (sd := 1) (k := 1) (by decide) (by decide) (by decide)))) | (refine FRM_v ?_ (Or.inl (np_99 (sd := 1) (k := 2) (by decide) (by decide) (by decide)))) | (refine FRM_v ?_ (Or.inl (np_99 (sd := 1) (k := 3) (by decide) (by decide) (by decide)))))
    · simp (config := { decide := true }) only [up2_s, up2_n, upr_s, upr_n, ne_eq, not_false_eq_true, Nat.reduceAdd]; first | done | exact x2 | rfl
    · simp (config := { decide := true }) only [up2_s, up2_n, upr_s, upr_n, ne_eq, not_false_eq_true, Nat.reduceAdd]; first | done | exact x2 | rfl
    · simp (config := { decide := true }) only [up2_s, up2_n, upr_s, upr_n, ne_eq, not_false_eq_true, Nat.reduceAdd]; first | done | exact x2 | rfl
    · simp (config := { decide := true }) only [up2_s, up2_n, upr_s, upr_n, ne_eq, not_false_eq_true, Nat.reduceAdd]; first | done | exact x2 | rfl
    · simp (config := { decide := true }) only [up2_s, up2_n, upr_s, upr_n, ne_eq, not_false_eq_true, Nat.reduceAdd]; first | done | exact x2 | rfl
    · simp (config := { decide := true }) only [up2_s, up2_n, upr_s, upr_n, ne_eq, not_false_eq_true, Nat.reduceAdd]; first | done | exact x2 | rfl
    · simp (config := { decide := true }) only [up2_s, up2_n, upr_s, upr_n, ne_eq, not_false_eq_true, Nat.reduceAdd]; first | done | exact x2 | rfl
    · simp (config := { decide := true }) only [up2_s, up2_n, upr_s, upr_n, ne_eq, not_false_eq_true, Nat.reduceAdd]; first | done | exact x2 | rfl
    · simp (config := { decide := true }) only [up2_s, up2_n, upr_s, upr_n, ne_eq, not_false_eq_true, Nat.reduceAdd]; first | done | exact x2 | rfl
    · simp (config := { decide := true }) only [up2_s, up2_n, upr_s, upr_n, ne_eq, not_false_eq_true, Nat.reduceAdd]; first | done | exact x2 | rfl
    · simp (config := { decide := true }) only [up2_s, up2_n, upr_s, upr_n, ne_eq, not_false_eq_true, Nat.reduceAdd]; first | done | exact x2 | rfl
    · simp (config := { decide := true }) only [up2_s, up2_n, upr_s, upr_n, ne_eq, not_false_eq_true, Nat.reduceAdd]; first | done | exact x2 | rfl
    · simp (config := { decide := true }) only [up2_s, up2_n, upr_s, upr_n, ne_eq, not_false_eq_true, Nat.reduceAdd]; first | done | exact x2 | rfl
    · simp (config := { decide := true }) only [up2_s, up2_n, upr_s, upr_n, ne_eq, not_false_eq_true, Nat.reduceAdd]; first | done | exact x2 | rfl
    · simp (config := { decide := true }) only [up2_s, up2_n, upr_s, upr_n, ne_eq, not_false_eq_true, Nat.reduceAdd]; first | done | exact x2 | rfl
    · have k4 : j = 0 ∨ j = 1 ∨ j = 2 ∨ j = 3 := by omega
      rcases k4 with rfl | rfl | rfl | rfl <;> simp (config := { decide := true }) only [up2_s, up2_n, upr_s, upr_n, ne_eq, not_false_eq_true, Nat.reduceAdd, Nat.reduceMul]
    · have q := hTk j hj
      unfold TKM at q ⊢
      simp (config := { decide := true }) only [up2_s, up2_n, upr_s, upr_n, ne_eq, not_false_eq_true, Nat.reduceAdd]
      exact q
  · have y18 : X 70 18 = 1 := x18
    have vs : vp_in (0 : Int32) 2 = True := inT (a := 0) (N := 2) (by decide) (by decide)
    have v0 : vp_in (0 : Int32) 8 = True := inT (a := 0) (N := 8) (by decide) (by decide)
    have v1 : vp_in (1 : Int32) 8 = True := inT (a := 1) (N := 8) (by decide) (by decide)
    have v2 : vp_in (2 : Int32) 8 = True := inT (a := 2) (N := 8) (by decide) (by decide)
    have v3 : vp_in (3 : Int32) 8 = True := inT (a := 3) (N := 8) (by decide) (by decide)
    simp (config := { decide := true }) only [↓reduceIte, KV_i, KV_v, wsm_0, wsm_i, wsm_l, wsm_r, dlV_i, dlV_r, dlV_l, dlV_j, cat_i, cat_l, cat_r, rf_s, true_and, and_true, and_self, if_true, if_false, ite_true, ite_false, eq_self, true_or, or_true, false_or, or_false, not_true_eq_false, not_false_eq_true, vn_0_45, vn_1_45, vn_2_45, vn_3_45, vn_4_45, vn_5_45, vn_6_45, vn_7_45, vn_8_45, vn_36_48, vn_37_48, vn_38_48, vn_39_48, vn_40_48, vn_41_48, vn_42_48, vn_43_48, vn_44_48, vn_0_9, vn_1_9, vn_2_9, vn_3_9, vn_4_9, vn_5_9, vn_6_9, vn_7_9, vn_8_9, vn_0_3, vn_1_3, vn_2_3, vn_0_4, vn_1_4, vn_2_4, vn_3_4, vn_0_64, vn_0_16, vn_0_400, vn_0_6, vn_0_14, Int32.reduceToNatClampNeg, Int32.reduceAdd, Int32.reduceSub, Int32.reduceMul, Int32.reduceLE, Int32.reduceLT, Nat.reduceAdd, nr_2, nr_30, nr_31, rd_2, rd_14, rd_71, rd_72, rd_101, rd_116, rd_121, up2_s, up2_n, upr_s, upr_n, ne_eq, not_false_eq_true, ob_70, rx_70_1, rx_70_3, rx_70_5, rx_70_6, rx_70_7, rx_70_8, rx_70_9, rx_70_21, rx_70_22, rx_70_23, rx_70_24, rx_70_25, rx_70_26, rx_70_27, rx_70_28, rx_70_29, rx_70_30, rx_70_31, rx_70_32, rx_70_33, rx_70_34, rx_70_35, rx_70_36, rx_70_37, rx_70_38, rx_70_39, rx_70_40, rx_70_41, rx_70_42, rx_70_43, rx_70_45, rx_70_46, rx_70_47, rx_70_48, rx_70_49, rx_70_51, rx_70_52, rx_70_53, rx_70_55, rx_70_56, rx_70_58, rx_70_59, rx_70_60, rx_70_61, rx_70_63, rx_70_64, rx_70_65, rx_70_70, rx_70_71, rx_70_72, rx_70_73, rx_70_74, r156_0, r156_1, r156_2, r156_5, r156_8, r156_9, r156_11, r156_12, r156_15, r156_18, r156_19, r156_22, r156_23, r156_24, r156_27, r156_28, r156_29, r156_30, r156_33, r156_36, r156_37, r156_38, r156_41, r156_42, r156_45, r156_46, r156_47, r156_50, r156_51, r156_52, r156_55, r156_56, r156_57, r156_60, r156_61, r156_62, r156_65, r156_66, r156_67, r156_68, r156_71, r156_72, r156_75, r156_76, r156_77, r156_80, r156_81, r156_82, r156_85, r156_88, r156_89, r156_92, r156_93, r156_96, r156_97, r156_100, r156_101, r156_104, r156_105, r156_108, r156_109, r156_113, r156_116, r156_119, r156_120, r156_121, r156_124, r156_127, r156_128, r156_131, r156_134, r156_135, r156_136, r156_139, r156_142, r156_143, r156_146, r156_149, r156_150, r156_153, r156_156, r156_157, r156_160, r156_163, r156_164, r156_167, r156_168, r156_171, r156_174, r156_175, r156_178, r156_179, r156_180, r156_183, r156_186, r156_187, r156_190, r156_191, r156_192, r156_193, r156_196, r156_199, r156_200, r156_203, r156_204, r156_207, r156_208, r156_209, r156_212, r156_213, r156_214, r156_217, r156_218, r156_219, r156_220, r156_221, r156_224, r156_225, r156_228, r156_229, r156_230, r156_231, r156_234, r156_237, r156_238, r155_0, r155_1, r155_4, r155_5, r155_6, r155_7, r155_8, r155_11, r155_12, r155_13, r155_14, r155_15, r155_18, r155_19, r155_20, r155_21, r155_22, r155_25, r155_26, r155_27, r155_28, r155_29, r155_32, r155_33, r155_34, r155_35, r155_36, r155_39, r155_40, r155_41, r155_42, r155_43, r155_44, r155_45, r155_46, r155_49, r155_50, r155_53, r155_54, r155_55, r155_56, r155_57, r155_58, r155_59, r155_60, r155_61, r155_64, r155_65, r155_66, r155_67, r155_68, r155_69, r155_70, r155_71, r155_74, r155_77, tg_81, ln_81, tg_88, ln_88, tg_91, ln_91, tg_94, ln_94, tg_96, ln_96, tg_98, ln_98, tg_99, ln_99, tg_100, ln_100, y18, vs, v0, v1, v2, v3]
    refine hQ _ M' m _ ⟨?_, ?_, ⟨?_, ?_, ?_, ?_, ?_, ?_⟩, ?_, ?_, ?_, ?_, ?_, ⟨?_, ?_, ?_⟩, fun j hj => ?_⟩ fl (fun j hj => ?_) hm
    · repeat' (first | exact fr | first | (refine FRM_v ?_ (Or.inl (np_4 (by omega)))) | (refine FRM_v ?_ (Or.inl (np_81 (sd := 0) (by decide)))) | (refine FRM_v ?_ (Or.inl (np_88 (sd := 0) (by decide)))) | (refine FRM_v ?_ (Or.inl (np_91 (sd := 0) (by decide)))) | (refine FRM_v ?_ (Or.inl (np_94 (sd := 0) (by decide)))) | (refine FRM_v ?_ (Or.inl (np_96 (sd := 0) (by decide)))) | (refine FRM_v ?_ (Or.inl (np_98 (sd := 0) (by decide)))) | (refine FRM_v ?_ (Or.inl (np_99 (sd := 0) (k := 0) (by decide) (by decide) (by decide)))) | (refine FRM_v ?_ (Or.inl (np_99 (sd := 0) (k := 1) (by decide) (by decide) (by decide)))) | (refine FRM_v ?_ (Or.inl (np_99 (sd := 0) (k := 2) (by decide) (by decide) (by decide)))) | (refine FRM_v ?_ (Or.inl (np_99 (sd := 0) (k := 3) (by decide) (by decide) (by decide)))))
    · simp (config := { decide := true }) only [up2_s, up2_n, upr_s, upr_n, ne_eq, not_false_eq_true, Nat.reduceAdd]; first | done | exact x2 | rfl
    · simp (config := { decide := true }) only [up2_s, up2_n, upr_s, upr_n, ne_eq, not_false_eq_true, Nat.reduceAdd]; first | done | exact x2 | rfl
    · simp (config := { decide := true }) only [up2_s, up2_n, upr_s, upr_n, ne_eq, not_false_eq_true, Nat.reduceAdd]; first | done | exact x2 | rfl
    · simp (config := { decide := true }) only [up2_s, up2_n, upr_s, upr_n, ne_eq, not_false_eq_true, Nat.reduceAdd]; first | done | exact x2 | rfl
    · simp (config := { decide := true }) only [up2_s, up2_n, upr_s, upr_n, ne_eq, not_false_eq_true, Nat.reduceAdd]; first | done | exact x2 | rfl
    · simp (config := { decide := true }) only [up2_s, up2_n, upr_s, upr_n, ne_eq, not_false_eq_true, Nat.reduceAdd]; first | done | exact x2 | rfl
    · simp (config := { decide := true }) only [up2_s, up2_n, upr_s, upr_n, ne_eq, not_false_eq_true, Nat.reduceAdd]; first | done | exact x2 | rfl
    · simp (config := { decide := true }) only [up2_s, up2_n, upr_s, upr_n, ne_eq, not_false_eq_true, Nat.reduceAdd]; first | done | exact x2 | rfl
    · simp (config := { decide := true }) only [up2_s, up2_n, upr_s, upr_n, ne_eq, not_false_eq_true, Nat.reduceAdd]; first | done | exact x2 | rfl
    · simp (config := { decide := true }) only [up2_s, up2_n, upr_s, upr_n, ne_eq, not_false_eq_true, Nat.reduceAdd]; first | done | exact x2 | rfl
    · simp (config := { decide := true }) only [up2_s, up2_n, upr_s, upr_n, ne_eq, not_false_eq_true, Nat.reduceAdd]; first | done | exact x2 | rfl
    · simp (config := { decide := true }) only [up2_s, up2_n, upr_s, upr_n, ne_eq, not_false_eq_true, Nat.reduceAdd]; first | done | exact x2 | rfl
    · simp (config := { decide := true }) only [up2_s, up2_n, upr_s, upr_n, ne_eq, not_false_eq_true, Nat.reduceAdd]; first | done | exact x2 | rfl
    · simp (config := { decide := true }) only [up2_s, up2_n, upr_s, upr_n, ne_eq, not_false_eq_true, Nat.reduceAdd]; first | done | exact x2 | rfl
    · simp (config := { decide := true }) only [up2_s, up2_n, upr_s, upr_n, ne_eq, not_false_eq_true, Nat.reduceAdd]; first | done | exact x2 | rfl
    · have k4 : j = 0 ∨ j = 1 ∨ j = 2 ∨ j = 3 := by omega
      rcases k4 with rfl | rfl | rfl | rfl <;> simp (config := { decide := true }) only [up2_s, up2_n, upr_s, upr_n, ne_eq, not_false_eq_true, Nat.reduceAdd, Nat.reduceMul]
    · have q := hTk j hj
      unfold TKM at q ⊢
      simp (config := { decide := true }) only [up2_s, up2_n, upr_s, upr_n, ne_eq, not_false_eq_true, Nat.reduceAdd]
      exact q
