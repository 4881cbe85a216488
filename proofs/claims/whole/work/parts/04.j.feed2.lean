/-! feed, as a pair -/
theorem A4_n {I : AI} {k a : Nat} {w : Int32} (h1 : a ≠ 1) (h2 : a ≠ 2) : A4 I k w a = I a := by unfold A4; rw [upr_n h1, upr_n h2]
theorem A4_2 {I : AI} {k : Nat} {w : Int32} : A4 I k w 2 = t4 (I 2) k w := by unfold A4; rw [upr_n (by decide), upr_s]
theorem A4_1 {I : AI} {k : Nat} {w : Int32} : A4 I k w 1 5 = nI (k + 4) := by unfold A4; rw [upr_s, upr_s]
theorem B4_n {I : AI} {k a : Nat} {w : Int32} (h1 : a ≠ 70) (h2 : a ≠ 71) : B4 I k w a = I a := by unfold B4; rw [upr_n h1, upr_n h2]
theorem B4_71 {I : AI} {k : Nat} {w : Int32} : B4 I k w 71 = t4 (I 71) k w := by unfold B4; rw [upr_n (by decide), upr_s]
theorem B4_2 {I : AI} {k : Nat} {w : Int32} : B4 I k w 70 2 = nI (k + 4) := by unfold B4; rw [upr_s, upr_s]
theorem B4_70 {I : AI} {k j : Nat} {w : Int32} (h : j ≠ 2) : B4 I k w 70 j = I 70 j := by unfold B4; rw [upr_s, upr_n h]
theorem t4_b {f : Nat → Int32} {k : Nat} {w : Int32} (h : ∀ i, i < k → isB (f i)) : ∀ i, i < k + 4 → isB (t4 f k w i) := by
  intro i hi
  unfold t4
  by_cases e3 : i = k + 3
  · subst e3; rw [upr_s]; exact fb_byte_twice _
  rw [upr_n e3]
  by_cases e2 : i = k + 2
  · subst e2; rw [upr_s]; exact fb_byte_twice _
  rw [upr_n e2]
  by_cases e1 : i = k + 1
  · subst e1; rw [upr_s]; exact fb_byte_twice _
  rw [upr_n e1]
  by_cases e0 : i = k
  · subst e0; rw [upr_s]; exact fb_byte_twice _
  rw [upr_n e0]
  exact h i (by omega)
theorem p_feed {t : Nat} {u : Option Nat} {I : AI} {L : AL} {x1 x2 x3 x4 x5 : Int32} {B : Nat} (h : INV t u I L B) : PAIR 76 [.ref 0, .int x1, .int x2, .int x3, .int x4, .int x5] 139 [.ref 70, .int x1, .int x2, .int x3, .int x4, .int x5] t u I L B := by
  have h' := h
  obtain ⟨ht, hW, ⟨k, hk, k1, k2, k3⟩, hp, lv, np, nm, nl, nc, nd, Lw, hS, hD, hT⟩ := h'
  have f0 : nI k + 20 = nI (k + 20) := nI_add k 20
  by_cases hb : k + 20 ≤ 2000
  · have f1 : (nI (k + 20) ≤ 2000) = True := leT (b := 2000) (by omega) (by decide)
    have f2 : ((2000 : Int32) < nI (k + 20)) = False := ltF (a := 2000) (by omega) (by decide)
    refine ⟨.int (nI (k + 20)), fun I1 L1 t1 u1 => I1 = A4 (A4 (A4 (A4 (A4 I k x1) (k + 4) x2) (k + 8) x3) (k + 12) x4) (k + 16) x5 ∧ L = L1 ∧ t = t1 ∧ u = u1, ⟨⟨_, rfl⟩, fun _ _ _ _ hP => by rw [hP.1]; exact ⟨rfl, rfl⟩, fun Q hQ => ?_⟩, ?_⟩
    · have g1 := fun (Q : PQ) => f_addFour (t := t) (u := u) (L := L) (Q := Q) (I := I) (k := k) (w := x1) (by omega) k1
      have g2 := fun (Q : PQ) => f_addFour (t := t) (u := u) (L := L) (Q := Q) (I := A4 I k x1) (k := k + 4) (w := x2) (by omega) A4_1
      have g3 := fun (Q : PQ) => f_addFour (t := t) (u := u) (L := L) (Q := Q) (I := A4 (A4 I k x1) (k + 4) x2) (k := k + 8) (w := x3) (by omega) A4_1
      have g4 := fun (Q : PQ) => f_addFour (t := t) (u := u) (L := L) (Q := Q) (I := A4 (A4 (A4 I k x1) (k + 4) x2) (k + 8) x3) (k := k + 12) (w := x4) (by omega) A4_1
      have g5 := fun (Q : PQ) => f_addFour (t := t) (u := u) (L := L) (Q := Q) (I := A4 (A4 (A4 (A4 I k x1) (k + 4) x2) (k + 8) x3) (k + 12) x4) (k := k + 16) (w := x5) (by omega) A4_1
      simp (config := { decide := true }) only [↓reduceIte, KV_i, KV_v, wsm_0, wsm_i, wsm_l, wsm_r, dlV_i, dlV_r, dlV_l, dlV_j, cat_i, cat_l, cat_r, rf_s, true_and, and_true, and_self, if_true, if_false, ite_true, ite_false, eq_self, true_or, or_true, false_or, or_false, not_true_eq_false, not_false_eq_true, vn_0_45, vn_1_45, vn_2_45, vn_3_45, vn_4_45, vn_5_45, vn_6_45, vn_7_45, vn_8_45, vn_36_48, vn_37_48, vn_38_48, vn_39_48, vn_40_48, vn_41_48, vn_42_48, vn_43_48, vn_44_48, vn_0_9, vn_1_9, vn_2_9, vn_3_9, vn_4_9, vn_5_9, vn_6_9, vn_7_9, vn_8_9, vn_0_3, vn_1_3, vn_2_3, vn_0_4, vn_1_4, vn_2_4, vn_3_4, vn_0_64, vn_0_16, vn_0_400, vn_0_6, vn_0_14, Int32.reduceToNatClampNeg, Int32.reduceAdd, Int32.reduceSub, Int32.reduceMul, Int32.reduceLE, Int32.reduceLT, Nat.reduceAdd, nr_2, nr_30, nr_31, rd_2, rd_14, rd_71, rd_72, rd_101, rd_116, rd_121, up2_s, up2_n, upr_s, upr_n, ne_eq, not_false_eq_true, ob_0, ob_1, ob_7, ob_12, ob_17, ob_20, ob_23, ob_32, ob_46, ob_51, ob_65, rx_0_0, rx_0_1, rx_0_2, rx_0_3, rx_0_4, rx_0_5, rx_0_6, rx_0_7, rx_0_8, rx_0_9, rx_0_10, rx_1_0, rx_1_1, rx_1_2, rx_1_3, rx_1_4, rx_7_0, rx_7_1, rx_7_2, rx_7_3, rx_7_4, rx_12_0, rx_12_1, rx_12_2, rx_12_3, rx_17_0, rx_17_1, rx_20_0, rx_20_1, rx_23_0, rx_23_1, rx_23_2, rx_32_0, rx_32_1, rx_32_2, rx_32_3, rx_32_4, rx_32_5, rx_32_6, rx_32_7, rx_32_8, rx_32_9, rx_32_10, rx_32_11, rx_32_12, rx_32_13, rx_46_0, rx_46_1, rx_46_2, rx_46_3, rx_51_0, rx_51_1, rx_51_2, rx_51_3, rx_51_4, rx_51_5, rx_51_6, rx_51_7, rx_51_8, rx_51_9, rx_51_10, rx_51_11, rx_51_12, rx_51_13, rx_65_0, rx_65_1, rx_65_2, rx_65_3, rx_0_11, rx_0_12, rx_7_7, r76_0, r76_1, r76_4, r76_7, r76_9, r76_10, r76_13, r76_16, r76_17, r76_18, r76_19, r76_22, r76_23, r76_26, r76_27, r76_30, r76_31, r76_34, r76_35, r76_38, r76_39, r76_42, r76_43, r76_46, r76_48, r76_51, r76_52, r76_55, r76_57, r76_60, r76_61, r76_64, r76_67, k1, f0, f1, f2, g1, g2, g3, g4, g5, A4_1]
      exact hQ _ _ _ _ ⟨rfl, rfl, rfl, rfl⟩
    · rintro _ _ _ _ ⟨rfl, rfl, rfl, rfl⟩ Q hQ
      generalize hM : A4 (A4 (A4 (A4 (A4 I k x1) (k + 4) x2) (k + 8) x3) (k + 12) x4) (k + 16) x5 = M
      have keyM : ∀ a, a ≠ 1 → a ≠ 2 → M a = I a := fun a q1 q2 => by rw [← hM, A4_n q1 q2, A4_n q1 q2, A4_n q1 q2, A4_n q1 q2, A4_n q1 q2]
      have m2 : M 2 = t4 (t4 (t4 (t4 (t4 (I 2) k x1) (k + 4) x2) (k + 8) x3) (k + 12) x4) (k + 16) x5 := by rw [← hM, A4_2, A4_2, A4_2, A4_2, A4_2]
      have m1 : M 1 5 = nI (k + 20) := by rw [← hM, A4_1]
      have k2' : M 70 2 = nI k := by rw [keyM 70 (by decide) (by decide)]; exact k2
      clear hM
      have g1 := fun (Q : PQ) => f_put (t := t) (u := u) (L := L) (Q := Q) (I := M) (k := k) (w := x1) (by omega) k2'
      have g2 := fun (Q : PQ) => f_put (t := t) (u := u) (L := L) (Q := Q) (I := B4 M k x1) (k := k + 4) (w := x2) (by omega) B4_2
      have g3 := fun (Q : PQ) => f_put (t := t) (u := u) (L := L) (Q := Q) (I := B4 (B4 M k x1) (k + 4) x2) (k := k + 8) (w := x3) (by omega) B4_2
      have g4 := fun (Q : PQ) => f_put (t := t) (u := u) (L := L) (Q := Q) (I := B4 (B4 (B4 M k x1) (k + 4) x2) (k + 8) x3) (k := k + 12) (w := x4) (by omega) B4_2
      have g5 := fun (Q : PQ) => f_put (t := t) (u := u) (L := L) (Q := Q) (I := B4 (B4 (B4 (B4 M k x1) (k + 4) x2) (k + 8) x3) (k + 12) x4) (k := k + 16) (w := x5) (by omega) B4_2
      simp (config := { decide := true }) only [↓reduceIte, KV_i, KV_v, wsm_0, wsm_i, wsm_l, wsm_r, dlV_i, dlV_r, dlV_l, dlV_j, cat_i, cat_l, cat_r, rf_s, true_and, and_true, and_self, if_true, if_false, ite_true, ite_false, eq_self, true_or, or_true, false_or, or_false, not_true_eq_false, not_false_eq_true, vn_0_45, vn_1_45, vn_2_45, vn_3_45, vn_4_45, vn_5_45, vn_6_45, vn_7_45, vn_8_45, vn_36_48, vn_37_48, vn_38_48, vn_39_48, vn_40_48, vn_41_48, vn_42_48, vn_43_48, vn_44_48, vn_0_9, vn_1_9, vn_2_9, vn_3_9, vn_4_9, vn_5_9, vn_6_9, vn_7_9, vn_8_9, vn_0_3, vn_1_3, vn_2_3, vn_0_4, vn_1_4, vn_2_4, vn_3_4, vn_0_64, vn_0_16, vn_0_400, vn_0_6, vn_0_14, Int32.reduceToNatClampNeg, Int32.reduceAdd, Int32.reduceSub, Int32.reduceMul, Int32.reduceLE, Int32.reduceLT, Nat.reduceAdd, nr_2, nr_30, nr_31, rd_2, rd_14, rd_71, rd_72, rd_101, rd_116, rd_121, up2_s, up2_n, upr_s, upr_n, ne_eq, not_false_eq_true, ob_70, rx_70_1, rx_70_3, rx_70_5, rx_70_6, rx_70_7, rx_70_8, rx_70_9, rx_70_21, rx_70_22, rx_70_23, rx_70_24, rx_70_25, rx_70_26, rx_70_27, rx_70_28, rx_70_29, rx_70_30, rx_70_31, rx_70_32, rx_70_33, rx_70_34, rx_70_35, rx_70_36, rx_70_37, rx_70_38, rx_70_39, rx_70_40, rx_70_41, rx_70_42, rx_70_43, rx_70_45, rx_70_46, rx_70_47, rx_70_48, rx_70_49, rx_70_51, rx_70_52, rx_70_53, rx_70_55, rx_70_56, rx_70_58, rx_70_59, rx_70_60, rx_70_61, rx_70_63, rx_70_64, rx_70_65, rx_70_70, rx_70_71, rx_70_72, rx_70_73, rx_70_74, r139_0, r139_1, r139_4, r139_6, r139_7, r139_10, r139_13, r139_14, r139_15, r139_16, r139_17, r139_20, r139_21, r139_22, r139_25, r139_26, r139_27, r139_30, r139_31, r139_33, r139_36, r139_37, r139_39, r139_42, r139_43, r139_46, k2', f0, f1, f2, g1, g2, g3, g4, g5, B4_2]
      clear g1 g2 g3 g4 g5
      generalize hN : B4 (B4 (B4 (B4 (B4 M k x1) (k + 4) x2) (k + 8) x3) (k + 12) x4) (k + 16) x5 = N
      have keyN : ∀ a, a ≠ 70 → a ≠ 71 → N a = M a := fun a q1 q2 => by rw [← hN, B4_n q1 q2, B4_n q1 q2, B4_n q1 q2, B4_n q1 q2, B4_n q1 q2]
      have n71 : N 71 = t4 (t4 (t4 (t4 (t4 (M 71) k x1) (k + 4) x2) (k + 8) x3) (k + 12) x4) (k + 16) x5 := by rw [← hN, B4_71, B4_71, B4_71, B4_71, B4_71]
      have n70 : ∀ j, j ≠ 2 → N 70 j = M 70 j := fun j q => by rw [← hN, B4_70 q, B4_70 q, B4_70 q, B4_70 q, B4_70 q]
      have n2 : N 70 2 = nI (k + 20) := by rw [← hN, B4_2]
      clear hN
      have key : ∀ a, a ≠ 1 → a ≠ 2 → a ≠ 70 → a ≠ 71 → N a = I a := fun a q1 q2 q3 q4 => by rw [keyN a q3 q4, keyM a q1 q2]
      have k70 : ∀ j, j ≠ 2 → N 70 j = I 70 j := fun j q => by rw [n70 j q, keyM 70 (by decide) (by decide)]
      refine hQ _ _ _ _ (INV_up ⟨ht, hW, ⟨k + 20, hb, by rw [keyN 1 (by decide) (by decide)]; exact m1, n2, fun i hi => ?_⟩, by rw [key 0 (by decide) (by decide) (by decide) (by decide), k70 17 (by decide)]; exact hp, lv, np, nm, nl, nc, nd, Lw, STX_c (fun a ha => key a (by omega) (by omega) (by omega) (by omega)) (k70 18 (by decide)) hS, DYN_c (fun a ha => key a (by omega) (by omega) (by omega) (by omega)) (k70 62 (by decide)) hD, TOLD_c (fun a ha => key a (by omega) (by omega) (by omega) (by omega)) (by rw [key 0 (by decide) (by decide) (by decide) (by decide)]) (k70 69 (by decide)) hT⟩) (key 1000 (by decide) (by decide) (by decide) (by decide)) (key 1001 (by decide) (by decide) (by decide) (by decide))
      rw [n71, keyN 2 (by decide) (by decide), m2, keyM 71 (by decide) (by decide)]
      exact ⟨t4_c (t4_c (t4_c (t4_c (t4_c (fun i hi => (k3 i hi).1))))) i hi, t4_b (t4_b (t4_b (t4_b (t4_b (fun i hi => (k3 i hi).2))))) i hi⟩
  · have f1 : (nI (k + 20) ≤ 2000) = False := leF (b := 2000) (by omega) (by omega)
    have f2 : ((2000 : Int32) < nI (k + 20)) = True := ltT (a := 2000) (by omega) (by omega)
    refine PAIR_ro (.int (-1)) h (fun Q hQ => ?_) (fun Q hQ => ?_)
    · simp (config := { decide := true }) only [↓reduceIte, KV_i, KV_v, wsm_0, wsm_i, wsm_l, wsm_r, dlV_i, dlV_r, dlV_l, dlV_j, cat_i, cat_l, cat_r, rf_s, true_and, and_true, and_self, if_true, if_false, ite_true, ite_false, eq_self, true_or, or_true, false_or, or_false, not_true_eq_false, not_false_eq_true, vn_0_45, vn_1_45, vn_2_45, vn_3_45, vn_4_45, vn_5_45, vn_6_45, vn_7_45, vn_8_45, vn_36_48, vn_37_48, vn_38_48, vn_39_48, vn_40_48, vn_41_48, vn_42_48, vn_43_48, vn_44_48, vn_0_9, vn_1_9, vn_2_9, vn_3_9, vn_4_9, vn_5_9, vn_6_9, vn_7_9, vn_8_9, vn_0_3, vn_1_3, vn_2_3, vn_0_4, vn_1_4, vn_2_4, vn_3_4, vn_0_64, vn_0_16, vn_0_400, vn_0_6, vn_0_14, Int32.reduceToNatClampNeg, Int32.reduceAdd, Int32.reduceSub, Int32.reduceMul, Int32.reduceLE, Int32.reduceLT, Nat.reduceAdd, nr_2, nr_30, nr_31, rd_2, rd_14, rd_71, rd_72, rd_101, rd_116, rd_121, up2_s, up2_n, upr_s, upr_n, ne_eq, not_false_eq_true, ob_0, ob_1, ob_7, ob_12, ob_17, ob_20, ob_23, ob_32, ob_46, ob_51, ob_65, rx_0_0, rx_0_1, rx_0_2, rx_0_3, rx_0_4, rx_0_5, rx_0_6, rx_0_7, rx_0_8, rx_0_9, rx_0_10, rx_1_0, rx_1_1, rx_1_2, rx_1_3, rx_1_4, rx_7_0, rx_7_1, rx_7_2, rx_7_3, rx_7_4, rx_12_0, rx_12_1, rx_12_2, rx_12_3, rx_17_0, rx_17_1, rx_20_0, rx_20_1, rx_23_0, rx_23_1, rx_23_2, rx_32_0, rx_32_1, rx_32_2, rx_32_3, rx_32_4, rx_32_5, rx_32_6, rx_32_7, rx_32_8, rx_32_9, rx_32_10, rx_32_11, rx_32_12, rx_32_13, rx_46_0, rx_46_1, rx_46_2, rx_46_3, rx_51_0, rx_51_1, rx_51_2, rx_51_3, rx_51_4, rx_51_5, rx_51_6, rx_51_7, rx_51_8, rx_51_9, rx_51_10, rx_51_11, rx_51_12, rx_51_13, rx_65_0, rx_65_1, rx_65_2, rx_65_3, rx_0_11, rx_0_12, rx_7_7, r76_0, r76_1, r76_4, r76_7, r76_9, r76_10, r76_13, r76_16, r76_17, r76_18, r76_19, r76_22, r76_23, r76_26, r76_27, r76_30, r76_31, r76_34, r76_35, r76_38, r76_39, r76_42, r76_43, r76_46, r76_48, r76_51, r76_52, r76_55, r76_57, r76_60, r76_61, r76_64, r76_67, k1, f0, f1, f2]
      exact hQ
    · simp (config := { decide := true }) only [↓reduceIte, KV_i, KV_v, wsm_0, wsm_i, wsm_l, wsm_r, dlV_i, dlV_r, dlV_l, dlV_j, cat_i, cat_l, cat_r, rf_s, true_and, and_true, and_self, if_true, if_false, ite_true, ite_false, eq_self, true_or, or_true, false_or, or_false, not_true_eq_false, not_false_eq_true, vn_0_45, vn_1_45, vn_2_45, vn_3_45, vn_4_45, vn_5_45, vn_6_45, vn_7_45, vn_8_45, vn_36_48, vn_37_48, vn_38_48, vn_39_48, vn_40_48, vn_41_48, vn_42_48, vn_43_48, vn_44_48, vn_0_9, vn_1_9, vn_2_9, vn_3_9, vn_4_9, vn_5_9, vn_6_9, vn_7_9, vn_8_9, vn_0_3, vn_1_3, vn_2_3, vn_0_4, vn_1_4, vn_2_4, vn_3_4, vn_0_64, vn_0_16, vn_0_400, vn_0_6, vn_0_14, Int32.reduceToNatClampNeg, Int32.reduceAdd, Int32.reduceSub, Int32.reduceMul, Int32.reduceLE, Int32.reduceLT, Nat.reduceAdd, nr_2, nr_30, nr_31, rd_2, rd_14, rd_71, rd_72, rd_101, rd_116, rd_121, up2_s, up2_n, upr_s, upr_n, ne_eq, not_false_eq_true, ob_70, rx_70_1, rx_70_3, rx_70_5, rx_70_6, rx_70_7, rx_70_8, rx_70_9, rx_70_21, rx_70_22, rx_70_23, rx_70_24, rx_70_25, rx_70_26, rx_70_27, rx_70_28, rx_70_29, rx_70_30, rx_70_31, rx_70_32, rx_70_33, rx_70_34, rx_70_35, rx_70_36, rx_70_37, rx_70_38, rx_70_39, rx_70_40, rx_70_41, rx_70_42, rx_70_43, rx_70_45, rx_70_46, rx_70_47, rx_70_48, rx_70_49, rx_70_51, rx_70_52, rx_70_53, rx_70_55, rx_70_56, rx_70_58, rx_70_59, rx_70_60, rx_70_61, rx_70_63, rx_70_64, rx_70_65, rx_70_70, rx_70_71, rx_70_72, rx_70_73, rx_70_74, r139_0, r139_1, r139_4, r139_6, r139_7, r139_10, r139_13, r139_14, r139_15, r139_16, r139_17, r139_20, r139_21, r139_22, r139_25, r139_26, r139_27, r139_30, r139_31, r139_33, r139_36, r139_37, r139_39, r139_42, r139_43, r139_46, k2, f0, f1, f2]
      exact hQ
