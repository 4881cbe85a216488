/-! the constructors, whole -/
theorem lk_tok {I : AI} {L : AL} {R : AR} {Q : PQ} (hR : R 1 4 = some 6) : ∀ m i (X3 : Value), i + m = 120 → V 58 52 [.ref 1, .int (nI (wsE i)), .int (nI i), X3] [] 8 I (upr L 6 (fun j => lN (wdE i j))) R Q = Q none 8 I (upr L 6 (fun j => lN (wdE 120 j))) R := by
  intro m
  induction m with
  | zero =>
    intro i X3 hi
    obtain rfl : i = 120 := by omega
    have e1 : ((120 : Int32) ≤ nI 120) = True := eq_true (by decide)
    have o4 := ob_x4 (n := 8) (by decide)
    rw [r58_52]
    simp (config := { decide := true, maxDischargeDepth := 20 }) only [↓reduceIte, ip_123, KV_i, KV_v, wsm_0, wsm_i, wsm_l, wsm_r, dlV_i, dlV_r, dlV_l, dlV_j, cat_i, cat_l, cat_r, rf_s, true_and, and_true, and_self, if_true, if_false, ite_true, ite_false, eq_self, true_or, or_true, false_or, or_false, not_true_eq_false, not_false_eq_true, ip_ge, pm_ge, ipk_0, pmk_0, ipk_1, pmk_1, ipk_2, pmk_2, ipk_3, pmk_3, ipk_4, pmk_4, ipk_5, pmk_5, ipk_6, pmk_6, ipk_7, pmk_7, r58_53, r58_55, r58_58, r58_108, k_len, e1, o4]
  | succ m ih =>
    intro i X3 hi
    have e1 : ((120 : Int32) ≤ nI i) = False := leF (a := 120) (b := i) (by omega) (by omega)
    have o4 := ob_x4 (n := 8) (by decide)
    have w := wb_f i (by omega)
    have ch := fun Q2 : PQ => k_char (I := I) (L := upr L 6 (fun j => lN (wdE i j))) (R := R) (Q := Q2) (i := i) (by omega)
    have g2 := nI_1 i
    by_cases z : wbN i = 32
    · have z1 : (nI 32 = (32 : Int32)) = True := eq_true rfl
      have g1 := nI_1 (wsE i)
      have ew : wsE i + 1 = wsE (i + 1) := by show _ = wsE i + (if wbN i = 32 then 1 else 0); rw [if_pos z]
      have ed : (fun j => lN (wdE (i + 1) j)) = (fun j => lN (wdE i j)) := by
        funext j
        show lN (if wbN i ≠ 32 ∧ j = wsE i then 32 * wdE i j + (wbN i - 96) else wdE i j) = _
        rw [if_neg (fun q => q.1 z)]
      have i1 := ih (i + 1) (.int (nI 32)) (by omega)
      rw [ed, ← ew] at i1
      rw [r58_52]
      simp (config := { decide := true, maxDischargeDepth := 20 }) only [↓reduceIte, ip_123, KV_i, KV_v, wsm_0, wsm_i, wsm_l, wsm_r, dlV_i, dlV_r, dlV_l, dlV_j, cat_i, cat_l, cat_r, rf_s, true_and, and_true, and_self, if_true, if_false, ite_true, ite_false, eq_self, true_or, or_true, false_or, or_false, not_true_eq_false, not_false_eq_true, ip_ge, pm_ge, ipk_0, pmk_0, ipk_1, pmk_1, ipk_2, pmk_2, ipk_3, pmk_3, ipk_4, pmk_4, ipk_5, pmk_5, ipk_6, pmk_6, ipk_7, pmk_7, r58_0, r58_1, r58_4, r58_5, r58_8, r58_10, r58_13, r58_14, r58_17, r58_19, r58_22, r58_23, r58_26, r58_28, r58_31, r58_32, r58_35, r58_37, r58_40, r58_41, r58_43, r58_45, r58_48, r58_49, r58_50, r58_51, r58_53, r58_55, r58_58, r58_61, r58_63, r58_64, r58_67, r58_68, r58_69, r58_71, r58_74, r58_77, r58_80, r58_81, r58_83, r58_86, r58_87, r58_90, r58_91, r58_92, r58_95, r58_96, r58_97, r58_98, r58_101, r58_102, r58_105, r58_108, k_len, ch, e1, o4, z, z1, g1, g2]
      exact i1
    · have z1 : (nI (wbN i) = (32 : Int32)) = False := eq_false (fun q => z ((nI_eq (a := wbN i) (b := 32) (by omega) (by decide)).mp q))
      have r := w.2.1.resolve_left z
      have z2 : ((23 : Int32) ≤ nI (wsE i)) = False := leF (a := 23) (b := wsE i) (by omega) (by omega)
      have x1 := inT (a := wsE i) (N := 23) (by omega) (by decide)
      have x2 := nI_clamp (n := wsE i) (by omega)
      have es : nI (wbN i) = sxI (wbN i) := by unfold sxI; rw [if_pos (by omega)]
      have kw := fun (L2 : AL) (Q2 : PQ) => c_with (n := 8) (e := wdE i (wsE i)) (b := wbN i) (J := I) (L := L2) (R := R) (Q := Q2) r.1 r.2
      rw [← es] at kw
      have ew : wsE i = wsE (i + 1) := by show _ = wsE i + (if wbN i = 32 then 1 else 0); rw [if_neg z]; rfl
      have ed : upr (fun j => lN (wdE i j)) (wsE i) (lN (32 * wdE i (wsE i) + (wbN i - 96))) = (fun j => lN (wdE (i + 1) j)) := by
        funext j
        show _ = lN (if wbN i ≠ 32 ∧ j = wsE i then 32 * wdE i j + (wbN i - 96) else wdE i j)
        by_cases ej : j = wsE i
        · subst ej
          rw [upr_s, if_pos ⟨z, rfl⟩]
        · rw [upr_n ej, if_neg (fun q => ej q.2)]
      have i1 := ih (i + 1) (.int (nI (wbN i))) (by omega)
      rw [← ew] at i1
      have t6 := tq_6 (n := 8) (by decide)
      have l6 := lq_6 (n := 8) (I := I) (by decide)
      have o1 := oq_1 (n := 8) (by decide)
      rw [r58_52]
      simp (config := { decide := true, maxDischargeDepth := 20 }) only [↓reduceIte, ip_123, KV_i, KV_v, wsm_0, wsm_i, wsm_l, wsm_r, dlV_i, dlV_r, dlV_l, dlV_j, cat_i, cat_l, cat_r, rf_s, true_and, and_true, and_self, if_true, if_false, ite_true, ite_false, eq_self, true_or, or_true, false_or, or_false, not_true_eq_false, not_false_eq_true, ip_ge, pm_ge, ipk_0, pmk_0, ipk_1, pmk_1, ipk_2, pmk_2, ipk_3, pmk_3, ipk_4, pmk_4, ipk_5, pmk_5, ipk_6, pmk_6, ipk_7, pmk_7, r58_0, r58_1, r58_4, r58_5, r58_8, r58_10, r58_13, r58_14, r58_17, r58_19, r58_22, r58_23, r58_26, r58_28, r58_31, r58_32, r58_35, r58_37, r58_40, r58_41, r58_43, r58_45, r58_48, r58_49, r58_50, r58_51, r58_53, r58_55, r58_58, r58_61, r58_63, r58_64, r58_67, r58_68, r58_69, r58_71, r58_74, r58_77, r58_80, r58_81, r58_83, r58_86, r58_87, r58_90, r58_91, r58_92, r58_95, r58_96, r58_97, r58_98, r58_101, r58_102, r58_105, r58_108, k_len, ch, kw, e1, o4, o1, z1, z2, g2, t6, l6, x1, x2, hR, upr_s, ua2, ed]
      exact i1
theorem k_tokens {I : AI} {L : AL} {R : AR} {Q : PQ} (hI : ∀ c, 1 < c → c < 7 → I c = fun _ => 0) (hL : ∀ c, 1 < c → c < 7 → L c = fun _ => 0) : V 58 0 [.ref 1, .retAddr 0, .retAddr 0, .retAddr 0] [] 3 I L R Q = Q none 8 I (upr L 6 (fun j => lN (wdE 120 j))) (RC R [(1, 0, 2), (1, 1, 3), (1, 2, 4), (1, 3, 5), (1, 4, 6)]) := by
  have e := lk_tok (I := I) (L := L) (R := RC R [(1, 0, 2), (1, 1, 3), (1, 2, 4), (1, 3, 5), (1, 4, 6)]) (Q := Q) rfl 120 0 (.retAddr 0) (by omega)
  have e0 : upr L 6 (fun j => lN (wdE 0 j)) = L := uz (hL 6 (by decide) (by decide))
  have z0 : (nI 0 : Int32) = 0 := rfl
  rw [e0, show wsE 0 = 0 from rfl, z0] at e
  rw [← e]
  simp (config := { decide := true, maxDischargeDepth := 20 }) only [↓reduceIte, ip_123, KV_i, KV_v, wsm_0, wsm_i, wsm_l, wsm_r, dlV_i, dlV_r, dlV_l, dlV_j, cat_i, cat_l, cat_r, rf_s, true_and, and_true, and_self, if_true, if_false, ite_true, ite_false, eq_self, true_or, or_true, false_or, or_false, not_true_eq_false, not_false_eq_true, ip_ge, pm_ge, ipk_0, pmk_0, ipk_1, pmk_1, ipk_2, pmk_2, ipk_3, pmk_3, ipk_4, pmk_4, ipk_5, pmk_5, ipk_6, pmk_6, ipk_7, pmk_7, at_0, at_1, at_2, at_3, Int32.reduceToNatClampNeg, Int32.reduceLT, Int32.reduceLE, Int32.reduceAdd, Nat.reduceAdd, Nat.reduceLT, uz, uq, up2_n, up2_s, upr_n, upr_s, ne_eq, not_false_eq_true, sh_1, sh_2, sh_3, sh_4, sh_5, sh_6, oq_1, r58_0, r58_1, r58_4, r58_5, r58_8, r58_10, r58_13, r58_14, r58_17, r58_19, r58_22, r58_23, r58_26, r58_28, r58_31, r58_32, r58_35, r58_37, r58_40, r58_41, r58_43, r58_45, r58_48, r58_49, r58_50, r58_51, r58_53, r58_55, r58_58, r58_61, r58_63, r58_64, r58_67, r58_68, r58_69, r58_71, r58_74, r58_77, r58_80, r58_81, r58_83, r58_86, r58_87, r58_90, r58_91, r58_92, r58_95, r58_96, r58_97, r58_98, r58_101, r58_102, r58_105, r58_108, hI, hL]
  rfl
theorem k_reader {I : AI} {L : AL} {R : AR} {Q : PQ} (hI : ∀ c, 0 < c → c < 12 → c ≠ 7 → I c = fun _ => 0) (hL : ∀ c, 0 < c → c < 12 → c ≠ 7 → L c = fun _ => 0) (hR1 : R 1 = fun _ => none) : V 28 0 [.ref 7] [] 2 I L R Q = Q none 12 (up2 I 7 10 (-1)) (upr L 6 (fun j => lN (wdE 120 j))) (RC R [(1, 0, 2), (1, 1, 3), (1, 2, 4), (1, 3, 5), (1, 4, 6), (7, 0, 1), (7, 1, 8), (7, 2, 9), (7, 3, 10), (7, 4, 11)]) := by
  have kt := fun (Q2 : PQ) => k_tokens (I := I) (L := L) (R := R) (Q := Q2) (fun c h1 h2 => hI c (by omega) (by omega) (by omega)) (fun c h1 h2 => hL c (by omega) (by omega) (by omega))
  simp (config := { decide := true, maxDischargeDepth := 20 }) only [↓reduceIte, ip_123, KV_i, KV_v, wsm_0, wsm_i, wsm_l, wsm_r, dlV_i, dlV_r, dlV_l, dlV_j, cat_i, cat_l, cat_r, rf_s, true_and, and_true, and_self, if_true, if_false, ite_true, ite_false, eq_self, true_or, or_true, false_or, or_false, not_true_eq_false, not_false_eq_true, ip_ge, pm_ge, ipk_0, pmk_0, ipk_1, pmk_1, ipk_2, pmk_2, ipk_3, pmk_3, ipk_4, pmk_4, ipk_5, pmk_5, ipk_6, pmk_6, ipk_7, pmk_7, at_0, at_1, at_2, at_3, Int32.reduceToNatClampNeg, Int32.reduceLT, Int32.reduceLE, Int32.reduceAdd, Nat.reduceAdd, Nat.reduceLT, uz, uq, up2_n, up2_s, upr_n, upr_s, ne_eq, not_false_eq_true, sh_1, sh_2, sh_3, sh_4, sh_5, sh_6, sh_7, sh_8, sh_9, sh_10, sh_11, oq_1, oq_7, r28_0, r28_1, r28_4, r28_5, r28_8, r28_9, r28_12, r28_15, r28_16, r28_18, r28_20, r28_23, r28_24, r28_26, r28_28, r28_31, r28_32, r28_34, r28_36, r28_39, r28_40, r28_42, r28_44, r28_47, r28_48, r28_49, r28_52, hI, hL, hR1, kt]
  rfl
theorem k_ws_0 {I : AI} {L : AL} {R : AR} {Q : PQ} (r0 : R 46 0 = some 47) (r3 : R 46 3 = some 50) (h : I 46 4 = nI 0) : V 19 0 [.ref 46, .int 0, .int 0] [] 70 I L R Q = Q none 70 (wsM I 32 0 0 (0)) L R := by
  have n0 : (nI 0 : Int32) = 0 := rfl
  have n1 : (nI (0 + 1) : Int32) = 1 := rfl
  have n2 : (nI (0 + 2) : Int32) = 2 := rfl
  rw [n0] at h
  have v0 : vp_in (0 : Int32) 408 = True := inT (a := 0) (N := 408) (by decide) (by decide)
  have v1 : vp_in (1 : Int32) 408 = True := inT (a := 1) (N := 408) (by decide) (by decide)
  have v3 : vp_in (0 : Int32) 4 = True := inT (a := 0) (N := 4) (by decide) (by decide)
  have t47 := tq_47 (n := 70) (by decide)
  have t50 := tq_50 (n := 70) (by decide)
  have l47 := fun I : AI => lq_47 (n := 70) (I := I) (by decide)
  have l50 := fun I : AI => lq_50 (n := 70) (I := I) (by decide)
  have o46 := oq_46 (n := 70) (by decide)
  unfold wsM
  rw [n0, n1, n2]
  simp (config := { decide := true }) only [↓reduceIte, ip_123, KV_i, KV_v, wsm_0, wsm_i, wsm_l, wsm_r, dlV_i, dlV_r, dlV_l, dlV_j, cat_i, cat_l, cat_r, rf_s, true_and, and_true, and_self, if_true, if_false, ite_true, ite_false, eq_self, true_or, or_true, false_or, or_false, not_true_eq_false, not_false_eq_true, ip_ge, pm_ge, ipk_0, pmk_0, ipk_1, pmk_1, ipk_2, pmk_2, ipk_3, pmk_3, ipk_4, pmk_4, ipk_5, pmk_5, ipk_6, pmk_6, ipk_7, pmk_7, up2_s, up2_n, upr_s, upr_n, ne_eq, not_false_eq_true, Nat.reduceAdd, Int32.reduceToNatClampNeg, Int32.reduceLE, Int32.reduceAdd, r19_0, r19_1, r19_4, r19_5, r19_6, r19_9, r19_10, r19_11, r19_12, r19_15, r19_16, r19_18, r19_21, r20_0, r20_1, r20_4, r20_7, r20_10, r20_11, r20_14, r20_15, r20_18, r20_19, r20_20, r20_21, r20_22, r20_25, r20_26, r20_27, r20_30, h, v0, v1, v3, t47, t50, l47, l50, o46, r0, r3]
theorem k_ws_1 {I : AI} {L : AL} {R : AR} {Q : PQ} (r0 : R 46 0 = some 47) (r3 : R 46 3 = some 50) (h : I 46 4 = nI 2) : V 19 0 [.ref 46, .int 1, .int (-4)] [] 70 I L R Q = Q none 70 (wsM I 32 1 2 (-4)) L R := by
  have n0 : (nI 2 : Int32) = 2 := rfl
  have n1 : (nI (2 + 1) : Int32) = 3 := rfl
  have n2 : (nI (2 + 2) : Int32) = 4 := rfl
  rw [n0] at h
  have v0 : vp_in (2 : Int32) 408 = True := inT (a := 2) (N := 408) (by decide) (by decide)
  have v1 : vp_in (3 : Int32) 408 = True := inT (a := 3) (N := 408) (by decide) (by decide)
  have v3 : vp_in (1 : Int32) 4 = True := inT (a := 1) (N := 4) (by decide) (by decide)
  have t47 := tq_47 (n := 70) (by decide)
  have t50 := tq_50 (n := 70) (by decide)
  have l47 := fun I : AI => lq_47 (n := 70) (I := I) (by decide)
  have l50 := fun I : AI => lq_50 (n := 70) (I := I) (by decide)
  have o46 := oq_46 (n := 70) (by decide)
  unfold wsM
  rw [n0, n1, n2]
  simp (config := { decide := true }) only [↓reduceIte, ip_123, KV_i, KV_v, wsm_0, wsm_i, wsm_l, wsm_r, dlV_i, dlV_r, dlV_l, dlV_j, cat_i, cat_l, cat_r, rf_s, true_and, and_true, and_self, if_true, if_false, ite_true, ite_false, eq_self, true_or, or_true, false_or, or_false, not_true_eq_false, not_false_eq_true, ip_ge, pm_ge, ipk_0, pmk_0, ipk_1, pmk_1, ipk_2, pmk_2, ipk_3, pmk_3, ipk_4, pmk_4, ipk_5, pmk_5, ipk_6, pmk_6, ipk_7, pmk_7, up2_s, up2_n, upr_s, upr_n, ne_eq, not_false_eq_true, Nat.reduceAdd, Int32.reduceToNatClampNeg, Int32.reduceLE, Int32.reduceAdd, r19_0, r19_1, r19_4, r19_5, r19_6, r19_9, r19_10, r19_11, r19_12, r19_15, r19_16, r19_18, r19_21, r20_0, r20_1, r20_4, r20_7, r20_10, r20_11, r20_14, r20_15, r20_18, r20_19, r20_20, r20_21, r20_22, r20_25, r20_26, r20_27, r20_30, h, v0, v1, v3, t47, t50, l47, l50, o46, r0, r3]
theorem k_ws_2 {I : AI} {L : AL} {R : AR} {Q : PQ} (r0 : R 46 0 = some 47) (r3 : R 46 3 = some 50) (h : I 46 4 = nI 4) : V 19 0 [.ref 46, .int 2, .int (-3)] [] 70 I L R Q = Q none 70 (wsM I 32 2 4 (-3)) L R := by
  have n0 : (nI 4 : Int32) = 4 := rfl
  have n1 : (nI (4 + 1) : Int32) = 5 := rfl
  have n2 : (nI (4 + 2) : Int32) = 6 := rfl
  rw [n0] at h
  have v0 : vp_in (4 : Int32) 408 = True := inT (a := 4) (N := 408) (by decide) (by decide)
  have v1 : vp_in (5 : Int32) 408 = True := inT (a := 5) (N := 408) (by decide) (by decide)
  have v3 : vp_in (2 : Int32) 4 = True := inT (a := 2) (N := 4) (by decide) (by decide)
  have t47 := tq_47 (n := 70) (by decide)
  have t50 := tq_50 (n := 70) (by decide)
  have l47 := fun I : AI => lq_47 (n := 70) (I := I) (by decide)
  have l50 := fun I : AI => lq_50 (n := 70) (I := I) (by decide)
  have o46 := oq_46 (n := 70) (by decide)
  unfold wsM
  rw [n0, n1, n2]
  simp (config := { decide := true }) only [↓reduceIte, ip_123, KV_i, KV_v, wsm_0, wsm_i, wsm_l, wsm_r, dlV_i, dlV_r, dlV_l, dlV_j, cat_i, cat_l, cat_r, rf_s, true_and, and_true, and_self, if_true, if_false, ite_true, ite_false, eq_self, true_or, or_true, false_or, or_false, not_true_eq_false, not_false_eq_true, ip_ge, pm_ge, ipk_0, pmk_0, ipk_1, pmk_1, ipk_2, pmk_2, ipk_3, pmk_3, ipk_4, pmk_4, ipk_5, pmk_5, ipk_6, pmk_6, ipk_7, pmk_7, up2_s, up2_n, upr_s, upr_n, ne_eq, not_false_eq_true, Nat.reduceAdd, Int32.reduceToNatClampNeg, Int32.reduceLE, Int32.reduceAdd, r19_0, r19_1, r19_4, r19_5, r19_6, r19_9, r19_10, r19_11, r19_12, r19_15, r19_16, r19_18, r19_21, r20_0, r20_1, r20_4, r20_7, r20_10, r20_11, r20_14, r20_15, r20_18, r20_19, r20_20, r20_21, r20_22, r20_25, r20_26, r20_27, r20_30, h, v0, v1, v3, t47, t50, l47, l50, o46, r0, r3]
theorem k_ws_3 {I : AI} {L : AL} {R : AR} {Q : PQ} (r0 : R 46 0 = some 47) (r3 : R 46 3 = some 50) (h : I 46 4 = nI 6) : V 19 0 [.ref 46, .int 3, .int (-8)] [] 70 I L R Q = Q none 70 (wsM I 32 3 6 (-8)) L R := by
  have n0 : (nI 6 : Int32) = 6 := rfl
  have n1 : (nI (6 + 1) : Int32) = 7 := rfl
  have n2 : (nI (6 + 2) : Int32) = 8 := rfl
  rw [n0] at h
  have v0 : vp_in (6 : Int32) 408 = True := inT (a := 6) (N := 408) (by decide) (by decide)
  have v1 : vp_in (7 : Int32) 408 = True := inT (a := 7) (N := 408) (by decide) (by decide)
  have v3 : vp_in (3 : Int32) 4 = True := inT (a := 3) (N := 4) (by decide) (by decide)
  have t47 := tq_47 (n := 70) (by decide)
  have t50 := tq_50 (n := 70) (by decide)
  have l47 := fun I : AI => lq_47 (n := 70) (I := I) (by decide)
  have l50 := fun I : AI => lq_50 (n := 70) (I := I) (by decide)
  have o46 := oq_46 (n := 70) (by decide)
  unfold wsM
  rw [n0, n1, n2]
  simp (config := { decide := true }) only [↓reduceIte, ip_123, KV_i, KV_v, wsm_0, wsm_i, wsm_l, wsm_r, dlV_i, dlV_r, dlV_l, dlV_j, cat_i, cat_l, cat_r, rf_s, true_and, and_true, and_self, if_true, if_false, ite_true, ite_false, eq_self, true_or, or_true, false_or, or_false, not_true_eq_false, not_false_eq_true, ip_ge, pm_ge, ipk_0, pmk_0, ipk_1, pmk_1, ipk_2, pmk_2, ipk_3, pmk_3, ipk_4, pmk_4, ipk_5, pmk_5, ipk_6, pmk_6, ipk_7, pmk_7, up2_s, up2_n, upr_s, upr_n, ne_eq, not_false_eq_true, Nat.reduceAdd, Int32.reduceToNatClampNeg, Int32.reduceLE, Int32.reduceAdd, r19_0, r19_1, r19_4, r19_5, r19_6, r19_9, r19_10, r19_11, r19_12, r19_15, r19_16, r19_18, r19_21, r20_0, r20_1, r20_4, r20_7, r20_10, r20_11, r20_14, r20_15, r20_18, r20_19, r20_20, r20_21, r20_22, r20_25, r20_26, r20_27, r20_30, h, v0, v1, v3, t47, t50, l47, l50, o46, r0, r3]
theorem k_clear {I : AI} {L : AL} {R : AR} {Q : PQ} (r13 : R 32 13 = some 46) (r0 : R 46 0 = some 47) (r3 : R 46 3 = some 50) (hQ : ∀ I', CL0 32 I I' → Q none 70 I' L R) : V 55 0 [.ref 32] [] 70 I L R Q := by
  have z0 : (nI 0 : Int32) = 0 := rfl
  have o46 := oq_46 (n := 70) (by decide)
  have o32 := oq_32 (n := 70) (by decide)
  simp (config := { decide := true }) only [↓reduceIte, ip_123, KV_i, KV_v, wsm_0, wsm_i, wsm_l, wsm_r, dlV_i, dlV_r, dlV_l, dlV_j, cat_i, cat_l, cat_r, rf_s, true_and, and_true, and_self, if_true, if_false, ite_true, ite_false, eq_self, true_or, or_true, false_or, or_false, not_true_eq_false, not_false_eq_true, ip_ge, pm_ge, ipk_0, pmk_0, ipk_1, pmk_1, ipk_2, pmk_2, ipk_3, pmk_3, ipk_4, pmk_4, ipk_5, pmk_5, ipk_6, pmk_6, ipk_7, pmk_7, up2_s, up2_n, upr_s, upr_n, ne_eq, not_false_eq_true, Nat.reduceAdd, r55_0, r55_1, r55_2, r55_5, r55_6, r55_7, r55_10, r55_11, r55_12, r55_15, r55_16, r55_17, r55_20, r55_21, r55_22, r55_25, r55_26, r55_27, r55_30, r55_31, r55_34, r55_37, r18_0, r18_1, r18_2, r18_5, r18_6, r18_7, r18_8, r18_11, r18_12, r18_13, r18_15, r18_18, r18_19, r18_20, r18_22, r18_25, r18_26, r18_27, r18_29, r18_32, k_ws_0 r0 r3, k_ws_1 r0 r3, k_ws_2 r0 r3, k_ws_3 r0 r3, ws14_32, z0, o46, o32, r13]
  refine hQ _ ⟨⟨?_, ?_, ?_, ?_, ?_, ?_⟩, ?_, ⟨?_, ?_, ?_, ?_, ?_, ?_, ?_, ?_⟩, ⟨?_, ?_, ?_, ?_⟩, fun a a1 a2 a3 a4 => ?_⟩
  · unfold wsM; simp (config := { decide := true }) only [up2_s, up2_n, upr_s, upr_n, ne_eq, not_false_eq_true, Nat.reduceAdd]; try rfl
  · unfold wsM; simp (config := { decide := true }) only [up2_s, up2_n, upr_s, upr_n, ne_eq, not_false_eq_true, Nat.reduceAdd]; try rfl
  · unfold wsM; simp (config := { decide := true }) only [up2_s, up2_n, upr_s, upr_n, ne_eq, not_false_eq_true, Nat.reduceAdd]; try rfl
  · unfold wsM; simp (config := { decide := true }) only [up2_s, up2_n, upr_s, upr_n, ne_eq, not_false_eq_true, Nat.reduceAdd]; try rfl
  · unfold wsM; simp (config := { decide := true }) only [up2_s, up2_n, upr_s, upr_n, ne_eq, not_false_eq_true, Nat.reduceAdd]; try rfl
  · unfold wsM; simp (config := { decide := true }) only [up2_s, up2_n, upr_s, upr_n, ne_eq, not_false_eq_true, Nat.reduceAdd]; try rfl
  · unfold wsM; simp (config := { decide := true }) only [up2_s, up2_n, upr_s, upr_n, ne_eq, not_false_eq_true, Nat.reduceAdd]; try rfl
  · unfold wsM; simp (config := { decide := true }) only [up2_s, up2_n, upr_s, upr_n, ne_eq, not_false_eq_true, Nat.reduceAdd]; try rfl
  · unfold wsM; simp (config := { decide := true }) only [up2_s, up2_n, upr_s, upr_n, ne_eq, not_false_eq_true, Nat.reduceAdd]; try rfl
  · unfold wsM; simp (config := { decide := true }) only [up2_s, up2_n, upr_s, upr_n, ne_eq, not_false_eq_true, Nat.reduceAdd]; try rfl
  · unfold wsM; simp (config := { decide := true }) only [up2_s, up2_n, upr_s, upr_n, ne_eq, not_false_eq_true, Nat.reduceAdd]; try rfl
  · unfold wsM; simp (config := { decide := true }) only [up2_s, up2_n, upr_s, upr_n, ne_eq, not_false_eq_true, Nat.reduceAdd]; try rfl
  · unfold wsM; simp (config := { decide := true }) only [up2_s, up2_n, upr_s, upr_n, ne_eq, not_false_eq_true, Nat.reduceAdd]; try rfl
  · unfold wsM; simp (config := { decide := true }) only [up2_s, up2_n, upr_s, upr_n, ne_eq, not_false_eq_true, Nat.reduceAdd]; try rfl
  · unfold wsM; simp (config := { decide := true }) only [up2_s, up2_n, upr_s, upr_n, ne_eq, not_false_eq_true, Nat.reduceAdd]; try rfl
  · unfold wsM; simp (config := { decide := true }) only [up2_s, up2_n, upr_s, upr_n, ne_eq, not_false_eq_true, Nat.reduceAdd]; try rfl
  · unfold wsM; simp (config := { decide := true }) only [up2_s, up2_n, upr_s, upr_n, ne_eq, not_false_eq_true, Nat.reduceAdd]; try rfl
  · unfold wsM; simp (config := { decide := true }) only [up2_s, up2_n, upr_s, upr_n, ne_eq, not_false_eq_true, Nat.reduceAdd]; try rfl
  · unfold wsM; simp (config := { decide := true }) only [up2_s, up2_n, upr_s, upr_n, ne_eq, not_false_eq_true, Nat.reduceAdd]; try rfl
  · unfold wsM; repeat rw [up2_n (by first | exact a1 | exact a2 | exact a3 | exact a4)]
theorem lp_fill70 {R : AR} {J : AI} {L : AL} {Q : PQ} : ∀ m i, i + m = 45 → V 269 5 [.ref 13, .int 0, .int (nI i), .int 45] [] 70 (upr J 13 (zN (J 13) i)) L R Q = Q none 70 (upr J 13 (zN (J 13) 45)) L R := by
  have t13 := tq_13 (n := 70) (by decide)
  have l13 := fun I : AI => lq_13 (n := 70) (I := I) (by decide)
  intro m
  induction m with
  | zero =>
    intro i hi
    obtain rfl : i = 45 := by omega
    have e1 : ((45 : Int32) ≤ nI 45) = True := eq_true (by decide)
    rw [r269_5]
    simp (config := { decide := true }) only [↓reduceIte, ip_123, KV_i, KV_v, wsm_0, wsm_i, wsm_l, wsm_r, dlV_i, dlV_r, dlV_l, dlV_j, cat_i, cat_l, cat_r, rf_s, true_and, and_true, and_self, if_true, if_false, ite_true, ite_false, eq_self, true_or, or_true, false_or, or_false, not_true_eq_false, not_false_eq_true, ip_ge, pm_ge, ipk_0, pmk_0, ipk_1, pmk_1, ipk_2, pmk_2, ipk_3, pmk_3, ipk_4, pmk_4, ipk_5, pmk_5, ipk_6, pmk_6, ipk_7, pmk_7, r269_0, r269_1, r269_2, r269_3, r269_4, r269_6, r269_7, r269_10, r269_11, r269_12, r269_13, r269_14, r269_17, r269_20, e1]
  | succ m ih =>
    intro i hi
    have e1 : ((45 : Int32) ≤ nI i) = False := leF (a := 45) (by omega) (by omega)
    have e2 := inT (a := i) (N := 45) (by omega) (by decide)
    have e3 := nI_clamp (n := i) (by omega)
    rw [r269_5]
    simp (config := { decide := true }) only [↓reduceIte, ip_123, KV_i, KV_v, wsm_0, wsm_i, wsm_l, wsm_r, dlV_i, dlV_r, dlV_l, dlV_j, cat_i, cat_l, cat_r, rf_s, true_and, and_true, and_self, if_true, if_false, ite_true, ite_false, eq_self, true_or, or_true, false_or, or_false, not_true_eq_false, not_false_eq_true, ip_ge, pm_ge, ipk_0, pmk_0, ipk_1, pmk_1, ipk_2, pmk_2, ipk_3, pmk_3, ipk_4, pmk_4, ipk_5, pmk_5, ipk_6, pmk_6, ipk_7, pmk_7, r269_0, r269_1, r269_2, r269_3, r269_4, r269_6, r269_7, r269_10, r269_11, r269_12, r269_13, r269_14, r269_17, r269_20, t13, l13, e1, e2, e3, nI_1, ua2, zN_s]
    exact ih (i + 1) (by omega)
theorem k_fill {R : AR} {J : AI} {L : AL} {Q : PQ} : V 269 0 [.ref 13, .int 0, .retAddr 0, .retAddr 0] [] 70 J L R Q = Q none 70 (upr J 13 (zN (J 13) 45)) L R := by
  have e := lp_fill70 (R := R) (J := J) (L := L) (Q := Q) 45 0 (by omega)
  rw [zN_0, upr_id, show (nI 0 : Int32) = 0 from rfl] at e
  have t13 := tq_13 (n := 70) (by decide)
  have l13 := fun I : AI => lq_13 (n := 70) (I := I) (by decide)
  rw [← e]
  simp (config := { decide := true }) only [↓reduceIte, ip_123, KV_i, KV_v, wsm_0, wsm_i, wsm_l, wsm_r, dlV_i, dlV_r, dlV_l, dlV_j, cat_i, cat_l, cat_r, rf_s, true_and, and_true, and_self, if_true, if_false, ite_true, ite_false, eq_self, true_or, or_true, false_or, or_false, not_true_eq_false, not_false_eq_true, ip_ge, pm_ge, ipk_0, pmk_0, ipk_1, pmk_1, ipk_2, pmk_2, ipk_3, pmk_3, ipk_4, pmk_4, ipk_5, pmk_5, ipk_6, pmk_6, ipk_7, pmk_7, r269_0, r269_1, r269_2, r269_3, r269_4, r269_6, r269_7, r269_10, r269_11, r269_12, r269_13, r269_14, r269_17, r269_20, t13, l13]
  rfl
theorem k_goingc {J : AI} {L : AL} {R : AR} {Q : PQ} (r0 : R 12 0 = some 13) (r1 : R 12 1 = some 14) : V 11 0 [.ref 12, .retAddr 0] [] 70 J L R Q = Q none 70 (up2 (up2 (up2 (up2 (upr J 13 (upr (zN (J 13) 45) 0 (-2))) 12 5 0) 14 0 0) 14 1 0) 14 2 0) L R := by
  have t13 := tq_13 (n := 70) (by decide)
  have l13 := fun I : AI => lq_13 (n := 70) (I := I) (by decide)
  have t14 := tq_14 (n := 70) (by decide)
  have l14 := fun I : AI => lq_14 (n := 70) (I := I) (by decide)
  have o12 := oq_12 (n := 70) (by decide)
  have v0 : vp_in (0 : Int32) 45 = True := inT (a := 0) (N := 45) (by decide) (by decide)
  have w0 : vp_in (0 : Int32) 3 = True := inT (a := 0) (N := 3) (by decide) (by decide)
  have w1 : vp_in (1 : Int32) 3 = True := inT (a := 1) (N := 3) (by decide) (by decide)
  have w2 : vp_in (2 : Int32) 3 = True := inT (a := 2) (N := 3) (by decide) (by decide)
  simp (config := { decide := true }) only [↓reduceIte, ip_123, KV_i, KV_v, wsm_0, wsm_i, wsm_l, wsm_r, dlV_i, dlV_r, dlV_l, dlV_j, cat_i, cat_l, cat_r, rf_s, true_and, and_true, and_self, if_true, if_false, ite_true, ite_false, eq_self, true_or, or_true, false_or, or_false, not_true_eq_false, not_false_eq_true, ip_ge, pm_ge, ipk_0, pmk_0, ipk_1, pmk_1, ipk_2, pmk_2, ipk_3, pmk_3, ipk_4, pmk_4, ipk_5, pmk_5, ipk_6, pmk_6, ipk_7, pmk_7, up2_s, up2_n, upr_s, upr_n, ne_eq, not_false_eq_true, Nat.reduceAdd, Int32.reduceToNatClampNeg, Int32.reduceLE, Int32.reduceAdd, r11_0, r11_1, r11_4, r11_5, r11_8, r11_9, r11_12, r11_13, r11_15, r11_16, r11_17, r11_18, r11_21, r11_22, r11_23, r11_24, r11_25, r11_28, r11_29, r11_32, r11_33, r11_34, r11_35, r11_38, r11_41, k_fill, t13, l13, t14, l14, o12, v0, w0, w1, w2, r0, r1, ua2, nr_30]
