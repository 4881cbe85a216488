/-! READ: LESSON, TURN, side by side -/
theorem les_GS {kd pl vl mv : Nat → Nat} {n : Nat} {K3 K4 K5 : Nat → Int32} {K6 : Nat → Int64} (hT : TMR kd pl vl mv n K3 K4 K5 K6) {lk : Nat → Option Nat} : ∀ r (S : PS) (w : Nat), GS n S → GS n (lesP kd pl lk r S w).1 := by
  intro r
  induction r with
  | zero => intro S w h; exact h
  | succ r ih =>
    intro S w h
    have h1 : GS n (takeP kd pl 23 S) := GS_take hT (by decide) h
    unfold lesP
    split
    · split
      · cases lk S.1 with
        | none => exact ih _ w (GS_note h1)
        | some z =>
          refine ih _ _ ?_
          split
          · exact GS_note h1
          · exact h1
      · exact h1
    · exact h
theorem st_Lesson {kd pl vl mv : Nat → Nat} {n : Nat} {K3 K4 : Nat → Int32} {K5 : Nat → Int64} {M3 M4 M5 : Nat → Int32} {M6 : Nat → Int64} (hT : TOK kd pl vl mv n K3 K4 K5 M3 M4 M5 M6) {t s sd : Nat} (hs : s = 32 ∨ s = 51) (hd : sd ≤ 1) {c so nu : Nat → Nat} {len : Nat} {Bs : Nat → List (Cd × Cd × Cd)} {Es : Nat → Cd} {I : AI} {L : AL} {S : PS} {Q : PQ} (hC : CW K3 K4 K5 s c so nu len Bs Es I L S.1) (e0 : S.2.1 = 0) (hx : S.1 ≤ n) (hbn : BND pl S) (hq : kd S.1 = 3) (hQ : ∀ I' L' S', STL kd pl vl mv n K3 K4 K5 M3 M4 M5 M6 s sd c so nu Bs Es I L S I' L' S' → Q none 123 (wr I' S') L' (RX t (some s))) : V 35 0 [.ref 7, .retAddr 0, .retAddr 0, .retAddr 0, .retAddr 0, .retAddr 0, .retAddr 0, .retAddr 0] [] 123 (wr I S) L (RX t (some s)) Q := by
  have hC' := hC
  obtain ⟨⟨a3, a4, a5⟩, ⟨b0, b1, b2, b3, b4⟩, ⟨l0, l1, l2, l3, l4⟩, c6, cN, cM, cD, ⟨p1, p2, p3⟩, pL⟩ := hC'
  have kb : c 2 < 6 → kN c < 35 := by unfold kN; omega
  refine c_readLesson hs hT.1 a3 a4 a5 c6 (K9 := I 9) (K10 := I 10) cN rfl rfl hx (fun i hi h2 => by have := (cM i hi).2 h2; omega) b2 l2 kb (fun hlt tq hw hxn => hQ _ _ _ ?_) (fun hA => hQ _ _ _ (st_no hT (k := 2) (lim := 6) (len := len) hx e0 hbn (by decide) (by decide) hq hA (fun t u J M Z Qm h3 h4 h19 hc hg h0 hqz hn => m_no_Lesson hT.2.1 h3 h4 hd h19 hc l2 hg h0 hqz hn)))
  have kb' := kb hlt
  have tk := take_ok (pl := pl) tq
  have x1 : (takeP kd pl 3 S).1 = S.1 + 1 := by rw [tk.1]
  have hx1 : (takeP kd pl 3 S).1 ≤ n := take_le hT.1 (by decide) hx
  have B1 : BND pl (takeP kd pl 3 S) := BND_take hbn
  have X0 : (newP kd pl (nwB L (kN c) (vl (takeP kd pl 3 S).1)) (takeP kd pl 3 S)).1 ≤ n := new_le hT.1 hx1
  have B2 : BND pl (newP kd pl (nwB L (kN c) (vl (takeP kd pl 3 S).1)) (takeP kd pl 3 S)) := BND_new B1
  have X1 : (intP kd pl vl 1 99 (newP kd pl (nwB L (kN c) (vl (takeP kd pl 3 S).1)) (takeP kd pl 3 S))).1 ≤ n := int_le hT.1 X0
  have B3 : BND pl (intP kd pl vl 1 99 (newP kd pl (nwB L (kN c) (vl (takeP kd pl 3 S).1)) (takeP kd pl 3 S))) := BND_int B2
  have B4 : BND pl (lesP kd pl (fun j => lukP (L 8) so nu (kN c) (lN (vl j)) 2) 401 (intP kd pl vl 1 99 (newP kd pl (nwB L (kN c) (vl (takeP kd pl 3 S).1)) (takeP kd pl 3 S))) 0).1 := les_B _ _ _ B3
  refine ⟨take_le hT.1 (by decide) hxn, BND_take B4, ?_, upr c 2 (c 2 + 1), upr so (kN c) 2, upr nu (kN c) (c 2), len, Bs, Es, fun f => ?_, fun t u J M Z Qm hSE hg hM hCl hQm => ?_⟩
  · refine FRC_l ?_
    repeat' (first | exact FRC_r _ _ _ | (refine FRC_u ?_ (by omega)))
  · have hs' := hs
    have tP := take_0 f
    have l4 := les_0 _ _ _ tP.2.1
    have i1 := int_0 l4.1
    have nn := new_0 i1.2.1
    have yP : (takeP kd pl 25 (lesP kd pl (fun j => lukP (L 8) so nu (kN c) (lN (vl j)) 2) 401 (intP kd pl vl 1 99 (newP kd pl (nwB L (kN c) (vl (takeP kd pl 3 S).1)) (takeP kd pl 3 S))) 0).1).1 = (lesP kd pl (fun j => lukP (L 8) so nu (kN c) (lN (vl j)) 2) 401 (intP kd pl vl 1 99 (newP kd pl (nwB L (kN c) (vl (takeP kd pl 3 S).1)) (takeP kd pl 3 S))) 0).1.1 + 1 := by rw [tP.1]
    have lt : S.1 < (takeP kd pl 25 (lesP kd pl (fun j => lukP (L 8) so nu (kN c) (lN (vl j)) 2) 401 (intP kd pl vl 1 99 (newP kd pl (nwB L (kN c) (vl (takeP kd pl 3 S).1)) (takeP kd pl 3 S))) 0).1).1 := by
      have := l4.2.1
      have := i1.1
      have := nn.1
      omega
    refine ⟨lt, ?_⟩
    rcases hs with rfl | rfl
    · refine CW_name hC (k := 2) (by decide) hlt ?_ ?_ ?_ ?_ ?_ ?_ ?_ ?_ ?_ ?_ ?_ ?_ (by omega)
      · simp (config := { decide := true, maxDischargeDepth := 20 }) only [up2_s, up2_n, upr_s, upr_n, ne_eq, not_false_eq_true, Nat.reduceAdd]
      · simp (config := { decide := true, maxDischargeDepth := 20 }) only [up2_s, up2_n, upr_s, upr_n, ne_eq, not_false_eq_true, Nat.reduceAdd]
      · simp (config := { decide := true, maxDischargeDepth := 20 }) only [up2_s, up2_n, upr_s, upr_n, ne_eq, not_false_eq_true, Nat.reduceAdd]
      · intro z z1 z2
        simp (config := { decide := true, maxDischargeDepth := 20 }) only [up2_s, up2_n, upr_s, upr_n, ne_eq, not_false_eq_true, Nat.reduceAdd]
      · simp (config := { decide := true, maxDischargeDepth := 20 }) only [up2_s, up2_n, upr_s, upr_n, ne_eq, not_false_eq_true, Nat.reduceAdd]
      · simp (config := { decide := true, maxDischargeDepth := 20 }) only [up2_s, up2_n, upr_s, upr_n, ne_eq, not_false_eq_true, Nat.reduceAdd]; try rfl
      · simp (config := { decide := true, maxDischargeDepth := 20 }) only [up2_s, up2_n, upr_s, upr_n, ne_eq, not_false_eq_true, Nat.reduceAdd]
      · intro j hj
        simp (config := { decide := true, maxDischargeDepth := 20 }) only [up2_s, up2_n, upr_s, upr_n, ne_eq, not_false_eq_true, Nat.reduceAdd]
      · intro z; exact absurd z (by decide)
      · simp (config := { decide := true, maxDischargeDepth := 20 }) only [up2_s, up2_n, upr_s, upr_n, ne_eq, not_false_eq_true, Nat.reduceAdd]
      · simp (config := { decide := true, maxDischargeDepth := 20 }) only [up2_s, up2_n, upr_s, upr_n, ne_eq, not_false_eq_true, Nat.reduceAdd]
      · simp (config := { decide := true, maxDischargeDepth := 20 }) only [up2_s, up2_n, upr_s, upr_n, ne_eq, not_false_eq_true, Nat.reduceAdd]
    · refine CW_name hC (k := 2) (by decide) hlt ?_ ?_ ?_ ?_ ?_ ?_ ?_ ?_ ?_ ?_ ?_ ?_ (by omega)
      · simp (config := { decide := true, maxDischargeDepth := 20 }) only [up2_s, up2_n, upr_s, upr_n, ne_eq, not_false_eq_true, Nat.reduceAdd]
      · simp (config := { decide := true, maxDischargeDepth := 20 }) only [up2_s, up2_n, upr_s, upr_n, ne_eq, not_false_eq_true, Nat.reduceAdd]
      · simp (config := { decide := true, maxDischargeDepth := 20 }) only [up2_s, up2_n, upr_s, upr_n, ne_eq, not_false_eq_true, Nat.reduceAdd]
      · intro z z1 z2
        simp (config := { decide := true, maxDischargeDepth := 20 }) only [up2_s, up2_n, upr_s, upr_n, ne_eq, not_false_eq_true, Nat.reduceAdd]
      · simp (config := { decide := true, maxDischargeDepth := 20 }) only [up2_s, up2_n, upr_s, upr_n, ne_eq, not_false_eq_true, Nat.reduceAdd]
      · simp (config := { decide := true, maxDischargeDepth := 20 }) only [up2_s, up2_n, upr_s, upr_n, ne_eq, not_false_eq_true, Nat.reduceAdd]; try rfl
      · simp (config := { decide := true, maxDischargeDepth := 20 }) only [up2_s, up2_n, upr_s, upr_n, ne_eq, not_false_eq_true, Nat.reduceAdd]
      · intro j hj
        simp (config := { decide := true, maxDischargeDepth := 20 }) only [up2_s, up2_n, upr_s, upr_n, ne_eq, not_false_eq_true, Nat.reduceAdd]
      · intro z; exact absurd z (by decide)
      · simp (config := { decide := true, maxDischargeDepth := 20 }) only [up2_s, up2_n, upr_s, upr_n, ne_eq, not_false_eq_true, Nat.reduceAdd]
      · simp (config := { decide := true, maxDischargeDepth := 20 }) only [up2_s, up2_n, upr_s, upr_n, ne_eq, not_false_eq_true, Nat.reduceAdd]
      · simp (config := { decide := true, maxDischargeDepth := 20 }) only [up2_s, up2_n, upr_s, upr_n, ne_eq, not_false_eq_true, Nat.reduceAdd]
  · have ez : Z.2.1 = 0 := by rw [← hSE.1]; exact e0
    have xz : Z.1 = S.1 := (hSE.2.2 e0).1.symm
    have hM' := hM
    obtain ⟨⟨m3, m4, m5, m6⟩, ⟨d0, d1, d2, d3, d4⟩, ⟨c19, c20⟩, mN, mD, mL⟩ := hM'
    have tz : tkB kd 3 Z = true := by rw [← tkB_e hSE]; exact tq
    have fz := take_f0 (pl := pl) tz
    have SE1 : SE (takeP kd pl 3 S) (takeP kd pl 3 Z) := SE_take hSE
    have G1 : GS n (takeP kd pl 3 Z) := GS_take hT.2.1 (by decide) hg
    have SE2 : SE (newP kd pl (nwB L (kN c) (vl (takeP kd pl 3 S).1)) (takeP kd pl 3 S)) (newP kd pl (nwM M (kN c) (mv (takeP kd pl 3 Z).1)) (takeP kd pl 3 Z)) := SE_new2 hT SE1 hx1 B1 (fun z => (hCl (by rw [take_l] at z; exact z)).1)
    have G2 : GS n (newP kd pl (nwM M (kN c) (mv (takeP kd pl 3 Z).1)) (takeP kd pl 3 Z)) := GS_new hT.2.1 G1
    have SE3 : SE (intP kd pl vl 1 99 (newP kd pl (nwB L (kN c) (vl (takeP kd pl 3 S).1)) (takeP kd pl 3 S))) (intM kd pl vl 1 99 (newP kd pl (nwM M (kN c) (mv (takeP kd pl 3 Z).1)) (takeP kd pl 3 Z))) := SE_int SE2
    have G3 : GS n (intM kd pl vl 1 99 (newP kd pl (nwM M (kN c) (mv (takeP kd pl 3 Z).1)) (takeP kd pl 3 Z))) := GS_int hT.2.1 G2
    have lkq : S.2.2.2.1 = 0 → ∀ j, kd j = 23 → (fun j => lukP (L 8) so nu (kN c) (lN (vl j)) 2) j = (fun j => lkM (M 78) (fun i => smN (so i)) nu (lN (mv j)) 1 (kN c) 0) j := fun z j hj => Nam_lk hT (hCl z).1 hj (fun z => smN_1 z)
    have SE4 : SE (lesP kd pl (fun j => lukP (L 8) so nu (kN c) (lN (vl j)) 2) 401 (intP kd pl vl 1 99 (newP kd pl (nwB L (kN c) (vl (takeP kd pl 3 S).1)) (takeP kd pl 3 S))) 0).1 (lesP kd pl (fun j => lkM (M 78) (fun i => smN (so i)) nu (lN (mv j)) 1 (kN c) 0) 401 (intM kd pl vl 1 99 (newP kd pl (nwM M (kN c) (mv (takeP kd pl 3 Z).1)) (takeP kd pl 3 Z))) 0).1 := by
      by_cases z : S.2.2.2.1 = 0
      · exact (les_SE0 (lkq z) 401 _ _ 0 SE3).1
      · have F1 := FZ_take (kd := kd) (q := 3) (FZ_of hT hbn.1 hx e0 z)
        have F2 : FZ pl n (newP kd pl (nwB L (kN c) (vl (takeP kd pl 3 S).1)) (takeP kd pl 3 S)) := by rw [FZ_new F1 hx1]; exact FZ_take F1
        have F3 : FZ pl n (intP kd pl vl 1 99 (newP kd pl (nwB L (kN c) (vl (takeP kd pl 3 S).1)) (takeP kd pl 3 S))) := by rw [FZ_int F2 X0]; exact FZ_take F2
        exact les_SE1 hT.1 401 _ _ 0 0 SE3 X1 F3
    have SEP : SE (takeP kd pl 25 (lesP kd pl (fun j => lukP (L 8) so nu (kN c) (lN (vl j)) 2) 401 (intP kd pl vl 1 99 (newP kd pl (nwB L (kN c) (vl (takeP kd pl 3 S).1)) (takeP kd pl 3 S))) 0).1) (takeP kd pl 25 (lesP kd pl (fun j => lkM (M 78) (fun i => smN (so i)) nu (lN (mv j)) 1 (kN c) 0) 401 (intM kd pl vl 1 99 (newP kd pl (nwM M (kN c) (mv (takeP kd pl 3 Z).1)) (takeP kd pl 3 Z))) 0).1) := SE_take SE4
    have y1 := inT (a := Z.1) (N := 403) (by have := hT.1.1; omega) (by decide)
    have y2 := nI_clamp (n := Z.1) (by have := hT.1.1; omega)
    have w1 := inT (a := sd) (N := 2) (by omega) (by decide)
    have w2 := nI_clamp (n := sd) (by omega)
    have y3 : M3 Z.1 = 23 := by rw [(hT.2.1.2.1 Z.1 hg.1).1, xz, hq]; rfl
    have c1 : c 2 < 100 := by omega
    have ne : (c 2 = 6) = False := eq_false (by omega)
    have tg : goP pl Z = (takeP kd pl 3 Z) := by rw [take_is, if_pos (by unfold isP; rw [decide_eq_true ez, decide_eq_true (xz ▸ hq)]; rfl)]
    have mN3 : ∀ i, i < kN c → J 79 i = nI (smN (so i)) ∧ smN (so i) < 3 ∧ J 80 i = nI (nu i) := fun i hi => ⟨(mN i hi).1, smN_3 _, (mN i hi).2⟩
    simp (config := { decide := true, maxDischargeDepth := 20 }) only [↓reduceIte, KV_i, KV_v, wsm_0, wsm_i, wsm_l, wsm_r, dlV_i, dlV_r, dlV_l, dlV_j, cat_i, cat_l, cat_r, rf_s, true_and, and_true, and_self, if_true, if_false, ite_true, ite_false, eq_self, true_or, or_true, false_or, or_false, not_true_eq_false, not_false_eq_true, vn_0_45, vn_1_45, vn_2_45, vn_3_45, vn_4_45, vn_5_45, vn_6_45, vn_7_45, vn_8_45, vn_36_48, vn_37_48, vn_38_48, vn_39_48, vn_40_48, vn_41_48, vn_42_48, vn_43_48, vn_44_48, vn_0_9, vn_1_9, vn_2_9, vn_3_9, vn_4_9, vn_5_9, vn_6_9, vn_7_9, vn_8_9, vn_0_3, vn_1_3, vn_2_3, vn_0_4, vn_1_4, vn_2_4, vn_3_4, vn_0_64, vn_0_16, vn_0_400, vn_0_6, vn_0_14, Int32.reduceToNatClampNeg, Int32.reduceAdd, Int32.reduceSub, Int32.reduceMul, Int32.reduceLE, Int32.reduceLT, Nat.reduceAdd, nr_2, nr_30, nr_31, rd_2, rd_14, rd_71, rd_72, rd_101, rd_116, rd_121, up2_s, up2_n, upr_s, upr_n, ne_eq, not_false_eq_true, ob_70, rx_70_1, rx_70_3, rx_70_5, rx_70_6, rx_70_7, rx_70_8, rx_70_9, rx_70_21, rx_70_22, rx_70_23, rx_70_24, rx_70_25, rx_70_26, rx_70_27, rx_70_28, rx_70_29, rx_70_30, rx_70_31, rx_70_32, rx_70_33, rx_70_34, rx_70_35, rx_70_36, rx_70_37, rx_70_38, rx_70_39, rx_70_40, rx_70_41, rx_70_42, rx_70_43, rx_70_45, rx_70_46, rx_70_47, rx_70_48, rx_70_49, rx_70_51, rx_70_52, rx_70_53, rx_70_55, rx_70_56, rx_70_58, rx_70_59, rx_70_60, rx_70_61, rx_70_63, rx_70_64, rx_70_65, rx_70_70, rx_70_71, rx_70_72, rx_70_73, rx_70_74, r159_0, r159_1, r159_4, r159_5, r159_8, r159_68, r159_69, r159_70, r159_73, r159_74, r159_77, r159_78, r159_80, r159_83, r159_84, r159_87, r159_90, r159_91, r159_94, r159_97, r159_98, r159_99, r159_102, r159_103, r159_106, r159_107, r159_109, r159_112, r159_113, r159_116, r159_119, r159_120, r159_123, r159_126, r159_127, r159_128, r159_131, r159_132, r159_135, r159_136, r159_138, r159_141, r159_142, r159_145, r159_148, r159_149, r159_152, r159_155, r159_156, r159_157, r159_160, r159_161, r159_164, r159_165, r159_167, r159_170, r159_171, r159_174, r159_177, r159_178, r159_181, r159_184, r159_185, r159_186, r159_189, r159_190, r159_193, r159_194, r159_195, r159_198, r159_199, r159_202, r159_205, r159_206, r159_209, r159_212, r159_213, r159_214, r159_217, r159_218, r159_221, r159_222, r159_223, r159_226, r159_227, r159_230, r159_233, r159_234, r159_237, r159_240, r159_241, r159_244, r159_245, r159_248, r159_249, r159_252, r159_253, r159_254, r159_257, r159_260, r159_261, r159_262, r159_263, r159_266, r159_269, r159_270, r159_273, r159_274, r159_277, r159_278, r159_280, r159_281, r159_282, r159_283, r159_286, r159_287, r159_290, r159_291, r159_294, r159_295, r159_297, r159_300, r159_301, r159_302, r159_305, r159_306, r159_309, r159_312, r159_313, r159_314, r159_317, r159_318, r159_319, r159_322, r159_9, tg_73, ln_73, tg_91, ln_91, wm_11, wm_13, wm_14, wm_15, wm_16, wm_4, wm_12, wm_18, wm_19, wm_20, wm_44, wm_50, wm_54, wm_n, wm_up, wm_u11, wm_u13, wm_u14, wm_u15, wm_u16, wm_u12, wm_u18, wm_u19, wm_u20, wm_u44, wm_u50, wm_u54, m_room_6 hT.2.1, m3, m4, c19, d2, hg, ez, c1, ne, y1, y2, w1, w2, y3, tg, fz]
    refine m_tellLesson (so := fun i => smN (so i)) (nu := nu) hT.2.1 m3 m4 m5 m6 c20 kb' mN3 (fun i hi h2 => by have := (cM i hi).2 ((smN_1 _).mp h2); omega) G1 c19 hd d2 hlt (fun hw2 GL e5 => ?_) (fun e5 => ?_)
    · have GP : GS n (takeP kd pl 25 (lesP kd pl (fun j => lkM (M 78) (fun i => smN (so i)) nu (lN (mv j)) 1 (kN c) 0) 401 (intM kd pl vl 1 99 (newP kd pl (nwM M (kN c) (mv (takeP kd pl 3 Z).1)) (takeP kd pl 3 Z))) 0).1) := GS_take hT.2.1 (by decide) GL
      simp (config := { decide := true, maxDischargeDepth := 20 }) only [↓reduceIte, KV_i, KV_v, wsm_0, wsm_i, wsm_l, wsm_r, dlV_i, dlV_r, dlV_l, dlV_j, cat_i, cat_l, cat_r, rf_s, true_and, and_true, and_self, if_true, if_false, ite_true, ite_false, eq_self, true_or, or_true, false_or, or_false, not_true_eq_false, not_false_eq_true, vn_0_45, vn_1_45, vn_2_45, vn_3_45, vn_4_45, vn_5_45, vn_6_45, vn_7_45, vn_8_45, vn_36_48, vn_37_48, vn_38_48, vn_39_48, vn_40_48, vn_41_48, vn_42_48, vn_43_48, vn_44_48, vn_0_9, vn_1_9, vn_2_9, vn_3_9, vn_4_9, vn_5_9, vn_6_9, vn_7_9, vn_8_9, vn_0_3, vn_1_3, vn_2_3, vn_0_4, vn_1_4, vn_2_4, vn_3_4, vn_0_64, vn_0_16, vn_0_400, vn_0_6, vn_0_14, Int32.reduceToNatClampNeg, Int32.reduceAdd, Int32.reduceSub, Int32.reduceMul, Int32.reduceLE, Int32.reduceLT, Nat.reduceAdd, nr_2, nr_30, nr_31, rd_2, rd_14, rd_71, rd_72, rd_101, rd_116, rd_121, up2_s, up2_n, upr_s, upr_n, ne_eq, not_false_eq_true, ob_70, rx_70_1, rx_70_3, rx_70_5, rx_70_6, rx_70_7, rx_70_8, rx_70_9, rx_70_21, rx_70_22, rx_70_23, rx_70_24, rx_70_25, rx_70_26, rx_70_27, rx_70_28, rx_70_29, rx_70_30, rx_70_31, rx_70_32, rx_70_33, rx_70_34, rx_70_35, rx_70_36, rx_70_37, rx_70_38, rx_70_39, rx_70_40, rx_70_41, rx_70_42, rx_70_43, rx_70_45, rx_70_46, rx_70_47, rx_70_48, rx_70_49, rx_70_51, rx_70_52, rx_70_53, rx_70_55, rx_70_56, rx_70_58, rx_70_59, rx_70_60, rx_70_61, rx_70_63, rx_70_64, rx_70_65, rx_70_70, rx_70_71, rx_70_72, rx_70_73, rx_70_74, r159_0, r159_1, r159_4, r159_5, r159_8, r159_68, r159_69, r159_70, r159_73, r159_74, r159_77, r159_78, r159_80, r159_83, r159_84, r159_87, r159_90, r159_91, r159_94, r159_97, r159_98, r159_99, r159_102, r159_103, r159_106, r159_107, r159_109, r159_112, r159_113, r159_116, r159_119, r159_120, r159_123, r159_126, r159_127, r159_128, r159_131, r159_132, r159_135, r159_136, r159_138, r159_141, r159_142, r159_145, r159_148, r159_149, r159_152, r159_155, r159_156, r159_157, r159_160, r159_161, r159_164, r159_165, r159_167, r159_170, r159_171, r159_174, r159_177, r159_178, r159_181, r159_184, r159_185, r159_186, r159_189, r159_190, r159_193, r159_194, r159_195, r159_198, r159_199, r159_202, r159_205, r159_206, r159_209, r159_212, r159_213, r159_214, r159_217, r159_218, r159_221, r159_222, r159_223, r159_226, r159_227, r159_230, r159_233, r159_234, r159_237, r159_240, r159_241, r159_244, r159_245, r159_248, r159_249, r159_252, r159_253, r159_254, r159_257, r159_260, r159_261, r159_262, r159_263, r159_266, r159_269, r159_270, r159_273, r159_274, r159_277, r159_278, r159_280, r159_281, r159_282, r159_283, r159_286, r159_287, r159_290, r159_291, r159_294, r159_295, r159_297, r159_300, r159_301, r159_302, r159_305, r159_306, r159_309, r159_312, r159_313, r159_314, r159_317, r159_318, r159_319, r159_322, r159_9]
      refine hQm _ _ _ SEP GP ?_ (FRL_u (fun _ _ _ => rfl)) (fun f => ?_)
      · repeat' (first | exact FRM_r _ _ | (refine FRM_u ?_ (by first | exact np_79 | exact np_80 | exact np_20 | exact np_81 hd | exact np_88 hd | exact np_91 hd | exact np_94 hd | exact np_96 hd | exact np_98 hd | exact np_82 hd hlt | exact np_83 hd hlt | exact np_84 hd hlt | exact np_85 hd hlt | exact np_89 hd hlt | exact np_90 hd hlt | exact np_92 hd hlt | exact np_93 hd hlt | exact np_95 hd hlt | exact np_97_0 hd hlt | exact np_97_1 hd hlt | exact np_97_2 hd hlt | exact np_97_3 hd hlt | exact np_97_4 hd hlt | exact np_97_5 hd hlt)))
      · have hs' := hs
        have tP := take_0 f
        have l4 := les_0 _ _ _ tP.2.1
        have i1 := int_0 l4.1
        have nn := new_0 i1.2.1
        have yP : (takeP kd pl 25 (lesP kd pl (fun j => lukP (L 8) so nu (kN c) (lN (vl j)) 2) 401 (intP kd pl vl 1 99 (newP kd pl (nwB L (kN c) (vl (takeP kd pl 3 S).1)) (takeP kd pl 3 S))) 0).1).1 = (lesP kd pl (fun j => lukP (L 8) so nu (kN c) (lN (vl j)) 2) 401 (intP kd pl vl 1 99 (newP kd pl (nwB L (kN c) (vl (takeP kd pl 3 S).1)) (takeP kd pl 3 S))) 0).1.1 + 1 := by rw [tP.1]
        have lt : S.1 < (takeP kd pl 25 (lesP kd pl (fun j => lukP (L 8) so nu (kN c) (lN (vl j)) 2) 401 (intP kd pl vl 1 99 (newP kd pl (nwB L (kN c) (vl (takeP kd pl 3 S).1)) (takeP kd pl 3 S))) 0).1).1 := by
          have := l4.2.1
          have := i1.1
          have := nn.1
          omega
        refine ⟨MW_name hM (k := 2) (by decide) ?_ ?_ ?_ ?_ ?_ ?_ ?_ ?_ ?_ ?_ ?_ ?_ ?_ ?_ ?_ (by omega), fun lz => ?_⟩
        · simp (config := { decide := true, maxDischargeDepth := 20 }) only [up2_s, up2_n, upr_s, upr_n, ne_eq, not_false_eq_true, Nat.reduceAdd]
        · simp (config := { decide := true, maxDischargeDepth := 20 }) only [up2_s, up2_n, upr_s, upr_n, ne_eq, not_false_eq_true, Nat.reduceAdd]
        · simp (config := { decide := true, maxDischargeDepth := 20 }) only [up2_s, up2_n, upr_s, upr_n, ne_eq, not_false_eq_true, Nat.reduceAdd]
        · simp (config := { decide := true, maxDischargeDepth := 20 }) only [up2_s, up2_n, upr_s, upr_n, ne_eq, not_false_eq_true, Nat.reduceAdd]
        · intro z hz
          have h5 : z = 0 ∨ z = 1 ∨ z = 2 ∨ z = 3 ∨ z = 4 := by omega
          have r0 : rwN 0 = 81 := rfl
          have r1 : rwN 1 = 88 := rfl
          have r2 : rwN 2 = 91 := rfl
          have r3 : rwN 3 = 94 := rfl
          have r4 : rwN 4 = 96 := rfl
          rcases h5 with rfl | rfl | rfl | rfl | rfl <;> simp (config := { decide := true, maxDischargeDepth := 20 }) only [up2_s, up2_n, upr_s, upr_n, ne_eq, not_false_eq_true, Nat.reduceAdd, r0, r1, r2, r3, r4, ↓reduceIte]
        · simp (config := { decide := true, maxDischargeDepth := 20 }) only [up2_s, up2_n, upr_s, upr_n, ne_eq, not_false_eq_true, Nat.reduceAdd]
        · simp (config := { decide := true, maxDischargeDepth := 20 }) only [up2_s, up2_n, upr_s, upr_n, ne_eq, not_false_eq_true, Nat.reduceAdd]
        · simp (config := { decide := true, maxDischargeDepth := 20 }) only [up2_s, up2_n, upr_s, upr_n, ne_eq, not_false_eq_true, Nat.reduceAdd]; try rfl
        · simp (config := { decide := true, maxDischargeDepth := 20 }) only [up2_s, up2_n, upr_s, upr_n, ne_eq, not_false_eq_true, Nat.reduceAdd]
        · intro j hj
          simp (config := { decide := true, maxDischargeDepth := 20 }) only [up2_s, up2_n, upr_s, upr_n, ne_eq, not_false_eq_true, Nat.reduceAdd]
        · intro z; exact absurd z (by decide)
        · simp (config := { decide := true, maxDischargeDepth := 20 }) only [up2_s, up2_n, upr_s, upr_n, ne_eq, not_false_eq_true, Nat.reduceAdd]
        · simp (config := { decide := true, maxDischargeDepth := 20 }) only [up2_s, up2_n, upr_s, upr_n, ne_eq, not_false_eq_true, Nat.reduceAdd]
        · simp (config := { decide := true, maxDischargeDepth := 20 }) only [up2_s, up2_n, upr_s, upr_n, ne_eq, not_false_eq_true, Nat.reduceAdd]
        · intro a h1 h2
          rw [up2_n (by omega), up2_n (by omega), up2_n (by omega), up2_n (by omega), up2_n (by omega), up2_n (by omega)]
        · have lP : (lesP kd pl (fun j => lukP (L 8) so nu (kN c) (lN (vl j)) 2) 401 (intP kd pl vl 1 99 (newP kd pl (nwB L (kN c) (vl (takeP kd pl 3 S).1)) (takeP kd pl 3 S))) 0).1.2.2.2.1 = 0 := by rw [take_l] at lz; exact lz
          have lq := l4.2.2 lP
          have v1 := iv_0 (lo' := 1) SE2 (lo := 1) (hi := 99) l4.1
          have w1 := ib_1_99 hT.2.2.1 (S := (newP kd pl (nwB L (kN c) (vl (takeP kd pl 3 S).1)) (takeP kd pl 3 S))) l4.1 lq
          have L1 := (i1.2.2.2.2.2 lq).1
          have ln := nn.2.2.2.2.2 L1
          have l0' : S.2.2.2.1 = 0 := by have := ln.1; rw [take_l] at this; exact this
          obtain ⟨hN, hP, hMe, hLe, hCr, hDi, hSe⟩ := hCl l0'
          have we := (les_SE0 (pl := pl) (lkq l0') 401 _ _ 0 SE3).2
          have wb : (lesP kd pl (fun j => lukP (L 8) so nu (kN c) (lN (vl j)) 2) 401 (intP kd pl vl 1 99 (newP kd pl (nwB L (kN c) (vl (takeP kd pl 3 S).1)) (takeP kd pl 3 S))) 0).2 < 2 ^ (c 2) := les_w (fun j z hz => luk_b (fun i hi h2 => (cM i hi).2 h2) hz) 401 _ 0 (Nat.two_pow_pos _)
          have xz1 : (takeP kd pl 3 Z).1 = (takeP kd pl 3 S).1 := (SE1.2.2 nn.2.1).1.symm
          have k6 : M6 (takeP kd pl 3 Z).1 = lN (mv (takeP kd pl 3 S).1) := by rw [(hT.2.1.2.1 _ G1.1).2.2.2 (by rw [xz1]; exact nn.2.2.1), xz1]
          have nv : newV kd vl (takeP kd pl 3 S) = lN (vl (takeP kd pl 3 S).1) := if_pos nn.2.2.2.2.1
          have nmk := Nam_ap hN nn.2.2.1 ln.2
          rcases hs with rfl | rfl
          · refine ⟨?_, ?_, ?_, ?_, ?_, ?_, ?_⟩
            · rw [kN_up (by decide)]
              simp (config := { decide := true, maxDischargeDepth := 20 }) only [up2_s, up2_n, upr_s, upr_n, ne_eq, not_false_eq_true, Nat.reduceAdd, k6, nv]
              exact nmk
            · simp (config := { decide := true, maxDischargeDepth := 20 }) only [up2_s, up2_n, upr_s, upr_n, ne_eq, not_false_eq_true, Nat.reduceAdd]
              exact hP
            · simp (config := { decide := true, maxDischargeDepth := 20 }) only [up2_s, up2_n, upr_s, upr_n, ne_eq, not_false_eq_true, Nat.reduceAdd]
              exact hMe
            · intro a ha
              have ha' : a < c 2 + 1 := ha
              by_cases ea : a = c 2
              · subst ea
                simp (config := { decide := true, maxDischargeDepth := 20 }) only [up2_s, up2_n, upr_s, upr_n, ne_eq, not_false_eq_true, Nat.reduceAdd, v1.1, v1.2, ← we]
                exact ⟨⟨_, _, w1.1, w1.2, wb, rfl, rfl⟩, by simp⟩
              · have eb : 6 * sd + a ≠ 6 * sd + c 2 := by omega
                simp (config := { decide := true, maxDischargeDepth := 20 }) only [up2_s, up2_n, upr_s, upr_n, ne_eq, not_false_eq_true, Nat.reduceAdd, ea, eb]
                exact hLe a (by omega)
            · simp (config := { decide := true, maxDischargeDepth := 20 }) only [up2_s, up2_n, upr_s, upr_n, ne_eq, not_false_eq_true, Nat.reduceAdd]
              exact hCr
            · simp (config := { decide := true, maxDischargeDepth := 20 }) only [up2_s, up2_n, upr_s, upr_n, ne_eq, not_false_eq_true, Nat.reduceAdd]
              exact hDi
            · simp (config := { decide := true, maxDischargeDepth := 20 }) only [up2_s, up2_n, upr_s, upr_n, ne_eq, not_false_eq_true, Nat.reduceAdd]
              exact hSe
          · refine ⟨?_, ?_, ?_, ?_, ?_, ?_, ?_⟩
            · rw [kN_up (by decide)]
              simp (config := { decide := true, maxDischargeDepth := 20 }) only [up2_s, up2_n, upr_s, upr_n, ne_eq, not_false_eq_true, Nat.reduceAdd, k6, nv]
              exact nmk
            · simp (config := { decide := true, maxDischargeDepth := 20 }) only [up2_s, up2_n, upr_s, upr_n, ne_eq, not_false_eq_true, Nat.reduceAdd]
              exact hP
            · simp (config := { decide := true, maxDischargeDepth := 20 }) only [up2_s, up2_n, upr_s, upr_n, ne_eq, not_false_eq_true, Nat.reduceAdd]
              exact hMe
            · intro a ha
              have ha' : a < c 2 + 1 := ha
              by_cases ea : a = c 2
              · subst ea
                simp (config := { decide := true, maxDischargeDepth := 20 }) only [up2_s, up2_n, upr_s, upr_n, ne_eq, not_false_eq_true, Nat.reduceAdd, v1.1, v1.2, ← we]
                exact ⟨⟨_, _, w1.1, w1.2, wb, rfl, rfl⟩, by simp⟩
              · have eb : 6 * sd + a ≠ 6 * sd + c 2 := by omega
                simp (config := { decide := true, maxDischargeDepth := 20 }) only [up2_s, up2_n, upr_s, upr_n, ne_eq, not_false_eq_true, Nat.reduceAdd, ea, eb]
                exact hLe a (by omega)
            · simp (config := { decide := true, maxDischargeDepth := 20 }) only [up2_s, up2_n, upr_s, upr_n, ne_eq, not_false_eq_true, Nat.reduceAdd]
              exact hCr
            · simp (config := { decide := true, maxDischargeDepth := 20 }) only [up2_s, up2_n, upr_s, upr_n, ne_eq, not_false_eq_true, Nat.reduceAdd]
              exact hDi
            · simp (config := { decide := true, maxDischargeDepth := 20 }) only [up2_s, up2_n, upr_s, upr_n, ne_eq, not_false_eq_true, Nat.reduceAdd]
              exact hSe
    · have GL : GS n (lesP kd pl (fun j => lkM (M 78) (fun i => smN (so i)) nu (lN (mv j)) 1 (kN c) 0) 401 (intM kd pl vl 1 99 (newP kd pl (nwM M (kN c) (mv (takeP kd pl 3 Z).1)) (takeP kd pl 3 Z))) 0).1 := les_GS hT.2.1 401 _ 0 G3
      have GP : GS n (takeP kd pl 25 (lesP kd pl (fun j => lkM (M 78) (fun i => smN (so i)) nu (lN (mv j)) 1 (kN c) 0) 401 (intM kd pl vl 1 99 (newP kd pl (nwM M (kN c) (mv (takeP kd pl 3 Z).1)) (takeP kd pl 3 Z))) 0).1) := GS_take hT.2.1 (by decide) GL
      simp (config := { decide := true, maxDischargeDepth := 20 }) only [↓reduceIte, KV_i, KV_v, wsm_0, wsm_i, wsm_l, wsm_r, dlV_i, dlV_r, dlV_l, dlV_j, cat_i, cat_l, cat_r, rf_s, true_and, and_true, and_self, if_true, if_false, ite_true, ite_false, eq_self, true_or, or_true, false_or, or_false, not_true_eq_false, not_false_eq_true, vn_0_45, vn_1_45, vn_2_45, vn_3_45, vn_4_45, vn_5_45, vn_6_45, vn_7_45, vn_8_45, vn_36_48, vn_37_48, vn_38_48, vn_39_48, vn_40_48, vn_41_48, vn_42_48, vn_43_48, vn_44_48, vn_0_9, vn_1_9, vn_2_9, vn_3_9, vn_4_9, vn_5_9, vn_6_9, vn_7_9, vn_8_9, vn_0_3, vn_1_3, vn_2_3, vn_0_4, vn_1_4, vn_2_4, vn_3_4, vn_0_64, vn_0_16, vn_0_400, vn_0_6, vn_0_14, Int32.reduceToNatClampNeg, Int32.reduceAdd, Int32.reduceSub, Int32.reduceMul, Int32.reduceLE, Int32.reduceLT, Nat.reduceAdd, nr_2, nr_30, nr_31, rd_2, rd_14, rd_71, rd_72, rd_101, rd_116, rd_121, up2_s, up2_n, upr_s, upr_n, ne_eq, not_false_eq_true, ob_70, rx_70_1, rx_70_3, rx_70_5, rx_70_6, rx_70_7, rx_70_8, rx_70_9, rx_70_21, rx_70_22, rx_70_23, rx_70_24, rx_70_25, rx_70_26, rx_70_27, rx_70_28, rx_70_29, rx_70_30, rx_70_31, rx_70_32, rx_70_33, rx_70_34, rx_70_35, rx_70_36, rx_70_37, rx_70_38, rx_70_39, rx_70_40, rx_70_41, rx_70_42, rx_70_43, rx_70_45, rx_70_46, rx_70_47, rx_70_48, rx_70_49, rx_70_51, rx_70_52, rx_70_53, rx_70_55, rx_70_56, rx_70_58, rx_70_59, rx_70_60, rx_70_61, rx_70_63, rx_70_64, rx_70_65, rx_70_70, rx_70_71, rx_70_72, rx_70_73, rx_70_74, r159_0, r159_1, r159_4, r159_5, r159_8, r159_68, r159_69, r159_70, r159_73, r159_74, r159_77, r159_78, r159_80, r159_83, r159_84, r159_87, r159_90, r159_91, r159_94, r159_97, r159_98, r159_99, r159_102, r159_103, r159_106, r159_107, r159_109, r159_112, r159_113, r159_116, r159_119, r159_120, r159_123, r159_126, r159_127, r159_128, r159_131, r159_132, r159_135, r159_136, r159_138, r159_141, r159_142, r159_145, r159_148, r159_149, r159_152, r159_155, r159_156, r159_157, r159_160, r159_161, r159_164, r159_165, r159_167, r159_170, r159_171, r159_174, r159_177, r159_178, r159_181, r159_184, r159_185, r159_186, r159_189, r159_190, r159_193, r159_194, r159_195, r159_198, r159_199, r159_202, r159_205, r159_206, r159_209, r159_212, r159_213, r159_214, r159_217, r159_218, r159_221, r159_222, r159_223, r159_226, r159_227, r159_230, r159_233, r159_234, r159_237, r159_240, r159_241, r159_244, r159_245, r159_248, r159_249, r159_252, r159_253, r159_254, r159_257, r159_260, r159_261, r159_262, r159_263, r159_266, r159_269, r159_270, r159_273, r159_274, r159_277, r159_278, r159_280, r159_281, r159_282, r159_283, r159_286, r159_287, r159_290, r159_291, r159_294, r159_295, r159_297, r159_300, r159_301, r159_302, r159_305, r159_306, r159_309, r159_312, r159_313, r159_314, r159_317, r159_318, r159_319, r159_322, r159_9]
      refine hQm _ _ _ SEP GP ?_ (fun _ _ _ => rfl) (fun f => ?_)
      · repeat' (first | exact FRM_r _ _ | (refine FRM_u ?_ (by first | exact np_79 | exact np_80 | exact np_20 | exact np_81 hd | exact np_88 hd | exact np_91 hd | exact np_94 hd | exact np_96 hd | exact np_98 hd | exact np_82 hd hlt | exact np_83 hd hlt | exact np_84 hd hlt | exact np_85 hd hlt | exact np_89 hd hlt | exact np_90 hd hlt | exact np_92 hd hlt | exact np_93 hd hlt | exact np_95 hd hlt | exact np_97_0 hd hlt | exact np_97_1 hd hlt | exact np_97_2 hd hlt | exact np_97_3 hd hlt | exact np_97_4 hd hlt | exact np_97_5 hd hlt)))
      · have tP := take_0 f
        exact absurd (tP.2.2.2.2.symm.trans ((tkB_e SE4).trans e5)) (by decide)
theorem ch_dp {F : Nat → Int32} {N : Nat} (h : ∀ j, j < N → ∃ d, d ≤ j ∧ F j = nI d) : ∃ dp : Nat → Nat, ∀ j, j < N → F j = nI (dp j) ∧ dp j ≤ j :=
  ⟨fun j => if hj : j < N then Classical.choose (h j hj) else 0, fun j hj => by
    have q := Classical.choose_spec (h j hj)
    simp only [hj, dif_pos]
    exact ⟨q.2, q.1⟩⟩
theorem tur_l {kd pl vl : Nat → Nat} {n : Nat} {K3 K4 : Nat → Int32} {K5 : Nat → Int64} (hT : TKR kd pl vl n K3 K4 K5) {v : PS → Int32} {lk : Nat → Option Nat} {dp : Nat → Nat} {cb : Nat} : ∀ r (S : PS) (m d : Nat) (T W : Nat → Int32), S.1 ≤ n → FZ pl n S → (turP kd pl (intP kd pl vl 0 9) v lk dp cb r S m d T W).1.2.2.2 = S.2.2.2 := by
  intro r
  induction r with
  | zero => intros; rfl
  | succ r ih =>
    intro S m d T W hx hf
    unfold turP
    split
    · split
      · exact stop_l _ _ _
      · have hx2 : (takeP kd pl 23 S).1 ≤ n := take_le hT (by decide) hx
        have c1 : intP kd pl vl 0 9 (knP kd pl (lk S.1) S) = takeP kd pl 24 (takeP kd pl 23 S) := by rw [FZ_kn hf hx, FZ_int (FZ_take hf) hx2]
        rw [ih _ _ _ _ _ (by rw [c1]; exact take_le hT (by decide) hx2) (by rw [c1]; exact FZ_take (FZ_take hf)), c1, take_l, take_l]
    · rfl
theorem SE_finf {kd pl : Nat → Nat} {p : Int32} {m d : Nat} {S Z : PS} (h : SE S Z) (e : S.2.1 ≠ 0) : SE (finT kd pl p m d S) Z := by
  have ff := fin_f (kd := kd) (pl := pl) (p := p) (m := m) (d := d) (S := S)
  rw [take_s e] at ff
  exact ⟨ff.1.trans h.1, fun _ => ff.2.1.trans (h.2.1 e), fun z => absurd (ff.1.symm.trans z) e⟩
theorem FRC_w {s : Nat} {I I' : AI} {L L' : AL} (h : FRC s I I' L L') {a : Nat} {T : Nat → Int32} (n : s ≤ a ∧ a ≤ s + 18) : FRC s I (upr I' a T) L L' := by
  refine ⟨fun b h1 h2 h3 h4 h5 => ?_, h.2⟩
  rw [upr_n (by omega)]
  exact h.1 b h1 h2 h3 h4 h5
theorem FRM_w {lv : Nat} {J J' : AI} (h : FRM lv J J') {a : Nat} {T : Nat → Int32} (n : ∀ k, PRT lv a k → T k = J' a k) : FRM lv J (upr J' a T) := by
  intro b l q
  by_cases e : b = a
  · subst e
    rw [upr_s, n l q]
    exact h b l q
  · rw [upr_n e]; exact h b l q
theorem prt_86 {sd c a k : Nat} (hd : sd ≤ 1) (hc : c < 14) (ha : a = 86 ∨ a = 87) (h : PRT (1 - sd) a k) : k < 3 * (14 * sd + c) + 0 ∨ 3 * (14 * sd + c) + 3 ≤ k := by
  have hz : hsz a = 42 := by rcases ha with rfl | rfl <;> rfl
  unfold PRT at h
  rw [hz] at h
  omega
theorem tur_GS {kd pl vl mv : Nat → Nat} {n : Nat} {K3 K4 K5 : Nat → Int32} {K6 : Nat → Int64} (hT : TMR kd pl vl mv n K3 K4 K5 K6) {v : PS → Int32} {lk : Nat → Option Nat} {dp : Nat → Nat} {cb : Nat} : ∀ r (S : PS) (m d : Nat) (T W : Nat → Int32), GS n S → GS n (turP kd pl (intM kd pl vl 0 9) v lk dp cb r S m d T W).1 := by
  intro r
  induction r with
  | zero => intro S m d T W h; exact h
  | succ r ih =>
    intro S m d T W h
    unfold turP
    split
    · split
      · exact GS_stop (Or.inr rfl) h
      · exact ih _ _ _ _ _ (GS_int hT (GS_kn hT h))
    · exact h
theorem st_Turn {kd pl vl mv : Nat → Nat} {n : Nat} {K3 K4 : Nat → Int32} {K5 : Nat → Int64} {M3 M4 M5 : Nat → Int32} {M6 : Nat → Int64} (hT : TOK kd pl vl mv n K3 K4 K5 M3 M4 M5 M6) {t s sd : Nat} (hs : s = 32 ∨ s = 51) (hd : sd ≤ 1) {c so nu : Nat → Nat} {len : Nat} {Bs : Nat → List (Cd × Cd × Cd)} {Es : Nat → Cd} {I : AI} {L : AL} {S : PS} {Q : PQ} (hC : CW K3 K4 K5 s c so nu len Bs Es I L S.1) (e0 : S.2.1 = 0) (hx : S.1 ≤ n) (hbn : BND pl S) (hq : kd S.1 = 1) (hQ : ∀ I' L' S', STL kd pl vl mv n K3 K4 K5 M3 M4 M5 M6 s sd c so nu Bs Es I L S I' L' S' → Q none 123 (wr I' S') L' (RX t (some s))) : V 32 0 [.ref 7, .retAddr 0, .retAddr 0, .retAddr 0, .retAddr 0, .retAddr 0] [] 123 (wr I S) L (RX t (some s)) Q := by
  have hC' := hC
  obtain ⟨⟨a3, a4, a5⟩, ⟨b0, b1, b2, b3, b4⟩, ⟨l0, l1, l2, l3, l4⟩, c6, cN, cM, cD, ⟨p1, p2, p3⟩, pL⟩ := hC'
  have kb : c 0 < 14 → kN c < 35 := by unfold kN; omega
  obtain ⟨dp, hdp⟩ := ch_dp cD
  refine c_readTurn (dp := dp) hs hT.1 a3 a4 a5 c6 (K9 := I 9) (K10 := I 10) cN rfl rfl hx (fun i hi h2 => (cM i hi).1 h2) hdp b0 l0 kb (fun hlt tq S' m' d' T' W' hE hxn hm3 hdc => hQ _ _ _ ?_) (fun hA => hQ _ _ _ (st_no hT (k := 0) (lim := 14) (len := len) hx e0 hbn (by decide) (by decide) hq hA (fun t u J M Z Qm h3 h4 h19 hc hg h0 hqz hn => m_no_Turn hT.2.1 h3 h4 hd h19 hc l0 hg h0 hqz hn)))
  have kb' := kb hlt
  have tk := take_ok (pl := pl) tq
  have x1 : (takeP kd pl 1 S).1 = S.1 + 1 := by rw [tk.1]
  have hx1 : (takeP kd pl 1 S).1 ≤ n := take_le hT.1 (by decide) hx
  have B1 : BND pl (takeP kd pl 1 S) := BND_take hbn
  have X0 : (newP kd pl (nwB L (kN c) (vl (takeP kd pl 1 S).1)) (takeP kd pl 1 S)).1 ≤ n := new_le hT.1 hx1
  have B2 : BND pl (newP kd pl (nwB L (kN c) (vl (takeP kd pl 1 S).1)) (takeP kd pl 1 S)) := BND_new B1
  have X1 : (intP kd pl vl 0 1 (newP kd pl (nwB L (kN c) (vl (takeP kd pl 1 S).1)) (takeP kd pl 1 S))).1 ≤ n := int_le hT.1 X0
  have B3 : BND pl (intP kd pl vl 0 1 (newP kd pl (nwB L (kN c) (vl (takeP kd pl 1 S).1)) (takeP kd pl 1 S))) := BND_int B2
  have B4 : BND pl S' := by
    have := tur_B (kd := kd) (vl := vl) (lo := 0) (hi := 9) (v := intV kd vl) (lk := (fun j => lukP (L 8) so nu (kN c) (lN (vl j)) 0)) (dp := dp) (cb := 3 * c 0) 4 (intP kd pl vl 0 1 (newP kd pl (nwB L (kN c) (vl (takeP kd pl 1 S).1)) (takeP kd pl 1 S))) 0 0 (I (s + 5)) (I (s + 6)) B3
    rw [hE] at this
    exact this
  have fr : ∀ x, (x < 3 * c 0 + 0 ∨ 3 * c 0 + 3 ≤ x) → T' x = I (s + 5) x ∧ W' x = I (s + 6) x := by
    have := tur_fr (kd := kd) (pl := pl) (g := intP kd pl vl 0 9) (v := intV kd vl) (lk := (fun j => lukP (L 8) so nu (kN c) (lN (vl j)) 0)) (dp := dp) (cb := 3 * c 0) 4 (intP kd pl vl 0 1 (newP kd pl (nwB L (kN c) (vl (takeP kd pl 1 S).1)) (takeP kd pl 1 S))) 0 0 (I (s + 5)) (I (s + 6)) (by decide)
    rw [hE] at this
    exact this
  have jp : S'.2.1 = 0 → (takeP kd pl 1 S).1 < S'.1 := fun f => by
    have q0 := tur_0 hT.2.2.1 (lk := (fun j => lukP (L 8) so nu (kN c) (lN (vl j)) 0)) (dp := dp) (cb := 3 * c 0) (c := c 0) (fun j z hz => luk_b (fun i hi h2 => (cM i hi).1 h2) hz) 4 (intP kd pl vl 0 1 (newP kd pl (nwB L (kN c) (vl (takeP kd pl 1 S).1)) (takeP kd pl 1 S))) 0 0 (I (s + 5)) (I (s + 6)) (by decide) (by rw [hE]; exact f)
    rw [hE] at q0
    have i1 := int_0 q0.1
    have nn := new_0 i1.2.1
    have h1 : (intP kd pl vl 0 1 (newP kd pl (nwB L (kN c) (vl (takeP kd pl 1 S).1)) (takeP kd pl 1 S))).1 ≤ S'.1 := q0.2.1
    have := i1.1
    have := nn.1
    omega
  have fx := fin_f (kd := kd) (pl := pl) (p := (nI (pl (takeP kd pl 1 S).1))) (m := m') (d := d') (S := S')
  refine ⟨by rw [fx.2.2]; exact take_le hT.1 (by decide) hxn, fin_B B4 jp, ?_, upr c 0 (c 0 + 1), upr so (kN c) 0, upr nu (kN c) (c 0), len, Bs, Es, fun f => ?_, fun t u J M Z Qm hSE hg hM hCl hQm => ?_⟩
  · unfold tm
    refine FRC_l ?_
    repeat' (first | exact FRC_r _ _ _ | (refine FRC_u ?_ (by omega)) | (refine FRC_w ?_ (by omega)))
  · have hs' := hs
    have ff := fin_f (kd := kd) (pl := pl) (p := (nI (pl (takeP kd pl 1 S).1))) (m := m') (d := d') (S := S')
    have tP := take_0 (ff.1.symm.trans f)
    have q0 := tur_0 hT.2.2.1 (lk := (fun j => lukP (L 8) so nu (kN c) (lN (vl j)) 0)) (dp := dp) (cb := 3 * c 0) (c := c 0) (fun j z hz => luk_b (fun i hi h2 => (cM i hi).1 h2) hz) 4 (intP kd pl vl 0 1 (newP kd pl (nwB L (kN c) (vl (takeP kd pl 1 S).1)) (takeP kd pl 1 S))) 0 0 (I (s + 5)) (I (s + 6)) (by decide) (by rw [hE]; exact tP.2.1)
    rw [hE] at q0
    have i1 := int_0 q0.1
    have nn := new_0 i1.2.1
    have yP : (finT kd pl (nI (pl (takeP kd pl 1 S).1)) m' d' S').1 = S'.1 + 1 := by rw [ff.2.2, tP.1]
    have lt : S.1 < (finT kd pl (nI (pl (takeP kd pl 1 S).1)) m' d' S').1 := by
      have h1 : (intP kd pl vl 0 1 (newP kd pl (nwB L (kN c) (vl (takeP kd pl 1 S).1)) (takeP kd pl 1 S))).1 ≤ S'.1 := q0.2.1
      have := i1.1
      have := nn.1
      omega
    refine ⟨lt, ?_⟩
    unfold tm
    rcases hs with rfl | rfl
    · refine CW_name hC (k := 0) (by decide) hlt ?_ ?_ ?_ ?_ ?_ ?_ ?_ ?_ ?_ ?_ ?_ ?_ (by omega)
      · simp (config := { decide := true, maxDischargeDepth := 20 }) only [up2_s, up2_n, upr_s, upr_n, ne_eq, not_false_eq_true, Nat.reduceAdd]
      · simp (config := { decide := true, maxDischargeDepth := 20 }) only [up2_s, up2_n, upr_s, upr_n, ne_eq, not_false_eq_true, Nat.reduceAdd]
      · simp (config := { decide := true, maxDischargeDepth := 20 }) only [up2_s, up2_n, upr_s, upr_n, ne_eq, not_false_eq_true, Nat.reduceAdd]
      · intro z z1 z2
        simp (config := { decide := true, maxDischargeDepth := 20 }) only [up2_s, up2_n, upr_s, upr_n, ne_eq, not_false_eq_true, Nat.reduceAdd]
      · simp (config := { decide := true, maxDischargeDepth := 20 }) only [up2_s, up2_n, upr_s, upr_n, ne_eq, not_false_eq_true, Nat.reduceAdd]
      · simp (config := { decide := true, maxDischargeDepth := 20 }) only [up2_s, up2_n, upr_s, upr_n, ne_eq, not_false_eq_true, Nat.reduceAdd]; try rfl
      · simp (config := { decide := true, maxDischargeDepth := 20 }) only [up2_s, up2_n, upr_s, upr_n, ne_eq, not_false_eq_true, Nat.reduceAdd]
      · intro j hj
        have jn : j ≠ c 0 := by omega
        simp (config := { decide := true, maxDischargeDepth := 20 }) only [up2_s, up2_n, upr_s, upr_n, ne_eq, not_false_eq_true, Nat.reduceAdd, jn]
      · intro _
        exact ⟨d', hdc, by simp (config := { decide := true, maxDischargeDepth := 20 }) only [up2_s, up2_n, upr_s, upr_n, ne_eq, not_false_eq_true, Nat.reduceAdd]; try rfl⟩
      · simp (config := { decide := true, maxDischargeDepth := 20 }) only [up2_s, up2_n, upr_s, upr_n, ne_eq, not_false_eq_true, Nat.reduceAdd]
      · simp (config := { decide := true, maxDischargeDepth := 20 }) only [up2_s, up2_n, upr_s, upr_n, ne_eq, not_false_eq_true, Nat.reduceAdd]
      · simp (config := { decide := true, maxDischargeDepth := 20 }) only [up2_s, up2_n, upr_s, upr_n, ne_eq, not_false_eq_true, Nat.reduceAdd]
    · refine CW_name hC (k := 0) (by decide) hlt ?_ ?_ ?_ ?_ ?_ ?_ ?_ ?_ ?_ ?_ ?_ ?_ (by omega)
      · simp (config := { decide := true, maxDischargeDepth := 20 }) only [up2_s, up2_n, upr_s, upr_n, ne_eq, not_false_eq_true, Nat.reduceAdd]
      · simp (config := { decide := true, maxDischargeDepth := 20 }) only [up2_s, up2_n, upr_s, upr_n, ne_eq, not_false_eq_true, Nat.reduceAdd]
      · simp (config := { decide := true, maxDischargeDepth := 20 }) only [up2_s, up2_n, upr_s, upr_n, ne_eq, not_false_eq_true, Nat.reduceAdd]
      · intro z z1 z2
        simp (config := { decide := true, maxDischargeDepth := 20 }) only [up2_s, up2_n, upr_s, upr_n, ne_eq, not_false_eq_true, Nat.reduceAdd]
      · simp (config := { decide := true, maxDischargeDepth := 20 }) only [up2_s, up2_n, upr_s, upr_n, ne_eq, not_false_eq_true, Nat.reduceAdd]
      · simp (config := { decide := true, maxDischargeDepth := 20 }) only [up2_s, up2_n, upr_s, upr_n, ne_eq, not_false_eq_true, Nat.reduceAdd]; try rfl
      · simp (config := { decide := true, maxDischargeDepth := 20 }) only [up2_s, up2_n, upr_s, upr_n, ne_eq, not_false_eq_true, Nat.reduceAdd]
      · intro j hj
        have jn : j ≠ c 0 := by omega
        simp (config := { decide := true, maxDischargeDepth := 20 }) only [up2_s, up2_n, upr_s, upr_n, ne_eq, not_false_eq_true, Nat.reduceAdd, jn]
      · intro _
        exact ⟨d', hdc, by simp (config := { decide := true, maxDischargeDepth := 20 }) only [up2_s, up2_n, upr_s, upr_n, ne_eq, not_false_eq_true, Nat.reduceAdd]; try rfl⟩
      · simp (config := { decide := true, maxDischargeDepth := 20 }) only [up2_s, up2_n, upr_s, upr_n, ne_eq, not_false_eq_true, Nat.reduceAdd]
      · simp (config := { decide := true, maxDischargeDepth := 20 }) only [up2_s, up2_n, upr_s, upr_n, ne_eq, not_false_eq_true, Nat.reduceAdd]
      · simp (config := { decide := true, maxDischargeDepth := 20 }) only [up2_s, up2_n, upr_s, upr_n, ne_eq, not_false_eq_true, Nat.reduceAdd]
  · have ez : Z.2.1 = 0 := by rw [← hSE.1]; exact e0
    have xz : Z.1 = S.1 := (hSE.2.2 e0).1.symm
    have hM' := hM
    obtain ⟨⟨m3, m4, m5, m6⟩, ⟨d0, d1, d2, d3, d4⟩, ⟨c19, c20⟩, mN, mD, mL⟩ := hM'
    have tz : tkB kd 1 Z = true := by rw [← tkB_e hSE]; exact tq
    have fz := take_f0 (pl := pl) tz
    have SE1 : SE (takeP kd pl 1 S) (takeP kd pl 1 Z) := SE_take hSE
    have G1 : GS n (takeP kd pl 1 Z) := GS_take hT.2.1 (by decide) hg
    have xz1 : (takeP kd pl 1 Z).1 = (takeP kd pl 1 S).1 := (SE1.2.2 (take_f0 tq)).1.symm
    have SE2 : SE (newP kd pl (nwB L (kN c) (vl (takeP kd pl 1 S).1)) (takeP kd pl 1 S)) (newP kd pl (nwM M (kN c) (mv (takeP kd pl 1 Z).1)) (takeP kd pl 1 Z)) := SE_new2 hT SE1 hx1 B1 (fun z => (hCl (by rw [take_l] at z; exact z)).1)
    have G2 : GS n (newP kd pl (nwM M (kN c) (mv (takeP kd pl 1 Z).1)) (takeP kd pl 1 Z)) := GS_new hT.2.1 G1
    have SE3 : SE (intP kd pl vl 0 1 (newP kd pl (nwB L (kN c) (vl (takeP kd pl 1 S).1)) (takeP kd pl 1 S))) (intM kd pl vl 0 1 (newP kd pl (nwM M (kN c) (mv (takeP kd pl 1 Z).1)) (takeP kd pl 1 Z))) := SE_int SE2
    have G3 : GS n (intM kd pl vl 0 1 (newP kd pl (nwM M (kN c) (mv (takeP kd pl 1 Z).1)) (takeP kd pl 1 Z))) := GS_int hT.2.1 G2
    have lkq : S.2.2.2.1 = 0 → ∀ j, kd j = 23 → (fun j => lukP (L 8) so nu (kN c) (lN (vl j)) 0) j = (fun j => lkM (M 78) (fun i => smN (so i)) nu (lN (mv j)) 0 (kN c) 0) j := fun z j hj => Nam_lk hT (hCl z).1 hj (fun z => smN_0 z)
    obtain ⟨dm, hdm, hds⟩ : ∃ dm : Nat → Nat, (∀ j, j < c 0 → J 85 (14 * sd + j) = nI (dm j) ∧ dm j ≤ j) ∧ (S.2.2.2.1 = 0 → dm = dp) := by
      by_cases z : S.2.2.2.1 = 0
      · refine ⟨dp, fun j hj => ?_, fun _ => rfl⟩
        obtain ⟨_, hP, _⟩ := hCl z
        rw [(hP j hj).2.1.2.2.2]
        exact hdp j hj
      · obtain ⟨dm, hdm⟩ := ch_dp (F := fun j => J 85 (14 * sd + j)) mD
        exact ⟨dm, hdm, fun y => absurd y z⟩
    have key : ∀ Z' mz dz Tz Wz, (turP kd pl (intM kd pl vl 0 9) (intW kd vl 0) (fun j => lkM (M 78) (fun i => smN (so i)) nu (lN (mv j)) 0 (kN c) 0) dm (3 * (14 * sd + c 0)) 4 (intM kd pl vl 0 1 (newP kd pl (nwM M (kN c) (mv (takeP kd pl 1 Z).1)) (takeP kd pl 1 Z))) 0 0 (J 86) (J 87)) = (Z', mz, dz, Tz, Wz) → SE S' Z' ∧ mz = m' ∧ SE (finT kd pl (nI (pl (takeP kd pl 1 S).1)) m' d' S') (takeP kd pl 25 (finM (nI (pl (takeP kd pl 1 Z).1)) mz dz Z')) ∧ (S.2.2.2.1 = 0 → dz = d' ∧ (S'.2.1 = 0 → ∀ x, 0 ≤ x → x < m' → T' (3 * c 0 + x) = Tz (3 * (14 * sd + c 0) + x) ∧ W' (3 * c 0 + x) = Wz (3 * (14 * sd + c 0) + x))) ∧ (∀ x, (x < 3 * (14 * sd + c 0) + 0 ∨ 3 * (14 * sd + c 0) + 3 ≤ x) → Tz x = J 86 x ∧ Wz x = J 87 x) := by
      intro Z' mz dz Tz Wz hZ
      have frz := tur_fr (kd := kd) (pl := pl) (g := intM kd pl vl 0 9) (v := intW kd vl 0) (lk := (fun j => lkM (M 78) (fun i => smN (so i)) nu (lN (mv j)) 0 (kN c) 0)) (dp := dm) (cb := 3 * (14 * sd + c 0)) 4 (intM kd pl vl 0 1 (newP kd pl (nwM M (kN c) (mv (takeP kd pl 1 Z).1)) (takeP kd pl 1 Z))) 0 0 (J 86) (J 87) (by decide)
      rw [hZ] at frz
      by_cases z : S.2.2.2.1 = 0
      · have q := tur_SE0 (vl := vl) (pl := pl) (lkq z) (dp := dp) (cb := 3 * c 0) (cb' := 3 * (14 * sd + c 0)) 4 (intP kd pl vl 0 1 (newP kd pl (nwB L (kN c) (vl (takeP kd pl 1 S).1)) (takeP kd pl 1 S))) (intM kd pl vl 0 1 (newP kd pl (nwM M (kN c) (mv (takeP kd pl 1 Z).1)) (takeP kd pl 1 Z))) 0 0 (I (s + 5)) (I (s + 6)) (J 86) (J 87) (by decide) SE3
        rw [hds z] at hZ
        rw [hE, hZ] at q
        obtain ⟨q1, q2, q3, q4⟩ := q
        have q2' : m' = mz := q2
        have q3' : d' = dz := q3
        subst q2' q3'
        rw [xz1]
        exact ⟨q1, rfl, SE_fin q1, fun _ => ⟨rfl, q4⟩, frz⟩
      · have F1 := FZ_take (kd := kd) (q := 1) (FZ_of hT hbn.1 hx e0 z)
        have e2 : (newP kd pl (nwB L (kN c) (vl (takeP kd pl 1 S).1)) (takeP kd pl 1 S)) = takeP kd pl 23 (takeP kd pl 1 S) := FZ_new F1 hx1
        have F2 : FZ pl n (newP kd pl (nwB L (kN c) (vl (takeP kd pl 1 S).1)) (takeP kd pl 1 S)) := by rw [e2]; exact FZ_take F1
        have e3 : (intP kd pl vl 0 1 (newP kd pl (nwB L (kN c) (vl (takeP kd pl 1 S).1)) (takeP kd pl 1 S))) = takeP kd pl 24 (newP kd pl (nwB L (kN c) (vl (takeP kd pl 1 S).1)) (takeP kd pl 1 S)) := FZ_int F2 X0
        have F3 : FZ pl n (intP kd pl vl 0 1 (newP kd pl (nwB L (kN c) (vl (takeP kd pl 1 S).1)) (takeP kd pl 1 S))) := by rw [e3]; exact FZ_take F2
        have q := tur_SE1 hT.1 (l1 := (fun j => lukP (L 8) so nu (kN c) (lN (vl j)) 0)) (l2 := (fun j => lkM (M 78) (fun i => smN (so i)) nu (lN (mv j)) 0 (kN c) 0)) (dp := dp) (dp' := dm) (cb := 3 * c 0) (cb' := 3 * (14 * sd + c 0)) 4 (intP kd pl vl 0 1 (newP kd pl (nwB L (kN c) (vl (takeP kd pl 1 S).1)) (takeP kd pl 1 S))) (intM kd pl vl 0 1 (newP kd pl (nwM M (kN c) (mv (takeP kd pl 1 Z).1)) (takeP kd pl 1 Z))) 0 0 0 (I (s + 5)) (I (s + 6)) (J 86) (J 87) SE3 X1 F3
        rw [hE, hZ] at q
        obtain ⟨q1, q2, q3⟩ := q
        have q2' : m' = mz := q2
        subst q2'
        have ll := tur_l hT.1 (v := intV kd vl) (lk := (fun j => lukP (L 8) so nu (kN c) (lN (vl j)) 0)) (dp := dp) (cb := 3 * c 0) 4 (intP kd pl vl 0 1 (newP kd pl (nwB L (kN c) (vl (takeP kd pl 1 S).1)) (takeP kd pl 1 S))) 0 0 (I (s + 5)) (I (s + 6)) X1 F3
        rw [hE] at ll
        have l1 : S'.2.2.2 = (takeP kd pl 1 S).2.2.2 := by
          have : S'.2.2.2 = (intP kd pl vl 0 1 (newP kd pl (nwB L (kN c) (vl (takeP kd pl 1 S).1)) (takeP kd pl 1 S))).2.2.2 := ll
          rw [this, e3, take_l, e2, take_l]
        have fq := fin_fz (kd := kd) (m := m') (d := d') (m2 := m') (d2 := dz) (S := S') (Z := Z') F1 (Nat.le_refl _) hx1 l1 (fun zf => by
          have sf : S'.2.1 = 0 := by have : S'.2.1 = Z'.2.1 := q1.1; rw [this]; exact zf
          have zz := q1.2.2 sf
          rw [← l1]
          have ln : S'.2.2.2.1 ≠ 0 := q3.1
          exact (Prod.ext zz.2.1 (zz.2.2 ln)).symm)
        rw [xz1, fq.1, fq.2]
        exact ⟨q1, rfl, SE_take q1, fun y => absurd y z, frz⟩
    have y1 := inT (a := Z.1) (N := 403) (by have := hT.1.1; omega) (by decide)
    have y2 := nI_clamp (n := Z.1) (by have := hT.1.1; omega)
    have w1 := inT (a := sd) (N := 2) (by omega) (by decide)
    have w2 := nI_clamp (n := sd) (by omega)
    have y3 : M3 Z.1 = 21 := by rw [(hT.2.1.2.1 Z.1 hg.1).1, xz, hq]; rfl
    have c1 : c 0 < 100 := by omega
    have ne : (c 0 = 14) = False := eq_false (by omega)
    have tg : goP pl Z = (takeP kd pl 1 Z) := by rw [take_is, if_pos (by unfold isP; rw [decide_eq_true ez, decide_eq_true (xz ▸ hq)]; rfl)]
    have mN3 : ∀ i, i < kN c → J 79 i = nI (smN (so i)) ∧ smN (so i) < 3 ∧ J 80 i = nI (nu i) := fun i hi => ⟨(mN i hi).1, smN_3 _, (mN i hi).2⟩
    simp (config := { decide := true, maxDischargeDepth := 20 }) only [↓reduceIte, KV_i, KV_v, wsm_0, wsm_i, wsm_l, wsm_r, dlV_i, dlV_r, dlV_l, dlV_j, cat_i, cat_l, cat_r, rf_s, true_and, and_true, and_self, if_true, if_false, ite_true, ite_false, eq_self, true_or, or_true, false_or, or_false, not_true_eq_false, not_false_eq_true, vn_0_45, vn_1_45, vn_2_45, vn_3_45, vn_4_45, vn_5_45, vn_6_45, vn_7_45, vn_8_45, vn_36_48, vn_37_48, vn_38_48, vn_39_48, vn_40_48, vn_41_48, vn_42_48, vn_43_48, vn_44_48, vn_0_9, vn_1_9, vn_2_9, vn_3_9, vn_4_9, vn_5_9, vn_6_9, vn_7_9, vn_8_9, vn_0_3, vn_1_3, vn_2_3, vn_0_4, vn_1_4, vn_2_4, vn_3_4, vn_0_64, vn_0_16, vn_0_400, vn_0_6, vn_0_14, Int32.reduceToNatClampNeg, Int32.reduceAdd, Int32.reduceSub, Int32.reduceMul, Int32.reduceLE, Int32.reduceLT, Nat.reduceAdd, nr_2, nr_30, nr_31, rd_2, rd_14, rd_71, rd_72, rd_101, rd_116, rd_121, up2_s, up2_n, upr_s, upr_n, ne_eq, not_false_eq_true, ob_70, rx_70_1, rx_70_3, rx_70_5, rx_70_6, rx_70_7, rx_70_8, rx_70_9, rx_70_21, rx_70_22, rx_70_23, rx_70_24, rx_70_25, rx_70_26, rx_70_27, rx_70_28, rx_70_29, rx_70_30, rx_70_31, rx_70_32, rx_70_33, rx_70_34, rx_70_35, rx_70_36, rx_70_37, rx_70_38, rx_70_39, rx_70_40, rx_70_41, rx_70_42, rx_70_43, rx_70_45, rx_70_46, rx_70_47, rx_70_48, rx_70_49, rx_70_51, rx_70_52, rx_70_53, rx_70_55, rx_70_56, rx_70_58, rx_70_59, rx_70_60, rx_70_61, rx_70_63, rx_70_64, rx_70_65, rx_70_70, rx_70_71, rx_70_72, rx_70_73, rx_70_74, r159_0, r159_1, r159_4, r159_5, r159_8, r159_68, r159_69, r159_70, r159_73, r159_74, r159_77, r159_78, r159_80, r159_83, r159_84, r159_87, r159_90, r159_91, r159_94, r159_97, r159_98, r159_99, r159_102, r159_103, r159_106, r159_107, r159_109, r159_112, r159_113, r159_116, r159_119, r159_120, r159_123, r159_126, r159_127, r159_128, r159_131, r159_132, r159_135, r159_136, r159_138, r159_141, r159_142, r159_145, r159_148, r159_149, r159_152, r159_155, r159_156, r159_157, r159_160, r159_161, r159_164, r159_165, r159_167, r159_170, r159_171, r159_174, r159_177, r159_178, r159_181, r159_184, r159_185, r159_186, r159_189, r159_190, r159_193, r159_194, r159_195, r159_198, r159_199, r159_202, r159_205, r159_206, r159_209, r159_212, r159_213, r159_214, r159_217, r159_218, r159_221, r159_222, r159_223, r159_226, r159_227, r159_230, r159_233, r159_234, r159_237, r159_240, r159_241, r159_244, r159_245, r159_248, r159_249, r159_252, r159_253, r159_254, r159_257, r159_260, r159_261, r159_262, r159_263, r159_266, r159_269, r159_270, r159_273, r159_274, r159_277, r159_278, r159_280, r159_281, r159_282, r159_283, r159_286, r159_287, r159_290, r159_291, r159_294, r159_295, r159_297, r159_300, r159_301, r159_302, r159_305, r159_306, r159_309, r159_312, r159_313, r159_314, r159_317, r159_318, r159_319, r159_322, r159_9, tg_73, ln_73, tg_81, ln_81, wm_11, wm_13, wm_14, wm_15, wm_16, wm_4, wm_12, wm_18, wm_19, wm_20, wm_44, wm_50, wm_54, wm_n, wm_up, wm_u11, wm_u13, wm_u14, wm_u15, wm_u16, wm_u12, wm_u18, wm_u19, wm_u20, wm_u44, wm_u50, wm_u54, m_room_14 hT.2.1, m3, m4, c19, d0, hg, ez, c1, ne, y1, y2, w1, w2, y3, tg, fz]
    refine m_tellTurn (so := fun i => smN (so i)) (nu := nu) (dp := dm) hT.2.1 m3 m4 m5 m6 c20 kb' mN3 c19 hd hlt (fun i hi h2 => (cM i hi).1 ((smN_0 _).mp h2)) hdm d0 G1 (fun Z' mz dz Tz Wz hZ GZ mz3 dzc e5 => ?_) (fun Z' mz dz Tz Wz hZ GZ mz3 dzc e5 => ?_) (fun Z' mz dz Tz Wz hZ fZ => ?_)
    · obtain ⟨q1, q2, q3, q4, q5⟩ := key Z' mz dz Tz Wz hZ
      have GP : GS n (takeP kd pl 25 (finM (nI (pl (takeP kd pl 1 Z).1)) mz dz Z')) := GS_take hT.2.1 (by decide) (GS_fin GZ)
      simp (config := { decide := true, maxDischargeDepth := 20 }) only [↓reduceIte, KV_i, KV_v, wsm_0, wsm_i, wsm_l, wsm_r, dlV_i, dlV_r, dlV_l, dlV_j, cat_i, cat_l, cat_r, rf_s, true_and, and_true, and_self, if_true, if_false, ite_true, ite_false, eq_self, true_or, or_true, false_or, or_false, not_true_eq_false, not_false_eq_true, vn_0_45, vn_1_45, vn_2_45, vn_3_45, vn_4_45, vn_5_45, vn_6_45, vn_7_45, vn_8_45, vn_36_48, vn_37_48, vn_38_48, vn_39_48, vn_40_48, vn_41_48, vn_42_48, vn_43_48, vn_44_48, vn_0_9, vn_1_9, vn_2_9, vn_3_9, vn_4_9, vn_5_9, vn_6_9, vn_7_9, vn_8_9, vn_0_3, vn_1_3, vn_2_3, vn_0_4, vn_1_4, vn_2_4, vn_3_4, vn_0_64, vn_0_16, vn_0_400, vn_0_6, vn_0_14, Int32.reduceToNatClampNeg, Int32.reduceAdd, Int32.reduceSub, Int32.reduceMul, Int32.reduceLE, Int32.reduceLT, Nat.reduceAdd, nr_2, nr_30, nr_31, rd_2, rd_14, rd_71, rd_72, rd_101, rd_116, rd_121, up2_s, up2_n, upr_s, upr_n, ne_eq, not_false_eq_true, ob_70, rx_70_1, rx_70_3, rx_70_5, rx_70_6, rx_70_7, rx_70_8, rx_70_9, rx_70_21, rx_70_22, rx_70_23, rx_70_24, rx_70_25, rx_70_26, rx_70_27, rx_70_28, rx_70_29, rx_70_30, rx_70_31, rx_70_32, rx_70_33, rx_70_34, rx_70_35, rx_70_36, rx_70_37, rx_70_38, rx_70_39, rx_70_40, rx_70_41, rx_70_42, rx_70_43, rx_70_45, rx_70_46, rx_70_47, rx_70_48, rx_70_49, rx_70_51, rx_70_52, rx_70_53, rx_70_55, rx_70_56, rx_70_58, rx_70_59, rx_70_60, rx_70_61, rx_70_63, rx_70_64, rx_70_65, rx_70_70, rx_70_71, rx_70_72, rx_70_73, rx_70_74, r159_0, r159_1, r159_4, r159_5, r159_8, r159_68, r159_69, r159_70, r159_73, r159_74, r159_77, r159_78, r159_80, r159_83, r159_84, r159_87, r159_90, r159_91, r159_94, r159_97, r159_98, r159_99, r159_102, r159_103, r159_106, r159_107, r159_109, r159_112, r159_113, r159_116, r159_119, r159_120, r159_123, r159_126, r159_127, r159_128, r159_131, r159_132, r159_135, r159_136, r159_138, r159_141, r159_142, r159_145, r159_148, r159_149, r159_152, r159_155, r159_156, r159_157, r159_160, r159_161, r159_164, r159_165, r159_167, r159_170, r159_171, r159_174, r159_177, r159_178, r159_181, r159_184, r159_185, r159_186, r159_189, r159_190, r159_193, r159_194, r159_195, r159_198, r159_199, r159_202, r159_205, r159_206, r159_209, r159_212, r159_213, r159_214, r159_217, r159_218, r159_221, r159_222, r159_223, r159_226, r159_227, r159_230, r159_233, r159_234, r159_237, r159_240, r159_241, r159_244, r159_245, r159_248, r159_249, r159_252, r159_253, r159_254, r159_257, r159_260, r159_261, r159_262, r159_263, r159_266, r159_269, r159_270, r159_273, r159_274, r159_277, r159_278, r159_280, r159_281, r159_282, r159_283, r159_286, r159_287, r159_290, r159_291, r159_294, r159_295, r159_297, r159_300, r159_301, r159_302, r159_305, r159_306, r159_309, r159_312, r159_313, r159_314, r159_317, r159_318, r159_319, r159_322, r159_9]
      unfold tw
      refine hQm _ _ _ q3 GP ?_ (FRL_u (fun _ _ _ => rfl)) (fun f => ?_)
      · repeat' (first | exact FRM_r _ _ | (refine FRM_u ?_ (by first | exact np_79 | exact np_80 | exact np_20 | exact np_81 hd | exact np_88 hd | exact np_91 hd | exact np_94 hd | exact np_96 hd | exact np_98 hd | exact np_82 hd hlt | exact np_83 hd hlt | exact np_84 hd hlt | exact np_85 hd hlt | exact np_89 hd hlt | exact np_90 hd hlt | exact np_92 hd hlt | exact np_93 hd hlt | exact np_95 hd hlt | exact np_97_0 hd hlt | exact np_97_1 hd hlt | exact np_97_2 hd hlt | exact np_97_3 hd hlt | exact np_97_4 hd hlt | exact np_97_5 hd hlt)) | (refine FRM_w ?_ (fun k hk => by first | exact (q5 k (prt_86 hd hlt (Or.inl rfl) hk)).1 | exact (q5 k (prt_86 hd hlt (Or.inr rfl) hk)).2)))
      · have hs' := hs
        have ff := fin_f (kd := kd) (pl := pl) (p := (nI (pl (takeP kd pl 1 S).1))) (m := m') (d := d') (S := S')
        have tP := take_0 (ff.1.symm.trans f)
        have q0 := tur_0 hT.2.2.1 (lk := (fun j => lukP (L 8) so nu (kN c) (lN (vl j)) 0)) (dp := dp) (cb := 3 * c 0) (c := c 0) (fun j z hz => luk_b (fun i hi h2 => (cM i hi).1 h2) hz) 4 (intP kd pl vl 0 1 (newP kd pl (nwB L (kN c) (vl (takeP kd pl 1 S).1)) (takeP kd pl 1 S))) 0 0 (I (s + 5)) (I (s + 6)) (by decide) (by rw [hE]; exact tP.2.1)
        rw [hE] at q0
        have i1 := int_0 q0.1
        have nn := new_0 i1.2.1
        have yP : (finT kd pl (nI (pl (takeP kd pl 1 S).1)) m' d' S').1 = S'.1 + 1 := by rw [ff.2.2, tP.1]
        have lt : S.1 < (finT kd pl (nI (pl (takeP kd pl 1 S).1)) m' d' S').1 := by
          have h1 : (intP kd pl vl 0 1 (newP kd pl (nwB L (kN c) (vl (takeP kd pl 1 S).1)) (takeP kd pl 1 S))).1 ≤ S'.1 := q0.2.1
          have := i1.1
          have := nn.1
          omega
        refine ⟨MW_name hM (k := 0) (by decide) ?_ ?_ ?_ ?_ ?_ ?_ ?_ ?_ ?_ ?_ ?_ ?_ ?_ ?_ ?_ (by omega), fun lz => ?_⟩
        · simp (config := { decide := true, maxDischargeDepth := 20 }) only [up2_s, up2_n, upr_s, upr_n, ne_eq, not_false_eq_true, Nat.reduceAdd]
        · simp (config := { decide := true, maxDischargeDepth := 20 }) only [up2_s, up2_n, upr_s, upr_n, ne_eq, not_false_eq_true, Nat.reduceAdd]
        · simp (config := { decide := true, maxDischargeDepth := 20 }) only [up2_s, up2_n, upr_s, upr_n, ne_eq, not_false_eq_true, Nat.reduceAdd]
        · simp (config := { decide := true, maxDischargeDepth := 20 }) only [up2_s, up2_n, upr_s, upr_n, ne_eq, not_false_eq_true, Nat.reduceAdd]
        · intro z hz
          have h5 : z = 0 ∨ z = 1 ∨ z = 2 ∨ z = 3 ∨ z = 4 := by omega
          have r0 : rwN 0 = 81 := rfl
          have r1 : rwN 1 = 88 := rfl
          have r2 : rwN 2 = 91 := rfl
          have r3 : rwN 3 = 94 := rfl
          have r4 : rwN 4 = 96 := rfl
          rcases h5 with rfl | rfl | rfl | rfl | rfl <;> simp (config := { decide := true, maxDischargeDepth := 20 }) only [up2_s, up2_n, upr_s, upr_n, ne_eq, not_false_eq_true, Nat.reduceAdd, r0, r1, r2, r3, r4, ↓reduceIte]
        · simp (config := { decide := true, maxDischargeDepth := 20 }) only [up2_s, up2_n, upr_s, upr_n, ne_eq, not_false_eq_true, Nat.reduceAdd]
        · simp (config := { decide := true, maxDischargeDepth := 20 }) only [up2_s, up2_n, upr_s, upr_n, ne_eq, not_false_eq_true, Nat.reduceAdd]
        · simp (config := { decide := true, maxDischargeDepth := 20 }) only [up2_s, up2_n, upr_s, upr_n, ne_eq, not_false_eq_true, Nat.reduceAdd]; try rfl
        · simp (config := { decide := true, maxDischargeDepth := 20 }) only [up2_s, up2_n, upr_s, upr_n, ne_eq, not_false_eq_true, Nat.reduceAdd]
        · intro j hj
          have jn : 14 * sd + j ≠ 14 * sd + c 0 := by omega
          simp (config := { decide := true, maxDischargeDepth := 20 }) only [up2_s, up2_n, upr_s, upr_n, ne_eq, not_false_eq_true, Nat.reduceAdd, jn]
        · intro _
          exact ⟨dz, dzc, by simp (config := { decide := true, maxDischargeDepth := 20 }) only [up2_s, up2_n, upr_s, upr_n, ne_eq, not_false_eq_true, Nat.reduceAdd]; try rfl⟩
        · simp (config := { decide := true, maxDischargeDepth := 20 }) only [up2_s, up2_n, upr_s, upr_n, ne_eq, not_false_eq_true, Nat.reduceAdd]
        · simp (config := { decide := true, maxDischargeDepth := 20 }) only [up2_s, up2_n, upr_s, upr_n, ne_eq, not_false_eq_true, Nat.reduceAdd]
        · simp (config := { decide := true, maxDischargeDepth := 20 }) only [up2_s, up2_n, upr_s, upr_n, ne_eq, not_false_eq_true, Nat.reduceAdd]
        · intro a h1 h2
          rw [up2_n (by omega), up2_n (by omega), up2_n (by omega), up2_n (by omega), up2_n (by omega), up2_n (by omega), upr_n (by omega), upr_n (by omega), up2_n (by omega), up2_n (by omega)]
        · have lf := fin_0 lz
          have lq := q0.2.2.2.2 lf.2.2
          have v1 := iv_0 (lo' := 0) SE2 (lo := 0) (hi := 1) q0.1
          have w1 := ib_0_1 hT.2.2.1 (S := (newP kd pl (nwB L (kN c) (vl (takeP kd pl 1 S).1)) (takeP kd pl 1 S))) q0.1 lq.1
          have L1 := (i1.2.2.2.2.2 lq.1).1
          have ln := nn.2.2.2.2.2 L1
          have l0' : S.2.2.2.1 = 0 := by have := ln.1; rw [take_l] at this; exact this
          obtain ⟨hN, hP, hMe, hLe, hCr, hDi, hSe⟩ := hCl l0'
          obtain ⟨r1, r2⟩ := q4 l0'
          have r2 := r2 tP.2.1
          subst r1 q2
          have m1 : 1 ≤ mz := by have := lf.2.1; omega
          have mvs : ∀ x, x < mz → ∃ j sh, j < c 0 ∧ sh ≤ 9 ∧ T' (3 * c 0 + x) = nI j ∧ W' (3 * c 0 + x) = nI sh ∧ dp j < dz := fun x hxx => lq.2 x (Nat.zero_le _) hxx
          have d1 : 1 ≤ dz := by obtain ⟨j, sh, _, _, _, _, h⟩ := mvs 0 (by omega); omega
          have k6 : M6 (takeP kd pl 1 Z).1 = lN (mv (takeP kd pl 1 S).1) := by rw [(hT.2.1.2.1 _ G1.1).2.2.2 (by rw [xz1]; exact nn.2.2.1), xz1]
          have nv : newV kd vl (takeP kd pl 1 S) = lN (vl (takeP kd pl 1 S).1) := if_pos nn.2.2.2.2.1
          have nmk := Nam_ap hN nn.2.2.1 ln.2
          have mc := nI_clamp (n := mz) (by omega)
          unfold tm
          rcases hs with rfl | rfl
          · refine ⟨?_, ?_, ?_, ?_, ?_, ?_, ?_⟩
            · rw [kN_up (by decide)]
              simp (config := { decide := true, maxDischargeDepth := 20 }) only [up2_s, up2_n, upr_s, upr_n, ne_eq, not_false_eq_true, Nat.reduceAdd, k6, nv]
              exact nmk
            · refine PosK_ap hP (fun i hi => ?_) (fun i hi => ?_) (fun i hi => ?_) (fun i hi => ?_) ?_
              · have ei : i ≠ c 0 := by omega
                simp (config := { decide := true, maxDischargeDepth := 20 }) only [up2_s, up2_n, upr_s, upr_n, ne_eq, not_false_eq_true, Nat.reduceAdd, ei, and_self]
              · have := fr i (by omega)
                simp (config := { decide := true, maxDischargeDepth := 20 }) only [up2_s, up2_n, upr_s, upr_n, ne_eq, not_false_eq_true, Nat.reduceAdd]
                exact this
              · have ei : 14 * sd + i ≠ 14 * sd + c 0 := by omega
                simp (config := { decide := true, maxDischargeDepth := 20 }) only [up2_s, up2_n, upr_s, upr_n, ne_eq, not_false_eq_true, Nat.reduceAdd, ei, and_self]
              · have := q5 (42 * sd + i) (by omega)
                simp (config := { decide := true, maxDischargeDepth := 20 }) only [up2_s, up2_n, upr_s, upr_n, ne_eq, not_false_eq_true, Nat.reduceAdd]
                exact this
              · refine ⟨Or.inr ⟨vl (newP kd pl (nwB L (kN c) (vl (takeP kd pl 1 S).1)) (takeP kd pl 1 S)).1, mz, dz, w1.2, m1, hm3, d1, lf.1, ?_, ?_, ?_, ?_, fun m hm => ?_⟩, ⟨?_, ?_, ?_, ?_⟩, fun m hm h0 => ?_⟩
                · simp (config := { decide := true, maxDischargeDepth := 20 }) only [up2_s, up2_n, upr_s, upr_n, ne_eq, not_false_eq_true, Nat.reduceAdd, v1.1]
                · simp (config := { decide := true, maxDischargeDepth := 20 }) only [up2_s, up2_n, upr_s, upr_n, ne_eq, not_false_eq_true, Nat.reduceAdd]
                · simp (config := { decide := true, maxDischargeDepth := 20 }) only [up2_s, up2_n, upr_s, upr_n, ne_eq, not_false_eq_true, Nat.reduceAdd]
                · simp (config := { decide := true, maxDischargeDepth := 20 }) only [up2_s, up2_n, upr_s, upr_n, ne_eq, not_false_eq_true, Nat.reduceAdd]
                · obtain ⟨j, sh, h1, h2, h3, h4, h5⟩ := mvs m hm
                  have jn : j ≠ c 0 := by omega
                  refine ⟨j, sh, dp j, h1, h2, h5, ?_, ?_, ?_⟩
                  · simp (config := { decide := true, maxDischargeDepth := 20 }) only [up2_s, up2_n, upr_s, upr_n, ne_eq, not_false_eq_true, Nat.reduceAdd]
                    exact h3
                  · simp (config := { decide := true, maxDischargeDepth := 20 }) only [up2_s, up2_n, upr_s, upr_n, ne_eq, not_false_eq_true, Nat.reduceAdd]
                    exact h4
                  · simp (config := { decide := true, maxDischargeDepth := 20 }) only [up2_s, up2_n, upr_s, upr_n, ne_eq, not_false_eq_true, Nat.reduceAdd, jn]
                    exact (hdp j h1).1
                · simp (config := { decide := true, maxDischargeDepth := 20 }) only [up2_s, up2_n, upr_s, upr_n, ne_eq, not_false_eq_true, Nat.reduceAdd, v1.1, v1.2]
                · simp (config := { decide := true, maxDischargeDepth := 20 }) only [up2_s, up2_n, upr_s, upr_n, ne_eq, not_false_eq_true, Nat.reduceAdd]
                · simp (config := { decide := true, maxDischargeDepth := 20 }) only [up2_s, up2_n, upr_s, upr_n, ne_eq, not_false_eq_true, Nat.reduceAdd]
                · simp (config := { decide := true, maxDischargeDepth := 20 }) only [up2_s, up2_n, upr_s, upr_n, ne_eq, not_false_eq_true, Nat.reduceAdd]
                · have h0' : m < mz := by
                    revert h0
                    simp (config := { decide := true, maxDischargeDepth := 20 }) only [up2_s, up2_n, upr_s, upr_n, ne_eq, not_false_eq_true, Nat.reduceAdd, mc]
                    exact fun h => h
                  have := r2 m (Nat.zero_le _) h0'
                  simp (config := { decide := true, maxDischargeDepth := 20 }) only [up2_s, up2_n, upr_s, upr_n, ne_eq, not_false_eq_true, Nat.reduceAdd]
                  exact ⟨this.1.symm, this.2.symm⟩
            · simp (config := { decide := true, maxDischargeDepth := 20 }) only [up2_s, up2_n, upr_s, upr_n, ne_eq, not_false_eq_true, Nat.reduceAdd]
              exact hMe
            · simp (config := { decide := true, maxDischargeDepth := 20 }) only [up2_s, up2_n, upr_s, upr_n, ne_eq, not_false_eq_true, Nat.reduceAdd]
              exact hLe
            · simp (config := { decide := true, maxDischargeDepth := 20 }) only [up2_s, up2_n, upr_s, upr_n, ne_eq, not_false_eq_true, Nat.reduceAdd]
              exact hCr
            · simp (config := { decide := true, maxDischargeDepth := 20 }) only [up2_s, up2_n, upr_s, upr_n, ne_eq, not_false_eq_true, Nat.reduceAdd]
              exact hDi
            · simp (config := { decide := true, maxDischargeDepth := 20 }) only [up2_s, up2_n, upr_s, upr_n, ne_eq, not_false_eq_true, Nat.reduceAdd]
              exact hSe
          · refine ⟨?_, ?_, ?_, ?_, ?_, ?_, ?_⟩
            · rw [kN_up (by decide)]
              simp (config := { decide := true, maxDischargeDepth := 20 }) only [up2_s, up2_n, upr_s, upr_n, ne_eq, not_false_eq_true, Nat.reduceAdd, k6, nv]
              exact nmk
            · refine PosK_ap hP (fun i hi => ?_) (fun i hi => ?_) (fun i hi => ?_) (fun i hi => ?_) ?_
              · have ei : i ≠ c 0 := by omega
                simp (config := { decide := true, maxDischargeDepth := 20 }) only [up2_s, up2_n, upr_s, upr_n, ne_eq, not_false_eq_true, Nat.reduceAdd, ei, and_self]
              · have := fr i (by omega)
                simp (config := { decide := true, maxDischargeDepth := 20 }) only [up2_s, up2_n, upr_s, upr_n, ne_eq, not_false_eq_true, Nat.reduceAdd]
                exact this
              · have ei : 14 * sd + i ≠ 14 * sd + c 0 := by omega
                simp (config := { decide := true, maxDischargeDepth := 20 }) only [up2_s, up2_n, upr_s, upr_n, ne_eq, not_false_eq_true, Nat.reduceAdd, ei, and_self]
              · have := q5 (42 * sd + i) (by omega)
                simp (config := { decide := true, maxDischargeDepth := 20 }) only [up2_s, up2_n, upr_s, upr_n, ne_eq, not_false_eq_true, Nat.reduceAdd]
                exact this
              · refine ⟨Or.inr ⟨vl (newP kd pl (nwB L (kN c) (vl (takeP kd pl 1 S).1)) (takeP kd pl 1 S)).1, mz, dz, w1.2, m1, hm3, d1, lf.1, ?_, ?_, ?_, ?_, fun m hm => ?_⟩, ⟨?_, ?_, ?_, ?_⟩, fun m hm h0 => ?_⟩
                · simp (config := { decide := true, maxDischargeDepth := 20 }) only [up2_s, up2_n, upr_s, upr_n, ne_eq, not_false_eq_true, Nat.reduceAdd, v1.1]
                · simp (config := { decide := true, maxDischargeDepth := 20 }) only [up2_s, up2_n, upr_s, upr_n, ne_eq, not_false_eq_true, Nat.reduceAdd]
                · simp (config := { decide := true, maxDischargeDepth := 20 }) only [up2_s, up2_n, upr_s, upr_n, ne_eq, not_false_eq_true, Nat.reduceAdd]
                · simp (config := { decide := true, maxDischargeDepth := 20 }) only [up2_s, up2_n, upr_s, upr_n, ne_eq, not_false_eq_true, Nat.reduceAdd]
                · obtain ⟨j, sh, h1, h2, h3, h4, h5⟩ := mvs m hm
                  have jn : j ≠ c 0 := by omega
                  refine ⟨j, sh, dp j, h1, h2, h5, ?_, ?_, ?_⟩
                  · simp (config := { decide := true, maxDischargeDepth := 20 }) only [up2_s, up2_n, upr_s, upr_n, ne_eq, not_false_eq_true, Nat.reduceAdd]
                    exact h3
                  · simp (config := { decide := true, maxDischargeDepth := 20 }) only [up2_s, up2_n, upr_s, upr_n, ne_eq, not_false_eq_true, Nat.reduceAdd]
                    exact h4
                  · simp (config := { decide := true, maxDischargeDepth := 20 }) only [up2_s, up2_n, upr_s, upr_n, ne_eq, not_false_eq_true, Nat.reduceAdd, jn]
                    exact (hdp j h1).1
                · simp (config := { decide := true, maxDischargeDepth := 20 }) only [up2_s, up2_n, upr_s, upr_n, ne_eq, not_false_eq_true, Nat.reduceAdd, v1.1, v1.2]
                · simp (config := { decide := true, maxDischargeDepth := 20 }) only [up2_s, up2_n, upr_s, upr_n, ne_eq, not_false_eq_true, Nat.reduceAdd]
                · simp (config := { decide := true, maxDischargeDepth := 20 }) only [up2_s, up2_n, upr_s, upr_n, ne_eq, not_false_eq_true, Nat.reduceAdd]
                · simp (config := { decide := true, maxDischargeDepth := 20 }) only [up2_s, up2_n, upr_s, upr_n, ne_eq, not_false_eq_true, Nat.reduceAdd]
                · have h0' : m < mz := by
                    revert h0
                    simp (config := { decide := true, maxDischargeDepth := 20 }) only [up2_s, up2_n, upr_s, upr_n, ne_eq, not_false_eq_true, Nat.reduceAdd, mc]
                    exact fun h => h
                  have := r2 m (Nat.zero_le _) h0'
                  simp (config := { decide := true, maxDischargeDepth := 20 }) only [up2_s, up2_n, upr_s, upr_n, ne_eq, not_false_eq_true, Nat.reduceAdd]
                  exact ⟨this.1.symm, this.2.symm⟩
            · simp (config := { decide := true, maxDischargeDepth := 20 }) only [up2_s, up2_n, upr_s, upr_n, ne_eq, not_false_eq_true, Nat.reduceAdd]
              exact hMe
            · simp (config := { decide := true, maxDischargeDepth := 20 }) only [up2_s, up2_n, upr_s, upr_n, ne_eq, not_false_eq_true, Nat.reduceAdd]
              exact hLe
            · simp (config := { decide := true, maxDischargeDepth := 20 }) only [up2_s, up2_n, upr_s, upr_n, ne_eq, not_false_eq_true, Nat.reduceAdd]
              exact hCr
            · simp (config := { decide := true, maxDischargeDepth := 20 }) only [up2_s, up2_n, upr_s, upr_n, ne_eq, not_false_eq_true, Nat.reduceAdd]
              exact hDi
            · simp (config := { decide := true, maxDischargeDepth := 20 }) only [up2_s, up2_n, upr_s, upr_n, ne_eq, not_false_eq_true, Nat.reduceAdd]
              exact hSe
    · obtain ⟨q1, q2, q3, q4, q5⟩ := key Z' mz dz Tz Wz hZ
      have GP : GS n (takeP kd pl 25 (finM (nI (pl (takeP kd pl 1 Z).1)) mz dz Z')) := GS_take hT.2.1 (by decide) (GS_fin GZ)
      simp (config := { decide := true, maxDischargeDepth := 20 }) only [↓reduceIte, KV_i, KV_v, wsm_0, wsm_i, wsm_l, wsm_r, dlV_i, dlV_r, dlV_l, dlV_j, cat_i, cat_l, cat_r, rf_s, true_and, and_true, and_self, if_true, if_false, ite_true, ite_false, eq_self, true_or, or_true, false_or, or_false, not_true_eq_false, not_false_eq_true, vn_0_45, vn_1_45, vn_2_45, vn_3_45, vn_4_45, vn_5_45, vn_6_45, vn_7_45, vn_8_45, vn_36_48, vn_37_48, vn_38_48, vn_39_48, vn_40_48, vn_41_48, vn_42_48, vn_43_48, vn_44_48, vn_0_9, vn_1_9, vn_2_9, vn_3_9, vn_4_9, vn_5_9, vn_6_9, vn_7_9, vn_8_9, vn_0_3, vn_1_3, vn_2_3, vn_0_4, vn_1_4, vn_2_4, vn_3_4, vn_0_64, vn_0_16, vn_0_400, vn_0_6, vn_0_14, Int32.reduceToNatClampNeg, Int32.reduceAdd, Int32.reduceSub, Int32.reduceMul, Int32.reduceLE, Int32.reduceLT, Nat.reduceAdd, nr_2, nr_30, nr_31, rd_2, rd_14, rd_71, rd_72, rd_101, rd_116, rd_121, up2_s, up2_n, upr_s, upr_n, ne_eq, not_false_eq_true, ob_70, rx_70_1, rx_70_3, rx_70_5, rx_70_6, rx_70_7, rx_70_8, rx_70_9, rx_70_21, rx_70_22, rx_70_23, rx_70_24, rx_70_25, rx_70_26, rx_70_27, rx_70_28, rx_70_29, rx_70_30, rx_70_31, rx_70_32, rx_70_33, rx_70_34, rx_70_35, rx_70_36, rx_70_37, rx_70_38, rx_70_39, rx_70_40, rx_70_41, rx_70_42, rx_70_43, rx_70_45, rx_70_46, rx_70_47, rx_70_48, rx_70_49, rx_70_51, rx_70_52, rx_70_53, rx_70_55, rx_70_56, rx_70_58, rx_70_59, rx_70_60, rx_70_61, rx_70_63, rx_70_64, rx_70_65, rx_70_70, rx_70_71, rx_70_72, rx_70_73, rx_70_74, r159_0, r159_1, r159_4, r159_5, r159_8, r159_68, r159_69, r159_70, r159_73, r159_74, r159_77, r159_78, r159_80, r159_83, r159_84, r159_87, r159_90, r159_91, r159_94, r159_97, r159_98, r159_99, r159_102, r159_103, r159_106, r159_107, r159_109, r159_112, r159_113, r159_116, r159_119, r159_120, r159_123, r159_126, r159_127, r159_128, r159_131, r159_132, r159_135, r159_136, r159_138, r159_141, r159_142, r159_145, r159_148, r159_149, r159_152, r159_155, r159_156, r159_157, r159_160, r159_161, r159_164, r159_165, r159_167, r159_170, r159_171, r159_174, r159_177, r159_178, r159_181, r159_184, r159_185, r159_186, r159_189, r159_190, r159_193, r159_194, r159_195, r159_198, r159_199, r159_202, r159_205, r159_206, r159_209, r159_212, r159_213, r159_214, r159_217, r159_218, r159_221, r159_222, r159_223, r159_226, r159_227, r159_230, r159_233, r159_234, r159_237, r159_240, r159_241, r159_244, r159_245, r159_248, r159_249, r159_252, r159_253, r159_254, r159_257, r159_260, r159_261, r159_262, r159_263, r159_266, r159_269, r159_270, r159_273, r159_274, r159_277, r159_278, r159_280, r159_281, r159_282, r159_283, r159_286, r159_287, r159_290, r159_291, r159_294, r159_295, r159_297, r159_300, r159_301, r159_302, r159_305, r159_306, r159_309, r159_312, r159_313, r159_314, r159_317, r159_318, r159_319, r159_322, r159_9]
      unfold tw
      refine hQm _ _ _ q3 GP ?_ (fun _ _ _ => rfl) (fun f => ?_)
      · repeat' (first | exact FRM_r _ _ | (refine FRM_u ?_ (by first | exact np_79 | exact np_80 | exact np_20 | exact np_81 hd | exact np_88 hd | exact np_91 hd | exact np_94 hd | exact np_96 hd | exact np_98 hd | exact np_82 hd hlt | exact np_83 hd hlt | exact np_84 hd hlt | exact np_85 hd hlt | exact np_89 hd hlt | exact np_90 hd hlt | exact np_92 hd hlt | exact np_93 hd hlt | exact np_95 hd hlt | exact np_97_0 hd hlt | exact np_97_1 hd hlt | exact np_97_2 hd hlt | exact np_97_3 hd hlt | exact np_97_4 hd hlt | exact np_97_5 hd hlt)) | (refine FRM_w ?_ (fun k hk => by first | exact (q5 k (prt_86 hd hlt (Or.inl rfl) hk)).1 | exact (q5 k (prt_86 hd hlt (Or.inr rfl) hk)).2)))
      · exact absurd (q3.1.symm.trans f) (take_f e5)
    · obtain ⟨q1, q2, q3, q4, q5⟩ := key Z' mz dz Tz Wz hZ
      have fS : S'.2.1 ≠ 0 := by rw [q1.1]; exact fZ
      have GZ : GS n Z' := by
        have := tur_GS hT.2.1 (v := intW kd vl 0) (lk := (fun j => lkM (M 78) (fun i => smN (so i)) nu (lN (mv j)) 0 (kN c) 0)) (dp := dm) (cb := 3 * (14 * sd + c 0)) 4 (intM kd pl vl 0 1 (newP kd pl (nwM M (kN c) (mv (takeP kd pl 1 Z).1)) (takeP kd pl 1 Z))) 0 0 (J 86) (J 87) G3
        rw [hZ] at this
        exact this
      simp (config := { decide := true, maxDischargeDepth := 20 }) only [↓reduceIte, KV_i, KV_v, wsm_0, wsm_i, wsm_l, wsm_r, dlV_i, dlV_r, dlV_l, dlV_j, cat_i, cat_l, cat_r, rf_s, true_and, and_true, and_self, if_true, if_false, ite_true, ite_false, eq_self, true_or, or_true, false_or, or_false, not_true_eq_false, not_false_eq_true, vn_0_45, vn_1_45, vn_2_45, vn_3_45, vn_4_45, vn_5_45, vn_6_45, vn_7_45, vn_8_45, vn_36_48, vn_37_48, vn_38_48, vn_39_48, vn_40_48, vn_41_48, vn_42_48, vn_43_48, vn_44_48, vn_0_9, vn_1_9, vn_2_9, vn_3_9, vn_4_9, vn_5_9, vn_6_9, vn_7_9, vn_8_9, vn_0_3, vn_1_3, vn_2_3, vn_0_4, vn_1_4, vn_2_4, vn_3_4, vn_0_64, vn_0_16, vn_0_400, vn_0_6, vn_0_14, Int32.reduceToNatClampNeg, Int32.reduceAdd, Int32.reduceSub, Int32.reduceMul, Int32.reduceLE, Int32.reduceLT, Nat.reduceAdd, nr_2, nr_30, nr_31, rd_2, rd_14, rd_71, rd_72, rd_101, rd_116, rd_121, up2_s, up2_n, upr_s, upr_n, ne_eq, not_false_eq_true, ob_70, rx_70_1, rx_70_3, rx_70_5, rx_70_6, rx_70_7, rx_70_8, rx_70_9, rx_70_21, rx_70_22, rx_70_23, rx_70_24, rx_70_25, rx_70_26, rx_70_27, rx_70_28, rx_70_29, rx_70_30, rx_70_31, rx_70_32, rx_70_33, rx_70_34, rx_70_35, rx_70_36, rx_70_37, rx_70_38, rx_70_39, rx_70_40, rx_70_41, rx_70_42, rx_70_43, rx_70_45, rx_70_46, rx_70_47, rx_70_48, rx_70_49, rx_70_51, rx_70_52, rx_70_53, rx_70_55, rx_70_56, rx_70_58, rx_70_59, rx_70_60, rx_70_61, rx_70_63, rx_70_64, rx_70_65, rx_70_70, rx_70_71, rx_70_72, rx_70_73, rx_70_74, r159_0, r159_1, r159_4, r159_5, r159_8, r159_68, r159_69, r159_70, r159_73, r159_74, r159_77, r159_78, r159_80, r159_83, r159_84, r159_87, r159_90, r159_91, r159_94, r159_97, r159_98, r159_99, r159_102, r159_103, r159_106, r159_107, r159_109, r159_112, r159_113, r159_116, r159_119, r159_120, r159_123, r159_126, r159_127, r159_128, r159_131, r159_132, r159_135, r159_136, r159_138, r159_141, r159_142, r159_145, r159_148, r159_149, r159_152, r159_155, r159_156, r159_157, r159_160, r159_161, r159_164, r159_165, r159_167, r159_170, r159_171, r159_174, r159_177, r159_178, r159_181, r159_184, r159_185, r159_186, r159_189, r159_190, r159_193, r159_194, r159_195, r159_198, r159_199, r159_202, r159_205, r159_206, r159_209, r159_212, r159_213, r159_214, r159_217, r159_218, r159_221, r159_222, r159_223, r159_226, r159_227, r159_230, r159_233, r159_234, r159_237, r159_240, r159_241, r159_244, r159_245, r159_248, r159_249, r159_252, r159_253, r159_254, r159_257, r159_260, r159_261, r159_262, r159_263, r159_266, r159_269, r159_270, r159_273, r159_274, r159_277, r159_278, r159_280, r159_281, r159_282, r159_283, r159_286, r159_287, r159_290, r159_291, r159_294, r159_295, r159_297, r159_300, r159_301, r159_302, r159_305, r159_306, r159_309, r159_312, r159_313, r159_314, r159_317, r159_318, r159_319, r159_322, r159_9]
      unfold tw
      refine hQm _ _ _ (SE_finf q1 fS) GZ ?_ (fun _ _ _ => rfl) (fun f => ?_)
      · repeat' (first | exact FRM_r _ _ | (refine FRM_u ?_ (by first | exact np_79 | exact np_80 | exact np_20 | exact np_81 hd | exact np_88 hd | exact np_91 hd | exact np_94 hd | exact np_96 hd | exact np_98 hd | exact np_82 hd hlt | exact np_83 hd hlt | exact np_84 hd hlt | exact np_85 hd hlt | exact np_89 hd hlt | exact np_90 hd hlt | exact np_92 hd hlt | exact np_93 hd hlt | exact np_95 hd hlt | exact np_97_0 hd hlt | exact np_97_1 hd hlt | exact np_97_2 hd hlt | exact np_97_3 hd hlt | exact np_97_4 hd hlt | exact np_97_5 hd hlt)) | (refine FRM_w ?_ (fun k hk => by first | exact (q5 k (prt_86 hd hlt (Or.inl rfl) hk)).1 | exact (q5 k (prt_86 hd hlt (Or.inr rfl) hk)).2)))
      · exact absurd ((SE_finf (kd := kd) (pl := pl) (p := (nI (pl (takeP kd pl 1 S).1))) (m := m') (d := d') q1 fS).1.symm.trans f) fZ
