/-! READ: a LAW in the reference -/
def zm (J : AI) (h f m q e : Nat → Int32) (br : Nat) : AI := up2 (upr (upr (upr (upr (upr J 101 h) 102 f) 103 m) 104 q) 105 e) 70 44 (nI br)
theorem zm_n {J : AI} {h f m q e : Nat → Int32} {br : Nat} {a : Nat} (h1 : a ≠ 101) (h2 : a ≠ 102) (h3 : a ≠ 103) (h4 : a ≠ 104) (h5 : a ≠ 105) (h6 : a ≠ 70) : zm J h f m q e br a = J a := by
  unfold zm
  rw [up2_n h6, upr_n h5, upr_n h4, upr_n h3, upr_n h2, upr_n h1]
theorem zm_101 {J : AI} {h f m q e : Nat → Int32} {br : Nat} : zm J h f m q e br 101 = h := rfl
theorem zm_102 {J : AI} {h f m q e : Nat → Int32} {br : Nat} : zm J h f m q e br 102 = f := rfl
theorem zm_103 {J : AI} {h f m q e : Nat → Int32} {br : Nat} : zm J h f m q e br 103 = m := rfl
theorem zm_104 {J : AI} {h f m q e : Nat → Int32} {br : Nat} : zm J h f m q e br 104 = q := rfl
theorem zm_105 {J : AI} {h f m q e : Nat → Int32} {br : Nat} : zm J h f m q e br 105 = e := rfl
theorem zm_70 {J : AI} {h f m q e : Nat → Int32} {br : Nat} : zm J h f m q e br 70 = upr (J 70) 44 (nI br) := rfl
theorem zm_44 {J : AI} {h f m q e : Nat → Int32} {br : Nat} : zm J h f m q e br 70 44 = nI br := rfl
theorem zm_19 {J : AI} {h f m q e : Nat → Int32} {br : Nat} : zm J h f m q e br 70 19 = J 70 19 := rfl
theorem zm_20 {J : AI} {h f m q e : Nat → Int32} {br : Nat} : zm J h f m q e br 70 20 = J 70 20 := rfl
theorem zm_e {I J : AI} (h : ∀ a, a ≠ 101 → a ≠ 102 → a ≠ 103 → a ≠ 104 → a ≠ 105 → a ≠ 70 → I a = J a) (h1 : I 101 = J 101) (h2 : I 102 = J 102) (h3 : I 103 = J 103) (h4 : I 104 = J 104) (h5 : I 105 = J 105) (h6 : I 70 = J 70) : I = J := by
  funext a
  by_cases e1 : a = 101
  · subst e1; exact h1
  by_cases e2 : a = 102
  · subst e2; exact h2
  by_cases e3 : a = 103
  · subst e3; exact h3
  by_cases e4 : a = 104
  · subst e4; exact h4
  by_cases e5 : a = 105
  · subst e5; exact h5
  by_cases e6 : a = 70
  · subst e6; exact h6
  exact h a e1 e2 e3 e4 e5 e6
theorem zu_101 {J : AI} {h f m q e : Nat → Int32} {br : Nat} (k : Nat) (v : Int32) : up2 (zm J h f m q e br) 101 k v = zm J (upr h k v) f m q e br := by
  refine zm_e (fun a a1 a2 a3 a4 a5 a6 => ?_) ?_ ?_ ?_ ?_ ?_ ?_
  · rw [up2_n a1, zm_n a1 a2 a3 a4 a5 a6, zm_n a1 a2 a3 a4 a5 a6]
  · rw [up2_s]; rfl
  · rw [up2_n (by decide)]; rfl
  · rw [up2_n (by decide)]; rfl
  · rw [up2_n (by decide)]; rfl
  · rw [up2_n (by decide)]; rfl
  · rw [up2_n (by decide)]; rfl
theorem zu_102 {J : AI} {h f m q e : Nat → Int32} {br : Nat} (k : Nat) (v : Int32) : up2 (zm J h f m q e br) 102 k v = zm J h (upr f k v) m q e br := by
  refine zm_e (fun a a1 a2 a3 a4 a5 a6 => ?_) ?_ ?_ ?_ ?_ ?_ ?_
  · rw [up2_n a2, zm_n a1 a2 a3 a4 a5 a6, zm_n a1 a2 a3 a4 a5 a6]
  · rw [up2_n (by decide)]; rfl
  · rw [up2_s]; rfl
  · rw [up2_n (by decide)]; rfl
  · rw [up2_n (by decide)]; rfl
  · rw [up2_n (by decide)]; rfl
  · rw [up2_n (by decide)]; rfl
theorem zu_103 {J : AI} {h f m q e : Nat → Int32} {br : Nat} (k : Nat) (v : Int32) : up2 (zm J h f m q e br) 103 k v = zm J h f (upr m k v) q e br := by
  refine zm_e (fun a a1 a2 a3 a4 a5 a6 => ?_) ?_ ?_ ?_ ?_ ?_ ?_
  · rw [up2_n a3, zm_n a1 a2 a3 a4 a5 a6, zm_n a1 a2 a3 a4 a5 a6]
  · rw [up2_n (by decide)]; rfl
  · rw [up2_n (by decide)]; rfl
  · rw [up2_s]; rfl
  · rw [up2_n (by decide)]; rfl
  · rw [up2_n (by decide)]; rfl
  · rw [up2_n (by decide)]; rfl
theorem zu_104 {J : AI} {h f m q e : Nat → Int32} {br : Nat} (k : Nat) (v : Int32) : up2 (zm J h f m q e br) 104 k v = zm J h f m (upr q k v) e br := by
  refine zm_e (fun a a1 a2 a3 a4 a5 a6 => ?_) ?_ ?_ ?_ ?_ ?_ ?_
  · rw [up2_n a4, zm_n a1 a2 a3 a4 a5 a6, zm_n a1 a2 a3 a4 a5 a6]
  · rw [up2_n (by decide)]; rfl
  · rw [up2_n (by decide)]; rfl
  · rw [up2_n (by decide)]; rfl
  · rw [up2_s]; rfl
  · rw [up2_n (by decide)]; rfl
  · rw [up2_n (by decide)]; rfl
theorem zu_105 {J : AI} {h f m q e : Nat → Int32} {br : Nat} (k : Nat) (v : Int32) : up2 (zm J h f m q e br) 105 k v = zm J h f m q (upr e k v) br := by
  refine zm_e (fun a a1 a2 a3 a4 a5 a6 => ?_) ?_ ?_ ?_ ?_ ?_ ?_
  · rw [up2_n a5, zm_n a1 a2 a3 a4 a5 a6, zm_n a1 a2 a3 a4 a5 a6]
  · rw [up2_n (by decide)]; rfl
  · rw [up2_n (by decide)]; rfl
  · rw [up2_n (by decide)]; rfl
  · rw [up2_n (by decide)]; rfl
  · rw [up2_s]; rfl
  · rw [up2_n (by decide)]; rfl
theorem zu_44 {J : AI} {h f m q e : Nat → Int32} {br : Nat} (l : Nat) : up2 (zm J h f m q e br) 70 44 (nI l) = zm J h f m q e l := by
  unfold zm
  rw [up2_u]
theorem zm_id {J : AI} {br : Nat} (h : J 70 44 = nI br) : zm J (J 101) (J 102) (J 103) (J 104) (J 105) br = J := by
  refine zm_e (fun a a1 a2 a3 a4 a5 a6 => zm_n a1 a2 a3 a4 a5 a6) rfl rfl rfl rfl rfl ?_
  rw [zm_70, ← h]
  exact upr_id _ _
theorem ym_up {J : AI} {cm ci wt : Nat → Int32} {cd wl op : Nat} {a k : Nat} {v : Int32} (h1 : a ≠ 106) (h2 : a ≠ 107) (h3 : a ≠ 108) (h4 : a ≠ 70) : up2 (ym J cm ci cd wt wl op) a k v = ym (up2 J a k v) cm ci cd wt wl op := by
  unfold ym
  rw [up2_comm _ (Or.inl (Ne.symm h4)), up2_comm _ (Or.inl (Ne.symm h4)), up2_comm _ (Or.inl (Ne.symm h4)), up2_c1 _ h3, up2_c1 _ h2, up2_c1 _ h1]
theorem ym_u44 {J : AI} {cm ci wt : Nat → Int32} {cd wl op : Nat} {v : Int32} : up2 (ym J cm ci cd wt wl op) 70 44 v = ym (up2 J 70 44 v) cm ci cd wt wl op := by
  unfold ym
  rw [up2_comm (up2 (up2 (upr (upr (upr J 106 cm) 107 ci) 108 wt) 70 50 (nI cd)) 70 54 (nI wl)) (a := 70) (b := 70) (k := 12) (l := 44) (Or.inr (by decide)), up2_comm (up2 (upr (upr (upr J 106 cm) 107 ci) 108 wt) 70 50 (nI cd)) (a := 70) (b := 70) (k := 54) (l := 44) (Or.inr (by decide)), up2_comm (upr (upr (upr J 106 cm) 107 ci) 108 wt) (a := 70) (b := 70) (k := 50) (l := 44) (Or.inr (by decide)), up2_c1 (upr (upr J 106 cm) 107 ci) (a := 70) (b := 108) (by decide) 44 wt v, up2_c1 (upr J 106 cm) (a := 70) (b := 107) (by decide) 44 ci v, up2_c1 J (a := 70) (b := 106) (by decide) 44 cm v]
theorem ym_id {J : AI} {cd wl op : Nat} (h1 : J 70 50 = nI cd) (h2 : J 70 54 = nI wl) (h3 : J 70 12 = nI op) : ym J (J 106) (J 107) cd (J 108) wl op = J := by
  refine ym_e (fun a a1 a2 a3 a4 => ym_n a1 a2 a3 a4) rfl rfl rfl ?_
  rw [ym_70, ← h1, ← h2, ← h3]
  funext x
  by_cases x1 : x = 12
  · subst x1; rfl
  by_cases x2 : x = 54
  · subst x2; rfl
  by_cases x3 : x = 50
  · subst x3; rfl
  rw [upr_n x1, upr_n x2, upr_n x3]
def FE (A B : PS) : Prop := A.2.1 = B.2.1 ∧ (A.2.1 ≠ 0 → A.2.2.1 = B.2.2.1) ∧ (A.2.1 = 0 → A = B)
theorem FE_r (A : PS) : FE A A := ⟨rfl, fun _ => rfl, fun _ => rfl⟩
theorem FE_take {kd pl : Nat → Nat} {q : Nat} {A B : PS} (h : FE A B) : FE (takeP kd pl q A) (takeP kd pl q B) := by
  by_cases e : A.2.1 = 0
  · rw [h.2.2 e]; exact FE_r _
  · have e2 : B.2.1 ≠ 0 := by rw [← h.1]; exact e
    rw [take_s e, take_s e2]
    exact h
theorem FE_ex {kd pl vl : Nat → Nat} {A B : PS} (h : FE A B) (e : A.2.1 ≠ 0) : FE A (exE kd pl vl B).1 := by
  have e2 : B.2.1 ≠ 0 := by rw [← h.1]; exact e
  rw [exE_s e2]
  exact h
theorem FE_t {A B C : PS} (h : FE A B) (g : FE B C) : FE A C := ⟨h.1.trans g.1, fun e => (h.2.1 e).trans (g.2.1 (by rw [← h.1]; exact e)), fun e => (h.2.2 e).trans (g.2.2 (by rw [← h.1]; exact e))⟩
theorem FE_ex2 {kd pl vl : Nat → Nat} {A B Z : PS} (h : FE A B) (g : FE Z (exE kd pl vl A).1) : FE Z (exE kd pl vl B).1 := by
  by_cases e : A.2.1 = 0
  · rw [← h.2.2 e]; exact g
  · have e2 : B.2.1 ≠ 0 := by rw [← h.1]; exact e
    rw [exE_s e] at g
    rw [exE_s e2]
    exact FE_t g h
theorem FE_SE {S P Z : PS} (h : SE S P) (g : FE Z P) : SE S Z := by
  refine ⟨h.1.trans g.1.symm, fun e => (h.2.1 e).trans (g.2.1 (by rw [g.1, ← h.1]; exact e)).symm, fun e => ?_⟩
  rw [g.2.2 (by rw [g.1, ← h.1]; exact e)]
  exact h.2.2 e
theorem apg_at (g : Nat ⊕ (Nat ⊕ Nat) → Int32) : ∀ (c : Cd) (mk : Nat → Int32) (len j : Nat), j < c.length → apg g mk len c (len + j) = g (c.getD j (.inl 0)) := by
  intro c
  induction c with
  | nil => intro mk len j h; exact absurd h (Nat.not_lt_zero _)
  | cons x c ih =>
    intro mk len j h
    show apg g (upr mk len (g x)) (len + 1) c (len + j) = _
    cases j with
    | zero => rw [apg_lo _ _ _ _ _ (by omega), Nat.add_zero, upr_s]; rfl
    | succ j =>
      have h' : j + 1 < c.length + 1 := h
      rw [show len + (j + 1) = len + 1 + j by omega, ih _ _ _ (by omega)]
      rfl
theorem m_exU {t : Nat} {u : Option Nat} {J : AI} {L : AL} {Q : PQ} {S : PS} {cm ci wt : Nat → Int32} {cd wl op sd : Nat} (hd : sd ≤ 1) {kd pl vl mv : Nat → Nat} {n : Nat} {K3 K4 K5 : Nat → Int32} {K6 : Nat → Int64} (hT : TMR kd pl vl mv n K3 K4 K5 K6) (h3 : J 73 = K3) (h4 : J 74 = K4) (h5 : J 75 = K5) (hv : ∀ j, kd j = 24 → vl j ≤ 9999) (hg : GS n S) (hb : S.2.1 = 0 → op = 0 ∧ 420 * sd ≤ cd ∧ cd ≤ 420 * sd + S.1) {E : PS × Cd} (hE : exE kd pl vl S = E) (hQ : (∀ Z cm' ci' cd' wt' wl' op', GS n Z → FE Z E.1 → (Z.2.1 = 0 → cm' = apg kM1 cm cd E.2 ∧ ci' = apg kM2 ci cd E.2 ∧ cd' = cd + E.2.length ∧ op' = 0) → CFX sd cm ci cm' ci' → Q none 123 (wm (ym J cm' ci' cd' wt' wl' op') Z) L (RX t u))) : V 174 0 [.ref 70, .retAddr 0, .retAddr 0] [] 123 (wm (ym J cm ci cd wt wl op) S) L (RX t u) Q := by
  subst hE
  by_cases e : S.2.1 = 0
  · obtain ⟨rfl, hb0, hb'⟩ := hb e
    exact m_exp hd hb0 hT h3 h4 h5 hv hg e hb' (fun Z cm' ci' cd' wt' wl' op' g a b c d => hQ Z cm' ci' cd' wt' wl' op' g ⟨a, fun z => b z, fun z => (c z).1⟩ (fun z => (c z).2) d)
  · have hz := hQ S cm ci cd wt 0 op hg (FE_ex (FE_r _) e) (fun z => absurd z e) (CFX_r _ _ _)
    have z1 : up2 (ym J cm ci cd wt wl op) 70 54 0 = ym J cm ci cd wt 0 op := yu_54 0
    simp (config := { decide := true, maxDischargeDepth := 20 }) only [↓reduceIte, KV_i, KV_v, wsm_0, wsm_i, wsm_l, wsm_r, dlV_i, dlV_r, dlV_l, dlV_j, cat_i, cat_l, cat_r, rf_s, true_and, and_true, and_self, if_true, if_false, ite_true, ite_false, eq_self, true_or, or_true, false_or, or_false, not_true_eq_false, not_false_eq_true, vn_0_45, vn_1_45, vn_2_45, vn_3_45, vn_4_45, vn_5_45, vn_6_45, vn_7_45, vn_8_45, vn_36_48, vn_37_48, vn_38_48, vn_39_48, vn_40_48, vn_41_48, vn_42_48, vn_43_48, vn_44_48, vn_0_9, vn_1_9, vn_2_9, vn_3_9, vn_4_9, vn_5_9, vn_6_9, vn_7_9, vn_8_9, vn_0_3, vn_1_3, vn_2_3, vn_0_4, vn_1_4, vn_2_4, vn_3_4, vn_0_64, vn_0_16, vn_0_400, vn_0_6, vn_0_14, Int32.reduceToNatClampNeg, Int32.reduceAdd, Int32.reduceSub, Int32.reduceMul, Int32.reduceLE, Int32.reduceLT, Nat.reduceAdd, nr_2, nr_30, nr_31, rd_2, rd_14, rd_71, rd_72, rd_101, rd_116, rd_121, up2_s, up2_n, upr_s, upr_n, ne_eq, not_false_eq_true, ob_70, rx_70_1, rx_70_3, rx_70_5, rx_70_6, rx_70_7, rx_70_8, rx_70_9, rx_70_21, rx_70_22, rx_70_23, rx_70_24, rx_70_25, rx_70_26, rx_70_27, rx_70_28, rx_70_29, rx_70_30, rx_70_31, rx_70_32, rx_70_33, rx_70_34, rx_70_35, rx_70_36, rx_70_37, rx_70_38, rx_70_39, rx_70_40, rx_70_41, rx_70_42, rx_70_43, rx_70_45, rx_70_46, rx_70_47, rx_70_48, rx_70_49, rx_70_51, rx_70_52, rx_70_53, rx_70_55, rx_70_56, rx_70_58, rx_70_59, rx_70_60, rx_70_61, rx_70_63, rx_70_64, rx_70_65, rx_70_70, rx_70_71, rx_70_72, rx_70_73, rx_70_74, r174_0, r174_1, r174_2, r174_5, r174_6, r174_9, r174_10, r174_11, r174_12, r174_13, r174_16, r174_17, r174_20, r174_23, r174_24, r174_26, r174_29, r174_32, r174_33, r174_36, r174_38, r174_41, r174_42, r174_43, r174_46, r174_47, r174_48, r174_51, r174_52, r174_53, r174_56, r174_57, r174_60, r174_61, r174_64, r174_65, r174_68, r174_70, r174_71, r174_72, r174_73, r174_76, r174_77, r174_78, r174_81, r174_84, r174_85, r174_88, r174_89, r174_92, r174_95, r174_96, r174_97, r174_99, r174_102, r174_105, r174_106, r174_109, r174_110, r174_113, r174_114, r174_115, r174_118, r174_119, r174_120, r174_123, r174_124, r174_125, r174_128, r174_129, r174_130, r174_133, r174_134, r174_135, r174_138, r174_139, r174_142, r174_145, r174_146, r174_148, r174_151, r174_154, r174_155, r174_157, r174_160, r174_163, r174_164, r174_166, r174_169, r174_172, r174_173, r174_175, r174_178, r174_181, r174_182, r174_185, r174_186, r174_187, r174_188, r174_191, r174_192, r174_195, r174_196, r174_199, r174_200, r174_201, r174_204, r174_205, r174_206, r174_209, r174_210, r174_211, r174_212, r174_214, r174_217, r174_220, r174_221, r174_223, r174_226, r174_229, r174_230, r174_233, r174_234, r174_237, r174_238, r174_241, r174_242, r174_245, r174_246, r174_249, r174_250, r174_253, r174_254, r174_255, r174_256, r174_257, r174_260, r174_261, r174_262, r174_265, r174_266, r174_269, r174_272, wm_11, wm_13, wm_14, wm_15, wm_16, wm_4, wm_12, wm_18, wm_19, wm_20, wm_44, wm_50, wm_54, wm_n, wm_up, wm_u11, wm_u13, wm_u14, wm_u15, wm_u16, wm_u12, wm_u18, wm_u19, wm_u20, wm_u44, wm_u50, wm_u54, ym_n, ym_106, ym_107, ym_108, ym_50, ym_54, ym_12, ym_19, ym_20, ym_44, yu_106, yu_107, yu_108, yu_50, yu_54, yu_12, z1, e]
    exact hz
theorem m_termU {t : Nat} {u : Option Nat} {J : AI} {L : AL} {Q : PQ} {S : PS} {h f m q e cm ci wt : Nat → Int32} {br cd wl op sd : Nat} (hd : sd ≤ 1) {kd pl vl mv : Nat → Nat} {n : Nat} {K3 K4 K5 : Nat → Int32} {K6 : Nat → Int64} (hT : TMR kd pl vl mv n K3 K4 K5 K6) (h3 : J 73 = K3) (h4 : J 74 = K4) (h5 : J 75 = K5) (hv : ∀ j, kd j = 24 → vl j ≤ 9999) (hg : GS n S) (hbr : br < 260) (hb : S.2.1 = 0 → op = 0 ∧ 420 * sd ≤ cd ∧ cd ≤ 420 * sd + S.1) {E : PS × Cd} (hE : exE kd pl vl S = E) (hQ : (∀ Z cm' ci' cd' wt' wl' op', GS n Z → FE Z E.1 → (Z.2.1 = 0 → cm' = apg kM1 cm cd E.2 ∧ ci' = apg kM2 ci cd E.2 ∧ cd' = cd + E.2.length ∧ op' = 0) → CFX sd cm ci cm' ci' → Q none 123 (wm (ym (zm J h f m (upr q br (nI cd)) (upr e br (nI cd')) (br + 1)) cm' ci' cd' wt' wl' op') Z) L (RX t u))) : V 171 0 [.ref 70] [] 123 (wm (ym (zm J h f m q e br) cm ci cd wt wl op) S) L (RX t u) Q := by
  have x1 := inT (a := br) (N := 260) (by omega) (by decide)
  have x2 := nI_clamp (n := br) (by omega)
  have x3 := nI_1 br
  by_cases e0 : S.2.1 = 0
  · simp (config := { decide := true, maxDischargeDepth := 20 }) only [↓reduceIte, KV_i, KV_v, wsm_0, wsm_i, wsm_l, wsm_r, dlV_i, dlV_r, dlV_l, dlV_j, cat_i, cat_l, cat_r, rf_s, true_and, and_true, and_self, if_true, if_false, ite_true, ite_false, eq_self, true_or, or_true, false_or, or_false, not_true_eq_false, not_false_eq_true, vn_0_45, vn_1_45, vn_2_45, vn_3_45, vn_4_45, vn_5_45, vn_6_45, vn_7_45, vn_8_45, vn_36_48, vn_37_48, vn_38_48, vn_39_48, vn_40_48, vn_41_48, vn_42_48, vn_43_48, vn_44_48, vn_0_9, vn_1_9, vn_2_9, vn_3_9, vn_4_9, vn_5_9, vn_6_9, vn_7_9, vn_8_9, vn_0_3, vn_1_3, vn_2_3, vn_0_4, vn_1_4, vn_2_4, vn_3_4, vn_0_64, vn_0_16, vn_0_400, vn_0_6, vn_0_14, Int32.reduceToNatClampNeg, Int32.reduceAdd, Int32.reduceSub, Int32.reduceMul, Int32.reduceLE, Int32.reduceLT, Nat.reduceAdd, nr_2, nr_30, nr_31, rd_2, rd_14, rd_71, rd_72, rd_101, rd_116, rd_121, up2_s, up2_n, upr_s, upr_n, ne_eq, not_false_eq_true, ob_70, rx_70_1, rx_70_3, rx_70_5, rx_70_6, rx_70_7, rx_70_8, rx_70_9, rx_70_21, rx_70_22, rx_70_23, rx_70_24, rx_70_25, rx_70_26, rx_70_27, rx_70_28, rx_70_29, rx_70_30, rx_70_31, rx_70_32, rx_70_33, rx_70_34, rx_70_35, rx_70_36, rx_70_37, rx_70_38, rx_70_39, rx_70_40, rx_70_41, rx_70_42, rx_70_43, rx_70_45, rx_70_46, rx_70_47, rx_70_48, rx_70_49, rx_70_51, rx_70_52, rx_70_53, rx_70_55, rx_70_56, rx_70_58, rx_70_59, rx_70_60, rx_70_61, rx_70_63, rx_70_64, rx_70_65, rx_70_70, rx_70_71, rx_70_72, rx_70_73, rx_70_74, r171_0, r171_1, r171_4, r171_5, r171_8, r171_9, r171_12, r171_13, r171_14, r171_17, r171_20, r171_21, r171_24, r171_25, r171_28, r171_29, r171_32, r171_33, r171_36, r171_37, r171_38, r171_39, r171_42, r171_43, r171_44, r171_47, tg_104, ln_104, tg_105, ln_105, wm_11, wm_13, wm_14, wm_15, wm_16, wm_4, wm_12, wm_18, wm_19, wm_20, wm_44, wm_50, wm_54, wm_n, wm_up, wm_u11, wm_u13, wm_u14, wm_u15, wm_u16, wm_u12, wm_u18, wm_u19, wm_u20, wm_u44, wm_u50, wm_u54, ym_n, ym_106, ym_107, ym_108, ym_50, ym_54, ym_12, ym_19, ym_20, ym_44, yu_106, yu_107, yu_108, yu_50, yu_54, yu_12, zm_n, zm_101, zm_102, zm_103, zm_104, zm_105, zm_44, zm_19, zm_20, zu_101, zu_102, zu_103, zu_104, zu_105, zu_44, ym_up, ym_u44, x1, x2, x3, e0]
    refine m_exU hd hT (show zm J h f m (upr q br (nI cd)) e br 73 = K3 from h3) (show zm J h f m (upr q br (nI cd)) e br 74 = K4 from h4) (show zm J h f m (upr q br (nI cd)) e br 75 = K5 from h5) hv hg hb hE (fun Z cm' ci' cd' wt' wl' op' g a b c => ?_)
    simp (config := { decide := true, maxDischargeDepth := 20 }) only [↓reduceIte, KV_i, KV_v, wsm_0, wsm_i, wsm_l, wsm_r, dlV_i, dlV_r, dlV_l, dlV_j, cat_i, cat_l, cat_r, rf_s, true_and, and_true, and_self, if_true, if_false, ite_true, ite_false, eq_self, true_or, or_true, false_or, or_false, not_true_eq_false, not_false_eq_true, vn_0_45, vn_1_45, vn_2_45, vn_3_45, vn_4_45, vn_5_45, vn_6_45, vn_7_45, vn_8_45, vn_36_48, vn_37_48, vn_38_48, vn_39_48, vn_40_48, vn_41_48, vn_42_48, vn_43_48, vn_44_48, vn_0_9, vn_1_9, vn_2_9, vn_3_9, vn_4_9, vn_5_9, vn_6_9, vn_7_9, vn_8_9, vn_0_3, vn_1_3, vn_2_3, vn_0_4, vn_1_4, vn_2_4, vn_3_4, vn_0_64, vn_0_16, vn_0_400, vn_0_6, vn_0_14, Int32.reduceToNatClampNeg, Int32.reduceAdd, Int32.reduceSub, Int32.reduceMul, Int32.reduceLE, Int32.reduceLT, Nat.reduceAdd, nr_2, nr_30, nr_31, rd_2, rd_14, rd_71, rd_72, rd_101, rd_116, rd_121, up2_s, up2_n, upr_s, upr_n, ne_eq, not_false_eq_true, ob_70, rx_70_1, rx_70_3, rx_70_5, rx_70_6, rx_70_7, rx_70_8, rx_70_9, rx_70_21, rx_70_22, rx_70_23, rx_70_24, rx_70_25, rx_70_26, rx_70_27, rx_70_28, rx_70_29, rx_70_30, rx_70_31, rx_70_32, rx_70_33, rx_70_34, rx_70_35, rx_70_36, rx_70_37, rx_70_38, rx_70_39, rx_70_40, rx_70_41, rx_70_42, rx_70_43, rx_70_45, rx_70_46, rx_70_47, rx_70_48, rx_70_49, rx_70_51, rx_70_52, rx_70_53, rx_70_55, rx_70_56, rx_70_58, rx_70_59, rx_70_60, rx_70_61, rx_70_63, rx_70_64, rx_70_65, rx_70_70, rx_70_71, rx_70_72, rx_70_73, rx_70_74, r171_0, r171_1, r171_4, r171_5, r171_8, r171_9, r171_12, r171_13, r171_14, r171_17, r171_20, r171_21, r171_24, r171_25, r171_28, r171_29, r171_32, r171_33, r171_36, r171_37, r171_38, r171_39, r171_42, r171_43, r171_44, r171_47, tg_104, ln_104, tg_105, ln_105, wm_11, wm_13, wm_14, wm_15, wm_16, wm_4, wm_12, wm_18, wm_19, wm_20, wm_44, wm_50, wm_54, wm_n, wm_up, wm_u11, wm_u13, wm_u14, wm_u15, wm_u16, wm_u12, wm_u18, wm_u19, wm_u20, wm_u44, wm_u50, wm_u54, ym_n, ym_106, ym_107, ym_108, ym_50, ym_54, ym_12, ym_19, ym_20, ym_44, yu_106, yu_107, yu_108, yu_50, yu_54, yu_12, zm_n, zm_101, zm_102, zm_103, zm_104, zm_105, zm_44, zm_19, zm_20, zu_101, zu_102, zu_103, zu_104, zu_105, zu_44, ym_up, ym_u44, x1, x2, x3]
    exact hQ Z cm' ci' cd' wt' wl' op' g a b c
  · subst hE
    have hz := hQ S cm ci cd wt wl op hg (FE_ex (FE_r _) e0) (fun z => absurd z e0) (CFX_r _ _ _)
    simp (config := { decide := true, maxDischargeDepth := 20 }) only [↓reduceIte, KV_i, KV_v, wsm_0, wsm_i, wsm_l, wsm_r, dlV_i, dlV_r, dlV_l, dlV_j, cat_i, cat_l, cat_r, rf_s, true_and, and_true, and_self, if_true, if_false, ite_true, ite_false, eq_self, true_or, or_true, false_or, or_false, not_true_eq_false, not_false_eq_true, vn_0_45, vn_1_45, vn_2_45, vn_3_45, vn_4_45, vn_5_45, vn_6_45, vn_7_45, vn_8_45, vn_36_48, vn_37_48, vn_38_48, vn_39_48, vn_40_48, vn_41_48, vn_42_48, vn_43_48, vn_44_48, vn_0_9, vn_1_9, vn_2_9, vn_3_9, vn_4_9, vn_5_9, vn_6_9, vn_7_9, vn_8_9, vn_0_3, vn_1_3, vn_2_3, vn_0_4, vn_1_4, vn_2_4, vn_3_4, vn_0_64, vn_0_16, vn_0_400, vn_0_6, vn_0_14, Int32.reduceToNatClampNeg, Int32.reduceAdd, Int32.reduceSub, Int32.reduceMul, Int32.reduceLE, Int32.reduceLT, Nat.reduceAdd, nr_2, nr_30, nr_31, rd_2, rd_14, rd_71, rd_72, rd_101, rd_116, rd_121, up2_s, up2_n, upr_s, upr_n, ne_eq, not_false_eq_true, ob_70, rx_70_1, rx_70_3, rx_70_5, rx_70_6, rx_70_7, rx_70_8, rx_70_9, rx_70_21, rx_70_22, rx_70_23, rx_70_24, rx_70_25, rx_70_26, rx_70_27, rx_70_28, rx_70_29, rx_70_30, rx_70_31, rx_70_32, rx_70_33, rx_70_34, rx_70_35, rx_70_36, rx_70_37, rx_70_38, rx_70_39, rx_70_40, rx_70_41, rx_70_42, rx_70_43, rx_70_45, rx_70_46, rx_70_47, rx_70_48, rx_70_49, rx_70_51, rx_70_52, rx_70_53, rx_70_55, rx_70_56, rx_70_58, rx_70_59, rx_70_60, rx_70_61, rx_70_63, rx_70_64, rx_70_65, rx_70_70, rx_70_71, rx_70_72, rx_70_73, rx_70_74, r171_0, r171_1, r171_4, r171_5, r171_8, r171_9, r171_12, r171_13, r171_14, r171_17, r171_20, r171_21, r171_24, r171_25, r171_28, r171_29, r171_32, r171_33, r171_36, r171_37, r171_38, r171_39, r171_42, r171_43, r171_44, r171_47, tg_104, ln_104, tg_105, ln_105, wm_11, wm_13, wm_14, wm_15, wm_16, wm_4, wm_12, wm_18, wm_19, wm_20, wm_44, wm_50, wm_54, wm_n, wm_up, wm_u11, wm_u13, wm_u14, wm_u15, wm_u16, wm_u12, wm_u18, wm_u19, wm_u20, wm_u44, wm_u50, wm_u54, ym_n, ym_106, ym_107, ym_108, ym_50, ym_54, ym_12, ym_19, ym_20, ym_44, yu_106, yu_107, yu_108, yu_50, yu_54, yu_12, zm_n, zm_101, zm_102, zm_103, zm_104, zm_105, zm_44, zm_19, zm_20, zu_101, zu_102, zu_103, zu_104, zu_105, zu_44, ym_up, ym_u44, x1, x2, x3, e0]
    exact hz
theorem m_x99 {t : Nat} {u : Option Nat} {J : AI} {L : AL} {Q : PQ} {S : PS} {h f m q e cm ci wt : Nat → Int32} {br cd wl op sd : Nat} (hd : sd ≤ 1) {kd pl vl mv : Nat → Nat} {n : Nat} {K3 K4 K5 : Nat → Int32} {K6 : Nat → Int64} (hT : TMR kd pl vl mv n K3 K4 K5 K6) (h3 : J 73 = K3) (h4 : J 74 = K4) (h5 : J 75 = K5) (hv : ∀ j, kd j = 24 → vl j ≤ 9999) (hg : GS n S) (hb : S.2.1 = 0 → op = 0 ∧ 420 * sd ≤ cd ∧ cd ≤ 420 * sd + S.1) {E : PS × Cd} (hE : exE kd pl vl S = E) {X1 X2 X3 : Value} (hQ : (∀ Z cm' ci' cd' wt' wl' op', GS n Z → FE Z E.1 → (Z.2.1 = 0 → cm' = apg kM1 cm cd E.2 ∧ ci' = apg kM2 ci cd E.2 ∧ cd' = cd + E.2.length ∧ op' = 0) → CFX sd cm ci cm' ci' → V 170 110 [.ref 70, X1, X2, X3] [] 123 (wm (ym (zm J h f m q e br) cm' ci' cd' wt' wl' op') Z) L (RX t u) Q)) : V 170 99 [.ref 70, X1, X2, X3] [] 123 (wm (ym (zm J h f m q e br) cm ci cd wt wl op) S) L (RX t u) Q := by
  by_cases e0 : S.2.1 = 0
  · simp (config := { decide := true, maxDischargeDepth := 20 }) only [↓reduceIte, KV_i, KV_v, wsm_0, wsm_i, wsm_l, wsm_r, dlV_i, dlV_r, dlV_l, dlV_j, cat_i, cat_l, cat_r, rf_s, true_and, and_true, and_self, if_true, if_false, ite_true, ite_false, eq_self, true_or, or_true, false_or, or_false, not_true_eq_false, not_false_eq_true, vn_0_45, vn_1_45, vn_2_45, vn_3_45, vn_4_45, vn_5_45, vn_6_45, vn_7_45, vn_8_45, vn_36_48, vn_37_48, vn_38_48, vn_39_48, vn_40_48, vn_41_48, vn_42_48, vn_43_48, vn_44_48, vn_0_9, vn_1_9, vn_2_9, vn_3_9, vn_4_9, vn_5_9, vn_6_9, vn_7_9, vn_8_9, vn_0_3, vn_1_3, vn_2_3, vn_0_4, vn_1_4, vn_2_4, vn_3_4, vn_0_64, vn_0_16, vn_0_400, vn_0_6, vn_0_14, Int32.reduceToNatClampNeg, Int32.reduceAdd, Int32.reduceSub, Int32.reduceMul, Int32.reduceLE, Int32.reduceLT, Nat.reduceAdd, nr_2, nr_30, nr_31, rd_2, rd_14, rd_71, rd_72, rd_101, rd_116, rd_121, up2_s, up2_n, upr_s, upr_n, ne_eq, not_false_eq_true, ob_70, rx_70_1, rx_70_3, rx_70_5, rx_70_6, rx_70_7, rx_70_8, rx_70_9, rx_70_21, rx_70_22, rx_70_23, rx_70_24, rx_70_25, rx_70_26, rx_70_27, rx_70_28, rx_70_29, rx_70_30, rx_70_31, rx_70_32, rx_70_33, rx_70_34, rx_70_35, rx_70_36, rx_70_37, rx_70_38, rx_70_39, rx_70_40, rx_70_41, rx_70_42, rx_70_43, rx_70_45, rx_70_46, rx_70_47, rx_70_48, rx_70_49, rx_70_51, rx_70_52, rx_70_53, rx_70_55, rx_70_56, rx_70_58, rx_70_59, rx_70_60, rx_70_61, rx_70_63, rx_70_64, rx_70_65, rx_70_70, rx_70_71, rx_70_72, rx_70_73, rx_70_74, r170_0, r170_1, r170_2, r170_5, r170_6, r170_9, r170_10, r170_11, r170_12, r170_13, r170_16, r170_19, r170_20, r170_22, r170_25, r170_28, r170_29, r170_30, r170_33, r170_34, r170_35, r170_38, r170_39, r170_42, r170_45, r170_46, r170_49, r170_50, r170_53, r170_54, r170_57, r170_58, r170_61, r170_62, r170_63, r170_64, r170_67, r170_68, r170_71, r170_72, r170_75, r170_76, r170_77, r170_80, r170_81, r170_83, r170_86, r170_87, r170_90, r170_91, r170_94, r170_95, r170_98, r170_99, r170_100, r170_103, r170_106, r170_107, r170_111, r170_113, r170_116, r170_117, r170_120, r170_121, r170_123, r170_126, r170_129, r170_130, r170_133, r170_134, r170_137, r170_138, r170_139, r170_140, r170_143, r170_144, r170_145, r170_148, r170_149, r170_152, r170_155, r170_156, r170_157, r170_160, r170_161, r170_162, r170_165, r170_166, r170_167, r170_168, r170_169, r170_170, r170_171, r170_174, r170_175, r170_176, r170_179, r170_180, r170_181, r170_182, r170_183, r170_186, r170_187, wm_11, wm_13, wm_14, wm_15, wm_16, wm_4, wm_12, wm_18, wm_19, wm_20, wm_44, wm_50, wm_54, wm_n, wm_up, wm_u11, wm_u13, wm_u14, wm_u15, wm_u16, wm_u12, wm_u18, wm_u19, wm_u20, wm_u44, wm_u50, wm_u54, ym_n, ym_106, ym_107, ym_108, ym_50, ym_54, ym_12, ym_19, ym_20, ym_44, yu_106, yu_107, yu_108, yu_50, yu_54, yu_12, zm_n, zm_101, zm_102, zm_103, zm_104, zm_105, zm_44, zm_19, zm_20, zu_101, zu_102, zu_103, zu_104, zu_105, zu_44, ym_up, ym_u44, e0]
    refine m_exU hd hT (show zm J h f m q e br 73 = K3 from h3) (show zm J h f m q e br 74 = K4 from h4) (show zm J h f m q e br 75 = K5 from h5) hv hg hb hE (fun Z cm' ci' cd' wt' wl' op' g a b c => ?_)
    simp (config := { decide := true, maxDischargeDepth := 20 }) only [↓reduceIte, KV_i, KV_v, wsm_0, wsm_i, wsm_l, wsm_r, dlV_i, dlV_r, dlV_l, dlV_j, cat_i, cat_l, cat_r, rf_s, true_and, and_true, and_self, if_true, if_false, ite_true, ite_false, eq_self, true_or, or_true, false_or, or_false, not_true_eq_false, not_false_eq_true, vn_0_45, vn_1_45, vn_2_45, vn_3_45, vn_4_45, vn_5_45, vn_6_45, vn_7_45, vn_8_45, vn_36_48, vn_37_48, vn_38_48, vn_39_48, vn_40_48, vn_41_48, vn_42_48, vn_43_48, vn_44_48, vn_0_9, vn_1_9, vn_2_9, vn_3_9, vn_4_9, vn_5_9, vn_6_9, vn_7_9, vn_8_9, vn_0_3, vn_1_3, vn_2_3, vn_0_4, vn_1_4, vn_2_4, vn_3_4, vn_0_64, vn_0_16, vn_0_400, vn_0_6, vn_0_14, Int32.reduceToNatClampNeg, Int32.reduceAdd, Int32.reduceSub, Int32.reduceMul, Int32.reduceLE, Int32.reduceLT, Nat.reduceAdd, nr_2, nr_30, nr_31, rd_2, rd_14, rd_71, rd_72, rd_101, rd_116, rd_121, up2_s, up2_n, upr_s, upr_n, ne_eq, not_false_eq_true, ob_70, rx_70_1, rx_70_3, rx_70_5, rx_70_6, rx_70_7, rx_70_8, rx_70_9, rx_70_21, rx_70_22, rx_70_23, rx_70_24, rx_70_25, rx_70_26, rx_70_27, rx_70_28, rx_70_29, rx_70_30, rx_70_31, rx_70_32, rx_70_33, rx_70_34, rx_70_35, rx_70_36, rx_70_37, rx_70_38, rx_70_39, rx_70_40, rx_70_41, rx_70_42, rx_70_43, rx_70_45, rx_70_46, rx_70_47, rx_70_48, rx_70_49, rx_70_51, rx_70_52, rx_70_53, rx_70_55, rx_70_56, rx_70_58, rx_70_59, rx_70_60, rx_70_61, rx_70_63, rx_70_64, rx_70_65, rx_70_70, rx_70_71, rx_70_72, rx_70_73, rx_70_74]
    exact hQ Z cm' ci' cd' wt' wl' op' g a b c
  · subst hE
    have hz := hQ S cm ci cd wt wl op hg (FE_ex (FE_r _) e0) (fun z => absurd z e0) (CFX_r _ _ _)
    simp (config := { decide := true, maxDischargeDepth := 20 }) only [↓reduceIte, KV_i, KV_v, wsm_0, wsm_i, wsm_l, wsm_r, dlV_i, dlV_r, dlV_l, dlV_j, cat_i, cat_l, cat_r, rf_s, true_and, and_true, and_self, if_true, if_false, ite_true, ite_false, eq_self, true_or, or_true, false_or, or_false, not_true_eq_false, not_false_eq_true, vn_0_45, vn_1_45, vn_2_45, vn_3_45, vn_4_45, vn_5_45, vn_6_45, vn_7_45, vn_8_45, vn_36_48, vn_37_48, vn_38_48, vn_39_48, vn_40_48, vn_41_48, vn_42_48, vn_43_48, vn_44_48, vn_0_9, vn_1_9, vn_2_9, vn_3_9, vn_4_9, vn_5_9, vn_6_9, vn_7_9, vn_8_9, vn_0_3, vn_1_3, vn_2_3, vn_0_4, vn_1_4, vn_2_4, vn_3_4, vn_0_64, vn_0_16, vn_0_400, vn_0_6, vn_0_14, Int32.reduceToNatClampNeg, Int32.reduceAdd, Int32.reduceSub, Int32.reduceMul, Int32.reduceLE, Int32.reduceLT, Nat.reduceAdd, nr_2, nr_30, nr_31, rd_2, rd_14, rd_71, rd_72, rd_101, rd_116, rd_121, up2_s, up2_n, upr_s, upr_n, ne_eq, not_false_eq_true, ob_70, rx_70_1, rx_70_3, rx_70_5, rx_70_6, rx_70_7, rx_70_8, rx_70_9, rx_70_21, rx_70_22, rx_70_23, rx_70_24, rx_70_25, rx_70_26, rx_70_27, rx_70_28, rx_70_29, rx_70_30, rx_70_31, rx_70_32, rx_70_33, rx_70_34, rx_70_35, rx_70_36, rx_70_37, rx_70_38, rx_70_39, rx_70_40, rx_70_41, rx_70_42, rx_70_43, rx_70_45, rx_70_46, rx_70_47, rx_70_48, rx_70_49, rx_70_51, rx_70_52, rx_70_53, rx_70_55, rx_70_56, rx_70_58, rx_70_59, rx_70_60, rx_70_61, rx_70_63, rx_70_64, rx_70_65, rx_70_70, rx_70_71, rx_70_72, rx_70_73, rx_70_74, r170_0, r170_1, r170_2, r170_5, r170_6, r170_9, r170_10, r170_11, r170_12, r170_13, r170_16, r170_19, r170_20, r170_22, r170_25, r170_28, r170_29, r170_30, r170_33, r170_34, r170_35, r170_38, r170_39, r170_42, r170_45, r170_46, r170_49, r170_50, r170_53, r170_54, r170_57, r170_58, r170_61, r170_62, r170_63, r170_64, r170_67, r170_68, r170_71, r170_72, r170_75, r170_76, r170_77, r170_80, r170_81, r170_83, r170_86, r170_87, r170_90, r170_91, r170_94, r170_95, r170_98, r170_99, r170_100, r170_103, r170_106, r170_107, r170_111, r170_113, r170_116, r170_117, r170_120, r170_121, r170_123, r170_126, r170_129, r170_130, r170_133, r170_134, r170_137, r170_138, r170_139, r170_140, r170_143, r170_144, r170_145, r170_148, r170_149, r170_152, r170_155, r170_156, r170_157, r170_160, r170_161, r170_162, r170_165, r170_166, r170_167, r170_168, r170_169, r170_170, r170_171, r170_174, r170_175, r170_176, r170_179, r170_180, r170_181, r170_182, r170_183, r170_186, r170_187, wm_11, wm_13, wm_14, wm_15, wm_16, wm_4, wm_12, wm_18, wm_19, wm_20, wm_44, wm_50, wm_54, wm_n, wm_up, wm_u11, wm_u13, wm_u14, wm_u15, wm_u16, wm_u12, wm_u18, wm_u19, wm_u20, wm_u44, wm_u50, wm_u54, ym_n, ym_106, ym_107, ym_108, ym_50, ym_54, ym_12, ym_19, ym_20, ym_44, yu_106, yu_107, yu_108, yu_50, yu_54, yu_12, zm_n, zm_101, zm_102, zm_103, zm_104, zm_105, zm_44, zm_19, zm_20, zu_101, zu_102, zu_103, zu_104, zu_105, zu_44, ym_up, ym_u44, e0]
    exact hz
def lwA (kd pl vl : Nat → Nat) (S : PS) : Nat := (lw1 kd pl vl S).2.length
def lwB (kd pl vl : Nat → Nat) (S : PS) : Nat := (lw1 kd pl vl S).2.length + (lw2 kd pl vl S).2.length
def lwC (kd pl vl : Nat → Nat) (S : PS) : Nat := (lw1 kd pl vl S).2.length + (lw2 kd pl vl S).2.length + (lw3 kd pl vl S).2.length
theorem TMK {kd pl vl mv : Nat → Nat} {n : Nat} {K3 K4 K5 : Nat → Int32} {K6 : Nat → Int64} (hT : TMR kd pl vl mv n K3 K4 K5 K6) : TKR kd pl vl n (fun j => nI (kd j)) (fun j => nI (pl j)) (fun j => lN (vl j)) := ⟨hT.1, fun _ _ => ⟨rfl, rfl, rfl⟩, hT.2.2⟩
theorem IT_end {h f m q e cm ci cm1 ci1 cm2 ci2 cm3 ci3 : Nat → Int32} {br cd cd1 cd2 cd3 op1 op2 op3 : Nat} {a b c : Cd} (d1 : cm1 = apg kM1 cm cd a ∧ ci1 = apg kM2 ci cd a ∧ cd1 = cd + a.length ∧ op1 = 0) (d2 : cm2 = apg kM1 cm1 cd1 b ∧ ci2 = apg kM2 ci1 cd1 b ∧ cd2 = cd1 + b.length ∧ op2 = 0) (d3 : cm3 = apg kM1 cm2 cd2 c ∧ ci3 = apg kM2 ci2 cd2 c ∧ cd3 = cd2 + c.length ∧ op3 = 0) : upr h br 1 = upr h br 1 ∧ upr f br (nI cd) = upr f br (nI cd) ∧ upr m br (nI cd1) = upr m br (nI (cd + a.length)) ∧ upr q br (nI cd2) = upr q br (nI (cd + a.length + b.length)) ∧ upr e br (nI cd3) = upr e br (nI (cd + a.length + b.length + c.length)) ∧ cm3 = apg kM1 (apg kM1 (apg kM1 cm cd a) (cd + a.length) b) (cd + a.length + b.length) c ∧ ci3 = apg kM2 (apg kM2 (apg kM2 ci cd a) (cd + a.length) b) (cd + a.length + b.length) c ∧ cd3 = cd + a.length + b.length + c.length ∧ op3 = 0 := by
  obtain ⟨rfl, rfl, rfl, rfl⟩ := d1
  obtain ⟨rfl, rfl, rfl, rfl⟩ := d2
  obtain ⟨rfl, rfl, rfl, rfl⟩ := d3
  exact ⟨rfl, rfl, rfl, rfl, rfl, rfl, rfl, rfl, rfl⟩
theorem lm_iter {t : Nat} {u : Option Nat} {J : AI} {L : AL} {Q : PQ} {S : PS} {h f m q e cm ci wt : Nat → Int32} {br cd wl op sd : Nat} (hd : sd ≤ 1) {kd pl vl mv : Nat → Nat} {n : Nat} {K3 K4 K5 : Nat → Int32} {K6 : Nat → Int64} (hT : TMR kd pl vl mv n K3 K4 K5 K6) (h3 : J 73 = K3) (h4 : J 74 = K4) (h5 : J 75 = K5) (hv : ∀ j, kd j = 24 → vl j ≤ 9999) (hg : GS n S) (hi : isP kd 11 S = true) (hbr : br < 260) (ho : op = 0) (hc0 : 420 * sd ≤ cd) (hcd : cd ≤ 420 * sd + S.1) {X1 : Value} {fi : Int32} {ifs : Nat} (hQ : ∀ Z h' f' m' q' e' cm' ci' cd' wt' wl' op', GS n Z → FE Z (lw4 kd pl vl S) → (Z.2.1 = 0 → h' = upr h br 1 ∧ f' = upr f br (nI cd) ∧ m' = upr m br (nI (cd + (lw1 kd pl vl S).2.length)) ∧ q' = upr q br (nI (cd + (lw1 kd pl vl S).2.length + (lw2 kd pl vl S).2.length)) ∧ e' = upr e br (nI (cd + (lw1 kd pl vl S).2.length + (lw2 kd pl vl S).2.length + (lw3 kd pl vl S).2.length)) ∧ cm' = apg kM1 (apg kM1 (apg kM1 cm cd (lw1 kd pl vl S).2) (cd + (lw1 kd pl vl S).2.length) (lw2 kd pl vl S).2) (cd + (lw1 kd pl vl S).2.length + (lw2 kd pl vl S).2.length) (lw3 kd pl vl S).2 ∧ ci' = apg kM2 (apg kM2 (apg kM2 ci cd (lw1 kd pl vl S).2) (cd + (lw1 kd pl vl S).2.length) (lw2 kd pl vl S).2) (cd + (lw1 kd pl vl S).2.length + (lw2 kd pl vl S).2.length) (lw3 kd pl vl S).2 ∧ cd' = cd + (lw1 kd pl vl S).2.length + (lw2 kd pl vl S).2.length + (lw3 kd pl vl S).2.length ∧ op' = 0) → CFX sd cm ci cm' ci' → (∀ j, j ≠ br → h' j = h j ∧ f' j = f j ∧ m' j = m j ∧ q' j = q j ∧ e' j = e j) → V 170 12 [.ref 70, X1, .int fi, .int (nI (ifs + 1))] [] 123 (wm (ym (zm J h' f' m' q' e' (br + 1)) cm' ci' cd' wt' wl' op') Z) L (RX t u) Q) : V 170 46 [.ref 70, X1, .int fi, .int (nI ifs)] [] 123 (wm (ym (zm J h f m q e br) cm ci cd wt wl op) S) L (RX t u) Q := by
  subst ho
  have hK := TMK hT
  have hx := hg.1
  obtain ⟨l1, l2, l3, l4, l5, k1, k2⟩ := lw_le (pl := pl) hK hx
  have x1 := inT (a := br) (N := 260) (by omega) (by decide)
  have x2 := nI_clamp (n := br) (by omega)
  have x3 := nI_1 ifs
  have g1 := GS_take (q := 11) hT (by decide) hg
  have tg : goP pl S = takeP kd pl 11 S := by rw [take_is, if_pos hi]
  have z11 : (takeP kd pl 11 S).2.1 = 0 → (0 : Nat) = 0 ∧ 420 * sd ≤ cd ∧ cd ≤ 420 * sd + (takeP kd pl 11 S).1 := fun z => ⟨rfl, hc0, by rw [(take_0 z).1]; show cd ≤ 420 * sd + (S.1 + 1); omega⟩
  simp (config := { decide := true, maxDischargeDepth := 20 }) only [↓reduceIte, KV_i, KV_v, wsm_0, wsm_i, wsm_l, wsm_r, dlV_i, dlV_r, dlV_l, dlV_j, cat_i, cat_l, cat_r, rf_s, true_and, and_true, and_self, if_true, if_false, ite_true, ite_false, eq_self, true_or, or_true, false_or, or_false, not_true_eq_false, not_false_eq_true, vn_0_45, vn_1_45, vn_2_45, vn_3_45, vn_4_45, vn_5_45, vn_6_45, vn_7_45, vn_8_45, vn_36_48, vn_37_48, vn_38_48, vn_39_48, vn_40_48, vn_41_48, vn_42_48, vn_43_48, vn_44_48, vn_0_9, vn_1_9, vn_2_9, vn_3_9, vn_4_9, vn_5_9, vn_6_9, vn_7_9, vn_8_9, vn_0_3, vn_1_3, vn_2_3, vn_0_4, vn_1_4, vn_2_4, vn_3_4, vn_0_64, vn_0_16, vn_0_400, vn_0_6, vn_0_14, Int32.reduceToNatClampNeg, Int32.reduceAdd, Int32.reduceSub, Int32.reduceMul, Int32.reduceLE, Int32.reduceLT, Nat.reduceAdd, nr_2, nr_30, nr_31, rd_2, rd_14, rd_71, rd_72, rd_101, rd_116, rd_121, up2_s, up2_n, upr_s, upr_n, ne_eq, not_false_eq_true, ob_70, rx_70_1, rx_70_3, rx_70_5, rx_70_6, rx_70_7, rx_70_8, rx_70_9, rx_70_21, rx_70_22, rx_70_23, rx_70_24, rx_70_25, rx_70_26, rx_70_27, rx_70_28, rx_70_29, rx_70_30, rx_70_31, rx_70_32, rx_70_33, rx_70_34, rx_70_35, rx_70_36, rx_70_37, rx_70_38, rx_70_39, rx_70_40, rx_70_41, rx_70_42, rx_70_43, rx_70_45, rx_70_46, rx_70_47, rx_70_48, rx_70_49, rx_70_51, rx_70_52, rx_70_53, rx_70_55, rx_70_56, rx_70_58, rx_70_59, rx_70_60, rx_70_61, rx_70_63, rx_70_64, rx_70_65, rx_70_70, rx_70_71, rx_70_72, rx_70_73, rx_70_74, r170_0, r170_1, r170_2, r170_5, r170_6, r170_9, r170_10, r170_11, r170_13, r170_16, r170_19, r170_20, r170_22, r170_25, r170_28, r170_29, r170_30, r170_33, r170_34, r170_35, r170_38, r170_39, r170_42, r170_45, r170_46, r170_49, r170_50, r170_53, r170_54, r170_57, r170_58, r170_61, r170_62, r170_63, r170_64, r170_67, r170_68, r170_71, r170_72, r170_75, r170_76, r170_77, r170_80, r170_81, r170_83, r170_86, r170_87, r170_90, r170_91, r170_94, r170_95, r170_98, r170_100, r170_103, r170_106, r170_107, r170_110, r170_111, r170_113, r170_116, r170_117, r170_120, r170_121, r170_123, r170_126, r170_129, r170_130, r170_133, r170_134, r170_137, r170_138, r170_139, r170_140, r170_143, r170_144, r170_145, r170_148, r170_149, r170_152, r170_155, r170_156, r170_157, r170_160, r170_161, r170_162, r170_165, r170_166, r170_167, r170_168, r170_169, r170_170, r170_171, r170_174, r170_175, r170_176, r170_179, r170_180, r170_181, r170_182, r170_183, r170_186, r170_187, tg_101, ln_101, tg_102, ln_102, tg_103, ln_103, wm_11, wm_13, wm_14, wm_15, wm_16, wm_4, wm_12, wm_18, wm_19, wm_20, wm_44, wm_50, wm_54, wm_n, wm_up, wm_u11, wm_u13, wm_u14, wm_u15, wm_u16, wm_u12, wm_u18, wm_u19, wm_u20, wm_u44, wm_u50, wm_u54, ym_n, ym_106, ym_107, ym_108, ym_50, ym_54, ym_12, ym_19, ym_20, ym_44, yu_106, yu_107, yu_108, yu_50, yu_54, yu_12, zm_n, zm_101, zm_102, zm_103, zm_104, zm_105, zm_44, zm_19, zm_20, zu_101, zu_102, zu_103, zu_104, zu_105, zu_44, ym_up, ym_u44, m_goesOn hT, h3, h4, h5, hg, x1, x2, x3, tg]
  refine m_exU hd hT (show zm J (upr h br 1) (upr f br (nI cd)) m q e br 73 = K3 from h3) (show zm J (upr h br 1) (upr f br (nI cd)) m q e br 74 = K4 from h4) (show zm J (upr h br 1) (upr f br (nI cd)) m q e br 75 = K5 from h5) hv g1 z11 (E := lw1 kd pl vl S) lw1_d.symm (fun Z1 cm1 ci1 cd1 wt1 wl1 op1 G1 F1 D1 C1 => ?_)
  have G2 := GS_take (q := 31) hT (by decide) G1
  have F2 := FE_take (kd := kd) (pl := pl) (q := 31) F1
  simp (config := { decide := true, maxDischargeDepth := 20 }) only [↓reduceIte, KV_i, KV_v, wsm_0, wsm_i, wsm_l, wsm_r, dlV_i, dlV_r, dlV_l, dlV_j, cat_i, cat_l, cat_r, rf_s, true_and, and_true, and_self, if_true, if_false, ite_true, ite_false, eq_self, true_or, or_true, false_or, or_false, not_true_eq_false, not_false_eq_true, vn_0_45, vn_1_45, vn_2_45, vn_3_45, vn_4_45, vn_5_45, vn_6_45, vn_7_45, vn_8_45, vn_36_48, vn_37_48, vn_38_48, vn_39_48, vn_40_48, vn_41_48, vn_42_48, vn_43_48, vn_44_48, vn_0_9, vn_1_9, vn_2_9, vn_3_9, vn_4_9, vn_5_9, vn_6_9, vn_7_9, vn_8_9, vn_0_3, vn_1_3, vn_2_3, vn_0_4, vn_1_4, vn_2_4, vn_3_4, vn_0_64, vn_0_16, vn_0_400, vn_0_6, vn_0_14, Int32.reduceToNatClampNeg, Int32.reduceAdd, Int32.reduceSub, Int32.reduceMul, Int32.reduceLE, Int32.reduceLT, Nat.reduceAdd, nr_2, nr_30, nr_31, rd_2, rd_14, rd_71, rd_72, rd_101, rd_116, rd_121, up2_s, up2_n, upr_s, upr_n, ne_eq, not_false_eq_true, ob_70, rx_70_1, rx_70_3, rx_70_5, rx_70_6, rx_70_7, rx_70_8, rx_70_9, rx_70_21, rx_70_22, rx_70_23, rx_70_24, rx_70_25, rx_70_26, rx_70_27, rx_70_28, rx_70_29, rx_70_30, rx_70_31, rx_70_32, rx_70_33, rx_70_34, rx_70_35, rx_70_36, rx_70_37, rx_70_38, rx_70_39, rx_70_40, rx_70_41, rx_70_42, rx_70_43, rx_70_45, rx_70_46, rx_70_47, rx_70_48, rx_70_49, rx_70_51, rx_70_52, rx_70_53, rx_70_55, rx_70_56, rx_70_58, rx_70_59, rx_70_60, rx_70_61, rx_70_63, rx_70_64, rx_70_65, rx_70_70, rx_70_71, rx_70_72, rx_70_73, rx_70_74, r170_0, r170_1, r170_2, r170_5, r170_6, r170_9, r170_10, r170_11, r170_13, r170_16, r170_19, r170_20, r170_22, r170_25, r170_28, r170_29, r170_30, r170_33, r170_34, r170_35, r170_38, r170_39, r170_42, r170_45, r170_46, r170_49, r170_50, r170_53, r170_54, r170_57, r170_58, r170_61, r170_62, r170_63, r170_64, r170_67, r170_68, r170_71, r170_72, r170_75, r170_76, r170_77, r170_80, r170_81, r170_83, r170_86, r170_87, r170_90, r170_91, r170_94, r170_95, r170_98, r170_100, r170_103, r170_106, r170_107, r170_110, r170_111, r170_113, r170_116, r170_117, r170_120, r170_121, r170_123, r170_126, r170_129, r170_130, r170_133, r170_134, r170_137, r170_138, r170_139, r170_140, r170_143, r170_144, r170_145, r170_148, r170_149, r170_152, r170_155, r170_156, r170_157, r170_160, r170_161, r170_162, r170_165, r170_166, r170_167, r170_168, r170_169, r170_170, r170_171, r170_174, r170_175, r170_176, r170_179, r170_180, r170_181, r170_182, r170_183, r170_186, r170_187, tg_101, ln_101, tg_102, ln_102, tg_103, ln_103, wm_11, wm_13, wm_14, wm_15, wm_16, wm_4, wm_12, wm_18, wm_19, wm_20, wm_44, wm_50, wm_54, wm_n, wm_up, wm_u11, wm_u13, wm_u14, wm_u15, wm_u16, wm_u12, wm_u18, wm_u19, wm_u20, wm_u44, wm_u50, wm_u54, ym_n, ym_106, ym_107, ym_108, ym_50, ym_54, ym_12, ym_19, ym_20, ym_44, yu_106, yu_107, yu_108, yu_50, yu_54, yu_12, zm_n, zm_101, zm_102, zm_103, zm_104, zm_105, zm_44, zm_19, zm_20, zu_101, zu_102, zu_103, zu_104, zu_105, zu_44, ym_up, ym_u44, m_must_31 hT, h3, h4, h5, G1, x1, x2, x3]
  refine m_x99 hd hT h3 h4 h5 hv G2 (fun z => ?_) (E := exE kd pl vl (takeP kd pl 31 Z1)) rfl (fun Z2 cm2 ci2 cd2 wt2 wl2 op2 G3 F3 D2 C2 => ?_)
  · have t2 := take_0 z
    have d := D1 t2.2.1
    have eq := F1.2.2 t2.2.1
    have w := lw_01 (pl := pl) hK hv hx (by rw [← eq]; exact t2.2.1)
    refine ⟨d.2.2.2, by rw [d.2.2.1]; omega, ?_⟩
    rw [d.2.2.1, t2.1]
    show _ ≤ 420 * sd + (Z1.1 + 1)
    rw [eq]
    omega
  have F4 : FE Z2 (lw2 kd pl vl S).1 := by rw [lw2_d]; exact FE_ex2 F2 F3
  have G4 := GS_take (q := 12) hT (by decide) G3
  have F5 := FE_take (kd := kd) (pl := pl) (q := 12) F4
  simp (config := { decide := true, maxDischargeDepth := 20 }) only [↓reduceIte, KV_i, KV_v, wsm_0, wsm_i, wsm_l, wsm_r, dlV_i, dlV_r, dlV_l, dlV_j, cat_i, cat_l, cat_r, rf_s, true_and, and_true, and_self, if_true, if_false, ite_true, ite_false, eq_self, true_or, or_true, false_or, or_false, not_true_eq_false, not_false_eq_true, vn_0_45, vn_1_45, vn_2_45, vn_3_45, vn_4_45, vn_5_45, vn_6_45, vn_7_45, vn_8_45, vn_36_48, vn_37_48, vn_38_48, vn_39_48, vn_40_48, vn_41_48, vn_42_48, vn_43_48, vn_44_48, vn_0_9, vn_1_9, vn_2_9, vn_3_9, vn_4_9, vn_5_9, vn_6_9, vn_7_9, vn_8_9, vn_0_3, vn_1_3, vn_2_3, vn_0_4, vn_1_4, vn_2_4, vn_3_4, vn_0_64, vn_0_16, vn_0_400, vn_0_6, vn_0_14, Int32.reduceToNatClampNeg, Int32.reduceAdd, Int32.reduceSub, Int32.reduceMul, Int32.reduceLE, Int32.reduceLT, Nat.reduceAdd, nr_2, nr_30, nr_31, rd_2, rd_14, rd_71, rd_72, rd_101, rd_116, rd_121, up2_s, up2_n, upr_s, upr_n, ne_eq, not_false_eq_true, ob_70, rx_70_1, rx_70_3, rx_70_5, rx_70_6, rx_70_7, rx_70_8, rx_70_9, rx_70_21, rx_70_22, rx_70_23, rx_70_24, rx_70_25, rx_70_26, rx_70_27, rx_70_28, rx_70_29, rx_70_30, rx_70_31, rx_70_32, rx_70_33, rx_70_34, rx_70_35, rx_70_36, rx_70_37, rx_70_38, rx_70_39, rx_70_40, rx_70_41, rx_70_42, rx_70_43, rx_70_45, rx_70_46, rx_70_47, rx_70_48, rx_70_49, rx_70_51, rx_70_52, rx_70_53, rx_70_55, rx_70_56, rx_70_58, rx_70_59, rx_70_60, rx_70_61, rx_70_63, rx_70_64, rx_70_65, rx_70_70, rx_70_71, rx_70_72, rx_70_73, rx_70_74, r170_0, r170_1, r170_2, r170_5, r170_6, r170_9, r170_10, r170_11, r170_13, r170_16, r170_19, r170_20, r170_22, r170_25, r170_28, r170_29, r170_30, r170_33, r170_34, r170_35, r170_38, r170_39, r170_42, r170_45, r170_46, r170_49, r170_50, r170_53, r170_54, r170_57, r170_58, r170_61, r170_62, r170_63, r170_64, r170_67, r170_68, r170_71, r170_72, r170_75, r170_76, r170_77, r170_80, r170_81, r170_83, r170_86, r170_87, r170_90, r170_91, r170_94, r170_95, r170_98, r170_100, r170_103, r170_106, r170_107, r170_110, r170_111, r170_113, r170_116, r170_117, r170_120, r170_121, r170_123, r170_126, r170_129, r170_130, r170_133, r170_134, r170_137, r170_138, r170_139, r170_140, r170_143, r170_144, r170_145, r170_148, r170_149, r170_152, r170_155, r170_156, r170_157, r170_160, r170_161, r170_162, r170_165, r170_166, r170_167, r170_168, r170_169, r170_170, r170_171, r170_174, r170_175, r170_176, r170_179, r170_180, r170_181, r170_182, r170_183, r170_186, r170_187, wm_11, wm_13, wm_14, wm_15, wm_16, wm_4, wm_12, wm_18, wm_19, wm_20, wm_44, wm_50, wm_54, wm_n, wm_up, wm_u11, wm_u13, wm_u14, wm_u15, wm_u16, wm_u12, wm_u18, wm_u19, wm_u20, wm_u44, wm_u50, wm_u54, ym_n, ym_106, ym_107, ym_108, ym_50, ym_54, ym_12, ym_19, ym_20, ym_44, yu_106, yu_107, yu_108, yu_50, yu_54, yu_12, zm_n, zm_101, zm_102, zm_103, zm_104, zm_105, zm_44, zm_19, zm_20, zu_101, zu_102, zu_103, zu_104, zu_105, zu_44, ym_up, ym_u44, m_must_12 hT, h3, h4, h5, G3]
  refine m_termU hd hT h3 h4 h5 hv G4 hbr (fun z => ?_) (E := exE kd pl vl (takeP kd pl 12 Z2)) rfl (fun Z3 cm3 ci3 cd3 wt3 wl3 op3 G6 F6 D3 C3 => ?_)
  · have t3 := take_0 z
    have eq2 := F4.2.2 t3.2.1
    have f2 : (lw2 kd pl vl S).1.2.1 = 0 := by rw [← eq2]; exact t3.2.1
    have w := lw_02 (pl := pl) hK hv hx f2
    have e1 : Z1.2.1 = 0 := by rw [F1.1]; exact w.2.1
    have eq1 := F1.2.2 e1
    have d1 := D1 e1
    have d2 := D2 t3.2.1
    refine ⟨d2.2.2.2, by rw [d2.2.2.1, d1.2.2.1]; omega, ?_⟩
    rw [d2.2.2.1, d1.2.2.1, t3.1, eq1]
    show _ ≤ 420 * sd + (Z2.1 + 1)
    rw [eq2]
    rw [← lw2_d]
    omega
  have F7 : FE Z3 (lw3 kd pl vl S).1 := by rw [lw3_d]; exact FE_ex2 F5 F6
  have G8 := GS_take (q := 13) hT (by decide) G6
  have F8 := FE_take (kd := kd) (pl := pl) (q := 13) F7
  simp (config := { decide := true, maxDischargeDepth := 20 }) only [↓reduceIte, KV_i, KV_v, wsm_0, wsm_i, wsm_l, wsm_r, dlV_i, dlV_r, dlV_l, dlV_j, cat_i, cat_l, cat_r, rf_s, true_and, and_true, and_self, if_true, if_false, ite_true, ite_false, eq_self, true_or, or_true, false_or, or_false, not_true_eq_false, not_false_eq_true, vn_0_45, vn_1_45, vn_2_45, vn_3_45, vn_4_45, vn_5_45, vn_6_45, vn_7_45, vn_8_45, vn_36_48, vn_37_48, vn_38_48, vn_39_48, vn_40_48, vn_41_48, vn_42_48, vn_43_48, vn_44_48, vn_0_9, vn_1_9, vn_2_9, vn_3_9, vn_4_9, vn_5_9, vn_6_9, vn_7_9, vn_8_9, vn_0_3, vn_1_3, vn_2_3, vn_0_4, vn_1_4, vn_2_4, vn_3_4, vn_0_64, vn_0_16, vn_0_400, vn_0_6, vn_0_14, Int32.reduceToNatClampNeg, Int32.reduceAdd, Int32.reduceSub, Int32.reduceMul, Int32.reduceLE, Int32.reduceLT, Nat.reduceAdd, nr_2, nr_30, nr_31, rd_2, rd_14, rd_71, rd_72, rd_101, rd_116, rd_121, up2_s, up2_n, upr_s, upr_n, ne_eq, not_false_eq_true, ob_70, rx_70_1, rx_70_3, rx_70_5, rx_70_6, rx_70_7, rx_70_8, rx_70_9, rx_70_21, rx_70_22, rx_70_23, rx_70_24, rx_70_25, rx_70_26, rx_70_27, rx_70_28, rx_70_29, rx_70_30, rx_70_31, rx_70_32, rx_70_33, rx_70_34, rx_70_35, rx_70_36, rx_70_37, rx_70_38, rx_70_39, rx_70_40, rx_70_41, rx_70_42, rx_70_43, rx_70_45, rx_70_46, rx_70_47, rx_70_48, rx_70_49, rx_70_51, rx_70_52, rx_70_53, rx_70_55, rx_70_56, rx_70_58, rx_70_59, rx_70_60, rx_70_61, rx_70_63, rx_70_64, rx_70_65, rx_70_70, rx_70_71, rx_70_72, rx_70_73, rx_70_74, r170_0, r170_1, r170_2, r170_5, r170_6, r170_9, r170_10, r170_11, r170_13, r170_16, r170_19, r170_20, r170_22, r170_25, r170_28, r170_29, r170_30, r170_33, r170_34, r170_35, r170_38, r170_39, r170_42, r170_45, r170_46, r170_49, r170_50, r170_53, r170_54, r170_57, r170_58, r170_61, r170_62, r170_63, r170_64, r170_67, r170_68, r170_71, r170_72, r170_75, r170_76, r170_77, r170_80, r170_81, r170_83, r170_86, r170_87, r170_90, r170_91, r170_94, r170_95, r170_98, r170_100, r170_103, r170_106, r170_107, r170_110, r170_111, r170_113, r170_116, r170_117, r170_120, r170_121, r170_123, r170_126, r170_129, r170_130, r170_133, r170_134, r170_137, r170_138, r170_139, r170_140, r170_143, r170_144, r170_145, r170_148, r170_149, r170_152, r170_155, r170_156, r170_157, r170_160, r170_161, r170_162, r170_165, r170_166, r170_167, r170_168, r170_169, r170_170, r170_171, r170_174, r170_175, r170_176, r170_179, r170_180, r170_181, r170_182, r170_183, r170_186, r170_187, wm_11, wm_13, wm_14, wm_15, wm_16, wm_4, wm_12, wm_18, wm_19, wm_20, wm_44, wm_50, wm_54, wm_n, wm_up, wm_u11, wm_u13, wm_u14, wm_u15, wm_u16, wm_u12, wm_u18, wm_u19, wm_u20, wm_u44, wm_u50, wm_u54, ym_n, ym_106, ym_107, ym_108, ym_50, ym_54, ym_12, ym_19, ym_20, ym_44, yu_106, yu_107, yu_108, yu_50, yu_54, yu_12, zm_n, zm_101, zm_102, zm_103, zm_104, zm_105, zm_44, zm_19, zm_20, zu_101, zu_102, zu_103, zu_104, zu_105, zu_44, ym_up, ym_u44, m_must_13 hT, h3, h4, h5, G6]
  refine hQ (takeP kd pl 13 Z3) (upr h br 1) (upr f br (nI cd)) (upr m br (nI cd1)) (upr q br (nI cd2)) (upr e br (nI cd3)) cm3 ci3 cd3 wt3 wl3 op3 G8 (by rw [lw4_d]; exact F8) (fun z => ?_) (CFX_t (CFX_t C1 C2) C3) (fun j hj => ⟨upr_n hj, upr_n hj, upr_n hj, upr_n hj, upr_n hj⟩)
  rw [← lw4_d] at F8
  have eq4 : takeP kd pl 13 Z3 = lw4 kd pl vl S := F8.2.2 z
  have f4 : (lw4 kd pl vl S).2.1 = 0 := by rw [← eq4]; exact z
  obtain ⟨f0, ⟨f1, f2, f3⟩, fw, c1, c2, c3, c4⟩ := lw_0 (pl := pl) hK hv hx f4
  have e1 : Z1.2.1 = 0 := by rw [F1.1]; exact f1
  have e2 : Z2.2.1 = 0 := by rw [F4.1]; exact f2
  have e3 : Z3.2.1 = 0 := by rw [F7.1]; exact f3
  have q1 := F1.2.2 e1
  have q2 := F4.2.2 e2
  rw [q1, ← lw2_d] at D2
  rw [q2, ← lw3_d] at D3
  exact IT_end (D1 e1) (D2 e2) (D3 e3)
