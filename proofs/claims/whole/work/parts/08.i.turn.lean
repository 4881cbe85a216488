/-! READ: TURN -/
def tm (I : AI) (s c m d : Nat) (T W : Nat → Int32) : AI := upr (upr (up2 (up2 I (s + 3) c (nI m)) (s + 4) c (nI d)) (s + 5) T) (s + 6) W
theorem tm_n {I : AI} {s c m d : Nat} {T W : Nat → Int32} {a : Nat} (h1 : a ≠ s + 3) (h2 : a ≠ s + 4) (h3 : a ≠ s + 5) (h4 : a ≠ s + 6) : tm I s c m d T W a = I a := by
  unfold tm
  rw [upr_n h4, upr_n h3, up2_n h2, up2_n h1]
theorem tm_3 (I : AI) (s c m d : Nat) (T W : Nat → Int32) : tm I s c m d T W (s + 3) = upr (I (s + 3)) c (nI m) := by
  unfold tm
  rw [upr_n (by omega), upr_n (by omega), up2_n (by omega), up2_s]
theorem tm_4 (I : AI) (s c m d : Nat) (T W : Nat → Int32) : tm I s c m d T W (s + 4) = upr (I (s + 4)) c (nI d) := by
  unfold tm
  rw [upr_n (by omega), upr_n (by omega), up2_s, up2_n (by omega)]
theorem tm_5 (I : AI) (s c m d : Nat) (T W : Nat → Int32) : tm I s c m d T W (s + 5) = T := by
  unfold tm
  rw [upr_n (by omega), upr_s]
theorem tm_6 (I : AI) (s c m d : Nat) (T W : Nat → Int32) : tm I s c m d T W (s + 6) = W := by
  unfold tm
  rw [upr_s]
theorem ext_row {α : Type} {f g : Nat → α} (a : Nat) (h1 : f a = g a) (h2 : ∀ b, b ≠ a → f b = g b) : f = g := by
  funext b
  by_cases e : b = a
  · subst e; exact h1
  · exact h2 b e
theorem tm_e {I J : AI} {s : Nat} (h : ∀ a, a ≠ s + 3 → a ≠ s + 4 → a ≠ s + 5 → a ≠ s + 6 → I a = J a) (h3 : I (s + 3) = J (s + 3)) (h4 : I (s + 4) = J (s + 4)) (h5 : I (s + 5) = J (s + 5)) (h6 : I (s + 6) = J (s + 6)) : I = J := by
  funext a
  by_cases e3 : a = s + 3
  · subst e3; exact h3
  by_cases e4 : a = s + 4
  · subst e4; exact h4
  by_cases e5 : a = s + 5
  · subst e5; exact h5
  by_cases e6 : a = s + 6
  · subst e6; exact h6
  exact h a e3 e4 e5 e6
theorem tm_u3 (I : AI) (s c m d m' : Nat) (T W : Nat → Int32) : up2 (tm I s c m d T W) (s + 3) c (nI m') = tm I s c m' d T W := by
  refine tm_e (s := s) (fun a a3 a4 a5 a6 => ?_) ?_ ?_ ?_ ?_
  · rw [up2_n a3, tm_n a3 a4 a5 a6, tm_n a3 a4 a5 a6]
  · rw [up2_s, tm_3, tm_3, upr_u]
  · rw [up2_n (by omega), tm_4, tm_4]
  · rw [up2_n (by omega), tm_5, tm_5]
  · rw [up2_n (by omega), tm_6, tm_6]
theorem tm_u4 (I : AI) (s c m d d' : Nat) (T W : Nat → Int32) : up2 (tm I s c m d T W) (s + 4) c (nI d') = tm I s c m d' T W := by
  refine tm_e (s := s) (fun a a3 a4 a5 a6 => ?_) ?_ ?_ ?_ ?_
  · rw [up2_n a4, tm_n a3 a4 a5 a6, tm_n a3 a4 a5 a6]
  · rw [up2_n (by omega), tm_3, tm_3]
  · rw [up2_s, tm_4, tm_4, upr_u]
  · rw [up2_n (by omega), tm_5, tm_5]
  · rw [up2_n (by omega), tm_6, tm_6]
theorem tm_u5 (I : AI) (s c m d k : Nat) (v : Int32) (T W : Nat → Int32) : up2 (tm I s c m d T W) (s + 5) k v = tm I s c m d (upr T k v) W := by
  refine tm_e (s := s) (fun a a3 a4 a5 a6 => ?_) ?_ ?_ ?_ ?_
  · rw [up2_n a5, tm_n a3 a4 a5 a6, tm_n a3 a4 a5 a6]
  · rw [up2_n (by omega), tm_3, tm_3]
  · rw [up2_n (by omega), tm_4, tm_4]
  · rw [up2_s, tm_5, tm_5]
  · rw [up2_n (by omega), tm_6, tm_6]
theorem tm_u6 (I : AI) (s c m d k : Nat) (v : Int32) (T W : Nat → Int32) : up2 (tm I s c m d T W) (s + 6) k v = tm I s c m d T (upr W k v) := by
  refine tm_e (s := s) (fun a a3 a4 a5 a6 => ?_) ?_ ?_ ?_ ?_
  · rw [up2_n a6, tm_n a3 a4 a5 a6, tm_n a3 a4 a5 a6]
  · rw [up2_n (by omega), tm_3, tm_3]
  · rw [up2_n (by omega), tm_4, tm_4]
  · rw [up2_n (by omega), tm_5, tm_5]
  · rw [up2_s, tm_6, tm_6]
theorem tm_0 (I : AI) (s c : Nat) : up2 (up2 I (s + 3) c 0) (s + 4) c 0 = tm I s c 0 0 (I (s + 5)) (I (s + 6)) := by
  refine tm_e (s := s) (fun a a3 a4 a5 a6 => ?_) ?_ ?_ ?_ ?_
  · rw [up2_n a4, up2_n a3, tm_n a3 a4 a5 a6]
  · rw [up2_n (by omega), up2_s, tm_3]; rfl
  · rw [up2_s, up2_n (by omega), tm_4]; rfl
  · rw [up2_n (by omega), up2_n (by omega), tm_5]
  · rw [up2_n (by omega), up2_n (by omega), tm_6]
theorem tm_32_3 (I : AI) (c m d : Nat) (T W : Nat → Int32) : tm I 32 c m d T W 35 = upr (I 35) c (nI m) := tm_3 I 32 c m d T W
theorem tm_32_4 (I : AI) (c m d : Nat) (T W : Nat → Int32) : tm I 32 c m d T W 36 = upr (I 36) c (nI d) := tm_4 I 32 c m d T W
theorem tm_32_5 (I : AI) (c m d : Nat) (T W : Nat → Int32) : tm I 32 c m d T W 37 = T := tm_5 I 32 c m d T W
theorem tm_32_6 (I : AI) (c m d : Nat) (T W : Nat → Int32) : tm I 32 c m d T W 38 = W := tm_6 I 32 c m d T W
theorem tu_32_3 (I : AI) (c m d m' : Nat) (T W : Nat → Int32) : up2 (tm I 32 c m d T W) 35 c (nI m') = tm I 32 c m' d T W := tm_u3 I 32 c m d m' T W
theorem tu_32_4 (I : AI) (c m d m' : Nat) (T W : Nat → Int32) : up2 (tm I 32 c m d T W) 36 c (nI m') = tm I 32 c m m' T W := tm_u4 I 32 c m d m' T W
theorem tu_32_5 (I : AI) (c m d k : Nat) (v : Int32) (T W : Nat → Int32) : up2 (tm I 32 c m d T W) 37 k v = tm I 32 c m d (upr T k v) W := tm_u5 I 32 c m d k v T W
theorem tu_32_6 (I : AI) (c m d k : Nat) (v : Int32) (T W : Nat → Int32) : up2 (tm I 32 c m d T W) 38 k v = tm I 32 c m d T (upr W k v) := tm_u6 I 32 c m d k v T W
theorem tz_32 (I : AI) (c : Nat) : up2 (up2 I 35 c 0) 36 c 0 = tm I 32 c 0 0 (I 37) (I 38) := tm_0 I 32 c
theorem tm_51_3 (I : AI) (c m d : Nat) (T W : Nat → Int32) : tm I 51 c m d T W 54 = upr (I 54) c (nI m) := tm_3 I 51 c m d T W
theorem tm_51_4 (I : AI) (c m d : Nat) (T W : Nat → Int32) : tm I 51 c m d T W 55 = upr (I 55) c (nI d) := tm_4 I 51 c m d T W
theorem tm_51_5 (I : AI) (c m d : Nat) (T W : Nat → Int32) : tm I 51 c m d T W 56 = T := tm_5 I 51 c m d T W
theorem tm_51_6 (I : AI) (c m d : Nat) (T W : Nat → Int32) : tm I 51 c m d T W 57 = W := tm_6 I 51 c m d T W
theorem tu_51_3 (I : AI) (c m d m' : Nat) (T W : Nat → Int32) : up2 (tm I 51 c m d T W) 54 c (nI m') = tm I 51 c m' d T W := tm_u3 I 51 c m d m' T W
theorem tu_51_4 (I : AI) (c m d m' : Nat) (T W : Nat → Int32) : up2 (tm I 51 c m d T W) 55 c (nI m') = tm I 51 c m m' T W := tm_u4 I 51 c m d m' T W
theorem tu_51_5 (I : AI) (c m d k : Nat) (v : Int32) (T W : Nat → Int32) : up2 (tm I 51 c m d T W) 56 k v = tm I 51 c m d (upr T k v) W := tm_u5 I 51 c m d k v T W
theorem tu_51_6 (I : AI) (c m d k : Nat) (v : Int32) (T W : Nat → Int32) : up2 (tm I 51 c m d T W) 57 k v = tm I 51 c m d T (upr W k v) := tm_u6 I 51 c m d k v T W
theorem tz_51 (I : AI) (c : Nat) : up2 (up2 I 54 c 0) 55 c 0 = tm I 51 c 0 0 (I 56) (I 57) := tm_0 I 51 c
def mx0 (o : Option Nat) : Int32 := o.elim 0 nI
def tkO (kd : Nat → Nat) (o : Option Nat) (S : PS) : Option Nat := if tkB kd 23 S = true then o else none
def dpO (dp : Nat → Nat) (d : Nat) (o : Option Nat) : Nat := o.elim d (fun z => if d < dp z + 1 then dp z + 1 else d)
def turP (kd pl : Nat → Nat) (g : PS → PS) (v : PS → Int32) (lk : Nat → Option Nat) (dp : Nat → Nat) (cb : Nat) : Nat → PS → Nat → Nat → (Nat → Int32) → (Nat → Int32) → PS × Nat × Nat × (Nat → Int32) × (Nat → Int32)
  | 0, S, m, d, T, W => (S, m, d, T, W)
  | r + 1, S, m, d, T, W => if isP kd 23 S = true then (if m = 3 then (stopP pl 2 S, m, d, T, W) else turP kd pl g v lk dp cb r (g (knP kd pl (lk S.1) S)) (m + 1) (dpO dp d (tkO kd (lk S.1) S)) (upr T (cb + m) (mx0 (tkO kd (lk S.1) S))) (upr W (cb + m) (v (knP kd pl (lk S.1) S)))) else (S, m, d, T, W)
theorem knV_O (kd : Nat → Nat) (o : Option Nat) (S : PS) : knV kd o S = oI (tkO kd o S) := by
  unfold knV tkO
  split <;> rfl
theorem c_readMove {t s : Nat} {I : AI} {L : AL} {Q : PQ} {S : PS} {kd pl vl : Nat → Nat} {n kn : Nat} {K3 K4 K9 K10 : Nat → Int32} {K5 : Nat → Int64} {so nu : Nat → Nat} (hs : s = 32 ∨ s = 51) (hT : TKR kd pl vl n K3 K4 K5) (h3 : I 3 = K3) (h4 : I 4 = K4) (h5 : L 5 = K5) (h6 : I 7 6 = nI kn) (hk : kn ≤ 35) (hN : ∀ i, i < kn → K9 i = nI (so i) ∧ so i < 5 ∧ K10 i = nI (nu i)) (h9 : I 9 = K9) (h10 : I 10 = K10) (hx : S.1 ≤ n) {c m d : Nat} {T W : Nat → Int32} {dp : Nat → Nat} (hc : c < 14) (hm : m < 3) (hd : d < 100) (hl : ∀ i, i < kn → so i = 0 → nu i < c) (hp : ∀ j, j < c → I (s + 4) j = nI (dp j) ∧ dp j < 100) : V 33 0 [.ref 7, .int (nI c), .int (nI m), .retAddr 0, .retAddr 0] [] 123 (wr (tm I s c m d T W) S) L (RX t (some s)) Q = Q none 123 (wr (tm I s c (m + 1) (dpO dp d (tkO kd (lukP (L 8) so nu kn (lN (vl S.1)) 0) S)) (upr T (3 * c + m) (mx0 (tkO kd (lukP (L 8) so nu kn (lN (vl S.1)) 0) S))) (upr W (3 * c + m) (intV kd vl (knP kd pl (lukP (L 8) so nu kn (lN (vl S.1)) 0) S)))) (intP kd pl vl 0 9 (knP kd pl (lukP (L 8) so nu kn (lN (vl S.1)) 0) S))) L (RX t (some s)) := by
  have x1 := inT (a := 3 * c + m) (N := 42) (by omega) (by decide)
  have x2 := nI_clamp (n := 3 * c + m) (by omega)
  have x3 := inT (a := c) (N := 14) (by omega) (by decide)
  have x4 := nI_clamp (n := c) (by omega)
  have pk := fun (J : AI) (j3 : J 3 = K3) (j4 : J 4 = K4) (j6 : J 7 6 = nI kn) (j9 : J 9 = K9) (j10 : J 10 = K10) (Q2 : PQ) => c_takeKnown_0 (s := s) (t := t) (u := some s) (L := L) (Q := Q2) hT j3 j4 h5 j6 hk hN j9 j10 hx
  simp only [knV_O] at pk
  have hx1 : (knP kd pl (lukP (L 8) so nu kn (lN (vl S.1)) 0) S).1 ≤ n := kn_le hT hx
  generalize (knP kd pl (lukP (L 8) so nu kn (lN (vl S.1)) 0) S) = S1 at *
  cases e : tkO kd (lukP (L 8) so nu kn (lN (vl S.1)) 0) S with
  | none =>
    have em : oI none = -1 := rfl
    have e1 : mx0 none = 0 := rfl
    have e2 : dpO dp d none = d := rfl
    simp only [e, em] at pk
    rcases hs with rfl | rfl
    · simp (config := { decide := true, maxDischargeDepth := 20 }) only [↓reduceIte, KV_i, KV_v, wsm_0, wsm_i, wsm_l, wsm_r, dlV_i, dlV_r, dlV_l, dlV_j, cat_i, cat_l, cat_r, rf_s, true_and, and_true, and_self, if_true, if_false, ite_true, ite_false, eq_self, true_or, or_true, false_or, or_false, not_true_eq_false, not_false_eq_true, vn_0_45, vn_1_45, vn_2_45, vn_3_45, vn_4_45, vn_5_45, vn_6_45, vn_7_45, vn_8_45, vn_36_48, vn_37_48, vn_38_48, vn_39_48, vn_40_48, vn_41_48, vn_42_48, vn_43_48, vn_44_48, vn_0_9, vn_1_9, vn_2_9, vn_3_9, vn_4_9, vn_5_9, vn_6_9, vn_7_9, vn_8_9, vn_0_3, vn_1_3, vn_2_3, vn_0_4, vn_1_4, vn_2_4, vn_3_4, vn_0_64, vn_0_16, vn_0_400, vn_0_6, vn_0_14, Int32.reduceToNatClampNeg, Int32.reduceAdd, Int32.reduceSub, Int32.reduceMul, Int32.reduceLE, Int32.reduceLT, Nat.reduceAdd, nr_2, nr_30, nr_31, rd_2, rd_14, rd_71, rd_72, rd_101, rd_116, rd_121, up2_s, up2_n, upr_s, upr_n, ne_eq, not_false_eq_true, ob_0, ob_1, ob_7, ob_12, ob_17, ob_20, ob_23, ob_32, ob_46, ob_51, ob_65, rx_0_0, rx_0_1, rx_0_2, rx_0_3, rx_0_4, rx_0_5, rx_0_6, rx_0_7, rx_0_8, rx_0_9, rx_0_10, rx_1_0, rx_1_1, rx_1_2, rx_1_3, rx_1_4, rx_7_0, rx_7_1, rx_7_2, rx_7_3, rx_7_4, rx_12_0, rx_12_1, rx_12_2, rx_12_3, rx_17_0, rx_17_1, rx_20_0, rx_20_1, rx_23_0, rx_23_1, rx_23_2, rx_32_0, rx_32_1, rx_32_2, rx_32_3, rx_32_4, rx_32_5, rx_32_6, rx_32_7, rx_32_8, rx_32_9, rx_32_10, rx_32_11, rx_32_12, rx_32_13, rx_46_0, rx_46_1, rx_46_2, rx_46_3, rx_51_0, rx_51_1, rx_51_2, rx_51_3, rx_51_4, rx_51_5, rx_51_6, rx_51_7, rx_51_8, rx_51_9, rx_51_10, rx_51_11, rx_51_12, rx_51_13, rx_65_0, rx_65_1, rx_65_2, rx_65_3, rx_0_11, rx_0_12, rx_7_7, r33_0, r33_1, r33_2, r33_5, r33_6, r33_7, r33_8, r33_9, r33_10, r33_11, r33_13, r33_14, r33_17, r33_20, r33_22, r33_23, r33_24, r33_26, r33_29, r33_30, r33_31, r33_34, r33_37, r33_39, r33_40, r33_41, r33_44, r33_45, r33_46, r33_49, r33_52, r33_53, r33_54, r33_55, r33_56, r33_57, r33_58, r33_59, r33_62, r33_63, r33_66, r33_69, r33_70, r33_71, r33_74, r33_77, r33_78, r33_79, r33_80, r33_83, r33_86, r33_87, r33_88, r33_89, r33_90, r33_93, r33_94, tg_35, ln_35, tg_36, ln_36, tg_37, ln_37, tg_38, ln_38, wr_5, wr_6, wr_8, wr_9, wr_10, wr_11, wr_12, wr_n, wr_u7, wr_u8, wr_u9, wr_u10, wr_u11, wr_u12, wr_up, tm_32_3, tu_32_3, tm_32_4, tu_32_4, tm_32_5, tu_32_5, tm_32_6, tu_32_6, tm_n, pk, c_takeInt hT, hx1, h3, h4, h5, h6, h9, h10, m3r, x1, x2, x3, x4, e1, e2, nI_1]
    · simp (config := { decide := true, maxDischargeDepth := 20 }) only [↓reduceIte, KV_i, KV_v, wsm_0, wsm_i, wsm_l, wsm_r, dlV_i, dlV_r, dlV_l, dlV_j, cat_i, cat_l, cat_r, rf_s, true_and, and_true, and_self, if_true, if_false, ite_true, ite_false, eq_self, true_or, or_true, false_or, or_false, not_true_eq_false, not_false_eq_true, vn_0_45, vn_1_45, vn_2_45, vn_3_45, vn_4_45, vn_5_45, vn_6_45, vn_7_45, vn_8_45, vn_36_48, vn_37_48, vn_38_48, vn_39_48, vn_40_48, vn_41_48, vn_42_48, vn_43_48, vn_44_48, vn_0_9, vn_1_9, vn_2_9, vn_3_9, vn_4_9, vn_5_9, vn_6_9, vn_7_9, vn_8_9, vn_0_3, vn_1_3, vn_2_3, vn_0_4, vn_1_4, vn_2_4, vn_3_4, vn_0_64, vn_0_16, vn_0_400, vn_0_6, vn_0_14, Int32.reduceToNatClampNeg, Int32.reduceAdd, Int32.reduceSub, Int32.reduceMul, Int32.reduceLE, Int32.reduceLT, Nat.reduceAdd, nr_2, nr_30, nr_31, rd_2, rd_14, rd_71, rd_72, rd_101, rd_116, rd_121, up2_s, up2_n, upr_s, upr_n, ne_eq, not_false_eq_true, ob_0, ob_1, ob_7, ob_12, ob_17, ob_20, ob_23, ob_32, ob_46, ob_51, ob_65, rx_0_0, rx_0_1, rx_0_2, rx_0_3, rx_0_4, rx_0_5, rx_0_6, rx_0_7, rx_0_8, rx_0_9, rx_0_10, rx_1_0, rx_1_1, rx_1_2, rx_1_3, rx_1_4, rx_7_0, rx_7_1, rx_7_2, rx_7_3, rx_7_4, rx_12_0, rx_12_1, rx_12_2, rx_12_3, rx_17_0, rx_17_1, rx_20_0, rx_20_1, rx_23_0, rx_23_1, rx_23_2, rx_32_0, rx_32_1, rx_32_2, rx_32_3, rx_32_4, rx_32_5, rx_32_6, rx_32_7, rx_32_8, rx_32_9, rx_32_10, rx_32_11, rx_32_12, rx_32_13, rx_46_0, rx_46_1, rx_46_2, rx_46_3, rx_51_0, rx_51_1, rx_51_2, rx_51_3, rx_51_4, rx_51_5, rx_51_6, rx_51_7, rx_51_8, rx_51_9, rx_51_10, rx_51_11, rx_51_12, rx_51_13, rx_65_0, rx_65_1, rx_65_2, rx_65_3, rx_0_11, rx_0_12, rx_7_7, r33_0, r33_1, r33_2, r33_5, r33_6, r33_7, r33_8, r33_9, r33_10, r33_11, r33_13, r33_14, r33_17, r33_20, r33_22, r33_23, r33_24, r33_26, r33_29, r33_30, r33_31, r33_34, r33_37, r33_39, r33_40, r33_41, r33_44, r33_45, r33_46, r33_49, r33_52, r33_53, r33_54, r33_55, r33_56, r33_57, r33_58, r33_59, r33_62, r33_63, r33_66, r33_69, r33_70, r33_71, r33_74, r33_77, r33_78, r33_79, r33_80, r33_83, r33_86, r33_87, r33_88, r33_89, r33_90, r33_93, r33_94, tg_54, ln_54, tg_55, ln_55, tg_56, ln_56, tg_57, ln_57, wr_5, wr_6, wr_8, wr_9, wr_10, wr_11, wr_12, wr_n, wr_u7, wr_u8, wr_u9, wr_u10, wr_u11, wr_u12, wr_up, tm_51_3, tu_51_3, tm_51_4, tu_51_4, tm_51_5, tu_51_5, tm_51_6, tu_51_6, tm_n, pk, c_takeInt hT, hx1, h3, h4, h5, h6, h9, h10, m3r, x1, x2, x3, x4, e1, e2, nI_1]
  | some z =>
    have hz : z < c := by
      unfold tkO at e
      split at e
      · exact luk_b hl e
      · cases e
    have em : oI (some z) = nI z := rfl
    have e1 : mx0 (some z) = nI z := rfl
    have e2 : dpO dp d (some z) = if d < dp z + 1 then dp z + 1 else d := rfl
    have ez := nI_nm1 (n := z) (by omega)
    have x5 := inT (a := z) (N := 14) (by omega) (by decide)
    have x6 := nI_clamp (n := z) (by omega)
    have x7 : (if (0 : Int32) < nI z then nI z else 0) = nI z := by
      by_cases q : z = 0
      · subst q; rfl
      · exact if_pos (show (nI 0 : Int32) < nI z from nI_lt (a := 0) (b := z) (by omega) (by omega))
    have x8 : upr (I (s + 4)) c (nI d) z = nI (dp z) := by rw [upr_n (by omega)]; exact (hp z hz).1
    have dz := (hp z hz).2
    have x9 : (if nI d < nI (dp z + 1) then nI (dp z + 1) else nI d) = nI (if d < dp z + 1 then dp z + 1 else d) := by
      by_cases q : d < dp z + 1
      · rw [if_pos (nI_lt q (by omega)), if_pos q]
      · rw [if_neg (fun h => by rw [ltF (a := d) (b := dp z + 1) (by omega) (by omega)] at h; exact h), if_neg q]
    simp only [e, em] at pk
    rcases hs with rfl | rfl
    · simp only [Nat.reduceAdd] at x8
      simp (config := { decide := true, maxDischargeDepth := 20 }) only [↓reduceIte, KV_i, KV_v, wsm_0, wsm_i, wsm_l, wsm_r, dlV_i, dlV_r, dlV_l, dlV_j, cat_i, cat_l, cat_r, rf_s, true_and, and_true, and_self, if_true, if_false, ite_true, ite_false, eq_self, true_or, or_true, false_or, or_false, not_true_eq_false, not_false_eq_true, vn_0_45, vn_1_45, vn_2_45, vn_3_45, vn_4_45, vn_5_45, vn_6_45, vn_7_45, vn_8_45, vn_36_48, vn_37_48, vn_38_48, vn_39_48, vn_40_48, vn_41_48, vn_42_48, vn_43_48, vn_44_48, vn_0_9, vn_1_9, vn_2_9, vn_3_9, vn_4_9, vn_5_9, vn_6_9, vn_7_9, vn_8_9, vn_0_3, vn_1_3, vn_2_3, vn_0_4, vn_1_4, vn_2_4, vn_3_4, vn_0_64, vn_0_16, vn_0_400, vn_0_6, vn_0_14, Int32.reduceToNatClampNeg, Int32.reduceAdd, Int32.reduceSub, Int32.reduceMul, Int32.reduceLE, Int32.reduceLT, Nat.reduceAdd, nr_2, nr_30, nr_31, rd_2, rd_14, rd_71, rd_72, rd_101, rd_116, rd_121, up2_s, up2_n, upr_s, upr_n, ne_eq, not_false_eq_true, ob_0, ob_1, ob_7, ob_12, ob_17, ob_20, ob_23, ob_32, ob_46, ob_51, ob_65, rx_0_0, rx_0_1, rx_0_2, rx_0_3, rx_0_4, rx_0_5, rx_0_6, rx_0_7, rx_0_8, rx_0_9, rx_0_10, rx_1_0, rx_1_1, rx_1_2, rx_1_3, rx_1_4, rx_7_0, rx_7_1, rx_7_2, rx_7_3, rx_7_4, rx_12_0, rx_12_1, rx_12_2, rx_12_3, rx_17_0, rx_17_1, rx_20_0, rx_20_1, rx_23_0, rx_23_1, rx_23_2, rx_32_0, rx_32_1, rx_32_2, rx_32_3, rx_32_4, rx_32_5, rx_32_6, rx_32_7, rx_32_8, rx_32_9, rx_32_10, rx_32_11, rx_32_12, rx_32_13, rx_46_0, rx_46_1, rx_46_2, rx_46_3, rx_51_0, rx_51_1, rx_51_2, rx_51_3, rx_51_4, rx_51_5, rx_51_6, rx_51_7, rx_51_8, rx_51_9, rx_51_10, rx_51_11, rx_51_12, rx_51_13, rx_65_0, rx_65_1, rx_65_2, rx_65_3, rx_0_11, rx_0_12, rx_7_7, r33_0, r33_1, r33_2, r33_5, r33_6, r33_7, r33_8, r33_9, r33_10, r33_11, r33_13, r33_14, r33_17, r33_20, r33_22, r33_23, r33_24, r33_26, r33_29, r33_30, r33_31, r33_34, r33_37, r33_39, r33_40, r33_41, r33_44, r33_45, r33_46, r33_49, r33_52, r33_53, r33_54, r33_55, r33_56, r33_57, r33_58, r33_59, r33_62, r33_63, r33_66, r33_69, r33_70, r33_71, r33_74, r33_77, r33_78, r33_79, r33_80, r33_83, r33_86, r33_87, r33_88, r33_89, r33_90, r33_93, r33_94, tg_35, ln_35, tg_36, ln_36, tg_37, ln_37, tg_38, ln_38, wr_5, wr_6, wr_8, wr_9, wr_10, wr_11, wr_12, wr_n, wr_u7, wr_u8, wr_u9, wr_u10, wr_u11, wr_u12, wr_up, tm_32_3, tu_32_3, tm_32_4, tu_32_4, tm_32_5, tu_32_5, tm_32_6, tu_32_6, tm_n, pk, c_takeInt hT, hx1, h3, h4, h5, h6, h9, h10, m3r, x1, x2, x3, x4, x5, x6, x7, x8, x9, ez, e1, e2, nI_1]
    · simp only [Nat.reduceAdd] at x8
      simp (config := { decide := true, maxDischargeDepth := 20 }) only [↓reduceIte, KV_i, KV_v, wsm_0, wsm_i, wsm_l, wsm_r, dlV_i, dlV_r, dlV_l, dlV_j, cat_i, cat_l, cat_r, rf_s, true_and, and_true, and_self, if_true, if_false, ite_true, ite_false, eq_self, true_or, or_true, false_or, or_false, not_true_eq_false, not_false_eq_true, vn_0_45, vn_1_45, vn_2_45, vn_3_45, vn_4_45, vn_5_45, vn_6_45, vn_7_45, vn_8_45, vn_36_48, vn_37_48, vn_38_48, vn_39_48, vn_40_48, vn_41_48, vn_42_48, vn_43_48, vn_44_48, vn_0_9, vn_1_9, vn_2_9, vn_3_9, vn_4_9, vn_5_9, vn_6_9, vn_7_9, vn_8_9, vn_0_3, vn_1_3, vn_2_3, vn_0_4, vn_1_4, vn_2_4, vn_3_4, vn_0_64, vn_0_16, vn_0_400, vn_0_6, vn_0_14, Int32.reduceToNatClampNeg, Int32.reduceAdd, Int32.reduceSub, Int32.reduceMul, Int32.reduceLE, Int32.reduceLT, Nat.reduceAdd, nr_2, nr_30, nr_31, rd_2, rd_14, rd_71, rd_72, rd_101, rd_116, rd_121, up2_s, up2_n, upr_s, upr_n, ne_eq, not_false_eq_true, ob_0, ob_1, ob_7, ob_12, ob_17, ob_20, ob_23, ob_32, ob_46, ob_51, ob_65, rx_0_0, rx_0_1, rx_0_2, rx_0_3, rx_0_4, rx_0_5, rx_0_6, rx_0_7, rx_0_8, rx_0_9, rx_0_10, rx_1_0, rx_1_1, rx_1_2, rx_1_3, rx_1_4, rx_7_0, rx_7_1, rx_7_2, rx_7_3, rx_7_4, rx_12_0, rx_12_1, rx_12_2, rx_12_3, rx_17_0, rx_17_1, rx_20_0, rx_20_1, rx_23_0, rx_23_1, rx_23_2, rx_32_0, rx_32_1, rx_32_2, rx_32_3, rx_32_4, rx_32_5, rx_32_6, rx_32_7, rx_32_8, rx_32_9, rx_32_10, rx_32_11, rx_32_12, rx_32_13, rx_46_0, rx_46_1, rx_46_2, rx_46_3, rx_51_0, rx_51_1, rx_51_2, rx_51_3, rx_51_4, rx_51_5, rx_51_6, rx_51_7, rx_51_8, rx_51_9, rx_51_10, rx_51_11, rx_51_12, rx_51_13, rx_65_0, rx_65_1, rx_65_2, rx_65_3, rx_0_11, rx_0_12, rx_7_7, r33_0, r33_1, r33_2, r33_5, r33_6, r33_7, r33_8, r33_9, r33_10, r33_11, r33_13, r33_14, r33_17, r33_20, r33_22, r33_23, r33_24, r33_26, r33_29, r33_30, r33_31, r33_34, r33_37, r33_39, r33_40, r33_41, r33_44, r33_45, r33_46, r33_49, r33_52, r33_53, r33_54, r33_55, r33_56, r33_57, r33_58, r33_59, r33_62, r33_63, r33_66, r33_69, r33_70, r33_71, r33_74, r33_77, r33_78, r33_79, r33_80, r33_83, r33_86, r33_87, r33_88, r33_89, r33_90, r33_93, r33_94, tg_54, ln_54, tg_55, ln_55, tg_56, ln_56, tg_57, ln_57, wr_5, wr_6, wr_8, wr_9, wr_10, wr_11, wr_12, wr_n, wr_u7, wr_u8, wr_u9, wr_u10, wr_u11, wr_u12, wr_up, tm_51_3, tu_51_3, tm_51_4, tu_51_4, tm_51_5, tu_51_5, tm_51_6, tu_51_6, tm_n, pk, c_takeInt hT, hx1, h3, h4, h5, h6, h9, h10, m3r, x1, x2, x3, x4, x5, x6, x7, x8, x9, ez, e1, e2, nI_1]
theorem dp_b {dp : Nat → Nat} {c d : Nat} {o : Option Nat} (hd : d ≤ c) (hp : ∀ j, j < c → dp j ≤ j) (h : ∀ z, o = some z → z < c) : dpO dp d o ≤ c := by
  cases o with
  | none => exact hd
  | some z =>
    have h1 := h z rfl
    have h2 := hp z h1
    show (if d < dp z + 1 then dp z + 1 else d) ≤ c
    split <;> omega
theorem tkO_b {f : Nat → Int64} {so nu kd : Nat → Nat} {kn N : Nat} {v : Int64} {S : PS} (hN : ∀ i, i < kn → so i = 0 → nu i < N) : ∀ z, tkO kd (lukP f so nu kn v 0) S = some z → z < N := by
  intro z h
  unfold tkO at h
  split at h
  · exact luk_b hN h
  · cases h
theorem lc_turn {t s : Nat} {I : AI} {L : AL} {Q : PQ} {kd pl vl : Nat → Nat} {n kn : Nat} {K3 K4 K9 K10 : Nat → Int32} {K5 : Nat → Int64} {so nu : Nat → Nat} (hs : s = 32 ∨ s = 51) (hT : TKR kd pl vl n K3 K4 K5) (h3 : I 3 = K3) (h4 : I 4 = K4) (h5 : L 5 = K5) (h6 : I 7 6 = nI kn) (hk : kn ≤ 35) (hN : ∀ i, i < kn → K9 i = nI (so i) ∧ so i < 5 ∧ K10 i = nI (nu i)) (h9 : I 9 = K9) (h10 : I 10 = K10) {c : Nat} {dp : Nat → Nat} (hc : c < 14) (hl : ∀ i, i < kn → so i = 0 → nu i < c) (hp : ∀ j, j < c → I (s + 4) j = nI (dp j) ∧ dp j ≤ j) {x1 : Int32} {x2 : Int64} : ∀ r m (S : PS) d T W, m + r = 3 → S.1 ≤ n → d ≤ c → (∀ S' m' d' T' W' X5, (turP kd pl (intP kd pl vl 0 9) (intV kd vl) (fun j => lukP (L 8) so nu kn (lN (vl j)) 0) dp (3 * c) (r + 1) S m d T W) = (S', m', d', T', W') → S'.1 ≤ n → m' ≤ 3 → d' ≤ c → V 32 132 [.ref 7, .int x1, .long x2, .retAddr 0, .int (nI c), X5] [] 123 (wr (tm I s c m' d' T' W') S') L (RX t (some s)) Q) → V 32 89 [.ref 7, .int x1, .long x2, .retAddr 0, .int (nI c), .int (nI m)] [] 123 (wr (tm I s c m d T W) S) L (RX t (some s)) Q := by
  have tn3 : ∀ m d T W, tm I s c m d T W 3 = K3 := fun m d T W => by rw [tm_n (by omega) (by omega) (by omega) (by omega)]; exact h3
  have tn4 : ∀ m d T W, tm I s c m d T W 4 = K4 := fun m d T W => by rw [tm_n (by omega) (by omega) (by omega) (by omega)]; exact h4
  intro r
  induction r with
  | zero =>
    intro m S d T W hm hx hd hQ
    have e0 : m = 3 := by omega
    subst e0
    have kq := kI_23 (kd := kd) (S := S) hT.2.2.1
    have e1 : (nI 3 : Int32) = 3 := rfl
    unfold turP at hQ
    rw [r32_89]
    cases e3 : isP kd 23 S
    · rw [e3] at kq
      rw [e3] at hQ
      have hz := hQ S 3 d T W (.int 3) rfl hx (by omega) hd
      simp (config := { decide := true, maxDischargeDepth := 20 }) only [↓reduceIte, KV_i, KV_v, wsm_0, wsm_i, wsm_l, wsm_r, dlV_i, dlV_r, dlV_l, dlV_j, cat_i, cat_l, cat_r, rf_s, true_and, and_true, and_self, if_true, if_false, ite_true, ite_false, eq_self, true_or, or_true, false_or, or_false, not_true_eq_false, not_false_eq_true, vn_0_45, vn_1_45, vn_2_45, vn_3_45, vn_4_45, vn_5_45, vn_6_45, vn_7_45, vn_8_45, vn_36_48, vn_37_48, vn_38_48, vn_39_48, vn_40_48, vn_41_48, vn_42_48, vn_43_48, vn_44_48, vn_0_9, vn_1_9, vn_2_9, vn_3_9, vn_4_9, vn_5_9, vn_6_9, vn_7_9, vn_8_9, vn_0_3, vn_1_3, vn_2_3, vn_0_4, vn_1_4, vn_2_4, vn_3_4, vn_0_64, vn_0_16, vn_0_400, vn_0_6, vn_0_14, Int32.reduceToNatClampNeg, Int32.reduceAdd, Int32.reduceSub, Int32.reduceMul, Int32.reduceLE, Int32.reduceLT, Nat.reduceAdd, nr_2, nr_30, nr_31, rd_2, rd_14, rd_71, rd_72, rd_101, rd_116, rd_121, up2_s, up2_n, upr_s, upr_n, ne_eq, not_false_eq_true, ob_0, ob_1, ob_7, ob_12, ob_17, ob_20, ob_23, ob_32, ob_46, ob_51, ob_65, rx_0_0, rx_0_1, rx_0_2, rx_0_3, rx_0_4, rx_0_5, rx_0_6, rx_0_7, rx_0_8, rx_0_9, rx_0_10, rx_1_0, rx_1_1, rx_1_2, rx_1_3, rx_1_4, rx_7_0, rx_7_1, rx_7_2, rx_7_3, rx_7_4, rx_12_0, rx_12_1, rx_12_2, rx_12_3, rx_17_0, rx_17_1, rx_20_0, rx_20_1, rx_23_0, rx_23_1, rx_23_2, rx_32_0, rx_32_1, rx_32_2, rx_32_3, rx_32_4, rx_32_5, rx_32_6, rx_32_7, rx_32_8, rx_32_9, rx_32_10, rx_32_11, rx_32_12, rx_32_13, rx_46_0, rx_46_1, rx_46_2, rx_46_3, rx_51_0, rx_51_1, rx_51_2, rx_51_3, rx_51_4, rx_51_5, rx_51_6, rx_51_7, rx_51_8, rx_51_9, rx_51_10, rx_51_11, rx_51_12, rx_51_13, rx_65_0, rx_65_1, rx_65_2, rx_65_3, rx_0_11, rx_0_12, rx_7_7, r32_91, r32_92, r32_95, r32_96, r32_99, r32_101, c_kind hT, tn3, tn4, hx, kq, e1, Int32.lt_irrefl, Int32.le_refl, Bool.false_eq_true]
      exact hz
    · rw [e3, eq_self] at kq
      rw [e3] at hQ
      have hz := hQ (stopP pl 2 S) 3 d T W (.int 4) rfl (by rw [stop_x]; exact hx) (by omega) hd
      have r4 : V 32 89 [.ref 7, .int x1, .long x2, .retAddr 0, .int (nI c), .int 4] [] 123 (wr (tm I s c 3 d T W) (stopP pl 2 S)) L (RX t (some s)) Q := by
        rw [r32_89]
        simp (config := { decide := true, maxDischargeDepth := 20 }) only [↓reduceIte, KV_i, KV_v, wsm_0, wsm_i, wsm_l, wsm_r, dlV_i, dlV_r, dlV_l, dlV_j, cat_i, cat_l, cat_r, rf_s, true_and, and_true, and_self, if_true, if_false, ite_true, ite_false, eq_self, true_or, or_true, false_or, or_false, not_true_eq_false, not_false_eq_true, vn_0_45, vn_1_45, vn_2_45, vn_3_45, vn_4_45, vn_5_45, vn_6_45, vn_7_45, vn_8_45, vn_36_48, vn_37_48, vn_38_48, vn_39_48, vn_40_48, vn_41_48, vn_42_48, vn_43_48, vn_44_48, vn_0_9, vn_1_9, vn_2_9, vn_3_9, vn_4_9, vn_5_9, vn_6_9, vn_7_9, vn_8_9, vn_0_3, vn_1_3, vn_2_3, vn_0_4, vn_1_4, vn_2_4, vn_3_4, vn_0_64, vn_0_16, vn_0_400, vn_0_6, vn_0_14, Int32.reduceToNatClampNeg, Int32.reduceAdd, Int32.reduceSub, Int32.reduceMul, Int32.reduceLE, Int32.reduceLT, Nat.reduceAdd, nr_2, nr_30, nr_31, rd_2, rd_14, rd_71, rd_72, rd_101, rd_116, rd_121, up2_s, up2_n, upr_s, upr_n, ne_eq, not_false_eq_true, ob_0, ob_1, ob_7, ob_12, ob_17, ob_20, ob_23, ob_32, ob_46, ob_51, ob_65, rx_0_0, rx_0_1, rx_0_2, rx_0_3, rx_0_4, rx_0_5, rx_0_6, rx_0_7, rx_0_8, rx_0_9, rx_0_10, rx_1_0, rx_1_1, rx_1_2, rx_1_3, rx_1_4, rx_7_0, rx_7_1, rx_7_2, rx_7_3, rx_7_4, rx_12_0, rx_12_1, rx_12_2, rx_12_3, rx_17_0, rx_17_1, rx_20_0, rx_20_1, rx_23_0, rx_23_1, rx_23_2, rx_32_0, rx_32_1, rx_32_2, rx_32_3, rx_32_4, rx_32_5, rx_32_6, rx_32_7, rx_32_8, rx_32_9, rx_32_10, rx_32_11, rx_32_12, rx_32_13, rx_46_0, rx_46_1, rx_46_2, rx_46_3, rx_51_0, rx_51_1, rx_51_2, rx_51_3, rx_51_4, rx_51_5, rx_51_6, rx_51_7, rx_51_8, rx_51_9, rx_51_10, rx_51_11, rx_51_12, rx_51_13, rx_65_0, rx_65_1, rx_65_2, rx_65_3, rx_0_11, rx_0_12, rx_7_7, r32_91, r32_92]
        exact hz
      simp (config := { decide := true, maxDischargeDepth := 20 }) only [↓reduceIte, KV_i, KV_v, wsm_0, wsm_i, wsm_l, wsm_r, dlV_i, dlV_r, dlV_l, dlV_j, cat_i, cat_l, cat_r, rf_s, true_and, and_true, and_self, if_true, if_false, ite_true, ite_false, eq_self, true_or, or_true, false_or, or_false, not_true_eq_false, not_false_eq_true, vn_0_45, vn_1_45, vn_2_45, vn_3_45, vn_4_45, vn_5_45, vn_6_45, vn_7_45, vn_8_45, vn_36_48, vn_37_48, vn_38_48, vn_39_48, vn_40_48, vn_41_48, vn_42_48, vn_43_48, vn_44_48, vn_0_9, vn_1_9, vn_2_9, vn_3_9, vn_4_9, vn_5_9, vn_6_9, vn_7_9, vn_8_9, vn_0_3, vn_1_3, vn_2_3, vn_0_4, vn_1_4, vn_2_4, vn_3_4, vn_0_64, vn_0_16, vn_0_400, vn_0_6, vn_0_14, Int32.reduceToNatClampNeg, Int32.reduceAdd, Int32.reduceSub, Int32.reduceMul, Int32.reduceLE, Int32.reduceLT, Nat.reduceAdd, nr_2, nr_30, nr_31, rd_2, rd_14, rd_71, rd_72, rd_101, rd_116, rd_121, up2_s, up2_n, upr_s, upr_n, ne_eq, not_false_eq_true, ob_0, ob_1, ob_7, ob_12, ob_17, ob_20, ob_23, ob_32, ob_46, ob_51, ob_65, rx_0_0, rx_0_1, rx_0_2, rx_0_3, rx_0_4, rx_0_5, rx_0_6, rx_0_7, rx_0_8, rx_0_9, rx_0_10, rx_1_0, rx_1_1, rx_1_2, rx_1_3, rx_1_4, rx_7_0, rx_7_1, rx_7_2, rx_7_3, rx_7_4, rx_12_0, rx_12_1, rx_12_2, rx_12_3, rx_17_0, rx_17_1, rx_20_0, rx_20_1, rx_23_0, rx_23_1, rx_23_2, rx_32_0, rx_32_1, rx_32_2, rx_32_3, rx_32_4, rx_32_5, rx_32_6, rx_32_7, rx_32_8, rx_32_9, rx_32_10, rx_32_11, rx_32_12, rx_32_13, rx_46_0, rx_46_1, rx_46_2, rx_46_3, rx_51_0, rx_51_1, rx_51_2, rx_51_3, rx_51_4, rx_51_5, rx_51_6, rx_51_7, rx_51_8, rx_51_9, rx_51_10, rx_51_11, rx_51_12, rx_51_13, rx_65_0, rx_65_1, rx_65_2, rx_65_3, rx_0_11, rx_0_12, rx_7_7, r32_0, r32_1, r32_2, r32_3, r32_6, r32_9, r32_11, r32_14, r32_17, r32_18, r32_19, r32_22, r32_23, r32_24, r32_27, r32_28, r32_29, r32_32, r32_35, r32_37, r32_38, r32_41, r32_44, r32_46, r32_47, r32_48, r32_49, r32_52, r32_53, r32_54, r32_57, r32_60, r32_62, r32_63, r32_64, r32_65, r32_68, r32_71, r32_73, r32_74, r32_75, r32_76, r32_79, r32_82, r32_84, r32_85, r32_86, r32_87, r32_91, r32_92, r32_95, r32_96, r32_99, r32_101, r32_104, r32_106, r32_107, r32_110, r32_111, r32_112, r32_115, r32_118, r32_119, r32_121, r32_123, r32_126, r32_129, r32_132, r32_133, r32_135, r32_138, r32_139, r32_140, r32_143, r32_146, r32_148, r32_149, r32_152, r32_153, r32_154, r32_155, r32_158, r32_159, r32_162, r32_165, r32_167, r32_168, r32_169, r32_172, r32_173, r32_175, r32_176, r32_179, r32_180, r32_183, r32_184, r32_187, r32_188, r32_189, r32_192, r32_193, r32_194, r32_195, r32_197, r32_200, c_kind hT, c_stop hT, tn3, tn4, hx, kq, e1, Int32.lt_irrefl, Int32.le_refl]
      exact r4
  | succ r ih =>
    intro m S d T W hm hx hd hQ
    have kq := kI_23 (kd := kd) (S := S) hT.2.2.1
    have e1 : ((3 : Int32) < nI m) = False := ltF (a := 3) (b := m) (by omega) (by omega)
    have e2 : (nI m ≤ (3 : Int32)) = True := leT (a := m) (b := 3) (by omega) (by omega)
    have e4 : (nI m = (3 : Int32)) = False := eq_false (fun h => absurd ((nI_eq (a := m) (b := 3) (by omega) (by omega)).mp h) (by omega))
    unfold turP at hQ
    rw [r32_89]
    cases e3 : isP kd 23 S
    · rw [e3] at kq
      rw [e3] at hQ
      have hz := hQ S m d T W (.int (nI m)) rfl hx (by omega) hd
      simp (config := { decide := true, maxDischargeDepth := 20 }) only [↓reduceIte, KV_i, KV_v, wsm_0, wsm_i, wsm_l, wsm_r, dlV_i, dlV_r, dlV_l, dlV_j, cat_i, cat_l, cat_r, rf_s, true_and, and_true, and_self, if_true, if_false, ite_true, ite_false, eq_self, true_or, or_true, false_or, or_false, not_true_eq_false, not_false_eq_true, vn_0_45, vn_1_45, vn_2_45, vn_3_45, vn_4_45, vn_5_45, vn_6_45, vn_7_45, vn_8_45, vn_36_48, vn_37_48, vn_38_48, vn_39_48, vn_40_48, vn_41_48, vn_42_48, vn_43_48, vn_44_48, vn_0_9, vn_1_9, vn_2_9, vn_3_9, vn_4_9, vn_5_9, vn_6_9, vn_7_9, vn_8_9, vn_0_3, vn_1_3, vn_2_3, vn_0_4, vn_1_4, vn_2_4, vn_3_4, vn_0_64, vn_0_16, vn_0_400, vn_0_6, vn_0_14, Int32.reduceToNatClampNeg, Int32.reduceAdd, Int32.reduceSub, Int32.reduceMul, Int32.reduceLE, Int32.reduceLT, Nat.reduceAdd, nr_2, nr_30, nr_31, rd_2, rd_14, rd_71, rd_72, rd_101, rd_116, rd_121, up2_s, up2_n, upr_s, upr_n, ne_eq, not_false_eq_true, ob_0, ob_1, ob_7, ob_12, ob_17, ob_20, ob_23, ob_32, ob_46, ob_51, ob_65, rx_0_0, rx_0_1, rx_0_2, rx_0_3, rx_0_4, rx_0_5, rx_0_6, rx_0_7, rx_0_8, rx_0_9, rx_0_10, rx_1_0, rx_1_1, rx_1_2, rx_1_3, rx_1_4, rx_7_0, rx_7_1, rx_7_2, rx_7_3, rx_7_4, rx_12_0, rx_12_1, rx_12_2, rx_12_3, rx_17_0, rx_17_1, rx_20_0, rx_20_1, rx_23_0, rx_23_1, rx_23_2, rx_32_0, rx_32_1, rx_32_2, rx_32_3, rx_32_4, rx_32_5, rx_32_6, rx_32_7, rx_32_8, rx_32_9, rx_32_10, rx_32_11, rx_32_12, rx_32_13, rx_46_0, rx_46_1, rx_46_2, rx_46_3, rx_51_0, rx_51_1, rx_51_2, rx_51_3, rx_51_4, rx_51_5, rx_51_6, rx_51_7, rx_51_8, rx_51_9, rx_51_10, rx_51_11, rx_51_12, rx_51_13, rx_65_0, rx_65_1, rx_65_2, rx_65_3, rx_0_11, rx_0_12, rx_7_7, r32_91, r32_92, r32_95, r32_96, r32_99, r32_101, c_kind hT, tn3, tn4, hx, kq, e1, e2, Bool.false_eq_true]
      exact hz
    · rw [e3, eq_self] at kq
      rw [if_pos e3, if_neg (by omega)] at hQ
      have rm := fun Q2 : PQ => c_readMove (t := t) (s := s) (L := L) (Q := Q2) (S := S) (m := m) (d := d) (T := T) (W := W) hs hT h3 h4 h5 h6 hk hN h9 h10 hx hc (by omega) (by omega) hl (fun j hj => ⟨(hp j hj).1, by have := (hp j hj).2; omega⟩)
      have i1 := ih (m + 1) _ _ _ _ (by omega) (int_le (lo := 0) (hi := 9) hT (kn_le hT hx)) (dp_b hd (fun j hj => (hp j hj).2) (tkO_b hl)) hQ
      simp (config := { decide := true, maxDischargeDepth := 20 }) only [↓reduceIte, KV_i, KV_v, wsm_0, wsm_i, wsm_l, wsm_r, dlV_i, dlV_r, dlV_l, dlV_j, cat_i, cat_l, cat_r, rf_s, true_and, and_true, and_self, if_true, if_false, ite_true, ite_false, eq_self, true_or, or_true, false_or, or_false, not_true_eq_false, not_false_eq_true, vn_0_45, vn_1_45, vn_2_45, vn_3_45, vn_4_45, vn_5_45, vn_6_45, vn_7_45, vn_8_45, vn_36_48, vn_37_48, vn_38_48, vn_39_48, vn_40_48, vn_41_48, vn_42_48, vn_43_48, vn_44_48, vn_0_9, vn_1_9, vn_2_9, vn_3_9, vn_4_9, vn_5_9, vn_6_9, vn_7_9, vn_8_9, vn_0_3, vn_1_3, vn_2_3, vn_0_4, vn_1_4, vn_2_4, vn_3_4, vn_0_64, vn_0_16, vn_0_400, vn_0_6, vn_0_14, Int32.reduceToNatClampNeg, Int32.reduceAdd, Int32.reduceSub, Int32.reduceMul, Int32.reduceLE, Int32.reduceLT, Nat.reduceAdd, nr_2, nr_30, nr_31, rd_2, rd_14, rd_71, rd_72, rd_101, rd_116, rd_121, up2_s, up2_n, upr_s, upr_n, ne_eq, not_false_eq_true, ob_0, ob_1, ob_7, ob_12, ob_17, ob_20, ob_23, ob_32, ob_46, ob_51, ob_65, rx_0_0, rx_0_1, rx_0_2, rx_0_3, rx_0_4, rx_0_5, rx_0_6, rx_0_7, rx_0_8, rx_0_9, rx_0_10, rx_1_0, rx_1_1, rx_1_2, rx_1_3, rx_1_4, rx_7_0, rx_7_1, rx_7_2, rx_7_3, rx_7_4, rx_12_0, rx_12_1, rx_12_2, rx_12_3, rx_17_0, rx_17_1, rx_20_0, rx_20_1, rx_23_0, rx_23_1, rx_23_2, rx_32_0, rx_32_1, rx_32_2, rx_32_3, rx_32_4, rx_32_5, rx_32_6, rx_32_7, rx_32_8, rx_32_9, rx_32_10, rx_32_11, rx_32_12, rx_32_13, rx_46_0, rx_46_1, rx_46_2, rx_46_3, rx_51_0, rx_51_1, rx_51_2, rx_51_3, rx_51_4, rx_51_5, rx_51_6, rx_51_7, rx_51_8, rx_51_9, rx_51_10, rx_51_11, rx_51_12, rx_51_13, rx_65_0, rx_65_1, rx_65_2, rx_65_3, rx_0_11, rx_0_12, rx_7_7, r32_0, r32_1, r32_2, r32_3, r32_6, r32_9, r32_11, r32_14, r32_17, r32_18, r32_19, r32_22, r32_23, r32_24, r32_27, r32_28, r32_29, r32_32, r32_35, r32_37, r32_38, r32_41, r32_44, r32_46, r32_47, r32_48, r32_49, r32_52, r32_53, r32_54, r32_57, r32_60, r32_62, r32_63, r32_64, r32_65, r32_68, r32_71, r32_73, r32_74, r32_75, r32_76, r32_79, r32_82, r32_84, r32_85, r32_86, r32_87, r32_91, r32_92, r32_95, r32_96, r32_99, r32_101, r32_104, r32_106, r32_107, r32_110, r32_111, r32_112, r32_115, r32_118, r32_119, r32_121, r32_123, r32_126, r32_129, r32_132, r32_133, r32_135, r32_138, r32_139, r32_140, r32_143, r32_146, r32_148, r32_149, r32_152, r32_153, r32_154, r32_155, r32_158, r32_159, r32_162, r32_165, r32_167, r32_168, r32_169, r32_172, r32_173, r32_175, r32_176, r32_179, r32_180, r32_183, r32_184, r32_187, r32_188, r32_189, r32_192, r32_193, r32_194, r32_195, r32_197, r32_200, c_kind hT, tn3, tn4, hx, kq, e1, e2, e4, rm, nI_1]
      exact i1
