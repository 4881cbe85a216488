/-! cup -/
def cupB (f : Nat → Nat) : Nat → Nat
  | 0 => 0
  | n + 1 => if f (cupB f n) < f n then n else cupB f n
def cupM (f : Nat → Nat) : Nat → Nat
  | 0 => 0
  | n + 1 => if cupM f n < f n then f n else cupM f n
theorem cupB_lt (f : Nat → Nat) : ∀ n, 0 < n → cupB f n < n := by
  intro n
  induction n with
  | zero => intro h; omega
  | succ n ih =>
    intro _
    rw [cupB]
    split
    · omega
    · rcases Nat.eq_zero_or_pos n with rfl | q
      · rw [cupB]; omega
      · have := ih q; omega
theorem cupM_B (f : Nat → Nat) : ∀ n, f (cupB f (n + 1)) = cupM f (n + 1) := by
  intro n
  induction n with
  | zero => rw [cupB, cupB, cupM, cupM]; simp
  | succ n ih => rw [cupB, cupM, ← ih]; split <;> rfl
theorem cupM_le (f : Nat → Nat) {B : Nat} : ∀ n, (∀ a, a < n → f a ≤ B) → cupM f n ≤ B := by
  intro n
  induction n with
  | zero => intro _; rw [cupM]; omega
  | succ n ih =>
    intro h
    rw [cupM]
    split
    · exact h n (by omega)
    · exact ih (fun a ha => h a (by omega))
def cupR (f : Nat → Nat) (n : Nat) : Int32 := if cupM f n = 0 then -2 else nI (cupB f n)
theorem cupR_1 {f : Nat → Nat} {n : Nat} (h : cupM f n < f n) : cupR f (n + 1) = nI n := by
  unfold cupR
  rw [cupM, if_pos h, if_neg (by omega), cupB]
  rcases Nat.eq_zero_or_pos n with rfl | q
  · rw [cupB]; simp
  · obtain ⟨k, rfl⟩ : ∃ k, n = k + 1 := ⟨n - 1, by omega⟩
    rw [if_pos (by rw [cupM_B f]; exact h)]
theorem cupR_0 {f : Nat → Nat} {n : Nat} (h : ¬ cupM f n < f n) : cupR f (n + 1) = cupR f n := by
  unfold cupR
  rw [cupM, if_neg h, cupB]
  rcases Nat.eq_zero_or_pos n with rfl | q
  · rw [cupM] at h; rw [cupM]; rfl
  · obtain ⟨k, rfl⟩ : ∃ k, n = k + 1 := ⟨n - 1, by omega⟩
    rw [cupM_B f, if_neg h]
theorem lc_cup {t nm : Nat} {u : Option Nat} {I : AI} {L : AL} {Q : PQ} {w : Int32} {f : Nat → Nat} {B : Nat} (ht : t = 32 ∨ t = 51) (hw : w = 0 ∨ w = 1) (hn : nm ≤ 6) (hB : B < 2 ^ 30) (k2 : I t 15 = nI nm) (hf : ∀ a, a < nm → f a ≤ B ∧ I 13 (9 + 6 * a + (if w = 0 then 3 else 4)) = nI (f a)) : ∀ m a X, a + m = nm → V 97 20 [.ref 0, .int w, .int (cupR f a), .int (nI (cupM f a)), .int (nI a), X] [] 123 I L (RX t u) Q = Q (some (.int (cupR f nm))) 123 I L (RX t u) := by
  intro m
  induction m with
  | zero =>
    intro a X ha
    have e : a = nm := by omega
    subst e
    have e1 := leT (a := a) (b := a) (by omega) (by omega)
    rw [r97_20]
    rcases ht with rfl | rfl <;> (simp (config := { decide := true }) only [↓reduceIte, KV_i, KV_v, wsm_0, wsm_i, wsm_l, wsm_r, dlV_i, dlV_r, dlV_l, dlV_j, cat_i, cat_l, cat_r, rf_s, true_and, and_true, and_self, if_true, if_false, ite_true, ite_false, eq_self, true_or, or_true, false_or, or_false, not_true_eq_false, not_false_eq_true, vn_0_45, vn_1_45, vn_2_45, vn_3_45, vn_4_45, vn_5_45, vn_6_45, vn_7_45, vn_8_45, vn_36_48, vn_37_48, vn_38_48, vn_39_48, vn_40_48, vn_41_48, vn_42_48, vn_43_48, vn_44_48, vn_0_9, vn_1_9, vn_2_9, vn_3_9, vn_4_9, vn_5_9, vn_6_9, vn_7_9, vn_8_9, vn_0_3, vn_1_3, vn_2_3, vn_0_4, vn_1_4, vn_2_4, vn_3_4, vn_0_64, vn_0_16, vn_0_400, vn_0_6, vn_0_14, Int32.reduceToNatClampNeg, Int32.reduceAdd, Int32.reduceSub, Int32.reduceMul, Int32.reduceLE, Int32.reduceLT, Nat.reduceAdd, nr_2, nr_30, nr_31, rd_2, rd_14, rd_71, rd_72, rd_101, rd_116, rd_121, up2_s, up2_n, upr_s, upr_n, ne_eq, not_false_eq_true, ob_0, ob_1, ob_7, ob_12, ob_17, ob_20, ob_23, ob_32, ob_46, ob_51, ob_65, rx_0_0, rx_0_1, rx_0_2, rx_0_3, rx_0_4, rx_0_5, rx_0_6, rx_0_7, rx_0_8, rx_0_9, rx_0_10, rx_1_0, rx_1_1, rx_1_2, rx_1_3, rx_1_4, rx_7_0, rx_7_1, rx_7_2, rx_7_3, rx_7_4, rx_12_0, rx_12_1, rx_12_2, rx_12_3, rx_17_0, rx_17_1, rx_20_0, rx_20_1, rx_23_0, rx_23_1, rx_23_2, rx_32_0, rx_32_1, rx_32_2, rx_32_3, rx_32_4, rx_32_5, rx_32_6, rx_32_7, rx_32_8, rx_32_9, rx_32_10, rx_32_11, rx_32_12, rx_32_13, rx_46_0, rx_46_1, rx_46_2, rx_46_3, rx_51_0, rx_51_1, rx_51_2, rx_51_3, rx_51_4, rx_51_5, rx_51_6, rx_51_7, rx_51_8, rx_51_9, rx_51_10, rx_51_11, rx_51_12, rx_51_13, rx_65_0, rx_65_1, rx_65_2, rx_65_3, rx_0_11, rx_0_12, rx_7_7, r97_0, r97_1, r97_4, r97_7, r97_10, r97_11, r97_12, r97_14, r97_15, r97_16, r97_17, r97_18, r97_22, r97_23, r97_26, r97_29, r97_32, r97_33, r97_36, r97_39, r97_41, r97_42, r97_45, r97_46, r97_49, r97_50, r97_53, r97_54, r97_56, r97_58, r97_59, r97_62, r97_64, r97_65, r97_67, r97_68, r97_71, r97_74, r97_75, r120_0, r120_2, r120_3, r120_5, r120_6, r120_7, r120_8, r120_9, k2, e1])
  | succ m ih =>
    intro a X ha
    obtain ⟨f1, f2⟩ := hf a (by omega)
    have f3 := cupM_le f (B := B) a (fun b hb => (hf b (by omega)).1)
    have e1 := leF (a := nm) (b := a) (by omega) (by omega)
    have g1 := mcell a 3
    have g2 := mcell a 4
    have g3 := inT (a := 9 + 6 * a + 3) (N := 45) (by omega) (by decide)
    have g4 := nI_clamp (n := 9 + 6 * a + 3) (by omega)
    have g5 := inT (a := 9 + 6 * a + 4) (N := 45) (by omega) (by decide)
    have g6 := nI_clamp (n := 9 + 6 * a + 4) (by omega)
    rw [show nI 3 = 3 from rfl] at g1
    rw [show nI 4 = 4 from rfl] at g2
    have i1 := ih (a + 1) (.int (nI (f a))) (by omega)
    rw [r97_20]
    by_cases q : cupM f a < f a
    · rw [cupR_1 q, cupM, if_pos q] at i1
      have e2 := leF q (show f a < 2 ^ 31 by omega)
      rcases ht with rfl | rfl <;> rcases hw with rfl | rfl <;> (simp (config := { decide := true }) only [↓reduceIte] at f2; simp (config := { decide := true }) only [↓reduceIte, KV_i, KV_v, wsm_0, wsm_i, wsm_l, wsm_r, dlV_i, dlV_r, dlV_l, dlV_j, cat_i, cat_l, cat_r, rf_s, true_and, and_true, and_self, if_true, if_false, ite_true, ite_false, eq_self, true_or, or_true, false_or, or_false, not_true_eq_false, not_false_eq_true, vn_0_45, vn_1_45, vn_2_45, vn_3_45, vn_4_45, vn_5_45, vn_6_45, vn_7_45, vn_8_45, vn_36_48, vn_37_48, vn_38_48, vn_39_48, vn_40_48, vn_41_48, vn_42_48, vn_43_48, vn_44_48, vn_0_9, vn_1_9, vn_2_9, vn_3_9, vn_4_9, vn_5_9, vn_6_9, vn_7_9, vn_8_9, vn_0_3, vn_1_3, vn_2_3, vn_0_4, vn_1_4, vn_2_4, vn_3_4, vn_0_64, vn_0_16, vn_0_400, vn_0_6, vn_0_14, Int32.reduceToNatClampNeg, Int32.reduceAdd, Int32.reduceSub, Int32.reduceMul, Int32.reduceLE, Int32.reduceLT, Nat.reduceAdd, nr_2, nr_30, nr_31, rd_2, rd_14, rd_71, rd_72, rd_101, rd_116, rd_121, up2_s, up2_n, upr_s, upr_n, ne_eq, not_false_eq_true, ob_0, ob_1, ob_7, ob_12, ob_17, ob_20, ob_23, ob_32, ob_46, ob_51, ob_65, rx_0_0, rx_0_1, rx_0_2, rx_0_3, rx_0_4, rx_0_5, rx_0_6, rx_0_7, rx_0_8, rx_0_9, rx_0_10, rx_1_0, rx_1_1, rx_1_2, rx_1_3, rx_1_4, rx_7_0, rx_7_1, rx_7_2, rx_7_3, rx_7_4, rx_12_0, rx_12_1, rx_12_2, rx_12_3, rx_17_0, rx_17_1, rx_20_0, rx_20_1, rx_23_0, rx_23_1, rx_23_2, rx_32_0, rx_32_1, rx_32_2, rx_32_3, rx_32_4, rx_32_5, rx_32_6, rx_32_7, rx_32_8, rx_32_9, rx_32_10, rx_32_11, rx_32_12, rx_32_13, rx_46_0, rx_46_1, rx_46_2, rx_46_3, rx_51_0, rx_51_1, rx_51_2, rx_51_3, rx_51_4, rx_51_5, rx_51_6, rx_51_7, rx_51_8, rx_51_9, rx_51_10, rx_51_11, rx_51_12, rx_51_13, rx_65_0, rx_65_1, rx_65_2, rx_65_3, rx_0_11, rx_0_12, rx_7_7, r97_0, r97_1, r97_4, r97_7, r97_10, r97_11, r97_12, r97_14, r97_15, r97_16, r97_17, r97_18, r97_22, r97_23, r97_26, r97_29, r97_32, r97_33, r97_36, r97_39, r97_41, r97_42, r97_45, r97_46, r97_49, r97_50, r97_53, r97_54, r97_56, r97_58, r97_59, r97_62, r97_64, r97_65, r97_67, r97_68, r97_71, r97_74, r97_75, r120_0, r120_2, r120_3, r120_5, r120_6, r120_7, r120_8, r120_9, tg_13, ln_13,  k2, e1, e2, f2, g1, g2, g3, g4, g5, g6, nI_1]; exact i1)
    · rw [cupR_0 q, cupM, if_neg q] at i1
      have e2 := leT (a := f a) (b := cupM f a) (by omega) (by omega)
      rcases ht with rfl | rfl <;> rcases hw with rfl | rfl <;> (simp (config := { decide := true }) only [↓reduceIte] at f2; simp (config := { decide := true }) only [↓reduceIte, KV_i, KV_v, wsm_0, wsm_i, wsm_l, wsm_r, dlV_i, dlV_r, dlV_l, dlV_j, cat_i, cat_l, cat_r, rf_s, true_and, and_true, and_self, if_true, if_false, ite_true, ite_false, eq_self, true_or, or_true, false_or, or_false, not_true_eq_false, not_false_eq_true, vn_0_45, vn_1_45, vn_2_45, vn_3_45, vn_4_45, vn_5_45, vn_6_45, vn_7_45, vn_8_45, vn_36_48, vn_37_48, vn_38_48, vn_39_48, vn_40_48, vn_41_48, vn_42_48, vn_43_48, vn_44_48, vn_0_9, vn_1_9, vn_2_9, vn_3_9, vn_4_9, vn_5_9, vn_6_9, vn_7_9, vn_8_9, vn_0_3, vn_1_3, vn_2_3, vn_0_4, vn_1_4, vn_2_4, vn_3_4, vn_0_64, vn_0_16, vn_0_400, vn_0_6, vn_0_14, Int32.reduceToNatClampNeg, Int32.reduceAdd, Int32.reduceSub, Int32.reduceMul, Int32.reduceLE, Int32.reduceLT, Nat.reduceAdd, nr_2, nr_30, nr_31, rd_2, rd_14, rd_71, rd_72, rd_101, rd_116, rd_121, up2_s, up2_n, upr_s, upr_n, ne_eq, not_false_eq_true, ob_0, ob_1, ob_7, ob_12, ob_17, ob_20, ob_23, ob_32, ob_46, ob_51, ob_65, rx_0_0, rx_0_1, rx_0_2, rx_0_3, rx_0_4, rx_0_5, rx_0_6, rx_0_7, rx_0_8, rx_0_9, rx_0_10, rx_1_0, rx_1_1, rx_1_2, rx_1_3, rx_1_4, rx_7_0, rx_7_1, rx_7_2, rx_7_3, rx_7_4, rx_12_0, rx_12_1, rx_12_2, rx_12_3, rx_17_0, rx_17_1, rx_20_0, rx_20_1, rx_23_0, rx_23_1, rx_23_2, rx_32_0, rx_32_1, rx_32_2, rx_32_3, rx_32_4, rx_32_5, rx_32_6, rx_32_7, rx_32_8, rx_32_9, rx_32_10, rx_32_11, rx_32_12, rx_32_13, rx_46_0, rx_46_1, rx_46_2, rx_46_3, rx_51_0, rx_51_1, rx_51_2, rx_51_3, rx_51_4, rx_51_5, rx_51_6, rx_51_7, rx_51_8, rx_51_9, rx_51_10, rx_51_11, rx_51_12, rx_51_13, rx_65_0, rx_65_1, rx_65_2, rx_65_3, rx_0_11, rx_0_12, rx_7_7, r97_0, r97_1, r97_4, r97_7, r97_10, r97_11, r97_12, r97_14, r97_15, r97_16, r97_17, r97_18, r97_22, r97_23, r97_26, r97_29, r97_32, r97_33, r97_36, r97_39, r97_41, r97_42, r97_45, r97_46, r97_49, r97_50, r97_53, r97_54, r97_56, r97_58, r97_59, r97_62, r97_64, r97_65, r97_67, r97_68, r97_71, r97_74, r97_75, r120_0, r120_2, r120_3, r120_5, r120_6, r120_7, r120_8, r120_9, tg_13, ln_13,  k2, e1, e2, f2, g1, g2, g3, g4, g5, g6, nI_1]; exact i1)
theorem lm_cup {t nm lv : Nat} {u : Option Nat} {I : AI} {L : AL} {Q : PQ} {w : Int32} {f : Nat → Nat} {B b : Nat} (hb : b ≤ 24) (hv : lv ≤ 1) (hn : nm ≤ 6) (hB : B < 2 ^ 30) (r2 : I 70 18 = nI lv) (s2 : I 88 lv = nI nm) (hf : ∀ a, a < nm → f a ≤ B ∧ I 111 (b + a) = nI (f a)) : ∀ m a, 1 ≤ a → a + m = nm → V 220 31 [.ref 70, .int w, .int (nI b), .int (nI (cupB f a)), .int (nI a)] [] 123 I L (RX t u) Q = Q (some (.int (cupR f nm))) 123 I L (RX t u) := by
  have v1 := inT (a := lv) (N := 2) (by omega) (by decide)
  have v2 := nI_clamp (n := lv) (by omega)
  intro m
  induction m with
  | zero =>
    intro a h1 ha
    have e : a = nm := by omega
    subst e
    have e1 := leT (a := a) (b := a) (by omega) (by omega)
    have c0 := cupB_lt f a (by omega)
    have g3 := inT (a := b + cupB f a) (N := 48) (by omega) (by decide)
    have g4 := nI_clamp (n := b + cupB f a) (by omega)
    obtain ⟨f1, f2⟩ := hf _ c0
    have f3 : f (cupB f a) = cupM f a := by obtain ⟨k, rfl⟩ : ∃ k, a = k + 1 := ⟨a - 1, by omega⟩; exact cupM_B f k
    rw [f3] at f1 f2
    rw [r220_31]
    unfold cupR
    by_cases q : cupM f a = 0
    · rw [if_pos q]
      rw [q, nI_0] at f2
      simp (config := { decide := true }) only [↓reduceIte, KV_i, KV_v, wsm_0, wsm_i, wsm_l, wsm_r, dlV_i, dlV_r, dlV_l, dlV_j, cat_i, cat_l, cat_r, rf_s, true_and, and_true, and_self, if_true, if_false, ite_true, ite_false, eq_self, true_or, or_true, false_or, or_false, not_true_eq_false, not_false_eq_true, vn_0_45, vn_1_45, vn_2_45, vn_3_45, vn_4_45, vn_5_45, vn_6_45, vn_7_45, vn_8_45, vn_36_48, vn_37_48, vn_38_48, vn_39_48, vn_40_48, vn_41_48, vn_42_48, vn_43_48, vn_44_48, vn_0_9, vn_1_9, vn_2_9, vn_3_9, vn_4_9, vn_5_9, vn_6_9, vn_7_9, vn_8_9, vn_0_3, vn_1_3, vn_2_3, vn_0_4, vn_1_4, vn_2_4, vn_3_4, vn_0_64, vn_0_16, vn_0_400, vn_0_6, vn_0_14, Int32.reduceToNatClampNeg, Int32.reduceAdd, Int32.reduceSub, Int32.reduceMul, Int32.reduceLE, Int32.reduceLT, Nat.reduceAdd, nr_2, nr_30, nr_31, rd_2, rd_14, rd_71, rd_72, rd_101, rd_116, rd_121, up2_s, up2_n, upr_s, upr_n, ne_eq, not_false_eq_true, ob_70, rx_70_1, rx_70_3, rx_70_5, rx_70_6, rx_70_7, rx_70_8, rx_70_9, rx_70_21, rx_70_22, rx_70_23, rx_70_24, rx_70_25, rx_70_26, rx_70_27, rx_70_28, rx_70_29, rx_70_30, rx_70_31, rx_70_32, rx_70_33, rx_70_34, rx_70_35, rx_70_36, rx_70_37, rx_70_38, rx_70_39, rx_70_40, rx_70_41, rx_70_42, rx_70_43, rx_70_45, rx_70_46, rx_70_47, rx_70_48, rx_70_49, rx_70_51, rx_70_52, rx_70_53, rx_70_55, rx_70_56, rx_70_58, rx_70_59, rx_70_60, rx_70_61, rx_70_63, rx_70_64, rx_70_65, rx_70_70, rx_70_71, rx_70_72, rx_70_73, rx_70_74, r220_0, r220_1, r220_4, r220_5, r220_8, r220_9, r220_12, r220_13, r220_14, r220_15, r220_18, r220_20, r220_23, r220_25, r220_26, r220_27, r220_28, r220_29, r220_33, r220_34, r220_37, r220_38, r220_41, r220_42, r220_45, r220_46, r220_49, r220_50, r220_52, r220_53, r220_54, r220_55, r220_58, r220_59, r220_60, r220_61, r220_62, r220_65, r220_67, r220_68, r220_71, r220_74, r220_75, r220_78, r220_79, r220_80, r220_81, r220_82, r220_85, r220_87, r220_90, r220_91, tg_88, ln_88, tg_111, ln_111,  r2, s2, v1, v2, e1, nI_add, g3, g4, f2]
    · rw [if_neg q]
      have e2 : (nI (cupM f a) = 0) = False := eq_false (nI_ne0 (by omega) (by omega))
      simp (config := { decide := true }) only [↓reduceIte, KV_i, KV_v, wsm_0, wsm_i, wsm_l, wsm_r, dlV_i, dlV_r, dlV_l, dlV_j, cat_i, cat_l, cat_r, rf_s, true_and, and_true, and_self, if_true, if_false, ite_true, ite_false, eq_self, true_or, or_true, false_or, or_false, not_true_eq_false, not_false_eq_true, vn_0_45, vn_1_45, vn_2_45, vn_3_45, vn_4_45, vn_5_45, vn_6_45, vn_7_45, vn_8_45, vn_36_48, vn_37_48, vn_38_48, vn_39_48, vn_40_48, vn_41_48, vn_42_48, vn_43_48, vn_44_48, vn_0_9, vn_1_9, vn_2_9, vn_3_9, vn_4_9, vn_5_9, vn_6_9, vn_7_9, vn_8_9, vn_0_3, vn_1_3, vn_2_3, vn_0_4, vn_1_4, vn_2_4, vn_3_4, vn_0_64, vn_0_16, vn_0_400, vn_0_6, vn_0_14, Int32.reduceToNatClampNeg, Int32.reduceAdd, Int32.reduceSub, Int32.reduceMul, Int32.reduceLE, Int32.reduceLT, Nat.reduceAdd, nr_2, nr_30, nr_31, rd_2, rd_14, rd_71, rd_72, rd_101, rd_116, rd_121, up2_s, up2_n, upr_s, upr_n, ne_eq, not_false_eq_true, ob_70, rx_70_1, rx_70_3, rx_70_5, rx_70_6, rx_70_7, rx_70_8, rx_70_9, rx_70_21, rx_70_22, rx_70_23, rx_70_24, rx_70_25, rx_70_26, rx_70_27, rx_70_28, rx_70_29, rx_70_30, rx_70_31, rx_70_32, rx_70_33, rx_70_34, rx_70_35, rx_70_36, rx_70_37, rx_70_38, rx_70_39, rx_70_40, rx_70_41, rx_70_42, rx_70_43, rx_70_45, rx_70_46, rx_70_47, rx_70_48, rx_70_49, rx_70_51, rx_70_52, rx_70_53, rx_70_55, rx_70_56, rx_70_58, rx_70_59, rx_70_60, rx_70_61, rx_70_63, rx_70_64, rx_70_65, rx_70_70, rx_70_71, rx_70_72, rx_70_73, rx_70_74, r220_0, r220_1, r220_4, r220_5, r220_8, r220_9, r220_12, r220_13, r220_14, r220_15, r220_18, r220_20, r220_23, r220_25, r220_26, r220_27, r220_28, r220_29, r220_33, r220_34, r220_37, r220_38, r220_41, r220_42, r220_45, r220_46, r220_49, r220_50, r220_52, r220_53, r220_54, r220_55, r220_58, r220_59, r220_60, r220_61, r220_62, r220_65, r220_67, r220_68, r220_71, r220_74, r220_75, r220_78, r220_79, r220_80, r220_81, r220_82, r220_85, r220_87, r220_90, r220_91, tg_88, ln_88, tg_111, ln_111,  r2, s2, v1, v2, e1, nI_add, g3, g4, f2, e2]
  | succ m ih =>
    intro a h1 ha
    have e1 := leF (a := nm) (b := a) (by omega) (by omega)
    have c0 := cupB_lt f a (by omega)
    have g3 := inT (a := b + cupB f a) (N := 48) (by omega) (by decide)
    have g4 := nI_clamp (n := b + cupB f a) (by omega)
    have g5 := inT (a := b + a) (N := 48) (by omega) (by decide)
    have g6 := nI_clamp (n := b + a) (by omega)
    obtain ⟨f1, f2⟩ := hf (cupB f a) (by omega)
    obtain ⟨f3, f4⟩ := hf a (by omega)
    have i1 := ih (a + 1) (by omega) (by omega)
    rw [r220_31]
    by_cases q : f (cupB f a) < f a
    · rw [cupB, if_pos q] at i1
      have e2 := leF q (show f a < 2 ^ 31 by omega)
      simp (config := { decide := true }) only [↓reduceIte, KV_i, KV_v, wsm_0, wsm_i, wsm_l, wsm_r, dlV_i, dlV_r, dlV_l, dlV_j, cat_i, cat_l, cat_r, rf_s, true_and, and_true, and_self, if_true, if_false, ite_true, ite_false, eq_self, true_or, or_true, false_or, or_false, not_true_eq_false, not_false_eq_true, vn_0_45, vn_1_45, vn_2_45, vn_3_45, vn_4_45, vn_5_45, vn_6_45, vn_7_45, vn_8_45, vn_36_48, vn_37_48, vn_38_48, vn_39_48, vn_40_48, vn_41_48, vn_42_48, vn_43_48, vn_44_48, vn_0_9, vn_1_9, vn_2_9, vn_3_9, vn_4_9, vn_5_9, vn_6_9, vn_7_9, vn_8_9, vn_0_3, vn_1_3, vn_2_3, vn_0_4, vn_1_4, vn_2_4, vn_3_4, vn_0_64, vn_0_16, vn_0_400, vn_0_6, vn_0_14, Int32.reduceToNatClampNeg, Int32.reduceAdd, Int32.reduceSub, Int32.reduceMul, Int32.reduceLE, Int32.reduceLT, Nat.reduceAdd, nr_2, nr_30, nr_31, rd_2, rd_14, rd_71, rd_72, rd_101, rd_116, rd_121, up2_s, up2_n, upr_s, upr_n, ne_eq, not_false_eq_true, ob_70, rx_70_1, rx_70_3, rx_70_5, rx_70_6, rx_70_7, rx_70_8, rx_70_9, rx_70_21, rx_70_22, rx_70_23, rx_70_24, rx_70_25, rx_70_26, rx_70_27, rx_70_28, rx_70_29, rx_70_30, rx_70_31, rx_70_32, rx_70_33, rx_70_34, rx_70_35, rx_70_36, rx_70_37, rx_70_38, rx_70_39, rx_70_40, rx_70_41, rx_70_42, rx_70_43, rx_70_45, rx_70_46, rx_70_47, rx_70_48, rx_70_49, rx_70_51, rx_70_52, rx_70_53, rx_70_55, rx_70_56, rx_70_58, rx_70_59, rx_70_60, rx_70_61, rx_70_63, rx_70_64, rx_70_65, rx_70_70, rx_70_71, rx_70_72, rx_70_73, rx_70_74, r220_0, r220_1, r220_4, r220_5, r220_8, r220_9, r220_12, r220_13, r220_14, r220_15, r220_18, r220_20, r220_23, r220_25, r220_26, r220_27, r220_28, r220_29, r220_33, r220_34, r220_37, r220_38, r220_41, r220_42, r220_45, r220_46, r220_49, r220_50, r220_52, r220_53, r220_54, r220_55, r220_58, r220_59, r220_60, r220_61, r220_62, r220_65, r220_67, r220_68, r220_71, r220_74, r220_75, r220_78, r220_79, r220_80, r220_81, r220_82, r220_85, r220_87, r220_90, r220_91, tg_88, ln_88, tg_111, ln_111,  r2, s2, v1, v2, e1, e2, nI_add, g3, g4, g5, g6, f2, f4, nI_1]
      exact i1
    · rw [cupB, if_neg q] at i1
      have e2 := leT (a := f a) (b := f (cupB f a)) (by omega) (by omega)
      simp (config := { decide := true }) only [↓reduceIte, KV_i, KV_v, wsm_0, wsm_i, wsm_l, wsm_r, dlV_i, dlV_r, dlV_l, dlV_j, cat_i, cat_l, cat_r, rf_s, true_and, and_true, and_self, if_true, if_false, ite_true, ite_false, eq_self, true_or, or_true, false_or, or_false, not_true_eq_false, not_false_eq_true, vn_0_45, vn_1_45, vn_2_45, vn_3_45, vn_4_45, vn_5_45, vn_6_45, vn_7_45, vn_8_45, vn_36_48, vn_37_48, vn_38_48, vn_39_48, vn_40_48, vn_41_48, vn_42_48, vn_43_48, vn_44_48, vn_0_9, vn_1_9, vn_2_9, vn_3_9, vn_4_9, vn_5_9, vn_6_9, vn_7_9, vn_8_9, vn_0_3, vn_1_3, vn_2_3, vn_0_4, vn_1_4, vn_2_4, vn_3_4, vn_0_64, vn_0_16, vn_0_400, vn_0_6, vn_0_14, Int32.reduceToNatClampNeg, Int32.reduceAdd, Int32.reduceSub, Int32.reduceMul, Int32.reduceLE, Int32.reduceLT, Nat.reduceAdd, nr_2, nr_30, nr_31, rd_2, rd_14, rd_71, rd_72, rd_101, rd_116, rd_121, up2_s, up2_n, upr_s, upr_n, ne_eq, not_false_eq_true, ob_70, rx_70_1, rx_70_3, rx_70_5, rx_70_6, rx_70_7, rx_70_8, rx_70_9, rx_70_21, rx_70_22, rx_70_23, rx_70_24, rx_70_25, rx_70_26, rx_70_27, rx_70_28, rx_70_29, rx_70_30, rx_70_31, rx_70_32, rx_70_33, rx_70_34, rx_70_35, rx_70_36, rx_70_37, rx_70_38, rx_70_39, rx_70_40, rx_70_41, rx_70_42, rx_70_43, rx_70_45, rx_70_46, rx_70_47, rx_70_48, rx_70_49, rx_70_51, rx_70_52, rx_70_53, rx_70_55, rx_70_56, rx_70_58, rx_70_59, rx_70_60, rx_70_61, rx_70_63, rx_70_64, rx_70_65, rx_70_70, rx_70_71, rx_70_72, rx_70_73, rx_70_74, r220_0, r220_1, r220_4, r220_5, r220_8, r220_9, r220_12, r220_13, r220_14, r220_15, r220_18, r220_20, r220_23, r220_25, r220_26, r220_27, r220_28, r220_29, r220_33, r220_34, r220_37, r220_38, r220_41, r220_42, r220_45, r220_46, r220_49, r220_50, r220_52, r220_53, r220_54, r220_55, r220_58, r220_59, r220_60, r220_61, r220_62, r220_65, r220_67, r220_68, r220_71, r220_74, r220_75, r220_78, r220_79, r220_80, r220_81, r220_82, r220_85, r220_87, r220_90, r220_91, tg_88, ln_88, tg_111, ln_111,  r2, s2, v1, v2, e1, e2, nI_add, g3, g4, g5, g6, f2, f4, nI_1]
      exact i1
theorem p_cup {t : Nat} {u : Option Nat} {I : AI} {L : AL} {w : Int32} {B : Nat} (h : INV t u I L B) (hB : B < 2 ^ 30) (hw : w = 0 ∨ w = 1) : PAIR 97 [.ref 0, .int w, .retAddr 0, .retAddr 0, .retAddr 0, .retAddr 0] 220 [.ref 70, .int w, .retAddr 0, .retAddr 0, .retAddr 0] t u I L B := by
  have h' := h
  obtain ⟨ht, hW, hTp, hp, lv, np, nm, nl, nc, nd, Lw, hS, hD, hT⟩ := h'
  have hS' := hS
  obtain ⟨hX, ⟨⟨r1, r2⟩, ⟨s1, s2, s3, s4, s5, s6⟩, s7, s8, s9, s10, s11, s12⟩, hLC, hLM, hLo⟩ := hS'
  obtain ⟨k1, k2, k3, k4, k5⟩ := hX.1
  obtain ⟨l1, l2, l3, l4, l5⟩ := hX.2.1
  have v1 := inT (a := lv) (N := 2) (by omega) (by decide)
  have v2 := nI_clamp (n := lv) (by omega)
  by_cases hn : nm = 0
  · subst hn
    rw [nI_0] at k2 s2
    refine PAIR_ro (.int (-1)) h (fun Q hQ => ?_) (fun Q hQ => ?_)
    · rcases ht with rfl | rfl <;> (simp (config := { decide := true }) only [↓reduceIte, KV_i, KV_v, wsm_0, wsm_i, wsm_l, wsm_r, dlV_i, dlV_r, dlV_l, dlV_j, cat_i, cat_l, cat_r, rf_s, true_and, and_true, and_self, if_true, if_false, ite_true, ite_false, eq_self, true_or, or_true, false_or, or_false, not_true_eq_false, not_false_eq_true, vn_0_45, vn_1_45, vn_2_45, vn_3_45, vn_4_45, vn_5_45, vn_6_45, vn_7_45, vn_8_45, vn_36_48, vn_37_48, vn_38_48, vn_39_48, vn_40_48, vn_41_48, vn_42_48, vn_43_48, vn_44_48, vn_0_9, vn_1_9, vn_2_9, vn_3_9, vn_4_9, vn_5_9, vn_6_9, vn_7_9, vn_8_9, vn_0_3, vn_1_3, vn_2_3, vn_0_4, vn_1_4, vn_2_4, vn_3_4, vn_0_64, vn_0_16, vn_0_400, vn_0_6, vn_0_14, Int32.reduceToNatClampNeg, Int32.reduceAdd, Int32.reduceSub, Int32.reduceMul, Int32.reduceLE, Int32.reduceLT, Nat.reduceAdd, nr_2, nr_30, nr_31, rd_2, rd_14, rd_71, rd_72, rd_101, rd_116, rd_121, up2_s, up2_n, upr_s, upr_n, ne_eq, not_false_eq_true, ob_0, ob_1, ob_7, ob_12, ob_17, ob_20, ob_23, ob_32, ob_46, ob_51, ob_65, rx_0_0, rx_0_1, rx_0_2, rx_0_3, rx_0_4, rx_0_5, rx_0_6, rx_0_7, rx_0_8, rx_0_9, rx_0_10, rx_1_0, rx_1_1, rx_1_2, rx_1_3, rx_1_4, rx_7_0, rx_7_1, rx_7_2, rx_7_3, rx_7_4, rx_12_0, rx_12_1, rx_12_2, rx_12_3, rx_17_0, rx_17_1, rx_20_0, rx_20_1, rx_23_0, rx_23_1, rx_23_2, rx_32_0, rx_32_1, rx_32_2, rx_32_3, rx_32_4, rx_32_5, rx_32_6, rx_32_7, rx_32_8, rx_32_9, rx_32_10, rx_32_11, rx_32_12, rx_32_13, rx_46_0, rx_46_1, rx_46_2, rx_46_3, rx_51_0, rx_51_1, rx_51_2, rx_51_3, rx_51_4, rx_51_5, rx_51_6, rx_51_7, rx_51_8, rx_51_9, rx_51_10, rx_51_11, rx_51_12, rx_51_13, rx_65_0, rx_65_1, rx_65_2, rx_65_3, rx_0_11, rx_0_12, rx_7_7, r97_0, r97_1, r97_4, r97_7, r97_10, r97_11, r97_12, r97_14, r97_15, r97_16, r97_17, r97_18, r97_22, r97_23, r97_26, r97_29, r97_32, r97_33, r97_36, r97_39, r97_41, r97_42, r97_45, r97_46, r97_49, r97_50, r97_53, r97_54, r97_56, r97_58, r97_59, r97_62, r97_64, r97_65, r97_67, r97_68, r97_71, r97_74, r97_75, r120_0, r120_2, r120_3, r120_5, r120_6, r120_7, r120_8, r120_9, tg_13, ln_13, k1, k2, k3, k4, k5, r2, v1, v2, s1, s2, s3, s4, s5]; exact hQ)
    · simp (config := { decide := true }) only [↓reduceIte, KV_i, KV_v, wsm_0, wsm_i, wsm_l, wsm_r, dlV_i, dlV_r, dlV_l, dlV_j, cat_i, cat_l, cat_r, rf_s, true_and, and_true, and_self, if_true, if_false, ite_true, ite_false, eq_self, true_or, or_true, false_or, or_false, not_true_eq_false, not_false_eq_true, vn_0_45, vn_1_45, vn_2_45, vn_3_45, vn_4_45, vn_5_45, vn_6_45, vn_7_45, vn_8_45, vn_36_48, vn_37_48, vn_38_48, vn_39_48, vn_40_48, vn_41_48, vn_42_48, vn_43_48, vn_44_48, vn_0_9, vn_1_9, vn_2_9, vn_3_9, vn_4_9, vn_5_9, vn_6_9, vn_7_9, vn_8_9, vn_0_3, vn_1_3, vn_2_3, vn_0_4, vn_1_4, vn_2_4, vn_3_4, vn_0_64, vn_0_16, vn_0_400, vn_0_6, vn_0_14, Int32.reduceToNatClampNeg, Int32.reduceAdd, Int32.reduceSub, Int32.reduceMul, Int32.reduceLE, Int32.reduceLT, Nat.reduceAdd, nr_2, nr_30, nr_31, rd_2, rd_14, rd_71, rd_72, rd_101, rd_116, rd_121, up2_s, up2_n, upr_s, upr_n, ne_eq, not_false_eq_true, ob_70, rx_70_1, rx_70_3, rx_70_5, rx_70_6, rx_70_7, rx_70_8, rx_70_9, rx_70_21, rx_70_22, rx_70_23, rx_70_24, rx_70_25, rx_70_26, rx_70_27, rx_70_28, rx_70_29, rx_70_30, rx_70_31, rx_70_32, rx_70_33, rx_70_34, rx_70_35, rx_70_36, rx_70_37, rx_70_38, rx_70_39, rx_70_40, rx_70_41, rx_70_42, rx_70_43, rx_70_45, rx_70_46, rx_70_47, rx_70_48, rx_70_49, rx_70_51, rx_70_52, rx_70_53, rx_70_55, rx_70_56, rx_70_58, rx_70_59, rx_70_60, rx_70_61, rx_70_63, rx_70_64, rx_70_65, rx_70_70, rx_70_71, rx_70_72, rx_70_73, rx_70_74, r220_0, r220_1, r220_4, r220_5, r220_8, r220_9, r220_12, r220_13, r220_14, r220_15, r220_18, r220_20, r220_23, r220_25, r220_26, r220_27, r220_28, r220_29, r220_33, r220_34, r220_37, r220_38, r220_41, r220_42, r220_45, r220_46, r220_49, r220_50, r220_52, r220_53, r220_54, r220_55, r220_58, r220_59, r220_60, r220_61, r220_62, r220_65, r220_67, r220_68, r220_71, r220_74, r220_75, r220_78, r220_79, r220_80, r220_81, r220_82, r220_85, r220_87, r220_90, r220_91, tg_88, ln_88, tg_111, ln_111, k1, k2, k3, k4, k5, r2, v1, v2, s1, s2, s3, s4, s5]
      exact hQ
  have n0 : (nI nm = 0) = False := eq_false (nI_ne0 (by omega) (by omega))
  have hf : ∀ b, b = 3 ∨ b = 4 → ∀ a, a < nm → (I 13 (9 + 6 * a + b)).toNatClampNeg ≤ B ∧ I 13 (9 + 6 * a + b) = nI (I 13 (9 + 6 * a + b)).toNatClampNeg := by
    intro b hb a ha
    obtain ⟨h0, c, d, w1, w2, w3, w4, w5, w6⟩ := hD.1.1.2 a (by omega)
    rcases hb with rfl | rfl
    · rw [w5, nI_clamp (by omega)]; exact ⟨w2, rfl⟩
    · rw [w6, nI_clamp (by omega)]; exact ⟨w3, rfl⟩
  have hf2 : ∀ b, b = 3 ∨ b = 4 → ∀ a, a < nm → (I 13 (9 + 6 * a + b)).toNatClampNeg ≤ B ∧ I 111 (6 * b + a) = nI (I 13 (9 + 6 * a + b)).toNatClampNeg := by
    intro b hb a ha
    rw [hD.1.2.1 a b (by omega) (by omega)]
    exact hf b hb a ha
  refine PAIR_ro (.int (cupR (fun a => (I 13 (9 + 6 * a + (if w = 0 then 3 else 4))).toNatClampNeg) nm)) h (fun Q hQ => ?_) (fun Q hQ => ?_)
  · have e := lc_cup (Q := Q) (u := u) (L := L) ht hw l2 hB k2 (f := fun a => (I 13 (9 + 6 * a + (if w = 0 then 3 else 4))).toNatClampNeg) (fun a ha => hf _ (by split <;> simp) a ha) nm 0 (.retAddr 0) (by omega)
    rw [← e] at hQ
    unfold cupR at hQ
    rw [cupM, if_pos rfl, nI_0] at hQ
    rcases ht with rfl | rfl <;> (simp (config := { decide := true }) only [↓reduceIte, KV_i, KV_v, wsm_0, wsm_i, wsm_l, wsm_r, dlV_i, dlV_r, dlV_l, dlV_j, cat_i, cat_l, cat_r, rf_s, true_and, and_true, and_self, if_true, if_false, ite_true, ite_false, eq_self, true_or, or_true, false_or, or_false, not_true_eq_false, not_false_eq_true, vn_0_45, vn_1_45, vn_2_45, vn_3_45, vn_4_45, vn_5_45, vn_6_45, vn_7_45, vn_8_45, vn_36_48, vn_37_48, vn_38_48, vn_39_48, vn_40_48, vn_41_48, vn_42_48, vn_43_48, vn_44_48, vn_0_9, vn_1_9, vn_2_9, vn_3_9, vn_4_9, vn_5_9, vn_6_9, vn_7_9, vn_8_9, vn_0_3, vn_1_3, vn_2_3, vn_0_4, vn_1_4, vn_2_4, vn_3_4, vn_0_64, vn_0_16, vn_0_400, vn_0_6, vn_0_14, Int32.reduceToNatClampNeg, Int32.reduceAdd, Int32.reduceSub, Int32.reduceMul, Int32.reduceLE, Int32.reduceLT, Nat.reduceAdd, nr_2, nr_30, nr_31, rd_2, rd_14, rd_71, rd_72, rd_101, rd_116, rd_121, up2_s, up2_n, upr_s, upr_n, ne_eq, not_false_eq_true, ob_0, ob_1, ob_7, ob_12, ob_17, ob_20, ob_23, ob_32, ob_46, ob_51, ob_65, rx_0_0, rx_0_1, rx_0_2, rx_0_3, rx_0_4, rx_0_5, rx_0_6, rx_0_7, rx_0_8, rx_0_9, rx_0_10, rx_1_0, rx_1_1, rx_1_2, rx_1_3, rx_1_4, rx_7_0, rx_7_1, rx_7_2, rx_7_3, rx_7_4, rx_12_0, rx_12_1, rx_12_2, rx_12_3, rx_17_0, rx_17_1, rx_20_0, rx_20_1, rx_23_0, rx_23_1, rx_23_2, rx_32_0, rx_32_1, rx_32_2, rx_32_3, rx_32_4, rx_32_5, rx_32_6, rx_32_7, rx_32_8, rx_32_9, rx_32_10, rx_32_11, rx_32_12, rx_32_13, rx_46_0, rx_46_1, rx_46_2, rx_46_3, rx_51_0, rx_51_1, rx_51_2, rx_51_3, rx_51_4, rx_51_5, rx_51_6, rx_51_7, rx_51_8, rx_51_9, rx_51_10, rx_51_11, rx_51_12, rx_51_13, rx_65_0, rx_65_1, rx_65_2, rx_65_3, rx_0_11, rx_0_12, rx_7_7, r97_0, r97_1, r97_4, r97_7, r97_10, r97_11, r97_12, r97_14, r97_15, r97_16, r97_17, r97_18, r97_22, r97_23, r97_26, r97_29, r97_32, r97_33, r97_36, r97_39, r97_41, r97_42, r97_45, r97_46, r97_49, r97_50, r97_53, r97_54, r97_56, r97_58, r97_59, r97_62, r97_64, r97_65, r97_67, r97_68, r97_71, r97_74, r97_75, r120_0, r120_2, r120_3, r120_5, r120_6, r120_7, r120_8, r120_9, tg_13, ln_13, k1, k2, k3, k4, k5, r2, v1, v2, s1, s2, s3, s4, s5, n0]; exact hQ)
  · rcases hw with rfl | rfl
    · have e := lm_cup (t := t) (w := 0) (Q := Q) (u := u) (L := L) (b := 18) (by omega) r1 l2 hB r2 s2 (f := fun a => (I 13 (9 + 6 * a + (if (0 : Int32) = 0 then 3 else 4))).toNatClampNeg) (fun a ha => hf2 3 (Or.inl rfl) a ha) (nm - 1) 1 (by omega) (by omega)
      rw [← e] at hQ
      rw [cupB, cupB, if_neg (Nat.lt_irrefl _), nI_0] at hQ
      simp (config := { decide := true }) only [↓reduceIte, KV_i, KV_v, wsm_0, wsm_i, wsm_l, wsm_r, dlV_i, dlV_r, dlV_l, dlV_j, cat_i, cat_l, cat_r, rf_s, true_and, and_true, and_self, if_true, if_false, ite_true, ite_false, eq_self, true_or, or_true, false_or, or_false, not_true_eq_false, not_false_eq_true, vn_0_45, vn_1_45, vn_2_45, vn_3_45, vn_4_45, vn_5_45, vn_6_45, vn_7_45, vn_8_45, vn_36_48, vn_37_48, vn_38_48, vn_39_48, vn_40_48, vn_41_48, vn_42_48, vn_43_48, vn_44_48, vn_0_9, vn_1_9, vn_2_9, vn_3_9, vn_4_9, vn_5_9, vn_6_9, vn_7_9, vn_8_9, vn_0_3, vn_1_3, vn_2_3, vn_0_4, vn_1_4, vn_2_4, vn_3_4, vn_0_64, vn_0_16, vn_0_400, vn_0_6, vn_0_14, Int32.reduceToNatClampNeg, Int32.reduceAdd, Int32.reduceSub, Int32.reduceMul, Int32.reduceLE, Int32.reduceLT, Nat.reduceAdd, nr_2, nr_30, nr_31, rd_2, rd_14, rd_71, rd_72, rd_101, rd_116, rd_121, up2_s, up2_n, upr_s, upr_n, ne_eq, not_false_eq_true, ob_70, rx_70_1, rx_70_3, rx_70_5, rx_70_6, rx_70_7, rx_70_8, rx_70_9, rx_70_21, rx_70_22, rx_70_23, rx_70_24, rx_70_25, rx_70_26, rx_70_27, rx_70_28, rx_70_29, rx_70_30, rx_70_31, rx_70_32, rx_70_33, rx_70_34, rx_70_35, rx_70_36, rx_70_37, rx_70_38, rx_70_39, rx_70_40, rx_70_41, rx_70_42, rx_70_43, rx_70_45, rx_70_46, rx_70_47, rx_70_48, rx_70_49, rx_70_51, rx_70_52, rx_70_53, rx_70_55, rx_70_56, rx_70_58, rx_70_59, rx_70_60, rx_70_61, rx_70_63, rx_70_64, rx_70_65, rx_70_70, rx_70_71, rx_70_72, rx_70_73, rx_70_74, r220_0, r220_1, r220_4, r220_5, r220_8, r220_9, r220_12, r220_13, r220_14, r220_15, r220_18, r220_20, r220_23, r220_25, r220_26, r220_27, r220_28, r220_29, r220_33, r220_34, r220_37, r220_38, r220_41, r220_42, r220_45, r220_46, r220_49, r220_50, r220_52, r220_53, r220_54, r220_55, r220_58, r220_59, r220_60, r220_61, r220_62, r220_65, r220_67, r220_68, r220_71, r220_74, r220_75, r220_78, r220_79, r220_80, r220_81, r220_82, r220_85, r220_87, r220_90, r220_91, tg_88, ln_88, tg_111, ln_111, k1, k2, k3, k4, k5, r2, v1, v2, s1, s2, s3, s4, s5, n0]
      exact hQ
    · have e := lm_cup (t := t) (w := 1) (Q := Q) (u := u) (L := L) (b := 24) (by omega) r1 l2 hB r2 s2 (f := fun a => (I 13 (9 + 6 * a + (if (1 : Int32) = 0 then 3 else 4))).toNatClampNeg) (fun a ha => hf2 4 (Or.inr rfl) a ha) (nm - 1) 1 (by omega) (by omega)
      rw [← e] at hQ
      rw [cupB, cupB, if_neg (Nat.lt_irrefl _), nI_0] at hQ
      simp (config := { decide := true }) only [↓reduceIte, KV_i, KV_v, wsm_0, wsm_i, wsm_l, wsm_r, dlV_i, dlV_r, dlV_l, dlV_j, cat_i, cat_l, cat_r, rf_s, true_and, and_true, and_self, if_true, if_false, ite_true, ite_false, eq_self, true_or, or_true, false_or, or_false, not_true_eq_false, not_false_eq_true, vn_0_45, vn_1_45, vn_2_45, vn_3_45, vn_4_45, vn_5_45, vn_6_45, vn_7_45, vn_8_45, vn_36_48, vn_37_48, vn_38_48, vn_39_48, vn_40_48, vn_41_48, vn_42_48, vn_43_48, vn_44_48, vn_0_9, vn_1_9, vn_2_9, vn_3_9, vn_4_9, vn_5_9, vn_6_9, vn_7_9, vn_8_9, vn_0_3, vn_1_3, vn_2_3, vn_0_4, vn_1_4, vn_2_4, vn_3_4, vn_0_64, vn_0_16, vn_0_400, vn_0_6, vn_0_14, Int32.reduceToNatClampNeg, Int32.reduceAdd, Int32.reduceSub, Int32.reduceMul, Int32.reduceLE, Int32.reduceLT, Nat.reduceAdd, nr_2, nr_30, nr_31, rd_2, rd_14, rd_71, rd_72, rd_101, rd_116, rd_121, up2_s, up2_n, upr_s, upr_n, ne_eq, not_false_eq_true, ob_70, rx_70_1, rx_70_3, rx_70_5, rx_70_6, rx_70_7, rx_70_8, rx_70_9, rx_70_21, rx_70_22, rx_70_23, rx_70_24, rx_70_25, rx_70_26, rx_70_27, rx_70_28, rx_70_29, rx_70_30, rx_70_31, rx_70_32, rx_70_33, rx_70_34, rx_70_35, rx_70_36, rx_70_37, rx_70_38, rx_70_39, rx_70_40, rx_70_41, rx_70_42, rx_70_43, rx_70_45, rx_70_46, rx_70_47, rx_70_48, rx_70_49, rx_70_51, rx_70_52, rx_70_53, rx_70_55, rx_70_56, rx_70_58, rx_70_59, rx_70_60, rx_70_61, rx_70_63, rx_70_64, rx_70_65, rx_70_70, rx_70_71, rx_70_72, rx_70_73, rx_70_74, r220_0, r220_1, r220_4, r220_5, r220_8, r220_9, r220_12, r220_13, r220_14, r220_15, r220_18, r220_20, r220_23, r220_25, r220_26, r220_27, r220_28, r220_29, r220_33, r220_34, r220_37, r220_38, r220_41, r220_42, r220_45, r220_46, r220_49, r220_50, r220_52, r220_53, r220_54, r220_55, r220_58, r220_59, r220_60, r220_61, r220_62, r220_65, r220_67, r220_68, r220_71, r220_74, r220_75, r220_78, r220_79, r220_80, r220_81, r220_82, r220_85, r220_87, r220_90, r220_91, tg_88, ln_88, tg_111, ln_111, k1, k2, k3, k4, k5, r2, v1, v2, s1, s2, s3, s4, s5, n0]
      exact hQ
