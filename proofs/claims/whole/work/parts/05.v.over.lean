/-! a MOVE is made: the pure part -/
def GR (P N : Nat → Int32) : Prop := (∀ a j, a < 6 → j < 6 → P (6 * j + a) = N (9 + 6 * a + j)) ∧ P 43 = N 7 ∧ P 44 = N 8 ∧ ∀ i, i < 7 → P (36 + i) = N i
theorem GR_RR {P N : Nat → Int32} (h : GR P N) : RR P N := ⟨h.1, h.2.1, h.2.2.1, h.2.2.2 0 (by omega), fun _ => h.2.2.2⟩
theorem RR_GR {P N : Nat → Int32} (h : RR P N) (hn : N 0 ≠ -2) : GR P N := ⟨h.1, h.2.1, h.2.2.1, h.2.2.2.2 hn⟩
theorem GR_man {P N : Nat → Int32} (h : GR P N) {a j : Nat} (ha : a < 6) (hj : j < 6) (v : Int32) : GR (upr P (6 * j + a) v) (upr N (9 + 6 * a + j) v) := by
  obtain ⟨h1, h2, h3, h4⟩ := h
  refine ⟨fun b i hb hi => ?_, ?_, ?_, fun i hi => ?_⟩
  · by_cases e : b = a ∧ i = j
    · obtain ⟨rfl, rfl⟩ := e
      rw [upr_s, upr_s]
    · rw [upr_n (by omega), upr_n (by omega)]; exact h1 b i hb hi
  · rw [upr_n (by omega), upr_n (by omega)]; exact h2
  · rw [upr_n (by omega), upr_n (by omega)]; exact h3
  · rw [upr_n (by omega), upr_n (by omega)]; exact h4 i hi
theorem GR_game {P N : Nat → Int32} (h : GR P N) {k : Nat} (hk : k < 7) (v : Int32) : GR (upr P (36 + k) v) (upr N k v) := by
  obtain ⟨h1, h2, h3, h4⟩ := h
  refine ⟨fun b i hb hi => ?_, ?_, ?_, fun i hi => ?_⟩
  · rw [upr_n (by omega), upr_n (by omega)]; exact h1 b i hb hi
  · rw [upr_n (by omega), upr_n (by omega)]; exact h2
  · rw [upr_n (by omega), upr_n (by omega)]; exact h3
  · by_cases e : i = k
    · subst e; rw [upr_s, upr_s]
    · rw [upr_n (by omega), upr_n (by omega)]; exact h4 i hi
theorem GR_7 {P N : Nat → Int32} (h : GR P N) (v : Int32) : GR (upr P 43 v) (upr N 7 v) := by
  obtain ⟨h1, h2, h3, h4⟩ := h
  refine ⟨fun b i hb hi => ?_, ?_, ?_, fun i hi => ?_⟩
  · rw [upr_n (by omega), upr_n (by omega)]; exact h1 b i hb hi
  · rw [upr_s, upr_s]
  · rw [upr_n (by omega), upr_n (by omega)]; exact h3
  · rw [upr_n (by omega), upr_n (by omega)]; exact h4 i hi
theorem GR_8 {P N : Nat → Int32} (h : GR P N) (v : Int32) : GR (upr P 44 v) (upr N 8 v) := by
  obtain ⟨h1, h2, h3, h4⟩ := h
  refine ⟨fun b i hb hi => ?_, ?_, ?_, fun i hi => ?_⟩
  · rw [upr_n (by omega), upr_n (by omega)]; exact h1 b i hb hi
  · rw [upr_n (by omega), upr_n (by omega)]; exact h2
  · rw [upr_s, upr_s]
  · rw [upr_n (by omega), upr_n (by omega)]; exact h4 i hi
def stN (N : Nat → Int32) (s : Nat) (sv to : Int32) : Nat → Int32 := upr (upr (if sv = 0 then N else upr N (5 + s) (N (5 + s) + 1)) 0 to) 7 (N 7 + 1)
def stP (P : Nat → Int32) (s : Nat) (sv to : Int32) : Nat → Int32 := upr (upr (if sv = 0 then P else upr P (41 + s) (P (41 + s) + 1)) 36 to) 43 (P 43 + 1)
theorem GR_at {P N : Nat → Int32} (h : GR P N) {s : Nat} (hs : s ≤ 1) : P (41 + s) = N (5 + s) := by
  have := h.2.2.2 (5 + s) (by omega)
  rw [show 36 + (5 + s) = 41 + s by omega] at this
  exact this
theorem GR_st {P N : Nat → Int32} (h : GR P N) {s : Nat} (hs : s ≤ 1) (sv to : Int32) : GR (stP P s sv to) (stN N s sv to) := by
  unfold stP stN
  rw [h.2.1]
  refine GR_7 (GR_game (k := 0) ?_ (by omega) to) _
  split
  · exact h
  · have e := GR_game (k := 5 + s) h (by omega) (P (41 + s) + 1)
    rw [GR_at h hs] at e ⊢
    rw [show 36 + (5 + s) = 41 + s by omega] at e
    exact e
def en2 (N : Nat → Int32) (a : Nat) (mg : Int32) : Nat → Int32 := upr (upr N (9 + 6 * a + 2) (N (9 + 6 * a + 2) + mg)) (9 + 6 * a + 5) (N (9 + 6 * a + 5) + 1)
def en3 (N : Nat → Int32) (a : Nat) (mg : Int32) : Nat → Int32 := upr (en2 N a mg) (9 + 6 * a + 3) (N (9 + 6 * a + 3) + 1)
def endN (N : Nat → Int32) (a s : Nat) (mg : Int32) : Nat → Int32 := if mg < 0 then (if N (5 + s) ≤ 0 then en3 N a mg else upr (en3 N a mg) (9 + 6 * a + 4) (N (9 + 6 * a + 4) + 1)) else en2 N a mg
def ep2 (P : Nat → Int32) (a : Nat) (mg : Int32) : Nat → Int32 := upr (upr P (6 * 2 + a) (P (6 * 2 + a) + mg)) (6 * 5 + a) (P (6 * 5 + a) + 1)
def ep3 (P : Nat → Int32) (a : Nat) (mg : Int32) : Nat → Int32 := upr (ep2 P a mg) (6 * 3 + a) (P (6 * 3 + a) + 1)
def endP (P : Nat → Int32) (a s : Nat) (mg : Int32) : Nat → Int32 := if mg < 0 then (if P (41 + s) ≤ 0 then ep3 P a mg else upr (ep3 P a mg) (6 * 4 + a) (P (6 * 4 + a) + 1)) else ep2 P a mg
theorem GR_end {P N : Nat → Int32} (h : GR P N) {a s : Nat} (ha : a < 6) (hs : s ≤ 1) (mg : Int32) : GR (endP P a s mg) (endN N a s mg) := by
  have e2 : GR (ep2 P a mg) (en2 N a mg) := by
    unfold ep2 en2
    rw [h.1 a 2 ha (by omega), h.1 a 5 ha (by omega)]
    exact GR_man (GR_man h ha (by omega) _) ha (by omega) _
  have e3 : GR (ep3 P a mg) (en3 N a mg) := by
    unfold ep3 en3
    rw [h.1 a 3 ha (by omega)]
    exact GR_man e2 ha (by omega) _
  unfold endP endN
  rw [GR_at h hs, h.1 a 4 ha (by omega)]
  split
  · split
    · exact e3
    · exact GR_man e3 ha (by omega) _
  · exact e2
def ovN (N : Nat → Int32) (a b : Nat) (mg : Int32) : Nat → Int32 := upr (upr (endN (endN N a 0 mg) b 1 (-mg)) 8 (endN (endN N a 0 mg) b 1 (-mg) 8 + 1)) 0 (-2)
def PN (P : Nat → Int32) : Nat → Int32 := upr (upr (upr (upr (upr (upr (upr P 36 (-2)) 37 (-2)) 38 (-2)) 39 (-2)) 40 (-2)) 41 0) 42 0
def ovP (P : Nat → Int32) (a b : Nat) (mg : Int32) : Nat → Int32 := PN (upr (endP (endP P a 0 mg) b 1 (-mg)) 44 (endP (endP P a 0 mg) b 1 (-mg) 44 + 1))
theorem RR_over {P N : Nat → Int32} (h : GR P N) : RR (PN P) (upr N 0 (-2)) := by
  obtain ⟨h1, h2, h3, h4⟩ := h
  have po : ∀ i, i < 36 ∨ 43 ≤ i → PN P i = P i := fun i hi => by
    unfold PN
    rw [upr_n (by omega), upr_n (by omega), upr_n (by omega), upr_n (by omega), upr_n (by omega), upr_n (by omega), upr_n (by omega)]
  refine ⟨fun a j ha hj => ?_, ?_, ?_, rfl, fun hn => absurd (upr_s _ _ _) hn⟩
  · rw [po _ (by omega), upr_n (by omega)]; exact h1 a j ha hj
  · rw [po _ (by omega), upr_n (by omega)]; exact h2
  · rw [po _ (by omega), upr_n (by omega)]; exact h3
theorem RR_ov {P N : Nat → Int32} (h : GR P N) {a b : Nat} (ha : a < 6) (hb : b < 6) (mg : Int32) : RR (ovP P a b mg) (ovN N a b mg) := by
  have e := GR_end (GR_end h ha (s := 0) (by omega) mg) hb (s := 1) (by omega) (-mg)
  unfold ovP ovN
  rw [e.2.2.1]
  exact RR_over (GR_8 e _)
def MEN (nl B : Nat) (N : Nat → Int32) : Prop := ∀ a, a < 6 → ∃ h c d, h < 2 ^ nl ∧ c ≤ B ∧ d ≤ B ∧ N (9 + 6 * a) = nI h ∧ N (9 + 6 * a + 3) = nI c ∧ N (9 + 6 * a + 4) = nI d
theorem MEN_lo {nl B : Nat} {N : Nat → Int32} (h : MEN nl B N) {i : Nat} (hi : i < 9) (v : Int32) : MEN nl B (upr N i v) := by
  intro a ha
  obtain ⟨x, c, d, h1, h2, h3, h4, h5, h6⟩ := h a ha
  exact ⟨x, c, d, h1, h2, h3, by rw [upr_n (by omega)]; exact h4, by rw [upr_n (by omega)]; exact h5, by rw [upr_n (by omega)]; exact h6⟩
theorem MEN_st {nl B : Nat} {N : Nat → Int32} (h : MEN nl B N) {s : Nat} (hs : s ≤ 1) (sv to : Int32) : MEN nl B (stN N s sv to) := by
  unfold stN
  refine MEN_lo (MEN_lo ?_ (by omega) _) (by omega) _
  split
  · exact h
  · exact MEN_lo h (by omega) _
theorem MEN_end {nl B : Nat} {N : Nat → Int32} (h : MEN nl B N) {a : Nat} (ha : a < 6) (s : Nat) (mg : Int32) : MEN nl (B + 1) (endN N a s mg) := by
  intro b hb
  obtain ⟨x, c, d, h1, h2, h3, h4, h5, h6⟩ := h b hb
  have f2 : ∀ i, i ≠ 9 + 6 * a + 2 → i ≠ 9 + 6 * a + 5 → en2 N a mg i = N i := fun i i1 i2 => by unfold en2; rw [upr_n i2, upr_n i1]
  have f3 : ∀ i, i ≠ 9 + 6 * a + 2 → i ≠ 9 + 6 * a + 5 → i ≠ 9 + 6 * a + 3 → en3 N a mg i = N i := fun i i1 i2 i3 => by unfold en3; rw [upr_n i3, f2 i i1 i2]
  have f4 : en3 N a mg (9 + 6 * a + 3) = N (9 + 6 * a + 3) + 1 := by unfold en3; rw [upr_s]
  unfold endN
  by_cases e : b = a
  · subst e
    split
    · split
      · exact ⟨x, c + 1, d, h1, by omega, by omega, by rw [f3 _ (by omega) (by omega) (by omega)]; exact h4, by rw [f4, h5, nI_1], by rw [f3 _ (by omega) (by omega) (by omega)]; exact h6⟩
      · exact ⟨x, c + 1, d + 1, h1, by omega, by omega, by rw [upr_n (by omega), f3 _ (by omega) (by omega) (by omega)]; exact h4, by rw [upr_n (by omega), f4, h5, nI_1], by rw [upr_s, h6, nI_1]⟩
    · exact ⟨x, c, d, h1, by omega, by omega, by rw [f2 _ (by omega) (by omega)]; exact h4, by rw [f2 _ (by omega) (by omega)]; exact h5, by rw [f2 _ (by omega) (by omega)]; exact h6⟩
  · split
    · split
      · exact ⟨x, c, d, h1, by omega, by omega, by rw [f3 _ (by omega) (by omega) (by omega)]; exact h4, by rw [f3 _ (by omega) (by omega) (by omega)]; exact h5, by rw [f3 _ (by omega) (by omega) (by omega)]; exact h6⟩
      · exact ⟨x, c, d, h1, by omega, by omega, by rw [upr_n (by omega), f3 _ (by omega) (by omega) (by omega)]; exact h4, by rw [upr_n (by omega), f3 _ (by omega) (by omega) (by omega)]; exact h5, by rw [upr_n (by omega), f3 _ (by omega) (by omega) (by omega)]; exact h6⟩
    · exact ⟨x, c, d, h1, by omega, by omega, by rw [f2 _ (by omega) (by omega)]; exact h4, by rw [f2 _ (by omega) (by omega)]; exact h5, by rw [f2 _ (by omega) (by omega)]; exact h6⟩
theorem MEN_ov {nl B : Nat} {N : Nat → Int32} (h : MEN nl B N) {a b : Nat} (ha : a < 6) (hb : b < 6) (mg : Int32) : MEN nl (B + 2) (ovN N a b mg) := by
  unfold ovN
  exact MEN_lo (MEN_lo (MEN_end (MEN_end h ha 0 mg) hb 1 (-mg)) (by omega) _) (by omega) _
theorem endN_lo (N : Nat → Int32) (a s : Nat) (mg : Int32) {i : Nat} (hi : i < 9) : endN N a s mg i = N i := by
  unfold endN en3 en2
  split
  · split
    · rw [upr_n (by omega), upr_n (by omega), upr_n (by omega)]
    · rw [upr_n (by omega), upr_n (by omega), upr_n (by omega), upr_n (by omega)]
  · rw [upr_n (by omega), upr_n (by omega)]
theorem endP_lo (P : Nat → Int32) {a : Nat} (ha : a < 6) (s : Nat) (mg : Int32) {i : Nat} (hi : 36 ≤ i) : endP P a s mg i = P i := by
  unfold endP ep3 ep2
  split
  · split
    · rw [upr_n (by omega), upr_n (by omega), upr_n (by omega)]
    · rw [upr_n (by omega), upr_n (by omega), upr_n (by omega), upr_n (by omega)]
  · rw [upr_n (by omega), upr_n (by omega)]
/-! a MOVE is made: class and reference -/
theorem c_endFor {t a s : Nat} {u : Option Nat} {K : AI} {L : AL} {Q : PQ} {N : Nat → Int32} {side mg : Int32} (hs : s ≤ 1) (ha : a < 6) (h1 : (1 : Int32) + side = nI (1 + s)) (h5 : (5 : Int32) + side = nI (5 + s)) (hN : N (1 + s) = nI a) : V 129 0 [.ref 0, .int side, .int mg, .retAddr 0, .retAddr 0] [] 123 (upr K 13 N) L (RX t u) Q = Q none 123 (upr K 13 (endN N a s mg)) L (RX t u) := by
  have x1 := inT (a := 1 + s) (N := 45) (by omega) (by decide)
  have x2 := nI_clamp (n := 1 + s) (by omega)
  have x3 := inT (a := 5 + s) (N := 45) (by omega) (by decide)
  have x4 := nI_clamp (n := 5 + s) (by omega)
  have y2 := inT (a := 9 + 6 * a + 2) (N := 45) (by omega) (by decide)
  have z2 := nI_clamp (n := 9 + 6 * a + 2) (by omega)
  have m2 : (9 : Int32) + nI a * 6 + 2 = nI (9 + 6 * a + 2) := mcell a 2
  have y3 := inT (a := 9 + 6 * a + 3) (N := 45) (by omega) (by decide)
  have z3 := nI_clamp (n := 9 + 6 * a + 3) (by omega)
  have m3 : (9 : Int32) + nI a * 6 + 3 = nI (9 + 6 * a + 3) := mcell a 3
  have y4 := inT (a := 9 + 6 * a + 4) (N := 45) (by omega) (by decide)
  have z4 := nI_clamp (n := 9 + 6 * a + 4) (by omega)
  have m4 : (9 : Int32) + nI a * 6 + 4 = nI (9 + 6 * a + 4) := mcell a 4
  have y5 := inT (a := 9 + 6 * a + 5) (N := 45) (by omega) (by decide)
  have z5 := nI_clamp (n := 9 + 6 * a + 5) (by omega)
  have m5 : (9 : Int32) + nI a * 6 + 5 = nI (9 + 6 * a + 5) := mcell a 5
  have u1 : ∀ (f : Nat → Int32) v, upr f (9 + 6 * a + 2) v (9 + 6 * a + 5) = f (9 + 6 * a + 5) := fun f v => upr_n (by omega)
  have u2 : ∀ (f : Nat → Int32) v, upr f (9 + 6 * a + 2) v (9 + 6 * a + 3) = f (9 + 6 * a + 3) := fun f v => upr_n (by omega)
  have u3 : ∀ (f : Nat → Int32) v, upr f (9 + 6 * a + 5) v (9 + 6 * a + 3) = f (9 + 6 * a + 3) := fun f v => upr_n (by omega)
  have u4 : ∀ (f : Nat → Int32) v, upr f (9 + 6 * a + 2) v (5 + s) = f (5 + s) := fun f v => upr_n (by omega)
  have u5 : ∀ (f : Nat → Int32) v, upr f (9 + 6 * a + 5) v (5 + s) = f (5 + s) := fun f v => upr_n (by omega)
  have u6 : ∀ (f : Nat → Int32) v, upr f (9 + 6 * a + 3) v (5 + s) = f (5 + s) := fun f v => upr_n (by omega)
  have u7 : ∀ (f : Nat → Int32) v, upr f (9 + 6 * a + 2) v (9 + 6 * a + 4) = f (9 + 6 * a + 4) := fun f v => upr_n (by omega)
  have u8 : ∀ (f : Nat → Int32) v, upr f (9 + 6 * a + 5) v (9 + 6 * a + 4) = f (9 + 6 * a + 4) := fun f v => upr_n (by omega)
  have u9 : ∀ (f : Nat → Int32) v, upr f (9 + 6 * a + 3) v (9 + 6 * a + 4) = f (9 + 6 * a + 4) := fun f v => upr_n (by omega)
  unfold endN en3 en2
  by_cases q : mg < 0
  · have q2 : (0 ≤ mg) = False := eq_false (fa_of_lt q).2.1
    by_cases p : N (5 + s) ≤ 0
    · simp (config := { decide := true }) only [↓reduceIte, KV_i, KV_v, wsm_0, wsm_i, wsm_l, wsm_r, dlV_i, dlV_r, dlV_l, dlV_j, cat_i, cat_l, cat_r, rf_s, true_and, and_true, and_self, if_true, if_false, ite_true, ite_false, eq_self, true_or, or_true, false_or, or_false, not_true_eq_false, not_false_eq_true, vn_0_45, vn_1_45, vn_2_45, vn_3_45, vn_4_45, vn_5_45, vn_6_45, vn_7_45, vn_8_45, vn_36_48, vn_37_48, vn_38_48, vn_39_48, vn_40_48, vn_41_48, vn_42_48, vn_43_48, vn_44_48, vn_0_9, vn_1_9, vn_2_9, vn_3_9, vn_4_9, vn_5_9, vn_6_9, vn_7_9, vn_8_9, vn_0_3, vn_1_3, vn_2_3, vn_0_4, vn_1_4, vn_2_4, vn_3_4, vn_0_64, vn_0_16, vn_0_400, vn_0_6, vn_0_14, Int32.reduceToNatClampNeg, Int32.reduceAdd, Int32.reduceSub, Int32.reduceMul, Int32.reduceLE, Int32.reduceLT, Nat.reduceAdd, nr_2, nr_30, nr_31, rd_2, rd_14, rd_71, rd_72, rd_101, rd_116, rd_121, up2_s, up2_n, upr_s, upr_n, ne_eq, not_false_eq_true, ob_0, ob_1, ob_7, ob_12, ob_17, ob_20, ob_23, ob_32, ob_46, ob_51, ob_65, rx_0_0, rx_0_1, rx_0_2, rx_0_3, rx_0_4, rx_0_5, rx_0_6, rx_0_7, rx_0_8, rx_0_9, rx_0_10, rx_1_0, rx_1_1, rx_1_2, rx_1_3, rx_1_4, rx_7_0, rx_7_1, rx_7_2, rx_7_3, rx_7_4, rx_12_0, rx_12_1, rx_12_2, rx_12_3, rx_17_0, rx_17_1, rx_20_0, rx_20_1, rx_23_0, rx_23_1, rx_23_2, rx_32_0, rx_32_1, rx_32_2, rx_32_3, rx_32_4, rx_32_5, rx_32_6, rx_32_7, rx_32_8, rx_32_9, rx_32_10, rx_32_11, rx_32_12, rx_32_13, rx_46_0, rx_46_1, rx_46_2, rx_46_3, rx_51_0, rx_51_1, rx_51_2, rx_51_3, rx_51_4, rx_51_5, rx_51_6, rx_51_7, rx_51_8, rx_51_9, rx_51_10, rx_51_11, rx_51_12, rx_51_13, rx_65_0, rx_65_1, rx_65_2, rx_65_3, rx_0_11, rx_0_12, rx_7_7, r129_0, r129_1, r129_4, r129_7, r129_8, r129_9, r129_10, r129_11, r129_12, r129_13, r129_15, r129_16, r129_18, r129_19, r129_22, r129_23, r129_24, r129_25, r129_26, r129_27, r129_28, r129_30, r129_31, r129_34, r129_35, r129_36, r129_37, r129_38, r129_39, r129_40, r129_43, r129_44, r129_46, r129_47, r129_50, r129_51, r129_52, r129_53, r129_54, r129_55, r129_56, r129_57, r129_58, r129_59, r129_60, r129_63, r129_64, r129_66, r129_67, r129_70, r129_71, r129_72, r129_73, r129_74, r129_75, r120_0, r120_2, r120_3, r120_5, r120_6, r120_7, r120_8, r120_9, tg_13, ln_13, h1, h5, hN, x1, x2, x3, x4, y2, y3, y4, y5, z2, z3, z4, z5, m2, m3, m4, m5, u1, u2, u3, u4, u5, u6, u7, u8, u9, ua2, q, q2, p]
    · simp (config := { decide := true }) only [↓reduceIte, KV_i, KV_v, wsm_0, wsm_i, wsm_l, wsm_r, dlV_i, dlV_r, dlV_l, dlV_j, cat_i, cat_l, cat_r, rf_s, true_and, and_true, and_self, if_true, if_false, ite_true, ite_false, eq_self, true_or, or_true, false_or, or_false, not_true_eq_false, not_false_eq_true, vn_0_45, vn_1_45, vn_2_45, vn_3_45, vn_4_45, vn_5_45, vn_6_45, vn_7_45, vn_8_45, vn_36_48, vn_37_48, vn_38_48, vn_39_48, vn_40_48, vn_41_48, vn_42_48, vn_43_48, vn_44_48, vn_0_9, vn_1_9, vn_2_9, vn_3_9, vn_4_9, vn_5_9, vn_6_9, vn_7_9, vn_8_9, vn_0_3, vn_1_3, vn_2_3, vn_0_4, vn_1_4, vn_2_4, vn_3_4, vn_0_64, vn_0_16, vn_0_400, vn_0_6, vn_0_14, Int32.reduceToNatClampNeg, Int32.reduceAdd, Int32.reduceSub, Int32.reduceMul, Int32.reduceLE, Int32.reduceLT, Nat.reduceAdd, nr_2, nr_30, nr_31, rd_2, rd_14, rd_71, rd_72, rd_101, rd_116, rd_121, up2_s, up2_n, upr_s, upr_n, ne_eq, not_false_eq_true, ob_0, ob_1, ob_7, ob_12, ob_17, ob_20, ob_23, ob_32, ob_46, ob_51, ob_65, rx_0_0, rx_0_1, rx_0_2, rx_0_3, rx_0_4, rx_0_5, rx_0_6, rx_0_7, rx_0_8, rx_0_9, rx_0_10, rx_1_0, rx_1_1, rx_1_2, rx_1_3, rx_1_4, rx_7_0, rx_7_1, rx_7_2, rx_7_3, rx_7_4, rx_12_0, rx_12_1, rx_12_2, rx_12_3, rx_17_0, rx_17_1, rx_20_0, rx_20_1, rx_23_0, rx_23_1, rx_23_2, rx_32_0, rx_32_1, rx_32_2, rx_32_3, rx_32_4, rx_32_5, rx_32_6, rx_32_7, rx_32_8, rx_32_9, rx_32_10, rx_32_11, rx_32_12, rx_32_13, rx_46_0, rx_46_1, rx_46_2, rx_46_3, rx_51_0, rx_51_1, rx_51_2, rx_51_3, rx_51_4, rx_51_5, rx_51_6, rx_51_7, rx_51_8, rx_51_9, rx_51_10, rx_51_11, rx_51_12, rx_51_13, rx_65_0, rx_65_1, rx_65_2, rx_65_3, rx_0_11, rx_0_12, rx_7_7, r129_0, r129_1, r129_4, r129_7, r129_8, r129_9, r129_10, r129_11, r129_12, r129_13, r129_15, r129_16, r129_18, r129_19, r129_22, r129_23, r129_24, r129_25, r129_26, r129_27, r129_28, r129_30, r129_31, r129_34, r129_35, r129_36, r129_37, r129_38, r129_39, r129_40, r129_43, r129_44, r129_46, r129_47, r129_50, r129_51, r129_52, r129_53, r129_54, r129_55, r129_56, r129_57, r129_58, r129_59, r129_60, r129_63, r129_64, r129_66, r129_67, r129_70, r129_71, r129_72, r129_73, r129_74, r129_75, r120_0, r120_2, r120_3, r120_5, r120_6, r120_7, r120_8, r120_9, tg_13, ln_13, h1, h5, hN, x1, x2, x3, x4, y2, y3, y4, y5, z2, z3, z4, z5, m2, m3, m4, m5, u1, u2, u3, u4, u5, u6, u7, u8, u9, ua2, q, q2, p]
  · have q2 : (0 ≤ mg) = True := eq_true (fa_of_nlt q)
    simp (config := { decide := true }) only [↓reduceIte, KV_i, KV_v, wsm_0, wsm_i, wsm_l, wsm_r, dlV_i, dlV_r, dlV_l, dlV_j, cat_i, cat_l, cat_r, rf_s, true_and, and_true, and_self, if_true, if_false, ite_true, ite_false, eq_self, true_or, or_true, false_or, or_false, not_true_eq_false, not_false_eq_true, vn_0_45, vn_1_45, vn_2_45, vn_3_45, vn_4_45, vn_5_45, vn_6_45, vn_7_45, vn_8_45, vn_36_48, vn_37_48, vn_38_48, vn_39_48, vn_40_48, vn_41_48, vn_42_48, vn_43_48, vn_44_48, vn_0_9, vn_1_9, vn_2_9, vn_3_9, vn_4_9, vn_5_9, vn_6_9, vn_7_9, vn_8_9, vn_0_3, vn_1_3, vn_2_3, vn_0_4, vn_1_4, vn_2_4, vn_3_4, vn_0_64, vn_0_16, vn_0_400, vn_0_6, vn_0_14, Int32.reduceToNatClampNeg, Int32.reduceAdd, Int32.reduceSub, Int32.reduceMul, Int32.reduceLE, Int32.reduceLT, Nat.reduceAdd, nr_2, nr_30, nr_31, rd_2, rd_14, rd_71, rd_72, rd_101, rd_116, rd_121, up2_s, up2_n, upr_s, upr_n, ne_eq, not_false_eq_true, ob_0, ob_1, ob_7, ob_12, ob_17, ob_20, ob_23, ob_32, ob_46, ob_51, ob_65, rx_0_0, rx_0_1, rx_0_2, rx_0_3, rx_0_4, rx_0_5, rx_0_6, rx_0_7, rx_0_8, rx_0_9, rx_0_10, rx_1_0, rx_1_1, rx_1_2, rx_1_3, rx_1_4, rx_7_0, rx_7_1, rx_7_2, rx_7_3, rx_7_4, rx_12_0, rx_12_1, rx_12_2, rx_12_3, rx_17_0, rx_17_1, rx_20_0, rx_20_1, rx_23_0, rx_23_1, rx_23_2, rx_32_0, rx_32_1, rx_32_2, rx_32_3, rx_32_4, rx_32_5, rx_32_6, rx_32_7, rx_32_8, rx_32_9, rx_32_10, rx_32_11, rx_32_12, rx_32_13, rx_46_0, rx_46_1, rx_46_2, rx_46_3, rx_51_0, rx_51_1, rx_51_2, rx_51_3, rx_51_4, rx_51_5, rx_51_6, rx_51_7, rx_51_8, rx_51_9, rx_51_10, rx_51_11, rx_51_12, rx_51_13, rx_65_0, rx_65_1, rx_65_2, rx_65_3, rx_0_11, rx_0_12, rx_7_7, r129_0, r129_1, r129_4, r129_7, r129_8, r129_9, r129_10, r129_11, r129_12, r129_13, r129_15, r129_16, r129_18, r129_19, r129_22, r129_23, r129_24, r129_25, r129_26, r129_27, r129_28, r129_30, r129_31, r129_34, r129_35, r129_36, r129_37, r129_38, r129_39, r129_40, r129_43, r129_44, r129_46, r129_47, r129_50, r129_51, r129_52, r129_53, r129_54, r129_55, r129_56, r129_57, r129_58, r129_59, r129_60, r129_63, r129_64, r129_66, r129_67, r129_70, r129_71, r129_72, r129_73, r129_74, r129_75, r120_0, r120_2, r120_3, r120_5, r120_6, r120_7, r120_8, r120_9, tg_13, ln_13, h1, h5, hN, x1, x2, x3, x4, y2, y3, y4, y5, z2, z3, z4, z5, m2, m3, m4, m5, u1, u2, u3, u4, u5, u6, u7, u8, u9, ua2, q, q2]
theorem m_over {t a s : Nat} {u : Option Nat} {K : AI} {L : AL} {Q : PQ} {P : Nat → Int32} {side mg : Int32} (hs : s ≤ 1) (ha : a < 6) (h1 : (37 : Int32) + side = nI (37 + s)) (h5 : (41 : Int32) + side = nI (41 + s)) (hP : P (37 + s) = nI a) : V 199 0 [.ref 70, .int side, .int mg, .retAddr 0] [] 123 (upr K 112 P) L (RX t u) Q = Q none 123 (upr K 112 (endP P a s mg)) L (RX t u) := by
  have x1 := inT (a := 37 + s) (N := 48) (by omega) (by decide)
  have x2 := nI_clamp (n := 37 + s) (by omega)
  have x3 := inT (a := 41 + s) (N := 48) (by omega) (by decide)
  have x4 := nI_clamp (n := 41 + s) (by omega)
  have y2 := inT (a := 6 * 2 + a) (N := 48) (by omega) (by decide)
  have z2 := nI_clamp (n := 6 * 2 + a) (by omega)
  have m2 : (12 : Int32) + nI a = nI (6 * 2 + a) := nI_add 12 a
  have y3 := inT (a := 6 * 3 + a) (N := 48) (by omega) (by decide)
  have z3 := nI_clamp (n := 6 * 3 + a) (by omega)
  have m3 : (18 : Int32) + nI a = nI (6 * 3 + a) := nI_add 18 a
  have y4 := inT (a := 6 * 4 + a) (N := 48) (by omega) (by decide)
  have z4 := nI_clamp (n := 6 * 4 + a) (by omega)
  have m4 : (24 : Int32) + nI a = nI (6 * 4 + a) := nI_add 24 a
  have y5 := inT (a := 6 * 5 + a) (N := 48) (by omega) (by decide)
  have z5 := nI_clamp (n := 6 * 5 + a) (by omega)
  have m5 : (30 : Int32) + nI a = nI (6 * 5 + a) := nI_add 30 a
  have u1 : ∀ (f : Nat → Int32) v, upr f (6 * 2 + a) v (6 * 5 + a) = f (6 * 5 + a) := fun f v => upr_n (by omega)
  have u2 : ∀ (f : Nat → Int32) v, upr f (6 * 2 + a) v (6 * 3 + a) = f (6 * 3 + a) := fun f v => upr_n (by omega)
  have u3 : ∀ (f : Nat → Int32) v, upr f (6 * 5 + a) v (6 * 3 + a) = f (6 * 3 + a) := fun f v => upr_n (by omega)
  have u4 : ∀ (f : Nat → Int32) v, upr f (6 * 2 + a) v (41 + s) = f (41 + s) := fun f v => upr_n (by omega)
  have u5 : ∀ (f : Nat → Int32) v, upr f (6 * 5 + a) v (41 + s) = f (41 + s) := fun f v => upr_n (by omega)
  have u6 : ∀ (f : Nat → Int32) v, upr f (6 * 3 + a) v (41 + s) = f (41 + s) := fun f v => upr_n (by omega)
  have u7 : ∀ (f : Nat → Int32) v, upr f (6 * 2 + a) v (6 * 4 + a) = f (6 * 4 + a) := fun f v => upr_n (by omega)
  have u8 : ∀ (f : Nat → Int32) v, upr f (6 * 5 + a) v (6 * 4 + a) = f (6 * 4 + a) := fun f v => upr_n (by omega)
  have u9 : ∀ (f : Nat → Int32) v, upr f (6 * 3 + a) v (6 * 4 + a) = f (6 * 4 + a) := fun f v => upr_n (by omega)
  unfold endP ep3 ep2
  by_cases q : mg < 0
  · by_cases p : P (41 + s) ≤ 0
    · simp (config := { decide := true }) only [↓reduceIte, KV_i, KV_v, wsm_0, wsm_i, wsm_l, wsm_r, dlV_i, dlV_r, dlV_l, dlV_j, cat_i, cat_l, cat_r, rf_s, true_and, and_true, and_self, if_true, if_false, ite_true, ite_false, eq_self, true_or, or_true, false_or, or_false, not_true_eq_false, not_false_eq_true, vn_0_45, vn_1_45, vn_2_45, vn_3_45, vn_4_45, vn_5_45, vn_6_45, vn_7_45, vn_8_45, vn_36_48, vn_37_48, vn_38_48, vn_39_48, vn_40_48, vn_41_48, vn_42_48, vn_43_48, vn_44_48, vn_0_9, vn_1_9, vn_2_9, vn_3_9, vn_4_9, vn_5_9, vn_6_9, vn_7_9, vn_8_9, vn_0_3, vn_1_3, vn_2_3, vn_0_4, vn_1_4, vn_2_4, vn_3_4, vn_0_64, vn_0_16, vn_0_400, vn_0_6, vn_0_14, Int32.reduceToNatClampNeg, Int32.reduceAdd, Int32.reduceSub, Int32.reduceMul, Int32.reduceLE, Int32.reduceLT, Nat.reduceAdd, nr_2, nr_30, nr_31, rd_2, rd_14, rd_71, rd_72, rd_101, rd_116, rd_121, up2_s, up2_n, upr_s, upr_n, ne_eq, not_false_eq_true, ob_70, rx_70_1, rx_70_3, rx_70_5, rx_70_6, rx_70_7, rx_70_8, rx_70_9, rx_70_21, rx_70_22, rx_70_23, rx_70_24, rx_70_25, rx_70_26, rx_70_27, rx_70_28, rx_70_29, rx_70_30, rx_70_31, rx_70_32, rx_70_33, rx_70_34, rx_70_35, rx_70_36, rx_70_37, rx_70_38, rx_70_39, rx_70_40, rx_70_41, rx_70_42, rx_70_43, rx_70_45, rx_70_46, rx_70_47, rx_70_48, rx_70_49, rx_70_51, rx_70_52, rx_70_53, rx_70_55, rx_70_56, rx_70_58, rx_70_59, rx_70_60, rx_70_61, rx_70_63, rx_70_64, rx_70_65, rx_70_70, rx_70_71, rx_70_72, rx_70_73, rx_70_74, r199_0, r199_1, r199_4, r199_6, r199_7, r199_8, r199_9, r199_10, r199_11, r199_14, r199_16, r199_17, r199_18, r199_19, r199_20, r199_21, r199_22, r199_23, r199_24, r199_27, r199_29, r199_30, r199_31, r199_32, r199_33, r199_34, r199_35, r199_36, r199_37, r199_40, r199_41, r199_42, r199_45, r199_47, r199_48, r199_49, r199_50, r199_51, r199_52, r199_53, r199_54, r199_55, r199_58, r199_60, r199_61, r199_62, r199_63, r199_66, r199_67, r199_70, r199_72, r199_73, r199_74, r199_75, r199_76, r199_77, r199_78, r199_79, tg_112, ln_112, h1, h5, hP, x1, x2, x3, x4, y2, y3, y4, y5, z2, z3, z4, z5, m2, m3, m4, m5, u1, u2, u3, u4, u5, u6, u7, u8, u9, ua2, q, p]
    · simp (config := { decide := true }) only [↓reduceIte, KV_i, KV_v, wsm_0, wsm_i, wsm_l, wsm_r, dlV_i, dlV_r, dlV_l, dlV_j, cat_i, cat_l, cat_r, rf_s, true_and, and_true, and_self, if_true, if_false, ite_true, ite_false, eq_self, true_or, or_true, false_or, or_false, not_true_eq_false, not_false_eq_true, vn_0_45, vn_1_45, vn_2_45, vn_3_45, vn_4_45, vn_5_45, vn_6_45, vn_7_45, vn_8_45, vn_36_48, vn_37_48, vn_38_48, vn_39_48, vn_40_48, vn_41_48, vn_42_48, vn_43_48, vn_44_48, vn_0_9, vn_1_9, vn_2_9, vn_3_9, vn_4_9, vn_5_9, vn_6_9, vn_7_9, vn_8_9, vn_0_3, vn_1_3, vn_2_3, vn_0_4, vn_1_4, vn_2_4, vn_3_4, vn_0_64, vn_0_16, vn_0_400, vn_0_6, vn_0_14, Int32.reduceToNatClampNeg, Int32.reduceAdd, Int32.reduceSub, Int32.reduceMul, Int32.reduceLE, Int32.reduceLT, Nat.reduceAdd, nr_2, nr_30, nr_31, rd_2, rd_14, rd_71, rd_72, rd_101, rd_116, rd_121, up2_s, up2_n, upr_s, upr_n, ne_eq, not_false_eq_true, ob_70, rx_70_1, rx_70_3, rx_70_5, rx_70_6, rx_70_7, rx_70_8, rx_70_9, rx_70_21, rx_70_22, rx_70_23, rx_70_24, rx_70_25, rx_70_26, rx_70_27, rx_70_28, rx_70_29, rx_70_30, rx_70_31, rx_70_32, rx_70_33, rx_70_34, rx_70_35, rx_70_36, rx_70_37, rx_70_38, rx_70_39, rx_70_40, rx_70_41, rx_70_42, rx_70_43, rx_70_45, rx_70_46, rx_70_47, rx_70_48, rx_70_49, rx_70_51, rx_70_52, rx_70_53, rx_70_55, rx_70_56, rx_70_58, rx_70_59, rx_70_60, rx_70_61, rx_70_63, rx_70_64, rx_70_65, rx_70_70, rx_70_71, rx_70_72, rx_70_73, rx_70_74, r199_0, r199_1, r199_4, r199_6, r199_7, r199_8, r199_9, r199_10, r199_11, r199_14, r199_16, r199_17, r199_18, r199_19, r199_20, r199_21, r199_22, r199_23, r199_24, r199_27, r199_29, r199_30, r199_31, r199_32, r199_33, r199_34, r199_35, r199_36, r199_37, r199_40, r199_41, r199_42, r199_45, r199_47, r199_48, r199_49, r199_50, r199_51, r199_52, r199_53, r199_54, r199_55, r199_58, r199_60, r199_61, r199_62, r199_63, r199_66, r199_67, r199_70, r199_72, r199_73, r199_74, r199_75, r199_76, r199_77, r199_78, r199_79, tg_112, ln_112, h1, h5, hP, x1, x2, x3, x4, y2, y3, y4, y5, z2, z3, z4, z5, m2, m3, m4, m5, u1, u2, u3, u4, u5, u6, u7, u8, u9, ua2, q, p]
  · simp (config := { decide := true }) only [↓reduceIte, KV_i, KV_v, wsm_0, wsm_i, wsm_l, wsm_r, dlV_i, dlV_r, dlV_l, dlV_j, cat_i, cat_l, cat_r, rf_s, true_and, and_true, and_self, if_true, if_false, ite_true, ite_false, eq_self, true_or, or_true, false_or, or_false, not_true_eq_false, not_false_eq_true, vn_0_45, vn_1_45, vn_2_45, vn_3_45, vn_4_45, vn_5_45, vn_6_45, vn_7_45, vn_8_45, vn_36_48, vn_37_48, vn_38_48, vn_39_48, vn_40_48, vn_41_48, vn_42_48, vn_43_48, vn_44_48, vn_0_9, vn_1_9, vn_2_9, vn_3_9, vn_4_9, vn_5_9, vn_6_9, vn_7_9, vn_8_9, vn_0_3, vn_1_3, vn_2_3, vn_0_4, vn_1_4, vn_2_4, vn_3_4, vn_0_64, vn_0_16, vn_0_400, vn_0_6, vn_0_14, Int32.reduceToNatClampNeg, Int32.reduceAdd, Int32.reduceSub, Int32.reduceMul, Int32.reduceLE, Int32.reduceLT, Nat.reduceAdd, nr_2, nr_30, nr_31, rd_2, rd_14, rd_71, rd_72, rd_101, rd_116, rd_121, up2_s, up2_n, upr_s, upr_n, ne_eq, not_false_eq_true, ob_70, rx_70_1, rx_70_3, rx_70_5, rx_70_6, rx_70_7, rx_70_8, rx_70_9, rx_70_21, rx_70_22, rx_70_23, rx_70_24, rx_70_25, rx_70_26, rx_70_27, rx_70_28, rx_70_29, rx_70_30, rx_70_31, rx_70_32, rx_70_33, rx_70_34, rx_70_35, rx_70_36, rx_70_37, rx_70_38, rx_70_39, rx_70_40, rx_70_41, rx_70_42, rx_70_43, rx_70_45, rx_70_46, rx_70_47, rx_70_48, rx_70_49, rx_70_51, rx_70_52, rx_70_53, rx_70_55, rx_70_56, rx_70_58, rx_70_59, rx_70_60, rx_70_61, rx_70_63, rx_70_64, rx_70_65, rx_70_70, rx_70_71, rx_70_72, rx_70_73, rx_70_74, r199_0, r199_1, r199_4, r199_6, r199_7, r199_8, r199_9, r199_10, r199_11, r199_14, r199_16, r199_17, r199_18, r199_19, r199_20, r199_21, r199_22, r199_23, r199_24, r199_27, r199_29, r199_30, r199_31, r199_32, r199_33, r199_34, r199_35, r199_36, r199_37, r199_40, r199_41, r199_42, r199_45, r199_47, r199_48, r199_49, r199_50, r199_51, r199_52, r199_53, r199_54, r199_55, r199_58, r199_60, r199_61, r199_62, r199_63, r199_66, r199_67, r199_70, r199_72, r199_73, r199_74, r199_75, r199_76, r199_77, r199_78, r199_79, tg_112, ln_112, h1, h5, hP, x1, x2, x3, x4, y2, y3, y4, y5, z2, z3, z4, z5, m2, m3, m4, m5, u1, u2, u3, u4, u5, u6, u7, u8, u9, ua2, q]
