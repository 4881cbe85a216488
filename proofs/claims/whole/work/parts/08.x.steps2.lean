/-! READ: MAN, COURT, DIE, END, side by side -/
theorem ib_0_10 {kd pl vl : Nat → Nat} (hv : ∀ j, kd j = 24 → vl j ≤ 9999) {S : PS} (f : (intP kd pl vl 0 10 S).2.1 = 0) (l : (intP kd pl vl 0 10 S).2.2.2.1 = 0) : 0 ≤ vl S.1 ∧ vl S.1 ≤ 10 := ib_0 hv (lo := 0) (hi := 10) (by decide) (by decide) f l
theorem ib_0_9 {kd pl vl : Nat → Nat} (hv : ∀ j, kd j = 24 → vl j ≤ 9999) {S : PS} (f : (intP kd pl vl 0 9 S).2.1 = 0) (l : (intP kd pl vl 0 9 S).2.2.2.1 = 0) : 0 ≤ vl S.1 ∧ vl S.1 ≤ 9 := ib_0 hv (lo := 0) (hi := 9) (by decide) (by decide) f l
theorem ib_1_99 {kd pl vl : Nat → Nat} (hv : ∀ j, kd j = 24 → vl j ≤ 9999) {S : PS} (f : (intP kd pl vl 1 99 S).2.1 = 0) (l : (intP kd pl vl 1 99 S).2.2.2.1 = 0) : 1 ≤ vl S.1 ∧ vl S.1 ≤ 99 := ib_0 hv (lo := 1) (hi := 99) (by decide) (by decide) f l
theorem ib_0_1 {kd pl vl : Nat → Nat} (hv : ∀ j, kd j = 24 → vl j ≤ 9999) {S : PS} (f : (intP kd pl vl 0 1 S).2.1 = 0) (l : (intP kd pl vl 0 1 S).2.2.2.1 = 0) : 0 ≤ vl S.1 ∧ vl S.1 ≤ 1 := ib_0 hv (lo := 0) (hi := 1) (by decide) (by decide) f l
theorem ib_0_9999 {kd pl vl : Nat → Nat} (hv : ∀ j, kd j = 24 → vl j ≤ 9999) {S : PS} (f : (intP kd pl vl 0 9999 S).2.1 = 0) (l : (intP kd pl vl 0 9999 S).2.2.2.1 = 0) : 0 ≤ vl S.1 ∧ vl S.1 ≤ 9999 := ib_0 hv (lo := 0) (hi := 9999) (by decide) (by decide) f l
theorem mn_l {kd pl : Nat → Nat} (S : PS) : (mnP kd pl S).2.2.2 = S.2.2.2 := by
  unfold mnP
  split
  · exact take_l _ _ _ _
  · rfl
theorem BND_mn {kd pl : Nat → Nat} {S : PS} (h : BND pl S) : BND pl (mnP kd pl S) := by
  unfold mnP
  split
  · exact BND_take h
  · exact h
theorem SE_mn {kd pl : Nat → Nat} {S Z : PS} (h : SE S Z) : SE (mnP kd pl S) (mnM kd pl Z) := by
  rw [mn_eq]
  unfold mnP
  rw [← is_e h]
  split
  · exact SE_take h
  · exact h
theorem mg_n : ∀ v, v ≤ 9 → mgX (nI v) ∧ mgX (-(nI v)) := by
  intro v hv
  have h : v < 10 := by omega
  revert v
  unfold mgX
  intro v hv h
  have : ∀ w, w < 10 → (-9 ≤ (nI w).toInt ∧ (nI w).toInt ≤ 9) ∧ (-9 ≤ (-(nI w)).toInt ∧ (-(nI w)).toInt ≤ 9) := by decide +kernel
  exact this v h
theorem mn_tk {kd pl : Nat → Nat} {S : PS} (h : (mnP kd pl S).2.1 = 0) : tkB kd 28 S = isP kd 28 S := by
  unfold mnP at h
  cases e : isP kd 28 S
  · exact tk_is e
  · rw [if_pos e] at h
    exact (take_0 h).2.2.2.2
theorem PosK_ap {A1 A2 A3 A4 A5 A6 B1 B2 B3 B4 B5 B6 A1' A2' A3' A4' A5' A6' B1' B2' B3' B4' B5' B6' : Nat → Int32} {sd c : Nat} (h : PosK A1 A2 A3 A4 A5 A6 B1 B2 B3 B4 B5 B6 sd c) (hA : ∀ i, i < c → A1' i = A1 i ∧ A2' i = A2 i ∧ A3' i = A3 i ∧ A4' i = A4 i) (hA5 : ∀ i, i < 3 * c → A5' i = A5 i ∧ A6' i = A6 i) (hB : ∀ i, i < c → B1' (14 * sd + i) = B1 (14 * sd + i) ∧ B2' (14 * sd + i) = B2 (14 * sd + i) ∧ B3' (14 * sd + i) = B3 (14 * sd + i) ∧ B4' (14 * sd + i) = B4 (14 * sd + i)) (hB5 : ∀ i, i < 3 * c → B5' (42 * sd + i) = B5 (42 * sd + i) ∧ B6' (42 * sd + i) = B6 (42 * sd + i))
  (hn : ((A1' c = -2 ∧ mgX (A2' c) ∧ A3' c = 0 ∧ A4' c = 0) ∨ ∃ sd mv dp, sd ≤ 1 ∧ 1 ≤ mv ∧ mv ≤ 3 ∧ 1 ≤ dp ∧ dp ≤ 5 ∧ A1' c = nI sd ∧ A2' c = 0 ∧ A3' c = nI mv ∧ A4' c = nI dp ∧ ∀ m, m < mv → ∃ j sh dj, j < c ∧ sh ≤ 9 ∧ dj < dp ∧ A5' (3 * c + m) = nI j ∧ A6' (3 * c + m) = nI sh ∧ A4' j = nI dj) ∧ (B1' (14 * sd + c) = A1' c ∧ B2' (14 * sd + c) = A2' c ∧ B3' (14 * sd + c) = A3' c ∧ B4' (14 * sd + c) = A4' c) ∧ ∀ m, m < 3 → m < (A3' c).toNatClampNeg → B5' (3 * (14 * sd + c) + m) = A5' (3 * c + m) ∧ B6' (3 * (14 * sd + c) + m) = A6' (3 * c + m)) : PosK A1' A2' A3' A4' A5' A6' B1' B2' B3' B4' B5' B6' sd (c + 1) := by
  intro i hi
  by_cases e : i = c
  · subst e; exact hn
  · have hc : i < c := by omega
    obtain ⟨q1, q2, q3⟩ := h i hc
    obtain ⟨a1, a2, a3, a4⟩ := hA i hc
    obtain ⟨b1, b2, b3, b4⟩ := hB i hc
    rw [a1, a2, a3, a4, b1, b2, b3, b4]
    refine ⟨?_, q2, fun m hm hm2 => ?_⟩
    · rcases q1 with q1 | ⟨sd', mv, dp, r1, r2, r3, r4, r5, r6, r7, r8, r9, r10⟩
      · exact Or.inl q1
      · refine Or.inr ⟨sd', mv, dp, r1, r2, r3, r4, r5, r6, r7, r8, r9, fun m hm => ?_⟩
        obtain ⟨j, sh, dj, s1, s2, s3, s4, s5, s6⟩ := r10 m hm
        refine ⟨j, sh, dj, s1, s2, s3, ?_, ?_, ?_⟩
        · rw [(hA5 _ (by omega)).1]; exact s4
        · rw [(hA5 _ (by omega)).2]; exact s5
        · rw [(hA j (by omega)).2.2.2]; exact s6
    · have e1 : 3 * (14 * sd + i) + m = 42 * sd + (3 * i + m) := by omega
      have q := q3 m hm hm2
      rw [e1] at q ⊢
      rw [(hA5 _ (by omega)).1, (hA5 _ (by omega)).2, (hB5 _ (by omega)).1, (hB5 _ (by omega)).2]
      exact q
theorem mn_0 {kd pl : Nat → Nat} {S : PS} (h : (mnP kd pl S).2.1 = 0) : S.2.1 = 0 ∧ S.1 ≤ (mnP kd pl S).1 := by
  unfold mnP at h ⊢
  by_cases e : isP kd 28 S = true
  · rw [if_pos e] at h ⊢
    exact ⟨(take_0 h).2.1, take_xl _ _ _ _⟩
  · rw [if_neg e] at h ⊢
    exact ⟨h, Nat.le_refl _⟩
theorem st_Man {kd pl vl mv : Nat → Nat} {n : Nat} {K3 K4 : Nat → Int32} {K5 : Nat → Int64} {M3 M4 M5 : Nat → Int32} {M6 : Nat → Int64} (hT : TOK kd pl vl mv n K3 K4 K5 M3 M4 M5 M6) {t s sd : Nat} (hs : s = 32 ∨ s = 51) (hd : sd ≤ 1) {c so nu : Nat → Nat} {len : Nat} {Bs : Nat → List (Cd × Cd × Cd)} {Es : Nat → Cd} {I : AI} {L : AL} {S : PS} {Q : PQ} (hC : CW K3 K4 K5 s c so nu len Bs Es I L S.1) (e0 : S.2.1 = 0) (hx : S.1 ≤ n) (hbn : BND pl S) (hq : kd S.1 = 2) (hQ : ∀ I' L' S', STL kd pl vl mv n K3 K4 K5 M3 M4 M5 M6 s sd c so nu Bs Es I L S I' L' S' → Q none 123 (wr I' S') L' (RX t (some s))) : V 34 0 [.ref 7, .retAddr 0, .retAddr 0] [] 123 (wr I S) L (RX t (some s)) Q := by
  have hC' := hC
  obtain ⟨⟨a3, a4, a5⟩, ⟨b0, b1, b2, b3, b4⟩, ⟨l0, l1, l2, l3, l4⟩, c6, cN, cM, cD, ⟨p1, p2, p3⟩, pL⟩ := hC'
  have kb : c 1 < 6 → kN c < 35 := by unfold kN; omega
  rw [c_readMan hs hT.1 a3 a4 a5 c6 hx b1 l1 kb]
  by_cases hA : c 1 < 6 ∧ tkB kd 2 S = true
  · rw [if_pos hA]
    refine hQ _ _ _ ?_
    have hlt := hA.1
    have kb' := kb hlt
    have tk := take_ok (pl := pl) hA.2
    have x1 : (takeP kd pl 2 S).1 = S.1 + 1 := by rw [tk.1]
    have hx1 : (takeP kd pl 2 S).1 ≤ n := take_le hT.1 (by decide) hx
    have B1 : BND pl (takeP kd pl 2 S) := BND_take hbn
    have X0 : (newP kd pl (nwB L (kN c) (vl (takeP kd pl 2 S).1)) (takeP kd pl 2 S)).1 ≤ n := new_le hT.1 hx1
    have B2 : BND pl (newP kd pl (nwB L (kN c) (vl (takeP kd pl 2 S).1)) (takeP kd pl 2 S)) := BND_new B1
    have X1 : (intP kd pl vl 0 10 (newP kd pl (nwB L (kN c) (vl (takeP kd pl 2 S).1)) (takeP kd pl 2 S))).1 ≤ n := int_le hT.1 X0
    have B3 : BND pl (intP kd pl vl 0 10 (newP kd pl (nwB L (kN c) (vl (takeP kd pl 2 S).1)) (takeP kd pl 2 S))) := BND_int B2
    have X2 : (intP kd pl vl 0 9 (intP kd pl vl 0 10 (newP kd pl (nwB L (kN c) (vl (takeP kd pl 2 S).1)) (takeP kd pl 2 S)))).1 ≤ n := int_le hT.1 X1
    have B4 : BND pl (intP kd pl vl 0 9 (intP kd pl vl 0 10 (newP kd pl (nwB L (kN c) (vl (takeP kd pl 2 S).1)) (takeP kd pl 2 S)))) := BND_int B3
    refine ⟨take_le hT.1 (by decide) X2, BND_take B4, ?_, upr c 1 (c 1 + 1), upr so (kN c) 1, upr nu (kN c) (c 1), len, Bs, Es, fun f => ?_, fun t u J M Z Qm hSE hg hM hCl hQm => ?_⟩
    · refine FRC_l ?_
      repeat' (first | exact FRC_r _ _ _ | (refine FRC_u ?_ (by omega)))
    · have tP := take_0 f
      have i2 := int_0 tP.2.1
      have i1 := int_0 i2.2.1
      have nn := new_0 i1.2.1
      have yP : (takeP kd pl 25 (intP kd pl vl 0 9 (intP kd pl vl 0 10 (newP kd pl (nwB L (kN c) (vl (takeP kd pl 2 S).1)) (takeP kd pl 2 S))))).1 = (intP kd pl vl 0 9 (intP kd pl vl 0 10 (newP kd pl (nwB L (kN c) (vl (takeP kd pl 2 S).1)) (takeP kd pl 2 S)))).1 + 1 := by rw [tP.1]
      have lt : S.1 < (takeP kd pl 25 (intP kd pl vl 0 9 (intP kd pl vl 0 10 (newP kd pl (nwB L (kN c) (vl (takeP kd pl 2 S).1)) (takeP kd pl 2 S))))).1 := by
        have := i1.1
        have := i2.1
        have := nn.1
        omega
      refine ⟨lt, ?_⟩
      rcases hs with rfl | rfl
      · refine CW_name hC (k := 1) (by decide) hlt ?_ ?_ ?_ ?_ ?_ ?_ ?_ ?_ ?_ ?_ ?_ ?_ (by omega)
        · simp (config := { decide := true, maxDischargeDepth := 20 }) only [up2_s, up2_n, upr_s, upr_n, ne_eq, not_false_eq_true, Nat.reduceAdd]
        · simp (config := { decide := true, maxDischargeDepth := 20 }) only [up2_s, up2_n, upr_s, upr_n, ne_eq, not_false_eq_true, Nat.reduceAdd]
        · simp (config := { decide := true, maxDischargeDepth := 20 }) only [up2_s, up2_n, upr_s, upr_n, ne_eq, not_false_eq_true, Nat.reduceAdd]
        · intro z z1 z2
          simp (config := { decide := true, maxDischargeDepth := 20 }) only [up2_s, up2_n, upr_s, upr_n, ne_eq, not_false_eq_true, Nat.reduceAdd]
        · simp (config := { decide := true, maxDischargeDepth := 20 }) only [up2_s, up2_n, upr_s, upr_n, ne_eq, not_false_eq_true, Nat.reduceAdd]
        · simp (config := { decide := true, maxDischargeDepth := 20 }) only [up2_s, up2_n, upr_s, upr_n, ne_eq, not_false_eq_true, Nat.reduceAdd]; try rfl
        · simp (config := { decide := true, maxDischargeDepth := 20 }) only [up2_s, up2_n, upr_s, upr_n, ne_eq, not_false_eq_true, Nat.reduceAdd]
        · intro j hj
          simp (config := { decide := true, maxDischargeDepth := 20 }) only [up2_s, up2_n, upr_s, upr_n, ne_eq, not_false_eq_true, Nat.reduceAdd]
        · intro z; exact absurd z (by decide)
        · simp (config := { decide := true, maxDischargeDepth := 20 }) only [up2_s, up2_n, upr_s, upr_n, ne_eq, not_false_eq_true, Nat.reduceAdd]
        · simp (config := { decide := true, maxDischargeDepth := 20 }) only [up2_s, up2_n, upr_s, upr_n, ne_eq, not_false_eq_true, Nat.reduceAdd]
        · simp (config := { decide := true, maxDischargeDepth := 20 }) only [up2_s, up2_n, upr_s, upr_n, ne_eq, not_false_eq_true, Nat.reduceAdd]
      · refine CW_name hC (k := 1) (by decide) hlt ?_ ?_ ?_ ?_ ?_ ?_ ?_ ?_ ?_ ?_ ?_ ?_ (by omega)
        · simp (config := { decide := true, maxDischargeDepth := 20 }) only [up2_s, up2_n, upr_s, upr_n, ne_eq, not_false_eq_true, Nat.reduceAdd]
        · simp (config := { decide := true, maxDischargeDepth := 20 }) only [up2_s, up2_n, upr_s, upr_n, ne_eq, not_false_eq_true, Nat.reduceAdd]
        · simp (config := { decide := true, maxDischargeDepth := 20 }) only [up2_s, up2_n, upr_s, upr_n, ne_eq, not_false_eq_true, Nat.reduceAdd]
        · intro z z1 z2
          simp (config := { decide := true, maxDischargeDepth := 20 }) only [up2_s, up2_n, upr_s, upr_n, ne_eq, not_false_eq_true, Nat.reduceAdd]
        · simp (config := { decide := true, maxDischargeDepth := 20 }) only [up2_s, up2_n, upr_s, upr_n, ne_eq, not_false_eq_true, Nat.reduceAdd]
        · simp (config := { decide := true, maxDischargeDepth := 20 }) only [up2_s, up2_n, upr_s, upr_n, ne_eq, not_false_eq_true, Nat.reduceAdd]; try rfl
        · simp (config := { decide := true, maxDischargeDepth := 20 }) only [up2_s, up2_n, upr_s, upr_n, ne_eq, not_false_eq_true, Nat.reduceAdd]
        · intro j hj
          simp (config := { decide := true, maxDischargeDepth := 20 }) only [up2_s, up2_n, upr_s, upr_n, ne_eq, not_false_eq_true, Nat.reduceAdd]
        · intro z; exact absurd z (by decide)
        · simp (config := { decide := true, maxDischargeDepth := 20 }) only [up2_s, up2_n, upr_s, upr_n, ne_eq, not_false_eq_true, Nat.reduceAdd]
        · simp (config := { decide := true, maxDischargeDepth := 20 }) only [up2_s, up2_n, upr_s, upr_n, ne_eq, not_false_eq_true, Nat.reduceAdd]
        · simp (config := { decide := true, maxDischargeDepth := 20 }) only [up2_s, up2_n, upr_s, upr_n, ne_eq, not_false_eq_true, Nat.reduceAdd]
    · have ez : Z.2.1 = 0 := by rw [← hSE.1]; exact e0
      have xz : Z.1 = S.1 := (hSE.2.2 e0).1.symm
      have hM' := hM
      obtain ⟨⟨m3, m4, m5, m6⟩, ⟨d0, d1, d2, d3, d4⟩, ⟨c19, c20⟩, mN, mD, mL⟩ := hM'
      have tz : tkB kd 2 Z = true := by rw [← tkB_e hSE]; exact hA.2
      have fz := take_f0 (pl := pl) tz
      have SE1 : SE (takeP kd pl 2 S) (takeP kd pl 2 Z) := SE_take hSE
      have G1 : GS n (takeP kd pl 2 Z) := GS_take hT.2.1 (by decide) hg
      have SE2 : SE (newP kd pl (nwB L (kN c) (vl (takeP kd pl 2 S).1)) (takeP kd pl 2 S)) (newP kd pl (nwM M (kN c) (mv (takeP kd pl 2 Z).1)) (takeP kd pl 2 Z)) := SE_new2 hT SE1 hx1 B1 (fun z => (hCl (by rw [take_l] at z; exact z)).1)
      have G2 : GS n (newP kd pl (nwM M (kN c) (mv (takeP kd pl 2 Z).1)) (takeP kd pl 2 Z)) := GS_new hT.2.1 G1
      have SE3 : SE (intP kd pl vl 0 10 (newP kd pl (nwB L (kN c) (vl (takeP kd pl 2 S).1)) (takeP kd pl 2 S))) (intM kd pl vl 0 10 (newP kd pl (nwM M (kN c) (mv (takeP kd pl 2 Z).1)) (takeP kd pl 2 Z))) := SE_int SE2
      have G3 : GS n (intM kd pl vl 0 10 (newP kd pl (nwM M (kN c) (mv (takeP kd pl 2 Z).1)) (takeP kd pl 2 Z))) := GS_int hT.2.1 G2
      have SE4 : SE (intP kd pl vl 0 9 (intP kd pl vl 0 10 (newP kd pl (nwB L (kN c) (vl (takeP kd pl 2 S).1)) (takeP kd pl 2 S)))) (intM kd pl vl 0 9 (intM kd pl vl 0 10 (newP kd pl (nwM M (kN c) (mv (takeP kd pl 2 Z).1)) (takeP kd pl 2 Z)))) := SE_int SE3
      have G4 : GS n (intM kd pl vl 0 9 (intM kd pl vl 0 10 (newP kd pl (nwM M (kN c) (mv (takeP kd pl 2 Z).1)) (takeP kd pl 2 Z)))) := GS_int hT.2.1 G3
      have SEP : SE (takeP kd pl 25 (intP kd pl vl 0 9 (intP kd pl vl 0 10 (newP kd pl (nwB L (kN c) (vl (takeP kd pl 2 S).1)) (takeP kd pl 2 S))))) (takeP kd pl 25 (intM kd pl vl 0 9 (intM kd pl vl 0 10 (newP kd pl (nwM M (kN c) (mv (takeP kd pl 2 Z).1)) (takeP kd pl 2 Z))))) := SE_take SE4
      have GP : GS n (takeP kd pl 25 (intM kd pl vl 0 9 (intM kd pl vl 0 10 (newP kd pl (nwM M (kN c) (mv (takeP kd pl 2 Z).1)) (takeP kd pl 2 Z))))) := GS_take hT.2.1 (by decide) G4
      have y1 := inT (a := Z.1) (N := 403) (by have := hT.1.1; omega) (by decide)
      have y2 := nI_clamp (n := Z.1) (by have := hT.1.1; omega)
      have w1 := inT (a := sd) (N := 2) (by omega) (by decide)
      have w2 := nI_clamp (n := sd) (by omega)
      have y3 : M3 Z.1 = 22 := by rw [(hT.2.1.2.1 Z.1 hg.1).1, xz, hq]; rfl
      have c1 : c 1 < 100 := by omega
      have ne : (c 1 = 6) = False := eq_false (by omega)
      have tg : goP pl Z = (takeP kd pl 2 Z) := by rw [take_is, if_pos (by unfold isP; rw [decide_eq_true ez, decide_eq_true (xz ▸ hq)]; rfl)]
      have ff : ∀ Q2 : PQ, _ := fun Q2 => m_tellMan (t := t) (u := u) (J := J) (L := M) (Q := Q2) (S := (takeP kd pl 2 Z)) hT.2.1 m3 m4 m5 m6 c20 c19 hd kb' G1 d1 hlt
      simp (config := { decide := true, maxDischargeDepth := 20 }) only [↓reduceIte, KV_i, KV_v, wsm_0, wsm_i, wsm_l, wsm_r, dlV_i, dlV_r, dlV_l, dlV_j, cat_i, cat_l, cat_r, rf_s, true_and, and_true, and_self, if_true, if_false, ite_true, ite_false, eq_self, true_or, or_true, false_or, or_false, not_true_eq_false, not_false_eq_true, vn_0_45, vn_1_45, vn_2_45, vn_3_45, vn_4_45, vn_5_45, vn_6_45, vn_7_45, vn_8_45, vn_36_48, vn_37_48, vn_38_48, vn_39_48, vn_40_48, vn_41_48, vn_42_48, vn_43_48, vn_44_48, vn_0_9, vn_1_9, vn_2_9, vn_3_9, vn_4_9, vn_5_9, vn_6_9, vn_7_9, vn_8_9, vn_0_3, vn_1_3, vn_2_3, vn_0_4, vn_1_4, vn_2_4, vn_3_4, vn_0_64, vn_0_16, vn_0_400, vn_0_6, vn_0_14, Int32.reduceToNatClampNeg, Int32.reduceAdd, Int32.reduceSub, Int32.reduceMul, Int32.reduceLE, Int32.reduceLT, Nat.reduceAdd, nr_2, nr_30, nr_31, rd_2, rd_14, rd_71, rd_72, rd_101, rd_116, rd_121, up2_s, up2_n, upr_s, upr_n, ne_eq, not_false_eq_true, ob_70, rx_70_1, rx_70_3, rx_70_5, rx_70_6, rx_70_7, rx_70_8, rx_70_9, rx_70_21, rx_70_22, rx_70_23, rx_70_24, rx_70_25, rx_70_26, rx_70_27, rx_70_28, rx_70_29, rx_70_30, rx_70_31, rx_70_32, rx_70_33, rx_70_34, rx_70_35, rx_70_36, rx_70_37, rx_70_38, rx_70_39, rx_70_40, rx_70_41, rx_70_42, rx_70_43, rx_70_45, rx_70_46, rx_70_47, rx_70_48, rx_70_49, rx_70_51, rx_70_52, rx_70_53, rx_70_55, rx_70_56, rx_70_58, rx_70_59, rx_70_60, rx_70_61, rx_70_63, rx_70_64, rx_70_65, rx_70_70, rx_70_71, rx_70_72, rx_70_73, rx_70_74, r159_0, r159_1, r159_4, r159_5, r159_8, r159_68, r159_69, r159_70, r159_73, r159_74, r159_77, r159_78, r159_80, r159_83, r159_84, r159_87, r159_90, r159_91, r159_94, r159_97, r159_98, r159_99, r159_102, r159_103, r159_106, r159_107, r159_109, r159_112, r159_113, r159_116, r159_119, r159_120, r159_123, r159_126, r159_127, r159_128, r159_131, r159_132, r159_135, r159_136, r159_138, r159_141, r159_142, r159_145, r159_148, r159_149, r159_152, r159_155, r159_156, r159_157, r159_160, r159_161, r159_164, r159_165, r159_167, r159_170, r159_171, r159_174, r159_177, r159_178, r159_181, r159_184, r159_185, r159_186, r159_189, r159_190, r159_193, r159_194, r159_195, r159_198, r159_199, r159_202, r159_205, r159_206, r159_209, r159_212, r159_213, r159_214, r159_217, r159_218, r159_221, r159_222, r159_223, r159_226, r159_227, r159_230, r159_233, r159_234, r159_237, r159_240, r159_241, r159_244, r159_245, r159_248, r159_249, r159_252, r159_253, r159_254, r159_257, r159_260, r159_261, r159_262, r159_263, r159_266, r159_269, r159_270, r159_273, r159_274, r159_277, r159_278, r159_280, r159_281, r159_282, r159_283, r159_286, r159_287, r159_290, r159_291, r159_294, r159_295, r159_297, r159_300, r159_301, r159_302, r159_305, r159_306, r159_309, r159_312, r159_313, r159_314, r159_317, r159_318, r159_319, r159_322, r159_9, tg_73, ln_73, tg_88, ln_88, wm_11, wm_13, wm_14, wm_15, wm_16, wm_4, wm_12, wm_18, wm_19, wm_20, wm_44, wm_50, wm_54, wm_n, wm_up, wm_u11, wm_u13, wm_u14, wm_u15, wm_u16, wm_u12, wm_u18, wm_u19, wm_u20, wm_u44, wm_u50, wm_u54, m_room_6 hT.2.1, m3, m4, c19, d1, hg, ez, c1, ne, y1, y2, w1, w2, y3, tg, fz, ff]
      cases e5 : tkB kd 25 (intM kd pl vl 0 9 (intM kd pl vl 0 10 (newP kd pl (nwM M (kN c) (mv (takeP kd pl 2 Z).1)) (takeP kd pl 2 Z))))
      · rw [if_neg (by decide)]
        refine hQm _ _ _ SEP GP ?_ (fun _ _ _ => rfl) (fun f => ?_)
        · repeat' (first | exact FRM_r _ _ | (refine FRM_u ?_ (by first | exact np_79 | exact np_80 | exact np_20 | exact np_81 hd | exact np_88 hd | exact np_91 hd | exact np_94 hd | exact np_96 hd | exact np_98 hd | exact np_82 hd hlt | exact np_83 hd hlt | exact np_84 hd hlt | exact np_85 hd hlt | exact np_89 hd hlt | exact np_90 hd hlt | exact np_92 hd hlt | exact np_93 hd hlt | exact np_95 hd hlt | exact np_97_0 hd hlt | exact np_97_1 hd hlt | exact np_97_2 hd hlt | exact np_97_3 hd hlt | exact np_97_4 hd hlt | exact np_97_5 hd hlt)))
        · have tP := take_0 f
          exact absurd (tP.2.2.2.2.symm.trans ((tkB_e SE4).trans e5)) (by decide)
      · rw [if_pos rfl]
        refine hQm _ _ _ SEP GP ?_ (FRL_u (fun _ _ _ => rfl)) (fun f => ?_)
        · repeat' (first | exact FRM_r _ _ | (refine FRM_u ?_ (by first | exact np_79 | exact np_80 | exact np_20 | exact np_81 hd | exact np_88 hd | exact np_91 hd | exact np_94 hd | exact np_96 hd | exact np_98 hd | exact np_82 hd hlt | exact np_83 hd hlt | exact np_84 hd hlt | exact np_85 hd hlt | exact np_89 hd hlt | exact np_90 hd hlt | exact np_92 hd hlt | exact np_93 hd hlt | exact np_95 hd hlt | exact np_97_0 hd hlt | exact np_97_1 hd hlt | exact np_97_2 hd hlt | exact np_97_3 hd hlt | exact np_97_4 hd hlt | exact np_97_5 hd hlt)))
        · have tP := take_0 f
          have i2 := int_0 tP.2.1
          have i1 := int_0 i2.2.1
          have nn := new_0 i1.2.1
          have yP : (takeP kd pl 25 (intP kd pl vl 0 9 (intP kd pl vl 0 10 (newP kd pl (nwB L (kN c) (vl (takeP kd pl 2 S).1)) (takeP kd pl 2 S))))).1 = (intP kd pl vl 0 9 (intP kd pl vl 0 10 (newP kd pl (nwB L (kN c) (vl (takeP kd pl 2 S).1)) (takeP kd pl 2 S)))).1 + 1 := by rw [tP.1]
          have lt : S.1 < (takeP kd pl 25 (intP kd pl vl 0 9 (intP kd pl vl 0 10 (newP kd pl (nwB L (kN c) (vl (takeP kd pl 2 S).1)) (takeP kd pl 2 S))))).1 := by
            have := i1.1
            have := i2.1
            have := nn.1
            omega
          refine ⟨MW_name hM (k := 1) (by decide) ?_ ?_ ?_ ?_ ?_ ?_ ?_ ?_ ?_ ?_ ?_ ?_ ?_ ?_ ?_ (by omega), fun lz => ?_⟩
          · simp (config := { decide := true, maxDischargeDepth := 20 }) only [up2_s, up2_n, upr_s, upr_n, ne_eq, not_false_eq_true, Nat.reduceAdd]
          · simp (config := { decide := true, maxDischargeDepth := 20 }) only [up2_s, up2_n, upr_s, upr_n, ne_eq, not_false_eq_true, Nat.reduceAdd]
          · simp (config := { decide := true, maxDischargeDepth := 20 }) only [up2_s, up2_n, upr_s, upr_n, ne_eq, not_false_eq_true, Nat.reduceAdd]
          · simp (config := { decide := true, maxDischargeDepth := 20 }) only [up2_s, up2_n, upr_s, upr_n, ne_eq, not_false_eq_true, Nat.reduceAdd]
          · intro z hz
            have h5 : z = 0 ∨ z = 1 ∨ z = 2 ∨ z = 3 ∨ z = 4 := by omega
            have r0 : rwN 0 = 81 := rfl
            have r1 : rwN 1 = 88 := rfl
            have r2 : rwN 2 = 91 := rfl
            have r3 : rwN 3 = 94 := rfl
            have r4 : rwN 4 = 96 := rfl
            rcases h5 with rfl | rfl | rfl | rfl | rfl <;> simp (config := { decide := true, maxDischargeDepth := 20 }) only [up2_s, up2_n, upr_s, upr_n, ne_eq, not_false_eq_true, Nat.reduceAdd, r0, r1, r2, r3, r4, ↓reduceIte]
          · simp (config := { decide := true, maxDischargeDepth := 20 }) only [up2_s, up2_n, upr_s, upr_n, ne_eq, not_false_eq_true, Nat.reduceAdd]
          · simp (config := { decide := true, maxDischargeDepth := 20 }) only [up2_s, up2_n, upr_s, upr_n, ne_eq, not_false_eq_true, Nat.reduceAdd]
          · simp (config := { decide := true, maxDischargeDepth := 20 }) only [up2_s, up2_n, upr_s, upr_n, ne_eq, not_false_eq_true, Nat.reduceAdd]; try rfl
          · simp (config := { decide := true, maxDischargeDepth := 20 }) only [up2_s, up2_n, upr_s, upr_n, ne_eq, not_false_eq_true, Nat.reduceAdd]
          · intro j hj
            simp (config := { decide := true, maxDischargeDepth := 20 }) only [up2_s, up2_n, upr_s, upr_n, ne_eq, not_false_eq_true, Nat.reduceAdd]
          · intro z; exact absurd z (by decide)
          · simp (config := { decide := true, maxDischargeDepth := 20 }) only [up2_s, up2_n, upr_s, upr_n, ne_eq, not_false_eq_true, Nat.reduceAdd]
          · simp (config := { decide := true, maxDischargeDepth := 20 }) only [up2_s, up2_n, upr_s, upr_n, ne_eq, not_false_eq_true, Nat.reduceAdd]
          · simp (config := { decide := true, maxDischargeDepth := 20 }) only [up2_s, up2_n, upr_s, upr_n, ne_eq, not_false_eq_true, Nat.reduceAdd]
          · intro a h1 h2
            rw [up2_n (by omega), up2_n (by omega), up2_n (by omega), up2_n (by omega), up2_n (by omega), up2_n (by omega)]
          · have lP : (intP kd pl vl 0 9 (intP kd pl vl 0 10 (newP kd pl (nwB L (kN c) (vl (takeP kd pl 2 S).1)) (takeP kd pl 2 S)))).2.2.2.1 = 0 := by rw [take_l] at lz; exact lz
            have v2 := iv_0 (lo' := 0) SE3 (lo := 0) (hi := 9) tP.2.1
            have w2 := ib_0_9 hT.2.2.1 (S := (intP kd pl vl 0 10 (newP kd pl (nwB L (kN c) (vl (takeP kd pl 2 S).1)) (takeP kd pl 2 S)))) tP.2.1 lP
            have L2 := (i2.2.2.2.2.2 lP).1
            have v1 := iv_0 (lo' := 0) SE2 (lo := 0) (hi := 10) i2.2.1
            have w1 := ib_0_10 hT.2.2.1 (S := (newP kd pl (nwB L (kN c) (vl (takeP kd pl 2 S).1)) (takeP kd pl 2 S))) i2.2.1 L2
            have L1 := (i1.2.2.2.2.2 L2).1
            have ln := nn.2.2.2.2.2 L1
            have l0' : S.2.2.2.1 = 0 := by have := ln.1; rw [take_l] at this; exact this
            obtain ⟨hN, hP, hMe, hLe, hCr, hDi, hSe⟩ := hCl l0'
            have xz1 : (takeP kd pl 2 Z).1 = (takeP kd pl 2 S).1 := (SE1.2.2 nn.2.1).1.symm
            have k6 : M6 (takeP kd pl 2 Z).1 = lN (mv (takeP kd pl 2 S).1) := by rw [(hT.2.1.2.1 _ G1.1).2.2.2 (by rw [xz1]; exact nn.2.2.1), xz1]
            have nv : newV kd vl (takeP kd pl 2 S) = lN (vl (takeP kd pl 2 S).1) := if_pos nn.2.2.2.2.1
            have nmk := Nam_ap hN nn.2.2.1 ln.2
            rcases hs with rfl | rfl
            · refine ⟨?_, ?_, ?_, ?_, ?_, ?_, ?_⟩
              · rw [kN_up (by decide)]
                simp (config := { decide := true, maxDischargeDepth := 20 }) only [up2_s, up2_n, upr_s, upr_n, ne_eq, not_false_eq_true, Nat.reduceAdd, k6, nv]
                exact nmk
              · simp (config := { decide := true, maxDischargeDepth := 20 }) only [up2_s, up2_n, upr_s, upr_n, ne_eq, not_false_eq_true, Nat.reduceAdd]
                exact hP
              · intro a ha
                have ha' : a < c 1 + 1 := ha
                by_cases ea : a = c 1
                · subst ea
                  simp (config := { decide := true, maxDischargeDepth := 20 }) only [up2_s, up2_n, upr_s, upr_n, ne_eq, not_false_eq_true, Nat.reduceAdd, v1.1, v1.2, v2.1, v2.2]
                  exact ⟨⟨_, _, w1.2, w2.2, rfl, rfl⟩, by simp⟩
                · have eb : 6 * sd + a ≠ 6 * sd + c 1 := by omega
                  simp (config := { decide := true, maxDischargeDepth := 20 }) only [up2_s, up2_n, upr_s, upr_n, ne_eq, not_false_eq_true, Nat.reduceAdd, ea, eb]
                  exact hMe a (by omega)
              · simp (config := { decide := true, maxDischargeDepth := 20 }) only [up2_s, up2_n, upr_s, upr_n, ne_eq, not_false_eq_true, Nat.reduceAdd]
                exact hLe
              · simp (config := { decide := true, maxDischargeDepth := 20 }) only [up2_s, up2_n, upr_s, upr_n, ne_eq, not_false_eq_true, Nat.reduceAdd]
                exact hCr
              · simp (config := { decide := true, maxDischargeDepth := 20 }) only [up2_s, up2_n, upr_s, upr_n, ne_eq, not_false_eq_true, Nat.reduceAdd]
                exact hDi
              · simp (config := { decide := true, maxDischargeDepth := 20 }) only [up2_s, up2_n, upr_s, upr_n, ne_eq, not_false_eq_true, Nat.reduceAdd]
                exact hSe
            · refine ⟨?_, ?_, ?_, ?_, ?_, ?_, ?_⟩
              · rw [kN_up (by decide)]
                simp (config := { decide := true, maxDischargeDepth := 20 }) only [up2_s, up2_n, upr_s, upr_n, ne_eq, not_false_eq_true, Nat.reduceAdd, k6, nv]
                exact nmk
              · simp (config := { decide := true, maxDischargeDepth := 20 }) only [up2_s, up2_n, upr_s, upr_n, ne_eq, not_false_eq_true, Nat.reduceAdd]
                exact hP
              · intro a ha
                have ha' : a < c 1 + 1 := ha
                by_cases ea : a = c 1
                · subst ea
                  simp (config := { decide := true, maxDischargeDepth := 20 }) only [up2_s, up2_n, upr_s, upr_n, ne_eq, not_false_eq_true, Nat.reduceAdd, v1.1, v1.2, v2.1, v2.2]
                  exact ⟨⟨_, _, w1.2, w2.2, rfl, rfl⟩, by simp⟩
                · have eb : 6 * sd + a ≠ 6 * sd + c 1 := by omega
                  simp (config := { decide := true, maxDischargeDepth := 20 }) only [up2_s, up2_n, upr_s, upr_n, ne_eq, not_false_eq_true, Nat.reduceAdd, ea, eb]
                  exact hMe a (by omega)
              · simp (config := { decide := true, maxDischargeDepth := 20 }) only [up2_s, up2_n, upr_s, upr_n, ne_eq, not_false_eq_true, Nat.reduceAdd]
                exact hLe
              · simp (config := { decide := true, maxDischargeDepth := 20 }) only [up2_s, up2_n, upr_s, upr_n, ne_eq, not_false_eq_true, Nat.reduceAdd]
                exact hCr
              · simp (config := { decide := true, maxDischargeDepth := 20 }) only [up2_s, up2_n, upr_s, upr_n, ne_eq, not_false_eq_true, Nat.reduceAdd]
                exact hDi
              · simp (config := { decide := true, maxDischargeDepth := 20 }) only [up2_s, up2_n, upr_s, upr_n, ne_eq, not_false_eq_true, Nat.reduceAdd]
                exact hSe
  · rw [if_neg hA]
    exact hQ _ _ _ (st_no hT (k := 1) (lim := 6) (len := len) hx e0 hbn (by decide) (by decide) hq hA (fun t u J M Z Qm h3 h4 h19 hc hg h0 hqz hn => m_no_Man hT.2.1 h3 h4 hd h19 hc l1 hg h0 hqz hn))
theorem st_Court {kd pl vl mv : Nat → Nat} {n : Nat} {K3 K4 : Nat → Int32} {K5 : Nat → Int64} {M3 M4 M5 : Nat → Int32} {M6 : Nat → Int64} (hT : TOK kd pl vl mv n K3 K4 K5 M3 M4 M5 M6) {t s sd : Nat} (hs : s = 32 ∨ s = 51) (hd : sd ≤ 1) {c so nu : Nat → Nat} {len : Nat} {Bs : Nat → List (Cd × Cd × Cd)} {Es : Nat → Cd} {I : AI} {L : AL} {S : PS} {Q : PQ} (hC : CW K3 K4 K5 s c so nu len Bs Es I L S.1) (e0 : S.2.1 = 0) (hx : S.1 ≤ n) (hbn : BND pl S) (hq : kd S.1 = 4) (hQ : ∀ I' L' S', STL kd pl vl mv n K3 K4 K5 M3 M4 M5 M6 s sd c so nu Bs Es I L S I' L' S' → Q none 123 (wr I' S') L' (RX t (some s))) : V 36 0 [.ref 7, .retAddr 0, .retAddr 0] [] 123 (wr I S) L (RX t (some s)) Q := by
  have hC' := hC
  obtain ⟨⟨a3, a4, a5⟩, ⟨b0, b1, b2, b3, b4⟩, ⟨l0, l1, l2, l3, l4⟩, c6, cN, cM, cD, ⟨p1, p2, p3⟩, pL⟩ := hC'
  have kb : c 3 < 5 → kN c < 35 := by unfold kN; omega
  rw [c_readCourt hs hT.1 a3 a4 a5 c6 hx b3 l3 kb]
  by_cases hA : c 3 < 5 ∧ tkB kd 4 S = true
  · rw [if_pos hA]
    refine hQ _ _ _ ?_
    have hlt := hA.1
    have kb' := kb hlt
    have tk := take_ok (pl := pl) hA.2
    have x1 : (takeP kd pl 4 S).1 = S.1 + 1 := by rw [tk.1]
    have hx1 : (takeP kd pl 4 S).1 ≤ n := take_le hT.1 (by decide) hx
    have B1 : BND pl (takeP kd pl 4 S) := BND_take hbn
    have X0 : (newP kd pl (nwB L (kN c) (vl (takeP kd pl 4 S).1)) (takeP kd pl 4 S)).1 ≤ n := new_le hT.1 hx1
    have B2 : BND pl (newP kd pl (nwB L (kN c) (vl (takeP kd pl 4 S).1)) (takeP kd pl 4 S)) := BND_new B1
    have X1 : (intP kd pl vl 0 9 (newP kd pl (nwB L (kN c) (vl (takeP kd pl 4 S).1)) (takeP kd pl 4 S))).1 ≤ n := int_le hT.1 X0
    have B3 : BND pl (intP kd pl vl 0 9 (newP kd pl (nwB L (kN c) (vl (takeP kd pl 4 S).1)) (takeP kd pl 4 S))) := BND_int B2
    refine ⟨take_le hT.1 (by decide) X1, BND_take B3, ?_, upr c 3 (c 3 + 1), upr so (kN c) 3, upr nu (kN c) (c 3), len, Bs, Es, fun f => ?_, fun t u J M Z Qm hSE hg hM hCl hQm => ?_⟩
    · refine FRC_l ?_
      repeat' (first | exact FRC_r _ _ _ | (refine FRC_u ?_ (by omega)))
    · have tP := take_0 f
      have i1 := int_0 tP.2.1
      have nn := new_0 i1.2.1
      have yP : (takeP kd pl 25 (intP kd pl vl 0 9 (newP kd pl (nwB L (kN c) (vl (takeP kd pl 4 S).1)) (takeP kd pl 4 S)))).1 = (intP kd pl vl 0 9 (newP kd pl (nwB L (kN c) (vl (takeP kd pl 4 S).1)) (takeP kd pl 4 S))).1 + 1 := by rw [tP.1]
      have lt : S.1 < (takeP kd pl 25 (intP kd pl vl 0 9 (newP kd pl (nwB L (kN c) (vl (takeP kd pl 4 S).1)) (takeP kd pl 4 S)))).1 := by
        have := i1.1
        have := nn.1
        omega
      refine ⟨lt, ?_⟩
      rcases hs with rfl | rfl
      · refine CW_name hC (k := 3) (by decide) hlt ?_ ?_ ?_ ?_ ?_ ?_ ?_ ?_ ?_ ?_ ?_ ?_ (by omega)
        · simp (config := { decide := true, maxDischargeDepth := 20 }) only [up2_s, up2_n, upr_s, upr_n, ne_eq, not_false_eq_true, Nat.reduceAdd]
        · simp (config := { decide := true, maxDischargeDepth := 20 }) only [up2_s, up2_n, upr_s, upr_n, ne_eq, not_false_eq_true, Nat.reduceAdd]
        · simp (config := { decide := true, maxDischargeDepth := 20 }) only [up2_s, up2_n, upr_s, upr_n, ne_eq, not_false_eq_true, Nat.reduceAdd]
        · intro z z1 z2
          simp (config := { decide := true, maxDischargeDepth := 20 }) only [up2_s, up2_n, upr_s, upr_n, ne_eq, not_false_eq_true, Nat.reduceAdd]
        · simp (config := { decide := true, maxDischargeDepth := 20 }) only [up2_s, up2_n, upr_s, upr_n, ne_eq, not_false_eq_true, Nat.reduceAdd]
        · simp (config := { decide := true, maxDischargeDepth := 20 }) only [up2_s, up2_n, upr_s, upr_n, ne_eq, not_false_eq_true, Nat.reduceAdd]; try rfl
        · simp (config := { decide := true, maxDischargeDepth := 20 }) only [up2_s, up2_n, upr_s, upr_n, ne_eq, not_false_eq_true, Nat.reduceAdd]
        · intro j hj
          simp (config := { decide := true, maxDischargeDepth := 20 }) only [up2_s, up2_n, upr_s, upr_n, ne_eq, not_false_eq_true, Nat.reduceAdd]
        · intro z; exact absurd z (by decide)
        · simp (config := { decide := true, maxDischargeDepth := 20 }) only [up2_s, up2_n, upr_s, upr_n, ne_eq, not_false_eq_true, Nat.reduceAdd]
        · simp (config := { decide := true, maxDischargeDepth := 20 }) only [up2_s, up2_n, upr_s, upr_n, ne_eq, not_false_eq_true, Nat.reduceAdd]
        · simp (config := { decide := true, maxDischargeDepth := 20 }) only [up2_s, up2_n, upr_s, upr_n, ne_eq, not_false_eq_true, Nat.reduceAdd]
      · refine CW_name hC (k := 3) (by decide) hlt ?_ ?_ ?_ ?_ ?_ ?_ ?_ ?_ ?_ ?_ ?_ ?_ (by omega)
        · simp (config := { decide := true, maxDischargeDepth := 20 }) only [up2_s, up2_n, upr_s, upr_n, ne_eq, not_false_eq_true, Nat.reduceAdd]
        · simp (config := { decide := true, maxDischargeDepth := 20 }) only [up2_s, up2_n, upr_s, upr_n, ne_eq, not_false_eq_true, Nat.reduceAdd]
        · simp (config := { decide := true, maxDischargeDepth := 20 }) only [up2_s, up2_n, upr_s, upr_n, ne_eq, not_false_eq_true, Nat.reduceAdd]
        · intro z z1 z2
          simp (config := { decide := true, maxDischargeDepth := 20 }) only [up2_s, up2_n, upr_s, upr_n, ne_eq, not_false_eq_true, Nat.reduceAdd]
        · simp (config := { decide := true, maxDischargeDepth := 20 }) only [up2_s, up2_n, upr_s, upr_n, ne_eq, not_false_eq_true, Nat.reduceAdd]
        · simp (config := { decide := true, maxDischargeDepth := 20 }) only [up2_s, up2_n, upr_s, upr_n, ne_eq, not_false_eq_true, Nat.reduceAdd]; try rfl
        · simp (config := { decide := true, maxDischargeDepth := 20 }) only [up2_s, up2_n, upr_s, upr_n, ne_eq, not_false_eq_true, Nat.reduceAdd]
        · intro j hj
          simp (config := { decide := true, maxDischargeDepth := 20 }) only [up2_s, up2_n, upr_s, upr_n, ne_eq, not_false_eq_true, Nat.reduceAdd]
        · intro z; exact absurd z (by decide)
        · simp (config := { decide := true, maxDischargeDepth := 20 }) only [up2_s, up2_n, upr_s, upr_n, ne_eq, not_false_eq_true, Nat.reduceAdd]
        · simp (config := { decide := true, maxDischargeDepth := 20 }) only [up2_s, up2_n, upr_s, upr_n, ne_eq, not_false_eq_true, Nat.reduceAdd]
        · simp (config := { decide := true, maxDischargeDepth := 20 }) only [up2_s, up2_n, upr_s, upr_n, ne_eq, not_false_eq_true, Nat.reduceAdd]
    · have ez : Z.2.1 = 0 := by rw [← hSE.1]; exact e0
      have xz : Z.1 = S.1 := (hSE.2.2 e0).1.symm
      have hM' := hM
      obtain ⟨⟨m3, m4, m5, m6⟩, ⟨d0, d1, d2, d3, d4⟩, ⟨c19, c20⟩, mN, mD, mL⟩ := hM'
      have tz : tkB kd 4 Z = true := by rw [← tkB_e hSE]; exact hA.2
      have fz := take_f0 (pl := pl) tz
      have SE1 : SE (takeP kd pl 4 S) (takeP kd pl 4 Z) := SE_take hSE
      have G1 : GS n (takeP kd pl 4 Z) := GS_take hT.2.1 (by decide) hg
      have SE2 : SE (newP kd pl (nwB L (kN c) (vl (takeP kd pl 4 S).1)) (takeP kd pl 4 S)) (newP kd pl (nwM M (kN c) (mv (takeP kd pl 4 Z).1)) (takeP kd pl 4 Z)) := SE_new2 hT SE1 hx1 B1 (fun z => (hCl (by rw [take_l] at z; exact z)).1)
      have G2 : GS n (newP kd pl (nwM M (kN c) (mv (takeP kd pl 4 Z).1)) (takeP kd pl 4 Z)) := GS_new hT.2.1 G1
      have SE3 : SE (intP kd pl vl 0 9 (newP kd pl (nwB L (kN c) (vl (takeP kd pl 4 S).1)) (takeP kd pl 4 S))) (intM kd pl vl 0 9 (newP kd pl (nwM M (kN c) (mv (takeP kd pl 4 Z).1)) (takeP kd pl 4 Z))) := SE_int SE2
      have G3 : GS n (intM kd pl vl 0 9 (newP kd pl (nwM M (kN c) (mv (takeP kd pl 4 Z).1)) (takeP kd pl 4 Z))) := GS_int hT.2.1 G2
      have SEP : SE (takeP kd pl 25 (intP kd pl vl 0 9 (newP kd pl (nwB L (kN c) (vl (takeP kd pl 4 S).1)) (takeP kd pl 4 S)))) (takeP kd pl 25 (intM kd pl vl 0 9 (newP kd pl (nwM M (kN c) (mv (takeP kd pl 4 Z).1)) (takeP kd pl 4 Z)))) := SE_take SE3
      have GP : GS n (takeP kd pl 25 (intM kd pl vl 0 9 (newP kd pl (nwM M (kN c) (mv (takeP kd pl 4 Z).1)) (takeP kd pl 4 Z)))) := GS_take hT.2.1 (by decide) G3
      have y1 := inT (a := Z.1) (N := 403) (by have := hT.1.1; omega) (by decide)
      have y2 := nI_clamp (n := Z.1) (by have := hT.1.1; omega)
      have w1 := inT (a := sd) (N := 2) (by omega) (by decide)
      have w2 := nI_clamp (n := sd) (by omega)
      have y3 : M3 Z.1 = 24 := by rw [(hT.2.1.2.1 Z.1 hg.1).1, xz, hq]; rfl
      have c1 : c 3 < 100 := by omega
      have ne : (c 3 = 5) = False := eq_false (by omega)
      have tg : goP pl Z = (takeP kd pl 4 Z) := by rw [take_is, if_pos (by unfold isP; rw [decide_eq_true ez, decide_eq_true (xz ▸ hq)]; rfl)]
      have ff : ∀ Q2 : PQ, _ := fun Q2 => m_tellCourt (t := t) (u := u) (J := J) (L := M) (Q := Q2) (S := (takeP kd pl 4 Z)) hT.2.1 m3 m4 m5 m6 c20 c19 hd kb' G1 d3 hlt
      simp (config := { decide := true, maxDischargeDepth := 20 }) only [↓reduceIte, KV_i, KV_v, wsm_0, wsm_i, wsm_l, wsm_r, dlV_i, dlV_r, dlV_l, dlV_j, cat_i, cat_l, cat_r, rf_s, true_and, and_true, and_self, if_true, if_false, ite_true, ite_false, eq_self, true_or, or_true, false_or, or_false, not_true_eq_false, not_false_eq_true, vn_0_45, vn_1_45, vn_2_45, vn_3_45, vn_4_45, vn_5_45, vn_6_45, vn_7_45, vn_8_45, vn_36_48, vn_37_48, vn_38_48, vn_39_48, vn_40_48, vn_41_48, vn_42_48, vn_43_48, vn_44_48, vn_0_9, vn_1_9, vn_2_9, vn_3_9, vn_4_9, vn_5_9, vn_6_9, vn_7_9, vn_8_9, vn_0_3, vn_1_3, vn_2_3, vn_0_4, vn_1_4, vn_2_4, vn_3_4, vn_0_64, vn_0_16, vn_0_400, vn_0_6, vn_0_14, Int32.reduceToNatClampNeg, Int32.reduceAdd, Int32.reduceSub, Int32.reduceMul, Int32.reduceLE, Int32.reduceLT, Nat.reduceAdd, nr_2, nr_30, nr_31, rd_2, rd_14, rd_71, rd_72, rd_101, rd_116, rd_121, up2_s, up2_n, upr_s, upr_n, ne_eq, not_false_eq_true, ob_70, rx_70_1, rx_70_3, rx_70_5, rx_70_6, rx_70_7, rx_70_8, rx_70_9, rx_70_21, rx_70_22, rx_70_23, rx_70_24, rx_70_25, rx_70_26, rx_70_27, rx_70_28, rx_70_29, rx_70_30, rx_70_31, rx_70_32, rx_70_33, rx_70_34, rx_70_35, rx_70_36, rx_70_37, rx_70_38, rx_70_39, rx_70_40, rx_70_41, rx_70_42, rx_70_43, rx_70_45, rx_70_46, rx_70_47, rx_70_48, rx_70_49, rx_70_51, rx_70_52, rx_70_53, rx_70_55, rx_70_56, rx_70_58, rx_70_59, rx_70_60, rx_70_61, rx_70_63, rx_70_64, rx_70_65, rx_70_70, rx_70_71, rx_70_72, rx_70_73, rx_70_74, r159_0, r159_1, r159_4, r159_5, r159_8, r159_68, r159_69, r159_70, r159_73, r159_74, r159_77, r159_78, r159_80, r159_83, r159_84, r159_87, r159_90, r159_91, r159_94, r159_97, r159_98, r159_99, r159_102, r159_103, r159_106, r159_107, r159_109, r159_112, r159_113, r159_116, r159_119, r159_120, r159_123, r159_126, r159_127, r159_128, r159_131, r159_132, r159_135, r159_136, r159_138, r159_141, r159_142, r159_145, r159_148, r159_149, r159_152, r159_155, r159_156, r159_157, r159_160, r159_161, r159_164, r159_165, r159_167, r159_170, r159_171, r159_174, r159_177, r159_178, r159_181, r159_184, r159_185, r159_186, r159_189, r159_190, r159_193, r159_194, r159_195, r159_198, r159_199, r159_202, r159_205, r159_206, r159_209, r159_212, r159_213, r159_214, r159_217, r159_218, r159_221, r159_222, r159_223, r159_226, r159_227, r159_230, r159_233, r159_234, r159_237, r159_240, r159_241, r159_244, r159_245, r159_248, r159_249, r159_252, r159_253, r159_254, r159_257, r159_260, r159_261, r159_262, r159_263, r159_266, r159_269, r159_270, r159_273, r159_274, r159_277, r159_278, r159_280, r159_281, r159_282, r159_283, r159_286, r159_287, r159_290, r159_291, r159_294, r159_295, r159_297, r159_300, r159_301, r159_302, r159_305, r159_306, r159_309, r159_312, r159_313, r159_314, r159_317, r159_318, r159_319, r159_322, r159_9, tg_73, ln_73, tg_94, ln_94, wm_11, wm_13, wm_14, wm_15, wm_16, wm_4, wm_12, wm_18, wm_19, wm_20, wm_44, wm_50, wm_54, wm_n, wm_up, wm_u11, wm_u13, wm_u14, wm_u15, wm_u16, wm_u12, wm_u18, wm_u19, wm_u20, wm_u44, wm_u50, wm_u54, m_room_5 hT.2.1, m3, m4, c19, d3, hg, ez, c1, ne, y1, y2, w1, w2, y3, tg, fz, ff]
      cases e5 : tkB kd 25 (intM kd pl vl 0 9 (newP kd pl (nwM M (kN c) (mv (takeP kd pl 4 Z).1)) (takeP kd pl 4 Z)))
      · rw [if_neg (by decide)]
        refine hQm _ _ _ SEP GP ?_ (fun _ _ _ => rfl) (fun f => ?_)
        · repeat' (first | exact FRM_r _ _ | (refine FRM_u ?_ (by first | exact np_79 | exact np_80 | exact np_20 | exact np_81 hd | exact np_88 hd | exact np_91 hd | exact np_94 hd | exact np_96 hd | exact np_98 hd | exact np_82 hd hlt | exact np_83 hd hlt | exact np_84 hd hlt | exact np_85 hd hlt | exact np_89 hd hlt | exact np_90 hd hlt | exact np_92 hd hlt | exact np_93 hd hlt | exact np_95 hd hlt | exact np_97_0 hd hlt | exact np_97_1 hd hlt | exact np_97_2 hd hlt | exact np_97_3 hd hlt | exact np_97_4 hd hlt | exact np_97_5 hd hlt)))
        · have tP := take_0 f
          exact absurd (tP.2.2.2.2.symm.trans ((tkB_e SE3).trans e5)) (by decide)
      · rw [if_pos rfl]
        refine hQm _ _ _ SEP GP ?_ (FRL_u (fun _ _ _ => rfl)) (fun f => ?_)
        · repeat' (first | exact FRM_r _ _ | (refine FRM_u ?_ (by first | exact np_79 | exact np_80 | exact np_20 | exact np_81 hd | exact np_88 hd | exact np_91 hd | exact np_94 hd | exact np_96 hd | exact np_98 hd | exact np_82 hd hlt | exact np_83 hd hlt | exact np_84 hd hlt | exact np_85 hd hlt | exact np_89 hd hlt | exact np_90 hd hlt | exact np_92 hd hlt | exact np_93 hd hlt | exact np_95 hd hlt | exact np_97_0 hd hlt | exact np_97_1 hd hlt | exact np_97_2 hd hlt | exact np_97_3 hd hlt | exact np_97_4 hd hlt | exact np_97_5 hd hlt)))
        · have tP := take_0 f
          have i1 := int_0 tP.2.1
          have nn := new_0 i1.2.1
          have yP : (takeP kd pl 25 (intP kd pl vl 0 9 (newP kd pl (nwB L (kN c) (vl (takeP kd pl 4 S).1)) (takeP kd pl 4 S)))).1 = (intP kd pl vl 0 9 (newP kd pl (nwB L (kN c) (vl (takeP kd pl 4 S).1)) (takeP kd pl 4 S))).1 + 1 := by rw [tP.1]
          have lt : S.1 < (takeP kd pl 25 (intP kd pl vl 0 9 (newP kd pl (nwB L (kN c) (vl (takeP kd pl 4 S).1)) (takeP kd pl 4 S)))).1 := by
            have := i1.1
            have := nn.1
            omega
          refine ⟨MW_name hM (k := 3) (by decide) ?_ ?_ ?_ ?_ ?_ ?_ ?_ ?_ ?_ ?_ ?_ ?_ ?_ ?_ ?_ (by omega), fun lz => ?_⟩
          · simp (config := { decide := true, maxDischargeDepth := 20 }) only [up2_s, up2_n, upr_s, upr_n, ne_eq, not_false_eq_true, Nat.reduceAdd]
          · simp (config := { decide := true, maxDischargeDepth := 20 }) only [up2_s, up2_n, upr_s, upr_n, ne_eq, not_false_eq_true, Nat.reduceAdd]
          · simp (config := { decide := true, maxDischargeDepth := 20 }) only [up2_s, up2_n, upr_s, upr_n, ne_eq, not_false_eq_true, Nat.reduceAdd]
          · simp (config := { decide := true, maxDischargeDepth := 20 }) only [up2_s, up2_n, upr_s, upr_n, ne_eq, not_false_eq_true, Nat.reduceAdd]
          · intro z hz
            have h5 : z = 0 ∨ z = 1 ∨ z = 2 ∨ z = 3 ∨ z = 4 := by omega
            have r0 : rwN 0 = 81 := rfl
            have r1 : rwN 1 = 88 := rfl
            have r2 : rwN 2 = 91 := rfl
            have r3 : rwN 3 = 94 := rfl
            have r4 : rwN 4 = 96 := rfl
            rcases h5 with rfl | rfl | rfl | rfl | rfl <;> simp (config := { decide := true, maxDischargeDepth := 20 }) only [up2_s, up2_n, upr_s, upr_n, ne_eq, not_false_eq_true, Nat.reduceAdd, r0, r1, r2, r3, r4, ↓reduceIte]
          · simp (config := { decide := true, maxDischargeDepth := 20 }) only [up2_s, up2_n, upr_s, upr_n, ne_eq, not_false_eq_true, Nat.reduceAdd]
          · simp (config := { decide := true, maxDischargeDepth := 20 }) only [up2_s, up2_n, upr_s, upr_n, ne_eq, not_false_eq_true, Nat.reduceAdd]
          · simp (config := { decide := true, maxDischargeDepth := 20 }) only [up2_s, up2_n, upr_s, upr_n, ne_eq, not_false_eq_true, Nat.reduceAdd]; try rfl
          · simp (config := { decide := true, maxDischargeDepth := 20 }) only [up2_s, up2_n, upr_s, upr_n, ne_eq, not_false_eq_true, Nat.reduceAdd]
          · intro j hj
            simp (config := { decide := true, maxDischargeDepth := 20 }) only [up2_s, up2_n, upr_s, upr_n, ne_eq, not_false_eq_true, Nat.reduceAdd]
          · intro z; exact absurd z (by decide)
          · simp (config := { decide := true, maxDischargeDepth := 20 }) only [up2_s, up2_n, upr_s, upr_n, ne_eq, not_false_eq_true, Nat.reduceAdd]
          · simp (config := { decide := true, maxDischargeDepth := 20 }) only [up2_s, up2_n, upr_s, upr_n, ne_eq, not_false_eq_true, Nat.reduceAdd]
          · simp (config := { decide := true, maxDischargeDepth := 20 }) only [up2_s, up2_n, upr_s, upr_n, ne_eq, not_false_eq_true, Nat.reduceAdd]
          · intro a h1 h2
            rw [up2_n (by omega), up2_n (by omega), up2_n (by omega), up2_n (by omega), up2_n (by omega)]
          · have lP : (intP kd pl vl 0 9 (newP kd pl (nwB L (kN c) (vl (takeP kd pl 4 S).1)) (takeP kd pl 4 S))).2.2.2.1 = 0 := by rw [take_l] at lz; exact lz
            have v1 := iv_0 (lo' := 0) SE2 (lo := 0) (hi := 9) tP.2.1
            have w1 := ib_0_9 hT.2.2.1 (S := (newP kd pl (nwB L (kN c) (vl (takeP kd pl 4 S).1)) (takeP kd pl 4 S))) tP.2.1 lP
            have L1 := (i1.2.2.2.2.2 lP).1
            have ln := nn.2.2.2.2.2 L1
            have l0' : S.2.2.2.1 = 0 := by have := ln.1; rw [take_l] at this; exact this
            obtain ⟨hN, hP, hMe, hLe, hCr, hDi, hSe⟩ := hCl l0'
            have xz1 : (takeP kd pl 4 Z).1 = (takeP kd pl 4 S).1 := (SE1.2.2 nn.2.1).1.symm
            have k6 : M6 (takeP kd pl 4 Z).1 = lN (mv (takeP kd pl 4 S).1) := by rw [(hT.2.1.2.1 _ G1.1).2.2.2 (by rw [xz1]; exact nn.2.2.1), xz1]
            have nv : newV kd vl (takeP kd pl 4 S) = lN (vl (takeP kd pl 4 S).1) := if_pos nn.2.2.2.2.1
            have nmk := Nam_ap hN nn.2.2.1 ln.2
            rcases hs with rfl | rfl
            · refine ⟨?_, ?_, ?_, ?_, ?_, ?_, ?_⟩
              · rw [kN_up (by decide)]
                simp (config := { decide := true, maxDischargeDepth := 20 }) only [up2_s, up2_n, upr_s, upr_n, ne_eq, not_false_eq_true, Nat.reduceAdd, k6, nv]
                exact nmk
              · simp (config := { decide := true, maxDischargeDepth := 20 }) only [up2_s, up2_n, upr_s, upr_n, ne_eq, not_false_eq_true, Nat.reduceAdd]
                exact hP
              · simp (config := { decide := true, maxDischargeDepth := 20 }) only [up2_s, up2_n, upr_s, upr_n, ne_eq, not_false_eq_true, Nat.reduceAdd]
                exact hMe
              · simp (config := { decide := true, maxDischargeDepth := 20 }) only [up2_s, up2_n, upr_s, upr_n, ne_eq, not_false_eq_true, Nat.reduceAdd]
                exact hLe
              · intro a ha
                have ha' : a < c 3 + 1 := ha
                by_cases ea : a = c 3
                · subst ea
                  simp (config := { decide := true, maxDischargeDepth := 20 }) only [up2_s, up2_n, upr_s, upr_n, ne_eq, not_false_eq_true, Nat.reduceAdd, v1.1, v1.2]
                  exact ⟨⟨_, w1.2, rfl⟩, by simp⟩
                · have eb : 5 * sd + a ≠ 5 * sd + c 3 := by omega
                  simp (config := { decide := true, maxDischargeDepth := 20 }) only [up2_s, up2_n, upr_s, upr_n, ne_eq, not_false_eq_true, Nat.reduceAdd, ea, eb]
                  exact hCr a (by omega)
              · simp (config := { decide := true, maxDischargeDepth := 20 }) only [up2_s, up2_n, upr_s, upr_n, ne_eq, not_false_eq_true, Nat.reduceAdd]
                exact hDi
              · simp (config := { decide := true, maxDischargeDepth := 20 }) only [up2_s, up2_n, upr_s, upr_n, ne_eq, not_false_eq_true, Nat.reduceAdd]
                exact hSe
            · refine ⟨?_, ?_, ?_, ?_, ?_, ?_, ?_⟩
              · rw [kN_up (by decide)]
                simp (config := { decide := true, maxDischargeDepth := 20 }) only [up2_s, up2_n, upr_s, upr_n, ne_eq, not_false_eq_true, Nat.reduceAdd, k6, nv]
                exact nmk
              · simp (config := { decide := true, maxDischargeDepth := 20 }) only [up2_s, up2_n, upr_s, upr_n, ne_eq, not_false_eq_true, Nat.reduceAdd]
                exact hP
              · simp (config := { decide := true, maxDischargeDepth := 20 }) only [up2_s, up2_n, upr_s, upr_n, ne_eq, not_false_eq_true, Nat.reduceAdd]
                exact hMe
              · simp (config := { decide := true, maxDischargeDepth := 20 }) only [up2_s, up2_n, upr_s, upr_n, ne_eq, not_false_eq_true, Nat.reduceAdd]
                exact hLe
              · intro a ha
                have ha' : a < c 3 + 1 := ha
                by_cases ea : a = c 3
                · subst ea
                  simp (config := { decide := true, maxDischargeDepth := 20 }) only [up2_s, up2_n, upr_s, upr_n, ne_eq, not_false_eq_true, Nat.reduceAdd, v1.1, v1.2]
                  exact ⟨⟨_, w1.2, rfl⟩, by simp⟩
                · have eb : 5 * sd + a ≠ 5 * sd + c 3 := by omega
                  simp (config := { decide := true, maxDischargeDepth := 20 }) only [up2_s, up2_n, upr_s, upr_n, ne_eq, not_false_eq_true, Nat.reduceAdd, ea, eb]
                  exact hCr a (by omega)
              · simp (config := { decide := true, maxDischargeDepth := 20 }) only [up2_s, up2_n, upr_s, upr_n, ne_eq, not_false_eq_true, Nat.reduceAdd]
                exact hDi
              · simp (config := { decide := true, maxDischargeDepth := 20 }) only [up2_s, up2_n, upr_s, upr_n, ne_eq, not_false_eq_true, Nat.reduceAdd]
                exact hSe
  · rw [if_neg hA]
    exact hQ _ _ _ (st_no hT (k := 3) (lim := 5) (len := len) hx e0 hbn (by decide) (by decide) hq hA (fun t u J M Z Qm h3 h4 h19 hc hg h0 hqz hn => m_no_Court hT.2.1 h3 h4 hd h19 hc l3 hg h0 hqz hn))
theorem st_Die {kd pl vl mv : Nat → Nat} {n : Nat} {K3 K4 : Nat → Int32} {K5 : Nat → Int64} {M3 M4 M5 : Nat → Int32} {M6 : Nat → Int64} (hT : TOK kd pl vl mv n K3 K4 K5 M3 M4 M5 M6) {t s sd : Nat} (hs : s = 32 ∨ s = 51) (hd : sd ≤ 1) {c so nu : Nat → Nat} {len : Nat} {Bs : Nat → List (Cd × Cd × Cd)} {Es : Nat → Cd} {I : AI} {L : AL} {S : PS} {Q : PQ} (hC : CW K3 K4 K5 s c so nu len Bs Es I L S.1) (e0 : S.2.1 = 0) (hx : S.1 ≤ n) (hbn : BND pl S) (hq : kd S.1 = 5) (hQ : ∀ I' L' S', STL kd pl vl mv n K3 K4 K5 M3 M4 M5 M6 s sd c so nu Bs Es I L S I' L' S' → Q none 123 (wr I' S') L' (RX t (some s))) : V 37 0 [.ref 7, .retAddr 0, .retAddr 0, .retAddr 0] [] 123 (wr I S) L (RX t (some s)) Q := by
  have hC' := hC
  obtain ⟨⟨a3, a4, a5⟩, ⟨b0, b1, b2, b3, b4⟩, ⟨l0, l1, l2, l3, l4⟩, c6, cN, cM, cD, ⟨p1, p2, p3⟩, pL⟩ := hC'
  have kb : c 4 < 4 → kN c < 35 := by unfold kN; omega
  rw [c_readDie hs hT.1 a3 a4 a5 c6 hx b4 l4 kb]
  by_cases hA : c 4 < 4 ∧ tkB kd 5 S = true
  · rw [if_pos hA]
    refine hQ _ _ _ ?_
    have hlt := hA.1
    have kb' := kb hlt
    have tk := take_ok (pl := pl) hA.2
    have x1 : (takeP kd pl 5 S).1 = S.1 + 1 := by rw [tk.1]
    have hx1 : (takeP kd pl 5 S).1 ≤ n := take_le hT.1 (by decide) hx
    have B1 : BND pl (takeP kd pl 5 S) := BND_take hbn
    have X0 : (newP kd pl (nwB L (kN c) (vl (takeP kd pl 5 S).1)) (takeP kd pl 5 S)).1 ≤ n := new_le hT.1 hx1
    have B2 : BND pl (newP kd pl (nwB L (kN c) (vl (takeP kd pl 5 S).1)) (takeP kd pl 5 S)) := BND_new B1
    have X1 : (intP kd pl vl 0 9 (newP kd pl (nwB L (kN c) (vl (takeP kd pl 5 S).1)) (takeP kd pl 5 S))).1 ≤ n := int_le hT.1 X0
    have B3 : BND pl (intP kd pl vl 0 9 (newP kd pl (nwB L (kN c) (vl (takeP kd pl 5 S).1)) (takeP kd pl 5 S))) := BND_int B2
    have X2 : (intP kd pl vl 0 9 (intP kd pl vl 0 9 (newP kd pl (nwB L (kN c) (vl (takeP kd pl 5 S).1)) (takeP kd pl 5 S)))).1 ≤ n := int_le hT.1 X1
    have B4 : BND pl (intP kd pl vl 0 9 (intP kd pl vl 0 9 (newP kd pl (nwB L (kN c) (vl (takeP kd pl 5 S).1)) (takeP kd pl 5 S)))) := BND_int B3
    have X3 : (intP kd pl vl 0 9 (intP kd pl vl 0 9 (intP kd pl vl 0 9 (newP kd pl (nwB L (kN c) (vl (takeP kd pl 5 S).1)) (takeP kd pl 5 S))))).1 ≤ n := int_le hT.1 X2
    have B5 : BND pl (intP kd pl vl 0 9 (intP kd pl vl 0 9 (intP kd pl vl 0 9 (newP kd pl (nwB L (kN c) (vl (takeP kd pl 5 S).1)) (takeP kd pl 5 S))))) := BND_int B4
    have X4 : (intP kd pl vl 0 9 (intP kd pl vl 0 9 (intP kd pl vl 0 9 (intP kd pl vl 0 9 (newP kd pl (nwB L (kN c) (vl (takeP kd pl 5 S).1)) (takeP kd pl 5 S)))))).1 ≤ n := int_le hT.1 X3
    have B6 : BND pl (intP kd pl vl 0 9 (intP kd pl vl 0 9 (intP kd pl vl 0 9 (intP kd pl vl 0 9 (newP kd pl (nwB L (kN c) (vl (takeP kd pl 5 S).1)) (takeP kd pl 5 S)))))) := BND_int B5
    have X5 : (intP kd pl vl 0 9 (intP kd pl vl 0 9 (intP kd pl vl 0 9 (intP kd pl vl 0 9 (intP kd pl vl 0 9 (newP kd pl (nwB L (kN c) (vl (takeP kd pl 5 S).1)) (takeP kd pl 5 S))))))).1 ≤ n := int_le hT.1 X4
    have B7 : BND pl (intP kd pl vl 0 9 (intP kd pl vl 0 9 (intP kd pl vl 0 9 (intP kd pl vl 0 9 (intP kd pl vl 0 9 (newP kd pl (nwB L (kN c) (vl (takeP kd pl 5 S).1)) (takeP kd pl 5 S))))))) := BND_int B6
    have X6 : (intP kd pl vl 0 9 (intP kd pl vl 0 9 (intP kd pl vl 0 9 (intP kd pl vl 0 9 (intP kd pl vl 0 9 (intP kd pl vl 0 9 (newP kd pl (nwB L (kN c) (vl (takeP kd pl 5 S).1)) (takeP kd pl 5 S)))))))).1 ≤ n := int_le hT.1 X5
    have B8 : BND pl (intP kd pl vl 0 9 (intP kd pl vl 0 9 (intP kd pl vl 0 9 (intP kd pl vl 0 9 (intP kd pl vl 0 9 (intP kd pl vl 0 9 (newP kd pl (nwB L (kN c) (vl (takeP kd pl 5 S).1)) (takeP kd pl 5 S)))))))) := BND_int B7
    refine ⟨take_le hT.1 (by decide) X6, BND_take B8, ?_, upr c 4 (c 4 + 1), upr so (kN c) 4, upr nu (kN c) (c 4), len, Bs, Es, fun f => ?_, fun t u J M Z Qm hSE hg hM hCl hQm => ?_⟩
    · refine FRC_l ?_
      repeat' (first | exact FRC_r _ _ _ | (refine FRC_u ?_ (by omega)))
    · have tP := take_0 f
      have i6 := int_0 tP.2.1
      have i5 := int_0 i6.2.1
      have i4 := int_0 i5.2.1
      have i3 := int_0 i4.2.1
      have i2 := int_0 i3.2.1
      have i1 := int_0 i2.2.1
      have nn := new_0 i1.2.1
      have yP : (takeP kd pl 25 (intP kd pl vl 0 9 (intP kd pl vl 0 9 (intP kd pl vl 0 9 (intP kd pl vl 0 9 (intP kd pl vl 0 9 (intP kd pl vl 0 9 (newP kd pl (nwB L (kN c) (vl (takeP kd pl 5 S).1)) (takeP kd pl 5 S))))))))).1 = (intP kd pl vl 0 9 (intP kd pl vl 0 9 (intP kd pl vl 0 9 (intP kd pl vl 0 9 (intP kd pl vl 0 9 (intP kd pl vl 0 9 (newP kd pl (nwB L (kN c) (vl (takeP kd pl 5 S).1)) (takeP kd pl 5 S)))))))).1 + 1 := by rw [tP.1]
      have lt : S.1 < (takeP kd pl 25 (intP kd pl vl 0 9 (intP kd pl vl 0 9 (intP kd pl vl 0 9 (intP kd pl vl 0 9 (intP kd pl vl 0 9 (intP kd pl vl 0 9 (newP kd pl (nwB L (kN c) (vl (takeP kd pl 5 S).1)) (takeP kd pl 5 S))))))))).1 := by
        have := i1.1
        have := i2.1
        have := i3.1
        have := i4.1
        have := i5.1
        have := i6.1
        have := nn.1
        omega
      refine ⟨lt, ?_⟩
      rcases hs with rfl | rfl
      · refine CW_name hC (k := 4) (by decide) hlt ?_ ?_ ?_ ?_ ?_ ?_ ?_ ?_ ?_ ?_ ?_ ?_ (by omega)
        · simp (config := { decide := true, maxDischargeDepth := 20 }) only [up2_s, up2_n, upr_s, upr_n, ne_eq, not_false_eq_true, Nat.reduceAdd]
        · simp (config := { decide := true, maxDischargeDepth := 20 }) only [up2_s, up2_n, upr_s, upr_n, ne_eq, not_false_eq_true, Nat.reduceAdd]
        · simp (config := { decide := true, maxDischargeDepth := 20 }) only [up2_s, up2_n, upr_s, upr_n, ne_eq, not_false_eq_true, Nat.reduceAdd]
        · intro z z1 z2
          simp (config := { decide := true, maxDischargeDepth := 20 }) only [up2_s, up2_n, upr_s, upr_n, ne_eq, not_false_eq_true, Nat.reduceAdd]
        · simp (config := { decide := true, maxDischargeDepth := 20 }) only [up2_s, up2_n, upr_s, upr_n, ne_eq, not_false_eq_true, Nat.reduceAdd]
        · simp (config := { decide := true, maxDischargeDepth := 20 }) only [up2_s, up2_n, upr_s, upr_n, ne_eq, not_false_eq_true, Nat.reduceAdd]; try rfl
        · simp (config := { decide := true, maxDischargeDepth := 20 }) only [up2_s, up2_n, upr_s, upr_n, ne_eq, not_false_eq_true, Nat.reduceAdd]
        · intro j hj
          simp (config := { decide := true, maxDischargeDepth := 20 }) only [up2_s, up2_n, upr_s, upr_n, ne_eq, not_false_eq_true, Nat.reduceAdd]
        · intro z; exact absurd z (by decide)
        · simp (config := { decide := true, maxDischargeDepth := 20 }) only [up2_s, up2_n, upr_s, upr_n, ne_eq, not_false_eq_true, Nat.reduceAdd]
        · simp (config := { decide := true, maxDischargeDepth := 20 }) only [up2_s, up2_n, upr_s, upr_n, ne_eq, not_false_eq_true, Nat.reduceAdd]
        · simp (config := { decide := true, maxDischargeDepth := 20 }) only [up2_s, up2_n, upr_s, upr_n, ne_eq, not_false_eq_true, Nat.reduceAdd]
      · refine CW_name hC (k := 4) (by decide) hlt ?_ ?_ ?_ ?_ ?_ ?_ ?_ ?_ ?_ ?_ ?_ ?_ (by omega)
        · simp (config := { decide := true, maxDischargeDepth := 20 }) only [up2_s, up2_n, upr_s, upr_n, ne_eq, not_false_eq_true, Nat.reduceAdd]
        · simp (config := { decide := true, maxDischargeDepth := 20 }) only [up2_s, up2_n, upr_s, upr_n, ne_eq, not_false_eq_true, Nat.reduceAdd]
        · simp (config := { decide := true, maxDischargeDepth := 20 }) only [up2_s, up2_n, upr_s, upr_n, ne_eq, not_false_eq_true, Nat.reduceAdd]
        · intro z z1 z2
          simp (config := { decide := true, maxDischargeDepth := 20 }) only [up2_s, up2_n, upr_s, upr_n, ne_eq, not_false_eq_true, Nat.reduceAdd]
        · simp (config := { decide := true, maxDischargeDepth := 20 }) only [up2_s, up2_n, upr_s, upr_n, ne_eq, not_false_eq_true, Nat.reduceAdd]
        · simp (config := { decide := true, maxDischargeDepth := 20 }) only [up2_s, up2_n, upr_s, upr_n, ne_eq, not_false_eq_true, Nat.reduceAdd]; try rfl
        · simp (config := { decide := true, maxDischargeDepth := 20 }) only [up2_s, up2_n, upr_s, upr_n, ne_eq, not_false_eq_true, Nat.reduceAdd]
        · intro j hj
          simp (config := { decide := true, maxDischargeDepth := 20 }) only [up2_s, up2_n, upr_s, upr_n, ne_eq, not_false_eq_true, Nat.reduceAdd]
        · intro z; exact absurd z (by decide)
        · simp (config := { decide := true, maxDischargeDepth := 20 }) only [up2_s, up2_n, upr_s, upr_n, ne_eq, not_false_eq_true, Nat.reduceAdd]
        · simp (config := { decide := true, maxDischargeDepth := 20 }) only [up2_s, up2_n, upr_s, upr_n, ne_eq, not_false_eq_true, Nat.reduceAdd]
        · simp (config := { decide := true, maxDischargeDepth := 20 }) only [up2_s, up2_n, upr_s, upr_n, ne_eq, not_false_eq_true, Nat.reduceAdd]
    · have ez : Z.2.1 = 0 := by rw [← hSE.1]; exact e0
      have xz : Z.1 = S.1 := (hSE.2.2 e0).1.symm
      have hM' := hM
      obtain ⟨⟨m3, m4, m5, m6⟩, ⟨d0, d1, d2, d3, d4⟩, ⟨c19, c20⟩, mN, mD, mL⟩ := hM'
      have tz : tkB kd 5 Z = true := by rw [← tkB_e hSE]; exact hA.2
      have fz := take_f0 (pl := pl) tz
      have SE1 : SE (takeP kd pl 5 S) (takeP kd pl 5 Z) := SE_take hSE
      have G1 : GS n (takeP kd pl 5 Z) := GS_take hT.2.1 (by decide) hg
      have SE2 : SE (newP kd pl (nwB L (kN c) (vl (takeP kd pl 5 S).1)) (takeP kd pl 5 S)) (newP kd pl (nwM M (kN c) (mv (takeP kd pl 5 Z).1)) (takeP kd pl 5 Z)) := SE_new2 hT SE1 hx1 B1 (fun z => (hCl (by rw [take_l] at z; exact z)).1)
      have G2 : GS n (newP kd pl (nwM M (kN c) (mv (takeP kd pl 5 Z).1)) (takeP kd pl 5 Z)) := GS_new hT.2.1 G1
      have SE3 : SE (intP kd pl vl 0 9 (newP kd pl (nwB L (kN c) (vl (takeP kd pl 5 S).1)) (takeP kd pl 5 S))) (intM kd pl vl 0 9 (newP kd pl (nwM M (kN c) (mv (takeP kd pl 5 Z).1)) (takeP kd pl 5 Z))) := SE_int SE2
      have G3 : GS n (intM kd pl vl 0 9 (newP kd pl (nwM M (kN c) (mv (takeP kd pl 5 Z).1)) (takeP kd pl 5 Z))) := GS_int hT.2.1 G2
      have SE4 : SE (intP kd pl vl 0 9 (intP kd pl vl 0 9 (newP kd pl (nwB L (kN c) (vl (takeP kd pl 5 S).1)) (takeP kd pl 5 S)))) (intM kd pl vl 0 9 (intM kd pl vl 0 9 (newP kd pl (nwM M (kN c) (mv (takeP kd pl 5 Z).1)) (takeP kd pl 5 Z)))) := SE_int SE3
      have G4 : GS n (intM kd pl vl 0 9 (intM kd pl vl 0 9 (newP kd pl (nwM M (kN c) (mv (takeP kd pl 5 Z).1)) (takeP kd pl 5 Z)))) := GS_int hT.2.1 G3
      have SE5 : SE (intP kd pl vl 0 9 (intP kd pl vl 0 9 (intP kd pl vl 0 9 (newP kd pl (nwB L (kN c) (vl (takeP kd pl 5 S).1)) (takeP kd pl 5 S))))) (intM kd pl vl 0 9 (intM kd pl vl 0 9 (intM kd pl vl 0 9 (newP kd pl (nwM M (kN c) (mv (takeP kd pl 5 Z).1)) (takeP kd pl 5 Z))))) := SE_int SE4
      have G5 : GS n (intM kd pl vl 0 9 (intM kd pl vl 0 9 (intM kd pl vl 0 9 (newP kd pl (nwM M (kN c) (mv (takeP kd pl 5 Z).1)) (takeP kd pl 5 Z))))) := GS_int hT.2.1 G4
      have SE6 : SE (intP kd pl vl 0 9 (intP kd pl vl 0 9 (intP kd pl vl 0 9 (intP kd pl vl 0 9 (newP kd pl (nwB L (kN c) (vl (takeP kd pl 5 S).1)) (takeP kd pl 5 S)))))) (intM kd pl vl 0 9 (intM kd pl vl 0 9 (intM kd pl vl 0 9 (intM kd pl vl 0 9 (newP kd pl (nwM M (kN c) (mv (takeP kd pl 5 Z).1)) (takeP kd pl 5 Z)))))) := SE_int SE5
      have G6 : GS n (intM kd pl vl 0 9 (intM kd pl vl 0 9 (intM kd pl vl 0 9 (intM kd pl vl 0 9 (newP kd pl (nwM M (kN c) (mv (takeP kd pl 5 Z).1)) (takeP kd pl 5 Z)))))) := GS_int hT.2.1 G5
      have SE7 : SE (intP kd pl vl 0 9 (intP kd pl vl 0 9 (intP kd pl vl 0 9 (intP kd pl vl 0 9 (intP kd pl vl 0 9 (newP kd pl (nwB L (kN c) (vl (takeP kd pl 5 S).1)) (takeP kd pl 5 S))))))) (intM kd pl vl 0 9 (intM kd pl vl 0 9 (intM kd pl vl 0 9 (intM kd pl vl 0 9 (intM kd pl vl 0 9 (newP kd pl (nwM M (kN c) (mv (takeP kd pl 5 Z).1)) (takeP kd pl 5 Z))))))) := SE_int SE6
      have G7 : GS n (intM kd pl vl 0 9 (intM kd pl vl 0 9 (intM kd pl vl 0 9 (intM kd pl vl 0 9 (intM kd pl vl 0 9 (newP kd pl (nwM M (kN c) (mv (takeP kd pl 5 Z).1)) (takeP kd pl 5 Z))))))) := GS_int hT.2.1 G6
      have SE8 : SE (intP kd pl vl 0 9 (intP kd pl vl 0 9 (intP kd pl vl 0 9 (intP kd pl vl 0 9 (intP kd pl vl 0 9 (intP kd pl vl 0 9 (newP kd pl (nwB L (kN c) (vl (takeP kd pl 5 S).1)) (takeP kd pl 5 S)))))))) (intM kd pl vl 0 9 (intM kd pl vl 0 9 (intM kd pl vl 0 9 (intM kd pl vl 0 9 (intM kd pl vl 0 9 (intM kd pl vl 0 9 (newP kd pl (nwM M (kN c) (mv (takeP kd pl 5 Z).1)) (takeP kd pl 5 Z)))))))) := SE_int SE7
      have G8 : GS n (intM kd pl vl 0 9 (intM kd pl vl 0 9 (intM kd pl vl 0 9 (intM kd pl vl 0 9 (intM kd pl vl 0 9 (intM kd pl vl 0 9 (newP kd pl (nwM M (kN c) (mv (takeP kd pl 5 Z).1)) (takeP kd pl 5 Z)))))))) := GS_int hT.2.1 G7
      have SEP : SE (takeP kd pl 25 (intP kd pl vl 0 9 (intP kd pl vl 0 9 (intP kd pl vl 0 9 (intP kd pl vl 0 9 (intP kd pl vl 0 9 (intP kd pl vl 0 9 (newP kd pl (nwB L (kN c) (vl (takeP kd pl 5 S).1)) (takeP kd pl 5 S))))))))) (takeP kd pl 25 (intM kd pl vl 0 9 (intM kd pl vl 0 9 (intM kd pl vl 0 9 (intM kd pl vl 0 9 (intM kd pl vl 0 9 (intM kd pl vl 0 9 (newP kd pl (nwM M (kN c) (mv (takeP kd pl 5 Z).1)) (takeP kd pl 5 Z))))))))) := SE_take SE8
      have GP : GS n (takeP kd pl 25 (intM kd pl vl 0 9 (intM kd pl vl 0 9 (intM kd pl vl 0 9 (intM kd pl vl 0 9 (intM kd pl vl 0 9 (intM kd pl vl 0 9 (newP kd pl (nwM M (kN c) (mv (takeP kd pl 5 Z).1)) (takeP kd pl 5 Z))))))))) := GS_take hT.2.1 (by decide) G8
      have y1 := inT (a := Z.1) (N := 403) (by have := hT.1.1; omega) (by decide)
      have y2 := nI_clamp (n := Z.1) (by have := hT.1.1; omega)
      have w1 := inT (a := sd) (N := 2) (by omega) (by decide)
      have w2 := nI_clamp (n := sd) (by omega)
      have y3 : M3 Z.1 = 25 := by rw [(hT.2.1.2.1 Z.1 hg.1).1, xz, hq]; rfl
      have c1 : c 4 < 100 := by omega
      have ne : (c 4 = 4) = False := eq_false (by omega)
      have tg : goP pl Z = (takeP kd pl 5 Z) := by rw [take_is, if_pos (by unfold isP; rw [decide_eq_true ez, decide_eq_true (xz ▸ hq)]; rfl)]
      have ff : ∀ Q2 : PQ, _ := fun Q2 => m_tellDie (t := t) (u := u) (J := J) (L := M) (Q := Q2) (S := (takeP kd pl 5 Z)) hT.2.1 m3 m4 m5 m6 c20 c19 hd kb' G1 d4 hlt
      simp (config := { decide := true, maxDischargeDepth := 20 }) only [↓reduceIte, KV_i, KV_v, wsm_0, wsm_i, wsm_l, wsm_r, dlV_i, dlV_r, dlV_l, dlV_j, cat_i, cat_l, cat_r, rf_s, true_and, and_true, and_self, if_true, if_false, ite_true, ite_false, eq_self, true_or, or_true, false_or, or_false, not_true_eq_false, not_false_eq_true, vn_0_45, vn_1_45, vn_2_45, vn_3_45, vn_4_45, vn_5_45, vn_6_45, vn_7_45, vn_8_45, vn_36_48, vn_37_48, vn_38_48, vn_39_48, vn_40_48, vn_41_48, vn_42_48, vn_43_48, vn_44_48, vn_0_9, vn_1_9, vn_2_9, vn_3_9, vn_4_9, vn_5_9, vn_6_9, vn_7_9, vn_8_9, vn_0_3, vn_1_3, vn_2_3, vn_0_4, vn_1_4, vn_2_4, vn_3_4, vn_0_64, vn_0_16, vn_0_400, vn_0_6, vn_0_14, Int32.reduceToNatClampNeg, Int32.reduceAdd, Int32.reduceSub, Int32.reduceMul, Int32.reduceLE, Int32.reduceLT, Nat.reduceAdd, nr_2, nr_30, nr_31, rd_2, rd_14, rd_71, rd_72, rd_101, rd_116, rd_121, up2_s, up2_n, upr_s, upr_n, ne_eq, not_false_eq_true, ob_70, rx_70_1, rx_70_3, rx_70_5, rx_70_6, rx_70_7, rx_70_8, rx_70_9, rx_70_21, rx_70_22, rx_70_23, rx_70_24, rx_70_25, rx_70_26, rx_70_27, rx_70_28, rx_70_29, rx_70_30, rx_70_31, rx_70_32, rx_70_33, rx_70_34, rx_70_35, rx_70_36, rx_70_37, rx_70_38, rx_70_39, rx_70_40, rx_70_41, rx_70_42, rx_70_43, rx_70_45, rx_70_46, rx_70_47, rx_70_48, rx_70_49, rx_70_51, rx_70_52, rx_70_53, rx_70_55, rx_70_56, rx_70_58, rx_70_59, rx_70_60, rx_70_61, rx_70_63, rx_70_64, rx_70_65, rx_70_70, rx_70_71, rx_70_72, rx_70_73, rx_70_74, r159_0, r159_1, r159_4, r159_5, r159_8, r159_68, r159_69, r159_70, r159_73, r159_74, r159_77, r159_78, r159_80, r159_83, r159_84, r159_87, r159_90, r159_91, r159_94, r159_97, r159_98, r159_99, r159_102, r159_103, r159_106, r159_107, r159_109, r159_112, r159_113, r159_116, r159_119, r159_120, r159_123, r159_126, r159_127, r159_128, r159_131, r159_132, r159_135, r159_136, r159_138, r159_141, r159_142, r159_145, r159_148, r159_149, r159_152, r159_155, r159_156, r159_157, r159_160, r159_161, r159_164, r159_165, r159_167, r159_170, r159_171, r159_174, r159_177, r159_178, r159_181, r159_184, r159_185, r159_186, r159_189, r159_190, r159_193, r159_194, r159_195, r159_198, r159_199, r159_202, r159_205, r159_206, r159_209, r159_212, r159_213, r159_214, r159_217, r159_218, r159_221, r159_222, r159_223, r159_226, r159_227, r159_230, r159_233, r159_234, r159_237, r159_240, r159_241, r159_244, r159_245, r159_248, r159_249, r159_252, r159_253, r159_254, r159_257, r159_260, r159_261, r159_262, r159_263, r159_266, r159_269, r159_270, r159_273, r159_274, r159_277, r159_278, r159_280, r159_281, r159_282, r159_283, r159_286, r159_287, r159_290, r159_291, r159_294, r159_295, r159_297, r159_300, r159_301, r159_302, r159_305, r159_306, r159_309, r159_312, r159_313, r159_314, r159_317, r159_318, r159_319, r159_322, r159_9, tg_73, ln_73, tg_96, ln_96, wm_11, wm_13, wm_14, wm_15, wm_16, wm_4, wm_12, wm_18, wm_19, wm_20, wm_44, wm_50, wm_54, wm_n, wm_up, wm_u11, wm_u13, wm_u14, wm_u15, wm_u16, wm_u12, wm_u18, wm_u19, wm_u20, wm_u44, wm_u50, wm_u54, m_room_4 hT.2.1, m3, m4, c19, d4, hg, ez, c1, ne, y1, y2, w1, w2, y3, tg, fz, ff]
      cases e5 : tkB kd 25 (intM kd pl vl 0 9 (intM kd pl vl 0 9 (intM kd pl vl 0 9 (intM kd pl vl 0 9 (intM kd pl vl 0 9 (intM kd pl vl 0 9 (newP kd pl (nwM M (kN c) (mv (takeP kd pl 5 Z).1)) (takeP kd pl 5 Z))))))))
      · rw [if_neg (by decide)]
        refine hQm _ _ _ SEP GP ?_ (fun _ _ _ => rfl) (fun f => ?_)
        · repeat' (first | exact FRM_r _ _ | (refine FRM_u ?_ (by first | exact np_79 | exact np_80 | exact np_20 | exact np_81 hd | exact np_88 hd | exact np_91 hd | exact np_94 hd | exact np_96 hd | exact np_98 hd | exact np_82 hd hlt | exact np_83 hd hlt | exact np_84 hd hlt | exact np_85 hd hlt | exact np_89 hd hlt | exact np_90 hd hlt | exact np_92 hd hlt | exact np_93 hd hlt | exact np_95 hd hlt | exact np_97_0 hd hlt | exact np_97_1 hd hlt | exact np_97_2 hd hlt | exact np_97_3 hd hlt | exact np_97_4 hd hlt | exact np_97_5 hd hlt)))
        · have tP := take_0 f
          exact absurd (tP.2.2.2.2.symm.trans ((tkB_e SE8).trans e5)) (by decide)
      · rw [if_pos rfl]
        refine hQm _ _ _ SEP GP ?_ (FRL_u (fun _ _ _ => rfl)) (fun f => ?_)
        · repeat' (first | exact FRM_r _ _ | (refine FRM_u ?_ (by first | exact np_79 | exact np_80 | exact np_20 | exact np_81 hd | exact np_88 hd | exact np_91 hd | exact np_94 hd | exact np_96 hd | exact np_98 hd | exact np_82 hd hlt | exact np_83 hd hlt | exact np_84 hd hlt | exact np_85 hd hlt | exact np_89 hd hlt | exact np_90 hd hlt | exact np_92 hd hlt | exact np_93 hd hlt | exact np_95 hd hlt | exact np_97_0 hd hlt | exact np_97_1 hd hlt | exact np_97_2 hd hlt | exact np_97_3 hd hlt | exact np_97_4 hd hlt | exact np_97_5 hd hlt)))
        · have tP := take_0 f
          have i6 := int_0 tP.2.1
          have i5 := int_0 i6.2.1
          have i4 := int_0 i5.2.1
          have i3 := int_0 i4.2.1
          have i2 := int_0 i3.2.1
          have i1 := int_0 i2.2.1
          have nn := new_0 i1.2.1
          have yP : (takeP kd pl 25 (intP kd pl vl 0 9 (intP kd pl vl 0 9 (intP kd pl vl 0 9 (intP kd pl vl 0 9 (intP kd pl vl 0 9 (intP kd pl vl 0 9 (newP kd pl (nwB L (kN c) (vl (takeP kd pl 5 S).1)) (takeP kd pl 5 S))))))))).1 = (intP kd pl vl 0 9 (intP kd pl vl 0 9 (intP kd pl vl 0 9 (intP kd pl vl 0 9 (intP kd pl vl 0 9 (intP kd pl vl 0 9 (newP kd pl (nwB L (kN c) (vl (takeP kd pl 5 S).1)) (takeP kd pl 5 S)))))))).1 + 1 := by rw [tP.1]
          have lt : S.1 < (takeP kd pl 25 (intP kd pl vl 0 9 (intP kd pl vl 0 9 (intP kd pl vl 0 9 (intP kd pl vl 0 9 (intP kd pl vl 0 9 (intP kd pl vl 0 9 (newP kd pl (nwB L (kN c) (vl (takeP kd pl 5 S).1)) (takeP kd pl 5 S))))))))).1 := by
            have := i1.1
            have := i2.1
            have := i3.1
            have := i4.1
            have := i5.1
            have := i6.1
            have := nn.1
            omega
          refine ⟨MW_name hM (k := 4) (by decide) ?_ ?_ ?_ ?_ ?_ ?_ ?_ ?_ ?_ ?_ ?_ ?_ ?_ ?_ ?_ (by omega), fun lz => ?_⟩
          · simp (config := { decide := true, maxDischargeDepth := 20 }) only [up2_s, up2_n, upr_s, upr_n, ne_eq, not_false_eq_true, Nat.reduceAdd]
          · simp (config := { decide := true, maxDischargeDepth := 20 }) only [up2_s, up2_n, upr_s, upr_n, ne_eq, not_false_eq_true, Nat.reduceAdd]
          · simp (config := { decide := true, maxDischargeDepth := 20 }) only [up2_s, up2_n, upr_s, upr_n, ne_eq, not_false_eq_true, Nat.reduceAdd]
          · simp (config := { decide := true, maxDischargeDepth := 20 }) only [up2_s, up2_n, upr_s, upr_n, ne_eq, not_false_eq_true, Nat.reduceAdd]
          · intro z hz
            have h5 : z = 0 ∨ z = 1 ∨ z = 2 ∨ z = 3 ∨ z = 4 := by omega
            have r0 : rwN 0 = 81 := rfl
            have r1 : rwN 1 = 88 := rfl
            have r2 : rwN 2 = 91 := rfl
            have r3 : rwN 3 = 94 := rfl
            have r4 : rwN 4 = 96 := rfl
            rcases h5 with rfl | rfl | rfl | rfl | rfl <;> simp (config := { decide := true, maxDischargeDepth := 20 }) only [up2_s, up2_n, upr_s, upr_n, ne_eq, not_false_eq_true, Nat.reduceAdd, r0, r1, r2, r3, r4, ↓reduceIte]
          · simp (config := { decide := true, maxDischargeDepth := 20 }) only [up2_s, up2_n, upr_s, upr_n, ne_eq, not_false_eq_true, Nat.reduceAdd]
          · simp (config := { decide := true, maxDischargeDepth := 20 }) only [up2_s, up2_n, upr_s, upr_n, ne_eq, not_false_eq_true, Nat.reduceAdd]
          · simp (config := { decide := true, maxDischargeDepth := 20 }) only [up2_s, up2_n, upr_s, upr_n, ne_eq, not_false_eq_true, Nat.reduceAdd]; try rfl
          · simp (config := { decide := true, maxDischargeDepth := 20 }) only [up2_s, up2_n, upr_s, upr_n, ne_eq, not_false_eq_true, Nat.reduceAdd]
          · intro j hj
            simp (config := { decide := true, maxDischargeDepth := 20 }) only [up2_s, up2_n, upr_s, upr_n, ne_eq, not_false_eq_true, Nat.reduceAdd]
          · intro z; exact absurd z (by decide)
          · simp (config := { decide := true, maxDischargeDepth := 20 }) only [up2_s, up2_n, upr_s, upr_n, ne_eq, not_false_eq_true, Nat.reduceAdd]
          · simp (config := { decide := true, maxDischargeDepth := 20 }) only [up2_s, up2_n, upr_s, upr_n, ne_eq, not_false_eq_true, Nat.reduceAdd]
          · simp (config := { decide := true, maxDischargeDepth := 20 }) only [up2_s, up2_n, upr_s, upr_n, ne_eq, not_false_eq_true, Nat.reduceAdd]
          · intro a h1 h2
            rw [up2_n (by omega), up2_n (by omega), up2_n (by omega), up2_n (by omega), up2_n (by omega), up2_n (by omega), up2_n (by omega), up2_n (by omega), up2_n (by omega), up2_n (by omega)]
          · have lP : (intP kd pl vl 0 9 (intP kd pl vl 0 9 (intP kd pl vl 0 9 (intP kd pl vl 0 9 (intP kd pl vl 0 9 (intP kd pl vl 0 9 (newP kd pl (nwB L (kN c) (vl (takeP kd pl 5 S).1)) (takeP kd pl 5 S)))))))).2.2.2.1 = 0 := by rw [take_l] at lz; exact lz
            have v6 := iv_0 (lo' := 0) SE7 (lo := 0) (hi := 9) tP.2.1
            have w6 := ib_0_9 hT.2.2.1 (S := (intP kd pl vl 0 9 (intP kd pl vl 0 9 (intP kd pl vl 0 9 (intP kd pl vl 0 9 (intP kd pl vl 0 9 (newP kd pl (nwB L (kN c) (vl (takeP kd pl 5 S).1)) (takeP kd pl 5 S)))))))) tP.2.1 lP
            have L6 := (i6.2.2.2.2.2 lP).1
            have v5 := iv_0 (lo' := 0) SE6 (lo := 0) (hi := 9) i6.2.1
            have w5 := ib_0_9 hT.2.2.1 (S := (intP kd pl vl 0 9 (intP kd pl vl 0 9 (intP kd pl vl 0 9 (intP kd pl vl 0 9 (newP kd pl (nwB L (kN c) (vl (takeP kd pl 5 S).1)) (takeP kd pl 5 S))))))) i6.2.1 L6
            have L5 := (i5.2.2.2.2.2 L6).1
            have v4 := iv_0 (lo' := 0) SE5 (lo := 0) (hi := 9) i5.2.1
            have w4 := ib_0_9 hT.2.2.1 (S := (intP kd pl vl 0 9 (intP kd pl vl 0 9 (intP kd pl vl 0 9 (newP kd pl (nwB L (kN c) (vl (takeP kd pl 5 S).1)) (takeP kd pl 5 S)))))) i5.2.1 L5
            have L4 := (i4.2.2.2.2.2 L5).1
            have v3 := iv_0 (lo' := 0) SE4 (lo := 0) (hi := 9) i4.2.1
            have w3 := ib_0_9 hT.2.2.1 (S := (intP kd pl vl 0 9 (intP kd pl vl 0 9 (newP kd pl (nwB L (kN c) (vl (takeP kd pl 5 S).1)) (takeP kd pl 5 S))))) i4.2.1 L4
            have L3 := (i3.2.2.2.2.2 L4).1
            have v2 := iv_0 (lo' := 0) SE3 (lo := 0) (hi := 9) i3.2.1
            have w2 := ib_0_9 hT.2.2.1 (S := (intP kd pl vl 0 9 (newP kd pl (nwB L (kN c) (vl (takeP kd pl 5 S).1)) (takeP kd pl 5 S)))) i3.2.1 L3
            have L2 := (i2.2.2.2.2.2 L3).1
            have v1 := iv_0 (lo' := 0) SE2 (lo := 0) (hi := 9) i2.2.1
            have w1 := ib_0_9 hT.2.2.1 (S := (newP kd pl (nwB L (kN c) (vl (takeP kd pl 5 S).1)) (takeP kd pl 5 S))) i2.2.1 L2
            have L1 := (i1.2.2.2.2.2 L2).1
            have ln := nn.2.2.2.2.2 L1
            have l0' : S.2.2.2.1 = 0 := by have := ln.1; rw [take_l] at this; exact this
            obtain ⟨hN, hP, hMe, hLe, hCr, hDi, hSe⟩ := hCl l0'
            have xz1 : (takeP kd pl 5 Z).1 = (takeP kd pl 5 S).1 := (SE1.2.2 nn.2.1).1.symm
            have k6 : M6 (takeP kd pl 5 Z).1 = lN (mv (takeP kd pl 5 S).1) := by rw [(hT.2.1.2.1 _ G1.1).2.2.2 (by rw [xz1]; exact nn.2.2.1), xz1]
            have nv : newV kd vl (takeP kd pl 5 S) = lN (vl (takeP kd pl 5 S).1) := if_pos nn.2.2.2.2.1
            have nmk := Nam_ap hN nn.2.2.1 ln.2
            rcases hs with rfl | rfl
            · refine ⟨?_, ?_, ?_, ?_, ?_, ?_, ?_⟩
              · rw [kN_up (by decide)]
                simp (config := { decide := true, maxDischargeDepth := 20 }) only [up2_s, up2_n, upr_s, upr_n, ne_eq, not_false_eq_true, Nat.reduceAdd, k6, nv]
                exact nmk
              · simp (config := { decide := true, maxDischargeDepth := 20 }) only [up2_s, up2_n, upr_s, upr_n, ne_eq, not_false_eq_true, Nat.reduceAdd]
                exact hP
              · simp (config := { decide := true, maxDischargeDepth := 20 }) only [up2_s, up2_n, upr_s, upr_n, ne_eq, not_false_eq_true, Nat.reduceAdd]
                exact hMe
              · simp (config := { decide := true, maxDischargeDepth := 20 }) only [up2_s, up2_n, upr_s, upr_n, ne_eq, not_false_eq_true, Nat.reduceAdd]
                exact hLe
              · simp (config := { decide := true, maxDischargeDepth := 20 }) only [up2_s, up2_n, upr_s, upr_n, ne_eq, not_false_eq_true, Nat.reduceAdd]
                exact hCr
              · intro i hi
                have hi' : i < 6 * (c 4 + 1) := hi
                by_cases ei : i < 6 * c 4
                · have ec0 : i ≠ 6 * c 4 := by omega
                  have em0 : 24 * sd + i ≠ 6 * (4 * sd + c 4) := by omega
                  have ec1 : i ≠ 6 * c 4 + 1 := by omega
                  have em1 : 24 * sd + i ≠ 6 * (4 * sd + c 4) + 1 := by omega
                  have ec2 : i ≠ 6 * c 4 + 2 := by omega
                  have em2 : 24 * sd + i ≠ 6 * (4 * sd + c 4) + 2 := by omega
                  have ec3 : i ≠ 6 * c 4 + 3 := by omega
                  have em3 : 24 * sd + i ≠ 6 * (4 * sd + c 4) + 3 := by omega
                  have ec4 : i ≠ 6 * c 4 + 4 := by omega
                  have em4 : 24 * sd + i ≠ 6 * (4 * sd + c 4) + 4 := by omega
                  have ec5 : i ≠ 6 * c 4 + 5 := by omega
                  have em5 : 24 * sd + i ≠ 6 * (4 * sd + c 4) + 5 := by omega
                  simp (config := { decide := true, maxDischargeDepth := 20 }) only [up2_s, up2_n, upr_s, upr_n, ne_eq, not_false_eq_true, Nat.reduceAdd, ec0, em0, ec1, em1, ec2, em2, ec3, em3, ec4, em4, ec5, em5]
                  exact hDi i ei
                · have h6 : i = 6 * c 4 ∨ i = 6 * c 4 + 1 ∨ i = 6 * c 4 + 2 ∨ i = 6 * c 4 + 3 ∨ i = 6 * c 4 + 4 ∨ i = 6 * c 4 + 5 := by omega
                  have nc01 : 6 * c 4 ≠ 6 * c 4 + 1 := by omega
                  have nm01 : 6 * (4 * sd + c 4) ≠ 6 * (4 * sd + c 4) + 1 := by omega
                  have nc02 : 6 * c 4 ≠ 6 * c 4 + 2 := by omega
                  have nm02 : 6 * (4 * sd + c 4) ≠ 6 * (4 * sd + c 4) + 2 := by omega
                  have nc03 : 6 * c 4 ≠ 6 * c 4 + 3 := by omega
                  have nm03 : 6 * (4 * sd + c 4) ≠ 6 * (4 * sd + c 4) + 3 := by omega
                  have nc04 : 6 * c 4 ≠ 6 * c 4 + 4 := by omega
                  have nm04 : 6 * (4 * sd + c 4) ≠ 6 * (4 * sd + c 4) + 4 := by omega
                  have nc05 : 6 * c 4 ≠ 6 * c 4 + 5 := by omega
                  have nm05 : 6 * (4 * sd + c 4) ≠ 6 * (4 * sd + c 4) + 5 := by omega
                  have ex0 : 24 * sd + (6 * c 4) = 6 * (4 * sd + c 4) := by omega
                  have nc10 : 6 * c 4 + 1 ≠ 6 * c 4 := by omega
                  have nm10 : 6 * (4 * sd + c 4) + 1 ≠ 6 * (4 * sd + c 4) := by omega
                  have nc12 : 6 * c 4 + 1 ≠ 6 * c 4 + 2 := by omega
                  have nm12 : 6 * (4 * sd + c 4) + 1 ≠ 6 * (4 * sd + c 4) + 2 := by omega
                  have nc13 : 6 * c 4 + 1 ≠ 6 * c 4 + 3 := by omega
                  have nm13 : 6 * (4 * sd + c 4) + 1 ≠ 6 * (4 * sd + c 4) + 3 := by omega
                  have nc14 : 6 * c 4 + 1 ≠ 6 * c 4 + 4 := by omega
                  have nm14 : 6 * (4 * sd + c 4) + 1 ≠ 6 * (4 * sd + c 4) + 4 := by omega
                  have nc15 : 6 * c 4 + 1 ≠ 6 * c 4 + 5 := by omega
                  have nm15 : 6 * (4 * sd + c 4) + 1 ≠ 6 * (4 * sd + c 4) + 5 := by omega
                  have ex1 : 24 * sd + (6 * c 4 + 1) = 6 * (4 * sd + c 4) + 1 := by omega
                  have nc20 : 6 * c 4 + 2 ≠ 6 * c 4 := by omega
                  have nm20 : 6 * (4 * sd + c 4) + 2 ≠ 6 * (4 * sd + c 4) := by omega
                  have nc21 : 6 * c 4 + 2 ≠ 6 * c 4 + 1 := by omega
                  have nm21 : 6 * (4 * sd + c 4) + 2 ≠ 6 * (4 * sd + c 4) + 1 := by omega
                  have nc23 : 6 * c 4 + 2 ≠ 6 * c 4 + 3 := by omega
                  have nm23 : 6 * (4 * sd + c 4) + 2 ≠ 6 * (4 * sd + c 4) + 3 := by omega
                  have nc24 : 6 * c 4 + 2 ≠ 6 * c 4 + 4 := by omega
                  have nm24 : 6 * (4 * sd + c 4) + 2 ≠ 6 * (4 * sd + c 4) + 4 := by omega
                  have nc25 : 6 * c 4 + 2 ≠ 6 * c 4 + 5 := by omega
                  have nm25 : 6 * (4 * sd + c 4) + 2 ≠ 6 * (4 * sd + c 4) + 5 := by omega
                  have ex2 : 24 * sd + (6 * c 4 + 2) = 6 * (4 * sd + c 4) + 2 := by omega
                  have nc30 : 6 * c 4 + 3 ≠ 6 * c 4 := by omega
                  have nm30 : 6 * (4 * sd + c 4) + 3 ≠ 6 * (4 * sd + c 4) := by omega
                  have nc31 : 6 * c 4 + 3 ≠ 6 * c 4 + 1 := by omega
                  have nm31 : 6 * (4 * sd + c 4) + 3 ≠ 6 * (4 * sd + c 4) + 1 := by omega
                  have nc32 : 6 * c 4 + 3 ≠ 6 * c 4 + 2 := by omega
                  have nm32 : 6 * (4 * sd + c 4) + 3 ≠ 6 * (4 * sd + c 4) + 2 := by omega
                  have nc34 : 6 * c 4 + 3 ≠ 6 * c 4 + 4 := by omega
                  have nm34 : 6 * (4 * sd + c 4) + 3 ≠ 6 * (4 * sd + c 4) + 4 := by omega
                  have nc35 : 6 * c 4 + 3 ≠ 6 * c 4 + 5 := by omega
                  have nm35 : 6 * (4 * sd + c 4) + 3 ≠ 6 * (4 * sd + c 4) + 5 := by omega
                  have ex3 : 24 * sd + (6 * c 4 + 3) = 6 * (4 * sd + c 4) + 3 := by omega
                  have nc40 : 6 * c 4 + 4 ≠ 6 * c 4 := by omega
                  have nm40 : 6 * (4 * sd + c 4) + 4 ≠ 6 * (4 * sd + c 4) := by omega
                  have nc41 : 6 * c 4 + 4 ≠ 6 * c 4 + 1 := by omega
                  have nm41 : 6 * (4 * sd + c 4) + 4 ≠ 6 * (4 * sd + c 4) + 1 := by omega
                  have nc42 : 6 * c 4 + 4 ≠ 6 * c 4 + 2 := by omega
                  have nm42 : 6 * (4 * sd + c 4) + 4 ≠ 6 * (4 * sd + c 4) + 2 := by omega
                  have nc43 : 6 * c 4 + 4 ≠ 6 * c 4 + 3 := by omega
                  have nm43 : 6 * (4 * sd + c 4) + 4 ≠ 6 * (4 * sd + c 4) + 3 := by omega
                  have nc45 : 6 * c 4 + 4 ≠ 6 * c 4 + 5 := by omega
                  have nm45 : 6 * (4 * sd + c 4) + 4 ≠ 6 * (4 * sd + c 4) + 5 := by omega
                  have ex4 : 24 * sd + (6 * c 4 + 4) = 6 * (4 * sd + c 4) + 4 := by omega
                  have nc50 : 6 * c 4 + 5 ≠ 6 * c 4 := by omega
                  have nm50 : 6 * (4 * sd + c 4) + 5 ≠ 6 * (4 * sd + c 4) := by omega
                  have nc51 : 6 * c 4 + 5 ≠ 6 * c 4 + 1 := by omega
                  have nm51 : 6 * (4 * sd + c 4) + 5 ≠ 6 * (4 * sd + c 4) + 1 := by omega
                  have nc52 : 6 * c 4 + 5 ≠ 6 * c 4 + 2 := by omega
                  have nm52 : 6 * (4 * sd + c 4) + 5 ≠ 6 * (4 * sd + c 4) + 2 := by omega
                  have nc53 : 6 * c 4 + 5 ≠ 6 * c 4 + 3 := by omega
                  have nm53 : 6 * (4 * sd + c 4) + 5 ≠ 6 * (4 * sd + c 4) + 3 := by omega
                  have nc54 : 6 * c 4 + 5 ≠ 6 * c 4 + 4 := by omega
                  have nm54 : 6 * (4 * sd + c 4) + 5 ≠ 6 * (4 * sd + c 4) + 4 := by omega
                  have ex5 : 24 * sd + (6 * c 4 + 5) = 6 * (4 * sd + c 4) + 5 := by omega
                  rcases h6 with rfl | rfl | rfl | rfl | rfl | rfl
                  · simp (config := { decide := true, maxDischargeDepth := 20 }) only [up2_s, up2_n, upr_s, upr_n, ne_eq, not_false_eq_true, Nat.reduceAdd, ex0, nc01, nm01, nc02, nm02, nc03, nm03, nc04, nm04, nc05, nm05, v1.1, v1.2]
                    exact ⟨⟨_, w1.2, rfl⟩, by simp⟩
                  · simp (config := { decide := true, maxDischargeDepth := 20 }) only [up2_s, up2_n, upr_s, upr_n, ne_eq, not_false_eq_true, Nat.reduceAdd, ex1, nc10, nm10, nc12, nm12, nc13, nm13, nc14, nm14, nc15, nm15, v2.1, v2.2]
                    exact ⟨⟨_, w2.2, rfl⟩, by simp⟩
                  · simp (config := { decide := true, maxDischargeDepth := 20 }) only [up2_s, up2_n, upr_s, upr_n, ne_eq, not_false_eq_true, Nat.reduceAdd, ex2, nc20, nm20, nc21, nm21, nc23, nm23, nc24, nm24, nc25, nm25, v3.1, v3.2]
                    exact ⟨⟨_, w3.2, rfl⟩, by simp⟩
                  · simp (config := { decide := true, maxDischargeDepth := 20 }) only [up2_s, up2_n, upr_s, upr_n, ne_eq, not_false_eq_true, Nat.reduceAdd, ex3, nc30, nm30, nc31, nm31, nc32, nm32, nc34, nm34, nc35, nm35, v4.1, v4.2]
                    exact ⟨⟨_, w4.2, rfl⟩, by simp⟩
                  · simp (config := { decide := true, maxDischargeDepth := 20 }) only [up2_s, up2_n, upr_s, upr_n, ne_eq, not_false_eq_true, Nat.reduceAdd, ex4, nc40, nm40, nc41, nm41, nc42, nm42, nc43, nm43, nc45, nm45, v5.1, v5.2]
                    exact ⟨⟨_, w5.2, rfl⟩, by simp⟩
                  · simp (config := { decide := true, maxDischargeDepth := 20 }) only [up2_s, up2_n, upr_s, upr_n, ne_eq, not_false_eq_true, Nat.reduceAdd, ex5, nc50, nm50, nc51, nm51, nc52, nm52, nc53, nm53, nc54, nm54, v6.1, v6.2]
                    exact ⟨⟨_, w6.2, rfl⟩, by simp⟩
              · simp (config := { decide := true, maxDischargeDepth := 20 }) only [up2_s, up2_n, upr_s, upr_n, ne_eq, not_false_eq_true, Nat.reduceAdd]
                exact hSe
            · refine ⟨?_, ?_, ?_, ?_, ?_, ?_, ?_⟩
              · rw [kN_up (by decide)]
                simp (config := { decide := true, maxDischargeDepth := 20 }) only [up2_s, up2_n, upr_s, upr_n, ne_eq, not_false_eq_true, Nat.reduceAdd, k6, nv]
                exact nmk
              · simp (config := { decide := true, maxDischargeDepth := 20 }) only [up2_s, up2_n, upr_s, upr_n, ne_eq, not_false_eq_true, Nat.reduceAdd]
                exact hP
              · simp (config := { decide := true, maxDischargeDepth := 20 }) only [up2_s, up2_n, upr_s, upr_n, ne_eq, not_false_eq_true, Nat.reduceAdd]
                exact hMe
              · simp (config := { decide := true, maxDischargeDepth := 20 }) only [up2_s, up2_n, upr_s, upr_n, ne_eq, not_false_eq_true, Nat.reduceAdd]
                exact hLe
              · simp (config := { decide := true, maxDischargeDepth := 20 }) only [up2_s, up2_n, upr_s, upr_n, ne_eq, not_false_eq_true, Nat.reduceAdd]
                exact hCr
              · intro i hi
                have hi' : i < 6 * (c 4 + 1) := hi
                by_cases ei : i < 6 * c 4
                · have ec0 : i ≠ 6 * c 4 := by omega
                  have em0 : 24 * sd + i ≠ 6 * (4 * sd + c 4) := by omega
                  have ec1 : i ≠ 6 * c 4 + 1 := by omega
                  have em1 : 24 * sd + i ≠ 6 * (4 * sd + c 4) + 1 := by omega
                  have ec2 : i ≠ 6 * c 4 + 2 := by omega
                  have em2 : 24 * sd + i ≠ 6 * (4 * sd + c 4) + 2 := by omega
                  have ec3 : i ≠ 6 * c 4 + 3 := by omega
                  have em3 : 24 * sd + i ≠ 6 * (4 * sd + c 4) + 3 := by omega
                  have ec4 : i ≠ 6 * c 4 + 4 := by omega
                  have em4 : 24 * sd + i ≠ 6 * (4 * sd + c 4) + 4 := by omega
                  have ec5 : i ≠ 6 * c 4 + 5 := by omega
                  have em5 : 24 * sd + i ≠ 6 * (4 * sd + c 4) + 5 := by omega
                  simp (config := { decide := true, maxDischargeDepth := 20 }) only [up2_s, up2_n, upr_s, upr_n, ne_eq, not_false_eq_true, Nat.reduceAdd, ec0, em0, ec1, em1, ec2, em2, ec3, em3, ec4, em4, ec5, em5]
                  exact hDi i ei
                · have h6 : i = 6 * c 4 ∨ i = 6 * c 4 + 1 ∨ i = 6 * c 4 + 2 ∨ i = 6 * c 4 + 3 ∨ i = 6 * c 4 + 4 ∨ i = 6 * c 4 + 5 := by omega
                  have nc01 : 6 * c 4 ≠ 6 * c 4 + 1 := by omega
                  have nm01 : 6 * (4 * sd + c 4) ≠ 6 * (4 * sd + c 4) + 1 := by omega
                  have nc02 : 6 * c 4 ≠ 6 * c 4 + 2 := by omega
                  have nm02 : 6 * (4 * sd + c 4) ≠ 6 * (4 * sd + c 4) + 2 := by omega
                  have nc03 : 6 * c 4 ≠ 6 * c 4 + 3 := by omega
                  have nm03 : 6 * (4 * sd + c 4) ≠ 6 * (4 * sd + c 4) + 3 := by omega
                  have nc04 : 6 * c 4 ≠ 6 * c 4 + 4 := by omega
                  have nm04 : 6 * (4 * sd + c 4) ≠ 6 * (4 * sd + c 4) + 4 := by omega
                  have nc05 : 6 * c 4 ≠ 6 * c 4 + 5 := by omega
                  have nm05 : 6 * (4 * sd + c 4) ≠ 6 * (4 * sd + c 4) + 5 := by omega
                  have ex0 : 24 * sd + (6 * c 4) = 6 * (4 * sd + c 4) := by omega
                  have nc10 : 6 * c 4 + 1 ≠ 6 * c 4 := by omega
                  have nm10 : 6 * (4 * sd + c 4) + 1 ≠ 6 * (4 * sd + c 4) := by omega
                  have nc12 : 6 * c 4 + 1 ≠ 6 * c 4 + 2 := by omega
                  have nm12 : 6 * (4 * sd + c 4) + 1 ≠ 6 * (4 * sd + c 4) + 2 := by omega
                  have nc13 : 6 * c 4 + 1 ≠ 6 * c 4 + 3 := by omega
                  have nm13 : 6 * (4 * sd + c 4) + 1 ≠ 6 * (4 * sd + c 4) + 3 := by omega
                  have nc14 : 6 * c 4 + 1 ≠ 6 * c 4 + 4 := by omega
                  have nm14 : 6 * (4 * sd + c 4) + 1 ≠ 6 * (4 * sd + c 4) + 4 := by omega
                  have nc15 : 6 * c 4 + 1 ≠ 6 * c 4 + 5 := by omega
                  have nm15 : 6 * (4 * sd + c 4) + 1 ≠ 6 * (4 * sd + c 4) + 5 := by omega
                  have ex1 : 24 * sd + (6 * c 4 + 1) = 6 * (4 * sd + c 4) + 1 := by omega
                  have nc20 : 6 * c 4 + 2 ≠ 6 * c 4 := by omega
                  have nm20 : 6 * (4 * sd + c 4) + 2 ≠ 6 * (4 * sd + c 4) := by omega
                  have nc21 : 6 * c 4 + 2 ≠ 6 * c 4 + 1 := by omega
                  have nm21 : 6 * (4 * sd + c 4) + 2 ≠ 6 * (4 * sd + c 4) + 1 := by omega
                  have nc23 : 6 * c 4 + 2 ≠ 6 * c 4 + 3 := by omega
                  have nm23 : 6 * (4 * sd + c 4) + 2 ≠ 6 * (4 * sd + c 4) + 3 := by omega
                  have nc24 : 6 * c 4 + 2 ≠ 6 * c 4 + 4 := by omega
                  have nm24 : 6 * (4 * sd + c 4) + 2 ≠ 6 * (4 * sd + c 4) + 4 := by omega
                  have nc25 : 6 * c 4 + 2 ≠ 6 * c 4 + 5 := by omega
                  have nm25 : 6 * (4 * sd + c 4) + 2 ≠ 6 * (4 * sd + c 4) + 5 := by omega
                  have ex2 : 24 * sd + (6 * c 4 + 2) = 6 * (4 * sd + c 4) + 2 := by omega
                  have nc30 : 6 * c 4 + 3 ≠ 6 * c 4 := by omega
                  have nm30 : 6 * (4 * sd + c 4) + 3 ≠ 6 * (4 * sd + c 4) := by omega
                  have nc31 : 6 * c 4 + 3 ≠ 6 * c 4 + 1 := by omega
                  have nm31 : 6 * (4 * sd + c 4) + 3 ≠ 6 * (4 * sd + c 4) + 1 := by omega
                  have nc32 : 6 * c 4 + 3 ≠ 6 * c 4 + 2 := by omega
                  have nm32 : 6 * (4 * sd + c 4) + 3 ≠ 6 * (4 * sd + c 4) + 2 := by omega
                  have nc34 : 6 * c 4 + 3 ≠ 6 * c 4 + 4 := by omega
                  have nm34 : 6 * (4 * sd + c 4) + 3 ≠ 6 * (4 * sd + c 4) + 4 := by omega
                  have nc35 : 6 * c 4 + 3 ≠ 6 * c 4 + 5 := by omega
                  have nm35 : 6 * (4 * sd + c 4) + 3 ≠ 6 * (4 * sd + c 4) + 5 := by omega
                  have ex3 : 24 * sd + (6 * c 4 + 3) = 6 * (4 * sd + c 4) + 3 := by omega
                  have nc40 : 6 * c 4 + 4 ≠ 6 * c 4 := by omega
                  have nm40 : 6 * (4 * sd + c 4) + 4 ≠ 6 * (4 * sd + c 4) := by omega
                  have nc41 : 6 * c 4 + 4 ≠ 6 * c 4 + 1 := by omega
                  have nm41 : 6 * (4 * sd + c 4) + 4 ≠ 6 * (4 * sd + c 4) + 1 := by omega
                  have nc42 : 6 * c 4 + 4 ≠ 6 * c 4 + 2 := by omega
                  have nm42 : 6 * (4 * sd + c 4) + 4 ≠ 6 * (4 * sd + c 4) + 2 := by omega
                  have nc43 : 6 * c 4 + 4 ≠ 6 * c 4 + 3 := by omega
                  have nm43 : 6 * (4 * sd + c 4) + 4 ≠ 6 * (4 * sd + c 4) + 3 := by omega
                  have nc45 : 6 * c 4 + 4 ≠ 6 * c 4 + 5 := by omega
                  have nm45 : 6 * (4 * sd + c 4) + 4 ≠ 6 * (4 * sd + c 4) + 5 := by omega
                  have ex4 : 24 * sd + (6 * c 4 + 4) = 6 * (4 * sd + c 4) + 4 := by omega
                  have nc50 : 6 * c 4 + 5 ≠ 6 * c 4 := by omega
                  have nm50 : 6 * (4 * sd + c 4) + 5 ≠ 6 * (4 * sd + c 4) := by omega
                  have nc51 : 6 * c 4 + 5 ≠ 6 * c 4 + 1 := by omega
                  have nm51 : 6 * (4 * sd + c 4) + 5 ≠ 6 * (4 * sd + c 4) + 1 := by omega
                  have nc52 : 6 * c 4 + 5 ≠ 6 * c 4 + 2 := by omega
                  have nm52 : 6 * (4 * sd + c 4) + 5 ≠ 6 * (4 * sd + c 4) + 2 := by omega
                  have nc53 : 6 * c 4 + 5 ≠ 6 * c 4 + 3 := by omega
                  have nm53 : 6 * (4 * sd + c 4) + 5 ≠ 6 * (4 * sd + c 4) + 3 := by omega
                  have nc54 : 6 * c 4 + 5 ≠ 6 * c 4 + 4 := by omega
                  have nm54 : 6 * (4 * sd + c 4) + 5 ≠ 6 * (4 * sd + c 4) + 4 := by omega
                  have ex5 : 24 * sd + (6 * c 4 + 5) = 6 * (4 * sd + c 4) + 5 := by omega
                  rcases h6 with rfl | rfl | rfl | rfl | rfl | rfl
                  · simp (config := { decide := true, maxDischargeDepth := 20 }) only [up2_s, up2_n, upr_s, upr_n, ne_eq, not_false_eq_true, Nat.reduceAdd, ex0, nc01, nm01, nc02, nm02, nc03, nm03, nc04, nm04, nc05, nm05, v1.1, v1.2]
                    exact ⟨⟨_, w1.2, rfl⟩, by simp⟩
                  · simp (config := { decide := true, maxDischargeDepth := 20 }) only [up2_s, up2_n, upr_s, upr_n, ne_eq, not_false_eq_true, Nat.reduceAdd, ex1, nc10, nm10, nc12, nm12, nc13, nm13, nc14, nm14, nc15, nm15, v2.1, v2.2]
                    exact ⟨⟨_, w2.2, rfl⟩, by simp⟩
                  · simp (config := { decide := true, maxDischargeDepth := 20 }) only [up2_s, up2_n, upr_s, upr_n, ne_eq, not_false_eq_true, Nat.reduceAdd, ex2, nc20, nm20, nc21, nm21, nc23, nm23, nc24, nm24, nc25, nm25, v3.1, v3.2]
                    exact ⟨⟨_, w3.2, rfl⟩, by simp⟩
                  · simp (config := { decide := true, maxDischargeDepth := 20 }) only [up2_s, up2_n, upr_s, upr_n, ne_eq, not_false_eq_true, Nat.reduceAdd, ex3, nc30, nm30, nc31, nm31, nc32, nm32, nc34, nm34, nc35, nm35, v4.1, v4.2]
                    exact ⟨⟨_, w4.2, rfl⟩, by simp⟩
                  · simp (config := { decide := true, maxDischargeDepth := 20 }) only [up2_s, up2_n, upr_s, upr_n, ne_eq, not_false_eq_true, Nat.reduceAdd, ex4, nc40, nm40, nc41, nm41, nc42, nm42, nc43, nm43, nc45, nm45, v5.1, v5.2]
                    exact ⟨⟨_, w5.2, rfl⟩, by simp⟩
                  · simp (config := { decide := true, maxDischargeDepth := 20 }) only [up2_s, up2_n, upr_s, upr_n, ne_eq, not_false_eq_true, Nat.reduceAdd, ex5, nc50, nm50, nc51, nm51, nc52, nm52, nc53, nm53, nc54, nm54, v6.1, v6.2]
                    exact ⟨⟨_, w6.2, rfl⟩, by simp⟩
              · simp (config := { decide := true, maxDischargeDepth := 20 }) only [up2_s, up2_n, upr_s, upr_n, ne_eq, not_false_eq_true, Nat.reduceAdd]
                exact hSe
  · rw [if_neg hA]
    exact hQ _ _ _ (st_no hT (k := 4) (lim := 4) (len := len) hx e0 hbn (by decide) (by decide) hq hA (fun t u J M Z Qm h3 h4 h19 hc hg h0 hqz hn => m_no_Die hT.2.1 h3 h4 hd h19 hc l4 hg h0 hqz hn))
theorem st_End {kd pl vl mv : Nat → Nat} {n : Nat} {K3 K4 : Nat → Int32} {K5 : Nat → Int64} {M3 M4 M5 : Nat → Int32} {M6 : Nat → Int64} (hT : TOK kd pl vl mv n K3 K4 K5 M3 M4 M5 M6) {t s sd : Nat} (hs : s = 32 ∨ s = 51) (hd : sd ≤ 1) {c so nu : Nat → Nat} {len : Nat} {Bs : Nat → List (Cd × Cd × Cd)} {Es : Nat → Cd} {I : AI} {L : AL} {S : PS} {Q : PQ} (hC : CW K3 K4 K5 s c so nu len Bs Es I L S.1) (e0 : S.2.1 = 0) (hx : S.1 ≤ n) (hbn : BND pl S) (hq : kd S.1 = 0) (hQ : ∀ I' L' S', STL kd pl vl mv n K3 K4 K5 M3 M4 M5 M6 s sd c so nu Bs Es I L S I' L' S' → Q none 123 (wr I' S') L' (RX t (some s))) : V 31 0 [.ref 7, .retAddr 0, .retAddr 0, .retAddr 0, .retAddr 0, .retAddr 0] [] 123 (wr I S) L (RX t (some s)) Q := by
  have hC' := hC
  obtain ⟨⟨a3, a4, a5⟩, ⟨b0, b1, b2, b3, b4⟩, ⟨l0, l1, l2, l3, l4⟩, c6, cN, cM, cD, ⟨p1, p2, p3⟩, pL⟩ := hC'
  have kb : c 0 < 14 → kN c < 35 := by unfold kN; omega
  rw [c_readEnd hs hT.1 a3 a4 a5 c6 hx b0 l0 kb]
  by_cases hA : c 0 < 14 ∧ tkB kd 0 S = true
  · rw [if_pos hA]
    refine hQ _ _ _ ?_
    have hlt := hA.1
    have kb' := kb hlt
    have tk := take_ok (pl := pl) hA.2
    have x1 : (takeP kd pl 0 S).1 = S.1 + 1 := by rw [tk.1]
    have hx1 : (takeP kd pl 0 S).1 ≤ n := take_le hT.1 (by decide) hx
    have B1 : BND pl (takeP kd pl 0 S) := BND_take hbn
    have X0 : (newP kd pl (nwB L (kN c) (vl (takeP kd pl 0 S).1)) (takeP kd pl 0 S)).1 ≤ n := new_le hT.1 hx1
    have B2 : BND pl (newP kd pl (nwB L (kN c) (vl (takeP kd pl 0 S).1)) (takeP kd pl 0 S)) := BND_new B1
    have X0 : (mnP kd pl (newP kd pl (nwB L (kN c) (vl (takeP kd pl 0 S).1)) (takeP kd pl 0 S))).1 ≤ n := mn_le hT.1 X0
    have B2 : BND pl (mnP kd pl (newP kd pl (nwB L (kN c) (vl (takeP kd pl 0 S).1)) (takeP kd pl 0 S))) := BND_mn B2
    have X1 : (intP kd pl vl 0 9 (mnP kd pl (newP kd pl (nwB L (kN c) (vl (takeP kd pl 0 S).1)) (takeP kd pl 0 S)))).1 ≤ n := int_le hT.1 X0
    have B3 : BND pl (intP kd pl vl 0 9 (mnP kd pl (newP kd pl (nwB L (kN c) (vl (takeP kd pl 0 S).1)) (takeP kd pl 0 S)))) := BND_int B2
    refine ⟨take_le hT.1 (by decide) X1, BND_take B3, ?_, upr c 0 (c 0 + 1), upr so (kN c) 0, upr nu (kN c) (c 0), len, Bs, Es, fun f => ?_, fun t u J M Z Qm hSE hg hM hCl hQm => ?_⟩
    · refine FRC_l ?_
      repeat' (first | exact FRC_r _ _ _ | (refine FRC_u ?_ (by omega)))
    · have tP := take_0 f
      have i1 := int_0 tP.2.1
      have mm := mn_0 i1.2.1
      have nn := new_0 mm.1
      have yP : (takeP kd pl 25 (intP kd pl vl 0 9 (mnP kd pl (newP kd pl (nwB L (kN c) (vl (takeP kd pl 0 S).1)) (takeP kd pl 0 S))))).1 = (intP kd pl vl 0 9 (mnP kd pl (newP kd pl (nwB L (kN c) (vl (takeP kd pl 0 S).1)) (takeP kd pl 0 S)))).1 + 1 := by rw [tP.1]
      have lt : S.1 < (takeP kd pl 25 (intP kd pl vl 0 9 (mnP kd pl (newP kd pl (nwB L (kN c) (vl (takeP kd pl 0 S).1)) (takeP kd pl 0 S))))).1 := by
        have := i1.1
        have := mm.2
        have := nn.1
        omega
      refine ⟨lt, ?_⟩
      rcases hs with rfl | rfl
      · refine CW_name hC (k := 0) (by decide) hlt ?_ ?_ ?_ ?_ ?_ ?_ ?_ ?_ ?_ ?_ ?_ ?_ (by omega)
        · simp (config := { decide := true, maxDischargeDepth := 20 }) only [up2_s, up2_n, upr_s, upr_n, ne_eq, not_false_eq_true, Nat.reduceAdd]
        · simp (config := { decide := true, maxDischargeDepth := 20 }) only [up2_s, up2_n, upr_s, upr_n, ne_eq, not_false_eq_true, Nat.reduceAdd]
        · simp (config := { decide := true, maxDischargeDepth := 20 }) only [up2_s, up2_n, upr_s, upr_n, ne_eq, not_false_eq_true, Nat.reduceAdd]
        · intro z z1 z2
          simp (config := { decide := true, maxDischargeDepth := 20 }) only [up2_s, up2_n, upr_s, upr_n, ne_eq, not_false_eq_true, Nat.reduceAdd]
        · simp (config := { decide := true, maxDischargeDepth := 20 }) only [up2_s, up2_n, upr_s, upr_n, ne_eq, not_false_eq_true, Nat.reduceAdd]
        · simp (config := { decide := true, maxDischargeDepth := 20 }) only [up2_s, up2_n, upr_s, upr_n, ne_eq, not_false_eq_true, Nat.reduceAdd]; try rfl
        · simp (config := { decide := true, maxDischargeDepth := 20 }) only [up2_s, up2_n, upr_s, upr_n, ne_eq, not_false_eq_true, Nat.reduceAdd]
        · intro j hj
          have jn : j ≠ c 0 := by omega
          simp (config := { decide := true, maxDischargeDepth := 20 }) only [up2_s, up2_n, upr_s, upr_n, ne_eq, not_false_eq_true, Nat.reduceAdd, jn]
        · intro _
          exact ⟨0, Nat.zero_le _, by simp (config := { decide := true, maxDischargeDepth := 20 }) only [up2_s, up2_n, upr_s, upr_n, ne_eq, not_false_eq_true, Nat.reduceAdd]; try rfl⟩
        · simp (config := { decide := true, maxDischargeDepth := 20 }) only [up2_s, up2_n, upr_s, upr_n, ne_eq, not_false_eq_true, Nat.reduceAdd]
        · simp (config := { decide := true, maxDischargeDepth := 20 }) only [up2_s, up2_n, upr_s, upr_n, ne_eq, not_false_eq_true, Nat.reduceAdd]
        · simp (config := { decide := true, maxDischargeDepth := 20 }) only [up2_s, up2_n, upr_s, upr_n, ne_eq, not_false_eq_true, Nat.reduceAdd]
      · refine CW_name hC (k := 0) (by decide) hlt ?_ ?_ ?_ ?_ ?_ ?_ ?_ ?_ ?_ ?_ ?_ ?_ (by omega)
        · simp (config := { decide := true, maxDischargeDepth := 20 }) only [up2_s, up2_n, upr_s, upr_n, ne_eq, not_false_eq_true, Nat.reduceAdd]
        · simp (config := { decide := true, maxDischargeDepth := 20 }) only [up2_s, up2_n, upr_s, upr_n, ne_eq, not_false_eq_true, Nat.reduceAdd]
        · simp (config := { decide := true, maxDischargeDepth := 20 }) only [up2_s, up2_n, upr_s, upr_n, ne_eq, not_false_eq_true, Nat.reduceAdd]
        · intro z z1 z2
          simp (config := { decide := true, maxDischargeDepth := 20 }) only [up2_s, up2_n, upr_s, upr_n, ne_eq, not_false_eq_true, Nat.reduceAdd]
        · simp (config := { decide := true, maxDischargeDepth := 20 }) only [up2_s, up2_n, upr_s, upr_n, ne_eq, not_false_eq_true, Nat.reduceAdd]
        · simp (config := { decide := true, maxDischargeDepth := 20 }) only [up2_s, up2_n, upr_s, upr_n, ne_eq, not_false_eq_true, Nat.reduceAdd]; try rfl
        · simp (config := { decide := true, maxDischargeDepth := 20 }) only [up2_s, up2_n, upr_s, upr_n, ne_eq, not_false_eq_true, Nat.reduceAdd]
        · intro j hj
          have jn : j ≠ c 0 := by omega
          simp (config := { decide := true, maxDischargeDepth := 20 }) only [up2_s, up2_n, upr_s, upr_n, ne_eq, not_false_eq_true, Nat.reduceAdd, jn]
        · intro _
          exact ⟨0, Nat.zero_le _, by simp (config := { decide := true, maxDischargeDepth := 20 }) only [up2_s, up2_n, upr_s, upr_n, ne_eq, not_false_eq_true, Nat.reduceAdd]; try rfl⟩
        · simp (config := { decide := true, maxDischargeDepth := 20 }) only [up2_s, up2_n, upr_s, upr_n, ne_eq, not_false_eq_true, Nat.reduceAdd]
        · simp (config := { decide := true, maxDischargeDepth := 20 }) only [up2_s, up2_n, upr_s, upr_n, ne_eq, not_false_eq_true, Nat.reduceAdd]
        · simp (config := { decide := true, maxDischargeDepth := 20 }) only [up2_s, up2_n, upr_s, upr_n, ne_eq, not_false_eq_true, Nat.reduceAdd]
    · have ez : Z.2.1 = 0 := by rw [← hSE.1]; exact e0
      have xz : Z.1 = S.1 := (hSE.2.2 e0).1.symm
      have hM' := hM
      obtain ⟨⟨m3, m4, m5, m6⟩, ⟨d0, d1, d2, d3, d4⟩, ⟨c19, c20⟩, mN, mD, mL⟩ := hM'
      have tz : tkB kd 0 Z = true := by rw [← tkB_e hSE]; exact hA.2
      have fz := take_f0 (pl := pl) tz
      have SE1 : SE (takeP kd pl 0 S) (takeP kd pl 0 Z) := SE_take hSE
      have G1 : GS n (takeP kd pl 0 Z) := GS_take hT.2.1 (by decide) hg
      have SE2 : SE (newP kd pl (nwB L (kN c) (vl (takeP kd pl 0 S).1)) (takeP kd pl 0 S)) (newP kd pl (nwM M (kN c) (mv (takeP kd pl 0 Z).1)) (takeP kd pl 0 Z)) := SE_new2 hT SE1 hx1 B1 (fun z => (hCl (by rw [take_l] at z; exact z)).1)
      have G2 : GS n (newP kd pl (nwM M (kN c) (mv (takeP kd pl 0 Z).1)) (takeP kd pl 0 Z)) := GS_new hT.2.1 G1
      have isz := is_e (kd := kd) (q := 28) SE2
      have SE2 : SE (mnP kd pl (newP kd pl (nwB L (kN c) (vl (takeP kd pl 0 S).1)) (takeP kd pl 0 S))) (mnM kd pl (newP kd pl (nwM M (kN c) (mv (takeP kd pl 0 Z).1)) (takeP kd pl 0 Z))) := SE_mn SE2
      have G2 : GS n (mnM kd pl (newP kd pl (nwM M (kN c) (mv (takeP kd pl 0 Z).1)) (takeP kd pl 0 Z))) := GS_mn hT.2.1 G2
      have SE3 : SE (intP kd pl vl 0 9 (mnP kd pl (newP kd pl (nwB L (kN c) (vl (takeP kd pl 0 S).1)) (takeP kd pl 0 S)))) (intM kd pl vl 0 9 (mnM kd pl (newP kd pl (nwM M (kN c) (mv (takeP kd pl 0 Z).1)) (takeP kd pl 0 Z)))) := SE_int SE2
      have G3 : GS n (intM kd pl vl 0 9 (mnM kd pl (newP kd pl (nwM M (kN c) (mv (takeP kd pl 0 Z).1)) (takeP kd pl 0 Z)))) := GS_int hT.2.1 G2
      have SEP : SE (takeP kd pl 25 (intP kd pl vl 0 9 (mnP kd pl (newP kd pl (nwB L (kN c) (vl (takeP kd pl 0 S).1)) (takeP kd pl 0 S))))) (takeP kd pl 25 (intM kd pl vl 0 9 (mnM kd pl (newP kd pl (nwM M (kN c) (mv (takeP kd pl 0 Z).1)) (takeP kd pl 0 Z))))) := SE_take SE3
      have GP : GS n (takeP kd pl 25 (intM kd pl vl 0 9 (mnM kd pl (newP kd pl (nwM M (kN c) (mv (takeP kd pl 0 Z).1)) (takeP kd pl 0 Z))))) := GS_take hT.2.1 (by decide) G3
      have y1 := inT (a := Z.1) (N := 403) (by have := hT.1.1; omega) (by decide)
      have y2 := nI_clamp (n := Z.1) (by have := hT.1.1; omega)
      have w1 := inT (a := sd) (N := 2) (by omega) (by decide)
      have w2 := nI_clamp (n := sd) (by omega)
      have y3 : M3 Z.1 = 20 := by rw [(hT.2.1.2.1 Z.1 hg.1).1, xz, hq]; rfl
      have c1 : c 0 < 100 := by omega
      have ne : (c 0 = 14) = False := eq_false (by omega)
      have tg : goP pl Z = (takeP kd pl 0 Z) := by rw [take_is, if_pos (by unfold isP; rw [decide_eq_true ez, decide_eq_true (xz ▸ hq)]; rfl)]
      have ff : ∀ Q2 : PQ, _ := fun Q2 => m_tellEnd (t := t) (u := u) (J := J) (L := M) (Q := Q2) (S := (takeP kd pl 0 Z)) hT.2.1 m3 m4 m5 m6 c20 c19 hd kb' G1 d0 hlt
      simp (config := { decide := true, maxDischargeDepth := 20 }) only [↓reduceIte, KV_i, KV_v, wsm_0, wsm_i, wsm_l, wsm_r, dlV_i, dlV_r, dlV_l, dlV_j, cat_i, cat_l, cat_r, rf_s, true_and, and_true, and_self, if_true, if_false, ite_true, ite_false, eq_self, true_or, or_true, false_or, or_false, not_true_eq_false, not_false_eq_true, vn_0_45, vn_1_45, vn_2_45, vn_3_45, vn_4_45, vn_5_45, vn_6_45, vn_7_45, vn_8_45, vn_36_48, vn_37_48, vn_38_48, vn_39_48, vn_40_48, vn_41_48, vn_42_48, vn_43_48, vn_44_48, vn_0_9, vn_1_9, vn_2_9, vn_3_9, vn_4_9, vn_5_9, vn_6_9, vn_7_9, vn_8_9, vn_0_3, vn_1_3, vn_2_3, vn_0_4, vn_1_4, vn_2_4, vn_3_4, vn_0_64, vn_0_16, vn_0_400, vn_0_6, vn_0_14, Int32.reduceToNatClampNeg, Int32.reduceAdd, Int32.reduceSub, Int32.reduceMul, Int32.reduceLE, Int32.reduceLT, Nat.reduceAdd, nr_2, nr_30, nr_31, rd_2, rd_14, rd_71, rd_72, rd_101, rd_116, rd_121, up2_s, up2_n, upr_s, upr_n, ne_eq, not_false_eq_true, ob_70, rx_70_1, rx_70_3, rx_70_5, rx_70_6, rx_70_7, rx_70_8, rx_70_9, rx_70_21, rx_70_22, rx_70_23, rx_70_24, rx_70_25, rx_70_26, rx_70_27, rx_70_28, rx_70_29, rx_70_30, rx_70_31, rx_70_32, rx_70_33, rx_70_34, rx_70_35, rx_70_36, rx_70_37, rx_70_38, rx_70_39, rx_70_40, rx_70_41, rx_70_42, rx_70_43, rx_70_45, rx_70_46, rx_70_47, rx_70_48, rx_70_49, rx_70_51, rx_70_52, rx_70_53, rx_70_55, rx_70_56, rx_70_58, rx_70_59, rx_70_60, rx_70_61, rx_70_63, rx_70_64, rx_70_65, rx_70_70, rx_70_71, rx_70_72, rx_70_73, rx_70_74, r159_0, r159_1, r159_4, r159_5, r159_8, r159_68, r159_69, r159_70, r159_73, r159_74, r159_77, r159_78, r159_80, r159_83, r159_84, r159_87, r159_90, r159_91, r159_94, r159_97, r159_98, r159_99, r159_102, r159_103, r159_106, r159_107, r159_109, r159_112, r159_113, r159_116, r159_119, r159_120, r159_123, r159_126, r159_127, r159_128, r159_131, r159_132, r159_135, r159_136, r159_138, r159_141, r159_142, r159_145, r159_148, r159_149, r159_152, r159_155, r159_156, r159_157, r159_160, r159_161, r159_164, r159_165, r159_167, r159_170, r159_171, r159_174, r159_177, r159_178, r159_181, r159_184, r159_185, r159_186, r159_189, r159_190, r159_193, r159_194, r159_195, r159_198, r159_199, r159_202, r159_205, r159_206, r159_209, r159_212, r159_213, r159_214, r159_217, r159_218, r159_221, r159_222, r159_223, r159_226, r159_227, r159_230, r159_233, r159_234, r159_237, r159_240, r159_241, r159_244, r159_245, r159_248, r159_249, r159_252, r159_253, r159_254, r159_257, r159_260, r159_261, r159_262, r159_263, r159_266, r159_269, r159_270, r159_273, r159_274, r159_277, r159_278, r159_280, r159_281, r159_282, r159_283, r159_286, r159_287, r159_290, r159_291, r159_294, r159_295, r159_297, r159_300, r159_301, r159_302, r159_305, r159_306, r159_309, r159_312, r159_313, r159_314, r159_317, r159_318, r159_319, r159_322, r159_9, tg_73, ln_73, tg_81, ln_81, wm_11, wm_13, wm_14, wm_15, wm_16, wm_4, wm_12, wm_18, wm_19, wm_20, wm_44, wm_50, wm_54, wm_n, wm_up, wm_u11, wm_u13, wm_u14, wm_u15, wm_u16, wm_u12, wm_u18, wm_u19, wm_u20, wm_u44, wm_u50, wm_u54, m_room_14 hT.2.1, m3, m4, c19, d0, hg, ez, c1, ne, y1, y2, w1, w2, y3, tg, fz, ff]
      cases e5 : tkB kd 25 (intM kd pl vl 0 9 (mnM kd pl (newP kd pl (nwM M (kN c) (mv (takeP kd pl 0 Z).1)) (takeP kd pl 0 Z))))
      · rw [if_neg (by decide)]
        refine hQm _ _ _ SEP GP ?_ (fun _ _ _ => rfl) (fun f => ?_)
        · repeat' (first | exact FRM_r _ _ | (refine FRM_u ?_ (by first | exact np_79 | exact np_80 | exact np_20 | exact np_81 hd | exact np_88 hd | exact np_91 hd | exact np_94 hd | exact np_96 hd | exact np_98 hd | exact np_82 hd hlt | exact np_83 hd hlt | exact np_84 hd hlt | exact np_85 hd hlt | exact np_89 hd hlt | exact np_90 hd hlt | exact np_92 hd hlt | exact np_93 hd hlt | exact np_95 hd hlt | exact np_97_0 hd hlt | exact np_97_1 hd hlt | exact np_97_2 hd hlt | exact np_97_3 hd hlt | exact np_97_4 hd hlt | exact np_97_5 hd hlt)))
        · have tP := take_0 f
          exact absurd (tP.2.2.2.2.symm.trans ((tkB_e SE3).trans e5)) (by decide)
      · rw [if_pos rfl]
        refine hQm _ _ _ SEP GP ?_ (FRL_u (fun _ _ _ => rfl)) (fun f => ?_)
        · repeat' (first | exact FRM_r _ _ | (refine FRM_u ?_ (by first | exact np_79 | exact np_80 | exact np_20 | exact np_81 hd | exact np_88 hd | exact np_91 hd | exact np_94 hd | exact np_96 hd | exact np_98 hd | exact np_82 hd hlt | exact np_83 hd hlt | exact np_84 hd hlt | exact np_85 hd hlt | exact np_89 hd hlt | exact np_90 hd hlt | exact np_92 hd hlt | exact np_93 hd hlt | exact np_95 hd hlt | exact np_97_0 hd hlt | exact np_97_1 hd hlt | exact np_97_2 hd hlt | exact np_97_3 hd hlt | exact np_97_4 hd hlt | exact np_97_5 hd hlt)))
        · have tP := take_0 f
          have i1 := int_0 tP.2.1
          have mm := mn_0 i1.2.1
          have nn := new_0 mm.1
          have yP : (takeP kd pl 25 (intP kd pl vl 0 9 (mnP kd pl (newP kd pl (nwB L (kN c) (vl (takeP kd pl 0 S).1)) (takeP kd pl 0 S))))).1 = (intP kd pl vl 0 9 (mnP kd pl (newP kd pl (nwB L (kN c) (vl (takeP kd pl 0 S).1)) (takeP kd pl 0 S)))).1 + 1 := by rw [tP.1]
          have lt : S.1 < (takeP kd pl 25 (intP kd pl vl 0 9 (mnP kd pl (newP kd pl (nwB L (kN c) (vl (takeP kd pl 0 S).1)) (takeP kd pl 0 S))))).1 := by
            have := i1.1
            have := mm.2
            have := nn.1
            omega
          refine ⟨MW_name hM (k := 0) (by decide) ?_ ?_ ?_ ?_ ?_ ?_ ?_ ?_ ?_ ?_ ?_ ?_ ?_ ?_ ?_ (by omega), fun lz => ?_⟩
          · simp (config := { decide := true, maxDischargeDepth := 20 }) only [up2_s, up2_n, upr_s, upr_n, ne_eq, not_false_eq_true, Nat.reduceAdd]
          · simp (config := { decide := true, maxDischargeDepth := 20 }) only [up2_s, up2_n, upr_s, upr_n, ne_eq, not_false_eq_true, Nat.reduceAdd]
          · simp (config := { decide := true, maxDischargeDepth := 20 }) only [up2_s, up2_n, upr_s, upr_n, ne_eq, not_false_eq_true, Nat.reduceAdd]
          · simp (config := { decide := true, maxDischargeDepth := 20 }) only [up2_s, up2_n, upr_s, upr_n, ne_eq, not_false_eq_true, Nat.reduceAdd]
          · intro z hz
            have h5 : z = 0 ∨ z = 1 ∨ z = 2 ∨ z = 3 ∨ z = 4 := by omega
            have r0 : rwN 0 = 81 := rfl
            have r1 : rwN 1 = 88 := rfl
            have r2 : rwN 2 = 91 := rfl
            have r3 : rwN 3 = 94 := rfl
            have r4 : rwN 4 = 96 := rfl
            rcases h5 with rfl | rfl | rfl | rfl | rfl <;> simp (config := { decide := true, maxDischargeDepth := 20 }) only [up2_s, up2_n, upr_s, upr_n, ne_eq, not_false_eq_true, Nat.reduceAdd, r0, r1, r2, r3, r4, ↓reduceIte]
          · simp (config := { decide := true, maxDischargeDepth := 20 }) only [up2_s, up2_n, upr_s, upr_n, ne_eq, not_false_eq_true, Nat.reduceAdd]
          · simp (config := { decide := true, maxDischargeDepth := 20 }) only [up2_s, up2_n, upr_s, upr_n, ne_eq, not_false_eq_true, Nat.reduceAdd]
          · simp (config := { decide := true, maxDischargeDepth := 20 }) only [up2_s, up2_n, upr_s, upr_n, ne_eq, not_false_eq_true, Nat.reduceAdd]; try rfl
          · simp (config := { decide := true, maxDischargeDepth := 20 }) only [up2_s, up2_n, upr_s, upr_n, ne_eq, not_false_eq_true, Nat.reduceAdd]
          · intro j hj
            have jn : 14 * sd + j ≠ 14 * sd + c 0 := by omega
            simp (config := { decide := true, maxDischargeDepth := 20 }) only [up2_s, up2_n, upr_s, upr_n, ne_eq, not_false_eq_true, Nat.reduceAdd, jn]
          · intro _
            exact ⟨0, Nat.zero_le _, by simp (config := { decide := true, maxDischargeDepth := 20 }) only [up2_s, up2_n, upr_s, upr_n, ne_eq, not_false_eq_true, Nat.reduceAdd]; try rfl⟩
          · simp (config := { decide := true, maxDischargeDepth := 20 }) only [up2_s, up2_n, upr_s, upr_n, ne_eq, not_false_eq_true, Nat.reduceAdd]
          · simp (config := { decide := true, maxDischargeDepth := 20 }) only [up2_s, up2_n, upr_s, upr_n, ne_eq, not_false_eq_true, Nat.reduceAdd]
          · simp (config := { decide := true, maxDischargeDepth := 20 }) only [up2_s, up2_n, upr_s, upr_n, ne_eq, not_false_eq_true, Nat.reduceAdd]
          · intro a h1 h2
            rw [up2_n (by omega), up2_n (by omega), up2_n (by omega), up2_n (by omega), up2_n (by omega), up2_n (by omega), up2_n (by omega), up2_n (by omega)]
          · have lP : (intP kd pl vl 0 9 (mnP kd pl (newP kd pl (nwB L (kN c) (vl (takeP kd pl 0 S).1)) (takeP kd pl 0 S)))).2.2.2.1 = 0 := by rw [take_l] at lz; exact lz
            have v1 := iv_0 (lo' := 0) SE2 (lo := 0) (hi := 9) tP.2.1
            have w1 := ib_0_9 hT.2.2.1 (S := (mnP kd pl (newP kd pl (nwB L (kN c) (vl (takeP kd pl 0 S).1)) (takeP kd pl 0 S)))) tP.2.1 lP
            have L1 := (i1.2.2.2.2.2 lP).1
            have Lm : (newP kd pl (nwB L (kN c) (vl (takeP kd pl 0 S).1)) (takeP kd pl 0 S)).2.2.2.1 = 0 := by rw [mn_l] at L1; exact L1
            have ln := nn.2.2.2.2.2 Lm
            have l0' : S.2.2.2.1 = 0 := by have := ln.1; rw [take_l] at this; exact this
            obtain ⟨hN, hP, hMe, hLe, hCr, hDi, hSe⟩ := hCl l0'
            have xz1 : (takeP kd pl 0 Z).1 = (takeP kd pl 0 S).1 := (SE1.2.2 nn.2.1).1.symm
            have k6 : M6 (takeP kd pl 0 Z).1 = lN (mv (takeP kd pl 0 S).1) := by rw [(hT.2.1.2.1 _ G1.1).2.2.2 (by rw [xz1]; exact nn.2.2.1), xz1]
            have nv : newV kd vl (takeP kd pl 0 S) = lN (vl (takeP kd pl 0 S).1) := if_pos nn.2.2.2.2.1
            have nmk := Nam_ap hN nn.2.2.1 ln.2
            rcases hs with rfl | rfl
            · refine ⟨?_, ?_, ?_, ?_, ?_, ?_, ?_⟩
              · rw [kN_up (by decide)]
                simp (config := { decide := true, maxDischargeDepth := 20 }) only [up2_s, up2_n, upr_s, upr_n, ne_eq, not_false_eq_true, Nat.reduceAdd, k6, nv]
                exact nmk
              · have ib := mn_tk i1.2.1
                have vm : (if tkB kd 28 (newP kd pl (nwB L (kN c) (vl (takeP kd pl 0 S).1)) (takeP kd pl 0 S)) = true then -(intV kd vl (mnP kd pl (newP kd pl (nwB L (kN c) (vl (takeP kd pl 0 S).1)) (takeP kd pl 0 S)))) else intV kd vl (mnP kd pl (newP kd pl (nwB L (kN c) (vl (takeP kd pl 0 S).1)) (takeP kd pl 0 S)))) = (if isP kd 28 (newP kd pl (nwB L (kN c) (vl (takeP kd pl 0 S).1)) (takeP kd pl 0 S)) = true then -(nI (vl (mnP kd pl (newP kd pl (nwB L (kN c) (vl (takeP kd pl 0 S).1)) (takeP kd pl 0 S))).1)) else nI (vl (mnP kd pl (newP kd pl (nwB L (kN c) (vl (takeP kd pl 0 S).1)) (takeP kd pl 0 S))).1)) := by rw [ib, v1.1]
                refine PosK_ap hP (fun i hi => ?_) (fun i hi => ?_) (fun i hi => ?_) (fun i hi => ?_) ?_
                · have ei : i ≠ c 0 := by omega
                  simp (config := { decide := true, maxDischargeDepth := 20 }) only [up2_s, up2_n, upr_s, upr_n, ne_eq, not_false_eq_true, Nat.reduceAdd, ei, and_self]
                · simp (config := { decide := true, maxDischargeDepth := 20 }) only [up2_s, up2_n, upr_s, upr_n, ne_eq, not_false_eq_true, Nat.reduceAdd, and_self]
                · have ei : 14 * sd + i ≠ 14 * sd + c 0 := by omega
                  simp (config := { decide := true, maxDischargeDepth := 20 }) only [up2_s, up2_n, upr_s, upr_n, ne_eq, not_false_eq_true, Nat.reduceAdd, ei, and_self]
                · simp (config := { decide := true, maxDischargeDepth := 20 }) only [up2_s, up2_n, upr_s, upr_n, ne_eq, not_false_eq_true, Nat.reduceAdd, and_self]
                · refine ⟨Or.inl ⟨?_, ?_, ?_, ?_⟩, ⟨?_, ?_, ?_, ?_⟩, fun m hm h0 => ?_⟩
                  · simp (config := { decide := true, maxDischargeDepth := 20 }) only [up2_s, up2_n, upr_s, upr_n, ne_eq, not_false_eq_true, Nat.reduceAdd]
                  · simp (config := { decide := true, maxDischargeDepth := 20 }) only [up2_s, up2_n, upr_s, upr_n, ne_eq, not_false_eq_true, Nat.reduceAdd, vm]
                    cases isP kd 28 (newP kd pl (nwB L (kN c) (vl (takeP kd pl 0 S).1)) (takeP kd pl 0 S))
                    · exact (mg_n _ w1.2).1
                    · exact (mg_n _ w1.2).2
                  · simp (config := { decide := true, maxDischargeDepth := 20 }) only [up2_s, up2_n, upr_s, upr_n, ne_eq, not_false_eq_true, Nat.reduceAdd]
                  · simp (config := { decide := true, maxDischargeDepth := 20 }) only [up2_s, up2_n, upr_s, upr_n, ne_eq, not_false_eq_true, Nat.reduceAdd]
                  · simp (config := { decide := true, maxDischargeDepth := 20 }) only [up2_s, up2_n, upr_s, upr_n, ne_eq, not_false_eq_true, Nat.reduceAdd]
                  · simp (config := { decide := true, maxDischargeDepth := 20 }) only [up2_s, up2_n, upr_s, upr_n, ne_eq, not_false_eq_true, Nat.reduceAdd, vm, v1.2, ← isz]
                  · simp (config := { decide := true, maxDischargeDepth := 20 }) only [up2_s, up2_n, upr_s, upr_n, ne_eq, not_false_eq_true, Nat.reduceAdd]
                  · simp (config := { decide := true, maxDischargeDepth := 20 }) only [up2_s, up2_n, upr_s, upr_n, ne_eq, not_false_eq_true, Nat.reduceAdd]
                  · exfalso
                    revert h0
                    simp (config := { decide := true, maxDischargeDepth := 20 }) only [up2_s, up2_n, upr_s, upr_n, ne_eq, not_false_eq_true, Nat.reduceAdd]
                    intro h0
                    exact absurd h0 (Nat.not_lt_zero _)
              · simp (config := { decide := true, maxDischargeDepth := 20 }) only [up2_s, up2_n, upr_s, upr_n, ne_eq, not_false_eq_true, Nat.reduceAdd]
                exact hMe
              · simp (config := { decide := true, maxDischargeDepth := 20 }) only [up2_s, up2_n, upr_s, upr_n, ne_eq, not_false_eq_true, Nat.reduceAdd]
                exact hLe
              · simp (config := { decide := true, maxDischargeDepth := 20 }) only [up2_s, up2_n, upr_s, upr_n, ne_eq, not_false_eq_true, Nat.reduceAdd]
                exact hCr
              · simp (config := { decide := true, maxDischargeDepth := 20 }) only [up2_s, up2_n, upr_s, upr_n, ne_eq, not_false_eq_true, Nat.reduceAdd]
                exact hDi
              · simp (config := { decide := true, maxDischargeDepth := 20 }) only [up2_s, up2_n, upr_s, upr_n, ne_eq, not_false_eq_true, Nat.reduceAdd]
                exact hSe
            · refine ⟨?_, ?_, ?_, ?_, ?_, ?_, ?_⟩
              · rw [kN_up (by decide)]
                simp (config := { decide := true, maxDischargeDepth := 20 }) only [up2_s, up2_n, upr_s, upr_n, ne_eq, not_false_eq_true, Nat.reduceAdd, k6, nv]
                exact nmk
              · have ib := mn_tk i1.2.1
                have vm : (if tkB kd 28 (newP kd pl (nwB L (kN c) (vl (takeP kd pl 0 S).1)) (takeP kd pl 0 S)) = true then -(intV kd vl (mnP kd pl (newP kd pl (nwB L (kN c) (vl (takeP kd pl 0 S).1)) (takeP kd pl 0 S)))) else intV kd vl (mnP kd pl (newP kd pl (nwB L (kN c) (vl (takeP kd pl 0 S).1)) (takeP kd pl 0 S)))) = (if isP kd 28 (newP kd pl (nwB L (kN c) (vl (takeP kd pl 0 S).1)) (takeP kd pl 0 S)) = true then -(nI (vl (mnP kd pl (newP kd pl (nwB L (kN c) (vl (takeP kd pl 0 S).1)) (takeP kd pl 0 S))).1)) else nI (vl (mnP kd pl (newP kd pl (nwB L (kN c) (vl (takeP kd pl 0 S).1)) (takeP kd pl 0 S))).1)) := by rw [ib, v1.1]
                refine PosK_ap hP (fun i hi => ?_) (fun i hi => ?_) (fun i hi => ?_) (fun i hi => ?_) ?_
                · have ei : i ≠ c 0 := by omega
                  simp (config := { decide := true, maxDischargeDepth := 20 }) only [up2_s, up2_n, upr_s, upr_n, ne_eq, not_false_eq_true, Nat.reduceAdd, ei, and_self]
                · simp (config := { decide := true, maxDischargeDepth := 20 }) only [up2_s, up2_n, upr_s, upr_n, ne_eq, not_false_eq_true, Nat.reduceAdd, and_self]
                · have ei : 14 * sd + i ≠ 14 * sd + c 0 := by omega
                  simp (config := { decide := true, maxDischargeDepth := 20 }) only [up2_s, up2_n, upr_s, upr_n, ne_eq, not_false_eq_true, Nat.reduceAdd, ei, and_self]
                · simp (config := { decide := true, maxDischargeDepth := 20 }) only [up2_s, up2_n, upr_s, upr_n, ne_eq, not_false_eq_true, Nat.reduceAdd, and_self]
                · refine ⟨Or.inl ⟨?_, ?_, ?_, ?_⟩, ⟨?_, ?_, ?_, ?_⟩, fun m hm h0 => ?_⟩
                  · simp (config := { decide := true, maxDischargeDepth := 20 }) only [up2_s, up2_n, upr_s, upr_n, ne_eq, not_false_eq_true, Nat.reduceAdd]
                  · simp (config := { decide := true, maxDischargeDepth := 20 }) only [up2_s, up2_n, upr_s, upr_n, ne_eq, not_false_eq_true, Nat.reduceAdd, vm]
                    cases isP kd 28 (newP kd pl (nwB L (kN c) (vl (takeP kd pl 0 S).1)) (takeP kd pl 0 S))
                    · exact (mg_n _ w1.2).1
                    · exact (mg_n _ w1.2).2
                  · simp (config := { decide := true, maxDischargeDepth := 20 }) only [up2_s, up2_n, upr_s, upr_n, ne_eq, not_false_eq_true, Nat.reduceAdd]
                  · simp (config := { decide := true, maxDischargeDepth := 20 }) only [up2_s, up2_n, upr_s, upr_n, ne_eq, not_false_eq_true, Nat.reduceAdd]
                  · simp (config := { decide := true, maxDischargeDepth := 20 }) only [up2_s, up2_n, upr_s, upr_n, ne_eq, not_false_eq_true, Nat.reduceAdd]
                  · simp (config := { decide := true, maxDischargeDepth := 20 }) only [up2_s, up2_n, upr_s, upr_n, ne_eq, not_false_eq_true, Nat.reduceAdd, vm, v1.2, ← isz]
                  · simp (config := { decide := true, maxDischargeDepth := 20 }) only [up2_s, up2_n, upr_s, upr_n, ne_eq, not_false_eq_true, Nat.reduceAdd]
                  · simp (config := { decide := true, maxDischargeDepth := 20 }) only [up2_s, up2_n, upr_s, upr_n, ne_eq, not_false_eq_true, Nat.reduceAdd]
                  · exfalso
                    revert h0
                    simp (config := { decide := true, maxDischargeDepth := 20 }) only [up2_s, up2_n, upr_s, upr_n, ne_eq, not_false_eq_true, Nat.reduceAdd]
                    intro h0
                    exact absurd h0 (Nat.not_lt_zero _)
              · simp (config := { decide := true, maxDischargeDepth := 20 }) only [up2_s, up2_n, upr_s, upr_n, ne_eq, not_false_eq_true, Nat.reduceAdd]
                exact hMe
              · simp (config := { decide := true, maxDischargeDepth := 20 }) only [up2_s, up2_n, upr_s, upr_n, ne_eq, not_false_eq_true, Nat.reduceAdd]
                exact hLe
              · simp (config := { decide := true, maxDischargeDepth := 20 }) only [up2_s, up2_n, upr_s, upr_n, ne_eq, not_false_eq_true, Nat.reduceAdd]
                exact hCr
              · simp (config := { decide := true, maxDischargeDepth := 20 }) only [up2_s, up2_n, upr_s, upr_n, ne_eq, not_false_eq_true, Nat.reduceAdd]
                exact hDi
              · simp (config := { decide := true, maxDischargeDepth := 20 }) only [up2_s, up2_n, upr_s, upr_n, ne_eq, not_false_eq_true, Nat.reduceAdd]
                exact hSe
  · rw [if_neg hA]
    exact hQ _ _ _ (st_no hT (k := 0) (lim := 14) (len := len) hx e0 hbn (by decide) (by decide) hq hA (fun t u J M Z Qm h3 h4 h19 hc hg h0 hqz hn => m_no_End hT.2.1 h3 h4 hd h19 hc l0 hg h0 hqz hn))
