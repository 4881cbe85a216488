/-! READ: LAW, SEED and what is none, side by side -/
theorem CREP_keep {mk mk' : Nat → Int32} {len len' : Nat} {e : Cd} (hm : ∀ j, j < len → mk' j = mk j) (hl : len ≤ len') : ∀ (r : List (Cd × Cd × Cd)) (p : Nat), CREP mk len p r e → CREP mk' len' p r e := by
  intro r
  induction r with
  | nil =>
    intro p h
    rw [CREP] at h ⊢
    obtain ⟨h1, h2, h3, h4⟩ := h
    exact ⟨h1, fun j hj => (hm _ (by omega)).trans (h2 j hj), (hm _ h4).trans h3, by omega⟩
  | cons x r ih =>
    intro p h
    obtain ⟨a, b, c⟩ := x
    rw [CREP] at h ⊢
    obtain ⟨h1, h2, h3, h4, h5, h6, h7, h8, h9, h10⟩ := h
    have lt := CREP_lt _ _ h10
    exact ⟨h1, h2, h3, fun j hj => (hm _ (by omega)).trans (h4 j hj), fun j hj => (hm _ (by omega)).trans (h5 j hj), (hm _ (by omega)).trans h6, (hm _ (by omega)).trans h7, fun j hj => (hm _ (by omega)).trans (h8 j hj), (hm _ (by omega)).trans h9, ih _ h10⟩
theorem MREP_keep {J J' : AI} {sd br cd : Nat} {e : Cd} (hd : sd ≤ 1) (hcd : cd ≤ 840) (hz : ∀ b, 130 * sd ≤ b → b < br → ∃ z, z ≤ cd ∧ J 105 b = nI z) (hr : ∀ b, b < br → J' 101 b = J 101 b ∧ J' 102 b = J 102 b ∧ J' 103 b = J 103 b ∧ J' 104 b = J 104 b ∧ J' 105 b = J 105 b) (hx : ∀ x, x < cd → J' 106 x = J 106 x ∧ J' 107 x = J 107 x) : ∀ (r : List (Cd × Cd × Cd)) (f l : Nat), l ≤ br → MREP J sd f l r e → MREP J' sd f l r e := by
  have sg : ∀ p (c : Cd), p + c.length ≤ cd → SGM J sd p c → SGM J' sd p c := fun p c hp h => ⟨h.1, h.2.1, fun j hj => by
    have := hx (p + j) (by omega)
    rw [this.1, this.2]
    exact h.2.2 j hj⟩
  intro r
  induction r with
  | nil =>
    intro f l hl h
    rw [MREP] at h ⊢
    obtain ⟨h1, h2, h3, h4, ⟨p, h5, h6, h7⟩, h8⟩ := h
    obtain ⟨b1, b2, b3, b4, b5⟩ := hr f (by omega)
    obtain ⟨z, z1, z2⟩ := hz f h2 (by omega)
    have q := h7.2.1
    have ez : p + e.length = z := (nI_eq (a := p + e.length) (b := z) (by omega) (by omega)).mp (h6.symm.trans z2)
    exact ⟨h1, h2, h3, by rw [b1]; exact h4, ⟨p, by rw [b4]; exact h5, by rw [b5]; exact h6, sg p e (by omega) h7⟩, h8⟩
  | cons x r ih =>
    intro f l hl h
    obtain ⟨a, b, c⟩ := x
    rw [MREP] at h ⊢
    obtain ⟨h2, h3, h4, ⟨p, g1, g2, g3, g4, g5, g6, g7⟩, h8, h9⟩ := h
    have lt := MREP_lt _ _ _ h9
    obtain ⟨b1, b2, b3, b4, b5⟩ := hr f (by omega)
    obtain ⟨z, z1, z2⟩ := hz f h2 (by omega)
    have q := g7.2.1
    have ez : p + a.length + b.length + c.length = z := (nI_eq (a := p + a.length + b.length + c.length) (b := z) (by omega) (by omega)).mp (g4.symm.trans z2)
    exact ⟨h2, h3, by rw [b1]; exact h4, ⟨p, by rw [b2]; exact g1, by rw [b3]; exact g2, by rw [b4]; exact g3, by rw [b5]; exact g4, sg p a (by omega) g5, sg _ b (by omega) g6, sg _ c (by omega) g7⟩, h8, ih _ _ hl h9⟩
theorem BND_mo {pl : Nat → Nat} {S R : PS} (h : BND pl S) (hx : R.2.1 = 0 → S.2.1 = 0 ∧ S.1 ≤ R.1) (hl : R.2.2.2 = S.2.2.2) : BND pl R := by
  refine ⟨fun e f => ?_, fun e => ?_⟩
  · have q := hx e
    rw [hl] at f
    obtain ⟨j, h1, h2, h3⟩ := h.1 q.1 f
    exact ⟨j, by omega, by rw [hl]; exact h2, by rw [hl]; exact h3⟩
  · rw [hl] at e ⊢
    exact h.2 e
theorem exE_l {kd pl vl : Nat → Nat} (S : PS) : (exE kd pl vl S).1.2.2.2 = S.2.2.2 := ex_l _ _ _ _ _ _
theorem law_l {kd pl vl : Nat → Nat} : ∀ r (S : PS), (lawP kd pl vl r S).1.2.2.2 = S.2.2.2 := by
  intro r
  induction r with
  | zero =>
    intro S
    unfold lawP
    split
    · exact stop_l _ _ _
    · show (takeP kd pl 25 (exE kd pl vl S).1).2.2.2 = _
      rw [take_l, exE_l]
  | succ r ih =>
    intro S
    unfold lawP
    split
    · show (lawP kd pl vl r (lw4 kd pl vl S)).1.2.2.2 = _
      rw [ih, lw4_d, take_l, lw3_d, exE_l, take_l, lw2_d, exE_l, take_l, lw1_d, exE_l, take_l]
    · show (takeP kd pl 25 (exE kd pl vl S).1).2.2.2 = _
      rw [take_l, exE_l]
theorem law_le {kd pl vl : Nat → Nat} {n : Nat} {K3 K4 : Nat → Int32} {K5 : Nat → Int64} (hT : TKR kd pl vl n K3 K4 K5) : ∀ r (S : PS), S.1 ≤ n → (lawP kd pl vl r S).1.1 ≤ n := by
  intro r
  induction r with
  | zero =>
    intro S h
    unfold lawP
    split
    · show (stopP pl 2 S).1 ≤ n
      rw [stop_x]; exact h
    · exact take_le hT (by decide) (exE_le hT h)
  | succ r ih =>
    intro S h
    unfold lawP
    split
    · exact ih _ (lw_le (pl := pl) hT h).2.2.2.2.1
    · exact take_le hT (by decide) (exE_le hT h)
theorem np_s {lv k : Nat} (h : k = 44 ∨ k = 50 ∨ k = 54 ∨ k = 12) : ¬ PRT lv 70 k := by
  intro z
  have z' : (70 < 70 ∨ 70 = 71 ∨ 109 ≤ 70) ∨ (70 = 70 ∧ (k = 2 ∨ k = 17 ∨ k = 18 ∨ k = 62 ∨ k = 69)) ∨ (0 * lv ≤ k ∧ k < 0 * lv + 0) := z
  omega
theorem np_99 {sd k a : Nat} (hd : sd ≤ 1) (hk : k < 4) (ha : a = 99 ∨ a = 100) : ¬ PRT (1 - sd) a (4 * sd + k) := by
  intro z
  have hz : hsz a = 4 := by rcases ha with rfl | rfl <;> rfl
  unfold PRT at z
  rw [hz] at z
  omega
theorem prt_101 {sd a k : Nat} (hd : sd ≤ 1) (ha : 101 ≤ a ∧ a ≤ 105) (h : PRT (1 - sd) a k) : k < 130 * sd ∨ 130 * sd + 130 ≤ k := by
  have hz : hsz a = 130 := by
    have h5 : a = 101 ∨ a = 102 ∨ a = 103 ∨ a = 104 ∨ a = 105 := by omega
    rcases h5 with rfl | rfl | rfl | rfl | rfl <;> rfl
  unfold PRT at h
  rw [hz] at h
  omega
theorem prt_106 {sd a k : Nat} (hd : sd ≤ 1) (ha : a = 106 ∨ a = 107) (h : PRT (1 - sd) a k) : k < 420 * sd ∨ 420 * sd + 420 ≤ k := by
  have hz : hsz a = 420 := by rcases ha with rfl | rfl <;> rfl
  unfold PRT at h
  rw [hz] at h
  omega
theorem prt_108 {lv k : Nat} (h : PRT lv 108 k) : False := by
  have z' : (108 < 70 ∨ 108 = 71 ∨ 109 ≤ 108) ∨ (108 = 70 ∧ (k = 2 ∨ k = 17 ∨ k = 18 ∨ k = 62 ∨ k = 69)) ∨ (0 * lv ≤ k ∧ k < 0 * lv + 0) := h
  omega
theorem FRM_zy {sd : Nat} {J J1 : AI} {h f m q e cm ci wt : Nat → Int32} {br cd wl op : Nat} (hd : sd ≤ 1) (hB : ∀ j, (j < 130 * sd ∨ 130 * sd + 130 ≤ j) → h j = J 101 j ∧ f j = J 102 j ∧ m j = J 103 j ∧ q j = J 104 j ∧ e j = J 105 j) (hF : CFX sd (J 106) (J 107) cm ci) (h1 : J1 106 = J 106) (h2 : J1 107 = J 107) (hJ : FRM (1 - sd) (zm J h f m q e br) J1) : FRM (1 - sd) J (ym J1 cm ci cd wt wl op) := by
  have z1 : FRM (1 - sd) J (zm J h f m q e br) := by
    unfold zm
    refine FRM_u ?_ (np_s (Or.inl rfl))
    refine FRM_w ?_ (fun k hk => (hB k (prt_101 hd (by decide) hk)).2.2.2.2)
    refine FRM_w ?_ (fun k hk => (hB k (prt_101 hd (by decide) hk)).2.2.2.1)
    refine FRM_w ?_ (fun k hk => (hB k (prt_101 hd (by decide) hk)).2.2.1)
    refine FRM_w ?_ (fun k hk => (hB k (prt_101 hd (by decide) hk)).2.1)
    refine FRM_w (FRM_r _ _) (fun k hk => (hB k (prt_101 hd (by decide) hk)).1)
  have z2 := FRM_t z1 hJ
  unfold ym
  refine FRM_u (FRM_u (FRM_u ?_ (np_s (Or.inr (Or.inl rfl)))) (np_s (Or.inr (Or.inr (Or.inl rfl))))) (np_s (Or.inr (Or.inr (Or.inr rfl))))
  refine FRM_w ?_ (fun k hk => (prt_108 hk).elim)
  refine FRM_w ?_ (fun k hk => by
    rw [upr_n (by decide), h2]
    exact (hF k (prt_106 hd (Or.inr rfl) hk)).2)
  refine FRM_w z2 (fun k hk => by
    rw [h1]
    exact (hF k (prt_106 hd (Or.inl rfl) hk)).1)
theorem FRC_11 {s : Nat} {I I' : AI} {L L' : AL} (h : FRC s I I' L L') {T : Nat → Int32} : FRC s I (upr I' 11 T) L L' := by
  refine ⟨fun b h1 h2 h3 h4 h5 => ?_, h.2⟩
  rw [upr_n h4]
  exact h.1 b h1 h2 h3 h4 h5
theorem st_Law {kd pl vl mv : Nat → Nat} {n : Nat} {K3 K4 : Nat → Int32} {K5 : Nat → Int64} {M3 M4 M5 : Nat → Int32} {M6 : Nat → Int64} (hT : TOK kd pl vl mv n K3 K4 K5 M3 M4 M5 M6) {t s sd : Nat} (hs : s = 32 ∨ s = 51) (hd : sd ≤ 1) {c so nu : Nat → Nat} {len : Nat} {Bs : Nat → List (Cd × Cd × Cd)} {Es : Nat → Cd} {I : AI} {L : AL} {S : PS} {Q : PQ} (hC : CW K3 K4 K5 s c so nu len Bs Es I L S.1) (e0 : S.2.1 = 0) (hx : S.1 ≤ n) (hbn : BND pl S) {kk : Nat} (hk : kk < 4) (hq : kd S.1 = kk + 6) (hQ : ∀ I' L' S', STL kd pl vl mv n K3 K4 K5 M3 M4 M5 M6 s sd c so nu Bs Es I L S I' L' S' → Q none 123 (wr I' S') L' (RX t (some s))) : V 38 0 [.ref 7, .int (nI (kk + 6)), .retAddr 0, .retAddr 0, .retAddr 0] [] 123 (wr I S) L (RX t (some s)) Q := by
  have hC' := hC
  obtain ⟨⟨a3, a4, a5⟩, ⟨b0, b1, b2, b3, b4⟩, ⟨l0, l1, l2, l3, l4⟩, c6, cN, cM, cD, ⟨p1, p2, p3⟩, pL⟩ := hC'
  have hn := hT.1.1
  refine c_readLaw hs hT.1 a3 a4 a5 hT.2.2.1 hk hx p1 p3 (fun _ => p2) (fun mk' len' wt' wl' hl8 hD => hQ _ _ _ ?_)
  have X1 : (takeP kd pl (kk + 6) S).1 ≤ n := take_le hT.1 (by omega) hx
  have X2 : (takeP kd pl 26 (takeP kd pl (kk + 6) S)).1 ≤ n := take_le hT.1 (by decide) X1
  have PX := law_le (pl := pl) hT.1 4 _ X2
  refine ⟨PX, BND_mo hbn (fun f => ⟨e0, by have := (hD f).2.2.2.2; omega⟩) (by rw [law_l, take_l, take_l]), ?_, c, so, nu, len', upr Bs kk (lawP kd pl vl 4 (takeP kd pl 26 (takeP kd pl (kk + 6) S))).2.1, upr Es kk (lawP kd pl vl 4 (takeP kd pl 26 (takeP kd pl (kk + 6) S))).2.2, fun f => ?_, fun t u J M Z Qm hSE hg hM hCl hQm => ?_⟩
  · unfold xm
    repeat' (first | exact FRC_r _ _ _ | (refine FRC_u ?_ (by omega)) | (refine FRC_w ?_ (by omega)) | (refine FRC_11 ?_))
  · obtain ⟨g1, g2, g3, g4, g5⟩ := hD f
    have lt := CREP_lt _ _ g4
    refine ⟨by omega, ?_⟩
    have lw : ∀ j, j < 4 → ∃ st, st < 408 ∧ upr (I (s + 18)) kk (nI len) j = nI st ∧ CREP mk' len' st (upr Bs kk (lawP kd pl vl 4 (takeP kd pl 26 (takeP kd pl (kk + 6) S))).2.1 j) (upr Es kk (lawP kd pl vl 4 (takeP kd pl 26 (takeP kd pl (kk + 6) S))).2.2 j) := fun j hj => by
      by_cases e : j = kk
      · subst e
        rw [upr_s, upr_s, upr_s]
        exact ⟨len, by omega, rfl, g4⟩
      · rw [upr_n e, upr_n e, upr_n e]
        obtain ⟨st, q1, q2, q3⟩ := pL j hj
        exact ⟨st, q1, q2, CREP_keep g3 g1 _ _ q3⟩
    unfold xm
    rcases hs with rfl | rfl
    · refine ⟨⟨?_, ?_, a5⟩, ⟨?_, ?_, ?_, ?_, ?_⟩, ⟨l0, l1, l2, l3, l4⟩, ?_, fun i hi => ?_, cM, fun j hj => ?_, ⟨?_, by omega, hl8⟩, fun j hj => ?_⟩
      · simp (config := { decide := true, maxDischargeDepth := 20 }) only [up2_s, up2_n, upr_s, upr_n, ne_eq, not_false_eq_true, Nat.reduceAdd]; exact a3
      · simp (config := { decide := true, maxDischargeDepth := 20 }) only [up2_s, up2_n, upr_s, upr_n, ne_eq, not_false_eq_true, Nat.reduceAdd]; exact a4
      · simp (config := { decide := true, maxDischargeDepth := 20 }) only [up2_s, up2_n, upr_s, upr_n, ne_eq, not_false_eq_true, Nat.reduceAdd]; exact b0
      · simp (config := { decide := true, maxDischargeDepth := 20 }) only [up2_s, up2_n, upr_s, upr_n, ne_eq, not_false_eq_true, Nat.reduceAdd]; exact b1
      · simp (config := { decide := true, maxDischargeDepth := 20 }) only [up2_s, up2_n, upr_s, upr_n, ne_eq, not_false_eq_true, Nat.reduceAdd]; exact b2
      · simp (config := { decide := true, maxDischargeDepth := 20 }) only [up2_s, up2_n, upr_s, upr_n, ne_eq, not_false_eq_true, Nat.reduceAdd]; exact b3
      · simp (config := { decide := true, maxDischargeDepth := 20 }) only [up2_s, up2_n, upr_s, upr_n, ne_eq, not_false_eq_true, Nat.reduceAdd]; exact b4
      · simp (config := { decide := true, maxDischargeDepth := 20 }) only [up2_s, up2_n, upr_s, upr_n, ne_eq, not_false_eq_true, Nat.reduceAdd]; exact c6
      · simp (config := { decide := true, maxDischargeDepth := 20 }) only [up2_s, up2_n, upr_s, upr_n, ne_eq, not_false_eq_true, Nat.reduceAdd]; exact cN i hi
      · simp (config := { decide := true, maxDischargeDepth := 20 }) only [up2_s, up2_n, upr_s, upr_n, ne_eq, not_false_eq_true, Nat.reduceAdd]; exact cD j hj
      · simp (config := { decide := true, maxDischargeDepth := 20 }) only [up2_s, up2_n, upr_s, upr_n, ne_eq, not_false_eq_true, Nat.reduceAdd]
      · have := lw j hj
        simp (config := { decide := true, maxDischargeDepth := 20 }) only [up2_s, up2_n, upr_s, upr_n, ne_eq, not_false_eq_true, Nat.reduceAdd]
        exact this
    · refine ⟨⟨?_, ?_, a5⟩, ⟨?_, ?_, ?_, ?_, ?_⟩, ⟨l0, l1, l2, l3, l4⟩, ?_, fun i hi => ?_, cM, fun j hj => ?_, ⟨?_, by omega, hl8⟩, fun j hj => ?_⟩
      · simp (config := { decide := true, maxDischargeDepth := 20 }) only [up2_s, up2_n, upr_s, upr_n, ne_eq, not_false_eq_true, Nat.reduceAdd]; exact a3
      · simp (config := { decide := true, maxDischargeDepth := 20 }) only [up2_s, up2_n, upr_s, upr_n, ne_eq, not_false_eq_true, Nat.reduceAdd]; exact a4
      · simp (config := { decide := true, maxDischargeDepth := 20 }) only [up2_s, up2_n, upr_s, upr_n, ne_eq, not_false_eq_true, Nat.reduceAdd]; exact b0
      · simp (config := { decide := true, maxDischargeDepth := 20 }) only [up2_s, up2_n, upr_s, upr_n, ne_eq, not_false_eq_true, Nat.reduceAdd]; exact b1
      · simp (config := { decide := true, maxDischargeDepth := 20 }) only [up2_s, up2_n, upr_s, upr_n, ne_eq, not_false_eq_true, Nat.reduceAdd]; exact b2
      · simp (config := { decide := true, maxDischargeDepth := 20 }) only [up2_s, up2_n, upr_s, upr_n, ne_eq, not_false_eq_true, Nat.reduceAdd]; exact b3
      · simp (config := { decide := true, maxDischargeDepth := 20 }) only [up2_s, up2_n, upr_s, upr_n, ne_eq, not_false_eq_true, Nat.reduceAdd]; exact b4
      · simp (config := { decide := true, maxDischargeDepth := 20 }) only [up2_s, up2_n, upr_s, upr_n, ne_eq, not_false_eq_true, Nat.reduceAdd]; exact c6
      · simp (config := { decide := true, maxDischargeDepth := 20 }) only [up2_s, up2_n, upr_s, upr_n, ne_eq, not_false_eq_true, Nat.reduceAdd]; exact cN i hi
      · simp (config := { decide := true, maxDischargeDepth := 20 }) only [up2_s, up2_n, upr_s, upr_n, ne_eq, not_false_eq_true, Nat.reduceAdd]; exact cD j hj
      · simp (config := { decide := true, maxDischargeDepth := 20 }) only [up2_s, up2_n, upr_s, upr_n, ne_eq, not_false_eq_true, Nat.reduceAdd]
      · have := lw j hj
        simp (config := { decide := true, maxDischargeDepth := 20 }) only [up2_s, up2_n, upr_s, upr_n, ne_eq, not_false_eq_true, Nat.reduceAdd]
        exact this
  · have ez : Z.2.1 = 0 := by rw [← hSE.1]; exact e0
    have xz : Z.1 = S.1 := (hSE.2.2 e0).1.symm
    have hM' := hM
    obtain ⟨⟨m3, m4, m5, m6⟩, ⟨d0, d1, d2, d3, d4⟩, ⟨c19, c20⟩, mN, mD, mL⟩ := hM'
    obtain ⟨br, cd, h44, r1, r2, h50, r3, r4, h12, r5, r6⟩ := mL
    have SE1 : SE (takeP kd pl (kk + 6) S) (takeP kd pl (kk + 6) Z) := SE_take hSE
    have G1 : GS n (takeP kd pl (kk + 6) Z) := GS_take hT.2.1 (by omega) hg
    have SE2 := SE_take (kd := kd) (pl := pl) (q := 26) SE1
    have SEL := law_SE (kd := kd) (pl := pl) (vl := vl) 4 _ _ SE2
    have y1 := inT (a := Z.1) (N := 403) (by omega) (by decide)
    have y2 := nI_clamp (n := Z.1) (by omega)
    have y3 : M3 Z.1 = nI (26 + kk) := by
      rw [(hT.2.1.2.1 Z.1 hg.1).1, xz, hq]
      unfold kM
      rw [if_pos (by omega)]
      congr 1
      omega
    have tg : goP pl Z = takeP kd pl (kk + 6) Z := by rw [take_is, if_pos (by unfold isP; rw [decide_eq_true ez, decide_eq_true (xz ▸ hq)]; rfl)]
    have ne : ∀ v : Nat, (v < 26 ∨ v = 30) → (nI (26 + kk) = nI v) = False := fun v hv => eq_false (fun z => by have := (nI_eq (a := 26 + kk) (b := v) (by omega) (by omega)).mp z; omega)
    have n20 : (nI (26 + kk) = (20 : Int32)) = False := ne 20 (by decide)
    have n21 : (nI (26 + kk) = (21 : Int32)) = False := ne 21 (by decide)
    have n22 : (nI (26 + kk) = (22 : Int32)) = False := ne 22 (by decide)
    have n23 : (nI (26 + kk) = (23 : Int32)) = False := ne 23 (by decide)
    have n24 : (nI (26 + kk) = (24 : Int32)) = False := ne 24 (by decide)
    have n25 : (nI (26 + kk) = (25 : Int32)) = False := ne 25 (by decide)
    have n30 : (nI (26 + kk) = (30 : Int32)) = False := ne 30 (by decide)
    have s26 : nI (26 + kk) - 26 = nI kk := by rw [show (26 : Int32) = nI 26 from rfl, pk_sub (a := 26 + kk) (b := 26) (by omega), show 26 + kk - 26 = kk by omega]
    have lt0 : (nI kk < (0 : Int32)) = False := ltF (a := kk) (b := 0) (by omega) (by omega)
    have le29 : (nI (26 + kk) ≤ (29 : Int32)) = True := leT (a := 26 + kk) (b := 29) (by omega) (by omega)
    have f0 := (f_cases hg).resolve_right (fun h => h.1 ez)
    simp (config := { decide := true, maxDischargeDepth := 20 }) only [↓reduceIte, KV_i, KV_v, wsm_0, wsm_i, wsm_l, wsm_r, dlV_i, dlV_r, dlV_l, dlV_j, cat_i, cat_l, cat_r, rf_s, true_and, and_true, and_self, if_true, if_false, ite_true, ite_false, eq_self, true_or, or_true, false_or, or_false, not_true_eq_false, not_false_eq_true, vn_0_45, vn_1_45, vn_2_45, vn_3_45, vn_4_45, vn_5_45, vn_6_45, vn_7_45, vn_8_45, vn_36_48, vn_37_48, vn_38_48, vn_39_48, vn_40_48, vn_41_48, vn_42_48, vn_43_48, vn_44_48, vn_0_9, vn_1_9, vn_2_9, vn_3_9, vn_4_9, vn_5_9, vn_6_9, vn_7_9, vn_8_9, vn_0_3, vn_1_3, vn_2_3, vn_0_4, vn_1_4, vn_2_4, vn_3_4, vn_0_64, vn_0_16, vn_0_400, vn_0_6, vn_0_14, Int32.reduceToNatClampNeg, Int32.reduceAdd, Int32.reduceSub, Int32.reduceMul, Int32.reduceLE, Int32.reduceLT, Nat.reduceAdd, nr_2, nr_30, nr_31, rd_2, rd_14, rd_71, rd_72, rd_101, rd_116, rd_121, up2_s, up2_n, upr_s, upr_n, ne_eq, not_false_eq_true, ob_70, rx_70_1, rx_70_3, rx_70_5, rx_70_6, rx_70_7, rx_70_8, rx_70_9, rx_70_21, rx_70_22, rx_70_23, rx_70_24, rx_70_25, rx_70_26, rx_70_27, rx_70_28, rx_70_29, rx_70_30, rx_70_31, rx_70_32, rx_70_33, rx_70_34, rx_70_35, rx_70_36, rx_70_37, rx_70_38, rx_70_39, rx_70_40, rx_70_41, rx_70_42, rx_70_43, rx_70_45, rx_70_46, rx_70_47, rx_70_48, rx_70_49, rx_70_51, rx_70_52, rx_70_53, rx_70_55, rx_70_56, rx_70_58, rx_70_59, rx_70_60, rx_70_61, rx_70_63, rx_70_64, rx_70_65, rx_70_70, rx_70_71, rx_70_72, rx_70_73, rx_70_74, r159_0, r159_1, r159_4, r159_5, r159_8, r159_68, r159_69, r159_70, r159_73, r159_74, r159_77, r159_78, r159_80, r159_83, r159_84, r159_87, r159_90, r159_91, r159_94, r159_97, r159_98, r159_99, r159_102, r159_103, r159_106, r159_107, r159_109, r159_112, r159_113, r159_116, r159_119, r159_120, r159_123, r159_126, r159_127, r159_128, r159_131, r159_132, r159_135, r159_136, r159_138, r159_141, r159_142, r159_145, r159_148, r159_149, r159_152, r159_155, r159_156, r159_157, r159_160, r159_161, r159_164, r159_165, r159_167, r159_170, r159_171, r159_174, r159_177, r159_178, r159_181, r159_184, r159_185, r159_186, r159_189, r159_190, r159_193, r159_194, r159_195, r159_198, r159_199, r159_202, r159_205, r159_206, r159_209, r159_212, r159_213, r159_214, r159_217, r159_218, r159_221, r159_222, r159_223, r159_226, r159_227, r159_230, r159_233, r159_234, r159_237, r159_240, r159_241, r159_244, r159_245, r159_248, r159_249, r159_252, r159_253, r159_254, r159_257, r159_260, r159_261, r159_262, r159_263, r159_266, r159_269, r159_270, r159_273, r159_274, r159_277, r159_278, r159_280, r159_281, r159_282, r159_283, r159_286, r159_287, r159_290, r159_291, r159_294, r159_295, r159_297, r159_300, r159_301, r159_302, r159_305, r159_306, r159_309, r159_312, r159_313, r159_314, r159_317, r159_318, r159_319, r159_322, r159_9, tg_73, ln_73, wm_11, wm_13, wm_14, wm_15, wm_16, wm_4, wm_12, wm_18, wm_19, wm_20, wm_44, wm_50, wm_54, wm_n, wm_up, wm_u11, wm_u13, wm_u14, wm_u15, wm_u16, wm_u12, wm_u18, wm_u19, wm_u20, wm_u44, wm_u50, wm_u54, m_goesOn hT.2.1, m3, m4, hg, ez, f0.2, y1, y2, y3, tg, n20, n21, n22, n23, n24, n25, n30, s26, lt0, le29, ite_self]
    refine m_tellLaw hd hT.2.1 m3 m4 m5 hT.2.2.1 G1 c19 h44 h50 h12 hk r1 (by omega) r3 (fun f => by have := (take_0 f).1; rw [this]; show cd ≤ 420 * sd + (Z.1 + 1); omega) (fun h' f' m' q' e' br' cm' ci' cd' wt' wl' g1 g2 g3 g4 g5 g6 g7 g8 g9 => ?_) (fun Z' h' f' m' q' e' br' cm' ci' cd' wt' wl' op' g1 g2 g3 g4 g5 => ?_)
    · simp (config := { decide := true, maxDischargeDepth := 20 }) only [↓reduceIte, KV_i, KV_v, wsm_0, wsm_i, wsm_l, wsm_r, dlV_i, dlV_r, dlV_l, dlV_j, cat_i, cat_l, cat_r, rf_s, true_and, and_true, and_self, if_true, if_false, ite_true, ite_false, eq_self, true_or, or_true, false_or, or_false, not_true_eq_false, not_false_eq_true, vn_0_45, vn_1_45, vn_2_45, vn_3_45, vn_4_45, vn_5_45, vn_6_45, vn_7_45, vn_8_45, vn_36_48, vn_37_48, vn_38_48, vn_39_48, vn_40_48, vn_41_48, vn_42_48, vn_43_48, vn_44_48, vn_0_9, vn_1_9, vn_2_9, vn_3_9, vn_4_9, vn_5_9, vn_6_9, vn_7_9, vn_8_9, vn_0_3, vn_1_3, vn_2_3, vn_0_4, vn_1_4, vn_2_4, vn_3_4, vn_0_64, vn_0_16, vn_0_400, vn_0_6, vn_0_14, Int32.reduceToNatClampNeg, Int32.reduceAdd, Int32.reduceSub, Int32.reduceMul, Int32.reduceLE, Int32.reduceLT, Nat.reduceAdd, nr_2, nr_30, nr_31, rd_2, rd_14, rd_71, rd_72, rd_101, rd_116, rd_121, up2_s, up2_n, upr_s, upr_n, ne_eq, not_false_eq_true, ob_70, rx_70_1, rx_70_3, rx_70_5, rx_70_6, rx_70_7, rx_70_8, rx_70_9, rx_70_21, rx_70_22, rx_70_23, rx_70_24, rx_70_25, rx_70_26, rx_70_27, rx_70_28, rx_70_29, rx_70_30, rx_70_31, rx_70_32, rx_70_33, rx_70_34, rx_70_35, rx_70_36, rx_70_37, rx_70_38, rx_70_39, rx_70_40, rx_70_41, rx_70_42, rx_70_43, rx_70_45, rx_70_46, rx_70_47, rx_70_48, rx_70_49, rx_70_51, rx_70_52, rx_70_53, rx_70_55, rx_70_56, rx_70_58, rx_70_59, rx_70_60, rx_70_61, rx_70_63, rx_70_64, rx_70_65, rx_70_70, rx_70_71, rx_70_72, rx_70_73, rx_70_74, r159_0, r159_1, r159_4, r159_5, r159_8, r159_68, r159_69, r159_70, r159_73, r159_74, r159_77, r159_78, r159_80, r159_83, r159_84, r159_87, r159_90, r159_91, r159_94, r159_97, r159_98, r159_99, r159_102, r159_103, r159_106, r159_107, r159_109, r159_112, r159_113, r159_116, r159_119, r159_120, r159_123, r159_126, r159_127, r159_128, r159_131, r159_132, r159_135, r159_136, r159_138, r159_141, r159_142, r159_145, r159_148, r159_149, r159_152, r159_155, r159_156, r159_157, r159_160, r159_161, r159_164, r159_165, r159_167, r159_170, r159_171, r159_174, r159_177, r159_178, r159_181, r159_184, r159_185, r159_186, r159_189, r159_190, r159_193, r159_194, r159_195, r159_198, r159_199, r159_202, r159_205, r159_206, r159_209, r159_212, r159_213, r159_214, r159_217, r159_218, r159_221, r159_222, r159_223, r159_226, r159_227, r159_230, r159_233, r159_234, r159_237, r159_240, r159_241, r159_244, r159_245, r159_248, r159_249, r159_252, r159_253, r159_254, r159_257, r159_260, r159_261, r159_262, r159_263, r159_266, r159_269, r159_270, r159_273, r159_274, r159_277, r159_278, r159_280, r159_281, r159_282, r159_283, r159_286, r159_287, r159_290, r159_291, r159_294, r159_295, r159_297, r159_300, r159_301, r159_302, r159_305, r159_306, r159_309, r159_312, r159_313, r159_314, r159_317, r159_318, r159_319, r159_322, r159_9]
      have pe := SEL.2.symm
      refine hQm _ _ _ SEL.1 g2 ?_ (fun _ _ _ => rfl) (fun f => ?_)
      · exact FRM_zy hd g9 g8 rfl rfl (FRM_u (FRM_u (FRM_r _ _) (np_99 hd hk (Or.inl rfl))) (np_99 hd hk (Or.inr rfl)))
      · obtain ⟨k1, k2, k3, k4, k5⟩ := hD f
        have px : (lawP kd pl vl 4 (takeP kd pl 26 (takeP kd pl (kk + 6) Z))).1.1 = (lawP kd pl vl 4 (takeP kd pl 26 (takeP kd pl (kk + 6) S))).1.1 := (SEL.1.2.2 f).1.symm
        rw [pe] at g3 g7
        rw [px] at g5
        refine ⟨⟨⟨m3, m4, m5, m6⟩, ⟨d0, d1, d2, d3, d4⟩, ⟨c19, c20⟩, mN, mD, ?_⟩, fun lz => ?_⟩
        · refine ⟨br', cd', rfl, by omega, by omega, rfl, by omega, g5, rfl, fun b b1 b2 => ?_, fun j hj => ?_⟩
          · show ∃ z, z ≤ cd' ∧ e' b = nI z
            by_cases e : b < br
            · obtain ⟨z, z1, z2⟩ := r5 b b1 e
              exact ⟨z, by omega, (g6.1 b e).2.2.2.2.trans z2⟩
            · exact g6.2.2 b (by omega) b2
          · show (upr (J 99) (4 * sd + kk) (nI br) (4 * sd + j) = upr (J 100) (4 * sd + kk) (nI br') (4 * sd + j) ∧ upr Bs kk (lawP kd pl vl 4 (takeP kd pl 26 (takeP kd pl (kk + 6) S))).2.1 j = [] ∧ upr Es kk (lawP kd pl vl 4 (takeP kd pl 26 (takeP kd pl (kk + 6) S))).2.2 j = dfE j) ∨ ∃ f l, upr (J 99) (4 * sd + kk) (nI br) (4 * sd + j) = nI f ∧ upr (J 100) (4 * sd + kk) (nI br') (4 * sd + j) = nI l ∧ MREP _ sd f l (upr Bs kk (lawP kd pl vl 4 (takeP kd pl 26 (takeP kd pl (kk + 6) S))).2.1 j) (upr Es kk (lawP kd pl vl 4 (takeP kd pl 26 (takeP kd pl (kk + 6) S))).2.2 j) ∧ l ≤ br'
            by_cases e : j = kk
            · subst e
              rw [upr_s, upr_s, upr_s, upr_s]
              exact Or.inr ⟨br, br', rfl, rfl, MREP_c (I := ym (zm J h' f' m' q' e' br') cm' ci' cd' wt' wl' 0) (J := ym (up2 (up2 (zm J h' f' m' q' e' br') 99 (4 * sd + j) (nI br)) 100 (4 * sd + j) (nI br')) cm' ci' cd' wt' wl' 0) (fun _ _ _ => ⟨rfl, rfl⟩) (fun _ _ _ => ⟨rfl, rfl, rfl, rfl, rfl⟩) _ _ _ g7, Nat.le_refl _⟩
            · have en : 4 * sd + j ≠ 4 * sd + kk := by omega
              rw [upr_n en, upr_n en, upr_n e, upr_n e]
              rcases r6 j hj with w | ⟨f1, l1, w1, w2, w3, w4⟩
              · exact Or.inl w
              · exact Or.inr ⟨f1, l1, w1, w2, MREP_keep hd (by omega) r5 (fun b hb => g6.1 b hb) (fun x hx => g6.2.1 x hx) _ _ _ w4 w3, by omega⟩
        · have l0' : S.2.2.2.1 = 0 := by rw [law_l, take_l, take_l] at lz; exact lz
          obtain ⟨hN, hP, hMe, hLe, hCr, hDi, hSe⟩ := hCl l0'
          unfold xm
          rcases hs with rfl | rfl
          · refine ⟨hN, ?_, ?_, ?_, ?_, ?_, ?_⟩
            · simp (config := { decide := true, maxDischargeDepth := 20 }) only [up2_s, up2_n, upr_s, upr_n, ne_eq, not_false_eq_true, Nat.reduceAdd]; exact hP
            · simp (config := { decide := true, maxDischargeDepth := 20 }) only [up2_s, up2_n, upr_s, upr_n, ne_eq, not_false_eq_true, Nat.reduceAdd]; exact hMe
            · simp (config := { decide := true, maxDischargeDepth := 20 }) only [up2_s, up2_n, upr_s, upr_n, ne_eq, not_false_eq_true, Nat.reduceAdd]; exact hLe
            · simp (config := { decide := true, maxDischargeDepth := 20 }) only [up2_s, up2_n, upr_s, upr_n, ne_eq, not_false_eq_true, Nat.reduceAdd]; exact hCr
            · simp (config := { decide := true, maxDischargeDepth := 20 }) only [up2_s, up2_n, upr_s, upr_n, ne_eq, not_false_eq_true, Nat.reduceAdd]; exact hDi
            · simp (config := { decide := true, maxDischargeDepth := 20 }) only [up2_s, up2_n, upr_s, upr_n, ne_eq, not_false_eq_true, Nat.reduceAdd]; exact hSe
          · refine ⟨hN, ?_, ?_, ?_, ?_, ?_, ?_⟩
            · simp (config := { decide := true, maxDischargeDepth := 20 }) only [up2_s, up2_n, upr_s, upr_n, ne_eq, not_false_eq_true, Nat.reduceAdd]; exact hP
            · simp (config := { decide := true, maxDischargeDepth := 20 }) only [up2_s, up2_n, upr_s, upr_n, ne_eq, not_false_eq_true, Nat.reduceAdd]; exact hMe
            · simp (config := { decide := true, maxDischargeDepth := 20 }) only [up2_s, up2_n, upr_s, upr_n, ne_eq, not_false_eq_true, Nat.reduceAdd]; exact hLe
            · simp (config := { decide := true, maxDischargeDepth := 20 }) only [up2_s, up2_n, upr_s, upr_n, ne_eq, not_false_eq_true, Nat.reduceAdd]; exact hCr
            · simp (config := { decide := true, maxDischargeDepth := 20 }) only [up2_s, up2_n, upr_s, upr_n, ne_eq, not_false_eq_true, Nat.reduceAdd]; exact hDi
            · simp (config := { decide := true, maxDischargeDepth := 20 }) only [up2_s, up2_n, upr_s, upr_n, ne_eq, not_false_eq_true, Nat.reduceAdd]; exact hSe
    · simp (config := { decide := true, maxDischargeDepth := 20 }) only [↓reduceIte, KV_i, KV_v, wsm_0, wsm_i, wsm_l, wsm_r, dlV_i, dlV_r, dlV_l, dlV_j, cat_i, cat_l, cat_r, rf_s, true_and, and_true, and_self, if_true, if_false, ite_true, ite_false, eq_self, true_or, or_true, false_or, or_false, not_true_eq_false, not_false_eq_true, vn_0_45, vn_1_45, vn_2_45, vn_3_45, vn_4_45, vn_5_45, vn_6_45, vn_7_45, vn_8_45, vn_36_48, vn_37_48, vn_38_48, vn_39_48, vn_40_48, vn_41_48, vn_42_48, vn_43_48, vn_44_48, vn_0_9, vn_1_9, vn_2_9, vn_3_9, vn_4_9, vn_5_9, vn_6_9, vn_7_9, vn_8_9, vn_0_3, vn_1_3, vn_2_3, vn_0_4, vn_1_4, vn_2_4, vn_3_4, vn_0_64, vn_0_16, vn_0_400, vn_0_6, vn_0_14, Int32.reduceToNatClampNeg, Int32.reduceAdd, Int32.reduceSub, Int32.reduceMul, Int32.reduceLE, Int32.reduceLT, Nat.reduceAdd, nr_2, nr_30, nr_31, rd_2, rd_14, rd_71, rd_72, rd_101, rd_116, rd_121, up2_s, up2_n, upr_s, upr_n, ne_eq, not_false_eq_true, ob_70, rx_70_1, rx_70_3, rx_70_5, rx_70_6, rx_70_7, rx_70_8, rx_70_9, rx_70_21, rx_70_22, rx_70_23, rx_70_24, rx_70_25, rx_70_26, rx_70_27, rx_70_28, rx_70_29, rx_70_30, rx_70_31, rx_70_32, rx_70_33, rx_70_34, rx_70_35, rx_70_36, rx_70_37, rx_70_38, rx_70_39, rx_70_40, rx_70_41, rx_70_42, rx_70_43, rx_70_45, rx_70_46, rx_70_47, rx_70_48, rx_70_49, rx_70_51, rx_70_52, rx_70_53, rx_70_55, rx_70_56, rx_70_58, rx_70_59, rx_70_60, rx_70_61, rx_70_63, rx_70_64, rx_70_65, rx_70_70, rx_70_71, rx_70_72, rx_70_73, rx_70_74, r159_0, r159_1, r159_4, r159_5, r159_8, r159_68, r159_69, r159_70, r159_73, r159_74, r159_77, r159_78, r159_80, r159_83, r159_84, r159_87, r159_90, r159_91, r159_94, r159_97, r159_98, r159_99, r159_102, r159_103, r159_106, r159_107, r159_109, r159_112, r159_113, r159_116, r159_119, r159_120, r159_123, r159_126, r159_127, r159_128, r159_131, r159_132, r159_135, r159_136, r159_138, r159_141, r159_142, r159_145, r159_148, r159_149, r159_152, r159_155, r159_156, r159_157, r159_160, r159_161, r159_164, r159_165, r159_167, r159_170, r159_171, r159_174, r159_177, r159_178, r159_181, r159_184, r159_185, r159_186, r159_189, r159_190, r159_193, r159_194, r159_195, r159_198, r159_199, r159_202, r159_205, r159_206, r159_209, r159_212, r159_213, r159_214, r159_217, r159_218, r159_221, r159_222, r159_223, r159_226, r159_227, r159_230, r159_233, r159_234, r159_237, r159_240, r159_241, r159_244, r159_245, r159_248, r159_249, r159_252, r159_253, r159_254, r159_257, r159_260, r159_261, r159_262, r159_263, r159_266, r159_269, r159_270, r159_273, r159_274, r159_277, r159_278, r159_280, r159_281, r159_282, r159_283, r159_286, r159_287, r159_290, r159_291, r159_294, r159_295, r159_297, r159_300, r159_301, r159_302, r159_305, r159_306, r159_309, r159_312, r159_313, r159_314, r159_317, r159_318, r159_319, r159_322, r159_9]
      have sf := FE_SE SEL.1 g2
      refine hQm _ _ _ sf g1 ?_ (fun _ _ _ => rfl) (fun f => absurd (sf.1.symm.trans f) g3)
      exact FRM_zy hd g5 g4 rfl rfl (FRM_r _ _)
