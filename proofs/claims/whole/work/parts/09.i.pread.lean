/-! READ: a pair, whole -/
def CE (B k lv sd : Nat) (c : Nat → Nat) (I : AI) (I1 : AI) (L1 : AL) (r : Option Value) (R1 : AR) (Mr : (Nat → Int32) × (Nat → Int32) × (Nat → Int32) × (Nat → Int64)) : Prop := ∃ n, n ≤ 400 ∧ (∀ j, j < n → kdT c k j < 34) ∧ (n = 400 ∨ 34 ≤ kdT c k n) ∧ (TMR (kdT c k) (plF c k) (vlT c k) (mvT c k) n Mr.1 Mr.2.1 Mr.2.2.1 Mr.2.2.2 → ∀ Q : PQ, (∀ I2 L2 t2 u2, INV t2 u2 I2 L2 (B + 5) → I2 1000 = I 1000 → I2 1001 = I 1001 → Q r 123 I2 L2 (RX t2 u2)) → ∀ X M' X1, MH lv sd I1 X → FRL L1 M' → X 73 = Mr.1 → X 74 = Mr.2.1 → X 75 = Mr.2.2.1 → M' 76 = Mr.2.2.2 → V 156 112 [.ref 70, X1] [] 123 X M' R1 Q)
/-- what the reference does from its first tell on, when the class is done -/
theorem rd_model {t s lv sd k n B np nm nl nc nd : Nat} {c : Nat → Nat} {I I0 I' J2 I1 : AI} {L Lt L' : AL} {S' : PS} {Lw : Nat → List Int32 → Int32} {K3 K4 : Nat → Int32} {K5 : Nat → Int64} {M3 M4 M5 : Nat → Int32} {M6 : Nat → Int64} {Jt : AI} (hts : (t = 32 ∧ s = 51) ∨ (t = 51 ∧ s = 32)) (hlv : (lv = 0 ∧ sd = 1) ∨ (lv = 1 ∧ sd = 0)) (hW : WORDS L) (hS : STX I t lv np nm nl nc nd Lw) (hD : DYN I t np nm nl B) (hTo : TOLD I t np nm) (hFT : FT I Jt L Lt)
  (hcl : CL0 s (up2 Jt 1 5 0) I0) (hen : ENL (kdT c k) (plF c k) (vlT c k) (mvT c k) n K3 K4 K5 M3 M4 M5 M6 s sd (fun _ => 0) (fun _ => 0) (fun _ => 0) (fun _ => []) dfE (up2 I0 7 6 0) Lt s00 I' L' S') (hfr : ∀ a, a ≠ 7 → a ≠ s + 13 → J2 a = I' a) (hlow : rsV S' = 0 → ∀ nd, nd ≤ 4 → I' s 18 = nI nd → LOW J2 s nd)
  (hbad : rsV S' ≠ 0 → I1 = up2 J2 0 14 (rsP S')) (hgood : rsV S' = 0 → I1 = up2 (up2 (up2 (up2 (up2 (upr (up2 J2 0 14 (rsP S')) 13 (upr (zN (J2 13) 45) 0 (-2))) 12 5 0) 14 0 0) 14 1 0) 14 2 0) 0 13 0)
  {Q : PQ} (hQ : ∀ I2 L2 t2 u2, INV t2 u2 I2 L2 (B + 5) → I2 1000 = I 1000 → I2 1001 = I 1001 → Q (some (.int (rsV S'))) 123 I2 L2 (RX t2 u2)) {X : AI} {M' : AL} {X1 : Value} (hMH : MH lv sd I1 X) (hFL : FRL L' M') (x73 : X 73 = M3) (x74 : X 74 = M4) (x75 : X 75 = M5) (x76 : M' 76 = M6) : V 156 112 [.ref 70, X1] [] 123 X M' (RX (if rsV S' = 0 then s else t) (some s)) Q := by
  have hs : s = 32 ∨ s = 51 := by omega
  have hd : sd ≤ 1 := by omega
  have h1s : 1 - sd = lv := by omega
  obtain ⟨_, hbn, hFC, c', so', nu', len', Bs', Es', hC', hmod⟩ := hen
  obtain ⟨hfx, x2, ⟨c0, c1, c2, c3, c4, c5⟩, x19, x20, x44, x50, x12, ⟨x11, x13, x15⟩, x99⟩ := hMH
  have cj : ∀ a, a ≠ 1 → a ≠ 3 → a ≠ 4 → a ≠ 7 → a ≠ 9 → a ≠ 10 → a ≠ 11 → (a < s ∨ s + 18 < a) → J2 a = I a := fun a a1 a3 a4 a7 a9 a10 a11 h => by
    rw [hfr a a7 (by omega), hFC.1 a a7 a9 a10 a11 h, up2_n a7, hcl.2.2.2.2 a (by omega) (by omega) (by omega) (by omega), up2_n a1]
    exact hFT.1 a a3 a4
  have j15 : J2 1 5 = 0 := by
    rw [hfr 1 (by decide) (by omega), hFC.1 1 (by decide) (by decide) (by decide) (by decide) (by omega), up2_n (by decide), hcl.2.2.2.2 1 (by omega) (by omega) (by omega) (by omega), up2_s, upr_s]
  have i1h : ∀ a, 70 ≤ a → I1 a = I a := fun a ha => by
    have e : I1 a = J2 a := by
      by_cases z : rsV S' = 0
      · rw [hgood z, up2_n (by omega), up2_n (by omega), up2_n (by omega), up2_n (by omega), up2_n (by omega), upr_n (by omega), up2_n (by omega)]
      · rw [hbad z, up2_n (by omega)]
    rw [e]
    exact cj a (by omega) (by omega) (by omega) (by omega) (by omega) (by omega) (by omega) (by omega)
  have l6 : L' 6 = L 6 := by rw [hFC.2 6 (by decide)]; exact hFT.2 6 (by decide)
  have l77 : L' 77 = L 77 := by rw [hFC.2 77 (by decide)]; exact hFT.2 77 (by decide)
  have hw : wm X (0, 0, X 70 14, 0, X 70 16) = X := wm_id x11 x13 rfl x15 rfl
  have main := hmod (if rsV S' = 0 then s else t) (some s) X M' (0, 0, X 70 14, 0, X 70 16) Q X1 ⟨rfl, fun z => absurd rfl z, fun _ => ⟨rfl, rfl, fun z => absurd rfl z⟩⟩ ⟨Nat.zero_le _, Or.inl rfl⟩ (fun _ => ⟨⟨x73, x74, x75, x76⟩, ⟨c0, c1, c2, c3, c4⟩, ⟨x19, x20⟩, fun i hi => absurd hi (Nat.not_lt_zero _), fun i hi => absurd hi (Nat.not_lt_zero _), 130 * sd, 420 * sd, x44, Nat.le_refl _, by omega, x50, Nat.le_refl _, by omega, x12, fun b b1 b2 => absurd b2 (by omega), fun j hj => Or.inl ⟨x99 j hj, rfl, rfl⟩⟩) (fun _ _ => ⟨⟨fun i hi => absurd hi (Nat.not_lt_zero _), fun i j hi => absurd hi (Nat.not_lt_zero _)⟩, fun i hi => absurd hi (Nat.not_lt_zero _), fun i hi => absurd hi (Nat.not_lt_zero _), fun i hi => absurd hi (Nat.not_lt_zero _), fun i hi => absurd hi (Nat.not_lt_zero _), fun i hi => absurd hi (Nat.not_lt_zero _), ⟨0, by decide, by rw [up2_n (by omega)]; exact hcl.1.2.2.2.2.2⟩, by rw [up2_n (by omega), hcl.1.2.2.2.2.2]; exact c5⟩) (fun J' M2 Z' q1 q2 q3 q4 q5 => ?_)
  · rw [hw] at main
    exact main
  · rw [h1s] at q3
    -- the reference's cells at the end of the loop, against the ones before the call
    have jP : ∀ a j, 70 ≤ a → PRT lv a j → ¬ (a = 70 ∧ j = 2) → J' a j = I a j := fun a j ha hp hn => by
      rw [q3 a j hp, hfx a j hp hn, i1h a ha]
    have jL : ∀ a, a < 70 → J' a = I1 a := fun a ha => funext fun j => by
      rw [q3 a j (Or.inl (Or.inl ha)), hfx a j (Or.inl (Or.inl ha)) (by omega)]
    have j2 : J' 70 2 = 0 := by rw [q3 70 2 (Or.inr (Or.inl ⟨rfl, Or.inl rfl⟩))]; exact x2
    have m6 : M2 6 = L 6 := by rw [q4 6 (by decide) (by decide), hFL 6 (by decide) (by decide)]; exact l6
    have m77 : M2 77 = L 77 := by rw [q4 77 (by decide) (by decide), hFL 77 (by decide) (by decide)]; exact l77
    have bad : ∀ pv, rsV S' ≠ 0 → rsP S' = pv → INV t (some s) (up2 (wm J' Z') 70 17 pv) M2 (B + 5) ∧ (up2 (wm J' Z') 70 17 pv) 1000 = I 1000 ∧ (up2 (wm J' Z') 70 17 pv) 1001 = I 1001 := fun pv hv hpv => by
      have hh : ∀ a, 109 ≤ a → up2 (wm J' Z') 70 17 pv a = I a := fun a ha => by
        rw [up2_n (by omega), wm_n (by omega)]
        exact funext fun j => jP a j (by omega) (Or.inl (by omega)) (by omega)
      refine ⟨INV_bad hts hW hS hD hTo (fun a a0 a1 a2 a3 a4 a5 a6 a7 a8 a9 => ?_) (fun a j ha hp hn => ?_) ?_ ?_ ?_ ?_ m6 m77, hh 1000 (by decide), hh 1001 (by decide)⟩
      · rw [up2_n (by omega), wm_n (by omega), jL a a0, hbad hv, up2_n a1]
        exact cj a a2 a3 a4 a5 a6 a7 a8 a9
      · by_cases e : a = 70
        · subst e
          have hj : j = 18 ∨ j = 62 ∨ j = 69 := by
            have hz : (70 < 70 ∨ 70 = 71 ∨ 109 ≤ 70) ∨ (70 = 70 ∧ (j = 2 ∨ j = 17 ∨ j = 18 ∨ j = 62 ∨ j = 69)) ∨ (0 * lv ≤ j ∧ j < 0 * lv + 0) := hp
            omega
          rw [up2_s, upr_n (by omega)]
          have : wm J' Z' 70 j = J' 70 j := by rcases hj with rfl | rfl | rfl <;> rfl
          rw [this]
          exact jP 70 j (by decide) hp (by omega)
        · rw [up2_n e, wm_n e]
          exact jP a j ha hp (by omega)
      · rw [up2_n (by decide), wm_n (by decide), jL 0 (by decide), hbad hv, up2_s, upr_n (by decide)]
        rw [cj 0 (by decide) (by decide) (by decide) (by decide) (by decide) (by decide) (by decide) (by omega)]
      · rw [up2_n (by decide), wm_n (by decide), jL 1 (by decide), hbad hv, up2_n (by decide)]
        exact j15
      · rw [up2_s, upr_n (by decide)]
        exact j2
      · rw [up2_n (by decide), wm_n (by decide), jL 0 (by decide), hbad hv, up2_s, upr_s, up2_s, upr_s]
        exact hpv
    by_cases f : S'.2.1 = 0
    · have fz : Z'.2.1 = 0 := by rw [← q1.1]; exact f
      obtain ⟨w1, w2, w3⟩ := q1.2.2 f
      by_cases g : S'.2.2.2.1 = 0
      · have rv : rsV S' = 0 := by unfold rsV; rw [if_pos f]; exact g
        have rp : rsP S' = -1 := by unfold rsP; rw [if_pos f]; exact hbn.2 g
        have gz : Z'.2.2.2.1 = 0 := by rw [← w2]; exact g
        have hC := hC' f
        obtain ⟨hM', hN'⟩ := q5 f
        have hN' := hN' g
        have j19 := hM'.2.2.1.1
        rw [m_t3 q2 j19 fz gz, if_pos rv]
        rw [rv] at hQ
        generalize hY : up2 (up2 (wm J' Z') 70 17 (-1)) 70 18 (nI sd) = Y
        have ya : ∀ a, a ≠ 70 → Y a = J' a := fun a ha => by rw [← hY, up2_n ha, up2_n ha, wm_n ha]
        have ta : ∀ a, a ≠ 70 → a ≠ 111 → a ≠ 112 → a ≠ 121 → tlM Y a = J' a := fun a a1 a2 a3 a4 => by
          unfold tlM
          rw [up2_n a4, up2_n a4, up2_n a4, up2_n a1, up2_n a1, upr_n a2, upr_n a3, ya a a1]
        have tk : ∀ j, j ≠ 62 → j ≠ 69 → tlM Y 70 j = Y 70 j := fun j j1 j2 => by
          unfold tlM
          rw [up2_n (by decide), up2_n (by decide), up2_n (by decide), up2_s, upr_n j2, up2_s, upr_n j1, upr_n (by decide), upr_n (by decide)]
        have tl : ∀ a, a < 70 → tlM Y a = I1 a := fun a ha => by rw [ta a (by omega) (by omega) (by omega) (by omega)]; exact jL a ha
        have hg := hgood rv
        have i1a : ∀ a, a < 70 → a ≠ 0 → a ≠ 12 → a ≠ 13 → a ≠ 14 → I1 a = J2 a := fun a _ b0 b1 b2 b3 => by
          rw [hg, up2_n b0, up2_n b3, up2_n b3, up2_n b3, up2_n b1, upr_n b2, up2_n b0]
        have hh : ∀ a, 123 ≤ a → tlM Y a = I a := fun a ha => by
          rw [ta a (by omega) (by omega) (by omega) (by omega)]
          exact funext fun j => jP a j (by omega) (Or.inl (by omega)) (by omega)
        refine hQ _ _ _ _ (INV_good (F := J2 13) (F1 := Y 111) (F2 := Y 112) hs hd hC hM' hN' (fun a a1 a2 a3 => ?_) (fun a a1 a2 => ta a (by omega) (by omega) (by omega) (by omega)) ?_ ?_ ?_ ?_ ?_ ?_ ?_ (fun z hz => ?_) (fun z hz => ?_) ?_ ?_ ?_ ?_ ?_ ?_) (hh 1000 (by decide)) (hh 1001 (by decide))
        · rw [tl a (by omega), i1a a (by omega) (by omega) (by omega) (by omega) (by omega)]
          exact hfr a (by omega) a3
        · rw [tk 18 (by decide) (by decide), ← hY, up2_s, upr_s]
        · have hl := hlow rv (c' 4) hC.2.2.1.2.2.2.2 hC.2.1.2.2.2.2
          intro a b ha hb
          rw [tl (s + 13) (by omega), tl (s + 12) (by omega), i1a (s + 13) (by omega) (by omega) (by omega) (by omega) (by omega), i1a (s + 12) (by omega) (by omega) (by omega) (by omega) (by omega)]
          exact hl a b ha hb
        · rw [tl 13 (by decide), hg, up2_n (by decide), up2_n (by decide), up2_n (by decide), up2_n (by decide), up2_n (by decide), upr_s]
        · unfold tlM
          rw [up2_n (by decide), up2_n (by decide), up2_n (by decide), up2_n (by decide), up2_n (by decide), upr_s]
        · obtain ⟨_, ⟨q, _, hq, _, hq2, _⟩, _⟩ := hD
          refine ⟨q, hq, ?_⟩
          rw [tl 12 (by decide), hg, up2_n (by decide), up2_n (by decide), up2_n (by decide), up2_n (by decide), up2_s, upr_n (by decide), upr_n (by decide), up2_n (by decide), cj 12 (by decide) (by decide) (by decide) (by decide) (by decide) (by decide) (by decide) (by omega)]
          exact hq2
        · rw [tl 12 (by decide), hg, up2_n (by decide), up2_n (by decide), up2_n (by decide), up2_n (by decide), up2_s, upr_s]
        · unfold tlM
          rw [up2_n (by decide), up2_n (by decide), up2_n (by decide), up2_s, upr_n (by decide), up2_s, upr_s]
        · rw [tl 14 (by decide), hg, up2_n (by decide)]
          have h3 : z = 0 ∨ z = 1 ∨ z = 2 := by omega
          rcases h3 with rfl | rfl | rfl <;> simp (config := { decide := true }) only [up2_s, up2_n, upr_s, upr_n, ne_eq, not_false_eq_true, Nat.reduceAdd]
        · unfold tlM
          have h3 : z = 0 ∨ z = 1 ∨ z = 2 := by omega
          rcases h3 with rfl | rfl | rfl <;> simp (config := { decide := true }) only [up2_s, up2_n, upr_s, upr_n, ne_eq, not_false_eq_true, Nat.reduceAdd]
        · rw [tl 0 (by decide), hg, up2_s, upr_s]
        · unfold tlM
          rw [up2_n (by decide), up2_n (by decide), up2_n (by decide), up2_s, upr_s]
        · rw [tl 1 (by decide), i1a 1 (by decide) (by decide) (by decide) (by decide) (by decide)]
          exact j15
        · rw [tk 2 (by decide) (by decide), ← hY, up2_s, upr_n (by decide), up2_s, upr_n (by decide)]
          exact j2
        · rw [tl 0 (by decide), hg, up2_s, upr_n (by decide), up2_n (by decide), up2_n (by decide), up2_n (by decide), up2_n (by decide), upr_n (by decide), up2_s, upr_s, tk 17 (by decide) (by decide), ← hY, up2_s, upr_n (by decide), up2_s, upr_s]
          exact rp
        · exact ⟨fun j hj => by rw [m6]; exact hW.1 j hj, fun j hj => by rw [m77]; exact hW.2 j hj⟩
      · have rv : rsV S' = S'.2.2.2.1 := by unfold rsV; rw [if_pos f]
        have rp : rsP S' = S'.2.2.2.2 := by unfold rsP; rw [if_pos f]
        have nv : rsV S' ≠ 0 := by rw [rv]; exact g
        obtain ⟨_, _, _, pos⟩ := hbn.1 f g
        have bb := bad Z'.2.2.2.2 nv (by rw [rp]; exact w3 g)
        rw [m_t2 q2 fz (by rw [← w2]; exact pos), if_neg nv, ← w2, ← rv]
        exact hQ _ _ _ _ bb.1 bb.2.1 bb.2.2
    · have rv : rsV S' = S'.2.1 := by unfold rsV; rw [if_neg f]
      have rp : rsP S' = S'.2.2.1 := by unfold rsP; rw [if_neg f]
      have nv : rsV S' ≠ 0 := by rw [rv]; exact f
      have fz : Z'.2.1 ≠ 0 := by rw [← q1.1]; exact f
      have bb := bad Z'.2.2.1 nv (by rw [rp]; exact q1.2.1 f)
      rw [m_t1 q2 fz, if_neg nv, ← q1.1, ← rv]
      exact hQ _ _ _ _ bb.1 bb.2.1 bb.2.2
theorem p_read {t : Nat} {u : Option Nat} {I : AI} {L : AL} {B : Nat} (h : INV t u I L B) : PAIR 78 [.ref 0, .retAddr 0, .retAddr 0] 156 [.ref 70, .retAddr 0] t u I L B := by
  obtain ⟨ht, hW, ⟨k, hk, h15, h702, hB⟩, hp, lv, np, nm, nl, nc, nd, Lw, hS, hD, hTo⟩ := h
  obtain ⟨c, hc⟩ : ∃ c : Nat → Nat, ∀ i, i < k → I 2 i = sxI (c i) ∧ c i < 256 := ⟨fun i => if hi : i < k then Classical.choose (byN (hB i hi).2) else 0, fun i hi => by
    have q := Classical.choose_spec (byN (hB i hi).2)
    simp only [hi, dif_pos]
    exact ⟨q.2, q.1⟩⟩
  have hlv1 := hS.2.1.1
  obtain ⟨s, hts⟩ : ∃ s, (t = 32 ∧ s = 51) ∨ (t = 51 ∧ s = 32) := by
    rcases ht with rfl | rfl
    · exact ⟨51, Or.inl ⟨rfl, rfl⟩⟩
    · exact ⟨32, Or.inr ⟨rfl, rfl⟩⟩
  obtain ⟨sd, hlv⟩ : ∃ sd, (lv = 0 ∧ sd = 1) ∨ (lv = 1 ∧ sd = 0) := ⟨1 - lv, by omega⟩
  have hs : s = 32 ∨ s = 51 := by omega
  have hd : sd ≤ 1 := by omega
  refine PAIR_of ?_
  have main : ∀ Mr : (Nat → Int32) × (Nat → Int32) × (Nat → Int32) × (Nat → Int64), V 78 0 [.ref 0, .retAddr 0, .retAddr 0] [] 123 I L (RX t u) (fun r n1 I1 L1 R1 => n1 = 123 ∧ (∃ v t1 u1, r = some (Value.int v) ∧ R1 = RX t1 u1) ∧ (∀ a, 70 ≤ a → I1 a = I a) ∧ L1 77 = L 77 ∧ CE B k lv sd c I I1 L1 r R1 Mr) := by
    intro Mr
    have go : ∀ Jt Lt n, FT I Jt L Lt → n ≤ 400 → (∀ j, j ≤ n → TKC Jt Lt c k j) → (∀ j, j < n → kdF c k (plF c k j) < 34) → (n = 400 ∨ 34 ≤ kdF c k (plF c k n)) → ∀ Q : PQ, (∀ I0 I' L' S' J2 (N : (Nat → Int32) × (Nat → Int32) × (Nat → Int32) × (Nat → Int64)), (TMR (kdT c k) (plF c k) (vlT c k) (mvT c k) n Mr.1 Mr.2.1 Mr.2.2.1 Mr.2.2.2 → N = Mr) → CL0 s (up2 Jt 1 5 0) I0 → ENL (kdT c k) (plF c k) (vlT c k) (mvT c k) n (Jt 3) (Jt 4) (Lt 5) N.1 N.2.1 N.2.2.1 N.2.2.2 s sd (fun _ => 0) (fun _ => 0) (fun _ => 0) (fun _ => []) dfE (up2 I0 7 6 0) Lt s00 I' L' S' → J2 7 10 = rsP S' → (∀ a, a ≠ 7 → a ≠ s + 13 → J2 a = I' a) → (rsV S' = 0 → ∀ nd, nd ≤ 4 → I' s 18 = nI nd → LOW J2 s nd) → Q (some (.int (rsV S'))) 123 J2 L' (RX t (some s))) → V 29 0 [.ref 7, .ref s, .retAddr 0] [] 123 (up2 Jt 1 5 0) Lt (RX t u) Q := by
      intro Jt Lt n hF hn hTK hlt hend Q hQ
      have T0 := TOK_of (c := c) (k := k) (n := n) (K3 := Jt 3) (K4 := Jt 4) (K5 := Lt 5) (M3 := fun j => nI (kM (kdT c k j))) (M4 := fun j => nI (plF c k j)) (M5 := fun j => nI (vlT c k j)) (M6 := fun j => lN (mvT c k j)) hk hn hTK hlt hend (fun j hj => ⟨rfl, rfl, fun _ => rfl, fun _ => rfl⟩)
      obtain ⟨N, hN, hNM⟩ : ∃ N : (Nat → Int32) × (Nat → Int32) × (Nat → Int32) × (Nat → Int64), TMR (kdT c k) (plF c k) (vlT c k) (mvT c k) n N.1 N.2.1 N.2.2.1 N.2.2.2 ∧ (TMR (kdT c k) (plF c k) (vlT c k) (mvT c k) n Mr.1 Mr.2.1 Mr.2.2.1 Mr.2.2.2 → N = Mr) := by
        by_cases z : TMR (kdT c k) (plF c k) (vlT c k) (mvT c k) n Mr.1 Mr.2.1 Mr.2.2.1 Mr.2.2.2
        · exact ⟨Mr, z, fun _ => rfl⟩
        · exact ⟨(fun j => nI (kM (kdT c k j)), fun j => nI (plF c k j), fun j => nI (vlT c k j), fun j => lN (mvT c k j)), T0.2.1, fun y => absurd y z⟩
      have T1 : TOK (kdT c k) (plF c k) (vlT c k) (mvT c k) n (Jt 3) (Jt 4) (Lt 5) N.1 N.2.1 N.2.2.1 N.2.2.2 := ⟨T0.1, hN, T0.2.2⟩
      exact c_readAll T1 hs hd (up2_n (by decide)) (up2_n (by decide)) rfl (fun I0 I' L' S' J2 w1 w2 w3 w4 w5 => hQ I0 I' L' S' J2 N hNM w1 w2 w3 w4 w5)
    have fin : ∀ Jt Lt n I0 I' L' S' J2 I1 (N : (Nat → Int32) × (Nat → Int32) × (Nat → Int32) × (Nat → Int64)), FT I Jt L Lt → n ≤ 400 → (∀ j, j < n → kdF c k (plF c k j) < 34) → (n = 400 ∨ 34 ≤ kdF c k (plF c k n)) → (TMR (kdT c k) (plF c k) (vlT c k) (mvT c k) n Mr.1 Mr.2.1 Mr.2.2.1 Mr.2.2.2 → N = Mr) → CL0 s (up2 Jt 1 5 0) I0 → ENL (kdT c k) (plF c k) (vlT c k) (mvT c k) n (Jt 3) (Jt 4) (Lt 5) N.1 N.2.1 N.2.2.1 N.2.2.2 s sd (fun _ => 0) (fun _ => 0) (fun _ => 0) (fun _ => []) dfE (up2 I0 7 6 0) Lt s00 I' L' S' → (∀ a, a ≠ 7 → a ≠ s + 13 → J2 a = I' a) → (rsV S' = 0 → ∀ nd, nd ≤ 4 → I' s 18 = nI nd → LOW J2 s nd) → (rsV S' ≠ 0 → I1 = up2 J2 0 14 (rsP S')) → (rsV S' = 0 → I1 = up2 (up2 (up2 (up2 (up2 (upr (up2 J2 0 14 (rsP S')) 13 (upr (zN (J2 13) 45) 0 (-2))) 12 5 0) 14 0 0) 14 1 0) 14 2 0) 0 13 0) → 123 = 123 ∧ (∃ v t1 u1, some (Value.int (rsV S')) = some (Value.int v) ∧ RX (if rsV S' = 0 then s else t) (some s) = RX t1 u1) ∧ (∀ a, 70 ≤ a → I1 a = I a) ∧ L' 77 = L 77 ∧ CE B k lv sd c I I1 L' (some (.int (rsV S'))) (RX (if rsV S' = 0 then s else t) (some s)) Mr := by
      intro Jt Lt n I0 I' L' S' J2 I1 N hF hn hlt hend hNM hcl hen hfr hlow hbad hgood
      have hFC := hen.2.2.1
      refine ⟨rfl, ⟨_, _, _, rfl, rfl⟩, fun a ha => ?_, ?_, n, hn, hlt, hend, fun hTM Q hQ X M' X1 hMH hFL x73 x74 x75 x76 => ?_⟩
      · have e : I1 a = J2 a := by
          by_cases z : rsV S' = 0
          · rw [hgood z, up2_n (by omega), up2_n (by omega), up2_n (by omega), up2_n (by omega), up2_n (by omega), upr_n (by omega), up2_n (by omega)]
          · rw [hbad z, up2_n (by omega)]
        rw [e, hfr a (by omega) (by omega), hFC.1 a (by omega) (by omega) (by omega) (by omega) (by omega), up2_n (by omega), hcl.2.2.2.2 a (by omega) (by omega) (by omega) (by omega), up2_n (by omega)]
        exact hF.1 a (by omega) (by omega)
      · rw [hFC.2 77 (by decide)]; exact hF.2 77 (by decide)
      · have e := hNM hTM
        subst e
        exact rd_model hts hlv hW hS hD hTo hF hcl hen hfr hlow hbad hgood hQ hMH hFL x73 x74 x75 x76
    rcases hts with ⟨rfl, rfl⟩ | ⟨rfl, rfl⟩
    · simp (config := { decide := true }) only [↓reduceIte, KV_i, KV_v, wsm_0, wsm_i, wsm_l, wsm_r, dlV_i, dlV_r, dlV_l, dlV_j, cat_i, cat_l, cat_r, rf_s, true_and, and_true, and_self, if_true, if_false, ite_true, ite_false, eq_self, true_or, or_true, false_or, or_false, not_true_eq_false, not_false_eq_true, vn_0_45, vn_1_45, vn_2_45, vn_3_45, vn_4_45, vn_5_45, vn_6_45, vn_7_45, vn_8_45, vn_36_48, vn_37_48, vn_38_48, vn_39_48, vn_40_48, vn_41_48, vn_42_48, vn_43_48, vn_44_48, vn_0_9, vn_1_9, vn_2_9, vn_3_9, vn_4_9, vn_5_9, vn_6_9, vn_7_9, vn_8_9, vn_0_3, vn_1_3, vn_2_3, vn_0_4, vn_1_4, vn_2_4, vn_3_4, vn_0_64, vn_0_16, vn_0_400, vn_0_6, vn_0_14, Int32.reduceToNatClampNeg, Int32.reduceAdd, Int32.reduceSub, Int32.reduceMul, Int32.reduceLE, Int32.reduceLT, Nat.reduceAdd, nr_2, nr_30, nr_31, rd_2, rd_14, rd_71, rd_72, rd_101, rd_116, rd_121, up2_s, up2_n, upr_s, upr_n, ne_eq, not_false_eq_true, ob_0, ob_1, ob_7, ob_12, ob_17, ob_20, ob_23, ob_32, ob_46, ob_51, ob_65, rx_0_0, rx_0_1, rx_0_2, rx_0_3, rx_0_4, rx_0_5, rx_0_6, rx_0_7, rx_0_8, rx_0_9, rx_0_10, rx_1_0, rx_1_1, rx_1_2, rx_1_3, rx_1_4, rx_7_0, rx_7_1, rx_7_2, rx_7_3, rx_7_4, rx_12_0, rx_12_1, rx_12_2, rx_12_3, rx_17_0, rx_17_1, rx_20_0, rx_20_1, rx_23_0, rx_23_1, rx_23_2, rx_32_0, rx_32_1, rx_32_2, rx_32_3, rx_32_4, rx_32_5, rx_32_6, rx_32_7, rx_32_8, rx_32_9, rx_32_10, rx_32_11, rx_32_12, rx_32_13, rx_46_0, rx_46_1, rx_46_2, rx_46_3, rx_51_0, rx_51_1, rx_51_2, rx_51_3, rx_51_4, rx_51_5, rx_51_6, rx_51_7, rx_51_8, rx_51_9, rx_51_10, rx_51_11, rx_51_12, rx_51_13, rx_65_0, rx_65_1, rx_65_2, rx_65_3, rx_0_11, rx_0_12, rx_7_7, r78_0, r78_1, r78_4, r78_7, r78_8, r78_11, r78_12, r78_15, r78_16, r78_19, r78_20, r78_23, r78_26, r78_27, r78_28, r78_29, r78_32, r78_35, r78_38, r78_39, r78_42, r78_43, r78_46, r78_47, r78_48, r78_49, r78_52, r78_55, r78_56, r78_57, r78_60, r78_61, r78_64, r78_67, r78_68, r78_69, r78_72, r78_73]
      refine c_split (c := c) hk h15 hc hW.1 (fun Jt Lt n hF hn hTK hlt hend => ?_)
      simp (config := { decide := true }) only [↓reduceIte, KV_i, KV_v, wsm_0, wsm_i, wsm_l, wsm_r, dlV_i, dlV_r, dlV_l, dlV_j, cat_i, cat_l, cat_r, rf_s, true_and, and_true, and_self, if_true, if_false, ite_true, ite_false, eq_self, true_or, or_true, false_or, or_false, not_true_eq_false, not_false_eq_true, vn_0_45, vn_1_45, vn_2_45, vn_3_45, vn_4_45, vn_5_45, vn_6_45, vn_7_45, vn_8_45, vn_36_48, vn_37_48, vn_38_48, vn_39_48, vn_40_48, vn_41_48, vn_42_48, vn_43_48, vn_44_48, vn_0_9, vn_1_9, vn_2_9, vn_3_9, vn_4_9, vn_5_9, vn_6_9, vn_7_9, vn_8_9, vn_0_3, vn_1_3, vn_2_3, vn_0_4, vn_1_4, vn_2_4, vn_3_4, vn_0_64, vn_0_16, vn_0_400, vn_0_6, vn_0_14, Int32.reduceToNatClampNeg, Int32.reduceAdd, Int32.reduceSub, Int32.reduceMul, Int32.reduceLE, Int32.reduceLT, Nat.reduceAdd, nr_2, nr_30, nr_31, rd_2, rd_14, rd_71, rd_72, rd_101, rd_116, rd_121, up2_s, up2_n, upr_s, upr_n, ne_eq, not_false_eq_true, ob_0, ob_1, ob_7, ob_12, ob_17, ob_20, ob_23, ob_32, ob_46, ob_51, ob_65, rx_0_0, rx_0_1, rx_0_2, rx_0_3, rx_0_4, rx_0_5, rx_0_6, rx_0_7, rx_0_8, rx_0_9, rx_0_10, rx_1_0, rx_1_1, rx_1_2, rx_1_3, rx_1_4, rx_7_0, rx_7_1, rx_7_2, rx_7_3, rx_7_4, rx_12_0, rx_12_1, rx_12_2, rx_12_3, rx_17_0, rx_17_1, rx_20_0, rx_20_1, rx_23_0, rx_23_1, rx_23_2, rx_32_0, rx_32_1, rx_32_2, rx_32_3, rx_32_4, rx_32_5, rx_32_6, rx_32_7, rx_32_8, rx_32_9, rx_32_10, rx_32_11, rx_32_12, rx_32_13, rx_46_0, rx_46_1, rx_46_2, rx_46_3, rx_51_0, rx_51_1, rx_51_2, rx_51_3, rx_51_4, rx_51_5, rx_51_6, rx_51_7, rx_51_8, rx_51_9, rx_51_10, rx_51_11, rx_51_12, rx_51_13, rx_65_0, rx_65_1, rx_65_2, rx_65_3, rx_0_11, rx_0_12, rx_7_7, r78_0, r78_1, r78_4, r78_7, r78_8, r78_11, r78_12, r78_15, r78_16, r78_19, r78_20, r78_23, r78_26, r78_27, r78_28, r78_29, r78_32, r78_35, r78_38, r78_39, r78_42, r78_43, r78_46, r78_47, r78_48, r78_49, r78_52, r78_55, r78_56, r78_57, r78_60, r78_61, r78_64, r78_67, r78_68, r78_69, r78_72, r78_73]
      refine go Jt Lt n hF hn hTK hlt hend _ (fun I0 I' L' S' J2 N w0 w1 w2 w3 w4 w5 => ?_)
      by_cases z : rsV S' = 0
      · have ff := fin Jt Lt n I0 I' L' S' J2 _ N hF hn hlt hend w0 w1 w2 w4 w5 (fun y => absurd z y) (fun _ => rfl)
        rw [if_pos z] at ff
        rw [z] at ff ⊢
        simp (config := { decide := true }) only [↓reduceIte, KV_i, KV_v, wsm_0, wsm_i, wsm_l, wsm_r, dlV_i, dlV_r, dlV_l, dlV_j, cat_i, cat_l, cat_r, rf_s, true_and, and_true, and_self, if_true, if_false, ite_true, ite_false, eq_self, true_or, or_true, false_or, or_false, not_true_eq_false, not_false_eq_true, vn_0_45, vn_1_45, vn_2_45, vn_3_45, vn_4_45, vn_5_45, vn_6_45, vn_7_45, vn_8_45, vn_36_48, vn_37_48, vn_38_48, vn_39_48, vn_40_48, vn_41_48, vn_42_48, vn_43_48, vn_44_48, vn_0_9, vn_1_9, vn_2_9, vn_3_9, vn_4_9, vn_5_9, vn_6_9, vn_7_9, vn_8_9, vn_0_3, vn_1_3, vn_2_3, vn_0_4, vn_1_4, vn_2_4, vn_3_4, vn_0_64, vn_0_16, vn_0_400, vn_0_6, vn_0_14, Int32.reduceToNatClampNeg, Int32.reduceAdd, Int32.reduceSub, Int32.reduceMul, Int32.reduceLE, Int32.reduceLT, Nat.reduceAdd, nr_2, nr_30, nr_31, rd_2, rd_14, rd_71, rd_72, rd_101, rd_116, rd_121, up2_s, up2_n, upr_s, upr_n, ne_eq, not_false_eq_true, ob_0, ob_1, ob_7, ob_12, ob_17, ob_20, ob_23, ob_32, ob_46, ob_51, ob_65, rx_0_0, rx_0_1, rx_0_2, rx_0_3, rx_0_4, rx_0_5, rx_0_6, rx_0_7, rx_0_8, rx_0_9, rx_0_10, rx_1_0, rx_1_1, rx_1_2, rx_1_3, rx_1_4, rx_7_0, rx_7_1, rx_7_2, rx_7_3, rx_7_4, rx_12_0, rx_12_1, rx_12_2, rx_12_3, rx_17_0, rx_17_1, rx_20_0, rx_20_1, rx_23_0, rx_23_1, rx_23_2, rx_32_0, rx_32_1, rx_32_2, rx_32_3, rx_32_4, rx_32_5, rx_32_6, rx_32_7, rx_32_8, rx_32_9, rx_32_10, rx_32_11, rx_32_12, rx_32_13, rx_46_0, rx_46_1, rx_46_2, rx_46_3, rx_51_0, rx_51_1, rx_51_2, rx_51_3, rx_51_4, rx_51_5, rx_51_6, rx_51_7, rx_51_8, rx_51_9, rx_51_10, rx_51_11, rx_51_12, rx_51_13, rx_65_0, rx_65_1, rx_65_2, rx_65_3, rx_0_11, rx_0_12, rx_7_7, r78_0, r78_1, r78_4, r78_7, r78_8, r78_11, r78_12, r78_15, r78_16, r78_19, r78_20, r78_23, r78_26, r78_27, r78_28, r78_29, r78_32, r78_35, r78_38, r78_39, r78_42, r78_43, r78_46, r78_47, r78_48, r78_49, r78_52, r78_55, r78_56, r78_57, r78_60, r78_61, r78_64, r78_67, r78_68, r78_69, r78_72, r78_73, w3, c_going, rxsw (t := 32) (t2 := 51) _ rfl rfl]
        exact ff.2
      · have ff := fin Jt Lt n I0 I' L' S' J2 _ N hF hn hlt hend w0 w1 w2 w4 w5 (fun _ => rfl) (fun y => absurd y z)
        rw [if_neg z] at ff
        simp (config := { decide := true }) only [↓reduceIte, KV_i, KV_v, wsm_0, wsm_i, wsm_l, wsm_r, dlV_i, dlV_r, dlV_l, dlV_j, cat_i, cat_l, cat_r, rf_s, true_and, and_true, and_self, if_true, if_false, ite_true, ite_false, eq_self, true_or, or_true, false_or, or_false, not_true_eq_false, not_false_eq_true, vn_0_45, vn_1_45, vn_2_45, vn_3_45, vn_4_45, vn_5_45, vn_6_45, vn_7_45, vn_8_45, vn_36_48, vn_37_48, vn_38_48, vn_39_48, vn_40_48, vn_41_48, vn_42_48, vn_43_48, vn_44_48, vn_0_9, vn_1_9, vn_2_9, vn_3_9, vn_4_9, vn_5_9, vn_6_9, vn_7_9, vn_8_9, vn_0_3, vn_1_3, vn_2_3, vn_0_4, vn_1_4, vn_2_4, vn_3_4, vn_0_64, vn_0_16, vn_0_400, vn_0_6, vn_0_14, Int32.reduceToNatClampNeg, Int32.reduceAdd, Int32.reduceSub, Int32.reduceMul, Int32.reduceLE, Int32.reduceLT, Nat.reduceAdd, nr_2, nr_30, nr_31, rd_2, rd_14, rd_71, rd_72, rd_101, rd_116, rd_121, up2_s, up2_n, upr_s, upr_n, ne_eq, not_false_eq_true, ob_0, ob_1, ob_7, ob_12, ob_17, ob_20, ob_23, ob_32, ob_46, ob_51, ob_65, rx_0_0, rx_0_1, rx_0_2, rx_0_3, rx_0_4, rx_0_5, rx_0_6, rx_0_7, rx_0_8, rx_0_9, rx_0_10, rx_1_0, rx_1_1, rx_1_2, rx_1_3, rx_1_4, rx_7_0, rx_7_1, rx_7_2, rx_7_3, rx_7_4, rx_12_0, rx_12_1, rx_12_2, rx_12_3, rx_17_0, rx_17_1, rx_20_0, rx_20_1, rx_23_0, rx_23_1, rx_23_2, rx_32_0, rx_32_1, rx_32_2, rx_32_3, rx_32_4, rx_32_5, rx_32_6, rx_32_7, rx_32_8, rx_32_9, rx_32_10, rx_32_11, rx_32_12, rx_32_13, rx_46_0, rx_46_1, rx_46_2, rx_46_3, rx_51_0, rx_51_1, rx_51_2, rx_51_3, rx_51_4, rx_51_5, rx_51_6, rx_51_7, rx_51_8, rx_51_9, rx_51_10, rx_51_11, rx_51_12, rx_51_13, rx_65_0, rx_65_1, rx_65_2, rx_65_3, rx_0_11, rx_0_12, rx_7_7, r78_0, r78_1, r78_4, r78_7, r78_8, r78_11, r78_12, r78_15, r78_16, r78_19, r78_20, r78_23, r78_26, r78_27, r78_28, r78_29, r78_32, r78_35, r78_38, r78_39, r78_42, r78_43, r78_46, r78_47, r78_48, r78_49, r78_52, r78_55, r78_56, r78_57, r78_60, r78_61, r78_64, r78_67, r78_68, r78_69, r78_72, r78_73, w3, z]
        exact ff.2
    · simp (config := { decide := true }) only [↓reduceIte, KV_i, KV_v, wsm_0, wsm_i, wsm_l, wsm_r, dlV_i, dlV_r, dlV_l, dlV_j, cat_i, cat_l, cat_r, rf_s, true_and, and_true, and_self, if_true, if_false, ite_true, ite_false, eq_self, true_or, or_true, false_or, or_false, not_true_eq_false, not_false_eq_true, vn_0_45, vn_1_45, vn_2_45, vn_3_45, vn_4_45, vn_5_45, vn_6_45, vn_7_45, vn_8_45, vn_36_48, vn_37_48, vn_38_48, vn_39_48, vn_40_48, vn_41_48, vn_42_48, vn_43_48, vn_44_48, vn_0_9, vn_1_9, vn_2_9, vn_3_9, vn_4_9, vn_5_9, vn_6_9, vn_7_9, vn_8_9, vn_0_3, vn_1_3, vn_2_3, vn_0_4, vn_1_4, vn_2_4, vn_3_4, vn_0_64, vn_0_16, vn_0_400, vn_0_6, vn_0_14, Int32.reduceToNatClampNeg, Int32.reduceAdd, Int32.reduceSub, Int32.reduceMul, Int32.reduceLE, Int32.reduceLT, Nat.reduceAdd, nr_2, nr_30, nr_31, rd_2, rd_14, rd_71, rd_72, rd_101, rd_116, rd_121, up2_s, up2_n, upr_s, upr_n, ne_eq, not_false_eq_true, ob_0, ob_1, ob_7, ob_12, ob_17, ob_20, ob_23, ob_32, ob_46, ob_51, ob_65, rx_0_0, rx_0_1, rx_0_2, rx_0_3, rx_0_4, rx_0_5, rx_0_6, rx_0_7, rx_0_8, rx_0_9, rx_0_10, rx_1_0, rx_1_1, rx_1_2, rx_1_3, rx_1_4, rx_7_0, rx_7_1, rx_7_2, rx_7_3, rx_7_4, rx_12_0, rx_12_1, rx_12_2, rx_12_3, rx_17_0, rx_17_1, rx_20_0, rx_20_1, rx_23_0, rx_23_1, rx_23_2, rx_32_0, rx_32_1, rx_32_2, rx_32_3, rx_32_4, rx_32_5, rx_32_6, rx_32_7, rx_32_8, rx_32_9, rx_32_10, rx_32_11, rx_32_12, rx_32_13, rx_46_0, rx_46_1, rx_46_2, rx_46_3, rx_51_0, rx_51_1, rx_51_2, rx_51_3, rx_51_4, rx_51_5, rx_51_6, rx_51_7, rx_51_8, rx_51_9, rx_51_10, rx_51_11, rx_51_12, rx_51_13, rx_65_0, rx_65_1, rx_65_2, rx_65_3, rx_0_11, rx_0_12, rx_7_7, r78_0, r78_1, r78_4, r78_7, r78_8, r78_11, r78_12, r78_15, r78_16, r78_19, r78_20, r78_23, r78_26, r78_27, r78_28, r78_29, r78_32, r78_35, r78_38, r78_39, r78_42, r78_43, r78_46, r78_47, r78_48, r78_49, r78_52, r78_55, r78_56, r78_57, r78_60, r78_61, r78_64, r78_67, r78_68, r78_69, r78_72, r78_73]
      refine c_split (c := c) hk h15 hc hW.1 (fun Jt Lt n hF hn hTK hlt hend => ?_)
      simp (config := { decide := true }) only [↓reduceIte, KV_i, KV_v, wsm_0, wsm_i, wsm_l, wsm_r, dlV_i, dlV_r, dlV_l, dlV_j, cat_i, cat_l, cat_r, rf_s, true_and, and_true, and_self, if_true, if_false, ite_true, ite_false, eq_self, true_or, or_true, false_or, or_false, not_true_eq_false, not_false_eq_true, vn_0_45, vn_1_45, vn_2_45, vn_3_45, vn_4_45, vn_5_45, vn_6_45, vn_7_45, vn_8_45, vn_36_48, vn_37_48, vn_38_48, vn_39_48, vn_40_48, vn_41_48, vn_42_48, vn_43_48, vn_44_48, vn_0_9, vn_1_9, vn_2_9, vn_3_9, vn_4_9, vn_5_9, vn_6_9, vn_7_9, vn_8_9, vn_0_3, vn_1_3, vn_2_3, vn_0_4, vn_1_4, vn_2_4, vn_3_4, vn_0_64, vn_0_16, vn_0_400, vn_0_6, vn_0_14, Int32.reduceToNatClampNeg, Int32.reduceAdd, Int32.reduceSub, Int32.reduceMul, Int32.reduceLE, Int32.reduceLT, Nat.reduceAdd, nr_2, nr_30, nr_31, rd_2, rd_14, rd_71, rd_72, rd_101, rd_116, rd_121, up2_s, up2_n, upr_s, upr_n, ne_eq, not_false_eq_true, ob_0, ob_1, ob_7, ob_12, ob_17, ob_20, ob_23, ob_32, ob_46, ob_51, ob_65, rx_0_0, rx_0_1, rx_0_2, rx_0_3, rx_0_4, rx_0_5, rx_0_6, rx_0_7, rx_0_8, rx_0_9, rx_0_10, rx_1_0, rx_1_1, rx_1_2, rx_1_3, rx_1_4, rx_7_0, rx_7_1, rx_7_2, rx_7_3, rx_7_4, rx_12_0, rx_12_1, rx_12_2, rx_12_3, rx_17_0, rx_17_1, rx_20_0, rx_20_1, rx_23_0, rx_23_1, rx_23_2, rx_32_0, rx_32_1, rx_32_2, rx_32_3, rx_32_4, rx_32_5, rx_32_6, rx_32_7, rx_32_8, rx_32_9, rx_32_10, rx_32_11, rx_32_12, rx_32_13, rx_46_0, rx_46_1, rx_46_2, rx_46_3, rx_51_0, rx_51_1, rx_51_2, rx_51_3, rx_51_4, rx_51_5, rx_51_6, rx_51_7, rx_51_8, rx_51_9, rx_51_10, rx_51_11, rx_51_12, rx_51_13, rx_65_0, rx_65_1, rx_65_2, rx_65_3, rx_0_11, rx_0_12, rx_7_7, r78_0, r78_1, r78_4, r78_7, r78_8, r78_11, r78_12, r78_15, r78_16, r78_19, r78_20, r78_23, r78_26, r78_27, r78_28, r78_29, r78_32, r78_35, r78_38, r78_39, r78_42, r78_43, r78_46, r78_47, r78_48, r78_49, r78_52, r78_55, r78_56, r78_57, r78_60, r78_61, r78_64, r78_67, r78_68, r78_69, r78_72, r78_73]
      refine go Jt Lt n hF hn hTK hlt hend _ (fun I0 I' L' S' J2 N w0 w1 w2 w3 w4 w5 => ?_)
      by_cases z : rsV S' = 0
      · have ff := fin Jt Lt n I0 I' L' S' J2 _ N hF hn hlt hend w0 w1 w2 w4 w5 (fun y => absurd z y) (fun _ => rfl)
        rw [if_pos z] at ff
        rw [z] at ff ⊢
        simp (config := { decide := true }) only [↓reduceIte, KV_i, KV_v, wsm_0, wsm_i, wsm_l, wsm_r, dlV_i, dlV_r, dlV_l, dlV_j, cat_i, cat_l, cat_r, rf_s, true_and, and_true, and_self, if_true, if_false, ite_true, ite_false, eq_self, true_or, or_true, false_or, or_false, not_true_eq_false, not_false_eq_true, vn_0_45, vn_1_45, vn_2_45, vn_3_45, vn_4_45, vn_5_45, vn_6_45, vn_7_45, vn_8_45, vn_36_48, vn_37_48, vn_38_48, vn_39_48, vn_40_48, vn_41_48, vn_42_48, vn_43_48, vn_44_48, vn_0_9, vn_1_9, vn_2_9, vn_3_9, vn_4_9, vn_5_9, vn_6_9, vn_7_9, vn_8_9, vn_0_3, vn_1_3, vn_2_3, vn_0_4, vn_1_4, vn_2_4, vn_3_4, vn_0_64, vn_0_16, vn_0_400, vn_0_6, vn_0_14, Int32.reduceToNatClampNeg, Int32.reduceAdd, Int32.reduceSub, Int32.reduceMul, Int32.reduceLE, Int32.reduceLT, Nat.reduceAdd, nr_2, nr_30, nr_31, rd_2, rd_14, rd_71, rd_72, rd_101, rd_116, rd_121, up2_s, up2_n, upr_s, upr_n, ne_eq, not_false_eq_true, ob_0, ob_1, ob_7, ob_12, ob_17, ob_20, ob_23, ob_32, ob_46, ob_51, ob_65, rx_0_0, rx_0_1, rx_0_2, rx_0_3, rx_0_4, rx_0_5, rx_0_6, rx_0_7, rx_0_8, rx_0_9, rx_0_10, rx_1_0, rx_1_1, rx_1_2, rx_1_3, rx_1_4, rx_7_0, rx_7_1, rx_7_2, rx_7_3, rx_7_4, rx_12_0, rx_12_1, rx_12_2, rx_12_3, rx_17_0, rx_17_1, rx_20_0, rx_20_1, rx_23_0, rx_23_1, rx_23_2, rx_32_0, rx_32_1, rx_32_2, rx_32_3, rx_32_4, rx_32_5, rx_32_6, rx_32_7, rx_32_8, rx_32_9, rx_32_10, rx_32_11, rx_32_12, rx_32_13, rx_46_0, rx_46_1, rx_46_2, rx_46_3, rx_51_0, rx_51_1, rx_51_2, rx_51_3, rx_51_4, rx_51_5, rx_51_6, rx_51_7, rx_51_8, rx_51_9, rx_51_10, rx_51_11, rx_51_12, rx_51_13, rx_65_0, rx_65_1, rx_65_2, rx_65_3, rx_0_11, rx_0_12, rx_7_7, r78_0, r78_1, r78_4, r78_7, r78_8, r78_11, r78_12, r78_15, r78_16, r78_19, r78_20, r78_23, r78_26, r78_27, r78_28, r78_29, r78_32, r78_35, r78_38, r78_39, r78_42, r78_43, r78_46, r78_47, r78_48, r78_49, r78_52, r78_55, r78_56, r78_57, r78_60, r78_61, r78_64, r78_67, r78_68, r78_69, r78_72, r78_73, w3, c_going, rxsw (t := 51) (t2 := 32) _ rfl rfl]
        exact ff.2
      · have ff := fin Jt Lt n I0 I' L' S' J2 _ N hF hn hlt hend w0 w1 w2 w4 w5 (fun _ => rfl) (fun y => absurd y z)
        rw [if_neg z] at ff
        simp (config := { decide := true }) only [↓reduceIte, KV_i, KV_v, wsm_0, wsm_i, wsm_l, wsm_r, dlV_i, dlV_r, dlV_l, dlV_j, cat_i, cat_l, cat_r, rf_s, true_and, and_true, and_self, if_true, if_false, ite_true, ite_false, eq_self, true_or, or_true, false_or, or_false, not_true_eq_false, not_false_eq_true, vn_0_45, vn_1_45, vn_2_45, vn_3_45, vn_4_45, vn_5_45, vn_6_45, vn_7_45, vn_8_45, vn_36_48, vn_37_48, vn_38_48, vn_39_48, vn_40_48, vn_41_48, vn_42_48, vn_43_48, vn_44_48, vn_0_9, vn_1_9, vn_2_9, vn_3_9, vn_4_9, vn_5_9, vn_6_9, vn_7_9, vn_8_9, vn_0_3, vn_1_3, vn_2_3, vn_0_4, vn_1_4, vn_2_4, vn_3_4, vn_0_64, vn_0_16, vn_0_400, vn_0_6, vn_0_14, Int32.reduceToNatClampNeg, Int32.reduceAdd, Int32.reduceSub, Int32.reduceMul, Int32.reduceLE, Int32.reduceLT, Nat.reduceAdd, nr_2, nr_30, nr_31, rd_2, rd_14, rd_71, rd_72, rd_101, rd_116, rd_121, up2_s, up2_n, upr_s, upr_n, ne_eq, not_false_eq_true, ob_0, ob_1, ob_7, ob_12, ob_17, ob_20, ob_23, ob_32, ob_46, ob_51, ob_65, rx_0_0, rx_0_1, rx_0_2, rx_0_3, rx_0_4, rx_0_5, rx_0_6, rx_0_7, rx_0_8, rx_0_9, rx_0_10, rx_1_0, rx_1_1, rx_1_2, rx_1_3, rx_1_4, rx_7_0, rx_7_1, rx_7_2, rx_7_3, rx_7_4, rx_12_0, rx_12_1, rx_12_2, rx_12_3, rx_17_0, rx_17_1, rx_20_0, rx_20_1, rx_23_0, rx_23_1, rx_23_2, rx_32_0, rx_32_1, rx_32_2, rx_32_3, rx_32_4, rx_32_5, rx_32_6, rx_32_7, rx_32_8, rx_32_9, rx_32_10, rx_32_11, rx_32_12, rx_32_13, rx_46_0, rx_46_1, rx_46_2, rx_46_3, rx_51_0, rx_51_1, rx_51_2, rx_51_3, rx_51_4, rx_51_5, rx_51_6, rx_51_7, rx_51_8, rx_51_9, rx_51_10, rx_51_11, rx_51_12, rx_51_13, rx_65_0, rx_65_1, rx_65_2, rx_65_3, rx_0_11, rx_0_12, rx_7_7, r78_0, r78_1, r78_4, r78_7, r78_8, r78_11, r78_12, r78_15, r78_16, r78_19, r78_20, r78_23, r78_26, r78_27, r78_28, r78_29, r78_32, r78_35, r78_38, r78_39, r78_42, r78_43, r78_46, r78_47, r78_48, r78_49, r78_52, r78_55, r78_56, r78_57, r78_60, r78_61, r78_64, r78_67, r78_68, r78_69, r78_72, r78_73, w3, z]
        exact ff.2
  refine V_mono (V_all _ ((fun _ => 0), (fun _ => 0), (fun _ => 0), (fun _ => 0)) main) (fun r n1 I1 L1 R1 hall => ?_)
  obtain ⟨h1, ⟨v, t1, u1, rfl, rfl⟩, h70, h77, _⟩ := hall ((fun _ => 0), (fun _ => 0), (fun _ => 0), (fun _ => 0))
  refine ⟨h1, ⟨h70 1000 (by decide), h70 1001 (by decide)⟩, v, t1, u1, rfl, rfl, fun Q hQ => ?_⟩
  refine m_head (c := c) hlv (by rw [h70 70 (by decide)]; exact hlv1.2) (by rw [h70 70 (by decide)]; exact h702) hk (fun i hi => by rw [h70 71 (by decide), (hB i hi).1]; exact hc i hi) (fun j hj => by rw [h77]; exact hW.2 j hj) (fun X M' m X1 hMH hFL hTK hm => ?_)
  obtain ⟨_, _, _, _, n, hn, hlt, hend, hce⟩ := hall (X 73, X 74, X 75, M' 76)
  have nm : n < m := by
    rcases hm with rfl | ⟨e, rfl, he⟩
    · omega
    · by_cases z : e < n
      · have q : kdF c k (plF c k e) < 34 := hlt e z
        omega
      · omega
  exact hce ⟨hn, fun j hj => hTK j (by omega), fun j => kd_36 _ _ _, hlt, hend⟩ Q hQ X M' X1 hMH hFL rfl rfl rfl rfl
