/-! READ: what holds behind it -/
theorem V_all {ι : Type} {y pc : Nat} {ls st : List Value} {n : Nat} {I : AI} {L : AL} {R : AR} (Qf : ι → PQ) (i0 : ι) (h : ∀ i, V y pc ls st n I L R (Qf i)) : V y pc ls st n I L R (fun r n1 I1 L1 R1 => ∀ i, Qf i r n1 I1 L1 R1) := by
  obtain ⟨f, r, n1, I1, L1, R1, e, q⟩ := h i0
  refine ⟨f, r, n1, I1, L1, R1, e, fun i => ?_⟩
  obtain ⟨g, r2, n2, I2, L2, R2, e2, q2⟩ := h i
  have a := exec_le (Nat.le_max_left f g) e
  have b := exec_le (Nat.le_max_right f g) e2
  rw [a] at b
  cases b
  exact q2
theorem PAIR_of {y : Nat} {as : List Value} {y' : Nat} {as' : List Value} {t : Nat} {u : Option Nat} {I : AI} {L : AL} {B : Nat} (hc : V y 0 as [] 123 I L (RX t u) (fun r n1 I1 L1 R1 => n1 = 123 ∧ (I1 1000 = I 1000 ∧ I1 1001 = I 1001) ∧ ∃ v t1 u1, r = some (Value.int v) ∧ R1 = RX t1 u1 ∧ ∀ Q : PQ, (∀ I2 L2 t2 u2, INV t2 u2 I2 L2 (B + 5) → I2 1000 = I 1000 → I2 1001 = I 1001 → Q (some (Value.int v)) 123 I2 L2 (RX t2 u2)) → V y' 0 as' [] 123 I1 L1 (RX t1 u1) Q)) : PAIR y as y' as' t u I L B := by
  obtain ⟨f, r, n1, I1, L1, R1, e, rfl, hx, v, t1, u1, rfl, rfl, hm⟩ := hc
  exact ⟨Value.int v, fun J1 M1 t2 u2 => J1 = I1 ∧ M1 = L1 ∧ RX t2 u2 = RX t1 u1, ⟨⟨v, rfl⟩, fun _ _ _ _ hP => by rw [hP.1]; exact hx, fun Q hQ => ⟨f, some (Value.int v), 123, I1, L1, RX t1 u1, e, hQ I1 L1 t1 u1 ⟨rfl, rfl, rfl⟩⟩⟩, fun J1 M1 t2 u2 ⟨h1, h2, h3⟩ Q hQ => by
    subst h1 h2
    rw [h3]
    exact hm Q hQ⟩
theorem prt_h {lv a k H : Nat} (h : hsz a = H) (h1 : H * lv ≤ k) (h2 : k < H * lv + H) : PRT lv a k := Or.inr (Or.inr ⟨by rw [h]; exact h1, by rw [h]; exact h2⟩)
theorem STX_h {I I' : AI} {t lv np nm nl nc nd : Nat} {Lw : Nat → List Int32 → Int32} (hI : ∀ a, t ≤ a → a ≤ t + 18 → I' a = I a) (hP : ∀ a k, 70 ≤ a → PRT lv a k → ¬ (a = 70 ∧ (k = 2 ∨ k = 17)) → I' a k = I a k) (h : STX I t lv np nm nl nc nd Lw) : STX I' t lv np nm nl nc nd Lw := by
  obtain ⟨hX, hR, hC, hM, hL⟩ := h
  have hr : ∀ a k H, 71 ≤ a → hsz a = H → H * lv ≤ k → k < H * lv + H → I' a k = I a k := fun a k H a1 h1 h2 h3 => hP a k (by omega) (prt_h h1 h2 h3) (by omega)
  have e0 : I' t = I t := hI t (by omega) (by omega)
  have e1 : I' (t + 1) = I (t + 1) := hI _ (by omega) (by omega)
  have e2 : I' (t + 2) = I (t + 2) := hI _ (by omega) (by omega)
  have e3 : I' (t + 3) = I (t + 3) := hI _ (by omega) (by omega)
  have e4 : I' (t + 4) = I (t + 4) := hI _ (by omega) (by omega)
  have e5 : I' (t + 5) = I (t + 5) := hI _ (by omega) (by omega)
  have e6 : I' (t + 6) = I (t + 6) := hI _ (by omega) (by omega)
  have e7 : I' (t + 7) = I (t + 7) := hI _ (by omega) (by omega)
  have e8 : I' (t + 8) = I (t + 8) := hI _ (by omega) (by omega)
  have e9 : I' (t + 9) = I (t + 9) := hI _ (by omega) (by omega)
  have e10 : I' (t + 10) = I (t + 10) := hI _ (by omega) (by omega)
  have e11 : I' (t + 11) = I (t + 11) := hI _ (by omega) (by omega)
  have e12 : I' (t + 12) = I (t + 12) := hI _ (by omega) (by omega)
  have e13 : I' (t + 13) = I (t + 13) := hI _ (by omega) (by omega)
  have e14 : I' (t + 14) = I (t + 14) := hI _ (by omega) (by omega)
  have e15 : I' (t + 15) = I (t + 15) := hI _ (by omega) (by omega)
  have e16 : I' (t + 16) = I (t + 16) := hI _ (by omega) (by omega)
  have e17 : I' (t + 17) = I (t + 17) := hI _ (by omega) (by omega)
  have e18 : I' (t + 18) = I (t + 18) := hI _ (by omega) (by omega)
  have hX' := hX
  obtain ⟨_, ⟨n0, n1, n2, n3, n4⟩, _⟩ := hX
  refine ⟨?_, ?_, ?_, ?_, ?_⟩
  · unfold TXT at hX' ⊢
    rw [e0, e1, e2, e3, e4, e5, e6, e7, e8, e9, e10, e11, e12]
    exact hX'
  · obtain ⟨⟨a1, a2⟩, ⟨b1, b2, b3, b4, b5, b6⟩, c1, c2, c3, c4, c5, c6⟩ := hR
    refine ⟨⟨a1, ?_⟩, ⟨?_, ?_, ?_, ?_, ?_, ?_⟩, fun i hi => ?_, fun i m hi hm hm2 => ?_, fun i hi => ?_, fun i hi => ?_, fun i hi => ?_, fun i hi => ?_⟩
    · rw [hP 70 18 (by decide) (Or.inr (Or.inl ⟨rfl, by decide⟩)) (by decide)]; exact a2
    · rw [hr 81 lv 1 (by decide) rfl (by omega) (by omega)]; exact b1
    · rw [hr 88 lv 1 (by decide) rfl (by omega) (by omega)]; exact b2
    · rw [hr 91 lv 1 (by decide) rfl (by omega) (by omega)]; exact b3
    · rw [hr 94 lv 1 (by decide) rfl (by omega) (by omega)]; exact b4
    · rw [hr 96 lv 1 (by decide) rfl (by omega) (by omega)]; exact b5
    · rw [hr 98 lv 1 (by decide) rfl (by omega) (by omega), e0]; exact b6
    · rw [hr 82 (14 * lv + i) 14 (by decide) rfl (by omega) (by omega), hr 83 (14 * lv + i) 14 (by decide) rfl (by omega) (by omega), hr 84 (14 * lv + i) 14 (by decide) rfl (by omega) (by omega), hr 85 (14 * lv + i) 14 (by decide) rfl (by omega) (by omega), e1, e2, e3, e4]
      exact c1 i hi
    · rw [hr 86 (3 * (14 * lv + i) + m) 42 (by decide) rfl (by omega) (by omega), hr 87 (3 * (14 * lv + i) + m) 42 (by decide) rfl (by omega) (by omega), e5, e6]
      rw [e3] at hm2
      exact c2 i m hi hm hm2
    · rw [hr 89 (6 * lv + i) 6 (by decide) rfl (by omega) (by omega), hr 90 (6 * lv + i) 6 (by decide) rfl (by omega) (by omega), e7, e8]
      exact c3 i hi
    · rw [hr 92 (6 * lv + i) 6 (by decide) rfl (by omega) (by omega), hr 93 (6 * lv + i) 6 (by decide) rfl (by omega) (by omega), e9, e10]
      exact c4 i hi
    · rw [hr 95 (5 * lv + i) 5 (by decide) rfl (by omega) (by omega), e11]
      exact c5 i hi
    · rw [hr 97 (24 * lv + i) 24 (by decide) rfl (by omega) (by omega), e12]
      exact c6 i hi
  · intro k J L v u Q hk h1 h2 h3 hq
    exact hC k J L v u Q hk (h1.trans (by rw [e14])) (h2.trans e15) (h3.trans e18) hq
  · intro k pl J L v u Q hk h18 hH hp hq
    obtain ⟨q1, q2, q3⟩ := hH
    refine hM k pl J L v u Q hk h18 ⟨fun j hj => ?_, fun j hj => ?_, fun j hj => ?_⟩ hp hq
    · rw [(q1 j hj).1, (q1 j hj).2, hr 99 (4 * lv + j) 4 (by decide) rfl (by omega) (by omega), hr 100 (4 * lv + j) 4 (by decide) rfl (by omega) (by omega)]
      exact ⟨rfl, rfl⟩
    · obtain ⟨w1, w2, w3, w4, w5⟩ := q2 j hj
      rw [w1, w2, w3, w4, w5, hr 101 (130 * lv + j) 130 (by decide) rfl (by omega) (by omega), hr 102 (130 * lv + j) 130 (by decide) rfl (by omega) (by omega), hr 103 (130 * lv + j) 130 (by decide) rfl (by omega) (by omega), hr 104 (130 * lv + j) 130 (by decide) rfl (by omega) (by omega), hr 105 (130 * lv + j) 130 (by decide) rfl (by omega) (by omega)]
      exact ⟨rfl, rfl, rfl, rfl, rfl⟩
    · rw [(q3 j hj).1, (q3 j hj).2, hr 106 (420 * lv + j) 420 (by decide) rfl (by omega) (by omega), hr 107 (420 * lv + j) 420 (by decide) rfl (by omega) (by omega)]
      exact ⟨rfl, rfl⟩
  · intro a b ha hb
    rw [e13, e12]
    exact hL a b ha hb
theorem INV_bad {t s lv np nm nl nc nd B : Nat} {u : Option Nat} {I I2 : AI} {L L2 : AL} {Lw : Nat → List Int32 → Int32} (hts : (t = 32 ∧ s = 51) ∨ (t = 51 ∧ s = 32)) (hW : WORDS L) (hS : STX I t lv np nm nl nc nd Lw) (hD : DYN I t np nm nl B) (hT : TOLD I t np nm)
  (hA : ∀ a, a < 70 → a ≠ 0 → a ≠ 1 → a ≠ 3 → a ≠ 4 → a ≠ 7 → a ≠ 9 → a ≠ 10 → a ≠ 11 → (a < s ∨ s + 18 < a) → I2 a = I a) (hP : ∀ a k, 70 ≤ a → PRT lv a k → ¬ (a = 70 ∧ (k = 2 ∨ k = 17)) → I2 a k = I a k) (h013 : I2 0 13 = I 0 13) (h15 : I2 1 5 = 0) (h702 : I2 70 2 = 0) (hpl : I2 0 14 = I2 70 17) (hL6 : L2 6 = L 6) (hL77 : L2 77 = L 77) : INV t u I2 L2 (B + 5) := by
  have hh : ∀ a, 109 ≤ a → I2 a = I a := fun a ha => funext fun k => hP a k (by omega) (Or.inl (by omega)) (by omega)
  have ht : t = 32 ∨ t = 51 := by omega
  have hX := INV_up (t := t) (u := u) (I := I2) (L := L2) (B := B) ⟨ht, ⟨fun j hj => by rw [hL6]; exact hW.1 j hj, fun j hj => by rw [hL77]; exact hW.2 j hj⟩, ⟨0, by decide, h15, h702, fun i hi => absurd hi (Nat.not_lt_zero _)⟩, hpl, lv, np, nm, nl, nc, nd, Lw, STX_h (fun a h1 h2 => hA a (by omega) (by omega) (by omega) (by omega) (by omega) (by omega) (by omega) (by omega) (by omega) (by omega)) hP hS, DYN_c (fun a ha => by
    by_cases g : 109 ≤ a
    · exact hh a g
    · exact hA a (by omega) (by omega) (by omega) (by omega) (by omega) (by omega) (by omega) (by omega) (by omega) (by omega)) (hP 70 62 (by decide) (Or.inr (Or.inl ⟨rfl, by decide⟩)) (by decide)) hD, TOLD_c (fun a ha => by
    by_cases g : 109 ≤ a
    · exact hh a g
    · exact hA a (by omega) (by omega) (by omega) (by omega) (by omega) (by omega) (by omega) (by omega) (by omega) (by omega)) h013 (hP 70 69 (by decide) (Or.inr (Or.inl ⟨rfl, by decide⟩)) (by decide)) hT⟩
  exact hX
theorem INV_good {kd vl mv : Nat → Nat} {K3 K4 : Nat → Int32} {K5 : Nat → Int64} {M3 M4 M5 : Nat → Int32} {M6 : Nat → Int64} {s sd B len x x' : Nat} {c so nu : Nat → Nat} {Bs : Nat → List (Cd × Cd × Cd)} {Es : Nat → Cd} {I' J' I2 : AI} {L' M' L2 : AL} {u : Option Nat} {F F1 F2 : Nat → Int32} (hs : s = 32 ∨ s = 51) (hd : sd ≤ 1) (hC : CW K3 K4 K5 s c so nu len Bs Es I' L' x) (hM : MW M3 M4 M5 M6 sd c so nu Bs Es J' M' x') (hN : CLN kd vl mv s sd c I' L' J' M')
  (gC : ∀ a, s ≤ a → a ≤ s + 18 → a ≠ s + 13 → I2 a = I' a) (gM : ∀ a, 81 ≤ a → a ≤ 107 → I2 a = J' a) (g18 : I2 70 18 = nI sd) (hlow : LOW I2 s (c 4)) (h13 : I2 13 = upr (zN F 45) 0 (-2)) (h111 : I2 111 = fb_put F1 (gRow F2) 0 48) (h124 : ∃ q, q < 40 ∧ I2 12 4 = nI q) (h125 : I2 12 5 = 0) (h62 : I2 70 62 = 0) (h14 : ∀ z, z < 3 → I2 14 z = 0) (h121 : ∀ z, z < 3 → I2 121 z = 0) (h013 : I2 0 13 = 0) (h69 : I2 70 69 = 0) (h15 : I2 1 5 = 0) (h702 : I2 70 2 = 0) (hpl : I2 0 14 = I2 70 17) (hW : WORDS L2) : INV s u I2 L2 (B + 5) := by
  obtain ⟨⟨a3, a4, a5⟩, ⟨b0, b1, b2, b3, b4⟩, hl5, c6, cN, cM, cD, ⟨p1, p2, p3⟩, pL⟩ := hC
  obtain ⟨_, ⟨d0, d1, d2, d3, d4⟩, _, _, _, br, cd, _, _, _, _, _, _, _, _, mL⟩ := hM
  obtain ⟨_, hP, hMe, hLe, hCr, hDi, hSe⟩ := hN
  have e0 : I2 s = I' s := gC s (by omega) (by omega) (by omega)
  have e1 : I2 (s + 1) = I' (s + 1) := gC _ (by omega) (by omega) (by omega)
  have e2 : I2 (s + 2) = I' (s + 2) := gC _ (by omega) (by omega) (by omega)
  have e3 : I2 (s + 3) = I' (s + 3) := gC _ (by omega) (by omega) (by omega)
  have e4 : I2 (s + 4) = I' (s + 4) := gC _ (by omega) (by omega) (by omega)
  have e5 : I2 (s + 5) = I' (s + 5) := gC _ (by omega) (by omega) (by omega)
  have e6 : I2 (s + 6) = I' (s + 6) := gC _ (by omega) (by omega) (by omega)
  have e7 : I2 (s + 7) = I' (s + 7) := gC _ (by omega) (by omega) (by omega)
  have e8 : I2 (s + 8) = I' (s + 8) := gC _ (by omega) (by omega) (by omega)
  have e9 : I2 (s + 9) = I' (s + 9) := gC _ (by omega) (by omega) (by omega)
  have e10 : I2 (s + 10) = I' (s + 10) := gC _ (by omega) (by omega) (by omega)
  have e11 : I2 (s + 11) = I' (s + 11) := gC _ (by omega) (by omega) (by omega)
  have e12 : I2 (s + 12) = I' (s + 12) := gC _ (by omega) (by omega) (by omega)
  have e14 : I2 (s + 14) = I' (s + 14) := gC _ (by omega) (by omega) (by omega)
  have e15 : I2 (s + 15) = I' (s + 15) := gC _ (by omega) (by omega) (by omega)
  have e18 : I2 (s + 18) = I' (s + 18) := gC _ (by omega) (by omega) (by omega)
  have m81 : I2 81 = J' 81 := gM 81 (by decide) (by decide)
  have m82 : I2 82 = J' 82 := gM 82 (by decide) (by decide)
  have m83 : I2 83 = J' 83 := gM 83 (by decide) (by decide)
  have m84 : I2 84 = J' 84 := gM 84 (by decide) (by decide)
  have m85 : I2 85 = J' 85 := gM 85 (by decide) (by decide)
  have m86 : I2 86 = J' 86 := gM 86 (by decide) (by decide)
  have m87 : I2 87 = J' 87 := gM 87 (by decide) (by decide)
  have m88 : I2 88 = J' 88 := gM 88 (by decide) (by decide)
  have m89 : I2 89 = J' 89 := gM 89 (by decide) (by decide)
  have m90 : I2 90 = J' 90 := gM 90 (by decide) (by decide)
  have m91 : I2 91 = J' 91 := gM 91 (by decide) (by decide)
  have m92 : I2 92 = J' 92 := gM 92 (by decide) (by decide)
  have m93 : I2 93 = J' 93 := gM 93 (by decide) (by decide)
  have m94 : I2 94 = J' 94 := gM 94 (by decide) (by decide)
  have m95 : I2 95 = J' 95 := gM 95 (by decide) (by decide)
  have m96 : I2 96 = J' 96 := gM 96 (by decide) (by decide)
  have m97 : I2 97 = J' 97 := gM 97 (by decide) (by decide)
  have m98 : I2 98 = J' 98 := gM 98 (by decide) (by decide)
  have m99 : I2 99 = J' 99 := gM 99 (by decide) (by decide)
  have m100 : I2 100 = J' 100 := gM 100 (by decide) (by decide)
  have m101 : I2 101 = J' 101 := gM 101 (by decide) (by decide)
  have m102 : I2 102 = J' 102 := gM 102 (by decide) (by decide)
  have m103 : I2 103 = J' 103 := gM 103 (by decide) (by decide)
  have m104 : I2 104 = J' 104 := gM 104 (by decide) (by decide)
  have m105 : I2 105 = J' 105 := gM 105 (by decide) (by decide)
  have m106 : I2 106 = J' 106 := gM 106 (by decide) (by decide)
  have m107 : I2 107 = J' 107 := gM 107 (by decide) (by decide)
  have r0 : ∀ j, j < 45 → j ≠ 0 → I2 13 j = 0 := fun j hj h0 => by rw [h13, upr_n h0]; exact zN_i hj
  have r00 : I2 13 0 = -2 := by rw [h13, upr_s]
  have q0 : ∀ j, j < 48 → I2 111 j = gRow F2 j := fun j hj => by rw [h111, fb_put_in (Nat.zero_le _) (by omega)]; rfl
  have q1 : ∀ j, j < 36 → I2 111 j = 0 := fun j hj => by
    rw [q0 j (by omega)]
    unfold gRow
    rw [upr_n (by omega), upr_n (by omega), upr_n (by omega), upr_n (by omega), upr_n (by omega), upr_n (by omega), upr_n (by omega)]
    exact zN_i (by omega)
  have rowz : ROW I2 s (c 0) (c 1) (c 2) (B + 5) (I2 13) := by
    refine ⟨Or.inl r00, fun a ha => ⟨0, 0, 0, Nat.two_pow_pos _, Nat.zero_le _, Nat.zero_le _, ?_, ?_, ?_⟩⟩
    · exact r0 _ (by omega) (by omega)
    · exact r0 _ (by omega) (by omega)
    · exact r0 _ (by omega) (by omega)
  have rrz : RR (I2 111) (I2 13) := by
    refine ⟨fun a j ha hj => ?_, ?_, ?_, ?_, fun z => absurd r00 z⟩
    · rw [q1 _ (by omega), r0 _ (by omega) (by omega)]
    · rw [q0 43 (by decide), r0 7 (by decide) (by decide)]; rfl
    · rw [q0 44 (by decide), r0 8 (by decide) (by decide)]; rfl
    · rw [q0 36 (by decide), r00]; rfl
  refine ⟨hs, hW, ⟨0, by decide, h15, h702, fun i hi => absurd hi (Nat.not_lt_zero _)⟩, hpl, sd, c 0, c 1, c 2, c 3, c 4, (fun k l => evL (vL l) (Bs k) (Es k)), ⟨?_, ?_, ?_, ?_, hlow⟩, ⟨⟨rowz, rrz⟩, ?_, ?_⟩, ⟨0, by decide, h013, h69, fun i hi => absurd hi (Nat.not_lt_zero _)⟩⟩
  · refine ⟨⟨by rw [e0]; exact b0, by rw [e0]; exact b1, by rw [e0]; exact b2, by rw [e0]; exact b3, by rw [e0]; exact b4⟩, hl5, ?_, ?_, ?_, ?_, ?_, ?_⟩
    · rw [e1, e2, e3, e4, e5, e6]
      exact fun i hi => (hP i hi).1
    · rw [e7, e8]
      exact fun i hi => (hMe i hi).1
    · rw [e9, e10]
      exact fun i hi => (hLe i hi).1
    · rw [e11]
      exact fun i hi => (hCr i hi).1
    · rw [e12]
      exact fun i hi => (hDi i hi).1
    · rw [e0]
      exact hSe.1
  · refine ⟨⟨hd, g18⟩, ⟨by rw [m81]; exact d0, by rw [m88]; exact d1, by rw [m91]; exact d2, by rw [m94]; exact d3, by rw [m96]; exact d4, by rw [m98, e0]; exact hSe.2⟩, ?_, ?_, ?_, ?_, ?_, ?_⟩
    · rw [m82, m83, m84, m85, e1, e2, e3, e4]
      exact fun i hi => (hP i hi).2.1
    · rw [m86, m87, e3, e5, e6]
      exact fun i m hi hm hm2 => (hP i hi).2.2 m hm hm2
    · rw [m89, m90, e7, e8]
      exact fun i hi => (hMe i hi).2
    · rw [m92, m93, e9, e10]
      exact fun i hi => (hLe i hi).2
    · rw [m95, e11]
      exact fun i hi => (hCr i hi).2
    · rw [m97, e12]
      exact fun i hi => (hDi i hi).2
  · exact LAWC_of hs (by rw [e14]; exact p1) p3 (by rw [e15, e18]; exact pL)
  · refine LAWM_of hd (fun k hk => ?_)
    rw [m99, m100]
    rcases mL k hk with w | ⟨f, l, w1, w2, w3, _⟩
    · exact Or.inl w
    · exact Or.inr ⟨f, l, w1, w2, MREP_c (I := J') (J := I2) (fun y _ _ => by rw [m106, m107]; exact ⟨rfl, rfl⟩) (fun y _ _ => by rw [m101, m102, m103, m104, m105]; exact ⟨rfl, rfl, rfl, rfl, rfl⟩) _ _ _ w3⟩
  · obtain ⟨q, hq, hq2⟩ := h124
    exact ⟨q, 0, hq, by decide, hq2, h125, h62, fun i hi => absurd hi (Nat.not_lt_zero _)⟩
  · intro z hz
    have hz0 := h14 z hz
    exact ⟨Or.inl hz0, by rw [h121 z hz, hz0], fun w => absurd (hz0.symm.trans w) (by decide)⟩
