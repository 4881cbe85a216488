/-! READ: the two readers side by side -/
def kN (c : Nat → Nat) : Nat := c 0 + c 1 + c 2 + c 3 + c 4
def smN (a : Nat) : Nat := if a = 0 then 0 else if a = 2 then 1 else 2
theorem smN_3 (a : Nat) : smN a < 3 := by
  unfold smN
  split
  · decide
  · split <;> decide
theorem smN_0 (a : Nat) : smN a = 0 ↔ a = 0 := by
  unfold smN
  by_cases h : a = 0
  · simp [h]
  · by_cases g : a = 2 <;> simp [h, g]
theorem smN_1 (a : Nat) : smN a = 1 ↔ a = 2 := by
  unfold smN
  by_cases h : a = 0
  · simp [h]
  · by_cases g : a = 2 <;> simp [h, g]
def CW (K3 K4 : Nat → Int32) (K5 : Nat → Int64) (s : Nat) (c so nu : Nat → Nat) (len : Nat) (Bs : Nat → List (Cd × Cd × Cd)) (Es : Nat → Cd) (I : AI) (L : AL) (x : Nat) : Prop :=
  (I 3 = K3 ∧ I 4 = K4 ∧ L 5 = K5) ∧
  (I s 14 = nI (c 0) ∧ I s 15 = nI (c 1) ∧ I s 16 = nI (c 2) ∧ I s 17 = nI (c 3) ∧ I s 18 = nI (c 4)) ∧
  (c 0 ≤ 14 ∧ c 1 ≤ 6 ∧ c 2 ≤ 6 ∧ c 3 ≤ 5 ∧ c 4 ≤ 4) ∧
  I 7 6 = nI (kN c) ∧
  (∀ i, i < kN c → I 9 i = nI (so i) ∧ so i < 5 ∧ I 10 i = nI (nu i)) ∧
  (∀ i, i < kN c → (so i = 0 → nu i < c 0) ∧ (so i = 2 → nu i < c 2)) ∧
  (∀ j, j < c 0 → ∃ d, d ≤ j ∧ I (s + 4) j = nI d) ∧
  (I (s + 14) 4 = nI len ∧ len ≤ x + 8 ∧ len ≤ 408) ∧
  ∀ k, k < 4 → ∃ st, st < 408 ∧ I (s + 18) k = nI st ∧ CREP (I (s + 15)) len st (Bs k) (Es k)
def LWM (sd : Nat) (Bs : Nat → List (Cd × Cd × Cd)) (Es : Nat → Cd) (J : AI) (x : Nat) : Prop := ∃ br cd, J 70 44 = nI br ∧ 130 * sd ≤ br ∧ 4 * br ≤ 520 * sd + x ∧ J 70 50 = nI cd ∧ 420 * sd ≤ cd ∧ cd ≤ 420 * sd + x ∧ J 70 12 = 0 ∧ (∀ b, 130 * sd ≤ b → b < br → ∃ z, z ≤ cd ∧ J 105 b = nI z) ∧
  ∀ k, k < 4 → (J 99 (4 * sd + k) = J 100 (4 * sd + k) ∧ Bs k = [] ∧ Es k = dfE k) ∨ ∃ f l, J 99 (4 * sd + k) = nI f ∧ J 100 (4 * sd + k) = nI l ∧ MREP J sd f l (Bs k) (Es k) ∧ l ≤ br
def MW (K3 K4 K5 : Nat → Int32) (K6 : Nat → Int64) (sd : Nat) (c so nu : Nat → Nat) (Bs : Nat → List (Cd × Cd × Cd)) (Es : Nat → Cd) (J : AI) (M : AL) (x : Nat) : Prop :=
  (J 73 = K3 ∧ J 74 = K4 ∧ J 75 = K5 ∧ M 76 = K6) ∧
  (J 81 sd = nI (c 0) ∧ J 88 sd = nI (c 1) ∧ J 91 sd = nI (c 2) ∧ J 94 sd = nI (c 3) ∧ J 96 sd = nI (c 4)) ∧
  (J 70 19 = nI sd ∧ J 70 20 = nI (kN c)) ∧
  (∀ i, i < kN c → J 79 i = nI (smN (so i)) ∧ J 80 i = nI (nu i)) ∧
  (∀ j, j < c 0 → ∃ d, d ≤ j ∧ J 85 (14 * sd + j) = nI d) ∧
  LWM sd Bs Es J x
/-- the names, as long as none is told twice -/
def NamK (kd vl mv : Nat → Nat) (A B : Nat → Int64) (kn : Nat) : Prop := (∀ i, i < kn → ∃ j, kd j = 23 ∧ A i = lN (vl j) ∧ B i = lN (mv j)) ∧ ∀ i j, i < kn → j < kn → A i = A j → i = j
def MenK (A B C D : Nat → Int32) (sd c : Nat) : Prop := ∀ a, a < c → (∃ sk ey, sk ≤ 10 ∧ ey ≤ 9 ∧ A a = nI sk ∧ B a = nI ey) ∧ C (6 * sd + a) = A a ∧ D (6 * sd + a) = B a
def LesK (A B C D : Nat → Int32) (sd c : Nat) : Prop := ∀ i, i < c → (∃ hr nd, 1 ≤ hr ∧ hr ≤ 99 ∧ nd < 2 ^ i ∧ A i = nI hr ∧ B i = nI nd) ∧ C (6 * sd + i) = A i ∧ D (6 * sd + i) = B i
def CrtK (A C : Nat → Int32) (sd c : Nat) : Prop := ∀ i, i < c → (∃ pr, pr ≤ 9 ∧ A i = nI pr) ∧ C (5 * sd + i) = A i
def DieK (A C : Nat → Int32) (sd c : Nat) : Prop := ∀ i, i < 6 * c → (∃ fc, fc ≤ 9 ∧ A i = nI fc) ∧ C (24 * sd + i) = A i
def PosK (A1 A2 A3 A4 A5 A6 B1 B2 B3 B4 B5 B6 : Nat → Int32) (sd c : Nat) : Prop := ∀ i, i < c → ((A1 i = -2 ∧ mgX (A2 i) ∧ A3 i = 0 ∧ A4 i = 0) ∨
    ∃ sd mv dp, sd ≤ 1 ∧ 1 ≤ mv ∧ mv ≤ 3 ∧ 1 ≤ dp ∧ dp ≤ 5 ∧ A1 i = nI sd ∧ A2 i = 0 ∧ A3 i = nI mv ∧ A4 i = nI dp ∧
      ∀ m, m < mv → ∃ j sh dj, j < i ∧ sh ≤ 9 ∧ dj < dp ∧ A5 (3 * i + m) = nI j ∧ A6 (3 * i + m) = nI sh ∧ A4 j = nI dj) ∧
  (B1 (14 * sd + i) = A1 i ∧ B2 (14 * sd + i) = A2 i ∧ B3 (14 * sd + i) = A3 i ∧ B4 (14 * sd + i) = A4 i) ∧
  ∀ m, m < 3 → m < (A3 i).toNatClampNeg → B5 (3 * (14 * sd + i) + m) = A5 (3 * i + m) ∧ B6 (3 * (14 * sd + i) + m) = A6 (3 * i + m)
def SedK (a b : Int32) : Prop := (∃ v, v ≤ 9999 ∧ a = nI v) ∧ b = a
def CLN (kd vl mv : Nat → Nat) (s sd : Nat) (c : Nat → Nat) (I : AI) (L : AL) (J : AI) (M : AL) : Prop :=
  NamK kd vl mv (L 8) (M 78) (kN c) ∧
  PosK (I (s + 1)) (I (s + 2)) (I (s + 3)) (I (s + 4)) (I (s + 5)) (I (s + 6)) (J 82) (J 83) (J 84) (J 85) (J 86) (J 87) sd (c 0) ∧
  MenK (I (s + 7)) (I (s + 8)) (J 89) (J 90) sd (c 1) ∧ LesK (I (s + 9)) (I (s + 10)) (J 92) (J 93) sd (c 2) ∧ CrtK (I (s + 11)) (J 95) sd (c 3) ∧ DieK (I (s + 12)) (J 97) sd (c 4) ∧ SedK (I s 19) (J 98 sd)
/-- what the reference must leave alone while it reads -/
def hsz (a : Nat) : Nat := if a = 81 ∨ a = 88 ∨ a = 91 ∨ a = 94 ∨ a = 96 ∨ a = 98 then 1 else if a = 82 ∨ a = 83 ∨ a = 84 ∨ a = 85 then 14 else if a = 86 ∨ a = 87 then 42 else if a = 89 ∨ a = 90 ∨ a = 92 ∨ a = 93 then 6 else if a = 95 then 5 else if a = 97 then 24 else if a = 99 ∨ a = 100 then 4 else if 101 ≤ a ∧ a ≤ 105 then 130 else if a = 106 ∨ a = 107 then 420 else 0
def PRT (lv a k : Nat) : Prop := (a < 70 ∨ a = 71 ∨ 109 ≤ a) ∨ (a = 70 ∧ (k = 2 ∨ k = 17 ∨ k = 18 ∨ k = 62 ∨ k = 69)) ∨ (hsz a * lv ≤ k ∧ k < hsz a * lv + hsz a)
def FRM (lv : Nat) (J J' : AI) : Prop := ∀ a k, PRT lv a k → J' a k = J a k
theorem FRM_r (lv : Nat) (J : AI) : FRM lv J J := fun _ _ _ => rfl
theorem FRM_t {lv : Nat} {J K H : AI} (h : FRM lv J K) (g : FRM lv K H) : FRM lv J H := fun a k q => (g a k q).trans (h a k q)
theorem FRM_u {lv : Nat} {J J' : AI} (h : FRM lv J J') {a k : Nat} {v : Int32} (n : ¬ PRT lv a k) : FRM lv J (up2 J' a k v) := by
  intro b l q
  by_cases e : b = a
  · subst e
    by_cases e2 : l = k
    · subst e2; exact absurd q n
    · rw [up2_s, upr_n e2]; exact h b l q
  · rw [up2_n e]; exact h b l q
def FRL (M M' : AL) : Prop := ∀ a, a ≠ 76 → a ≠ 78 → M' a = M a
/-- and the class -/
def FRC (s : Nat) (I I' : AI) (L L' : AL) : Prop := (∀ a, a ≠ 7 → a ≠ 9 → a ≠ 10 → a ≠ 11 → (a < s ∨ s + 18 < a) → I' a = I a) ∧ (∀ a, a ≠ 8 → L' a = L a)
theorem FRC_r (s : Nat) (I : AI) (L : AL) : FRC s I I L L := ⟨fun _ _ _ _ _ _ => rfl, fun _ _ => rfl⟩
theorem FRC_t {s : Nat} {I I1 I2 : AI} {L L1 L2 : AL} (h : FRC s I I1 L L1) (g : FRC s I1 I2 L1 L2) : FRC s I I2 L L2 := ⟨fun a h1 h2 h3 h4 h5 => (g.1 a h1 h2 h3 h4 h5).trans (h.1 a h1 h2 h3 h4 h5), fun a h1 => (g.2 a h1).trans (h.2 a h1)⟩
theorem FRC_u {s : Nat} {I I' : AI} {L L' : AL} (h : FRC s I I' L L') {a k : Nat} {v : Int32} (n : a = 7 ∨ a = 9 ∨ a = 10 ∨ a = 11 ∨ (s ≤ a ∧ a ≤ s + 18)) : FRC s I (up2 I' a k v) L L' := by
  refine ⟨fun b h1 h2 h3 h4 h5 => ?_, h.2⟩
  rw [up2_n (by omega)]
  exact h.1 b h1 h2 h3 h4 h5
theorem FRC_l {s : Nat} {I I' : AI} {L L' : AL} (h : FRC s I I' L L') {k : Nat} {v : Int64} : FRC s I I' L (up2 L' 8 k v) := ⟨h.1, fun a h1 => by rw [up2_n h1]; exact h.2 a h1⟩
theorem FRL_u {M M' : AL} (h : FRL M M') {k : Nat} {v : Int64} : FRL M (up2 M' 78 k v) := fun a h1 h2 => by rw [up2_n h2]; exact h a h1 h2
theorem upc {c : Nat → Nat} {k v : Nat} (j : Nat) : upr c k v j = if j = k then v else c j := rfl
theorem kN_up {c : Nat → Nat} {k : Nat} (hk : k < 5) : kN (upr c k (c k + 1)) = kN c + 1 := by
  have h5 : k = 0 ∨ k = 1 ∨ k = 2 ∨ k = 3 ∨ k = 4 := by omega
  rcases h5 with rfl | rfl | rfl | rfl | rfl
  · show c 0 + 1 + c 1 + c 2 + c 3 + c 4 = _; unfold kN; omega
  · show c 0 + (c 1 + 1) + c 2 + c 3 + c 4 = _; unfold kN; omega
  · show c 0 + c 1 + (c 2 + 1) + c 3 + c 4 = _; unfold kN; omega
  · show c 0 + c 1 + c 2 + (c 3 + 1) + c 4 = _; unfold kN; omega
  · show c 0 + c 1 + c 2 + c 3 + (c 4 + 1) = _; unfold kN; omega
theorem c_mono {c : Nat → Nat} {k j : Nat} : c j ≤ upr c k (c k + 1) j := by
  rw [upc]
  split
  · rename_i h; rw [h]; omega
  · exact Nat.le_refl _
def lmN (k : Nat) : Nat := if k = 0 then 14 else if k = 3 then 5 else if k = 4 then 4 else 6
theorem CW_name {K3 K4 : Nat → Int32} {K5 : Nat → Int64} {s : Nat} {c so nu : Nat → Nat} {len : Nat} {Bs : Nat → List (Cd × Cd × Cd)} {Es : Nat → Cd} {I I' : AI} {L L' : AL} {x x' : Nat} (h : CW K3 K4 K5 s c so nu len Bs Es I L x) {k : Nat} (hk : k < 5) (hl : c k < lmN k) (g3 : I' 3 = I 3) (g4 : I' 4 = I 4) (g5 : L' 5 = L 5) (gs : ∀ z, 14 ≤ z → z ≤ 18 → I' s z = upr (I s) (14 + k) (nI (c k + 1)) z) (g7 : I' 7 6 = nI (kN c + 1)) (g9 : I' 9 = upr (I 9) (kN c) (nI k)) (g10 : I' 10 = upr (I 10) (kN c) (nI (c k))) (gd : ∀ j, j < c 0 → I' (s + 4) j = I (s + 4) j) (gd0 : k = 0 → ∃ d, d ≤ c 0 ∧ I' (s + 4) (c 0) = nI d) (g14 : I' (s + 14) 4 = I (s + 14) 4) (g15 : I' (s + 15) = I (s + 15)) (g18 : I' (s + 18) = I (s + 18)) (hx : x ≤ x') : CW K3 K4 K5 s (upr c k (c k + 1)) (upr so (kN c) k) (upr nu (kN c) (c k)) len Bs Es I' L' x' := by
  obtain ⟨⟨a1, a2, a3⟩, ⟨b0, b1, b2, b3, b4⟩, ⟨l0, l1, l2, l3, l4⟩, c1, d1, e1, f1, ⟨p1, p2, p3⟩, q1⟩ := h
  refine ⟨⟨g3.trans a1, g4.trans a2, g5.trans a3⟩, ?_, ?_, ?_, ?_, ?_, ?_, ⟨g14.trans p1, by omega, p3⟩, ?_⟩
  · have h5 : k = 0 ∨ k = 1 ∨ k = 2 ∨ k = 3 ∨ k = 4 := by omega
    rcases h5 with rfl | rfl | rfl | rfl | rfl <;> refine ⟨?_, ?_, ?_, ?_, ?_⟩ <;> rw [gs _ (by decide) (by decide)] <;> first | rfl | assumption
  · have h5 : k = 0 ∨ k = 1 ∨ k = 2 ∨ k = 3 ∨ k = 4 := by omega
    rcases h5 with rfl | rfl | rfl | rfl | rfl <;> refine ⟨?_, ?_, ?_, ?_, ?_⟩ <;> first | assumption | exact hl
  · rw [g7, kN_up hk]
  · intro i hi
    rw [kN_up hk] at hi
    rw [g9, g10]
    by_cases e : i = kN c
    · subst e
      rw [upr_s, upr_s, upr_s, upr_s]
      exact ⟨rfl, hk, rfl⟩
    · rw [upr_n e, upr_n e, upr_n e, upr_n e]
      exact d1 i (by omega)
  · intro i hi
    rw [kN_up hk] at hi
    by_cases e : i = kN c
    · subst e
      rw [upr_s, upr_s]
      refine ⟨fun z => ?_, fun z => ?_⟩
      · subst z; show c 0 < c 0 + 1; omega
      · subst z; show c 2 < c 2 + 1; omega
    · rw [upr_n e, upr_n e]
      have := e1 i (by omega)
      exact ⟨fun z => Nat.lt_of_lt_of_le (this.1 z) c_mono, fun z => Nat.lt_of_lt_of_le (this.2 z) c_mono⟩
  · intro j hj
    by_cases e : j < c 0
    · obtain ⟨d, h1, h2⟩ := f1 j e
      exact ⟨d, h1, by rw [gd j e]; exact h2⟩
    · rw [upc] at hj
      by_cases z : (0 : Nat) = k
      · subst z
        rw [if_pos rfl] at hj
        obtain ⟨d, h1, h2⟩ := gd0 rfl
        have : j = c 0 := by omega
        subst this
        exact ⟨d, h1, h2⟩
      · rw [if_neg z] at hj; exact absurd hj e
  · intro j hj
    rw [g15, g18]
    exact q1 j hj
theorem LWM_c {sd : Nat} {Bs : Nat → List (Cd × Cd × Cd)} {Es : Nat → Cd} {J J' : AI} {x x' : Nat} (h : LWM sd Bs Es J x) (hx : x ≤ x') (g44 : J' 70 44 = J 70 44) (g50 : J' 70 50 = J 70 50) (g12 : J' 70 12 = J 70 12) (g : ∀ a, 99 ≤ a → a ≤ 107 → J' a = J a) : LWM sd Bs Es J' x' := by
  obtain ⟨br, cd, h1, h2, h3, h4, h5, h6, h7, h8, h9⟩ := h
  refine ⟨br, cd, g44.trans h1, h2, by omega, g50.trans h4, h5, by omega, g12.trans h7, fun b b1 b2 => by rw [g 105 (by decide) (by decide)]; exact h8 b b1 b2, fun k hk => ?_⟩
  rw [g 99 (by decide) (by decide), g 100 (by decide) (by decide)]
  rcases h9 k hk with q | ⟨f, l, q1, q2, q3, q4⟩
  · exact Or.inl q
  · exact Or.inr ⟨f, l, q1, q2, MREP_c (fun y _ _ => by rw [g 106 (by decide) (by decide), g 107 (by decide) (by decide)]; exact ⟨rfl, rfl⟩) (fun y _ _ => by rw [g 101 (by decide) (by decide), g 102 (by decide) (by decide), g 103 (by decide) (by decide), g 104 (by decide) (by decide), g 105 (by decide) (by decide)]; exact ⟨rfl, rfl, rfl, rfl, rfl⟩) _ _ _ q3, q4⟩
def rwN (k : Nat) : Nat := if k = 0 then 81 else if k = 1 then 88 else if k = 2 then 91 else if k = 3 then 94 else 96
theorem MW_name {K3 K4 K5 : Nat → Int32} {K6 : Nat → Int64} {sd : Nat} {c so nu : Nat → Nat} {Bs : Nat → List (Cd × Cd × Cd)} {Es : Nat → Cd} {J J' : AI} {M M' : AL} {x x' : Nat} (h : MW K3 K4 K5 K6 sd c so nu Bs Es J M x) {k : Nat} (hk : k < 5) (g3 : J' 73 = J 73) (g4 : J' 74 = J 74) (g5 : J' 75 = J 75) (g6 : M' 76 = M 76) (gc : ∀ z, z < 5 → J' (rwN z) sd = if z = k then nI (c k + 1) else J (rwN z) sd) (g19 : J' 70 19 = J 70 19) (g20 : J' 70 20 = nI (kN c + 1)) (g79 : J' 79 = upr (J 79) (kN c) (nI (smN k))) (g80 : J' 80 = upr (J 80) (kN c) (nI (c k))) (gd : ∀ j, j < c 0 → J' 85 (14 * sd + j) = J 85 (14 * sd + j)) (gd0 : k = 0 → ∃ d, d ≤ c 0 ∧ J' 85 (14 * sd + c 0) = nI d) (g44 : J' 70 44 = J 70 44) (g50 : J' 70 50 = J 70 50) (g12 : J' 70 12 = J 70 12) (g : ∀ a, 99 ≤ a → a ≤ 107 → J' a = J a) (hx : x ≤ x') : MW K3 K4 K5 K6 sd (upr c k (c k + 1)) (upr so (kN c) k) (upr nu (kN c) (c k)) Bs Es J' M' x' := by
  obtain ⟨⟨a1, a2, a3, a4⟩, ⟨b0, b1, b2, b3, b4⟩, ⟨c1, c2⟩, d1, f1, q1⟩ := h
  refine ⟨⟨g3.trans a1, g4.trans a2, g5.trans a3, g6.trans a4⟩, ?_, ⟨g19.trans c1, by rw [g20, kN_up hk]⟩, ?_, ?_, LWM_c q1 hx g44 g50 g12 g⟩
  · have h5 : k = 0 ∨ k = 1 ∨ k = 2 ∨ k = 3 ∨ k = 4 := by omega
    have z0 : J' 81 sd = _ := gc 0 (by decide)
    have z1 : J' 88 sd = _ := gc 1 (by decide)
    have z2 : J' 91 sd = _ := gc 2 (by decide)
    have z3 : J' 94 sd = _ := gc 3 (by decide)
    have z4 : J' 96 sd = _ := gc 4 (by decide)
    rw [z0, z1, z2, z3, z4]
    rcases h5 with rfl | rfl | rfl | rfl | rfl <;> refine ⟨?_, ?_, ?_, ?_, ?_⟩ <;> first | rfl | assumption
  · intro i hi
    rw [kN_up hk] at hi
    rw [g79, g80]
    by_cases e : i = kN c
    · subst e
      rw [upr_s, upr_s, upr_s, upr_s]
      exact ⟨rfl, rfl⟩
    · rw [upr_n e, upr_n e, upr_n e, upr_n e]
      exact d1 i (by omega)
  · intro j hj
    by_cases e : j < c 0
    · obtain ⟨d, h1, h2⟩ := f1 j e
      exact ⟨d, h1, by rw [gd j e]; exact h2⟩
    · rw [upc] at hj
      by_cases z : (0 : Nat) = k
      · subst z
        rw [if_pos rfl] at hj
        obtain ⟨d, h1, h2⟩ := gd0 rfl
        have : j = c 0 := by omega
        subst this
        exact ⟨d, h1, h2⟩
      · rw [if_neg z] at hj; exact absurd hj e
/-- the tokens, in both -/
def TOK (kd pl vl mv : Nat → Nat) (n : Nat) (K3 K4 : Nat → Int32) (K5 : Nat → Int64) (M3 M4 M5 : Nat → Int32) (M6 : Nat → Int64) : Prop := TKR kd pl vl n K3 K4 K5 ∧ TMR kd pl vl mv n M3 M4 M5 M6 ∧ (∀ j, kd j = 24 → vl j ≤ 9999) ∧ (∀ i j, i < j → j ≤ n → pl i < pl j) ∧ (∀ j, j ≤ n → pl j < 2 ^ 30) ∧ ∀ i j, kd i = 23 → kd j = 23 → (lN (vl i) = lN (vl j) ↔ lN (mv i) = lN (mv j))
theorem ixN_e {f g : Nat → Int64} {v w : Int64} : ∀ r i, (∀ j, i ≤ j → j < i + r → (f j = v ↔ g j = w)) → ixN f v r i = ixN g w r i := by
  intro r
  induction r with
  | zero => intros; rfl
  | succ r ih =>
    intro i h
    have h0 := h i (Nat.le_refl _) (by omega)
    unfold ixN
    by_cases e : f i = v
    · rw [if_pos e, if_pos (h0.mp e)]
    · rw [if_neg e, if_neg (fun z => e (h0.mpr z))]
      exact ih (i + 1) (fun j h1 h2 => h j (by omega) (by omega))
theorem lkM_no {f : Nat → Int64} {so nu : Nat → Nat} {v : Int64} {s : Nat} : ∀ r i, (∀ j, i ≤ j → j < i + r → f j ≠ v) → lkM f so nu v s r i = none := by
  intro r
  induction r with
  | zero => intros; rfl
  | succ r ih =>
    intro i h
    unfold lkM
    rw [if_neg (fun z => h i (Nat.le_refl _) (by omega) z.1)]
    exact ih (i + 1) (fun j h1 h2 => h j (by omega) (by omega))
theorem lkM_ix {f : Nat → Int64} {so nu : Nat → Nat} {v : Int64} {s : Nat} : ∀ r i, (∀ a b, i ≤ a → a < i + r → i ≤ b → b < i + r → f a = f b → a = b) → lkM f so nu v s r i = (ixN f v r i).elim none (fun a => if so a = s then some (nu a) else none) := by
  intro r
  induction r with
  | zero => intros; rfl
  | succ r ih =>
    intro i h
    unfold lkM ixN
    by_cases e : f i = v
    · rw [if_pos e]
      by_cases e2 : so i = s
      · rw [if_pos ⟨e, e2⟩]
        show _ = if so i = s then some (nu i) else none
        rw [if_pos e2]
      · rw [if_neg (fun z => e2 z.2)]
        show _ = if so i = s then some (nu i) else none
        rw [if_neg e2]
        exact lkM_no r (i + 1) (fun j h1 h2 z => absurd (h i j (Nat.le_refl _) (by omega) (by omega) (by omega) (e.trans z.symm)) (by omega))
    · rw [if_neg (fun z => e z.1), if_neg e]
      exact ih (i + 1) (fun a b a1 a2 b1 b2 z => h a b (by omega) (by omega) (by omega) (by omega) z)
theorem Nam_nw {kd pl vl mv : Nat → Nat} {n : Nat} {K3 K4 : Nat → Int32} {K5 : Nat → Int64} {M3 M4 M5 : Nat → Int32} {M6 : Nat → Int64} (hT : TOK kd pl vl mv n K3 K4 K5 M3 M4 M5 M6) {L M : AL} {kn x : Nat} (h : NamK kd vl mv (L 8) (M 78) kn) (hx : kd x = 23) : ixN (L 8) (lN (vl x)) kn 0 = ixN (M 78) (lN (mv x)) kn 0 := by
  refine ixN_e kn 0 (fun j _ hj => ?_)
  obtain ⟨i, h1, h2, h3⟩ := h.1 j (by omega)
  rw [h2, h3]
  exact hT.2.2.2.2.2 i x h1 hx
theorem Nam_lk {kd pl vl mv : Nat → Nat} {n : Nat} {K3 K4 : Nat → Int32} {K5 : Nat → Int64} {M3 M4 M5 : Nat → Int32} {M6 : Nat → Int64} (hT : TOK kd pl vl mv n K3 K4 K5 M3 M4 M5 M6) {L M : AL} {so nu : Nat → Nat} {kn x a b : Nat} (h : NamK kd vl mv (L 8) (M 78) kn) (hx : kd x = 23) (hab : ∀ z, smN z = b ↔ z = a) : lukP (L 8) so nu kn (lN (vl x)) a = lkM (M 78) (fun i => smN (so i)) nu (lN (mv x)) b kn 0 := by
  rw [lkM_ix kn 0 (fun i j _ hi _ hj z => by
    obtain ⟨i', p1, p2, p3⟩ := h.1 i (by omega)
    obtain ⟨j', q1, q2, q3⟩ := h.1 j (by omega)
    refine h.2 i j (by omega) (by omega) ?_
    rw [p2, q2]
    exact (hT.2.2.2.2.2 i' j' p1 q1).mpr (by rw [← p3, ← q3]; exact z)), ← Nam_nw hT h hx]
  unfold lukP
  cases ixN (L 8) (lN (vl x)) kn 0 with
  | none => rfl
  | some i =>
    show (if so i = a then some (nu i) else none) = if smN (so i) = b then some (nu i) else none
    by_cases e : so i = a
    · rw [if_pos e, if_pos ((hab _).mpr e)]
    · rw [if_neg e, if_neg (fun z => e ((hab _).mp z))]
theorem Nam_ap {kd vl mv : Nat → Nat} {A B : Nat → Int64} {kn x : Nat} (h : NamK kd vl mv A B kn) (hx : kd x = 23) (hn : (ixN A (lN (vl x)) kn 0).isSome = false) : NamK kd vl mv (upr A kn (lN (vl x))) (upr B kn (lN (mv x))) (kn + 1) := by
  have hn' : ixN A (lN (vl x)) kn 0 = none := by
    cases hi : ixN A (lN (vl x)) kn 0 with
    | none => rfl
    | some i => rw [hi] at hn; cases hn
  have hno := (ixN_no kn 0).mp hn'
  refine ⟨fun i hi => ?_, fun i j hi hj z => ?_⟩
  · by_cases e : i = kn
    · subst e
      exact ⟨x, hx, upr_s _ _ _, upr_s _ _ _⟩
    · rw [upr_n e, upr_n e]
      exact h.1 i (by omega)
  · by_cases e : i = kn
    · by_cases e2 : j = kn
      · omega
      · subst e
        rw [upr_s, upr_n e2] at z
        exact absurd z.symm (hno j (by omega) (by omega))
    · by_cases e2 : j = kn
      · subst e2
        rw [upr_s, upr_n e] at z
        exact absurd z (hno i (by omega) (by omega))
      · rw [upr_n e, upr_n e2] at z
        exact h.2 i j (by omega) (by omega) z
theorem FZ_of {kd pl vl mv : Nat → Nat} {n : Nat} {K3 K4 : Nat → Int32} {K5 : Nat → Int64} {M3 M4 M5 : Nat → Int32} {M6 : Nat → Int64} (hT : TOK kd pl vl mv n K3 K4 K5 M3 M4 M5 M6) {S : PS} (h : BNB pl S) (hx : S.1 ≤ n) (e : S.2.1 = 0) (f : S.2.2.2.1 ≠ 0) : FZ pl n S := by
  obtain ⟨j, h1, h2, _⟩ := h e f
  exact ⟨f, pl j, h2, hT.2.2.2.2.1 j (by omega), fun i h3 h4 => ⟨hT.2.2.2.1 j i (by omega) h4, hT.2.2.2.2.1 i h4⟩⟩
theorem BND_e {pl : Nat → Nat} {S Z : PS} (h : BND pl S) (g : SE S Z) : BNB pl Z := by
  intro e f
  have e1 : S.2.1 = 0 := by rw [g.1]; exact e
  obtain ⟨p1, p2, p3⟩ := g.2.2 e1
  have f1 : S.2.2.2.1 ≠ 0 := by rw [p2]; exact f
  obtain ⟨j, q1, q2, q3⟩ := h.1 e1 f1
  exact ⟨j, by rw [← p1]; exact q1, by rw [← p3 f1]; exact q2, by rw [← p2]; exact q3⟩
