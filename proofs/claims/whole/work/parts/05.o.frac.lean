/-! fractions that cannot be lessened -/
def frN (a b : Nat) (w : Int32) : Nat := (if w = 0 then a else b) / Nat.gcd a b
theorem cmp0 {y : Nat} (hy : y < 2 ^ 63) (h0 : 0 < y) : (lg_cmp (lN y) 0 ≤ 0) = False := by
  refine eq_false (fun q => ?_)
  have q2 := (lg_cmp_le _ _).mp q
  have q3 := (pk_lLE (a := y) (b := 0) hy (by decide)).mp q2
  omega
theorem cmp00 : (lg_cmp (lN 0) 0 ≤ 0) = True := eq_true (by decide)
theorem lN0F {y : Nat} (hy : y < 2 ^ 63) (h0 : 0 < y) : (lN y = 0) = False := eq_false (fun q => by
  have := (pk_lEQ (a := y) (b := 0) hy (by decide)).mp q
  omega)
theorem gcd_step {x y g : Nat} (h : Nat.gcd x y = g) : Nat.gcd y (x % y) = g := by
  rw [← h, Nat.gcd_comm x y, Nat.gcd_rec y x, Nat.gcd_comm]
theorem prod_half {x y n : Nat} (hy : 0 < y) (hxy : y ≤ x) (h : x * y < 2 ^ (n + 1)) : y * (x % y) < 2 ^ n := by
  have h1 : x % y < y := Nat.mod_lt _ hy
  have h2 : y + x % y ≤ x := by
    have := Nat.div_add_mod x y
    have h3 : 1 ≤ x / y := (Nat.le_div_iff_mul_le hy).mpr (by omega)
    have h4 : y * 1 ≤ y * (x / y) := Nat.mul_le_mul_left y h3
    omega
  have h3 : (y + x % y) * y ≤ x * y := Nat.mul_le_mul_right y h2
  have h4 : (x % y + x % y) * y ≤ (y + x % y) * y := Nat.mul_le_mul_right y (by omega)
  rw [Nat.pow_succ] at h
  have h5 : (x % y + x % y) * y = 2 * (y * (x % y)) := by rw [← Nat.two_mul, Nat.mul_assoc, Nat.mul_comm (x % y) y]
  omega
theorem lc_gcd {nn : Nat} {J : AI} {L : AL} {R : AR} {Q : PQ} {A B : Int64} {w : Int32} {g : Nat} (hQ : ∀ Y7 Y9 Y10 Y11, V 137 45 [.long A, .retAddr 0, .long B, .retAddr 0, .int w, .long (lN g), .retAddr 0, .long Y7, .retAddr 0, Y9, Y10, Y11] [] nn J L R Q) : ∀ n x y i Y10 Y11, y ≤ x → x < 2 ^ 62 → x * y < 2 ^ n → i + n ≤ 200 → Nat.gcd x y = g → V 137 9 [.long A, .retAddr 0, .long B, .retAddr 0, .int w, .long (lN x), .retAddr 0, .long (lN y), .retAddr 0, .int (nI i), Y10, Y11] [] nn J L R Q := by
  intro n
  induction n with
  | zero =>
    intro x y i Y10 Y11 hxy hx hp hi hg
    have hy : y = 0 := by
      rcases Nat.eq_zero_or_pos y with h | h
      · exact h
      · have : 1 * 1 ≤ x * y := Nat.mul_le_mul (by omega) h
        omega
    subst hy
    rw [Nat.gcd_zero_right] at hg
    subst hg
    have hz := hQ (lN 0) (.int (nI i)) Y10 Y11
    rw [r137_9]
    by_cases q : (200 : Int32) ≤ nI i
    · have q := eq_true q
      simp (config := { decide := true }) only [↓reduceIte, KV_i, KV_v, wsm_0, wsm_i, wsm_l, wsm_r, dlV_i, dlV_r, dlV_l, dlV_j, cat_i, cat_l, cat_r, rf_s, true_and, and_true, and_self, if_true, if_false, ite_true, ite_false, eq_self, true_or, or_true, false_or, or_false, not_true_eq_false, not_false_eq_true, r137_0, r137_1, r137_3, r137_4, r137_6, r137_7, r137_11, r137_14, r137_17, r137_19, r137_20, r137_21, r137_24, r137_26, r137_28, r137_29, r137_31, r137_33, r137_35, r137_37, r137_39, r137_42, r137_47, r137_48, r137_49, r137_52, r137_54, r137_57, r137_58, r137_61, r137_62, r137_64, r137_65, r137_66, r137_69, r137_70, q]
      exact hz
    · have q := eq_false q
      simp (config := { decide := true }) only [↓reduceIte, KV_i, KV_v, wsm_0, wsm_i, wsm_l, wsm_r, dlV_i, dlV_r, dlV_l, dlV_j, cat_i, cat_l, cat_r, rf_s, true_and, and_true, and_self, if_true, if_false, ite_true, ite_false, eq_self, true_or, or_true, false_or, or_false, not_true_eq_false, not_false_eq_true, r137_0, r137_1, r137_3, r137_4, r137_6, r137_7, r137_11, r137_14, r137_17, r137_19, r137_20, r137_21, r137_24, r137_26, r137_28, r137_29, r137_31, r137_33, r137_35, r137_37, r137_39, r137_42, r137_47, r137_48, r137_49, r137_52, r137_54, r137_57, r137_58, r137_61, r137_62, r137_64, r137_65, r137_66, r137_69, r137_70, q, cmp00]
      exact hz
  | succ n ih =>
    intro x y i Y10 Y11 hxy hx hp hi hg
    have e1 : ((200 : Int32) ≤ nI i) = False := leF (a := 200) (b := i) (by omega) (by omega)
    rcases Nat.eq_zero_or_pos y with h0 | h0
    · subst h0
      rw [Nat.gcd_zero_right] at hg
      subst hg
      have hz := hQ (lN 0) (.int (nI i)) Y10 Y11
      rw [r137_9]
      simp (config := { decide := true }) only [↓reduceIte, KV_i, KV_v, wsm_0, wsm_i, wsm_l, wsm_r, dlV_i, dlV_r, dlV_l, dlV_j, cat_i, cat_l, cat_r, rf_s, true_and, and_true, and_self, if_true, if_false, ite_true, ite_false, eq_self, true_or, or_true, false_or, or_false, not_true_eq_false, not_false_eq_true, r137_0, r137_1, r137_3, r137_4, r137_6, r137_7, r137_11, r137_14, r137_17, r137_19, r137_20, r137_21, r137_24, r137_26, r137_28, r137_29, r137_31, r137_33, r137_35, r137_37, r137_39, r137_42, r137_47, r137_48, r137_49, r137_52, r137_54, r137_57, r137_58, r137_61, r137_62, r137_64, r137_65, r137_66, r137_69, r137_70, e1, cmp00]
      exact hz
    · have c1 := cmp0 (y := y) (by omega) h0
      have c2 := lN0F (y := y) (by omega) h0
      have c3 := pk_lRem (a := x) (b := y) (by omega) h0 (by omega)
      have hlt := Nat.mod_lt x h0
      have i1 := ih y (x % y) (i + 1) (.long (lN (x % y))) (.retAddr 0) (by omega) (by omega) (prod_half h0 hxy hp) (by omega) (gcd_step hg)
      rw [r137_9]
      simp (config := { decide := true }) only [↓reduceIte, KV_i, KV_v, wsm_0, wsm_i, wsm_l, wsm_r, dlV_i, dlV_r, dlV_l, dlV_j, cat_i, cat_l, cat_r, rf_s, true_and, and_true, and_self, if_true, if_false, ite_true, ite_false, eq_self, true_or, or_true, false_or, or_false, not_true_eq_false, not_false_eq_true, r137_0, r137_1, r137_3, r137_4, r137_6, r137_7, r137_11, r137_14, r137_17, r137_19, r137_20, r137_21, r137_24, r137_26, r137_28, r137_29, r137_31, r137_33, r137_35, r137_37, r137_39, r137_42, r137_47, r137_48, r137_49, r137_52, r137_54, r137_57, r137_58, r137_61, r137_62, r137_64, r137_65, r137_66, r137_69, r137_70, e1, c1, c2, c3, nI_1]
      exact i1
theorem c_lessened {nn a b : Nat} {J : AI} {L : AL} {R : AR} {Q : PQ} {w : Int32} {A B : Int64} (hA : A = lN a) (hB : B = lN b) (hab : a ≤ b) (hb : 0 < b) (hb2 : b < 2 ^ 31) (hQ : Q (some (.int (nI (frN a b w)))) nn J L R) : V 137 0 [.long A, .retAddr 0, .long B, .retAddr 0, .int w, .retAddr 0, .retAddr 0, .retAddr 0, .retAddr 0, .retAddr 0, .retAddr 0, .retAddr 0] [] nn J L R Q := by
  subst hA hB
  have hg : 0 < Nat.gcd a b := Nat.gcd_pos_of_pos_right a hb
  have hg2 : Nat.gcd a b ≤ b := Nat.gcd_le_right a hb
  have c1 : (lg_cmp (lN (Nat.gcd a b)) 0 ≤ 0) = False := cmp0 (by omega) hg
  have c2 := lN0F (y := Nat.gcd a b) (by omega) hg
  have d1 := pk_lDiv (a := a) (b := Nat.gcd a b) (by omega) hg (by omega)
  have d2 := pk_lDiv (a := b) (b := Nat.gcd a b) (by omega) hg (by omega)
  unfold frN at hQ
  have hp : b * a < 2 ^ 62 := by
    have h1 : b * a ≤ b * b := Nat.mul_le_mul_left b hab
    have h2 : b * b < 2 ^ 31 * 2 ^ 31 := Nat.mul_lt_mul_of_lt_of_lt hb2 hb2
    omega
  have e := lc_gcd (nn := nn) (J := J) (L := L) (R := R) (Q := Q) (A := lN a) (B := lN b) (w := w) (g := Nat.gcd a b) (fun Y7 Y9 Y10 Y11 => by
    by_cases q : w = 0
    · rw [if_pos q] at hQ
      rw [r137_45]
      simp (config := { decide := true }) only [↓reduceIte, KV_i, KV_v, wsm_0, wsm_i, wsm_l, wsm_r, dlV_i, dlV_r, dlV_l, dlV_j, cat_i, cat_l, cat_r, rf_s, true_and, and_true, and_self, if_true, if_false, ite_true, ite_false, eq_self, true_or, or_true, false_or, or_false, not_true_eq_false, not_false_eq_true, r137_0, r137_1, r137_3, r137_4, r137_6, r137_7, r137_11, r137_14, r137_17, r137_19, r137_20, r137_21, r137_24, r137_26, r137_28, r137_29, r137_31, r137_33, r137_35, r137_37, r137_39, r137_42, r137_47, r137_48, r137_49, r137_52, r137_54, r137_57, r137_58, r137_61, r137_62, r137_64, r137_65, r137_66, r137_69, r137_70, c1, c2, d1, lN_i, q]
      exact hQ
    · rw [if_neg q] at hQ
      rw [r137_45]
      simp (config := { decide := true }) only [↓reduceIte, KV_i, KV_v, wsm_0, wsm_i, wsm_l, wsm_r, dlV_i, dlV_r, dlV_l, dlV_j, cat_i, cat_l, cat_r, rf_s, true_and, and_true, and_self, if_true, if_false, ite_true, ite_false, eq_self, true_or, or_true, false_or, or_false, not_true_eq_false, not_false_eq_true, r137_0, r137_1, r137_3, r137_4, r137_6, r137_7, r137_11, r137_14, r137_17, r137_19, r137_20, r137_21, r137_24, r137_26, r137_28, r137_29, r137_31, r137_33, r137_35, r137_37, r137_39, r137_42, r137_47, r137_48, r137_49, r137_52, r137_54, r137_57, r137_58, r137_61, r137_62, r137_64, r137_65, r137_66, r137_69, r137_70, c1, c2, d2, lN_i, q]
      exact hQ) 62 b a 0 (.retAddr 0) (.retAddr 0) hab (by omega) hp (by omega) (Nat.gcd_comm b a)
  simp (config := { decide := true }) only [↓reduceIte, KV_i, KV_v, wsm_0, wsm_i, wsm_l, wsm_r, dlV_i, dlV_r, dlV_l, dlV_j, cat_i, cat_l, cat_r, rf_s, true_and, and_true, and_self, if_true, if_false, ite_true, ite_false, eq_self, true_or, or_true, false_or, or_false, not_true_eq_false, not_false_eq_true, r137_0, r137_1, r137_3, r137_4, r137_6, r137_7, r137_11, r137_14, r137_17, r137_19, r137_20, r137_21, r137_24, r137_26, r137_28, r137_29, r137_31, r137_33, r137_35, r137_37, r137_39, r137_42, r137_47, r137_48, r137_49, r137_52, r137_54, r137_57, r137_58, r137_61, r137_62, r137_64, r137_65, r137_66, r137_69, r137_70]
  exact e
theorem lm_common {nn : Nat} {J : AI} {L : AL} {R : AR} {Q : PQ} {A B : Int32} {g : Nat} (hQ : Q (some (.int (nI g))) nn J L R) : ∀ n x y Y4, y ≤ n → x < 2 ^ 31 → y < 2 ^ 31 → Nat.gcd x y = g → V 224 4 [.int A, .int B, .int (nI x), .int (nI y), Y4] [] nn J L R Q := by
  intro n
  induction n with
  | zero =>
    intro x y Y4 hy hx hy2 hg
    have e : y = 0 := Nat.le_zero.mp hy
    subst e
    rw [Nat.gcd_zero_right] at hg
    subst hg
    rw [r224_4]
    simp (config := { decide := true }) only [↓reduceIte, KV_i, KV_v, wsm_0, wsm_i, wsm_l, wsm_r, dlV_i, dlV_r, dlV_l, dlV_j, cat_i, cat_l, cat_r, rf_s, true_and, and_true, and_self, if_true, if_false, ite_true, ite_false, eq_self, true_or, or_true, false_or, or_false, not_true_eq_false, not_false_eq_true, r224_0, r224_1, r224_2, r224_3, r224_5, r224_8, r224_9, r224_10, r224_11, r224_13, r224_14, r224_15, r224_17, r224_18, r224_21, r224_22, nI_0]
    exact hQ
  | succ n ih =>
    intro x y Y4 hy hx hy2 hg
    rcases Nat.eq_zero_or_pos y with h0 | h0
    · subst h0
      rw [Nat.gcd_zero_right] at hg
      subst hg
      rw [r224_4]
      simp (config := { decide := true }) only [↓reduceIte, KV_i, KV_v, wsm_0, wsm_i, wsm_l, wsm_r, dlV_i, dlV_r, dlV_l, dlV_j, cat_i, cat_l, cat_r, rf_s, true_and, and_true, and_self, if_true, if_false, ite_true, ite_false, eq_self, true_or, or_true, false_or, or_false, not_true_eq_false, not_false_eq_true, r224_0, r224_1, r224_2, r224_3, r224_5, r224_8, r224_9, r224_10, r224_11, r224_13, r224_14, r224_15, r224_17, r224_18, r224_21, r224_22, nI_0]
      exact hQ
    · have c2 : (nI y = 0) = False := eq_false (nI_ne0 h0 hy2)
      have c3 := pk_rem (a := x) (d := y) hx h0 hy2
      have hlt := Nat.mod_lt x h0
      have i1 := ih y (x % y) (.int (nI (x % y))) (by omega) hy2 (by omega) (gcd_step hg)
      rw [r224_4]
      simp (config := { decide := true }) only [↓reduceIte, KV_i, KV_v, wsm_0, wsm_i, wsm_l, wsm_r, dlV_i, dlV_r, dlV_l, dlV_j, cat_i, cat_l, cat_r, rf_s, true_and, and_true, and_self, if_true, if_false, ite_true, ite_false, eq_self, true_or, or_true, false_or, or_false, not_true_eq_false, not_false_eq_true, r224_0, r224_1, r224_2, r224_3, r224_5, r224_8, r224_9, r224_10, r224_11, r224_13, r224_14, r224_15, r224_17, r224_18, r224_21, r224_22, c2, c3]
      exact i1
theorem m_lineOf {nn a b : Nat} {J : AI} {L : AL} {R : AR} {Q : PQ} {w A B : Int32} (hA : A = nI a) (hB : B = nI b) (ha : a < 2 ^ 31) (hb : 0 < b) (hb2 : b < 2 ^ 31) (hQ : Q (some (.int (nI (frN a b w)))) nn J L R) : V 225 0 [.int A, .int B, .int w, .retAddr 0] [] nn J L R Q := by
  subst hA hB
  have hg : 0 < Nat.gcd a b := Nat.gcd_pos_of_pos_right a hb
  have hg2 : Nat.gcd a b ≤ b := Nat.gcd_le_right a hb
  have c2 : (nI (Nat.gcd a b) = 0) = False := eq_false (nI_ne0 hg (by omega))
  have d1 := pk_div (a := a) (d := Nat.gcd a b) (by omega) hg (by omega)
  have d2 := pk_div (a := b) (d := Nat.gcd a b) (by omega) hg (by omega)
  unfold frN at hQ
  have e := fun (Q2 : PQ) hQ2 => lm_common (nn := nn) (J := J) (L := L) (R := R) (Q := Q2) (A := nI a) (B := nI b) (g := Nat.gcd a b) hQ2 b a b (.retAddr 0) (by omega) ha hb2 rfl
  simp (config := { decide := true }) only [↓reduceIte, KV_i, KV_v, wsm_0, wsm_i, wsm_l, wsm_r, dlV_i, dlV_r, dlV_l, dlV_j, cat_i, cat_l, cat_r, rf_s, true_and, and_true, and_self, if_true, if_false, ite_true, ite_false, eq_self, true_or, or_true, false_or, or_false, not_true_eq_false, not_false_eq_true, r225_0, r225_1, r225_2, r225_5, r225_6, r225_7, r225_10, r225_11, r225_14, r225_15, r225_16, r225_17, r224_0, r224_1, r224_2, r224_3, r224_5, r224_8, r224_9, r224_10, r224_11, r224_13, r224_14, r224_15, r224_17, r224_18, r224_21, r224_22]
  refine e _ ?_
  by_cases q : w = 0
  · rw [if_pos q] at hQ
    simp (config := { decide := true }) only [↓reduceIte, KV_i, KV_v, wsm_0, wsm_i, wsm_l, wsm_r, dlV_i, dlV_r, dlV_l, dlV_j, cat_i, cat_l, cat_r, rf_s, true_and, and_true, and_self, if_true, if_false, ite_true, ite_false, eq_self, true_or, or_true, false_or, or_false, not_true_eq_false, not_false_eq_true, r225_0, r225_1, r225_2, r225_5, r225_6, r225_7, r225_10, r225_11, r225_14, r225_15, r225_16, r225_17, c2, d1, q]
    exact hQ
  · rw [if_neg q] at hQ
    simp (config := { decide := true }) only [↓reduceIte, KV_i, KV_v, wsm_0, wsm_i, wsm_l, wsm_r, dlV_i, dlV_r, dlV_l, dlV_j, cat_i, cat_l, cat_r, rf_s, true_and, and_true, and_self, if_true, if_false, ite_true, ite_false, eq_self, true_or, or_true, false_or, or_false, not_true_eq_false, not_false_eq_true, r225_0, r225_1, r225_2, r225_5, r225_6, r225_7, r225_10, r225_11, r225_14, r225_15, r225_16, r225_17, c2, d2, q]
    exact hQ
