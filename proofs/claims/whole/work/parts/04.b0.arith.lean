/-! small numbers -/
theorem vin_l (a N : Nat) (h : a < N) (h2 : N < 2 ^ 31) : vp_in (OfNat.ofNat a) N = True := by
  rw [fa_lit]
  exact eq_true (vp_in_nI h h2)
theorem vn_0_45 : vp_in 0 45 = True := vin_l 0 45 (by decide) (by decide)
theorem vn_1_45 : vp_in 1 45 = True := vin_l 1 45 (by decide) (by decide)
theorem vn_2_45 : vp_in 2 45 = True := vin_l 2 45 (by decide) (by decide)
theorem vn_3_45 : vp_in 3 45 = True := vin_l 3 45 (by decide) (by decide)
theorem vn_4_45 : vp_in 4 45 = True := vin_l 4 45 (by decide) (by decide)
theorem vn_5_45 : vp_in 5 45 = True := vin_l 5 45 (by decide) (by decide)
theorem vn_6_45 : vp_in 6 45 = True := vin_l 6 45 (by decide) (by decide)
theorem vn_7_45 : vp_in 7 45 = True := vin_l 7 45 (by decide) (by decide)
theorem vn_8_45 : vp_in 8 45 = True := vin_l 8 45 (by decide) (by decide)
theorem vn_36_48 : vp_in 36 48 = True := vin_l 36 48 (by decide) (by decide)
theorem vn_37_48 : vp_in 37 48 = True := vin_l 37 48 (by decide) (by decide)
theorem vn_38_48 : vp_in 38 48 = True := vin_l 38 48 (by decide) (by decide)
theorem vn_39_48 : vp_in 39 48 = True := vin_l 39 48 (by decide) (by decide)
theorem vn_40_48 : vp_in 40 48 = True := vin_l 40 48 (by decide) (by decide)
theorem vn_41_48 : vp_in 41 48 = True := vin_l 41 48 (by decide) (by decide)
theorem vn_42_48 : vp_in 42 48 = True := vin_l 42 48 (by decide) (by decide)
theorem vn_43_48 : vp_in 43 48 = True := vin_l 43 48 (by decide) (by decide)
theorem vn_44_48 : vp_in 44 48 = True := vin_l 44 48 (by decide) (by decide)
theorem vn_0_9 : vp_in 0 9 = True := vin_l 0 9 (by decide) (by decide)
theorem vn_1_9 : vp_in 1 9 = True := vin_l 1 9 (by decide) (by decide)
theorem vn_2_9 : vp_in 2 9 = True := vin_l 2 9 (by decide) (by decide)
theorem vn_3_9 : vp_in 3 9 = True := vin_l 3 9 (by decide) (by decide)
theorem vn_4_9 : vp_in 4 9 = True := vin_l 4 9 (by decide) (by decide)
theorem vn_5_9 : vp_in 5 9 = True := vin_l 5 9 (by decide) (by decide)
theorem vn_6_9 : vp_in 6 9 = True := vin_l 6 9 (by decide) (by decide)
theorem vn_7_9 : vp_in 7 9 = True := vin_l 7 9 (by decide) (by decide)
theorem vn_8_9 : vp_in 8 9 = True := vin_l 8 9 (by decide) (by decide)
theorem vn_0_3 : vp_in 0 3 = True := vin_l 0 3 (by decide) (by decide)
theorem vn_1_3 : vp_in 1 3 = True := vin_l 1 3 (by decide) (by decide)
theorem vn_2_3 : vp_in 2 3 = True := vin_l 2 3 (by decide) (by decide)
theorem vn_0_4 : vp_in 0 4 = True := vin_l 0 4 (by decide) (by decide)
theorem vn_1_4 : vp_in 1 4 = True := vin_l 1 4 (by decide) (by decide)
theorem vn_2_4 : vp_in 2 4 = True := vin_l 2 4 (by decide) (by decide)
theorem vn_3_4 : vp_in 3 4 = True := vin_l 3 4 (by decide) (by decide)
theorem vn_0_64 : vp_in 0 64 = True := vin_l 0 64 (by decide) (by decide)
theorem vn_0_16 : vp_in 0 16 = True := vin_l 0 16 (by decide) (by decide)
theorem vn_0_400 : vp_in 0 400 = True := vin_l 0 400 (by decide) (by decide)
theorem vn_0_6 : vp_in 0 6 = True := vin_l 0 6 (by decide) (by decide)
theorem vn_0_14 : vp_in 0 14 = True := vin_l 0 14 (by decide) (by decide)
theorem leT {a b : Nat} (h : a ≤ b) (hb : b < 2 ^ 31) : (nI a ≤ nI b) = True := eq_true (nI_le h hb)
theorem leF {a b : Nat} (h : b < a) (ha : a < 2 ^ 31) : (nI a ≤ nI b) = False := eq_false (nI_ge h ha)
theorem ltT {a b : Nat} (h : a < b) (hb : b < 2 ^ 31) : (nI a < nI b) = True := eq_true (nI_lt h hb)
theorem ltF {a b : Nat} (h : b ≤ a) (ha : a < 2 ^ 31) : (nI a < nI b) = False := eq_false (nI_nlt h ha)
theorem lt0F {a : Nat} (ha : a < 2 ^ 31) : (nI a < 0) = False := eq_false (nI_pos ha)
theorem le0T {a : Nat} (ha : a < 2 ^ 31) : (0 ≤ nI a) = True := eq_true (nI_pos' ha)
theorem inT {a N : Nat} (h : a < N) (hN : N < 2 ^ 31) : vp_in (nI a) N = True := eq_true (vp_in_nI h hN)
theorem le_lt {x : Int32} {n : Nat} (h : nI (n + 1) ≤ x) (hn : n + 1 < 2 ^ 31) : ¬ x ≤ nI n := by
  intro q
  have h1 := Int32.le_iff_toInt_le.mp h
  have h2 := Int32.le_iff_toInt_le.mp q
  rw [nI_toInt hn] at h1
  rw [nI_toInt (by omega)] at h2
  omega
theorem ix3 (x : Int32) {n : Nat} (hn : n < 2 ^ 30) : ((x < 0) = True ∧ (0 ≤ x) = False) ∨ ((x < 0) = False ∧ (0 ≤ x) = True ∧ (nI n ≤ x) = True ∧ (x < nI n) = False ∧ (nI n - 1 < x) = True ∧ (x ≤ nI n - 1) = False) ∨ ∃ j, j < n ∧ x = nI j ∧ (nI j < 0) = False ∧ (0 ≤ nI j) = True ∧ (nI n ≤ nI j) = False ∧ (nI j < nI n) = True ∧ (nI n - 1 < nI j) = False ∧ (nI j ≤ nI n - 1) = True ∧ (nI j).toNatClampNeg = j := by
  have z0 : (0 : Int32).toInt = 0 := rfl
  have es : (nI n - 1).toInt = (n : Int) - 1 := by
    have := pk_sub_toInt (a := n) (b := 1) (by omega) (by decide)
    exact this
  rcases pk_ix x (show n < 2 ^ 31 by omega) with h | h | ⟨j, hj, rfl⟩
  · refine Or.inl ⟨eq_true h, eq_false (fun q => ?_)⟩
    have h1 := Int32.lt_iff_toInt_lt.mp h
    have h2 := Int32.le_iff_toInt_le.mp q
    omega
  · have h1 := Int32.le_iff_toInt_le.mp h
    rw [nI_toInt (by omega)] at h1
    refine Or.inr (Or.inl ⟨eq_false (fun q => ?_), eq_true (Int32.le_iff_toInt_le.mpr (by omega)), eq_true h, eq_false (fun q => ?_), eq_true (Int32.lt_iff_toInt_lt.mpr (by omega)), eq_false (fun q => ?_)⟩)
    · have h2 := Int32.lt_iff_toInt_lt.mp q; omega
    · have h2 := Int32.lt_iff_toInt_lt.mp q; rw [nI_toInt (by omega)] at h2; omega
    · have h2 := Int32.le_iff_toInt_le.mp q; omega
  · have ej : (nI j).toInt = j := nI_toInt (by omega)
    refine Or.inr (Or.inr ⟨j, hj, rfl, lt0F (by omega), le0T (by omega), leF hj (by omega), ltT hj (by omega), eq_false (fun q => ?_), eq_true (Int32.le_iff_toInt_le.mpr (by omega)), nI_clamp (by omega)⟩)
    have h2 := Int32.lt_iff_toInt_lt.mp q; omega
theorem mA (c : Int32) (k a b : Nat) (hc : c = nI k) : c * nI a + nI b = nI (k * a + b) := by rw [hc, pk_mul, nI_add]
theorem m14 (a b : Nat) : 14 * nI a + nI b = nI (14 * a + b) := mA 14 14 a b rfl
theorem m6 (a b : Nat) : 6 * nI a + nI b = nI (6 * a + b) := mA 6 6 a b rfl
theorem m3 (a b : Nat) : 3 * nI a + nI b = nI (3 * a + b) := mA 3 3 a b rfl
theorem m3r (a b : Nat) : nI a * 3 + nI b = nI (3 * a + b) := by rw [show (3 : Int32) = nI 3 from rfl, pk_mul, nI_add, Nat.mul_comm]
theorem m5 (a b : Nat) : 5 * nI a + nI b = nI (5 * a + b) := mA 5 5 a b rfl
