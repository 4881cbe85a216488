/-! fine: the pure part -/
def offN (s i : Nat) : Nat := if s < i then i - s else s - i
def gnI (pay : Nat → Int32) (i s : Nat) : Int := (pay s).toInt - (pay i).toInt
def OKp (pay : Nat → Int32) (c i s : Nat) : Prop := gnI pay i s ≤ (c : Int) * (offN s i : Int)
theorem gnI_b (pay : Nat → Int32) (i s : Nat) : -4294967296 < gnI pay i s ∧ gnI pay i s < 4294967296 := by
  have h1 := fb_rng (pay s)
  have h2 := fb_rng (pay i)
  unfold gnI
  omega
theorem gnI_0 (pay : Nat → Int32) (i : Nat) : gnI pay i i = 0 := by unfold gnI; omega
def stp (pay : Nat → Int32) (i s ls : Nat) : Nat := if (ls : Int) * (offN s i : Int) < gnI pay i s then ((gnI pay i s).toNat + offN s i - 1) / offN s i else ls
theorem off_0 {s i : Nat} (h : offN s i = 0) : s = i := by unfold offN at h; split at h <;> omega
theorem off_le {s i : Nat} (h1 : s < 10) (h2 : i < 10) : offN s i ≤ 9 := by unfold offN; split <;> omega
theorem stp_le (pay : Nat → Int32) (i s ls c : Nat) : stp pay i s ls ≤ c ↔ ls ≤ c ∧ OKp pay c i s := by
  unfold stp OKp
  rcases Nat.eq_zero_or_pos (offN s i) with h0 | h0
  · have e := off_0 h0
    subst e
    rw [gnI_0, h0]
    simp
  · have key : ∀ a b : Nat, a ≤ b → (a : Int) * (offN s i : Int) ≤ (b : Int) * (offN s i : Int) := fun a b h => Int.mul_le_mul_of_nonneg_right (by omega) (by omega)
    by_cases q : (ls : Int) * (offN s i : Int) < gnI pay i s
    · rw [if_pos q]
      have hls : (0 : Int) ≤ (ls : Int) * (offN s i : Int) := Int.mul_nonneg (by omega) (by omega)
      have eg : ((gnI pay i s).toNat : Int) = gnI pay i s := Int.toNat_of_nonneg (by omega)
      rw [Nat.div_le_iff_le_mul_add_pred h0]
      have em : ((c * offN s i : Nat) : Int) = (c : Int) * (offN s i : Int) := Int.natCast_mul c (offN s i)
      rw [Nat.mul_comm (offN s i) c]
      constructor
      · intro h
        refine ⟨?_, by omega⟩
        rcases Nat.lt_or_ge c ls with hh | hh
        · have := key c ls (by omega); omega
        · exact hh
      · intro h
        omega
    · rw [if_neg q]
      constructor
      · intro h
        have := key ls c h
        exact ⟨h, by omega⟩
      · intro h; exact h.1
theorem stp_b (pay : Nat → Int32) (i s ls : Nat) (h : ls ≤ 4294967296) : stp pay i s ls ≤ 4294967296 := by
  unfold stp
  split
  · have h1 := gnI_b pay i s
    have h2 : (gnI pay i s).toNat ≤ 4294967295 := by omega
    rcases Nat.eq_zero_or_pos (offN s i) with h0 | h0
    · rw [h0, Nat.div_zero]; omega
    · refine Nat.div_le_of_le_mul ?_
      have : offN s i * 1 ≤ offN s i * 4294967296 := Nat.mul_le_mul_left _ (by omega)
      have h4 : 1 * (4294967296 - 1) ≤ offN s i * (4294967296 - 1) := Nat.mul_le_mul_right _ h0
      omega
  · exact h
def flI (pay : Nat → Int32) (i : Nat) : Nat → Nat → Nat
  | 0, ls => ls
  | s + 1, ls => stp pay i s (flI pay i s ls)
def flO (pay : Nat → Int32) : Nat → Nat
  | 0 => 0
  | i + 1 => flI pay i 10 (flO pay i)
theorem flI_le (pay : Nat → Int32) (i ls c : Nat) : ∀ n, flI pay i n ls ≤ c ↔ ls ≤ c ∧ ∀ j, j < n → OKp pay c i j := by
  intro n
  induction n with
  | zero => rw [flI]; exact ⟨fun h => ⟨h, fun j hj => absurd hj (by omega)⟩, fun h => h.1⟩
  | succ n ih =>
    rw [flI, stp_le, ih]
    constructor
    · rintro ⟨⟨h1, h2⟩, h3⟩
      refine ⟨h1, fun j hj => ?_⟩
      by_cases q : j = n
      · subst q; exact h3
      · exact h2 j (by omega)
    · rintro ⟨h1, h2⟩
      exact ⟨⟨h1, fun j hj => h2 j (by omega)⟩, h2 n (by omega)⟩
theorem flI_b (pay : Nat → Int32) (i ls : Nat) (h : ls ≤ 4294967296) : ∀ n, flI pay i n ls ≤ 4294967296 := by
  intro n
  induction n with
  | zero => exact h
  | succ n ih => exact stp_b pay i n _ ih
theorem flO_b (pay : Nat → Int32) : ∀ n, flO pay n ≤ 4294967296 := by
  intro n
  induction n with
  | zero => rw [flO]; omega
  | succ n ih => exact flI_b pay n _ ih 10
theorem flO_le (pay : Nat → Int32) (c : Nat) : ∀ n, flO pay n ≤ c ↔ ∀ i, i < n → ∀ j, j < 10 → OKp pay c i j := by
  intro n
  induction n with
  | zero => rw [flO]; exact ⟨fun _ i hi => absurd hi (by omega), fun _ => by omega⟩
  | succ n ih =>
    rw [flO, flI_le, ih]
    constructor
    · rintro ⟨h1, h2⟩ i hi
      by_cases q : i = n
      · subst q; exact h2
      · exact h1 i (by omega)
    · intro h
      exact ⟨fun i hi => h i (by omega), h n (by omega)⟩
theorem absN {s i : Nat} (hs : s < 10) (hi : i < 10) : (if 0 ≤ nI s - nI i then nI s - nI i else 0 - (nI s - nI i)) = nI (offN s i) := by
  unfold offN
  by_cases q : s < i
  · rw [if_pos q]
    have h1 := pk_sneg (a := s) (b := i) (by omega) q
    rw [if_neg (fa_of_lt h1).2.1, ← pk_sub (by omega)]
    rw [Int32.zero_sub, Int32.neg_sub]
  · rw [if_neg q, pk_sub (by omega), if_pos (nI_pos' (by omega))]
theorem gL (pay : Nat → Int32) (i s : Nat) : ((pay s).toInt64 - (pay i).toInt64).toInt = gnI pay i s := by
  have h1 := fb_rng (pay s)
  have h2 := fb_rng (pay i)
  have e1 : (pay s).toInt64.toInt = (pay s).toInt := by simp
  have e2 : (pay i).toInt64.toInt = (pay i).toInt := by simp
  rw [fb_subL (by omega) (by omega), e1, e2]
  rfl
theorem gLe (pay : Nat → Int32) (i s m : Nat) (hm : m < 2 ^ 63) : (lg_cmp ((pay s).toInt64 - (pay i).toInt64) (lN m) ≤ 0) ↔ gnI pay i s ≤ (m : Int) := by
  rw [lg_cmp_le, fa_le64, gL, pk_lT hm]
