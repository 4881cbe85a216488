/-! how likely: the pure part -/
theorem sm_mul (c : Nat) (f : Nat → Nat) : ∀ n, fb_sm (fun k => c * f k) n = c * fb_sm f n := by
  intro n
  induction n with
  | zero => rfl
  | succ n ih => rw [fb_sm_succ, fb_sm_succ, ih, Nat.mul_add]
def ObF (sd mg : Nat → Int32) (mv : Nat → Nat) (to wt : Nat → Nat → Nat) (M : Int32) : Nat → Nat → Nat
  | 0, p => if sd p = -2 then (if mg p = M then 1 else 0) else 0
  | l + 1, p => if sd p = -2 then (if mg p = M then 60 ^ (l + 1) else 0) else fb_sm (fun m => wt p m * ObF sd mg mv to wt M l (to p m)) (mv p)
theorem Ob_end {sd mg : Nat → Int32} {mv : Nat → Nat} {to wt : Nat → Nat → Nat} {M : Int32} {p : Nat} (h : sd p = -2) : ∀ l, ObF sd mg mv to wt M l p = if mg p = M then 60 ^ l else 0 := by
  intro l
  cases l with
  | zero => rw [ObF, if_pos h, Nat.pow_zero]
  | succ l => rw [ObF, if_pos h]
def TRE (np : Nat) (sd : Nat → Int32) (mv dp : Nat → Nat) (to wt : Nat → Nat → Nat) : Prop := ∀ i, i < np → dp i ≤ 5 ∧ (sd i = -2 ∨ (¬ sd i = -2 ∧ 1 ≤ mv i ∧ mv i ≤ 3 ∧ fb_sm (wt i) (mv i) ≤ 60 ∧ 1 ≤ dp i ∧ ∀ m, m < mv i → to i m < i ∧ dp (to i m) < dp i))
theorem Ob_up {np : Nat} {sd mg : Nat → Int32} {mv dp : Nat → Nat} {to wt : Nat → Nat → Nat} {M : Int32} (hT : TRE np sd mv dp to wt) : ∀ l p, p < np → dp p ≤ l → ObF sd mg mv to wt M (l + 1) p = 60 * ObF sd mg mv to wt M l p := by
  intro l
  induction l with
  | zero =>
    intro p hp hd
    obtain ⟨-, h | ⟨-, -, -, -, h, -⟩⟩ := hT p hp
    · rw [Ob_end h, Ob_end h]; split <;> rfl
    · omega
  | succ l ih =>
    intro p hp hd
    obtain ⟨-, h | ⟨h, h1, h2, h3, h4, h5⟩⟩ := hT p hp
    · rw [Ob_end h, Ob_end h]
      split
      · rw [Nat.pow_succ 60 (l + 1), Nat.mul_comm]
      · rfl
    · rw [ObF, if_neg h]
      conv => rhs; rw [ObF, if_neg h]
      rw [← sm_mul]
      refine fb_sm_cong (fun m hm => ?_)
      obtain ⟨g1, g2⟩ := h5 m hm
      rw [ih (to p m) (by omega) (by omega), Nat.mul_left_comm]
theorem Ob_le {np : Nat} {sd mg : Nat → Int32} {mv dp : Nat → Nat} {to wt : Nat → Nat → Nat} {M : Int32} (hT : TRE np sd mv dp to wt) : ∀ l p, p < np → ObF sd mg mv to wt M l p ≤ 60 ^ l := by
  intro l
  induction l with
  | zero =>
    intro p hp
    rw [ObF]
    split
    · split <;> decide
    · decide
  | succ l ih =>
    intro p hp
    obtain ⟨-, h | ⟨h, h1, h2, h3, h4, h5⟩⟩ := hT p hp
    · rw [Ob_end h]; split
      · exact Nat.le_refl _
      · exact Nat.zero_le _
    · rw [ObF, if_neg h]
      have e1 : fb_sm (fun m => wt p m * ObF sd mg mv to wt M l (to p m)) (mv p) ≤ fb_sm (fun m => 60 ^ l * wt p m) (mv p) := fb_sm_le (fun m hm => by
        rw [Nat.mul_comm]
        exact Nat.mul_le_mul_right _ (ih _ (by have := (h5 m hm).1; omega)))
      rw [sm_mul] at e1
      have e2 : 60 ^ l * fb_sm (wt p) (mv p) ≤ 60 ^ l * 60 := Nat.mul_le_mul_left _ h3
      rw [Nat.pow_succ]
      exact Nat.le_trans e1 e2
def lvR (R : Nat → Nat) (r : Nat) (to wt : Nat → Nat) : Nat → Nat → Nat
  | 0 => R
  | m + 1 => fun k => if k = to m then lvR R r to wt m k + r * wt m else lvR R r to wt m k
theorem lvR_s (R : Nat → Nat) (r : Nat) (to wt : Nat → Nat) (m k : Nat) : lvR R r to wt (m + 1) k = if k = to m then lvR R r to wt m k + r * wt m else lvR R r to wt m k := rfl
theorem lvR_hi {R : Nat → Nat} {r p : Nat} {to wt : Nat → Nat} : ∀ {n : Nat}, (∀ m, m < n → to m < p) → ∀ k, p ≤ k → lvR R r to wt n k = R k := by
  intro n
  induction n with
  | zero => intro _ k _; rfl
  | succ n ih =>
    intro h k hk
    have := h n (by omega)
    rw [lvR_s, if_neg (by omega)]
    exact ih (fun m hm => h m (by omega)) k hk
theorem lvR_sum {R : Nat → Nat} {r p : Nat} {to wt : Nat → Nat} (O : Nat → Nat) : ∀ {n : Nat}, (∀ m, m < n → to m < p) → fb_sm (fun k => lvR R r to wt n k * O k) p = fb_sm (fun k => R k * O k) p + r * fb_sm (fun m => wt m * O (to m)) n := by
  intro n
  induction n with
  | zero => intro _; rfl
  | succ n ih =>
    intro h
    have hn := h n (by omega)
    have i1 := ih (fun m hm => h m (by omega))
    have e1 : fb_sm (fun k => lvR R r to wt (n + 1) k * O k) p = fb_sm (fun k => if k = to n then (lvR R r to wt n (to n) + r * wt n) * O (to n) else lvR R r to wt n k * O k) p := fb_sm_cong (fun k _ => by
      rw [lvR_s]
      by_cases q : k = to n
      · rw [if_pos q, if_pos q, q]
      · rw [if_neg q, if_neg q])
    have e2 := fb_sm_upd (fun k => lvR R r to wt n k * O k) ((lvR R r to wt n (to n) + r * wt n) * O (to n)) hn
    rw [Nat.add_mul] at e2
    rw [e1, fb_sm_succ, Nat.mul_add, ← Nat.mul_assoc r (wt n) (O (to n)), Nat.add_mul]
    omega
theorem lvR_dvd {R : Nat → Nat} {r p : Nat} {to wt dp : Nat → Nat} (h1 : ∀ k, k < p → 60 ^ dp k ∣ R k) : ∀ {n : Nat}, (∀ m, m < n → 60 ^ dp (to m) ∣ r) → ∀ k, k < p → 60 ^ dp k ∣ lvR R r to wt n k := by
  intro n
  induction n with
  | zero => intro _; exact h1
  | succ n ih =>
    intro h k hk
    have i1 := ih (fun m hm => h m (by omega)) k hk
    rw [lvR_s]
    split
    · rename_i q
      refine Nat.dvd_add i1 (Nat.dvd_trans ?_ (Nat.dvd_mul_right r (wt n)))
      rw [q]; exact h n (by omega)
    · exact i1
/-- a MARGIN by its number -/
def mI (M : Nat) : Int32 := nI M - 9
def FWD (sd mg : Nat → Int32) (mv dp : Nat → Nat) (to wt : Nat → Nat → Nat) (pos n : Nat) (R E : Nat → Nat) : Prop := (∀ k, k < n → 60 ^ dp k ∣ R k) ∧ fb_sm R n ≤ 60 ^ 5 ∧ ∀ M, M < 19 → 60 ^ 5 * E M + fb_sm (fun k => R k * ObF sd mg mv to wt (mI M) 5 k) n = 60 ^ 5 * ObF sd mg mv to wt (mI M) 5 pos
theorem sm_one (pos c : Nat) (O : Nat → Nat) : ∀ n, fb_sm (fun k => (if k = pos then c else 0) * O k) n = if pos < n then c * O pos else 0 := by
  intro n
  induction n with
  | zero => rfl
  | succ n ih =>
    rw [fb_sm_succ, ih]
    by_cases q : n = pos
    · subst q
      rw [if_pos rfl, if_neg (Nat.lt_irrefl _), if_pos (Nat.lt_succ_self _), Nat.zero_add]
    · rw [if_neg q, Nat.zero_mul, Nat.add_zero]
      by_cases q2 : pos < n
      · rw [if_pos q2, if_pos (by omega)]
      · rw [if_neg q2, if_neg (by omega)]
theorem FWD_0 {np : Nat} {sd mg : Nat → Int32} {mv dp : Nat → Nat} {to wt : Nat → Nat → Nat} (hT : TRE np sd mv dp to wt) {pos : Nat} (hp : pos < np) {R E : Nat → Nat} (hR : ∀ k, k < pos + 1 → R k = if k = pos then 60 ^ 5 else 0) (hE : ∀ M, M < 19 → E M = 0) : FWD sd mg mv dp to wt pos (pos + 1) R E := by
  refine ⟨fun k hk => ?_, ?_, fun M hM => ?_⟩
  · rw [hR k hk]
    split
    · rename_i q
      subst q
      exact Nat.pow_dvd_pow 60 (hT k hp).1
    · exact Nat.dvd_zero _
  · have e := sm_one pos (60 ^ 5) (fun _ => 1) (pos + 1)
    rw [if_pos (Nat.lt_succ_self _), Nat.mul_one] at e
    rw [← e]
    refine fb_sm_le (fun k hk => ?_)
    rw [hR k hk, Nat.mul_one]
    exact Nat.le_refl _
  · have e := sm_one pos (60 ^ 5) (ObF sd mg mv to wt (mI M) 5) (pos + 1)
    rw [if_pos (Nat.lt_succ_self _)] at e
    rw [hE M hM, Nat.mul_zero, Nat.zero_add, ← e]
    exact fb_sm_cong (fun k hk => by rw [hR k hk])
theorem FWD_end {sd mg : Nat → Int32} {mv dp : Nat → Nat} {to wt : Nat → Nat → Nat} {pos p j : Nat} {R E E' : Nat → Nat} (h : FWD sd mg mv dp to wt pos (p + 1) R E) (hs : sd p = -2) (hj : ∀ M, M < 19 → (mg p = mI M ↔ j = M)) (hE : ∀ M, M < 19 → E' M = if M = j then E j + R p else E M) : FWD sd mg mv dp to wt pos p R E' := by
  obtain ⟨h1, h2, h3⟩ := h
  rw [fb_sm_succ] at h2
  refine ⟨fun k hk => h1 k (by omega), by omega, fun M hM => ?_⟩
  have e := h3 M hM
  rw [fb_sm_succ, Ob_end hs] at e
  rw [hE M hM]
  by_cases q : j = M
  · subst q
    rw [if_pos ((hj j hM).mpr rfl)] at e
    rw [if_pos rfl, Nat.mul_add, ← e, Nat.mul_comm (R p)]
    omega
  · rw [if_neg (fun x => q ((hj M hM).mp x)), Nat.mul_zero, Nat.add_zero] at e
    rw [if_neg (fun x => q x.symm)]
    exact e
theorem FWD_turn {np : Nat} {sd mg : Nat → Int32} {mv dp : Nat → Nat} {to wt : Nat → Nat → Nat} (hT : TRE np sd mv dp to wt) {pos p : Nat} (hp : p < np) {R R' E : Nat → Nat} (h : FWD sd mg mv dp to wt pos (p + 1) R E) (hs : ¬ sd p = -2) (hR : ∀ k, k < p → R' k = lvR R (R p / 60) (to p) (wt p) (mv p) k) : FWD sd mg mv dp to wt pos p R' E := by
  obtain ⟨h1, h2, h3⟩ := h
  obtain ⟨hd5, hh | ⟨-, g1, g2, g3, g4, g5⟩⟩ := hT p hp
  · exact absurd hh hs
  have hto : ∀ m, m < mv p → to p m < p := fun m hm => (g5 m hm).1
  have hd : 60 ^ dp p ∣ R p := h1 p (by omega)
  obtain ⟨d, hdp⟩ : ∃ d, dp p = d + 1 := ⟨dp p - 1, by omega⟩
  rw [hdp] at hd
  obtain ⟨c, hc⟩ := hd
  have er : R p / 60 = 60 ^ d * c := by
    rw [hc, Nat.pow_succ, Nat.mul_comm (60 ^ d) 60, Nat.mul_assoc, Nat.mul_div_cancel_left _ (by decide)]
  have er2 : R p = 60 * (R p / 60) := by
    rw [er, hc, Nat.pow_succ, Nat.mul_comm (60 ^ d) 60, Nat.mul_assoc]
  generalize hrr : R p / 60 = rr at *
  refine ⟨fun k hk => ?_, ?_, fun M hM => ?_⟩
  · rw [hR k hk]
    refine lvR_dvd (dp := dp) (fun k hk => h1 k (by omega)) (fun m hm => ?_) k hk
    rw [er]
    refine Nat.dvd_trans (Nat.pow_dvd_pow 60 ?_) (Nat.dvd_mul_right _ _)
    have := (g5 m hm).2
    omega
  · have e : fb_sm (lvR R rr (to p) (wt p) (mv p)) p = fb_sm R p + rr * fb_sm (wt p) (mv p) := by
      have := lvR_sum (R := R) (r := rr) (wt := wt p) (fun _ => 1) hto
      simp only [Nat.mul_one] at this
      exact this
    rw [fb_sm_cong hR, e]
    rw [fb_sm_succ] at h2
    have : rr * fb_sm (wt p) (mv p) ≤ rr * 60 := Nat.mul_le_mul_left _ g3
    omega
  · have e := lvR_sum (R := R) (r := rr) (wt := wt p) (ObF sd mg mv to wt (mI M) 5) hto
    have e0 := h3 M hM
    rw [fb_sm_succ] at e0
    have e4 : fb_sm (fun k => R' k * ObF sd mg mv to wt (mI M) 5 k) p = fb_sm (fun k => lvR R rr (to p) (wt p) (mv p) k * ObF sd mg mv to wt (mI M) 5 k) p := fb_sm_cong (fun k hk => by rw [hR k hk])
    rw [e4, e, ← e0]
    have e5 : ObF sd mg mv to wt (mI M) 5 p = fb_sm (fun m => wt p m * ObF sd mg mv to wt (mI M) 4 (to p m)) (mv p) := by rw [ObF, if_neg hs]
    have e6 : fb_sm (fun m => wt p m * ObF sd mg mv to wt (mI M) 5 (to p m)) (mv p) = 60 * fb_sm (fun m => wt p m * ObF sd mg mv to wt (mI M) 4 (to p m)) (mv p) := by
      rw [← sm_mul]
      refine fb_sm_cong (fun m hm => ?_)
      obtain ⟨x1, x2⟩ := g5 m hm
      rw [Ob_up hT 4 (to p m) (by omega) (by omega), Nat.mul_left_comm]
    have e7 : R p * ObF sd mg mv to wt (mI M) 5 p = rr * fb_sm (fun m => wt p m * ObF sd mg mv to wt (mI M) 5 (to p m)) (mv p) := by
      rw [e6, e5]
      conv => lhs; rw [er2]
      rw [Nat.mul_comm 60 rr, Nat.mul_assoc]
    omega
theorem FWD_fin {sd mg : Nat → Int32} {mv dp : Nat → Nat} {to wt : Nat → Nat → Nat} {pos : Nat} {R E : Nat → Nat} (h : FWD sd mg mv dp to wt pos 0 R E) {M : Nat} (hM : M < 19) : E M = ObF sd mg mv to wt (mI M) 5 pos := by
  have e := h.2.2 M hM
  have e2 : 60 ^ 5 * E M = 60 ^ 5 * ObF sd mg mv to wt (mI M) 5 pos := e
  exact Nat.eq_of_mul_eq_mul_left (by decide) e2
/-- how many of 60 parts -/
def wtN (mv sk : Nat) (b : Bool) : Nat := (10 - sk) * 6 / mv + (if b then 6 * sk else 0)
theorem wtN_le {mv sk : Nat} (h1 : 1 ≤ mv) (h3 : mv ≤ 3) (hs : sk ≤ 10) (b : Bool) : wtN mv sk b ≤ 60 := by
  have hm : mv = 1 ∨ mv = 2 ∨ mv = 3 := by omega
  unfold wtN
  rcases hm with rfl | rfl | rfl <;> split <;> omega
theorem wt_sum {mv sk : Nat} (h1 : 1 ≤ mv) (h3 : mv ≤ 3) (hs : sk ≤ 10) (w : Int32) : fb_sm (fun m => wtN mv sk (decide (w = nI m))) mv ≤ 60 := by
  have hm : mv = 1 ∨ mv = 2 ∨ mv = 3 := by omega
  have n01 : ¬ nI 0 = nI 1 := by decide
  have n02 : ¬ nI 0 = nI 2 := by decide
  have n12 : ¬ nI 1 = nI 2 := by decide
  rcases hm with rfl | rfl | rfl
  · show 0 + wtN 1 sk _ ≤ 60
    unfold wtN
    split <;> omega
  · show 0 + wtN 2 sk (decide (w = nI 0)) + wtN 2 sk (decide (w = nI 1)) ≤ 60
    unfold wtN
    by_cases q0 : w = nI 0
    · subst q0
      rw [decide_eq_true rfl, decide_eq_false n01, if_pos rfl, if_neg (by decide)]
      omega
    · rw [decide_eq_false q0, if_neg (by decide)]
      split <;> omega
  · show 0 + wtN 3 sk (decide (w = nI 0)) + wtN 3 sk (decide (w = nI 1)) + wtN 3 sk (decide (w = nI 2)) ≤ 60
    unfold wtN
    by_cases q0 : w = nI 0
    · subst q0
      rw [decide_eq_true rfl, decide_eq_false n01, decide_eq_false n02, if_pos rfl, if_neg (by decide)]
      omega
    · by_cases q1 : w = nI 1
      · subst q1
        rw [decide_eq_false q0, decide_eq_true rfl, decide_eq_false n12, if_neg (by decide), if_pos rfl]
        omega
      · rw [decide_eq_false q0, decide_eq_false q1, if_neg (by decide)]
        split <;> omega
theorem mg9 {o : Int32} (h : mgX o) : (o + 9).toNatClampNeg < 19 ∧ o + 9 = nI (o + 9).toNatClampNeg ∧ ∀ M, M < 19 → (o = mI M ↔ (o + 9).toNatClampNeg = M) := by
  refine mg_all (P := fun o => (o + 9).toNatClampNeg < 19 ∧ o + 9 = nI (o + 9).toNatClampNeg ∧ ∀ M, M < 19 → (o = mI M ↔ (o + 9).toNatClampNeg = M)) ?_ h
  unfold mI
  decide +kernel
