/-! the best choice: the pure part -/
def fre (ne : Nat → Nat) (tk i : Nat) : Bool := decide (nI tk &&& 1 <<< (nI i &&& 31) = 0) && decide (nI tk &&& nI (ne i) = nI (ne i))
def bL (f : Nat → Int) : Nat → Nat
  | 0 => 0
  | m + 1 => if f m < f (bL f m) then m else bL f m
theorem bL_1 (f : Nat → Int) : bL f 1 = 0 := by rw [bL, bL, if_neg (Int.lt_irrefl _)]
theorem bL_lt (f : Nat → Int) : ∀ n, 0 < n → bL f n < n := by
  intro n
  induction n with
  | zero => intro h; omega
  | succ n ih =>
    intro _
    rw [bL]
    split
    · omega
    · rcases Nat.eq_zero_or_pos n with h | h
      · subst h; rw [bL]; omega
      · have := ih h; omega
theorem bL_min (f : Nat → Int) : ∀ n j, j < n → f (bL f n) ≤ f j := by
  intro n
  induction n with
  | zero => intro j hj; omega
  | succ n ih =>
    intro j hj
    rw [bL]
    by_cases q : j = n
    · subst q
      split
      · omega
      · omega
    · have := ih j (by omega)
      split
      · omega
      · omega
theorem bL_first (f : Nat → Int) : ∀ n j, j < bL f n → f (bL f n) < f j := by
  intro n
  induction n with
  | zero => intro j hj; rw [bL] at hj; omega
  | succ n ih =>
    intro j hj
    rw [bL] at hj ⊢
    split at hj
    · rename_i h
      rw [if_pos h]
      have := bL_min f n j hj
      omega
    · rename_i h
      rw [if_neg h]
      exact ih j hj
def VF (n k : Nat) (c : Nat → Nat → Int) (ne : Nat → Nat) : Nat → Nat → Int
  | 0, _ => 0
  | r + 1, tk => (fun f : Nat → Int => f (bL f k)) (fun i => if fre ne tk i then c (n - (r + 1)) i + VF n k c ne r (tk ||| 2 ^ i) else 1000000)
/-- what an item costs, with all that comes behind it; r: how many are to come behind it -/
def cst (n k : Nat) (c : Nat → Nat → Int) (ne : Nat → Nat) (r tk i : Nat) : Int := if fre ne tk i then c (n - (r + 1)) i + VF n k c ne r (tk ||| 2 ^ i) else 1000000
def fB (n k : Nat) (c : Nat → Nat → Int) (ne : Nat → Nat) (r tk : Nat) : Nat := bL (cst n k c ne r tk) k
theorem VF_s (n k : Nat) (c : Nat → Nat → Int) (ne : Nat → Nat) (r tk : Nat) : VF n k c ne (r + 1) tk = cst n k c ne r tk (fB n k c ne r tk) := by rw [VF]; rfl
def FEAS (n k : Nat) (ne : Nat → Nat) : Prop := ∀ tk, tk < 2 ^ k → pcn tk < n → ∃ i, i < k ∧ fre ne tk i = true
def CB (n k : Nat) (c : Nat → Nat → Int) : Prop := ∀ s i, s < n → i < k → -99 ≤ c s i ∧ c s i ≤ 99
theorem pcn_or : ∀ tk, tk < 64 → ∀ i, i < 6 → (nI tk &&& 1 <<< (nI i &&& 31) = 0) → pcn (tk ||| 2 ^ i) = pcn tk + 1 ∧ tk < tk ||| 2 ^ i := by decide +kernel
theorem fre_bit {ne : Nat → Nat} {tk i : Nat} (h : fre ne tk i = true) : nI tk &&& 1 <<< (nI i &&& 31) = 0 := by
  unfold fre at h
  rw [Bool.and_eq_true] at h
  exact of_decide_eq_true h.1
theorem or_lt {k tk i : Nat} (h : tk < 2 ^ k) (hi : i < k) : tk ||| 2 ^ i < 2 ^ k := Nat.or_lt_two_pow h (Nat.pow_lt_pow_right (by decide) hi)
theorem tk64 {k tk : Nat} (hk : k ≤ 6) (h : tk < 2 ^ k) : tk < 64 := Nat.lt_of_lt_of_le h (Nat.pow_le_pow_right (n := 2) (j := 6) (by decide) hk)
theorem VF_b {n k : Nat} {c : Nat → Nat → Int} {ne : Nat → Nat} (hk : k ≤ 6) (hn : n ≤ 6) (hF : FEAS n k ne) (hC : CB n k c) : ∀ r tk, tk < 2 ^ k → pcn tk + r = n → -(99 * (r : Int)) ≤ VF n k c ne r tk ∧ VF n k c ne r tk ≤ 99 * (r : Int) := by
  intro r
  induction r with
  | zero => intro tk _ _; rw [VF]; omega
  | succ r ih =>
    intro tk ht hp
    obtain ⟨i, hi, hf⟩ := hF tk ht (by omega)
    have key : ∀ j, j < k → fre ne tk j = true → -(99 * ((r : Int) + 1)) ≤ cst n k c ne r tk j ∧ cst n k c ne r tk j ≤ 99 * ((r : Int) + 1) := by
      intro j hj hfj
      have e := pcn_or tk (tk64 hk ht) j (by omega) (fre_bit hfj)
      have b := ih (tk ||| 2 ^ j) (or_lt ht hj) (by omega)
      have cb := hC (n - (r + 1)) j (by omega) hj
      unfold cst
      rw [if_pos hfj]
      omega
    have k1 := key i hi hf
    have m1 : cst n k c ne r tk (fB n k c ne r tk) ≤ cst n k c ne r tk i := bL_min (cst n k c ne r tk) k i hi
    have hfb : fre ne tk (fB n k c ne r tk) = true := by
      cases q : fre ne tk (fB n k c ne r tk)
      · have : cst n k c ne r tk (fB n k c ne r tk) = 1000000 := by
          show (if fre ne tk (fB n k c ne r tk) = true then _ else _) = _
          rw [if_neg (by rw [q]; decide)]
        omega
      · rfl
    have k2 := key _ (bL_lt (cst n k c ne r tk) k (by omega)) hfb
    rw [VF_s]
    have k3 : cst n k c ne r tk (bL (cst n k c ne r tk) k) = cst n k c ne r tk (fB n k c ne r tk) := rfl
    push_cast
    omega
theorem fB_fre {n k : Nat} {c : Nat → Nat → Int} {ne : Nat → Nat} (hk : k ≤ 6) (hn : n ≤ 6) (hF : FEAS n k ne) (hC : CB n k c) {r tk : Nat} (ht : tk < 2 ^ k) (hp : pcn tk + (r + 1) = n) : fB n k c ne r tk < k ∧ fre ne tk (fB n k c ne r tk) = true := by
  obtain ⟨i, hi, hf⟩ := hF tk ht (by omega)
  have e := VF_b hk hn hF hC (r + 1) tk ht hp
  rw [VF_s] at e
  refine ⟨bL_lt _ k (by omega), ?_⟩
  cases q : fre ne tk (fB n k c ne r tk)
  · have : cst n k c ne r tk (fB n k c ne r tk) = 1000000 := by
      show (if fre ne tk (fB n k c ne r tk) = true then _ else _) = _
      rw [if_neg (by rw [q]; decide)]
    omega
  · rfl
theorem cst_b {n k : Nat} {c : Nat → Nat → Int} {ne : Nat → Nat} (hk : k ≤ 6) (hn : n ≤ 6) (hF : FEAS n k ne) (hC : CB n k c) {r tk i : Nat} (ht : tk < 2 ^ k) (hp : pcn tk + (r + 1) = n) (hi : i < k) : -1000 ≤ cst n k c ne r tk i ∧ cst n k c ne r tk i ≤ 1000000 := by
  unfold cst
  split
  · rename_i hfj
    have e := pcn_or tk (tk64 hk ht) i (by omega) (fre_bit hfj)
    have b := VF_b hk hn hF hC r (tk ||| 2 ^ i) (or_lt ht hi) (by omega)
    have cb := hC (n - (r + 1)) i (by omega) hi
    omega
  · omega
/-- a way: its digits by sixes, the first one the highest -/
def SF (n k : Nat) (c : Nat → Nat → Int) (ne : Nat → Nat) (way : Nat) : Nat → Nat → Option Int
  | 0, _ => some 0
  | r + 1, tk => if way / 6 ^ r % 6 < k ∧ fre ne tk (way / 6 ^ r % 6) = true then (SF n k c ne way r (tk ||| 2 ^ (way / 6 ^ r % 6))).map (fun v => c (n - (r + 1)) (way / 6 ^ r % 6) + v) else none
def WF (n k : Nat) (c : Nat → Nat → Int) (ne : Nat → Nat) : Nat → Nat → Nat
  | 0, _ => 0
  | r + 1, tk => fB n k c ne r tk * 6 ^ r + WF n k c ne r (tk ||| 2 ^ fB n k c ne r tk)
theorem WF_lt {n k : Nat} {c : Nat → Nat → Int} {ne : Nat → Nat} (hk : k ≤ 6) (hn : n ≤ 6) (hF : FEAS n k ne) (hC : CB n k c) : ∀ r tk, tk < 2 ^ k → pcn tk + r = n → WF n k c ne r tk < 6 ^ r := by
  intro r
  induction r with
  | zero => intro tk _ _; rw [WF]; decide
  | succ r ih =>
    intro tk ht hp
    obtain ⟨f1, f2⟩ := fB_fre hk hn hF hC ht hp
    have e := pcn_or tk (tk64 hk ht) _ (by omega) (fre_bit f2)
    have i1 := ih _ (or_lt ht f1) (by omega)
    rw [WF, Nat.pow_succ]
    have : fB n k c ne r tk * 6 ^ r ≤ 5 * 6 ^ r := Nat.mul_le_mul_right _ (by omega)
    omega
theorem SF_best {n k : Nat} {c : Nat → Nat → Int} {ne : Nat → Nat} (hk : k ≤ 6) (hn : n ≤ 6) (hF : FEAS n k ne) (hC : CB n k c) (way : Nat) : ∀ r tk, tk < 2 ^ k → pcn tk + r = n → (∀ v, SF n k c ne way r tk = some v → VF n k c ne r tk ≤ v ∧ (way % 6 ^ r < WF n k c ne r tk → VF n k c ne r tk < v)) ∧ (way % 6 ^ r = WF n k c ne r tk → SF n k c ne way r tk = some (VF n k c ne r tk)) := by
  intro r
  induction r with
  | zero =>
    intro tk _ _
    refine ⟨fun v hv => ?_, fun _ => rfl⟩
    rw [SF] at hv
    cases hv
    rw [VF, WF]
    exact ⟨Int.le_refl _, fun h => absurd h (Nat.not_lt_zero _)⟩
  | succ r ih =>
    intro tk ht hp
    obtain ⟨f1, f2⟩ := fB_fre hk hn hF hC ht hp
    have em : way % 6 ^ (r + 1) = (way / 6 ^ r % 6) * 6 ^ r + way % 6 ^ r := by
      rw [Nat.mod_pow_succ, Nat.mul_comm (6 ^ r), Nat.add_comm]
    have hd6 : way / 6 ^ r % 6 < 6 := Nat.mod_lt _ (by decide)
    have hlt : way % 6 ^ r < 6 ^ r := Nat.mod_lt _ (Nat.pow_pos (by decide))
    have eb := pcn_or tk (tk64 hk ht) _ (by omega) (fre_bit f2)
    have wb := WF_lt hk hn hF hC r _ (or_lt ht f1) (by omega)
    generalize hdd : way / 6 ^ r % 6 = d at em hd6
    rw [VF_s, WF, em]
    refine ⟨fun v hv => ?_, fun hw => ?_⟩
    · rw [SF, hdd] at hv
      split at hv
      · rename_i hc
        obtain ⟨v', hv', rfl⟩ := Option.map_eq_some_iff.mp hv
        have ep := pcn_or tk (tk64 hk ht) d (by omega) (fre_bit hc.2)
        obtain ⟨i1, -⟩ := ih _ (or_lt ht hc.1) (by omega)
        obtain ⟨j1, j2⟩ := i1 v' hv'
        have cd : cst n k c ne r tk d = c (n - (r + 1)) d + VF n k c ne r (tk ||| 2 ^ d) := by unfold cst; rw [if_pos hc.2]
        have mn : cst n k c ne r tk (fB n k c ne r tk) ≤ cst n k c ne r tk d := bL_min (cst n k c ne r tk) k d hc.1
        refine ⟨by omega, fun hl => ?_⟩
        rcases Nat.lt_trichotomy d (fB n k c ne r tk) with q | q | q
        · have := bL_first (cst n k c ne r tk) k d q
          have t2 : cst n k c ne r tk (bL (cst n k c ne r tk) k) = cst n k c ne r tk (fB n k c ne r tk) := rfl
          omega
        · subst q
          have := j2 (by omega)
          omega
        · exfalso
          have : (fB n k c ne r tk + 1) * 6 ^ r ≤ d * 6 ^ r := Nat.mul_le_mul_right _ q
          rw [Nat.add_mul, Nat.one_mul] at this
          omega
      · cases hv
    · have ed : d = fB n k c ne r tk ∧ way % 6 ^ r = WF n k c ne r (tk ||| 2 ^ fB n k c ne r tk) := by
        rcases Nat.lt_trichotomy d (fB n k c ne r tk) with q | q | q
        · exfalso
          have : (d + 1) * 6 ^ r ≤ fB n k c ne r tk * 6 ^ r := Nat.mul_le_mul_right _ q
          rw [Nat.add_mul, Nat.one_mul] at this
          omega
        · subst q; exact ⟨rfl, by omega⟩
        · exfalso
          have : (fB n k c ne r tk + 1) * 6 ^ r ≤ d * 6 ^ r := Nat.mul_le_mul_right _ q
          rw [Nat.add_mul, Nat.one_mul] at this
          omega
      obtain ⟨e1, e2⟩ := ed
      obtain ⟨-, i2⟩ := ih _ (or_lt ht f1) (by omega)
      rw [SF, hdd, e1, if_pos ⟨f1, f2⟩, i2 e2]
      show some _ = some _
      congr 1
      unfold cst
      rw [if_pos f2]
/-- which item when j are to come behind it -/
def gD (n k : Nat) (c : Nat → Nat → Int) (ne : Nat → Nat) : Nat → Nat → Nat → Nat
  | 0, _, _ => 0
  | r + 1, tk, j => if j = r then fB n k c ne r tk else gD n k c ne r (tk ||| 2 ^ fB n k c ne r tk) j
theorem WF_dig {n k : Nat} {c : Nat → Nat → Int} {ne : Nat → Nat} (hk : k ≤ 6) (hn : n ≤ 6) (hF : FEAS n k ne) (hC : CB n k c) : ∀ r tk j, tk < 2 ^ k → pcn tk + r = n → j < r → WF n k c ne r tk / 6 ^ j % 6 = gD n k c ne r tk j := by
  intro r
  induction r with
  | zero => intro tk j _ _ hj; omega
  | succ r ih =>
    intro tk j ht hp hj
    obtain ⟨f1, f2⟩ := fB_fre hk hn hF hC ht hp
    have eb := pcn_or tk (tk64 hk ht) _ (by omega) (fre_bit f2)
    have wb := WF_lt hk hn hF hC r _ (or_lt ht f1) (by omega)
    rw [WF, gD]
    by_cases q : j = r
    · subst q
      rw [if_pos rfl, Nat.mul_comm, Nat.mul_add_div (Nat.pow_pos (by decide)), Nat.div_eq_of_lt wb, Nat.add_zero, Nat.mod_eq_of_lt (by omega)]
    · rw [if_neg q, ← ih _ j (or_lt ht f1) (by omega) (by omega)]
      obtain ⟨e, rfl⟩ : ∃ e, r = j + (e + 1) := ⟨r - j - 1, by omega⟩
      generalize WF n k c ne (j + (e + 1)) (tk ||| 2 ^ fB n k c ne (j + (e + 1)) tk) = W
      generalize fB n k c ne (j + (e + 1)) tk = F
      rw [Nat.pow_add, Nat.pow_succ, show F * (6 ^ j * (6 ^ e * 6)) = 6 ^ j * (6 * (F * 6 ^ e)) by rw [Nat.mul_left_comm, Nat.mul_comm (6 ^ e) 6, Nat.mul_left_comm F 6], Nat.mul_add_div (Nat.pow_pos (by decide)), Nat.mul_add_mod]
theorem gD_lt {n k : Nat} {c : Nat → Nat → Int} {ne : Nat → Nat} (hk : k ≤ 6) (hn : n ≤ 6) (hF : FEAS n k ne) (hC : CB n k c) : ∀ r tk j, tk < 2 ^ k → pcn tk + r = n → j < r → gD n k c ne r tk j < 6 := by
  intro r tk j h1 h2 h3
  rw [← WF_dig hk hn hF hC r tk j h1 h2 h3]
  exact Nat.mod_lt _ (by decide)
/-- whole numbers as ints -/
abbrev zI (z : Int) : Int32 := Int32.ofInt z
theorem zI_add (a b : Int) : zI a + zI b = zI (a + b) := (Int32.ofInt_add a b).symm
theorem zI_lt {a b : Int} (ha : -2000000 ≤ a) (ha2 : a ≤ 2000000) (hb : -2000000 ≤ b) (hb2 : b ≤ 2000000) : (zI a < zI b) ↔ a < b := by
  rw [fa_lt, fb_ofI (by omega) (by omega), fb_ofI (by omega) (by omega)]
theorem zI_n {j : Nat} (h : j < 2 ^ 31) : nI j = zI (j : Int) := by
  rw [fa_eq, nI_toInt h, fb_ofI (by omega) (by omega)]
theorem zI_neg {j : Nat} (h : j < 2 ^ 31) : -nI j = zI (-(j : Int)) := by
  rw [fa_eq, fb_negI (by rw [nI_toInt h]; omega), nI_toInt h, fb_ofI (by omega) (by omega)]
theorem pcn_0 : pcn 0 = 0 := rfl
theorem all_in : ∀ k, k ≤ 6 → ∀ tk, tk < 2 ^ k → pcn tk ≤ k := by decide +kernel
theorem some_free : ∀ k, k ≤ 6 → ∀ tk, tk < 2 ^ k → pcn tk < k → ∃ i, i < k ∧ nI tk &&& 1 <<< (nI i &&& 31) = 0 ∧ tk % 2 ^ i = 2 ^ i - 1 := by decide +kernel
theorem FEAS_0 {n k : Nat} (hk : k ≤ 6) (hn : n ≤ k) {ne : Nat → Nat} (hne : ∀ i, i < k → ne i = 0) : FEAS n k ne := by
  intro tk ht hp
  obtain ⟨i, hi, h1, -⟩ := some_free k hk tk ht (by omega)
  refine ⟨i, hi, ?_⟩
  unfold fre
  rw [decide_eq_true h1, hne i hi, decide_eq_true (by rw [fa_and, Nat.and_zero])]
  rfl
theorem FEAS_n {k : Nat} (hk : k ≤ 6) {ne : Nat → Nat} (hne : ∀ i, i < k → ne i < 2 ^ i) : FEAS k k ne := by
  intro tk ht hp
  obtain ⟨i, hi, h1, h2⟩ := some_free k hk tk ht hp
  refine ⟨i, hi, ?_⟩
  have e : tk &&& ne i = ne i := by
    refine Nat.eq_of_testBit_eq (fun j => ?_)
    rw [Nat.testBit_and]
    by_cases q : j < i
    · have : tk.testBit j = true := by
        have h3 := congrArg (fun x => Nat.testBit x j) h2
        simp only [Nat.testBit_mod_two_pow, Nat.testBit_two_pow_sub_one, q, decide_true, Bool.true_and] at h3
        exact h3
      rw [this, Bool.true_and]
    · have : (ne i).testBit j = false := Nat.testBit_lt_two_pow (Nat.lt_of_lt_of_le (hne i hi) (Nat.pow_le_pow_right (by decide) (by omega)))
      rw [this, Bool.and_false]
  unfold fre
  rw [decide_eq_true h1, decide_eq_true (by rw [fa_and, e])]
  rfl
