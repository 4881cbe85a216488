/-! TOKENS: the pure part -/
/-- a byte by its number -/
def sxI (b : Nat) : Int32 := if b < 128 then nI b else nI b - 256
theorem sx_to {b : Nat} (hb : b < 256) : (sxI b).toInt = if b < 128 then (b : Int) else (b : Int) - 256 := by
  unfold sxI
  split
  · exact nI_toInt (by omega)
  · exact pk_sub_toInt (a := b) (b := 256) (by omega) (by decide)
theorem byN {v : Int32} (h : isB v) : ∃ b, b < 256 ∧ v = sxI b := by
  have hr := fb_byte_rng v
  rw [show v.toInt8.toInt32 = v from h] at hr
  by_cases q : v.toInt < 0
  · refine ⟨(v.toInt + 256).toNat, by omega, ?_⟩
    rw [fa_eq, sx_to (by omega), if_neg (by omega)]
    omega
  · refine ⟨v.toInt.toNat, by omega, ?_⟩
    rw [fa_eq, sx_to (by omega), if_pos (by omega)]
    omega
theorem sx_255 : ∀ b, b < 256 → sxI b &&& 255 = nI b := by decide +kernel
theorem sx_i8 : ∀ b, b < 256 → (nI b).toInt8.toInt32 = sxI b := by decide +kernel
theorem sx_ch {b : Nat} (hb : b < 256) : ((nI b).toUInt32 % 65536).toInt32 = nI b := by
  rw [pk_char, pk_tn (by omega), Nat.mod_eq_of_lt (by omega)]
def isBlN (b : Nat) : Bool := b == 9 || (b == 10 || (b == 13 || b == 32))
def isLtN (b : Nat) : Bool := decide (97 ≤ b) && decide (b ≤ 122)
def isDgN (b : Nat) : Bool := decide (48 ≤ b) && decide (b ≤ 57)
theorem sx_lt {b n : Nat} (hb : b < 256) (hn : n < 128) : (sxI b < nI n) ↔ (b < n ∨ 128 ≤ b) := by
  rw [fa_lt, sx_to hb, nI_toInt (by omega)]
  split <;> omega
theorem sx_gt {b n : Nat} (hb : b < 256) (hn : n < 128) : (nI n < sxI b) ↔ (n < b ∧ b < 128) := by
  rw [fa_lt, sx_to hb, nI_toInt (by omega)]
  split <;> omega
theorem sx_eq {b n : Nat} (hb : b < 256) (hn : n < 128) : (sxI b = nI n) ↔ b = n := by
  rw [fa_eq, sx_to hb, nI_toInt (by omega)]
  split <;> omega
/-- how far a run of such bytes goes -/
def rn (p : Nat → Bool) (c : Nat → Nat) (k : Nat) : Nat → Nat → Nat
  | 0, a => a
  | r + 1, a => if a < k ∧ p (c a) = true then rn p c k r (a + 1) else a
def rnE (p : Nat → Bool) (c : Nat → Nat) (k a : Nat) : Nat := rn p c k (k - a) a
theorem rnE_s {p : Nat → Bool} {c : Nat → Nat} {k a : Nat} (h : a < k) (hp : p (c a) = true) : rnE p c k a = rnE p c k (a + 1) := by
  unfold rnE
  obtain ⟨r, hr⟩ : ∃ r, k - a = r + 1 := ⟨k - a - 1, by omega⟩
  rw [hr, rn, if_pos ⟨h, hp⟩, show k - (a + 1) = r by omega]
theorem rnE_e {p : Nat → Bool} {c : Nat → Nat} {k a : Nat} (h : ¬ (a < k ∧ p (c a) = true)) : rnE p c k a = a := by
  unfold rnE
  cases hr : k - a with
  | zero => rw [rn]
  | succ r => rw [rn, if_neg h]
theorem rnE_b (p : Nat → Bool) (c : Nat → Nat) (k : Nat) : ∀ r a, a + r = k → a ≤ rnE p c k a ∧ rnE p c k a ≤ k ∧ (∀ x, a ≤ x → x < rnE p c k a → p (c x) = true) ∧ (rnE p c k a < k → p (c (rnE p c k a)) = false) := by
  intro r
  induction r with
  | zero =>
    intro a ha
    rw [rnE_e (by omega)]
    exact ⟨Nat.le_refl _, by omega, fun x h1 h2 => absurd h2 (by omega), fun h => absurd h (by omega)⟩
  | succ r ih =>
    intro a ha
    by_cases q : p (c a) = true
    · rw [rnE_s (by omega) q]
      obtain ⟨h1, h2, h3, h4⟩ := ih (a + 1) (by omega)
      refine ⟨by omega, h2, fun x x1 x2 => ?_, h4⟩
      by_cases e : x = a
      · subst e; exact q
      · exact h3 x (by omega) x2
    · rw [rnE_e (fun h => q h.2)]
      exact ⟨Nat.le_refl _, by omega, fun x h1 h2 => absurd h2 (by omega), fun _ => by simpa using q⟩
theorem rnE_le {p : Nat → Bool} {c : Nat → Nat} {k a : Nat} (h : a ≤ k) : a ≤ rnE p c k a ∧ rnE p c k a ≤ k := ⟨(rnE_b p c k (k - a) a (by omega)).1, (rnE_b p c k (k - a) a (by omega)).2.1⟩
/-- letters, the last one first -/
def lsR (c : Nat → Nat) (a : Nat) : Nat → List Nat
  | 0 => []
  | n + 1 => (c (a + n) - 96) :: lsR c a n
def enc (b : Nat) : List Nat → Nat
  | [] => 0
  | x :: r => b * enc b r + x
theorem enc_inj {b : Nat} : ∀ l m : List Nat, (∀ x ∈ l, 1 ≤ x ∧ x < b) → (∀ x ∈ m, 1 ≤ x ∧ x < b) → enc b l = enc b m → l = m := by
  intro l
  induction l with
  | nil =>
    intro m _ hm he
    cases m with
    | nil => rfl
    | cons x r =>
      have := hm x (List.mem_cons_self ..)
      rw [enc, enc] at he
      omega
  | cons x r ih =>
    intro m hl hm he
    have hx := hl x (List.mem_cons_self ..)
    cases m with
    | nil => rw [enc, enc] at he; omega
    | cons y s =>
      have hy := hm y (List.mem_cons_self ..)
      rw [enc, enc] at he
      have e1 : x = y := by
        have h1 : (b * enc b r + x) % b = x := by rw [Nat.mul_add_mod, Nat.mod_eq_of_lt hx.2]
        have h2 : (b * enc b s + y) % b = y := by rw [Nat.mul_add_mod, Nat.mod_eq_of_lt hy.2]
        rw [he, h2] at h1
        exact h1.symm
      subst e1
      have e2 : enc b r = enc b s := Nat.eq_of_mul_eq_mul_left (show 0 < b by omega) (by omega)
      rw [ih s (fun z hz => hl z (List.mem_cons_of_mem _ hz)) (fun z hz => hm z (List.mem_cons_of_mem _ hz)) e2]
theorem enc_lt {b : Nat} (hb : 1 < b) : ∀ l : List Nat, (∀ x ∈ l, 1 ≤ x ∧ x < b) → enc b l < b ^ l.length := by
  intro l
  induction l with
  | nil => intro _; rw [enc]; exact Nat.pow_pos (by omega)
  | cons x r ih =>
    intro hl
    have hx := hl x (List.mem_cons_self ..)
    have i1 := ih (fun z hz => hl z (List.mem_cons_of_mem _ hz))
    rw [enc, List.length_cons, Nat.pow_succ]
    have : b * (enc b r + 1) ≤ b * b ^ r.length := Nat.mul_le_mul_left _ i1
    rw [Nat.mul_add, Nat.mul_one] at this
    rw [Nat.mul_comm (b ^ r.length) b]
    omega
theorem lsR_len (c : Nat → Nat) (a : Nat) : ∀ n, (lsR c a n).length = n := by
  intro n
  induction n with
  | zero => rfl
  | succ n ih => rw [lsR, List.length_cons, ih]
theorem lsR_ok {c : Nat → Nat} {a : Nat} : ∀ n, (∀ x, a ≤ x → x < a + n → isLtN (c x) = true) → ∀ y ∈ lsR c a n, 1 ≤ y ∧ y < 27 := by
  intro n
  induction n with
  | zero => intro _ y hy; cases hy
  | succ n ih =>
    intro h y hy
    rw [lsR] at hy
    rcases List.mem_cons.mp hy with e | e
    · have := h (a + n) (by omega) (by omega)
      unfold isLtN at this
      rw [Bool.and_eq_true] at this
      have h1 := of_decide_eq_true this.1
      have h2 := of_decide_eq_true this.2
      omega
    · exact ih (fun x x1 x2 => h x x1 (by omega)) y e
/-- the words, their letters backwards -/
def WL (j : Nat) : List Nat := ([[4, 14, 5], [14, 18, 21, 20], [14, 1, 13], [14, 15, 19, 19, 5, 12], [20, 18, 21, 15, 3], [5, 9, 4], [19, 5, 5, 19], [19, 14, 18, 1, 5, 12], [19, 20, 9, 21, 19], [19, 25, 1, 16], [4, 5, 5, 19], [6, 9], [14, 5, 8, 20], [5, 19, 12, 5], [19, 23, 15, 8, 19], [5, 25, 5], [12, 12, 9, 11, 19], [19, 18, 21, 15, 8], [4, 1, 8], [8, 3, 9, 8, 23], [5, 4, 9, 18, 16], [14, 9, 7, 18, 1, 13], [14, 5, 5, 19]] : List (List Nat)).getD j []
theorem WL_c : ∀ j, j < 23 → wcX j = lN (enc 32 (WL j)) := by decide +kernel
theorem WL_m : ∀ j, j < 23 → wmX j = lN (enc 27 (WL j)) := by decide +kernel
theorem WL_ok : ∀ j, j < 23 → (∀ x ∈ WL j, 1 ≤ x ∧ x < 27) ∧ (WL j).length ≤ 6 := by decide +kernel
theorem WL_ne : ∀ i, i < 23 → ∀ j, j < 23 → WL i = WL j → i = j := by decide +kernel
theorem enc_eq32 {l m : List Nat} (hl : ∀ x ∈ l, 1 ≤ x ∧ x < 27) (hm : ∀ x ∈ m, 1 ≤ x ∧ x < 27) (h8 : l.length ≤ 8) (g8 : m.length ≤ 8) : lN (enc 32 l) = lN (enc 32 m) ↔ l = m := by
  have hl' : ∀ x ∈ l, 1 ≤ x ∧ x < 32 := fun x hx => ⟨(hl x hx).1, by have := (hl x hx).2; omega⟩
  have hm' : ∀ x ∈ m, 1 ≤ x ∧ x < 32 := fun x hx => ⟨(hm x hx).1, by have := (hm x hx).2; omega⟩
  have a1 := enc_lt (b := 32) (by decide) l hl'
  have a2 := enc_lt (b := 32) (by decide) m hm'
  have b1 : 32 ^ l.length ≤ 32 ^ 8 := Nat.pow_le_pow_right (by decide) h8
  have b2 : 32 ^ m.length ≤ 32 ^ 8 := Nat.pow_le_pow_right (by decide) g8
  have e8 : (32 : Nat) ^ 8 < 2 ^ 63 := by decide
  rw [fb_lN_inj (by omega) (by omega)]
  exact ⟨fun h => enc_inj l m hl' hm' h, fun h => by rw [h]⟩
theorem enc_eq27 {l m : List Nat} (hl : ∀ x ∈ l, 1 ≤ x ∧ x < 27) (hm : ∀ x ∈ m, 1 ≤ x ∧ x < 27) (h8 : l.length ≤ 8) (g8 : m.length ≤ 8) : lN (enc 27 l) = lN (enc 27 m) ↔ l = m := by
  have a1 := enc_lt (b := 27) (by decide) l hl
  have a2 := enc_lt (b := 27) (by decide) m hm
  have b1 : 27 ^ l.length ≤ 27 ^ 8 := Nat.pow_le_pow_right (by decide) h8
  have b2 : 27 ^ m.length ≤ 27 ^ 8 := Nat.pow_le_pow_right (by decide) g8
  have e8 : (27 : Nat) ^ 8 < 2 ^ 63 := by decide
  rw [fb_lN_inj (by omega) (by omega)]
  exact ⟨fun h => enc_inj l m hl hm h, fun h => by rw [h]⟩
/-- which word, from the j-th on -/
def kwF (l : List Nat) : Nat → Nat → Nat
  | 0, _ => 23
  | r + 1, j => if WL j = l then j else kwF l r (j + 1)
def kw (l : List Nat) : Nat := kwF l 23 0
theorem kwF_b (l : List Nat) : ∀ r j, j + r = 23 → kwF l r j ≤ 23 ∧ (kwF l r j < 23 → WL (kwF l r j) = l) ∧ (kwF l r j = 23 → ∀ i, j ≤ i → i < 23 → WL i ≠ l) := by
  intro r
  induction r with
  | zero => intro j hj; rw [kwF]; exact ⟨Nat.le_refl _, fun h => absurd h (by decide), fun _ i h1 h2 => absurd h2 (by omega)⟩
  | succ r ih =>
    intro j hj
    rw [kwF]
    split
    · rename_i h
      exact ⟨by omega, fun _ => h, fun e => absurd e (by omega)⟩
    · rename_i h
      obtain ⟨h1, h2, h3⟩ := ih (j + 1) (by omega)
      refine ⟨h1, h2, fun e i i1 i2 => ?_⟩
      by_cases q : i = j
      · subst q; exact h
      · exact h3 e i (by omega) i2
theorem kw_le (l : List Nat) : kw l ≤ 23 := (kwF_b l 23 0 rfl).1
theorem kw_is {l : List Nat} (h : kw l < 23) : WL (kw l) = l := (kwF_b l 23 0 rfl).2.1 h
theorem kw_no {l : List Nat} (h : kw l = 23) : ∀ i, i < 23 → WL i ≠ l := fun i hi => (kwF_b l 23 0 rfl).2.2 h i (by omega) hi
def d10 (c : Nat → Nat) (a : Nat) : Nat → Nat
  | 0 => 0
  | n + 1 => 10 * d10 c a n + (c (a + n) - 48)
def sgK (b : Nat) : Nat := if b = 59 then 25 else if b = 61 then 26 else if b = 43 then 27 else if b = 45 then 28 else if b = 42 then 29 else if b = 47 then 30 else if b = 60 then 31 else if b = 40 then 32 else if b = 41 then 33 else 34
theorem sgK_r (b : Nat) : 25 ≤ sgK b ∧ sgK b ≤ 34 := by
  unfold sgK
  repeat' split
  all_goals omega
/-- the TOKEN at a place: its kind in the class's numbers, its end -/
def kdF (c : Nat → Nat) (k p : Nat) : Nat := if k ≤ p then 35 else if isLtN (c p) then (if 8 < rnE isLtN c k p - p then 34 else kw (lsR c p (rnE isLtN c k p - p))) else if isDgN (c p) then (if 4 < rnE isDgN c k p - p then 34 else 24) else sgK (c p)
def enF (c : Nat → Nat) (k p : Nat) : Nat := if k ≤ p then p else if isLtN (c p) then rnE isLtN c k p else if isDgN (c p) then rnE isDgN c k p else p + 1
def vlF (c : Nat → Nat) (k p : Nat) : Nat := if k ≤ p then 0 else if isLtN (c p) then enc 32 (lsR c p (rnE isLtN c k p - p)) else if isDgN (c p) then d10 c p (rnE isDgN c k p - p) else 0
def nmF (c : Nat → Nat) (k p : Nat) : List Nat := lsR c p (rnE isLtN c k p - p)
def psn (c : Nat → Nat) (k : Nat) : Nat → Nat
  | 0 => 0
  | j + 1 => enF c k (rnE isBlN c k (psn c k j))
def plF (c : Nat → Nat) (k j : Nat) : Nat := rnE isBlN c k (psn c k j)
theorem enF_b {c : Nat → Nat} {k p : Nat} (h : p ≤ k) : p ≤ enF c k p ∧ enF c k p ≤ k ∧ (p < k → p < enF c k p) := by
  unfold enF
  split
  · exact ⟨Nat.le_refl _, h, fun x => absurd x (by omega)⟩
  · split
    · rename_i q1 q2
      have := rnE_le (p := isLtN) (c := c) (k := k) (a := p + 1) (by omega)
      rw [rnE_s (by omega) q2]
      exact ⟨by omega, this.2, fun _ => by omega⟩
    · split
      · rename_i q1 q2 q3
        have := rnE_le (p := isDgN) (c := c) (k := k) (a := p + 1) (by omega)
        rw [rnE_s (by omega) q3]
        exact ⟨by omega, this.2, fun _ => by omega⟩
      · exact ⟨by omega, by omega, fun _ => by omega⟩
theorem psn_le (c : Nat → Nat) (k : Nat) : ∀ j, psn c k j ≤ k := by
  intro j
  induction j with
  | zero => rw [psn]; omega
  | succ j ih =>
    rw [psn]
    exact (enF_b (rnE_le ih).2).2.1
theorem plF_le (c : Nat → Nat) (k j : Nat) : psn c k j ≤ plF c k j ∧ plF c k j ≤ k := rnE_le (psn_le c k j)
theorem plF_lt {c : Nat → Nat} {k j : Nat} (h : plF c k j < k) : plF c k j < plF c k (j + 1) := by
  have h1 := (enF_b (c := c) (plF_le c k j).2).2.2 h
  have h2 := (plF_le c k (j + 1)).1
  have h3 : psn c k (j + 1) = enF c k (plF c k j) := rfl
  omega
theorem kd_lt {c : Nat → Nat} {k p : Nat} (h : kdF c k p < 35) : p < k := by
  unfold kdF at h
  split at h
  · omega
  · omega
/-- class's kinds, the reference's -/
def kM (n : Nat) : Nat := if n < 23 then 20 + n else ([1, 2, 4, 5, 8, 9, 10, 15, 13, 6, 7, 3, 0] : List Nat).getD (n - 23) 0
theorem kM_inj : ∀ a, a < 36 → ∀ b, b < 36 → kM a = kM b → a = b := by decide +kernel
theorem kM_lt : ∀ a, a < 36 → kM a < 43 := by decide +kernel
theorem kd_36 (c : Nat → Nat) (k p : Nat) : kdF c k p < 36 := by
  unfold kdF
  split
  · omega
  · split
    · split
      · omega
      · have := kw_le (lsR c p (rnE isLtN c k p - p)); omega
    · split
      · split <;> omega
      · have := sgK_r (c p); omega
