/-! surely: the pure part -/
def anyF (f : Nat → Bool) : Nat → Bool
  | 0 => false
  | n + 1 => anyF f n || f n
def allF (f : Nat → Bool) : Nat → Bool
  | 0 => true
  | n + 1 => allF f n && f n
theorem anyF_c {f g : Nat → Bool} : ∀ {n : Nat}, (∀ m, m < n → f m = g m) → anyF f n = anyF g n := by
  intro n
  induction n with
  | zero => intro _; rfl
  | succ n ih => intro h; rw [anyF, anyF, ih (fun m hm => h m (by omega)), h n (by omega)]
theorem allF_c {f g : Nat → Bool} : ∀ {n : Nat}, (∀ m, m < n → f m = g m) → allF f n = allF g n := by
  intro n
  induction n with
  | zero => intro _; rfl
  | succ n ih => intro h; rw [allF, allF, ih (fun m hm => h m (by omega)), h n (by omega)]
def sf (sd mg mv to : Nat → Int32) (al : Nat → Bool) (s : Int32) (k i : Nat) : Bool :=
  if sd i = -2 then decide ((if s = 0 then mg i else -mg i) = -(nI k))
  else if sd i = s then anyF (fun m => (if _h : (to (3 * i + m)).toNatClampNeg < i then sf sd mg mv to al s k (to (3 * i + m)).toNatClampNeg else false) && al (3 * i + m)) (mv i).toNatClampNeg
  else allF (fun m => if _h : (to (3 * i + m)).toNatClampNeg < i then sf sd mg mv to al s k (to (3 * i + m)).toNatClampNeg else false) (mv i).toNatClampNeg
termination_by i
theorem sf_e {sd mg mv to : Nat → Int32} {al : Nat → Bool} {s : Int32} {k i : Nat} (h : sd i = -2) : sf sd mg mv to al s k i = decide ((if s = 0 then mg i else -mg i) = -(nI k)) := by
  rw [sf, if_pos h]
theorem sf_o {sd mg mv to : Nat → Int32} {al : Nat → Bool} {s : Int32} {k i n : Nat} (h : ¬ sd i = -2) (hs : sd i = s) (hn : mv i = nI n) (h3 : n ≤ 3) (hto : ∀ m, m < n → (to (3 * i + m)).toNatClampNeg < i) : sf sd mg mv to al s k i = anyF (fun m => sf sd mg mv to al s k (to (3 * i + m)).toNatClampNeg && al (3 * i + m)) n := by
  rw [sf, if_neg h, if_pos hs, hn, nI_clamp (by omega)]
  refine anyF_c (fun m hm => ?_)
  rw [dif_pos (hto m hm)]
theorem sf_a {sd mg mv to : Nat → Int32} {al : Nat → Bool} {s : Int32} {k i n : Nat} (h : ¬ sd i = -2) (hs : ¬ sd i = s) (hn : mv i = nI n) (h3 : n ≤ 3) (hto : ∀ m, m < n → (to (3 * i + m)).toNatClampNeg < i) : sf sd mg mv to al s k i = allF (fun m => sf sd mg mv to al s k (to (3 * i + m)).toNatClampNeg) n := by
  rw [sf, if_neg h, if_neg hs, hn, nI_clamp (by omega)]
  refine allF_c (fun m hm => ?_)
  rw [dif_pos (hto m hm)]
abbrev sfx (I : AI) (t : Nat) (al : Nat → Bool) (s : Int32) : Nat → Nat → Bool := sf (I (t + 1)) (I (t + 2)) (I (t + 3)) (I (t + 5)) al s
/-- the bits of all k -/
def GDb (f : Nat → Bool) (x : Int32) : Prop := x = nI x.toNatClampNeg ∧ x.toNatClampNeg < 1024 ∧ ∀ k, k < 10 → x.toNatClampNeg.testBit k = f k
theorem GDb_n {f : Nat → Bool} {b : Nat} (h : b < 1024) (hf : ∀ k, k < 10 → b.testBit k = f k) : GDb f (nI b) := by
  have e := nI_clamp (n := b) (by omega)
  unfold GDb
  rw [e]
  exact ⟨rfl, h, hf⟩
theorem m1_and (x : Int32) : -1 &&& x = x := by
  apply Int32.toBitVec_inj.mp
  simp
def orB (B : Nat → Nat) (al : Nat → Bool) : Nat → Nat
  | 0 => 0
  | m + 1 => if al m then orB B al m ||| B m else orB B al m
theorem orB_lt {B : Nat → Nat} {al : Nat → Bool} : ∀ {n : Nat}, (∀ m, m < n → B m < 1024) → orB B al n < 1024 := by
  intro n
  induction n with
  | zero => intro _; rw [orB]; omega
  | succ n ih =>
    intro h
    have h1 := ih (fun m hm => h m (by omega))
    rw [orB]
    split
    · exact Nat.or_lt_two_pow (n := 10) h1 (h n (by omega))
    · exact h1
theorem orB_bit {B : Nat → Nat} {al : Nat → Bool} {k : Nat} : ∀ {n : Nat}, (orB B al n).testBit k = anyF (fun m => (B m).testBit k && al m) n := by
  intro n
  induction n with
  | zero => rw [orB, anyF]; exact Nat.zero_testBit k
  | succ n ih =>
    rw [orB, anyF, ← ih]
    cases al n
    · simp
    · simp [Nat.testBit_or]
def andI (B : Nat → Nat) : Nat → Int32
  | 0 => -1
  | m + 1 => andI B m &&& nI (B m)
def andB (B : Nat → Nat) : Nat → Nat
  | 0 => 1023
  | m + 1 => andB B m &&& B m
theorem andB_lt {B : Nat → Nat} : ∀ {n : Nat}, andB B n < 1024 := by
  intro n
  induction n with
  | zero => rw [andB]; omega
  | succ n ih => rw [andB]; exact Nat.lt_of_le_of_lt Nat.and_le_left ih
theorem andB_bit {B : Nat → Nat} {k : Nat} (hk : k < 10) : ∀ {n : Nat}, (andB B n).testBit k = allF (fun m => (B m).testBit k) n := by
  intro n
  induction n with
  | zero => rw [andB, allF]; exact Nat.testBit_two_pow_sub_one (n := 10) (i := k) ▸ decide_eq_true hk
  | succ n ih => rw [andB, allF, ← ih, Nat.testBit_and]
theorem andI_B {B : Nat → Nat} : ∀ {n : Nat}, (∀ m, m < n + 1 → B m < 1024) → andI B (n + 1) = nI (andB B (n + 1)) := by
  intro n
  induction n with
  | zero =>
    intro h
    rw [andI, andI, m1_and, andB, andB, Nat.and_comm, show 1023 = 2 ^ 10 - 1 from rfl, Nat.and_two_pow_sub_one_eq_mod, Nat.mod_eq_of_lt (h 0 (by omega))]
  | succ n ih => intro h; rw [andI, ih (fun m hm => h m (by omega)), fa_and]; rfl
def eb (o : Int32) : Nat := if 0 ≤ o then 2 ^ o.toNatClampNeg else 0
theorem eb_lt {o : Int32} (h : mgX o) : eb o < 1024 := by
  refine mg_all (P := fun o => eb o < 1024) ?_ h
  unfold eb
  decide +kernel
theorem eb_v {o : Int32} (h : mgX o) : (if o < 0 then (0 : Int32) else 1 <<< (o &&& 31)) = nI (eb o) := by
  refine mg_all (P := fun o => (if o < 0 then (0 : Int32) else 1 <<< (o &&& 31)) = nI (eb o)) ?_ h
  unfold eb
  decide +kernel
theorem eb_bit {o : Int32} (h : mgX o) : ∀ k, k < 10 → (eb o).testBit k = decide (-o = -(nI k)) := by
  refine mg_all (P := fun o => ∀ k, k < 10 → (eb o).testBit k = decide (-o = -(nI k))) ?_ h
  unfold eb
  decide +kernel
theorem GDb_e {s m : Int32} (h : mgX m) : GDb (fun k => decide ((if s = 0 then m else -m) = -(nI k))) (nI (eb (if s = 0 then -m else m))) := by
  by_cases q : s = 0
  · simp only [if_pos q]
    refine GDb_n (eb_lt (mg_neg h)) (fun k hk => ?_)
    rw [eb_bit (mg_neg h) k hk, Int32.neg_neg]
  · simp only [if_neg q]
    exact GDb_n (eb_lt h) (eb_bit h)
theorem bitK : ∀ k, k < 10 → ∀ b, b < 1024 → (nI b >>> (nI k &&& 31) &&& 1) = if b.testBit k then 1 else 0 := by decide +kernel
theorem shlK : ∀ k, k < 10 → (1 : Int32) <<< (nI k &&& 31) = nI (2 ^ k) := by decide +kernel
