/-! the small machine: cells by their order, ints, longs and references apart -/
abbrev AI : Type := Nat → Nat → Int32
abbrev AL : Type := Nat → Nat → Int64
abbrev AR : Type := Nat → Nat → Option Nat
def upr {α : Type} (f : Nat → α) (a : Nat) (g : α) : Nat → α := fun b => if b = a then g else f b
def up2 {α : Type} (f : Nat → Nat → α) (a k : Nat) (v : α) : Nat → Nat → α := upr f a (upr (f a) k v)
/-- cells keep numbers of their own: cell a is the (ip a)th that is made, the kth that is made is cell pm k -/
def ip (a : Nat) : Nat := if a = 7 then 1 else if 1 ≤ a ∧ a < 7 then a + 1 else a
def pm (k : Nat) : Nat := if k = 1 then 7 else if 2 ≤ k ∧ k < 8 then k - 1 else k
theorem pm_ip (a : Nat) : pm (ip a) = a := by
  unfold pm ip
  split
  · simp; omega
  · split
    · rw [if_neg (by omega), if_pos (by omega)]; omega
    · rw [if_neg (by omega), if_neg (by omega)]
theorem ip_pm (k : Nat) : ip (pm k) = k := by
  unfold pm ip
  split
  · simp; omega
  · split
    · rw [if_neg (by omega), if_pos (by omega)]; omega
    · rw [if_neg (by omega), if_neg (by omega)]
theorem ip_lt {a n : Nat} (h : 8 ≤ n) : (ip a < n) = (a < n) := by
  apply propext
  unfold ip
  split
  · omega
  · split <;> omega
theorem ip_ge {a : Nat} (h : 8 ≤ a) : ip a = a := by unfold ip; rw [if_neg (by omega), if_neg (by omega)]
theorem pm_ge {k : Nat} (h : 8 ≤ k) : pm k = k := by unfold pm; rw [if_neg (by omega), if_neg (by omega)]
theorem pm_lt {k n : Nat} (h : 8 ≤ n) : (pm k < n) = (k < n) := by rw [← ip_lt h, ip_pm]
/-- of which kind of array a cell is: 0 int, 1 long, 2 byte, 3 boolean -/
def tgX (n a : Nat) : Nat := if ip a < n then (match shpL[a]? with | some (.inr q) => q.1 | _ => 99) else if a = 1000 then 0 else if a = 1002 then 2 else if a = 1003 then 2 else 99
def lnX (n : Nat) (I : AI) (a : Nat) : Nat := if ip a < n then (match shpL[a]? with | some (.inr q) => q.2 | _ => 0) else if a = 1000 then (I 1001 0).toNatClampNeg else if a = 1002 then 120 else if a = 1003 then 9 else 0
/-- of which of the classes an object is -/
def obX (n a : Nat) : Nat := if ip a < n then (match shpL[a]? with | some (.inl c) => c | _ => 99) else if a = 1004 then 13 else if a = 1005 then 13 else 99
def rdB (I : AI) (a j : Nat) : Int32 := if a = 1002 then wrdB.getD j 0 else if a = 1003 then sgnB.getD j 0 else I a j
def nrB (t : Nat) (v : Int32) : Int32 := if t = 2 then vp_nar .byte v else vp_nar .boolean v
def atX (t : ArrayType) : Nat := match t with
  | .int => 0
  | .long => 1
  | .byte => 2
  | .boolean => 3
  | _ => 99
def isR (t : FieldType) : Bool := match t with
  | .object _ => true
  | .array _ => true
  | _ => false
def fvX (t : FieldType) (I : AI) (R : AR) (o k : Nat) : Value := if isR t then va_rf (R o k) else .int (I o k)
def dlV (v : Value) : Value := match v with
  | .long _ => .retAddr 0
  | w => w
def lsV : List Value → Nat → Value → List Value
  | [], _, _ => []
  | _ :: r, 0, v => v :: r
  | a :: r, 1, v => dlV a :: lsV r 0 v
  | a :: r, i + 2, v => a :: lsV r (i + 1) v
def lsL : List Value → Nat → Value → List Value
  | [], _, _ => []
  | [_], 0, v => [v]
  | _ :: _ :: r, 0, v => v :: .retAddr 0 :: r
  | a :: r, 1, v => dlV a :: lsL r 0 v
  | a :: r, i + 2, v => a :: lsL r (i + 1) v
/-- the locals at a method's beginning -/
def enV : Nat → List Value → List Value
  | 0, _ => []
  | m + 1, [] => .retAddr 0 :: enV m []
  | m + 2, .long v :: r => .long v :: .retAddr 0 :: enV m r
  | m + 1, v :: r => v :: enV m r
abbrev CF : Type := Nat × List Value × List Value × Nat × AI × AL × AR
abbrev XR : Type := CF ⊕ (Option Value ⊕ (Nat × List Value × List Value))
def nxX (pc : Nat) (ls st : List Value) (n : Nat) (I : AI) (L : AL) (R : AR) : Option XR := some (.inl (pc, ls, st, n, I, L, R))
def rtX (t : Option FieldType) (v : Int32) : Prop := match t with
  | some .int => True
  | some .boolean => v = 0 ∨ v = 1
  | some .byte => narrow .byte (.int v) = .int v
  | some .char => narrow .char (.int v) = .int v
  | _ => False
def ptX (t : FieldType) (v : Value) : Prop := match t, v with
  | .int, .int _ => True
  | .boolean, .int v => v = 0 ∨ v = 1
  | .object _, .ref _ => True
  | .array _, .ref _ => True
  | _, _ => False
noncomputable def ifP (c : Prop) (a : Option XR) : Option XR := @ite _ c (Classical.propDecidable c) a none
noncomputable def jpX (pc : Nat) (off : Int) (ls st : List Value) (n : Nat) (I : AI) (L : AL) (R : AR) : Option XR := ifP (0 ≤ (pc : Int) + off) (nxX ((pc : Int) + off).toNat ls st n I L R)
noncomputable def bjX (b : Prop) (pc : Nat) (off : Int) (ls st : List Value) (n : Nat) (I : AI) (L : AL) (R : AR) : Option XR := ifP (0 ≤ (pc : Int) + off) (@ite _ b (Classical.propDecidable b) (nxX ((pc : Int) + off).toNat ls st n I L R) (nxX (pc + 3) ls st n I L R))
/-- a call: which method, which arguments, what stays on the stack -/
noncomputable def clY (kind z : Nat) (as rest : List Value) (n : Nat) : Option XR := match kind, as with
  | 0, .ref o :: as => ifP (obX n o = ocM z) (some (.inr (.inr (z, .ref o :: as, rest))))
  | 1, as => some (.inr (.inr (z, as, rest)))
  | 2, .ref o :: as => ifP (ip o < n) (some (.inr (.inr (z, .ref o :: as, rest))))
  | 3, .ref o :: as => ifP (ip o < n) (some (.inr (.inr (z, .ref o :: as, rest))))
  | _, _ => none
def wsm (l : List Value) : Nat := (l.map fun v => v.category).sum
def gdV (l : List Value) : Bool := l.all fun v => match v with
  | .int _ => true
  | .long _ => true
  | .ref _ => true
  | _ => false
noncomputable def clX (y kind z : Nat) (st : List Value) (n : Nat) : Option XR :=
  ifP (naM z ≤ st.length ∧ rfM z + 1 ≤ rfM y ∧ 8 + (mlM z + 11) + rlM z ≤ rlM y ∧ ((st.drop (naM z)).map fun v => v.category).sum ≤ 8 ∧ wsm (st.take (naM z)).reverse ≤ mlM z ∧ gdV (st.take (naM z)).reverse = true) (clY kind z (st.take (naM z)).reverse (st.drop (naM z)) n)
noncomputable def x1 (y pc : Nat) (i : Instr) (ls st : List Value) (n : Nat) (I : AI) (L : AL) (R : AR) : Option XR := match i with
  | .iconst k => nxX (pc + 1) ls (.int (Int32.ofInt k) :: st) n I L R
  | .bipush k => nxX (pc + 2) ls (.int (Int8.ofInt k).toInt32 :: st) n I L R
  | .sipush k => nxX (pc + 3) ls (.int (Int16.ofInt k).toInt32 :: st) n I L R
  | .lconst k => nxX (pc + 1) ls (.long (Int64.ofNat (k : Nat)) :: st) n I L R
  | .iload k => match ls[k]? with | some (.int v) => nxX (pc + 2) ls (.int v :: st) n I L R | _ => none
  | .iload_n k => match ls[(k : Nat)]? with | some (.int v) => nxX (pc + 1) ls (.int v :: st) n I L R | _ => none
  | .lload k => match ls[k]? with | some (.long v) => nxX (pc + 2) ls (.long v :: st) n I L R | _ => none
  | .lload_n k => match ls[(k : Nat)]? with | some (.long v) => nxX (pc + 1) ls (.long v :: st) n I L R | _ => none
  | .aload k => match ls[k]? with | some (.ref v) => ifP (v < 1006) (nxX (pc + 2) ls (.ref v :: st) n I L R) | _ => none
  | .aload_n k => match ls[(k : Nat)]? with | some (.ref v) => ifP (v < 1006) (nxX (pc + 1) ls (.ref v :: st) n I L R) | _ => none
  | .istore k => match st with | .int v :: r => ifP (k < ls.length) (nxX (pc + 2) (lsV ls k (.int v)) r n I L R) | _ => none
  | .istore_n k => match st with | .int v :: r => ifP ((k : Nat) < ls.length) (nxX (pc + 1) (lsV ls (k : Nat) (.int v)) r n I L R) | _ => none
  | .lstore k => match st with | .long v :: r => ifP (k + 1 < ls.length) (nxX (pc + 2) (lsL ls k (.long v)) r n I L R) | _ => none
  | .lstore_n k => match st with | .long v :: r => ifP ((k : Nat) + 1 < ls.length) (nxX (pc + 1) (lsL ls (k : Nat) (.long v)) r n I L R) | _ => none
  | .astore k => match st with | .ref v :: r => ifP (k < ls.length ∧ v < 1006) (nxX (pc + 2) (lsV ls k (.ref v)) r n I L R) | _ => none
  | .astore_n k => match st with | .ref v :: r => ifP ((k : Nat) < ls.length ∧ v < 1006) (nxX (pc + 1) (lsV ls (k : Nat) (.ref v)) r n I L R) | _ => none
  | .iinc k d => match ls[k]? with | some (.int v) => nxX (pc + 3) (lsV ls k (.int (v + Int32.ofInt d))) st n I L R | _ => none
  | .iadd => match st with | .int b :: .int a :: r => nxX (pc + 1) ls (.int (a + b) :: r) n I L R | _ => none
  | .isub => match st with | .int b :: .int a :: r => nxX (pc + 1) ls (.int (a - b) :: r) n I L R | _ => none
  | .imul => match st with | .int b :: .int a :: r => nxX (pc + 1) ls (.int (a * b) :: r) n I L R | _ => none
  | .iand => match st with | .int b :: .int a :: r => nxX (pc + 1) ls (.int (a &&& b) :: r) n I L R | _ => none
  | .ior => match st with | .int b :: .int a :: r => nxX (pc + 1) ls (.int (a ||| b) :: r) n I L R | _ => none
  | .ixor => match st with | .int b :: .int a :: r => nxX (pc + 1) ls (.int (a ^^^ b) :: r) n I L R | _ => none
  | .ishl => match st with | .int b :: .int a :: r => nxX (pc + 1) ls (.int (a <<< (b &&& 31)) :: r) n I L R | _ => none
  | .ishr => match st with | .int b :: .int a :: r => nxX (pc + 1) ls (.int (a >>> (b &&& 31)) :: r) n I L R | _ => none
  | .iushr => match st with | .int b :: .int a :: r => nxX (pc + 1) ls (.int (a.toUInt32 >>> (b.toUInt32 &&& Int32.toUInt32 31)).toInt32 :: r) n I L R | _ => none
  | .idiv => match st with | .int b :: .int a :: r => ifP (¬ b = 0) (nxX (pc + 1) ls (.int (a / b) :: r) n I L R) | _ => none
  | .irem => match st with | .int b :: .int a :: r => ifP (¬ b = 0) (nxX (pc + 1) ls (.int (a - a / b * b) :: r) n I L R) | _ => none
  | .ineg => match st with | .int a :: r => nxX (pc + 1) ls (.int (-a) :: r) n I L R | _ => none
  | .ladd => match st with | .long b :: .long a :: r => nxX (pc + 1) ls (.long (a + b) :: r) n I L R | _ => none
  | .lsub => match st with | .long b :: .long a :: r => nxX (pc + 1) ls (.long (a - b) :: r) n I L R | _ => none
  | .lmul => match st with | .long b :: .long a :: r => nxX (pc + 1) ls (.long (a * b) :: r) n I L R | _ => none
  | .ldiv => match st with | .long b :: .long a :: r => ifP (¬ b = 0) (nxX (pc + 1) ls (.long (a / b) :: r) n I L R) | _ => none
  | .lrem => match st with | .long b :: .long a :: r => ifP (¬ b = 0) (nxX (pc + 1) ls (.long (a - a / b * b) :: r) n I L R) | _ => none
  | .lcmp => match st with | .long b :: .long a :: r => nxX (pc + 1) ls (.int (lg_cmp a b) :: r) n I L R | _ => none
  | .i2l => match st with | .int a :: r => nxX (pc + 1) ls (.long a.toInt64 :: r) n I L R | _ => none
  | .l2i => match st with | .long a :: r => nxX (pc + 1) ls (.int a.toInt32 :: r) n I L R | _ => none
  | .i2b => match st with | .int a :: r => nxX (pc + 1) ls (.int a.toInt8.toInt32 :: r) n I L R | _ => none
  | .i2c => match st with | .int a :: r => nxX (pc + 1) ls (.int (a.toUInt32 % 65536).toInt32 :: r) n I L R | _ => none
  | .dup => match st with | v :: r => ifP (v.category = 1) (nxX (pc + 1) ls (v :: v :: r) n I L R) | _ => none
  | .dup2 => match st with | v :: w :: r => ifP (v.category = 1 ∧ w.category = 1) (nxX (pc + 1) ls (v :: w :: v :: w :: r) n I L R) | _ => none
  | .pop => match st with | v :: r => ifP (v.category = 1) (nxX (pc + 1) ls r n I L R) | _ => none
  | .goto off => jpX pc off ls st n I L R
  | .ifCond c off => match st with
    | .int a :: r => (match c with
      | .eq => bjX (a = 0) pc off ls r n I L R
      | .ne => bjX (¬ a = 0) pc off ls r n I L R
      | .lt => bjX (a < 0) pc off ls r n I L R
      | .ge => bjX (0 ≤ a) pc off ls r n I L R
      | .gt => bjX (0 < a) pc off ls r n I L R
      | .le => bjX (a ≤ 0) pc off ls r n I L R)
    | _ => none
  | .if_icmp c off => match st with
    | .int b :: .int a :: r => (match c with
      | .eq => bjX (a = b) pc off ls r n I L R
      | .ne => bjX (¬ a = b) pc off ls r n I L R
      | .lt => bjX (a < b) pc off ls r n I L R
      | .ge => bjX (b ≤ a) pc off ls r n I L R
      | .gt => bjX (b < a) pc off ls r n I L R
      | .le => bjX (a ≤ b) pc off ls r n I L R)
    | _ => none
  | .tableswitch d lo hi os => match st with
    | .int a :: r => if a.toInt < lo ∨ hi < a.toInt then jpX pc d ls r n I L R else (match os[(a.toInt - lo).toNat]? with | some off => jpX pc off ls r n I L R | _ => none)
    | _ => none
  | .lookupswitch d ps => match st with
    | .int a :: r => ifP ((ps.toList.zip (ps.toList.drop 1)).all (fun (a, next) => a.1 < next.1) = true) (jpX pc (Op.lookupswitch.offset ps.toList d a.toInt) ls r n I L R)
    | _ => none
  | .ldc k => match pickT cstL (ocM y) k with
    | some v => nxX (pc + 2) ls (.int v :: st) n I L R
    | none => (match pickT stsL (ocM y) k with | some a => nxX (pc + 2) ls (.ref a :: st) n I L R | none => none)
  | .ldc_w k => match pickT cstL (ocM y) k with | some v => nxX (pc + 3) ls (.int v :: st) n I L R | none => none
  | .ldc2_w k => match pickT cslL (ocM y) k with | some v => nxX (pc + 3) ls (.long v :: st) n I L R | none => none
  | .getstatic k => ifP (ocM y = 13) (if k = 38 then nxX (pc + 3) ls (.int 1 :: st) n I L R else ifP (k = 1053) (nxX (pc + 3) ls (.ref 1006 :: st) n I L R))
  | .getfield k => match fdM (ocM y) k with
    | some (c, j) => (match st with
      | .ref o :: r => ifP (obX n o = c) (if c = 13 then (if j = 0 then nxX (pc + 3) ls (.ref (o - 2) :: r) n I L R else nxX (pc + 3) ls (.int 0 :: r) n I L R) else ifP (c < 10 ∧ j < nfX c) (nxX (pc + 3) ls (fvX (ftX c j) I R o j :: r) n I L R))
      | _ => none)
    | none => none
  | .putfield k => match fdM (ocM y) k with
    | some (c, j) => (match st with
      | v :: .ref o :: r => ifP (obX n o = c ∧ ip o < n ∧ c < 10 ∧ j < nfX c ∧ ptX (ftX c j) v ∧ (((clsX.getD c (RX9, TX9, 75)).2.1 j).2.2.2 = true → (nmM y).name = "<init>" ∧ c = ocM y))
          (match v with
            | .int a => nxX (pc + 3) ls r n (up2 I o j a) L R
            | .ref q => ifP (q < 1000) (nxX (pc + 3) ls r n I L (up2 R o j (some q)))
            | _ => none)
      | _ => none)
    | none => none
  | .new k => match pickT clkL (ocM y) k with
    | some c => ifP (shpL[pm n]? = some (.inl c) ∧ c < 10) (nxX (pc + 3) ls (.ref (pm n) :: st) (n + 1) (upr I (pm n) (fun _ => 0)) L (upr R (pm n) (fun _ => none)))
    | none => none
  | .newarray t => match st with
    | .int m :: r => ifP (¬ m < 0 ∧ shpL[pm n]? = some (.inr (atX t, m.toNatClampNeg)) ∧ atX t < 4) (nxX (pc + 2) ls (.ref (pm n) :: r) (n + 1) (upr I (pm n) (fun _ => 0)) (upr L (pm n) (fun _ => 0)) R)
    | _ => none
  | .arraylength => match st with
    | .ref a :: r => ifP (tgX n a < 4) (nxX (pc + 1) ls (.int (Int32.ofNat (lnX n I a)) :: r) n I L R)
    | _ => none
  | .iaload => match st with
    | .int j :: .ref a :: r => ifP (tgX n a = 0 ∧ vp_in j (lnX n I a)) (nxX (pc + 1) ls (.int (I a j.toNatClampNeg) :: r) n I L R)
    | _ => none
  | .baload => match st with
    | .int j :: .ref a :: r => ifP ((tgX n a = 2 ∨ tgX n a = 3) ∧ vp_in j (lnX n I a)) (nxX (pc + 1) ls (.int (rdB I a j.toNatClampNeg) :: r) n I L R)
    | _ => none
  | .laload => match st with
    | .int j :: .ref a :: r => ifP (tgX n a = 1 ∧ vp_in j (lnX n I a)) (nxX (pc + 1) ls (.long (L a j.toNatClampNeg) :: r) n I L R)
    | _ => none
  | .iastore => match st with
    | .int v :: .int j :: .ref a :: r => ifP (ip a < n ∧ tgX n a = 0 ∧ vp_in j (lnX n I a)) (nxX (pc + 1) ls r n (up2 I a j.toNatClampNeg v) L R)
    | _ => none
  | .bastore => match st with
    | .int v :: .int j :: .ref a :: r => ifP (ip a < n ∧ (tgX n a = 2 ∨ tgX n a = 3) ∧ vp_in j (lnX n I a)) (nxX (pc + 1) ls r n (up2 I a j.toNatClampNeg (nrB (tgX n a) v)) L R)
    | _ => none
  | .lastore => match st with
    | .long v :: .int j :: .ref a :: r => ifP (ip a < n ∧ tgX n a = 1 ∧ vp_in j (lnX n I a)) (nxX (pc + 1) ls r n I (up2 L a j.toNatClampNeg v) R)
    | _ => none
  | .ireturn => match st with
    | [.int v] => ifP (rtX (rtM y) v) (some (.inr (.inl (some (.int v)))))
    | _ => none
  | .lreturn => match st with
    | [.long v] => ifP (rtM y = some .long) (some (.inr (.inl (some (.long v)))))
    | _ => none
  | .return_ => match st with
    | [] => ifP (rtM y = none) (some (.inr (.inl none)))
    | _ => none
  | .invokevirtual k => match lnkM (ocM y) k with
    | some (0, z) => clX y 0 z st n
    | _ => none
  | .invokestatic k => match lnkM (ocM y) k with
    | some (1, z) => clX y 1 z st n
    | some (5, _) => (match st with
      | .int m :: .int dp :: .ref b :: .int sp :: .ref a :: r => ifP (ip a < n ∧ ip b < n ∧ tgX n a = 0 ∧ tgX n b = 0 ∧ ¬ sp < 0 ∧ ¬ dp < 0 ∧ ¬ m < 0 ∧ sp.toNatClampNeg + m.toNatClampNeg ≤ lnX n I a ∧ dp.toNatClampNeg + m.toNatClampNeg ≤ lnX n I b ∧ 1 ≤ rfM y ∧ (r.map fun v => v.category).sum + 18 ≤ rlM y) (nxX (pc + 3) ls r n (upr I b (va_cpy (I a) (I b) sp.toNatClampNeg dp.toNatClampNeg m.toNatClampNeg)) L R)
      | _ => none)
    | some (6, _) => (match st with
      | .int b :: .int a :: r => ifP (1 ≤ rfM y ∧ (r.map fun v => v.category).sum + 13 ≤ rlM y) (nxX (pc + 3) ls (.int (if a < b then b else a) :: r) n I L R)
      | _ => none)
    | some (7, _) => (match st with
      | .int b :: .int a :: r => ifP (1 ≤ rfM y ∧ (r.map fun v => v.category).sum + 13 ≤ rlM y) (nxX (pc + 3) ls (.int (if b < a then b else a) :: r) n I L R)
      | _ => none)
    | some (8, _) => (match st with
      | .int a :: r => ifP (1 ≤ rfM y ∧ (r.map fun v => v.category).sum + 13 ≤ rlM y) (nxX (pc + 3) ls (.int (if 0 ≤ a then a else 0 - a) :: r) n I L R)
      | _ => none)
    | _ => none
  | .invokespecial k => match lnkM (ocM y) k with
    | some (2, z) => clX y 2 z st n
    | some (3, z) => clX y 3 z st n
    | some (4, _) => (match st with
      | .ref a :: r => ifP (ip a < n ∧ 1 ≤ rfM y ∧ (r.map fun v => v.category).sum + 12 ≤ rlM y) (nxX (pc + 3) ls r n I L R)
      | _ => none)
    | _ => none
  | _ => none
/-- the length of an instruction -/
def lnI (i : Instr) (len : Nat) : Nat := match i with
  | .iconst _ => 1
  | .lconst _ => 1
  | .iload_n _ => 1
  | .lload_n _ => 1
  | .aload_n _ => 1
  | .istore_n _ => 1
  | .lstore_n _ => 1
  | .astore_n _ => 1
  | .iadd => 1
  | .isub => 1
  | .imul => 1
  | .iand => 1
  | .ior => 1
  | .ixor => 1
  | .ishl => 1
  | .ishr => 1
  | .iushr => 1
  | .idiv => 1
  | .irem => 1
  | .ineg => 1
  | .ladd => 1
  | .lsub => 1
  | .lmul => 1
  | .ldiv => 1
  | .lrem => 1
  | .lcmp => 1
  | .i2l => 1
  | .l2i => 1
  | .i2b => 1
  | .i2c => 1
  | .dup => 1
  | .dup2 => 1
  | .pop => 1
  | .arraylength => 1
  | .iaload => 1
  | .baload => 1
  | .laload => 1
  | .iastore => 1
  | .bastore => 1
  | .lastore => 1
  | .ireturn => 1
  | .lreturn => 1
  | .return_ => 1
  | .bipush _ => 2
  | .iload _ => 2
  | .lload _ => 2
  | .aload _ => 2
  | .istore _ => 2
  | .lstore _ => 2
  | .astore _ => 2
  | .ldc _ => 2
  | .newarray _ => 2
  | .sipush _ => 3
  | .iinc _ _ => 3
  | .goto _ => 3
  | .ifCond _ _ => 3
  | .if_icmp _ _ => 3
  | .ldc_w _ => 3
  | .ldc2_w _ => 3
  | .getstatic _ => 3
  | .getfield _ => 3
  | .putfield _ => 3
  | .new _ => 3
  | .invokevirtual _ => 3
  | .invokestatic _ => 3
  | .invokespecial _ => 3
  | .tableswitch _ _ _ _ => len
  | .lookupswitch _ _ => len
  | _ => len + 1
noncomputable def x0 (y pc : Nat) (ls st : List Value) (n : Nat) (I : AI) (L : AL) (R : AR) : Option XR := match decode (cdM y) pc with
  | .ok (i, len) => ifP (len = lnI i len) (x1 y pc i ls st n I L R)
  | _ => none
noncomputable def exec : Nat → Nat → Nat → List Value → List Value → Nat → AI → AL → AR → Option (Option Value × Nat × AI × AL × AR)
  | 0, _, _, _, _, _, _, _, _ => none
  | f + 1, y, pc, ls, st, n, I, L, R => match x0 y pc ls st n I L R with
    | some (.inl (pc', ls', st', n', I', L', R')) => exec f y pc' ls' st' n' I' L' R'
    | some (.inr (.inl r)) => some (r, n, I, L, R)
    | some (.inr (.inr (z, as, rest))) => (match exec f z 0 (enV (mlM z) as) [] n I L R with
      | some (r, n1, I1, L1, R1) => exec f y (pc + 3) ls (r.toList ++ rest) n1 I1 L1 R1
      | none => none)
    | none => none
