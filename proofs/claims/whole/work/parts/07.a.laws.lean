/-! LAWS: what they come to -/
abbrev Cd : Type := List (Nat ⊕ (Nat ⊕ Nat))
def mkC : Nat ⊕ (Nat ⊕ Nat) → Int32
  | .inl n => nI n
  | .inr (.inl v) => -1 - nI v
  | .inr (.inr o) => -10 - nI o
def kM1 : Nat ⊕ (Nat ⊕ Nat) → Int32
  | .inl _ => 0
  | .inr (.inl _) => 1
  | .inr (.inr o) => nI (2 + o)
def kM2 : Nat ⊕ (Nat ⊕ Nat) → Int32
  | .inl n => nI n
  | .inr (.inl v) => nI v
  | .inr (.inr _) => 0
def okO : Nat ⊕ (Nat ⊕ Nat) → Prop
  | .inl n => n ≤ 9999
  | .inr (.inl v) => v < 9
  | .inr (.inr o) => o < 4
def jn (o : Nat) (a b : Int32) : Int32 := if o = 0 then a + b else if o = 1 then a - b else if o = 2 then a * b else a / b
def ev (vf : Nat → Int32) : Cd → List Int32 → Option (List Int32)
  | [], st => some st
  | .inl n :: c, st => ev vf c (nI n :: st)
  | .inr (.inl v) :: c, st => ev vf c (vf v :: st)
  | .inr (.inr o) :: c, b :: a :: st => if o = 3 ∧ b = 0 then none else ev vf c (jn o a b :: st)
  | .inr (.inr _) :: _, _ => none
def hg : Cd → Nat → Option Nat
  | [], n => some n
  | .inl _ :: c, n => if n < 15 then hg c (n + 1) else none
  | .inr (.inl _) :: c, n => if n < 15 then hg c (n + 1) else none
  | .inr (.inr _) :: c, n => if 2 ≤ n then hg c (n - 1) else none
/-- a text's E: one value, its parts in order, never too many -/
def WFc (c : Cd) : Prop := hg c 0 = some 1 ∧ ∀ x ∈ c, okO x
def evL (vf : Nat → Int32) : List (Cd × Cd × Cd) → Cd → Int32
  | [], e => match ev vf e [] with
    | some (v :: _) => v
    | _ => 0
  | (a, b, c) :: r, e => match ev vf a [], ev vf b [] with
    | some (x :: _), some (y :: _) => if x < y then (match ev vf c [] with
      | some (v :: _) => v
      | _ => 0) else evL vf r e
    | _, _ => 0
theorem ev_len (vf : Nat → Int32) : ∀ (c : Cd) (st st' : List Int32) (m : Nat), ev vf c st = some st' → hg c st.length = some m → st'.length = m := by
  intro c
  induction c with
  | nil => intro st st' m h1 h2; rw [ev] at h1; rw [hg] at h2; cases h1; cases h2; rfl
  | cons x c ih =>
    intro st st' m h1 h2
    match x, st, h1, h2 with
    | .inl n, st, h1, h2 =>
      rw [ev] at h1; rw [hg] at h2
      split at h2
      · exact ih _ _ _ h1 h2
      · cases h2
    | .inr (.inl v), st, h1, h2 =>
      rw [ev] at h1; rw [hg] at h2
      split at h2
      · exact ih _ _ _ h1 h2
      · cases h2
    | .inr (.inr o), [], h1, h2 => rw [ev] at h1 <;> first | cases h1 | simp
    | .inr (.inr o), [_], h1, h2 => rw [ev] at h1 <;> first | cases h1 | simp
    | .inr (.inr o), b :: a :: st, h1, h2 =>
      rw [ev] at h1; rw [hg] at h2
      split at h1
      · cases h1
      · split at h2
        · exact ih _ _ _ h1 h2
        · cases h2
/-- the values above b in a row -/
def STK (b : Nat) (S : Nat → Int32) (st : List Int32) : Prop := ∀ j, j < st.length → S (b + (st.length - 1 - j)) = st.getD j 0
theorem STK_0 (b : Nat) (S : Nat → Int32) : STK b S [] := fun j hj => absurd hj (Nat.not_lt_zero _)
theorem STK_p {b : Nat} {S : Nat → Int32} {st : List Int32} (h : STK b S st) (v : Int32) : STK b (upr S (b + st.length) v) (v :: st) := by
  intro j hj
  rw [List.length_cons] at hj ⊢
  cases j with
  | zero => rw [show b + (st.length + 1 - 1 - 0) = b + st.length by omega, upr_s]; rfl
  | succ j =>
    rw [upr_n (by omega), show b + (st.length + 1 - 1 - (j + 1)) = b + (st.length - 1 - j) by omega, h j (by omega)]
    rfl
theorem STK_2 {b : Nat} {S : Nat → Int32} {x y : Int32} {st : List Int32} (h : STK b S (y :: x :: st)) : S (b + st.length + 1) = y ∧ S (b + st.length) = x := by
  have h0 := h 0 (by rw [List.length_cons]; omega)
  have h1 := h 1 (by rw [List.length_cons, List.length_cons]; omega)
  rw [List.length_cons, List.length_cons, show b + (st.length + 1 + 1 - 1 - 0) = b + st.length + 1 by omega] at h0
  rw [List.length_cons, List.length_cons, show b + (st.length + 1 + 1 - 1 - 1) = b + st.length by omega] at h1
  exact ⟨h0, h1⟩
theorem STK_o {b : Nat} {S : Nat → Int32} {x y v : Int32} {st : List Int32} (h : STK b S (y :: x :: st)) : STK b (upr S (b + st.length) v) (v :: st) := by
  intro j hj
  rw [List.length_cons] at hj ⊢
  cases j with
  | zero => rw [show b + (st.length + 1 - 1 - 0) = b + st.length by omega, upr_s]; rfl
  | succ j =>
    have h2 := h (j + 2) (by rw [List.length_cons, List.length_cons]; omega)
    rw [List.length_cons, List.length_cons, show b + (st.length + 1 + 1 - 1 - (j + 2)) = b + (st.length + 1 - 1 - (j + 1)) by omega] at h2
    rw [upr_n (by omega), h2]
    rfl
theorem STK_1 {b : Nat} {S : Nat → Int32} {x : Int32} (h : STK b S [x]) : S b = x := h 0 Nat.zero_lt_one
theorem mkv : ∀ v, v < 9 → ((-1 - nI v : Int32) ≤ -10) = False ∧ (0 ≤ (-1 - nI v : Int32)) = False ∧ -1 - (-1 - nI v : Int32) = nI v ∧ ((-1 - nI v : Int32) = -15) = False := by
  intro v hv
  refine ⟨eq_false ?_, eq_false ?_, ?_, eq_false ?_⟩ <;> (revert v; decide +kernel)
theorem mko : ∀ o, o < 4 → ((-10 - nI o : Int32) ≤ -10) = True ∧ ((-10 - nI o : Int32) = -15) = False ∧ ((-10 - nI o : Int32) = -14) = False := by
  intro o ho
  refine ⟨eq_true ?_, eq_false ?_, eq_false ?_⟩ <;> (revert o; decide +kernel)
theorem nIm1 {h : Nat} (h0 : 1 ≤ h) : nI h + (-1) = nI (h - 1) := by
  have := pk_m1 (h - 1)
  rw [show h - 1 + 1 = h by omega] at this
  exact this
theorem c_joined {n o : Nat} {J : AI} {L : AL} {R : AR} {Q : PQ} {a b : Int32} (ho : o < 4) (hb : ¬ (o = 3 ∧ b = 0)) : V 27 0 [.int (-10 - nI o), .int a, .int b] [] n J L R Q = Q (some (.int (jn o a b))) n J L R := by
  have h4 : o = 0 ∨ o = 1 ∨ o = 2 ∨ o = 3 := by omega
  unfold jn
  rcases h4 with rfl | rfl | rfl | rfl
  · rw [show (-10 - nI 0 : Int32) = -10 from by decide]
    simp (config := { decide := true }) only [↓reduceIte, KV_i, KV_v, wsm_0, wsm_i, wsm_l, wsm_r, dlV_i, dlV_r, dlV_l, dlV_j, cat_i, cat_l, cat_r, rf_s, true_and, and_true, and_self, if_true, if_false, ite_true, ite_false, eq_self, true_or, or_true, false_or, or_false, not_true_eq_false, not_false_eq_true, r27_0, r27_28, r27_29, r27_30, r27_31, r27_32, r27_33, r27_34, r27_35, r27_36, r27_37, r27_38, r27_39, r27_40, r27_41, r27_44, r27_45, r27_48, r27_49, r27_50, r27_51, r27_1]
  · rw [show (-10 - nI 1 : Int32) = -11 from by decide]
    simp (config := { decide := true }) only [↓reduceIte, KV_i, KV_v, wsm_0, wsm_i, wsm_l, wsm_r, dlV_i, dlV_r, dlV_l, dlV_j, cat_i, cat_l, cat_r, rf_s, true_and, and_true, and_self, if_true, if_false, ite_true, ite_false, eq_self, true_or, or_true, false_or, or_false, not_true_eq_false, not_false_eq_true, r27_0, r27_28, r27_29, r27_30, r27_31, r27_32, r27_33, r27_34, r27_35, r27_36, r27_37, r27_38, r27_39, r27_40, r27_41, r27_44, r27_45, r27_48, r27_49, r27_50, r27_51, r27_1]
  · rw [show (-10 - nI 2 : Int32) = -12 from by decide]
    simp (config := { decide := true }) only [↓reduceIte, KV_i, KV_v, wsm_0, wsm_i, wsm_l, wsm_r, dlV_i, dlV_r, dlV_l, dlV_j, cat_i, cat_l, cat_r, rf_s, true_and, and_true, and_self, if_true, if_false, ite_true, ite_false, eq_self, true_or, or_true, false_or, or_false, not_true_eq_false, not_false_eq_true, r27_0, r27_28, r27_29, r27_30, r27_31, r27_32, r27_33, r27_34, r27_35, r27_36, r27_37, r27_38, r27_39, r27_40, r27_41, r27_44, r27_45, r27_48, r27_49, r27_50, r27_51, r27_1]
  · have hb2 : (b = 0) = False := eq_false (fun x => hb ⟨rfl, x⟩)
    rw [show (-10 - nI 3 : Int32) = -13 from by decide]
    simp (config := { decide := true }) only [↓reduceIte, KV_i, KV_v, wsm_0, wsm_i, wsm_l, wsm_r, dlV_i, dlV_r, dlV_l, dlV_j, cat_i, cat_l, cat_r, rf_s, true_and, and_true, and_self, if_true, if_false, ite_true, ite_false, eq_self, true_or, or_true, false_or, or_false, not_true_eq_false, not_false_eq_true, r27_0, r27_28, r27_29, r27_30, r27_31, r27_32, r27_33, r27_34, r27_35, r27_36, r27_37, r27_38, r27_39, r27_40, r27_41, r27_44, r27_45, r27_48, r27_49, r27_50, r27_51, r27_1, hb2]
/-- the loop of value(), over the marks of an E -/
theorem lc_code {t v len b : Nat} {u : Option Nat} {J : AI} {L : AL} {Q : PQ} {k : Int32} {vf : Nat → Int32} (ht : t = 32 ∨ t = 51) (hlen : J (t + 14) 4 = nI len) (hl8 : len ≤ 408) (hb : b ≤ 1) (hvf : ∀ j, j < 9 → J (t + 16) j = vf j) : ∀ (c : Cd) (st : List Int32) (S : Nat → Int32) (p i m : Nat) (X5 X6 X7 : Value), (∀ j, j < c.length → J (t + 15) (p + j) = mkC (c.getD j (.inl 0))) → (∀ x ∈ c, okO x) → p + c.length < len → i ≤ p → hg c st.length = some m → st.length ≤ 15 → STK b S st →
    (∀ S', ev vf c st = none → Q (some (.int 0)) 123 (upr J (t + 17) S') L (RX v u)) →
    (∀ S' st' i' X5 X6 X7, ev vf c st = some st' → STK b S' st' → (∀ j, j < b → S' j = S j) → i' ≤ p + c.length → V 26 12 [.ref (t + 14), .int k, .int (nI (p + c.length)), .int (nI (b + m)), .int (nI i'), X5, X6, X7] [] 123 (upr J (t + 17) S') L (RX v u) Q) →
    V 26 12 [.ref (t + 14), .int k, .int (nI p), .int (nI (b + st.length)), .int (nI i), X5, X6, X7] [] 123 (upr J (t + 17) S) L (RX v u) Q := by
  intro c
  induction c with
  | nil =>
    intro st S p i m X5 X6 X7 hm hok hp hi hh h15 hS hN hQ
    rw [hg] at hh
    cases hh
    exact hQ S st i X5 X6 X7 (by rw [ev]) hS (fun _ _ => rfl) (by omega)
  | cons x c ih =>
    intro st S p i m X5 X6 X7 hm hok hp hi hh h15 hS hN hQ
    rw [List.length_cons] at hp
    have hm0 := hm 0 (by rw [List.length_cons]; omega)
    rw [Nat.add_zero] at hm0
    have hms : ∀ j, j < c.length → J (t + 15) (p + 1 + j) = mkC (c.getD j (.inl 0)) := fun j hj => by
      have := hm (j + 1) (by rw [List.length_cons]; omega)
      rw [show p + (j + 1) = p + 1 + j by omega] at this
      exact this
    have hoks : ∀ y ∈ c, okO y := fun y hy => hok y (List.mem_cons_of_mem _ hy)
    have hx := hok x (List.mem_cons_self ..)
    have e1 : ((408 : Int32) ≤ nI i) = False := leF (a := 408) (b := i) (by omega) (by omega)
    have e2 := lt0F (a := p) (by omega)
    have e3 : nI len - 1 = nI (len - 1) := pk_sub (b := 1) (by omega)
    have e4 := leF (a := len - 1) (b := p) (by omega) (by omega)
    have x1 := inT (a := p) (N := 408) (by omega) (by decide)
    have x2 := nI_clamp (n := p) (by omega)
    have hlc : p + 1 + c.length = p + (c.length + 1) := by omega
    rw [List.length_cons] at hQ
    rw [r26_12]
    rcases x with n | w | o
    · rw [hg] at hh
      split at hh
      · rename_i h15b
        have hx : n ≤ 9999 := hx
        have hm0 : J (t + 15) p = nI n := hm0
        have y1 : (nI n = -15) = False := eq_false (fun z => by
          have z2 := congrArg Int32.toInt z
          rw [nI_toInt (by omega)] at z2
          have z3 : (-15 : Int32).toInt = -15 := rfl
          omega)
        have y2 : (nI n ≤ -10) = False := eq_false (fun z => by
          rw [fa_le, nI_toInt (by omega)] at z
          have z3 : (-10 : Int32).toInt = -10 := rfl
          omega)
        have y3 := le0T (a := n) (by omega)
        have y4 : (nI (b + st.length) < (16 : Int32)) = True := ltT (b := 16) (by omega) (by decide)
        have y5 := inT (a := b + st.length) (N := 16) (by omega) (by decide)
        have y6 := nI_clamp (n := b + st.length) (by omega)
        have i1 := fun X5 X6 X7 => ih (nI n :: st) (upr S (b + st.length) (nI n)) (p + 1) (i + 1) m X5 X6 X7 hms hoks (by omega) (by omega) hh (by rw [List.length_cons]; omega) (STK_p hS _) (fun S' h => hN S' (by rw [ev]; exact h)) (fun S' st' i' Y5 Y6 Y7 h1 h2 h3 h4 => by
          rw [hlc]
          exact hQ S' st' i' Y5 Y6 Y7 (by rw [ev]; exact h1) h2 (fun j hj => by rw [h3 j hj, upr_n (by omega)]) (by omega))
        rw [List.length_cons] at i1
        rcases ht with rfl | rfl <;> (simp (config := { decide := true }) only [↓reduceIte, KV_i, KV_v, wsm_0, wsm_i, wsm_l, wsm_r, dlV_i, dlV_r, dlV_l, dlV_j, cat_i, cat_l, cat_r, rf_s, true_and, and_true, and_self, if_true, if_false, ite_true, ite_false, eq_self, true_or, or_true, false_or, or_false, not_true_eq_false, not_false_eq_true, vn_0_45, vn_1_45, vn_2_45, vn_3_45, vn_4_45, vn_5_45, vn_6_45, vn_7_45, vn_8_45, vn_36_48, vn_37_48, vn_38_48, vn_39_48, vn_40_48, vn_41_48, vn_42_48, vn_43_48, vn_44_48, vn_0_9, vn_1_9, vn_2_9, vn_3_9, vn_4_9, vn_5_9, vn_6_9, vn_7_9, vn_8_9, vn_0_3, vn_1_3, vn_2_3, vn_0_4, vn_1_4, vn_2_4, vn_3_4, vn_0_64, vn_0_16, vn_0_400, vn_0_6, vn_0_14, Int32.reduceToNatClampNeg, Int32.reduceAdd, Int32.reduceSub, Int32.reduceMul, Int32.reduceLE, Int32.reduceLT, Nat.reduceAdd, nr_2, nr_30, nr_31, rd_2, rd_14, rd_71, rd_72, rd_101, rd_116, rd_121, up2_s, up2_n, upr_s, upr_n, ne_eq, not_false_eq_true, ob_0, ob_1, ob_7, ob_12, ob_17, ob_20, ob_23, ob_32, ob_46, ob_51, ob_65, rx_0_0, rx_0_1, rx_0_2, rx_0_3, rx_0_4, rx_0_5, rx_0_6, rx_0_7, rx_0_8, rx_0_9, rx_0_10, rx_1_0, rx_1_1, rx_1_2, rx_1_3, rx_1_4, rx_7_0, rx_7_1, rx_7_2, rx_7_3, rx_7_4, rx_12_0, rx_12_1, rx_12_2, rx_12_3, rx_17_0, rx_17_1, rx_20_0, rx_20_1, rx_23_0, rx_23_1, rx_23_2, rx_32_0, rx_32_1, rx_32_2, rx_32_3, rx_32_4, rx_32_5, rx_32_6, rx_32_7, rx_32_8, rx_32_9, rx_32_10, rx_32_11, rx_32_12, rx_32_13, rx_46_0, rx_46_1, rx_46_2, rx_46_3, rx_51_0, rx_51_1, rx_51_2, rx_51_3, rx_51_4, rx_51_5, rx_51_6, rx_51_7, rx_51_8, rx_51_9, rx_51_10, rx_51_11, rx_51_12, rx_51_13, rx_65_0, rx_65_1, rx_65_2, rx_65_3, rx_0_11, rx_0_12, rx_7_7, r26_0, r26_1, r26_4, r26_5, r26_6, r26_7, r26_8, r26_9, r26_10, r26_14, r26_17, r26_20, r26_21, r26_24, r26_25, r26_26, r26_29, r26_30, r26_31, r26_34, r26_35, r26_38, r26_39, r26_40, r26_42, r26_45, r26_46, r26_49, r26_50, r26_51, r26_53, r26_56, r26_58, r26_60, r26_63, r26_64, r26_66, r26_69, r26_70, r26_71, r26_72, r26_75, r26_76, r26_78, r26_81, r26_82, r26_85, r26_86, r26_88, r26_89, r26_90, r26_93, r26_95, r26_96, r26_99, r26_102, r26_103, r26_104, r26_107, r26_108, r26_109, r26_110, r26_113, r26_114, r26_115, r26_116, r26_117, r26_119, r26_120, r26_123, r26_124, r26_125, r26_126, r26_127, r26_129, r26_131, r26_133, r26_136, r26_139, r26_141, r26_143, r26_146, r26_147, r26_148, r26_149, r26_152, r26_153, r26_156, r26_157, r26_158, r26_159, r26_162, r26_164, r26_166, r26_169, r26_171, r26_174, r26_175, r26_176, r26_179, r26_180, r26_183, r26_184, r26_185, r26_186, r26_188, r26_190, r26_192, r26_195, r26_196, r26_199, r26_202, r26_203, r26_206, r26_207, r26_210, r26_211, r26_212, r26_213, r26_214, r26_217, r26_218, tg_47, ln_47, tg_48, ln_48, tg_49, ln_49, tg_66, ln_66, tg_67, ln_67, tg_68, ln_68, e1, e2, e3, e4, hlen, x1, x2, hm0, y1, y2, y3, y4, y5, y6, ua2, nI_1]; exact i1 _ _ _)
      · cases hh
    · rw [hg] at hh
      split at hh
      · rename_i h15b
        have hx : w < 9 := hx
        have hm0 : J (t + 15) p = -1 - nI w := hm0
        obtain ⟨y2, y3, y7, y1⟩ := mkv w hx
        have y4 : (nI (b + st.length) < (16 : Int32)) = True := ltT (b := 16) (by omega) (by decide)
        have y5 := inT (a := b + st.length) (N := 16) (by omega) (by decide)
        have y6 := nI_clamp (n := b + st.length) (by omega)
        have y8 := inT (a := w) (N := 9) hx (by decide)
        have y9 := nI_clamp (n := w) (by omega)
        have hv := hvf w hx
        have i1 := fun X5 X6 X7 => ih (vf w :: st) (upr S (b + st.length) (vf w)) (p + 1) (i + 1) m X5 X6 X7 hms hoks (by omega) (by omega) hh (by rw [List.length_cons]; omega) (STK_p hS _) (fun S' h => hN S' (by rw [ev]; exact h)) (fun S' st' i' Y5 Y6 Y7 h1 h2 h3 h4 => by
          rw [hlc]
          exact hQ S' st' i' Y5 Y6 Y7 (by rw [ev]; exact h1) h2 (fun j hj => by rw [h3 j hj, upr_n (by omega)]) (by omega))
        rw [List.length_cons] at i1
        rcases ht with rfl | rfl <;> (simp (config := { decide := true }) only [↓reduceIte, KV_i, KV_v, wsm_0, wsm_i, wsm_l, wsm_r, dlV_i, dlV_r, dlV_l, dlV_j, cat_i, cat_l, cat_r, rf_s, true_and, and_true, and_self, if_true, if_false, ite_true, ite_false, eq_self, true_or, or_true, false_or, or_false, not_true_eq_false, not_false_eq_true, vn_0_45, vn_1_45, vn_2_45, vn_3_45, vn_4_45, vn_5_45, vn_6_45, vn_7_45, vn_8_45, vn_36_48, vn_37_48, vn_38_48, vn_39_48, vn_40_48, vn_41_48, vn_42_48, vn_43_48, vn_44_48, vn_0_9, vn_1_9, vn_2_9, vn_3_9, vn_4_9, vn_5_9, vn_6_9, vn_7_9, vn_8_9, vn_0_3, vn_1_3, vn_2_3, vn_0_4, vn_1_4, vn_2_4, vn_3_4, vn_0_64, vn_0_16, vn_0_400, vn_0_6, vn_0_14, Int32.reduceToNatClampNeg, Int32.reduceAdd, Int32.reduceSub, Int32.reduceMul, Int32.reduceLE, Int32.reduceLT, Nat.reduceAdd, nr_2, nr_30, nr_31, rd_2, rd_14, rd_71, rd_72, rd_101, rd_116, rd_121, up2_s, up2_n, upr_s, upr_n, ne_eq, not_false_eq_true, ob_0, ob_1, ob_7, ob_12, ob_17, ob_20, ob_23, ob_32, ob_46, ob_51, ob_65, rx_0_0, rx_0_1, rx_0_2, rx_0_3, rx_0_4, rx_0_5, rx_0_6, rx_0_7, rx_0_8, rx_0_9, rx_0_10, rx_1_0, rx_1_1, rx_1_2, rx_1_3, rx_1_4, rx_7_0, rx_7_1, rx_7_2, rx_7_3, rx_7_4, rx_12_0, rx_12_1, rx_12_2, rx_12_3, rx_17_0, rx_17_1, rx_20_0, rx_20_1, rx_23_0, rx_23_1, rx_23_2, rx_32_0, rx_32_1, rx_32_2, rx_32_3, rx_32_4, rx_32_5, rx_32_6, rx_32_7, rx_32_8, rx_32_9, rx_32_10, rx_32_11, rx_32_12, rx_32_13, rx_46_0, rx_46_1, rx_46_2, rx_46_3, rx_51_0, rx_51_1, rx_51_2, rx_51_3, rx_51_4, rx_51_5, rx_51_6, rx_51_7, rx_51_8, rx_51_9, rx_51_10, rx_51_11, rx_51_12, rx_51_13, rx_65_0, rx_65_1, rx_65_2, rx_65_3, rx_0_11, rx_0_12, rx_7_7, r26_0, r26_1, r26_4, r26_5, r26_6, r26_7, r26_8, r26_9, r26_10, r26_14, r26_17, r26_20, r26_21, r26_24, r26_25, r26_26, r26_29, r26_30, r26_31, r26_34, r26_35, r26_38, r26_39, r26_40, r26_42, r26_45, r26_46, r26_49, r26_50, r26_51, r26_53, r26_56, r26_58, r26_60, r26_63, r26_64, r26_66, r26_69, r26_70, r26_71, r26_72, r26_75, r26_76, r26_78, r26_81, r26_82, r26_85, r26_86, r26_88, r26_89, r26_90, r26_93, r26_95, r26_96, r26_99, r26_102, r26_103, r26_104, r26_107, r26_108, r26_109, r26_110, r26_113, r26_114, r26_115, r26_116, r26_117, r26_119, r26_120, r26_123, r26_124, r26_125, r26_126, r26_127, r26_129, r26_131, r26_133, r26_136, r26_139, r26_141, r26_143, r26_146, r26_147, r26_148, r26_149, r26_152, r26_153, r26_156, r26_157, r26_158, r26_159, r26_162, r26_164, r26_166, r26_169, r26_171, r26_174, r26_175, r26_176, r26_179, r26_180, r26_183, r26_184, r26_185, r26_186, r26_188, r26_190, r26_192, r26_195, r26_196, r26_199, r26_202, r26_203, r26_206, r26_207, r26_210, r26_211, r26_212, r26_213, r26_214, r26_217, r26_218, tg_47, ln_47, tg_48, ln_48, tg_49, ln_49, tg_66, ln_66, tg_67, ln_67, tg_68, ln_68, e1, e2, e3, e4, hlen, x1, x2, hm0, y1, y2, y3, y4, y5, y6, y7, y8, y9, hv, ua2, nI_1]; exact i1 _ _ _)
      · cases hh
    · rw [hg] at hh
      split at hh
      · rename_i h2b
        rcases st with _ | ⟨y, _ | ⟨z, st⟩⟩
        · exact absurd h2b (by decide)
        · exact absurd h2b (by simp)
        · rw [List.length_cons, List.length_cons] at hh h15
          have hx : o < 4 := hx
          have hm0 : J (t + 15) p = -10 - nI o := hm0
          obtain ⟨y2, y1, y3⟩ := mko o hx
          obtain ⟨s1, s0⟩ := STK_2 hS
          have eh : b + (y :: z :: st).length = b + st.length + 2 := by rw [List.length_cons, List.length_cons]; omega
          rw [eh]
          have y4 : ((2 : Int32) ≤ nI (b + st.length + 2)) = True := leT (a := 2) (by omega) (by omega)
          have y5 : nI (b + st.length + 2) - 2 = nI (b + st.length) := by have := pk_sub (a := b + st.length + 2) (b := 2) (by omega); rw [show b + st.length + 2 - 2 = b + st.length by omega] at this; exact this
          have y6 : nI (b + st.length + 2) - 1 = nI (b + st.length + 1) := nI_pred _
          have y7 : nI (b + st.length + 2) + (-1) = nI (b + st.length + 1) := pk_m1 _
          have y8 : nI (b + st.length + 1) - 1 = nI (b + st.length) := nI_pred _
          have z1 := inT (a := b + st.length) (N := 16) (by omega) (by decide)
          have z2 := nI_clamp (n := b + st.length) (by omega)
          have z3 := inT (a := b + st.length + 1) (N := 16) (by omega) (by decide)
          have z4 := nI_clamp (n := b + st.length + 1) (by omega)
          by_cases q : o = 3 ∧ y = 0
          · obtain ⟨rfl, rfl⟩ := q
            have hz := hN S (by rw [ev, if_pos ⟨rfl, rfl⟩])
            have hm0 : J (t + 15) p = -13 := hm0
            rcases ht with rfl | rfl <;> (simp (config := { decide := true }) only [↓reduceIte, KV_i, KV_v, wsm_0, wsm_i, wsm_l, wsm_r, dlV_i, dlV_r, dlV_l, dlV_j, cat_i, cat_l, cat_r, rf_s, true_and, and_true, and_self, if_true, if_false, ite_true, ite_false, eq_self, true_or, or_true, false_or, or_false, not_true_eq_false, not_false_eq_true, vn_0_45, vn_1_45, vn_2_45, vn_3_45, vn_4_45, vn_5_45, vn_6_45, vn_7_45, vn_8_45, vn_36_48, vn_37_48, vn_38_48, vn_39_48, vn_40_48, vn_41_48, vn_42_48, vn_43_48, vn_44_48, vn_0_9, vn_1_9, vn_2_9, vn_3_9, vn_4_9, vn_5_9, vn_6_9, vn_7_9, vn_8_9, vn_0_3, vn_1_3, vn_2_3, vn_0_4, vn_1_4, vn_2_4, vn_3_4, vn_0_64, vn_0_16, vn_0_400, vn_0_6, vn_0_14, Int32.reduceToNatClampNeg, Int32.reduceAdd, Int32.reduceSub, Int32.reduceMul, Int32.reduceLE, Int32.reduceLT, Nat.reduceAdd, nr_2, nr_30, nr_31, rd_2, rd_14, rd_71, rd_72, rd_101, rd_116, rd_121, up2_s, up2_n, upr_s, upr_n, ne_eq, not_false_eq_true, ob_0, ob_1, ob_7, ob_12, ob_17, ob_20, ob_23, ob_32, ob_46, ob_51, ob_65, rx_0_0, rx_0_1, rx_0_2, rx_0_3, rx_0_4, rx_0_5, rx_0_6, rx_0_7, rx_0_8, rx_0_9, rx_0_10, rx_1_0, rx_1_1, rx_1_2, rx_1_3, rx_1_4, rx_7_0, rx_7_1, rx_7_2, rx_7_3, rx_7_4, rx_12_0, rx_12_1, rx_12_2, rx_12_3, rx_17_0, rx_17_1, rx_20_0, rx_20_1, rx_23_0, rx_23_1, rx_23_2, rx_32_0, rx_32_1, rx_32_2, rx_32_3, rx_32_4, rx_32_5, rx_32_6, rx_32_7, rx_32_8, rx_32_9, rx_32_10, rx_32_11, rx_32_12, rx_32_13, rx_46_0, rx_46_1, rx_46_2, rx_46_3, rx_51_0, rx_51_1, rx_51_2, rx_51_3, rx_51_4, rx_51_5, rx_51_6, rx_51_7, rx_51_8, rx_51_9, rx_51_10, rx_51_11, rx_51_12, rx_51_13, rx_65_0, rx_65_1, rx_65_2, rx_65_3, rx_0_11, rx_0_12, rx_7_7, r26_0, r26_1, r26_4, r26_5, r26_6, r26_7, r26_8, r26_9, r26_10, r26_14, r26_17, r26_20, r26_21, r26_24, r26_25, r26_26, r26_29, r26_30, r26_31, r26_34, r26_35, r26_38, r26_39, r26_40, r26_42, r26_45, r26_46, r26_49, r26_50, r26_51, r26_53, r26_56, r26_58, r26_60, r26_63, r26_64, r26_66, r26_69, r26_70, r26_71, r26_72, r26_75, r26_76, r26_78, r26_81, r26_82, r26_85, r26_86, r26_88, r26_89, r26_90, r26_93, r26_95, r26_96, r26_99, r26_102, r26_103, r26_104, r26_107, r26_108, r26_109, r26_110, r26_113, r26_114, r26_115, r26_116, r26_117, r26_119, r26_120, r26_123, r26_124, r26_125, r26_126, r26_127, r26_129, r26_131, r26_133, r26_136, r26_139, r26_141, r26_143, r26_146, r26_147, r26_148, r26_149, r26_152, r26_153, r26_156, r26_157, r26_158, r26_159, r26_162, r26_164, r26_166, r26_169, r26_171, r26_174, r26_175, r26_176, r26_179, r26_180, r26_183, r26_184, r26_185, r26_186, r26_188, r26_190, r26_192, r26_195, r26_196, r26_199, r26_202, r26_203, r26_206, r26_207, r26_210, r26_211, r26_212, r26_213, r26_214, r26_217, r26_218, tg_47, ln_47, tg_48, ln_48, tg_49, ln_49, tg_66, ln_66, tg_67, ln_67, tg_68, ln_68, e1, e2, e3, e4, hlen, x1, x2, hm0, y4, y5, y6, z1, z2, z3, z4, s0, s1]; exact hz)
          · have i1 := fun X5 X6 X7 => ih (jn o z y :: st) (upr S (b + st.length) (jn o z y)) (p + 1) (i + 1) m X5 X6 X7 hms hoks (by omega) (by omega) (by rw [List.length_cons]; exact hh) (by rw [List.length_cons]; omega) (STK_o hS) (fun S' h => hN S' (by rw [ev, if_neg q]; exact h)) (fun S' st' i' Y5 Y6 Y7 h1 h2 h3 h4 => by
              rw [hlc]
              exact hQ S' st' i' Y5 Y6 Y7 (by rw [ev, if_neg q]; exact h1) h2 (fun j hj => by rw [h3 j hj, upr_n (by omega)]) (by omega))
            rw [List.length_cons] at i1
            by_cases q3 : o = 3
            · subst q3
              have q4 : (y = 0) = False := eq_false (fun z => q ⟨rfl, z⟩)
              have hm1 : J (t + 15) p = -13 := hm0
              have jj := fun Q2 J2 => c_joined (n := 123) (L := L) (R := RX v u) (Q := Q2) (J := J2) (a := z) (b := y) hx q
              rw [show (-10 - nI 3 : Int32) = -13 from by decide] at jj
              rcases ht with rfl | rfl <;> (simp (config := { decide := true }) only [↓reduceIte, KV_i, KV_v, wsm_0, wsm_i, wsm_l, wsm_r, dlV_i, dlV_r, dlV_l, dlV_j, cat_i, cat_l, cat_r, rf_s, true_and, and_true, and_self, if_true, if_false, ite_true, ite_false, eq_self, true_or, or_true, false_or, or_false, not_true_eq_false, not_false_eq_true, vn_0_45, vn_1_45, vn_2_45, vn_3_45, vn_4_45, vn_5_45, vn_6_45, vn_7_45, vn_8_45, vn_36_48, vn_37_48, vn_38_48, vn_39_48, vn_40_48, vn_41_48, vn_42_48, vn_43_48, vn_44_48, vn_0_9, vn_1_9, vn_2_9, vn_3_9, vn_4_9, vn_5_9, vn_6_9, vn_7_9, vn_8_9, vn_0_3, vn_1_3, vn_2_3, vn_0_4, vn_1_4, vn_2_4, vn_3_4, vn_0_64, vn_0_16, vn_0_400, vn_0_6, vn_0_14, Int32.reduceToNatClampNeg, Int32.reduceAdd, Int32.reduceSub, Int32.reduceMul, Int32.reduceLE, Int32.reduceLT, Nat.reduceAdd, nr_2, nr_30, nr_31, rd_2, rd_14, rd_71, rd_72, rd_101, rd_116, rd_121, up2_s, up2_n, upr_s, upr_n, ne_eq, not_false_eq_true, ob_0, ob_1, ob_7, ob_12, ob_17, ob_20, ob_23, ob_32, ob_46, ob_51, ob_65, rx_0_0, rx_0_1, rx_0_2, rx_0_3, rx_0_4, rx_0_5, rx_0_6, rx_0_7, rx_0_8, rx_0_9, rx_0_10, rx_1_0, rx_1_1, rx_1_2, rx_1_3, rx_1_4, rx_7_0, rx_7_1, rx_7_2, rx_7_3, rx_7_4, rx_12_0, rx_12_1, rx_12_2, rx_12_3, rx_17_0, rx_17_1, rx_20_0, rx_20_1, rx_23_0, rx_23_1, rx_23_2, rx_32_0, rx_32_1, rx_32_2, rx_32_3, rx_32_4, rx_32_5, rx_32_6, rx_32_7, rx_32_8, rx_32_9, rx_32_10, rx_32_11, rx_32_12, rx_32_13, rx_46_0, rx_46_1, rx_46_2, rx_46_3, rx_51_0, rx_51_1, rx_51_2, rx_51_3, rx_51_4, rx_51_5, rx_51_6, rx_51_7, rx_51_8, rx_51_9, rx_51_10, rx_51_11, rx_51_12, rx_51_13, rx_65_0, rx_65_1, rx_65_2, rx_65_3, rx_0_11, rx_0_12, rx_7_7, r26_0, r26_1, r26_4, r26_5, r26_6, r26_7, r26_8, r26_9, r26_10, r26_14, r26_17, r26_20, r26_21, r26_24, r26_25, r26_26, r26_29, r26_30, r26_31, r26_34, r26_35, r26_38, r26_39, r26_40, r26_42, r26_45, r26_46, r26_49, r26_50, r26_51, r26_53, r26_56, r26_58, r26_60, r26_63, r26_64, r26_66, r26_69, r26_70, r26_71, r26_72, r26_75, r26_76, r26_78, r26_81, r26_82, r26_85, r26_86, r26_88, r26_89, r26_90, r26_93, r26_95, r26_96, r26_99, r26_102, r26_103, r26_104, r26_107, r26_108, r26_109, r26_110, r26_113, r26_114, r26_115, r26_116, r26_117, r26_119, r26_120, r26_123, r26_124, r26_125, r26_126, r26_127, r26_129, r26_131, r26_133, r26_136, r26_139, r26_141, r26_143, r26_146, r26_147, r26_148, r26_149, r26_152, r26_153, r26_156, r26_157, r26_158, r26_159, r26_162, r26_164, r26_166, r26_169, r26_171, r26_174, r26_175, r26_176, r26_179, r26_180, r26_183, r26_184, r26_185, r26_186, r26_188, r26_190, r26_192, r26_195, r26_196, r26_199, r26_202, r26_203, r26_206, r26_207, r26_210, r26_211, r26_212, r26_213, r26_214, r26_217, r26_218, tg_47, ln_47, tg_48, ln_48, tg_49, ln_49, tg_66, ln_66, tg_67, ln_67, tg_68, ln_68, e1, e2, e3, e4, hlen, x1, x2, hm1, y4, y5, y6, y7, y8, z1, z2, z3, z4, s0, s1, q4, jj, ua2, nI_1]; exact i1 _ _ _)
            · have q4 : ((-10 - nI o : Int32) = -13) = False := eq_false (by
                have : o = 0 ∨ o = 1 ∨ o = 2 := by omega
                rcases this with rfl | rfl | rfl <;> decide)
              rcases ht with rfl | rfl <;> (simp (config := { decide := true }) only [↓reduceIte, KV_i, KV_v, wsm_0, wsm_i, wsm_l, wsm_r, dlV_i, dlV_r, dlV_l, dlV_j, cat_i, cat_l, cat_r, rf_s, true_and, and_true, and_self, if_true, if_false, ite_true, ite_false, eq_self, true_or, or_true, false_or, or_false, not_true_eq_false, not_false_eq_true, vn_0_45, vn_1_45, vn_2_45, vn_3_45, vn_4_45, vn_5_45, vn_6_45, vn_7_45, vn_8_45, vn_36_48, vn_37_48, vn_38_48, vn_39_48, vn_40_48, vn_41_48, vn_42_48, vn_43_48, vn_44_48, vn_0_9, vn_1_9, vn_2_9, vn_3_9, vn_4_9, vn_5_9, vn_6_9, vn_7_9, vn_8_9, vn_0_3, vn_1_3, vn_2_3, vn_0_4, vn_1_4, vn_2_4, vn_3_4, vn_0_64, vn_0_16, vn_0_400, vn_0_6, vn_0_14, Int32.reduceToNatClampNeg, Int32.reduceAdd, Int32.reduceSub, Int32.reduceMul, Int32.reduceLE, Int32.reduceLT, Nat.reduceAdd, nr_2, nr_30, nr_31, rd_2, rd_14, rd_71, rd_72, rd_101, rd_116, rd_121, up2_s, up2_n, upr_s, upr_n, ne_eq, not_false_eq_true, ob_0, ob_1, ob_7, ob_12, ob_17, ob_20, ob_23, ob_32, ob_46, ob_51, ob_65, rx_0_0, rx_0_1, rx_0_2, rx_0_3, rx_0_4, rx_0_5, rx_0_6, rx_0_7, rx_0_8, rx_0_9, rx_0_10, rx_1_0, rx_1_1, rx_1_2, rx_1_3, rx_1_4, rx_7_0, rx_7_1, rx_7_2, rx_7_3, rx_7_4, rx_12_0, rx_12_1, rx_12_2, rx_12_3, rx_17_0, rx_17_1, rx_20_0, rx_20_1, rx_23_0, rx_23_1, rx_23_2, rx_32_0, rx_32_1, rx_32_2, rx_32_3, rx_32_4, rx_32_5, rx_32_6, rx_32_7, rx_32_8, rx_32_9, rx_32_10, rx_32_11, rx_32_12, rx_32_13, rx_46_0, rx_46_1, rx_46_2, rx_46_3, rx_51_0, rx_51_1, rx_51_2, rx_51_3, rx_51_4, rx_51_5, rx_51_6, rx_51_7, rx_51_8, rx_51_9, rx_51_10, rx_51_11, rx_51_12, rx_51_13, rx_65_0, rx_65_1, rx_65_2, rx_65_3, rx_0_11, rx_0_12, rx_7_7, r26_0, r26_1, r26_4, r26_5, r26_6, r26_7, r26_8, r26_9, r26_10, r26_14, r26_17, r26_20, r26_21, r26_24, r26_25, r26_26, r26_29, r26_30, r26_31, r26_34, r26_35, r26_38, r26_39, r26_40, r26_42, r26_45, r26_46, r26_49, r26_50, r26_51, r26_53, r26_56, r26_58, r26_60, r26_63, r26_64, r26_66, r26_69, r26_70, r26_71, r26_72, r26_75, r26_76, r26_78, r26_81, r26_82, r26_85, r26_86, r26_88, r26_89, r26_90, r26_93, r26_95, r26_96, r26_99, r26_102, r26_103, r26_104, r26_107, r26_108, r26_109, r26_110, r26_113, r26_114, r26_115, r26_116, r26_117, r26_119, r26_120, r26_123, r26_124, r26_125, r26_126, r26_127, r26_129, r26_131, r26_133, r26_136, r26_139, r26_141, r26_143, r26_146, r26_147, r26_148, r26_149, r26_152, r26_153, r26_156, r26_157, r26_158, r26_159, r26_162, r26_164, r26_166, r26_169, r26_171, r26_174, r26_175, r26_176, r26_179, r26_180, r26_183, r26_184, r26_185, r26_186, r26_188, r26_190, r26_192, r26_195, r26_196, r26_199, r26_202, r26_203, r26_206, r26_207, r26_210, r26_211, r26_212, r26_213, r26_214, r26_217, r26_218, tg_47, ln_47, tg_48, ln_48, tg_49, ln_49, tg_66, ln_66, tg_67, ln_67, tg_68, ln_68, e1, e2, e3, e4, hlen, x1, x2, hm0, y1, y2, y3, y4, y5, y6, y7, y8, z1, z2, z3, z4, s0, s1, q4, c_joined hx q, ua2, nI_1]; exact i1 _ _ _)
      · cases hh
