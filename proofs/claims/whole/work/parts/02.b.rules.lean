/-! what the small machine comes to: V, a rewriting of it for each instruction -/
abbrev PQ : Type := Option Value → Nat → AI → AL → AR → Prop
def V (y pc : Nat) (ls st : List Value) (n : Nat) (I : AI) (L : AL) (R : AR) (Q : PQ) : Prop := ∃ (f : Nat) (r : Option Value) (n1 : Nat) (I1 : AI) (L1 : AL) (R1 : AR), exec f y pc ls st n I L R = some (r, n1, I1, L1, R1) ∧ Q r n1 I1 L1 R1
theorem ifP_t {c : Prop} {a : Option XR} (h : c) : ifP c a = a := by unfold ifP; rw [if_pos h]
theorem ifP_f {c : Prop} {a : Option XR} (h : ¬ c) : ifP c a = none := by unfold ifP; rw [if_neg h]
theorem ifP_s {c : Prop} {a : Option XR} {z : XR} (h : ifP c a = some z) : c ∧ a = some z := by
  by_cases hc : c
  · rw [ifP_t hc] at h; exact ⟨hc, h⟩
  · rw [ifP_f hc] at h; cases h
theorem exec_up : ∀ (f y pc : Nat) (ls st : List Value) (n : Nat) (I : AI) (L : AL) (R : AR) (z : Option Value × Nat × AI × AL × AR), exec f y pc ls st n I L R = some z → exec (f + 1) y pc ls st n I L R = some z := by
  intro f
  induction f with
  | zero => intro y pc ls st n I L R z h; simp [exec] at h
  | succ f ih =>
    intro y pc ls st n I L R z h
    rw [exec] at h ⊢
    split at h
    · exact ih _ _ _ _ _ _ _ _ _ h
    · exact h
    · rename_i z2 as rest e
      split at h
      · rename_i r n1 I1 L1 R1 e2
        rw [ih _ _ _ _ _ _ _ _ _ e2]
        exact ih _ _ _ _ _ _ _ _ _ h
      · cases h
    · cases h
theorem exec_le {f g y pc : Nat} {ls st : List Value} {n : Nat} {I : AI} {L : AL} {R : AR} {z : Option Value × Nat × AI × AL × AR} (hfg : f ≤ g) (h : exec f y pc ls st n I L R = some z) : exec g y pc ls st n I L R = some z := by
  obtain ⟨d, rfl⟩ := Nat.le.dest hfg
  induction d with
  | zero => exact h
  | succ d ih => exact exec_up _ _ _ _ _ _ _ _ _ _ (ih (Nat.le_add_right f d))
section VV
variable {y pc : Nat} {ls st : List Value} {n : Nat} {I : AI} {L : AL} {R : AR} {Q : PQ}
theorem V_nx {pc' : Nat} {ls' st' : List Value} {n' : Nat} {I' : AI} {L' : AL} {R' : AR} (h : x0 y pc ls st n I L R = nxX pc' ls' st' n' I' L' R') : V y pc ls st n I L R Q = V y pc' ls' st' n' I' L' R' Q := by
  refine propext ⟨?_, ?_⟩
  · rintro ⟨f, r, n1, I1, L1, R1, e, q⟩
    cases f with
    | zero => simp [exec] at e
    | succ f => rw [exec, h] at e; exact ⟨f, r, n1, I1, L1, R1, e, q⟩
  · rintro ⟨f, r, n1, I1, L1, R1, e, q⟩
    exact ⟨f + 1, r, n1, I1, L1, R1, by rw [exec, h]; exact e, q⟩
theorem V_ret {r : Option Value} (h : x0 y pc ls st n I L R = some (.inr (.inl r))) : V y pc ls st n I L R Q = Q r n I L R := by
  refine propext ⟨?_, fun q => ⟨1, r, n, I, L, R, by rw [exec, h], q⟩⟩
  rintro ⟨f, r, n1, I1, L1, R1, e, q⟩
  cases f with
  | zero => simp [exec] at e
  | succ f => rw [exec, h] at e; cases e; exact q
theorem V_no (h : x0 y pc ls st n I L R = none) : V y pc ls st n I L R Q = False := by
  refine propext ⟨?_, False.elim⟩
  rintro ⟨f, r, n1, I1, L1, R1, e, q⟩
  cases f with
  | zero => simp [exec] at e
  | succ f => rw [exec, h] at e; cases e
theorem V_cl {z : Nat} {as rest : List Value} (h : x0 y pc ls st n I L R = some (.inr (.inr (z, as, rest)))) : V y pc ls st n I L R Q = V z 0 (enV (mlM z) as) [] n I L R (fun r n1 I1 L1 R1 => V y (pc + 3) ls (r.toList ++ rest) n1 I1 L1 R1 Q) := by
  refine propext ⟨?_, ?_⟩
  · rintro ⟨f, r, n1, I1, L1, R1, e, q⟩
    cases f with
    | zero => simp [exec] at e
    | succ f =>
      rw [exec, h] at e
      dsimp only at e
      split at e
      · rename_i r2 n2 I2 L2 R2 e2
        exact ⟨f, r2, n2, I2, L2, R2, e2, f, r, n1, I1, L1, R1, e, q⟩
      · cases e
  · rintro ⟨f, r, n1, I1, L1, R1, e, g, r2, n2, I2, L2, R2, e2, q⟩
    refine ⟨max f g + 1, r2, n2, I2, L2, R2, ?_, q⟩
    rw [exec, h]
    dsimp only
    rw [exec_le (Nat.le_max_left f g) e]
    exact exec_le (Nat.le_max_right f g) e2
theorem V_if {c : Prop} {a : Option XR} {X : Prop} (h : x0 y pc ls st n I L R = ifP c a) (hx : x0 y pc ls st n I L R = a → V y pc ls st n I L R Q = X) : V y pc ls st n I L R Q = (c ∧ X) := by
  by_cases hc : c
  · rw [hx (by rw [h, ifP_t hc])]; exact propext ⟨fun q => ⟨hc, q⟩, fun q => q.2⟩
  · rw [V_no (by rw [h, ifP_f hc])]; exact propext ⟨False.elim, fun q => hc q.1⟩
theorem V_mono {Q' : PQ} (h : V y pc ls st n I L R Q) (hq : ∀ r n1 I1 L1 R1, Q r n1 I1 L1 R1 → Q' r n1 I1 L1 R1) : V y pc ls st n I L R Q' := by
  obtain ⟨f, r, n1, I1, L1, R1, e, q⟩ := h
  exact ⟨f, r, n1, I1, L1, R1, e, hq _ _ _ _ _ q⟩
variable {cc : ByteArray} {len pc' : Nat}
theorem x0_of {i : Instr} (hc : cdM y = cc) (hd : decode cc pc = .ok (i, len)) (hl : len = lnI i len := by rfl) : x0 y pc ls st n I L R = x1 y pc i ls st n I L R := by unfold x0; rw [hc, hd]; exact ifP_t hl
theorem V_bj {b : Prop} [Decidable b] {off : Int} {st' : List Value} {tgt : Nat} (h : x0 y pc ls st n I L R = bjX b pc off ls st' n I L R) (ht : (pc : Int) + off = (tgt : Int)) : V y pc ls st n I L R Q = if b then V y tgt ls st' n I L R Q else V y (pc + 3) ls st' n I L R Q := by
  by_cases hb : b
  · rw [if_pos hb]
    refine V_nx ?_
    rw [h, bjX, ifP_t (by omega), if_pos hb, ht]
    rfl
  · rw [if_neg hb]
    refine V_nx ?_
    rw [h, bjX, ifP_t (by omega), if_neg hb]
theorem V_jp {off : Int} {st' : List Value} {tgt : Nat} (h : x0 y pc ls st n I L R = jpX pc off ls st' n I L R) (ht : (pc : Int) + off = (tgt : Int)) : V y pc ls st n I L R Q = V y tgt ls st' n I L R Q := by
  refine V_nx ?_
  rw [h, jpX, ifP_t (by omega), ht]
  rfl
theorem v_iconst {k : Int} {v : Int32} (hc : cdM y = cc) (hd : decode cc pc = .ok (.iconst k, 1)) (hp : pc + 1 = pc') (hv : Int32.ofInt k = v) : V y pc ls (st) n I L R Q = V y pc' ls (.int v :: st) n I L R Q := by
  subst hp; subst hv
  exact V_nx ((x0_of hc hd).trans rfl)
theorem v_bipush {k : Int} {v : Int32} (hc : cdM y = cc) (hd : decode cc pc = .ok (.bipush k, 2)) (hp : pc + 2 = pc') (hv : (Int8.ofInt k).toInt32 = v) : V y pc ls (st) n I L R Q = V y pc' ls (.int v :: st) n I L R Q := by
  subst hp; subst hv
  exact V_nx ((x0_of hc hd).trans rfl)
theorem v_sipush {k : Int} {v : Int32} (hc : cdM y = cc) (hd : decode cc pc = .ok (.sipush k, 3)) (hp : pc + 3 = pc') (hv : (Int16.ofInt k).toInt32 = v) : V y pc ls (st) n I L R Q = V y pc' ls (.int v :: st) n I L R Q := by
  subst hp; subst hv
  exact V_nx ((x0_of hc hd).trans rfl)
theorem v_lconst {k : Fin 2} {v : Int64} (hc : cdM y = cc) (hd : decode cc pc = .ok (.lconst k, 1)) (hp : pc + 1 = pc') (hv : Int64.ofNat (k : Nat) = v) : V y pc ls (st) n I L R Q = V y pc' ls (.long v :: st) n I L R Q := by
  subst hp; subst hv
  exact V_nx ((x0_of hc hd).trans rfl)
theorem v_iload {k : Nat} {v : Int32} (hc : cdM y = cc) (hd : decode cc pc = .ok (.iload k, 2)) (hp : pc + 2 = pc') (hl : ls[k]? = some (.int v)) : V y pc ls (st) n I L R Q = V y pc' ls (.int v :: st) n I L R Q := by
  subst hp
  exact V_nx ((x0_of hc hd).trans (by unfold x1; (try dsimp only); rw [hl]))
theorem v_iload_n {k : Fin 4} {v : Int32} (hc : cdM y = cc) (hd : decode cc pc = .ok (.iload_n k, 1)) (hp : pc + 1 = pc') (hl : ls[(k : Nat)]? = some (.int v)) : V y pc ls (st) n I L R Q = V y pc' ls (.int v :: st) n I L R Q := by
  subst hp
  exact V_nx ((x0_of hc hd).trans (by unfold x1; (try dsimp only); rw [hl]))
theorem v_lload {k : Nat} {v : Int64} (hc : cdM y = cc) (hd : decode cc pc = .ok (.lload k, 2)) (hp : pc + 2 = pc') (hl : ls[k]? = some (.long v)) : V y pc ls (st) n I L R Q = V y pc' ls (.long v :: st) n I L R Q := by
  subst hp
  exact V_nx ((x0_of hc hd).trans (by unfold x1; (try dsimp only); rw [hl]))
theorem v_lload_n {k : Fin 4} {v : Int64} (hc : cdM y = cc) (hd : decode cc pc = .ok (.lload_n k, 1)) (hp : pc + 1 = pc') (hl : ls[(k : Nat)]? = some (.long v)) : V y pc ls (st) n I L R Q = V y pc' ls (.long v :: st) n I L R Q := by
  subst hp
  exact V_nx ((x0_of hc hd).trans (by unfold x1; (try dsimp only); rw [hl]))
theorem v_aload {k : Nat} {v : Nat} (hc : cdM y = cc) (hd : decode cc pc = .ok (.aload k, 2)) (hp : pc + 2 = pc') (hl : ls[k]? = some (.ref v)) : V y pc ls st n I L R Q = (v < 1006 ∧ V y pc' ls (.ref v :: st) n I L R Q) := by
  subst hp
  exact V_if (a := nxX (pc + 2) ls (.ref v :: st) n I L R) ((x0_of hc hd).trans (by unfold x1; (try dsimp only); rw [hl])) (fun h => V_nx h)
theorem v_istore {k : Nat} {v : Int32} {ls' : List Value} (hc : cdM y = cc) (hd : decode cc pc = .ok (.istore k, 2)) (hp : pc + 2 = pc') (hk : k < ls.length) (hl : lsV ls k (.int v) = ls') : V y pc ls (.int v :: st) n I L R Q = V y pc' ls' st n I L R Q := by
  subst hp; subst hl
  exact V_nx ((x0_of hc hd).trans (by unfold x1; (try dsimp only); exact ifP_t hk))
theorem v_lstore {k : Nat} {v : Int64} {ls' : List Value} (hc : cdM y = cc) (hd : decode cc pc = .ok (.lstore k, 2)) (hp : pc + 2 = pc') (hk : k + 1 < ls.length) (hl : lsL ls k (.long v) = ls') : V y pc ls (.long v :: st) n I L R Q = V y pc' ls' st n I L R Q := by
  subst hp; subst hl
  exact V_nx ((x0_of hc hd).trans (by unfold x1; (try dsimp only); exact ifP_t hk))
theorem v_astore {k : Nat} {v : Nat} {ls' : List Value} (hc : cdM y = cc) (hd : decode cc pc = .ok (.astore k, 2)) (hp : pc + 2 = pc') (hk : k < ls.length) (hl : lsV ls k (.ref v) = ls') : V y pc ls (.ref v :: st) n I L R Q = (v < 1006 ∧ V y pc' ls' st n I L R Q) := by
  subst hp; subst hl
  by_cases hv : v < 1006
  · rw [V_nx ((x0_of hc hd).trans (by unfold x1; (try dsimp only); exact ifP_t ⟨hk, hv⟩))]; exact propext ⟨fun q => ⟨hv, q⟩, fun q => q.2⟩
  · rw [V_no ((x0_of hc hd).trans (by unfold x1; (try dsimp only); exact ifP_f (fun q => hv q.2)))]; exact propext ⟨False.elim, fun q => hv q.1⟩
theorem v_aload_n {k : Fin 4} {v : Nat} (hc : cdM y = cc) (hd : decode cc pc = .ok (.aload_n k, 1)) (hp : pc + 1 = pc') (hl : ls[(k : Nat)]? = some (.ref v)) : V y pc ls st n I L R Q = (v < 1006 ∧ V y pc' ls (.ref v :: st) n I L R Q) := by
  subst hp
  exact V_if (a := nxX (pc + 1) ls (.ref v :: st) n I L R) ((x0_of hc hd).trans (by unfold x1; (try dsimp only); rw [hl])) (fun h => V_nx h)
theorem v_istore_n {k : Fin 4} {v : Int32} {ls' : List Value} (hc : cdM y = cc) (hd : decode cc pc = .ok (.istore_n k, 1)) (hp : pc + 1 = pc') (hk : (k : Nat) < ls.length) (hl : lsV ls (k : Nat) (.int v) = ls') : V y pc ls (.int v :: st) n I L R Q = V y pc' ls' st n I L R Q := by
  subst hp; subst hl
  exact V_nx ((x0_of hc hd).trans (by unfold x1; (try dsimp only); exact ifP_t hk))
theorem v_lstore_n {k : Fin 4} {v : Int64} {ls' : List Value} (hc : cdM y = cc) (hd : decode cc pc = .ok (.lstore_n k, 1)) (hp : pc + 1 = pc') (hk : (k : Nat) + 1 < ls.length) (hl : lsL ls (k : Nat) (.long v) = ls') : V y pc ls (.long v :: st) n I L R Q = V y pc' ls' st n I L R Q := by
  subst hp; subst hl
  exact V_nx ((x0_of hc hd).trans (by unfold x1; (try dsimp only); exact ifP_t hk))
theorem v_astore_n {k : Fin 4} {v : Nat} {ls' : List Value} (hc : cdM y = cc) (hd : decode cc pc = .ok (.astore_n k, 1)) (hp : pc + 1 = pc') (hk : (k : Nat) < ls.length) (hl : lsV ls (k : Nat) (.ref v) = ls') : V y pc ls (.ref v :: st) n I L R Q = (v < 1006 ∧ V y pc' ls' st n I L R Q) := by
  subst hp; subst hl
  by_cases hv : v < 1006
  · rw [V_nx ((x0_of hc hd).trans (by unfold x1; (try dsimp only); exact ifP_t ⟨hk, hv⟩))]; exact propext ⟨fun q => ⟨hv, q⟩, fun q => q.2⟩
  · rw [V_no ((x0_of hc hd).trans (by unfold x1; (try dsimp only); exact ifP_f (fun q => hv q.2)))]; exact propext ⟨False.elim, fun q => hv q.1⟩
theorem v_iinc {k : Nat} {d : Int} {v w : Int32} {ls' : List Value} (hc : cdM y = cc) (hd : decode cc pc = .ok (.iinc k d, 3)) (hp : pc + 3 = pc') (hl : ls[k]? = some (.int v)) (hw : Int32.ofInt d = w) (h2 : lsV ls k (.int (v + w)) = ls') : V y pc ls st n I L R Q = V y pc' ls' st n I L R Q := by
  subst hp; subst h2; subst hw
  exact V_nx ((x0_of hc hd).trans (by unfold x1; (try dsimp only); rw [hl]))
theorem v_iadd {a b : Int32} (hc : cdM y = cc) (hd : decode cc pc = .ok (.iadd, 1)) (hp : pc + 1 = pc') : V y pc ls (.int b :: .int a :: st) n I L R Q = V y pc' ls (.int (a + b) :: st) n I L R Q := by
  subst hp
  exact V_nx ((x0_of hc hd).trans rfl)
theorem v_isub {a b : Int32} (hc : cdM y = cc) (hd : decode cc pc = .ok (.isub, 1)) (hp : pc + 1 = pc') : V y pc ls (.int b :: .int a :: st) n I L R Q = V y pc' ls (.int (a - b) :: st) n I L R Q := by
  subst hp
  exact V_nx ((x0_of hc hd).trans rfl)
theorem v_imul {a b : Int32} (hc : cdM y = cc) (hd : decode cc pc = .ok (.imul, 1)) (hp : pc + 1 = pc') : V y pc ls (.int b :: .int a :: st) n I L R Q = V y pc' ls (.int (a * b) :: st) n I L R Q := by
  subst hp
  exact V_nx ((x0_of hc hd).trans rfl)
theorem v_iand {a b : Int32} (hc : cdM y = cc) (hd : decode cc pc = .ok (.iand, 1)) (hp : pc + 1 = pc') : V y pc ls (.int b :: .int a :: st) n I L R Q = V y pc' ls (.int (a &&& b) :: st) n I L R Q := by
  subst hp
  exact V_nx ((x0_of hc hd).trans rfl)
theorem v_ior {a b : Int32} (hc : cdM y = cc) (hd : decode cc pc = .ok (.ior, 1)) (hp : pc + 1 = pc') : V y pc ls (.int b :: .int a :: st) n I L R Q = V y pc' ls (.int (a ||| b) :: st) n I L R Q := by
  subst hp
  exact V_nx ((x0_of hc hd).trans rfl)
theorem v_ixor {a b : Int32} (hc : cdM y = cc) (hd : decode cc pc = .ok (.ixor, 1)) (hp : pc + 1 = pc') : V y pc ls (.int b :: .int a :: st) n I L R Q = V y pc' ls (.int (a ^^^ b) :: st) n I L R Q := by
  subst hp
  exact V_nx ((x0_of hc hd).trans rfl)
theorem v_ishl {a b : Int32} (hc : cdM y = cc) (hd : decode cc pc = .ok (.ishl, 1)) (hp : pc + 1 = pc') : V y pc ls (.int b :: .int a :: st) n I L R Q = V y pc' ls (.int (a <<< (b &&& 31)) :: st) n I L R Q := by
  subst hp
  exact V_nx ((x0_of hc hd).trans rfl)
theorem v_ishr {a b : Int32} (hc : cdM y = cc) (hd : decode cc pc = .ok (.ishr, 1)) (hp : pc + 1 = pc') : V y pc ls (.int b :: .int a :: st) n I L R Q = V y pc' ls (.int (a >>> (b &&& 31)) :: st) n I L R Q := by
  subst hp
  exact V_nx ((x0_of hc hd).trans rfl)
theorem v_iushr {a b : Int32} (hc : cdM y = cc) (hd : decode cc pc = .ok (.iushr, 1)) (hp : pc + 1 = pc') : V y pc ls (.int b :: .int a :: st) n I L R Q = V y pc' ls (.int ((a.toUInt32 >>> (b.toUInt32 &&& Int32.toUInt32 31)).toInt32) :: st) n I L R Q := by
  subst hp
  exact V_nx ((x0_of hc hd).trans rfl)
theorem v_ladd {a b : Int64} (hc : cdM y = cc) (hd : decode cc pc = .ok (.ladd, 1)) (hp : pc + 1 = pc') : V y pc ls (.long b :: .long a :: st) n I L R Q = V y pc' ls (.long (a + b) :: st) n I L R Q := by
  subst hp
  exact V_nx ((x0_of hc hd).trans rfl)
theorem v_lsub {a b : Int64} (hc : cdM y = cc) (hd : decode cc pc = .ok (.lsub, 1)) (hp : pc + 1 = pc') : V y pc ls (.long b :: .long a :: st) n I L R Q = V y pc' ls (.long (a - b) :: st) n I L R Q := by
  subst hp
  exact V_nx ((x0_of hc hd).trans rfl)
theorem v_lmul {a b : Int64} (hc : cdM y = cc) (hd : decode cc pc = .ok (.lmul, 1)) (hp : pc + 1 = pc') : V y pc ls (.long b :: .long a :: st) n I L R Q = V y pc' ls (.long (a * b) :: st) n I L R Q := by
  subst hp
  exact V_nx ((x0_of hc hd).trans rfl)
theorem v_lcmp {a b : Int64} (hc : cdM y = cc) (hd : decode cc pc = .ok (.lcmp, 1)) (hp : pc + 1 = pc') : V y pc ls (.long b :: .long a :: st) n I L R Q = V y pc' ls (.int (lg_cmp a b) :: st) n I L R Q := by
  subst hp
  exact V_nx ((x0_of hc hd).trans rfl)
theorem v_ineg {a : Int32} (hc : cdM y = cc) (hd : decode cc pc = .ok (.ineg, 1)) (hp : pc + 1 = pc') : V y pc ls (.int a :: st) n I L R Q = V y pc' ls (.int (-a) :: st) n I L R Q := by
  subst hp
  exact V_nx ((x0_of hc hd).trans rfl)
theorem v_i2l {a : Int32} (hc : cdM y = cc) (hd : decode cc pc = .ok (.i2l, 1)) (hp : pc + 1 = pc') : V y pc ls (.int a :: st) n I L R Q = V y pc' ls (.long a.toInt64 :: st) n I L R Q := by
  subst hp
  exact V_nx ((x0_of hc hd).trans rfl)
theorem v_l2i {a : Int64} (hc : cdM y = cc) (hd : decode cc pc = .ok (.l2i, 1)) (hp : pc + 1 = pc') : V y pc ls (.long a :: st) n I L R Q = V y pc' ls (.int a.toInt32 :: st) n I L R Q := by
  subst hp
  exact V_nx ((x0_of hc hd).trans rfl)
theorem v_i2b {a : Int32} (hc : cdM y = cc) (hd : decode cc pc = .ok (.i2b, 1)) (hp : pc + 1 = pc') : V y pc ls (.int a :: st) n I L R Q = V y pc' ls (.int a.toInt8.toInt32 :: st) n I L R Q := by
  subst hp
  exact V_nx ((x0_of hc hd).trans rfl)
theorem v_i2c {a : Int32} (hc : cdM y = cc) (hd : decode cc pc = .ok (.i2c, 1)) (hp : pc + 1 = pc') : V y pc ls (.int a :: st) n I L R Q = V y pc' ls (.int (a.toUInt32 % 65536).toInt32 :: st) n I L R Q := by
  subst hp
  exact V_nx ((x0_of hc hd).trans rfl)
theorem v_idiv {a b : Int32} (hc : cdM y = cc) (hd : decode cc pc = .ok (.idiv, 1)) (hp : pc + 1 = pc') : V y pc ls (.int b :: .int a :: st) n I L R Q = ((¬ b = 0) ∧ V y pc' ls (.int (a / b) :: st) n I L R Q) := by
  subst hp
  exact V_if (a := nxX (pc + 1) ls (.int (a / b) :: st) n I L R) ((x0_of hc hd).trans (rfl)) (fun h => V_nx h)
theorem v_irem {a b : Int32} (hc : cdM y = cc) (hd : decode cc pc = .ok (.irem, 1)) (hp : pc + 1 = pc') : V y pc ls (.int b :: .int a :: st) n I L R Q = ((¬ b = 0) ∧ V y pc' ls (.int (a - a / b * b) :: st) n I L R Q) := by
  subst hp
  exact V_if (a := nxX (pc + 1) ls (.int (a - a / b * b) :: st) n I L R) ((x0_of hc hd).trans (rfl)) (fun h => V_nx h)
theorem v_ldiv {a b : Int64} (hc : cdM y = cc) (hd : decode cc pc = .ok (.ldiv, 1)) (hp : pc + 1 = pc') : V y pc ls (.long b :: .long a :: st) n I L R Q = ((¬ b = 0) ∧ V y pc' ls (.long (a / b) :: st) n I L R Q) := by
  subst hp
  exact V_if (a := nxX (pc + 1) ls (.long (a / b) :: st) n I L R) ((x0_of hc hd).trans (rfl)) (fun h => V_nx h)
theorem v_lrem {a b : Int64} (hc : cdM y = cc) (hd : decode cc pc = .ok (.lrem, 1)) (hp : pc + 1 = pc') : V y pc ls (.long b :: .long a :: st) n I L R Q = ((¬ b = 0) ∧ V y pc' ls (.long (a - a / b * b) :: st) n I L R Q) := by
  subst hp
  exact V_if (a := nxX (pc + 1) ls (.long (a - a / b * b) :: st) n I L R) ((x0_of hc hd).trans (rfl)) (fun h => V_nx h)
theorem v_dup {v : Value} (hc : cdM y = cc) (hd : decode cc pc = .ok (.dup, 1)) (hp : pc + 1 = pc') : V y pc ls (v :: st) n I L R Q = ((v.category = 1) ∧ V y pc' ls (v :: v :: st) n I L R Q) := by
  subst hp
  exact V_if (a := nxX (pc + 1) ls (v :: v :: st) n I L R) ((x0_of hc hd).trans (rfl)) (fun h => V_nx h)
theorem v_dup2 {v w : Value} (hc : cdM y = cc) (hd : decode cc pc = .ok (.dup2, 1)) (hp : pc + 1 = pc') : V y pc ls (v :: w :: st) n I L R Q = ((v.category = 1 ∧ w.category = 1) ∧ V y pc' ls (v :: w :: v :: w :: st) n I L R Q) := by
  subst hp
  exact V_if (a := nxX (pc + 1) ls (v :: w :: v :: w :: st) n I L R) ((x0_of hc hd).trans (rfl)) (fun h => V_nx h)
theorem v_pop {v : Value} (hc : cdM y = cc) (hd : decode cc pc = .ok (.pop, 1)) (hp : pc + 1 = pc') : V y pc ls (v :: st) n I L R Q = ((v.category = 1) ∧ V y pc' ls (st) n I L R Q) := by
  subst hp
  exact V_if (a := nxX (pc + 1) ls (st) n I L R) ((x0_of hc hd).trans (rfl)) (fun h => V_nx h)
theorem v_arraylength {a : Nat} (hc : cdM y = cc) (hd : decode cc pc = .ok (.arraylength, 1)) (hp : pc + 1 = pc') : V y pc ls (.ref a :: st) n I L R Q = ((tgX n a < 4) ∧ V y pc' ls (.int (Int32.ofNat (lnX n I a)) :: st) n I L R Q) := by
  subst hp
  exact V_if (a := nxX (pc + 1) ls (.int (Int32.ofNat (lnX n I a)) :: st) n I L R) ((x0_of hc hd).trans (rfl)) (fun h => V_nx h)
theorem v_iaload {a : Nat} {j : Int32} (hc : cdM y = cc) (hd : decode cc pc = .ok (.iaload, 1)) (hp : pc + 1 = pc') : V y pc ls (.int j :: .ref a :: st) n I L R Q = ((tgX n a = 0 ∧ vp_in j (lnX n I a)) ∧ V y pc' ls (.int (I a j.toNatClampNeg) :: st) n I L R Q) := by
  subst hp
  exact V_if (a := nxX (pc + 1) ls (.int (I a j.toNatClampNeg) :: st) n I L R) ((x0_of hc hd).trans (rfl)) (fun h => V_nx h)
theorem v_baload {a : Nat} {j : Int32} (hc : cdM y = cc) (hd : decode cc pc = .ok (.baload, 1)) (hp : pc + 1 = pc') : V y pc ls (.int j :: .ref a :: st) n I L R Q = (((tgX n a = 2 ∨ tgX n a = 3) ∧ vp_in j (lnX n I a)) ∧ V y pc' ls (.int (rdB I a j.toNatClampNeg) :: st) n I L R Q) := by
  subst hp
  exact V_if (a := nxX (pc + 1) ls (.int (rdB I a j.toNatClampNeg) :: st) n I L R) ((x0_of hc hd).trans (rfl)) (fun h => V_nx h)
theorem v_laload {a : Nat} {j : Int32} (hc : cdM y = cc) (hd : decode cc pc = .ok (.laload, 1)) (hp : pc + 1 = pc') : V y pc ls (.int j :: .ref a :: st) n I L R Q = ((tgX n a = 1 ∧ vp_in j (lnX n I a)) ∧ V y pc' ls (.long (L a j.toNatClampNeg) :: st) n I L R Q) := by
  subst hp
  exact V_if (a := nxX (pc + 1) ls (.long (L a j.toNatClampNeg) :: st) n I L R) ((x0_of hc hd).trans (rfl)) (fun h => V_nx h)
theorem v_iastore {a : Nat} {j v : Int32} (hc : cdM y = cc) (hd : decode cc pc = .ok (.iastore, 1)) (hp : pc + 1 = pc') : V y pc ls (.int v :: .int j :: .ref a :: st) n I L R Q = ((ip a < n ∧ tgX n a = 0 ∧ vp_in j (lnX n I a)) ∧ V y pc' ls (st) n (up2 I a j.toNatClampNeg v) L R Q) := by
  subst hp
  exact V_if (a := nxX (pc + 1) ls (st) n (up2 I a j.toNatClampNeg v) L R) ((x0_of hc hd).trans (rfl)) (fun h => V_nx h)
theorem v_bastore {a : Nat} {j v : Int32} (hc : cdM y = cc) (hd : decode cc pc = .ok (.bastore, 1)) (hp : pc + 1 = pc') : V y pc ls (.int v :: .int j :: .ref a :: st) n I L R Q = ((ip a < n ∧ (tgX n a = 2 ∨ tgX n a = 3) ∧ vp_in j (lnX n I a)) ∧ V y pc' ls (st) n (up2 I a j.toNatClampNeg (nrB (tgX n a) v)) L R Q) := by
  subst hp
  exact V_if (a := nxX (pc + 1) ls (st) n (up2 I a j.toNatClampNeg (nrB (tgX n a) v)) L R) ((x0_of hc hd).trans (rfl)) (fun h => V_nx h)
theorem v_lastore {a : Nat} {j : Int32} {v : Int64} (hc : cdM y = cc) (hd : decode cc pc = .ok (.lastore, 1)) (hp : pc + 1 = pc') : V y pc ls (.long v :: .int j :: .ref a :: st) n I L R Q = ((ip a < n ∧ tgX n a = 1 ∧ vp_in j (lnX n I a)) ∧ V y pc' ls (st) n I (up2 L a j.toNatClampNeg v) R Q) := by
  subst hp
  exact V_if (a := nxX (pc + 1) ls (st) n I (up2 L a j.toNatClampNeg v) R) ((x0_of hc hd).trans (rfl)) (fun h => V_nx h)
theorem v_newarray {t : ArrayType} {m : Int32} (hc : cdM y = cc) (hd : decode cc pc = .ok (.newarray t, 2)) (hp : pc + 2 = pc') : V y pc ls (.int m :: st) n I L R Q = ((¬ m < 0 ∧ shpL[pm n]? = some (.inr (atX t, m.toNatClampNeg)) ∧ atX t < 4) ∧ V y pc' ls (.ref (pm n) :: st) (n + 1) (upr I (pm n) (fun _ => 0)) (upr L (pm n) (fun _ => 0)) R Q) := by
  subst hp
  exact V_if (a := nxX (pc + 2) ls (.ref (pm n) :: st) (n + 1) (upr I (pm n) (fun _ => 0)) (upr L (pm n) (fun _ => 0)) R) ((x0_of hc hd).trans (rfl)) (fun h => V_nx h)
theorem v_new {k c : Nat} (hc : cdM y = cc) (hd : decode cc pc = .ok (.new k, 3)) (hp : pc + 3 = pc') (hk : pickT clkL (ocM y) k = some c) : V y pc ls (st) n I L R Q = ((shpL[pm n]? = some (.inl c) ∧ c < 10) ∧ V y pc' ls (.ref (pm n) :: st) (n + 1) (upr I (pm n) (fun _ => 0)) L (upr R (pm n) (fun _ => none)) Q) := by
  subst hp
  exact V_if (a := nxX (pc + 3) ls (.ref (pm n) :: st) (n + 1) (upr I (pm n) (fun _ => 0)) L (upr R (pm n) (fun _ => none))) ((x0_of hc hd).trans (by unfold x1; (try dsimp only); rw [hk])) (fun h => V_nx h)
theorem v_goto {off : Int} {tgt : Nat} (hc : cdM y = cc) (hd : decode cc pc = .ok (.goto off, 3)) (ht : (pc : Int) + off = (tgt : Int)) : V y pc ls st n I L R Q = V y tgt ls st n I L R Q := V_jp ((x0_of hc hd).trans rfl) ht
theorem v_if_eq {off : Int} {tgt : Nat} {a : Int32} (hc : cdM y = cc) (hd : decode cc pc = .ok (.ifCond .eq off, 3)) (ht : (pc : Int) + off = (tgt : Int)) (hp : pc + 3 = pc') : V y pc ls (.int a :: st) n I L R Q = if a = 0 then V y tgt ls st n I L R Q else V y pc' ls st n I L R Q := by
  subst hp
  exact V_bj ((x0_of hc hd).trans rfl) ht
theorem v_icmp_eq {off : Int} {tgt : Nat} {a b : Int32} (hc : cdM y = cc) (hd : decode cc pc = .ok (.if_icmp .eq off, 3)) (ht : (pc : Int) + off = (tgt : Int)) (hp : pc + 3 = pc') : V y pc ls (.int b :: .int a :: st) n I L R Q = if a = b then V y tgt ls st n I L R Q else V y pc' ls st n I L R Q := by
  subst hp
  exact V_bj ((x0_of hc hd).trans rfl) ht
theorem v_if_ne {off : Int} {tgt : Nat} {a : Int32} (hc : cdM y = cc) (hd : decode cc pc = .ok (.ifCond .ne off, 3)) (ht : (pc : Int) + off = (tgt : Int)) (hp : pc + 3 = pc') : V y pc ls (.int a :: st) n I L R Q = if ¬ a = 0 then V y tgt ls st n I L R Q else V y pc' ls st n I L R Q := by
  subst hp
  exact V_bj ((x0_of hc hd).trans rfl) ht
theorem v_icmp_ne {off : Int} {tgt : Nat} {a b : Int32} (hc : cdM y = cc) (hd : decode cc pc = .ok (.if_icmp .ne off, 3)) (ht : (pc : Int) + off = (tgt : Int)) (hp : pc + 3 = pc') : V y pc ls (.int b :: .int a :: st) n I L R Q = if ¬ a = b then V y tgt ls st n I L R Q else V y pc' ls st n I L R Q := by
  subst hp
  exact V_bj ((x0_of hc hd).trans rfl) ht
theorem v_if_lt {off : Int} {tgt : Nat} {a : Int32} (hc : cdM y = cc) (hd : decode cc pc = .ok (.ifCond .lt off, 3)) (ht : (pc : Int) + off = (tgt : Int)) (hp : pc + 3 = pc') : V y pc ls (.int a :: st) n I L R Q = if a < 0 then V y tgt ls st n I L R Q else V y pc' ls st n I L R Q := by
  subst hp
  exact V_bj ((x0_of hc hd).trans rfl) ht
theorem v_icmp_lt {off : Int} {tgt : Nat} {a b : Int32} (hc : cdM y = cc) (hd : decode cc pc = .ok (.if_icmp .lt off, 3)) (ht : (pc : Int) + off = (tgt : Int)) (hp : pc + 3 = pc') : V y pc ls (.int b :: .int a :: st) n I L R Q = if a < b then V y tgt ls st n I L R Q else V y pc' ls st n I L R Q := by
  subst hp
  exact V_bj ((x0_of hc hd).trans rfl) ht
theorem v_if_ge {off : Int} {tgt : Nat} {a : Int32} (hc : cdM y = cc) (hd : decode cc pc = .ok (.ifCond .ge off, 3)) (ht : (pc : Int) + off = (tgt : Int)) (hp : pc + 3 = pc') : V y pc ls (.int a :: st) n I L R Q = if 0 ≤ a then V y tgt ls st n I L R Q else V y pc' ls st n I L R Q := by
  subst hp
  exact V_bj ((x0_of hc hd).trans rfl) ht
theorem v_icmp_ge {off : Int} {tgt : Nat} {a b : Int32} (hc : cdM y = cc) (hd : decode cc pc = .ok (.if_icmp .ge off, 3)) (ht : (pc : Int) + off = (tgt : Int)) (hp : pc + 3 = pc') : V y pc ls (.int b :: .int a :: st) n I L R Q = if b ≤ a then V y tgt ls st n I L R Q else V y pc' ls st n I L R Q := by
  subst hp
  exact V_bj ((x0_of hc hd).trans rfl) ht
theorem v_if_gt {off : Int} {tgt : Nat} {a : Int32} (hc : cdM y = cc) (hd : decode cc pc = .ok (.ifCond .gt off, 3)) (ht : (pc : Int) + off = (tgt : Int)) (hp : pc + 3 = pc') : V y pc ls (.int a :: st) n I L R Q = if 0 < a then V y tgt ls st n I L R Q else V y pc' ls st n I L R Q := by
  subst hp
  exact V_bj ((x0_of hc hd).trans rfl) ht
theorem v_icmp_gt {off : Int} {tgt : Nat} {a b : Int32} (hc : cdM y = cc) (hd : decode cc pc = .ok (.if_icmp .gt off, 3)) (ht : (pc : Int) + off = (tgt : Int)) (hp : pc + 3 = pc') : V y pc ls (.int b :: .int a :: st) n I L R Q = if b < a then V y tgt ls st n I L R Q else V y pc' ls st n I L R Q := by
  subst hp
  exact V_bj ((x0_of hc hd).trans rfl) ht
theorem v_if_le {off : Int} {tgt : Nat} {a : Int32} (hc : cdM y = cc) (hd : decode cc pc = .ok (.ifCond .le off, 3)) (ht : (pc : Int) + off = (tgt : Int)) (hp : pc + 3 = pc') : V y pc ls (.int a :: st) n I L R Q = if a ≤ 0 then V y tgt ls st n I L R Q else V y pc' ls st n I L R Q := by
  subst hp
  exact V_bj ((x0_of hc hd).trans rfl) ht
theorem v_icmp_le {off : Int} {tgt : Nat} {a b : Int32} (hc : cdM y = cc) (hd : decode cc pc = .ok (.if_icmp .le off, 3)) (ht : (pc : Int) + off = (tgt : Int)) (hp : pc + 3 = pc') : V y pc ls (.int b :: .int a :: st) n I L R Q = if a ≤ b then V y tgt ls st n I L R Q else V y pc' ls st n I L R Q := by
  subst hp
  exact V_bj ((x0_of hc hd).trans rfl) ht
theorem v_tabIn {d lo hi off : Int} {os : Array Int} {tgt : Nat} {a : Int32} (hc : cdM y = cc) (hd : decode cc pc = .ok (.tableswitch d lo hi os, len)) (h1 : ¬ (a.toInt < lo ∨ hi < a.toInt)) (ho : os[(a.toInt - lo).toNat]? = some off) (ht : (pc : Int) + off = (tgt : Int)) : V y pc ls (.int a :: st) n I L R Q = V y tgt ls st n I L R Q := V_jp ((x0_of hc hd).trans (by unfold x1; (try dsimp only); rw [if_neg h1, ho])) ht
theorem v_tabOut {d lo hi : Int} {os : Array Int} {tgt : Nat} {a : Int32} (hc : cdM y = cc) (hd : decode cc pc = .ok (.tableswitch d lo hi os, len)) (h1 : a.toInt < lo ∨ hi < a.toInt) (ht : (pc : Int) + d = (tgt : Int)) : V y pc ls (.int a :: st) n I L R Q = V y tgt ls st n I L R Q := V_jp ((x0_of hc hd).trans (by unfold x1; (try dsimp only); rw [if_pos h1])) ht
theorem v_lookup {d off : Int} {ps : Array (Int × Int)} {tgt : Nat} {a : Int32} (hc : cdM y = cc) (hd : decode cc pc = .ok (.lookupswitch d ps, len)) (hs : (ps.toList.zip (ps.toList.drop 1)).all (fun (a, next) => a.1 < next.1) = true) (ho : Op.lookupswitch.offset ps.toList d a.toInt = off) (ht : (pc : Int) + off = (tgt : Int)) : V y pc ls (.int a :: st) n I L R Q = V y tgt ls st n I L R Q := V_jp ((x0_of hc hd).trans (by unfold x1; (try dsimp only); rw [ifP_t hs, ho])) ht
theorem v_ldc {k : Nat} {v : Int32} (hc : cdM y = cc) (hd : decode cc pc = .ok (.ldc k, 2)) (hp : pc + 2 = pc') (hk : pickT cstL (ocM y) k = some v) : V y pc ls (st) n I L R Q = V y pc' ls (.int v :: st) n I L R Q := by
  subst hp
  exact V_nx ((x0_of hc hd).trans (by unfold x1; (try dsimp only); rw [hk]))
theorem v_ldcS {k a : Nat} (hc : cdM y = cc) (hd : decode cc pc = .ok (.ldc k, 2)) (hp : pc + 2 = pc') (hk : pickT cstL (ocM y) k = none) (hs : pickT stsL (ocM y) k = some a) : V y pc ls (st) n I L R Q = V y pc' ls (.ref a :: st) n I L R Q := by
  subst hp
  exact V_nx ((x0_of hc hd).trans (by unfold x1; (try dsimp only); rw [hk, hs]))
theorem v_ldc_w {k : Nat} {v : Int32} (hc : cdM y = cc) (hd : decode cc pc = .ok (.ldc_w k, 3)) (hp : pc + 3 = pc') (hk : pickT cstL (ocM y) k = some v) : V y pc ls (st) n I L R Q = V y pc' ls (.int v :: st) n I L R Q := by
  subst hp
  exact V_nx ((x0_of hc hd).trans (by unfold x1; (try dsimp only); rw [hk]))
theorem v_ldc2_w {k : Nat} {v : Int64} (hc : cdM y = cc) (hd : decode cc pc = .ok (.ldc2_w k, 3)) (hp : pc + 3 = pc') (hk : pickT cslL (ocM y) k = some v) : V y pc ls (st) n I L R Q = V y pc' ls (.long v :: st) n I L R Q := by
  subst hp
  exact V_nx ((x0_of hc hd).trans (by unfold x1; (try dsimp only); rw [hk]))
theorem v_gets38 (hc : cdM y = cc) (hd : decode cc pc = .ok (.getstatic 38, 3)) (hp : pc + 3 = pc') (ho : ocM y = 13) : V y pc ls (st) n I L R Q = V y pc' ls (.int 1 :: st) n I L R Q := by
  subst hp
  exact V_nx ((x0_of hc hd).trans (by unfold x1; (try dsimp only); rw [ifP_t ho, if_pos rfl]))
theorem v_gets1053 (hc : cdM y = cc) (hd : decode cc pc = .ok (.getstatic 1053, 3)) (hp : pc + 3 = pc') (ho : ocM y = 13) : V y pc ls (st) n I L R Q = V y pc' ls (.ref 1006 :: st) n I L R Q := by
  subst hp
  exact V_nx ((x0_of hc hd).trans (by unfold x1; (try dsimp only); rw [ifP_t ho, if_neg (by decide), ifP_t rfl]))
theorem v_getI {k c j o : Nat} (hc : cdM y = cc) (hd : decode cc pc = .ok (.getfield k, 3)) (hp : pc + 3 = pc') (hf : fdM (ocM y) k = some (c, j)) (hj : c < 10 ∧ j < nfX c) (ht : isR (ftX c j) = false) : V y pc ls (.ref o :: st) n I L R Q = (obX n o = c ∧ V y pc' ls (.int (I o j) :: st) n I L R Q) := by
  subst hp
  refine V_if (a := nxX (pc + 3) ls (.int (I o j) :: st) n I L R) ((x0_of hc hd).trans ?_) (fun h => V_nx h)
  unfold x1; (try dsimp only)
  rw [hf]
  try dsimp only
  rw [if_neg (by omega), ifP_t hj, fvX, ht]
  rfl
theorem v_getR {k c j o : Nat} (hc : cdM y = cc) (hd : decode cc pc = .ok (.getfield k, 3)) (hp : pc + 3 = pc') (hf : fdM (ocM y) k = some (c, j)) (hj : c < 10 ∧ j < nfX c) (ht : isR (ftX c j) = true) : V y pc ls (.ref o :: st) n I L R Q = (obX n o = c ∧ V y pc' ls (va_rf (R o j) :: st) n I L R Q) := by
  subst hp
  refine V_if (a := nxX (pc + 3) ls (va_rf (R o j) :: st) n I L R) ((x0_of hc hd).trans ?_) (fun h => V_nx h)
  unfold x1; (try dsimp only)
  rw [hf]
  try dsimp only
  rw [if_neg (by omega), ifP_t hj, fvX, ht]
  rfl
theorem v_getSV {k o : Nat} (hc : cdM y = cc) (hd : decode cc pc = .ok (.getfield k, 3)) (hp : pc + 3 = pc') (hf : fdM (ocM y) k = some (13, 0)) : V y pc ls (.ref o :: st) n I L R Q = (obX n o = 13 ∧ V y pc' ls (.ref (o - 2) :: st) n I L R Q) := by
  subst hp
  refine V_if (a := nxX (pc + 3) ls (.ref (o - 2) :: st) n I L R) ((x0_of hc hd).trans ?_) (fun h => V_nx h)
  unfold x1; (try dsimp only)
  rw [hf]
  rfl
theorem v_getSC {k o : Nat} (hc : cdM y = cc) (hd : decode cc pc = .ok (.getfield k, 3)) (hp : pc + 3 = pc') (hf : fdM (ocM y) k = some (13, 1)) : V y pc ls (.ref o :: st) n I L R Q = (obX n o = 13 ∧ V y pc' ls (.int 0 :: st) n I L R Q) := by
  subst hp
  refine V_if (a := nxX (pc + 3) ls (.int 0 :: st) n I L R) ((x0_of hc hd).trans ?_) (fun h => V_nx h)
  unfold x1; (try dsimp only)
  rw [hf]
  rfl
theorem v_putI {k c j o : Nat} {v : Int32} (hc : cdM y = cc) (hd : decode cc pc = .ok (.putfield k, 3)) (hp : pc + 3 = pc') (hf : fdM (ocM y) k = some (c, j)) (hj : c < 10 ∧ j < nfX c) (ht : ftX c j = .int) (hn : ((clsX.getD c (RX9, TX9, 75)).2.1 j).2.2.2 = false) : V y pc ls (.int v :: .ref o :: st) n I L R Q = ((obX n o = c ∧ ip o < n) ∧ V y pc' ls st n (up2 I o j v) L R Q) := by
  subst hp
  by_cases h : obX n o = c ∧ ip o < n
  · rw [V_nx (pc' := pc + 3) (ls' := ls) (st' := st) (n' := n) (I' := up2 I o j v) (L' := L) (R' := R) ((x0_of hc hd).trans (by unfold x1; (try dsimp only); rw [hf]; (try dsimp only); rw [ifP_t ⟨h.1, h.2, hj.1, hj.2, by rw [ht]; trivial, fun q => by rw [hn] at q; cases q⟩]))]
    exact propext ⟨fun q => ⟨h, q⟩, fun q => q.2⟩
  · rw [V_no ((x0_of hc hd).trans (by unfold x1; (try dsimp only); rw [hf]; (try dsimp only); rw [ifP_f (fun q => h ⟨q.1, q.2.1⟩)]))]
    exact propext ⟨False.elim, fun q => h q.1⟩
theorem v_putZ {k c j o : Nat} {v : Int32} (hc : cdM y = cc) (hd : decode cc pc = .ok (.putfield k, 3)) (hp : pc + 3 = pc') (hf : fdM (ocM y) k = some (c, j)) (hj : c < 10 ∧ j < nfX c) (ht : ftX c j = .boolean) (hn : ((clsX.getD c (RX9, TX9, 75)).2.1 j).2.2.2 = false) : V y pc ls (.int v :: .ref o :: st) n I L R Q = ((obX n o = c ∧ ip o < n ∧ (v = 0 ∨ v = 1)) ∧ V y pc' ls st n (up2 I o j v) L R Q) := by
  subst hp
  by_cases h : obX n o = c ∧ ip o < n ∧ (v = 0 ∨ v = 1)
  · rw [V_nx (pc' := pc + 3) (ls' := ls) (st' := st) (n' := n) (I' := up2 I o j v) (L' := L) (R' := R) ((x0_of hc hd).trans (by unfold x1; (try dsimp only); rw [hf]; (try dsimp only); rw [ifP_t ⟨h.1, h.2.1, hj.1, hj.2, by rw [ht]; exact h.2.2, fun q => by rw [hn] at q; cases q⟩]))]
    exact propext ⟨fun q => ⟨h, q⟩, fun q => q.2⟩
  · rw [V_no ((x0_of hc hd).trans (by unfold x1; (try dsimp only); rw [hf]; (try dsimp only); rw [ifP_f (fun q => h ⟨q.1, q.2.1, by have z := q.2.2.2.2.1; rw [ht] at z; exact z⟩)]))]
    exact propext ⟨False.elim, fun q => h q.1⟩
theorem ptX_ref {t : FieldType} (h : isR t = true) (q : Nat) : ptX t (.ref q) := by cases t <;> first | trivial | cases h
theorem v_putR {k c j o q : Nat} (hc : cdM y = cc) (hd : decode cc pc = .ok (.putfield k, 3)) (hp : pc + 3 = pc') (hf : fdM (ocM y) k = some (c, j)) (hj : c < 10 ∧ j < nfX c) (ht : isR (ftX c j) = true) (hn : ((clsX.getD c (RX9, TX9, 75)).2.1 j).2.2.2 = true → (nmM y).name = "<init>" ∧ c = ocM y) : V y pc ls (.ref q :: .ref o :: st) n I L R Q = ((obX n o = c ∧ ip o < n ∧ q < 1000) ∧ V y pc' ls st n I L (up2 R o j (some q)) Q) := by
  subst hp
  by_cases h : obX n o = c ∧ ip o < n ∧ q < 1000
  · rw [V_nx (pc' := pc + 3) (ls' := ls) (st' := st) (n' := n) (I' := I) (L' := L) (R' := up2 R o j (some q)) ((x0_of hc hd).trans (by unfold x1; (try dsimp only); rw [hf]; (try dsimp only); rw [ifP_t ⟨h.1, h.2.1, hj.1, hj.2, ptX_ref ht q, hn⟩, ifP_t h.2.2]))]
    exact propext ⟨fun q => ⟨h, q⟩, fun q => q.2⟩
  · rw [V_no ((x0_of hc hd).trans (by
      unfold x1; (try dsimp only); rw [hf]; dsimp only
      by_cases h2 : obX n o = c ∧ ip o < n
      · by_cases h3 : q < 1000
        · exact absurd ⟨h2.1, h2.2, h3⟩ h
        · rw [ifP_f h3]; unfold ifP; split <;> rfl
      · rw [ifP_f (fun q => h2 ⟨q.1, q.2.1⟩)]))]
    exact propext ⟨False.elim, fun q => h q.1⟩
theorem v_iret {v : Int32} (hc : cdM y = cc) (hd : decode cc pc = .ok (.ireturn, 1)) (hr : rtM y = some .int) : V y pc ls [.int v] n I L R Q = Q (some (.int v)) n I L R := V_ret ((x0_of hc hd).trans (by unfold x1; (try dsimp only); rw [hr]; exact ifP_t trivial))
theorem v_zret {v : Int32} (hc : cdM y = cc) (hd : decode cc pc = .ok (.ireturn, 1)) (hr : rtM y = some .boolean) : V y pc ls [.int v] n I L R Q = ((v = 0 ∨ v = 1) ∧ Q (some (.int v)) n I L R) := V_if (a := some (.inr (.inl (some (.int v))))) ((x0_of hc hd).trans (by unfold x1; (try dsimp only); rw [hr]; rfl)) (fun h => V_ret h)
theorem v_bret {v : Int32} (hc : cdM y = cc) (hd : decode cc pc = .ok (.ireturn, 1)) (hr : rtM y = some .byte) : V y pc ls [.int v] n I L R Q = (narrow .byte (.int v) = .int v ∧ Q (some (.int v)) n I L R) := V_if (a := some (.inr (.inl (some (.int v))))) ((x0_of hc hd).trans (by unfold x1; (try dsimp only); rw [hr]; rfl)) (fun h => V_ret h)
theorem v_cret {v : Int32} (hc : cdM y = cc) (hd : decode cc pc = .ok (.ireturn, 1)) (hr : rtM y = some .char) : V y pc ls [.int v] n I L R Q = (narrow .char (.int v) = .int v ∧ Q (some (.int v)) n I L R) := V_if (a := some (.inr (.inl (some (.int v))))) ((x0_of hc hd).trans (by unfold x1; (try dsimp only); rw [hr]; rfl)) (fun h => V_ret h)
theorem v_lret {v : Int64} (hc : cdM y = cc) (hd : decode cc pc = .ok (.lreturn, 1)) (hr : rtM y = some .long) : V y pc ls [.long v] n I L R Q = Q (some (.long v)) n I L R := V_ret ((x0_of hc hd).trans (by unfold x1; (try dsimp only); exact ifP_t hr))
theorem v_vret (hc : cdM y = cc) (hd : decode cc pc = .ok (.return_, 1)) (hr : rtM y = none) : V y pc ls [] n I L R Q = Q none n I L R := V_ret ((x0_of hc hd).trans (by unfold x1; (try dsimp only); exact ifP_t hr))
/-- what a call asks that the tables decide -/
def rmX (y z : Nat) (rest : List Value) : Prop := rfM z + 1 ≤ rfM y ∧ 8 + (mlM z + 11) + rlM z ≤ rlM y ∧ (rest.map fun v => v.category).sum ≤ 8
theorem cl_of {kind z : Nat} {sa rest : List Value} (hn : naM z = sa.length) (hr : rmX y z rest) (hm : wsm sa.reverse ≤ mlM z ∧ gdV sa.reverse = true) : clX y kind z (sa ++ rest) n = clY kind z sa.reverse rest n := by
  have e1 : (sa ++ rest).drop (naM z) = rest := by rw [hn]; simp
  have e2 : (sa ++ rest).take (naM z) = sa := by rw [hn]; simp
  unfold clX
  rw [ifP_t ⟨by rw [hn]; simp, hr.1, hr.2.1, by rw [e1]; exact hr.2.2, by rw [e2]; exact hm.1, by rw [e2]; exact hm.2⟩, e1, e2]
theorem v_callV {k z o : Nat} {sa as rest ls' : List Value} (hc : cdM y = cc) (hd : decode cc pc = .ok (.invokevirtual k, 3)) (hp : pc + 3 = pc') (hk : lnkM (ocM y) k = some (0, z)) (hst : st = sa ++ rest) (ha : sa.reverse = .ref o :: as) (hn : naM z = sa.length) (hr : rmX y z rest) (hm : wsm sa.reverse ≤ mlM z ∧ gdV sa.reverse = true) (hl : enV (mlM z) (.ref o :: as) = ls') : V y pc ls st n I L R Q = (obX n o = ocM z ∧ V z 0 ls' [] n I L R (fun r n1 I1 L1 R1 => V y pc' ls (r.toList ++ rest) n1 I1 L1 R1 Q)) := by
  subst hp; subst hst; subst hl
  refine V_if (a := some (.inr (.inr (z, .ref o :: as, rest)))) ((x0_of hc hd).trans ?_) (fun h => V_cl h)
  unfold x1; (try dsimp only)
  rw [hk]
  show clX y 0 z (sa ++ rest) n = _
  rw [cl_of hn hr hm, ha]
  rfl
theorem v_callS {k z : Nat} {sa as rest ls' : List Value} (hc : cdM y = cc) (hd : decode cc pc = .ok (.invokestatic k, 3)) (hp : pc + 3 = pc') (hk : lnkM (ocM y) k = some (1, z)) (hst : st = sa ++ rest) (ha : sa.reverse = as) (hn : naM z = sa.length) (hr : rmX y z rest) (hm : wsm sa.reverse ≤ mlM z ∧ gdV sa.reverse = true) (hl : enV (mlM z) as = ls') : V y pc ls st n I L R Q = V z 0 ls' [] n I L R (fun r n1 I1 L1 R1 => V y pc' ls (r.toList ++ rest) n1 I1 L1 R1 Q) := by
  subst hp; subst hst; subst hl
  refine V_cl ((x0_of hc hd).trans ?_)
  unfold x1; (try dsimp only)
  rw [hk]
  show clX y 1 z (sa ++ rest) n = _
  rw [cl_of hn hr hm, ha]
  rfl
theorem v_callI {k z o : Nat} {sa as rest ls' : List Value} (hc : cdM y = cc) (hd : decode cc pc = .ok (.invokespecial k, 3)) (hp : pc + 3 = pc') (hk : lnkM (ocM y) k = some (2, z)) (hst : st = sa ++ rest) (ha : sa.reverse = .ref o :: as) (hn : naM z = sa.length) (hr : rmX y z rest) (hm : wsm sa.reverse ≤ mlM z ∧ gdV sa.reverse = true) (hl : enV (mlM z) (.ref o :: as) = ls') : V y pc ls st n I L R Q = (ip o < n ∧ V z 0 ls' [] n I L R (fun r n1 I1 L1 R1 => V y pc' ls (r.toList ++ rest) n1 I1 L1 R1 Q)) := by
  subst hp; subst hst; subst hl
  refine V_if (a := some (.inr (.inr (z, .ref o :: as, rest)))) ((x0_of hc hd).trans ?_) (fun h => V_cl h)
  unfold x1; (try dsimp only)
  rw [hk]
  show clX y 2 z (sa ++ rest) n = _
  rw [cl_of hn hr hm, ha]
  rfl
theorem v_callN {k z o : Nat} {sa as rest ls' : List Value} (hc : cdM y = cc) (hd : decode cc pc = .ok (.invokespecial k, 3)) (hp : pc + 3 = pc') (hk : lnkM (ocM y) k = some (3, z)) (hst : st = sa ++ rest) (ha : sa.reverse = .ref o :: as) (hn : naM z = sa.length) (hr : rmX y z rest) (hm : wsm sa.reverse ≤ mlM z ∧ gdV sa.reverse = true) (hl : enV (mlM z) (.ref o :: as) = ls') : V y pc ls st n I L R Q = (ip o < n ∧ V z 0 ls' [] n I L R (fun r n1 I1 L1 R1 => V y pc' ls (r.toList ++ rest) n1 I1 L1 R1 Q)) := by
  subst hp; subst hst; subst hl
  refine V_if (a := some (.inr (.inr (z, .ref o :: as, rest)))) ((x0_of hc hd).trans ?_) (fun h => V_cl h)
  unfold x1; (try dsimp only)
  rw [hk]
  show clX y 3 z (sa ++ rest) n = _
  rw [cl_of hn hr hm, ha]
  rfl
theorem v_callO {k a q : Nat} (hc : cdM y = cc) (hd : decode cc pc = .ok (.invokespecial k, 3)) (hp : pc + 3 = pc') (hk : lnkM (ocM y) k = some (4, q)) : V y pc ls (.ref a :: st) n I L R Q = ((ip a < n ∧ 1 ≤ rfM y ∧ (st.map fun v => v.category).sum + 12 ≤ rlM y) ∧ V y pc' ls st n I L R Q) := by
  subst hp
  refine V_if (a := nxX (pc + 3) ls st n I L R) ((x0_of hc hd).trans ?_) (fun h => V_nx h)
  unfold x1; (try dsimp only)
  rw [hk]
  rfl
theorem v_copy {k a b q : Nat} {m dp sp : Int32} (hc : cdM y = cc) (hd : decode cc pc = .ok (.invokestatic k, 3)) (hp : pc + 3 = pc') (hk : lnkM (ocM y) k = some (5, q)) : V y pc ls (.int m :: .int dp :: .ref b :: .int sp :: .ref a :: st) n I L R Q = ((ip a < n ∧ ip b < n ∧ tgX n a = 0 ∧ tgX n b = 0 ∧ ¬ sp < 0 ∧ ¬ dp < 0 ∧ ¬ m < 0 ∧ sp.toNatClampNeg + m.toNatClampNeg ≤ lnX n I a ∧ dp.toNatClampNeg + m.toNatClampNeg ≤ lnX n I b ∧ 1 ≤ rfM y ∧ (st.map fun v => v.category).sum + 18 ≤ rlM y) ∧ V y pc' ls st n (upr I b (va_cpy (I a) (I b) sp.toNatClampNeg dp.toNatClampNeg m.toNatClampNeg)) L R Q) := by
  subst hp
  refine V_if (a := nxX (pc + 3) ls st n (upr I b (va_cpy (I a) (I b) sp.toNatClampNeg dp.toNatClampNeg m.toNatClampNeg)) L R) ((x0_of hc hd).trans ?_) (fun h => V_nx h)
  unfold x1; (try dsimp only)
  rw [hk]
  rfl
end VV
