/-! calls with what waits behind them closed up, and rows by which terms come to their plain form -/
def KV (y pc : Nat) (ls rest : List Value) (Q : PQ) : PQ := fun r n1 I1 L1 R1 => V y pc ls (r.toList ++ rest) n1 I1 L1 R1 Q
theorem KV_i {y pc : Nat} {ls rest : List Value} {Q : PQ} {v : Value} {n : Nat} {I : AI} {L : AL} {R : AR} : KV y pc ls rest Q (some v) n I L R = V y pc ls (v :: rest) n I L R Q := rfl
theorem KV_v {y pc : Nat} {ls rest : List Value} {Q : PQ} {n : Nat} {I : AI} {L : AL} {R : AR} : KV y pc ls rest Q none n I L R = V y pc ls rest n I L R Q := rfl
theorem wsm_0 : wsm [] = 0 := rfl
theorem wsm_i (v : Int32) (l : List Value) : wsm (.int v :: l) = 1 + wsm l := rfl
theorem wsm_l (v : Int64) (l : List Value) : wsm (.long v :: l) = 2 + wsm l := rfl
theorem wsm_r (v : Nat) (l : List Value) : wsm (.ref v :: l) = 1 + wsm l := rfl
theorem dlV_i (v : Int32) : dlV (.int v) = .int v := rfl
theorem dlV_r (v : Nat) : dlV (.ref v) = .ref v := rfl
theorem dlV_l (v : Int64) : dlV (.long v) = .retAddr 0 := rfl
theorem dlV_j (v : Nat) : dlV (.retAddr v) = .retAddr v := rfl
theorem cat_i (v : Int32) : (Value.int v).category = 1 := rfl
theorem cat_l (v : Int64) : (Value.long v).category = 2 := rfl
theorem cat_r (v : Nat) : (Value.ref v).category = 1 := rfl
theorem rf_s (v : Nat) : va_rf (some v) = .ref v := rfl
theorem upr_s {α : Type} (f : Nat → α) (a : Nat) (g : α) : upr f a g a = g := if_pos rfl
theorem upr_n {α : Type} {f : Nat → α} {a b : Nat} {g : α} (h : b ≠ a) : upr f a g b = f b := if_neg h
theorem upr_a {α : Type} (f : Nat → α) (a b : Nat) (g : α) : upr f a g b = if b = a then g else f b := rfl
theorem upr_u {α : Type} (f : Nat → α) (a : Nat) (g k : α) : upr (upr f a g) a k = upr f a k := by funext b; unfold upr; split <;> rfl
theorem upr_c {α : Type} (f : Nat → α) {a b : Nat} (h : a ≠ b) (g k : α) : upr (upr f a g) b k = upr (upr f b k) a g := by
  funext c; unfold upr
  by_cases h1 : c = a
  · subst h1; rw [if_neg h, if_pos rfl, if_pos rfl]
  · by_cases h2 : c = b
    · subst h2; rw [if_pos rfl, if_neg h1, if_pos rfl]
    · rw [if_neg h2, if_neg h1, if_neg h1, if_neg h2]
theorem upr_id {α : Type} (f : Nat → α) (a : Nat) : upr f a (f a) = f := by funext b; unfold upr; split <;> simp_all
theorem up2_s {α : Type} (f : Nat → Nat → α) (a k : Nat) (v : α) : up2 f a k v a = upr (f a) k v := upr_s _ _ _
theorem up2_n {α : Type} {f : Nat → Nat → α} {a b k : Nat} {v : α} (h : b ≠ a) : up2 f a k v b = f b := upr_n h
theorem up2_a {α : Type} (f : Nat → Nat → α) (a k : Nat) (v : α) (b : Nat) : up2 f a k v b = if b = a then upr (f a) k v else f b := rfl
theorem ip_123 (a : Nat) : (ip a < 123) = (a < 123) := ip_lt (by decide)
section VC
variable {y pc : Nat} {ls st : List Value} {n : Nat} {I : AI} {L : AL} {R : AR} {Q : PQ} {cc : ByteArray} {len pc' : Nat}
theorem cl_no {kind z : Nat} {sa rest : List Value} (hn : naM z = sa.length) (hw : ¬ wsm rest ≤ 8) : clX y kind z (sa ++ rest) n = none := by
  have e1 : (sa ++ rest).drop (naM z) = rest := by rw [hn]; simp
  unfold clX
  exact ifP_f (fun q => hw (by have := q.2.2.2.1; rw [e1] at this; exact this))
theorem w_callV {k z o c : Nat} {sa as rest ls' : List Value} (hc : cdM y = cc) (hd : decode cc pc = .ok (.invokevirtual k, 3)) (hp : pc + 3 = pc') (hk : lnkM (ocM y) k = some (0, z)) (hst : st = sa ++ rest) (ha : sa.reverse = .ref o :: as) (hn : naM z = sa.length) (hr : rfM z + 1 ≤ rfM y ∧ 8 + (mlM z + 11) + rlM z ≤ rlM y) (hm : wsm sa.reverse ≤ mlM z ∧ gdV sa.reverse = true) (hl : enV (mlM z) (.ref o :: as) = ls') (hz : ocM z = c) : V y pc ls st n I L R Q = ((wsm rest ≤ 8 ∧ obX n o = c) ∧ V z 0 ls' [] n I L R (KV y pc' ls rest Q)) := by
  subst hz
  by_cases hw : wsm rest ≤ 8
  · rw [v_callV hc hd hp hk hst ha hn ⟨hr.1, hr.2, hw⟩ hm hl]
    exact propext ⟨fun q => ⟨⟨hw, q.1⟩, q.2⟩, fun q => ⟨q.1.2, q.2⟩⟩
  · rw [V_no ((x0_of hc hd).trans (by unfold x1; (try dsimp only); rw [hk, hst]; show clX y 0 z (sa ++ rest) n = none; exact cl_no hn hw))]
    exact propext ⟨False.elim, fun q => hw q.1.1⟩
theorem w_callS {k z : Nat} {sa as rest ls' : List Value} (hc : cdM y = cc) (hd : decode cc pc = .ok (.invokestatic k, 3)) (hp : pc + 3 = pc') (hk : lnkM (ocM y) k = some (1, z)) (hst : st = sa ++ rest) (ha : sa.reverse = as) (hn : naM z = sa.length) (hr : rfM z + 1 ≤ rfM y ∧ 8 + (mlM z + 11) + rlM z ≤ rlM y) (hm : wsm sa.reverse ≤ mlM z ∧ gdV sa.reverse = true) (hl : enV (mlM z) as = ls') : V y pc ls st n I L R Q = (wsm rest ≤ 8 ∧ V z 0 ls' [] n I L R (KV y pc' ls rest Q)) := by
  by_cases hw : wsm rest ≤ 8
  · rw [v_callS hc hd hp hk hst ha hn ⟨hr.1, hr.2, hw⟩ hm hl]
    exact propext ⟨fun q => ⟨hw, q⟩, fun q => q.2⟩
  · rw [V_no ((x0_of hc hd).trans (by unfold x1; (try dsimp only); rw [hk, hst]; show clX y 1 z (sa ++ rest) n = none; exact cl_no hn hw))]
    exact propext ⟨False.elim, fun q => hw q.1⟩
theorem w_callI {k z o : Nat} {sa as rest ls' : List Value} (hc : cdM y = cc) (hd : decode cc pc = .ok (.invokespecial k, 3)) (hp : pc + 3 = pc') (hk : lnkM (ocM y) k = some (2, z)) (hst : st = sa ++ rest) (ha : sa.reverse = .ref o :: as) (hn : naM z = sa.length) (hr : rfM z + 1 ≤ rfM y ∧ 8 + (mlM z + 11) + rlM z ≤ rlM y) (hm : wsm sa.reverse ≤ mlM z ∧ gdV sa.reverse = true) (hl : enV (mlM z) (.ref o :: as) = ls') : V y pc ls st n I L R Q = ((wsm rest ≤ 8 ∧ ip o < n) ∧ V z 0 ls' [] n I L R (KV y pc' ls rest Q)) := by
  by_cases hw : wsm rest ≤ 8
  · rw [v_callI hc hd hp hk hst ha hn ⟨hr.1, hr.2, hw⟩ hm hl]
    exact propext ⟨fun q => ⟨⟨hw, q.1⟩, q.2⟩, fun q => ⟨q.1.2, q.2⟩⟩
  · rw [V_no ((x0_of hc hd).trans (by unfold x1; (try dsimp only); rw [hk, hst]; show clX y 2 z (sa ++ rest) n = none; exact cl_no hn hw))]
    exact propext ⟨False.elim, fun q => hw q.1.1⟩
theorem w_callN {k z o : Nat} {sa as rest ls' : List Value} (hc : cdM y = cc) (hd : decode cc pc = .ok (.invokespecial k, 3)) (hp : pc + 3 = pc') (hk : lnkM (ocM y) k = some (3, z)) (hst : st = sa ++ rest) (ha : sa.reverse = .ref o :: as) (hn : naM z = sa.length) (hr : rfM z + 1 ≤ rfM y ∧ 8 + (mlM z + 11) + rlM z ≤ rlM y) (hm : wsm sa.reverse ≤ mlM z ∧ gdV sa.reverse = true) (hl : enV (mlM z) (.ref o :: as) = ls') : V y pc ls st n I L R Q = ((wsm rest ≤ 8 ∧ ip o < n) ∧ V z 0 ls' [] n I L R (KV y pc' ls rest Q)) := by
  by_cases hw : wsm rest ≤ 8
  · rw [v_callN hc hd hp hk hst ha hn ⟨hr.1, hr.2, hw⟩ hm hl]
    exact propext ⟨fun q => ⟨⟨hw, q.1⟩, q.2⟩, fun q => ⟨q.1.2, q.2⟩⟩
  · rw [V_no ((x0_of hc hd).trans (by unfold x1; (try dsimp only); rw [hk, hst]; show clX y 3 z (sa ++ rest) n = none; exact cl_no hn hw))]
    exact propext ⟨False.elim, fun q => hw q.1.1⟩
theorem w_callO {k a q l1 : Nat} (hc : cdM y = cc) (hd : decode cc pc = .ok (.invokespecial k, 3)) (hp : pc + 3 = pc') (hk : lnkM (ocM y) k = some (4, q)) (hr : 1 ≤ rfM y) (hq : rlM y = l1) : V y pc ls (.ref a :: st) n I L R Q = ((ip a < n ∧ wsm st + 12 ≤ l1) ∧ V y pc' ls st n I L R Q) := by
  subst hq
  rw [v_callO hc hd hp hk]
  exact propext ⟨fun q => ⟨⟨q.1.1, q.1.2.2⟩, q.2⟩, fun q => ⟨⟨q.1.1, hr, q.1.2⟩, q.2⟩⟩
theorem w_copy {k a b q l1 : Nat} {m dp sp : Int32} (hc : cdM y = cc) (hd : decode cc pc = .ok (.invokestatic k, 3)) (hp : pc + 3 = pc') (hk : lnkM (ocM y) k = some (5, q)) (hr : 1 ≤ rfM y) (hq : rlM y = l1) : V y pc ls (.int m :: .int dp :: .ref b :: .int sp :: .ref a :: st) n I L R Q = ((ip a < n ∧ ip b < n ∧ tgX n a = 0 ∧ tgX n b = 0 ∧ ¬ sp < 0 ∧ ¬ dp < 0 ∧ ¬ m < 0 ∧ sp.toNatClampNeg + m.toNatClampNeg ≤ lnX n I a ∧ dp.toNatClampNeg + m.toNatClampNeg ≤ lnX n I b ∧ wsm st + 18 ≤ l1) ∧ V y pc' ls st n (upr I b (va_cpy (I a) (I b) sp.toNatClampNeg dp.toNatClampNeg m.toNatClampNeg)) L R Q) := by
  subst hq
  rw [v_copy hc hd hp hk]
  exact propext ⟨fun q => ⟨⟨q.1.1, q.1.2.1, q.1.2.2.1, q.1.2.2.2.1, q.1.2.2.2.2.1, q.1.2.2.2.2.2.1, q.1.2.2.2.2.2.2.1, q.1.2.2.2.2.2.2.2.1, q.1.2.2.2.2.2.2.2.2.1, q.1.2.2.2.2.2.2.2.2.2.2⟩, q.2⟩, fun q => ⟨⟨q.1.1, q.1.2.1, q.1.2.2.1, q.1.2.2.2.1, q.1.2.2.2.2.1, q.1.2.2.2.2.2.1, q.1.2.2.2.2.2.2.1, q.1.2.2.2.2.2.2.2.1, q.1.2.2.2.2.2.2.2.2.1, hr, q.1.2.2.2.2.2.2.2.2.2⟩, q.2⟩⟩
theorem w_max {k q l1 : Nat} {a b : Int32} (hc : cdM y = cc) (hd : decode cc pc = .ok (.invokestatic k, 3)) (hp : pc + 3 = pc') (hk : lnkM (ocM y) k = some (6, q)) (hr : 1 ≤ rfM y) (hq : rlM y = l1) : V y pc ls (.int b :: .int a :: st) n I L R Q = (wsm st + 13 ≤ l1 ∧ V y pc' ls (.int (if a < b then b else a) :: st) n I L R Q) := by
  subst hp; subst hq
  rw [V_if (c := 1 ≤ rfM y ∧ (st.map fun v => v.category).sum + 13 ≤ rlM y) (a := nxX (pc + 3) ls (.int (if a < b then b else a) :: st) n I L R) ((x0_of hc hd).trans (by unfold x1; (try dsimp only); rw [hk]; rfl)) (fun h => V_nx h)]
  exact propext ⟨fun q => ⟨q.1.2, q.2⟩, fun q => ⟨⟨hr, q.1⟩, q.2⟩⟩
theorem w_min {k q l1 : Nat} {a b : Int32} (hc : cdM y = cc) (hd : decode cc pc = .ok (.invokestatic k, 3)) (hp : pc + 3 = pc') (hk : lnkM (ocM y) k = some (7, q)) (hr : 1 ≤ rfM y) (hq : rlM y = l1) : V y pc ls (.int b :: .int a :: st) n I L R Q = (wsm st + 13 ≤ l1 ∧ V y pc' ls (.int (if b < a then b else a) :: st) n I L R Q) := by
  subst hp; subst hq
  rw [V_if (c := 1 ≤ rfM y ∧ (st.map fun v => v.category).sum + 13 ≤ rlM y) (a := nxX (pc + 3) ls (.int (if b < a then b else a) :: st) n I L R) ((x0_of hc hd).trans (by unfold x1; (try dsimp only); rw [hk]; rfl)) (fun h => V_nx h)]
  exact propext ⟨fun q => ⟨q.1.2, q.2⟩, fun q => ⟨⟨hr, q.1⟩, q.2⟩⟩
theorem w_abs {k q l1 : Nat} {a : Int32} (hc : cdM y = cc) (hd : decode cc pc = .ok (.invokestatic k, 3)) (hp : pc + 3 = pc') (hk : lnkM (ocM y) k = some (8, q)) (hr : 1 ≤ rfM y) (hq : rlM y = l1) : V y pc ls (.int a :: st) n I L R Q = (wsm st + 13 ≤ l1 ∧ V y pc' ls (.int (if 0 ≤ a then a else 0 - a) :: st) n I L R Q) := by
  subst hp; subst hq
  rw [V_if (c := 1 ≤ rfM y ∧ (st.map fun v => v.category).sum + 13 ≤ rlM y) (a := nxX (pc + 3) ls (.int (if 0 ≤ a then a else 0 - a) :: st) n I L R) ((x0_of hc hd).trans (by unfold x1; (try dsimp only); rw [hk]; rfl)) (fun h => V_nx h)]
  exact propext ⟨fun q => ⟨q.1.2, q.2⟩, fun q => ⟨⟨hr, q.1⟩, q.2⟩⟩
end VC
