/-! READ: an E, purely -/
abbrev Sg : Type := Option Nat × Option Nat
def opc (o : Option Nat) : Cd := o.elim [] (fun k => [.inr (.inr (k - 27))])
def sgO (c : Sg) : Cd := opc c.2 ++ opc c.1
def nS (c : Sg) : Nat := (opc c.2).length + (opc c.1).length
def nL : List Sg → Nat
  | [] => 0
  | c :: r => nS c + nL r
def exP (kd pl vl : Nat → Nat) : Nat → PS → Bool → Sg → List Sg → Cd → PS × Cd
  | 0, S, _, _, _, out => (S, out)
  | r + 1, S, due, cur, stk, out =>
    if S.2.1 ≠ 0 then (S, out)
    else if due = true then
      (if kd S.1 = 32 then (if stk.length = 6 then (stopP pl 2 S, out) else exP kd pl vl r (takeP kd pl 32 S) true (none, none) (cur :: stk) out)
       else if kd S.1 = 24 then exP kd pl vl r (takeP kd pl 24 S) false cur stk (out ++ [.inl (vl S.1)])
       else if 14 ≤ kd S.1 ∧ kd S.1 < 23 then exP kd pl vl r (takeP kd pl (kd S.1) S) false cur stk (out ++ [.inr (.inl (kd S.1 - 14))])
       else (stopP pl 1 S, out))
    else if 27 ≤ kd S.1 ∧ kd S.1 ≤ 28 then exP kd pl vl r (takeP kd pl (kd S.1) S) true (some (kd S.1), none) stk (out ++ sgO cur)
    else if 29 ≤ kd S.1 ∧ kd S.1 ≤ 30 then exP kd pl vl r (takeP kd pl (kd S.1) S) true (cur.1, some (kd S.1)) stk (out ++ opc cur.2)
    else if kd S.1 = 33 ∧ stk ≠ [] then exP kd pl vl r (takeP kd pl 33 S) false (stk.headD (none, none)) stk.tail (out ++ sgO cur)
    else (if stk = [] then S else stopP pl 1 S, out ++ sgO cur)
theorem ex_f {kd pl vl : Nat → Nat} {r : Nat} {S : PS} {due : Bool} {cur : Sg} {stk : List Sg} {out : Cd} (h : S.2.1 ≠ 0) : exP kd pl vl r S due cur stk out = (S, out) := by
  cases r with
  | zero => rfl
  | succ r => unfold exP; rw [if_pos h]
theorem hg_ap : ∀ (c d : Cd) (n m : Nat), hg c n = some m → hg (c ++ d) n = hg d m := by
  intro c
  induction c with
  | nil => intro d n m h; rw [hg] at h; cases h; rfl
  | cons x c ih =>
    intro d n m h
    rcases x with a | a | a
    · show hg (.inl a :: (c ++ d)) n = _
      rw [hg] at h ⊢
      split at h
      · rename_i e; rw [if_pos e]; exact ih d _ m h
      · cases h
    · show hg (.inr (.inl a) :: (c ++ d)) n = _
      rw [hg] at h ⊢
      split at h
      · rename_i e; rw [if_pos e]; exact ih d _ m h
      · cases h
    · show hg (.inr (.inr a) :: (c ++ d)) n = _
      rw [hg] at h ⊢
      split at h
      · rename_i e; rw [if_pos e]; exact ih d _ m h
      · cases h
/-- signs as they can wait -/
def sgV (c : Sg) : Prop := (c.1 = none ∨ c.1 = some 27 ∨ c.1 = some 28) ∧ (c.2 = none ∨ c.2 = some 29 ∨ c.2 = some 30)
theorem sg_2 {c : Sg} (h : sgV c) : (opc c.1).length ≤ 1 ∧ (opc c.2).length ≤ 1 := by
  obtain ⟨h1, h2⟩ := h
  constructor
  · rcases h1 with h1 | h1 | h1 <;> rw [h1] <;> decide
  · rcases h2 with h2 | h2 | h2 <;> rw [h2] <;> decide
theorem nL_b : ∀ (l : List Sg), (∀ c ∈ l, sgV c) → nL l ≤ 2 * l.length := by
  intro l
  induction l with
  | nil => intro _; exact Nat.le_refl _
  | cons c r ih =>
    intro h
    have h1 := sg_2 (h c (List.mem_cons_self ..))
    have h2 := ih (fun x hx => h x (List.mem_cons_of_mem _ hx))
    show nS c + nL r ≤ 2 * (r.length + 1)
    unfold nS
    omega
theorem hg_op {o : Option Nat} {n : Nat} : hg (opc o) (n + 1 + (opc o).length) = some (n + 1) := by
  cases o with
  | none => rfl
  | some k =>
    show (if 2 ≤ n + 1 + 1 then hg [] (n + 1 + 1 - 1) else none) = _
    rw [if_pos (by omega)]
    rfl
theorem hg_sg {c : Sg} {n : Nat} : hg (sgO c) (n + 1 + nS c) = some (n + 1) := by
  unfold sgO nS
  rw [hg_ap (opc c.2) (opc c.1) _ (n + 1 + (opc c.1).length)]
  · exact hg_op
  · have := hg_op (o := c.2) (n := n + (opc c.1).length)
    rw [show n + 1 + ((opc c.2).length + (opc c.1).length) = n + (opc c.1).length + 1 + (opc c.2).length by omega, this]
    congr 1
    omega
theorem ok_op {o : Option Nat} (h : o = none ∨ o = some 27 ∨ o = some 28 ∨ o = some 29 ∨ o = some 30) : ∀ x ∈ opc o, okO x := by
  rcases h with h | h | h | h | h <;> rw [h] <;> intro x hx
  · cases hx
  · rw [List.mem_singleton.mp hx]; show 27 - 27 < 4; decide
  · rw [List.mem_singleton.mp hx]; show 28 - 27 < 4; decide
  · rw [List.mem_singleton.mp hx]; show 29 - 27 < 4; decide
  · rw [List.mem_singleton.mp hx]; show 30 - 27 < 4; decide
theorem ok_sg {c : Sg} (h : sgV c) : ∀ x ∈ sgO c, okO x := by
  intro x hx
  unfold sgO at hx
  rcases List.mem_append.mp hx with hx | hx
  · exact ok_op (by rcases h.2 with q | q | q <;> simp [q]) x hx
  · exact ok_op (by rcases h.1 with q | q | q <;> simp [q]) x hx
/-- what holds of an E half read -/
def EXI (due : Bool) (cur : Sg) (stk : List Sg) (out : Cd) : Prop := hg out 0 = some (nS cur + nL stk + (if due = true then 0 else 1)) ∧ (∀ x ∈ out, okO x) ∧ stk.length ≤ 6 ∧ sgV cur ∧ ∀ c ∈ stk, sgV c
theorem EXI_open {cur : Sg} {stk : List Sg} {out : Cd} (h : EXI true cur stk out) (h6 : stk.length ≠ 6) : EXI true (none, none) (cur :: stk) out := by
  obtain ⟨h1, h2, h3, h4, h5⟩ := h
  refine ⟨?_, h2, by show stk.length + 1 ≤ 6; omega, ⟨Or.inl rfl, Or.inl rfl⟩, fun c hc => ?_⟩
  · rw [h1]
    show some (nS cur + nL stk + 0) = some (0 + (nS cur + nL stk) + 0)
    congr 1
    omega
  · rcases List.mem_cons.mp hc with q | q
    · rw [q]; exact h4
    · exact h5 c q
theorem EXI_unit {cur : Sg} {stk : List Sg} {out : Cd} {x : Nat ⊕ (Nat ⊕ Nat)} (hx : okO x) (hu : ∀ n, n < 15 → hg [x] n = some (n + 1)) (h : EXI true cur stk out) : EXI false cur stk (out ++ [x]) := by
  obtain ⟨h1, h2, h3, h4, h5⟩ := h
  have b1 := sg_2 h4
  have b2 := nL_b stk h5
  refine ⟨?_, fun y hy => ?_, h3, h4, h5⟩
  · rw [hg_ap out [x] 0 _ h1]
    show hg [x] (nS cur + nL stk + 0) = some (nS cur + nL stk + 1)
    unfold nS at *
    exact hu _ (by omega)
  · rcases List.mem_append.mp hy with q | q
    · exact h2 y q
    · rw [List.mem_singleton.mp q]; exact hx
theorem EXI_sum {cur : Sg} {stk : List Sg} {out : Cd} {k : Nat} (hk : k = 27 ∨ k = 28) (h : EXI false cur stk out) : EXI true (some k, none) stk (out ++ sgO cur) := by
  obtain ⟨h1, h2, h3, h4, h5⟩ := h
  refine ⟨?_, fun y hy => ?_, h3, ⟨?_, Or.inl rfl⟩, h5⟩
  · rw [hg_ap out _ 0 _ h1]
    show hg (sgO cur) (nS cur + nL stk + 1) = some (1 + nL stk + 0)
    rw [show nS cur + nL stk + 1 = nL stk + 1 + nS cur by omega, hg_sg]
    congr 1
    omega
  · rcases List.mem_append.mp hy with q | q
    · exact h2 y q
    · exact ok_sg h4 y q
  · rcases hk with hk | hk <;> rw [hk]
    · exact Or.inr (Or.inl rfl)
    · exact Or.inr (Or.inr rfl)
theorem EXI_mul {cur : Sg} {stk : List Sg} {out : Cd} {k : Nat} (hk : k = 29 ∨ k = 30) (h : EXI false cur stk out) : EXI true (cur.1, some k) stk (out ++ opc cur.2) := by
  obtain ⟨h1, h2, h3, h4, h5⟩ := h
  refine ⟨?_, fun y hy => ?_, h3, ⟨h4.1, ?_⟩, h5⟩
  · rw [hg_ap out _ 0 _ h1]
    show hg (opc cur.2) (nS cur + nL stk + 1) = some (1 + (opc cur.1).length + nL stk + 0)
    unfold nS
    rw [show (opc cur.2).length + (opc cur.1).length + nL stk + 1 = (opc cur.1).length + nL stk + 1 + (opc cur.2).length by omega, hg_op]
    congr 1
    omega
  · rcases List.mem_append.mp hy with q | q
    · exact h2 y q
    · exact ok_op (by rcases h4.2 with z | z | z <;> simp [z]) y q
  · rcases hk with hk | hk <;> rw [hk]
    · exact Or.inr (Or.inl rfl)
    · exact Or.inr (Or.inr rfl)
theorem EXI_close {cur c : Sg} {stk : List Sg} {out : Cd} (h : EXI false cur (c :: stk) out) : EXI false c stk (out ++ sgO cur) := by
  obtain ⟨h1, h2, h3, h4, h5⟩ := h
  refine ⟨?_, fun y hy => ?_, by have : stk.length + 1 ≤ 6 := h3; omega, h5 c (List.mem_cons_self ..), fun x hx => h5 x (List.mem_cons_of_mem _ hx)⟩
  · rw [hg_ap out _ 0 _ h1]
    show hg (sgO cur) (nS cur + (nS c + nL stk) + 1) = some (nS c + nL stk + 1)
    rw [show nS cur + (nS c + nL stk) + 1 = nS c + nL stk + 1 + nS cur by omega, hg_sg]
  · rcases List.mem_append.mp hy with q | q
    · exact h2 y q
    · exact ok_sg h4 y q
theorem EXI_end {cur : Sg} {out : Cd} (h : EXI false cur [] out) : WFc (out ++ sgO cur) := by
  obtain ⟨h1, h2, h3, h4, h5⟩ := h
  refine ⟨?_, fun y hy => ?_⟩
  · rw [hg_ap out _ 0 _ h1]
    show hg (sgO cur) (nS cur + 0 + 1) = some 1
    rw [show nS cur + 0 + 1 = 0 + 1 + nS cur by omega, hg_sg]
  · rcases List.mem_append.mp hy with q | q
    · exact h2 y q
    · exact ok_sg h4 y q
theorem EXI_0 : EXI true (none, none) [] [] := ⟨rfl, fun x hx => (by cases hx), by decide, ⟨Or.inl rfl, Or.inl rfl⟩, fun c hc => (by cases hc)⟩
