/-! each step of the small machine is a step of the machine -/
def jkV (v : Value) : Bool := match v with
  | .retAddr _ => true
  | _ => false
def prs (G : GX) : Nat → List Value → List (Nat × Value)
  | _, [] => []
  | i, v :: r => if jkV v then prs G (i + 1) r else (i, cnc G v) :: prs G (i + 1) r
theorem prs_to {G : GX} : ∀ {ls : List Value} {i : Nat} {q : Nat × Value}, q ∈ prs G i ls → ∃ (k : Nat) (v : Value), ls[k]? = some v ∧ jkV v = false ∧ q = (i + k, cnc G v)
  | [], i, q, h => by simp [prs] at h
  | v :: r, i, q, h => by
    unfold prs at h
    by_cases hj : jkV v = true
    · rw [if_pos hj] at h
      obtain ⟨k, w, h1, h2, h3⟩ := prs_to h
      exact ⟨k + 1, w, by simpa using h1, h2, by rw [h3]; congr 1; omega⟩
    · rw [if_neg hj] at h
      rcases List.mem_cons.mp h with h | h
      · exact ⟨0, v, rfl, by simpa using hj, h⟩
      · obtain ⟨k, w, h1, h2, h3⟩ := prs_to h
        exact ⟨k + 1, w, by simpa using h1, h2, by rw [h3]; congr 1; omega⟩
theorem prs_of {G : GX} : ∀ {ls : List Value} {i k : Nat} {v : Value}, ls[k]? = some v → jkV v = false → (i + k, cnc G v) ∈ prs G i ls
  | [], i, k, v, h, _ => by simp at h
  | w :: r, i, 0, v, h, hj => by
    simp at h
    subst h
    unfold prs
    rw [if_neg (by rw [hj]; decide)]
    exact List.mem_cons_self
  | w :: r, i, k + 1, v, h, hj => by
    have h1 : r[k]? = some v := by simpa using h
    have h2 := prs_of (G := G) (i := i + 1) h1 hj
    rw [show i + 1 + k = i + (k + 1) by omega] at h2
    unfold prs
    split
    · exact h2
    · exact List.mem_cons_of_mem _ h2
theorem prs_at {G : GX} {ls : List Value} {lsM : Array Slot} {nL k : Nat} {v : Value} (h : lv_has lsM nL (prs G 0 ls)) (hk : ls[k]? = some v) (hj : jkV v = false) : lsM[k]? = some (.val (cnc G v)) := by
  have := h.2.2 _ (prs_of (G := G) (i := 0) hk hj)
  simpa using this
theorem lsV_get : ∀ (ls : List Value) (i : Nat) (v : Value) (k : Nat), i < ls.length → (lsV ls i v)[k]? = if k = i then some v else if k + 1 = i then (ls[k]?).map dlV else ls[k]?
  | [], i, v, k, h => by simp at h
  | a :: r, 0, v, k, h => by
    cases k with
    | zero => simp [lsV]
    | succ k => simp [lsV]
  | a :: r, 1, v, k, h => by
    have ih := lsV_get r 0 v
    cases k with
    | zero => simp [lsV]
    | succ k =>
      have h2 : 0 < r.length := by simp at h; omega
      rw [lsV]
      simp only [List.getElem?_cons_succ]
      rw [ih k h2]
      by_cases hk : k = 0
      · subst hk; simp
      · rw [if_neg hk, if_neg (by omega), if_neg (by omega), if_neg (by omega)]
  | a :: r, i + 2, v, k, h => by
    have ih := lsV_get r (i + 1) v
    cases k with
    | zero => simp [lsV]
    | succ k =>
      have h2 : i + 1 < r.length := by simp at h; omega
      rw [lsV]
      simp only [List.getElem?_cons_succ]
      rw [ih k h2]
      by_cases hk : k = i + 1
      · subst hk; simp
      · by_cases hk2 : k = i
        · subst hk2; simp
        · rw [if_neg hk, if_neg (show ¬ k + 1 = i + 1 by omega), if_neg (show ¬ k + 1 = i + 2 by omega), if_neg (show ¬ k + 1 + 1 = i + 2 by omega)]
theorem lsV_len : ∀ (ls : List Value) (i : Nat) (v : Value), (lsV ls i v).length = ls.length
  | [], i, v => by unfold lsV; rfl
  | a :: r, 0, v => by simp [lsV]
  | a :: r, 1, v => by simp [lsV, lsV_len r 0 v]
  | a :: r, i + 2, v => by simp [lsV, lsV_len r (i + 1) v]
theorem lsL_get : ∀ (ls : List Value) (i : Nat) (v : Value) (k : Nat), i + 1 < ls.length → (lsL ls i v)[k]? = if k = i then some v else if k = i + 1 then some (.retAddr 0) else if k + 1 = i then (ls[k]?).map dlV else ls[k]?
  | [], i, v, k, h => by simp at h
  | [a], i, v, k, h => by simp at h
  | a :: b :: r, 0, v, k, h => by
    match k with
    | 0 => simp [lsL]
    | 1 => simp [lsL]
    | k + 2 => simp [lsL]
  | a :: b :: r, 1, v, k, h => by
    have ih := lsL_get (b :: r) 0 v
    cases k with
    | zero => simp [lsL]
    | succ k =>
      have h2 : 0 + 1 < (b :: r).length := by simp at h ⊢; omega
      rw [lsL]
      simp only [List.getElem?_cons_succ]
      rw [ih k h2]
      by_cases hk : k = 0
      · subst hk; simp
      · rw [if_neg hk, if_neg (show ¬ k + 1 = 1 by omega)]
        by_cases hk2 : k = 0 + 1
        · rw [if_pos hk2, if_pos (by omega)]
        · rw [if_neg hk2, if_neg (show ¬ k + 1 = 0 by omega), if_neg (show ¬ k + 1 = 1 + 1 by omega), if_neg (show ¬ k + 1 + 1 = 1 by omega)]
  | a :: b :: r, i + 2, v, k, h => by
    have ih := lsL_get (b :: r) (i + 1) v
    cases k with
    | zero => simp [lsL]
    | succ k =>
      have h2 : i + 1 + 1 < (b :: r).length := by simp at h ⊢; omega
      rw [lsL]
      simp only [List.getElem?_cons_succ]
      rw [ih k h2]
      by_cases hk : k = i + 1
      · subst hk; simp
      · rw [if_neg hk, if_neg (show ¬ k + 1 = i + 2 by omega)]
        by_cases hk2 : k = i + 1 + 1
        · rw [if_pos hk2, if_pos (by omega)]
        · rw [if_neg hk2, if_neg (show ¬ k + 1 = i + 2 + 1 by omega)]
          by_cases hk3 : k + 1 = i + 1
          · rw [if_pos hk3, if_pos (by omega)]
          · rw [if_neg hk3, if_neg (by omega)]
theorem lsL_len : ∀ (ls : List Value) (i : Nat) (v : Value), (lsL ls i v).length = ls.length
  | [], i, v => by unfold lsL; rfl
  | [a], 0, v => by simp [lsL]
  | [a], 1, v => by simp [lsL]
  | [a], i + 2, v => by simp [lsL]
  | a :: b :: r, 0, v => by simp [lsL]
  | a :: b :: r, 1, v => by simp [lsL, lsL_len (b :: r) 0 v]
  | a :: b :: r, i + 2, v => by simp [lsL, lsL_len (b :: r) (i + 1) v]
theorem dl_in {u : Value} (h : jkV (dlV u) = false) : dlV u = u ∧ ¬ u.category = 2 ∨ dlV u = u := by
  cases u <;> first | exact Or.inr rfl | (simp [dlV, jkV] at h)
theorem dl_cat {u : Value} (h : jkV (dlV u) = false) (hj : ∀ b, u ≠ .double b) : dlV u = u ∧ ¬ u.category = 2 := by
  cases u with
  | long v => simp [dlV, jkV] at h
  | double b => exact absurd rfl (hj b)
  | _ => exact ⟨rfl, by simp [Value.category]⟩
/-- no doubles among the locals -/
def nodb (ls : List Value) : Prop := ∀ (k : Nat) (b : UInt64), ls[k]? ≠ some (.double b)
theorem lv_sto {G : GX} {ls : List Value} {ls' : Array Slot} {nL i : Nat} {v : Value} (hi : i < ls.length) (hd : nodb ls) (h : lv_has ls' nL ((i, cnc G v) :: (prs G 0 ls).filter (fun q => !(q.1 == i) && !(q.1 + 1 == i && q.2.category == 2)))) : lv_has ls' nL (prs G 0 (lsV ls i v)) := by
  refine ⟨h.1, h.2.1, fun q hq => h.2.2 q ?_⟩
  obtain ⟨k, w, h1, h2, rfl⟩ := prs_to hq
  rw [lsV_get ls i v k hi] at h1
  by_cases hk : k = i
  · rw [if_pos hk] at h1
    cases h1
    subst hk
    rw [Nat.zero_add]
    exact List.mem_cons_self
  · rw [if_neg hk] at h1
    refine List.mem_cons_of_mem _ (List.mem_filter.mpr ?_)
    by_cases hk2 : k + 1 = i
    · rw [if_pos hk2] at h1
      obtain ⟨u, hu, rfl⟩ := Option.map_eq_some_iff.mp h1
      obtain ⟨e1, e2⟩ := dl_cat h2 (fun b e => hd k b (by rw [hu, e]))
      rw [e1] at h2 ⊢
      refine ⟨prs_of hu h2, ?_⟩
      simp [hk, cnc_cat, e2]
    · rw [if_neg hk2] at h1
      refine ⟨prs_of h1 h2, ?_⟩
      simp [hk, hk2]
theorem lv_stl {G : GX} {ls : List Value} {ls' : Array Slot} {nL i : Nat} {v : Value} (hi : i + 1 < ls.length) (hd : nodb ls) (h : lv_has ls' nL ((i, cnc G v) :: (prs G 0 ls).filter (fun q => !(q.1 == i) && (!(q.1 == i + 1) && !(q.1 + 1 == i && q.2.category == 2))))) : lv_has ls' nL (prs G 0 (lsL ls i v)) := by
  refine ⟨h.1, h.2.1, fun q hq => h.2.2 q ?_⟩
  obtain ⟨k, w, h1, h2, rfl⟩ := prs_to hq
  rw [lsL_get ls i v k hi] at h1
  by_cases hk : k = i
  · rw [if_pos hk] at h1
    cases h1
    subst hk
    rw [Nat.zero_add]
    exact List.mem_cons_self
  · rw [if_neg hk] at h1
    refine List.mem_cons_of_mem _ (List.mem_filter.mpr ?_)
    by_cases hk3 : k = i + 1
    · rw [if_pos hk3] at h1
      cases h1
      cases h2
    rw [if_neg hk3] at h1
    by_cases hk2 : k + 1 = i
    · rw [if_pos hk2] at h1
      obtain ⟨u, hu, rfl⟩ := Option.map_eq_some_iff.mp h1
      obtain ⟨e1, e2⟩ := dl_cat h2 (fun b e => hd k b (by rw [hu, e]))
      rw [e1] at h2 ⊢
      refine ⟨prs_of hu h2, ?_⟩
      simp [hk, hk3, cnc_cat, e2]
    · rw [if_neg hk2] at h1
      refine ⟨prs_of h1 h2, ?_⟩
      simp [hk, hk2, hk3]
theorem nodb_V {ls : List Value} {i : Nat} {v : Value} (h : nodb ls) (hi : i < ls.length) (hv : ∀ b, v ≠ .double b) : nodb (lsV ls i v) := by
  intro k b e
  rw [lsV_get ls i v k hi] at e
  split at e
  · cases e; exact hv b rfl
  · split at e
    · obtain ⟨u, hu, e2⟩ := Option.map_eq_some_iff.mp e
      cases u with
      | double d => simp [dlV] at e2; rw [e2] at hu; exact h k b hu
      | _ => simp [dlV] at e2
    · exact h k b e
theorem nodb_L {ls : List Value} {i : Nat} {v : Value} (h : nodb ls) (hi : i + 1 < ls.length) (hv : ∀ b, v ≠ .double b) : nodb (lsL ls i v) := by
  intro k b e
  rw [lsL_get ls i v k hi] at e
  split at e
  · cases e; exact hv b rfl
  · split at e
    · cases e
    · split at e
      · obtain ⟨u, hu, e2⟩ := Option.map_eq_some_iff.mp e
        cases u with
        | double d => simp [dlV] at e2; rw [e2] at hu; exact h k b hu
        | _ => simp [dlV] at e2
      · exact h k b e
def szX (k : Nat) : Nat := match shpL[pm k]? with
  | some (.inl c) => nfX c
  | some (.inr q) => q.2
  | none => 0
def slX : Nat → Nat
  | 0 => 0
  | k + 1 => slX k + szX k
/-- a method that runs: its code, its tables, its room -/
def CX (G : GX) (p : Program) (Rm : Room) (s : State) (m : MethodId) (args : Array Value) (meth : Method) (c : Code) (y n0 : Nat) : Prop :=
  p.tables.exec = Jvm.exec ∧ c.code = cdM y ∧ c.maxLocals = mlM y ∧ meth.sig.returnType = rtM y ∧ s.vm.findClass (cn (ocM y)) = some m.cls ∧ (∀ w ∈ tbX, w.before args s = true) ∧ meth.locks = false ∧ rfM y ≤ Rm.frames ∧ rlM y ≤ Rm.locals ∧ ((nmM y).name = "<init>" → meth.name = "<init>") ∧ KX G s ∧ s.heap.size = G.1 + n0
/-- from here on the machine comes to Q -/
def GD (l : Launch) (G : GX) (p : Program) (e : Env) (Rm : Room) (s : State) (m : MethodId) (args : Array Value) (below : List Frame) (meth : Method) (c : Code) (Q : State → Prop) (y n0 pc : Nat) (ls st : List Value) (n : Nat) (I : AI) (L : AL) (R : AR) : Prop :=
  ls.length = mlM y → nodb ls → ∀ (H : Heap) (locs : List Loc) (lsM : Array Slot), HX G n I L R H → va_S (AX G) s.heap H locs → lv_has lsM (mlM y) (prs G 0 ls) → W p l e Rm s m args below meth c H locs (n - n0) (slX n - slX n0) Q (F0 m pc lsM (st.map (cnc G)))
section SX
variable {l : Launch} {G : GX} {p : Program} {e : Env} {Rm : Room} {s : State} {m : MethodId} {args : Array Value} {below : List Frame} {meth : Method} {c : Code} {Q : State → Prop} {y n0 pc n : Nat} {ls st : List Value} {I : AI} {L : AL} {R : AR}
theorem CX.x (C : CX G p Rm s m args meth c y n0) : p.tables.exec = Jvm.exec := C.1
theorem CX.b (C : CX G p Rm s m args meth c y n0) : c.code = cdM y := C.2.1
theorem CX.ml (C : CX G p Rm s m args meth c y n0) : c.maxLocals = mlM y := C.2.2.1
theorem CX.rt (C : CX G p Rm s m args meth c y n0) : meth.sig.returnType = rtM y := C.2.2.2.1
theorem CX.ow (C : CX G p Rm s m args meth c y n0) : s.vm.findClass (cn (ocM y)) = some m.cls := C.2.2.2.2.1
theorem CX.ts (C : CX G p Rm s m args meth c y n0) : ∀ w ∈ tbX, w.before args s = true := C.2.2.2.2.2.1
theorem CX.lk (C : CX G p Rm s m args meth c y n0) : meth.locks = false := C.2.2.2.2.2.2.1
theorem CX.rf (C : CX G p Rm s m args meth c y n0) : rfM y ≤ Rm.frames := C.2.2.2.2.2.2.2.1
theorem CX.rl (C : CX G p Rm s m args meth c y n0) : rlM y ≤ Rm.locals := C.2.2.2.2.2.2.2.2.1
theorem CX.nm (C : CX G p Rm s m args meth c y n0) : (nmM y).name = "<init>" → meth.name = "<init>" := C.2.2.2.2.2.2.2.2.2.1
theorem CX.kx (C : CX G p Rm s m args meth c y n0) : KX G s := C.2.2.2.2.2.2.2.2.2.2.1
theorem CX.sz (C : CX G p Rm s m args meth c y n0) : s.heap.size = G.1 + n0 := C.2.2.2.2.2.2.2.2.2.2.2
theorem s_iconst {v : Int} (C : CX G p Rm s m args meth c y n0) (hd : decode (cdM y) pc = .ok (.iconst v, 1)) (k : GD l G p e Rm s m args below meth c Q y n0 (pc + 1) ls (.int (Int32.ofInt v) :: st) n I L R) : GD l G p e Rm s m args below meth c Q y n0 pc ls (st) n I L R := fun hlen hdb H locs lsM hH hS hl => lv_iconst C.x C.b hd rfl (k hlen hdb H locs lsM hH hS hl)
theorem s_bipush {v : Int} (C : CX G p Rm s m args meth c y n0) (hd : decode (cdM y) pc = .ok (.bipush v, 2)) (k : GD l G p e Rm s m args below meth c Q y n0 (pc + 2) ls (.int (Int8.ofInt v).toInt32 :: st) n I L R) : GD l G p e Rm s m args below meth c Q y n0 pc ls (st) n I L R := fun hlen hdb H locs lsM hH hS hl => lv_bipush C.x C.b hd rfl (k hlen hdb H locs lsM hH hS hl)
theorem s_sipush {v : Int} (C : CX G p Rm s m args meth c y n0) (hd : decode (cdM y) pc = .ok (.sipush v, 3)) (k : GD l G p e Rm s m args below meth c Q y n0 (pc + 3) ls (.int (Int16.ofInt v).toInt32 :: st) n I L R) : GD l G p e Rm s m args below meth c Q y n0 pc ls (st) n I L R := fun hlen hdb H locs lsM hH hS hl => lv_sipush C.x C.b hd rfl (k hlen hdb H locs lsM hH hS hl)
theorem s_lconst {v : Fin 2} (C : CX G p Rm s m args meth c y n0) (hd : decode (cdM y) pc = .ok (.lconst v, 1)) (k : GD l G p e Rm s m args below meth c Q y n0 (pc + 1) ls (.long (Int64.ofNat (v : Nat)) :: st) n I L R) : GD l G p e Rm s m args below meth c Q y n0 pc ls (st) n I L R := fun hlen hdb H locs lsM hH hS hl => lv_lconst C.x C.b hd rfl (k hlen hdb H locs lsM hH hS hl)
theorem s_iload {i : Nat} {v : Int32} (C : CX G p Rm s m args meth c y n0) (hd : decode (cdM y) pc = .ok (.iload i, 2)) (hv : ls[i]? = some (.int v)) (k : GD l G p e Rm s m args below meth c Q y n0 (pc + 2) ls (.int v :: st) n I L R) : GD l G p e Rm s m args below meth c Q y n0 pc ls (st) n I L R := fun hlen hdb H locs lsM hH hS hl => lv_iload C.x C.b hd (prs_at hl hv rfl) (k hlen hdb H locs lsM hH hS hl)
theorem s_iload_n {i : Fin 4} {v : Int32} (C : CX G p Rm s m args meth c y n0) (hd : decode (cdM y) pc = .ok (.iload_n i, 1)) (hv : ls[(i : Nat)]? = some (.int v)) (k : GD l G p e Rm s m args below meth c Q y n0 (pc + 1) ls (.int v :: st) n I L R) : GD l G p e Rm s m args below meth c Q y n0 pc ls (st) n I L R := fun hlen hdb H locs lsM hH hS hl => lv_iload_n C.x C.b hd rfl (prs_at hl hv rfl) (k hlen hdb H locs lsM hH hS hl)
theorem s_lload {i : Nat} {v : Int64} (C : CX G p Rm s m args meth c y n0) (hd : decode (cdM y) pc = .ok (.lload i, 2)) (hv : ls[i]? = some (.long v)) (k : GD l G p e Rm s m args below meth c Q y n0 (pc + 2) ls (.long v :: st) n I L R) : GD l G p e Rm s m args below meth c Q y n0 pc ls (st) n I L R := fun hlen hdb H locs lsM hH hS hl => lv_lload C.x C.b hd (prs_at hl hv rfl) (k hlen hdb H locs lsM hH hS hl)
theorem s_lload_n {i : Fin 4} {v : Int64} (C : CX G p Rm s m args meth c y n0) (hd : decode (cdM y) pc = .ok (.lload_n i, 1)) (hv : ls[(i : Nat)]? = some (.long v)) (k : GD l G p e Rm s m args below meth c Q y n0 (pc + 1) ls (.long v :: st) n I L R) : GD l G p e Rm s m args below meth c Q y n0 pc ls (st) n I L R := fun hlen hdb H locs lsM hH hS hl => lv_lload_n C.x C.b hd rfl (prs_at hl hv rfl) (k hlen hdb H locs lsM hH hS hl)
theorem cnc_ref (C : CX G p Rm s m args meth c y n0) {v : Nat} (h : v < 1006) : ∃ a, cnc G (.ref v) = .ref a := by
  obtain ⟨k1, ⟨b, ⟨b1, b0⟩, b2, b3, b4⟩, ⟨adK, adV, v1, v2, v3, v4, v5, v6, v7⟩, z1, z2, nn⟩ := C.kx
  rcases (show v < 1000 ∨ v = 1000 ∨ v = 1001 ∨ v = 1002 ∨ v = 1003 ∨ v = 1004 ∨ v = 1005 by omega) with h | rfl | rfl | rfl | rfl | rfl | rfl
  · exact ⟨_, cnc_r G h⟩
  · exact ⟨b, by rw [cnc_x G (by decide), b1]; rfl⟩
  · exact ⟨b, by rw [cnc_x G (by decide), b0]; rfl⟩
  · exact ⟨adV 0, by rw [cnc_x G (by decide), v4]; rfl⟩
  · exact ⟨adV 1, by rw [cnc_x G (by decide), v5]; rfl⟩
  · exact ⟨adK 0, by rw [cnc_x G (by decide), v2]; rfl⟩
  · exact ⟨adK 1, by rw [cnc_x G (by decide), v3]; rfl⟩
theorem s_iadd {a b : Int32} (C : CX G p Rm s m args meth c y n0) (hd : decode (cdM y) pc = .ok (.iadd, 1)) (k : GD l G p e Rm s m args below meth c Q y n0 (pc + 1) ls (.int (a + b) :: st) n I L R) : GD l G p e Rm s m args below meth c Q y n0 pc ls (.int b :: .int a :: st) n I L R := fun hlen hdb H locs lsM hH hS hl => lv_iadd C.x C.b hd (k hlen hdb H locs lsM hH hS hl)
theorem s_isub {a b : Int32} (C : CX G p Rm s m args meth c y n0) (hd : decode (cdM y) pc = .ok (.isub, 1)) (k : GD l G p e Rm s m args below meth c Q y n0 (pc + 1) ls (.int (a - b) :: st) n I L R) : GD l G p e Rm s m args below meth c Q y n0 pc ls (.int b :: .int a :: st) n I L R := fun hlen hdb H locs lsM hH hS hl => lv_isub C.x C.b hd (k hlen hdb H locs lsM hH hS hl)
theorem s_imul {a b : Int32} (C : CX G p Rm s m args meth c y n0) (hd : decode (cdM y) pc = .ok (.imul, 1)) (k : GD l G p e Rm s m args below meth c Q y n0 (pc + 1) ls (.int (a * b) :: st) n I L R) : GD l G p e Rm s m args below meth c Q y n0 pc ls (.int b :: .int a :: st) n I L R := fun hlen hdb H locs lsM hH hS hl => lv_imul C.x C.b hd (k hlen hdb H locs lsM hH hS hl)
theorem s_iand {a b : Int32} (C : CX G p Rm s m args meth c y n0) (hd : decode (cdM y) pc = .ok (.iand, 1)) (k : GD l G p e Rm s m args below meth c Q y n0 (pc + 1) ls (.int (a &&& b) :: st) n I L R) : GD l G p e Rm s m args below meth c Q y n0 pc ls (.int b :: .int a :: st) n I L R := fun hlen hdb H locs lsM hH hS hl => lv_iand C.x C.b hd (k hlen hdb H locs lsM hH hS hl)
theorem s_ior {a b : Int32} (C : CX G p Rm s m args meth c y n0) (hd : decode (cdM y) pc = .ok (.ior, 1)) (k : GD l G p e Rm s m args below meth c Q y n0 (pc + 1) ls (.int (a ||| b) :: st) n I L R) : GD l G p e Rm s m args below meth c Q y n0 pc ls (.int b :: .int a :: st) n I L R := fun hlen hdb H locs lsM hH hS hl => lv_ior C.x C.b hd (k hlen hdb H locs lsM hH hS hl)
theorem s_ixor {a b : Int32} (C : CX G p Rm s m args meth c y n0) (hd : decode (cdM y) pc = .ok (.ixor, 1)) (k : GD l G p e Rm s m args below meth c Q y n0 (pc + 1) ls (.int (a ^^^ b) :: st) n I L R) : GD l G p e Rm s m args below meth c Q y n0 pc ls (.int b :: .int a :: st) n I L R := fun hlen hdb H locs lsM hH hS hl => lv_ixor C.x C.b hd (k hlen hdb H locs lsM hH hS hl)
theorem s_ishl {a b : Int32} (C : CX G p Rm s m args meth c y n0) (hd : decode (cdM y) pc = .ok (.ishl, 1)) (k : GD l G p e Rm s m args below meth c Q y n0 (pc + 1) ls (.int (a <<< (b &&& 31)) :: st) n I L R) : GD l G p e Rm s m args below meth c Q y n0 pc ls (.int b :: .int a :: st) n I L R := fun hlen hdb H locs lsM hH hS hl => lv_ishl C.x C.b hd (k hlen hdb H locs lsM hH hS hl)
theorem s_ishr {a b : Int32} (C : CX G p Rm s m args meth c y n0) (hd : decode (cdM y) pc = .ok (.ishr, 1)) (k : GD l G p e Rm s m args below meth c Q y n0 (pc + 1) ls (.int (a >>> (b &&& 31)) :: st) n I L R) : GD l G p e Rm s m args below meth c Q y n0 pc ls (.int b :: .int a :: st) n I L R := fun hlen hdb H locs lsM hH hS hl => lv_ishr C.x C.b hd (k hlen hdb H locs lsM hH hS hl)
theorem s_iushr {a b : Int32} (C : CX G p Rm s m args meth c y n0) (hd : decode (cdM y) pc = .ok (.iushr, 1)) (k : GD l G p e Rm s m args below meth c Q y n0 (pc + 1) ls (.int (a.toUInt32 >>> (b.toUInt32 &&& Int32.toUInt32 31)).toInt32 :: st) n I L R) : GD l G p e Rm s m args below meth c Q y n0 pc ls (.int b :: .int a :: st) n I L R := fun hlen hdb H locs lsM hH hS hl => lv_iushr C.x C.b hd rfl (k hlen hdb H locs lsM hH hS hl)
theorem s_idiv {a b : Int32} (C : CX G p Rm s m args meth c y n0) (hd : decode (cdM y) pc = .ok (.idiv, 1)) (h0 : ¬ b = 0) (k : GD l G p e Rm s m args below meth c Q y n0 (pc + 1) ls (.int (a / b) :: st) n I L R) : GD l G p e Rm s m args below meth c Q y n0 pc ls (.int b :: .int a :: st) n I L R := fun hlen hdb H locs lsM hH hS hl => lv_idiv C.x C.b hd h0 (k hlen hdb H locs lsM hH hS hl)
theorem s_irem {a b : Int32} (C : CX G p Rm s m args meth c y n0) (hd : decode (cdM y) pc = .ok (.irem, 1)) (h0 : ¬ b = 0) (k : GD l G p e Rm s m args below meth c Q y n0 (pc + 1) ls (.int (a - a / b * b) :: st) n I L R) : GD l G p e Rm s m args below meth c Q y n0 pc ls (.int b :: .int a :: st) n I L R := fun hlen hdb H locs lsM hH hS hl => lv_irem C.x C.b hd h0 (k hlen hdb H locs lsM hH hS hl)
theorem s_ineg {a : Int32} (C : CX G p Rm s m args meth c y n0) (hd : decode (cdM y) pc = .ok (.ineg, 1)) (k : GD l G p e Rm s m args below meth c Q y n0 (pc + 1) ls (.int (-a) :: st) n I L R) : GD l G p e Rm s m args below meth c Q y n0 pc ls (.int a :: st) n I L R := fun hlen hdb H locs lsM hH hS hl => lv_ineg C.x C.b hd (k hlen hdb H locs lsM hH hS hl)
theorem s_ladd {a b : Int64} (C : CX G p Rm s m args meth c y n0) (hd : decode (cdM y) pc = .ok (.ladd, 1)) (k : GD l G p e Rm s m args below meth c Q y n0 (pc + 1) ls (.long (a + b) :: st) n I L R) : GD l G p e Rm s m args below meth c Q y n0 pc ls (.long b :: .long a :: st) n I L R := fun hlen hdb H locs lsM hH hS hl => lv_ladd C.x C.b hd (k hlen hdb H locs lsM hH hS hl)
theorem s_lsub {a b : Int64} (C : CX G p Rm s m args meth c y n0) (hd : decode (cdM y) pc = .ok (.lsub, 1)) (k : GD l G p e Rm s m args below meth c Q y n0 (pc + 1) ls (.long (a - b) :: st) n I L R) : GD l G p e Rm s m args below meth c Q y n0 pc ls (.long b :: .long a :: st) n I L R := fun hlen hdb H locs lsM hH hS hl => lv_lsub C.x C.b hd (k hlen hdb H locs lsM hH hS hl)
theorem s_lmul {a b : Int64} (C : CX G p Rm s m args meth c y n0) (hd : decode (cdM y) pc = .ok (.lmul, 1)) (k : GD l G p e Rm s m args below meth c Q y n0 (pc + 1) ls (.long (a * b) :: st) n I L R) : GD l G p e Rm s m args below meth c Q y n0 pc ls (.long b :: .long a :: st) n I L R := fun hlen hdb H locs lsM hH hS hl => lv_lmul C.x C.b hd (k hlen hdb H locs lsM hH hS hl)
theorem s_ldiv {a b : Int64} (C : CX G p Rm s m args meth c y n0) (hd : decode (cdM y) pc = .ok (.ldiv, 1)) (h0 : ¬ b = 0) (k : GD l G p e Rm s m args below meth c Q y n0 (pc + 1) ls (.long (a / b) :: st) n I L R) : GD l G p e Rm s m args below meth c Q y n0 pc ls (.long b :: .long a :: st) n I L R := fun hlen hdb H locs lsM hH hS hl => lv_ldiv C.x C.b hd h0 (k hlen hdb H locs lsM hH hS hl)
theorem s_lrem {a b : Int64} (C : CX G p Rm s m args meth c y n0) (hd : decode (cdM y) pc = .ok (.lrem, 1)) (h0 : ¬ b = 0) (k : GD l G p e Rm s m args below meth c Q y n0 (pc + 1) ls (.long (a - a / b * b) :: st) n I L R) : GD l G p e Rm s m args below meth c Q y n0 pc ls (.long b :: .long a :: st) n I L R := fun hlen hdb H locs lsM hH hS hl => lv_lrem C.x C.b hd h0 (k hlen hdb H locs lsM hH hS hl)
theorem s_lcmp {a b : Int64} (C : CX G p Rm s m args meth c y n0) (hd : decode (cdM y) pc = .ok (.lcmp, 1)) (k : GD l G p e Rm s m args below meth c Q y n0 (pc + 1) ls (.int (lg_cmp a b) :: st) n I L R) : GD l G p e Rm s m args below meth c Q y n0 pc ls (.long b :: .long a :: st) n I L R := fun hlen hdb H locs lsM hH hS hl => W.lcmp C.x C.b hd (k hlen hdb H locs lsM hH hS hl)
theorem s_i2l {a : Int32} (C : CX G p Rm s m args meth c y n0) (hd : decode (cdM y) pc = .ok (.i2l, 1)) (k : GD l G p e Rm s m args below meth c Q y n0 (pc + 1) ls (.long a.toInt64 :: st) n I L R) : GD l G p e Rm s m args below meth c Q y n0 pc ls (.int a :: st) n I L R := fun hlen hdb H locs lsM hH hS hl => lv_i2l C.x C.b hd rfl (k hlen hdb H locs lsM hH hS hl)
theorem s_l2i {a : Int64} (C : CX G p Rm s m args meth c y n0) (hd : decode (cdM y) pc = .ok (.l2i, 1)) (k : GD l G p e Rm s m args below meth c Q y n0 (pc + 1) ls (.int a.toInt32 :: st) n I L R) : GD l G p e Rm s m args below meth c Q y n0 pc ls (.long a :: st) n I L R := fun hlen hdb H locs lsM hH hS hl => lv_l2i C.x C.b hd rfl (k hlen hdb H locs lsM hH hS hl)
theorem s_i2b {a : Int32} (C : CX G p Rm s m args meth c y n0) (hd : decode (cdM y) pc = .ok (.i2b, 1)) (k : GD l G p e Rm s m args below meth c Q y n0 (pc + 1) ls (.int a.toInt8.toInt32 :: st) n I L R) : GD l G p e Rm s m args below meth c Q y n0 pc ls (.int a :: st) n I L R := fun hlen hdb H locs lsM hH hS hl => lv_i2b C.x C.b hd rfl (k hlen hdb H locs lsM hH hS hl)
theorem s_i2c {a : Int32} (C : CX G p Rm s m args meth c y n0) (hd : decode (cdM y) pc = .ok (.i2c, 1)) (k : GD l G p e Rm s m args below meth c Q y n0 (pc + 1) ls (.int (a.toUInt32 % 65536).toInt32 :: st) n I L R) : GD l G p e Rm s m args below meth c Q y n0 pc ls (.int a :: st) n I L R := fun hlen hdb H locs lsM hH hS hl => lv_i2c C.x C.b hd rfl (k hlen hdb H locs lsM hH hS hl)
theorem s_dup {v : Value} (C : CX G p Rm s m args meth c y n0) (hd : decode (cdM y) pc = .ok (.dup, 1)) (hv : v.category = 1) (k : GD l G p e Rm s m args below meth c Q y n0 (pc + 1) ls (v :: v :: st) n I L R) : GD l G p e Rm s m args below meth c Q y n0 pc ls (v :: st) n I L R := fun hlen hdb H locs lsM hH hS hl => lv_dup C.x C.b hd ((cnc_cat G v).trans hv) (k hlen hdb H locs lsM hH hS hl)
theorem s_dup2 {v w : Value} (C : CX G p Rm s m args meth c y n0) (hd : decode (cdM y) pc = .ok (.dup2, 1)) (hv : v.category = 1) (hw : w.category = 1) (k : GD l G p e Rm s m args below meth c Q y n0 (pc + 1) ls (v :: w :: v :: w :: st) n I L R) : GD l G p e Rm s m args below meth c Q y n0 pc ls (v :: w :: st) n I L R := fun hlen hdb H locs lsM hH hS hl => lv_dup2_11 C.x C.b hd ((cnc_cat G v).trans hv) ((cnc_cat G w).trans hw) (k hlen hdb H locs lsM hH hS hl)
theorem s_pop {v : Value} (C : CX G p Rm s m args meth c y n0) (hd : decode (cdM y) pc = .ok (.pop, 1)) (hv : v.category = 1) (k : GD l G p e Rm s m args below meth c Q y n0 (pc + 1) ls (st) n I L R) : GD l G p e Rm s m args below meth c Q y n0 pc ls (v :: st) n I L R := fun hlen hdb H locs lsM hH hS hl => lv_pop C.x C.b hd ((cnc_cat G v).trans hv) (k hlen hdb H locs lsM hH hS hl)
theorem s_goto {off : Int} {tgt : Nat} (C : CX G p Rm s m args meth c y n0) (hd : decode (cdM y) pc = .ok (.goto off, 3)) (ht : (pc : Int) + off = (tgt : Int)) (k : GD l G p e Rm s m args below meth c Q y n0 tgt ls (st) n I L R) : GD l G p e Rm s m args below meth c Q y n0 pc ls (st) n I L R := fun hlen hdb H locs lsM hH hS hl => lv_goto C.x C.b hd ht (k hlen hdb H locs lsM hH hS hl)
theorem s_if_eq {off : Int} {tgt : Nat} {a : Int32} (C : CX G p Rm s m args meth c y n0) (hd : decode (cdM y) pc = .ok (.ifCond .eq off, 3)) (ht : (pc : Int) + off = (tgt : Int)) (k1 : (a = 0) → GD l G p e Rm s m args below meth c Q y n0 tgt ls (st) n I L R) (k2 : ¬ (a = 0) → GD l G p e Rm s m args below meth c Q y n0 (pc + 3) ls (st) n I L R) : GD l G p e Rm s m args below meth c Q y n0 pc ls (.int a :: st) n I L R := fun hlen hdb H locs lsM hH hS hl => lv_if_eq C.x C.b hd ht (fun h => k1 h hlen hdb H locs lsM hH hS hl) (fun h => k2 h hlen hdb H locs lsM hH hS hl)
theorem s_icmp_eq {off : Int} {tgt : Nat} {a b : Int32} (C : CX G p Rm s m args meth c y n0) (hd : decode (cdM y) pc = .ok (.if_icmp .eq off, 3)) (ht : (pc : Int) + off = (tgt : Int)) (k1 : (a = b) → GD l G p e Rm s m args below meth c Q y n0 tgt ls (st) n I L R) (k2 : ¬ (a = b) → GD l G p e Rm s m args below meth c Q y n0 (pc + 3) ls (st) n I L R) : GD l G p e Rm s m args below meth c Q y n0 pc ls (.int b :: .int a :: st) n I L R := fun hlen hdb H locs lsM hH hS hl => lv_icmp_eq C.x C.b hd ht (fun h => k1 h hlen hdb H locs lsM hH hS hl) (fun h => k2 h hlen hdb H locs lsM hH hS hl)
theorem s_if_ne {off : Int} {tgt : Nat} {a : Int32} (C : CX G p Rm s m args meth c y n0) (hd : decode (cdM y) pc = .ok (.ifCond .ne off, 3)) (ht : (pc : Int) + off = (tgt : Int)) (k1 : (¬ a = 0) → GD l G p e Rm s m args below meth c Q y n0 tgt ls (st) n I L R) (k2 : ¬ (¬ a = 0) → GD l G p e Rm s m args below meth c Q y n0 (pc + 3) ls (st) n I L R) : GD l G p e Rm s m args below meth c Q y n0 pc ls (.int a :: st) n I L R := fun hlen hdb H locs lsM hH hS hl => lv_if_ne C.x C.b hd ht (fun h => k1 h hlen hdb H locs lsM hH hS hl) (fun h => k2 (fun q => q h) hlen hdb H locs lsM hH hS hl)
theorem s_icmp_ne {off : Int} {tgt : Nat} {a b : Int32} (C : CX G p Rm s m args meth c y n0) (hd : decode (cdM y) pc = .ok (.if_icmp .ne off, 3)) (ht : (pc : Int) + off = (tgt : Int)) (k1 : (¬ a = b) → GD l G p e Rm s m args below meth c Q y n0 tgt ls (st) n I L R) (k2 : ¬ (¬ a = b) → GD l G p e Rm s m args below meth c Q y n0 (pc + 3) ls (st) n I L R) : GD l G p e Rm s m args below meth c Q y n0 pc ls (.int b :: .int a :: st) n I L R := fun hlen hdb H locs lsM hH hS hl => lv_icmp_ne C.x C.b hd ht (fun h => k1 h hlen hdb H locs lsM hH hS hl) (fun h => k2 (fun q => q h) hlen hdb H locs lsM hH hS hl)
theorem s_if_lt {off : Int} {tgt : Nat} {a : Int32} (C : CX G p Rm s m args meth c y n0) (hd : decode (cdM y) pc = .ok (.ifCond .lt off, 3)) (ht : (pc : Int) + off = (tgt : Int)) (k1 : (a < 0) → GD l G p e Rm s m args below meth c Q y n0 tgt ls (st) n I L R) (k2 : ¬ (a < 0) → GD l G p e Rm s m args below meth c Q y n0 (pc + 3) ls (st) n I L R) : GD l G p e Rm s m args below meth c Q y n0 pc ls (.int a :: st) n I L R := fun hlen hdb H locs lsM hH hS hl => lv_if_lt C.x C.b hd ht (fun h => k1 h hlen hdb H locs lsM hH hS hl) (fun h => k2 h hlen hdb H locs lsM hH hS hl)
theorem s_icmp_lt {off : Int} {tgt : Nat} {a b : Int32} (C : CX G p Rm s m args meth c y n0) (hd : decode (cdM y) pc = .ok (.if_icmp .lt off, 3)) (ht : (pc : Int) + off = (tgt : Int)) (k1 : (a < b) → GD l G p e Rm s m args below meth c Q y n0 tgt ls (st) n I L R) (k2 : ¬ (a < b) → GD l G p e Rm s m args below meth c Q y n0 (pc + 3) ls (st) n I L R) : GD l G p e Rm s m args below meth c Q y n0 pc ls (.int b :: .int a :: st) n I L R := fun hlen hdb H locs lsM hH hS hl => lv_icmp_lt C.x C.b hd ht (fun h => k1 h hlen hdb H locs lsM hH hS hl) (fun h => k2 h hlen hdb H locs lsM hH hS hl)
theorem s_if_ge {off : Int} {tgt : Nat} {a : Int32} (C : CX G p Rm s m args meth c y n0) (hd : decode (cdM y) pc = .ok (.ifCond .ge off, 3)) (ht : (pc : Int) + off = (tgt : Int)) (k1 : (0 ≤ a) → GD l G p e Rm s m args below meth c Q y n0 tgt ls (st) n I L R) (k2 : ¬ (0 ≤ a) → GD l G p e Rm s m args below meth c Q y n0 (pc + 3) ls (st) n I L R) : GD l G p e Rm s m args below meth c Q y n0 pc ls (.int a :: st) n I L R := fun hlen hdb H locs lsM hH hS hl => lv_if_ge C.x C.b hd ht (fun h => k1 h hlen hdb H locs lsM hH hS hl) (fun h => k2 h hlen hdb H locs lsM hH hS hl)
theorem s_icmp_ge {off : Int} {tgt : Nat} {a b : Int32} (C : CX G p Rm s m args meth c y n0) (hd : decode (cdM y) pc = .ok (.if_icmp .ge off, 3)) (ht : (pc : Int) + off = (tgt : Int)) (k1 : (b ≤ a) → GD l G p e Rm s m args below meth c Q y n0 tgt ls (st) n I L R) (k2 : ¬ (b ≤ a) → GD l G p e Rm s m args below meth c Q y n0 (pc + 3) ls (st) n I L R) : GD l G p e Rm s m args below meth c Q y n0 pc ls (.int b :: .int a :: st) n I L R := fun hlen hdb H locs lsM hH hS hl => lv_icmp_ge C.x C.b hd ht (fun h => k1 h hlen hdb H locs lsM hH hS hl) (fun h => k2 h hlen hdb H locs lsM hH hS hl)
theorem s_if_gt {off : Int} {tgt : Nat} {a : Int32} (C : CX G p Rm s m args meth c y n0) (hd : decode (cdM y) pc = .ok (.ifCond .gt off, 3)) (ht : (pc : Int) + off = (tgt : Int)) (k1 : (0 < a) → GD l G p e Rm s m args below meth c Q y n0 tgt ls (st) n I L R) (k2 : ¬ (0 < a) → GD l G p e Rm s m args below meth c Q y n0 (pc + 3) ls (st) n I L R) : GD l G p e Rm s m args below meth c Q y n0 pc ls (.int a :: st) n I L R := fun hlen hdb H locs lsM hH hS hl => lv_if_gt C.x C.b hd ht (fun h => k1 h hlen hdb H locs lsM hH hS hl) (fun h => k2 h hlen hdb H locs lsM hH hS hl)
theorem s_icmp_gt {off : Int} {tgt : Nat} {a b : Int32} (C : CX G p Rm s m args meth c y n0) (hd : decode (cdM y) pc = .ok (.if_icmp .gt off, 3)) (ht : (pc : Int) + off = (tgt : Int)) (k1 : (b < a) → GD l G p e Rm s m args below meth c Q y n0 tgt ls (st) n I L R) (k2 : ¬ (b < a) → GD l G p e Rm s m args below meth c Q y n0 (pc + 3) ls (st) n I L R) : GD l G p e Rm s m args below meth c Q y n0 pc ls (.int b :: .int a :: st) n I L R := fun hlen hdb H locs lsM hH hS hl => lv_icmp_gt C.x C.b hd ht (fun h => k1 h hlen hdb H locs lsM hH hS hl) (fun h => k2 h hlen hdb H locs lsM hH hS hl)
theorem s_if_le {off : Int} {tgt : Nat} {a : Int32} (C : CX G p Rm s m args meth c y n0) (hd : decode (cdM y) pc = .ok (.ifCond .le off, 3)) (ht : (pc : Int) + off = (tgt : Int)) (k1 : (a ≤ 0) → GD l G p e Rm s m args below meth c Q y n0 tgt ls (st) n I L R) (k2 : ¬ (a ≤ 0) → GD l G p e Rm s m args below meth c Q y n0 (pc + 3) ls (st) n I L R) : GD l G p e Rm s m args below meth c Q y n0 pc ls (.int a :: st) n I L R := fun hlen hdb H locs lsM hH hS hl => lv_if_le C.x C.b hd ht (fun h => k1 h hlen hdb H locs lsM hH hS hl) (fun h => k2 h hlen hdb H locs lsM hH hS hl)
theorem s_icmp_le {off : Int} {tgt : Nat} {a b : Int32} (C : CX G p Rm s m args meth c y n0) (hd : decode (cdM y) pc = .ok (.if_icmp .le off, 3)) (ht : (pc : Int) + off = (tgt : Int)) (k1 : (a ≤ b) → GD l G p e Rm s m args below meth c Q y n0 tgt ls (st) n I L R) (k2 : ¬ (a ≤ b) → GD l G p e Rm s m args below meth c Q y n0 (pc + 3) ls (st) n I L R) : GD l G p e Rm s m args below meth c Q y n0 pc ls (.int b :: .int a :: st) n I L R := fun hlen hdb H locs lsM hH hS hl => lv_icmp_le C.x C.b hd ht (fun h => k1 h hlen hdb H locs lsM hH hS hl) (fun h => k2 h hlen hdb H locs lsM hH hS hl)
theorem s_ldc {i : Nat} {v : Int32} (C : CX G p Rm s m args meth c y n0) (hd : decode (cdM y) pc = .ok (.ldc i, 2)) (hw : Cond.constant (cn (ocM y)) i v ∈ tbX) (k : GD l G p e Rm s m args below meth c Q y n0 (pc + 2) ls (.int v :: st) n I L R) : GD l G p e Rm s m args below meth c Q y n0 pc ls (st) n I L R := fun hlen hdb H locs lsM hH hS hl => lv_ldc C.x C.b C.ow (C.ts _ hw) hd (k hlen hdb H locs lsM hH hS hl)
theorem s_ldc_w {i : Nat} {v : Int32} (C : CX G p Rm s m args meth c y n0) (hd : decode (cdM y) pc = .ok (.ldc_w i, 3)) (hw : Cond.constant (cn (ocM y)) i v ∈ tbX) (k : GD l G p e Rm s m args below meth c Q y n0 (pc + 3) ls (.int v :: st) n I L R) : GD l G p e Rm s m args below meth c Q y n0 pc ls (st) n I L R := fun hlen hdb H locs lsM hH hS hl => lv_ldcw C.x C.b C.ow (C.ts _ hw) hd (k hlen hdb H locs lsM hH hS hl)
theorem s_ldc2_w {i : Nat} {v : Int64} (C : CX G p Rm s m args meth c y n0) (hd : decode (cdM y) pc = .ok (.ldc2_w i, 3)) (hw : Cond.constantLong (cn (ocM y)) i v ∈ tbX) (k : GD l G p e Rm s m args below meth c Q y n0 (pc + 3) ls (.long v :: st) n I L R) : GD l G p e Rm s m args below meth c Q y n0 pc ls (st) n I L R := fun hlen hdb H locs lsM hH hS hl => lv_ldc2 C.x C.b C.ow (C.ts _ hw) hd (k hlen hdb H locs lsM hH hS hl)
end SX
