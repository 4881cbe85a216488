/-! all instructions together -/
def ST (y pc : Nat) (ls st : List Value) (n : Nat) (I : AI) (L : AL) (R : AR) (pc' : Nat) (ls' st' : List Value) (n' : Nat) (I' : AI) (L' : AL) (R' : AR) : Prop := n ≤ n' ∧ ∀ (l : Launch) (G : GX) (p : Program) (e : Env) (Rm : Room) (s : State) (m : MethodId) (args : Array Value) (below : List Frame) (meth : Method) (c : Code) (Q : State → Prop) (n0 : Nat), CX G p Rm s m args meth c y n0 → n0 ≤ n → n - n0 ≤ Rm.cells ∧ slX n - slX n0 ≤ Rm.slots → n' - n0 ≤ Rm.cells ∧ slX n' - slX n0 ≤ Rm.slots → GD l G p e Rm s m args below meth c Q y n0 pc' ls' st' n' I' L' R' → GD l G p e Rm s m args below meth c Q y n0 pc ls st n I L R
def CLS (y pc : Nat) (ls st : List Value) (n : Nat) (I : AI) (L : AL) (R : AR) (z : Nat) (as rest : List Value) : Prop := yP z ∧ gdV as = true ∧ wsm as ≤ mlM z ∧ ∀ (l : Launch) (G : GX) (p : Program) (e : Env) (Rm : Room) (s : State) (m : MethodId) (args : Array Value) (below : List Frame) (meth : Method) (c : Code) (Q : State → Prop) (n0 : Nat), CX G p Rm s m args meth c y n0 → n0 ≤ n → ∀ (r : Option Value) (n1 : Nat) (I1 : AI) (L1 : AL) (R1 : AR), n ≤ n1 → n1 - n0 ≤ Rm.cells ∧ slX n1 - slX n0 ≤ Rm.slots → MT l G z (as.map (cnc G)) n I L R r n1 I1 L1 R1 → GD l G p e Rm s m args below meth c Q y n0 (pc + 3) ls (r.toList ++ rest) n1 I1 L1 R1 → GD l G p e Rm s m args below meth c Q y n0 pc ls st n I L R
def RES (y pc : Nat) (ls st : List Value) (n : Nat) (I : AI) (L : AL) (R : AR) (z : XR) : Prop := match z with
  | .inl q => ST y pc ls st n I L R q.1 q.2.1 q.2.2.1 q.2.2.2.1 q.2.2.2.2.1 q.2.2.2.2.2.1 q.2.2.2.2.2.2
  | .inr (.inl r) => RT y pc r ∧ st = r.toList
  | .inr (.inr w) => CLS y pc ls st n I L R w.1 w.2.1 w.2.2
theorem HX_lt {G : GX} {n a : Nat} {I : AI} {L : AL} {R : AR} {H : Heap} (hH : HX G n I L R H) (ha : ip a < n) : a < 1000 := by
  by_cases hb : a < 123
  · omega
  · have h1 := hH.2.2 (ip a) _ (wrl_get ha)
    have hs : shpL[a]? = none := List.getElem?_eq_none (by show 123 ≤ a; omega)
    have hc : cel G I L R a = .inr (99, []) := by unfold cel; rw [hs]
    rw [hc] at h1
    obtain ⟨r, hr, -⟩ := h1
    simp at hr
section SL
variable {y pc n len : Nat} {ls st : List Value} {I : AI} {L : AL} {R : AR} {z : XR}
theorem jp_s {off : Int} {st' : List Value} (h : jpX pc off ls st' n I L R = some z) : ∃ tgt : Nat, (pc : Int) + off = (tgt : Int) ∧ z = .inl (tgt, ls, st', n, I, L, R) := by
  obtain ⟨h1, h2⟩ := ifP_s h
  cases h2
  exact ⟨_, (Int.toNat_of_nonneg h1).symm, rfl⟩
theorem bj_s {b : Prop} {off : Int} {st' : List Value} (h : bjX b pc off ls st' n I L R = some z) : (b ∧ ∃ tgt : Nat, (pc : Int) + off = (tgt : Int) ∧ z = .inl (tgt, ls, st', n, I, L, R)) ∨ (¬ b ∧ ∃ tgt : Nat, (pc : Int) + off = (tgt : Int) ∧ z = .inl (pc + 3, ls, st', n, I, L, R)) := by
  obtain ⟨h1, h⟩ := ifP_s h
  split at h
  · cases h; exact Or.inl ⟨‹_›, _, (Int.toNat_of_nonneg h1).symm, rfl⟩
  · cases h; exact Or.inr ⟨‹_›, _, (Int.toNat_of_nonneg h1).symm, rfl⟩
theorem q_iconst {v : Int} (hd : decode (cdM y) pc = .ok (.iconst v, len)) (hl : len = lnI (.iconst v) len) (h : x1 y pc (.iconst v) ls st n I L R = some z) : RES y pc ls st n I L R z := by
  have hl2 : len = 1 := hl
  subst hl2
  unfold x1 at h
  dsimp only at h
  cases h
  exact ⟨Nat.le_refl _, fun l G p e Rm s m args below meth c Q n0 C hn hc hc2 k => s_iconst C hd k⟩
theorem q_bipush {v : Int} (hd : decode (cdM y) pc = .ok (.bipush v, len)) (hl : len = lnI (.bipush v) len) (h : x1 y pc (.bipush v) ls st n I L R = some z) : RES y pc ls st n I L R z := by
  have hl2 : len = 2 := hl
  subst hl2
  unfold x1 at h
  dsimp only at h
  cases h
  exact ⟨Nat.le_refl _, fun l G p e Rm s m args below meth c Q n0 C hn hc hc2 k => s_bipush C hd k⟩
theorem q_sipush {v : Int} (hd : decode (cdM y) pc = .ok (.sipush v, len)) (hl : len = lnI (.sipush v) len) (h : x1 y pc (.sipush v) ls st n I L R = some z) : RES y pc ls st n I L R z := by
  have hl2 : len = 3 := hl
  subst hl2
  unfold x1 at h
  dsimp only at h
  cases h
  exact ⟨Nat.le_refl _, fun l G p e Rm s m args below meth c Q n0 C hn hc hc2 k => s_sipush C hd k⟩
theorem q_lconst {v : Fin 2} (hd : decode (cdM y) pc = .ok (.lconst v, len)) (hl : len = lnI (.lconst v) len) (h : x1 y pc (.lconst v) ls st n I L R = some z) : RES y pc ls st n I L R z := by
  have hl2 : len = 1 := hl
  subst hl2
  unfold x1 at h
  dsimp only at h
  cases h
  exact ⟨Nat.le_refl _, fun l G p e Rm s m args below meth c Q n0 C hn hc hc2 k => s_lconst C hd k⟩
theorem q_iload {i : Nat} (hd : decode (cdM y) pc = .ok (.iload i, len)) (hl : len = lnI (.iload i) len) (h : x1 y pc (.iload i) ls st n I L R = some z) : RES y pc ls st n I L R z := by
  have hl2 : len = 2 := hl
  subst hl2
  unfold x1 at h
  dsimp only at h
  split at h
  · rename_i hv
    cases h
    exact ⟨Nat.le_refl _, fun l G p e Rm s m args below meth c Q n0 C hn hc hc2 k => s_iload C hd hv k⟩
  · cases h
theorem q_iload_n {i : Fin 4} (hd : decode (cdM y) pc = .ok (.iload_n i, len)) (hl : len = lnI (.iload_n i) len) (h : x1 y pc (.iload_n i) ls st n I L R = some z) : RES y pc ls st n I L R z := by
  have hl2 : len = 1 := hl
  subst hl2
  unfold x1 at h
  dsimp only at h
  split at h
  · rename_i hv
    cases h
    exact ⟨Nat.le_refl _, fun l G p e Rm s m args below meth c Q n0 C hn hc hc2 k => s_iload_n C hd hv k⟩
  · cases h
theorem q_lload {i : Nat} (hd : decode (cdM y) pc = .ok (.lload i, len)) (hl : len = lnI (.lload i) len) (h : x1 y pc (.lload i) ls st n I L R = some z) : RES y pc ls st n I L R z := by
  have hl2 : len = 2 := hl
  subst hl2
  unfold x1 at h
  dsimp only at h
  split at h
  · rename_i hv
    cases h
    exact ⟨Nat.le_refl _, fun l G p e Rm s m args below meth c Q n0 C hn hc hc2 k => s_lload C hd hv k⟩
  · cases h
theorem q_lload_n {i : Fin 4} (hd : decode (cdM y) pc = .ok (.lload_n i, len)) (hl : len = lnI (.lload_n i) len) (h : x1 y pc (.lload_n i) ls st n I L R = some z) : RES y pc ls st n I L R z := by
  have hl2 : len = 1 := hl
  subst hl2
  unfold x1 at h
  dsimp only at h
  split at h
  · rename_i hv
    cases h
    exact ⟨Nat.le_refl _, fun l G p e Rm s m args below meth c Q n0 C hn hc hc2 k => s_lload_n C hd hv k⟩
  · cases h
theorem q_aload {i : Nat} (hd : decode (cdM y) pc = .ok (.aload i, len)) (hl : len = lnI (.aload i) len) (h : x1 y pc (.aload i) ls st n I L R = some z) : RES y pc ls st n I L R z := by
  have hl2 : len = 2 := hl
  subst hl2
  unfold x1 at h
  dsimp only at h
  split at h
  · rename_i hv
    obtain ⟨h6, h⟩ := ifP_s h
    cases h
    exact ⟨Nat.le_refl _, fun l G p e Rm s m args below meth c Q n0 C hn hc hc2 k => s_aload C hd hv h6 k⟩
  · cases h
theorem q_istore {i : Nat} (hd : decode (cdM y) pc = .ok (.istore i, len)) (hl : len = lnI (.istore i) len) (h : x1 y pc (.istore i) ls st n I L R = some z) : RES y pc ls st n I L R z := by
  have hl2 : len = 2 := hl
  subst hl2
  unfold x1 at h
  dsimp only at h
  split at h
  · obtain ⟨h6, h⟩ := ifP_s h
    cases h
    exact ⟨Nat.le_refl _, fun l G p e Rm s m args below meth c Q n0 C hn hc hc2 k => s_istore C hd h6 k⟩
  · cases h
theorem q_lstore {i : Nat} (hd : decode (cdM y) pc = .ok (.lstore i, len)) (hl : len = lnI (.lstore i) len) (h : x1 y pc (.lstore i) ls st n I L R = some z) : RES y pc ls st n I L R z := by
  have hl2 : len = 2 := hl
  subst hl2
  unfold x1 at h
  dsimp only at h
  split at h
  · obtain ⟨h6, h⟩ := ifP_s h
    cases h
    exact ⟨Nat.le_refl _, fun l G p e Rm s m args below meth c Q n0 C hn hc hc2 k => s_lstore C hd h6 k⟩
  · cases h
theorem q_astore {i : Nat} (hd : decode (cdM y) pc = .ok (.astore i, len)) (hl : len = lnI (.astore i) len) (h : x1 y pc (.astore i) ls st n I L R = some z) : RES y pc ls st n I L R z := by
  have hl2 : len = 2 := hl
  subst hl2
  unfold x1 at h
  dsimp only at h
  split at h
  · obtain ⟨h6, h⟩ := ifP_s h
    cases h
    exact ⟨Nat.le_refl _, fun l G p e Rm s m args below meth c Q n0 C hn hc hc2 k => s_astore C hd h6.1 h6.2 k⟩
  · cases h
theorem q_aload_n {i : Fin 4} (hd : decode (cdM y) pc = .ok (.aload_n i, len)) (hl : len = lnI (.aload_n i) len) (h : x1 y pc (.aload_n i) ls st n I L R = some z) : RES y pc ls st n I L R z := by
  have hl2 : len = 1 := hl
  subst hl2
  unfold x1 at h
  dsimp only at h
  split at h
  · rename_i hv
    obtain ⟨h6, h⟩ := ifP_s h
    cases h
    exact ⟨Nat.le_refl _, fun l G p e Rm s m args below meth c Q n0 C hn hc hc2 k => s_aload_n C hd hv h6 k⟩
  · cases h
theorem q_istore_n {i : Fin 4} (hd : decode (cdM y) pc = .ok (.istore_n i, len)) (hl : len = lnI (.istore_n i) len) (h : x1 y pc (.istore_n i) ls st n I L R = some z) : RES y pc ls st n I L R z := by
  have hl2 : len = 1 := hl
  subst hl2
  unfold x1 at h
  dsimp only at h
  split at h
  · obtain ⟨h6, h⟩ := ifP_s h
    cases h
    exact ⟨Nat.le_refl _, fun l G p e Rm s m args below meth c Q n0 C hn hc hc2 k => s_istore_n C hd h6 k⟩
  · cases h
theorem q_lstore_n {i : Fin 4} (hd : decode (cdM y) pc = .ok (.lstore_n i, len)) (hl : len = lnI (.lstore_n i) len) (h : x1 y pc (.lstore_n i) ls st n I L R = some z) : RES y pc ls st n I L R z := by
  have hl2 : len = 1 := hl
  subst hl2
  unfold x1 at h
  dsimp only at h
  split at h
  · obtain ⟨h6, h⟩ := ifP_s h
    cases h
    exact ⟨Nat.le_refl _, fun l G p e Rm s m args below meth c Q n0 C hn hc hc2 k => s_lstore_n C hd h6 k⟩
  · cases h
theorem q_astore_n {i : Fin 4} (hd : decode (cdM y) pc = .ok (.astore_n i, len)) (hl : len = lnI (.astore_n i) len) (h : x1 y pc (.astore_n i) ls st n I L R = some z) : RES y pc ls st n I L R z := by
  have hl2 : len = 1 := hl
  subst hl2
  unfold x1 at h
  dsimp only at h
  split at h
  · obtain ⟨h6, h⟩ := ifP_s h
    cases h
    exact ⟨Nat.le_refl _, fun l G p e Rm s m args below meth c Q n0 C hn hc hc2 k => s_astore_n C hd h6.1 h6.2 k⟩
  · cases h
theorem q_iinc {i : Nat} {d : Int} (hd : decode (cdM y) pc = .ok (.iinc i d, len)) (hl : len = lnI (.iinc i d) len) (h : x1 y pc (.iinc i d) ls st n I L R = some z) : RES y pc ls st n I L R z := by
  have hl2 : len = 3 := hl
  subst hl2
  unfold x1 at h
  dsimp only at h
  split at h
  · rename_i hv
    cases h
    exact ⟨Nat.le_refl _, fun l G p e Rm s m args below meth c Q n0 C hn hc hc2 k => s_iinc C hd hv k⟩
  · cases h
theorem q_iadd (hd : decode (cdM y) pc = .ok (.iadd, len)) (hl : len = lnI (.iadd) len) (h : x1 y pc (.iadd) ls st n I L R = some z) : RES y pc ls st n I L R z := by
  have hl2 : len = 1 := hl
  subst hl2
  unfold x1 at h
  dsimp only at h
  split at h
  · cases h
    exact ⟨Nat.le_refl _, fun l G p e Rm s m args below meth c Q n0 C hn hc hc2 k => s_iadd C hd k⟩
  · cases h
theorem q_isub (hd : decode (cdM y) pc = .ok (.isub, len)) (hl : len = lnI (.isub) len) (h : x1 y pc (.isub) ls st n I L R = some z) : RES y pc ls st n I L R z := by
  have hl2 : len = 1 := hl
  subst hl2
  unfold x1 at h
  dsimp only at h
  split at h
  · cases h
    exact ⟨Nat.le_refl _, fun l G p e Rm s m args below meth c Q n0 C hn hc hc2 k => s_isub C hd k⟩
  · cases h
theorem q_imul (hd : decode (cdM y) pc = .ok (.imul, len)) (hl : len = lnI (.imul) len) (h : x1 y pc (.imul) ls st n I L R = some z) : RES y pc ls st n I L R z := by
  have hl2 : len = 1 := hl
  subst hl2
  unfold x1 at h
  dsimp only at h
  split at h
  · cases h
    exact ⟨Nat.le_refl _, fun l G p e Rm s m args below meth c Q n0 C hn hc hc2 k => s_imul C hd k⟩
  · cases h
theorem q_iand (hd : decode (cdM y) pc = .ok (.iand, len)) (hl : len = lnI (.iand) len) (h : x1 y pc (.iand) ls st n I L R = some z) : RES y pc ls st n I L R z := by
  have hl2 : len = 1 := hl
  subst hl2
  unfold x1 at h
  dsimp only at h
  split at h
  · cases h
    exact ⟨Nat.le_refl _, fun l G p e Rm s m args below meth c Q n0 C hn hc hc2 k => s_iand C hd k⟩
  · cases h
theorem q_ior (hd : decode (cdM y) pc = .ok (.ior, len)) (hl : len = lnI (.ior) len) (h : x1 y pc (.ior) ls st n I L R = some z) : RES y pc ls st n I L R z := by
  have hl2 : len = 1 := hl
  subst hl2
  unfold x1 at h
  dsimp only at h
  split at h
  · cases h
    exact ⟨Nat.le_refl _, fun l G p e Rm s m args below meth c Q n0 C hn hc hc2 k => s_ior C hd k⟩
  · cases h
theorem q_ixor (hd : decode (cdM y) pc = .ok (.ixor, len)) (hl : len = lnI (.ixor) len) (h : x1 y pc (.ixor) ls st n I L R = some z) : RES y pc ls st n I L R z := by
  have hl2 : len = 1 := hl
  subst hl2
  unfold x1 at h
  dsimp only at h
  split at h
  · cases h
    exact ⟨Nat.le_refl _, fun l G p e Rm s m args below meth c Q n0 C hn hc hc2 k => s_ixor C hd k⟩
  · cases h
theorem q_ishl (hd : decode (cdM y) pc = .ok (.ishl, len)) (hl : len = lnI (.ishl) len) (h : x1 y pc (.ishl) ls st n I L R = some z) : RES y pc ls st n I L R z := by
  have hl2 : len = 1 := hl
  subst hl2
  unfold x1 at h
  dsimp only at h
  split at h
  · cases h
    exact ⟨Nat.le_refl _, fun l G p e Rm s m args below meth c Q n0 C hn hc hc2 k => s_ishl C hd k⟩
  · cases h
theorem q_ishr (hd : decode (cdM y) pc = .ok (.ishr, len)) (hl : len = lnI (.ishr) len) (h : x1 y pc (.ishr) ls st n I L R = some z) : RES y pc ls st n I L R z := by
  have hl2 : len = 1 := hl
  subst hl2
  unfold x1 at h
  dsimp only at h
  split at h
  · cases h
    exact ⟨Nat.le_refl _, fun l G p e Rm s m args below meth c Q n0 C hn hc hc2 k => s_ishr C hd k⟩
  · cases h
theorem q_iushr (hd : decode (cdM y) pc = .ok (.iushr, len)) (hl : len = lnI (.iushr) len) (h : x1 y pc (.iushr) ls st n I L R = some z) : RES y pc ls st n I L R z := by
  have hl2 : len = 1 := hl
  subst hl2
  unfold x1 at h
  dsimp only at h
  split at h
  · cases h
    exact ⟨Nat.le_refl _, fun l G p e Rm s m args below meth c Q n0 C hn hc hc2 k => s_iushr C hd k⟩
  · cases h
theorem q_ineg (hd : decode (cdM y) pc = .ok (.ineg, len)) (hl : len = lnI (.ineg) len) (h : x1 y pc (.ineg) ls st n I L R = some z) : RES y pc ls st n I L R z := by
  have hl2 : len = 1 := hl
  subst hl2
  unfold x1 at h
  dsimp only at h
  split at h
  · cases h
    exact ⟨Nat.le_refl _, fun l G p e Rm s m args below meth c Q n0 C hn hc hc2 k => s_ineg C hd k⟩
  · cases h
theorem q_ladd (hd : decode (cdM y) pc = .ok (.ladd, len)) (hl : len = lnI (.ladd) len) (h : x1 y pc (.ladd) ls st n I L R = some z) : RES y pc ls st n I L R z := by
  have hl2 : len = 1 := hl
  subst hl2
  unfold x1 at h
  dsimp only at h
  split at h
  · cases h
    exact ⟨Nat.le_refl _, fun l G p e Rm s m args below meth c Q n0 C hn hc hc2 k => s_ladd C hd k⟩
  · cases h
theorem q_lsub (hd : decode (cdM y) pc = .ok (.lsub, len)) (hl : len = lnI (.lsub) len) (h : x1 y pc (.lsub) ls st n I L R = some z) : RES y pc ls st n I L R z := by
  have hl2 : len = 1 := hl
  subst hl2
  unfold x1 at h
  dsimp only at h
  split at h
  · cases h
    exact ⟨Nat.le_refl _, fun l G p e Rm s m args below meth c Q n0 C hn hc hc2 k => s_lsub C hd k⟩
  · cases h
theorem q_lmul (hd : decode (cdM y) pc = .ok (.lmul, len)) (hl : len = lnI (.lmul) len) (h : x1 y pc (.lmul) ls st n I L R = some z) : RES y pc ls st n I L R z := by
  have hl2 : len = 1 := hl
  subst hl2
  unfold x1 at h
  dsimp only at h
  split at h
  · cases h
    exact ⟨Nat.le_refl _, fun l G p e Rm s m args below meth c Q n0 C hn hc hc2 k => s_lmul C hd k⟩
  · cases h
theorem q_lcmp (hd : decode (cdM y) pc = .ok (.lcmp, len)) (hl : len = lnI (.lcmp) len) (h : x1 y pc (.lcmp) ls st n I L R = some z) : RES y pc ls st n I L R z := by
  have hl2 : len = 1 := hl
  subst hl2
  unfold x1 at h
  dsimp only at h
  split at h
  · cases h
    exact ⟨Nat.le_refl _, fun l G p e Rm s m args below meth c Q n0 C hn hc hc2 k => s_lcmp C hd k⟩
  · cases h
theorem q_i2l (hd : decode (cdM y) pc = .ok (.i2l, len)) (hl : len = lnI (.i2l) len) (h : x1 y pc (.i2l) ls st n I L R = some z) : RES y pc ls st n I L R z := by
  have hl2 : len = 1 := hl
  subst hl2
  unfold x1 at h
  dsimp only at h
  split at h
  · cases h
    exact ⟨Nat.le_refl _, fun l G p e Rm s m args below meth c Q n0 C hn hc hc2 k => s_i2l C hd k⟩
  · cases h
theorem q_l2i (hd : decode (cdM y) pc = .ok (.l2i, len)) (hl : len = lnI (.l2i) len) (h : x1 y pc (.l2i) ls st n I L R = some z) : RES y pc ls st n I L R z := by
  have hl2 : len = 1 := hl
  subst hl2
  unfold x1 at h
  dsimp only at h
  split at h
  · cases h
    exact ⟨Nat.le_refl _, fun l G p e Rm s m args below meth c Q n0 C hn hc hc2 k => s_l2i C hd k⟩
  · cases h
theorem q_i2b (hd : decode (cdM y) pc = .ok (.i2b, len)) (hl : len = lnI (.i2b) len) (h : x1 y pc (.i2b) ls st n I L R = some z) : RES y pc ls st n I L R z := by
  have hl2 : len = 1 := hl
  subst hl2
  unfold x1 at h
  dsimp only at h
  split at h
  · cases h
    exact ⟨Nat.le_refl _, fun l G p e Rm s m args below meth c Q n0 C hn hc hc2 k => s_i2b C hd k⟩
  · cases h
theorem q_i2c (hd : decode (cdM y) pc = .ok (.i2c, len)) (hl : len = lnI (.i2c) len) (h : x1 y pc (.i2c) ls st n I L R = some z) : RES y pc ls st n I L R z := by
  have hl2 : len = 1 := hl
  subst hl2
  unfold x1 at h
  dsimp only at h
  split at h
  · cases h
    exact ⟨Nat.le_refl _, fun l G p e Rm s m args below meth c Q n0 C hn hc hc2 k => s_i2c C hd k⟩
  · cases h
theorem q_idiv (hd : decode (cdM y) pc = .ok (.idiv, len)) (hl : len = lnI (.idiv) len) (h : x1 y pc (.idiv) ls st n I L R = some z) : RES y pc ls st n I L R z := by
  have hl2 : len = 1 := hl
  subst hl2
  unfold x1 at h
  dsimp only at h
  split at h
  · obtain ⟨h6, h⟩ := ifP_s h
    cases h
    exact ⟨Nat.le_refl _, fun l G p e Rm s m args below meth c Q n0 C hn hc hc2 k => s_idiv C hd h6 k⟩
  · cases h
theorem q_irem (hd : decode (cdM y) pc = .ok (.irem, len)) (hl : len = lnI (.irem) len) (h : x1 y pc (.irem) ls st n I L R = some z) : RES y pc ls st n I L R z := by
  have hl2 : len = 1 := hl
  subst hl2
  unfold x1 at h
  dsimp only at h
  split at h
  · obtain ⟨h6, h⟩ := ifP_s h
    cases h
    exact ⟨Nat.le_refl _, fun l G p e Rm s m args below meth c Q n0 C hn hc hc2 k => s_irem C hd h6 k⟩
  · cases h
theorem q_ldiv (hd : decode (cdM y) pc = .ok (.ldiv, len)) (hl : len = lnI (.ldiv) len) (h : x1 y pc (.ldiv) ls st n I L R = some z) : RES y pc ls st n I L R z := by
  have hl2 : len = 1 := hl
  subst hl2
  unfold x1 at h
  dsimp only at h
  split at h
  · obtain ⟨h6, h⟩ := ifP_s h
    cases h
    exact ⟨Nat.le_refl _, fun l G p e Rm s m args below meth c Q n0 C hn hc hc2 k => s_ldiv C hd h6 k⟩
  · cases h
theorem q_lrem (hd : decode (cdM y) pc = .ok (.lrem, len)) (hl : len = lnI (.lrem) len) (h : x1 y pc (.lrem) ls st n I L R = some z) : RES y pc ls st n I L R z := by
  have hl2 : len = 1 := hl
  subst hl2
  unfold x1 at h
  dsimp only at h
  split at h
  · obtain ⟨h6, h⟩ := ifP_s h
    cases h
    exact ⟨Nat.le_refl _, fun l G p e Rm s m args below meth c Q n0 C hn hc hc2 k => s_lrem C hd h6 k⟩
  · cases h
theorem q_dup (hd : decode (cdM y) pc = .ok (.dup, len)) (hl : len = lnI (.dup) len) (h : x1 y pc (.dup) ls st n I L R = some z) : RES y pc ls st n I L R z := by
  have hl2 : len = 1 := hl
  subst hl2
  unfold x1 at h
  dsimp only at h
  split at h
  · obtain ⟨h6, h⟩ := ifP_s h
    cases h
    exact ⟨Nat.le_refl _, fun l G p e Rm s m args below meth c Q n0 C hn hc hc2 k => s_dup C hd h6 k⟩
  · cases h
theorem q_pop (hd : decode (cdM y) pc = .ok (.pop, len)) (hl : len = lnI (.pop) len) (h : x1 y pc (.pop) ls st n I L R = some z) : RES y pc ls st n I L R z := by
  have hl2 : len = 1 := hl
  subst hl2
  unfold x1 at h
  dsimp only at h
  split at h
  · obtain ⟨h6, h⟩ := ifP_s h
    cases h
    exact ⟨Nat.le_refl _, fun l G p e Rm s m args below meth c Q n0 C hn hc hc2 k => s_pop C hd h6 k⟩
  · cases h
theorem q_dup2 (hd : decode (cdM y) pc = .ok (.dup2, len)) (hl : len = lnI (.dup2) len) (h : x1 y pc (.dup2) ls st n I L R = some z) : RES y pc ls st n I L R z := by
  have hl2 : len = 1 := hl
  subst hl2
  unfold x1 at h
  dsimp only at h
  split at h
  · obtain ⟨h6, h⟩ := ifP_s h
    cases h
    exact ⟨Nat.le_refl _, fun l G p e Rm s m args below meth c Q n0 C hn hc hc2 k => s_dup2 C hd h6.1 h6.2 k⟩
  · cases h
theorem q_goto {off : Int} (hd : decode (cdM y) pc = .ok (.goto off, len)) (hl : len = lnI (.goto off) len) (h : x1 y pc (.goto off) ls st n I L R = some z) : RES y pc ls st n I L R z := by
  have hl2 : len = 3 := hl
  subst hl2
  unfold x1 at h
  dsimp only at h
  obtain ⟨tgt, ht, rfl⟩ := jp_s h
  exact ⟨Nat.le_refl _, fun l G p e Rm s m args below meth c Q n0 C hn hc hc2 k => s_goto C hd ht k⟩
theorem q_if {cd : ClassFile.Cond} {off : Int} (hd : decode (cdM y) pc = .ok (.ifCond cd off, len)) (hl : len = lnI (.ifCond cd off) len) (h : x1 y pc (.ifCond cd off) ls st n I L R = some z) : RES y pc ls st n I L R z := by
  have hl2 : len = 3 := hl
  subst hl2
  unfold x1 at h
  dsimp only at h
  split at h
  · split at h
    · rcases bj_s h with ⟨hb, tgt, ht, rfl⟩ | ⟨hb, tgt, ht, rfl⟩
      · exact ⟨Nat.le_refl _, fun l G p e Rm s m args below meth c Q n0 C hn hc hc2 k => s_if_eq C hd ht (fun _ => k) (fun q => absurd hb q)⟩
      · exact ⟨Nat.le_refl _, fun l G p e Rm s m args below meth c Q n0 C hn hc hc2 k => s_if_eq C hd ht (fun q => absurd q hb) (fun _ => k)⟩
    · rcases bj_s h with ⟨hb, tgt, ht, rfl⟩ | ⟨hb, tgt, ht, rfl⟩
      · exact ⟨Nat.le_refl _, fun l G p e Rm s m args below meth c Q n0 C hn hc hc2 k => s_if_ne C hd ht (fun _ => k) (fun q => absurd hb q)⟩
      · exact ⟨Nat.le_refl _, fun l G p e Rm s m args below meth c Q n0 C hn hc hc2 k => s_if_ne C hd ht (fun q => absurd q hb) (fun _ => k)⟩
    · rcases bj_s h with ⟨hb, tgt, ht, rfl⟩ | ⟨hb, tgt, ht, rfl⟩
      · exact ⟨Nat.le_refl _, fun l G p e Rm s m args below meth c Q n0 C hn hc hc2 k => s_if_lt C hd ht (fun _ => k) (fun q => absurd hb q)⟩
      · exact ⟨Nat.le_refl _, fun l G p e Rm s m args below meth c Q n0 C hn hc hc2 k => s_if_lt C hd ht (fun q => absurd q hb) (fun _ => k)⟩
    · rcases bj_s h with ⟨hb, tgt, ht, rfl⟩ | ⟨hb, tgt, ht, rfl⟩
      · exact ⟨Nat.le_refl _, fun l G p e Rm s m args below meth c Q n0 C hn hc hc2 k => s_if_ge C hd ht (fun _ => k) (fun q => absurd hb q)⟩
      · exact ⟨Nat.le_refl _, fun l G p e Rm s m args below meth c Q n0 C hn hc hc2 k => s_if_ge C hd ht (fun q => absurd q hb) (fun _ => k)⟩
    · rcases bj_s h with ⟨hb, tgt, ht, rfl⟩ | ⟨hb, tgt, ht, rfl⟩
      · exact ⟨Nat.le_refl _, fun l G p e Rm s m args below meth c Q n0 C hn hc hc2 k => s_if_gt C hd ht (fun _ => k) (fun q => absurd hb q)⟩
      · exact ⟨Nat.le_refl _, fun l G p e Rm s m args below meth c Q n0 C hn hc hc2 k => s_if_gt C hd ht (fun q => absurd q hb) (fun _ => k)⟩
    · rcases bj_s h with ⟨hb, tgt, ht, rfl⟩ | ⟨hb, tgt, ht, rfl⟩
      · exact ⟨Nat.le_refl _, fun l G p e Rm s m args below meth c Q n0 C hn hc hc2 k => s_if_le C hd ht (fun _ => k) (fun q => absurd hb q)⟩
      · exact ⟨Nat.le_refl _, fun l G p e Rm s m args below meth c Q n0 C hn hc hc2 k => s_if_le C hd ht (fun q => absurd q hb) (fun _ => k)⟩
  · cases h
theorem q_icmp {cd : ClassFile.Cond} {off : Int} (hd : decode (cdM y) pc = .ok (.if_icmp cd off, len)) (hl : len = lnI (.if_icmp cd off) len) (h : x1 y pc (.if_icmp cd off) ls st n I L R = some z) : RES y pc ls st n I L R z := by
  have hl2 : len = 3 := hl
  subst hl2
  unfold x1 at h
  dsimp only at h
  split at h
  · split at h
    · rcases bj_s h with ⟨hb, tgt, ht, rfl⟩ | ⟨hb, tgt, ht, rfl⟩
      · exact ⟨Nat.le_refl _, fun l G p e Rm s m args below meth c Q n0 C hn hc hc2 k => s_icmp_eq C hd ht (fun _ => k) (fun q => absurd hb q)⟩
      · exact ⟨Nat.le_refl _, fun l G p e Rm s m args below meth c Q n0 C hn hc hc2 k => s_icmp_eq C hd ht (fun q => absurd q hb) (fun _ => k)⟩
    · rcases bj_s h with ⟨hb, tgt, ht, rfl⟩ | ⟨hb, tgt, ht, rfl⟩
      · exact ⟨Nat.le_refl _, fun l G p e Rm s m args below meth c Q n0 C hn hc hc2 k => s_icmp_ne C hd ht (fun _ => k) (fun q => absurd hb q)⟩
      · exact ⟨Nat.le_refl _, fun l G p e Rm s m args below meth c Q n0 C hn hc hc2 k => s_icmp_ne C hd ht (fun q => absurd q hb) (fun _ => k)⟩
    · rcases bj_s h with ⟨hb, tgt, ht, rfl⟩ | ⟨hb, tgt, ht, rfl⟩
      · exact ⟨Nat.le_refl _, fun l G p e Rm s m args below meth c Q n0 C hn hc hc2 k => s_icmp_lt C hd ht (fun _ => k) (fun q => absurd hb q)⟩
      · exact ⟨Nat.le_refl _, fun l G p e Rm s m args below meth c Q n0 C hn hc hc2 k => s_icmp_lt C hd ht (fun q => absurd q hb) (fun _ => k)⟩
    · rcases bj_s h with ⟨hb, tgt, ht, rfl⟩ | ⟨hb, tgt, ht, rfl⟩
      · exact ⟨Nat.le_refl _, fun l G p e Rm s m args below meth c Q n0 C hn hc hc2 k => s_icmp_ge C hd ht (fun _ => k) (fun q => absurd hb q)⟩
      · exact ⟨Nat.le_refl _, fun l G p e Rm s m args below meth c Q n0 C hn hc hc2 k => s_icmp_ge C hd ht (fun q => absurd q hb) (fun _ => k)⟩
    · rcases bj_s h with ⟨hb, tgt, ht, rfl⟩ | ⟨hb, tgt, ht, rfl⟩
      · exact ⟨Nat.le_refl _, fun l G p e Rm s m args below meth c Q n0 C hn hc hc2 k => s_icmp_gt C hd ht (fun _ => k) (fun q => absurd hb q)⟩
      · exact ⟨Nat.le_refl _, fun l G p e Rm s m args below meth c Q n0 C hn hc hc2 k => s_icmp_gt C hd ht (fun q => absurd q hb) (fun _ => k)⟩
    · rcases bj_s h with ⟨hb, tgt, ht, rfl⟩ | ⟨hb, tgt, ht, rfl⟩
      · exact ⟨Nat.le_refl _, fun l G p e Rm s m args below meth c Q n0 C hn hc hc2 k => s_icmp_le C hd ht (fun _ => k) (fun q => absurd hb q)⟩
      · exact ⟨Nat.le_refl _, fun l G p e Rm s m args below meth c Q n0 C hn hc hc2 k => s_icmp_le C hd ht (fun q => absurd q hb) (fun _ => k)⟩
  · cases h
theorem q_tab {d lo hi : Int} {os : Array Int} (hd : decode (cdM y) pc = .ok (.tableswitch d lo hi os, len)) (h : x1 y pc (.tableswitch d lo hi os) ls st n I L R = some z) : RES y pc ls st n I L R z := by
  unfold x1 at h
  dsimp only at h
  split at h
  · split at h
    · rename_i hb
      obtain ⟨tgt, ht, rfl⟩ := jp_s h
      exact ⟨Nat.le_refl _, fun l G p e Rm s m args below meth c Q n0 C hn hc hc2 k => s_tabOut C hd hb ht k⟩
    · rename_i hb
      split at h
      · rename_i off ho
        obtain ⟨tgt, ht, rfl⟩ := jp_s h
        exact ⟨Nat.le_refl _, fun l G p e Rm s m args below meth c Q n0 C hn hc hc2 k => s_tabIn C hd (fun q => hb (Or.inl q)) (fun q => hb (Or.inr q)) ho ht k⟩
      · cases h
  · cases h
theorem q_look {d : Int} {ps : Array (Int × Int)} (hd : decode (cdM y) pc = .ok (.lookupswitch d ps, len)) (h : x1 y pc (.lookupswitch d ps) ls st n I L R = some z) : RES y pc ls st n I L R z := by
  unfold x1 at h
  dsimp only at h
  split at h
  · obtain ⟨h6, h⟩ := ifP_s h
    obtain ⟨tgt, ht, rfl⟩ := jp_s h
    exact ⟨Nat.le_refl _, fun l G p e Rm s m args below meth c Q n0 C hn hc hc2 k => s_lookup C hd h6 rfl ht k⟩
  · cases h
theorem q_ldc {i : Nat} (hd : decode (cdM y) pc = .ok (.ldc i, len)) (hl : len = lnI (.ldc i) len) (h : x1 y pc (.ldc i) ls st n I L R = some z) : RES y pc ls st n I L R z := by
  have hl2 : len = 2 := hl
  subst hl2
  unfold x1 at h
  dsimp only at h
  split at h
  · rename_i hv
    cases h
    exact ⟨Nat.le_refl _, fun l G p e Rm s m args below meth c Q n0 C hn hc hc2 k => s_ldc C hd (cs_all _ (pickT_in hv)) k⟩
  · split at h
    · rename_i hv
      cases h
      exact ⟨Nat.le_refl _, fun l G p e Rm s m args below meth c Q n0 C hn hc hc2 k => s_ldcS C hd hv k⟩
    · cases h
theorem q_ldc_w {i : Nat} (hd : decode (cdM y) pc = .ok (.ldc_w i, len)) (hl : len = lnI (.ldc_w i) len) (h : x1 y pc (.ldc_w i) ls st n I L R = some z) : RES y pc ls st n I L R z := by
  have hl2 : len = 3 := hl
  subst hl2
  unfold x1 at h
  dsimp only at h
  split at h
  · rename_i hv
    cases h
    exact ⟨Nat.le_refl _, fun l G p e Rm s m args below meth c Q n0 C hn hc hc2 k => s_ldc_w C hd (cs_all _ (pickT_in hv)) k⟩
  · cases h
theorem q_ldc2_w {i : Nat} (hd : decode (cdM y) pc = .ok (.ldc2_w i, len)) (hl : len = lnI (.ldc2_w i) len) (h : x1 y pc (.ldc2_w i) ls st n I L R = some z) : RES y pc ls st n I L R z := by
  have hl2 : len = 3 := hl
  subst hl2
  unfold x1 at h
  dsimp only at h
  split at h
  · rename_i hv
    cases h
    exact ⟨Nat.le_refl _, fun l G p e Rm s m args below meth c Q n0 C hn hc hc2 k => s_ldc2_w C hd (cl_all _ (pickT_in hv)) k⟩
  · cases h
theorem q_gets {i : Nat} (hd : decode (cdM y) pc = .ok (.getstatic i, len)) (hl : len = lnI (.getstatic i) len) (h : x1 y pc (.getstatic i) ls st n I L R = some z) : RES y pc ls st n I L R z := by
  have hl2 : len = 3 := hl
  subst hl2
  unfold x1 at h
  dsimp only at h
  obtain ⟨h13, h9⟩ := ifP_s h
  clear h
  split at h9
  · rename_i e
    subst e
    cases h9
    exact ⟨Nat.le_refl _, fun l G p e Rm s m args below meth c Q n0 C hn hc hc2 k => s_gets38 C hd h13 k⟩
  · obtain ⟨e, h8⟩ := ifP_s h9
    clear h9
    subst e
    cases h8
    exact ⟨Nat.le_refl _, fun l G p e Rm s m args below meth c Q n0 C hn hc hc2 k => s_gets1053 C hd h13 k⟩
theorem q_getf {i : Nat} (hd : decode (cdM y) pc = .ok (.getfield i, len)) (hl : len = lnI (.getfield i) len) (h : x1 y pc (.getfield i) ls st n I L R = some z) : RES y pc ls st n I L R z := by
  have hl2 : len = 3 := hl
  subst hl2
  unfold x1 at h
  dsimp only at h
  split at h
  · rename_i d j hf
    split at h
    · obtain ⟨ho, h9⟩ := ifP_s h
      clear h
      split at h9
      · rename_i e
        subst e
        split at h9
        · rename_i e
          subst e
          cases h9
          exact ⟨Nat.le_refl _, fun l G p e Rm s m args below meth c Q n0 C hn hc hc2 k => s_getS C hd hf ho k⟩
        · rename_i e9
          cases h9
          exact ⟨Nat.le_refl _, fun l G p e Rm s m args below meth c Q n0 C hn hc hc2 k => s_getS C hd hf ho (by rw [if_neg e9]; exact k)⟩
      · obtain ⟨hj, h8⟩ := ifP_s h9
        cases h8
        exact ⟨Nat.le_refl _, fun l G p e Rm s m args below meth c Q n0 C hn hc hc2 k => s_getf C hd hf ho hj k⟩
    · cases h
  · cases h
theorem q_putf {i : Nat} (hd : decode (cdM y) pc = .ok (.putfield i, len)) (hl : len = lnI (.putfield i) len) (h : x1 y pc (.putfield i) ls st n I L R = some z) : RES y pc ls st n I L R z := by
  have hl2 : len = 3 := hl
  subst hl2
  unfold x1 at h
  dsimp only at h
  split at h
  · rename_i d j hf
    split at h
    · obtain ⟨⟨ho, hon, hd10, hj, hp, hfin⟩, h⟩ := ifP_s h
      split at h
      · cases h
        refine ⟨Nat.le_refl _, fun l G p e Rm s m args below meth c Q n0 C hn hc hc2 k => s_putf C hd hf ho ⟨hd10, hj⟩ hp hfin (fun q e => by cases e) upI_ne (fun _ _ => rfl) ?_ (fun q hq => ⟨by rw [up2_s, upr_n hq], rfl⟩) k⟩
        have hR : isR (ftX d j) = false := by
          revert hp
          generalize ftX d j = t
          intro hp
          cases t <;> first | rfl | (exact hp.elim)
        unfold fvX
        rw [hR, up2_s, upr_s]
        rfl
      · obtain ⟨h1, h⟩ := ifP_s h
        cases h
        refine ⟨Nat.le_refl _, fun l G p e Rm s m args below meth c Q n0 C hn hc hc2 k => s_putf C hd hf ho ⟨hd10, hj⟩ hp hfin (fun q e => by cases e; exact h1) (fun _ _ => rfl) (fun a ha => up2_n ha) ?_ (fun q hq => ⟨rfl, by rw [up2_s, upr_n hq]⟩) k⟩
        have hR : isR (ftX d j) = true := by
          revert hp
          generalize ftX d j = t
          intro hp
          cases t <;> first | rfl | (exact hp.elim)
        unfold fvX
        rw [hR]
        show va_rf (up2 R _ j (some _) _ j) = _
        rw [up2_s, upr_s]
        rfl
      · cases h
    · cases h
  · cases h
theorem q_new {i : Nat} (hd : decode (cdM y) pc = .ok (.new i, len)) (hl : len = lnI (.new i) len) (h : x1 y pc (.new i) ls st n I L R = some z) : RES y pc ls st n I L R z := by
  have hl2 : len = 3 := hl
  subst hl2
  unfold x1 at h
  dsimp only at h
  split at h
  · rename_i hv
    obtain ⟨h6, h⟩ := ifP_s h
    cases h
    exact ⟨Nat.le_succ _, fun l G p e Rm s m args below meth c Q n0 C hn hc hc2 k => s_new C hd hn hv h6.1 h6.2 hc2 k⟩
  · cases h
theorem q_newa {t : ArrayType} (hd : decode (cdM y) pc = .ok (.newarray t, len)) (hl : len = lnI (.newarray t) len) (h : x1 y pc (.newarray t) ls st n I L R = some z) : RES y pc ls st n I L R z := by
  have hl2 : len = 2 := hl
  subst hl2
  unfold x1 at h
  dsimp only at h
  split at h
  · obtain ⟨h6, h⟩ := ifP_s h
    cases h
    exact ⟨Nat.le_succ _, fun l G p e Rm s m args below meth c Q n0 C hn hc hc2 k => s_newa C hd hn h6.1 h6.2.1 h6.2.2 hc2 k⟩
  · cases h
theorem q_alen (hd : decode (cdM y) pc = .ok (.arraylength, len)) (hl : len = lnI (.arraylength) len) (h : x1 y pc (.arraylength) ls st n I L R = some z) : RES y pc ls st n I L R z := by
  have hl2 : len = 1 := hl
  subst hl2
  unfold x1 at h
  dsimp only at h
  split at h
  · obtain ⟨h6, h⟩ := ifP_s h
    cases h
    exact ⟨Nat.le_refl _, fun l G p e Rm s m args below meth c Q n0 C hn hc hc2 k => s_alen C hd h6 k⟩
  · cases h
theorem q_iaload (hd : decode (cdM y) pc = .ok (.iaload, len)) (hl : len = lnI (.iaload) len) (h : x1 y pc (.iaload) ls st n I L R = some z) : RES y pc ls st n I L R z := by
  have hl2 : len = 1 := hl
  subst hl2
  unfold x1 at h
  dsimp only at h
  split at h
  · obtain ⟨h6, h⟩ := ifP_s h
    cases h
    exact ⟨Nat.le_refl _, fun l G p e Rm s m args below meth c Q n0 C hn hc hc2 k => s_iaload C hd h6.1 h6.2 k⟩
  · cases h
theorem q_baload (hd : decode (cdM y) pc = .ok (.baload, len)) (hl : len = lnI (.baload) len) (h : x1 y pc (.baload) ls st n I L R = some z) : RES y pc ls st n I L R z := by
  have hl2 : len = 1 := hl
  subst hl2
  unfold x1 at h
  dsimp only at h
  split at h
  · obtain ⟨h6, h⟩ := ifP_s h
    cases h
    exact ⟨Nat.le_refl _, fun l G p e Rm s m args below meth c Q n0 C hn hc hc2 k => s_baload C hd h6.1 h6.2 k⟩
  · cases h
theorem q_laload (hd : decode (cdM y) pc = .ok (.laload, len)) (hl : len = lnI (.laload) len) (h : x1 y pc (.laload) ls st n I L R = some z) : RES y pc ls st n I L R z := by
  have hl2 : len = 1 := hl
  subst hl2
  unfold x1 at h
  dsimp only at h
  split at h
  · obtain ⟨h6, h⟩ := ifP_s h
    cases h
    exact ⟨Nat.le_refl _, fun l G p e Rm s m args below meth c Q n0 C hn hc hc2 k => s_laload C hd h6.1 h6.2 k⟩
  · cases h
theorem q_iastore (hd : decode (cdM y) pc = .ok (.iastore, len)) (hl : len = lnI (.iastore) len) (h : x1 y pc (.iastore) ls st n I L R = some z) : RES y pc ls st n I L R z := by
  have hl2 : len = 1 := hl
  subst hl2
  unfold x1 at h
  dsimp only at h
  split at h
  · obtain ⟨h6, h⟩ := ifP_s h
    cases h
    exact ⟨Nat.le_refl _, fun l G p e Rm s m args below meth c Q n0 C hn hc hc2 k => s_iastore C hd h6.1 h6.2.1 h6.2.2 k⟩
  · cases h
theorem q_bastore (hd : decode (cdM y) pc = .ok (.bastore, len)) (hl : len = lnI (.bastore) len) (h : x1 y pc (.bastore) ls st n I L R = some z) : RES y pc ls st n I L R z := by
  have hl2 : len = 1 := hl
  subst hl2
  unfold x1 at h
  dsimp only at h
  split at h
  · obtain ⟨h6, h⟩ := ifP_s h
    cases h
    exact ⟨Nat.le_refl _, fun l G p e Rm s m args below meth c Q n0 C hn hc hc2 k => s_bastore C hd h6.1 h6.2.1 h6.2.2 k⟩
  · cases h
theorem q_lastore (hd : decode (cdM y) pc = .ok (.lastore, len)) (hl : len = lnI (.lastore) len) (h : x1 y pc (.lastore) ls st n I L R = some z) : RES y pc ls st n I L R z := by
  have hl2 : len = 1 := hl
  subst hl2
  unfold x1 at h
  dsimp only at h
  split at h
  · obtain ⟨h6, h⟩ := ifP_s h
    cases h
    exact ⟨Nat.le_refl _, fun l G p e Rm s m args below meth c Q n0 C hn hc hc2 k => s_lastore C hd h6.1 h6.2.1 h6.2.2 k⟩
  · cases h
theorem q_iret (hd : decode (cdM y) pc = .ok (.ireturn, len)) (hl : len = lnI (.ireturn) len) (h : x1 y pc (.ireturn) ls st n I L R = some z) : RES y pc ls st n I L R z := by
  have hl2 : len = 1 := hl
  subst hl2
  unfold x1 at h
  dsimp only at h
  split at h
  · obtain ⟨h6, h⟩ := ifP_s h
    cases h
    exact ⟨Or.inl ⟨_, hd, rfl, h6⟩, rfl⟩
  · cases h
theorem q_lret (hd : decode (cdM y) pc = .ok (.lreturn, len)) (hl : len = lnI (.lreturn) len) (h : x1 y pc (.lreturn) ls st n I L R = some z) : RES y pc ls st n I L R z := by
  have hl2 : len = 1 := hl
  subst hl2
  unfold x1 at h
  dsimp only at h
  split at h
  · obtain ⟨h6, h⟩ := ifP_s h
    cases h
    exact ⟨Or.inr (Or.inl ⟨_, hd, rfl, h6⟩), rfl⟩
  · cases h
theorem q_vret (hd : decode (cdM y) pc = .ok (.return_, len)) (hl : len = lnI (.return_) len) (h : x1 y pc (.return_) ls st n I L R = some z) : RES y pc ls st n I L R z := by
  have hl2 : len = 1 := hl
  subst hl2
  unfold x1 at h
  dsimp only at h
  split at h
  · obtain ⟨h6, h⟩ := ifP_s h
    cases h
    exact ⟨Or.inr (Or.inr ⟨hd, rfl, h6⟩), rfl⟩
  · cases h
theorem clY_2 {w n : Nat} {as rest : List Value} {z : XR} (h : clY 2 w as rest n = some z) : ∃ (o : Nat) (as' : List Value), as = .ref o :: as' ∧ ip o < n ∧ z = .inr (.inr (w, .ref o :: as', rest)) := by
  cases as with
  | nil => simp [clY] at h
  | cons v r =>
    cases v with
    | ref o =>
      obtain ⟨a, b⟩ := ifP_s h
      exact ⟨o, r, rfl, a, (Option.some.inj b).symm⟩
    | _ => simp [clY] at h
theorem clY_3 {w n : Nat} {as rest : List Value} {z : XR} (h : clY 3 w as rest n = some z) : ∃ (o : Nat) (as' : List Value), as = .ref o :: as' ∧ ip o < n ∧ z = .inr (.inr (w, .ref o :: as', rest)) := by
  cases as with
  | nil => simp [clY] at h
  | cons v r =>
    cases v with
    | ref o =>
      obtain ⟨a, b⟩ := ifP_s h
      exact ⟨o, r, rfl, a, (Option.some.inj b).symm⟩
    | _ => simp [clY] at h
theorem tk_dr (k : Nat) (st : List Value) : st = ((st.take k).reverse).reverse ++ st.drop k := by rw [List.reverse_reverse, List.take_append_drop]
theorem tk_len {k : Nat} {st : List Value} (h : k ≤ st.length) : ((st.take k).reverse).length = k := by rw [List.length_reverse, List.length_take]; omega
theorem q_invv {i : Nat} (hd : decode (cdM y) pc = .ok (.invokevirtual i, len)) (hl : len = lnI (.invokevirtual i) len) (h : x1 y pc (.invokevirtual i) ls st n I L R = some z) : RES y pc ls st n I L R z := by
  have hl2 : len = 3 := hl
  subst hl2
  unfold x1 at h
  dsimp only at h
  split at h
  · rename_i w hk
    have hlk := lk_ok hk
    obtain ⟨⟨h1, h2, h3, h4, h5, h6⟩, h⟩ := ifP_s h
    have hst := tk_dr (naM w) st
    have hle := tk_len h1
    unfold clY at h
    split at h
    · rename_i o as has
      obtain ⟨ho, h⟩ := ifP_s h
      cases h
      rw [has] at hst hle h5 h6
      refine ⟨hlk.2.2.2.2.2, h6, h5, fun l G p e Rm s m args below meth c Q n0 C hn r n1 I1 L1 R1 hn1 hc hM k => ?_⟩
      rw [hst]
      exact s_callV C hd hlk hn hn1 ho hle ⟨h2, h3⟩ h4 hc hM k
    · rename_i e; cases e
    · rename_i e _; cases e
    · rename_i e _; cases e
    · cases h
  · cases h
theorem q_invs {i : Nat} (hd : decode (cdM y) pc = .ok (.invokestatic i, len)) (hl : len = lnI (.invokestatic i) len) (h : x1 y pc (.invokestatic i) ls st n I L R = some z) : RES y pc ls st n I L R z := by
  have hl2 : len = 3 := hl
  subst hl2
  unfold x1 at h
  dsimp only at h
  split at h
  · rename_i w hk
    have hlk := lk_ok hk
    obtain ⟨⟨h1, h2, h3, h4, h5, h6⟩, h⟩ := ifP_s h
    have hst := tk_dr (naM w) st
    have hle := tk_len h1
    have h : some (Sum.inr (Sum.inr (w, (st.take (naM w)).reverse, st.drop (naM w)))) = some z := h
    cases h
    refine ⟨hlk.2.2.2, h6, h5, fun l G p e Rm s m args below meth c Q n0 C hn r n1 I1 L1 R1 hn1 hc hM k => ?_⟩
    have := s_callS (ls := ls) C hd hlk hn hn1 hle ⟨h2, h3⟩ h4 hc hM k
    rw [← hst] at this
    exact this
  · rename_i q hk
    have hlk := lk_ok hk
    split at h
    · obtain ⟨⟨h1, h2, h3, h4, h5, h6, h7, h8, h9, h10, h11⟩, h⟩ := ifP_s h
      cases h
      exact ⟨Nat.le_refl _, fun l G p e Rm s m args below meth c Q n0 C hn hc hc2 k => s_copy C hd hlk h1 h2 h3 h4 h5 h6 h7 h8 h9 h10 h11 k⟩
    · cases h
  · rename_i q hk
    have hlk := lk_ok hk
    split at h
    · obtain ⟨⟨h1, h2⟩, h⟩ := ifP_s h
      cases h
      exact ⟨Nat.le_refl _, fun l G p e Rm s m args below meth c Q n0 C hn hc hc2 k => s_max C hd hlk h1 h2 hc k⟩
    · cases h
  · rename_i q hk
    have hlk := lk_ok hk
    split at h
    · obtain ⟨⟨h1, h2⟩, h⟩ := ifP_s h
      cases h
      exact ⟨Nat.le_refl _, fun l G p e Rm s m args below meth c Q n0 C hn hc hc2 k => s_min C hd hlk h1 h2 hc k⟩
    · cases h
  · rename_i q hk
    have hlk := lk_ok hk
    split at h
    · obtain ⟨⟨h1, h2⟩, h⟩ := ifP_s h
      cases h
      exact ⟨Nat.le_refl _, fun l G p e Rm s m args below meth c Q n0 C hn hc hc2 k => s_abs C hd hlk h1 h2 hc k⟩
    · cases h
  · cases h
theorem q_invi {i : Nat} (hd : decode (cdM y) pc = .ok (.invokespecial i, len)) (hl : len = lnI (.invokespecial i) len) (h : x1 y pc (.invokespecial i) ls st n I L R = some z) : RES y pc ls st n I L R z := by
  have hl2 : len = 3 := hl
  subst hl2
  unfold x1 at h
  dsimp only at h
  split at h
  · rename_i w hk
    have hlk := lk_ok hk
    obtain ⟨⟨h1, h2, h3, h4, h5, h6⟩, h⟩ := ifP_s h
    have hst := tk_dr (naM w) st
    have hle := tk_len h1
    have key : ∀ (o : Nat) (as : List Value), (st.take (naM w)).reverse = .ref o :: as → ip o < n → z = .inr (.inr (w, .ref o :: as, st.drop (naM w))) → RES y pc ls st n I L R z := by
      intro o as has ho e
      subst e
      rw [has] at hst hle h5 h6
      refine ⟨hlk.2.2.2.2.2.1, h6, h5, fun l G p e Rm s m args below meth c Q n0 C hn r n1 I1 L1 R1 hn1 hc hM k => ?_⟩
      rw [hst]
      intro hlen hdb H locs lsM hH hS hl
      exact s_callI C hd hlk hn hn1 (HX_lt hH ho) hle ⟨h2, h3⟩ h4 hc hM k hlen hdb H locs lsM hH hS hl
    obtain ⟨o, as, has, ho, e⟩ := clY_2 h
    exact key o as has ho e
  · rename_i w hk
    have hlk := lk_ok hk
    obtain ⟨⟨h1, h2, h3, h4, h5, h6⟩, h⟩ := ifP_s h
    have hst := tk_dr (naM w) st
    have hle := tk_len h1
    have key : ∀ (o : Nat) (as : List Value), (st.take (naM w)).reverse = .ref o :: as → ip o < n → z = .inr (.inr (w, .ref o :: as, st.drop (naM w))) → RES y pc ls st n I L R z := by
      intro o as has ho e
      subst e
      rw [has] at hst hle h5 h6
      refine ⟨hlk.2.2.2.2.2.1, h6, h5, fun l G p e Rm s m args below meth c Q n0 C hn r n1 I1 L1 R1 hn1 hc hM k => ?_⟩
      rw [hst]
      intro hlen hdb H locs lsM hH hS hl
      exact s_callN C hd hlk hn hn1 (HX_lt hH ho) hle ⟨h2, h3⟩ h4 hc hM k hlen hdb H locs lsM hH hS hl
    obtain ⟨o, as, has, ho, e⟩ := clY_3 h
    exact key o as has ho e
  · rename_i q hk
    have hlk := lk_ok hk
    split at h
    · obtain ⟨⟨h1, h2, h3⟩, h⟩ := ifP_s h
      cases h
      exact ⟨Nat.le_refl _, fun l G p e Rm s m args below meth c Q n0 C hn hc hc2 k => fun hlen hdb H locs lsM hH hS hl => s_objI C hd hlk h1 (HX_lt hH h1) h2 h3 k hlen hdb H locs lsM hH hS hl⟩
    · cases h
  · cases h
theorem x1_ok {i : Instr} (hd : decode (cdM y) pc = .ok (i, len)) (hl : len = lnI i len) (h : x1 y pc i ls st n I L R = some z) : RES y pc ls st n I L R z := by
  cases i
  case iconst => exact q_iconst hd hl h
  case bipush => exact q_bipush hd hl h
  case sipush => exact q_sipush hd hl h
  case lconst => exact q_lconst hd hl h
  case tableswitch => exact q_tab hd h
  case lookupswitch => exact q_look hd h
  case getstatic => exact q_gets hd hl h
  case getfield => exact q_getf hd hl h
  case putfield => exact q_putf hd hl h
  case new => exact q_new hd hl h
  case newarray => exact q_newa hd hl h
  case arraylength => exact q_alen hd hl h
  case ireturn => exact q_iret hd hl h
  case lreturn => exact q_lret hd hl h
  case return_ => exact q_vret hd hl h
  case invokevirtual => exact q_invv hd hl h
  case invokestatic => exact q_invs hd hl h
  case invokespecial => exact q_invi hd hl h
  case ifCond => exact q_if hd hl h
  case if_icmp => exact q_icmp hd hl h
  case iload => exact q_iload hd hl h
  case iload_n => exact q_iload_n hd hl h
  case lload => exact q_lload hd hl h
  case lload_n => exact q_lload_n hd hl h
  case aload => exact q_aload hd hl h
  case aload_n => exact q_aload_n hd hl h
  case istore => exact q_istore hd hl h
  case istore_n => exact q_istore_n hd hl h
  case lstore => exact q_lstore hd hl h
  case lstore_n => exact q_lstore_n hd hl h
  case astore => exact q_astore hd hl h
  case astore_n => exact q_astore_n hd hl h
  case iinc => exact q_iinc hd hl h
  case iadd => exact q_iadd hd hl h
  case isub => exact q_isub hd hl h
  case imul => exact q_imul hd hl h
  case iand => exact q_iand hd hl h
  case ior => exact q_ior hd hl h
  case ixor => exact q_ixor hd hl h
  case ishl => exact q_ishl hd hl h
  case ishr => exact q_ishr hd hl h
  case iushr => exact q_iushr hd hl h
  case ineg => exact q_ineg hd hl h
  case ladd => exact q_ladd hd hl h
  case lsub => exact q_lsub hd hl h
  case lmul => exact q_lmul hd hl h
  case lcmp => exact q_lcmp hd hl h
  case i2l => exact q_i2l hd hl h
  case l2i => exact q_l2i hd hl h
  case i2b => exact q_i2b hd hl h
  case i2c => exact q_i2c hd hl h
  case idiv => exact q_idiv hd hl h
  case irem => exact q_irem hd hl h
  case ldiv => exact q_ldiv hd hl h
  case lrem => exact q_lrem hd hl h
  case dup => exact q_dup hd hl h
  case pop => exact q_pop hd hl h
  case dup2 => exact q_dup2 hd hl h
  case goto => exact q_goto hd hl h
  case ldc => exact q_ldc hd hl h
  case ldc_w => exact q_ldc_w hd hl h
  case ldc2_w => exact q_ldc2_w hd hl h
  case iaload => exact q_iaload hd hl h
  case baload => exact q_baload hd hl h
  case laload => exact q_laload hd hl h
  case iastore => exact q_iastore hd hl h
  case bastore => exact q_bastore hd hl h
  case lastore => exact q_lastore hd hl h
  all_goals (exact absurd h (by unfold x1; dsimp only; exact fun q => by cases q))
end SL
