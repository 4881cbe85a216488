/-! READ: two readers side by side, purely -/
def SE (S Z : PS) : Prop := S.2.1 = Z.2.1 ∧ (S.2.1 ≠ 0 → S.2.2.1 = Z.2.2.1) ∧ (S.2.1 = 0 → S.1 = Z.1 ∧ S.2.2.2.1 = Z.2.2.2.1 ∧ (S.2.2.2.1 ≠ 0 → S.2.2.2.2 = Z.2.2.2.2))
theorem stop_s {pl : Nat → Nat} {k : Int32} {S : PS} (h : S.2.1 ≠ 0) : stopP pl k S = S := if_neg h
theorem stop_0 {pl : Nat → Nat} {k : Int32} {S : PS} (h : S.2.1 = 0) : stopP pl k S = (S.1, k, nI (pl S.1), S.2.2.2) := if_pos h
theorem take_s {kd pl : Nat → Nat} {q : Nat} {S : PS} (h : S.2.1 ≠ 0) : takeP kd pl q S = S := by
  unfold takeP
  rw [if_neg (fun e => h e.1), stop_s h]
theorem tkB_s {kd : Nat → Nat} {q : Nat} {S : PS} (h : S.2.1 ≠ 0) : tkB kd q S = false := by
  unfold tkB
  rw [decide_eq_false h]
  rfl
theorem tkB_e {kd : Nat → Nat} {q : Nat} {S Z : PS} (h : SE S Z) : tkB kd q S = tkB kd q Z := by
  obtain ⟨h1, h2, h3⟩ := h
  by_cases e : S.2.1 = 0
  · unfold tkB
    rw [← h1, (h3 e).1]
  · rw [tkB_s e, tkB_s (by rw [← h1]; exact e)]
theorem note_p (k p : Int32) (S : PS) : (noteP k p S).2.2.1 = S.2.2.1 := by
  unfold noteP
  split <;> rfl
theorem SE_note {k p : Int32} {S Z : PS} (h : SE S Z) : SE (noteP k p S) (noteP k p Z) := by
  obtain ⟨h1, h2, h3⟩ := h
  refine ⟨by rw [note_f, note_f]; exact h1, fun e => by rw [note_p, note_p]; rw [note_f] at e; exact h2 e, fun e => ?_⟩
  rw [note_f] at e
  obtain ⟨a, b, c⟩ := h3 e
  rw [note_x, note_x]
  refine ⟨a, ?_⟩
  unfold noteP
  rw [← b]
  by_cases q : S.2.2.2.1 = 0
  · rw [if_pos (Or.inl q), if_pos (Or.inl q)]
    exact ⟨rfl, fun _ => rfl⟩
  · rw [← c q]
    split
    · exact ⟨rfl, fun _ => rfl⟩
    · exact ⟨b, c⟩
theorem SE_stop {pl : Nat → Nat} {k : Int32} (hk : k ≠ 0) {S Z : PS} (h : SE S Z) : SE (stopP pl k S) (stopP pl k Z) := by
  obtain ⟨h1, h2, h3⟩ := h
  by_cases e : S.2.1 = 0
  · have e2 : Z.2.1 = 0 := by rw [← h1]; exact e
    rw [stop_0 e, stop_0 e2]
    exact ⟨rfl, fun _ => by rw [(h3 e).1], fun q => absurd q hk⟩
  · rw [stop_s e, stop_s (by rw [← h1]; exact e)]
    exact ⟨h1, h2, h3⟩
theorem SE_go {pl : Nat → Nat} {S Z : PS} (h0 : S.2.1 = 0) (h : SE S Z) : SE (goP pl S) (goP pl Z) := by
  unfold goP
  have a := (h.2.2 h0).1
  rw [← a]
  split
  · exact ⟨h.1, h.2.1, fun e => ⟨rfl, (h.2.2 e).2⟩⟩
  · exact SE_stop (by decide) h
theorem is_e {kd : Nat → Nat} {q : Nat} {S Z : PS} (h : SE S Z) : isP kd q S = isP kd q Z := by
  unfold isP
  by_cases e : S.2.1 = 0
  · rw [← h.1, (h.2.2 e).1]
  · rw [← h.1, decide_eq_false e]
    rfl
theorem is_0 {kd : Nat → Nat} {q : Nat} {S : PS} (h : isP kd q S = true) : S.2.1 = 0 ∧ kd S.1 = q := by
  unfold isP at h
  simp only [Bool.and_eq_true, decide_eq_true_eq] at h
  exact h
theorem SE_take {kd pl : Nat → Nat} {q : Nat} {S Z : PS} (h : SE S Z) : SE (takeP kd pl q S) (takeP kd pl q Z) := by
  rw [take_is, take_is, ← is_e h]
  split
  · rename_i e
    exact SE_go (is_0 e).1 h
  · exact SE_stop (by decide) h
theorem SE_x {kd : Nat → Nat} {q : Nat} {S Z : PS} (h : SE S Z) (e : tkB kd q S = true) : S.1 = Z.1 := (h.2.2 (take_ok (pl := kd) e).2.1).1
theorem SE_new {kd pl : Nat → Nat} {b : Bool} {S Z : PS} (h : SE S Z) : SE (newP kd pl b S) (newP kd pl b Z) := by
  unfold newP
  rw [← tkB_e h]
  split
  · rename_i e
    rw [← SE_x h e.1]
    exact SE_note (SE_take h)
  · exact SE_take h
theorem SE_kn {kd pl : Nat → Nat} {b : Option Nat} {S Z : PS} (h : SE S Z) : SE (knP kd pl b S) (knP kd pl b Z) := by
  unfold knP
  rw [← tkB_e h]
  split
  · rename_i e
    rw [← SE_x h e.1]
    exact SE_note (SE_take h)
  · exact SE_take h
theorem note_up (k p : Int32) (S : PS) (x : Nat) : noteP k p (x, S.2) = (x, (noteP k p S).2) := by
  unfold noteP
  split <;> rfl
theorem SE_int {kd pl vl : Nat → Nat} {lo hi : Int32} {S Z : PS} (h : SE S Z) : SE (intP kd pl vl lo hi S) (intM kd pl vl lo hi Z) := by
  unfold intP intM
  rw [take_is, ← is_e h]
  cases e : isP kd 24 S
  · have e2 : tkB kd 24 S = false := by
      unfold isP at e
      unfold tkB
      rw [← Bool.and_assoc, e]
      rfl
    rw [e2]
    simp only [Bool.false_eq_true, false_and, if_false]
    exact SE_stop (by decide) h
  · obtain ⟨g1, g2⟩ := is_0 e
    obtain ⟨h1, h2, h3⟩ := h.2.2 g1
    simp only [if_true]
    rw [← h1]
    by_cases q : S.1 < 400
    · have e2 : tkB kd 24 S = true := by
        unfold tkB
        rw [decide_eq_true g1, decide_eq_true g2, decide_eq_true q]
        rfl
      rw [e2]
      by_cases q2 : nI (vl S.1) < lo ∨ hi < nI (vl S.1)
      · rw [if_pos ⟨rfl, q2⟩, if_pos q2]
        have z : noteP 5 (nI (pl S.1)) (goP pl S) = goP pl (noteP 5 (nI (pl S.1)) S) := by
          unfold goP
          rw [note_x, if_pos q, if_pos q, note_up]
        rw [z]
        exact SE_go (by rw [note_f]; exact g1) (SE_note h)
      · rw [if_neg (fun x => q2 x.2), if_neg q2]
        exact SE_go g1 h
    · have e2 : tkB kd 24 S = false := by
        unfold tkB
        rw [decide_eq_false q, Bool.and_false, Bool.and_false]
      rw [e2]
      simp only [Bool.false_eq_true, false_and, if_false]
      have z : ∀ k p, SE (goP pl S) (goP pl (noteP k p Z)) := fun k p => by
        unfold goP
        rw [note_x, if_neg q, if_neg (by rw [← h1]; exact q), stop_0 g1, stop_0 (by rw [note_f, ← h.1]; exact g1)]
        refine ⟨rfl, fun _ => ?_, fun e => absurd (show (2 : Int32) = 0 from e) (by decide)⟩
        rw [note_x, h1]
      split
      · exact z _ _
      · exact SE_go g1 h
/-- where the later fault is -/
def BNB (pl : Nat → Nat) (S : PS) : Prop := S.2.1 = 0 → S.2.2.2.1 ≠ 0 → ∃ j, j < S.1 ∧ S.2.2.2.2 = nI (pl j) ∧ 0 < S.2.2.2.1
def BND (pl : Nat → Nat) (S : PS) : Prop := BNB pl S ∧ (S.2.2.2.1 = 0 → S.2.2.2.2 = -1)
theorem BND_stop {pl : Nat → Nat} {k : Int32} (hk : k ≠ 0) {S : PS} (h : BND pl S) : BND pl (stopP pl k S) := by
  by_cases e : S.2.1 = 0
  · rw [stop_0 e]
    exact ⟨fun q => absurd q hk, h.2⟩
  · rw [stop_s e]; exact h
theorem BND_take {kd pl : Nat → Nat} {q : Nat} {S : PS} (h : BND pl S) : BND pl (takeP kd pl q S) := by
  unfold takeP
  split
  · split
    · refine ⟨fun e1 e2 => ?_, h.2⟩
      obtain ⟨j, h1, h2, h3⟩ := h.1 e1 e2
      exact ⟨j, by show j < S.1 + 1; omega, h2, h3⟩
    · exact BND_stop (by decide) h
  · exact BND_stop (by decide) h
theorem BND_note {pl : Nat → Nat} {k : Int32} {j : Nat} {S : PS} (hk : 0 < k) (hj : S.2.1 = 0 → j < S.1) (h : BND pl S) : BND pl (noteP k (nI (pl j)) S) := by
  unfold noteP
  split
  · refine ⟨fun e _ => ⟨j, hj e, rfl, hk⟩, fun z => ?_⟩
    have z' : k = 0 := z
    rw [z'] at hk
    exact absurd hk (by decide)
  · exact h
theorem tk_x {kd pl : Nat → Nat} {q : Nat} {S : PS} (h : tkB kd q S = true) : S.1 < (takeP kd pl q S).1 := by
  rw [(take_ok h).1]
  exact Nat.lt_succ_self _
theorem BND_new {kd pl : Nat → Nat} {b : Bool} {S : PS} (h : BND pl S) : BND pl (newP kd pl b S) := by
  unfold newP
  split
  · rename_i e
    exact BND_note (by decide) (fun _ => tk_x e.1) (BND_take h)
  · exact BND_take h
theorem BND_kn {kd pl : Nat → Nat} {b : Option Nat} {S : PS} (h : BND pl S) : BND pl (knP kd pl b S) := by
  unfold knP
  split
  · rename_i e
    exact BND_note (by decide) (fun _ => tk_x e.1) (BND_take h)
  · exact BND_take h
theorem BND_int {kd pl vl : Nat → Nat} {lo hi : Int32} {S : PS} (h : BND pl S) : BND pl (intP kd pl vl lo hi S) := by
  unfold intP
  split
  · rename_i e
    exact BND_note (by decide) (fun _ => tk_x e.1) (BND_take h)
  · exact BND_take h
/-- no note changes anything any more -/
def FZ (pl : Nat → Nat) (n : Nat) (S : PS) : Prop := S.2.2.2.1 ≠ 0 ∧ ∃ p, S.2.2.2.2 = nI p ∧ p < 2 ^ 30 ∧ ∀ j, S.1 ≤ j → j ≤ n → p < pl j ∧ pl j < 2 ^ 30
theorem FZ_note {pl : Nat → Nat} {n j : Nat} {S : PS} (h : FZ pl n S) {T : PS} (hT : T.2.2.2 = S.2.2.2) (h1 : S.1 ≤ j) (h2 : j ≤ n) (k : Int32) : noteP k (nI (pl j)) T = T := by
  obtain ⟨a, p, b, c, d⟩ := h
  obtain ⟨d1, d2⟩ := d j h1 h2
  unfold noteP
  rw [hT, b]
  have e1 : (nI (pl j) < nI p) = False := ltF (by omega) (by omega)
  have e2 : (nI (pl j) = nI p) = False := eq_false (fun h => absurd ((nI_eq (by omega) (by omega)).mp h) (by omega))
  simp only [e1, e2, eq_false a, false_or, false_and, if_false]
theorem stop_l (pl : Nat → Nat) (k : Int32) (S : PS) : (stopP pl k S).2.2.2 = S.2.2.2 := by
  unfold stopP
  split <;> rfl
theorem take_l (kd pl : Nat → Nat) (q : Nat) (S : PS) : (takeP kd pl q S).2.2.2 = S.2.2.2 := by
  unfold takeP
  split
  · split
    · rfl
    · exact stop_l _ _ _
  · exact stop_l _ _ _
theorem take_xl (kd pl : Nat → Nat) (q : Nat) (S : PS) : S.1 ≤ (takeP kd pl q S).1 := by
  unfold takeP
  split
  · split
    · exact Nat.le_succ _
    · rw [stop_x]; exact Nat.le_refl _
  · rw [stop_x]; exact Nat.le_refl _
theorem FZ_take {kd pl : Nat → Nat} {n q : Nat} {S : PS} (h : FZ pl n S) : FZ pl n (takeP kd pl q S) := by
  obtain ⟨a, p, b, c, d⟩ := h
  have l := take_l kd pl q S
  have x := take_xl kd pl q S
  exact ⟨by rw [l]; exact a, p, by rw [l]; exact b, c, fun j h1 h2 => d j (by omega) h2⟩
theorem FZ_new {kd pl : Nat → Nat} {n : Nat} {b : Bool} {S : PS} (h : FZ pl n S) (hx : S.1 ≤ n) : newP kd pl b S = takeP kd pl 23 S := by
  unfold newP
  rw [FZ_note h (take_l _ _ _ _) (Nat.le_refl _) hx, ite_self]
theorem FZ_kn {kd pl : Nat → Nat} {n : Nat} {b : Option Nat} {S : PS} (h : FZ pl n S) (hx : S.1 ≤ n) : knP kd pl b S = takeP kd pl 23 S := by
  unfold knP
  rw [FZ_note h (take_l _ _ _ _) (Nat.le_refl _) hx, ite_self]
theorem FZ_int {kd pl vl : Nat → Nat} {n : Nat} {lo hi : Int32} {S : PS} (h : FZ pl n S) (hx : S.1 ≤ n) : intP kd pl vl lo hi S = takeP kd pl 24 S := by
  unfold intP
  rw [FZ_note h (take_l _ _ _ _) (Nat.le_refl _) hx, ite_self]
theorem note_0 {k p : Int32} (hk : k ≠ 0) {S : PS} : (noteP k p S).2.2.2.1 ≠ 0 := by
  unfold noteP
  split
  · exact hk
  · rename_i e
    exact fun q => e (Or.inl q)
/-- what was taken, if all went well -/
theorem take_0 {kd pl : Nat → Nat} {q : Nat} {S : PS} (h : (takeP kd pl q S).2.1 = 0) : takeP kd pl q S = (S.1 + 1, S.2) ∧ S.2.1 = 0 ∧ kd S.1 = q ∧ S.1 < 400 ∧ tkB kd q S = true := by
  cases e : tkB kd q S
  · exact absurd h (take_f e)
  · have := take_ok (pl := pl) e
    exact ⟨this.1, this.2.1, this.2.2.1, this.2.2.2, rfl⟩
theorem new_0 {kd pl : Nat → Nat} {b : Bool} {S : PS} (h : (newP kd pl b S).2.1 = 0) : (newP kd pl b S).1 = S.1 + 1 ∧ S.2.1 = 0 ∧ kd S.1 = 23 ∧ S.1 < 400 ∧ tkB kd 23 S = true ∧ ((newP kd pl b S).2.2.2.1 = 0 → S.2.2.2.1 = 0 ∧ b = false) := by
  have h' : (takeP kd pl 23 S).2.1 = 0 := by
    unfold newP at h
    split at h
    · rw [note_f] at h; exact h
    · exact h
  obtain ⟨a, b1, c, d, e⟩ := take_0 h'
  unfold newP
  rw [e]
  cases b
  · simp only [Bool.false_eq_true, and_false, if_false]
    rw [a]
    exact ⟨rfl, b1, c, d, trivial, fun q => ⟨q, trivial⟩⟩
  · simp only [and_self, if_true]
    rw [note_x, a]
    exact ⟨rfl, b1, c, d, trivial, fun q => absurd q (note_0 (by decide))⟩
theorem kn_0 {kd pl : Nat → Nat} {b : Option Nat} {S : PS} (h : (knP kd pl b S).2.1 = 0) : (knP kd pl b S).1 = S.1 + 1 ∧ S.2.1 = 0 ∧ kd S.1 = 23 ∧ S.1 < 400 ∧ tkB kd 23 S = true ∧ ((knP kd pl b S).2.2.2.1 = 0 → S.2.2.2.1 = 0 ∧ b ≠ none) := by
  have h' : (takeP kd pl 23 S).2.1 = 0 := by
    unfold knP at h
    split at h
    · rw [note_f] at h; exact h
    · exact h
  obtain ⟨a, b1, c, d, e⟩ := take_0 h'
  unfold knP
  rw [e]
  cases b
  · simp only [and_self, if_true]
    rw [note_x, a]
    exact ⟨rfl, b1, c, d, trivial, fun q => absurd q (note_0 (by decide))⟩
  · rename_i r
    rw [if_neg (fun q => by cases q.2), a]
    exact ⟨rfl, b1, c, d, rfl, fun q => ⟨q, fun z => by cases z⟩⟩
theorem int_0 {kd pl vl : Nat → Nat} {lo hi : Int32} {S : PS} (h : (intP kd pl vl lo hi S).2.1 = 0) : (intP kd pl vl lo hi S).1 = S.1 + 1 ∧ S.2.1 = 0 ∧ kd S.1 = 24 ∧ S.1 < 400 ∧ tkB kd 24 S = true ∧ ((intP kd pl vl lo hi S).2.2.2.1 = 0 → S.2.2.2.1 = 0 ∧ lo ≤ nI (vl S.1) ∧ nI (vl S.1) ≤ hi) := by
  have h' : (takeP kd pl 24 S).2.1 = 0 := by
    unfold intP at h
    split at h
    · rw [note_f] at h; exact h
    · exact h
  obtain ⟨a, b1, c, d, e⟩ := take_0 h'
  unfold intP
  rw [e]
  by_cases q : nI (vl S.1) < lo ∨ hi < nI (vl S.1)
  · rw [if_pos ⟨rfl, q⟩, note_x, a]
    exact ⟨rfl, b1, c, d, rfl, fun z => absurd z (note_0 (by decide))⟩
  · rw [if_neg (fun z => q z.2), a]
    exact ⟨rfl, b1, c, d, rfl, fun z => ⟨z, Int32.not_lt.mp (fun w => q (Or.inl w)), Int32.not_lt.mp (fun w => q (Or.inr w))⟩⟩
