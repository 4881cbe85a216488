/-! READ: LESSON and TURN, purely -/
theorem FZ_e {pl : Nat → Nat} {n : Nat} {S Z : PS} (h : SE S Z) (e : S.2.1 = 0) (f : FZ pl n S) : FZ pl n Z := by
  obtain ⟨p1, p2, p3⟩ := h.2.2 e
  obtain ⟨q1, p, q2, q3, q4⟩ := f
  exact ⟨by rw [← p2]; exact q1, p, by rw [← p3 q1]; exact q2, q3, by rw [← p1]; exact q4⟩
theorem note_l {k p : Int32} (hk : k ≠ 0) {S : PS} (h : S.2.2.2.1 ≠ 0) : (noteP k p S).2.2.2.1 ≠ 0 := note_0 hk
theorem les_SE0 {kd pl : Nat → Nat} {l1 l2 : Nat → Option Nat} (hl : ∀ j, kd j = 23 → l1 j = l2 j) : ∀ r (S Z : PS) (w : Nat), SE S Z → SE (lesP kd pl l1 r S w).1 (lesP kd pl l2 r Z w).1 ∧ (lesP kd pl l1 r S w).2 = (lesP kd pl l2 r Z w).2 := by
  intro r
  induction r with
  | zero => intro S Z w h; exact ⟨h, rfl⟩
  | succ r ih =>
    intro S Z w h
    unfold lesP
    rw [← is_e (q := 23) h, ← tkB_e (q := 23) h]
    cases e : isP kd 23 S
    · rw [if_neg (by decide), if_neg (by decide)]; exact ⟨h, rfl⟩
    · have i0 := is_0 e
      have xz := (h.2.2 i0.1).1
      rw [if_pos rfl, if_pos rfl, ← xz, ← hl _ i0.2]
      cases e2 : tkB kd 23 S
      · rw [if_neg (by decide), if_neg (by decide)]; exact ⟨SE_take h, rfl⟩
      · rw [if_pos rfl, if_pos rfl]
        cases l1 S.1 with
        | none => exact ih _ _ w (SE_note (SE_take h))
        | some z =>
          show SE (lesP kd pl l1 r (if w.testBit z = true then noteP 3 (nI (pl S.1)) (takeP kd pl 23 S) else takeP kd pl 23 S) (w ||| 2 ^ z)).1 (lesP kd pl l2 r (if w.testBit z = true then noteP 3 (nI (pl S.1)) (takeP kd pl 23 Z) else takeP kd pl 23 Z) (w ||| 2 ^ z)).1 ∧ (lesP kd pl l1 r (if w.testBit z = true then noteP 3 (nI (pl S.1)) (takeP kd pl 23 S) else takeP kd pl 23 S) (w ||| 2 ^ z)).2 = (lesP kd pl l2 r (if w.testBit z = true then noteP 3 (nI (pl S.1)) (takeP kd pl 23 Z) else takeP kd pl 23 Z) (w ||| 2 ^ z)).2
          cases w.testBit z
          · simp only [Bool.false_eq_true, if_false]; exact ih _ _ _ (SE_take h)
          · simp only [if_true]; exact ih _ _ _ (SE_note (SE_take h))
theorem les_SE1 {kd pl vl : Nat → Nat} {n : Nat} {K3 K4 : Nat → Int32} {K5 : Nat → Int64} (hT : TKR kd pl vl n K3 K4 K5) {l1 l2 : Nat → Option Nat} : ∀ r (S Z : PS) (w w' : Nat), SE S Z → S.1 ≤ n → FZ pl n S → SE (lesP kd pl l1 r S w).1 (lesP kd pl l2 r Z w').1 := by
  intro r
  induction r with
  | zero => intro S Z w w' h _ _; exact h
  | succ r ih =>
    intro S Z w w' h hx hf
    unfold lesP
    rw [← is_e (q := 23) h, ← tkB_e (q := 23) h]
    cases e : isP kd 23 S
    · rw [if_neg (by decide), if_neg (by decide)]; exact h
    · have i0 := is_0 e
      have xz := (h.2.2 i0.1).1
      have fz := FZ_e h i0.1 hf
      rw [if_pos rfl, if_pos rfl]
      cases e2 : tkB kd 23 S
      · rw [if_neg (by decide), if_neg (by decide)]; exact SE_take h
      · rw [if_pos rfl, if_pos rfl]
        have n1 : ∀ k, noteP k (nI (pl S.1)) (takeP kd pl 23 S) = takeP kd pl 23 S := fun k => FZ_note hf (take_l _ _ _ _) (Nat.le_refl _) hx k
        have n2 : ∀ k, noteP k (nI (pl Z.1)) (takeP kd pl 23 Z) = takeP kd pl 23 Z := fun k => FZ_note fz (take_l _ _ _ _) (Nat.le_refl _) (by rw [← xz]; exact hx) k
        have go : ∀ a b, SE (lesP kd pl l1 r (takeP kd pl 23 S) a).1 (lesP kd pl l2 r (takeP kd pl 23 Z) b).1 := fun a b => ih _ _ a b (SE_take h) (take_le hT (by decide) hx) (FZ_take hf)
        cases l1 S.1 with
        | none =>
          cases l2 Z.1 with
          | none => show SE (lesP kd pl l1 r (noteP 4 (nI (pl S.1)) (takeP kd pl 23 S)) w).1 (lesP kd pl l2 r (noteP 4 (nI (pl Z.1)) (takeP kd pl 23 Z)) w').1; rw [n1, n2]; exact go _ _
          | some z => show SE (lesP kd pl l1 r (noteP 4 (nI (pl S.1)) (takeP kd pl 23 S)) w).1 (lesP kd pl l2 r (if w'.testBit z = true then noteP 3 (nI (pl Z.1)) (takeP kd pl 23 Z) else takeP kd pl 23 Z) (w' ||| 2 ^ z)).1; rw [n1, n2, ite_self]; exact go _ _
        | some y =>
          cases l2 Z.1 with
          | none => show SE (lesP kd pl l1 r (if w.testBit y = true then noteP 3 (nI (pl S.1)) (takeP kd pl 23 S) else takeP kd pl 23 S) (w ||| 2 ^ y)).1 (lesP kd pl l2 r (noteP 4 (nI (pl Z.1)) (takeP kd pl 23 Z)) w').1; rw [n1, n2, ite_self]; exact go _ _
          | some z => show SE (lesP kd pl l1 r (if w.testBit y = true then noteP 3 (nI (pl S.1)) (takeP kd pl 23 S) else takeP kd pl 23 S) (w ||| 2 ^ y)).1 (lesP kd pl l2 r (if w'.testBit z = true then noteP 3 (nI (pl Z.1)) (takeP kd pl 23 Z) else takeP kd pl 23 Z) (w' ||| 2 ^ z)).1; rw [n1, n2, ite_self, ite_self]; exact go _ _
theorem les_B {kd pl : Nat → Nat} {lk : Nat → Option Nat} : ∀ r (S : PS) (w : Nat), BND pl S → BND pl (lesP kd pl lk r S w).1 := by
  intro r
  induction r with
  | zero => intro S w h; exact h
  | succ r ih =>
    intro S w h
    unfold lesP
    cases e : isP kd 23 S
    · rw [if_neg (by decide)]; exact h
    · rw [if_pos rfl]
      cases e2 : tkB kd 23 S
      · rw [if_neg (by decide)]; exact BND_take h
      · rw [if_pos rfl]
        have n1 : ∀ k, 0 < k → BND pl (noteP k (nI (pl S.1)) (takeP kd pl 23 S)) := fun k hk => BND_note hk (fun _ => tk_x e2) (BND_take h)
        cases lk S.1 with
        | none => exact ih _ w (n1 4 (by decide))
        | some z =>
          show BND pl (lesP kd pl lk r (if w.testBit z = true then noteP 3 (nI (pl S.1)) (takeP kd pl 23 S) else takeP kd pl 23 S) (w ||| 2 ^ z)).1
          cases w.testBit z
          · rw [if_neg (by decide)]; exact ih _ _ (BND_take h)
          · rw [if_pos rfl]; exact ih _ _ (n1 3 (by decide))
theorem les_0 {kd pl : Nat → Nat} {lk : Nat → Option Nat} : ∀ r (S : PS) (w : Nat), (lesP kd pl lk r S w).1.2.1 = 0 → S.2.1 = 0 ∧ S.1 ≤ (lesP kd pl lk r S w).1.1 ∧ ((lesP kd pl lk r S w).1.2.2.2.1 = 0 → S.2.2.2.1 = 0) := by
  intro r
  induction r with
  | zero => intro S w h; exact ⟨h, Nat.le_refl _, fun z => z⟩
  | succ r ih =>
    intro S w h
    unfold lesP at h ⊢
    cases e : isP kd 23 S
    · rw [e, if_neg (by decide)] at h
      rw [if_neg (by decide)]; exact ⟨h, Nat.le_refl _, fun z => z⟩
    · rw [e, if_pos rfl] at h
      rw [if_pos rfl]
      have i0 := is_0 e
      cases e2 : tkB kd 23 S
      · rw [e2, if_neg (by decide)] at h
        exact absurd h (take_f e2)
      · rw [e2, if_pos rfl] at h
        rw [if_pos rfl]
        have tx := Nat.le_of_lt (tk_x (pl := pl) e2)
        have n1 : ∀ k w', k ≠ 0 → (lesP kd pl lk r (noteP k (nI (pl S.1)) (takeP kd pl 23 S)) w').1.2.1 = 0 → S.2.1 = 0 ∧ S.1 ≤ (lesP kd pl lk r (noteP k (nI (pl S.1)) (takeP kd pl 23 S)) w').1.1 ∧ ((lesP kd pl lk r (noteP k (nI (pl S.1)) (takeP kd pl 23 S)) w').1.2.2.2.1 = 0 → S.2.2.2.1 = 0) := fun k w' hk g => by
          have q := ih _ w' g
          refine ⟨i0.1, ?_, fun z => absurd (q.2.2 z) (note_0 hk)⟩
          have := q.2.1
          rw [note_x] at this
          omega
        have n2 : ∀ w', (lesP kd pl lk r (takeP kd pl 23 S) w').1.2.1 = 0 → S.2.1 = 0 ∧ S.1 ≤ (lesP kd pl lk r (takeP kd pl 23 S) w').1.1 ∧ ((lesP kd pl lk r (takeP kd pl 23 S) w').1.2.2.2.1 = 0 → S.2.2.2.1 = 0) := fun w' g => by
          have q := ih _ w' g
          refine ⟨i0.1, by omega, fun z => ?_⟩
          have := q.2.2 z
          rw [take_l] at this
          exact this
        cases hz : lk S.1 with
        | none => rw [hz] at h; exact n1 4 w (by decide) h
        | some z =>
          rw [hz] at h
          have h' : (lesP kd pl lk r (if w.testBit z = true then noteP 3 (nI (pl S.1)) (takeP kd pl 23 S) else takeP kd pl 23 S) (w ||| 2 ^ z)).1.2.1 = 0 := h
          show S.2.1 = 0 ∧ S.1 ≤ (lesP kd pl lk r (if w.testBit z = true then noteP 3 (nI (pl S.1)) (takeP kd pl 23 S) else takeP kd pl 23 S) (w ||| 2 ^ z)).1.1 ∧ ((lesP kd pl lk r (if w.testBit z = true then noteP 3 (nI (pl S.1)) (takeP kd pl 23 S) else takeP kd pl 23 S) (w ||| 2 ^ z)).1.2.2.2.1 = 0 → S.2.2.2.1 = 0)
          cases ht : w.testBit z
          · rw [ht, if_neg (by decide)] at h'; rw [if_neg (by decide)]; exact n2 _ h'
          · rw [ht, if_pos rfl] at h'; rw [if_pos rfl]; exact n1 3 _ (by decide) h'
theorem les_w {kd pl : Nat → Nat} {lk : Nat → Option Nat} {i : Nat} (hl : ∀ j z, lk j = some z → z < i) : ∀ r (S : PS) (w : Nat), w < 2 ^ i → (lesP kd pl lk r S w).2 < 2 ^ i := by
  intro r
  induction r with
  | zero => intro S w h; exact h
  | succ r ih =>
    intro S w h
    unfold lesP
    split
    · split
      · cases hz : lk S.1 with
        | none => exact ih _ w h
        | some z => exact ih _ _ (Nat.or_lt_two_pow h (Nat.pow_lt_pow_right (by decide) (hl _ _ hz)))
      · exact h
    · exact h
theorem tur_fr {kd pl : Nat → Nat} {g : PS → PS} {v : PS → Int32} {lk : Nat → Option Nat} {dp : Nat → Nat} {cb : Nat} : ∀ r (S : PS) (m d : Nat) (T W : Nat → Int32), m ≤ 3 → ∀ x, (x < cb + m ∨ cb + 3 ≤ x) → (turP kd pl g v lk dp cb r S m d T W).2.2.2.1 x = T x ∧ (turP kd pl g v lk dp cb r S m d T W).2.2.2.2 x = W x := by
  intro r
  induction r with
  | zero => intros; exact ⟨rfl, rfl⟩
  | succ r ih =>
    intro S m d T W hm x hx
    unfold turP
    split
    · split
      · exact ⟨rfl, rfl⟩
      · rename_i h3
        have q := ih (g (knP kd pl (lk S.1) S)) (m + 1) (dpO dp d (tkO kd (lk S.1) S)) (upr T (cb + m) (mx0 (tkO kd (lk S.1) S))) (upr W (cb + m) (v (knP kd pl (lk S.1) S))) (by omega) x (by omega)
        rw [q.1, q.2, upr_n (by omega), upr_n (by omega)]
        exact ⟨rfl, rfl⟩
    · exact ⟨rfl, rfl⟩
theorem tur_B {kd pl vl : Nat → Nat} {lo hi : Int32} {v : PS → Int32} {lk : Nat → Option Nat} {dp : Nat → Nat} {cb : Nat} : ∀ r (S : PS) (m d : Nat) (T W : Nat → Int32), BND pl S → BND pl (turP kd pl (intP kd pl vl lo hi) v lk dp cb r S m d T W).1 := by
  intro r
  induction r with
  | zero => intro S m d T W h; exact h
  | succ r ih =>
    intro S m d T W h
    unfold turP
    split
    · split
      · exact BND_stop (by decide) h
      · exact ih _ _ _ _ _ (BND_int (BND_kn h))
    · exact h
theorem tur_0 {kd pl vl : Nat → Nat} (hv : ∀ j, kd j = 24 → vl j ≤ 9999) {lk : Nat → Option Nat} {dp : Nat → Nat} {cb c : Nat} (hl : ∀ j z, lk j = some z → z < c) : ∀ r (S : PS) (m d : Nat) (T W : Nat → Int32), m ≤ 3 → (turP kd pl (intP kd pl vl 0 9) (intV kd vl) lk dp cb r S m d T W).1.2.1 = 0 → S.2.1 = 0 ∧ S.1 ≤ (turP kd pl (intP kd pl vl 0 9) (intV kd vl) lk dp cb r S m d T W).1.1 ∧ m ≤ (turP kd pl (intP kd pl vl 0 9) (intV kd vl) lk dp cb r S m d T W).2.1 ∧ d ≤ (turP kd pl (intP kd pl vl 0 9) (intV kd vl) lk dp cb r S m d T W).2.2.1 ∧ ((turP kd pl (intP kd pl vl 0 9) (intV kd vl) lk dp cb r S m d T W).1.2.2.2.1 = 0 → S.2.2.2.1 = 0 ∧ ∀ x, m ≤ x → x < (turP kd pl (intP kd pl vl 0 9) (intV kd vl) lk dp cb r S m d T W).2.1 → ∃ j sh, j < c ∧ sh ≤ 9 ∧ (turP kd pl (intP kd pl vl 0 9) (intV kd vl) lk dp cb r S m d T W).2.2.2.1 (cb + x) = nI j ∧ (turP kd pl (intP kd pl vl 0 9) (intV kd vl) lk dp cb r S m d T W).2.2.2.2 (cb + x) = nI sh ∧ dp j < (turP kd pl (intP kd pl vl 0 9) (intV kd vl) lk dp cb r S m d T W).2.2.1) := by
  intro r
  induction r with
  | zero => intro S m d T W hm h; exact ⟨h, Nat.le_refl _, Nat.le_refl _, Nat.le_refl _, fun z => ⟨z, fun x h1 h2 => absurd (show x < m from h2) (by omega)⟩⟩
  | succ r ih =>
    intro S m d T W hm h
    unfold turP at h ⊢
    cases e : isP kd 23 S
    · rw [e, if_neg (by decide)] at h
      rw [if_neg (by decide)]
      exact ⟨h, Nat.le_refl _, Nat.le_refl _, Nat.le_refl _, fun z => ⟨z, fun x h1 h2 => absurd (show x < m from h2) (by omega)⟩⟩
    · rw [e, if_pos rfl] at h
      rw [if_pos rfl]
      by_cases h3 : m = 3
      · rw [if_pos h3] at h
        exact absurd h (stop_n0 (by decide) (is_0 e).1)
      · rw [if_neg h3] at h ⊢
        have q := ih _ _ _ _ _ (by omega) h
        have fr := tur_fr (kd := kd) (pl := pl) (g := intP kd pl vl 0 9) (v := intV kd vl) (lk := lk) (dp := dp) (cb := cb) r (intP kd pl vl 0 9 (knP kd pl (lk S.1) S)) (m + 1) (dpO dp d (tkO kd (lk S.1) S)) (upr T (cb + m) (mx0 (tkO kd (lk S.1) S))) (upr W (cb + m) (intV kd vl (knP kd pl (lk S.1) S))) (by omega) (cb + m) (by omega)
        have i1 := int_0 q.1
        have k1 := kn_0 i1.2.1
        have dm : d ≤ dpO dp d (tkO kd (lk S.1) S) := by
          cases tkO kd (lk S.1) S with
          | none => exact Nat.le_refl _
          | some z =>
            show d ≤ if d < dp z + 1 then dp z + 1 else d
            split <;> omega
        refine ⟨k1.2.1, by have := q.2.1; omega, by have := q.2.2.1; omega, by have := q.2.2.2.1; omega, fun z => ?_⟩
        obtain ⟨z1, z2⟩ := q.2.2.2.2 z
        have i2 := i1.2.2.2.2.2 z1
        have k2 := k1.2.2.2.2.2 i2.1
        refine ⟨k2.1, fun x h1 h2 => ?_⟩
        by_cases ex : x = m
        · subst ex
          have vb := hv _ i1.2.2.1
          cases hz : lk S.1 with
          | none => exact absurd hz k2.2
          | some y =>
            have tz : tkO kd (lk S.1) S = some y := by unfold tkO; rw [if_pos k1.2.2.2.2.1, hz]
            have dz : dp y < dpO dp d (tkO kd (lk S.1) S) := by
              rw [tz]
              show dp y < if d < dp y + 1 then dp y + 1 else d
              split <;> omega
            have iv : intV kd vl (knP kd pl (lk S.1) S) = nI (vl (knP kd pl (lk S.1) S).1) := if_pos i1.2.2.2.2.1
            refine ⟨y, vl (knP kd pl (lk S.1) S).1, hl _ _ hz, ?_, ?_, ?_, ?_⟩
            · rcases Nat.lt_or_ge 9 (vl (knP kd pl (lk S.1) S).1) with w | w
              · exact absurd i2.2.2 (nI_ge (a := 9) w (by omega))
              · exact w
            · rw [← hz, fr.1, upr_s, tz]; rfl
            · rw [← hz, fr.2, upr_s, iv]
            · have := q.2.2.2.1
              rw [hz] at this dz
              omega
        · exact z2 x (by omega) h2
theorem tur_f0 {kd pl vl : Nat → Nat} {v : PS → Int32} {lk : Nat → Option Nat} {dp : Nat → Nat} {cb : Nat} {lo hi : Int32} : ∀ r (S : PS) (m d : Nat) (T W : Nat → Int32), (turP kd pl (intP kd pl vl lo hi) v lk dp cb r S m d T W).1.2.1 = 0 → S.2.1 = 0 := by
  intro r
  induction r with
  | zero => intro S m d T W h; exact h
  | succ r ih =>
    intro S m d T W h
    by_cases e : S.2.1 = 0
    · exact e
    · unfold turP at h
      rw [is_f e] at h
      exact h
theorem tur_SE0 {kd pl vl : Nat → Nat} {l1 l2 : Nat → Option Nat} (hl : ∀ j, kd j = 23 → l1 j = l2 j) {dp : Nat → Nat} {cb cb' : Nat} : ∀ r (S Z : PS) (m d : Nat) (T W T' W' : Nat → Int32), m ≤ 3 → SE S Z → SE (turP kd pl (intP kd pl vl 0 9) (intV kd vl) l1 dp cb r S m d T W).1 (turP kd pl (intM kd pl vl 0 9) (intW kd vl 0) l2 dp cb' r Z m d T' W').1 ∧ (turP kd pl (intP kd pl vl 0 9) (intV kd vl) l1 dp cb r S m d T W).2.1 = (turP kd pl (intM kd pl vl 0 9) (intW kd vl 0) l2 dp cb' r Z m d T' W').2.1 ∧ (turP kd pl (intP kd pl vl 0 9) (intV kd vl) l1 dp cb r S m d T W).2.2.1 = (turP kd pl (intM kd pl vl 0 9) (intW kd vl 0) l2 dp cb' r Z m d T' W').2.2.1 ∧ ((turP kd pl (intP kd pl vl 0 9) (intV kd vl) l1 dp cb r S m d T W).1.2.1 = 0 → ∀ x, m ≤ x → x < (turP kd pl (intP kd pl vl 0 9) (intV kd vl) l1 dp cb r S m d T W).2.1 → (turP kd pl (intP kd pl vl 0 9) (intV kd vl) l1 dp cb r S m d T W).2.2.2.1 (cb + x) = (turP kd pl (intM kd pl vl 0 9) (intW kd vl 0) l2 dp cb' r Z m d T' W').2.2.2.1 (cb' + x) ∧ (turP kd pl (intP kd pl vl 0 9) (intV kd vl) l1 dp cb r S m d T W).2.2.2.2 (cb + x) = (turP kd pl (intM kd pl vl 0 9) (intW kd vl 0) l2 dp cb' r Z m d T' W').2.2.2.2 (cb' + x)) := by
  intro r
  induction r with
  | zero => intro S Z m d T W T' W' hm h; exact ⟨h, rfl, rfl, fun _ x h1 h2 => absurd (show x < m from h2) (by omega)⟩
  | succ r ih =>
    intro S Z m d T W T' W' hm h
    unfold turP
    rw [← is_e (q := 23) h]
    cases e : isP kd 23 S
    · simp only [Bool.false_eq_true, if_false]
      exact ⟨h, trivial, trivial, fun _ x h1 h2 => absurd h2 (by omega)⟩
    · have i0 := is_0 e
      have xz := (h.2.2 i0.1).1
      simp only [if_true]
      by_cases h3 : m = 3
      · simp only [if_pos h3]
        exact ⟨SE_stop (by decide) h, trivial, trivial, fun f => absurd f (stop_n0 (by decide) i0.1)⟩
      · simp only [if_neg h3]
        have e1 : l2 Z.1 = l1 S.1 := by rw [← xz]; exact (hl _ i0.2).symm
        have e2 : tkO kd (l2 Z.1) Z = tkO kd (l1 S.1) S := by unfold tkO; rw [← tkB_e h, e1]
        have k1 : SE (knP kd pl (l1 S.1) S) (knP kd pl (l2 Z.1) Z) := by rw [e1]; exact SE_kn h
        have q := ih (intP kd pl vl 0 9 (knP kd pl (l1 S.1) S)) (intM kd pl vl 0 9 (knP kd pl (l2 Z.1) Z)) (m + 1) (dpO dp d (tkO kd (l1 S.1) S)) (upr T (cb + m) (mx0 (tkO kd (l1 S.1) S))) (upr W (cb + m) (intV kd vl (knP kd pl (l1 S.1) S))) (upr T' (cb' + m) (mx0 (tkO kd (l1 S.1) S))) (upr W' (cb' + m) (intW kd vl 0 (knP kd pl (l2 Z.1) Z))) (by omega) (SE_int k1)
        rw [e2]
        refine ⟨q.1, q.2.1, q.2.2.1, fun f x h1 h2 => ?_⟩
        by_cases ex : x = m
        · subst ex
          have f1 := tur_fr (kd := kd) (pl := pl) (g := intP kd pl vl 0 9) (v := intV kd vl) (lk := l1) (dp := dp) (cb := cb) r (intP kd pl vl 0 9 (knP kd pl (l1 S.1) S)) (x + 1) (dpO dp d (tkO kd (l1 S.1) S)) (upr T (cb + x) (mx0 (tkO kd (l1 S.1) S))) (upr W (cb + x) (intV kd vl (knP kd pl (l1 S.1) S))) (by omega) (cb + x) (by omega)
          have f2 := tur_fr (kd := kd) (pl := pl) (g := intM kd pl vl 0 9) (v := intW kd vl 0) (lk := l2) (dp := dp) (cb := cb') r (intM kd pl vl 0 9 (knP kd pl (l2 Z.1) Z)) (x + 1) (dpO dp d (tkO kd (l1 S.1) S)) (upr T' (cb' + x) (mx0 (tkO kd (l1 S.1) S))) (upr W' (cb' + x) (intW kd vl 0 (knP kd pl (l2 Z.1) Z))) (by omega) (cb' + x) (by omega)
          have fi := tur_f0 r _ _ _ _ _ f
          have iv := iv_0 (lo' := 0) k1 fi
          rw [f1.1, f1.2, f2.1, f2.2, upr_s, upr_s, upr_s, upr_s, iv.1, iv.2]
          exact ⟨rfl, rfl⟩
        · exact q.2.2.2 f x (by omega) h2
theorem tur_SE1 {kd pl vl : Nat → Nat} {n : Nat} {K3 K4 : Nat → Int32} {K5 : Nat → Int64} (hT : TKR kd pl vl n K3 K4 K5) {l1 l2 : Nat → Option Nat} {dp dp' : Nat → Nat} {cb cb' : Nat} : ∀ r (S Z : PS) (m d d' : Nat) (T W T' W' : Nat → Int32), SE S Z → S.1 ≤ n → FZ pl n S → SE (turP kd pl (intP kd pl vl 0 9) (intV kd vl) l1 dp cb r S m d T W).1 (turP kd pl (intM kd pl vl 0 9) (intW kd vl 0) l2 dp' cb' r Z m d' T' W').1 ∧ (turP kd pl (intP kd pl vl 0 9) (intV kd vl) l1 dp cb r S m d T W).2.1 = (turP kd pl (intM kd pl vl 0 9) (intW kd vl 0) l2 dp' cb' r Z m d' T' W').2.1 ∧ FZ pl n (turP kd pl (intP kd pl vl 0 9) (intV kd vl) l1 dp cb r S m d T W).1 := by
  intro r
  induction r with
  | zero => intro S Z m d d' T W T' W' h hx hf; exact ⟨h, rfl, hf⟩
  | succ r ih =>
    intro S Z m d d' T W T' W' h hx hf
    unfold turP
    rw [← is_e (q := 23) h]
    cases e : isP kd 23 S
    · simp only [Bool.false_eq_true, if_false]
      exact ⟨h, trivial, hf⟩
    · have i0 := is_0 e
      have xz := (h.2.2 i0.1).1
      have fz := FZ_e h i0.1 hf
      simp only [if_true]
      by_cases h3 : m = 3
      · simp only [if_pos h3]
        refine ⟨SE_stop (by decide) h, trivial, ?_⟩
        obtain ⟨q1, p, q2, q3, q4⟩ := hf
        exact ⟨by rw [stop_l]; exact q1, p, by rw [stop_l]; exact q2, q3, by rw [stop_x]; exact q4⟩
      · simp only [if_neg h3]
        have hx2 : (takeP kd pl 23 S).1 ≤ n := take_le hT (by decide) hx
        have c1 : intP kd pl vl 0 9 (knP kd pl (l1 S.1) S) = takeP kd pl 24 (takeP kd pl 23 S) := by rw [FZ_kn hf hx, FZ_int (FZ_take hf) hx2]
        have k1 : SE (knP kd pl (l1 S.1) S) (knP kd pl (l2 Z.1) Z) := by rw [FZ_kn hf hx, FZ_kn fz (by rw [← xz]; exact hx)]; exact SE_take h
        refine ih _ _ _ _ _ _ _ _ _ (SE_int k1) ?_ ?_
        · rw [c1]; exact take_le hT (by decide) hx2
        · rw [c1]; exact FZ_take (FZ_take hf)
theorem noteM_0 {k p : Int32} {S : PS} (h : S.2.1 = 0) : noteM k p S = noteP k p S := if_pos h
theorem fin_f {kd pl : Nat → Nat} {p : Int32} {m d : Nat} {S : PS} : (finT kd pl p m d S).2.1 = (takeP kd pl 25 S).2.1 ∧ (finT kd pl p m d S).2.2.1 = (takeP kd pl 25 S).2.2.1 ∧ (finT kd pl p m d S).1 = (takeP kd pl 25 S).1 := by
  unfold finT
  split <;> split <;> simp only [note_f, note_p, note_x, and_self]
theorem fin_B {kd pl : Nat → Nat} {j m d : Nat} {S : PS} (h : BND pl S) (hj : S.2.1 = 0 → j < S.1) : BND pl (finT kd pl (nI (pl j)) m d S) := by
  have hj2 : (takeP kd pl 25 S).2.1 = 0 → j < (takeP kd pl 25 S).1 := fun f => by
    have t := take_0 f
    have := hj t.2.1
    rw [t.1]
    show j < S.1 + 1
    omega
  have b1 := BND_take (kd := kd) (q := 25) h
  have b2 : ∀ k, 0 < k → BND pl (noteP k (nI (pl j)) (takeP kd pl 25 S)) := fun k hk => BND_note hk hj2 b1
  have b3 : ∀ k l, 0 < k → 0 < l → BND pl (noteP k (nI (pl j)) (noteP l (nI (pl j)) (takeP kd pl 25 S))) := fun k l hk hl => BND_note hk (by rw [note_f, note_x]; exact hj2) (b2 l hl)
  unfold finT
  split <;> split
  · exact b3 _ _ (by decide) (by decide)
  · exact b2 _ (by decide)
  · exact b2 _ (by decide)
  · exact b1
theorem fin_0 {kd pl : Nat → Nat} {p : Int32} {m d : Nat} {S : PS} (l : (finT kd pl p m d S).2.2.2.1 = 0) : d ≤ 5 ∧ m ≠ 0 ∧ S.2.2.2.1 = 0 := by
  unfold finT at l
  by_cases h5 : 5 < d
  · rw [if_pos h5] at l
    exact absurd l (note_0 (by decide))
  · rw [if_neg h5] at l
    by_cases hm : m = 0
    · rw [if_pos hm] at l
      exact absurd l (note_0 (by decide))
    · rw [if_neg hm, take_l] at l
      exact ⟨by omega, hm, l⟩
theorem SE_fin {kd pl : Nat → Nat} {p : Int32} {m d : Nat} {S Z : PS} (h : SE S Z) : SE (finT kd pl p m d S) (takeP kd pl 25 (finM p m d Z)) := by
  have ff := fin_f (kd := kd) (pl := pl) (p := p) (m := m) (d := d) (S := S)
  have st := SE_take (kd := kd) (pl := pl) (q := 25) h
  by_cases e : Z.2.1 = 0
  · have mf : (finM p m d Z).2.1 = 0 ∧ (finM p m d Z).1 = Z.1 ∧ (finM p m d Z).2.2.1 = Z.2.2.1 := by
      unfold finM
      split <;> split <;> simp only [noteM_0 e, noteM_0 (show (noteP 5 p Z).2.1 = 0 by rw [note_f]; exact e), note_f, note_p, note_x, e, and_self]
    by_cases f : (takeP kd pl 25 S).2.1 = 0
    · have ts := take_0 f
      have fz : (takeP kd pl 25 Z).2.1 = 0 := by rw [← st.1]; exact f
      have tz := take_0 fz
      have xz := (h.2.2 ts.2.1).1
      have tm : takeP kd pl 25 (finM p m d Z) = (Z.1 + 1, (finM p m d Z).2) := by
        unfold takeP
        rw [if_pos ⟨mf.1, by rw [mf.2.1]; exact tz.2.2.1⟩, if_pos (by rw [mf.2.1]; exact tz.2.2.2.1), mf.2.1]
      have e1 : ∀ q, noteM q p Z = noteP q p Z := fun q => noteM_0 e
      have e2 : ∀ q l, noteM q p (noteP l p Z) = noteP q p (noteP l p Z) := fun q l => noteM_0 (by rw [note_f]; exact e)
      have s0 : SE (S.1 + 1, S.2) (Z.1 + 1, Z.2) := by rw [← ts.1, ← tz.1]; exact st
      rw [tm]
      unfold finT finM
      rw [ts.1]
      by_cases h5 : 5 < d
      · by_cases hm : m = 0
        · simp only [if_pos h5, if_pos hm, e1, e2]
          have := SE_note (k := 6) (p := p) (SE_note (k := 5) (p := p) s0)
          rw [note_up _ _ Z, note_up _ _ (noteP 5 p Z)] at this
          exact this
        · simp only [if_pos h5, if_neg hm, e1]
          have := SE_note (k := 6) (p := p) s0
          rw [note_up _ _ Z] at this
          exact this
      · by_cases hm : m = 0
        · simp only [if_neg h5, if_pos hm, e1]
          have := SE_note (k := 5) (p := p) s0
          rw [note_up _ _ Z] at this
          exact this
        · simp only [if_neg h5, if_neg hm]
          exact s0
    · have fz : (takeP kd pl 25 Z).2.1 ≠ 0 := by rw [← st.1]; exact f
      have tq : (takeP kd pl 25 (finM p m d Z)).2.1 = (takeP kd pl 25 Z).2.1 ∧ (takeP kd pl 25 (finM p m d Z)).2.2.1 = (takeP kd pl 25 Z).2.2.1 := by
        unfold takeP stopP
        rw [mf.1, mf.2.1, e]
        by_cases k1 : kd Z.1 = 25
        · by_cases k2 : Z.1 < 400
          · exfalso
            apply fz
            unfold takeP
            rw [if_pos ⟨e, k1⟩, if_pos k2]
            exact e
          · simp only [k1, k2, if_true, if_false, and_self]
        · simp only [k1, and_false, if_true, if_false, and_self]
      exact ⟨by rw [ff.1, tq.1]; exact st.1, fun _ => by rw [ff.2.1, tq.2]; exact st.2.1 f, fun z => absurd z (by rw [ff.1]; exact f)⟩
  · have e' : S.2.1 ≠ 0 := by rw [h.1]; exact e
    have mm : finM p m d Z = Z := by
      unfold finM
      split <;> split <;> simp only [noteM_s e]
    rw [mm, take_s e]
    refine ⟨by rw [ff.1, take_s e']; exact h.1, fun _ => by rw [ff.2.1, take_s e']; exact h.2.1 e', fun z => absurd z (by rw [ff.1, take_s e']; exact e')⟩
theorem fin_fz {kd pl : Nat → Nat} {n j m d m2 d2 : Nat} {S Z T : PS} (hf : FZ pl n T) (h1 : T.1 ≤ j) (h2 : j ≤ n) (hS : S.2.2.2 = T.2.2.2) (hZ : Z.2.1 = 0 → Z.2.2.2 = T.2.2.2) : finT kd pl (nI (pl j)) m d S = takeP kd pl 25 S ∧ finM (nI (pl j)) m2 d2 Z = Z := by
  have n1 : ∀ k (U : PS), U.2.2.2 = T.2.2.2 → noteP k (nI (pl j)) U = U := fun k U hU => FZ_note hf hU h1 h2 k
  have a1 : ∀ k, noteP k (nI (pl j)) (takeP kd pl 25 S) = takeP kd pl 25 S := fun k => n1 k _ (by rw [take_l]; exact hS)
  have a2 : ∀ k, noteM k (nI (pl j)) Z = Z := fun k => by
    by_cases e : Z.2.1 = 0
    · rw [noteM_0 e]; exact n1 k _ (hZ e)
    · exact noteM_s e
  constructor
  · unfold finT
    simp only [a1, ite_self]
  · unfold finM
    simp only [a2, ite_self]
