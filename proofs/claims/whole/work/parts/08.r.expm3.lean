/-! READ: the reference's expression -/
theorem lm_exp {t : Nat} {u : Option Nat} {J : AI} {L : AL} {Q : PQ} {cm0 ci0 : Nat → Int32} {cd0 sd : Nat} (hd : sd ≤ 1) {kd pl vl mv : Nat → Nat} {n : Nat} {K3 K4 K5 : Nat → Int32} {K6 : Nat → Int64} (hT : TMR kd pl vl mv n K3 K4 K5 K6) (h3 : J 73 = K3) (h4 : J 74 = K4) (h5 : J 75 = K5) (hv : ∀ j, kd j = 24 → vl j ≤ 9999) : ∀ r, (∀ (S : PS) cur stk out wt, GS n S → S.2.1 = 0 → 401 ≤ S.1 + r → EXI true cur stk out → WTM wt (fl cur stk) → cd0 + out.length + nS cur + nL stk ≤ 420 * sd + S.1 → (∀ Z cm' ci' cd' wt' wl' op', GS n Z → Z.2.1 = (exP kd pl vl r S true cur stk out).1.2.1 → (Z.2.1 ≠ 0 → Z.2.2.1 = (exP kd pl vl r S true cur stk out).1.2.2.1) → (Z.2.1 = 0 → Z = (exP kd pl vl r S true cur stk out).1 ∧ cm' = apg kM1 cm0 cd0 (exP kd pl vl r S true cur stk out).2 ∧ ci' = apg kM2 ci0 cd0 (exP kd pl vl r S true cur stk out).2 ∧ cd' = cd0 + (exP kd pl vl r S true cur stk out).2.length ∧ op' = 0) → Q none 123 (wm (ym J cm' ci' cd' wt' wl' op') Z) L (RX t u)) → V 174 23 [.ref 70, .int 0, .int 1] [] 123 (wm (ym J (apg kM1 cm0 cd0 out) (apg kM2 ci0 cd0 out) (cd0 + out.length) wt (fl cur stk).length stk.length) S) L (RX t u) Q) ∧ (∀ (S : PS) cur stk out wt, GS n S → S.2.1 = 0 → 401 ≤ S.1 + r → EXI false cur stk out → WTM wt (fl cur stk) → cd0 + out.length + nS cur + nL stk ≤ 420 * sd + S.1 → (∀ Z cm' ci' cd' wt' wl' op', GS n Z → Z.2.1 = (exP kd pl vl r S false cur stk out).1.2.1 → (Z.2.1 ≠ 0 → Z.2.2.1 = (exP kd pl vl r S false cur stk out).1.2.2.1) → (Z.2.1 = 0 → Z = (exP kd pl vl r S false cur stk out).1 ∧ cm' = apg kM1 cm0 cd0 (exP kd pl vl r S false cur stk out).2 ∧ ci' = apg kM2 ci0 cd0 (exP kd pl vl r S false cur stk out).2 ∧ cd' = cd0 + (exP kd pl vl r S false cur stk out).2.length ∧ op' = 0) → Q none 123 (wm (ym J cm' ci' cd' wt' wl' op') Z) L (RX t u)) → V 174 96 [.ref 70, .int 0, .int 1] [] 123 (wm (ym J (apg kM1 cm0 cd0 out) (apg kM2 ci0 cd0 out) (cd0 + out.length) wt (fl cur stk).length stk.length) S) L (RX t u) Q) := by
  intro r
  induction r with
  | zero =>
    exact ⟨fun S cur stk out wt hg e0 hr => by have := hg.1; have := hT.1; omega, fun S cur stk out wt hg e0 hr => by have := hg.1; have := hT.1; omega⟩
  | succ r ih =>
    obtain ⟨iT, iF⟩ := ih
    constructor
    · -- due: while (is(OPEN)) ..; unit()
      sorry
    · -- not due: while (is(CLOSE) && open > base) ..; a sign, or the end
      sorry
