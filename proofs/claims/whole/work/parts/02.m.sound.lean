/-! the small machine is right -/
theorem x0_s {y pc n : Nat} {ls st : List Value} {I : AI} {L : AL} {R : AR} {z : XR} (h : x0 y pc ls st n I L R = some z) : ∃ (i : Instr) (len : Nat), decode (cdM y) pc = .ok (i, len) ∧ len = lnI i len ∧ x1 y pc i ls st n I L R = some z := by
  unfold x0 at h
  split at h
  · rename_i i len hd
    obtain ⟨h1, h2⟩ := ifP_s h
    exact ⟨i, len, hd, h1, h2⟩
  · cases h
theorem x0_ok {y pc n : Nat} {ls st : List Value} {I : AI} {L : AL} {R : AR} {z : XR} (h : x0 y pc ls st n I L R = some z) : RES y pc ls st n I L R z := by
  obtain ⟨i, len, h1, h2, h3⟩ := x0_s h
  exact x1_ok h1 h2 h3
theorem wk_all (l : Launch) (G : GX) : ∀ f, WK l G f := by
  intro f
  induction f with
  | zero => intro y pc ls st n I L R r n1 I1 L1 R1 h; simp [exec] at h
  | succ f ih =>
    intro y pc ls st n I L R r n1 I1 L1 R1 h
    rw [exec] at h
    split at h
    · rename_i pc' ls' st' n' I' L' R' e
      obtain ⟨hs1, hs2⟩ := x0_ok e
      dsimp only at hs1 hs2
      obtain ⟨hn1, hG⟩ := ih _ _ _ _ _ _ _ _ _ _ _ _ _ h
      refine ⟨Nat.le_trans hs1 hn1, ?_⟩
      intro p e Rm s m args below meth c Q n0 C hn hc kr
      have m1 := slX_le hs1
      have m2 := slX_le hn1
      exact hs2 l G p e Rm s m args below meth c Q n0 C hn ⟨by omega, by omega⟩ ⟨by omega, by omega⟩ (hG p e Rm s m args below meth c Q n0 C (Nat.le_trans hn hs1) hc kr)
    · rename_i r2 e
      obtain ⟨hrt, hst⟩ := x0_ok e
      cases h
      refine ⟨Nat.le_refl _, ?_⟩
      intro p e Rm s m args below meth c Q n0 C hn hc kr hlen hdb H locs lsM hH hS hl
      subst hst
      exact kr pc H locs lsM hH hS hrt
    · rename_i z as rest e
      obtain ⟨hy, hg, hm, hcl⟩ := x0_ok e
      dsimp only at hy hg hm hcl
      split at h
      · rename_i r2 n2 I2 L2 R2 e2
        obtain ⟨hn2, -⟩ := ih _ _ _ _ _ _ _ _ _ _ _ _ _ e2
        obtain ⟨hn1, hG⟩ := ih _ _ _ _ _ _ _ _ _ _ _ _ _ h
        refine ⟨Nat.le_trans hn2 hn1, ?_⟩
        intro p e Rm s m args below meth c Q n0 C hn hc kr
        have m1 := slX_le hn2
        have m2 := slX_le hn1
        exact hcl l G p e Rm s m args below meth c Q n0 C hn r2 n2 I2 L2 R2 hn2 ⟨by omega, by omega⟩ (mt_of ih hy hg hm e2) (hG p e Rm s m args below meth c Q n0 C (Nat.le_trans hn hn2) hc kr)
      · cases h
    · cases h
