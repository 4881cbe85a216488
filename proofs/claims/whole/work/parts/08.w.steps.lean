/-! READ: the tells, side by side -/
def STL (kd pl vl mv : Nat → Nat) (n : Nat) (K3 K4 : Nat → Int32) (K5 : Nat → Int64) (M3 M4 M5 : Nat → Int32) (M6 : Nat → Int64) (s sd : Nat) (c so nu : Nat → Nat) (Bs : Nat → List (Cd × Cd × Cd)) (Es : Nat → Cd) (I : AI) (L : AL) (S : PS) (I' : AI) (L' : AL) (S' : PS) : Prop :=
  S'.1 ≤ n ∧ BND pl S' ∧ FRC s I I' L L' ∧ ∃ (c' so' nu' : Nat → Nat) (len' : Nat) (Bs' : Nat → List (Cd × Cd × Cd)) (Es' : Nat → Cd), (S'.2.1 = 0 → S.1 < S'.1 ∧ CW K3 K4 K5 s c' so' nu' len' Bs' Es' I' L' S'.1) ∧
  ∀ (t : Nat) (u : Option Nat) (J : AI) (M : AL) (Z : PS) (Q : PQ), SE S Z → GS n Z → MW M3 M4 M5 M6 sd c so nu Bs Es J M S.1 → (S.2.2.2.1 = 0 → CLN kd vl mv s sd c I L J M) →
    (∀ J' M' Z', SE S' Z' → GS n Z' → FRM (1 - sd) J J' → FRL M M' → (S'.2.1 = 0 → MW M3 M4 M5 M6 sd c' so' nu' Bs' Es' J' M' S'.1 ∧ (S'.2.2.2.1 = 0 → CLN kd vl mv s sd c' I' L' J' M')) → Q none 123 (wm J' Z') M' (RX t u)) →
    V 159 0 [.ref 70, .retAddr 0] [] 123 (wm J Z) M (RX t u) Q
theorem newP_n {kd pl : Nat → Nat} {b : Bool} {S : PS} (h : tkB kd 23 S = false) : newP kd pl b S = takeP kd pl 23 S := by
  unfold newP
  rw [if_neg (fun z => by rw [h] at z; exact absurd z.1 (by decide))]
theorem knP_n {kd pl : Nat → Nat} {b : Option Nat} {S : PS} (h : tkB kd 23 S = false) : knP kd pl b S = takeP kd pl 23 S := by
  unfold knP
  rw [if_neg (fun z => by rw [h] at z; exact absurd z.1 (by decide))]
theorem SE_new2 {kd pl vl mv : Nat → Nat} {n : Nat} {K3 K4 : Nat → Int32} {K5 : Nat → Int64} {M3 M4 M5 : Nat → Int32} {M6 : Nat → Int64} (hT : TOK kd pl vl mv n K3 K4 K5 M3 M4 M5 M6) {S Z : PS} (h : SE S Z) (hx : S.1 ≤ n) (hb : BND pl S) {L M : AL} {kn : Nat} (hN : S.2.2.2.1 = 0 → NamK kd vl mv (L 8) (M 78) kn) : SE (newP kd pl (nwB L kn (vl S.1)) S) (newP kd pl (nwM M kn (mv Z.1)) Z) := by
  cases e : tkB kd 23 S
  · rw [newP_n e, newP_n (by rw [← tkB_e h]; exact e)]
    exact SE_take h
  · have tk := take_ok (pl := pl) e
    have hz := (h.2.2 tk.2.1).1
    by_cases f : S.2.2.2.1 = 0
    · have q := Nam_nw hT (hN f) tk.2.2.1
      unfold nwB nwM
      rw [← hz, q]
      exact SE_new h
    · have z1 := FZ_of hT hb.1 hx tk.2.1 f
      have z2 := FZ_of hT (BND_e hb h) (by rw [← hz]; exact hx) (by rw [← h.1]; exact tk.2.1) (by rw [← (h.2.2 tk.2.1).2.1]; exact f)
      rw [FZ_new z1 hx, FZ_new z2 (by rw [← hz]; exact hx)]
      exact SE_take h
theorem SE_kn2 {kd pl vl mv : Nat → Nat} {n : Nat} {K3 K4 : Nat → Int32} {K5 : Nat → Int64} {M3 M4 M5 : Nat → Int32} {M6 : Nat → Int64} (hT : TOK kd pl vl mv n K3 K4 K5 M3 M4 M5 M6) {S Z : PS} (h : SE S Z) {o1 o2 : Option Nat} (ho : kd S.1 = 23 → o1 = o2 ∨ (S.2.2.2.1 ≠ 0 ∧ FZ pl n S ∧ FZ pl n Z ∧ S.1 ≤ n ∧ Z.1 ≤ n)) : SE (knP kd pl o1 S) (knP kd pl o2 Z) := by
  cases e : tkB kd 23 S
  · rw [knP_n e, knP_n (by rw [← tkB_e h]; exact e)]
    exact SE_take h
  · have tk := take_ok (pl := pl) e
    rcases ho tk.2.2.1 with q | ⟨_, z1, z2, x1, x2⟩
    · rw [q]; exact SE_kn h
    · rw [FZ_kn z1 x1, FZ_kn z2 x2]; exact SE_take h
theorem iv_0 {kd pl vl : Nat → Nat} {lo hi lo' : Int32} {S Z : PS} (h : SE S Z) (f : (intP kd pl vl lo hi S).2.1 = 0) : intV kd vl S = nI (vl S.1) ∧ intW kd vl lo' Z = nI (vl S.1) := by
  have i := int_0 f
  refine ⟨if_pos i.2.2.2.2.1, ?_⟩
  have e : Z.1 = S.1 := (h.2.2 i.2.1).1.symm
  unfold intW
  rw [if_pos (by rw [← is_e h]; unfold isP; rw [decide_eq_true i.2.1, decide_eq_true i.2.2.1]; rfl), e]
theorem ib_0 {kd pl vl : Nat → Nat} (hv : ∀ j, kd j = 24 → vl j ≤ 9999) {lo hi : Nat} (hl : lo < 10000) (hh : hi < 10000) {S : PS} (f : (intP kd pl vl (nI lo) (nI hi) S).2.1 = 0) (l : (intP kd pl vl (nI lo) (nI hi) S).2.2.2.1 = 0) : lo ≤ vl S.1 ∧ vl S.1 ≤ hi := by
  have i := int_0 f
  have b := i.2.2.2.2.2 l
  have v := hv _ i.2.2.1
  refine ⟨?_, ?_⟩
  · rcases Nat.lt_or_ge (vl S.1) lo with q | q
    · exact absurd b.2.1 (nI_ge q (by omega))
    · exact q
  · rcases Nat.lt_or_ge hi (vl S.1) with q | q
    · exact absurd b.2.2 (nI_ge q (by omega))
    · exact q
theorem np_81 {sd : Nat} (hd : sd ≤ 1)  : ¬ PRT (1 - sd) 81 (sd) := by
  intro z
  have z' : (81 < 70 ∨ 81 = 71 ∨ 109 ≤ 81) ∨ (81 = 70 ∧ ((sd) = 2 ∨ (sd) = 17 ∨ (sd) = 18 ∨ (sd) = 62 ∨ (sd) = 69)) ∨ (1 * (1 - sd) ≤ (sd) ∧ (sd) < 1 * (1 - sd) + 1) := z
  omega
theorem np_88 {sd : Nat} (hd : sd ≤ 1)  : ¬ PRT (1 - sd) 88 (sd) := by
  intro z
  have z' : (88 < 70 ∨ 88 = 71 ∨ 109 ≤ 88) ∨ (88 = 70 ∧ ((sd) = 2 ∨ (sd) = 17 ∨ (sd) = 18 ∨ (sd) = 62 ∨ (sd) = 69)) ∨ (1 * (1 - sd) ≤ (sd) ∧ (sd) < 1 * (1 - sd) + 1) := z
  omega
theorem np_91 {sd : Nat} (hd : sd ≤ 1)  : ¬ PRT (1 - sd) 91 (sd) := by
  intro z
  have z' : (91 < 70 ∨ 91 = 71 ∨ 109 ≤ 91) ∨ (91 = 70 ∧ ((sd) = 2 ∨ (sd) = 17 ∨ (sd) = 18 ∨ (sd) = 62 ∨ (sd) = 69)) ∨ (1 * (1 - sd) ≤ (sd) ∧ (sd) < 1 * (1 - sd) + 1) := z
  omega
theorem np_94 {sd : Nat} (hd : sd ≤ 1)  : ¬ PRT (1 - sd) 94 (sd) := by
  intro z
  have z' : (94 < 70 ∨ 94 = 71 ∨ 109 ≤ 94) ∨ (94 = 70 ∧ ((sd) = 2 ∨ (sd) = 17 ∨ (sd) = 18 ∨ (sd) = 62 ∨ (sd) = 69)) ∨ (1 * (1 - sd) ≤ (sd) ∧ (sd) < 1 * (1 - sd) + 1) := z
  omega
theorem np_96 {sd : Nat} (hd : sd ≤ 1)  : ¬ PRT (1 - sd) 96 (sd) := by
  intro z
  have z' : (96 < 70 ∨ 96 = 71 ∨ 109 ≤ 96) ∨ (96 = 70 ∧ ((sd) = 2 ∨ (sd) = 17 ∨ (sd) = 18 ∨ (sd) = 62 ∨ (sd) = 69)) ∨ (1 * (1 - sd) ≤ (sd) ∧ (sd) < 1 * (1 - sd) + 1) := z
  omega
theorem np_98 {sd : Nat} (hd : sd ≤ 1)  : ¬ PRT (1 - sd) 98 (sd) := by
  intro z
  have z' : (98 < 70 ∨ 98 = 71 ∨ 109 ≤ 98) ∨ (98 = 70 ∧ ((sd) = 2 ∨ (sd) = 17 ∨ (sd) = 18 ∨ (sd) = 62 ∨ (sd) = 69)) ∨ (1 * (1 - sd) ≤ (sd) ∧ (sd) < 1 * (1 - sd) + 1) := z
  omega
theorem np_82 {sd c : Nat} (hd : sd ≤ 1) (h0 : c < 14) : ¬ PRT (1 - sd) 82 (14 * sd + c) := by
  intro z
  have z' : (82 < 70 ∨ 82 = 71 ∨ 109 ≤ 82) ∨ (82 = 70 ∧ ((14 * sd + c) = 2 ∨ (14 * sd + c) = 17 ∨ (14 * sd + c) = 18 ∨ (14 * sd + c) = 62 ∨ (14 * sd + c) = 69)) ∨ (14 * (1 - sd) ≤ (14 * sd + c) ∧ (14 * sd + c) < 14 * (1 - sd) + 14) := z
  omega
theorem np_83 {sd c : Nat} (hd : sd ≤ 1) (h0 : c < 14) : ¬ PRT (1 - sd) 83 (14 * sd + c) := by
  intro z
  have z' : (83 < 70 ∨ 83 = 71 ∨ 109 ≤ 83) ∨ (83 = 70 ∧ ((14 * sd + c) = 2 ∨ (14 * sd + c) = 17 ∨ (14 * sd + c) = 18 ∨ (14 * sd + c) = 62 ∨ (14 * sd + c) = 69)) ∨ (14 * (1 - sd) ≤ (14 * sd + c) ∧ (14 * sd + c) < 14 * (1 - sd) + 14) := z
  omega
theorem np_84 {sd c : Nat} (hd : sd ≤ 1) (h0 : c < 14) : ¬ PRT (1 - sd) 84 (14 * sd + c) := by
  intro z
  have z' : (84 < 70 ∨ 84 = 71 ∨ 109 ≤ 84) ∨ (84 = 70 ∧ ((14 * sd + c) = 2 ∨ (14 * sd + c) = 17 ∨ (14 * sd + c) = 18 ∨ (14 * sd + c) = 62 ∨ (14 * sd + c) = 69)) ∨ (14 * (1 - sd) ≤ (14 * sd + c) ∧ (14 * sd + c) < 14 * (1 - sd) + 14) := z
  omega
theorem np_85 {sd c : Nat} (hd : sd ≤ 1) (h0 : c < 14) : ¬ PRT (1 - sd) 85 (14 * sd + c) := by
  intro z
  have z' : (85 < 70 ∨ 85 = 71 ∨ 109 ≤ 85) ∨ (85 = 70 ∧ ((14 * sd + c) = 2 ∨ (14 * sd + c) = 17 ∨ (14 * sd + c) = 18 ∨ (14 * sd + c) = 62 ∨ (14 * sd + c) = 69)) ∨ (14 * (1 - sd) ≤ (14 * sd + c) ∧ (14 * sd + c) < 14 * (1 - sd) + 14) := z
  omega
theorem np_89 {sd c : Nat} (hd : sd ≤ 1) (h0 : c < 6) : ¬ PRT (1 - sd) 89 (6 * sd + c) := by
  intro z
  have z' : (89 < 70 ∨ 89 = 71 ∨ 109 ≤ 89) ∨ (89 = 70 ∧ ((6 * sd + c) = 2 ∨ (6 * sd + c) = 17 ∨ (6 * sd + c) = 18 ∨ (6 * sd + c) = 62 ∨ (6 * sd + c) = 69)) ∨ (6 * (1 - sd) ≤ (6 * sd + c) ∧ (6 * sd + c) < 6 * (1 - sd) + 6) := z
  omega
theorem np_90 {sd c : Nat} (hd : sd ≤ 1) (h0 : c < 6) : ¬ PRT (1 - sd) 90 (6 * sd + c) := by
  intro z
  have z' : (90 < 70 ∨ 90 = 71 ∨ 109 ≤ 90) ∨ (90 = 70 ∧ ((6 * sd + c) = 2 ∨ (6 * sd + c) = 17 ∨ (6 * sd + c) = 18 ∨ (6 * sd + c) = 62 ∨ (6 * sd + c) = 69)) ∨ (6 * (1 - sd) ≤ (6 * sd + c) ∧ (6 * sd + c) < 6 * (1 - sd) + 6) := z
  omega
theorem np_92 {sd c : Nat} (hd : sd ≤ 1) (h0 : c < 6) : ¬ PRT (1 - sd) 92 (6 * sd + c) := by
  intro z
  have z' : (92 < 70 ∨ 92 = 71 ∨ 109 ≤ 92) ∨ (92 = 70 ∧ ((6 * sd + c) = 2 ∨ (6 * sd + c) = 17 ∨ (6 * sd + c) = 18 ∨ (6 * sd + c) = 62 ∨ (6 * sd + c) = 69)) ∨ (6 * (1 - sd) ≤ (6 * sd + c) ∧ (6 * sd + c) < 6 * (1 - sd) + 6) := z
  omega
theorem np_93 {sd c : Nat} (hd : sd ≤ 1) (h0 : c < 6) : ¬ PRT (1 - sd) 93 (6 * sd + c) := by
  intro z
  have z' : (93 < 70 ∨ 93 = 71 ∨ 109 ≤ 93) ∨ (93 = 70 ∧ ((6 * sd + c) = 2 ∨ (6 * sd + c) = 17 ∨ (6 * sd + c) = 18 ∨ (6 * sd + c) = 62 ∨ (6 * sd + c) = 69)) ∨ (6 * (1 - sd) ≤ (6 * sd + c) ∧ (6 * sd + c) < 6 * (1 - sd) + 6) := z
  omega
theorem np_95 {sd c : Nat} (hd : sd ≤ 1) (h0 : c < 5) : ¬ PRT (1 - sd) 95 (5 * sd + c) := by
  intro z
  have z' : (95 < 70 ∨ 95 = 71 ∨ 109 ≤ 95) ∨ (95 = 70 ∧ ((5 * sd + c) = 2 ∨ (5 * sd + c) = 17 ∨ (5 * sd + c) = 18 ∨ (5 * sd + c) = 62 ∨ (5 * sd + c) = 69)) ∨ (5 * (1 - sd) ≤ (5 * sd + c) ∧ (5 * sd + c) < 5 * (1 - sd) + 5) := z
  omega
theorem np_97_0 {sd c : Nat} (hd : sd ≤ 1) (h0 : c < 4) : ¬ PRT (1 - sd) 97 (6 * (4 * sd + c)) := by
  intro z
  have z' : (97 < 70 ∨ 97 = 71 ∨ 109 ≤ 97) ∨ (97 = 70 ∧ ((6 * (4 * sd + c)) = 2 ∨ (6 * (4 * sd + c)) = 17 ∨ (6 * (4 * sd + c)) = 18 ∨ (6 * (4 * sd + c)) = 62 ∨ (6 * (4 * sd + c)) = 69)) ∨ (24 * (1 - sd) ≤ (6 * (4 * sd + c)) ∧ (6 * (4 * sd + c)) < 24 * (1 - sd) + 24) := z
  omega
theorem np_97_1 {sd c : Nat} (hd : sd ≤ 1) (h0 : c < 4) : ¬ PRT (1 - sd) 97 (6 * (4 * sd + c) + 1) := by
  intro z
  have z' : (97 < 70 ∨ 97 = 71 ∨ 109 ≤ 97) ∨ (97 = 70 ∧ ((6 * (4 * sd + c) + 1) = 2 ∨ (6 * (4 * sd + c) + 1) = 17 ∨ (6 * (4 * sd + c) + 1) = 18 ∨ (6 * (4 * sd + c) + 1) = 62 ∨ (6 * (4 * sd + c) + 1) = 69)) ∨ (24 * (1 - sd) ≤ (6 * (4 * sd + c) + 1) ∧ (6 * (4 * sd + c) + 1) < 24 * (1 - sd) + 24) := z
  omega
theorem np_97_2 {sd c : Nat} (hd : sd ≤ 1) (h0 : c < 4) : ¬ PRT (1 - sd) 97 (6 * (4 * sd + c) + 2) := by
  intro z
  have z' : (97 < 70 ∨ 97 = 71 ∨ 109 ≤ 97) ∨ (97 = 70 ∧ ((6 * (4 * sd + c) + 2) = 2 ∨ (6 * (4 * sd + c) + 2) = 17 ∨ (6 * (4 * sd + c) + 2) = 18 ∨ (6 * (4 * sd + c) + 2) = 62 ∨ (6 * (4 * sd + c) + 2) = 69)) ∨ (24 * (1 - sd) ≤ (6 * (4 * sd + c) + 2) ∧ (6 * (4 * sd + c) + 2) < 24 * (1 - sd) + 24) := z
  omega
theorem np_97_3 {sd c : Nat} (hd : sd ≤ 1) (h0 : c < 4) : ¬ PRT (1 - sd) 97 (6 * (4 * sd + c) + 3) := by
  intro z
  have z' : (97 < 70 ∨ 97 = 71 ∨ 109 ≤ 97) ∨ (97 = 70 ∧ ((6 * (4 * sd + c) + 3) = 2 ∨ (6 * (4 * sd + c) + 3) = 17 ∨ (6 * (4 * sd + c) + 3) = 18 ∨ (6 * (4 * sd + c) + 3) = 62 ∨ (6 * (4 * sd + c) + 3) = 69)) ∨ (24 * (1 - sd) ≤ (6 * (4 * sd + c) + 3) ∧ (6 * (4 * sd + c) + 3) < 24 * (1 - sd) + 24) := z
  omega
theorem np_97_4 {sd c : Nat} (hd : sd ≤ 1) (h0 : c < 4) : ¬ PRT (1 - sd) 97 (6 * (4 * sd + c) + 4) := by
  intro z
  have z' : (97 < 70 ∨ 97 = 71 ∨ 109 ≤ 97) ∨ (97 = 70 ∧ ((6 * (4 * sd + c) + 4) = 2 ∨ (6 * (4 * sd + c) + 4) = 17 ∨ (6 * (4 * sd + c) + 4) = 18 ∨ (6 * (4 * sd + c) + 4) = 62 ∨ (6 * (4 * sd + c) + 4) = 69)) ∨ (24 * (1 - sd) ≤ (6 * (4 * sd + c) + 4) ∧ (6 * (4 * sd + c) + 4) < 24 * (1 - sd) + 24) := z
  omega
theorem np_97_5 {sd c : Nat} (hd : sd ≤ 1) (h0 : c < 4) : ¬ PRT (1 - sd) 97 (6 * (4 * sd + c) + 5) := by
  intro z
  have z' : (97 < 70 ∨ 97 = 71 ∨ 109 ≤ 97) ∨ (97 = 70 ∧ ((6 * (4 * sd + c) + 5) = 2 ∨ (6 * (4 * sd + c) + 5) = 17 ∨ (6 * (4 * sd + c) + 5) = 18 ∨ (6 * (4 * sd + c) + 5) = 62 ∨ (6 * (4 * sd + c) + 5) = 69)) ∨ (24 * (1 - sd) ≤ (6 * (4 * sd + c) + 5) ∧ (6 * (4 * sd + c) + 5) < 24 * (1 - sd) + 24) := z
  omega
theorem np_79 {lv k : Nat} : ¬ PRT lv 79 k := by
  intro z
  have z' : (79 < 70 ∨ 79 = 71 ∨ 109 ≤ 79) ∨ (79 = 70 ∧ (k = 2 ∨ k = 17 ∨ k = 18 ∨ k = 62 ∨ k = 69)) ∨ (0 * lv ≤ k ∧ k < 0 * lv + 0) := z
  omega
theorem np_80 {lv k : Nat} : ¬ PRT lv 80 k := by
  intro z
  have z' : (80 < 70 ∨ 80 = 71 ∨ 109 ≤ 80) ∨ (80 = 70 ∧ (k = 2 ∨ k = 17 ∨ k = 18 ∨ k = 62 ∨ k = 69)) ∨ (0 * lv ≤ k ∧ k < 0 * lv + 0) := z
  omega
theorem np_20 {lv : Nat} : ¬ PRT lv 70 20 := by
  intro z
  have z' : (70 < 70 ∨ 70 = 71 ∨ 109 ≤ 70) ∨ (70 = 70 ∧ (20 = 2 ∨ 20 = 17 ∨ 20 = 18 ∨ 20 = 62 ∨ 20 = 69)) ∨ (0 * lv ≤ 20 ∧ 20 < 0 * lv + 0) := z
  omega
theorem m_room_14 {t : Nat} {u : Option Nat} {J : AI} {L : AL} {Q : PQ} {S : PS} {kd pl vl mv : Nat → Nat} {n : Nat} {K3 K4 K5 : Nat → Int32} {K6 : Nat → Int64} (hT : TMR kd pl vl mv n K3 K4 K5 K6) (h4 : J 74 = K4) (hg : GS n S) (h0 : S.2.1 = 0) {a : Nat} (ha : a < 100) : V 158 0 [.ref 70, .int (nI a), .int 14] [] 123 (wm J S) L (RX t u) Q = Q none 123 (wm J (if a = 14 then stopP pl 2 S else goP pl S)) L (RX t u) := m_roomFor (b := 14) hT h4 hg h0 ha (by decide)
theorem m_room_6 {t : Nat} {u : Option Nat} {J : AI} {L : AL} {Q : PQ} {S : PS} {kd pl vl mv : Nat → Nat} {n : Nat} {K3 K4 K5 : Nat → Int32} {K6 : Nat → Int64} (hT : TMR kd pl vl mv n K3 K4 K5 K6) (h4 : J 74 = K4) (hg : GS n S) (h0 : S.2.1 = 0) {a : Nat} (ha : a < 100) : V 158 0 [.ref 70, .int (nI a), .int 6] [] 123 (wm J S) L (RX t u) Q = Q none 123 (wm J (if a = 6 then stopP pl 2 S else goP pl S)) L (RX t u) := m_roomFor (b := 6) hT h4 hg h0 ha (by decide)
theorem m_room_5 {t : Nat} {u : Option Nat} {J : AI} {L : AL} {Q : PQ} {S : PS} {kd pl vl mv : Nat → Nat} {n : Nat} {K3 K4 K5 : Nat → Int32} {K6 : Nat → Int64} (hT : TMR kd pl vl mv n K3 K4 K5 K6) (h4 : J 74 = K4) (hg : GS n S) (h0 : S.2.1 = 0) {a : Nat} (ha : a < 100) : V 158 0 [.ref 70, .int (nI a), .int 5] [] 123 (wm J S) L (RX t u) Q = Q none 123 (wm J (if a = 5 then stopP pl 2 S else goP pl S)) L (RX t u) := m_roomFor (b := 5) hT h4 hg h0 ha (by decide)
theorem m_room_4 {t : Nat} {u : Option Nat} {J : AI} {L : AL} {Q : PQ} {S : PS} {kd pl vl mv : Nat → Nat} {n : Nat} {K3 K4 K5 : Nat → Int32} {K6 : Nat → Int64} (hT : TMR kd pl vl mv n K3 K4 K5 K6) (h4 : J 74 = K4) (hg : GS n S) (h0 : S.2.1 = 0) {a : Nat} (ha : a < 100) : V 158 0 [.ref 70, .int (nI a), .int 4] [] 123 (wm J S) L (RX t u) Q = Q none 123 (wm J (if a = 4 then stopP pl 2 S else goP pl S)) L (RX t u) := m_roomFor (b := 4) hT h4 hg h0 ha (by decide)
theorem m_no_End {t : Nat} {u : Option Nat} {J : AI} {M : AL} {Q : PQ} {Z : PS} {kd pl vl mv : Nat → Nat} {n : Nat} {K3 K4 K5 : Nat → Int32} {K6 : Nat → Int64} (hT : TMR kd pl vl mv n K3 K4 K5 K6) (h3 : J 73 = K3) (h4 : J 74 = K4) {sd c : Nat} (hd : sd ≤ 1) (h19 : J 70 19 = nI sd) (hc : J 81 sd = nI c) (hl : c ≤ 14) (hg : GS n Z) (h0 : Z.2.1 = 0) (hq : kd Z.1 = 0) (hn : ¬ (c < 14 ∧ tkB kd 0 Z = true)) : V 159 0 [.ref 70, .retAddr 0] [] 123 (wm J Z) M (RX t u) Q = Q none 123 (wm J (if c < 14 then takeP kd pl 0 Z else stopP pl 2 Z)) M (RX t u) := by
  have t1 := hT.1
  have hx := hg.1
  have x1 := inT (a := Z.1) (N := 403) (by omega) (by decide)
  have x2 := nI_clamp (n := Z.1) (by omega)
  have w1 := inT (a := sd) (N := 2) (by omega) (by decide)
  have w2 := nI_clamp (n := sd) (by omega)
  have y3 : K3 Z.1 = 20 := by rw [(hT.2.1 Z.1 hx).1, hq]; rfl
  have c1 : c < 100 := by omega
  have tg : takeP kd pl 0 Z = goP pl Z := by rw [take_is, if_pos (by unfold isP; rw [decide_eq_true h0, decide_eq_true hq]; rfl)]
  by_cases e : c < 14
  · have e2 : tkB kd 0 Z = false := by
      cases z : tkB kd 0 Z
      · rfl
      · exact absurd ⟨e, z⟩ hn
    have f2 := take_f (pl := pl) e2
    rw [tg] at f2
    rw [if_pos e, tg]
    have ne : (c = 14) = False := eq_false (by omega)
    simp (config := { decide := true, maxDischargeDepth := 20 }) only [↓reduceIte, KV_i, KV_v, wsm_0, wsm_i, wsm_l, wsm_r, dlV_i, dlV_r, dlV_l, dlV_j, cat_i, cat_l, cat_r, rf_s, true_and, and_true, and_self, if_true, if_false, ite_true, ite_false, eq_self, true_or, or_true, false_or, or_false, not_true_eq_false, not_false_eq_true, vn_0_45, vn_1_45, vn_2_45, vn_3_45, vn_4_45, vn_5_45, vn_6_45, vn_7_45, vn_8_45, vn_36_48, vn_37_48, vn_38_48, vn_39_48, vn_40_48, vn_41_48, vn_42_48, vn_43_48, vn_44_48, vn_0_9, vn_1_9, vn_2_9, vn_3_9, vn_4_9, vn_5_9, vn_6_9, vn_7_9, vn_8_9, vn_0_3, vn_1_3, vn_2_3, vn_0_4, vn_1_4, vn_2_4, vn_3_4, vn_0_64, vn_0_16, vn_0_400, vn_0_6, vn_0_14, Int32.reduceToNatClampNeg, Int32.reduceAdd, Int32.reduceSub, Int32.reduceMul, Int32.reduceLE, Int32.reduceLT, Nat.reduceAdd, nr_2, nr_30, nr_31, rd_2, rd_14, rd_71, rd_72, rd_101, rd_116, rd_121, up2_s, up2_n, upr_s, upr_n, ne_eq, not_false_eq_true, ob_70, rx_70_1, rx_70_3, rx_70_5, rx_70_6, rx_70_7, rx_70_8, rx_70_9, rx_70_21, rx_70_22, rx_70_23, rx_70_24, rx_70_25, rx_70_26, rx_70_27, rx_70_28, rx_70_29, rx_70_30, rx_70_31, rx_70_32, rx_70_33, rx_70_34, rx_70_35, rx_70_36, rx_70_37, rx_70_38, rx_70_39, rx_70_40, rx_70_41, rx_70_42, rx_70_43, rx_70_45, rx_70_46, rx_70_47, rx_70_48, rx_70_49, rx_70_51, rx_70_52, rx_70_53, rx_70_55, rx_70_56, rx_70_58, rx_70_59, rx_70_60, rx_70_61, rx_70_63, rx_70_64, rx_70_65, rx_70_70, rx_70_71, rx_70_72, rx_70_73, rx_70_74, r159_0, r159_1, r159_4, r159_5, r159_8, r159_68, r159_69, r159_70, r159_73, r159_74, r159_77, r159_78, r159_80, r159_83, r159_84, r159_87, r159_90, r159_91, r159_94, r159_97, r159_98, r159_99, r159_102, r159_103, r159_106, r159_107, r159_109, r159_112, r159_113, r159_116, r159_119, r159_120, r159_123, r159_126, r159_127, r159_128, r159_131, r159_132, r159_135, r159_136, r159_138, r159_141, r159_142, r159_145, r159_148, r159_149, r159_152, r159_155, r159_156, r159_157, r159_160, r159_161, r159_164, r159_165, r159_167, r159_170, r159_171, r159_174, r159_177, r159_178, r159_181, r159_184, r159_185, r159_186, r159_189, r159_190, r159_193, r159_194, r159_195, r159_198, r159_199, r159_202, r159_205, r159_206, r159_209, r159_212, r159_213, r159_214, r159_217, r159_218, r159_221, r159_222, r159_223, r159_226, r159_227, r159_230, r159_233, r159_234, r159_237, r159_240, r159_241, r159_244, r159_245, r159_248, r159_249, r159_252, r159_253, r159_254, r159_257, r159_260, r159_261, r159_262, r159_263, r159_266, r159_269, r159_270, r159_273, r159_274, r159_277, r159_278, r159_280, r159_281, r159_282, r159_283, r159_286, r159_287, r159_290, r159_291, r159_294, r159_295, r159_297, r159_300, r159_301, r159_302, r159_305, r159_306, r159_309, r159_312, r159_313, r159_314, r159_317, r159_318, r159_319, r159_322, r159_9, tg_73, ln_73, tg_81, ln_81, wm_11, wm_13, wm_14, wm_15, wm_16, wm_4, wm_12, wm_18, wm_19, wm_20, wm_44, wm_50, wm_54, wm_n, wm_up, wm_u11, wm_u13, wm_u14, wm_u15, wm_u16, wm_u12, wm_u18, wm_u19, wm_u20, wm_u44, wm_u50, wm_u54, m_room_14 hT, h3, h4, h19, hc, hg, h0, c1, ne, x1, x2, w1, w2, y3, f2]
  · rw [if_neg e]
    have ne : (c = 14) = True := eq_true (by omega)
    have f2 : (stopP pl 2 Z).2.1 ≠ 0 := stop_n0 (by decide) h0
    simp (config := { decide := true, maxDischargeDepth := 20 }) only [↓reduceIte, KV_i, KV_v, wsm_0, wsm_i, wsm_l, wsm_r, dlV_i, dlV_r, dlV_l, dlV_j, cat_i, cat_l, cat_r, rf_s, true_and, and_true, and_self, if_true, if_false, ite_true, ite_false, eq_self, true_or, or_true, false_or, or_false, not_true_eq_false, not_false_eq_true, vn_0_45, vn_1_45, vn_2_45, vn_3_45, vn_4_45, vn_5_45, vn_6_45, vn_7_45, vn_8_45, vn_36_48, vn_37_48, vn_38_48, vn_39_48, vn_40_48, vn_41_48, vn_42_48, vn_43_48, vn_44_48, vn_0_9, vn_1_9, vn_2_9, vn_3_9, vn_4_9, vn_5_9, vn_6_9, vn_7_9, vn_8_9, vn_0_3, vn_1_3, vn_2_3, vn_0_4, vn_1_4, vn_2_4, vn_3_4, vn_0_64, vn_0_16, vn_0_400, vn_0_6, vn_0_14, Int32.reduceToNatClampNeg, Int32.reduceAdd, Int32.reduceSub, Int32.reduceMul, Int32.reduceLE, Int32.reduceLT, Nat.reduceAdd, nr_2, nr_30, nr_31, rd_2, rd_14, rd_71, rd_72, rd_101, rd_116, rd_121, up2_s, up2_n, upr_s, upr_n, ne_eq, not_false_eq_true, ob_70, rx_70_1, rx_70_3, rx_70_5, rx_70_6, rx_70_7, rx_70_8, rx_70_9, rx_70_21, rx_70_22, rx_70_23, rx_70_24, rx_70_25, rx_70_26, rx_70_27, rx_70_28, rx_70_29, rx_70_30, rx_70_31, rx_70_32, rx_70_33, rx_70_34, rx_70_35, rx_70_36, rx_70_37, rx_70_38, rx_70_39, rx_70_40, rx_70_41, rx_70_42, rx_70_43, rx_70_45, rx_70_46, rx_70_47, rx_70_48, rx_70_49, rx_70_51, rx_70_52, rx_70_53, rx_70_55, rx_70_56, rx_70_58, rx_70_59, rx_70_60, rx_70_61, rx_70_63, rx_70_64, rx_70_65, rx_70_70, rx_70_71, rx_70_72, rx_70_73, rx_70_74, r159_0, r159_1, r159_4, r159_5, r159_8, r159_68, r159_69, r159_70, r159_73, r159_74, r159_77, r159_78, r159_80, r159_83, r159_84, r159_87, r159_90, r159_91, r159_94, r159_97, r159_98, r159_99, r159_102, r159_103, r159_106, r159_107, r159_109, r159_112, r159_113, r159_116, r159_119, r159_120, r159_123, r159_126, r159_127, r159_128, r159_131, r159_132, r159_135, r159_136, r159_138, r159_141, r159_142, r159_145, r159_148, r159_149, r159_152, r159_155, r159_156, r159_157, r159_160, r159_161, r159_164, r159_165, r159_167, r159_170, r159_171, r159_174, r159_177, r159_178, r159_181, r159_184, r159_185, r159_186, r159_189, r159_190, r159_193, r159_194, r159_195, r159_198, r159_199, r159_202, r159_205, r159_206, r159_209, r159_212, r159_213, r159_214, r159_217, r159_218, r159_221, r159_222, r159_223, r159_226, r159_227, r159_230, r159_233, r159_234, r159_237, r159_240, r159_241, r159_244, r159_245, r159_248, r159_249, r159_252, r159_253, r159_254, r159_257, r159_260, r159_261, r159_262, r159_263, r159_266, r159_269, r159_270, r159_273, r159_274, r159_277, r159_278, r159_280, r159_281, r159_282, r159_283, r159_286, r159_287, r159_290, r159_291, r159_294, r159_295, r159_297, r159_300, r159_301, r159_302, r159_305, r159_306, r159_309, r159_312, r159_313, r159_314, r159_317, r159_318, r159_319, r159_322, r159_9, tg_73, ln_73, tg_81, ln_81, wm_11, wm_13, wm_14, wm_15, wm_16, wm_4, wm_12, wm_18, wm_19, wm_20, wm_44, wm_50, wm_54, wm_n, wm_up, wm_u11, wm_u13, wm_u14, wm_u15, wm_u16, wm_u12, wm_u18, wm_u19, wm_u20, wm_u44, wm_u50, wm_u54, m_room_14 hT, h3, h4, h19, hc, hg, h0, c1, ne, x1, x2, w1, w2, y3, f2]
theorem m_no_Turn {t : Nat} {u : Option Nat} {J : AI} {M : AL} {Q : PQ} {Z : PS} {kd pl vl mv : Nat → Nat} {n : Nat} {K3 K4 K5 : Nat → Int32} {K6 : Nat → Int64} (hT : TMR kd pl vl mv n K3 K4 K5 K6) (h3 : J 73 = K3) (h4 : J 74 = K4) {sd c : Nat} (hd : sd ≤ 1) (h19 : J 70 19 = nI sd) (hc : J 81 sd = nI c) (hl : c ≤ 14) (hg : GS n Z) (h0 : Z.2.1 = 0) (hq : kd Z.1 = 1) (hn : ¬ (c < 14 ∧ tkB kd 1 Z = true)) : V 159 0 [.ref 70, .retAddr 0] [] 123 (wm J Z) M (RX t u) Q = Q none 123 (wm J (if c < 14 then takeP kd pl 1 Z else stopP pl 2 Z)) M (RX t u) := by
  have t1 := hT.1
  have hx := hg.1
  have x1 := inT (a := Z.1) (N := 403) (by omega) (by decide)
  have x2 := nI_clamp (n := Z.1) (by omega)
  have w1 := inT (a := sd) (N := 2) (by omega) (by decide)
  have w2 := nI_clamp (n := sd) (by omega)
  have y3 : K3 Z.1 = 21 := by rw [(hT.2.1 Z.1 hx).1, hq]; rfl
  have c1 : c < 100 := by omega
  have tg : takeP kd pl 1 Z = goP pl Z := by rw [take_is, if_pos (by unfold isP; rw [decide_eq_true h0, decide_eq_true hq]; rfl)]
  by_cases e : c < 14
  · have e2 : tkB kd 1 Z = false := by
      cases z : tkB kd 1 Z
      · rfl
      · exact absurd ⟨e, z⟩ hn
    have f2 := take_f (pl := pl) e2
    rw [tg] at f2
    rw [if_pos e, tg]
    have ne : (c = 14) = False := eq_false (by omega)
    simp (config := { decide := true, maxDischargeDepth := 20 }) only [↓reduceIte, KV_i, KV_v, wsm_0, wsm_i, wsm_l, wsm_r, dlV_i, dlV_r, dlV_l, dlV_j, cat_i, cat_l, cat_r, rf_s, true_and, and_true, and_self, if_true, if_false, ite_true, ite_false, eq_self, true_or, or_true, false_or, or_false, not_true_eq_false, not_false_eq_true, vn_0_45, vn_1_45, vn_2_45, vn_3_45, vn_4_45, vn_5_45, vn_6_45, vn_7_45, vn_8_45, vn_36_48, vn_37_48, vn_38_48, vn_39_48, vn_40_48, vn_41_48, vn_42_48, vn_43_48, vn_44_48, vn_0_9, vn_1_9, vn_2_9, vn_3_9, vn_4_9, vn_5_9, vn_6_9, vn_7_9, vn_8_9, vn_0_3, vn_1_3, vn_2_3, vn_0_4, vn_1_4, vn_2_4, vn_3_4, vn_0_64, vn_0_16, vn_0_400, vn_0_6, vn_0_14, Int32.reduceToNatClampNeg, Int32.reduceAdd, Int32.reduceSub, Int32.reduceMul, Int32.reduceLE, Int32.reduceLT, Nat.reduceAdd, nr_2, nr_30, nr_31, rd_2, rd_14, rd_71, rd_72, rd_101, rd_116, rd_121, up2_s, up2_n, upr_s, upr_n, ne_eq, not_false_eq_true, ob_70, rx_70_1, rx_70_3, rx_70_5, rx_70_6, rx_70_7, rx_70_8, rx_70_9, rx_70_21, rx_70_22, rx_70_23, rx_70_24, rx_70_25, rx_70_26, rx_70_27, rx_70_28, rx_70_29, rx_70_30, rx_70_31, rx_70_32, rx_70_33, rx_70_34, rx_70_35, rx_70_36, rx_70_37, rx_70_38, rx_70_39, rx_70_40, rx_70_41, rx_70_42, rx_70_43, rx_70_45, rx_70_46, rx_70_47, rx_70_48, rx_70_49, rx_70_51, rx_70_52, rx_70_53, rx_70_55, rx_70_56, rx_70_58, rx_70_59, rx_70_60, rx_70_61, rx_70_63, rx_70_64, rx_70_65, rx_70_70, rx_70_71, rx_70_72, rx_70_73, rx_70_74, r159_0, r159_1, r159_4, r159_5, r159_8, r159_68, r159_69, r159_70, r159_73, r159_74, r159_77, r159_78, r159_80, r159_83, r159_84, r159_87, r159_90, r159_91, r159_94, r159_97, r159_98, r159_99, r159_102, r159_103, r159_106, r159_107, r159_109, r159_112, r159_113, r159_116, r159_119, r159_120, r159_123, r159_126, r159_127, r159_128, r159_131, r159_132, r159_135, r159_136, r159_138, r159_141, r159_142, r159_145, r159_148, r159_149, r159_152, r159_155, r159_156, r159_157, r159_160, r159_161, r159_164, r159_165, r159_167, r159_170, r159_171, r159_174, r159_177, r159_178, r159_181, r159_184, r159_185, r159_186, r159_189, r159_190, r159_193, r159_194, r159_195, r159_198, r159_199, r159_202, r159_205, r159_206, r159_209, r159_212, r159_213, r159_214, r159_217, r159_218, r159_221, r159_222, r159_223, r159_226, r159_227, r159_230, r159_233, r159_234, r159_237, r159_240, r159_241, r159_244, r159_245, r159_248, r159_249, r159_252, r159_253, r159_254, r159_257, r159_260, r159_261, r159_262, r159_263, r159_266, r159_269, r159_270, r159_273, r159_274, r159_277, r159_278, r159_280, r159_281, r159_282, r159_283, r159_286, r159_287, r159_290, r159_291, r159_294, r159_295, r159_297, r159_300, r159_301, r159_302, r159_305, r159_306, r159_309, r159_312, r159_313, r159_314, r159_317, r159_318, r159_319, r159_322, r159_9, tg_73, ln_73, tg_81, ln_81, wm_11, wm_13, wm_14, wm_15, wm_16, wm_4, wm_12, wm_18, wm_19, wm_20, wm_44, wm_50, wm_54, wm_n, wm_up, wm_u11, wm_u13, wm_u14, wm_u15, wm_u16, wm_u12, wm_u18, wm_u19, wm_u20, wm_u44, wm_u50, wm_u54, m_room_14 hT, h3, h4, h19, hc, hg, h0, c1, ne, x1, x2, w1, w2, y3, f2]
  · rw [if_neg e]
    have ne : (c = 14) = True := eq_true (by omega)
    have f2 : (stopP pl 2 Z).2.1 ≠ 0 := stop_n0 (by decide) h0
    simp (config := { decide := true, maxDischargeDepth := 20 }) only [↓reduceIte, KV_i, KV_v, wsm_0, wsm_i, wsm_l, wsm_r, dlV_i, dlV_r, dlV_l, dlV_j, cat_i, cat_l, cat_r, rf_s, true_and, and_true, and_self, if_true, if_false, ite_true, ite_false, eq_self, true_or, or_true, false_or, or_false, not_true_eq_false, not_false_eq_true, vn_0_45, vn_1_45, vn_2_45, vn_3_45, vn_4_45, vn_5_45, vn_6_45, vn_7_45, vn_8_45, vn_36_48, vn_37_48, vn_38_48, vn_39_48, vn_40_48, vn_41_48, vn_42_48, vn_43_48, vn_44_48, vn_0_9, vn_1_9, vn_2_9, vn_3_9, vn_4_9, vn_5_9, vn_6_9, vn_7_9, vn_8_9, vn_0_3, vn_1_3, vn_2_3, vn_0_4, vn_1_4, vn_2_4, vn_3_4, vn_0_64, vn_0_16, vn_0_400, vn_0_6, vn_0_14, Int32.reduceToNatClampNeg, Int32.reduceAdd, Int32.reduceSub, Int32.reduceMul, Int32.reduceLE, Int32.reduceLT, Nat.reduceAdd, nr_2, nr_30, nr_31, rd_2, rd_14, rd_71, rd_72, rd_101, rd_116, rd_121, up2_s, up2_n, upr_s, upr_n, ne_eq, not_false_eq_true, ob_70, rx_70_1, rx_70_3, rx_70_5, rx_70_6, rx_70_7, rx_70_8, rx_70_9, rx_70_21, rx_70_22, rx_70_23, rx_70_24, rx_70_25, rx_70_26, rx_70_27, rx_70_28, rx_70_29, rx_70_30, rx_70_31, rx_70_32, rx_70_33, rx_70_34, rx_70_35, rx_70_36, rx_70_37, rx_70_38, rx_70_39, rx_70_40, rx_70_41, rx_70_42, rx_70_43, rx_70_45, rx_70_46, rx_70_47, rx_70_48, rx_70_49, rx_70_51, rx_70_52, rx_70_53, rx_70_55, rx_70_56, rx_70_58, rx_70_59, rx_70_60, rx_70_61, rx_70_63, rx_70_64, rx_70_65, rx_70_70, rx_70_71, rx_70_72, rx_70_73, rx_70_74, r159_0, r159_1, r159_4, r159_5, r159_8, r159_68, r159_69, r159_70, r159_73, r159_74, r159_77, r159_78, r159_80, r159_83, r159_84, r159_87, r159_90, r159_91, r159_94, r159_97, r159_98, r159_99, r159_102, r159_103, r159_106, r159_107, r159_109, r159_112, r159_113, r159_116, r159_119, r159_120, r159_123, r159_126, r159_127, r159_128, r159_131, r159_132, r159_135, r159_136, r159_138, r159_141, r159_142, r159_145, r159_148, r159_149, r159_152, r159_155, r159_156, r159_157, r159_160, r159_161, r159_164, r159_165, r159_167, r159_170, r159_171, r159_174, r159_177, r159_178, r159_181, r159_184, r159_185, r159_186, r159_189, r159_190, r159_193, r159_194, r159_195, r159_198, r159_199, r159_202, r159_205, r159_206, r159_209, r159_212, r159_213, r159_214, r159_217, r159_218, r159_221, r159_222, r159_223, r159_226, r159_227, r159_230, r159_233, r159_234, r159_237, r159_240, r159_241, r159_244, r159_245, r159_248, r159_249, r159_252, r159_253, r159_254, r159_257, r159_260, r159_261, r159_262, r159_263, r159_266, r159_269, r159_270, r159_273, r159_274, r159_277, r159_278, r159_280, r159_281, r159_282, r159_283, r159_286, r159_287, r159_290, r159_291, r159_294, r159_295, r159_297, r159_300, r159_301, r159_302, r159_305, r159_306, r159_309, r159_312, r159_313, r159_314, r159_317, r159_318, r159_319, r159_322, r159_9, tg_73, ln_73, tg_81, ln_81, wm_11, wm_13, wm_14, wm_15, wm_16, wm_4, wm_12, wm_18, wm_19, wm_20, wm_44, wm_50, wm_54, wm_n, wm_up, wm_u11, wm_u13, wm_u14, wm_u15, wm_u16, wm_u12, wm_u18, wm_u19, wm_u20, wm_u44, wm_u50, wm_u54, m_room_14 hT, h3, h4, h19, hc, hg, h0, c1, ne, x1, x2, w1, w2, y3, f2]
theorem m_no_Man {t : Nat} {u : Option Nat} {J : AI} {M : AL} {Q : PQ} {Z : PS} {kd pl vl mv : Nat → Nat} {n : Nat} {K3 K4 K5 : Nat → Int32} {K6 : Nat → Int64} (hT : TMR kd pl vl mv n K3 K4 K5 K6) (h3 : J 73 = K3) (h4 : J 74 = K4) {sd c : Nat} (hd : sd ≤ 1) (h19 : J 70 19 = nI sd) (hc : J 88 sd = nI c) (hl : c ≤ 6) (hg : GS n Z) (h0 : Z.2.1 = 0) (hq : kd Z.1 = 2) (hn : ¬ (c < 6 ∧ tkB kd 2 Z = true)) : V 159 0 [.ref 70, .retAddr 0] [] 123 (wm J Z) M (RX t u) Q = Q none 123 (wm J (if c < 6 then takeP kd pl 2 Z else stopP pl 2 Z)) M (RX t u) := by
  have t1 := hT.1
  have hx := hg.1
  have x1 := inT (a := Z.1) (N := 403) (by omega) (by decide)
  have x2 := nI_clamp (n := Z.1) (by omega)
  have w1 := inT (a := sd) (N := 2) (by omega) (by decide)
  have w2 := nI_clamp (n := sd) (by omega)
  have y3 : K3 Z.1 = 22 := by rw [(hT.2.1 Z.1 hx).1, hq]; rfl
  have c1 : c < 100 := by omega
  have tg : takeP kd pl 2 Z = goP pl Z := by rw [take_is, if_pos (by unfold isP; rw [decide_eq_true h0, decide_eq_true hq]; rfl)]
  by_cases e : c < 6
  · have e2 : tkB kd 2 Z = false := by
      cases z : tkB kd 2 Z
      · rfl
      · exact absurd ⟨e, z⟩ hn
    have f2 := take_f (pl := pl) e2
    rw [tg] at f2
    rw [if_pos e, tg]
    have ne : (c = 6) = False := eq_false (by omega)
    simp (config := { decide := true, maxDischargeDepth := 20 }) only [↓reduceIte, KV_i, KV_v, wsm_0, wsm_i, wsm_l, wsm_r, dlV_i, dlV_r, dlV_l, dlV_j, cat_i, cat_l, cat_r, rf_s, true_and, and_true, and_self, if_true, if_false, ite_true, ite_false, eq_self, true_or, or_true, false_or, or_false, not_true_eq_false, not_false_eq_true, vn_0_45, vn_1_45, vn_2_45, vn_3_45, vn_4_45, vn_5_45, vn_6_45, vn_7_45, vn_8_45, vn_36_48, vn_37_48, vn_38_48, vn_39_48, vn_40_48, vn_41_48, vn_42_48, vn_43_48, vn_44_48, vn_0_9, vn_1_9, vn_2_9, vn_3_9, vn_4_9, vn_5_9, vn_6_9, vn_7_9, vn_8_9, vn_0_3, vn_1_3, vn_2_3, vn_0_4, vn_1_4, vn_2_4, vn_3_4, vn_0_64, vn_0_16, vn_0_400, vn_0_6, vn_0_14, Int32.reduceToNatClampNeg, Int32.reduceAdd, Int32.reduceSub, Int32.reduceMul, Int32.reduceLE, Int32.reduceLT, Nat.reduceAdd, nr_2, nr_30, nr_31, rd_2, rd_14, rd_71, rd_72, rd_101, rd_116, rd_121, up2_s, up2_n, upr_s, upr_n, ne_eq, not_false_eq_true, ob_70, rx_70_1, rx_70_3, rx_70_5, rx_70_6, rx_70_7, rx_70_8, rx_70_9, rx_70_21, rx_70_22, rx_70_23, rx_70_24, rx_70_25, rx_70_26, rx_70_27, rx_70_28, rx_70_29, rx_70_30, rx_70_31, rx_70_32, rx_70_33, rx_70_34, rx_70_35, rx_70_36, rx_70_37, rx_70_38, rx_70_39, rx_70_40, rx_70_41, rx_70_42, rx_70_43, rx_70_45, rx_70_46, rx_70_47, rx_70_48, rx_70_49, rx_70_51, rx_70_52, rx_70_53, rx_70_55, rx_70_56, rx_70_58, rx_70_59, rx_70_60, rx_70_61, rx_70_63, rx_70_64, rx_70_65, rx_70_70, rx_70_71, rx_70_72, rx_70_73, rx_70_74, r159_0, r159_1, r159_4, r159_5, r159_8, r159_68, r159_69, r159_70, r159_73, r159_74, r159_77, r159_78, r159_80, r159_83, r159_84, r159_87, r159_90, r159_91, r159_94, r159_97, r159_98, r159_99, r159_102, r159_103, r159_106, r159_107, r159_109, r159_112, r159_113, r159_116, r159_119, r159_120, r159_123, r159_126, r159_127, r159_128, r159_131, r159_132, r159_135, r159_136, r159_138, r159_141, r159_142, r159_145, r159_148, r159_149, r159_152, r159_155, r159_156, r159_157, r159_160, r159_161, r159_164, r159_165, r159_167, r159_170, r159_171, r159_174, r159_177, r159_178, r159_181, r159_184, r159_185, r159_186, r159_189, r159_190, r159_193, r159_194, r159_195, r159_198, r159_199, r159_202, r159_205, r159_206, r159_209, r159_212, r159_213, r159_214, r159_217, r159_218, r159_221, r159_222, r159_223, r159_226, r159_227, r159_230, r159_233, r159_234, r159_237, r159_240, r159_241, r159_244, r159_245, r159_248, r159_249, r159_252, r159_253, r159_254, r159_257, r159_260, r159_261, r159_262, r159_263, r159_266, r159_269, r159_270, r159_273, r159_274, r159_277, r159_278, r159_280, r159_281, r159_282, r159_283, r159_286, r159_287, r159_290, r159_291, r159_294, r159_295, r159_297, r159_300, r159_301, r159_302, r159_305, r159_306, r159_309, r159_312, r159_313, r159_314, r159_317, r159_318, r159_319, r159_322, r159_9, tg_73, ln_73, tg_88, ln_88, wm_11, wm_13, wm_14, wm_15, wm_16, wm_4, wm_12, wm_18, wm_19, wm_20, wm_44, wm_50, wm_54, wm_n, wm_up, wm_u11, wm_u13, wm_u14, wm_u15, wm_u16, wm_u12, wm_u18, wm_u19, wm_u20, wm_u44, wm_u50, wm_u54, m_room_6 hT, h3, h4, h19, hc, hg, h0, c1, ne, x1, x2, w1, w2, y3, f2]
  · rw [if_neg e]
    have ne : (c = 6) = True := eq_true (by omega)
    have f2 : (stopP pl 2 Z).2.1 ≠ 0 := stop_n0 (by decide) h0
    simp (config := { decide := true, maxDischargeDepth := 20 }) only [↓reduceIte, KV_i, KV_v, wsm_0, wsm_i, wsm_l, wsm_r, dlV_i, dlV_r, dlV_l, dlV_j, cat_i, cat_l, cat_r, rf_s, true_and, and_true, and_self, if_true, if_false, ite_true, ite_false, eq_self, true_or, or_true, false_or, or_false, not_true_eq_false, not_false_eq_true, vn_0_45, vn_1_45, vn_2_45, vn_3_45, vn_4_45, vn_5_45, vn_6_45, vn_7_45, vn_8_45, vn_36_48, vn_37_48, vn_38_48, vn_39_48, vn_40_48, vn_41_48, vn_42_48, vn_43_48, vn_44_48, vn_0_9, vn_1_9, vn_2_9, vn_3_9, vn_4_9, vn_5_9, vn_6_9, vn_7_9, vn_8_9, vn_0_3, vn_1_3, vn_2_3, vn_0_4, vn_1_4, vn_2_4, vn_3_4, vn_0_64, vn_0_16, vn_0_400, vn_0_6, vn_0_14, Int32.reduceToNatClampNeg, Int32.reduceAdd, Int32.reduceSub, Int32.reduceMul, Int32.reduceLE, Int32.reduceLT, Nat.reduceAdd, nr_2, nr_30, nr_31, rd_2, rd_14, rd_71, rd_72, rd_101, rd_116, rd_121, up2_s, up2_n, upr_s, upr_n, ne_eq, not_false_eq_true, ob_70, rx_70_1, rx_70_3, rx_70_5, rx_70_6, rx_70_7, rx_70_8, rx_70_9, rx_70_21, rx_70_22, rx_70_23, rx_70_24, rx_70_25, rx_70_26, rx_70_27, rx_70_28, rx_70_29, rx_70_30, rx_70_31, rx_70_32, rx_70_33, rx_70_34, rx_70_35, rx_70_36, rx_70_37, rx_70_38, rx_70_39, rx_70_40, rx_70_41, rx_70_42, rx_70_43, rx_70_45, rx_70_46, rx_70_47, rx_70_48, rx_70_49, rx_70_51, rx_70_52, rx_70_53, rx_70_55, rx_70_56, rx_70_58, rx_70_59, rx_70_60, rx_70_61, rx_70_63, rx_70_64, rx_70_65, rx_70_70, rx_70_71, rx_70_72, rx_70_73, rx_70_74, r159_0, r159_1, r159_4, r159_5, r159_8, r159_68, r159_69, r159_70, r159_73, r159_74, r159_77, r159_78, r159_80, r159_83, r159_84, r159_87, r159_90, r159_91, r159_94, r159_97, r159_98, r159_99, r159_102, r159_103, r159_106, r159_107, r159_109, r159_112, r159_113, r159_116, r159_119, r159_120, r159_123, r159_126, r159_127, r159_128, r159_131, r159_132, r159_135, r159_136, r159_138, r159_141, r159_142, r159_145, r159_148, r159_149, r159_152, r159_155, r159_156, r159_157, r159_160, r159_161, r159_164, r159_165, r159_167, r159_170, r159_171, r159_174, r159_177, r159_178, r159_181, r159_184, r159_185, r159_186, r159_189, r159_190, r159_193, r159_194, r159_195, r159_198, r159_199, r159_202, r159_205, r159_206, r159_209, r159_212, r159_213, r159_214, r159_217, r159_218, r159_221, r159_222, r159_223, r159_226, r159_227, r159_230, r159_233, r159_234, r159_237, r159_240, r159_241, r159_244, r159_245, r159_248, r159_249, r159_252, r159_253, r159_254, r159_257, r159_260, r159_261, r159_262, r159_263, r159_266, r159_269, r159_270, r159_273, r159_274, r159_277, r159_278, r159_280, r159_281, r159_282, r159_283, r159_286, r159_287, r159_290, r159_291, r159_294, r159_295, r159_297, r159_300, r159_301, r159_302, r159_305, r159_306, r159_309, r159_312, r159_313, r159_314, r159_317, r159_318, r159_319, r159_322, r159_9, tg_73, ln_73, tg_88, ln_88, wm_11, wm_13, wm_14, wm_15, wm_16, wm_4, wm_12, wm_18, wm_19, wm_20, wm_44, wm_50, wm_54, wm_n, wm_up, wm_u11, wm_u13, wm_u14, wm_u15, wm_u16, wm_u12, wm_u18, wm_u19, wm_u20, wm_u44, wm_u50, wm_u54, m_room_6 hT, h3, h4, h19, hc, hg, h0, c1, ne, x1, x2, w1, w2, y3, f2]
theorem m_no_Lesson {t : Nat} {u : Option Nat} {J : AI} {M : AL} {Q : PQ} {Z : PS} {kd pl vl mv : Nat → Nat} {n : Nat} {K3 K4 K5 : Nat → Int32} {K6 : Nat → Int64} (hT : TMR kd pl vl mv n K3 K4 K5 K6) (h3 : J 73 = K3) (h4 : J 74 = K4) {sd c : Nat} (hd : sd ≤ 1) (h19 : J 70 19 = nI sd) (hc : J 91 sd = nI c) (hl : c ≤ 6) (hg : GS n Z) (h0 : Z.2.1 = 0) (hq : kd Z.1 = 3) (hn : ¬ (c < 6 ∧ tkB kd 3 Z = true)) : V 159 0 [.ref 70, .retAddr 0] [] 123 (wm J Z) M (RX t u) Q = Q none 123 (wm J (if c < 6 then takeP kd pl 3 Z else stopP pl 2 Z)) M (RX t u) := by
  have t1 := hT.1
  have hx := hg.1
  have x1 := inT (a := Z.1) (N := 403) (by omega) (by decide)
  have x2 := nI_clamp (n := Z.1) (by omega)
  have w1 := inT (a := sd) (N := 2) (by omega) (by decide)
  have w2 := nI_clamp (n := sd) (by omega)
  have y3 : K3 Z.1 = 23 := by rw [(hT.2.1 Z.1 hx).1, hq]; rfl
  have c1 : c < 100 := by omega
  have tg : takeP kd pl 3 Z = goP pl Z := by rw [take_is, if_pos (by unfold isP; rw [decide_eq_true h0, decide_eq_true hq]; rfl)]
  by_cases e : c < 6
  · have e2 : tkB kd 3 Z = false := by
      cases z : tkB kd 3 Z
      · rfl
      · exact absurd ⟨e, z⟩ hn
    have f2 := take_f (pl := pl) e2
    rw [tg] at f2
    rw [if_pos e, tg]
    have ne : (c = 6) = False := eq_false (by omega)
    simp (config := { decide := true, maxDischargeDepth := 20 }) only [↓reduceIte, KV_i, KV_v, wsm_0, wsm_i, wsm_l, wsm_r, dlV_i, dlV_r, dlV_l, dlV_j, cat_i, cat_l, cat_r, rf_s, true_and, and_true, and_self, if_true, if_false, ite_true, ite_false, eq_self, true_or, or_true, false_or, or_false, not_true_eq_false, not_false_eq_true, vn_0_45, vn_1_45, vn_2_45, vn_3_45, vn_4_45, vn_5_45, vn_6_45, vn_7_45, vn_8_45, vn_36_48, vn_37_48, vn_38_48, vn_39_48, vn_40_48, vn_41_48, vn_42_48, vn_43_48, vn_44_48, vn_0_9, vn_1_9, vn_2_9, vn_3_9, vn_4_9, vn_5_9, vn_6_9, vn_7_9, vn_8_9, vn_0_3, vn_1_3, vn_2_3, vn_0_4, vn_1_4, vn_2_4, vn_3_4, vn_0_64, vn_0_16, vn_0_400, vn_0_6, vn_0_14, Int32.reduceToNatClampNeg, Int32.reduceAdd, Int32.reduceSub, Int32.reduceMul, Int32.reduceLE, Int32.reduceLT, Nat.reduceAdd, nr_2, nr_30, nr_31, rd_2, rd_14, rd_71, rd_72, rd_101, rd_116, rd_121, up2_s, up2_n, upr_s, upr_n, ne_eq, not_false_eq_true, ob_70, rx_70_1, rx_70_3, rx_70_5, rx_70_6, rx_70_7, rx_70_8, rx_70_9, rx_70_21, rx_70_22, rx_70_23, rx_70_24, rx_70_25, rx_70_26, rx_70_27, rx_70_28, rx_70_29, rx_70_30, rx_70_31, rx_70_32, rx_70_33, rx_70_34, rx_70_35, rx_70_36, rx_70_37, rx_70_38, rx_70_39, rx_70_40, rx_70_41, rx_70_42, rx_70_43, rx_70_45, rx_70_46, rx_70_47, rx_70_48, rx_70_49, rx_70_51, rx_70_52, rx_70_53, rx_70_55, rx_70_56, rx_70_58, rx_70_59, rx_70_60, rx_70_61, rx_70_63, rx_70_64, rx_70_65, rx_70_70, rx_70_71, rx_70_72, rx_70_73, rx_70_74, r159_0, r159_1, r159_4, r159_5, r159_8, r159_68, r159_69, r159_70, r159_73, r159_74, r159_77, r159_78, r159_80, r159_83, r159_84, r159_87, r159_90, r159_91, r159_94, r159_97, r159_98, r159_99, r159_102, r159_103, r159_106, r159_107, r159_109, r159_112, r159_113, r159_116, r159_119, r159_120, r159_123, r159_126, r159_127, r159_128, r159_131, r159_132, r159_135, r159_136, r159_138, r159_141, r159_142, r159_145, r159_148, r159_149, r159_152, r159_155, r159_156, r159_157, r159_160, r159_161, r159_164, r159_165, r159_167, r159_170, r159_171, r159_174, r159_177, r159_178, r159_181, r159_184, r159_185, r159_186, r159_189, r159_190, r159_193, r159_194, r159_195, r159_198, r159_199, r159_202, r159_205, r159_206, r159_209, r159_212, r159_213, r159_214, r159_217, r159_218, r159_221, r159_222, r159_223, r159_226, r159_227, r159_230, r159_233, r159_234, r159_237, r159_240, r159_241, r159_244, r159_245, r159_248, r159_249, r159_252, r159_253, r159_254, r159_257, r159_260, r159_261, r159_262, r159_263, r159_266, r159_269, r159_270, r159_273, r159_274, r159_277, r159_278, r159_280, r159_281, r159_282, r159_283, r159_286, r159_287, r159_290, r159_291, r159_294, r159_295, r159_297, r159_300, r159_301, r159_302, r159_305, r159_306, r159_309, r159_312, r159_313, r159_314, r159_317, r159_318, r159_319, r159_322, r159_9, tg_73, ln_73, tg_91, ln_91, wm_11, wm_13, wm_14, wm_15, wm_16, wm_4, wm_12, wm_18, wm_19, wm_20, wm_44, wm_50, wm_54, wm_n, wm_up, wm_u11, wm_u13, wm_u14, wm_u15, wm_u16, wm_u12, wm_u18, wm_u19, wm_u20, wm_u44, wm_u50, wm_u54, m_room_6 hT, h3, h4, h19, hc, hg, h0, c1, ne, x1, x2, w1, w2, y3, f2]
  · rw [if_neg e]
    have ne : (c = 6) = True := eq_true (by omega)
    have f2 : (stopP pl 2 Z).2.1 ≠ 0 := stop_n0 (by decide) h0
    simp (config := { decide := true, maxDischargeDepth := 20 }) only [↓reduceIte, KV_i, KV_v, wsm_0, wsm_i, wsm_l, wsm_r, dlV_i, dlV_r, dlV_l, dlV_j, cat_i, cat_l, cat_r, rf_s, true_and, and_true, and_self, if_true, if_false, ite_true, ite_false, eq_self, true_or, or_true, false_or, or_false, not_true_eq_false, not_false_eq_true, vn_0_45, vn_1_45, vn_2_45, vn_3_45, vn_4_45, vn_5_45, vn_6_45, vn_7_45, vn_8_45, vn_36_48, vn_37_48, vn_38_48, vn_39_48, vn_40_48, vn_41_48, vn_42_48, vn_43_48, vn_44_48, vn_0_9, vn_1_9, vn_2_9, vn_3_9, vn_4_9, vn_5_9, vn_6_9, vn_7_9, vn_8_9, vn_0_3, vn_1_3, vn_2_3, vn_0_4, vn_1_4, vn_2_4, vn_3_4, vn_0_64, vn_0_16, vn_0_400, vn_0_6, vn_0_14, Int32.reduceToNatClampNeg, Int32.reduceAdd, Int32.reduceSub, Int32.reduceMul, Int32.reduceLE, Int32.reduceLT, Nat.reduceAdd, nr_2, nr_30, nr_31, rd_2, rd_14, rd_71, rd_72, rd_101, rd_116, rd_121, up2_s, up2_n, upr_s, upr_n, ne_eq, not_false_eq_true, ob_70, rx_70_1, rx_70_3, rx_70_5, rx_70_6, rx_70_7, rx_70_8, rx_70_9, rx_70_21, rx_70_22, rx_70_23, rx_70_24, rx_70_25, rx_70_26, rx_70_27, rx_70_28, rx_70_29, rx_70_30, rx_70_31, rx_70_32, rx_70_33, rx_70_34, rx_70_35, rx_70_36, rx_70_37, rx_70_38, rx_70_39, rx_70_40, rx_70_41, rx_70_42, rx_70_43, rx_70_45, rx_70_46, rx_70_47, rx_70_48, rx_70_49, rx_70_51, rx_70_52, rx_70_53, rx_70_55, rx_70_56, rx_70_58, rx_70_59, rx_70_60, rx_70_61, rx_70_63, rx_70_64, rx_70_65, rx_70_70, rx_70_71, rx_70_72, rx_70_73, rx_70_74, r159_0, r159_1, r159_4, r159_5, r159_8, r159_68, r159_69, r159_70, r159_73, r159_74, r159_77, r159_78, r159_80, r159_83, r159_84, r159_87, r159_90, r159_91, r159_94, r159_97, r159_98, r159_99, r159_102, r159_103, r159_106, r159_107, r159_109, r159_112, r159_113, r159_116, r159_119, r159_120, r159_123, r159_126, r159_127, r159_128, r159_131, r159_132, r159_135, r159_136, r159_138, r159_141, r159_142, r159_145, r159_148, r159_149, r159_152, r159_155, r159_156, r159_157, r159_160, r159_161, r159_164, r159_165, r159_167, r159_170, r159_171, r159_174, r159_177, r159_178, r159_181, r159_184, r159_185, r159_186, r159_189, r159_190, r159_193, r159_194, r159_195, r159_198, r159_199, r159_202, r159_205, r159_206, r159_209, r159_212, r159_213, r159_214, r159_217, r159_218, r159_221, r159_222, r159_223, r159_226, r159_227, r159_230, r159_233, r159_234, r159_237, r159_240, r159_241, r159_244, r159_245, r159_248, r159_249, r159_252, r159_253, r159_254, r159_257, r159_260, r159_261, r159_262, r159_263, r159_266, r159_269, r159_270, r159_273, r159_274, r159_277, r159_278, r159_280, r159_281, r159_282, r159_283, r159_286, r159_287, r159_290, r159_291, r159_294, r159_295, r159_297, r159_300, r159_301, r159_302, r159_305, r159_306, r159_309, r159_312, r159_313, r159_314, r159_317, r159_318, r159_319, r159_322, r159_9, tg_73, ln_73, tg_91, ln_91, wm_11, wm_13, wm_14, wm_15, wm_16, wm_4, wm_12, wm_18, wm_19, wm_20, wm_44, wm_50, wm_54, wm_n, wm_up, wm_u11, wm_u13, wm_u14, wm_u15, wm_u16, wm_u12, wm_u18, wm_u19, wm_u20, wm_u44, wm_u50, wm_u54, m_room_6 hT, h3, h4, h19, hc, hg, h0, c1, ne, x1, x2, w1, w2, y3, f2]
theorem m_no_Court {t : Nat} {u : Option Nat} {J : AI} {M : AL} {Q : PQ} {Z : PS} {kd pl vl mv : Nat → Nat} {n : Nat} {K3 K4 K5 : Nat → Int32} {K6 : Nat → Int64} (hT : TMR kd pl vl mv n K3 K4 K5 K6) (h3 : J 73 = K3) (h4 : J 74 = K4) {sd c : Nat} (hd : sd ≤ 1) (h19 : J 70 19 = nI sd) (hc : J 94 sd = nI c) (hl : c ≤ 5) (hg : GS n Z) (h0 : Z.2.1 = 0) (hq : kd Z.1 = 4) (hn : ¬ (c < 5 ∧ tkB kd 4 Z = true)) : V 159 0 [.ref 70, .retAddr 0] [] 123 (wm J Z) M (RX t u) Q = Q none 123 (wm J (if c < 5 then takeP kd pl 4 Z else stopP pl 2 Z)) M (RX t u) := by
  have t1 := hT.1
  have hx := hg.1
  have x1 := inT (a := Z.1) (N := 403) (by omega) (by decide)
  have x2 := nI_clamp (n := Z.1) (by omega)
  have w1 := inT (a := sd) (N := 2) (by omega) (by decide)
  have w2 := nI_clamp (n := sd) (by omega)
  have y3 : K3 Z.1 = 24 := by rw [(hT.2.1 Z.1 hx).1, hq]; rfl
  have c1 : c < 100 := by omega
  have tg : takeP kd pl 4 Z = goP pl Z := by rw [take_is, if_pos (by unfold isP; rw [decide_eq_true h0, decide_eq_true hq]; rfl)]
  by_cases e : c < 5
  · have e2 : tkB kd 4 Z = false := by
      cases z : tkB kd 4 Z
      · rfl
      · exact absurd ⟨e, z⟩ hn
    have f2 := take_f (pl := pl) e2
    rw [tg] at f2
    rw [if_pos e, tg]
    have ne : (c = 5) = False := eq_false (by omega)
    simp (config := { decide := true, maxDischargeDepth := 20 }) only [↓reduceIte, KV_i, KV_v, wsm_0, wsm_i, wsm_l, wsm_r, dlV_i, dlV_r, dlV_l, dlV_j, cat_i, cat_l, cat_r, rf_s, true_and, and_true, and_self, if_true, if_false, ite_true, ite_false, eq_self, true_or, or_true, false_or, or_false, not_true_eq_false, not_false_eq_true, vn_0_45, vn_1_45, vn_2_45, vn_3_45, vn_4_45, vn_5_45, vn_6_45, vn_7_45, vn_8_45, vn_36_48, vn_37_48, vn_38_48, vn_39_48, vn_40_48, vn_41_48, vn_42_48, vn_43_48, vn_44_48, vn_0_9, vn_1_9, vn_2_9, vn_3_9, vn_4_9, vn_5_9, vn_6_9, vn_7_9, vn_8_9, vn_0_3, vn_1_3, vn_2_3, vn_0_4, vn_1_4, vn_2_4, vn_3_4, vn_0_64, vn_0_16, vn_0_400, vn_0_6, vn_0_14, Int32.reduceToNatClampNeg, Int32.reduceAdd, Int32.reduceSub, Int32.reduceMul, Int32.reduceLE, Int32.reduceLT, Nat.reduceAdd, nr_2, nr_30, nr_31, rd_2, rd_14, rd_71, rd_72, rd_101, rd_116, rd_121, up2_s, up2_n, upr_s, upr_n, ne_eq, not_false_eq_true, ob_70, rx_70_1, rx_70_3, rx_70_5, rx_70_6, rx_70_7, rx_70_8, rx_70_9, rx_70_21, rx_70_22, rx_70_23, rx_70_24, rx_70_25, rx_70_26, rx_70_27, rx_70_28, rx_70_29, rx_70_30, rx_70_31, rx_70_32, rx_70_33, rx_70_34, rx_70_35, rx_70_36, rx_70_37, rx_70_38, rx_70_39, rx_70_40, rx_70_41, rx_70_42, rx_70_43, rx_70_45, rx_70_46, rx_70_47, rx_70_48, rx_70_49, rx_70_51, rx_70_52, rx_70_53, rx_70_55, rx_70_56, rx_70_58, rx_70_59, rx_70_60, rx_70_61, rx_70_63, rx_70_64, rx_70_65, rx_70_70, rx_70_71, rx_70_72, rx_70_73, rx_70_74, r159_0, r159_1, r159_4, r159_5, r159_8, r159_68, r159_69, r159_70, r159_73, r159_74, r159_77, r159_78, r159_80, r159_83, r159_84, r159_87, r159_90, r159_91, r159_94, r159_97, r159_98, r159_99, r159_102, r159_103, r159_106, r159_107, r159_109, r159_112, r159_113, r159_116, r159_119, r159_120, r159_123, r159_126, r159_127, r159_128, r159_131, r159_132, r159_135, r159_136, r159_138, r159_141, r159_142, r159_145, r159_148, r159_149, r159_152, r159_155, r159_156, r159_157, r159_160, r159_161, r159_164, r159_165, r159_167, r159_170, r159_171, r159_174, r159_177, r159_178, r159_181, r159_184, r159_185, r159_186, r159_189, r159_190, r159_193, r159_194, r159_195, r159_198, r159_199, r159_202, r159_205, r159_206, r159_209, r159_212, r159_213, r159_214, r159_217, r159_218, r159_221, r159_222, r159_223, r159_226, r159_227, r159_230, r159_233, r159_234, r159_237, r159_240, r159_241, r159_244, r159_245, r159_248, r159_249, r159_252, r159_253, r159_254, r159_257, r159_260, r159_261, r159_262, r159_263, r159_266, r159_269, r159_270, r159_273, r159_274, r159_277, r159_278, r159_280, r159_281, r159_282, r159_283, r159_286, r159_287, r159_290, r159_291, r159_294, r159_295, r159_297, r159_300, r159_301, r159_302, r159_305, r159_306, r159_309, r159_312, r159_313, r159_314, r159_317, r159_318, r159_319, r159_322, r159_9, tg_73, ln_73, tg_94, ln_94, wm_11, wm_13, wm_14, wm_15, wm_16, wm_4, wm_12, wm_18, wm_19, wm_20, wm_44, wm_50, wm_54, wm_n, wm_up, wm_u11, wm_u13, wm_u14, wm_u15, wm_u16, wm_u12, wm_u18, wm_u19, wm_u20, wm_u44, wm_u50, wm_u54, m_room_5 hT, h3, h4, h19, hc, hg, h0, c1, ne, x1, x2, w1, w2, y3, f2]
  · rw [if_neg e]
    have ne : (c = 5) = True := eq_true (by omega)
    have f2 : (stopP pl 2 Z).2.1 ≠ 0 := stop_n0 (by decide) h0
    simp (config := { decide := true, maxDischargeDepth := 20 }) only [↓reduceIte, KV_i, KV_v, wsm_0, wsm_i, wsm_l, wsm_r, dlV_i, dlV_r, dlV_l, dlV_j, cat_i, cat_l, cat_r, rf_s, true_and, and_true, and_self, if_true, if_false, ite_true, ite_false, eq_self, true_or, or_true, false_or, or_false, not_true_eq_false, not_false_eq_true, vn_0_45, vn_1_45, vn_2_45, vn_3_45, vn_4_45, vn_5_45, vn_6_45, vn_7_45, vn_8_45, vn_36_48, vn_37_48, vn_38_48, vn_39_48, vn_40_48, vn_41_48, vn_42_48, vn_43_48, vn_44_48, vn_0_9, vn_1_9, vn_2_9, vn_3_9, vn_4_9, vn_5_9, vn_6_9, vn_7_9, vn_8_9, vn_0_3, vn_1_3, vn_2_3, vn_0_4, vn_1_4, vn_2_4, vn_3_4, vn_0_64, vn_0_16, vn_0_400, vn_0_6, vn_0_14, Int32.reduceToNatClampNeg, Int32.reduceAdd, Int32.reduceSub, Int32.reduceMul, Int32.reduceLE, Int32.reduceLT, Nat.reduceAdd, nr_2, nr_30, nr_31, rd_2, rd_14, rd_71, rd_72, rd_101, rd_116, rd_121, up2_s, up2_n, upr_s, upr_n, ne_eq, not_false_eq_true, ob_70, rx_70_1, rx_70_3, rx_70_5, rx_70_6, rx_70_7, rx_70_8, rx_70_9, rx_70_21, rx_70_22, rx_70_23, rx_70_24, rx_70_25, rx_70_26, rx_70_27, rx_70_28, rx_70_29, rx_70_30, rx_70_31, rx_70_32, rx_70_33, rx_70_34, rx_70_35, rx_70_36, rx_70_37, rx_70_38, rx_70_39, rx_70_40, rx_70_41, rx_70_42, rx_70_43, rx_70_45, rx_70_46, rx_70_47, rx_70_48, rx_70_49, rx_70_51, rx_70_52, rx_70_53, rx_70_55, rx_70_56, rx_70_58, rx_70_59, rx_70_60, rx_70_61, rx_70_63, rx_70_64, rx_70_65, rx_70_70, rx_70_71, rx_70_72, rx_70_73, rx_70_74, r159_0, r159_1, r159_4, r159_5, r159_8, r159_68, r159_69, r159_70, r159_73, r159_74, r159_77, r159_78, r159_80, r159_83, r159_84, r159_87, r159_90, r159_91, r159_94, r159_97, r159_98, r159_99, r159_102, r159_103, r159_106, r159_107, r159_109, r159_112, r159_113, r159_116, r159_119, r159_120, r159_123, r159_126, r159_127, r159_128, r159_131, r159_132, r159_135, r159_136, r159_138, r159_141, r159_142, r159_145, r159_148, r159_149, r159_152, r159_155, r159_156, r159_157, r159_160, r159_161, r159_164, r159_165, r159_167, r159_170, r159_171, r159_174, r159_177, r159_178, r159_181, r159_184, r159_185, r159_186, r159_189, r159_190, r159_193, r159_194, r159_195, r159_198, r159_199, r159_202, r159_205, r159_206, r159_209, r159_212, r159_213, r159_214, r159_217, r159_218, r159_221, r159_222, r159_223, r159_226, r159_227, r159_230, r159_233, r159_234, r159_237, r159_240, r159_241, r159_244, r159_245, r159_248, r159_249, r159_252, r159_253, r159_254, r159_257, r159_260, r159_261, r159_262, r159_263, r159_266, r159_269, r159_270, r159_273, r159_274, r159_277, r159_278, r159_280, r159_281, r159_282, r159_283, r159_286, r159_287, r159_290, r159_291, r159_294, r159_295, r159_297, r159_300, r159_301, r159_302, r159_305, r159_306, r159_309, r159_312, r159_313, r159_314, r159_317, r159_318, r159_319, r159_322, r159_9, tg_73, ln_73, tg_94, ln_94, wm_11, wm_13, wm_14, wm_15, wm_16, wm_4, wm_12, wm_18, wm_19, wm_20, wm_44, wm_50, wm_54, wm_n, wm_up, wm_u11, wm_u13, wm_u14, wm_u15, wm_u16, wm_u12, wm_u18, wm_u19, wm_u20, wm_u44, wm_u50, wm_u54, m_room_5 hT, h3, h4, h19, hc, hg, h0, c1, ne, x1, x2, w1, w2, y3, f2]
theorem m_no_Die {t : Nat} {u : Option Nat} {J : AI} {M : AL} {Q : PQ} {Z : PS} {kd pl vl mv : Nat → Nat} {n : Nat} {K3 K4 K5 : Nat → Int32} {K6 : Nat → Int64} (hT : TMR kd pl vl mv n K3 K4 K5 K6) (h3 : J 73 = K3) (h4 : J 74 = K4) {sd c : Nat} (hd : sd ≤ 1) (h19 : J 70 19 = nI sd) (hc : J 96 sd = nI c) (hl : c ≤ 4) (hg : GS n Z) (h0 : Z.2.1 = 0) (hq : kd Z.1 = 5) (hn : ¬ (c < 4 ∧ tkB kd 5 Z = true)) : V 159 0 [.ref 70, .retAddr 0] [] 123 (wm J Z) M (RX t u) Q = Q none 123 (wm J (if c < 4 then takeP kd pl 5 Z else stopP pl 2 Z)) M (RX t u) := by
  have t1 := hT.1
  have hx := hg.1
  have x1 := inT (a := Z.1) (N := 403) (by omega) (by decide)
  have x2 := nI_clamp (n := Z.1) (by omega)
  have w1 := inT (a := sd) (N := 2) (by omega) (by decide)
  have w2 := nI_clamp (n := sd) (by omega)
  have y3 : K3 Z.1 = 25 := by rw [(hT.2.1 Z.1 hx).1, hq]; rfl
  have c1 : c < 100 := by omega
  have tg : takeP kd pl 5 Z = goP pl Z := by rw [take_is, if_pos (by unfold isP; rw [decide_eq_true h0, decide_eq_true hq]; rfl)]
  by_cases e : c < 4
  · have e2 : tkB kd 5 Z = false := by
      cases z : tkB kd 5 Z
      · rfl
      · exact absurd ⟨e, z⟩ hn
    have f2 := take_f (pl := pl) e2
    rw [tg] at f2
    rw [if_pos e, tg]
    have ne : (c = 4) = False := eq_false (by omega)
    simp (config := { decide := true, maxDischargeDepth := 20 }) only [↓reduceIte, KV_i, KV_v, wsm_0, wsm_i, wsm_l, wsm_r, dlV_i, dlV_r, dlV_l, dlV_j, cat_i, cat_l, cat_r, rf_s, true_and, and_true, and_self, if_true, if_false, ite_true, ite_false, eq_self, true_or, or_true, false_or, or_false, not_true_eq_false, not_false_eq_true, vn_0_45, vn_1_45, vn_2_45, vn_3_45, vn_4_45, vn_5_45, vn_6_45, vn_7_45, vn_8_45, vn_36_48, vn_37_48, vn_38_48, vn_39_48, vn_40_48, vn_41_48, vn_42_48, vn_43_48, vn_44_48, vn_0_9, vn_1_9, vn_2_9, vn_3_9, vn_4_9, vn_5_9, vn_6_9, vn_7_9, vn_8_9, vn_0_3, vn_1_3, vn_2_3, vn_0_4, vn_1_4, vn_2_4, vn_3_4, vn_0_64, vn_0_16, vn_0_400, vn_0_6, vn_0_14, Int32.reduceToNatClampNeg, Int32.reduceAdd, Int32.reduceSub, Int32.reduceMul, Int32.reduceLE, Int32.reduceLT, Nat.reduceAdd, nr_2, nr_30, nr_31, rd_2, rd_14, rd_71, rd_72, rd_101, rd_116, rd_121, up2_s, up2_n, upr_s, upr_n, ne_eq, not_false_eq_true, ob_70, rx_70_1, rx_70_3, rx_70_5, rx_70_6, rx_70_7, rx_70_8, rx_70_9, rx_70_21, rx_70_22, rx_70_23, rx_70_24, rx_70_25, rx_70_26, rx_70_27, rx_70_28, rx_70_29, rx_70_30, rx_70_31, rx_70_32, rx_70_33, rx_70_34, rx_70_35, rx_70_36, rx_70_37, rx_70_38, rx_70_39, rx_70_40, rx_70_41, rx_70_42, rx_70_43, rx_70_45, rx_70_46, rx_70_47, rx_70_48, rx_70_49, rx_70_51, rx_70_52, rx_70_53, rx_70_55, rx_70_56, rx_70_58, rx_70_59, rx_70_60, rx_70_61, rx_70_63, rx_70_64, rx_70_65, rx_70_70, rx_70_71, rx_70_72, rx_70_73, rx_70_74, r159_0, r159_1, r159_4, r159_5, r159_8, r159_68, r159_69, r159_70, r159_73, r159_74, r159_77, r159_78, r159_80, r159_83, r159_84, r159_87, r159_90, r159_91, r159_94, r159_97, r159_98, r159_99, r159_102, r159_103, r159_106, r159_107, r159_109, r159_112, r159_113, r159_116, r159_119, r159_120, r159_123, r159_126, r159_127, r159_128, r159_131, r159_132, r159_135, r159_136, r159_138, r159_141, r159_142, r159_145, r159_148, r159_149, r159_152, r159_155, r159_156, r159_157, r159_160, r159_161, r159_164, r159_165, r159_167, r159_170, r159_171, r159_174, r159_177, r159_178, r159_181, r159_184, r159_185, r159_186, r159_189, r159_190, r159_193, r159_194, r159_195, r159_198, r159_199, r159_202, r159_205, r159_206, r159_209, r159_212, r159_213, r159_214, r159_217, r159_218, r159_221, r159_222, r159_223, r159_226, r159_227, r159_230, r159_233, r159_234, r159_237, r159_240, r159_241, r159_244, r159_245, r159_248, r159_249, r159_252, r159_253, r159_254, r159_257, r159_260, r159_261, r159_262, r159_263, r159_266, r159_269, r159_270, r159_273, r159_274, r159_277, r159_278, r159_280, r159_281, r159_282, r159_283, r159_286, r159_287, r159_290, r159_291, r159_294, r159_295, r159_297, r159_300, r159_301, r159_302, r159_305, r159_306, r159_309, r159_312, r159_313, r159_314, r159_317, r159_318, r159_319, r159_322, r159_9, tg_73, ln_73, tg_96, ln_96, wm_11, wm_13, wm_14, wm_15, wm_16, wm_4, wm_12, wm_18, wm_19, wm_20, wm_44, wm_50, wm_54, wm_n, wm_up, wm_u11, wm_u13, wm_u14, wm_u15, wm_u16, wm_u12, wm_u18, wm_u19, wm_u20, wm_u44, wm_u50, wm_u54, m_room_4 hT, h3, h4, h19, hc, hg, h0, c1, ne, x1, x2, w1, w2, y3, f2]
  · rw [if_neg e]
    have ne : (c = 4) = True := eq_true (by omega)
    have f2 : (stopP pl 2 Z).2.1 ≠ 0 := stop_n0 (by decide) h0
    simp (config := { decide := true, maxDischargeDepth := 20 }) only [↓reduceIte, KV_i, KV_v, wsm_0, wsm_i, wsm_l, wsm_r, dlV_i, dlV_r, dlV_l, dlV_j, cat_i, cat_l, cat_r, rf_s, true_and, and_true, and_self, if_true, if_false, ite_true, ite_false, eq_self, true_or, or_true, false_or, or_false, not_true_eq_false, not_false_eq_true, vn_0_45, vn_1_45, vn_2_45, vn_3_45, vn_4_45, vn_5_45, vn_6_45, vn_7_45, vn_8_45, vn_36_48, vn_37_48, vn_38_48, vn_39_48, vn_40_48, vn_41_48, vn_42_48, vn_43_48, vn_44_48, vn_0_9, vn_1_9, vn_2_9, vn_3_9, vn_4_9, vn_5_9, vn_6_9, vn_7_9, vn_8_9, vn_0_3, vn_1_3, vn_2_3, vn_0_4, vn_1_4, vn_2_4, vn_3_4, vn_0_64, vn_0_16, vn_0_400, vn_0_6, vn_0_14, Int32.reduceToNatClampNeg, Int32.reduceAdd, Int32.reduceSub, Int32.reduceMul, Int32.reduceLE, Int32.reduceLT, Nat.reduceAdd, nr_2, nr_30, nr_31, rd_2, rd_14, rd_71, rd_72, rd_101, rd_116, rd_121, up2_s, up2_n, upr_s, upr_n, ne_eq, not_false_eq_true, ob_70, rx_70_1, rx_70_3, rx_70_5, rx_70_6, rx_70_7, rx_70_8, rx_70_9, rx_70_21, rx_70_22, rx_70_23, rx_70_24, rx_70_25, rx_70_26, rx_70_27, rx_70_28, rx_70_29, rx_70_30, rx_70_31, rx_70_32, rx_70_33, rx_70_34, rx_70_35, rx_70_36, rx_70_37, rx_70_38, rx_70_39, rx_70_40, rx_70_41, rx_70_42, rx_70_43, rx_70_45, rx_70_46, rx_70_47, rx_70_48, rx_70_49, rx_70_51, rx_70_52, rx_70_53, rx_70_55, rx_70_56, rx_70_58, rx_70_59, rx_70_60, rx_70_61, rx_70_63, rx_70_64, rx_70_65, rx_70_70, rx_70_71, rx_70_72, rx_70_73, rx_70_74, r159_0, r159_1, r159_4, r159_5, r159_8, r159_68, r159_69, r159_70, r159_73, r159_74, r159_77, r159_78, r159_80, r159_83, r159_84, r159_87, r159_90, r159_91, r159_94, r159_97, r159_98, r159_99, r159_102, r159_103, r159_106, r159_107, r159_109, r159_112, r159_113, r159_116, r159_119, r159_120, r159_123, r159_126, r159_127, r159_128, r159_131, r159_132, r159_135, r159_136, r159_138, r159_141, r159_142, r159_145, r159_148, r159_149, r159_152, r159_155, r159_156, r159_157, r159_160, r159_161, r159_164, r159_165, r159_167, r159_170, r159_171, r159_174, r159_177, r159_178, r159_181, r159_184, r159_185, r159_186, r159_189, r159_190, r159_193, r159_194, r159_195, r159_198, r159_199, r159_202, r159_205, r159_206, r159_209, r159_212, r159_213, r159_214, r159_217, r159_218, r159_221, r159_222, r159_223, r159_226, r159_227, r159_230, r159_233, r159_234, r159_237, r159_240, r159_241, r159_244, r159_245, r159_248, r159_249, r159_252, r159_253, r159_254, r159_257, r159_260, r159_261, r159_262, r159_263, r159_266, r159_269, r159_270, r159_273, r159_274, r159_277, r159_278, r159_280, r159_281, r159_282, r159_283, r159_286, r159_287, r159_290, r159_291, r159_294, r159_295, r159_297, r159_300, r159_301, r159_302, r159_305, r159_306, r159_309, r159_312, r159_313, r159_314, r159_317, r159_318, r159_319, r159_322, r159_9, tg_73, ln_73, tg_96, ln_96, wm_11, wm_13, wm_14, wm_15, wm_16, wm_4, wm_12, wm_18, wm_19, wm_20, wm_44, wm_50, wm_54, wm_n, wm_up, wm_u11, wm_u13, wm_u14, wm_u15, wm_u16, wm_u12, wm_u18, wm_u19, wm_u20, wm_u44, wm_u50, wm_u54, m_room_4 hT, h3, h4, h19, hc, hg, h0, c1, ne, x1, x2, w1, w2, y3, f2]
theorem st_no {kd pl vl mv : Nat → Nat} {n : Nat} {K3 K4 : Nat → Int32} {K5 : Nat → Int64} {M3 M4 M5 : Nat → Int32} {M6 : Nat → Int64} (hT : TOK kd pl vl mv n K3 K4 K5 M3 M4 M5 M6) {s sd : Nat} {c so nu : Nat → Nat} {len : Nat} {Bs : Nat → List (Cd × Cd × Cd)} {Es : Nat → Cd} {I : AI} {L : AL} {S : PS} (hx : S.1 ≤ n) (e0 : S.2.1 = 0) (hbn : BND pl S) {k q lim : Nat} (hk : k < 5) (hq34 : q < 34) (hq : kd S.1 = q) (hn : ¬ (c k < lim ∧ tkB kd q S = true))
  (hm : ∀ (t : Nat) (u : Option Nat) (J : AI) (M : AL) (Z : PS) (Q : PQ), J 73 = M3 → J 74 = M4 → J 70 19 = nI sd → J (rwN k) sd = nI (c k) → GS n Z → Z.2.1 = 0 → kd Z.1 = q → ¬ (c k < lim ∧ tkB kd q Z = true) → V 159 0 [.ref 70, .retAddr 0] [] 123 (wm J Z) M (RX t u) Q = Q none 123 (wm J (if c k < lim then takeP kd pl q Z else stopP pl 2 Z)) M (RX t u)) : STL kd pl vl mv n K3 K4 K5 M3 M4 M5 M6 s sd c so nu Bs Es I L S I L (if c k < lim then takeP kd pl q S else stopP pl 2 S) := by
  have hf : (if c k < lim then takeP kd pl q S else stopP pl 2 S).2.1 ≠ 0 := by
    by_cases e : c k < lim
    · rw [if_pos e]
      refine take_f ?_
      cases z : tkB kd q S
      · rfl
      · exact absurd ⟨e, z⟩ hn
    · rw [if_neg e]; exact stop_n0 (by decide) e0
  refine ⟨?_, ?_, FRC_r _ _ _, c, so, nu, 0, Bs, Es, fun f => absurd f hf, fun t u J M Z Q hSE hg hM hCl hQ => ?_⟩
  · by_cases e : c k < lim
    · rw [if_pos e]; exact take_le hT.1 hq34 hx
    · rw [if_neg e, stop_x]; exact hx
  · by_cases e : c k < lim
    · rw [if_pos e]; exact BND_take hbn
    · rw [if_neg e]; exact BND_stop (by decide) hbn
  · have ez : Z.2.1 = 0 := by rw [← hSE.1]; exact e0
    have xz : Z.1 = S.1 := (hSE.2.2 e0).1.symm
    obtain ⟨⟨a3, a4, a5, a6⟩, ⟨b0, b1, b2, b3, b4⟩, ⟨c19, c20⟩, _, _, _⟩ := hM
    have hc : J (rwN k) sd = nI (c k) := by
      have h5 : k = 0 ∨ k = 1 ∨ k = 2 ∨ k = 3 ∨ k = 4 := by omega
      rcases h5 with rfl | rfl | rfl | rfl | rfl <;> assumption
    rw [hm t u J M Z Q a3 a4 c19 hc hg ez (by rw [xz]; exact hq) (by rw [← tkB_e hSE]; exact hn)]
    refine hQ J M _ ?_ ?_ (FRM_r _ _) (fun _ _ _ => rfl) (fun f => absurd f hf)
    · by_cases e : c k < lim
      · rw [if_pos e, if_pos e]; exact SE_take hSE
      · rw [if_neg e, if_neg e]; exact SE_stop (by decide) hSE
    · by_cases e : c k < lim
      · rw [if_pos e]; exact GS_take hT.2.1 hq34 hg
      · rw [if_neg e]; exact GS_stop (Or.inr rfl) hg
