/-! what a question may leave behind -/
def SCR (t a : Nat) : Prop := (18 ≤ a ∧ a ≤ 28) ∨ a = t + 16 ∨ a = t + 17 ∨ (108 ≤ a ∧ a ≤ 110) ∨ (112 ≤ a ∧ a ≤ 114) ∨ a = 116 ∨ a = 117
def FR (t : Nat) (I J : AI) : Prop := (∀ a, ¬ SCR t a → a ≠ 70 → J a = I a) ∧ ∀ k, k < 57 ∨ k = 62 ∨ 69 ≤ k → J 70 k = I 70 k
def FL (L M : AL) : Prop := ∀ a, a ≠ 21 → a ≠ 22 → a ≠ 28 → M a = L a
theorem FR_r (t : Nat) (I : AI) : FR t I I := ⟨fun _ _ _ => rfl, fun _ _ => rfl⟩
theorem FL_r (L : AL) : FL L L := fun _ _ _ _ => rfl
theorem FR_t {t : Nat} {I J K : AI} (h : FR t I J) (h2 : FR t J K) : FR t I K := ⟨fun a ha hb => by rw [h2.1 a ha hb, h.1 a ha hb], fun k hk => by rw [h2.2 k hk, h.2 k hk]⟩
theorem FL_t {L M N : AL} (h : FL L M) (h2 : FL M N) : FL L N := fun a h3 h4 h5 => by rw [h2 a h3 h4 h5, h a h3 h4 h5]
theorem FR_u {t : Nat} {I J : AI} (h : FR t I J) {a : Nat} (ha : SCR t a) (h70 : a ≠ 70) (S : Nat → Int32) : FR t I (upr J a S) := by
  refine ⟨fun b hb h7 => ?_, fun k hk => ?_⟩
  · rw [upr_n (show b ≠ a from fun q => hb (by rw [q]; exact ha))]; exact h.1 b hb h7
  · rw [upr_n (Ne.symm h70)]; exact h.2 k hk
theorem FR_2 {t : Nat} {I J : AI} (h : FR t I J) {a k : Nat} (ha : SCR t a) (h70 : a ≠ 70) (v : Int32) : FR t I (up2 J a k v) := FR_u h ha h70 _
theorem FR_70 {t : Nat} {I J : AI} (h : FR t I J) {k : Nat} (hk : ¬ (k < 57 ∨ k = 62 ∨ 69 ≤ k)) (v : Int32) : FR t I (up2 J 70 k v) := by
  refine ⟨fun b hb h7 => ?_, fun j hj => ?_⟩
  · rw [up2_n h7]; exact h.1 b hb h7
  · rw [up2_s, upr_n (show j ≠ k from fun q => hk (by rw [← q]; exact hj))]; exact h.2 j hj
theorem FL_u {L M : AL} (h : FL L M) {a : Nat} (ha : a = 21 ∨ a = 22 ∨ a = 28) (S : Nat → Int64) : FL L (upr M a S) := fun b h1 h2 h3 => by
  rw [upr_n (by omega)]; exact h b h1 h2 h3
theorem FL_2 {L M : AL} (h : FL L M) {a k : Nat} (ha : a = 21 ∨ a = 22 ∨ a = 28) (v : Int64) : FL L (up2 M a k v) := FL_u h ha _
theorem SCR_n {t a : Nat} (ht : t = 32 ∨ t = 51) (h : (t ≤ a ∧ a ≤ t + 15) ∨ a = t + 18 ∨ a ≤ 17 ∨ (29 ≤ a ∧ a ≤ 31) ∨ (70 ≤ a ∧ a ≤ 107) ∨ a = 111 ∨ a = 115 ∨ (118 ≤ a)) : ¬ SCR t a := by
  unfold SCR
  omega
theorem FR_a {t : Nat} {I J : AI} (h : FR t I J) (ht : t = 32 ∨ t = 51) {a : Nat} (ha : (t ≤ a ∧ a ≤ t + 15) ∨ a = t + 18 ∨ a ≤ 17 ∨ (29 ≤ a ∧ a ≤ 31) ∨ (71 ≤ a ∧ a ≤ 107) ∨ a = 111 ∨ a = 115 ∨ (118 ≤ a)) : J a = I a := h.1 a (SCR_n ht (by omega)) (by omega)
theorem STX_FR {t lv np nm nl nc nd : Nat} {I J : AI} {Lw : Nat → List Int32 → Int32} (h : FR t I J) (ht : t = 32 ∨ t = 51) (hS : STX I t lv np nm nl nc nd Lw) : STX J t lv np nm nl nc nd Lw := STX_c (fun a ha => FR_a h ht (by omega)) (h.2 18 (by omega)) hS
theorem DYN_FR {t np nm nl B : Nat} {I J : AI} (h : FR t I J) (ht : t = 32 ∨ t = 51) (hD : DYN I t np nm nl B) : DYN J t np nm nl B := DYN_c (fun a ha => FR_a h ht (by omega)) (h.2 62 (by omega)) hD
theorem NOWX_FR {t np nm nl B : Nat} {I J : AI} (h : FR t I J) (ht : t = 32 ∨ t = 51) (hD : NOWX I t np nm nl B) : NOWX J t np nm nl B := NOWX_c (FR_a h ht (by omega)) (FR_a h ht (by omega)) (FR_a h ht (by omega)) hD
theorem TOLD_FR {t np nm : Nat} {I J : AI} (h : FR t I J) (ht : t = 32 ∨ t = 51) (hT : TOLD I t np nm) : TOLD J t np nm := TOLD_c (fun a ha => FR_a h ht (by omega)) (by rw [FR_a h ht (by omega)]) (h.2 69 (by omega)) hT
theorem INV_FR {t B : Nat} {u : Option Nat} {I J : AI} {L M : AL} (h : FR t I J) (hL : FL L M) (hI : INV t u I L B) : INV t u J M B := by
  obtain ⟨ht, hW, hTp, hp, lv, np, nm, nl, nc, nd, Lw, hS, hD, hT⟩ := hI
  refine ⟨ht, ⟨fun j hj => ?_, fun j hj => ?_⟩, TAPE_c (FR_a h ht (by omega)) (FR_a h ht (by omega)) (by rw [FR_a h ht (by omega)]) (h.2 2 (by omega)) hTp, ?_, lv, np, nm, nl, nc, nd, Lw, STX_FR h ht hS, DYN_FR h ht hD, TOLD_FR h ht hT⟩
  · rw [hL 6 (by omega) (by omega) (by omega)]; exact hW.1 j hj
  · rw [hL 77 (by omega) (by omega) (by omega)]; exact hW.2 j hj
  · rw [h.2 17 (by omega), FR_a h ht (by omega)]; exact hp
theorem FR_ext {t : Nat} {I J : AI} (h : FR t I J) (ht : t = 32 ∨ t = 51) : J 1000 = I 1000 ∧ J 1001 = I 1001 := ⟨FR_a h ht (by omega), FR_a h ht (by omega)⟩
/-- a pair in which both only ask -/
theorem PAIR_q {y : Nat} {as : List Value} {y' : Nat} {as' : List Value} {t : Nat} {u : Option Nat} {I : AI} {L : AL} (r : Value) {B : Nat} (h : INV t u I L B)
    (h1 : ∀ Q : PQ, (∀ J M, FR t I J → FL L M → Q (some r) 123 J M (RX t u)) → V y 0 as [] 123 I L (RX t u) Q)
    (h2 : ∀ K N, FR t I K → FL L N → ∀ Q : PQ, (∀ J M, FR t I J → FL L M → Q (some r) 123 J M (RX t u)) → V y' 0 as' [] 123 K N (RX t u) Q) (hr : ∃ v, r = Value.int v := by first | exact ⟨_, rfl⟩ | ((repeat' split) <;> exact ⟨_, rfl⟩)) : PAIR y as y' as' t u I L B := by
  refine ⟨r, fun I1 L1 t1 u1 => FR t I I1 ∧ FL L L1 ∧ t = t1 ∧ u = u1, ⟨hr, fun _ _ _ _ hP => FR_ext hP.1 h.1, fun Q hQ => h1 Q (fun J M hJ hM => hQ _ _ _ _ ⟨hJ, hM, rfl, rfl⟩)⟩, ?_⟩
  rintro K N _ _ ⟨hK, hN, rfl, rfl⟩ Q hQ
  refine h2 K N hK hN Q (fun J M hJ hM => hQ _ _ _ _ (INV_up (INV_FR hJ hM h)) ?_ ?_)
  · exact (FR_ext hJ h.1).1
  · exact (FR_ext hJ h.1).2
/-! two rows written in turn -/
theorem ua1 {α : Type} (J : Nat → Nat → α) {a b : Nat} (h : a ≠ b) (S T : Nat → α) (k : Nat) (v : α) : up2 (upr (upr J a S) b T) a k v = upr (upr J a (upr S k v)) b T := by
  unfold up2
  rw [upr_n h, upr_s, upr_c _ (Ne.symm h), upr_u]
theorem ua2 {α : Type} (J : Nat → Nat → α) (b : Nat) (T : Nat → α) (k : Nat) (v : α) : up2 (upr J b T) b k v = upr J b (upr T k v) := by
  unfold up2
  rw [upr_s, upr_u]
theorem urw {α : Type} (J : Nat → Nat → α) (a : Nat) : J = upr J a (J a) := (upr_id J a).symm
theorem neF {a b : Nat} (h : a ≠ b) : (a = b) = False := eq_false h
