/-! what holds between two calls: the class's cells beside the reference's -/
/-- a MARGIN -/
def mgX (x : Int32) : Prop := -9 ≤ x.toInt ∧ x.toInt ≤ 9
/-- the text at t is as texts are -/
def TXT (I : AI) (t np nm nl nc nd : Nat) : Prop :=
  (I t 14 = nI np ∧ I t 15 = nI nm ∧ I t 16 = nI nl ∧ I t 17 = nI nc ∧ I t 18 = nI nd) ∧
  (np ≤ 14 ∧ nm ≤ 6 ∧ nl ≤ 6 ∧ nc ≤ 5 ∧ nd ≤ 4) ∧
  (∀ i, i < np → (I (t + 1) i = -2 ∧ mgX (I (t + 2) i) ∧ I (t + 3) i = 0 ∧ I (t + 4) i = 0) ∨
    ∃ sd mv dp, sd ≤ 1 ∧ 1 ≤ mv ∧ mv ≤ 3 ∧ 1 ≤ dp ∧ dp ≤ 5 ∧ I (t + 1) i = nI sd ∧ I (t + 2) i = 0 ∧ I (t + 3) i = nI mv ∧ I (t + 4) i = nI dp ∧
      ∀ m, m < mv → ∃ j sh dj, j < i ∧ sh ≤ 9 ∧ dj < dp ∧ I (t + 5) (3 * i + m) = nI j ∧ I (t + 6) (3 * i + m) = nI sh ∧ I (t + 4) j = nI dj) ∧
  (∀ a, a < nm → ∃ sk ey, sk ≤ 10 ∧ ey ≤ 9 ∧ I (t + 7) a = nI sk ∧ I (t + 8) a = nI ey) ∧
  (∀ i, i < nl → ∃ hr nd, 1 ≤ hr ∧ hr ≤ 99 ∧ nd < 2 ^ i ∧ I (t + 9) i = nI hr ∧ I (t + 10) i = nI nd) ∧
  (∀ i, i < nc → ∃ pr, pr ≤ 9 ∧ I (t + 11) i = nI pr) ∧
  (∀ i, i < 6 * nd → ∃ fc, fc ≤ 9 ∧ I (t + 12) i = nI fc) ∧
  ∃ sd, sd ≤ 9999 ∧ I t 19 = nI sd
/-- the reference's live text is that one -/
def REL (I : AI) (t lv np nm nl nc nd : Nat) : Prop :=
  (lv ≤ 1 ∧ I 70 18 = nI lv) ∧
  (I 81 lv = nI np ∧ I 88 lv = nI nm ∧ I 91 lv = nI nl ∧ I 94 lv = nI nc ∧ I 96 lv = nI nd ∧ I 98 lv = I t 19) ∧
  (∀ i, i < np → I 82 (14 * lv + i) = I (t + 1) i ∧ I 83 (14 * lv + i) = I (t + 2) i ∧ I 84 (14 * lv + i) = I (t + 3) i ∧ I 85 (14 * lv + i) = I (t + 4) i) ∧
  (∀ i m, i < np → m < 3 → m < (I (t + 3) i).toNatClampNeg → I 86 (3 * (14 * lv + i) + m) = I (t + 5) (3 * i + m) ∧ I 87 (3 * (14 * lv + i) + m) = I (t + 6) (3 * i + m)) ∧
  (∀ a, a < nm → I 89 (6 * lv + a) = I (t + 7) a ∧ I 90 (6 * lv + a) = I (t + 8) a) ∧
  (∀ i, i < nl → I 92 (6 * lv + i) = I (t + 9) i ∧ I 93 (6 * lv + i) = I (t + 10) i) ∧
  (∀ i, i < nc → I 95 (5 * lv + i) = I (t + 11) i) ∧
  (∀ i, i < 6 * nd → I 97 (24 * lv + i) = I (t + 12) i)
/-- what goes on, in the class's order: as it can be -/
def ROW (I : AI) (t np nm nl B : Nat) (N : Nat → Int32) : Prop :=
  (N 0 = -2 ∨ ∃ p a b x y, p < np ∧ a < nm ∧ b < nm ∧ a ≠ b ∧ x ≤ 2 ∧ y ≤ 2 ∧ I (t + 1) p ≠ -2 ∧ N 0 = nI p ∧ N 1 = nI a ∧ N 2 = nI b ∧ N 3 = nI x ∧ N 4 = nI y) ∧
  ∀ a, a < 6 → ∃ h c d, h < 2 ^ nl ∧ c ≤ B ∧ d ≤ B ∧ N (9 + 6 * a) = nI h ∧ N (9 + 6 * a + 3) = nI c ∧ N (9 + 6 * a + 4) = nI d
/-- a row of the reference beside one of the class -/
def RR (P N : Nat → Int32) : Prop :=
  (∀ a j, a < 6 → j < 6 → P (6 * j + a) = N (9 + 6 * a + j)) ∧ P 43 = N 7 ∧ P 44 = N 8 ∧ P 36 = N 0 ∧ (N 0 ≠ -2 → ∀ i, i < 7 → P (36 + i) = N i)
def NOWX (I : AI) (t np nm nl B : Nat) : Prop := ROW I t np nm nl B (I 13) ∧ RR (I 111) (I 13)
def PAST (I : AI) (t np nm nl B : Nat) : Prop := ∃ q k, q < 40 ∧ k ≤ 40 ∧ I 12 4 = nI q ∧ I 12 5 = nI k ∧ I 70 62 = nI k ∧
  ∀ i, i < k → ROW I t np nm nl B (fun j => I 15 (45 * ((q + 39 - i) % 40) + j)) ∧ RR (fun j => I 115 (48 * (k - 1 - i) + j)) (fun j => I 15 (45 * ((q + 39 - i) % 40) + j))
def HELD (I : AI) (t np nm nl B : Nat) : Prop := ∀ z, z < 3 → (I 14 z = 0 ∨ I 14 z = 1) ∧ I 121 z = I 14 z ∧ (I 14 z = 1 → ROW I t np nm nl B (fun j => I 16 (45 * z + j)) ∧ RR (fun j => I 122 (48 * z + j)) (fun j => I 16 (45 * z + j)))
def TOLD (I : AI) (t np nm : Nat) : Prop := ∃ w, w ≤ 5 ∧ I 0 13 = nI w ∧ I 70 69 = nI w ∧
  ∀ i, i < w → I 118 i = I 29 i ∧ I 119 i = I 30 i ∧ I 120 i = I 31 i ∧ ∃ a p m mv, a < nm ∧ p < np ∧ m < mv ∧ mv ≤ 3 ∧ I (t + 1) p ≠ -2 ∧ I (t + 3) p = nI mv ∧ I 29 i = nI a ∧ I 30 i = nI p ∧ I 31 i = nI m
/-- a byte -/
def isB (v : Int32) : Prop := v.toInt8.toInt32 = v
def TAPE (I : AI) : Prop := ∃ k, k ≤ 2000 ∧ I 1 5 = nI k ∧ I 70 2 = nI k ∧ ∀ i, i < k → I 71 i = I 2 i ∧ isB (I 2 i)
def L9 (f : Nat → Int32) : List Int32 := [f 0, f 1, f 2, f 3, f 4, f 5, f 6, f 7, f 8]
/-- what a LAW of the text at t comes to in the class: any memory that has the text's marks -/
def LAWC (I : AI) (t : Nat) (Lw : Nat → List Int32 → Int32) : Prop := ∀ (k : Nat) (J : AI) (L : AL) (v : Nat) (u : Option Nat) (Q : PQ), k < 4 → J (t + 14) 4 = I (t + 14) 4 → J (t + 15) = I (t + 15) → J (t + 18) = I (t + 18) → (∀ S, Q (some (.int (Lw k (L9 (J (t + 16)))))) 123 (upr J (t + 17) S) L (RX v u)) → V 26 0 [.ref (t + 14), .int (nI k), .retAddr 0, .retAddr 0, .retAddr 0, .retAddr 0, .retAddr 0, .retAddr 0] [] 123 J L (RX v u) Q
/-- the live half of the reference's codes -/
def HALF (lv : Nat) (I J : AI) : Prop := (∀ k, k < 4 → J 99 (4 * lv + k) = I 99 (4 * lv + k) ∧ J 100 (4 * lv + k) = I 100 (4 * lv + k)) ∧ (∀ b, b < 130 → J 101 (130 * lv + b) = I 101 (130 * lv + b) ∧ J 102 (130 * lv + b) = I 102 (130 * lv + b) ∧ J 103 (130 * lv + b) = I 103 (130 * lv + b) ∧ J 104 (130 * lv + b) = I 104 (130 * lv + b) ∧ J 105 (130 * lv + b) = I 105 (130 * lv + b)) ∧ ∀ c, c < 420 → J 106 (420 * lv + c) = I 106 (420 * lv + c) ∧ J 107 (420 * lv + c) = I 107 (420 * lv + c)
/-- and in the reference; pl: what holds if none is told, as its callers say it -/
def LAWM (I : AI) (lv : Nat) (Lw : Nat → List Int32 → Int32) : Prop := ∀ (k : Nat) (pl : Int32) (J : AI) (L : AL) (v : Nat) (u : Option Nat) (Q : PQ), k < 4 → J 70 18 = nI lv → HALF lv I J → ((k = 0 → pl = 0) ∧ (k = 1 → pl = J 109 3) ∧ (k = 2 → pl = J 109 2) ∧ (k = 3 → pl = J 109 7)) → (∀ b S, Q (some (.int (Lw k (L9 (J 109))))) 123 (upr (up2 J 70 57 b) 110 S) L (RX v u)) → V 193 0 [.ref 70, .int (nI k), .int pl, .retAddr 0, .retAddr 0, .retAddr 0, .retAddr 0] [] 123 J L (RX v u) Q
def wcX (j : Nat) : Int64 := ([5572, 677454, 13358, 408538606, 3659348, 4389, 627891, 407947731, 20620947, 526131, 627876, 294, 663726, 176741, 20201203, 5925, 20293004, 8902227, 8228, 24388712, 17376389, 437853486, 627886] : List Int64).getD j 0
def wmX (j : Nat) : Int64 := ([4027, 409469, 9518, 175232336, 1905383, 3164, 377776, 174877291, 10517842, 316351, 377761, 249, 399641, 107681, 10266418, 4325, 10320789, 4562587, 5863, 12387257, 8864024, 187426886, 377771] : List Int64).getD j 0
/-- the words, in the class's way and in the reference's -/
def WORDS (L : AL) : Prop := (∀ j, j < 23 → L 6 j = wcX j) ∧ ∀ j, j < 23 → L 77 j = wmX j
/-- by how many of the 36 throws one DIE shows less -/
def lowF (f : Nat → Int32) (a b : Nat) : Nat := fb_ct (fun k => decide (f (6 * a + k / 6) < f (6 * b + k % 6))) 36
def LOW (I : AI) (t nd : Nat) : Prop := ∀ a b, a < nd → b < nd → I (t + 13) (4 * a + b) = nI (lowF (I (t + 12)) a b)
def STX (I : AI) (t lv np nm nl nc nd : Nat) (Lw : Nat → List Int32 → Int32) : Prop := TXT I t np nm nl nc nd ∧ REL I t lv np nm nl nc nd ∧ LAWC I t Lw ∧ LAWM I lv Lw ∧ LOW I t nd
def DYN (I : AI) (t np nm nl B : Nat) : Prop := NOWX I t np nm nl B ∧ PAST I t np nm nl B ∧ HELD I t np nm nl B
def INV (t : Nat) (u : Option Nat) (I : AI) (L : AL) (B : Nat) : Prop := (t = 32 ∨ t = 51) ∧ WORDS L ∧ TAPE I ∧ I 0 14 = I 70 17 ∧
  ∃ lv np nm nl nc nd Lw, STX I t lv np nm nl nc nd Lw ∧ DYN I t np nm nl B ∧ TOLD I t np nm
def PAIR (y : Nat) (as : List Value) (y' : Nat) (as' : List Value) (t : Nat) (u : Option Nat) (I : AI) (L : AL) (B : Nat) : Prop := ∃ (r : Value) (P : AI → AL → Nat → Option Nat → Prop),
  ((∃ v, r = Value.int v) ∧ (∀ I1 L1 t1 u1, P I1 L1 t1 u1 → I1 1000 = I 1000 ∧ I1 1001 = I 1001) ∧ ∀ Q : PQ, (∀ I1 L1 t1 u1, P I1 L1 t1 u1 → Q (some r) 123 I1 L1 (RX t1 u1)) → V y 0 as [] 123 I L (RX t u) Q) ∧
  ∀ I1 L1 t1 u1, P I1 L1 t1 u1 → ∀ Q : PQ, (∀ I2 L2 t2 u2, INV t2 u2 I2 L2 (B + 5) → I2 1000 = I 1000 → I2 1001 = I 1001 → Q (some r) 123 I2 L2 (RX t2 u2)) → V y' 0 as' [] 123 I1 L1 (RX t1 u1) Q
theorem ROW_up {I : AI} {t np nm nl B : Nat} {N : Nat → Int32} (h : ROW I t np nm nl B N) : ROW I t np nm nl (B + 5) N := by
  refine ⟨h.1, fun a ha => ?_⟩
  obtain ⟨x, c, d, h1, h2, h3, h4⟩ := h.2 a ha
  exact ⟨x, c, d, h1, by omega, by omega, h4⟩
theorem INV_up {t : Nat} {u : Option Nat} {I : AI} {L : AL} {B : Nat} (h : INV t u I L B) : INV t u I L (B + 5) := by
  obtain ⟨h1, h2, h3, h4, lv, np, nm, nl, nc, nd, Lw, hS, ⟨⟨n1, n2⟩, ⟨q, k, p1, p2, p3, p4, p5, p6⟩, hH⟩, hT⟩ := h
  exact ⟨h1, h2, h3, h4, lv, np, nm, nl, nc, nd, Lw, hS, ⟨⟨ROW_up n1, n2⟩, ⟨q, k, p1, p2, p3, p4, p5, fun i hi => ⟨ROW_up (p6 i hi).1, (p6 i hi).2⟩⟩, fun z hz => ⟨(hH z hz).1, (hH z hz).2.1, fun d => ⟨ROW_up ((hH z hz).2.2 d).1, ((hH z hz).2.2 d).2⟩⟩⟩, hT⟩
/-- a pair in which nothing changes -/
theorem PAIR_ro {y : Nat} {as : List Value} {y' : Nat} {as' : List Value} {t : Nat} {u : Option Nat} {I : AI} {L : AL} (r : Value) {B : Nat} (h : INV t u I L B) (h1 : ∀ Q : PQ, Q (some r) 123 I L (RX t u) → V y 0 as [] 123 I L (RX t u) Q) (h2 : ∀ Q : PQ, Q (some r) 123 I L (RX t u) → V y' 0 as' [] 123 I L (RX t u) Q) (hr : ∃ v, r = Value.int v := by first | exact ⟨_, rfl⟩ | ((repeat' split) <;> exact ⟨_, rfl⟩)) : PAIR y as y' as' t u I L B := by
  refine ⟨r, fun I1 L1 t1 u1 => I1 = I ∧ L1 = L ∧ t1 = t ∧ u1 = u, ⟨hr, fun _ _ _ _ hP => by rw [hP.1]; exact ⟨rfl, rfl⟩, fun Q hQ => h1 Q (hQ _ _ _ _ ⟨rfl, rfl, rfl, rfl⟩)⟩, ?_⟩
  rintro _ _ _ _ ⟨rfl, rfl, rfl, rfl⟩ Q hQ
  exact h2 Q (hQ _ _ _ _ (INV_up h) rfl rfl)
theorem STX_c {I I' : AI} {t lv np nm nl nc nd : Nat} {Lw : Nat → List Int32 → Int32} (hI : ∀ a, (t ≤ a ∧ a ≤ t + 15) ∨ a = t + 18 ∨ (81 ≤ a ∧ a ≤ 107) → I' a = I a) (h70 : I' 70 18 = I 70 18) (h : STX I t lv np nm nl nc nd Lw) : STX I' t lv np nm nl nc nd Lw := by
  obtain ⟨h1, h2, h3, h4, h5⟩ := h
  have e : ∀ k, k ≤ 15 → I' (t + k) = I (t + k) := fun k hk => hI _ (Or.inl ⟨by omega, by omega⟩)
  have e0 : I' t = I t := e 0 (by omega)
  have f : ∀ a, 81 ≤ a → a ≤ 107 → I' a = I a := fun a h h2 => hI _ (Or.inr (Or.inr ⟨h, h2⟩))
  refine ⟨?_, ?_, ?_, ?_, ?_⟩
  · unfold TXT at h1 ⊢
    rw [e0, e 1 (by omega), e 2 (by omega), e 3 (by omega), e 4 (by omega), e 5 (by omega), e 6 (by omega), e 7 (by omega), e 8 (by omega), e 9 (by omega), e 10 (by omega), e 11 (by omega), e 12 (by omega)]
    exact h1
  · unfold REL at h2 ⊢
    rw [e0, e 1 (by omega), e 2 (by omega), e 3 (by omega), e 4 (by omega), e 5 (by omega), e 6 (by omega), e 7 (by omega), e 8 (by omega), e 9 (by omega), e 10 (by omega), e 11 (by omega), e 12 (by omega), h70, f 81 (by omega) (by omega), f 82 (by omega) (by omega), f 83 (by omega) (by omega), f 84 (by omega) (by omega), f 85 (by omega) (by omega), f 86 (by omega) (by omega), f 87 (by omega) (by omega), f 88 (by omega) (by omega), f 89 (by omega) (by omega), f 90 (by omega) (by omega), f 91 (by omega) (by omega), f 92 (by omega) (by omega), f 93 (by omega) (by omega), f 94 (by omega) (by omega), f 95 (by omega) (by omega), f 96 (by omega) (by omega), f 97 (by omega) (by omega), f 98 (by omega) (by omega)]
    exact h2
  · intro k J L v u Q hk j1 j2 j3 hQ
    exact h3 k J L v u Q hk (by rw [j1, e 14 (by omega)]) (by rw [j2, e 15 (by omega)]) (by rw [j3, hI _ (Or.inr (Or.inl rfl))]) hQ
  · intro k pl J L v u Q hk j1 j2 hp hQ
    refine h4 k pl J L v u Q hk j1 ?_ hp hQ
    unfold HALF at j2 ⊢
    rw [f 99 (by omega) (by omega), f 100 (by omega) (by omega), f 101 (by omega) (by omega), f 102 (by omega) (by omega), f 103 (by omega) (by omega), f 104 (by omega) (by omega), f 105 (by omega) (by omega), f 106 (by omega) (by omega), f 107 (by omega) (by omega)] at j2
    exact j2
  · unfold LOW at h5 ⊢
    rw [e 13 (by omega), e 12 (by omega)]
    exact h5
theorem ROW_c {I I' : AI} {t np nm nl B : Nat} {N : Nat → Int32} (h1 : I' (t + 1) = I (t + 1)) (h : ROW I t np nm nl B N) : ROW I' t np nm nl B N := by
  unfold ROW at h ⊢
  rw [h1]
  exact h
theorem DYN_c {I I' : AI} {t np nm nl B : Nat} (hI : ∀ a, a = t + 1 ∨ (12 ≤ a ∧ a ≤ 16) ∨ a = 111 ∨ a = 115 ∨ a = 121 ∨ a = 122 → I' a = I a) (h70 : I' 70 62 = I 70 62) (h : DYN I t np nm nl B) : DYN I' t np nm nl B := by
  obtain ⟨h1, h2, h3⟩ := h
  unfold DYN NOWX PAST HELD ROW at *
  rw [hI 13 (by omega), hI 111 (by omega), hI 12 (by omega), hI 15 (by omega), hI 115 (by omega), hI 14 (by omega), hI 16 (by omega), hI 121 (by omega), hI 122 (by omega), hI (t + 1) (by omega), h70]
  exact ⟨h1, h2, h3⟩
theorem TOLD_c {I I' : AI} {t np nm : Nat} (hI : ∀ a, a = t + 1 ∨ a = t + 3 ∨ (29 ≤ a ∧ a ≤ 31) ∨ (118 ≤ a ∧ a ≤ 120) → I' a = I a) (h0 : I' 0 13 = I 0 13) (h70 : I' 70 69 = I 70 69) (h : TOLD I t np nm) : TOLD I' t np nm := by
  unfold TOLD at *
  rw [hI 29 (by omega), hI 30 (by omega), hI 31 (by omega), hI 118 (by omega), hI 119 (by omega), hI 120 (by omega), hI (t + 1) (by omega), hI (t + 3) (by omega), h0, h70]
  exact h
theorem TAPE_c {I I' : AI} (h2 : I' 2 = I 2) (h71 : I' 71 = I 71) (h1 : I' 1 5 = I 1 5) (h70 : I' 70 2 = I 70 2) (h : TAPE I) : TAPE I' := by
  unfold TAPE at *
  rw [h2, h71, h1, h70]
  exact h
