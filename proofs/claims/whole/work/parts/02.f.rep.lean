/-! how the small machine's cells stand in the heap -/
abbrev GX : Type := Nat × va_G × (Nat → ClassId) × (Nat → Option Nat) × (Nat → Int32) × Int32
def cnc (G : GX) (v : Value) : Value := match v with
  | .ref i => if i < 1000 then .ref (G.1 + ip i) else va_rf (G.2.2.2.1 i)
  | w => w
theorem cnc_cat (G : GX) (v : Value) : (cnc G v).category = v.category := by
  cases v with
  | ref i =>
    unfold cnc
    dsimp only
    split
    · rfl
    · unfold va_rf; split <;> rfl
  | _ => rfl
theorem cnc_i (G : GX) (v : Int32) : cnc G (.int v) = .int v := rfl
theorem cnc_l (G : GX) (v : Int64) : cnc G (.long v) = .long v := rfl
theorem cnc_r (G : GX) {a : Nat} (h : a < 1000) : cnc G (.ref a) = .ref (G.1 + ip a) := if_pos h
theorem cnc_x (G : GX) {a : Nat} (h : ¬ a < 1000) : cnc G (.ref a) = va_rf (G.2.2.2.1 a) := if_neg h
def cel (G : GX) (I : AI) (L : AL) (R : AR) (i : Nat) : va_E := match shpL[i]? with
  | some (.inl c) => .inr (c, (List.range (nfX c)).map fun k => cnc G (fvX (ftX c k) I R i k))
  | some (.inr q) => .inl (G.2.2.1 q.1, (q.2, if q.1 = 1 then .inr (.inl (L i)) else .inl (I i)))
  | none => .inr (99, [])
def wrl (G : GX) (n : Nat) (I : AI) (L : AL) (R : AR) : va_W := (List.range n).map fun k => (G.1 + k, cel G I L R (pm k))
def AX (G : GX) : Nat → Prop := fun q => G.1 ≤ q
def HX (G : GX) (n : Nat) (I : AI) (L : AL) (R : AR) (H : Heap) : Prop := I 1000 = G.2.2.2.2.1 ∧ I 1001 0 = G.2.2.2.2.2 ∧ va_P G.2.1 clsX (wrl G n I L R) H
theorem wrl_at {G : GX} {n : Nat} {I : AI} {L : AL} {R : AR} {k : Nat} (h : k < n) : (wrl G n I L R)[k]? = some (G.1 + k, cel G I L R (pm k)) := by
  simp [wrl, h]
theorem wrl_get {G : GX} {n : Nat} {I : AI} {L : AL} {R : AR} {i : Nat} (h : ip i < n) : (wrl G n I L R)[ip i]? = some (G.1 + ip i, cel G I L R i) := by
  rw [wrl_at h, pm_ip]
theorem wrl_D (G : GX) (n : Nat) (I : AI) (L : AL) (R : AR) : va_D (AX G) (wrl G n I L R) := by
  have key : ∀ (k : Nat) (q : Nat × va_E), (wrl G n I L R)[k]? = some q → q.1 = G.1 + k := by
    intro k q h
    have hk : k < n := by
      have := (List.getElem?_eq_some_iff.mp h).1
      simpa [wrl] using this
    rw [wrl_at hk] at h
    cases h
    rfl
  refine ⟨fun i j p q hi hj e => ?_, fun k q h => ?_⟩
  · have a := key i p hi
    have b := key j q hj
    omega
  · rw [key k q h]
    exact Nat.le_add_right _ _
theorem cel_cong {G : GX} {I I' : AI} {L L' : AL} {R R' : AR} {i : Nat} (hI : I' i = I i) (hL : L' i = L i) (hR : R' i = R i) : cel G I' L' R' i = cel G I L R i := by
  unfold cel fvX
  rw [hI, hL, hR]
theorem wrl_set {G : GX} {n : Nat} {I I' : AI} {L L' : AL} {R R' : AR} {a : Nat} {e : va_E} (h : ip a < n) (he : cel G I' L' R' a = e) (hI : ∀ i, i ≠ a → I' i = I i) (hL : ∀ i, i ≠ a → L' i = L i) (hR : ∀ i, i ≠ a → R' i = R i) : (wrl G n I L R).set (ip a) (G.1 + ip a, e) = wrl G n I' L' R' := by
  apply List.ext_getElem?
  intro i
  by_cases hi : i < n
  · rw [wrl_at hi]
    by_cases hia : i = ip a
    · subst hia
      rw [List.getElem?_set_self (by simpa [wrl] using hi), pm_ip, he]
    · have hne : pm i ≠ a := fun e2 => hia (by rw [← e2, ip_pm])
      rw [List.getElem?_set_ne (Ne.symm hia), wrl_at hi, cel_cong (hI _ hne) (hL _ hne) (hR _ hne)]
  · have h1 : (wrl G n I L R).length ≤ i := by simp [wrl]; omega
    have h2 : (wrl G n I' L' R').length ≤ i := by simp [wrl]; omega
    rw [List.getElem?_eq_none (by simpa using h1), List.getElem?_eq_none h2]
theorem wrl_app {G : GX} {n : Nat} {I I' : AI} {L L' : AL} {R R' : AR} {e : va_E} (he : cel G I' L' R' (pm n) = e) (hI : ∀ i, i ≠ pm n → I' i = I i) (hL : ∀ i, i ≠ pm n → L' i = L i) (hR : ∀ i, i ≠ pm n → R' i = R i) : wrl G (n + 1) I' L' R' = wrl G n I L R ++ [(G.1 + n, e)] := by
  unfold wrl
  rw [List.range_succ, List.map_append]
  congr 1
  · apply List.map_congr_left
    intro i hi
    have : pm i ≠ pm n := fun e2 => by
      have h3 := List.mem_range.mp hi
      have h4 : i = n := by rw [← ip_pm i, e2, ip_pm]
      omega
    rw [cel_cong (hI _ this) (hL _ this) (hR _ this)]
  · simp [he]
theorem shp_lt {i : Nat} {z : Nat ⊕ (Nat × Nat)} (h : shpL[i]? = some z) : i < 123 := (List.getElem?_eq_some_iff.mp h).1
theorem tg_in {n a t : Nat} (h : tgX n a = t) (ht : t < 4) (ha : ip a < n) : ∃ m, shpL[a]? = some (.inr (t, m)) ∧ ∀ I, lnX n I a = m := by
  unfold tgX at h
  rw [if_pos ha] at h
  cases hs : shpL[a]? with
  | none => rw [hs] at h; dsimp only at h; omega
  | some z =>
    cases z with
    | inl c => rw [hs] at h; dsimp only at h; omega
    | inr q =>
      rw [hs] at h
      dsimp only at h
      subst h
      exact ⟨q.2, rfl, fun I => by unfold lnX; rw [if_pos ha, hs]⟩
theorem tg_out {n a : Nat} (ht : tgX n a < 4) (ha : ¬ ip a < n) : (a = 1000 ∧ tgX n a = 0) ∨ (a = 1002 ∧ tgX n a = 2) ∨ (a = 1003 ∧ tgX n a = 2) := by
  unfold tgX at ht ⊢
  rw [if_neg ha] at ht ⊢
  split at ht
  · rename_i e; subst e; exact Or.inl ⟨rfl, by simp⟩
  · split at ht
    · rename_i e; subst e; exact Or.inr (Or.inl ⟨rfl, by simp⟩)
    · split at ht
      · rename_i e; subst e; exact Or.inr (Or.inr ⟨rfl, by simp⟩)
      · omega
theorem ob_in {n o c : Nat} (h : obX n o = c) (hc : c < 10) : ip o < n ∧ shpL[o]? = some (.inl c) := by
  unfold obX at h
  split at h
  · rename_i ho
    refine ⟨ho, ?_⟩
    cases hs : shpL[o]? with
    | none => rw [hs] at h; dsimp only at h; omega
    | some z =>
      cases z with
      | inl d => rw [hs] at h; dsimp only at h; rw [h]
      | inr q => rw [hs] at h; dsimp only at h; omega
  · split at h
    · omega
    · split at h <;> omega
theorem ob_13 {n o : Nat} (h : obX n o = 13) (hn : ∀ c, shpL[o]? = some (.inl c) → c < 10) : o = 1004 ∨ o = 1005 := by
  unfold obX at h
  split at h
  · cases hs : shpL[o]? with
    | none => rw [hs] at h; dsimp only at h; omega
    | some z =>
      cases z with
      | inl d => rw [hs] at h; dsimp only at h; have := hn d hs; omega
      | inr q => rw [hs] at h; dsimp only at h; omega
  · split at h
    · exact Or.inl ‹_›
    · split at h
      · exact Or.inr ‹_›
      · omega
theorem shp_10 : ∀ (o c : Nat), shpL[o]? = some (.inl c) → c < 10 := by
  have h : ∀ z ∈ shpL, ∀ c, z = .inl c → c < 10 := by
    have h2 : shpL.all (fun z => match z with | .inl c => decide (c < 10) | _ => true) = true := by decide +kernel
    intro z hz c e
    have := List.all_eq_true.mp h2 z hz
    subst e
    simpa using this
  intro o c ho
  exact h _ (List.mem_of_getElem? ho) c rfl
theorem shp_4 : ∀ (o : Nat) (q : Nat × Nat), shpL[o]? = some (.inr q) → q.1 < 4 ∧ q.2 ≤ 3000 := by
  have h2 : shpL.all (fun z => match z with | .inr q => decide (q.1 < 4 ∧ q.2 ≤ 3000) | _ => true) = true := by decide +kernel
  intro o q ho
  have := List.all_eq_true.mp h2 _ (List.mem_of_getElem? ho)
  simpa using this
def tyG (G : GX) : List (ClassId × FieldType) := [(G.2.2.1 0, .int), (G.2.2.1 1, .long), (G.2.2.1 2, .byte), (G.2.2.1 3, .boolean)]
/-- what is known of a state at a method's entry -/
def KX (G : GX) (U : State) : Prop :=
  va_K G.2.1 clsX (tyG G) U ∧
  (∃ b : Nat, (G.2.2.2.1 1000 = some b ∧ G.2.2.2.1 1001 = some b) ∧ b < G.1 ∧ b < U.heap.size ∧ va_X b (G.2.2.2.2.2).toNatClampNeg G.2.2.2.2.1 U U.heap) ∧
  (∃ adK adV : Nat → Nat, vk_S 2 [120, 9] [wrdB, sgnB] adK adV (AX G) U U.heap ∧ G.2.2.2.1 1004 = some (adK 0) ∧ G.2.2.2.1 1005 = some (adK 1) ∧ G.2.2.2.1 1002 = some (adV 0) ∧ G.2.2.2.1 1003 = some (adV 1) ∧ vk_R "SchoolLosing$Tokens" 29 wrdT (adK 0) U ∧ vk_R "SchoolLosing$Tokens" 72 sgnT (adK 1) U) ∧
  va_Z "java/lang/String" "COMPACT_STRINGS" "Z" (.int 1) (AX G) U U.heap ∧
  va_Z "jdk/internal/util/Preconditions" "SIOOBE_FORMATTER" "Ljava/util/function/BiFunction;" (va_rf (G.2.2.2.1 1006)) (AX G) U U.heap ∧
  ∀ q ∈ nstL, va_Nw (.methodLinkNest q.1 q.2.1 q.2.2 "SchoolLosing") U
theorem KX_next {G : GX} {s U : State} {locs : List Loc} (hK : KX G s) (hW : s.WarmedH U.vm) (hS : va_S (AX G) s.heap U.heap locs) : KX G U := by
  obtain ⟨k1, ⟨b, b1, b2, b3, b4⟩, ⟨adK, adV, v1, v2, v3, v4, v5, v6, v7⟩, z1, z2, nn⟩ := hK
  refine ⟨va_K.moved hW.alike k1, ⟨b, b1, b2, Nat.lt_of_lt_of_le b3 hS.1, (b4.kept (hS.2.1 b b3 (Nat.not_le.mpr b2))).moved hW.alike⟩, ⟨adK, adV, (v1.kept hS.2.1).moved hW.alike, v2, v3, v4, v5, v6.warm hW, v7.warm hW⟩, (z1.kept hS.2.1).moved hW.alike, (z2.kept hS.2.1).moved hW.alike, fun q hq => va_Nw.warmM hW (nn q hq)⟩
theorem KX_same {G : GX} {s U : State} (hK : KX G s) (hv : U.vm = s.vm) (hh : U.heap = s.heap) : KX G U := by
  obtain ⟨k1, ⟨b, b1, b2, b3, b4⟩, ⟨adK, adV, v1, v2, v3, v4, v5, v6, v7⟩, z1, z2, nn⟩ := hK
  have ha : s.vm.Alike U.vm := by rw [hv]; exact Vm.Alike.refl _
  refine ⟨va_K.moved ha k1, ⟨b, b1, b2, by rw [hh]; exact b3, by rw [hh]; exact b4.moved ha⟩, ⟨adK, adV, by rw [hh]; exact v1.moved ha, v2, v3, v4, v5, v6.same hv, v7.same hv⟩, by rw [hh]; exact z1.moved ha, by rw [hh]; exact z2.moved ha, fun q hq => va_Nw.same rfl hv.symm (nn q hq)⟩
