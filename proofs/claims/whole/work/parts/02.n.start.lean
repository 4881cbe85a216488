/-! THE CLAIM OUT OF ONE WALK OF THE LAW'S BODY. Your part is whole_start (and what it stands on); all else here is the same for every law, but numbers. -/
def R_law : String := "SchoolLosingLaw"
def lw_P (b : Addr) (xs : List Int32) (args : Array Value) (s : State) : Prop := args = #[.ref b] ∧ s.IntsAt b xs ∧ xs.length ≤ 3584 ∧ (Jvm.Cond.and given_1 narrow_1).before args s = true
def lw_Q (_ : Array Value) (s : State) (o : Outcome) (t : State) : Prop := o = .returned (some (.int 1)) ∧ Framed s o t [] 123 18917
def lw_Z (below : List Frame) (a : Array Value) (s : State) : State → Prop := fun t => ∃ o, t.status = .running ∧ Ended t below o ∧ lw_Q a s o t
/-- the law's own end, with 1 on the stack, nothing written that was there before, its room as the claim has it -/
theorem lw_ret {p : Program} {l : Launch} {e : Env} {s : State} {m : MethodId} {below : List Frame} {meth : Method} {c : Code} {b : Nat} (hx : p.tables.exec = Jvm.exec) (hb : c.code = code) (hr : meth.sig.returnType = ret) (hlocks : meth.locks = false) {pc : Nat} {H : Heap} {ls : Array Slot} (hdg : decode code pc = .ok (.ireturn, 1)) : W p l e room_1 s m #[Value.ref b] below meth c H [] 123 18917 (lw_Z below #[Value.ref b] s) (F0 m pc ls [.int 1]) := by
  intro T hT X
  obtain ⟨fs, hret, hrun, hended, hW, hframe⟩ := X.leave (v := some (.int 1)) (hlocks := hlocks) (fun h => by rw [hr] at h; cases h)
  have hmeth' : T.vm.method? m = some meth := X.method'
  refine ⟨T.setFrames fs, ?_, .returned (some (.int 1)), hrun, hended, rfl, ⟨_, rfl⟩, hW, hframe⟩
  jvm_step X.here [X.here.top, hx, hb, hdg, hmeth', hr, ret, narrow_b1]
  (try refine ⟨rfl, ?_⟩); (try refine ⟨rfl, ?_⟩)
  first | (intro acts; rw [hret _ acts rfl rfl rfl]) | rw [hret _ _ rfl rfl rfl]
  exact Steps.refl _
/-- what holds at the law's entry: the machine, the code, the tables' words (any of lw_tbl by 'hts w (by decide +kernel)'), the script of L ints xs at the cell b, what the Statement gives of the start (any of its parts by flat_of_before) -/
def lw_At (p : Program) (s : State) (m : MethodId) (meth : Method) (c : Code) (b L : Nat) (xs : Nat → Int32) : Prop :=
  p.tables.exec = Jvm.exec ∧ c.code = code ∧ meth.sig.returnType = ret ∧ c.maxLocals = 4 ∧ s.vm.findClass R_law = some m.cls ∧ (∀ w ∈ lw_tbl, w.before #[Value.ref b] s = true) ∧ va_X b L xs s s.heap ∧ b < s.heap.size ∧ meth.locks = false ∧ (Jvm.Cond.and given_1 narrow_1).before #[Value.ref b] s = true
theorem in_all {c : Nat} (h : c < 10) : Cond.instantiable (cn c) (nfX c) ∈ tbX := by
  match c, h with
  | 0, _ => exact (ck_all (8, 35, 0) (by decide)).2.1
  | 1, _ => exact (ck_all (8, 42, 1) (by decide)).2.1
  | 2, _ => exact (ck_all (8, 21, 2) (by decide)).2.1
  | 3, _ => exact (ck_all (5, 51, 3) (by decide)).2.1
  | 4, _ => exact (ck_all (8, 9, 4) (by decide)).2.1
  | 5, _ => exact (ck_all (8, 66, 5) (by decide)).2.1
  | 6, _ => exact (ck_all (4, 9, 6) (by decide)).2.1
  | 7, _ => exact (ck_all (8, 28, 7) (by decide)).2.1
  | 8, _ => exact (ck_all (10, 7, 8) (by decide)).2.1
  | 9, _ => exact (ck_all (10, 10, 9) (by decide)).2.1
  | c + 10, h => omega
theorem lw_in {w : Cond} (h : w ∈ tables_1) : w ∈ lw_tbl := List.mem_append_right _ h
def I0X (xs : Nat → Int32) (L : Nat) : AI := fun a => if a = 1000 then xs else if a = 1001 then (fun _ => nI L) else fun _ => 0
def tmX (i : Nat) : Term := if i = 0 then .string "SchoolLosing$Tokens" 29 else .string "SchoolLosing$Tokens" 72
set_option maxRecDepth 100000 in
theorem fl_w : ∀ j, j < 120 → Cond.eq (.elem (.field (.string "SchoolLosing$Tokens" 29) "java/lang/String" "value" "[B") (.int (Int32.ofNat j))) (.int (wrdB.getD j 0)) ∈ flatC (Jvm.Cond.and given_1 narrow_1) := by decide +kernel
set_option maxRecDepth 100000 in
theorem fl_s : ∀ j, j < 9 → Cond.eq (.elem (.field (.string "SchoolLosing$Tokens" 72) "java/lang/String" "value" "[B") (.int (Int32.ofNat j))) (.int (sgnB.getD j 0)) ∈ flatC (Jvm.Cond.and given_1 narrow_1) := by decide +kernel
set_option maxRecDepth 100000 in
theorem KX_0 {s : State} {b L : Nat} {xs : Nat → Int32} (hL : L ≤ 3584) (hts0 : ∀ w ∈ lw_tbl, w.before #[Value.ref b] s = true) (hX : va_X b L xs s s.heap) (hbl : b < s.heap.size) (hgv : (Jvm.Cond.and given_1 narrow_1).before #[Value.ref b] s = true) : ∃ G : GX, G.1 = s.heap.size ∧ G.2.2.2.1 1000 = some b ∧ G.2.2.2.2.1 = xs ∧ G.2.2.2.2.2 = nI L ∧ KX G s := by
  have hts : ∀ w ∈ tbX, w.before #[Value.ref b] s = true := fun w h => hts0 w (List.mem_filter.mp h).1
  have hfl := flat_of_before _ hgv
  have hA : ∀ a : Nat, a < s.heap.size → ¬ (fun q : Nat => s.heap.size ≤ q) a := fun a h => Nat.not_le.mpr h
  have k1 : ∀ c : Nat, ∃ q : ClassId × (Nat → Nat), c < 10 → u_Kn s (cn c) (TTX c) (nfX c) q.1 q.2 := by
    intro c
    by_cases hc : c < 10
    · obtain ⟨c1, c2, -⟩ := ci_ok hc
      obtain ⟨cC, iS, h⟩ := u_known hts c2 (hts _ (in_all hc))
      exact ⟨(cC, iS), fun _ => h⟩
    · exact ⟨(0, fun _ => 0), fun h => absurd h hc⟩
  obtain ⟨fC, hfC⟩ := Classical.axiomOfChoice k1
  have k2 : ∀ t : Nat, ∃ q : ClassId, t < 4 → ArrOfT s q (tyT t) ∧ s.vm.findClass ("[" ++ (tyT t).toString) = some q := by
    intro t
    by_cases ht : t < 4
    · obtain ⟨cB, kB, comp, h1, h2, h3⟩ := Cond.arrayClass_spec (args := #[Value.ref b]) (first := s) (o := none) (s := s) (idx := []) (hts _ (ar_in ht))
      exact ⟨cB, fun _ => ⟨fun n z => ⟨fun k h => (by cases h), kB, h2, comp, h3⟩, h1⟩⟩
    · exact ⟨0, fun h => absurd h ht⟩
  obtain ⟨fA, hfA⟩ := Classical.axiomOfChoice k2
  obtain ⟨adK, adV, hS, hev⟩ := vk_Sof (args := #[Value.ref b]) (s := s) (N := 2) (tm := tmX) (len := [120, 9]) (byt := [wrdB, sgnB]) (A := fun q : Nat => s.heap.size ≤ q)
    (fun i hi => by rcases (show i = 0 ∨ i = 1 by omega) with rfl | rfl <;> decide)
    (fun i hi => by rcases (show i = 0 ∨ i = 1 by omega) with rfl | rfl <;> exact hfl _ (by decide +kernel))
    (fun i hi => by rcases (show i = 0 ∨ i = 1 by omega) with rfl | rfl <;> exact hfl _ (by decide +kernel))
    (fun i hi => by rcases (show i = 0 ∨ i = 1 by omega) with rfl | rfl <;> exact hfl _ (by decide +kernel))
    (fun i hi => by rcases (show i = 0 ∨ i = 1 by omega) with rfl | rfl <;> exact hfl _ (by decide +kernel))
    (fun i hi j hj => by
      rcases (show i = 0 ∨ i = 1 by omega) with rfl | rfl
      · exact hfl _ (fl_w j hj)
      · exact hfl _ (fl_s j hj))
    (fun i j hi hj hij => by
      rcases (show i = 0 ∨ i = 1 by omega) with rfl | rfl <;> rcases (show j = 0 ∨ j = 1 by omega) with rfl | rfl
      · exact absurd rfl hij
      · first | exact Or.inl (hfl _ (by decide +kernel)) | exact Or.inr (hfl _ (by decide +kernel))
      · first | exact Or.inl (hfl _ (by decide +kernel)) | exact Or.inr (hfl _ (by decide +kernel))
      · exact absurd rfl hij) hA
  have hZ1 : va_Z "java/lang/String" "COMPACT_STRINGS" "Z" (.int 1) (fun q : Nat => s.heap.size ≤ q) s s.heap := va_Zof (hts0 _ (lw_in (by decide +kernel))) (hts0 _ (lw_in (by decide +kernel))) (va_eqt (t := .static "java/lang/String" "COMPACT_STRINGS" "Z") (z := 1) (hfl _ (by decide +kernel))) hA
  obtain ⟨oF, hZ2⟩ : ∃ o : Option Nat, va_Z "jdk/internal/util/Preconditions" "SIOOBE_FORMATTER" "Ljava/util/function/BiFunction;" (va_rf o) (fun q : Nat => s.heap.size ≤ q) s s.heap := by
    rcases va_Zqof (args := #[Value.ref b]) (s := s) (C := "jdk/internal/util/Preconditions") (n := "SIOOBE_FORMATTER") (d := "Ljava/util/function/BiFunction;") (hts0 _ (lw_in (by decide +kernel))) (hts0 _ (lw_in (by decide +kernel))) (hfl _ (by decide +kernel)) hA with h | ⟨t, h⟩
    · exact ⟨none, h⟩
    · exact ⟨some t, h⟩
  refine ⟨(s.heap.size, (fun c => (fC c).1, fun c => (fC c).2), fA, (fun i => if i = 1000 then some b else if i = 1001 then some b else if i = 1002 then some (adV 0) else if i = 1003 then some (adV 1) else if i = 1004 then some (adK 0) else if i = 1005 then some (adK 1) else oF), xs, nI L), rfl, rfl, rfl, rfl, ⟨fun c q hq => ?_, fun k q hq => ?_⟩, ⟨b, ⟨rfl, rfl⟩, hbl, hbl, ?_⟩, ⟨adK, adV, hS, rfl, rfl, rfl, rfl, vk_R.of (hts0 _ (lw_in (by decide +kernel))) (hev 0 (by decide)), vk_R.of (hts0 _ (lw_in (by decide +kernel))) (hev 1 (by decide))⟩, hZ1, hZ2, ?_⟩
  · have hc : c < 10 := (List.getElem?_eq_some_iff.mp hq).1
    obtain ⟨c1, -⟩ := ci_ok hc
    rw [c1] at hq
    cases hq
    exact hfC c hc
  · have hk : k < 4 := (List.getElem?_eq_some_iff.mp hq).1
    rw [tyG_at _ hk] at hq
    cases hq
    refine ⟨(hfA k hk).1, ?_⟩
    have := (hfA k hk).2
    match k, hk, this with
    | 0, _, h => exact h
    | 1, _, h => exact h
    | 2, _, h => exact h
    | 3, _, h => exact h
    | k + 4, h, _ => omega
  · show va_X b (nI L).toNatClampNeg xs s s.heap
    rw [nI_clamp (by omega)]
    exact hX
  · intro q hq
    have hw : ∀ q ∈ nstL, Cond.methodLinkNest q.1 q.2.1 q.2.2 "SchoolLosing" ∈ tables_1 := by decide +kernel
    exact va_Nw.of rfl (hts0 _ (lw_in (hw q hq)))
theorem sl_all : slX 123 = 18917 := by decide +kernel
/-- the claim's start, out of the small machine's run of the law -/
theorem start_of (hV : ∀ (xs : Nat → Int32) (L : Nat), L ≤ 3584 → V 271 0 [.ref 1000, .retAddr 0, .retAddr 0, .retAddr 0] [] 0 (I0X xs L) (fun _ _ => 0) (fun _ _ => none) (fun r n1 _ _ _ => r = some (.int 1) ∧ n1 ≤ 123)) {p : Program} {e : Env} {s : State} {m : MethodId} {below : List Frame} {meth : Method} {c : Code} (l : Launch) {b L : Nat} {xs : Nat → Int32} (hL : L ≤ 3584) (C0 : lw_At p s m meth c b L xs) : W p l e room_1 s m #[Value.ref b] below meth c s.heap [] 0 0 (lw_Z below #[Value.ref b] s) (entryFrame m ([Value.ref b] : List Value).toArray 4) := by
  obtain ⟨hx, hb, hr, hml, hown, hts0, hX, hbl, hlocks, hgv⟩ := C0
  obtain ⟨G, g1, g2, g3, g4, hK⟩ := KX_0 hL hts0 hX hbl hgv
  obtain ⟨f, r, n1, I1, L1, R1, hex, rfl, hn1⟩ := hV xs L hL
  have hts : ∀ w ∈ tbX, w.before #[Value.ref b] s = true := fun w h => hts0 w (List.mem_filter.mp h).1
  have C : CX G p room_1 s m #[Value.ref b] meth c 271 0 := ⟨hx, hb, hml, hr, hown, hts, hlocks, by decide, by decide, (fun h => absurd h (by decide)), hK, by rw [g1]; rfl⟩
  obtain ⟨-, hW⟩ := wk_all l G f _ _ _ _ _ _ _ _ _ _ _ _ _ hex
  have hs1 : slX n1 ≤ 18917 := by rw [← sl_all]; exact slX_le hn1
  have hl0 := lv_entry ([Value.ref b] : List Value) (n := 4) (Nat.le_of_ble_eq_true rfl)
  rw [lg_entry_eq]
  generalize (lg_sl ([Value.ref b] : List Value) ++ List.replicate (4 - (lg_sl ([Value.ref b] : List Value)).length) Slot.unset).toArray = lsM at hl0 ⊢
  have hl0 : lv_has lsM 4 [(0, .ref b)] := hl0
  have hl : lv_has lsM 4 (prs G 0 [.ref 1000, .retAddr 0, .retAddr 0, .retAddr 0]) := by
    refine ⟨hl0.1, hl0.2.1, fun q hq => hl0.2.2 q ?_⟩
    have hq2 : q ∈ [(0, cnc G (.ref 1000))] := hq
    rw [cnc_x G (by decide), g2] at hq2
    exact hq2
  have hH : HX G 0 (I0X xs L) (fun _ _ => 0) (fun _ _ => none) s.heap := ⟨by rw [g3]; rfl, by rw [g4]; rfl, fun k q h => by simp [wrl] at h⟩
  have := hW p e room_1 s m #[Value.ref b] below meth c (lw_Z below #[Value.ref b] s) 0 C (Nat.le_refl _) ⟨by show n1 - 0 ≤ 123; omega, by show slX n1 - slX 0 ≤ 18917; exact Nat.le_trans (Nat.sub_le _ _) hs1⟩ (fun pc2 H2 locs2 ls2 hH2 hS2 hrt => by
    refine va_forget (fun q hq => by have := hS2.2.2 q hq; rw [AX, g1] at this; exact this) ?_
    refine W.widen (k := 123) (n := 18917) (by omega) (Nat.le_trans (Nat.sub_le _ _) hs1) ?_
    rcases hrt with ⟨v, d1, d2, -⟩ | ⟨v, d1, d2, -⟩ | ⟨d1, d2, -⟩
    · exact lw_ret hx hb hr hlocks d1
    · cases d2
    · cases d2) rfl (fun k b2 e2 => by
      match k, e2 with
      | 0, e2 => cases e2
      | 1, e2 => cases e2
      | 2, e2 => cases e2
      | 3, e2 => cases e2
      | k + 4, e2 => simp at e2) s.heap [] lsM hH va_S.rf hl
  exact this
