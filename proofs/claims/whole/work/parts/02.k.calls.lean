/-! the other calls; a whole method; the small machine is right -/
section SK
variable {l : Launch} {G : GX} {p : Program} {e : Env} {Rm : Room} {s : State} {m : MethodId} {args : Array Value} {below : List Frame} {meth : Method} {c : Code} {Q : State → Prop} {y n0 pc n : Nat} {ls st : List Value} {I : AI} {L : AL} {R : AR}
theorem gd_cw {w0 : Cond} (h : w0 ∈ tbX) : GoodIn tbX (w0 :: tbX) := fun w hw => by
  rcases List.mem_cons.mp hw with e | e
  · rw [e]; exact tbX_good _ h
  · exact tbX_good w e
theorem s_callS {i z : Nat} {as rest : List Value} {r : Option Value} {n1 : Nat} {I1 : AI} {L1 : AL} {R1 : AR} (C : CX G p Rm s m args meth c y n0) (hd : decode (cdM y) pc = .ok (.invokestatic i, 3)) (hk : lkP (ocM y) (i, 1, z)) (hn : n0 ≤ n) (hn1 : n ≤ n1) (ha : as.length = naM z) (hr : rfM z + 1 ≤ rfM y ∧ 8 + (mlM z + 11) + rlM z ≤ rlM y) (hw : wsm rest ≤ 8) (hc : n1 - n0 ≤ Rm.cells ∧ slX n1 - slX n0 ≤ Rm.slots) (hM : MT l G z (as.map (cnc G)) n I L R r n1 I1 L1 R1) (k : GD l G p e Rm s m args below meth c Q y n0 (pc + 3) ls (r.toList ++ rest) n1 I1 L1 R1) : GD l G p e Rm s m args below meth c Q y n0 pc ls (as.reverse ++ rest) n I L R := fun hlen hdb H locs lsM hH hS hl => by
  obtain ⟨w1, w2, w4, ⟨y1, y2, y3, y4, y5, y6⟩⟩ := hk
  dsimp only at w1 w2 w4 y1 y2 y3 y4 y5 y6
  refine W.szd (fun hsz => ?_)
  have hz := HX_sz C hn hH hS hsz
  have hf := C.rf
  have hl2 := C.rl
  have m1 := slX_le hn
  have m2 := slX_le hn1
  have hst : (as.reverse ++ rest).map (cnc G) = (as.map (cnc G)).reverse ++ rest.map (cnc G) := by rw [List.map_append, List.map_reverse]
  rw [hst]
  refine xx_call (rv := r.map (cnc G)) (B := fun h => HX G n1 I1 L1 R1 h) (mc := n1 - n) (ms := slX n1 - slX n) (va_runS (As := as.map (cnc G)) (rest := rest.map (cnc G)) (n := naM z) ⟨C.x, C.b, C.ml, C.ow, C.ts⟩ hM ⟨⟨rfl, rfl, by show rfM z + 1 ≤ _; omega, by show _ + rlM z ≤ _; omega, pay_in C.ts (mt_good y4), List.mem_cons_self, C.ts _ y4, C.ts _ y5, y1, prm_len w4, C.ts _ w1⟩, C.ts _ w2⟩ ⟨mt_blind, fun U hU hW => ⟨rfl, by rw [hU]; exact hz, by rw [hU]; exact hH, KX_next (locs := locs) C.kx hW (by rw [hU]; exact hS)⟩⟩ rfl (by simpa using ha) hl.1 rfl (lv_room (by rw [ws_eq]; exact hw)) hd ⟨by omega, by omega⟩) hS (fun H1 locs1 hH1 hS1 => ?_)
  have k' := k hlen hdb H1 locs1 lsM hH1 hS1 hl
  rw [tl_map, show n1 - n0 = n - n0 + (n1 - n) by omega, show slX n1 - slX n0 = slX n - slX n0 + (slX n1 - slX n) by omega] at k'
  exact k'
theorem s_callI {i z o : Nat} {as rest : List Value} {r : Option Value} {n1 : Nat} {I1 : AI} {L1 : AL} {R1 : AR} (C : CX G p Rm s m args meth c y n0) (hd : decode (cdM y) pc = .ok (.invokespecial i, 3)) (hk : lkP (ocM y) (i, 2, z)) (hn : n0 ≤ n) (hn1 : n ≤ n1) (ho : o < 1000) (ha : (Value.ref o :: as).length = naM z) (hr : rfM z + 1 ≤ rfM y ∧ 8 + (mlM z + 11) + rlM z ≤ rlM y) (hw : wsm rest ≤ 8) (hc : n1 - n0 ≤ Rm.cells ∧ slX n1 - slX n0 ≤ Rm.slots) (hM : MT l G z ((Value.ref o :: as).map (cnc G)) n I L R r n1 I1 L1 R1) (k : GD l G p e Rm s m args below meth c Q y n0 (pc + 3) ls (r.toList ++ rest) n1 I1 L1 R1) : GD l G p e Rm s m args below meth c Q y n0 pc ls ((Value.ref o :: as).reverse ++ rest) n I L R := fun hlen hdb H locs lsM hH hS hl => by
  obtain ⟨w1, w2, w3, w4, w5, ⟨y1, y2, y3, y4, y5, y6⟩, w6⟩ := hk
  dsimp only at w1 w2 w3 w4 w5 y1 y2 y3 y4 y5 y6 w6
  refine W.szd (fun hsz => ?_)
  have hz := HX_sz C hn hH hS hsz
  have hf := C.rf
  have hl2 := C.rl
  have m1 := slX_le hn
  have m2 := slX_le hn1
  have hb := cnc_r G ho
  have hst : ((Value.ref o :: as).reverse ++ rest).map (cnc G) = (as.map (cnc G)).reverse ++ .ref (G.1 + ip o) :: rest.map (cnc G) := by
    rw [List.reverse_cons, List.map_append, List.map_append, List.map_reverse, List.append_assoc]
    show _ ++ (cnc G (.ref o) :: _) = _
    rw [hb]
    rfl
  rw [hst]
  rw [List.map_cons, hb] at hM
  have hlen2 : as.length = naM z - 1 := by have : as.length + 1 = naM z := by simpa using ha
                                           omega
  unfold MT at hM
  rw [w6] at hM y4
  refine xx_call (rv := r.map (cnc G)) (B := fun h => HX G n1 I1 L1 R1 h) (mc := n1 - n) (ms := slX n1 - slX n) (va_runI (As := as.map (cnc G)) (rest := rest.map (cnc G)) (n := naM z - 1) ⟨C.x, C.b, C.ml, C.ow, C.ts⟩ hM ⟨⟨rfl, rfl, by show rfM z + 1 ≤ _; omega, by show _ + rlM z ≤ _; omega, pay_in C.ts (gd_cw y4), List.mem_cons_self, C.ts _ y4, C.ts _ y5, y1, prm_len w4, C.ts _ w1⟩, w3, C.ts _ w2⟩ ⟨mt_blind, fun U hU hW => ⟨rfl, by rw [hU]; exact hz, by rw [hU]; exact hH, KX_next (locs := locs) C.kx hW (by rw [hU]; exact hS)⟩⟩ rfl (by simpa using hlen2) hl.1 rfl (lv_room (by rw [ws_eq]; exact hw)) hd ⟨by omega, by omega⟩) hS (fun H1 locs1 hH1 hS1 => ?_)
  have k' := k hlen hdb H1 locs1 lsM hH1 hS1 hl
  rw [tl_map, show n1 - n0 = n - n0 + (n1 - n) by omega, show slX n1 - slX n0 = slX n - slX n0 + (slX n1 - slX n) by omega] at k'
  exact k'
theorem s_callN {i z o : Nat} {as rest : List Value} {r : Option Value} {n1 : Nat} {I1 : AI} {L1 : AL} {R1 : AR} (C : CX G p Rm s m args meth c y n0) (hd : decode (cdM y) pc = .ok (.invokespecial i, 3)) (hk : lkP (ocM y) (i, 3, z)) (hn : n0 ≤ n) (hn1 : n ≤ n1) (ho : o < 1000) (ha : (Value.ref o :: as).length = naM z) (hr : rfM z + 1 ≤ rfM y ∧ 8 + (mlM z + 11) + rlM z ≤ rlM y) (hw : wsm rest ≤ 8) (hc : n1 - n0 ≤ Rm.cells ∧ slX n1 - slX n0 ≤ Rm.slots) (hM : MT l G z ((Value.ref o :: as).map (cnc G)) n I L R r n1 I1 L1 R1) (k : GD l G p e Rm s m args below meth c Q y n0 (pc + 3) ls (r.toList ++ rest) n1 I1 L1 R1) : GD l G p e Rm s m args below meth c Q y n0 pc ls ((Value.ref o :: as).reverse ++ rest) n I L R := fun hlen hdb H locs lsM hH hS hl => by
  obtain ⟨w1, w2, w3, w4, w5, ⟨y1, y2, y3, y4, y5, y6⟩, w6⟩ := hk
  dsimp only at w1 w2 w3 w4 w5 y1 y2 y3 y4 y5 y6 w6
  refine W.szd (fun hsz => ?_)
  have hz := HX_sz C hn hH hS hsz
  have hf := C.rf
  have hl2 := C.rl
  have m1 := slX_le hn
  have m2 := slX_le hn1
  have hb := cnc_r G ho
  have hst : ((Value.ref o :: as).reverse ++ rest).map (cnc G) = (as.map (cnc G)).reverse ++ .ref (G.1 + ip o) :: rest.map (cnc G) := by
    rw [List.reverse_cons, List.map_append, List.map_append, List.map_reverse, List.append_assoc]
    show _ ++ (cnc G (.ref o) :: _) = _
    rw [hb]
    rfl
  rw [hst]
  rw [List.map_cons, hb] at hM
  have hlen2 : as.length = naM z - 1 := by have : as.length + 1 = naM z := by simpa using ha
                                           omega
  unfold MT at hM
  rw [w6] at hM y4
  have hnest : (Cond.methodLinkNest (cn (ocM y)) i (nmM z) "SchoolLosing").before args s = true := va_Nw.use rfl (C.kx.2.2.2.2.2 (cn (ocM y), i, nmM z) w1)
  refine xx_call (rv := r.map (cnc G)) (B := fun h => HX G n1 I1 L1 R1 h) (mc := n1 - n) (ms := slX n1 - slX n) (va_runIN (host := "SchoolLosing") (As := as.map (cnc G)) (rest := rest.map (cnc G)) (n := naM z - 1) ⟨C.x, C.b, C.ml, C.ow, C.ts⟩ hM ⟨⟨⟨rfl, rfl, by show rfM z + 1 ≤ _; omega, by show _ + rlM z ≤ _; omega, pay_in C.ts (gd_cw y4), List.mem_cons_self⟩, C.ts _ y4, C.ts _ y5, y1, prm_len w4, hnest⟩, w3, C.ts _ w2⟩ ⟨mt_blind, fun U hU hW => ⟨rfl, by rw [hU]; exact hz, by rw [hU]; exact hH, KX_next (locs := locs) C.kx hW (by rw [hU]; exact hS)⟩⟩ rfl (by simpa using hlen2) hl.1 rfl (lv_room (by rw [ws_eq]; exact hw)) hd ⟨by omega, by omega⟩) hS (fun H1 locs1 hH1 hS1 => ?_)
  have k' := k hlen hdb H1 locs1 lsM hH1 hS1 hl
  rw [tl_map, show n1 - n0 = n - n0 + (n1 - n) by omega, show slX n1 - slX n0 = slX n - slX n0 + (slX n1 - slX n) by omega] at k'
  exact k'
/-- where a method ends, with what -/
def RT (y pc : Nat) (r : Option Value) : Prop := (∃ v, decode (cdM y) pc = .ok (.ireturn, 1) ∧ r = some (.int v) ∧ rtX (rtM y) v) ∨ (∃ v, decode (cdM y) pc = .ok (.lreturn, 1) ∧ r = some (.long v) ∧ rtM y = some .long) ∨ (decode (cdM y) pc = .ok (.return_, 1) ∧ r = none ∧ rtM y = none)
/-- from every place of every method, with so much fuel -/
def WK (l : Launch) (G : GX) (f : Nat) : Prop := ∀ (y pc : Nat) (ls st : List Value) (n : Nat) (I : AI) (L : AL) (R : AR) (r : Option Value) (n1 : Nat) (I1 : AI) (L1 : AL) (R1 : AR), exec f y pc ls st n I L R = some (r, n1, I1, L1, R1) →
  n ≤ n1 ∧ ∀ (p : Program) (e : Env) (Rm : Room) (s : State) (m : MethodId) (args : Array Value) (below : List Frame) (meth : Method) (c : Code) (Q : State → Prop) (n0 : Nat), CX G p Rm s m args meth c y n0 → n0 ≤ n → n1 - n0 ≤ Rm.cells ∧ slX n1 - slX n0 ≤ Rm.slots →
  (∀ (pc2 : Nat) (H2 : Heap) (locs2 : List Loc) (ls2 : Array Slot), HX G n1 I1 L1 R1 H2 → va_S (AX G) s.heap H2 locs2 → RT y pc2 r → W p l e Rm s m args below meth c H2 locs2 (n1 - n0) (slX n1 - slX n0) Q (F0 m pc2 ls2 (r.toList.map (cnc G)))) →
  GD l G p e Rm s m args below meth c Q y n0 pc ls st n I L R
theorem en_0 (as : List Value) : enV 0 as = [] := by cases as <;> rfl
theorem en_n (k : Nat) : enV (k + 1) [] = .retAddr 0 :: enV k [] := by cases k <;> rfl
theorem en_i (k : Nat) (v : Int32) (r : List Value) : enV (k + 1) (.int v :: r) = .int v :: enV k r := by cases k <;> rfl
theorem en_r (k : Nat) (v : Nat) (r : List Value) : enV (k + 1) (.ref v :: r) = .ref v :: enV k r := by cases k <;> rfl
theorem en_l (k : Nat) (v : Int64) (r : List Value) : enV (k + 2) (.long v :: r) = .long v :: .retAddr 0 :: enV k r := by cases k <;> rfl
theorem en_rep : ∀ k : Nat, enV k [] = List.replicate k (.retAddr 0)
  | 0 => en_0 []
  | k + 1 => by rw [en_n, en_rep k]; rfl
theorem gd_c {v : Value} {r : List Value} (h : gdV (v :: r) = true) : gdV r = true ∧ ((∃ x, v = .int x) ∨ (∃ x, v = .ref x) ∨ ∃ x, v = .long x) := by
  rw [gdV, List.all_cons, Bool.and_eq_true] at h
  refine ⟨h.2, ?_⟩
  cases v with
  | int x => exact Or.inl ⟨x, rfl⟩
  | ref x => exact Or.inr (Or.inl ⟨x, rfl⟩)
  | long x => exact Or.inr (Or.inr ⟨x, rfl⟩)
  | _ => cases h.1
theorem en_all : ∀ (as : List Value) (k : Nat), gdV as = true → wsm as ≤ k → (enV k as).length = k ∧ (∀ v ∈ enV k as, ∀ b, v ≠ .double b) ∧ ∀ (G : GX) (i : Nat), ∀ q ∈ prs G i (enV k as), q ∈ lv_args i (as.map (cnc G))
  | [], k, _, _ => by
    rw [en_rep]
    refine ⟨List.length_replicate, fun v hv b e => ?_, fun G i q hq => ?_⟩
    · rw [(List.mem_replicate.mp hv).2] at e; cases e
    · obtain ⟨j, v, h1, h2, h3⟩ := prs_to hq
      have hv := List.mem_of_getElem? h1
      rw [(List.mem_replicate.mp hv).2] at h2
      cases h2
  | v :: r, k, h, hw => by
    obtain ⟨h2, hv⟩ := gd_c h
    rcases hv with ⟨x, rfl⟩ | ⟨x, rfl⟩ | ⟨x, rfl⟩
    · have hw2 : 1 + wsm r ≤ k := hw
      obtain ⟨k, rfl⟩ : ∃ j, k = j + 1 := ⟨k - 1, by omega⟩
      obtain ⟨a1, a2, a3⟩ := en_all r k h2 (by omega)
      rw [en_i]
      refine ⟨by rw [List.length_cons, a1], fun w hw b e => ?_, fun G i q hq => ?_⟩
      · rcases List.mem_cons.mp hw with q | q
        · rw [q] at e; cases e
        · exact a2 w q b e
      · rw [prs, if_neg (by simp [jkV])] at hq
        rw [List.map_cons, lv_args, if_neg (by rw [cnc_cat]; simp [Value.category])]
        rcases List.mem_cons.mp hq with e | e
        · rw [e]; exact List.mem_cons_self
        · exact List.mem_cons_of_mem _ (a3 G (i + 1) q e)
    · have hw2 : 1 + wsm r ≤ k := hw
      obtain ⟨k, rfl⟩ : ∃ j, k = j + 1 := ⟨k - 1, by omega⟩
      obtain ⟨a1, a2, a3⟩ := en_all r k h2 (by omega)
      rw [en_r]
      refine ⟨by rw [List.length_cons, a1], fun w hw b e => ?_, fun G i q hq => ?_⟩
      · rcases List.mem_cons.mp hw with q | q
        · rw [q] at e; cases e
        · exact a2 w q b e
      · rw [prs, if_neg (by simp [jkV])] at hq
        rw [List.map_cons, lv_args, if_neg (by rw [cnc_cat]; simp [Value.category])]
        rcases List.mem_cons.mp hq with e | e
        · rw [e]; exact List.mem_cons_self
        · exact List.mem_cons_of_mem _ (a3 G (i + 1) q e)
    · have hw2 : 2 + wsm r ≤ k := hw
      obtain ⟨k, rfl⟩ : ∃ j, k = j + 2 := ⟨k - 2, by omega⟩
      obtain ⟨a1, a2, a3⟩ := en_all r k h2 (by omega)
      rw [en_l]
      refine ⟨by rw [List.length_cons, List.length_cons, a1], fun w hw b e => ?_, fun G i q hq => ?_⟩
      · rcases List.mem_cons.mp hw with q | q
        · rw [q] at e; cases e
        · rcases List.mem_cons.mp q with q | q
          · rw [q] at e; cases e
          · exact a2 w q b e
      · rw [prs, if_neg (by simp [jkV]), prs, if_pos (by simp [jkV])] at hq
        rw [List.map_cons, lv_args, if_pos (by rw [cnc_cat]; simp [Value.category])]
        rcases List.mem_cons.mp hq with e | e
        · rw [e]; exact List.mem_cons_self
        · exact List.mem_cons_of_mem _ (a3 G (i + 2) q e)
theorem sl_len (vs : List Value) : (lg_sl vs).length = wsm vs := by
  induction vs with
  | nil => rfl
  | cons v r ih =>
    have e1 : lg_sl (v :: r) = (if v.category = 2 then [.val v, .second] else [.val v]) ++ lg_sl r := rfl
    have e2 : wsm (v :: r) = v.category + wsm r := rfl
    rw [e1, e2, List.length_append, ih]
    rcases lv_cat v with h | h <;> simp [h]
theorem mt_of {f z : Nat} {as : List Value} {r : Option Value} {n1 : Nat} {I1 : AI} {L1 : AL} {R1 : AR} (hK : WK l G f) (hy : yP z) (hg : gdV as = true) (hm : wsm as ≤ mlM z) (h : exec f z 0 (enV (mlM z) as) [] n I L R = some (r, n1, I1, L1, R1)) : MT l G z (as.map (cnc G)) n I L R r n1 I1 L1 R1 := by
  obtain ⟨y1, y2, y3, y4, y5, y6⟩ := hy
  refine Met.ofW (cc := cdM z) (maxL := mlM z) (ret := rtM z) y3 rfl ?_
  intro p e s m args below meth c s₁ B hml hv
  obtain ⟨rfl, hsz, hH, hkx⟩ := hv
  have hts := atoms_spec (ws := Cond.code (nmM z) (cdM z) (mlM z) (rtM z) :: tbX) B.pre
  have hown := findClass_of_methodNamed B.named
  rw [y2] at hown
  have C : CX G p (headSpec (Cond.code (nmM z) (cdM z) (mlM z) (rtM z) :: tbX) { frames := rfM z, cells := n1 - n, slots := slX n1 - slX n, locals := rlM z }).room s m (as.map (cnc G)).toArray meth c z n := ⟨B.exec, B.bytes, hml, B.returns, hown, fun w hw => hts w (List.mem_cons_of_mem _ hw), B.notSynchronized, Nat.le_refl _, Nat.le_refl _, (fun h => by rw [(name_of_methodNamed B.named B.method).1]; exact h), hkx, hsz⟩
  obtain ⟨hn1, hW⟩ := hK z 0 _ [] n I L R r n1 I1 L1 R1 h
  have hl0 := lv_entry (as.map (cnc G)) (n := mlM z) (by rw [sl_len]; unfold wsm; rw [ws_eq]; exact hm)
  rw [lg_entry_eq]
  generalize (lg_sl (as.map (cnc G)) ++ List.replicate (mlM z - (lg_sl (as.map (cnc G))).length) Slot.unset).toArray = lsM at hl0 ⊢
  have hl : lv_has lsM (mlM z) (prs G 0 (enV (mlM z) as)) := ⟨hl0.1, hl0.2.1, fun q hq => hl0.2.2 q ((en_all as _ hg hm).2.2 G 0 q hq)⟩
  have hg1 := hW p e _ s m _ below meth c (MQ below (fun _ st o t => o = .returned (r.map (cnc G)) ∧ HX G n1 I1 L1 R1 t.heap ∧ va_F (AX G) st t) (as.map (cnc G)).toArray s (n1 - n) (slX n1 - slX n) (AX G)) n C (Nat.le_refl _) ⟨Nat.le_refl _, Nat.le_refl _⟩ (fun pc2 H2 locs2 ls2 hH2 hS2 hrt => ?_)
  · have := hg1 (en_all as _ hg hm).1 (fun k b e => (en_all as _ hg hm).2.1 _ (List.mem_of_getElem? e) b rfl) s.heap [] lsM hH va_S.rf hl
    rw [Nat.sub_self, Nat.sub_self] at this
    exact this
  · have hlocks := B.notSynchronized
    have hret := B.returns
    rcases hrt with ⟨v, d1, rfl, d3⟩ | ⟨v, d1, rfl, d3⟩ | ⟨d1, rfl, d3⟩
    · have fin : ∀ t : State, t.heap = H2 → s.WarmedH t.vm → (Outcome.returned (some (Value.int v)) = .returned ((some (Value.int v)).map (cnc G)) ∧ HX G n1 I1 L1 R1 t.heap ∧ va_F (AX G) s t) := fun t ht _ => ⟨rfl, by rw [ht]; exact hH2, hS2.F ht⟩
      revert d3
      generalize hrt : rtM z = rt at hret
      intro d3
      unfold rtX at d3
      split at d3
      · exact W.iret B.exec B.bytes hret fin hS2.2.2 d1
      · refine W.zret B.exec B.bytes hret ?_ fin hS2.2.2 d1
        rcases d3 with rfl | rfl <;> decide
      · exact W.zret B.exec B.bytes hret d3 fin hS2.2.2 d1
      · exact W.zret B.exec B.bytes hret d3 fin hS2.2.2 d1
      · exact d3.elim
    · rw [d3] at hret
      exact W.lret B.exec B.bytes hret (fun t ht _ => ⟨rfl, by rw [ht]; exact hH2, hS2.F ht⟩) hS2.2.2 d1
    · rw [d3] at hret
      exact W.vret B.exec B.bytes hret (fun t ht _ => ⟨rfl, by rw [ht]; exact hH2, hS2.F ht⟩) hS2.2.2 d1
end SK
