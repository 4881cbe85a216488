/-! new cells; calls -/
theorem RA_of {G : GX} {s : State} (h : va_K G.2.1 clsX (tyG G) s) {t : Nat} (ht : t < 4) : s.vm.findClass ("[" ++ (tyT t).toString) = some (G.2.2.1 t) := by
  have := (h.2 t _ (tyG_at G ht)).2
  match t, ht, this with
  | 0, _, h => exact h
  | 1, _, h => exact h
  | 2, _, h => exact h
  | 3, _, h => exact h
  | t + 4, h, _ => omega
theorem cb_le {t : Nat} (ht : t < 4) : componentBytes (tyT t) ≤ 8 := by
  match t, ht with
  | 0, _ => decide
  | 1, _ => decide
  | 2, _ => decide
  | 3, _ => decide
  | t + 4, h => omega
def okT (t : FieldType) : Bool := match t with
  | .int => true
  | .boolean => true
  | .object _ => true
  | .array _ => true
  | _ => false
theorem okT_all : ∀ c, c < 10 → ∀ k, k < nfX c → okT (ftX c k) = true := by
  intro c hc
  match c, hc with
  | 0, _ => decide +kernel
  | 1, _ => decide +kernel
  | 2, _ => decide +kernel
  | 3, _ => decide +kernel
  | 4, _ => decide +kernel
  | 5, _ => decide +kernel
  | 6, _ => decide +kernel
  | 7, _ => decide +kernel
  | 8, _ => decide +kernel
  | 9, _ => decide +kernel
  | c + 10, h => omega
section SN
variable {l : Launch} {G : GX} {p : Program} {e : Env} {Rm : Room} {s : State} {m : MethodId} {args : Array Value} {below : List Frame} {meth : Method} {c : Code} {Q : State → Prop} {y n0 pc n : Nat} {ls st : List Value} {I : AI} {L : AL} {R : AR}
theorem s_newa {t : ArrayType} {mm : Int32} (C : CX G p Rm s m args meth c y n0) (hd : decode (cdM y) pc = .ok (.newarray t, 2)) (hn : n0 ≤ n) (h1 : ¬ mm < 0) (hs : shpL[pm n]? = some (.inr (atX t, mm.toNatClampNeg))) (h4 : atX t < 4) (hc : n + 1 - n0 ≤ Rm.cells ∧ slX (n + 1) - slX n0 ≤ Rm.slots) (k : GD l G p e Rm s m args below meth c Q y n0 (pc + 2) ls (.ref (pm n) :: st) (n + 1) (upr I (pm n) (fun _ => 0)) (upr L (pm n) (fun _ => 0)) R) : GD l G p e Rm s m args below meth c Q y n0 pc ls (.int mm :: st) n I L R := fun hlen hdb H locs lsM hH hS hl => by
  refine W.szd (fun hsz => ?_)
  have hz := HX_sz C hn hH hS hsz
  have hn3 := shp_lt hs
  rw [pm_lt (by decide)] at hn3
  have q4 := shp_4 _ _ hs
  have ety := atX_ty h4
  have hp3 : pm n < 123 := shp_lt hs
  have hsx : szX n = mm.toNatClampNeg := by unfold szX; rw [hs]
  have hsl : slX (n + 1) = slX n + mm.toNatClampNeg := by rw [← hsx]; rfl
  have hmono := slX_le hn
  have hcb := cb_le h4
  refine va_newaK C.x C.b (by rw [ety]; exact C.ts _ (ar_in h4)) rfl hd rfl h1 rfl ?_ (by omega) (by omega) hz (fun H1 cA e1 z1 o1 hAr hNm => ?_)
  · rw [ety]
    have : mm.toNatClampNeg * componentBytes (tyT (atX t)) ≤ 3000 * 8 := Nat.mul_le_mul q4.2 hcb
    omega
  · rw [ety] at hNm e1
    have ec : cA = G.2.2.1 (atX t) := Option.some.inj (hNm.symm.trans (RA_of C.kx.1 h4))
    subst ec
    have hk : ∀ (k : Nat) (x : Nat × va_E), (wrl G n I L R)[k]? = some x → H1[x.1]? = H[x.1]? := fun k x hx => o1 x.1 (by have := (hH.2.2 k x hx).lt; omega)
    have hcel : cel G (upr I (pm n) (fun _ => 0)) (upr L (pm n) (fun _ => 0)) R (pm n) = .inl (G.2.2.1 (atX t), (mm.toNatClampNeg, if atX t = 1 then .inr (.inl (fun _ => 0)) else .inl (fun _ => 0))) := by rw [cel_a hs, upr_s, upr_s]
    have hP1 : va_P G.2.1 clsX (wrl G (n + 1) (upr I (pm n) (fun _ => 0)) (upr L (pm n) (fun _ => 0)) R) H1 := by
      rw [wrl_app hcel (fun i h => upr_n h) (fun i h => upr_n h) (fun _ _ => rfl)]
      refine (hH.2.2.kept hk).app (fun k x hx => ?_)
      have hz2 : k < 1 := (List.getElem?_eq_some_iff.mp hx).1
      rw [show k = 0 by omega] at hx
      cases hx
      show H1[G.1 + n]? = some (vp_cell _ _)
      rw [e1]
      revert h4
      generalize atX t = u
      intro h4
      match u, h4 with
      | 0, _ => rfl
      | 1, _ => rfl
      | 2, _ => rfl
      | 3, _ => rfl
      | u + 4, h => omega
    have hS1 : va_S (AX G) s.heap H1 locs := ⟨Nat.le_trans hS.1 (by omega), fun x h1 h2 => (o1 x (by have := hS.1; omega)).trans (hS.2.1 x h1 h2), hS.2.2⟩
    have k' := k hlen hdb H1 locs lsM ⟨by rw [upr_n (show 1000 ≠ pm n by omega)]; exact hH.1, by rw [upr_n (show 1001 ≠ pm n by omega)]; exact hH.2.1, hP1⟩ hS1 hl
    rw [List.map_cons, cnc_r G (show pm n < 1000 by omega), ip_pm, show n + 1 - n0 = n - n0 + 1 by omega, show slX (n + 1) - slX n0 = slX n - slX n0 + mm.toNatClampNeg by omega] at k'
    exact k'
theorem s_new {i d : Nat} (C : CX G p Rm s m args meth c y n0) (hd : decode (cdM y) pc = .ok (.new i, 3)) (hn : n0 ≤ n) (hk0 : pickT clkL (ocM y) i = some d) (hs : shpL[pm n]? = some (.inl d)) (h4 : d < 10) (hc : n + 1 - n0 ≤ Rm.cells ∧ slX (n + 1) - slX n0 ≤ Rm.slots) (k : GD l G p e Rm s m args below meth c Q y n0 (pc + 3) ls (.ref (pm n) :: st) (n + 1) (upr I (pm n) (fun _ => 0)) L (upr R (pm n) (fun _ => none))) : GD l G p e Rm s m args below meth c Q y n0 pc ls st n I L R := fun hlen hdb H locs lsM hH hS hl => by
  refine W.szd (fun hsz => ?_)
  have hz := HX_sz C hn hH hS hsz
  have hn3 := shp_lt hs
  rw [pm_lt (by decide)] at hn3
  have hp3 : pm n < 123 := shp_lt hs
  have hsx : szX n = nfX d := by unfold szX; rw [hs]
  have hsl : slX (n + 1) = slX n + nfX d := by rw [← hsx]; rfl
  have hmono := slX_le hn
  obtain ⟨c1, c2, c3, c4, c5⟩ := ci_ok h4
  obtain ⟨w1, w2, w3⟩ := ck_all _ (pickT_in hk0)
  dsimp only at w1 w2 w3
  have hKn := C.kx.1.1 d _ c1
  refine W.newcK C.x C.b C.ow (C.ts _ w1) (C.ts _ w2) (C.ts _ w3) rfl hd (by omega) (by omega) hKn.2.1 hz (fun H1 kC hkC e1 z1 o1 => ?_)
  have hk : ∀ (k : Nat) (x : Nat × va_E), (wrl G n I L R)[k]? = some x → H1[x.1]? = H[x.1]? := fun k x hx => o1 x.1 (by have := (hH.2.2 k x hx).lt; omega)
  have hcel : cel G (upr I (pm n) (fun _ => 0)) L (upr R (pm n) (fun _ => none)) (pm n) = .inr (d, (List.range (nfX d)).map fun k => cnc G (fvX (ftX d k) (upr I (pm n) (fun _ => 0)) (upr R (pm n) (fun _ => none)) (pm n) k)) := cel_o hs
  have hP1 : va_P G.2.1 clsX (wrl G (n + 1) (upr I (pm n) (fun _ => 0)) L (upr R (pm n) (fun _ => none))) H1 := by
    rw [wrl_app hcel (fun i h => upr_n h) (fun _ _ => rfl) (fun i h => upr_n h)]
    refine (hH.2.2.kept hk).app (fun k x hx => ?_)
    have hz2 : k < 1 := (List.getElem?_eq_some_iff.mp hx).1
    rw [show k = 0 by omega] at hx
    cases hx
    refine ⟨_, c1, (u_born (ftX d) C.ts c2 hKn hkC e1 c3).to (fun q hq => ?_)⟩
    have hq2 : q < nfX d := hq
    have ho := okT_all d h4 q hq2
    rw [vp_V, List.getD_eq_getElem?_getD]
    simp only [List.getElem?_map, List.getElem?_range hq2, Option.map_some, Option.getD_some]
    unfold fvX
    rw [upr_s, upr_s]
    revert ho
    generalize ftX d q = t
    intro ho
    cases t <;> first | rfl | (simp [okT] at ho)
  have hS1 : va_S (AX G) s.heap H1 locs := ⟨Nat.le_trans hS.1 (by omega), fun x h1 h2 => (o1 x (by have := hS.1; omega)).trans (hS.2.1 x h1 h2), hS.2.2⟩
  have k' := k hlen hdb H1 locs lsM ⟨by rw [upr_n (show 1000 ≠ pm n by omega)]; exact hH.1, by rw [upr_n (show 1001 ≠ pm n by omega)]; exact hH.2.1, hP1⟩ hS1 hl
  rw [List.map_cons, cnc_r G (show pm n < 1000 by omega), ip_pm, show n + 1 - n0 = n - n0 + 1 by omega, show slX (n + 1) - slX n0 = slX n - slX n0 + nfX d by omega] at k'
  exact k'
/-- behind a call -/
theorem xx_call {H H0 : Heap} {locs : List Loc} {cells slots mc ms : Nat} {lsM : Array Slot} {st0 rest : List Value} {rv : Option Value} {B : Heap → Prop} {A0 : Nat → Prop} (hr : va_Run p l e Rm s m args below meth c H locs cells slots mc ms (F0 m pc lsM st0) rest (fun st oc t => oc = .returned rv ∧ B t.heap ∧ va_F A0 st t) A0) (hS : va_S A0 H0 H locs)
    (kk : ∀ (H1 : Heap) (locs1 : List Loc), B H1 → va_S A0 H0 H1 locs1 → W p l e Rm s m args below meth c H1 locs1 (cells + mc) (slots + ms) Q (F0 m (pc + 3) lsM (rv.toList ++ rest))) : W p l e Rm s m args below meth c H locs cells slots Q (F0 m pc lsM st0) := by
  intro T hT X
  obtain ⟨v, st₀, t, T', L1, h0, X', hL, e1, e2, ⟨hv, hb, hz, hk⟩, st⟩ := hr T hT X
  cases hv
  rw [h0] at hz hk
  obtain ⟨t2, a1, b1⟩ := kk T'.heap (locs ++ L1) (by rw [e1]; exact hb)
    ⟨Nat.le_trans hS.1 (by rw [e1]; exact hz), fun q h1 h2 => by rw [e1, hk q (Nat.lt_of_lt_of_le h1 hS.1) h2]; exact hS.2.1 q h1 h2, fun q hq => by
      rcases List.mem_append.mp hq with h | h
      · exact hS.2.2 q h
      · exact hL q h⟩ T' rfl X'
  exact ⟨t2, st t2 a1, b1⟩
/-- what a method does, as a contract -/
def MT (l : Launch) (G : GX) (z : Nat) (vs : List Value) (n : Nat) (I : AI) (L : AL) (R : AR) (r : Option Value) (n1 : Nat) (I1 : AI) (L1 : AL) (R1 : AR) : Prop :=
  Met l (nmM z) (Cond.code (nmM z) (cdM z) (mlM z) (rtM z) :: tbX) { frames := rfM z, cells := n1 - n, slots := slX n1 - slX n, locals := rlM z } (va_Pc vs (fun U => U.heap.size = G.1 + n ∧ HX G n I L R U.heap ∧ KX G U)) (fun _ st o t => o = .returned (r.map (cnc G)) ∧ HX G n1 I1 L1 R1 t.heap ∧ va_F (AX G) st t) (n1 - n) (slX n1 - slX n) (AX G)
theorem mt_blind {vs : List Value} : FrameBlind (va_Pc vs (fun U => U.heap.size = G.1 + n ∧ HX G n I L R U.heap ∧ KX G U)) := fun a U g mk h => ⟨h.1, h.2.1, h.2.2.1, KX_same h.2.2.2 rfl rfl⟩
theorem mt_good {z : Nat} (h : Cond.code (nmM z) (cdM z) (mlM z) (rtM z) ∈ tbX) : GoodIn tbX (Cond.code (nmM z) (cdM z) (mlM z) (rtM z) :: tbX) := fun w hw => by
  rcases List.mem_cons.mp hw with e | e
  · rw [e]; exact tbX_good _ h
  · exact tbX_good w e
theorem tl_map (r : Option Value) (rest : List Value) : (r.toList ++ rest).map (cnc G) = (r.map (cnc G)).toList ++ rest.map (cnc G) := by cases r <;> simp
theorem prm_len {z k : Nat} (h : prM z = some k) : ∀ sig, parseMethodDescriptor (nmM z).desc = some sig → k = sig.parameters.length := fun sig hs => by
  unfold prM at h
  rw [hs] at h
  exact (Option.some.inj h).symm
theorem s_callV {i z o : Nat} {as rest : List Value} {r : Option Value} {n1 : Nat} {I1 : AI} {L1 : AL} {R1 : AR} (C : CX G p Rm s m args meth c y n0) (hd : decode (cdM y) pc = .ok (.invokevirtual i, 3)) (hk : lkP (ocM y) (i, 0, z)) (hn : n0 ≤ n) (hn1 : n ≤ n1) (ho : obX n o = ocM z) (ha : (Value.ref o :: as).length = naM z) (hr : rfM z + 1 ≤ rfM y ∧ 8 + (mlM z + 11) + rlM z ≤ rlM y) (hw : wsm rest ≤ 8) (hc : n1 - n0 ≤ Rm.cells ∧ slX n1 - slX n0 ≤ Rm.slots) (hM : MT l G z ((Value.ref o :: as).map (cnc G)) n I L R r n1 I1 L1 R1) (k : GD l G p e Rm s m args below meth c Q y n0 (pc + 3) ls (r.toList ++ rest) n1 I1 L1 R1) : GD l G p e Rm s m args below meth c Q y n0 pc ls ((Value.ref o :: as).reverse ++ rest) n I L R := fun hlen hdb H locs lsM hH hS hl => by
  obtain ⟨w1, w2, w3, w4, w5, ⟨y1, y2, y3, y4, y5, y6⟩⟩ := hk
  dsimp only at w1 w2 w3 w4 w5 y1 y2 y3 y4 y5 y6
  refine W.szd (fun hsz => ?_)
  have hz := HX_sz C hn hH hS hsz
  have hf := C.rf
  have hl2 := C.rl
  have m1 := slX_le hn
  have m2 := slX_le hn1
  obtain ⟨b, hb, hcell⟩ : ∃ b, cnc G (.ref o) = .ref b ∧ ∃ cellB : Cell, H[b]? = some cellB ∧ cellB.vm.isStatics = false ∧ s.vm.findClass (nmM z).cls = some cellB.cls := by
    by_cases h10 : ocM z < 10
    · obtain ⟨h1, h2⟩ := ob_in ho h10
      have h3 := shp_lt h2
      obtain ⟨c1, c2, c3, c4, c5⟩ := ci_ok h10
      refine ⟨G.1 + ip o, cnc_r G (by omega), ?_⟩
      rw [y2]
      exact va_recv C.kx.1 hH.2.2 c1 (q0 := ip o) (by rw [wrl_get h1, cel_o h2])
    · have hob : obX n o = 13 := by
        unfold obX at ho ⊢
        split at ho
        · cases hs : shpL[o]? with
          | none => rw [hs] at ho; dsimp only at ho; omega
          | some q =>
            cases q with
            | inl d => rw [hs] at ho; dsimp only at ho; have := shp_10 o d hs; omega
            | inr d => rw [hs] at ho; dsimp only at ho; omega
        · rename_i hno
          rw [if_neg hno]
          split at ho
          · rename_i e1; rw [if_pos e1]
          · rename_i e1
            rw [if_neg e1]
            split at ho
            · rename_i e2; rw [if_pos e2]
            · omega
      have e13 : (nmM z).cls = "java/lang/String" := by rw [y2, ← ho, hob]; rfl
      obtain ⟨adK, adV, v1, v2, v3, v4, v5, v6, v7⟩ := C.kx.2.2.1
      rcases ob_13 hob (shp_10 o) with rfl | rfl
      · refine ⟨adK 0, by rw [cnc_x G (by decide), v2]; rfl, ?_⟩
        rw [e13]; exact vk_recv v1 (by decide) hS
      · refine ⟨adK 1, by rw [cnc_x G (by decide), v3]; rfl, ?_⟩
        rw [e13]; exact vk_recv v1 (by decide) hS
  have hst : ((Value.ref o :: as).reverse ++ rest).map (cnc G) = (as.map (cnc G)).reverse ++ .ref b :: rest.map (cnc G) := by
    rw [List.reverse_cons, List.map_append, List.map_append, List.map_reverse, List.append_assoc]
    show _ ++ (cnc G (.ref o) :: _) = _
    rw [hb]
    rfl
  rw [hst]
  rw [List.map_cons, hb] at hM
  have hlen2 : as.length = naM z - 1 := by have : as.length + 1 = naM z := by simpa using ha
                                           omega
  refine xx_call (rv := r.map (cnc G)) (B := fun h => HX G n1 I1 L1 R1 h) (mc := n1 - n) (ms := slX n1 - slX n) (va_runV (As := as.map (cnc G)) (rest := rest.map (cnc G)) (C := (nmM z).cls) (n := naM z - 1) ⟨C.x, C.b, C.ml, C.ow, C.ts⟩ hM ⟨⟨rfl, rfl, by show rfM z + 1 ≤ _; omega, by show _ + rlM z ≤ _; omega, pay_in C.ts (mt_good y4), List.mem_cons_self, C.ts _ y4, C.ts _ y5, y1, prm_len w4, C.ts _ w1⟩, C.ts _ w2, C.ts _ w3⟩ ⟨mt_blind, hcell, fun U hU hW => ⟨rfl, by rw [hU]; exact hz, by rw [hU]; exact hH, KX_next (locs := locs) C.kx hW (by rw [hU]; exact hS)⟩⟩ rfl (by simpa using hlen2) hl.1 rfl (lv_room (by rw [ws_eq]; exact hw)) hd ⟨by omega, by omega⟩) hS (fun H1 locs1 hH1 hS1 => ?_)
  have k' := k hlen hdb H1 locs1 lsM hH1 hS1 hl
  rw [tl_map, show n1 - n0 = n - n0 + (n1 - n) by omega, show slX n1 - slX n0 = slX n - slX n0 + (slX n1 - slX n) by omega] at k'
  exact k'
end SN
