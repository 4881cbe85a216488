/-! arrays, new cells, what the library does itself -/
theorem slX_le : ∀ {a b : Nat}, a ≤ b → slX a ≤ slX b := by
  intro a b h
  obtain ⟨d, rfl⟩ := Nat.le.dest h
  induction d with
  | zero => exact Nat.le_refl _
  | succ d ih => exact Nat.le_trans (ih (Nat.le_add_right a d)) (Nat.le_add_right _ _)
theorem upd_upr (f : Nat → Int32) (k : Nat) (v : Int32) : upd f k v = upr f k v := rfl
theorem updL_upr (f : Nat → Int64) (k : Nat) (v : Int64) : vp_updL f k v = upr f k v := rfl
def tyT (t : Nat) : FieldType := match t with
  | 0 => .int
  | 1 => .long
  | 2 => .byte
  | _ => .boolean
theorem tyG_at (G : GX) {t : Nat} (h : t < 4) : (tyG G)[t]? = some (G.2.2.1 t, tyT t) := by
  match t, h with
  | 0, _ => rfl
  | 1, _ => rfl
  | 2, _ => rfl
  | 3, _ => rfl
  | t + 4, h => omega
theorem atX_ty {t : ArrayType} (h : atX t < 4) : newarray.typeOf t = tyT (atX t) := by cases t <;> first | rfl | (simp [atX] at h)
theorem ar_in {t : Nat} (h : t < 4) : Cond.arrayClass (tyT t) ∈ tbX := by
  match t, h with
  | 0, _ => exact ar_int
  | 1, _ => exact ar_long
  | 2, _ => exact ar_byte
  | 3, _ => exact ar_boolean
  | t + 4, h => omega
section SZ
variable {l : Launch} {G : GX} {p : Program} {e : Env} {Rm : Room} {s : State} {m : MethodId} {args : Array Value} {below : List Frame} {meth : Method} {c : Code} {Q : State → Prop} {y n0 pc n : Nat} {ls st : List Value} {I : AI} {L : AL} {R : AR}
theorem W.szd {H : Heap} {locs : List Loc} {cells slots : Nat} {g : JFrame} (h : H.size ≤ s.heap.size + cells → W p l e Rm s m args below meth c H locs cells slots Q g) : W p l e Rm s m args below meth c H locs cells slots Q g := fun T hT X => h (by rw [← hT]; exact X.heapSize) T hT X
theorem HX_sz {H : Heap} {locs : List Loc} (C : CX G p Rm s m args meth c y n0) (hn : n0 ≤ n) (hH : HX G n I L R H) (hS : va_S (AX G) s.heap H locs) (h : H.size ≤ s.heap.size + (n - n0)) : H.size = G.1 + n := by
  have h1 := C.sz
  have h2 : G.1 + n ≤ H.size := by
    rcases Nat.eq_or_lt_of_le hn with e | e
    · subst e
      rw [← h1]; exact hS.1
    · have := (hH.2.2 (n - 1) _ (wrl_at (by omega))).lt
      dsimp only at this
      omega
  omega
theorem wa_at {a t q : Nat} (ha : ip a < n) (h : shpL[a]? = some (.inr (t, q))) (ht : t ≠ 1) : (wrl G n I L R)[ip a]? = some (G.1 + ip a, .inl (G.2.2.1 t, q, .inl (I a))) := by rw [wrl_get ha, cel_a h]; dsimp only; rw [if_neg ht]
theorem wl_at {a q : Nat} (ha : ip a < n) (h : shpL[a]? = some (.inr (1, q))) : (wrl G n I L R)[ip a]? = some (G.1 + ip a, .inl (G.2.2.1 1, q, .inr (.inl (L a)))) := by rw [wrl_get ha, cel_a h]; rfl
theorem s_iaload {a : Nat} {j : Int32} (C : CX G p Rm s m args meth c y n0) (hd : decode (cdM y) pc = .ok (.iaload, 1)) (ht : tgX n a = 0) (hj : vp_in j (lnX n I a)) (k : GD l G p e Rm s m args below meth c Q y n0 (pc + 1) ls (.int (I a j.toNatClampNeg) :: st) n I L R) : GD l G p e Rm s m args below meth c Q y n0 pc ls (.int j :: .ref a :: st) n I L R := fun hlen hdb H locs lsM hH hS hl => by
  have k' := k hlen hdb H locs lsM hH hS hl
  by_cases ha : ip a < n
  · obtain ⟨q, h1, h2⟩ := tg_in ht (by decide) ha
    have h3 := shp_lt h1
    rw [h2] at hj
    rw [List.map_cons, List.map_cons, cnc_r G (show a < 1000 by omega)]
    exact va_iald C.x C.b C.kx.1 hH.2.2 (ip a) 0 (wa_at ha h1 (by decide)) (tyG_at G (by decide)) hj hd k'
  · rcases tg_out (by omega) ha with ⟨rfl, -⟩ | ⟨rfl, h⟩ | ⟨rfl, h⟩
    · obtain ⟨b, ⟨b1, b0⟩, b2, b3, b4⟩ := C.kx.2.1
      have e1 : lnX n I 1000 = (G.2.2.2.2.2).toNatClampNeg := by unfold lnX; rw [if_neg ha, if_pos rfl, hH.2.1]
      rw [e1] at hj
      rw [hH.1] at k'
      rw [List.map_cons, List.map_cons, cnc_x G (by decide), b1]
      exact va_sld C.x C.b b4 b3 (Nat.not_le.mpr b2) hS hj hd k'
    · omega
    · omega
theorem s_laload {a : Nat} {j : Int32} (C : CX G p Rm s m args meth c y n0) (hd : decode (cdM y) pc = .ok (.laload, 1)) (ht : tgX n a = 1) (hj : vp_in j (lnX n I a)) (k : GD l G p e Rm s m args below meth c Q y n0 (pc + 1) ls (.long (L a j.toNatClampNeg) :: st) n I L R) : GD l G p e Rm s m args below meth c Q y n0 pc ls (.int j :: .ref a :: st) n I L R := fun hlen hdb H locs lsM hH hS hl => by
  have k' := k hlen hdb H locs lsM hH hS hl
  by_cases ha : ip a < n
  · obtain ⟨q, h1, h2⟩ := tg_in ht (by decide) ha
    have h3 := shp_lt h1
    rw [h2] at hj
    rw [List.map_cons, List.map_cons, cnc_r G (show a < 1000 by omega)]
    exact va_lald C.x C.b C.kx.1 hH.2.2 (ip a) 1 (wl_at ha h1) (tyG_at G (by decide)) hj hd k'
  · rcases tg_out (by omega) ha with ⟨rfl, h⟩ | ⟨rfl, h⟩ | ⟨rfl, h⟩ <;> omega
theorem s_baload {a : Nat} {j : Int32} (C : CX G p Rm s m args meth c y n0) (hd : decode (cdM y) pc = .ok (.baload, 1)) (ht : tgX n a = 2 ∨ tgX n a = 3) (hj : vp_in j (lnX n I a)) (k : GD l G p e Rm s m args below meth c Q y n0 (pc + 1) ls (.int (rdB I a j.toNatClampNeg) :: st) n I L R) : GD l G p e Rm s m args below meth c Q y n0 pc ls (.int j :: .ref a :: st) n I L R := fun hlen hdb H locs lsM hH hS hl => by
  have k' := k hlen hdb H locs lsM hH hS hl
  by_cases ha : ip a < n
  · have h4 : tgX n a < 4 := by omega
    obtain ⟨q, h1, h2⟩ := tg_in rfl h4 ha
    have h3 := shp_lt h1
    rw [h2] at hj
    have er : rdB I a j.toNatClampNeg = I a j.toNatClampNeg := by unfold rdB; rw [if_neg (by omega), if_neg (by omega)]
    rw [er] at k'
    rw [List.map_cons, List.map_cons, cnc_r G (show a < 1000 by omega)]
    rcases ht with ht | ht
    · rw [ht] at h1
      exact va_bald C.x C.b C.kx.1 hH.2.2 (ip a) 2 (wa_at ha h1 (by decide)) (tyG_at G (by decide)) hj hd k'
    · rw [ht] at h1
      exact va_zald C.x C.b C.kx.1 hH.2.2 (ip a) 3 (wa_at ha h1 (by decide)) (tyG_at G (by decide)) hj hd k'
  · obtain ⟨adK, adV, v1, v2, v3, v4, v5, v6, v7⟩ := C.kx.2.2.1
    obtain ⟨s1, s2, s3, s4⟩ := v1.1 0 (by decide)
    obtain ⟨t1, t2, t3, t4⟩ := v1.1 1 (by decide)
    rcases tg_out (by omega) ha with ⟨rfl, h⟩ | ⟨rfl, h⟩ | ⟨rfl, h⟩
    · omega
    · have e1 : lnX n I 1002 = 120 := by unfold lnX; rw [if_neg ha]; rfl
      rw [e1] at hj
      rw [List.map_cons, List.map_cons, cnc_x G (by decide), v4]
      exact va_tb C.x C.b s4 hS hj rfl hd k'
    · have e1 : lnX n I 1003 = 9 := by unfold lnX; rw [if_neg ha]; rfl
      rw [e1] at hj
      rw [List.map_cons, List.map_cons, cnc_x G (by decide), v5]
      exact va_tb C.x C.b t4 hS hj rfl hd k'
theorem s_alen {a : Nat} (C : CX G p Rm s m args meth c y n0) (hd : decode (cdM y) pc = .ok (.arraylength, 1)) (ht : tgX n a < 4) (k : GD l G p e Rm s m args below meth c Q y n0 (pc + 1) ls (.int (Int32.ofNat (lnX n I a)) :: st) n I L R) : GD l G p e Rm s m args below meth c Q y n0 pc ls (.ref a :: st) n I L R := fun hlen hdb H locs lsM hH hS hl => by
  have k' := k hlen hdb H locs lsM hH hS hl
  by_cases ha : ip a < n
  · obtain ⟨q, h1, h2⟩ := tg_in rfl ht ha
    have h3 := shp_lt h1
    rw [h2] at k'
    rw [List.map_cons, cnc_r G (show a < 1000 by omega)]
    exact va_alen (x := (q, if tgX n a = 1 then .inr (.inl (L a)) else .inl (I a))) C.x C.b C.kx.1 hH.2.2 (ip a) (tgX n a) (by rw [wrl_get ha, cel_a h1]) (tyG_at G ht) rfl hd k'
  · obtain ⟨adK, adV, v1, v2, v3, v4, v5, v6, v7⟩ := C.kx.2.2.1
    obtain ⟨s1, s2, s3, s4⟩ := v1.1 0 (by decide)
    obtain ⟨t1, t2, t3, t4⟩ := v1.1 1 (by decide)
    rcases tg_out ht ha with ⟨rfl, h⟩ | ⟨rfl, h⟩ | ⟨rfl, h⟩
    · obtain ⟨b, ⟨b1, b0⟩, b2, b3, b4⟩ := C.kx.2.1
      have e1 : lnX n I 1000 = (G.2.2.2.2.2).toNatClampNeg := by unfold lnX; rw [if_neg ha, if_pos rfl, hH.2.1]
      rw [e1] at k'
      rw [List.map_cons, cnc_x G (by decide), b1]
      exact va_slen C.x C.b b4 b3 (Nat.not_le.mpr b2) hS hd k'
    · have e1 : lnX n I 1002 = 120 := by unfold lnX; rw [if_neg ha]; rfl
      rw [e1] at k'
      rw [List.map_cons, cnc_x G (by decide), v4]
      exact va_tlen C.x C.b s4 hS rfl hd k'
    · have e1 : lnX n I 1003 = 9 := by unfold lnX; rw [if_neg ha]; rfl
      rw [e1] at k'
      rw [List.map_cons, cnc_x G (by decide), v5]
      exact va_tlen C.x C.b t4 hS rfl hd k'
theorem upI_ne {f : AI} {a j : Nat} {v : Int32} : ∀ i, i ≠ a → up2 f a j v i = f i := fun i h => up2_n h
theorem upL_ne {f : AL} {a j : Nat} {v : Int64} : ∀ i, i ≠ a → up2 f a j v i = f i := fun i h => up2_n h
theorem s_iastore {a : Nat} {j v : Int32} (C : CX G p Rm s m args meth c y n0) (hd : decode (cdM y) pc = .ok (.iastore, 1)) (ha : ip a < n) (ht : tgX n a = 0) (hj : vp_in j (lnX n I a)) (k : GD l G p e Rm s m args below meth c Q y n0 (pc + 1) ls st n (up2 I a j.toNatClampNeg v) L R) : GD l G p e Rm s m args below meth c Q y n0 pc ls (.int v :: .int j :: .ref a :: st) n I L R := fun hlen hdb H locs lsM hH hS hl => by
  obtain ⟨q, h1, h2⟩ := tg_in ht (by decide) ha
  have h3 := shp_lt h1
  rw [h2] at hj
  rw [List.map_cons, List.map_cons, List.map_cons, cnc_r G (show a < 1000 by omega)]
  refine va_iast C.x C.b C.kx.1 hH.2.2 (wrl_D G n I L R) hS (ip a) 0 (wa_at ha h1 (by decide)) (tyG_at G (by decide)) hj hd (fun H1 locs1 hP1 hD1 hS1 => ?_)
  rw [wrl_set (I' := up2 I a j.toNatClampNeg v) (L' := L) (R' := R) ha (by rw [cel_a h1, up2_s]; rfl) upI_ne (fun _ _ => rfl) (fun _ _ => rfl)] at hP1
  exact k hlen hdb H1 locs1 lsM ⟨by rw [upI_ne 1000 (by omega)]; exact hH.1, by rw [upI_ne 1001 (by omega)]; exact hH.2.1, hP1⟩ hS1 hl
theorem s_lastore {a : Nat} {j : Int32} {v : Int64} (C : CX G p Rm s m args meth c y n0) (hd : decode (cdM y) pc = .ok (.lastore, 1)) (ha : ip a < n) (ht : tgX n a = 1) (hj : vp_in j (lnX n I a)) (k : GD l G p e Rm s m args below meth c Q y n0 (pc + 1) ls st n I (up2 L a j.toNatClampNeg v) R) : GD l G p e Rm s m args below meth c Q y n0 pc ls (.long v :: .int j :: .ref a :: st) n I L R := fun hlen hdb H locs lsM hH hS hl => by
  obtain ⟨q, h1, h2⟩ := tg_in ht (by decide) ha
  have h3 := shp_lt h1
  rw [h2] at hj
  rw [List.map_cons, List.map_cons, List.map_cons, cnc_r G (show a < 1000 by omega)]
  refine va_last C.x C.b C.kx.1 hH.2.2 (wrl_D G n I L R) hS (ip a) 1 (wl_at ha h1) (tyG_at G (by decide)) hj hd (fun H1 locs1 hP1 hD1 hS1 => ?_)
  rw [wrl_set (I' := I) (L' := up2 L a j.toNatClampNeg v) (R' := R) ha (by rw [cel_a h1, up2_s]; rfl) (fun _ _ => rfl) upL_ne (fun _ _ => rfl)] at hP1
  exact k hlen hdb H1 locs1 lsM ⟨hH.1, hH.2.1, hP1⟩ hS1 hl
theorem s_bastore {a : Nat} {j v : Int32} (C : CX G p Rm s m args meth c y n0) (hd : decode (cdM y) pc = .ok (.bastore, 1)) (ha : ip a < n) (ht : tgX n a = 2 ∨ tgX n a = 3) (hj : vp_in j (lnX n I a)) (k : GD l G p e Rm s m args below meth c Q y n0 (pc + 1) ls st n (up2 I a j.toNatClampNeg (nrB (tgX n a) v)) L R) : GD l G p e Rm s m args below meth c Q y n0 pc ls (.int v :: .int j :: .ref a :: st) n I L R := fun hlen hdb H locs lsM hH hS hl => by
  have h4 : tgX n a < 4 := by omega
  obtain ⟨q, h1, h2⟩ := tg_in rfl h4 ha
  have h3 := shp_lt h1
  rw [h2] at hj
  rw [List.map_cons, List.map_cons, List.map_cons, cnc_r G (show a < 1000 by omega)]
  rcases ht with ht | ht
  · rw [ht] at h1 k
    refine va_bast C.x C.b C.kx.1 hH.2.2 (wrl_D G n I L R) hS (ip a) 2 (wa_at ha h1 (by decide)) (tyG_at G (by decide)) hj hd (fun H1 locs1 hP1 hD1 hS1 => ?_)
    rw [wrl_set (I' := up2 I a j.toNatClampNeg (nrB 2 v)) (L' := L) (R' := R) ha (by rw [cel_a h1, up2_s]; rfl) upI_ne (fun _ _ => rfl) (fun _ _ => rfl)] at hP1
    exact k hlen hdb H1 locs1 lsM ⟨by rw [upI_ne 1000 (by omega)]; exact hH.1, by rw [upI_ne 1001 (by omega)]; exact hH.2.1, hP1⟩ hS1 hl
  · rw [ht] at h1 k
    refine va_zast C.x C.b C.kx.1 hH.2.2 (wrl_D G n I L R) hS (ip a) 3 (wa_at ha h1 (by decide)) (tyG_at G (by decide)) hj hd (fun H1 locs1 hP1 hD1 hS1 => ?_)
    rw [wrl_set (I' := up2 I a j.toNatClampNeg (nrB 3 v)) (L' := L) (R' := R) ha (by rw [cel_a h1, up2_s]; rfl) upI_ne (fun _ _ => rfl) (fun _ _ => rfl)] at hP1
    exact k hlen hdb H1 locs1 lsM ⟨by rw [upI_ne 1000 (by omega)]; exact hH.1, by rw [upI_ne 1001 (by omega)]; exact hH.2.1, hP1⟩ hS1 hl
theorem s_copy {i a b : Nat} {mm dp sp : Int32} (C : CX G p Rm s m args meth c y n0) (hd : decode (cdM y) pc = .ok (.invokestatic i, 3)) (hk : lkP (ocM y) (i, 5, 0)) (ha : ip a < n) (hb : ip b < n) (ta : tgX n a = 0) (tb : tgX n b = 0) (h1 : ¬ sp < 0) (h2 : ¬ dp < 0) (h3 : ¬ mm < 0) (h4 : sp.toNatClampNeg + mm.toNatClampNeg ≤ lnX n I a) (h5 : dp.toNatClampNeg + mm.toNatClampNeg ≤ lnX n I b) (hr : 1 ≤ rfM y) (hw : (st.map fun v => v.category).sum + 18 ≤ rlM y) (k : GD l G p e Rm s m args below meth c Q y n0 (pc + 3) ls st n (upr I b (va_cpy (I a) (I b) sp.toNatClampNeg dp.toNatClampNeg mm.toNatClampNeg)) L R) : GD l G p e Rm s m args below meth c Q y n0 pc ls (.int mm :: .int dp :: .ref b :: .int sp :: .ref a :: st) n I L R := fun hlen hdb H locs lsM hH hS hl => by
  obtain ⟨qa, a1, a2⟩ := tg_in ta (by decide) ha
  obtain ⟨qb, b1, b2⟩ := tg_in tb (by decide) hb
  have a3 := shp_lt a1
  have b3 := shp_lt b1
  rw [a2] at h4
  rw [b2] at h5
  have ws : ((st.map (cnc G)).map fun v => v.category).sum = (st.map fun v => v.category).sum := by
    rw [List.map_map]; congr 1; apply List.map_congr_left; intro v _; exact cnc_cat G v
  rw [List.map_cons, List.map_cons, List.map_cons, List.map_cons, List.map_cons, cnc_r G (show a < 1000 by omega), cnc_r G (show b < 1000 by omega)]
  have hlk : Cond.methodLink (cn (ocM y)) i arraycopyName ∈ tbX := hk
  refine va_copyi C.x C.b (by rw [C.ml, hl.1]) C.ow (C.ts _ hlk) (C.ts _ acP.1) (C.ts _ acP.2.1) (C.ts _ acP.2.2) C.kx.1 hH.2.2 (wrl_D G n I L R) hS (ip a) (ip b) 0 0 (wa_at ha a1 (by decide)) (wa_at hb b1 (by decide)) (tyG_at G (by decide)) (tyG_at G (by decide)) rfl h1 h2 h3 h4 h5 (fun _ _ => rfl) (Nat.le_trans hr C.rf) (by rw [ws]; exact Nat.le_trans hw C.rl) hd (fun H1 locs1 hP1 hD1 hS1 => ?_)
  rw [wrl_set (I' := upr I b (va_cpy (I a) (I b) sp.toNatClampNeg dp.toNatClampNeg mm.toNatClampNeg)) (L' := L) (R' := R) hb (by rw [cel_a b1, upr_s]; rfl) (fun i h => upr_n h) (fun _ _ => rfl) (fun _ _ => rfl)] at hP1
  exact k hlen hdb H1 locs1 lsM ⟨by rw [upr_n (show 1000 ≠ b by omega)]; exact hH.1, by rw [upr_n (show 1001 ≠ b by omega)]; exact hH.2.1, hP1⟩ hS1 hl
theorem ws_eq (G : GX) (st : List Value) : ((st.map (cnc G)).map fun v => v.category).sum = (st.map fun v => v.category).sum := by
  rw [List.map_map]; congr 1; apply List.map_congr_left; intro v _; exact cnc_cat G v
theorem s_max {i : Nat} {a b : Int32} (C : CX G p Rm s m args meth c y n0) (hd : decode (cdM y) pc = .ok (.invokestatic i, 3)) (hk : lkP (ocM y) (i, 6, 0)) (hr : 1 ≤ rfM y) (hw : (st.map fun v => v.category).sum + 13 ≤ rlM y) (hc : n - n0 ≤ Rm.cells ∧ slX n - slX n0 ≤ Rm.slots) (k : GD l G p e Rm s m args below meth c Q y n0 (pc + 3) ls (.int (if a < b then b else a) :: st) n I L R) : GD l G p e Rm s m args below meth c Q y n0 pc ls (.int b :: .int a :: st) n I L R := fun hlen hdb H locs lsM hH hS hl =>
  va_mmax C.x C.b (by rw [C.ml, hl.1]) C.ow (C.ts _ hk) (C.ts _ mt_max.1) (C.ts _ mt_max.2.1) (C.ts _ mt_max.2.2) (Nat.le_trans hr C.rf) (by rw [ws_eq]; exact Nat.le_trans hw C.rl) hc.1 hc.2 hd (k hlen hdb H locs lsM hH hS hl)
theorem s_min {i : Nat} {a b : Int32} (C : CX G p Rm s m args meth c y n0) (hd : decode (cdM y) pc = .ok (.invokestatic i, 3)) (hk : lkP (ocM y) (i, 7, 0)) (hr : 1 ≤ rfM y) (hw : (st.map fun v => v.category).sum + 13 ≤ rlM y) (hc : n - n0 ≤ Rm.cells ∧ slX n - slX n0 ≤ Rm.slots) (k : GD l G p e Rm s m args below meth c Q y n0 (pc + 3) ls (.int (if b < a then b else a) :: st) n I L R) : GD l G p e Rm s m args below meth c Q y n0 pc ls (.int b :: .int a :: st) n I L R := fun hlen hdb H locs lsM hH hS hl =>
  va_mmin C.x C.b (by rw [C.ml, hl.1]) C.ow (C.ts _ hk) (C.ts _ mt_min.1) (C.ts _ mt_min.2.1) (C.ts _ mt_min.2.2) (Nat.le_trans hr C.rf) (by rw [ws_eq]; exact Nat.le_trans hw C.rl) hc.1 hc.2 hd (k hlen hdb H locs lsM hH hS hl)
theorem s_abs {i : Nat} {a : Int32} (C : CX G p Rm s m args meth c y n0) (hd : decode (cdM y) pc = .ok (.invokestatic i, 3)) (hk : lkP (ocM y) (i, 8, 0)) (hr : 1 ≤ rfM y) (hw : (st.map fun v => v.category).sum + 13 ≤ rlM y) (hc : n - n0 ≤ Rm.cells ∧ slX n - slX n0 ≤ Rm.slots) (k : GD l G p e Rm s m args below meth c Q y n0 (pc + 3) ls (.int (if 0 ≤ a then a else 0 - a) :: st) n I L R) : GD l G p e Rm s m args below meth c Q y n0 pc ls (.int a :: st) n I L R := fun hlen hdb H locs lsM hH hS hl =>
  va_mabs C.x C.b (by rw [C.ml, hl.1]) C.ow (C.ts _ hk) (C.ts _ mt_abs.1) (C.ts _ mt_abs.2.1) (C.ts _ mt_abs.2.2) (Nat.le_trans hr C.rf) (by rw [ws_eq]; exact Nat.le_trans hw C.rl) hc.1 hc.2 hd (k hlen hdb H locs lsM hH hS hl)
theorem s_objI {i a : Nat} (C : CX G p Rm s m args meth c y n0) (hd : decode (cdM y) pc = .ok (.invokespecial i, 3)) (hk : lkP (ocM y) (i, 4, 0)) (ha : ip a < n) (h123 : a < 1000) (hr : 1 ≤ rfM y) (hw : (st.map fun v => v.category).sum + 12 ≤ rlM y) (k : GD l G p e Rm s m args below meth c Q y n0 (pc + 3) ls st n I L R) : GD l G p e Rm s m args below meth c Q y n0 pc ls (.ref a :: st) n I L R := fun hlen hdb H locs lsM hH hS hl => by
  rw [List.map_cons, cnc_r G h123]
  have hlk : Cond.methodLink (cn (ocM y)) i objectInit ∈ tbX := hk
  refine W.objInit C.x C.b C.ow (C.ts _ hlk) (C.ts _ oiP.1) (C.ts _ oiP.2) rfl (by rw [C.ml]; exact hl.1) rfl hd (Nat.le_trans hr C.rf) ?_ (k hlen hdb H locs lsM hH hS hl)
  show 2 * 0 + _ + 12 ≤ _
  rw [ws_eq]
  have := C.rl
  omega
end SZ
