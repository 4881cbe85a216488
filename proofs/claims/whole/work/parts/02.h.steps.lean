/-! locals, switches, constants, fields -/
theorem pick3_in : ∀ {l : List (Nat × Nat × Nat)} {i : Nat} {z : Nat × Nat}, pick3 l i = some z → (i, z.1, z.2) ∈ l
  | [], i, z, h => by simp [pick3] at h
  | q :: r, i, z, h => by
    unfold pick3 at h
    by_cases e : q.1 = i
    · rw [if_pos e] at h
      cases h
      subst e
      exact List.mem_cons_self
    · rw [if_neg e] at h
      exact List.mem_cons_of_mem _ (pick3_in h)
theorem pickT_in {α : Type} : ∀ {l : List (Nat × Nat × α)} {k i : Nat} {z : α}, pickT l k i = some z → (k, i, z) ∈ l
  | [], k, i, z, h => by simp [pickT] at h
  | q :: r, k, i, z, h => by
    unfold pickT at h
    by_cases e : q.1 = k ∧ q.2.1 = i
    · rw [if_pos e] at h
      cases h
      obtain ⟨rfl, rfl⟩ := e
      exact List.mem_cons_self
    · rw [if_neg e] at h
      exact List.mem_cons_of_mem _ (pickT_in h)
theorem fd_ok {k i c j : Nat} (h : fdM k i = some (c, j)) : fdP k (i, c, j) := by
  have h1 := pick3_in h
  match k, h1 with
  | 0, h1 => exact fd_0 _ h1
  | 1, h1 => exact fd_1 _ h1
  | 2, h1 => exact fd_2 _ h1
  | 3, h1 => exact fd_3 _ h1
  | 4, h1 => exact fd_4 _ h1
  | 5, h1 => exact fd_5 _ h1
  | 6, h1 => exact fd_6 _ h1
  | 7, h1 => exact fd_7 _ h1
  | 8, h1 => exact fd_8 _ h1
  | 9, h1 => exact fd_9 _ h1
  | 10, h1 => exact fd_10 _ h1
  | 11, h1 => exact fd_11 _ h1
  | 12, h1 => exact fd_12 _ h1
  | 13, h1 => exact fd_13 _ h1
  | 14, h1 => exact fd_14 _ h1
  | 15, h1 => exact fd_15 _ h1
  | 16, h1 => exact fd_16 _ h1
  | k + 17, h1 => simp [fdtL] at h1
theorem lk_ok {k i : Nat} {z : Nat × Nat} (h : lnkM k i = some z) : lkP k (i, z.1, z.2) := by
  have h1 := pick3_in h
  match k, h1 with
  | 0, h1 => exact lk_0 _ h1
  | 1, h1 => exact lk_1 _ h1
  | 2, h1 => exact lk_2 _ h1
  | 3, h1 => exact lk_3 _ h1
  | 4, h1 => exact lk_4 _ h1
  | 5, h1 => exact lk_5 _ h1
  | 6, h1 => exact lk_6 _ h1
  | 7, h1 => exact lk_7 _ h1
  | 8, h1 => exact lk_8 _ h1
  | 9, h1 => exact lk_9 _ h1
  | 10, h1 => exact lk_10 _ h1
  | 11, h1 => exact lk_11 _ h1
  | 12, h1 => exact lk_12 _ h1
  | 13, h1 => exact lk_13 _ h1
  | 14, h1 => exact lk_14 _ h1
  | 15, h1 => exact lk_15 _ h1
  | 16, h1 => exact lk_16 _ h1
  | k + 17, h1 => simp [lnkL] at h1
def ciP (c : Nat) : Prop := clsX[c]? = some (cn c, TTX c, nfX c) ∧ (∀ w ∈ u_ws (cn c) (TTX c) (nfX c), w ∈ tbX) ∧ (∀ k, k < nfX c → parseFieldDescriptor (TTX c k).2.2.1 = some (ftX c k)) ∧ (∀ a, a < nfX c → ∀ b, b < nfX c → a ≠ b → (TTX c a).2.1 ≠ (TTX c b).2.1) ∧ (∀ k, k < nfX c → (TTX c k).1 = cn c)
theorem ci_ok {c : Nat} (h : c < 10) : ciP c := by
  match c, h with
  | 0, _ => exact ⟨rfl, us_0, tyX0_ok, nmX0, by decide +kernel⟩
  | 1, _ => exact ⟨rfl, us_1, tyX1_ok, nmX1, by decide +kernel⟩
  | 2, _ => exact ⟨rfl, us_2, tyX2_ok, nmX2, by decide +kernel⟩
  | 3, _ => exact ⟨rfl, us_3, tyX3_ok, nmX3, by decide +kernel⟩
  | 4, _ => exact ⟨rfl, us_4, tyX4_ok, nmX4, by decide +kernel⟩
  | 5, _ => exact ⟨rfl, us_5, tyX5_ok, nmX5, by decide +kernel⟩
  | 6, _ => exact ⟨rfl, us_6, tyX6_ok, nmX6, by decide +kernel⟩
  | 7, _ => exact ⟨rfl, us_7, tyX7_ok, nmX7, by decide +kernel⟩
  | 8, _ => exact ⟨rfl, us_8, tyX8_ok, nmX8, by decide +kernel⟩
  | 9, _ => exact ⟨rfl, us_9, tyX9_ok, nmX9, by decide +kernel⟩
  | c + 10, h => omega
section SY
variable {l : Launch} {G : GX} {p : Program} {e : Env} {Rm : Room} {s : State} {m : MethodId} {args : Array Value} {below : List Frame} {meth : Method} {c : Code} {Q : State → Prop} {y n0 pc n : Nat} {ls st : List Value} {I : AI} {L : AL} {R : AR}
theorem nd_i (v : Int32) : ∀ b, Value.int v ≠ .double b := fun b e => by cases e
theorem nd_l (v : Int64) : ∀ b, Value.long v ≠ .double b := fun b e => by cases e
theorem nd_r (v : Nat) : ∀ b, Value.ref v ≠ .double b := fun b e => by cases e
theorem s_istore {i : Nat} {v : Int32} (C : CX G p Rm s m args meth c y n0) (hd : decode (cdM y) pc = .ok (.istore i, 2)) (hi : i < ls.length) (k : GD l G p e Rm s m args below meth c Q y n0 (pc + 2) (lsV ls i (.int v)) st n I L R) : GD l G p e Rm s m args below meth c Q y n0 pc ls (.int v :: st) n I L R := fun hlen hdb H locs lsM hH hS hl => lv_istore C.x C.b hd hl (by rw [← hlen]; exact hi) rfl (fun ls' h' => k (by rw [lsV_len]; exact hlen) (nodb_V hdb hi (nd_i v)) H locs ls' hH hS (lv_sto hi hdb h'))
theorem s_istore_n {i : Fin 4} {v : Int32} (C : CX G p Rm s m args meth c y n0) (hd : decode (cdM y) pc = .ok (.istore_n i, 1)) (hi : (i : Nat) < ls.length) (k : GD l G p e Rm s m args below meth c Q y n0 (pc + 1) (lsV ls (i : Nat) (.int v)) st n I L R) : GD l G p e Rm s m args below meth c Q y n0 pc ls (.int v :: st) n I L R := fun hlen hdb H locs lsM hH hS hl => lv_istore_n C.x C.b hd rfl hl (by rw [← hlen]; exact hi) rfl (fun ls' h' => k (by rw [lsV_len]; exact hlen) (nodb_V hdb hi (nd_i v)) H locs ls' hH hS (lv_sto hi hdb h'))
theorem s_lstore {i : Nat} {v : Int64} (C : CX G p Rm s m args meth c y n0) (hd : decode (cdM y) pc = .ok (.lstore i, 2)) (hi : i + 1 < ls.length) (k : GD l G p e Rm s m args below meth c Q y n0 (pc + 2) (lsL ls i (.long v)) st n I L R) : GD l G p e Rm s m args below meth c Q y n0 pc ls (.long v :: st) n I L R := fun hlen hdb H locs lsM hH hS hl => lv_lstore C.x C.b hd hl (by rw [← hlen]; exact hi) rfl (fun ls' h' => k (by rw [lsL_len]; exact hlen) (nodb_L hdb hi (nd_l v)) H locs ls' hH hS (lv_stl hi hdb h'))
theorem s_lstore_n {i : Fin 4} {v : Int64} (C : CX G p Rm s m args meth c y n0) (hd : decode (cdM y) pc = .ok (.lstore_n i, 1)) (hi : (i : Nat) + 1 < ls.length) (k : GD l G p e Rm s m args below meth c Q y n0 (pc + 1) (lsL ls (i : Nat) (.long v)) st n I L R) : GD l G p e Rm s m args below meth c Q y n0 pc ls (.long v :: st) n I L R := fun hlen hdb H locs lsM hH hS hl => lv_lstore_n C.x C.b hd rfl hl (by rw [← hlen]; exact hi) rfl (fun ls' h' => k (by rw [lsL_len]; exact hlen) (nodb_L hdb hi (nd_l v)) H locs ls' hH hS (lv_stl hi hdb h'))
theorem s_aload {i v : Nat} (C : CX G p Rm s m args meth c y n0) (hd : decode (cdM y) pc = .ok (.aload i, 2)) (hv : ls[i]? = some (.ref v)) (h6 : v < 1006) (k : GD l G p e Rm s m args below meth c Q y n0 (pc + 2) ls (.ref v :: st) n I L R) : GD l G p e Rm s m args below meth c Q y n0 pc ls st n I L R := fun hlen hdb H locs lsM hH hS hl => by
  obtain ⟨a, ha⟩ := cnc_ref C h6
  have hp := prs_at hl hv rfl
  rw [ha] at hp
  have k' := k hlen hdb H locs lsM hH hS hl
  rw [List.map_cons, ha] at k'
  exact lv_aload C.x C.b hd hp k'
theorem s_aload_n {i : Fin 4} {v : Nat} (C : CX G p Rm s m args meth c y n0) (hd : decode (cdM y) pc = .ok (.aload_n i, 1)) (hv : ls[(i : Nat)]? = some (.ref v)) (h6 : v < 1006) (k : GD l G p e Rm s m args below meth c Q y n0 (pc + 1) ls (.ref v :: st) n I L R) : GD l G p e Rm s m args below meth c Q y n0 pc ls st n I L R := fun hlen hdb H locs lsM hH hS hl => by
  obtain ⟨a, ha⟩ := cnc_ref C h6
  have hp := prs_at hl hv rfl
  rw [ha] at hp
  have k' := k hlen hdb H locs lsM hH hS hl
  rw [List.map_cons, ha] at k'
  exact lv_aload_n C.x C.b hd rfl hp k'
theorem s_astore {i v : Nat} (C : CX G p Rm s m args meth c y n0) (hd : decode (cdM y) pc = .ok (.astore i, 2)) (hi : i < ls.length) (h6 : v < 1006) (k : GD l G p e Rm s m args below meth c Q y n0 (pc + 2) (lsV ls i (.ref v)) st n I L R) : GD l G p e Rm s m args below meth c Q y n0 pc ls (.ref v :: st) n I L R := fun hlen hdb H locs lsM hH hS hl => by
  obtain ⟨a, ha⟩ := cnc_ref C h6
  rw [List.map_cons, ha]
  exact lv_astore C.x C.b hd hl (by rw [← hlen]; exact hi) rfl (fun ls' h' => k (by rw [lsV_len]; exact hlen) (nodb_V hdb hi (nd_r v)) H locs ls' hH hS (lv_sto hi hdb (by rw [ha]; exact h')))
theorem s_astore_n {i : Fin 4} {v : Nat} (C : CX G p Rm s m args meth c y n0) (hd : decode (cdM y) pc = .ok (.astore_n i, 1)) (hi : (i : Nat) < ls.length) (h6 : v < 1006) (k : GD l G p e Rm s m args below meth c Q y n0 (pc + 1) (lsV ls (i : Nat) (.ref v)) st n I L R) : GD l G p e Rm s m args below meth c Q y n0 pc ls (.ref v :: st) n I L R := fun hlen hdb H locs lsM hH hS hl => by
  obtain ⟨a, ha⟩ := cnc_ref C h6
  rw [List.map_cons, ha]
  exact lv_astore_n C.x C.b hd rfl hl (by rw [← hlen]; exact hi) rfl (fun ls' h' => k (by rw [lsV_len]; exact hlen) (nodb_V hdb hi (nd_r v)) H locs ls' hH hS (lv_sto hi hdb (by rw [ha]; exact h')))
theorem s_iinc {i : Nat} {d : Int} {v : Int32} (C : CX G p Rm s m args meth c y n0) (hd : decode (cdM y) pc = .ok (.iinc i d, 3)) (hv : ls[i]? = some (.int v)) (k : GD l G p e Rm s m args below meth c Q y n0 (pc + 3) (lsV ls i (.int (v + Int32.ofInt d))) st n I L R) : GD l G p e Rm s m args below meth c Q y n0 pc ls st n I L R := fun hlen hdb H locs lsM hH hS hl => by
  have hi : i < ls.length := (List.getElem?_eq_some_iff.mp hv).1
  have hm : (0 + i, cnc G (.int v)) ∈ prs G 0 ls := prs_of hv rfl
  rw [Nat.zero_add] at hm
  obtain ⟨q, hq⟩ := List.getElem?_of_mem hm
  exact lv_iinc C.x C.b hd hl hq rfl (by rw [← hlen]; exact hi) rfl (fun ls' h' => k (by rw [lsV_len]; exact hlen) (nodb_V hdb hi (nd_i _)) H locs ls' hH hS (lv_sto hi hdb h'))
theorem s_tabOut {d lo hi : Int} {os : Array Int} {len tgt : Nat} {a : Int32} (C : CX G p Rm s m args meth c y n0) (hd : decode (cdM y) pc = .ok (.tableswitch d lo hi os, len)) (h : a.toInt < lo ∨ hi < a.toInt) (ht : (pc : Int) + d = (tgt : Int)) (k : GD l G p e Rm s m args below meth c Q y n0 tgt ls st n I L R) : GD l G p e Rm s m args below meth c Q y n0 pc ls (.int a :: st) n I L R := fun hlen hdb H locs lsM hH hS hl => lv_tableOut C.x C.b hd h ht (k hlen hdb H locs lsM hH hS hl)
theorem s_tabIn {d lo hi off : Int} {os : Array Int} {len tgt : Nat} {a : Int32} (C : CX G p Rm s m args meth c y n0) (hd : decode (cdM y) pc = .ok (.tableswitch d lo hi os, len)) (h1 : ¬ a.toInt < lo) (h2 : ¬ hi < a.toInt) (ho : os[(a.toInt - lo).toNat]? = some off) (ht : (pc : Int) + off = (tgt : Int)) (k : GD l G p e Rm s m args below meth c Q y n0 tgt ls st n I L R) : GD l G p e Rm s m args below meth c Q y n0 pc ls (.int a :: st) n I L R := fun hlen hdb H locs lsM hH hS hl => lv_tableIn C.x C.b hd h1 h2 ho ht (k hlen hdb H locs lsM hH hS hl)
theorem s_lookup {d off : Int} {ps : Array (Int × Int)} {len tgt : Nat} {a : Int32} (C : CX G p Rm s m args meth c y n0) (hd : decode (cdM y) pc = .ok (.lookupswitch d ps, len)) (hp : (ps.toList.zip (ps.toList.drop 1)).all (fun (a, next) => a.1 < next.1) = true) (ho : Op.lookupswitch.offset ps.toList d a.toInt = off) (ht : (pc : Int) + off = (tgt : Int)) (k : GD l G p e Rm s m args below meth c Q y n0 tgt ls st n I L R) : GD l G p e Rm s m args below meth c Q y n0 pc ls (.int a :: st) n I L R := fun hlen hdb H locs lsM hH hS hl => lv_lookup C.x C.b hd hp ho ht (k hlen hdb H locs lsM hH hS hl)
theorem s_ldcS {i a : Nat} (C : CX G p Rm s m args meth c y n0) (hd : decode (cdM y) pc = .ok (.ldc i, 2)) (h : pickT stsL (ocM y) i = some a) (k : GD l G p e Rm s m args below meth c Q y n0 (pc + 2) ls (.ref a :: st) n I L R) : GD l G p e Rm s m args below meth c Q y n0 pc ls st n I L R := fun hlen hdb H locs lsM hH hS hl => by
  have k' := k hlen hdb H locs lsM hH hS hl
  obtain ⟨k1, ⟨b, ⟨b1, b0⟩, b2, b3, b4⟩, ⟨adK, adV, v1, v2, v3, v4, v5, v6, v7⟩, z1, z2, nn⟩ := C.kx
  have hi := pickT_in h
  have ho := C.ow
  simp only [stsL, List.mem_cons, Prod.mk.injEq, List.not_mem_nil, or_false] at hi
  rcases hi with ⟨e1, e2, e3⟩ | ⟨e1, e2, e3⟩
  · subst e2; subst e3
    rw [e1] at ho
    rw [List.map_cons, cnc_x G (by decide)] at k'
    first
      | (rw [v2] at k'; exact va_ldcS C.x C.b ho v6 hd k')
      | (rw [v3] at k'; exact va_ldcS C.x C.b ho v7 hd k')
  · subst e2; subst e3
    rw [e1] at ho
    rw [List.map_cons, cnc_x G (by decide)] at k'
    first
      | (rw [v2] at k'; exact va_ldcS C.x C.b ho v6 hd k')
      | (rw [v3] at k'; exact va_ldcS C.x C.b ho v7 hd k')
theorem s_gets38 (C : CX G p Rm s m args meth c y n0) (hd : decode (cdM y) pc = .ok (.getstatic 38, 3)) (h : ocM y = 13) (k : GD l G p e Rm s m args below meth c Q y n0 (pc + 3) ls (.int 1 :: st) n I L R) : GD l G p e Rm s m args below meth c Q y n0 pc ls st n I L R := fun hlen hdb H locs lsM hH hS hl => by
  have ho := C.ow
  rw [h] at ho
  exact va_gets C.x C.b C.kx.2.2.2.1 hS ho (C.ts _ gs_38) (fun _ h => h) hd (k hlen hdb H locs lsM hH hS hl)
theorem s_gets1053 (C : CX G p Rm s m args meth c y n0) (hd : decode (cdM y) pc = .ok (.getstatic 1053, 3)) (h : ocM y = 13) (k : GD l G p e Rm s m args below meth c Q y n0 (pc + 3) ls (.ref 1006 :: st) n I L R) : GD l G p e Rm s m args below meth c Q y n0 pc ls st n I L R := fun hlen hdb H locs lsM hH hS hl => by
  have ho := C.ow
  rw [h] at ho
  have k' := k hlen hdb H locs lsM hH hS hl
  rw [List.map_cons, cnc_x G (by decide)] at k'
  exact va_gets C.x C.b C.kx.2.2.2.2.1 hS ho (C.ts _ gs_1053) (fun _ h => h) hd k'
theorem cel_o {o c : Nat} (h : shpL[o]? = some (.inl c)) : cel G I L R o = .inr (c, (List.range (nfX c)).map fun k => cnc G (fvX (ftX c k) I R o k)) := by unfold cel; rw [h]
theorem cel_a {a : Nat} {q : Nat × Nat} (h : shpL[a]? = some (.inr q)) : cel G I L R a = .inl (G.2.2.1 q.1, (q.2, if q.1 = 1 then .inr (.inl (L a)) else .inl (I a))) := by unfold cel; rw [h]
theorem s_getf {i d j o : Nat} (C : CX G p Rm s m args meth c y n0) (hd : decode (cdM y) pc = .ok (.getfield i, 3)) (hf : fdM (ocM y) i = some (d, j)) (ho : obX n o = d) (hj : d < 10 ∧ j < nfX d) (k : GD l G p e Rm s m args below meth c Q y n0 (pc + 3) ls (fvX (ftX d j) I R o j :: st) n I L R) : GD l G p e Rm s m args below meth c Q y n0 pc ls (.ref o :: st) n I L R := fun hlen hdb H locs lsM hH hS hl => by
  obtain ⟨h1, h2⟩ := ob_in ho hj.1
  have h3 := shp_lt h2
  obtain ⟨c1, c2, c3, c4, c5⟩ := ci_ok hj.1
  have hlk := (fd_ok hf).1 hj.1
  rw [List.map_cons, cnc_r G (by omega)]
  exact va_get (D := G.2.1) (cl := clsX) (ci := d) (v := cnc G (fvX (ftX d j) I R o j)) C.x C.b C.ts c2 C.ow C.kx.1 hH.2.2 (ip o) (by rw [wrl_get h1, cel_o h2]) c1 j hj.2 (C.ts _ hlk) (fun _ h => h) (by simp [hj.2]) hd (k hlen hdb H locs lsM hH hS hl)
theorem s_getS {i j o : Nat} (C : CX G p Rm s m args meth c y n0) (hd : decode (cdM y) pc = .ok (.getfield i, 3)) (hf : fdM (ocM y) i = some (13, j)) (ho : obX n o = 13) (k : GD l G p e Rm s m args below meth c Q y n0 (pc + 3) ls ((if j = 0 then .ref (o - 2) else .int 0) :: st) n I L R) : GD l G p e Rm s m args below meth c Q y n0 pc ls (.ref o :: st) n I L R := fun hlen hdb H locs lsM hH hS hl => by
  have k' := k hlen hdb H locs lsM hH hS hl
  obtain ⟨e1, f1, f2⟩ := (fd_ok hf).2 rfl
  dsimp only at f1 f2
  have hw := C.ow
  rw [e1] at hw
  obtain ⟨k1, ⟨b, ⟨b1, b0⟩, b2, b3, b4⟩, ⟨adK, adV, v1, v2, v3, v4, v5, v6, v7⟩, z1, z2, nn⟩ := C.kx
  obtain ⟨s1, s2, s3, s4⟩ := v1.1 0 (by decide)
  obtain ⟨t1, t2, t3, t4⟩ := v1.1 1 (by decide)
  rcases ob_13 ho (shp_10 o) with rfl | rfl
  · rw [List.map_cons, cnc_x G (by decide), v2]
    by_cases hj : j = 0
    · rw [if_pos hj, List.map_cons, cnc_x G (by decide), v4] at k'
      exact vk_getf C.x C.b s3 hS hw (C.ts _ (f1 hj)) (fun _ h => h) hd k'
    · rw [if_neg hj] at k'
      exact vk_getf C.x C.b s2 hS hw (C.ts _ (f2 hj)) (fun _ h => h) hd k'
  · rw [List.map_cons, cnc_x G (by decide), v3]
    by_cases hj : j = 0
    · rw [if_pos hj, List.map_cons, cnc_x G (by decide), v5] at k'
      exact vk_getf C.x C.b t3 hS hw (C.ts _ (f1 hj)) (fun _ h => h) hd k'
    · rw [if_neg hj] at k'
      exact vk_getf C.x C.b t2 hS hw (C.ts _ (f2 hj)) (fun _ h => h) hd k'
theorem set_map {f g : Nat → Value} {N j : Nat} {v : Value} (hv : g j = v) (hg : ∀ i, i ≠ j → g i = f i) : ((List.range N).map f).set j v = (List.range N).map g := by
  apply List.ext_getElem?
  intro i
  by_cases hi : i < N
  · by_cases hij : i = j
    · subst hij; rw [List.getElem?_set_self (by simpa using hi)]; simp [hi, hv]
    · rw [List.getElem?_set_ne (Ne.symm hij)]; simp [hi, hg i hij]
  · rw [List.getElem?_eq_none (by simp; omega), List.getElem?_eq_none (by simp; omega)]
theorem s_putf {i d j o : Nat} {v : Value} {I' : AI} {R' : AR} (C : CX G p Rm s m args meth c y n0) (hd : decode (cdM y) pc = .ok (.putfield i, 3)) (hf : fdM (ocM y) i = some (d, j)) (ho : obX n o = d) (hj : d < 10 ∧ j < nfX d) (hp : ptX (ftX d j) v) (hfin : (TTX d j).2.2.2 = true → (nmM y).name = "<init>" ∧ d = ocM y) (hr : ∀ q, v = .ref q → q < 1000)
    (hI : ∀ a, a ≠ o → I' a = I a) (hR : ∀ a, a ≠ o → R' a = R a) (hv : fvX (ftX d j) I' R' o j = v) (hk : ∀ q, q ≠ j → I' o q = I o q ∧ R' o q = R o q)
    (k : GD l G p e Rm s m args below meth c Q y n0 (pc + 3) ls st n I' L R') : GD l G p e Rm s m args below meth c Q y n0 pc ls (v :: .ref o :: st) n I L R := fun hlen hdb H locs lsM hH hS hl => by
  obtain ⟨h1, h2⟩ := ob_in ho hj.1
  have h3 := shp_lt h2
  obtain ⟨c1, c2, c3, c4, c5⟩ := ci_ok hj.1
  have hlk := (fd_ok hf).1 hj.1
  have hn : narrow (ftX d j) (cnc G v) = cnc G v ∧ fits (ftX d j) (cnc G v) = true := by
    revert hp
    generalize ftX d j = t
    intro hp
    match t, v, hp, hr with
    | .int, .int a, _, _ => exact ⟨rfl, rfl⟩
    | .boolean, .int a, hp, _ => rcases hp with rfl | rfl <;> (rw [cnc_i]; exact ⟨by decide, by decide⟩)
    | .object _, .ref q, _, hr => rw [cnc_r G (hr q rfl)]; exact ⟨rfl, rfl⟩
    | .array _, .ref q, _, hr => rw [cnc_r G (hr q rfl)]; exact ⟨rfl, rfl⟩
  have hcel : cel G I' L R' o = .inr (d, ((List.range (nfX d)).map fun k => cnc G (fvX (ftX d k) I R o k)).set j (cnc G v)) := by
    rw [cel_o h2, set_map (g := fun k => cnc G (fvX (ftX d k) I' R' o k))]
    · rw [hv]
    · intro q hq
      unfold fvX
      rw [(hk q hq).1, (hk q hq).2]
  have hD := wrl_D G n I L R
  have fin : ∀ (H1 : Heap) (locs1 : List Loc), va_P G.2.1 clsX ((wrl G n I L R).set (ip o) (G.1 + ip o, .inr (d, ((List.range (nfX d)).map fun k => cnc G (fvX (ftX d k) I R o k)).set j (cnc G v)))) H1 → va_D (AX G) ((wrl G n I L R).set (ip o) (G.1 + ip o, .inr (d, ((List.range (nfX d)).map fun k => cnc G (fvX (ftX d k) I R o k)).set j (cnc G v)))) → va_S (AX G) s.heap H1 locs1 → W p l e Rm s m args below meth c H1 locs1 (n - n0) (slX n - slX n0) Q (F0 m (pc + 3) lsM (st.map (cnc G))) := by
    intro H1 locs1 hP1 hD1 hS1
    rw [wrl_set h1 hcel hI (fun _ _ => rfl) hR] at hP1
    exact k hlen hdb H1 locs1 lsM ⟨by rw [hI 1000 (by omega)]; exact hH.1, by rw [hI 1001 (by omega)]; exact hH.2.1, hP1⟩ hS1 hl
  rw [List.map_cons, List.map_cons, cnc_r G (show o < 1000 by omega)]
  by_cases hF : (TTX d j).2.2.2 = true
  · obtain ⟨e1, e2⟩ := hfin hF
    exact va_putF (D := G.2.1) (cl := clsX) (ci := d) (v := cnc G v) C.x C.b C.ts c2 (ftX d) c3 c4 C.ow C.kx.1 hH.2.2 hD hS (ip o) (by rw [wrl_get h1, cel_o h2]) c1 j hj.2 (C.ts _ hlk) (fun _ h => h) hF (C.nm e1) (by rw [c5 j hj.2, e2]) (c3 j hj.2) hn.1 hn.2 (by simp [hj.2]) hd fin
  · exact va_put (D := G.2.1) (cl := clsX) (ci := d) (v := cnc G v) C.x C.b C.ts c2 (ftX d) c3 c4 C.ow C.kx.1 hH.2.2 hD hS (ip o) (by rw [wrl_get h1, cel_o h2]) c1 j hj.2 (C.ts _ hlk) (fun _ h => h) (by simpa using hF) (c3 j hj.2) hn.1 hn.2 (by simp [hj.2]) hd fin
end SY
