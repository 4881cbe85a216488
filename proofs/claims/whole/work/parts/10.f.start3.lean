/-! the start: what holds ahead of the first call -/
theorem uz2 {α : Type} {I : Nat → Nat → α} {a k : Nat} {v : α} (h : I a k = v) : up2 I a k v = I := by
  subst h
  unfold up2
  rw [upr_id, upr_id]
set_option maxRecDepth 100000 in
theorem m_rest {I : AI} {L : AL} {Q : PQ} (hI : ∀ c, 70 < c → c < 123 → I c = fun _ => 0) (hQ : ∀ L2, (∀ j, j < 23 → L2 77 j = wmX j) → (∀ a, a ≠ 77 → L2 a = L a) → Q none 123 (upr (upr I 112 (gRow (I 112))) 111 (fb_put (I 111) (gRow (I 112)) 0 48)) L2 (RX 32 none)) : V 138 431 [.ref 70] [] 123 I L (RX 32 none) Q := by
  have v0 : vp_in (0 : Int32) 2 = True := inT (a := 0) (N := 2) (by decide) (by decide)
  have w0 : vp_in (0 : Int32) 8 = True := inT (a := 0) (N := 8) (by decide) (by decide)
  have w1 : vp_in (1 : Int32) 8 = True := inT (a := 1) (N := 8) (by decide) (by decide)
  have w2 : vp_in (2 : Int32) 8 = True := inT (a := 2) (N := 8) (by decide) (by decide)
  have w3 : vp_in (3 : Int32) 8 = True := inT (a := 3) (N := 8) (by decide) (by decide)
  have k0 : vp_in (0 : Int32) 23 = True := inT (a := 0) (N := 23) (by decide) (by decide)
  have k1 : vp_in (1 : Int32) 23 = True := inT (a := 1) (N := 23) (by decide) (by decide)
  have k2 : vp_in (2 : Int32) 23 = True := inT (a := 2) (N := 23) (by decide) (by decide)
  have k3 : vp_in (3 : Int32) 23 = True := inT (a := 3) (N := 23) (by decide) (by decide)
  have k4 : vp_in (4 : Int32) 23 = True := inT (a := 4) (N := 23) (by decide) (by decide)
  have k5 : vp_in (5 : Int32) 23 = True := inT (a := 5) (N := 23) (by decide) (by decide)
  have k6 : vp_in (6 : Int32) 23 = True := inT (a := 6) (N := 23) (by decide) (by decide)
  have k7 : vp_in (7 : Int32) 23 = True := inT (a := 7) (N := 23) (by decide) (by decide)
  have k8 : vp_in (8 : Int32) 23 = True := inT (a := 8) (N := 23) (by decide) (by decide)
  have k9 : vp_in (9 : Int32) 23 = True := inT (a := 9) (N := 23) (by decide) (by decide)
  have k10 : vp_in (10 : Int32) 23 = True := inT (a := 10) (N := 23) (by decide) (by decide)
  have k11 : vp_in (11 : Int32) 23 = True := inT (a := 11) (N := 23) (by decide) (by decide)
  have k12 : vp_in (12 : Int32) 23 = True := inT (a := 12) (N := 23) (by decide) (by decide)
  have k13 : vp_in (13 : Int32) 23 = True := inT (a := 13) (N := 23) (by decide) (by decide)
  have k14 : vp_in (14 : Int32) 23 = True := inT (a := 14) (N := 23) (by decide) (by decide)
  have k15 : vp_in (15 : Int32) 23 = True := inT (a := 15) (N := 23) (by decide) (by decide)
  have k16 : vp_in (16 : Int32) 23 = True := inT (a := 16) (N := 23) (by decide) (by decide)
  have k17 : vp_in (17 : Int32) 23 = True := inT (a := 17) (N := 23) (by decide) (by decide)
  have k18 : vp_in (18 : Int32) 23 = True := inT (a := 18) (N := 23) (by decide) (by decide)
  have k19 : vp_in (19 : Int32) 23 = True := inT (a := 19) (N := 23) (by decide) (by decide)
  have k20 : vp_in (20 : Int32) 23 = True := inT (a := 20) (N := 23) (by decide) (by decide)
  have k21 : vp_in (21 : Int32) 23 = True := inT (a := 21) (N := 23) (by decide) (by decide)
  have k22 : vp_in (22 : Int32) 23 = True := inT (a := 22) (N := 23) (by decide) (by decide)
  simp (config := { decide := true, maxDischargeDepth := 20 }) only [↓reduceIte, ip_123, KV_i, KV_v, wsm_0, wsm_i, wsm_l, wsm_r, dlV_i, dlV_r, dlV_l, dlV_j, cat_i, cat_l, cat_r, rf_s, true_and, and_true, and_self, if_true, if_false, ite_true, ite_false, eq_self, true_or, or_true, false_or, or_false, not_true_eq_false, not_false_eq_true, vn_0_45, vn_1_45, vn_2_45, vn_3_45, vn_4_45, vn_5_45, vn_6_45, vn_7_45, vn_8_45, vn_36_48, vn_37_48, vn_38_48, vn_39_48, vn_40_48, vn_41_48, vn_42_48, vn_43_48, vn_44_48, vn_0_9, vn_1_9, vn_2_9, vn_3_9, vn_4_9, vn_5_9, vn_6_9, vn_7_9, vn_8_9, vn_0_3, vn_1_3, vn_2_3, vn_0_4, vn_1_4, vn_2_4, vn_3_4, vn_0_64, vn_0_16, vn_0_400, vn_0_6, vn_0_14, Int32.reduceToNatClampNeg, Int32.reduceAdd, Int32.reduceSub, Int32.reduceMul, Int32.reduceLE, Int32.reduceLT, Nat.reduceAdd, nr_2, nr_30, nr_31, rd_2, rd_14, rd_71, rd_72, rd_101, rd_116, rd_121, up2_s, up2_n, upr_s, upr_n, ne_eq, not_false_eq_true, ob_70, rx_70_1, rx_70_3, rx_70_5, rx_70_6, rx_70_7, rx_70_8, rx_70_9, rx_70_21, rx_70_22, rx_70_23, rx_70_24, rx_70_25, rx_70_26, rx_70_27, rx_70_28, rx_70_29, rx_70_30, rx_70_31, rx_70_32, rx_70_33, rx_70_34, rx_70_35, rx_70_36, rx_70_37, rx_70_38, rx_70_39, rx_70_40, rx_70_41, rx_70_42, rx_70_43, rx_70_45, rx_70_46, rx_70_47, rx_70_48, rx_70_49, rx_70_51, rx_70_52, rx_70_53, rx_70_55, rx_70_56, rx_70_58, rx_70_59, rx_70_60, rx_70_61, rx_70_63, rx_70_64, rx_70_65, rx_70_70, rx_70_71, rx_70_72, rx_70_73, rx_70_74, r138_431, r138_432, r138_433, r138_436, r138_437, r138_440, r138_441, r138_443, r138_445, r138_447, r138_448, r138_449, r138_450, r138_451, r138_454, r138_455, r138_456, r138_459, r138_460, r138_462, r138_464, r138_466, r138_468, r138_469, r138_470, r138_471, r138_474, r138_475, r138_476, r138_479, r138_480, r138_482, r138_484, r138_486, r138_487, r138_488, r138_489, r138_490, r138_493, r138_494, r138_495, r138_498, r138_499, r138_501, r138_503, r138_505, r138_507, r138_509, r138_511, r138_512, r138_515, r138_516, r138_517, r138_520, r138_521, r138_523, r138_525, r138_527, r138_529, r138_531, r138_532, r138_533, r138_536, r138_537, r138_538, r138_541, r138_542, r138_544, r138_546, r138_548, r138_549, r138_550, r138_551, r138_552, r138_555, r138_556, r138_557, r138_560, r138_562, r138_564, r138_566, r138_568, r138_570, r138_571, r138_572, r138_573, r138_576, r138_577, r138_578, r138_581, r138_583, r138_585, r138_587, r138_589, r138_591, r138_593, r138_595, r138_596, r138_599, r138_600, r138_601, r138_604, r138_606, r138_608, r138_610, r138_612, r138_614, r138_616, r138_617, r138_618, r138_621, r138_622, r138_623, r138_626, r138_628, r138_630, r138_632, r138_634, r138_636, r138_637, r138_638, r138_639, r138_642, r138_643, r138_644, r138_647, r138_649, r138_651, r138_653, r138_655, r138_657, r138_658, r138_659, r138_660, r138_663, r138_664, r138_665, r138_668, r138_670, r138_672, r138_674, r138_675, r138_676, r138_677, r138_678, r138_679, r138_682, r138_683, r138_684, r138_687, r138_689, r138_691, r138_693, r138_695, r138_697, r138_698, r138_699, r138_700, r138_703, r138_704, r138_705, r138_708, r138_710, r138_712, r138_714, r138_716, r138_718, r138_719, r138_720, r138_721, r138_724, r138_725, r138_726, r138_729, r138_731, r138_733, r138_735, r138_737, r138_739, r138_741, r138_742, r138_743, r138_746, r138_747, r138_748, r138_751, r138_753, r138_755, r138_757, r138_759, r138_760, r138_761, r138_762, r138_763, r138_766, r138_767, r138_768, r138_771, r138_773, r138_775, r138_777, r138_779, r138_781, r138_783, r138_784, r138_785, r138_788, r138_789, r138_790, r138_793, r138_795, r138_797, r138_799, r138_801, r138_803, r138_805, r138_806, r138_807, r138_810, r138_811, r138_812, r138_815, r138_817, r138_819, r138_821, r138_823, r138_824, r138_825, r138_826, r138_827, r138_830, r138_831, r138_832, r138_835, r138_837, r138_839, r138_841, r138_843, r138_845, r138_847, r138_848, r138_849, r138_852, r138_853, r138_854, r138_857, r138_859, r138_861, r138_863, r138_865, r138_867, r138_869, r138_870, r138_871, r138_874, r138_875, r138_876, r138_879, r138_881, r138_883, r138_885, r138_887, r138_889, r138_891, r138_893, r138_894, r138_897, r138_898, r138_899, r138_902, r138_904, r138_906, r138_908, r138_910, r138_912, r138_913, r138_914, r138_915, r138_918, r138_919, r138_920, r138_923, r138_924, r138_927, r155_0, r155_1, r155_4, r155_5, r155_6, r155_7, r155_8, r155_11, r155_12, r155_13, r155_14, r155_15, r155_18, r155_19, r155_20, r155_21, r155_22, r155_25, r155_26, r155_27, r155_28, r155_29, r155_32, r155_33, r155_34, r155_35, r155_36, r155_39, r155_40, r155_41, r155_42, r155_43, r155_44, r155_45, r155_46, r155_49, r155_50, r155_53, r155_54, r155_55, r155_56, r155_57, r155_58, r155_59, r155_60, r155_61, r155_64, r155_65, r155_66, r155_67, r155_68, r155_69, r155_70, r155_71, r155_74, r155_77, tg_77, ln_77, tg_81, ln_81, tg_88, ln_88, tg_91, ln_91, tg_94, ln_94, tg_96, ln_96, tg_98, ln_98, tg_99, ln_99, tg_100, ln_100, k_word, m_begins, f_keepsRow, uz2, hI, v0, w0, w1, w2, w3, k0, k1, k2, k3, k4, k5, k6, k7, k8, k9, k10, k11, k12, k13, k14, k15, k16, k17, k18, k19, k20, k21, k22]
  rw [hI 112 (by decide) (by decide), hI 111 (by decide) (by decide)] at hQ
  refine hQ _ (fun j hj => ?_) (fun a ha => ?_)
  · have h23 : j = 0 ∨ j = 1 ∨ j = 2 ∨ j = 3 ∨ j = 4 ∨ j = 5 ∨ j = 6 ∨ j = 7 ∨ j = 8 ∨ j = 9 ∨ j = 10 ∨ j = 11 ∨ j = 12 ∨ j = 13 ∨ j = 14 ∨ j = 15 ∨ j = 16 ∨ j = 17 ∨ j = 18 ∨ j = 19 ∨ j = 20 ∨ j = 21 ∨ j = 22 := by omega
    rcases h23 with rfl | rfl | rfl | rfl | rfl | rfl | rfl | rfl | rfl | rfl | rfl | rfl | rfl | rfl | rfl | rfl | rfl | rfl | rfl | rfl | rfl | rfl | rfl <;> simp (config := { decide := true }) only [up2_s, up2_n, upr_s, upr_n, ne_eq, not_false_eq_true, Nat.reduceAdd]
  · repeat rw [up2_n ha]
theorem INV_0 {xs : Nat → Int32} {Ln : Nat} {I' : AI} {L2 : AL} (hK : KI xs Ln I') (h77 : ∀ j, j < 23 → L2 77 j = wmX j) (hL2 : ∀ a, a ≠ 77 → L2 a = (upr (fun _ _ => 0) 6 (fun j => lN (wdE 120 j)) : AL) a) : INV 32 none (upr (upr (up2 I' 70 17 (-1)) 112 (gRow ((up2 I' 70 17 (-1)) 112))) 111 (fb_put ((up2 I' 70 17 (-1)) 111) (gRow ((up2 I' 70 17 (-1)) 112)) 0 48)) L2 (0 + 5) := by
  obtain ⟨I3, hcl, rfl⟩ := hK
  generalize hJ : (upr (upr (up2 (up2 (up2 (up2 (up2 (upr I3 13 (upr (zN (I3 13) 45) 0 (-2))) 12 5 0) 14 0 0) 14 1 0) 14 2 0) 70 17 (-1)) 112 (gRow ((up2 (up2 (up2 (up2 (up2 (upr I3 13 (upr (zN (I3 13) 45) 0 (-2))) 12 5 0) 14 0 0) 14 1 0) 14 2 0) 70 17 (-1)) 112))) 111 (fb_put ((up2 (up2 (up2 (up2 (up2 (upr I3 13 (upr (zN (I3 13) 45) 0 (-2))) 12 5 0) 14 0 0) 14 1 0) 14 2 0) 70 17 (-1)) 111) (gRow ((up2 (up2 (up2 (up2 (up2 (upr I3 13 (upr (zN (I3 13) 45) 0 (-2))) 12 5 0) 14 0 0) 14 1 0) 14 2 0) 70 17 (-1)) 112)) 0 48)) = J
  have ja : ∀ a, a ≠ 111 → a ≠ 112 → a ≠ 70 → a ≠ 14 → a ≠ 12 → a ≠ 13 → J a = I3 a := fun a a1 a2 a3 a4 a5 a6 => by
    rw [← hJ, upr_n a1, upr_n a2, up2_n a3, up2_n a4, up2_n a4, up2_n a4, up2_n a5, upr_n a6]
  have i3 : ∀ a, a ≠ 32 → a ≠ 46 → a ≠ 47 → a ≠ 50 → a ≠ 0 → a ≠ 7 → a < 123 → I3 a = fun _ => 0 := fun a a1 a2 a3 a4 a5 a6 a7 => by
    rw [hcl.2.2.2.2 a a1 a2 a3 a4, up2_n a5, up2_n a6]
    exact i0_z a7
  have i30 : I3 0 = upr (fun _ => 0) 14 (-1) := by
    rw [hcl.2.2.2.2 0 (by decide) (by decide) (by decide) (by decide), up2_s, up2_n (by decide), i0_z (by decide)]
  have jz : ∀ a, 71 ≤ a → a ≤ 110 → J a = fun _ => 0 := fun a a1 a2 => by
    rw [ja a (by omega) (by omega) (by omega) (by omega) (by omega) (by omega)]
    exact i3 a (by omega) (by omega) (by omega) (by omega) (by omega) (by omega) (by omega)
  have j70 : J 70 = upr (fun _ => 0) 17 (-1) := by
    rw [← hJ, upr_n (by decide), upr_n (by decide), up2_s, up2_n (by decide), up2_n (by decide), up2_n (by decide), up2_n (by decide), upr_n (by decide), i3 70 (by decide) (by decide) (by decide) (by decide) (by decide) (by decide) (by decide)]
  have jk : ∀ k, k ≠ 17 → J 70 k = 0 := fun k hk => by rw [j70, upr_n hk]
  have hC := CW_init (L := L2) (K5 := L2 5) (Or.inl rfl) hcl rfl rfl rfl
  refine INV_good (kd := fun _ => 0) (vl := fun _ => 0) (mv := fun _ => 0) (M3 := J 73) (M4 := J 74) (M5 := J 75) (M6 := L2 76) (J' := J) (M' := L2) (sd := 0) (x' := 0) (F := I3 13) (F1 := (up2 (up2 (up2 (up2 (up2 (upr I3 13 (upr (zN (I3 13) 45) 0 (-2))) 12 5 0) 14 0 0) 14 1 0) 14 2 0) 70 17 (-1)) 111) (F2 := (up2 (up2 (up2 (up2 (up2 (upr I3 13 (upr (zN (I3 13) 45) 0 (-2))) 12 5 0) 14 0 0) 14 1 0) 14 2 0) 70 17 (-1)) 112) (Or.inl rfl) (by decide) hC ⟨⟨rfl, rfl, rfl, rfl⟩, ⟨?_, ?_, ?_, ?_, ?_⟩, ⟨?_, ?_⟩, fun i hi => absurd hi (Nat.not_lt_zero _), fun i hi => absurd hi (Nat.not_lt_zero _), 0, 0, ?_, by decide, by decide, ?_, by decide, by decide, ?_, fun b b1 b2 => absurd b2 (Nat.not_lt_zero _), fun j hj => Or.inl ⟨?_, rfl, rfl⟩⟩ ⟨⟨fun i hi => absurd hi (Nat.not_lt_zero _), fun i j hi => absurd hi (Nat.not_lt_zero _)⟩, fun i hi => absurd hi (Nat.not_lt_zero _), fun i hi => absurd hi (Nat.not_lt_zero _), fun i hi => absurd hi (Nat.not_lt_zero _), fun i hi => absurd hi (Nat.not_lt_zero _), fun i hi => absurd hi (Nat.not_lt_zero _), ⟨0, by decide, ?_⟩, ?_⟩ (fun a a1 a2 a3 => ?_) (fun a a1 a2 => rfl) ?_ (fun a b ha => absurd ha (Nat.not_lt_zero _)) ?_ ?_ ⟨0, by decide, ?_⟩ ?_ ?_ (fun z hz => ?_) (fun z hz => ?_) ?_ ?_ ?_ ?_ ?_ ⟨fun j hj => ?_, h77⟩
  · rw [jz 81 (by decide) (by decide)]; rfl
  · rw [jz 88 (by decide) (by decide)]; rfl
  · rw [jz 91 (by decide) (by decide)]; rfl
  · rw [jz 94 (by decide) (by decide)]; rfl
  · rw [jz 96 (by decide) (by decide)]; rfl
  · rw [jk 19 (by decide)]; rfl
  · rw [jk 20 (by decide)]; rfl
  · rw [jk 44 (by decide)]; rfl
  · rw [jk 50 (by decide)]; rfl
  · rw [jk 12 (by decide)]
  · rw [jz 99 (by decide) (by decide), jz 100 (by decide) (by decide)]
  · rw [up2_n (by decide)]; exact hcl.1.2.2.2.2.2
  · rw [up2_n (by decide), jz 98 (by decide) (by decide)]; exact hcl.1.2.2.2.2.2.symm
  · rw [up2_n (by omega)]; exact ja a (by omega) (by omega) (by omega) (by omega) (by omega) (by omega)
  · rw [jk 18 (by decide)]; rfl
  · rw [← hJ, upr_n (by decide), upr_n (by decide), up2_n (by decide), up2_n (by decide), up2_n (by decide), up2_n (by decide), up2_n (by decide), upr_s]
  · rw [← hJ, upr_s]
  · rw [← hJ, upr_n (by decide), upr_n (by decide), up2_n (by decide), up2_n (by decide), up2_n (by decide), up2_n (by decide), up2_s, upr_n (by decide), upr_n (by decide), i3 12 (by decide) (by decide) (by decide) (by decide) (by decide) (by decide) (by decide)]; rfl
  · rw [← hJ, upr_n (by decide), upr_n (by decide), up2_n (by decide), up2_n (by decide), up2_n (by decide), up2_n (by decide), up2_s, upr_s]
  · rw [jk 62 (by decide)]
  · have h3 : z = 0 ∨ z = 1 ∨ z = 2 := by omega
    rw [← hJ, upr_n (by decide), upr_n (by decide), up2_n (by decide)]
    rcases h3 with rfl | rfl | rfl <;> simp (config := { decide := true }) only [up2_s, up2_n, upr_s, upr_n, ne_eq, not_false_eq_true, Nat.reduceAdd]
  · rw [ja 121 (by decide) (by decide) (by decide) (by decide) (by decide) (by decide), i3 121 (by decide) (by decide) (by decide) (by decide) (by decide) (by decide) (by decide)]
  · rw [ja 0 (by decide) (by decide) (by decide) (by decide) (by decide) (by decide), i30]; rfl
  · rw [jk 69 (by decide)]
  · rw [ja 1 (by decide) (by decide) (by decide) (by decide) (by decide) (by decide), i3 1 (by decide) (by decide) (by decide) (by decide) (by decide) (by decide) (by decide)]
  · rw [jk 2 (by decide)]
  · rw [ja 0 (by decide) (by decide) (by decide) (by decide) (by decide) (by decide), i30, j70]; rfl
  · rw [hL2 6 (by decide), upr_s]; exact wd_f j hj
theorem INV_w {t : Nat} {u : Option Nat} {I : AI} {L : AL} {B : Nat} (h : INV t u I L B) : INV t u I L B := h
theorem law_V (xs : Nat → Int32) (Ln : Nat) (hl : Ln ≤ 3584) : V 271 0 [.ref 1000, .retAddr 0, .retAddr 0, .retAddr 0] [] 0 (I0X xs Ln) (fun _ _ => 0) (fun _ _ => none) (fun r n1 _ _ _ => r = some (.int 1) ∧ n1 ≤ 123) := by
  have hI0 : ∀ c, c < 123 → I0X xs Ln c = fun _ => 0 := fun c h => i0_z h
  simp (config := { decide := true, maxDischargeDepth := 20 }) only [↓reduceIte, ip_123, KV_i, KV_v, wsm_0, wsm_i, wsm_l, wsm_r, dlV_i, dlV_r, dlV_l, dlV_j, cat_i, cat_l, cat_r, rf_s, true_and, and_true, and_self, if_true, if_false, ite_true, ite_false, eq_self, true_or, or_true, false_or, or_false, not_true_eq_false, not_false_eq_true, ip_ge, pm_ge, ipk_0, pmk_0, ipk_1, pmk_1, ipk_2, pmk_2, ipk_3, pmk_3, ipk_4, pmk_4, ipk_5, pmk_5, ipk_6, pmk_6, ipk_7, pmk_7, at_0, at_1, at_2, at_3, Int32.reduceToNatClampNeg, Int32.reduceLT, Int32.reduceLE, Int32.reduceAdd, Nat.reduceAdd, Nat.reduceLT, uz, uq, up2_n, up2_s, upr_n, upr_s, ne_eq, not_false_eq_true, sh_0, oq_0, r271_0, r271_3, r271_4, hI0]
  refine k_class (fun I' hK => ?_)
  have hz : ∀ c, 70 ≤ c → c < 123 → I' c = fun _ => 0 := by
    obtain ⟨I3, hcl, rfl⟩ := hK
    intro c h1 h2
    rw [up2_n (by omega), up2_n (by omega), up2_n (by omega), up2_n (by omega), upr_n (by omega), hcl.2.2.2.2 c (by omega) (by omega) (by omega) (by omega), up2_n (by omega), up2_n (by omega)]
    exact i0_z h2
  have hx : I' 1001 0 = nI Ln := by
    obtain ⟨I3, hcl, rfl⟩ := hK
    rw [up2_n (by decide), up2_n (by decide), up2_n (by decide), up2_n (by decide), upr_n (by decide), hcl.2.2.2.2 1001 (by decide) (by decide) (by decide) (by decide), up2_n (by decide), up2_n (by decide)]
    rfl
  have r70 : RC (fun _ _ => none) sqC 70 = fun _ => none := rfl
  have i70 := hz 70 (by decide) (by decide)
  simp (config := { decide := true, maxDischargeDepth := 20 }) only [↓reduceIte, ip_123, KV_i, KV_v, wsm_0, wsm_i, wsm_l, wsm_r, dlV_i, dlV_r, dlV_l, dlV_j, cat_i, cat_l, cat_r, rf_s, true_and, and_true, and_self, if_true, if_false, ite_true, ite_false, eq_self, true_or, or_true, false_or, or_false, not_true_eq_false, not_false_eq_true, ip_ge, pm_ge, ipk_0, pmk_0, ipk_1, pmk_1, ipk_2, pmk_2, ipk_3, pmk_3, ipk_4, pmk_4, ipk_5, pmk_5, ipk_6, pmk_6, ipk_7, pmk_7, at_0, at_1, at_2, at_3, Int32.reduceToNatClampNeg, Int32.reduceLT, Int32.reduceLE, Int32.reduceAdd, Nat.reduceAdd, Nat.reduceLT, uz, uq, up2_n, up2_s, upr_n, upr_s, ne_eq, not_false_eq_true, sh_70, oq_70, r271_7, r271_8, r271_11, r271_12, r70, i70]
  refine Eq.mpr (k_model (fun c h1 h2 => hz c (by omega) h2) (fun c h1 h2 => upr_n (by omega))) ?_
  have rf : RC (RC (fun _ _ => none) sqC) [(70, 1, 71), (70, 3, 72), (70, 5, 73), (70, 6, 74), (70, 7, 75), (70, 8, 76), (70, 9, 77), (70, 21, 78), (70, 22, 79), (70, 23, 80), (70, 24, 81), (70, 25, 82), (70, 26, 83), (70, 27, 84), (70, 28, 85), (70, 29, 86), (70, 30, 87), (70, 31, 88), (70, 32, 89), (70, 33, 90), (70, 34, 91), (70, 35, 92), (70, 36, 93), (70, 37, 94), (70, 38, 95), (70, 39, 96), (70, 40, 97), (70, 41, 98), (70, 42, 99), (70, 43, 100), (70, 45, 101), (70, 46, 102), (70, 47, 103), (70, 48, 104), (70, 49, 105), (70, 51, 106), (70, 52, 107), (70, 53, 108), (70, 55, 109), (70, 56, 110), (70, 58, 111), (70, 59, 112), (70, 60, 113), (70, 61, 114), (70, 63, 115), (70, 64, 116), (70, 65, 117), (70, 70, 118), (70, 71, 119), (70, 72, 120), (70, 73, 121), (70, 74, 122)] = RX 32 none := (show RC (RC (fun _ _ => none) sqC) [(70, 1, 71), (70, 3, 72), (70, 5, 73), (70, 6, 74), (70, 7, 75), (70, 8, 76), (70, 9, 77), (70, 21, 78), (70, 22, 79), (70, 23, 80), (70, 24, 81), (70, 25, 82), (70, 26, 83), (70, 27, 84), (70, 28, 85), (70, 29, 86), (70, 30, 87), (70, 31, 88), (70, 32, 89), (70, 33, 90), (70, 34, 91), (70, 35, 92), (70, 36, 93), (70, 37, 94), (70, 38, 95), (70, 39, 96), (70, 40, 97), (70, 41, 98), (70, 42, 99), (70, 43, 100), (70, 45, 101), (70, 46, 102), (70, 47, 103), (70, 48, 104), (70, 49, 105), (70, 51, 106), (70, 52, 107), (70, 53, 108), (70, 55, 109), (70, 56, 110), (70, 58, 111), (70, 59, 112), (70, 60, 113), (70, 61, 114), (70, 63, 115), (70, 64, 116), (70, 65, 117), (70, 70, 118), (70, 71, 119), (70, 72, 120), (70, 73, 121), (70, 74, 122)] = RC (fun _ _ => none) sqA from rfl).trans sq_fin
  rw [rf]
  refine m_rest (fun c h1 h2 => by rw [up2_n (by omega)]; exact hz c (by omega) h2) (fun L2 h77 hL2 => ?_)
  have hI := INV_0 hK h77 hL2
  have main := lw_loop2 (xs := xs) hl (Ln / 7) 0 32 none _ L2 (by omega) hI (by rw [upr_n (by decide), upr_n (by decide), up2_n (by decide)]; exact hx)
  rw [show (nI (7 * 0) : Int32) = 0 from rfl] at main
  simp (config := { decide := true, maxDischargeDepth := 20 }) only [↓reduceIte, ip_123, KV_i, KV_v, wsm_0, wsm_i, wsm_l, wsm_r, dlV_i, dlV_r, dlV_l, dlV_j, cat_i, cat_l, cat_r, rf_s, true_and, and_true, and_self, if_true, if_false, ite_true, ite_false, eq_self, true_or, or_true, false_or, or_false, not_true_eq_false, not_false_eq_true, ip_ge, pm_ge, ipk_0, pmk_0, ipk_1, pmk_1, ipk_2, pmk_2, ipk_3, pmk_3, ipk_4, pmk_4, ipk_5, pmk_5, ipk_6, pmk_6, ipk_7, pmk_7, r271_15, r271_16, r271_17]
  exact main
