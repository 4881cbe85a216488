section RW
variable {ls st : List Value} {n : Nat} {I : AI} {L : AL} {R : AR} {Q : PQ}
theorem d27_1 : decode cX3_joined 1 = .ok (.tableswitch 39 (-12) (-10) #[35, 31, 27], 27) := by decide +kernel
theorem r27_1 {x1 : Int32} : V 27 1 ls (.int x1 :: st) n I L R Q = if x1 = -12 then V 27 36 ls st n I L R Q else (if x1 = -11 then V 27 32 ls st n I L R Q else (if x1 = -10 then V 27 28 ls st n I L R Q else (V 27 40 ls st n I L R Q))) := by
  by_cases h0 : x1 = -12
  · subst h0; rw [if_pos rfl]; exact v_tabIn c_27 d27_1 (by decide) rfl (by decide)
  rw [if_neg h0]
  by_cases h1 : x1 = -11
  · subst h1; rw [if_pos rfl]; exact v_tabIn c_27 d27_1 (by decide) rfl (by decide)
  rw [if_neg h1]
  by_cases h2 : x1 = -10
  · subst h2; rw [if_pos rfl]; exact v_tabIn c_27 d27_1 (by decide) rfl (by decide)
  rw [if_neg h2]
  have q0 : ¬ x1.toInt = (-12 : Int) := lv_neT h0 (by decide)
  have q1 : ¬ x1.toInt = (-11 : Int) := lv_neT h1 (by decide)
  have q2 : ¬ x1.toInt = (-10 : Int) := lv_neT h2 (by decide)
  exact v_tabOut c_27 d27_1 (by omega) (by decide)
theorem d30_1 : decode cX4_readTell 1 = .ok (.tableswitch 140 0 10 #[59, 66, 73, 80, 87, 94, 101, 101, 101, 101, 109], 59) := by decide +kernel
theorem r30_1 {x1 : Int32} : V 30 1 ls (.int x1 :: st) n I L R Q = if x1 = 0 then V 30 60 ls st n I L R Q else (if x1 = 1 then V 30 67 ls st n I L R Q else (if x1 = 2 then V 30 74 ls st n I L R Q else (if x1 = 3 then V 30 81 ls st n I L R Q else (if x1 = 4 then V 30 88 ls st n I L R Q else (if x1 = 5 then V 30 95 ls st n I L R Q else (if x1 = 6 then V 30 102 ls st n I L R Q else (if x1 = 7 then V 30 102 ls st n I L R Q else (if x1 = 8 then V 30 102 ls st n I L R Q else (if x1 = 9 then V 30 102 ls st n I L R Q else (if x1 = 10 then V 30 110 ls st n I L R Q else (V 30 141 ls st n I L R Q))))))))))) := by
  by_cases h0 : x1 = 0
  · subst h0; rw [if_pos rfl]; exact v_tabIn c_30 d30_1 (by decide) rfl (by decide)
  rw [if_neg h0]
  by_cases h1 : x1 = 1
  · subst h1; rw [if_pos rfl]; exact v_tabIn c_30 d30_1 (by decide) rfl (by decide)
  rw [if_neg h1]
  by_cases h2 : x1 = 2
  · subst h2; rw [if_pos rfl]; exact v_tabIn c_30 d30_1 (by decide) rfl (by decide)
  rw [if_neg h2]
  by_cases h3 : x1 = 3
  · subst h3; rw [if_pos rfl]; exact v_tabIn c_30 d30_1 (by decide) rfl (by decide)
  rw [if_neg h3]
  by_cases h4 : x1 = 4
  · subst h4; rw [if_pos rfl]; exact v_tabIn c_30 d30_1 (by decide) rfl (by decide)
  rw [if_neg h4]
  by_cases h5 : x1 = 5
  · subst h5; rw [if_pos rfl]; exact v_tabIn c_30 d30_1 (by decide) rfl (by decide)
  rw [if_neg h5]
  by_cases h6 : x1 = 6
  · subst h6; rw [if_pos rfl]; exact v_tabIn c_30 d30_1 (by decide) rfl (by decide)
  rw [if_neg h6]
  by_cases h7 : x1 = 7
  · subst h7; rw [if_pos rfl]; exact v_tabIn c_30 d30_1 (by decide) rfl (by decide)
  rw [if_neg h7]
  by_cases h8 : x1 = 8
  · subst h8; rw [if_pos rfl]; exact v_tabIn c_30 d30_1 (by decide) rfl (by decide)
  rw [if_neg h8]
  by_cases h9 : x1 = 9
  · subst h9; rw [if_pos rfl]; exact v_tabIn c_30 d30_1 (by decide) rfl (by decide)
  rw [if_neg h9]
  by_cases h10 : x1 = 10
  · subst h10; rw [if_pos rfl]; exact v_tabIn c_30 d30_1 (by decide) rfl (by decide)
  rw [if_neg h10]
  have q0 : ¬ x1.toInt = (0 : Int) := lv_neT h0 (by decide)
  have q1 : ¬ x1.toInt = (1 : Int) := lv_neT h1 (by decide)
  have q2 : ¬ x1.toInt = (2 : Int) := lv_neT h2 (by decide)
  have q3 : ¬ x1.toInt = (3 : Int) := lv_neT h3 (by decide)
  have q4 : ¬ x1.toInt = (4 : Int) := lv_neT h4 (by decide)
  have q5 : ¬ x1.toInt = (5 : Int) := lv_neT h5 (by decide)
  have q6 : ¬ x1.toInt = (6 : Int) := lv_neT h6 (by decide)
  have q7 : ¬ x1.toInt = (7 : Int) := lv_neT h7 (by decide)
  have q8 : ¬ x1.toInt = (8 : Int) := lv_neT h8 (by decide)
  have q9 : ¬ x1.toInt = (9 : Int) := lv_neT h9 (by decide)
  have q10 : ¬ x1.toInt = (10 : Int) := lv_neT h10 (by decide)
  exact v_tabOut c_30 d30_1 (by omega) (by decide)
theorem d80_12 : decode cX8_position 12 = .ok (.tableswitch 72 0 3 #[32, 42, 52, 62], 32) := by decide +kernel
theorem r80_12 {x1 : Int32} : V 80 12 ls (.int x1 :: st) n I L R Q = if x1 = 0 then V 80 44 ls st n I L R Q else (if x1 = 1 then V 80 54 ls st n I L R Q else (if x1 = 2 then V 80 64 ls st n I L R Q else (if x1 = 3 then V 80 74 ls st n I L R Q else (V 80 84 ls st n I L R Q)))) := by
  by_cases h0 : x1 = 0
  · subst h0; rw [if_pos rfl]; exact v_tabIn c_80 d80_12 (by decide) rfl (by decide)
  rw [if_neg h0]
  by_cases h1 : x1 = 1
  · subst h1; rw [if_pos rfl]; exact v_tabIn c_80 d80_12 (by decide) rfl (by decide)
  rw [if_neg h1]
  by_cases h2 : x1 = 2
  · subst h2; rw [if_pos rfl]; exact v_tabIn c_80 d80_12 (by decide) rfl (by decide)
  rw [if_neg h2]
  by_cases h3 : x1 = 3
  · subst h3; rw [if_pos rfl]; exact v_tabIn c_80 d80_12 (by decide) rfl (by decide)
  rw [if_neg h3]
  have q0 : ¬ x1.toInt = (0 : Int) := lv_neT h0 (by decide)
  have q1 : ¬ x1.toInt = (1 : Int) := lv_neT h1 (by decide)
  have q2 : ¬ x1.toInt = (2 : Int) := lv_neT h2 (by decide)
  have q3 : ¬ x1.toInt = (3 : Int) := lv_neT h3 (by decide)
  exact v_tabOut c_80 d80_12 (by omega) (by decide)
theorem d84_1 : decode cX8_count 1 = .ok (.tableswitch 150 0 10 #[59, 67, 75, 83, 91, 99, 110, 121, 129, 137, 142], 59) := by decide +kernel
theorem r84_1 {x1 : Int32} : V 84 1 ls (.int x1 :: st) n I L R Q = if x1 = 0 then V 84 60 ls st n I L R Q else (if x1 = 1 then V 84 68 ls st n I L R Q else (if x1 = 2 then V 84 76 ls st n I L R Q else (if x1 = 3 then V 84 84 ls st n I L R Q else (if x1 = 4 then V 84 92 ls st n I L R Q else (if x1 = 5 then V 84 100 ls st n I L R Q else (if x1 = 6 then V 84 111 ls st n I L R Q else (if x1 = 7 then V 84 122 ls st n I L R Q else (if x1 = 8 then V 84 130 ls st n I L R Q else (if x1 = 9 then V 84 138 ls st n I L R Q else (if x1 = 10 then V 84 143 ls st n I L R Q else (V 84 151 ls st n I L R Q))))))))))) := by
  by_cases h0 : x1 = 0
  · subst h0; rw [if_pos rfl]; exact v_tabIn c_84 d84_1 (by decide) rfl (by decide)
  rw [if_neg h0]
  by_cases h1 : x1 = 1
  · subst h1; rw [if_pos rfl]; exact v_tabIn c_84 d84_1 (by decide) rfl (by decide)
  rw [if_neg h1]
  by_cases h2 : x1 = 2
  · subst h2; rw [if_pos rfl]; exact v_tabIn c_84 d84_1 (by decide) rfl (by decide)
  rw [if_neg h2]
  by_cases h3 : x1 = 3
  · subst h3; rw [if_pos rfl]; exact v_tabIn c_84 d84_1 (by decide) rfl (by decide)
  rw [if_neg h3]
  by_cases h4 : x1 = 4
  · subst h4; rw [if_pos rfl]; exact v_tabIn c_84 d84_1 (by decide) rfl (by decide)
  rw [if_neg h4]
  by_cases h5 : x1 = 5
  · subst h5; rw [if_pos rfl]; exact v_tabIn c_84 d84_1 (by decide) rfl (by decide)
  rw [if_neg h5]
  by_cases h6 : x1 = 6
  · subst h6; rw [if_pos rfl]; exact v_tabIn c_84 d84_1 (by decide) rfl (by decide)
  rw [if_neg h6]
  by_cases h7 : x1 = 7
  · subst h7; rw [if_pos rfl]; exact v_tabIn c_84 d84_1 (by decide) rfl (by decide)
  rw [if_neg h7]
  by_cases h8 : x1 = 8
  · subst h8; rw [if_pos rfl]; exact v_tabIn c_84 d84_1 (by decide) rfl (by decide)
  rw [if_neg h8]
  by_cases h9 : x1 = 9
  · subst h9; rw [if_pos rfl]; exact v_tabIn c_84 d84_1 (by decide) rfl (by decide)
  rw [if_neg h9]
  by_cases h10 : x1 = 10
  · subst h10; rw [if_pos rfl]; exact v_tabIn c_84 d84_1 (by decide) rfl (by decide)
  rw [if_neg h10]
  have q0 : ¬ x1.toInt = (0 : Int) := lv_neT h0 (by decide)
  have q1 : ¬ x1.toInt = (1 : Int) := lv_neT h1 (by decide)
  have q2 : ¬ x1.toInt = (2 : Int) := lv_neT h2 (by decide)
  have q3 : ¬ x1.toInt = (3 : Int) := lv_neT h3 (by decide)
  have q4 : ¬ x1.toInt = (4 : Int) := lv_neT h4 (by decide)
  have q5 : ¬ x1.toInt = (5 : Int) := lv_neT h5 (by decide)
  have q6 : ¬ x1.toInt = (6 : Int) := lv_neT h6 (by decide)
  have q7 : ¬ x1.toInt = (7 : Int) := lv_neT h7 (by decide)
  have q8 : ¬ x1.toInt = (8 : Int) := lv_neT h8 (by decide)
  have q9 : ¬ x1.toInt = (9 : Int) := lv_neT h9 (by decide)
  have q10 : ¬ x1.toInt = (10 : Int) := lv_neT h10 (by decide)
  exact v_tabOut c_84 d84_1 (by omega) (by decide)
theorem d159_9 : decode cX9_tellOne 9 = .ok (.tableswitch 260 20 30 #[59, 88, 117, 146, 175, 203, 260, 260, 260, 260, 231], 59) := by decide +kernel
theorem r159_9 {x1 : Int32} : V 159 9 ls (.int x1 :: st) n I L R Q = if x1 = 20 then V 159 68 ls st n I L R Q else (if x1 = 21 then V 159 97 ls st n I L R Q else (if x1 = 22 then V 159 126 ls st n I L R Q else (if x1 = 23 then V 159 155 ls st n I L R Q else (if x1 = 24 then V 159 184 ls st n I L R Q else (if x1 = 25 then V 159 212 ls st n I L R Q else (if x1 = 26 then V 159 269 ls st n I L R Q else (if x1 = 27 then V 159 269 ls st n I L R Q else (if x1 = 28 then V 159 269 ls st n I L R Q else (if x1 = 29 then V 159 269 ls st n I L R Q else (if x1 = 30 then V 159 240 ls st n I L R Q else (V 159 269 ls st n I L R Q))))))))))) := by
  by_cases h0 : x1 = 20
  · subst h0; rw [if_pos rfl]; exact v_tabIn c_159 d159_9 (by decide) rfl (by decide)
  rw [if_neg h0]
  by_cases h1 : x1 = 21
  · subst h1; rw [if_pos rfl]; exact v_tabIn c_159 d159_9 (by decide) rfl (by decide)
  rw [if_neg h1]
  by_cases h2 : x1 = 22
  · subst h2; rw [if_pos rfl]; exact v_tabIn c_159 d159_9 (by decide) rfl (by decide)
  rw [if_neg h2]
  by_cases h3 : x1 = 23
  · subst h3; rw [if_pos rfl]; exact v_tabIn c_159 d159_9 (by decide) rfl (by decide)
  rw [if_neg h3]
  by_cases h4 : x1 = 24
  · subst h4; rw [if_pos rfl]; exact v_tabIn c_159 d159_9 (by decide) rfl (by decide)
  rw [if_neg h4]
  by_cases h5 : x1 = 25
  · subst h5; rw [if_pos rfl]; exact v_tabIn c_159 d159_9 (by decide) rfl (by decide)
  rw [if_neg h5]
  by_cases h6 : x1 = 26
  · subst h6; rw [if_pos rfl]; exact v_tabIn c_159 d159_9 (by decide) rfl (by decide)
  rw [if_neg h6]
  by_cases h7 : x1 = 27
  · subst h7; rw [if_pos rfl]; exact v_tabIn c_159 d159_9 (by decide) rfl (by decide)
  rw [if_neg h7]
  by_cases h8 : x1 = 28
  · subst h8; rw [if_pos rfl]; exact v_tabIn c_159 d159_9 (by decide) rfl (by decide)
  rw [if_neg h8]
  by_cases h9 : x1 = 29
  · subst h9; rw [if_pos rfl]; exact v_tabIn c_159 d159_9 (by decide) rfl (by decide)
  rw [if_neg h9]
  by_cases h10 : x1 = 30
  · subst h10; rw [if_pos rfl]; exact v_tabIn c_159 d159_9 (by decide) rfl (by decide)
  rw [if_neg h10]
  have q0 : ¬ x1.toInt = (20 : Int) := lv_neT h0 (by decide)
  have q1 : ¬ x1.toInt = (21 : Int) := lv_neT h1 (by decide)
  have q2 : ¬ x1.toInt = (22 : Int) := lv_neT h2 (by decide)
  have q3 : ¬ x1.toInt = (23 : Int) := lv_neT h3 (by decide)
  have q4 : ¬ x1.toInt = (24 : Int) := lv_neT h4 (by decide)
  have q5 : ¬ x1.toInt = (25 : Int) := lv_neT h5 (by decide)
  have q6 : ¬ x1.toInt = (26 : Int) := lv_neT h6 (by decide)
  have q7 : ¬ x1.toInt = (27 : Int) := lv_neT h7 (by decide)
  have q8 : ¬ x1.toInt = (28 : Int) := lv_neT h8 (by decide)
  have q9 : ¬ x1.toInt = (29 : Int) := lv_neT h9 (by decide)
  have q10 : ¬ x1.toInt = (30 : Int) := lv_neT h10 (by decide)
  exact v_tabOut c_159 d159_9 (by omega) (by decide)
theorem d202_12 : decode cX9_position 12 = .ok (.tableswitch 74 0 3 #[32, 38, 53, 59], 32) := by decide +kernel
theorem r202_12 {x1 : Int32} : V 202 12 ls (.int x1 :: st) n I L R Q = if x1 = 0 then V 202 44 ls st n I L R Q else (if x1 = 1 then V 202 50 ls st n I L R Q else (if x1 = 2 then V 202 65 ls st n I L R Q else (if x1 = 3 then V 202 71 ls st n I L R Q else (V 202 86 ls st n I L R Q)))) := by
  by_cases h0 : x1 = 0
  · subst h0; rw [if_pos rfl]; exact v_tabIn c_202 d202_12 (by decide) rfl (by decide)
  rw [if_neg h0]
  by_cases h1 : x1 = 1
  · subst h1; rw [if_pos rfl]; exact v_tabIn c_202 d202_12 (by decide) rfl (by decide)
  rw [if_neg h1]
  by_cases h2 : x1 = 2
  · subst h2; rw [if_pos rfl]; exact v_tabIn c_202 d202_12 (by decide) rfl (by decide)
  rw [if_neg h2]
  by_cases h3 : x1 = 3
  · subst h3; rw [if_pos rfl]; exact v_tabIn c_202 d202_12 (by decide) rfl (by decide)
  rw [if_neg h3]
  have q0 : ¬ x1.toInt = (0 : Int) := lv_neT h0 (by decide)
  have q1 : ¬ x1.toInt = (1 : Int) := lv_neT h1 (by decide)
  have q2 : ¬ x1.toInt = (2 : Int) := lv_neT h2 (by decide)
  have q3 : ¬ x1.toInt = (3 : Int) := lv_neT h3 (by decide)
  exact v_tabOut c_202 d202_12 (by omega) (by decide)
theorem d205_27 : decode cX9_man 27 = .ok (.lookupswitch 46 #[(0, 25), (1, 31)], 25) := by decide +kernel
theorem r205_27 {x1 : Int32} : V 205 27 ls (.int x1 :: st) n I L R Q = if x1 = 0 then V 205 52 ls st n I L R Q else (if x1 = 1 then V 205 58 ls st n I L R Q else (V 205 73 ls st n I L R Q)) := by
  by_cases h0 : x1 = 0
  · subst h0; rw [if_pos rfl]; exact v_lookup c_205 d205_27 (by decide) rfl (by decide)
  rw [if_neg h0]
  by_cases h1 : x1 = 1
  · subst h1; rw [if_pos rfl]; exact v_lookup c_205 d205_27 (by decide) rfl (by decide)
  rw [if_neg h1]
  exact v_lookup (off := 46) c_205 d205_27 (by decide) (by show Op.lookupswitch.offset [(0, 25), (1, 31)] (46) x1.toInt = _; rw [lv_osw (a := 0) h0 (by decide), lv_osw (a := 1) h1 (by decide)]; try rfl) (by decide)
theorem d255_1 : decode cX9_count 1 = .ok (.tableswitch 179 0 10 #[59, 69, 79, 89, 99, 109, 109, 119, 124, 129, 134], 59) := by decide +kernel
theorem r255_1 {x1 : Int32} : V 255 1 ls (.int x1 :: st) n I L R Q = if x1 = 0 then V 255 60 ls st n I L R Q else (if x1 = 1 then V 255 70 ls st n I L R Q else (if x1 = 2 then V 255 80 ls st n I L R Q else (if x1 = 3 then V 255 90 ls st n I L R Q else (if x1 = 4 then V 255 100 ls st n I L R Q else (if x1 = 5 then V 255 110 ls st n I L R Q else (if x1 = 6 then V 255 110 ls st n I L R Q else (if x1 = 7 then V 255 120 ls st n I L R Q else (if x1 = 8 then V 255 125 ls st n I L R Q else (if x1 = 9 then V 255 130 ls st n I L R Q else (if x1 = 10 then V 255 135 ls st n I L R Q else (V 255 180 ls st n I L R Q))))))))))) := by
  by_cases h0 : x1 = 0
  · subst h0; rw [if_pos rfl]; exact v_tabIn c_255 d255_1 (by decide) rfl (by decide)
  rw [if_neg h0]
  by_cases h1 : x1 = 1
  · subst h1; rw [if_pos rfl]; exact v_tabIn c_255 d255_1 (by decide) rfl (by decide)
  rw [if_neg h1]
  by_cases h2 : x1 = 2
  · subst h2; rw [if_pos rfl]; exact v_tabIn c_255 d255_1 (by decide) rfl (by decide)
  rw [if_neg h2]
  by_cases h3 : x1 = 3
  · subst h3; rw [if_pos rfl]; exact v_tabIn c_255 d255_1 (by decide) rfl (by decide)
  rw [if_neg h3]
  by_cases h4 : x1 = 4
  · subst h4; rw [if_pos rfl]; exact v_tabIn c_255 d255_1 (by decide) rfl (by decide)
  rw [if_neg h4]
  by_cases h5 : x1 = 5
  · subst h5; rw [if_pos rfl]; exact v_tabIn c_255 d255_1 (by decide) rfl (by decide)
  rw [if_neg h5]
  by_cases h6 : x1 = 6
  · subst h6; rw [if_pos rfl]; exact v_tabIn c_255 d255_1 (by decide) rfl (by decide)
  rw [if_neg h6]
  by_cases h7 : x1 = 7
  · subst h7; rw [if_pos rfl]; exact v_tabIn c_255 d255_1 (by decide) rfl (by decide)
  rw [if_neg h7]
  by_cases h8 : x1 = 8
  · subst h8; rw [if_pos rfl]; exact v_tabIn c_255 d255_1 (by decide) rfl (by decide)
  rw [if_neg h8]
  by_cases h9 : x1 = 9
  · subst h9; rw [if_pos rfl]; exact v_tabIn c_255 d255_1 (by decide) rfl (by decide)
  rw [if_neg h9]
  by_cases h10 : x1 = 10
  · subst h10; rw [if_pos rfl]; exact v_tabIn c_255 d255_1 (by decide) rfl (by decide)
  rw [if_neg h10]
  have q0 : ¬ x1.toInt = (0 : Int) := lv_neT h0 (by decide)
  have q1 : ¬ x1.toInt = (1 : Int) := lv_neT h1 (by decide)
  have q2 : ¬ x1.toInt = (2 : Int) := lv_neT h2 (by decide)
  have q3 : ¬ x1.toInt = (3 : Int) := lv_neT h3 (by decide)
  have q4 : ¬ x1.toInt = (4 : Int) := lv_neT h4 (by decide)
  have q5 : ¬ x1.toInt = (5 : Int) := lv_neT h5 (by decide)
  have q6 : ¬ x1.toInt = (6 : Int) := lv_neT h6 (by decide)
  have q7 : ¬ x1.toInt = (7 : Int) := lv_neT h7 (by decide)
  have q8 : ¬ x1.toInt = (8 : Int) := lv_neT h8 (by decide)
  have q9 : ¬ x1.toInt = (9 : Int) := lv_neT h9 (by decide)
  have q10 : ¬ x1.toInt = (10 : Int) := lv_neT h10 (by decide)
  exact v_tabOut c_255 d255_1 (by omega) (by decide)
end RW
