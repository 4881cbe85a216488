/-! the constructors -/
theorem at_0 : atX .int = 0 := rfl
theorem at_1 : atX .long = 1 := rfl
theorem at_2 : atX .byte = 2 := rfl
theorem at_3 : atX .boolean = 3 := rfl
theorem ipk_0 : ip 0 = 0 := rfl
theorem pmk_0 : pm 0 = 0 := rfl
theorem ipk_1 : ip 1 = 2 := rfl
theorem pmk_1 : pm 1 = 7 := rfl
theorem ipk_2 : ip 2 = 3 := rfl
theorem pmk_2 : pm 2 = 1 := rfl
theorem ipk_3 : ip 3 = 4 := rfl
theorem pmk_3 : pm 3 = 2 := rfl
theorem ipk_4 : ip 4 = 5 := rfl
theorem pmk_4 : pm 4 = 3 := rfl
theorem ipk_5 : ip 5 = 6 := rfl
theorem pmk_5 : pm 5 = 4 := rfl
theorem ipk_6 : ip 6 = 7 := rfl
theorem pmk_6 : pm 6 = 5 := rfl
theorem ipk_7 : ip 7 = 1 := rfl
theorem pmk_7 : pm 7 = 6 := rfl
theorem sh_0 : shpL[0]? = some (.inl 8) := rfl
theorem sh_1 : shpL[1]? = some (.inl 6) := rfl
theorem sh_2 : shpL[2]? = some (.inr (2, 2000)) := rfl
theorem sh_3 : shpL[3]? = some (.inr (0, 401)) := rfl
theorem sh_4 : shpL[4]? = some (.inr (0, 401)) := rfl
theorem sh_5 : shpL[5]? = some (.inr (1, 401)) := rfl
theorem sh_6 : shpL[6]? = some (.inr (1, 23)) := rfl
theorem sh_7 : shpL[7]? = some (.inl 4) := rfl
theorem sh_8 : shpL[8]? = some (.inr (1, 35)) := rfl
theorem sh_9 : shpL[9]? = some (.inr (0, 35)) := rfl
theorem sh_10 : shpL[10]? = some (.inr (0, 35)) := rfl
theorem sh_11 : shpL[11]? = some (.inr (0, 21)) := rfl
theorem sh_12 : shpL[12]? = some (.inl 2) := rfl
theorem sh_13 : shpL[13]? = some (.inr (0, 45)) := rfl
theorem sh_14 : shpL[14]? = some (.inr (3, 3)) := rfl
theorem sh_15 : shpL[15]? = some (.inr (0, 1800)) := rfl
theorem sh_16 : shpL[16]? = some (.inr (0, 135)) := rfl
theorem sh_17 : shpL[17]? = some (.inl 7) := rfl
theorem sh_18 : shpL[18]? = some (.inr (0, 14)) := rfl
theorem sh_19 : shpL[19]? = some (.inr (0, 14)) := rfl
theorem sh_20 : shpL[20]? = some (.inl 0) := rfl
theorem sh_21 : shpL[21]? = some (.inr (1, 19)) := rfl
theorem sh_22 : shpL[22]? = some (.inr (1, 14)) := rfl
theorem sh_23 : shpL[23]? = some (.inl 1) := rfl
theorem sh_24 : shpL[24]? = some (.inr (0, 36)) := rfl
theorem sh_25 : shpL[25]? = some (.inr (0, 6)) := rfl
theorem sh_26 : shpL[26]? = some (.inr (0, 64)) := rfl
theorem sh_27 : shpL[27]? = some (.inr (0, 14)) := rfl
theorem sh_28 : shpL[28]? = some (.inr (1, 10)) := rfl
theorem sh_29 : shpL[29]? = some (.inr (0, 5)) := rfl
theorem sh_30 : shpL[30]? = some (.inr (0, 5)) := rfl
theorem sh_31 : shpL[31]? = some (.inr (0, 5)) := rfl
theorem sh_32 : shpL[32]? = some (.inl 5) := rfl
theorem sh_33 : shpL[33]? = some (.inr (0, 14)) := rfl
theorem sh_34 : shpL[34]? = some (.inr (0, 14)) := rfl
theorem sh_35 : shpL[35]? = some (.inr (0, 14)) := rfl
theorem sh_36 : shpL[36]? = some (.inr (0, 14)) := rfl
theorem sh_37 : shpL[37]? = some (.inr (0, 42)) := rfl
theorem sh_38 : shpL[38]? = some (.inr (0, 42)) := rfl
theorem sh_39 : shpL[39]? = some (.inr (0, 6)) := rfl
theorem sh_40 : shpL[40]? = some (.inr (0, 6)) := rfl
theorem sh_41 : shpL[41]? = some (.inr (0, 6)) := rfl
theorem sh_42 : shpL[42]? = some (.inr (0, 6)) := rfl
theorem sh_43 : shpL[43]? = some (.inr (0, 5)) := rfl
theorem sh_44 : shpL[44]? = some (.inr (0, 24)) := rfl
theorem sh_45 : shpL[45]? = some (.inr (0, 16)) := rfl
theorem sh_46 : shpL[46]? = some (.inl 3) := rfl
theorem sh_47 : shpL[47]? = some (.inr (0, 408)) := rfl
theorem sh_48 : shpL[48]? = some (.inr (0, 9)) := rfl
theorem sh_49 : shpL[49]? = some (.inr (0, 16)) := rfl
theorem sh_50 : shpL[50]? = some (.inr (0, 4)) := rfl
theorem sh_51 : shpL[51]? = some (.inl 5) := rfl
theorem sh_52 : shpL[52]? = some (.inr (0, 14)) := rfl
theorem sh_53 : shpL[53]? = some (.inr (0, 14)) := rfl
theorem sh_54 : shpL[54]? = some (.inr (0, 14)) := rfl
theorem sh_55 : shpL[55]? = some (.inr (0, 14)) := rfl
theorem sh_56 : shpL[56]? = some (.inr (0, 42)) := rfl
theorem sh_57 : shpL[57]? = some (.inr (0, 42)) := rfl
theorem sh_58 : shpL[58]? = some (.inr (0, 6)) := rfl
theorem sh_59 : shpL[59]? = some (.inr (0, 6)) := rfl
theorem sh_60 : shpL[60]? = some (.inr (0, 6)) := rfl
theorem sh_61 : shpL[61]? = some (.inr (0, 6)) := rfl
theorem sh_62 : shpL[62]? = some (.inr (0, 5)) := rfl
theorem sh_63 : shpL[63]? = some (.inr (0, 24)) := rfl
theorem sh_64 : shpL[64]? = some (.inr (0, 16)) := rfl
theorem sh_65 : shpL[65]? = some (.inl 3) := rfl
theorem sh_66 : shpL[66]? = some (.inr (0, 408)) := rfl
theorem sh_67 : shpL[67]? = some (.inr (0, 9)) := rfl
theorem sh_68 : shpL[68]? = some (.inr (0, 16)) := rfl
theorem sh_69 : shpL[69]? = some (.inr (0, 4)) := rfl
theorem sh_70 : shpL[70]? = some (.inl 9) := rfl
theorem sh_71 : shpL[71]? = some (.inr (2, 2000)) := rfl
theorem sh_72 : shpL[72]? = some (.inr (2, 2000)) := rfl
theorem sh_73 : shpL[73]? = some (.inr (0, 403)) := rfl
theorem sh_74 : shpL[74]? = some (.inr (0, 403)) := rfl
theorem sh_75 : shpL[75]? = some (.inr (0, 403)) := rfl
theorem sh_76 : shpL[76]? = some (.inr (1, 403)) := rfl
theorem sh_77 : shpL[77]? = some (.inr (1, 23)) := rfl
theorem sh_78 : shpL[78]? = some (.inr (1, 35)) := rfl
theorem sh_79 : shpL[79]? = some (.inr (0, 35)) := rfl
theorem sh_80 : shpL[80]? = some (.inr (0, 35)) := rfl
theorem sh_81 : shpL[81]? = some (.inr (0, 2)) := rfl
theorem sh_82 : shpL[82]? = some (.inr (0, 28)) := rfl
theorem sh_83 : shpL[83]? = some (.inr (0, 28)) := rfl
theorem sh_84 : shpL[84]? = some (.inr (0, 28)) := rfl
theorem sh_85 : shpL[85]? = some (.inr (0, 28)) := rfl
theorem sh_86 : shpL[86]? = some (.inr (0, 84)) := rfl
theorem sh_87 : shpL[87]? = some (.inr (0, 84)) := rfl
theorem sh_88 : shpL[88]? = some (.inr (0, 2)) := rfl
theorem sh_89 : shpL[89]? = some (.inr (0, 12)) := rfl
theorem sh_90 : shpL[90]? = some (.inr (0, 12)) := rfl
theorem sh_91 : shpL[91]? = some (.inr (0, 2)) := rfl
theorem sh_92 : shpL[92]? = some (.inr (0, 12)) := rfl
theorem sh_93 : shpL[93]? = some (.inr (0, 12)) := rfl
theorem sh_94 : shpL[94]? = some (.inr (0, 2)) := rfl
theorem sh_95 : shpL[95]? = some (.inr (0, 10)) := rfl
theorem sh_96 : shpL[96]? = some (.inr (0, 2)) := rfl
theorem sh_97 : shpL[97]? = some (.inr (0, 48)) := rfl
theorem sh_98 : shpL[98]? = some (.inr (0, 2)) := rfl
theorem sh_99 : shpL[99]? = some (.inr (0, 8)) := rfl
theorem sh_100 : shpL[100]? = some (.inr (0, 8)) := rfl
theorem sh_101 : shpL[101]? = some (.inr (3, 260)) := rfl
theorem sh_102 : shpL[102]? = some (.inr (0, 260)) := rfl
theorem sh_103 : shpL[103]? = some (.inr (0, 260)) := rfl
theorem sh_104 : shpL[104]? = some (.inr (0, 260)) := rfl
theorem sh_105 : shpL[105]? = some (.inr (0, 260)) := rfl
theorem sh_106 : shpL[106]? = some (.inr (0, 840)) := rfl
theorem sh_107 : shpL[107]? = some (.inr (0, 840)) := rfl
theorem sh_108 : shpL[108]? = some (.inr (0, 64)) := rfl
theorem sh_109 : shpL[109]? = some (.inr (0, 9)) := rfl
theorem sh_110 : shpL[110]? = some (.inr (0, 400)) := rfl
theorem sh_111 : shpL[111]? = some (.inr (0, 48)) := rfl
theorem sh_112 : shpL[112]? = some (.inr (0, 48)) := rfl
theorem sh_113 : shpL[113]? = some (.inr (0, 14)) := rfl
theorem sh_114 : shpL[114]? = some (.inr (0, 14)) := rfl
theorem sh_115 : shpL[115]? = some (.inr (0, 1920)) := rfl
theorem sh_116 : shpL[116]? = some (.inr (3, 14)) := rfl
theorem sh_117 : shpL[117]? = some (.inr (0, 84)) := rfl
theorem sh_118 : shpL[118]? = some (.inr (0, 5)) := rfl
theorem sh_119 : shpL[119]? = some (.inr (0, 5)) := rfl
theorem sh_120 : shpL[120]? = some (.inr (0, 5)) := rfl
theorem sh_121 : shpL[121]? = some (.inr (3, 3)) := rfl
theorem sh_122 : shpL[122]? = some (.inr (0, 144)) := rfl
theorem oq_0 {n : Nat} (h : ip 0 < n) : obX n 0 = 8 := by unfold obX; rw [if_pos h]; rfl
theorem oq_1 {n : Nat} (h : ip 1 < n) : obX n 1 = 6 := by unfold obX; rw [if_pos h]; rfl
theorem tq_2 {n : Nat} (h : ip 2 < n) : tgX n 2 = 2 := by unfold tgX; rw [if_pos h]; rfl
theorem lq_2 {n : Nat} {I : AI} (h : ip 2 < n) : lnX n I 2 = 2000 := by unfold lnX; rw [if_pos h]; rfl
theorem tq_3 {n : Nat} (h : ip 3 < n) : tgX n 3 = 0 := by unfold tgX; rw [if_pos h]; rfl
theorem lq_3 {n : Nat} {I : AI} (h : ip 3 < n) : lnX n I 3 = 401 := by unfold lnX; rw [if_pos h]; rfl
theorem tq_4 {n : Nat} (h : ip 4 < n) : tgX n 4 = 0 := by unfold tgX; rw [if_pos h]; rfl
theorem lq_4 {n : Nat} {I : AI} (h : ip 4 < n) : lnX n I 4 = 401 := by unfold lnX; rw [if_pos h]; rfl
theorem tq_5 {n : Nat} (h : ip 5 < n) : tgX n 5 = 1 := by unfold tgX; rw [if_pos h]; rfl
theorem lq_5 {n : Nat} {I : AI} (h : ip 5 < n) : lnX n I 5 = 401 := by unfold lnX; rw [if_pos h]; rfl
theorem tq_6 {n : Nat} (h : ip 6 < n) : tgX n 6 = 1 := by unfold tgX; rw [if_pos h]; rfl
theorem lq_6 {n : Nat} {I : AI} (h : ip 6 < n) : lnX n I 6 = 23 := by unfold lnX; rw [if_pos h]; rfl
theorem oq_7 {n : Nat} (h : ip 7 < n) : obX n 7 = 4 := by unfold obX; rw [if_pos h]; rfl
theorem tq_8 {n : Nat} (h : ip 8 < n) : tgX n 8 = 1 := by unfold tgX; rw [if_pos h]; rfl
theorem lq_8 {n : Nat} {I : AI} (h : ip 8 < n) : lnX n I 8 = 35 := by unfold lnX; rw [if_pos h]; rfl
theorem tq_9 {n : Nat} (h : ip 9 < n) : tgX n 9 = 0 := by unfold tgX; rw [if_pos h]; rfl
theorem lq_9 {n : Nat} {I : AI} (h : ip 9 < n) : lnX n I 9 = 35 := by unfold lnX; rw [if_pos h]; rfl
theorem tq_10 {n : Nat} (h : ip 10 < n) : tgX n 10 = 0 := by unfold tgX; rw [if_pos h]; rfl
theorem lq_10 {n : Nat} {I : AI} (h : ip 10 < n) : lnX n I 10 = 35 := by unfold lnX; rw [if_pos h]; rfl
theorem tq_11 {n : Nat} (h : ip 11 < n) : tgX n 11 = 0 := by unfold tgX; rw [if_pos h]; rfl
theorem lq_11 {n : Nat} {I : AI} (h : ip 11 < n) : lnX n I 11 = 21 := by unfold lnX; rw [if_pos h]; rfl
theorem oq_12 {n : Nat} (h : ip 12 < n) : obX n 12 = 2 := by unfold obX; rw [if_pos h]; rfl
theorem tq_13 {n : Nat} (h : ip 13 < n) : tgX n 13 = 0 := by unfold tgX; rw [if_pos h]; rfl
theorem lq_13 {n : Nat} {I : AI} (h : ip 13 < n) : lnX n I 13 = 45 := by unfold lnX; rw [if_pos h]; rfl
theorem tq_14 {n : Nat} (h : ip 14 < n) : tgX n 14 = 3 := by unfold tgX; rw [if_pos h]; rfl
theorem lq_14 {n : Nat} {I : AI} (h : ip 14 < n) : lnX n I 14 = 3 := by unfold lnX; rw [if_pos h]; rfl
theorem tq_15 {n : Nat} (h : ip 15 < n) : tgX n 15 = 0 := by unfold tgX; rw [if_pos h]; rfl
theorem lq_15 {n : Nat} {I : AI} (h : ip 15 < n) : lnX n I 15 = 1800 := by unfold lnX; rw [if_pos h]; rfl
theorem tq_16 {n : Nat} (h : ip 16 < n) : tgX n 16 = 0 := by unfold tgX; rw [if_pos h]; rfl
theorem lq_16 {n : Nat} {I : AI} (h : ip 16 < n) : lnX n I 16 = 135 := by unfold lnX; rw [if_pos h]; rfl
theorem oq_17 {n : Nat} (h : ip 17 < n) : obX n 17 = 7 := by unfold obX; rw [if_pos h]; rfl
theorem tq_18 {n : Nat} (h : ip 18 < n) : tgX n 18 = 0 := by unfold tgX; rw [if_pos h]; rfl
theorem lq_18 {n : Nat} {I : AI} (h : ip 18 < n) : lnX n I 18 = 14 := by unfold lnX; rw [if_pos h]; rfl
theorem tq_19 {n : Nat} (h : ip 19 < n) : tgX n 19 = 0 := by unfold tgX; rw [if_pos h]; rfl
theorem lq_19 {n : Nat} {I : AI} (h : ip 19 < n) : lnX n I 19 = 14 := by unfold lnX; rw [if_pos h]; rfl
theorem oq_20 {n : Nat} (h : ip 20 < n) : obX n 20 = 0 := by unfold obX; rw [if_pos h]; rfl
theorem tq_21 {n : Nat} (h : ip 21 < n) : tgX n 21 = 1 := by unfold tgX; rw [if_pos h]; rfl
theorem lq_21 {n : Nat} {I : AI} (h : ip 21 < n) : lnX n I 21 = 19 := by unfold lnX; rw [if_pos h]; rfl
theorem tq_22 {n : Nat} (h : ip 22 < n) : tgX n 22 = 1 := by unfold tgX; rw [if_pos h]; rfl
theorem lq_22 {n : Nat} {I : AI} (h : ip 22 < n) : lnX n I 22 = 14 := by unfold lnX; rw [if_pos h]; rfl
theorem oq_23 {n : Nat} (h : ip 23 < n) : obX n 23 = 1 := by unfold obX; rw [if_pos h]; rfl
theorem tq_24 {n : Nat} (h : ip 24 < n) : tgX n 24 = 0 := by unfold tgX; rw [if_pos h]; rfl
theorem lq_24 {n : Nat} {I : AI} (h : ip 24 < n) : lnX n I 24 = 36 := by unfold lnX; rw [if_pos h]; rfl
theorem tq_25 {n : Nat} (h : ip 25 < n) : tgX n 25 = 0 := by unfold tgX; rw [if_pos h]; rfl
theorem lq_25 {n : Nat} {I : AI} (h : ip 25 < n) : lnX n I 25 = 6 := by unfold lnX; rw [if_pos h]; rfl
theorem tq_26 {n : Nat} (h : ip 26 < n) : tgX n 26 = 0 := by unfold tgX; rw [if_pos h]; rfl
theorem lq_26 {n : Nat} {I : AI} (h : ip 26 < n) : lnX n I 26 = 64 := by unfold lnX; rw [if_pos h]; rfl
theorem tq_27 {n : Nat} (h : ip 27 < n) : tgX n 27 = 0 := by unfold tgX; rw [if_pos h]; rfl
theorem lq_27 {n : Nat} {I : AI} (h : ip 27 < n) : lnX n I 27 = 14 := by unfold lnX; rw [if_pos h]; rfl
theorem tq_28 {n : Nat} (h : ip 28 < n) : tgX n 28 = 1 := by unfold tgX; rw [if_pos h]; rfl
theorem lq_28 {n : Nat} {I : AI} (h : ip 28 < n) : lnX n I 28 = 10 := by unfold lnX; rw [if_pos h]; rfl
theorem tq_29 {n : Nat} (h : ip 29 < n) : tgX n 29 = 0 := by unfold tgX; rw [if_pos h]; rfl
theorem lq_29 {n : Nat} {I : AI} (h : ip 29 < n) : lnX n I 29 = 5 := by unfold lnX; rw [if_pos h]; rfl
theorem tq_30 {n : Nat} (h : ip 30 < n) : tgX n 30 = 0 := by unfold tgX; rw [if_pos h]; rfl
theorem lq_30 {n : Nat} {I : AI} (h : ip 30 < n) : lnX n I 30 = 5 := by unfold lnX; rw [if_pos h]; rfl
theorem tq_31 {n : Nat} (h : ip 31 < n) : tgX n 31 = 0 := by unfold tgX; rw [if_pos h]; rfl
theorem lq_31 {n : Nat} {I : AI} (h : ip 31 < n) : lnX n I 31 = 5 := by unfold lnX; rw [if_pos h]; rfl
theorem oq_32 {n : Nat} (h : ip 32 < n) : obX n 32 = 5 := by unfold obX; rw [if_pos h]; rfl
theorem tq_33 {n : Nat} (h : ip 33 < n) : tgX n 33 = 0 := by unfold tgX; rw [if_pos h]; rfl
theorem lq_33 {n : Nat} {I : AI} (h : ip 33 < n) : lnX n I 33 = 14 := by unfold lnX; rw [if_pos h]; rfl
theorem tq_34 {n : Nat} (h : ip 34 < n) : tgX n 34 = 0 := by unfold tgX; rw [if_pos h]; rfl
theorem lq_34 {n : Nat} {I : AI} (h : ip 34 < n) : lnX n I 34 = 14 := by unfold lnX; rw [if_pos h]; rfl
theorem tq_35 {n : Nat} (h : ip 35 < n) : tgX n 35 = 0 := by unfold tgX; rw [if_pos h]; rfl
theorem lq_35 {n : Nat} {I : AI} (h : ip 35 < n) : lnX n I 35 = 14 := by unfold lnX; rw [if_pos h]; rfl
theorem tq_36 {n : Nat} (h : ip 36 < n) : tgX n 36 = 0 := by unfold tgX; rw [if_pos h]; rfl
theorem lq_36 {n : Nat} {I : AI} (h : ip 36 < n) : lnX n I 36 = 14 := by unfold lnX; rw [if_pos h]; rfl
theorem tq_37 {n : Nat} (h : ip 37 < n) : tgX n 37 = 0 := by unfold tgX; rw [if_pos h]; rfl
theorem lq_37 {n : Nat} {I : AI} (h : ip 37 < n) : lnX n I 37 = 42 := by unfold lnX; rw [if_pos h]; rfl
theorem tq_38 {n : Nat} (h : ip 38 < n) : tgX n 38 = 0 := by unfold tgX; rw [if_pos h]; rfl
theorem lq_38 {n : Nat} {I : AI} (h : ip 38 < n) : lnX n I 38 = 42 := by unfold lnX; rw [if_pos h]; rfl
theorem tq_39 {n : Nat} (h : ip 39 < n) : tgX n 39 = 0 := by unfold tgX; rw [if_pos h]; rfl
theorem lq_39 {n : Nat} {I : AI} (h : ip 39 < n) : lnX n I 39 = 6 := by unfold lnX; rw [if_pos h]; rfl
theorem tq_40 {n : Nat} (h : ip 40 < n) : tgX n 40 = 0 := by unfold tgX; rw [if_pos h]; rfl
theorem lq_40 {n : Nat} {I : AI} (h : ip 40 < n) : lnX n I 40 = 6 := by unfold lnX; rw [if_pos h]; rfl
theorem tq_41 {n : Nat} (h : ip 41 < n) : tgX n 41 = 0 := by unfold tgX; rw [if_pos h]; rfl
theorem lq_41 {n : Nat} {I : AI} (h : ip 41 < n) : lnX n I 41 = 6 := by unfold lnX; rw [if_pos h]; rfl
theorem tq_42 {n : Nat} (h : ip 42 < n) : tgX n 42 = 0 := by unfold tgX; rw [if_pos h]; rfl
theorem lq_42 {n : Nat} {I : AI} (h : ip 42 < n) : lnX n I 42 = 6 := by unfold lnX; rw [if_pos h]; rfl
theorem tq_43 {n : Nat} (h : ip 43 < n) : tgX n 43 = 0 := by unfold tgX; rw [if_pos h]; rfl
theorem lq_43 {n : Nat} {I : AI} (h : ip 43 < n) : lnX n I 43 = 5 := by unfold lnX; rw [if_pos h]; rfl
theorem tq_44 {n : Nat} (h : ip 44 < n) : tgX n 44 = 0 := by unfold tgX; rw [if_pos h]; rfl
theorem lq_44 {n : Nat} {I : AI} (h : ip 44 < n) : lnX n I 44 = 24 := by unfold lnX; rw [if_pos h]; rfl
theorem tq_45 {n : Nat} (h : ip 45 < n) : tgX n 45 = 0 := by unfold tgX; rw [if_pos h]; rfl
theorem lq_45 {n : Nat} {I : AI} (h : ip 45 < n) : lnX n I 45 = 16 := by unfold lnX; rw [if_pos h]; rfl
theorem oq_46 {n : Nat} (h : ip 46 < n) : obX n 46 = 3 := by unfold obX; rw [if_pos h]; rfl
theorem tq_47 {n : Nat} (h : ip 47 < n) : tgX n 47 = 0 := by unfold tgX; rw [if_pos h]; rfl
theorem lq_47 {n : Nat} {I : AI} (h : ip 47 < n) : lnX n I 47 = 408 := by unfold lnX; rw [if_pos h]; rfl
theorem tq_48 {n : Nat} (h : ip 48 < n) : tgX n 48 = 0 := by unfold tgX; rw [if_pos h]; rfl
theorem lq_48 {n : Nat} {I : AI} (h : ip 48 < n) : lnX n I 48 = 9 := by unfold lnX; rw [if_pos h]; rfl
theorem tq_49 {n : Nat} (h : ip 49 < n) : tgX n 49 = 0 := by unfold tgX; rw [if_pos h]; rfl
theorem lq_49 {n : Nat} {I : AI} (h : ip 49 < n) : lnX n I 49 = 16 := by unfold lnX; rw [if_pos h]; rfl
theorem tq_50 {n : Nat} (h : ip 50 < n) : tgX n 50 = 0 := by unfold tgX; rw [if_pos h]; rfl
theorem lq_50 {n : Nat} {I : AI} (h : ip 50 < n) : lnX n I 50 = 4 := by unfold lnX; rw [if_pos h]; rfl
theorem oq_51 {n : Nat} (h : ip 51 < n) : obX n 51 = 5 := by unfold obX; rw [if_pos h]; rfl
theorem tq_52 {n : Nat} (h : ip 52 < n) : tgX n 52 = 0 := by unfold tgX; rw [if_pos h]; rfl
theorem lq_52 {n : Nat} {I : AI} (h : ip 52 < n) : lnX n I 52 = 14 := by unfold lnX; rw [if_pos h]; rfl
theorem tq_53 {n : Nat} (h : ip 53 < n) : tgX n 53 = 0 := by unfold tgX; rw [if_pos h]; rfl
theorem lq_53 {n : Nat} {I : AI} (h : ip 53 < n) : lnX n I 53 = 14 := by unfold lnX; rw [if_pos h]; rfl
theorem tq_54 {n : Nat} (h : ip 54 < n) : tgX n 54 = 0 := by unfold tgX; rw [if_pos h]; rfl
theorem lq_54 {n : Nat} {I : AI} (h : ip 54 < n) : lnX n I 54 = 14 := by unfold lnX; rw [if_pos h]; rfl
theorem tq_55 {n : Nat} (h : ip 55 < n) : tgX n 55 = 0 := by unfold tgX; rw [if_pos h]; rfl
theorem lq_55 {n : Nat} {I : AI} (h : ip 55 < n) : lnX n I 55 = 14 := by unfold lnX; rw [if_pos h]; rfl
theorem tq_56 {n : Nat} (h : ip 56 < n) : tgX n 56 = 0 := by unfold tgX; rw [if_pos h]; rfl
theorem lq_56 {n : Nat} {I : AI} (h : ip 56 < n) : lnX n I 56 = 42 := by unfold lnX; rw [if_pos h]; rfl
theorem tq_57 {n : Nat} (h : ip 57 < n) : tgX n 57 = 0 := by unfold tgX; rw [if_pos h]; rfl
theorem lq_57 {n : Nat} {I : AI} (h : ip 57 < n) : lnX n I 57 = 42 := by unfold lnX; rw [if_pos h]; rfl
theorem tq_58 {n : Nat} (h : ip 58 < n) : tgX n 58 = 0 := by unfold tgX; rw [if_pos h]; rfl
theorem lq_58 {n : Nat} {I : AI} (h : ip 58 < n) : lnX n I 58 = 6 := by unfold lnX; rw [if_pos h]; rfl
theorem tq_59 {n : Nat} (h : ip 59 < n) : tgX n 59 = 0 := by unfold tgX; rw [if_pos h]; rfl
theorem lq_59 {n : Nat} {I : AI} (h : ip 59 < n) : lnX n I 59 = 6 := by unfold lnX; rw [if_pos h]; rfl
theorem tq_60 {n : Nat} (h : ip 60 < n) : tgX n 60 = 0 := by unfold tgX; rw [if_pos h]; rfl
theorem lq_60 {n : Nat} {I : AI} (h : ip 60 < n) : lnX n I 60 = 6 := by unfold lnX; rw [if_pos h]; rfl
theorem tq_61 {n : Nat} (h : ip 61 < n) : tgX n 61 = 0 := by unfold tgX; rw [if_pos h]; rfl
theorem lq_61 {n : Nat} {I : AI} (h : ip 61 < n) : lnX n I 61 = 6 := by unfold lnX; rw [if_pos h]; rfl
theorem tq_62 {n : Nat} (h : ip 62 < n) : tgX n 62 = 0 := by unfold tgX; rw [if_pos h]; rfl
theorem lq_62 {n : Nat} {I : AI} (h : ip 62 < n) : lnX n I 62 = 5 := by unfold lnX; rw [if_pos h]; rfl
theorem tq_63 {n : Nat} (h : ip 63 < n) : tgX n 63 = 0 := by unfold tgX; rw [if_pos h]; rfl
theorem lq_63 {n : Nat} {I : AI} (h : ip 63 < n) : lnX n I 63 = 24 := by unfold lnX; rw [if_pos h]; rfl
theorem tq_64 {n : Nat} (h : ip 64 < n) : tgX n 64 = 0 := by unfold tgX; rw [if_pos h]; rfl
theorem lq_64 {n : Nat} {I : AI} (h : ip 64 < n) : lnX n I 64 = 16 := by unfold lnX; rw [if_pos h]; rfl
theorem oq_65 {n : Nat} (h : ip 65 < n) : obX n 65 = 3 := by unfold obX; rw [if_pos h]; rfl
theorem tq_66 {n : Nat} (h : ip 66 < n) : tgX n 66 = 0 := by unfold tgX; rw [if_pos h]; rfl
theorem lq_66 {n : Nat} {I : AI} (h : ip 66 < n) : lnX n I 66 = 408 := by unfold lnX; rw [if_pos h]; rfl
theorem tq_67 {n : Nat} (h : ip 67 < n) : tgX n 67 = 0 := by unfold tgX; rw [if_pos h]; rfl
theorem lq_67 {n : Nat} {I : AI} (h : ip 67 < n) : lnX n I 67 = 9 := by unfold lnX; rw [if_pos h]; rfl
theorem tq_68 {n : Nat} (h : ip 68 < n) : tgX n 68 = 0 := by unfold tgX; rw [if_pos h]; rfl
theorem lq_68 {n : Nat} {I : AI} (h : ip 68 < n) : lnX n I 68 = 16 := by unfold lnX; rw [if_pos h]; rfl
theorem tq_69 {n : Nat} (h : ip 69 < n) : tgX n 69 = 0 := by unfold tgX; rw [if_pos h]; rfl
theorem lq_69 {n : Nat} {I : AI} (h : ip 69 < n) : lnX n I 69 = 4 := by unfold lnX; rw [if_pos h]; rfl
theorem oq_70 {n : Nat} (h : ip 70 < n) : obX n 70 = 9 := by unfold obX; rw [if_pos h]; rfl
theorem tq_71 {n : Nat} (h : ip 71 < n) : tgX n 71 = 2 := by unfold tgX; rw [if_pos h]; rfl
theorem lq_71 {n : Nat} {I : AI} (h : ip 71 < n) : lnX n I 71 = 2000 := by unfold lnX; rw [if_pos h]; rfl
theorem tq_72 {n : Nat} (h : ip 72 < n) : tgX n 72 = 2 := by unfold tgX; rw [if_pos h]; rfl
theorem lq_72 {n : Nat} {I : AI} (h : ip 72 < n) : lnX n I 72 = 2000 := by unfold lnX; rw [if_pos h]; rfl
theorem tq_73 {n : Nat} (h : ip 73 < n) : tgX n 73 = 0 := by unfold tgX; rw [if_pos h]; rfl
theorem lq_73 {n : Nat} {I : AI} (h : ip 73 < n) : lnX n I 73 = 403 := by unfold lnX; rw [if_pos h]; rfl
theorem tq_74 {n : Nat} (h : ip 74 < n) : tgX n 74 = 0 := by unfold tgX; rw [if_pos h]; rfl
theorem lq_74 {n : Nat} {I : AI} (h : ip 74 < n) : lnX n I 74 = 403 := by unfold lnX; rw [if_pos h]; rfl
theorem tq_75 {n : Nat} (h : ip 75 < n) : tgX n 75 = 0 := by unfold tgX; rw [if_pos h]; rfl
theorem lq_75 {n : Nat} {I : AI} (h : ip 75 < n) : lnX n I 75 = 403 := by unfold lnX; rw [if_pos h]; rfl
theorem tq_76 {n : Nat} (h : ip 76 < n) : tgX n 76 = 1 := by unfold tgX; rw [if_pos h]; rfl
theorem lq_76 {n : Nat} {I : AI} (h : ip 76 < n) : lnX n I 76 = 403 := by unfold lnX; rw [if_pos h]; rfl
theorem tq_77 {n : Nat} (h : ip 77 < n) : tgX n 77 = 1 := by unfold tgX; rw [if_pos h]; rfl
theorem lq_77 {n : Nat} {I : AI} (h : ip 77 < n) : lnX n I 77 = 23 := by unfold lnX; rw [if_pos h]; rfl
theorem tq_78 {n : Nat} (h : ip 78 < n) : tgX n 78 = 1 := by unfold tgX; rw [if_pos h]; rfl
theorem lq_78 {n : Nat} {I : AI} (h : ip 78 < n) : lnX n I 78 = 35 := by unfold lnX; rw [if_pos h]; rfl
theorem tq_79 {n : Nat} (h : ip 79 < n) : tgX n 79 = 0 := by unfold tgX; rw [if_pos h]; rfl
theorem lq_79 {n : Nat} {I : AI} (h : ip 79 < n) : lnX n I 79 = 35 := by unfold lnX; rw [if_pos h]; rfl
theorem tq_80 {n : Nat} (h : ip 80 < n) : tgX n 80 = 0 := by unfold tgX; rw [if_pos h]; rfl
theorem lq_80 {n : Nat} {I : AI} (h : ip 80 < n) : lnX n I 80 = 35 := by unfold lnX; rw [if_pos h]; rfl
theorem tq_81 {n : Nat} (h : ip 81 < n) : tgX n 81 = 0 := by unfold tgX; rw [if_pos h]; rfl
theorem lq_81 {n : Nat} {I : AI} (h : ip 81 < n) : lnX n I 81 = 2 := by unfold lnX; rw [if_pos h]; rfl
theorem tq_82 {n : Nat} (h : ip 82 < n) : tgX n 82 = 0 := by unfold tgX; rw [if_pos h]; rfl
theorem lq_82 {n : Nat} {I : AI} (h : ip 82 < n) : lnX n I 82 = 28 := by unfold lnX; rw [if_pos h]; rfl
theorem tq_83 {n : Nat} (h : ip 83 < n) : tgX n 83 = 0 := by unfold tgX; rw [if_pos h]; rfl
theorem lq_83 {n : Nat} {I : AI} (h : ip 83 < n) : lnX n I 83 = 28 := by unfold lnX; rw [if_pos h]; rfl
theorem tq_84 {n : Nat} (h : ip 84 < n) : tgX n 84 = 0 := by unfold tgX; rw [if_pos h]; rfl
theorem lq_84 {n : Nat} {I : AI} (h : ip 84 < n) : lnX n I 84 = 28 := by unfold lnX; rw [if_pos h]; rfl
theorem tq_85 {n : Nat} (h : ip 85 < n) : tgX n 85 = 0 := by unfold tgX; rw [if_pos h]; rfl
theorem lq_85 {n : Nat} {I : AI} (h : ip 85 < n) : lnX n I 85 = 28 := by unfold lnX; rw [if_pos h]; rfl
theorem tq_86 {n : Nat} (h : ip 86 < n) : tgX n 86 = 0 := by unfold tgX; rw [if_pos h]; rfl
theorem lq_86 {n : Nat} {I : AI} (h : ip 86 < n) : lnX n I 86 = 84 := by unfold lnX; rw [if_pos h]; rfl
theorem tq_87 {n : Nat} (h : ip 87 < n) : tgX n 87 = 0 := by unfold tgX; rw [if_pos h]; rfl
theorem lq_87 {n : Nat} {I : AI} (h : ip 87 < n) : lnX n I 87 = 84 := by unfold lnX; rw [if_pos h]; rfl
theorem tq_88 {n : Nat} (h : ip 88 < n) : tgX n 88 = 0 := by unfold tgX; rw [if_pos h]; rfl
theorem lq_88 {n : Nat} {I : AI} (h : ip 88 < n) : lnX n I 88 = 2 := by unfold lnX; rw [if_pos h]; rfl
theorem tq_89 {n : Nat} (h : ip 89 < n) : tgX n 89 = 0 := by unfold tgX; rw [if_pos h]; rfl
theorem lq_89 {n : Nat} {I : AI} (h : ip 89 < n) : lnX n I 89 = 12 := by unfold lnX; rw [if_pos h]; rfl
theorem tq_90 {n : Nat} (h : ip 90 < n) : tgX n 90 = 0 := by unfold tgX; rw [if_pos h]; rfl
theorem lq_90 {n : Nat} {I : AI} (h : ip 90 < n) : lnX n I 90 = 12 := by unfold lnX; rw [if_pos h]; rfl
theorem tq_91 {n : Nat} (h : ip 91 < n) : tgX n 91 = 0 := by unfold tgX; rw [if_pos h]; rfl
theorem lq_91 {n : Nat} {I : AI} (h : ip 91 < n) : lnX n I 91 = 2 := by unfold lnX; rw [if_pos h]; rfl
theorem tq_92 {n : Nat} (h : ip 92 < n) : tgX n 92 = 0 := by unfold tgX; rw [if_pos h]; rfl
theorem lq_92 {n : Nat} {I : AI} (h : ip 92 < n) : lnX n I 92 = 12 := by unfold lnX; rw [if_pos h]; rfl
theorem tq_93 {n : Nat} (h : ip 93 < n) : tgX n 93 = 0 := by unfold tgX; rw [if_pos h]; rfl
theorem lq_93 {n : Nat} {I : AI} (h : ip 93 < n) : lnX n I 93 = 12 := by unfold lnX; rw [if_pos h]; rfl
theorem tq_94 {n : Nat} (h : ip 94 < n) : tgX n 94 = 0 := by unfold tgX; rw [if_pos h]; rfl
theorem lq_94 {n : Nat} {I : AI} (h : ip 94 < n) : lnX n I 94 = 2 := by unfold lnX; rw [if_pos h]; rfl
theorem tq_95 {n : Nat} (h : ip 95 < n) : tgX n 95 = 0 := by unfold tgX; rw [if_pos h]; rfl
theorem lq_95 {n : Nat} {I : AI} (h : ip 95 < n) : lnX n I 95 = 10 := by unfold lnX; rw [if_pos h]; rfl
theorem tq_96 {n : Nat} (h : ip 96 < n) : tgX n 96 = 0 := by unfold tgX; rw [if_pos h]; rfl
theorem lq_96 {n : Nat} {I : AI} (h : ip 96 < n) : lnX n I 96 = 2 := by unfold lnX; rw [if_pos h]; rfl
theorem tq_97 {n : Nat} (h : ip 97 < n) : tgX n 97 = 0 := by unfold tgX; rw [if_pos h]; rfl
theorem lq_97 {n : Nat} {I : AI} (h : ip 97 < n) : lnX n I 97 = 48 := by unfold lnX; rw [if_pos h]; rfl
theorem tq_98 {n : Nat} (h : ip 98 < n) : tgX n 98 = 0 := by unfold tgX; rw [if_pos h]; rfl
theorem lq_98 {n : Nat} {I : AI} (h : ip 98 < n) : lnX n I 98 = 2 := by unfold lnX; rw [if_pos h]; rfl
theorem tq_99 {n : Nat} (h : ip 99 < n) : tgX n 99 = 0 := by unfold tgX; rw [if_pos h]; rfl
theorem lq_99 {n : Nat} {I : AI} (h : ip 99 < n) : lnX n I 99 = 8 := by unfold lnX; rw [if_pos h]; rfl
theorem tq_100 {n : Nat} (h : ip 100 < n) : tgX n 100 = 0 := by unfold tgX; rw [if_pos h]; rfl
theorem lq_100 {n : Nat} {I : AI} (h : ip 100 < n) : lnX n I 100 = 8 := by unfold lnX; rw [if_pos h]; rfl
theorem tq_101 {n : Nat} (h : ip 101 < n) : tgX n 101 = 3 := by unfold tgX; rw [if_pos h]; rfl
theorem lq_101 {n : Nat} {I : AI} (h : ip 101 < n) : lnX n I 101 = 260 := by unfold lnX; rw [if_pos h]; rfl
theorem tq_102 {n : Nat} (h : ip 102 < n) : tgX n 102 = 0 := by unfold tgX; rw [if_pos h]; rfl
theorem lq_102 {n : Nat} {I : AI} (h : ip 102 < n) : lnX n I 102 = 260 := by unfold lnX; rw [if_pos h]; rfl
theorem tq_103 {n : Nat} (h : ip 103 < n) : tgX n 103 = 0 := by unfold tgX; rw [if_pos h]; rfl
theorem lq_103 {n : Nat} {I : AI} (h : ip 103 < n) : lnX n I 103 = 260 := by unfold lnX; rw [if_pos h]; rfl
theorem tq_104 {n : Nat} (h : ip 104 < n) : tgX n 104 = 0 := by unfold tgX; rw [if_pos h]; rfl
theorem lq_104 {n : Nat} {I : AI} (h : ip 104 < n) : lnX n I 104 = 260 := by unfold lnX; rw [if_pos h]; rfl
theorem tq_105 {n : Nat} (h : ip 105 < n) : tgX n 105 = 0 := by unfold tgX; rw [if_pos h]; rfl
theorem lq_105 {n : Nat} {I : AI} (h : ip 105 < n) : lnX n I 105 = 260 := by unfold lnX; rw [if_pos h]; rfl
theorem tq_106 {n : Nat} (h : ip 106 < n) : tgX n 106 = 0 := by unfold tgX; rw [if_pos h]; rfl
theorem lq_106 {n : Nat} {I : AI} (h : ip 106 < n) : lnX n I 106 = 840 := by unfold lnX; rw [if_pos h]; rfl
theorem tq_107 {n : Nat} (h : ip 107 < n) : tgX n 107 = 0 := by unfold tgX; rw [if_pos h]; rfl
theorem lq_107 {n : Nat} {I : AI} (h : ip 107 < n) : lnX n I 107 = 840 := by unfold lnX; rw [if_pos h]; rfl
theorem tq_108 {n : Nat} (h : ip 108 < n) : tgX n 108 = 0 := by unfold tgX; rw [if_pos h]; rfl
theorem lq_108 {n : Nat} {I : AI} (h : ip 108 < n) : lnX n I 108 = 64 := by unfold lnX; rw [if_pos h]; rfl
theorem tq_109 {n : Nat} (h : ip 109 < n) : tgX n 109 = 0 := by unfold tgX; rw [if_pos h]; rfl
theorem lq_109 {n : Nat} {I : AI} (h : ip 109 < n) : lnX n I 109 = 9 := by unfold lnX; rw [if_pos h]; rfl
theorem tq_110 {n : Nat} (h : ip 110 < n) : tgX n 110 = 0 := by unfold tgX; rw [if_pos h]; rfl
theorem lq_110 {n : Nat} {I : AI} (h : ip 110 < n) : lnX n I 110 = 400 := by unfold lnX; rw [if_pos h]; rfl
theorem tq_111 {n : Nat} (h : ip 111 < n) : tgX n 111 = 0 := by unfold tgX; rw [if_pos h]; rfl
theorem lq_111 {n : Nat} {I : AI} (h : ip 111 < n) : lnX n I 111 = 48 := by unfold lnX; rw [if_pos h]; rfl
theorem tq_112 {n : Nat} (h : ip 112 < n) : tgX n 112 = 0 := by unfold tgX; rw [if_pos h]; rfl
theorem lq_112 {n : Nat} {I : AI} (h : ip 112 < n) : lnX n I 112 = 48 := by unfold lnX; rw [if_pos h]; rfl
theorem tq_113 {n : Nat} (h : ip 113 < n) : tgX n 113 = 0 := by unfold tgX; rw [if_pos h]; rfl
theorem lq_113 {n : Nat} {I : AI} (h : ip 113 < n) : lnX n I 113 = 14 := by unfold lnX; rw [if_pos h]; rfl
theorem tq_114 {n : Nat} (h : ip 114 < n) : tgX n 114 = 0 := by unfold tgX; rw [if_pos h]; rfl
theorem lq_114 {n : Nat} {I : AI} (h : ip 114 < n) : lnX n I 114 = 14 := by unfold lnX; rw [if_pos h]; rfl
theorem tq_115 {n : Nat} (h : ip 115 < n) : tgX n 115 = 0 := by unfold tgX; rw [if_pos h]; rfl
theorem lq_115 {n : Nat} {I : AI} (h : ip 115 < n) : lnX n I 115 = 1920 := by unfold lnX; rw [if_pos h]; rfl
theorem tq_116 {n : Nat} (h : ip 116 < n) : tgX n 116 = 3 := by unfold tgX; rw [if_pos h]; rfl
theorem lq_116 {n : Nat} {I : AI} (h : ip 116 < n) : lnX n I 116 = 14 := by unfold lnX; rw [if_pos h]; rfl
theorem tq_117 {n : Nat} (h : ip 117 < n) : tgX n 117 = 0 := by unfold tgX; rw [if_pos h]; rfl
theorem lq_117 {n : Nat} {I : AI} (h : ip 117 < n) : lnX n I 117 = 84 := by unfold lnX; rw [if_pos h]; rfl
theorem tq_118 {n : Nat} (h : ip 118 < n) : tgX n 118 = 0 := by unfold tgX; rw [if_pos h]; rfl
theorem lq_118 {n : Nat} {I : AI} (h : ip 118 < n) : lnX n I 118 = 5 := by unfold lnX; rw [if_pos h]; rfl
theorem tq_119 {n : Nat} (h : ip 119 < n) : tgX n 119 = 0 := by unfold tgX; rw [if_pos h]; rfl
theorem lq_119 {n : Nat} {I : AI} (h : ip 119 < n) : lnX n I 119 = 5 := by unfold lnX; rw [if_pos h]; rfl
theorem tq_120 {n : Nat} (h : ip 120 < n) : tgX n 120 = 0 := by unfold tgX; rw [if_pos h]; rfl
theorem lq_120 {n : Nat} {I : AI} (h : ip 120 < n) : lnX n I 120 = 5 := by unfold lnX; rw [if_pos h]; rfl
theorem tq_121 {n : Nat} (h : ip 121 < n) : tgX n 121 = 3 := by unfold tgX; rw [if_pos h]; rfl
theorem lq_121 {n : Nat} {I : AI} (h : ip 121 < n) : lnX n I 121 = 3 := by unfold lnX; rw [if_pos h]; rfl
theorem tq_122 {n : Nat} (h : ip 122 < n) : tgX n 122 = 0 := by unfold tgX; rw [if_pos h]; rfl
theorem lq_122 {n : Nat} {I : AI} (h : ip 122 < n) : lnX n I 122 = 144 := by unfold lnX; rw [if_pos h]; rfl
theorem uz {α : Type} {I : Nat → α} {n : Nat} {f : α} (h : I n = f) : upr I n f = I := by
  subst h
  exact upr_id I n
theorem uq {α : Type} (I : Nat → Nat → α) {a n : Nat} (h : n ≠ a) (k : Nat) (v : α) (f : Nat → α) : upr (up2 I a k v) n f = up2 (upr I n f) a k v := by
  unfold up2
  rw [upr_n (Ne.symm h), upr_c _ h]
def RC (R : AR) : List (Nat × Nat × Nat) → AR
  | [] => R
  | (a, k, b) :: l => RC (up2 R a k (some b)) l
theorem RC_ap (R : AR) (l m : List (Nat × Nat × Nat)) : RC R (l ++ m) = RC (RC R l) m := by
  induction l generalizing R with
  | nil => rfl
  | cons x l ih => obtain ⟨a, k, b⟩ := x; exact ih _
theorem k_text_32 {I : AI} {L : AL} {R : AR} {Q : PQ} (hI : ∀ c, 32 < c → c < 51 → I c = fun _ => 0) (hL : ∀ c, 32 < c → c < 51 → L c = fun _ => 0) (hR46 : R 46 = fun _ => none) : V 54 0 [.ref 32] [] 33 I L R Q = Q none 51 I L (RC R [(32, 0, 33), (32, 1, 34), (32, 2, 35), (32, 3, 36), (32, 4, 37), (32, 5, 38), (32, 6, 39), (32, 7, 40), (32, 8, 41), (32, 9, 42), (32, 10, 43), (32, 11, 44), (32, 12, 45), (46, 0, 47), (46, 1, 48), (46, 2, 49), (46, 3, 50), (32, 13, 46)]) := by
  simp (config := { decide := true, maxDischargeDepth := 20 }) only [↓reduceIte, ip_123, KV_i, KV_v, wsm_0, wsm_i, wsm_l, wsm_r, dlV_i, dlV_r, dlV_l, dlV_j, cat_i, cat_l, cat_r, rf_s, true_and, and_true, and_self, if_true, if_false, ite_true, ite_false, eq_self, true_or, or_true, false_or, or_false, not_true_eq_false, not_false_eq_true, ip_ge, pm_ge, ipk_0, pmk_0, ipk_1, pmk_1, ipk_2, pmk_2, ipk_3, pmk_3, ipk_4, pmk_4, ipk_5, pmk_5, ipk_6, pmk_6, ipk_7, pmk_7, at_0, at_1, at_2, at_3, Int32.reduceToNatClampNeg, Int32.reduceLT, Int32.reduceLE, Int32.reduceAdd, Nat.reduceAdd, Nat.reduceLT, uz, uq, up2_n, up2_s, upr_n, upr_s, ne_eq, not_false_eq_true, sh_32, sh_33, sh_34, sh_35, sh_36, sh_37, sh_38, sh_39, sh_40, sh_41, sh_42, sh_43, sh_44, sh_45, sh_46, sh_47, sh_48, sh_49, sh_50, oq_32, oq_46, r54_0, r54_1, r54_4, r54_5, r54_7, r54_9, r54_12, r54_13, r54_15, r54_17, r54_20, r54_21, r54_23, r54_25, r54_28, r54_29, r54_31, r54_33, r54_36, r54_37, r54_39, r54_41, r54_44, r54_45, r54_47, r54_49, r54_52, r54_53, r54_55, r54_57, r54_60, r54_61, r54_63, r54_65, r54_68, r54_69, r54_71, r54_73, r54_76, r54_77, r54_79, r54_81, r54_84, r54_85, r54_86, r54_88, r54_91, r54_92, r54_94, r54_96, r54_99, r54_100, r54_102, r54_104, r54_107, r54_108, r54_111, r54_112, r54_115, r54_118, hI, hL, hR46, r17_0, r17_1, r17_4, r17_5, r17_8, r17_10, r17_13, r17_14, r17_16, r17_18, r17_21, r17_22, r17_24, r17_26, r17_29, r17_30, r17_31, r17_33, r17_36]
  rfl
theorem k_text_51 {I : AI} {L : AL} {R : AR} {Q : PQ} (hI : ∀ c, 51 < c → c < 70 → I c = fun _ => 0) (hL : ∀ c, 51 < c → c < 70 → L c = fun _ => 0) (hR65 : R 65 = fun _ => none) : V 54 0 [.ref 51] [] 52 I L R Q = Q none 70 I L (RC R [(51, 0, 52), (51, 1, 53), (51, 2, 54), (51, 3, 55), (51, 4, 56), (51, 5, 57), (51, 6, 58), (51, 7, 59), (51, 8, 60), (51, 9, 61), (51, 10, 62), (51, 11, 63), (51, 12, 64), (65, 0, 66), (65, 1, 67), (65, 2, 68), (65, 3, 69), (51, 13, 65)]) := by
  simp (config := { decide := true, maxDischargeDepth := 20 }) only [↓reduceIte, ip_123, KV_i, KV_v, wsm_0, wsm_i, wsm_l, wsm_r, dlV_i, dlV_r, dlV_l, dlV_j, cat_i, cat_l, cat_r, rf_s, true_and, and_true, and_self, if_true, if_false, ite_true, ite_false, eq_self, true_or, or_true, false_or, or_false, not_true_eq_false, not_false_eq_true, ip_ge, pm_ge, ipk_0, pmk_0, ipk_1, pmk_1, ipk_2, pmk_2, ipk_3, pmk_3, ipk_4, pmk_4, ipk_5, pmk_5, ipk_6, pmk_6, ipk_7, pmk_7, at_0, at_1, at_2, at_3, Int32.reduceToNatClampNeg, Int32.reduceLT, Int32.reduceLE, Int32.reduceAdd, Nat.reduceAdd, Nat.reduceLT, uz, uq, up2_n, up2_s, upr_n, upr_s, ne_eq, not_false_eq_true, sh_51, sh_52, sh_53, sh_54, sh_55, sh_56, sh_57, sh_58, sh_59, sh_60, sh_61, sh_62, sh_63, sh_64, sh_65, sh_66, sh_67, sh_68, sh_69, oq_51, oq_65, r54_0, r54_1, r54_4, r54_5, r54_7, r54_9, r54_12, r54_13, r54_15, r54_17, r54_20, r54_21, r54_23, r54_25, r54_28, r54_29, r54_31, r54_33, r54_36, r54_37, r54_39, r54_41, r54_44, r54_45, r54_47, r54_49, r54_52, r54_53, r54_55, r54_57, r54_60, r54_61, r54_63, r54_65, r54_68, r54_69, r54_71, r54_73, r54_76, r54_77, r54_79, r54_81, r54_84, r54_85, r54_86, r54_88, r54_91, r54_92, r54_94, r54_96, r54_99, r54_100, r54_102, r54_104, r54_107, r54_108, r54_111, r54_112, r54_115, r54_118, hI, hL, hR65, r17_0, r17_1, r17_4, r17_5, r17_8, r17_10, r17_13, r17_14, r17_16, r17_18, r17_21, r17_22, r17_24, r17_26, r17_29, r17_30, r17_31, r17_33, r17_36]
  rfl
theorem k_going {I : AI} {L : AL} {R : AR} {Q : PQ} (hI : ∀ c, 12 < c → c < 17 → I c = fun _ => 0) (hL : ∀ c, 12 < c → c < 17 → L c = fun _ => 0)  : V 10 0 [.ref 12] [] 13 I L R Q = Q none 17 I L (RC R [(12, 0, 13), (12, 1, 14), (12, 2, 15), (12, 3, 16)]) := by
  simp (config := { decide := true, maxDischargeDepth := 20 }) only [↓reduceIte, ip_123, KV_i, KV_v, wsm_0, wsm_i, wsm_l, wsm_r, dlV_i, dlV_r, dlV_l, dlV_j, cat_i, cat_l, cat_r, rf_s, true_and, and_true, and_self, if_true, if_false, ite_true, ite_false, eq_self, true_or, or_true, false_or, or_false, not_true_eq_false, not_false_eq_true, ip_ge, pm_ge, ipk_0, pmk_0, ipk_1, pmk_1, ipk_2, pmk_2, ipk_3, pmk_3, ipk_4, pmk_4, ipk_5, pmk_5, ipk_6, pmk_6, ipk_7, pmk_7, at_0, at_1, at_2, at_3, Int32.reduceToNatClampNeg, Int32.reduceLT, Int32.reduceLE, Int32.reduceAdd, Nat.reduceAdd, Nat.reduceLT, uz, uq, up2_n, up2_s, upr_n, upr_s, ne_eq, not_false_eq_true, sh_12, sh_13, sh_14, sh_15, sh_16, oq_12, r10_0, r10_1, r10_4, r10_5, r10_7, r10_9, r10_12, r10_13, r10_14, r10_16, r10_19, r10_20, r10_23, r10_25, r10_28, r10_29, r10_32, r10_34, r10_37, hI, hL]
  rfl
theorem k_wants {I : AI} {L : AL} {R : AR} {Q : PQ} (hI : ∀ c, 17 < c → c < 20 → I c = fun _ => 0) (hL : ∀ c, 17 < c → c < 20 → L c = fun _ => 0)  : V 70 0 [.ref 17] [] 18 I L R Q = Q none 20 I L (RC R [(17, 0, 18), (17, 1, 19)]) := by
  simp (config := { decide := true, maxDischargeDepth := 20 }) only [↓reduceIte, ip_123, KV_i, KV_v, wsm_0, wsm_i, wsm_l, wsm_r, dlV_i, dlV_r, dlV_l, dlV_j, cat_i, cat_l, cat_r, rf_s, true_and, and_true, and_self, if_true, if_false, ite_true, ite_false, eq_self, true_or, or_true, false_or, or_false, not_true_eq_false, not_false_eq_true, ip_ge, pm_ge, ipk_0, pmk_0, ipk_1, pmk_1, ipk_2, pmk_2, ipk_3, pmk_3, ipk_4, pmk_4, ipk_5, pmk_5, ipk_6, pmk_6, ipk_7, pmk_7, at_0, at_1, at_2, at_3, Int32.reduceToNatClampNeg, Int32.reduceLT, Int32.reduceLE, Int32.reduceAdd, Nat.reduceAdd, Nat.reduceLT, uz, uq, up2_n, up2_s, upr_n, upr_s, ne_eq, not_false_eq_true, sh_17, sh_18, sh_19, oq_17, r70_0, r70_1, r70_4, r70_5, r70_7, r70_9, r70_12, r70_13, r70_15, r70_17, r70_20, hI, hL]
  rfl
theorem k_chances {I : AI} {L : AL} {R : AR} {Q : PQ} (hI : ∀ c, 20 < c → c < 23 → I c = fun _ => 0) (hL : ∀ c, 20 < c → c < 23 → L c = fun _ => 0)  : V 0 0 [.ref 20] [] 21 I L R Q = Q none 23 I L (RC R [(20, 0, 21), (20, 1, 22)]) := by
  simp (config := { decide := true, maxDischargeDepth := 20 }) only [↓reduceIte, ip_123, KV_i, KV_v, wsm_0, wsm_i, wsm_l, wsm_r, dlV_i, dlV_r, dlV_l, dlV_j, cat_i, cat_l, cat_r, rf_s, true_and, and_true, and_self, if_true, if_false, ite_true, ite_false, eq_self, true_or, or_true, false_or, or_false, not_true_eq_false, not_false_eq_true, ip_ge, pm_ge, ipk_0, pmk_0, ipk_1, pmk_1, ipk_2, pmk_2, ipk_3, pmk_3, ipk_4, pmk_4, ipk_5, pmk_5, ipk_6, pmk_6, ipk_7, pmk_7, at_0, at_1, at_2, at_3, Int32.reduceToNatClampNeg, Int32.reduceLT, Int32.reduceLE, Int32.reduceAdd, Nat.reduceAdd, Nat.reduceLT, uz, uq, up2_n, up2_s, upr_n, upr_s, ne_eq, not_false_eq_true, sh_20, sh_21, sh_22, oq_20, r0_0, r0_1, r0_4, r0_5, r0_7, r0_9, r0_12, r0_13, r0_15, r0_17, r0_20, hI, hL]
  rfl
theorem k_choice {I : AI} {L : AL} {R : AR} {Q : PQ} (hI : ∀ c, 23 < c → c < 27 → I c = fun _ => 0) (hL : ∀ c, 23 < c → c < 27 → L c = fun _ => 0)  : V 5 0 [.ref 23] [] 24 I L R Q = Q none 27 I L (RC R [(23, 0, 24), (23, 1, 25), (23, 2, 26)]) := by
  simp (config := { decide := true, maxDischargeDepth := 20 }) only [↓reduceIte, ip_123, KV_i, KV_v, wsm_0, wsm_i, wsm_l, wsm_r, dlV_i, dlV_r, dlV_l, dlV_j, cat_i, cat_l, cat_r, rf_s, true_and, and_true, and_self, if_true, if_false, ite_true, ite_false, eq_self, true_or, or_true, false_or, or_false, not_true_eq_false, not_false_eq_true, ip_ge, pm_ge, ipk_0, pmk_0, ipk_1, pmk_1, ipk_2, pmk_2, ipk_3, pmk_3, ipk_4, pmk_4, ipk_5, pmk_5, ipk_6, pmk_6, ipk_7, pmk_7, at_0, at_1, at_2, at_3, Int32.reduceToNatClampNeg, Int32.reduceLT, Int32.reduceLE, Int32.reduceAdd, Nat.reduceAdd, Nat.reduceLT, uz, uq, up2_n, up2_s, upr_n, upr_s, ne_eq, not_false_eq_true, sh_23, sh_24, sh_25, sh_26, oq_23, r5_0, r5_1, r5_4, r5_5, r5_7, r5_9, r5_12, r5_13, r5_15, r5_17, r5_20, r5_21, r5_23, r5_25, r5_28, hI, hL]
  rfl
def wbN (i : Nat) : Nat := (wrdB.getD i 0).toNatClampNeg
def wsE : Nat → Nat
  | 0 => 0
  | i + 1 => wsE i + (if wbN i = 32 then 1 else 0)
def wdE : Nat → Nat → Nat
  | 0, _ => 0
  | i + 1, j => if wbN i ≠ 32 ∧ j = wsE i then 32 * wdE i j + (wbN i - 96) else wdE i j
set_option maxRecDepth 100000 in
theorem wb_f : ∀ i, i < 120 → wrdB.getD i 0 = nI (wbN i) ∧ (wbN i = 32 ∨ (97 ≤ wbN i ∧ wbN i ≤ 122)) ∧ wsE i < 23 := by decide +kernel
set_option maxRecDepth 100000 in
theorem wd_f : ∀ j, j < 23 → lN (wdE 120 j) = wcX j := by decide +kernel
theorem tg_x2 {n : Nat} (hn : n ≤ 123) : tgX n 1002 = 2 := by unfold tgX; rw [ip_ge (a := 1002) (by decide), if_neg (by omega), if_neg (by decide), if_pos rfl]
theorem ln_x2 {n : Nat} (hn : n ≤ 123) (I : AI) : lnX n I 1002 = 120 := by unfold lnX; rw [ip_ge (a := 1002) (by decide), if_neg (by omega), if_neg (by decide), if_pos rfl]
theorem ob_x4 {n : Nat} (hn : n ≤ 123) : obX n 1004 = 13 := by unfold obX; rw [ip_ge (a := 1004) (by decide), if_neg (by omega), if_pos rfl]
theorem n255 {b : Nat} (hb : b < 256) : nI b &&& 255 = nI b := by
  have : ∀ c, c < 256 → nI c &&& 255 = nI c := by decide +kernel
  exact this b hb
theorem k_len {I : AI} {L : AL} {R : AR} {Q : PQ} : V 257 0 [.ref 1004] [] 8 I L R Q = Q (some (.int 120)) 8 I L R := by
  have t2 := tg_x2 (n := 8) (by decide)
  have l2 := ln_x2 (n := 8) (by decide) I
  have o4 := ob_x4 (n := 8) (by decide)
  have nb : narrow .byte (.int (0 : Int32)) = .int 0 := rfl
  have on : (Int32.ofNat 120 : Int32) >>> ((0 : Int32) &&& 31) = 120 := by decide
  simp (config := { decide := true, maxDischargeDepth := 20 }) only [↓reduceIte, ip_123, KV_i, KV_v, wsm_0, wsm_i, wsm_l, wsm_r, dlV_i, dlV_r, dlV_l, dlV_j, cat_i, cat_l, cat_r, rf_s, true_and, and_true, and_self, if_true, if_false, ite_true, ite_false, eq_self, true_or, or_true, false_or, or_false, not_true_eq_false, not_false_eq_true, r257_0, r257_1, r257_4, r257_5, r257_6, r257_9, r257_10, r261_0, r261_3, r261_6, r261_7, r261_10, r261_13, r261_14, t2, l2, o4, nb, on, Nat.reduceSub]
theorem k_char {I : AI} {L : AL} {R : AR} {Q : PQ} {i : Nat} (hi : i < 120) : V 258 0 [.ref 1004, .int (nI i)] [] 8 I L R Q = Q (some (.int (nI (wbN i)))) 8 I L R := by
  have t2 := tg_x2 (n := 8) (by decide)
  have l2 := ln_x2 (n := 8) (by decide) I
  have o4 := ob_x4 (n := 8) (by decide)
  have w := wb_f i hi
  have x1 := inT (a := i) (N := 120) (by omega) (by decide)
  have x2 := nI_clamp (n := i) (by omega)
  have c1 : (nI i < (0 : Int32)) = False := ltF (a := i) (b := 0) (by omega) (by omega)
  have c2 : (nI i < (Int32.ofNat 120 : Int32)) = True := ltT (a := i) (b := 120) (by omega) (by decide)
  have rd : rdB I 1002 i = nI (wbN i) := by unfold rdB; rw [if_pos rfl]; exact w.1
  have e1 : nI (wbN i) &&& 255 = nI (wbN i) := n255 (by omega)
  have e2 := sx_ch (b := wbN i) (by omega)
  have z1 : ((1 : Int32) = 0 ∨ (1 : Int32) = 1) = True := eq_true (Or.inr rfl)
  have nc : ∀ v : Int32, (v.toUInt32 % 65536).toInt32 = v → narrow .char (.int v) = .int v := fun v h => by simp [narrow, h]
  have nc2 := nc _ e2
  simp (config := { decide := true, maxDischargeDepth := 20 }) only [↓reduceIte, ip_123, KV_i, KV_v, wsm_0, wsm_i, wsm_l, wsm_r, dlV_i, dlV_r, dlV_l, dlV_j, cat_i, cat_l, cat_r, rf_s, true_and, and_true, and_self, if_true, if_false, ite_true, ite_false, eq_self, true_or, or_true, false_or, or_false, not_true_eq_false, not_false_eq_true, r258_0, r258_1, r258_4, r258_7, r258_8, r258_11, r258_12, r258_15, r258_16, r258_17, r258_20, r258_24, r262_0, r262_3, r262_6, r262_7, r262_10, r262_13, r262_14, r262_17, r262_18, r264_0, r264_1, r264_2, r264_3, r264_6, r264_7, r264_8, r264_9, r264_12, r264_13, r264_14, r263_0, r263_1, r263_2, r263_5, r263_8, r263_9, r270_0, r270_1, r270_4, r270_5, r270_6, r270_9, r270_10, r270_11, r270_16, r270_17, t2, l2, o4, x1, x2, c1, c2, rd, e1, e2, nc2, z1, Nat.reduceSub]
