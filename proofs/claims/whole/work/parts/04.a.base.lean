/-! the cells once all are made: kinds, lengths, references -/
theorem ob_0 : obX 123 0 = 8 := rfl
theorem ob_1 : obX 123 1 = 6 := rfl
theorem tg_2 : tgX 123 2 = 2 := rfl
theorem ln_2 (I : AI) : lnX 123 I 2 = 2000 := rfl
theorem tg_3 : tgX 123 3 = 0 := rfl
theorem ln_3 (I : AI) : lnX 123 I 3 = 401 := rfl
theorem tg_4 : tgX 123 4 = 0 := rfl
theorem ln_4 (I : AI) : lnX 123 I 4 = 401 := rfl
theorem tg_5 : tgX 123 5 = 1 := rfl
theorem ln_5 (I : AI) : lnX 123 I 5 = 401 := rfl
theorem tg_6 : tgX 123 6 = 1 := rfl
theorem ln_6 (I : AI) : lnX 123 I 6 = 23 := rfl
theorem ob_7 : obX 123 7 = 4 := rfl
theorem tg_8 : tgX 123 8 = 1 := rfl
theorem ln_8 (I : AI) : lnX 123 I 8 = 35 := rfl
theorem tg_9 : tgX 123 9 = 0 := rfl
theorem ln_9 (I : AI) : lnX 123 I 9 = 35 := rfl
theorem tg_10 : tgX 123 10 = 0 := rfl
theorem ln_10 (I : AI) : lnX 123 I 10 = 35 := rfl
theorem tg_11 : tgX 123 11 = 0 := rfl
theorem ln_11 (I : AI) : lnX 123 I 11 = 21 := rfl
theorem ob_12 : obX 123 12 = 2 := rfl
theorem tg_13 : tgX 123 13 = 0 := rfl
theorem ln_13 (I : AI) : lnX 123 I 13 = 45 := rfl
theorem tg_14 : tgX 123 14 = 3 := rfl
theorem ln_14 (I : AI) : lnX 123 I 14 = 3 := rfl
theorem tg_15 : tgX 123 15 = 0 := rfl
theorem ln_15 (I : AI) : lnX 123 I 15 = 1800 := rfl
theorem tg_16 : tgX 123 16 = 0 := rfl
theorem ln_16 (I : AI) : lnX 123 I 16 = 135 := rfl
theorem ob_17 : obX 123 17 = 7 := rfl
theorem tg_18 : tgX 123 18 = 0 := rfl
theorem ln_18 (I : AI) : lnX 123 I 18 = 14 := rfl
theorem tg_19 : tgX 123 19 = 0 := rfl
theorem ln_19 (I : AI) : lnX 123 I 19 = 14 := rfl
theorem ob_20 : obX 123 20 = 0 := rfl
theorem tg_21 : tgX 123 21 = 1 := rfl
theorem ln_21 (I : AI) : lnX 123 I 21 = 19 := rfl
theorem tg_22 : tgX 123 22 = 1 := rfl
theorem ln_22 (I : AI) : lnX 123 I 22 = 14 := rfl
theorem ob_23 : obX 123 23 = 1 := rfl
theorem tg_24 : tgX 123 24 = 0 := rfl
theorem ln_24 (I : AI) : lnX 123 I 24 = 36 := rfl
theorem tg_25 : tgX 123 25 = 0 := rfl
theorem ln_25 (I : AI) : lnX 123 I 25 = 6 := rfl
theorem tg_26 : tgX 123 26 = 0 := rfl
theorem ln_26 (I : AI) : lnX 123 I 26 = 64 := rfl
theorem tg_27 : tgX 123 27 = 0 := rfl
theorem ln_27 (I : AI) : lnX 123 I 27 = 14 := rfl
theorem tg_28 : tgX 123 28 = 1 := rfl
theorem ln_28 (I : AI) : lnX 123 I 28 = 10 := rfl
theorem tg_29 : tgX 123 29 = 0 := rfl
theorem ln_29 (I : AI) : lnX 123 I 29 = 5 := rfl
theorem tg_30 : tgX 123 30 = 0 := rfl
theorem ln_30 (I : AI) : lnX 123 I 30 = 5 := rfl
theorem tg_31 : tgX 123 31 = 0 := rfl
theorem ln_31 (I : AI) : lnX 123 I 31 = 5 := rfl
theorem ob_32 : obX 123 32 = 5 := rfl
theorem tg_33 : tgX 123 33 = 0 := rfl
theorem ln_33 (I : AI) : lnX 123 I 33 = 14 := rfl
theorem tg_34 : tgX 123 34 = 0 := rfl
theorem ln_34 (I : AI) : lnX 123 I 34 = 14 := rfl
theorem tg_35 : tgX 123 35 = 0 := rfl
theorem ln_35 (I : AI) : lnX 123 I 35 = 14 := rfl
theorem tg_36 : tgX 123 36 = 0 := rfl
theorem ln_36 (I : AI) : lnX 123 I 36 = 14 := rfl
theorem tg_37 : tgX 123 37 = 0 := rfl
theorem ln_37 (I : AI) : lnX 123 I 37 = 42 := rfl
theorem tg_38 : tgX 123 38 = 0 := rfl
theorem ln_38 (I : AI) : lnX 123 I 38 = 42 := rfl
theorem tg_39 : tgX 123 39 = 0 := rfl
theorem ln_39 (I : AI) : lnX 123 I 39 = 6 := rfl
theorem tg_40 : tgX 123 40 = 0 := rfl
theorem ln_40 (I : AI) : lnX 123 I 40 = 6 := rfl
theorem tg_41 : tgX 123 41 = 0 := rfl
theorem ln_41 (I : AI) : lnX 123 I 41 = 6 := rfl
theorem tg_42 : tgX 123 42 = 0 := rfl
theorem ln_42 (I : AI) : lnX 123 I 42 = 6 := rfl
theorem tg_43 : tgX 123 43 = 0 := rfl
theorem ln_43 (I : AI) : lnX 123 I 43 = 5 := rfl
theorem tg_44 : tgX 123 44 = 0 := rfl
theorem ln_44 (I : AI) : lnX 123 I 44 = 24 := rfl
theorem tg_45 : tgX 123 45 = 0 := rfl
theorem ln_45 (I : AI) : lnX 123 I 45 = 16 := rfl
theorem ob_46 : obX 123 46 = 3 := rfl
theorem tg_47 : tgX 123 47 = 0 := rfl
theorem ln_47 (I : AI) : lnX 123 I 47 = 408 := rfl
theorem tg_48 : tgX 123 48 = 0 := rfl
theorem ln_48 (I : AI) : lnX 123 I 48 = 9 := rfl
theorem tg_49 : tgX 123 49 = 0 := rfl
theorem ln_49 (I : AI) : lnX 123 I 49 = 16 := rfl
theorem tg_50 : tgX 123 50 = 0 := rfl
theorem ln_50 (I : AI) : lnX 123 I 50 = 4 := rfl
theorem ob_51 : obX 123 51 = 5 := rfl
theorem tg_52 : tgX 123 52 = 0 := rfl
theorem ln_52 (I : AI) : lnX 123 I 52 = 14 := rfl
theorem tg_53 : tgX 123 53 = 0 := rfl
theorem ln_53 (I : AI) : lnX 123 I 53 = 14 := rfl
theorem tg_54 : tgX 123 54 = 0 := rfl
theorem ln_54 (I : AI) : lnX 123 I 54 = 14 := rfl
theorem tg_55 : tgX 123 55 = 0 := rfl
theorem ln_55 (I : AI) : lnX 123 I 55 = 14 := rfl
theorem tg_56 : tgX 123 56 = 0 := rfl
theorem ln_56 (I : AI) : lnX 123 I 56 = 42 := rfl
theorem tg_57 : tgX 123 57 = 0 := rfl
theorem ln_57 (I : AI) : lnX 123 I 57 = 42 := rfl
theorem tg_58 : tgX 123 58 = 0 := rfl
theorem ln_58 (I : AI) : lnX 123 I 58 = 6 := rfl
theorem tg_59 : tgX 123 59 = 0 := rfl
theorem ln_59 (I : AI) : lnX 123 I 59 = 6 := rfl
theorem tg_60 : tgX 123 60 = 0 := rfl
theorem ln_60 (I : AI) : lnX 123 I 60 = 6 := rfl
theorem tg_61 : tgX 123 61 = 0 := rfl
theorem ln_61 (I : AI) : lnX 123 I 61 = 6 := rfl
theorem tg_62 : tgX 123 62 = 0 := rfl
theorem ln_62 (I : AI) : lnX 123 I 62 = 5 := rfl
theorem tg_63 : tgX 123 63 = 0 := rfl
theorem ln_63 (I : AI) : lnX 123 I 63 = 24 := rfl
theorem tg_64 : tgX 123 64 = 0 := rfl
theorem ln_64 (I : AI) : lnX 123 I 64 = 16 := rfl
theorem ob_65 : obX 123 65 = 3 := rfl
theorem tg_66 : tgX 123 66 = 0 := rfl
theorem ln_66 (I : AI) : lnX 123 I 66 = 408 := rfl
theorem tg_67 : tgX 123 67 = 0 := rfl
theorem ln_67 (I : AI) : lnX 123 I 67 = 9 := rfl
theorem tg_68 : tgX 123 68 = 0 := rfl
theorem ln_68 (I : AI) : lnX 123 I 68 = 16 := rfl
theorem tg_69 : tgX 123 69 = 0 := rfl
theorem ln_69 (I : AI) : lnX 123 I 69 = 4 := rfl
theorem ob_70 : obX 123 70 = 9 := rfl
theorem tg_71 : tgX 123 71 = 2 := rfl
theorem ln_71 (I : AI) : lnX 123 I 71 = 2000 := rfl
theorem tg_72 : tgX 123 72 = 2 := rfl
theorem ln_72 (I : AI) : lnX 123 I 72 = 2000 := rfl
theorem tg_73 : tgX 123 73 = 0 := rfl
theorem ln_73 (I : AI) : lnX 123 I 73 = 403 := rfl
theorem tg_74 : tgX 123 74 = 0 := rfl
theorem ln_74 (I : AI) : lnX 123 I 74 = 403 := rfl
theorem tg_75 : tgX 123 75 = 0 := rfl
theorem ln_75 (I : AI) : lnX 123 I 75 = 403 := rfl
theorem tg_76 : tgX 123 76 = 1 := rfl
theorem ln_76 (I : AI) : lnX 123 I 76 = 403 := rfl
theorem tg_77 : tgX 123 77 = 1 := rfl
theorem ln_77 (I : AI) : lnX 123 I 77 = 23 := rfl
theorem tg_78 : tgX 123 78 = 1 := rfl
theorem ln_78 (I : AI) : lnX 123 I 78 = 35 := rfl
theorem tg_79 : tgX 123 79 = 0 := rfl
theorem ln_79 (I : AI) : lnX 123 I 79 = 35 := rfl
theorem tg_80 : tgX 123 80 = 0 := rfl
theorem ln_80 (I : AI) : lnX 123 I 80 = 35 := rfl
theorem tg_81 : tgX 123 81 = 0 := rfl
theorem ln_81 (I : AI) : lnX 123 I 81 = 2 := rfl
theorem tg_82 : tgX 123 82 = 0 := rfl
theorem ln_82 (I : AI) : lnX 123 I 82 = 28 := rfl
theorem tg_83 : tgX 123 83 = 0 := rfl
theorem ln_83 (I : AI) : lnX 123 I 83 = 28 := rfl
theorem tg_84 : tgX 123 84 = 0 := rfl
theorem ln_84 (I : AI) : lnX 123 I 84 = 28 := rfl
theorem tg_85 : tgX 123 85 = 0 := rfl
theorem ln_85 (I : AI) : lnX 123 I 85 = 28 := rfl
theorem tg_86 : tgX 123 86 = 0 := rfl
theorem ln_86 (I : AI) : lnX 123 I 86 = 84 := rfl
theorem tg_87 : tgX 123 87 = 0 := rfl
theorem ln_87 (I : AI) : lnX 123 I 87 = 84 := rfl
theorem tg_88 : tgX 123 88 = 0 := rfl
theorem ln_88 (I : AI) : lnX 123 I 88 = 2 := rfl
theorem tg_89 : tgX 123 89 = 0 := rfl
theorem ln_89 (I : AI) : lnX 123 I 89 = 12 := rfl
theorem tg_90 : tgX 123 90 = 0 := rfl
theorem ln_90 (I : AI) : lnX 123 I 90 = 12 := rfl
theorem tg_91 : tgX 123 91 = 0 := rfl
theorem ln_91 (I : AI) : lnX 123 I 91 = 2 := rfl
theorem tg_92 : tgX 123 92 = 0 := rfl
theorem ln_92 (I : AI) : lnX 123 I 92 = 12 := rfl
theorem tg_93 : tgX 123 93 = 0 := rfl
theorem ln_93 (I : AI) : lnX 123 I 93 = 12 := rfl
theorem tg_94 : tgX 123 94 = 0 := rfl
theorem ln_94 (I : AI) : lnX 123 I 94 = 2 := rfl
theorem tg_95 : tgX 123 95 = 0 := rfl
theorem ln_95 (I : AI) : lnX 123 I 95 = 10 := rfl
theorem tg_96 : tgX 123 96 = 0 := rfl
theorem ln_96 (I : AI) : lnX 123 I 96 = 2 := rfl
theorem tg_97 : tgX 123 97 = 0 := rfl
theorem ln_97 (I : AI) : lnX 123 I 97 = 48 := rfl
theorem tg_98 : tgX 123 98 = 0 := rfl
theorem ln_98 (I : AI) : lnX 123 I 98 = 2 := rfl
theorem tg_99 : tgX 123 99 = 0 := rfl
theorem ln_99 (I : AI) : lnX 123 I 99 = 8 := rfl
theorem tg_100 : tgX 123 100 = 0 := rfl
theorem ln_100 (I : AI) : lnX 123 I 100 = 8 := rfl
theorem tg_101 : tgX 123 101 = 3 := rfl
theorem ln_101 (I : AI) : lnX 123 I 101 = 260 := rfl
theorem tg_102 : tgX 123 102 = 0 := rfl
theorem ln_102 (I : AI) : lnX 123 I 102 = 260 := rfl
theorem tg_103 : tgX 123 103 = 0 := rfl
theorem ln_103 (I : AI) : lnX 123 I 103 = 260 := rfl
theorem tg_104 : tgX 123 104 = 0 := rfl
theorem ln_104 (I : AI) : lnX 123 I 104 = 260 := rfl
theorem tg_105 : tgX 123 105 = 0 := rfl
theorem ln_105 (I : AI) : lnX 123 I 105 = 260 := rfl
theorem tg_106 : tgX 123 106 = 0 := rfl
theorem ln_106 (I : AI) : lnX 123 I 106 = 840 := rfl
theorem tg_107 : tgX 123 107 = 0 := rfl
theorem ln_107 (I : AI) : lnX 123 I 107 = 840 := rfl
theorem tg_108 : tgX 123 108 = 0 := rfl
theorem ln_108 (I : AI) : lnX 123 I 108 = 64 := rfl
theorem tg_109 : tgX 123 109 = 0 := rfl
theorem ln_109 (I : AI) : lnX 123 I 109 = 9 := rfl
theorem tg_110 : tgX 123 110 = 0 := rfl
theorem ln_110 (I : AI) : lnX 123 I 110 = 400 := rfl
theorem tg_111 : tgX 123 111 = 0 := rfl
theorem ln_111 (I : AI) : lnX 123 I 111 = 48 := rfl
theorem tg_112 : tgX 123 112 = 0 := rfl
theorem ln_112 (I : AI) : lnX 123 I 112 = 48 := rfl
theorem tg_113 : tgX 123 113 = 0 := rfl
theorem ln_113 (I : AI) : lnX 123 I 113 = 14 := rfl
theorem tg_114 : tgX 123 114 = 0 := rfl
theorem ln_114 (I : AI) : lnX 123 I 114 = 14 := rfl
theorem tg_115 : tgX 123 115 = 0 := rfl
theorem ln_115 (I : AI) : lnX 123 I 115 = 1920 := rfl
theorem tg_116 : tgX 123 116 = 3 := rfl
theorem ln_116 (I : AI) : lnX 123 I 116 = 14 := rfl
theorem tg_117 : tgX 123 117 = 0 := rfl
theorem ln_117 (I : AI) : lnX 123 I 117 = 84 := rfl
theorem tg_118 : tgX 123 118 = 0 := rfl
theorem ln_118 (I : AI) : lnX 123 I 118 = 5 := rfl
theorem tg_119 : tgX 123 119 = 0 := rfl
theorem ln_119 (I : AI) : lnX 123 I 119 = 5 := rfl
theorem tg_120 : tgX 123 120 = 0 := rfl
theorem ln_120 (I : AI) : lnX 123 I 120 = 5 := rfl
theorem tg_121 : tgX 123 121 = 3 := rfl
theorem ln_121 (I : AI) : lnX 123 I 121 = 3 := rfl
theorem tg_122 : tgX 123 122 = 0 := rfl
theorem ln_122 (I : AI) : lnX 123 I 122 = 144 := rfl
def rxO (a : Nat) : List (Option Nat) := match a with
  | 0 => [some 1, some 7, some 12, some 17, some 20, some 23, some 27, some 28, some 29, some 30, some 31, some 32, some 51]
  | 1 => [some 2, some 3, some 4, some 5, some 6]
  | 7 => [some 1, some 8, some 9, some 10, some 11, none, none, none]
  | 12 => [some 13, some 14, some 15, some 16]
  | 17 => [some 18, some 19]
  | 20 => [some 21, some 22]
  | 23 => [some 24, some 25, some 26]
  | 32 => [some 33, some 34, some 35, some 36, some 37, some 38, some 39, some 40, some 41, some 42, some 43, some 44, some 45, some 46]
  | 46 => [some 47, some 48, some 49, some 50]
  | 51 => [some 52, some 53, some 54, some 55, some 56, some 57, some 58, some 59, some 60, some 61, some 62, some 63, some 64, some 65]
  | 65 => [some 66, some 67, some 68, some 69]
  | 70 => [none, some 71, none, some 72, none, some 73, some 74, some 75, some 76, some 77, none, none, none, none, none, none, none, none, none, none, none, some 78, some 79, some 80, some 81, some 82, some 83, some 84, some 85, some 86, some 87, some 88, some 89, some 90, some 91, some 92, some 93, some 94, some 95, some 96, some 97, some 98, some 99, some 100, none, some 101, some 102, some 103, some 104, some 105, none, some 106, some 107, some 108, none, some 109, some 110, none, some 111, some 112, some 113, some 114, none, some 115, some 116, some 117, none, none, none, none, some 118, some 119, some 120, some 121, some 122]
  | _ => []
/-- all references: t the text that is, u what the reader reads into -/
def RX (t : Nat) (u : Option Nat) : AR := fun a k => if a = 0 ∧ k = 11 then some t else if a = 0 ∧ k = 12 then some (83 - t) else if a = 7 ∧ k = 7 then u else (rxO a).getD k none
theorem rx_0_0 (t : Nat) (u : Option Nat) : RX t u 0 0 = some 1 := rfl
theorem rx_0_1 (t : Nat) (u : Option Nat) : RX t u 0 1 = some 7 := rfl
theorem rx_0_2 (t : Nat) (u : Option Nat) : RX t u 0 2 = some 12 := rfl
theorem rx_0_3 (t : Nat) (u : Option Nat) : RX t u 0 3 = some 17 := rfl
theorem rx_0_4 (t : Nat) (u : Option Nat) : RX t u 0 4 = some 20 := rfl
theorem rx_0_5 (t : Nat) (u : Option Nat) : RX t u 0 5 = some 23 := rfl
theorem rx_0_6 (t : Nat) (u : Option Nat) : RX t u 0 6 = some 27 := rfl
theorem rx_0_7 (t : Nat) (u : Option Nat) : RX t u 0 7 = some 28 := rfl
theorem rx_0_8 (t : Nat) (u : Option Nat) : RX t u 0 8 = some 29 := rfl
theorem rx_0_9 (t : Nat) (u : Option Nat) : RX t u 0 9 = some 30 := rfl
theorem rx_0_10 (t : Nat) (u : Option Nat) : RX t u 0 10 = some 31 := rfl
theorem rx_1_0 (t : Nat) (u : Option Nat) : RX t u 1 0 = some 2 := rfl
theorem rx_1_1 (t : Nat) (u : Option Nat) : RX t u 1 1 = some 3 := rfl
theorem rx_1_2 (t : Nat) (u : Option Nat) : RX t u 1 2 = some 4 := rfl
theorem rx_1_3 (t : Nat) (u : Option Nat) : RX t u 1 3 = some 5 := rfl
theorem rx_1_4 (t : Nat) (u : Option Nat) : RX t u 1 4 = some 6 := rfl
theorem rx_7_0 (t : Nat) (u : Option Nat) : RX t u 7 0 = some 1 := rfl
theorem rx_7_1 (t : Nat) (u : Option Nat) : RX t u 7 1 = some 8 := rfl
theorem rx_7_2 (t : Nat) (u : Option Nat) : RX t u 7 2 = some 9 := rfl
theorem rx_7_3 (t : Nat) (u : Option Nat) : RX t u 7 3 = some 10 := rfl
theorem rx_7_4 (t : Nat) (u : Option Nat) : RX t u 7 4 = some 11 := rfl
theorem rx_12_0 (t : Nat) (u : Option Nat) : RX t u 12 0 = some 13 := rfl
theorem rx_12_1 (t : Nat) (u : Option Nat) : RX t u 12 1 = some 14 := rfl
theorem rx_12_2 (t : Nat) (u : Option Nat) : RX t u 12 2 = some 15 := rfl
theorem rx_12_3 (t : Nat) (u : Option Nat) : RX t u 12 3 = some 16 := rfl
theorem rx_17_0 (t : Nat) (u : Option Nat) : RX t u 17 0 = some 18 := rfl
theorem rx_17_1 (t : Nat) (u : Option Nat) : RX t u 17 1 = some 19 := rfl
theorem rx_20_0 (t : Nat) (u : Option Nat) : RX t u 20 0 = some 21 := rfl
theorem rx_20_1 (t : Nat) (u : Option Nat) : RX t u 20 1 = some 22 := rfl
theorem rx_23_0 (t : Nat) (u : Option Nat) : RX t u 23 0 = some 24 := rfl
theorem rx_23_1 (t : Nat) (u : Option Nat) : RX t u 23 1 = some 25 := rfl
theorem rx_23_2 (t : Nat) (u : Option Nat) : RX t u 23 2 = some 26 := rfl
theorem rx_32_0 (t : Nat) (u : Option Nat) : RX t u 32 0 = some 33 := rfl
theorem rx_32_1 (t : Nat) (u : Option Nat) : RX t u 32 1 = some 34 := rfl
theorem rx_32_2 (t : Nat) (u : Option Nat) : RX t u 32 2 = some 35 := rfl
theorem rx_32_3 (t : Nat) (u : Option Nat) : RX t u 32 3 = some 36 := rfl
theorem rx_32_4 (t : Nat) (u : Option Nat) : RX t u 32 4 = some 37 := rfl
theorem rx_32_5 (t : Nat) (u : Option Nat) : RX t u 32 5 = some 38 := rfl
theorem rx_32_6 (t : Nat) (u : Option Nat) : RX t u 32 6 = some 39 := rfl
theorem rx_32_7 (t : Nat) (u : Option Nat) : RX t u 32 7 = some 40 := rfl
theorem rx_32_8 (t : Nat) (u : Option Nat) : RX t u 32 8 = some 41 := rfl
theorem rx_32_9 (t : Nat) (u : Option Nat) : RX t u 32 9 = some 42 := rfl
theorem rx_32_10 (t : Nat) (u : Option Nat) : RX t u 32 10 = some 43 := rfl
theorem rx_32_11 (t : Nat) (u : Option Nat) : RX t u 32 11 = some 44 := rfl
theorem rx_32_12 (t : Nat) (u : Option Nat) : RX t u 32 12 = some 45 := rfl
theorem rx_32_13 (t : Nat) (u : Option Nat) : RX t u 32 13 = some 46 := rfl
theorem rx_46_0 (t : Nat) (u : Option Nat) : RX t u 46 0 = some 47 := rfl
theorem rx_46_1 (t : Nat) (u : Option Nat) : RX t u 46 1 = some 48 := rfl
theorem rx_46_2 (t : Nat) (u : Option Nat) : RX t u 46 2 = some 49 := rfl
theorem rx_46_3 (t : Nat) (u : Option Nat) : RX t u 46 3 = some 50 := rfl
theorem rx_51_0 (t : Nat) (u : Option Nat) : RX t u 51 0 = some 52 := rfl
theorem rx_51_1 (t : Nat) (u : Option Nat) : RX t u 51 1 = some 53 := rfl
theorem rx_51_2 (t : Nat) (u : Option Nat) : RX t u 51 2 = some 54 := rfl
theorem rx_51_3 (t : Nat) (u : Option Nat) : RX t u 51 3 = some 55 := rfl
theorem rx_51_4 (t : Nat) (u : Option Nat) : RX t u 51 4 = some 56 := rfl
theorem rx_51_5 (t : Nat) (u : Option Nat) : RX t u 51 5 = some 57 := rfl
theorem rx_51_6 (t : Nat) (u : Option Nat) : RX t u 51 6 = some 58 := rfl
theorem rx_51_7 (t : Nat) (u : Option Nat) : RX t u 51 7 = some 59 := rfl
theorem rx_51_8 (t : Nat) (u : Option Nat) : RX t u 51 8 = some 60 := rfl
theorem rx_51_9 (t : Nat) (u : Option Nat) : RX t u 51 9 = some 61 := rfl
theorem rx_51_10 (t : Nat) (u : Option Nat) : RX t u 51 10 = some 62 := rfl
theorem rx_51_11 (t : Nat) (u : Option Nat) : RX t u 51 11 = some 63 := rfl
theorem rx_51_12 (t : Nat) (u : Option Nat) : RX t u 51 12 = some 64 := rfl
theorem rx_51_13 (t : Nat) (u : Option Nat) : RX t u 51 13 = some 65 := rfl
theorem rx_65_0 (t : Nat) (u : Option Nat) : RX t u 65 0 = some 66 := rfl
theorem rx_65_1 (t : Nat) (u : Option Nat) : RX t u 65 1 = some 67 := rfl
theorem rx_65_2 (t : Nat) (u : Option Nat) : RX t u 65 2 = some 68 := rfl
theorem rx_65_3 (t : Nat) (u : Option Nat) : RX t u 65 3 = some 69 := rfl
theorem rx_70_1 (t : Nat) (u : Option Nat) : RX t u 70 1 = some 71 := rfl
theorem rx_70_3 (t : Nat) (u : Option Nat) : RX t u 70 3 = some 72 := rfl
theorem rx_70_5 (t : Nat) (u : Option Nat) : RX t u 70 5 = some 73 := rfl
theorem rx_70_6 (t : Nat) (u : Option Nat) : RX t u 70 6 = some 74 := rfl
theorem rx_70_7 (t : Nat) (u : Option Nat) : RX t u 70 7 = some 75 := rfl
theorem rx_70_8 (t : Nat) (u : Option Nat) : RX t u 70 8 = some 76 := rfl
theorem rx_70_9 (t : Nat) (u : Option Nat) : RX t u 70 9 = some 77 := rfl
theorem rx_70_21 (t : Nat) (u : Option Nat) : RX t u 70 21 = some 78 := rfl
theorem rx_70_22 (t : Nat) (u : Option Nat) : RX t u 70 22 = some 79 := rfl
theorem rx_70_23 (t : Nat) (u : Option Nat) : RX t u 70 23 = some 80 := rfl
theorem rx_70_24 (t : Nat) (u : Option Nat) : RX t u 70 24 = some 81 := rfl
theorem rx_70_25 (t : Nat) (u : Option Nat) : RX t u 70 25 = some 82 := rfl
theorem rx_70_26 (t : Nat) (u : Option Nat) : RX t u 70 26 = some 83 := rfl
theorem rx_70_27 (t : Nat) (u : Option Nat) : RX t u 70 27 = some 84 := rfl
theorem rx_70_28 (t : Nat) (u : Option Nat) : RX t u 70 28 = some 85 := rfl
theorem rx_70_29 (t : Nat) (u : Option Nat) : RX t u 70 29 = some 86 := rfl
theorem rx_70_30 (t : Nat) (u : Option Nat) : RX t u 70 30 = some 87 := rfl
theorem rx_70_31 (t : Nat) (u : Option Nat) : RX t u 70 31 = some 88 := rfl
theorem rx_70_32 (t : Nat) (u : Option Nat) : RX t u 70 32 = some 89 := rfl
theorem rx_70_33 (t : Nat) (u : Option Nat) : RX t u 70 33 = some 90 := rfl
theorem rx_70_34 (t : Nat) (u : Option Nat) : RX t u 70 34 = some 91 := rfl
theorem rx_70_35 (t : Nat) (u : Option Nat) : RX t u 70 35 = some 92 := rfl
theorem rx_70_36 (t : Nat) (u : Option Nat) : RX t u 70 36 = some 93 := rfl
theorem rx_70_37 (t : Nat) (u : Option Nat) : RX t u 70 37 = some 94 := rfl
theorem rx_70_38 (t : Nat) (u : Option Nat) : RX t u 70 38 = some 95 := rfl
theorem rx_70_39 (t : Nat) (u : Option Nat) : RX t u 70 39 = some 96 := rfl
theorem rx_70_40 (t : Nat) (u : Option Nat) : RX t u 70 40 = some 97 := rfl
theorem rx_70_41 (t : Nat) (u : Option Nat) : RX t u 70 41 = some 98 := rfl
theorem rx_70_42 (t : Nat) (u : Option Nat) : RX t u 70 42 = some 99 := rfl
theorem rx_70_43 (t : Nat) (u : Option Nat) : RX t u 70 43 = some 100 := rfl
theorem rx_70_45 (t : Nat) (u : Option Nat) : RX t u 70 45 = some 101 := rfl
theorem rx_70_46 (t : Nat) (u : Option Nat) : RX t u 70 46 = some 102 := rfl
theorem rx_70_47 (t : Nat) (u : Option Nat) : RX t u 70 47 = some 103 := rfl
theorem rx_70_48 (t : Nat) (u : Option Nat) : RX t u 70 48 = some 104 := rfl
theorem rx_70_49 (t : Nat) (u : Option Nat) : RX t u 70 49 = some 105 := rfl
theorem rx_70_51 (t : Nat) (u : Option Nat) : RX t u 70 51 = some 106 := rfl
theorem rx_70_52 (t : Nat) (u : Option Nat) : RX t u 70 52 = some 107 := rfl
theorem rx_70_53 (t : Nat) (u : Option Nat) : RX t u 70 53 = some 108 := rfl
theorem rx_70_55 (t : Nat) (u : Option Nat) : RX t u 70 55 = some 109 := rfl
theorem rx_70_56 (t : Nat) (u : Option Nat) : RX t u 70 56 = some 110 := rfl
theorem rx_70_58 (t : Nat) (u : Option Nat) : RX t u 70 58 = some 111 := rfl
theorem rx_70_59 (t : Nat) (u : Option Nat) : RX t u 70 59 = some 112 := rfl
theorem rx_70_60 (t : Nat) (u : Option Nat) : RX t u 70 60 = some 113 := rfl
theorem rx_70_61 (t : Nat) (u : Option Nat) : RX t u 70 61 = some 114 := rfl
theorem rx_70_63 (t : Nat) (u : Option Nat) : RX t u 70 63 = some 115 := rfl
theorem rx_70_64 (t : Nat) (u : Option Nat) : RX t u 70 64 = some 116 := rfl
theorem rx_70_65 (t : Nat) (u : Option Nat) : RX t u 70 65 = some 117 := rfl
theorem rx_70_70 (t : Nat) (u : Option Nat) : RX t u 70 70 = some 118 := rfl
theorem rx_70_71 (t : Nat) (u : Option Nat) : RX t u 70 71 = some 119 := rfl
theorem rx_70_72 (t : Nat) (u : Option Nat) : RX t u 70 72 = some 120 := rfl
theorem rx_70_73 (t : Nat) (u : Option Nat) : RX t u 70 73 = some 121 := rfl
theorem rx_70_74 (t : Nat) (u : Option Nat) : RX t u 70 74 = some 122 := rfl
theorem rx_0_11 (t : Nat) (u : Option Nat) : RX t u 0 11 = some t := rfl
theorem rx_0_12 (t : Nat) (u : Option Nat) : RX t u 0 12 = some (83 - t) := rfl
theorem rx_7_7 (t : Nat) (u : Option Nat) : RX t u 7 7 = u := rfl
theorem rd_2 (I : AI) (j : Nat) : rdB I 2 j = I 2 j := rfl
theorem rd_14 (I : AI) (j : Nat) : rdB I 14 j = I 14 j := rfl
theorem rd_71 (I : AI) (j : Nat) : rdB I 71 j = I 71 j := rfl
theorem rd_72 (I : AI) (j : Nat) : rdB I 72 j = I 72 j := rfl
theorem rd_101 (I : AI) (j : Nat) : rdB I 101 j = I 101 j := rfl
theorem rd_116 (I : AI) (j : Nat) : rdB I 116 j = I 116 j := rfl
theorem rd_121 (I : AI) (j : Nat) : rdB I 121 j = I 121 j := rfl
theorem nr_2 (v : Int32) : nrB 2 v = v.toInt8.toInt32 := vp_nar_byte v
theorem nr_30 : nrB 3 0 = 0 := by decide
theorem nr_31 : nrB 3 1 = 1 := by decide
