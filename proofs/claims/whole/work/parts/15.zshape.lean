/-! the cells as both constructors leave them: 0 the system, 109 the reference; t the town in force (5 or 36) -/
def SH : AS := [(11, 13), (7, 2), (14, 200), (2, 3), (15, 3), (8, 6), (6, 6), (15, 12), (15, 12), (18, 8), (15, 8), (15, 8), (15, 8), (15, 8), (15, 8), (15, 8), (15, 8), (15, 8), (18, 8), (15, 8), (15, 8), (15, 8), (15, 8), (15, 8), (15, 8), (15, 8), (15, 8), (5, 4), (15, 9), (15, 9), (15, 9), (10, 5), (15, 4), (15, 4), (15, 4), (15, 4), (8, 6), (6, 6), (15, 12), (15, 12), (18, 8), (15, 8), (15, 8), (15, 8), (15, 8), (15, 8), (15, 8), (15, 8), (15, 8), (18, 8), (15, 8), (15, 8), (15, 8), (15, 8), (15, 8), (15, 8), (15, 8), (15, 8), (5, 4), (15, 9), (15, 9), (15, 9), (10, 5), (15, 4), (15, 4), (15, 4), (15, 4), (9, 7), (15, 31), (16, 30), (5, 4), (15, 9), (15, 9), (15, 9), (0, 7), (15, 8), (15, 8), (15, 8), (15, 8), (15, 8), (3, 3), (17, 2), (18, 2), (15, 4), (15, 4), (5, 4), (15, 9), (15, 9), (15, 9), (5, 4), (15, 9), (15, 9), (15, 9), (4, 4), (15, 8), (15, 8), (15, 8), (1, 2), (18, 8), (15, 8), (15, 8), (15, 8), (15, 8), (15, 8), (15, 8), (15, 8), (15, 8), (15, 8), (15, 4), (12, 34), (13, 200), (15, 2), (15, 2), (15, 24), (15, 24), (15, 24), (15, 2), (15, 8), (15, 8), (15, 8), (15, 6), (15, 24), (15, 384), (15, 64), (15, 64), (15, 31), (15, 8), (15, 4), (15, 8), (15, 8), (15, 8)]
theorem sh_0 : SH[0]? = some (11, 13) := rfl
theorem sh_1 : SH[1]? = some (7, 2) := rfl
theorem sh_2 : SH[2]? = some (14, 200) := rfl
theorem sh_3 : SH[3]? = some (2, 3) := rfl
theorem sh_4 : SH[4]? = some (15, 3) := rfl
theorem sh_5 : SH[5]? = some (8, 6) := rfl
theorem sh_6 : SH[6]? = some (6, 6) := rfl
theorem sh_7 : SH[7]? = some (15, 12) := rfl
theorem sh_8 : SH[8]? = some (15, 12) := rfl
theorem sh_9 : SH[9]? = some (18, 8) := rfl
theorem sh_10 : SH[10]? = some (15, 8) := rfl
theorem sh_11 : SH[11]? = some (15, 8) := rfl
theorem sh_12 : SH[12]? = some (15, 8) := rfl
theorem sh_13 : SH[13]? = some (15, 8) := rfl
theorem sh_14 : SH[14]? = some (15, 8) := rfl
theorem sh_15 : SH[15]? = some (15, 8) := rfl
theorem sh_16 : SH[16]? = some (15, 8) := rfl
theorem sh_17 : SH[17]? = some (15, 8) := rfl
theorem sh_18 : SH[18]? = some (18, 8) := rfl
theorem sh_19 : SH[19]? = some (15, 8) := rfl
theorem sh_20 : SH[20]? = some (15, 8) := rfl
theorem sh_21 : SH[21]? = some (15, 8) := rfl
theorem sh_22 : SH[22]? = some (15, 8) := rfl
theorem sh_23 : SH[23]? = some (15, 8) := rfl
theorem sh_24 : SH[24]? = some (15, 8) := rfl
theorem sh_25 : SH[25]? = some (15, 8) := rfl
theorem sh_26 : SH[26]? = some (15, 8) := rfl
theorem sh_27 : SH[27]? = some (5, 4) := rfl
theorem sh_28 : SH[28]? = some (15, 9) := rfl
theorem sh_29 : SH[29]? = some (15, 9) := rfl
theorem sh_30 : SH[30]? = some (15, 9) := rfl
theorem sh_31 : SH[31]? = some (10, 5) := rfl
theorem sh_32 : SH[32]? = some (15, 4) := rfl
theorem sh_33 : SH[33]? = some (15, 4) := rfl
theorem sh_34 : SH[34]? = some (15, 4) := rfl
theorem sh_35 : SH[35]? = some (15, 4) := rfl
theorem sh_36 : SH[36]? = some (8, 6) := rfl
theorem sh_37 : SH[37]? = some (6, 6) := rfl
theorem sh_38 : SH[38]? = some (15, 12) := rfl
theorem sh_39 : SH[39]? = some (15, 12) := rfl
theorem sh_40 : SH[40]? = some (18, 8) := rfl
theorem sh_41 : SH[41]? = some (15, 8) := rfl
theorem sh_42 : SH[42]? = some (15, 8) := rfl
theorem sh_43 : SH[43]? = some (15, 8) := rfl
theorem sh_44 : SH[44]? = some (15, 8) := rfl
theorem sh_45 : SH[45]? = some (15, 8) := rfl
theorem sh_46 : SH[46]? = some (15, 8) := rfl
theorem sh_47 : SH[47]? = some (15, 8) := rfl
theorem sh_48 : SH[48]? = some (15, 8) := rfl
theorem sh_49 : SH[49]? = some (18, 8) := rfl
theorem sh_50 : SH[50]? = some (15, 8) := rfl
theorem sh_51 : SH[51]? = some (15, 8) := rfl
theorem sh_52 : SH[52]? = some (15, 8) := rfl
theorem sh_53 : SH[53]? = some (15, 8) := rfl
theorem sh_54 : SH[54]? = some (15, 8) := rfl
theorem sh_55 : SH[55]? = some (15, 8) := rfl
theorem sh_56 : SH[56]? = some (15, 8) := rfl
theorem sh_57 : SH[57]? = some (15, 8) := rfl
theorem sh_58 : SH[58]? = some (5, 4) := rfl
theorem sh_59 : SH[59]? = some (15, 9) := rfl
theorem sh_60 : SH[60]? = some (15, 9) := rfl
theorem sh_61 : SH[61]? = some (15, 9) := rfl
theorem sh_62 : SH[62]? = some (10, 5) := rfl
theorem sh_63 : SH[63]? = some (15, 4) := rfl
theorem sh_64 : SH[64]? = some (15, 4) := rfl
theorem sh_65 : SH[65]? = some (15, 4) := rfl
theorem sh_66 : SH[66]? = some (15, 4) := rfl
theorem sh_67 : SH[67]? = some (9, 7) := rfl
theorem sh_68 : SH[68]? = some (15, 31) := rfl
theorem sh_69 : SH[69]? = some (16, 30) := rfl
theorem sh_70 : SH[70]? = some (5, 4) := rfl
theorem sh_71 : SH[71]? = some (15, 9) := rfl
theorem sh_72 : SH[72]? = some (15, 9) := rfl
theorem sh_73 : SH[73]? = some (15, 9) := rfl
theorem sh_74 : SH[74]? = some (0, 7) := rfl
theorem sh_75 : SH[75]? = some (15, 8) := rfl
theorem sh_76 : SH[76]? = some (15, 8) := rfl
theorem sh_77 : SH[77]? = some (15, 8) := rfl
theorem sh_78 : SH[78]? = some (15, 8) := rfl
theorem sh_79 : SH[79]? = some (15, 8) := rfl
theorem sh_80 : SH[80]? = some (3, 3) := rfl
theorem sh_81 : SH[81]? = some (17, 2) := rfl
theorem sh_82 : SH[82]? = some (18, 2) := rfl
theorem sh_83 : SH[83]? = some (15, 4) := rfl
theorem sh_84 : SH[84]? = some (15, 4) := rfl
theorem sh_85 : SH[85]? = some (5, 4) := rfl
theorem sh_86 : SH[86]? = some (15, 9) := rfl
theorem sh_87 : SH[87]? = some (15, 9) := rfl
theorem sh_88 : SH[88]? = some (15, 9) := rfl
theorem sh_89 : SH[89]? = some (5, 4) := rfl
theorem sh_90 : SH[90]? = some (15, 9) := rfl
theorem sh_91 : SH[91]? = some (15, 9) := rfl
theorem sh_92 : SH[92]? = some (15, 9) := rfl
theorem sh_93 : SH[93]? = some (4, 4) := rfl
theorem sh_94 : SH[94]? = some (15, 8) := rfl
theorem sh_95 : SH[95]? = some (15, 8) := rfl
theorem sh_96 : SH[96]? = some (15, 8) := rfl
theorem sh_97 : SH[97]? = some (1, 2) := rfl
theorem sh_98 : SH[98]? = some (18, 8) := rfl
theorem sh_99 : SH[99]? = some (15, 8) := rfl
theorem sh_100 : SH[100]? = some (15, 8) := rfl
theorem sh_101 : SH[101]? = some (15, 8) := rfl
theorem sh_102 : SH[102]? = some (15, 8) := rfl
theorem sh_103 : SH[103]? = some (15, 8) := rfl
theorem sh_104 : SH[104]? = some (15, 8) := rfl
theorem sh_105 : SH[105]? = some (15, 8) := rfl
theorem sh_106 : SH[106]? = some (15, 8) := rfl
theorem sh_107 : SH[107]? = some (15, 8) := rfl
theorem sh_108 : SH[108]? = some (15, 4) := rfl
theorem sh_109 : SH[109]? = some (12, 34) := rfl
theorem sh_110 : SH[110]? = some (13, 200) := rfl
theorem sh_111 : SH[111]? = some (15, 2) := rfl
theorem sh_112 : SH[112]? = some (15, 2) := rfl
theorem sh_113 : SH[113]? = some (15, 24) := rfl
theorem sh_114 : SH[114]? = some (15, 24) := rfl
theorem sh_115 : SH[115]? = some (15, 24) := rfl
theorem sh_116 : SH[116]? = some (15, 2) := rfl
theorem sh_117 : SH[117]? = some (15, 8) := rfl
theorem sh_118 : SH[118]? = some (15, 8) := rfl
theorem sh_119 : SH[119]? = some (15, 8) := rfl
theorem sh_120 : SH[120]? = some (15, 6) := rfl
theorem sh_121 : SH[121]? = some (15, 24) := rfl
theorem sh_122 : SH[122]? = some (15, 384) := rfl
theorem sh_123 : SH[123]? = some (15, 64) := rfl
theorem sh_124 : SH[124]? = some (15, 64) := rfl
theorem sh_125 : SH[125]? = some (15, 31) := rfl
theorem sh_126 : SH[126]? = some (15, 8) := rfl
theorem sh_127 : SH[127]? = some (15, 4) := rfl
theorem sh_128 : SH[128]? = some (15, 8) := rfl
theorem sh_129 : SH[129]? = some (15, 8) := rfl
theorem sh_130 : SH[130]? = some (15, 8) := rfl
def zFt (t a : Nat) : List (Option Nat) :=
  if a = 109 then [some 110, none, some 111, some 112, some 113, some 114, some 115, some 116, some 117, some 118, some 119, some 120, some 121, none, none, none, none, some 122, none, none, some 123, some 124, some 125, none, none, none, none, none, some 126, some 127, some 128, some 129, some 130] else
  if a = 0 then [some 1, some 3, some t, some (41 - t), some 67, some 70, some 74, some 80, some 93, some 97, some 98, some 107, some 108] else
  if a = 1 then [some 2] else
  if a = 3 then [some 4] else
  if a = 5 then [some 6, some 27, some 31] else
  if a = 6 then [none, none, some 7, some 8, some 9, some 18] else
  if a = 9 then [some 10, some 11, some 12, some 13, some 14, some 15, some 16, some 17] else
  if a = 18 then [some 19, some 20, some 21, some 22, some 23, some 24, some 25, some 26] else
  if a = 27 then [some 28, some 29, some 30] else
  if a = 31 then [some 32, some 33, some 34, some 35] else
  if a = 36 then [some 37, some 58, some 62] else
  if a = 37 then [none, none, some 38, some 39, some 40, some 49] else
  if a = 40 then [some 41, some 42, some 43, some 44, some 45, some 46, some 47, some 48] else
  if a = 49 then [some 50, some 51, some 52, some 53, some 54, some 55, some 56, some 57] else
  if a = 58 then [some 59, some 60, some 61] else
  if a = 62 then [some 63, some 64, some 65, some 66] else
  if a = 67 then [some 68, some 69] else
  if a = 70 then [some 71, some 72, some 73] else
  if a = 74 then [some 75, some 76, some 77, some 78, some 79] else
  if a = 80 then [some 81, some 82] else
  if a = 81 then [some 85, some 89] else
  if a = 82 then [some 83, some 84] else
  if a = 85 then [some 86, some 87, some 88] else
  if a = 89 then [some 90, some 91, some 92] else
  if a = 93 then [some 94, some 95, some 96] else
  if a = 98 then [some 99, some 100, some 101, some 102, some 103, some 104, some 105, some 106] else []
def zF (t : Nat) : AR := fun a k => (zFt t a).getD k none
theorem F_109_0 {t : Nat} : zF t 109 0 = some 110 := rfl
theorem F_109_2 {t : Nat} : zF t 109 2 = some 111 := rfl
theorem F_109_3 {t : Nat} : zF t 109 3 = some 112 := rfl
theorem F_109_4 {t : Nat} : zF t 109 4 = some 113 := rfl
theorem F_109_5 {t : Nat} : zF t 109 5 = some 114 := rfl
theorem F_109_6 {t : Nat} : zF t 109 6 = some 115 := rfl
theorem F_109_7 {t : Nat} : zF t 109 7 = some 116 := rfl
theorem F_109_8 {t : Nat} : zF t 109 8 = some 117 := rfl
theorem F_109_9 {t : Nat} : zF t 109 9 = some 118 := rfl
theorem F_109_10 {t : Nat} : zF t 109 10 = some 119 := rfl
theorem F_109_11 {t : Nat} : zF t 109 11 = some 120 := rfl
theorem F_109_12 {t : Nat} : zF t 109 12 = some 121 := rfl
theorem F_109_17 {t : Nat} : zF t 109 17 = some 122 := rfl
theorem F_109_20 {t : Nat} : zF t 109 20 = some 123 := rfl
theorem F_109_21 {t : Nat} : zF t 109 21 = some 124 := rfl
theorem F_109_22 {t : Nat} : zF t 109 22 = some 125 := rfl
theorem F_109_28 {t : Nat} : zF t 109 28 = some 126 := rfl
theorem F_109_29 {t : Nat} : zF t 109 29 = some 127 := rfl
theorem F_109_30 {t : Nat} : zF t 109 30 = some 128 := rfl
theorem F_109_31 {t : Nat} : zF t 109 31 = some 129 := rfl
theorem F_109_32 {t : Nat} : zF t 109 32 = some 130 := rfl
theorem F_0_0 {t : Nat} : zF t 0 0 = some 1 := rfl
theorem F_0_1 {t : Nat} : zF t 0 1 = some 3 := rfl
theorem F_0_2 {t : Nat} : zF t 0 2 = some t := rfl
theorem F_0_3 {t : Nat} : zF t 0 3 = some (41 - t) := rfl
theorem F_0_4 {t : Nat} : zF t 0 4 = some 67 := rfl
theorem F_0_5 {t : Nat} : zF t 0 5 = some 70 := rfl
theorem F_0_6 {t : Nat} : zF t 0 6 = some 74 := rfl
theorem F_0_7 {t : Nat} : zF t 0 7 = some 80 := rfl
theorem F_0_8 {t : Nat} : zF t 0 8 = some 93 := rfl
theorem F_0_9 {t : Nat} : zF t 0 9 = some 97 := rfl
theorem F_0_10 {t : Nat} : zF t 0 10 = some 98 := rfl
theorem F_0_11 {t : Nat} : zF t 0 11 = some 107 := rfl
theorem F_0_12 {t : Nat} : zF t 0 12 = some 108 := rfl
theorem F_1_0 {t : Nat} : zF t 1 0 = some 2 := rfl
theorem F_3_0 {t : Nat} : zF t 3 0 = some 4 := rfl
theorem F_5_0 {t : Nat} : zF t 5 0 = some 6 := rfl
theorem F_5_1 {t : Nat} : zF t 5 1 = some 27 := rfl
theorem F_5_2 {t : Nat} : zF t 5 2 = some 31 := rfl
theorem F_6_2 {t : Nat} : zF t 6 2 = some 7 := rfl
theorem F_6_3 {t : Nat} : zF t 6 3 = some 8 := rfl
theorem F_6_4 {t : Nat} : zF t 6 4 = some 9 := rfl
theorem F_6_5 {t : Nat} : zF t 6 5 = some 18 := rfl
theorem F_9_0 {t : Nat} : zF t 9 0 = some 10 := rfl
theorem F_9_1 {t : Nat} : zF t 9 1 = some 11 := rfl
theorem F_9_2 {t : Nat} : zF t 9 2 = some 12 := rfl
theorem F_9_3 {t : Nat} : zF t 9 3 = some 13 := rfl
theorem F_9_4 {t : Nat} : zF t 9 4 = some 14 := rfl
theorem F_9_5 {t : Nat} : zF t 9 5 = some 15 := rfl
theorem F_9_6 {t : Nat} : zF t 9 6 = some 16 := rfl
theorem F_9_7 {t : Nat} : zF t 9 7 = some 17 := rfl
theorem F_18_0 {t : Nat} : zF t 18 0 = some 19 := rfl
theorem F_18_1 {t : Nat} : zF t 18 1 = some 20 := rfl
theorem F_18_2 {t : Nat} : zF t 18 2 = some 21 := rfl
theorem F_18_3 {t : Nat} : zF t 18 3 = some 22 := rfl
theorem F_18_4 {t : Nat} : zF t 18 4 = some 23 := rfl
theorem F_18_5 {t : Nat} : zF t 18 5 = some 24 := rfl
theorem F_18_6 {t : Nat} : zF t 18 6 = some 25 := rfl
theorem F_18_7 {t : Nat} : zF t 18 7 = some 26 := rfl
theorem F_27_0 {t : Nat} : zF t 27 0 = some 28 := rfl
theorem F_27_1 {t : Nat} : zF t 27 1 = some 29 := rfl
theorem F_27_2 {t : Nat} : zF t 27 2 = some 30 := rfl
theorem F_31_0 {t : Nat} : zF t 31 0 = some 32 := rfl
theorem F_31_1 {t : Nat} : zF t 31 1 = some 33 := rfl
theorem F_31_2 {t : Nat} : zF t 31 2 = some 34 := rfl
theorem F_31_3 {t : Nat} : zF t 31 3 = some 35 := rfl
theorem F_36_0 {t : Nat} : zF t 36 0 = some 37 := rfl
theorem F_36_1 {t : Nat} : zF t 36 1 = some 58 := rfl
theorem F_36_2 {t : Nat} : zF t 36 2 = some 62 := rfl
theorem F_37_2 {t : Nat} : zF t 37 2 = some 38 := rfl
theorem F_37_3 {t : Nat} : zF t 37 3 = some 39 := rfl
theorem F_37_4 {t : Nat} : zF t 37 4 = some 40 := rfl
theorem F_37_5 {t : Nat} : zF t 37 5 = some 49 := rfl
theorem F_40_0 {t : Nat} : zF t 40 0 = some 41 := rfl
theorem F_40_1 {t : Nat} : zF t 40 1 = some 42 := rfl
theorem F_40_2 {t : Nat} : zF t 40 2 = some 43 := rfl
theorem F_40_3 {t : Nat} : zF t 40 3 = some 44 := rfl
theorem F_40_4 {t : Nat} : zF t 40 4 = some 45 := rfl
theorem F_40_5 {t : Nat} : zF t 40 5 = some 46 := rfl
theorem F_40_6 {t : Nat} : zF t 40 6 = some 47 := rfl
theorem F_40_7 {t : Nat} : zF t 40 7 = some 48 := rfl
theorem F_49_0 {t : Nat} : zF t 49 0 = some 50 := rfl
theorem F_49_1 {t : Nat} : zF t 49 1 = some 51 := rfl
theorem F_49_2 {t : Nat} : zF t 49 2 = some 52 := rfl
theorem F_49_3 {t : Nat} : zF t 49 3 = some 53 := rfl
theorem F_49_4 {t : Nat} : zF t 49 4 = some 54 := rfl
theorem F_49_5 {t : Nat} : zF t 49 5 = some 55 := rfl
theorem F_49_6 {t : Nat} : zF t 49 6 = some 56 := rfl
theorem F_49_7 {t : Nat} : zF t 49 7 = some 57 := rfl
theorem F_58_0 {t : Nat} : zF t 58 0 = some 59 := rfl
theorem F_58_1 {t : Nat} : zF t 58 1 = some 60 := rfl
theorem F_58_2 {t : Nat} : zF t 58 2 = some 61 := rfl
theorem F_62_0 {t : Nat} : zF t 62 0 = some 63 := rfl
theorem F_62_1 {t : Nat} : zF t 62 1 = some 64 := rfl
theorem F_62_2 {t : Nat} : zF t 62 2 = some 65 := rfl
theorem F_62_3 {t : Nat} : zF t 62 3 = some 66 := rfl
theorem F_67_0 {t : Nat} : zF t 67 0 = some 68 := rfl
theorem F_67_1 {t : Nat} : zF t 67 1 = some 69 := rfl
theorem F_70_0 {t : Nat} : zF t 70 0 = some 71 := rfl
theorem F_70_1 {t : Nat} : zF t 70 1 = some 72 := rfl
theorem F_70_2 {t : Nat} : zF t 70 2 = some 73 := rfl
theorem F_74_0 {t : Nat} : zF t 74 0 = some 75 := rfl
theorem F_74_1 {t : Nat} : zF t 74 1 = some 76 := rfl
theorem F_74_2 {t : Nat} : zF t 74 2 = some 77 := rfl
theorem F_74_3 {t : Nat} : zF t 74 3 = some 78 := rfl
theorem F_74_4 {t : Nat} : zF t 74 4 = some 79 := rfl
theorem F_80_0 {t : Nat} : zF t 80 0 = some 81 := rfl
theorem F_80_1 {t : Nat} : zF t 80 1 = some 82 := rfl
theorem F_81_0 {t : Nat} : zF t 81 0 = some 85 := rfl
theorem F_81_1 {t : Nat} : zF t 81 1 = some 89 := rfl
theorem F_82_0 {t : Nat} : zF t 82 0 = some 83 := rfl
theorem F_82_1 {t : Nat} : zF t 82 1 = some 84 := rfl
theorem F_85_0 {t : Nat} : zF t 85 0 = some 86 := rfl
theorem F_85_1 {t : Nat} : zF t 85 1 = some 87 := rfl
theorem F_85_2 {t : Nat} : zF t 85 2 = some 88 := rfl
theorem F_89_0 {t : Nat} : zF t 89 0 = some 90 := rfl
theorem F_89_1 {t : Nat} : zF t 89 1 = some 91 := rfl
theorem F_89_2 {t : Nat} : zF t 89 2 = some 92 := rfl
theorem F_93_0 {t : Nat} : zF t 93 0 = some 94 := rfl
theorem F_93_1 {t : Nat} : zF t 93 1 = some 95 := rfl
theorem F_93_2 {t : Nat} : zF t 93 2 = some 96 := rfl
theorem F_98_0 {t : Nat} : zF t 98 0 = some 99 := rfl
theorem F_98_1 {t : Nat} : zF t 98 1 = some 100 := rfl
theorem F_98_2 {t : Nat} : zF t 98 2 = some 101 := rfl
theorem F_98_3 {t : Nat} : zF t 98 3 = some 102 := rfl
theorem F_98_4 {t : Nat} : zF t 98 4 = some 103 := rfl
theorem F_98_5 {t : Nat} : zF t 98 5 = some 104 := rfl
theorem F_98_6 {t : Nat} : zF t 98 6 = some 105 := rfl
theorem F_98_7 {t : Nat} : zF t 98 7 = some 106 := rfl
theorem fr_0_0 : (decide (0 < 13) && decide (0 < 7) && decide (7 = zNf 0) && (zTy 0 0).isReference) = true := by decide
theorem fr_0_1 : (decide (0 < 13) && decide (1 < 7) && decide (7 = zNf 0) && (zTy 0 1).isReference) = true := by decide
theorem fr_0_2 : (decide (0 < 13) && decide (2 < 7) && decide (7 = zNf 0) && (zTy 0 2).isReference) = true := by decide
theorem fr_0_3 : (decide (0 < 13) && decide (3 < 7) && decide (7 = zNf 0) && (zTy 0 3).isReference) = true := by decide
theorem fr_0_4 : (decide (0 < 13) && decide (4 < 7) && decide (7 = zNf 0) && (zTy 0 4).isReference) = true := by decide
theorem fi_0_5 : (decide (0 < 13) && decide (5 < 7) && decide (7 = zNf 0) && !(zTy 0 5).isReference) = true := by decide
theorem fp_0_5 : (decide (0 < 13) && decide (5 < 7) && decide (7 = zNf 0) && !(zTy 0 5).isReference && !(zTb 0 5).2.2.2) = true := by decide
theorem fi_0_6 : (decide (0 < 13) && decide (6 < 7) && decide (7 = zNf 0) && !(zTy 0 6).isReference) = true := by decide
theorem fp_0_6 : (decide (0 < 13) && decide (6 < 7) && decide (7 = zNf 0) && !(zTy 0 6).isReference && !(zTb 0 6).2.2.2) = true := by decide
theorem fi_1_0 : (decide (1 < 13) && decide (0 < 2) && decide (2 = zNf 1) && !(zTy 1 0).isReference) = true := by decide
theorem fp_1_0 : (decide (1 < 13) && decide (0 < 2) && decide (2 = zNf 1) && !(zTy 1 0).isReference && !(zTb 1 0).2.2.2) = true := by decide
theorem fi_1_1 : (decide (1 < 13) && decide (1 < 2) && decide (2 = zNf 1) && !(zTy 1 1).isReference) = true := by decide
theorem fp_1_1 : (decide (1 < 13) && decide (1 < 2) && decide (2 = zNf 1) && !(zTy 1 1).isReference && !(zTb 1 1).2.2.2) = true := by decide
theorem fr_2_0 : (decide (2 < 13) && decide (0 < 3) && decide (3 = zNf 2) && (zTy 2 0).isReference) = true := by decide
theorem fi_2_1 : (decide (2 < 13) && decide (1 < 3) && decide (3 = zNf 2) && !(zTy 2 1).isReference) = true := by decide
theorem fp_2_1 : (decide (2 < 13) && decide (1 < 3) && decide (3 = zNf 2) && !(zTy 2 1).isReference && !(zTb 2 1).2.2.2) = true := by decide
theorem fi_2_2 : (decide (2 < 13) && decide (2 < 3) && decide (3 = zNf 2) && !(zTy 2 2).isReference) = true := by decide
theorem fp_2_2 : (decide (2 < 13) && decide (2 < 3) && decide (3 = zNf 2) && !(zTy 2 2).isReference && !(zTb 2 2).2.2.2) = true := by decide
theorem fr_3_0 : (decide (3 < 13) && decide (0 < 3) && decide (3 = zNf 3) && (zTy 3 0).isReference) = true := by decide
theorem fr_3_1 : (decide (3 < 13) && decide (1 < 3) && decide (3 = zNf 3) && (zTy 3 1).isReference) = true := by decide
theorem fi_3_2 : (decide (3 < 13) && decide (2 < 3) && decide (3 = zNf 3) && !(zTy 3 2).isReference) = true := by decide
theorem fp_3_2 : (decide (3 < 13) && decide (2 < 3) && decide (3 = zNf 3) && !(zTy 3 2).isReference && !(zTb 3 2).2.2.2) = true := by decide
theorem fr_4_0 : (decide (4 < 13) && decide (0 < 4) && decide (4 = zNf 4) && (zTy 4 0).isReference) = true := by decide
theorem fr_4_1 : (decide (4 < 13) && decide (1 < 4) && decide (4 = zNf 4) && (zTy 4 1).isReference) = true := by decide
theorem fr_4_2 : (decide (4 < 13) && decide (2 < 4) && decide (4 = zNf 4) && (zTy 4 2).isReference) = true := by decide
theorem fi_4_3 : (decide (4 < 13) && decide (3 < 4) && decide (4 = zNf 4) && !(zTy 4 3).isReference) = true := by decide
theorem fp_4_3 : (decide (4 < 13) && decide (3 < 4) && decide (4 = zNf 4) && !(zTy 4 3).isReference && !(zTb 4 3).2.2.2) = true := by decide
theorem fr_5_0 : (decide (5 < 13) && decide (0 < 4) && decide (4 = zNf 5) && (zTy 5 0).isReference) = true := by decide
theorem fr_5_1 : (decide (5 < 13) && decide (1 < 4) && decide (4 = zNf 5) && (zTy 5 1).isReference) = true := by decide
theorem fr_5_2 : (decide (5 < 13) && decide (2 < 4) && decide (4 = zNf 5) && (zTy 5 2).isReference) = true := by decide
theorem fi_5_3 : (decide (5 < 13) && decide (3 < 4) && decide (4 = zNf 5) && !(zTy 5 3).isReference) = true := by decide
theorem fp_5_3 : (decide (5 < 13) && decide (3 < 4) && decide (4 = zNf 5) && !(zTy 5 3).isReference && !(zTb 5 3).2.2.2) = true := by decide
theorem fi_6_0 : (decide (6 < 13) && decide (0 < 6) && decide (6 = zNf 6) && !(zTy 6 0).isReference) = true := by decide
theorem fp_6_0 : (decide (6 < 13) && decide (0 < 6) && decide (6 = zNf 6) && !(zTy 6 0).isReference && !(zTb 6 0).2.2.2) = true := by decide
theorem fi_6_1 : (decide (6 < 13) && decide (1 < 6) && decide (6 = zNf 6) && !(zTy 6 1).isReference) = true := by decide
theorem fp_6_1 : (decide (6 < 13) && decide (1 < 6) && decide (6 = zNf 6) && !(zTy 6 1).isReference && !(zTb 6 1).2.2.2) = true := by decide
theorem fr_6_2 : (decide (6 < 13) && decide (2 < 6) && decide (6 = zNf 6) && (zTy 6 2).isReference) = true := by decide
theorem fr_6_3 : (decide (6 < 13) && decide (3 < 6) && decide (6 = zNf 6) && (zTy 6 3).isReference) = true := by decide
theorem fr_6_4 : (decide (6 < 13) && decide (4 < 6) && decide (6 = zNf 6) && (zTy 6 4).isReference) = true := by decide
theorem fr_6_5 : (decide (6 < 13) && decide (5 < 6) && decide (6 = zNf 6) && (zTy 6 5).isReference) = true := by decide
theorem fr_7_0 : (decide (7 < 13) && decide (0 < 2) && decide (2 = zNf 7) && (zTy 7 0).isReference) = true := by decide
theorem fi_7_1 : (decide (7 < 13) && decide (1 < 2) && decide (2 = zNf 7) && !(zTy 7 1).isReference) = true := by decide
theorem fp_7_1 : (decide (7 < 13) && decide (1 < 2) && decide (2 = zNf 7) && !(zTy 7 1).isReference && !(zTb 7 1).2.2.2) = true := by decide
theorem fr_8_0 : (decide (8 < 13) && decide (0 < 6) && decide (6 = zNf 8) && (zTy 8 0).isReference) = true := by decide
theorem fr_8_1 : (decide (8 < 13) && decide (1 < 6) && decide (6 = zNf 8) && (zTy 8 1).isReference) = true := by decide
theorem fr_8_2 : (decide (8 < 13) && decide (2 < 6) && decide (6 = zNf 8) && (zTy 8 2).isReference) = true := by decide
theorem fi_8_3 : (decide (8 < 13) && decide (3 < 6) && decide (6 = zNf 8) && !(zTy 8 3).isReference) = true := by decide
theorem fp_8_3 : (decide (8 < 13) && decide (3 < 6) && decide (6 = zNf 8) && !(zTy 8 3).isReference && !(zTb 8 3).2.2.2) = true := by decide
theorem fi_8_4 : (decide (8 < 13) && decide (4 < 6) && decide (6 = zNf 8) && !(zTy 8 4).isReference) = true := by decide
theorem fp_8_4 : (decide (8 < 13) && decide (4 < 6) && decide (6 = zNf 8) && !(zTy 8 4).isReference && !(zTb 8 4).2.2.2) = true := by decide
theorem fi_8_5 : (decide (8 < 13) && decide (5 < 6) && decide (6 = zNf 8) && !(zTy 8 5).isReference) = true := by decide
theorem fp_8_5 : (decide (8 < 13) && decide (5 < 6) && decide (6 = zNf 8) && !(zTy 8 5).isReference && !(zTb 8 5).2.2.2) = true := by decide
theorem fr_9_0 : (decide (9 < 13) && decide (0 < 7) && decide (7 = zNf 9) && (zTy 9 0).isReference) = true := by decide
theorem fr_9_1 : (decide (9 < 13) && decide (1 < 7) && decide (7 = zNf 9) && (zTy 9 1).isReference) = true := by decide
theorem fi_9_2 : (decide (9 < 13) && decide (2 < 7) && decide (7 = zNf 9) && !(zTy 9 2).isReference) = true := by decide
theorem fp_9_2 : (decide (9 < 13) && decide (2 < 7) && decide (7 = zNf 9) && !(zTy 9 2).isReference && !(zTb 9 2).2.2.2) = true := by decide
theorem fi_9_3 : (decide (9 < 13) && decide (3 < 7) && decide (7 = zNf 9) && !(zTy 9 3).isReference) = true := by decide
theorem fp_9_3 : (decide (9 < 13) && decide (3 < 7) && decide (7 = zNf 9) && !(zTy 9 3).isReference && !(zTb 9 3).2.2.2) = true := by decide
theorem fi_9_4 : (decide (9 < 13) && decide (4 < 7) && decide (7 = zNf 9) && !(zTy 9 4).isReference) = true := by decide
theorem fp_9_4 : (decide (9 < 13) && decide (4 < 7) && decide (7 = zNf 9) && !(zTy 9 4).isReference && !(zTb 9 4).2.2.2) = true := by decide
theorem fi_9_5 : (decide (9 < 13) && decide (5 < 7) && decide (7 = zNf 9) && !(zTy 9 5).isReference) = true := by decide
theorem fp_9_5 : (decide (9 < 13) && decide (5 < 7) && decide (7 = zNf 9) && !(zTy 9 5).isReference && !(zTb 9 5).2.2.2) = true := by decide
theorem fi_9_6 : (decide (9 < 13) && decide (6 < 7) && decide (7 = zNf 9) && !(zTy 9 6).isReference) = true := by decide
theorem fp_9_6 : (decide (9 < 13) && decide (6 < 7) && decide (7 = zNf 9) && !(zTy 9 6).isReference && !(zTb 9 6).2.2.2) = true := by decide
theorem fr_10_0 : (decide (10 < 13) && decide (0 < 5) && decide (5 = zNf 10) && (zTy 10 0).isReference) = true := by decide
theorem fr_10_1 : (decide (10 < 13) && decide (1 < 5) && decide (5 = zNf 10) && (zTy 10 1).isReference) = true := by decide
theorem fr_10_2 : (decide (10 < 13) && decide (2 < 5) && decide (5 = zNf 10) && (zTy 10 2).isReference) = true := by decide
theorem fr_10_3 : (decide (10 < 13) && decide (3 < 5) && decide (5 = zNf 10) && (zTy 10 3).isReference) = true := by decide
theorem fi_10_4 : (decide (10 < 13) && decide (4 < 5) && decide (5 = zNf 10) && !(zTy 10 4).isReference) = true := by decide
theorem fp_10_4 : (decide (10 < 13) && decide (4 < 5) && decide (5 = zNf 10) && !(zTy 10 4).isReference && !(zTb 10 4).2.2.2) = true := by decide
theorem fr_11_0 : (decide (11 < 13) && decide (0 < 13) && decide (13 = zNf 11) && (zTy 11 0).isReference) = true := by decide
theorem fr_11_1 : (decide (11 < 13) && decide (1 < 13) && decide (13 = zNf 11) && (zTy 11 1).isReference) = true := by decide
theorem fr_11_2 : (decide (11 < 13) && decide (2 < 13) && decide (13 = zNf 11) && (zTy 11 2).isReference) = true := by decide
theorem fr_11_3 : (decide (11 < 13) && decide (3 < 13) && decide (13 = zNf 11) && (zTy 11 3).isReference) = true := by decide
theorem fr_11_4 : (decide (11 < 13) && decide (4 < 13) && decide (13 = zNf 11) && (zTy 11 4).isReference) = true := by decide
theorem fr_11_5 : (decide (11 < 13) && decide (5 < 13) && decide (13 = zNf 11) && (zTy 11 5).isReference) = true := by decide
theorem fr_11_6 : (decide (11 < 13) && decide (6 < 13) && decide (13 = zNf 11) && (zTy 11 6).isReference) = true := by decide
theorem fr_11_7 : (decide (11 < 13) && decide (7 < 13) && decide (13 = zNf 11) && (zTy 11 7).isReference) = true := by decide
theorem fr_11_8 : (decide (11 < 13) && decide (8 < 13) && decide (13 = zNf 11) && (zTy 11 8).isReference) = true := by decide
theorem fr_11_9 : (decide (11 < 13) && decide (9 < 13) && decide (13 = zNf 11) && (zTy 11 9).isReference) = true := by decide
theorem fr_11_10 : (decide (11 < 13) && decide (10 < 13) && decide (13 = zNf 11) && (zTy 11 10).isReference) = true := by decide
theorem fr_11_11 : (decide (11 < 13) && decide (11 < 13) && decide (13 = zNf 11) && (zTy 11 11).isReference) = true := by decide
theorem fr_11_12 : (decide (11 < 13) && decide (12 < 13) && decide (13 = zNf 11) && (zTy 11 12).isReference) = true := by decide
theorem fr_12_0 : (decide (12 < 13) && decide (0 < 34) && decide (34 = zNf 12) && (zTy 12 0).isReference) = true := by decide
theorem fi_12_1 : (decide (12 < 13) && decide (1 < 34) && decide (34 = zNf 12) && !(zTy 12 1).isReference) = true := by decide
theorem fp_12_1 : (decide (12 < 13) && decide (1 < 34) && decide (34 = zNf 12) && !(zTy 12 1).isReference && !(zTb 12 1).2.2.2) = true := by decide
theorem fr_12_2 : (decide (12 < 13) && decide (2 < 34) && decide (34 = zNf 12) && (zTy 12 2).isReference) = true := by decide
theorem fr_12_3 : (decide (12 < 13) && decide (3 < 34) && decide (34 = zNf 12) && (zTy 12 3).isReference) = true := by decide
theorem fr_12_4 : (decide (12 < 13) && decide (4 < 34) && decide (34 = zNf 12) && (zTy 12 4).isReference) = true := by decide
theorem fr_12_5 : (decide (12 < 13) && decide (5 < 34) && decide (34 = zNf 12) && (zTy 12 5).isReference) = true := by decide
theorem fr_12_6 : (decide (12 < 13) && decide (6 < 34) && decide (34 = zNf 12) && (zTy 12 6).isReference) = true := by decide
theorem fr_12_7 : (decide (12 < 13) && decide (7 < 34) && decide (34 = zNf 12) && (zTy 12 7).isReference) = true := by decide
theorem fr_12_8 : (decide (12 < 13) && decide (8 < 34) && decide (34 = zNf 12) && (zTy 12 8).isReference) = true := by decide
theorem fr_12_9 : (decide (12 < 13) && decide (9 < 34) && decide (34 = zNf 12) && (zTy 12 9).isReference) = true := by decide
theorem fr_12_10 : (decide (12 < 13) && decide (10 < 34) && decide (34 = zNf 12) && (zTy 12 10).isReference) = true := by decide
theorem fr_12_11 : (decide (12 < 13) && decide (11 < 34) && decide (34 = zNf 12) && (zTy 12 11).isReference) = true := by decide
theorem fr_12_12 : (decide (12 < 13) && decide (12 < 34) && decide (34 = zNf 12) && (zTy 12 12).isReference) = true := by decide
theorem fi_12_13 : (decide (12 < 13) && decide (13 < 34) && decide (34 = zNf 12) && !(zTy 12 13).isReference) = true := by decide
theorem fp_12_13 : (decide (12 < 13) && decide (13 < 34) && decide (34 = zNf 12) && !(zTy 12 13).isReference && !(zTb 12 13).2.2.2) = true := by decide
theorem fi_12_14 : (decide (12 < 13) && decide (14 < 34) && decide (34 = zNf 12) && !(zTy 12 14).isReference) = true := by decide
theorem fp_12_14 : (decide (12 < 13) && decide (14 < 34) && decide (34 = zNf 12) && !(zTy 12 14).isReference && !(zTb 12 14).2.2.2) = true := by decide
theorem fi_12_15 : (decide (12 < 13) && decide (15 < 34) && decide (34 = zNf 12) && !(zTy 12 15).isReference) = true := by decide
theorem fp_12_15 : (decide (12 < 13) && decide (15 < 34) && decide (34 = zNf 12) && !(zTy 12 15).isReference && !(zTb 12 15).2.2.2) = true := by decide
theorem fi_12_16 : (decide (12 < 13) && decide (16 < 34) && decide (34 = zNf 12) && !(zTy 12 16).isReference) = true := by decide
theorem fp_12_16 : (decide (12 < 13) && decide (16 < 34) && decide (34 = zNf 12) && !(zTy 12 16).isReference && !(zTb 12 16).2.2.2) = true := by decide
theorem fr_12_17 : (decide (12 < 13) && decide (17 < 34) && decide (34 = zNf 12) && (zTy 12 17).isReference) = true := by decide
theorem fi_12_18 : (decide (12 < 13) && decide (18 < 34) && decide (34 = zNf 12) && !(zTy 12 18).isReference) = true := by decide
theorem fp_12_18 : (decide (12 < 13) && decide (18 < 34) && decide (34 = zNf 12) && !(zTy 12 18).isReference && !(zTb 12 18).2.2.2) = true := by decide
theorem fi_12_19 : (decide (12 < 13) && decide (19 < 34) && decide (34 = zNf 12) && !(zTy 12 19).isReference) = true := by decide
theorem fp_12_19 : (decide (12 < 13) && decide (19 < 34) && decide (34 = zNf 12) && !(zTy 12 19).isReference && !(zTb 12 19).2.2.2) = true := by decide
theorem fr_12_20 : (decide (12 < 13) && decide (20 < 34) && decide (34 = zNf 12) && (zTy 12 20).isReference) = true := by decide
theorem fr_12_21 : (decide (12 < 13) && decide (21 < 34) && decide (34 = zNf 12) && (zTy 12 21).isReference) = true := by decide
theorem fr_12_22 : (decide (12 < 13) && decide (22 < 34) && decide (34 = zNf 12) && (zTy 12 22).isReference) = true := by decide
theorem fi_12_23 : (decide (12 < 13) && decide (23 < 34) && decide (34 = zNf 12) && !(zTy 12 23).isReference) = true := by decide
theorem fp_12_23 : (decide (12 < 13) && decide (23 < 34) && decide (34 = zNf 12) && !(zTy 12 23).isReference && !(zTb 12 23).2.2.2) = true := by decide
theorem fi_12_24 : (decide (12 < 13) && decide (24 < 34) && decide (34 = zNf 12) && !(zTy 12 24).isReference) = true := by decide
theorem fp_12_24 : (decide (12 < 13) && decide (24 < 34) && decide (34 = zNf 12) && !(zTy 12 24).isReference && !(zTb 12 24).2.2.2) = true := by decide
theorem fi_12_25 : (decide (12 < 13) && decide (25 < 34) && decide (34 = zNf 12) && !(zTy 12 25).isReference) = true := by decide
theorem fp_12_25 : (decide (12 < 13) && decide (25 < 34) && decide (34 = zNf 12) && !(zTy 12 25).isReference && !(zTb 12 25).2.2.2) = true := by decide
theorem fi_12_26 : (decide (12 < 13) && decide (26 < 34) && decide (34 = zNf 12) && !(zTy 12 26).isReference) = true := by decide
theorem fp_12_26 : (decide (12 < 13) && decide (26 < 34) && decide (34 = zNf 12) && !(zTy 12 26).isReference && !(zTb 12 26).2.2.2) = true := by decide
theorem fi_12_27 : (decide (12 < 13) && decide (27 < 34) && decide (34 = zNf 12) && !(zTy 12 27).isReference) = true := by decide
theorem fp_12_27 : (decide (12 < 13) && decide (27 < 34) && decide (34 = zNf 12) && !(zTy 12 27).isReference && !(zTb 12 27).2.2.2) = true := by decide
theorem fr_12_28 : (decide (12 < 13) && decide (28 < 34) && decide (34 = zNf 12) && (zTy 12 28).isReference) = true := by decide
theorem fr_12_29 : (decide (12 < 13) && decide (29 < 34) && decide (34 = zNf 12) && (zTy 12 29).isReference) = true := by decide
theorem fr_12_30 : (decide (12 < 13) && decide (30 < 34) && decide (34 = zNf 12) && (zTy 12 30).isReference) = true := by decide
theorem fr_12_31 : (decide (12 < 13) && decide (31 < 34) && decide (34 = zNf 12) && (zTy 12 31).isReference) = true := by decide
theorem fr_12_32 : (decide (12 < 13) && decide (32 < 34) && decide (34 = zNf 12) && (zTy 12 32).isReference) = true := by decide
theorem fi_12_33 : (decide (12 < 13) && decide (33 < 34) && decide (34 = zNf 12) && !(zTy 12 33).isReference) = true := by decide
theorem fp_12_33 : (decide (12 < 13) && decide (33 < 34) && decide (34 = zNf 12) && !(zTy 12 33).isReference && !(zTb 12 33).2.2.2) = true := by decide
/-! the judgement with a postcondition -/
def ZP (l : Launch) (D : va_G) (M : ZM) (pc : Nat) (L : List (Option Value)) (S : List Value) (I : AI) (F : AR) (Post : Option Int32 → AI → AR → Prop) : Prop := ∃ (v : Option Int32) (I' : AI) (F' : AR), ZR l D M pc L S I F SH v I' F' SH ∧ Post v I' F'
section PRows
variable {l : Launch} {D : va_G} {M : ZM} {pc : Nat} {L : List (Option Value)} {S : List Value} {I : AI} {F : AR} {Post : Option Int32 → AI → AR → Prop}
/-- a truth as an int -/
def zb (b : Bool) : Int32 := if b = true then 1 else 0
theorem zret_b (b : Bool) : zRet (some .boolean) (some (zb b)) := Or.inr ⟨.boolean, rfl, by cases b <;> rfl⟩
theorem zret_i (x : Int32) : zRet (some .int) (some x) := Or.inl rfl
theorem zret_v : zRet none none := rfl
theorem P_iret {x : Int32} (hd : decode M.2.1 pc = .ok (.ireturn, 1)) (h : Post (some x) I F) : ZP l D M pc L [.int x] I F Post := ⟨_, _, _, R_iret hd, h⟩
theorem P_ret (hd : decode M.2.1 pc = .ok (.return_, 1)) (h : Post none I F) : ZP l D M pc L [] I F Post := ⟨_, _, _, R_ret hd, h⟩
theorem P_top {x y : Int32} (h : x = y) (k : ZP l D M pc L (.int y :: S) I F Post) : ZP l D M pc L (.int x :: S) I F Post := h ▸ k
theorem P_mem {J : AI} (h : I = J) (k : ZP l D M pc L S J F Post) : ZP l D M pc L S I F Post := h ▸ k

theorem P_iadd {x y : Int32} (hd : decode M.2.1 pc = .ok (.iadd, 1))  (k : ZP l D M (pc + 1) L (.int (x + y) :: S) I F Post) : ZP l D M (pc) L (.int y :: .int x :: S) I F Post := by
  obtain ⟨v9, I9, F9, h9, hp9⟩ := k
  exact ⟨v9, I9, F9, R_iadd hd h9, hp9⟩
theorem P_isub {x y : Int32} (hd : decode M.2.1 pc = .ok (.isub, 1))  (k : ZP l D M (pc + 1) L (.int (x - y) :: S) I F Post) : ZP l D M (pc) L (.int y :: .int x :: S) I F Post := by
  obtain ⟨v9, I9, F9, h9, hp9⟩ := k
  exact ⟨v9, I9, F9, R_isub hd h9, hp9⟩
theorem P_imul {x y : Int32} (hd : decode M.2.1 pc = .ok (.imul, 1))  (k : ZP l D M (pc + 1) L (.int (x * y) :: S) I F Post) : ZP l D M (pc) L (.int y :: .int x :: S) I F Post := by
  obtain ⟨v9, I9, F9, h9, hp9⟩ := k
  exact ⟨v9, I9, F9, R_imul hd h9, hp9⟩
theorem P_iand {x y : Int32} (hd : decode M.2.1 pc = .ok (.iand, 1))  (k : ZP l D M (pc + 1) L (.int (x &&& y) :: S) I F Post) : ZP l D M (pc) L (.int y :: .int x :: S) I F Post := by
  obtain ⟨v9, I9, F9, h9, hp9⟩ := k
  exact ⟨v9, I9, F9, R_iand hd h9, hp9⟩
theorem P_ior {x y : Int32} (hd : decode M.2.1 pc = .ok (.ior, 1))  (k : ZP l D M (pc + 1) L (.int (x ||| y) :: S) I F Post) : ZP l D M (pc) L (.int y :: .int x :: S) I F Post := by
  obtain ⟨v9, I9, F9, h9, hp9⟩ := k
  exact ⟨v9, I9, F9, R_ior hd h9, hp9⟩
theorem P_ishl {x y : Int32} (hd : decode M.2.1 pc = .ok (.ishl, 1))  (k : ZP l D M (pc + 1) L (.int (x <<< (y &&& 31)) :: S) I F Post) : ZP l D M (pc) L (.int y :: .int x :: S) I F Post := by
  obtain ⟨v9, I9, F9, h9, hp9⟩ := k
  exact ⟨v9, I9, F9, R_ishl hd h9, hp9⟩
theorem P_ishr {x y : Int32} (hd : decode M.2.1 pc = .ok (.ishr, 1))  (k : ZP l D M (pc + 1) L (.int (x >>> (y &&& 31)) :: S) I F Post) : ZP l D M (pc) L (.int y :: .int x :: S) I F Post := by
  obtain ⟨v9, I9, F9, h9, hp9⟩ := k
  exact ⟨v9, I9, F9, R_ishr hd h9, hp9⟩
theorem P_idiv {x y : Int32} (hd : decode M.2.1 pc = .ok (.idiv, 1)) (hne : ¬ y = 0) (k : ZP l D M (pc + 1) L (.int (x / y) :: S) I F Post) : ZP l D M (pc) L (.int y :: .int x :: S) I F Post := by
  obtain ⟨v9, I9, F9, h9, hp9⟩ := k
  exact ⟨v9, I9, F9, R_idiv hd hne h9, hp9⟩
theorem P_irem {x y : Int32} (hd : decode M.2.1 pc = .ok (.irem, 1)) (hne : ¬ y = 0) (k : ZP l D M (pc + 1) L (.int (x - x / y * y) :: S) I F Post) : ZP l D M (pc) L (.int y :: .int x :: S) I F Post := by
  obtain ⟨v9, I9, F9, h9, hp9⟩ := k
  exact ⟨v9, I9, F9, R_irem hd hne h9, hp9⟩
theorem P_ladd {x y : Int64} (hd : decode M.2.1 pc = .ok (.ladd, 1))  (k : ZP l D M (pc + 1) L (.long (x + y) :: S) I F Post) : ZP l D M (pc) L (.long y :: .long x :: S) I F Post := by
  obtain ⟨v9, I9, F9, h9, hp9⟩ := k
  exact ⟨v9, I9, F9, R_ladd hd h9, hp9⟩
theorem P_lmul {x y : Int64} (hd : decode M.2.1 pc = .ok (.lmul, 1))  (k : ZP l D M (pc + 1) L (.long (x * y) :: S) I F Post) : ZP l D M (pc) L (.long y :: .long x :: S) I F Post := by
  obtain ⟨v9, I9, F9, h9, hp9⟩ := k
  exact ⟨v9, I9, F9, R_lmul hd h9, hp9⟩
theorem P_lrem {x y : Int64} (hd : decode M.2.1 pc = .ok (.lrem, 1)) (hne : ¬ y = 0) (k : ZP l D M (pc + 1) L (.long (x - x / y * y) :: S) I F Post) : ZP l D M (pc) L (.long y :: .long x :: S) I F Post := by
  obtain ⟨v9, I9, F9, h9, hp9⟩ := k
  exact ⟨v9, I9, F9, R_lrem hd hne h9, hp9⟩
theorem P_i2l {x : Int32} (hd : decode M.2.1 pc = .ok (.i2l, 1))  (k : ZP l D M (pc + 1) L (.long x.toInt64 :: S) I F Post) : ZP l D M (pc) L (.int x :: S) I F Post := by
  obtain ⟨v9, I9, F9, h9, hp9⟩ := k
  exact ⟨v9, I9, F9, R_i2l hd h9, hp9⟩
theorem P_l2i {x : Int64} (hd : decode M.2.1 pc = .ok (.l2i, 1))  (k : ZP l D M (pc + 1) L (.int x.toInt32 :: S) I F Post) : ZP l D M (pc) L (.long x :: S) I F Post := by
  obtain ⟨v9, I9, F9, h9, hp9⟩ := k
  exact ⟨v9, I9, F9, R_l2i hd h9, hp9⟩
theorem P_i2b {x : Int32} (hd : decode M.2.1 pc = .ok (.i2b, 1))  (k : ZP l D M (pc + 1) L (.int x.toInt8.toInt32 :: S) I F Post) : ZP l D M (pc) L (.int x :: S) I F Post := by
  obtain ⟨v9, I9, F9, h9, hp9⟩ := k
  exact ⟨v9, I9, F9, R_i2b hd h9, hp9⟩
theorem P_i2c {x : Int32} (hd : decode M.2.1 pc = .ok (.i2c, 1))  (k : ZP l D M (pc + 1) L (.int (x.toUInt32 % 65536).toInt32 :: S) I F Post) : ZP l D M (pc) L (.int x :: S) I F Post := by
  obtain ⟨v9, I9, F9, h9, hp9⟩ := k
  exact ⟨v9, I9, F9, R_i2c hd h9, hp9⟩
theorem P_dup {a : Value} (hd : decode M.2.1 pc = .ok (.dup, 1)) (ha : a.category = 1) (k : ZP l D M (pc + 1) L (a :: a :: S) I F Post) : ZP l D M (pc) L (a :: S) I F Post := by
  obtain ⟨v9, I9, F9, h9, hp9⟩ := k
  exact ⟨v9, I9, F9, R_dup hd ha h9, hp9⟩
theorem P_pop {a : Value} (hd : decode M.2.1 pc = .ok (.pop, 1)) (ha : a.category = 1) (k : ZP l D M (pc + 1) L (S) I F Post) : ZP l D M (pc) L (a :: S) I F Post := by
  obtain ⟨v9, I9, F9, h9, hp9⟩ := k
  exact ⟨v9, I9, F9, R_pop hd ha h9, hp9⟩
theorem P_dup2 {a b : Value} (hd : decode M.2.1 pc = .ok (.dup2, 1)) (ha : a.category = 1) (hb : b.category = 1) (k : ZP l D M (pc + 1) L (a :: b :: a :: b :: S) I F Post) : ZP l D M (pc) L (a :: b :: S) I F Post := by
  obtain ⟨v9, I9, F9, h9, hp9⟩ := k
  exact ⟨v9, I9, F9, R_dup2 hd ha hb h9, hp9⟩
theorem P_dup2l {a : Value} (hd : decode M.2.1 pc = .ok (.dup2, 1)) (ha : a.category = 2) (k : ZP l D M (pc + 1) L (a :: a :: S) I F Post) : ZP l D M (pc) L (a :: S) I F Post := by
  obtain ⟨v9, I9, F9, h9, hp9⟩ := k
  exact ⟨v9, I9, F9, R_dup2l hd ha h9, hp9⟩
theorem P_iconst {n : Int} {x : Int32} (hd : decode M.2.1 pc = .ok (.iconst n, 1)) (hv : Int32.ofInt n = x) (k : ZP l D M (pc + 1) L (.int x :: S) I F Post) : ZP l D M (pc) L (S) I F Post := by
  obtain ⟨v9, I9, F9, h9, hp9⟩ := k
  exact ⟨v9, I9, F9, R_iconst hd hv h9, hp9⟩
theorem P_bipush {n : Int} {x : Int32} (hd : decode M.2.1 pc = .ok (.bipush n, 2)) (hv : (Int8.ofInt n).toInt32 = x) (k : ZP l D M (pc + 2) L (.int x :: S) I F Post) : ZP l D M (pc) L (S) I F Post := by
  obtain ⟨v9, I9, F9, h9, hp9⟩ := k
  exact ⟨v9, I9, F9, R_bipush hd hv h9, hp9⟩
theorem P_sipush {n : Int} {x : Int32} (hd : decode M.2.1 pc = .ok (.sipush n, 3)) (hv : (Int16.ofInt n).toInt32 = x) (k : ZP l D M (pc + 3) L (.int x :: S) I F Post) : ZP l D M (pc) L (S) I F Post := by
  obtain ⟨v9, I9, F9, h9, hp9⟩ := k
  exact ⟨v9, I9, F9, R_sipush hd hv h9, hp9⟩
theorem P_lconst {n : Fin 2} {x : Int64} (hd : decode M.2.1 pc = .ok (.lconst n, 1)) (hv : Int64.ofNat (n : Nat) = x) (k : ZP l D M (pc + 1) L (.long x :: S) I F Post) : ZP l D M (pc) L (S) I F Post := by
  obtain ⟨v9, I9, F9, h9, hp9⟩ := k
  exact ⟨v9, I9, F9, R_lconst hd hv h9, hp9⟩
theorem P_ldc2 {n : Nat} {x : Int64} (hd : decode M.2.1 pc = .ok (.ldc2_w n, 3)) (hv : Cond.constantLong M.1.cls n x ∈ zT) (k : ZP l D M (pc + 3) L (.long x :: S) I F Post) : ZP l D M (pc) L (S) I F Post := by
  obtain ⟨v9, I9, F9, h9, hp9⟩ := k
  exact ⟨v9, I9, F9, R_ldc2 hd hv h9, hp9⟩
theorem P_iload_n {n : Fin 4} {x : Int32} (hd : decode M.2.1 pc = .ok (.iload_n n, 1)) (hL : L[(n : Nat)]? = some (some (.int x))) (k : ZP l D M (pc + 1) L (.int x :: S) I F Post) : ZP l D M (pc) L (S) I F Post := by
  obtain ⟨v9, I9, F9, h9, hp9⟩ := k
  exact ⟨v9, I9, F9, R_iload_n hd hL h9, hp9⟩
theorem P_iload {n : Nat} {x : Int32} (hd : decode M.2.1 pc = .ok (.iload n, 2)) (hL : L[n]? = some (some (.int x))) (k : ZP l D M (pc + 2) L (.int x :: S) I F Post) : ZP l D M (pc) L (S) I F Post := by
  obtain ⟨v9, I9, F9, h9, hp9⟩ := k
  exact ⟨v9, I9, F9, R_iload hd hL h9, hp9⟩
theorem P_lload_n {n : Fin 4} {x : Int64} (hd : decode M.2.1 pc = .ok (.lload_n n, 1)) (hL : L[(n : Nat)]? = some (some (.long x))) (k : ZP l D M (pc + 1) L (.long x :: S) I F Post) : ZP l D M (pc) L (S) I F Post := by
  obtain ⟨v9, I9, F9, h9, hp9⟩ := k
  exact ⟨v9, I9, F9, R_lload_n hd hL h9, hp9⟩
theorem P_lload {n : Nat} {x : Int64} (hd : decode M.2.1 pc = .ok (.lload n, 2)) (hL : L[n]? = some (some (.long x))) (k : ZP l D M (pc + 2) L (.long x :: S) I F Post) : ZP l D M (pc) L (S) I F Post := by
  obtain ⟨v9, I9, F9, h9, hp9⟩ := k
  exact ⟨v9, I9, F9, R_lload hd hL h9, hp9⟩
theorem P_aload_n {n : Fin 4} {x : Nat} (hd : decode M.2.1 pc = .ok (.aload_n n, 1)) (hL : L[(n : Nat)]? = some (some (.ref x))) (k : ZP l D M (pc + 1) L (.ref x :: S) I F Post) : ZP l D M (pc) L (S) I F Post := by
  obtain ⟨v9, I9, F9, h9, hp9⟩ := k
  exact ⟨v9, I9, F9, R_aload_n hd hL h9, hp9⟩
theorem P_aload {n : Nat} {x : Nat} (hd : decode M.2.1 pc = .ok (.aload n, 2)) (hL : L[n]? = some (some (.ref x))) (k : ZP l D M (pc + 2) L (.ref x :: S) I F Post) : ZP l D M (pc) L (S) I F Post := by
  obtain ⟨v9, I9, F9, h9, hp9⟩ := k
  exact ⟨v9, I9, F9, R_aload hd hL h9, hp9⟩
theorem P_istore_n {n : Fin 4} {x : Int32} (hd : decode M.2.1 pc = .ok (.istore_n n, 1)) (hn : (n : Nat) < M.2.2.1) (hg : zlong L (n : Nat) = false) (k : ZP l D M (pc + 1) (L.set (n : Nat) (some (.int x))) (S) I F Post) : ZP l D M (pc) L (.int x :: S) I F Post := by
  obtain ⟨v9, I9, F9, h9, hp9⟩ := k
  exact ⟨v9, I9, F9, R_istore_n hd hn hg h9, hp9⟩
theorem P_istore {n : Nat} {x : Int32} (hd : decode M.2.1 pc = .ok (.istore n, 2)) (hn : n < M.2.2.1) (hg : zlong L n = false) (k : ZP l D M (pc + 2) (L.set n (some (.int x))) (S) I F Post) : ZP l D M (pc) L (.int x :: S) I F Post := by
  obtain ⟨v9, I9, F9, h9, hp9⟩ := k
  exact ⟨v9, I9, F9, R_istore hd hn hg h9, hp9⟩
theorem P_astore_n {n : Fin 4} {x : Nat} (hd : decode M.2.1 pc = .ok (.astore_n n, 1)) (hn : (n : Nat) < M.2.2.1) (hg : zlong L (n : Nat) = false) (k : ZP l D M (pc + 1) (L.set (n : Nat) (some (.ref x))) (S) I F Post) : ZP l D M (pc) L (.ref x :: S) I F Post := by
  obtain ⟨v9, I9, F9, h9, hp9⟩ := k
  exact ⟨v9, I9, F9, R_astore_n hd hn hg h9, hp9⟩
theorem P_astore {n : Nat} {x : Nat} (hd : decode M.2.1 pc = .ok (.astore n, 2)) (hn : n < M.2.2.1) (hg : zlong L n = false) (k : ZP l D M (pc + 2) (L.set n (some (.ref x))) (S) I F Post) : ZP l D M (pc) L (.ref x :: S) I F Post := by
  obtain ⟨v9, I9, F9, h9, hp9⟩ := k
  exact ⟨v9, I9, F9, R_astore hd hn hg h9, hp9⟩
theorem P_lstore_n {n : Fin 4} {x : Int64} (hd : decode M.2.1 pc = .ok (.lstore_n n, 1)) (hn : (n : Nat) + 1 < M.2.2.1) (hg : zlong L (n : Nat) = false) (k : ZP l D M (pc + 1) ((L.set (n : Nat) (some (.long x))).set ((n : Nat) + 1) none) (S) I F Post) : ZP l D M (pc) L (.long x :: S) I F Post := by
  obtain ⟨v9, I9, F9, h9, hp9⟩ := k
  exact ⟨v9, I9, F9, R_lstore_n hd hn hg h9, hp9⟩
theorem P_lstore {n : Nat} {x : Int64} (hd : decode M.2.1 pc = .ok (.lstore n, 2)) (hn : n + 1 < M.2.2.1) (hg : zlong L n = false) (k : ZP l D M (pc + 2) ((L.set n (some (.long x))).set (n + 1) none) (S) I F Post) : ZP l D M (pc) L (.long x :: S) I F Post := by
  obtain ⟨v9, I9, F9, h9, hp9⟩ := k
  exact ⟨v9, I9, F9, R_lstore hd hn hg h9, hp9⟩
theorem P_iinc {i : Nat} {n : Int} {x y : Int32} (hd : decode M.2.1 pc = .ok (.iinc i n, 3)) (hL : L[i]? = some (some (.int x))) (hv : x + Int32.ofInt n = y) (hn : i < M.2.2.1) (hg : zlong L i = false) (k : ZP l D M (pc + 3) (L.set i (some (.int y))) (S) I F Post) : ZP l D M (pc) L (S) I F Post := by
  obtain ⟨v9, I9, F9, h9, hp9⟩ := k
  exact ⟨v9, I9, F9, R_iinc hd hL hv hn hg h9, hp9⟩
theorem P_goto {off : Int} {tgt : Nat} (hd : decode M.2.1 pc = .ok (.goto off, 3)) (ht : (pc : Int) + off = (tgt : Int)) (k : ZP l D M (tgt) L (S) I F Post) : ZP l D M (pc) L (S) I F Post := by
  obtain ⟨v9, I9, F9, h9, hp9⟩ := k
  exact ⟨v9, I9, F9, R_goto hd ht h9, hp9⟩
theorem P_icmp_eq {x y : Int32} {off : Int} {tgt : Nat} (hd : decode M.2.1 pc = .ok (.if_icmp .eq off, 3)) (ht : (pc : Int) + off = (tgt : Int)) (kt : x = y → ZP l D M (tgt) L (S) I F Post) (kf : ¬ x = y → ZP l D M (pc + 3) L (S) I F Post) : ZP l D M (pc) L (.int y :: .int x :: S) I F Post := by
  by_cases hcc : x = y
  · obtain ⟨v9, I9, F9, h9, hp9⟩ := kt hcc
    exact ⟨v9, I9, F9, R_icmp_eq hd ht (fun _ => h9) (fun z => by first | exact absurd hcc z | exact absurd z hcc), hp9⟩
  · obtain ⟨v9, I9, F9, h9, hp9⟩ := kf (by first | exact hcc | simpa using hcc)
    exact ⟨v9, I9, F9, R_icmp_eq hd ht (fun z => absurd z hcc) (fun _ => h9), hp9⟩
theorem P_if_eq {x : Int32} {off : Int} {tgt : Nat} (hd : decode M.2.1 pc = .ok (.ifCond .eq off, 3)) (ht : (pc : Int) + off = (tgt : Int)) (kt : x = 0 → ZP l D M (tgt) L (S) I F Post) (kf : ¬ x = 0 → ZP l D M (pc + 3) L (S) I F Post) : ZP l D M (pc) L (.int x :: S) I F Post := by
  by_cases hcc : x = 0
  · obtain ⟨v9, I9, F9, h9, hp9⟩ := kt hcc
    exact ⟨v9, I9, F9, R_if_eq hd ht (fun _ => h9) (fun z => by first | exact absurd hcc z | exact absurd z hcc), hp9⟩
  · obtain ⟨v9, I9, F9, h9, hp9⟩ := kf (by first | exact hcc | simpa using hcc)
    exact ⟨v9, I9, F9, R_if_eq hd ht (fun z => absurd z hcc) (fun _ => h9), hp9⟩
theorem P_icmp_ne {x y : Int32} {off : Int} {tgt : Nat} (hd : decode M.2.1 pc = .ok (.if_icmp .ne off, 3)) (ht : (pc : Int) + off = (tgt : Int)) (kt : ¬ x = y → ZP l D M (tgt) L (S) I F Post) (kf : x = y → ZP l D M (pc + 3) L (S) I F Post) : ZP l D M (pc) L (.int y :: .int x :: S) I F Post := by
  by_cases hcc : ¬ x = y
  · obtain ⟨v9, I9, F9, h9, hp9⟩ := kt hcc
    exact ⟨v9, I9, F9, R_icmp_ne hd ht (fun _ => h9) (fun z => by first | exact absurd hcc z | exact absurd z hcc), hp9⟩
  · obtain ⟨v9, I9, F9, h9, hp9⟩ := kf (by first | exact hcc | simpa using hcc)
    exact ⟨v9, I9, F9, R_icmp_ne hd ht (fun z => absurd z hcc) (fun _ => h9), hp9⟩
theorem P_if_ne {x : Int32} {off : Int} {tgt : Nat} (hd : decode M.2.1 pc = .ok (.ifCond .ne off, 3)) (ht : (pc : Int) + off = (tgt : Int)) (kt : ¬ x = 0 → ZP l D M (tgt) L (S) I F Post) (kf : x = 0 → ZP l D M (pc + 3) L (S) I F Post) : ZP l D M (pc) L (.int x :: S) I F Post := by
  by_cases hcc : ¬ x = 0
  · obtain ⟨v9, I9, F9, h9, hp9⟩ := kt hcc
    exact ⟨v9, I9, F9, R_if_ne hd ht (fun _ => h9) (fun z => by first | exact absurd hcc z | exact absurd z hcc), hp9⟩
  · obtain ⟨v9, I9, F9, h9, hp9⟩ := kf (by first | exact hcc | simpa using hcc)
    exact ⟨v9, I9, F9, R_if_ne hd ht (fun z => absurd z hcc) (fun _ => h9), hp9⟩
theorem P_icmp_lt {x y : Int32} {off : Int} {tgt : Nat} (hd : decode M.2.1 pc = .ok (.if_icmp .lt off, 3)) (ht : (pc : Int) + off = (tgt : Int)) (kt : x < y → ZP l D M (tgt) L (S) I F Post) (kf : ¬ x < y → ZP l D M (pc + 3) L (S) I F Post) : ZP l D M (pc) L (.int y :: .int x :: S) I F Post := by
  by_cases hcc : x < y
  · obtain ⟨v9, I9, F9, h9, hp9⟩ := kt hcc
    exact ⟨v9, I9, F9, R_icmp_lt hd ht (fun _ => h9) (fun z => by first | exact absurd hcc z | exact absurd z hcc), hp9⟩
  · obtain ⟨v9, I9, F9, h9, hp9⟩ := kf (by first | exact hcc | simpa using hcc)
    exact ⟨v9, I9, F9, R_icmp_lt hd ht (fun z => absurd z hcc) (fun _ => h9), hp9⟩
theorem P_if_lt {x : Int32} {off : Int} {tgt : Nat} (hd : decode M.2.1 pc = .ok (.ifCond .lt off, 3)) (ht : (pc : Int) + off = (tgt : Int)) (kt : x < 0 → ZP l D M (tgt) L (S) I F Post) (kf : ¬ x < 0 → ZP l D M (pc + 3) L (S) I F Post) : ZP l D M (pc) L (.int x :: S) I F Post := by
  by_cases hcc : x < 0
  · obtain ⟨v9, I9, F9, h9, hp9⟩ := kt hcc
    exact ⟨v9, I9, F9, R_if_lt hd ht (fun _ => h9) (fun z => by first | exact absurd hcc z | exact absurd z hcc), hp9⟩
  · obtain ⟨v9, I9, F9, h9, hp9⟩ := kf (by first | exact hcc | simpa using hcc)
    exact ⟨v9, I9, F9, R_if_lt hd ht (fun z => absurd z hcc) (fun _ => h9), hp9⟩
theorem P_icmp_ge {x y : Int32} {off : Int} {tgt : Nat} (hd : decode M.2.1 pc = .ok (.if_icmp .ge off, 3)) (ht : (pc : Int) + off = (tgt : Int)) (kt : y ≤ x → ZP l D M (tgt) L (S) I F Post) (kf : ¬ y ≤ x → ZP l D M (pc + 3) L (S) I F Post) : ZP l D M (pc) L (.int y :: .int x :: S) I F Post := by
  by_cases hcc : y ≤ x
  · obtain ⟨v9, I9, F9, h9, hp9⟩ := kt hcc
    exact ⟨v9, I9, F9, R_icmp_ge hd ht (fun _ => h9) (fun z => by first | exact absurd hcc z | exact absurd z hcc), hp9⟩
  · obtain ⟨v9, I9, F9, h9, hp9⟩ := kf (by first | exact hcc | simpa using hcc)
    exact ⟨v9, I9, F9, R_icmp_ge hd ht (fun z => absurd z hcc) (fun _ => h9), hp9⟩
theorem P_if_ge {x : Int32} {off : Int} {tgt : Nat} (hd : decode M.2.1 pc = .ok (.ifCond .ge off, 3)) (ht : (pc : Int) + off = (tgt : Int)) (kt : 0 ≤ x → ZP l D M (tgt) L (S) I F Post) (kf : ¬ 0 ≤ x → ZP l D M (pc + 3) L (S) I F Post) : ZP l D M (pc) L (.int x :: S) I F Post := by
  by_cases hcc : 0 ≤ x
  · obtain ⟨v9, I9, F9, h9, hp9⟩ := kt hcc
    exact ⟨v9, I9, F9, R_if_ge hd ht (fun _ => h9) (fun z => by first | exact absurd hcc z | exact absurd z hcc), hp9⟩
  · obtain ⟨v9, I9, F9, h9, hp9⟩ := kf (by first | exact hcc | simpa using hcc)
    exact ⟨v9, I9, F9, R_if_ge hd ht (fun z => absurd z hcc) (fun _ => h9), hp9⟩
theorem P_icmp_gt {x y : Int32} {off : Int} {tgt : Nat} (hd : decode M.2.1 pc = .ok (.if_icmp .gt off, 3)) (ht : (pc : Int) + off = (tgt : Int)) (kt : y < x → ZP l D M (tgt) L (S) I F Post) (kf : ¬ y < x → ZP l D M (pc + 3) L (S) I F Post) : ZP l D M (pc) L (.int y :: .int x :: S) I F Post := by
  by_cases hcc : y < x
  · obtain ⟨v9, I9, F9, h9, hp9⟩ := kt hcc
    exact ⟨v9, I9, F9, R_icmp_gt hd ht (fun _ => h9) (fun z => by first | exact absurd hcc z | exact absurd z hcc), hp9⟩
  · obtain ⟨v9, I9, F9, h9, hp9⟩ := kf (by first | exact hcc | simpa using hcc)
    exact ⟨v9, I9, F9, R_icmp_gt hd ht (fun z => absurd z hcc) (fun _ => h9), hp9⟩
theorem P_if_gt {x : Int32} {off : Int} {tgt : Nat} (hd : decode M.2.1 pc = .ok (.ifCond .gt off, 3)) (ht : (pc : Int) + off = (tgt : Int)) (kt : 0 < x → ZP l D M (tgt) L (S) I F Post) (kf : ¬ 0 < x → ZP l D M (pc + 3) L (S) I F Post) : ZP l D M (pc) L (.int x :: S) I F Post := by
  by_cases hcc : 0 < x
  · obtain ⟨v9, I9, F9, h9, hp9⟩ := kt hcc
    exact ⟨v9, I9, F9, R_if_gt hd ht (fun _ => h9) (fun z => by first | exact absurd hcc z | exact absurd z hcc), hp9⟩
  · obtain ⟨v9, I9, F9, h9, hp9⟩ := kf (by first | exact hcc | simpa using hcc)
    exact ⟨v9, I9, F9, R_if_gt hd ht (fun z => absurd z hcc) (fun _ => h9), hp9⟩
theorem P_icmp_le {x y : Int32} {off : Int} {tgt : Nat} (hd : decode M.2.1 pc = .ok (.if_icmp .le off, 3)) (ht : (pc : Int) + off = (tgt : Int)) (kt : x ≤ y → ZP l D M (tgt) L (S) I F Post) (kf : ¬ x ≤ y → ZP l D M (pc + 3) L (S) I F Post) : ZP l D M (pc) L (.int y :: .int x :: S) I F Post := by
  by_cases hcc : x ≤ y
  · obtain ⟨v9, I9, F9, h9, hp9⟩ := kt hcc
    exact ⟨v9, I9, F9, R_icmp_le hd ht (fun _ => h9) (fun z => by first | exact absurd hcc z | exact absurd z hcc), hp9⟩
  · obtain ⟨v9, I9, F9, h9, hp9⟩ := kf (by first | exact hcc | simpa using hcc)
    exact ⟨v9, I9, F9, R_icmp_le hd ht (fun z => absurd z hcc) (fun _ => h9), hp9⟩
theorem P_if_le {x : Int32} {off : Int} {tgt : Nat} (hd : decode M.2.1 pc = .ok (.ifCond .le off, 3)) (ht : (pc : Int) + off = (tgt : Int)) (kt : x ≤ 0 → ZP l D M (tgt) L (S) I F Post) (kf : ¬ x ≤ 0 → ZP l D M (pc + 3) L (S) I F Post) : ZP l D M (pc) L (.int x :: S) I F Post := by
  by_cases hcc : x ≤ 0
  · obtain ⟨v9, I9, F9, h9, hp9⟩ := kt hcc
    exact ⟨v9, I9, F9, R_if_le hd ht (fun _ => h9) (fun z => by first | exact absurd hcc z | exact absurd z hcc), hp9⟩
  · obtain ⟨v9, I9, F9, h9, hp9⟩ := kf (by first | exact hcc | simpa using hcc)
    exact ⟨v9, I9, F9, R_if_le hd ht (fun z => absurd z hcc) (fun _ => h9), hp9⟩
theorem P_lookup {dflt : Int} {ps : Array (Int × Int)} {len : Nat} {x : Int32} {off : Int} {tgt : Nat} (hd : decode M.2.1 pc = .ok (.lookupswitch dflt ps, len)) (hp : (ps.toList.zip (ps.toList.drop 1)).all (fun (a, next) => a.1 < next.1) = true) (ho : Op.lookupswitch.offset ps.toList dflt x.toInt = off) (ht : (pc : Int) + off = (tgt : Int)) (k : ZP l D M (tgt) L (S) I F Post) : ZP l D M (pc) L (.int x :: S) I F Post := by
  obtain ⟨v9, I9, F9, h9, hp9⟩ := k
  exact ⟨v9, I9, F9, R_lookup hd hp ho ht h9, hp9⟩
theorem P_tableOut {dflt lo hi : Int} {offs : Array Int} {len : Nat} {x : Int32} {tgt : Nat} (hd : decode M.2.1 pc = .ok (.tableswitch dflt lo hi offs, len)) (h : x.toInt < lo ∨ hi < x.toInt) (ht : (pc : Int) + dflt = (tgt : Int)) (k : ZP l D M (tgt) L (S) I F Post) : ZP l D M (pc) L (.int x :: S) I F Post := by
  obtain ⟨v9, I9, F9, h9, hp9⟩ := k
  exact ⟨v9, I9, F9, R_tableOut hd h ht h9, hp9⟩
theorem P_tableIn {dflt lo hi : Int} {offs : Array Int} {len : Nat} {x : Int32} {off : Int} {tgt : Nat} (hd : decode M.2.1 pc = .ok (.tableswitch dflt lo hi offs, len)) (h1 : ¬ x.toInt < lo) (h2 : ¬ hi < x.toInt) (ho : offs[(x.toInt - lo).toNat]? = some off) (ht : (pc : Int) + off = (tgt : Int)) (k : ZP l D M (tgt) L (S) I F Post) : ZP l D M (pc) L (.int x :: S) I F Post := by
  obtain ⟨v9, I9, F9, h9, hp9⟩ := k
  exact ⟨v9, I9, F9, R_tableIn hd h1 h2 ho ht h9, hp9⟩
theorem P_geti {idx a : Nat} (c k : Nat) {n : Nat} {x : Int32} (hd : decode M.2.1 pc = .ok (.getfield idx, 3)) (hf : zFl M.1.cls idx c k) (hs : SH[a]? = some (c, n)) (hc : (decide (c < 13) && decide (k < n) && decide (n = zNf c) && !(zTy c k).isReference) = true) (hx : I a k = x) (kk : ZP l D M (pc + 3) L (.int x :: S) I F Post) : ZP l D M pc L (.ref a :: S) I F Post := by
  obtain ⟨v9, I9, F9, h9, hp9⟩ := kk
  exact ⟨v9, I9, F9, R_geti c k hd hf hs hc hx h9, hp9⟩
theorem P_getr {idx a : Nat} (c k : Nat) {n b : Nat} (hd : decode M.2.1 pc = .ok (.getfield idx, 3)) (hf : zFl M.1.cls idx c k) (hs : SH[a]? = some (c, n)) (hc : (decide (c < 13) && decide (k < n) && decide (n = zNf c) && (zTy c k).isReference) = true) (hx : F a k = some b) (kk : ZP l D M (pc + 3) L (.ref b :: S) I F Post) : ZP l D M pc L (.ref a :: S) I F Post := by
  obtain ⟨v9, I9, F9, h9, hp9⟩ := kk
  exact ⟨v9, I9, F9, R_getr c k hd hf hs hc hx h9, hp9⟩
theorem P_puti {idx a : Nat} (c k : Nat) {n : Nat} {x : Int32} (hd : decode M.2.1 pc = .ok (.putfield idx, 3)) (hf : zFl M.1.cls idx c k) (hs : SH[a]? = some (c, n)) (hc : (decide (c < 13) && decide (k < n) && decide (n = zNf c) && !(zTy c k).isReference && !(zTb c k).2.2.2) = true) (hn : narrow (zTy c k) (.int x) = .int x) (hfit : fits (zTy c k) (.int x) = true) (kk : ZP l D M (pc + 3) L S (zu I a k x) F Post) : ZP l D M pc L (.int x :: .ref a :: S) I F Post := by
  obtain ⟨v9, I9, F9, h9, hp9⟩ := kk
  exact ⟨v9, I9, F9, R_puti c k hd hf hs hc hn hfit h9, hp9⟩
theorem P_iald {a n : Nat} {i : Int32} {x : Int32} (j : Nat) (hd : decode M.2.1 pc = .ok (.iaload, 1)) (hs : SH[a]? = some (15, n)) (hi : i = nI j) (hj : j < n) (hn : n < 2 ^ 31) (hx : I a j = x) (kk : ZP l D M (pc + 1) L (.int x :: S) I F Post) : ZP l D M pc L (.int i :: .ref a :: S) I F Post := by
  obtain ⟨v9, I9, F9, h9, hp9⟩ := kk
  exact ⟨v9, I9, F9, R_iald j hd hs hi hj hn hx h9, hp9⟩
theorem P_bald {a n : Nat} {i : Int32} {x : Int32} (j : Nat) (hd : decode M.2.1 pc = .ok (.baload, 1)) (hs : SH[a]? = some (13, n)) (hi : i = nI j) (hj : j < n) (hn : n < 2 ^ 31) (hx : I a j = x) (kk : ZP l D M (pc + 1) L (.int x :: S) I F Post) : ZP l D M pc L (.int i :: .ref a :: S) I F Post := by
  obtain ⟨v9, I9, F9, h9, hp9⟩ := kk
  exact ⟨v9, I9, F9, R_bald j hd hs hi hj hn hx h9, hp9⟩
theorem P_zald {a n : Nat} {i : Int32} {x : Int32} (j : Nat) (hd : decode M.2.1 pc = .ok (.baload, 1)) (hs : SH[a]? = some (16, n)) (hi : i = nI j) (hj : j < n) (hn : n < 2 ^ 31) (hx : I a j = x) (kk : ZP l D M (pc + 1) L (.int x :: S) I F Post) : ZP l D M pc L (.int i :: .ref a :: S) I F Post := by
  obtain ⟨v9, I9, F9, h9, hp9⟩ := kk
  exact ⟨v9, I9, F9, R_zald j hd hs hi hj hn hx h9, hp9⟩
theorem P_cald {a n : Nat} {i : Int32} {x : Int32} (j : Nat) (hd : decode M.2.1 pc = .ok (.caload, 1)) (hs : SH[a]? = some (14, n)) (hi : i = nI j) (hj : j < n) (hn : n < 2 ^ 31) (hx : I a j = x) (kk : ZP l D M (pc + 1) L (.int x :: S) I F Post) : ZP l D M pc L (.int i :: .ref a :: S) I F Post := by
  obtain ⟨v9, I9, F9, h9, hp9⟩ := kk
  exact ⟨v9, I9, F9, R_cald j hd hs hi hj hn hx h9, hp9⟩
theorem P_iast {a n : Nat} {i : Int32} {x : Int32} (j : Nat) (hd : decode M.2.1 pc = .ok (.iastore, 1)) (hs : SH[a]? = some (15, n)) (hi : i = nI j) (hj : j < n) (hn : n < 2 ^ 31) (kk : ZP l D M (pc + 1) L S (zu I a j x) F Post) : ZP l D M pc L (.int x :: .int i :: .ref a :: S) I F Post := by
  obtain ⟨v9, I9, F9, h9, hp9⟩ := kk
  exact ⟨v9, I9, F9, R_iast j hd hs hi hj hn h9, hp9⟩
theorem P_bast {a n : Nat} {i : Int32} {x : Int32} (j : Nat) (hd : decode M.2.1 pc = .ok (.bastore, 1)) (hs : SH[a]? = some (13, n)) (hi : i = nI j) (hj : j < n) (hn : n < 2 ^ 31) (kk : ZP l D M (pc + 1) L S (zu I a j (vp_nar .byte x)) F Post) : ZP l D M pc L (.int x :: .int i :: .ref a :: S) I F Post := by
  obtain ⟨v9, I9, F9, h9, hp9⟩ := kk
  exact ⟨v9, I9, F9, R_bast j hd hs hi hj hn h9, hp9⟩
theorem P_zast {a n : Nat} {i : Int32} {x : Int32} (j : Nat) (hd : decode M.2.1 pc = .ok (.bastore, 1)) (hs : SH[a]? = some (16, n)) (hi : i = nI j) (hj : j < n) (hn : n < 2 ^ 31) (kk : ZP l D M (pc + 1) L S (zu I a j (vp_nar .boolean x)) F Post) : ZP l D M pc L (.int x :: .int i :: .ref a :: S) I F Post := by
  obtain ⟨v9, I9, F9, h9, hp9⟩ := kk
  exact ⟨v9, I9, F9, R_zast j hd hs hi hj hn h9, hp9⟩
theorem P_cast {a n : Nat} {i : Int32} {x : Int32} (j : Nat) (hd : decode M.2.1 pc = .ok (.castore, 1)) (hs : SH[a]? = some (14, n)) (hi : i = nI j) (hj : j < n) (hn : n < 2 ^ 31) (kk : ZP l D M (pc + 1) L S (zu I a j (vp_nar .char x)) F Post) : ZP l D M pc L (.int x :: .int i :: .ref a :: S) I F Post := by
  obtain ⟨v9, I9, F9, h9, hp9⟩ := kk
  exact ⟨v9, I9, F9, R_cast j hd hs hi hj hn h9, hp9⟩
theorem P_alen {a k n : Nat} {x : Int32} (hd : decode M.2.1 pc = .ok (.arraylength, 1)) (hs : SH[a]? = some (k, n)) (h1 : 13 ≤ k) (h2 : k < 17) (hx : nI n = x) (kk : ZP l D M (pc + 1) L (.int x :: S) I F Post) : ZP l D M pc L (.ref a :: S) I F Post := by
  obtain ⟨v9, I9, F9, h9, hp9⟩ := kk
  exact ⟨v9, I9, F9, R_alen hd hs h1 h2 hx h9, hp9⟩
theorem P_aald {a k n b : Nat} {i : Int32} (j : Nat) (hd : decode M.2.1 pc = .ok (.aaload, 1)) (hs : SH[a]? = some (k, n)) (hk : (k == 17 || k == 18) = true) (hi : i = nI j) (hj : j < n) (hn : n < 2 ^ 31) (hx : F a j = some b) (kk : ZP l D M (pc + 1) L (.ref b :: S) I F Post) : ZP l D M pc L (.int i :: .ref a :: S) I F Post := by
  obtain ⟨v9, I9, F9, h9, hp9⟩ := kk
  exact ⟨v9, I9, F9, R_aald j hd hs hk hi hj hn hx h9, hp9⟩
theorem P_copyi {a0 a1 n0 n1 idx : Nat} {sp dp n : Int32} (j : Nat) (hd : decode M.2.1 pc = .ok (.invokestatic idx, 3)) (hl0 : Cond.methodLink M.1.cls idx arraycopyName ∈ zT) (hnat : Cond.native arraycopyName ∈ zT) (hst : Cond.static arraycopyName ∈ zT) (hin : Cond.initialized "java/lang/System" ∈ zT) (hs0 : SH[a0]? = some (15, n0)) (hs1 : SH[a1]? = some (15, n1)) (hsp : sp = 0) (hdp : dp = 0) (hn : n = nI j) (hj0 : j ≤ n0) (hj1 : j ≤ n1) (hj : j < 2 ^ 31) (hf : 1 ≤ M.2.2.2.2.1) (hlo : (S.map fun v => v.category).sum + (nativeFrameWords "java/lang/System" "arraycopy" 5 + 11) ≤ M.2.2.2.2.2.1) (kk : ZP l D M (pc + 3) L S (va_up I a1 (va_cpy (I a0) (I a1) 0 0 j)) F Post) : ZP l D M pc L (.int n :: .int dp :: .ref a1 :: .int sp :: .ref a0 :: S) I F Post := by
  obtain ⟨v9, I9, F9, h9, hp9⟩ := kk
  exact ⟨v9, I9, F9, R_copyi j hd hl0 hnat hst hin hs0 hs1 hsp hdp hn hj0 hj1 hj hf hlo h9, hp9⟩
theorem P_iaddN {a b : Nat} (hd : decode M.2.1 pc = .ok (.iadd, 1)) (k : ZP l D M (pc + 1) L (.int (nI (a + b)) :: S) I F Post) : ZP l D M pc L (.int (nI b) :: .int (nI a) :: S) I F Post := P_iadd hd (by rw [nI_add]; exact k)
theorem P_imulN {a b : Nat} (hd : decode M.2.1 pc = .ok (.imul, 1)) (k : ZP l D M (pc + 1) L (.int (nI (a * b)) :: S) I F Post) : ZP l D M pc L (.int (nI b) :: .int (nI a) :: S) I F Post := P_imul hd (by rw [pk_mul]; exact k)
theorem P_isubN {a b : Nat} (hd : decode M.2.1 pc = .ok (.isub, 1)) (h : b ≤ a) (k : ZP l D M (pc + 1) L (.int (nI (a - b)) :: S) I F Post) : ZP l D M pc L (.int (nI b) :: .int (nI a) :: S) I F Post := P_isub hd (by rw [pk_sub h]; exact k)
theorem P_idivN {a b : Nat} (hd : decode M.2.1 pc = .ok (.idiv, 1)) (ha : a < 2 ^ 31) (h0 : 0 < b) (hb : b < 2 ^ 31) (k : ZP l D M (pc + 1) L (.int (nI (a / b)) :: S) I F Post) : ZP l D M pc L (.int (nI b) :: .int (nI a) :: S) I F Post := P_idiv hd (nI_ne0 h0 hb) (by rw [pk_div ha h0 hb]; exact k)
theorem P_iremN {a b : Nat} (hd : decode M.2.1 pc = .ok (.irem, 1)) (ha : a < 2 ^ 31) (h0 : 0 < b) (hb : b < 2 ^ 31) (k : ZP l D M (pc + 1) L (.int (nI (a % b)) :: S) I F Post) : ZP l D M pc L (.int (nI b) :: .int (nI a) :: S) I F Post := P_irem hd (nI_ne0 h0 hb) (by rw [pk_rem ha h0 hb]; exact k)
theorem P_iincN {i a c : Nat} {n : Int} (hd : decode M.2.1 pc = .ok (.iinc i n, 3)) (hL : L[i]? = some (some (.int (nI a)))) (hv : Int32.ofInt n = nI c) (hn : i < M.2.2.1) (hg : zlong L i = false) (k : ZP l D M (pc + 3) (L.set i (some (.int (nI (a + c))))) (S) I F Post) : ZP l D M pc L (S) I F Post := P_iinc hd hL (by rw [hv, nI_add]) hn hg k
theorem P_icmp_eqN {a b : Nat} {off : Int} {tgt : Nat} (hd : decode M.2.1 pc = .ok (.if_icmp .eq off, 3)) (ht : (pc : Int) + off = (tgt : Int)) (ha : a < 2 ^ 31) (hb : b < 2 ^ 31) (kt : a = b → ZP l D M tgt L (S) I F Post) (kf : ¬ a = b → ZP l D M (pc + 3) L (S) I F Post) : ZP l D M pc L (.int (nI b) :: .int (nI a) :: S) I F Post := by
  have e := nI_eq ha hb
  refine P_icmp_eq hd ht (fun h => kt ?_) (fun h => kf ?_)
  · first | exact e.mp h | exact fun z => h (e.mpr z)
  · first | exact e.mp h | exact fun z => h (e.mpr z) | exact Classical.byContradiction (fun z => h (fun y => z (e.mp y)))
theorem P_icmp_neN {a b : Nat} {off : Int} {tgt : Nat} (hd : decode M.2.1 pc = .ok (.if_icmp .ne off, 3)) (ht : (pc : Int) + off = (tgt : Int)) (ha : a < 2 ^ 31) (hb : b < 2 ^ 31) (kt : ¬ a = b → ZP l D M tgt L (S) I F Post) (kf : a = b → ZP l D M (pc + 3) L (S) I F Post) : ZP l D M pc L (.int (nI b) :: .int (nI a) :: S) I F Post := by
  have e := nI_eq ha hb
  refine P_icmp_ne hd ht (fun h => kt ?_) (fun h => kf ?_)
  · first | exact e.mp h | exact fun z => h (e.mpr z)
  · first | exact e.mp h | exact fun z => h (e.mpr z) | exact Classical.byContradiction (fun z => h (fun y => z (e.mp y)))
theorem P_icmp_ltN {a b : Nat} {off : Int} {tgt : Nat} (hd : decode M.2.1 pc = .ok (.if_icmp .lt off, 3)) (ht : (pc : Int) + off = (tgt : Int)) (ha : a < 2 ^ 31) (hb : b < 2 ^ 31) (kt : a < b → ZP l D M tgt L (S) I F Post) (kf : ¬ a < b → ZP l D M (pc + 3) L (S) I F Post) : ZP l D M pc L (.int (nI b) :: .int (nI a) :: S) I F Post := by
  have e := nI_ltI ha hb
  refine P_icmp_lt hd ht (fun h => kt ?_) (fun h => kf ?_)
  · first | exact e.mp h | exact fun z => h (e.mpr z)
  · first | exact e.mp h | exact fun z => h (e.mpr z) | exact Classical.byContradiction (fun z => h (fun y => z (e.mp y)))
theorem P_icmp_geN {a b : Nat} {off : Int} {tgt : Nat} (hd : decode M.2.1 pc = .ok (.if_icmp .ge off, 3)) (ht : (pc : Int) + off = (tgt : Int)) (ha : a < 2 ^ 31) (hb : b < 2 ^ 31) (kt : b ≤ a → ZP l D M tgt L (S) I F Post) (kf : ¬ b ≤ a → ZP l D M (pc + 3) L (S) I F Post) : ZP l D M pc L (.int (nI b) :: .int (nI a) :: S) I F Post := by
  have e := nI_leI hb ha
  refine P_icmp_ge hd ht (fun h => kt ?_) (fun h => kf ?_)
  · first | exact e.mp h | exact fun z => h (e.mpr z)
  · first | exact e.mp h | exact fun z => h (e.mpr z) | exact Classical.byContradiction (fun z => h (fun y => z (e.mp y)))
theorem P_icmp_gtN {a b : Nat} {off : Int} {tgt : Nat} (hd : decode M.2.1 pc = .ok (.if_icmp .gt off, 3)) (ht : (pc : Int) + off = (tgt : Int)) (ha : a < 2 ^ 31) (hb : b < 2 ^ 31) (kt : b < a → ZP l D M tgt L (S) I F Post) (kf : ¬ b < a → ZP l D M (pc + 3) L (S) I F Post) : ZP l D M pc L (.int (nI b) :: .int (nI a) :: S) I F Post := by
  have e := nI_ltI hb ha
  refine P_icmp_gt hd ht (fun h => kt ?_) (fun h => kf ?_)
  · first | exact e.mp h | exact fun z => h (e.mpr z)
  · first | exact e.mp h | exact fun z => h (e.mpr z) | exact Classical.byContradiction (fun z => h (fun y => z (e.mp y)))
theorem P_icmp_leN {a b : Nat} {off : Int} {tgt : Nat} (hd : decode M.2.1 pc = .ok (.if_icmp .le off, 3)) (ht : (pc : Int) + off = (tgt : Int)) (ha : a < 2 ^ 31) (hb : b < 2 ^ 31) (kt : a ≤ b → ZP l D M tgt L (S) I F Post) (kf : ¬ a ≤ b → ZP l D M (pc + 3) L (S) I F Post) : ZP l D M pc L (.int (nI b) :: .int (nI a) :: S) I F Post := by
  have e := nI_leI ha hb
  refine P_icmp_le hd ht (fun h => kt ?_) (fun h => kf ?_)
  · first | exact e.mp h | exact fun z => h (e.mpr z)
  · first | exact e.mp h | exact fun z => h (e.mpr z) | exact Classical.byContradiction (fun z => h (fun y => z (e.mp y)))
theorem P_if_eqB {b : Bool} {off : Int} {tgt : Nat} (hd : decode M.2.1 pc = .ok (.ifCond .eq off, 3)) (ht : (pc : Int) + off = (tgt : Int)) (kt : b = false → ZP l D M tgt L (S) I F Post) (kf : b = true → ZP l D M (pc + 3) L (S) I F Post) : ZP l D M pc L (.int (zb b) :: S) I F Post := by
  refine P_if_eq hd ht (fun h => kt ?_) (fun h => kf ?_)
  · cases b
    · rfl
    · exact absurd h (by decide)
  · cases b
    · exact absurd rfl h
    · rfl
theorem P_if_neB {b : Bool} {off : Int} {tgt : Nat} (hd : decode M.2.1 pc = .ok (.ifCond .ne off, 3)) (ht : (pc : Int) + off = (tgt : Int)) (kt : b = true → ZP l D M tgt L (S) I F Post) (kf : b = false → ZP l D M (pc + 3) L (S) I F Post) : ZP l D M pc L (.int (zb b) :: S) I F Post := by
  refine P_if_ne hd ht (fun h => kt ?_) (fun h => kf ?_)
  · cases b
    · exact absurd rfl h
    · rfl
  · cases b
    · rfl
    · first | exact absurd h (by decide) | exact absurd (Classical.byContradiction h) (by decide)
theorem P_putr {idx a : Nat} (c k : Nat) {n b : Nat} (hd : decode M.2.1 pc = .ok (.putfield idx, 3)) (hf : zFl M.1.cls idx c k) (hs : SH[a]? = some (c, n)) (hc : (decide (c < 13) && decide (k < n) && decide (n = zNf c) && (zTy c k).isReference) = true) (hfin : (zTb c k).2.2.2 = false) (hb : b < SH.length) (hn : ∀ q : Nat, narrow (zTy c k) (.ref q) = .ref q) (hfit : ∀ q : Nat, fits (zTy c k) (.ref q) = true) (kk : ZP l D M (pc + 3) L S I (zuR F a k (some b)) Post) : ZP l D M pc L (.ref b :: .ref a :: S) I F Post := by
  obtain ⟨v9, I9, F9, h9, hp9⟩ := kk
  exact ⟨v9, I9, F9, R_putr c k hd hf hs hc (Or.inl hfin) hb hn hfit h9, hp9⟩
theorem P_callV {N : ZM} {idx n b k kn : Nat} {As : List Value} {J : AI} {G : AR} {u : Option Int32} (hN : ZR l D N 0 (zent N.2.2.1 (.ref b :: As)) [] I F SH u J G SH) (hd : decode M.2.1 pc = .ok (.invokevirtual idx, 3)) (ho : zOk N n) (hm : zMl M.1.cls idx N.1) (hi : Cond.instanceMethod N.1 ∈ zT ∧ Cond.selects N.1.cls N.1 N.1 ∈ zT) (hrm : zRm M N) (hret : zRet N.2.2.2.1 u) (hcat : (As.all fun a => a.category == 1) = true) (hlen : As.length = n ∧ n + 1 ≤ N.2.2.1) (hb : SH[b]? = some (k, kn)) (hk : k < 13 ∧ zRn k = N.1.cls) (hst : (S.map fun v => v.category).sum ≤ 8) (kk : ZP l D M (pc + 3) L (u.toList.map Value.int ++ S) J G Post) : ZP l D M pc L (As.reverse ++ .ref b :: S) I F Post := by
  obtain ⟨v, I', F', h, hp⟩ := kk
  exact ⟨v, I', F', R_callV hN hd ho hm hi hrm hret hcat hlen hb hk hst zNew.rf h, hp⟩
theorem P_callS {N : ZM} {idx n : Nat} {As : List Value} {J : AI} {G : AR} {u : Option Int32} (hN : ZR l D N 0 (zent N.2.2.1 As) [] I F SH u J G SH) (hd : decode M.2.1 pc = .ok (.invokestatic idx, 3)) (ho : zOk N n) (hm : zMl M.1.cls idx N.1) (hi : Cond.static N.1 ∈ zT) (hrm : zRm M N) (hret : zRet N.2.2.2.1 u) (hcat : (As.all fun a => a.category == 1) = true) (hlen : As.length = n ∧ n ≤ N.2.2.1) (hst : (S.map fun v => v.category).sum ≤ 8) (kk : ZP l D M (pc + 3) L (u.toList.map Value.int ++ S) J G Post) : ZP l D M pc L (As.reverse ++ S) I F Post := by
  obtain ⟨v, I', F', h, hp⟩ := kk
  exact ⟨v, I', F', R_callS hN hd ho hm hi hrm hret hcat hlen hst zNew.rf h, hp⟩
/-- by a measure that falls -/
theorem z_meas {σ : Type} (μ : σ → Nat) (P : σ → Prop) (h : ∀ s, (∀ s', μ s' < μ s → P s') → P s) (s : σ) : P s := by
  have : ∀ n s, μ s < n → P s := by
    intro n
    induction n with
    | zero => intro s hs; omega
    | succ n ih => intro s hs; exact h s (fun s' h' => ih s' (by omega))
  exact this (μ s + 1) s (by omega)
end PRows
