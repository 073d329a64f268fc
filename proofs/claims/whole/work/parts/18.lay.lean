def SH : List (Nat × Nat) := [(9, 17), (6, 2), (11, 1600), (8, 17), (11, 8), (11, 8), (11, 8), (11, 8), (11, 8), (11, 91), (11, 91), (5, 2), (11, 0), (5, 2), (11, 0), (8, 17), (11, 8), (11, 8), (11, 8), (11, 8), (11, 8), (11, 91), (11, 91), (5, 2), (11, 0), (5, 2), (11, 0), (4, 13), (5, 2), (11, 1600), (7, 3), (12, 1601), (1, 11), (11, 8), (11, 91), (11, 91), (11, 60), (1, 11), (11, 8), (11, 91), (11, 91), (11, 60), (2, 3), (14, 20), (0, 14), (11, 34), (11, 64), (11, 8), (11, 8), (3, 2), (11, 146), (11, 8), (11, 8), (11, 8), (11, 6), (10, 108), (11, 1600), (11, 6), (13, 4), (13, 6), (13, 4), (13, 4), (13, 4), (13, 2), (13, 7), (13, 5), (13, 3), (13, 6), (13, 5), (13, 5), (13, 6), (13, 3), (13, 4), (13, 3), (13, 5), (13, 5), (13, 6), (13, 4), (13, 5), (13, 2), (13, 3), (13, 3), (13, 3), (13, 3), (13, 3), (11, 10), (12, 16), (11, 16), (11, 16), (11, 16), (11, 91), (11, 16), (11, 4), (11, 4), (11, 4), (11, 3200), (11, 443), (11, 443), (11, 8), (11, 8), (11, 16), (11, 8), (11, 8860), (13, 5), (13, 4), (13, 5), (13, 5), (13, 4), (13, 5), (13, 3), (13, 3), (13, 2), (13, 3), (13, 3), (13, 3), (13, 3), (13, 4), (13, 3), (13, 4), (13, 5), (13, 4), (13, 5), (13, 5), (13, 6), (13, 4), (13, 6), (13, 5), (11, 1700), (11, 1700), (12, 1700), (11, 146)]
def RT : List (Nat × Nat × Nat) := [(1, 0, 2), (0, 0, 1), (3, 8, 4), (3, 9, 5), (3, 10, 6), (3, 11, 7), (3, 12, 8), (3, 13, 9), (3, 14, 10), (3, 15, 11), (3, 16, 13), (15, 8, 16), (15, 9, 17), (15, 10, 18), (15, 11, 19), (15, 12, 20), (15, 13, 21), (15, 14, 22), (15, 15, 23), (15, 16, 25), (28, 0, 29), (27, 1, 28), (30, 1, 31), (30, 0, 1), (27, 0, 30), (0, 1, 27), (32, 5, 33), (32, 6, 34), (32, 7, 35), (32, 8, 36), (0, 4, 32), (37, 5, 38), (37, 6, 39), (37, 7, 40), (37, 8, 41), (0, 5, 37), (42, 0, 43), (0, 6, 42), (44, 10, 45), (44, 11, 46), (44, 12, 47), (44, 13, 48), (0, 7, 44), (49, 0, 50), (0, 8, 49), (0, 9, 51), (0, 10, 52), (0, 12, 53), (0, 13, 54), (55, 0, 56), (55, 9, 57), (55, 11, 58), (55, 12, 59), (55, 13, 60), (55, 14, 61), (55, 15, 62), (55, 16, 63), (55, 17, 64), (55, 18, 65), (55, 19, 66), (55, 20, 67), (55, 21, 68), (55, 22, 69), (55, 23, 70), (55, 24, 71), (55, 25, 72), (55, 26, 73), (55, 27, 74), (55, 28, 75), (55, 29, 76), (55, 30, 77), (55, 31, 78), (55, 32, 79), (55, 33, 80), (55, 34, 81), (55, 35, 82), (55, 36, 83), (55, 37, 84), (55, 39, 85), (55, 40, 86), (55, 41, 87), (55, 42, 88), (55, 43, 89), (55, 44, 90), (55, 45, 91), (55, 46, 92), (55, 47, 93), (55, 48, 94), (55, 49, 95), (55, 54, 96), (55, 55, 97), (55, 63, 98), (55, 64, 99), (55, 66, 100), (55, 67, 101), (55, 68, 102), (55, 72, 103), (55, 73, 104), (55, 74, 105), (55, 75, 106), (55, 76, 107), (55, 77, 108), (55, 78, 109), (55, 79, 110), (55, 80, 111), (55, 81, 112), (55, 82, 113), (55, 83, 114), (55, 84, 115), (55, 85, 116), (55, 86, 117), (55, 87, 118), (55, 88, 119), (55, 89, 120), (55, 90, 121), (55, 91, 122), (55, 92, 123), (55, 93, 124), (55, 94, 125), (55, 95, 126), (55, 96, 127), (55, 98, 128), (55, 102, 129), (55, 106, 130)]
/-- the cells that are made at the start, where they lie, and the references among them that never change -/
def lay (σ : am_H) : Prop := (∀ k, k < 131 → σ.1[k]? = SH[k]?) ∧ (∀ (i : Nat) (q : Nat × Nat × Nat), RT[i]? = some q → σ.2.2 q.1 q.2.1 = some q.2.2)
theorem Ls_0 {σ : am_H} (h : lay σ) : σ.1[0]? = some (9, 17) := h.1 0 (by decide)
theorem Ls_1 {σ : am_H} (h : lay σ) : σ.1[1]? = some (6, 2) := h.1 1 (by decide)
theorem Ls_2 {σ : am_H} (h : lay σ) : σ.1[2]? = some (11, 1600) := h.1 2 (by decide)
theorem Ls_3 {σ : am_H} (h : lay σ) : σ.1[3]? = some (8, 17) := h.1 3 (by decide)
theorem Ls_4 {σ : am_H} (h : lay σ) : σ.1[4]? = some (11, 8) := h.1 4 (by decide)
theorem Ls_5 {σ : am_H} (h : lay σ) : σ.1[5]? = some (11, 8) := h.1 5 (by decide)
theorem Ls_6 {σ : am_H} (h : lay σ) : σ.1[6]? = some (11, 8) := h.1 6 (by decide)
theorem Ls_7 {σ : am_H} (h : lay σ) : σ.1[7]? = some (11, 8) := h.1 7 (by decide)
theorem Ls_8 {σ : am_H} (h : lay σ) : σ.1[8]? = some (11, 8) := h.1 8 (by decide)
theorem Ls_9 {σ : am_H} (h : lay σ) : σ.1[9]? = some (11, 91) := h.1 9 (by decide)
theorem Ls_10 {σ : am_H} (h : lay σ) : σ.1[10]? = some (11, 91) := h.1 10 (by decide)
theorem Ls_11 {σ : am_H} (h : lay σ) : σ.1[11]? = some (5, 2) := h.1 11 (by decide)
theorem Ls_12 {σ : am_H} (h : lay σ) : σ.1[12]? = some (11, 0) := h.1 12 (by decide)
theorem Ls_13 {σ : am_H} (h : lay σ) : σ.1[13]? = some (5, 2) := h.1 13 (by decide)
theorem Ls_14 {σ : am_H} (h : lay σ) : σ.1[14]? = some (11, 0) := h.1 14 (by decide)
theorem Ls_15 {σ : am_H} (h : lay σ) : σ.1[15]? = some (8, 17) := h.1 15 (by decide)
theorem Ls_16 {σ : am_H} (h : lay σ) : σ.1[16]? = some (11, 8) := h.1 16 (by decide)
theorem Ls_17 {σ : am_H} (h : lay σ) : σ.1[17]? = some (11, 8) := h.1 17 (by decide)
theorem Ls_18 {σ : am_H} (h : lay σ) : σ.1[18]? = some (11, 8) := h.1 18 (by decide)
theorem Ls_19 {σ : am_H} (h : lay σ) : σ.1[19]? = some (11, 8) := h.1 19 (by decide)
theorem Ls_20 {σ : am_H} (h : lay σ) : σ.1[20]? = some (11, 8) := h.1 20 (by decide)
theorem Ls_21 {σ : am_H} (h : lay σ) : σ.1[21]? = some (11, 91) := h.1 21 (by decide)
theorem Ls_22 {σ : am_H} (h : lay σ) : σ.1[22]? = some (11, 91) := h.1 22 (by decide)
theorem Ls_23 {σ : am_H} (h : lay σ) : σ.1[23]? = some (5, 2) := h.1 23 (by decide)
theorem Ls_24 {σ : am_H} (h : lay σ) : σ.1[24]? = some (11, 0) := h.1 24 (by decide)
theorem Ls_25 {σ : am_H} (h : lay σ) : σ.1[25]? = some (5, 2) := h.1 25 (by decide)
theorem Ls_26 {σ : am_H} (h : lay σ) : σ.1[26]? = some (11, 0) := h.1 26 (by decide)
theorem Ls_27 {σ : am_H} (h : lay σ) : σ.1[27]? = some (4, 13) := h.1 27 (by decide)
theorem Ls_28 {σ : am_H} (h : lay σ) : σ.1[28]? = some (5, 2) := h.1 28 (by decide)
theorem Ls_29 {σ : am_H} (h : lay σ) : σ.1[29]? = some (11, 1600) := h.1 29 (by decide)
theorem Ls_30 {σ : am_H} (h : lay σ) : σ.1[30]? = some (7, 3) := h.1 30 (by decide)
theorem Ls_31 {σ : am_H} (h : lay σ) : σ.1[31]? = some (12, 1601) := h.1 31 (by decide)
theorem Ls_32 {σ : am_H} (h : lay σ) : σ.1[32]? = some (1, 11) := h.1 32 (by decide)
theorem Ls_33 {σ : am_H} (h : lay σ) : σ.1[33]? = some (11, 8) := h.1 33 (by decide)
theorem Ls_34 {σ : am_H} (h : lay σ) : σ.1[34]? = some (11, 91) := h.1 34 (by decide)
theorem Ls_35 {σ : am_H} (h : lay σ) : σ.1[35]? = some (11, 91) := h.1 35 (by decide)
theorem Ls_36 {σ : am_H} (h : lay σ) : σ.1[36]? = some (11, 60) := h.1 36 (by decide)
theorem Ls_37 {σ : am_H} (h : lay σ) : σ.1[37]? = some (1, 11) := h.1 37 (by decide)
theorem Ls_38 {σ : am_H} (h : lay σ) : σ.1[38]? = some (11, 8) := h.1 38 (by decide)
theorem Ls_39 {σ : am_H} (h : lay σ) : σ.1[39]? = some (11, 91) := h.1 39 (by decide)
theorem Ls_40 {σ : am_H} (h : lay σ) : σ.1[40]? = some (11, 91) := h.1 40 (by decide)
theorem Ls_41 {σ : am_H} (h : lay σ) : σ.1[41]? = some (11, 60) := h.1 41 (by decide)
theorem Ls_42 {σ : am_H} (h : lay σ) : σ.1[42]? = some (2, 3) := h.1 42 (by decide)
theorem Ls_43 {σ : am_H} (h : lay σ) : σ.1[43]? = some (14, 20) := h.1 43 (by decide)
theorem Ls_44 {σ : am_H} (h : lay σ) : σ.1[44]? = some (0, 14) := h.1 44 (by decide)
theorem Ls_45 {σ : am_H} (h : lay σ) : σ.1[45]? = some (11, 34) := h.1 45 (by decide)
theorem Ls_46 {σ : am_H} (h : lay σ) : σ.1[46]? = some (11, 64) := h.1 46 (by decide)
theorem Ls_47 {σ : am_H} (h : lay σ) : σ.1[47]? = some (11, 8) := h.1 47 (by decide)
theorem Ls_48 {σ : am_H} (h : lay σ) : σ.1[48]? = some (11, 8) := h.1 48 (by decide)
theorem Ls_49 {σ : am_H} (h : lay σ) : σ.1[49]? = some (3, 2) := h.1 49 (by decide)
theorem Ls_50 {σ : am_H} (h : lay σ) : σ.1[50]? = some (11, 146) := h.1 50 (by decide)
theorem Ls_51 {σ : am_H} (h : lay σ) : σ.1[51]? = some (11, 8) := h.1 51 (by decide)
theorem Ls_52 {σ : am_H} (h : lay σ) : σ.1[52]? = some (11, 8) := h.1 52 (by decide)
theorem Ls_53 {σ : am_H} (h : lay σ) : σ.1[53]? = some (11, 8) := h.1 53 (by decide)
theorem Ls_54 {σ : am_H} (h : lay σ) : σ.1[54]? = some (11, 6) := h.1 54 (by decide)
theorem Ls_55 {σ : am_H} (h : lay σ) : σ.1[55]? = some (10, 108) := h.1 55 (by decide)
theorem Ls_56 {σ : am_H} (h : lay σ) : σ.1[56]? = some (11, 1600) := h.1 56 (by decide)
theorem Ls_57 {σ : am_H} (h : lay σ) : σ.1[57]? = some (11, 6) := h.1 57 (by decide)
theorem Ls_58 {σ : am_H} (h : lay σ) : σ.1[58]? = some (13, 4) := h.1 58 (by decide)
theorem Ls_59 {σ : am_H} (h : lay σ) : σ.1[59]? = some (13, 6) := h.1 59 (by decide)
theorem Ls_60 {σ : am_H} (h : lay σ) : σ.1[60]? = some (13, 4) := h.1 60 (by decide)
theorem Ls_61 {σ : am_H} (h : lay σ) : σ.1[61]? = some (13, 4) := h.1 61 (by decide)
theorem Ls_62 {σ : am_H} (h : lay σ) : σ.1[62]? = some (13, 4) := h.1 62 (by decide)
theorem Ls_63 {σ : am_H} (h : lay σ) : σ.1[63]? = some (13, 2) := h.1 63 (by decide)
theorem Ls_64 {σ : am_H} (h : lay σ) : σ.1[64]? = some (13, 7) := h.1 64 (by decide)
theorem Ls_65 {σ : am_H} (h : lay σ) : σ.1[65]? = some (13, 5) := h.1 65 (by decide)
theorem Ls_66 {σ : am_H} (h : lay σ) : σ.1[66]? = some (13, 3) := h.1 66 (by decide)
theorem Ls_67 {σ : am_H} (h : lay σ) : σ.1[67]? = some (13, 6) := h.1 67 (by decide)
theorem Ls_68 {σ : am_H} (h : lay σ) : σ.1[68]? = some (13, 5) := h.1 68 (by decide)
theorem Ls_69 {σ : am_H} (h : lay σ) : σ.1[69]? = some (13, 5) := h.1 69 (by decide)
theorem Ls_70 {σ : am_H} (h : lay σ) : σ.1[70]? = some (13, 6) := h.1 70 (by decide)
theorem Ls_71 {σ : am_H} (h : lay σ) : σ.1[71]? = some (13, 3) := h.1 71 (by decide)
theorem Ls_72 {σ : am_H} (h : lay σ) : σ.1[72]? = some (13, 4) := h.1 72 (by decide)
theorem Ls_73 {σ : am_H} (h : lay σ) : σ.1[73]? = some (13, 3) := h.1 73 (by decide)
theorem Ls_74 {σ : am_H} (h : lay σ) : σ.1[74]? = some (13, 5) := h.1 74 (by decide)
theorem Ls_75 {σ : am_H} (h : lay σ) : σ.1[75]? = some (13, 5) := h.1 75 (by decide)
theorem Ls_76 {σ : am_H} (h : lay σ) : σ.1[76]? = some (13, 6) := h.1 76 (by decide)
theorem Ls_77 {σ : am_H} (h : lay σ) : σ.1[77]? = some (13, 4) := h.1 77 (by decide)
theorem Ls_78 {σ : am_H} (h : lay σ) : σ.1[78]? = some (13, 5) := h.1 78 (by decide)
theorem Ls_79 {σ : am_H} (h : lay σ) : σ.1[79]? = some (13, 2) := h.1 79 (by decide)
theorem Ls_80 {σ : am_H} (h : lay σ) : σ.1[80]? = some (13, 3) := h.1 80 (by decide)
theorem Ls_81 {σ : am_H} (h : lay σ) : σ.1[81]? = some (13, 3) := h.1 81 (by decide)
theorem Ls_82 {σ : am_H} (h : lay σ) : σ.1[82]? = some (13, 3) := h.1 82 (by decide)
theorem Ls_83 {σ : am_H} (h : lay σ) : σ.1[83]? = some (13, 3) := h.1 83 (by decide)
theorem Ls_84 {σ : am_H} (h : lay σ) : σ.1[84]? = some (13, 3) := h.1 84 (by decide)
theorem Ls_85 {σ : am_H} (h : lay σ) : σ.1[85]? = some (11, 10) := h.1 85 (by decide)
theorem Ls_86 {σ : am_H} (h : lay σ) : σ.1[86]? = some (12, 16) := h.1 86 (by decide)
theorem Ls_87 {σ : am_H} (h : lay σ) : σ.1[87]? = some (11, 16) := h.1 87 (by decide)
theorem Ls_88 {σ : am_H} (h : lay σ) : σ.1[88]? = some (11, 16) := h.1 88 (by decide)
theorem Ls_89 {σ : am_H} (h : lay σ) : σ.1[89]? = some (11, 16) := h.1 89 (by decide)
theorem Ls_90 {σ : am_H} (h : lay σ) : σ.1[90]? = some (11, 91) := h.1 90 (by decide)
theorem Ls_91 {σ : am_H} (h : lay σ) : σ.1[91]? = some (11, 16) := h.1 91 (by decide)
theorem Ls_92 {σ : am_H} (h : lay σ) : σ.1[92]? = some (11, 4) := h.1 92 (by decide)
theorem Ls_93 {σ : am_H} (h : lay σ) : σ.1[93]? = some (11, 4) := h.1 93 (by decide)
theorem Ls_94 {σ : am_H} (h : lay σ) : σ.1[94]? = some (11, 4) := h.1 94 (by decide)
theorem Ls_95 {σ : am_H} (h : lay σ) : σ.1[95]? = some (11, 3200) := h.1 95 (by decide)
theorem Ls_96 {σ : am_H} (h : lay σ) : σ.1[96]? = some (11, 443) := h.1 96 (by decide)
theorem Ls_97 {σ : am_H} (h : lay σ) : σ.1[97]? = some (11, 443) := h.1 97 (by decide)
theorem Ls_98 {σ : am_H} (h : lay σ) : σ.1[98]? = some (11, 8) := h.1 98 (by decide)
theorem Ls_99 {σ : am_H} (h : lay σ) : σ.1[99]? = some (11, 8) := h.1 99 (by decide)
theorem Ls_100 {σ : am_H} (h : lay σ) : σ.1[100]? = some (11, 16) := h.1 100 (by decide)
theorem Ls_101 {σ : am_H} (h : lay σ) : σ.1[101]? = some (11, 8) := h.1 101 (by decide)
theorem Ls_102 {σ : am_H} (h : lay σ) : σ.1[102]? = some (11, 8860) := h.1 102 (by decide)
theorem Ls_103 {σ : am_H} (h : lay σ) : σ.1[103]? = some (13, 5) := h.1 103 (by decide)
theorem Ls_104 {σ : am_H} (h : lay σ) : σ.1[104]? = some (13, 4) := h.1 104 (by decide)
theorem Ls_105 {σ : am_H} (h : lay σ) : σ.1[105]? = some (13, 5) := h.1 105 (by decide)
theorem Ls_106 {σ : am_H} (h : lay σ) : σ.1[106]? = some (13, 5) := h.1 106 (by decide)
theorem Ls_107 {σ : am_H} (h : lay σ) : σ.1[107]? = some (13, 4) := h.1 107 (by decide)
theorem Ls_108 {σ : am_H} (h : lay σ) : σ.1[108]? = some (13, 5) := h.1 108 (by decide)
theorem Ls_109 {σ : am_H} (h : lay σ) : σ.1[109]? = some (13, 3) := h.1 109 (by decide)
theorem Ls_110 {σ : am_H} (h : lay σ) : σ.1[110]? = some (13, 3) := h.1 110 (by decide)
theorem Ls_111 {σ : am_H} (h : lay σ) : σ.1[111]? = some (13, 2) := h.1 111 (by decide)
theorem Ls_112 {σ : am_H} (h : lay σ) : σ.1[112]? = some (13, 3) := h.1 112 (by decide)
theorem Ls_113 {σ : am_H} (h : lay σ) : σ.1[113]? = some (13, 3) := h.1 113 (by decide)
theorem Ls_114 {σ : am_H} (h : lay σ) : σ.1[114]? = some (13, 3) := h.1 114 (by decide)
theorem Ls_115 {σ : am_H} (h : lay σ) : σ.1[115]? = some (13, 3) := h.1 115 (by decide)
theorem Ls_116 {σ : am_H} (h : lay σ) : σ.1[116]? = some (13, 4) := h.1 116 (by decide)
theorem Ls_117 {σ : am_H} (h : lay σ) : σ.1[117]? = some (13, 3) := h.1 117 (by decide)
theorem Ls_118 {σ : am_H} (h : lay σ) : σ.1[118]? = some (13, 4) := h.1 118 (by decide)
theorem Ls_119 {σ : am_H} (h : lay σ) : σ.1[119]? = some (13, 5) := h.1 119 (by decide)
theorem Ls_120 {σ : am_H} (h : lay σ) : σ.1[120]? = some (13, 4) := h.1 120 (by decide)
theorem Ls_121 {σ : am_H} (h : lay σ) : σ.1[121]? = some (13, 5) := h.1 121 (by decide)
theorem Ls_122 {σ : am_H} (h : lay σ) : σ.1[122]? = some (13, 5) := h.1 122 (by decide)
theorem Ls_123 {σ : am_H} (h : lay σ) : σ.1[123]? = some (13, 6) := h.1 123 (by decide)
theorem Ls_124 {σ : am_H} (h : lay σ) : σ.1[124]? = some (13, 4) := h.1 124 (by decide)
theorem Ls_125 {σ : am_H} (h : lay σ) : σ.1[125]? = some (13, 6) := h.1 125 (by decide)
theorem Ls_126 {σ : am_H} (h : lay σ) : σ.1[126]? = some (13, 5) := h.1 126 (by decide)
theorem Ls_127 {σ : am_H} (h : lay σ) : σ.1[127]? = some (11, 1700) := h.1 127 (by decide)
theorem Ls_128 {σ : am_H} (h : lay σ) : σ.1[128]? = some (11, 1700) := h.1 128 (by decide)
theorem Ls_129 {σ : am_H} (h : lay σ) : σ.1[129]? = some (12, 1700) := h.1 129 (by decide)
theorem Ls_130 {σ : am_H} (h : lay σ) : σ.1[130]? = some (11, 146) := h.1 130 (by decide)
theorem Lr_1_0 {σ : am_H} (h : lay σ) : σ.2.2 1 0 = some 2 := h.2 0 _ rfl
theorem Lr_0_0 {σ : am_H} (h : lay σ) : σ.2.2 0 0 = some 1 := h.2 1 _ rfl
theorem Lr_3_8 {σ : am_H} (h : lay σ) : σ.2.2 3 8 = some 4 := h.2 2 _ rfl
theorem Lr_3_9 {σ : am_H} (h : lay σ) : σ.2.2 3 9 = some 5 := h.2 3 _ rfl
theorem Lr_3_10 {σ : am_H} (h : lay σ) : σ.2.2 3 10 = some 6 := h.2 4 _ rfl
theorem Lr_3_11 {σ : am_H} (h : lay σ) : σ.2.2 3 11 = some 7 := h.2 5 _ rfl
theorem Lr_3_12 {σ : am_H} (h : lay σ) : σ.2.2 3 12 = some 8 := h.2 6 _ rfl
theorem Lr_3_13 {σ : am_H} (h : lay σ) : σ.2.2 3 13 = some 9 := h.2 7 _ rfl
theorem Lr_3_14 {σ : am_H} (h : lay σ) : σ.2.2 3 14 = some 10 := h.2 8 _ rfl
theorem Lr_3_15 {σ : am_H} (h : lay σ) : σ.2.2 3 15 = some 11 := h.2 9 _ rfl
theorem Lr_3_16 {σ : am_H} (h : lay σ) : σ.2.2 3 16 = some 13 := h.2 10 _ rfl
theorem Lr_15_8 {σ : am_H} (h : lay σ) : σ.2.2 15 8 = some 16 := h.2 11 _ rfl
theorem Lr_15_9 {σ : am_H} (h : lay σ) : σ.2.2 15 9 = some 17 := h.2 12 _ rfl
theorem Lr_15_10 {σ : am_H} (h : lay σ) : σ.2.2 15 10 = some 18 := h.2 13 _ rfl
theorem Lr_15_11 {σ : am_H} (h : lay σ) : σ.2.2 15 11 = some 19 := h.2 14 _ rfl
theorem Lr_15_12 {σ : am_H} (h : lay σ) : σ.2.2 15 12 = some 20 := h.2 15 _ rfl
theorem Lr_15_13 {σ : am_H} (h : lay σ) : σ.2.2 15 13 = some 21 := h.2 16 _ rfl
theorem Lr_15_14 {σ : am_H} (h : lay σ) : σ.2.2 15 14 = some 22 := h.2 17 _ rfl
theorem Lr_15_15 {σ : am_H} (h : lay σ) : σ.2.2 15 15 = some 23 := h.2 18 _ rfl
theorem Lr_15_16 {σ : am_H} (h : lay σ) : σ.2.2 15 16 = some 25 := h.2 19 _ rfl
theorem Lr_28_0 {σ : am_H} (h : lay σ) : σ.2.2 28 0 = some 29 := h.2 20 _ rfl
theorem Lr_27_1 {σ : am_H} (h : lay σ) : σ.2.2 27 1 = some 28 := h.2 21 _ rfl
theorem Lr_30_1 {σ : am_H} (h : lay σ) : σ.2.2 30 1 = some 31 := h.2 22 _ rfl
theorem Lr_30_0 {σ : am_H} (h : lay σ) : σ.2.2 30 0 = some 1 := h.2 23 _ rfl
theorem Lr_27_0 {σ : am_H} (h : lay σ) : σ.2.2 27 0 = some 30 := h.2 24 _ rfl
theorem Lr_0_1 {σ : am_H} (h : lay σ) : σ.2.2 0 1 = some 27 := h.2 25 _ rfl
theorem Lr_32_5 {σ : am_H} (h : lay σ) : σ.2.2 32 5 = some 33 := h.2 26 _ rfl
theorem Lr_32_6 {σ : am_H} (h : lay σ) : σ.2.2 32 6 = some 34 := h.2 27 _ rfl
theorem Lr_32_7 {σ : am_H} (h : lay σ) : σ.2.2 32 7 = some 35 := h.2 28 _ rfl
theorem Lr_32_8 {σ : am_H} (h : lay σ) : σ.2.2 32 8 = some 36 := h.2 29 _ rfl
theorem Lr_0_4 {σ : am_H} (h : lay σ) : σ.2.2 0 4 = some 32 := h.2 30 _ rfl
theorem Lr_37_5 {σ : am_H} (h : lay σ) : σ.2.2 37 5 = some 38 := h.2 31 _ rfl
theorem Lr_37_6 {σ : am_H} (h : lay σ) : σ.2.2 37 6 = some 39 := h.2 32 _ rfl
theorem Lr_37_7 {σ : am_H} (h : lay σ) : σ.2.2 37 7 = some 40 := h.2 33 _ rfl
theorem Lr_37_8 {σ : am_H} (h : lay σ) : σ.2.2 37 8 = some 41 := h.2 34 _ rfl
theorem Lr_0_5 {σ : am_H} (h : lay σ) : σ.2.2 0 5 = some 37 := h.2 35 _ rfl
theorem Lr_42_0 {σ : am_H} (h : lay σ) : σ.2.2 42 0 = some 43 := h.2 36 _ rfl
theorem Lr_0_6 {σ : am_H} (h : lay σ) : σ.2.2 0 6 = some 42 := h.2 37 _ rfl
theorem Lr_44_10 {σ : am_H} (h : lay σ) : σ.2.2 44 10 = some 45 := h.2 38 _ rfl
theorem Lr_44_11 {σ : am_H} (h : lay σ) : σ.2.2 44 11 = some 46 := h.2 39 _ rfl
theorem Lr_44_12 {σ : am_H} (h : lay σ) : σ.2.2 44 12 = some 47 := h.2 40 _ rfl
theorem Lr_44_13 {σ : am_H} (h : lay σ) : σ.2.2 44 13 = some 48 := h.2 41 _ rfl
theorem Lr_0_7 {σ : am_H} (h : lay σ) : σ.2.2 0 7 = some 44 := h.2 42 _ rfl
theorem Lr_49_0 {σ : am_H} (h : lay σ) : σ.2.2 49 0 = some 50 := h.2 43 _ rfl
theorem Lr_0_8 {σ : am_H} (h : lay σ) : σ.2.2 0 8 = some 49 := h.2 44 _ rfl
theorem Lr_0_9 {σ : am_H} (h : lay σ) : σ.2.2 0 9 = some 51 := h.2 45 _ rfl
theorem Lr_0_10 {σ : am_H} (h : lay σ) : σ.2.2 0 10 = some 52 := h.2 46 _ rfl
theorem Lr_0_12 {σ : am_H} (h : lay σ) : σ.2.2 0 12 = some 53 := h.2 47 _ rfl
theorem Lr_0_13 {σ : am_H} (h : lay σ) : σ.2.2 0 13 = some 54 := h.2 48 _ rfl
theorem Lr_55_0 {σ : am_H} (h : lay σ) : σ.2.2 55 0 = some 56 := h.2 49 _ rfl
theorem Lr_55_9 {σ : am_H} (h : lay σ) : σ.2.2 55 9 = some 57 := h.2 50 _ rfl
theorem Lr_55_11 {σ : am_H} (h : lay σ) : σ.2.2 55 11 = some 58 := h.2 51 _ rfl
theorem Lr_55_12 {σ : am_H} (h : lay σ) : σ.2.2 55 12 = some 59 := h.2 52 _ rfl
theorem Lr_55_13 {σ : am_H} (h : lay σ) : σ.2.2 55 13 = some 60 := h.2 53 _ rfl
theorem Lr_55_14 {σ : am_H} (h : lay σ) : σ.2.2 55 14 = some 61 := h.2 54 _ rfl
theorem Lr_55_15 {σ : am_H} (h : lay σ) : σ.2.2 55 15 = some 62 := h.2 55 _ rfl
theorem Lr_55_16 {σ : am_H} (h : lay σ) : σ.2.2 55 16 = some 63 := h.2 56 _ rfl
theorem Lr_55_17 {σ : am_H} (h : lay σ) : σ.2.2 55 17 = some 64 := h.2 57 _ rfl
theorem Lr_55_18 {σ : am_H} (h : lay σ) : σ.2.2 55 18 = some 65 := h.2 58 _ rfl
theorem Lr_55_19 {σ : am_H} (h : lay σ) : σ.2.2 55 19 = some 66 := h.2 59 _ rfl
theorem Lr_55_20 {σ : am_H} (h : lay σ) : σ.2.2 55 20 = some 67 := h.2 60 _ rfl
theorem Lr_55_21 {σ : am_H} (h : lay σ) : σ.2.2 55 21 = some 68 := h.2 61 _ rfl
theorem Lr_55_22 {σ : am_H} (h : lay σ) : σ.2.2 55 22 = some 69 := h.2 62 _ rfl
theorem Lr_55_23 {σ : am_H} (h : lay σ) : σ.2.2 55 23 = some 70 := h.2 63 _ rfl
theorem Lr_55_24 {σ : am_H} (h : lay σ) : σ.2.2 55 24 = some 71 := h.2 64 _ rfl
theorem Lr_55_25 {σ : am_H} (h : lay σ) : σ.2.2 55 25 = some 72 := h.2 65 _ rfl
theorem Lr_55_26 {σ : am_H} (h : lay σ) : σ.2.2 55 26 = some 73 := h.2 66 _ rfl
theorem Lr_55_27 {σ : am_H} (h : lay σ) : σ.2.2 55 27 = some 74 := h.2 67 _ rfl
theorem Lr_55_28 {σ : am_H} (h : lay σ) : σ.2.2 55 28 = some 75 := h.2 68 _ rfl
theorem Lr_55_29 {σ : am_H} (h : lay σ) : σ.2.2 55 29 = some 76 := h.2 69 _ rfl
theorem Lr_55_30 {σ : am_H} (h : lay σ) : σ.2.2 55 30 = some 77 := h.2 70 _ rfl
theorem Lr_55_31 {σ : am_H} (h : lay σ) : σ.2.2 55 31 = some 78 := h.2 71 _ rfl
theorem Lr_55_32 {σ : am_H} (h : lay σ) : σ.2.2 55 32 = some 79 := h.2 72 _ rfl
theorem Lr_55_33 {σ : am_H} (h : lay σ) : σ.2.2 55 33 = some 80 := h.2 73 _ rfl
theorem Lr_55_34 {σ : am_H} (h : lay σ) : σ.2.2 55 34 = some 81 := h.2 74 _ rfl
theorem Lr_55_35 {σ : am_H} (h : lay σ) : σ.2.2 55 35 = some 82 := h.2 75 _ rfl
theorem Lr_55_36 {σ : am_H} (h : lay σ) : σ.2.2 55 36 = some 83 := h.2 76 _ rfl
theorem Lr_55_37 {σ : am_H} (h : lay σ) : σ.2.2 55 37 = some 84 := h.2 77 _ rfl
theorem Lr_55_39 {σ : am_H} (h : lay σ) : σ.2.2 55 39 = some 85 := h.2 78 _ rfl
theorem Lr_55_40 {σ : am_H} (h : lay σ) : σ.2.2 55 40 = some 86 := h.2 79 _ rfl
theorem Lr_55_41 {σ : am_H} (h : lay σ) : σ.2.2 55 41 = some 87 := h.2 80 _ rfl
theorem Lr_55_42 {σ : am_H} (h : lay σ) : σ.2.2 55 42 = some 88 := h.2 81 _ rfl
theorem Lr_55_43 {σ : am_H} (h : lay σ) : σ.2.2 55 43 = some 89 := h.2 82 _ rfl
theorem Lr_55_44 {σ : am_H} (h : lay σ) : σ.2.2 55 44 = some 90 := h.2 83 _ rfl
theorem Lr_55_45 {σ : am_H} (h : lay σ) : σ.2.2 55 45 = some 91 := h.2 84 _ rfl
theorem Lr_55_46 {σ : am_H} (h : lay σ) : σ.2.2 55 46 = some 92 := h.2 85 _ rfl
theorem Lr_55_47 {σ : am_H} (h : lay σ) : σ.2.2 55 47 = some 93 := h.2 86 _ rfl
theorem Lr_55_48 {σ : am_H} (h : lay σ) : σ.2.2 55 48 = some 94 := h.2 87 _ rfl
theorem Lr_55_49 {σ : am_H} (h : lay σ) : σ.2.2 55 49 = some 95 := h.2 88 _ rfl
theorem Lr_55_54 {σ : am_H} (h : lay σ) : σ.2.2 55 54 = some 96 := h.2 89 _ rfl
theorem Lr_55_55 {σ : am_H} (h : lay σ) : σ.2.2 55 55 = some 97 := h.2 90 _ rfl
theorem Lr_55_63 {σ : am_H} (h : lay σ) : σ.2.2 55 63 = some 98 := h.2 91 _ rfl
theorem Lr_55_64 {σ : am_H} (h : lay σ) : σ.2.2 55 64 = some 99 := h.2 92 _ rfl
theorem Lr_55_66 {σ : am_H} (h : lay σ) : σ.2.2 55 66 = some 100 := h.2 93 _ rfl
theorem Lr_55_67 {σ : am_H} (h : lay σ) : σ.2.2 55 67 = some 101 := h.2 94 _ rfl
theorem Lr_55_68 {σ : am_H} (h : lay σ) : σ.2.2 55 68 = some 102 := h.2 95 _ rfl
theorem Lr_55_72 {σ : am_H} (h : lay σ) : σ.2.2 55 72 = some 103 := h.2 96 _ rfl
theorem Lr_55_73 {σ : am_H} (h : lay σ) : σ.2.2 55 73 = some 104 := h.2 97 _ rfl
theorem Lr_55_74 {σ : am_H} (h : lay σ) : σ.2.2 55 74 = some 105 := h.2 98 _ rfl
theorem Lr_55_75 {σ : am_H} (h : lay σ) : σ.2.2 55 75 = some 106 := h.2 99 _ rfl
theorem Lr_55_76 {σ : am_H} (h : lay σ) : σ.2.2 55 76 = some 107 := h.2 100 _ rfl
theorem Lr_55_77 {σ : am_H} (h : lay σ) : σ.2.2 55 77 = some 108 := h.2 101 _ rfl
theorem Lr_55_78 {σ : am_H} (h : lay σ) : σ.2.2 55 78 = some 109 := h.2 102 _ rfl
theorem Lr_55_79 {σ : am_H} (h : lay σ) : σ.2.2 55 79 = some 110 := h.2 103 _ rfl
theorem Lr_55_80 {σ : am_H} (h : lay σ) : σ.2.2 55 80 = some 111 := h.2 104 _ rfl
theorem Lr_55_81 {σ : am_H} (h : lay σ) : σ.2.2 55 81 = some 112 := h.2 105 _ rfl
theorem Lr_55_82 {σ : am_H} (h : lay σ) : σ.2.2 55 82 = some 113 := h.2 106 _ rfl
theorem Lr_55_83 {σ : am_H} (h : lay σ) : σ.2.2 55 83 = some 114 := h.2 107 _ rfl
theorem Lr_55_84 {σ : am_H} (h : lay σ) : σ.2.2 55 84 = some 115 := h.2 108 _ rfl
theorem Lr_55_85 {σ : am_H} (h : lay σ) : σ.2.2 55 85 = some 116 := h.2 109 _ rfl
theorem Lr_55_86 {σ : am_H} (h : lay σ) : σ.2.2 55 86 = some 117 := h.2 110 _ rfl
theorem Lr_55_87 {σ : am_H} (h : lay σ) : σ.2.2 55 87 = some 118 := h.2 111 _ rfl
theorem Lr_55_88 {σ : am_H} (h : lay σ) : σ.2.2 55 88 = some 119 := h.2 112 _ rfl
theorem Lr_55_89 {σ : am_H} (h : lay σ) : σ.2.2 55 89 = some 120 := h.2 113 _ rfl
theorem Lr_55_90 {σ : am_H} (h : lay σ) : σ.2.2 55 90 = some 121 := h.2 114 _ rfl
theorem Lr_55_91 {σ : am_H} (h : lay σ) : σ.2.2 55 91 = some 122 := h.2 115 _ rfl
theorem Lr_55_92 {σ : am_H} (h : lay σ) : σ.2.2 55 92 = some 123 := h.2 116 _ rfl
theorem Lr_55_93 {σ : am_H} (h : lay σ) : σ.2.2 55 93 = some 124 := h.2 117 _ rfl
theorem Lr_55_94 {σ : am_H} (h : lay σ) : σ.2.2 55 94 = some 125 := h.2 118 _ rfl
theorem Lr_55_95 {σ : am_H} (h : lay σ) : σ.2.2 55 95 = some 126 := h.2 119 _ rfl
theorem Lr_55_96 {σ : am_H} (h : lay σ) : σ.2.2 55 96 = some 127 := h.2 120 _ rfl
theorem Lr_55_98 {σ : am_H} (h : lay σ) : σ.2.2 55 98 = some 128 := h.2 121 _ rfl
theorem Lr_55_102 {σ : am_H} (h : lay σ) : σ.2.2 55 102 = some 129 := h.2 122 _ rfl
theorem Lr_55_106 {σ : am_H} (h : lay σ) : σ.2.2 55 106 = some 130 := h.2 123 _ rfl
def s_init : am_H := iX10 (am_newAt (iX9 (am_newAt ([], fun _ _ => 0, fun _ _ => none) 0 9 17)) 55 10 108)
set_option maxRecDepth 100000 in
theorem s_init_sh : s_init.1 = SH := by decide +kernel
set_option maxRecDepth 100000 in
theorem s_init_rt : RT.all (fun q => decide (s_init.2.2 q.1 q.2.1 = some q.2.2)) = true := by decide +kernel
theorem s_init_lay : lay s_init := by
  refine ⟨fun k _ => by rw [s_init_sh], fun i q hq => ?_⟩
  exact of_decide_eq_true (List.all_eq_true.mp s_init_rt q (List.mem_of_getElem? hq))
theorem lay.same {σ τ : am_H} (h : lay σ) (h1 : τ.1 = σ.1) (h2 : ∀ a j, (∃ i : Nat, ∃ q : Nat × Nat × Nat, RT[i]? = some q ∧ q.1 = a ∧ q.2.1 = j) → τ.2.2 a j = σ.2.2 a j) : lay τ := by
  refine ⟨fun k hk => by rw [h1]; exact h.1 k hk, fun i q hq => ?_⟩
  rw [h2 q.1 q.2.1 ⟨i, q, hq, rfl, rfl⟩]
  exact h.2 i q hq
