/-! the cells behind the two constructors: shapes, and the references that stay -/
def SHF : SH := [.inl 9, .inr (1, 900), .inl 4, .inr (3, 4), .inr (7, 4), .inr (0, 3), .inr (0, 3), .inr (0, 3), .inr (0, 3), .inr (4, 4), .inr (5, 6), .inl 7, .inr (7, 4), .inr (0, 5), .inr (0, 5), .inr (0, 5), .inr (0, 5), .inr (2, 4), .inl 7, .inr (7, 4), .inr (0, 5), .inr (0, 5), .inr (0, 5), .inr (0, 5), .inr (2, 4), .inl 7, .inr (7, 4), .inr (0, 5), .inr (0, 5), .inr (0, 5), .inr (0, 5), .inr (2, 4), .inl 7, .inr (7, 4), .inr (0, 5), .inr (0, 5), .inr (0, 5), .inr (0, 5), .inr (2, 4), .inl 0, .inl 0, .inl 0, .inl 0, .inl 0, .inl 0, .inl 4, .inr (3, 4), .inr (7, 4), .inr (0, 3), .inr (0, 3), .inr (0, 3), .inr (0, 3), .inr (4, 4), .inr (5, 6), .inl 7, .inr (7, 4), .inr (0, 5), .inr (0, 5), .inr (0, 5), .inr (0, 5), .inr (2, 4), .inl 7, .inr (7, 4), .inr (0, 5), .inr (0, 5), .inr (0, 5), .inr (0, 5), .inr (2, 4), .inl 7, .inr (7, 4), .inr (0, 5), .inr (0, 5), .inr (0, 5), .inr (0, 5), .inr (2, 4), .inl 7, .inr (7, 4), .inr (0, 5), .inr (0, 5), .inr (0, 5), .inr (0, 5), .inr (2, 4), .inl 0, .inl 0, .inl 0, .inl 0, .inl 0, .inl 0, .inl 5, .inr (0, 7), .inr (0, 42), .inr (0, 42), .inl 2, .inr (3, 61), .inr (3, 61), .inr (3, 61), .inr (3, 61), .inl 8, .inl 3, .inr (3, 441), .inr (3, 441), .inl 8, .inl 8, .inl 1, .inr (8, 4), .inr (3, 41), .inr (3, 41), .inr (3, 41), .inr (3, 41), .inr (0, 4), .inr (8, 5), .inr (3, 100), .inr (3, 100), .inr (3, 100), .inr (3, 100), .inr (3, 100), .inr (3, 4), .inl 6, .inr (7, 7), .inr (0, 4), .inr (0, 4), .inr (0, 4), .inr (0, 4), .inr (0, 4), .inr (0, 4), .inr (0, 4), .inl 8, .inr (6, 3), .inl 6, .inr (7, 7), .inr (0, 4), .inr (0, 4), .inr (0, 4), .inr (0, 4), .inr (0, 4), .inr (0, 4), .inr (0, 4), .inl 8, .inl 6, .inr (7, 7), .inr (0, 4), .inr (0, 4), .inr (0, 4), .inr (0, 4), .inr (0, 4), .inr (0, 4), .inr (0, 4), .inl 8, .inl 6, .inr (7, 7), .inr (0, 4), .inr (0, 4), .inr (0, 4), .inr (0, 4), .inr (0, 4), .inr (0, 4), .inr (0, 4), .inl 8, .inl 10, .inr (1, 900), .inr (0, 10), .inr (3, 4), .inr (3, 4), .inr (3, 6), .inr (0, 32), .inr (0, 48), .inr (0, 160), .inr (2, 16), .inr (0, 8), .inr (0, 8), .inr (0, 36), .inr (0, 4), .inr (0, 4), .inr (3, 64), .inr (3, 64), .inr (3, 5), .inr (3, 164), .inr (3, 500), .inr (0, 4), .inr (0, 4), .inr (3, 441), .inr (3, 441), .inr (3, 4), .inr (3, 41), .inr (0, 128), .inr (3, 4), .inr (2, 3)]
theorem s0 : SHF[0]? = some (.inl 9) := rfl
theorem s1 : SHF[1]? = some (.inr (1, 900)) := rfl
theorem s2 : SHF[2]? = some (.inl 4) := rfl
theorem s3 : SHF[3]? = some (.inr (3, 4)) := rfl
theorem s4 : SHF[4]? = some (.inr (7, 4)) := rfl
theorem s5 : SHF[5]? = some (.inr (0, 3)) := rfl
theorem s6 : SHF[6]? = some (.inr (0, 3)) := rfl
theorem s7 : SHF[7]? = some (.inr (0, 3)) := rfl
theorem s8 : SHF[8]? = some (.inr (0, 3)) := rfl
theorem s9 : SHF[9]? = some (.inr (4, 4)) := rfl
theorem s10 : SHF[10]? = some (.inr (5, 6)) := rfl
theorem s11 : SHF[11]? = some (.inl 7) := rfl
theorem s12 : SHF[12]? = some (.inr (7, 4)) := rfl
theorem s13 : SHF[13]? = some (.inr (0, 5)) := rfl
theorem s14 : SHF[14]? = some (.inr (0, 5)) := rfl
theorem s15 : SHF[15]? = some (.inr (0, 5)) := rfl
theorem s16 : SHF[16]? = some (.inr (0, 5)) := rfl
theorem s17 : SHF[17]? = some (.inr (2, 4)) := rfl
theorem s18 : SHF[18]? = some (.inl 7) := rfl
theorem s19 : SHF[19]? = some (.inr (7, 4)) := rfl
theorem s20 : SHF[20]? = some (.inr (0, 5)) := rfl
theorem s21 : SHF[21]? = some (.inr (0, 5)) := rfl
theorem s22 : SHF[22]? = some (.inr (0, 5)) := rfl
theorem s23 : SHF[23]? = some (.inr (0, 5)) := rfl
theorem s24 : SHF[24]? = some (.inr (2, 4)) := rfl
theorem s25 : SHF[25]? = some (.inl 7) := rfl
theorem s26 : SHF[26]? = some (.inr (7, 4)) := rfl
theorem s27 : SHF[27]? = some (.inr (0, 5)) := rfl
theorem s28 : SHF[28]? = some (.inr (0, 5)) := rfl
theorem s29 : SHF[29]? = some (.inr (0, 5)) := rfl
theorem s30 : SHF[30]? = some (.inr (0, 5)) := rfl
theorem s31 : SHF[31]? = some (.inr (2, 4)) := rfl
theorem s32 : SHF[32]? = some (.inl 7) := rfl
theorem s33 : SHF[33]? = some (.inr (7, 4)) := rfl
theorem s34 : SHF[34]? = some (.inr (0, 5)) := rfl
theorem s35 : SHF[35]? = some (.inr (0, 5)) := rfl
theorem s36 : SHF[36]? = some (.inr (0, 5)) := rfl
theorem s37 : SHF[37]? = some (.inr (0, 5)) := rfl
theorem s38 : SHF[38]? = some (.inr (2, 4)) := rfl
theorem s39 : SHF[39]? = some (.inl 0) := rfl
theorem s40 : SHF[40]? = some (.inl 0) := rfl
theorem s41 : SHF[41]? = some (.inl 0) := rfl
theorem s42 : SHF[42]? = some (.inl 0) := rfl
theorem s43 : SHF[43]? = some (.inl 0) := rfl
theorem s44 : SHF[44]? = some (.inl 0) := rfl
theorem s45 : SHF[45]? = some (.inl 4) := rfl
theorem s46 : SHF[46]? = some (.inr (3, 4)) := rfl
theorem s47 : SHF[47]? = some (.inr (7, 4)) := rfl
theorem s48 : SHF[48]? = some (.inr (0, 3)) := rfl
theorem s49 : SHF[49]? = some (.inr (0, 3)) := rfl
theorem s50 : SHF[50]? = some (.inr (0, 3)) := rfl
theorem s51 : SHF[51]? = some (.inr (0, 3)) := rfl
theorem s52 : SHF[52]? = some (.inr (4, 4)) := rfl
theorem s53 : SHF[53]? = some (.inr (5, 6)) := rfl
theorem s54 : SHF[54]? = some (.inl 7) := rfl
theorem s55 : SHF[55]? = some (.inr (7, 4)) := rfl
theorem s56 : SHF[56]? = some (.inr (0, 5)) := rfl
theorem s57 : SHF[57]? = some (.inr (0, 5)) := rfl
theorem s58 : SHF[58]? = some (.inr (0, 5)) := rfl
theorem s59 : SHF[59]? = some (.inr (0, 5)) := rfl
theorem s60 : SHF[60]? = some (.inr (2, 4)) := rfl
theorem s61 : SHF[61]? = some (.inl 7) := rfl
theorem s62 : SHF[62]? = some (.inr (7, 4)) := rfl
theorem s63 : SHF[63]? = some (.inr (0, 5)) := rfl
theorem s64 : SHF[64]? = some (.inr (0, 5)) := rfl
theorem s65 : SHF[65]? = some (.inr (0, 5)) := rfl
theorem s66 : SHF[66]? = some (.inr (0, 5)) := rfl
theorem s67 : SHF[67]? = some (.inr (2, 4)) := rfl
theorem s68 : SHF[68]? = some (.inl 7) := rfl
theorem s69 : SHF[69]? = some (.inr (7, 4)) := rfl
theorem s70 : SHF[70]? = some (.inr (0, 5)) := rfl
theorem s71 : SHF[71]? = some (.inr (0, 5)) := rfl
theorem s72 : SHF[72]? = some (.inr (0, 5)) := rfl
theorem s73 : SHF[73]? = some (.inr (0, 5)) := rfl
theorem s74 : SHF[74]? = some (.inr (2, 4)) := rfl
theorem s75 : SHF[75]? = some (.inl 7) := rfl
theorem s76 : SHF[76]? = some (.inr (7, 4)) := rfl
theorem s77 : SHF[77]? = some (.inr (0, 5)) := rfl
theorem s78 : SHF[78]? = some (.inr (0, 5)) := rfl
theorem s79 : SHF[79]? = some (.inr (0, 5)) := rfl
theorem s80 : SHF[80]? = some (.inr (0, 5)) := rfl
theorem s81 : SHF[81]? = some (.inr (2, 4)) := rfl
theorem s82 : SHF[82]? = some (.inl 0) := rfl
theorem s83 : SHF[83]? = some (.inl 0) := rfl
theorem s84 : SHF[84]? = some (.inl 0) := rfl
theorem s85 : SHF[85]? = some (.inl 0) := rfl
theorem s86 : SHF[86]? = some (.inl 0) := rfl
theorem s87 : SHF[87]? = some (.inl 0) := rfl
theorem s88 : SHF[88]? = some (.inl 5) := rfl
theorem s89 : SHF[89]? = some (.inr (0, 7)) := rfl
theorem s90 : SHF[90]? = some (.inr (0, 42)) := rfl
theorem s91 : SHF[91]? = some (.inr (0, 42)) := rfl
theorem s92 : SHF[92]? = some (.inl 2) := rfl
theorem s93 : SHF[93]? = some (.inr (3, 61)) := rfl
theorem s94 : SHF[94]? = some (.inr (3, 61)) := rfl
theorem s95 : SHF[95]? = some (.inr (3, 61)) := rfl
theorem s96 : SHF[96]? = some (.inr (3, 61)) := rfl
theorem s97 : SHF[97]? = some (.inl 8) := rfl
theorem s98 : SHF[98]? = some (.inl 3) := rfl
theorem s99 : SHF[99]? = some (.inr (3, 441)) := rfl
theorem s100 : SHF[100]? = some (.inr (3, 441)) := rfl
theorem s101 : SHF[101]? = some (.inl 8) := rfl
theorem s102 : SHF[102]? = some (.inl 8) := rfl
theorem s103 : SHF[103]? = some (.inl 1) := rfl
theorem s104 : SHF[104]? = some (.inr (8, 4)) := rfl
theorem s105 : SHF[105]? = some (.inr (3, 41)) := rfl
theorem s106 : SHF[106]? = some (.inr (3, 41)) := rfl
theorem s107 : SHF[107]? = some (.inr (3, 41)) := rfl
theorem s108 : SHF[108]? = some (.inr (3, 41)) := rfl
theorem s109 : SHF[109]? = some (.inr (0, 4)) := rfl
theorem s110 : SHF[110]? = some (.inr (8, 5)) := rfl
theorem s111 : SHF[111]? = some (.inr (3, 100)) := rfl
theorem s112 : SHF[112]? = some (.inr (3, 100)) := rfl
theorem s113 : SHF[113]? = some (.inr (3, 100)) := rfl
theorem s114 : SHF[114]? = some (.inr (3, 100)) := rfl
theorem s115 : SHF[115]? = some (.inr (3, 100)) := rfl
theorem s116 : SHF[116]? = some (.inr (3, 4)) := rfl
theorem s117 : SHF[117]? = some (.inl 6) := rfl
theorem s118 : SHF[118]? = some (.inr (7, 7)) := rfl
theorem s119 : SHF[119]? = some (.inr (0, 4)) := rfl
theorem s120 : SHF[120]? = some (.inr (0, 4)) := rfl
theorem s121 : SHF[121]? = some (.inr (0, 4)) := rfl
theorem s122 : SHF[122]? = some (.inr (0, 4)) := rfl
theorem s123 : SHF[123]? = some (.inr (0, 4)) := rfl
theorem s124 : SHF[124]? = some (.inr (0, 4)) := rfl
theorem s125 : SHF[125]? = some (.inr (0, 4)) := rfl
theorem s126 : SHF[126]? = some (.inl 8) := rfl
theorem s127 : SHF[127]? = some (.inr (6, 3)) := rfl
theorem s128 : SHF[128]? = some (.inl 6) := rfl
theorem s129 : SHF[129]? = some (.inr (7, 7)) := rfl
theorem s130 : SHF[130]? = some (.inr (0, 4)) := rfl
theorem s131 : SHF[131]? = some (.inr (0, 4)) := rfl
theorem s132 : SHF[132]? = some (.inr (0, 4)) := rfl
theorem s133 : SHF[133]? = some (.inr (0, 4)) := rfl
theorem s134 : SHF[134]? = some (.inr (0, 4)) := rfl
theorem s135 : SHF[135]? = some (.inr (0, 4)) := rfl
theorem s136 : SHF[136]? = some (.inr (0, 4)) := rfl
theorem s137 : SHF[137]? = some (.inl 8) := rfl
theorem s138 : SHF[138]? = some (.inl 6) := rfl
theorem s139 : SHF[139]? = some (.inr (7, 7)) := rfl
theorem s140 : SHF[140]? = some (.inr (0, 4)) := rfl
theorem s141 : SHF[141]? = some (.inr (0, 4)) := rfl
theorem s142 : SHF[142]? = some (.inr (0, 4)) := rfl
theorem s143 : SHF[143]? = some (.inr (0, 4)) := rfl
theorem s144 : SHF[144]? = some (.inr (0, 4)) := rfl
theorem s145 : SHF[145]? = some (.inr (0, 4)) := rfl
theorem s146 : SHF[146]? = some (.inr (0, 4)) := rfl
theorem s147 : SHF[147]? = some (.inl 8) := rfl
theorem s148 : SHF[148]? = some (.inl 6) := rfl
theorem s149 : SHF[149]? = some (.inr (7, 7)) := rfl
theorem s150 : SHF[150]? = some (.inr (0, 4)) := rfl
theorem s151 : SHF[151]? = some (.inr (0, 4)) := rfl
theorem s152 : SHF[152]? = some (.inr (0, 4)) := rfl
theorem s153 : SHF[153]? = some (.inr (0, 4)) := rfl
theorem s154 : SHF[154]? = some (.inr (0, 4)) := rfl
theorem s155 : SHF[155]? = some (.inr (0, 4)) := rfl
theorem s156 : SHF[156]? = some (.inr (0, 4)) := rfl
theorem s157 : SHF[157]? = some (.inl 8) := rfl
theorem s158 : SHF[158]? = some (.inl 10) := rfl
theorem s159 : SHF[159]? = some (.inr (1, 900)) := rfl
theorem s160 : SHF[160]? = some (.inr (0, 10)) := rfl
theorem s161 : SHF[161]? = some (.inr (3, 4)) := rfl
theorem s162 : SHF[162]? = some (.inr (3, 4)) := rfl
theorem s163 : SHF[163]? = some (.inr (3, 6)) := rfl
theorem s164 : SHF[164]? = some (.inr (0, 32)) := rfl
theorem s165 : SHF[165]? = some (.inr (0, 48)) := rfl
theorem s166 : SHF[166]? = some (.inr (0, 160)) := rfl
theorem s167 : SHF[167]? = some (.inr (2, 16)) := rfl
theorem s168 : SHF[168]? = some (.inr (0, 8)) := rfl
theorem s169 : SHF[169]? = some (.inr (0, 8)) := rfl
theorem s170 : SHF[170]? = some (.inr (0, 36)) := rfl
theorem s171 : SHF[171]? = some (.inr (0, 4)) := rfl
theorem s172 : SHF[172]? = some (.inr (0, 4)) := rfl
theorem s173 : SHF[173]? = some (.inr (3, 64)) := rfl
theorem s174 : SHF[174]? = some (.inr (3, 64)) := rfl
theorem s175 : SHF[175]? = some (.inr (3, 5)) := rfl
theorem s176 : SHF[176]? = some (.inr (3, 164)) := rfl
theorem s177 : SHF[177]? = some (.inr (3, 500)) := rfl
theorem s178 : SHF[178]? = some (.inr (0, 4)) := rfl
theorem s179 : SHF[179]? = some (.inr (0, 4)) := rfl
theorem s180 : SHF[180]? = some (.inr (3, 441)) := rfl
theorem s181 : SHF[181]? = some (.inr (3, 441)) := rfl
theorem s182 : SHF[182]? = some (.inr (3, 4)) := rfl
theorem s183 : SHF[183]? = some (.inr (3, 41)) := rfl
theorem s184 : SHF[184]? = some (.inr (0, 128)) := rfl
theorem s185 : SHF[185]? = some (.inr (3, 4)) := rfl
theorem s186 : SHF[186]? = some (.inr (2, 3)) := rfl
def edgesL : List (Nat × Nat × Nat) := [(0, 0, 1), (0, 4, 88), (0, 5, 92), (0, 6, 98), (0, 7, 103), (0, 8, 116), (0, 9, 117), (0, 10, 127), (2, 8, 3), (2, 9, 4), (2, 10, 9), (2, 11, 10), (4, 0, 5), (4, 1, 6), (4, 2, 7), (4, 3, 8), (9, 0, 11), (9, 1, 18), (9, 2, 25), (9, 3, 32), (10, 0, 39), (10, 1, 40), (10, 2, 41), (10, 3, 42), (10, 4, 43), (10, 5, 44), (11, 10, 12), (11, 11, 17), (12, 0, 13), (12, 1, 14), (12, 2, 15), (12, 3, 16), (18, 10, 19), (18, 11, 24), (19, 0, 20), (19, 1, 21), (19, 2, 22), (19, 3, 23), (25, 10, 26), (25, 11, 31), (26, 0, 27), (26, 1, 28), (26, 2, 29), (26, 3, 30), (32, 10, 33), (32, 11, 38), (33, 0, 34), (33, 1, 35), (33, 2, 36), (33, 3, 37), (45, 8, 46), (45, 9, 47), (45, 10, 52), (45, 11, 53), (47, 0, 48), (47, 1, 49), (47, 2, 50), (47, 3, 51), (52, 0, 54), (52, 1, 61), (52, 2, 68), (52, 3, 75), (53, 0, 82), (53, 1, 83), (53, 2, 84), (53, 3, 85), (53, 4, 86), (53, 5, 87), (54, 10, 55), (54, 11, 60), (55, 0, 56), (55, 1, 57), (55, 2, 58), (55, 3, 59), (61, 10, 62), (61, 11, 67), (62, 0, 63), (62, 1, 64), (62, 2, 65), (62, 3, 66), (68, 10, 69), (68, 11, 74), (69, 0, 70), (69, 1, 71), (69, 2, 72), (69, 3, 73), (75, 10, 76), (75, 11, 81), (76, 0, 77), (76, 1, 78), (76, 2, 79), (76, 3, 80), (88, 11, 89), (88, 12, 90), (88, 13, 91), (92, 0, 93), (92, 1, 94), (92, 2, 95), (92, 3, 96), (92, 4, 97), (98, 0, 99), (98, 1, 100), (98, 2, 101), (98, 3, 102), (103, 0, 104), (103, 1, 109), (103, 3, 110), (104, 0, 105), (104, 1, 106), (104, 2, 107), (104, 3, 108), (110, 0, 111), (110, 1, 112), (110, 2, 113), (110, 3, 114), (110, 4, 115), (117, 4, 118), (117, 6, 126), (118, 0, 119), (118, 1, 120), (118, 2, 121), (118, 3, 122), (118, 4, 123), (118, 5, 124), (118, 6, 125), (127, 0, 128), (127, 1, 138), (127, 2, 148), (128, 4, 129), (128, 6, 137), (129, 0, 130), (129, 1, 131), (129, 2, 132), (129, 3, 133), (129, 4, 134), (129, 5, 135), (129, 6, 136), (138, 4, 139), (138, 6, 147), (139, 0, 140), (139, 1, 141), (139, 2, 142), (139, 3, 143), (139, 4, 144), (139, 5, 145), (139, 6, 146), (148, 4, 149), (148, 6, 157), (149, 0, 150), (149, 1, 151), (149, 2, 152), (149, 3, 153), (149, 4, 154), (149, 5, 155), (149, 6, 156), (158, 0, 159), (158, 12, 160), (158, 13, 161), (158, 14, 162), (158, 15, 163), (158, 16, 164), (158, 17, 165), (158, 18, 166), (158, 19, 167), (158, 20, 168), (158, 21, 169), (158, 22, 170), (158, 25, 171), (158, 26, 172), (158, 32, 173), (158, 33, 174), (158, 34, 175), (158, 39, 176), (158, 40, 177), (158, 41, 178), (158, 43, 179), (158, 44, 180), (158, 45, 181), (158, 46, 182), (158, 47, 183), (158, 48, 184), (158, 49, 185), (158, 50, 186)]
def GR (r : Nat → Nat → Option Nat) : Prop := ∀ e ∈ edgesL, r e.1 e.2.1 = some e.2.2
theorem GR.at {r : Nat → Nat → Option Nat} {c k d : Nat} (hG : GR r) (h : (c, k, d) ∈ edgesL) : r c k = some d := hG (c, k, d) h
theorem g0_0 {r : Nat → Nat → Option Nat} (hG : GR r) : r 0 0 = some 1 := hG (0, 0, 1) (by decide)
theorem g0_4 {r : Nat → Nat → Option Nat} (hG : GR r) : r 0 4 = some 88 := hG (0, 4, 88) (by decide)
theorem g0_5 {r : Nat → Nat → Option Nat} (hG : GR r) : r 0 5 = some 92 := hG (0, 5, 92) (by decide)
theorem g0_6 {r : Nat → Nat → Option Nat} (hG : GR r) : r 0 6 = some 98 := hG (0, 6, 98) (by decide)
theorem g0_7 {r : Nat → Nat → Option Nat} (hG : GR r) : r 0 7 = some 103 := hG (0, 7, 103) (by decide)
theorem g0_8 {r : Nat → Nat → Option Nat} (hG : GR r) : r 0 8 = some 116 := hG (0, 8, 116) (by decide)
theorem g0_9 {r : Nat → Nat → Option Nat} (hG : GR r) : r 0 9 = some 117 := hG (0, 9, 117) (by decide)
theorem g0_10 {r : Nat → Nat → Option Nat} (hG : GR r) : r 0 10 = some 127 := hG (0, 10, 127) (by decide)
theorem g2_8 {r : Nat → Nat → Option Nat} (hG : GR r) : r 2 8 = some 3 := hG (2, 8, 3) (by decide)
theorem g2_9 {r : Nat → Nat → Option Nat} (hG : GR r) : r 2 9 = some 4 := hG (2, 9, 4) (by decide)
theorem g2_10 {r : Nat → Nat → Option Nat} (hG : GR r) : r 2 10 = some 9 := hG (2, 10, 9) (by decide)
theorem g2_11 {r : Nat → Nat → Option Nat} (hG : GR r) : r 2 11 = some 10 := hG (2, 11, 10) (by decide)
theorem g4_0 {r : Nat → Nat → Option Nat} (hG : GR r) : r 4 0 = some 5 := hG (4, 0, 5) (by decide)
theorem g4_1 {r : Nat → Nat → Option Nat} (hG : GR r) : r 4 1 = some 6 := hG (4, 1, 6) (by decide)
theorem g4_2 {r : Nat → Nat → Option Nat} (hG : GR r) : r 4 2 = some 7 := hG (4, 2, 7) (by decide)
theorem g4_3 {r : Nat → Nat → Option Nat} (hG : GR r) : r 4 3 = some 8 := hG (4, 3, 8) (by decide)
theorem g9_0 {r : Nat → Nat → Option Nat} (hG : GR r) : r 9 0 = some 11 := hG (9, 0, 11) (by decide)
theorem g9_1 {r : Nat → Nat → Option Nat} (hG : GR r) : r 9 1 = some 18 := hG (9, 1, 18) (by decide)
theorem g9_2 {r : Nat → Nat → Option Nat} (hG : GR r) : r 9 2 = some 25 := hG (9, 2, 25) (by decide)
theorem g9_3 {r : Nat → Nat → Option Nat} (hG : GR r) : r 9 3 = some 32 := hG (9, 3, 32) (by decide)
theorem g10_0 {r : Nat → Nat → Option Nat} (hG : GR r) : r 10 0 = some 39 := hG (10, 0, 39) (by decide)
theorem g10_1 {r : Nat → Nat → Option Nat} (hG : GR r) : r 10 1 = some 40 := hG (10, 1, 40) (by decide)
theorem g10_2 {r : Nat → Nat → Option Nat} (hG : GR r) : r 10 2 = some 41 := hG (10, 2, 41) (by decide)
theorem g10_3 {r : Nat → Nat → Option Nat} (hG : GR r) : r 10 3 = some 42 := hG (10, 3, 42) (by decide)
theorem g10_4 {r : Nat → Nat → Option Nat} (hG : GR r) : r 10 4 = some 43 := hG (10, 4, 43) (by decide)
theorem g10_5 {r : Nat → Nat → Option Nat} (hG : GR r) : r 10 5 = some 44 := hG (10, 5, 44) (by decide)
theorem g11_10 {r : Nat → Nat → Option Nat} (hG : GR r) : r 11 10 = some 12 := hG (11, 10, 12) (by decide)
theorem g11_11 {r : Nat → Nat → Option Nat} (hG : GR r) : r 11 11 = some 17 := hG (11, 11, 17) (by decide)
theorem g12_0 {r : Nat → Nat → Option Nat} (hG : GR r) : r 12 0 = some 13 := hG (12, 0, 13) (by decide)
theorem g12_1 {r : Nat → Nat → Option Nat} (hG : GR r) : r 12 1 = some 14 := hG (12, 1, 14) (by decide)
theorem g12_2 {r : Nat → Nat → Option Nat} (hG : GR r) : r 12 2 = some 15 := hG (12, 2, 15) (by decide)
theorem g12_3 {r : Nat → Nat → Option Nat} (hG : GR r) : r 12 3 = some 16 := hG (12, 3, 16) (by decide)
theorem g18_10 {r : Nat → Nat → Option Nat} (hG : GR r) : r 18 10 = some 19 := hG (18, 10, 19) (by decide)
theorem g18_11 {r : Nat → Nat → Option Nat} (hG : GR r) : r 18 11 = some 24 := hG (18, 11, 24) (by decide)
theorem g19_0 {r : Nat → Nat → Option Nat} (hG : GR r) : r 19 0 = some 20 := hG (19, 0, 20) (by decide)
theorem g19_1 {r : Nat → Nat → Option Nat} (hG : GR r) : r 19 1 = some 21 := hG (19, 1, 21) (by decide)
theorem g19_2 {r : Nat → Nat → Option Nat} (hG : GR r) : r 19 2 = some 22 := hG (19, 2, 22) (by decide)
theorem g19_3 {r : Nat → Nat → Option Nat} (hG : GR r) : r 19 3 = some 23 := hG (19, 3, 23) (by decide)
theorem g25_10 {r : Nat → Nat → Option Nat} (hG : GR r) : r 25 10 = some 26 := hG (25, 10, 26) (by decide)
theorem g25_11 {r : Nat → Nat → Option Nat} (hG : GR r) : r 25 11 = some 31 := hG (25, 11, 31) (by decide)
theorem g26_0 {r : Nat → Nat → Option Nat} (hG : GR r) : r 26 0 = some 27 := hG (26, 0, 27) (by decide)
theorem g26_1 {r : Nat → Nat → Option Nat} (hG : GR r) : r 26 1 = some 28 := hG (26, 1, 28) (by decide)
theorem g26_2 {r : Nat → Nat → Option Nat} (hG : GR r) : r 26 2 = some 29 := hG (26, 2, 29) (by decide)
theorem g26_3 {r : Nat → Nat → Option Nat} (hG : GR r) : r 26 3 = some 30 := hG (26, 3, 30) (by decide)
theorem g32_10 {r : Nat → Nat → Option Nat} (hG : GR r) : r 32 10 = some 33 := hG (32, 10, 33) (by decide)
theorem g32_11 {r : Nat → Nat → Option Nat} (hG : GR r) : r 32 11 = some 38 := hG (32, 11, 38) (by decide)
theorem g33_0 {r : Nat → Nat → Option Nat} (hG : GR r) : r 33 0 = some 34 := hG (33, 0, 34) (by decide)
theorem g33_1 {r : Nat → Nat → Option Nat} (hG : GR r) : r 33 1 = some 35 := hG (33, 1, 35) (by decide)
theorem g33_2 {r : Nat → Nat → Option Nat} (hG : GR r) : r 33 2 = some 36 := hG (33, 2, 36) (by decide)
theorem g33_3 {r : Nat → Nat → Option Nat} (hG : GR r) : r 33 3 = some 37 := hG (33, 3, 37) (by decide)
theorem g45_8 {r : Nat → Nat → Option Nat} (hG : GR r) : r 45 8 = some 46 := hG (45, 8, 46) (by decide)
theorem g45_9 {r : Nat → Nat → Option Nat} (hG : GR r) : r 45 9 = some 47 := hG (45, 9, 47) (by decide)
theorem g45_10 {r : Nat → Nat → Option Nat} (hG : GR r) : r 45 10 = some 52 := hG (45, 10, 52) (by decide)
theorem g45_11 {r : Nat → Nat → Option Nat} (hG : GR r) : r 45 11 = some 53 := hG (45, 11, 53) (by decide)
theorem g47_0 {r : Nat → Nat → Option Nat} (hG : GR r) : r 47 0 = some 48 := hG (47, 0, 48) (by decide)
theorem g47_1 {r : Nat → Nat → Option Nat} (hG : GR r) : r 47 1 = some 49 := hG (47, 1, 49) (by decide)
theorem g47_2 {r : Nat → Nat → Option Nat} (hG : GR r) : r 47 2 = some 50 := hG (47, 2, 50) (by decide)
theorem g47_3 {r : Nat → Nat → Option Nat} (hG : GR r) : r 47 3 = some 51 := hG (47, 3, 51) (by decide)
theorem g52_0 {r : Nat → Nat → Option Nat} (hG : GR r) : r 52 0 = some 54 := hG (52, 0, 54) (by decide)
theorem g52_1 {r : Nat → Nat → Option Nat} (hG : GR r) : r 52 1 = some 61 := hG (52, 1, 61) (by decide)
theorem g52_2 {r : Nat → Nat → Option Nat} (hG : GR r) : r 52 2 = some 68 := hG (52, 2, 68) (by decide)
theorem g52_3 {r : Nat → Nat → Option Nat} (hG : GR r) : r 52 3 = some 75 := hG (52, 3, 75) (by decide)
theorem g53_0 {r : Nat → Nat → Option Nat} (hG : GR r) : r 53 0 = some 82 := hG (53, 0, 82) (by decide)
theorem g53_1 {r : Nat → Nat → Option Nat} (hG : GR r) : r 53 1 = some 83 := hG (53, 1, 83) (by decide)
theorem g53_2 {r : Nat → Nat → Option Nat} (hG : GR r) : r 53 2 = some 84 := hG (53, 2, 84) (by decide)
theorem g53_3 {r : Nat → Nat → Option Nat} (hG : GR r) : r 53 3 = some 85 := hG (53, 3, 85) (by decide)
theorem g53_4 {r : Nat → Nat → Option Nat} (hG : GR r) : r 53 4 = some 86 := hG (53, 4, 86) (by decide)
theorem g53_5 {r : Nat → Nat → Option Nat} (hG : GR r) : r 53 5 = some 87 := hG (53, 5, 87) (by decide)
theorem g54_10 {r : Nat → Nat → Option Nat} (hG : GR r) : r 54 10 = some 55 := hG (54, 10, 55) (by decide)
theorem g54_11 {r : Nat → Nat → Option Nat} (hG : GR r) : r 54 11 = some 60 := hG (54, 11, 60) (by decide)
theorem g55_0 {r : Nat → Nat → Option Nat} (hG : GR r) : r 55 0 = some 56 := hG (55, 0, 56) (by decide)
theorem g55_1 {r : Nat → Nat → Option Nat} (hG : GR r) : r 55 1 = some 57 := hG (55, 1, 57) (by decide)
theorem g55_2 {r : Nat → Nat → Option Nat} (hG : GR r) : r 55 2 = some 58 := hG (55, 2, 58) (by decide)
theorem g55_3 {r : Nat → Nat → Option Nat} (hG : GR r) : r 55 3 = some 59 := hG (55, 3, 59) (by decide)
theorem g61_10 {r : Nat → Nat → Option Nat} (hG : GR r) : r 61 10 = some 62 := hG (61, 10, 62) (by decide)
theorem g61_11 {r : Nat → Nat → Option Nat} (hG : GR r) : r 61 11 = some 67 := hG (61, 11, 67) (by decide)
theorem g62_0 {r : Nat → Nat → Option Nat} (hG : GR r) : r 62 0 = some 63 := hG (62, 0, 63) (by decide)
theorem g62_1 {r : Nat → Nat → Option Nat} (hG : GR r) : r 62 1 = some 64 := hG (62, 1, 64) (by decide)
theorem g62_2 {r : Nat → Nat → Option Nat} (hG : GR r) : r 62 2 = some 65 := hG (62, 2, 65) (by decide)
theorem g62_3 {r : Nat → Nat → Option Nat} (hG : GR r) : r 62 3 = some 66 := hG (62, 3, 66) (by decide)
theorem g68_10 {r : Nat → Nat → Option Nat} (hG : GR r) : r 68 10 = some 69 := hG (68, 10, 69) (by decide)
theorem g68_11 {r : Nat → Nat → Option Nat} (hG : GR r) : r 68 11 = some 74 := hG (68, 11, 74) (by decide)
theorem g69_0 {r : Nat → Nat → Option Nat} (hG : GR r) : r 69 0 = some 70 := hG (69, 0, 70) (by decide)
theorem g69_1 {r : Nat → Nat → Option Nat} (hG : GR r) : r 69 1 = some 71 := hG (69, 1, 71) (by decide)
theorem g69_2 {r : Nat → Nat → Option Nat} (hG : GR r) : r 69 2 = some 72 := hG (69, 2, 72) (by decide)
theorem g69_3 {r : Nat → Nat → Option Nat} (hG : GR r) : r 69 3 = some 73 := hG (69, 3, 73) (by decide)
theorem g75_10 {r : Nat → Nat → Option Nat} (hG : GR r) : r 75 10 = some 76 := hG (75, 10, 76) (by decide)
theorem g75_11 {r : Nat → Nat → Option Nat} (hG : GR r) : r 75 11 = some 81 := hG (75, 11, 81) (by decide)
theorem g76_0 {r : Nat → Nat → Option Nat} (hG : GR r) : r 76 0 = some 77 := hG (76, 0, 77) (by decide)
theorem g76_1 {r : Nat → Nat → Option Nat} (hG : GR r) : r 76 1 = some 78 := hG (76, 1, 78) (by decide)
theorem g76_2 {r : Nat → Nat → Option Nat} (hG : GR r) : r 76 2 = some 79 := hG (76, 2, 79) (by decide)
theorem g76_3 {r : Nat → Nat → Option Nat} (hG : GR r) : r 76 3 = some 80 := hG (76, 3, 80) (by decide)
theorem g88_11 {r : Nat → Nat → Option Nat} (hG : GR r) : r 88 11 = some 89 := hG (88, 11, 89) (by decide)
theorem g88_12 {r : Nat → Nat → Option Nat} (hG : GR r) : r 88 12 = some 90 := hG (88, 12, 90) (by decide)
theorem g88_13 {r : Nat → Nat → Option Nat} (hG : GR r) : r 88 13 = some 91 := hG (88, 13, 91) (by decide)
theorem g92_0 {r : Nat → Nat → Option Nat} (hG : GR r) : r 92 0 = some 93 := hG (92, 0, 93) (by decide)
theorem g92_1 {r : Nat → Nat → Option Nat} (hG : GR r) : r 92 1 = some 94 := hG (92, 1, 94) (by decide)
theorem g92_2 {r : Nat → Nat → Option Nat} (hG : GR r) : r 92 2 = some 95 := hG (92, 2, 95) (by decide)
theorem g92_3 {r : Nat → Nat → Option Nat} (hG : GR r) : r 92 3 = some 96 := hG (92, 3, 96) (by decide)
theorem g92_4 {r : Nat → Nat → Option Nat} (hG : GR r) : r 92 4 = some 97 := hG (92, 4, 97) (by decide)
theorem g98_0 {r : Nat → Nat → Option Nat} (hG : GR r) : r 98 0 = some 99 := hG (98, 0, 99) (by decide)
theorem g98_1 {r : Nat → Nat → Option Nat} (hG : GR r) : r 98 1 = some 100 := hG (98, 1, 100) (by decide)
theorem g98_2 {r : Nat → Nat → Option Nat} (hG : GR r) : r 98 2 = some 101 := hG (98, 2, 101) (by decide)
theorem g98_3 {r : Nat → Nat → Option Nat} (hG : GR r) : r 98 3 = some 102 := hG (98, 3, 102) (by decide)
theorem g103_0 {r : Nat → Nat → Option Nat} (hG : GR r) : r 103 0 = some 104 := hG (103, 0, 104) (by decide)
theorem g103_1 {r : Nat → Nat → Option Nat} (hG : GR r) : r 103 1 = some 109 := hG (103, 1, 109) (by decide)
theorem g103_3 {r : Nat → Nat → Option Nat} (hG : GR r) : r 103 3 = some 110 := hG (103, 3, 110) (by decide)
theorem g104_0 {r : Nat → Nat → Option Nat} (hG : GR r) : r 104 0 = some 105 := hG (104, 0, 105) (by decide)
theorem g104_1 {r : Nat → Nat → Option Nat} (hG : GR r) : r 104 1 = some 106 := hG (104, 1, 106) (by decide)
theorem g104_2 {r : Nat → Nat → Option Nat} (hG : GR r) : r 104 2 = some 107 := hG (104, 2, 107) (by decide)
theorem g104_3 {r : Nat → Nat → Option Nat} (hG : GR r) : r 104 3 = some 108 := hG (104, 3, 108) (by decide)
theorem g110_0 {r : Nat → Nat → Option Nat} (hG : GR r) : r 110 0 = some 111 := hG (110, 0, 111) (by decide)
theorem g110_1 {r : Nat → Nat → Option Nat} (hG : GR r) : r 110 1 = some 112 := hG (110, 1, 112) (by decide)
theorem g110_2 {r : Nat → Nat → Option Nat} (hG : GR r) : r 110 2 = some 113 := hG (110, 2, 113) (by decide)
theorem g110_3 {r : Nat → Nat → Option Nat} (hG : GR r) : r 110 3 = some 114 := hG (110, 3, 114) (by decide)
theorem g110_4 {r : Nat → Nat → Option Nat} (hG : GR r) : r 110 4 = some 115 := hG (110, 4, 115) (by decide)
theorem g117_4 {r : Nat → Nat → Option Nat} (hG : GR r) : r 117 4 = some 118 := hG (117, 4, 118) (by decide)
theorem g117_6 {r : Nat → Nat → Option Nat} (hG : GR r) : r 117 6 = some 126 := hG (117, 6, 126) (by decide)
theorem g118_0 {r : Nat → Nat → Option Nat} (hG : GR r) : r 118 0 = some 119 := hG (118, 0, 119) (by decide)
theorem g118_1 {r : Nat → Nat → Option Nat} (hG : GR r) : r 118 1 = some 120 := hG (118, 1, 120) (by decide)
theorem g118_2 {r : Nat → Nat → Option Nat} (hG : GR r) : r 118 2 = some 121 := hG (118, 2, 121) (by decide)
theorem g118_3 {r : Nat → Nat → Option Nat} (hG : GR r) : r 118 3 = some 122 := hG (118, 3, 122) (by decide)
theorem g118_4 {r : Nat → Nat → Option Nat} (hG : GR r) : r 118 4 = some 123 := hG (118, 4, 123) (by decide)
theorem g118_5 {r : Nat → Nat → Option Nat} (hG : GR r) : r 118 5 = some 124 := hG (118, 5, 124) (by decide)
theorem g118_6 {r : Nat → Nat → Option Nat} (hG : GR r) : r 118 6 = some 125 := hG (118, 6, 125) (by decide)
theorem g127_0 {r : Nat → Nat → Option Nat} (hG : GR r) : r 127 0 = some 128 := hG (127, 0, 128) (by decide)
theorem g127_1 {r : Nat → Nat → Option Nat} (hG : GR r) : r 127 1 = some 138 := hG (127, 1, 138) (by decide)
theorem g127_2 {r : Nat → Nat → Option Nat} (hG : GR r) : r 127 2 = some 148 := hG (127, 2, 148) (by decide)
theorem g128_4 {r : Nat → Nat → Option Nat} (hG : GR r) : r 128 4 = some 129 := hG (128, 4, 129) (by decide)
theorem g128_6 {r : Nat → Nat → Option Nat} (hG : GR r) : r 128 6 = some 137 := hG (128, 6, 137) (by decide)
theorem g129_0 {r : Nat → Nat → Option Nat} (hG : GR r) : r 129 0 = some 130 := hG (129, 0, 130) (by decide)
theorem g129_1 {r : Nat → Nat → Option Nat} (hG : GR r) : r 129 1 = some 131 := hG (129, 1, 131) (by decide)
theorem g129_2 {r : Nat → Nat → Option Nat} (hG : GR r) : r 129 2 = some 132 := hG (129, 2, 132) (by decide)
theorem g129_3 {r : Nat → Nat → Option Nat} (hG : GR r) : r 129 3 = some 133 := hG (129, 3, 133) (by decide)
theorem g129_4 {r : Nat → Nat → Option Nat} (hG : GR r) : r 129 4 = some 134 := hG (129, 4, 134) (by decide)
theorem g129_5 {r : Nat → Nat → Option Nat} (hG : GR r) : r 129 5 = some 135 := hG (129, 5, 135) (by decide)
theorem g129_6 {r : Nat → Nat → Option Nat} (hG : GR r) : r 129 6 = some 136 := hG (129, 6, 136) (by decide)
theorem g138_4 {r : Nat → Nat → Option Nat} (hG : GR r) : r 138 4 = some 139 := hG (138, 4, 139) (by decide)
theorem g138_6 {r : Nat → Nat → Option Nat} (hG : GR r) : r 138 6 = some 147 := hG (138, 6, 147) (by decide)
theorem g139_0 {r : Nat → Nat → Option Nat} (hG : GR r) : r 139 0 = some 140 := hG (139, 0, 140) (by decide)
theorem g139_1 {r : Nat → Nat → Option Nat} (hG : GR r) : r 139 1 = some 141 := hG (139, 1, 141) (by decide)
theorem g139_2 {r : Nat → Nat → Option Nat} (hG : GR r) : r 139 2 = some 142 := hG (139, 2, 142) (by decide)
theorem g139_3 {r : Nat → Nat → Option Nat} (hG : GR r) : r 139 3 = some 143 := hG (139, 3, 143) (by decide)
theorem g139_4 {r : Nat → Nat → Option Nat} (hG : GR r) : r 139 4 = some 144 := hG (139, 4, 144) (by decide)
theorem g139_5 {r : Nat → Nat → Option Nat} (hG : GR r) : r 139 5 = some 145 := hG (139, 5, 145) (by decide)
theorem g139_6 {r : Nat → Nat → Option Nat} (hG : GR r) : r 139 6 = some 146 := hG (139, 6, 146) (by decide)
theorem g148_4 {r : Nat → Nat → Option Nat} (hG : GR r) : r 148 4 = some 149 := hG (148, 4, 149) (by decide)
theorem g148_6 {r : Nat → Nat → Option Nat} (hG : GR r) : r 148 6 = some 157 := hG (148, 6, 157) (by decide)
theorem g149_0 {r : Nat → Nat → Option Nat} (hG : GR r) : r 149 0 = some 150 := hG (149, 0, 150) (by decide)
theorem g149_1 {r : Nat → Nat → Option Nat} (hG : GR r) : r 149 1 = some 151 := hG (149, 1, 151) (by decide)
theorem g149_2 {r : Nat → Nat → Option Nat} (hG : GR r) : r 149 2 = some 152 := hG (149, 2, 152) (by decide)
theorem g149_3 {r : Nat → Nat → Option Nat} (hG : GR r) : r 149 3 = some 153 := hG (149, 3, 153) (by decide)
theorem g149_4 {r : Nat → Nat → Option Nat} (hG : GR r) : r 149 4 = some 154 := hG (149, 4, 154) (by decide)
theorem g149_5 {r : Nat → Nat → Option Nat} (hG : GR r) : r 149 5 = some 155 := hG (149, 5, 155) (by decide)
theorem g149_6 {r : Nat → Nat → Option Nat} (hG : GR r) : r 149 6 = some 156 := hG (149, 6, 156) (by decide)
theorem g158_0 {r : Nat → Nat → Option Nat} (hG : GR r) : r 158 0 = some 159 := hG (158, 0, 159) (by decide)
theorem g158_12 {r : Nat → Nat → Option Nat} (hG : GR r) : r 158 12 = some 160 := hG (158, 12, 160) (by decide)
theorem g158_13 {r : Nat → Nat → Option Nat} (hG : GR r) : r 158 13 = some 161 := hG (158, 13, 161) (by decide)
theorem g158_14 {r : Nat → Nat → Option Nat} (hG : GR r) : r 158 14 = some 162 := hG (158, 14, 162) (by decide)
theorem g158_15 {r : Nat → Nat → Option Nat} (hG : GR r) : r 158 15 = some 163 := hG (158, 15, 163) (by decide)
theorem g158_16 {r : Nat → Nat → Option Nat} (hG : GR r) : r 158 16 = some 164 := hG (158, 16, 164) (by decide)
theorem g158_17 {r : Nat → Nat → Option Nat} (hG : GR r) : r 158 17 = some 165 := hG (158, 17, 165) (by decide)
theorem g158_18 {r : Nat → Nat → Option Nat} (hG : GR r) : r 158 18 = some 166 := hG (158, 18, 166) (by decide)
theorem g158_19 {r : Nat → Nat → Option Nat} (hG : GR r) : r 158 19 = some 167 := hG (158, 19, 167) (by decide)
theorem g158_20 {r : Nat → Nat → Option Nat} (hG : GR r) : r 158 20 = some 168 := hG (158, 20, 168) (by decide)
theorem g158_21 {r : Nat → Nat → Option Nat} (hG : GR r) : r 158 21 = some 169 := hG (158, 21, 169) (by decide)
theorem g158_22 {r : Nat → Nat → Option Nat} (hG : GR r) : r 158 22 = some 170 := hG (158, 22, 170) (by decide)
theorem g158_25 {r : Nat → Nat → Option Nat} (hG : GR r) : r 158 25 = some 171 := hG (158, 25, 171) (by decide)
theorem g158_26 {r : Nat → Nat → Option Nat} (hG : GR r) : r 158 26 = some 172 := hG (158, 26, 172) (by decide)
theorem g158_32 {r : Nat → Nat → Option Nat} (hG : GR r) : r 158 32 = some 173 := hG (158, 32, 173) (by decide)
theorem g158_33 {r : Nat → Nat → Option Nat} (hG : GR r) : r 158 33 = some 174 := hG (158, 33, 174) (by decide)
theorem g158_34 {r : Nat → Nat → Option Nat} (hG : GR r) : r 158 34 = some 175 := hG (158, 34, 175) (by decide)
theorem g158_39 {r : Nat → Nat → Option Nat} (hG : GR r) : r 158 39 = some 176 := hG (158, 39, 176) (by decide)
theorem g158_40 {r : Nat → Nat → Option Nat} (hG : GR r) : r 158 40 = some 177 := hG (158, 40, 177) (by decide)
theorem g158_41 {r : Nat → Nat → Option Nat} (hG : GR r) : r 158 41 = some 178 := hG (158, 41, 178) (by decide)
theorem g158_43 {r : Nat → Nat → Option Nat} (hG : GR r) : r 158 43 = some 179 := hG (158, 43, 179) (by decide)
theorem g158_44 {r : Nat → Nat → Option Nat} (hG : GR r) : r 158 44 = some 180 := hG (158, 44, 180) (by decide)
theorem g158_45 {r : Nat → Nat → Option Nat} (hG : GR r) : r 158 45 = some 181 := hG (158, 45, 181) (by decide)
theorem g158_46 {r : Nat → Nat → Option Nat} (hG : GR r) : r 158 46 = some 182 := hG (158, 46, 182) (by decide)
theorem g158_47 {r : Nat → Nat → Option Nat} (hG : GR r) : r 158 47 = some 183 := hG (158, 47, 183) (by decide)
theorem g158_48 {r : Nat → Nat → Option Nat} (hG : GR r) : r 158 48 = some 184 := hG (158, 48, 184) (by decide)
theorem g158_49 {r : Nat → Nat → Option Nat} (hG : GR r) : r 158 49 = some 185 := hG (158, 49, 185) (by decide)
theorem g158_50 {r : Nat → Nat → Option Nat} (hG : GR r) : r 158 50 = some 186 := hG (158, 50, 186) (by decide)
def IsPo (p : Nat) : Prop := p = 2 ∨ p = 45
def IsTh (t : Nat) : Prop := t = 11 ∨ t = 18 ∨ t = 25 ∨ t = 32 ∨ t = 54 ∨ t = 61 ∨ t = 68 ∨ t = 75
def IsRn (t : Nat) : Prop := t = 117 ∨ t = 128 ∨ t = 138 ∨ t = 148
theorem IsPo.lt {p : Nat} (h : IsPo p) : 2 ≤ p ∧ p ≤ 45 := by
  rcases h with rfl | rfl <;> decide
theorem IsTh.lt {t : Nat} (h : IsTh t) : 11 ≤ t ∧ t ≤ 75 := by
  rcases h with rfl | rfl | rfl | rfl | rfl | rfl | rfl | rfl <;> decide
theorem IsRn.lt {t : Nat} (h : IsRn t) : 117 ≤ t ∧ t ≤ 148 := by
  rcases h with rfl | rfl | rfl | rfl <;> decide
theorem IsPo.s {p : Nat} (h : IsPo p) : SHF[p]? = some (.inl 4) := by
  rcases h with rfl | rfl <;> rfl
theorem IsPo.s1 {p : Nat} (h : IsPo p) : SHF[p + 1]? = some (.inr (3, 4)) := by
  rcases h with rfl | rfl <;> rfl
theorem IsPo.s2 {p : Nat} (h : IsPo p) : SHF[p + 2]? = some (.inr (7, 4)) := by
  rcases h with rfl | rfl <;> rfl
theorem IsPo.s7 {p : Nat} (h : IsPo p) : SHF[p + 7]? = some (.inr (4, 4)) := by
  rcases h with rfl | rfl <;> rfl
theorem IsPo.s8 {p : Nat} (h : IsPo p) : SHF[p + 8]? = some (.inr (5, 6)) := by
  rcases h with rfl | rfl <;> rfl
theorem IsPo.sg {p w : Nat} (h : IsPo p) (hw : w < 4) : SHF[p + 3 + w]? = some (.inr (0, 3)) := by
  rcases h with rfl | rfl <;> (rcases (show w = 0 ∨ w = 1 ∨ w = 2 ∨ w = 3 by omega) with rfl | rfl | rfl | rfl <;> rfl)
theorem IsPo.sf {p f : Nat} (h : IsPo p) (hf : f < 6) : SHF[p + 37 + f]? = some (.inl 0) := by
  rcases h with rfl | rfl <;> (rcases (show f = 0 ∨ f = 1 ∨ f = 2 ∨ f = 3 ∨ f = 4 ∨ f = 5 by omega) with rfl | rfl | rfl | rfl | rfl | rfl <;> rfl)
theorem IsPo.th {p t : Nat} (h : IsPo p) (ht : t < 4) : IsTh (p + 9 + 7 * t) := by
  rcases h with rfl | rfl <;> (rcases (show t = 0 ∨ t = 1 ∨ t = 2 ∨ t = 3 by omega) with rfl | rfl | rfl | rfl <;> (unfold IsTh; decide))
theorem IsPo.e8 {p : Nat} {r : Nat → Nat → Option Nat} (h : IsPo p) (hG : GR r) : r p 8 = some (p + 1) := by
  rcases h with rfl | rfl <;> exact GR.at hG (by decide)
theorem IsPo.e9 {p : Nat} {r : Nat → Nat → Option Nat} (h : IsPo p) (hG : GR r) : r p 9 = some (p + 2) := by
  rcases h with rfl | rfl <;> exact GR.at hG (by decide)
theorem IsPo.e10 {p : Nat} {r : Nat → Nat → Option Nat} (h : IsPo p) (hG : GR r) : r p 10 = some (p + 7) := by
  rcases h with rfl | rfl <;> exact GR.at hG (by decide)
theorem IsPo.e11 {p : Nat} {r : Nat → Nat → Option Nat} (h : IsPo p) (hG : GR r) : r p 11 = some (p + 8) := by
  rcases h with rfl | rfl <;> exact GR.at hG (by decide)
theorem IsPo.esg {p w : Nat} {r : Nat → Nat → Option Nat} (h : IsPo p) (hG : GR r) (hw : w < 4) : r (p + 2) w = some (p + 3 + w) := by
  rcases h with rfl | rfl <;> (rcases (show w = 0 ∨ w = 1 ∨ w = 2 ∨ w = 3 by omega) with rfl | rfl | rfl | rfl <;> exact GR.at hG (by decide))
theorem IsPo.eth {p t : Nat} {r : Nat → Nat → Option Nat} (h : IsPo p) (hG : GR r) (ht : t < 4) : r (p + 7) t = some (p + 9 + 7 * t) := by
  rcases h with rfl | rfl <;> (rcases (show t = 0 ∨ t = 1 ∨ t = 2 ∨ t = 3 by omega) with rfl | rfl | rfl | rfl <;> exact GR.at hG (by decide))
theorem IsPo.ef {p f : Nat} {r : Nat → Nat → Option Nat} (h : IsPo p) (hG : GR r) (hf : f < 6) : r (p + 8) f = some (p + 37 + f) := by
  rcases h with rfl | rfl <;> (rcases (show f = 0 ∨ f = 1 ∨ f = 2 ∨ f = 3 ∨ f = 4 ∨ f = 5 by omega) with rfl | rfl | rfl | rfl | rfl | rfl <;> exact GR.at hG (by decide))
theorem IsTh.s {t : Nat} (h : IsTh t) : SHF[t]? = some (.inl 7) := by
  rcases h with rfl | rfl | rfl | rfl | rfl | rfl | rfl | rfl <;> rfl
theorem IsTh.s1 {t : Nat} (h : IsTh t) : SHF[t + 1]? = some (.inr (7, 4)) := by
  rcases h with rfl | rfl | rfl | rfl | rfl | rfl | rfl | rfl <;> rfl
theorem IsTh.s6 {t : Nat} (h : IsTh t) : SHF[t + 6]? = some (.inr (2, 4)) := by
  rcases h with rfl | rfl | rfl | rfl | rfl | rfl | rfl | rfl <;> rfl
theorem IsTh.sw {t w : Nat} (h : IsTh t) (hw : w < 4) : SHF[t + 2 + w]? = some (.inr (0, 5)) := by
  rcases h with rfl | rfl | rfl | rfl | rfl | rfl | rfl | rfl <;> (rcases (show w = 0 ∨ w = 1 ∨ w = 2 ∨ w = 3 by omega) with rfl | rfl | rfl | rfl <;> rfl)
theorem IsTh.e10 {t : Nat} {r : Nat → Nat → Option Nat} (h : IsTh t) (hG : GR r) : r t 10 = some (t + 1) := by
  rcases h with rfl | rfl | rfl | rfl | rfl | rfl | rfl | rfl <;> exact GR.at hG (by decide)
theorem IsTh.e11 {t : Nat} {r : Nat → Nat → Option Nat} (h : IsTh t) (hG : GR r) : r t 11 = some (t + 6) := by
  rcases h with rfl | rfl | rfl | rfl | rfl | rfl | rfl | rfl <;> exact GR.at hG (by decide)
theorem IsTh.ew {t w : Nat} {r : Nat → Nat → Option Nat} (h : IsTh t) (hG : GR r) (hw : w < 4) : r (t + 1) w = some (t + 2 + w) := by
  rcases h with rfl | rfl | rfl | rfl | rfl | rfl | rfl | rfl <;> (rcases (show w = 0 ∨ w = 1 ∨ w = 2 ∨ w = 3 by omega) with rfl | rfl | rfl | rfl <;> exact GR.at hG (by decide))
theorem IsRn.s {t : Nat} (h : IsRn t) : SHF[t]? = some (.inl 6) := by
  rcases h with rfl | rfl | rfl | rfl <;> rfl
theorem IsRn.s1 {t : Nat} (h : IsRn t) : SHF[t + 1]? = some (.inr (7, 7)) := by
  rcases h with rfl | rfl | rfl | rfl <;> rfl
theorem IsRn.s9 {t : Nat} (h : IsRn t) : SHF[t + 9]? = some (.inl 8) := by
  rcases h with rfl | rfl | rfl | rfl <;> rfl
theorem IsRn.sr {t i : Nat} (h : IsRn t) (hi : i < 7) : SHF[t + 2 + i]? = some (.inr (0, 4)) := by
  rcases h with rfl | rfl | rfl | rfl <;> (rcases (show i = 0 ∨ i = 1 ∨ i = 2 ∨ i = 3 ∨ i = 4 ∨ i = 5 ∨ i = 6 by omega) with rfl | rfl | rfl | rfl | rfl | rfl | rfl <;> rfl)
theorem IsRn.e4 {t : Nat} {r : Nat → Nat → Option Nat} (h : IsRn t) (hG : GR r) : r t 4 = some (t + 1) := by
  rcases h with rfl | rfl | rfl | rfl <;> exact GR.at hG (by decide)
theorem IsRn.e6 {t : Nat} {r : Nat → Nat → Option Nat} (h : IsRn t) (hG : GR r) : r t 6 = some (t + 9) := by
  rcases h with rfl | rfl | rfl | rfl <;> exact GR.at hG (by decide)
theorem IsRn.er {t i : Nat} {r : Nat → Nat → Option Nat} (h : IsRn t) (hG : GR r) (hi : i < 7) : r (t + 1) i = some (t + 2 + i) := by
  rcases h with rfl | rfl | rfl | rfl <;> (rcases (show i = 0 ∨ i = 1 ∨ i = 2 ∨ i = 3 ∨ i = 4 ∨ i = 5 ∨ i = 6 by omega) with rfl | rfl | rfl | rfl | rfl | rfl | rfl <;> exact GR.at hG (by decide))
theorem sl_e {s : Nat} {r : Nat → Nat → Option Nat} (hG : GR r) (hs : s < 3) : r 127 s = some (128 + 10 * s) := by
  rcases (show s = 0 ∨ s = 1 ∨ s = 2 by omega) with rfl | rfl | rfl <;> exact GR.at hG (by decide)
theorem sl_rn {s : Nat} (hs : s < 3) : IsRn (128 + 10 * s) := by
  rcases (show s = 0 ∨ s = 1 ∨ s = 2 by omega) with rfl | rfl | rfl <;> (unfold IsRn; decide)
/-! reads behind writes -/
theorem rI_s {h : PH} {c k : Nat} {x : Int32} : (sI h c k x).1 c k = x := by simp [sI, wI, up2_self, upd]
theorem rI_k {h : PH} {c k j : Nat} {x : Int32} (hj : j ≠ k) : (sI h c k x).1 c j = h.1 c j := by simp [sI, wI, up2_self, upd, hj]
theorem rI_c {h : PH} {c k a j : Nat} {x : Int32} (ha : a ≠ c) : (sI h c k x).1 a j = h.1 a j := by simp [sI, wI, up2_ne _ _ ha]
theorem rL_s {h : PH} {c k : Nat} {x : Int64} : (sL h c k x).2.1 c k = x := by simp [sL, wL, up2_self, vp_updL]
theorem rL_k {h : PH} {c k j : Nat} {x : Int64} (hj : j ≠ k) : (sL h c k x).2.1 c j = h.2.1 c j := by simp [sL, wL, up2_self, vp_updL, hj]
theorem rL_c {h : PH} {c k a j : Nat} {x : Int64} (ha : a ≠ c) : (sL h c k x).2.1 a j = h.2.1 a j := by simp [sL, wL, up2_ne _ _ ha]
theorem rR_s {h : PH} {c k : Nat} {x : Option Nat} : (sR h c k x).2.2 c k = x := by simp [sR, wR, up2_self, va_up]
theorem rR_k {h : PH} {c k j : Nat} {x : Option Nat} (hj : j ≠ k) : (sR h c k x).2.2 c j = h.2.2 c j := by simp [sR, wR, up2_self, va_up, hj]
theorem rR_c {h : PH} {c k a j : Nat} {x : Option Nat} (ha : a ≠ c) : (sR h c k x).2.2 a j = h.2.2 a j := by simp [sR, wR, up2_ne _ _ ha]
theorem rW_s {h : PH} {c : Nat} {g : Nat → Int32} : (wI h c g).1 c = g := by simp [wI, up2_self]
theorem rW_c {h : PH} {c a : Nat} {g : Nat → Int32} (ha : a ≠ c) : (wI h c g).1 a = h.1 a := by simp [wI, up2_ne _ _ ha]
theorem rWL_s {h : PH} {c : Nat} {g : Nat → Int64} : (wL h c g).2.1 c = g := by simp [wL, up2_self]
theorem rWL_c {h : PH} {c a : Nat} {g : Nat → Int64} (ha : a ≠ c) : (wL h c g).2.1 a = h.2.1 a := by simp [wL, up2_ne _ _ ha]
section JN
variable {M M2 : MD} {R : Room} {sh0 : SH} {Z : ZT} {pc nx : Nat} {L : List (Option PV)} {st : List PV} {sh : SH} {h : PH}
theorem J_cvI {x y : Int32} (e : x = y) (k : J M R sh0 Z pc L (pI y :: st) sh h) : J M R sh0 Z pc L (pI x :: st) sh h := e ▸ k
theorem J_cvL {x y : Int64} (e : x = y) (k : J M R sh0 Z pc L (pL y :: st) sh h) : J M R sh0 Z pc L (pL x :: st) sh h := e ▸ k
theorem J_iconstN {n : Nat} (hd : DI M pc (.iconst (n : Int)) 1 nx) (k : J M R sh0 Z nx L (pI (nI n) :: st) sh h) : J M R sh0 Z pc L st sh h := J_iconst hd rfl k
theorem J_iaddN {a b : Nat} (hd : DI M pc .iadd 1 nx) (k : J M R sh0 Z nx L (pI (nI (a + b)) :: st) sh h) : J M R sh0 Z pc L (pI (nI b) :: pI (nI a) :: st) sh h := J_iadd hd (J_cvI (nI_add a b) k)
theorem J_imulN {a b : Nat} (hd : DI M pc .imul 1 nx) (k : J M R sh0 Z nx L (pI (nI (a * b)) :: st) sh h) : J M R sh0 Z pc L (pI (nI b) :: pI (nI a) :: st) sh h := J_imul hd (J_cvI (pk_mul a b) k)
theorem J_isubN {a b : Nat} (hd : DI M pc .isub 1 nx) (hab : b ≤ a) (k : J M R sh0 Z nx L (pI (nI (a - b)) :: st) sh h) : J M R sh0 Z pc L (pI (nI b) :: pI (nI a) :: st) sh h := J_isub hd (J_cvI (pk_sub hab) k)
theorem J_idivN {a b : Nat} (hd : DI M pc .idiv 1 nx) (ha : a < 2 ^ 31) (h0 : 0 < b) (hb : b < 2 ^ 31) (k : J M R sh0 Z nx L (pI (nI (a / b)) :: st) sh h) : J M R sh0 Z pc L (pI (nI b) :: pI (nI a) :: st) sh h := J_idiv hd (nI_ne0 h0 hb) (J_cvI (pk_div ha h0 hb) k)
theorem J_iremN {a b : Nat} (hd : DI M pc .irem 1 nx) (ha : a < 2 ^ 31) (h0 : 0 < b) (hb : b < 2 ^ 31) (k : J M R sh0 Z nx L (pI (nI (a % b)) :: st) sh h) : J M R sh0 Z pc L (pI (nI b) :: pI (nI a) :: st) sh h := J_irem hd (nI_ne0 h0 hb) (J_cvI (pk_rem ha h0 hb) k)
theorem J_i2lN {a : Nat} (hd : DI M pc .i2l 1 nx) (ha : a < 2 ^ 31) (k : J M R sh0 Z nx L (pL (lN a) :: st) sh h) : J M R sh0 Z pc L (pI (nI a) :: st) sh h := J_i2l hd (J_cvL (nI_l ha) k)
theorem J_iincN {q : Nat} {n a : Nat} {L' : List (Option PV)} (hd : DI M pc (.iinc q (n : Int)) 3 nx) (hx : L[q]? = some (some (pI (nI a)))) (hq : q < mnL M) (hL : st1 L q (pI (nI (a + n))) = L') (k : J M R sh0 Z nx L' st sh h) : J M R sh0 Z pc L st sh h := J_iinc hd hx (nI_add a n) hq hL k
theorem nI_eq0 {a : Nat} (ha : a < 2 ^ 31) : nI a = 0 ↔ a = 0 := nI_eq ha (by decide) (b := 0)

theorem J_icmp_eqN {a b : Nat} {tgt : Nat} (hd : DI M pc (.if_icmp .eq ((tgt : Int) - (pc : Int))) 3 nx) (ha : a < 2 ^ 31) (hb : b < 2 ^ 31) (kt : a = b → J M R sh0 Z tgt L st sh h) (kf : ¬ a = b → J M R sh0 Z nx L st sh h) : J M R sh0 Z pc L (pI (nI b) :: pI (nI a) :: st) sh h := J_icmp_eq hd (fun q => kt ((nI_eq ha hb).mp q)) (fun q => kf (fun z => q ((nI_eq ha hb).mpr z)))
theorem J_icmp_neN {a b : Nat} {tgt : Nat} (hd : DI M pc (.if_icmp .ne ((tgt : Int) - (pc : Int))) 3 nx) (ha : a < 2 ^ 31) (hb : b < 2 ^ 31) (kt : ¬ a = b → J M R sh0 Z tgt L st sh h) (kf : a = b → J M R sh0 Z nx L st sh h) : J M R sh0 Z pc L (pI (nI b) :: pI (nI a) :: st) sh h := J_icmp_ne hd (fun q => kt (fun z => q ((nI_eq ha hb).mpr z))) (fun q => kf ((nI_eq ha hb).mp q))
theorem J_icmp_ltN {a b : Nat} {tgt : Nat} (hd : DI M pc (.if_icmp .lt ((tgt : Int) - (pc : Int))) 3 nx) (ha : a < 2 ^ 31) (hb : b < 2 ^ 31) (kt : a < b → J M R sh0 Z tgt L st sh h) (kf : ¬ a < b → J M R sh0 Z nx L st sh h) : J M R sh0 Z pc L (pI (nI b) :: pI (nI a) :: st) sh h := J_icmp_lt hd (fun q => kt ((nI_ltI ha hb).mp q)) (fun q => kf (fun z => q ((nI_ltI ha hb).mpr z)))
theorem J_icmp_geN {a b : Nat} {tgt : Nat} (hd : DI M pc (.if_icmp .ge ((tgt : Int) - (pc : Int))) 3 nx) (ha : a < 2 ^ 31) (hb : b < 2 ^ 31) (kt : b ≤ a → J M R sh0 Z tgt L st sh h) (kf : ¬ b ≤ a → J M R sh0 Z nx L st sh h) : J M R sh0 Z pc L (pI (nI b) :: pI (nI a) :: st) sh h := J_icmp_ge hd (fun q => kt ((nI_leI hb ha).mp q)) (fun q => kf (fun z => q ((nI_leI hb ha).mpr z)))
theorem J_icmp_gtN {a b : Nat} {tgt : Nat} (hd : DI M pc (.if_icmp .gt ((tgt : Int) - (pc : Int))) 3 nx) (ha : a < 2 ^ 31) (hb : b < 2 ^ 31) (kt : b < a → J M R sh0 Z tgt L st sh h) (kf : ¬ b < a → J M R sh0 Z nx L st sh h) : J M R sh0 Z pc L (pI (nI b) :: pI (nI a) :: st) sh h := J_icmp_gt hd (fun q => kt ((nI_ltI hb ha).mp q)) (fun q => kf (fun z => q ((nI_ltI hb ha).mpr z)))
theorem J_icmp_leN {a b : Nat} {tgt : Nat} (hd : DI M pc (.if_icmp .le ((tgt : Int) - (pc : Int))) 3 nx) (ha : a < 2 ^ 31) (hb : b < 2 ^ 31) (kt : a ≤ b → J M R sh0 Z tgt L st sh h) (kf : ¬ a ≤ b → J M R sh0 Z nx L st sh h) : J M R sh0 Z pc L (pI (nI b) :: pI (nI a) :: st) sh h := J_icmp_le hd (fun q => kt ((nI_leI ha hb).mp q)) (fun q => kf (fun z => q ((nI_leI ha hb).mpr z)))
theorem J_if_eqN {a : Nat} {tgt : Nat} (hd : DI M pc (.ifCond .eq ((tgt : Int) - (pc : Int))) 3 nx) (ha : a < 2 ^ 31) (kt : a = 0 → J M R sh0 Z tgt L st sh h) (kf : ¬ a = 0 → J M R sh0 Z nx L st sh h) : J M R sh0 Z pc L (pI (nI a) :: st) sh h := J_if_eq hd (fun q => kt ((nI_eq0 ha).mp q)) (fun q => kf (fun z => q ((nI_eq0 ha).mpr z)))
theorem J_if_neN {a : Nat} {tgt : Nat} (hd : DI M pc (.ifCond .ne ((tgt : Int) - (pc : Int))) 3 nx) (ha : a < 2 ^ 31) (kt : ¬ a = 0 → J M R sh0 Z tgt L st sh h) (kf : a = 0 → J M R sh0 Z nx L st sh h) : J M R sh0 Z pc L (pI (nI a) :: st) sh h := J_if_ne hd (fun q => kt (fun z => q ((nI_eq0 ha).mpr z))) (fun q => kf ((nI_eq0 ha).mp q))
theorem J_if_leN {a : Nat} {tgt : Nat} (hd : DI M pc (.ifCond .le ((tgt : Int) - (pc : Int))) 3 nx) (ha : a < 2 ^ 31) (kt : a = 0 → J M R sh0 Z tgt L st sh h) (kf : 0 < a → J M R sh0 Z nx L st sh h) : J M R sh0 Z pc L (pI (nI a) :: st) sh h := J_if_le hd (fun q => kt (by rcases Nat.eq_zero_or_pos a with e | e; exact e; exact absurd q (nI_nle e ha))) (fun q => kf (by rcases Nat.eq_zero_or_pos a with e | e; exact absurd (by rw [e]; decide) q; exact e))
theorem J_if_gtN {a : Nat} {tgt : Nat} (hd : DI M pc (.ifCond .gt ((tgt : Int) - (pc : Int))) 3 nx) (ha : a < 2 ^ 31) (kt : 0 < a → J M R sh0 Z tgt L st sh h) (kf : a = 0 → J M R sh0 Z nx L st sh h) : J M R sh0 Z pc L (pI (nI a) :: st) sh h := J_if_gt hd (fun q => kt (by rcases Nat.eq_zero_or_pos a with e | e; exact absurd q (by rw [e]; decide); exact e)) (fun q => kf (by rcases Nat.eq_zero_or_pos a with e | e; exact e; exact absurd (nI_lt (a := 0) e ha) q))
theorem J_if_ltN {a : Nat} {tgt : Nat} (hd : DI M pc (.ifCond .lt ((tgt : Int) - (pc : Int))) 3 nx) (ha : a < 2 ^ 31) (kf : J M R sh0 Z nx L st sh h) : J M R sh0 Z pc L (pI (nI a) :: st) sh h := J_if_lt hd (fun q => absurd q (nI_pos ha)) (fun _ => kf)
theorem J_if_geN {a : Nat} {tgt : Nat} (hd : DI M pc (.ifCond .ge ((tgt : Int) - (pc : Int))) 3 nx) (ha : a < 2 ^ 31) (kt : J M R sh0 Z tgt L st sh h) : J M R sh0 Z pc L (pI (nI a) :: st) sh h := J_if_ge hd (fun _ => kt) (fun q => absurd (nI_pos' ha) q)

theorem J_ialdN {c n j : Nat} (hd : DI M pc .iaload 1 nx) (hc : sh[c]? = some (.inr (0, n))) (hn : n < 2 ^ 31) (hj : j < n) (kk : J M R sh0 Z nx L (pI (h.1 c j) :: st) sh h) : J M R sh0 Z pc L (pI (nI j) :: pR (some c) :: st) sh h := J_iald hd hc (vp_in_nI hj hn) (by rw [nI_clamp (by omega)]; exact kk)
theorem J_baldN {c n j : Nat} (hd : DI M pc .baload 1 nx) (hc : sh[c]? = some (.inr (1, n))) (hn : n < 2 ^ 31) (hj : j < n) (kk : J M R sh0 Z nx L (pI (h.1 c j) :: st) sh h) : J M R sh0 Z pc L (pI (nI j) :: pR (some c) :: st) sh h := J_bald hd hc (vp_in_nI hj hn) (by rw [nI_clamp (by omega)]; exact kk)
theorem J_zaldN {c n j : Nat} (hd : DI M pc .baload 1 nx) (hc : sh[c]? = some (.inr (2, n))) (hn : n < 2 ^ 31) (hj : j < n) (kk : J M R sh0 Z nx L (pI (h.1 c j) :: st) sh h) : J M R sh0 Z pc L (pI (nI j) :: pR (some c) :: st) sh h := J_zald hd hc (vp_in_nI hj hn) (by rw [nI_clamp (by omega)]; exact kk)
theorem J_laldN {c n j : Nat} (hd : DI M pc .laload 1 nx) (hc : sh[c]? = some (.inr (3, n))) (hn : n < 2 ^ 31) (hj : j < n) (kk : J M R sh0 Z nx L (pL (h.2.1 c j) :: st) sh h) : J M R sh0 Z pc L (pI (nI j) :: pR (some c) :: st) sh h := J_lald hd hc (vp_in_nI hj hn) (by rw [nI_clamp (by omega)]; exact kk)
theorem J_iastN {c n j : Nat} {x : Int32} (hd : DI M pc .iastore 1 nx) (hc : sh[c]? = some (.inr (0, n))) (hn : n < 2 ^ 31) (hj : j < n) (kk : J M R sh0 Z nx L st sh (sI h c j x)) : J M R sh0 Z pc L (pI x :: pI (nI j) :: pR (some c) :: st) sh h := J_iast hd hc (vp_in_nI hj hn) (by rw [nI_clamp (by omega)]; exact kk)
theorem J_bastN {c n j : Nat} {x : Int32} (hd : DI M pc .bastore 1 nx) (hc : sh[c]? = some (.inr (1, n))) (hn : n < 2 ^ 31) (hj : j < n) (kk : J M R sh0 Z nx L st sh (sI h c j (vp_nar .byte x))) : J M R sh0 Z pc L (pI x :: pI (nI j) :: pR (some c) :: st) sh h := J_bast hd hc (vp_in_nI hj hn) (by rw [nI_clamp (by omega)]; exact kk)
theorem J_zastN {c n j : Nat} {x : Int32} (hd : DI M pc .bastore 1 nx) (hc : sh[c]? = some (.inr (2, n))) (hn : n < 2 ^ 31) (hj : j < n) (kk : J M R sh0 Z nx L st sh (sI h c j (vp_nar .boolean x))) : J M R sh0 Z pc L (pI x :: pI (nI j) :: pR (some c) :: st) sh h := J_zast hd hc (vp_in_nI hj hn) (by rw [nI_clamp (by omega)]; exact kk)
theorem J_lastN {c n j : Nat} {x : Int64} (hd : DI M pc .lastore 1 nx) (hc : sh[c]? = some (.inr (3, n))) (hn : n < 2 ^ 31) (hj : j < n) (kk : J M R sh0 Z nx L st sh (sL h c j x)) : J M R sh0 Z pc L (pL x :: pI (nI j) :: pR (some c) :: st) sh h := J_last hd hc (vp_in_nI hj hn) (by rw [nI_clamp (by omega)]; exact kk)
theorem J_aald4N {c n j : Nat} {r : Option Nat} (hd : DI M pc .aaload 1 nx) (hc : sh[c]? = some (.inr (4, n))) (hn : n < 2 ^ 31) (hj : j < n) (he : h.2.2 c j = r) (kk : J M R sh0 Z nx L (pR r :: st) sh h) : J M R sh0 Z pc L (pI (nI j) :: pR (some c) :: st) sh h := J_aald4 hd hc (vp_in_nI hj hn) (by rw [nI_clamp (by omega)]; exact he) kk
theorem J_aald5N {c n j : Nat} {r : Option Nat} (hd : DI M pc .aaload 1 nx) (hc : sh[c]? = some (.inr (5, n))) (hn : n < 2 ^ 31) (hj : j < n) (he : h.2.2 c j = r) (kk : J M R sh0 Z nx L (pR r :: st) sh h) : J M R sh0 Z pc L (pI (nI j) :: pR (some c) :: st) sh h := J_aald5 hd hc (vp_in_nI hj hn) (by rw [nI_clamp (by omega)]; exact he) kk
theorem J_aald6N {c n j : Nat} {r : Option Nat} (hd : DI M pc .aaload 1 nx) (hc : sh[c]? = some (.inr (6, n))) (hn : n < 2 ^ 31) (hj : j < n) (he : h.2.2 c j = r) (kk : J M R sh0 Z nx L (pR r :: st) sh h) : J M R sh0 Z pc L (pI (nI j) :: pR (some c) :: st) sh h := J_aald6 hd hc (vp_in_nI hj hn) (by rw [nI_clamp (by omega)]; exact he) kk
theorem J_aald7N {c n j : Nat} {r : Option Nat} (hd : DI M pc .aaload 1 nx) (hc : sh[c]? = some (.inr (7, n))) (hn : n < 2 ^ 31) (hj : j < n) (he : h.2.2 c j = r) (kk : J M R sh0 Z nx L (pR r :: st) sh h) : J M R sh0 Z pc L (pI (nI j) :: pR (some c) :: st) sh h := J_aald7 hd hc (vp_in_nI hj hn) (by rw [nI_clamp (by omega)]; exact he) kk
theorem J_aald8N {c n j : Nat} {r : Option Nat} (hd : DI M pc .aaload 1 nx) (hc : sh[c]? = some (.inr (8, n))) (hn : n < 2 ^ 31) (hj : j < n) (he : h.2.2 c j = r) (kk : J M R sh0 Z nx L (pR r :: st) sh h) : J M R sh0 Z pc L (pI (nI j) :: pR (some c) :: st) sh h := J_aald8 hd hc (vp_in_nI hj hn) (by rw [nI_clamp (by omega)]; exact he) kk
/-! contracts by kinds of answers, over the fixed shapes -/
def CtI (M : MD) (h : PH) (as : List PV) (P : Int32 → PH → Prop) : Prop := Ct M SHF SHF h as (fun r h' => ∃ v, r = some (pI v) ∧ P v h')
def CtL (M : MD) (h : PH) (as : List PV) (P : Int64 → PH → Prop) : Prop := Ct M SHF SHF h as (fun r h' => ∃ v, r = some (pL v) ∧ P v h')
def CtV (M : MD) (h : PH) (as : List PV) (P : PH → Prop) : Prop := Ct M SHF SHF h as (fun r h' => r = none ∧ P h')
def CtX (M : MD) (h : PH) (as : List PV) (P : Nat → PH → Prop) : Prop := Ct M SHF SHF h as (fun r h' => ∃ v, r = some (pX v) ∧ P v h')
theorem CtI.mono {M : MD} {h : PH} {as : List PV} {P P' : Int32 → PH → Prop} (hc : CtI M h as P) (hq : ∀ v h', P v h' → P' v h') : CtI M h as P' := Ct.mono hc (fun r h' ⟨v, e, q⟩ => ⟨v, e, hq _ _ q⟩)
theorem CtL.mono {M : MD} {h : PH} {as : List PV} {P P' : Int64 → PH → Prop} (hc : CtL M h as P) (hq : ∀ v h', P v h' → P' v h') : CtL M h as P' := Ct.mono hc (fun r h' ⟨v, e, q⟩ => ⟨v, e, hq _ _ q⟩)
theorem CtV.mono {M : MD} {h : PH} {as : List PV} {P P' : PH → Prop} (hc : CtV M h as P) (hq : ∀ h', P h' → P' h') : CtV M h as P' := Ct.mono hc (fun r h' ⟨e, q⟩ => ⟨e, hq _ q⟩)
abbrev ZI (P : Int32 → PH → Prop) : ZT := ZM SHF SHF (fun r h' => ∃ v, r = some (pI v) ∧ P v h')
abbrev ZL (P : Int64 → PH → Prop) : ZT := ZM SHF SHF (fun r h' => ∃ v, r = some (pL v) ∧ P v h')
abbrev ZV (P : PH → Prop) : ZT := ZM SHF SHF (fun r h' => r = none ∧ P h')
abbrev ZX (P : Nat → PH → Prop) : ZT := ZM SHF SHF (fun r h' => ∃ v, r = some (pX v) ∧ P v h')
abbrev RF (M : MD) : Room := rmOf M (SHF.length - SHF.length) (ssz SHF - ssz SHF)
theorem CR.f {M : MD} : CR (RF M) SHF SHF SHF := CR.same
theorem J_retI {x : Int32} {P : Int32 → PH → Prop} (hd : DI M pc .ireturn 1 nx) (hrt : mret M = some .int) (hq : P x h) : J M R SHF (ZI P) pc L [pI x] SHF h := J_ireturn hd hrt ⟨x, rfl, hq⟩
theorem J_retZ {x : Int32} {ty : FieldType} {P : Int32 → PH → Prop} (hd : DI M pc .ireturn 1 nx) (hrt : mret M = some ty) (hn : narrow ty (.int x) = .int x) (hq : P x h) : J M R SHF (ZI P) pc L [pI x] SHF h := J_zreturn hd hrt hn ⟨x, rfl, hq⟩
theorem J_retL {x : Int64} {P : Int64 → PH → Prop} (hd : DI M pc .lreturn 1 nx) (hrt : mret M = some .long) (hq : P x h) : J M R SHF (ZL P) pc L [pL x] SHF h := J_lreturn hd hrt ⟨x, rfl, hq⟩
theorem J_retV {P : PH → Prop} (hd : DI M pc .return_ 1 nx) (hrt : mret M = none) (hq : P h) : J M R SHF (ZV P) pc L [] SHF h := J_vreturn hd hrt ⟨rfl, hq⟩
theorem J_retX {x : Nat} {rt : FieldType} {P : Nat → PH → Prop} (hd : DI M pc .areturn 1 nx) (hrt : mret M = some rt) (hty : (∃ n, rt = .object n) ∨ ∃ t, rt = .array t) (hq : P x h) : J M R SHF (ZX P) pc L [pX x] SHF h := J_xreturn hd hrt hty ⟨x, rfl, hq⟩

theorem J_cVI {i ci c n : Nat} {as : List PV} {st0 : List PV} {P : Int32 → PH → Prop} (hd : DI M pc (.invokevirtual i) 3 nx) (hk : MLk (mown M) i M2) (hok : MOK M2 n) (hv : MVt M2) (hc : SHF[c]? = some (.inl ci)) (hci : ci < 11) (hcl : clR ci = (my M2).cls) (hst : st0 = as.reverse ++ pR (some c) :: st) (hn : as.length = n) (hw : (st.map pcat).sum ≤ 8) (hrm : mfr M2 + 1 ≤ R.frames ∧ 8 + (mnL M2 + 11) + mlo M2 ≤ R.locals) (hcr : CR R SHF SHF SHF) (hct : CtI M2 h (pR (some c) :: as) P) (kk : ∀ v h', P v h' → J M R SHF Z nx L (pI v :: st) SHF h') : J M R SHF Z pc L st0 SHF h := J_callV hd hk hok hv hc hci hcl hst hn hw hrm hcr hct (fun r h' ⟨v, e, q⟩ => by subst e; exact kk v h' q)
theorem J_cSI {i n : Nat} {as : List PV} {st0 : List PV} {P : Int32 → PH → Prop} (hd : DI M pc (.invokestatic i) 3 nx) (hk : MLk (mown M) i M2) (hok : MOK M2 n) (hv : Cond.static (my M2) ∈ lw_g) (hst : st0 = as.reverse ++ st) (hn : as.length = n) (hw : (st.map pcat).sum ≤ 8) (hrm : mfr M2 + 1 ≤ R.frames ∧ 8 + (mnL M2 + 11) + mlo M2 ≤ R.locals) (hcr : CR R SHF SHF SHF) (hct : CtI M2 h as P) (kk : ∀ v h', P v h' → J M R SHF Z nx L (pI v :: st) SHF h') : J M R SHF Z pc L st0 SHF h := J_callS hd hk hok hv hst hn hw hrm hcr hct (fun r h' ⟨v, e, q⟩ => by subst e; exact kk v h' q)
theorem J_cNI {i n : Nat} {as : List PV} {st0 : List PV} {P : Int32 → PH → Prop} (hd : DI M pc (.invokestatic i) 3 nx) (hk : (mown M, i, my M2, "LastBoat") ∈ nbL) (hok : MOK M2 n) (hv : Cond.static (my M2) ∈ lw_g) (hst : st0 = as.reverse ++ st) (hn : as.length = n) (hw : (st.map pcat).sum ≤ 8) (hrm : mfr M2 + 1 ≤ R.frames ∧ 8 + (mnL M2 + 11) + mlo M2 ≤ R.locals) (hcr : CR R SHF SHF SHF) (hct : CtI M2 h as P) (kk : ∀ v h', P v h' → J M R SHF Z nx L (pI v :: st) SHF h') : J M R SHF Z pc L st0 SHF h := J_callSN hd hk hok hv hst hn hw hrm hcr hct (fun r h' ⟨v, e, q⟩ => by subst e; exact kk v h' q)
theorem J_cVL {i ci c n : Nat} {as : List PV} {st0 : List PV} {P : Int64 → PH → Prop} (hd : DI M pc (.invokevirtual i) 3 nx) (hk : MLk (mown M) i M2) (hok : MOK M2 n) (hv : MVt M2) (hc : SHF[c]? = some (.inl ci)) (hci : ci < 11) (hcl : clR ci = (my M2).cls) (hst : st0 = as.reverse ++ pR (some c) :: st) (hn : as.length = n) (hw : (st.map pcat).sum ≤ 8) (hrm : mfr M2 + 1 ≤ R.frames ∧ 8 + (mnL M2 + 11) + mlo M2 ≤ R.locals) (hcr : CR R SHF SHF SHF) (hct : CtL M2 h (pR (some c) :: as) P) (kk : ∀ v h', P v h' → J M R SHF Z nx L (pL v :: st) SHF h') : J M R SHF Z pc L st0 SHF h := J_callV hd hk hok hv hc hci hcl hst hn hw hrm hcr hct (fun r h' ⟨v, e, q⟩ => by subst e; exact kk v h' q)
theorem J_cSL {i n : Nat} {as : List PV} {st0 : List PV} {P : Int64 → PH → Prop} (hd : DI M pc (.invokestatic i) 3 nx) (hk : MLk (mown M) i M2) (hok : MOK M2 n) (hv : Cond.static (my M2) ∈ lw_g) (hst : st0 = as.reverse ++ st) (hn : as.length = n) (hw : (st.map pcat).sum ≤ 8) (hrm : mfr M2 + 1 ≤ R.frames ∧ 8 + (mnL M2 + 11) + mlo M2 ≤ R.locals) (hcr : CR R SHF SHF SHF) (hct : CtL M2 h as P) (kk : ∀ v h', P v h' → J M R SHF Z nx L (pL v :: st) SHF h') : J M R SHF Z pc L st0 SHF h := J_callS hd hk hok hv hst hn hw hrm hcr hct (fun r h' ⟨v, e, q⟩ => by subst e; exact kk v h' q)
theorem J_cNL {i n : Nat} {as : List PV} {st0 : List PV} {P : Int64 → PH → Prop} (hd : DI M pc (.invokestatic i) 3 nx) (hk : (mown M, i, my M2, "LastBoat") ∈ nbL) (hok : MOK M2 n) (hv : Cond.static (my M2) ∈ lw_g) (hst : st0 = as.reverse ++ st) (hn : as.length = n) (hw : (st.map pcat).sum ≤ 8) (hrm : mfr M2 + 1 ≤ R.frames ∧ 8 + (mnL M2 + 11) + mlo M2 ≤ R.locals) (hcr : CR R SHF SHF SHF) (hct : CtL M2 h as P) (kk : ∀ v h', P v h' → J M R SHF Z nx L (pL v :: st) SHF h') : J M R SHF Z pc L st0 SHF h := J_callSN hd hk hok hv hst hn hw hrm hcr hct (fun r h' ⟨v, e, q⟩ => by subst e; exact kk v h' q)
theorem J_cVX {i ci c n : Nat} {as : List PV} {st0 : List PV} {P : Nat → PH → Prop} (hd : DI M pc (.invokevirtual i) 3 nx) (hk : MLk (mown M) i M2) (hok : MOK M2 n) (hv : MVt M2) (hc : SHF[c]? = some (.inl ci)) (hci : ci < 11) (hcl : clR ci = (my M2).cls) (hst : st0 = as.reverse ++ pR (some c) :: st) (hn : as.length = n) (hw : (st.map pcat).sum ≤ 8) (hrm : mfr M2 + 1 ≤ R.frames ∧ 8 + (mnL M2 + 11) + mlo M2 ≤ R.locals) (hcr : CR R SHF SHF SHF) (hct : CtX M2 h (pR (some c) :: as) P) (kk : ∀ v h', P v h' → J M R SHF Z nx L (pX v :: st) SHF h') : J M R SHF Z pc L st0 SHF h := J_callV hd hk hok hv hc hci hcl hst hn hw hrm hcr hct (fun r h' ⟨v, e, q⟩ => by subst e; exact kk v h' q)
theorem J_cSX {i n : Nat} {as : List PV} {st0 : List PV} {P : Nat → PH → Prop} (hd : DI M pc (.invokestatic i) 3 nx) (hk : MLk (mown M) i M2) (hok : MOK M2 n) (hv : Cond.static (my M2) ∈ lw_g) (hst : st0 = as.reverse ++ st) (hn : as.length = n) (hw : (st.map pcat).sum ≤ 8) (hrm : mfr M2 + 1 ≤ R.frames ∧ 8 + (mnL M2 + 11) + mlo M2 ≤ R.locals) (hcr : CR R SHF SHF SHF) (hct : CtX M2 h as P) (kk : ∀ v h', P v h' → J M R SHF Z nx L (pX v :: st) SHF h') : J M R SHF Z pc L st0 SHF h := J_callS hd hk hok hv hst hn hw hrm hcr hct (fun r h' ⟨v, e, q⟩ => by subst e; exact kk v h' q)
theorem J_cNX {i n : Nat} {as : List PV} {st0 : List PV} {P : Nat → PH → Prop} (hd : DI M pc (.invokestatic i) 3 nx) (hk : (mown M, i, my M2, "LastBoat") ∈ nbL) (hok : MOK M2 n) (hv : Cond.static (my M2) ∈ lw_g) (hst : st0 = as.reverse ++ st) (hn : as.length = n) (hw : (st.map pcat).sum ≤ 8) (hrm : mfr M2 + 1 ≤ R.frames ∧ 8 + (mnL M2 + 11) + mlo M2 ≤ R.locals) (hcr : CR R SHF SHF SHF) (hct : CtX M2 h as P) (kk : ∀ v h', P v h' → J M R SHF Z nx L (pX v :: st) SHF h') : J M R SHF Z pc L st0 SHF h := J_callSN hd hk hok hv hst hn hw hrm hcr hct (fun r h' ⟨v, e, q⟩ => by subst e; exact kk v h' q)
theorem J_cVV {i ci c n : Nat} {as : List PV} {st0 : List PV} {P : PH → Prop} (hd : DI M pc (.invokevirtual i) 3 nx) (hk : MLk (mown M) i M2) (hok : MOK M2 n) (hv : MVt M2) (hc : SHF[c]? = some (.inl ci)) (hci : ci < 11) (hcl : clR ci = (my M2).cls) (hst : st0 = as.reverse ++ pR (some c) :: st) (hn : as.length = n) (hw : (st.map pcat).sum ≤ 8) (hrm : mfr M2 + 1 ≤ R.frames ∧ 8 + (mnL M2 + 11) + mlo M2 ≤ R.locals) (hcr : CR R SHF SHF SHF) (hct : CtV M2 h (pR (some c) :: as) P) (kk : ∀ h', P h' → J M R SHF Z nx L st SHF h') : J M R SHF Z pc L st0 SHF h := J_callV hd hk hok hv hc hci hcl hst hn hw hrm hcr hct (fun r h' ⟨e, q⟩ => by subst e; exact kk h' q)
theorem J_cSV {i n : Nat} {as : List PV} {st0 : List PV} {P : PH → Prop} (hd : DI M pc (.invokestatic i) 3 nx) (hk : MLk (mown M) i M2) (hok : MOK M2 n) (hv : Cond.static (my M2) ∈ lw_g) (hst : st0 = as.reverse ++ st) (hn : as.length = n) (hw : (st.map pcat).sum ≤ 8) (hrm : mfr M2 + 1 ≤ R.frames ∧ 8 + (mnL M2 + 11) + mlo M2 ≤ R.locals) (hcr : CR R SHF SHF SHF) (hct : CtV M2 h as P) (kk : ∀ h', P h' → J M R SHF Z nx L st SHF h') : J M R SHF Z pc L st0 SHF h := J_callS hd hk hok hv hst hn hw hrm hcr hct (fun r h' ⟨e, q⟩ => by subst e; exact kk h' q)
/-! loops -/
theorem J_for {L : Nat → List (Option PV)} {hf : Nat → PH} {e : Nat} (hx : J M R sh0 Z pc (L e) st sh (hf e)) (hs : ∀ i, i < e → J M R sh0 Z pc (L (i + 1)) st sh (hf (i + 1)) → J M R sh0 Z pc (L i) st sh (hf i)) : ∀ i, i ≤ e → J M R sh0 Z pc (L i) st sh (hf i) := by
  intro i hi
  obtain ⟨d, rfl⟩ := Nat.exists_eq_add_of_le hi
  induction d generalizing i with
  | zero => exact hx
  | succ d ih => exact hs i (by omega) (by have := ih (i := i + 1) (by rw [show i + 1 + d = i + (d + 1) by omega]; exact hx) (by rw [show i + 1 + d = i + (d + 1) by omega]; exact hs) (by omega); exact this)
theorem J_forI {α : Type} {L : Nat → α → List (Option PV)} (I : Nat → α → PH → Prop) {e : Nat} (hx : ∀ a h, I e a h → J M R sh0 Z pc (L e a) st sh h) (hs : ∀ i a h, i < e → I i a h → (∀ a' h', I (i + 1) a' h' → J M R sh0 Z pc (L (i + 1) a') st sh h') → J M R sh0 Z pc (L i a) st sh h) : ∀ i a h, i ≤ e → I i a h → J M R sh0 Z pc (L i a) st sh h := by
  intro i a h hi hI
  obtain ⟨d, rfl⟩ := Nat.exists_eq_add_of_le hi
  induction d generalizing i a h with
  | zero => exact hx a h hI
  | succ d ih =>
    refine hs i a h (by omega) hI (fun a' h' hI' => ?_)
    exact ih (i := i + 1) a' h' hI' (by rw [show i + 1 + d = i + (d + 1) by omega]; exact hx) (by rw [show i + 1 + d = i + (d + 1) by omega]; exact hs) (by omega)
end JN

