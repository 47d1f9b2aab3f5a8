/-! ===== rows for each object and array of the world (printed by wip/pure/tables.py) ===== -/
theorem RW_at {b a k v : Nat} (h : ¬ (a = 2 ∧ k = 0)) (e : cR wc412.2.2.1 a k = some v) : RW b a k = some v := (if_neg h).trans e
section RowsT
variable {I J : CF} {b : Nat} {c : Bool}
theorem sh0 : SHL[0]? = some (7, 0) := by decide +kernel
theorem sh1 : SHL[1]? = some (101, 120) := by decide +kernel
theorem sh2 : SHL[2]? = some (6, 0) := by decide +kernel
theorem sh3 : SHL[3]? = some (101, 0) := by decide +kernel
theorem sh4 : SHL[4]? = some (100, 65) := by decide +kernel
theorem sh5 : SHL[5]? = some (100, 5) := by decide +kernel
theorem sh6 : SHL[6]? = some (100, 4) := by decide +kernel
theorem sh7 : SHL[7]? = some (100, 4) := by decide +kernel
theorem sh8 : SHL[8]? = some (4, 0) := by decide +kernel
theorem sh9 : SHL[9]? = some (100, 130) := by decide +kernel
theorem sh10 : SHL[10]? = some (100, 2) := by decide +kernel
theorem sh11 : SHL[11]? = some (100, 6) := by decide +kernel
theorem sh12 : SHL[12]? = some (100, 120) := by decide +kernel
theorem sh13 : SHL[13]? = some (104, 3) := by decide +kernel
theorem sh14 : SHL[14]? = some (102, 3) := by decide +kernel
theorem sh15 : SHL[15]? = some (104, 8) := by decide +kernel
theorem sh16 : SHL[16]? = some (5, 0) := by decide +kernel
theorem sh17 : SHL[17]? = some (100, 24) := by decide +kernel
theorem sh18 : SHL[18]? = some (102, 12) := by decide +kernel
theorem sh19 : SHL[19]? = some (100, 2) := by decide +kernel
theorem sh20 : SHL[20]? = some (0, 0) := by decide +kernel
theorem sh21 : SHL[21]? = some (102, 65) := by decide +kernel
theorem sh22 : SHL[22]? = some (100, 65) := by decide +kernel
theorem sh23 : SHL[23]? = some (100, 65) := by decide +kernel
theorem sh24 : SHL[24]? = some (100, 65) := by decide +kernel
theorem sh25 : SHL[25]? = some (100, 65) := by decide +kernel
theorem sh26 : SHL[26]? = some (100, 65) := by decide +kernel
theorem sh27 : SHL[27]? = some (100, 65) := by decide +kernel
theorem sh28 : SHL[28]? = some (0, 0) := by decide +kernel
theorem sh29 : SHL[29]? = some (102, 65) := by decide +kernel
theorem sh30 : SHL[30]? = some (100, 65) := by decide +kernel
theorem sh31 : SHL[31]? = some (100, 65) := by decide +kernel
theorem sh32 : SHL[32]? = some (100, 65) := by decide +kernel
theorem sh33 : SHL[33]? = some (100, 65) := by decide +kernel
theorem sh34 : SHL[34]? = some (100, 65) := by decide +kernel
theorem sh35 : SHL[35]? = some (100, 65) := by decide +kernel
theorem sh36 : SHL[36]? = some (2, 0) := by decide +kernel
theorem sh37 : SHL[37]? = some (100, 64) := by decide +kernel
theorem sh38 : SHL[38]? = some (100, 64) := by decide +kernel
theorem sh39 : SHL[39]? = some (100, 64) := by decide +kernel
theorem sh40 : SHL[40]? = some (100, 64) := by decide +kernel
theorem sh41 : SHL[41]? = some (1, 0) := by decide +kernel
theorem sh42 : SHL[42]? = some (100, 65) := by decide +kernel
theorem sh43 : SHL[43]? = some (100, 12) := by decide +kernel
theorem sh44 : SHL[44]? = some (3, 0) := by decide +kernel
theorem sh45 : SHL[45]? = some (102, 65) := by decide +kernel
theorem sh46 : SHL[46]? = some (103, 65) := by decide +kernel
theorem sh47 : SHL[47]? = some (4, 0) := by decide +kernel
theorem sh48 : SHL[48]? = some (100, 130) := by decide +kernel
theorem sh49 : SHL[49]? = some (100, 2) := by decide +kernel
theorem sh50 : SHL[50]? = some (100, 6) := by decide +kernel
theorem sh51 : SHL[51]? = some (100, 120) := by decide +kernel
theorem sh52 : SHL[52]? = some (4, 0) := by decide +kernel
theorem sh53 : SHL[53]? = some (100, 130) := by decide +kernel
theorem sh54 : SHL[54]? = some (100, 2) := by decide +kernel
theorem sh55 : SHL[55]? = some (100, 6) := by decide +kernel
theorem sh56 : SHL[56]? = some (100, 120) := by decide +kernel
theorem sh57 : SHL[57]? = some (4, 0) := by decide +kernel
theorem sh58 : SHL[58]? = some (100, 130) := by decide +kernel
theorem sh59 : SHL[59]? = some (100, 2) := by decide +kernel
theorem sh60 : SHL[60]? = some (100, 6) := by decide +kernel
theorem sh61 : SHL[61]? = some (100, 120) := by decide +kernel
theorem sh62 : SHL[62]? = some (4, 0) := by decide +kernel
theorem sh63 : SHL[63]? = some (100, 130) := by decide +kernel
theorem sh64 : SHL[64]? = some (100, 2) := by decide +kernel
theorem sh65 : SHL[65]? = some (100, 6) := by decide +kernel
theorem sh66 : SHL[66]? = some (100, 120) := by decide +kernel
theorem sh67 : SHL[67]? = some (4, 0) := by decide +kernel
theorem sh68 : SHL[68]? = some (100, 130) := by decide +kernel
theorem sh69 : SHL[69]? = some (100, 2) := by decide +kernel
theorem sh70 : SHL[70]? = some (100, 6) := by decide +kernel
theorem sh71 : SHL[71]? = some (100, 120) := by decide +kernel
theorem sh72 : SHL[72]? = some (4, 0) := by decide +kernel
theorem sh73 : SHL[73]? = some (100, 130) := by decide +kernel
theorem sh74 : SHL[74]? = some (100, 2) := by decide +kernel
theorem sh75 : SHL[75]? = some (100, 6) := by decide +kernel
theorem sh76 : SHL[76]? = some (100, 120) := by decide +kernel
theorem sh77 : SHL[77]? = some (4, 0) := by decide +kernel
theorem sh78 : SHL[78]? = some (100, 130) := by decide +kernel
theorem sh79 : SHL[79]? = some (100, 2) := by decide +kernel
theorem sh80 : SHL[80]? = some (100, 6) := by decide +kernel
theorem sh81 : SHL[81]? = some (100, 120) := by decide +kernel
theorem sh82 : SHL[82]? = some (4, 0) := by decide +kernel
theorem sh83 : SHL[83]? = some (100, 130) := by decide +kernel
theorem sh84 : SHL[84]? = some (100, 2) := by decide +kernel
theorem sh85 : SHL[85]? = some (100, 6) := by decide +kernel
theorem sh86 : SHL[86]? = some (100, 120) := by decide +kernel
theorem sh87 : SHL[87]? = some (4, 0) := by decide +kernel
theorem sh88 : SHL[88]? = some (100, 130) := by decide +kernel
theorem sh89 : SHL[89]? = some (100, 2) := by decide +kernel
theorem sh90 : SHL[90]? = some (100, 6) := by decide +kernel
theorem sh91 : SHL[91]? = some (100, 120) := by decide +kernel
theorem sh92 : SHL[92]? = some (4, 0) := by decide +kernel
theorem sh93 : SHL[93]? = some (100, 130) := by decide +kernel
theorem sh94 : SHL[94]? = some (100, 2) := by decide +kernel
theorem sh95 : SHL[95]? = some (100, 6) := by decide +kernel
theorem sh96 : SHL[96]? = some (100, 120) := by decide +kernel
theorem sh97 : SHL[97]? = some (4, 0) := by decide +kernel
theorem sh98 : SHL[98]? = some (100, 130) := by decide +kernel
theorem sh99 : SHL[99]? = some (100, 2) := by decide +kernel
theorem sh100 : SHL[100]? = some (100, 6) := by decide +kernel
theorem sh101 : SHL[101]? = some (100, 120) := by decide +kernel
theorem sh102 : SHL[102]? = some (8, 0) := by decide +kernel
theorem sh103 : SHL[103]? = some (100, 2) := by decide +kernel
theorem sh104 : SHL[104]? = some (106, 2) := by decide +kernel
theorem sh105 : SHL[105]? = some (105, 12) := by decide +kernel
theorem sh106 : SHL[106]? = some (100, 5) := by decide +kernel
theorem sh107 : SHL[107]? = some (100, 5) := by decide +kernel
theorem sh108 : SHL[108]? = some (100, 5) := by decide +kernel
theorem sh109 : SHL[109]? = some (100, 5) := by decide +kernel
theorem sh110 : SHL[110]? = some (100, 5) := by decide +kernel
theorem sh111 : SHL[111]? = some (100, 5) := by decide +kernel
theorem sh112 : SHL[112]? = some (100, 5) := by decide +kernel
theorem sh113 : SHL[113]? = some (100, 5) := by decide +kernel
theorem sh114 : SHL[114]? = some (100, 5) := by decide +kernel
theorem sh115 : SHL[115]? = some (100, 5) := by decide +kernel
theorem sh116 : SHL[116]? = some (100, 5) := by decide +kernel
theorem sh117 : SHL[117]? = some (100, 5) := by decide +kernel
theorem sh118 : SHL[118]? = some (105, 12) := by decide +kernel
theorem sh119 : SHL[119]? = some (100, 5) := by decide +kernel
theorem sh120 : SHL[120]? = some (100, 5) := by decide +kernel
theorem sh121 : SHL[121]? = some (100, 5) := by decide +kernel
theorem sh122 : SHL[122]? = some (100, 5) := by decide +kernel
theorem sh123 : SHL[123]? = some (100, 5) := by decide +kernel
theorem sh124 : SHL[124]? = some (100, 5) := by decide +kernel
theorem sh125 : SHL[125]? = some (100, 5) := by decide +kernel
theorem sh126 : SHL[126]? = some (100, 5) := by decide +kernel
theorem sh127 : SHL[127]? = some (100, 5) := by decide +kernel
theorem sh128 : SHL[128]? = some (100, 5) := by decide +kernel
theorem sh129 : SHL[129]? = some (100, 5) := by decide +kernel
theorem sh130 : SHL[130]? = some (100, 5) := by decide +kernel
theorem sh131 : SHL[131]? = some (105, 2) := by decide +kernel
theorem sh132 : SHL[132]? = some (100, 5) := by decide +kernel
theorem sh133 : SHL[133]? = some (100, 5) := by decide +kernel
theorem sh134 : SHL[134]? = some (105, 2) := by decide +kernel
theorem sh135 : SHL[135]? = some (100, 3) := by decide +kernel
theorem sh136 : SHL[136]? = some (100, 3) := by decide +kernel
theorem sh137 : SHL[137]? = some (100, 2) := by decide +kernel
theorem sh138 : SHL[138]? = some (106, 12) := by decide +kernel
theorem sh139 : SHL[139]? = some (105, 2) := by decide +kernel
theorem sh140 : SHL[140]? = some (100, 5) := by decide +kernel
theorem sh141 : SHL[141]? = some (100, 5) := by decide +kernel
theorem sh142 : SHL[142]? = some (105, 2) := by decide +kernel
theorem sh143 : SHL[143]? = some (100, 5) := by decide +kernel
theorem sh144 : SHL[144]? = some (100, 5) := by decide +kernel
theorem sh145 : SHL[145]? = some (105, 2) := by decide +kernel
theorem sh146 : SHL[146]? = some (100, 5) := by decide +kernel
theorem sh147 : SHL[147]? = some (100, 5) := by decide +kernel
theorem sh148 : SHL[148]? = some (105, 2) := by decide +kernel
theorem sh149 : SHL[149]? = some (100, 5) := by decide +kernel
theorem sh150 : SHL[150]? = some (100, 5) := by decide +kernel
theorem sh151 : SHL[151]? = some (105, 2) := by decide +kernel
theorem sh152 : SHL[152]? = some (100, 5) := by decide +kernel
theorem sh153 : SHL[153]? = some (100, 5) := by decide +kernel
theorem sh154 : SHL[154]? = some (105, 2) := by decide +kernel
theorem sh155 : SHL[155]? = some (100, 5) := by decide +kernel
theorem sh156 : SHL[156]? = some (100, 5) := by decide +kernel
theorem sh157 : SHL[157]? = some (105, 2) := by decide +kernel
theorem sh158 : SHL[158]? = some (100, 5) := by decide +kernel
theorem sh159 : SHL[159]? = some (100, 5) := by decide +kernel
theorem sh160 : SHL[160]? = some (105, 2) := by decide +kernel
theorem sh161 : SHL[161]? = some (100, 5) := by decide +kernel
theorem sh162 : SHL[162]? = some (100, 5) := by decide +kernel
theorem sh163 : SHL[163]? = some (105, 2) := by decide +kernel
theorem sh164 : SHL[164]? = some (100, 5) := by decide +kernel
theorem sh165 : SHL[165]? = some (100, 5) := by decide +kernel
theorem sh166 : SHL[166]? = some (105, 2) := by decide +kernel
theorem sh167 : SHL[167]? = some (100, 5) := by decide +kernel
theorem sh168 : SHL[168]? = some (100, 5) := by decide +kernel
theorem sh169 : SHL[169]? = some (105, 2) := by decide +kernel
theorem sh170 : SHL[170]? = some (100, 5) := by decide +kernel
theorem sh171 : SHL[171]? = some (100, 5) := by decide +kernel
theorem sh172 : SHL[172]? = some (105, 2) := by decide +kernel
theorem sh173 : SHL[173]? = some (100, 5) := by decide +kernel
theorem sh174 : SHL[174]? = some (100, 5) := by decide +kernel
theorem sh175 : SHL[175]? = some (105, 3) := by decide +kernel
theorem sh176 : SHL[176]? = some (100, 300) := by decide +kernel
theorem sh177 : SHL[177]? = some (100, 300) := by decide +kernel
theorem sh178 : SHL[178]? = some (100, 300) := by decide +kernel
theorem sh179 : SHL[179]? = some (105, 8) := by decide +kernel
theorem sh180 : SHL[180]? = some (100, 300) := by decide +kernel
theorem sh181 : SHL[181]? = some (100, 300) := by decide +kernel
theorem sh182 : SHL[182]? = some (100, 300) := by decide +kernel
theorem sh183 : SHL[183]? = some (100, 300) := by decide +kernel
theorem sh184 : SHL[184]? = some (100, 300) := by decide +kernel
theorem sh185 : SHL[185]? = some (100, 300) := by decide +kernel
theorem sh186 : SHL[186]? = some (100, 300) := by decide +kernel
theorem sh187 : SHL[187]? = some (100, 300) := by decide +kernel
theorem sh188 : SHL[188]? = some (102, 3) := by decide +kernel
theorem sh189 : SHL[189]? = some (101, 120) := by decide +kernel
theorem sh190 : SHL[190]? = some (105, 12) := by decide +kernel
theorem sh191 : SHL[191]? = some (100, 5) := by decide +kernel
theorem sh192 : SHL[192]? = some (100, 5) := by decide +kernel
theorem sh193 : SHL[193]? = some (100, 5) := by decide +kernel
theorem sh194 : SHL[194]? = some (100, 5) := by decide +kernel
theorem sh195 : SHL[195]? = some (100, 5) := by decide +kernel
theorem sh196 : SHL[196]? = some (100, 5) := by decide +kernel
theorem sh197 : SHL[197]? = some (100, 5) := by decide +kernel
theorem sh198 : SHL[198]? = some (100, 5) := by decide +kernel
theorem sh199 : SHL[199]? = some (100, 5) := by decide +kernel
theorem sh200 : SHL[200]? = some (100, 5) := by decide +kernel
theorem sh201 : SHL[201]? = some (100, 5) := by decide +kernel
theorem sh202 : SHL[202]? = some (100, 5) := by decide +kernel
theorem sh203 : SHL[203]? = some (100, 5) := by decide +kernel
theorem sh204 : SHL[204]? = some (105, 12) := by decide +kernel
theorem sh205 : SHL[205]? = some (100, 2) := by decide +kernel
theorem sh206 : SHL[206]? = some (100, 2) := by decide +kernel
theorem sh207 : SHL[207]? = some (100, 2) := by decide +kernel
theorem sh208 : SHL[208]? = some (100, 2) := by decide +kernel
theorem sh209 : SHL[209]? = some (100, 2) := by decide +kernel
theorem sh210 : SHL[210]? = some (100, 2) := by decide +kernel
theorem sh211 : SHL[211]? = some (100, 2) := by decide +kernel
theorem sh212 : SHL[212]? = some (100, 2) := by decide +kernel
theorem sh213 : SHL[213]? = some (100, 2) := by decide +kernel
theorem sh214 : SHL[214]? = some (100, 2) := by decide +kernel
theorem sh215 : SHL[215]? = some (100, 2) := by decide +kernel
theorem sh216 : SHL[216]? = some (100, 2) := by decide +kernel
theorem sh217 : SHL[217]? = some (102, 12) := by decide +kernel
theorem sh218 : SHL[218]? = some (100, 2) := by decide +kernel
theorem sh219 : SHL[219]? = some (100, 2) := by decide +kernel
theorem sh220 : SHL[220]? = some (102, 12) := by decide +kernel
theorem sh221 : SHL[221]? = some (102, 128) := by decide +kernel
theorem sh222 : SHL[222]? = some (105, 6) := by decide +kernel
theorem sh223 : SHL[223]? = some (100, 128) := by decide +kernel
theorem sh224 : SHL[224]? = some (100, 128) := by decide +kernel
theorem sh225 : SHL[225]? = some (100, 128) := by decide +kernel
theorem sh226 : SHL[226]? = some (100, 128) := by decide +kernel
theorem sh227 : SHL[227]? = some (100, 128) := by decide +kernel
theorem sh228 : SHL[228]? = some (100, 128) := by decide +kernel
theorem sh229 : SHL[229]? = some (100, 128) := by decide +kernel
theorem sh230 : SHL[230]? = some (100, 128) := by decide +kernel
theorem sh231 : SHL[231]? = some (100, 128) := by decide +kernel
theorem sh232 : SHL[232]? = some (100, 128) := by decide +kernel
theorem sh233 : SHL[233]? = some (100, 128) := by decide +kernel
theorem sh234 : SHL[234]? = some (102, 128) := by decide +kernel
theorem sh235 : SHL[235]? = some (102, 128) := by decide +kernel
theorem sh236 : SHL[236]? = some (103, 1) := by decide +kernel
theorem rc0 {k : Option XR} : x_rc (Sx I J b c) 0 7 k = k := r_c sh0
theorem gI0_1 {f : Int32 → Option XR} : x_gI (Sx I J b c) 0 7 1 f = f (iW (I 0 1)) := g_I sh0
theorem gI0_7 {f : Int32 → Option XR} : x_gI (Sx I J b c) 0 7 7 f = f (iW (I 0 7)) := g_I sh0
theorem gI0_8 {f : Int32 → Option XR} : x_gI (Sx I J b c) 0 7 8 f = f (iW (I 0 8)) := g_I sh0
theorem gI0_15 {f : Int32 → Option XR} : x_gI (Sx I J b c) 0 7 15 f = f (iW (I 0 15)) := g_I sh0
theorem pI0_1 {v : Int} {f : HP → Option XR} : x_pI (Sx I J b c) 0 7 1 (iW v) f = f (Sx (uI I 0 1 v) J b c) := p_I sh0
theorem pI0_7 {v : Int} {f : HP → Option XR} : x_pI (Sx I J b c) 0 7 7 (iW v) f = f (Sx (uI I 0 7 v) J b c) := p_I sh0
theorem pI0_8 {v : Int} {f : HP → Option XR} : x_pI (Sx I J b c) 0 7 8 (iW v) f = f (Sx (uI I 0 8 v) J b c) := p_I sh0
theorem pZ0_15 {v : Int} {f : HP → Option XR} (hv : v = 0 ∨ v = 1) : x_pZ (Sx I J b c) 0 7 15 (iW v) f = f (Sx (uI I 0 15 v) J b c) := p_Z sh0 hv
theorem gR0_0 {f : Nat → Option XR} : x_gR (Sx I J b c) 0 7 0 f = f 1 := g_R sh0 (RW_at (by decide) (by decide +kernel))
theorem gR0_2 {f : Nat → Option XR} : x_gR (Sx I J b c) 0 7 2 f = f 2 := g_R sh0 (RW_at (by decide) (by decide +kernel))
theorem gR0_3 {f : Nat → Option XR} : x_gR (Sx I J b c) 0 7 3 f = f 8 := g_R sh0 (RW_at (by decide) (by decide +kernel))
theorem gR0_4 {f : Nat → Option XR} : x_gR (Sx I J b c) 0 7 4 f = f 13 := g_R sh0 (RW_at (by decide) (by decide +kernel))
theorem gR0_5 {f : Nat → Option XR} : x_gR (Sx I J b c) 0 7 5 f = f 14 := g_R sh0 (RW_at (by decide) (by decide +kernel))
theorem gR0_6 {f : Nat → Option XR} : x_gR (Sx I J b c) 0 7 6 f = f 15 := g_R sh0 (RW_at (by decide) (by decide +kernel))
theorem gR0_9 {f : Nat → Option XR} : x_gR (Sx I J b c) 0 7 9 f = f 16 := g_R sh0 (RW_at (by decide) (by decide +kernel))
theorem gR0_10 {f : Nat → Option XR} : x_gR (Sx I J b c) 0 7 10 f = f 20 := g_R sh0 (RW_at (by decide) (by decide +kernel))
theorem gR0_11 {f : Nat → Option XR} : x_gR (Sx I J b c) 0 7 11 f = f 28 := g_R sh0 (RW_at (by decide) (by decide +kernel))
theorem gR0_12 {f : Nat → Option XR} : x_gR (Sx I J b c) 0 7 12 f = f 36 := g_R sh0 (RW_at (by decide) (by decide +kernel))
theorem gR0_13 {f : Nat → Option XR} : x_gR (Sx I J b c) 0 7 13 f = f 41 := g_R sh0 (RW_at (by decide) (by decide +kernel))
theorem gR0_14 {f : Nat → Option XR} : x_gR (Sx I J b c) 0 7 14 f = f 44 := g_R sh0 (RW_at (by decide) (by decide +kernel))
theorem aI1 {z : Int} {f : Int32 → Option XR} (h0 : 0 ≤ z) (h1 : z < 120) : x_aI (Sx I J b c) 101 1 (iW z) f = f (iW (I 1 z)) := a_I sh1 (by decide) h0 h1
theorem ln1 {f : Int32 → Option XR} : x_ln (Sx I J b c) 1 f = f (iW 120) := l_n sh1 (by decide)
theorem rc2 {k : Option XR} : x_rc (Sx I J b c) 2 6 k = k := r_c sh2
theorem gI2_1 {f : Int32 → Option XR} : x_gI (Sx I J b c) 2 6 1 f = f (iW (I 2 1)) := g_I sh2
theorem gI2_2 {f : Int32 → Option XR} : x_gI (Sx I J b c) 2 6 2 f = f (iW (I 2 2)) := g_I sh2
theorem gI2_3 {f : Int32 → Option XR} : x_gI (Sx I J b c) 2 6 3 f = f (iW (I 2 3)) := g_I sh2
theorem gI2_4 {f : Int32 → Option XR} : x_gI (Sx I J b c) 2 6 4 f = f (iW (I 2 4)) := g_I sh2
theorem gI2_5 {f : Int32 → Option XR} : x_gI (Sx I J b c) 2 6 5 f = f (iW (I 2 5)) := g_I sh2
theorem gI2_6 {f : Int32 → Option XR} : x_gI (Sx I J b c) 2 6 6 f = f (iW (I 2 6)) := g_I sh2
theorem gI2_9 {f : Int32 → Option XR} : x_gI (Sx I J b c) 2 6 9 f = f (iW (I 2 9)) := g_I sh2
theorem pI2_1 {v : Int} {f : HP → Option XR} : x_pI (Sx I J b c) 2 6 1 (iW v) f = f (Sx (uI I 2 1 v) J b c) := p_I sh2
theorem pI2_2 {v : Int} {f : HP → Option XR} : x_pI (Sx I J b c) 2 6 2 (iW v) f = f (Sx (uI I 2 2 v) J b c) := p_I sh2
theorem pI2_3 {v : Int} {f : HP → Option XR} : x_pI (Sx I J b c) 2 6 3 (iW v) f = f (Sx (uI I 2 3 v) J b c) := p_I sh2
theorem pI2_4 {v : Int} {f : HP → Option XR} : x_pI (Sx I J b c) 2 6 4 (iW v) f = f (Sx (uI I 2 4 v) J b c) := p_I sh2
theorem pI2_6 {v : Int} {f : HP → Option XR} : x_pI (Sx I J b c) 2 6 6 (iW v) f = f (Sx (uI I 2 6 v) J b c) := p_I sh2
theorem pI2_9 {v : Int} {f : HP → Option XR} : x_pI (Sx I J b c) 2 6 9 (iW v) f = f (Sx (uI I 2 9 v) J b c) := p_I sh2
theorem pZ2_5 {v : Int} {f : HP → Option XR} (hv : v = 0 ∨ v = 1) : x_pZ (Sx I J b c) 2 6 5 (iW v) f = f (Sx (uI I 2 5 v) J b c) := p_Z sh2 hv
theorem gR2_0 {f : Nat → Option XR} : x_gR (Sx I J b c) 2 6 0 f = f b := g_R sh2 rfl
theorem gR2_7 {f : Nat → Option XR} : x_gR (Sx I J b c) 2 6 7 f = f 4 := g_R sh2 (RW_at (by decide) (by decide +kernel))
theorem gR2_8 {f : Nat → Option XR} : x_gR (Sx I J b c) 2 6 8 f = f 5 := g_R sh2 (RW_at (by decide) (by decide +kernel))
theorem gR2_10 {f : Nat → Option XR} : x_gR (Sx I J b c) 2 6 10 f = f 6 := g_R sh2 (RW_at (by decide) (by decide +kernel))
theorem gR2_11 {f : Nat → Option XR} : x_gR (Sx I J b c) 2 6 11 f = f 7 := g_R sh2 (RW_at (by decide) (by decide +kernel))
theorem aI3 {z : Int} {f : Int32 → Option XR} (h0 : 0 ≤ z) (h1 : z < 0) : x_aI (Sx I J b c) 101 3 (iW z) f = f (iW (I 3 z)) := a_I sh3 (by decide) h0 h1
theorem ln3 {f : Int32 → Option XR} : x_ln (Sx I J b c) 3 f = f (iW 0) := l_n sh3 (by decide)
theorem aI4 {z : Int} {f : Int32 → Option XR} (h0 : 0 ≤ z) (h1 : z < 65) : x_aI (Sx I J b c) 100 4 (iW z) f = f (iW (I 4 z)) := a_I sh4 (by decide) h0 h1
theorem sI4 {z v : Int} {f : HP → Option XR} (h0 : 0 ≤ z) (h1 : z < 65) : x_sI (Sx I J b c) 4 (iW z) (iW v) f = f (Sx (uI I 4 z v) J b c) := s_I sh4 (by decide) h0 h1
theorem ln4 {f : Int32 → Option XR} : x_ln (Sx I J b c) 4 f = f (iW 65) := l_n sh4 (by decide)
theorem aI5 {z : Int} {f : Int32 → Option XR} (h0 : 0 ≤ z) (h1 : z < 5) : x_aI (Sx I J b c) 100 5 (iW z) f = f (iW (I 5 z)) := a_I sh5 (by decide) h0 h1
theorem sI5 {z v : Int} {f : HP → Option XR} (h0 : 0 ≤ z) (h1 : z < 5) : x_sI (Sx I J b c) 5 (iW z) (iW v) f = f (Sx (uI I 5 z v) J b c) := s_I sh5 (by decide) h0 h1
theorem ln5 {f : Int32 → Option XR} : x_ln (Sx I J b c) 5 f = f (iW 5) := l_n sh5 (by decide)
theorem aI6 {z : Int} {f : Int32 → Option XR} (h0 : 0 ≤ z) (h1 : z < 4) : x_aI (Sx I J b c) 100 6 (iW z) f = f (iW (I 6 z)) := a_I sh6 (by decide) h0 h1
theorem sI6 {z v : Int} {f : HP → Option XR} (h0 : 0 ≤ z) (h1 : z < 4) : x_sI (Sx I J b c) 6 (iW z) (iW v) f = f (Sx (uI I 6 z v) J b c) := s_I sh6 (by decide) h0 h1
theorem ln6 {f : Int32 → Option XR} : x_ln (Sx I J b c) 6 f = f (iW 4) := l_n sh6 (by decide)
theorem aI7 {z : Int} {f : Int32 → Option XR} (h0 : 0 ≤ z) (h1 : z < 4) : x_aI (Sx I J b c) 100 7 (iW z) f = f (iW (I 7 z)) := a_I sh7 (by decide) h0 h1
theorem sI7 {z v : Int} {f : HP → Option XR} (h0 : 0 ≤ z) (h1 : z < 4) : x_sI (Sx I J b c) 7 (iW z) (iW v) f = f (Sx (uI I 7 z v) J b c) := s_I sh7 (by decide) h0 h1
theorem ln7 {f : Int32 → Option XR} : x_ln (Sx I J b c) 7 f = f (iW 4) := l_n sh7 (by decide)
theorem rc8 {k : Option XR} : x_rc (Sx I J b c) 8 4 k = k := r_c sh8
theorem gI8_4 {f : Int32 → Option XR} : x_gI (Sx I J b c) 8 4 4 f = f (iW (I 8 4)) := g_I sh8
theorem gI8_5 {f : Int32 → Option XR} : x_gI (Sx I J b c) 8 4 5 f = f (iW (I 8 5)) := g_I sh8
theorem gI8_6 {f : Int32 → Option XR} : x_gI (Sx I J b c) 8 4 6 f = f (iW (I 8 6)) := g_I sh8
theorem pI8_4 {v : Int} {f : HP → Option XR} : x_pI (Sx I J b c) 8 4 4 (iW v) f = f (Sx (uI I 8 4 v) J b c) := p_I sh8
theorem pI8_5 {v : Int} {f : HP → Option XR} : x_pI (Sx I J b c) 8 4 5 (iW v) f = f (Sx (uI I 8 5 v) J b c) := p_I sh8
theorem pZ8_6 {v : Int} {f : HP → Option XR} (hv : v = 0 ∨ v = 1) : x_pZ (Sx I J b c) 8 4 6 (iW v) f = f (Sx (uI I 8 6 v) J b c) := p_Z sh8 hv
theorem gR8_0 {f : Nat → Option XR} : x_gR (Sx I J b c) 8 4 0 f = f 9 := g_R sh8 (RW_at (by decide) (by decide +kernel))
theorem gR8_1 {f : Nat → Option XR} : x_gR (Sx I J b c) 8 4 1 f = f 10 := g_R sh8 (RW_at (by decide) (by decide +kernel))
theorem gR8_2 {f : Nat → Option XR} : x_gR (Sx I J b c) 8 4 2 f = f 11 := g_R sh8 (RW_at (by decide) (by decide +kernel))
theorem gR8_3 {f : Nat → Option XR} : x_gR (Sx I J b c) 8 4 3 f = f 12 := g_R sh8 (RW_at (by decide) (by decide +kernel))
theorem aI9 {z : Int} {f : Int32 → Option XR} (h0 : 0 ≤ z) (h1 : z < 130) : x_aI (Sx I J b c) 100 9 (iW z) f = f (iW (I 9 z)) := a_I sh9 (by decide) h0 h1
theorem sI9 {z v : Int} {f : HP → Option XR} (h0 : 0 ≤ z) (h1 : z < 130) : x_sI (Sx I J b c) 9 (iW z) (iW v) f = f (Sx (uI I 9 z v) J b c) := s_I sh9 (by decide) h0 h1
theorem ln9 {f : Int32 → Option XR} : x_ln (Sx I J b c) 9 f = f (iW 130) := l_n sh9 (by decide)
theorem aI10 {z : Int} {f : Int32 → Option XR} (h0 : 0 ≤ z) (h1 : z < 2) : x_aI (Sx I J b c) 100 10 (iW z) f = f (iW (I 10 z)) := a_I sh10 (by decide) h0 h1
theorem sI10 {z v : Int} {f : HP → Option XR} (h0 : 0 ≤ z) (h1 : z < 2) : x_sI (Sx I J b c) 10 (iW z) (iW v) f = f (Sx (uI I 10 z v) J b c) := s_I sh10 (by decide) h0 h1
theorem ln10 {f : Int32 → Option XR} : x_ln (Sx I J b c) 10 f = f (iW 2) := l_n sh10 (by decide)
theorem aI11 {z : Int} {f : Int32 → Option XR} (h0 : 0 ≤ z) (h1 : z < 6) : x_aI (Sx I J b c) 100 11 (iW z) f = f (iW (I 11 z)) := a_I sh11 (by decide) h0 h1
theorem sI11 {z v : Int} {f : HP → Option XR} (h0 : 0 ≤ z) (h1 : z < 6) : x_sI (Sx I J b c) 11 (iW z) (iW v) f = f (Sx (uI I 11 z v) J b c) := s_I sh11 (by decide) h0 h1
theorem ln11 {f : Int32 → Option XR} : x_ln (Sx I J b c) 11 f = f (iW 6) := l_n sh11 (by decide)
theorem aI12 {z : Int} {f : Int32 → Option XR} (h0 : 0 ≤ z) (h1 : z < 120) : x_aI (Sx I J b c) 100 12 (iW z) f = f (iW (I 12 z)) := a_I sh12 (by decide) h0 h1
theorem sI12 {z v : Int} {f : HP → Option XR} (h0 : 0 ≤ z) (h1 : z < 120) : x_sI (Sx I J b c) 12 (iW z) (iW v) f = f (Sx (uI I 12 z v) J b c) := s_I sh12 (by decide) h0 h1
theorem ln12 {f : Int32 → Option XR} : x_ln (Sx I J b c) 12 f = f (iW 120) := l_n sh12 (by decide)
theorem aI14 {z : Int} {f : Int32 → Option XR} (h0 : 0 ≤ z) (h1 : z < 3) : x_aI (Sx I J b c) 102 14 (iW z) f = f (iW (I 14 z)) := a_I sh14 (by decide) h0 h1
theorem sZ14 {z v : Int} {f : HP → Option XR} (h0 : 0 ≤ z) (h1 : z < 3) (hv : v = 0 ∨ v = 1) : x_sZ (Sx I J b c) 14 (iW z) (iW v) f = f (Sx (uI I 14 z v) J b c) := s_Z sh14 (by decide) h0 h1 hv
theorem ln14 {f : Int32 → Option XR} : x_ln (Sx I J b c) 14 f = f (iW 3) := l_n sh14 (by decide)
theorem rc16 {k : Option XR} : x_rc (Sx I J b c) 16 5 k = k := r_c sh16
theorem gI16_4 {f : Int32 → Option XR} : x_gI (Sx I J b c) 16 5 4 f = f (iW (I 16 4)) := g_I sh16
theorem gI16_5 {f : Int32 → Option XR} : x_gI (Sx I J b c) 16 5 5 f = f (iW (I 16 5)) := g_I sh16
theorem gI16_6 {f : Int32 → Option XR} : x_gI (Sx I J b c) 16 5 6 f = f (iW (I 16 6)) := g_I sh16
theorem gI16_7 {f : Int32 → Option XR} : x_gI (Sx I J b c) 16 5 7 f = f (iW (I 16 7)) := g_I sh16
theorem gI16_8 {f : Int32 → Option XR} : x_gI (Sx I J b c) 16 5 8 f = f (iW (I 16 8)) := g_I sh16
theorem pI16_4 {v : Int} {f : HP → Option XR} : x_pI (Sx I J b c) 16 5 4 (iW v) f = f (Sx (uI I 16 4 v) J b c) := p_I sh16
theorem pI16_5 {v : Int} {f : HP → Option XR} : x_pI (Sx I J b c) 16 5 5 (iW v) f = f (Sx (uI I 16 5 v) J b c) := p_I sh16
theorem pI16_6 {v : Int} {f : HP → Option XR} : x_pI (Sx I J b c) 16 5 6 (iW v) f = f (Sx (uI I 16 6 v) J b c) := p_I sh16
theorem pI16_7 {v : Int} {f : HP → Option XR} : x_pI (Sx I J b c) 16 5 7 (iW v) f = f (Sx (uI I 16 7 v) J b c) := p_I sh16
theorem pI16_8 {v : Int} {f : HP → Option XR} : x_pI (Sx I J b c) 16 5 8 (iW v) f = f (Sx (uI I 16 8 v) J b c) := p_I sh16
theorem gR16_0 {f : Nat → Option XR} : x_gR (Sx I J b c) 16 5 0 f = f 8 := g_R sh16 (RW_at (by decide) (by decide +kernel))
theorem gR16_1 {f : Nat → Option XR} : x_gR (Sx I J b c) 16 5 1 f = f 17 := g_R sh16 (RW_at (by decide) (by decide +kernel))
theorem gR16_2 {f : Nat → Option XR} : x_gR (Sx I J b c) 16 5 2 f = f 18 := g_R sh16 (RW_at (by decide) (by decide +kernel))
theorem gR16_3 {f : Nat → Option XR} : x_gR (Sx I J b c) 16 5 3 f = f 19 := g_R sh16 (RW_at (by decide) (by decide +kernel))
theorem aI17 {z : Int} {f : Int32 → Option XR} (h0 : 0 ≤ z) (h1 : z < 24) : x_aI (Sx I J b c) 100 17 (iW z) f = f (iW (I 17 z)) := a_I sh17 (by decide) h0 h1
theorem sI17 {z v : Int} {f : HP → Option XR} (h0 : 0 ≤ z) (h1 : z < 24) : x_sI (Sx I J b c) 17 (iW z) (iW v) f = f (Sx (uI I 17 z v) J b c) := s_I sh17 (by decide) h0 h1
theorem ln17 {f : Int32 → Option XR} : x_ln (Sx I J b c) 17 f = f (iW 24) := l_n sh17 (by decide)
theorem aI18 {z : Int} {f : Int32 → Option XR} (h0 : 0 ≤ z) (h1 : z < 12) : x_aI (Sx I J b c) 102 18 (iW z) f = f (iW (I 18 z)) := a_I sh18 (by decide) h0 h1
theorem sZ18 {z v : Int} {f : HP → Option XR} (h0 : 0 ≤ z) (h1 : z < 12) (hv : v = 0 ∨ v = 1) : x_sZ (Sx I J b c) 18 (iW z) (iW v) f = f (Sx (uI I 18 z v) J b c) := s_Z sh18 (by decide) h0 h1 hv
theorem ln18 {f : Int32 → Option XR} : x_ln (Sx I J b c) 18 f = f (iW 12) := l_n sh18 (by decide)
theorem aI19 {z : Int} {f : Int32 → Option XR} (h0 : 0 ≤ z) (h1 : z < 2) : x_aI (Sx I J b c) 100 19 (iW z) f = f (iW (I 19 z)) := a_I sh19 (by decide) h0 h1
theorem sI19 {z v : Int} {f : HP → Option XR} (h0 : 0 ≤ z) (h1 : z < 2) : x_sI (Sx I J b c) 19 (iW z) (iW v) f = f (Sx (uI I 19 z v) J b c) := s_I sh19 (by decide) h0 h1
theorem ln19 {f : Int32 → Option XR} : x_ln (Sx I J b c) 19 f = f (iW 2) := l_n sh19 (by decide)
theorem rc36 {k : Option XR} : x_rc (Sx I J b c) 36 2 k = k := r_c sh36
theorem gI36_4 {f : Int32 → Option XR} : x_gI (Sx I J b c) 36 2 4 f = f (iW (I 36 4)) := g_I sh36
theorem pI36_4 {v : Int} {f : HP → Option XR} : x_pI (Sx I J b c) 36 2 4 (iW v) f = f (Sx (uI I 36 4 v) J b c) := p_I sh36
theorem gR36_0 {f : Nat → Option XR} : x_gR (Sx I J b c) 36 2 0 f = f 37 := g_R sh36 (RW_at (by decide) (by decide +kernel))
theorem gR36_1 {f : Nat → Option XR} : x_gR (Sx I J b c) 36 2 1 f = f 38 := g_R sh36 (RW_at (by decide) (by decide +kernel))
theorem gR36_2 {f : Nat → Option XR} : x_gR (Sx I J b c) 36 2 2 f = f 39 := g_R sh36 (RW_at (by decide) (by decide +kernel))
theorem gR36_3 {f : Nat → Option XR} : x_gR (Sx I J b c) 36 2 3 f = f 40 := g_R sh36 (RW_at (by decide) (by decide +kernel))
theorem aI37 {z : Int} {f : Int32 → Option XR} (h0 : 0 ≤ z) (h1 : z < 64) : x_aI (Sx I J b c) 100 37 (iW z) f = f (iW (I 37 z)) := a_I sh37 (by decide) h0 h1
theorem sI37 {z v : Int} {f : HP → Option XR} (h0 : 0 ≤ z) (h1 : z < 64) : x_sI (Sx I J b c) 37 (iW z) (iW v) f = f (Sx (uI I 37 z v) J b c) := s_I sh37 (by decide) h0 h1
theorem ln37 {f : Int32 → Option XR} : x_ln (Sx I J b c) 37 f = f (iW 64) := l_n sh37 (by decide)
theorem aI38 {z : Int} {f : Int32 → Option XR} (h0 : 0 ≤ z) (h1 : z < 64) : x_aI (Sx I J b c) 100 38 (iW z) f = f (iW (I 38 z)) := a_I sh38 (by decide) h0 h1
theorem sI38 {z v : Int} {f : HP → Option XR} (h0 : 0 ≤ z) (h1 : z < 64) : x_sI (Sx I J b c) 38 (iW z) (iW v) f = f (Sx (uI I 38 z v) J b c) := s_I sh38 (by decide) h0 h1
theorem ln38 {f : Int32 → Option XR} : x_ln (Sx I J b c) 38 f = f (iW 64) := l_n sh38 (by decide)
theorem aI39 {z : Int} {f : Int32 → Option XR} (h0 : 0 ≤ z) (h1 : z < 64) : x_aI (Sx I J b c) 100 39 (iW z) f = f (iW (I 39 z)) := a_I sh39 (by decide) h0 h1
theorem sI39 {z v : Int} {f : HP → Option XR} (h0 : 0 ≤ z) (h1 : z < 64) : x_sI (Sx I J b c) 39 (iW z) (iW v) f = f (Sx (uI I 39 z v) J b c) := s_I sh39 (by decide) h0 h1
theorem ln39 {f : Int32 → Option XR} : x_ln (Sx I J b c) 39 f = f (iW 64) := l_n sh39 (by decide)
theorem aI40 {z : Int} {f : Int32 → Option XR} (h0 : 0 ≤ z) (h1 : z < 64) : x_aI (Sx I J b c) 100 40 (iW z) f = f (iW (I 40 z)) := a_I sh40 (by decide) h0 h1
theorem sI40 {z v : Int} {f : HP → Option XR} (h0 : 0 ≤ z) (h1 : z < 64) : x_sI (Sx I J b c) 40 (iW z) (iW v) f = f (Sx (uI I 40 z v) J b c) := s_I sh40 (by decide) h0 h1
theorem ln40 {f : Int32 → Option XR} : x_ln (Sx I J b c) 40 f = f (iW 64) := l_n sh40 (by decide)
theorem rc41 {k : Option XR} : x_rc (Sx I J b c) 41 1 k = k := r_c sh41
theorem gR41_0 {f : Nat → Option XR} : x_gR (Sx I J b c) 41 1 0 f = f 36 := g_R sh41 (RW_at (by decide) (by decide +kernel))
theorem gR41_1 {f : Nat → Option XR} : x_gR (Sx I J b c) 41 1 1 f = f 42 := g_R sh41 (RW_at (by decide) (by decide +kernel))
theorem gR41_2 {f : Nat → Option XR} : x_gR (Sx I J b c) 41 1 2 f = f 43 := g_R sh41 (RW_at (by decide) (by decide +kernel))
theorem aI42 {z : Int} {f : Int32 → Option XR} (h0 : 0 ≤ z) (h1 : z < 65) : x_aI (Sx I J b c) 100 42 (iW z) f = f (iW (I 42 z)) := a_I sh42 (by decide) h0 h1
theorem sI42 {z v : Int} {f : HP → Option XR} (h0 : 0 ≤ z) (h1 : z < 65) : x_sI (Sx I J b c) 42 (iW z) (iW v) f = f (Sx (uI I 42 z v) J b c) := s_I sh42 (by decide) h0 h1
theorem ln42 {f : Int32 → Option XR} : x_ln (Sx I J b c) 42 f = f (iW 65) := l_n sh42 (by decide)
theorem aI43 {z : Int} {f : Int32 → Option XR} (h0 : 0 ≤ z) (h1 : z < 12) : x_aI (Sx I J b c) 100 43 (iW z) f = f (iW (I 43 z)) := a_I sh43 (by decide) h0 h1
theorem sI43 {z v : Int} {f : HP → Option XR} (h0 : 0 ≤ z) (h1 : z < 12) : x_sI (Sx I J b c) 43 (iW z) (iW v) f = f (Sx (uI I 43 z v) J b c) := s_I sh43 (by decide) h0 h1
theorem ln43 {f : Int32 → Option XR} : x_ln (Sx I J b c) 43 f = f (iW 12) := l_n sh43 (by decide)
theorem rc44 {k : Option XR} : x_rc (Sx I J b c) 44 3 k = k := r_c sh44
theorem gJ44_2 {f : Int64 → Option XR} : x_gJ (Sx I J b c) 44 3 2 f = f (jV (J 44 2)) := g_J sh44
theorem gJ44_3 {f : Int64 → Option XR} : x_gJ (Sx I J b c) 44 3 3 f = f (jV (J 44 3)) := g_J sh44
theorem gJ44_4 {f : Int64 → Option XR} : x_gJ (Sx I J b c) 44 3 4 f = f (jV (J 44 4)) := g_J sh44
theorem gJ44_5 {f : Int64 → Option XR} : x_gJ (Sx I J b c) 44 3 5 f = f (jV (J 44 5)) := g_J sh44
theorem pJ44_2 {v : Int} {f : HP → Option XR} : x_pJ (Sx I J b c) 44 3 2 (jV v) f = f (Sx I (uI J 44 2 v) b c) := p_J sh44
theorem pJ44_3 {v : Int} {f : HP → Option XR} : x_pJ (Sx I J b c) 44 3 3 (jV v) f = f (Sx I (uI J 44 3 v) b c) := p_J sh44
theorem pJ44_4 {v : Int} {f : HP → Option XR} : x_pJ (Sx I J b c) 44 3 4 (jV v) f = f (Sx I (uI J 44 4 v) b c) := p_J sh44
theorem pJ44_5 {v : Int} {f : HP → Option XR} : x_pJ (Sx I J b c) 44 3 5 (jV v) f = f (Sx I (uI J 44 5 v) b c) := p_J sh44
theorem gR44_0 {f : Nat → Option XR} : x_gR (Sx I J b c) 44 3 0 f = f 45 := g_R sh44 (RW_at (by decide) (by decide +kernel))
theorem gR44_1 {f : Nat → Option XR} : x_gR (Sx I J b c) 44 3 1 f = f 46 := g_R sh44 (RW_at (by decide) (by decide +kernel))
theorem aI45 {z : Int} {f : Int32 → Option XR} (h0 : 0 ≤ z) (h1 : z < 65) : x_aI (Sx I J b c) 102 45 (iW z) f = f (iW (I 45 z)) := a_I sh45 (by decide) h0 h1
theorem sZ45 {z v : Int} {f : HP → Option XR} (h0 : 0 ≤ z) (h1 : z < 65) (hv : v = 0 ∨ v = 1) : x_sZ (Sx I J b c) 45 (iW z) (iW v) f = f (Sx (uI I 45 z v) J b c) := s_Z sh45 (by decide) h0 h1 hv
theorem ln45 {f : Int32 → Option XR} : x_ln (Sx I J b c) 45 f = f (iW 65) := l_n sh45 (by decide)
theorem aJ46 {z : Int} {f : Int64 → Option XR} (h0 : 0 ≤ z) (h1 : z < 65) : x_aJ (Sx I J b c) 46 (iW z) f = f (jV (J 46 z)) := a_J sh46 (by decide) h0 h1
theorem sJ46 {z v : Int} {f : HP → Option XR} (h0 : 0 ≤ z) (h1 : z < 65) : x_sJ (Sx I J b c) 46 (iW z) (jV v) f = f (Sx I (uI J 46 z v) b c) := s_J sh46 (by decide) h0 h1
theorem aI48 {z : Int} {f : Int32 → Option XR} (h0 : 0 ≤ z) (h1 : z < 130) : x_aI (Sx I J b c) 100 48 (iW z) f = f (iW (I 48 z)) := a_I sh48 (by decide) h0 h1
theorem sI48 {z v : Int} {f : HP → Option XR} (h0 : 0 ≤ z) (h1 : z < 130) : x_sI (Sx I J b c) 48 (iW z) (iW v) f = f (Sx (uI I 48 z v) J b c) := s_I sh48 (by decide) h0 h1
theorem ln48 {f : Int32 → Option XR} : x_ln (Sx I J b c) 48 f = f (iW 130) := l_n sh48 (by decide)
theorem aI49 {z : Int} {f : Int32 → Option XR} (h0 : 0 ≤ z) (h1 : z < 2) : x_aI (Sx I J b c) 100 49 (iW z) f = f (iW (I 49 z)) := a_I sh49 (by decide) h0 h1
theorem sI49 {z v : Int} {f : HP → Option XR} (h0 : 0 ≤ z) (h1 : z < 2) : x_sI (Sx I J b c) 49 (iW z) (iW v) f = f (Sx (uI I 49 z v) J b c) := s_I sh49 (by decide) h0 h1
theorem ln49 {f : Int32 → Option XR} : x_ln (Sx I J b c) 49 f = f (iW 2) := l_n sh49 (by decide)
theorem aI50 {z : Int} {f : Int32 → Option XR} (h0 : 0 ≤ z) (h1 : z < 6) : x_aI (Sx I J b c) 100 50 (iW z) f = f (iW (I 50 z)) := a_I sh50 (by decide) h0 h1
theorem sI50 {z v : Int} {f : HP → Option XR} (h0 : 0 ≤ z) (h1 : z < 6) : x_sI (Sx I J b c) 50 (iW z) (iW v) f = f (Sx (uI I 50 z v) J b c) := s_I sh50 (by decide) h0 h1
theorem ln50 {f : Int32 → Option XR} : x_ln (Sx I J b c) 50 f = f (iW 6) := l_n sh50 (by decide)
theorem aI51 {z : Int} {f : Int32 → Option XR} (h0 : 0 ≤ z) (h1 : z < 120) : x_aI (Sx I J b c) 100 51 (iW z) f = f (iW (I 51 z)) := a_I sh51 (by decide) h0 h1
theorem sI51 {z v : Int} {f : HP → Option XR} (h0 : 0 ≤ z) (h1 : z < 120) : x_sI (Sx I J b c) 51 (iW z) (iW v) f = f (Sx (uI I 51 z v) J b c) := s_I sh51 (by decide) h0 h1
theorem ln51 {f : Int32 → Option XR} : x_ln (Sx I J b c) 51 f = f (iW 120) := l_n sh51 (by decide)
theorem aI53 {z : Int} {f : Int32 → Option XR} (h0 : 0 ≤ z) (h1 : z < 130) : x_aI (Sx I J b c) 100 53 (iW z) f = f (iW (I 53 z)) := a_I sh53 (by decide) h0 h1
theorem sI53 {z v : Int} {f : HP → Option XR} (h0 : 0 ≤ z) (h1 : z < 130) : x_sI (Sx I J b c) 53 (iW z) (iW v) f = f (Sx (uI I 53 z v) J b c) := s_I sh53 (by decide) h0 h1
theorem ln53 {f : Int32 → Option XR} : x_ln (Sx I J b c) 53 f = f (iW 130) := l_n sh53 (by decide)
theorem aI54 {z : Int} {f : Int32 → Option XR} (h0 : 0 ≤ z) (h1 : z < 2) : x_aI (Sx I J b c) 100 54 (iW z) f = f (iW (I 54 z)) := a_I sh54 (by decide) h0 h1
theorem sI54 {z v : Int} {f : HP → Option XR} (h0 : 0 ≤ z) (h1 : z < 2) : x_sI (Sx I J b c) 54 (iW z) (iW v) f = f (Sx (uI I 54 z v) J b c) := s_I sh54 (by decide) h0 h1
theorem ln54 {f : Int32 → Option XR} : x_ln (Sx I J b c) 54 f = f (iW 2) := l_n sh54 (by decide)
theorem aI55 {z : Int} {f : Int32 → Option XR} (h0 : 0 ≤ z) (h1 : z < 6) : x_aI (Sx I J b c) 100 55 (iW z) f = f (iW (I 55 z)) := a_I sh55 (by decide) h0 h1
theorem sI55 {z v : Int} {f : HP → Option XR} (h0 : 0 ≤ z) (h1 : z < 6) : x_sI (Sx I J b c) 55 (iW z) (iW v) f = f (Sx (uI I 55 z v) J b c) := s_I sh55 (by decide) h0 h1
theorem ln55 {f : Int32 → Option XR} : x_ln (Sx I J b c) 55 f = f (iW 6) := l_n sh55 (by decide)
theorem aI56 {z : Int} {f : Int32 → Option XR} (h0 : 0 ≤ z) (h1 : z < 120) : x_aI (Sx I J b c) 100 56 (iW z) f = f (iW (I 56 z)) := a_I sh56 (by decide) h0 h1
theorem sI56 {z v : Int} {f : HP → Option XR} (h0 : 0 ≤ z) (h1 : z < 120) : x_sI (Sx I J b c) 56 (iW z) (iW v) f = f (Sx (uI I 56 z v) J b c) := s_I sh56 (by decide) h0 h1
theorem ln56 {f : Int32 → Option XR} : x_ln (Sx I J b c) 56 f = f (iW 120) := l_n sh56 (by decide)
theorem aI58 {z : Int} {f : Int32 → Option XR} (h0 : 0 ≤ z) (h1 : z < 130) : x_aI (Sx I J b c) 100 58 (iW z) f = f (iW (I 58 z)) := a_I sh58 (by decide) h0 h1
theorem sI58 {z v : Int} {f : HP → Option XR} (h0 : 0 ≤ z) (h1 : z < 130) : x_sI (Sx I J b c) 58 (iW z) (iW v) f = f (Sx (uI I 58 z v) J b c) := s_I sh58 (by decide) h0 h1
theorem ln58 {f : Int32 → Option XR} : x_ln (Sx I J b c) 58 f = f (iW 130) := l_n sh58 (by decide)
theorem aI59 {z : Int} {f : Int32 → Option XR} (h0 : 0 ≤ z) (h1 : z < 2) : x_aI (Sx I J b c) 100 59 (iW z) f = f (iW (I 59 z)) := a_I sh59 (by decide) h0 h1
theorem sI59 {z v : Int} {f : HP → Option XR} (h0 : 0 ≤ z) (h1 : z < 2) : x_sI (Sx I J b c) 59 (iW z) (iW v) f = f (Sx (uI I 59 z v) J b c) := s_I sh59 (by decide) h0 h1
theorem ln59 {f : Int32 → Option XR} : x_ln (Sx I J b c) 59 f = f (iW 2) := l_n sh59 (by decide)
theorem aI60 {z : Int} {f : Int32 → Option XR} (h0 : 0 ≤ z) (h1 : z < 6) : x_aI (Sx I J b c) 100 60 (iW z) f = f (iW (I 60 z)) := a_I sh60 (by decide) h0 h1
theorem sI60 {z v : Int} {f : HP → Option XR} (h0 : 0 ≤ z) (h1 : z < 6) : x_sI (Sx I J b c) 60 (iW z) (iW v) f = f (Sx (uI I 60 z v) J b c) := s_I sh60 (by decide) h0 h1
theorem ln60 {f : Int32 → Option XR} : x_ln (Sx I J b c) 60 f = f (iW 6) := l_n sh60 (by decide)
theorem aI61 {z : Int} {f : Int32 → Option XR} (h0 : 0 ≤ z) (h1 : z < 120) : x_aI (Sx I J b c) 100 61 (iW z) f = f (iW (I 61 z)) := a_I sh61 (by decide) h0 h1
theorem sI61 {z v : Int} {f : HP → Option XR} (h0 : 0 ≤ z) (h1 : z < 120) : x_sI (Sx I J b c) 61 (iW z) (iW v) f = f (Sx (uI I 61 z v) J b c) := s_I sh61 (by decide) h0 h1
theorem ln61 {f : Int32 → Option XR} : x_ln (Sx I J b c) 61 f = f (iW 120) := l_n sh61 (by decide)
theorem aI63 {z : Int} {f : Int32 → Option XR} (h0 : 0 ≤ z) (h1 : z < 130) : x_aI (Sx I J b c) 100 63 (iW z) f = f (iW (I 63 z)) := a_I sh63 (by decide) h0 h1
theorem sI63 {z v : Int} {f : HP → Option XR} (h0 : 0 ≤ z) (h1 : z < 130) : x_sI (Sx I J b c) 63 (iW z) (iW v) f = f (Sx (uI I 63 z v) J b c) := s_I sh63 (by decide) h0 h1
theorem ln63 {f : Int32 → Option XR} : x_ln (Sx I J b c) 63 f = f (iW 130) := l_n sh63 (by decide)
theorem aI64 {z : Int} {f : Int32 → Option XR} (h0 : 0 ≤ z) (h1 : z < 2) : x_aI (Sx I J b c) 100 64 (iW z) f = f (iW (I 64 z)) := a_I sh64 (by decide) h0 h1
theorem sI64 {z v : Int} {f : HP → Option XR} (h0 : 0 ≤ z) (h1 : z < 2) : x_sI (Sx I J b c) 64 (iW z) (iW v) f = f (Sx (uI I 64 z v) J b c) := s_I sh64 (by decide) h0 h1
theorem ln64 {f : Int32 → Option XR} : x_ln (Sx I J b c) 64 f = f (iW 2) := l_n sh64 (by decide)
theorem aI65 {z : Int} {f : Int32 → Option XR} (h0 : 0 ≤ z) (h1 : z < 6) : x_aI (Sx I J b c) 100 65 (iW z) f = f (iW (I 65 z)) := a_I sh65 (by decide) h0 h1
theorem sI65 {z v : Int} {f : HP → Option XR} (h0 : 0 ≤ z) (h1 : z < 6) : x_sI (Sx I J b c) 65 (iW z) (iW v) f = f (Sx (uI I 65 z v) J b c) := s_I sh65 (by decide) h0 h1
theorem ln65 {f : Int32 → Option XR} : x_ln (Sx I J b c) 65 f = f (iW 6) := l_n sh65 (by decide)
theorem aI66 {z : Int} {f : Int32 → Option XR} (h0 : 0 ≤ z) (h1 : z < 120) : x_aI (Sx I J b c) 100 66 (iW z) f = f (iW (I 66 z)) := a_I sh66 (by decide) h0 h1
theorem sI66 {z v : Int} {f : HP → Option XR} (h0 : 0 ≤ z) (h1 : z < 120) : x_sI (Sx I J b c) 66 (iW z) (iW v) f = f (Sx (uI I 66 z v) J b c) := s_I sh66 (by decide) h0 h1
theorem ln66 {f : Int32 → Option XR} : x_ln (Sx I J b c) 66 f = f (iW 120) := l_n sh66 (by decide)
theorem aI68 {z : Int} {f : Int32 → Option XR} (h0 : 0 ≤ z) (h1 : z < 130) : x_aI (Sx I J b c) 100 68 (iW z) f = f (iW (I 68 z)) := a_I sh68 (by decide) h0 h1
theorem sI68 {z v : Int} {f : HP → Option XR} (h0 : 0 ≤ z) (h1 : z < 130) : x_sI (Sx I J b c) 68 (iW z) (iW v) f = f (Sx (uI I 68 z v) J b c) := s_I sh68 (by decide) h0 h1
theorem ln68 {f : Int32 → Option XR} : x_ln (Sx I J b c) 68 f = f (iW 130) := l_n sh68 (by decide)
theorem aI69 {z : Int} {f : Int32 → Option XR} (h0 : 0 ≤ z) (h1 : z < 2) : x_aI (Sx I J b c) 100 69 (iW z) f = f (iW (I 69 z)) := a_I sh69 (by decide) h0 h1
theorem sI69 {z v : Int} {f : HP → Option XR} (h0 : 0 ≤ z) (h1 : z < 2) : x_sI (Sx I J b c) 69 (iW z) (iW v) f = f (Sx (uI I 69 z v) J b c) := s_I sh69 (by decide) h0 h1
theorem ln69 {f : Int32 → Option XR} : x_ln (Sx I J b c) 69 f = f (iW 2) := l_n sh69 (by decide)
theorem aI70 {z : Int} {f : Int32 → Option XR} (h0 : 0 ≤ z) (h1 : z < 6) : x_aI (Sx I J b c) 100 70 (iW z) f = f (iW (I 70 z)) := a_I sh70 (by decide) h0 h1
theorem sI70 {z v : Int} {f : HP → Option XR} (h0 : 0 ≤ z) (h1 : z < 6) : x_sI (Sx I J b c) 70 (iW z) (iW v) f = f (Sx (uI I 70 z v) J b c) := s_I sh70 (by decide) h0 h1
theorem ln70 {f : Int32 → Option XR} : x_ln (Sx I J b c) 70 f = f (iW 6) := l_n sh70 (by decide)
theorem aI71 {z : Int} {f : Int32 → Option XR} (h0 : 0 ≤ z) (h1 : z < 120) : x_aI (Sx I J b c) 100 71 (iW z) f = f (iW (I 71 z)) := a_I sh71 (by decide) h0 h1
theorem sI71 {z v : Int} {f : HP → Option XR} (h0 : 0 ≤ z) (h1 : z < 120) : x_sI (Sx I J b c) 71 (iW z) (iW v) f = f (Sx (uI I 71 z v) J b c) := s_I sh71 (by decide) h0 h1
theorem ln71 {f : Int32 → Option XR} : x_ln (Sx I J b c) 71 f = f (iW 120) := l_n sh71 (by decide)
theorem aI73 {z : Int} {f : Int32 → Option XR} (h0 : 0 ≤ z) (h1 : z < 130) : x_aI (Sx I J b c) 100 73 (iW z) f = f (iW (I 73 z)) := a_I sh73 (by decide) h0 h1
theorem sI73 {z v : Int} {f : HP → Option XR} (h0 : 0 ≤ z) (h1 : z < 130) : x_sI (Sx I J b c) 73 (iW z) (iW v) f = f (Sx (uI I 73 z v) J b c) := s_I sh73 (by decide) h0 h1
theorem ln73 {f : Int32 → Option XR} : x_ln (Sx I J b c) 73 f = f (iW 130) := l_n sh73 (by decide)
theorem aI74 {z : Int} {f : Int32 → Option XR} (h0 : 0 ≤ z) (h1 : z < 2) : x_aI (Sx I J b c) 100 74 (iW z) f = f (iW (I 74 z)) := a_I sh74 (by decide) h0 h1
theorem sI74 {z v : Int} {f : HP → Option XR} (h0 : 0 ≤ z) (h1 : z < 2) : x_sI (Sx I J b c) 74 (iW z) (iW v) f = f (Sx (uI I 74 z v) J b c) := s_I sh74 (by decide) h0 h1
theorem ln74 {f : Int32 → Option XR} : x_ln (Sx I J b c) 74 f = f (iW 2) := l_n sh74 (by decide)
theorem aI75 {z : Int} {f : Int32 → Option XR} (h0 : 0 ≤ z) (h1 : z < 6) : x_aI (Sx I J b c) 100 75 (iW z) f = f (iW (I 75 z)) := a_I sh75 (by decide) h0 h1
theorem sI75 {z v : Int} {f : HP → Option XR} (h0 : 0 ≤ z) (h1 : z < 6) : x_sI (Sx I J b c) 75 (iW z) (iW v) f = f (Sx (uI I 75 z v) J b c) := s_I sh75 (by decide) h0 h1
theorem ln75 {f : Int32 → Option XR} : x_ln (Sx I J b c) 75 f = f (iW 6) := l_n sh75 (by decide)
theorem aI76 {z : Int} {f : Int32 → Option XR} (h0 : 0 ≤ z) (h1 : z < 120) : x_aI (Sx I J b c) 100 76 (iW z) f = f (iW (I 76 z)) := a_I sh76 (by decide) h0 h1
theorem sI76 {z v : Int} {f : HP → Option XR} (h0 : 0 ≤ z) (h1 : z < 120) : x_sI (Sx I J b c) 76 (iW z) (iW v) f = f (Sx (uI I 76 z v) J b c) := s_I sh76 (by decide) h0 h1
theorem ln76 {f : Int32 → Option XR} : x_ln (Sx I J b c) 76 f = f (iW 120) := l_n sh76 (by decide)
theorem aI78 {z : Int} {f : Int32 → Option XR} (h0 : 0 ≤ z) (h1 : z < 130) : x_aI (Sx I J b c) 100 78 (iW z) f = f (iW (I 78 z)) := a_I sh78 (by decide) h0 h1
theorem sI78 {z v : Int} {f : HP → Option XR} (h0 : 0 ≤ z) (h1 : z < 130) : x_sI (Sx I J b c) 78 (iW z) (iW v) f = f (Sx (uI I 78 z v) J b c) := s_I sh78 (by decide) h0 h1
theorem ln78 {f : Int32 → Option XR} : x_ln (Sx I J b c) 78 f = f (iW 130) := l_n sh78 (by decide)
theorem aI79 {z : Int} {f : Int32 → Option XR} (h0 : 0 ≤ z) (h1 : z < 2) : x_aI (Sx I J b c) 100 79 (iW z) f = f (iW (I 79 z)) := a_I sh79 (by decide) h0 h1
theorem sI79 {z v : Int} {f : HP → Option XR} (h0 : 0 ≤ z) (h1 : z < 2) : x_sI (Sx I J b c) 79 (iW z) (iW v) f = f (Sx (uI I 79 z v) J b c) := s_I sh79 (by decide) h0 h1
theorem ln79 {f : Int32 → Option XR} : x_ln (Sx I J b c) 79 f = f (iW 2) := l_n sh79 (by decide)
theorem aI80 {z : Int} {f : Int32 → Option XR} (h0 : 0 ≤ z) (h1 : z < 6) : x_aI (Sx I J b c) 100 80 (iW z) f = f (iW (I 80 z)) := a_I sh80 (by decide) h0 h1
theorem sI80 {z v : Int} {f : HP → Option XR} (h0 : 0 ≤ z) (h1 : z < 6) : x_sI (Sx I J b c) 80 (iW z) (iW v) f = f (Sx (uI I 80 z v) J b c) := s_I sh80 (by decide) h0 h1
theorem ln80 {f : Int32 → Option XR} : x_ln (Sx I J b c) 80 f = f (iW 6) := l_n sh80 (by decide)
theorem aI81 {z : Int} {f : Int32 → Option XR} (h0 : 0 ≤ z) (h1 : z < 120) : x_aI (Sx I J b c) 100 81 (iW z) f = f (iW (I 81 z)) := a_I sh81 (by decide) h0 h1
theorem sI81 {z v : Int} {f : HP → Option XR} (h0 : 0 ≤ z) (h1 : z < 120) : x_sI (Sx I J b c) 81 (iW z) (iW v) f = f (Sx (uI I 81 z v) J b c) := s_I sh81 (by decide) h0 h1
theorem ln81 {f : Int32 → Option XR} : x_ln (Sx I J b c) 81 f = f (iW 120) := l_n sh81 (by decide)
theorem aI83 {z : Int} {f : Int32 → Option XR} (h0 : 0 ≤ z) (h1 : z < 130) : x_aI (Sx I J b c) 100 83 (iW z) f = f (iW (I 83 z)) := a_I sh83 (by decide) h0 h1
theorem sI83 {z v : Int} {f : HP → Option XR} (h0 : 0 ≤ z) (h1 : z < 130) : x_sI (Sx I J b c) 83 (iW z) (iW v) f = f (Sx (uI I 83 z v) J b c) := s_I sh83 (by decide) h0 h1
theorem ln83 {f : Int32 → Option XR} : x_ln (Sx I J b c) 83 f = f (iW 130) := l_n sh83 (by decide)
theorem aI84 {z : Int} {f : Int32 → Option XR} (h0 : 0 ≤ z) (h1 : z < 2) : x_aI (Sx I J b c) 100 84 (iW z) f = f (iW (I 84 z)) := a_I sh84 (by decide) h0 h1
theorem sI84 {z v : Int} {f : HP → Option XR} (h0 : 0 ≤ z) (h1 : z < 2) : x_sI (Sx I J b c) 84 (iW z) (iW v) f = f (Sx (uI I 84 z v) J b c) := s_I sh84 (by decide) h0 h1
theorem ln84 {f : Int32 → Option XR} : x_ln (Sx I J b c) 84 f = f (iW 2) := l_n sh84 (by decide)
theorem aI85 {z : Int} {f : Int32 → Option XR} (h0 : 0 ≤ z) (h1 : z < 6) : x_aI (Sx I J b c) 100 85 (iW z) f = f (iW (I 85 z)) := a_I sh85 (by decide) h0 h1
theorem sI85 {z v : Int} {f : HP → Option XR} (h0 : 0 ≤ z) (h1 : z < 6) : x_sI (Sx I J b c) 85 (iW z) (iW v) f = f (Sx (uI I 85 z v) J b c) := s_I sh85 (by decide) h0 h1
theorem ln85 {f : Int32 → Option XR} : x_ln (Sx I J b c) 85 f = f (iW 6) := l_n sh85 (by decide)
theorem aI86 {z : Int} {f : Int32 → Option XR} (h0 : 0 ≤ z) (h1 : z < 120) : x_aI (Sx I J b c) 100 86 (iW z) f = f (iW (I 86 z)) := a_I sh86 (by decide) h0 h1
theorem sI86 {z v : Int} {f : HP → Option XR} (h0 : 0 ≤ z) (h1 : z < 120) : x_sI (Sx I J b c) 86 (iW z) (iW v) f = f (Sx (uI I 86 z v) J b c) := s_I sh86 (by decide) h0 h1
theorem ln86 {f : Int32 → Option XR} : x_ln (Sx I J b c) 86 f = f (iW 120) := l_n sh86 (by decide)
theorem aI88 {z : Int} {f : Int32 → Option XR} (h0 : 0 ≤ z) (h1 : z < 130) : x_aI (Sx I J b c) 100 88 (iW z) f = f (iW (I 88 z)) := a_I sh88 (by decide) h0 h1
theorem sI88 {z v : Int} {f : HP → Option XR} (h0 : 0 ≤ z) (h1 : z < 130) : x_sI (Sx I J b c) 88 (iW z) (iW v) f = f (Sx (uI I 88 z v) J b c) := s_I sh88 (by decide) h0 h1
theorem ln88 {f : Int32 → Option XR} : x_ln (Sx I J b c) 88 f = f (iW 130) := l_n sh88 (by decide)
theorem aI89 {z : Int} {f : Int32 → Option XR} (h0 : 0 ≤ z) (h1 : z < 2) : x_aI (Sx I J b c) 100 89 (iW z) f = f (iW (I 89 z)) := a_I sh89 (by decide) h0 h1
theorem sI89 {z v : Int} {f : HP → Option XR} (h0 : 0 ≤ z) (h1 : z < 2) : x_sI (Sx I J b c) 89 (iW z) (iW v) f = f (Sx (uI I 89 z v) J b c) := s_I sh89 (by decide) h0 h1
theorem ln89 {f : Int32 → Option XR} : x_ln (Sx I J b c) 89 f = f (iW 2) := l_n sh89 (by decide)
theorem aI90 {z : Int} {f : Int32 → Option XR} (h0 : 0 ≤ z) (h1 : z < 6) : x_aI (Sx I J b c) 100 90 (iW z) f = f (iW (I 90 z)) := a_I sh90 (by decide) h0 h1
theorem sI90 {z v : Int} {f : HP → Option XR} (h0 : 0 ≤ z) (h1 : z < 6) : x_sI (Sx I J b c) 90 (iW z) (iW v) f = f (Sx (uI I 90 z v) J b c) := s_I sh90 (by decide) h0 h1
theorem ln90 {f : Int32 → Option XR} : x_ln (Sx I J b c) 90 f = f (iW 6) := l_n sh90 (by decide)
theorem aI91 {z : Int} {f : Int32 → Option XR} (h0 : 0 ≤ z) (h1 : z < 120) : x_aI (Sx I J b c) 100 91 (iW z) f = f (iW (I 91 z)) := a_I sh91 (by decide) h0 h1
theorem sI91 {z v : Int} {f : HP → Option XR} (h0 : 0 ≤ z) (h1 : z < 120) : x_sI (Sx I J b c) 91 (iW z) (iW v) f = f (Sx (uI I 91 z v) J b c) := s_I sh91 (by decide) h0 h1
theorem ln91 {f : Int32 → Option XR} : x_ln (Sx I J b c) 91 f = f (iW 120) := l_n sh91 (by decide)
theorem aI93 {z : Int} {f : Int32 → Option XR} (h0 : 0 ≤ z) (h1 : z < 130) : x_aI (Sx I J b c) 100 93 (iW z) f = f (iW (I 93 z)) := a_I sh93 (by decide) h0 h1
theorem sI93 {z v : Int} {f : HP → Option XR} (h0 : 0 ≤ z) (h1 : z < 130) : x_sI (Sx I J b c) 93 (iW z) (iW v) f = f (Sx (uI I 93 z v) J b c) := s_I sh93 (by decide) h0 h1
theorem ln93 {f : Int32 → Option XR} : x_ln (Sx I J b c) 93 f = f (iW 130) := l_n sh93 (by decide)
theorem aI94 {z : Int} {f : Int32 → Option XR} (h0 : 0 ≤ z) (h1 : z < 2) : x_aI (Sx I J b c) 100 94 (iW z) f = f (iW (I 94 z)) := a_I sh94 (by decide) h0 h1
theorem sI94 {z v : Int} {f : HP → Option XR} (h0 : 0 ≤ z) (h1 : z < 2) : x_sI (Sx I J b c) 94 (iW z) (iW v) f = f (Sx (uI I 94 z v) J b c) := s_I sh94 (by decide) h0 h1
theorem ln94 {f : Int32 → Option XR} : x_ln (Sx I J b c) 94 f = f (iW 2) := l_n sh94 (by decide)
theorem aI95 {z : Int} {f : Int32 → Option XR} (h0 : 0 ≤ z) (h1 : z < 6) : x_aI (Sx I J b c) 100 95 (iW z) f = f (iW (I 95 z)) := a_I sh95 (by decide) h0 h1
theorem sI95 {z v : Int} {f : HP → Option XR} (h0 : 0 ≤ z) (h1 : z < 6) : x_sI (Sx I J b c) 95 (iW z) (iW v) f = f (Sx (uI I 95 z v) J b c) := s_I sh95 (by decide) h0 h1
theorem ln95 {f : Int32 → Option XR} : x_ln (Sx I J b c) 95 f = f (iW 6) := l_n sh95 (by decide)
theorem aI96 {z : Int} {f : Int32 → Option XR} (h0 : 0 ≤ z) (h1 : z < 120) : x_aI (Sx I J b c) 100 96 (iW z) f = f (iW (I 96 z)) := a_I sh96 (by decide) h0 h1
theorem sI96 {z v : Int} {f : HP → Option XR} (h0 : 0 ≤ z) (h1 : z < 120) : x_sI (Sx I J b c) 96 (iW z) (iW v) f = f (Sx (uI I 96 z v) J b c) := s_I sh96 (by decide) h0 h1
theorem ln96 {f : Int32 → Option XR} : x_ln (Sx I J b c) 96 f = f (iW 120) := l_n sh96 (by decide)
theorem aI98 {z : Int} {f : Int32 → Option XR} (h0 : 0 ≤ z) (h1 : z < 130) : x_aI (Sx I J b c) 100 98 (iW z) f = f (iW (I 98 z)) := a_I sh98 (by decide) h0 h1
theorem sI98 {z v : Int} {f : HP → Option XR} (h0 : 0 ≤ z) (h1 : z < 130) : x_sI (Sx I J b c) 98 (iW z) (iW v) f = f (Sx (uI I 98 z v) J b c) := s_I sh98 (by decide) h0 h1
theorem ln98 {f : Int32 → Option XR} : x_ln (Sx I J b c) 98 f = f (iW 130) := l_n sh98 (by decide)
theorem aI99 {z : Int} {f : Int32 → Option XR} (h0 : 0 ≤ z) (h1 : z < 2) : x_aI (Sx I J b c) 100 99 (iW z) f = f (iW (I 99 z)) := a_I sh99 (by decide) h0 h1
theorem sI99 {z v : Int} {f : HP → Option XR} (h0 : 0 ≤ z) (h1 : z < 2) : x_sI (Sx I J b c) 99 (iW z) (iW v) f = f (Sx (uI I 99 z v) J b c) := s_I sh99 (by decide) h0 h1
theorem ln99 {f : Int32 → Option XR} : x_ln (Sx I J b c) 99 f = f (iW 2) := l_n sh99 (by decide)
theorem aI100 {z : Int} {f : Int32 → Option XR} (h0 : 0 ≤ z) (h1 : z < 6) : x_aI (Sx I J b c) 100 100 (iW z) f = f (iW (I 100 z)) := a_I sh100 (by decide) h0 h1
theorem sI100 {z v : Int} {f : HP → Option XR} (h0 : 0 ≤ z) (h1 : z < 6) : x_sI (Sx I J b c) 100 (iW z) (iW v) f = f (Sx (uI I 100 z v) J b c) := s_I sh100 (by decide) h0 h1
theorem ln100 {f : Int32 → Option XR} : x_ln (Sx I J b c) 100 f = f (iW 6) := l_n sh100 (by decide)
theorem aI101 {z : Int} {f : Int32 → Option XR} (h0 : 0 ≤ z) (h1 : z < 120) : x_aI (Sx I J b c) 100 101 (iW z) f = f (iW (I 101 z)) := a_I sh101 (by decide) h0 h1
theorem sI101 {z v : Int} {f : HP → Option XR} (h0 : 0 ≤ z) (h1 : z < 120) : x_sI (Sx I J b c) 101 (iW z) (iW v) f = f (Sx (uI I 101 z v) J b c) := s_I sh101 (by decide) h0 h1
theorem ln101 {f : Int32 → Option XR} : x_ln (Sx I J b c) 101 f = f (iW 120) := l_n sh101 (by decide)
theorem rc102 {k : Option XR} : x_rc (Sx I J b c) 102 8 k = k := r_c sh102
theorem gI102_0 {f : Int32 → Option XR} : x_gI (Sx I J b c) 102 8 0 f = f (iW (I 102 0)) := g_I sh102
theorem gI102_6 {f : Int32 → Option XR} : x_gI (Sx I J b c) 102 8 6 f = f (iW (I 102 6)) := g_I sh102
theorem gI102_8 {f : Int32 → Option XR} : x_gI (Sx I J b c) 102 8 8 f = f (iW (I 102 8)) := g_I sh102
theorem gI102_9 {f : Int32 → Option XR} : x_gI (Sx I J b c) 102 8 9 f = f (iW (I 102 9)) := g_I sh102
theorem gI102_13 {f : Int32 → Option XR} : x_gI (Sx I J b c) 102 8 13 f = f (iW (I 102 13)) := g_I sh102
theorem gI102_15 {f : Int32 → Option XR} : x_gI (Sx I J b c) 102 8 15 f = f (iW (I 102 15)) := g_I sh102
theorem gI102_16 {f : Int32 → Option XR} : x_gI (Sx I J b c) 102 8 16 f = f (iW (I 102 16)) := g_I sh102
theorem gI102_17 {f : Int32 → Option XR} : x_gI (Sx I J b c) 102 8 17 f = f (iW (I 102 17)) := g_I sh102
theorem gI102_18 {f : Int32 → Option XR} : x_gI (Sx I J b c) 102 8 18 f = f (iW (I 102 18)) := g_I sh102
theorem gI102_19 {f : Int32 → Option XR} : x_gI (Sx I J b c) 102 8 19 f = f (iW (I 102 19)) := g_I sh102
theorem gI102_27 {f : Int32 → Option XR} : x_gI (Sx I J b c) 102 8 27 f = f (iW (I 102 27)) := g_I sh102
theorem gI102_28 {f : Int32 → Option XR} : x_gI (Sx I J b c) 102 8 28 f = f (iW (I 102 28)) := g_I sh102
theorem gI102_29 {f : Int32 → Option XR} : x_gI (Sx I J b c) 102 8 29 f = f (iW (I 102 29)) := g_I sh102
theorem gJ102_39 {f : Int64 → Option XR} : x_gJ (Sx I J b c) 102 8 39 f = f (jV (J 102 39)) := g_J sh102
theorem gJ102_40 {f : Int64 → Option XR} : x_gJ (Sx I J b c) 102 8 40 f = f (jV (J 102 40)) := g_J sh102
theorem gJ102_41 {f : Int64 → Option XR} : x_gJ (Sx I J b c) 102 8 41 f = f (jV (J 102 41)) := g_J sh102
theorem gJ102_42 {f : Int64 → Option XR} : x_gJ (Sx I J b c) 102 8 42 f = f (jV (J 102 42)) := g_J sh102
theorem pI102_0 {v : Int} {f : HP → Option XR} : x_pI (Sx I J b c) 102 8 0 (iW v) f = f (Sx (uI I 102 0 v) J b c) := p_I sh102
theorem pI102_6 {v : Int} {f : HP → Option XR} : x_pI (Sx I J b c) 102 8 6 (iW v) f = f (Sx (uI I 102 6 v) J b c) := p_I sh102
theorem pI102_9 {v : Int} {f : HP → Option XR} : x_pI (Sx I J b c) 102 8 9 (iW v) f = f (Sx (uI I 102 9 v) J b c) := p_I sh102
theorem pI102_13 {v : Int} {f : HP → Option XR} : x_pI (Sx I J b c) 102 8 13 (iW v) f = f (Sx (uI I 102 13 v) J b c) := p_I sh102
theorem pI102_15 {v : Int} {f : HP → Option XR} : x_pI (Sx I J b c) 102 8 15 (iW v) f = f (Sx (uI I 102 15 v) J b c) := p_I sh102
theorem pI102_16 {v : Int} {f : HP → Option XR} : x_pI (Sx I J b c) 102 8 16 (iW v) f = f (Sx (uI I 102 16 v) J b c) := p_I sh102
theorem pI102_17 {v : Int} {f : HP → Option XR} : x_pI (Sx I J b c) 102 8 17 (iW v) f = f (Sx (uI I 102 17 v) J b c) := p_I sh102
theorem pI102_27 {v : Int} {f : HP → Option XR} : x_pI (Sx I J b c) 102 8 27 (iW v) f = f (Sx (uI I 102 27 v) J b c) := p_I sh102
theorem pI102_28 {v : Int} {f : HP → Option XR} : x_pI (Sx I J b c) 102 8 28 (iW v) f = f (Sx (uI I 102 28 v) J b c) := p_I sh102
theorem pI102_29 {v : Int} {f : HP → Option XR} : x_pI (Sx I J b c) 102 8 29 (iW v) f = f (Sx (uI I 102 29 v) J b c) := p_I sh102
theorem pZ102_8 {v : Int} {f : HP → Option XR} (hv : v = 0 ∨ v = 1) : x_pZ (Sx I J b c) 102 8 8 (iW v) f = f (Sx (uI I 102 8 v) J b c) := p_Z sh102 hv
theorem pZ102_18 {v : Int} {f : HP → Option XR} (hv : v = 0 ∨ v = 1) : x_pZ (Sx I J b c) 102 8 18 (iW v) f = f (Sx (uI I 102 18 v) J b c) := p_Z sh102 hv
theorem pZ102_19 {v : Int} {f : HP → Option XR} (hv : v = 0 ∨ v = 1) : x_pZ (Sx I J b c) 102 8 19 (iW v) f = f (Sx (uI I 102 19 v) J b c) := p_Z sh102 hv
theorem pJ102_39 {v : Int} {f : HP → Option XR} : x_pJ (Sx I J b c) 102 8 39 (jV v) f = f (Sx I (uI J 102 39 v) b c) := p_J sh102
theorem pJ102_40 {v : Int} {f : HP → Option XR} : x_pJ (Sx I J b c) 102 8 40 (jV v) f = f (Sx I (uI J 102 40 v) b c) := p_J sh102
theorem pJ102_41 {v : Int} {f : HP → Option XR} : x_pJ (Sx I J b c) 102 8 41 (jV v) f = f (Sx I (uI J 102 41 v) b c) := p_J sh102
theorem pJ102_42 {v : Int} {f : HP → Option XR} : x_pJ (Sx I J b c) 102 8 42 (jV v) f = f (Sx I (uI J 102 42 v) b c) := p_J sh102
theorem gR102_1 {f : Nat → Option XR} : x_gR (Sx I J b c) 102 8 1 f = f 103 := g_R sh102 (RW_at (by decide) (by decide +kernel))
theorem gR102_2 {f : Nat → Option XR} : x_gR (Sx I J b c) 102 8 2 f = f 104 := g_R sh102 (RW_at (by decide) (by decide +kernel))
theorem gR102_3 {f : Nat → Option XR} : x_gR (Sx I J b c) 102 8 3 f = f 131 := g_R sh102 (RW_at (by decide) (by decide +kernel))
theorem gR102_4 {f : Nat → Option XR} : x_gR (Sx I J b c) 102 8 4 f = f 134 := g_R sh102 (RW_at (by decide) (by decide +kernel))
theorem gR102_5 {f : Nat → Option XR} : x_gR (Sx I J b c) 102 8 5 f = f 137 := g_R sh102 (RW_at (by decide) (by decide +kernel))
theorem gR102_7 {f : Nat → Option XR} : x_gR (Sx I J b c) 102 8 7 f = f 138 := g_R sh102 (RW_at (by decide) (by decide +kernel))
theorem gR102_10 {f : Nat → Option XR} : x_gR (Sx I J b c) 102 8 10 f = f 175 := g_R sh102 (RW_at (by decide) (by decide +kernel))
theorem gR102_11 {f : Nat → Option XR} : x_gR (Sx I J b c) 102 8 11 f = f 179 := g_R sh102 (RW_at (by decide) (by decide +kernel))
theorem gR102_12 {f : Nat → Option XR} : x_gR (Sx I J b c) 102 8 12 f = f 188 := g_R sh102 (RW_at (by decide) (by decide +kernel))
theorem gR102_14 {f : Nat → Option XR} : x_gR (Sx I J b c) 102 8 14 f = f 189 := g_R sh102 (RW_at (by decide) (by decide +kernel))
theorem gR102_20 {f : Nat → Option XR} : x_gR (Sx I J b c) 102 8 20 f = f 190 := g_R sh102 (RW_at (by decide) (by decide +kernel))
theorem gR102_21 {f : Nat → Option XR} : x_gR (Sx I J b c) 102 8 21 f = f 203 := g_R sh102 (RW_at (by decide) (by decide +kernel))
theorem gR102_22 {f : Nat → Option XR} : x_gR (Sx I J b c) 102 8 22 f = f 204 := g_R sh102 (RW_at (by decide) (by decide +kernel))
theorem gR102_23 {f : Nat → Option XR} : x_gR (Sx I J b c) 102 8 23 f = f 217 := g_R sh102 (RW_at (by decide) (by decide +kernel))
theorem gR102_24 {f : Nat → Option XR} : x_gR (Sx I J b c) 102 8 24 f = f 218 := g_R sh102 (RW_at (by decide) (by decide +kernel))
theorem gR102_25 {f : Nat → Option XR} : x_gR (Sx I J b c) 102 8 25 f = f 219 := g_R sh102 (RW_at (by decide) (by decide +kernel))
theorem gR102_26 {f : Nat → Option XR} : x_gR (Sx I J b c) 102 8 26 f = f 220 := g_R sh102 (RW_at (by decide) (by decide +kernel))
theorem gR102_30 {f : Nat → Option XR} : x_gR (Sx I J b c) 102 8 30 f = f 221 := g_R sh102 (RW_at (by decide) (by decide +kernel))
theorem gR102_31 {f : Nat → Option XR} : x_gR (Sx I J b c) 102 8 31 f = f 222 := g_R sh102 (RW_at (by decide) (by decide +kernel))
theorem gR102_32 {f : Nat → Option XR} : x_gR (Sx I J b c) 102 8 32 f = f 229 := g_R sh102 (RW_at (by decide) (by decide +kernel))
theorem gR102_33 {f : Nat → Option XR} : x_gR (Sx I J b c) 102 8 33 f = f 230 := g_R sh102 (RW_at (by decide) (by decide +kernel))
theorem gR102_34 {f : Nat → Option XR} : x_gR (Sx I J b c) 102 8 34 f = f 231 := g_R sh102 (RW_at (by decide) (by decide +kernel))
theorem gR102_35 {f : Nat → Option XR} : x_gR (Sx I J b c) 102 8 35 f = f 232 := g_R sh102 (RW_at (by decide) (by decide +kernel))
theorem gR102_36 {f : Nat → Option XR} : x_gR (Sx I J b c) 102 8 36 f = f 233 := g_R sh102 (RW_at (by decide) (by decide +kernel))
theorem gR102_37 {f : Nat → Option XR} : x_gR (Sx I J b c) 102 8 37 f = f 234 := g_R sh102 (RW_at (by decide) (by decide +kernel))
theorem gR102_38 {f : Nat → Option XR} : x_gR (Sx I J b c) 102 8 38 f = f 235 := g_R sh102 (RW_at (by decide) (by decide +kernel))
theorem aI103 {z : Int} {f : Int32 → Option XR} (h0 : 0 ≤ z) (h1 : z < 2) : x_aI (Sx I J b c) 100 103 (iW z) f = f (iW (I 103 z)) := a_I sh103 (by decide) h0 h1
theorem sI103 {z v : Int} {f : HP → Option XR} (h0 : 0 ≤ z) (h1 : z < 2) : x_sI (Sx I J b c) 103 (iW z) (iW v) f = f (Sx (uI I 103 z v) J b c) := s_I sh103 (by decide) h0 h1
theorem ln103 {f : Int32 → Option XR} : x_ln (Sx I J b c) 103 f = f (iW 2) := l_n sh103 (by decide)
theorem aI137 {z : Int} {f : Int32 → Option XR} (h0 : 0 ≤ z) (h1 : z < 2) : x_aI (Sx I J b c) 100 137 (iW z) f = f (iW (I 137 z)) := a_I sh137 (by decide) h0 h1
theorem sI137 {z v : Int} {f : HP → Option XR} (h0 : 0 ≤ z) (h1 : z < 2) : x_sI (Sx I J b c) 137 (iW z) (iW v) f = f (Sx (uI I 137 z v) J b c) := s_I sh137 (by decide) h0 h1
theorem ln137 {f : Int32 → Option XR} : x_ln (Sx I J b c) 137 f = f (iW 2) := l_n sh137 (by decide)
theorem aI188 {z : Int} {f : Int32 → Option XR} (h0 : 0 ≤ z) (h1 : z < 3) : x_aI (Sx I J b c) 102 188 (iW z) f = f (iW (I 188 z)) := a_I sh188 (by decide) h0 h1
theorem sZ188 {z v : Int} {f : HP → Option XR} (h0 : 0 ≤ z) (h1 : z < 3) (hv : v = 0 ∨ v = 1) : x_sZ (Sx I J b c) 188 (iW z) (iW v) f = f (Sx (uI I 188 z v) J b c) := s_Z sh188 (by decide) h0 h1 hv
theorem ln188 {f : Int32 → Option XR} : x_ln (Sx I J b c) 188 f = f (iW 3) := l_n sh188 (by decide)
theorem aI189 {z : Int} {f : Int32 → Option XR} (h0 : 0 ≤ z) (h1 : z < 120) : x_aI (Sx I J b c) 101 189 (iW z) f = f (iW (I 189 z)) := a_I sh189 (by decide) h0 h1
theorem ln189 {f : Int32 → Option XR} : x_ln (Sx I J b c) 189 f = f (iW 120) := l_n sh189 (by decide)
theorem aI203 {z : Int} {f : Int32 → Option XR} (h0 : 0 ≤ z) (h1 : z < 5) : x_aI (Sx I J b c) 100 203 (iW z) f = f (iW (I 203 z)) := a_I sh203 (by decide) h0 h1
theorem sI203 {z v : Int} {f : HP → Option XR} (h0 : 0 ≤ z) (h1 : z < 5) : x_sI (Sx I J b c) 203 (iW z) (iW v) f = f (Sx (uI I 203 z v) J b c) := s_I sh203 (by decide) h0 h1
theorem ln203 {f : Int32 → Option XR} : x_ln (Sx I J b c) 203 f = f (iW 5) := l_n sh203 (by decide)
theorem aI217 {z : Int} {f : Int32 → Option XR} (h0 : 0 ≤ z) (h1 : z < 12) : x_aI (Sx I J b c) 102 217 (iW z) f = f (iW (I 217 z)) := a_I sh217 (by decide) h0 h1
theorem sZ217 {z v : Int} {f : HP → Option XR} (h0 : 0 ≤ z) (h1 : z < 12) (hv : v = 0 ∨ v = 1) : x_sZ (Sx I J b c) 217 (iW z) (iW v) f = f (Sx (uI I 217 z v) J b c) := s_Z sh217 (by decide) h0 h1 hv
theorem ln217 {f : Int32 → Option XR} : x_ln (Sx I J b c) 217 f = f (iW 12) := l_n sh217 (by decide)
theorem aI218 {z : Int} {f : Int32 → Option XR} (h0 : 0 ≤ z) (h1 : z < 2) : x_aI (Sx I J b c) 100 218 (iW z) f = f (iW (I 218 z)) := a_I sh218 (by decide) h0 h1
theorem sI218 {z v : Int} {f : HP → Option XR} (h0 : 0 ≤ z) (h1 : z < 2) : x_sI (Sx I J b c) 218 (iW z) (iW v) f = f (Sx (uI I 218 z v) J b c) := s_I sh218 (by decide) h0 h1
theorem ln218 {f : Int32 → Option XR} : x_ln (Sx I J b c) 218 f = f (iW 2) := l_n sh218 (by decide)
theorem aI219 {z : Int} {f : Int32 → Option XR} (h0 : 0 ≤ z) (h1 : z < 2) : x_aI (Sx I J b c) 100 219 (iW z) f = f (iW (I 219 z)) := a_I sh219 (by decide) h0 h1
theorem sI219 {z v : Int} {f : HP → Option XR} (h0 : 0 ≤ z) (h1 : z < 2) : x_sI (Sx I J b c) 219 (iW z) (iW v) f = f (Sx (uI I 219 z v) J b c) := s_I sh219 (by decide) h0 h1
theorem ln219 {f : Int32 → Option XR} : x_ln (Sx I J b c) 219 f = f (iW 2) := l_n sh219 (by decide)
theorem aI220 {z : Int} {f : Int32 → Option XR} (h0 : 0 ≤ z) (h1 : z < 12) : x_aI (Sx I J b c) 102 220 (iW z) f = f (iW (I 220 z)) := a_I sh220 (by decide) h0 h1
theorem sZ220 {z v : Int} {f : HP → Option XR} (h0 : 0 ≤ z) (h1 : z < 12) (hv : v = 0 ∨ v = 1) : x_sZ (Sx I J b c) 220 (iW z) (iW v) f = f (Sx (uI I 220 z v) J b c) := s_Z sh220 (by decide) h0 h1 hv
theorem ln220 {f : Int32 → Option XR} : x_ln (Sx I J b c) 220 f = f (iW 12) := l_n sh220 (by decide)
theorem aI221 {z : Int} {f : Int32 → Option XR} (h0 : 0 ≤ z) (h1 : z < 128) : x_aI (Sx I J b c) 102 221 (iW z) f = f (iW (I 221 z)) := a_I sh221 (by decide) h0 h1
theorem sZ221 {z v : Int} {f : HP → Option XR} (h0 : 0 ≤ z) (h1 : z < 128) (hv : v = 0 ∨ v = 1) : x_sZ (Sx I J b c) 221 (iW z) (iW v) f = f (Sx (uI I 221 z v) J b c) := s_Z sh221 (by decide) h0 h1 hv
theorem ln221 {f : Int32 → Option XR} : x_ln (Sx I J b c) 221 f = f (iW 128) := l_n sh221 (by decide)
theorem aI229 {z : Int} {f : Int32 → Option XR} (h0 : 0 ≤ z) (h1 : z < 128) : x_aI (Sx I J b c) 100 229 (iW z) f = f (iW (I 229 z)) := a_I sh229 (by decide) h0 h1
theorem sI229 {z v : Int} {f : HP → Option XR} (h0 : 0 ≤ z) (h1 : z < 128) : x_sI (Sx I J b c) 229 (iW z) (iW v) f = f (Sx (uI I 229 z v) J b c) := s_I sh229 (by decide) h0 h1
theorem ln229 {f : Int32 → Option XR} : x_ln (Sx I J b c) 229 f = f (iW 128) := l_n sh229 (by decide)
theorem aI230 {z : Int} {f : Int32 → Option XR} (h0 : 0 ≤ z) (h1 : z < 128) : x_aI (Sx I J b c) 100 230 (iW z) f = f (iW (I 230 z)) := a_I sh230 (by decide) h0 h1
theorem sI230 {z v : Int} {f : HP → Option XR} (h0 : 0 ≤ z) (h1 : z < 128) : x_sI (Sx I J b c) 230 (iW z) (iW v) f = f (Sx (uI I 230 z v) J b c) := s_I sh230 (by decide) h0 h1
theorem ln230 {f : Int32 → Option XR} : x_ln (Sx I J b c) 230 f = f (iW 128) := l_n sh230 (by decide)
theorem aI231 {z : Int} {f : Int32 → Option XR} (h0 : 0 ≤ z) (h1 : z < 128) : x_aI (Sx I J b c) 100 231 (iW z) f = f (iW (I 231 z)) := a_I sh231 (by decide) h0 h1
theorem sI231 {z v : Int} {f : HP → Option XR} (h0 : 0 ≤ z) (h1 : z < 128) : x_sI (Sx I J b c) 231 (iW z) (iW v) f = f (Sx (uI I 231 z v) J b c) := s_I sh231 (by decide) h0 h1
theorem ln231 {f : Int32 → Option XR} : x_ln (Sx I J b c) 231 f = f (iW 128) := l_n sh231 (by decide)
theorem aI232 {z : Int} {f : Int32 → Option XR} (h0 : 0 ≤ z) (h1 : z < 128) : x_aI (Sx I J b c) 100 232 (iW z) f = f (iW (I 232 z)) := a_I sh232 (by decide) h0 h1
theorem sI232 {z v : Int} {f : HP → Option XR} (h0 : 0 ≤ z) (h1 : z < 128) : x_sI (Sx I J b c) 232 (iW z) (iW v) f = f (Sx (uI I 232 z v) J b c) := s_I sh232 (by decide) h0 h1
theorem ln232 {f : Int32 → Option XR} : x_ln (Sx I J b c) 232 f = f (iW 128) := l_n sh232 (by decide)
theorem aI233 {z : Int} {f : Int32 → Option XR} (h0 : 0 ≤ z) (h1 : z < 128) : x_aI (Sx I J b c) 100 233 (iW z) f = f (iW (I 233 z)) := a_I sh233 (by decide) h0 h1
theorem sI233 {z v : Int} {f : HP → Option XR} (h0 : 0 ≤ z) (h1 : z < 128) : x_sI (Sx I J b c) 233 (iW z) (iW v) f = f (Sx (uI I 233 z v) J b c) := s_I sh233 (by decide) h0 h1
theorem ln233 {f : Int32 → Option XR} : x_ln (Sx I J b c) 233 f = f (iW 128) := l_n sh233 (by decide)
theorem aI234 {z : Int} {f : Int32 → Option XR} (h0 : 0 ≤ z) (h1 : z < 128) : x_aI (Sx I J b c) 102 234 (iW z) f = f (iW (I 234 z)) := a_I sh234 (by decide) h0 h1
theorem sZ234 {z v : Int} {f : HP → Option XR} (h0 : 0 ≤ z) (h1 : z < 128) (hv : v = 0 ∨ v = 1) : x_sZ (Sx I J b c) 234 (iW z) (iW v) f = f (Sx (uI I 234 z v) J b c) := s_Z sh234 (by decide) h0 h1 hv
theorem ln234 {f : Int32 → Option XR} : x_ln (Sx I J b c) 234 f = f (iW 128) := l_n sh234 (by decide)
theorem aI235 {z : Int} {f : Int32 → Option XR} (h0 : 0 ≤ z) (h1 : z < 128) : x_aI (Sx I J b c) 102 235 (iW z) f = f (iW (I 235 z)) := a_I sh235 (by decide) h0 h1
theorem sZ235 {z v : Int} {f : HP → Option XR} (h0 : 0 ≤ z) (h1 : z < 128) (hv : v = 0 ∨ v = 1) : x_sZ (Sx I J b c) 235 (iW z) (iW v) f = f (Sx (uI I 235 z v) J b c) := s_Z sh235 (by decide) h0 h1 hv
theorem ln235 {f : Int32 → Option XR} : x_ln (Sx I J b c) 235 f = f (iW 128) := l_n sh235 (by decide)
theorem aJ236 {z : Int} {f : Int64 → Option XR} (h0 : 0 ≤ z) (h1 : z < 1) : x_aJ (Sx I J b c) 236 (iW z) f = f (jV (J 236 z)) := a_J sh236 (by decide) h0 h1
theorem sJ236 {z v : Int} {f : HP → Option XR} (h0 : 0 ≤ z) (h1 : z < 1) : x_sJ (Sx I J b c) 236 (iW z) (jV v) f = f (Sx I (uI J 236 z v) b c) := s_J sh236 (by decide) h0 h1
theorem aR13 {z : Int} {f : Nat → Option XR} (h0 : 0 ≤ z) (h1 : z < 3) : x_aR (Sx I J b c) 104 13 (iW z) f = f (47 + 5 * z.toNat) := by
  refine a_R sh13 (by decide) h0 h1 (RW_at (fun q => absurd q.1 (by decide)) ?_)
  generalize hz : z.toNat = q
  have hq : q < 3 := by omega
  clear hz h0 h1
  revert q
  decide +kernel
theorem aR15 {z : Int} {f : Nat → Option XR} (h0 : 0 ≤ z) (h1 : z < 8) : x_aR (Sx I J b c) 104 15 (iW z) f = f (62 + 5 * z.toNat) := by
  refine a_R sh15 (by decide) h0 h1 (RW_at (fun q => absurd q.1 (by decide)) ?_)
  generalize hz : z.toNat = q
  have hq : q < 8 := by omega
  clear hz h0 h1
  revert q
  decide +kernel
theorem aR104 {z : Int} {f : Nat → Option XR} (h0 : 0 ≤ z) (h1 : z < 2) : x_aR (Sx I J b c) 106 104 (iW z) f = f (105 + 13 * z.toNat) := by
  refine a_R sh104 (by decide) h0 h1 (RW_at (fun q => absurd q.1 (by decide)) ?_)
  generalize hz : z.toNat = q
  have hq : q < 2 := by omega
  clear hz h0 h1
  revert q
  decide +kernel
theorem aR131 {z : Int} {f : Nat → Option XR} (h0 : 0 ≤ z) (h1 : z < 2) : x_aR (Sx I J b c) 105 131 (iW z) f = f (132 + z.toNat) := by
  refine a_R sh131 (by decide) h0 h1 (RW_at (fun q => absurd q.1 (by decide)) ?_)
  generalize hz : z.toNat = q
  have hq : q < 2 := by omega
  clear hz h0 h1
  revert q
  decide +kernel
theorem aR134 {z : Int} {f : Nat → Option XR} (h0 : 0 ≤ z) (h1 : z < 2) : x_aR (Sx I J b c) 105 134 (iW z) f = f (135 + z.toNat) := by
  refine a_R sh134 (by decide) h0 h1 (RW_at (fun q => absurd q.1 (by decide)) ?_)
  generalize hz : z.toNat = q
  have hq : q < 2 := by omega
  clear hz h0 h1
  revert q
  decide +kernel
theorem aR138 {z : Int} {f : Nat → Option XR} (h0 : 0 ≤ z) (h1 : z < 12) : x_aR (Sx I J b c) 106 138 (iW z) f = f (139 + 3 * z.toNat) := by
  refine a_R sh138 (by decide) h0 h1 (RW_at (fun q => absurd q.1 (by decide)) ?_)
  generalize hz : z.toNat = q
  have hq : q < 12 := by omega
  clear hz h0 h1
  revert q
  decide +kernel
theorem aR175 {z : Int} {f : Nat → Option XR} (h0 : 0 ≤ z) (h1 : z < 3) : x_aR (Sx I J b c) 105 175 (iW z) f = f (176 + z.toNat) := by
  refine a_R sh175 (by decide) h0 h1 (RW_at (fun q => absurd q.1 (by decide)) ?_)
  generalize hz : z.toNat = q
  have hq : q < 3 := by omega
  clear hz h0 h1
  revert q
  decide +kernel
theorem aR179 {z : Int} {f : Nat → Option XR} (h0 : 0 ≤ z) (h1 : z < 8) : x_aR (Sx I J b c) 105 179 (iW z) f = f (180 + z.toNat) := by
  refine a_R sh179 (by decide) h0 h1 (RW_at (fun q => absurd q.1 (by decide)) ?_)
  generalize hz : z.toNat = q
  have hq : q < 8 := by omega
  clear hz h0 h1
  revert q
  decide +kernel
theorem aR190 {z : Int} {f : Nat → Option XR} (h0 : 0 ≤ z) (h1 : z < 12) : x_aR (Sx I J b c) 105 190 (iW z) f = f (191 + z.toNat) := by
  refine a_R sh190 (by decide) h0 h1 (RW_at (fun q => absurd q.1 (by decide)) ?_)
  generalize hz : z.toNat = q
  have hq : q < 12 := by omega
  clear hz h0 h1
  revert q
  decide +kernel
theorem aR204 {z : Int} {f : Nat → Option XR} (h0 : 0 ≤ z) (h1 : z < 12) : x_aR (Sx I J b c) 105 204 (iW z) f = f (205 + z.toNat) := by
  refine a_R sh204 (by decide) h0 h1 (RW_at (fun q => absurd q.1 (by decide)) ?_)
  generalize hz : z.toNat = q
  have hq : q < 12 := by omega
  clear hz h0 h1
  revert q
  decide +kernel
theorem aR222 {z : Int} {f : Nat → Option XR} (h0 : 0 ≤ z) (h1 : z < 6) : x_aR (Sx I J b c) 105 222 (iW z) f = f (223 + z.toNat) := by
  refine a_R sh222 (by decide) h0 h1 (RW_at (fun q => absurd q.1 (by decide)) ?_)
  generalize hz : z.toNat = q
  have hq : q < 6 := by omega
  clear hz h0 h1
  revert q
  decide +kernel
theorem sh_aR105 : ∀ q < 2, SHL[105 + 13 * q]? = some (105, 12) := by decide +kernel
theorem rf_aR105 : ∀ q < 2, ∀ r < 12, cR wc412.2.2.1 (105 + 13 * q) r = some (105+1 + 13 * q + r) := by decide +kernel
theorem aR105 {w z : Int} {f : Nat → Option XR} (g0 : 0 ≤ w) (g1 : w < 2) (h0 : 0 ≤ z) (h1 : z < 12) : x_aR (Sx I J b c) 105 (105 + 13 * w.toNat) (iW z) f = f (106 + 13 * w.toNat + z.toNat) := a_R (sh_aR105 _ (by omega)) (by decide) h0 h1 (RW_at (by omega) (rf_aR105 _ (by omega) _ (by omega)))
theorem sh_aR139 : ∀ q < 12, SHL[139 + 3 * q]? = some (105, 2) := by decide +kernel
theorem rf_aR139 : ∀ q < 12, ∀ r < 2, cR wc412.2.2.1 (139 + 3 * q) r = some (139+1 + 3 * q + r) := by decide +kernel
theorem aR139 {w z : Int} {f : Nat → Option XR} (g0 : 0 ≤ w) (g1 : w < 12) (h0 : 0 ≤ z) (h1 : z < 2) : x_aR (Sx I J b c) 105 (139 + 3 * w.toNat) (iW z) f = f (140 + 3 * w.toNat + z.toNat) := a_R (sh_aR139 _ (by omega)) (by decide) h0 h1 (RW_at (by omega) (rf_aR139 _ (by omega) _ (by omega)))
theorem sh_I106 : ∀ qp < 2, ∀ qq < 12, SHL[106 + 13 * qp + qq]? = some (100, 5) := by decide +kernel
theorem aI106 {p q z : Int} {f : Int32 → Option XR} (gp : 0 ≤ p) (kp : p < 2) (gq : 0 ≤ q) (kq : q < 12) (h0 : 0 ≤ z) (h1 : z < 5) : x_aI (Sx I J b c) 100 (106 + 13 * p.toNat + q.toNat) (iW z) f = f (iW (I (106 + 13 * p + q) z)) := by
  rw [a_I (sh_I106 _ (by omega) _ (by omega)) (by decide) h0 h1, show ((106 + 13 * p.toNat + q.toNat : Nat) : Int) = 106 + 13 * p + q by omega]
theorem sI106 {p q z v : Int} {f : HP → Option XR} (gp : 0 ≤ p) (kp : p < 2) (gq : 0 ≤ q) (kq : q < 12) (h0 : 0 ≤ z) (h1 : z < 5) : x_sI (Sx I J b c) (106 + 13 * p.toNat + q.toNat) (iW z) (iW v) f = f (Sx (uI I (106 + 13 * p + q) z v) J b c) := by
  rw [s_I (sh_I106 _ (by omega) _ (by omega)) (by decide) h0 h1, show ((106 + 13 * p.toNat + q.toNat : Nat) : Int) = 106 + 13 * p + q by omega]
theorem lI106 {p q : Int} {f : Int32 → Option XR} (gp : 0 ≤ p) (kp : p < 2) (gq : 0 ≤ q) (kq : q < 12) : x_ln (Sx I J b c) (106 + 13 * p.toNat + q.toNat) f = f (iW 5) := l_n (sh_I106 _ (by omega) _ (by omega)) (by decide)
theorem sh_I132 : ∀ qp < 2, SHL[132 + qp]? = some (100, 5) := by decide +kernel
theorem aI132 {p z : Int} {f : Int32 → Option XR} (gp : 0 ≤ p) (kp : p < 2) (h0 : 0 ≤ z) (h1 : z < 5) : x_aI (Sx I J b c) 100 (132 + p.toNat) (iW z) f = f (iW (I (132 + p) z)) := by
  rw [a_I (sh_I132 _ (by omega)) (by decide) h0 h1, show ((132 + p.toNat : Nat) : Int) = 132 + p by omega]
theorem sI132 {p z v : Int} {f : HP → Option XR} (gp : 0 ≤ p) (kp : p < 2) (h0 : 0 ≤ z) (h1 : z < 5) : x_sI (Sx I J b c) (132 + p.toNat) (iW z) (iW v) f = f (Sx (uI I (132 + p) z v) J b c) := by
  rw [s_I (sh_I132 _ (by omega)) (by decide) h0 h1, show ((132 + p.toNat : Nat) : Int) = 132 + p by omega]
theorem lI132 {p : Int} {f : Int32 → Option XR} (gp : 0 ≤ p) (kp : p < 2) : x_ln (Sx I J b c) (132 + p.toNat) f = f (iW 5) := l_n (sh_I132 _ (by omega)) (by decide)
theorem sh_I135 : ∀ qp < 2, SHL[135 + qp]? = some (100, 3) := by decide +kernel
theorem aI135 {p z : Int} {f : Int32 → Option XR} (gp : 0 ≤ p) (kp : p < 2) (h0 : 0 ≤ z) (h1 : z < 3) : x_aI (Sx I J b c) 100 (135 + p.toNat) (iW z) f = f (iW (I (135 + p) z)) := by
  rw [a_I (sh_I135 _ (by omega)) (by decide) h0 h1, show ((135 + p.toNat : Nat) : Int) = 135 + p by omega]
theorem sI135 {p z v : Int} {f : HP → Option XR} (gp : 0 ≤ p) (kp : p < 2) (h0 : 0 ≤ z) (h1 : z < 3) : x_sI (Sx I J b c) (135 + p.toNat) (iW z) (iW v) f = f (Sx (uI I (135 + p) z v) J b c) := by
  rw [s_I (sh_I135 _ (by omega)) (by decide) h0 h1, show ((135 + p.toNat : Nat) : Int) = 135 + p by omega]
theorem lI135 {p : Int} {f : Int32 → Option XR} (gp : 0 ≤ p) (kp : p < 2) : x_ln (Sx I J b c) (135 + p.toNat) f = f (iW 3) := l_n (sh_I135 _ (by omega)) (by decide)
theorem sh_I140 : ∀ qp < 12, ∀ qq < 2, SHL[140 + 3 * qp + qq]? = some (100, 5) := by decide +kernel
theorem aI140 {p q z : Int} {f : Int32 → Option XR} (gp : 0 ≤ p) (kp : p < 12) (gq : 0 ≤ q) (kq : q < 2) (h0 : 0 ≤ z) (h1 : z < 5) : x_aI (Sx I J b c) 100 (140 + 3 * p.toNat + q.toNat) (iW z) f = f (iW (I (140 + 3 * p + q) z)) := by
  rw [a_I (sh_I140 _ (by omega) _ (by omega)) (by decide) h0 h1, show ((140 + 3 * p.toNat + q.toNat : Nat) : Int) = 140 + 3 * p + q by omega]
theorem sI140 {p q z v : Int} {f : HP → Option XR} (gp : 0 ≤ p) (kp : p < 12) (gq : 0 ≤ q) (kq : q < 2) (h0 : 0 ≤ z) (h1 : z < 5) : x_sI (Sx I J b c) (140 + 3 * p.toNat + q.toNat) (iW z) (iW v) f = f (Sx (uI I (140 + 3 * p + q) z v) J b c) := by
  rw [s_I (sh_I140 _ (by omega) _ (by omega)) (by decide) h0 h1, show ((140 + 3 * p.toNat + q.toNat : Nat) : Int) = 140 + 3 * p + q by omega]
theorem lI140 {p q : Int} {f : Int32 → Option XR} (gp : 0 ≤ p) (kp : p < 12) (gq : 0 ≤ q) (kq : q < 2) : x_ln (Sx I J b c) (140 + 3 * p.toNat + q.toNat) f = f (iW 5) := l_n (sh_I140 _ (by omega) _ (by omega)) (by decide)
theorem sh_I176 : ∀ qp < 3, SHL[176 + qp]? = some (100, 300) := by decide +kernel
theorem aI176 {p z : Int} {f : Int32 → Option XR} (gp : 0 ≤ p) (kp : p < 3) (h0 : 0 ≤ z) (h1 : z < 300) : x_aI (Sx I J b c) 100 (176 + p.toNat) (iW z) f = f (iW (I (176 + p) z)) := by
  rw [a_I (sh_I176 _ (by omega)) (by decide) h0 h1, show ((176 + p.toNat : Nat) : Int) = 176 + p by omega]
theorem sI176 {p z v : Int} {f : HP → Option XR} (gp : 0 ≤ p) (kp : p < 3) (h0 : 0 ≤ z) (h1 : z < 300) : x_sI (Sx I J b c) (176 + p.toNat) (iW z) (iW v) f = f (Sx (uI I (176 + p) z v) J b c) := by
  rw [s_I (sh_I176 _ (by omega)) (by decide) h0 h1, show ((176 + p.toNat : Nat) : Int) = 176 + p by omega]
theorem lI176 {p : Int} {f : Int32 → Option XR} (gp : 0 ≤ p) (kp : p < 3) : x_ln (Sx I J b c) (176 + p.toNat) f = f (iW 300) := l_n (sh_I176 _ (by omega)) (by decide)
theorem sh_I180 : ∀ qp < 8, SHL[180 + qp]? = some (100, 300) := by decide +kernel
theorem aI180 {p z : Int} {f : Int32 → Option XR} (gp : 0 ≤ p) (kp : p < 8) (h0 : 0 ≤ z) (h1 : z < 300) : x_aI (Sx I J b c) 100 (180 + p.toNat) (iW z) f = f (iW (I (180 + p) z)) := by
  rw [a_I (sh_I180 _ (by omega)) (by decide) h0 h1, show ((180 + p.toNat : Nat) : Int) = 180 + p by omega]
theorem sI180 {p z v : Int} {f : HP → Option XR} (gp : 0 ≤ p) (kp : p < 8) (h0 : 0 ≤ z) (h1 : z < 300) : x_sI (Sx I J b c) (180 + p.toNat) (iW z) (iW v) f = f (Sx (uI I (180 + p) z v) J b c) := by
  rw [s_I (sh_I180 _ (by omega)) (by decide) h0 h1, show ((180 + p.toNat : Nat) : Int) = 180 + p by omega]
theorem lI180 {p : Int} {f : Int32 → Option XR} (gp : 0 ≤ p) (kp : p < 8) : x_ln (Sx I J b c) (180 + p.toNat) f = f (iW 300) := l_n (sh_I180 _ (by omega)) (by decide)
theorem sh_I191 : ∀ qp < 12, SHL[191 + qp]? = some (100, 5) := by decide +kernel
theorem aI191 {p z : Int} {f : Int32 → Option XR} (gp : 0 ≤ p) (kp : p < 12) (h0 : 0 ≤ z) (h1 : z < 5) : x_aI (Sx I J b c) 100 (191 + p.toNat) (iW z) f = f (iW (I (191 + p) z)) := by
  rw [a_I (sh_I191 _ (by omega)) (by decide) h0 h1, show ((191 + p.toNat : Nat) : Int) = 191 + p by omega]
theorem sI191 {p z v : Int} {f : HP → Option XR} (gp : 0 ≤ p) (kp : p < 12) (h0 : 0 ≤ z) (h1 : z < 5) : x_sI (Sx I J b c) (191 + p.toNat) (iW z) (iW v) f = f (Sx (uI I (191 + p) z v) J b c) := by
  rw [s_I (sh_I191 _ (by omega)) (by decide) h0 h1, show ((191 + p.toNat : Nat) : Int) = 191 + p by omega]
theorem lI191 {p : Int} {f : Int32 → Option XR} (gp : 0 ≤ p) (kp : p < 12) : x_ln (Sx I J b c) (191 + p.toNat) f = f (iW 5) := l_n (sh_I191 _ (by omega)) (by decide)
theorem sh_I205 : ∀ qp < 12, SHL[205 + qp]? = some (100, 2) := by decide +kernel
theorem aI205 {p z : Int} {f : Int32 → Option XR} (gp : 0 ≤ p) (kp : p < 12) (h0 : 0 ≤ z) (h1 : z < 2) : x_aI (Sx I J b c) 100 (205 + p.toNat) (iW z) f = f (iW (I (205 + p) z)) := by
  rw [a_I (sh_I205 _ (by omega)) (by decide) h0 h1, show ((205 + p.toNat : Nat) : Int) = 205 + p by omega]
theorem sI205 {p z v : Int} {f : HP → Option XR} (gp : 0 ≤ p) (kp : p < 12) (h0 : 0 ≤ z) (h1 : z < 2) : x_sI (Sx I J b c) (205 + p.toNat) (iW z) (iW v) f = f (Sx (uI I (205 + p) z v) J b c) := by
  rw [s_I (sh_I205 _ (by omega)) (by decide) h0 h1, show ((205 + p.toNat : Nat) : Int) = 205 + p by omega]
theorem lI205 {p : Int} {f : Int32 → Option XR} (gp : 0 ≤ p) (kp : p < 12) : x_ln (Sx I J b c) (205 + p.toNat) f = f (iW 2) := l_n (sh_I205 _ (by omega)) (by decide)
theorem sh_I223 : ∀ qp < 6, SHL[223 + qp]? = some (100, 128) := by decide +kernel
theorem aI223 {p z : Int} {f : Int32 → Option XR} (gp : 0 ≤ p) (kp : p < 6) (h0 : 0 ≤ z) (h1 : z < 128) : x_aI (Sx I J b c) 100 (223 + p.toNat) (iW z) f = f (iW (I (223 + p) z)) := by
  rw [a_I (sh_I223 _ (by omega)) (by decide) h0 h1, show ((223 + p.toNat : Nat) : Int) = 223 + p by omega]
theorem sI223 {p z v : Int} {f : HP → Option XR} (gp : 0 ≤ p) (kp : p < 6) (h0 : 0 ≤ z) (h1 : z < 128) : x_sI (Sx I J b c) (223 + p.toNat) (iW z) (iW v) f = f (Sx (uI I (223 + p) z v) J b c) := by
  rw [s_I (sh_I223 _ (by omega)) (by decide) h0 h1, show ((223 + p.toNat : Nat) : Int) = 223 + p by omega]
theorem lI223 {p : Int} {f : Int32 → Option XR} (gp : 0 ≤ p) (kp : p < 6) : x_ln (Sx I J b c) (223 + p.toNat) f = f (iW 128) := l_n (sh_I223 _ (by omega)) (by decide)
def isL (o : Nat) : Prop := o = 20 ∨ o = 28
theorem rcL {o : Nat} (ho : isL o) {k : Option XR} : x_rc (Sx I J b c) o 0 k = k := by
  rcases ho with rfl | rfl
  · exact r_c sh20
  · exact r_c sh28
theorem gIL_0 {o : Nat} (ho : isL o) {f : Int32 → Option XR} : x_gI (Sx I J b c) o 0 0 f = f (iW (I o 0)) := by
  rcases ho with rfl | rfl
  · exact g_I sh20
  · exact g_I sh28
theorem gIL_10 {o : Nat} (ho : isL o) {f : Int32 → Option XR} : x_gI (Sx I J b c) o 0 10 f = f (iW (I o 10)) := by
  rcases ho with rfl | rfl
  · exact g_I sh20
  · exact g_I sh28
theorem gIL_11 {o : Nat} (ho : isL o) {f : Int32 → Option XR} : x_gI (Sx I J b c) o 0 11 f = f (iW (I o 11)) := by
  rcases ho with rfl | rfl
  · exact g_I sh20
  · exact g_I sh28
theorem gIL_12 {o : Nat} (ho : isL o) {f : Int32 → Option XR} : x_gI (Sx I J b c) o 0 12 f = f (iW (I o 12)) := by
  rcases ho with rfl | rfl
  · exact g_I sh20
  · exact g_I sh28
theorem gIL_13 {o : Nat} (ho : isL o) {f : Int32 → Option XR} : x_gI (Sx I J b c) o 0 13 f = f (iW (I o 13)) := by
  rcases ho with rfl | rfl
  · exact g_I sh20
  · exact g_I sh28
theorem gIL_14 {o : Nat} (ho : isL o) {f : Int32 → Option XR} : x_gI (Sx I J b c) o 0 14 f = f (iW (I o 14)) := by
  rcases ho with rfl | rfl
  · exact g_I sh20
  · exact g_I sh28
theorem gIL_15 {o : Nat} (ho : isL o) {f : Int32 → Option XR} : x_gI (Sx I J b c) o 0 15 f = f (iW (I o 15)) := by
  rcases ho with rfl | rfl
  · exact g_I sh20
  · exact g_I sh28
theorem pIL_0 {o : Nat} (ho : isL o) {v : Int} {f : HP → Option XR} : x_pI (Sx I J b c) o 0 0 (iW v) f = f (Sx (uI I o 0 v) J b c) := by
  rcases ho with rfl | rfl
  · exact p_I sh20
  · exact p_I sh28
theorem pIL_10 {o : Nat} (ho : isL o) {v : Int} {f : HP → Option XR} : x_pI (Sx I J b c) o 0 10 (iW v) f = f (Sx (uI I o 10 v) J b c) := by
  rcases ho with rfl | rfl
  · exact p_I sh20
  · exact p_I sh28
theorem pIL_11 {o : Nat} (ho : isL o) {v : Int} {f : HP → Option XR} : x_pI (Sx I J b c) o 0 11 (iW v) f = f (Sx (uI I o 11 v) J b c) := by
  rcases ho with rfl | rfl
  · exact p_I sh20
  · exact p_I sh28
theorem pIL_12 {o : Nat} (ho : isL o) {v : Int} {f : HP → Option XR} : x_pI (Sx I J b c) o 0 12 (iW v) f = f (Sx (uI I o 12 v) J b c) := by
  rcases ho with rfl | rfl
  · exact p_I sh20
  · exact p_I sh28
theorem pIL_13 {o : Nat} (ho : isL o) {v : Int} {f : HP → Option XR} : x_pI (Sx I J b c) o 0 13 (iW v) f = f (Sx (uI I o 13 v) J b c) := by
  rcases ho with rfl | rfl
  · exact p_I sh20
  · exact p_I sh28
theorem pIL_14 {o : Nat} (ho : isL o) {v : Int} {f : HP → Option XR} : x_pI (Sx I J b c) o 0 14 (iW v) f = f (Sx (uI I o 14 v) J b c) := by
  rcases ho with rfl | rfl
  · exact p_I sh20
  · exact p_I sh28
theorem pIL_15 {o : Nat} (ho : isL o) {v : Int} {f : HP → Option XR} : x_pI (Sx I J b c) o 0 15 (iW v) f = f (Sx (uI I o 15 v) J b c) := by
  rcases ho with rfl | rfl
  · exact p_I sh20
  · exact p_I sh28
theorem gRL_1 {o : Nat} (ho : isL o) {f : Nat → Option XR} : x_gR (Sx I J b c) o 0 1 f = f 8 := by
  rcases ho with rfl | rfl
  · exact g_R sh20 (RW_at (by decide) (by decide +kernel))
  · exact g_R sh28 (RW_at (by decide) (by decide +kernel))
theorem gRL_2 {o : Nat} (ho : isL o) {f : Nat → Option XR} : x_gR (Sx I J b c) o 0 2 f = f 16 := by
  rcases ho with rfl | rfl
  · exact g_R sh20 (RW_at (by decide) (by decide +kernel))
  · exact g_R sh28 (RW_at (by decide) (by decide +kernel))
theorem gRL_3 {o : Nat} (ho : isL o) {f : Nat → Option XR} : x_gR (Sx I J b c) o 0 3 f = f (o + 1) := by
  rcases ho with rfl | rfl
  · exact g_R sh20 (RW_at (by decide) (by decide +kernel))
  · exact g_R sh28 (RW_at (by decide) (by decide +kernel))
theorem gRL_4 {o : Nat} (ho : isL o) {f : Nat → Option XR} : x_gR (Sx I J b c) o 0 4 f = f (o + 2) := by
  rcases ho with rfl | rfl
  · exact g_R sh20 (RW_at (by decide) (by decide +kernel))
  · exact g_R sh28 (RW_at (by decide) (by decide +kernel))
theorem gRL_5 {o : Nat} (ho : isL o) {f : Nat → Option XR} : x_gR (Sx I J b c) o 0 5 f = f (o + 3) := by
  rcases ho with rfl | rfl
  · exact g_R sh20 (RW_at (by decide) (by decide +kernel))
  · exact g_R sh28 (RW_at (by decide) (by decide +kernel))
theorem gRL_6 {o : Nat} (ho : isL o) {f : Nat → Option XR} : x_gR (Sx I J b c) o 0 6 f = f (o + 4) := by
  rcases ho with rfl | rfl
  · exact g_R sh20 (RW_at (by decide) (by decide +kernel))
  · exact g_R sh28 (RW_at (by decide) (by decide +kernel))
theorem gRL_7 {o : Nat} (ho : isL o) {f : Nat → Option XR} : x_gR (Sx I J b c) o 0 7 f = f (o + 5) := by
  rcases ho with rfl | rfl
  · exact g_R sh20 (RW_at (by decide) (by decide +kernel))
  · exact g_R sh28 (RW_at (by decide) (by decide +kernel))
theorem gRL_8 {o : Nat} (ho : isL o) {f : Nat → Option XR} : x_gR (Sx I J b c) o 0 8 f = f (o + 6) := by
  rcases ho with rfl | rfl
  · exact g_R sh20 (RW_at (by decide) (by decide +kernel))
  · exact g_R sh28 (RW_at (by decide) (by decide +kernel))
theorem gRL_9 {o : Nat} (ho : isL o) {f : Nat → Option XR} : x_gR (Sx I J b c) o 0 9 f = f (o + 7) := by
  rcases ho with rfl | rfl
  · exact g_R sh20 (RW_at (by decide) (by decide +kernel))
  · exact g_R sh28 (RW_at (by decide) (by decide +kernel))
theorem aIL1 {o : Nat} (ho : isL o) {z : Int} {f : Int32 → Option XR} (h0 : 0 ≤ z) (h1 : z < 65) : x_aI (Sx I J b c) 102 (o + 1) (iW z) f = f (iW (I (o + 1) z)) := by
  rcases ho with rfl | rfl
  · exact a_I sh21 (by decide) h0 h1
  · exact a_I sh29 (by decide) h0 h1
theorem sZL1 {o : Nat} (ho : isL o) {z v : Int} {f : HP → Option XR} (h0 : 0 ≤ z) (h1 : z < 65) (hv : v = 0 ∨ v = 1) : x_sZ (Sx I J b c) (o + 1) (iW z) (iW v) f = f (Sx (uI I (o + 1) z v) J b c) := by
  rcases ho with rfl | rfl
  · exact s_Z sh21 (by decide) h0 h1 hv
  · exact s_Z sh29 (by decide) h0 h1 hv
theorem lnL1 {o : Nat} (ho : isL o) {f : Int32 → Option XR} : x_ln (Sx I J b c) (o + 1) f = f (iW 65) := by
  rcases ho with rfl | rfl
  · exact l_n sh21 (by decide)
  · exact l_n sh29 (by decide)
theorem shL1 {o : Nat} (ho : isL o) : SHL[o + 1]? = some (102, 65) := by
  rcases ho with rfl | rfl
  · exact sh21
  · exact sh29
theorem aIL2 {o : Nat} (ho : isL o) {z : Int} {f : Int32 → Option XR} (h0 : 0 ≤ z) (h1 : z < 65) : x_aI (Sx I J b c) 100 (o + 2) (iW z) f = f (iW (I (o + 2) z)) := by
  rcases ho with rfl | rfl
  · exact a_I sh22 (by decide) h0 h1
  · exact a_I sh30 (by decide) h0 h1
theorem sIL2 {o : Nat} (ho : isL o) {z v : Int} {f : HP → Option XR} (h0 : 0 ≤ z) (h1 : z < 65) : x_sI (Sx I J b c) (o + 2) (iW z) (iW v) f = f (Sx (uI I (o + 2) z v) J b c) := by
  rcases ho with rfl | rfl
  · exact s_I sh22 (by decide) h0 h1
  · exact s_I sh30 (by decide) h0 h1
theorem lnL2 {o : Nat} (ho : isL o) {f : Int32 → Option XR} : x_ln (Sx I J b c) (o + 2) f = f (iW 65) := by
  rcases ho with rfl | rfl
  · exact l_n sh22 (by decide)
  · exact l_n sh30 (by decide)
theorem shL2 {o : Nat} (ho : isL o) : SHL[o + 2]? = some (100, 65) := by
  rcases ho with rfl | rfl
  · exact sh22
  · exact sh30
theorem aIL3 {o : Nat} (ho : isL o) {z : Int} {f : Int32 → Option XR} (h0 : 0 ≤ z) (h1 : z < 65) : x_aI (Sx I J b c) 100 (o + 3) (iW z) f = f (iW (I (o + 3) z)) := by
  rcases ho with rfl | rfl
  · exact a_I sh23 (by decide) h0 h1
  · exact a_I sh31 (by decide) h0 h1
theorem sIL3 {o : Nat} (ho : isL o) {z v : Int} {f : HP → Option XR} (h0 : 0 ≤ z) (h1 : z < 65) : x_sI (Sx I J b c) (o + 3) (iW z) (iW v) f = f (Sx (uI I (o + 3) z v) J b c) := by
  rcases ho with rfl | rfl
  · exact s_I sh23 (by decide) h0 h1
  · exact s_I sh31 (by decide) h0 h1
theorem lnL3 {o : Nat} (ho : isL o) {f : Int32 → Option XR} : x_ln (Sx I J b c) (o + 3) f = f (iW 65) := by
  rcases ho with rfl | rfl
  · exact l_n sh23 (by decide)
  · exact l_n sh31 (by decide)
theorem shL3 {o : Nat} (ho : isL o) : SHL[o + 3]? = some (100, 65) := by
  rcases ho with rfl | rfl
  · exact sh23
  · exact sh31
theorem aIL4 {o : Nat} (ho : isL o) {z : Int} {f : Int32 → Option XR} (h0 : 0 ≤ z) (h1 : z < 65) : x_aI (Sx I J b c) 100 (o + 4) (iW z) f = f (iW (I (o + 4) z)) := by
  rcases ho with rfl | rfl
  · exact a_I sh24 (by decide) h0 h1
  · exact a_I sh32 (by decide) h0 h1
theorem sIL4 {o : Nat} (ho : isL o) {z v : Int} {f : HP → Option XR} (h0 : 0 ≤ z) (h1 : z < 65) : x_sI (Sx I J b c) (o + 4) (iW z) (iW v) f = f (Sx (uI I (o + 4) z v) J b c) := by
  rcases ho with rfl | rfl
  · exact s_I sh24 (by decide) h0 h1
  · exact s_I sh32 (by decide) h0 h1
theorem lnL4 {o : Nat} (ho : isL o) {f : Int32 → Option XR} : x_ln (Sx I J b c) (o + 4) f = f (iW 65) := by
  rcases ho with rfl | rfl
  · exact l_n sh24 (by decide)
  · exact l_n sh32 (by decide)
theorem shL4 {o : Nat} (ho : isL o) : SHL[o + 4]? = some (100, 65) := by
  rcases ho with rfl | rfl
  · exact sh24
  · exact sh32
theorem aIL5 {o : Nat} (ho : isL o) {z : Int} {f : Int32 → Option XR} (h0 : 0 ≤ z) (h1 : z < 65) : x_aI (Sx I J b c) 100 (o + 5) (iW z) f = f (iW (I (o + 5) z)) := by
  rcases ho with rfl | rfl
  · exact a_I sh25 (by decide) h0 h1
  · exact a_I sh33 (by decide) h0 h1
theorem sIL5 {o : Nat} (ho : isL o) {z v : Int} {f : HP → Option XR} (h0 : 0 ≤ z) (h1 : z < 65) : x_sI (Sx I J b c) (o + 5) (iW z) (iW v) f = f (Sx (uI I (o + 5) z v) J b c) := by
  rcases ho with rfl | rfl
  · exact s_I sh25 (by decide) h0 h1
  · exact s_I sh33 (by decide) h0 h1
theorem lnL5 {o : Nat} (ho : isL o) {f : Int32 → Option XR} : x_ln (Sx I J b c) (o + 5) f = f (iW 65) := by
  rcases ho with rfl | rfl
  · exact l_n sh25 (by decide)
  · exact l_n sh33 (by decide)
theorem shL5 {o : Nat} (ho : isL o) : SHL[o + 5]? = some (100, 65) := by
  rcases ho with rfl | rfl
  · exact sh25
  · exact sh33
theorem aIL6 {o : Nat} (ho : isL o) {z : Int} {f : Int32 → Option XR} (h0 : 0 ≤ z) (h1 : z < 65) : x_aI (Sx I J b c) 100 (o + 6) (iW z) f = f (iW (I (o + 6) z)) := by
  rcases ho with rfl | rfl
  · exact a_I sh26 (by decide) h0 h1
  · exact a_I sh34 (by decide) h0 h1
theorem sIL6 {o : Nat} (ho : isL o) {z v : Int} {f : HP → Option XR} (h0 : 0 ≤ z) (h1 : z < 65) : x_sI (Sx I J b c) (o + 6) (iW z) (iW v) f = f (Sx (uI I (o + 6) z v) J b c) := by
  rcases ho with rfl | rfl
  · exact s_I sh26 (by decide) h0 h1
  · exact s_I sh34 (by decide) h0 h1
theorem lnL6 {o : Nat} (ho : isL o) {f : Int32 → Option XR} : x_ln (Sx I J b c) (o + 6) f = f (iW 65) := by
  rcases ho with rfl | rfl
  · exact l_n sh26 (by decide)
  · exact l_n sh34 (by decide)
theorem shL6 {o : Nat} (ho : isL o) : SHL[o + 6]? = some (100, 65) := by
  rcases ho with rfl | rfl
  · exact sh26
  · exact sh34
theorem aIL7 {o : Nat} (ho : isL o) {z : Int} {f : Int32 → Option XR} (h0 : 0 ≤ z) (h1 : z < 65) : x_aI (Sx I J b c) 100 (o + 7) (iW z) f = f (iW (I (o + 7) z)) := by
  rcases ho with rfl | rfl
  · exact a_I sh27 (by decide) h0 h1
  · exact a_I sh35 (by decide) h0 h1
theorem sIL7 {o : Nat} (ho : isL o) {z v : Int} {f : HP → Option XR} (h0 : 0 ≤ z) (h1 : z < 65) : x_sI (Sx I J b c) (o + 7) (iW z) (iW v) f = f (Sx (uI I (o + 7) z v) J b c) := by
  rcases ho with rfl | rfl
  · exact s_I sh27 (by decide) h0 h1
  · exact s_I sh35 (by decide) h0 h1
theorem lnL7 {o : Nat} (ho : isL o) {f : Int32 → Option XR} : x_ln (Sx I J b c) (o + 7) f = f (iW 65) := by
  rcases ho with rfl | rfl
  · exact l_n sh27 (by decide)
  · exact l_n sh35 (by decide)
theorem shL7 {o : Nat} (ho : isL o) : SHL[o + 7]? = some (100, 65) := by
  rcases ho with rfl | rfl
  · exact sh27
  · exact sh35
def isM (m : Nat) : Prop := m ∈ [8, 47, 52, 57, 62, 67, 72, 77, 82, 87, 92, 97]
theorem shM : ∀ m ∈ [8, 47, 52, 57, 62, 67, 72, 77, 82, 87, 92, 97], SHL[m]? = some (4, 0) := by decide +kernel
theorem rcM {m : Nat} (hm : isM m) {k : Option XR} : x_rc (Sx I J b c) m 4 k = k := r_c (shM m hm)
theorem gIM_4 {m : Nat} (hm : isM m) {f : Int32 → Option XR} : x_gI (Sx I J b c) m 4 4 f = f (iW (I m 4)) := g_I (shM m hm)
theorem gIM_5 {m : Nat} (hm : isM m) {f : Int32 → Option XR} : x_gI (Sx I J b c) m 4 5 f = f (iW (I m 5)) := g_I (shM m hm)
theorem gIM_6 {m : Nat} (hm : isM m) {f : Int32 → Option XR} : x_gI (Sx I J b c) m 4 6 f = f (iW (I m 6)) := g_I (shM m hm)
theorem pIM_4 {m : Nat} (hm : isM m) {v : Int} {f : HP → Option XR} : x_pI (Sx I J b c) m 4 4 (iW v) f = f (Sx (uI I m 4 v) J b c) := p_I (shM m hm)
theorem pIM_5 {m : Nat} (hm : isM m) {v : Int} {f : HP → Option XR} : x_pI (Sx I J b c) m 4 5 (iW v) f = f (Sx (uI I m 5 v) J b c) := p_I (shM m hm)
theorem pZM_6 {m : Nat} (hm : isM m) {v : Int} {f : HP → Option XR} (hv : v = 0 ∨ v = 1) : x_pZ (Sx I J b c) m 4 6 (iW v) f = f (Sx (uI I m 6 v) J b c) := p_Z (shM m hm) hv
theorem rfM0 : ∀ m ∈ [8, 47, 52, 57, 62, 67, 72, 77, 82, 87, 92, 97], cR wc412.2.2.1 m 0 = some (m + 1) := by decide +kernel
theorem shM0 : ∀ m ∈ [8, 47, 52, 57, 62, 67, 72, 77, 82, 87, 92, 97], SHL[m + 1]? = some (100, 130) := by decide +kernel
theorem gRM_0 {m : Nat} (hm : isM m) {f : Nat → Option XR} : x_gR (Sx I J b c) m 4 0 f = f (m + 1) := g_R (shM m hm) (RW_at (by intro q; rw [q.1] at hm; revert hm; unfold isM; decide) (rfM0 m hm))
theorem lnM0 {m : Nat} (hm : isM m) {f : Int32 → Option XR} : x_ln (Sx I J b c) (m + 1) f = f (iW 130) := l_n (shM0 m hm) (by decide)
theorem cpM0 {m m2 : Nat} (hm : isM m) (h2 : isM m2) {f : HP → Option XR} : x_cp (Sx I J b c) (m + 1) (iW 0) (m2 + 1) (iW 0) (iW 130) f = f (Sx (cpf I (m + 1) 0 (m2 + 1) 0 130) J b c) := c_p (shM0 m hm) (shM0 m2 h2) (by decide) (by decide) (by omega) (by omega) (by omega) (by omega) (by omega)
theorem rfM1 : ∀ m ∈ [8, 47, 52, 57, 62, 67, 72, 77, 82, 87, 92, 97], cR wc412.2.2.1 m 1 = some (m + 2) := by decide +kernel
theorem shM1 : ∀ m ∈ [8, 47, 52, 57, 62, 67, 72, 77, 82, 87, 92, 97], SHL[m + 2]? = some (100, 2) := by decide +kernel
theorem gRM_1 {m : Nat} (hm : isM m) {f : Nat → Option XR} : x_gR (Sx I J b c) m 4 1 f = f (m + 2) := g_R (shM m hm) (RW_at (by intro q; rw [q.1] at hm; revert hm; unfold isM; decide) (rfM1 m hm))
theorem lnM1 {m : Nat} (hm : isM m) {f : Int32 → Option XR} : x_ln (Sx I J b c) (m + 2) f = f (iW 2) := l_n (shM1 m hm) (by decide)
theorem cpM1 {m m2 : Nat} (hm : isM m) (h2 : isM m2) {f : HP → Option XR} : x_cp (Sx I J b c) (m + 2) (iW 0) (m2 + 2) (iW 0) (iW 2) f = f (Sx (cpf I (m + 2) 0 (m2 + 2) 0 2) J b c) := c_p (shM1 m hm) (shM1 m2 h2) (by decide) (by decide) (by omega) (by omega) (by omega) (by omega) (by omega)
theorem rfM2 : ∀ m ∈ [8, 47, 52, 57, 62, 67, 72, 77, 82, 87, 92, 97], cR wc412.2.2.1 m 2 = some (m + 3) := by decide +kernel
theorem shM2 : ∀ m ∈ [8, 47, 52, 57, 62, 67, 72, 77, 82, 87, 92, 97], SHL[m + 3]? = some (100, 6) := by decide +kernel
theorem gRM_2 {m : Nat} (hm : isM m) {f : Nat → Option XR} : x_gR (Sx I J b c) m 4 2 f = f (m + 3) := g_R (shM m hm) (RW_at (by intro q; rw [q.1] at hm; revert hm; unfold isM; decide) (rfM2 m hm))
theorem lnM2 {m : Nat} (hm : isM m) {f : Int32 → Option XR} : x_ln (Sx I J b c) (m + 3) f = f (iW 6) := l_n (shM2 m hm) (by decide)
theorem cpM2 {m m2 : Nat} (hm : isM m) (h2 : isM m2) {f : HP → Option XR} : x_cp (Sx I J b c) (m + 3) (iW 0) (m2 + 3) (iW 0) (iW 6) f = f (Sx (cpf I (m + 3) 0 (m2 + 3) 0 6) J b c) := c_p (shM2 m hm) (shM2 m2 h2) (by decide) (by decide) (by omega) (by omega) (by omega) (by omega) (by omega)
theorem rfM3 : ∀ m ∈ [8, 47, 52, 57, 62, 67, 72, 77, 82, 87, 92, 97], cR wc412.2.2.1 m 3 = some (m + 4) := by decide +kernel
theorem shM3 : ∀ m ∈ [8, 47, 52, 57, 62, 67, 72, 77, 82, 87, 92, 97], SHL[m + 4]? = some (100, 120) := by decide +kernel
theorem gRM_3 {m : Nat} (hm : isM m) {f : Nat → Option XR} : x_gR (Sx I J b c) m 4 3 f = f (m + 4) := g_R (shM m hm) (RW_at (by intro q; rw [q.1] at hm; revert hm; unfold isM; decide) (rfM3 m hm))
theorem lnM3 {m : Nat} (hm : isM m) {f : Int32 → Option XR} : x_ln (Sx I J b c) (m + 4) f = f (iW 120) := l_n (shM3 m hm) (by decide)
theorem cpM3 {m m2 : Nat} (hm : isM m) (h2 : isM m2) {f : HP → Option XR} : x_cp (Sx I J b c) (m + 4) (iW 0) (m2 + 4) (iW 0) (iW 120) f = f (Sx (cpf I (m + 4) 0 (m2 + 4) 0 120) J b c) := c_p (shM3 m hm) (shM3 m2 h2) (by decide) (by decide) (by omega) (by omega) (by omega) (by omega) (by omega)
end RowsT
theorem li0 : (0 : Int32) = iW 0 := Eq.symm (Eq.symm rfl)
theorem li1 : (1 : Int32) = iW 1 := Eq.symm (Eq.symm rfl)
theorem li2 : (2 : Int32) = iW 2 := Eq.symm (Eq.symm rfl)
theorem li3 : (3 : Int32) = iW 3 := Eq.symm (Eq.symm rfl)
theorem li4 : (4 : Int32) = iW 4 := Eq.symm (Eq.symm rfl)
theorem li5 : (5 : Int32) = iW 5 := Eq.symm (Eq.symm rfl)
theorem li6 : (6 : Int32) = iW 6 := Eq.symm (Eq.symm rfl)
theorem li7 : (7 : Int32) = iW 7 := Eq.symm (Eq.symm rfl)
theorem li8 : (8 : Int32) = iW 8 := Eq.symm (Eq.symm rfl)
theorem li9 : (9 : Int32) = iW 9 := Eq.symm (Eq.symm rfl)
theorem li10 : (10 : Int32) = iW 10 := Eq.symm (Eq.symm rfl)
theorem li11 : (11 : Int32) = iW 11 := Eq.symm (Eq.symm rfl)
theorem li12 : (12 : Int32) = iW 12 := Eq.symm (Eq.symm rfl)
theorem li13 : (13 : Int32) = iW 13 := Eq.symm (Eq.symm rfl)
theorem li14 : (14 : Int32) = iW 14 := Eq.symm (Eq.symm rfl)
theorem li15 : (15 : Int32) = iW 15 := Eq.symm (Eq.symm rfl)
theorem li16 : (16 : Int32) = iW 16 := Eq.symm (Eq.symm rfl)
theorem li17 : (17 : Int32) = iW 17 := Eq.symm (Eq.symm rfl)
theorem li18 : (18 : Int32) = iW 18 := Eq.symm (Eq.symm rfl)
theorem li19 : (19 : Int32) = iW 19 := Eq.symm (Eq.symm rfl)
theorem li20 : (20 : Int32) = iW 20 := Eq.symm (Eq.symm rfl)
theorem li21 : (21 : Int32) = iW 21 := Eq.symm (Eq.symm rfl)
theorem li22 : (22 : Int32) = iW 22 := Eq.symm (Eq.symm rfl)
theorem li23 : (23 : Int32) = iW 23 := Eq.symm (Eq.symm rfl)
theorem li24 : (24 : Int32) = iW 24 := Eq.symm (Eq.symm rfl)
theorem li25 : (25 : Int32) = iW 25 := Eq.symm (Eq.symm rfl)
theorem li26 : (26 : Int32) = iW 26 := Eq.symm (Eq.symm rfl)
theorem li27 : (27 : Int32) = iW 27 := Eq.symm (Eq.symm rfl)
theorem li28 : (28 : Int32) = iW 28 := Eq.symm (Eq.symm rfl)
theorem li29 : (29 : Int32) = iW 29 := Eq.symm (Eq.symm rfl)
theorem li30 : (30 : Int32) = iW 30 := Eq.symm (Eq.symm rfl)
theorem li31 : (31 : Int32) = iW 31 := Eq.symm (Eq.symm rfl)
theorem li32 : (32 : Int32) = iW 32 := Eq.symm (Eq.symm rfl)
theorem li33 : (33 : Int32) = iW 33 := Eq.symm (Eq.symm rfl)
theorem li34 : (34 : Int32) = iW 34 := Eq.symm (Eq.symm rfl)
theorem li35 : (35 : Int32) = iW 35 := Eq.symm (Eq.symm rfl)
theorem li36 : (36 : Int32) = iW 36 := Eq.symm (Eq.symm rfl)
theorem li37 : (37 : Int32) = iW 37 := Eq.symm (Eq.symm rfl)
theorem li38 : (38 : Int32) = iW 38 := Eq.symm (Eq.symm rfl)
theorem li39 : (39 : Int32) = iW 39 := Eq.symm (Eq.symm rfl)
theorem li40 : (40 : Int32) = iW 40 := Eq.symm (Eq.symm rfl)
theorem li41 : (41 : Int32) = iW 41 := Eq.symm (Eq.symm rfl)
theorem li42 : (42 : Int32) = iW 42 := Eq.symm (Eq.symm rfl)
theorem li44 : (44 : Int32) = iW 44 := Eq.symm (Eq.symm rfl)
theorem li48 : (48 : Int32) = iW 48 := Eq.symm (Eq.symm rfl)
theorem li57 : (57 : Int32) = iW 57 := Eq.symm (Eq.symm rfl)
theorem li63 : (63 : Int32) = iW 63 := Eq.symm (Eq.symm rfl)
theorem li64 : (64 : Int32) = iW 64 := Eq.symm (Eq.symm rfl)
theorem li65 : (65 : Int32) = iW 65 := Eq.symm (Eq.symm rfl)
theorem li97 : (97 : Int32) = iW 97 := Eq.symm (Eq.symm rfl)
theorem li99 : (99 : Int32) = iW 99 := Eq.symm (Eq.symm rfl)
theorem li100 : (100 : Int32) = iW 100 := Eq.symm (Eq.symm rfl)
theorem li101 : (101 : Int32) = iW 101 := Eq.symm (Eq.symm rfl)
theorem li102 : (102 : Int32) = iW 102 := Eq.symm (Eq.symm rfl)
theorem li104 : (104 : Int32) = iW 104 := Eq.symm (Eq.symm rfl)
theorem li105 : (105 : Int32) = iW 105 := Eq.symm (Eq.symm rfl)
theorem li106 : (106 : Int32) = iW 106 := Eq.symm (Eq.symm rfl)
theorem li109 : (109 : Int32) = iW 109 := Eq.symm (Eq.symm rfl)
theorem li114 : (114 : Int32) = iW 114 := Eq.symm (Eq.symm rfl)
theorem li120 : (120 : Int32) = iW 120 := Eq.symm (Eq.symm rfl)
theorem li128 : (128 : Int32) = iW 128 := Eq.symm (Eq.symm rfl)
theorem li130 : (130 : Int32) = iW 130 := Eq.symm (Eq.symm rfl)
theorem li300 : (300 : Int32) = iW 300 := Eq.symm (Eq.symm rfl)
theorem li514 : (514 : Int32) = iW 514 := Eq.symm (Eq.symm rfl)
theorem li999 : (999 : Int32) = iW 999 := Eq.symm (Eq.symm rfl)
theorem li1000 : (1000 : Int32) = iW 1000 := Eq.symm (Eq.symm rfl)
theorem li8192 : (8192 : Int32) = iW 8192 := Eq.symm (Eq.symm rfl)
theorem li9999 : (9999 : Int32) = iW 9999 := Eq.symm (Eq.symm rfl)
theorem li65536 : (65536 : Int32) = iW 65536 := Eq.symm (Eq.symm rfl)
theorem li1000000 : (1000000 : Int32) = iW 1000000 := Eq.symm (Eq.symm rfl)
theorem li1000001 : (1000001 : Int32) = iW 1000001 := Eq.symm (Eq.symm rfl)
theorem li1000002 : (1000002 : Int32) = iW 1000002 := Eq.symm (Eq.symm rfl)
theorem li1000003 : (1000003 : Int32) = iW 1000003 := Eq.symm (Eq.symm rfl)
theorem li1000004 : (1000004 : Int32) = iW 1000004 := Eq.symm (Eq.symm rfl)
theorem li1000005 : (1000005 : Int32) = iW 1000005 := Eq.symm (Eq.symm rfl)
theorem li1000006 : (1000006 : Int32) = iW 1000006 := Eq.symm (Eq.symm rfl)
theorem li1000007 : (1000007 : Int32) = iW 1000007 := Eq.symm (Eq.symm rfl)
theorem li1000008 : (1000008 : Int32) = iW 1000008 := Eq.symm (Eq.symm rfl)
theorem li1000009 : (1000009 : Int32) = iW 1000009 := Eq.symm (Eq.symm rfl)
theorem li1000010 : (1000010 : Int32) = iW 1000010 := Eq.symm (Eq.symm rfl)
theorem li1000011 : (1000011 : Int32) = iW 1000011 := Eq.symm (Eq.symm rfl)
theorem li1000012 : (1000012 : Int32) = iW 1000012 := Eq.symm (Eq.symm rfl)
theorem li1000013 : (1000013 : Int32) = iW 1000013 := Eq.symm (Eq.symm rfl)
theorem li1000014 : (1000014 : Int32) = iW 1000014 := Eq.symm (Eq.symm rfl)
theorem li1000015 : (1000015 : Int32) = iW 1000015 := Eq.symm (Eq.symm rfl)
theorem li1000016 : (1000016 : Int32) = iW 1000016 := Eq.symm (Eq.symm rfl)
theorem li1000017 : (1000017 : Int32) = iW 1000017 := Eq.symm (Eq.symm rfl)
theorem li1000018 : (1000018 : Int32) = iW 1000018 := Eq.symm (Eq.symm rfl)
theorem li1000019 : (1000019 : Int32) = iW 1000019 := Eq.symm (Eq.symm rfl)
theorem li2147483647 : (2147483647 : Int32) = iW 2147483647 := Eq.symm (Eq.symm rfl)
theorem lj0 : (0 : Int64) = jV 0 := Eq.symm (Eq.symm rfl)
theorem lj1 : (1 : Int64) = jV 1 := Eq.symm (Eq.symm rfl)
