set_option maxRecDepth 100000 in
set_option maxHeartbeats 4000000 in
theorem EL_at0 (D : va_G) (cs : Nat → ClassId) (h hm : Nat) (g : Nat → Nat) (a9 : Nat) (f9 : Nat → Int32) (a10 : Nat) (r48 : Nat → Nat) (ac r72 r96 r100 az r104 r108 : Nat → Nat) (ab : Nat) (rE xE yE zE af : Nat → Nat) (ay : Nat) (am : Nat → Nat) (f26 : Nat → Int32) : ∀ c, 0 ≤ c → c < 34 → kd c ≠ 2 → kd c ≠ 3 → (EL cs h hm g a9 f9 a10 r48 ac r72 r96 r100 az r104 r108 ab rE xE yE zE af ay am f26)[PIl.getD c 0]? = some (AD h hm g a9 a10 r48 ac r72 r96 r100 az r104 r108 ab rE xE yE zE af ay am c, cel (D, cs, AD h hm g a9 a10 r48 ac r72 r96 r100 az r104 r108 ab rE xE yE zE af ay am) (S0f f9 f26) c) := by
  intro c h1 h2 h3 h4
  by_cases z0 : c = 0
  · rw [z0]; rfl
  by_cases z1 : c = 1
  · rw [z1]; rfl
  by_cases z2 : c = 2
  · rw [z2]; rfl
  by_cases z3 : c = 3
  · rw [z3]; rfl
  by_cases z4 : c = 4
  · rw [z4]; rfl
  by_cases z5 : c = 5
  · rw [z5]; rfl
  by_cases z6 : c = 6
  · rw [z6]; rfl
  by_cases z7 : c = 7
  · rw [z7]; rfl
  by_cases z8 : c = 8
  · rw [z8]; rfl
  by_cases z9 : c = 9
  · rw [z9]; rfl
  by_cases z10 : c = 10
  · rw [z10] at h3 h4; first | exact absurd rfl h3 | exact absurd rfl h4
  by_cases z11 : c = 11
  · rw [z11] at h3 h4; first | exact absurd rfl h3 | exact absurd rfl h4
  by_cases z12 : c = 12
  · rw [z12] at h3 h4; first | exact absurd rfl h3 | exact absurd rfl h4
  by_cases z13 : c = 13
  · rw [z13] at h3 h4; first | exact absurd rfl h3 | exact absurd rfl h4
  by_cases z14 : c = 14
  · rw [z14]; rfl
  by_cases z15 : c = 15
  · rw [z15]; rfl
  by_cases z16 : c = 16
  · rw [z16] at h3 h4; first | exact absurd rfl h3 | exact absurd rfl h4
  by_cases z17 : c = 17
  · rw [z17] at h3 h4; first | exact absurd rfl h3 | exact absurd rfl h4
  by_cases z18 : c = 18
  · rw [z18]; rfl
  by_cases z19 : c = 19
  · rw [z19] at h3 h4; first | exact absurd rfl h3 | exact absurd rfl h4
  by_cases z20 : c = 20
  · rw [z20]; rfl
  by_cases z21 : c = 21
  · rw [z21]; rfl
  by_cases z22 : c = 22
  · rw [z22]; rfl
  by_cases z23 : c = 23
  · rw [z23]; rfl
  by_cases z24 : c = 24
  · rw [z24]; rfl
  by_cases z25 : c = 25
  · rw [z25]; rfl
  by_cases z26 : c = 26
  · rw [z26]; rfl
  by_cases z27 : c = 27
  · rw [z27]; rfl
  by_cases z28 : c = 28
  · rw [z28]; rfl
  by_cases z29 : c = 29
  · rw [z29]; rfl
  by_cases z30 : c = 30
  · rw [z30]; rfl
  by_cases z31 : c = 31
  · rw [z31]; rfl
  by_cases z32 : c = 32
  · rw [z32]; rfl
  by_cases z33 : c = 33
  · rw [z33]; rfl
  exact absurd h2 (by omega)
set_option maxRecDepth 100000 in
set_option maxHeartbeats 4000000 in
theorem EL_at34 (D : va_G) (cs : Nat → ClassId) (h hm : Nat) (g : Nat → Nat) (a9 : Nat) (f9 : Nat → Int32) (a10 : Nat) (r48 : Nat → Nat) (ac r72 r96 r100 az r104 r108 : Nat → Nat) (ab : Nat) (rE xE yE zE af : Nat → Nat) (ay : Nat) (am : Nat → Nat) (f26 : Nat → Int32) : ∀ c, 34 ≤ c → c < 68 → kd c ≠ 2 → kd c ≠ 3 → (EL cs h hm g a9 f9 a10 r48 ac r72 r96 r100 az r104 r108 ab rE xE yE zE af ay am f26)[PIl.getD c 0]? = some (AD h hm g a9 a10 r48 ac r72 r96 r100 az r104 r108 ab rE xE yE zE af ay am c, cel (D, cs, AD h hm g a9 a10 r48 ac r72 r96 r100 az r104 r108 ab rE xE yE zE af ay am) (S0f f9 f26) c) := by
  intro c h1 h2 h3 h4
  by_cases z34 : c = 34
  · rw [z34]; rfl
  by_cases z35 : c = 35
  · rw [z35]; rfl
  by_cases z36 : c = 36
  · rw [z36]; rfl
  by_cases z37 : c = 37
  · rw [z37]; rfl
  by_cases z38 : c = 38
  · rw [z38]; rfl
  by_cases z39 : c = 39
  · rw [z39]; rfl
  by_cases z40 : c = 40
  · rw [z40]; rfl
  by_cases z41 : c = 41
  · rw [z41]; rfl
  by_cases z42 : c = 42
  · rw [z42]; rfl
  by_cases z43 : c = 43
  · rw [z43]; rfl
  by_cases z44 : c = 44
  · rw [z44]; rfl
  by_cases z45 : c = 45
  · rw [z45]; rfl
  by_cases z46 : c = 46
  · rw [z46]; rfl
  by_cases z47 : c = 47
  · rw [z47]; rfl
  by_cases z48 : c = 48
  · rw [z48]; rfl
  by_cases z49 : c = 49
  · rw [z49]; rfl
  by_cases z50 : c = 50
  · rw [z50]; rfl
  by_cases z51 : c = 51
  · rw [z51]; rfl
  by_cases z52 : c = 52
  · rw [z52]; rfl
  by_cases z53 : c = 53
  · rw [z53]; rfl
  by_cases z54 : c = 54
  · rw [z54]; rfl
  by_cases z55 : c = 55
  · rw [z55]; rfl
  by_cases z56 : c = 56
  · rw [z56]; rfl
  by_cases z57 : c = 57
  · rw [z57]; rfl
  by_cases z58 : c = 58
  · rw [z58]; rfl
  by_cases z59 : c = 59
  · rw [z59]; rfl
  by_cases z60 : c = 60
  · rw [z60]; rfl
  by_cases z61 : c = 61
  · rw [z61]; rfl
  by_cases z62 : c = 62
  · rw [z62]; rfl
  by_cases z63 : c = 63
  · rw [z63]; rfl
  by_cases z64 : c = 64
  · rw [z64]; rfl
  by_cases z65 : c = 65
  · rw [z65]; rfl
  by_cases z66 : c = 66
  · rw [z66]; rfl
  by_cases z67 : c = 67
  · rw [z67]; rfl
  exact absurd h2 (by omega)
set_option maxRecDepth 100000 in
set_option maxHeartbeats 4000000 in
theorem EL_at68 (D : va_G) (cs : Nat → ClassId) (h hm : Nat) (g : Nat → Nat) (a9 : Nat) (f9 : Nat → Int32) (a10 : Nat) (r48 : Nat → Nat) (ac r72 r96 r100 az r104 r108 : Nat → Nat) (ab : Nat) (rE xE yE zE af : Nat → Nat) (ay : Nat) (am : Nat → Nat) (f26 : Nat → Int32) : ∀ c, 68 ≤ c → c < 102 → kd c ≠ 2 → kd c ≠ 3 → (EL cs h hm g a9 f9 a10 r48 ac r72 r96 r100 az r104 r108 ab rE xE yE zE af ay am f26)[PIl.getD c 0]? = some (AD h hm g a9 a10 r48 ac r72 r96 r100 az r104 r108 ab rE xE yE zE af ay am c, cel (D, cs, AD h hm g a9 a10 r48 ac r72 r96 r100 az r104 r108 ab rE xE yE zE af ay am) (S0f f9 f26) c) := by
  intro c h1 h2 h3 h4
  by_cases z68 : c = 68
  · rw [z68]; rfl
  by_cases z69 : c = 69
  · rw [z69]; rfl
  by_cases z70 : c = 70
  · rw [z70]; rfl
  by_cases z71 : c = 71
  · rw [z71]; rfl
  by_cases z72 : c = 72
  · rw [z72]; rfl
  by_cases z73 : c = 73
  · rw [z73]; rfl
  by_cases z74 : c = 74
  · rw [z74]; rfl
  by_cases z75 : c = 75
  · rw [z75]; rfl
  by_cases z76 : c = 76
  · rw [z76]; rfl
  by_cases z77 : c = 77
  · rw [z77]; rfl
  by_cases z78 : c = 78
  · rw [z78]; rfl
  by_cases z79 : c = 79
  · rw [z79]; rfl
  by_cases z80 : c = 80
  · rw [z80]; rfl
  by_cases z81 : c = 81
  · rw [z81]; rfl
  by_cases z82 : c = 82
  · rw [z82]; rfl
  by_cases z83 : c = 83
  · rw [z83]; rfl
  by_cases z84 : c = 84
  · rw [z84]; rfl
  by_cases z85 : c = 85
  · rw [z85]; rfl
  by_cases z86 : c = 86
  · rw [z86]; rfl
  by_cases z87 : c = 87
  · rw [z87]; rfl
  by_cases z88 : c = 88
  · rw [z88]; rfl
  by_cases z89 : c = 89
  · rw [z89]; rfl
  by_cases z90 : c = 90
  · rw [z90]; rfl
  by_cases z91 : c = 91
  · rw [z91]; rfl
  by_cases z92 : c = 92
  · rw [z92]; rfl
  by_cases z93 : c = 93
  · rw [z93]; rfl
  by_cases z94 : c = 94
  · rw [z94]; rfl
  by_cases z95 : c = 95
  · rw [z95]; rfl
  by_cases z96 : c = 96
  · rw [z96]; rfl
  by_cases z97 : c = 97
  · rw [z97]; rfl
  by_cases z98 : c = 98
  · rw [z98]; rfl
  by_cases z99 : c = 99
  · rw [z99]; rfl
  by_cases z100 : c = 100
  · rw [z100]; rfl
  by_cases z101 : c = 101
  · rw [z101]; rfl
  exact absurd h2 (by omega)
set_option maxRecDepth 100000 in
set_option maxHeartbeats 4000000 in
theorem EL_at102 (D : va_G) (cs : Nat → ClassId) (h hm : Nat) (g : Nat → Nat) (a9 : Nat) (f9 : Nat → Int32) (a10 : Nat) (r48 : Nat → Nat) (ac r72 r96 r100 az r104 r108 : Nat → Nat) (ab : Nat) (rE xE yE zE af : Nat → Nat) (ay : Nat) (am : Nat → Nat) (f26 : Nat → Int32) : ∀ c, 102 ≤ c → c < 136 → kd c ≠ 2 → kd c ≠ 3 → (EL cs h hm g a9 f9 a10 r48 ac r72 r96 r100 az r104 r108 ab rE xE yE zE af ay am f26)[PIl.getD c 0]? = some (AD h hm g a9 a10 r48 ac r72 r96 r100 az r104 r108 ab rE xE yE zE af ay am c, cel (D, cs, AD h hm g a9 a10 r48 ac r72 r96 r100 az r104 r108 ab rE xE yE zE af ay am) (S0f f9 f26) c) := by
  intro c h1 h2 h3 h4
  by_cases z102 : c = 102
  · rw [z102]; rfl
  by_cases z103 : c = 103
  · rw [z103]; rfl
  by_cases z104 : c = 104
  · rw [z104]; rfl
  by_cases z105 : c = 105
  · rw [z105]; rfl
  by_cases z106 : c = 106
  · rw [z106]; rfl
  by_cases z107 : c = 107
  · rw [z107]; rfl
  by_cases z108 : c = 108
  · rw [z108]; rfl
  by_cases z109 : c = 109
  · rw [z109]; rfl
  by_cases z110 : c = 110
  · rw [z110]; rfl
  by_cases z111 : c = 111
  · rw [z111]; rfl
  by_cases z112 : c = 112
  · rw [z112]; rfl
  by_cases z113 : c = 113
  · rw [z113]; rfl
  by_cases z114 : c = 114
  · rw [z114]; rfl
  by_cases z115 : c = 115
  · rw [z115]; rfl
  by_cases z116 : c = 116
  · rw [z116]; rfl
  by_cases z117 : c = 117
  · rw [z117]; rfl
  by_cases z118 : c = 118
  · rw [z118]; rfl
  by_cases z119 : c = 119
  · rw [z119]; rfl
  by_cases z120 : c = 120
  · rw [z120]; rfl
  by_cases z121 : c = 121
  · rw [z121]; rfl
  by_cases z122 : c = 122
  · rw [z122]; rfl
  by_cases z123 : c = 123
  · rw [z123]; rfl
  by_cases z124 : c = 124
  · rw [z124]; rfl
  by_cases z125 : c = 125
  · rw [z125]; rfl
  by_cases z126 : c = 126
  · rw [z126]; rfl
  by_cases z127 : c = 127
  · rw [z127]; rfl
  by_cases z128 : c = 128
  · rw [z128]; rfl
  by_cases z129 : c = 129
  · rw [z129]; rfl
  by_cases z130 : c = 130
  · rw [z130]; rfl
  by_cases z131 : c = 131
  · rw [z131]; rfl
  by_cases z132 : c = 132
  · rw [z132]; rfl
  by_cases z133 : c = 133
  · rw [z133]; rfl
  by_cases z134 : c = 134
  · rw [z134]; rfl
  by_cases z135 : c = 135
  · rw [z135]; rfl
  exact absurd h2 (by omega)
set_option maxRecDepth 100000 in
set_option maxHeartbeats 4000000 in
theorem EL_at136 (D : va_G) (cs : Nat → ClassId) (h hm : Nat) (g : Nat → Nat) (a9 : Nat) (f9 : Nat → Int32) (a10 : Nat) (r48 : Nat → Nat) (ac r72 r96 r100 az r104 r108 : Nat → Nat) (ab : Nat) (rE xE yE zE af : Nat → Nat) (ay : Nat) (am : Nat → Nat) (f26 : Nat → Int32) : ∀ c, 136 ≤ c → c < 170 → kd c ≠ 2 → kd c ≠ 3 → (EL cs h hm g a9 f9 a10 r48 ac r72 r96 r100 az r104 r108 ab rE xE yE zE af ay am f26)[PIl.getD c 0]? = some (AD h hm g a9 a10 r48 ac r72 r96 r100 az r104 r108 ab rE xE yE zE af ay am c, cel (D, cs, AD h hm g a9 a10 r48 ac r72 r96 r100 az r104 r108 ab rE xE yE zE af ay am) (S0f f9 f26) c) := by
  intro c h1 h2 h3 h4
  by_cases z136 : c = 136
  · rw [z136]; rfl
  by_cases z137 : c = 137
  · rw [z137]; rfl
  by_cases z138 : c = 138
  · rw [z138]; rfl
  by_cases z139 : c = 139
  · rw [z139]; rfl
  by_cases z140 : c = 140
  · rw [z140]; rfl
  by_cases z141 : c = 141
  · rw [z141]; rfl
  by_cases z142 : c = 142
  · rw [z142]; rfl
  by_cases z143 : c = 143
  · rw [z143]; rfl
  by_cases z144 : c = 144
  · rw [z144]; rfl
  by_cases z145 : c = 145
  · rw [z145]; rfl
  by_cases z146 : c = 146
  · rw [z146]; rfl
  by_cases z147 : c = 147
  · rw [z147]; rfl
  by_cases z148 : c = 148
  · rw [z148]; rfl
  by_cases z149 : c = 149
  · rw [z149]; rfl
  by_cases z150 : c = 150
  · rw [z150]; rfl
  by_cases z151 : c = 151
  · rw [z151]; rfl
  by_cases z152 : c = 152
  · rw [z152]; rfl
  by_cases z153 : c = 153
  · rw [z153]; rfl
  by_cases z154 : c = 154
  · rw [z154]; rfl
  by_cases z155 : c = 155
  · rw [z155]; rfl
  by_cases z156 : c = 156
  · rw [z156]; rfl
  by_cases z157 : c = 157
  · rw [z157]; rfl
  by_cases z158 : c = 158
  · rw [z158]; rfl
  by_cases z159 : c = 159
  · rw [z159]; rfl
  by_cases z160 : c = 160
  · rw [z160]; rfl
  by_cases z161 : c = 161
  · rw [z161]; rfl
  by_cases z162 : c = 162
  · rw [z162]; rfl
  by_cases z163 : c = 163
  · rw [z163]; rfl
  by_cases z164 : c = 164
  · rw [z164]; rfl
  by_cases z165 : c = 165
  · rw [z165]; rfl
  by_cases z166 : c = 166
  · rw [z166]; rfl
  by_cases z167 : c = 167
  · rw [z167]; rfl
  by_cases z168 : c = 168
  · rw [z168]; rfl
  by_cases z169 : c = 169
  · rw [z169]; rfl
  exact absurd h2 (by omega)
set_option maxRecDepth 100000 in
set_option maxHeartbeats 4000000 in
theorem EL_at170 (D : va_G) (cs : Nat → ClassId) (h hm : Nat) (g : Nat → Nat) (a9 : Nat) (f9 : Nat → Int32) (a10 : Nat) (r48 : Nat → Nat) (ac r72 r96 r100 az r104 r108 : Nat → Nat) (ab : Nat) (rE xE yE zE af : Nat → Nat) (ay : Nat) (am : Nat → Nat) (f26 : Nat → Int32) : ∀ c, 170 ≤ c → c < 204 → kd c ≠ 2 → kd c ≠ 3 → (EL cs h hm g a9 f9 a10 r48 ac r72 r96 r100 az r104 r108 ab rE xE yE zE af ay am f26)[PIl.getD c 0]? = some (AD h hm g a9 a10 r48 ac r72 r96 r100 az r104 r108 ab rE xE yE zE af ay am c, cel (D, cs, AD h hm g a9 a10 r48 ac r72 r96 r100 az r104 r108 ab rE xE yE zE af ay am) (S0f f9 f26) c) := by
  intro c h1 h2 h3 h4
  by_cases z170 : c = 170
  · rw [z170]; rfl
  by_cases z171 : c = 171
  · rw [z171]; rfl
  by_cases z172 : c = 172
  · rw [z172]; rfl
  by_cases z173 : c = 173
  · rw [z173]; rfl
  by_cases z174 : c = 174
  · rw [z174]; rfl
  by_cases z175 : c = 175
  · rw [z175]; rfl
  by_cases z176 : c = 176
  · rw [z176]; rfl
  by_cases z177 : c = 177
  · rw [z177]; rfl
  by_cases z178 : c = 178
  · rw [z178]; rfl
  by_cases z179 : c = 179
  · rw [z179]; rfl
  by_cases z180 : c = 180
  · rw [z180]; rfl
  by_cases z181 : c = 181
  · rw [z181]; rfl
  by_cases z182 : c = 182
  · rw [z182]; rfl
  by_cases z183 : c = 183
  · rw [z183]; rfl
  by_cases z184 : c = 184
  · rw [z184]; rfl
  by_cases z185 : c = 185
  · rw [z185]; rfl
  by_cases z186 : c = 186
  · rw [z186]; rfl
  by_cases z187 : c = 187
  · rw [z187]; rfl
  by_cases z188 : c = 188
  · rw [z188]; rfl
  by_cases z189 : c = 189
  · rw [z189]; rfl
  by_cases z190 : c = 190
  · rw [z190]; rfl
  by_cases z191 : c = 191
  · rw [z191]; rfl
  by_cases z192 : c = 192
  · rw [z192]; rfl
  by_cases z193 : c = 193
  · rw [z193]; rfl
  by_cases z194 : c = 194
  · rw [z194]; rfl
  by_cases z195 : c = 195
  · rw [z195]; rfl
  by_cases z196 : c = 196
  · rw [z196]; rfl
  by_cases z197 : c = 197
  · rw [z197]; rfl
  by_cases z198 : c = 198
  · rw [z198]; rfl
  by_cases z199 : c = 199
  · rw [z199]; rfl
  by_cases z200 : c = 200
  · rw [z200]; rfl
  by_cases z201 : c = 201
  · rw [z201]; rfl
  by_cases z202 : c = 202
  · rw [z202]; rfl
  by_cases z203 : c = 203
  · rw [z203]; rfl
  exact absurd h2 (by omega)
