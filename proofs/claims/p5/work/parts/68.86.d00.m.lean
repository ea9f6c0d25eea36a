section
set_option maxRecDepth 100000 in
theorem lk0 : ∀ pc, ev_kb MM "LeftAnswers" pc (.invokespecial 1) 999 0 = true := kb_obj gw0 gw1 gw2
set_option maxRecDepth 100000 in
theorem lk1 : ∀ pc, ev_kb MM "LeftAnswers" pc (.new 7) 9 0 = true := kb_new (by decide) gw3 gw4 gw5
set_option maxRecDepth 100000 in
theorem lk2 : ∀ pc, ev_kb MM "LeftAnswers" pc (.invokespecial 9) 154 0 = true := kb_sp (by decide) me154 (by decide +kernel) gw6 gw8
set_option maxRecDepth 100000 in
theorem lk3 : ∀ pc, ev_kb MM "LeftAnswers" pc (.putfield 10) 10 0 = true := kb_putf (by decide +kernel) gw9
set_option maxRecDepth 100000 in
theorem lk4 : ∀ pc, ev_kb MM "LeftAnswers" pc (.new 16) 1 0 = true := kb_new (by decide) gw10 gw11 gw12
set_option maxRecDepth 100000 in
theorem lk5 : ∀ pc, ev_kb MM "LeftAnswers" pc (.invokespecial 18) 56 0 = true := kb_sp (by decide) me56 (by decide +kernel) gw13 gw15
set_option maxRecDepth 100000 in
theorem lk6 : ∀ pc, ev_kb MM "LeftAnswers" pc (.putfield 19) 10 1 = true := kb_putf (by decide +kernel) gw16
set_option maxRecDepth 100000 in
theorem lk7 : ∀ pc, ev_kb MM "LeftAnswers" pc (.putfield 23) 10 2 = true := kb_putf (by decide +kernel) gw17
set_option maxRecDepth 100000 in
theorem lk8 : ∀ pc, ev_kb MM "LeftAnswers" pc (.new 26) 3 0 = true := kb_new (by decide) gw18 gw19 gw20
set_option maxRecDepth 100000 in
theorem lk9 : ∀ pc, ev_kb MM "LeftAnswers" pc (.invokespecial 28) 87 0 = true := kb_sp (by decide) me87 (by decide +kernel) gw21 gw23
set_option maxRecDepth 100000 in
theorem lk10 : ∀ pc, ev_kb MM "LeftAnswers" pc (.putfield 29) 10 3 = true := kb_putf (by decide +kernel) gw24
set_option maxRecDepth 100000 in
theorem lk11 : ∀ pc, ev_kb MM "LeftAnswers" pc (.putfield 33) 10 4 = true := kb_putf (by decide +kernel) gw25
set_option maxRecDepth 100000 in
theorem lk12 : ∀ pc, ev_kb MM "LeftAnswers" pc (.new 36) 6 0 = true := kb_new (by decide) gw26 gw27 gw28
set_option maxRecDepth 100000 in
theorem lk13 : ∀ pc, ev_kb MM "LeftAnswers" pc (.invokespecial 38) 128 0 = true := kb_sp (by decide) me128 (by decide +kernel) gw29 gw31
set_option maxRecDepth 100000 in
theorem lk14 : ∀ pc, ev_kb MM "LeftAnswers" pc (.putfield 39) 10 5 = true := kb_putf (by decide +kernel) gw32
set_option maxRecDepth 100000 in
theorem lk15 : ∀ pc, ev_kb MM "LeftAnswers" pc (.new 43) 0 0 = true := kb_new (by decide) gw33 gw34 gw35
set_option maxRecDepth 100000 in
theorem lk16 : ∀ pc, ev_kb MM "LeftAnswers" pc (.invokespecial 45) 48 0 = true := kb_sp (by decide) me48 (by decide +kernel) gw36 gw38
set_option maxRecDepth 100000 in
theorem lk17 : ∀ pc, ev_kb MM "LeftAnswers" pc (.putfield 46) 10 6 = true := kb_putf (by decide +kernel) gw39
set_option maxRecDepth 100000 in
theorem lk18 : ∀ pc, ev_kb MM "LeftAnswers" pc (.new 50) 7 0 = true := kb_new (by decide) gw40 gw41 gw42
set_option maxRecDepth 100000 in
theorem lk19 : ∀ pc, ev_kb MM "LeftAnswers" pc (.invokespecial 52) 132 0 = true := kb_sp (by decide) me132 (by decide +kernel) gw43 gw45
set_option maxRecDepth 100000 in
theorem lk20 : ∀ pc, ev_kb MM "LeftAnswers" pc (.putfield 53) 10 7 = true := kb_putf (by decide +kernel) gw46
set_option maxRecDepth 100000 in
theorem lk21 : ∀ pc, ev_kb MM "LeftAnswers" pc (.putfield 57) 10 8 = true := kb_putf (by decide +kernel) gw47
set_option maxRecDepth 100000 in
theorem lk22 : ∀ pc, ev_kb MM "LeftAnswers" pc (.new 60) 5 0 = true := kb_new (by decide) gw48 gw49 gw50
set_option maxRecDepth 100000 in
theorem lk23 : ∀ pc, ev_kb MM "LeftAnswers" pc (.invokespecial 62) 122 0 = true := kb_sp (by decide) me122 (by decide +kernel) gw51 gw53
set_option maxRecDepth 100000 in
theorem lk24 : ∀ pc, ev_kb MM "LeftAnswers" pc (.putfield 63) 10 9 = true := kb_putf (by decide +kernel) gw54
set_option maxRecDepth 100000 in
theorem lk25 : ∀ pc, ev_kb MM "LeftAnswers" pc (.new 67) 4 0 = true := kb_new (by decide) gw55 gw56 gw57
set_option maxRecDepth 100000 in
theorem lk26 : ∀ pc, ev_kb MM "LeftAnswers" pc (.invokespecial 69) 119 0 = true := kb_sp (by decide) me119 (by decide +kernel) gw58 gw60
set_option maxRecDepth 100000 in
theorem lk27 : ∀ pc, ev_kb MM "LeftAnswers" pc (.putfield 70) 10 10 = true := kb_putf (by decide +kernel) gw61
set_option maxRecDepth 100000 in
theorem lk28 : ∀ pc, ev_kb MM "LeftAnswers" pc (.new 74) 8 0 = true := kb_new (by decide) gw62 gw63 gw64
set_option maxRecDepth 100000 in
theorem lk29 : ∀ pc, ev_kb MM "LeftAnswers" pc (.invokespecial 76) 148 0 = true := kb_sp (by decide) me148 (by decide +kernel) gw65 gw67
set_option maxRecDepth 100000 in
theorem lk30 : ∀ pc, ev_kb MM "LeftAnswers" pc (.putfield 77) 10 11 = true := kb_putf (by decide +kernel) gw68
set_option maxRecDepth 100000 in
theorem lk31 : ∀ pc, ev_kb MM "LeftAnswers" pc (.anewarray 81) 6 0 = true := kb_anew (by decide) gw69
set_option maxRecDepth 100000 in
theorem lk32 : ∀ pc, ev_kb MM "LeftAnswers" pc (.new 81) 2 0 = true := kb_new (by decide) gw69 gw70 gw71
set_option maxRecDepth 100000 in
theorem lk33 : ∀ pc, ev_kb MM "LeftAnswers" pc (.invokespecial 83) 84 0 = true := kb_sp (by decide) me84 (by decide +kernel) gw72 gw74
set_option maxRecDepth 100000 in
theorem lk34 : ∀ pc, ev_kb MM "LeftAnswers" pc (.putfield 84) 10 12 = true := kb_putf (by decide +kernel) gw75
set_option maxRecDepth 100000 in
theorem lk35 : ∀ pc, ev_kb MM "LeftAnswers" pc (.putfield 88) 10 13 = true := kb_putf (by decide +kernel) gw76
set_option maxRecDepth 100000 in
theorem lk36 : ∀ pc, ev_kb MM "LeftAnswers" pc (.putfield 92) 10 14 = true := kb_putf (by decide +kernel) gw77
set_option maxRecDepth 100000 in
theorem lk37 : ∀ pc, ev_kb MM "LeftAnswers" pc (.putfield 95) 10 15 = true := kb_putf (by decide +kernel) gw78
set_option maxRecDepth 100000 in
theorem lk38 : ∀ pc, ev_kb MM "LeftAnswers" pc (.putfield 98) 10 16 = true := kb_putf (by decide +kernel) gw79
set_option maxRecDepth 100000 in
theorem lk39 : ∀ pc, ev_kb MM "LeftAnswers" pc (.invokevirtual 130) 28 1 = true := kb_vi (by decide) me28 (by decide +kernel) gw80 gw84 gw81
set_option maxRecDepth 100000 in
theorem lk40 : ∀ pc, ev_kb MM "LeftAnswers" pc (.invokevirtual 174) 26 1 = true := kb_vi (by decide) me26 (by decide +kernel) gw85 gw88 gw86
set_option maxRecDepth 100000 in
theorem lk41 : ∀ pc, ev_kb MM "LeftAnswers" pc (.getfield 29) 10 3 = true := kb_getf (by decide +kernel) gw24
set_option maxRecDepth 100000 in
theorem lk42 : ∀ pc, ev_kb MM "LeftAnswers" pc (.getfield 19) 10 1 = true := kb_getf (by decide +kernel) gw16
set_option maxRecDepth 100000 in
theorem lk43 : ∀ pc, ev_kb MM "LeftAnswers" pc (.invokevirtual 238) 88 3 = true := kb_vi (by decide) me88 (by decide +kernel) gw89 gw92 gw90
set_option maxRecDepth 100000 in
theorem lk44 : ∀ pc, ev_kb MM "LeftAnswers" pc (.invokevirtual 370) 116 5 = true := kb_vi (by decide) me116 (by decide +kernel) gw93 gw96 gw94
set_option maxRecDepth 100000 in
theorem lk45 : ∀ pc, ev_kb MM "LeftAnswers" pc (.getfield 39) 10 5 = true := kb_getf (by decide +kernel) gw32
set_option maxRecDepth 100000 in
theorem lk46 : ∀ pc, ev_kb MM "LeftAnswers" pc (.invokevirtual 226) 130 1 = true := kb_vi (by decide) me130 (by decide +kernel) gw97 gw100 gw98
set_option maxRecDepth 100000 in
theorem lk47 : ∀ pc, ev_kb MM "LeftAnswers" pc (.invokevirtual 374) 112 5 = true := kb_vi (by decide) me112 (by decide +kernel) gw101 gw104 gw102
set_option maxRecDepth 100000 in
theorem lk48 : ∀ pc, ev_kb MM "LeftAnswers" pc (.invokevirtual 214) 2 4 = true := kb_vi (by decide) me2 (by decide +kernel) gw105 gw108 gw106
set_option maxRecDepth 100000 in
theorem lk49 : ∀ pc, ev_kb MM "LeftAnswers" pc (.getfield 70) 10 10 = true := kb_getf (by decide +kernel) gw61
set_option maxRecDepth 100000 in
theorem lk50 : ∀ pc, ev_kb MM "LeftAnswers" pc (.invokevirtual 290) 121 2 = true := kb_vi (by decide) me121 (by decide +kernel) gw109 gw112 gw110
set_option maxRecDepth 100000 in
theorem lk51 : ∀ pc, ev_kb MM "LeftAnswers" pc (.getfield 293) 4 0 = true := kb_getf (by decide +kernel) gw113
set_option maxRecDepth 100000 in
theorem lk52 : ∀ pc, ev_kb MM "LeftAnswers" pc (.getfield 46) 10 6 = true := kb_getf (by decide +kernel) gw39
set_option maxRecDepth 100000 in
theorem lk53 : ∀ pc, ev_kb MM "LeftAnswers" pc (.getfield 10) 10 0 = true := kb_getf (by decide +kernel) gw9
set_option maxRecDepth 100000 in
theorem lk54 : ∀ pc, ev_kb MM "LeftAnswers" pc (.invokevirtual 318) 54 2 = true := kb_vi (by decide) me54 (by decide +kernel) gw114 gw117 gw115
set_option maxRecDepth 100000 in
theorem lk55 : ∀ pc, ev_kb MM "LeftAnswers" pc (.invokevirtual 112) 41 0 = true := kb_vi (by decide) me41 (by decide +kernel) gw118 gw121 gw119
set_option maxRecDepth 100000 in
theorem lk56 : ∀ pc, ev_kb MM "LeftAnswers" pc (.getfield 88) 10 13 = true := kb_getf (by decide +kernel) gw76
set_option maxRecDepth 100000 in
theorem lk57 : ∀ pc, ev_kb MM "LeftAnswers" pc (.getfield 115) 9 11 = true := kb_getf (by decide +kernel) gw122
set_option maxRecDepth 100000 in
theorem lk58 : ∀ pc, ev_kb MM "LeftAnswers" pc (.getfield 33) 10 4 = true := kb_getf (by decide +kernel) gw25
set_option maxRecDepth 100000 in
theorem lk59 : ∀ pc, ev_kb MM "LeftAnswers" pc (.invokevirtual 315) 94 1 = true := kb_vi (by decide) me94 (by decide +kernel) gw123 gw126 gw124
set_option maxRecDepth 100000 in
theorem lk60 : ∀ pc, ev_kb MM "LeftAnswers" pc (.invokevirtual 321) 50 2 = true := kb_vi (by decide) me50 (by decide +kernel) gw127 gw130 gw128
set_option maxRecDepth 100000 in
theorem lk61 : ∀ pc, ev_kb MM "LeftAnswers" pc (.getfield 325) 0 6 = true := kb_getf (by decide +kernel) gw131
set_option maxRecDepth 100000 in
theorem lk62 : ∀ pc, ev_kb MM "LeftAnswers" pc (.getfield 77) 10 11 = true := kb_getf (by decide +kernel) gw68
set_option maxRecDepth 100000 in
theorem lk63 : ∀ pc, ev_kb MM "LeftAnswers" pc (.getfield 306) 8 1 = true := kb_getf (by decide +kernel) gw132
set_option maxRecDepth 100000 in
theorem lk64 : ∀ pc, ev_kb MM "LeftAnswers" pc (.getfield 307) 8 0 = true := kb_getf (by decide +kernel) gw133
set_option maxRecDepth 100000 in
theorem lk65 : ∀ pc, ev_kb MM "LeftAnswers" pc (.getfield 299) 1 0 = true := kb_getf (by decide +kernel) gw134
set_option maxRecDepth 100000 in
theorem lk66 : ∀ pc, ev_kb MM "LeftAnswers" pc (.getfield 360) 1 1 = true := kb_getf (by decide +kernel) gw135
set_option maxRecDepth 100000 in
theorem lk67 : ∀ pc, ev_kb MM "LeftAnswers" pc (.getfield 363) 1 2 = true := kb_getf (by decide +kernel) gw136
set_option maxRecDepth 100000 in
theorem lk68 : ∀ pc, ev_kb MM "LeftAnswers" pc (.getfield 366) 1 3 = true := kb_getf (by decide +kernel) gw137
set_option maxRecDepth 100000 in
theorem lk69 : ∀ pc, ev_kb MM "LeftAnswers" pc (.getfield 368) 1 4 = true := kb_getf (by decide +kernel) gw138
set_option maxRecDepth 100000 in
theorem lk70 : ∀ pc, ev_kb MM "LeftAnswers" pc (.getfield 101) 9 1 = true := kb_getf (by decide +kernel) gw139
set_option maxRecDepth 100000 in
theorem lk71 : ∀ pc, ev_kb MM "LeftAnswers" pc (.invokevirtual 218) 95 0 = true := kb_vi (by decide) me95 (by decide +kernel) gw140 gw143 gw141
set_option maxRecDepth 100000 in
theorem lk72 : ∀ pc, ev_kb MM "LeftAnswers" pc (.invokestatic 221) 901 2 = true := kb_min gw144 gw145 gw146 gw147
set_option maxRecDepth 100000 in
theorem lk73 : ∀ pc, ev_kb MM "LeftAnswers" pc (.invokevirtual 230) 111 2 = true := kb_vi (by decide) me111 (by decide +kernel) gw148 gw151 gw149
set_option maxRecDepth 100000 in
theorem lk74 : ∀ pc, ev_kb MM "LeftAnswers" pc (.getfield 177) 1 11 = true := kb_getf (by decide +kernel) gw152
set_option maxRecDepth 100000 in
theorem lk75 : ∀ pc, ev_kb MM "LeftAnswers" pc (.getfield 180) 1 12 = true := kb_getf (by decide +kernel) gw153
set_option maxRecDepth 100000 in
theorem lk76 : ∀ pc, ev_kb MM "LeftAnswers" pc (.getfield 183) 1 13 = true := kb_getf (by decide +kernel) gw154
set_option maxRecDepth 100000 in
theorem lk77 : ∀ pc, ev_kb MM "LeftAnswers" pc (.invokevirtual 184) 72 1 = true := kb_vi (by decide) me72 (by decide +kernel) gw155 gw158 gw156
set_option maxRecDepth 100000 in
theorem lk78 : ∀ pc, ev_kb MM "LeftAnswers" pc (.getfield 187) 3 11 = true := kb_getf (by decide +kernel) gw159
set_option maxRecDepth 100000 in
theorem lk79 : ∀ pc, ev_kb MM "LeftAnswers" pc (.invokestatic 167) 27 1 = true := kb_st (by decide) me27 gw160 gw162
set_option maxRecDepth 100000 in
theorem lk80 : ∀ pc, ev_kb MM "LeftAnswers" pc (.invokevirtual 311) 99 3 = true := kb_vi (by decide) me99 (by decide +kernel) gw163 gw166 gw164
set_option maxRecDepth 100000 in
theorem lk81 : ∀ pc, ev_kb MM "LeftAnswers" pc (.getfield 23) 10 2 = true := kb_getf (by decide +kernel) gw17
set_option maxRecDepth 100000 in
theorem lk82 : ∀ pc, ev_kb MM "LeftAnswers" pc (.invokevirtual 108) 76 1 = true := kb_vi (by decide) me76 (by decide +kernel) gw167 gw170 gw168
set_option maxRecDepth 100000 in
theorem lk83 : ∀ pc, ev_kb MM "LeftAnswers" pc (.getfield 118) 1 5 = true := kb_getf (by decide +kernel) gw171
set_option maxRecDepth 100000 in
theorem lk84 : ∀ pc, ev_kb MM "LeftAnswers" pc (.invokevirtual 121) 91 1 = true := kb_vi (by decide) me91 (by decide +kernel) gw172 gw175 gw173
set_option maxRecDepth 100000 in
theorem lk85 : ∀ pc, ev_kb MM "LeftAnswers" pc (.invokevirtual 124) 129 0 = true := kb_vi (by decide) me129 (by decide +kernel) gw176 gw179 gw177
set_option maxRecDepth 100000 in
theorem lk86 : ∀ pc, ev_kb MM "LeftAnswers" pc (.getfield 53) 10 7 = true := kb_getf (by decide +kernel) gw46
set_option maxRecDepth 100000 in
theorem lk87 : ∀ pc, ev_kb MM "LeftAnswers" pc (.invokevirtual 127) 136 0 = true := kb_vi (by decide) me136 (by decide +kernel) gw180 gw183 gw181
set_option maxRecDepth 100000 in
theorem lk88 : ∀ pc, ev_kb MM "LeftAnswers" pc (.invokevirtual 296) 107 2 = true := kb_vi (by decide) me107 (by decide +kernel) gw184 gw187 gw185
set_option maxRecDepth 100000 in
theorem lk89 : ∀ pc, ev_kb MM "LeftAnswers" pc (.putfield 101) 9 1 = true := kb_putf (by decide +kernel) gw139
set_option maxRecDepth 100000 in
theorem lk90 : ∀ pc, ev_kb MM "LeftAnswers" pc (.invokevirtual 104) 162 1 = true := kb_vi (by decide) me162 (by decide +kernel) gw188 gw191 gw189
set_option maxRecDepth 100000 in
theorem lk91 : ∀ pc, ev_kb MM "LeftAnswers" pc (.getfield 92) 10 14 = true := kb_getf (by decide +kernel) gw77
set_option maxRecDepth 100000 in
theorem lk92 : ∀ pc, ev_kb MM "LeftAnswers" pc (.invokestatic 281) 6 2 = true := kb_st (by decide) me6 gw192 gw194
set_option maxRecDepth 100000 in
theorem lk93 : ∀ pc, ev_kb MM "LeftAnswers" pc (.invokevirtual 242) 42 1 = true := kb_vi (by decide) me42 (by decide +kernel) gw195 gw198 gw196
set_option maxRecDepth 100000 in
theorem lk94 : ∀ pc, ev_kb MM "LeftAnswers" pc (.invokevirtual 263) 43 0 = true := kb_vi (by decide) me43 (by decide +kernel) gw199 gw202 gw200
set_option maxRecDepth 100000 in
theorem lk95 : ∀ pc, ev_kb MM "LeftAnswers" pc (.invokevirtual 267) 57 0 = true := kb_vi (by decide) me57 (by decide +kernel) gw203 gw206 gw204
set_option maxRecDepth 100000 in
theorem lk96 : ∀ pc, ev_kb MM "LeftAnswers" pc (.invokevirtual 249) 166 1 = true := kb_vi (by decide) me166 (by decide +kernel) gw207 gw210 gw208
set_option maxRecDepth 100000 in
theorem lk97 : ∀ pc, ev_kb MM "LeftAnswers" pc (.invokevirtual 270) 60 1 = true := kb_vi (by decide) me60 (by decide +kernel) gw211 gw214 gw212
set_option maxRecDepth 100000 in
theorem lk98 : ∀ pc, ev_kb MM "LeftAnswers" pc (.invokevirtual 273) 59 1 = true := kb_vi (by decide) me59 (by decide +kernel) gw215 gw218 gw216
set_option maxRecDepth 100000 in
theorem lk99 : ∀ pc, ev_kb MM "LeftAnswers" pc (.invokestatic 276) 298 1 = true := kb_st (by decide) me298 gw219 gw222
set_option maxRecDepth 100000 in
theorem lk100 : ∀ pc, ev_kb MM "LeftAnswers" pc (.getfield 98) 10 16 = true := kb_getf (by decide +kernel) gw79
set_option maxRecDepth 100000 in
theorem lk101 : ∀ pc, ev_kb MM "LeftAnswers" pc (.invokevirtual 287) 64 0 = true := kb_vi (by decide) me64 (by decide +kernel) gw223 gw226 gw224
set_option maxRecDepth 100000 in
theorem lk102 : ∀ pc, ev_kb MM "LeftAnswers" pc (.invokevirtual 284) 83 2 = true := kb_vi (by decide) me83 (by decide +kernel) gw227 gw230 gw228
set_option maxRecDepth 100000 in
theorem lk103 : ∀ pc, ev_kb MM "LeftAnswers" pc (.getfield 84) 10 12 = true := kb_getf (by decide +kernel) gw75
set_option maxRecDepth 100000 in
theorem lk104 : ∀ pc, ev_kb MM "LeftAnswers" pc (.invokevirtual 351) 86 3 = true := kb_vi (by decide) me86 (by decide +kernel) gw231 gw234 gw232
set_option maxRecDepth 100000 in
theorem lk105 : ∀ pc, ev_kb MM "LeftAnswers" pc (.getfield 190) 3 0 = true := kb_getf (by decide +kernel) gw235
set_option maxRecDepth 100000 in
theorem lk106 : ∀ pc, ev_kb MM "LeftAnswers" pc (.invokevirtual 193) 106 0 = true := kb_vi (by decide) me106 (by decide +kernel) gw236 gw239 gw237
set_option maxRecDepth 100000 in
theorem lk107 : ∀ pc, ev_kb MM "LeftAnswers" pc (.getfield 197) 3 3 = true := kb_getf (by decide +kernel) gw240
set_option maxRecDepth 100000 in
theorem lk108 : ∀ pc, ev_kb MM "LeftAnswers" pc (.invokevirtual 198) 114 0 = true := kb_vi (by decide) me114 (by decide +kernel) gw241 gw244 gw242
set_option maxRecDepth 100000 in
theorem lk109 : ∀ pc, ev_kb MM "LeftAnswers" pc (.invokevirtual 201) 113 1 = true := kb_vi (by decide) me113 (by decide +kernel) gw245 gw248 gw246
set_option maxRecDepth 100000 in
theorem lk110 : ∀ pc, ev_kb MM "LeftAnswers" pc (.invokevirtual 205) 90 0 = true := kb_vi (by decide) me90 (by decide +kernel) gw249 gw252 gw250
set_option maxRecDepth 100000 in
theorem lk111 : ∀ pc, ev_kb MM "LeftAnswers" pc (.getfield 208) 3 1 = true := kb_getf (by decide +kernel) gw253
set_option maxRecDepth 100000 in
theorem lk112 : ∀ pc, ev_kb MM "LeftAnswers" pc (.getfield 211) 3 2 = true := kb_getf (by decide +kernel) gw254
set_option maxRecDepth 100000 in
theorem lk113 : ∀ pc, ev_kb MM "LeftAnswers" pc (.getfield 141) 3 5 = true := kb_getf (by decide +kernel) gw255
set_option maxRecDepth 100000 in
theorem lk114 : ∀ pc, ev_kb MM "LeftAnswers" pc (.getfield 63) 10 9 = true := kb_getf (by decide +kernel) gw54
set_option maxRecDepth 100000 in
theorem lk115 : ∀ pc, ev_kb MM "LeftAnswers" pc (.invokevirtual 245) 123 1 = true := kb_vi (by decide) me123 (by decide +kernel) gw256 gw259 gw257
set_option maxRecDepth 100000 in
theorem lk116 : ∀ pc, ev_kb MM "LeftAnswers" pc (.getfield 246) 5 0 = true := kb_getf (by decide +kernel) gw260
set_option maxRecDepth 100000 in
theorem lk117 : ∀ pc, ev_kb MM "LeftAnswers" pc (.invokevirtual 253) 92 2 = true := kb_vi (by decide) me92 (by decide +kernel) gw261 gw264 gw262
set_option maxRecDepth 100000 in
theorem lk118 : ∀ pc, ev_kb MM "LeftAnswers" pc (.invokevirtual 257) 126 0 = true := kb_vi (by decide) me126 (by decide +kernel) gw265 gw268 gw266
set_option maxRecDepth 100000 in
theorem lk119 : ∀ pc, ev_kb MM "LeftAnswers" pc (.invokevirtual 260) 124 1 = true := kb_vi (by decide) me124 (by decide +kernel) gw269 gw272 gw270
set_option maxRecDepth 100000 in
theorem lk120 : ∀ pc, ev_kb MM "LeftAnswers" pc (.getfield 145) 3 6 = true := kb_getf (by decide +kernel) gw273
set_option maxRecDepth 100000 in
theorem lk121 : ∀ pc, ev_kb MM "LeftAnswers" pc (.getfield 148) 3 7 = true := kb_getf (by decide +kernel) gw274
set_option maxRecDepth 100000 in
theorem lk122 : ∀ pc, ev_kb MM "LeftAnswers" pc (.getfield 151) 3 8 = true := kb_getf (by decide +kernel) gw275
set_option maxRecDepth 100000 in
theorem lk123 : ∀ pc, ev_kb MM "LeftAnswers" pc (.getfield 154) 3 9 = true := kb_getf (by decide +kernel) gw276
set_option maxRecDepth 100000 in
theorem lk124 : ∀ pc, ev_kb MM "LeftAnswers" pc (.invokevirtual 157) 102 1 = true := kb_vi (by decide) me102 (by decide +kernel) gw277 gw280 gw278
set_option maxRecDepth 100000 in
theorem lk125 : ∀ pc, ev_kb MM "LeftAnswers" pc (.getfield 160) 3 10 = true := kb_getf (by decide +kernel) gw281
set_option maxRecDepth 100000 in
theorem lk126 : ∀ pc, ev_kb MM "LeftAnswers" pc (.invokevirtual 163) 104 2 = true := kb_vi (by decide) me104 (by decide +kernel) gw282 gw285 gw283
set_option maxRecDepth 100000 in
theorem lk127 : ∀ pc, ev_kb MM "LeftAnswers" pc (.getfield 354) 2 0 = true := kb_getf (by decide +kernel) gw286
set_option maxRecDepth 100000 in
theorem lk128 : ∀ pc, ev_kb MM "LeftAnswers" pc (.invokevirtual 357) 85 3 = true := kb_vi (by decide) me85 (by decide +kernel) gw287 gw290 gw288
set_option maxRecDepth 100000 in
theorem lk129 : ∀ pc, ev_kb MM "LeftAnswers" pc (.getfield 345) 7 0 = true := kb_getf (by decide +kernel) gw291
set_option maxRecDepth 100000 in
theorem lk130 : ∀ pc, ev_kb MM "LeftAnswers" pc (.invokevirtual 348) 147 2 = true := kb_vi (by decide) me147 (by decide +kernel) gw292 gw295 gw293
set_option maxRecDepth 100000 in
theorem lk131 : ∀ pc, ev_kb MM "LeftAnswers" pc (.getfield 57) 10 8 = true := kb_getf (by decide +kernel) gw47
set_option maxRecDepth 100000 in
theorem lk132 : ∀ pc, ev_kb MM "LeftAnswers" pc (.invokevirtual 344) 143 2 = true := kb_vi (by decide) me143 (by decide +kernel) gw296 gw299 gw297
set_option maxRecDepth 100000 in
theorem lk133 : ∀ pc, ev_kb MM "LeftAnswers" pc (.invokevirtual 170) 81 2 = true := kb_vi (by decide) me81 (by decide +kernel) gw300 gw303 gw301
set_option maxRecDepth 100000 in
theorem lk134 : ∀ pc, ev_kb MM "LeftAnswers" pc (.invokevirtual 302) 153 3 = true := kb_vi (by decide) me153 (by decide +kernel) gw304 gw307 gw305
set_option maxRecDepth 100000 in
theorem lk135 : ∀ pc, ev_kb MM "LeftAnswers" pc (.getfield 378) 9 10 = true := kb_getf (by decide +kernel) gw308
set_option maxRecDepth 100000 in
theorem lk136 : ∀ pc, ev_kb MM "LeftAnswers" pc (.getfield 95) 10 15 = true := kb_getf (by decide +kernel) gw78
set_option maxRecDepth 100000 in
theorem lk137 : ∀ pc, ev_kb MM "LeftAnswers" pc (.getfield 328) 0 5 = true := kb_getf (by decide +kernel) gw309
set_option maxRecDepth 100000 in
theorem lk138 : ∀ pc, ev_kb MM "LeftAnswers" pc (.getfield 332) 0 7 = true := kb_getf (by decide +kernel) gw310
set_option maxRecDepth 100000 in
theorem lk139 : ∀ pc, ev_kb MM "LeftAnswers" pc (.getfield 335) 0 8 = true := kb_getf (by decide +kernel) gw311
set_option maxRecDepth 100000 in
theorem lk140 : ∀ pc, ev_kb MM "LeftAnswers" pc (.getfield 338) 0 9 = true := kb_getf (by decide +kernel) gw312
set_option maxRecDepth 100000 in
theorem lk141 : ∀ pc, ev_kb MM "LeftAnswers" pc (.getfield 341) 0 10 = true := kb_getf (by decide +kernel) gw313
set_option maxRecDepth 100000 in
theorem lk142 : ∀ pc, ev_kb MM "LeftAnswers" pc (.invokevirtual 234) 131 1 = true := kb_vi (by decide) me131 (by decide +kernel) gw314 gw317 gw315
set_option maxRecDepth 100000 in
theorem lk143 : ∀ pc, ev_kb MM "LeftAnswers$Book" pc (.invokespecial 3) 999 0 = true := kb_obj gw318 gw1 gw2
set_option maxRecDepth 100000 in
theorem lk144 : ∀ pc, ev_kb MM "LeftAnswers$Book" pc (.newarray .int) 0 0 = true := kb_newa gw319
set_option maxRecDepth 100000 in
theorem lk145 : ∀ pc, ev_kb MM "LeftAnswers$Book" pc (.putfield 11) 0 0 = true := kb_putf (by decide +kernel) gw320
set_option maxRecDepth 100000 in
theorem lk146 : ∀ pc, ev_kb MM "LeftAnswers$Book" pc (.putfield 15) 0 1 = true := kb_putf (by decide +kernel) gw321
set_option maxRecDepth 100000 in
theorem lk147 : ∀ pc, ev_kb MM "LeftAnswers$Book" pc (.putfield 18) 0 2 = true := kb_putf (by decide +kernel) gw322
set_option maxRecDepth 100000 in
theorem lk148 : ∀ pc, ev_kb MM "LeftAnswers$Book" pc (.putfield 21) 0 3 = true := kb_putf (by decide +kernel) gw323
set_option maxRecDepth 100000 in
theorem lk149 : ∀ pc, ev_kb MM "LeftAnswers$Book" pc (.getfield 24) 0 4 = true := kb_getf (by decide +kernel) gw324
set_option maxRecDepth 100000 in
theorem lk150 : ∀ pc, ev_kb MM "LeftAnswers$Book" pc (.getfield 11) 0 0 = true := kb_getf (by decide +kernel) gw320
set_option maxRecDepth 100000 in
theorem lk151 : ∀ pc, ev_kb MM "LeftAnswers$Book" pc (.getfield 15) 0 1 = true := kb_getf (by decide +kernel) gw321
set_option maxRecDepth 100000 in
theorem lk152 : ∀ pc, ev_kb MM "LeftAnswers$Book" pc (.getfield 18) 0 2 = true := kb_getf (by decide +kernel) gw322
set_option maxRecDepth 100000 in
theorem lk153 : ∀ pc, ev_kb MM "LeftAnswers$Book" pc (.getfield 21) 0 3 = true := kb_getf (by decide +kernel) gw323
set_option maxRecDepth 100000 in
theorem lk154 : ∀ pc, ev_kb MM "LeftAnswers$Book" pc (.putfield 24) 0 4 = true := kb_putf (by decide +kernel) gw324
set_option maxRecDepth 100000 in
theorem lk155 : ∀ pc, ev_kb MM "LeftAnswers$Book" pc (.putfield 101) 0 7 = true := kb_putf (by decide +kernel) gw325
set_option maxRecDepth 100000 in
theorem lk156 : ∀ pc, ev_kb MM "LeftAnswers$Book" pc (.putfield 104) 0 6 = true := kb_putf (by decide +kernel) gw326
set_option maxRecDepth 100000 in
theorem lk157 : ∀ pc, ev_kb MM "LeftAnswers$Book" pc (.putfield 107) 0 8 = true := kb_putf (by decide +kernel) gw327
set_option maxRecDepth 100000 in
theorem lk158 : ∀ pc, ev_kb MM "LeftAnswers$Book" pc (.getfield 101) 0 7 = true := kb_getf (by decide +kernel) gw325
set_option maxRecDepth 100000 in
theorem lk159 : ∀ pc, ev_kb MM "LeftAnswers$Book" pc (.invokevirtual 110) 116 5 = true := kb_vi (by decide) me116 (by decide +kernel) gw328 gw96 gw94
set_option maxRecDepth 100000 in
theorem lk160 : ∀ pc, ev_kb MM "LeftAnswers$Book" pc (.invokevirtual 116) 112 5 = true := kb_vi (by decide) me112 (by decide +kernel) gw329 gw104 gw102
set_option maxRecDepth 100000 in
theorem lk161 : ∀ pc, ev_kb MM "LeftAnswers$Book" pc (.getfield 107) 0 8 = true := kb_getf (by decide +kernel) gw327
set_option maxRecDepth 100000 in
theorem lk162 : ∀ pc, ev_kb MM "LeftAnswers$Book" pc (.getfield 120) 3 0 = true := kb_getf (by decide +kernel) gw330
set_option maxRecDepth 100000 in
theorem lk163 : ∀ pc, ev_kb MM "LeftAnswers$Book" pc (.putfield 123) 0 9 = true := kb_putf (by decide +kernel) gw331
set_option maxRecDepth 100000 in
theorem lk164 : ∀ pc, ev_kb MM "LeftAnswers$Book" pc (.invokevirtual 126) 106 0 = true := kb_vi (by decide) me106 (by decide +kernel) gw332 gw239 gw237
set_option maxRecDepth 100000 in
theorem lk165 : ∀ pc, ev_kb MM "LeftAnswers$Book" pc (.putfield 129) 0 10 = true := kb_putf (by decide +kernel) gw333
set_option maxRecDepth 100000 in
theorem lk166 : ∀ pc, ev_kb MM "LeftAnswers$Book" pc (.putfield 132) 0 5 = true := kb_putf (by decide +kernel) gw334
set_option maxRecDepth 100000 in
theorem lk167 : ∀ pc, ev_kb MM "LeftAnswers$Book" pc (.invokevirtual 76) 73 1 = true := kb_vi (by decide) me73 (by decide +kernel) gw335 gw338 gw336
set_option maxRecDepth 100000 in
theorem lk168 : ∀ pc, ev_kb MM "LeftAnswers$Book" pc (.invokevirtual 58) 165 1 = true := kb_vi (by decide) me165 (by decide +kernel) gw339 gw342 gw340
set_option maxRecDepth 100000 in
theorem lk169 : ∀ pc, ev_kb MM "LeftAnswers$Book" pc (.invokevirtual 62) 155 0 = true := kb_vi (by decide) me155 (by decide +kernel) gw343 gw346 gw344
set_option maxRecDepth 100000 in
theorem lk170 : ∀ pc, ev_kb MM "LeftAnswers$Book" pc (.getfield 37) 9 6 = true := kb_getf (by decide +kernel) gw347
set_option maxRecDepth 100000 in
theorem lk171 : ∀ pc, ev_kb MM "LeftAnswers$Book" pc (.getstatic 82) 100 0 = true := kb_getw rfl gw348
set_option maxRecDepth 100000 in
theorem lk172 : ∀ pc, ev_kb MM "LeftAnswers$Book" pc (.invokevirtual 87) 900 0 = true := kb_ord gw349
set_option maxRecDepth 100000 in
theorem lk173 : ∀ pc, ev_kb MM "LeftAnswers$Book" pc (.invokevirtual 91) 53 3 = true := kb_vi (by decide) me53 (by decide +kernel) gw350 gw353 gw351
set_option maxRecDepth 100000 in
theorem lk174 : ∀ pc, ev_kb MM "LeftAnswers$Book" pc (.invokevirtual 95) 55 3 = true := kb_vi (by decide) me55 (by decide +kernel) gw354 gw357 gw355
set_option maxRecDepth 100000 in
theorem lk175 : ∀ pc, ev_kb MM "LeftAnswers$Book" pc (.invokevirtual 72) 49 4 = true := kb_vi (by decide) me49 (by decide +kernel) gw358 gw361 gw359
set_option maxRecDepth 100000 in
theorem lk176 : ∀ pc, ev_kb MM "LeftAnswers$Book" pc (.invokevirtual 65) 168 2 = true := kb_vi (by decide) me168 (by decide +kernel) gw362 gw365 gw363
set_option maxRecDepth 100000 in
theorem lk177 : ∀ pc, ev_kb MM "LeftAnswers$Book" pc (.getfield 69) 9 9 = true := kb_getf (by decide +kernel) gw366
set_option maxRecDepth 100000 in
theorem lk178 : ∀ pc, ev_kb MM "LeftAnswers$Book" pc (.invokevirtual 98) 63 1 = true := kb_vi (by decide) me63 (by decide +kernel) gw367 gw370 gw368
set_option maxRecDepth 100000 in
theorem lk179 : ∀ pc, ev_kb MM "LeftAnswers$Book" pc (.invokevirtual 28) 161 1 = true := kb_vi (by decide) me161 (by decide +kernel) gw371 gw374 gw372
set_option maxRecDepth 100000 in
theorem lk180 : ∀ pc, ev_kb MM "LeftAnswers$Book" pc (.getfield 34) 9 4 = true := kb_getf (by decide +kernel) gw375
set_option maxRecDepth 100000 in
theorem lk181 : ∀ pc, ev_kb MM "LeftAnswers$Book" pc (.getstatic 41) 16 0 = true := kb_gets (by decide) gw376
set_option maxRecDepth 100000 in
theorem lk182 : ∀ pc, ev_kb MM "LeftAnswers$Book" pc (.invokevirtual 46) 52 1 = true := kb_vi (by decide) me52 (by decide +kernel) gw377 gw380 gw378
set_option maxRecDepth 100000 in
theorem lk183 : ∀ pc, ev_kb MM "LeftAnswers$Book" pc (.invokevirtual 50) 51 2 = true := kb_vi (by decide) me51 (by decide +kernel) gw381 gw384 gw382
set_option maxRecDepth 100000 in
theorem lk184 : ∀ pc, ev_kb MM "LeftAnswers$Book" pc (.invokevirtual 54) 167 1 = true := kb_vi (by decide) me167 (by decide +kernel) gw385 gw388 gw386
set_option maxRecDepth 100000 in
theorem lk185 : ∀ pc, ev_kb MM "LeftAnswers$Duchy" pc (.invokespecial 3) 999 0 = true := kb_obj gw389 gw1 gw2
set_option maxRecDepth 100000 in
theorem lk186 : ∀ pc, ev_kb MM "LeftAnswers$Duchy" pc (.newarray .long) 0 0 = true := kb_newa gw390
set_option maxRecDepth 100000 in
theorem lk187 : ∀ pc, ev_kb MM "LeftAnswers$Duchy" pc (.putfield 9) 1 7 = true := kb_putf (by decide +kernel) gw391
set_option maxRecDepth 100000 in
theorem lk188 : ∀ pc, ev_kb MM "LeftAnswers$Duchy" pc (.newarray .int) 0 0 = true := kb_newa gw319
set_option maxRecDepth 100000 in
theorem lk189 : ∀ pc, ev_kb MM "LeftAnswers$Duchy" pc (.putfield 15) 1 8 = true := kb_putf (by decide +kernel) gw392
set_option maxRecDepth 100000 in
theorem lk190 : ∀ pc, ev_kb MM "LeftAnswers$Duchy" pc (.putfield 19) 1 9 = true := kb_putf (by decide +kernel) gw393
set_option maxRecDepth 100000 in
theorem lk191 : ∀ pc, ev_kb MM "LeftAnswers$Duchy" pc (.putfield 22) 1 14 = true := kb_putf (by decide +kernel) gw394
set_option maxRecDepth 100000 in
theorem lk192 : ∀ pc, ev_kb MM "LeftAnswers$Duchy" pc (.putfield 25) 1 15 = true := kb_putf (by decide +kernel) gw395
set_option maxRecDepth 100000 in
theorem lk193 : ∀ pc, ev_kb MM "LeftAnswers$Duchy" pc (.putfield 28) 1 10 = true := kb_putf (by decide +kernel) gw396
set_option maxRecDepth 100000 in
theorem lk194 : ∀ pc, ev_kb MM "LeftAnswers$Duchy" pc (.putfield 31) 1 11 = true := kb_putf (by decide +kernel) gw397
set_option maxRecDepth 100000 in
theorem lk195 : ∀ pc, ev_kb MM "LeftAnswers$Duchy" pc (.putfield 34) 1 12 = true := kb_putf (by decide +kernel) gw398
set_option maxRecDepth 100000 in
theorem lk196 : ∀ pc, ev_kb MM "LeftAnswers$Duchy" pc (.putfield 37) 1 13 = true := kb_putf (by decide +kernel) gw399
set_option maxRecDepth 100000 in
theorem lk197 : ∀ pc, ev_kb MM "LeftAnswers$Duchy" pc (.invokevirtual 40) 65 0 = true := kb_vi (by decide) me65 (by decide +kernel) gw400 gw403 gw401
set_option maxRecDepth 100000 in
theorem lk198 : ∀ pc, ev_kb MM "LeftAnswers$Duchy" pc (.getfield 43) 1 0 = true := kb_getf (by decide +kernel) gw404
set_option maxRecDepth 100000 in
theorem lk199 : ∀ pc, ev_kb MM "LeftAnswers$Duchy" pc (.invokestatic 183) 298 1 = true := kb_st (by decide) me298 gw405 gw222
end
section
set_option maxRecDepth 100000 in
theorem lk200 : ∀ pc, ev_kb MM "LeftAnswers$Duchy" pc (.getfield 47) 1 1 = true := kb_getf (by decide +kernel) gw406
set_option maxRecDepth 100000 in
theorem lk201 : ∀ pc, ev_kb MM "LeftAnswers$Duchy" pc (.invokevirtual 189) 60 1 = true := kb_vi (by decide) me60 (by decide +kernel) gw407 gw214 gw212
set_option maxRecDepth 100000 in
theorem lk202 : ∀ pc, ev_kb MM "LeftAnswers$Duchy" pc (.invokestatic 192) 299 1 = true := kb_abs (by decide +kernel) gw408 gw409 gw146 gw410
set_option maxRecDepth 100000 in
theorem lk203 : ∀ pc, ev_kb MM "LeftAnswers$Duchy" pc (.invokevirtual 179) 69 3 = true := kb_vi (by decide) me69 (by decide +kernel) gw411 gw414 gw412
set_option maxRecDepth 100000 in
theorem lk204 : ∀ pc, ev_kb MM "LeftAnswers$Duchy" pc (.putfield 43) 1 0 = true := kb_putf (by decide +kernel) gw404
set_option maxRecDepth 100000 in
theorem lk205 : ∀ pc, ev_kb MM "LeftAnswers$Duchy" pc (.putfield 47) 1 1 = true := kb_putf (by decide +kernel) gw406
set_option maxRecDepth 100000 in
theorem lk206 : ∀ pc, ev_kb MM "LeftAnswers$Duchy" pc (.putfield 50) 1 2 = true := kb_putf (by decide +kernel) gw415
set_option maxRecDepth 100000 in
theorem lk207 : ∀ pc, ev_kb MM "LeftAnswers$Duchy" pc (.putfield 53) 1 3 = true := kb_putf (by decide +kernel) gw416
set_option maxRecDepth 100000 in
theorem lk208 : ∀ pc, ev_kb MM "LeftAnswers$Duchy" pc (.putfield 56) 1 4 = true := kb_putf (by decide +kernel) gw417
set_option maxRecDepth 100000 in
theorem lk209 : ∀ pc, ev_kb MM "LeftAnswers$Duchy" pc (.putfield 59) 1 5 = true := kb_putf (by decide +kernel) gw418
set_option maxRecDepth 100000 in
theorem lk210 : ∀ pc, ev_kb MM "LeftAnswers$Duchy" pc (.putfield 62) 1 6 = true := kb_putf (by decide +kernel) gw419
set_option maxRecDepth 100000 in
theorem lk211 : ∀ pc, ev_kb MM "LeftAnswers$Duchy" pc (.getfield 22) 1 14 = true := kb_getf (by decide +kernel) gw394
set_option maxRecDepth 100000 in
theorem lk212 : ∀ pc, ev_kb MM "LeftAnswers$Duchy" pc (.getfield 25) 1 15 = true := kb_getf (by decide +kernel) gw395
set_option maxRecDepth 100000 in
theorem lk213 : ∀ pc, ev_kb MM "LeftAnswers$Duchy" pc (.getfield 50) 1 2 = true := kb_getf (by decide +kernel) gw415
set_option maxRecDepth 100000 in
theorem lk214 : ∀ pc, ev_kb MM "LeftAnswers$Duchy" pc (.getfield 53) 1 3 = true := kb_getf (by decide +kernel) gw416
set_option maxRecDepth 100000 in
theorem lk215 : ∀ pc, ev_kb MM "LeftAnswers$Duchy" pc (.getfield 56) 1 4 = true := kb_getf (by decide +kernel) gw417
set_option maxRecDepth 100000 in
theorem lk216 : ∀ pc, ev_kb MM "LeftAnswers$Duchy" pc (.getfield 59) 1 5 = true := kb_getf (by decide +kernel) gw418
set_option maxRecDepth 100000 in
theorem lk217 : ∀ pc, ev_kb MM "LeftAnswers$Duchy" pc (.getfield 62) 1 6 = true := kb_getf (by decide +kernel) gw419
set_option maxRecDepth 100000 in
theorem lk218 : ∀ pc, ev_kb MM "LeftAnswers$Duchy" pc (.getfield 9) 1 7 = true := kb_getf (by decide +kernel) gw391
set_option maxRecDepth 100000 in
theorem lk219 : ∀ pc, ev_kb MM "LeftAnswers$Duchy" pc (.invokestatic 65) 904 5 = true := kb_cpy rfl gw420 gw421 gw422 gw423
set_option maxRecDepth 100000 in
theorem lk220 : ∀ pc, ev_kb MM "LeftAnswers$Duchy" pc (.getfield 15) 1 8 = true := kb_getf (by decide +kernel) gw392
set_option maxRecDepth 100000 in
theorem lk221 : ∀ pc, ev_kb MM "LeftAnswers$Duchy" pc (.getfield 19) 1 9 = true := kb_getf (by decide +kernel) gw393
set_option maxRecDepth 100000 in
theorem lk222 : ∀ pc, ev_kb MM "LeftAnswers$Duchy" pc (.getfield 28) 1 10 = true := kb_getf (by decide +kernel) gw396
set_option maxRecDepth 100000 in
theorem lk223 : ∀ pc, ev_kb MM "LeftAnswers$Duchy" pc (.getfield 31) 1 11 = true := kb_getf (by decide +kernel) gw397
set_option maxRecDepth 100000 in
theorem lk224 : ∀ pc, ev_kb MM "LeftAnswers$Duchy" pc (.getfield 34) 1 12 = true := kb_getf (by decide +kernel) gw398
set_option maxRecDepth 100000 in
theorem lk225 : ∀ pc, ev_kb MM "LeftAnswers$Duchy" pc (.getfield 37) 1 13 = true := kb_getf (by decide +kernel) gw399
set_option maxRecDepth 100000 in
theorem lk226 : ∀ pc, ev_kb MM "LeftAnswers$Duchy" pc (.invokestatic 165) 71 3 = true := kb_st (by decide) me71 gw424 gw426
set_option maxRecDepth 100000 in
theorem lk227 : ∀ pc, ev_kb MM "LeftAnswers$Duchy" pc (.invokevirtual 200) 58 0 = true := kb_vi (by decide) me58 (by decide +kernel) gw427 gw430 gw428
set_option maxRecDepth 100000 in
theorem lk228 : ∀ pc, ev_kb MM "LeftAnswers$Duchy" pc (.invokevirtual 197) 82 1 = true := kb_vi (by decide) me82 (by decide +kernel) gw431 gw434 gw432
set_option maxRecDepth 100000 in
theorem lk229 : ∀ pc, ev_kb MM "LeftAnswers$Duchy" pc (.invokevirtual 169) 72 1 = true := kb_vi (by decide) me72 (by decide +kernel) gw435 gw158 gw156
set_option maxRecDepth 100000 in
theorem lk230 : ∀ pc, ev_kb MM "LeftAnswers$Duchy" pc (.invokevirtual 172) 68 2 = true := kb_vi (by decide) me68 (by decide +kernel) gw436 gw439 gw437
set_option maxRecDepth 100000 in
theorem lk231 : ∀ pc, ev_kb MM "LeftAnswers$Duchy" pc (.invokevirtual 175) 81 2 = true := kb_vi (by decide) me81 (by decide +kernel) gw440 gw303 gw301
set_option maxRecDepth 100000 in
theorem lk232 : ∀ pc, ev_kb MM "LeftAnswers$Duchy" pc (.getfield 88) 9 6 = true := kb_getf (by decide +kernel) gw441
set_option maxRecDepth 100000 in
theorem lk233 : ∀ pc, ev_kb MM "LeftAnswers$Duchy" pc (.getstatic 158) 1 0 = true := kb_gets (by decide) gw442
set_option maxRecDepth 100000 in
theorem lk234 : ∀ pc, ev_kb MM "LeftAnswers$Duchy" pc (.invokevirtual 114) 165 1 = true := kb_vi (by decide) me165 (by decide +kernel) gw443 gw342 gw340
set_option maxRecDepth 100000 in
theorem lk235 : ∀ pc, ev_kb MM "LeftAnswers$Duchy" pc (.getfield 128) 9 7 = true := kb_getf (by decide +kernel) gw444
set_option maxRecDepth 100000 in
theorem lk236 : ∀ pc, ev_kb MM "LeftAnswers$Duchy" pc (.invokestatic 161) 66 3 = true := kb_st (by decide) me66 gw445 gw447
set_option maxRecDepth 100000 in
theorem lk237 : ∀ pc, ev_kb MM "LeftAnswers$Duchy" pc (.invokevirtual 122) 155 0 = true := kb_vi (by decide) me155 (by decide +kernel) gw448 gw346 gw344
set_option maxRecDepth 100000 in
theorem lk238 : ∀ pc, ev_kb MM "LeftAnswers$Duchy" pc (.invokevirtual 125) 70 1 = true := kb_vi (by decide) me70 (by decide +kernel) gw449 gw452 gw450
set_option maxRecDepth 100000 in
theorem lk239 : ∀ pc, ev_kb MM "LeftAnswers$Duchy" pc (.invokevirtual 132) 168 2 = true := kb_vi (by decide) me168 (by decide +kernel) gw453 gw365 gw363
set_option maxRecDepth 100000 in
theorem lk240 : ∀ pc, ev_kb MM "LeftAnswers$Duchy" pc (.getfield 136) 9 9 = true := kb_getf (by decide +kernel) gw454
set_option maxRecDepth 100000 in
theorem lk241 : ∀ pc, ev_kb MM "LeftAnswers$Duchy" pc (.getstatic 142) 5 0 = true := kb_gets (by decide) gw455
set_option maxRecDepth 100000 in
theorem lk242 : ∀ pc, ev_kb MM "LeftAnswers$Duchy" pc (.invokevirtual 145) 80 1 = true := kb_vi (by decide) me80 (by decide +kernel) gw456 gw459 gw457
set_option maxRecDepth 100000 in
theorem lk243 : ∀ pc, ev_kb MM "LeftAnswers$Duchy" pc (.invokevirtual 71) 61 0 = true := kb_vi (by decide) me61 (by decide +kernel) gw460 gw463 gw461
set_option maxRecDepth 100000 in
theorem lk244 : ∀ pc, ev_kb MM "LeftAnswers$Duchy" pc (.invokevirtual 74) 161 1 = true := kb_vi (by decide) me161 (by decide +kernel) gw464 gw374 gw372
set_option maxRecDepth 100000 in
theorem lk245 : ∀ pc, ev_kb MM "LeftAnswers$Duchy" pc (.getfield 80) 9 4 = true := kb_getf (by decide +kernel) gw465
set_option maxRecDepth 100000 in
theorem lk246 : ∀ pc, ev_kb MM "LeftAnswers$Duchy" pc (.getstatic 83) 100 0 = true := kb_getw rfl gw466
set_option maxRecDepth 100000 in
theorem lk247 : ∀ pc, ev_kb MM "LeftAnswers$Duchy" pc (.invokevirtual 92) 900 0 = true := kb_ord gw467
set_option maxRecDepth 100000 in
theorem lk248 : ∀ pc, ev_kb MM "LeftAnswers$Duchy" pc (.invokevirtual 98) 78 1 = true := kb_vi (by decide) me78 (by decide +kernel) gw468 gw471 gw469
set_option maxRecDepth 100000 in
theorem lk249 : ∀ pc, ev_kb MM "LeftAnswers$Duchy" pc (.invokevirtual 102) 74 1 = true := kb_vi (by decide) me74 (by decide +kernel) gw472 gw475 gw473
set_option maxRecDepth 100000 in
theorem lk250 : ∀ pc, ev_kb MM "LeftAnswers$Duchy" pc (.invokevirtual 105) 79 1 = true := kb_vi (by decide) me79 (by decide +kernel) gw476 gw479 gw477
set_option maxRecDepth 100000 in
theorem lk251 : ∀ pc, ev_kb MM "LeftAnswers$Duchy" pc (.invokevirtual 108) 75 1 = true := kb_vi (by decide) me75 (by decide +kernel) gw480 gw483 gw481
set_option maxRecDepth 100000 in
theorem lk252 : ∀ pc, ev_kb MM "LeftAnswers$Duchy" pc (.invokevirtual 111) 77 1 = true := kb_vi (by decide) me77 (by decide +kernel) gw484 gw487 gw485
set_option maxRecDepth 100000 in
theorem lk253 : ∀ pc, ev_kb MM "LeftAnswers$Duchy" pc (.invokevirtual 118) 167 1 = true := kb_vi (by decide) me167 (by decide +kernel) gw488 gw388 gw386
set_option maxRecDepth 100000 in
theorem lk254 : ∀ pc, ev_kb MM "LeftAnswers$Duchy" pc (.getstatic 152) 8 0 = true := kb_gets (by decide) gw489
set_option maxRecDepth 100000 in
theorem lk255 : ∀ pc, ev_kb MM "LeftAnswers$Duchy" pc (.getstatic 155) 9 0 = true := kb_gets (by decide) gw490
set_option maxRecDepth 100000 in
theorem lk256 : ∀ pc, ev_kb MM "LeftAnswers$Duchy" pc (.getstatic 139) 3 0 = true := kb_gets (by decide) gw491
set_option maxRecDepth 100000 in
theorem lk257 : ∀ pc, ev_kb MM "LeftAnswers$Duchy" pc (.invokevirtual 149) 73 1 = true := kb_vi (by decide) me73 (by decide +kernel) gw492 gw338 gw336
set_option maxRecDepth 100000 in
theorem lk258 : ∀ pc, ev_kb MM "LeftAnswers$Image" pc (.invokespecial 1) 999 0 = true := kb_obj gw493 gw1 gw2
set_option maxRecDepth 100000 in
theorem lk259 : ∀ pc, ev_kb MM "LeftAnswers$Image" pc (.new 7) 1 0 = true := kb_new (by decide) gw494 gw11 gw12
set_option maxRecDepth 100000 in
theorem lk260 : ∀ pc, ev_kb MM "LeftAnswers$Image" pc (.invokespecial 9) 56 0 = true := kb_sp (by decide) me56 (by decide +kernel) gw495 gw15
set_option maxRecDepth 100000 in
theorem lk261 : ∀ pc, ev_kb MM "LeftAnswers$Image" pc (.putfield 10) 2 1 = true := kb_putf (by decide +kernel) gw496
set_option maxRecDepth 100000 in
theorem lk262 : ∀ pc, ev_kb MM "LeftAnswers$Image" pc (.new 16) 3 0 = true := kb_new (by decide) gw497 gw19 gw20
set_option maxRecDepth 100000 in
theorem lk263 : ∀ pc, ev_kb MM "LeftAnswers$Image" pc (.invokespecial 18) 87 0 = true := kb_sp (by decide) me87 (by decide +kernel) gw498 gw23
set_option maxRecDepth 100000 in
theorem lk264 : ∀ pc, ev_kb MM "LeftAnswers$Image" pc (.putfield 19) 2 2 = true := kb_putf (by decide +kernel) gw499
set_option maxRecDepth 100000 in
theorem lk265 : ∀ pc, ev_kb MM "LeftAnswers$Image" pc (.new 23) 7 0 = true := kb_new (by decide) gw500 gw41 gw42
set_option maxRecDepth 100000 in
theorem lk266 : ∀ pc, ev_kb MM "LeftAnswers$Image" pc (.invokespecial 25) 132 0 = true := kb_sp (by decide) me132 (by decide +kernel) gw501 gw45
set_option maxRecDepth 100000 in
theorem lk267 : ∀ pc, ev_kb MM "LeftAnswers$Image" pc (.putfield 26) 2 3 = true := kb_putf (by decide +kernel) gw502
set_option maxRecDepth 100000 in
theorem lk268 : ∀ pc, ev_kb MM "LeftAnswers$Image" pc (.getfield 10) 2 1 = true := kb_getf (by decide +kernel) gw496
set_option maxRecDepth 100000 in
theorem lk269 : ∀ pc, ev_kb MM "LeftAnswers$Image" pc (.invokevirtual 30) 62 1 = true := kb_vi (by decide) me62 (by decide +kernel) gw503 gw506 gw504
set_option maxRecDepth 100000 in
theorem lk270 : ∀ pc, ev_kb MM "LeftAnswers$Image" pc (.getfield 19) 2 2 = true := kb_getf (by decide +kernel) gw499
set_option maxRecDepth 100000 in
theorem lk271 : ∀ pc, ev_kb MM "LeftAnswers$Image" pc (.invokevirtual 34) 94 1 = true := kb_vi (by decide) me94 (by decide +kernel) gw507 gw126 gw124
set_option maxRecDepth 100000 in
theorem lk272 : ∀ pc, ev_kb MM "LeftAnswers$Image" pc (.getfield 26) 2 3 = true := kb_getf (by decide +kernel) gw502
set_option maxRecDepth 100000 in
theorem lk273 : ∀ pc, ev_kb MM "LeftAnswers$Image" pc (.invokevirtual 37) 137 1 = true := kb_vi (by decide) me137 (by decide +kernel) gw508 gw511 gw509
set_option maxRecDepth 100000 in
theorem lk274 : ∀ pc, ev_kb MM "LeftAnswers$Image" pc (.putfield 40) 2 0 = true := kb_putf (by decide +kernel) gw512
set_option maxRecDepth 100000 in
theorem lk275 : ∀ pc, ev_kb MM "LeftAnswers$Life" pc (.invokespecial 3) 999 0 = true := kb_obj gw513 gw1 gw2
set_option maxRecDepth 100000 in
theorem lk276 : ∀ pc, ev_kb MM "LeftAnswers$Life" pc (.newarray .int) 0 0 = true := kb_newa gw319
set_option maxRecDepth 100000 in
theorem lk277 : ∀ pc, ev_kb MM "LeftAnswers$Life" pc (.putfield 9) 3 5 = true := kb_putf (by decide +kernel) gw514
set_option maxRecDepth 100000 in
theorem lk278 : ∀ pc, ev_kb MM "LeftAnswers$Life" pc (.putfield 15) 3 6 = true := kb_putf (by decide +kernel) gw515
set_option maxRecDepth 100000 in
theorem lk279 : ∀ pc, ev_kb MM "LeftAnswers$Life" pc (.putfield 18) 3 7 = true := kb_putf (by decide +kernel) gw516
set_option maxRecDepth 100000 in
theorem lk280 : ∀ pc, ev_kb MM "LeftAnswers$Life" pc (.putfield 21) 3 8 = true := kb_putf (by decide +kernel) gw517
set_option maxRecDepth 100000 in
theorem lk281 : ∀ pc, ev_kb MM "LeftAnswers$Life" pc (.putfield 24) 3 9 = true := kb_putf (by decide +kernel) gw518
set_option maxRecDepth 100000 in
theorem lk282 : ∀ pc, ev_kb MM "LeftAnswers$Life" pc (.putfield 27) 3 10 = true := kb_putf (by decide +kernel) gw519
set_option maxRecDepth 100000 in
theorem lk283 : ∀ pc, ev_kb MM "LeftAnswers$Life" pc (.putfield 30) 3 11 = true := kb_putf (by decide +kernel) gw520
set_option maxRecDepth 100000 in
theorem lk284 : ∀ pc, ev_kb MM "LeftAnswers$Life" pc (.invokevirtual 33) 91 1 = true := kb_vi (by decide) me91 (by decide +kernel) gw521 gw175 gw173
set_option maxRecDepth 100000 in
theorem lk285 : ∀ pc, ev_kb MM "LeftAnswers$Life" pc (.invokevirtual 75) 117 4 = true := kb_vi (by decide) me117 (by decide +kernel) gw522 gw525 gw523
set_option maxRecDepth 100000 in
theorem lk286 : ∀ pc, ev_kb MM "LeftAnswers$Life" pc (.getfield 15) 3 6 = true := kb_getf (by decide +kernel) gw515
set_option maxRecDepth 100000 in
theorem lk287 : ∀ pc, ev_kb MM "LeftAnswers$Life" pc (.getfield 135) 1 2 = true := kb_getf (by decide +kernel) gw526
set_option maxRecDepth 100000 in
theorem lk288 : ∀ pc, ev_kb MM "LeftAnswers$Life" pc (.getfield 18) 3 7 = true := kb_getf (by decide +kernel) gw516
set_option maxRecDepth 100000 in
theorem lk289 : ∀ pc, ev_kb MM "LeftAnswers$Life" pc (.getfield 138) 1 3 = true := kb_getf (by decide +kernel) gw527
set_option maxRecDepth 100000 in
theorem lk290 : ∀ pc, ev_kb MM "LeftAnswers$Life" pc (.getfield 41) 3 1 = true := kb_getf (by decide +kernel) gw528
set_option maxRecDepth 100000 in
theorem lk291 : ∀ pc, ev_kb MM "LeftAnswers$Life" pc (.putfield 41) 3 1 = true := kb_putf (by decide +kernel) gw528
set_option maxRecDepth 100000 in
theorem lk292 : ∀ pc, ev_kb MM "LeftAnswers$Life" pc (.getfield 9) 3 5 = true := kb_getf (by decide +kernel) gw514
set_option maxRecDepth 100000 in
theorem lk293 : ∀ pc, ev_kb MM "LeftAnswers$Life" pc (.putfield 37) 3 0 = true := kb_putf (by decide +kernel) gw529
set_option maxRecDepth 100000 in
theorem lk294 : ∀ pc, ev_kb MM "LeftAnswers$Life" pc (.putfield 44) 3 2 = true := kb_putf (by decide +kernel) gw530
set_option maxRecDepth 100000 in
theorem lk295 : ∀ pc, ev_kb MM "LeftAnswers$Life" pc (.putfield 47) 3 3 = true := kb_putf (by decide +kernel) gw531
set_option maxRecDepth 100000 in
theorem lk296 : ∀ pc, ev_kb MM "LeftAnswers$Life" pc (.getfield 21) 3 8 = true := kb_getf (by decide +kernel) gw517
set_option maxRecDepth 100000 in
theorem lk297 : ∀ pc, ev_kb MM "LeftAnswers$Life" pc (.getfield 24) 3 9 = true := kb_getf (by decide +kernel) gw518
set_option maxRecDepth 100000 in
theorem lk298 : ∀ pc, ev_kb MM "LeftAnswers$Life" pc (.getfield 27) 3 10 = true := kb_getf (by decide +kernel) gw519
set_option maxRecDepth 100000 in
theorem lk299 : ∀ pc, ev_kb MM "LeftAnswers$Life" pc (.getfield 30) 3 11 = true := kb_getf (by decide +kernel) gw520
set_option maxRecDepth 100000 in
theorem lk300 : ∀ pc, ev_kb MM "LeftAnswers$Life" pc (.invokevirtual 159) 113 1 = true := kb_vi (by decide) me113 (by decide +kernel) gw532 gw248 gw246
set_option maxRecDepth 100000 in
theorem lk301 : ∀ pc, ev_kb MM "LeftAnswers$Life" pc (.getfield 72) 1 0 = true := kb_getf (by decide +kernel) gw533
set_option maxRecDepth 100000 in
theorem lk302 : ∀ pc, ev_kb MM "LeftAnswers$Life" pc (.invokestatic 163) 101 4 = true := kb_st (by decide) me101 gw534 gw536
set_option maxRecDepth 100000 in
theorem lk303 : ∀ pc, ev_kb MM "LeftAnswers$Life" pc (.getfield 37) 3 0 = true := kb_getf (by decide +kernel) gw529
set_option maxRecDepth 100000 in
theorem lk304 : ∀ pc, ev_kb MM "LeftAnswers$Life" pc (.getfield 44) 3 2 = true := kb_getf (by decide +kernel) gw530
set_option maxRecDepth 100000 in
theorem lk305 : ∀ pc, ev_kb MM "LeftAnswers$Life" pc (.getfield 47) 3 3 = true := kb_getf (by decide +kernel) gw531
set_option maxRecDepth 100000 in
theorem lk306 : ∀ pc, ev_kb MM "LeftAnswers$Life" pc (.invokestatic 50) 904 5 = true := kb_cpy rfl gw537 gw421 gw422 gw423
set_option maxRecDepth 100000 in
theorem lk307 : ∀ pc, ev_kb MM "LeftAnswers$Life" pc (.getfield 118) 1 12 = true := kb_getf (by decide +kernel) gw538
set_option maxRecDepth 100000 in
theorem lk308 : ∀ pc, ev_kb MM "LeftAnswers$Life" pc (.invokestatic 121) 901 2 = true := kb_min gw539 gw145 gw146 gw147
set_option maxRecDepth 100000 in
theorem lk309 : ∀ pc, ev_kb MM "LeftAnswers$Life" pc (.invokestatic 104) 100 1 = true := kb_st (by decide) me100 gw540 gw542
set_option maxRecDepth 100000 in
theorem lk310 : ∀ pc, ev_kb MM "LeftAnswers$Life" pc (.invokevirtual 126) 104 2 = true := kb_vi (by decide) me104 (by decide +kernel) gw543 gw285 gw283
set_option maxRecDepth 100000 in
theorem lk311 : ∀ pc, ev_kb MM "LeftAnswers$Life" pc (.getfield 130) 1 13 = true := kb_getf (by decide +kernel) gw544
set_option maxRecDepth 100000 in
theorem lk312 : ∀ pc, ev_kb MM "LeftAnswers$Life" pc (.invokevirtual 131) 89 3 = true := kb_vi (by decide) me89 (by decide +kernel) gw545 gw548 gw546
set_option maxRecDepth 100000 in
theorem lk313 : ∀ pc, ev_kb MM "LeftAnswers$Life" pc (.getfield 146) 3 4 = true := kb_getf (by decide +kernel) gw549
set_option maxRecDepth 100000 in
theorem lk314 : ∀ pc, ev_kb MM "LeftAnswers$Life" pc (.ldc 158) 1103515245 0 = true := kb_ldc (by decide) gw550
set_option maxRecDepth 100000 in
theorem lk315 : ∀ pc, ev_kb MM "LeftAnswers$Life" pc (.putfield 146) 3 4 = true := kb_putf (by decide +kernel) gw549
set_option maxRecDepth 100000 in
theorem lk316 : ∀ pc, ev_kb MM "LeftAnswers$Life" pc (.getfield 152) 1 1 = true := kb_getf (by decide +kernel) gw551
set_option maxRecDepth 100000 in
theorem lk317 : ∀ pc, ev_kb MM "LeftAnswers$Life" pc (.invokevirtual 155) 97 1 = true := kb_vi (by decide) me97 (by decide +kernel) gw552 gw555 gw553
set_option maxRecDepth 100000 in
theorem lk318 : ∀ pc, ev_kb MM "LeftAnswers$Life" pc (.invokevirtual 89) 96 4 = true := kb_vi (by decide) me96 (by decide +kernel) gw556 gw559 gw557
set_option maxRecDepth 100000 in
theorem lk319 : ∀ pc, ev_kb MM "LeftAnswers$Life" pc (.invokevirtual 79) 118 2 = true := kb_vi (by decide) me118 (by decide +kernel) gw560 gw563 gw561
set_option maxRecDepth 100000 in
theorem lk320 : ∀ pc, ev_kb MM "LeftAnswers$Life" pc (.invokevirtual 93) 115 2 = true := kb_vi (by decide) me115 (by decide +kernel) gw564 gw567 gw565
set_option maxRecDepth 100000 in
theorem lk321 : ∀ pc, ev_kb MM "LeftAnswers$Life" pc (.invokevirtual 97) 109 1 = true := kb_vi (by decide) me109 (by decide +kernel) gw568 gw571 gw569
set_option maxRecDepth 100000 in
theorem lk322 : ∀ pc, ev_kb MM "LeftAnswers$Life" pc (.invokevirtual 149) 98 2 = true := kb_vi (by decide) me98 (by decide +kernel) gw572 gw575 gw573
set_option maxRecDepth 100000 in
theorem lk323 : ∀ pc, ev_kb MM "LeftAnswers$Life" pc (.invokevirtual 140) 110 1 = true := kb_vi (by decide) me110 (by decide +kernel) gw576 gw579 gw577
set_option maxRecDepth 100000 in
theorem lk324 : ∀ pc, ev_kb MM "LeftAnswers$Life" pc (.getfield 56) 1 14 = true := kb_getf (by decide +kernel) gw580
set_option maxRecDepth 100000 in
theorem lk325 : ∀ pc, ev_kb MM "LeftAnswers$Life" pc (.invokevirtual 61) 106 0 = true := kb_vi (by decide) me106 (by decide +kernel) gw581 gw239 gw237
set_option maxRecDepth 100000 in
theorem lk326 : ∀ pc, ev_kb MM "LeftAnswers$Life" pc (.invokevirtual 65) 103 1 = true := kb_vi (by decide) me103 (by decide +kernel) gw582 gw585 gw583
set_option maxRecDepth 100000 in
theorem lk327 : ∀ pc, ev_kb MM "LeftAnswers$Life" pc (.invokevirtual 167) 108 3 = true := kb_vi (by decide) me108 (by decide +kernel) gw586 gw589 gw587
set_option maxRecDepth 100000 in
theorem lk328 : ∀ pc, ev_kb MM "LeftAnswers$Life" pc (.invokevirtual 83) 102 1 = true := kb_vi (by decide) me102 (by decide +kernel) gw590 gw280 gw278
set_option maxRecDepth 100000 in
theorem lk329 : ∀ pc, ev_kb MM "LeftAnswers$Life" pc (.invokestatic 171) 902 2 = true := kb_max gw591 gw592 gw146 gw593
set_option maxRecDepth 100000 in
theorem lk330 : ∀ pc, ev_kb MM "LeftAnswers$Life" pc (.invokevirtual 174) 69 3 = true := kb_vi (by decide) me69 (by decide +kernel) gw594 gw414 gw412
set_option maxRecDepth 100000 in
theorem lk331 : ∀ pc, ev_kb MM "LeftAnswers$Life" pc (.getfield 144) 1 4 = true := kb_getf (by decide +kernel) gw595
set_option maxRecDepth 100000 in
theorem lk332 : ∀ pc, ev_kb MM "LeftAnswers$Life" pc (.invokevirtual 100) 111 2 = true := kb_vi (by decide) me111 (by decide +kernel) gw596 gw151 gw149
set_option maxRecDepth 100000 in
theorem lk333 : ∀ pc, ev_kb MM "LeftAnswers$Life" pc (.invokevirtual 69) 105 1 = true := kb_vi (by decide) me105 (by decide +kernel) gw597 gw600 gw598
set_option maxRecDepth 100000 in
theorem lk334 : ∀ pc, ev_kb MM "LeftAnswers$Life" pc (.invokevirtual 86) 95 0 = true := kb_vi (by decide) me95 (by decide +kernel) gw601 gw143 gw141
set_option maxRecDepth 100000 in
theorem lk335 : ∀ pc, ev_kb MM "LeftAnswers$Life" pc (.invokevirtual 108) 68 2 = true := kb_vi (by decide) me68 (by decide +kernel) gw602 gw439 gw437
set_option maxRecDepth 100000 in
theorem lk336 : ∀ pc, ev_kb MM "LeftAnswers$Life" pc (.invokevirtual 112) 81 2 = true := kb_vi (by decide) me81 (by decide +kernel) gw603 gw303 gw301
set_option maxRecDepth 100000 in
theorem lk337 : ∀ pc, ev_kb MM "LeftAnswers$Life" pc (.getfield 115) 1 11 = true := kb_getf (by decide +kernel) gw604
set_option maxRecDepth 100000 in
theorem lk338 : ∀ pc, ev_kb MM "LeftAnswers$Pairs" pc (.invokespecial 3) 999 0 = true := kb_obj gw605 gw1 gw2
set_option maxRecDepth 100000 in
theorem lk339 : ∀ pc, ev_kb MM "LeftAnswers$Pairs" pc (.newarray .int) 0 0 = true := kb_newa gw319
set_option maxRecDepth 100000 in
theorem lk340 : ∀ pc, ev_kb MM "LeftAnswers$Pairs" pc (.putfield 9) 4 0 = true := kb_putf (by decide +kernel) gw606
set_option maxRecDepth 100000 in
theorem lk341 : ∀ pc, ev_kb MM "LeftAnswers$Pairs" pc (.putfield 15) 4 1 = true := kb_putf (by decide +kernel) gw607
set_option maxRecDepth 100000 in
theorem lk342 : ∀ pc, ev_kb MM "LeftAnswers$Pairs" pc (.putfield 18) 4 2 = true := kb_putf (by decide +kernel) gw608
set_option maxRecDepth 100000 in
theorem lk343 : ∀ pc, ev_kb MM "LeftAnswers$Pairs" pc (.getfield 9) 4 0 = true := kb_getf (by decide +kernel) gw606
set_option maxRecDepth 100000 in
theorem lk344 : ∀ pc, ev_kb MM "LeftAnswers$Pairs" pc (.getfield 27) 4 3 = true := kb_getf (by decide +kernel) gw609
set_option maxRecDepth 100000 in
theorem lk345 : ∀ pc, ev_kb MM "LeftAnswers$Pairs" pc (.getfield 28) 4 4 = true := kb_getf (by decide +kernel) gw610
set_option maxRecDepth 100000 in
theorem lk346 : ∀ pc, ev_kb MM "LeftAnswers$Pairs" pc (.putfield 28) 4 4 = true := kb_putf (by decide +kernel) gw610
set_option maxRecDepth 100000 in
theorem lk347 : ∀ pc, ev_kb MM "LeftAnswers$Pairs" pc (.getfield 15) 4 1 = true := kb_getf (by decide +kernel) gw607
set_option maxRecDepth 100000 in
theorem lk348 : ∀ pc, ev_kb MM "LeftAnswers$Pairs" pc (.invokestatic 51) 904 5 = true := kb_cpy rfl gw611 gw421 gw422 gw423
set_option maxRecDepth 100000 in
theorem lk349 : ∀ pc, ev_kb MM "LeftAnswers$Pairs" pc (.invokevirtual 47) 120 2 = true := kb_vi (by decide) me120 (by decide +kernel) gw612 gw615 gw613
set_option maxRecDepth 100000 in
theorem lk350 : ∀ pc, ev_kb MM "LeftAnswers$Pairs" pc (.getfield 18) 4 2 = true := kb_getf (by decide +kernel) gw608
set_option maxRecDepth 100000 in
theorem lk351 : ∀ pc, ev_kb MM "LeftAnswers$Pairs" pc (.getfield 21) 1 0 = true := kb_getf (by decide +kernel) gw616
set_option maxRecDepth 100000 in
theorem lk352 : ∀ pc, ev_kb MM "LeftAnswers$Pairs" pc (.putfield 27) 4 3 = true := kb_putf (by decide +kernel) gw609
set_option maxRecDepth 100000 in
theorem lk353 : ∀ pc, ev_kb MM "LeftAnswers$Pairs" pc (.invokevirtual 31) 114 0 = true := kb_vi (by decide) me114 (by decide +kernel) gw617 gw244 gw242
set_option maxRecDepth 100000 in
theorem lk354 : ∀ pc, ev_kb MM "LeftAnswers$Pairs" pc (.getfield 37) 3 3 = true := kb_getf (by decide +kernel) gw618
set_option maxRecDepth 100000 in
theorem lk355 : ∀ pc, ev_kb MM "LeftAnswers$Pairs" pc (.invokevirtual 40) 106 0 = true := kb_vi (by decide) me106 (by decide +kernel) gw619 gw239 gw237
set_option maxRecDepth 100000 in
theorem lk356 : ∀ pc, ev_kb MM "LeftAnswers$Pairs" pc (.invokevirtual 43) 67 2 = true := kb_vi (by decide) me67 (by decide +kernel) gw620 gw623 gw621
set_option maxRecDepth 100000 in
theorem lk357 : ∀ pc, ev_kb MM "LeftAnswers$Parted" pc (.invokespecial 3) 999 0 = true := kb_obj gw624 gw1 gw2
set_option maxRecDepth 100000 in
theorem lk358 : ∀ pc, ev_kb MM "LeftAnswers$Parted" pc (.newarray .int) 0 0 = true := kb_newa gw319
set_option maxRecDepth 100000 in
theorem lk359 : ∀ pc, ev_kb MM "LeftAnswers$Parted" pc (.putfield 9) 5 0 = true := kb_putf (by decide +kernel) gw625
set_option maxRecDepth 100000 in
theorem lk360 : ∀ pc, ev_kb MM "LeftAnswers$Parted" pc (.putfield 15) 5 1 = true := kb_putf (by decide +kernel) gw626
set_option maxRecDepth 100000 in
theorem lk361 : ∀ pc, ev_kb MM "LeftAnswers$Parted" pc (.putfield 18) 5 2 = true := kb_putf (by decide +kernel) gw627
set_option maxRecDepth 100000 in
theorem lk362 : ∀ pc, ev_kb MM "LeftAnswers$Parted" pc (.putfield 21) 5 3 = true := kb_putf (by decide +kernel) gw628
set_option maxRecDepth 100000 in
theorem lk363 : ∀ pc, ev_kb MM "LeftAnswers$Parted" pc (.invokestatic 24) 901 2 = true := kb_min gw629 gw145 gw146 gw147
set_option maxRecDepth 100000 in
theorem lk364 : ∀ pc, ev_kb MM "LeftAnswers$Parted" pc (.invokestatic 30) 902 2 = true := kb_max gw630 gw592 gw146 gw593
set_option maxRecDepth 100000 in
theorem lk365 : ∀ pc, ev_kb MM "LeftAnswers$Parted" pc (.putfield 33) 5 4 = true := kb_putf (by decide +kernel) gw631
set_option maxRecDepth 100000 in
theorem lk366 : ∀ pc, ev_kb MM "LeftAnswers$Parted" pc (.putfield 37) 5 5 = true := kb_putf (by decide +kernel) gw632
set_option maxRecDepth 100000 in
theorem lk367 : ∀ pc, ev_kb MM "LeftAnswers$Parted" pc (.getfield 33) 5 4 = true := kb_getf (by decide +kernel) gw631
set_option maxRecDepth 100000 in
theorem lk368 : ∀ pc, ev_kb MM "LeftAnswers$Parted" pc (.getfield 21) 5 3 = true := kb_getf (by decide +kernel) gw628
set_option maxRecDepth 100000 in
theorem lk369 : ∀ pc, ev_kb MM "LeftAnswers$Parted" pc (.getfield 15) 5 1 = true := kb_getf (by decide +kernel) gw626
set_option maxRecDepth 100000 in
theorem lk370 : ∀ pc, ev_kb MM "LeftAnswers$Parted" pc (.getfield 37) 5 5 = true := kb_getf (by decide +kernel) gw632
set_option maxRecDepth 100000 in
theorem lk371 : ∀ pc, ev_kb MM "LeftAnswers$Parted" pc (.getfield 18) 5 2 = true := kb_getf (by decide +kernel) gw627
set_option maxRecDepth 100000 in
theorem lk372 : ∀ pc, ev_kb MM "LeftAnswers$Parted" pc (.invokestatic 45) 904 5 = true := kb_cpy rfl gw633 gw421 gw422 gw423
set_option maxRecDepth 100000 in
theorem lk373 : ∀ pc, ev_kb MM "LeftAnswers$Parted" pc (.getfield 9) 5 0 = true := kb_getf (by decide +kernel) gw625
set_option maxRecDepth 100000 in
theorem lk374 : ∀ pc, ev_kb MM "LeftAnswers$Parted" pc (.invokestatic 51) 127 1 = true := kb_st (by decide) me127 gw634 gw636
set_option maxRecDepth 100000 in
theorem lk375 : ∀ pc, ev_kb MM "LeftAnswers$Parted" pc (.invokevirtual 41) 125 3 = true := kb_vi (by decide) me125 (by decide +kernel) gw637 gw640 gw638
set_option maxRecDepth 100000 in
theorem lk376 : ∀ pc, ev_kb MM "LeftAnswers$Parted" pc (.ldc 40) 2097151 0 = true := kb_ldc (by decide) gw641
set_option maxRecDepth 100000 in
theorem lk377 : ∀ pc, ev_kb MM "LeftAnswers$Past" pc (.invokespecial 3) 999 0 = true := kb_obj gw642 gw1 gw2
set_option maxRecDepth 100000 in
theorem lk378 : ∀ pc, ev_kb MM "LeftAnswers$Past" pc (.anewarray 11) 5 0 = true := kb_anew (by decide) gw643
set_option maxRecDepth 100000 in
theorem lk379 : ∀ pc, ev_kb MM "LeftAnswers$Past" pc (.putfield 13) 6 0 = true := kb_putf (by decide +kernel) gw644
set_option maxRecDepth 100000 in
theorem lk380 : ∀ pc, ev_kb MM "LeftAnswers$Past" pc (.getfield 13) 6 0 = true := kb_getf (by decide +kernel) gw644
set_option maxRecDepth 100000 in
theorem lk381 : ∀ pc, ev_kb MM "LeftAnswers$Past" pc (.new 11) 3 0 = true := kb_new (by decide) gw643 gw19 gw20
set_option maxRecDepth 100000 in
theorem lk382 : ∀ pc, ev_kb MM "LeftAnswers$Past" pc (.invokespecial 17) 87 0 = true := kb_sp (by decide) me87 (by decide +kernel) gw645 gw23
set_option maxRecDepth 100000 in
theorem lk383 : ∀ pc, ev_kb MM "LeftAnswers$Past" pc (.putfield 18) 6 2 = true := kb_putf (by decide +kernel) gw646
set_option maxRecDepth 100000 in
theorem lk384 : ∀ pc, ev_kb MM "LeftAnswers$Past" pc (.getfield 18) 6 2 = true := kb_getf (by decide +kernel) gw646
set_option maxRecDepth 100000 in
theorem lk385 : ∀ pc, ev_kb MM "LeftAnswers$Past" pc (.getfield 22) 6 1 = true := kb_getf (by decide +kernel) gw647
set_option maxRecDepth 100000 in
theorem lk386 : ∀ pc, ev_kb MM "LeftAnswers$Past" pc (.putfield 22) 6 1 = true := kb_putf (by decide +kernel) gw647
set_option maxRecDepth 100000 in
theorem lk387 : ∀ pc, ev_kb MM "LeftAnswers$Past" pc (.invokevirtual 25) 94 1 = true := kb_vi (by decide) me94 (by decide +kernel) gw648 gw126 gw124
set_option maxRecDepth 100000 in
theorem lk388 : ∀ pc, ev_kb MM "LeftAnswers$Sentence" pc (.invokespecial 5) 999 0 = true := kb_obj gw649 gw1 gw2
set_option maxRecDepth 100000 in
theorem lk389 : ∀ pc, ev_kb MM "LeftAnswers$Sentence" pc (.anewarray 11) 4 0 = true := kb_anew (by decide) gw650
set_option maxRecDepth 100000 in
theorem lk390 : ∀ pc, ev_kb MM "LeftAnswers$Sentence" pc (.putfield 13) 7 2 = true := kb_putf (by decide +kernel) gw651
set_option maxRecDepth 100000 in
theorem lk391 : ∀ pc, ev_kb MM "LeftAnswers$Sentence" pc (.getfield 13) 7 2 = true := kb_getf (by decide +kernel) gw651
set_option maxRecDepth 100000 in
theorem lk392 : ∀ pc, ev_kb MM "LeftAnswers$Sentence" pc (.getstatic 17) 0 0 = true := kb_gets (by decide) gw652
set_option maxRecDepth 100000 in
theorem lk393 : ∀ pc, ev_kb MM "LeftAnswers$Sentence" pc (.newarray .int) 0 0 = true := kb_newa gw319
set_option maxRecDepth 100000 in
theorem lk394 : ∀ pc, ev_kb MM "LeftAnswers$Sentence" pc (.putfield 21) 7 3 = true := kb_putf (by decide +kernel) gw653
set_option maxRecDepth 100000 in
theorem lk395 : ∀ pc, ev_kb MM "LeftAnswers$Sentence" pc (.putfield 25) 7 4 = true := kb_putf (by decide +kernel) gw654
set_option maxRecDepth 100000 in
theorem lk396 : ∀ pc, ev_kb MM "LeftAnswers$Sentence" pc (.putfield 28) 7 5 = true := kb_putf (by decide +kernel) gw655
set_option maxRecDepth 100000 in
theorem lk397 : ∀ pc, ev_kb MM "LeftAnswers$Sentence" pc (.getfield 35) 7 1 = true := kb_getf (by decide +kernel) gw656
set_option maxRecDepth 100000 in
theorem lk398 : ∀ pc, ev_kb MM "LeftAnswers$Sentence" pc (.getfield 21) 7 3 = true := kb_getf (by decide +kernel) gw653
set_option maxRecDepth 100000 in
theorem lk399 : ∀ pc, ev_kb MM "LeftAnswers$Sentence" pc (.getfield 25) 7 4 = true := kb_getf (by decide +kernel) gw654
end
section
set_option maxRecDepth 100000 in
theorem lk400 : ∀ pc, ev_kb MM "LeftAnswers$Sentence" pc (.putfield 35) 7 1 = true := kb_putf (by decide +kernel) gw656
set_option maxRecDepth 100000 in
theorem lk401 : ∀ pc, ev_kb MM "LeftAnswers$Sentence" pc (.getstatic 91) 100 0 = true := kb_getw rfl gw657
set_option maxRecDepth 100000 in
theorem lk402 : ∀ pc, ev_kb MM "LeftAnswers$Sentence" pc (.invokevirtual 96) 900 0 = true := kb_ord gw658
set_option maxRecDepth 100000 in
theorem lk403 : ∀ pc, ev_kb MM "LeftAnswers$Sentence" pc (.invokevirtual 137) 106 0 = true := kb_vi (by decide) me106 (by decide +kernel) gw659 gw239 gw237
set_option maxRecDepth 100000 in
theorem lk404 : ∀ pc, ev_kb MM "LeftAnswers$Sentence" pc (.getfield 142) 3 3 = true := kb_getf (by decide +kernel) gw660
set_option maxRecDepth 100000 in
theorem lk405 : ∀ pc, ev_kb MM "LeftAnswers$Sentence" pc (.invokevirtual 145) 114 0 = true := kb_vi (by decide) me114 (by decide +kernel) gw661 gw244 gw242
set_option maxRecDepth 100000 in
theorem lk406 : ∀ pc, ev_kb MM "LeftAnswers$Sentence" pc (.invokevirtual 148) 93 0 = true := kb_vi (by decide) me93 (by decide +kernel) gw662 gw665 gw663
set_option maxRecDepth 100000 in
theorem lk407 : ∀ pc, ev_kb MM "LeftAnswers$Sentence" pc (.invokevirtual 151) 113 1 = true := kb_vi (by decide) me113 (by decide +kernel) gw666 gw248 gw246
set_option maxRecDepth 100000 in
theorem lk408 : ∀ pc, ev_kb MM "LeftAnswers$Sentence" pc (.invokevirtual 155) 139 3 = true := kb_vi (by decide) me139 (by decide +kernel) gw667 gw670 gw668
set_option maxRecDepth 100000 in
theorem lk409 : ∀ pc, ev_kb MM "LeftAnswers$Sentence" pc (.putfield 31) 7 0 = true := kb_putf (by decide +kernel) gw671
set_option maxRecDepth 100000 in
theorem lk410 : ∀ pc, ev_kb MM "LeftAnswers$Sentence" pc (.getfield 31) 7 0 = true := kb_getf (by decide +kernel) gw671
set_option maxRecDepth 100000 in
theorem lk411 : ∀ pc, ev_kb MM "LeftAnswers$Sentence" pc (.getfield 158) 1 0 = true := kb_getf (by decide +kernel) gw672
set_option maxRecDepth 100000 in
theorem lk412 : ∀ pc, ev_kb MM "LeftAnswers$Sentence" pc (.invokestatic 161) 140 3 = true := kb_st (by decide) me140 gw673 gw675
set_option maxRecDepth 100000 in
theorem lk413 : ∀ pc, ev_kb MM "LeftAnswers$Sentence" pc (.invokestatic 165) 138 3 = true := kb_st (by decide) me138 gw676 gw678
set_option maxRecDepth 100000 in
theorem lk414 : ∀ pc, ev_kb MM "LeftAnswers$Sentence" pc (.getfield 169) 3 9 = true := kb_getf (by decide +kernel) gw679
set_option maxRecDepth 100000 in
theorem lk415 : ∀ pc, ev_kb MM "LeftAnswers$Sentence" pc (.getfield 172) 3 5 = true := kb_getf (by decide +kernel) gw680
set_option maxRecDepth 100000 in
theorem lk416 : ∀ pc, ev_kb MM "LeftAnswers$Sentence" pc (.getfield 175) 3 6 = true := kb_getf (by decide +kernel) gw681
set_option maxRecDepth 100000 in
theorem lk417 : ∀ pc, ev_kb MM "LeftAnswers$Sentence" pc (.getfield 178) 3 8 = true := kb_getf (by decide +kernel) gw682
set_option maxRecDepth 100000 in
theorem lk418 : ∀ pc, ev_kb MM "LeftAnswers$Sentence" pc (.invokevirtual 74) 145 3 = true := kb_vi (by decide) me145 (by decide +kernel) gw683 gw686 gw684
set_option maxRecDepth 100000 in
theorem lk419 : ∀ pc, ev_kb MM "LeftAnswers$Sentence" pc (.getfield 61) 9 6 = true := kb_getf (by decide +kernel) gw687
set_option maxRecDepth 100000 in
theorem lk420 : ∀ pc, ev_kb MM "LeftAnswers$Sentence" pc (.getstatic 77) 21 0 = true := kb_gets (by decide) gw688
set_option maxRecDepth 100000 in
theorem lk421 : ∀ pc, ev_kb MM "LeftAnswers$Sentence" pc (.invokevirtual 67) 155 0 = true := kb_vi (by decide) me155 (by decide +kernel) gw689 gw346 gw344
set_option maxRecDepth 100000 in
theorem lk422 : ∀ pc, ev_kb MM "LeftAnswers$Sentence" pc (.invokevirtual 70) 133 3 = true := kb_vi (by decide) me133 (by decide +kernel) gw690 gw693 gw691
set_option maxRecDepth 100000 in
theorem lk423 : ∀ pc, ev_kb MM "LeftAnswers$Sentence" pc (.invokevirtual 58) 141 3 = true := kb_vi (by decide) me141 (by decide +kernel) gw694 gw697 gw695
set_option maxRecDepth 100000 in
theorem lk424 : ∀ pc, ev_kb MM "LeftAnswers$Sentence" pc (.getstatic 64) 20 0 = true := kb_gets (by decide) gw698
set_option maxRecDepth 100000 in
theorem lk425 : ∀ pc, ev_kb MM "LeftAnswers$Sentence" pc (.invokevirtual 38) 136 0 = true := kb_vi (by decide) me136 (by decide +kernel) gw699 gw183 gw181
set_option maxRecDepth 100000 in
theorem lk426 : ∀ pc, ev_kb MM "LeftAnswers$Sentence" pc (.invokevirtual 41) 161 1 = true := kb_vi (by decide) me161 (by decide +kernel) gw700 gw374 gw372
set_option maxRecDepth 100000 in
theorem lk427 : ∀ pc, ev_kb MM "LeftAnswers$Sentence" pc (.invokevirtual 47) 142 3 = true := kb_vi (by decide) me142 (by decide +kernel) gw701 gw704 gw702
set_option maxRecDepth 100000 in
theorem lk428 : ∀ pc, ev_kb MM "LeftAnswers$Sentence" pc (.getfield 51) 9 4 = true := kb_getf (by decide +kernel) gw705
set_option maxRecDepth 100000 in
theorem lk429 : ∀ pc, ev_kb MM "LeftAnswers$Sentence" pc (.invokevirtual 54) 165 1 = true := kb_vi (by decide) me165 (by decide +kernel) gw706 gw342 gw340
set_option maxRecDepth 100000 in
theorem lk430 : ∀ pc, ev_kb MM "LeftAnswers$Sentence" pc (.getfield 117) 9 8 = true := kb_getf (by decide +kernel) gw707
set_option maxRecDepth 100000 in
theorem lk431 : ∀ pc, ev_kb MM "LeftAnswers$Sentence" pc (.invokevirtual 80) 160 1 = true := kb_vi (by decide) me160 (by decide +kernel) gw708 gw711 gw709
set_option maxRecDepth 100000 in
theorem lk432 : ∀ pc, ev_kb MM "LeftAnswers$Sentence" pc (.invokevirtual 120) 168 2 = true := kb_vi (by decide) me168 (by decide +kernel) gw712 gw365 gw363
set_option maxRecDepth 100000 in
theorem lk433 : ∀ pc, ev_kb MM "LeftAnswers$Sentence" pc (.getfield 124) 9 9 = true := kb_getf (by decide +kernel) gw713
set_option maxRecDepth 100000 in
theorem lk434 : ∀ pc, ev_kb MM "LeftAnswers$Sentence" pc (.invokestatic 84) 134 1 = true := kb_st (by decide) me134 gw714 gw716
set_option maxRecDepth 100000 in
theorem lk435 : ∀ pc, ev_kb MM "LeftAnswers$Sentence" pc (.invokevirtual 88) 167 1 = true := kb_vi (by decide) me167 (by decide +kernel) gw717 gw388 gw386
set_option maxRecDepth 100000 in
theorem lk436 : ∀ pc, ev_kb MM "LeftAnswers$Sentence" pc (.invokevirtual 100) 146 2 = true := kb_vi (by decide) me146 (by decide +kernel) gw718 gw721 gw719
set_option maxRecDepth 100000 in
theorem lk437 : ∀ pc, ev_kb MM "LeftAnswers$Sentence" pc (.invokevirtual 104) 144 2 = true := kb_vi (by decide) me144 (by decide +kernel) gw722 gw725 gw723
set_option maxRecDepth 100000 in
theorem lk438 : ∀ pc, ev_kb MM "LeftAnswers$Sentence" pc (.invokevirtual 108) 73 1 = true := kb_vi (by decide) me73 (by decide +kernel) gw726 gw338 gw336
set_option maxRecDepth 100000 in
theorem lk439 : ∀ pc, ev_kb MM "LeftAnswers$Sentence" pc (.getstatic 114) 27 0 = true := kb_gets (by decide) gw727
set_option maxRecDepth 100000 in
theorem lk440 : ∀ pc, ev_kb MM "LeftAnswers$Sentence" pc (.invokevirtual 127) 58 0 = true := kb_vi (by decide) me58 (by decide +kernel) gw728 gw430 gw428
set_option maxRecDepth 100000 in
theorem lk441 : ∀ pc, ev_kb MM "LeftAnswers$Sentence" pc (.getfield 28) 7 5 = true := kb_getf (by decide +kernel) gw655
set_option maxRecDepth 100000 in
theorem lk442 : ∀ pc, ev_kb MM "LeftAnswers$Sentence" pc (.getstatic 130) 22 0 = true := kb_gets (by decide) gw729
set_option maxRecDepth 100000 in
theorem lk443 : ∀ pc, ev_kb MM "LeftAnswers$Sentence" pc (.invokevirtual 133) 135 3 = true := kb_vi (by decide) me135 (by decide +kernel) gw730 gw733 gw731
set_option maxRecDepth 100000 in
theorem lk444 : ∀ pc, ev_kb MM "LeftAnswers$Slip" pc (.invokespecial 3) 999 0 = true := kb_obj gw734 gw1 gw2
set_option maxRecDepth 100000 in
theorem lk445 : ∀ pc, ev_kb MM "LeftAnswers$Slip" pc (.newarray .byte) 0 0 = true := kb_newa gw735
set_option maxRecDepth 100000 in
theorem lk446 : ∀ pc, ev_kb MM "LeftAnswers$Slip" pc (.putfield 11) 8 0 = true := kb_putf (by decide +kernel) gw736
set_option maxRecDepth 100000 in
theorem lk447 : ∀ pc, ev_kb MM "LeftAnswers$Slip" pc (.ldc2_w 76) 31 0 = true := kb_ldc2 gw737
set_option maxRecDepth 100000 in
theorem lk448 : ∀ pc, ev_kb MM "LeftAnswers$Slip" pc (.invokevirtual 73) 151 1 = true := kb_vi (by decide) me151 (by decide +kernel) gw738 gw741 gw739
set_option maxRecDepth 100000 in
theorem lk449 : ∀ pc, ev_kb MM "LeftAnswers$Slip" pc (.getfield 15) 8 1 = true := kb_getf (by decide +kernel) gw742
set_option maxRecDepth 100000 in
theorem lk450 : ∀ pc, ev_kb MM "LeftAnswers$Slip" pc (.getfield 11) 8 0 = true := kb_getf (by decide +kernel) gw736
set_option maxRecDepth 100000 in
theorem lk451 : ∀ pc, ev_kb MM "LeftAnswers$Slip" pc (.putfield 15) 8 1 = true := kb_putf (by decide +kernel) gw742
set_option maxRecDepth 100000 in
theorem lk452 : ∀ pc, ev_kb MM "LeftAnswers$Slip" pc (.invokevirtual 64) 905 0 = true := kb_len gw743
set_option maxRecDepth 100000 in
theorem lk453 : ∀ pc, ev_kb MM "LeftAnswers$Slip" pc (.invokevirtual 69) 906 1 = true := kb_cha gw744
set_option maxRecDepth 100000 in
theorem lk454 : ∀ pc, ev_kb MM "LeftAnswers$Slip" pc (.getfield 19) 1 7 = true := kb_getf (by decide +kernel) gw745
set_option maxRecDepth 100000 in
theorem lk455 : ∀ pc, ev_kb MM "LeftAnswers$Slip" pc (.invokevirtual 25) 149 1 = true := kb_vi (by decide) me149 (by decide +kernel) gw746 gw749 gw747
set_option maxRecDepth 100000 in
theorem lk456 : ∀ pc, ev_kb MM "LeftAnswers$Slip" pc (.ldc 29) 300 1 = true := kb_ldcs (by decide +kernel)
set_option maxRecDepth 100000 in
theorem lk457 : ∀ pc, ev_kb MM "LeftAnswers$Slip" pc (.invokevirtual 31) 152 1 = true := kb_vi (by decide) me152 (by decide +kernel) gw750 gw753 gw751
set_option maxRecDepth 100000 in
theorem lk458 : ∀ pc, ev_kb MM "LeftAnswers$Slip" pc (.getfield 35) 3 5 = true := kb_getf (by decide +kernel) gw754
set_option maxRecDepth 100000 in
theorem lk459 : ∀ pc, ev_kb MM "LeftAnswers$Slip" pc (.invokevirtual 41) 150 1 = true := kb_vi (by decide) me150 (by decide +kernel) gw755 gw758 gw756
set_option maxRecDepth 100000 in
theorem lk460 : ∀ pc, ev_kb MM "LeftAnswers$Slip" pc (.invokevirtual 45) 103 1 = true := kb_vi (by decide) me103 (by decide +kernel) gw759 gw585 gw583
set_option maxRecDepth 100000 in
theorem lk461 : ∀ pc, ev_kb MM "LeftAnswers$Slip" pc (.ldc 49) 301 1 = true := kb_ldcs (by decide +kernel)
set_option maxRecDepth 100000 in
theorem lk462 : ∀ pc, ev_kb MM "LeftAnswers$Slip" pc (.getfield 51) 3 7 = true := kb_getf (by decide +kernel) gw760
set_option maxRecDepth 100000 in
theorem lk463 : ∀ pc, ev_kb MM "LeftAnswers$Slip" pc (.invokevirtual 54) 102 1 = true := kb_vi (by decide) me102 (by decide +kernel) gw761 gw280 gw278
set_option maxRecDepth 100000 in
theorem lk464 : ∀ pc, ev_kb MM "LeftAnswers$Slip" pc (.ldc 57) 302 1 = true := kb_ldcs (by decide +kernel)
set_option maxRecDepth 100000 in
theorem lk465 : ∀ pc, ev_kb MM "LeftAnswers$Slip" pc (.getfield 59) 3 9 = true := kb_getf (by decide +kernel) gw762
set_option maxRecDepth 100000 in
theorem lk466 : ∀ pc, ev_kb MM "LeftAnswers$Slip" pc (.ldc 62) 303 1 = true := kb_ldcs (by decide +kernel)
set_option maxRecDepth 100000 in
theorem lk467 : ∀ pc, ev_kb MM "LeftAnswers$Tape" pc (.invokespecial 3) 999 0 = true := kb_obj gw763 gw1 gw2
set_option maxRecDepth 100000 in
theorem lk468 : ∀ pc, ev_kb MM "LeftAnswers$Tape" pc (.newarray .byte) 0 0 = true := kb_newa gw735
set_option maxRecDepth 100000 in
theorem lk469 : ∀ pc, ev_kb MM "LeftAnswers$Tape" pc (.putfield 11) 9 0 = true := kb_putf (by decide +kernel) gw764
set_option maxRecDepth 100000 in
theorem lk470 : ∀ pc, ev_kb MM "LeftAnswers$Tape" pc (.getstatic 15) 0 0 = true := kb_gets (by decide) gw765
set_option maxRecDepth 100000 in
theorem lk471 : ∀ pc, ev_kb MM "LeftAnswers$Tape" pc (.putfield 21) 9 6 = true := kb_putf (by decide +kernel) gw766
set_option maxRecDepth 100000 in
theorem lk472 : ∀ pc, ev_kb MM "LeftAnswers$Tape" pc (.putfield 46) 9 7 = true := kb_putf (by decide +kernel) gw767
set_option maxRecDepth 100000 in
theorem lk473 : ∀ pc, ev_kb MM "LeftAnswers$Tape" pc (.putfield 50) 9 8 = true := kb_putf (by decide +kernel) gw768
set_option maxRecDepth 100000 in
theorem lk474 : ∀ pc, ev_kb MM "LeftAnswers$Tape" pc (.getfield 31) 9 3 = true := kb_getf (by decide +kernel) gw769
set_option maxRecDepth 100000 in
theorem lk475 : ∀ pc, ev_kb MM "LeftAnswers$Tape" pc (.getfield 24) 9 1 = true := kb_getf (by decide +kernel) gw770
set_option maxRecDepth 100000 in
theorem lk476 : ∀ pc, ev_kb MM "LeftAnswers$Tape" pc (.invokevirtual 53) 166 1 = true := kb_vi (by decide) me166 (by decide +kernel) gw771 gw210 gw208
set_option maxRecDepth 100000 in
theorem lk477 : ∀ pc, ev_kb MM "LeftAnswers$Tape" pc (.invokestatic 57) 156 1 = true := kb_st (by decide) me156 gw772 gw774
set_option maxRecDepth 100000 in
theorem lk478 : ∀ pc, ev_kb MM "LeftAnswers$Tape" pc (.putfield 31) 9 3 = true := kb_putf (by decide +kernel) gw769
set_option maxRecDepth 100000 in
theorem lk479 : ∀ pc, ev_kb MM "LeftAnswers$Tape" pc (.putfield 61) 9 5 = true := kb_putf (by decide +kernel) gw775
set_option maxRecDepth 100000 in
theorem lk480 : ∀ pc, ev_kb MM "LeftAnswers$Tape" pc (.getfield 28) 9 2 = true := kb_getf (by decide +kernel) gw776
set_option maxRecDepth 100000 in
theorem lk481 : ∀ pc, ev_kb MM "LeftAnswers$Tape" pc (.putfield 64) 9 4 = true := kb_putf (by decide +kernel) gw777
set_option maxRecDepth 100000 in
theorem lk482 : ∀ pc, ev_kb MM "LeftAnswers$Tape" pc (.invokestatic 67) 158 1 = true := kb_st (by decide) me158 gw778 gw780
set_option maxRecDepth 100000 in
theorem lk483 : ∀ pc, ev_kb MM "LeftAnswers$Tape" pc (.invokestatic 70) 157 1 = true := kb_st (by decide) me157 gw781 gw783
set_option maxRecDepth 100000 in
theorem lk484 : ∀ pc, ev_kb MM "LeftAnswers$Tape" pc (.invokevirtual 73) 164 0 = true := kb_vi (by decide) me164 (by decide +kernel) gw784 gw787 gw785
set_option maxRecDepth 100000 in
theorem lk485 : ∀ pc, ev_kb MM "LeftAnswers$Tape" pc (.invokevirtual 76) 163 0 = true := kb_vi (by decide) me163 (by decide +kernel) gw788 gw791 gw789
set_option maxRecDepth 100000 in
theorem lk486 : ∀ pc, ev_kb MM "LeftAnswers$Tape" pc (.getfield 64) 9 4 = true := kb_getf (by decide +kernel) gw777
set_option maxRecDepth 100000 in
theorem lk487 : ∀ pc, ev_kb MM "LeftAnswers$Tape" pc (.getfield 50) 9 8 = true := kb_getf (by decide +kernel) gw768
set_option maxRecDepth 100000 in
theorem lk488 : ∀ pc, ev_kb MM "LeftAnswers$Tape" pc (.putfield 28) 9 2 = true := kb_putf (by decide +kernel) gw776
set_option maxRecDepth 100000 in
theorem lk489 : ∀ pc, ev_kb MM "LeftAnswers$Tape" pc (.putfield 34) 9 10 = true := kb_putf (by decide +kernel) gw792
set_option maxRecDepth 100000 in
theorem lk490 : ∀ pc, ev_kb MM "LeftAnswers$Tape" pc (.putfield 37) 9 11 = true := kb_putf (by decide +kernel) gw793
set_option maxRecDepth 100000 in
theorem lk491 : ∀ pc, ev_kb MM "LeftAnswers$Tape" pc (.putfield 40) 9 9 = true := kb_putf (by decide +kernel) gw794
set_option maxRecDepth 100000 in
theorem lk492 : ∀ pc, ev_kb MM "LeftAnswers$Tape" pc (.invokevirtual 43) 155 0 = true := kb_vi (by decide) me155 (by decide +kernel) gw795 gw346 gw344
set_option maxRecDepth 100000 in
theorem lk493 : ∀ pc, ev_kb MM "LeftAnswers$Tape" pc (.getfield 11) 9 0 = true := kb_getf (by decide +kernel) gw764
set_option maxRecDepth 100000 in
theorem lk494 : ∀ pc, ev_kb MM "LeftAnswers$Tape" pc (.putfield 24) 9 1 = true := kb_putf (by decide +kernel) gw770
set_option maxRecDepth 100000 in
theorem lk495 : ∀ pc, ev_kb MM "LeftAnswers$Tape" pc (.invokestatic 87) 159 1 = true := kb_st (by decide) me159 gw796 gw798
set_option maxRecDepth 100000 in
theorem lk496 : ∀ pc, ev_kb MM "LeftAnswers$Tape" pc (.getfield 46) 9 7 = true := kb_getf (by decide +kernel) gw767
set_option maxRecDepth 100000 in
theorem lk497 : ∀ pc, ev_kb MM "LeftAnswers$Tape" pc (.invokestatic 79) 170 2 = true := kb_st (by decide) me170 gw799 gw802
set_option maxRecDepth 100000 in
theorem lk498 : ∀ pc, ev_kb MM "LeftAnswers$Tape" pc (.invokestatic 83) 169 1 = true := kb_st (by decide) me169 gw803 gw805
set_option maxRecDepth 100000 in
theorem lk499 : ∀ pc, ev_kb MM "LeftAnswers$Tape" pc (.getfield 61) 9 5 = true := kb_getf (by decide +kernel) gw775
set_option maxRecDepth 100000 in
theorem lk500 : ∀ pc, ev_kb MM "LeftAnswers$Tape" pc (.invokevirtual 90) 160 1 = true := kb_vi (by decide) me160 (by decide +kernel) gw806 gw711 gw709
set_option maxRecDepth 100000 in
theorem lk501 : ∀ pc, ev_kb MM "LeftAnswers$Tape" pc (.invokevirtual 94) 165 1 = true := kb_vi (by decide) me165 (by decide +kernel) gw807 gw342 gw340
set_option maxRecDepth 100000 in
theorem lk502 : ∀ pc, ev_kb MM "LeftAnswers$Word" pc (.getstatic 141) 101 0 = true := kb_geta rfl gw808
set_option maxRecDepth 100000 in
theorem lk503 : ∀ pc, ev_kb MM "LeftAnswers$Word" pc (.getfield 123) 200 0 = true := kb_getl rfl gw809
set_option maxRecDepth 100000 in
theorem lk504 : ∀ pc, ev_kb MM "LeftAnswers$Word" pc (.getstatic 7) 1 0 = true := kb_gets (by decide) gw810
set_option maxRecDepth 100000 in
theorem lk505 : ∀ pc, ev_kb MM "LeftAnswersModel" pc (.invokespecial 93) 999 0 = true := kb_obj gw811 gw1 gw2
set_option maxRecDepth 100000 in
theorem lk506 : ∀ pc, ev_kb MM "LeftAnswersModel" pc (.newarray .int) 0 0 = true := kb_newa gw319
set_option maxRecDepth 100000 in
theorem lk507 : ∀ pc, ev_kb MM "LeftAnswersModel" pc (.putfield 7) 11 1 = true := kb_putf (by decide +kernel) gw812
set_option maxRecDepth 100000 in
theorem lk508 : ∀ pc, ev_kb MM "LeftAnswersModel" pc (.putfield 98) 11 14 = true := kb_putf (by decide +kernel) gw813
set_option maxRecDepth 100000 in
theorem lk509 : ∀ pc, ev_kb MM "LeftAnswersModel" pc (.putfield 101) 11 15 = true := kb_putf (by decide +kernel) gw814
set_option maxRecDepth 100000 in
theorem lk510 : ∀ pc, ev_kb MM "LeftAnswersModel" pc (.putfield 104) 11 16 = true := kb_putf (by decide +kernel) gw815
set_option maxRecDepth 100000 in
theorem lk511 : ∀ pc, ev_kb MM "LeftAnswersModel" pc (.putfield 107) 11 17 = true := kb_putf (by decide +kernel) gw816
set_option maxRecDepth 100000 in
theorem lk512 : ∀ pc, ev_kb MM "LeftAnswersModel" pc (.putfield 110) 11 18 = true := kb_putf (by decide +kernel) gw817
set_option maxRecDepth 100000 in
theorem lk513 : ∀ pc, ev_kb MM "LeftAnswersModel" pc (.newarray .long) 0 0 = true := kb_newa gw390
set_option maxRecDepth 100000 in
theorem lk514 : ∀ pc, ev_kb MM "LeftAnswersModel" pc (.putfield 113) 11 19 = true := kb_putf (by decide +kernel) gw818
set_option maxRecDepth 100000 in
theorem lk515 : ∀ pc, ev_kb MM "LeftAnswersModel" pc (.putfield 117) 11 20 = true := kb_putf (by decide +kernel) gw819
set_option maxRecDepth 100000 in
theorem lk516 : ∀ pc, ev_kb MM "LeftAnswersModel" pc (.putfield 120) 11 21 = true := kb_putf (by decide +kernel) gw820
set_option maxRecDepth 100000 in
theorem lk517 : ∀ pc, ev_kb MM "LeftAnswersModel" pc (.newarray .boolean) 0 0 = true := kb_newa gw821
set_option maxRecDepth 100000 in
theorem lk518 : ∀ pc, ev_kb MM "LeftAnswersModel" pc (.putfield 123) 11 22 = true := kb_putf (by decide +kernel) gw822
set_option maxRecDepth 100000 in
theorem lk519 : ∀ pc, ev_kb MM "LeftAnswersModel" pc (.putfield 127) 11 23 = true := kb_putf (by decide +kernel) gw823
set_option maxRecDepth 100000 in
theorem lk520 : ∀ pc, ev_kb MM "LeftAnswersModel" pc (.putfield 130) 11 25 = true := kb_putf (by decide +kernel) gw824
set_option maxRecDepth 100000 in
theorem lk521 : ∀ pc, ev_kb MM "LeftAnswersModel" pc (.putfield 133) 11 26 = true := kb_putf (by decide +kernel) gw825
set_option maxRecDepth 100000 in
theorem lk522 : ∀ pc, ev_kb MM "LeftAnswersModel" pc (.putfield 136) 11 27 = true := kb_putf (by decide +kernel) gw826
set_option maxRecDepth 100000 in
theorem lk523 : ∀ pc, ev_kb MM "LeftAnswersModel" pc (.putfield 139) 11 30 = true := kb_putf (by decide +kernel) gw827
set_option maxRecDepth 100000 in
theorem lk524 : ∀ pc, ev_kb MM "LeftAnswersModel" pc (.putfield 142) 11 31 = true := kb_putf (by decide +kernel) gw828
set_option maxRecDepth 100000 in
theorem lk525 : ∀ pc, ev_kb MM "LeftAnswersModel" pc (.putfield 145) 11 33 = true := kb_putf (by decide +kernel) gw829
set_option maxRecDepth 100000 in
theorem lk526 : ∀ pc, ev_kb MM "LeftAnswersModel" pc (.putfield 148) 11 34 = true := kb_putf (by decide +kernel) gw830
set_option maxRecDepth 100000 in
theorem lk527 : ∀ pc, ev_kb MM "LeftAnswersModel" pc (.putfield 151) 11 35 = true := kb_putf (by decide +kernel) gw831
set_option maxRecDepth 100000 in
theorem lk528 : ∀ pc, ev_kb MM "LeftAnswersModel" pc (.putfield 154) 11 36 = true := kb_putf (by decide +kernel) gw832
set_option maxRecDepth 100000 in
theorem lk529 : ∀ pc, ev_kb MM "LeftAnswersModel" pc (.putfield 157) 11 40 = true := kb_putf (by decide +kernel) gw833
set_option maxRecDepth 100000 in
theorem lk530 : ∀ pc, ev_kb MM "LeftAnswersModel" pc (.putfield 160) 11 43 = true := kb_putf (by decide +kernel) gw834
set_option maxRecDepth 100000 in
theorem lk531 : ∀ pc, ev_kb MM "LeftAnswersModel" pc (.putfield 163) 11 44 = true := kb_putf (by decide +kernel) gw835
set_option maxRecDepth 100000 in
theorem lk532 : ∀ pc, ev_kb MM "LeftAnswersModel" pc (.putfield 166) 11 47 = true := kb_putf (by decide +kernel) gw836
set_option maxRecDepth 100000 in
theorem lk533 : ∀ pc, ev_kb MM "LeftAnswersModel" pc (.getfield 98) 11 14 = true := kb_getf (by decide +kernel) gw813
set_option maxRecDepth 100000 in
theorem lk534 : ∀ pc, ev_kb MM "LeftAnswersModel" pc (.invokevirtual 169) 280 0 = true := kb_vi (by decide) me280 (by decide +kernel) gw837 gw841 gw838
set_option maxRecDepth 100000 in
theorem lk535 : ∀ pc, ev_kb MM "LeftAnswersModel" pc (.putfield 1) 11 0 = true := kb_putf (by decide +kernel) gw842
set_option maxRecDepth 100000 in
theorem lk536 : ∀ pc, ev_kb MM "LeftAnswersModel" pc (.invokevirtual 240) 223 1 = true := kb_vi (by decide) me223 (by decide +kernel) gw843 gw846 gw844
set_option maxRecDepth 100000 in
theorem lk537 : ∀ pc, ev_kb MM "LeftAnswersModel" pc (.invokevirtual 256) 214 1 = true := kb_vi (by decide) me214 (by decide +kernel) gw847 gw850 gw848
set_option maxRecDepth 100000 in
theorem lk538 : ∀ pc, ev_kb MM "LeftAnswersModel" pc (.invokevirtual 271) 292 3 = true := kb_vi (by decide) me292 (by decide +kernel) gw851 gw854 gw852
set_option maxRecDepth 100000 in
theorem lk539 : ∀ pc, ev_kb MM "LeftAnswersModel" pc (.invokevirtual 281) 291 4 = true := kb_vi (by decide) me291 (by decide +kernel) gw855 gw858 gw856
set_option maxRecDepth 100000 in
theorem lk540 : ∀ pc, ev_kb MM "LeftAnswersModel" pc (.invokevirtual 285) 278 0 = true := kb_vi (by decide) me278 (by decide +kernel) gw859 gw862 gw860
set_option maxRecDepth 100000 in
theorem lk541 : ∀ pc, ev_kb MM "LeftAnswersModel" pc (.invokevirtual 288) 232 4 = true := kb_vi (by decide) me232 (by decide +kernel) gw863 gw866 gw864
set_option maxRecDepth 100000 in
theorem lk542 : ∀ pc, ev_kb MM "LeftAnswersModel" pc (.getfield 30) 11 7 = true := kb_getf (by decide +kernel) gw867
set_option maxRecDepth 100000 in
theorem lk543 : ∀ pc, ev_kb MM "LeftAnswersModel" pc (.putfield 66) 11 10 = true := kb_putf (by decide +kernel) gw868
set_option maxRecDepth 100000 in
theorem lk544 : ∀ pc, ev_kb MM "LeftAnswersModel" pc (.getfield 24) 11 6 = true := kb_getf (by decide +kernel) gw869
set_option maxRecDepth 100000 in
theorem lk545 : ∀ pc, ev_kb MM "LeftAnswersModel" pc (.putfield 69) 11 11 = true := kb_putf (by decide +kernel) gw870
set_option maxRecDepth 100000 in
theorem lk546 : ∀ pc, ev_kb MM "LeftAnswersModel" pc (.invokevirtual 292) 173 5 = true := kb_vi (by decide) me173 (by decide +kernel) gw871 gw874 gw872
set_option maxRecDepth 100000 in
theorem lk547 : ∀ pc, ev_kb MM "LeftAnswersModel" pc (.invokevirtual 89) 283 0 = true := kb_vi (by decide) me283 (by decide +kernel) gw875 gw878 gw876
set_option maxRecDepth 100000 in
theorem lk548 : ∀ pc, ev_kb MM "LeftAnswersModel" pc (.putfield 18) 11 3 = true := kb_putf (by decide +kernel) gw879
set_option maxRecDepth 100000 in
theorem lk549 : ∀ pc, ev_kb MM "LeftAnswersModel" pc (.putfield 27) 11 4 = true := kb_putf (by decide +kernel) gw880
set_option maxRecDepth 100000 in
theorem lk550 : ∀ pc, ev_kb MM "LeftAnswersModel" pc (.putfield 21) 11 5 = true := kb_putf (by decide +kernel) gw881
set_option maxRecDepth 100000 in
theorem lk551 : ∀ pc, ev_kb MM "LeftAnswersModel" pc (.invokevirtual 82) 205 0 = true := kb_vi (by decide) me205 (by decide +kernel) gw882 gw885 gw883
set_option maxRecDepth 100000 in
theorem lk552 : ∀ pc, ev_kb MM "LeftAnswersModel" pc (.getfield 151) 11 35 = true := kb_getf (by decide +kernel) gw831
set_option maxRecDepth 100000 in
theorem lk553 : ∀ pc, ev_kb MM "LeftAnswersModel" pc (.putfield 331) 11 37 = true := kb_putf (by decide +kernel) gw886
set_option maxRecDepth 100000 in
theorem lk554 : ∀ pc, ev_kb MM "LeftAnswersModel" pc (.invokevirtual 334) 290 2 = true := kb_vi (by decide) me290 (by decide +kernel) gw887 gw890 gw888
set_option maxRecDepth 100000 in
theorem lk555 : ∀ pc, ev_kb MM "LeftAnswersModel" pc (.putfield 344) 11 38 = true := kb_putf (by decide +kernel) gw891
set_option maxRecDepth 100000 in
theorem lk556 : ∀ pc, ev_kb MM "LeftAnswersModel" pc (.putfield 347) 11 39 = true := kb_putf (by decide +kernel) gw892
set_option maxRecDepth 100000 in
theorem lk557 : ∀ pc, ev_kb MM "LeftAnswersModel" pc (.getfield 331) 11 37 = true := kb_getf (by decide +kernel) gw886
set_option maxRecDepth 100000 in
theorem lk558 : ∀ pc, ev_kb MM "LeftAnswersModel" pc (.getfield 347) 11 39 = true := kb_getf (by decide +kernel) gw892
set_option maxRecDepth 100000 in
theorem lk559 : ∀ pc, ev_kb MM "LeftAnswersModel" pc (.getfield 344) 11 38 = true := kb_getf (by decide +kernel) gw891
set_option maxRecDepth 100000 in
theorem lk560 : ∀ pc, ev_kb MM "LeftAnswersModel" pc (.invokestatic 75) 218 3 = true := kb_st (by decide) me218 gw893 gw895
set_option maxRecDepth 100000 in
theorem lk561 : ∀ pc, ev_kb MM "LeftAnswersModel" pc (.getfield 154) 11 36 = true := kb_getf (by decide +kernel) gw832
set_option maxRecDepth 100000 in
theorem lk562 : ∀ pc, ev_kb MM "LeftAnswersModel" pc (.invokevirtual 225) 176 1 = true := kb_vi (by decide) me176 (by decide +kernel) gw896 gw899 gw897
set_option maxRecDepth 100000 in
theorem lk563 : ∀ pc, ev_kb MM "LeftAnswersModel" pc (.putfield 398) 11 45 = true := kb_putf (by decide +kernel) gw900
set_option maxRecDepth 100000 in
theorem lk564 : ∀ pc, ev_kb MM "LeftAnswersModel" pc (.invokevirtual 404) 246 0 = true := kb_vi (by decide) me246 (by decide +kernel) gw901 gw904 gw902
set_option maxRecDepth 100000 in
theorem lk565 : ∀ pc, ev_kb MM "LeftAnswersModel" pc (.getfield 69) 11 11 = true := kb_getf (by decide +kernel) gw870
set_option maxRecDepth 100000 in
theorem lk566 : ∀ pc, ev_kb MM "LeftAnswersModel" pc (.getfield 398) 11 45 = true := kb_getf (by decide +kernel) gw900
set_option maxRecDepth 100000 in
theorem lk567 : ∀ pc, ev_kb MM "LeftAnswersModel" pc (.invokevirtual 383) 230 0 = true := kb_vi (by decide) me230 (by decide +kernel) gw905 gw908 gw906
set_option maxRecDepth 100000 in
theorem lk568 : ∀ pc, ev_kb MM "LeftAnswersModel" pc (.invokevirtual 407) 206 1 = true := kb_vi (by decide) me206 (by decide +kernel) gw909 gw912 gw910
set_option maxRecDepth 100000 in
theorem lk569 : ∀ pc, ev_kb MM "LeftAnswersModel" pc (.getfield 163) 11 44 = true := kb_getf (by decide +kernel) gw835
set_option maxRecDepth 100000 in
theorem lk570 : ∀ pc, ev_kb MM "LeftAnswersModel" pc (.invokevirtual 259) 228 0 = true := kb_vi (by decide) me228 (by decide +kernel) gw913 gw916 gw914
set_option maxRecDepth 100000 in
theorem lk571 : ∀ pc, ev_kb MM "LeftAnswersModel" pc (.putfield 410) 11 46 = true := kb_putf (by decide +kernel) gw917
set_option maxRecDepth 100000 in
theorem lk572 : ∀ pc, ev_kb MM "LeftAnswersModel" pc (.invokevirtual 413) 281 1 = true := kb_vi (by decide) me281 (by decide +kernel) gw918 gw921 gw919
set_option maxRecDepth 100000 in
theorem lk573 : ∀ pc, ev_kb MM "LeftAnswersModel" pc (.getfield 354) 11 41 = true := kb_getf (by decide +kernel) gw922
set_option maxRecDepth 100000 in
theorem lk574 : ∀ pc, ev_kb MM "LeftAnswersModel" pc (.getfield 157) 11 40 = true := kb_getf (by decide +kernel) gw833
set_option maxRecDepth 100000 in
theorem lk575 : ∀ pc, ev_kb MM "LeftAnswersModel" pc (.invokestatic 207) 209 2 = true := kb_st (by decide) me209 gw923 gw925
set_option maxRecDepth 100000 in
theorem lk576 : ∀ pc, ev_kb MM "LeftAnswersModel" pc (.invokevirtual 252) 276 2 = true := kb_vi (by decide) me276 (by decide +kernel) gw926 gw929 gw927
set_option maxRecDepth 100000 in
theorem lk577 : ∀ pc, ev_kb MM "LeftAnswersModel" pc (.invokevirtual 314) 183 3 = true := kb_vi (by decide) me183 (by decide +kernel) gw930 gw933 gw931
set_option maxRecDepth 100000 in
theorem lk578 : ∀ pc, ev_kb MM "LeftAnswersModel" pc (.getfield 7) 11 1 = true := kb_getf (by decide +kernel) gw812
set_option maxRecDepth 100000 in
theorem lk579 : ∀ pc, ev_kb MM "LeftAnswersModel" pc (.getfield 11) 11 2 = true := kb_getf (by decide +kernel) gw934
set_option maxRecDepth 100000 in
theorem lk580 : ∀ pc, ev_kb MM "LeftAnswersModel" pc (.putfield 11) 11 2 = true := kb_putf (by decide +kernel) gw934
set_option maxRecDepth 100000 in
theorem lk581 : ∀ pc, ev_kb MM "LeftAnswersModel" pc (.invokevirtual 299) 241 1 = true := kb_vi (by decide) me241 (by decide +kernel) gw935 gw938 gw936
set_option maxRecDepth 100000 in
theorem lk582 : ∀ pc, ev_kb MM "LeftAnswersModel" pc (.invokestatic 268) 180 1 = true := kb_st (by decide) me180 gw939 gw941
set_option maxRecDepth 100000 in
theorem lk583 : ∀ pc, ev_kb MM "LeftAnswersModel" pc (.invokestatic 275) 231 2 = true := kb_st (by decide) me231 gw942 gw944
set_option maxRecDepth 100000 in
theorem lk584 : ∀ pc, ev_kb MM "LeftAnswersModel" pc (.invokevirtual 249) 224 1 = true := kb_vi (by decide) me224 (by decide +kernel) gw945 gw948 gw946
set_option maxRecDepth 100000 in
theorem lk585 : ∀ pc, ev_kb MM "LeftAnswersModel" pc (.getfield 370) 11 42 = true := kb_getf (by decide +kernel) gw949
set_option maxRecDepth 100000 in
theorem lk586 : ∀ pc, ev_kb MM "LeftAnswersModel" pc (.ldc_w 373) 1103515245 0 = true := kb_ldcw gw950
set_option maxRecDepth 100000 in
theorem lk587 : ∀ pc, ev_kb MM "LeftAnswersModel" pc (.putfield 370) 11 42 = true := kb_putf (by decide +kernel) gw949
set_option maxRecDepth 100000 in
theorem lk588 : ∀ pc, ev_kb MM "LeftAnswersModel" pc (.invokevirtual 377) 194 1 = true := kb_vi (by decide) me194 (by decide +kernel) gw951 gw954 gw952
set_option maxRecDepth 100000 in
theorem lk589 : ∀ pc, ev_kb MM "LeftAnswersModel" pc (.invokevirtual 296) 236 0 = true := kb_vi (by decide) me236 (by decide +kernel) gw955 gw958 gw956
set_option maxRecDepth 100000 in
theorem lk590 : ∀ pc, ev_kb MM "LeftAnswersModel" pc (.invokevirtual 380) 192 2 = true := kb_vi (by decide) me192 (by decide +kernel) gw959 gw962 gw960
set_option maxRecDepth 100000 in
theorem lk591 : ∀ pc, ev_kb MM "LeftAnswersModel" pc (.invokevirtual 374) 191 1 = true := kb_vi (by decide) me191 (by decide +kernel) gw963 gw966 gw964
set_option maxRecDepth 100000 in
theorem lk592 : ∀ pc, ev_kb MM "LeftAnswersModel" pc (.invokevirtual 278) 189 3 = true := kb_vi (by decide) me189 (by decide +kernel) gw967 gw970 gw968
set_option maxRecDepth 100000 in
theorem lk593 : ∀ pc, ev_kb MM "LeftAnswersModel" pc (.invokevirtual 262) 226 1 = true := kb_vi (by decide) me226 (by decide +kernel) gw971 gw974 gw972
set_option maxRecDepth 100000 in
theorem lk594 : ∀ pc, ev_kb MM "LeftAnswersModel" pc (.getfield 101) 11 15 = true := kb_getf (by decide +kernel) gw814
set_option maxRecDepth 100000 in
theorem lk595 : ∀ pc, ev_kb MM "LeftAnswersModel" pc (.getfield 127) 11 23 = true := kb_getf (by decide +kernel) gw823
set_option maxRecDepth 100000 in
theorem lk596 : ∀ pc, ev_kb MM "LeftAnswersModel" pc (.invokevirtual 228) 256 0 = true := kb_vi (by decide) me256 (by decide +kernel) gw975 gw978 gw976
set_option maxRecDepth 100000 in
theorem lk597 : ∀ pc, ev_kb MM "LeftAnswersModel" pc (.invokevirtual 231) 251 0 = true := kb_vi (by decide) me251 (by decide +kernel) gw979 gw982 gw980
set_option maxRecDepth 100000 in
theorem lk598 : ∀ pc, ev_kb MM "LeftAnswersModel" pc (.getfield 113) 11 19 = true := kb_getf (by decide +kernel) gw818
set_option maxRecDepth 100000 in
theorem lk599 : ∀ pc, ev_kb MM "LeftAnswersModel" pc (.getfield 117) 11 20 = true := kb_getf (by decide +kernel) gw819
end
section
set_option maxRecDepth 100000 in
theorem lk600 : ∀ pc, ev_kb MM "LeftAnswersModel" pc (.putfield 234) 11 24 = true := kb_putf (by decide +kernel) gw983
set_option maxRecDepth 100000 in
theorem lk601 : ∀ pc, ev_kb MM "LeftAnswersModel" pc (.invokevirtual 351) 242 2 = true := kb_vi (by decide) me242 (by decide +kernel) gw984 gw987 gw985
set_option maxRecDepth 100000 in
theorem lk602 : ∀ pc, ev_kb MM "LeftAnswersModel" pc (.getfield 66) 11 10 = true := kb_getf (by decide +kernel) gw868
set_option maxRecDepth 100000 in
theorem lk603 : ∀ pc, ev_kb MM "LeftAnswersModel" pc (.invokevirtual 14) 185 1 = true := kb_vi (by decide) me185 (by decide +kernel) gw988 gw991 gw989
set_option maxRecDepth 100000 in
theorem lk604 : ∀ pc, ev_kb MM "LeftAnswersModel" pc (.getfield 322) 11 32 = true := kb_getf (by decide +kernel) gw992
set_option maxRecDepth 100000 in
theorem lk605 : ∀ pc, ev_kb MM "LeftAnswersModel" pc (.getfield 139) 11 30 = true := kb_getf (by decide +kernel) gw827
set_option maxRecDepth 100000 in
theorem lk606 : ∀ pc, ev_kb MM "LeftAnswersModel" pc (.invokevirtual 317) 184 2 = true := kb_vi (by decide) me184 (by decide +kernel) gw993 gw996 gw994
set_option maxRecDepth 100000 in
theorem lk607 : ∀ pc, ev_kb MM "LeftAnswersModel" pc (.getfield 142) 11 31 = true := kb_getf (by decide +kernel) gw828
set_option maxRecDepth 100000 in
theorem lk608 : ∀ pc, ev_kb MM "LeftAnswersModel" pc (.putfield 322) 11 32 = true := kb_putf (by decide +kernel) gw992
set_option maxRecDepth 100000 in
theorem lk609 : ∀ pc, ev_kb MM "LeftAnswersModel" pc (.invokevirtual 325) 235 2 = true := kb_vi (by decide) me235 (by decide +kernel) gw997 gw1000 gw998
set_option maxRecDepth 100000 in
theorem lk610 : ∀ pc, ev_kb MM "LeftAnswersModel" pc (.getfield 145) 11 33 = true := kb_getf (by decide +kernel) gw829
set_option maxRecDepth 100000 in
theorem lk611 : ∀ pc, ev_kb MM "LeftAnswersModel" pc (.getfield 21) 11 5 = true := kb_getf (by decide +kernel) gw881
set_option maxRecDepth 100000 in
theorem lk612 : ∀ pc, ev_kb MM "LeftAnswersModel" pc (.getfield 18) 11 3 = true := kb_getf (by decide +kernel) gw879
set_option maxRecDepth 100000 in
theorem lk613 : ∀ pc, ev_kb MM "LeftAnswersModel" pc (.putfield 24) 11 6 = true := kb_putf (by decide +kernel) gw869
set_option maxRecDepth 100000 in
theorem lk614 : ∀ pc, ev_kb MM "LeftAnswersModel" pc (.getfield 27) 11 4 = true := kb_getf (by decide +kernel) gw880
set_option maxRecDepth 100000 in
theorem lk615 : ∀ pc, ev_kb MM "LeftAnswersModel" pc (.putfield 30) 11 7 = true := kb_putf (by decide +kernel) gw867
set_option maxRecDepth 100000 in
theorem lk616 : ∀ pc, ev_kb MM "LeftAnswersModel" pc (.invokestatic 33) 220 1 = true := kb_st (by decide) me220 gw1001 gw1003
set_option maxRecDepth 100000 in
theorem lk617 : ∀ pc, ev_kb MM "LeftAnswersModel" pc (.invokestatic 37) 215 1 = true := kb_st (by decide) me215 gw1004 gw1006
set_option maxRecDepth 100000 in
theorem lk618 : ∀ pc, ev_kb MM "LeftAnswersModel" pc (.putfield 40) 11 9 = true := kb_putf (by decide +kernel) gw1007
set_option maxRecDepth 100000 in
theorem lk619 : ∀ pc, ev_kb MM "LeftAnswersModel" pc (.putfield 43) 11 12 = true := kb_putf (by decide +kernel) gw1008
set_option maxRecDepth 100000 in
theorem lk620 : ∀ pc, ev_kb MM "LeftAnswersModel" pc (.putfield 47) 11 8 = true := kb_putf (by decide +kernel) gw1009
set_option maxRecDepth 100000 in
theorem lk621 : ∀ pc, ev_kb MM "LeftAnswersModel" pc (.invokevirtual 50) 285 1 = true := kb_vi (by decide) me285 (by decide +kernel) gw1010 gw1013 gw1011
set_option maxRecDepth 100000 in
theorem lk622 : ∀ pc, ev_kb MM "LeftAnswersModel" pc (.ldc2_w 54) 27 0 = true := kb_ldc2 gw1014
set_option maxRecDepth 100000 in
theorem lk623 : ∀ pc, ev_kb MM "LeftAnswersModel" pc (.getfield 43) 11 12 = true := kb_getf (by decide +kernel) gw1008
set_option maxRecDepth 100000 in
theorem lk624 : ∀ pc, ev_kb MM "LeftAnswersModel" pc (.ldc2_w 56) 96 0 = true := kb_ldc2 gw1015
set_option maxRecDepth 100000 in
theorem lk625 : ∀ pc, ev_kb MM "LeftAnswersModel" pc (.getfield 47) 11 8 = true := kb_getf (by decide +kernel) gw1009
set_option maxRecDepth 100000 in
theorem lk626 : ∀ pc, ev_kb MM "LeftAnswersModel" pc (.getfield 160) 11 43 = true := kb_getf (by decide +kernel) gw834
set_option maxRecDepth 100000 in
theorem lk627 : ∀ pc, ev_kb MM "LeftAnswersModel" pc (.getfield 148) 11 34 = true := kb_getf (by decide +kernel) gw830
set_option maxRecDepth 100000 in
theorem lk628 : ∀ pc, ev_kb MM "LeftAnswersModel" pc (.invokestatic 328) 179 1 = true := kb_st (by decide) me179 gw1016 gw1018
set_option maxRecDepth 100000 in
theorem lk629 : ∀ pc, ev_kb MM "LeftAnswersModel" pc (.invokevirtual 453) 211 2 = true := kb_vi (by decide) me211 (by decide +kernel) gw1019 gw1022 gw1020
set_option maxRecDepth 100000 in
theorem lk630 : ∀ pc, ev_kb MM "LeftAnswersModel" pc (.invokevirtual 237) 219 1 = true := kb_vi (by decide) me219 (by decide +kernel) gw1023 gw1026 gw1024
set_option maxRecDepth 100000 in
theorem lk631 : ∀ pc, ev_kb MM "LeftAnswersModel" pc (.invokevirtual 246) 217 1 = true := kb_vi (by decide) me217 (by decide +kernel) gw1027 gw1030 gw1028
set_option maxRecDepth 100000 in
theorem lk632 : ∀ pc, ev_kb MM "LeftAnswersModel" pc (.getfield 104) 11 16 = true := kb_getf (by decide +kernel) gw815
set_option maxRecDepth 100000 in
theorem lk633 : ∀ pc, ev_kb MM "LeftAnswersModel" pc (.getfield 120) 11 21 = true := kb_getf (by decide +kernel) gw820
set_option maxRecDepth 100000 in
theorem lk634 : ∀ pc, ev_kb MM "LeftAnswersModel" pc (.getfield 123) 11 22 = true := kb_getf (by decide +kernel) gw822
set_option maxRecDepth 100000 in
theorem lk635 : ∀ pc, ev_kb MM "LeftAnswersModel" pc (.invokestatic 62) 293 1 = true := kb_st (by decide) me293 gw1031 gw1033
set_option maxRecDepth 100000 in
theorem lk636 : ∀ pc, ev_kb MM "LeftAnswersModel" pc (.invokevirtual 172) 221 0 = true := kb_vi (by decide) me221 (by decide +kernel) gw1034 gw1037 gw1035
set_option maxRecDepth 100000 in
theorem lk637 : ∀ pc, ev_kb MM "LeftAnswersModel" pc (.invokevirtual 72) 174 1 = true := kb_vi (by decide) me174 (by decide +kernel) gw1038 gw1041 gw1039
set_option maxRecDepth 100000 in
theorem lk638 : ∀ pc, ev_kb MM "LeftAnswersModel" pc (.invokestatic 176) 200 4 = true := kb_st (by decide) me200 gw1042 gw1044
set_option maxRecDepth 100000 in
theorem lk639 : ∀ pc, ev_kb MM "LeftAnswersModel" pc (.putfield 79) 11 13 = true := kb_putf (by decide +kernel) gw1045
set_option maxRecDepth 100000 in
theorem lk640 : ∀ pc, ev_kb MM "LeftAnswersModel" pc (.getfield 79) 11 13 = true := kb_getf (by decide +kernel) gw1045
set_option maxRecDepth 100000 in
theorem lk641 : ∀ pc, ev_kb MM "LeftAnswersModel" pc (.getfield 40) 11 9 = true := kb_getf (by decide +kernel) gw1007
set_option maxRecDepth 100000 in
theorem lk642 : ∀ pc, ev_kb MM "LeftAnswersModel" pc (.getfield 110) 11 18 = true := kb_getf (by decide +kernel) gw817
set_option maxRecDepth 100000 in
theorem lk643 : ∀ pc, ev_kb MM "LeftAnswersModel" pc (.invokevirtual 265) 282 2 = true := kb_vi (by decide) me282 (by decide +kernel) gw1046 gw1049 gw1047
set_option maxRecDepth 100000 in
theorem lk644 : ∀ pc, ev_kb MM "LeftAnswersModel" pc (.invokevirtual 386) 284 0 = true := kb_vi (by decide) me284 (by decide +kernel) gw1050 gw1053 gw1051
set_option maxRecDepth 100000 in
theorem lk645 : ∀ pc, ev_kb MM "LeftAnswersModel" pc (.invokestatic 320) 274 1 = true := kb_st (by decide) me274 gw1054 gw1056
set_option maxRecDepth 100000 in
theorem lk646 : ∀ pc, ev_kb MM "LeftAnswersModel" pc (.getfield 302) 11 28 = true := kb_getf (by decide +kernel) gw1057
set_option maxRecDepth 100000 in
theorem lk647 : ∀ pc, ev_kb MM "LeftAnswersModel" pc (.putfield 302) 11 28 = true := kb_putf (by decide +kernel) gw1057
set_option maxRecDepth 100000 in
theorem lk648 : ∀ pc, ev_kb MM "LeftAnswersModel" pc (.getfield 133) 11 26 = true := kb_getf (by decide +kernel) gw825
set_option maxRecDepth 100000 in
theorem lk649 : ∀ pc, ev_kb MM "LeftAnswersModel" pc (.getfield 130) 11 25 = true := kb_getf (by decide +kernel) gw824
set_option maxRecDepth 100000 in
theorem lk650 : ∀ pc, ev_kb MM "LeftAnswersModel" pc (.getfield 136) 11 27 = true := kb_getf (by decide +kernel) gw826
set_option maxRecDepth 100000 in
theorem lk651 : ∀ pc, ev_kb MM "LeftAnswersModel" pc (.invokevirtual 305) 213 3 = true := kb_vi (by decide) me213 (by decide +kernel) gw1058 gw1061 gw1059
set_option maxRecDepth 100000 in
theorem lk652 : ∀ pc, ev_kb MM "LeftAnswersModel" pc (.invokevirtual 308) 238 3 = true := kb_vi (by decide) me238 (by decide +kernel) gw1062 gw1065 gw1063
set_option maxRecDepth 100000 in
theorem lk653 : ∀ pc, ev_kb MM "LeftAnswersModel" pc (.putfield 311) 11 29 = true := kb_putf (by decide +kernel) gw1066
set_option maxRecDepth 100000 in
theorem lk654 : ∀ pc, ev_kb MM "LeftAnswersModel" pc (.getfield 311) 11 29 = true := kb_getf (by decide +kernel) gw1066
set_option maxRecDepth 100000 in
theorem lk655 : ∀ pc, ev_kb MM "LeftAnswersModel" pc (.invokevirtual 243) 268 0 = true := kb_vi (by decide) me268 (by decide +kernel) gw1067 gw1070 gw1068
set_option maxRecDepth 100000 in
theorem lk656 : ∀ pc, ev_kb MM "LeftAnswersModel" pc (.invokevirtual 429) 266 0 = true := kb_vi (by decide) me266 (by decide +kernel) gw1071 gw1074 gw1072
set_option maxRecDepth 100000 in
theorem lk657 : ∀ pc, ev_kb MM "LeftAnswersModel" pc (.getfield 423) 11 51 = true := kb_getf (by decide +kernel) gw1075
set_option maxRecDepth 100000 in
theorem lk658 : ∀ pc, ev_kb MM "LeftAnswersModel" pc (.invokevirtual 180) 227 1 = true := kb_vi (by decide) me227 (by decide +kernel) gw1076 gw1079 gw1077
set_option maxRecDepth 100000 in
theorem lk659 : ∀ pc, ev_kb MM "LeftAnswersModel" pc (.invokevirtual 426) 272 4 = true := kb_vi (by decide) me272 (by decide +kernel) gw1080 gw1083 gw1081
set_option maxRecDepth 100000 in
theorem lk660 : ∀ pc, ev_kb MM "LeftAnswersModel" pc (.putfield 423) 11 51 = true := kb_putf (by decide +kernel) gw1075
set_option maxRecDepth 100000 in
theorem lk661 : ∀ pc, ev_kb MM "LeftAnswersModel" pc (.invokevirtual 190) 260 2 = true := kb_vi (by decide) me260 (by decide +kernel) gw1084 gw1087 gw1085
set_option maxRecDepth 100000 in
theorem lk662 : ∀ pc, ev_kb MM "LeftAnswersModel" pc (.invokevirtual 392) 229 2 = true := kb_vi (by decide) me229 (by decide +kernel) gw1088 gw1091 gw1089
set_option maxRecDepth 100000 in
theorem lk663 : ∀ pc, ev_kb MM "LeftAnswersModel" pc (.invokevirtual 401) 250 1 = true := kb_vi (by decide) me250 (by decide +kernel) gw1092 gw1095 gw1093
set_option maxRecDepth 100000 in
theorem lk664 : ∀ pc, ev_kb MM "LeftAnswersModel" pc (.invokevirtual 450) 263 0 = true := kb_vi (by decide) me263 (by decide +kernel) gw1096 gw1099 gw1097
set_option maxRecDepth 100000 in
theorem lk665 : ∀ pc, ev_kb MM "LeftAnswersModel" pc (.invokevirtual 86) 225 1 = true := kb_vi (by decide) me225 (by decide +kernel) gw1100 gw1103 gw1101
set_option maxRecDepth 100000 in
theorem lk666 : ∀ pc, ev_kb MM "LeftAnswersModel" pc (.invokevirtual 183) 252 2 = true := kb_vi (by decide) me252 (by decide +kernel) gw1104 gw1107 gw1105
set_option maxRecDepth 100000 in
theorem lk667 : ∀ pc, ev_kb MM "LeftAnswersModel" pc (.invokevirtual 187) 258 1 = true := kb_vi (by decide) me258 (by decide +kernel) gw1108 gw1111 gw1109
set_option maxRecDepth 100000 in
theorem lk668 : ∀ pc, ev_kb MM "LeftAnswersModel" pc (.invokevirtual 193) 244 2 = true := kb_vi (by decide) me244 (by decide +kernel) gw1112 gw1115 gw1113
set_option maxRecDepth 100000 in
theorem lk669 : ∀ pc, ev_kb MM "LeftAnswersModel" pc (.invokevirtual 197) 253 3 = true := kb_vi (by decide) me253 (by decide +kernel) gw1116 gw1119 gw1117
set_option maxRecDepth 100000 in
theorem lk670 : ∀ pc, ev_kb MM "LeftAnswersModel" pc (.invokevirtual 389) 257 2 = true := kb_vi (by decide) me257 (by decide +kernel) gw1120 gw1123 gw1121
set_option maxRecDepth 100000 in
theorem lk671 : ∀ pc, ev_kb MM "LeftAnswersModel" pc (.invokevirtual 395) 255 0 = true := kb_vi (by decide) me255 (by decide +kernel) gw1124 gw1127 gw1125
set_option maxRecDepth 100000 in
theorem lk672 : ∀ pc, ev_kb MM "LeftAnswersModel" pc (.invokevirtual 204) 264 0 = true := kb_vi (by decide) me264 (by decide +kernel) gw1128 gw1131 gw1129
set_option maxRecDepth 100000 in
theorem lk673 : ∀ pc, ev_kb MM "LeftAnswersModel" pc (.invokevirtual 210) 265 0 = true := kb_vi (by decide) me265 (by decide +kernel) gw1132 gw1135 gw1133
set_option maxRecDepth 100000 in
theorem lk674 : ∀ pc, ev_kb MM "LeftAnswersModel" pc (.invokevirtual 213) 249 0 = true := kb_vi (by decide) me249 (by decide +kernel) gw1136 gw1139 gw1137
set_option maxRecDepth 100000 in
theorem lk675 : ∀ pc, ev_kb MM "LeftAnswersModel" pc (.invokevirtual 216) 267 0 = true := kb_vi (by decide) me267 (by decide +kernel) gw1140 gw1143 gw1141
set_option maxRecDepth 100000 in
theorem lk676 : ∀ pc, ev_kb MM "LeftAnswersModel" pc (.invokevirtual 219) 254 0 = true := kb_vi (by decide) me254 (by decide +kernel) gw1144 gw1147 gw1145
set_option maxRecDepth 100000 in
theorem lk677 : ∀ pc, ev_kb MM "LeftAnswersModel" pc (.invokevirtual 222) 262 1 = true := kb_vi (by decide) me262 (by decide +kernel) gw1148 gw1151 gw1149
set_option maxRecDepth 100000 in
theorem lk678 : ∀ pc, ev_kb MM "LeftAnswersModel" pc (.invokevirtual 420) 245 0 = true := kb_vi (by decide) me245 (by decide +kernel) gw1152 gw1155 gw1153
set_option maxRecDepth 100000 in
theorem lk679 : ∀ pc, ev_kb MM "LeftAnswersModel" pc (.invokevirtual 201) 222 0 = true := kb_vi (by decide) me222 (by decide +kernel) gw1156 gw1159 gw1157
set_option maxRecDepth 100000 in
theorem lk680 : ∀ pc, ev_kb MM "LeftAnswersModel" pc (.getfield 432) 11 49 = true := kb_getf (by decide +kernel) gw1160
set_option maxRecDepth 100000 in
theorem lk681 : ∀ pc, ev_kb MM "LeftAnswersModel" pc (.getfield 435) 11 50 = true := kb_getf (by decide +kernel) gw1161
set_option maxRecDepth 100000 in
theorem lk682 : ∀ pc, ev_kb MM "LeftAnswersModel" pc (.putfield 432) 11 49 = true := kb_putf (by decide +kernel) gw1160
set_option maxRecDepth 100000 in
theorem lk683 : ∀ pc, ev_kb MM "LeftAnswersModel" pc (.putfield 435) 11 50 = true := kb_putf (by decide +kernel) gw1161
set_option maxRecDepth 100000 in
theorem lk684 : ∀ pc, ev_kb MM "LeftAnswersModel" pc (.invokevirtual 438) 247 0 = true := kb_vi (by decide) me247 (by decide +kernel) gw1162 gw1165 gw1163
set_option maxRecDepth 100000 in
theorem lk685 : ∀ pc, ev_kb MM "LeftAnswersModel" pc (.invokevirtual 441) 259 0 = true := kb_vi (by decide) me259 (by decide +kernel) gw1166 gw1169 gw1167
set_option maxRecDepth 100000 in
theorem lk686 : ∀ pc, ev_kb MM "LeftAnswersModel" pc (.invokevirtual 444) 261 1 = true := kb_vi (by decide) me261 (by decide +kernel) gw1170 gw1173 gw1171
set_option maxRecDepth 100000 in
theorem lk687 : ∀ pc, ev_kb MM "LeftAnswersModel" pc (.invokevirtual 447) 248 1 = true := kb_vi (by decide) me248 (by decide +kernel) gw1174 gw1177 gw1175
set_option maxRecDepth 100000 in
theorem lk688 : ∀ pc, ev_kb MM "LeftAnswersModel" pc (.getfield 417) 11 48 = true := kb_getf (by decide +kernel) gw1178
set_option maxRecDepth 100000 in
theorem lk689 : ∀ pc, ev_kb MM "LeftAnswersModel" pc (.getfield 166) 11 47 = true := kb_getf (by decide +kernel) gw836
set_option maxRecDepth 100000 in
theorem lk690 : ∀ pc, ev_kb MM "LeftAnswersModel" pc (.putfield 417) 11 48 = true := kb_putf (by decide +kernel) gw1178
set_option maxRecDepth 100000 in
theorem lk691 : ∀ pc, ev_kb MM "LeftAnswersModel" pc (.putfield 354) 11 41 = true := kb_putf (by decide +kernel) gw922
set_option maxRecDepth 100000 in
theorem lk692 : ∀ pc, ev_kb MM "LeftAnswersModel" pc (.invokevirtual 357) 297 1 = true := kb_vi (by decide) me297 (by decide +kernel) gw1179 gw1182 gw1180
set_option maxRecDepth 100000 in
theorem lk693 : ∀ pc, ev_kb MM "LeftAnswersModel" pc (.invokevirtual 367) 295 1 = true := kb_vi (by decide) me295 (by decide +kernel) gw1183 gw1186 gw1184
set_option maxRecDepth 100000 in
theorem lk694 : ∀ pc, ev_kb MM "LeftAnswersModel" pc (.invokevirtual 361) 294 1 = true := kb_vi (by decide) me294 (by decide +kernel) gw1187 gw1190 gw1188
set_option maxRecDepth 100000 in
theorem lk695 : ∀ pc, ev_kb MM "LeftAnswersModel" pc (.invokevirtual 364) 296 1 = true := kb_vi (by decide) me296 (by decide +kernel) gw1191 gw1194 gw1192
set_option maxRecDepth 100000 in
theorem lk696 : ∀ pc, ev_kb MM "LeftAnswersModel" pc (.invokestatic 58) 279 6 = true := kb_st (by decide) me279 gw1195 gw1197
set_option maxRecDepth 100000 in
theorem lk697 : ∀ pc, ev_kb MM "LeftAnswersModel" pc (.getfield 234) 11 24 = true := kb_getf (by decide +kernel) gw983
set_option maxRecDepth 100000 in
theorem lk698 : ∀ pc, ev_kb MM "LeftAnswersModel" pc (.getfield 107) 11 17 = true := kb_getf (by decide +kernel) gw816
set_option maxRecDepth 100000 in
theorem lk699 : ∀ pc, ev_kb MM "LeftAnswersModel" pc (.getfield 410) 11 46 = true := kb_getf (by decide +kernel) gw917
set_option maxRecDepth 100000 in
theorem lk700 : ∀ pc, ev_kb MM "LeftAnswersModel" pc (.invokevirtual 338) 216 1 = true := kb_vi (by decide) me216 (by decide +kernel) gw1198 gw1201 gw1199
set_option maxRecDepth 100000 in
theorem lk701 : ∀ pc, ev_kb MM "LeftAnswersModel" pc (.invokevirtual 341) 203 2 = true := kb_vi (by decide) me203 (by decide +kernel) gw1202 gw1205 gw1203
set_option maxRecDepth 100000 in
theorem lk702 : ∀ pc, ev_kb MM "java/lang/Integer" pc (.ldc_w 265) 1431655765 0 = true := kb_ldcw gw1206
set_option maxRecDepth 100000 in
theorem lk703 : ∀ pc, ev_kb MM "java/lang/Integer" pc (.ldc_w 266) 858993459 0 = true := kb_ldcw gw1207
set_option maxRecDepth 100000 in
theorem lk704 : ∀ pc, ev_kb MM "java/lang/Integer" pc (.ldc_w 267) 252645135 0 = true := kb_ldcw gw1208
set_option maxRecDepth 100000 in
theorem lk705 : ∀ pc, ev_kb MM "LeftAnswersLaw" pc (.new 8) 10 0 = true := kb_new (by decide) gw1209 gw1210 gw83
set_option maxRecDepth 100000 in
theorem lk706 : ∀ pc, ev_kb MM "LeftAnswersLaw" pc (.invokespecial 15) 0 0 = true := kb_sp (by decide) me0 (by decide +kernel) gw1211 gw1213
set_option maxRecDepth 100000 in
theorem lk707 : ∀ pc, ev_kb MM "LeftAnswersLaw" pc (.new 16) 11 0 = true := kb_new (by decide) gw1214 gw1215 gw840
set_option maxRecDepth 100000 in
theorem lk708 : ∀ pc, ev_kb MM "LeftAnswersLaw" pc (.invokespecial 18) 171 0 = true := kb_sp (by decide) me171 (by decide +kernel) gw1216 gw1218
set_option maxRecDepth 100000 in
theorem lk709 : ∀ pc, ev_kb MM "LeftAnswersLaw" pc (.newarray .long) 0 0 = true := kb_newa gw390
set_option maxRecDepth 100000 in
theorem lk710 : ∀ pc, ev_kb MM "LeftAnswersLaw" pc (.invokevirtual 19) 18 5 = true := kb_vi (by decide) me18 (by decide +kernel) gw1219 gw1222 gw1220
set_option maxRecDepth 100000 in
theorem lk711 : ∀ pc, ev_kb MM "LeftAnswersLaw" pc (.invokevirtual 23) 199 5 = true := kb_vi (by decide) me199 (by decide +kernel) gw1223 gw1226 gw1224
set_option maxRecDepth 100000 in
theorem lk712 : ∀ pc, ev_kb MM "LeftAnswersLaw" pc (.invokevirtual 24) 16 1 = true := kb_vi (by decide) me16 (by decide +kernel) gw1227 gw1230 gw1228
set_option maxRecDepth 100000 in
theorem lk713 : ∀ pc, ev_kb MM "LeftAnswersLaw" pc (.invokevirtual 28) 197 1 = true := kb_vi (by decide) me197 (by decide +kernel) gw1231 gw1234 gw1232
set_option maxRecDepth 100000 in
theorem lk714 : ∀ pc, ev_kb MM "LeftAnswersLaw" pc (.invokevirtual 29) 14 0 = true := kb_vi (by decide) me14 (by decide +kernel) gw1235 gw1238 gw1236
set_option maxRecDepth 100000 in
theorem lk715 : ∀ pc, ev_kb MM "LeftAnswersLaw" pc (.invokevirtual 33) 195 0 = true := kb_vi (by decide) me195 (by decide +kernel) gw1239 gw1242 gw1240
set_option maxRecDepth 100000 in
theorem lk716 : ∀ pc, ev_kb MM "LeftAnswersLaw" pc (.invokevirtual 34) 17 0 = true := kb_vi (by decide) me17 (by decide +kernel) gw1243 gw1246 gw1244
set_option maxRecDepth 100000 in
theorem lk717 : ∀ pc, ev_kb MM "LeftAnswersLaw" pc (.invokevirtual 37) 198 0 = true := kb_vi (by decide) me198 (by decide +kernel) gw1247 gw1250 gw1248
set_option maxRecDepth 100000 in
theorem lk718 : ∀ pc, ev_kb MM "LeftAnswersLaw" pc (.invokevirtual 43) 243 2 = true := kb_vi (by decide) me243 (by decide +kernel) gw1251 gw1254 gw1252
set_option maxRecDepth 100000 in
theorem lk719 : ∀ pc, ev_kb MM "LeftAnswersLaw" pc (.invokevirtual 44) 39 2 = true := kb_vi (by decide) me39 (by decide +kernel) gw1255 gw1258 gw1256
set_option maxRecDepth 100000 in
theorem lk720 : ∀ pc, ev_kb MM "LeftAnswersLaw" pc (.invokevirtual 47) 275 2 = true := kb_vi (by decide) me275 (by decide +kernel) gw1259 gw1262 gw1260
set_option maxRecDepth 100000 in
theorem lk721 : ∀ pc, ev_kb MM "LeftAnswersLaw" pc (.invokevirtual 48) 11 2 = true := kb_vi (by decide) me11 (by decide +kernel) gw1263 gw1266 gw1264
set_option maxRecDepth 100000 in
theorem lk722 : ∀ pc, ev_kb MM "LeftAnswersLaw" pc (.invokevirtual 51) 188 2 = true := kb_vi (by decide) me188 (by decide +kernel) gw1267 gw1270 gw1268
set_option maxRecDepth 100000 in
theorem lk723 : ∀ pc, ev_kb MM "LeftAnswersLaw" pc (.invokevirtual 52) 29 1 = true := kb_vi (by decide) me29 (by decide +kernel) gw1271 gw1274 gw1272
set_option maxRecDepth 100000 in
theorem lk724 : ∀ pc, ev_kb MM "LeftAnswersLaw" pc (.invokevirtual 56) 233 1 = true := kb_vi (by decide) me233 (by decide +kernel) gw1275 gw1278 gw1276
set_option maxRecDepth 100000 in
theorem lk725 : ∀ pc, ev_kb MM "LeftAnswersLaw" pc (.invokevirtual 57) 12 3 = true := kb_vi (by decide) me12 (by decide +kernel) gw1279 gw1282 gw1280
set_option maxRecDepth 100000 in
theorem lk726 : ∀ pc, ev_kb MM "LeftAnswersLaw" pc (.invokevirtual 61) 190 3 = true := kb_vi (by decide) me190 (by decide +kernel) gw1283 gw1286 gw1284
set_option maxRecDepth 100000 in
theorem lk727 : ∀ pc, ev_kb MM "LeftAnswersLaw" pc (.invokevirtual 62) 47 2 = true := kb_vi (by decide) me47 (by decide +kernel) gw1287 gw1290 gw1288
set_option maxRecDepth 100000 in
theorem lk728 : ∀ pc, ev_kb MM "LeftAnswersLaw" pc (.invokevirtual 65) 289 2 = true := kb_vi (by decide) me289 (by decide +kernel) gw1291 gw1294 gw1292
set_option maxRecDepth 100000 in
theorem lk729 : ∀ pc, ev_kb MM "LeftAnswersLaw" pc (.invokevirtual 66) 31 1 = true := kb_vi (by decide) me31 (by decide +kernel) gw1295 gw1298 gw1296
set_option maxRecDepth 100000 in
theorem lk730 : ∀ pc, ev_kb MM "LeftAnswersLaw" pc (.invokevirtual 69) 237 1 = true := kb_vi (by decide) me237 (by decide +kernel) gw1299 gw1302 gw1300
set_option maxRecDepth 100000 in
theorem lk731 : ∀ pc, ev_kb MM "LeftAnswersLaw" pc (.invokevirtual 70) 21 1 = true := kb_vi (by decide) me21 (by decide +kernel) gw1303 gw1306 gw1304
set_option maxRecDepth 100000 in
theorem lk732 : ∀ pc, ev_kb MM "LeftAnswersLaw" pc (.invokevirtual 73) 204 1 = true := kb_vi (by decide) me204 (by decide +kernel) gw1307 gw1310 gw1308
set_option maxRecDepth 100000 in
theorem lk733 : ∀ pc, ev_kb MM "LeftAnswersLaw" pc (.invokevirtual 74) 3 1 = true := kb_vi (by decide) me3 (by decide +kernel) gw1311 gw1314 gw1312
set_option maxRecDepth 100000 in
theorem lk734 : ∀ pc, ev_kb MM "LeftAnswersLaw" pc (.invokevirtual 77) 175 1 = true := kb_vi (by decide) me175 (by decide +kernel) gw1315 gw1318 gw1316
set_option maxRecDepth 100000 in
theorem lk735 : ∀ pc, ev_kb MM "LeftAnswersLaw" pc (.invokevirtual 78) 10 1 = true := kb_vi (by decide) me10 (by decide +kernel) gw1319 gw1322 gw1320
set_option maxRecDepth 100000 in
theorem lk736 : ∀ pc, ev_kb MM "LeftAnswersLaw" pc (.invokevirtual 81) 187 1 = true := kb_vi (by decide) me187 (by decide +kernel) gw1323 gw1326 gw1324
set_option maxRecDepth 100000 in
theorem lk737 : ∀ pc, ev_kb MM "LeftAnswersLaw" pc (.invokevirtual 82) 46 0 = true := kb_vi (by decide) me46 (by decide +kernel) gw1327 gw1330 gw1328
set_option maxRecDepth 100000 in
theorem lk738 : ∀ pc, ev_kb MM "LeftAnswersLaw" pc (.invokevirtual 85) 288 0 = true := kb_vi (by decide) me288 (by decide +kernel) gw1331 gw1334 gw1332
set_option maxRecDepth 100000 in
theorem lk739 : ∀ pc, ev_kb MM "LeftAnswersLaw" pc (.invokevirtual 86) 1 2 = true := kb_vi (by decide) me1 (by decide +kernel) gw1335 gw1338 gw1336
set_option maxRecDepth 100000 in
theorem lk740 : ∀ pc, ev_kb MM "LeftAnswersLaw" pc (.invokevirtual 89) 172 2 = true := kb_vi (by decide) me172 (by decide +kernel) gw1339 gw1342 gw1340
set_option maxRecDepth 100000 in
theorem lk741 : ∀ pc, ev_kb MM "LeftAnswersLaw" pc (.invokevirtual 90) 32 0 = true := kb_vi (by decide) me32 (by decide +kernel) gw1343 gw1346 gw1344
set_option maxRecDepth 100000 in
theorem lk742 : ∀ pc, ev_kb MM "LeftAnswersLaw" pc (.invokevirtual 93) 239 0 = true := kb_vi (by decide) me239 (by decide +kernel) gw1347 gw1350 gw1348
set_option maxRecDepth 100000 in
theorem lk743 : ∀ pc, ev_kb MM "LeftAnswersLaw" pc (.invokevirtual 94) 33 2 = true := kb_vi (by decide) me33 (by decide +kernel) gw1351 gw1354 gw1352
set_option maxRecDepth 100000 in
theorem lk744 : ∀ pc, ev_kb MM "LeftAnswersLaw" pc (.invokevirtual 97) 240 2 = true := kb_vi (by decide) me240 (by decide +kernel) gw1355 gw1358 gw1356
set_option maxRecDepth 100000 in
theorem lk745 : ∀ pc, ev_kb MM "LeftAnswersLaw" pc (.invokevirtual 98) 20 0 = true := kb_vi (by decide) me20 (by decide +kernel) gw1359 gw1362 gw1360
set_option maxRecDepth 100000 in
theorem lk746 : ∀ pc, ev_kb MM "LeftAnswersLaw" pc (.invokevirtual 101) 202 0 = true := kb_vi (by decide) me202 (by decide +kernel) gw1363 gw1366 gw1364
set_option maxRecDepth 100000 in
theorem lk747 : ∀ pc, ev_kb MM "LeftAnswersLaw" pc (.invokevirtual 102) 19 1 = true := kb_vi (by decide) me19 (by decide +kernel) gw1367 gw1370 gw1368
set_option maxRecDepth 100000 in
theorem lk748 : ∀ pc, ev_kb MM "LeftAnswersLaw" pc (.invokevirtual 105) 201 1 = true := kb_vi (by decide) me201 (by decide +kernel) gw1371 gw1374 gw1372
set_option maxRecDepth 100000 in
theorem lk749 : ∀ pc, ev_kb MM "LeftAnswersLaw" pc (.invokevirtual 106) 44 0 = true := kb_vi (by decide) me44 (by decide +kernel) gw1375 gw1378 gw1376
set_option maxRecDepth 100000 in
theorem lk750 : ∀ pc, ev_kb MM "LeftAnswersLaw" pc (.invokevirtual 109) 286 0 = true := kb_vi (by decide) me286 (by decide +kernel) gw1379 gw1382 gw1380
set_option maxRecDepth 100000 in
theorem lk751 : ∀ pc, ev_kb MM "LeftAnswersLaw" pc (.invokevirtual 110) 24 2 = true := kb_vi (by decide) me24 (by decide +kernel) gw1383 gw1386 gw1384
set_option maxRecDepth 100000 in
theorem lk752 : ∀ pc, ev_kb MM "LeftAnswersLaw" pc (.invokevirtual 113) 210 2 = true := kb_vi (by decide) me210 (by decide +kernel) gw1387 gw1390 gw1388
set_option maxRecDepth 100000 in
theorem lk753 : ∀ pc, ev_kb MM "LeftAnswersLaw" pc (.invokevirtual 114) 23 0 = true := kb_vi (by decide) me23 (by decide +kernel) gw1391 gw1394 gw1392
set_option maxRecDepth 100000 in
theorem lk754 : ∀ pc, ev_kb MM "LeftAnswersLaw" pc (.invokevirtual 117) 208 0 = true := kb_vi (by decide) me208 (by decide +kernel) gw1395 gw1398 gw1396
set_option maxRecDepth 100000 in
theorem lk755 : ∀ pc, ev_kb MM "LeftAnswersLaw" pc (.invokevirtual 118) 22 0 = true := kb_vi (by decide) me22 (by decide +kernel) gw1399 gw1402 gw1400
set_option maxRecDepth 100000 in
theorem lk756 : ∀ pc, ev_kb MM "LeftAnswersLaw" pc (.invokevirtual 121) 207 0 = true := kb_vi (by decide) me207 (by decide +kernel) gw1403 gw1406 gw1404
set_option maxRecDepth 100000 in
theorem lk757 : ∀ pc, ev_kb MM "LeftAnswersLaw" pc (.invokevirtual 122) 4 0 = true := kb_vi (by decide) me4 (by decide +kernel) gw1407 gw1410 gw1408
set_option maxRecDepth 100000 in
theorem lk758 : ∀ pc, ev_kb MM "LeftAnswersLaw" pc (.invokevirtual 125) 177 0 = true := kb_vi (by decide) me177 (by decide +kernel) gw1411 gw1414 gw1412
set_option maxRecDepth 100000 in
theorem lk759 : ∀ pc, ev_kb MM "LeftAnswersLaw" pc (.invokevirtual 126) 5 1 = true := kb_vi (by decide) me5 (by decide +kernel) gw1415 gw1418 gw1416
set_option maxRecDepth 100000 in
theorem lk760 : ∀ pc, ev_kb MM "LeftAnswersLaw" pc (.invokevirtual 129) 178 1 = true := kb_vi (by decide) me178 (by decide +kernel) gw1419 gw1422 gw1420
set_option maxRecDepth 100000 in
theorem lk761 : ∀ pc, ev_kb MM "LeftAnswersLaw" pc (.invokevirtual 130) 15 1 = true := kb_vi (by decide) me15 (by decide +kernel) gw1423 gw1426 gw1424
set_option maxRecDepth 100000 in
theorem lk762 : ∀ pc, ev_kb MM "LeftAnswersLaw" pc (.invokevirtual 133) 196 1 = true := kb_vi (by decide) me196 (by decide +kernel) gw1427 gw1430 gw1428
set_option maxRecDepth 100000 in
theorem lk763 : ∀ pc, ev_kb MM "LeftAnswersLaw" pc (.invokevirtual 134) 36 0 = true := kb_vi (by decide) me36 (by decide +kernel) gw1431 gw1434 gw1432
set_option maxRecDepth 100000 in
theorem lk764 : ∀ pc, ev_kb MM "LeftAnswersLaw" pc (.invokevirtual 137) 270 0 = true := kb_vi (by decide) me270 (by decide +kernel) gw1435 gw1438 gw1436
set_option maxRecDepth 100000 in
theorem lk765 : ∀ pc, ev_kb MM "LeftAnswersLaw" pc (.invokevirtual 138) 40 1 = true := kb_vi (by decide) me40 (by decide +kernel) gw1439 gw1442 gw1440
set_option maxRecDepth 100000 in
theorem lk766 : ∀ pc, ev_kb MM "LeftAnswersLaw" pc (.invokevirtual 141) 277 1 = true := kb_vi (by decide) me277 (by decide +kernel) gw1443 gw1446 gw1444
set_option maxRecDepth 100000 in
theorem lk767 : ∀ pc, ev_kb MM "LeftAnswersLaw" pc (.invokevirtual 142) 8 1 = true := kb_vi (by decide) me8 (by decide +kernel) gw1447 gw1450 gw1448
set_option maxRecDepth 100000 in
theorem lk768 : ∀ pc, ev_kb MM "LeftAnswersLaw" pc (.invokevirtual 145) 182 1 = true := kb_vi (by decide) me182 (by decide +kernel) gw1451 gw1454 gw1452
set_option maxRecDepth 100000 in
theorem lk769 : ∀ pc, ev_kb MM "LeftAnswersLaw" pc (.invokevirtual 146) 13 2 = true := kb_vi (by decide) me13 (by decide +kernel) gw1455 gw1458 gw1456
set_option maxRecDepth 100000 in
theorem lk770 : ∀ pc, ev_kb MM "LeftAnswersLaw" pc (.invokevirtual 149) 193 2 = true := kb_vi (by decide) me193 (by decide +kernel) gw1459 gw1462 gw1460
set_option maxRecDepth 100000 in
theorem lk771 : ∀ pc, ev_kb MM "LeftAnswersLaw" pc (.invokevirtual 150) 30 3 = true := kb_vi (by decide) me30 (by decide +kernel) gw1463 gw1466 gw1464
set_option maxRecDepth 100000 in
theorem lk772 : ∀ pc, ev_kb MM "LeftAnswersLaw" pc (.invokevirtual 153) 234 3 = true := kb_vi (by decide) me234 (by decide +kernel) gw1467 gw1470 gw1468
set_option maxRecDepth 100000 in
theorem lk773 : ∀ pc, ev_kb MM "LeftAnswersLaw" pc (.invokevirtual 154) 7 1 = true := kb_vi (by decide) me7 (by decide +kernel) gw1471 gw1474 gw1472
set_option maxRecDepth 100000 in
theorem lk774 : ∀ pc, ev_kb MM "LeftAnswersLaw" pc (.invokevirtual 157) 181 1 = true := kb_vi (by decide) me181 (by decide +kernel) gw1475 gw1478 gw1476
set_option maxRecDepth 100000 in
theorem lk775 : ∀ pc, ev_kb MM "LeftAnswersLaw" pc (.invokevirtual 158) 45 1 = true := kb_vi (by decide) me45 (by decide +kernel) gw1479 gw1482 gw1480
set_option maxRecDepth 100000 in
theorem lk776 : ∀ pc, ev_kb MM "LeftAnswersLaw" pc (.invokevirtual 161) 287 1 = true := kb_vi (by decide) me287 (by decide +kernel) gw1483 gw1486 gw1484
set_option maxRecDepth 100000 in
theorem lk777 : ∀ pc, ev_kb MM "LeftAnswersLaw" pc (.invokevirtual 162) 38 0 = true := kb_vi (by decide) me38 (by decide +kernel) gw1487 gw1490 gw1488
set_option maxRecDepth 100000 in
theorem lk778 : ∀ pc, ev_kb MM "LeftAnswersLaw" pc (.invokevirtual 165) 273 0 = true := kb_vi (by decide) me273 (by decide +kernel) gw1491 gw1494 gw1492
set_option maxRecDepth 100000 in
theorem lk779 : ∀ pc, ev_kb MM "LeftAnswersLaw" pc (.invokevirtual 166) 37 1 = true := kb_vi (by decide) me37 (by decide +kernel) gw1495 gw1498 gw1496
set_option maxRecDepth 100000 in
theorem lk780 : ∀ pc, ev_kb MM "LeftAnswersLaw" pc (.invokevirtual 169) 271 1 = true := kb_vi (by decide) me271 (by decide +kernel) gw1499 gw1502 gw1500
set_option maxRecDepth 100000 in
theorem lk781 : ∀ pc, ev_kb MM "LeftAnswersLaw" pc (.invokevirtual 170) 25 1 = true := kb_vi (by decide) me25 (by decide +kernel) gw1503 gw1506 gw1504
set_option maxRecDepth 100000 in
theorem lk782 : ∀ pc, ev_kb MM "LeftAnswersLaw" pc (.invokevirtual 173) 212 1 = true := kb_vi (by decide) me212 (by decide +kernel) gw1507 gw1510 gw1508
set_option maxRecDepth 100000 in
theorem lk783 : ∀ pc, ev_kb MM "LeftAnswersLaw" pc (.invokevirtual 174) 35 1 = true := kb_vi (by decide) me35 (by decide +kernel) gw1511 gw1514 gw1512
set_option maxRecDepth 100000 in
theorem lk784 : ∀ pc, ev_kb MM "LeftAnswersLaw" pc (.invokevirtual 177) 269 1 = true := kb_vi (by decide) me269 (by decide +kernel) gw1515 gw1518 gw1516
set_option maxRecDepth 100000 in
theorem lk785 : ∀ pc, ev_kb MM "LeftAnswersLaw" pc (.invokevirtual 178) 9 1 = true := kb_vi (by decide) me9 (by decide +kernel) gw1519 gw1522 gw1520
set_option maxRecDepth 100000 in
theorem lk786 : ∀ pc, ev_kb MM "LeftAnswersLaw" pc (.invokevirtual 181) 186 1 = true := kb_vi (by decide) me186 (by decide +kernel) gw1523 gw1526 gw1524
end
section
def ep_l300 : List (Instr × Nat × Nat) := [(.new 8, 10, 0), (.invokespecial 15, 0, 0), (.new 16, 11, 0), (.invokespecial 18, 171, 0), (.newarray .long, 0, 0), (.invokevirtual 19, 18, 5), (.invokevirtual 23, 199, 5), (.invokevirtual 24, 16, 1), (.invokevirtual 28, 197, 1), (.invokevirtual 29, 14, 0), (.invokevirtual 33, 195, 0), (.invokevirtual 34, 17, 0), (.invokevirtual 37, 198, 0), (.invokevirtual 43, 243, 2), (.invokevirtual 44, 39, 2), (.invokevirtual 47, 275, 2), (.invokevirtual 48, 11, 2), (.invokevirtual 51, 188, 2), (.invokevirtual 52, 29, 1), (.invokevirtual 56, 233, 1), (.invokevirtual 57, 12, 3), (.invokevirtual 61, 190, 3), (.invokevirtual 62, 47, 2), (.invokevirtual 65, 289, 2), (.invokevirtual 66, 31, 1), (.invokevirtual 69, 237, 1), (.invokevirtual 70, 21, 1), (.invokevirtual 73, 204, 1), (.invokevirtual 74, 3, 1), (.invokevirtual 77, 175, 1), (.invokevirtual 78, 10, 1), (.invokevirtual 81, 187, 1), (.invokevirtual 82, 46, 0), (.invokevirtual 85, 288, 0), (.invokevirtual 86, 1, 2), (.invokevirtual 89, 172, 2), (.invokevirtual 90, 32, 0), (.invokevirtual 93, 239, 0), (.invokevirtual 94, 33, 2), (.invokevirtual 97, 240, 2), (.invokevirtual 98, 20, 0), (.invokevirtual 101, 202, 0), (.invokevirtual 102, 19, 1), (.invokevirtual 105, 201, 1), (.invokevirtual 106, 44, 0), (.invokevirtual 109, 286, 0), (.invokevirtual 110, 24, 2), (.invokevirtual 113, 210, 2), (.invokevirtual 114, 23, 0), (.invokevirtual 117, 208, 0), (.invokevirtual 118, 22, 0), (.invokevirtual 121, 207, 0), (.invokevirtual 122, 4, 0), (.invokevirtual 125, 177, 0), (.invokevirtual 126, 5, 1), (.invokevirtual 129, 178, 1), (.invokevirtual 130, 15, 1), (.invokevirtual 133, 196, 1), (.invokevirtual 134, 36, 0), (.invokevirtual 137, 270, 0), (.invokevirtual 138, 40, 1), (.invokevirtual 141, 277, 1), (.invokevirtual 142, 8, 1), (.invokevirtual 145, 182, 1), (.invokevirtual 146, 13, 2), (.invokevirtual 149, 193, 2), (.invokevirtual 150, 30, 3), (.invokevirtual 153, 234, 3), (.invokevirtual 154, 7, 1), (.invokevirtual 157, 181, 1), (.invokevirtual 158, 45, 1), (.invokevirtual 161, 287, 1), (.invokevirtual 162, 38, 0), (.invokevirtual 165, 273, 0), (.invokevirtual 166, 37, 1), (.invokevirtual 169, 271, 1), (.invokevirtual 170, 25, 1), (.invokevirtual 173, 212, 1), (.invokevirtual 174, 35, 1), (.invokevirtual 177, 269, 1), (.invokevirtual 178, 9, 1), (.invokevirtual 181, 186, 1)]
set_option maxRecDepth 100000 in
theorem ep_k300 : ∀ q ∈ ep_l300, ∀ pc, ev_kb MM "LeftAnswersLaw" pc q.1 q.2.1 q.2.2 = true := by
  unfold ep_l300
  exact List.forall_mem_cons.mpr ⟨lk705, List.forall_mem_cons.mpr ⟨lk706, List.forall_mem_cons.mpr ⟨lk707, List.forall_mem_cons.mpr ⟨lk708, List.forall_mem_cons.mpr ⟨lk709, List.forall_mem_cons.mpr ⟨lk710, List.forall_mem_cons.mpr ⟨lk711, List.forall_mem_cons.mpr ⟨lk712, List.forall_mem_cons.mpr ⟨lk713, List.forall_mem_cons.mpr ⟨lk714, List.forall_mem_cons.mpr ⟨lk715, List.forall_mem_cons.mpr ⟨lk716, List.forall_mem_cons.mpr ⟨lk717, List.forall_mem_cons.mpr ⟨lk718, List.forall_mem_cons.mpr ⟨lk719, List.forall_mem_cons.mpr ⟨lk720, List.forall_mem_cons.mpr ⟨lk721, List.forall_mem_cons.mpr ⟨lk722, List.forall_mem_cons.mpr ⟨lk723, List.forall_mem_cons.mpr ⟨lk724, List.forall_mem_cons.mpr ⟨lk725, List.forall_mem_cons.mpr ⟨lk726, List.forall_mem_cons.mpr ⟨lk727, List.forall_mem_cons.mpr ⟨lk728, List.forall_mem_cons.mpr ⟨lk729, List.forall_mem_cons.mpr ⟨lk730, List.forall_mem_cons.mpr ⟨lk731, List.forall_mem_cons.mpr ⟨lk732, List.forall_mem_cons.mpr ⟨lk733, List.forall_mem_cons.mpr ⟨lk734, List.forall_mem_cons.mpr ⟨lk735, List.forall_mem_cons.mpr ⟨lk736, List.forall_mem_cons.mpr ⟨lk737, List.forall_mem_cons.mpr ⟨lk738, List.forall_mem_cons.mpr ⟨lk739, List.forall_mem_cons.mpr ⟨lk740, List.forall_mem_cons.mpr ⟨lk741, List.forall_mem_cons.mpr ⟨lk742, List.forall_mem_cons.mpr ⟨lk743, List.forall_mem_cons.mpr ⟨lk744, List.forall_mem_cons.mpr ⟨lk745, List.forall_mem_cons.mpr ⟨lk746, List.forall_mem_cons.mpr ⟨lk747, List.forall_mem_cons.mpr ⟨lk748, List.forall_mem_cons.mpr ⟨lk749, List.forall_mem_cons.mpr ⟨lk750, List.forall_mem_cons.mpr ⟨lk751, List.forall_mem_cons.mpr ⟨lk752, List.forall_mem_cons.mpr ⟨lk753, List.forall_mem_cons.mpr ⟨lk754, List.forall_mem_cons.mpr ⟨lk755, List.forall_mem_cons.mpr ⟨lk756, List.forall_mem_cons.mpr ⟨lk757, List.forall_mem_cons.mpr ⟨lk758, List.forall_mem_cons.mpr ⟨lk759, List.forall_mem_cons.mpr ⟨lk760, List.forall_mem_cons.mpr ⟨lk761, List.forall_mem_cons.mpr ⟨lk762, List.forall_mem_cons.mpr ⟨lk763, List.forall_mem_cons.mpr ⟨lk764, List.forall_mem_cons.mpr ⟨lk765, List.forall_mem_cons.mpr ⟨lk766, List.forall_mem_cons.mpr ⟨lk767, List.forall_mem_cons.mpr ⟨lk768, List.forall_mem_cons.mpr ⟨lk769, List.forall_mem_cons.mpr ⟨lk770, List.forall_mem_cons.mpr ⟨lk771, List.forall_mem_cons.mpr ⟨lk772, List.forall_mem_cons.mpr ⟨lk773, List.forall_mem_cons.mpr ⟨lk774, List.forall_mem_cons.mpr ⟨lk775, List.forall_mem_cons.mpr ⟨lk776, List.forall_mem_cons.mpr ⟨lk777, List.forall_mem_cons.mpr ⟨lk778, List.forall_mem_cons.mpr ⟨lk779, List.forall_mem_cons.mpr ⟨lk780, List.forall_mem_cons.mpr ⟨lk781, List.forall_mem_cons.mpr ⟨lk782, List.forall_mem_cons.mpr ⟨lk783, List.forall_mem_cons.mpr ⟨lk784, List.forall_mem_cons.mpr ⟨lk785, List.forall_mem_cons.mpr ⟨lk786, fun _ h => absurd h List.not_mem_nil⟩⟩⟩⟩⟩⟩⟩⟩⟩⟩⟩⟩⟩⟩⟩⟩⟩⟩⟩⟩⟩⟩⟩⟩⟩⟩⟩⟩⟩⟩⟩⟩⟩⟩⟩⟩⟩⟩⟩⟩⟩⟩⟩⟩⟩⟩⟩⟩⟩⟩⟩⟩⟩⟩⟩⟩⟩⟩⟩⟩⟩⟩⟩⟩⟩⟩⟩⟩⟩⟩⟩⟩⟩⟩⟩⟩⟩⟩⟩⟩⟩⟩
theorem ev_td {α : Type} (f : α → Bool) (n : Nat) (xs : List α) (h1 : (xs.take n).all f = true) (h2 : (xs.drop n).all f = true) : xs.all f = true := by
  rw [← List.take_append_drop n xs, List.all_append, h1, h2]; rfl
def eu300_0 : List (List (Nat × Instr × Nat × Nat)) := ev_q300
def eu300_1 : List (List (Nat × Instr × Nat × Nat)) := eu300_0.drop 8
def eu300_2 : List (List (Nat × Instr × Nat × Nat)) := eu300_1.drop 8
def eu300_3 : List (List (Nat × Instr × Nat × Nat)) := eu300_2.drop 8
def eu300_4 : List (List (Nat × Instr × Nat × Nat)) := eu300_3.drop 8
def eu300_5 : List (List (Nat × Instr × Nat × Nat)) := eu300_4.drop 8
def eu300_6 : List (List (Nat × Instr × Nat × Nat)) := eu300_5.drop 8
def eu300_7 : List (List (Nat × Instr × Nat × Nat)) := eu300_6.drop 8
def eu300_8 : List (List (Nat × Instr × Nat × Nat)) := eu300_7.drop 8
def eu300_9 : List (List (Nat × Instr × Nat × Nat)) := eu300_8.drop 8
def eu300_10 : List (List (Nat × Instr × Nat × Nat)) := eu300_9.drop 8
end
