set_option maxRecDepth 100000 in
theorem lk0 : ∀ pc, ev_kb MM "LeftAnswers" pc (.invokespecial 1) 999 0 = true := kb_obj gw0 gw1 gw2
set_option maxRecDepth 100000 in
theorem lk1 : ∀ pc, ev_kb MM "LeftAnswers" pc (.new 7) 9 0 = true := kb_new (by decide) gw3 gw4 gw5
set_option maxRecDepth 100000 in
theorem lk2 : ∀ pc, ev_kb MM "LeftAnswers" pc (.invokespecial 9) 154 0 = true := kb_sp (by decide) me154 (by decide +kernel) gw6 gw8
set_option maxRecDepth 100000 in
theorem lk3 : ∀ pc, ev_kb MM "LeftAnswers" pc (.putfield 10) 10 0 = true := kb_putf (by decide +kernel) gw9
set_option maxRecDepth 100000 in
theorem lk4 : ∀ pc, ev_kb MM "LeftAnswers" pc (.new 16) 1 0 = true := kb_new (by decide) gw10 gw11 gw12
set_option maxRecDepth 100000 in
theorem lk5 : ∀ pc, ev_kb MM "LeftAnswers" pc (.invokespecial 18) 56 0 = true := kb_sp (by decide) me56 (by decide +kernel) gw13 gw15
set_option maxRecDepth 100000 in
theorem lk6 : ∀ pc, ev_kb MM "LeftAnswers" pc (.putfield 19) 10 1 = true := kb_putf (by decide +kernel) gw16
set_option maxRecDepth 100000 in
theorem lk7 : ∀ pc, ev_kb MM "LeftAnswers" pc (.putfield 23) 10 2 = true := kb_putf (by decide +kernel) gw17
set_option maxRecDepth 100000 in
theorem lk8 : ∀ pc, ev_kb MM "LeftAnswers" pc (.new 26) 3 0 = true := kb_new (by decide) gw18 gw19 gw20
set_option maxRecDepth 100000 in
theorem lk9 : ∀ pc, ev_kb MM "LeftAnswers" pc (.invokespecial 28) 87 0 = true := kb_sp (by decide) me87 (by decide +kernel) gw21 gw23
set_option maxRecDepth 100000 in
theorem lk10 : ∀ pc, ev_kb MM "LeftAnswers" pc (.putfield 29) 10 3 = true := kb_putf (by decide +kernel) gw24
set_option maxRecDepth 100000 in
theorem lk11 : ∀ pc, ev_kb MM "LeftAnswers" pc (.putfield 33) 10 4 = true := kb_putf (by decide +kernel) gw25
set_option maxRecDepth 100000 in
theorem lk12 : ∀ pc, ev_kb MM "LeftAnswers" pc (.new 36) 6 0 = true := kb_new (by decide) gw26 gw27 gw28
set_option maxRecDepth 100000 in
theorem lk13 : ∀ pc, ev_kb MM "LeftAnswers" pc (.invokespecial 38) 128 0 = true := kb_sp (by decide) me128 (by decide +kernel) gw29 gw31
set_option maxRecDepth 100000 in
theorem lk14 : ∀ pc, ev_kb MM "LeftAnswers" pc (.putfield 39) 10 5 = true := kb_putf (by decide +kernel) gw32
set_option maxRecDepth 100000 in
theorem lk15 : ∀ pc, ev_kb MM "LeftAnswers" pc (.new 43) 0 0 = true := kb_new (by decide) gw33 gw34 gw35
set_option maxRecDepth 100000 in
theorem lk16 : ∀ pc, ev_kb MM "LeftAnswers" pc (.invokespecial 45) 48 0 = true := kb_sp (by decide) me48 (by decide +kernel) gw36 gw38
set_option maxRecDepth 100000 in
theorem lk17 : ∀ pc, ev_kb MM "LeftAnswers" pc (.putfield 46) 10 6 = true := kb_putf (by decide +kernel) gw39
set_option maxRecDepth 100000 in
theorem lk18 : ∀ pc, ev_kb MM "LeftAnswers" pc (.new 50) 7 0 = true := kb_new (by decide) gw40 gw41 gw42
set_option maxRecDepth 100000 in
theorem lk19 : ∀ pc, ev_kb MM "LeftAnswers" pc (.invokespecial 52) 132 0 = true := kb_sp (by decide) me132 (by decide +kernel) gw43 gw45
set_option maxRecDepth 100000 in
theorem lk20 : ∀ pc, ev_kb MM "LeftAnswers" pc (.putfield 53) 10 7 = true := kb_putf (by decide +kernel) gw46
set_option maxRecDepth 100000 in
theorem lk21 : ∀ pc, ev_kb MM "LeftAnswers" pc (.putfield 57) 10 8 = true := kb_putf (by decide +kernel) gw47
set_option maxRecDepth 100000 in
theorem lk22 : ∀ pc, ev_kb MM "LeftAnswers" pc (.new 60) 5 0 = true := kb_new (by decide) gw48 gw49 gw50
set_option maxRecDepth 100000 in
theorem lk23 : ∀ pc, ev_kb MM "LeftAnswers" pc (.invokespecial 62) 122 0 = true := kb_sp (by decide) me122 (by decide +kernel) gw51 gw53
set_option maxRecDepth 100000 in
theorem lk24 : ∀ pc, ev_kb MM "LeftAnswers" pc (.putfield 63) 10 9 = true := kb_putf (by decide +kernel) gw54
set_option maxRecDepth 100000 in
theorem lk25 : ∀ pc, ev_kb MM "LeftAnswers" pc (.new 67) 4 0 = true := kb_new (by decide) gw55 gw56 gw57
set_option maxRecDepth 100000 in
theorem lk26 : ∀ pc, ev_kb MM "LeftAnswers" pc (.invokespecial 69) 119 0 = true := kb_sp (by decide) me119 (by decide +kernel) gw58 gw60
set_option maxRecDepth 100000 in
theorem lk27 : ∀ pc, ev_kb MM "LeftAnswers" pc (.putfield 70) 10 10 = true := kb_putf (by decide +kernel) gw61
set_option maxRecDepth 100000 in
theorem lk28 : ∀ pc, ev_kb MM "LeftAnswers" pc (.new 74) 8 0 = true := kb_new (by decide) gw62 gw63 gw64
set_option maxRecDepth 100000 in
theorem lk29 : ∀ pc, ev_kb MM "LeftAnswers" pc (.invokespecial 76) 148 0 = true := kb_sp (by decide) me148 (by decide +kernel) gw65 gw67
set_option maxRecDepth 100000 in
theorem lk30 : ∀ pc, ev_kb MM "LeftAnswers" pc (.putfield 77) 10 11 = true := kb_putf (by decide +kernel) gw68
set_option maxRecDepth 100000 in
theorem lk31 : ∀ pc, ev_kb MM "LeftAnswers" pc (.anewarray 81) 6 0 = true := kb_anew (by decide) gw69
set_option maxRecDepth 100000 in
theorem lk32 : ∀ pc, ev_kb MM "LeftAnswers" pc (.new 81) 2 0 = true := kb_new (by decide) gw69 gw70 gw71
set_option maxRecDepth 100000 in
theorem lk33 : ∀ pc, ev_kb MM "LeftAnswers" pc (.invokespecial 83) 84 0 = true := kb_sp (by decide) me84 (by decide +kernel) gw72 gw74
set_option maxRecDepth 100000 in
theorem lk34 : ∀ pc, ev_kb MM "LeftAnswers" pc (.putfield 84) 10 12 = true := kb_putf (by decide +kernel) gw75
set_option maxRecDepth 100000 in
theorem lk35 : ∀ pc, ev_kb MM "LeftAnswers" pc (.putfield 88) 10 13 = true := kb_putf (by decide +kernel) gw76
set_option maxRecDepth 100000 in
theorem lk36 : ∀ pc, ev_kb MM "LeftAnswers" pc (.putfield 92) 10 14 = true := kb_putf (by decide +kernel) gw77
set_option maxRecDepth 100000 in
theorem lk37 : ∀ pc, ev_kb MM "LeftAnswers" pc (.putfield 95) 10 15 = true := kb_putf (by decide +kernel) gw78
set_option maxRecDepth 100000 in
theorem lk38 : ∀ pc, ev_kb MM "LeftAnswers" pc (.putfield 98) 10 16 = true := kb_putf (by decide +kernel) gw79
set_option maxRecDepth 100000 in
theorem lk39 : ∀ pc, ev_kb MM "LeftAnswers" pc (.invokevirtual 130) 28 1 = true := kb_vi (by decide) me28 (by decide +kernel) gw80 gw84 gw81
set_option maxRecDepth 100000 in
theorem lk40 : ∀ pc, ev_kb MM "LeftAnswers" pc (.invokevirtual 174) 26 1 = true := kb_vi (by decide) me26 (by decide +kernel) gw85 gw88 gw86
set_option maxRecDepth 100000 in
theorem lk41 : ∀ pc, ev_kb MM "LeftAnswers" pc (.getfield 29) 10 3 = true := kb_getf (by decide +kernel) gw24
set_option maxRecDepth 100000 in
theorem lk42 : ∀ pc, ev_kb MM "LeftAnswers" pc (.getfield 19) 10 1 = true := kb_getf (by decide +kernel) gw16
set_option maxRecDepth 100000 in
theorem lk43 : ∀ pc, ev_kb MM "LeftAnswers" pc (.invokevirtual 238) 88 3 = true := kb_vi (by decide) me88 (by decide +kernel) gw89 gw92 gw90
set_option maxRecDepth 100000 in
theorem lk44 : ∀ pc, ev_kb MM "LeftAnswers" pc (.invokevirtual 370) 116 5 = true := kb_vi (by decide) me116 (by decide +kernel) gw93 gw96 gw94
set_option maxRecDepth 100000 in
theorem lk45 : ∀ pc, ev_kb MM "LeftAnswers" pc (.getfield 39) 10 5 = true := kb_getf (by decide +kernel) gw32
set_option maxRecDepth 100000 in
theorem lk46 : ∀ pc, ev_kb MM "LeftAnswers" pc (.invokevirtual 226) 130 1 = true := kb_vi (by decide) me130 (by decide +kernel) gw97 gw100 gw98
set_option maxRecDepth 100000 in
theorem lk47 : ∀ pc, ev_kb MM "LeftAnswers" pc (.invokevirtual 374) 112 5 = true := kb_vi (by decide) me112 (by decide +kernel) gw101 gw104 gw102
set_option maxRecDepth 100000 in
theorem lk48 : ∀ pc, ev_kb MM "LeftAnswers" pc (.invokevirtual 214) 2 4 = true := kb_vi (by decide) me2 (by decide +kernel) gw105 gw108 gw106
set_option maxRecDepth 100000 in
theorem lk49 : ∀ pc, ev_kb MM "LeftAnswers" pc (.getfield 70) 10 10 = true := kb_getf (by decide +kernel) gw61
set_option maxRecDepth 100000 in
theorem lk50 : ∀ pc, ev_kb MM "LeftAnswers" pc (.invokevirtual 290) 121 2 = true := kb_vi (by decide) me121 (by decide +kernel) gw109 gw112 gw110
set_option maxRecDepth 100000 in
theorem lk51 : ∀ pc, ev_kb MM "LeftAnswers" pc (.getfield 293) 4 0 = true := kb_getf (by decide +kernel) gw113
set_option maxRecDepth 100000 in
theorem lk52 : ∀ pc, ev_kb MM "LeftAnswers" pc (.getfield 46) 10 6 = true := kb_getf (by decide +kernel) gw39
set_option maxRecDepth 100000 in
theorem lk53 : ∀ pc, ev_kb MM "LeftAnswers" pc (.getfield 10) 10 0 = true := kb_getf (by decide +kernel) gw9
set_option maxRecDepth 100000 in
theorem lk54 : ∀ pc, ev_kb MM "LeftAnswers" pc (.invokevirtual 318) 54 2 = true := kb_vi (by decide) me54 (by decide +kernel) gw114 gw117 gw115
set_option maxRecDepth 100000 in
theorem lk55 : ∀ pc, ev_kb MM "LeftAnswers" pc (.invokevirtual 112) 41 0 = true := kb_vi (by decide) me41 (by decide +kernel) gw118 gw121 gw119
set_option maxRecDepth 100000 in
theorem lk56 : ∀ pc, ev_kb MM "LeftAnswers" pc (.getfield 88) 10 13 = true := kb_getf (by decide +kernel) gw76
set_option maxRecDepth 100000 in
theorem lk57 : ∀ pc, ev_kb MM "LeftAnswers" pc (.getfield 115) 9 11 = true := kb_getf (by decide +kernel) gw122
set_option maxRecDepth 100000 in
theorem lk58 : ∀ pc, ev_kb MM "LeftAnswers" pc (.getfield 33) 10 4 = true := kb_getf (by decide +kernel) gw25
set_option maxRecDepth 100000 in
theorem lk59 : ∀ pc, ev_kb MM "LeftAnswers" pc (.invokevirtual 315) 94 1 = true := kb_vi (by decide) me94 (by decide +kernel) gw123 gw126 gw124
set_option maxRecDepth 100000 in
theorem lk60 : ∀ pc, ev_kb MM "LeftAnswers" pc (.invokevirtual 321) 50 2 = true := kb_vi (by decide) me50 (by decide +kernel) gw127 gw130 gw128
set_option maxRecDepth 100000 in
theorem lk61 : ∀ pc, ev_kb MM "LeftAnswers" pc (.getfield 325) 0 6 = true := kb_getf (by decide +kernel) gw131
set_option maxRecDepth 100000 in
theorem lk62 : ∀ pc, ev_kb MM "LeftAnswers" pc (.getfield 77) 10 11 = true := kb_getf (by decide +kernel) gw68
set_option maxRecDepth 100000 in
theorem lk63 : ∀ pc, ev_kb MM "LeftAnswers" pc (.getfield 306) 8 1 = true := kb_getf (by decide +kernel) gw132
set_option maxRecDepth 100000 in
theorem lk64 : ∀ pc, ev_kb MM "LeftAnswers" pc (.getfield 307) 8 0 = true := kb_getf (by decide +kernel) gw133
set_option maxRecDepth 100000 in
theorem lk65 : ∀ pc, ev_kb MM "LeftAnswers" pc (.getfield 299) 1 0 = true := kb_getf (by decide +kernel) gw134
set_option maxRecDepth 100000 in
theorem lk66 : ∀ pc, ev_kb MM "LeftAnswers" pc (.getfield 360) 1 1 = true := kb_getf (by decide +kernel) gw135
set_option maxRecDepth 100000 in
theorem lk67 : ∀ pc, ev_kb MM "LeftAnswers" pc (.getfield 363) 1 2 = true := kb_getf (by decide +kernel) gw136
set_option maxRecDepth 100000 in
theorem lk68 : ∀ pc, ev_kb MM "LeftAnswers" pc (.getfield 366) 1 3 = true := kb_getf (by decide +kernel) gw137
set_option maxRecDepth 100000 in
theorem lk69 : ∀ pc, ev_kb MM "LeftAnswers" pc (.getfield 368) 1 4 = true := kb_getf (by decide +kernel) gw138
set_option maxRecDepth 100000 in
theorem lk70 : ∀ pc, ev_kb MM "LeftAnswers" pc (.getfield 101) 9 1 = true := kb_getf (by decide +kernel) gw139
set_option maxRecDepth 100000 in
theorem lk71 : ∀ pc, ev_kb MM "LeftAnswers" pc (.invokevirtual 218) 95 0 = true := kb_vi (by decide) me95 (by decide +kernel) gw140 gw143 gw141
set_option maxRecDepth 100000 in
theorem lk72 : ∀ pc, ev_kb MM "LeftAnswers" pc (.invokestatic 221) 901 2 = true := kb_min gw144 gw145 gw146 gw147
set_option maxRecDepth 100000 in
theorem lk73 : ∀ pc, ev_kb MM "LeftAnswers" pc (.invokevirtual 230) 111 2 = true := kb_vi (by decide) me111 (by decide +kernel) gw148 gw151 gw149
set_option maxRecDepth 100000 in
theorem lk74 : ∀ pc, ev_kb MM "LeftAnswers" pc (.getfield 177) 1 11 = true := kb_getf (by decide +kernel) gw152
set_option maxRecDepth 100000 in
theorem lk75 : ∀ pc, ev_kb MM "LeftAnswers" pc (.getfield 180) 1 12 = true := kb_getf (by decide +kernel) gw153
set_option maxRecDepth 100000 in
theorem lk76 : ∀ pc, ev_kb MM "LeftAnswers" pc (.getfield 183) 1 13 = true := kb_getf (by decide +kernel) gw154
set_option maxRecDepth 100000 in
theorem lk77 : ∀ pc, ev_kb MM "LeftAnswers" pc (.invokevirtual 184) 72 1 = true := kb_vi (by decide) me72 (by decide +kernel) gw155 gw158 gw156
set_option maxRecDepth 100000 in
theorem lk78 : ∀ pc, ev_kb MM "LeftAnswers" pc (.getfield 187) 3 11 = true := kb_getf (by decide +kernel) gw159
set_option maxRecDepth 100000 in
theorem lk79 : ∀ pc, ev_kb MM "LeftAnswers" pc (.invokestatic 167) 27 1 = true := kb_st (by decide) me27 gw160 gw162
set_option maxRecDepth 100000 in
theorem lk80 : ∀ pc, ev_kb MM "LeftAnswers" pc (.invokevirtual 311) 99 3 = true := kb_vi (by decide) me99 (by decide +kernel) gw163 gw166 gw164
set_option maxRecDepth 100000 in
theorem lk81 : ∀ pc, ev_kb MM "LeftAnswers" pc (.getfield 23) 10 2 = true := kb_getf (by decide +kernel) gw17
set_option maxRecDepth 100000 in
theorem lk82 : ∀ pc, ev_kb MM "LeftAnswers" pc (.invokevirtual 108) 76 1 = true := kb_vi (by decide) me76 (by decide +kernel) gw167 gw170 gw168
set_option maxRecDepth 100000 in
theorem lk83 : ∀ pc, ev_kb MM "LeftAnswers" pc (.getfield 118) 1 5 = true := kb_getf (by decide +kernel) gw171
set_option maxRecDepth 100000 in
theorem lk84 : ∀ pc, ev_kb MM "LeftAnswers" pc (.invokevirtual 121) 91 1 = true := kb_vi (by decide) me91 (by decide +kernel) gw172 gw175 gw173
set_option maxRecDepth 100000 in
theorem lk85 : ∀ pc, ev_kb MM "LeftAnswers" pc (.invokevirtual 124) 129 0 = true := kb_vi (by decide) me129 (by decide +kernel) gw176 gw179 gw177
set_option maxRecDepth 100000 in
theorem lk86 : ∀ pc, ev_kb MM "LeftAnswers" pc (.getfield 53) 10 7 = true := kb_getf (by decide +kernel) gw46
set_option maxRecDepth 100000 in
theorem lk87 : ∀ pc, ev_kb MM "LeftAnswers" pc (.invokevirtual 127) 136 0 = true := kb_vi (by decide) me136 (by decide +kernel) gw180 gw183 gw181
set_option maxRecDepth 100000 in
theorem lk88 : ∀ pc, ev_kb MM "LeftAnswers" pc (.invokevirtual 296) 107 2 = true := kb_vi (by decide) me107 (by decide +kernel) gw184 gw187 gw185
set_option maxRecDepth 100000 in
theorem lk89 : ∀ pc, ev_kb MM "LeftAnswers" pc (.putfield 101) 9 1 = true := kb_putf (by decide +kernel) gw139
set_option maxRecDepth 100000 in
theorem lk90 : ∀ pc, ev_kb MM "LeftAnswers" pc (.invokevirtual 104) 162 1 = true := kb_vi (by decide) me162 (by decide +kernel) gw188 gw191 gw189
set_option maxRecDepth 100000 in
theorem lk91 : ∀ pc, ev_kb MM "LeftAnswers" pc (.getfield 92) 10 14 = true := kb_getf (by decide +kernel) gw77
set_option maxRecDepth 100000 in
theorem lk92 : ∀ pc, ev_kb MM "LeftAnswers" pc (.invokestatic 281) 6 2 = true := kb_st (by decide) me6 gw192 gw194
set_option maxRecDepth 100000 in
theorem lk93 : ∀ pc, ev_kb MM "LeftAnswers" pc (.invokevirtual 242) 42 1 = true := kb_vi (by decide) me42 (by decide +kernel) gw195 gw198 gw196
set_option maxRecDepth 100000 in
theorem lk94 : ∀ pc, ev_kb MM "LeftAnswers" pc (.invokevirtual 263) 43 0 = true := kb_vi (by decide) me43 (by decide +kernel) gw199 gw202 gw200
set_option maxRecDepth 100000 in
theorem lk95 : ∀ pc, ev_kb MM "LeftAnswers" pc (.invokevirtual 267) 57 0 = true := kb_vi (by decide) me57 (by decide +kernel) gw203 gw206 gw204
set_option maxRecDepth 100000 in
theorem lk96 : ∀ pc, ev_kb MM "LeftAnswers" pc (.invokevirtual 249) 166 1 = true := kb_vi (by decide) me166 (by decide +kernel) gw207 gw210 gw208
set_option maxRecDepth 100000 in
theorem lk97 : ∀ pc, ev_kb MM "LeftAnswers" pc (.invokevirtual 270) 60 1 = true := kb_vi (by decide) me60 (by decide +kernel) gw211 gw214 gw212
set_option maxRecDepth 100000 in
theorem lk98 : ∀ pc, ev_kb MM "LeftAnswers" pc (.invokevirtual 273) 59 1 = true := kb_vi (by decide) me59 (by decide +kernel) gw215 gw218 gw216
set_option maxRecDepth 100000 in
theorem lk99 : ∀ pc, ev_kb MM "LeftAnswers" pc (.invokestatic 276) 298 1 = true := kb_st (by decide) me298 gw219 gw222
set_option maxRecDepth 100000 in
theorem lk100 : ∀ pc, ev_kb MM "LeftAnswers" pc (.getfield 98) 10 16 = true := kb_getf (by decide +kernel) gw79
set_option maxRecDepth 100000 in
theorem lk101 : ∀ pc, ev_kb MM "LeftAnswers" pc (.invokevirtual 287) 64 0 = true := kb_vi (by decide) me64 (by decide +kernel) gw223 gw226 gw224
set_option maxRecDepth 100000 in
theorem lk102 : ∀ pc, ev_kb MM "LeftAnswers" pc (.invokevirtual 284) 83 2 = true := kb_vi (by decide) me83 (by decide +kernel) gw227 gw230 gw228
set_option maxRecDepth 100000 in
theorem lk103 : ∀ pc, ev_kb MM "LeftAnswers" pc (.getfield 84) 10 12 = true := kb_getf (by decide +kernel) gw75
set_option maxRecDepth 100000 in
theorem lk104 : ∀ pc, ev_kb MM "LeftAnswers" pc (.invokevirtual 351) 86 3 = true := kb_vi (by decide) me86 (by decide +kernel) gw231 gw234 gw232
set_option maxRecDepth 100000 in
theorem lk105 : ∀ pc, ev_kb MM "LeftAnswers" pc (.getfield 190) 3 0 = true := kb_getf (by decide +kernel) gw235
set_option maxRecDepth 100000 in
theorem lk106 : ∀ pc, ev_kb MM "LeftAnswers" pc (.invokevirtual 193) 106 0 = true := kb_vi (by decide) me106 (by decide +kernel) gw236 gw239 gw237
set_option maxRecDepth 100000 in
theorem lk107 : ∀ pc, ev_kb MM "LeftAnswers" pc (.getfield 197) 3 3 = true := kb_getf (by decide +kernel) gw240
set_option maxRecDepth 100000 in
theorem lk108 : ∀ pc, ev_kb MM "LeftAnswers" pc (.invokevirtual 198) 114 0 = true := kb_vi (by decide) me114 (by decide +kernel) gw241 gw244 gw242
set_option maxRecDepth 100000 in
theorem lk109 : ∀ pc, ev_kb MM "LeftAnswers" pc (.invokevirtual 201) 113 1 = true := kb_vi (by decide) me113 (by decide +kernel) gw245 gw248 gw246
set_option maxRecDepth 100000 in
theorem lk110 : ∀ pc, ev_kb MM "LeftAnswers" pc (.invokevirtual 205) 90 0 = true := kb_vi (by decide) me90 (by decide +kernel) gw249 gw252 gw250
set_option maxRecDepth 100000 in
theorem lk111 : ∀ pc, ev_kb MM "LeftAnswers" pc (.getfield 208) 3 1 = true := kb_getf (by decide +kernel) gw253
set_option maxRecDepth 100000 in
theorem lk112 : ∀ pc, ev_kb MM "LeftAnswers" pc (.getfield 211) 3 2 = true := kb_getf (by decide +kernel) gw254
set_option maxRecDepth 100000 in
theorem lk113 : ∀ pc, ev_kb MM "LeftAnswers" pc (.getfield 141) 3 5 = true := kb_getf (by decide +kernel) gw255
set_option maxRecDepth 100000 in
theorem lk114 : ∀ pc, ev_kb MM "LeftAnswers" pc (.getfield 63) 10 9 = true := kb_getf (by decide +kernel) gw54
set_option maxRecDepth 100000 in
theorem lk115 : ∀ pc, ev_kb MM "LeftAnswers" pc (.invokevirtual 245) 123 1 = true := kb_vi (by decide) me123 (by decide +kernel) gw256 gw259 gw257
set_option maxRecDepth 100000 in
theorem lk116 : ∀ pc, ev_kb MM "LeftAnswers" pc (.getfield 246) 5 0 = true := kb_getf (by decide +kernel) gw260
set_option maxRecDepth 100000 in
theorem lk117 : ∀ pc, ev_kb MM "LeftAnswers" pc (.invokevirtual 253) 92 2 = true := kb_vi (by decide) me92 (by decide +kernel) gw261 gw264 gw262
set_option maxRecDepth 100000 in
theorem lk118 : ∀ pc, ev_kb MM "LeftAnswers" pc (.invokevirtual 257) 126 0 = true := kb_vi (by decide) me126 (by decide +kernel) gw265 gw268 gw266
set_option maxRecDepth 100000 in
theorem lk119 : ∀ pc, ev_kb MM "LeftAnswers" pc (.invokevirtual 260) 124 1 = true := kb_vi (by decide) me124 (by decide +kernel) gw269 gw272 gw270
set_option maxRecDepth 100000 in
theorem lk120 : ∀ pc, ev_kb MM "LeftAnswers" pc (.getfield 145) 3 6 = true := kb_getf (by decide +kernel) gw273
set_option maxRecDepth 100000 in
theorem lk121 : ∀ pc, ev_kb MM "LeftAnswers" pc (.getfield 148) 3 7 = true := kb_getf (by decide +kernel) gw274
set_option maxRecDepth 100000 in
theorem lk122 : ∀ pc, ev_kb MM "LeftAnswers" pc (.getfield 151) 3 8 = true := kb_getf (by decide +kernel) gw275
set_option maxRecDepth 100000 in
theorem lk123 : ∀ pc, ev_kb MM "LeftAnswers" pc (.getfield 154) 3 9 = true := kb_getf (by decide +kernel) gw276
set_option maxRecDepth 100000 in
theorem lk124 : ∀ pc, ev_kb MM "LeftAnswers" pc (.invokevirtual 157) 102 1 = true := kb_vi (by decide) me102 (by decide +kernel) gw277 gw280 gw278
set_option maxRecDepth 100000 in
theorem lk125 : ∀ pc, ev_kb MM "LeftAnswers" pc (.getfield 160) 3 10 = true := kb_getf (by decide +kernel) gw281
set_option maxRecDepth 100000 in
theorem lk126 : ∀ pc, ev_kb MM "LeftAnswers" pc (.invokevirtual 163) 104 2 = true := kb_vi (by decide) me104 (by decide +kernel) gw282 gw285 gw283
set_option maxRecDepth 100000 in
theorem lk127 : ∀ pc, ev_kb MM "LeftAnswers" pc (.getfield 354) 2 0 = true := kb_getf (by decide +kernel) gw286
set_option maxRecDepth 100000 in
theorem lk128 : ∀ pc, ev_kb MM "LeftAnswers" pc (.invokevirtual 357) 85 3 = true := kb_vi (by decide) me85 (by decide +kernel) gw287 gw290 gw288
set_option maxRecDepth 100000 in
theorem lk129 : ∀ pc, ev_kb MM "LeftAnswers" pc (.getfield 345) 7 0 = true := kb_getf (by decide +kernel) gw291
set_option maxRecDepth 100000 in
theorem lk130 : ∀ pc, ev_kb MM "LeftAnswers" pc (.invokevirtual 348) 147 2 = true := kb_vi (by decide) me147 (by decide +kernel) gw292 gw295 gw293
set_option maxRecDepth 100000 in
theorem lk131 : ∀ pc, ev_kb MM "LeftAnswers" pc (.getfield 57) 10 8 = true := kb_getf (by decide +kernel) gw47
set_option maxRecDepth 100000 in
theorem lk132 : ∀ pc, ev_kb MM "LeftAnswers" pc (.invokevirtual 344) 143 2 = true := kb_vi (by decide) me143 (by decide +kernel) gw296 gw299 gw297
set_option maxRecDepth 100000 in
theorem lk133 : ∀ pc, ev_kb MM "LeftAnswers" pc (.invokevirtual 170) 81 2 = true := kb_vi (by decide) me81 (by decide +kernel) gw300 gw303 gw301
set_option maxRecDepth 100000 in
theorem lk134 : ∀ pc, ev_kb MM "LeftAnswers" pc (.invokevirtual 302) 153 3 = true := kb_vi (by decide) me153 (by decide +kernel) gw304 gw307 gw305
set_option maxRecDepth 100000 in
theorem lk135 : ∀ pc, ev_kb MM "LeftAnswers" pc (.getfield 378) 9 10 = true := kb_getf (by decide +kernel) gw308
set_option maxRecDepth 100000 in
theorem lk136 : ∀ pc, ev_kb MM "LeftAnswers" pc (.getfield 95) 10 15 = true := kb_getf (by decide +kernel) gw78
set_option maxRecDepth 100000 in
theorem lk137 : ∀ pc, ev_kb MM "LeftAnswers" pc (.getfield 328) 0 5 = true := kb_getf (by decide +kernel) gw309
set_option maxRecDepth 100000 in
theorem lk138 : ∀ pc, ev_kb MM "LeftAnswers" pc (.getfield 332) 0 7 = true := kb_getf (by decide +kernel) gw310
set_option maxRecDepth 100000 in
theorem lk139 : ∀ pc, ev_kb MM "LeftAnswers" pc (.getfield 335) 0 8 = true := kb_getf (by decide +kernel) gw311
set_option maxRecDepth 100000 in
theorem lk140 : ∀ pc, ev_kb MM "LeftAnswers" pc (.getfield 338) 0 9 = true := kb_getf (by decide +kernel) gw312
set_option maxRecDepth 100000 in
theorem lk141 : ∀ pc, ev_kb MM "LeftAnswers" pc (.getfield 341) 0 10 = true := kb_getf (by decide +kernel) gw313
set_option maxRecDepth 100000 in
theorem lk142 : ∀ pc, ev_kb MM "LeftAnswers" pc (.invokevirtual 234) 131 1 = true := kb_vi (by decide) me131 (by decide +kernel) gw314 gw317 gw315
set_option maxRecDepth 100000 in
theorem lk143 : ∀ pc, ev_kb MM "LeftAnswers$Book" pc (.invokespecial 3) 999 0 = true := kb_obj gw318 gw1 gw2
set_option maxRecDepth 100000 in
theorem lk144 : ∀ pc, ev_kb MM "LeftAnswers$Book" pc (.newarray .int) 0 0 = true := kb_newa gw319
set_option maxRecDepth 100000 in
theorem lk145 : ∀ pc, ev_kb MM "LeftAnswers$Book" pc (.putfield 11) 0 0 = true := kb_putf (by decide +kernel) gw320
set_option maxRecDepth 100000 in
theorem lk146 : ∀ pc, ev_kb MM "LeftAnswers$Book" pc (.putfield 15) 0 1 = true := kb_putf (by decide +kernel) gw321
set_option maxRecDepth 100000 in
theorem lk147 : ∀ pc, ev_kb MM "LeftAnswers$Book" pc (.putfield 18) 0 2 = true := kb_putf (by decide +kernel) gw322
set_option maxRecDepth 100000 in
theorem lk148 : ∀ pc, ev_kb MM "LeftAnswers$Book" pc (.putfield 21) 0 3 = true := kb_putf (by decide +kernel) gw323
set_option maxRecDepth 100000 in
theorem lk149 : ∀ pc, ev_kb MM "LeftAnswers$Book" pc (.getfield 24) 0 4 = true := kb_getf (by decide +kernel) gw324
set_option maxRecDepth 100000 in
theorem lk150 : ∀ pc, ev_kb MM "LeftAnswers$Book" pc (.getfield 11) 0 0 = true := kb_getf (by decide +kernel) gw320
set_option maxRecDepth 100000 in
theorem lk151 : ∀ pc, ev_kb MM "LeftAnswers$Book" pc (.getfield 15) 0 1 = true := kb_getf (by decide +kernel) gw321
set_option maxRecDepth 100000 in
theorem lk152 : ∀ pc, ev_kb MM "LeftAnswers$Book" pc (.getfield 18) 0 2 = true := kb_getf (by decide +kernel) gw322
set_option maxRecDepth 100000 in
theorem lk153 : ∀ pc, ev_kb MM "LeftAnswers$Book" pc (.getfield 21) 0 3 = true := kb_getf (by decide +kernel) gw323
set_option maxRecDepth 100000 in
theorem lk154 : ∀ pc, ev_kb MM "LeftAnswers$Book" pc (.putfield 24) 0 4 = true := kb_putf (by decide +kernel) gw324
set_option maxRecDepth 100000 in
theorem lk155 : ∀ pc, ev_kb MM "LeftAnswers$Book" pc (.putfield 101) 0 7 = true := kb_putf (by decide +kernel) gw325
set_option maxRecDepth 100000 in
theorem lk156 : ∀ pc, ev_kb MM "LeftAnswers$Book" pc (.putfield 104) 0 6 = true := kb_putf (by decide +kernel) gw326
set_option maxRecDepth 100000 in
theorem lk157 : ∀ pc, ev_kb MM "LeftAnswers$Book" pc (.putfield 107) 0 8 = true := kb_putf (by decide +kernel) gw327
set_option maxRecDepth 100000 in
theorem lk158 : ∀ pc, ev_kb MM "LeftAnswers$Book" pc (.getfield 101) 0 7 = true := kb_getf (by decide +kernel) gw325
set_option maxRecDepth 100000 in
theorem lk159 : ∀ pc, ev_kb MM "LeftAnswers$Book" pc (.invokevirtual 110) 116 5 = true := kb_vi (by decide) me116 (by decide +kernel) gw328 gw96 gw94
set_option maxRecDepth 100000 in
theorem lk160 : ∀ pc, ev_kb MM "LeftAnswers$Book" pc (.invokevirtual 116) 112 5 = true := kb_vi (by decide) me112 (by decide +kernel) gw329 gw104 gw102
set_option maxRecDepth 100000 in
theorem lk161 : ∀ pc, ev_kb MM "LeftAnswers$Book" pc (.getfield 107) 0 8 = true := kb_getf (by decide +kernel) gw327
set_option maxRecDepth 100000 in
theorem lk162 : ∀ pc, ev_kb MM "LeftAnswers$Book" pc (.getfield 120) 3 0 = true := kb_getf (by decide +kernel) gw330
set_option maxRecDepth 100000 in
theorem lk163 : ∀ pc, ev_kb MM "LeftAnswers$Book" pc (.putfield 123) 0 9 = true := kb_putf (by decide +kernel) gw331
set_option maxRecDepth 100000 in
theorem lk164 : ∀ pc, ev_kb MM "LeftAnswers$Book" pc (.invokevirtual 126) 106 0 = true := kb_vi (by decide) me106 (by decide +kernel) gw332 gw239 gw237
set_option maxRecDepth 100000 in
theorem lk165 : ∀ pc, ev_kb MM "LeftAnswers$Book" pc (.putfield 129) 0 10 = true := kb_putf (by decide +kernel) gw333
set_option maxRecDepth 100000 in
theorem lk166 : ∀ pc, ev_kb MM "LeftAnswers$Book" pc (.putfield 132) 0 5 = true := kb_putf (by decide +kernel) gw334
set_option maxRecDepth 100000 in
theorem lk167 : ∀ pc, ev_kb MM "LeftAnswers$Book" pc (.invokevirtual 76) 73 1 = true := kb_vi (by decide) me73 (by decide +kernel) gw335 gw338 gw336
set_option maxRecDepth 100000 in
theorem lk168 : ∀ pc, ev_kb MM "LeftAnswers$Book" pc (.invokevirtual 58) 165 1 = true := kb_vi (by decide) me165 (by decide +kernel) gw339 gw342 gw340
set_option maxRecDepth 100000 in
theorem lk169 : ∀ pc, ev_kb MM "LeftAnswers$Book" pc (.invokevirtual 62) 155 0 = true := kb_vi (by decide) me155 (by decide +kernel) gw343 gw346 gw344
set_option maxRecDepth 100000 in
theorem lk170 : ∀ pc, ev_kb MM "LeftAnswers$Book" pc (.getfield 37) 9 6 = true := kb_getf (by decide +kernel) gw347
set_option maxRecDepth 100000 in
theorem lk171 : ∀ pc, ev_kb MM "LeftAnswers$Book" pc (.getstatic 82) 100 0 = true := kb_getw rfl gw348
set_option maxRecDepth 100000 in
theorem lk172 : ∀ pc, ev_kb MM "LeftAnswers$Book" pc (.invokevirtual 87) 900 0 = true := kb_ord gw349
set_option maxRecDepth 100000 in
theorem lk173 : ∀ pc, ev_kb MM "LeftAnswers$Book" pc (.invokevirtual 91) 53 3 = true := kb_vi (by decide) me53 (by decide +kernel) gw350 gw353 gw351
set_option maxRecDepth 100000 in
theorem lk174 : ∀ pc, ev_kb MM "LeftAnswers$Book" pc (.invokevirtual 95) 55 3 = true := kb_vi (by decide) me55 (by decide +kernel) gw354 gw357 gw355
set_option maxRecDepth 100000 in
theorem lk175 : ∀ pc, ev_kb MM "LeftAnswers$Book" pc (.invokevirtual 72) 49 4 = true := kb_vi (by decide) me49 (by decide +kernel) gw358 gw361 gw359
set_option maxRecDepth 100000 in
theorem lk176 : ∀ pc, ev_kb MM "LeftAnswers$Book" pc (.invokevirtual 65) 168 2 = true := kb_vi (by decide) me168 (by decide +kernel) gw362 gw365 gw363
set_option maxRecDepth 100000 in
theorem lk177 : ∀ pc, ev_kb MM "LeftAnswers$Book" pc (.getfield 69) 9 9 = true := kb_getf (by decide +kernel) gw366
set_option maxRecDepth 100000 in
theorem lk178 : ∀ pc, ev_kb MM "LeftAnswers$Book" pc (.invokevirtual 98) 63 1 = true := kb_vi (by decide) me63 (by decide +kernel) gw367 gw370 gw368
set_option maxRecDepth 100000 in
theorem lk179 : ∀ pc, ev_kb MM "LeftAnswers$Book" pc (.invokevirtual 28) 161 1 = true := kb_vi (by decide) me161 (by decide +kernel) gw371 gw374 gw372
set_option maxRecDepth 100000 in
theorem lk180 : ∀ pc, ev_kb MM "LeftAnswers$Book" pc (.getfield 34) 9 4 = true := kb_getf (by decide +kernel) gw375
set_option maxRecDepth 100000 in
theorem lk181 : ∀ pc, ev_kb MM "LeftAnswers$Book" pc (.getstatic 41) 16 0 = true := kb_gets (by decide) gw376
set_option maxRecDepth 100000 in
theorem lk182 : ∀ pc, ev_kb MM "LeftAnswers$Book" pc (.invokevirtual 46) 52 1 = true := kb_vi (by decide) me52 (by decide +kernel) gw377 gw380 gw378
set_option maxRecDepth 100000 in
theorem lk183 : ∀ pc, ev_kb MM "LeftAnswers$Book" pc (.invokevirtual 50) 51 2 = true := kb_vi (by decide) me51 (by decide +kernel) gw381 gw384 gw382
set_option maxRecDepth 100000 in
theorem lk184 : ∀ pc, ev_kb MM "LeftAnswers$Book" pc (.invokevirtual 54) 167 1 = true := kb_vi (by decide) me167 (by decide +kernel) gw385 gw388 gw386
set_option maxRecDepth 100000 in
theorem lk185 : ∀ pc, ev_kb MM "LeftAnswers$Duchy" pc (.invokespecial 3) 999 0 = true := kb_obj gw389 gw1 gw2
set_option maxRecDepth 100000 in
theorem lk186 : ∀ pc, ev_kb MM "LeftAnswers$Duchy" pc (.newarray .long) 0 0 = true := kb_newa gw390
set_option maxRecDepth 100000 in
theorem lk187 : ∀ pc, ev_kb MM "LeftAnswers$Duchy" pc (.putfield 9) 1 7 = true := kb_putf (by decide +kernel) gw391
set_option maxRecDepth 100000 in
theorem lk188 : ∀ pc, ev_kb MM "LeftAnswers$Duchy" pc (.newarray .int) 0 0 = true := kb_newa gw319
set_option maxRecDepth 100000 in
theorem lk189 : ∀ pc, ev_kb MM "LeftAnswers$Duchy" pc (.putfield 15) 1 8 = true := kb_putf (by decide +kernel) gw392
set_option maxRecDepth 100000 in
theorem lk190 : ∀ pc, ev_kb MM "LeftAnswers$Duchy" pc (.putfield 19) 1 9 = true := kb_putf (by decide +kernel) gw393
set_option maxRecDepth 100000 in
theorem lk191 : ∀ pc, ev_kb MM "LeftAnswers$Duchy" pc (.putfield 22) 1 14 = true := kb_putf (by decide +kernel) gw394
set_option maxRecDepth 100000 in
theorem lk192 : ∀ pc, ev_kb MM "LeftAnswers$Duchy" pc (.putfield 25) 1 15 = true := kb_putf (by decide +kernel) gw395
set_option maxRecDepth 100000 in
theorem lk193 : ∀ pc, ev_kb MM "LeftAnswers$Duchy" pc (.putfield 28) 1 10 = true := kb_putf (by decide +kernel) gw396
set_option maxRecDepth 100000 in
theorem lk194 : ∀ pc, ev_kb MM "LeftAnswers$Duchy" pc (.putfield 31) 1 11 = true := kb_putf (by decide +kernel) gw397
set_option maxRecDepth 100000 in
theorem lk195 : ∀ pc, ev_kb MM "LeftAnswers$Duchy" pc (.putfield 34) 1 12 = true := kb_putf (by decide +kernel) gw398
set_option maxRecDepth 100000 in
theorem lk196 : ∀ pc, ev_kb MM "LeftAnswers$Duchy" pc (.putfield 37) 1 13 = true := kb_putf (by decide +kernel) gw399
set_option maxRecDepth 100000 in
theorem lk197 : ∀ pc, ev_kb MM "LeftAnswers$Duchy" pc (.invokevirtual 40) 65 0 = true := kb_vi (by decide) me65 (by decide +kernel) gw400 gw403 gw401
set_option maxRecDepth 100000 in
theorem lk198 : ∀ pc, ev_kb MM "LeftAnswers$Duchy" pc (.getfield 43) 1 0 = true := kb_getf (by decide +kernel) gw404
set_option maxRecDepth 100000 in
theorem lk199 : ∀ pc, ev_kb MM "LeftAnswers$Duchy" pc (.invokestatic 183) 298 1 = true := kb_st (by decide) me298 gw405 gw222
