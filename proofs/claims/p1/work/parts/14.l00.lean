set_option maxRecDepth 100000 in
theorem lk0 : ∀ pc, ev_kb MM "LeftAnswers" pc (.invokespecial 1) 999 0 = true := kb_obj gw0 gw1 gw2
set_option maxRecDepth 100000 in
theorem lk1 : ∀ pc, ev_kb MM "LeftAnswers" pc (.new 7) 9 0 = true := kb_new (by decide) gw3 gw4 gw5
set_option maxRecDepth 100000 in
theorem lk2 : ∀ pc, ev_kb MM "LeftAnswers" pc (.invokespecial 9) 85 0 = true := kb_sp (by decide) me85 (by decide +kernel) gw6 gw8
set_option maxRecDepth 100000 in
theorem lk3 : ∀ pc, ev_kb MM "LeftAnswers" pc (.putfield 10) 10 0 = true := kb_putf (by decide +kernel) gw9
set_option maxRecDepth 100000 in
theorem lk4 : ∀ pc, ev_kb MM "LeftAnswers" pc (.new 16) 1 0 = true := kb_new (by decide) gw10 gw11 gw12
set_option maxRecDepth 100000 in
theorem lk5 : ∀ pc, ev_kb MM "LeftAnswers" pc (.invokespecial 18) 46 0 = true := kb_sp (by decide) me46 (by decide +kernel) gw13 gw15
set_option maxRecDepth 100000 in
theorem lk6 : ∀ pc, ev_kb MM "LeftAnswers" pc (.putfield 19) 10 1 = true := kb_putf (by decide +kernel) gw16
set_option maxRecDepth 100000 in
theorem lk7 : ∀ pc, ev_kb MM "LeftAnswers" pc (.putfield 23) 10 2 = true := kb_putf (by decide +kernel) gw17
set_option maxRecDepth 100000 in
theorem lk8 : ∀ pc, ev_kb MM "LeftAnswers" pc (.new 26) 3 0 = true := kb_new (by decide) gw18 gw19 gw20
set_option maxRecDepth 100000 in
theorem lk9 : ∀ pc, ev_kb MM "LeftAnswers" pc (.invokespecial 28) 55 0 = true := kb_sp (by decide) me55 (by decide +kernel) gw21 gw23
set_option maxRecDepth 100000 in
theorem lk10 : ∀ pc, ev_kb MM "LeftAnswers" pc (.putfield 29) 10 3 = true := kb_putf (by decide +kernel) gw24
set_option maxRecDepth 100000 in
theorem lk11 : ∀ pc, ev_kb MM "LeftAnswers" pc (.putfield 33) 10 4 = true := kb_putf (by decide +kernel) gw25
set_option maxRecDepth 100000 in
theorem lk12 : ∀ pc, ev_kb MM "LeftAnswers" pc (.new 36) 6 0 = true := kb_new (by decide) gw26 gw27 gw28
set_option maxRecDepth 100000 in
theorem lk13 : ∀ pc, ev_kb MM "LeftAnswers" pc (.invokespecial 38) 72 0 = true := kb_sp (by decide) me72 (by decide +kernel) gw29 gw31
set_option maxRecDepth 100000 in
theorem lk14 : ∀ pc, ev_kb MM "LeftAnswers" pc (.putfield 39) 10 5 = true := kb_putf (by decide +kernel) gw32
set_option maxRecDepth 100000 in
theorem lk15 : ∀ pc, ev_kb MM "LeftAnswers" pc (.new 43) 0 0 = true := kb_new (by decide) gw33 gw34 gw35
set_option maxRecDepth 100000 in
theorem lk16 : ∀ pc, ev_kb MM "LeftAnswers" pc (.invokespecial 45) 43 0 = true := kb_sp (by decide) me43 (by decide +kernel) gw36 gw38
set_option maxRecDepth 100000 in
theorem lk17 : ∀ pc, ev_kb MM "LeftAnswers" pc (.putfield 46) 10 6 = true := kb_putf (by decide +kernel) gw39
set_option maxRecDepth 100000 in
theorem lk18 : ∀ pc, ev_kb MM "LeftAnswers" pc (.new 50) 7 0 = true := kb_new (by decide) gw40 gw41 gw42
set_option maxRecDepth 100000 in
theorem lk19 : ∀ pc, ev_kb MM "LeftAnswers" pc (.invokespecial 52) 76 0 = true := kb_sp (by decide) me76 (by decide +kernel) gw43 gw45
set_option maxRecDepth 100000 in
theorem lk20 : ∀ pc, ev_kb MM "LeftAnswers" pc (.putfield 53) 10 7 = true := kb_putf (by decide +kernel) gw46
set_option maxRecDepth 100000 in
theorem lk21 : ∀ pc, ev_kb MM "LeftAnswers" pc (.putfield 57) 10 8 = true := kb_putf (by decide +kernel) gw47
set_option maxRecDepth 100000 in
theorem lk22 : ∀ pc, ev_kb MM "LeftAnswers" pc (.new 60) 5 0 = true := kb_new (by decide) gw48 gw49 gw50
set_option maxRecDepth 100000 in
theorem lk23 : ∀ pc, ev_kb MM "LeftAnswers" pc (.invokespecial 62) 70 0 = true := kb_sp (by decide) me70 (by decide +kernel) gw51 gw53
set_option maxRecDepth 100000 in
theorem lk24 : ∀ pc, ev_kb MM "LeftAnswers" pc (.putfield 63) 10 9 = true := kb_putf (by decide +kernel) gw54
set_option maxRecDepth 100000 in
theorem lk25 : ∀ pc, ev_kb MM "LeftAnswers" pc (.new 67) 4 0 = true := kb_new (by decide) gw55 gw56 gw57
set_option maxRecDepth 100000 in
theorem lk26 : ∀ pc, ev_kb MM "LeftAnswers" pc (.invokespecial 69) 67 0 = true := kb_sp (by decide) me67 (by decide +kernel) gw58 gw60
set_option maxRecDepth 100000 in
theorem lk27 : ∀ pc, ev_kb MM "LeftAnswers" pc (.putfield 70) 10 10 = true := kb_putf (by decide +kernel) gw61
set_option maxRecDepth 100000 in
theorem lk28 : ∀ pc, ev_kb MM "LeftAnswers" pc (.new 74) 8 0 = true := kb_new (by decide) gw62 gw63 gw64
set_option maxRecDepth 100000 in
theorem lk29 : ∀ pc, ev_kb MM "LeftAnswers" pc (.invokespecial 76) 84 0 = true := kb_sp (by decide) me84 (by decide +kernel) gw65 gw67
set_option maxRecDepth 100000 in
theorem lk30 : ∀ pc, ev_kb MM "LeftAnswers" pc (.putfield 77) 10 11 = true := kb_putf (by decide +kernel) gw68
set_option maxRecDepth 100000 in
theorem lk31 : ∀ pc, ev_kb MM "LeftAnswers" pc (.anewarray 81) 6 0 = true := kb_anew (by decide) gw69
set_option maxRecDepth 100000 in
theorem lk32 : ∀ pc, ev_kb MM "LeftAnswers" pc (.new 81) 2 0 = true := kb_new (by decide) gw69 gw70 gw71
set_option maxRecDepth 100000 in
theorem lk33 : ∀ pc, ev_kb MM "LeftAnswers" pc (.invokespecial 83) 53 0 = true := kb_sp (by decide) me53 (by decide +kernel) gw72 gw74
set_option maxRecDepth 100000 in
theorem lk34 : ∀ pc, ev_kb MM "LeftAnswers" pc (.putfield 84) 10 12 = true := kb_putf (by decide +kernel) gw75
set_option maxRecDepth 100000 in
theorem lk35 : ∀ pc, ev_kb MM "LeftAnswers" pc (.putfield 88) 10 13 = true := kb_putf (by decide +kernel) gw76
set_option maxRecDepth 100000 in
theorem lk36 : ∀ pc, ev_kb MM "LeftAnswers" pc (.putfield 92) 10 14 = true := kb_putf (by decide +kernel) gw77
set_option maxRecDepth 100000 in
theorem lk37 : ∀ pc, ev_kb MM "LeftAnswers" pc (.putfield 95) 10 15 = true := kb_putf (by decide +kernel) gw78
set_option maxRecDepth 100000 in
theorem lk38 : ∀ pc, ev_kb MM "LeftAnswers" pc (.putfield 98) 10 16 = true := kb_putf (by decide +kernel) gw79
set_option maxRecDepth 100000 in
theorem lk39 : ∀ pc, ev_kb MM "LeftAnswers" pc (.invokevirtual 130) 26 1 = true := kb_vi (by decide) me26 (by decide +kernel) gw80 gw84 gw81
set_option maxRecDepth 100000 in
theorem lk40 : ∀ pc, ev_kb MM "LeftAnswers" pc (.getfield 70) 10 10 = true := kb_getf (by decide +kernel) gw61
set_option maxRecDepth 100000 in
theorem lk41 : ∀ pc, ev_kb MM "LeftAnswers" pc (.getfield 19) 10 1 = true := kb_getf (by decide +kernel) gw16
set_option maxRecDepth 100000 in
theorem lk42 : ∀ pc, ev_kb MM "LeftAnswers" pc (.getfield 29) 10 3 = true := kb_getf (by decide +kernel) gw24
set_option maxRecDepth 100000 in
theorem lk43 : ∀ pc, ev_kb MM "LeftAnswers" pc (.invokevirtual 290) 69 2 = true := kb_vi (by decide) me69 (by decide +kernel) gw85 gw88 gw86
set_option maxRecDepth 100000 in
theorem lk44 : ∀ pc, ev_kb MM "LeftAnswers" pc (.getfield 46) 10 6 = true := kb_getf (by decide +kernel) gw39
set_option maxRecDepth 100000 in
theorem lk45 : ∀ pc, ev_kb MM "LeftAnswers" pc (.getfield 10) 10 0 = true := kb_getf (by decide +kernel) gw9
set_option maxRecDepth 100000 in
theorem lk46 : ∀ pc, ev_kb MM "LeftAnswers" pc (.invokevirtual 318) 45 2 = true := kb_vi (by decide) me45 (by decide +kernel) gw89 gw92 gw90
set_option maxRecDepth 100000 in
theorem lk47 : ∀ pc, ev_kb MM "LeftAnswers" pc (.invokevirtual 112) 38 0 = true := kb_vi (by decide) me38 (by decide +kernel) gw93 gw96 gw94
set_option maxRecDepth 100000 in
theorem lk48 : ∀ pc, ev_kb MM "LeftAnswers" pc (.getfield 88) 10 13 = true := kb_getf (by decide +kernel) gw76
set_option maxRecDepth 100000 in
theorem lk49 : ∀ pc, ev_kb MM "LeftAnswers" pc (.getfield 33) 10 4 = true := kb_getf (by decide +kernel) gw25
set_option maxRecDepth 100000 in
theorem lk50 : ∀ pc, ev_kb MM "LeftAnswers" pc (.invokevirtual 315) 58 1 = true := kb_vi (by decide) me58 (by decide +kernel) gw97 gw100 gw98
set_option maxRecDepth 100000 in
theorem lk51 : ∀ pc, ev_kb MM "LeftAnswers" pc (.invokevirtual 321) 44 2 = true := kb_vi (by decide) me44 (by decide +kernel) gw101 gw104 gw102
set_option maxRecDepth 100000 in
theorem lk52 : ∀ pc, ev_kb MM "LeftAnswers" pc (.getfield 39) 10 5 = true := kb_getf (by decide +kernel) gw32
set_option maxRecDepth 100000 in
theorem lk53 : ∀ pc, ev_kb MM "LeftAnswers" pc (.invokevirtual 226) 74 1 = true := kb_vi (by decide) me74 (by decide +kernel) gw105 gw108 gw106
set_option maxRecDepth 100000 in
theorem lk54 : ∀ pc, ev_kb MM "LeftAnswers" pc (.getfield 325) 0 6 = true := kb_getf (by decide +kernel) gw109
set_option maxRecDepth 100000 in
theorem lk55 : ∀ pc, ev_kb MM "LeftAnswers" pc (.getfield 77) 10 11 = true := kb_getf (by decide +kernel) gw68
set_option maxRecDepth 100000 in
theorem lk56 : ∀ pc, ev_kb MM "LeftAnswers" pc (.getfield 306) 8 1 = true := kb_getf (by decide +kernel) gw110
set_option maxRecDepth 100000 in
theorem lk57 : ∀ pc, ev_kb MM "LeftAnswers" pc (.getfield 299) 1 0 = true := kb_getf (by decide +kernel) gw111
set_option maxRecDepth 100000 in
theorem lk58 : ∀ pc, ev_kb MM "LeftAnswers" pc (.getfield 360) 1 1 = true := kb_getf (by decide +kernel) gw112
set_option maxRecDepth 100000 in
theorem lk59 : ∀ pc, ev_kb MM "LeftAnswers" pc (.getfield 363) 1 2 = true := kb_getf (by decide +kernel) gw113
set_option maxRecDepth 100000 in
theorem lk60 : ∀ pc, ev_kb MM "LeftAnswers" pc (.getfield 366) 1 3 = true := kb_getf (by decide +kernel) gw114
set_option maxRecDepth 100000 in
theorem lk61 : ∀ pc, ev_kb MM "LeftAnswers" pc (.getfield 368) 1 4 = true := kb_getf (by decide +kernel) gw115
set_option maxRecDepth 100000 in
theorem lk62 : ∀ pc, ev_kb MM "LeftAnswers" pc (.getfield 101) 9 1 = true := kb_getf (by decide +kernel) gw116
set_option maxRecDepth 100000 in
theorem lk63 : ∀ pc, ev_kb MM "LeftAnswers" pc (.invokevirtual 218) 59 0 = true := kb_vi (by decide) me59 (by decide +kernel) gw117 gw120 gw118
set_option maxRecDepth 100000 in
theorem lk64 : ∀ pc, ev_kb MM "LeftAnswers" pc (.invokestatic 221) 901 2 = true := kb_min gw121 gw122 gw123 gw124
set_option maxRecDepth 100000 in
theorem lk65 : ∀ pc, ev_kb MM "LeftAnswers" pc (.invokevirtual 230) 64 2 = true := kb_vi (by decide) me64 (by decide +kernel) gw125 gw128 gw126
set_option maxRecDepth 100000 in
theorem lk66 : ∀ pc, ev_kb MM "LeftAnswers" pc (.invokevirtual 174) 25 1 = true := kb_vi (by decide) me25 (by decide +kernel) gw129 gw132 gw130
set_option maxRecDepth 100000 in
theorem lk67 : ∀ pc, ev_kb MM "LeftAnswers" pc (.getfield 23) 10 2 = true := kb_getf (by decide +kernel) gw17
set_option maxRecDepth 100000 in
theorem lk68 : ∀ pc, ev_kb MM "LeftAnswers" pc (.invokevirtual 108) 52 1 = true := kb_vi (by decide) me52 (by decide +kernel) gw133 gw136 gw134
set_option maxRecDepth 100000 in
theorem lk69 : ∀ pc, ev_kb MM "LeftAnswers" pc (.getfield 118) 1 5 = true := kb_getf (by decide +kernel) gw137
set_option maxRecDepth 100000 in
theorem lk70 : ∀ pc, ev_kb MM "LeftAnswers" pc (.invokevirtual 121) 57 1 = true := kb_vi (by decide) me57 (by decide +kernel) gw138 gw141 gw139
set_option maxRecDepth 100000 in
theorem lk71 : ∀ pc, ev_kb MM "LeftAnswers" pc (.invokevirtual 124) 73 0 = true := kb_vi (by decide) me73 (by decide +kernel) gw142 gw145 gw143
set_option maxRecDepth 100000 in
theorem lk72 : ∀ pc, ev_kb MM "LeftAnswers" pc (.getfield 53) 10 7 = true := kb_getf (by decide +kernel) gw46
set_option maxRecDepth 100000 in
theorem lk73 : ∀ pc, ev_kb MM "LeftAnswers" pc (.invokevirtual 127) 78 0 = true := kb_vi (by decide) me78 (by decide +kernel) gw146 gw149 gw147
set_option maxRecDepth 100000 in
theorem lk74 : ∀ pc, ev_kb MM "LeftAnswers" pc (.putfield 101) 9 1 = true := kb_putf (by decide +kernel) gw116
set_option maxRecDepth 100000 in
theorem lk75 : ∀ pc, ev_kb MM "LeftAnswers" pc (.invokevirtual 104) 89 1 = true := kb_vi (by decide) me89 (by decide +kernel) gw150 gw153 gw151
set_option maxRecDepth 100000 in
theorem lk76 : ∀ pc, ev_kb MM "LeftAnswers" pc (.getfield 92) 10 14 = true := kb_getf (by decide +kernel) gw77
set_option maxRecDepth 100000 in
theorem lk77 : ∀ pc, ev_kb MM "LeftAnswers" pc (.invokestatic 281) 5 2 = true := kb_st (by decide) me5 gw154 gw156
set_option maxRecDepth 100000 in
theorem lk78 : ∀ pc, ev_kb MM "LeftAnswers" pc (.getfield 98) 10 16 = true := kb_getf (by decide +kernel) gw79
set_option maxRecDepth 100000 in
theorem lk79 : ∀ pc, ev_kb MM "LeftAnswers" pc (.invokevirtual 287) 50 0 = true := kb_vi (by decide) me50 (by decide +kernel) gw157 gw160 gw158
set_option maxRecDepth 100000 in
theorem lk80 : ∀ pc, ev_kb MM "LeftAnswers" pc (.invokestatic 276) 160 1 = true := kb_st (by decide) me160 gw161 gw164
set_option maxRecDepth 100000 in
theorem lk81 : ∀ pc, ev_kb MM "LeftAnswers" pc (.getfield 84) 10 12 = true := kb_getf (by decide +kernel) gw75
set_option maxRecDepth 100000 in
theorem lk82 : ∀ pc, ev_kb MM "LeftAnswers" pc (.invokevirtual 351) 54 3 = true := kb_vi (by decide) me54 (by decide +kernel) gw165 gw168 gw166
set_option maxRecDepth 100000 in
theorem lk83 : ∀ pc, ev_kb MM "LeftAnswers" pc (.getfield 190) 3 0 = true := kb_getf (by decide +kernel) gw169
set_option maxRecDepth 100000 in
theorem lk84 : ∀ pc, ev_kb MM "LeftAnswers" pc (.invokevirtual 193) 62 0 = true := kb_vi (by decide) me62 (by decide +kernel) gw170 gw173 gw171
set_option maxRecDepth 100000 in
theorem lk85 : ∀ pc, ev_kb MM "LeftAnswers" pc (.getfield 197) 3 3 = true := kb_getf (by decide +kernel) gw174
set_option maxRecDepth 100000 in
theorem lk86 : ∀ pc, ev_kb MM "LeftAnswers" pc (.invokevirtual 198) 66 0 = true := kb_vi (by decide) me66 (by decide +kernel) gw175 gw178 gw176
set_option maxRecDepth 100000 in
theorem lk87 : ∀ pc, ev_kb MM "LeftAnswers" pc (.invokevirtual 201) 65 1 = true := kb_vi (by decide) me65 (by decide +kernel) gw179 gw182 gw180
set_option maxRecDepth 100000 in
theorem lk88 : ∀ pc, ev_kb MM "LeftAnswers" pc (.invokevirtual 205) 56 0 = true := kb_vi (by decide) me56 (by decide +kernel) gw183 gw186 gw184
set_option maxRecDepth 100000 in
theorem lk89 : ∀ pc, ev_kb MM "LeftAnswers" pc (.getfield 208) 3 1 = true := kb_getf (by decide +kernel) gw187
set_option maxRecDepth 100000 in
theorem lk90 : ∀ pc, ev_kb MM "LeftAnswers" pc (.getfield 211) 3 2 = true := kb_getf (by decide +kernel) gw188
set_option maxRecDepth 100000 in
theorem lk91 : ∀ pc, ev_kb MM "LeftAnswers" pc (.getfield 63) 10 9 = true := kb_getf (by decide +kernel) gw54
set_option maxRecDepth 100000 in
theorem lk92 : ∀ pc, ev_kb MM "LeftAnswers" pc (.invokevirtual 260) 71 1 = true := kb_vi (by decide) me71 (by decide +kernel) gw189 gw192 gw190
set_option maxRecDepth 100000 in
theorem lk93 : ∀ pc, ev_kb MM "LeftAnswers" pc (.getfield 354) 2 0 = true := kb_getf (by decide +kernel) gw193
set_option maxRecDepth 100000 in
theorem lk94 : ∀ pc, ev_kb MM "LeftAnswers" pc (.getfield 345) 7 0 = true := kb_getf (by decide +kernel) gw194
set_option maxRecDepth 100000 in
theorem lk95 : ∀ pc, ev_kb MM "LeftAnswers" pc (.getfield 57) 10 8 = true := kb_getf (by decide +kernel) gw47
set_option maxRecDepth 100000 in
theorem lk96 : ∀ pc, ev_kb MM "LeftAnswers" pc (.invokevirtual 344) 82 2 = true := kb_vi (by decide) me82 (by decide +kernel) gw195 gw198 gw196
set_option maxRecDepth 100000 in
theorem lk97 : ∀ pc, ev_kb MM "LeftAnswers" pc (.getfield 115) 9 11 = true := kb_getf (by decide +kernel) gw199
set_option maxRecDepth 100000 in
theorem lk98 : ∀ pc, ev_kb MM "LeftAnswers" pc (.getfield 378) 9 10 = true := kb_getf (by decide +kernel) gw200
set_option maxRecDepth 100000 in
theorem lk99 : ∀ pc, ev_kb MM "LeftAnswers" pc (.getfield 95) 10 15 = true := kb_getf (by decide +kernel) gw78
set_option maxRecDepth 100000 in
theorem lk100 : ∀ pc, ev_kb MM "LeftAnswers" pc (.getfield 328) 0 5 = true := kb_getf (by decide +kernel) gw201
set_option maxRecDepth 100000 in
theorem lk101 : ∀ pc, ev_kb MM "LeftAnswers" pc (.invokevirtual 234) 75 1 = true := kb_vi (by decide) me75 (by decide +kernel) gw202 gw205 gw203
set_option maxRecDepth 100000 in
theorem lk102 : ∀ pc, ev_kb MM "LeftAnswers$Book" pc (.invokespecial 3) 999 0 = true := kb_obj gw206 gw1 gw2
set_option maxRecDepth 100000 in
theorem lk103 : ∀ pc, ev_kb MM "LeftAnswers$Book" pc (.newarray .int) 0 0 = true := kb_newa gw207
set_option maxRecDepth 100000 in
theorem lk104 : ∀ pc, ev_kb MM "LeftAnswers$Book" pc (.putfield 11) 0 0 = true := kb_putf (by decide +kernel) gw208
set_option maxRecDepth 100000 in
theorem lk105 : ∀ pc, ev_kb MM "LeftAnswers$Book" pc (.putfield 15) 0 1 = true := kb_putf (by decide +kernel) gw209
set_option maxRecDepth 100000 in
theorem lk106 : ∀ pc, ev_kb MM "LeftAnswers$Book" pc (.putfield 18) 0 2 = true := kb_putf (by decide +kernel) gw210
set_option maxRecDepth 100000 in
theorem lk107 : ∀ pc, ev_kb MM "LeftAnswers$Book" pc (.putfield 21) 0 3 = true := kb_putf (by decide +kernel) gw211
set_option maxRecDepth 100000 in
theorem lk108 : ∀ pc, ev_kb MM "LeftAnswers$Book" pc (.putfield 101) 0 7 = true := kb_putf (by decide +kernel) gw212
set_option maxRecDepth 100000 in
theorem lk109 : ∀ pc, ev_kb MM "LeftAnswers$Book" pc (.putfield 104) 0 6 = true := kb_putf (by decide +kernel) gw213
set_option maxRecDepth 100000 in
theorem lk110 : ∀ pc, ev_kb MM "LeftAnswers$Book" pc (.putfield 107) 0 8 = true := kb_putf (by decide +kernel) gw214
set_option maxRecDepth 100000 in
theorem lk111 : ∀ pc, ev_kb MM "LeftAnswers$Book" pc (.getfield 24) 0 4 = true := kb_getf (by decide +kernel) gw215
set_option maxRecDepth 100000 in
theorem lk112 : ∀ pc, ev_kb MM "LeftAnswers$Book" pc (.getfield 120) 3 0 = true := kb_getf (by decide +kernel) gw216
set_option maxRecDepth 100000 in
theorem lk113 : ∀ pc, ev_kb MM "LeftAnswers$Book" pc (.putfield 123) 0 9 = true := kb_putf (by decide +kernel) gw217
set_option maxRecDepth 100000 in
theorem lk114 : ∀ pc, ev_kb MM "LeftAnswers$Book" pc (.invokevirtual 126) 62 0 = true := kb_vi (by decide) me62 (by decide +kernel) gw218 gw173 gw171
set_option maxRecDepth 100000 in
theorem lk115 : ∀ pc, ev_kb MM "LeftAnswers$Book" pc (.putfield 129) 0 10 = true := kb_putf (by decide +kernel) gw219
set_option maxRecDepth 100000 in
theorem lk116 : ∀ pc, ev_kb MM "LeftAnswers$Book" pc (.putfield 132) 0 5 = true := kb_putf (by decide +kernel) gw220
set_option maxRecDepth 100000 in
theorem lk117 : ∀ pc, ev_kb MM "LeftAnswers$Book" pc (.putfield 24) 0 4 = true := kb_putf (by decide +kernel) gw215
set_option maxRecDepth 100000 in
theorem lk118 : ∀ pc, ev_kb MM "LeftAnswers$Book" pc (.invokevirtual 28) 88 1 = true := kb_vi (by decide) me88 (by decide +kernel) gw221 gw224 gw222
set_option maxRecDepth 100000 in
theorem lk119 : ∀ pc, ev_kb MM "LeftAnswers$Book" pc (.getfield 34) 9 4 = true := kb_getf (by decide +kernel) gw225
set_option maxRecDepth 100000 in
theorem lk120 : ∀ pc, ev_kb MM "LeftAnswers$Duchy" pc (.invokespecial 3) 999 0 = true := kb_obj gw226 gw1 gw2
set_option maxRecDepth 100000 in
theorem lk121 : ∀ pc, ev_kb MM "LeftAnswers$Duchy" pc (.newarray .long) 0 0 = true := kb_newa gw227
set_option maxRecDepth 100000 in
theorem lk122 : ∀ pc, ev_kb MM "LeftAnswers$Duchy" pc (.putfield 9) 1 7 = true := kb_putf (by decide +kernel) gw228
set_option maxRecDepth 100000 in
theorem lk123 : ∀ pc, ev_kb MM "LeftAnswers$Duchy" pc (.newarray .int) 0 0 = true := kb_newa gw207
set_option maxRecDepth 100000 in
theorem lk124 : ∀ pc, ev_kb MM "LeftAnswers$Duchy" pc (.putfield 15) 1 8 = true := kb_putf (by decide +kernel) gw229
set_option maxRecDepth 100000 in
theorem lk125 : ∀ pc, ev_kb MM "LeftAnswers$Duchy" pc (.putfield 19) 1 9 = true := kb_putf (by decide +kernel) gw230
set_option maxRecDepth 100000 in
theorem lk126 : ∀ pc, ev_kb MM "LeftAnswers$Duchy" pc (.putfield 22) 1 14 = true := kb_putf (by decide +kernel) gw231
set_option maxRecDepth 100000 in
theorem lk127 : ∀ pc, ev_kb MM "LeftAnswers$Duchy" pc (.putfield 25) 1 15 = true := kb_putf (by decide +kernel) gw232
set_option maxRecDepth 100000 in
theorem lk128 : ∀ pc, ev_kb MM "LeftAnswers$Duchy" pc (.putfield 28) 1 10 = true := kb_putf (by decide +kernel) gw233
set_option maxRecDepth 100000 in
theorem lk129 : ∀ pc, ev_kb MM "LeftAnswers$Duchy" pc (.putfield 31) 1 11 = true := kb_putf (by decide +kernel) gw234
set_option maxRecDepth 100000 in
theorem lk130 : ∀ pc, ev_kb MM "LeftAnswers$Duchy" pc (.putfield 34) 1 12 = true := kb_putf (by decide +kernel) gw235
set_option maxRecDepth 100000 in
theorem lk131 : ∀ pc, ev_kb MM "LeftAnswers$Duchy" pc (.putfield 37) 1 13 = true := kb_putf (by decide +kernel) gw236
set_option maxRecDepth 100000 in
theorem lk132 : ∀ pc, ev_kb MM "LeftAnswers$Duchy" pc (.invokevirtual 40) 51 0 = true := kb_vi (by decide) me51 (by decide +kernel) gw237 gw240 gw238
set_option maxRecDepth 100000 in
theorem lk133 : ∀ pc, ev_kb MM "LeftAnswers$Duchy" pc (.getfield 43) 1 0 = true := kb_getf (by decide +kernel) gw241
set_option maxRecDepth 100000 in
theorem lk134 : ∀ pc, ev_kb MM "LeftAnswers$Duchy" pc (.putfield 43) 1 0 = true := kb_putf (by decide +kernel) gw241
set_option maxRecDepth 100000 in
theorem lk135 : ∀ pc, ev_kb MM "LeftAnswers$Duchy" pc (.putfield 47) 1 1 = true := kb_putf (by decide +kernel) gw242
set_option maxRecDepth 100000 in
theorem lk136 : ∀ pc, ev_kb MM "LeftAnswers$Duchy" pc (.putfield 50) 1 2 = true := kb_putf (by decide +kernel) gw243
set_option maxRecDepth 100000 in
theorem lk137 : ∀ pc, ev_kb MM "LeftAnswers$Duchy" pc (.putfield 53) 1 3 = true := kb_putf (by decide +kernel) gw244
set_option maxRecDepth 100000 in
theorem lk138 : ∀ pc, ev_kb MM "LeftAnswers$Duchy" pc (.putfield 56) 1 4 = true := kb_putf (by decide +kernel) gw245
set_option maxRecDepth 100000 in
theorem lk139 : ∀ pc, ev_kb MM "LeftAnswers$Duchy" pc (.putfield 59) 1 5 = true := kb_putf (by decide +kernel) gw246
set_option maxRecDepth 100000 in
theorem lk140 : ∀ pc, ev_kb MM "LeftAnswers$Duchy" pc (.putfield 62) 1 6 = true := kb_putf (by decide +kernel) gw247
set_option maxRecDepth 100000 in
theorem lk141 : ∀ pc, ev_kb MM "LeftAnswers$Duchy" pc (.getfield 22) 1 14 = true := kb_getf (by decide +kernel) gw231
set_option maxRecDepth 100000 in
theorem lk142 : ∀ pc, ev_kb MM "LeftAnswers$Duchy" pc (.getfield 25) 1 15 = true := kb_getf (by decide +kernel) gw232
set_option maxRecDepth 100000 in
theorem lk143 : ∀ pc, ev_kb MM "LeftAnswers$Duchy" pc (.getfield 47) 1 1 = true := kb_getf (by decide +kernel) gw242
set_option maxRecDepth 100000 in
theorem lk144 : ∀ pc, ev_kb MM "LeftAnswers$Duchy" pc (.getfield 50) 1 2 = true := kb_getf (by decide +kernel) gw243
set_option maxRecDepth 100000 in
theorem lk145 : ∀ pc, ev_kb MM "LeftAnswers$Duchy" pc (.getfield 53) 1 3 = true := kb_getf (by decide +kernel) gw244
set_option maxRecDepth 100000 in
theorem lk146 : ∀ pc, ev_kb MM "LeftAnswers$Duchy" pc (.getfield 56) 1 4 = true := kb_getf (by decide +kernel) gw245
set_option maxRecDepth 100000 in
theorem lk147 : ∀ pc, ev_kb MM "LeftAnswers$Duchy" pc (.getfield 59) 1 5 = true := kb_getf (by decide +kernel) gw246
set_option maxRecDepth 100000 in
theorem lk148 : ∀ pc, ev_kb MM "LeftAnswers$Duchy" pc (.getfield 62) 1 6 = true := kb_getf (by decide +kernel) gw247
set_option maxRecDepth 100000 in
theorem lk149 : ∀ pc, ev_kb MM "LeftAnswers$Duchy" pc (.getfield 9) 1 7 = true := kb_getf (by decide +kernel) gw228
set_option maxRecDepth 100000 in
theorem lk150 : ∀ pc, ev_kb MM "LeftAnswers$Duchy" pc (.invokestatic 65) 904 5 = true := kb_cpy rfl gw248 gw249 gw250 gw251
set_option maxRecDepth 100000 in
theorem lk151 : ∀ pc, ev_kb MM "LeftAnswers$Duchy" pc (.getfield 15) 1 8 = true := kb_getf (by decide +kernel) gw229
set_option maxRecDepth 100000 in
theorem lk152 : ∀ pc, ev_kb MM "LeftAnswers$Duchy" pc (.getfield 19) 1 9 = true := kb_getf (by decide +kernel) gw230
set_option maxRecDepth 100000 in
theorem lk153 : ∀ pc, ev_kb MM "LeftAnswers$Duchy" pc (.getfield 28) 1 10 = true := kb_getf (by decide +kernel) gw233
set_option maxRecDepth 100000 in
theorem lk154 : ∀ pc, ev_kb MM "LeftAnswers$Duchy" pc (.getfield 31) 1 11 = true := kb_getf (by decide +kernel) gw234
set_option maxRecDepth 100000 in
theorem lk155 : ∀ pc, ev_kb MM "LeftAnswers$Duchy" pc (.getfield 34) 1 12 = true := kb_getf (by decide +kernel) gw235
set_option maxRecDepth 100000 in
theorem lk156 : ∀ pc, ev_kb MM "LeftAnswers$Duchy" pc (.getfield 37) 1 13 = true := kb_getf (by decide +kernel) gw236
set_option maxRecDepth 100000 in
theorem lk157 : ∀ pc, ev_kb MM "LeftAnswers$Duchy" pc (.invokevirtual 200) 47 0 = true := kb_vi (by decide) me47 (by decide +kernel) gw252 gw255 gw253
set_option maxRecDepth 100000 in
theorem lk158 : ∀ pc, ev_kb MM "LeftAnswers$Duchy" pc (.invokestatic 183) 160 1 = true := kb_st (by decide) me160 gw256 gw164
set_option maxRecDepth 100000 in
theorem lk159 : ∀ pc, ev_kb MM "LeftAnswers$Duchy" pc (.invokevirtual 71) 48 0 = true := kb_vi (by decide) me48 (by decide +kernel) gw257 gw260 gw258
set_option maxRecDepth 100000 in
theorem lk160 : ∀ pc, ev_kb MM "LeftAnswers$Duchy" pc (.invokevirtual 74) 88 1 = true := kb_vi (by decide) me88 (by decide +kernel) gw261 gw224 gw222
set_option maxRecDepth 100000 in
theorem lk161 : ∀ pc, ev_kb MM "LeftAnswers$Duchy" pc (.getfield 80) 9 4 = true := kb_getf (by decide +kernel) gw262
set_option maxRecDepth 100000 in
theorem lk162 : ∀ pc, ev_kb MM "LeftAnswers$Image" pc (.invokespecial 1) 999 0 = true := kb_obj gw263 gw1 gw2
set_option maxRecDepth 100000 in
theorem lk163 : ∀ pc, ev_kb MM "LeftAnswers$Image" pc (.new 7) 1 0 = true := kb_new (by decide) gw264 gw11 gw12
set_option maxRecDepth 100000 in
theorem lk164 : ∀ pc, ev_kb MM "LeftAnswers$Image" pc (.invokespecial 9) 46 0 = true := kb_sp (by decide) me46 (by decide +kernel) gw265 gw15
set_option maxRecDepth 100000 in
theorem lk165 : ∀ pc, ev_kb MM "LeftAnswers$Image" pc (.putfield 10) 2 1 = true := kb_putf (by decide +kernel) gw266
set_option maxRecDepth 100000 in
theorem lk166 : ∀ pc, ev_kb MM "LeftAnswers$Image" pc (.new 16) 3 0 = true := kb_new (by decide) gw267 gw19 gw20
set_option maxRecDepth 100000 in
theorem lk167 : ∀ pc, ev_kb MM "LeftAnswers$Image" pc (.invokespecial 18) 55 0 = true := kb_sp (by decide) me55 (by decide +kernel) gw268 gw23
set_option maxRecDepth 100000 in
theorem lk168 : ∀ pc, ev_kb MM "LeftAnswers$Image" pc (.putfield 19) 2 2 = true := kb_putf (by decide +kernel) gw269
set_option maxRecDepth 100000 in
theorem lk169 : ∀ pc, ev_kb MM "LeftAnswers$Image" pc (.new 23) 7 0 = true := kb_new (by decide) gw270 gw41 gw42
set_option maxRecDepth 100000 in
theorem lk170 : ∀ pc, ev_kb MM "LeftAnswers$Image" pc (.invokespecial 25) 76 0 = true := kb_sp (by decide) me76 (by decide +kernel) gw271 gw45
set_option maxRecDepth 100000 in
theorem lk171 : ∀ pc, ev_kb MM "LeftAnswers$Image" pc (.putfield 26) 2 3 = true := kb_putf (by decide +kernel) gw272
set_option maxRecDepth 100000 in
theorem lk172 : ∀ pc, ev_kb MM "LeftAnswers$Image" pc (.getfield 10) 2 1 = true := kb_getf (by decide +kernel) gw266
set_option maxRecDepth 100000 in
theorem lk173 : ∀ pc, ev_kb MM "LeftAnswers$Image" pc (.invokevirtual 30) 49 1 = true := kb_vi (by decide) me49 (by decide +kernel) gw273 gw276 gw274
set_option maxRecDepth 100000 in
theorem lk174 : ∀ pc, ev_kb MM "LeftAnswers$Image" pc (.getfield 19) 2 2 = true := kb_getf (by decide +kernel) gw269
set_option maxRecDepth 100000 in
theorem lk175 : ∀ pc, ev_kb MM "LeftAnswers$Image" pc (.invokevirtual 34) 58 1 = true := kb_vi (by decide) me58 (by decide +kernel) gw277 gw100 gw98
set_option maxRecDepth 100000 in
theorem lk176 : ∀ pc, ev_kb MM "LeftAnswers$Image" pc (.getfield 26) 2 3 = true := kb_getf (by decide +kernel) gw272
set_option maxRecDepth 100000 in
theorem lk177 : ∀ pc, ev_kb MM "LeftAnswers$Image" pc (.invokevirtual 37) 79 1 = true := kb_vi (by decide) me79 (by decide +kernel) gw278 gw281 gw279
set_option maxRecDepth 100000 in
theorem lk178 : ∀ pc, ev_kb MM "LeftAnswers$Image" pc (.putfield 40) 2 0 = true := kb_putf (by decide +kernel) gw282
set_option maxRecDepth 100000 in
theorem lk179 : ∀ pc, ev_kb MM "LeftAnswers$Life" pc (.invokespecial 3) 999 0 = true := kb_obj gw283 gw1 gw2
set_option maxRecDepth 100000 in
theorem lk180 : ∀ pc, ev_kb MM "LeftAnswers$Life" pc (.newarray .int) 0 0 = true := kb_newa gw207
set_option maxRecDepth 100000 in
theorem lk181 : ∀ pc, ev_kb MM "LeftAnswers$Life" pc (.putfield 9) 3 5 = true := kb_putf (by decide +kernel) gw284
set_option maxRecDepth 100000 in
theorem lk182 : ∀ pc, ev_kb MM "LeftAnswers$Life" pc (.putfield 15) 3 6 = true := kb_putf (by decide +kernel) gw285
set_option maxRecDepth 100000 in
theorem lk183 : ∀ pc, ev_kb MM "LeftAnswers$Life" pc (.putfield 18) 3 7 = true := kb_putf (by decide +kernel) gw286
set_option maxRecDepth 100000 in
theorem lk184 : ∀ pc, ev_kb MM "LeftAnswers$Life" pc (.putfield 21) 3 8 = true := kb_putf (by decide +kernel) gw287
set_option maxRecDepth 100000 in
theorem lk185 : ∀ pc, ev_kb MM "LeftAnswers$Life" pc (.putfield 24) 3 9 = true := kb_putf (by decide +kernel) gw288
set_option maxRecDepth 100000 in
theorem lk186 : ∀ pc, ev_kb MM "LeftAnswers$Life" pc (.putfield 27) 3 10 = true := kb_putf (by decide +kernel) gw289
set_option maxRecDepth 100000 in
theorem lk187 : ∀ pc, ev_kb MM "LeftAnswers$Life" pc (.putfield 30) 3 11 = true := kb_putf (by decide +kernel) gw290
set_option maxRecDepth 100000 in
theorem lk188 : ∀ pc, ev_kb MM "LeftAnswers$Life" pc (.invokevirtual 33) 57 1 = true := kb_vi (by decide) me57 (by decide +kernel) gw291 gw141 gw139
set_option maxRecDepth 100000 in
theorem lk189 : ∀ pc, ev_kb MM "LeftAnswers$Life" pc (.getfield 9) 3 5 = true := kb_getf (by decide +kernel) gw284
set_option maxRecDepth 100000 in
theorem lk190 : ∀ pc, ev_kb MM "LeftAnswers$Life" pc (.putfield 37) 3 0 = true := kb_putf (by decide +kernel) gw292
set_option maxRecDepth 100000 in
theorem lk191 : ∀ pc, ev_kb MM "LeftAnswers$Life" pc (.putfield 41) 3 1 = true := kb_putf (by decide +kernel) gw293
set_option maxRecDepth 100000 in
theorem lk192 : ∀ pc, ev_kb MM "LeftAnswers$Life" pc (.putfield 44) 3 2 = true := kb_putf (by decide +kernel) gw294
set_option maxRecDepth 100000 in
theorem lk193 : ∀ pc, ev_kb MM "LeftAnswers$Life" pc (.putfield 47) 3 3 = true := kb_putf (by decide +kernel) gw295
set_option maxRecDepth 100000 in
theorem lk194 : ∀ pc, ev_kb MM "LeftAnswers$Life" pc (.getfield 15) 3 6 = true := kb_getf (by decide +kernel) gw285
set_option maxRecDepth 100000 in
theorem lk195 : ∀ pc, ev_kb MM "LeftAnswers$Life" pc (.getfield 18) 3 7 = true := kb_getf (by decide +kernel) gw286
set_option maxRecDepth 100000 in
theorem lk196 : ∀ pc, ev_kb MM "LeftAnswers$Life" pc (.getfield 21) 3 8 = true := kb_getf (by decide +kernel) gw287
set_option maxRecDepth 100000 in
theorem lk197 : ∀ pc, ev_kb MM "LeftAnswers$Life" pc (.getfield 24) 3 9 = true := kb_getf (by decide +kernel) gw288
set_option maxRecDepth 100000 in
theorem lk198 : ∀ pc, ev_kb MM "LeftAnswers$Life" pc (.getfield 27) 3 10 = true := kb_getf (by decide +kernel) gw289
set_option maxRecDepth 100000 in
theorem lk199 : ∀ pc, ev_kb MM "LeftAnswers$Life" pc (.getfield 30) 3 11 = true := kb_getf (by decide +kernel) gw290
