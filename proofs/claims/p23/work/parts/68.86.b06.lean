set_option maxRecDepth 100000 in
theorem gw900 : Jvm.Cond.fieldLink "LeftAnswersModel" 398 "LeftAnswersModel" "lineMany" "I" ∈ gtb := gtb_t6 (i := 192) rfl (by decide +kernel)
set_option maxRecDepth 100000 in
theorem gw901 : Jvm.Cond.methodLink "LeftAnswersModel" 404 ⟨"LeftAnswersModel", "readBookLine", "()Z"⟩ ∈ gtb := gtb_t8 (i := 217) rfl (by decide +kernel)
set_option maxRecDepth 100000 in
theorem gw902 : Jvm.Cond.selects "LeftAnswersModel" ⟨"LeftAnswersModel", "readBookLine", "()Z"⟩ ⟨"LeftAnswersModel", "readBookLine", "()Z"⟩ ∈ gtb := gtb_in (i := 108) (by decide +kernel) (by decide +kernel)
set_option maxRecDepth 100000 in
theorem gw903 : Jvm.Cond.code ⟨"LeftAnswersModel", "readBookLine", "()Z"⟩ prog_15_method_111_code 3 (some .boolean) ∈ gtb := gtb_t8 (i := 220) rfl (by decide +kernel)
set_option maxRecDepth 100000 in
theorem gw904 : Jvm.Cond.instanceMethod ⟨"LeftAnswersModel", "readBookLine", "()Z"⟩ ∈ gtb := gtb_t8 (i := 219) rfl (by decide +kernel)
set_option maxRecDepth 100000 in
theorem gw905 : Jvm.Cond.methodLink "LeftAnswersModel" 383 ⟨"LeftAnswersModel", "layAside", "()V"⟩ ∈ gtb := gtb_t8 (i := 205) rfl (by decide +kernel)
set_option maxRecDepth 100000 in
theorem gw906 : Jvm.Cond.selects "LeftAnswersModel" ⟨"LeftAnswersModel", "layAside", "()V"⟩ ⟨"LeftAnswersModel", "layAside", "()V"⟩ ∈ gtb := gtb_in (i := 106) (by decide +kernel) (by decide +kernel)
set_option maxRecDepth 100000 in
theorem gw907 : Jvm.Cond.code ⟨"LeftAnswersModel", "layAside", "()V"⟩ prog_15_method_104_code 2 none ∈ gtb := gtb_t8 (i := 208) rfl (by decide +kernel)
set_option maxRecDepth 100000 in
theorem gw908 : Jvm.Cond.instanceMethod ⟨"LeftAnswersModel", "layAside", "()V"⟩ ∈ gtb := gtb_t8 (i := 207) rfl (by decide +kernel)
set_option maxRecDepth 100000 in
theorem gw909 : Jvm.Cond.methodLink "LeftAnswersModel" 407 ⟨"LeftAnswersModel", "goBy", "(I)I"⟩ ∈ gtb := gtb_t8 (i := 237) rfl (by decide +kernel)
set_option maxRecDepth 100000 in
theorem gw910 : Jvm.Cond.selects "LeftAnswersModel" ⟨"LeftAnswersModel", "goBy", "(I)I"⟩ ⟨"LeftAnswersModel", "goBy", "(I)I"⟩ ∈ gtb := gtb_in (i := 113) (by decide +kernel) (by decide +kernel)
set_option maxRecDepth 100000 in
theorem gw911 : Jvm.Cond.code ⟨"LeftAnswersModel", "goBy", "(I)I"⟩ prog_15_method_112_code 4 (some .int) ∈ gtb := gtb_t9 (i := 0) rfl (by decide +kernel)
set_option maxRecDepth 100000 in
theorem gw912 : Jvm.Cond.instanceMethod ⟨"LeftAnswersModel", "goBy", "(I)I"⟩ ∈ gtb := gtb_t8 (i := 239) rfl (by decide +kernel)
set_option maxRecDepth 100000 in
theorem gw913 : Jvm.Cond.methodLink "LeftAnswersModel" 259 ⟨"LeftAnswersModel", "jailed", "()I"⟩ ∈ gtb := gtb_t7 (i := 228) rfl (by decide +kernel)
set_option maxRecDepth 100000 in
theorem gw914 : Jvm.Cond.selects "LeftAnswersModel" ⟨"LeftAnswersModel", "jailed", "()I"⟩ ⟨"LeftAnswersModel", "jailed", "()I"⟩ ∈ gtb := gtb_in (i := 79) (by decide +kernel) (by decide +kernel)
set_option maxRecDepth 100000 in
theorem gw915 : Jvm.Cond.code ⟨"LeftAnswersModel", "jailed", "()I"⟩ prog_15_method_55_code 3 (some .int) ∈ gtb := gtb_t7 (i := 231) rfl (by decide +kernel)
set_option maxRecDepth 100000 in
theorem gw916 : Jvm.Cond.instanceMethod ⟨"LeftAnswersModel", "jailed", "()I"⟩ ∈ gtb := gtb_t7 (i := 230) rfl (by decide +kernel)
set_option maxRecDepth 100000 in
theorem gw917 : Jvm.Cond.fieldLink "LeftAnswersModel" 410 "LeftAnswersModel" "hasWritten" "Z" ∈ gtb := gtb_t6 (i := 193) rfl (by decide +kernel)
set_option maxRecDepth 100000 in
theorem gw918 : Jvm.Cond.methodLink "LeftAnswersModel" 413 ⟨"LeftAnswersModel", "stay", "(Z)V"⟩ ∈ gtb := gtb_t9 (i := 1) rfl (by decide +kernel)
set_option maxRecDepth 100000 in
theorem gw919 : Jvm.Cond.selects "LeftAnswersModel" ⟨"LeftAnswersModel", "stay", "(Z)V"⟩ ⟨"LeftAnswersModel", "stay", "(Z)V"⟩ ∈ gtb := gtb_in (i := 114) (by decide +kernel) (by decide +kernel)
set_option maxRecDepth 100000 in
theorem gw920 : Jvm.Cond.code ⟨"LeftAnswersModel", "stay", "(Z)V"⟩ prog_15_method_114_code 4 none ∈ gtb := gtb_t9 (i := 4) rfl (by decide +kernel)
set_option maxRecDepth 100000 in
theorem gw921 : Jvm.Cond.instanceMethod ⟨"LeftAnswersModel", "stay", "(Z)V"⟩ ∈ gtb := gtb_t9 (i := 3) rfl (by decide +kernel)
set_option maxRecDepth 100000 in
theorem gw922 : Jvm.Cond.fieldLink "LeftAnswersModel" 354 "LeftAnswersModel" "texts" "I" ∈ gtb := gtb_t6 (i := 188) rfl (by decide +kernel)
set_option maxRecDepth 100000 in
theorem gw923 : Jvm.Cond.methodLink "LeftAnswersModel" 207 ⟨"LeftAnswersModel", "has", "(II)Z"⟩ ∈ gtb := gtb_t7 (i := 161) rfl (by decide +kernel)
set_option maxRecDepth 100000 in
theorem gw924 : Jvm.Cond.code ⟨"LeftAnswersModel", "has", "(II)Z"⟩ prog_15_method_8_code 2 (some .boolean) ∈ gtb := gtb_t7 (i := 163) rfl (by decide +kernel)
set_option maxRecDepth 100000 in
theorem gw925 : Jvm.Cond.static ⟨"LeftAnswersModel", "has", "(II)Z"⟩ ∈ gtb := gtb_t7 (i := 162) rfl (by decide +kernel)
set_option maxRecDepth 100000 in
theorem gw926 : Jvm.Cond.methodLink "LeftAnswersModel" 252 ⟨"LeftAnswersModel", "skillOf", "(II)I"⟩ ∈ gtb := gtb_t7 (i := 212) rfl (by decide +kernel)
set_option maxRecDepth 100000 in
theorem gw927 : Jvm.Cond.selects "LeftAnswersModel" ⟨"LeftAnswersModel", "skillOf", "(II)I"⟩ ⟨"LeftAnswersModel", "skillOf", "(II)I"⟩ ∈ gtb := gtb_in (i := 77) (by decide +kernel) (by decide +kernel)
set_option maxRecDepth 100000 in
theorem gw928 : Jvm.Cond.code ⟨"LeftAnswersModel", "skillOf", "(II)I"⟩ prog_15_method_49_code 3 (some .int) ∈ gtb := gtb_t7 (i := 215) rfl (by decide +kernel)
set_option maxRecDepth 100000 in
theorem gw929 : Jvm.Cond.instanceMethod ⟨"LeftAnswersModel", "skillOf", "(II)I"⟩ ∈ gtb := gtb_t7 (i := 214) rfl (by decide +kernel)
set_option maxRecDepth 100000 in
theorem gw930 : Jvm.Cond.methodLink "LeftAnswersModel" 314 ⟨"LeftAnswersModel", "canBy", "(III)Z"⟩ ∈ gtb := gtb_t8 (i := 94) rfl (by decide +kernel)
set_option maxRecDepth 100000 in
theorem gw931 : Jvm.Cond.selects "LeftAnswersModel" ⟨"LeftAnswersModel", "canBy", "(III)Z"⟩ ⟨"LeftAnswersModel", "canBy", "(III)Z"⟩ ∈ gtb := gtb_in (i := 93) (by decide +kernel) (by decide +kernel)
set_option maxRecDepth 100000 in
theorem gw932 : Jvm.Cond.code ⟨"LeftAnswersModel", "canBy", "(III)Z"⟩ prog_15_method_58_code 4 (some .boolean) ∈ gtb := gtb_t8 (i := 97) rfl (by decide +kernel)
set_option maxRecDepth 100000 in
theorem gw933 : Jvm.Cond.instanceMethod ⟨"LeftAnswersModel", "canBy", "(III)Z"⟩ ∈ gtb := gtb_t8 (i := 96) rfl (by decide +kernel)
set_option maxRecDepth 100000 in
theorem gw934 : Jvm.Cond.fieldLink "LeftAnswersModel" 11 "LeftAnswersModel" "taped" "I" ∈ gtb := gtb_t6 (i := 149) rfl (by decide +kernel)
set_option maxRecDepth 100000 in
theorem gw935 : Jvm.Cond.methodLink "LeftAnswersModel" 299 ⟨"LeftAnswersModel", "passDays", "(I)I"⟩ ∈ gtb := gtb_t8 (i := 58) rfl (by decide +kernel)
set_option maxRecDepth 100000 in
theorem gw936 : Jvm.Cond.selects "LeftAnswersModel" ⟨"LeftAnswersModel", "passDays", "(I)I"⟩ ⟨"LeftAnswersModel", "passDays", "(I)I"⟩ ∈ gtb := gtb_in (i := 88) (by decide +kernel) (by decide +kernel)
set_option maxRecDepth 100000 in
theorem gw937 : Jvm.Cond.code ⟨"LeftAnswersModel", "passDays", "(I)I"⟩ prog_15_method_71_code 4 (some .int) ∈ gtb := gtb_t8 (i := 61) rfl (by decide +kernel)
set_option maxRecDepth 100000 in
theorem gw938 : Jvm.Cond.instanceMethod ⟨"LeftAnswersModel", "passDays", "(I)I"⟩ ∈ gtb := gtb_t8 (i := 60) rfl (by decide +kernel)
set_option maxRecDepth 100000 in
theorem gw939 : Jvm.Cond.methodLink "LeftAnswersModel" 268 ⟨"LeftAnswersModel", "bitsOf", "(I)I"⟩ ∈ gtb := gtb_t8 (i := 16) rfl (by decide +kernel)
set_option maxRecDepth 100000 in
theorem gw940 : Jvm.Cond.code ⟨"LeftAnswersModel", "bitsOf", "(I)I"⟩ prog_15_method_50_code 1 (some .int) ∈ gtb := gtb_t8 (i := 18) rfl (by decide +kernel)
set_option maxRecDepth 100000 in
theorem gw941 : Jvm.Cond.static ⟨"LeftAnswersModel", "bitsOf", "(I)I"⟩ ∈ gtb := gtb_t8 (i := 17) rfl (by decide +kernel)
set_option maxRecDepth 100000 in
theorem gw942 : Jvm.Cond.methodLink "LeftAnswersModel" 275 ⟨"LeftAnswersModel", "least", "(II)I"⟩ ∈ gtb := gtb_t8 (i := 31) rfl (by decide +kernel)
set_option maxRecDepth 100000 in
theorem gw943 : Jvm.Cond.code ⟨"LeftAnswersModel", "least", "(II)I"⟩ prog_15_method_10_code 2 (some .int) ∈ gtb := gtb_t8 (i := 33) rfl (by decide +kernel)
set_option maxRecDepth 100000 in
theorem gw944 : Jvm.Cond.static ⟨"LeftAnswersModel", "least", "(II)I"⟩ ∈ gtb := gtb_t8 (i := 32) rfl (by decide +kernel)
set_option maxRecDepth 100000 in
theorem gw945 : Jvm.Cond.methodLink "LeftAnswersModel" 249 ⟨"LeftAnswersModel", "isSeen", "(I)Z"⟩ ∈ gtb := gtb_t7 (i := 200) rfl (by decide +kernel)
set_option maxRecDepth 100000 in
theorem gw946 : Jvm.Cond.selects "LeftAnswersModel" ⟨"LeftAnswersModel", "isSeen", "(I)Z"⟩ ⟨"LeftAnswersModel", "isSeen", "(I)Z"⟩ ∈ gtb := gtb_in (i := 75) (by decide +kernel) (by decide +kernel)
set_option maxRecDepth 100000 in
theorem gw947 : Jvm.Cond.code ⟨"LeftAnswersModel", "isSeen", "(I)Z"⟩ prog_15_method_48_code 3 (some .boolean) ∈ gtb := gtb_t7 (i := 203) rfl (by decide +kernel)
set_option maxRecDepth 100000 in
theorem gw948 : Jvm.Cond.instanceMethod ⟨"LeftAnswersModel", "isSeen", "(I)Z"⟩ ∈ gtb := gtb_t7 (i := 202) rfl (by decide +kernel)
set_option maxRecDepth 100000 in
theorem gw949 : Jvm.Cond.fieldLink "LeftAnswersModel" 370 "LeftAnswersModel" "seed" "I" ∈ gtb := gtb_t6 (i := 189) rfl (by decide +kernel)
set_option maxRecDepth 100000 in
theorem gw950 : Jvm.Cond.constant "LeftAnswersModel" 373 1103515245 ∈ gtb := gtb_t8 (i := 200) rfl (by decide +kernel)
set_option maxRecDepth 100000 in
theorem gw951 : Jvm.Cond.methodLink "LeftAnswersModel" 377 ⟨"LeftAnswersModel", "drawsFor", "(I)V"⟩ ∈ gtb := gtb_t8 (i := 192) rfl (by decide +kernel)
set_option maxRecDepth 100000 in
theorem gw952 : Jvm.Cond.selects "LeftAnswersModel" ⟨"LeftAnswersModel", "drawsFor", "(I)V"⟩ ⟨"LeftAnswersModel", "drawsFor", "(I)V"⟩ ∈ gtb := gtb_in (i := 104) (by decide +kernel) (by decide +kernel)
set_option maxRecDepth 100000 in
theorem gw953 : Jvm.Cond.code ⟨"LeftAnswersModel", "drawsFor", "(I)V"⟩ prog_15_method_101_code 4 none ∈ gtb := gtb_t8 (i := 195) rfl (by decide +kernel)
set_option maxRecDepth 100000 in
theorem gw954 : Jvm.Cond.instanceMethod ⟨"LeftAnswersModel", "drawsFor", "(I)V"⟩ ∈ gtb := gtb_t8 (i := 194) rfl (by decide +kernel)
set_option maxRecDepth 100000 in
theorem gw955 : Jvm.Cond.methodLink "LeftAnswersModel" 296 ⟨"LeftAnswersModel", "oneDay", "()V"⟩ ∈ gtb := gtb_t8 (i := 62) rfl (by decide +kernel)
set_option maxRecDepth 100000 in
theorem gw956 : Jvm.Cond.selects "LeftAnswersModel" ⟨"LeftAnswersModel", "oneDay", "()V"⟩ ⟨"LeftAnswersModel", "oneDay", "()V"⟩ ∈ gtb := gtb_in (i := 89) (by decide +kernel) (by decide +kernel)
set_option maxRecDepth 100000 in
theorem gw957 : Jvm.Cond.code ⟨"LeftAnswersModel", "oneDay", "()V"⟩ prog_15_method_70_code 3 none ∈ gtb := gtb_t8 (i := 65) rfl (by decide +kernel)
set_option maxRecDepth 100000 in
theorem gw958 : Jvm.Cond.instanceMethod ⟨"LeftAnswersModel", "oneDay", "()V"⟩ ∈ gtb := gtb_t8 (i := 64) rfl (by decide +kernel)
set_option maxRecDepth 100000 in
theorem gw959 : Jvm.Cond.methodLink "LeftAnswersModel" 380 ⟨"LeftAnswersModel", "drawDays", "(II)I"⟩ ∈ gtb := gtb_t8 (i := 188) rfl (by decide +kernel)
set_option maxRecDepth 100000 in
theorem gw960 : Jvm.Cond.selects "LeftAnswersModel" ⟨"LeftAnswersModel", "drawDays", "(II)I"⟩ ⟨"LeftAnswersModel", "drawDays", "(II)I"⟩ ∈ gtb := gtb_in (i := 103) (by decide +kernel) (by decide +kernel)
set_option maxRecDepth 100000 in
theorem gw961 : Jvm.Cond.code ⟨"LeftAnswersModel", "drawDays", "(II)I"⟩ prog_15_method_102_code 6 (some .int) ∈ gtb := gtb_t8 (i := 191) rfl (by decide +kernel)
set_option maxRecDepth 100000 in
theorem gw962 : Jvm.Cond.instanceMethod ⟨"LeftAnswersModel", "drawDays", "(II)I"⟩ ∈ gtb := gtb_t8 (i := 190) rfl (by decide +kernel)
set_option maxRecDepth 100000 in
theorem gw963 : Jvm.Cond.methodLink "LeftAnswersModel" 374 ⟨"LeftAnswersModel", "draw", "(I)I"⟩ ∈ gtb := gtb_t8 (i := 196) rfl (by decide +kernel)
set_option maxRecDepth 100000 in
theorem gw964 : Jvm.Cond.selects "LeftAnswersModel" ⟨"LeftAnswersModel", "draw", "(I)I"⟩ ⟨"LeftAnswersModel", "draw", "(I)I"⟩ ∈ gtb := gtb_in (i := 105) (by decide +kernel) (by decide +kernel)
set_option maxRecDepth 100000 in
theorem gw965 : Jvm.Cond.code ⟨"LeftAnswersModel", "draw", "(I)I"⟩ prog_15_method_100_code 2 (some .int) ∈ gtb := gtb_t8 (i := 199) rfl (by decide +kernel)
set_option maxRecDepth 100000 in
theorem gw966 : Jvm.Cond.instanceMethod ⟨"LeftAnswersModel", "draw", "(I)I"⟩ ∈ gtb := gtb_t8 (i := 198) rfl (by decide +kernel)
set_option maxRecDepth 100000 in
theorem gw967 : Jvm.Cond.methodLink "LeftAnswersModel" 278 ⟨"LeftAnswersModel", "doDeed", "(III)V"⟩ ∈ gtb := gtb_t8 (i := 27) rfl (by decide +kernel)
set_option maxRecDepth 100000 in
theorem gw968 : Jvm.Cond.selects "LeftAnswersModel" ⟨"LeftAnswersModel", "doDeed", "(III)V"⟩ ⟨"LeftAnswersModel", "doDeed", "(III)V"⟩ ∈ gtb := gtb_in (i := 87) (by decide +kernel) (by decide +kernel)
set_option maxRecDepth 100000 in
theorem gw969 : Jvm.Cond.code ⟨"LeftAnswersModel", "doDeed", "(III)V"⟩ prog_15_method_61_code 4 none ∈ gtb := gtb_t8 (i := 30) rfl (by decide +kernel)
set_option maxRecDepth 100000 in
theorem gw970 : Jvm.Cond.instanceMethod ⟨"LeftAnswersModel", "doDeed", "(III)V"⟩ ∈ gtb := gtb_t8 (i := 29) rfl (by decide +kernel)
set_option maxRecDepth 100000 in
theorem gw971 : Jvm.Cond.methodLink "LeftAnswersModel" 262 ⟨"LeftAnswersModel", "isWed", "(I)Z"⟩ ∈ gtb := gtb_t7 (i := 232) rfl (by decide +kernel)
set_option maxRecDepth 100000 in
theorem gw972 : Jvm.Cond.selects "LeftAnswersModel" ⟨"LeftAnswersModel", "isWed", "(I)Z"⟩ ⟨"LeftAnswersModel", "isWed", "(I)Z"⟩ ∈ gtb := gtb_in (i := 80) (by decide +kernel) (by decide +kernel)
set_option maxRecDepth 100000 in
theorem gw973 : Jvm.Cond.code ⟨"LeftAnswersModel", "isWed", "(I)Z"⟩ prog_15_method_47_code 2 (some .boolean) ∈ gtb := gtb_t7 (i := 235) rfl (by decide +kernel)
set_option maxRecDepth 100000 in
theorem gw974 : Jvm.Cond.instanceMethod ⟨"LeftAnswersModel", "isWed", "(I)Z"⟩ ∈ gtb := gtb_t7 (i := 234) rfl (by decide +kernel)
set_option maxRecDepth 100000 in
theorem gw975 : Jvm.Cond.methodLink "LeftAnswersModel" 228 ⟨"LeftAnswersModel", "readLine", "()Z"⟩ ∈ gtb := gtb_t7 (i := 93) rfl (by decide +kernel)
set_option maxRecDepth 100000 in
theorem gw976 : Jvm.Cond.selects "LeftAnswersModel" ⟨"LeftAnswersModel", "readLine", "()Z"⟩ ⟨"LeftAnswersModel", "readLine", "()Z"⟩ ∈ gtb := gtb_in (i := 54) (by decide +kernel) (by decide +kernel)
set_option maxRecDepth 100000 in
theorem gw977 : Jvm.Cond.code ⟨"LeftAnswersModel", "readLine", "()Z"⟩ prog_15_method_40_code 2 (some .boolean) ∈ gtb := gtb_t7 (i := 96) rfl (by decide +kernel)
set_option maxRecDepth 100000 in
theorem gw978 : Jvm.Cond.instanceMethod ⟨"LeftAnswersModel", "readLine", "()Z"⟩ ∈ gtb := gtb_t7 (i := 95) rfl (by decide +kernel)
set_option maxRecDepth 100000 in
theorem gw979 : Jvm.Cond.methodLink "LeftAnswersModel" 231 ⟨"LeftAnswersModel", "readEnd", "()Z"⟩ ∈ gtb := gtb_t7 (i := 172) rfl (by decide +kernel)
set_option maxRecDepth 100000 in
theorem gw980 : Jvm.Cond.selects "LeftAnswersModel" ⟨"LeftAnswersModel", "readEnd", "()Z"⟩ ⟨"LeftAnswersModel", "readEnd", "()Z"⟩ ∈ gtb := gtb_in (i := 70) (by decide +kernel) (by decide +kernel)
set_option maxRecDepth 100000 in
theorem gw981 : Jvm.Cond.code ⟨"LeftAnswersModel", "readEnd", "()Z"⟩ prog_15_method_24_code 1 (some .boolean) ∈ gtb := gtb_t7 (i := 175) rfl (by decide +kernel)
set_option maxRecDepth 100000 in
theorem gw982 : Jvm.Cond.instanceMethod ⟨"LeftAnswersModel", "readEnd", "()Z"⟩ ∈ gtb := gtb_t7 (i := 174) rfl (by decide +kernel)
set_option maxRecDepth 100000 in
theorem gw983 : Jvm.Cond.fieldLink "LeftAnswersModel" 234 "LeftAnswersModel" "snapMany" "I" ∈ gtb := gtb_t6 (i := 171) rfl (by decide +kernel)
set_option maxRecDepth 100000 in
theorem gw984 : Jvm.Cond.methodLink "LeftAnswersModel" 351 ⟨"LeftAnswersModel", "payBy", "(II)I"⟩ ∈ gtb := gtb_t8 (i := 152) rfl (by decide +kernel)
set_option maxRecDepth 100000 in
theorem gw985 : Jvm.Cond.selects "LeftAnswersModel" ⟨"LeftAnswersModel", "payBy", "(II)I"⟩ ⟨"LeftAnswersModel", "payBy", "(II)I"⟩ ∈ gtb := gtb_in (i := 98) (by decide +kernel) (by decide +kernel)
set_option maxRecDepth 100000 in
theorem gw986 : Jvm.Cond.code ⟨"LeftAnswersModel", "payBy", "(II)I"⟩ prog_15_method_91_code 5 (some .int) ∈ gtb := gtb_t8 (i := 155) rfl (by decide +kernel)
set_option maxRecDepth 100000 in
theorem gw987 : Jvm.Cond.instanceMethod ⟨"LeftAnswersModel", "payBy", "(II)I"⟩ ∈ gtb := gtb_t8 (i := 154) rfl (by decide +kernel)
set_option maxRecDepth 100000 in
theorem gw988 : Jvm.Cond.methodLink "LeftAnswersModel" 14 ⟨"LeftAnswersModel", "come", "(I)V"⟩ ∈ gtb := gtb_t6 (i := 129) rfl (by decide +kernel)
set_option maxRecDepth 100000 in
theorem gw989 : Jvm.Cond.selects "LeftAnswersModel" ⟨"LeftAnswersModel", "come", "(I)V"⟩ ⟨"LeftAnswersModel", "come", "(I)V"⟩ ∈ gtb := gtb_in (i := 48) (by decide +kernel) (by decide +kernel)
set_option maxRecDepth 100000 in
theorem gw990 : Jvm.Cond.code ⟨"LeftAnswersModel", "come", "(I)V"⟩ prog_15_method_3_code 3 none ∈ gtb := gtb_t6 (i := 133) rfl (by decide +kernel)
set_option maxRecDepth 100000 in
theorem gw991 : Jvm.Cond.instanceMethod ⟨"LeftAnswersModel", "come", "(I)V"⟩ ∈ gtb := gtb_t6 (i := 131) rfl (by decide +kernel)
set_option maxRecDepth 100000 in
theorem gw992 : Jvm.Cond.fieldLink "LeftAnswersModel" 322 "LeftAnswersModel" "fitMany" "I" ∈ gtb := gtb_t6 (i := 179) rfl (by decide +kernel)
set_option maxRecDepth 100000 in
theorem gw993 : Jvm.Cond.methodLink "LeftAnswersModel" 317 ⟨"LeftAnswersModel", "canCode", "(II)Z"⟩ ∈ gtb := gtb_t8 (i := 90) rfl (by decide +kernel)
set_option maxRecDepth 100000 in
theorem gw994 : Jvm.Cond.selects "LeftAnswersModel" ⟨"LeftAnswersModel", "canCode", "(II)Z"⟩ ⟨"LeftAnswersModel", "canCode", "(II)Z"⟩ ∈ gtb := gtb_in (i := 92) (by decide +kernel) (by decide +kernel)
set_option maxRecDepth 100000 in
theorem gw995 : Jvm.Cond.code ⟨"LeftAnswersModel", "canCode", "(II)Z"⟩ prog_15_method_78_code 3 (some .boolean) ∈ gtb := gtb_t8 (i := 93) rfl (by decide +kernel)
set_option maxRecDepth 100000 in
theorem gw996 : Jvm.Cond.instanceMethod ⟨"LeftAnswersModel", "canCode", "(II)Z"⟩ ∈ gtb := gtb_t8 (i := 92) rfl (by decide +kernel)
set_option maxRecDepth 100000 in
theorem gw997 : Jvm.Cond.methodLink "LeftAnswersModel" 325 ⟨"LeftAnswersModel", "offBy", "(II)I"⟩ ∈ gtb := gtb_t8 (i := 98) rfl (by decide +kernel)
set_option maxRecDepth 100000 in
theorem gw998 : Jvm.Cond.selects "LeftAnswersModel" ⟨"LeftAnswersModel", "offBy", "(II)I"⟩ ⟨"LeftAnswersModel", "offBy", "(II)I"⟩ ∈ gtb := gtb_in (i := 94) (by decide +kernel) (by decide +kernel)
set_option maxRecDepth 100000 in
theorem gw999 : Jvm.Cond.code ⟨"LeftAnswersModel", "offBy", "(II)I"⟩ prog_15_method_79_code 5 (some .int) ∈ gtb := gtb_t8 (i := 101) rfl (by decide +kernel)
set_option maxRecDepth 100000 in
theorem gw1000 : Jvm.Cond.instanceMethod ⟨"LeftAnswersModel", "offBy", "(II)I"⟩ ∈ gtb := gtb_t8 (i := 100) rfl (by decide +kernel)
set_option maxRecDepth 100000 in
theorem gw1001 : Jvm.Cond.methodLink "LeftAnswersModel" 33 ⟨"LeftAnswersModel", "isLetter", "(I)Z"⟩ ∈ gtb := gtb_t7 (i := 81) rfl (by decide +kernel)
set_option maxRecDepth 100000 in
theorem gw1002 : Jvm.Cond.code ⟨"LeftAnswersModel", "isLetter", "(I)Z"⟩ prog_15_method_15_code 1 (some .boolean) ∈ gtb := gtb_t7 (i := 83) rfl (by decide +kernel)
set_option maxRecDepth 100000 in
theorem gw1003 : Jvm.Cond.static ⟨"LeftAnswersModel", "isLetter", "(I)Z"⟩ ∈ gtb := gtb_t7 (i := 82) rfl (by decide +kernel)
set_option maxRecDepth 100000 in
theorem gw1004 : Jvm.Cond.methodLink "LeftAnswersModel" 37 ⟨"LeftAnswersModel", "isDigit", "(I)Z"⟩ ∈ gtb := gtb_t7 (i := 84) rfl (by decide +kernel)
set_option maxRecDepth 100000 in
theorem gw1005 : Jvm.Cond.code ⟨"LeftAnswersModel", "isDigit", "(I)Z"⟩ prog_15_method_14_code 1 (some .boolean) ∈ gtb := gtb_t7 (i := 86) rfl (by decide +kernel)
set_option maxRecDepth 100000 in
theorem gw1006 : Jvm.Cond.static ⟨"LeftAnswersModel", "isDigit", "(I)Z"⟩ ∈ gtb := gtb_t7 (i := 85) rfl (by decide +kernel)
set_option maxRecDepth 100000 in
theorem gw1007 : Jvm.Cond.fieldLink "LeftAnswersModel" 40 "LeftAnswersModel" "sign" "I" ∈ gtb := gtb_t6 (i := 156) rfl (by decide +kernel)
set_option maxRecDepth 100000 in
theorem gw1008 : Jvm.Cond.fieldLink "LeftAnswersModel" 43 "LeftAnswersModel" "word" "J" ∈ gtb := gtb_t6 (i := 159) rfl (by decide +kernel)
set_option maxRecDepth 100000 in
theorem gw1009 : Jvm.Cond.fieldLink "LeftAnswersModel" 47 "LeftAnswersModel" "number" "I" ∈ gtb := gtb_t6 (i := 155) rfl (by decide +kernel)
set_option maxRecDepth 100000 in
theorem gw1010 : Jvm.Cond.methodLink "LeftAnswersModel" 50 ⟨"LeftAnswersModel", "tapeAt", "(I)I"⟩ ∈ gtb := gtb_t7 (i := 87) rfl (by decide +kernel)
set_option maxRecDepth 100000 in
theorem gw1011 : Jvm.Cond.selects "LeftAnswersModel" ⟨"LeftAnswersModel", "tapeAt", "(I)I"⟩ ⟨"LeftAnswersModel", "tapeAt", "(I)I"⟩ ∈ gtb := gtb_in (i := 53) (by decide +kernel) (by decide +kernel)
set_option maxRecDepth 100000 in
theorem gw1012 : Jvm.Cond.code ⟨"LeftAnswersModel", "tapeAt", "(I)I"⟩ prog_15_method_13_code 2 (some .int) ∈ gtb := gtb_t7 (i := 90) rfl (by decide +kernel)
set_option maxRecDepth 100000 in
theorem gw1013 : Jvm.Cond.instanceMethod ⟨"LeftAnswersModel", "tapeAt", "(I)I"⟩ ∈ gtb := gtb_t7 (i := 89) rfl (by decide +kernel)
set_option maxRecDepth 100000 in
theorem gw1014 : Jvm.Cond.constantLong "LeftAnswersModel" 54 27 ∈ gtb := gtb_t7 (i := 91) rfl (by decide +kernel)
set_option maxRecDepth 100000 in
theorem gw1015 : Jvm.Cond.constantLong "LeftAnswersModel" 56 96 ∈ gtb := gtb_t7 (i := 92) rfl (by decide +kernel)
set_option maxRecDepth 100000 in
theorem gw1016 : Jvm.Cond.methodLink "LeftAnswersModel" 328 ⟨"LeftAnswersModel", "bits", "(I)I"⟩ ∈ gtb := gtb_t8 (i := 121) rfl (by decide +kernel)
set_option maxRecDepth 100000 in
theorem gw1017 : Jvm.Cond.code ⟨"LeftAnswersModel", "bits", "(I)I"⟩ prog_15_method_9_code 3 (some .int) ∈ gtb := gtb_t8 (i := 123) rfl (by decide +kernel)
set_option maxRecDepth 100000 in
theorem gw1018 : Jvm.Cond.static ⟨"LeftAnswersModel", "bits", "(I)I"⟩ ∈ gtb := gtb_t8 (i := 122) rfl (by decide +kernel)
set_option maxRecDepth 100000 in
theorem gw1019 : Jvm.Cond.methodLink "LeftAnswersModel" 453 ⟨"LeftAnswersModel", "holds", "(II)Z"⟩ ∈ gtb := gtb_t9 (i := 49) rfl (by decide +kernel)
set_option maxRecDepth 100000 in
theorem gw1020 : Jvm.Cond.selects "LeftAnswersModel" ⟨"LeftAnswersModel", "holds", "(II)Z"⟩ ⟨"LeftAnswersModel", "holds", "(II)Z"⟩ ∈ gtb := gtb_in (i := 123) (by decide +kernel) (by decide +kernel)
set_option maxRecDepth 100000 in
theorem gw1021 : Jvm.Cond.code ⟨"LeftAnswersModel", "holds", "(II)Z"⟩ prog_15_method_125_code 8 (some .boolean) ∈ gtb := gtb_t9 (i := 52) rfl (by decide +kernel)
set_option maxRecDepth 100000 in
theorem gw1022 : Jvm.Cond.instanceMethod ⟨"LeftAnswersModel", "holds", "(II)Z"⟩ ∈ gtb := gtb_t9 (i := 51) rfl (by decide +kernel)
set_option maxRecDepth 100000 in
theorem gw1023 : Jvm.Cond.methodLink "LeftAnswersModel" 237 ⟨"LeftAnswersModel", "isJailed", "(I)Z"⟩ ∈ gtb := gtb_t7 (i := 204) rfl (by decide +kernel)
set_option maxRecDepth 100000 in
theorem gw1024 : Jvm.Cond.selects "LeftAnswersModel" ⟨"LeftAnswersModel", "isJailed", "(I)Z"⟩ ⟨"LeftAnswersModel", "isJailed", "(I)Z"⟩ ∈ gtb := gtb_in (i := 76) (by decide +kernel) (by decide +kernel)
set_option maxRecDepth 100000 in
theorem gw1025 : Jvm.Cond.code ⟨"LeftAnswersModel", "isJailed", "(I)Z"⟩ prog_15_method_45_code 2 (some .boolean) ∈ gtb := gtb_t7 (i := 207) rfl (by decide +kernel)
set_option maxRecDepth 100000 in
theorem gw1026 : Jvm.Cond.instanceMethod ⟨"LeftAnswersModel", "isJailed", "(I)Z"⟩ ∈ gtb := gtb_t7 (i := 206) rfl (by decide +kernel)
set_option maxRecDepth 100000 in
theorem gw1027 : Jvm.Cond.methodLink "LeftAnswersModel" 246 ⟨"LeftAnswersModel", "isGloved", "(I)Z"⟩ ∈ gtb := gtb_t7 (i := 196) rfl (by decide +kernel)
set_option maxRecDepth 100000 in
theorem gw1028 : Jvm.Cond.selects "LeftAnswersModel" ⟨"LeftAnswersModel", "isGloved", "(I)Z"⟩ ⟨"LeftAnswersModel", "isGloved", "(I)Z"⟩ ∈ gtb := gtb_in (i := 74) (by decide +kernel) (by decide +kernel)
set_option maxRecDepth 100000 in
theorem gw1029 : Jvm.Cond.code ⟨"LeftAnswersModel", "isGloved", "(I)Z"⟩ prog_15_method_46_code 2 (some .boolean) ∈ gtb := gtb_t7 (i := 199) rfl (by decide +kernel)
set_option maxRecDepth 100000 in
theorem gw1030 : Jvm.Cond.instanceMethod ⟨"LeftAnswersModel", "isGloved", "(I)Z"⟩ ∈ gtb := gtb_t7 (i := 198) rfl (by decide +kernel)
set_option maxRecDepth 100000 in
theorem gw1031 : Jvm.Cond.methodLink "LeftAnswersModel" 62 ⟨"LeftAnswersModel", "wordOf", "(I)J"⟩ ∈ gtb := gtb_t7 (i := 101) rfl (by decide +kernel)
set_option maxRecDepth 100000 in
theorem gw1032 : Jvm.Cond.code ⟨"LeftAnswersModel", "wordOf", "(I)J"⟩ prog_15_method_18_code 1 (some .long) ∈ gtb := gtb_t7 (i := 103) rfl (by decide +kernel)
set_option maxRecDepth 100000 in
theorem gw1033 : Jvm.Cond.static ⟨"LeftAnswersModel", "wordOf", "(I)J"⟩ ∈ gtb := gtb_t7 (i := 102) rfl (by decide +kernel)
set_option maxRecDepth 100000 in
theorem gw1034 : Jvm.Cond.methodLink "LeftAnswersModel" 172 ⟨"LeftAnswersModel", "isName", "()Z"⟩ ∈ gtb := gtb_t7 (i := 123) rfl (by decide +kernel)
set_option maxRecDepth 100000 in
theorem gw1035 : Jvm.Cond.selects "LeftAnswersModel" ⟨"LeftAnswersModel", "isName", "()Z"⟩ ⟨"LeftAnswersModel", "isName", "()Z"⟩ ∈ gtb := gtb_in (i := 60) (by decide +kernel) (by decide +kernel)
set_option maxRecDepth 100000 in
theorem gw1036 : Jvm.Cond.code ⟨"LeftAnswersModel", "isName", "()Z"⟩ prog_15_method_21_code 2 (some .boolean) ∈ gtb := gtb_t7 (i := 126) rfl (by decide +kernel)
set_option maxRecDepth 100000 in
theorem gw1037 : Jvm.Cond.instanceMethod ⟨"LeftAnswersModel", "isName", "()Z"⟩ ∈ gtb := gtb_t7 (i := 125) rfl (by decide +kernel)
set_option maxRecDepth 100000 in
theorem gw1038 : Jvm.Cond.methodLink "LeftAnswersModel" 72 ⟨"LeftAnswersModel", "bad", "(I)Z"⟩ ∈ gtb := gtb_t7 (i := 115) rfl (by decide +kernel)
set_option maxRecDepth 100000 in
theorem gw1039 : Jvm.Cond.selects "LeftAnswersModel" ⟨"LeftAnswersModel", "bad", "(I)Z"⟩ ⟨"LeftAnswersModel", "bad", "(I)Z"⟩ ∈ gtb := gtb_in (i := 58) (by decide +kernel) (by decide +kernel)
set_option maxRecDepth 100000 in
theorem gw1040 : Jvm.Cond.code ⟨"LeftAnswersModel", "bad", "(I)Z"⟩ prog_15_method_22_code 2 (some .boolean) ∈ gtb := gtb_t7 (i := 118) rfl (by decide +kernel)
set_option maxRecDepth 100000 in
theorem gw1041 : Jvm.Cond.instanceMethod ⟨"LeftAnswersModel", "bad", "(I)Z"⟩ ∈ gtb := gtb_t7 (i := 117) rfl (by decide +kernel)
set_option maxRecDepth 100000 in
theorem gw1042 : Jvm.Cond.methodLink "LeftAnswersModel" 176 ⟨"LeftAnswersModel", "findIn", "([JIIJ)I"⟩ ∈ gtb := gtb_t7 (i := 127) rfl (by decide +kernel)
set_option maxRecDepth 100000 in
theorem gw1043 : Jvm.Cond.code ⟨"LeftAnswersModel", "findIn", "([JIIJ)I"⟩ prog_15_method_28_code 6 (some .int) ∈ gtb := gtb_t7 (i := 129) rfl (by decide +kernel)
set_option maxRecDepth 100000 in
theorem gw1044 : Jvm.Cond.static ⟨"LeftAnswersModel", "findIn", "([JIIJ)I"⟩ ∈ gtb := gtb_t7 (i := 128) rfl (by decide +kernel)
set_option maxRecDepth 100000 in
theorem gw1045 : Jvm.Cond.fieldLink "LeftAnswersModel" 79 "LeftAnswersModel" "told" "I" ∈ gtb := gtb_t6 (i := 160) rfl (by decide +kernel)
set_option maxRecDepth 100000 in
theorem gw1046 : Jvm.Cond.methodLink "LeftAnswersModel" 265 ⟨"LeftAnswersModel", "sum", "(II)I"⟩ ∈ gtb := gtb_t7 (i := 236) rfl (by decide +kernel)
set_option maxRecDepth 100000 in
theorem gw1047 : Jvm.Cond.selects "LeftAnswersModel" ⟨"LeftAnswersModel", "sum", "(II)I"⟩ ⟨"LeftAnswersModel", "sum", "(II)I"⟩ ∈ gtb := gtb_in (i := 81) (by decide +kernel) (by decide +kernel)
set_option maxRecDepth 100000 in
theorem gw1048 : Jvm.Cond.code ⟨"LeftAnswersModel", "sum", "(II)I"⟩ prog_15_method_51_code 5 (some .int) ∈ gtb := gtb_t7 (i := 239) rfl (by decide +kernel)
set_option maxRecDepth 100000 in
theorem gw1049 : Jvm.Cond.instanceMethod ⟨"LeftAnswersModel", "sum", "(II)I"⟩ ∈ gtb := gtb_t7 (i := 238) rfl (by decide +kernel)
