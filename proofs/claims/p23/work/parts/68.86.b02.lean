set_option maxRecDepth 100000 in
theorem gw300 : Jvm.Cond.methodLink "LeftAnswers" 170 ⟨"LeftAnswers$Duchy", "skillOf", "(II)I"⟩ ∈ gtb := gtb_t3 (i := 169) rfl (by decide +kernel)
set_option maxRecDepth 100000 in
theorem gw301 : Jvm.Cond.selects "LeftAnswers$Duchy" ⟨"LeftAnswers$Duchy", "skillOf", "(II)I"⟩ ⟨"LeftAnswers$Duchy", "skillOf", "(II)I"⟩ ∈ gtb := gtb_t3 (i := 171) rfl (by decide +kernel)
set_option maxRecDepth 100000 in
theorem gw302 : Jvm.Cond.code ⟨"LeftAnswers$Duchy", "skillOf", "(II)I"⟩ prog_4_method_17_code 3 (some .int) ∈ gtb := gtb_t3 (i := 172) rfl (by decide +kernel)
set_option maxRecDepth 100000 in
theorem gw303 : Jvm.Cond.instanceMethod ⟨"LeftAnswers$Duchy", "skillOf", "(II)I"⟩ ∈ gtb := gtb_t3 (i := 170) rfl (by decide +kernel)
set_option maxRecDepth 100000 in
theorem gw304 : Jvm.Cond.methodLink "LeftAnswers" 302 ⟨"LeftAnswers$Slip", "write", "(LLeftAnswers$Duchy;LLeftAnswers$Life;I)V"⟩ ∈ gtb := gtb_t5 (i := 23) rfl (by decide +kernel)
set_option maxRecDepth 100000 in
theorem gw305 : Jvm.Cond.selects "LeftAnswers$Slip" ⟨"LeftAnswers$Slip", "write", "(LLeftAnswers$Duchy;LLeftAnswers$Life;I)V"⟩ ⟨"LeftAnswers$Slip", "write", "(LLeftAnswers$Duchy;LLeftAnswers$Life;I)V"⟩ ∈ gtb := gtb_t5 (i := 25) rfl (by decide +kernel)
set_option maxRecDepth 100000 in
theorem gw306 : Jvm.Cond.code ⟨"LeftAnswers$Slip", "write", "(LLeftAnswers$Duchy;LLeftAnswers$Life;I)V"⟩ prog_11_method_2_code 5 none ∈ gtb := gtb_t5 (i := 26) rfl (by decide +kernel)
set_option maxRecDepth 100000 in
theorem gw307 : Jvm.Cond.instanceMethod ⟨"LeftAnswers$Slip", "write", "(LLeftAnswers$Duchy;LLeftAnswers$Life;I)V"⟩ ∈ gtb := gtb_t5 (i := 24) rfl (by decide +kernel)
set_option maxRecDepth 100000 in
theorem gw308 : Jvm.Cond.fieldLink "LeftAnswers" 378 "LeftAnswers$Tape" "fault" "I" ∈ gtb := gtb_t1 (i := 66) rfl (by decide +kernel)
set_option maxRecDepth 100000 in
theorem gw309 : Jvm.Cond.fieldLink "LeftAnswers" 328 "LeftAnswers$Book" "judged" "Z" ∈ gtb := gtb_t2 (i := 36) rfl (by decide +kernel)
set_option maxRecDepth 100000 in
theorem gw310 : Jvm.Cond.fieldLink "LeftAnswers" 332 "LeftAnswers$Book" "why" "I" ∈ gtb := gtb_t2 (i := 40) rfl (by decide +kernel)
set_option maxRecDepth 100000 in
theorem gw311 : Jvm.Cond.fieldLink "LeftAnswers" 335 "LeftAnswers$Book" "goodLines" "I" ∈ gtb := gtb_t2 (i := 42) rfl (by decide +kernel)
set_option maxRecDepth 100000 in
theorem gw312 : Jvm.Cond.fieldLink "LeftAnswers" 338 "LeftAnswers$Book" "dayThen" "I" ∈ gtb := gtb_t2 (i := 44) rfl (by decide +kernel)
set_option maxRecDepth 100000 in
theorem gw313 : Jvm.Cond.fieldLink "LeftAnswers" 341 "LeftAnswers$Book" "jailedThen" "I" ∈ gtb := gtb_t2 (i := 46) rfl (by decide +kernel)
set_option maxRecDepth 100000 in
theorem gw314 : Jvm.Cond.methodLink "LeftAnswers" 234 ⟨"LeftAnswers$Past", "takeBack", "(LLeftAnswers$Life;)I"⟩ ∈ gtb := gtb_t4 (i := 84) rfl (by decide +kernel)
set_option maxRecDepth 100000 in
theorem gw315 : Jvm.Cond.selects "LeftAnswers$Past" ⟨"LeftAnswers$Past", "takeBack", "(LLeftAnswers$Life;)I"⟩ ⟨"LeftAnswers$Past", "takeBack", "(LLeftAnswers$Life;)I"⟩ ∈ gtb := gtb_t4 (i := 86) rfl (by decide +kernel)
set_option maxRecDepth 100000 in
theorem gw316 : Jvm.Cond.code ⟨"LeftAnswers$Past", "takeBack", "(LLeftAnswers$Life;)I"⟩ prog_9_method_4_code 2 (some .int) ∈ gtb := gtb_t4 (i := 87) rfl (by decide +kernel)
set_option maxRecDepth 100000 in
theorem gw317 : Jvm.Cond.instanceMethod ⟨"LeftAnswers$Past", "takeBack", "(LLeftAnswers$Life;)I"⟩ ∈ gtb := gtb_t4 (i := 85) rfl (by decide +kernel)
set_option maxRecDepth 100000 in
theorem gw318 : Jvm.Cond.methodLink "LeftAnswers$Book" 3 ⟨"java/lang/Object", "<init>", "()V"⟩ ∈ gtb := gtb_t2 (i := 29) rfl (by decide +kernel)
set_option maxRecDepth 100000 in
theorem gw319 : Jvm.Cond.arrayClass .int ∈ gtb := gtb_t1 (i := 176) rfl (by decide +kernel)
set_option maxRecDepth 100000 in
theorem gw320 : Jvm.Cond.fieldLink "LeftAnswers$Book" 11 "LeftAnswers$Book" "verbs" "[I" ∈ gtb := gtb_t2 (i := 30) rfl (by decide +kernel)
set_option maxRecDepth 100000 in
theorem gw321 : Jvm.Cond.fieldLink "LeftAnswers$Book" 15 "LeftAnswers$Book" "doers" "[I" ∈ gtb := gtb_t2 (i := 31) rfl (by decide +kernel)
set_option maxRecDepth 100000 in
theorem gw322 : Jvm.Cond.fieldLink "LeftAnswers$Book" 18 "LeftAnswers$Book" "others" "[I" ∈ gtb := gtb_t2 (i := 32) rfl (by decide +kernel)
set_option maxRecDepth 100000 in
theorem gw323 : Jvm.Cond.fieldLink "LeftAnswers$Book" 21 "LeftAnswers$Book" "hands" "[I" ∈ gtb := gtb_t2 (i := 33) rfl (by decide +kernel)
set_option maxRecDepth 100000 in
theorem gw324 : Jvm.Cond.fieldLink "LeftAnswers$Book" 24 "LeftAnswers$Book" "lines" "I" ∈ gtb := gtb_t2 (i := 34) rfl (by decide +kernel)
set_option maxRecDepth 100000 in
theorem gw325 : Jvm.Cond.fieldLink "LeftAnswers$Book" 101 "LeftAnswers$Book" "why" "I" ∈ gtb := gtb_t2 (i := 39) rfl (by decide +kernel)
set_option maxRecDepth 100000 in
theorem gw326 : Jvm.Cond.fieldLink "LeftAnswers$Book" 104 "LeftAnswers$Book" "wrongLine" "I" ∈ gtb := gtb_t2 (i := 37) rfl (by decide +kernel)
set_option maxRecDepth 100000 in
theorem gw327 : Jvm.Cond.fieldLink "LeftAnswers$Book" 107 "LeftAnswers$Book" "goodLines" "I" ∈ gtb := gtb_t2 (i := 41) rfl (by decide +kernel)
set_option maxRecDepth 100000 in
theorem gw328 : Jvm.Cond.methodLink "LeftAnswers$Book" 110 ⟨"LeftAnswers$Life", "whyNot", "(LLeftAnswers$Duchy;IIII)I"⟩ ∈ gtb := gtb_t5 (i := 170) rfl (by decide +kernel)
set_option maxRecDepth 100000 in
theorem gw329 : Jvm.Cond.methodLink "LeftAnswers$Book" 116 ⟨"LeftAnswers$Life", "perform", "(LLeftAnswers$Duchy;IIII)V"⟩ ∈ gtb := gtb_t5 (i := 171) rfl (by decide +kernel)
set_option maxRecDepth 100000 in
theorem gw330 : Jvm.Cond.fieldLink "LeftAnswers$Book" 120 "LeftAnswers$Life" "day" "I" ∈ gtb := gtb_t1 (i := 188) rfl (by decide +kernel)
set_option maxRecDepth 100000 in
theorem gw331 : Jvm.Cond.fieldLink "LeftAnswers$Book" 123 "LeftAnswers$Book" "dayThen" "I" ∈ gtb := gtb_t2 (i := 43) rfl (by decide +kernel)
set_option maxRecDepth 100000 in
theorem gw332 : Jvm.Cond.methodLink "LeftAnswers$Book" 126 ⟨"LeftAnswers$Life", "jailedBits", "()I"⟩ ∈ gtb := gtb_t5 (i := 172) rfl (by decide +kernel)
set_option maxRecDepth 100000 in
theorem gw333 : Jvm.Cond.fieldLink "LeftAnswers$Book" 129 "LeftAnswers$Book" "jailedThen" "I" ∈ gtb := gtb_t2 (i := 45) rfl (by decide +kernel)
set_option maxRecDepth 100000 in
theorem gw334 : Jvm.Cond.fieldLink "LeftAnswers$Book" 132 "LeftAnswers$Book" "judged" "Z" ∈ gtb := gtb_t2 (i := 35) rfl (by decide +kernel)
set_option maxRecDepth 100000 in
theorem gw335 : Jvm.Cond.methodLink "LeftAnswers$Book" 76 ⟨"LeftAnswers$Duchy", "personHere", "(LLeftAnswers$Tape;)I"⟩ ∈ gtb := gtb_t5 (i := 150) rfl (by decide +kernel)
set_option maxRecDepth 100000 in
theorem gw336 : Jvm.Cond.selects "LeftAnswers$Duchy" ⟨"LeftAnswers$Duchy", "personHere", "(LLeftAnswers$Tape;)I"⟩ ⟨"LeftAnswers$Duchy", "personHere", "(LLeftAnswers$Tape;)I"⟩ ∈ gtb := gtb_t3 (i := 116) rfl (by decide +kernel)
set_option maxRecDepth 100000 in
theorem gw337 : Jvm.Cond.code ⟨"LeftAnswers$Duchy", "personHere", "(LLeftAnswers$Tape;)I"⟩ prog_4_method_13_code 2 (some .int) ∈ gtb := gtb_t3 (i := 117) rfl (by decide +kernel)
set_option maxRecDepth 100000 in
theorem gw338 : Jvm.Cond.instanceMethod ⟨"LeftAnswers$Duchy", "personHere", "(LLeftAnswers$Tape;)I"⟩ ∈ gtb := gtb_t3 (i := 115) rfl (by decide +kernel)
set_option maxRecDepth 100000 in
theorem gw339 : Jvm.Cond.methodLink "LeftAnswers$Book" 58 ⟨"LeftAnswers$Tape", "refuse", "(I)Z"⟩ ∈ gtb := gtb_t5 (i := 139) rfl (by decide +kernel)
set_option maxRecDepth 100000 in
theorem gw340 : Jvm.Cond.selects "LeftAnswers$Tape" ⟨"LeftAnswers$Tape", "refuse", "(I)Z"⟩ ⟨"LeftAnswers$Tape", "refuse", "(I)Z"⟩ ∈ gtb := gtb_t3 (i := 82) rfl (by decide +kernel)
set_option maxRecDepth 100000 in
theorem gw341 : Jvm.Cond.code ⟨"LeftAnswers$Tape", "refuse", "(I)Z"⟩ prog_12_method_12_code 2 (some .boolean) ∈ gtb := gtb_t3 (i := 83) rfl (by decide +kernel)
set_option maxRecDepth 100000 in
theorem gw342 : Jvm.Cond.instanceMethod ⟨"LeftAnswers$Tape", "refuse", "(I)Z"⟩ ∈ gtb := gtb_t3 (i := 81) rfl (by decide +kernel)
set_option maxRecDepth 100000 in
theorem gw343 : Jvm.Cond.methodLink "LeftAnswers$Book" 62 ⟨"LeftAnswers$Tape", "advance", "()V"⟩ ∈ gtb := gtb_t5 (i := 140) rfl (by decide +kernel)
set_option maxRecDepth 100000 in
theorem gw344 : Jvm.Cond.selects "LeftAnswers$Tape" ⟨"LeftAnswers$Tape", "advance", "()V"⟩ ⟨"LeftAnswers$Tape", "advance", "()V"⟩ ∈ gtb := gtb_t3 (i := 32) rfl (by decide +kernel)
set_option maxRecDepth 100000 in
theorem gw345 : Jvm.Cond.code ⟨"LeftAnswers$Tape", "advance", "()V"⟩ prog_12_method_5_code 1 none ∈ gtb := gtb_t3 (i := 33) rfl (by decide +kernel)
set_option maxRecDepth 100000 in
theorem gw346 : Jvm.Cond.instanceMethod ⟨"LeftAnswers$Tape", "advance", "()V"⟩ ∈ gtb := gtb_t3 (i := 31) rfl (by decide +kernel)
set_option maxRecDepth 100000 in
theorem gw347 : Jvm.Cond.fieldLink "LeftAnswers$Book" 37 "LeftAnswers$Tape" "word" "LLeftAnswers$Word;" ∈ gtb := gtb_t1 (i := 54) rfl (by decide +kernel)
set_option maxRecDepth 100000 in
theorem gw348 : Jvm.Cond.fieldLink "LeftAnswers$Book" 82 "LeftAnswers$1" "$SwitchMap$LeftAnswers$Word" "[I" ∈ gtb := gtb_t5 (i := 151) rfl (by decide +kernel)
set_option maxRecDepth 100000 in
theorem gw349 : Jvm.Cond.methodLink "LeftAnswers$Book" 87 ⟨"LeftAnswers$Word", "ordinal", "()I"⟩ ∈ gtb := gtb_t5 (i := 152) rfl (by decide +kernel)
set_option maxRecDepth 100000 in
theorem gw350 : Jvm.Cond.methodLink "LeftAnswers$Book" 91 ⟨"LeftAnswers$Book", "readDoes", "(LLeftAnswers$Tape;LLeftAnswers$Duchy;I)Z"⟩ ∈ gtb := gtb_t5 (i := 153) rfl (by decide +kernel)
set_option maxRecDepth 100000 in
theorem gw351 : Jvm.Cond.selects "LeftAnswers$Book" ⟨"LeftAnswers$Book", "readDoes", "(LLeftAnswers$Tape;LLeftAnswers$Duchy;I)Z"⟩ ⟨"LeftAnswers$Book", "readDoes", "(LLeftAnswers$Tape;LLeftAnswers$Duchy;I)Z"⟩ ∈ gtb := gtb_in (i := 37) (by decide +kernel) (by decide +kernel)
set_option maxRecDepth 100000 in
theorem gw352 : Jvm.Cond.code ⟨"LeftAnswers$Book", "readDoes", "(LLeftAnswers$Tape;LLeftAnswers$Duchy;I)Z"⟩ prog_3_method_5_code 5 (some .boolean) ∈ gtb := gtb_t5 (i := 156) rfl (by decide +kernel)
set_option maxRecDepth 100000 in
theorem gw353 : Jvm.Cond.instanceMethod ⟨"LeftAnswers$Book", "readDoes", "(LLeftAnswers$Tape;LLeftAnswers$Duchy;I)Z"⟩ ∈ gtb := gtb_t5 (i := 155) rfl (by decide +kernel)
set_option maxRecDepth 100000 in
theorem gw354 : Jvm.Cond.methodLink "LeftAnswers$Book" 95 ⟨"LeftAnswers$Book", "readWeds", "(LLeftAnswers$Tape;LLeftAnswers$Duchy;I)Z"⟩ ∈ gtb := gtb_t5 (i := 161) rfl (by decide +kernel)
set_option maxRecDepth 100000 in
theorem gw355 : Jvm.Cond.selects "LeftAnswers$Book" ⟨"LeftAnswers$Book", "readWeds", "(LLeftAnswers$Tape;LLeftAnswers$Duchy;I)Z"⟩ ⟨"LeftAnswers$Book", "readWeds", "(LLeftAnswers$Tape;LLeftAnswers$Duchy;I)Z"⟩ ∈ gtb := gtb_in (i := 38) (by decide +kernel) (by decide +kernel)
set_option maxRecDepth 100000 in
theorem gw356 : Jvm.Cond.code ⟨"LeftAnswers$Book", "readWeds", "(LLeftAnswers$Tape;LLeftAnswers$Duchy;I)Z"⟩ prog_3_method_6_code 5 (some .boolean) ∈ gtb := gtb_t5 (i := 164) rfl (by decide +kernel)
set_option maxRecDepth 100000 in
theorem gw357 : Jvm.Cond.instanceMethod ⟨"LeftAnswers$Book", "readWeds", "(LLeftAnswers$Tape;LLeftAnswers$Duchy;I)Z"⟩ ∈ gtb := gtb_t5 (i := 163) rfl (by decide +kernel)
set_option maxRecDepth 100000 in
theorem gw358 : Jvm.Cond.methodLink "LeftAnswers$Book" 72 ⟨"LeftAnswers$Book", "addLine", "(IIII)V"⟩ ∈ gtb := gtb_t5 (i := 142) rfl (by decide +kernel)
set_option maxRecDepth 100000 in
theorem gw359 : Jvm.Cond.selects "LeftAnswers$Book" ⟨"LeftAnswers$Book", "addLine", "(IIII)V"⟩ ⟨"LeftAnswers$Book", "addLine", "(IIII)V"⟩ ∈ gtb := gtb_in (i := 35) (by decide +kernel) (by decide +kernel)
set_option maxRecDepth 100000 in
theorem gw360 : Jvm.Cond.code ⟨"LeftAnswers$Book", "addLine", "(IIII)V"⟩ prog_3_method_7_code 5 none ∈ gtb := gtb_t5 (i := 145) rfl (by decide +kernel)
set_option maxRecDepth 100000 in
theorem gw361 : Jvm.Cond.instanceMethod ⟨"LeftAnswers$Book", "addLine", "(IIII)V"⟩ ∈ gtb := gtb_t5 (i := 144) rfl (by decide +kernel)
set_option maxRecDepth 100000 in
theorem gw362 : Jvm.Cond.methodLink "LeftAnswers$Book" 65 ⟨"LeftAnswers$Tape", "takesNumber", "(II)Z"⟩ ∈ gtb := gtb_t5 (i := 141) rfl (by decide +kernel)
set_option maxRecDepth 100000 in
theorem gw363 : Jvm.Cond.selects "LeftAnswers$Tape" ⟨"LeftAnswers$Tape", "takesNumber", "(II)Z"⟩ ⟨"LeftAnswers$Tape", "takesNumber", "(II)Z"⟩ ∈ gtb := gtb_t3 (i := 95) rfl (by decide +kernel)
set_option maxRecDepth 100000 in
theorem gw364 : Jvm.Cond.code ⟨"LeftAnswers$Tape", "takesNumber", "(II)Z"⟩ prog_12_method_15_code 3 (some .boolean) ∈ gtb := gtb_t3 (i := 96) rfl (by decide +kernel)
set_option maxRecDepth 100000 in
theorem gw365 : Jvm.Cond.instanceMethod ⟨"LeftAnswers$Tape", "takesNumber", "(II)Z"⟩ ∈ gtb := gtb_t3 (i := 94) rfl (by decide +kernel)
set_option maxRecDepth 100000 in
theorem gw366 : Jvm.Cond.fieldLink "LeftAnswers$Book" 69 "LeftAnswers$Tape" "taken" "I" ∈ gtb := gtb_t1 (i := 61) rfl (by decide +kernel)
set_option maxRecDepth 100000 in
theorem gw367 : Jvm.Cond.methodLink "LeftAnswers$Book" 98 ⟨"LeftAnswers$Duchy", "deedHere", "(LLeftAnswers$Tape;)I"⟩ ∈ gtb := gtb_t5 (i := 157) rfl (by decide +kernel)
set_option maxRecDepth 100000 in
theorem gw368 : Jvm.Cond.selects "LeftAnswers$Duchy" ⟨"LeftAnswers$Duchy", "deedHere", "(LLeftAnswers$Tape;)I"⟩ ⟨"LeftAnswers$Duchy", "deedHere", "(LLeftAnswers$Tape;)I"⟩ ∈ gtb := gtb_t5 (i := 159) rfl (by decide +kernel)
set_option maxRecDepth 100000 in
theorem gw369 : Jvm.Cond.code ⟨"LeftAnswers$Duchy", "deedHere", "(LLeftAnswers$Tape;)I"⟩ prog_4_method_14_code 2 (some .int) ∈ gtb := gtb_t5 (i := 160) rfl (by decide +kernel)
set_option maxRecDepth 100000 in
theorem gw370 : Jvm.Cond.instanceMethod ⟨"LeftAnswers$Duchy", "deedHere", "(LLeftAnswers$Tape;)I"⟩ ∈ gtb := gtb_t5 (i := 158) rfl (by decide +kernel)
set_option maxRecDepth 100000 in
theorem gw371 : Jvm.Cond.methodLink "LeftAnswers$Book" 28 ⟨"LeftAnswers$Tape", "open", "(I)V"⟩ ∈ gtb := gtb_t5 (i := 132) rfl (by decide +kernel)
set_option maxRecDepth 100000 in
theorem gw372 : Jvm.Cond.selects "LeftAnswers$Tape" ⟨"LeftAnswers$Tape", "open", "(I)V"⟩ ⟨"LeftAnswers$Tape", "open", "(I)V"⟩ ∈ gtb := gtb_t3 (i := 28) rfl (by decide +kernel)
set_option maxRecDepth 100000 in
theorem gw373 : Jvm.Cond.code ⟨"LeftAnswers$Tape", "open", "(I)V"⟩ prog_12_method_4_code 2 none ∈ gtb := gtb_t3 (i := 29) rfl (by decide +kernel)
set_option maxRecDepth 100000 in
theorem gw374 : Jvm.Cond.instanceMethod ⟨"LeftAnswers$Tape", "open", "(I)V"⟩ ∈ gtb := gtb_t3 (i := 27) rfl (by decide +kernel)
set_option maxRecDepth 100000 in
theorem gw375 : Jvm.Cond.fieldLink "LeftAnswers$Book" 34 "LeftAnswers$Tape" "kind" "I" ∈ gtb := gtb_t1 (i := 48) rfl (by decide +kernel)
set_option maxRecDepth 100000 in
theorem gw376 : Jvm.Cond.fieldLink "LeftAnswers$Book" 41 "LeftAnswers$Word" "DAY" "LLeftAnswers$Word;" ∈ gtb := gtb_t5 (i := 133) rfl (by decide +kernel)
set_option maxRecDepth 100000 in
theorem gw377 : Jvm.Cond.methodLink "LeftAnswers$Book" 46 ⟨"LeftAnswers$Book", "readDay", "(LLeftAnswers$Tape;)Z"⟩ ∈ gtb := gtb_t5 (i := 135) rfl (by decide +kernel)
set_option maxRecDepth 100000 in
theorem gw378 : Jvm.Cond.selects "LeftAnswers$Book" ⟨"LeftAnswers$Book", "readDay", "(LLeftAnswers$Tape;)Z"⟩ ⟨"LeftAnswers$Book", "readDay", "(LLeftAnswers$Tape;)Z"⟩ ∈ gtb := gtb_in (i := 34) (by decide +kernel) (by decide +kernel)
set_option maxRecDepth 100000 in
theorem gw379 : Jvm.Cond.code ⟨"LeftAnswers$Book", "readDay", "(LLeftAnswers$Tape;)Z"⟩ prog_3_method_3_code 2 (some .boolean) ∈ gtb := gtb_t5 (i := 138) rfl (by decide +kernel)
set_option maxRecDepth 100000 in
theorem gw380 : Jvm.Cond.instanceMethod ⟨"LeftAnswers$Book", "readDay", "(LLeftAnswers$Tape;)Z"⟩ ∈ gtb := gtb_t5 (i := 137) rfl (by decide +kernel)
set_option maxRecDepth 100000 in
theorem gw381 : Jvm.Cond.methodLink "LeftAnswers$Book" 50 ⟨"LeftAnswers$Book", "readAct", "(LLeftAnswers$Tape;LLeftAnswers$Duchy;)Z"⟩ ∈ gtb := gtb_t5 (i := 146) rfl (by decide +kernel)
set_option maxRecDepth 100000 in
theorem gw382 : Jvm.Cond.selects "LeftAnswers$Book" ⟨"LeftAnswers$Book", "readAct", "(LLeftAnswers$Tape;LLeftAnswers$Duchy;)Z"⟩ ⟨"LeftAnswers$Book", "readAct", "(LLeftAnswers$Tape;LLeftAnswers$Duchy;)Z"⟩ ∈ gtb := gtb_in (i := 36) (by decide +kernel) (by decide +kernel)
set_option maxRecDepth 100000 in
theorem gw383 : Jvm.Cond.code ⟨"LeftAnswers$Book", "readAct", "(LLeftAnswers$Tape;LLeftAnswers$Duchy;)Z"⟩ prog_3_method_4_code 5 (some .boolean) ∈ gtb := gtb_t5 (i := 149) rfl (by decide +kernel)
set_option maxRecDepth 100000 in
theorem gw384 : Jvm.Cond.instanceMethod ⟨"LeftAnswers$Book", "readAct", "(LLeftAnswers$Tape;LLeftAnswers$Duchy;)Z"⟩ ∈ gtb := gtb_t5 (i := 148) rfl (by decide +kernel)
set_option maxRecDepth 100000 in
theorem gw385 : Jvm.Cond.methodLink "LeftAnswers$Book" 54 ⟨"LeftAnswers$Tape", "takesMark", "(C)Z"⟩ ∈ gtb := gtb_t5 (i := 165) rfl (by decide +kernel)
set_option maxRecDepth 100000 in
theorem gw386 : Jvm.Cond.selects "LeftAnswers$Tape" ⟨"LeftAnswers$Tape", "takesMark", "(C)Z"⟩ ⟨"LeftAnswers$Tape", "takesMark", "(C)Z"⟩ ∈ gtb := gtb_t3 (i := 135) rfl (by decide +kernel)
set_option maxRecDepth 100000 in
theorem gw387 : Jvm.Cond.code ⟨"LeftAnswers$Tape", "takesMark", "(C)Z"⟩ prog_12_method_14_code 2 (some .boolean) ∈ gtb := gtb_t3 (i := 136) rfl (by decide +kernel)
set_option maxRecDepth 100000 in
theorem gw388 : Jvm.Cond.instanceMethod ⟨"LeftAnswers$Tape", "takesMark", "(C)Z"⟩ ∈ gtb := gtb_t3 (i := 134) rfl (by decide +kernel)
set_option maxRecDepth 100000 in
theorem gw389 : Jvm.Cond.methodLink "LeftAnswers$Duchy" 3 ⟨"java/lang/Object", "<init>", "()V"⟩ ∈ gtb := gtb_t1 (i := 100) rfl (by decide +kernel)
set_option maxRecDepth 100000 in
theorem gw390 : Jvm.Cond.arrayClass .long ∈ gtb := gtb_t1 (i := 175) rfl (by decide +kernel)
set_option maxRecDepth 100000 in
theorem gw391 : Jvm.Cond.fieldLink "LeftAnswers$Duchy" 9 "LeftAnswers$Duchy" "personNames" "[J" ∈ gtb := gtb_t1 (i := 125) rfl (by decide +kernel)
set_option maxRecDepth 100000 in
theorem gw392 : Jvm.Cond.fieldLink "LeftAnswers$Duchy" 15 "LeftAnswers$Duchy" "right" "[I" ∈ gtb := gtb_t1 (i := 127) rfl (by decide +kernel)
set_option maxRecDepth 100000 in
theorem gw393 : Jvm.Cond.fieldLink "LeftAnswers$Duchy" 19 "LeftAnswers$Duchy" "left" "[I" ∈ gtb := gtb_t1 (i := 128) rfl (by decide +kernel)
set_option maxRecDepth 100000 in
theorem gw394 : Jvm.Cond.fieldLink "LeftAnswers$Duchy" 22 "LeftAnswers$Duchy" "watchers" "[I" ∈ gtb := gtb_t1 (i := 139) rfl (by decide +kernel)
set_option maxRecDepth 100000 in
theorem gw395 : Jvm.Cond.fieldLink "LeftAnswers$Duchy" 25 "LeftAnswers$Duchy" "fond" "[I" ∈ gtb := gtb_t1 (i := 141) rfl (by decide +kernel)
set_option maxRecDepth 100000 in
theorem gw396 : Jvm.Cond.fieldLink "LeftAnswers$Duchy" 28 "LeftAnswers$Duchy" "deedNames" "[J" ∈ gtb := gtb_t1 (i := 129) rfl (by decide +kernel)
set_option maxRecDepth 100000 in
theorem gw397 : Jvm.Cond.fieldLink "LeftAnswers$Duchy" 31 "LeftAnswers$Duchy" "hard" "[I" ∈ gtb := gtb_t1 (i := 130) rfl (by decide +kernel)
set_option maxRecDepth 100000 in
theorem gw398 : Jvm.Cond.fieldLink "LeftAnswers$Duchy" 34 "LeftAnswers$Duchy" "pay" "[I" ∈ gtb := gtb_t1 (i := 133) rfl (by decide +kernel)
set_option maxRecDepth 100000 in
theorem gw399 : Jvm.Cond.fieldLink "LeftAnswers$Duchy" 37 "LeftAnswers$Duchy" "blame" "[I" ∈ gtb := gtb_t1 (i := 136) rfl (by decide +kernel)
set_option maxRecDepth 100000 in
theorem gw400 : Jvm.Cond.methodLink "LeftAnswers$Duchy" 40 ⟨"LeftAnswers$Duchy", "fillIn", "()V"⟩ ∈ gtb := gtb_t1 (i := 101) rfl (by decide +kernel)
set_option maxRecDepth 100000 in
theorem gw401 : Jvm.Cond.selects "LeftAnswers$Duchy" ⟨"LeftAnswers$Duchy", "fillIn", "()V"⟩ ⟨"LeftAnswers$Duchy", "fillIn", "()V"⟩ ∈ gtb := gtb_in (i := 0) (by decide +kernel) (by decide +kernel)
set_option maxRecDepth 100000 in
theorem gw402 : Jvm.Cond.code ⟨"LeftAnswers$Duchy", "fillIn", "()V"⟩ prog_4_method_5_code 1 none ∈ gtb := gtb_t1 (i := 104) rfl (by decide +kernel)
set_option maxRecDepth 100000 in
theorem gw403 : Jvm.Cond.instanceMethod ⟨"LeftAnswers$Duchy", "fillIn", "()V"⟩ ∈ gtb := gtb_t1 (i := 103) rfl (by decide +kernel)
set_option maxRecDepth 100000 in
theorem gw404 : Jvm.Cond.fieldLink "LeftAnswers$Duchy" 43 "LeftAnswers$Duchy" "persons" "I" ∈ gtb := gtb_t1 (i := 106) rfl (by decide +kernel)
set_option maxRecDepth 100000 in
theorem gw405 : Jvm.Cond.methodLink "LeftAnswers$Duchy" 183 ⟨"java/lang/Integer", "bitCount", "(I)I"⟩ ∈ gtb := gtb_t4 (i := 168) rfl (by decide +kernel)
set_option maxRecDepth 100000 in
theorem gw406 : Jvm.Cond.fieldLink "LeftAnswers$Duchy" 47 "LeftAnswers$Duchy" "deeds" "I" ∈ gtb := gtb_t1 (i := 110) rfl (by decide +kernel)
set_option maxRecDepth 100000 in
theorem gw407 : Jvm.Cond.methodLink "LeftAnswers$Duchy" 189 ⟨"LeftAnswers$Duchy", "canBits", "(I)I"⟩ ∈ gtb := gtb_t4 (i := 174) rfl (by decide +kernel)
set_option maxRecDepth 100000 in
theorem gw408 : Jvm.Cond.methodLink "LeftAnswers$Duchy" 192 ⟨"java/lang/Math", "abs", "(I)I"⟩ ∈ gtb := gtb_t4 (i := 175) rfl (by decide +kernel)
set_option maxRecDepth 100000 in
theorem gw409 : Jvm.Cond.static ⟨"java/lang/Math", "abs", "(I)I"⟩ ∈ gtb := gtb_t4 (i := 176) rfl (by decide +kernel)
set_option maxRecDepth 100000 in
theorem gw410 : Jvm.Cond.code ⟨"java/lang/Math", "abs", "(I)I"⟩ prog_22_method_59_code 1 (some .int) ∈ gtb := gtb_t4 (i := 177) rfl (by decide +kernel)
set_option maxRecDepth 100000 in
theorem gw411 : Jvm.Cond.methodLink "LeftAnswers$Duchy" 179 ⟨"LeftAnswers$Duchy", "isEasyFor", "(III)Z"⟩ ∈ gtb := gtb_t4 (i := 158) rfl (by decide +kernel)
set_option maxRecDepth 100000 in
theorem gw412 : Jvm.Cond.selects "LeftAnswers$Duchy" ⟨"LeftAnswers$Duchy", "isEasyFor", "(III)Z"⟩ ⟨"LeftAnswers$Duchy", "isEasyFor", "(III)Z"⟩ ∈ gtb := gtb_t4 (i := 160) rfl (by decide +kernel)
set_option maxRecDepth 100000 in
theorem gw413 : Jvm.Cond.code ⟨"LeftAnswers$Duchy", "isEasyFor", "(III)Z"⟩ prog_4_method_20_code 4 (some .boolean) ∈ gtb := gtb_t4 (i := 161) rfl (by decide +kernel)
set_option maxRecDepth 100000 in
theorem gw414 : Jvm.Cond.instanceMethod ⟨"LeftAnswers$Duchy", "isEasyFor", "(III)Z"⟩ ∈ gtb := gtb_t4 (i := 159) rfl (by decide +kernel)
set_option maxRecDepth 100000 in
theorem gw415 : Jvm.Cond.fieldLink "LeftAnswers$Duchy" 50 "LeftAnswers$Duchy" "law" "I" ∈ gtb := gtb_t1 (i := 113) rfl (by decide +kernel)
set_option maxRecDepth 100000 in
theorem gw416 : Jvm.Cond.fieldLink "LeftAnswers$Duchy" 53 "LeftAnswers$Duchy" "cell" "I" ∈ gtb := gtb_t1 (i := 116) rfl (by decide +kernel)
set_option maxRecDepth 100000 in
theorem gw417 : Jvm.Cond.fieldLink "LeftAnswers$Duchy" 56 "LeftAnswers$Duchy" "ideas" "I" ∈ gtb := gtb_t1 (i := 119) rfl (by decide +kernel)
set_option maxRecDepth 100000 in
theorem gw418 : Jvm.Cond.fieldLink "LeftAnswers$Duchy" 59 "LeftAnswers$Duchy" "gloved" "I" ∈ gtb := gtb_t1 (i := 122) rfl (by decide +kernel)
set_option maxRecDepth 100000 in
theorem gw419 : Jvm.Cond.fieldLink "LeftAnswers$Duchy" 62 "LeftAnswers$Duchy" "both" "I" ∈ gtb := gtb_t1 (i := 124) rfl (by decide +kernel)
set_option maxRecDepth 100000 in
theorem gw420 : Jvm.Cond.methodLink "LeftAnswers$Duchy" 65 ⟨"java/lang/System", "arraycopy", "(Ljava/lang/Object;ILjava/lang/Object;II)V"⟩ ∈ gtb := gtb_t6 (i := 32) rfl (by decide +kernel)
set_option maxRecDepth 100000 in
theorem gw421 : Jvm.Cond.native ⟨"java/lang/System", "arraycopy", "(Ljava/lang/Object;ILjava/lang/Object;II)V"⟩ ∈ gtb := gtb_t4 (i := 21) rfl (by decide +kernel)
set_option maxRecDepth 100000 in
theorem gw422 : Jvm.Cond.static ⟨"java/lang/System", "arraycopy", "(Ljava/lang/Object;ILjava/lang/Object;II)V"⟩ ∈ gtb := gtb_t4 (i := 20) rfl (by decide +kernel)
set_option maxRecDepth 100000 in
theorem gw423 : Jvm.Cond.initialized "java/lang/System" ∈ gtb := gtb_t1 (i := 20) rfl (by decide +kernel)
set_option maxRecDepth 100000 in
theorem gw424 : Jvm.Cond.methodLink "LeftAnswers$Duchy" 165 ⟨"LeftAnswers$Duchy", "namedHere", "(LLeftAnswers$Tape;[JI)I"⟩ ∈ gtb := gtb_t3 (i := 118) rfl (by decide +kernel)
set_option maxRecDepth 100000 in
theorem gw425 : Jvm.Cond.code ⟨"LeftAnswers$Duchy", "namedHere", "(LLeftAnswers$Tape;[JI)I"⟩ prog_4_method_15_code 4 (some .int) ∈ gtb := gtb_t3 (i := 120) rfl (by decide +kernel)
set_option maxRecDepth 100000 in
theorem gw426 : Jvm.Cond.static ⟨"LeftAnswers$Duchy", "namedHere", "(LLeftAnswers$Tape;[JI)I"⟩ ∈ gtb := gtb_t3 (i := 119) rfl (by decide +kernel)
set_option maxRecDepth 100000 in
theorem gw427 : Jvm.Cond.methodLink "LeftAnswers$Duchy" 200 ⟨"LeftAnswers$Duchy", "allPersonBits", "()I"⟩ ∈ gtb := gtb_t4 (i := 210) rfl (by decide +kernel)
set_option maxRecDepth 100000 in
theorem gw428 : Jvm.Cond.selects "LeftAnswers$Duchy" ⟨"LeftAnswers$Duchy", "allPersonBits", "()I"⟩ ⟨"LeftAnswers$Duchy", "allPersonBits", "()I"⟩ ∈ gtb := gtb_t4 (i := 212) rfl (by decide +kernel)
set_option maxRecDepth 100000 in
theorem gw429 : Jvm.Cond.code ⟨"LeftAnswers$Duchy", "allPersonBits", "()I"⟩ prog_4_method_22_code 1 (some .int) ∈ gtb := gtb_t4 (i := 213) rfl (by decide +kernel)
set_option maxRecDepth 100000 in
theorem gw430 : Jvm.Cond.instanceMethod ⟨"LeftAnswers$Duchy", "allPersonBits", "()I"⟩ ∈ gtb := gtb_t4 (i := 211) rfl (by decide +kernel)
set_option maxRecDepth 100000 in
theorem gw431 : Jvm.Cond.methodLink "LeftAnswers$Duchy" 197 ⟨"LeftAnswers$Duchy", "watchedByAny", "(I)I"⟩ ∈ gtb := gtb_t4 (i := 198) rfl (by decide +kernel)
set_option maxRecDepth 100000 in
theorem gw432 : Jvm.Cond.selects "LeftAnswers$Duchy" ⟨"LeftAnswers$Duchy", "watchedByAny", "(I)I"⟩ ⟨"LeftAnswers$Duchy", "watchedByAny", "(I)I"⟩ ∈ gtb := gtb_in (i := 25) (by decide +kernel) (by decide +kernel)
set_option maxRecDepth 100000 in
theorem gw433 : Jvm.Cond.code ⟨"LeftAnswers$Duchy", "watchedByAny", "(I)I"⟩ prog_4_method_27_code 4 (some .int) ∈ gtb := gtb_t4 (i := 201) rfl (by decide +kernel)
set_option maxRecDepth 100000 in
theorem gw434 : Jvm.Cond.instanceMethod ⟨"LeftAnswers$Duchy", "watchedByAny", "(I)I"⟩ ∈ gtb := gtb_t4 (i := 200) rfl (by decide +kernel)
set_option maxRecDepth 100000 in
theorem gw435 : Jvm.Cond.methodLink "LeftAnswers$Duchy" 169 ⟨"LeftAnswers$Duchy", "needsBoth", "(I)Z"⟩ ∈ gtb := gtb_t3 (i := 237) rfl (by decide +kernel)
set_option maxRecDepth 100000 in
theorem gw436 : Jvm.Cond.methodLink "LeftAnswers$Duchy" 172 ⟨"LeftAnswers$Duchy", "handsAreRight", "(II)Z"⟩ ∈ gtb := gtb_t4 (i := 162) rfl (by decide +kernel)
set_option maxRecDepth 100000 in
theorem gw437 : Jvm.Cond.selects "LeftAnswers$Duchy" ⟨"LeftAnswers$Duchy", "handsAreRight", "(II)Z"⟩ ⟨"LeftAnswers$Duchy", "handsAreRight", "(II)Z"⟩ ∈ gtb := gtb_t3 (i := 235) rfl (by decide +kernel)
set_option maxRecDepth 100000 in
theorem gw438 : Jvm.Cond.code ⟨"LeftAnswers$Duchy", "handsAreRight", "(II)Z"⟩ prog_4_method_19_code 3 (some .boolean) ∈ gtb := gtb_t3 (i := 236) rfl (by decide +kernel)
set_option maxRecDepth 100000 in
theorem gw439 : Jvm.Cond.instanceMethod ⟨"LeftAnswers$Duchy", "handsAreRight", "(II)Z"⟩ ∈ gtb := gtb_t3 (i := 234) rfl (by decide +kernel)
set_option maxRecDepth 100000 in
theorem gw440 : Jvm.Cond.methodLink "LeftAnswers$Duchy" 175 ⟨"LeftAnswers$Duchy", "skillOf", "(II)I"⟩ ∈ gtb := gtb_t4 (i := 163) rfl (by decide +kernel)
set_option maxRecDepth 100000 in
theorem gw441 : Jvm.Cond.fieldLink "LeftAnswers$Duchy" 88 "LeftAnswers$Tape" "word" "LLeftAnswers$Word;" ∈ gtb := gtb_t1 (i := 55) rfl (by decide +kernel)
set_option maxRecDepth 100000 in
theorem gw442 : Jvm.Cond.fieldLink "LeftAnswers$Duchy" 158 "LeftAnswers$Word" "NAME" "LLeftAnswers$Word;" ∈ gtb := gtb_t3 (i := 89) rfl (by decide +kernel)
set_option maxRecDepth 100000 in
theorem gw443 : Jvm.Cond.methodLink "LeftAnswers$Duchy" 114 ⟨"LeftAnswers$Tape", "refuse", "(I)Z"⟩ ∈ gtb := gtb_t3 (i := 80) rfl (by decide +kernel)
set_option maxRecDepth 100000 in
theorem gw444 : Jvm.Cond.fieldLink "LeftAnswers$Duchy" 128 "LeftAnswers$Tape" "letters" "J" ∈ gtb := gtb_t1 (i := 58) rfl (by decide +kernel)
set_option maxRecDepth 100000 in
theorem gw445 : Jvm.Cond.methodLink "LeftAnswers$Duchy" 161 ⟨"LeftAnswers$Duchy", "find", "([JIJ)I"⟩ ∈ gtb := gtb_t3 (i := 90) rfl (by decide +kernel)
set_option maxRecDepth 100000 in
theorem gw446 : Jvm.Cond.code ⟨"LeftAnswers$Duchy", "find", "([JIJ)I"⟩ prog_4_method_16_code 5 (some .int) ∈ gtb := gtb_t3 (i := 92) rfl (by decide +kernel)
set_option maxRecDepth 100000 in
theorem gw447 : Jvm.Cond.static ⟨"LeftAnswers$Duchy", "find", "([JIJ)I"⟩ ∈ gtb := gtb_t3 (i := 91) rfl (by decide +kernel)
set_option maxRecDepth 100000 in
theorem gw448 : Jvm.Cond.methodLink "LeftAnswers$Duchy" 122 ⟨"LeftAnswers$Tape", "advance", "()V"⟩ ∈ gtb := gtb_t3 (i := 84) rfl (by decide +kernel)
set_option maxRecDepth 100000 in
theorem gw449 : Jvm.Cond.methodLink "LeftAnswers$Duchy" 125 ⟨"LeftAnswers$Duchy", "isNewName", "(LLeftAnswers$Tape;)Z"⟩ ∈ gtb := gtb_t3 (i := 85) rfl (by decide +kernel)
