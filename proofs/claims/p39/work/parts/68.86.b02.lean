set_option maxRecDepth 100000 in
theorem gw300 : Jvm.Cond.methodLink "LeftAnswers" 170 ⟨"LeftAnswers$Duchy", "skillOf", "(II)I"⟩ ∈ gtb := gtb_in (i := 773) (by decide +kernel) (by decide +kernel)
set_option maxRecDepth 100000 in
theorem gw301 : Jvm.Cond.selects "LeftAnswers$Duchy" ⟨"LeftAnswers$Duchy", "skillOf", "(II)I"⟩ ⟨"LeftAnswers$Duchy", "skillOf", "(II)I"⟩ ∈ gtb := gtb_in (i := 775) (by decide +kernel) (by decide +kernel)
set_option maxRecDepth 100000 in
theorem gw302 : Jvm.Cond.code ⟨"LeftAnswers$Duchy", "skillOf", "(II)I"⟩ prog_4_method_17_code 3 (some .int) ∈ gtb := gtb_in (i := 776) (by decide +kernel) (by decide +kernel)
set_option maxRecDepth 100000 in
theorem gw303 : Jvm.Cond.instanceMethod ⟨"LeftAnswers$Duchy", "skillOf", "(II)I"⟩ ∈ gtb := gtb_in (i := 774) (by decide +kernel) (by decide +kernel)
set_option maxRecDepth 100000 in
theorem gw304 : Jvm.Cond.methodLink "LeftAnswers" 302 ⟨"LeftAnswers$Slip", "write", "(LLeftAnswers$Duchy;LLeftAnswers$Life;I)V"⟩ ∈ gtb := gtb_in (i := 1107) (by decide +kernel) (by decide +kernel)
set_option maxRecDepth 100000 in
theorem gw305 : Jvm.Cond.selects "LeftAnswers$Slip" ⟨"LeftAnswers$Slip", "write", "(LLeftAnswers$Duchy;LLeftAnswers$Life;I)V"⟩ ⟨"LeftAnswers$Slip", "write", "(LLeftAnswers$Duchy;LLeftAnswers$Life;I)V"⟩ ∈ gtb := gtb_in (i := 1109) (by decide +kernel) (by decide +kernel)
set_option maxRecDepth 100000 in
theorem gw306 : Jvm.Cond.code ⟨"LeftAnswers$Slip", "write", "(LLeftAnswers$Duchy;LLeftAnswers$Life;I)V"⟩ prog_11_method_2_code 5 none ∈ gtb := gtb_in (i := 1110) (by decide +kernel) (by decide +kernel)
set_option maxRecDepth 100000 in
theorem gw307 : Jvm.Cond.instanceMethod ⟨"LeftAnswers$Slip", "write", "(LLeftAnswers$Duchy;LLeftAnswers$Life;I)V"⟩ ∈ gtb := gtb_in (i := 1108) (by decide +kernel) (by decide +kernel)
set_option maxRecDepth 100000 in
theorem gw308 : Jvm.Cond.fieldLink "LeftAnswers" 378 "LeftAnswers$Tape" "fault" "I" ∈ gtb := gtb_in (i := 190) (by decide +kernel) (by decide +kernel)
set_option maxRecDepth 100000 in
theorem gw309 : Jvm.Cond.fieldLink "LeftAnswers" 328 "LeftAnswers$Book" "judged" "Z" ∈ gtb := gtb_in (i := 400) (by decide +kernel) (by decide +kernel)
set_option maxRecDepth 100000 in
theorem gw310 : Jvm.Cond.fieldLink "LeftAnswers" 332 "LeftAnswers$Book" "why" "I" ∈ gtb := gtb_in (i := 404) (by decide +kernel) (by decide +kernel)
set_option maxRecDepth 100000 in
theorem gw311 : Jvm.Cond.fieldLink "LeftAnswers" 335 "LeftAnswers$Book" "goodLines" "I" ∈ gtb := gtb_in (i := 406) (by decide +kernel) (by decide +kernel)
set_option maxRecDepth 100000 in
theorem gw312 : Jvm.Cond.fieldLink "LeftAnswers" 338 "LeftAnswers$Book" "dayThen" "I" ∈ gtb := gtb_in (i := 408) (by decide +kernel) (by decide +kernel)
set_option maxRecDepth 100000 in
theorem gw313 : Jvm.Cond.fieldLink "LeftAnswers" 341 "LeftAnswers$Book" "jailedThen" "I" ∈ gtb := gtb_in (i := 410) (by decide +kernel) (by decide +kernel)
set_option maxRecDepth 100000 in
theorem gw314 : Jvm.Cond.methodLink "LeftAnswers" 234 ⟨"LeftAnswers$Past", "takeBack", "(LLeftAnswers$Life;)I"⟩ ∈ gtb := gtb_in (i := 928) (by decide +kernel) (by decide +kernel)
set_option maxRecDepth 100000 in
theorem gw315 : Jvm.Cond.selects "LeftAnswers$Past" ⟨"LeftAnswers$Past", "takeBack", "(LLeftAnswers$Life;)I"⟩ ⟨"LeftAnswers$Past", "takeBack", "(LLeftAnswers$Life;)I"⟩ ∈ gtb := gtb_in (i := 930) (by decide +kernel) (by decide +kernel)
set_option maxRecDepth 100000 in
theorem gw316 : Jvm.Cond.code ⟨"LeftAnswers$Past", "takeBack", "(LLeftAnswers$Life;)I"⟩ prog_9_method_4_code 2 (some .int) ∈ gtb := gtb_in (i := 931) (by decide +kernel) (by decide +kernel)
set_option maxRecDepth 100000 in
theorem gw317 : Jvm.Cond.instanceMethod ⟨"LeftAnswers$Past", "takeBack", "(LLeftAnswers$Life;)I"⟩ ∈ gtb := gtb_in (i := 929) (by decide +kernel) (by decide +kernel)
set_option maxRecDepth 100000 in
theorem gw318 : Jvm.Cond.methodLink "LeftAnswers$Book" 3 ⟨"java/lang/Object", "<init>", "()V"⟩ ∈ gtb := gtb_in (i := 393) (by decide +kernel) (by decide +kernel)
set_option maxRecDepth 100000 in
theorem gw319 : Jvm.Cond.arrayClass .int ∈ gtb := gtb_in (i := 300) (by decide +kernel) (by decide +kernel)
set_option maxRecDepth 100000 in
theorem gw320 : Jvm.Cond.fieldLink "LeftAnswers$Book" 11 "LeftAnswers$Book" "verbs" "[I" ∈ gtb := gtb_in (i := 394) (by decide +kernel) (by decide +kernel)
set_option maxRecDepth 100000 in
theorem gw321 : Jvm.Cond.fieldLink "LeftAnswers$Book" 15 "LeftAnswers$Book" "doers" "[I" ∈ gtb := gtb_in (i := 395) (by decide +kernel) (by decide +kernel)
set_option maxRecDepth 100000 in
theorem gw322 : Jvm.Cond.fieldLink "LeftAnswers$Book" 18 "LeftAnswers$Book" "others" "[I" ∈ gtb := gtb_in (i := 396) (by decide +kernel) (by decide +kernel)
set_option maxRecDepth 100000 in
theorem gw323 : Jvm.Cond.fieldLink "LeftAnswers$Book" 21 "LeftAnswers$Book" "hands" "[I" ∈ gtb := gtb_in (i := 397) (by decide +kernel) (by decide +kernel)
set_option maxRecDepth 100000 in
theorem gw324 : Jvm.Cond.fieldLink "LeftAnswers$Book" 24 "LeftAnswers$Book" "lines" "I" ∈ gtb := gtb_in (i := 398) (by decide +kernel) (by decide +kernel)
set_option maxRecDepth 100000 in
theorem gw325 : Jvm.Cond.fieldLink "LeftAnswers$Book" 101 "LeftAnswers$Book" "why" "I" ∈ gtb := gtb_in (i := 403) (by decide +kernel) (by decide +kernel)
set_option maxRecDepth 100000 in
theorem gw326 : Jvm.Cond.fieldLink "LeftAnswers$Book" 104 "LeftAnswers$Book" "wrongLine" "I" ∈ gtb := gtb_in (i := 401) (by decide +kernel) (by decide +kernel)
set_option maxRecDepth 100000 in
theorem gw327 : Jvm.Cond.fieldLink "LeftAnswers$Book" 107 "LeftAnswers$Book" "goodLines" "I" ∈ gtb := gtb_in (i := 405) (by decide +kernel) (by decide +kernel)
set_option maxRecDepth 100000 in
theorem gw328 : Jvm.Cond.methodLink "LeftAnswers$Book" 110 ⟨"LeftAnswers$Life", "whyNot", "(LLeftAnswers$Duchy;IIII)I"⟩ ∈ gtb := gtb_in (i := 1254) (by decide +kernel) (by decide +kernel)
set_option maxRecDepth 100000 in
theorem gw329 : Jvm.Cond.methodLink "LeftAnswers$Book" 116 ⟨"LeftAnswers$Life", "perform", "(LLeftAnswers$Duchy;IIII)V"⟩ ∈ gtb := gtb_in (i := 1255) (by decide +kernel) (by decide +kernel)
set_option maxRecDepth 100000 in
theorem gw330 : Jvm.Cond.fieldLink "LeftAnswers$Book" 120 "LeftAnswers$Life" "day" "I" ∈ gtb := gtb_in (i := 312) (by decide +kernel) (by decide +kernel)
set_option maxRecDepth 100000 in
theorem gw331 : Jvm.Cond.fieldLink "LeftAnswers$Book" 123 "LeftAnswers$Book" "dayThen" "I" ∈ gtb := gtb_in (i := 407) (by decide +kernel) (by decide +kernel)
set_option maxRecDepth 100000 in
theorem gw332 : Jvm.Cond.methodLink "LeftAnswers$Book" 126 ⟨"LeftAnswers$Life", "jailedBits", "()I"⟩ ∈ gtb := gtb_in (i := 1256) (by decide +kernel) (by decide +kernel)
set_option maxRecDepth 100000 in
theorem gw333 : Jvm.Cond.fieldLink "LeftAnswers$Book" 129 "LeftAnswers$Book" "jailedThen" "I" ∈ gtb := gtb_in (i := 409) (by decide +kernel) (by decide +kernel)
set_option maxRecDepth 100000 in
theorem gw334 : Jvm.Cond.fieldLink "LeftAnswers$Book" 132 "LeftAnswers$Book" "judged" "Z" ∈ gtb := gtb_in (i := 399) (by decide +kernel) (by decide +kernel)
set_option maxRecDepth 100000 in
theorem gw335 : Jvm.Cond.methodLink "LeftAnswers$Book" 76 ⟨"LeftAnswers$Duchy", "personHere", "(LLeftAnswers$Tape;)I"⟩ ∈ gtb := gtb_in (i := 1234) (by decide +kernel) (by decide +kernel)
set_option maxRecDepth 100000 in
theorem gw336 : Jvm.Cond.selects "LeftAnswers$Duchy" ⟨"LeftAnswers$Duchy", "personHere", "(LLeftAnswers$Tape;)I"⟩ ⟨"LeftAnswers$Duchy", "personHere", "(LLeftAnswers$Tape;)I"⟩ ∈ gtb := gtb_in (i := 720) (by decide +kernel) (by decide +kernel)
set_option maxRecDepth 100000 in
theorem gw337 : Jvm.Cond.code ⟨"LeftAnswers$Duchy", "personHere", "(LLeftAnswers$Tape;)I"⟩ prog_4_method_13_code 2 (some .int) ∈ gtb := gtb_in (i := 721) (by decide +kernel) (by decide +kernel)
set_option maxRecDepth 100000 in
theorem gw338 : Jvm.Cond.instanceMethod ⟨"LeftAnswers$Duchy", "personHere", "(LLeftAnswers$Tape;)I"⟩ ∈ gtb := gtb_in (i := 719) (by decide +kernel) (by decide +kernel)
set_option maxRecDepth 100000 in
theorem gw339 : Jvm.Cond.methodLink "LeftAnswers$Book" 58 ⟨"LeftAnswers$Tape", "refuse", "(I)Z"⟩ ∈ gtb := gtb_in (i := 1223) (by decide +kernel) (by decide +kernel)
set_option maxRecDepth 100000 in
theorem gw340 : Jvm.Cond.selects "LeftAnswers$Tape" ⟨"LeftAnswers$Tape", "refuse", "(I)Z"⟩ ⟨"LeftAnswers$Tape", "refuse", "(I)Z"⟩ ∈ gtb := gtb_in (i := 686) (by decide +kernel) (by decide +kernel)
set_option maxRecDepth 100000 in
theorem gw341 : Jvm.Cond.code ⟨"LeftAnswers$Tape", "refuse", "(I)Z"⟩ prog_12_method_12_code 2 (some .boolean) ∈ gtb := gtb_in (i := 687) (by decide +kernel) (by decide +kernel)
set_option maxRecDepth 100000 in
theorem gw342 : Jvm.Cond.instanceMethod ⟨"LeftAnswers$Tape", "refuse", "(I)Z"⟩ ∈ gtb := gtb_in (i := 685) (by decide +kernel) (by decide +kernel)
set_option maxRecDepth 100000 in
theorem gw343 : Jvm.Cond.methodLink "LeftAnswers$Book" 62 ⟨"LeftAnswers$Tape", "advance", "()V"⟩ ∈ gtb := gtb_in (i := 1224) (by decide +kernel) (by decide +kernel)
set_option maxRecDepth 100000 in
theorem gw344 : Jvm.Cond.selects "LeftAnswers$Tape" ⟨"LeftAnswers$Tape", "advance", "()V"⟩ ⟨"LeftAnswers$Tape", "advance", "()V"⟩ ∈ gtb := gtb_in (i := 636) (by decide +kernel) (by decide +kernel)
set_option maxRecDepth 100000 in
theorem gw345 : Jvm.Cond.code ⟨"LeftAnswers$Tape", "advance", "()V"⟩ prog_12_method_5_code 1 none ∈ gtb := gtb_in (i := 637) (by decide +kernel) (by decide +kernel)
set_option maxRecDepth 100000 in
theorem gw346 : Jvm.Cond.instanceMethod ⟨"LeftAnswers$Tape", "advance", "()V"⟩ ∈ gtb := gtb_in (i := 635) (by decide +kernel) (by decide +kernel)
set_option maxRecDepth 100000 in
theorem gw347 : Jvm.Cond.fieldLink "LeftAnswers$Book" 37 "LeftAnswers$Tape" "word" "LLeftAnswers$Word;" ∈ gtb := gtb_in (i := 178) (by decide +kernel) (by decide +kernel)
set_option maxRecDepth 100000 in
theorem gw348 : Jvm.Cond.fieldLink "LeftAnswers$Book" 82 "LeftAnswers$1" "$SwitchMap$LeftAnswers$Word" "[I" ∈ gtb := gtb_in (i := 1235) (by decide +kernel) (by decide +kernel)
set_option maxRecDepth 100000 in
theorem gw349 : Jvm.Cond.methodLink "LeftAnswers$Book" 87 ⟨"LeftAnswers$Word", "ordinal", "()I"⟩ ∈ gtb := gtb_in (i := 1236) (by decide +kernel) (by decide +kernel)
set_option maxRecDepth 100000 in
theorem gw350 : Jvm.Cond.methodLink "LeftAnswers$Book" 91 ⟨"LeftAnswers$Book", "readDoes", "(LLeftAnswers$Tape;LLeftAnswers$Duchy;I)Z"⟩ ∈ gtb := gtb_in (i := 1237) (by decide +kernel) (by decide +kernel)
set_option maxRecDepth 100000 in
theorem gw351 : Jvm.Cond.selects "LeftAnswers$Book" ⟨"LeftAnswers$Book", "readDoes", "(LLeftAnswers$Tape;LLeftAnswers$Duchy;I)Z"⟩ ⟨"LeftAnswers$Book", "readDoes", "(LLeftAnswers$Tape;LLeftAnswers$Duchy;I)Z"⟩ ∈ gtb := gtb_in (i := 37) (by decide +kernel) (by decide +kernel)
set_option maxRecDepth 100000 in
theorem gw352 : Jvm.Cond.code ⟨"LeftAnswers$Book", "readDoes", "(LLeftAnswers$Tape;LLeftAnswers$Duchy;I)Z"⟩ prog_3_method_5_code 5 (some .boolean) ∈ gtb := gtb_in (i := 1240) (by decide +kernel) (by decide +kernel)
set_option maxRecDepth 100000 in
theorem gw353 : Jvm.Cond.instanceMethod ⟨"LeftAnswers$Book", "readDoes", "(LLeftAnswers$Tape;LLeftAnswers$Duchy;I)Z"⟩ ∈ gtb := gtb_in (i := 1239) (by decide +kernel) (by decide +kernel)
set_option maxRecDepth 100000 in
theorem gw354 : Jvm.Cond.methodLink "LeftAnswers$Book" 95 ⟨"LeftAnswers$Book", "readWeds", "(LLeftAnswers$Tape;LLeftAnswers$Duchy;I)Z"⟩ ∈ gtb := gtb_in (i := 1245) (by decide +kernel) (by decide +kernel)
set_option maxRecDepth 100000 in
theorem gw355 : Jvm.Cond.selects "LeftAnswers$Book" ⟨"LeftAnswers$Book", "readWeds", "(LLeftAnswers$Tape;LLeftAnswers$Duchy;I)Z"⟩ ⟨"LeftAnswers$Book", "readWeds", "(LLeftAnswers$Tape;LLeftAnswers$Duchy;I)Z"⟩ ∈ gtb := gtb_in (i := 38) (by decide +kernel) (by decide +kernel)
set_option maxRecDepth 100000 in
theorem gw356 : Jvm.Cond.code ⟨"LeftAnswers$Book", "readWeds", "(LLeftAnswers$Tape;LLeftAnswers$Duchy;I)Z"⟩ prog_3_method_6_code 5 (some .boolean) ∈ gtb := gtb_in (i := 1248) (by decide +kernel) (by decide +kernel)
set_option maxRecDepth 100000 in
theorem gw357 : Jvm.Cond.instanceMethod ⟨"LeftAnswers$Book", "readWeds", "(LLeftAnswers$Tape;LLeftAnswers$Duchy;I)Z"⟩ ∈ gtb := gtb_in (i := 1247) (by decide +kernel) (by decide +kernel)
set_option maxRecDepth 100000 in
theorem gw358 : Jvm.Cond.methodLink "LeftAnswers$Book" 72 ⟨"LeftAnswers$Book", "addLine", "(IIII)V"⟩ ∈ gtb := gtb_in (i := 1226) (by decide +kernel) (by decide +kernel)
set_option maxRecDepth 100000 in
theorem gw359 : Jvm.Cond.selects "LeftAnswers$Book" ⟨"LeftAnswers$Book", "addLine", "(IIII)V"⟩ ⟨"LeftAnswers$Book", "addLine", "(IIII)V"⟩ ∈ gtb := gtb_in (i := 35) (by decide +kernel) (by decide +kernel)
set_option maxRecDepth 100000 in
theorem gw360 : Jvm.Cond.code ⟨"LeftAnswers$Book", "addLine", "(IIII)V"⟩ prog_3_method_7_code 5 none ∈ gtb := gtb_in (i := 1229) (by decide +kernel) (by decide +kernel)
set_option maxRecDepth 100000 in
theorem gw361 : Jvm.Cond.instanceMethod ⟨"LeftAnswers$Book", "addLine", "(IIII)V"⟩ ∈ gtb := gtb_in (i := 1228) (by decide +kernel) (by decide +kernel)
set_option maxRecDepth 100000 in
theorem gw362 : Jvm.Cond.methodLink "LeftAnswers$Book" 65 ⟨"LeftAnswers$Tape", "takesNumber", "(II)Z"⟩ ∈ gtb := gtb_in (i := 1225) (by decide +kernel) (by decide +kernel)
set_option maxRecDepth 100000 in
theorem gw363 : Jvm.Cond.selects "LeftAnswers$Tape" ⟨"LeftAnswers$Tape", "takesNumber", "(II)Z"⟩ ⟨"LeftAnswers$Tape", "takesNumber", "(II)Z"⟩ ∈ gtb := gtb_in (i := 699) (by decide +kernel) (by decide +kernel)
set_option maxRecDepth 100000 in
theorem gw364 : Jvm.Cond.code ⟨"LeftAnswers$Tape", "takesNumber", "(II)Z"⟩ prog_12_method_15_code 3 (some .boolean) ∈ gtb := gtb_in (i := 700) (by decide +kernel) (by decide +kernel)
set_option maxRecDepth 100000 in
theorem gw365 : Jvm.Cond.instanceMethod ⟨"LeftAnswers$Tape", "takesNumber", "(II)Z"⟩ ∈ gtb := gtb_in (i := 698) (by decide +kernel) (by decide +kernel)
set_option maxRecDepth 100000 in
theorem gw366 : Jvm.Cond.fieldLink "LeftAnswers$Book" 69 "LeftAnswers$Tape" "taken" "I" ∈ gtb := gtb_in (i := 185) (by decide +kernel) (by decide +kernel)
set_option maxRecDepth 100000 in
theorem gw367 : Jvm.Cond.methodLink "LeftAnswers$Book" 98 ⟨"LeftAnswers$Duchy", "deedHere", "(LLeftAnswers$Tape;)I"⟩ ∈ gtb := gtb_in (i := 1241) (by decide +kernel) (by decide +kernel)
set_option maxRecDepth 100000 in
theorem gw368 : Jvm.Cond.selects "LeftAnswers$Duchy" ⟨"LeftAnswers$Duchy", "deedHere", "(LLeftAnswers$Tape;)I"⟩ ⟨"LeftAnswers$Duchy", "deedHere", "(LLeftAnswers$Tape;)I"⟩ ∈ gtb := gtb_in (i := 1243) (by decide +kernel) (by decide +kernel)
set_option maxRecDepth 100000 in
theorem gw369 : Jvm.Cond.code ⟨"LeftAnswers$Duchy", "deedHere", "(LLeftAnswers$Tape;)I"⟩ prog_4_method_14_code 2 (some .int) ∈ gtb := gtb_in (i := 1244) (by decide +kernel) (by decide +kernel)
set_option maxRecDepth 100000 in
theorem gw370 : Jvm.Cond.instanceMethod ⟨"LeftAnswers$Duchy", "deedHere", "(LLeftAnswers$Tape;)I"⟩ ∈ gtb := gtb_in (i := 1242) (by decide +kernel) (by decide +kernel)
set_option maxRecDepth 100000 in
theorem gw371 : Jvm.Cond.methodLink "LeftAnswers$Book" 28 ⟨"LeftAnswers$Tape", "open", "(I)V"⟩ ∈ gtb := gtb_in (i := 1216) (by decide +kernel) (by decide +kernel)
set_option maxRecDepth 100000 in
theorem gw372 : Jvm.Cond.selects "LeftAnswers$Tape" ⟨"LeftAnswers$Tape", "open", "(I)V"⟩ ⟨"LeftAnswers$Tape", "open", "(I)V"⟩ ∈ gtb := gtb_in (i := 632) (by decide +kernel) (by decide +kernel)
set_option maxRecDepth 100000 in
theorem gw373 : Jvm.Cond.code ⟨"LeftAnswers$Tape", "open", "(I)V"⟩ prog_12_method_4_code 2 none ∈ gtb := gtb_in (i := 633) (by decide +kernel) (by decide +kernel)
set_option maxRecDepth 100000 in
theorem gw374 : Jvm.Cond.instanceMethod ⟨"LeftAnswers$Tape", "open", "(I)V"⟩ ∈ gtb := gtb_in (i := 631) (by decide +kernel) (by decide +kernel)
set_option maxRecDepth 100000 in
theorem gw375 : Jvm.Cond.fieldLink "LeftAnswers$Book" 34 "LeftAnswers$Tape" "kind" "I" ∈ gtb := gtb_in (i := 172) (by decide +kernel) (by decide +kernel)
set_option maxRecDepth 100000 in
theorem gw376 : Jvm.Cond.fieldLink "LeftAnswers$Book" 41 "LeftAnswers$Word" "DAY" "LLeftAnswers$Word;" ∈ gtb := gtb_in (i := 1217) (by decide +kernel) (by decide +kernel)
set_option maxRecDepth 100000 in
theorem gw377 : Jvm.Cond.methodLink "LeftAnswers$Book" 46 ⟨"LeftAnswers$Book", "readDay", "(LLeftAnswers$Tape;)Z"⟩ ∈ gtb := gtb_in (i := 1219) (by decide +kernel) (by decide +kernel)
set_option maxRecDepth 100000 in
theorem gw378 : Jvm.Cond.selects "LeftAnswers$Book" ⟨"LeftAnswers$Book", "readDay", "(LLeftAnswers$Tape;)Z"⟩ ⟨"LeftAnswers$Book", "readDay", "(LLeftAnswers$Tape;)Z"⟩ ∈ gtb := gtb_in (i := 34) (by decide +kernel) (by decide +kernel)
set_option maxRecDepth 100000 in
theorem gw379 : Jvm.Cond.code ⟨"LeftAnswers$Book", "readDay", "(LLeftAnswers$Tape;)Z"⟩ prog_3_method_3_code 2 (some .boolean) ∈ gtb := gtb_in (i := 1222) (by decide +kernel) (by decide +kernel)
set_option maxRecDepth 100000 in
theorem gw380 : Jvm.Cond.instanceMethod ⟨"LeftAnswers$Book", "readDay", "(LLeftAnswers$Tape;)Z"⟩ ∈ gtb := gtb_in (i := 1221) (by decide +kernel) (by decide +kernel)
set_option maxRecDepth 100000 in
theorem gw381 : Jvm.Cond.methodLink "LeftAnswers$Book" 50 ⟨"LeftAnswers$Book", "readAct", "(LLeftAnswers$Tape;LLeftAnswers$Duchy;)Z"⟩ ∈ gtb := gtb_in (i := 1230) (by decide +kernel) (by decide +kernel)
set_option maxRecDepth 100000 in
theorem gw382 : Jvm.Cond.selects "LeftAnswers$Book" ⟨"LeftAnswers$Book", "readAct", "(LLeftAnswers$Tape;LLeftAnswers$Duchy;)Z"⟩ ⟨"LeftAnswers$Book", "readAct", "(LLeftAnswers$Tape;LLeftAnswers$Duchy;)Z"⟩ ∈ gtb := gtb_in (i := 36) (by decide +kernel) (by decide +kernel)
set_option maxRecDepth 100000 in
theorem gw383 : Jvm.Cond.code ⟨"LeftAnswers$Book", "readAct", "(LLeftAnswers$Tape;LLeftAnswers$Duchy;)Z"⟩ prog_3_method_4_code 5 (some .boolean) ∈ gtb := gtb_in (i := 1233) (by decide +kernel) (by decide +kernel)
set_option maxRecDepth 100000 in
theorem gw384 : Jvm.Cond.instanceMethod ⟨"LeftAnswers$Book", "readAct", "(LLeftAnswers$Tape;LLeftAnswers$Duchy;)Z"⟩ ∈ gtb := gtb_in (i := 1232) (by decide +kernel) (by decide +kernel)
set_option maxRecDepth 100000 in
theorem gw385 : Jvm.Cond.methodLink "LeftAnswers$Book" 54 ⟨"LeftAnswers$Tape", "takesMark", "(C)Z"⟩ ∈ gtb := gtb_in (i := 1249) (by decide +kernel) (by decide +kernel)
set_option maxRecDepth 100000 in
theorem gw386 : Jvm.Cond.selects "LeftAnswers$Tape" ⟨"LeftAnswers$Tape", "takesMark", "(C)Z"⟩ ⟨"LeftAnswers$Tape", "takesMark", "(C)Z"⟩ ∈ gtb := gtb_in (i := 739) (by decide +kernel) (by decide +kernel)
set_option maxRecDepth 100000 in
theorem gw387 : Jvm.Cond.code ⟨"LeftAnswers$Tape", "takesMark", "(C)Z"⟩ prog_12_method_14_code 2 (some .boolean) ∈ gtb := gtb_in (i := 740) (by decide +kernel) (by decide +kernel)
set_option maxRecDepth 100000 in
theorem gw388 : Jvm.Cond.instanceMethod ⟨"LeftAnswers$Tape", "takesMark", "(C)Z"⟩ ∈ gtb := gtb_in (i := 738) (by decide +kernel) (by decide +kernel)
set_option maxRecDepth 100000 in
theorem gw389 : Jvm.Cond.methodLink "LeftAnswers$Duchy" 3 ⟨"java/lang/Object", "<init>", "()V"⟩ ∈ gtb := gtb_in (i := 224) (by decide +kernel) (by decide +kernel)
set_option maxRecDepth 100000 in
theorem gw390 : Jvm.Cond.arrayClass .long ∈ gtb := gtb_in (i := 299) (by decide +kernel) (by decide +kernel)
set_option maxRecDepth 100000 in
theorem gw391 : Jvm.Cond.fieldLink "LeftAnswers$Duchy" 9 "LeftAnswers$Duchy" "personNames" "[J" ∈ gtb := gtb_in (i := 249) (by decide +kernel) (by decide +kernel)
set_option maxRecDepth 100000 in
theorem gw392 : Jvm.Cond.fieldLink "LeftAnswers$Duchy" 15 "LeftAnswers$Duchy" "right" "[I" ∈ gtb := gtb_in (i := 251) (by decide +kernel) (by decide +kernel)
set_option maxRecDepth 100000 in
theorem gw393 : Jvm.Cond.fieldLink "LeftAnswers$Duchy" 19 "LeftAnswers$Duchy" "left" "[I" ∈ gtb := gtb_in (i := 252) (by decide +kernel) (by decide +kernel)
set_option maxRecDepth 100000 in
theorem gw394 : Jvm.Cond.fieldLink "LeftAnswers$Duchy" 22 "LeftAnswers$Duchy" "watchers" "[I" ∈ gtb := gtb_in (i := 263) (by decide +kernel) (by decide +kernel)
set_option maxRecDepth 100000 in
theorem gw395 : Jvm.Cond.fieldLink "LeftAnswers$Duchy" 25 "LeftAnswers$Duchy" "fond" "[I" ∈ gtb := gtb_in (i := 265) (by decide +kernel) (by decide +kernel)
set_option maxRecDepth 100000 in
theorem gw396 : Jvm.Cond.fieldLink "LeftAnswers$Duchy" 28 "LeftAnswers$Duchy" "deedNames" "[J" ∈ gtb := gtb_in (i := 253) (by decide +kernel) (by decide +kernel)
set_option maxRecDepth 100000 in
theorem gw397 : Jvm.Cond.fieldLink "LeftAnswers$Duchy" 31 "LeftAnswers$Duchy" "hard" "[I" ∈ gtb := gtb_in (i := 254) (by decide +kernel) (by decide +kernel)
set_option maxRecDepth 100000 in
theorem gw398 : Jvm.Cond.fieldLink "LeftAnswers$Duchy" 34 "LeftAnswers$Duchy" "pay" "[I" ∈ gtb := gtb_in (i := 257) (by decide +kernel) (by decide +kernel)
set_option maxRecDepth 100000 in
theorem gw399 : Jvm.Cond.fieldLink "LeftAnswers$Duchy" 37 "LeftAnswers$Duchy" "blame" "[I" ∈ gtb := gtb_in (i := 260) (by decide +kernel) (by decide +kernel)
set_option maxRecDepth 100000 in
theorem gw400 : Jvm.Cond.methodLink "LeftAnswers$Duchy" 40 ⟨"LeftAnswers$Duchy", "fillIn", "()V"⟩ ∈ gtb := gtb_in (i := 225) (by decide +kernel) (by decide +kernel)
set_option maxRecDepth 100000 in
theorem gw401 : Jvm.Cond.selects "LeftAnswers$Duchy" ⟨"LeftAnswers$Duchy", "fillIn", "()V"⟩ ⟨"LeftAnswers$Duchy", "fillIn", "()V"⟩ ∈ gtb := gtb_in (i := 0) (by decide +kernel) (by decide +kernel)
set_option maxRecDepth 100000 in
theorem gw402 : Jvm.Cond.code ⟨"LeftAnswers$Duchy", "fillIn", "()V"⟩ prog_4_method_5_code 1 none ∈ gtb := gtb_in (i := 228) (by decide +kernel) (by decide +kernel)
set_option maxRecDepth 100000 in
theorem gw403 : Jvm.Cond.instanceMethod ⟨"LeftAnswers$Duchy", "fillIn", "()V"⟩ ∈ gtb := gtb_in (i := 227) (by decide +kernel) (by decide +kernel)
set_option maxRecDepth 100000 in
theorem gw404 : Jvm.Cond.fieldLink "LeftAnswers$Duchy" 43 "LeftAnswers$Duchy" "persons" "I" ∈ gtb := gtb_in (i := 230) (by decide +kernel) (by decide +kernel)
set_option maxRecDepth 100000 in
theorem gw405 : Jvm.Cond.methodLink "LeftAnswers$Duchy" 183 ⟨"java/lang/Integer", "bitCount", "(I)I"⟩ ∈ gtb := gtb_in (i := 1012) (by decide +kernel) (by decide +kernel)
set_option maxRecDepth 100000 in
theorem gw406 : Jvm.Cond.fieldLink "LeftAnswers$Duchy" 47 "LeftAnswers$Duchy" "deeds" "I" ∈ gtb := gtb_in (i := 234) (by decide +kernel) (by decide +kernel)
set_option maxRecDepth 100000 in
theorem gw407 : Jvm.Cond.methodLink "LeftAnswers$Duchy" 189 ⟨"LeftAnswers$Duchy", "canBits", "(I)I"⟩ ∈ gtb := gtb_in (i := 1018) (by decide +kernel) (by decide +kernel)
set_option maxRecDepth 100000 in
theorem gw408 : Jvm.Cond.methodLink "LeftAnswers$Duchy" 192 ⟨"java/lang/Math", "abs", "(I)I"⟩ ∈ gtb := gtb_in (i := 1019) (by decide +kernel) (by decide +kernel)
set_option maxRecDepth 100000 in
theorem gw409 : Jvm.Cond.static ⟨"java/lang/Math", "abs", "(I)I"⟩ ∈ gtb := gtb_in (i := 1020) (by decide +kernel) (by decide +kernel)
set_option maxRecDepth 100000 in
theorem gw410 : Jvm.Cond.code ⟨"java/lang/Math", "abs", "(I)I"⟩ prog_22_method_59_code 1 (some .int) ∈ gtb := gtb_in (i := 1021) (by decide +kernel) (by decide +kernel)
set_option maxRecDepth 100000 in
theorem gw411 : Jvm.Cond.methodLink "LeftAnswers$Duchy" 179 ⟨"LeftAnswers$Duchy", "isEasyFor", "(III)Z"⟩ ∈ gtb := gtb_in (i := 1002) (by decide +kernel) (by decide +kernel)
set_option maxRecDepth 100000 in
theorem gw412 : Jvm.Cond.selects "LeftAnswers$Duchy" ⟨"LeftAnswers$Duchy", "isEasyFor", "(III)Z"⟩ ⟨"LeftAnswers$Duchy", "isEasyFor", "(III)Z"⟩ ∈ gtb := gtb_in (i := 1004) (by decide +kernel) (by decide +kernel)
set_option maxRecDepth 100000 in
theorem gw413 : Jvm.Cond.code ⟨"LeftAnswers$Duchy", "isEasyFor", "(III)Z"⟩ prog_4_method_20_code 4 (some .boolean) ∈ gtb := gtb_in (i := 1005) (by decide +kernel) (by decide +kernel)
set_option maxRecDepth 100000 in
theorem gw414 : Jvm.Cond.instanceMethod ⟨"LeftAnswers$Duchy", "isEasyFor", "(III)Z"⟩ ∈ gtb := gtb_in (i := 1003) (by decide +kernel) (by decide +kernel)
set_option maxRecDepth 100000 in
theorem gw415 : Jvm.Cond.fieldLink "LeftAnswers$Duchy" 50 "LeftAnswers$Duchy" "law" "I" ∈ gtb := gtb_in (i := 237) (by decide +kernel) (by decide +kernel)
set_option maxRecDepth 100000 in
theorem gw416 : Jvm.Cond.fieldLink "LeftAnswers$Duchy" 53 "LeftAnswers$Duchy" "cell" "I" ∈ gtb := gtb_in (i := 240) (by decide +kernel) (by decide +kernel)
set_option maxRecDepth 100000 in
theorem gw417 : Jvm.Cond.fieldLink "LeftAnswers$Duchy" 56 "LeftAnswers$Duchy" "ideas" "I" ∈ gtb := gtb_in (i := 243) (by decide +kernel) (by decide +kernel)
set_option maxRecDepth 100000 in
theorem gw418 : Jvm.Cond.fieldLink "LeftAnswers$Duchy" 59 "LeftAnswers$Duchy" "gloved" "I" ∈ gtb := gtb_in (i := 246) (by decide +kernel) (by decide +kernel)
set_option maxRecDepth 100000 in
theorem gw419 : Jvm.Cond.fieldLink "LeftAnswers$Duchy" 62 "LeftAnswers$Duchy" "both" "I" ∈ gtb := gtb_in (i := 248) (by decide +kernel) (by decide +kernel)
set_option maxRecDepth 100000 in
theorem gw420 : Jvm.Cond.methodLink "LeftAnswers$Duchy" 65 ⟨"java/lang/System", "arraycopy", "(Ljava/lang/Object;ILjava/lang/Object;II)V"⟩ ∈ gtb := gtb_in (i := 1356) (by decide +kernel) (by decide +kernel)
set_option maxRecDepth 100000 in
theorem gw421 : Jvm.Cond.native ⟨"java/lang/System", "arraycopy", "(Ljava/lang/Object;ILjava/lang/Object;II)V"⟩ ∈ gtb := gtb_in (i := 865) (by decide +kernel) (by decide +kernel)
set_option maxRecDepth 100000 in
theorem gw422 : Jvm.Cond.static ⟨"java/lang/System", "arraycopy", "(Ljava/lang/Object;ILjava/lang/Object;II)V"⟩ ∈ gtb := gtb_in (i := 864) (by decide +kernel) (by decide +kernel)
set_option maxRecDepth 100000 in
theorem gw423 : Jvm.Cond.initialized "java/lang/System" ∈ gtb := gtb_in (i := 144) (by decide +kernel) (by decide +kernel)
set_option maxRecDepth 100000 in
theorem gw424 : Jvm.Cond.methodLink "LeftAnswers$Duchy" 165 ⟨"LeftAnswers$Duchy", "namedHere", "(LLeftAnswers$Tape;[JI)I"⟩ ∈ gtb := gtb_in (i := 722) (by decide +kernel) (by decide +kernel)
set_option maxRecDepth 100000 in
theorem gw425 : Jvm.Cond.code ⟨"LeftAnswers$Duchy", "namedHere", "(LLeftAnswers$Tape;[JI)I"⟩ prog_4_method_15_code 4 (some .int) ∈ gtb := gtb_in (i := 724) (by decide +kernel) (by decide +kernel)
set_option maxRecDepth 100000 in
theorem gw426 : Jvm.Cond.static ⟨"LeftAnswers$Duchy", "namedHere", "(LLeftAnswers$Tape;[JI)I"⟩ ∈ gtb := gtb_in (i := 723) (by decide +kernel) (by decide +kernel)
set_option maxRecDepth 100000 in
theorem gw427 : Jvm.Cond.methodLink "LeftAnswers$Duchy" 200 ⟨"LeftAnswers$Duchy", "allPersonBits", "()I"⟩ ∈ gtb := gtb_in (i := 1054) (by decide +kernel) (by decide +kernel)
set_option maxRecDepth 100000 in
theorem gw428 : Jvm.Cond.selects "LeftAnswers$Duchy" ⟨"LeftAnswers$Duchy", "allPersonBits", "()I"⟩ ⟨"LeftAnswers$Duchy", "allPersonBits", "()I"⟩ ∈ gtb := gtb_in (i := 1056) (by decide +kernel) (by decide +kernel)
set_option maxRecDepth 100000 in
theorem gw429 : Jvm.Cond.code ⟨"LeftAnswers$Duchy", "allPersonBits", "()I"⟩ prog_4_method_22_code 1 (some .int) ∈ gtb := gtb_in (i := 1057) (by decide +kernel) (by decide +kernel)
set_option maxRecDepth 100000 in
theorem gw430 : Jvm.Cond.instanceMethod ⟨"LeftAnswers$Duchy", "allPersonBits", "()I"⟩ ∈ gtb := gtb_in (i := 1055) (by decide +kernel) (by decide +kernel)
set_option maxRecDepth 100000 in
theorem gw431 : Jvm.Cond.methodLink "LeftAnswers$Duchy" 197 ⟨"LeftAnswers$Duchy", "watchedByAny", "(I)I"⟩ ∈ gtb := gtb_in (i := 1042) (by decide +kernel) (by decide +kernel)
set_option maxRecDepth 100000 in
theorem gw432 : Jvm.Cond.selects "LeftAnswers$Duchy" ⟨"LeftAnswers$Duchy", "watchedByAny", "(I)I"⟩ ⟨"LeftAnswers$Duchy", "watchedByAny", "(I)I"⟩ ∈ gtb := gtb_in (i := 25) (by decide +kernel) (by decide +kernel)
set_option maxRecDepth 100000 in
theorem gw433 : Jvm.Cond.code ⟨"LeftAnswers$Duchy", "watchedByAny", "(I)I"⟩ prog_4_method_27_code 4 (some .int) ∈ gtb := gtb_in (i := 1045) (by decide +kernel) (by decide +kernel)
set_option maxRecDepth 100000 in
theorem gw434 : Jvm.Cond.instanceMethod ⟨"LeftAnswers$Duchy", "watchedByAny", "(I)I"⟩ ∈ gtb := gtb_in (i := 1044) (by decide +kernel) (by decide +kernel)
set_option maxRecDepth 100000 in
theorem gw435 : Jvm.Cond.methodLink "LeftAnswers$Duchy" 169 ⟨"LeftAnswers$Duchy", "needsBoth", "(I)Z"⟩ ∈ gtb := gtb_in (i := 841) (by decide +kernel) (by decide +kernel)
set_option maxRecDepth 100000 in
theorem gw436 : Jvm.Cond.methodLink "LeftAnswers$Duchy" 172 ⟨"LeftAnswers$Duchy", "handsAreRight", "(II)Z"⟩ ∈ gtb := gtb_in (i := 1006) (by decide +kernel) (by decide +kernel)
set_option maxRecDepth 100000 in
theorem gw437 : Jvm.Cond.selects "LeftAnswers$Duchy" ⟨"LeftAnswers$Duchy", "handsAreRight", "(II)Z"⟩ ⟨"LeftAnswers$Duchy", "handsAreRight", "(II)Z"⟩ ∈ gtb := gtb_in (i := 839) (by decide +kernel) (by decide +kernel)
set_option maxRecDepth 100000 in
theorem gw438 : Jvm.Cond.code ⟨"LeftAnswers$Duchy", "handsAreRight", "(II)Z"⟩ prog_4_method_19_code 3 (some .boolean) ∈ gtb := gtb_in (i := 840) (by decide +kernel) (by decide +kernel)
set_option maxRecDepth 100000 in
theorem gw439 : Jvm.Cond.instanceMethod ⟨"LeftAnswers$Duchy", "handsAreRight", "(II)Z"⟩ ∈ gtb := gtb_in (i := 838) (by decide +kernel) (by decide +kernel)
set_option maxRecDepth 100000 in
theorem gw440 : Jvm.Cond.methodLink "LeftAnswers$Duchy" 175 ⟨"LeftAnswers$Duchy", "skillOf", "(II)I"⟩ ∈ gtb := gtb_in (i := 1007) (by decide +kernel) (by decide +kernel)
set_option maxRecDepth 100000 in
theorem gw441 : Jvm.Cond.fieldLink "LeftAnswers$Duchy" 88 "LeftAnswers$Tape" "word" "LLeftAnswers$Word;" ∈ gtb := gtb_in (i := 179) (by decide +kernel) (by decide +kernel)
set_option maxRecDepth 100000 in
theorem gw442 : Jvm.Cond.fieldLink "LeftAnswers$Duchy" 158 "LeftAnswers$Word" "NAME" "LLeftAnswers$Word;" ∈ gtb := gtb_in (i := 693) (by decide +kernel) (by decide +kernel)
set_option maxRecDepth 100000 in
theorem gw443 : Jvm.Cond.methodLink "LeftAnswers$Duchy" 114 ⟨"LeftAnswers$Tape", "refuse", "(I)Z"⟩ ∈ gtb := gtb_in (i := 684) (by decide +kernel) (by decide +kernel)
set_option maxRecDepth 100000 in
theorem gw444 : Jvm.Cond.fieldLink "LeftAnswers$Duchy" 128 "LeftAnswers$Tape" "letters" "J" ∈ gtb := gtb_in (i := 182) (by decide +kernel) (by decide +kernel)
set_option maxRecDepth 100000 in
theorem gw445 : Jvm.Cond.methodLink "LeftAnswers$Duchy" 161 ⟨"LeftAnswers$Duchy", "find", "([JIJ)I"⟩ ∈ gtb := gtb_in (i := 694) (by decide +kernel) (by decide +kernel)
set_option maxRecDepth 100000 in
theorem gw446 : Jvm.Cond.code ⟨"LeftAnswers$Duchy", "find", "([JIJ)I"⟩ prog_4_method_16_code 5 (some .int) ∈ gtb := gtb_in (i := 696) (by decide +kernel) (by decide +kernel)
set_option maxRecDepth 100000 in
theorem gw447 : Jvm.Cond.static ⟨"LeftAnswers$Duchy", "find", "([JIJ)I"⟩ ∈ gtb := gtb_in (i := 695) (by decide +kernel) (by decide +kernel)
set_option maxRecDepth 100000 in
theorem gw448 : Jvm.Cond.methodLink "LeftAnswers$Duchy" 122 ⟨"LeftAnswers$Tape", "advance", "()V"⟩ ∈ gtb := gtb_in (i := 688) (by decide +kernel) (by decide +kernel)
set_option maxRecDepth 100000 in
theorem gw449 : Jvm.Cond.methodLink "LeftAnswers$Duchy" 125 ⟨"LeftAnswers$Duchy", "isNewName", "(LLeftAnswers$Tape;)Z"⟩ ∈ gtb := gtb_in (i := 689) (by decide +kernel) (by decide +kernel)
