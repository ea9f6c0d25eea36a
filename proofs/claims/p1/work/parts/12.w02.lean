set_option maxRecDepth 100000 in
theorem gw300 : Jvm.Cond.instanceMethod ⟨"LeftAnswers$Life", "isJailed", "(I)Z"⟩ ∈ gtb := gtb_in (i := 798) (by decide +kernel) (by decide +kernel)
set_option maxRecDepth 100000 in
theorem gw301 : Jvm.Cond.fieldLink "LeftAnswers$Life" 72 "LeftAnswers$Duchy" "persons" "I" ∈ gtb := gtb_in (i := 231) (by decide +kernel) (by decide +kernel)
set_option maxRecDepth 100000 in
theorem gw302 : Jvm.Cond.methodLink "LeftAnswers$Life" 140 ⟨"LeftAnswers$Life", "passDay", "(LLeftAnswers$Duchy;)V"⟩ ∈ gtb := gtb_in (i := 897) (by decide +kernel) (by decide +kernel)
set_option maxRecDepth 100000 in
theorem gw303 : Jvm.Cond.selects "LeftAnswers$Life" ⟨"LeftAnswers$Life", "passDay", "(LLeftAnswers$Duchy;)V"⟩ ⟨"LeftAnswers$Life", "passDay", "(LLeftAnswers$Duchy;)V"⟩ ∈ gtb := gtb_in (i := 21) (by decide +kernel) (by decide +kernel)
set_option maxRecDepth 100000 in
theorem gw304 : Jvm.Cond.code ⟨"LeftAnswers$Life", "passDay", "(LLeftAnswers$Duchy;)V"⟩ prog_6_method_24_code 4 none ∈ gtb := gtb_in (i := 900) (by decide +kernel) (by decide +kernel)
set_option maxRecDepth 100000 in
theorem gw305 : Jvm.Cond.instanceMethod ⟨"LeftAnswers$Life", "passDay", "(LLeftAnswers$Duchy;)V"⟩ ∈ gtb := gtb_in (i := 899) (by decide +kernel) (by decide +kernel)
set_option maxRecDepth 100000 in
theorem gw306 : Jvm.Cond.methodLink "LeftAnswers$Life" 61 ⟨"LeftAnswers$Life", "jailedBits", "()I"⟩ ∈ gtb := gtb_in (i := 813) (by decide +kernel) (by decide +kernel)
set_option maxRecDepth 100000 in
theorem gw307 : Jvm.Cond.methodLink "LeftAnswers$Life" 69 ⟨"LeftAnswers$Life", "isWed", "(I)Z"⟩ ∈ gtb := gtb_in (i := 805) (by decide +kernel) (by decide +kernel)
set_option maxRecDepth 100000 in
theorem gw308 : Jvm.Cond.selects "LeftAnswers$Life" ⟨"LeftAnswers$Life", "isWed", "(I)Z"⟩ ⟨"LeftAnswers$Life", "isWed", "(I)Z"⟩ ∈ gtb := gtb_in (i := 807) (by decide +kernel) (by decide +kernel)
set_option maxRecDepth 100000 in
theorem gw309 : Jvm.Cond.code ⟨"LeftAnswers$Life", "isWed", "(I)Z"⟩ prog_6_method_6_code 2 (some .boolean) ∈ gtb := gtb_in (i := 808) (by decide +kernel) (by decide +kernel)
set_option maxRecDepth 100000 in
theorem gw310 : Jvm.Cond.instanceMethod ⟨"LeftAnswers$Life", "isWed", "(I)Z"⟩ ∈ gtb := gtb_in (i := 806) (by decide +kernel) (by decide +kernel)
set_option maxRecDepth 100000 in
theorem gw311 : Jvm.Cond.methodLink "LeftAnswers$Pairs" 3 ⟨"java/lang/Object", "<init>", "()V"⟩ ∈ gtb := gtb_in (i := 494) (by decide +kernel) (by decide +kernel)
set_option maxRecDepth 100000 in
theorem gw312 : Jvm.Cond.fieldLink "LeftAnswers$Pairs" 9 "LeftAnswers$Pairs" "partnerOf" "[I" ∈ gtb := gtb_in (i := 495) (by decide +kernel) (by decide +kernel)
set_option maxRecDepth 100000 in
theorem gw313 : Jvm.Cond.fieldLink "LeftAnswers$Pairs" 15 "LeftAnswers$Pairs" "tried" "[I" ∈ gtb := gtb_in (i := 497) (by decide +kernel) (by decide +kernel)
set_option maxRecDepth 100000 in
theorem gw314 : Jvm.Cond.fieldLink "LeftAnswers$Pairs" 18 "LeftAnswers$Pairs" "joy" "[I" ∈ gtb := gtb_in (i := 498) (by decide +kernel) (by decide +kernel)
set_option maxRecDepth 100000 in
theorem gw315 : Jvm.Cond.fieldLink "LeftAnswers$Pairs" 27 "LeftAnswers$Pairs" "persons" "I" ∈ gtb := gtb_in (i := 499) (by decide +kernel) (by decide +kernel)
set_option maxRecDepth 100000 in
theorem gw316 : Jvm.Cond.fieldLink "LeftAnswers$Pairs" 28 "LeftAnswers$Pairs" "most" "I" ∈ gtb := gtb_in (i := 500) (by decide +kernel) (by decide +kernel)
set_option maxRecDepth 100000 in
theorem gw317 : Jvm.Cond.methodLink "LeftAnswers$Pairs" 51 ⟨"java/lang/System", "arraycopy", "(Ljava/lang/Object;ILjava/lang/Object;II)V"⟩ ∈ gtb := gtb_in (i := 1080) (by decide +kernel) (by decide +kernel)
set_option maxRecDepth 100000 in
theorem gw318 : Jvm.Cond.fieldLink "LeftAnswers$Pairs" 21 "LeftAnswers$Duchy" "persons" "I" ∈ gtb := gtb_in (i := 229) (by decide +kernel) (by decide +kernel)
set_option maxRecDepth 100000 in
theorem gw319 : Jvm.Cond.methodLink "LeftAnswers$Pairs" 31 ⟨"LeftAnswers$Life", "wedBits", "()I"⟩ ∈ gtb := gtb_in (i := 1070) (by decide +kernel) (by decide +kernel)
set_option maxRecDepth 100000 in
theorem gw320 : Jvm.Cond.fieldLink "LeftAnswers$Pairs" 37 "LeftAnswers$Life" "gloved" "I" ∈ gtb := gtb_in (i := 319) (by decide +kernel) (by decide +kernel)
set_option maxRecDepth 100000 in
theorem gw321 : Jvm.Cond.methodLink "LeftAnswers$Pairs" 40 ⟨"LeftAnswers$Life", "jailedBits", "()I"⟩ ∈ gtb := gtb_in (i := 1071) (by decide +kernel) (by decide +kernel)
set_option maxRecDepth 100000 in
theorem gw322 : Jvm.Cond.methodLink "LeftAnswers$Pairs" 47 ⟨"LeftAnswers$Pairs", "search", "(II)V"⟩ ∈ gtb := gtb_in (i := 1076) (by decide +kernel) (by decide +kernel)
set_option maxRecDepth 100000 in
theorem gw323 : Jvm.Cond.selects "LeftAnswers$Pairs" ⟨"LeftAnswers$Pairs", "search", "(II)V"⟩ ⟨"LeftAnswers$Pairs", "search", "(II)V"⟩ ∈ gtb := gtb_in (i := 26) (by decide +kernel) (by decide +kernel)
set_option maxRecDepth 100000 in
theorem gw324 : Jvm.Cond.code ⟨"LeftAnswers$Pairs", "search", "(II)V"⟩ prog_7_method_3_code 5 none ∈ gtb := gtb_in (i := 1079) (by decide +kernel) (by decide +kernel)
set_option maxRecDepth 100000 in
theorem gw325 : Jvm.Cond.instanceMethod ⟨"LeftAnswers$Pairs", "search", "(II)V"⟩ ∈ gtb := gtb_in (i := 1078) (by decide +kernel) (by decide +kernel)
set_option maxRecDepth 100000 in
theorem gw326 : Jvm.Cond.methodLink "LeftAnswers$Parted" 3 ⟨"java/lang/Object", "<init>", "()V"⟩ ∈ gtb := gtb_in (i := 468) (by decide +kernel) (by decide +kernel)
set_option maxRecDepth 100000 in
theorem gw327 : Jvm.Cond.fieldLink "LeftAnswers$Parted" 9 "LeftAnswers$Parted" "can" "[I" ∈ gtb := gtb_in (i := 469) (by decide +kernel) (by decide +kernel)
set_option maxRecDepth 100000 in
theorem gw328 : Jvm.Cond.fieldLink "LeftAnswers$Parted" 15 "LeftAnswers$Parted" "possible" "[I" ∈ gtb := gtb_in (i := 471) (by decide +kernel) (by decide +kernel)
set_option maxRecDepth 100000 in
theorem gw329 : Jvm.Cond.fieldLink "LeftAnswers$Parted" 18 "LeftAnswers$Parted" "tried" "[I" ∈ gtb := gtb_in (i := 472) (by decide +kernel) (by decide +kernel)
set_option maxRecDepth 100000 in
theorem gw330 : Jvm.Cond.fieldLink "LeftAnswers$Parted" 21 "LeftAnswers$Parted" "places" "[I" ∈ gtb := gtb_in (i := 473) (by decide +kernel) (by decide +kernel)
set_option maxRecDepth 100000 in
theorem gw331 : Jvm.Cond.fieldLink "LeftAnswers$Parted" 33 "LeftAnswers$Parted" "count" "I" ∈ gtb := gtb_in (i := 474) (by decide +kernel) (by decide +kernel)
set_option maxRecDepth 100000 in
theorem gw332 : Jvm.Cond.methodLink "LeftAnswers$Past" 3 ⟨"java/lang/Object", "<init>", "()V"⟩ ∈ gtb := gtb_in (i := 374) (by decide +kernel) (by decide +kernel)
set_option maxRecDepth 100000 in
theorem gw333 : Jvm.Cond.classLink "LeftAnswers$Past" 11 "LeftAnswers$Life" ∈ gtb := gtb_in (i := 375) (by decide +kernel) (by decide +kernel)
set_option maxRecDepth 100000 in
theorem gw334 : Jvm.Cond.fieldLink "LeftAnswers$Past" 13 "LeftAnswers$Past" "lives" "[LLeftAnswers$Life;" ∈ gtb := gtb_in (i := 378) (by decide +kernel) (by decide +kernel)
set_option maxRecDepth 100000 in
theorem gw335 : Jvm.Cond.methodLink "LeftAnswers$Past" 17 ⟨"LeftAnswers$Life", "<init>", "()V"⟩ ∈ gtb := gtb_in (i := 377) (by decide +kernel) (by decide +kernel)
set_option maxRecDepth 100000 in
theorem gw336 : Jvm.Cond.fieldLink "LeftAnswers$Past" 18 "LeftAnswers$Past" "count" "I" ∈ gtb := gtb_in (i := 380) (by decide +kernel) (by decide +kernel)
set_option maxRecDepth 100000 in
theorem gw337 : Jvm.Cond.fieldLink "LeftAnswers$Past" 22 "LeftAnswers$Past" "first" "I" ∈ gtb := gtb_in (i := 379) (by decide +kernel) (by decide +kernel)
set_option maxRecDepth 100000 in
theorem gw338 : Jvm.Cond.methodLink "LeftAnswers$Past" 25 ⟨"LeftAnswers$Life", "copyFrom", "(LLeftAnswers$Life;)V"⟩ ∈ gtb := gtb_in (i := 859) (by decide +kernel) (by decide +kernel)
set_option maxRecDepth 100000 in
theorem gw339 : Jvm.Cond.methodLink "LeftAnswers$Sentence" 5 ⟨"java/lang/Object", "<init>", "()V"⟩ ∈ gtb := gtb_in (i := 439) (by decide +kernel) (by decide +kernel)
set_option maxRecDepth 100000 in
theorem gw340 : Jvm.Cond.classLink "LeftAnswers$Sentence" 11 "LeftAnswers$Word" ∈ gtb := gtb_in (i := 440) (by decide +kernel) (by decide +kernel)
set_option maxRecDepth 100000 in
theorem gw341 : Jvm.Cond.fieldLink "LeftAnswers$Sentence" 13 "LeftAnswers$Sentence" "words" "[LLeftAnswers$Word;" ∈ gtb := gtb_in (i := 446) (by decide +kernel) (by decide +kernel)
set_option maxRecDepth 100000 in
theorem gw342 : Jvm.Cond.fieldLink "LeftAnswers$Sentence" 17 "LeftAnswers$Word" "NOTHING" "LLeftAnswers$Word;" ∈ gtb := gtb_in (i := 442) (by decide +kernel) (by decide +kernel)
set_option maxRecDepth 100000 in
theorem gw343 : Jvm.Cond.fieldLink "LeftAnswers$Sentence" 21 "LeftAnswers$Sentence" "signs" "[I" ∈ gtb := gtb_in (i := 447) (by decide +kernel) (by decide +kernel)
set_option maxRecDepth 100000 in
theorem gw344 : Jvm.Cond.fieldLink "LeftAnswers$Sentence" 25 "LeftAnswers$Sentence" "numbers" "[I" ∈ gtb := gtb_in (i := 448) (by decide +kernel) (by decide +kernel)
set_option maxRecDepth 100000 in
theorem gw345 : Jvm.Cond.fieldLink "LeftAnswers$Sentence" 28 "LeftAnswers$Sentence" "stack" "[I" ∈ gtb := gtb_in (i := 449) (by decide +kernel) (by decide +kernel)
set_option maxRecDepth 100000 in
theorem gw346 : Jvm.Cond.fieldLink "LeftAnswers$Sentence" 91 "LeftAnswers$1" "$SwitchMap$LeftAnswers$Word" "[I" ∈ gtb := gtb_in (i := 1287) (by decide +kernel) (by decide +kernel)
set_option maxRecDepth 100000 in
theorem gw347 : Jvm.Cond.methodLink "LeftAnswers$Sentence" 96 ⟨"LeftAnswers$Word", "ordinal", "()I"⟩ ∈ gtb := gtb_in (i := 1288) (by decide +kernel) (by decide +kernel)
set_option maxRecDepth 100000 in
theorem gw348 : Jvm.Cond.fieldLink "LeftAnswers$Sentence" 31 "LeftAnswers$Sentence" "ones" "I" ∈ gtb := gtb_in (i := 443) (by decide +kernel) (by decide +kernel)
set_option maxRecDepth 100000 in
theorem gw349 : Jvm.Cond.fieldLink "LeftAnswers$Sentence" 35 "LeftAnswers$Sentence" "steps" "I" ∈ gtb := gtb_in (i := 445) (by decide +kernel) (by decide +kernel)
set_option maxRecDepth 100000 in
theorem gw350 : Jvm.Cond.methodLink "LeftAnswers$Sentence" 74 ⟨"LeftAnswers$Sentence", "readOne", "(LLeftAnswers$Tape;LLeftAnswers$Duchy;I)Z"⟩ ∈ gtb := gtb_in (i := 1279) (by decide +kernel) (by decide +kernel)
set_option maxRecDepth 100000 in
theorem gw351 : Jvm.Cond.selects "LeftAnswers$Sentence" ⟨"LeftAnswers$Sentence", "readOne", "(LLeftAnswers$Tape;LLeftAnswers$Duchy;I)Z"⟩ ⟨"LeftAnswers$Sentence", "readOne", "(LLeftAnswers$Tape;LLeftAnswers$Duchy;I)Z"⟩ ∈ gtb := gtb_in (i := 41) (by decide +kernel) (by decide +kernel)
set_option maxRecDepth 100000 in
theorem gw352 : Jvm.Cond.code ⟨"LeftAnswers$Sentence", "readOne", "(LLeftAnswers$Tape;LLeftAnswers$Duchy;I)Z"⟩ prog_10_method_7_code 7 (some .boolean) ∈ gtb := gtb_in (i := 1282) (by decide +kernel) (by decide +kernel)
set_option maxRecDepth 100000 in
theorem gw353 : Jvm.Cond.instanceMethod ⟨"LeftAnswers$Sentence", "readOne", "(LLeftAnswers$Tape;LLeftAnswers$Duchy;I)Z"⟩ ∈ gtb := gtb_in (i := 1281) (by decide +kernel) (by decide +kernel)
set_option maxRecDepth 100000 in
theorem gw354 : Jvm.Cond.methodLink "LeftAnswers$Sentence" 58 ⟨"LeftAnswers$Sentence", "readAll", "(LLeftAnswers$Tape;LLeftAnswers$Duchy;I)Z"⟩ ∈ gtb := gtb_in (i := 1275) (by decide +kernel) (by decide +kernel)
set_option maxRecDepth 100000 in
theorem gw355 : Jvm.Cond.selects "LeftAnswers$Sentence" ⟨"LeftAnswers$Sentence", "readAll", "(LLeftAnswers$Tape;LLeftAnswers$Duchy;I)Z"⟩ ⟨"LeftAnswers$Sentence", "readAll", "(LLeftAnswers$Tape;LLeftAnswers$Duchy;I)Z"⟩ ∈ gtb := gtb_in (i := 40) (by decide +kernel) (by decide +kernel)
set_option maxRecDepth 100000 in
theorem gw356 : Jvm.Cond.code ⟨"LeftAnswers$Sentence", "readAll", "(LLeftAnswers$Tape;LLeftAnswers$Duchy;I)Z"⟩ prog_10_method_6_code 6 (some .boolean) ∈ gtb := gtb_in (i := 1278) (by decide +kernel) (by decide +kernel)
set_option maxRecDepth 100000 in
theorem gw357 : Jvm.Cond.instanceMethod ⟨"LeftAnswers$Sentence", "readAll", "(LLeftAnswers$Tape;LLeftAnswers$Duchy;I)Z"⟩ ∈ gtb := gtb_in (i := 1277) (by decide +kernel) (by decide +kernel)
set_option maxRecDepth 100000 in
theorem gw358 : Jvm.Cond.methodLink "LeftAnswers$Sentence" 38 ⟨"LeftAnswers$Sentence", "clear", "()V"⟩ ∈ gtb := gtb_in (i := 1269) (by decide +kernel) (by decide +kernel)
set_option maxRecDepth 100000 in
theorem gw359 : Jvm.Cond.methodLink "LeftAnswers$Sentence" 41 ⟨"LeftAnswers$Tape", "open", "(I)V"⟩ ∈ gtb := gtb_in (i := 1270) (by decide +kernel) (by decide +kernel)
set_option maxRecDepth 100000 in
theorem gw360 : Jvm.Cond.methodLink "LeftAnswers$Sentence" 47 ⟨"LeftAnswers$Sentence", "readCond", "(LLeftAnswers$Tape;LLeftAnswers$Duchy;I)Z"⟩ ∈ gtb := gtb_in (i := 1271) (by decide +kernel) (by decide +kernel)
set_option maxRecDepth 100000 in
theorem gw361 : Jvm.Cond.selects "LeftAnswers$Sentence" ⟨"LeftAnswers$Sentence", "readCond", "(LLeftAnswers$Tape;LLeftAnswers$Duchy;I)Z"⟩ ⟨"LeftAnswers$Sentence", "readCond", "(LLeftAnswers$Tape;LLeftAnswers$Duchy;I)Z"⟩ ∈ gtb := gtb_in (i := 39) (by decide +kernel) (by decide +kernel)
set_option maxRecDepth 100000 in
theorem gw362 : Jvm.Cond.code ⟨"LeftAnswers$Sentence", "readCond", "(LLeftAnswers$Tape;LLeftAnswers$Duchy;I)Z"⟩ prog_10_method_5_code 6 (some .boolean) ∈ gtb := gtb_in (i := 1274) (by decide +kernel) (by decide +kernel)
set_option maxRecDepth 100000 in
theorem gw363 : Jvm.Cond.instanceMethod ⟨"LeftAnswers$Sentence", "readCond", "(LLeftAnswers$Tape;LLeftAnswers$Duchy;I)Z"⟩ ∈ gtb := gtb_in (i := 1273) (by decide +kernel) (by decide +kernel)
set_option maxRecDepth 100000 in
theorem gw364 : Jvm.Cond.methodLink "LeftAnswers$Sentence" 80 ⟨"LeftAnswers$Tape", "isMarkHere", "(C)Z"⟩ ∈ gtb := gtb_in (i := 1283) (by decide +kernel) (by decide +kernel)
set_option maxRecDepth 100000 in
theorem gw365 : Jvm.Cond.selects "LeftAnswers$Tape" ⟨"LeftAnswers$Tape", "isMarkHere", "(C)Z"⟩ ⟨"LeftAnswers$Tape", "isMarkHere", "(C)Z"⟩ ∈ gtb := gtb_in (i := 743) (by decide +kernel) (by decide +kernel)
set_option maxRecDepth 100000 in
theorem gw366 : Jvm.Cond.code ⟨"LeftAnswers$Tape", "isMarkHere", "(C)Z"⟩ prog_12_method_13_code 2 (some .boolean) ∈ gtb := gtb_in (i := 744) (by decide +kernel) (by decide +kernel)
set_option maxRecDepth 100000 in
theorem gw367 : Jvm.Cond.instanceMethod ⟨"LeftAnswers$Tape", "isMarkHere", "(C)Z"⟩ ∈ gtb := gtb_in (i := 742) (by decide +kernel) (by decide +kernel)
set_option maxRecDepth 100000 in
theorem gw368 : Jvm.Cond.fieldLink "LeftAnswers$Sentence" 61 "LeftAnswers$Tape" "word" "LLeftAnswers$Word;" ∈ gtb := gtb_in (i := 180) (by decide +kernel) (by decide +kernel)
set_option maxRecDepth 100000 in
theorem gw369 : Jvm.Cond.methodLink "LeftAnswers$Sentence" 84 ⟨"LeftAnswers$Sentence", "beginsOne", "(LLeftAnswers$Word;)Z"⟩ ∈ gtb := gtb_in (i := 1284) (by decide +kernel) (by decide +kernel)
set_option maxRecDepth 100000 in
theorem gw370 : Jvm.Cond.code ⟨"LeftAnswers$Sentence", "beginsOne", "(LLeftAnswers$Word;)Z"⟩ prog_10_method_8_code 1 (some .boolean) ∈ gtb := gtb_in (i := 1286) (by decide +kernel) (by decide +kernel)
set_option maxRecDepth 100000 in
theorem gw371 : Jvm.Cond.static ⟨"LeftAnswers$Sentence", "beginsOne", "(LLeftAnswers$Word;)Z"⟩ ∈ gtb := gtb_in (i := 1285) (by decide +kernel) (by decide +kernel)
set_option maxRecDepth 100000 in
theorem gw372 : Jvm.Cond.methodLink "LeftAnswers$Sentence" 54 ⟨"LeftAnswers$Tape", "refuse", "(I)Z"⟩ ∈ gtb := gtb_in (i := 1289) (by decide +kernel) (by decide +kernel)
set_option maxRecDepth 100000 in
theorem gw373 : Jvm.Cond.selects "LeftAnswers$Tape" ⟨"LeftAnswers$Tape", "refuse", "(I)Z"⟩ ⟨"LeftAnswers$Tape", "refuse", "(I)Z"⟩ ∈ gtb := gtb_in (i := 686) (by decide +kernel) (by decide +kernel)
set_option maxRecDepth 100000 in
theorem gw374 : Jvm.Cond.code ⟨"LeftAnswers$Tape", "refuse", "(I)Z"⟩ prog_12_method_12_code 2 (some .boolean) ∈ gtb := gtb_in (i := 687) (by decide +kernel) (by decide +kernel)
set_option maxRecDepth 100000 in
theorem gw375 : Jvm.Cond.instanceMethod ⟨"LeftAnswers$Tape", "refuse", "(I)Z"⟩ ∈ gtb := gtb_in (i := 685) (by decide +kernel) (by decide +kernel)
set_option maxRecDepth 100000 in
theorem gw376 : Jvm.Cond.methodLink "LeftAnswers$Slip" 3 ⟨"java/lang/Object", "<init>", "()V"⟩ ∈ gtb := gtb_in (i := 517) (by decide +kernel) (by decide +kernel)
set_option maxRecDepth 100000 in
theorem gw377 : Jvm.Cond.arrayClass .byte ∈ gtb := gtb_in (i := 218) (by decide +kernel) (by decide +kernel)
set_option maxRecDepth 100000 in
theorem gw378 : Jvm.Cond.fieldLink "LeftAnswers$Slip" 11 "LeftAnswers$Slip" "bytes" "[B" ∈ gtb := gtb_in (i := 518) (by decide +kernel) (by decide +kernel)
set_option maxRecDepth 100000 in
theorem gw379 : Jvm.Cond.methodLink "LeftAnswers$Tape" 3 ⟨"java/lang/Object", "<init>", "()V"⟩ ∈ gtb := gtb_in (i := 164) (by decide +kernel) (by decide +kernel)
set_option maxRecDepth 100000 in
theorem gw380 : Jvm.Cond.fieldLink "LeftAnswers$Tape" 11 "LeftAnswers$Tape" "bytes" "[B" ∈ gtb := gtb_in (i := 167) (by decide +kernel) (by decide +kernel)
set_option maxRecDepth 100000 in
theorem gw381 : Jvm.Cond.fieldLink "LeftAnswers$Tape" 15 "LeftAnswers$Word" "NOTHING" "LLeftAnswers$Word;" ∈ gtb := gtb_in (i := 165) (by decide +kernel) (by decide +kernel)
set_option maxRecDepth 100000 in
theorem gw382 : Jvm.Cond.fieldLink "LeftAnswers$Tape" 21 "LeftAnswers$Tape" "word" "LLeftAnswers$Word;" ∈ gtb := gtb_in (i := 177) (by decide +kernel) (by decide +kernel)
set_option maxRecDepth 100000 in
theorem gw383 : Jvm.Cond.fieldLink "LeftAnswers$Tape" 46 "LeftAnswers$Tape" "letters" "J" ∈ gtb := gtb_in (i := 181) (by decide +kernel) (by decide +kernel)
set_option maxRecDepth 100000 in
theorem gw384 : Jvm.Cond.fieldLink "LeftAnswers$Tape" 50 "LeftAnswers$Tape" "number" "I" ∈ gtb := gtb_in (i := 183) (by decide +kernel) (by decide +kernel)
set_option maxRecDepth 100000 in
theorem gw385 : Jvm.Cond.fieldLink "LeftAnswers$Tape" 31 "LeftAnswers$Tape" "at" "I" ∈ gtb := gtb_in (i := 171) (by decide +kernel) (by decide +kernel)
set_option maxRecDepth 100000 in
theorem gw386 : Jvm.Cond.fieldLink "LeftAnswers$Tape" 24 "LeftAnswers$Tape" "length" "I" ∈ gtb := gtb_in (i := 169) (by decide +kernel) (by decide +kernel)
set_option maxRecDepth 100000 in
theorem gw387 : Jvm.Cond.fieldLink "LeftAnswers$Tape" 61 "LeftAnswers$Tape" "place" "I" ∈ gtb := gtb_in (i := 176) (by decide +kernel) (by decide +kernel)
set_option maxRecDepth 100000 in
theorem gw388 : Jvm.Cond.fieldLink "LeftAnswers$Tape" 28 "LeftAnswers$Tape" "limit" "I" ∈ gtb := gtb_in (i := 170) (by decide +kernel) (by decide +kernel)
set_option maxRecDepth 100000 in
theorem gw389 : Jvm.Cond.fieldLink "LeftAnswers$Tape" 64 "LeftAnswers$Tape" "kind" "I" ∈ gtb := gtb_in (i := 175) (by decide +kernel) (by decide +kernel)
set_option maxRecDepth 100000 in
theorem gw390 : Jvm.Cond.fieldLink "LeftAnswers$Tape" 34 "LeftAnswers$Tape" "fault" "I" ∈ gtb := gtb_in (i := 189) (by decide +kernel) (by decide +kernel)
set_option maxRecDepth 100000 in
theorem gw391 : Jvm.Cond.fieldLink "LeftAnswers$Tape" 37 "LeftAnswers$Tape" "faultPlace" "I" ∈ gtb := gtb_in (i := 191) (by decide +kernel) (by decide +kernel)
set_option maxRecDepth 100000 in
theorem gw392 : Jvm.Cond.fieldLink "LeftAnswers$Tape" 40 "LeftAnswers$Tape" "taken" "I" ∈ gtb := gtb_in (i := 186) (by decide +kernel) (by decide +kernel)
set_option maxRecDepth 100000 in
theorem gw393 : Jvm.Cond.methodLink "LeftAnswers$Tape" 43 ⟨"LeftAnswers$Tape", "advance", "()V"⟩ ∈ gtb := gtb_in (i := 634) (by decide +kernel) (by decide +kernel)
set_option maxRecDepth 100000 in
theorem gw394 : Jvm.Cond.selects "LeftAnswers$Tape" ⟨"LeftAnswers$Tape", "advance", "()V"⟩ ⟨"LeftAnswers$Tape", "advance", "()V"⟩ ∈ gtb := gtb_in (i := 636) (by decide +kernel) (by decide +kernel)
set_option maxRecDepth 100000 in
theorem gw395 : Jvm.Cond.code ⟨"LeftAnswers$Tape", "advance", "()V"⟩ prog_12_method_5_code 1 none ∈ gtb := gtb_in (i := 637) (by decide +kernel) (by decide +kernel)
set_option maxRecDepth 100000 in
theorem gw396 : Jvm.Cond.instanceMethod ⟨"LeftAnswers$Tape", "advance", "()V"⟩ ∈ gtb := gtb_in (i := 635) (by decide +kernel) (by decide +kernel)
set_option maxRecDepth 100000 in
theorem gw397 : Jvm.Cond.methodLink "LeftAnswersModel" 93 ⟨"java/lang/Object", "<init>", "()V"⟩ ∈ gtb := gtb_in (i := 1470) (by decide +kernel) (by decide +kernel)
set_option maxRecDepth 100000 in
theorem gw398 : Jvm.Cond.fieldLink "LeftAnswersModel" 7 "LeftAnswersModel" "tape" "[I" ∈ gtb := gtb_in (i := 1476) (by decide +kernel) (by decide +kernel)
set_option maxRecDepth 100000 in
theorem gw399 : Jvm.Cond.fieldLink "LeftAnswersModel" 98 "LeftAnswersModel" "now" "[I" ∈ gtb := gtb_in (i := 1489) (by decide +kernel) (by decide +kernel)
set_option maxRecDepth 100000 in
theorem gw400 : Jvm.Cond.fieldLink "LeftAnswersModel" 101 "LeftAnswersModel" "read" "[I" ∈ gtb := gtb_in (i := 1490) (by decide +kernel) (by decide +kernel)
set_option maxRecDepth 100000 in
theorem gw401 : Jvm.Cond.fieldLink "LeftAnswersModel" 104 "LeftAnswersModel" "kept" "[I" ∈ gtb := gtb_in (i := 1491) (by decide +kernel) (by decide +kernel)
set_option maxRecDepth 100000 in
theorem gw402 : Jvm.Cond.fieldLink "LeftAnswersModel" 107 "LeftAnswersModel" "snaps" "[I" ∈ gtb := gtb_in (i := 1492) (by decide +kernel) (by decide +kernel)
set_option maxRecDepth 100000 in
theorem gw403 : Jvm.Cond.fieldLink "LeftAnswersModel" 110 "LeftAnswersModel" "aside" "[I" ∈ gtb := gtb_in (i := 1493) (by decide +kernel) (by decide +kernel)
set_option maxRecDepth 100000 in
theorem gw404 : Jvm.Cond.fieldLink "LeftAnswersModel" 113 "LeftAnswersModel" "name" "[J" ∈ gtb := gtb_in (i := 1494) (by decide +kernel) (by decide +kernel)
set_option maxRecDepth 100000 in
theorem gw405 : Jvm.Cond.fieldLink "LeftAnswersModel" 117 "LeftAnswersModel" "readName" "[J" ∈ gtb := gtb_in (i := 1495) (by decide +kernel) (by decide +kernel)
set_option maxRecDepth 100000 in
theorem gw406 : Jvm.Cond.fieldLink "LeftAnswersModel" 120 "LeftAnswersModel" "keptName" "[J" ∈ gtb := gtb_in (i := 1496) (by decide +kernel) (by decide +kernel)
set_option maxRecDepth 100000 in
theorem gw407 : Jvm.Cond.arrayClass .boolean ∈ gtb := gtb_in (i := 1632) (by decide +kernel) (by decide +kernel)
set_option maxRecDepth 100000 in
theorem gw408 : Jvm.Cond.fieldLink "LeftAnswersModel" 123 "LeftAnswersModel" "isKept" "[Z" ∈ gtb := gtb_in (i := 1497) (by decide +kernel) (by decide +kernel)
set_option maxRecDepth 100000 in
theorem gw409 : Jvm.Cond.fieldLink "LeftAnswersModel" 127 "LeftAnswersModel" "onces" "[Z" ∈ gtb := gtb_in (i := 1498) (by decide +kernel) (by decide +kernel)
set_option maxRecDepth 100000 in
theorem gw410 : Jvm.Cond.fieldLink "LeftAnswersModel" 130 "LeftAnswersModel" "parting" "[I" ∈ gtb := gtb_in (i := 1500) (by decide +kernel) (by decide +kernel)
set_option maxRecDepth 100000 in
theorem gw411 : Jvm.Cond.fieldLink "LeftAnswersModel" 133 "LeftAnswersModel" "parted" "[I" ∈ gtb := gtb_in (i := 1501) (by decide +kernel) (by decide +kernel)
set_option maxRecDepth 100000 in
theorem gw412 : Jvm.Cond.fieldLink "LeftAnswersModel" 136 "LeftAnswersModel" "taken" "[I" ∈ gtb := gtb_in (i := 1502) (by decide +kernel) (by decide +kernel)
set_option maxRecDepth 100000 in
theorem gw413 : Jvm.Cond.fieldLink "LeftAnswersModel" 139 "LeftAnswersModel" "fit" "[I" ∈ gtb := gtb_in (i := 1505) (by decide +kernel) (by decide +kernel)
set_option maxRecDepth 100000 in
theorem gw414 : Jvm.Cond.fieldLink "LeftAnswersModel" 142 "LeftAnswersModel" "trying" "[I" ∈ gtb := gtb_in (i := 1506) (by decide +kernel) (by decide +kernel)
set_option maxRecDepth 100000 in
theorem gw415 : Jvm.Cond.fieldLink "LeftAnswersModel" 145 "LeftAnswersModel" "testing" "I" ∈ gtb := gtb_in (i := 1508) (by decide +kernel) (by decide +kernel)
set_option maxRecDepth 100000 in
theorem gw416 : Jvm.Cond.fieldLink "LeftAnswersModel" 148 "LeftAnswersModel" "guarding" "I" ∈ gtb := gtb_in (i := 1509) (by decide +kernel) (by decide +kernel)
set_option maxRecDepth 100000 in
theorem gw417 : Jvm.Cond.fieldLink "LeftAnswersModel" 151 "LeftAnswersModel" "wedding" "[I" ∈ gtb := gtb_in (i := 1510) (by decide +kernel) (by decide +kernel)
set_option maxRecDepth 100000 in
theorem gw418 : Jvm.Cond.fieldLink "LeftAnswersModel" 154 "LeftAnswersModel" "wedded" "[I" ∈ gtb := gtb_in (i := 1511) (by decide +kernel) (by decide +kernel)
set_option maxRecDepth 100000 in
theorem gw419 : Jvm.Cond.fieldLink "LeftAnswersModel" 157 "LeftAnswersModel" "text" "[I" ∈ gtb := gtb_in (i := 1515) (by decide +kernel) (by decide +kernel)
set_option maxRecDepth 100000 in
theorem gw420 : Jvm.Cond.fieldLink "LeftAnswersModel" 160 "LeftAnswersModel" "line" "[I" ∈ gtb := gtb_in (i := 1518) (by decide +kernel) (by decide +kernel)
set_option maxRecDepth 100000 in
theorem gw421 : Jvm.Cond.fieldLink "LeftAnswersModel" 163 "LeftAnswersModel" "written" "[I" ∈ gtb := gtb_in (i := 1519) (by decide +kernel) (by decide +kernel)
set_option maxRecDepth 100000 in
theorem gw422 : Jvm.Cond.fieldLink "LeftAnswersModel" 166 "LeftAnswersModel" "node" "[I" ∈ gtb := gtb_in (i := 1522) (by decide +kernel) (by decide +kernel)
set_option maxRecDepth 100000 in
theorem gw423 : Jvm.Cond.methodLink "LeftAnswersModel" 169 ⟨"LeftAnswersModel", "startSo", "()V"⟩ ∈ gtb := gtb_in (i := 1471) (by decide +kernel) (by decide +kernel)
set_option maxRecDepth 100000 in
theorem gw424 : Jvm.Cond.selects "LeftAnswersModel" ⟨"LeftAnswersModel", "startSo", "()V"⟩ ⟨"LeftAnswersModel", "startSo", "()V"⟩ ∈ gtb := gtb_in (i := 49) (by decide +kernel) (by decide +kernel)
set_option maxRecDepth 100000 in
theorem gw425 : Jvm.Cond.code ⟨"LeftAnswersModel", "startSo", "()V"⟩ prog_15_method_27_code 2 none ∈ gtb := gtb_in (i := 1474) (by decide +kernel) (by decide +kernel)
set_option maxRecDepth 100000 in
theorem gw426 : Jvm.Cond.initialized "LeftAnswersModel" ∈ gtb := gtb_in (i := 138) (by decide +kernel) (by decide +kernel)
set_option maxRecDepth 100000 in
theorem gw427 : Jvm.Cond.instanceMethod ⟨"LeftAnswersModel", "startSo", "()V"⟩ ∈ gtb := gtb_in (i := 1473) (by decide +kernel) (by decide +kernel)
set_option maxRecDepth 100000 in
theorem gw428 : Jvm.Cond.fieldLink "LeftAnswersModel" 1 "LeftAnswersModel" "thrown" "I" ∈ gtb := gtb_in (i := 1475) (by decide +kernel) (by decide +kernel)
set_option maxRecDepth 100000 in
theorem gw429 : Jvm.Cond.methodLink "LeftAnswersModel" 240 ⟨"LeftAnswersModel", "isPerson", "(I)Z"⟩ ∈ gtb := gtb_in (i := 1756) (by decide +kernel) (by decide +kernel)
set_option maxRecDepth 100000 in
theorem gw430 : Jvm.Cond.selects "LeftAnswersModel" ⟨"LeftAnswersModel", "isPerson", "(I)Z"⟩ ⟨"LeftAnswersModel", "isPerson", "(I)Z"⟩ ∈ gtb := gtb_in (i := 72) (by decide +kernel) (by decide +kernel)
set_option maxRecDepth 100000 in
theorem gw431 : Jvm.Cond.code ⟨"LeftAnswersModel", "isPerson", "(I)Z"⟩ prog_15_method_43_code 2 (some .boolean) ∈ gtb := gtb_in (i := 1759) (by decide +kernel) (by decide +kernel)
set_option maxRecDepth 100000 in
theorem gw432 : Jvm.Cond.instanceMethod ⟨"LeftAnswersModel", "isPerson", "(I)Z"⟩ ∈ gtb := gtb_in (i := 1758) (by decide +kernel) (by decide +kernel)
set_option maxRecDepth 100000 in
theorem gw433 : Jvm.Cond.fieldLink "LeftAnswersModel" 30 "LeftAnswersModel" "kind" "I" ∈ gtb := gtb_in (i := 1482) (by decide +kernel) (by decide +kernel)
set_option maxRecDepth 100000 in
theorem gw434 : Jvm.Cond.fieldLink "LeftAnswersModel" 66 "LeftAnswersModel" "fault" "I" ∈ gtb := gtb_in (i := 1485) (by decide +kernel) (by decide +kernel)
set_option maxRecDepth 100000 in
theorem gw435 : Jvm.Cond.fieldLink "LeftAnswersModel" 24 "LeftAnswersModel" "from" "I" ∈ gtb := gtb_in (i := 1481) (by decide +kernel) (by decide +kernel)
set_option maxRecDepth 100000 in
theorem gw436 : Jvm.Cond.fieldLink "LeftAnswersModel" 69 "LeftAnswersModel" "place" "I" ∈ gtb := gtb_in (i := 1486) (by decide +kernel) (by decide +kernel)
set_option maxRecDepth 100000 in
theorem gw437 : Jvm.Cond.methodLink "LeftAnswersModel" 292 ⟨"LeftAnswersModel", "act", "(IIIIZ)I"⟩ ∈ gtb := gtb_in (i := 1812) (by decide +kernel) (by decide +kernel)
set_option maxRecDepth 100000 in
theorem gw438 : Jvm.Cond.selects "LeftAnswersModel" ⟨"LeftAnswersModel", "act", "(IIIIZ)I"⟩ ⟨"LeftAnswersModel", "act", "(IIIIZ)I"⟩ ∈ gtb := gtb_in (i := 82) (by decide +kernel) (by decide +kernel)
set_option maxRecDepth 100000 in
theorem gw439 : Jvm.Cond.code ⟨"LeftAnswersModel", "act", "(IIIIZ)I"⟩ prog_15_method_63_code 7 (some .int) ∈ gtb := gtb_in (i := 1815) (by decide +kernel) (by decide +kernel)
set_option maxRecDepth 100000 in
theorem gw440 : Jvm.Cond.instanceMethod ⟨"LeftAnswersModel", "act", "(IIIIZ)I"⟩ ∈ gtb := gtb_in (i := 1814) (by decide +kernel) (by decide +kernel)
set_option maxRecDepth 100000 in
theorem gw441 : Jvm.Cond.methodLink "LeftAnswersModel" 89 ⟨"LeftAnswersModel", "take", "()I"⟩ ∈ gtb := gtb_in (i := 1641) (by decide +kernel) (by decide +kernel)
set_option maxRecDepth 100000 in
theorem gw442 : Jvm.Cond.selects "LeftAnswersModel" ⟨"LeftAnswersModel", "take", "()I"⟩ ⟨"LeftAnswersModel", "take", "()I"⟩ ∈ gtb := gtb_in (i := 51) (by decide +kernel) (by decide +kernel)
set_option maxRecDepth 100000 in
theorem gw443 : Jvm.Cond.code ⟨"LeftAnswersModel", "take", "()I"⟩ prog_15_method_6_code 2 (some .int) ∈ gtb := gtb_in (i := 1644) (by decide +kernel) (by decide +kernel)
set_option maxRecDepth 100000 in
theorem gw444 : Jvm.Cond.instanceMethod ⟨"LeftAnswersModel", "take", "()I"⟩ ∈ gtb := gtb_in (i := 1643) (by decide +kernel) (by decide +kernel)
set_option maxRecDepth 100000 in
theorem gw445 : Jvm.Cond.fieldLink "LeftAnswersModel" 18 "LeftAnswersModel" "size" "I" ∈ gtb := gtb_in (i := 1478) (by decide +kernel) (by decide +kernel)
set_option maxRecDepth 100000 in
theorem gw446 : Jvm.Cond.fieldLink "LeftAnswersModel" 27 "LeftAnswersModel" "limit" "I" ∈ gtb := gtb_in (i := 1479) (by decide +kernel) (by decide +kernel)
set_option maxRecDepth 100000 in
theorem gw447 : Jvm.Cond.fieldLink "LeftAnswersModel" 21 "LeftAnswersModel" "to" "I" ∈ gtb := gtb_in (i := 1480) (by decide +kernel) (by decide +kernel)
set_option maxRecDepth 100000 in
theorem gw448 : Jvm.Cond.methodLink "LeftAnswersModel" 82 ⟨"LeftAnswersModel", "go", "()V"⟩ ∈ gtb := gtb_in (i := 1645) (by decide +kernel) (by decide +kernel)
set_option maxRecDepth 100000 in
theorem gw449 : Jvm.Cond.selects "LeftAnswersModel" ⟨"LeftAnswersModel", "go", "()V"⟩ ⟨"LeftAnswersModel", "go", "()V"⟩ ∈ gtb := gtb_in (i := 52) (by decide +kernel) (by decide +kernel)
