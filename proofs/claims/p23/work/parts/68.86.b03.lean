set_option maxRecDepth 100000 in
theorem gw450 : Jvm.Cond.selects "LeftAnswers$Duchy" ⟨"LeftAnswers$Duchy", "isNewName", "(LLeftAnswers$Tape;)Z"⟩ ⟨"LeftAnswers$Duchy", "isNewName", "(LLeftAnswers$Tape;)Z"⟩ ∈ gtb := gtb_in (i := 5) (by decide +kernel) (by decide +kernel)
set_option maxRecDepth 100000 in
theorem gw451 : Jvm.Cond.code ⟨"LeftAnswers$Duchy", "isNewName", "(LLeftAnswers$Tape;)Z"⟩ prog_4_method_12_code 2 (some .boolean) ∈ gtb := gtb_t3 (i := 88) rfl (by decide +kernel)
set_option maxRecDepth 100000 in
theorem gw452 : Jvm.Cond.instanceMethod ⟨"LeftAnswers$Duchy", "isNewName", "(LLeftAnswers$Tape;)Z"⟩ ∈ gtb := gtb_t3 (i := 87) rfl (by decide +kernel)
set_option maxRecDepth 100000 in
theorem gw453 : Jvm.Cond.methodLink "LeftAnswers$Duchy" 132 ⟨"LeftAnswers$Tape", "takesNumber", "(II)Z"⟩ ∈ gtb := gtb_t3 (i := 93) rfl (by decide +kernel)
set_option maxRecDepth 100000 in
theorem gw454 : Jvm.Cond.fieldLink "LeftAnswers$Duchy" 136 "LeftAnswers$Tape" "taken" "I" ∈ gtb := gtb_t1 (i := 63) rfl (by decide +kernel)
set_option maxRecDepth 100000 in
theorem gw455 : Jvm.Cond.fieldLink "LeftAnswers$Duchy" 142 "LeftAnswers$Word" "BOTH" "LLeftAnswers$Word;" ∈ gtb := gtb_t3 (i := 104) rfl (by decide +kernel)
set_option maxRecDepth 100000 in
theorem gw456 : Jvm.Cond.methodLink "LeftAnswers$Duchy" 145 ⟨"LeftAnswers$Duchy", "readTwo", "(LLeftAnswers$Tape;)I"⟩ ∈ gtb := gtb_t3 (i := 110) rfl (by decide +kernel)
set_option maxRecDepth 100000 in
theorem gw457 : Jvm.Cond.selects "LeftAnswers$Duchy" ⟨"LeftAnswers$Duchy", "readTwo", "(LLeftAnswers$Tape;)I"⟩ ⟨"LeftAnswers$Duchy", "readTwo", "(LLeftAnswers$Tape;)I"⟩ ∈ gtb := gtb_in (i := 8) (by decide +kernel) (by decide +kernel)
set_option maxRecDepth 100000 in
theorem gw458 : Jvm.Cond.code ⟨"LeftAnswers$Duchy", "readTwo", "(LLeftAnswers$Tape;)I"⟩ prog_4_method_10_code 4 (some .int) ∈ gtb := gtb_t3 (i := 113) rfl (by decide +kernel)
set_option maxRecDepth 100000 in
theorem gw459 : Jvm.Cond.instanceMethod ⟨"LeftAnswers$Duchy", "readTwo", "(LLeftAnswers$Tape;)I"⟩ ∈ gtb := gtb_t3 (i := 112) rfl (by decide +kernel)
set_option maxRecDepth 100000 in
theorem gw460 : Jvm.Cond.methodLink "LeftAnswers$Duchy" 71 ⟨"LeftAnswers$Duchy", "clear", "()V"⟩ ∈ gtb := gtb_t3 (i := 22) rfl (by decide +kernel)
set_option maxRecDepth 100000 in
theorem gw461 : Jvm.Cond.selects "LeftAnswers$Duchy" ⟨"LeftAnswers$Duchy", "clear", "()V"⟩ ⟨"LeftAnswers$Duchy", "clear", "()V"⟩ ∈ gtb := gtb_in (i := 1) (by decide +kernel) (by decide +kernel)
set_option maxRecDepth 100000 in
theorem gw462 : Jvm.Cond.code ⟨"LeftAnswers$Duchy", "clear", "()V"⟩ prog_4_method_4_code 2 none ∈ gtb := gtb_t3 (i := 25) rfl (by decide +kernel)
set_option maxRecDepth 100000 in
theorem gw463 : Jvm.Cond.instanceMethod ⟨"LeftAnswers$Duchy", "clear", "()V"⟩ ∈ gtb := gtb_t3 (i := 24) rfl (by decide +kernel)
set_option maxRecDepth 100000 in
theorem gw464 : Jvm.Cond.methodLink "LeftAnswers$Duchy" 74 ⟨"LeftAnswers$Tape", "open", "(I)V"⟩ ∈ gtb := gtb_t3 (i := 26) rfl (by decide +kernel)
set_option maxRecDepth 100000 in
theorem gw465 : Jvm.Cond.fieldLink "LeftAnswers$Duchy" 80 "LeftAnswers$Tape" "kind" "I" ∈ gtb := gtb_t1 (i := 49) rfl (by decide +kernel)
set_option maxRecDepth 100000 in
theorem gw466 : Jvm.Cond.fieldLink "LeftAnswers$Duchy" 83 "LeftAnswers$1" "$SwitchMap$LeftAnswers$Word" "[I" ∈ gtb := gtb_t3 (i := 68) rfl (by decide +kernel)
set_option maxRecDepth 100000 in
theorem gw467 : Jvm.Cond.methodLink "LeftAnswers$Duchy" 92 ⟨"LeftAnswers$Word", "ordinal", "()I"⟩ ∈ gtb := gtb_t3 (i := 70) rfl (by decide +kernel)
set_option maxRecDepth 100000 in
theorem gw468 : Jvm.Cond.methodLink "LeftAnswers$Duchy" 98 ⟨"LeftAnswers$Duchy", "readPerson", "(LLeftAnswers$Tape;)Z"⟩ ∈ gtb := gtb_t3 (i := 76) rfl (by decide +kernel)
set_option maxRecDepth 100000 in
theorem gw469 : Jvm.Cond.selects "LeftAnswers$Duchy" ⟨"LeftAnswers$Duchy", "readPerson", "(LLeftAnswers$Tape;)Z"⟩ ⟨"LeftAnswers$Duchy", "readPerson", "(LLeftAnswers$Tape;)Z"⟩ ∈ gtb := gtb_in (i := 4) (by decide +kernel) (by decide +kernel)
set_option maxRecDepth 100000 in
theorem gw470 : Jvm.Cond.code ⟨"LeftAnswers$Duchy", "readPerson", "(LLeftAnswers$Tape;)Z"⟩ prog_4_method_6_code 3 (some .boolean) ∈ gtb := gtb_t3 (i := 79) rfl (by decide +kernel)
set_option maxRecDepth 100000 in
theorem gw471 : Jvm.Cond.instanceMethod ⟨"LeftAnswers$Duchy", "readPerson", "(LLeftAnswers$Tape;)Z"⟩ ∈ gtb := gtb_t3 (i := 78) rfl (by decide +kernel)
set_option maxRecDepth 100000 in
theorem gw472 : Jvm.Cond.methodLink "LeftAnswers$Duchy" 102 ⟨"LeftAnswers$Duchy", "readDeed", "(LLeftAnswers$Tape;)Z"⟩ ∈ gtb := gtb_t3 (i := 100) rfl (by decide +kernel)
set_option maxRecDepth 100000 in
theorem gw473 : Jvm.Cond.selects "LeftAnswers$Duchy" ⟨"LeftAnswers$Duchy", "readDeed", "(LLeftAnswers$Tape;)Z"⟩ ⟨"LeftAnswers$Duchy", "readDeed", "(LLeftAnswers$Tape;)Z"⟩ ∈ gtb := gtb_in (i := 6) (by decide +kernel) (by decide +kernel)
set_option maxRecDepth 100000 in
theorem gw474 : Jvm.Cond.code ⟨"LeftAnswers$Duchy", "readDeed", "(LLeftAnswers$Tape;)Z"⟩ prog_4_method_7_code 3 (some .boolean) ∈ gtb := gtb_t3 (i := 103) rfl (by decide +kernel)
set_option maxRecDepth 100000 in
theorem gw475 : Jvm.Cond.instanceMethod ⟨"LeftAnswers$Duchy", "readDeed", "(LLeftAnswers$Tape;)Z"⟩ ∈ gtb := gtb_t3 (i := 102) rfl (by decide +kernel)
set_option maxRecDepth 100000 in
theorem gw476 : Jvm.Cond.methodLink "LeftAnswers$Duchy" 105 ⟨"LeftAnswers$Duchy", "readSees", "(LLeftAnswers$Tape;)Z"⟩ ∈ gtb := gtb_t3 (i := 106) rfl (by decide +kernel)
set_option maxRecDepth 100000 in
theorem gw477 : Jvm.Cond.selects "LeftAnswers$Duchy" ⟨"LeftAnswers$Duchy", "readSees", "(LLeftAnswers$Tape;)Z"⟩ ⟨"LeftAnswers$Duchy", "readSees", "(LLeftAnswers$Tape;)Z"⟩ ∈ gtb := gtb_in (i := 7) (by decide +kernel) (by decide +kernel)
set_option maxRecDepth 100000 in
theorem gw478 : Jvm.Cond.code ⟨"LeftAnswers$Duchy", "readSees", "(LLeftAnswers$Tape;)Z"⟩ prog_4_method_8_code 5 (some .boolean) ∈ gtb := gtb_t3 (i := 109) rfl (by decide +kernel)
set_option maxRecDepth 100000 in
theorem gw479 : Jvm.Cond.instanceMethod ⟨"LeftAnswers$Duchy", "readSees", "(LLeftAnswers$Tape;)Z"⟩ ∈ gtb := gtb_t3 (i := 108) rfl (by decide +kernel)
set_option maxRecDepth 100000 in
theorem gw480 : Jvm.Cond.methodLink "LeftAnswers$Duchy" 108 ⟨"LeftAnswers$Duchy", "readFond", "(LLeftAnswers$Tape;)Z"⟩ ∈ gtb := gtb_t3 (i := 121) rfl (by decide +kernel)
set_option maxRecDepth 100000 in
theorem gw481 : Jvm.Cond.selects "LeftAnswers$Duchy" ⟨"LeftAnswers$Duchy", "readFond", "(LLeftAnswers$Tape;)Z"⟩ ⟨"LeftAnswers$Duchy", "readFond", "(LLeftAnswers$Tape;)Z"⟩ ∈ gtb := gtb_in (i := 9) (by decide +kernel) (by decide +kernel)
set_option maxRecDepth 100000 in
theorem gw482 : Jvm.Cond.code ⟨"LeftAnswers$Duchy", "readFond", "(LLeftAnswers$Tape;)Z"⟩ prog_4_method_9_code 3 (some .boolean) ∈ gtb := gtb_t3 (i := 124) rfl (by decide +kernel)
set_option maxRecDepth 100000 in
theorem gw483 : Jvm.Cond.instanceMethod ⟨"LeftAnswers$Duchy", "readFond", "(LLeftAnswers$Tape;)Z"⟩ ∈ gtb := gtb_t3 (i := 123) rfl (by decide +kernel)
set_option maxRecDepth 100000 in
theorem gw484 : Jvm.Cond.methodLink "LeftAnswers$Duchy" 111 ⟨"LeftAnswers$Duchy", "readOnce", "(LLeftAnswers$Tape;)Z"⟩ ∈ gtb := gtb_t3 (i := 125) rfl (by decide +kernel)
set_option maxRecDepth 100000 in
theorem gw485 : Jvm.Cond.selects "LeftAnswers$Duchy" ⟨"LeftAnswers$Duchy", "readOnce", "(LLeftAnswers$Tape;)Z"⟩ ⟨"LeftAnswers$Duchy", "readOnce", "(LLeftAnswers$Tape;)Z"⟩ ∈ gtb := gtb_in (i := 10) (by decide +kernel) (by decide +kernel)
set_option maxRecDepth 100000 in
theorem gw486 : Jvm.Cond.code ⟨"LeftAnswers$Duchy", "readOnce", "(LLeftAnswers$Tape;)Z"⟩ prog_4_method_11_code 4 (some .boolean) ∈ gtb := gtb_t3 (i := 128) rfl (by decide +kernel)
set_option maxRecDepth 100000 in
theorem gw487 : Jvm.Cond.instanceMethod ⟨"LeftAnswers$Duchy", "readOnce", "(LLeftAnswers$Tape;)Z"⟩ ∈ gtb := gtb_t3 (i := 127) rfl (by decide +kernel)
set_option maxRecDepth 100000 in
theorem gw488 : Jvm.Cond.methodLink "LeftAnswers$Duchy" 118 ⟨"LeftAnswers$Tape", "takesMark", "(C)Z"⟩ ∈ gtb := gtb_t3 (i := 133) rfl (by decide +kernel)
set_option maxRecDepth 100000 in
theorem gw489 : Jvm.Cond.fieldLink "LeftAnswers$Duchy" 152 "LeftAnswers$Word" "LAW" "LLeftAnswers$Word;" ∈ gtb := gtb_t3 (i := 129) rfl (by decide +kernel)
set_option maxRecDepth 100000 in
theorem gw490 : Jvm.Cond.fieldLink "LeftAnswers$Duchy" 155 "LeftAnswers$Word" "CELL" "LLeftAnswers$Word;" ∈ gtb := gtb_t3 (i := 131) rfl (by decide +kernel)
set_option maxRecDepth 100000 in
theorem gw491 : Jvm.Cond.fieldLink "LeftAnswers$Duchy" 139 "LeftAnswers$Word" "GLOVED" "LLeftAnswers$Word;" ∈ gtb := gtb_t3 (i := 98) rfl (by decide +kernel)
set_option maxRecDepth 100000 in
theorem gw492 : Jvm.Cond.methodLink "LeftAnswers$Duchy" 149 ⟨"LeftAnswers$Duchy", "personHere", "(LLeftAnswers$Tape;)I"⟩ ∈ gtb := gtb_t3 (i := 114) rfl (by decide +kernel)
set_option maxRecDepth 100000 in
theorem gw493 : Jvm.Cond.methodLink "LeftAnswers$Image" 1 ⟨"java/lang/Object", "<init>", "()V"⟩ ∈ gtb := gtb_t2 (i := 169) rfl (by decide +kernel)
set_option maxRecDepth 100000 in
theorem gw494 : Jvm.Cond.classLink "LeftAnswers$Image" 7 "LeftAnswers$Duchy" ∈ gtb := gtb_t2 (i := 170) rfl (by decide +kernel)
set_option maxRecDepth 100000 in
theorem gw495 : Jvm.Cond.methodLink "LeftAnswers$Image" 9 ⟨"LeftAnswers$Duchy", "<init>", "()V"⟩ ∈ gtb := gtb_t2 (i := 171) rfl (by decide +kernel)
set_option maxRecDepth 100000 in
theorem gw496 : Jvm.Cond.fieldLink "LeftAnswers$Image" 10 "LeftAnswers$Image" "duchy" "LLeftAnswers$Duchy;" ∈ gtb := gtb_t2 (i := 178) rfl (by decide +kernel)
set_option maxRecDepth 100000 in
theorem gw497 : Jvm.Cond.classLink "LeftAnswers$Image" 16 "LeftAnswers$Life" ∈ gtb := gtb_t2 (i := 172) rfl (by decide +kernel)
set_option maxRecDepth 100000 in
theorem gw498 : Jvm.Cond.methodLink "LeftAnswers$Image" 18 ⟨"LeftAnswers$Life", "<init>", "()V"⟩ ∈ gtb := gtb_t2 (i := 173) rfl (by decide +kernel)
set_option maxRecDepth 100000 in
theorem gw499 : Jvm.Cond.fieldLink "LeftAnswers$Image" 19 "LeftAnswers$Image" "life" "LLeftAnswers$Life;" ∈ gtb := gtb_t2 (i := 179) rfl (by decide +kernel)
set_option maxRecDepth 100000 in
theorem gw500 : Jvm.Cond.classLink "LeftAnswers$Image" 23 "LeftAnswers$Sentence" ∈ gtb := gtb_t2 (i := 174) rfl (by decide +kernel)
set_option maxRecDepth 100000 in
theorem gw501 : Jvm.Cond.methodLink "LeftAnswers$Image" 25 ⟨"LeftAnswers$Sentence", "<init>", "()V"⟩ ∈ gtb := gtb_t2 (i := 175) rfl (by decide +kernel)
set_option maxRecDepth 100000 in
theorem gw502 : Jvm.Cond.fieldLink "LeftAnswers$Image" 26 "LeftAnswers$Image" "sentence" "LLeftAnswers$Sentence;" ∈ gtb := gtb_t2 (i := 180) rfl (by decide +kernel)
set_option maxRecDepth 100000 in
theorem gw503 : Jvm.Cond.methodLink "LeftAnswers$Image" 30 ⟨"LeftAnswers$Duchy", "copyFrom", "(LLeftAnswers$Duchy;)V"⟩ ∈ gtb := gtb_t6 (i := 28) rfl (by decide +kernel)
set_option maxRecDepth 100000 in
theorem gw504 : Jvm.Cond.selects "LeftAnswers$Duchy" ⟨"LeftAnswers$Duchy", "copyFrom", "(LLeftAnswers$Duchy;)V"⟩ ⟨"LeftAnswers$Duchy", "copyFrom", "(LLeftAnswers$Duchy;)V"⟩ ∈ gtb := gtb_t6 (i := 30) rfl (by decide +kernel)
set_option maxRecDepth 100000 in
theorem gw505 : Jvm.Cond.code ⟨"LeftAnswers$Duchy", "copyFrom", "(LLeftAnswers$Duchy;)V"⟩ prog_4_method_2_code 2 none ∈ gtb := gtb_t6 (i := 31) rfl (by decide +kernel)
set_option maxRecDepth 100000 in
theorem gw506 : Jvm.Cond.instanceMethod ⟨"LeftAnswers$Duchy", "copyFrom", "(LLeftAnswers$Duchy;)V"⟩ ∈ gtb := gtb_t6 (i := 29) rfl (by decide +kernel)
set_option maxRecDepth 100000 in
theorem gw507 : Jvm.Cond.methodLink "LeftAnswers$Image" 34 ⟨"LeftAnswers$Life", "copyFrom", "(LLeftAnswers$Life;)V"⟩ ∈ gtb := gtb_t6 (i := 33) rfl (by decide +kernel)
set_option maxRecDepth 100000 in
theorem gw508 : Jvm.Cond.methodLink "LeftAnswers$Image" 37 ⟨"LeftAnswers$Sentence", "copyFrom", "(LLeftAnswers$Sentence;)V"⟩ ∈ gtb := gtb_t6 (i := 34) rfl (by decide +kernel)
set_option maxRecDepth 100000 in
theorem gw509 : Jvm.Cond.selects "LeftAnswers$Sentence" ⟨"LeftAnswers$Sentence", "copyFrom", "(LLeftAnswers$Sentence;)V"⟩ ⟨"LeftAnswers$Sentence", "copyFrom", "(LLeftAnswers$Sentence;)V"⟩ ∈ gtb := gtb_t6 (i := 36) rfl (by decide +kernel)
set_option maxRecDepth 100000 in
theorem gw510 : Jvm.Cond.code ⟨"LeftAnswers$Sentence", "copyFrom", "(LLeftAnswers$Sentence;)V"⟩ prog_10_method_3_code 3 none ∈ gtb := gtb_t6 (i := 37) rfl (by decide +kernel)
set_option maxRecDepth 100000 in
theorem gw511 : Jvm.Cond.instanceMethod ⟨"LeftAnswers$Sentence", "copyFrom", "(LLeftAnswers$Sentence;)V"⟩ ∈ gtb := gtb_t6 (i := 35) rfl (by decide +kernel)
set_option maxRecDepth 100000 in
theorem gw512 : Jvm.Cond.fieldLink "LeftAnswers$Image" 40 "LeftAnswers$Image" "kept" "Z" ∈ gtb := gtb_t2 (i := 176) rfl (by decide +kernel)
set_option maxRecDepth 100000 in
theorem gw513 : Jvm.Cond.methodLink "LeftAnswers$Life" 3 ⟨"java/lang/Object", "<init>", "()V"⟩ ∈ gtb := gtb_t1 (i := 182) rfl (by decide +kernel)
set_option maxRecDepth 100000 in
theorem gw514 : Jvm.Cond.fieldLink "LeftAnswers$Life" 9 "LeftAnswers$Life" "coins" "[I" ∈ gtb := gtb_t1 (i := 199) rfl (by decide +kernel)
set_option maxRecDepth 100000 in
theorem gw515 : Jvm.Cond.fieldLink "LeftAnswers$Life" 15 "LeftAnswers$Life" "blame" "[I" ∈ gtb := gtb_t1 (i := 203) rfl (by decide +kernel)
set_option maxRecDepth 100000 in
theorem gw516 : Jvm.Cond.fieldLink "LeftAnswers$Life" 18 "LeftAnswers$Life" "cell" "[I" ∈ gtb := gtb_t1 (i := 206) rfl (by decide +kernel)
set_option maxRecDepth 100000 in
theorem gw517 : Jvm.Cond.fieldLink "LeftAnswers$Life" 21 "LeftAnswers$Life" "ideas" "[I" ∈ gtb := gtb_t1 (i := 209) rfl (by decide +kernel)
set_option maxRecDepth 100000 in
theorem gw518 : Jvm.Cond.fieldLink "LeftAnswers$Life" 24 "LeftAnswers$Life" "spouse" "[I" ∈ gtb := gtb_t1 (i := 212) rfl (by decide +kernel)
set_option maxRecDepth 100000 in
theorem gw519 : Jvm.Cond.fieldLink "LeftAnswers$Life" 27 "LeftAnswers$Life" "hands" "[I" ∈ gtb := gtb_t1 (i := 216) rfl (by decide +kernel)
set_option maxRecDepth 100000 in
theorem gw520 : Jvm.Cond.fieldLink "LeftAnswers$Life" 30 "LeftAnswers$Life" "doneOf" "[I" ∈ gtb := gtb_t1 (i := 218) rfl (by decide +kernel)
set_option maxRecDepth 100000 in
theorem gw521 : Jvm.Cond.methodLink "LeftAnswers$Life" 33 ⟨"LeftAnswers$Life", "begin", "(I)V"⟩ ∈ gtb := gtb_t1 (i := 183) rfl (by decide +kernel)
set_option maxRecDepth 100000 in
theorem gw522 : Jvm.Cond.methodLink "LeftAnswers$Life" 75 ⟨"LeftAnswers$Life", "whyNotDo", "(LLeftAnswers$Duchy;III)I"⟩ ∈ gtb := gtb_t3 (i := 226) rfl (by decide +kernel)
set_option maxRecDepth 100000 in
theorem gw523 : Jvm.Cond.selects "LeftAnswers$Life" ⟨"LeftAnswers$Life", "whyNotDo", "(LLeftAnswers$Duchy;III)I"⟩ ⟨"LeftAnswers$Life", "whyNotDo", "(LLeftAnswers$Duchy;III)I"⟩ ∈ gtb := gtb_in (i := 15) (by decide +kernel) (by decide +kernel)
set_option maxRecDepth 100000 in
theorem gw524 : Jvm.Cond.code ⟨"LeftAnswers$Life", "whyNotDo", "(LLeftAnswers$Duchy;III)I"⟩ prog_6_method_17_code 5 (some .int) ∈ gtb := gtb_t3 (i := 229) rfl (by decide +kernel)
set_option maxRecDepth 100000 in
theorem gw525 : Jvm.Cond.instanceMethod ⟨"LeftAnswers$Life", "whyNotDo", "(LLeftAnswers$Duchy;III)I"⟩ ∈ gtb := gtb_t3 (i := 228) rfl (by decide +kernel)
set_option maxRecDepth 100000 in
theorem gw526 : Jvm.Cond.fieldLink "LeftAnswers$Life" 135 "LeftAnswers$Duchy" "law" "I" ∈ gtb := gtb_t1 (i := 114) rfl (by decide +kernel)
set_option maxRecDepth 100000 in
theorem gw527 : Jvm.Cond.fieldLink "LeftAnswers$Life" 138 "LeftAnswers$Duchy" "cell" "I" ∈ gtb := gtb_t1 (i := 117) rfl (by decide +kernel)
set_option maxRecDepth 100000 in
theorem gw528 : Jvm.Cond.fieldLink "LeftAnswers$Life" 41 "LeftAnswers$Life" "hadUp" "I" ∈ gtb := gtb_t1 (i := 190) rfl (by decide +kernel)
set_option maxRecDepth 100000 in
theorem gw529 : Jvm.Cond.fieldLink "LeftAnswers$Life" 37 "LeftAnswers$Life" "day" "I" ∈ gtb := gtb_t1 (i := 187) rfl (by decide +kernel)
set_option maxRecDepth 100000 in
theorem gw530 : Jvm.Cond.fieldLink "LeftAnswers$Life" 44 "LeftAnswers$Life" "done" "I" ∈ gtb := gtb_t1 (i := 192) rfl (by decide +kernel)
set_option maxRecDepth 100000 in
theorem gw531 : Jvm.Cond.fieldLink "LeftAnswers$Life" 47 "LeftAnswers$Life" "gloved" "I" ∈ gtb := gtb_t1 (i := 194) rfl (by decide +kernel)
set_option maxRecDepth 100000 in
theorem gw532 : Jvm.Cond.methodLink "LeftAnswers$Life" 159 ⟨"LeftAnswers$Life", "seenBits", "(LLeftAnswers$Duchy;)I"⟩ ∈ gtb := gtb_t4 (i := 117) rfl (by decide +kernel)
set_option maxRecDepth 100000 in
theorem gw533 : Jvm.Cond.fieldLink "LeftAnswers$Life" 72 "LeftAnswers$Duchy" "persons" "I" ∈ gtb := gtb_t1 (i := 107) rfl (by decide +kernel)
set_option maxRecDepth 100000 in
theorem gw534 : Jvm.Cond.methodLink "LeftAnswers$Life" 163 ⟨"LeftAnswers$Life", "isBlameless", "(LLeftAnswers$Duchy;ZII)Z"⟩ ∈ gtb := gtb_t4 (i := 118) rfl (by decide +kernel)
set_option maxRecDepth 100000 in
theorem gw535 : Jvm.Cond.code ⟨"LeftAnswers$Life", "isBlameless", "(LLeftAnswers$Duchy;ZII)Z"⟩ prog_6_method_29_code 4 (some .boolean) ∈ gtb := gtb_t4 (i := 120) rfl (by decide +kernel)
set_option maxRecDepth 100000 in
theorem gw536 : Jvm.Cond.static ⟨"LeftAnswers$Life", "isBlameless", "(LLeftAnswers$Duchy;ZII)Z"⟩ ∈ gtb := gtb_t4 (i := 119) rfl (by decide +kernel)
set_option maxRecDepth 100000 in
theorem gw537 : Jvm.Cond.methodLink "LeftAnswers$Life" 50 ⟨"java/lang/System", "arraycopy", "(Ljava/lang/Object;ILjava/lang/Object;II)V"⟩ ∈ gtb := gtb_t4 (i := 19) rfl (by decide +kernel)
set_option maxRecDepth 100000 in
theorem gw538 : Jvm.Cond.fieldLink "LeftAnswers$Life" 118 "LeftAnswers$Duchy" "pay" "[I" ∈ gtb := gtb_t1 (i := 135) rfl (by decide +kernel)
set_option maxRecDepth 100000 in
theorem gw539 : Jvm.Cond.methodLink "LeftAnswers$Life" 121 ⟨"java/lang/Math", "min", "(II)I"⟩ ∈ gtb := gtb_t4 (i := 30) rfl (by decide +kernel)
set_option maxRecDepth 100000 in
theorem gw540 : Jvm.Cond.methodLink "LeftAnswers$Life" 104 ⟨"LeftAnswers$Life", "handBits", "(I)I"⟩ ∈ gtb := gtb_t3 (i := 230) rfl (by decide +kernel)
set_option maxRecDepth 100000 in
theorem gw541 : Jvm.Cond.code ⟨"LeftAnswers$Life", "handBits", "(I)I"⟩ prog_6_method_16_code 1 (some .int) ∈ gtb := gtb_t3 (i := 232) rfl (by decide +kernel)
set_option maxRecDepth 100000 in
theorem gw542 : Jvm.Cond.static ⟨"LeftAnswers$Life", "handBits", "(I)I"⟩ ∈ gtb := gtb_t3 (i := 231) rfl (by decide +kernel)
set_option maxRecDepth 100000 in
theorem gw543 : Jvm.Cond.methodLink "LeftAnswers$Life" 126 ⟨"LeftAnswers$Life", "isSeen", "(LLeftAnswers$Duchy;I)Z"⟩ ∈ gtb := gtb_t4 (i := 33) rfl (by decide +kernel)
set_option maxRecDepth 100000 in
theorem gw544 : Jvm.Cond.fieldLink "LeftAnswers$Life" 130 "LeftAnswers$Duchy" "blame" "[I" ∈ gtb := gtb_t1 (i := 138) rfl (by decide +kernel)
set_option maxRecDepth 100000 in
theorem gw545 : Jvm.Cond.methodLink "LeftAnswers$Life" 131 ⟨"LeftAnswers$Life", "addBlame", "(LLeftAnswers$Duchy;II)V"⟩ ∈ gtb := gtb_t4 (i := 37) rfl (by decide +kernel)
set_option maxRecDepth 100000 in
theorem gw546 : Jvm.Cond.selects "LeftAnswers$Life" ⟨"LeftAnswers$Life", "addBlame", "(LLeftAnswers$Duchy;II)V"⟩ ⟨"LeftAnswers$Life", "addBlame", "(LLeftAnswers$Duchy;II)V"⟩ ∈ gtb := gtb_in (i := 18) (by decide +kernel) (by decide +kernel)
set_option maxRecDepth 100000 in
theorem gw547 : Jvm.Cond.code ⟨"LeftAnswers$Life", "addBlame", "(LLeftAnswers$Duchy;II)V"⟩ prog_6_method_19_code 4 none ∈ gtb := gtb_t4 (i := 40) rfl (by decide +kernel)
set_option maxRecDepth 100000 in
theorem gw548 : Jvm.Cond.instanceMethod ⟨"LeftAnswers$Life", "addBlame", "(LLeftAnswers$Duchy;II)V"⟩ ∈ gtb := gtb_t4 (i := 39) rfl (by decide +kernel)
set_option maxRecDepth 100000 in
theorem gw549 : Jvm.Cond.fieldLink "LeftAnswers$Life" 146 "LeftAnswers$Life" "seed" "I" ∈ gtb := gtb_t1 (i := 198) rfl (by decide +kernel)
set_option maxRecDepth 100000 in
theorem gw550 : Jvm.Cond.constant "LeftAnswers$Life" 158 1103515245 ∈ gtb := gtb_t5 (i := 118) rfl (by decide +kernel)
set_option maxRecDepth 100000 in
theorem gw551 : Jvm.Cond.fieldLink "LeftAnswers$Life" 152 "LeftAnswers$Duchy" "deeds" "I" ∈ gtb := gtb_t1 (i := 111) rfl (by decide +kernel)
set_option maxRecDepth 100000 in
theorem gw552 : Jvm.Cond.methodLink "LeftAnswers$Life" 155 ⟨"LeftAnswers$Life", "draw", "(I)I"⟩ ∈ gtb := gtb_t5 (i := 114) rfl (by decide +kernel)
set_option maxRecDepth 100000 in
theorem gw553 : Jvm.Cond.selects "LeftAnswers$Life" ⟨"LeftAnswers$Life", "draw", "(I)I"⟩ ⟨"LeftAnswers$Life", "draw", "(I)I"⟩ ∈ gtb := gtb_in (i := 33) (by decide +kernel) (by decide +kernel)
set_option maxRecDepth 100000 in
theorem gw554 : Jvm.Cond.code ⟨"LeftAnswers$Life", "draw", "(I)I"⟩ prog_6_method_27_code 2 (some .int) ∈ gtb := gtb_t5 (i := 117) rfl (by decide +kernel)
set_option maxRecDepth 100000 in
theorem gw555 : Jvm.Cond.instanceMethod ⟨"LeftAnswers$Life", "draw", "(I)I"⟩ ∈ gtb := gtb_t5 (i := 116) rfl (by decide +kernel)
set_option maxRecDepth 100000 in
theorem gw556 : Jvm.Cond.methodLink "LeftAnswers$Life" 89 ⟨"LeftAnswers$Life", "doDeed", "(LLeftAnswers$Duchy;III)V"⟩ ∈ gtb := gtb_t4 (i := 26) rfl (by decide +kernel)
set_option maxRecDepth 100000 in
theorem gw557 : Jvm.Cond.selects "LeftAnswers$Life" ⟨"LeftAnswers$Life", "doDeed", "(LLeftAnswers$Duchy;III)V"⟩ ⟨"LeftAnswers$Life", "doDeed", "(LLeftAnswers$Duchy;III)V"⟩ ∈ gtb := gtb_in (i := 17) (by decide +kernel) (by decide +kernel)
set_option maxRecDepth 100000 in
theorem gw558 : Jvm.Cond.code ⟨"LeftAnswers$Life", "doDeed", "(LLeftAnswers$Duchy;III)V"⟩ prog_6_method_18_code 5 none ∈ gtb := gtb_t4 (i := 29) rfl (by decide +kernel)
set_option maxRecDepth 100000 in
theorem gw559 : Jvm.Cond.instanceMethod ⟨"LeftAnswers$Life", "doDeed", "(LLeftAnswers$Duchy;III)V"⟩ ∈ gtb := gtb_t4 (i := 28) rfl (by decide +kernel)
set_option maxRecDepth 100000 in
theorem gw560 : Jvm.Cond.methodLink "LeftAnswers$Life" 79 ⟨"LeftAnswers$Life", "whyNotWed", "(II)I"⟩ ∈ gtb := gtb_t4 (i := 3) rfl (by decide +kernel)
set_option maxRecDepth 100000 in
theorem gw561 : Jvm.Cond.selects "LeftAnswers$Life" ⟨"LeftAnswers$Life", "whyNotWed", "(II)I"⟩ ⟨"LeftAnswers$Life", "whyNotWed", "(II)I"⟩ ∈ gtb := gtb_in (i := 16) (by decide +kernel) (by decide +kernel)
set_option maxRecDepth 100000 in
theorem gw562 : Jvm.Cond.code ⟨"LeftAnswers$Life", "whyNotWed", "(II)I"⟩ prog_6_method_20_code 3 (some .int) ∈ gtb := gtb_t4 (i := 6) rfl (by decide +kernel)
set_option maxRecDepth 100000 in
theorem gw563 : Jvm.Cond.instanceMethod ⟨"LeftAnswers$Life", "whyNotWed", "(II)I"⟩ ∈ gtb := gtb_t4 (i := 5) rfl (by decide +kernel)
set_option maxRecDepth 100000 in
theorem gw564 : Jvm.Cond.methodLink "LeftAnswers$Life" 93 ⟨"LeftAnswers$Life", "wedTwo", "(II)V"⟩ ∈ gtb := gtb_t4 (i := 41) rfl (by decide +kernel)
set_option maxRecDepth 100000 in
theorem gw565 : Jvm.Cond.selects "LeftAnswers$Life" ⟨"LeftAnswers$Life", "wedTwo", "(II)V"⟩ ⟨"LeftAnswers$Life", "wedTwo", "(II)V"⟩ ∈ gtb := gtb_in (i := 19) (by decide +kernel) (by decide +kernel)
set_option maxRecDepth 100000 in
theorem gw566 : Jvm.Cond.code ⟨"LeftAnswers$Life", "wedTwo", "(II)V"⟩ prog_6_method_21_code 3 none ∈ gtb := gtb_t4 (i := 44) rfl (by decide +kernel)
set_option maxRecDepth 100000 in
theorem gw567 : Jvm.Cond.instanceMethod ⟨"LeftAnswers$Life", "wedTwo", "(II)V"⟩ ∈ gtb := gtb_t4 (i := 43) rfl (by decide +kernel)
set_option maxRecDepth 100000 in
theorem gw568 : Jvm.Cond.methodLink "LeftAnswers$Life" 97 ⟨"LeftAnswers$Life", "partFromSpouse", "(I)V"⟩ ∈ gtb := gtb_t4 (i := 45) rfl (by decide +kernel)
set_option maxRecDepth 100000 in
theorem gw569 : Jvm.Cond.selects "LeftAnswers$Life" ⟨"LeftAnswers$Life", "partFromSpouse", "(I)V"⟩ ⟨"LeftAnswers$Life", "partFromSpouse", "(I)V"⟩ ∈ gtb := gtb_in (i := 20) (by decide +kernel) (by decide +kernel)
set_option maxRecDepth 100000 in
theorem gw570 : Jvm.Cond.code ⟨"LeftAnswers$Life", "partFromSpouse", "(I)V"⟩ prog_6_method_22_code 3 none ∈ gtb := gtb_t4 (i := 48) rfl (by decide +kernel)
set_option maxRecDepth 100000 in
theorem gw571 : Jvm.Cond.instanceMethod ⟨"LeftAnswers$Life", "partFromSpouse", "(I)V"⟩ ∈ gtb := gtb_t4 (i := 47) rfl (by decide +kernel)
set_option maxRecDepth 100000 in
theorem gw572 : Jvm.Cond.methodLink "LeftAnswers$Life" 149 ⟨"LeftAnswers$Life", "drawActs", "(LLeftAnswers$Duchy;I)V"⟩ ∈ gtb := gtb_t5 (i := 110) rfl (by decide +kernel)
set_option maxRecDepth 100000 in
theorem gw573 : Jvm.Cond.selects "LeftAnswers$Life" ⟨"LeftAnswers$Life", "drawActs", "(LLeftAnswers$Duchy;I)V"⟩ ⟨"LeftAnswers$Life", "drawActs", "(LLeftAnswers$Duchy;I)V"⟩ ∈ gtb := gtb_in (i := 32) (by decide +kernel) (by decide +kernel)
set_option maxRecDepth 100000 in
theorem gw574 : Jvm.Cond.code ⟨"LeftAnswers$Life", "drawActs", "(LLeftAnswers$Duchy;I)V"⟩ prog_6_method_26_code 5 none ∈ gtb := gtb_t5 (i := 113) rfl (by decide +kernel)
set_option maxRecDepth 100000 in
theorem gw575 : Jvm.Cond.instanceMethod ⟨"LeftAnswers$Life", "drawActs", "(LLeftAnswers$Duchy;I)V"⟩ ∈ gtb := gtb_t5 (i := 112) rfl (by decide +kernel)
set_option maxRecDepth 100000 in
theorem gw576 : Jvm.Cond.methodLink "LeftAnswers$Life" 140 ⟨"LeftAnswers$Life", "passDay", "(LLeftAnswers$Duchy;)V"⟩ ∈ gtb := gtb_t4 (i := 53) rfl (by decide +kernel)
set_option maxRecDepth 100000 in
theorem gw577 : Jvm.Cond.selects "LeftAnswers$Life" ⟨"LeftAnswers$Life", "passDay", "(LLeftAnswers$Duchy;)V"⟩ ⟨"LeftAnswers$Life", "passDay", "(LLeftAnswers$Duchy;)V"⟩ ∈ gtb := gtb_in (i := 21) (by decide +kernel) (by decide +kernel)
set_option maxRecDepth 100000 in
theorem gw578 : Jvm.Cond.code ⟨"LeftAnswers$Life", "passDay", "(LLeftAnswers$Duchy;)V"⟩ prog_6_method_24_code 4 none ∈ gtb := gtb_t4 (i := 56) rfl (by decide +kernel)
set_option maxRecDepth 100000 in
theorem gw579 : Jvm.Cond.instanceMethod ⟨"LeftAnswers$Life", "passDay", "(LLeftAnswers$Duchy;)V"⟩ ∈ gtb := gtb_t4 (i := 55) rfl (by decide +kernel)
set_option maxRecDepth 100000 in
theorem gw580 : Jvm.Cond.fieldLink "LeftAnswers$Life" 56 "LeftAnswers$Duchy" "watchers" "[I" ∈ gtb := gtb_t1 (i := 140) rfl (by decide +kernel)
set_option maxRecDepth 100000 in
theorem gw581 : Jvm.Cond.methodLink "LeftAnswers$Life" 61 ⟨"LeftAnswers$Life", "jailedBits", "()I"⟩ ∈ gtb := gtb_t3 (i := 209) rfl (by decide +kernel)
set_option maxRecDepth 100000 in
theorem gw582 : Jvm.Cond.methodLink "LeftAnswers$Life" 65 ⟨"LeftAnswers$Life", "isJailed", "(I)Z"⟩ ∈ gtb := gtb_t3 (i := 193) rfl (by decide +kernel)
set_option maxRecDepth 100000 in
theorem gw583 : Jvm.Cond.selects "LeftAnswers$Life" ⟨"LeftAnswers$Life", "isJailed", "(I)Z"⟩ ⟨"LeftAnswers$Life", "isJailed", "(I)Z"⟩ ∈ gtb := gtb_t3 (i := 195) rfl (by decide +kernel)
set_option maxRecDepth 100000 in
theorem gw584 : Jvm.Cond.code ⟨"LeftAnswers$Life", "isJailed", "(I)Z"⟩ prog_6_method_4_code 2 (some .boolean) ∈ gtb := gtb_t3 (i := 196) rfl (by decide +kernel)
set_option maxRecDepth 100000 in
theorem gw585 : Jvm.Cond.instanceMethod ⟨"LeftAnswers$Life", "isJailed", "(I)Z"⟩ ∈ gtb := gtb_t3 (i := 194) rfl (by decide +kernel)
set_option maxRecDepth 100000 in
theorem gw586 : Jvm.Cond.methodLink "LeftAnswers$Life" 167 ⟨"LeftAnswers$Life", "mostPayOf", "(LLeftAnswers$Duchy;II)I"⟩ ∈ gtb := gtb_t5 (i := 9) rfl (by decide +kernel)
set_option maxRecDepth 100000 in
theorem gw587 : Jvm.Cond.selects "LeftAnswers$Life" ⟨"LeftAnswers$Life", "mostPayOf", "(LLeftAnswers$Duchy;II)I"⟩ ⟨"LeftAnswers$Life", "mostPayOf", "(LLeftAnswers$Duchy;II)I"⟩ ∈ gtb := gtb_in (i := 27) (by decide +kernel) (by decide +kernel)
set_option maxRecDepth 100000 in
theorem gw588 : Jvm.Cond.code ⟨"LeftAnswers$Life", "mostPayOf", "(LLeftAnswers$Duchy;II)I"⟩ prog_6_method_32_code 7 (some .int) ∈ gtb := gtb_t5 (i := 12) rfl (by decide +kernel)
set_option maxRecDepth 100000 in
theorem gw589 : Jvm.Cond.instanceMethod ⟨"LeftAnswers$Life", "mostPayOf", "(LLeftAnswers$Duchy;II)I"⟩ ∈ gtb := gtb_t5 (i := 11) rfl (by decide +kernel)
set_option maxRecDepth 100000 in
theorem gw590 : Jvm.Cond.methodLink "LeftAnswers$Life" 83 ⟨"LeftAnswers$Life", "isGloved", "(I)Z"⟩ ∈ gtb := gtb_t3 (i := 239) rfl (by decide +kernel)
set_option maxRecDepth 100000 in
theorem gw591 : Jvm.Cond.methodLink "LeftAnswers$Life" 171 ⟨"java/lang/Math", "max", "(II)I"⟩ ∈ gtb := gtb_t5 (i := 14) rfl (by decide +kernel)
set_option maxRecDepth 100000 in
theorem gw592 : Jvm.Cond.static ⟨"java/lang/Math", "max", "(II)I"⟩ ∈ gtb := gtb_t4 (i := 111) rfl (by decide +kernel)
set_option maxRecDepth 100000 in
theorem gw593 : Jvm.Cond.code ⟨"java/lang/Math", "max", "(II)I"⟩ prog_22_method_65_code 2 (some .int) ∈ gtb := gtb_t4 (i := 112) rfl (by decide +kernel)
set_option maxRecDepth 100000 in
theorem gw594 : Jvm.Cond.methodLink "LeftAnswers$Life" 174 ⟨"LeftAnswers$Duchy", "isEasyFor", "(III)Z"⟩ ∈ gtb := gtb_t5 (i := 13) rfl (by decide +kernel)
set_option maxRecDepth 100000 in
theorem gw595 : Jvm.Cond.fieldLink "LeftAnswers$Life" 144 "LeftAnswers$Duchy" "ideas" "I" ∈ gtb := gtb_t1 (i := 120) rfl (by decide +kernel)
set_option maxRecDepth 100000 in
theorem gw596 : Jvm.Cond.methodLink "LeftAnswers$Life" 100 ⟨"LeftAnswers$Life", "passDays", "(LLeftAnswers$Duchy;I)V"⟩ ∈ gtb := gtb_t4 (i := 49) rfl (by decide +kernel)
set_option maxRecDepth 100000 in
theorem gw597 : Jvm.Cond.methodLink "LeftAnswers$Life" 69 ⟨"LeftAnswers$Life", "isWed", "(I)Z"⟩ ∈ gtb := gtb_t3 (i := 201) rfl (by decide +kernel)
set_option maxRecDepth 100000 in
theorem gw598 : Jvm.Cond.selects "LeftAnswers$Life" ⟨"LeftAnswers$Life", "isWed", "(I)Z"⟩ ⟨"LeftAnswers$Life", "isWed", "(I)Z"⟩ ∈ gtb := gtb_t3 (i := 203) rfl (by decide +kernel)
set_option maxRecDepth 100000 in
theorem gw599 : Jvm.Cond.code ⟨"LeftAnswers$Life", "isWed", "(I)Z"⟩ prog_6_method_6_code 2 (some .boolean) ∈ gtb := gtb_t3 (i := 204) rfl (by decide +kernel)
