set_option maxRecDepth 100000 in
theorem gw450 : Jvm.Cond.selects "LeftAnswers$Duchy" ⟨"LeftAnswers$Duchy", "isNewName", "(LLeftAnswers$Tape;)Z"⟩ ⟨"LeftAnswers$Duchy", "isNewName", "(LLeftAnswers$Tape;)Z"⟩ ∈ gtb := gtb_in (i := 5) (by decide +kernel) (by decide +kernel)
set_option maxRecDepth 100000 in
theorem gw451 : Jvm.Cond.code ⟨"LeftAnswers$Duchy", "isNewName", "(LLeftAnswers$Tape;)Z"⟩ prog_4_method_12_code 2 (some .boolean) ∈ gtb := gtb_in (i := 692) (by decide +kernel) (by decide +kernel)
set_option maxRecDepth 100000 in
theorem gw452 : Jvm.Cond.instanceMethod ⟨"LeftAnswers$Duchy", "isNewName", "(LLeftAnswers$Tape;)Z"⟩ ∈ gtb := gtb_in (i := 691) (by decide +kernel) (by decide +kernel)
set_option maxRecDepth 100000 in
theorem gw453 : Jvm.Cond.methodLink "LeftAnswers$Duchy" 132 ⟨"LeftAnswers$Tape", "takesNumber", "(II)Z"⟩ ∈ gtb := gtb_in (i := 697) (by decide +kernel) (by decide +kernel)
set_option maxRecDepth 100000 in
theorem gw454 : Jvm.Cond.fieldLink "LeftAnswers$Duchy" 136 "LeftAnswers$Tape" "taken" "I" ∈ gtb := gtb_in (i := 187) (by decide +kernel) (by decide +kernel)
set_option maxRecDepth 100000 in
theorem gw455 : Jvm.Cond.fieldLink "LeftAnswers$Duchy" 142 "LeftAnswers$Word" "BOTH" "LLeftAnswers$Word;" ∈ gtb := gtb_in (i := 708) (by decide +kernel) (by decide +kernel)
set_option maxRecDepth 100000 in
theorem gw456 : Jvm.Cond.methodLink "LeftAnswers$Duchy" 145 ⟨"LeftAnswers$Duchy", "readTwo", "(LLeftAnswers$Tape;)I"⟩ ∈ gtb := gtb_in (i := 714) (by decide +kernel) (by decide +kernel)
set_option maxRecDepth 100000 in
theorem gw457 : Jvm.Cond.selects "LeftAnswers$Duchy" ⟨"LeftAnswers$Duchy", "readTwo", "(LLeftAnswers$Tape;)I"⟩ ⟨"LeftAnswers$Duchy", "readTwo", "(LLeftAnswers$Tape;)I"⟩ ∈ gtb := gtb_in (i := 8) (by decide +kernel) (by decide +kernel)
set_option maxRecDepth 100000 in
theorem gw458 : Jvm.Cond.code ⟨"LeftAnswers$Duchy", "readTwo", "(LLeftAnswers$Tape;)I"⟩ prog_4_method_10_code 4 (some .int) ∈ gtb := gtb_in (i := 717) (by decide +kernel) (by decide +kernel)
set_option maxRecDepth 100000 in
theorem gw459 : Jvm.Cond.instanceMethod ⟨"LeftAnswers$Duchy", "readTwo", "(LLeftAnswers$Tape;)I"⟩ ∈ gtb := gtb_in (i := 716) (by decide +kernel) (by decide +kernel)
set_option maxRecDepth 100000 in
theorem gw460 : Jvm.Cond.methodLink "LeftAnswers$Duchy" 71 ⟨"LeftAnswers$Duchy", "clear", "()V"⟩ ∈ gtb := gtb_in (i := 626) (by decide +kernel) (by decide +kernel)
set_option maxRecDepth 100000 in
theorem gw461 : Jvm.Cond.selects "LeftAnswers$Duchy" ⟨"LeftAnswers$Duchy", "clear", "()V"⟩ ⟨"LeftAnswers$Duchy", "clear", "()V"⟩ ∈ gtb := gtb_in (i := 1) (by decide +kernel) (by decide +kernel)
set_option maxRecDepth 100000 in
theorem gw462 : Jvm.Cond.code ⟨"LeftAnswers$Duchy", "clear", "()V"⟩ prog_4_method_4_code 2 none ∈ gtb := gtb_in (i := 629) (by decide +kernel) (by decide +kernel)
set_option maxRecDepth 100000 in
theorem gw463 : Jvm.Cond.instanceMethod ⟨"LeftAnswers$Duchy", "clear", "()V"⟩ ∈ gtb := gtb_in (i := 628) (by decide +kernel) (by decide +kernel)
set_option maxRecDepth 100000 in
theorem gw464 : Jvm.Cond.methodLink "LeftAnswers$Duchy" 74 ⟨"LeftAnswers$Tape", "open", "(I)V"⟩ ∈ gtb := gtb_in (i := 630) (by decide +kernel) (by decide +kernel)
set_option maxRecDepth 100000 in
theorem gw465 : Jvm.Cond.fieldLink "LeftAnswers$Duchy" 80 "LeftAnswers$Tape" "kind" "I" ∈ gtb := gtb_in (i := 173) (by decide +kernel) (by decide +kernel)
set_option maxRecDepth 100000 in
theorem gw466 : Jvm.Cond.fieldLink "LeftAnswers$Duchy" 83 "LeftAnswers$1" "$SwitchMap$LeftAnswers$Word" "[I" ∈ gtb := gtb_in (i := 672) (by decide +kernel) (by decide +kernel)
set_option maxRecDepth 100000 in
theorem gw467 : Jvm.Cond.methodLink "LeftAnswers$Duchy" 92 ⟨"LeftAnswers$Word", "ordinal", "()I"⟩ ∈ gtb := gtb_in (i := 674) (by decide +kernel) (by decide +kernel)
set_option maxRecDepth 100000 in
theorem gw468 : Jvm.Cond.methodLink "LeftAnswers$Duchy" 98 ⟨"LeftAnswers$Duchy", "readPerson", "(LLeftAnswers$Tape;)Z"⟩ ∈ gtb := gtb_in (i := 680) (by decide +kernel) (by decide +kernel)
set_option maxRecDepth 100000 in
theorem gw469 : Jvm.Cond.selects "LeftAnswers$Duchy" ⟨"LeftAnswers$Duchy", "readPerson", "(LLeftAnswers$Tape;)Z"⟩ ⟨"LeftAnswers$Duchy", "readPerson", "(LLeftAnswers$Tape;)Z"⟩ ∈ gtb := gtb_in (i := 4) (by decide +kernel) (by decide +kernel)
set_option maxRecDepth 100000 in
theorem gw470 : Jvm.Cond.code ⟨"LeftAnswers$Duchy", "readPerson", "(LLeftAnswers$Tape;)Z"⟩ prog_4_method_6_code 3 (some .boolean) ∈ gtb := gtb_in (i := 683) (by decide +kernel) (by decide +kernel)
set_option maxRecDepth 100000 in
theorem gw471 : Jvm.Cond.instanceMethod ⟨"LeftAnswers$Duchy", "readPerson", "(LLeftAnswers$Tape;)Z"⟩ ∈ gtb := gtb_in (i := 682) (by decide +kernel) (by decide +kernel)
set_option maxRecDepth 100000 in
theorem gw472 : Jvm.Cond.methodLink "LeftAnswers$Duchy" 102 ⟨"LeftAnswers$Duchy", "readDeed", "(LLeftAnswers$Tape;)Z"⟩ ∈ gtb := gtb_in (i := 704) (by decide +kernel) (by decide +kernel)
set_option maxRecDepth 100000 in
theorem gw473 : Jvm.Cond.selects "LeftAnswers$Duchy" ⟨"LeftAnswers$Duchy", "readDeed", "(LLeftAnswers$Tape;)Z"⟩ ⟨"LeftAnswers$Duchy", "readDeed", "(LLeftAnswers$Tape;)Z"⟩ ∈ gtb := gtb_in (i := 6) (by decide +kernel) (by decide +kernel)
set_option maxRecDepth 100000 in
theorem gw474 : Jvm.Cond.code ⟨"LeftAnswers$Duchy", "readDeed", "(LLeftAnswers$Tape;)Z"⟩ prog_4_method_7_code 3 (some .boolean) ∈ gtb := gtb_in (i := 707) (by decide +kernel) (by decide +kernel)
set_option maxRecDepth 100000 in
theorem gw475 : Jvm.Cond.instanceMethod ⟨"LeftAnswers$Duchy", "readDeed", "(LLeftAnswers$Tape;)Z"⟩ ∈ gtb := gtb_in (i := 706) (by decide +kernel) (by decide +kernel)
set_option maxRecDepth 100000 in
theorem gw476 : Jvm.Cond.methodLink "LeftAnswers$Duchy" 105 ⟨"LeftAnswers$Duchy", "readSees", "(LLeftAnswers$Tape;)Z"⟩ ∈ gtb := gtb_in (i := 710) (by decide +kernel) (by decide +kernel)
set_option maxRecDepth 100000 in
theorem gw477 : Jvm.Cond.selects "LeftAnswers$Duchy" ⟨"LeftAnswers$Duchy", "readSees", "(LLeftAnswers$Tape;)Z"⟩ ⟨"LeftAnswers$Duchy", "readSees", "(LLeftAnswers$Tape;)Z"⟩ ∈ gtb := gtb_in (i := 7) (by decide +kernel) (by decide +kernel)
set_option maxRecDepth 100000 in
theorem gw478 : Jvm.Cond.code ⟨"LeftAnswers$Duchy", "readSees", "(LLeftAnswers$Tape;)Z"⟩ prog_4_method_8_code 5 (some .boolean) ∈ gtb := gtb_in (i := 713) (by decide +kernel) (by decide +kernel)
set_option maxRecDepth 100000 in
theorem gw479 : Jvm.Cond.instanceMethod ⟨"LeftAnswers$Duchy", "readSees", "(LLeftAnswers$Tape;)Z"⟩ ∈ gtb := gtb_in (i := 712) (by decide +kernel) (by decide +kernel)
set_option maxRecDepth 100000 in
theorem gw480 : Jvm.Cond.methodLink "LeftAnswers$Duchy" 108 ⟨"LeftAnswers$Duchy", "readFond", "(LLeftAnswers$Tape;)Z"⟩ ∈ gtb := gtb_in (i := 725) (by decide +kernel) (by decide +kernel)
set_option maxRecDepth 100000 in
theorem gw481 : Jvm.Cond.selects "LeftAnswers$Duchy" ⟨"LeftAnswers$Duchy", "readFond", "(LLeftAnswers$Tape;)Z"⟩ ⟨"LeftAnswers$Duchy", "readFond", "(LLeftAnswers$Tape;)Z"⟩ ∈ gtb := gtb_in (i := 9) (by decide +kernel) (by decide +kernel)
set_option maxRecDepth 100000 in
theorem gw482 : Jvm.Cond.code ⟨"LeftAnswers$Duchy", "readFond", "(LLeftAnswers$Tape;)Z"⟩ prog_4_method_9_code 3 (some .boolean) ∈ gtb := gtb_in (i := 728) (by decide +kernel) (by decide +kernel)
set_option maxRecDepth 100000 in
theorem gw483 : Jvm.Cond.instanceMethod ⟨"LeftAnswers$Duchy", "readFond", "(LLeftAnswers$Tape;)Z"⟩ ∈ gtb := gtb_in (i := 727) (by decide +kernel) (by decide +kernel)
set_option maxRecDepth 100000 in
theorem gw484 : Jvm.Cond.methodLink "LeftAnswers$Duchy" 111 ⟨"LeftAnswers$Duchy", "readOnce", "(LLeftAnswers$Tape;)Z"⟩ ∈ gtb := gtb_in (i := 729) (by decide +kernel) (by decide +kernel)
set_option maxRecDepth 100000 in
theorem gw485 : Jvm.Cond.selects "LeftAnswers$Duchy" ⟨"LeftAnswers$Duchy", "readOnce", "(LLeftAnswers$Tape;)Z"⟩ ⟨"LeftAnswers$Duchy", "readOnce", "(LLeftAnswers$Tape;)Z"⟩ ∈ gtb := gtb_in (i := 10) (by decide +kernel) (by decide +kernel)
set_option maxRecDepth 100000 in
theorem gw486 : Jvm.Cond.code ⟨"LeftAnswers$Duchy", "readOnce", "(LLeftAnswers$Tape;)Z"⟩ prog_4_method_11_code 4 (some .boolean) ∈ gtb := gtb_in (i := 732) (by decide +kernel) (by decide +kernel)
set_option maxRecDepth 100000 in
theorem gw487 : Jvm.Cond.instanceMethod ⟨"LeftAnswers$Duchy", "readOnce", "(LLeftAnswers$Tape;)Z"⟩ ∈ gtb := gtb_in (i := 731) (by decide +kernel) (by decide +kernel)
set_option maxRecDepth 100000 in
theorem gw488 : Jvm.Cond.methodLink "LeftAnswers$Duchy" 118 ⟨"LeftAnswers$Tape", "takesMark", "(C)Z"⟩ ∈ gtb := gtb_in (i := 737) (by decide +kernel) (by decide +kernel)
set_option maxRecDepth 100000 in
theorem gw489 : Jvm.Cond.fieldLink "LeftAnswers$Duchy" 152 "LeftAnswers$Word" "LAW" "LLeftAnswers$Word;" ∈ gtb := gtb_in (i := 733) (by decide +kernel) (by decide +kernel)
set_option maxRecDepth 100000 in
theorem gw490 : Jvm.Cond.fieldLink "LeftAnswers$Duchy" 155 "LeftAnswers$Word" "CELL" "LLeftAnswers$Word;" ∈ gtb := gtb_in (i := 735) (by decide +kernel) (by decide +kernel)
set_option maxRecDepth 100000 in
theorem gw491 : Jvm.Cond.fieldLink "LeftAnswers$Duchy" 139 "LeftAnswers$Word" "GLOVED" "LLeftAnswers$Word;" ∈ gtb := gtb_in (i := 702) (by decide +kernel) (by decide +kernel)
set_option maxRecDepth 100000 in
theorem gw492 : Jvm.Cond.methodLink "LeftAnswers$Duchy" 149 ⟨"LeftAnswers$Duchy", "personHere", "(LLeftAnswers$Tape;)I"⟩ ∈ gtb := gtb_in (i := 718) (by decide +kernel) (by decide +kernel)
set_option maxRecDepth 100000 in
theorem gw493 : Jvm.Cond.methodLink "LeftAnswers$Image" 1 ⟨"java/lang/Object", "<init>", "()V"⟩ ∈ gtb := gtb_in (i := 533) (by decide +kernel) (by decide +kernel)
set_option maxRecDepth 100000 in
theorem gw494 : Jvm.Cond.classLink "LeftAnswers$Image" 7 "LeftAnswers$Duchy" ∈ gtb := gtb_in (i := 534) (by decide +kernel) (by decide +kernel)
set_option maxRecDepth 100000 in
theorem gw495 : Jvm.Cond.methodLink "LeftAnswers$Image" 9 ⟨"LeftAnswers$Duchy", "<init>", "()V"⟩ ∈ gtb := gtb_in (i := 535) (by decide +kernel) (by decide +kernel)
set_option maxRecDepth 100000 in
theorem gw496 : Jvm.Cond.fieldLink "LeftAnswers$Image" 10 "LeftAnswers$Image" "duchy" "LLeftAnswers$Duchy;" ∈ gtb := gtb_in (i := 542) (by decide +kernel) (by decide +kernel)
set_option maxRecDepth 100000 in
theorem gw497 : Jvm.Cond.classLink "LeftAnswers$Image" 16 "LeftAnswers$Life" ∈ gtb := gtb_in (i := 536) (by decide +kernel) (by decide +kernel)
set_option maxRecDepth 100000 in
theorem gw498 : Jvm.Cond.methodLink "LeftAnswers$Image" 18 ⟨"LeftAnswers$Life", "<init>", "()V"⟩ ∈ gtb := gtb_in (i := 537) (by decide +kernel) (by decide +kernel)
set_option maxRecDepth 100000 in
theorem gw499 : Jvm.Cond.fieldLink "LeftAnswers$Image" 19 "LeftAnswers$Image" "life" "LLeftAnswers$Life;" ∈ gtb := gtb_in (i := 543) (by decide +kernel) (by decide +kernel)
set_option maxRecDepth 100000 in
theorem gw500 : Jvm.Cond.classLink "LeftAnswers$Image" 23 "LeftAnswers$Sentence" ∈ gtb := gtb_in (i := 538) (by decide +kernel) (by decide +kernel)
set_option maxRecDepth 100000 in
theorem gw501 : Jvm.Cond.methodLink "LeftAnswers$Image" 25 ⟨"LeftAnswers$Sentence", "<init>", "()V"⟩ ∈ gtb := gtb_in (i := 539) (by decide +kernel) (by decide +kernel)
set_option maxRecDepth 100000 in
theorem gw502 : Jvm.Cond.fieldLink "LeftAnswers$Image" 26 "LeftAnswers$Image" "sentence" "LLeftAnswers$Sentence;" ∈ gtb := gtb_in (i := 544) (by decide +kernel) (by decide +kernel)
set_option maxRecDepth 100000 in
theorem gw503 : Jvm.Cond.methodLink "LeftAnswers$Image" 30 ⟨"LeftAnswers$Duchy", "copyFrom", "(LLeftAnswers$Duchy;)V"⟩ ∈ gtb := gtb_in (i := 1352) (by decide +kernel) (by decide +kernel)
set_option maxRecDepth 100000 in
theorem gw504 : Jvm.Cond.selects "LeftAnswers$Duchy" ⟨"LeftAnswers$Duchy", "copyFrom", "(LLeftAnswers$Duchy;)V"⟩ ⟨"LeftAnswers$Duchy", "copyFrom", "(LLeftAnswers$Duchy;)V"⟩ ∈ gtb := gtb_in (i := 1354) (by decide +kernel) (by decide +kernel)
set_option maxRecDepth 100000 in
theorem gw505 : Jvm.Cond.code ⟨"LeftAnswers$Duchy", "copyFrom", "(LLeftAnswers$Duchy;)V"⟩ prog_4_method_2_code 2 none ∈ gtb := gtb_in (i := 1355) (by decide +kernel) (by decide +kernel)
set_option maxRecDepth 100000 in
theorem gw506 : Jvm.Cond.instanceMethod ⟨"LeftAnswers$Duchy", "copyFrom", "(LLeftAnswers$Duchy;)V"⟩ ∈ gtb := gtb_in (i := 1353) (by decide +kernel) (by decide +kernel)
set_option maxRecDepth 100000 in
theorem gw507 : Jvm.Cond.methodLink "LeftAnswers$Image" 34 ⟨"LeftAnswers$Life", "copyFrom", "(LLeftAnswers$Life;)V"⟩ ∈ gtb := gtb_in (i := 1357) (by decide +kernel) (by decide +kernel)
set_option maxRecDepth 100000 in
theorem gw508 : Jvm.Cond.methodLink "LeftAnswers$Image" 37 ⟨"LeftAnswers$Sentence", "copyFrom", "(LLeftAnswers$Sentence;)V"⟩ ∈ gtb := gtb_in (i := 1358) (by decide +kernel) (by decide +kernel)
set_option maxRecDepth 100000 in
theorem gw509 : Jvm.Cond.selects "LeftAnswers$Sentence" ⟨"LeftAnswers$Sentence", "copyFrom", "(LLeftAnswers$Sentence;)V"⟩ ⟨"LeftAnswers$Sentence", "copyFrom", "(LLeftAnswers$Sentence;)V"⟩ ∈ gtb := gtb_in (i := 1360) (by decide +kernel) (by decide +kernel)
set_option maxRecDepth 100000 in
theorem gw510 : Jvm.Cond.code ⟨"LeftAnswers$Sentence", "copyFrom", "(LLeftAnswers$Sentence;)V"⟩ prog_10_method_3_code 3 none ∈ gtb := gtb_in (i := 1361) (by decide +kernel) (by decide +kernel)
set_option maxRecDepth 100000 in
theorem gw511 : Jvm.Cond.instanceMethod ⟨"LeftAnswers$Sentence", "copyFrom", "(LLeftAnswers$Sentence;)V"⟩ ∈ gtb := gtb_in (i := 1359) (by decide +kernel) (by decide +kernel)
set_option maxRecDepth 100000 in
theorem gw512 : Jvm.Cond.fieldLink "LeftAnswers$Image" 40 "LeftAnswers$Image" "kept" "Z" ∈ gtb := gtb_in (i := 540) (by decide +kernel) (by decide +kernel)
set_option maxRecDepth 100000 in
theorem gw513 : Jvm.Cond.methodLink "LeftAnswers$Life" 3 ⟨"java/lang/Object", "<init>", "()V"⟩ ∈ gtb := gtb_in (i := 306) (by decide +kernel) (by decide +kernel)
set_option maxRecDepth 100000 in
theorem gw514 : Jvm.Cond.fieldLink "LeftAnswers$Life" 9 "LeftAnswers$Life" "coins" "[I" ∈ gtb := gtb_in (i := 323) (by decide +kernel) (by decide +kernel)
set_option maxRecDepth 100000 in
theorem gw515 : Jvm.Cond.fieldLink "LeftAnswers$Life" 15 "LeftAnswers$Life" "blame" "[I" ∈ gtb := gtb_in (i := 327) (by decide +kernel) (by decide +kernel)
set_option maxRecDepth 100000 in
theorem gw516 : Jvm.Cond.fieldLink "LeftAnswers$Life" 18 "LeftAnswers$Life" "cell" "[I" ∈ gtb := gtb_in (i := 330) (by decide +kernel) (by decide +kernel)
set_option maxRecDepth 100000 in
theorem gw517 : Jvm.Cond.fieldLink "LeftAnswers$Life" 21 "LeftAnswers$Life" "ideas" "[I" ∈ gtb := gtb_in (i := 333) (by decide +kernel) (by decide +kernel)
set_option maxRecDepth 100000 in
theorem gw518 : Jvm.Cond.fieldLink "LeftAnswers$Life" 24 "LeftAnswers$Life" "spouse" "[I" ∈ gtb := gtb_in (i := 336) (by decide +kernel) (by decide +kernel)
set_option maxRecDepth 100000 in
theorem gw519 : Jvm.Cond.fieldLink "LeftAnswers$Life" 27 "LeftAnswers$Life" "hands" "[I" ∈ gtb := gtb_in (i := 340) (by decide +kernel) (by decide +kernel)
set_option maxRecDepth 100000 in
theorem gw520 : Jvm.Cond.fieldLink "LeftAnswers$Life" 30 "LeftAnswers$Life" "doneOf" "[I" ∈ gtb := gtb_in (i := 342) (by decide +kernel) (by decide +kernel)
set_option maxRecDepth 100000 in
theorem gw521 : Jvm.Cond.methodLink "LeftAnswers$Life" 33 ⟨"LeftAnswers$Life", "begin", "(I)V"⟩ ∈ gtb := gtb_in (i := 307) (by decide +kernel) (by decide +kernel)
set_option maxRecDepth 100000 in
theorem gw522 : Jvm.Cond.methodLink "LeftAnswers$Life" 75 ⟨"LeftAnswers$Life", "whyNotDo", "(LLeftAnswers$Duchy;III)I"⟩ ∈ gtb := gtb_in (i := 830) (by decide +kernel) (by decide +kernel)
set_option maxRecDepth 100000 in
theorem gw523 : Jvm.Cond.selects "LeftAnswers$Life" ⟨"LeftAnswers$Life", "whyNotDo", "(LLeftAnswers$Duchy;III)I"⟩ ⟨"LeftAnswers$Life", "whyNotDo", "(LLeftAnswers$Duchy;III)I"⟩ ∈ gtb := gtb_in (i := 15) (by decide +kernel) (by decide +kernel)
set_option maxRecDepth 100000 in
theorem gw524 : Jvm.Cond.code ⟨"LeftAnswers$Life", "whyNotDo", "(LLeftAnswers$Duchy;III)I"⟩ prog_6_method_17_code 5 (some .int) ∈ gtb := gtb_in (i := 833) (by decide +kernel) (by decide +kernel)
set_option maxRecDepth 100000 in
theorem gw525 : Jvm.Cond.instanceMethod ⟨"LeftAnswers$Life", "whyNotDo", "(LLeftAnswers$Duchy;III)I"⟩ ∈ gtb := gtb_in (i := 832) (by decide +kernel) (by decide +kernel)
set_option maxRecDepth 100000 in
theorem gw526 : Jvm.Cond.fieldLink "LeftAnswers$Life" 135 "LeftAnswers$Duchy" "law" "I" ∈ gtb := gtb_in (i := 238) (by decide +kernel) (by decide +kernel)
set_option maxRecDepth 100000 in
theorem gw527 : Jvm.Cond.fieldLink "LeftAnswers$Life" 138 "LeftAnswers$Duchy" "cell" "I" ∈ gtb := gtb_in (i := 241) (by decide +kernel) (by decide +kernel)
set_option maxRecDepth 100000 in
theorem gw528 : Jvm.Cond.fieldLink "LeftAnswers$Life" 41 "LeftAnswers$Life" "hadUp" "I" ∈ gtb := gtb_in (i := 314) (by decide +kernel) (by decide +kernel)
set_option maxRecDepth 100000 in
theorem gw529 : Jvm.Cond.fieldLink "LeftAnswers$Life" 37 "LeftAnswers$Life" "day" "I" ∈ gtb := gtb_in (i := 311) (by decide +kernel) (by decide +kernel)
set_option maxRecDepth 100000 in
theorem gw530 : Jvm.Cond.fieldLink "LeftAnswers$Life" 44 "LeftAnswers$Life" "done" "I" ∈ gtb := gtb_in (i := 316) (by decide +kernel) (by decide +kernel)
set_option maxRecDepth 100000 in
theorem gw531 : Jvm.Cond.fieldLink "LeftAnswers$Life" 47 "LeftAnswers$Life" "gloved" "I" ∈ gtb := gtb_in (i := 318) (by decide +kernel) (by decide +kernel)
set_option maxRecDepth 100000 in
theorem gw532 : Jvm.Cond.methodLink "LeftAnswers$Life" 159 ⟨"LeftAnswers$Life", "seenBits", "(LLeftAnswers$Duchy;)I"⟩ ∈ gtb := gtb_in (i := 961) (by decide +kernel) (by decide +kernel)
set_option maxRecDepth 100000 in
theorem gw533 : Jvm.Cond.fieldLink "LeftAnswers$Life" 72 "LeftAnswers$Duchy" "persons" "I" ∈ gtb := gtb_in (i := 231) (by decide +kernel) (by decide +kernel)
set_option maxRecDepth 100000 in
theorem gw534 : Jvm.Cond.methodLink "LeftAnswers$Life" 163 ⟨"LeftAnswers$Life", "isBlameless", "(LLeftAnswers$Duchy;ZII)Z"⟩ ∈ gtb := gtb_in (i := 962) (by decide +kernel) (by decide +kernel)
set_option maxRecDepth 100000 in
theorem gw535 : Jvm.Cond.code ⟨"LeftAnswers$Life", "isBlameless", "(LLeftAnswers$Duchy;ZII)Z"⟩ prog_6_method_29_code 4 (some .boolean) ∈ gtb := gtb_in (i := 964) (by decide +kernel) (by decide +kernel)
set_option maxRecDepth 100000 in
theorem gw536 : Jvm.Cond.static ⟨"LeftAnswers$Life", "isBlameless", "(LLeftAnswers$Duchy;ZII)Z"⟩ ∈ gtb := gtb_in (i := 963) (by decide +kernel) (by decide +kernel)
set_option maxRecDepth 100000 in
theorem gw537 : Jvm.Cond.methodLink "LeftAnswers$Life" 50 ⟨"java/lang/System", "arraycopy", "(Ljava/lang/Object;ILjava/lang/Object;II)V"⟩ ∈ gtb := gtb_in (i := 863) (by decide +kernel) (by decide +kernel)
set_option maxRecDepth 100000 in
theorem gw538 : Jvm.Cond.fieldLink "LeftAnswers$Life" 118 "LeftAnswers$Duchy" "pay" "[I" ∈ gtb := gtb_in (i := 259) (by decide +kernel) (by decide +kernel)
set_option maxRecDepth 100000 in
theorem gw539 : Jvm.Cond.methodLink "LeftAnswers$Life" 121 ⟨"java/lang/Math", "min", "(II)I"⟩ ∈ gtb := gtb_in (i := 874) (by decide +kernel) (by decide +kernel)
set_option maxRecDepth 100000 in
theorem gw540 : Jvm.Cond.methodLink "LeftAnswers$Life" 104 ⟨"LeftAnswers$Life", "handBits", "(I)I"⟩ ∈ gtb := gtb_in (i := 834) (by decide +kernel) (by decide +kernel)
set_option maxRecDepth 100000 in
theorem gw541 : Jvm.Cond.code ⟨"LeftAnswers$Life", "handBits", "(I)I"⟩ prog_6_method_16_code 1 (some .int) ∈ gtb := gtb_in (i := 836) (by decide +kernel) (by decide +kernel)
set_option maxRecDepth 100000 in
theorem gw542 : Jvm.Cond.static ⟨"LeftAnswers$Life", "handBits", "(I)I"⟩ ∈ gtb := gtb_in (i := 835) (by decide +kernel) (by decide +kernel)
set_option maxRecDepth 100000 in
theorem gw543 : Jvm.Cond.methodLink "LeftAnswers$Life" 126 ⟨"LeftAnswers$Life", "isSeen", "(LLeftAnswers$Duchy;I)Z"⟩ ∈ gtb := gtb_in (i := 877) (by decide +kernel) (by decide +kernel)
set_option maxRecDepth 100000 in
theorem gw544 : Jvm.Cond.fieldLink "LeftAnswers$Life" 130 "LeftAnswers$Duchy" "blame" "[I" ∈ gtb := gtb_in (i := 262) (by decide +kernel) (by decide +kernel)
set_option maxRecDepth 100000 in
theorem gw545 : Jvm.Cond.methodLink "LeftAnswers$Life" 131 ⟨"LeftAnswers$Life", "addBlame", "(LLeftAnswers$Duchy;II)V"⟩ ∈ gtb := gtb_in (i := 881) (by decide +kernel) (by decide +kernel)
set_option maxRecDepth 100000 in
theorem gw546 : Jvm.Cond.selects "LeftAnswers$Life" ⟨"LeftAnswers$Life", "addBlame", "(LLeftAnswers$Duchy;II)V"⟩ ⟨"LeftAnswers$Life", "addBlame", "(LLeftAnswers$Duchy;II)V"⟩ ∈ gtb := gtb_in (i := 18) (by decide +kernel) (by decide +kernel)
set_option maxRecDepth 100000 in
theorem gw547 : Jvm.Cond.code ⟨"LeftAnswers$Life", "addBlame", "(LLeftAnswers$Duchy;II)V"⟩ prog_6_method_19_code 4 none ∈ gtb := gtb_in (i := 884) (by decide +kernel) (by decide +kernel)
set_option maxRecDepth 100000 in
theorem gw548 : Jvm.Cond.instanceMethod ⟨"LeftAnswers$Life", "addBlame", "(LLeftAnswers$Duchy;II)V"⟩ ∈ gtb := gtb_in (i := 883) (by decide +kernel) (by decide +kernel)
set_option maxRecDepth 100000 in
theorem gw549 : Jvm.Cond.fieldLink "LeftAnswers$Life" 146 "LeftAnswers$Life" "seed" "I" ∈ gtb := gtb_in (i := 322) (by decide +kernel) (by decide +kernel)
set_option maxRecDepth 100000 in
theorem gw550 : Jvm.Cond.constant "LeftAnswers$Life" 158 1103515245 ∈ gtb := gtb_in (i := 1202) (by decide +kernel) (by decide +kernel)
set_option maxRecDepth 100000 in
theorem gw551 : Jvm.Cond.fieldLink "LeftAnswers$Life" 152 "LeftAnswers$Duchy" "deeds" "I" ∈ gtb := gtb_in (i := 235) (by decide +kernel) (by decide +kernel)
set_option maxRecDepth 100000 in
theorem gw552 : Jvm.Cond.methodLink "LeftAnswers$Life" 155 ⟨"LeftAnswers$Life", "draw", "(I)I"⟩ ∈ gtb := gtb_in (i := 1198) (by decide +kernel) (by decide +kernel)
set_option maxRecDepth 100000 in
theorem gw553 : Jvm.Cond.selects "LeftAnswers$Life" ⟨"LeftAnswers$Life", "draw", "(I)I"⟩ ⟨"LeftAnswers$Life", "draw", "(I)I"⟩ ∈ gtb := gtb_in (i := 33) (by decide +kernel) (by decide +kernel)
set_option maxRecDepth 100000 in
theorem gw554 : Jvm.Cond.code ⟨"LeftAnswers$Life", "draw", "(I)I"⟩ prog_6_method_27_code 2 (some .int) ∈ gtb := gtb_in (i := 1201) (by decide +kernel) (by decide +kernel)
set_option maxRecDepth 100000 in
theorem gw555 : Jvm.Cond.instanceMethod ⟨"LeftAnswers$Life", "draw", "(I)I"⟩ ∈ gtb := gtb_in (i := 1200) (by decide +kernel) (by decide +kernel)
set_option maxRecDepth 100000 in
theorem gw556 : Jvm.Cond.methodLink "LeftAnswers$Life" 89 ⟨"LeftAnswers$Life", "doDeed", "(LLeftAnswers$Duchy;III)V"⟩ ∈ gtb := gtb_in (i := 870) (by decide +kernel) (by decide +kernel)
set_option maxRecDepth 100000 in
theorem gw557 : Jvm.Cond.selects "LeftAnswers$Life" ⟨"LeftAnswers$Life", "doDeed", "(LLeftAnswers$Duchy;III)V"⟩ ⟨"LeftAnswers$Life", "doDeed", "(LLeftAnswers$Duchy;III)V"⟩ ∈ gtb := gtb_in (i := 17) (by decide +kernel) (by decide +kernel)
set_option maxRecDepth 100000 in
theorem gw558 : Jvm.Cond.code ⟨"LeftAnswers$Life", "doDeed", "(LLeftAnswers$Duchy;III)V"⟩ prog_6_method_18_code 5 none ∈ gtb := gtb_in (i := 873) (by decide +kernel) (by decide +kernel)
set_option maxRecDepth 100000 in
theorem gw559 : Jvm.Cond.instanceMethod ⟨"LeftAnswers$Life", "doDeed", "(LLeftAnswers$Duchy;III)V"⟩ ∈ gtb := gtb_in (i := 872) (by decide +kernel) (by decide +kernel)
set_option maxRecDepth 100000 in
theorem gw560 : Jvm.Cond.methodLink "LeftAnswers$Life" 79 ⟨"LeftAnswers$Life", "whyNotWed", "(II)I"⟩ ∈ gtb := gtb_in (i := 847) (by decide +kernel) (by decide +kernel)
set_option maxRecDepth 100000 in
theorem gw561 : Jvm.Cond.selects "LeftAnswers$Life" ⟨"LeftAnswers$Life", "whyNotWed", "(II)I"⟩ ⟨"LeftAnswers$Life", "whyNotWed", "(II)I"⟩ ∈ gtb := gtb_in (i := 16) (by decide +kernel) (by decide +kernel)
set_option maxRecDepth 100000 in
theorem gw562 : Jvm.Cond.code ⟨"LeftAnswers$Life", "whyNotWed", "(II)I"⟩ prog_6_method_20_code 3 (some .int) ∈ gtb := gtb_in (i := 850) (by decide +kernel) (by decide +kernel)
set_option maxRecDepth 100000 in
theorem gw563 : Jvm.Cond.instanceMethod ⟨"LeftAnswers$Life", "whyNotWed", "(II)I"⟩ ∈ gtb := gtb_in (i := 849) (by decide +kernel) (by decide +kernel)
set_option maxRecDepth 100000 in
theorem gw564 : Jvm.Cond.methodLink "LeftAnswers$Life" 93 ⟨"LeftAnswers$Life", "wedTwo", "(II)V"⟩ ∈ gtb := gtb_in (i := 885) (by decide +kernel) (by decide +kernel)
set_option maxRecDepth 100000 in
theorem gw565 : Jvm.Cond.selects "LeftAnswers$Life" ⟨"LeftAnswers$Life", "wedTwo", "(II)V"⟩ ⟨"LeftAnswers$Life", "wedTwo", "(II)V"⟩ ∈ gtb := gtb_in (i := 19) (by decide +kernel) (by decide +kernel)
set_option maxRecDepth 100000 in
theorem gw566 : Jvm.Cond.code ⟨"LeftAnswers$Life", "wedTwo", "(II)V"⟩ prog_6_method_21_code 3 none ∈ gtb := gtb_in (i := 888) (by decide +kernel) (by decide +kernel)
set_option maxRecDepth 100000 in
theorem gw567 : Jvm.Cond.instanceMethod ⟨"LeftAnswers$Life", "wedTwo", "(II)V"⟩ ∈ gtb := gtb_in (i := 887) (by decide +kernel) (by decide +kernel)
set_option maxRecDepth 100000 in
theorem gw568 : Jvm.Cond.methodLink "LeftAnswers$Life" 97 ⟨"LeftAnswers$Life", "partFromSpouse", "(I)V"⟩ ∈ gtb := gtb_in (i := 889) (by decide +kernel) (by decide +kernel)
set_option maxRecDepth 100000 in
theorem gw569 : Jvm.Cond.selects "LeftAnswers$Life" ⟨"LeftAnswers$Life", "partFromSpouse", "(I)V"⟩ ⟨"LeftAnswers$Life", "partFromSpouse", "(I)V"⟩ ∈ gtb := gtb_in (i := 20) (by decide +kernel) (by decide +kernel)
set_option maxRecDepth 100000 in
theorem gw570 : Jvm.Cond.code ⟨"LeftAnswers$Life", "partFromSpouse", "(I)V"⟩ prog_6_method_22_code 3 none ∈ gtb := gtb_in (i := 892) (by decide +kernel) (by decide +kernel)
set_option maxRecDepth 100000 in
theorem gw571 : Jvm.Cond.instanceMethod ⟨"LeftAnswers$Life", "partFromSpouse", "(I)V"⟩ ∈ gtb := gtb_in (i := 891) (by decide +kernel) (by decide +kernel)
set_option maxRecDepth 100000 in
theorem gw572 : Jvm.Cond.methodLink "LeftAnswers$Life" 149 ⟨"LeftAnswers$Life", "drawActs", "(LLeftAnswers$Duchy;I)V"⟩ ∈ gtb := gtb_in (i := 1194) (by decide +kernel) (by decide +kernel)
set_option maxRecDepth 100000 in
theorem gw573 : Jvm.Cond.selects "LeftAnswers$Life" ⟨"LeftAnswers$Life", "drawActs", "(LLeftAnswers$Duchy;I)V"⟩ ⟨"LeftAnswers$Life", "drawActs", "(LLeftAnswers$Duchy;I)V"⟩ ∈ gtb := gtb_in (i := 32) (by decide +kernel) (by decide +kernel)
set_option maxRecDepth 100000 in
theorem gw574 : Jvm.Cond.code ⟨"LeftAnswers$Life", "drawActs", "(LLeftAnswers$Duchy;I)V"⟩ prog_6_method_26_code 5 none ∈ gtb := gtb_in (i := 1197) (by decide +kernel) (by decide +kernel)
set_option maxRecDepth 100000 in
theorem gw575 : Jvm.Cond.instanceMethod ⟨"LeftAnswers$Life", "drawActs", "(LLeftAnswers$Duchy;I)V"⟩ ∈ gtb := gtb_in (i := 1196) (by decide +kernel) (by decide +kernel)
set_option maxRecDepth 100000 in
theorem gw576 : Jvm.Cond.methodLink "LeftAnswers$Life" 140 ⟨"LeftAnswers$Life", "passDay", "(LLeftAnswers$Duchy;)V"⟩ ∈ gtb := gtb_in (i := 897) (by decide +kernel) (by decide +kernel)
set_option maxRecDepth 100000 in
theorem gw577 : Jvm.Cond.selects "LeftAnswers$Life" ⟨"LeftAnswers$Life", "passDay", "(LLeftAnswers$Duchy;)V"⟩ ⟨"LeftAnswers$Life", "passDay", "(LLeftAnswers$Duchy;)V"⟩ ∈ gtb := gtb_in (i := 21) (by decide +kernel) (by decide +kernel)
set_option maxRecDepth 100000 in
theorem gw578 : Jvm.Cond.code ⟨"LeftAnswers$Life", "passDay", "(LLeftAnswers$Duchy;)V"⟩ prog_6_method_24_code 4 none ∈ gtb := gtb_in (i := 900) (by decide +kernel) (by decide +kernel)
set_option maxRecDepth 100000 in
theorem gw579 : Jvm.Cond.instanceMethod ⟨"LeftAnswers$Life", "passDay", "(LLeftAnswers$Duchy;)V"⟩ ∈ gtb := gtb_in (i := 899) (by decide +kernel) (by decide +kernel)
set_option maxRecDepth 100000 in
theorem gw580 : Jvm.Cond.fieldLink "LeftAnswers$Life" 56 "LeftAnswers$Duchy" "watchers" "[I" ∈ gtb := gtb_in (i := 264) (by decide +kernel) (by decide +kernel)
set_option maxRecDepth 100000 in
theorem gw581 : Jvm.Cond.methodLink "LeftAnswers$Life" 61 ⟨"LeftAnswers$Life", "jailedBits", "()I"⟩ ∈ gtb := gtb_in (i := 813) (by decide +kernel) (by decide +kernel)
set_option maxRecDepth 100000 in
theorem gw582 : Jvm.Cond.methodLink "LeftAnswers$Life" 65 ⟨"LeftAnswers$Life", "isJailed", "(I)Z"⟩ ∈ gtb := gtb_in (i := 797) (by decide +kernel) (by decide +kernel)
set_option maxRecDepth 100000 in
theorem gw583 : Jvm.Cond.selects "LeftAnswers$Life" ⟨"LeftAnswers$Life", "isJailed", "(I)Z"⟩ ⟨"LeftAnswers$Life", "isJailed", "(I)Z"⟩ ∈ gtb := gtb_in (i := 799) (by decide +kernel) (by decide +kernel)
set_option maxRecDepth 100000 in
theorem gw584 : Jvm.Cond.code ⟨"LeftAnswers$Life", "isJailed", "(I)Z"⟩ prog_6_method_4_code 2 (some .boolean) ∈ gtb := gtb_in (i := 800) (by decide +kernel) (by decide +kernel)
set_option maxRecDepth 100000 in
theorem gw585 : Jvm.Cond.instanceMethod ⟨"LeftAnswers$Life", "isJailed", "(I)Z"⟩ ∈ gtb := gtb_in (i := 798) (by decide +kernel) (by decide +kernel)
set_option maxRecDepth 100000 in
theorem gw586 : Jvm.Cond.methodLink "LeftAnswers$Life" 167 ⟨"LeftAnswers$Life", "mostPayOf", "(LLeftAnswers$Duchy;II)I"⟩ ∈ gtb := gtb_in (i := 1093) (by decide +kernel) (by decide +kernel)
set_option maxRecDepth 100000 in
theorem gw587 : Jvm.Cond.selects "LeftAnswers$Life" ⟨"LeftAnswers$Life", "mostPayOf", "(LLeftAnswers$Duchy;II)I"⟩ ⟨"LeftAnswers$Life", "mostPayOf", "(LLeftAnswers$Duchy;II)I"⟩ ∈ gtb := gtb_in (i := 27) (by decide +kernel) (by decide +kernel)
set_option maxRecDepth 100000 in
theorem gw588 : Jvm.Cond.code ⟨"LeftAnswers$Life", "mostPayOf", "(LLeftAnswers$Duchy;II)I"⟩ prog_6_method_32_code 7 (some .int) ∈ gtb := gtb_in (i := 1096) (by decide +kernel) (by decide +kernel)
set_option maxRecDepth 100000 in
theorem gw589 : Jvm.Cond.instanceMethod ⟨"LeftAnswers$Life", "mostPayOf", "(LLeftAnswers$Duchy;II)I"⟩ ∈ gtb := gtb_in (i := 1095) (by decide +kernel) (by decide +kernel)
set_option maxRecDepth 100000 in
theorem gw590 : Jvm.Cond.methodLink "LeftAnswers$Life" 83 ⟨"LeftAnswers$Life", "isGloved", "(I)Z"⟩ ∈ gtb := gtb_in (i := 843) (by decide +kernel) (by decide +kernel)
set_option maxRecDepth 100000 in
theorem gw591 : Jvm.Cond.methodLink "LeftAnswers$Life" 171 ⟨"java/lang/Math", "max", "(II)I"⟩ ∈ gtb := gtb_in (i := 1098) (by decide +kernel) (by decide +kernel)
set_option maxRecDepth 100000 in
theorem gw592 : Jvm.Cond.static ⟨"java/lang/Math", "max", "(II)I"⟩ ∈ gtb := gtb_in (i := 955) (by decide +kernel) (by decide +kernel)
set_option maxRecDepth 100000 in
theorem gw593 : Jvm.Cond.code ⟨"java/lang/Math", "max", "(II)I"⟩ prog_22_method_65_code 2 (some .int) ∈ gtb := gtb_in (i := 956) (by decide +kernel) (by decide +kernel)
set_option maxRecDepth 100000 in
theorem gw594 : Jvm.Cond.methodLink "LeftAnswers$Life" 174 ⟨"LeftAnswers$Duchy", "isEasyFor", "(III)Z"⟩ ∈ gtb := gtb_in (i := 1097) (by decide +kernel) (by decide +kernel)
set_option maxRecDepth 100000 in
theorem gw595 : Jvm.Cond.fieldLink "LeftAnswers$Life" 144 "LeftAnswers$Duchy" "ideas" "I" ∈ gtb := gtb_in (i := 244) (by decide +kernel) (by decide +kernel)
set_option maxRecDepth 100000 in
theorem gw596 : Jvm.Cond.methodLink "LeftAnswers$Life" 100 ⟨"LeftAnswers$Life", "passDays", "(LLeftAnswers$Duchy;I)V"⟩ ∈ gtb := gtb_in (i := 893) (by decide +kernel) (by decide +kernel)
set_option maxRecDepth 100000 in
theorem gw597 : Jvm.Cond.methodLink "LeftAnswers$Life" 69 ⟨"LeftAnswers$Life", "isWed", "(I)Z"⟩ ∈ gtb := gtb_in (i := 805) (by decide +kernel) (by decide +kernel)
set_option maxRecDepth 100000 in
theorem gw598 : Jvm.Cond.selects "LeftAnswers$Life" ⟨"LeftAnswers$Life", "isWed", "(I)Z"⟩ ⟨"LeftAnswers$Life", "isWed", "(I)Z"⟩ ∈ gtb := gtb_in (i := 807) (by decide +kernel) (by decide +kernel)
set_option maxRecDepth 100000 in
theorem gw599 : Jvm.Cond.code ⟨"LeftAnswers$Life", "isWed", "(I)Z"⟩ prog_6_method_6_code 2 (some .boolean) ∈ gtb := gtb_in (i := 808) (by decide +kernel) (by decide +kernel)
