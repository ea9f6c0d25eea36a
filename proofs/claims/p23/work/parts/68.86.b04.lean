set_option maxRecDepth 100000 in
theorem gw600 : Jvm.Cond.instanceMethod ⟨"LeftAnswers$Life", "isWed", "(I)Z"⟩ ∈ gtb := gtb_t3 (i := 202) rfl (by decide +kernel)
set_option maxRecDepth 100000 in
theorem gw601 : Jvm.Cond.methodLink "LeftAnswers$Life" 86 ⟨"LeftAnswers$Life", "daysLeft", "()I"⟩ ∈ gtb := gtb_t4 (i := 7) rfl (by decide +kernel)
set_option maxRecDepth 100000 in
theorem gw602 : Jvm.Cond.methodLink "LeftAnswers$Life" 108 ⟨"LeftAnswers$Duchy", "handsAreRight", "(II)Z"⟩ ∈ gtb := gtb_t3 (i := 233) rfl (by decide +kernel)
set_option maxRecDepth 100000 in
theorem gw603 : Jvm.Cond.methodLink "LeftAnswers$Life" 112 ⟨"LeftAnswers$Duchy", "skillOf", "(II)I"⟩ ∈ gtb := gtb_t3 (i := 238) rfl (by decide +kernel)
set_option maxRecDepth 100000 in
theorem gw604 : Jvm.Cond.fieldLink "LeftAnswers$Life" 115 "LeftAnswers$Duchy" "hard" "[I" ∈ gtb := gtb_t1 (i := 132) rfl (by decide +kernel)
set_option maxRecDepth 100000 in
theorem gw605 : Jvm.Cond.methodLink "LeftAnswers$Pairs" 3 ⟨"java/lang/Object", "<init>", "()V"⟩ ∈ gtb := gtb_t2 (i := 130) rfl (by decide +kernel)
set_option maxRecDepth 100000 in
theorem gw606 : Jvm.Cond.fieldLink "LeftAnswers$Pairs" 9 "LeftAnswers$Pairs" "partnerOf" "[I" ∈ gtb := gtb_t2 (i := 131) rfl (by decide +kernel)
set_option maxRecDepth 100000 in
theorem gw607 : Jvm.Cond.fieldLink "LeftAnswers$Pairs" 15 "LeftAnswers$Pairs" "tried" "[I" ∈ gtb := gtb_t2 (i := 133) rfl (by decide +kernel)
set_option maxRecDepth 100000 in
theorem gw608 : Jvm.Cond.fieldLink "LeftAnswers$Pairs" 18 "LeftAnswers$Pairs" "joy" "[I" ∈ gtb := gtb_t2 (i := 134) rfl (by decide +kernel)
set_option maxRecDepth 100000 in
theorem gw609 : Jvm.Cond.fieldLink "LeftAnswers$Pairs" 27 "LeftAnswers$Pairs" "persons" "I" ∈ gtb := gtb_t2 (i := 135) rfl (by decide +kernel)
set_option maxRecDepth 100000 in
theorem gw610 : Jvm.Cond.fieldLink "LeftAnswers$Pairs" 28 "LeftAnswers$Pairs" "most" "I" ∈ gtb := gtb_t2 (i := 136) rfl (by decide +kernel)
set_option maxRecDepth 100000 in
theorem gw611 : Jvm.Cond.methodLink "LeftAnswers$Pairs" 51 ⟨"java/lang/System", "arraycopy", "(Ljava/lang/Object;ILjava/lang/Object;II)V"⟩ ∈ gtb := gtb_t4 (i := 236) rfl (by decide +kernel)
set_option maxRecDepth 100000 in
theorem gw612 : Jvm.Cond.methodLink "LeftAnswers$Pairs" 47 ⟨"LeftAnswers$Pairs", "search", "(II)V"⟩ ∈ gtb := gtb_t4 (i := 232) rfl (by decide +kernel)
set_option maxRecDepth 100000 in
theorem gw613 : Jvm.Cond.selects "LeftAnswers$Pairs" ⟨"LeftAnswers$Pairs", "search", "(II)V"⟩ ⟨"LeftAnswers$Pairs", "search", "(II)V"⟩ ∈ gtb := gtb_in (i := 26) (by decide +kernel) (by decide +kernel)
set_option maxRecDepth 100000 in
theorem gw614 : Jvm.Cond.code ⟨"LeftAnswers$Pairs", "search", "(II)V"⟩ prog_7_method_3_code 5 none ∈ gtb := gtb_t4 (i := 235) rfl (by decide +kernel)
set_option maxRecDepth 100000 in
theorem gw615 : Jvm.Cond.instanceMethod ⟨"LeftAnswers$Pairs", "search", "(II)V"⟩ ∈ gtb := gtb_t4 (i := 234) rfl (by decide +kernel)
set_option maxRecDepth 100000 in
theorem gw616 : Jvm.Cond.fieldLink "LeftAnswers$Pairs" 21 "LeftAnswers$Duchy" "persons" "I" ∈ gtb := gtb_t1 (i := 105) rfl (by decide +kernel)
set_option maxRecDepth 100000 in
theorem gw617 : Jvm.Cond.methodLink "LeftAnswers$Pairs" 31 ⟨"LeftAnswers$Life", "wedBits", "()I"⟩ ∈ gtb := gtb_t4 (i := 226) rfl (by decide +kernel)
set_option maxRecDepth 100000 in
theorem gw618 : Jvm.Cond.fieldLink "LeftAnswers$Pairs" 37 "LeftAnswers$Life" "gloved" "I" ∈ gtb := gtb_t1 (i := 195) rfl (by decide +kernel)
set_option maxRecDepth 100000 in
theorem gw619 : Jvm.Cond.methodLink "LeftAnswers$Pairs" 40 ⟨"LeftAnswers$Life", "jailedBits", "()I"⟩ ∈ gtb := gtb_t4 (i := 227) rfl (by decide +kernel)
set_option maxRecDepth 100000 in
theorem gw620 : Jvm.Cond.methodLink "LeftAnswers$Pairs" 43 ⟨"LeftAnswers$Duchy", "fondOf", "(II)I"⟩ ∈ gtb := gtb_t4 (i := 228) rfl (by decide +kernel)
set_option maxRecDepth 100000 in
theorem gw621 : Jvm.Cond.selects "LeftAnswers$Duchy" ⟨"LeftAnswers$Duchy", "fondOf", "(II)I"⟩ ⟨"LeftAnswers$Duchy", "fondOf", "(II)I"⟩ ∈ gtb := gtb_t4 (i := 230) rfl (by decide +kernel)
set_option maxRecDepth 100000 in
theorem gw622 : Jvm.Cond.code ⟨"LeftAnswers$Duchy", "fondOf", "(II)I"⟩ prog_4_method_21_code 3 (some .int) ∈ gtb := gtb_t4 (i := 231) rfl (by decide +kernel)
set_option maxRecDepth 100000 in
theorem gw623 : Jvm.Cond.instanceMethod ⟨"LeftAnswers$Duchy", "fondOf", "(II)I"⟩ ∈ gtb := gtb_t4 (i := 229) rfl (by decide +kernel)
set_option maxRecDepth 100000 in
theorem gw624 : Jvm.Cond.methodLink "LeftAnswers$Parted" 3 ⟨"java/lang/Object", "<init>", "()V"⟩ ∈ gtb := gtb_t2 (i := 104) rfl (by decide +kernel)
set_option maxRecDepth 100000 in
theorem gw625 : Jvm.Cond.fieldLink "LeftAnswers$Parted" 9 "LeftAnswers$Parted" "can" "[I" ∈ gtb := gtb_t2 (i := 105) rfl (by decide +kernel)
set_option maxRecDepth 100000 in
theorem gw626 : Jvm.Cond.fieldLink "LeftAnswers$Parted" 15 "LeftAnswers$Parted" "possible" "[I" ∈ gtb := gtb_t2 (i := 107) rfl (by decide +kernel)
set_option maxRecDepth 100000 in
theorem gw627 : Jvm.Cond.fieldLink "LeftAnswers$Parted" 18 "LeftAnswers$Parted" "tried" "[I" ∈ gtb := gtb_t2 (i := 108) rfl (by decide +kernel)
set_option maxRecDepth 100000 in
theorem gw628 : Jvm.Cond.fieldLink "LeftAnswers$Parted" 21 "LeftAnswers$Parted" "places" "[I" ∈ gtb := gtb_t2 (i := 109) rfl (by decide +kernel)
set_option maxRecDepth 100000 in
theorem gw629 : Jvm.Cond.methodLink "LeftAnswers$Parted" 24 ⟨"java/lang/Math", "min", "(II)I"⟩ ∈ gtb := gtb_t4 (i := 109) rfl (by decide +kernel)
set_option maxRecDepth 100000 in
theorem gw630 : Jvm.Cond.methodLink "LeftAnswers$Parted" 30 ⟨"java/lang/Math", "max", "(II)I"⟩ ∈ gtb := gtb_t4 (i := 110) rfl (by decide +kernel)
set_option maxRecDepth 100000 in
theorem gw631 : Jvm.Cond.fieldLink "LeftAnswers$Parted" 33 "LeftAnswers$Parted" "count" "I" ∈ gtb := gtb_t2 (i := 110) rfl (by decide +kernel)
set_option maxRecDepth 100000 in
theorem gw632 : Jvm.Cond.fieldLink "LeftAnswers$Parted" 37 "LeftAnswers$Parted" "most" "I" ∈ gtb := gtb_t2 (i := 111) rfl (by decide +kernel)
set_option maxRecDepth 100000 in
theorem gw633 : Jvm.Cond.methodLink "LeftAnswers$Parted" 45 ⟨"java/lang/System", "arraycopy", "(Ljava/lang/Object;ILjava/lang/Object;II)V"⟩ ∈ gtb := gtb_t4 (i := 130) rfl (by decide +kernel)
set_option maxRecDepth 100000 in
theorem gw634 : Jvm.Cond.methodLink "LeftAnswers$Parted" 51 ⟨"LeftAnswers$Parted", "takenBy", "(I)I"⟩ ∈ gtb := gtb_t4 (i := 131) rfl (by decide +kernel)
set_option maxRecDepth 100000 in
theorem gw635 : Jvm.Cond.code ⟨"LeftAnswers$Parted", "takenBy", "(I)I"⟩ prog_8_method_5_code 3 (some .int) ∈ gtb := gtb_t4 (i := 133) rfl (by decide +kernel)
set_option maxRecDepth 100000 in
theorem gw636 : Jvm.Cond.static ⟨"LeftAnswers$Parted", "takenBy", "(I)I"⟩ ∈ gtb := gtb_t4 (i := 132) rfl (by decide +kernel)
set_option maxRecDepth 100000 in
theorem gw637 : Jvm.Cond.methodLink "LeftAnswers$Parted" 41 ⟨"LeftAnswers$Parted", "search", "(III)V"⟩ ∈ gtb := gtb_t4 (i := 126) rfl (by decide +kernel)
set_option maxRecDepth 100000 in
theorem gw638 : Jvm.Cond.selects "LeftAnswers$Parted" ⟨"LeftAnswers$Parted", "search", "(III)V"⟩ ⟨"LeftAnswers$Parted", "search", "(III)V"⟩ ∈ gtb := gtb_in (i := 23) (by decide +kernel) (by decide +kernel)
set_option maxRecDepth 100000 in
theorem gw639 : Jvm.Cond.code ⟨"LeftAnswers$Parted", "search", "(III)V"⟩ prog_8_method_4_code 6 none ∈ gtb := gtb_t4 (i := 129) rfl (by decide +kernel)
set_option maxRecDepth 100000 in
theorem gw640 : Jvm.Cond.instanceMethod ⟨"LeftAnswers$Parted", "search", "(III)V"⟩ ∈ gtb := gtb_t4 (i := 128) rfl (by decide +kernel)
set_option maxRecDepth 100000 in
theorem gw641 : Jvm.Cond.constant "LeftAnswers$Parted" 40 2097151 ∈ gtb := gtb_t4 (i := 125) rfl (by decide +kernel)
set_option maxRecDepth 100000 in
theorem gw642 : Jvm.Cond.methodLink "LeftAnswers$Past" 3 ⟨"java/lang/Object", "<init>", "()V"⟩ ∈ gtb := gtb_t2 (i := 10) rfl (by decide +kernel)
set_option maxRecDepth 100000 in
theorem gw643 : Jvm.Cond.classLink "LeftAnswers$Past" 11 "LeftAnswers$Life" ∈ gtb := gtb_t2 (i := 11) rfl (by decide +kernel)
set_option maxRecDepth 100000 in
theorem gw644 : Jvm.Cond.fieldLink "LeftAnswers$Past" 13 "LeftAnswers$Past" "lives" "[LLeftAnswers$Life;" ∈ gtb := gtb_t2 (i := 14) rfl (by decide +kernel)
set_option maxRecDepth 100000 in
theorem gw645 : Jvm.Cond.methodLink "LeftAnswers$Past" 17 ⟨"LeftAnswers$Life", "<init>", "()V"⟩ ∈ gtb := gtb_t2 (i := 13) rfl (by decide +kernel)
set_option maxRecDepth 100000 in
theorem gw646 : Jvm.Cond.fieldLink "LeftAnswers$Past" 18 "LeftAnswers$Past" "count" "I" ∈ gtb := gtb_t2 (i := 16) rfl (by decide +kernel)
set_option maxRecDepth 100000 in
theorem gw647 : Jvm.Cond.fieldLink "LeftAnswers$Past" 22 "LeftAnswers$Past" "first" "I" ∈ gtb := gtb_t2 (i := 15) rfl (by decide +kernel)
set_option maxRecDepth 100000 in
theorem gw648 : Jvm.Cond.methodLink "LeftAnswers$Past" 25 ⟨"LeftAnswers$Life", "copyFrom", "(LLeftAnswers$Life;)V"⟩ ∈ gtb := gtb_t4 (i := 15) rfl (by decide +kernel)
set_option maxRecDepth 100000 in
theorem gw649 : Jvm.Cond.methodLink "LeftAnswers$Sentence" 5 ⟨"java/lang/Object", "<init>", "()V"⟩ ∈ gtb := gtb_t2 (i := 75) rfl (by decide +kernel)
set_option maxRecDepth 100000 in
theorem gw650 : Jvm.Cond.classLink "LeftAnswers$Sentence" 11 "LeftAnswers$Word" ∈ gtb := gtb_t2 (i := 76) rfl (by decide +kernel)
set_option maxRecDepth 100000 in
theorem gw651 : Jvm.Cond.fieldLink "LeftAnswers$Sentence" 13 "LeftAnswers$Sentence" "words" "[LLeftAnswers$Word;" ∈ gtb := gtb_t2 (i := 82) rfl (by decide +kernel)
set_option maxRecDepth 100000 in
theorem gw652 : Jvm.Cond.fieldLink "LeftAnswers$Sentence" 17 "LeftAnswers$Word" "NOTHING" "LLeftAnswers$Word;" ∈ gtb := gtb_t2 (i := 78) rfl (by decide +kernel)
set_option maxRecDepth 100000 in
theorem gw653 : Jvm.Cond.fieldLink "LeftAnswers$Sentence" 21 "LeftAnswers$Sentence" "signs" "[I" ∈ gtb := gtb_t2 (i := 83) rfl (by decide +kernel)
set_option maxRecDepth 100000 in
theorem gw654 : Jvm.Cond.fieldLink "LeftAnswers$Sentence" 25 "LeftAnswers$Sentence" "numbers" "[I" ∈ gtb := gtb_t2 (i := 84) rfl (by decide +kernel)
set_option maxRecDepth 100000 in
theorem gw655 : Jvm.Cond.fieldLink "LeftAnswers$Sentence" 28 "LeftAnswers$Sentence" "stack" "[I" ∈ gtb := gtb_t2 (i := 85) rfl (by decide +kernel)
set_option maxRecDepth 100000 in
theorem gw656 : Jvm.Cond.fieldLink "LeftAnswers$Sentence" 35 "LeftAnswers$Sentence" "steps" "I" ∈ gtb := gtb_t2 (i := 81) rfl (by decide +kernel)
set_option maxRecDepth 100000 in
theorem gw657 : Jvm.Cond.fieldLink "LeftAnswers$Sentence" 91 "LeftAnswers$1" "$SwitchMap$LeftAnswers$Word" "[I" ∈ gtb := gtb_t5 (i := 203) rfl (by decide +kernel)
set_option maxRecDepth 100000 in
theorem gw658 : Jvm.Cond.methodLink "LeftAnswers$Sentence" 96 ⟨"LeftAnswers$Word", "ordinal", "()I"⟩ ∈ gtb := gtb_t5 (i := 204) rfl (by decide +kernel)
set_option maxRecDepth 100000 in
theorem gw659 : Jvm.Cond.methodLink "LeftAnswers$Sentence" 137 ⟨"LeftAnswers$Life", "jailedBits", "()I"⟩ ∈ gtb := gtb_t6 (i := 3) rfl (by decide +kernel)
set_option maxRecDepth 100000 in
theorem gw660 : Jvm.Cond.fieldLink "LeftAnswers$Sentence" 142 "LeftAnswers$Life" "gloved" "I" ∈ gtb := gtb_t1 (i := 197) rfl (by decide +kernel)
set_option maxRecDepth 100000 in
theorem gw661 : Jvm.Cond.methodLink "LeftAnswers$Sentence" 145 ⟨"LeftAnswers$Life", "wedBits", "()I"⟩ ∈ gtb := gtb_t6 (i := 4) rfl (by decide +kernel)
set_option maxRecDepth 100000 in
theorem gw662 : Jvm.Cond.methodLink "LeftAnswers$Sentence" 148 ⟨"LeftAnswers$Life", "busyBits", "()I"⟩ ∈ gtb := gtb_t6 (i := 5) rfl (by decide +kernel)
set_option maxRecDepth 100000 in
theorem gw663 : Jvm.Cond.selects "LeftAnswers$Life" ⟨"LeftAnswers$Life", "busyBits", "()I"⟩ ⟨"LeftAnswers$Life", "busyBits", "()I"⟩ ∈ gtb := gtb_t6 (i := 7) rfl (by decide +kernel)
set_option maxRecDepth 100000 in
theorem gw664 : Jvm.Cond.code ⟨"LeftAnswers$Life", "busyBits", "()I"⟩ prog_6_method_10_code 3 (some .int) ∈ gtb := gtb_t6 (i := 8) rfl (by decide +kernel)
set_option maxRecDepth 100000 in
theorem gw665 : Jvm.Cond.instanceMethod ⟨"LeftAnswers$Life", "busyBits", "()I"⟩ ∈ gtb := gtb_t6 (i := 6) rfl (by decide +kernel)
set_option maxRecDepth 100000 in
theorem gw666 : Jvm.Cond.methodLink "LeftAnswers$Sentence" 151 ⟨"LeftAnswers$Life", "seenBits", "(LLeftAnswers$Duchy;)I"⟩ ∈ gtb := gtb_t6 (i := 9) rfl (by decide +kernel)
set_option maxRecDepth 100000 in
theorem gw667 : Jvm.Cond.methodLink "LeftAnswers$Sentence" 155 ⟨"LeftAnswers$Sentence", "measureBits", "(ILLeftAnswers$Duchy;LLeftAnswers$Life;)I"⟩ ∈ gtb := gtb_t6 (i := 10) rfl (by decide +kernel)
set_option maxRecDepth 100000 in
theorem gw668 : Jvm.Cond.selects "LeftAnswers$Sentence" ⟨"LeftAnswers$Sentence", "measureBits", "(ILLeftAnswers$Duchy;LLeftAnswers$Life;)I"⟩ ⟨"LeftAnswers$Sentence", "measureBits", "(ILLeftAnswers$Duchy;LLeftAnswers$Life;)I"⟩ ∈ gtb := gtb_in (i := 46) (by decide +kernel) (by decide +kernel)
set_option maxRecDepth 100000 in
theorem gw669 : Jvm.Cond.code ⟨"LeftAnswers$Sentence", "measureBits", "(ILLeftAnswers$Duchy;LLeftAnswers$Life;)I"⟩ prog_10_method_14_code 6 (some .int) ∈ gtb := gtb_t6 (i := 13) rfl (by decide +kernel)
set_option maxRecDepth 100000 in
theorem gw670 : Jvm.Cond.instanceMethod ⟨"LeftAnswers$Sentence", "measureBits", "(ILLeftAnswers$Duchy;LLeftAnswers$Life;)I"⟩ ∈ gtb := gtb_t6 (i := 12) rfl (by decide +kernel)
set_option maxRecDepth 100000 in
theorem gw671 : Jvm.Cond.fieldLink "LeftAnswers$Sentence" 31 "LeftAnswers$Sentence" "ones" "I" ∈ gtb := gtb_t2 (i := 79) rfl (by decide +kernel)
set_option maxRecDepth 100000 in
theorem gw672 : Jvm.Cond.fieldLink "LeftAnswers$Sentence" 158 "LeftAnswers$Duchy" "persons" "I" ∈ gtb := gtb_t1 (i := 108) rfl (by decide +kernel)
set_option maxRecDepth 100000 in
theorem gw673 : Jvm.Cond.methodLink "LeftAnswers$Sentence" 161 ⟨"LeftAnswers$Sentence", "measureOf", "(LLeftAnswers$Word;LLeftAnswers$Life;I)I"⟩ ∈ gtb := gtb_t6 (i := 14) rfl (by decide +kernel)
set_option maxRecDepth 100000 in
theorem gw674 : Jvm.Cond.code ⟨"LeftAnswers$Sentence", "measureOf", "(LLeftAnswers$Word;LLeftAnswers$Life;I)I"⟩ prog_10_method_15_code 3 (some .int) ∈ gtb := gtb_t6 (i := 16) rfl (by decide +kernel)
set_option maxRecDepth 100000 in
theorem gw675 : Jvm.Cond.static ⟨"LeftAnswers$Sentence", "measureOf", "(LLeftAnswers$Word;LLeftAnswers$Life;I)I"⟩ ∈ gtb := gtb_t6 (i := 15) rfl (by decide +kernel)
set_option maxRecDepth 100000 in
theorem gw676 : Jvm.Cond.methodLink "LeftAnswers$Sentence" 165 ⟨"LeftAnswers$Sentence", "holds", "(III)Z"⟩ ∈ gtb := gtb_t6 (i := 17) rfl (by decide +kernel)
set_option maxRecDepth 100000 in
theorem gw677 : Jvm.Cond.code ⟨"LeftAnswers$Sentence", "holds", "(III)Z"⟩ prog_10_method_16_code 3 (some .boolean) ∈ gtb := gtb_t6 (i := 19) rfl (by decide +kernel)
set_option maxRecDepth 100000 in
theorem gw678 : Jvm.Cond.static ⟨"LeftAnswers$Sentence", "holds", "(III)Z"⟩ ∈ gtb := gtb_t6 (i := 18) rfl (by decide +kernel)
set_option maxRecDepth 100000 in
theorem gw679 : Jvm.Cond.fieldLink "LeftAnswers$Sentence" 169 "LeftAnswers$Life" "spouse" "[I" ∈ gtb := gtb_t1 (i := 215) rfl (by decide +kernel)
set_option maxRecDepth 100000 in
theorem gw680 : Jvm.Cond.fieldLink "LeftAnswers$Sentence" 172 "LeftAnswers$Life" "coins" "[I" ∈ gtb := gtb_t1 (i := 202) rfl (by decide +kernel)
set_option maxRecDepth 100000 in
theorem gw681 : Jvm.Cond.fieldLink "LeftAnswers$Sentence" 175 "LeftAnswers$Life" "blame" "[I" ∈ gtb := gtb_t1 (i := 205) rfl (by decide +kernel)
set_option maxRecDepth 100000 in
theorem gw682 : Jvm.Cond.fieldLink "LeftAnswers$Sentence" 178 "LeftAnswers$Life" "ideas" "[I" ∈ gtb := gtb_t1 (i := 211) rfl (by decide +kernel)
set_option maxRecDepth 100000 in
theorem gw683 : Jvm.Cond.methodLink "LeftAnswers$Sentence" 74 ⟨"LeftAnswers$Sentence", "readOne", "(LLeftAnswers$Tape;LLeftAnswers$Duchy;I)Z"⟩ ∈ gtb := gtb_t5 (i := 195) rfl (by decide +kernel)
set_option maxRecDepth 100000 in
theorem gw684 : Jvm.Cond.selects "LeftAnswers$Sentence" ⟨"LeftAnswers$Sentence", "readOne", "(LLeftAnswers$Tape;LLeftAnswers$Duchy;I)Z"⟩ ⟨"LeftAnswers$Sentence", "readOne", "(LLeftAnswers$Tape;LLeftAnswers$Duchy;I)Z"⟩ ∈ gtb := gtb_in (i := 41) (by decide +kernel) (by decide +kernel)
set_option maxRecDepth 100000 in
theorem gw685 : Jvm.Cond.code ⟨"LeftAnswers$Sentence", "readOne", "(LLeftAnswers$Tape;LLeftAnswers$Duchy;I)Z"⟩ prog_10_method_7_code 7 (some .boolean) ∈ gtb := gtb_t5 (i := 198) rfl (by decide +kernel)
set_option maxRecDepth 100000 in
theorem gw686 : Jvm.Cond.instanceMethod ⟨"LeftAnswers$Sentence", "readOne", "(LLeftAnswers$Tape;LLeftAnswers$Duchy;I)Z"⟩ ∈ gtb := gtb_t5 (i := 197) rfl (by decide +kernel)
set_option maxRecDepth 100000 in
theorem gw687 : Jvm.Cond.fieldLink "LeftAnswers$Sentence" 61 "LeftAnswers$Tape" "word" "LLeftAnswers$Word;" ∈ gtb := gtb_t1 (i := 56) rfl (by decide +kernel)
set_option maxRecDepth 100000 in
theorem gw688 : Jvm.Cond.fieldLink "LeftAnswers$Sentence" 77 "LeftAnswers$Word" "AND" "LLeftAnswers$Word;" ∈ gtb := gtb_t5 (i := 224) rfl (by decide +kernel)
set_option maxRecDepth 100000 in
theorem gw689 : Jvm.Cond.methodLink "LeftAnswers$Sentence" 67 ⟨"LeftAnswers$Tape", "advance", "()V"⟩ ∈ gtb := gtb_t5 (i := 206) rfl (by decide +kernel)
set_option maxRecDepth 100000 in
theorem gw690 : Jvm.Cond.methodLink "LeftAnswers$Sentence" 70 ⟨"LeftAnswers$Sentence", "addStep", "(LLeftAnswers$Word;II)V"⟩ ∈ gtb := gtb_t5 (i := 208) rfl (by decide +kernel)
set_option maxRecDepth 100000 in
theorem gw691 : Jvm.Cond.selects "LeftAnswers$Sentence" ⟨"LeftAnswers$Sentence", "addStep", "(LLeftAnswers$Word;II)V"⟩ ⟨"LeftAnswers$Sentence", "addStep", "(LLeftAnswers$Word;II)V"⟩ ∈ gtb := gtb_in (i := 42) (by decide +kernel) (by decide +kernel)
set_option maxRecDepth 100000 in
theorem gw692 : Jvm.Cond.code ⟨"LeftAnswers$Sentence", "addStep", "(LLeftAnswers$Word;II)V"⟩ prog_10_method_11_code 4 none ∈ gtb := gtb_t5 (i := 211) rfl (by decide +kernel)
set_option maxRecDepth 100000 in
theorem gw693 : Jvm.Cond.instanceMethod ⟨"LeftAnswers$Sentence", "addStep", "(LLeftAnswers$Word;II)V"⟩ ∈ gtb := gtb_t5 (i := 210) rfl (by decide +kernel)
set_option maxRecDepth 100000 in
theorem gw694 : Jvm.Cond.methodLink "LeftAnswers$Sentence" 58 ⟨"LeftAnswers$Sentence", "readAll", "(LLeftAnswers$Tape;LLeftAnswers$Duchy;I)Z"⟩ ∈ gtb := gtb_t5 (i := 191) rfl (by decide +kernel)
set_option maxRecDepth 100000 in
theorem gw695 : Jvm.Cond.selects "LeftAnswers$Sentence" ⟨"LeftAnswers$Sentence", "readAll", "(LLeftAnswers$Tape;LLeftAnswers$Duchy;I)Z"⟩ ⟨"LeftAnswers$Sentence", "readAll", "(LLeftAnswers$Tape;LLeftAnswers$Duchy;I)Z"⟩ ∈ gtb := gtb_in (i := 40) (by decide +kernel) (by decide +kernel)
set_option maxRecDepth 100000 in
theorem gw696 : Jvm.Cond.code ⟨"LeftAnswers$Sentence", "readAll", "(LLeftAnswers$Tape;LLeftAnswers$Duchy;I)Z"⟩ prog_10_method_6_code 6 (some .boolean) ∈ gtb := gtb_t5 (i := 194) rfl (by decide +kernel)
set_option maxRecDepth 100000 in
theorem gw697 : Jvm.Cond.instanceMethod ⟨"LeftAnswers$Sentence", "readAll", "(LLeftAnswers$Tape;LLeftAnswers$Duchy;I)Z"⟩ ∈ gtb := gtb_t5 (i := 193) rfl (by decide +kernel)
set_option maxRecDepth 100000 in
theorem gw698 : Jvm.Cond.fieldLink "LeftAnswers$Sentence" 64 "LeftAnswers$Word" "OR" "LLeftAnswers$Word;" ∈ gtb := gtb_t5 (i := 226) rfl (by decide +kernel)
set_option maxRecDepth 100000 in
theorem gw699 : Jvm.Cond.methodLink "LeftAnswers$Sentence" 38 ⟨"LeftAnswers$Sentence", "clear", "()V"⟩ ∈ gtb := gtb_t5 (i := 185) rfl (by decide +kernel)
set_option maxRecDepth 100000 in
theorem gw700 : Jvm.Cond.methodLink "LeftAnswers$Sentence" 41 ⟨"LeftAnswers$Tape", "open", "(I)V"⟩ ∈ gtb := gtb_t5 (i := 186) rfl (by decide +kernel)
set_option maxRecDepth 100000 in
theorem gw701 : Jvm.Cond.methodLink "LeftAnswers$Sentence" 47 ⟨"LeftAnswers$Sentence", "readCond", "(LLeftAnswers$Tape;LLeftAnswers$Duchy;I)Z"⟩ ∈ gtb := gtb_t5 (i := 187) rfl (by decide +kernel)
set_option maxRecDepth 100000 in
theorem gw702 : Jvm.Cond.selects "LeftAnswers$Sentence" ⟨"LeftAnswers$Sentence", "readCond", "(LLeftAnswers$Tape;LLeftAnswers$Duchy;I)Z"⟩ ⟨"LeftAnswers$Sentence", "readCond", "(LLeftAnswers$Tape;LLeftAnswers$Duchy;I)Z"⟩ ∈ gtb := gtb_in (i := 39) (by decide +kernel) (by decide +kernel)
set_option maxRecDepth 100000 in
theorem gw703 : Jvm.Cond.code ⟨"LeftAnswers$Sentence", "readCond", "(LLeftAnswers$Tape;LLeftAnswers$Duchy;I)Z"⟩ prog_10_method_5_code 6 (some .boolean) ∈ gtb := gtb_t5 (i := 190) rfl (by decide +kernel)
set_option maxRecDepth 100000 in
theorem gw704 : Jvm.Cond.instanceMethod ⟨"LeftAnswers$Sentence", "readCond", "(LLeftAnswers$Tape;LLeftAnswers$Duchy;I)Z"⟩ ∈ gtb := gtb_t5 (i := 189) rfl (by decide +kernel)
set_option maxRecDepth 100000 in
theorem gw705 : Jvm.Cond.fieldLink "LeftAnswers$Sentence" 51 "LeftAnswers$Tape" "kind" "I" ∈ gtb := gtb_t1 (i := 50) rfl (by decide +kernel)
set_option maxRecDepth 100000 in
theorem gw706 : Jvm.Cond.methodLink "LeftAnswers$Sentence" 54 ⟨"LeftAnswers$Tape", "refuse", "(I)Z"⟩ ∈ gtb := gtb_t5 (i := 205) rfl (by decide +kernel)
set_option maxRecDepth 100000 in
theorem gw707 : Jvm.Cond.fieldLink "LeftAnswers$Sentence" 117 "LeftAnswers$Tape" "number" "I" ∈ gtb := gtb_t1 (i := 60) rfl (by decide +kernel)
set_option maxRecDepth 100000 in
theorem gw708 : Jvm.Cond.methodLink "LeftAnswers$Sentence" 80 ⟨"LeftAnswers$Tape", "isMarkHere", "(C)Z"⟩ ∈ gtb := gtb_t5 (i := 199) rfl (by decide +kernel)
set_option maxRecDepth 100000 in
theorem gw709 : Jvm.Cond.selects "LeftAnswers$Tape" ⟨"LeftAnswers$Tape", "isMarkHere", "(C)Z"⟩ ⟨"LeftAnswers$Tape", "isMarkHere", "(C)Z"⟩ ∈ gtb := gtb_t3 (i := 139) rfl (by decide +kernel)
set_option maxRecDepth 100000 in
theorem gw710 : Jvm.Cond.code ⟨"LeftAnswers$Tape", "isMarkHere", "(C)Z"⟩ prog_12_method_13_code 2 (some .boolean) ∈ gtb := gtb_t3 (i := 140) rfl (by decide +kernel)
set_option maxRecDepth 100000 in
theorem gw711 : Jvm.Cond.instanceMethod ⟨"LeftAnswers$Tape", "isMarkHere", "(C)Z"⟩ ∈ gtb := gtb_t3 (i := 138) rfl (by decide +kernel)
set_option maxRecDepth 100000 in
theorem gw712 : Jvm.Cond.methodLink "LeftAnswers$Sentence" 120 ⟨"LeftAnswers$Tape", "takesNumber", "(II)Z"⟩ ∈ gtb := gtb_t5 (i := 223) rfl (by decide +kernel)
set_option maxRecDepth 100000 in
theorem gw713 : Jvm.Cond.fieldLink "LeftAnswers$Sentence" 124 "LeftAnswers$Tape" "taken" "I" ∈ gtb := gtb_t1 (i := 64) rfl (by decide +kernel)
set_option maxRecDepth 100000 in
theorem gw714 : Jvm.Cond.methodLink "LeftAnswers$Sentence" 84 ⟨"LeftAnswers$Sentence", "beginsOne", "(LLeftAnswers$Word;)Z"⟩ ∈ gtb := gtb_t5 (i := 200) rfl (by decide +kernel)
set_option maxRecDepth 100000 in
theorem gw715 : Jvm.Cond.code ⟨"LeftAnswers$Sentence", "beginsOne", "(LLeftAnswers$Word;)Z"⟩ prog_10_method_8_code 1 (some .boolean) ∈ gtb := gtb_t5 (i := 202) rfl (by decide +kernel)
set_option maxRecDepth 100000 in
theorem gw716 : Jvm.Cond.static ⟨"LeftAnswers$Sentence", "beginsOne", "(LLeftAnswers$Word;)Z"⟩ ∈ gtb := gtb_t5 (i := 201) rfl (by decide +kernel)
set_option maxRecDepth 100000 in
theorem gw717 : Jvm.Cond.methodLink "LeftAnswers$Sentence" 88 ⟨"LeftAnswers$Tape", "takesMark", "(C)Z"⟩ ∈ gtb := gtb_t5 (i := 207) rfl (by decide +kernel)
set_option maxRecDepth 100000 in
theorem gw718 : Jvm.Cond.methodLink "LeftAnswers$Sentence" 100 ⟨"LeftAnswers$Sentence", "readTo", "(LLeftAnswers$Tape;LLeftAnswers$Duchy;)Z"⟩ ∈ gtb := gtb_t5 (i := 212) rfl (by decide +kernel)
set_option maxRecDepth 100000 in
theorem gw719 : Jvm.Cond.selects "LeftAnswers$Sentence" ⟨"LeftAnswers$Sentence", "readTo", "(LLeftAnswers$Tape;LLeftAnswers$Duchy;)Z"⟩ ⟨"LeftAnswers$Sentence", "readTo", "(LLeftAnswers$Tape;LLeftAnswers$Duchy;)Z"⟩ ∈ gtb := gtb_in (i := 43) (by decide +kernel) (by decide +kernel)
set_option maxRecDepth 100000 in
theorem gw720 : Jvm.Cond.code ⟨"LeftAnswers$Sentence", "readTo", "(LLeftAnswers$Tape;LLeftAnswers$Duchy;)Z"⟩ prog_10_method_9_code 4 (some .boolean) ∈ gtb := gtb_t5 (i := 215) rfl (by decide +kernel)
set_option maxRecDepth 100000 in
theorem gw721 : Jvm.Cond.instanceMethod ⟨"LeftAnswers$Sentence", "readTo", "(LLeftAnswers$Tape;LLeftAnswers$Duchy;)Z"⟩ ∈ gtb := gtb_t5 (i := 214) rfl (by decide +kernel)
set_option maxRecDepth 100000 in
theorem gw722 : Jvm.Cond.methodLink "LeftAnswers$Sentence" 104 ⟨"LeftAnswers$Sentence", "readMeasure", "(LLeftAnswers$Tape;LLeftAnswers$Word;)Z"⟩ ∈ gtb := gtb_t5 (i := 219) rfl (by decide +kernel)
set_option maxRecDepth 100000 in
theorem gw723 : Jvm.Cond.selects "LeftAnswers$Sentence" ⟨"LeftAnswers$Sentence", "readMeasure", "(LLeftAnswers$Tape;LLeftAnswers$Word;)Z"⟩ ⟨"LeftAnswers$Sentence", "readMeasure", "(LLeftAnswers$Tape;LLeftAnswers$Word;)Z"⟩ ∈ gtb := gtb_in (i := 44) (by decide +kernel) (by decide +kernel)
set_option maxRecDepth 100000 in
theorem gw724 : Jvm.Cond.code ⟨"LeftAnswers$Sentence", "readMeasure", "(LLeftAnswers$Tape;LLeftAnswers$Word;)Z"⟩ prog_10_method_10_code 4 (some .boolean) ∈ gtb := gtb_t5 (i := 222) rfl (by decide +kernel)
set_option maxRecDepth 100000 in
theorem gw725 : Jvm.Cond.instanceMethod ⟨"LeftAnswers$Sentence", "readMeasure", "(LLeftAnswers$Tape;LLeftAnswers$Word;)Z"⟩ ∈ gtb := gtb_t5 (i := 221) rfl (by decide +kernel)
set_option maxRecDepth 100000 in
theorem gw726 : Jvm.Cond.methodLink "LeftAnswers$Sentence" 108 ⟨"LeftAnswers$Duchy", "personHere", "(LLeftAnswers$Tape;)I"⟩ ∈ gtb := gtb_t5 (i := 216) rfl (by decide +kernel)
set_option maxRecDepth 100000 in
theorem gw727 : Jvm.Cond.fieldLink "LeftAnswers$Sentence" 114 "LeftAnswers$Word" "TO" "LLeftAnswers$Word;" ∈ gtb := gtb_t5 (i := 217) rfl (by decide +kernel)
set_option maxRecDepth 100000 in
theorem gw728 : Jvm.Cond.methodLink "LeftAnswers$Sentence" 127 ⟨"LeftAnswers$Duchy", "allPersonBits", "()I"⟩ ∈ gtb := gtb_t5 (i := 236) rfl (by decide +kernel)
set_option maxRecDepth 100000 in
theorem gw729 : Jvm.Cond.fieldLink "LeftAnswers$Sentence" 130 "LeftAnswers$Word" "NOT" "LLeftAnswers$Word;" ∈ gtb := gtb_t5 (i := 237) rfl (by decide +kernel)
set_option maxRecDepth 100000 in
theorem gw730 : Jvm.Cond.methodLink "LeftAnswers$Sentence" 133 ⟨"LeftAnswers$Sentence", "bitsOf", "(ILLeftAnswers$Duchy;LLeftAnswers$Life;)I"⟩ ∈ gtb := gtb_t5 (i := 239) rfl (by decide +kernel)
set_option maxRecDepth 100000 in
theorem gw731 : Jvm.Cond.selects "LeftAnswers$Sentence" ⟨"LeftAnswers$Sentence", "bitsOf", "(ILLeftAnswers$Duchy;LLeftAnswers$Life;)I"⟩ ⟨"LeftAnswers$Sentence", "bitsOf", "(ILLeftAnswers$Duchy;LLeftAnswers$Life;)I"⟩ ∈ gtb := gtb_in (i := 45) (by decide +kernel) (by decide +kernel)
set_option maxRecDepth 100000 in
theorem gw732 : Jvm.Cond.code ⟨"LeftAnswers$Sentence", "bitsOf", "(ILLeftAnswers$Duchy;LLeftAnswers$Life;)I"⟩ prog_10_method_13_code 4 (some .int) ∈ gtb := gtb_t6 (i := 2) rfl (by decide +kernel)
set_option maxRecDepth 100000 in
theorem gw733 : Jvm.Cond.instanceMethod ⟨"LeftAnswers$Sentence", "bitsOf", "(ILLeftAnswers$Duchy;LLeftAnswers$Life;)I"⟩ ∈ gtb := gtb_t6 (i := 1) rfl (by decide +kernel)
set_option maxRecDepth 100000 in
theorem gw734 : Jvm.Cond.methodLink "LeftAnswers$Slip" 3 ⟨"java/lang/Object", "<init>", "()V"⟩ ∈ gtb := gtb_t2 (i := 153) rfl (by decide +kernel)
set_option maxRecDepth 100000 in
theorem gw735 : Jvm.Cond.arrayClass .byte ∈ gtb := gtb_t1 (i := 94) rfl (by decide +kernel)
set_option maxRecDepth 100000 in
theorem gw736 : Jvm.Cond.fieldLink "LeftAnswers$Slip" 11 "LeftAnswers$Slip" "bytes" "[B" ∈ gtb := gtb_t2 (i := 154) rfl (by decide +kernel)
set_option maxRecDepth 100000 in
theorem gw737 : Jvm.Cond.constantLong "LeftAnswers$Slip" 76 31 ∈ gtb := gtb_t5 (i := 31) rfl (by decide +kernel)
set_option maxRecDepth 100000 in
theorem gw738 : Jvm.Cond.methodLink "LeftAnswers$Slip" 73 ⟨"LeftAnswers$Slip", "putSign", "(I)V"⟩ ∈ gtb := gtb_t5 (i := 32) rfl (by decide +kernel)
set_option maxRecDepth 100000 in
theorem gw739 : Jvm.Cond.selects "LeftAnswers$Slip" ⟨"LeftAnswers$Slip", "putSign", "(I)V"⟩ ⟨"LeftAnswers$Slip", "putSign", "(I)V"⟩ ∈ gtb := gtb_in (i := 29) (by decide +kernel) (by decide +kernel)
set_option maxRecDepth 100000 in
theorem gw740 : Jvm.Cond.code ⟨"LeftAnswers$Slip", "putSign", "(I)V"⟩ prog_11_method_3_code 2 none ∈ gtb := gtb_t5 (i := 35) rfl (by decide +kernel)
set_option maxRecDepth 100000 in
theorem gw741 : Jvm.Cond.instanceMethod ⟨"LeftAnswers$Slip", "putSign", "(I)V"⟩ ∈ gtb := gtb_t5 (i := 34) rfl (by decide +kernel)
set_option maxRecDepth 100000 in
theorem gw742 : Jvm.Cond.fieldLink "LeftAnswers$Slip" 15 "LeftAnswers$Slip" "length" "I" ∈ gtb := gtb_t2 (i := 156) rfl (by decide +kernel)
set_option maxRecDepth 100000 in
theorem gw743 : Jvm.Cond.methodLink "LeftAnswers$Slip" 64 ⟨"java/lang/String", "length", "()I"⟩ ∈ gtb := gtb_t5 (i := 41) rfl (by decide +kernel)
set_option maxRecDepth 100000 in
theorem gw744 : Jvm.Cond.methodLink "LeftAnswers$Slip" 69 ⟨"java/lang/String", "charAt", "(I)C"⟩ ∈ gtb := gtb_t5 (i := 51) rfl (by decide +kernel)
set_option maxRecDepth 100000 in
theorem gw745 : Jvm.Cond.fieldLink "LeftAnswers$Slip" 19 "LeftAnswers$Duchy" "personNames" "[J" ∈ gtb := gtb_t1 (i := 126) rfl (by decide +kernel)
set_option maxRecDepth 100000 in
theorem gw746 : Jvm.Cond.methodLink "LeftAnswers$Slip" 25 ⟨"LeftAnswers$Slip", "putName", "(J)V"⟩ ∈ gtb := gtb_t5 (i := 27) rfl (by decide +kernel)
set_option maxRecDepth 100000 in
theorem gw747 : Jvm.Cond.selects "LeftAnswers$Slip" ⟨"LeftAnswers$Slip", "putName", "(J)V"⟩ ⟨"LeftAnswers$Slip", "putName", "(J)V"⟩ ∈ gtb := gtb_in (i := 28) (by decide +kernel) (by decide +kernel)
set_option maxRecDepth 100000 in
theorem gw748 : Jvm.Cond.code ⟨"LeftAnswers$Slip", "putName", "(J)V"⟩ prog_11_method_5_code 5 none ∈ gtb := gtb_t5 (i := 30) rfl (by decide +kernel)
set_option maxRecDepth 100000 in
theorem gw749 : Jvm.Cond.instanceMethod ⟨"LeftAnswers$Slip", "putName", "(J)V"⟩ ∈ gtb := gtb_t5 (i := 29) rfl (by decide +kernel)
