set_option maxRecDepth 100000 in
theorem gw0 : Jvm.Cond.methodLink "LeftAnswers" 1 ⟨"java/lang/Object", "<init>", "()V"⟩ ∈ gtb := gtb_in (i := 156) (by decide +kernel) (by decide +kernel)
set_option maxRecDepth 100000 in
theorem gw1 : Jvm.Cond.instanceMethod ⟨"java/lang/Object", "<init>", "()V"⟩ ∈ gtb := gtb_in (i := 157) (by decide +kernel) (by decide +kernel)
set_option maxRecDepth 100000 in
theorem gw2 : Jvm.Cond.code ⟨"java/lang/Object", "<init>", "()V"⟩ object_method_1_code 1 none ∈ gtb := gtb_in (i := 158) (by decide +kernel) (by decide +kernel)
set_option maxRecDepth 100000 in
theorem gw3 : Jvm.Cond.classLink "LeftAnswers" 7 "LeftAnswers$Tape" ∈ gtb := gtb_in (i := 159) (by decide +kernel) (by decide +kernel)
set_option maxRecDepth 100000 in
theorem gw4 : Jvm.Cond.instantiable "LeftAnswers$Tape" 12 ∈ gtb := gtb_in (i := 160) (by decide +kernel) (by decide +kernel)
set_option maxRecDepth 100000 in
theorem gw5 : Jvm.Cond.initialized "LeftAnswers$Tape" ∈ gtb := gtb_in (i := 126) (by decide +kernel) (by decide +kernel)
set_option maxRecDepth 100000 in
theorem gw6 : Jvm.Cond.methodLink "LeftAnswers" 9 ⟨"LeftAnswers$Tape", "<init>", "()V"⟩ ∈ gtb := gtb_in (i := 161) (by decide +kernel) (by decide +kernel)
set_option maxRecDepth 100000 in
theorem gw7 : Jvm.Cond.code ⟨"LeftAnswers$Tape", "<init>", "()V"⟩ prog_12_method_1_code 1 none ∈ gtb := gtb_in (i := 163) (by decide +kernel) (by decide +kernel)
set_option maxRecDepth 100000 in
theorem gw8 : Jvm.Cond.instanceMethod ⟨"LeftAnswers$Tape", "<init>", "()V"⟩ ∈ gtb := gtb_in (i := 162) (by decide +kernel) (by decide +kernel)
set_option maxRecDepth 100000 in
theorem gw9 : Jvm.Cond.fieldLink "LeftAnswers" 10 "LeftAnswers" "tape" "LLeftAnswers$Tape;" ∈ gtb := gtb_in (i := 554) (by decide +kernel) (by decide +kernel)
set_option maxRecDepth 100000 in
theorem gw10 : Jvm.Cond.classLink "LeftAnswers" 16 "LeftAnswers$Duchy" ∈ gtb := gtb_in (i := 219) (by decide +kernel) (by decide +kernel)
set_option maxRecDepth 100000 in
theorem gw11 : Jvm.Cond.instantiable "LeftAnswers$Duchy" 16 ∈ gtb := gtb_in (i := 220) (by decide +kernel) (by decide +kernel)
set_option maxRecDepth 100000 in
theorem gw12 : Jvm.Cond.initialized "LeftAnswers$Duchy" ∈ gtb := gtb_in (i := 129) (by decide +kernel) (by decide +kernel)
set_option maxRecDepth 100000 in
theorem gw13 : Jvm.Cond.methodLink "LeftAnswers" 18 ⟨"LeftAnswers$Duchy", "<init>", "()V"⟩ ∈ gtb := gtb_in (i := 221) (by decide +kernel) (by decide +kernel)
set_option maxRecDepth 100000 in
theorem gw14 : Jvm.Cond.code ⟨"LeftAnswers$Duchy", "<init>", "()V"⟩ prog_4_method_1_code 1 none ∈ gtb := gtb_in (i := 223) (by decide +kernel) (by decide +kernel)
set_option maxRecDepth 100000 in
theorem gw15 : Jvm.Cond.instanceMethod ⟨"LeftAnswers$Duchy", "<init>", "()V"⟩ ∈ gtb := gtb_in (i := 222) (by decide +kernel) (by decide +kernel)
set_option maxRecDepth 100000 in
theorem gw16 : Jvm.Cond.fieldLink "LeftAnswers" 19 "LeftAnswers" "duchy" "LLeftAnswers$Duchy;" ∈ gtb := gtb_in (i := 555) (by decide +kernel) (by decide +kernel)
set_option maxRecDepth 100000 in
theorem gw17 : Jvm.Cond.fieldLink "LeftAnswers" 23 "LeftAnswers" "spareDuchy" "LLeftAnswers$Duchy;" ∈ gtb := gtb_in (i := 556) (by decide +kernel) (by decide +kernel)
set_option maxRecDepth 100000 in
theorem gw18 : Jvm.Cond.classLink "LeftAnswers" 26 "LeftAnswers$Life" ∈ gtb := gtb_in (i := 301) (by decide +kernel) (by decide +kernel)
set_option maxRecDepth 100000 in
theorem gw19 : Jvm.Cond.instantiable "LeftAnswers$Life" 12 ∈ gtb := gtb_in (i := 302) (by decide +kernel) (by decide +kernel)
set_option maxRecDepth 100000 in
theorem gw20 : Jvm.Cond.initialized "LeftAnswers$Life" ∈ gtb := gtb_in (i := 130) (by decide +kernel) (by decide +kernel)
set_option maxRecDepth 100000 in
theorem gw21 : Jvm.Cond.methodLink "LeftAnswers" 28 ⟨"LeftAnswers$Life", "<init>", "()V"⟩ ∈ gtb := gtb_in (i := 303) (by decide +kernel) (by decide +kernel)
set_option maxRecDepth 100000 in
theorem gw22 : Jvm.Cond.code ⟨"LeftAnswers$Life", "<init>", "()V"⟩ prog_6_method_1_code 1 none ∈ gtb := gtb_in (i := 305) (by decide +kernel) (by decide +kernel)
set_option maxRecDepth 100000 in
theorem gw23 : Jvm.Cond.instanceMethod ⟨"LeftAnswers$Life", "<init>", "()V"⟩ ∈ gtb := gtb_in (i := 304) (by decide +kernel) (by decide +kernel)
set_option maxRecDepth 100000 in
theorem gw24 : Jvm.Cond.fieldLink "LeftAnswers" 29 "LeftAnswers" "life" "LLeftAnswers$Life;" ∈ gtb := gtb_in (i := 557) (by decide +kernel) (by decide +kernel)
set_option maxRecDepth 100000 in
theorem gw25 : Jvm.Cond.fieldLink "LeftAnswers" 33 "LeftAnswers" "trial" "LLeftAnswers$Life;" ∈ gtb := gtb_in (i := 558) (by decide +kernel) (by decide +kernel)
set_option maxRecDepth 100000 in
theorem gw26 : Jvm.Cond.classLink "LeftAnswers" 36 "LeftAnswers$Past" ∈ gtb := gtb_in (i := 369) (by decide +kernel) (by decide +kernel)
set_option maxRecDepth 100000 in
theorem gw27 : Jvm.Cond.instantiable "LeftAnswers$Past" 3 ∈ gtb := gtb_in (i := 370) (by decide +kernel) (by decide +kernel)
set_option maxRecDepth 100000 in
theorem gw28 : Jvm.Cond.initialized "LeftAnswers$Past" ∈ gtb := gtb_in (i := 131) (by decide +kernel) (by decide +kernel)
set_option maxRecDepth 100000 in
theorem gw29 : Jvm.Cond.methodLink "LeftAnswers" 38 ⟨"LeftAnswers$Past", "<init>", "()V"⟩ ∈ gtb := gtb_in (i := 371) (by decide +kernel) (by decide +kernel)
set_option maxRecDepth 100000 in
theorem gw30 : Jvm.Cond.code ⟨"LeftAnswers$Past", "<init>", "()V"⟩ prog_9_method_1_code 2 none ∈ gtb := gtb_in (i := 373) (by decide +kernel) (by decide +kernel)
set_option maxRecDepth 100000 in
theorem gw31 : Jvm.Cond.instanceMethod ⟨"LeftAnswers$Past", "<init>", "()V"⟩ ∈ gtb := gtb_in (i := 372) (by decide +kernel) (by decide +kernel)
set_option maxRecDepth 100000 in
theorem gw32 : Jvm.Cond.fieldLink "LeftAnswers" 39 "LeftAnswers" "past" "LLeftAnswers$Past;" ∈ gtb := gtb_in (i := 559) (by decide +kernel) (by decide +kernel)
set_option maxRecDepth 100000 in
theorem gw33 : Jvm.Cond.classLink "LeftAnswers" 43 "LeftAnswers$Book" ∈ gtb := gtb_in (i := 388) (by decide +kernel) (by decide +kernel)
set_option maxRecDepth 100000 in
theorem gw34 : Jvm.Cond.instantiable "LeftAnswers$Book" 11 ∈ gtb := gtb_in (i := 389) (by decide +kernel) (by decide +kernel)
set_option maxRecDepth 100000 in
theorem gw35 : Jvm.Cond.initialized "LeftAnswers$Book" ∈ gtb := gtb_in (i := 132) (by decide +kernel) (by decide +kernel)
set_option maxRecDepth 100000 in
theorem gw36 : Jvm.Cond.methodLink "LeftAnswers" 45 ⟨"LeftAnswers$Book", "<init>", "()V"⟩ ∈ gtb := gtb_in (i := 390) (by decide +kernel) (by decide +kernel)
set_option maxRecDepth 100000 in
theorem gw37 : Jvm.Cond.code ⟨"LeftAnswers$Book", "<init>", "()V"⟩ prog_3_method_1_code 1 none ∈ gtb := gtb_in (i := 392) (by decide +kernel) (by decide +kernel)
set_option maxRecDepth 100000 in
theorem gw38 : Jvm.Cond.instanceMethod ⟨"LeftAnswers$Book", "<init>", "()V"⟩ ∈ gtb := gtb_in (i := 391) (by decide +kernel) (by decide +kernel)
set_option maxRecDepth 100000 in
theorem gw39 : Jvm.Cond.fieldLink "LeftAnswers" 46 "LeftAnswers" "book" "LLeftAnswers$Book;" ∈ gtb := gtb_in (i := 560) (by decide +kernel) (by decide +kernel)
set_option maxRecDepth 100000 in
theorem gw40 : Jvm.Cond.classLink "LeftAnswers" 50 "LeftAnswers$Sentence" ∈ gtb := gtb_in (i := 434) (by decide +kernel) (by decide +kernel)
set_option maxRecDepth 100000 in
theorem gw41 : Jvm.Cond.instantiable "LeftAnswers$Sentence" 6 ∈ gtb := gtb_in (i := 435) (by decide +kernel) (by decide +kernel)
set_option maxRecDepth 100000 in
theorem gw42 : Jvm.Cond.initialized "LeftAnswers$Sentence" ∈ gtb := gtb_in (i := 133) (by decide +kernel) (by decide +kernel)
set_option maxRecDepth 100000 in
theorem gw43 : Jvm.Cond.methodLink "LeftAnswers" 52 ⟨"LeftAnswers$Sentence", "<init>", "()V"⟩ ∈ gtb := gtb_in (i := 436) (by decide +kernel) (by decide +kernel)
set_option maxRecDepth 100000 in
theorem gw44 : Jvm.Cond.code ⟨"LeftAnswers$Sentence", "<init>", "()V"⟩ prog_10_method_1_code 2 none ∈ gtb := gtb_in (i := 438) (by decide +kernel) (by decide +kernel)
set_option maxRecDepth 100000 in
theorem gw45 : Jvm.Cond.instanceMethod ⟨"LeftAnswers$Sentence", "<init>", "()V"⟩ ∈ gtb := gtb_in (i := 437) (by decide +kernel) (by decide +kernel)
set_option maxRecDepth 100000 in
theorem gw46 : Jvm.Cond.fieldLink "LeftAnswers" 53 "LeftAnswers" "sentence" "LLeftAnswers$Sentence;" ∈ gtb := gtb_in (i := 561) (by decide +kernel) (by decide +kernel)
set_option maxRecDepth 100000 in
theorem gw47 : Jvm.Cond.fieldLink "LeftAnswers" 57 "LeftAnswers" "spareSentence" "LLeftAnswers$Sentence;" ∈ gtb := gtb_in (i := 562) (by decide +kernel) (by decide +kernel)
set_option maxRecDepth 100000 in
theorem gw48 : Jvm.Cond.classLink "LeftAnswers" 60 "LeftAnswers$Parted" ∈ gtb := gtb_in (i := 463) (by decide +kernel) (by decide +kernel)
set_option maxRecDepth 100000 in
theorem gw49 : Jvm.Cond.instantiable "LeftAnswers$Parted" 6 ∈ gtb := gtb_in (i := 464) (by decide +kernel) (by decide +kernel)
set_option maxRecDepth 100000 in
theorem gw50 : Jvm.Cond.initialized "LeftAnswers$Parted" ∈ gtb := gtb_in (i := 134) (by decide +kernel) (by decide +kernel)
set_option maxRecDepth 100000 in
theorem gw51 : Jvm.Cond.methodLink "LeftAnswers" 62 ⟨"LeftAnswers$Parted", "<init>", "()V"⟩ ∈ gtb := gtb_in (i := 465) (by decide +kernel) (by decide +kernel)
set_option maxRecDepth 100000 in
theorem gw52 : Jvm.Cond.code ⟨"LeftAnswers$Parted", "<init>", "()V"⟩ prog_8_method_1_code 1 none ∈ gtb := gtb_in (i := 467) (by decide +kernel) (by decide +kernel)
set_option maxRecDepth 100000 in
theorem gw53 : Jvm.Cond.instanceMethod ⟨"LeftAnswers$Parted", "<init>", "()V"⟩ ∈ gtb := gtb_in (i := 466) (by decide +kernel) (by decide +kernel)
set_option maxRecDepth 100000 in
theorem gw54 : Jvm.Cond.fieldLink "LeftAnswers" 63 "LeftAnswers" "parted" "LLeftAnswers$Parted;" ∈ gtb := gtb_in (i := 563) (by decide +kernel) (by decide +kernel)
set_option maxRecDepth 100000 in
theorem gw55 : Jvm.Cond.classLink "LeftAnswers" 67 "LeftAnswers$Pairs" ∈ gtb := gtb_in (i := 489) (by decide +kernel) (by decide +kernel)
set_option maxRecDepth 100000 in
theorem gw56 : Jvm.Cond.instantiable "LeftAnswers$Pairs" 5 ∈ gtb := gtb_in (i := 490) (by decide +kernel) (by decide +kernel)
set_option maxRecDepth 100000 in
theorem gw57 : Jvm.Cond.initialized "LeftAnswers$Pairs" ∈ gtb := gtb_in (i := 135) (by decide +kernel) (by decide +kernel)
set_option maxRecDepth 100000 in
theorem gw58 : Jvm.Cond.methodLink "LeftAnswers" 69 ⟨"LeftAnswers$Pairs", "<init>", "()V"⟩ ∈ gtb := gtb_in (i := 491) (by decide +kernel) (by decide +kernel)
set_option maxRecDepth 100000 in
theorem gw59 : Jvm.Cond.code ⟨"LeftAnswers$Pairs", "<init>", "()V"⟩ prog_7_method_1_code 2 none ∈ gtb := gtb_in (i := 493) (by decide +kernel) (by decide +kernel)
set_option maxRecDepth 100000 in
theorem gw60 : Jvm.Cond.instanceMethod ⟨"LeftAnswers$Pairs", "<init>", "()V"⟩ ∈ gtb := gtb_in (i := 492) (by decide +kernel) (by decide +kernel)
set_option maxRecDepth 100000 in
theorem gw61 : Jvm.Cond.fieldLink "LeftAnswers" 70 "LeftAnswers" "pairs" "LLeftAnswers$Pairs;" ∈ gtb := gtb_in (i := 564) (by decide +kernel) (by decide +kernel)
set_option maxRecDepth 100000 in
theorem gw62 : Jvm.Cond.classLink "LeftAnswers" 74 "LeftAnswers$Slip" ∈ gtb := gtb_in (i := 512) (by decide +kernel) (by decide +kernel)
set_option maxRecDepth 100000 in
theorem gw63 : Jvm.Cond.instantiable "LeftAnswers$Slip" 2 ∈ gtb := gtb_in (i := 513) (by decide +kernel) (by decide +kernel)
set_option maxRecDepth 100000 in
theorem gw64 : Jvm.Cond.initialized "LeftAnswers$Slip" ∈ gtb := gtb_in (i := 136) (by decide +kernel) (by decide +kernel)
set_option maxRecDepth 100000 in
theorem gw65 : Jvm.Cond.methodLink "LeftAnswers" 76 ⟨"LeftAnswers$Slip", "<init>", "()V"⟩ ∈ gtb := gtb_in (i := 514) (by decide +kernel) (by decide +kernel)
set_option maxRecDepth 100000 in
theorem gw66 : Jvm.Cond.code ⟨"LeftAnswers$Slip", "<init>", "()V"⟩ prog_11_method_1_code 1 none ∈ gtb := gtb_in (i := 516) (by decide +kernel) (by decide +kernel)
set_option maxRecDepth 100000 in
theorem gw67 : Jvm.Cond.instanceMethod ⟨"LeftAnswers$Slip", "<init>", "()V"⟩ ∈ gtb := gtb_in (i := 515) (by decide +kernel) (by decide +kernel)
set_option maxRecDepth 100000 in
theorem gw68 : Jvm.Cond.fieldLink "LeftAnswers" 77 "LeftAnswers" "slip" "LLeftAnswers$Slip;" ∈ gtb := gtb_in (i := 565) (by decide +kernel) (by decide +kernel)
set_option maxRecDepth 100000 in
theorem gw69 : Jvm.Cond.classLink "LeftAnswers" 81 "LeftAnswers$Image" ∈ gtb := gtb_in (i := 527) (by decide +kernel) (by decide +kernel)
set_option maxRecDepth 100000 in
theorem gw70 : Jvm.Cond.instantiable "LeftAnswers$Image" 4 ∈ gtb := gtb_in (i := 529) (by decide +kernel) (by decide +kernel)
set_option maxRecDepth 100000 in
theorem gw71 : Jvm.Cond.initialized "LeftAnswers$Image" ∈ gtb := gtb_in (i := 137) (by decide +kernel) (by decide +kernel)
set_option maxRecDepth 100000 in
theorem gw72 : Jvm.Cond.methodLink "LeftAnswers" 83 ⟨"LeftAnswers$Image", "<init>", "()V"⟩ ∈ gtb := gtb_in (i := 530) (by decide +kernel) (by decide +kernel)
set_option maxRecDepth 100000 in
theorem gw73 : Jvm.Cond.code ⟨"LeftAnswers$Image", "<init>", "()V"⟩ prog_5_method_1_code 1 none ∈ gtb := gtb_in (i := 532) (by decide +kernel) (by decide +kernel)
set_option maxRecDepth 100000 in
theorem gw74 : Jvm.Cond.instanceMethod ⟨"LeftAnswers$Image", "<init>", "()V"⟩ ∈ gtb := gtb_in (i := 531) (by decide +kernel) (by decide +kernel)
set_option maxRecDepth 100000 in
theorem gw75 : Jvm.Cond.fieldLink "LeftAnswers" 84 "LeftAnswers" "images" "[LLeftAnswers$Image;" ∈ gtb := gtb_in (i := 566) (by decide +kernel) (by decide +kernel)
set_option maxRecDepth 100000 in
theorem gw76 : Jvm.Cond.fieldLink "LeftAnswers" 88 "LeftAnswers" "latestFault" "I" ∈ gtb := gtb_in (i := 567) (by decide +kernel) (by decide +kernel)
set_option maxRecDepth 100000 in
theorem gw77 : Jvm.Cond.fieldLink "LeftAnswers" 92 "LeftAnswers" "fitBits" "I" ∈ gtb := gtb_in (i := 568) (by decide +kernel) (by decide +kernel)
set_option maxRecDepth 100000 in
theorem gw78 : Jvm.Cond.fieldLink "LeftAnswers" 95 "LeftAnswers" "testDeed" "I" ∈ gtb := gtb_in (i := 569) (by decide +kernel) (by decide +kernel)
set_option maxRecDepth 100000 in
theorem gw79 : Jvm.Cond.fieldLink "LeftAnswers" 98 "LeftAnswers" "guardBits" "I" ∈ gtb := gtb_in (i := 570) (by decide +kernel) (by decide +kernel)
set_option maxRecDepth 100000 in
theorem gw80 : Jvm.Cond.methodLink "LeftAnswers" 130 ⟨"LeftAnswers", "isPerson", "(I)Z"⟩ ∈ gtb := gtb_in (i := 766) (by decide +kernel) (by decide +kernel)
set_option maxRecDepth 100000 in
theorem gw81 : Jvm.Cond.selects "LeftAnswers" ⟨"LeftAnswers", "isPerson", "(I)Z"⟩ ⟨"LeftAnswers", "isPerson", "(I)Z"⟩ ∈ gtb := gtb_in (i := 12) (by decide +kernel) (by decide +kernel)
set_option maxRecDepth 100000 in
theorem gw82 : Jvm.Cond.code ⟨"LeftAnswers", "isPerson", "(I)Z"⟩ prog_1_method_41_code 2 (some .boolean) ∈ gtb := gtb_in (i := 769) (by decide +kernel) (by decide +kernel)
set_option maxRecDepth 100000 in
theorem gw83 : Jvm.Cond.initialized "LeftAnswers" ∈ gtb := gtb_in (i := 125) (by decide +kernel) (by decide +kernel)
set_option maxRecDepth 100000 in
theorem gw84 : Jvm.Cond.instanceMethod ⟨"LeftAnswers", "isPerson", "(I)Z"⟩ ∈ gtb := gtb_in (i := 768) (by decide +kernel) (by decide +kernel)
set_option maxRecDepth 100000 in
theorem gw85 : Jvm.Cond.methodLink "LeftAnswers" 174 ⟨"LeftAnswers", "isDeed", "(I)Z"⟩ ∈ gtb := gtb_in (i := 781) (by decide +kernel) (by decide +kernel)
set_option maxRecDepth 100000 in
theorem gw86 : Jvm.Cond.selects "LeftAnswers" ⟨"LeftAnswers", "isDeed", "(I)Z"⟩ ⟨"LeftAnswers", "isDeed", "(I)Z"⟩ ∈ gtb := gtb_in (i := 13) (by decide +kernel) (by decide +kernel)
set_option maxRecDepth 100000 in
theorem gw87 : Jvm.Cond.code ⟨"LeftAnswers", "isDeed", "(I)Z"⟩ prog_1_method_42_code 2 (some .boolean) ∈ gtb := gtb_in (i := 784) (by decide +kernel) (by decide +kernel)
set_option maxRecDepth 100000 in
theorem gw88 : Jvm.Cond.instanceMethod ⟨"LeftAnswers", "isDeed", "(I)Z"⟩ ∈ gtb := gtb_in (i := 783) (by decide +kernel) (by decide +kernel)
set_option maxRecDepth 100000 in
theorem gw89 : Jvm.Cond.methodLink "LeftAnswers" 238 ⟨"LeftAnswers$Life", "ableBits", "(LLeftAnswers$Duchy;II)I"⟩ ∈ gtb := gtb_in (i := 936) (by decide +kernel) (by decide +kernel)
set_option maxRecDepth 100000 in
theorem gw90 : Jvm.Cond.selects "LeftAnswers$Life" ⟨"LeftAnswers$Life", "ableBits", "(LLeftAnswers$Duchy;II)I"⟩ ⟨"LeftAnswers$Life", "ableBits", "(LLeftAnswers$Duchy;II)I"⟩ ∈ gtb := gtb_in (i := 938) (by decide +kernel) (by decide +kernel)
set_option maxRecDepth 100000 in
theorem gw91 : Jvm.Cond.code ⟨"LeftAnswers$Life", "ableBits", "(LLeftAnswers$Duchy;II)I"⟩ prog_6_method_28_code 6 (some .int) ∈ gtb := gtb_in (i := 939) (by decide +kernel) (by decide +kernel)
set_option maxRecDepth 100000 in
theorem gw92 : Jvm.Cond.instanceMethod ⟨"LeftAnswers$Life", "ableBits", "(LLeftAnswers$Duchy;II)I"⟩ ∈ gtb := gtb_in (i := 937) (by decide +kernel) (by decide +kernel)
set_option maxRecDepth 100000 in
theorem gw93 : Jvm.Cond.methodLink "LeftAnswers" 370 ⟨"LeftAnswers$Life", "whyNot", "(LLeftAnswers$Duchy;IIII)I"⟩ ∈ gtb := gtb_in (i := 826) (by decide +kernel) (by decide +kernel)
set_option maxRecDepth 100000 in
theorem gw94 : Jvm.Cond.selects "LeftAnswers$Life" ⟨"LeftAnswers$Life", "whyNot", "(LLeftAnswers$Duchy;IIII)I"⟩ ⟨"LeftAnswers$Life", "whyNot", "(LLeftAnswers$Duchy;IIII)I"⟩ ∈ gtb := gtb_in (i := 828) (by decide +kernel) (by decide +kernel)
set_option maxRecDepth 100000 in
theorem gw95 : Jvm.Cond.code ⟨"LeftAnswers$Life", "whyNot", "(LLeftAnswers$Duchy;IIII)I"⟩ prog_6_method_14_code 6 (some .int) ∈ gtb := gtb_in (i := 829) (by decide +kernel) (by decide +kernel)
set_option maxRecDepth 100000 in
theorem gw96 : Jvm.Cond.instanceMethod ⟨"LeftAnswers$Life", "whyNot", "(LLeftAnswers$Duchy;IIII)I"⟩ ∈ gtb := gtb_in (i := 827) (by decide +kernel) (by decide +kernel)
set_option maxRecDepth 100000 in
theorem gw97 : Jvm.Cond.methodLink "LeftAnswers" 226 ⟨"LeftAnswers$Past", "keep", "(LLeftAnswers$Life;)V"⟩ ∈ gtb := gtb_in (i := 855) (by decide +kernel) (by decide +kernel)
set_option maxRecDepth 100000 in
theorem gw98 : Jvm.Cond.selects "LeftAnswers$Past" ⟨"LeftAnswers$Past", "keep", "(LLeftAnswers$Life;)V"⟩ ⟨"LeftAnswers$Past", "keep", "(LLeftAnswers$Life;)V"⟩ ∈ gtb := gtb_in (i := 857) (by decide +kernel) (by decide +kernel)
set_option maxRecDepth 100000 in
theorem gw99 : Jvm.Cond.code ⟨"LeftAnswers$Past", "keep", "(LLeftAnswers$Life;)V"⟩ prog_9_method_3_code 2 none ∈ gtb := gtb_in (i := 858) (by decide +kernel) (by decide +kernel)
set_option maxRecDepth 100000 in
theorem gw100 : Jvm.Cond.instanceMethod ⟨"LeftAnswers$Past", "keep", "(LLeftAnswers$Life;)V"⟩ ∈ gtb := gtb_in (i := 856) (by decide +kernel) (by decide +kernel)
set_option maxRecDepth 100000 in
theorem gw101 : Jvm.Cond.methodLink "LeftAnswers" 374 ⟨"LeftAnswers$Life", "perform", "(LLeftAnswers$Duchy;IIII)V"⟩ ∈ gtb := gtb_in (i := 866) (by decide +kernel) (by decide +kernel)
set_option maxRecDepth 100000 in
theorem gw102 : Jvm.Cond.selects "LeftAnswers$Life" ⟨"LeftAnswers$Life", "perform", "(LLeftAnswers$Duchy;IIII)V"⟩ ⟨"LeftAnswers$Life", "perform", "(LLeftAnswers$Duchy;IIII)V"⟩ ∈ gtb := gtb_in (i := 868) (by decide +kernel) (by decide +kernel)
set_option maxRecDepth 100000 in
theorem gw103 : Jvm.Cond.code ⟨"LeftAnswers$Life", "perform", "(LLeftAnswers$Duchy;IIII)V"⟩ prog_6_method_15_code 6 none ∈ gtb := gtb_in (i := 869) (by decide +kernel) (by decide +kernel)
set_option maxRecDepth 100000 in
theorem gw104 : Jvm.Cond.instanceMethod ⟨"LeftAnswers$Life", "perform", "(LLeftAnswers$Duchy;IIII)V"⟩ ∈ gtb := gtb_in (i := 867) (by decide +kernel) (by decide +kernel)
set_option maxRecDepth 100000 in
theorem gw105 : Jvm.Cond.methodLink "LeftAnswers" 214 ⟨"LeftAnswers", "act", "(IIII)I"⟩ ∈ gtb := gtb_in (i := 822) (by decide +kernel) (by decide +kernel)
set_option maxRecDepth 100000 in
theorem gw106 : Jvm.Cond.selects "LeftAnswers" ⟨"LeftAnswers", "act", "(IIII)I"⟩ ⟨"LeftAnswers", "act", "(IIII)I"⟩ ∈ gtb := gtb_in (i := 14) (by decide +kernel) (by decide +kernel)
set_option maxRecDepth 100000 in
theorem gw107 : Jvm.Cond.code ⟨"LeftAnswers", "act", "(IIII)I"⟩ prog_1_method_44_code 6 (some .int) ∈ gtb := gtb_in (i := 825) (by decide +kernel) (by decide +kernel)
set_option maxRecDepth 100000 in
theorem gw108 : Jvm.Cond.instanceMethod ⟨"LeftAnswers", "act", "(IIII)I"⟩ ∈ gtb := gtb_in (i := 824) (by decide +kernel) (by decide +kernel)
set_option maxRecDepth 100000 in
theorem gw109 : Jvm.Cond.methodLink "LeftAnswers" 290 ⟨"LeftAnswers$Pairs", "solve", "(LLeftAnswers$Duchy;LLeftAnswers$Life;)I"⟩ ∈ gtb := gtb_in (i := 1066) (by decide +kernel) (by decide +kernel)
set_option maxRecDepth 100000 in
theorem gw110 : Jvm.Cond.selects "LeftAnswers$Pairs" ⟨"LeftAnswers$Pairs", "solve", "(LLeftAnswers$Duchy;LLeftAnswers$Life;)I"⟩ ⟨"LeftAnswers$Pairs", "solve", "(LLeftAnswers$Duchy;LLeftAnswers$Life;)I"⟩ ∈ gtb := gtb_in (i := 1068) (by decide +kernel) (by decide +kernel)
set_option maxRecDepth 100000 in
theorem gw111 : Jvm.Cond.code ⟨"LeftAnswers$Pairs", "solve", "(LLeftAnswers$Duchy;LLeftAnswers$Life;)I"⟩ prog_7_method_2_code 7 (some .int) ∈ gtb := gtb_in (i := 1069) (by decide +kernel) (by decide +kernel)
set_option maxRecDepth 100000 in
theorem gw112 : Jvm.Cond.instanceMethod ⟨"LeftAnswers$Pairs", "solve", "(LLeftAnswers$Duchy;LLeftAnswers$Life;)I"⟩ ∈ gtb := gtb_in (i := 1067) (by decide +kernel) (by decide +kernel)
set_option maxRecDepth 100000 in
theorem gw113 : Jvm.Cond.fieldLink "LeftAnswers" 293 "LeftAnswers$Pairs" "partnerOf" "[I" ∈ gtb := gtb_in (i := 496) (by decide +kernel) (by decide +kernel)
set_option maxRecDepth 100000 in
theorem gw114 : Jvm.Cond.methodLink "LeftAnswers" 318 ⟨"LeftAnswers$Book", "readFrom", "(LLeftAnswers$Tape;LLeftAnswers$Duchy;)V"⟩ ∈ gtb := gtb_in (i := 1212) (by decide +kernel) (by decide +kernel)
set_option maxRecDepth 100000 in
theorem gw115 : Jvm.Cond.selects "LeftAnswers$Book" ⟨"LeftAnswers$Book", "readFrom", "(LLeftAnswers$Tape;LLeftAnswers$Duchy;)V"⟩ ⟨"LeftAnswers$Book", "readFrom", "(LLeftAnswers$Tape;LLeftAnswers$Duchy;)V"⟩ ∈ gtb := gtb_in (i := 1214) (by decide +kernel) (by decide +kernel)
set_option maxRecDepth 100000 in
theorem gw116 : Jvm.Cond.code ⟨"LeftAnswers$Book", "readFrom", "(LLeftAnswers$Tape;LLeftAnswers$Duchy;)V"⟩ prog_3_method_2_code 5 none ∈ gtb := gtb_in (i := 1215) (by decide +kernel) (by decide +kernel)
set_option maxRecDepth 100000 in
theorem gw117 : Jvm.Cond.instanceMethod ⟨"LeftAnswers$Book", "readFrom", "(LLeftAnswers$Tape;LLeftAnswers$Duchy;)V"⟩ ∈ gtb := gtb_in (i := 1213) (by decide +kernel) (by decide +kernel)
set_option maxRecDepth 100000 in
theorem gw118 : Jvm.Cond.methodLink "LeftAnswers" 112 ⟨"LeftAnswers", "takeFault", "()V"⟩ ∈ gtb := gtb_in (i := 745) (by decide +kernel) (by decide +kernel)
set_option maxRecDepth 100000 in
theorem gw119 : Jvm.Cond.selects "LeftAnswers" ⟨"LeftAnswers", "takeFault", "()V"⟩ ⟨"LeftAnswers", "takeFault", "()V"⟩ ∈ gtb := gtb_in (i := 11) (by decide +kernel) (by decide +kernel)
set_option maxRecDepth 100000 in
theorem gw120 : Jvm.Cond.code ⟨"LeftAnswers", "takeFault", "()V"⟩ prog_1_method_45_code 1 none ∈ gtb := gtb_in (i := 748) (by decide +kernel) (by decide +kernel)
set_option maxRecDepth 100000 in
theorem gw121 : Jvm.Cond.instanceMethod ⟨"LeftAnswers", "takeFault", "()V"⟩ ∈ gtb := gtb_in (i := 747) (by decide +kernel) (by decide +kernel)
set_option maxRecDepth 100000 in
theorem gw122 : Jvm.Cond.fieldLink "LeftAnswers" 115 "LeftAnswers$Tape" "faultPlace" "I" ∈ gtb := gtb_in (i := 192) (by decide +kernel) (by decide +kernel)
set_option maxRecDepth 100000 in
theorem gw123 : Jvm.Cond.methodLink "LeftAnswers" 315 ⟨"LeftAnswers$Life", "copyFrom", "(LLeftAnswers$Life;)V"⟩ ∈ gtb := gtb_in (i := 1207) (by decide +kernel) (by decide +kernel)
set_option maxRecDepth 100000 in
theorem gw124 : Jvm.Cond.selects "LeftAnswers$Life" ⟨"LeftAnswers$Life", "copyFrom", "(LLeftAnswers$Life;)V"⟩ ⟨"LeftAnswers$Life", "copyFrom", "(LLeftAnswers$Life;)V"⟩ ∈ gtb := gtb_in (i := 861) (by decide +kernel) (by decide +kernel)
set_option maxRecDepth 100000 in
theorem gw125 : Jvm.Cond.code ⟨"LeftAnswers$Life", "copyFrom", "(LLeftAnswers$Life;)V"⟩ prog_6_method_3_code 2 none ∈ gtb := gtb_in (i := 862) (by decide +kernel) (by decide +kernel)
set_option maxRecDepth 100000 in
theorem gw126 : Jvm.Cond.instanceMethod ⟨"LeftAnswers$Life", "copyFrom", "(LLeftAnswers$Life;)V"⟩ ∈ gtb := gtb_in (i := 860) (by decide +kernel) (by decide +kernel)
set_option maxRecDepth 100000 in
theorem gw127 : Jvm.Cond.methodLink "LeftAnswers" 321 ⟨"LeftAnswers$Book", "liveIn", "(LLeftAnswers$Life;LLeftAnswers$Duchy;)V"⟩ ∈ gtb := gtb_in (i := 1250) (by decide +kernel) (by decide +kernel)
set_option maxRecDepth 100000 in
theorem gw128 : Jvm.Cond.selects "LeftAnswers$Book" ⟨"LeftAnswers$Book", "liveIn", "(LLeftAnswers$Life;LLeftAnswers$Duchy;)V"⟩ ⟨"LeftAnswers$Book", "liveIn", "(LLeftAnswers$Life;LLeftAnswers$Duchy;)V"⟩ ∈ gtb := gtb_in (i := 1252) (by decide +kernel) (by decide +kernel)
set_option maxRecDepth 100000 in
theorem gw129 : Jvm.Cond.code ⟨"LeftAnswers$Book", "liveIn", "(LLeftAnswers$Life;LLeftAnswers$Duchy;)V"⟩ prog_3_method_8_code 5 none ∈ gtb := gtb_in (i := 1253) (by decide +kernel) (by decide +kernel)
set_option maxRecDepth 100000 in
theorem gw130 : Jvm.Cond.instanceMethod ⟨"LeftAnswers$Book", "liveIn", "(LLeftAnswers$Life;LLeftAnswers$Duchy;)V"⟩ ∈ gtb := gtb_in (i := 1251) (by decide +kernel) (by decide +kernel)
set_option maxRecDepth 100000 in
theorem gw131 : Jvm.Cond.fieldLink "LeftAnswers" 325 "LeftAnswers$Book" "wrongLine" "I" ∈ gtb := gtb_in (i := 402) (by decide +kernel) (by decide +kernel)
set_option maxRecDepth 100000 in
theorem gw132 : Jvm.Cond.fieldLink "LeftAnswers" 306 "LeftAnswers$Slip" "length" "I" ∈ gtb := gtb_in (i := 521) (by decide +kernel) (by decide +kernel)
set_option maxRecDepth 100000 in
theorem gw133 : Jvm.Cond.fieldLink "LeftAnswers" 307 "LeftAnswers$Slip" "bytes" "[B" ∈ gtb := gtb_in (i := 519) (by decide +kernel) (by decide +kernel)
set_option maxRecDepth 100000 in
theorem gw134 : Jvm.Cond.fieldLink "LeftAnswers" 299 "LeftAnswers$Duchy" "persons" "I" ∈ gtb := gtb_in (i := 233) (by decide +kernel) (by decide +kernel)
set_option maxRecDepth 100000 in
theorem gw135 : Jvm.Cond.fieldLink "LeftAnswers" 360 "LeftAnswers$Duchy" "deeds" "I" ∈ gtb := gtb_in (i := 236) (by decide +kernel) (by decide +kernel)
set_option maxRecDepth 100000 in
theorem gw136 : Jvm.Cond.fieldLink "LeftAnswers" 363 "LeftAnswers$Duchy" "law" "I" ∈ gtb := gtb_in (i := 239) (by decide +kernel) (by decide +kernel)
set_option maxRecDepth 100000 in
theorem gw137 : Jvm.Cond.fieldLink "LeftAnswers" 366 "LeftAnswers$Duchy" "cell" "I" ∈ gtb := gtb_in (i := 242) (by decide +kernel) (by decide +kernel)
set_option maxRecDepth 100000 in
theorem gw138 : Jvm.Cond.fieldLink "LeftAnswers" 368 "LeftAnswers$Duchy" "ideas" "I" ∈ gtb := gtb_in (i := 245) (by decide +kernel) (by decide +kernel)
set_option maxRecDepth 100000 in
theorem gw139 : Jvm.Cond.fieldLink "LeftAnswers" 101 "LeftAnswers$Tape" "length" "I" ∈ gtb := gtb_in (i := 168) (by decide +kernel) (by decide +kernel)
set_option maxRecDepth 100000 in
theorem gw140 : Jvm.Cond.methodLink "LeftAnswers" 218 ⟨"LeftAnswers$Life", "daysLeft", "()I"⟩ ∈ gtb := gtb_in (i := 921) (by decide +kernel) (by decide +kernel)
set_option maxRecDepth 100000 in
theorem gw141 : Jvm.Cond.selects "LeftAnswers$Life" ⟨"LeftAnswers$Life", "daysLeft", "()I"⟩ ⟨"LeftAnswers$Life", "daysLeft", "()I"⟩ ∈ gtb := gtb_in (i := 853) (by decide +kernel) (by decide +kernel)
set_option maxRecDepth 100000 in
theorem gw142 : Jvm.Cond.code ⟨"LeftAnswers$Life", "daysLeft", "()I"⟩ prog_6_method_13_code 1 (some .int) ∈ gtb := gtb_in (i := 854) (by decide +kernel) (by decide +kernel)
set_option maxRecDepth 100000 in
theorem gw143 : Jvm.Cond.instanceMethod ⟨"LeftAnswers$Life", "daysLeft", "()I"⟩ ∈ gtb := gtb_in (i := 852) (by decide +kernel) (by decide +kernel)
set_option maxRecDepth 100000 in
theorem gw144 : Jvm.Cond.methodLink "LeftAnswers" 221 ⟨"java/lang/Math", "min", "(II)I"⟩ ∈ gtb := gtb_in (i := 922) (by decide +kernel) (by decide +kernel)
set_option maxRecDepth 100000 in
theorem gw145 : Jvm.Cond.static ⟨"java/lang/Math", "min", "(II)I"⟩ ∈ gtb := gtb_in (i := 875) (by decide +kernel) (by decide +kernel)
set_option maxRecDepth 100000 in
theorem gw146 : Jvm.Cond.initialized "java/lang/Math" ∈ gtb := gtb_in (i := 145) (by decide +kernel) (by decide +kernel)
set_option maxRecDepth 100000 in
theorem gw147 : Jvm.Cond.code ⟨"java/lang/Math", "min", "(II)I"⟩ prog_22_method_69_code 2 (some .int) ∈ gtb := gtb_in (i := 876) (by decide +kernel) (by decide +kernel)
set_option maxRecDepth 100000 in
theorem gw148 : Jvm.Cond.methodLink "LeftAnswers" 230 ⟨"LeftAnswers$Life", "passDays", "(LLeftAnswers$Duchy;I)V"⟩ ∈ gtb := gtb_in (i := 923) (by decide +kernel) (by decide +kernel)
set_option maxRecDepth 100000 in
theorem gw149 : Jvm.Cond.selects "LeftAnswers$Life" ⟨"LeftAnswers$Life", "passDays", "(LLeftAnswers$Duchy;I)V"⟩ ⟨"LeftAnswers$Life", "passDays", "(LLeftAnswers$Duchy;I)V"⟩ ∈ gtb := gtb_in (i := 895) (by decide +kernel) (by decide +kernel)
