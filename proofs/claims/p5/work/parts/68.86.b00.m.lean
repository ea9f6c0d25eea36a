section
set_option maxRecDepth 100000 in
theorem gw0 : Jvm.Cond.methodLink "LeftAnswers" 1 ⟨"java/lang/Object", "<init>", "()V"⟩ ∈ gtb := gtb_t1 (i := 32) rfl (by decide +kernel)
set_option maxRecDepth 100000 in
theorem gw1 : Jvm.Cond.instanceMethod ⟨"java/lang/Object", "<init>", "()V"⟩ ∈ gtb := gtb_t1 (i := 33) rfl (by decide +kernel)
set_option maxRecDepth 100000 in
theorem gw2 : Jvm.Cond.code ⟨"java/lang/Object", "<init>", "()V"⟩ object_method_1_code 1 none ∈ gtb := gtb_t1 (i := 34) rfl (by decide +kernel)
set_option maxRecDepth 100000 in
theorem gw3 : Jvm.Cond.classLink "LeftAnswers" 7 "LeftAnswers$Tape" ∈ gtb := gtb_t1 (i := 35) rfl (by decide +kernel)
set_option maxRecDepth 100000 in
theorem gw4 : Jvm.Cond.instantiable "LeftAnswers$Tape" 12 ∈ gtb := gtb_t1 (i := 36) rfl (by decide +kernel)
set_option maxRecDepth 100000 in
theorem gw5 : Jvm.Cond.initialized "LeftAnswers$Tape" ∈ gtb := gtb_t1 (i := 2) rfl (by decide +kernel)
set_option maxRecDepth 100000 in
theorem gw6 : Jvm.Cond.methodLink "LeftAnswers" 9 ⟨"LeftAnswers$Tape", "<init>", "()V"⟩ ∈ gtb := gtb_t1 (i := 37) rfl (by decide +kernel)
set_option maxRecDepth 100000 in
theorem gw7 : Jvm.Cond.code ⟨"LeftAnswers$Tape", "<init>", "()V"⟩ prog_12_method_1_code 1 none ∈ gtb := gtb_t1 (i := 39) rfl (by decide +kernel)
set_option maxRecDepth 100000 in
theorem gw8 : Jvm.Cond.instanceMethod ⟨"LeftAnswers$Tape", "<init>", "()V"⟩ ∈ gtb := gtb_t1 (i := 38) rfl (by decide +kernel)
set_option maxRecDepth 100000 in
theorem gw9 : Jvm.Cond.fieldLink "LeftAnswers" 10 "LeftAnswers" "tape" "LLeftAnswers$Tape;" ∈ gtb := gtb_t2 (i := 190) rfl (by decide +kernel)
set_option maxRecDepth 100000 in
theorem gw10 : Jvm.Cond.classLink "LeftAnswers" 16 "LeftAnswers$Duchy" ∈ gtb := gtb_t1 (i := 95) rfl (by decide +kernel)
set_option maxRecDepth 100000 in
theorem gw11 : Jvm.Cond.instantiable "LeftAnswers$Duchy" 16 ∈ gtb := gtb_t1 (i := 96) rfl (by decide +kernel)
set_option maxRecDepth 100000 in
theorem gw12 : Jvm.Cond.initialized "LeftAnswers$Duchy" ∈ gtb := gtb_t1 (i := 5) rfl (by decide +kernel)
set_option maxRecDepth 100000 in
theorem gw13 : Jvm.Cond.methodLink "LeftAnswers" 18 ⟨"LeftAnswers$Duchy", "<init>", "()V"⟩ ∈ gtb := gtb_t1 (i := 97) rfl (by decide +kernel)
set_option maxRecDepth 100000 in
theorem gw14 : Jvm.Cond.code ⟨"LeftAnswers$Duchy", "<init>", "()V"⟩ prog_4_method_1_code 1 none ∈ gtb := gtb_t1 (i := 99) rfl (by decide +kernel)
set_option maxRecDepth 100000 in
theorem gw15 : Jvm.Cond.instanceMethod ⟨"LeftAnswers$Duchy", "<init>", "()V"⟩ ∈ gtb := gtb_t1 (i := 98) rfl (by decide +kernel)
set_option maxRecDepth 100000 in
theorem gw16 : Jvm.Cond.fieldLink "LeftAnswers" 19 "LeftAnswers" "duchy" "LLeftAnswers$Duchy;" ∈ gtb := gtb_t2 (i := 191) rfl (by decide +kernel)
set_option maxRecDepth 100000 in
theorem gw17 : Jvm.Cond.fieldLink "LeftAnswers" 23 "LeftAnswers" "spareDuchy" "LLeftAnswers$Duchy;" ∈ gtb := gtb_t2 (i := 192) rfl (by decide +kernel)
set_option maxRecDepth 100000 in
theorem gw18 : Jvm.Cond.classLink "LeftAnswers" 26 "LeftAnswers$Life" ∈ gtb := gtb_t1 (i := 177) rfl (by decide +kernel)
set_option maxRecDepth 100000 in
theorem gw19 : Jvm.Cond.instantiable "LeftAnswers$Life" 12 ∈ gtb := gtb_t1 (i := 178) rfl (by decide +kernel)
set_option maxRecDepth 100000 in
theorem gw20 : Jvm.Cond.initialized "LeftAnswers$Life" ∈ gtb := gtb_t1 (i := 6) rfl (by decide +kernel)
set_option maxRecDepth 100000 in
theorem gw21 : Jvm.Cond.methodLink "LeftAnswers" 28 ⟨"LeftAnswers$Life", "<init>", "()V"⟩ ∈ gtb := gtb_t1 (i := 179) rfl (by decide +kernel)
set_option maxRecDepth 100000 in
theorem gw22 : Jvm.Cond.code ⟨"LeftAnswers$Life", "<init>", "()V"⟩ prog_6_method_1_code 1 none ∈ gtb := gtb_t1 (i := 181) rfl (by decide +kernel)
set_option maxRecDepth 100000 in
theorem gw23 : Jvm.Cond.instanceMethod ⟨"LeftAnswers$Life", "<init>", "()V"⟩ ∈ gtb := gtb_t1 (i := 180) rfl (by decide +kernel)
set_option maxRecDepth 100000 in
theorem gw24 : Jvm.Cond.fieldLink "LeftAnswers" 29 "LeftAnswers" "life" "LLeftAnswers$Life;" ∈ gtb := gtb_t2 (i := 193) rfl (by decide +kernel)
set_option maxRecDepth 100000 in
theorem gw25 : Jvm.Cond.fieldLink "LeftAnswers" 33 "LeftAnswers" "trial" "LLeftAnswers$Life;" ∈ gtb := gtb_t2 (i := 194) rfl (by decide +kernel)
set_option maxRecDepth 100000 in
theorem gw26 : Jvm.Cond.classLink "LeftAnswers" 36 "LeftAnswers$Past" ∈ gtb := gtb_t2 (i := 5) rfl (by decide +kernel)
set_option maxRecDepth 100000 in
theorem gw27 : Jvm.Cond.instantiable "LeftAnswers$Past" 3 ∈ gtb := gtb_t2 (i := 6) rfl (by decide +kernel)
set_option maxRecDepth 100000 in
theorem gw28 : Jvm.Cond.initialized "LeftAnswers$Past" ∈ gtb := gtb_t1 (i := 7) rfl (by decide +kernel)
set_option maxRecDepth 100000 in
theorem gw29 : Jvm.Cond.methodLink "LeftAnswers" 38 ⟨"LeftAnswers$Past", "<init>", "()V"⟩ ∈ gtb := gtb_t2 (i := 7) rfl (by decide +kernel)
set_option maxRecDepth 100000 in
theorem gw30 : Jvm.Cond.code ⟨"LeftAnswers$Past", "<init>", "()V"⟩ prog_9_method_1_code 2 none ∈ gtb := gtb_t2 (i := 9) rfl (by decide +kernel)
set_option maxRecDepth 100000 in
theorem gw31 : Jvm.Cond.instanceMethod ⟨"LeftAnswers$Past", "<init>", "()V"⟩ ∈ gtb := gtb_t2 (i := 8) rfl (by decide +kernel)
set_option maxRecDepth 100000 in
theorem gw32 : Jvm.Cond.fieldLink "LeftAnswers" 39 "LeftAnswers" "past" "LLeftAnswers$Past;" ∈ gtb := gtb_t2 (i := 195) rfl (by decide +kernel)
set_option maxRecDepth 100000 in
theorem gw33 : Jvm.Cond.classLink "LeftAnswers" 43 "LeftAnswers$Book" ∈ gtb := gtb_t2 (i := 24) rfl (by decide +kernel)
set_option maxRecDepth 100000 in
theorem gw34 : Jvm.Cond.instantiable "LeftAnswers$Book" 11 ∈ gtb := gtb_t2 (i := 25) rfl (by decide +kernel)
set_option maxRecDepth 100000 in
theorem gw35 : Jvm.Cond.initialized "LeftAnswers$Book" ∈ gtb := gtb_t1 (i := 8) rfl (by decide +kernel)
set_option maxRecDepth 100000 in
theorem gw36 : Jvm.Cond.methodLink "LeftAnswers" 45 ⟨"LeftAnswers$Book", "<init>", "()V"⟩ ∈ gtb := gtb_t2 (i := 26) rfl (by decide +kernel)
set_option maxRecDepth 100000 in
theorem gw37 : Jvm.Cond.code ⟨"LeftAnswers$Book", "<init>", "()V"⟩ prog_3_method_1_code 1 none ∈ gtb := gtb_t2 (i := 28) rfl (by decide +kernel)
set_option maxRecDepth 100000 in
theorem gw38 : Jvm.Cond.instanceMethod ⟨"LeftAnswers$Book", "<init>", "()V"⟩ ∈ gtb := gtb_t2 (i := 27) rfl (by decide +kernel)
set_option maxRecDepth 100000 in
theorem gw39 : Jvm.Cond.fieldLink "LeftAnswers" 46 "LeftAnswers" "book" "LLeftAnswers$Book;" ∈ gtb := gtb_t2 (i := 196) rfl (by decide +kernel)
set_option maxRecDepth 100000 in
theorem gw40 : Jvm.Cond.classLink "LeftAnswers" 50 "LeftAnswers$Sentence" ∈ gtb := gtb_t2 (i := 70) rfl (by decide +kernel)
set_option maxRecDepth 100000 in
theorem gw41 : Jvm.Cond.instantiable "LeftAnswers$Sentence" 6 ∈ gtb := gtb_t2 (i := 71) rfl (by decide +kernel)
set_option maxRecDepth 100000 in
theorem gw42 : Jvm.Cond.initialized "LeftAnswers$Sentence" ∈ gtb := gtb_t1 (i := 9) rfl (by decide +kernel)
set_option maxRecDepth 100000 in
theorem gw43 : Jvm.Cond.methodLink "LeftAnswers" 52 ⟨"LeftAnswers$Sentence", "<init>", "()V"⟩ ∈ gtb := gtb_t2 (i := 72) rfl (by decide +kernel)
set_option maxRecDepth 100000 in
theorem gw44 : Jvm.Cond.code ⟨"LeftAnswers$Sentence", "<init>", "()V"⟩ prog_10_method_1_code 2 none ∈ gtb := gtb_t2 (i := 74) rfl (by decide +kernel)
set_option maxRecDepth 100000 in
theorem gw45 : Jvm.Cond.instanceMethod ⟨"LeftAnswers$Sentence", "<init>", "()V"⟩ ∈ gtb := gtb_t2 (i := 73) rfl (by decide +kernel)
set_option maxRecDepth 100000 in
theorem gw46 : Jvm.Cond.fieldLink "LeftAnswers" 53 "LeftAnswers" "sentence" "LLeftAnswers$Sentence;" ∈ gtb := gtb_t2 (i := 197) rfl (by decide +kernel)
set_option maxRecDepth 100000 in
theorem gw47 : Jvm.Cond.fieldLink "LeftAnswers" 57 "LeftAnswers" "spareSentence" "LLeftAnswers$Sentence;" ∈ gtb := gtb_t2 (i := 198) rfl (by decide +kernel)
set_option maxRecDepth 100000 in
theorem gw48 : Jvm.Cond.classLink "LeftAnswers" 60 "LeftAnswers$Parted" ∈ gtb := gtb_t2 (i := 99) rfl (by decide +kernel)
set_option maxRecDepth 100000 in
theorem gw49 : Jvm.Cond.instantiable "LeftAnswers$Parted" 6 ∈ gtb := gtb_t2 (i := 100) rfl (by decide +kernel)
set_option maxRecDepth 100000 in
theorem gw50 : Jvm.Cond.initialized "LeftAnswers$Parted" ∈ gtb := gtb_t1 (i := 10) rfl (by decide +kernel)
set_option maxRecDepth 100000 in
theorem gw51 : Jvm.Cond.methodLink "LeftAnswers" 62 ⟨"LeftAnswers$Parted", "<init>", "()V"⟩ ∈ gtb := gtb_t2 (i := 101) rfl (by decide +kernel)
set_option maxRecDepth 100000 in
theorem gw52 : Jvm.Cond.code ⟨"LeftAnswers$Parted", "<init>", "()V"⟩ prog_8_method_1_code 1 none ∈ gtb := gtb_t2 (i := 103) rfl (by decide +kernel)
set_option maxRecDepth 100000 in
theorem gw53 : Jvm.Cond.instanceMethod ⟨"LeftAnswers$Parted", "<init>", "()V"⟩ ∈ gtb := gtb_t2 (i := 102) rfl (by decide +kernel)
set_option maxRecDepth 100000 in
theorem gw54 : Jvm.Cond.fieldLink "LeftAnswers" 63 "LeftAnswers" "parted" "LLeftAnswers$Parted;" ∈ gtb := gtb_t2 (i := 199) rfl (by decide +kernel)
set_option maxRecDepth 100000 in
theorem gw55 : Jvm.Cond.classLink "LeftAnswers" 67 "LeftAnswers$Pairs" ∈ gtb := gtb_t2 (i := 125) rfl (by decide +kernel)
set_option maxRecDepth 100000 in
theorem gw56 : Jvm.Cond.instantiable "LeftAnswers$Pairs" 5 ∈ gtb := gtb_t2 (i := 126) rfl (by decide +kernel)
set_option maxRecDepth 100000 in
theorem gw57 : Jvm.Cond.initialized "LeftAnswers$Pairs" ∈ gtb := gtb_t1 (i := 11) rfl (by decide +kernel)
set_option maxRecDepth 100000 in
theorem gw58 : Jvm.Cond.methodLink "LeftAnswers" 69 ⟨"LeftAnswers$Pairs", "<init>", "()V"⟩ ∈ gtb := gtb_t2 (i := 127) rfl (by decide +kernel)
set_option maxRecDepth 100000 in
theorem gw59 : Jvm.Cond.code ⟨"LeftAnswers$Pairs", "<init>", "()V"⟩ prog_7_method_1_code 2 none ∈ gtb := gtb_t2 (i := 129) rfl (by decide +kernel)
set_option maxRecDepth 100000 in
theorem gw60 : Jvm.Cond.instanceMethod ⟨"LeftAnswers$Pairs", "<init>", "()V"⟩ ∈ gtb := gtb_t2 (i := 128) rfl (by decide +kernel)
set_option maxRecDepth 100000 in
theorem gw61 : Jvm.Cond.fieldLink "LeftAnswers" 70 "LeftAnswers" "pairs" "LLeftAnswers$Pairs;" ∈ gtb := gtb_t2 (i := 200) rfl (by decide +kernel)
set_option maxRecDepth 100000 in
theorem gw62 : Jvm.Cond.classLink "LeftAnswers" 74 "LeftAnswers$Slip" ∈ gtb := gtb_t2 (i := 148) rfl (by decide +kernel)
set_option maxRecDepth 100000 in
theorem gw63 : Jvm.Cond.instantiable "LeftAnswers$Slip" 2 ∈ gtb := gtb_t2 (i := 149) rfl (by decide +kernel)
set_option maxRecDepth 100000 in
theorem gw64 : Jvm.Cond.initialized "LeftAnswers$Slip" ∈ gtb := gtb_t1 (i := 12) rfl (by decide +kernel)
set_option maxRecDepth 100000 in
theorem gw65 : Jvm.Cond.methodLink "LeftAnswers" 76 ⟨"LeftAnswers$Slip", "<init>", "()V"⟩ ∈ gtb := gtb_t2 (i := 150) rfl (by decide +kernel)
set_option maxRecDepth 100000 in
theorem gw66 : Jvm.Cond.code ⟨"LeftAnswers$Slip", "<init>", "()V"⟩ prog_11_method_1_code 1 none ∈ gtb := gtb_t2 (i := 152) rfl (by decide +kernel)
set_option maxRecDepth 100000 in
theorem gw67 : Jvm.Cond.instanceMethod ⟨"LeftAnswers$Slip", "<init>", "()V"⟩ ∈ gtb := gtb_t2 (i := 151) rfl (by decide +kernel)
set_option maxRecDepth 100000 in
theorem gw68 : Jvm.Cond.fieldLink "LeftAnswers" 77 "LeftAnswers" "slip" "LLeftAnswers$Slip;" ∈ gtb := gtb_t2 (i := 201) rfl (by decide +kernel)
set_option maxRecDepth 100000 in
theorem gw69 : Jvm.Cond.classLink "LeftAnswers" 81 "LeftAnswers$Image" ∈ gtb := gtb_t2 (i := 163) rfl (by decide +kernel)
set_option maxRecDepth 100000 in
theorem gw70 : Jvm.Cond.instantiable "LeftAnswers$Image" 4 ∈ gtb := gtb_t2 (i := 165) rfl (by decide +kernel)
set_option maxRecDepth 100000 in
theorem gw71 : Jvm.Cond.initialized "LeftAnswers$Image" ∈ gtb := gtb_t1 (i := 13) rfl (by decide +kernel)
set_option maxRecDepth 100000 in
theorem gw72 : Jvm.Cond.methodLink "LeftAnswers" 83 ⟨"LeftAnswers$Image", "<init>", "()V"⟩ ∈ gtb := gtb_t2 (i := 166) rfl (by decide +kernel)
set_option maxRecDepth 100000 in
theorem gw73 : Jvm.Cond.code ⟨"LeftAnswers$Image", "<init>", "()V"⟩ prog_5_method_1_code 1 none ∈ gtb := gtb_t2 (i := 168) rfl (by decide +kernel)
set_option maxRecDepth 100000 in
theorem gw74 : Jvm.Cond.instanceMethod ⟨"LeftAnswers$Image", "<init>", "()V"⟩ ∈ gtb := gtb_t2 (i := 167) rfl (by decide +kernel)
set_option maxRecDepth 100000 in
theorem gw75 : Jvm.Cond.fieldLink "LeftAnswers" 84 "LeftAnswers" "images" "[LLeftAnswers$Image;" ∈ gtb := gtb_t2 (i := 202) rfl (by decide +kernel)
set_option maxRecDepth 100000 in
theorem gw76 : Jvm.Cond.fieldLink "LeftAnswers" 88 "LeftAnswers" "latestFault" "I" ∈ gtb := gtb_t2 (i := 203) rfl (by decide +kernel)
set_option maxRecDepth 100000 in
theorem gw77 : Jvm.Cond.fieldLink "LeftAnswers" 92 "LeftAnswers" "fitBits" "I" ∈ gtb := gtb_t2 (i := 204) rfl (by decide +kernel)
set_option maxRecDepth 100000 in
theorem gw78 : Jvm.Cond.fieldLink "LeftAnswers" 95 "LeftAnswers" "testDeed" "I" ∈ gtb := gtb_t2 (i := 205) rfl (by decide +kernel)
set_option maxRecDepth 100000 in
theorem gw79 : Jvm.Cond.fieldLink "LeftAnswers" 98 "LeftAnswers" "guardBits" "I" ∈ gtb := gtb_t2 (i := 206) rfl (by decide +kernel)
set_option maxRecDepth 100000 in
theorem gw80 : Jvm.Cond.methodLink "LeftAnswers" 130 ⟨"LeftAnswers", "isPerson", "(I)Z"⟩ ∈ gtb := gtb_t3 (i := 162) rfl (by decide +kernel)
set_option maxRecDepth 100000 in
theorem gw81 : Jvm.Cond.selects "LeftAnswers" ⟨"LeftAnswers", "isPerson", "(I)Z"⟩ ⟨"LeftAnswers", "isPerson", "(I)Z"⟩ ∈ gtb := gtb_in (i := 12) (by decide +kernel) (by decide +kernel)
set_option maxRecDepth 100000 in
theorem gw82 : Jvm.Cond.code ⟨"LeftAnswers", "isPerson", "(I)Z"⟩ prog_1_method_41_code 2 (some .boolean) ∈ gtb := gtb_t3 (i := 165) rfl (by decide +kernel)
set_option maxRecDepth 100000 in
theorem gw83 : Jvm.Cond.initialized "LeftAnswers" ∈ gtb := gtb_t1 (i := 1) rfl (by decide +kernel)
set_option maxRecDepth 100000 in
theorem gw84 : Jvm.Cond.instanceMethod ⟨"LeftAnswers", "isPerson", "(I)Z"⟩ ∈ gtb := gtb_t3 (i := 164) rfl (by decide +kernel)
set_option maxRecDepth 100000 in
theorem gw85 : Jvm.Cond.methodLink "LeftAnswers" 174 ⟨"LeftAnswers", "isDeed", "(I)Z"⟩ ∈ gtb := gtb_t3 (i := 177) rfl (by decide +kernel)
set_option maxRecDepth 100000 in
theorem gw86 : Jvm.Cond.selects "LeftAnswers" ⟨"LeftAnswers", "isDeed", "(I)Z"⟩ ⟨"LeftAnswers", "isDeed", "(I)Z"⟩ ∈ gtb := gtb_in (i := 13) (by decide +kernel) (by decide +kernel)
set_option maxRecDepth 100000 in
theorem gw87 : Jvm.Cond.code ⟨"LeftAnswers", "isDeed", "(I)Z"⟩ prog_1_method_42_code 2 (some .boolean) ∈ gtb := gtb_t3 (i := 180) rfl (by decide +kernel)
set_option maxRecDepth 100000 in
theorem gw88 : Jvm.Cond.instanceMethod ⟨"LeftAnswers", "isDeed", "(I)Z"⟩ ∈ gtb := gtb_t3 (i := 179) rfl (by decide +kernel)
set_option maxRecDepth 100000 in
theorem gw89 : Jvm.Cond.methodLink "LeftAnswers" 238 ⟨"LeftAnswers$Life", "ableBits", "(LLeftAnswers$Duchy;II)I"⟩ ∈ gtb := gtb_t4 (i := 92) rfl (by decide +kernel)
set_option maxRecDepth 100000 in
theorem gw90 : Jvm.Cond.selects "LeftAnswers$Life" ⟨"LeftAnswers$Life", "ableBits", "(LLeftAnswers$Duchy;II)I"⟩ ⟨"LeftAnswers$Life", "ableBits", "(LLeftAnswers$Duchy;II)I"⟩ ∈ gtb := gtb_t4 (i := 94) rfl (by decide +kernel)
set_option maxRecDepth 100000 in
theorem gw91 : Jvm.Cond.code ⟨"LeftAnswers$Life", "ableBits", "(LLeftAnswers$Duchy;II)I"⟩ prog_6_method_28_code 6 (some .int) ∈ gtb := gtb_t4 (i := 95) rfl (by decide +kernel)
set_option maxRecDepth 100000 in
theorem gw92 : Jvm.Cond.instanceMethod ⟨"LeftAnswers$Life", "ableBits", "(LLeftAnswers$Duchy;II)I"⟩ ∈ gtb := gtb_t4 (i := 93) rfl (by decide +kernel)
set_option maxRecDepth 100000 in
theorem gw93 : Jvm.Cond.methodLink "LeftAnswers" 370 ⟨"LeftAnswers$Life", "whyNot", "(LLeftAnswers$Duchy;IIII)I"⟩ ∈ gtb := gtb_t3 (i := 222) rfl (by decide +kernel)
set_option maxRecDepth 100000 in
theorem gw94 : Jvm.Cond.selects "LeftAnswers$Life" ⟨"LeftAnswers$Life", "whyNot", "(LLeftAnswers$Duchy;IIII)I"⟩ ⟨"LeftAnswers$Life", "whyNot", "(LLeftAnswers$Duchy;IIII)I"⟩ ∈ gtb := gtb_t3 (i := 224) rfl (by decide +kernel)
set_option maxRecDepth 100000 in
theorem gw95 : Jvm.Cond.code ⟨"LeftAnswers$Life", "whyNot", "(LLeftAnswers$Duchy;IIII)I"⟩ prog_6_method_14_code 6 (some .int) ∈ gtb := gtb_t3 (i := 225) rfl (by decide +kernel)
set_option maxRecDepth 100000 in
theorem gw96 : Jvm.Cond.instanceMethod ⟨"LeftAnswers$Life", "whyNot", "(LLeftAnswers$Duchy;IIII)I"⟩ ∈ gtb := gtb_t3 (i := 223) rfl (by decide +kernel)
set_option maxRecDepth 100000 in
theorem gw97 : Jvm.Cond.methodLink "LeftAnswers" 226 ⟨"LeftAnswers$Past", "keep", "(LLeftAnswers$Life;)V"⟩ ∈ gtb := gtb_t4 (i := 11) rfl (by decide +kernel)
set_option maxRecDepth 100000 in
theorem gw98 : Jvm.Cond.selects "LeftAnswers$Past" ⟨"LeftAnswers$Past", "keep", "(LLeftAnswers$Life;)V"⟩ ⟨"LeftAnswers$Past", "keep", "(LLeftAnswers$Life;)V"⟩ ∈ gtb := gtb_t4 (i := 13) rfl (by decide +kernel)
set_option maxRecDepth 100000 in
theorem gw99 : Jvm.Cond.code ⟨"LeftAnswers$Past", "keep", "(LLeftAnswers$Life;)V"⟩ prog_9_method_3_code 2 none ∈ gtb := gtb_t4 (i := 14) rfl (by decide +kernel)
set_option maxRecDepth 100000 in
theorem gw100 : Jvm.Cond.instanceMethod ⟨"LeftAnswers$Past", "keep", "(LLeftAnswers$Life;)V"⟩ ∈ gtb := gtb_t4 (i := 12) rfl (by decide +kernel)
set_option maxRecDepth 100000 in
theorem gw101 : Jvm.Cond.methodLink "LeftAnswers" 374 ⟨"LeftAnswers$Life", "perform", "(LLeftAnswers$Duchy;IIII)V"⟩ ∈ gtb := gtb_t4 (i := 22) rfl (by decide +kernel)
set_option maxRecDepth 100000 in
theorem gw102 : Jvm.Cond.selects "LeftAnswers$Life" ⟨"LeftAnswers$Life", "perform", "(LLeftAnswers$Duchy;IIII)V"⟩ ⟨"LeftAnswers$Life", "perform", "(LLeftAnswers$Duchy;IIII)V"⟩ ∈ gtb := gtb_t4 (i := 24) rfl (by decide +kernel)
set_option maxRecDepth 100000 in
theorem gw103 : Jvm.Cond.code ⟨"LeftAnswers$Life", "perform", "(LLeftAnswers$Duchy;IIII)V"⟩ prog_6_method_15_code 6 none ∈ gtb := gtb_t4 (i := 25) rfl (by decide +kernel)
set_option maxRecDepth 100000 in
theorem gw104 : Jvm.Cond.instanceMethod ⟨"LeftAnswers$Life", "perform", "(LLeftAnswers$Duchy;IIII)V"⟩ ∈ gtb := gtb_t4 (i := 23) rfl (by decide +kernel)
set_option maxRecDepth 100000 in
theorem gw105 : Jvm.Cond.methodLink "LeftAnswers" 214 ⟨"LeftAnswers", "act", "(IIII)I"⟩ ∈ gtb := gtb_t3 (i := 218) rfl (by decide +kernel)
set_option maxRecDepth 100000 in
theorem gw106 : Jvm.Cond.selects "LeftAnswers" ⟨"LeftAnswers", "act", "(IIII)I"⟩ ⟨"LeftAnswers", "act", "(IIII)I"⟩ ∈ gtb := gtb_in (i := 14) (by decide +kernel) (by decide +kernel)
set_option maxRecDepth 100000 in
theorem gw107 : Jvm.Cond.code ⟨"LeftAnswers", "act", "(IIII)I"⟩ prog_1_method_44_code 6 (some .int) ∈ gtb := gtb_t3 (i := 221) rfl (by decide +kernel)
set_option maxRecDepth 100000 in
theorem gw108 : Jvm.Cond.instanceMethod ⟨"LeftAnswers", "act", "(IIII)I"⟩ ∈ gtb := gtb_t3 (i := 220) rfl (by decide +kernel)
set_option maxRecDepth 100000 in
theorem gw109 : Jvm.Cond.methodLink "LeftAnswers" 290 ⟨"LeftAnswers$Pairs", "solve", "(LLeftAnswers$Duchy;LLeftAnswers$Life;)I"⟩ ∈ gtb := gtb_t4 (i := 222) rfl (by decide +kernel)
set_option maxRecDepth 100000 in
theorem gw110 : Jvm.Cond.selects "LeftAnswers$Pairs" ⟨"LeftAnswers$Pairs", "solve", "(LLeftAnswers$Duchy;LLeftAnswers$Life;)I"⟩ ⟨"LeftAnswers$Pairs", "solve", "(LLeftAnswers$Duchy;LLeftAnswers$Life;)I"⟩ ∈ gtb := gtb_t4 (i := 224) rfl (by decide +kernel)
set_option maxRecDepth 100000 in
theorem gw111 : Jvm.Cond.code ⟨"LeftAnswers$Pairs", "solve", "(LLeftAnswers$Duchy;LLeftAnswers$Life;)I"⟩ prog_7_method_2_code 7 (some .int) ∈ gtb := gtb_t4 (i := 225) rfl (by decide +kernel)
set_option maxRecDepth 100000 in
theorem gw112 : Jvm.Cond.instanceMethod ⟨"LeftAnswers$Pairs", "solve", "(LLeftAnswers$Duchy;LLeftAnswers$Life;)I"⟩ ∈ gtb := gtb_t4 (i := 223) rfl (by decide +kernel)
set_option maxRecDepth 100000 in
theorem gw113 : Jvm.Cond.fieldLink "LeftAnswers" 293 "LeftAnswers$Pairs" "partnerOf" "[I" ∈ gtb := gtb_t2 (i := 132) rfl (by decide +kernel)
set_option maxRecDepth 100000 in
theorem gw114 : Jvm.Cond.methodLink "LeftAnswers" 318 ⟨"LeftAnswers$Book", "readFrom", "(LLeftAnswers$Tape;LLeftAnswers$Duchy;)V"⟩ ∈ gtb := gtb_t5 (i := 128) rfl (by decide +kernel)
set_option maxRecDepth 100000 in
theorem gw115 : Jvm.Cond.selects "LeftAnswers$Book" ⟨"LeftAnswers$Book", "readFrom", "(LLeftAnswers$Tape;LLeftAnswers$Duchy;)V"⟩ ⟨"LeftAnswers$Book", "readFrom", "(LLeftAnswers$Tape;LLeftAnswers$Duchy;)V"⟩ ∈ gtb := gtb_t5 (i := 130) rfl (by decide +kernel)
set_option maxRecDepth 100000 in
theorem gw116 : Jvm.Cond.code ⟨"LeftAnswers$Book", "readFrom", "(LLeftAnswers$Tape;LLeftAnswers$Duchy;)V"⟩ prog_3_method_2_code 5 none ∈ gtb := gtb_t5 (i := 131) rfl (by decide +kernel)
set_option maxRecDepth 100000 in
theorem gw117 : Jvm.Cond.instanceMethod ⟨"LeftAnswers$Book", "readFrom", "(LLeftAnswers$Tape;LLeftAnswers$Duchy;)V"⟩ ∈ gtb := gtb_t5 (i := 129) rfl (by decide +kernel)
set_option maxRecDepth 100000 in
theorem gw118 : Jvm.Cond.methodLink "LeftAnswers" 112 ⟨"LeftAnswers", "takeFault", "()V"⟩ ∈ gtb := gtb_t3 (i := 141) rfl (by decide +kernel)
set_option maxRecDepth 100000 in
theorem gw119 : Jvm.Cond.selects "LeftAnswers" ⟨"LeftAnswers", "takeFault", "()V"⟩ ⟨"LeftAnswers", "takeFault", "()V"⟩ ∈ gtb := gtb_in (i := 11) (by decide +kernel) (by decide +kernel)
set_option maxRecDepth 100000 in
theorem gw120 : Jvm.Cond.code ⟨"LeftAnswers", "takeFault", "()V"⟩ prog_1_method_45_code 1 none ∈ gtb := gtb_t3 (i := 144) rfl (by decide +kernel)
set_option maxRecDepth 100000 in
theorem gw121 : Jvm.Cond.instanceMethod ⟨"LeftAnswers", "takeFault", "()V"⟩ ∈ gtb := gtb_t3 (i := 143) rfl (by decide +kernel)
set_option maxRecDepth 100000 in
theorem gw122 : Jvm.Cond.fieldLink "LeftAnswers" 115 "LeftAnswers$Tape" "faultPlace" "I" ∈ gtb := gtb_t1 (i := 68) rfl (by decide +kernel)
set_option maxRecDepth 100000 in
theorem gw123 : Jvm.Cond.methodLink "LeftAnswers" 315 ⟨"LeftAnswers$Life", "copyFrom", "(LLeftAnswers$Life;)V"⟩ ∈ gtb := gtb_t5 (i := 123) rfl (by decide +kernel)
set_option maxRecDepth 100000 in
theorem gw124 : Jvm.Cond.selects "LeftAnswers$Life" ⟨"LeftAnswers$Life", "copyFrom", "(LLeftAnswers$Life;)V"⟩ ⟨"LeftAnswers$Life", "copyFrom", "(LLeftAnswers$Life;)V"⟩ ∈ gtb := gtb_t4 (i := 17) rfl (by decide +kernel)
set_option maxRecDepth 100000 in
theorem gw125 : Jvm.Cond.code ⟨"LeftAnswers$Life", "copyFrom", "(LLeftAnswers$Life;)V"⟩ prog_6_method_3_code 2 none ∈ gtb := gtb_t4 (i := 18) rfl (by decide +kernel)
set_option maxRecDepth 100000 in
theorem gw126 : Jvm.Cond.instanceMethod ⟨"LeftAnswers$Life", "copyFrom", "(LLeftAnswers$Life;)V"⟩ ∈ gtb := gtb_t4 (i := 16) rfl (by decide +kernel)
set_option maxRecDepth 100000 in
theorem gw127 : Jvm.Cond.methodLink "LeftAnswers" 321 ⟨"LeftAnswers$Book", "liveIn", "(LLeftAnswers$Life;LLeftAnswers$Duchy;)V"⟩ ∈ gtb := gtb_t5 (i := 166) rfl (by decide +kernel)
set_option maxRecDepth 100000 in
theorem gw128 : Jvm.Cond.selects "LeftAnswers$Book" ⟨"LeftAnswers$Book", "liveIn", "(LLeftAnswers$Life;LLeftAnswers$Duchy;)V"⟩ ⟨"LeftAnswers$Book", "liveIn", "(LLeftAnswers$Life;LLeftAnswers$Duchy;)V"⟩ ∈ gtb := gtb_t5 (i := 168) rfl (by decide +kernel)
set_option maxRecDepth 100000 in
theorem gw129 : Jvm.Cond.code ⟨"LeftAnswers$Book", "liveIn", "(LLeftAnswers$Life;LLeftAnswers$Duchy;)V"⟩ prog_3_method_8_code 5 none ∈ gtb := gtb_t5 (i := 169) rfl (by decide +kernel)
set_option maxRecDepth 100000 in
theorem gw130 : Jvm.Cond.instanceMethod ⟨"LeftAnswers$Book", "liveIn", "(LLeftAnswers$Life;LLeftAnswers$Duchy;)V"⟩ ∈ gtb := gtb_t5 (i := 167) rfl (by decide +kernel)
set_option maxRecDepth 100000 in
theorem gw131 : Jvm.Cond.fieldLink "LeftAnswers" 325 "LeftAnswers$Book" "wrongLine" "I" ∈ gtb := gtb_t2 (i := 38) rfl (by decide +kernel)
set_option maxRecDepth 100000 in
theorem gw132 : Jvm.Cond.fieldLink "LeftAnswers" 306 "LeftAnswers$Slip" "length" "I" ∈ gtb := gtb_t2 (i := 157) rfl (by decide +kernel)
set_option maxRecDepth 100000 in
theorem gw133 : Jvm.Cond.fieldLink "LeftAnswers" 307 "LeftAnswers$Slip" "bytes" "[B" ∈ gtb := gtb_t2 (i := 155) rfl (by decide +kernel)
set_option maxRecDepth 100000 in
theorem gw134 : Jvm.Cond.fieldLink "LeftAnswers" 299 "LeftAnswers$Duchy" "persons" "I" ∈ gtb := gtb_t1 (i := 109) rfl (by decide +kernel)
set_option maxRecDepth 100000 in
theorem gw135 : Jvm.Cond.fieldLink "LeftAnswers" 360 "LeftAnswers$Duchy" "deeds" "I" ∈ gtb := gtb_t1 (i := 112) rfl (by decide +kernel)
set_option maxRecDepth 100000 in
theorem gw136 : Jvm.Cond.fieldLink "LeftAnswers" 363 "LeftAnswers$Duchy" "law" "I" ∈ gtb := gtb_t1 (i := 115) rfl (by decide +kernel)
set_option maxRecDepth 100000 in
theorem gw137 : Jvm.Cond.fieldLink "LeftAnswers" 366 "LeftAnswers$Duchy" "cell" "I" ∈ gtb := gtb_t1 (i := 118) rfl (by decide +kernel)
set_option maxRecDepth 100000 in
theorem gw138 : Jvm.Cond.fieldLink "LeftAnswers" 368 "LeftAnswers$Duchy" "ideas" "I" ∈ gtb := gtb_t1 (i := 121) rfl (by decide +kernel)
set_option maxRecDepth 100000 in
theorem gw139 : Jvm.Cond.fieldLink "LeftAnswers" 101 "LeftAnswers$Tape" "length" "I" ∈ gtb := gtb_t1 (i := 44) rfl (by decide +kernel)
set_option maxRecDepth 100000 in
theorem gw140 : Jvm.Cond.methodLink "LeftAnswers" 218 ⟨"LeftAnswers$Life", "daysLeft", "()I"⟩ ∈ gtb := gtb_t4 (i := 77) rfl (by decide +kernel)
set_option maxRecDepth 100000 in
theorem gw141 : Jvm.Cond.selects "LeftAnswers$Life" ⟨"LeftAnswers$Life", "daysLeft", "()I"⟩ ⟨"LeftAnswers$Life", "daysLeft", "()I"⟩ ∈ gtb := gtb_t4 (i := 9) rfl (by decide +kernel)
set_option maxRecDepth 100000 in
theorem gw142 : Jvm.Cond.code ⟨"LeftAnswers$Life", "daysLeft", "()I"⟩ prog_6_method_13_code 1 (some .int) ∈ gtb := gtb_t4 (i := 10) rfl (by decide +kernel)
set_option maxRecDepth 100000 in
theorem gw143 : Jvm.Cond.instanceMethod ⟨"LeftAnswers$Life", "daysLeft", "()I"⟩ ∈ gtb := gtb_t4 (i := 8) rfl (by decide +kernel)
set_option maxRecDepth 100000 in
theorem gw144 : Jvm.Cond.methodLink "LeftAnswers" 221 ⟨"java/lang/Math", "min", "(II)I"⟩ ∈ gtb := gtb_t4 (i := 78) rfl (by decide +kernel)
set_option maxRecDepth 100000 in
theorem gw145 : Jvm.Cond.static ⟨"java/lang/Math", "min", "(II)I"⟩ ∈ gtb := gtb_t4 (i := 31) rfl (by decide +kernel)
set_option maxRecDepth 100000 in
theorem gw146 : Jvm.Cond.initialized "java/lang/Math" ∈ gtb := gtb_t1 (i := 21) rfl (by decide +kernel)
set_option maxRecDepth 100000 in
theorem gw147 : Jvm.Cond.code ⟨"java/lang/Math", "min", "(II)I"⟩ prog_22_method_69_code 2 (some .int) ∈ gtb := gtb_t4 (i := 32) rfl (by decide +kernel)
set_option maxRecDepth 100000 in
theorem gw148 : Jvm.Cond.methodLink "LeftAnswers" 230 ⟨"LeftAnswers$Life", "passDays", "(LLeftAnswers$Duchy;I)V"⟩ ∈ gtb := gtb_t4 (i := 79) rfl (by decide +kernel)
set_option maxRecDepth 100000 in
theorem gw149 : Jvm.Cond.selects "LeftAnswers$Life" ⟨"LeftAnswers$Life", "passDays", "(LLeftAnswers$Duchy;I)V"⟩ ⟨"LeftAnswers$Life", "passDays", "(LLeftAnswers$Duchy;I)V"⟩ ∈ gtb := gtb_t4 (i := 51) rfl (by decide +kernel)
end
section
set_option maxRecDepth 100000 in
theorem gw150 : Jvm.Cond.code ⟨"LeftAnswers$Life", "passDays", "(LLeftAnswers$Duchy;I)V"⟩ prog_6_method_23_code 4 none ∈ gtb := gtb_t4 (i := 52) rfl (by decide +kernel)
set_option maxRecDepth 100000 in
theorem gw151 : Jvm.Cond.instanceMethod ⟨"LeftAnswers$Life", "passDays", "(LLeftAnswers$Duchy;I)V"⟩ ∈ gtb := gtb_t4 (i := 50) rfl (by decide +kernel)
set_option maxRecDepth 100000 in
theorem gw152 : Jvm.Cond.fieldLink "LeftAnswers" 177 "LeftAnswers$Duchy" "hard" "[I" ∈ gtb := gtb_t1 (i := 131) rfl (by decide +kernel)
set_option maxRecDepth 100000 in
theorem gw153 : Jvm.Cond.fieldLink "LeftAnswers" 180 "LeftAnswers$Duchy" "pay" "[I" ∈ gtb := gtb_t1 (i := 134) rfl (by decide +kernel)
set_option maxRecDepth 100000 in
theorem gw154 : Jvm.Cond.fieldLink "LeftAnswers" 183 "LeftAnswers$Duchy" "blame" "[I" ∈ gtb := gtb_t1 (i := 137) rfl (by decide +kernel)
set_option maxRecDepth 100000 in
theorem gw155 : Jvm.Cond.methodLink "LeftAnswers" 184 ⟨"LeftAnswers$Duchy", "needsBoth", "(I)Z"⟩ ∈ gtb := gtb_t3 (i := 181) rfl (by decide +kernel)
set_option maxRecDepth 100000 in
theorem gw156 : Jvm.Cond.selects "LeftAnswers$Duchy" ⟨"LeftAnswers$Duchy", "needsBoth", "(I)Z"⟩ ⟨"LeftAnswers$Duchy", "needsBoth", "(I)Z"⟩ ∈ gtb := gtb_t3 (i := 183) rfl (by decide +kernel)
set_option maxRecDepth 100000 in
theorem gw157 : Jvm.Cond.code ⟨"LeftAnswers$Duchy", "needsBoth", "(I)Z"⟩ prog_4_method_18_code 2 (some .boolean) ∈ gtb := gtb_t3 (i := 184) rfl (by decide +kernel)
set_option maxRecDepth 100000 in
theorem gw158 : Jvm.Cond.instanceMethod ⟨"LeftAnswers$Duchy", "needsBoth", "(I)Z"⟩ ∈ gtb := gtb_t3 (i := 182) rfl (by decide +kernel)
set_option maxRecDepth 100000 in
theorem gw159 : Jvm.Cond.fieldLink "LeftAnswers" 187 "LeftAnswers$Life" "doneOf" "[I" ∈ gtb := gtb_t1 (i := 219) rfl (by decide +kernel)
set_option maxRecDepth 100000 in
theorem gw160 : Jvm.Cond.methodLink "LeftAnswers" 167 ⟨"LeftAnswers", "isHand", "(I)Z"⟩ ∈ gtb := gtb_t3 (i := 166) rfl (by decide +kernel)
set_option maxRecDepth 100000 in
theorem gw161 : Jvm.Cond.code ⟨"LeftAnswers", "isHand", "(I)Z"⟩ prog_1_method_43_code 1 (some .boolean) ∈ gtb := gtb_t3 (i := 168) rfl (by decide +kernel)
set_option maxRecDepth 100000 in
theorem gw162 : Jvm.Cond.static ⟨"LeftAnswers", "isHand", "(I)Z"⟩ ∈ gtb := gtb_t3 (i := 167) rfl (by decide +kernel)
set_option maxRecDepth 100000 in
theorem gw163 : Jvm.Cond.methodLink "LeftAnswers" 311 ⟨"LeftAnswers$Life", "drawDays", "(LLeftAnswers$Duchy;II)V"⟩ ∈ gtb := gtb_t5 (i := 106) rfl (by decide +kernel)
set_option maxRecDepth 100000 in
theorem gw164 : Jvm.Cond.selects "LeftAnswers$Life" ⟨"LeftAnswers$Life", "drawDays", "(LLeftAnswers$Duchy;II)V"⟩ ⟨"LeftAnswers$Life", "drawDays", "(LLeftAnswers$Duchy;II)V"⟩ ∈ gtb := gtb_t5 (i := 108) rfl (by decide +kernel)
set_option maxRecDepth 100000 in
theorem gw165 : Jvm.Cond.code ⟨"LeftAnswers$Life", "drawDays", "(LLeftAnswers$Duchy;II)V"⟩ prog_6_method_25_code 6 none ∈ gtb := gtb_t5 (i := 109) rfl (by decide +kernel)
set_option maxRecDepth 100000 in
theorem gw166 : Jvm.Cond.instanceMethod ⟨"LeftAnswers$Life", "drawDays", "(LLeftAnswers$Duchy;II)V"⟩ ∈ gtb := gtb_t5 (i := 107) rfl (by decide +kernel)
set_option maxRecDepth 100000 in
theorem gw167 : Jvm.Cond.methodLink "LeftAnswers" 108 ⟨"LeftAnswers$Duchy", "readFrom", "(LLeftAnswers$Tape;)I"⟩ ∈ gtb := gtb_t3 (i := 18) rfl (by decide +kernel)
set_option maxRecDepth 100000 in
theorem gw168 : Jvm.Cond.selects "LeftAnswers$Duchy" ⟨"LeftAnswers$Duchy", "readFrom", "(LLeftAnswers$Tape;)I"⟩ ⟨"LeftAnswers$Duchy", "readFrom", "(LLeftAnswers$Tape;)I"⟩ ∈ gtb := gtb_t3 (i := 20) rfl (by decide +kernel)
set_option maxRecDepth 100000 in
theorem gw169 : Jvm.Cond.code ⟨"LeftAnswers$Duchy", "readFrom", "(LLeftAnswers$Tape;)I"⟩ prog_4_method_3_code 4 (some .int) ∈ gtb := gtb_t3 (i := 21) rfl (by decide +kernel)
set_option maxRecDepth 100000 in
theorem gw170 : Jvm.Cond.instanceMethod ⟨"LeftAnswers$Duchy", "readFrom", "(LLeftAnswers$Tape;)I"⟩ ∈ gtb := gtb_t3 (i := 19) rfl (by decide +kernel)
set_option maxRecDepth 100000 in
theorem gw171 : Jvm.Cond.fieldLink "LeftAnswers" 118 "LeftAnswers$Duchy" "gloved" "I" ∈ gtb := gtb_t1 (i := 123) rfl (by decide +kernel)
set_option maxRecDepth 100000 in
theorem gw172 : Jvm.Cond.methodLink "LeftAnswers" 121 ⟨"LeftAnswers$Life", "begin", "(I)V"⟩ ∈ gtb := gtb_t3 (i := 145) rfl (by decide +kernel)
set_option maxRecDepth 100000 in
theorem gw173 : Jvm.Cond.selects "LeftAnswers$Life" ⟨"LeftAnswers$Life", "begin", "(I)V"⟩ ⟨"LeftAnswers$Life", "begin", "(I)V"⟩ ∈ gtb := gtb_t1 (i := 185) rfl (by decide +kernel)
set_option maxRecDepth 100000 in
theorem gw174 : Jvm.Cond.code ⟨"LeftAnswers$Life", "begin", "(I)V"⟩ prog_6_method_2_code 3 none ∈ gtb := gtb_t1 (i := 186) rfl (by decide +kernel)
set_option maxRecDepth 100000 in
theorem gw175 : Jvm.Cond.instanceMethod ⟨"LeftAnswers$Life", "begin", "(I)V"⟩ ∈ gtb := gtb_t1 (i := 184) rfl (by decide +kernel)
set_option maxRecDepth 100000 in
theorem gw176 : Jvm.Cond.methodLink "LeftAnswers" 124 ⟨"LeftAnswers$Past", "forget", "()V"⟩ ∈ gtb := gtb_t3 (i := 146) rfl (by decide +kernel)
set_option maxRecDepth 100000 in
theorem gw177 : Jvm.Cond.selects "LeftAnswers$Past" ⟨"LeftAnswers$Past", "forget", "()V"⟩ ⟨"LeftAnswers$Past", "forget", "()V"⟩ ∈ gtb := gtb_t3 (i := 148) rfl (by decide +kernel)
set_option maxRecDepth 100000 in
theorem gw178 : Jvm.Cond.code ⟨"LeftAnswers$Past", "forget", "()V"⟩ prog_9_method_2_code 1 none ∈ gtb := gtb_t3 (i := 149) rfl (by decide +kernel)
set_option maxRecDepth 100000 in
theorem gw179 : Jvm.Cond.instanceMethod ⟨"LeftAnswers$Past", "forget", "()V"⟩ ∈ gtb := gtb_t3 (i := 147) rfl (by decide +kernel)
set_option maxRecDepth 100000 in
theorem gw180 : Jvm.Cond.methodLink "LeftAnswers" 127 ⟨"LeftAnswers$Sentence", "clear", "()V"⟩ ∈ gtb := gtb_t3 (i := 150) rfl (by decide +kernel)
set_option maxRecDepth 100000 in
theorem gw181 : Jvm.Cond.selects "LeftAnswers$Sentence" ⟨"LeftAnswers$Sentence", "clear", "()V"⟩ ⟨"LeftAnswers$Sentence", "clear", "()V"⟩ ∈ gtb := gtb_t3 (i := 152) rfl (by decide +kernel)
set_option maxRecDepth 100000 in
theorem gw182 : Jvm.Cond.code ⟨"LeftAnswers$Sentence", "clear", "()V"⟩ prog_10_method_2_code 1 none ∈ gtb := gtb_t3 (i := 153) rfl (by decide +kernel)
set_option maxRecDepth 100000 in
theorem gw183 : Jvm.Cond.instanceMethod ⟨"LeftAnswers$Sentence", "clear", "()V"⟩ ∈ gtb := gtb_t3 (i := 151) rfl (by decide +kernel)
set_option maxRecDepth 100000 in
theorem gw184 : Jvm.Cond.methodLink "LeftAnswers" 296 ⟨"LeftAnswers$Life", "mostPay", "(LLeftAnswers$Duchy;I)I"⟩ ∈ gtb := gtb_t5 (i := 5) rfl (by decide +kernel)
set_option maxRecDepth 100000 in
theorem gw185 : Jvm.Cond.selects "LeftAnswers$Life" ⟨"LeftAnswers$Life", "mostPay", "(LLeftAnswers$Duchy;I)I"⟩ ⟨"LeftAnswers$Life", "mostPay", "(LLeftAnswers$Duchy;I)I"⟩ ∈ gtb := gtb_t5 (i := 7) rfl (by decide +kernel)
set_option maxRecDepth 100000 in
theorem gw186 : Jvm.Cond.code ⟨"LeftAnswers$Life", "mostPay", "(LLeftAnswers$Duchy;I)I"⟩ prog_6_method_31_code 4 (some .int) ∈ gtb := gtb_t5 (i := 8) rfl (by decide +kernel)
set_option maxRecDepth 100000 in
theorem gw187 : Jvm.Cond.instanceMethod ⟨"LeftAnswers$Life", "mostPay", "(LLeftAnswers$Duchy;I)I"⟩ ∈ gtb := gtb_t5 (i := 6) rfl (by decide +kernel)
set_option maxRecDepth 100000 in
theorem gw188 : Jvm.Cond.methodLink "LeftAnswers" 104 ⟨"LeftAnswers$Tape", "put", "(I)V"⟩ ∈ gtb := gtb_t3 (i := 6) rfl (by decide +kernel)
set_option maxRecDepth 100000 in
theorem gw189 : Jvm.Cond.selects "LeftAnswers$Tape" ⟨"LeftAnswers$Tape", "put", "(I)V"⟩ ⟨"LeftAnswers$Tape", "put", "(I)V"⟩ ∈ gtb := gtb_t3 (i := 8) rfl (by decide +kernel)
set_option maxRecDepth 100000 in
theorem gw190 : Jvm.Cond.code ⟨"LeftAnswers$Tape", "put", "(I)V"⟩ prog_12_method_2_code 3 none ∈ gtb := gtb_t3 (i := 9) rfl (by decide +kernel)
set_option maxRecDepth 100000 in
theorem gw191 : Jvm.Cond.instanceMethod ⟨"LeftAnswers$Tape", "put", "(I)V"⟩ ∈ gtb := gtb_t3 (i := 7) rfl (by decide +kernel)
set_option maxRecDepth 100000 in
theorem gw192 : Jvm.Cond.methodLink "LeftAnswers" 281 ⟨"LeftAnswers", "bitAt", "(II)I"⟩ ∈ gtb := gtb_t4 (i := 183) rfl (by decide +kernel)
set_option maxRecDepth 100000 in
theorem gw193 : Jvm.Cond.code ⟨"LeftAnswers", "bitAt", "(II)I"⟩ prog_1_method_48_code 4 (some .int) ∈ gtb := gtb_t4 (i := 185) rfl (by decide +kernel)
set_option maxRecDepth 100000 in
theorem gw194 : Jvm.Cond.static ⟨"LeftAnswers", "bitAt", "(II)I"⟩ ∈ gtb := gtb_t4 (i := 184) rfl (by decide +kernel)
set_option maxRecDepth 100000 in
theorem gw195 : Jvm.Cond.methodLink "LeftAnswers" 242 ⟨"LeftAnswers", "tapeTellsDeeds", "(I)Z"⟩ ∈ gtb := gtb_t4 (i := 100) rfl (by decide +kernel)
set_option maxRecDepth 100000 in
theorem gw196 : Jvm.Cond.selects "LeftAnswers" ⟨"LeftAnswers", "tapeTellsDeeds", "(I)Z"⟩ ⟨"LeftAnswers", "tapeTellsDeeds", "(I)Z"⟩ ∈ gtb := gtb_in (i := 22) (by decide +kernel) (by decide +kernel)
set_option maxRecDepth 100000 in
theorem gw197 : Jvm.Cond.code ⟨"LeftAnswers", "tapeTellsDeeds", "(I)Z"⟩ prog_1_method_46_code 3 (some .boolean) ∈ gtb := gtb_t4 (i := 103) rfl (by decide +kernel)
set_option maxRecDepth 100000 in
theorem gw198 : Jvm.Cond.instanceMethod ⟨"LeftAnswers", "tapeTellsDeeds", "(I)Z"⟩ ∈ gtb := gtb_t4 (i := 102) rfl (by decide +kernel)
set_option maxRecDepth 100000 in
theorem gw199 : Jvm.Cond.methodLink "LeftAnswers" 263 ⟨"LeftAnswers", "tapeTellsOutcomes", "()Z"⟩ ∈ gtb := gtb_t4 (i := 146) rfl (by decide +kernel)
set_option maxRecDepth 100000 in
theorem gw200 : Jvm.Cond.selects "LeftAnswers" ⟨"LeftAnswers", "tapeTellsOutcomes", "()Z"⟩ ⟨"LeftAnswers", "tapeTellsOutcomes", "()Z"⟩ ∈ gtb := gtb_in (i := 24) (by decide +kernel) (by decide +kernel)
set_option maxRecDepth 100000 in
theorem gw201 : Jvm.Cond.code ⟨"LeftAnswers", "tapeTellsOutcomes", "()Z"⟩ prog_1_method_47_code 2 (some .boolean) ∈ gtb := gtb_t4 (i := 149) rfl (by decide +kernel)
set_option maxRecDepth 100000 in
theorem gw202 : Jvm.Cond.instanceMethod ⟨"LeftAnswers", "tapeTellsOutcomes", "()Z"⟩ ∈ gtb := gtb_t4 (i := 148) rfl (by decide +kernel)
set_option maxRecDepth 100000 in
theorem gw203 : Jvm.Cond.methodLink "LeftAnswers" 267 ⟨"LeftAnswers$Duchy", "allHandBits", "()I"⟩ ∈ gtb := gtb_t4 (i := 150) rfl (by decide +kernel)
set_option maxRecDepth 100000 in
theorem gw204 : Jvm.Cond.selects "LeftAnswers$Duchy" ⟨"LeftAnswers$Duchy", "allHandBits", "()I"⟩ ⟨"LeftAnswers$Duchy", "allHandBits", "()I"⟩ ∈ gtb := gtb_t4 (i := 152) rfl (by decide +kernel)
set_option maxRecDepth 100000 in
theorem gw205 : Jvm.Cond.code ⟨"LeftAnswers$Duchy", "allHandBits", "()I"⟩ prog_4_method_23_code 1 (some .int) ∈ gtb := gtb_t4 (i := 153) rfl (by decide +kernel)
set_option maxRecDepth 100000 in
theorem gw206 : Jvm.Cond.instanceMethod ⟨"LeftAnswers$Duchy", "allHandBits", "()I"⟩ ∈ gtb := gtb_t4 (i := 151) rfl (by decide +kernel)
set_option maxRecDepth 100000 in
theorem gw207 : Jvm.Cond.methodLink "LeftAnswers" 249 ⟨"LeftAnswers$Tape", "signAt", "(I)I"⟩ ∈ gtb := gtb_t4 (i := 104) rfl (by decide +kernel)
set_option maxRecDepth 100000 in
theorem gw208 : Jvm.Cond.selects "LeftAnswers$Tape" ⟨"LeftAnswers$Tape", "signAt", "(I)I"⟩ ⟨"LeftAnswers$Tape", "signAt", "(I)I"⟩ ∈ gtb := gtb_t3 (i := 36) rfl (by decide +kernel)
set_option maxRecDepth 100000 in
theorem gw209 : Jvm.Cond.code ⟨"LeftAnswers$Tape", "signAt", "(I)I"⟩ prog_12_method_3_code 2 (some .int) ∈ gtb := gtb_t3 (i := 37) rfl (by decide +kernel)
set_option maxRecDepth 100000 in
theorem gw210 : Jvm.Cond.instanceMethod ⟨"LeftAnswers$Tape", "signAt", "(I)I"⟩ ∈ gtb := gtb_t3 (i := 35) rfl (by decide +kernel)
set_option maxRecDepth 100000 in
theorem gw211 : Jvm.Cond.methodLink "LeftAnswers" 270 ⟨"LeftAnswers$Duchy", "canBits", "(I)I"⟩ ∈ gtb := gtb_t4 (i := 154) rfl (by decide +kernel)
set_option maxRecDepth 100000 in
theorem gw212 : Jvm.Cond.selects "LeftAnswers$Duchy" ⟨"LeftAnswers$Duchy", "canBits", "(I)I"⟩ ⟨"LeftAnswers$Duchy", "canBits", "(I)I"⟩ ∈ gtb := gtb_t4 (i := 156) rfl (by decide +kernel)
set_option maxRecDepth 100000 in
theorem gw213 : Jvm.Cond.code ⟨"LeftAnswers$Duchy", "canBits", "(I)I"⟩ prog_4_method_24_code 5 (some .int) ∈ gtb := gtb_t4 (i := 157) rfl (by decide +kernel)
set_option maxRecDepth 100000 in
theorem gw214 : Jvm.Cond.instanceMethod ⟨"LeftAnswers$Duchy", "canBits", "(I)I"⟩ ∈ gtb := gtb_t4 (i := 155) rfl (by decide +kernel)
set_option maxRecDepth 100000 in
theorem gw215 : Jvm.Cond.methodLink "LeftAnswers" 273 ⟨"LeftAnswers$Duchy", "bestTest", "(I)I"⟩ ∈ gtb := gtb_t4 (i := 164) rfl (by decide +kernel)
set_option maxRecDepth 100000 in
theorem gw216 : Jvm.Cond.selects "LeftAnswers$Duchy" ⟨"LeftAnswers$Duchy", "bestTest", "(I)I"⟩ ⟨"LeftAnswers$Duchy", "bestTest", "(I)I"⟩ ∈ gtb := gtb_t4 (i := 166) rfl (by decide +kernel)
set_option maxRecDepth 100000 in
theorem gw217 : Jvm.Cond.code ⟨"LeftAnswers$Duchy", "bestTest", "(I)I"⟩ prog_4_method_25_code 8 (some .int) ∈ gtb := gtb_t4 (i := 167) rfl (by decide +kernel)
set_option maxRecDepth 100000 in
theorem gw218 : Jvm.Cond.instanceMethod ⟨"LeftAnswers$Duchy", "bestTest", "(I)I"⟩ ∈ gtb := gtb_t4 (i := 165) rfl (by decide +kernel)
set_option maxRecDepth 100000 in
theorem gw219 : Jvm.Cond.methodLink "LeftAnswers" 276 ⟨"java/lang/Integer", "bitCount", "(I)I"⟩ ∈ gtb := gtb_t4 (i := 178) rfl (by decide +kernel)
set_option maxRecDepth 100000 in
theorem gw220 : Jvm.Cond.code ⟨"java/lang/Integer", "bitCount", "(I)I"⟩ prog_21_method_49_code 1 (some .int) ∈ gtb := gtb_t4 (i := 170) rfl (by decide +kernel)
set_option maxRecDepth 100000 in
theorem gw221 : Jvm.Cond.initialized "java/lang/Integer" ∈ gtb := gtb_t1 (i := 22) rfl (by decide +kernel)
set_option maxRecDepth 100000 in
theorem gw222 : Jvm.Cond.static ⟨"java/lang/Integer", "bitCount", "(I)I"⟩ ∈ gtb := gtb_t4 (i := 169) rfl (by decide +kernel)
set_option maxRecDepth 100000 in
theorem gw223 : Jvm.Cond.methodLink "LeftAnswers" 287 ⟨"LeftAnswers$Duchy", "fewestGuards", "()I"⟩ ∈ gtb := gtb_t4 (i := 206) rfl (by decide +kernel)
set_option maxRecDepth 100000 in
theorem gw224 : Jvm.Cond.selects "LeftAnswers$Duchy" ⟨"LeftAnswers$Duchy", "fewestGuards", "()I"⟩ ⟨"LeftAnswers$Duchy", "fewestGuards", "()I"⟩ ∈ gtb := gtb_t4 (i := 208) rfl (by decide +kernel)
set_option maxRecDepth 100000 in
theorem gw225 : Jvm.Cond.code ⟨"LeftAnswers$Duchy", "fewestGuards", "()I"⟩ prog_4_method_28_code 4 (some .int) ∈ gtb := gtb_t4 (i := 209) rfl (by decide +kernel)
set_option maxRecDepth 100000 in
theorem gw226 : Jvm.Cond.instanceMethod ⟨"LeftAnswers$Duchy", "fewestGuards", "()I"⟩ ∈ gtb := gtb_t4 (i := 207) rfl (by decide +kernel)
set_option maxRecDepth 100000 in
theorem gw227 : Jvm.Cond.methodLink "LeftAnswers" 284 ⟨"LeftAnswers$Duchy", "watchersBetween", "(II)I"⟩ ∈ gtb := gtb_t4 (i := 194) rfl (by decide +kernel)
set_option maxRecDepth 100000 in
theorem gw228 : Jvm.Cond.selects "LeftAnswers$Duchy" ⟨"LeftAnswers$Duchy", "watchersBetween", "(II)I"⟩ ⟨"LeftAnswers$Duchy", "watchersBetween", "(II)I"⟩ ∈ gtb := gtb_t4 (i := 196) rfl (by decide +kernel)
set_option maxRecDepth 100000 in
theorem gw229 : Jvm.Cond.code ⟨"LeftAnswers$Duchy", "watchersBetween", "(II)I"⟩ prog_4_method_26_code 5 (some .int) ∈ gtb := gtb_t4 (i := 197) rfl (by decide +kernel)
set_option maxRecDepth 100000 in
theorem gw230 : Jvm.Cond.instanceMethod ⟨"LeftAnswers$Duchy", "watchersBetween", "(II)I"⟩ ∈ gtb := gtb_t4 (i := 195) rfl (by decide +kernel)
set_option maxRecDepth 100000 in
theorem gw231 : Jvm.Cond.methodLink "LeftAnswers" 351 ⟨"LeftAnswers$Image", "keep", "(LLeftAnswers$Duchy;LLeftAnswers$Life;LLeftAnswers$Sentence;)V"⟩ ∈ gtb := gtb_t6 (i := 24) rfl (by decide +kernel)
set_option maxRecDepth 100000 in
theorem gw232 : Jvm.Cond.selects "LeftAnswers$Image" ⟨"LeftAnswers$Image", "keep", "(LLeftAnswers$Duchy;LLeftAnswers$Life;LLeftAnswers$Sentence;)V"⟩ ⟨"LeftAnswers$Image", "keep", "(LLeftAnswers$Duchy;LLeftAnswers$Life;LLeftAnswers$Sentence;)V"⟩ ∈ gtb := gtb_t6 (i := 26) rfl (by decide +kernel)
set_option maxRecDepth 100000 in
theorem gw233 : Jvm.Cond.code ⟨"LeftAnswers$Image", "keep", "(LLeftAnswers$Duchy;LLeftAnswers$Life;LLeftAnswers$Sentence;)V"⟩ prog_5_method_2_code 4 none ∈ gtb := gtb_t6 (i := 27) rfl (by decide +kernel)
set_option maxRecDepth 100000 in
theorem gw234 : Jvm.Cond.instanceMethod ⟨"LeftAnswers$Image", "keep", "(LLeftAnswers$Duchy;LLeftAnswers$Life;LLeftAnswers$Sentence;)V"⟩ ∈ gtb := gtb_t6 (i := 25) rfl (by decide +kernel)
set_option maxRecDepth 100000 in
theorem gw235 : Jvm.Cond.fieldLink "LeftAnswers" 190 "LeftAnswers$Life" "day" "I" ∈ gtb := gtb_t1 (i := 189) rfl (by decide +kernel)
set_option maxRecDepth 100000 in
theorem gw236 : Jvm.Cond.methodLink "LeftAnswers" 193 ⟨"LeftAnswers$Life", "jailedBits", "()I"⟩ ∈ gtb := gtb_t3 (i := 189) rfl (by decide +kernel)
set_option maxRecDepth 100000 in
theorem gw237 : Jvm.Cond.selects "LeftAnswers$Life" ⟨"LeftAnswers$Life", "jailedBits", "()I"⟩ ⟨"LeftAnswers$Life", "jailedBits", "()I"⟩ ∈ gtb := gtb_t3 (i := 191) rfl (by decide +kernel)
set_option maxRecDepth 100000 in
theorem gw238 : Jvm.Cond.code ⟨"LeftAnswers$Life", "jailedBits", "()I"⟩ prog_6_method_8_code 3 (some .int) ∈ gtb := gtb_t3 (i := 192) rfl (by decide +kernel)
set_option maxRecDepth 100000 in
theorem gw239 : Jvm.Cond.instanceMethod ⟨"LeftAnswers$Life", "jailedBits", "()I"⟩ ∈ gtb := gtb_t3 (i := 190) rfl (by decide +kernel)
set_option maxRecDepth 100000 in
theorem gw240 : Jvm.Cond.fieldLink "LeftAnswers" 197 "LeftAnswers$Life" "gloved" "I" ∈ gtb := gtb_t1 (i := 196) rfl (by decide +kernel)
set_option maxRecDepth 100000 in
theorem gw241 : Jvm.Cond.methodLink "LeftAnswers" 198 ⟨"LeftAnswers$Life", "wedBits", "()I"⟩ ∈ gtb := gtb_t3 (i := 197) rfl (by decide +kernel)
set_option maxRecDepth 100000 in
theorem gw242 : Jvm.Cond.selects "LeftAnswers$Life" ⟨"LeftAnswers$Life", "wedBits", "()I"⟩ ⟨"LeftAnswers$Life", "wedBits", "()I"⟩ ∈ gtb := gtb_t3 (i := 199) rfl (by decide +kernel)
set_option maxRecDepth 100000 in
theorem gw243 : Jvm.Cond.code ⟨"LeftAnswers$Life", "wedBits", "()I"⟩ prog_6_method_9_code 3 (some .int) ∈ gtb := gtb_t3 (i := 200) rfl (by decide +kernel)
set_option maxRecDepth 100000 in
theorem gw244 : Jvm.Cond.instanceMethod ⟨"LeftAnswers$Life", "wedBits", "()I"⟩ ∈ gtb := gtb_t3 (i := 198) rfl (by decide +kernel)
set_option maxRecDepth 100000 in
theorem gw245 : Jvm.Cond.methodLink "LeftAnswers" 201 ⟨"LeftAnswers$Life", "seenBits", "(LLeftAnswers$Duchy;)I"⟩ ∈ gtb := gtb_t3 (i := 205) rfl (by decide +kernel)
set_option maxRecDepth 100000 in
theorem gw246 : Jvm.Cond.selects "LeftAnswers$Life" ⟨"LeftAnswers$Life", "seenBits", "(LLeftAnswers$Duchy;)I"⟩ ⟨"LeftAnswers$Life", "seenBits", "(LLeftAnswers$Duchy;)I"⟩ ∈ gtb := gtb_t3 (i := 207) rfl (by decide +kernel)
set_option maxRecDepth 100000 in
theorem gw247 : Jvm.Cond.code ⟨"LeftAnswers$Life", "seenBits", "(LLeftAnswers$Duchy;)I"⟩ prog_6_method_11_code 5 (some .int) ∈ gtb := gtb_t3 (i := 208) rfl (by decide +kernel)
set_option maxRecDepth 100000 in
theorem gw248 : Jvm.Cond.instanceMethod ⟨"LeftAnswers$Life", "seenBits", "(LLeftAnswers$Duchy;)I"⟩ ∈ gtb := gtb_t3 (i := 206) rfl (by decide +kernel)
set_option maxRecDepth 100000 in
theorem gw249 : Jvm.Cond.methodLink "LeftAnswers" 205 ⟨"LeftAnswers$Life", "allCoins", "()I"⟩ ∈ gtb := gtb_t3 (i := 210) rfl (by decide +kernel)
set_option maxRecDepth 100000 in
theorem gw250 : Jvm.Cond.selects "LeftAnswers$Life" ⟨"LeftAnswers$Life", "allCoins", "()I"⟩ ⟨"LeftAnswers$Life", "allCoins", "()I"⟩ ∈ gtb := gtb_t3 (i := 212) rfl (by decide +kernel)
set_option maxRecDepth 100000 in
theorem gw251 : Jvm.Cond.code ⟨"LeftAnswers$Life", "allCoins", "()I"⟩ prog_6_method_12_code 3 (some .int) ∈ gtb := gtb_t3 (i := 213) rfl (by decide +kernel)
set_option maxRecDepth 100000 in
theorem gw252 : Jvm.Cond.instanceMethod ⟨"LeftAnswers$Life", "allCoins", "()I"⟩ ∈ gtb := gtb_t3 (i := 211) rfl (by decide +kernel)
set_option maxRecDepth 100000 in
theorem gw253 : Jvm.Cond.fieldLink "LeftAnswers" 208 "LeftAnswers$Life" "hadUp" "I" ∈ gtb := gtb_t1 (i := 191) rfl (by decide +kernel)
set_option maxRecDepth 100000 in
theorem gw254 : Jvm.Cond.fieldLink "LeftAnswers" 211 "LeftAnswers$Life" "done" "I" ∈ gtb := gtb_t1 (i := 193) rfl (by decide +kernel)
set_option maxRecDepth 100000 in
theorem gw255 : Jvm.Cond.fieldLink "LeftAnswers" 141 "LeftAnswers$Life" "coins" "[I" ∈ gtb := gtb_t1 (i := 201) rfl (by decide +kernel)
set_option maxRecDepth 100000 in
theorem gw256 : Jvm.Cond.methodLink "LeftAnswers" 245 ⟨"LeftAnswers$Parted", "begin", "(I)V"⟩ ∈ gtb := gtb_t4 (i := 105) rfl (by decide +kernel)
set_option maxRecDepth 100000 in
theorem gw257 : Jvm.Cond.selects "LeftAnswers$Parted" ⟨"LeftAnswers$Parted", "begin", "(I)V"⟩ ⟨"LeftAnswers$Parted", "begin", "(I)V"⟩ ∈ gtb := gtb_t4 (i := 107) rfl (by decide +kernel)
set_option maxRecDepth 100000 in
theorem gw258 : Jvm.Cond.code ⟨"LeftAnswers$Parted", "begin", "(I)V"⟩ prog_8_method_2_code 2 none ∈ gtb := gtb_t4 (i := 108) rfl (by decide +kernel)
set_option maxRecDepth 100000 in
theorem gw259 : Jvm.Cond.instanceMethod ⟨"LeftAnswers$Parted", "begin", "(I)V"⟩ ∈ gtb := gtb_t4 (i := 106) rfl (by decide +kernel)
set_option maxRecDepth 100000 in
theorem gw260 : Jvm.Cond.fieldLink "LeftAnswers" 246 "LeftAnswers$Parted" "can" "[I" ∈ gtb := gtb_t2 (i := 106) rfl (by decide +kernel)
set_option maxRecDepth 100000 in
theorem gw261 : Jvm.Cond.methodLink "LeftAnswers" 253 ⟨"LeftAnswers$Life", "blamelessBits", "(LLeftAnswers$Duchy;I)I"⟩ ∈ gtb := gtb_t4 (i := 113) rfl (by decide +kernel)
set_option maxRecDepth 100000 in
theorem gw262 : Jvm.Cond.selects "LeftAnswers$Life" ⟨"LeftAnswers$Life", "blamelessBits", "(LLeftAnswers$Duchy;I)I"⟩ ⟨"LeftAnswers$Life", "blamelessBits", "(LLeftAnswers$Duchy;I)I"⟩ ∈ gtb := gtb_t4 (i := 115) rfl (by decide +kernel)
set_option maxRecDepth 100000 in
theorem gw263 : Jvm.Cond.code ⟨"LeftAnswers$Life", "blamelessBits", "(LLeftAnswers$Duchy;I)I"⟩ prog_6_method_30_code 8 (some .int) ∈ gtb := gtb_t4 (i := 116) rfl (by decide +kernel)
set_option maxRecDepth 100000 in
theorem gw264 : Jvm.Cond.instanceMethod ⟨"LeftAnswers$Life", "blamelessBits", "(LLeftAnswers$Duchy;I)I"⟩ ∈ gtb := gtb_t4 (i := 114) rfl (by decide +kernel)
set_option maxRecDepth 100000 in
theorem gw265 : Jvm.Cond.methodLink "LeftAnswers" 257 ⟨"LeftAnswers$Parted", "solve", "()I"⟩ ∈ gtb := gtb_t4 (i := 121) rfl (by decide +kernel)
set_option maxRecDepth 100000 in
theorem gw266 : Jvm.Cond.selects "LeftAnswers$Parted" ⟨"LeftAnswers$Parted", "solve", "()I"⟩ ⟨"LeftAnswers$Parted", "solve", "()I"⟩ ∈ gtb := gtb_t4 (i := 123) rfl (by decide +kernel)
set_option maxRecDepth 100000 in
theorem gw267 : Jvm.Cond.code ⟨"LeftAnswers$Parted", "solve", "()I"⟩ prog_8_method_3_code 2 (some .int) ∈ gtb := gtb_t4 (i := 124) rfl (by decide +kernel)
set_option maxRecDepth 100000 in
theorem gw268 : Jvm.Cond.instanceMethod ⟨"LeftAnswers$Parted", "solve", "()I"⟩ ∈ gtb := gtb_t4 (i := 122) rfl (by decide +kernel)
set_option maxRecDepth 100000 in
theorem gw269 : Jvm.Cond.methodLink "LeftAnswers" 260 ⟨"LeftAnswers$Parted", "placeOf", "(I)I"⟩ ∈ gtb := gtb_t4 (i := 138) rfl (by decide +kernel)
set_option maxRecDepth 100000 in
theorem gw270 : Jvm.Cond.selects "LeftAnswers$Parted" ⟨"LeftAnswers$Parted", "placeOf", "(I)I"⟩ ⟨"LeftAnswers$Parted", "placeOf", "(I)I"⟩ ∈ gtb := gtb_t4 (i := 140) rfl (by decide +kernel)
set_option maxRecDepth 100000 in
theorem gw271 : Jvm.Cond.code ⟨"LeftAnswers$Parted", "placeOf", "(I)I"⟩ prog_8_method_6_code 2 (some .int) ∈ gtb := gtb_t4 (i := 141) rfl (by decide +kernel)
set_option maxRecDepth 100000 in
theorem gw272 : Jvm.Cond.instanceMethod ⟨"LeftAnswers$Parted", "placeOf", "(I)I"⟩ ∈ gtb := gtb_t4 (i := 139) rfl (by decide +kernel)
set_option maxRecDepth 100000 in
theorem gw273 : Jvm.Cond.fieldLink "LeftAnswers" 145 "LeftAnswers$Life" "blame" "[I" ∈ gtb := gtb_t1 (i := 204) rfl (by decide +kernel)
set_option maxRecDepth 100000 in
theorem gw274 : Jvm.Cond.fieldLink "LeftAnswers" 148 "LeftAnswers$Life" "cell" "[I" ∈ gtb := gtb_t1 (i := 208) rfl (by decide +kernel)
set_option maxRecDepth 100000 in
theorem gw275 : Jvm.Cond.fieldLink "LeftAnswers" 151 "LeftAnswers$Life" "ideas" "[I" ∈ gtb := gtb_t1 (i := 210) rfl (by decide +kernel)
set_option maxRecDepth 100000 in
theorem gw276 : Jvm.Cond.fieldLink "LeftAnswers" 154 "LeftAnswers$Life" "spouse" "[I" ∈ gtb := gtb_t1 (i := 214) rfl (by decide +kernel)
set_option maxRecDepth 100000 in
theorem gw277 : Jvm.Cond.methodLink "LeftAnswers" 157 ⟨"LeftAnswers$Life", "isGloved", "(I)Z"⟩ ∈ gtb := gtb_t6 (i := 123) rfl (by decide +kernel)
set_option maxRecDepth 100000 in
theorem gw278 : Jvm.Cond.selects "LeftAnswers$Life" ⟨"LeftAnswers$Life", "isGloved", "(I)Z"⟩ ⟨"LeftAnswers$Life", "isGloved", "(I)Z"⟩ ∈ gtb := gtb_t4 (i := 1) rfl (by decide +kernel)
set_option maxRecDepth 100000 in
theorem gw279 : Jvm.Cond.code ⟨"LeftAnswers$Life", "isGloved", "(I)Z"⟩ prog_6_method_5_code 2 (some .boolean) ∈ gtb := gtb_t4 (i := 2) rfl (by decide +kernel)
set_option maxRecDepth 100000 in
theorem gw280 : Jvm.Cond.instanceMethod ⟨"LeftAnswers$Life", "isGloved", "(I)Z"⟩ ∈ gtb := gtb_t4 (i := 0) rfl (by decide +kernel)
set_option maxRecDepth 100000 in
theorem gw281 : Jvm.Cond.fieldLink "LeftAnswers" 160 "LeftAnswers$Life" "hands" "[I" ∈ gtb := gtb_t1 (i := 217) rfl (by decide +kernel)
set_option maxRecDepth 100000 in
theorem gw282 : Jvm.Cond.methodLink "LeftAnswers" 163 ⟨"LeftAnswers$Life", "isSeen", "(LLeftAnswers$Duchy;I)Z"⟩ ∈ gtb := gtb_t6 (i := 124) rfl (by decide +kernel)
set_option maxRecDepth 100000 in
theorem gw283 : Jvm.Cond.selects "LeftAnswers$Life" ⟨"LeftAnswers$Life", "isSeen", "(LLeftAnswers$Duchy;I)Z"⟩ ⟨"LeftAnswers$Life", "isSeen", "(LLeftAnswers$Duchy;I)Z"⟩ ∈ gtb := gtb_t4 (i := 35) rfl (by decide +kernel)
set_option maxRecDepth 100000 in
theorem gw284 : Jvm.Cond.code ⟨"LeftAnswers$Life", "isSeen", "(LLeftAnswers$Duchy;I)Z"⟩ prog_6_method_7_code 3 (some .boolean) ∈ gtb := gtb_t4 (i := 36) rfl (by decide +kernel)
set_option maxRecDepth 100000 in
theorem gw285 : Jvm.Cond.instanceMethod ⟨"LeftAnswers$Life", "isSeen", "(LLeftAnswers$Duchy;I)Z"⟩ ∈ gtb := gtb_t4 (i := 34) rfl (by decide +kernel)
set_option maxRecDepth 100000 in
theorem gw286 : Jvm.Cond.fieldLink "LeftAnswers" 354 "LeftAnswers$Image" "kept" "Z" ∈ gtb := gtb_t2 (i := 177) rfl (by decide +kernel)
set_option maxRecDepth 100000 in
theorem gw287 : Jvm.Cond.methodLink "LeftAnswers" 357 ⟨"LeftAnswers$Image", "giveBack", "(LLeftAnswers$Duchy;LLeftAnswers$Life;LLeftAnswers$Sentence;)V"⟩ ∈ gtb := gtb_t6 (i := 42) rfl (by decide +kernel)
set_option maxRecDepth 100000 in
theorem gw288 : Jvm.Cond.selects "LeftAnswers$Image" ⟨"LeftAnswers$Image", "giveBack", "(LLeftAnswers$Duchy;LLeftAnswers$Life;LLeftAnswers$Sentence;)V"⟩ ⟨"LeftAnswers$Image", "giveBack", "(LLeftAnswers$Duchy;LLeftAnswers$Life;LLeftAnswers$Sentence;)V"⟩ ∈ gtb := gtb_t6 (i := 44) rfl (by decide +kernel)
set_option maxRecDepth 100000 in
theorem gw289 : Jvm.Cond.code ⟨"LeftAnswers$Image", "giveBack", "(LLeftAnswers$Duchy;LLeftAnswers$Life;LLeftAnswers$Sentence;)V"⟩ prog_5_method_3_code 4 none ∈ gtb := gtb_t6 (i := 45) rfl (by decide +kernel)
set_option maxRecDepth 100000 in
theorem gw290 : Jvm.Cond.instanceMethod ⟨"LeftAnswers$Image", "giveBack", "(LLeftAnswers$Duchy;LLeftAnswers$Life;LLeftAnswers$Sentence;)V"⟩ ∈ gtb := gtb_t6 (i := 43) rfl (by decide +kernel)
set_option maxRecDepth 100000 in
theorem gw291 : Jvm.Cond.fieldLink "LeftAnswers" 345 "LeftAnswers$Sentence" "ones" "I" ∈ gtb := gtb_t2 (i := 80) rfl (by decide +kernel)
set_option maxRecDepth 100000 in
theorem gw292 : Jvm.Cond.methodLink "LeftAnswers" 348 ⟨"LeftAnswers$Sentence", "trueOf", "(LLeftAnswers$Duchy;LLeftAnswers$Life;)I"⟩ ∈ gtb := gtb_t5 (i := 232) rfl (by decide +kernel)
set_option maxRecDepth 100000 in
theorem gw293 : Jvm.Cond.selects "LeftAnswers$Sentence" ⟨"LeftAnswers$Sentence", "trueOf", "(LLeftAnswers$Duchy;LLeftAnswers$Life;)I"⟩ ⟨"LeftAnswers$Sentence", "trueOf", "(LLeftAnswers$Duchy;LLeftAnswers$Life;)I"⟩ ∈ gtb := gtb_t5 (i := 234) rfl (by decide +kernel)
set_option maxRecDepth 100000 in
theorem gw294 : Jvm.Cond.code ⟨"LeftAnswers$Sentence", "trueOf", "(LLeftAnswers$Duchy;LLeftAnswers$Life;)I"⟩ prog_10_method_12_code 8 (some .int) ∈ gtb := gtb_t5 (i := 235) rfl (by decide +kernel)
set_option maxRecDepth 100000 in
theorem gw295 : Jvm.Cond.instanceMethod ⟨"LeftAnswers$Sentence", "trueOf", "(LLeftAnswers$Duchy;LLeftAnswers$Life;)I"⟩ ∈ gtb := gtb_t5 (i := 233) rfl (by decide +kernel)
set_option maxRecDepth 100000 in
theorem gw296 : Jvm.Cond.methodLink "LeftAnswers" 344 ⟨"LeftAnswers$Sentence", "readFrom", "(LLeftAnswers$Tape;LLeftAnswers$Duchy;)V"⟩ ∈ gtb := gtb_t5 (i := 181) rfl (by decide +kernel)
set_option maxRecDepth 100000 in
theorem gw297 : Jvm.Cond.selects "LeftAnswers$Sentence" ⟨"LeftAnswers$Sentence", "readFrom", "(LLeftAnswers$Tape;LLeftAnswers$Duchy;)V"⟩ ⟨"LeftAnswers$Sentence", "readFrom", "(LLeftAnswers$Tape;LLeftAnswers$Duchy;)V"⟩ ∈ gtb := gtb_t5 (i := 183) rfl (by decide +kernel)
set_option maxRecDepth 100000 in
theorem gw298 : Jvm.Cond.code ⟨"LeftAnswers$Sentence", "readFrom", "(LLeftAnswers$Tape;LLeftAnswers$Duchy;)V"⟩ prog_10_method_4_code 3 none ∈ gtb := gtb_t5 (i := 184) rfl (by decide +kernel)
set_option maxRecDepth 100000 in
theorem gw299 : Jvm.Cond.instanceMethod ⟨"LeftAnswers$Sentence", "readFrom", "(LLeftAnswers$Tape;LLeftAnswers$Duchy;)V"⟩ ∈ gtb := gtb_t5 (i := 182) rfl (by decide +kernel)
end
section
set_option maxRecDepth 100000 in
theorem gw300 : Jvm.Cond.methodLink "LeftAnswers" 170 ⟨"LeftAnswers$Duchy", "skillOf", "(II)I"⟩ ∈ gtb := gtb_t3 (i := 169) rfl (by decide +kernel)
set_option maxRecDepth 100000 in
theorem gw301 : Jvm.Cond.selects "LeftAnswers$Duchy" ⟨"LeftAnswers$Duchy", "skillOf", "(II)I"⟩ ⟨"LeftAnswers$Duchy", "skillOf", "(II)I"⟩ ∈ gtb := gtb_t3 (i := 171) rfl (by decide +kernel)
set_option maxRecDepth 100000 in
theorem gw302 : Jvm.Cond.code ⟨"LeftAnswers$Duchy", "skillOf", "(II)I"⟩ prog_4_method_17_code 3 (some .int) ∈ gtb := gtb_t3 (i := 172) rfl (by decide +kernel)
set_option maxRecDepth 100000 in
theorem gw303 : Jvm.Cond.instanceMethod ⟨"LeftAnswers$Duchy", "skillOf", "(II)I"⟩ ∈ gtb := gtb_t3 (i := 170) rfl (by decide +kernel)
set_option maxRecDepth 100000 in
theorem gw304 : Jvm.Cond.methodLink "LeftAnswers" 302 ⟨"LeftAnswers$Slip", "write", "(LLeftAnswers$Duchy;LLeftAnswers$Life;I)V"⟩ ∈ gtb := gtb_t5 (i := 23) rfl (by decide +kernel)
set_option maxRecDepth 100000 in
theorem gw305 : Jvm.Cond.selects "LeftAnswers$Slip" ⟨"LeftAnswers$Slip", "write", "(LLeftAnswers$Duchy;LLeftAnswers$Life;I)V"⟩ ⟨"LeftAnswers$Slip", "write", "(LLeftAnswers$Duchy;LLeftAnswers$Life;I)V"⟩ ∈ gtb := gtb_t5 (i := 25) rfl (by decide +kernel)
set_option maxRecDepth 100000 in
theorem gw306 : Jvm.Cond.code ⟨"LeftAnswers$Slip", "write", "(LLeftAnswers$Duchy;LLeftAnswers$Life;I)V"⟩ prog_11_method_2_code 5 none ∈ gtb := gtb_t5 (i := 26) rfl (by decide +kernel)
set_option maxRecDepth 100000 in
theorem gw307 : Jvm.Cond.instanceMethod ⟨"LeftAnswers$Slip", "write", "(LLeftAnswers$Duchy;LLeftAnswers$Life;I)V"⟩ ∈ gtb := gtb_t5 (i := 24) rfl (by decide +kernel)
set_option maxRecDepth 100000 in
theorem gw308 : Jvm.Cond.fieldLink "LeftAnswers" 378 "LeftAnswers$Tape" "fault" "I" ∈ gtb := gtb_t1 (i := 66) rfl (by decide +kernel)
set_option maxRecDepth 100000 in
theorem gw309 : Jvm.Cond.fieldLink "LeftAnswers" 328 "LeftAnswers$Book" "judged" "Z" ∈ gtb := gtb_t2 (i := 36) rfl (by decide +kernel)
set_option maxRecDepth 100000 in
theorem gw310 : Jvm.Cond.fieldLink "LeftAnswers" 332 "LeftAnswers$Book" "why" "I" ∈ gtb := gtb_t2 (i := 40) rfl (by decide +kernel)
set_option maxRecDepth 100000 in
theorem gw311 : Jvm.Cond.fieldLink "LeftAnswers" 335 "LeftAnswers$Book" "goodLines" "I" ∈ gtb := gtb_t2 (i := 42) rfl (by decide +kernel)
set_option maxRecDepth 100000 in
theorem gw312 : Jvm.Cond.fieldLink "LeftAnswers" 338 "LeftAnswers$Book" "dayThen" "I" ∈ gtb := gtb_t2 (i := 44) rfl (by decide +kernel)
set_option maxRecDepth 100000 in
theorem gw313 : Jvm.Cond.fieldLink "LeftAnswers" 341 "LeftAnswers$Book" "jailedThen" "I" ∈ gtb := gtb_t2 (i := 46) rfl (by decide +kernel)
set_option maxRecDepth 100000 in
theorem gw314 : Jvm.Cond.methodLink "LeftAnswers" 234 ⟨"LeftAnswers$Past", "takeBack", "(LLeftAnswers$Life;)I"⟩ ∈ gtb := gtb_t4 (i := 84) rfl (by decide +kernel)
set_option maxRecDepth 100000 in
theorem gw315 : Jvm.Cond.selects "LeftAnswers$Past" ⟨"LeftAnswers$Past", "takeBack", "(LLeftAnswers$Life;)I"⟩ ⟨"LeftAnswers$Past", "takeBack", "(LLeftAnswers$Life;)I"⟩ ∈ gtb := gtb_t4 (i := 86) rfl (by decide +kernel)
set_option maxRecDepth 100000 in
theorem gw316 : Jvm.Cond.code ⟨"LeftAnswers$Past", "takeBack", "(LLeftAnswers$Life;)I"⟩ prog_9_method_4_code 2 (some .int) ∈ gtb := gtb_t4 (i := 87) rfl (by decide +kernel)
set_option maxRecDepth 100000 in
theorem gw317 : Jvm.Cond.instanceMethod ⟨"LeftAnswers$Past", "takeBack", "(LLeftAnswers$Life;)I"⟩ ∈ gtb := gtb_t4 (i := 85) rfl (by decide +kernel)
set_option maxRecDepth 100000 in
theorem gw318 : Jvm.Cond.methodLink "LeftAnswers$Book" 3 ⟨"java/lang/Object", "<init>", "()V"⟩ ∈ gtb := gtb_t2 (i := 29) rfl (by decide +kernel)
set_option maxRecDepth 100000 in
theorem gw319 : Jvm.Cond.arrayClass .int ∈ gtb := gtb_t1 (i := 176) rfl (by decide +kernel)
set_option maxRecDepth 100000 in
theorem gw320 : Jvm.Cond.fieldLink "LeftAnswers$Book" 11 "LeftAnswers$Book" "verbs" "[I" ∈ gtb := gtb_t2 (i := 30) rfl (by decide +kernel)
set_option maxRecDepth 100000 in
theorem gw321 : Jvm.Cond.fieldLink "LeftAnswers$Book" 15 "LeftAnswers$Book" "doers" "[I" ∈ gtb := gtb_t2 (i := 31) rfl (by decide +kernel)
set_option maxRecDepth 100000 in
theorem gw322 : Jvm.Cond.fieldLink "LeftAnswers$Book" 18 "LeftAnswers$Book" "others" "[I" ∈ gtb := gtb_t2 (i := 32) rfl (by decide +kernel)
set_option maxRecDepth 100000 in
theorem gw323 : Jvm.Cond.fieldLink "LeftAnswers$Book" 21 "LeftAnswers$Book" "hands" "[I" ∈ gtb := gtb_t2 (i := 33) rfl (by decide +kernel)
set_option maxRecDepth 100000 in
theorem gw324 : Jvm.Cond.fieldLink "LeftAnswers$Book" 24 "LeftAnswers$Book" "lines" "I" ∈ gtb := gtb_t2 (i := 34) rfl (by decide +kernel)
set_option maxRecDepth 100000 in
theorem gw325 : Jvm.Cond.fieldLink "LeftAnswers$Book" 101 "LeftAnswers$Book" "why" "I" ∈ gtb := gtb_t2 (i := 39) rfl (by decide +kernel)
set_option maxRecDepth 100000 in
theorem gw326 : Jvm.Cond.fieldLink "LeftAnswers$Book" 104 "LeftAnswers$Book" "wrongLine" "I" ∈ gtb := gtb_t2 (i := 37) rfl (by decide +kernel)
set_option maxRecDepth 100000 in
theorem gw327 : Jvm.Cond.fieldLink "LeftAnswers$Book" 107 "LeftAnswers$Book" "goodLines" "I" ∈ gtb := gtb_t2 (i := 41) rfl (by decide +kernel)
set_option maxRecDepth 100000 in
theorem gw328 : Jvm.Cond.methodLink "LeftAnswers$Book" 110 ⟨"LeftAnswers$Life", "whyNot", "(LLeftAnswers$Duchy;IIII)I"⟩ ∈ gtb := gtb_t5 (i := 170) rfl (by decide +kernel)
set_option maxRecDepth 100000 in
theorem gw329 : Jvm.Cond.methodLink "LeftAnswers$Book" 116 ⟨"LeftAnswers$Life", "perform", "(LLeftAnswers$Duchy;IIII)V"⟩ ∈ gtb := gtb_t5 (i := 171) rfl (by decide +kernel)
set_option maxRecDepth 100000 in
theorem gw330 : Jvm.Cond.fieldLink "LeftAnswers$Book" 120 "LeftAnswers$Life" "day" "I" ∈ gtb := gtb_t1 (i := 188) rfl (by decide +kernel)
set_option maxRecDepth 100000 in
theorem gw331 : Jvm.Cond.fieldLink "LeftAnswers$Book" 123 "LeftAnswers$Book" "dayThen" "I" ∈ gtb := gtb_t2 (i := 43) rfl (by decide +kernel)
set_option maxRecDepth 100000 in
theorem gw332 : Jvm.Cond.methodLink "LeftAnswers$Book" 126 ⟨"LeftAnswers$Life", "jailedBits", "()I"⟩ ∈ gtb := gtb_t5 (i := 172) rfl (by decide +kernel)
set_option maxRecDepth 100000 in
theorem gw333 : Jvm.Cond.fieldLink "LeftAnswers$Book" 129 "LeftAnswers$Book" "jailedThen" "I" ∈ gtb := gtb_t2 (i := 45) rfl (by decide +kernel)
set_option maxRecDepth 100000 in
theorem gw334 : Jvm.Cond.fieldLink "LeftAnswers$Book" 132 "LeftAnswers$Book" "judged" "Z" ∈ gtb := gtb_t2 (i := 35) rfl (by decide +kernel)
set_option maxRecDepth 100000 in
theorem gw335 : Jvm.Cond.methodLink "LeftAnswers$Book" 76 ⟨"LeftAnswers$Duchy", "personHere", "(LLeftAnswers$Tape;)I"⟩ ∈ gtb := gtb_t5 (i := 150) rfl (by decide +kernel)
set_option maxRecDepth 100000 in
theorem gw336 : Jvm.Cond.selects "LeftAnswers$Duchy" ⟨"LeftAnswers$Duchy", "personHere", "(LLeftAnswers$Tape;)I"⟩ ⟨"LeftAnswers$Duchy", "personHere", "(LLeftAnswers$Tape;)I"⟩ ∈ gtb := gtb_t3 (i := 116) rfl (by decide +kernel)
set_option maxRecDepth 100000 in
theorem gw337 : Jvm.Cond.code ⟨"LeftAnswers$Duchy", "personHere", "(LLeftAnswers$Tape;)I"⟩ prog_4_method_13_code 2 (some .int) ∈ gtb := gtb_t3 (i := 117) rfl (by decide +kernel)
set_option maxRecDepth 100000 in
theorem gw338 : Jvm.Cond.instanceMethod ⟨"LeftAnswers$Duchy", "personHere", "(LLeftAnswers$Tape;)I"⟩ ∈ gtb := gtb_t3 (i := 115) rfl (by decide +kernel)
set_option maxRecDepth 100000 in
theorem gw339 : Jvm.Cond.methodLink "LeftAnswers$Book" 58 ⟨"LeftAnswers$Tape", "refuse", "(I)Z"⟩ ∈ gtb := gtb_t5 (i := 139) rfl (by decide +kernel)
set_option maxRecDepth 100000 in
theorem gw340 : Jvm.Cond.selects "LeftAnswers$Tape" ⟨"LeftAnswers$Tape", "refuse", "(I)Z"⟩ ⟨"LeftAnswers$Tape", "refuse", "(I)Z"⟩ ∈ gtb := gtb_t3 (i := 82) rfl (by decide +kernel)
set_option maxRecDepth 100000 in
theorem gw341 : Jvm.Cond.code ⟨"LeftAnswers$Tape", "refuse", "(I)Z"⟩ prog_12_method_12_code 2 (some .boolean) ∈ gtb := gtb_t3 (i := 83) rfl (by decide +kernel)
set_option maxRecDepth 100000 in
theorem gw342 : Jvm.Cond.instanceMethod ⟨"LeftAnswers$Tape", "refuse", "(I)Z"⟩ ∈ gtb := gtb_t3 (i := 81) rfl (by decide +kernel)
set_option maxRecDepth 100000 in
theorem gw343 : Jvm.Cond.methodLink "LeftAnswers$Book" 62 ⟨"LeftAnswers$Tape", "advance", "()V"⟩ ∈ gtb := gtb_t5 (i := 140) rfl (by decide +kernel)
set_option maxRecDepth 100000 in
theorem gw344 : Jvm.Cond.selects "LeftAnswers$Tape" ⟨"LeftAnswers$Tape", "advance", "()V"⟩ ⟨"LeftAnswers$Tape", "advance", "()V"⟩ ∈ gtb := gtb_t3 (i := 32) rfl (by decide +kernel)
set_option maxRecDepth 100000 in
theorem gw345 : Jvm.Cond.code ⟨"LeftAnswers$Tape", "advance", "()V"⟩ prog_12_method_5_code 1 none ∈ gtb := gtb_t3 (i := 33) rfl (by decide +kernel)
set_option maxRecDepth 100000 in
theorem gw346 : Jvm.Cond.instanceMethod ⟨"LeftAnswers$Tape", "advance", "()V"⟩ ∈ gtb := gtb_t3 (i := 31) rfl (by decide +kernel)
set_option maxRecDepth 100000 in
theorem gw347 : Jvm.Cond.fieldLink "LeftAnswers$Book" 37 "LeftAnswers$Tape" "word" "LLeftAnswers$Word;" ∈ gtb := gtb_t1 (i := 54) rfl (by decide +kernel)
set_option maxRecDepth 100000 in
theorem gw348 : Jvm.Cond.fieldLink "LeftAnswers$Book" 82 "LeftAnswers$1" "$SwitchMap$LeftAnswers$Word" "[I" ∈ gtb := gtb_t5 (i := 151) rfl (by decide +kernel)
set_option maxRecDepth 100000 in
theorem gw349 : Jvm.Cond.methodLink "LeftAnswers$Book" 87 ⟨"LeftAnswers$Word", "ordinal", "()I"⟩ ∈ gtb := gtb_t5 (i := 152) rfl (by decide +kernel)
set_option maxRecDepth 100000 in
theorem gw350 : Jvm.Cond.methodLink "LeftAnswers$Book" 91 ⟨"LeftAnswers$Book", "readDoes", "(LLeftAnswers$Tape;LLeftAnswers$Duchy;I)Z"⟩ ∈ gtb := gtb_t5 (i := 153) rfl (by decide +kernel)
set_option maxRecDepth 100000 in
theorem gw351 : Jvm.Cond.selects "LeftAnswers$Book" ⟨"LeftAnswers$Book", "readDoes", "(LLeftAnswers$Tape;LLeftAnswers$Duchy;I)Z"⟩ ⟨"LeftAnswers$Book", "readDoes", "(LLeftAnswers$Tape;LLeftAnswers$Duchy;I)Z"⟩ ∈ gtb := gtb_in (i := 37) (by decide +kernel) (by decide +kernel)
set_option maxRecDepth 100000 in
theorem gw352 : Jvm.Cond.code ⟨"LeftAnswers$Book", "readDoes", "(LLeftAnswers$Tape;LLeftAnswers$Duchy;I)Z"⟩ prog_3_method_5_code 5 (some .boolean) ∈ gtb := gtb_t5 (i := 156) rfl (by decide +kernel)
set_option maxRecDepth 100000 in
theorem gw353 : Jvm.Cond.instanceMethod ⟨"LeftAnswers$Book", "readDoes", "(LLeftAnswers$Tape;LLeftAnswers$Duchy;I)Z"⟩ ∈ gtb := gtb_t5 (i := 155) rfl (by decide +kernel)
set_option maxRecDepth 100000 in
theorem gw354 : Jvm.Cond.methodLink "LeftAnswers$Book" 95 ⟨"LeftAnswers$Book", "readWeds", "(LLeftAnswers$Tape;LLeftAnswers$Duchy;I)Z"⟩ ∈ gtb := gtb_t5 (i := 161) rfl (by decide +kernel)
set_option maxRecDepth 100000 in
theorem gw355 : Jvm.Cond.selects "LeftAnswers$Book" ⟨"LeftAnswers$Book", "readWeds", "(LLeftAnswers$Tape;LLeftAnswers$Duchy;I)Z"⟩ ⟨"LeftAnswers$Book", "readWeds", "(LLeftAnswers$Tape;LLeftAnswers$Duchy;I)Z"⟩ ∈ gtb := gtb_in (i := 38) (by decide +kernel) (by decide +kernel)
set_option maxRecDepth 100000 in
theorem gw356 : Jvm.Cond.code ⟨"LeftAnswers$Book", "readWeds", "(LLeftAnswers$Tape;LLeftAnswers$Duchy;I)Z"⟩ prog_3_method_6_code 5 (some .boolean) ∈ gtb := gtb_t5 (i := 164) rfl (by decide +kernel)
set_option maxRecDepth 100000 in
theorem gw357 : Jvm.Cond.instanceMethod ⟨"LeftAnswers$Book", "readWeds", "(LLeftAnswers$Tape;LLeftAnswers$Duchy;I)Z"⟩ ∈ gtb := gtb_t5 (i := 163) rfl (by decide +kernel)
set_option maxRecDepth 100000 in
theorem gw358 : Jvm.Cond.methodLink "LeftAnswers$Book" 72 ⟨"LeftAnswers$Book", "addLine", "(IIII)V"⟩ ∈ gtb := gtb_t5 (i := 142) rfl (by decide +kernel)
set_option maxRecDepth 100000 in
theorem gw359 : Jvm.Cond.selects "LeftAnswers$Book" ⟨"LeftAnswers$Book", "addLine", "(IIII)V"⟩ ⟨"LeftAnswers$Book", "addLine", "(IIII)V"⟩ ∈ gtb := gtb_in (i := 35) (by decide +kernel) (by decide +kernel)
set_option maxRecDepth 100000 in
theorem gw360 : Jvm.Cond.code ⟨"LeftAnswers$Book", "addLine", "(IIII)V"⟩ prog_3_method_7_code 5 none ∈ gtb := gtb_t5 (i := 145) rfl (by decide +kernel)
set_option maxRecDepth 100000 in
theorem gw361 : Jvm.Cond.instanceMethod ⟨"LeftAnswers$Book", "addLine", "(IIII)V"⟩ ∈ gtb := gtb_t5 (i := 144) rfl (by decide +kernel)
set_option maxRecDepth 100000 in
theorem gw362 : Jvm.Cond.methodLink "LeftAnswers$Book" 65 ⟨"LeftAnswers$Tape", "takesNumber", "(II)Z"⟩ ∈ gtb := gtb_t5 (i := 141) rfl (by decide +kernel)
set_option maxRecDepth 100000 in
theorem gw363 : Jvm.Cond.selects "LeftAnswers$Tape" ⟨"LeftAnswers$Tape", "takesNumber", "(II)Z"⟩ ⟨"LeftAnswers$Tape", "takesNumber", "(II)Z"⟩ ∈ gtb := gtb_t3 (i := 95) rfl (by decide +kernel)
set_option maxRecDepth 100000 in
theorem gw364 : Jvm.Cond.code ⟨"LeftAnswers$Tape", "takesNumber", "(II)Z"⟩ prog_12_method_15_code 3 (some .boolean) ∈ gtb := gtb_t3 (i := 96) rfl (by decide +kernel)
set_option maxRecDepth 100000 in
theorem gw365 : Jvm.Cond.instanceMethod ⟨"LeftAnswers$Tape", "takesNumber", "(II)Z"⟩ ∈ gtb := gtb_t3 (i := 94) rfl (by decide +kernel)
set_option maxRecDepth 100000 in
theorem gw366 : Jvm.Cond.fieldLink "LeftAnswers$Book" 69 "LeftAnswers$Tape" "taken" "I" ∈ gtb := gtb_t1 (i := 61) rfl (by decide +kernel)
set_option maxRecDepth 100000 in
theorem gw367 : Jvm.Cond.methodLink "LeftAnswers$Book" 98 ⟨"LeftAnswers$Duchy", "deedHere", "(LLeftAnswers$Tape;)I"⟩ ∈ gtb := gtb_t5 (i := 157) rfl (by decide +kernel)
set_option maxRecDepth 100000 in
theorem gw368 : Jvm.Cond.selects "LeftAnswers$Duchy" ⟨"LeftAnswers$Duchy", "deedHere", "(LLeftAnswers$Tape;)I"⟩ ⟨"LeftAnswers$Duchy", "deedHere", "(LLeftAnswers$Tape;)I"⟩ ∈ gtb := gtb_t5 (i := 159) rfl (by decide +kernel)
set_option maxRecDepth 100000 in
theorem gw369 : Jvm.Cond.code ⟨"LeftAnswers$Duchy", "deedHere", "(LLeftAnswers$Tape;)I"⟩ prog_4_method_14_code 2 (some .int) ∈ gtb := gtb_t5 (i := 160) rfl (by decide +kernel)
set_option maxRecDepth 100000 in
theorem gw370 : Jvm.Cond.instanceMethod ⟨"LeftAnswers$Duchy", "deedHere", "(LLeftAnswers$Tape;)I"⟩ ∈ gtb := gtb_t5 (i := 158) rfl (by decide +kernel)
set_option maxRecDepth 100000 in
theorem gw371 : Jvm.Cond.methodLink "LeftAnswers$Book" 28 ⟨"LeftAnswers$Tape", "open", "(I)V"⟩ ∈ gtb := gtb_t5 (i := 132) rfl (by decide +kernel)
set_option maxRecDepth 100000 in
theorem gw372 : Jvm.Cond.selects "LeftAnswers$Tape" ⟨"LeftAnswers$Tape", "open", "(I)V"⟩ ⟨"LeftAnswers$Tape", "open", "(I)V"⟩ ∈ gtb := gtb_t3 (i := 28) rfl (by decide +kernel)
set_option maxRecDepth 100000 in
theorem gw373 : Jvm.Cond.code ⟨"LeftAnswers$Tape", "open", "(I)V"⟩ prog_12_method_4_code 2 none ∈ gtb := gtb_t3 (i := 29) rfl (by decide +kernel)
set_option maxRecDepth 100000 in
theorem gw374 : Jvm.Cond.instanceMethod ⟨"LeftAnswers$Tape", "open", "(I)V"⟩ ∈ gtb := gtb_t3 (i := 27) rfl (by decide +kernel)
set_option maxRecDepth 100000 in
theorem gw375 : Jvm.Cond.fieldLink "LeftAnswers$Book" 34 "LeftAnswers$Tape" "kind" "I" ∈ gtb := gtb_t1 (i := 48) rfl (by decide +kernel)
set_option maxRecDepth 100000 in
theorem gw376 : Jvm.Cond.fieldLink "LeftAnswers$Book" 41 "LeftAnswers$Word" "DAY" "LLeftAnswers$Word;" ∈ gtb := gtb_t5 (i := 133) rfl (by decide +kernel)
set_option maxRecDepth 100000 in
theorem gw377 : Jvm.Cond.methodLink "LeftAnswers$Book" 46 ⟨"LeftAnswers$Book", "readDay", "(LLeftAnswers$Tape;)Z"⟩ ∈ gtb := gtb_t5 (i := 135) rfl (by decide +kernel)
set_option maxRecDepth 100000 in
theorem gw378 : Jvm.Cond.selects "LeftAnswers$Book" ⟨"LeftAnswers$Book", "readDay", "(LLeftAnswers$Tape;)Z"⟩ ⟨"LeftAnswers$Book", "readDay", "(LLeftAnswers$Tape;)Z"⟩ ∈ gtb := gtb_in (i := 34) (by decide +kernel) (by decide +kernel)
set_option maxRecDepth 100000 in
theorem gw379 : Jvm.Cond.code ⟨"LeftAnswers$Book", "readDay", "(LLeftAnswers$Tape;)Z"⟩ prog_3_method_3_code 2 (some .boolean) ∈ gtb := gtb_t5 (i := 138) rfl (by decide +kernel)
set_option maxRecDepth 100000 in
theorem gw380 : Jvm.Cond.instanceMethod ⟨"LeftAnswers$Book", "readDay", "(LLeftAnswers$Tape;)Z"⟩ ∈ gtb := gtb_t5 (i := 137) rfl (by decide +kernel)
set_option maxRecDepth 100000 in
theorem gw381 : Jvm.Cond.methodLink "LeftAnswers$Book" 50 ⟨"LeftAnswers$Book", "readAct", "(LLeftAnswers$Tape;LLeftAnswers$Duchy;)Z"⟩ ∈ gtb := gtb_t5 (i := 146) rfl (by decide +kernel)
set_option maxRecDepth 100000 in
theorem gw382 : Jvm.Cond.selects "LeftAnswers$Book" ⟨"LeftAnswers$Book", "readAct", "(LLeftAnswers$Tape;LLeftAnswers$Duchy;)Z"⟩ ⟨"LeftAnswers$Book", "readAct", "(LLeftAnswers$Tape;LLeftAnswers$Duchy;)Z"⟩ ∈ gtb := gtb_in (i := 36) (by decide +kernel) (by decide +kernel)
set_option maxRecDepth 100000 in
theorem gw383 : Jvm.Cond.code ⟨"LeftAnswers$Book", "readAct", "(LLeftAnswers$Tape;LLeftAnswers$Duchy;)Z"⟩ prog_3_method_4_code 5 (some .boolean) ∈ gtb := gtb_t5 (i := 149) rfl (by decide +kernel)
set_option maxRecDepth 100000 in
theorem gw384 : Jvm.Cond.instanceMethod ⟨"LeftAnswers$Book", "readAct", "(LLeftAnswers$Tape;LLeftAnswers$Duchy;)Z"⟩ ∈ gtb := gtb_t5 (i := 148) rfl (by decide +kernel)
set_option maxRecDepth 100000 in
theorem gw385 : Jvm.Cond.methodLink "LeftAnswers$Book" 54 ⟨"LeftAnswers$Tape", "takesMark", "(C)Z"⟩ ∈ gtb := gtb_t5 (i := 165) rfl (by decide +kernel)
set_option maxRecDepth 100000 in
theorem gw386 : Jvm.Cond.selects "LeftAnswers$Tape" ⟨"LeftAnswers$Tape", "takesMark", "(C)Z"⟩ ⟨"LeftAnswers$Tape", "takesMark", "(C)Z"⟩ ∈ gtb := gtb_t3 (i := 135) rfl (by decide +kernel)
set_option maxRecDepth 100000 in
theorem gw387 : Jvm.Cond.code ⟨"LeftAnswers$Tape", "takesMark", "(C)Z"⟩ prog_12_method_14_code 2 (some .boolean) ∈ gtb := gtb_t3 (i := 136) rfl (by decide +kernel)
set_option maxRecDepth 100000 in
theorem gw388 : Jvm.Cond.instanceMethod ⟨"LeftAnswers$Tape", "takesMark", "(C)Z"⟩ ∈ gtb := gtb_t3 (i := 134) rfl (by decide +kernel)
set_option maxRecDepth 100000 in
theorem gw389 : Jvm.Cond.methodLink "LeftAnswers$Duchy" 3 ⟨"java/lang/Object", "<init>", "()V"⟩ ∈ gtb := gtb_t1 (i := 100) rfl (by decide +kernel)
set_option maxRecDepth 100000 in
theorem gw390 : Jvm.Cond.arrayClass .long ∈ gtb := gtb_t1 (i := 175) rfl (by decide +kernel)
set_option maxRecDepth 100000 in
theorem gw391 : Jvm.Cond.fieldLink "LeftAnswers$Duchy" 9 "LeftAnswers$Duchy" "personNames" "[J" ∈ gtb := gtb_t1 (i := 125) rfl (by decide +kernel)
set_option maxRecDepth 100000 in
theorem gw392 : Jvm.Cond.fieldLink "LeftAnswers$Duchy" 15 "LeftAnswers$Duchy" "right" "[I" ∈ gtb := gtb_t1 (i := 127) rfl (by decide +kernel)
set_option maxRecDepth 100000 in
theorem gw393 : Jvm.Cond.fieldLink "LeftAnswers$Duchy" 19 "LeftAnswers$Duchy" "left" "[I" ∈ gtb := gtb_t1 (i := 128) rfl (by decide +kernel)
set_option maxRecDepth 100000 in
theorem gw394 : Jvm.Cond.fieldLink "LeftAnswers$Duchy" 22 "LeftAnswers$Duchy" "watchers" "[I" ∈ gtb := gtb_t1 (i := 139) rfl (by decide +kernel)
set_option maxRecDepth 100000 in
theorem gw395 : Jvm.Cond.fieldLink "LeftAnswers$Duchy" 25 "LeftAnswers$Duchy" "fond" "[I" ∈ gtb := gtb_t1 (i := 141) rfl (by decide +kernel)
set_option maxRecDepth 100000 in
theorem gw396 : Jvm.Cond.fieldLink "LeftAnswers$Duchy" 28 "LeftAnswers$Duchy" "deedNames" "[J" ∈ gtb := gtb_t1 (i := 129) rfl (by decide +kernel)
set_option maxRecDepth 100000 in
theorem gw397 : Jvm.Cond.fieldLink "LeftAnswers$Duchy" 31 "LeftAnswers$Duchy" "hard" "[I" ∈ gtb := gtb_t1 (i := 130) rfl (by decide +kernel)
set_option maxRecDepth 100000 in
theorem gw398 : Jvm.Cond.fieldLink "LeftAnswers$Duchy" 34 "LeftAnswers$Duchy" "pay" "[I" ∈ gtb := gtb_t1 (i := 133) rfl (by decide +kernel)
set_option maxRecDepth 100000 in
theorem gw399 : Jvm.Cond.fieldLink "LeftAnswers$Duchy" 37 "LeftAnswers$Duchy" "blame" "[I" ∈ gtb := gtb_t1 (i := 136) rfl (by decide +kernel)
set_option maxRecDepth 100000 in
theorem gw400 : Jvm.Cond.methodLink "LeftAnswers$Duchy" 40 ⟨"LeftAnswers$Duchy", "fillIn", "()V"⟩ ∈ gtb := gtb_t1 (i := 101) rfl (by decide +kernel)
set_option maxRecDepth 100000 in
theorem gw401 : Jvm.Cond.selects "LeftAnswers$Duchy" ⟨"LeftAnswers$Duchy", "fillIn", "()V"⟩ ⟨"LeftAnswers$Duchy", "fillIn", "()V"⟩ ∈ gtb := gtb_in (i := 0) (by decide +kernel) (by decide +kernel)
set_option maxRecDepth 100000 in
theorem gw402 : Jvm.Cond.code ⟨"LeftAnswers$Duchy", "fillIn", "()V"⟩ prog_4_method_5_code 1 none ∈ gtb := gtb_t1 (i := 104) rfl (by decide +kernel)
set_option maxRecDepth 100000 in
theorem gw403 : Jvm.Cond.instanceMethod ⟨"LeftAnswers$Duchy", "fillIn", "()V"⟩ ∈ gtb := gtb_t1 (i := 103) rfl (by decide +kernel)
set_option maxRecDepth 100000 in
theorem gw404 : Jvm.Cond.fieldLink "LeftAnswers$Duchy" 43 "LeftAnswers$Duchy" "persons" "I" ∈ gtb := gtb_t1 (i := 106) rfl (by decide +kernel)
set_option maxRecDepth 100000 in
theorem gw405 : Jvm.Cond.methodLink "LeftAnswers$Duchy" 183 ⟨"java/lang/Integer", "bitCount", "(I)I"⟩ ∈ gtb := gtb_t4 (i := 168) rfl (by decide +kernel)
set_option maxRecDepth 100000 in
theorem gw406 : Jvm.Cond.fieldLink "LeftAnswers$Duchy" 47 "LeftAnswers$Duchy" "deeds" "I" ∈ gtb := gtb_t1 (i := 110) rfl (by decide +kernel)
set_option maxRecDepth 100000 in
theorem gw407 : Jvm.Cond.methodLink "LeftAnswers$Duchy" 189 ⟨"LeftAnswers$Duchy", "canBits", "(I)I"⟩ ∈ gtb := gtb_t4 (i := 174) rfl (by decide +kernel)
set_option maxRecDepth 100000 in
theorem gw408 : Jvm.Cond.methodLink "LeftAnswers$Duchy" 192 ⟨"java/lang/Math", "abs", "(I)I"⟩ ∈ gtb := gtb_t4 (i := 175) rfl (by decide +kernel)
set_option maxRecDepth 100000 in
theorem gw409 : Jvm.Cond.static ⟨"java/lang/Math", "abs", "(I)I"⟩ ∈ gtb := gtb_t4 (i := 176) rfl (by decide +kernel)
set_option maxRecDepth 100000 in
theorem gw410 : Jvm.Cond.code ⟨"java/lang/Math", "abs", "(I)I"⟩ prog_22_method_59_code 1 (some .int) ∈ gtb := gtb_t4 (i := 177) rfl (by decide +kernel)
set_option maxRecDepth 100000 in
theorem gw411 : Jvm.Cond.methodLink "LeftAnswers$Duchy" 179 ⟨"LeftAnswers$Duchy", "isEasyFor", "(III)Z"⟩ ∈ gtb := gtb_t4 (i := 158) rfl (by decide +kernel)
set_option maxRecDepth 100000 in
theorem gw412 : Jvm.Cond.selects "LeftAnswers$Duchy" ⟨"LeftAnswers$Duchy", "isEasyFor", "(III)Z"⟩ ⟨"LeftAnswers$Duchy", "isEasyFor", "(III)Z"⟩ ∈ gtb := gtb_t4 (i := 160) rfl (by decide +kernel)
set_option maxRecDepth 100000 in
theorem gw413 : Jvm.Cond.code ⟨"LeftAnswers$Duchy", "isEasyFor", "(III)Z"⟩ prog_4_method_20_code 4 (some .boolean) ∈ gtb := gtb_t4 (i := 161) rfl (by decide +kernel)
set_option maxRecDepth 100000 in
theorem gw414 : Jvm.Cond.instanceMethod ⟨"LeftAnswers$Duchy", "isEasyFor", "(III)Z"⟩ ∈ gtb := gtb_t4 (i := 159) rfl (by decide +kernel)
set_option maxRecDepth 100000 in
theorem gw415 : Jvm.Cond.fieldLink "LeftAnswers$Duchy" 50 "LeftAnswers$Duchy" "law" "I" ∈ gtb := gtb_t1 (i := 113) rfl (by decide +kernel)
set_option maxRecDepth 100000 in
theorem gw416 : Jvm.Cond.fieldLink "LeftAnswers$Duchy" 53 "LeftAnswers$Duchy" "cell" "I" ∈ gtb := gtb_t1 (i := 116) rfl (by decide +kernel)
set_option maxRecDepth 100000 in
theorem gw417 : Jvm.Cond.fieldLink "LeftAnswers$Duchy" 56 "LeftAnswers$Duchy" "ideas" "I" ∈ gtb := gtb_t1 (i := 119) rfl (by decide +kernel)
set_option maxRecDepth 100000 in
theorem gw418 : Jvm.Cond.fieldLink "LeftAnswers$Duchy" 59 "LeftAnswers$Duchy" "gloved" "I" ∈ gtb := gtb_t1 (i := 122) rfl (by decide +kernel)
set_option maxRecDepth 100000 in
theorem gw419 : Jvm.Cond.fieldLink "LeftAnswers$Duchy" 62 "LeftAnswers$Duchy" "both" "I" ∈ gtb := gtb_t1 (i := 124) rfl (by decide +kernel)
set_option maxRecDepth 100000 in
theorem gw420 : Jvm.Cond.methodLink "LeftAnswers$Duchy" 65 ⟨"java/lang/System", "arraycopy", "(Ljava/lang/Object;ILjava/lang/Object;II)V"⟩ ∈ gtb := gtb_t6 (i := 32) rfl (by decide +kernel)
set_option maxRecDepth 100000 in
theorem gw421 : Jvm.Cond.native ⟨"java/lang/System", "arraycopy", "(Ljava/lang/Object;ILjava/lang/Object;II)V"⟩ ∈ gtb := gtb_t4 (i := 21) rfl (by decide +kernel)
set_option maxRecDepth 100000 in
theorem gw422 : Jvm.Cond.static ⟨"java/lang/System", "arraycopy", "(Ljava/lang/Object;ILjava/lang/Object;II)V"⟩ ∈ gtb := gtb_t4 (i := 20) rfl (by decide +kernel)
set_option maxRecDepth 100000 in
theorem gw423 : Jvm.Cond.initialized "java/lang/System" ∈ gtb := gtb_t1 (i := 20) rfl (by decide +kernel)
set_option maxRecDepth 100000 in
theorem gw424 : Jvm.Cond.methodLink "LeftAnswers$Duchy" 165 ⟨"LeftAnswers$Duchy", "namedHere", "(LLeftAnswers$Tape;[JI)I"⟩ ∈ gtb := gtb_t3 (i := 118) rfl (by decide +kernel)
set_option maxRecDepth 100000 in
theorem gw425 : Jvm.Cond.code ⟨"LeftAnswers$Duchy", "namedHere", "(LLeftAnswers$Tape;[JI)I"⟩ prog_4_method_15_code 4 (some .int) ∈ gtb := gtb_t3 (i := 120) rfl (by decide +kernel)
set_option maxRecDepth 100000 in
theorem gw426 : Jvm.Cond.static ⟨"LeftAnswers$Duchy", "namedHere", "(LLeftAnswers$Tape;[JI)I"⟩ ∈ gtb := gtb_t3 (i := 119) rfl (by decide +kernel)
set_option maxRecDepth 100000 in
theorem gw427 : Jvm.Cond.methodLink "LeftAnswers$Duchy" 200 ⟨"LeftAnswers$Duchy", "allPersonBits", "()I"⟩ ∈ gtb := gtb_t4 (i := 210) rfl (by decide +kernel)
set_option maxRecDepth 100000 in
theorem gw428 : Jvm.Cond.selects "LeftAnswers$Duchy" ⟨"LeftAnswers$Duchy", "allPersonBits", "()I"⟩ ⟨"LeftAnswers$Duchy", "allPersonBits", "()I"⟩ ∈ gtb := gtb_t4 (i := 212) rfl (by decide +kernel)
set_option maxRecDepth 100000 in
theorem gw429 : Jvm.Cond.code ⟨"LeftAnswers$Duchy", "allPersonBits", "()I"⟩ prog_4_method_22_code 1 (some .int) ∈ gtb := gtb_t4 (i := 213) rfl (by decide +kernel)
set_option maxRecDepth 100000 in
theorem gw430 : Jvm.Cond.instanceMethod ⟨"LeftAnswers$Duchy", "allPersonBits", "()I"⟩ ∈ gtb := gtb_t4 (i := 211) rfl (by decide +kernel)
set_option maxRecDepth 100000 in
theorem gw431 : Jvm.Cond.methodLink "LeftAnswers$Duchy" 197 ⟨"LeftAnswers$Duchy", "watchedByAny", "(I)I"⟩ ∈ gtb := gtb_t4 (i := 198) rfl (by decide +kernel)
set_option maxRecDepth 100000 in
theorem gw432 : Jvm.Cond.selects "LeftAnswers$Duchy" ⟨"LeftAnswers$Duchy", "watchedByAny", "(I)I"⟩ ⟨"LeftAnswers$Duchy", "watchedByAny", "(I)I"⟩ ∈ gtb := gtb_in (i := 25) (by decide +kernel) (by decide +kernel)
set_option maxRecDepth 100000 in
theorem gw433 : Jvm.Cond.code ⟨"LeftAnswers$Duchy", "watchedByAny", "(I)I"⟩ prog_4_method_27_code 4 (some .int) ∈ gtb := gtb_t4 (i := 201) rfl (by decide +kernel)
set_option maxRecDepth 100000 in
theorem gw434 : Jvm.Cond.instanceMethod ⟨"LeftAnswers$Duchy", "watchedByAny", "(I)I"⟩ ∈ gtb := gtb_t4 (i := 200) rfl (by decide +kernel)
set_option maxRecDepth 100000 in
theorem gw435 : Jvm.Cond.methodLink "LeftAnswers$Duchy" 169 ⟨"LeftAnswers$Duchy", "needsBoth", "(I)Z"⟩ ∈ gtb := gtb_t3 (i := 237) rfl (by decide +kernel)
set_option maxRecDepth 100000 in
theorem gw436 : Jvm.Cond.methodLink "LeftAnswers$Duchy" 172 ⟨"LeftAnswers$Duchy", "handsAreRight", "(II)Z"⟩ ∈ gtb := gtb_t4 (i := 162) rfl (by decide +kernel)
set_option maxRecDepth 100000 in
theorem gw437 : Jvm.Cond.selects "LeftAnswers$Duchy" ⟨"LeftAnswers$Duchy", "handsAreRight", "(II)Z"⟩ ⟨"LeftAnswers$Duchy", "handsAreRight", "(II)Z"⟩ ∈ gtb := gtb_t3 (i := 235) rfl (by decide +kernel)
set_option maxRecDepth 100000 in
theorem gw438 : Jvm.Cond.code ⟨"LeftAnswers$Duchy", "handsAreRight", "(II)Z"⟩ prog_4_method_19_code 3 (some .boolean) ∈ gtb := gtb_t3 (i := 236) rfl (by decide +kernel)
set_option maxRecDepth 100000 in
theorem gw439 : Jvm.Cond.instanceMethod ⟨"LeftAnswers$Duchy", "handsAreRight", "(II)Z"⟩ ∈ gtb := gtb_t3 (i := 234) rfl (by decide +kernel)
set_option maxRecDepth 100000 in
theorem gw440 : Jvm.Cond.methodLink "LeftAnswers$Duchy" 175 ⟨"LeftAnswers$Duchy", "skillOf", "(II)I"⟩ ∈ gtb := gtb_t4 (i := 163) rfl (by decide +kernel)
set_option maxRecDepth 100000 in
theorem gw441 : Jvm.Cond.fieldLink "LeftAnswers$Duchy" 88 "LeftAnswers$Tape" "word" "LLeftAnswers$Word;" ∈ gtb := gtb_t1 (i := 55) rfl (by decide +kernel)
set_option maxRecDepth 100000 in
theorem gw442 : Jvm.Cond.fieldLink "LeftAnswers$Duchy" 158 "LeftAnswers$Word" "NAME" "LLeftAnswers$Word;" ∈ gtb := gtb_t3 (i := 89) rfl (by decide +kernel)
set_option maxRecDepth 100000 in
theorem gw443 : Jvm.Cond.methodLink "LeftAnswers$Duchy" 114 ⟨"LeftAnswers$Tape", "refuse", "(I)Z"⟩ ∈ gtb := gtb_t3 (i := 80) rfl (by decide +kernel)
set_option maxRecDepth 100000 in
theorem gw444 : Jvm.Cond.fieldLink "LeftAnswers$Duchy" 128 "LeftAnswers$Tape" "letters" "J" ∈ gtb := gtb_t1 (i := 58) rfl (by decide +kernel)
set_option maxRecDepth 100000 in
theorem gw445 : Jvm.Cond.methodLink "LeftAnswers$Duchy" 161 ⟨"LeftAnswers$Duchy", "find", "([JIJ)I"⟩ ∈ gtb := gtb_t3 (i := 90) rfl (by decide +kernel)
set_option maxRecDepth 100000 in
theorem gw446 : Jvm.Cond.code ⟨"LeftAnswers$Duchy", "find", "([JIJ)I"⟩ prog_4_method_16_code 5 (some .int) ∈ gtb := gtb_t3 (i := 92) rfl (by decide +kernel)
set_option maxRecDepth 100000 in
theorem gw447 : Jvm.Cond.static ⟨"LeftAnswers$Duchy", "find", "([JIJ)I"⟩ ∈ gtb := gtb_t3 (i := 91) rfl (by decide +kernel)
set_option maxRecDepth 100000 in
theorem gw448 : Jvm.Cond.methodLink "LeftAnswers$Duchy" 122 ⟨"LeftAnswers$Tape", "advance", "()V"⟩ ∈ gtb := gtb_t3 (i := 84) rfl (by decide +kernel)
set_option maxRecDepth 100000 in
theorem gw449 : Jvm.Cond.methodLink "LeftAnswers$Duchy" 125 ⟨"LeftAnswers$Duchy", "isNewName", "(LLeftAnswers$Tape;)Z"⟩ ∈ gtb := gtb_t3 (i := 85) rfl (by decide +kernel)
end
section
set_option maxRecDepth 100000 in
theorem gw450 : Jvm.Cond.selects "LeftAnswers$Duchy" ⟨"LeftAnswers$Duchy", "isNewName", "(LLeftAnswers$Tape;)Z"⟩ ⟨"LeftAnswers$Duchy", "isNewName", "(LLeftAnswers$Tape;)Z"⟩ ∈ gtb := gtb_in (i := 5) (by decide +kernel) (by decide +kernel)
set_option maxRecDepth 100000 in
theorem gw451 : Jvm.Cond.code ⟨"LeftAnswers$Duchy", "isNewName", "(LLeftAnswers$Tape;)Z"⟩ prog_4_method_12_code 2 (some .boolean) ∈ gtb := gtb_t3 (i := 88) rfl (by decide +kernel)
set_option maxRecDepth 100000 in
theorem gw452 : Jvm.Cond.instanceMethod ⟨"LeftAnswers$Duchy", "isNewName", "(LLeftAnswers$Tape;)Z"⟩ ∈ gtb := gtb_t3 (i := 87) rfl (by decide +kernel)
set_option maxRecDepth 100000 in
theorem gw453 : Jvm.Cond.methodLink "LeftAnswers$Duchy" 132 ⟨"LeftAnswers$Tape", "takesNumber", "(II)Z"⟩ ∈ gtb := gtb_t3 (i := 93) rfl (by decide +kernel)
set_option maxRecDepth 100000 in
theorem gw454 : Jvm.Cond.fieldLink "LeftAnswers$Duchy" 136 "LeftAnswers$Tape" "taken" "I" ∈ gtb := gtb_t1 (i := 63) rfl (by decide +kernel)
set_option maxRecDepth 100000 in
theorem gw455 : Jvm.Cond.fieldLink "LeftAnswers$Duchy" 142 "LeftAnswers$Word" "BOTH" "LLeftAnswers$Word;" ∈ gtb := gtb_t3 (i := 104) rfl (by decide +kernel)
set_option maxRecDepth 100000 in
theorem gw456 : Jvm.Cond.methodLink "LeftAnswers$Duchy" 145 ⟨"LeftAnswers$Duchy", "readTwo", "(LLeftAnswers$Tape;)I"⟩ ∈ gtb := gtb_t3 (i := 110) rfl (by decide +kernel)
set_option maxRecDepth 100000 in
theorem gw457 : Jvm.Cond.selects "LeftAnswers$Duchy" ⟨"LeftAnswers$Duchy", "readTwo", "(LLeftAnswers$Tape;)I"⟩ ⟨"LeftAnswers$Duchy", "readTwo", "(LLeftAnswers$Tape;)I"⟩ ∈ gtb := gtb_in (i := 8) (by decide +kernel) (by decide +kernel)
set_option maxRecDepth 100000 in
theorem gw458 : Jvm.Cond.code ⟨"LeftAnswers$Duchy", "readTwo", "(LLeftAnswers$Tape;)I"⟩ prog_4_method_10_code 4 (some .int) ∈ gtb := gtb_t3 (i := 113) rfl (by decide +kernel)
set_option maxRecDepth 100000 in
theorem gw459 : Jvm.Cond.instanceMethod ⟨"LeftAnswers$Duchy", "readTwo", "(LLeftAnswers$Tape;)I"⟩ ∈ gtb := gtb_t3 (i := 112) rfl (by decide +kernel)
set_option maxRecDepth 100000 in
theorem gw460 : Jvm.Cond.methodLink "LeftAnswers$Duchy" 71 ⟨"LeftAnswers$Duchy", "clear", "()V"⟩ ∈ gtb := gtb_t3 (i := 22) rfl (by decide +kernel)
set_option maxRecDepth 100000 in
theorem gw461 : Jvm.Cond.selects "LeftAnswers$Duchy" ⟨"LeftAnswers$Duchy", "clear", "()V"⟩ ⟨"LeftAnswers$Duchy", "clear", "()V"⟩ ∈ gtb := gtb_in (i := 1) (by decide +kernel) (by decide +kernel)
set_option maxRecDepth 100000 in
theorem gw462 : Jvm.Cond.code ⟨"LeftAnswers$Duchy", "clear", "()V"⟩ prog_4_method_4_code 2 none ∈ gtb := gtb_t3 (i := 25) rfl (by decide +kernel)
set_option maxRecDepth 100000 in
theorem gw463 : Jvm.Cond.instanceMethod ⟨"LeftAnswers$Duchy", "clear", "()V"⟩ ∈ gtb := gtb_t3 (i := 24) rfl (by decide +kernel)
set_option maxRecDepth 100000 in
theorem gw464 : Jvm.Cond.methodLink "LeftAnswers$Duchy" 74 ⟨"LeftAnswers$Tape", "open", "(I)V"⟩ ∈ gtb := gtb_t3 (i := 26) rfl (by decide +kernel)
set_option maxRecDepth 100000 in
theorem gw465 : Jvm.Cond.fieldLink "LeftAnswers$Duchy" 80 "LeftAnswers$Tape" "kind" "I" ∈ gtb := gtb_t1 (i := 49) rfl (by decide +kernel)
set_option maxRecDepth 100000 in
theorem gw466 : Jvm.Cond.fieldLink "LeftAnswers$Duchy" 83 "LeftAnswers$1" "$SwitchMap$LeftAnswers$Word" "[I" ∈ gtb := gtb_t3 (i := 68) rfl (by decide +kernel)
set_option maxRecDepth 100000 in
theorem gw467 : Jvm.Cond.methodLink "LeftAnswers$Duchy" 92 ⟨"LeftAnswers$Word", "ordinal", "()I"⟩ ∈ gtb := gtb_t3 (i := 70) rfl (by decide +kernel)
set_option maxRecDepth 100000 in
theorem gw468 : Jvm.Cond.methodLink "LeftAnswers$Duchy" 98 ⟨"LeftAnswers$Duchy", "readPerson", "(LLeftAnswers$Tape;)Z"⟩ ∈ gtb := gtb_t3 (i := 76) rfl (by decide +kernel)
set_option maxRecDepth 100000 in
theorem gw469 : Jvm.Cond.selects "LeftAnswers$Duchy" ⟨"LeftAnswers$Duchy", "readPerson", "(LLeftAnswers$Tape;)Z"⟩ ⟨"LeftAnswers$Duchy", "readPerson", "(LLeftAnswers$Tape;)Z"⟩ ∈ gtb := gtb_in (i := 4) (by decide +kernel) (by decide +kernel)
set_option maxRecDepth 100000 in
theorem gw470 : Jvm.Cond.code ⟨"LeftAnswers$Duchy", "readPerson", "(LLeftAnswers$Tape;)Z"⟩ prog_4_method_6_code 3 (some .boolean) ∈ gtb := gtb_t3 (i := 79) rfl (by decide +kernel)
set_option maxRecDepth 100000 in
theorem gw471 : Jvm.Cond.instanceMethod ⟨"LeftAnswers$Duchy", "readPerson", "(LLeftAnswers$Tape;)Z"⟩ ∈ gtb := gtb_t3 (i := 78) rfl (by decide +kernel)
set_option maxRecDepth 100000 in
theorem gw472 : Jvm.Cond.methodLink "LeftAnswers$Duchy" 102 ⟨"LeftAnswers$Duchy", "readDeed", "(LLeftAnswers$Tape;)Z"⟩ ∈ gtb := gtb_t3 (i := 100) rfl (by decide +kernel)
set_option maxRecDepth 100000 in
theorem gw473 : Jvm.Cond.selects "LeftAnswers$Duchy" ⟨"LeftAnswers$Duchy", "readDeed", "(LLeftAnswers$Tape;)Z"⟩ ⟨"LeftAnswers$Duchy", "readDeed", "(LLeftAnswers$Tape;)Z"⟩ ∈ gtb := gtb_in (i := 6) (by decide +kernel) (by decide +kernel)
set_option maxRecDepth 100000 in
theorem gw474 : Jvm.Cond.code ⟨"LeftAnswers$Duchy", "readDeed", "(LLeftAnswers$Tape;)Z"⟩ prog_4_method_7_code 3 (some .boolean) ∈ gtb := gtb_t3 (i := 103) rfl (by decide +kernel)
set_option maxRecDepth 100000 in
theorem gw475 : Jvm.Cond.instanceMethod ⟨"LeftAnswers$Duchy", "readDeed", "(LLeftAnswers$Tape;)Z"⟩ ∈ gtb := gtb_t3 (i := 102) rfl (by decide +kernel)
set_option maxRecDepth 100000 in
theorem gw476 : Jvm.Cond.methodLink "LeftAnswers$Duchy" 105 ⟨"LeftAnswers$Duchy", "readSees", "(LLeftAnswers$Tape;)Z"⟩ ∈ gtb := gtb_t3 (i := 106) rfl (by decide +kernel)
set_option maxRecDepth 100000 in
theorem gw477 : Jvm.Cond.selects "LeftAnswers$Duchy" ⟨"LeftAnswers$Duchy", "readSees", "(LLeftAnswers$Tape;)Z"⟩ ⟨"LeftAnswers$Duchy", "readSees", "(LLeftAnswers$Tape;)Z"⟩ ∈ gtb := gtb_in (i := 7) (by decide +kernel) (by decide +kernel)
set_option maxRecDepth 100000 in
theorem gw478 : Jvm.Cond.code ⟨"LeftAnswers$Duchy", "readSees", "(LLeftAnswers$Tape;)Z"⟩ prog_4_method_8_code 5 (some .boolean) ∈ gtb := gtb_t3 (i := 109) rfl (by decide +kernel)
set_option maxRecDepth 100000 in
theorem gw479 : Jvm.Cond.instanceMethod ⟨"LeftAnswers$Duchy", "readSees", "(LLeftAnswers$Tape;)Z"⟩ ∈ gtb := gtb_t3 (i := 108) rfl (by decide +kernel)
set_option maxRecDepth 100000 in
theorem gw480 : Jvm.Cond.methodLink "LeftAnswers$Duchy" 108 ⟨"LeftAnswers$Duchy", "readFond", "(LLeftAnswers$Tape;)Z"⟩ ∈ gtb := gtb_t3 (i := 121) rfl (by decide +kernel)
set_option maxRecDepth 100000 in
theorem gw481 : Jvm.Cond.selects "LeftAnswers$Duchy" ⟨"LeftAnswers$Duchy", "readFond", "(LLeftAnswers$Tape;)Z"⟩ ⟨"LeftAnswers$Duchy", "readFond", "(LLeftAnswers$Tape;)Z"⟩ ∈ gtb := gtb_in (i := 9) (by decide +kernel) (by decide +kernel)
set_option maxRecDepth 100000 in
theorem gw482 : Jvm.Cond.code ⟨"LeftAnswers$Duchy", "readFond", "(LLeftAnswers$Tape;)Z"⟩ prog_4_method_9_code 3 (some .boolean) ∈ gtb := gtb_t3 (i := 124) rfl (by decide +kernel)
set_option maxRecDepth 100000 in
theorem gw483 : Jvm.Cond.instanceMethod ⟨"LeftAnswers$Duchy", "readFond", "(LLeftAnswers$Tape;)Z"⟩ ∈ gtb := gtb_t3 (i := 123) rfl (by decide +kernel)
set_option maxRecDepth 100000 in
theorem gw484 : Jvm.Cond.methodLink "LeftAnswers$Duchy" 111 ⟨"LeftAnswers$Duchy", "readOnce", "(LLeftAnswers$Tape;)Z"⟩ ∈ gtb := gtb_t3 (i := 125) rfl (by decide +kernel)
set_option maxRecDepth 100000 in
theorem gw485 : Jvm.Cond.selects "LeftAnswers$Duchy" ⟨"LeftAnswers$Duchy", "readOnce", "(LLeftAnswers$Tape;)Z"⟩ ⟨"LeftAnswers$Duchy", "readOnce", "(LLeftAnswers$Tape;)Z"⟩ ∈ gtb := gtb_in (i := 10) (by decide +kernel) (by decide +kernel)
set_option maxRecDepth 100000 in
theorem gw486 : Jvm.Cond.code ⟨"LeftAnswers$Duchy", "readOnce", "(LLeftAnswers$Tape;)Z"⟩ prog_4_method_11_code 4 (some .boolean) ∈ gtb := gtb_t3 (i := 128) rfl (by decide +kernel)
set_option maxRecDepth 100000 in
theorem gw487 : Jvm.Cond.instanceMethod ⟨"LeftAnswers$Duchy", "readOnce", "(LLeftAnswers$Tape;)Z"⟩ ∈ gtb := gtb_t3 (i := 127) rfl (by decide +kernel)
set_option maxRecDepth 100000 in
theorem gw488 : Jvm.Cond.methodLink "LeftAnswers$Duchy" 118 ⟨"LeftAnswers$Tape", "takesMark", "(C)Z"⟩ ∈ gtb := gtb_t3 (i := 133) rfl (by decide +kernel)
set_option maxRecDepth 100000 in
theorem gw489 : Jvm.Cond.fieldLink "LeftAnswers$Duchy" 152 "LeftAnswers$Word" "LAW" "LLeftAnswers$Word;" ∈ gtb := gtb_t3 (i := 129) rfl (by decide +kernel)
set_option maxRecDepth 100000 in
theorem gw490 : Jvm.Cond.fieldLink "LeftAnswers$Duchy" 155 "LeftAnswers$Word" "CELL" "LLeftAnswers$Word;" ∈ gtb := gtb_t3 (i := 131) rfl (by decide +kernel)
set_option maxRecDepth 100000 in
theorem gw491 : Jvm.Cond.fieldLink "LeftAnswers$Duchy" 139 "LeftAnswers$Word" "GLOVED" "LLeftAnswers$Word;" ∈ gtb := gtb_t3 (i := 98) rfl (by decide +kernel)
set_option maxRecDepth 100000 in
theorem gw492 : Jvm.Cond.methodLink "LeftAnswers$Duchy" 149 ⟨"LeftAnswers$Duchy", "personHere", "(LLeftAnswers$Tape;)I"⟩ ∈ gtb := gtb_t3 (i := 114) rfl (by decide +kernel)
set_option maxRecDepth 100000 in
theorem gw493 : Jvm.Cond.methodLink "LeftAnswers$Image" 1 ⟨"java/lang/Object", "<init>", "()V"⟩ ∈ gtb := gtb_t2 (i := 169) rfl (by decide +kernel)
set_option maxRecDepth 100000 in
theorem gw494 : Jvm.Cond.classLink "LeftAnswers$Image" 7 "LeftAnswers$Duchy" ∈ gtb := gtb_t2 (i := 170) rfl (by decide +kernel)
set_option maxRecDepth 100000 in
theorem gw495 : Jvm.Cond.methodLink "LeftAnswers$Image" 9 ⟨"LeftAnswers$Duchy", "<init>", "()V"⟩ ∈ gtb := gtb_t2 (i := 171) rfl (by decide +kernel)
set_option maxRecDepth 100000 in
theorem gw496 : Jvm.Cond.fieldLink "LeftAnswers$Image" 10 "LeftAnswers$Image" "duchy" "LLeftAnswers$Duchy;" ∈ gtb := gtb_t2 (i := 178) rfl (by decide +kernel)
set_option maxRecDepth 100000 in
theorem gw497 : Jvm.Cond.classLink "LeftAnswers$Image" 16 "LeftAnswers$Life" ∈ gtb := gtb_t2 (i := 172) rfl (by decide +kernel)
set_option maxRecDepth 100000 in
theorem gw498 : Jvm.Cond.methodLink "LeftAnswers$Image" 18 ⟨"LeftAnswers$Life", "<init>", "()V"⟩ ∈ gtb := gtb_t2 (i := 173) rfl (by decide +kernel)
set_option maxRecDepth 100000 in
theorem gw499 : Jvm.Cond.fieldLink "LeftAnswers$Image" 19 "LeftAnswers$Image" "life" "LLeftAnswers$Life;" ∈ gtb := gtb_t2 (i := 179) rfl (by decide +kernel)
set_option maxRecDepth 100000 in
theorem gw500 : Jvm.Cond.classLink "LeftAnswers$Image" 23 "LeftAnswers$Sentence" ∈ gtb := gtb_t2 (i := 174) rfl (by decide +kernel)
set_option maxRecDepth 100000 in
theorem gw501 : Jvm.Cond.methodLink "LeftAnswers$Image" 25 ⟨"LeftAnswers$Sentence", "<init>", "()V"⟩ ∈ gtb := gtb_t2 (i := 175) rfl (by decide +kernel)
set_option maxRecDepth 100000 in
theorem gw502 : Jvm.Cond.fieldLink "LeftAnswers$Image" 26 "LeftAnswers$Image" "sentence" "LLeftAnswers$Sentence;" ∈ gtb := gtb_t2 (i := 180) rfl (by decide +kernel)
set_option maxRecDepth 100000 in
theorem gw503 : Jvm.Cond.methodLink "LeftAnswers$Image" 30 ⟨"LeftAnswers$Duchy", "copyFrom", "(LLeftAnswers$Duchy;)V"⟩ ∈ gtb := gtb_t6 (i := 28) rfl (by decide +kernel)
set_option maxRecDepth 100000 in
theorem gw504 : Jvm.Cond.selects "LeftAnswers$Duchy" ⟨"LeftAnswers$Duchy", "copyFrom", "(LLeftAnswers$Duchy;)V"⟩ ⟨"LeftAnswers$Duchy", "copyFrom", "(LLeftAnswers$Duchy;)V"⟩ ∈ gtb := gtb_t6 (i := 30) rfl (by decide +kernel)
set_option maxRecDepth 100000 in
theorem gw505 : Jvm.Cond.code ⟨"LeftAnswers$Duchy", "copyFrom", "(LLeftAnswers$Duchy;)V"⟩ prog_4_method_2_code 2 none ∈ gtb := gtb_t6 (i := 31) rfl (by decide +kernel)
set_option maxRecDepth 100000 in
theorem gw506 : Jvm.Cond.instanceMethod ⟨"LeftAnswers$Duchy", "copyFrom", "(LLeftAnswers$Duchy;)V"⟩ ∈ gtb := gtb_t6 (i := 29) rfl (by decide +kernel)
set_option maxRecDepth 100000 in
theorem gw507 : Jvm.Cond.methodLink "LeftAnswers$Image" 34 ⟨"LeftAnswers$Life", "copyFrom", "(LLeftAnswers$Life;)V"⟩ ∈ gtb := gtb_t6 (i := 33) rfl (by decide +kernel)
set_option maxRecDepth 100000 in
theorem gw508 : Jvm.Cond.methodLink "LeftAnswers$Image" 37 ⟨"LeftAnswers$Sentence", "copyFrom", "(LLeftAnswers$Sentence;)V"⟩ ∈ gtb := gtb_t6 (i := 34) rfl (by decide +kernel)
set_option maxRecDepth 100000 in
theorem gw509 : Jvm.Cond.selects "LeftAnswers$Sentence" ⟨"LeftAnswers$Sentence", "copyFrom", "(LLeftAnswers$Sentence;)V"⟩ ⟨"LeftAnswers$Sentence", "copyFrom", "(LLeftAnswers$Sentence;)V"⟩ ∈ gtb := gtb_t6 (i := 36) rfl (by decide +kernel)
set_option maxRecDepth 100000 in
theorem gw510 : Jvm.Cond.code ⟨"LeftAnswers$Sentence", "copyFrom", "(LLeftAnswers$Sentence;)V"⟩ prog_10_method_3_code 3 none ∈ gtb := gtb_t6 (i := 37) rfl (by decide +kernel)
set_option maxRecDepth 100000 in
theorem gw511 : Jvm.Cond.instanceMethod ⟨"LeftAnswers$Sentence", "copyFrom", "(LLeftAnswers$Sentence;)V"⟩ ∈ gtb := gtb_t6 (i := 35) rfl (by decide +kernel)
set_option maxRecDepth 100000 in
theorem gw512 : Jvm.Cond.fieldLink "LeftAnswers$Image" 40 "LeftAnswers$Image" "kept" "Z" ∈ gtb := gtb_t2 (i := 176) rfl (by decide +kernel)
set_option maxRecDepth 100000 in
theorem gw513 : Jvm.Cond.methodLink "LeftAnswers$Life" 3 ⟨"java/lang/Object", "<init>", "()V"⟩ ∈ gtb := gtb_t1 (i := 182) rfl (by decide +kernel)
set_option maxRecDepth 100000 in
theorem gw514 : Jvm.Cond.fieldLink "LeftAnswers$Life" 9 "LeftAnswers$Life" "coins" "[I" ∈ gtb := gtb_t1 (i := 199) rfl (by decide +kernel)
set_option maxRecDepth 100000 in
theorem gw515 : Jvm.Cond.fieldLink "LeftAnswers$Life" 15 "LeftAnswers$Life" "blame" "[I" ∈ gtb := gtb_t1 (i := 203) rfl (by decide +kernel)
set_option maxRecDepth 100000 in
theorem gw516 : Jvm.Cond.fieldLink "LeftAnswers$Life" 18 "LeftAnswers$Life" "cell" "[I" ∈ gtb := gtb_t1 (i := 206) rfl (by decide +kernel)
set_option maxRecDepth 100000 in
theorem gw517 : Jvm.Cond.fieldLink "LeftAnswers$Life" 21 "LeftAnswers$Life" "ideas" "[I" ∈ gtb := gtb_t1 (i := 209) rfl (by decide +kernel)
set_option maxRecDepth 100000 in
theorem gw518 : Jvm.Cond.fieldLink "LeftAnswers$Life" 24 "LeftAnswers$Life" "spouse" "[I" ∈ gtb := gtb_t1 (i := 212) rfl (by decide +kernel)
set_option maxRecDepth 100000 in
theorem gw519 : Jvm.Cond.fieldLink "LeftAnswers$Life" 27 "LeftAnswers$Life" "hands" "[I" ∈ gtb := gtb_t1 (i := 216) rfl (by decide +kernel)
set_option maxRecDepth 100000 in
theorem gw520 : Jvm.Cond.fieldLink "LeftAnswers$Life" 30 "LeftAnswers$Life" "doneOf" "[I" ∈ gtb := gtb_t1 (i := 218) rfl (by decide +kernel)
set_option maxRecDepth 100000 in
theorem gw521 : Jvm.Cond.methodLink "LeftAnswers$Life" 33 ⟨"LeftAnswers$Life", "begin", "(I)V"⟩ ∈ gtb := gtb_t1 (i := 183) rfl (by decide +kernel)
set_option maxRecDepth 100000 in
theorem gw522 : Jvm.Cond.methodLink "LeftAnswers$Life" 75 ⟨"LeftAnswers$Life", "whyNotDo", "(LLeftAnswers$Duchy;III)I"⟩ ∈ gtb := gtb_t3 (i := 226) rfl (by decide +kernel)
set_option maxRecDepth 100000 in
theorem gw523 : Jvm.Cond.selects "LeftAnswers$Life" ⟨"LeftAnswers$Life", "whyNotDo", "(LLeftAnswers$Duchy;III)I"⟩ ⟨"LeftAnswers$Life", "whyNotDo", "(LLeftAnswers$Duchy;III)I"⟩ ∈ gtb := gtb_in (i := 15) (by decide +kernel) (by decide +kernel)
set_option maxRecDepth 100000 in
theorem gw524 : Jvm.Cond.code ⟨"LeftAnswers$Life", "whyNotDo", "(LLeftAnswers$Duchy;III)I"⟩ prog_6_method_17_code 5 (some .int) ∈ gtb := gtb_t3 (i := 229) rfl (by decide +kernel)
set_option maxRecDepth 100000 in
theorem gw525 : Jvm.Cond.instanceMethod ⟨"LeftAnswers$Life", "whyNotDo", "(LLeftAnswers$Duchy;III)I"⟩ ∈ gtb := gtb_t3 (i := 228) rfl (by decide +kernel)
set_option maxRecDepth 100000 in
theorem gw526 : Jvm.Cond.fieldLink "LeftAnswers$Life" 135 "LeftAnswers$Duchy" "law" "I" ∈ gtb := gtb_t1 (i := 114) rfl (by decide +kernel)
set_option maxRecDepth 100000 in
theorem gw527 : Jvm.Cond.fieldLink "LeftAnswers$Life" 138 "LeftAnswers$Duchy" "cell" "I" ∈ gtb := gtb_t1 (i := 117) rfl (by decide +kernel)
set_option maxRecDepth 100000 in
theorem gw528 : Jvm.Cond.fieldLink "LeftAnswers$Life" 41 "LeftAnswers$Life" "hadUp" "I" ∈ gtb := gtb_t1 (i := 190) rfl (by decide +kernel)
set_option maxRecDepth 100000 in
theorem gw529 : Jvm.Cond.fieldLink "LeftAnswers$Life" 37 "LeftAnswers$Life" "day" "I" ∈ gtb := gtb_t1 (i := 187) rfl (by decide +kernel)
set_option maxRecDepth 100000 in
theorem gw530 : Jvm.Cond.fieldLink "LeftAnswers$Life" 44 "LeftAnswers$Life" "done" "I" ∈ gtb := gtb_t1 (i := 192) rfl (by decide +kernel)
set_option maxRecDepth 100000 in
theorem gw531 : Jvm.Cond.fieldLink "LeftAnswers$Life" 47 "LeftAnswers$Life" "gloved" "I" ∈ gtb := gtb_t1 (i := 194) rfl (by decide +kernel)
set_option maxRecDepth 100000 in
theorem gw532 : Jvm.Cond.methodLink "LeftAnswers$Life" 159 ⟨"LeftAnswers$Life", "seenBits", "(LLeftAnswers$Duchy;)I"⟩ ∈ gtb := gtb_t4 (i := 117) rfl (by decide +kernel)
set_option maxRecDepth 100000 in
theorem gw533 : Jvm.Cond.fieldLink "LeftAnswers$Life" 72 "LeftAnswers$Duchy" "persons" "I" ∈ gtb := gtb_t1 (i := 107) rfl (by decide +kernel)
set_option maxRecDepth 100000 in
theorem gw534 : Jvm.Cond.methodLink "LeftAnswers$Life" 163 ⟨"LeftAnswers$Life", "isBlameless", "(LLeftAnswers$Duchy;ZII)Z"⟩ ∈ gtb := gtb_t4 (i := 118) rfl (by decide +kernel)
set_option maxRecDepth 100000 in
theorem gw535 : Jvm.Cond.code ⟨"LeftAnswers$Life", "isBlameless", "(LLeftAnswers$Duchy;ZII)Z"⟩ prog_6_method_29_code 4 (some .boolean) ∈ gtb := gtb_t4 (i := 120) rfl (by decide +kernel)
set_option maxRecDepth 100000 in
theorem gw536 : Jvm.Cond.static ⟨"LeftAnswers$Life", "isBlameless", "(LLeftAnswers$Duchy;ZII)Z"⟩ ∈ gtb := gtb_t4 (i := 119) rfl (by decide +kernel)
set_option maxRecDepth 100000 in
theorem gw537 : Jvm.Cond.methodLink "LeftAnswers$Life" 50 ⟨"java/lang/System", "arraycopy", "(Ljava/lang/Object;ILjava/lang/Object;II)V"⟩ ∈ gtb := gtb_t4 (i := 19) rfl (by decide +kernel)
set_option maxRecDepth 100000 in
theorem gw538 : Jvm.Cond.fieldLink "LeftAnswers$Life" 118 "LeftAnswers$Duchy" "pay" "[I" ∈ gtb := gtb_t1 (i := 135) rfl (by decide +kernel)
set_option maxRecDepth 100000 in
theorem gw539 : Jvm.Cond.methodLink "LeftAnswers$Life" 121 ⟨"java/lang/Math", "min", "(II)I"⟩ ∈ gtb := gtb_t4 (i := 30) rfl (by decide +kernel)
set_option maxRecDepth 100000 in
theorem gw540 : Jvm.Cond.methodLink "LeftAnswers$Life" 104 ⟨"LeftAnswers$Life", "handBits", "(I)I"⟩ ∈ gtb := gtb_t3 (i := 230) rfl (by decide +kernel)
set_option maxRecDepth 100000 in
theorem gw541 : Jvm.Cond.code ⟨"LeftAnswers$Life", "handBits", "(I)I"⟩ prog_6_method_16_code 1 (some .int) ∈ gtb := gtb_t3 (i := 232) rfl (by decide +kernel)
set_option maxRecDepth 100000 in
theorem gw542 : Jvm.Cond.static ⟨"LeftAnswers$Life", "handBits", "(I)I"⟩ ∈ gtb := gtb_t3 (i := 231) rfl (by decide +kernel)
set_option maxRecDepth 100000 in
theorem gw543 : Jvm.Cond.methodLink "LeftAnswers$Life" 126 ⟨"LeftAnswers$Life", "isSeen", "(LLeftAnswers$Duchy;I)Z"⟩ ∈ gtb := gtb_t4 (i := 33) rfl (by decide +kernel)
set_option maxRecDepth 100000 in
theorem gw544 : Jvm.Cond.fieldLink "LeftAnswers$Life" 130 "LeftAnswers$Duchy" "blame" "[I" ∈ gtb := gtb_t1 (i := 138) rfl (by decide +kernel)
set_option maxRecDepth 100000 in
theorem gw545 : Jvm.Cond.methodLink "LeftAnswers$Life" 131 ⟨"LeftAnswers$Life", "addBlame", "(LLeftAnswers$Duchy;II)V"⟩ ∈ gtb := gtb_t4 (i := 37) rfl (by decide +kernel)
set_option maxRecDepth 100000 in
theorem gw546 : Jvm.Cond.selects "LeftAnswers$Life" ⟨"LeftAnswers$Life", "addBlame", "(LLeftAnswers$Duchy;II)V"⟩ ⟨"LeftAnswers$Life", "addBlame", "(LLeftAnswers$Duchy;II)V"⟩ ∈ gtb := gtb_in (i := 18) (by decide +kernel) (by decide +kernel)
set_option maxRecDepth 100000 in
theorem gw547 : Jvm.Cond.code ⟨"LeftAnswers$Life", "addBlame", "(LLeftAnswers$Duchy;II)V"⟩ prog_6_method_19_code 4 none ∈ gtb := gtb_t4 (i := 40) rfl (by decide +kernel)
set_option maxRecDepth 100000 in
theorem gw548 : Jvm.Cond.instanceMethod ⟨"LeftAnswers$Life", "addBlame", "(LLeftAnswers$Duchy;II)V"⟩ ∈ gtb := gtb_t4 (i := 39) rfl (by decide +kernel)
set_option maxRecDepth 100000 in
theorem gw549 : Jvm.Cond.fieldLink "LeftAnswers$Life" 146 "LeftAnswers$Life" "seed" "I" ∈ gtb := gtb_t1 (i := 198) rfl (by decide +kernel)
set_option maxRecDepth 100000 in
theorem gw550 : Jvm.Cond.constant "LeftAnswers$Life" 158 1103515245 ∈ gtb := gtb_t5 (i := 118) rfl (by decide +kernel)
set_option maxRecDepth 100000 in
theorem gw551 : Jvm.Cond.fieldLink "LeftAnswers$Life" 152 "LeftAnswers$Duchy" "deeds" "I" ∈ gtb := gtb_t1 (i := 111) rfl (by decide +kernel)
set_option maxRecDepth 100000 in
theorem gw552 : Jvm.Cond.methodLink "LeftAnswers$Life" 155 ⟨"LeftAnswers$Life", "draw", "(I)I"⟩ ∈ gtb := gtb_t5 (i := 114) rfl (by decide +kernel)
set_option maxRecDepth 100000 in
theorem gw553 : Jvm.Cond.selects "LeftAnswers$Life" ⟨"LeftAnswers$Life", "draw", "(I)I"⟩ ⟨"LeftAnswers$Life", "draw", "(I)I"⟩ ∈ gtb := gtb_in (i := 33) (by decide +kernel) (by decide +kernel)
set_option maxRecDepth 100000 in
theorem gw554 : Jvm.Cond.code ⟨"LeftAnswers$Life", "draw", "(I)I"⟩ prog_6_method_27_code 2 (some .int) ∈ gtb := gtb_t5 (i := 117) rfl (by decide +kernel)
set_option maxRecDepth 100000 in
theorem gw555 : Jvm.Cond.instanceMethod ⟨"LeftAnswers$Life", "draw", "(I)I"⟩ ∈ gtb := gtb_t5 (i := 116) rfl (by decide +kernel)
set_option maxRecDepth 100000 in
theorem gw556 : Jvm.Cond.methodLink "LeftAnswers$Life" 89 ⟨"LeftAnswers$Life", "doDeed", "(LLeftAnswers$Duchy;III)V"⟩ ∈ gtb := gtb_t4 (i := 26) rfl (by decide +kernel)
set_option maxRecDepth 100000 in
theorem gw557 : Jvm.Cond.selects "LeftAnswers$Life" ⟨"LeftAnswers$Life", "doDeed", "(LLeftAnswers$Duchy;III)V"⟩ ⟨"LeftAnswers$Life", "doDeed", "(LLeftAnswers$Duchy;III)V"⟩ ∈ gtb := gtb_in (i := 17) (by decide +kernel) (by decide +kernel)
set_option maxRecDepth 100000 in
theorem gw558 : Jvm.Cond.code ⟨"LeftAnswers$Life", "doDeed", "(LLeftAnswers$Duchy;III)V"⟩ prog_6_method_18_code 5 none ∈ gtb := gtb_t4 (i := 29) rfl (by decide +kernel)
set_option maxRecDepth 100000 in
theorem gw559 : Jvm.Cond.instanceMethod ⟨"LeftAnswers$Life", "doDeed", "(LLeftAnswers$Duchy;III)V"⟩ ∈ gtb := gtb_t4 (i := 28) rfl (by decide +kernel)
set_option maxRecDepth 100000 in
theorem gw560 : Jvm.Cond.methodLink "LeftAnswers$Life" 79 ⟨"LeftAnswers$Life", "whyNotWed", "(II)I"⟩ ∈ gtb := gtb_t4 (i := 3) rfl (by decide +kernel)
set_option maxRecDepth 100000 in
theorem gw561 : Jvm.Cond.selects "LeftAnswers$Life" ⟨"LeftAnswers$Life", "whyNotWed", "(II)I"⟩ ⟨"LeftAnswers$Life", "whyNotWed", "(II)I"⟩ ∈ gtb := gtb_in (i := 16) (by decide +kernel) (by decide +kernel)
set_option maxRecDepth 100000 in
theorem gw562 : Jvm.Cond.code ⟨"LeftAnswers$Life", "whyNotWed", "(II)I"⟩ prog_6_method_20_code 3 (some .int) ∈ gtb := gtb_t4 (i := 6) rfl (by decide +kernel)
set_option maxRecDepth 100000 in
theorem gw563 : Jvm.Cond.instanceMethod ⟨"LeftAnswers$Life", "whyNotWed", "(II)I"⟩ ∈ gtb := gtb_t4 (i := 5) rfl (by decide +kernel)
set_option maxRecDepth 100000 in
theorem gw564 : Jvm.Cond.methodLink "LeftAnswers$Life" 93 ⟨"LeftAnswers$Life", "wedTwo", "(II)V"⟩ ∈ gtb := gtb_t4 (i := 41) rfl (by decide +kernel)
set_option maxRecDepth 100000 in
theorem gw565 : Jvm.Cond.selects "LeftAnswers$Life" ⟨"LeftAnswers$Life", "wedTwo", "(II)V"⟩ ⟨"LeftAnswers$Life", "wedTwo", "(II)V"⟩ ∈ gtb := gtb_in (i := 19) (by decide +kernel) (by decide +kernel)
set_option maxRecDepth 100000 in
theorem gw566 : Jvm.Cond.code ⟨"LeftAnswers$Life", "wedTwo", "(II)V"⟩ prog_6_method_21_code 3 none ∈ gtb := gtb_t4 (i := 44) rfl (by decide +kernel)
set_option maxRecDepth 100000 in
theorem gw567 : Jvm.Cond.instanceMethod ⟨"LeftAnswers$Life", "wedTwo", "(II)V"⟩ ∈ gtb := gtb_t4 (i := 43) rfl (by decide +kernel)
set_option maxRecDepth 100000 in
theorem gw568 : Jvm.Cond.methodLink "LeftAnswers$Life" 97 ⟨"LeftAnswers$Life", "partFromSpouse", "(I)V"⟩ ∈ gtb := gtb_t4 (i := 45) rfl (by decide +kernel)
set_option maxRecDepth 100000 in
theorem gw569 : Jvm.Cond.selects "LeftAnswers$Life" ⟨"LeftAnswers$Life", "partFromSpouse", "(I)V"⟩ ⟨"LeftAnswers$Life", "partFromSpouse", "(I)V"⟩ ∈ gtb := gtb_in (i := 20) (by decide +kernel) (by decide +kernel)
set_option maxRecDepth 100000 in
theorem gw570 : Jvm.Cond.code ⟨"LeftAnswers$Life", "partFromSpouse", "(I)V"⟩ prog_6_method_22_code 3 none ∈ gtb := gtb_t4 (i := 48) rfl (by decide +kernel)
set_option maxRecDepth 100000 in
theorem gw571 : Jvm.Cond.instanceMethod ⟨"LeftAnswers$Life", "partFromSpouse", "(I)V"⟩ ∈ gtb := gtb_t4 (i := 47) rfl (by decide +kernel)
set_option maxRecDepth 100000 in
theorem gw572 : Jvm.Cond.methodLink "LeftAnswers$Life" 149 ⟨"LeftAnswers$Life", "drawActs", "(LLeftAnswers$Duchy;I)V"⟩ ∈ gtb := gtb_t5 (i := 110) rfl (by decide +kernel)
set_option maxRecDepth 100000 in
theorem gw573 : Jvm.Cond.selects "LeftAnswers$Life" ⟨"LeftAnswers$Life", "drawActs", "(LLeftAnswers$Duchy;I)V"⟩ ⟨"LeftAnswers$Life", "drawActs", "(LLeftAnswers$Duchy;I)V"⟩ ∈ gtb := gtb_in (i := 32) (by decide +kernel) (by decide +kernel)
set_option maxRecDepth 100000 in
theorem gw574 : Jvm.Cond.code ⟨"LeftAnswers$Life", "drawActs", "(LLeftAnswers$Duchy;I)V"⟩ prog_6_method_26_code 5 none ∈ gtb := gtb_t5 (i := 113) rfl (by decide +kernel)
set_option maxRecDepth 100000 in
theorem gw575 : Jvm.Cond.instanceMethod ⟨"LeftAnswers$Life", "drawActs", "(LLeftAnswers$Duchy;I)V"⟩ ∈ gtb := gtb_t5 (i := 112) rfl (by decide +kernel)
set_option maxRecDepth 100000 in
theorem gw576 : Jvm.Cond.methodLink "LeftAnswers$Life" 140 ⟨"LeftAnswers$Life", "passDay", "(LLeftAnswers$Duchy;)V"⟩ ∈ gtb := gtb_t4 (i := 53) rfl (by decide +kernel)
set_option maxRecDepth 100000 in
theorem gw577 : Jvm.Cond.selects "LeftAnswers$Life" ⟨"LeftAnswers$Life", "passDay", "(LLeftAnswers$Duchy;)V"⟩ ⟨"LeftAnswers$Life", "passDay", "(LLeftAnswers$Duchy;)V"⟩ ∈ gtb := gtb_in (i := 21) (by decide +kernel) (by decide +kernel)
set_option maxRecDepth 100000 in
theorem gw578 : Jvm.Cond.code ⟨"LeftAnswers$Life", "passDay", "(LLeftAnswers$Duchy;)V"⟩ prog_6_method_24_code 4 none ∈ gtb := gtb_t4 (i := 56) rfl (by decide +kernel)
set_option maxRecDepth 100000 in
theorem gw579 : Jvm.Cond.instanceMethod ⟨"LeftAnswers$Life", "passDay", "(LLeftAnswers$Duchy;)V"⟩ ∈ gtb := gtb_t4 (i := 55) rfl (by decide +kernel)
set_option maxRecDepth 100000 in
theorem gw580 : Jvm.Cond.fieldLink "LeftAnswers$Life" 56 "LeftAnswers$Duchy" "watchers" "[I" ∈ gtb := gtb_t1 (i := 140) rfl (by decide +kernel)
set_option maxRecDepth 100000 in
theorem gw581 : Jvm.Cond.methodLink "LeftAnswers$Life" 61 ⟨"LeftAnswers$Life", "jailedBits", "()I"⟩ ∈ gtb := gtb_t3 (i := 209) rfl (by decide +kernel)
set_option maxRecDepth 100000 in
theorem gw582 : Jvm.Cond.methodLink "LeftAnswers$Life" 65 ⟨"LeftAnswers$Life", "isJailed", "(I)Z"⟩ ∈ gtb := gtb_t3 (i := 193) rfl (by decide +kernel)
set_option maxRecDepth 100000 in
theorem gw583 : Jvm.Cond.selects "LeftAnswers$Life" ⟨"LeftAnswers$Life", "isJailed", "(I)Z"⟩ ⟨"LeftAnswers$Life", "isJailed", "(I)Z"⟩ ∈ gtb := gtb_t3 (i := 195) rfl (by decide +kernel)
set_option maxRecDepth 100000 in
theorem gw584 : Jvm.Cond.code ⟨"LeftAnswers$Life", "isJailed", "(I)Z"⟩ prog_6_method_4_code 2 (some .boolean) ∈ gtb := gtb_t3 (i := 196) rfl (by decide +kernel)
set_option maxRecDepth 100000 in
theorem gw585 : Jvm.Cond.instanceMethod ⟨"LeftAnswers$Life", "isJailed", "(I)Z"⟩ ∈ gtb := gtb_t3 (i := 194) rfl (by decide +kernel)
set_option maxRecDepth 100000 in
theorem gw586 : Jvm.Cond.methodLink "LeftAnswers$Life" 167 ⟨"LeftAnswers$Life", "mostPayOf", "(LLeftAnswers$Duchy;II)I"⟩ ∈ gtb := gtb_t5 (i := 9) rfl (by decide +kernel)
set_option maxRecDepth 100000 in
theorem gw587 : Jvm.Cond.selects "LeftAnswers$Life" ⟨"LeftAnswers$Life", "mostPayOf", "(LLeftAnswers$Duchy;II)I"⟩ ⟨"LeftAnswers$Life", "mostPayOf", "(LLeftAnswers$Duchy;II)I"⟩ ∈ gtb := gtb_in (i := 27) (by decide +kernel) (by decide +kernel)
set_option maxRecDepth 100000 in
theorem gw588 : Jvm.Cond.code ⟨"LeftAnswers$Life", "mostPayOf", "(LLeftAnswers$Duchy;II)I"⟩ prog_6_method_32_code 7 (some .int) ∈ gtb := gtb_t5 (i := 12) rfl (by decide +kernel)
set_option maxRecDepth 100000 in
theorem gw589 : Jvm.Cond.instanceMethod ⟨"LeftAnswers$Life", "mostPayOf", "(LLeftAnswers$Duchy;II)I"⟩ ∈ gtb := gtb_t5 (i := 11) rfl (by decide +kernel)
set_option maxRecDepth 100000 in
theorem gw590 : Jvm.Cond.methodLink "LeftAnswers$Life" 83 ⟨"LeftAnswers$Life", "isGloved", "(I)Z"⟩ ∈ gtb := gtb_t3 (i := 239) rfl (by decide +kernel)
set_option maxRecDepth 100000 in
theorem gw591 : Jvm.Cond.methodLink "LeftAnswers$Life" 171 ⟨"java/lang/Math", "max", "(II)I"⟩ ∈ gtb := gtb_t5 (i := 14) rfl (by decide +kernel)
set_option maxRecDepth 100000 in
theorem gw592 : Jvm.Cond.static ⟨"java/lang/Math", "max", "(II)I"⟩ ∈ gtb := gtb_t4 (i := 111) rfl (by decide +kernel)
set_option maxRecDepth 100000 in
theorem gw593 : Jvm.Cond.code ⟨"java/lang/Math", "max", "(II)I"⟩ prog_22_method_65_code 2 (some .int) ∈ gtb := gtb_t4 (i := 112) rfl (by decide +kernel)
set_option maxRecDepth 100000 in
theorem gw594 : Jvm.Cond.methodLink "LeftAnswers$Life" 174 ⟨"LeftAnswers$Duchy", "isEasyFor", "(III)Z"⟩ ∈ gtb := gtb_t5 (i := 13) rfl (by decide +kernel)
set_option maxRecDepth 100000 in
theorem gw595 : Jvm.Cond.fieldLink "LeftAnswers$Life" 144 "LeftAnswers$Duchy" "ideas" "I" ∈ gtb := gtb_t1 (i := 120) rfl (by decide +kernel)
set_option maxRecDepth 100000 in
theorem gw596 : Jvm.Cond.methodLink "LeftAnswers$Life" 100 ⟨"LeftAnswers$Life", "passDays", "(LLeftAnswers$Duchy;I)V"⟩ ∈ gtb := gtb_t4 (i := 49) rfl (by decide +kernel)
set_option maxRecDepth 100000 in
theorem gw597 : Jvm.Cond.methodLink "LeftAnswers$Life" 69 ⟨"LeftAnswers$Life", "isWed", "(I)Z"⟩ ∈ gtb := gtb_t3 (i := 201) rfl (by decide +kernel)
set_option maxRecDepth 100000 in
theorem gw598 : Jvm.Cond.selects "LeftAnswers$Life" ⟨"LeftAnswers$Life", "isWed", "(I)Z"⟩ ⟨"LeftAnswers$Life", "isWed", "(I)Z"⟩ ∈ gtb := gtb_t3 (i := 203) rfl (by decide +kernel)
set_option maxRecDepth 100000 in
theorem gw599 : Jvm.Cond.code ⟨"LeftAnswers$Life", "isWed", "(I)Z"⟩ prog_6_method_6_code 2 (some .boolean) ∈ gtb := gtb_t3 (i := 204) rfl (by decide +kernel)
end
section
set_option maxRecDepth 100000 in
theorem gw600 : Jvm.Cond.instanceMethod ⟨"LeftAnswers$Life", "isWed", "(I)Z"⟩ ∈ gtb := gtb_t3 (i := 202) rfl (by decide +kernel)
set_option maxRecDepth 100000 in
theorem gw601 : Jvm.Cond.methodLink "LeftAnswers$Life" 86 ⟨"LeftAnswers$Life", "daysLeft", "()I"⟩ ∈ gtb := gtb_t4 (i := 7) rfl (by decide +kernel)
set_option maxRecDepth 100000 in
theorem gw602 : Jvm.Cond.methodLink "LeftAnswers$Life" 108 ⟨"LeftAnswers$Duchy", "handsAreRight", "(II)Z"⟩ ∈ gtb := gtb_t3 (i := 233) rfl (by decide +kernel)
set_option maxRecDepth 100000 in
theorem gw603 : Jvm.Cond.methodLink "LeftAnswers$Life" 112 ⟨"LeftAnswers$Duchy", "skillOf", "(II)I"⟩ ∈ gtb := gtb_t3 (i := 238) rfl (by decide +kernel)
set_option maxRecDepth 100000 in
theorem gw604 : Jvm.Cond.fieldLink "LeftAnswers$Life" 115 "LeftAnswers$Duchy" "hard" "[I" ∈ gtb := gtb_t1 (i := 132) rfl (by decide +kernel)
set_option maxRecDepth 100000 in
theorem gw605 : Jvm.Cond.methodLink "LeftAnswers$Pairs" 3 ⟨"java/lang/Object", "<init>", "()V"⟩ ∈ gtb := gtb_t2 (i := 130) rfl (by decide +kernel)
set_option maxRecDepth 100000 in
theorem gw606 : Jvm.Cond.fieldLink "LeftAnswers$Pairs" 9 "LeftAnswers$Pairs" "partnerOf" "[I" ∈ gtb := gtb_t2 (i := 131) rfl (by decide +kernel)
set_option maxRecDepth 100000 in
theorem gw607 : Jvm.Cond.fieldLink "LeftAnswers$Pairs" 15 "LeftAnswers$Pairs" "tried" "[I" ∈ gtb := gtb_t2 (i := 133) rfl (by decide +kernel)
set_option maxRecDepth 100000 in
theorem gw608 : Jvm.Cond.fieldLink "LeftAnswers$Pairs" 18 "LeftAnswers$Pairs" "joy" "[I" ∈ gtb := gtb_t2 (i := 134) rfl (by decide +kernel)
set_option maxRecDepth 100000 in
theorem gw609 : Jvm.Cond.fieldLink "LeftAnswers$Pairs" 27 "LeftAnswers$Pairs" "persons" "I" ∈ gtb := gtb_t2 (i := 135) rfl (by decide +kernel)
set_option maxRecDepth 100000 in
theorem gw610 : Jvm.Cond.fieldLink "LeftAnswers$Pairs" 28 "LeftAnswers$Pairs" "most" "I" ∈ gtb := gtb_t2 (i := 136) rfl (by decide +kernel)
set_option maxRecDepth 100000 in
theorem gw611 : Jvm.Cond.methodLink "LeftAnswers$Pairs" 51 ⟨"java/lang/System", "arraycopy", "(Ljava/lang/Object;ILjava/lang/Object;II)V"⟩ ∈ gtb := gtb_t4 (i := 236) rfl (by decide +kernel)
set_option maxRecDepth 100000 in
theorem gw612 : Jvm.Cond.methodLink "LeftAnswers$Pairs" 47 ⟨"LeftAnswers$Pairs", "search", "(II)V"⟩ ∈ gtb := gtb_t4 (i := 232) rfl (by decide +kernel)
set_option maxRecDepth 100000 in
theorem gw613 : Jvm.Cond.selects "LeftAnswers$Pairs" ⟨"LeftAnswers$Pairs", "search", "(II)V"⟩ ⟨"LeftAnswers$Pairs", "search", "(II)V"⟩ ∈ gtb := gtb_in (i := 26) (by decide +kernel) (by decide +kernel)
set_option maxRecDepth 100000 in
theorem gw614 : Jvm.Cond.code ⟨"LeftAnswers$Pairs", "search", "(II)V"⟩ prog_7_method_3_code 5 none ∈ gtb := gtb_t4 (i := 235) rfl (by decide +kernel)
set_option maxRecDepth 100000 in
theorem gw615 : Jvm.Cond.instanceMethod ⟨"LeftAnswers$Pairs", "search", "(II)V"⟩ ∈ gtb := gtb_t4 (i := 234) rfl (by decide +kernel)
set_option maxRecDepth 100000 in
theorem gw616 : Jvm.Cond.fieldLink "LeftAnswers$Pairs" 21 "LeftAnswers$Duchy" "persons" "I" ∈ gtb := gtb_t1 (i := 105) rfl (by decide +kernel)
set_option maxRecDepth 100000 in
theorem gw617 : Jvm.Cond.methodLink "LeftAnswers$Pairs" 31 ⟨"LeftAnswers$Life", "wedBits", "()I"⟩ ∈ gtb := gtb_t4 (i := 226) rfl (by decide +kernel)
set_option maxRecDepth 100000 in
theorem gw618 : Jvm.Cond.fieldLink "LeftAnswers$Pairs" 37 "LeftAnswers$Life" "gloved" "I" ∈ gtb := gtb_t1 (i := 195) rfl (by decide +kernel)
set_option maxRecDepth 100000 in
theorem gw619 : Jvm.Cond.methodLink "LeftAnswers$Pairs" 40 ⟨"LeftAnswers$Life", "jailedBits", "()I"⟩ ∈ gtb := gtb_t4 (i := 227) rfl (by decide +kernel)
set_option maxRecDepth 100000 in
theorem gw620 : Jvm.Cond.methodLink "LeftAnswers$Pairs" 43 ⟨"LeftAnswers$Duchy", "fondOf", "(II)I"⟩ ∈ gtb := gtb_t4 (i := 228) rfl (by decide +kernel)
set_option maxRecDepth 100000 in
theorem gw621 : Jvm.Cond.selects "LeftAnswers$Duchy" ⟨"LeftAnswers$Duchy", "fondOf", "(II)I"⟩ ⟨"LeftAnswers$Duchy", "fondOf", "(II)I"⟩ ∈ gtb := gtb_t4 (i := 230) rfl (by decide +kernel)
set_option maxRecDepth 100000 in
theorem gw622 : Jvm.Cond.code ⟨"LeftAnswers$Duchy", "fondOf", "(II)I"⟩ prog_4_method_21_code 3 (some .int) ∈ gtb := gtb_t4 (i := 231) rfl (by decide +kernel)
set_option maxRecDepth 100000 in
theorem gw623 : Jvm.Cond.instanceMethod ⟨"LeftAnswers$Duchy", "fondOf", "(II)I"⟩ ∈ gtb := gtb_t4 (i := 229) rfl (by decide +kernel)
set_option maxRecDepth 100000 in
theorem gw624 : Jvm.Cond.methodLink "LeftAnswers$Parted" 3 ⟨"java/lang/Object", "<init>", "()V"⟩ ∈ gtb := gtb_t2 (i := 104) rfl (by decide +kernel)
set_option maxRecDepth 100000 in
theorem gw625 : Jvm.Cond.fieldLink "LeftAnswers$Parted" 9 "LeftAnswers$Parted" "can" "[I" ∈ gtb := gtb_t2 (i := 105) rfl (by decide +kernel)
set_option maxRecDepth 100000 in
theorem gw626 : Jvm.Cond.fieldLink "LeftAnswers$Parted" 15 "LeftAnswers$Parted" "possible" "[I" ∈ gtb := gtb_t2 (i := 107) rfl (by decide +kernel)
set_option maxRecDepth 100000 in
theorem gw627 : Jvm.Cond.fieldLink "LeftAnswers$Parted" 18 "LeftAnswers$Parted" "tried" "[I" ∈ gtb := gtb_t2 (i := 108) rfl (by decide +kernel)
set_option maxRecDepth 100000 in
theorem gw628 : Jvm.Cond.fieldLink "LeftAnswers$Parted" 21 "LeftAnswers$Parted" "places" "[I" ∈ gtb := gtb_t2 (i := 109) rfl (by decide +kernel)
set_option maxRecDepth 100000 in
theorem gw629 : Jvm.Cond.methodLink "LeftAnswers$Parted" 24 ⟨"java/lang/Math", "min", "(II)I"⟩ ∈ gtb := gtb_t4 (i := 109) rfl (by decide +kernel)
set_option maxRecDepth 100000 in
theorem gw630 : Jvm.Cond.methodLink "LeftAnswers$Parted" 30 ⟨"java/lang/Math", "max", "(II)I"⟩ ∈ gtb := gtb_t4 (i := 110) rfl (by decide +kernel)
set_option maxRecDepth 100000 in
theorem gw631 : Jvm.Cond.fieldLink "LeftAnswers$Parted" 33 "LeftAnswers$Parted" "count" "I" ∈ gtb := gtb_t2 (i := 110) rfl (by decide +kernel)
set_option maxRecDepth 100000 in
theorem gw632 : Jvm.Cond.fieldLink "LeftAnswers$Parted" 37 "LeftAnswers$Parted" "most" "I" ∈ gtb := gtb_t2 (i := 111) rfl (by decide +kernel)
set_option maxRecDepth 100000 in
theorem gw633 : Jvm.Cond.methodLink "LeftAnswers$Parted" 45 ⟨"java/lang/System", "arraycopy", "(Ljava/lang/Object;ILjava/lang/Object;II)V"⟩ ∈ gtb := gtb_t4 (i := 130) rfl (by decide +kernel)
set_option maxRecDepth 100000 in
theorem gw634 : Jvm.Cond.methodLink "LeftAnswers$Parted" 51 ⟨"LeftAnswers$Parted", "takenBy", "(I)I"⟩ ∈ gtb := gtb_t4 (i := 131) rfl (by decide +kernel)
set_option maxRecDepth 100000 in
theorem gw635 : Jvm.Cond.code ⟨"LeftAnswers$Parted", "takenBy", "(I)I"⟩ prog_8_method_5_code 3 (some .int) ∈ gtb := gtb_t4 (i := 133) rfl (by decide +kernel)
set_option maxRecDepth 100000 in
theorem gw636 : Jvm.Cond.static ⟨"LeftAnswers$Parted", "takenBy", "(I)I"⟩ ∈ gtb := gtb_t4 (i := 132) rfl (by decide +kernel)
set_option maxRecDepth 100000 in
theorem gw637 : Jvm.Cond.methodLink "LeftAnswers$Parted" 41 ⟨"LeftAnswers$Parted", "search", "(III)V"⟩ ∈ gtb := gtb_t4 (i := 126) rfl (by decide +kernel)
set_option maxRecDepth 100000 in
theorem gw638 : Jvm.Cond.selects "LeftAnswers$Parted" ⟨"LeftAnswers$Parted", "search", "(III)V"⟩ ⟨"LeftAnswers$Parted", "search", "(III)V"⟩ ∈ gtb := gtb_in (i := 23) (by decide +kernel) (by decide +kernel)
set_option maxRecDepth 100000 in
theorem gw639 : Jvm.Cond.code ⟨"LeftAnswers$Parted", "search", "(III)V"⟩ prog_8_method_4_code 6 none ∈ gtb := gtb_t4 (i := 129) rfl (by decide +kernel)
set_option maxRecDepth 100000 in
theorem gw640 : Jvm.Cond.instanceMethod ⟨"LeftAnswers$Parted", "search", "(III)V"⟩ ∈ gtb := gtb_t4 (i := 128) rfl (by decide +kernel)
set_option maxRecDepth 100000 in
theorem gw641 : Jvm.Cond.constant "LeftAnswers$Parted" 40 2097151 ∈ gtb := gtb_t4 (i := 125) rfl (by decide +kernel)
set_option maxRecDepth 100000 in
theorem gw642 : Jvm.Cond.methodLink "LeftAnswers$Past" 3 ⟨"java/lang/Object", "<init>", "()V"⟩ ∈ gtb := gtb_t2 (i := 10) rfl (by decide +kernel)
set_option maxRecDepth 100000 in
theorem gw643 : Jvm.Cond.classLink "LeftAnswers$Past" 11 "LeftAnswers$Life" ∈ gtb := gtb_t2 (i := 11) rfl (by decide +kernel)
set_option maxRecDepth 100000 in
theorem gw644 : Jvm.Cond.fieldLink "LeftAnswers$Past" 13 "LeftAnswers$Past" "lives" "[LLeftAnswers$Life;" ∈ gtb := gtb_t2 (i := 14) rfl (by decide +kernel)
set_option maxRecDepth 100000 in
theorem gw645 : Jvm.Cond.methodLink "LeftAnswers$Past" 17 ⟨"LeftAnswers$Life", "<init>", "()V"⟩ ∈ gtb := gtb_t2 (i := 13) rfl (by decide +kernel)
set_option maxRecDepth 100000 in
theorem gw646 : Jvm.Cond.fieldLink "LeftAnswers$Past" 18 "LeftAnswers$Past" "count" "I" ∈ gtb := gtb_t2 (i := 16) rfl (by decide +kernel)
set_option maxRecDepth 100000 in
theorem gw647 : Jvm.Cond.fieldLink "LeftAnswers$Past" 22 "LeftAnswers$Past" "first" "I" ∈ gtb := gtb_t2 (i := 15) rfl (by decide +kernel)
set_option maxRecDepth 100000 in
theorem gw648 : Jvm.Cond.methodLink "LeftAnswers$Past" 25 ⟨"LeftAnswers$Life", "copyFrom", "(LLeftAnswers$Life;)V"⟩ ∈ gtb := gtb_t4 (i := 15) rfl (by decide +kernel)
set_option maxRecDepth 100000 in
theorem gw649 : Jvm.Cond.methodLink "LeftAnswers$Sentence" 5 ⟨"java/lang/Object", "<init>", "()V"⟩ ∈ gtb := gtb_t2 (i := 75) rfl (by decide +kernel)
set_option maxRecDepth 100000 in
theorem gw650 : Jvm.Cond.classLink "LeftAnswers$Sentence" 11 "LeftAnswers$Word" ∈ gtb := gtb_t2 (i := 76) rfl (by decide +kernel)
set_option maxRecDepth 100000 in
theorem gw651 : Jvm.Cond.fieldLink "LeftAnswers$Sentence" 13 "LeftAnswers$Sentence" "words" "[LLeftAnswers$Word;" ∈ gtb := gtb_t2 (i := 82) rfl (by decide +kernel)
set_option maxRecDepth 100000 in
theorem gw652 : Jvm.Cond.fieldLink "LeftAnswers$Sentence" 17 "LeftAnswers$Word" "NOTHING" "LLeftAnswers$Word;" ∈ gtb := gtb_t2 (i := 78) rfl (by decide +kernel)
set_option maxRecDepth 100000 in
theorem gw653 : Jvm.Cond.fieldLink "LeftAnswers$Sentence" 21 "LeftAnswers$Sentence" "signs" "[I" ∈ gtb := gtb_t2 (i := 83) rfl (by decide +kernel)
set_option maxRecDepth 100000 in
theorem gw654 : Jvm.Cond.fieldLink "LeftAnswers$Sentence" 25 "LeftAnswers$Sentence" "numbers" "[I" ∈ gtb := gtb_t2 (i := 84) rfl (by decide +kernel)
set_option maxRecDepth 100000 in
theorem gw655 : Jvm.Cond.fieldLink "LeftAnswers$Sentence" 28 "LeftAnswers$Sentence" "stack" "[I" ∈ gtb := gtb_t2 (i := 85) rfl (by decide +kernel)
set_option maxRecDepth 100000 in
theorem gw656 : Jvm.Cond.fieldLink "LeftAnswers$Sentence" 35 "LeftAnswers$Sentence" "steps" "I" ∈ gtb := gtb_t2 (i := 81) rfl (by decide +kernel)
set_option maxRecDepth 100000 in
theorem gw657 : Jvm.Cond.fieldLink "LeftAnswers$Sentence" 91 "LeftAnswers$1" "$SwitchMap$LeftAnswers$Word" "[I" ∈ gtb := gtb_t5 (i := 203) rfl (by decide +kernel)
set_option maxRecDepth 100000 in
theorem gw658 : Jvm.Cond.methodLink "LeftAnswers$Sentence" 96 ⟨"LeftAnswers$Word", "ordinal", "()I"⟩ ∈ gtb := gtb_t5 (i := 204) rfl (by decide +kernel)
set_option maxRecDepth 100000 in
theorem gw659 : Jvm.Cond.methodLink "LeftAnswers$Sentence" 137 ⟨"LeftAnswers$Life", "jailedBits", "()I"⟩ ∈ gtb := gtb_t6 (i := 3) rfl (by decide +kernel)
set_option maxRecDepth 100000 in
theorem gw660 : Jvm.Cond.fieldLink "LeftAnswers$Sentence" 142 "LeftAnswers$Life" "gloved" "I" ∈ gtb := gtb_t1 (i := 197) rfl (by decide +kernel)
set_option maxRecDepth 100000 in
theorem gw661 : Jvm.Cond.methodLink "LeftAnswers$Sentence" 145 ⟨"LeftAnswers$Life", "wedBits", "()I"⟩ ∈ gtb := gtb_t6 (i := 4) rfl (by decide +kernel)
set_option maxRecDepth 100000 in
theorem gw662 : Jvm.Cond.methodLink "LeftAnswers$Sentence" 148 ⟨"LeftAnswers$Life", "busyBits", "()I"⟩ ∈ gtb := gtb_t6 (i := 5) rfl (by decide +kernel)
set_option maxRecDepth 100000 in
theorem gw663 : Jvm.Cond.selects "LeftAnswers$Life" ⟨"LeftAnswers$Life", "busyBits", "()I"⟩ ⟨"LeftAnswers$Life", "busyBits", "()I"⟩ ∈ gtb := gtb_t6 (i := 7) rfl (by decide +kernel)
set_option maxRecDepth 100000 in
theorem gw664 : Jvm.Cond.code ⟨"LeftAnswers$Life", "busyBits", "()I"⟩ prog_6_method_10_code 3 (some .int) ∈ gtb := gtb_t6 (i := 8) rfl (by decide +kernel)
set_option maxRecDepth 100000 in
theorem gw665 : Jvm.Cond.instanceMethod ⟨"LeftAnswers$Life", "busyBits", "()I"⟩ ∈ gtb := gtb_t6 (i := 6) rfl (by decide +kernel)
set_option maxRecDepth 100000 in
theorem gw666 : Jvm.Cond.methodLink "LeftAnswers$Sentence" 151 ⟨"LeftAnswers$Life", "seenBits", "(LLeftAnswers$Duchy;)I"⟩ ∈ gtb := gtb_t6 (i := 9) rfl (by decide +kernel)
set_option maxRecDepth 100000 in
theorem gw667 : Jvm.Cond.methodLink "LeftAnswers$Sentence" 155 ⟨"LeftAnswers$Sentence", "measureBits", "(ILLeftAnswers$Duchy;LLeftAnswers$Life;)I"⟩ ∈ gtb := gtb_t6 (i := 10) rfl (by decide +kernel)
set_option maxRecDepth 100000 in
theorem gw668 : Jvm.Cond.selects "LeftAnswers$Sentence" ⟨"LeftAnswers$Sentence", "measureBits", "(ILLeftAnswers$Duchy;LLeftAnswers$Life;)I"⟩ ⟨"LeftAnswers$Sentence", "measureBits", "(ILLeftAnswers$Duchy;LLeftAnswers$Life;)I"⟩ ∈ gtb := gtb_in (i := 46) (by decide +kernel) (by decide +kernel)
set_option maxRecDepth 100000 in
theorem gw669 : Jvm.Cond.code ⟨"LeftAnswers$Sentence", "measureBits", "(ILLeftAnswers$Duchy;LLeftAnswers$Life;)I"⟩ prog_10_method_14_code 6 (some .int) ∈ gtb := gtb_t6 (i := 13) rfl (by decide +kernel)
set_option maxRecDepth 100000 in
theorem gw670 : Jvm.Cond.instanceMethod ⟨"LeftAnswers$Sentence", "measureBits", "(ILLeftAnswers$Duchy;LLeftAnswers$Life;)I"⟩ ∈ gtb := gtb_t6 (i := 12) rfl (by decide +kernel)
set_option maxRecDepth 100000 in
theorem gw671 : Jvm.Cond.fieldLink "LeftAnswers$Sentence" 31 "LeftAnswers$Sentence" "ones" "I" ∈ gtb := gtb_t2 (i := 79) rfl (by decide +kernel)
set_option maxRecDepth 100000 in
theorem gw672 : Jvm.Cond.fieldLink "LeftAnswers$Sentence" 158 "LeftAnswers$Duchy" "persons" "I" ∈ gtb := gtb_t1 (i := 108) rfl (by decide +kernel)
set_option maxRecDepth 100000 in
theorem gw673 : Jvm.Cond.methodLink "LeftAnswers$Sentence" 161 ⟨"LeftAnswers$Sentence", "measureOf", "(LLeftAnswers$Word;LLeftAnswers$Life;I)I"⟩ ∈ gtb := gtb_t6 (i := 14) rfl (by decide +kernel)
set_option maxRecDepth 100000 in
theorem gw674 : Jvm.Cond.code ⟨"LeftAnswers$Sentence", "measureOf", "(LLeftAnswers$Word;LLeftAnswers$Life;I)I"⟩ prog_10_method_15_code 3 (some .int) ∈ gtb := gtb_t6 (i := 16) rfl (by decide +kernel)
set_option maxRecDepth 100000 in
theorem gw675 : Jvm.Cond.static ⟨"LeftAnswers$Sentence", "measureOf", "(LLeftAnswers$Word;LLeftAnswers$Life;I)I"⟩ ∈ gtb := gtb_t6 (i := 15) rfl (by decide +kernel)
set_option maxRecDepth 100000 in
theorem gw676 : Jvm.Cond.methodLink "LeftAnswers$Sentence" 165 ⟨"LeftAnswers$Sentence", "holds", "(III)Z"⟩ ∈ gtb := gtb_t6 (i := 17) rfl (by decide +kernel)
set_option maxRecDepth 100000 in
theorem gw677 : Jvm.Cond.code ⟨"LeftAnswers$Sentence", "holds", "(III)Z"⟩ prog_10_method_16_code 3 (some .boolean) ∈ gtb := gtb_t6 (i := 19) rfl (by decide +kernel)
set_option maxRecDepth 100000 in
theorem gw678 : Jvm.Cond.static ⟨"LeftAnswers$Sentence", "holds", "(III)Z"⟩ ∈ gtb := gtb_t6 (i := 18) rfl (by decide +kernel)
set_option maxRecDepth 100000 in
theorem gw679 : Jvm.Cond.fieldLink "LeftAnswers$Sentence" 169 "LeftAnswers$Life" "spouse" "[I" ∈ gtb := gtb_t1 (i := 215) rfl (by decide +kernel)
set_option maxRecDepth 100000 in
theorem gw680 : Jvm.Cond.fieldLink "LeftAnswers$Sentence" 172 "LeftAnswers$Life" "coins" "[I" ∈ gtb := gtb_t1 (i := 202) rfl (by decide +kernel)
set_option maxRecDepth 100000 in
theorem gw681 : Jvm.Cond.fieldLink "LeftAnswers$Sentence" 175 "LeftAnswers$Life" "blame" "[I" ∈ gtb := gtb_t1 (i := 205) rfl (by decide +kernel)
set_option maxRecDepth 100000 in
theorem gw682 : Jvm.Cond.fieldLink "LeftAnswers$Sentence" 178 "LeftAnswers$Life" "ideas" "[I" ∈ gtb := gtb_t1 (i := 211) rfl (by decide +kernel)
set_option maxRecDepth 100000 in
theorem gw683 : Jvm.Cond.methodLink "LeftAnswers$Sentence" 74 ⟨"LeftAnswers$Sentence", "readOne", "(LLeftAnswers$Tape;LLeftAnswers$Duchy;I)Z"⟩ ∈ gtb := gtb_t5 (i := 195) rfl (by decide +kernel)
set_option maxRecDepth 100000 in
theorem gw684 : Jvm.Cond.selects "LeftAnswers$Sentence" ⟨"LeftAnswers$Sentence", "readOne", "(LLeftAnswers$Tape;LLeftAnswers$Duchy;I)Z"⟩ ⟨"LeftAnswers$Sentence", "readOne", "(LLeftAnswers$Tape;LLeftAnswers$Duchy;I)Z"⟩ ∈ gtb := gtb_in (i := 41) (by decide +kernel) (by decide +kernel)
set_option maxRecDepth 100000 in
theorem gw685 : Jvm.Cond.code ⟨"LeftAnswers$Sentence", "readOne", "(LLeftAnswers$Tape;LLeftAnswers$Duchy;I)Z"⟩ prog_10_method_7_code 7 (some .boolean) ∈ gtb := gtb_t5 (i := 198) rfl (by decide +kernel)
set_option maxRecDepth 100000 in
theorem gw686 : Jvm.Cond.instanceMethod ⟨"LeftAnswers$Sentence", "readOne", "(LLeftAnswers$Tape;LLeftAnswers$Duchy;I)Z"⟩ ∈ gtb := gtb_t5 (i := 197) rfl (by decide +kernel)
set_option maxRecDepth 100000 in
theorem gw687 : Jvm.Cond.fieldLink "LeftAnswers$Sentence" 61 "LeftAnswers$Tape" "word" "LLeftAnswers$Word;" ∈ gtb := gtb_t1 (i := 56) rfl (by decide +kernel)
set_option maxRecDepth 100000 in
theorem gw688 : Jvm.Cond.fieldLink "LeftAnswers$Sentence" 77 "LeftAnswers$Word" "AND" "LLeftAnswers$Word;" ∈ gtb := gtb_t5 (i := 224) rfl (by decide +kernel)
set_option maxRecDepth 100000 in
theorem gw689 : Jvm.Cond.methodLink "LeftAnswers$Sentence" 67 ⟨"LeftAnswers$Tape", "advance", "()V"⟩ ∈ gtb := gtb_t5 (i := 206) rfl (by decide +kernel)
set_option maxRecDepth 100000 in
theorem gw690 : Jvm.Cond.methodLink "LeftAnswers$Sentence" 70 ⟨"LeftAnswers$Sentence", "addStep", "(LLeftAnswers$Word;II)V"⟩ ∈ gtb := gtb_t5 (i := 208) rfl (by decide +kernel)
set_option maxRecDepth 100000 in
theorem gw691 : Jvm.Cond.selects "LeftAnswers$Sentence" ⟨"LeftAnswers$Sentence", "addStep", "(LLeftAnswers$Word;II)V"⟩ ⟨"LeftAnswers$Sentence", "addStep", "(LLeftAnswers$Word;II)V"⟩ ∈ gtb := gtb_in (i := 42) (by decide +kernel) (by decide +kernel)
set_option maxRecDepth 100000 in
theorem gw692 : Jvm.Cond.code ⟨"LeftAnswers$Sentence", "addStep", "(LLeftAnswers$Word;II)V"⟩ prog_10_method_11_code 4 none ∈ gtb := gtb_t5 (i := 211) rfl (by decide +kernel)
set_option maxRecDepth 100000 in
theorem gw693 : Jvm.Cond.instanceMethod ⟨"LeftAnswers$Sentence", "addStep", "(LLeftAnswers$Word;II)V"⟩ ∈ gtb := gtb_t5 (i := 210) rfl (by decide +kernel)
set_option maxRecDepth 100000 in
theorem gw694 : Jvm.Cond.methodLink "LeftAnswers$Sentence" 58 ⟨"LeftAnswers$Sentence", "readAll", "(LLeftAnswers$Tape;LLeftAnswers$Duchy;I)Z"⟩ ∈ gtb := gtb_t5 (i := 191) rfl (by decide +kernel)
set_option maxRecDepth 100000 in
theorem gw695 : Jvm.Cond.selects "LeftAnswers$Sentence" ⟨"LeftAnswers$Sentence", "readAll", "(LLeftAnswers$Tape;LLeftAnswers$Duchy;I)Z"⟩ ⟨"LeftAnswers$Sentence", "readAll", "(LLeftAnswers$Tape;LLeftAnswers$Duchy;I)Z"⟩ ∈ gtb := gtb_in (i := 40) (by decide +kernel) (by decide +kernel)
set_option maxRecDepth 100000 in
theorem gw696 : Jvm.Cond.code ⟨"LeftAnswers$Sentence", "readAll", "(LLeftAnswers$Tape;LLeftAnswers$Duchy;I)Z"⟩ prog_10_method_6_code 6 (some .boolean) ∈ gtb := gtb_t5 (i := 194) rfl (by decide +kernel)
set_option maxRecDepth 100000 in
theorem gw697 : Jvm.Cond.instanceMethod ⟨"LeftAnswers$Sentence", "readAll", "(LLeftAnswers$Tape;LLeftAnswers$Duchy;I)Z"⟩ ∈ gtb := gtb_t5 (i := 193) rfl (by decide +kernel)
set_option maxRecDepth 100000 in
theorem gw698 : Jvm.Cond.fieldLink "LeftAnswers$Sentence" 64 "LeftAnswers$Word" "OR" "LLeftAnswers$Word;" ∈ gtb := gtb_t5 (i := 226) rfl (by decide +kernel)
set_option maxRecDepth 100000 in
theorem gw699 : Jvm.Cond.methodLink "LeftAnswers$Sentence" 38 ⟨"LeftAnswers$Sentence", "clear", "()V"⟩ ∈ gtb := gtb_t5 (i := 185) rfl (by decide +kernel)
set_option maxRecDepth 100000 in
theorem gw700 : Jvm.Cond.methodLink "LeftAnswers$Sentence" 41 ⟨"LeftAnswers$Tape", "open", "(I)V"⟩ ∈ gtb := gtb_t5 (i := 186) rfl (by decide +kernel)
set_option maxRecDepth 100000 in
theorem gw701 : Jvm.Cond.methodLink "LeftAnswers$Sentence" 47 ⟨"LeftAnswers$Sentence", "readCond", "(LLeftAnswers$Tape;LLeftAnswers$Duchy;I)Z"⟩ ∈ gtb := gtb_t5 (i := 187) rfl (by decide +kernel)
set_option maxRecDepth 100000 in
theorem gw702 : Jvm.Cond.selects "LeftAnswers$Sentence" ⟨"LeftAnswers$Sentence", "readCond", "(LLeftAnswers$Tape;LLeftAnswers$Duchy;I)Z"⟩ ⟨"LeftAnswers$Sentence", "readCond", "(LLeftAnswers$Tape;LLeftAnswers$Duchy;I)Z"⟩ ∈ gtb := gtb_in (i := 39) (by decide +kernel) (by decide +kernel)
set_option maxRecDepth 100000 in
theorem gw703 : Jvm.Cond.code ⟨"LeftAnswers$Sentence", "readCond", "(LLeftAnswers$Tape;LLeftAnswers$Duchy;I)Z"⟩ prog_10_method_5_code 6 (some .boolean) ∈ gtb := gtb_t5 (i := 190) rfl (by decide +kernel)
set_option maxRecDepth 100000 in
theorem gw704 : Jvm.Cond.instanceMethod ⟨"LeftAnswers$Sentence", "readCond", "(LLeftAnswers$Tape;LLeftAnswers$Duchy;I)Z"⟩ ∈ gtb := gtb_t5 (i := 189) rfl (by decide +kernel)
set_option maxRecDepth 100000 in
theorem gw705 : Jvm.Cond.fieldLink "LeftAnswers$Sentence" 51 "LeftAnswers$Tape" "kind" "I" ∈ gtb := gtb_t1 (i := 50) rfl (by decide +kernel)
set_option maxRecDepth 100000 in
theorem gw706 : Jvm.Cond.methodLink "LeftAnswers$Sentence" 54 ⟨"LeftAnswers$Tape", "refuse", "(I)Z"⟩ ∈ gtb := gtb_t5 (i := 205) rfl (by decide +kernel)
set_option maxRecDepth 100000 in
theorem gw707 : Jvm.Cond.fieldLink "LeftAnswers$Sentence" 117 "LeftAnswers$Tape" "number" "I" ∈ gtb := gtb_t1 (i := 60) rfl (by decide +kernel)
set_option maxRecDepth 100000 in
theorem gw708 : Jvm.Cond.methodLink "LeftAnswers$Sentence" 80 ⟨"LeftAnswers$Tape", "isMarkHere", "(C)Z"⟩ ∈ gtb := gtb_t5 (i := 199) rfl (by decide +kernel)
set_option maxRecDepth 100000 in
theorem gw709 : Jvm.Cond.selects "LeftAnswers$Tape" ⟨"LeftAnswers$Tape", "isMarkHere", "(C)Z"⟩ ⟨"LeftAnswers$Tape", "isMarkHere", "(C)Z"⟩ ∈ gtb := gtb_t3 (i := 139) rfl (by decide +kernel)
set_option maxRecDepth 100000 in
theorem gw710 : Jvm.Cond.code ⟨"LeftAnswers$Tape", "isMarkHere", "(C)Z"⟩ prog_12_method_13_code 2 (some .boolean) ∈ gtb := gtb_t3 (i := 140) rfl (by decide +kernel)
set_option maxRecDepth 100000 in
theorem gw711 : Jvm.Cond.instanceMethod ⟨"LeftAnswers$Tape", "isMarkHere", "(C)Z"⟩ ∈ gtb := gtb_t3 (i := 138) rfl (by decide +kernel)
set_option maxRecDepth 100000 in
theorem gw712 : Jvm.Cond.methodLink "LeftAnswers$Sentence" 120 ⟨"LeftAnswers$Tape", "takesNumber", "(II)Z"⟩ ∈ gtb := gtb_t5 (i := 223) rfl (by decide +kernel)
set_option maxRecDepth 100000 in
theorem gw713 : Jvm.Cond.fieldLink "LeftAnswers$Sentence" 124 "LeftAnswers$Tape" "taken" "I" ∈ gtb := gtb_t1 (i := 64) rfl (by decide +kernel)
set_option maxRecDepth 100000 in
theorem gw714 : Jvm.Cond.methodLink "LeftAnswers$Sentence" 84 ⟨"LeftAnswers$Sentence", "beginsOne", "(LLeftAnswers$Word;)Z"⟩ ∈ gtb := gtb_t5 (i := 200) rfl (by decide +kernel)
set_option maxRecDepth 100000 in
theorem gw715 : Jvm.Cond.code ⟨"LeftAnswers$Sentence", "beginsOne", "(LLeftAnswers$Word;)Z"⟩ prog_10_method_8_code 1 (some .boolean) ∈ gtb := gtb_t5 (i := 202) rfl (by decide +kernel)
set_option maxRecDepth 100000 in
theorem gw716 : Jvm.Cond.static ⟨"LeftAnswers$Sentence", "beginsOne", "(LLeftAnswers$Word;)Z"⟩ ∈ gtb := gtb_t5 (i := 201) rfl (by decide +kernel)
set_option maxRecDepth 100000 in
theorem gw717 : Jvm.Cond.methodLink "LeftAnswers$Sentence" 88 ⟨"LeftAnswers$Tape", "takesMark", "(C)Z"⟩ ∈ gtb := gtb_t5 (i := 207) rfl (by decide +kernel)
set_option maxRecDepth 100000 in
theorem gw718 : Jvm.Cond.methodLink "LeftAnswers$Sentence" 100 ⟨"LeftAnswers$Sentence", "readTo", "(LLeftAnswers$Tape;LLeftAnswers$Duchy;)Z"⟩ ∈ gtb := gtb_t5 (i := 212) rfl (by decide +kernel)
set_option maxRecDepth 100000 in
theorem gw719 : Jvm.Cond.selects "LeftAnswers$Sentence" ⟨"LeftAnswers$Sentence", "readTo", "(LLeftAnswers$Tape;LLeftAnswers$Duchy;)Z"⟩ ⟨"LeftAnswers$Sentence", "readTo", "(LLeftAnswers$Tape;LLeftAnswers$Duchy;)Z"⟩ ∈ gtb := gtb_in (i := 43) (by decide +kernel) (by decide +kernel)
set_option maxRecDepth 100000 in
theorem gw720 : Jvm.Cond.code ⟨"LeftAnswers$Sentence", "readTo", "(LLeftAnswers$Tape;LLeftAnswers$Duchy;)Z"⟩ prog_10_method_9_code 4 (some .boolean) ∈ gtb := gtb_t5 (i := 215) rfl (by decide +kernel)
set_option maxRecDepth 100000 in
theorem gw721 : Jvm.Cond.instanceMethod ⟨"LeftAnswers$Sentence", "readTo", "(LLeftAnswers$Tape;LLeftAnswers$Duchy;)Z"⟩ ∈ gtb := gtb_t5 (i := 214) rfl (by decide +kernel)
set_option maxRecDepth 100000 in
theorem gw722 : Jvm.Cond.methodLink "LeftAnswers$Sentence" 104 ⟨"LeftAnswers$Sentence", "readMeasure", "(LLeftAnswers$Tape;LLeftAnswers$Word;)Z"⟩ ∈ gtb := gtb_t5 (i := 219) rfl (by decide +kernel)
set_option maxRecDepth 100000 in
theorem gw723 : Jvm.Cond.selects "LeftAnswers$Sentence" ⟨"LeftAnswers$Sentence", "readMeasure", "(LLeftAnswers$Tape;LLeftAnswers$Word;)Z"⟩ ⟨"LeftAnswers$Sentence", "readMeasure", "(LLeftAnswers$Tape;LLeftAnswers$Word;)Z"⟩ ∈ gtb := gtb_in (i := 44) (by decide +kernel) (by decide +kernel)
set_option maxRecDepth 100000 in
theorem gw724 : Jvm.Cond.code ⟨"LeftAnswers$Sentence", "readMeasure", "(LLeftAnswers$Tape;LLeftAnswers$Word;)Z"⟩ prog_10_method_10_code 4 (some .boolean) ∈ gtb := gtb_t5 (i := 222) rfl (by decide +kernel)
set_option maxRecDepth 100000 in
theorem gw725 : Jvm.Cond.instanceMethod ⟨"LeftAnswers$Sentence", "readMeasure", "(LLeftAnswers$Tape;LLeftAnswers$Word;)Z"⟩ ∈ gtb := gtb_t5 (i := 221) rfl (by decide +kernel)
set_option maxRecDepth 100000 in
theorem gw726 : Jvm.Cond.methodLink "LeftAnswers$Sentence" 108 ⟨"LeftAnswers$Duchy", "personHere", "(LLeftAnswers$Tape;)I"⟩ ∈ gtb := gtb_t5 (i := 216) rfl (by decide +kernel)
set_option maxRecDepth 100000 in
theorem gw727 : Jvm.Cond.fieldLink "LeftAnswers$Sentence" 114 "LeftAnswers$Word" "TO" "LLeftAnswers$Word;" ∈ gtb := gtb_t5 (i := 217) rfl (by decide +kernel)
set_option maxRecDepth 100000 in
theorem gw728 : Jvm.Cond.methodLink "LeftAnswers$Sentence" 127 ⟨"LeftAnswers$Duchy", "allPersonBits", "()I"⟩ ∈ gtb := gtb_t5 (i := 236) rfl (by decide +kernel)
set_option maxRecDepth 100000 in
theorem gw729 : Jvm.Cond.fieldLink "LeftAnswers$Sentence" 130 "LeftAnswers$Word" "NOT" "LLeftAnswers$Word;" ∈ gtb := gtb_t5 (i := 237) rfl (by decide +kernel)
set_option maxRecDepth 100000 in
theorem gw730 : Jvm.Cond.methodLink "LeftAnswers$Sentence" 133 ⟨"LeftAnswers$Sentence", "bitsOf", "(ILLeftAnswers$Duchy;LLeftAnswers$Life;)I"⟩ ∈ gtb := gtb_t5 (i := 239) rfl (by decide +kernel)
set_option maxRecDepth 100000 in
theorem gw731 : Jvm.Cond.selects "LeftAnswers$Sentence" ⟨"LeftAnswers$Sentence", "bitsOf", "(ILLeftAnswers$Duchy;LLeftAnswers$Life;)I"⟩ ⟨"LeftAnswers$Sentence", "bitsOf", "(ILLeftAnswers$Duchy;LLeftAnswers$Life;)I"⟩ ∈ gtb := gtb_in (i := 45) (by decide +kernel) (by decide +kernel)
set_option maxRecDepth 100000 in
theorem gw732 : Jvm.Cond.code ⟨"LeftAnswers$Sentence", "bitsOf", "(ILLeftAnswers$Duchy;LLeftAnswers$Life;)I"⟩ prog_10_method_13_code 4 (some .int) ∈ gtb := gtb_t6 (i := 2) rfl (by decide +kernel)
set_option maxRecDepth 100000 in
theorem gw733 : Jvm.Cond.instanceMethod ⟨"LeftAnswers$Sentence", "bitsOf", "(ILLeftAnswers$Duchy;LLeftAnswers$Life;)I"⟩ ∈ gtb := gtb_t6 (i := 1) rfl (by decide +kernel)
set_option maxRecDepth 100000 in
theorem gw734 : Jvm.Cond.methodLink "LeftAnswers$Slip" 3 ⟨"java/lang/Object", "<init>", "()V"⟩ ∈ gtb := gtb_t2 (i := 153) rfl (by decide +kernel)
set_option maxRecDepth 100000 in
theorem gw735 : Jvm.Cond.arrayClass .byte ∈ gtb := gtb_t1 (i := 94) rfl (by decide +kernel)
set_option maxRecDepth 100000 in
theorem gw736 : Jvm.Cond.fieldLink "LeftAnswers$Slip" 11 "LeftAnswers$Slip" "bytes" "[B" ∈ gtb := gtb_t2 (i := 154) rfl (by decide +kernel)
set_option maxRecDepth 100000 in
theorem gw737 : Jvm.Cond.constantLong "LeftAnswers$Slip" 76 31 ∈ gtb := gtb_t5 (i := 31) rfl (by decide +kernel)
set_option maxRecDepth 100000 in
theorem gw738 : Jvm.Cond.methodLink "LeftAnswers$Slip" 73 ⟨"LeftAnswers$Slip", "putSign", "(I)V"⟩ ∈ gtb := gtb_t5 (i := 32) rfl (by decide +kernel)
set_option maxRecDepth 100000 in
theorem gw739 : Jvm.Cond.selects "LeftAnswers$Slip" ⟨"LeftAnswers$Slip", "putSign", "(I)V"⟩ ⟨"LeftAnswers$Slip", "putSign", "(I)V"⟩ ∈ gtb := gtb_in (i := 29) (by decide +kernel) (by decide +kernel)
set_option maxRecDepth 100000 in
theorem gw740 : Jvm.Cond.code ⟨"LeftAnswers$Slip", "putSign", "(I)V"⟩ prog_11_method_3_code 2 none ∈ gtb := gtb_t5 (i := 35) rfl (by decide +kernel)
set_option maxRecDepth 100000 in
theorem gw741 : Jvm.Cond.instanceMethod ⟨"LeftAnswers$Slip", "putSign", "(I)V"⟩ ∈ gtb := gtb_t5 (i := 34) rfl (by decide +kernel)
set_option maxRecDepth 100000 in
theorem gw742 : Jvm.Cond.fieldLink "LeftAnswers$Slip" 15 "LeftAnswers$Slip" "length" "I" ∈ gtb := gtb_t2 (i := 156) rfl (by decide +kernel)
set_option maxRecDepth 100000 in
theorem gw743 : Jvm.Cond.methodLink "LeftAnswers$Slip" 64 ⟨"java/lang/String", "length", "()I"⟩ ∈ gtb := gtb_t5 (i := 41) rfl (by decide +kernel)
set_option maxRecDepth 100000 in
theorem gw744 : Jvm.Cond.methodLink "LeftAnswers$Slip" 69 ⟨"java/lang/String", "charAt", "(I)C"⟩ ∈ gtb := gtb_t5 (i := 51) rfl (by decide +kernel)
set_option maxRecDepth 100000 in
theorem gw745 : Jvm.Cond.fieldLink "LeftAnswers$Slip" 19 "LeftAnswers$Duchy" "personNames" "[J" ∈ gtb := gtb_t1 (i := 126) rfl (by decide +kernel)
set_option maxRecDepth 100000 in
theorem gw746 : Jvm.Cond.methodLink "LeftAnswers$Slip" 25 ⟨"LeftAnswers$Slip", "putName", "(J)V"⟩ ∈ gtb := gtb_t5 (i := 27) rfl (by decide +kernel)
set_option maxRecDepth 100000 in
theorem gw747 : Jvm.Cond.selects "LeftAnswers$Slip" ⟨"LeftAnswers$Slip", "putName", "(J)V"⟩ ⟨"LeftAnswers$Slip", "putName", "(J)V"⟩ ∈ gtb := gtb_in (i := 28) (by decide +kernel) (by decide +kernel)
set_option maxRecDepth 100000 in
theorem gw748 : Jvm.Cond.code ⟨"LeftAnswers$Slip", "putName", "(J)V"⟩ prog_11_method_5_code 5 none ∈ gtb := gtb_t5 (i := 30) rfl (by decide +kernel)
set_option maxRecDepth 100000 in
theorem gw749 : Jvm.Cond.instanceMethod ⟨"LeftAnswers$Slip", "putName", "(J)V"⟩ ∈ gtb := gtb_t5 (i := 29) rfl (by decide +kernel)
end
section
set_option maxRecDepth 100000 in
theorem gw750 : Jvm.Cond.methodLink "LeftAnswers$Slip" 31 ⟨"LeftAnswers$Slip", "putText", "(Ljava/lang/String;)V"⟩ ∈ gtb := gtb_t5 (i := 37) rfl (by decide +kernel)
set_option maxRecDepth 100000 in
theorem gw751 : Jvm.Cond.selects "LeftAnswers$Slip" ⟨"LeftAnswers$Slip", "putText", "(Ljava/lang/String;)V"⟩ ⟨"LeftAnswers$Slip", "putText", "(Ljava/lang/String;)V"⟩ ∈ gtb := gtb_in (i := 30) (by decide +kernel) (by decide +kernel)
set_option maxRecDepth 100000 in
theorem gw752 : Jvm.Cond.code ⟨"LeftAnswers$Slip", "putText", "(Ljava/lang/String;)V"⟩ prog_11_method_4_code 3 none ∈ gtb := gtb_t5 (i := 40) rfl (by decide +kernel)
set_option maxRecDepth 100000 in
theorem gw753 : Jvm.Cond.instanceMethod ⟨"LeftAnswers$Slip", "putText", "(Ljava/lang/String;)V"⟩ ∈ gtb := gtb_t5 (i := 39) rfl (by decide +kernel)
set_option maxRecDepth 100000 in
theorem gw754 : Jvm.Cond.fieldLink "LeftAnswers$Slip" 35 "LeftAnswers$Life" "coins" "[I" ∈ gtb := gtb_t1 (i := 200) rfl (by decide +kernel)
set_option maxRecDepth 100000 in
theorem gw755 : Jvm.Cond.methodLink "LeftAnswers$Slip" 41 ⟨"LeftAnswers$Slip", "putNumber", "(I)V"⟩ ∈ gtb := gtb_t5 (i := 89) rfl (by decide +kernel)
set_option maxRecDepth 100000 in
theorem gw756 : Jvm.Cond.selects "LeftAnswers$Slip" ⟨"LeftAnswers$Slip", "putNumber", "(I)V"⟩ ⟨"LeftAnswers$Slip", "putNumber", "(I)V"⟩ ∈ gtb := gtb_in (i := 31) (by decide +kernel) (by decide +kernel)
set_option maxRecDepth 100000 in
theorem gw757 : Jvm.Cond.code ⟨"LeftAnswers$Slip", "putNumber", "(I)V"⟩ prog_11_method_6_code 2 none ∈ gtb := gtb_t5 (i := 92) rfl (by decide +kernel)
set_option maxRecDepth 100000 in
theorem gw758 : Jvm.Cond.instanceMethod ⟨"LeftAnswers$Slip", "putNumber", "(I)V"⟩ ∈ gtb := gtb_t5 (i := 91) rfl (by decide +kernel)
set_option maxRecDepth 100000 in
theorem gw759 : Jvm.Cond.methodLink "LeftAnswers$Slip" 45 ⟨"LeftAnswers$Life", "isJailed", "(I)Z"⟩ ∈ gtb := gtb_t5 (i := 93) rfl (by decide +kernel)
set_option maxRecDepth 100000 in
theorem gw760 : Jvm.Cond.fieldLink "LeftAnswers$Slip" 51 "LeftAnswers$Life" "cell" "[I" ∈ gtb := gtb_t1 (i := 207) rfl (by decide +kernel)
set_option maxRecDepth 100000 in
theorem gw761 : Jvm.Cond.methodLink "LeftAnswers$Slip" 54 ⟨"LeftAnswers$Life", "isGloved", "(I)Z"⟩ ∈ gtb := gtb_t5 (i := 95) rfl (by decide +kernel)
set_option maxRecDepth 100000 in
theorem gw762 : Jvm.Cond.fieldLink "LeftAnswers$Slip" 59 "LeftAnswers$Life" "spouse" "[I" ∈ gtb := gtb_t1 (i := 213) rfl (by decide +kernel)
set_option maxRecDepth 100000 in
theorem gw763 : Jvm.Cond.methodLink "LeftAnswers$Tape" 3 ⟨"java/lang/Object", "<init>", "()V"⟩ ∈ gtb := gtb_t1 (i := 40) rfl (by decide +kernel)
set_option maxRecDepth 100000 in
theorem gw764 : Jvm.Cond.fieldLink "LeftAnswers$Tape" 11 "LeftAnswers$Tape" "bytes" "[B" ∈ gtb := gtb_t1 (i := 43) rfl (by decide +kernel)
set_option maxRecDepth 100000 in
theorem gw765 : Jvm.Cond.fieldLink "LeftAnswers$Tape" 15 "LeftAnswers$Word" "NOTHING" "LLeftAnswers$Word;" ∈ gtb := gtb_t1 (i := 41) rfl (by decide +kernel)
set_option maxRecDepth 100000 in
theorem gw766 : Jvm.Cond.fieldLink "LeftAnswers$Tape" 21 "LeftAnswers$Tape" "word" "LLeftAnswers$Word;" ∈ gtb := gtb_t1 (i := 53) rfl (by decide +kernel)
set_option maxRecDepth 100000 in
theorem gw767 : Jvm.Cond.fieldLink "LeftAnswers$Tape" 46 "LeftAnswers$Tape" "letters" "J" ∈ gtb := gtb_t1 (i := 57) rfl (by decide +kernel)
set_option maxRecDepth 100000 in
theorem gw768 : Jvm.Cond.fieldLink "LeftAnswers$Tape" 50 "LeftAnswers$Tape" "number" "I" ∈ gtb := gtb_t1 (i := 59) rfl (by decide +kernel)
set_option maxRecDepth 100000 in
theorem gw769 : Jvm.Cond.fieldLink "LeftAnswers$Tape" 31 "LeftAnswers$Tape" "at" "I" ∈ gtb := gtb_t1 (i := 47) rfl (by decide +kernel)
set_option maxRecDepth 100000 in
theorem gw770 : Jvm.Cond.fieldLink "LeftAnswers$Tape" 24 "LeftAnswers$Tape" "length" "I" ∈ gtb := gtb_t1 (i := 45) rfl (by decide +kernel)
set_option maxRecDepth 100000 in
theorem gw771 : Jvm.Cond.methodLink "LeftAnswers$Tape" 53 ⟨"LeftAnswers$Tape", "signAt", "(I)I"⟩ ∈ gtb := gtb_t3 (i := 34) rfl (by decide +kernel)
set_option maxRecDepth 100000 in
theorem gw772 : Jvm.Cond.methodLink "LeftAnswers$Tape" 57 ⟨"LeftAnswers$Tape", "isBlank", "(I)Z"⟩ ∈ gtb := gtb_t3 (i := 38) rfl (by decide +kernel)
set_option maxRecDepth 100000 in
theorem gw773 : Jvm.Cond.code ⟨"LeftAnswers$Tape", "isBlank", "(I)Z"⟩ prog_12_method_8_code 1 (some .boolean) ∈ gtb := gtb_t3 (i := 40) rfl (by decide +kernel)
set_option maxRecDepth 100000 in
theorem gw774 : Jvm.Cond.static ⟨"LeftAnswers$Tape", "isBlank", "(I)Z"⟩ ∈ gtb := gtb_t3 (i := 39) rfl (by decide +kernel)
set_option maxRecDepth 100000 in
theorem gw775 : Jvm.Cond.fieldLink "LeftAnswers$Tape" 61 "LeftAnswers$Tape" "place" "I" ∈ gtb := gtb_t1 (i := 52) rfl (by decide +kernel)
set_option maxRecDepth 100000 in
theorem gw776 : Jvm.Cond.fieldLink "LeftAnswers$Tape" 28 "LeftAnswers$Tape" "limit" "I" ∈ gtb := gtb_t1 (i := 46) rfl (by decide +kernel)
set_option maxRecDepth 100000 in
theorem gw777 : Jvm.Cond.fieldLink "LeftAnswers$Tape" 64 "LeftAnswers$Tape" "kind" "I" ∈ gtb := gtb_t1 (i := 51) rfl (by decide +kernel)
set_option maxRecDepth 100000 in
theorem gw778 : Jvm.Cond.methodLink "LeftAnswers$Tape" 67 ⟨"LeftAnswers$Tape", "isLetter", "(I)Z"⟩ ∈ gtb := gtb_t3 (i := 41) rfl (by decide +kernel)
set_option maxRecDepth 100000 in
theorem gw779 : Jvm.Cond.code ⟨"LeftAnswers$Tape", "isLetter", "(I)Z"⟩ prog_12_method_9_code 1 (some .boolean) ∈ gtb := gtb_t3 (i := 43) rfl (by decide +kernel)
set_option maxRecDepth 100000 in
theorem gw780 : Jvm.Cond.static ⟨"LeftAnswers$Tape", "isLetter", "(I)Z"⟩ ∈ gtb := gtb_t3 (i := 42) rfl (by decide +kernel)
set_option maxRecDepth 100000 in
theorem gw781 : Jvm.Cond.methodLink "LeftAnswers$Tape" 70 ⟨"LeftAnswers$Tape", "isDigit", "(I)Z"⟩ ∈ gtb := gtb_t3 (i := 44) rfl (by decide +kernel)
set_option maxRecDepth 100000 in
theorem gw782 : Jvm.Cond.code ⟨"LeftAnswers$Tape", "isDigit", "(I)Z"⟩ prog_12_method_10_code 1 (some .boolean) ∈ gtb := gtb_t3 (i := 46) rfl (by decide +kernel)
set_option maxRecDepth 100000 in
theorem gw783 : Jvm.Cond.static ⟨"LeftAnswers$Tape", "isDigit", "(I)Z"⟩ ∈ gtb := gtb_t3 (i := 45) rfl (by decide +kernel)
set_option maxRecDepth 100000 in
theorem gw784 : Jvm.Cond.methodLink "LeftAnswers$Tape" 73 ⟨"LeftAnswers$Tape", "readRun", "()V"⟩ ∈ gtb := gtb_t3 (i := 47) rfl (by decide +kernel)
set_option maxRecDepth 100000 in
theorem gw785 : Jvm.Cond.selects "LeftAnswers$Tape" ⟨"LeftAnswers$Tape", "readRun", "()V"⟩ ⟨"LeftAnswers$Tape", "readRun", "()V"⟩ ∈ gtb := gtb_in (i := 2) (by decide +kernel) (by decide +kernel)
set_option maxRecDepth 100000 in
theorem gw786 : Jvm.Cond.code ⟨"LeftAnswers$Tape", "readRun", "()V"⟩ prog_12_method_6_code 4 none ∈ gtb := gtb_t3 (i := 50) rfl (by decide +kernel)
set_option maxRecDepth 100000 in
theorem gw787 : Jvm.Cond.instanceMethod ⟨"LeftAnswers$Tape", "readRun", "()V"⟩ ∈ gtb := gtb_t3 (i := 49) rfl (by decide +kernel)
set_option maxRecDepth 100000 in
theorem gw788 : Jvm.Cond.methodLink "LeftAnswers$Tape" 76 ⟨"LeftAnswers$Tape", "readMark", "()V"⟩ ∈ gtb := gtb_t3 (i := 61) rfl (by decide +kernel)
set_option maxRecDepth 100000 in
theorem gw789 : Jvm.Cond.selects "LeftAnswers$Tape" ⟨"LeftAnswers$Tape", "readMark", "()V"⟩ ⟨"LeftAnswers$Tape", "readMark", "()V"⟩ ∈ gtb := gtb_in (i := 3) (by decide +kernel) (by decide +kernel)
set_option maxRecDepth 100000 in
theorem gw790 : Jvm.Cond.code ⟨"LeftAnswers$Tape", "readMark", "()V"⟩ prog_12_method_7_code 2 none ∈ gtb := gtb_t3 (i := 64) rfl (by decide +kernel)
set_option maxRecDepth 100000 in
theorem gw791 : Jvm.Cond.instanceMethod ⟨"LeftAnswers$Tape", "readMark", "()V"⟩ ∈ gtb := gtb_t3 (i := 63) rfl (by decide +kernel)
set_option maxRecDepth 100000 in
theorem gw792 : Jvm.Cond.fieldLink "LeftAnswers$Tape" 34 "LeftAnswers$Tape" "fault" "I" ∈ gtb := gtb_t1 (i := 65) rfl (by decide +kernel)
set_option maxRecDepth 100000 in
theorem gw793 : Jvm.Cond.fieldLink "LeftAnswers$Tape" 37 "LeftAnswers$Tape" "faultPlace" "I" ∈ gtb := gtb_t1 (i := 67) rfl (by decide +kernel)
set_option maxRecDepth 100000 in
theorem gw794 : Jvm.Cond.fieldLink "LeftAnswers$Tape" 40 "LeftAnswers$Tape" "taken" "I" ∈ gtb := gtb_t1 (i := 62) rfl (by decide +kernel)
set_option maxRecDepth 100000 in
theorem gw795 : Jvm.Cond.methodLink "LeftAnswers$Tape" 43 ⟨"LeftAnswers$Tape", "advance", "()V"⟩ ∈ gtb := gtb_t3 (i := 30) rfl (by decide +kernel)
set_option maxRecDepth 100000 in
theorem gw796 : Jvm.Cond.methodLink "LeftAnswers$Tape" 87 ⟨"LeftAnswers$Tape", "isMark", "(I)Z"⟩ ∈ gtb := gtb_t3 (i := 65) rfl (by decide +kernel)
set_option maxRecDepth 100000 in
theorem gw797 : Jvm.Cond.code ⟨"LeftAnswers$Tape", "isMark", "(I)Z"⟩ prog_12_method_11_code 1 (some .boolean) ∈ gtb := gtb_t3 (i := 67) rfl (by decide +kernel)
set_option maxRecDepth 100000 in
theorem gw798 : Jvm.Cond.static ⟨"LeftAnswers$Tape", "isMark", "(I)Z"⟩ ∈ gtb := gtb_t3 (i := 66) rfl (by decide +kernel)
set_option maxRecDepth 100000 in
theorem gw799 : Jvm.Cond.methodLink "LeftAnswers$Tape" 79 ⟨"LeftAnswers$Word", "withLetter", "(JI)J"⟩ ∈ gtb := gtb_t3 (i := 51) rfl (by decide +kernel)
set_option maxRecDepth 100000 in
theorem gw800 : Jvm.Cond.code ⟨"LeftAnswers$Word", "withLetter", "(JI)J"⟩ prog_13_method_5_code 3 (some .long) ∈ gtb := gtb_t3 (i := 53) rfl (by decide +kernel)
set_option maxRecDepth 100000 in
theorem gw801 : Jvm.Cond.initialized "LeftAnswers$Word" ∈ gtb := gtb_t1 (i := 4) rfl (by decide +kernel)
set_option maxRecDepth 100000 in
theorem gw802 : Jvm.Cond.static ⟨"LeftAnswers$Word", "withLetter", "(JI)J"⟩ ∈ gtb := gtb_t3 (i := 52) rfl (by decide +kernel)
set_option maxRecDepth 100000 in
theorem gw803 : Jvm.Cond.methodLink "LeftAnswers$Tape" 83 ⟨"LeftAnswers$Word", "of", "(J)LLeftAnswers$Word;"⟩ ∈ gtb := gtb_t3 (i := 54) rfl (by decide +kernel)
set_option maxRecDepth 100000 in
theorem gw804 : Jvm.Cond.code ⟨"LeftAnswers$Word", "of", "(J)LLeftAnswers$Word;"⟩ prog_13_method_6_code 3 (some (.object "LeftAnswers$Word")) ∈ gtb := gtb_t3 (i := 56) rfl (by decide +kernel)
set_option maxRecDepth 100000 in
theorem gw805 : Jvm.Cond.static ⟨"LeftAnswers$Word", "of", "(J)LLeftAnswers$Word;"⟩ ∈ gtb := gtb_t3 (i := 55) rfl (by decide +kernel)
set_option maxRecDepth 100000 in
theorem gw806 : Jvm.Cond.methodLink "LeftAnswers$Tape" 90 ⟨"LeftAnswers$Tape", "isMarkHere", "(C)Z"⟩ ∈ gtb := gtb_t3 (i := 137) rfl (by decide +kernel)
set_option maxRecDepth 100000 in
theorem gw807 : Jvm.Cond.methodLink "LeftAnswers$Tape" 94 ⟨"LeftAnswers$Tape", "refuse", "(I)Z"⟩ ∈ gtb := gtb_t3 (i := 97) rfl (by decide +kernel)
set_option maxRecDepth 100000 in
theorem gw808 : Jvm.Cond.fieldLink "LeftAnswers$Word" 141 "LeftAnswers$Word" "ALL" "[LLeftAnswers$Word;" ∈ gtb := gtb_t3 (i := 57) rfl (by decide +kernel)
set_option maxRecDepth 100000 in
theorem gw809 : Jvm.Cond.fieldLink "LeftAnswers$Word" 123 "LeftAnswers$Word" "letters" "J" ∈ gtb := gtb_t9 (i := 82) rfl (by decide +kernel)
set_option maxRecDepth 100000 in
theorem gw810 : Jvm.Cond.fieldLink "LeftAnswers$Word" 7 "LeftAnswers$Word" "NAME" "LLeftAnswers$Word;" ∈ gtb := gtb_t3 (i := 59) rfl (by decide +kernel)
set_option maxRecDepth 100000 in
theorem gw811 : Jvm.Cond.methodLink "LeftAnswersModel" 93 ⟨"java/lang/Object", "<init>", "()V"⟩ ∈ gtb := gtb_t6 (i := 142) rfl (by decide +kernel)
set_option maxRecDepth 100000 in
theorem gw812 : Jvm.Cond.fieldLink "LeftAnswersModel" 7 "LeftAnswersModel" "tape" "[I" ∈ gtb := gtb_t6 (i := 148) rfl (by decide +kernel)
set_option maxRecDepth 100000 in
theorem gw813 : Jvm.Cond.fieldLink "LeftAnswersModel" 98 "LeftAnswersModel" "now" "[I" ∈ gtb := gtb_t6 (i := 161) rfl (by decide +kernel)
set_option maxRecDepth 100000 in
theorem gw814 : Jvm.Cond.fieldLink "LeftAnswersModel" 101 "LeftAnswersModel" "read" "[I" ∈ gtb := gtb_t6 (i := 162) rfl (by decide +kernel)
set_option maxRecDepth 100000 in
theorem gw815 : Jvm.Cond.fieldLink "LeftAnswersModel" 104 "LeftAnswersModel" "kept" "[I" ∈ gtb := gtb_t6 (i := 163) rfl (by decide +kernel)
set_option maxRecDepth 100000 in
theorem gw816 : Jvm.Cond.fieldLink "LeftAnswersModel" 107 "LeftAnswersModel" "snaps" "[I" ∈ gtb := gtb_t6 (i := 164) rfl (by decide +kernel)
set_option maxRecDepth 100000 in
theorem gw817 : Jvm.Cond.fieldLink "LeftAnswersModel" 110 "LeftAnswersModel" "aside" "[I" ∈ gtb := gtb_t6 (i := 165) rfl (by decide +kernel)
set_option maxRecDepth 100000 in
theorem gw818 : Jvm.Cond.fieldLink "LeftAnswersModel" 113 "LeftAnswersModel" "name" "[J" ∈ gtb := gtb_t6 (i := 166) rfl (by decide +kernel)
set_option maxRecDepth 100000 in
theorem gw819 : Jvm.Cond.fieldLink "LeftAnswersModel" 117 "LeftAnswersModel" "readName" "[J" ∈ gtb := gtb_t6 (i := 167) rfl (by decide +kernel)
set_option maxRecDepth 100000 in
theorem gw820 : Jvm.Cond.fieldLink "LeftAnswersModel" 120 "LeftAnswersModel" "keptName" "[J" ∈ gtb := gtb_t6 (i := 168) rfl (by decide +kernel)
set_option maxRecDepth 100000 in
theorem gw821 : Jvm.Cond.arrayClass .boolean ∈ gtb := gtb_t7 (i := 64) rfl (by decide +kernel)
set_option maxRecDepth 100000 in
theorem gw822 : Jvm.Cond.fieldLink "LeftAnswersModel" 123 "LeftAnswersModel" "isKept" "[Z" ∈ gtb := gtb_t6 (i := 169) rfl (by decide +kernel)
set_option maxRecDepth 100000 in
theorem gw823 : Jvm.Cond.fieldLink "LeftAnswersModel" 127 "LeftAnswersModel" "onces" "[Z" ∈ gtb := gtb_t6 (i := 170) rfl (by decide +kernel)
set_option maxRecDepth 100000 in
theorem gw824 : Jvm.Cond.fieldLink "LeftAnswersModel" 130 "LeftAnswersModel" "parting" "[I" ∈ gtb := gtb_t6 (i := 172) rfl (by decide +kernel)
set_option maxRecDepth 100000 in
theorem gw825 : Jvm.Cond.fieldLink "LeftAnswersModel" 133 "LeftAnswersModel" "parted" "[I" ∈ gtb := gtb_t6 (i := 173) rfl (by decide +kernel)
set_option maxRecDepth 100000 in
theorem gw826 : Jvm.Cond.fieldLink "LeftAnswersModel" 136 "LeftAnswersModel" "taken" "[I" ∈ gtb := gtb_t6 (i := 174) rfl (by decide +kernel)
set_option maxRecDepth 100000 in
theorem gw827 : Jvm.Cond.fieldLink "LeftAnswersModel" 139 "LeftAnswersModel" "fit" "[I" ∈ gtb := gtb_t6 (i := 177) rfl (by decide +kernel)
set_option maxRecDepth 100000 in
theorem gw828 : Jvm.Cond.fieldLink "LeftAnswersModel" 142 "LeftAnswersModel" "trying" "[I" ∈ gtb := gtb_t6 (i := 178) rfl (by decide +kernel)
set_option maxRecDepth 100000 in
theorem gw829 : Jvm.Cond.fieldLink "LeftAnswersModel" 145 "LeftAnswersModel" "testing" "I" ∈ gtb := gtb_t6 (i := 180) rfl (by decide +kernel)
set_option maxRecDepth 100000 in
theorem gw830 : Jvm.Cond.fieldLink "LeftAnswersModel" 148 "LeftAnswersModel" "guarding" "I" ∈ gtb := gtb_t6 (i := 181) rfl (by decide +kernel)
set_option maxRecDepth 100000 in
theorem gw831 : Jvm.Cond.fieldLink "LeftAnswersModel" 151 "LeftAnswersModel" "wedding" "[I" ∈ gtb := gtb_t6 (i := 182) rfl (by decide +kernel)
set_option maxRecDepth 100000 in
theorem gw832 : Jvm.Cond.fieldLink "LeftAnswersModel" 154 "LeftAnswersModel" "wedded" "[I" ∈ gtb := gtb_t6 (i := 183) rfl (by decide +kernel)
set_option maxRecDepth 100000 in
theorem gw833 : Jvm.Cond.fieldLink "LeftAnswersModel" 157 "LeftAnswersModel" "text" "[I" ∈ gtb := gtb_t6 (i := 187) rfl (by decide +kernel)
set_option maxRecDepth 100000 in
theorem gw834 : Jvm.Cond.fieldLink "LeftAnswersModel" 160 "LeftAnswersModel" "line" "[I" ∈ gtb := gtb_t6 (i := 190) rfl (by decide +kernel)
set_option maxRecDepth 100000 in
theorem gw835 : Jvm.Cond.fieldLink "LeftAnswersModel" 163 "LeftAnswersModel" "written" "[I" ∈ gtb := gtb_t6 (i := 191) rfl (by decide +kernel)
set_option maxRecDepth 100000 in
theorem gw836 : Jvm.Cond.fieldLink "LeftAnswersModel" 166 "LeftAnswersModel" "node" "[I" ∈ gtb := gtb_t6 (i := 194) rfl (by decide +kernel)
set_option maxRecDepth 100000 in
theorem gw837 : Jvm.Cond.methodLink "LeftAnswersModel" 169 ⟨"LeftAnswersModel", "startSo", "()V"⟩ ∈ gtb := gtb_t6 (i := 143) rfl (by decide +kernel)
set_option maxRecDepth 100000 in
theorem gw838 : Jvm.Cond.selects "LeftAnswersModel" ⟨"LeftAnswersModel", "startSo", "()V"⟩ ⟨"LeftAnswersModel", "startSo", "()V"⟩ ∈ gtb := gtb_in (i := 49) (by decide +kernel) (by decide +kernel)
set_option maxRecDepth 100000 in
theorem gw839 : Jvm.Cond.code ⟨"LeftAnswersModel", "startSo", "()V"⟩ prog_15_method_27_code 2 none ∈ gtb := gtb_t6 (i := 146) rfl (by decide +kernel)
set_option maxRecDepth 100000 in
theorem gw840 : Jvm.Cond.initialized "LeftAnswersModel" ∈ gtb := gtb_t1 (i := 14) rfl (by decide +kernel)
set_option maxRecDepth 100000 in
theorem gw841 : Jvm.Cond.instanceMethod ⟨"LeftAnswersModel", "startSo", "()V"⟩ ∈ gtb := gtb_t6 (i := 145) rfl (by decide +kernel)
set_option maxRecDepth 100000 in
theorem gw842 : Jvm.Cond.fieldLink "LeftAnswersModel" 1 "LeftAnswersModel" "thrown" "I" ∈ gtb := gtb_t6 (i := 147) rfl (by decide +kernel)
set_option maxRecDepth 100000 in
theorem gw843 : Jvm.Cond.methodLink "LeftAnswersModel" 240 ⟨"LeftAnswersModel", "isPerson", "(I)Z"⟩ ∈ gtb := gtb_t7 (i := 188) rfl (by decide +kernel)
set_option maxRecDepth 100000 in
theorem gw844 : Jvm.Cond.selects "LeftAnswersModel" ⟨"LeftAnswersModel", "isPerson", "(I)Z"⟩ ⟨"LeftAnswersModel", "isPerson", "(I)Z"⟩ ∈ gtb := gtb_in (i := 72) (by decide +kernel) (by decide +kernel)
set_option maxRecDepth 100000 in
theorem gw845 : Jvm.Cond.code ⟨"LeftAnswersModel", "isPerson", "(I)Z"⟩ prog_15_method_43_code 2 (some .boolean) ∈ gtb := gtb_t7 (i := 191) rfl (by decide +kernel)
set_option maxRecDepth 100000 in
theorem gw846 : Jvm.Cond.instanceMethod ⟨"LeftAnswersModel", "isPerson", "(I)Z"⟩ ∈ gtb := gtb_t7 (i := 190) rfl (by decide +kernel)
set_option maxRecDepth 100000 in
theorem gw847 : Jvm.Cond.methodLink "LeftAnswersModel" 256 ⟨"LeftAnswersModel", "isDeed", "(I)Z"⟩ ∈ gtb := gtb_t7 (i := 220) rfl (by decide +kernel)
set_option maxRecDepth 100000 in
theorem gw848 : Jvm.Cond.selects "LeftAnswersModel" ⟨"LeftAnswersModel", "isDeed", "(I)Z"⟩ ⟨"LeftAnswersModel", "isDeed", "(I)Z"⟩ ∈ gtb := gtb_in (i := 78) (by decide +kernel) (by decide +kernel)
set_option maxRecDepth 100000 in
theorem gw849 : Jvm.Cond.code ⟨"LeftAnswersModel", "isDeed", "(I)Z"⟩ prog_15_method_44_code 2 (some .boolean) ∈ gtb := gtb_t7 (i := 223) rfl (by decide +kernel)
set_option maxRecDepth 100000 in
theorem gw850 : Jvm.Cond.instanceMethod ⟨"LeftAnswersModel", "isDeed", "(I)Z"⟩ ∈ gtb := gtb_t7 (i := 222) rfl (by decide +kernel)
set_option maxRecDepth 100000 in
theorem gw851 : Jvm.Cond.methodLink "LeftAnswersModel" 271 ⟨"LeftAnswersModel", "whyDo", "(III)I"⟩ ∈ gtb := gtb_t8 (i := 12) rfl (by decide +kernel)
set_option maxRecDepth 100000 in
theorem gw852 : Jvm.Cond.selects "LeftAnswersModel" ⟨"LeftAnswersModel", "whyDo", "(III)I"⟩ ⟨"LeftAnswersModel", "whyDo", "(III)I"⟩ ∈ gtb := gtb_in (i := 84) (by decide +kernel) (by decide +kernel)
set_option maxRecDepth 100000 in
theorem gw853 : Jvm.Cond.code ⟨"LeftAnswersModel", "whyDo", "(III)I"⟩ prog_15_method_59_code 4 (some .int) ∈ gtb := gtb_t8 (i := 15) rfl (by decide +kernel)
set_option maxRecDepth 100000 in
theorem gw854 : Jvm.Cond.instanceMethod ⟨"LeftAnswersModel", "whyDo", "(III)I"⟩ ∈ gtb := gtb_t8 (i := 14) rfl (by decide +kernel)
set_option maxRecDepth 100000 in
theorem gw855 : Jvm.Cond.methodLink "LeftAnswersModel" 281 ⟨"LeftAnswersModel", "why", "(IIII)I"⟩ ∈ gtb := gtb_t8 (i := 8) rfl (by decide +kernel)
set_option maxRecDepth 100000 in
theorem gw856 : Jvm.Cond.selects "LeftAnswersModel" ⟨"LeftAnswersModel", "why", "(IIII)I"⟩ ⟨"LeftAnswersModel", "why", "(IIII)I"⟩ ∈ gtb := gtb_in (i := 83) (by decide +kernel) (by decide +kernel)
set_option maxRecDepth 100000 in
theorem gw857 : Jvm.Cond.code ⟨"LeftAnswersModel", "why", "(IIII)I"⟩ prog_15_method_60_code 5 (some .int) ∈ gtb := gtb_t8 (i := 11) rfl (by decide +kernel)
set_option maxRecDepth 100000 in
theorem gw858 : Jvm.Cond.instanceMethod ⟨"LeftAnswersModel", "why", "(IIII)I"⟩ ∈ gtb := gtb_t8 (i := 10) rfl (by decide +kernel)
set_option maxRecDepth 100000 in
theorem gw859 : Jvm.Cond.methodLink "LeftAnswersModel" 285 ⟨"LeftAnswersModel", "snap", "()V"⟩ ∈ gtb := gtb_t8 (i := 19) rfl (by decide +kernel)
set_option maxRecDepth 100000 in
theorem gw860 : Jvm.Cond.selects "LeftAnswersModel" ⟨"LeftAnswersModel", "snap", "()V"⟩ ⟨"LeftAnswersModel", "snap", "()V"⟩ ∈ gtb := gtb_in (i := 85) (by decide +kernel) (by decide +kernel)
set_option maxRecDepth 100000 in
theorem gw861 : Jvm.Cond.code ⟨"LeftAnswersModel", "snap", "()V"⟩ prog_15_method_57_code 2 none ∈ gtb := gtb_t8 (i := 22) rfl (by decide +kernel)
set_option maxRecDepth 100000 in
theorem gw862 : Jvm.Cond.instanceMethod ⟨"LeftAnswersModel", "snap", "()V"⟩ ∈ gtb := gtb_t8 (i := 21) rfl (by decide +kernel)
set_option maxRecDepth 100000 in
theorem gw863 : Jvm.Cond.methodLink "LeftAnswersModel" 288 ⟨"LeftAnswersModel", "live", "(IIII)V"⟩ ∈ gtb := gtb_t8 (i := 23) rfl (by decide +kernel)
set_option maxRecDepth 100000 in
theorem gw864 : Jvm.Cond.selects "LeftAnswersModel" ⟨"LeftAnswersModel", "live", "(IIII)V"⟩ ⟨"LeftAnswersModel", "live", "(IIII)V"⟩ ∈ gtb := gtb_in (i := 86) (by decide +kernel) (by decide +kernel)
set_option maxRecDepth 100000 in
theorem gw865 : Jvm.Cond.code ⟨"LeftAnswersModel", "live", "(IIII)V"⟩ prog_15_method_62_code 5 none ∈ gtb := gtb_t8 (i := 26) rfl (by decide +kernel)
set_option maxRecDepth 100000 in
theorem gw866 : Jvm.Cond.instanceMethod ⟨"LeftAnswersModel", "live", "(IIII)V"⟩ ∈ gtb := gtb_t8 (i := 25) rfl (by decide +kernel)
set_option maxRecDepth 100000 in
theorem gw867 : Jvm.Cond.fieldLink "LeftAnswersModel" 30 "LeftAnswersModel" "kind" "I" ∈ gtb := gtb_t6 (i := 154) rfl (by decide +kernel)
set_option maxRecDepth 100000 in
theorem gw868 : Jvm.Cond.fieldLink "LeftAnswersModel" 66 "LeftAnswersModel" "fault" "I" ∈ gtb := gtb_t6 (i := 157) rfl (by decide +kernel)
set_option maxRecDepth 100000 in
theorem gw869 : Jvm.Cond.fieldLink "LeftAnswersModel" 24 "LeftAnswersModel" "from" "I" ∈ gtb := gtb_t6 (i := 153) rfl (by decide +kernel)
set_option maxRecDepth 100000 in
theorem gw870 : Jvm.Cond.fieldLink "LeftAnswersModel" 69 "LeftAnswersModel" "place" "I" ∈ gtb := gtb_t6 (i := 158) rfl (by decide +kernel)
set_option maxRecDepth 100000 in
theorem gw871 : Jvm.Cond.methodLink "LeftAnswersModel" 292 ⟨"LeftAnswersModel", "act", "(IIIIZ)I"⟩ ∈ gtb := gtb_t8 (i := 4) rfl (by decide +kernel)
set_option maxRecDepth 100000 in
theorem gw872 : Jvm.Cond.selects "LeftAnswersModel" ⟨"LeftAnswersModel", "act", "(IIIIZ)I"⟩ ⟨"LeftAnswersModel", "act", "(IIIIZ)I"⟩ ∈ gtb := gtb_in (i := 82) (by decide +kernel) (by decide +kernel)
set_option maxRecDepth 100000 in
theorem gw873 : Jvm.Cond.code ⟨"LeftAnswersModel", "act", "(IIIIZ)I"⟩ prog_15_method_63_code 7 (some .int) ∈ gtb := gtb_t8 (i := 7) rfl (by decide +kernel)
set_option maxRecDepth 100000 in
theorem gw874 : Jvm.Cond.instanceMethod ⟨"LeftAnswersModel", "act", "(IIIIZ)I"⟩ ∈ gtb := gtb_t8 (i := 6) rfl (by decide +kernel)
set_option maxRecDepth 100000 in
theorem gw875 : Jvm.Cond.methodLink "LeftAnswersModel" 89 ⟨"LeftAnswersModel", "take", "()I"⟩ ∈ gtb := gtb_t7 (i := 73) rfl (by decide +kernel)
set_option maxRecDepth 100000 in
theorem gw876 : Jvm.Cond.selects "LeftAnswersModel" ⟨"LeftAnswersModel", "take", "()I"⟩ ⟨"LeftAnswersModel", "take", "()I"⟩ ∈ gtb := gtb_in (i := 51) (by decide +kernel) (by decide +kernel)
set_option maxRecDepth 100000 in
theorem gw877 : Jvm.Cond.code ⟨"LeftAnswersModel", "take", "()I"⟩ prog_15_method_6_code 2 (some .int) ∈ gtb := gtb_t7 (i := 76) rfl (by decide +kernel)
set_option maxRecDepth 100000 in
theorem gw878 : Jvm.Cond.instanceMethod ⟨"LeftAnswersModel", "take", "()I"⟩ ∈ gtb := gtb_t7 (i := 75) rfl (by decide +kernel)
set_option maxRecDepth 100000 in
theorem gw879 : Jvm.Cond.fieldLink "LeftAnswersModel" 18 "LeftAnswersModel" "size" "I" ∈ gtb := gtb_t6 (i := 150) rfl (by decide +kernel)
set_option maxRecDepth 100000 in
theorem gw880 : Jvm.Cond.fieldLink "LeftAnswersModel" 27 "LeftAnswersModel" "limit" "I" ∈ gtb := gtb_t6 (i := 151) rfl (by decide +kernel)
set_option maxRecDepth 100000 in
theorem gw881 : Jvm.Cond.fieldLink "LeftAnswersModel" 21 "LeftAnswersModel" "to" "I" ∈ gtb := gtb_t6 (i := 152) rfl (by decide +kernel)
set_option maxRecDepth 100000 in
theorem gw882 : Jvm.Cond.methodLink "LeftAnswersModel" 82 ⟨"LeftAnswersModel", "go", "()V"⟩ ∈ gtb := gtb_t7 (i := 77) rfl (by decide +kernel)
set_option maxRecDepth 100000 in
theorem gw883 : Jvm.Cond.selects "LeftAnswersModel" ⟨"LeftAnswersModel", "go", "()V"⟩ ⟨"LeftAnswersModel", "go", "()V"⟩ ∈ gtb := gtb_in (i := 52) (by decide +kernel) (by decide +kernel)
set_option maxRecDepth 100000 in
theorem gw884 : Jvm.Cond.code ⟨"LeftAnswersModel", "go", "()V"⟩ prog_15_method_16_code 5 none ∈ gtb := gtb_t7 (i := 80) rfl (by decide +kernel)
set_option maxRecDepth 100000 in
theorem gw885 : Jvm.Cond.instanceMethod ⟨"LeftAnswersModel", "go", "()V"⟩ ∈ gtb := gtb_t7 (i := 79) rfl (by decide +kernel)
set_option maxRecDepth 100000 in
theorem gw886 : Jvm.Cond.fieldLink "LeftAnswersModel" 331 "LeftAnswersModel" "wedMost" "I" ∈ gtb := gtb_t6 (i := 184) rfl (by decide +kernel)
set_option maxRecDepth 100000 in
theorem gw887 : Jvm.Cond.methodLink "LeftAnswersModel" 334 ⟨"LeftAnswersModel", "wedFrom", "(II)V"⟩ ∈ gtb := gtb_t8 (i := 132) rfl (by decide +kernel)
set_option maxRecDepth 100000 in
theorem gw888 : Jvm.Cond.selects "LeftAnswersModel" ⟨"LeftAnswersModel", "wedFrom", "(II)V"⟩ ⟨"LeftAnswersModel", "wedFrom", "(II)V"⟩ ∈ gtb := gtb_in (i := 95) (by decide +kernel) (by decide +kernel)
set_option maxRecDepth 100000 in
theorem gw889 : Jvm.Cond.code ⟨"LeftAnswersModel", "wedFrom", "(II)V"⟩ prog_15_method_88_code 4 none ∈ gtb := gtb_t8 (i := 135) rfl (by decide +kernel)
set_option maxRecDepth 100000 in
theorem gw890 : Jvm.Cond.instanceMethod ⟨"LeftAnswersModel", "wedFrom", "(II)V"⟩ ∈ gtb := gtb_t8 (i := 134) rfl (by decide +kernel)
set_option maxRecDepth 100000 in
theorem gw891 : Jvm.Cond.fieldLink "LeftAnswersModel" 344 "LeftAnswersModel" "wedMany" "I" ∈ gtb := gtb_t6 (i := 185) rfl (by decide +kernel)
set_option maxRecDepth 100000 in
theorem gw892 : Jvm.Cond.fieldLink "LeftAnswersModel" 347 "LeftAnswersModel" "hasWedded" "Z" ∈ gtb := gtb_t6 (i := 186) rfl (by decide +kernel)
set_option maxRecDepth 100000 in
theorem gw893 : Jvm.Cond.methodLink "LeftAnswersModel" 75 ⟨"LeftAnswersModel", "isIn", "(III)Z"⟩ ∈ gtb := gtb_t7 (i := 134) rfl (by decide +kernel)
set_option maxRecDepth 100000 in
theorem gw894 : Jvm.Cond.code ⟨"LeftAnswersModel", "isIn", "(III)Z"⟩ prog_15_method_7_code 3 (some .boolean) ∈ gtb := gtb_t7 (i := 136) rfl (by decide +kernel)
set_option maxRecDepth 100000 in
theorem gw895 : Jvm.Cond.static ⟨"LeftAnswersModel", "isIn", "(III)Z"⟩ ∈ gtb := gtb_t7 (i := 135) rfl (by decide +kernel)
set_option maxRecDepth 100000 in
theorem gw896 : Jvm.Cond.methodLink "LeftAnswersModel" 225 ⟨"LeftAnswersModel", "begin", "(I)V"⟩ ∈ gtb := gtb_t7 (i := 69) rfl (by decide +kernel)
set_option maxRecDepth 100000 in
theorem gw897 : Jvm.Cond.selects "LeftAnswersModel" ⟨"LeftAnswersModel", "begin", "(I)V"⟩ ⟨"LeftAnswersModel", "begin", "(I)V"⟩ ∈ gtb := gtb_in (i := 50) (by decide +kernel) (by decide +kernel)
set_option maxRecDepth 100000 in
theorem gw898 : Jvm.Cond.code ⟨"LeftAnswersModel", "begin", "(I)V"⟩ prog_15_method_25_code 2 none ∈ gtb := gtb_t7 (i := 72) rfl (by decide +kernel)
set_option maxRecDepth 100000 in
theorem gw899 : Jvm.Cond.instanceMethod ⟨"LeftAnswersModel", "begin", "(I)V"⟩ ∈ gtb := gtb_t7 (i := 71) rfl (by decide +kernel)
end
section
set_option maxRecDepth 100000 in
theorem gw900 : Jvm.Cond.fieldLink "LeftAnswersModel" 398 "LeftAnswersModel" "lineMany" "I" ∈ gtb := gtb_t6 (i := 192) rfl (by decide +kernel)
set_option maxRecDepth 100000 in
theorem gw901 : Jvm.Cond.methodLink "LeftAnswersModel" 404 ⟨"LeftAnswersModel", "readBookLine", "()Z"⟩ ∈ gtb := gtb_t8 (i := 217) rfl (by decide +kernel)
set_option maxRecDepth 100000 in
theorem gw902 : Jvm.Cond.selects "LeftAnswersModel" ⟨"LeftAnswersModel", "readBookLine", "()Z"⟩ ⟨"LeftAnswersModel", "readBookLine", "()Z"⟩ ∈ gtb := gtb_in (i := 108) (by decide +kernel) (by decide +kernel)
set_option maxRecDepth 100000 in
theorem gw903 : Jvm.Cond.code ⟨"LeftAnswersModel", "readBookLine", "()Z"⟩ prog_15_method_111_code 3 (some .boolean) ∈ gtb := gtb_t8 (i := 220) rfl (by decide +kernel)
set_option maxRecDepth 100000 in
theorem gw904 : Jvm.Cond.instanceMethod ⟨"LeftAnswersModel", "readBookLine", "()Z"⟩ ∈ gtb := gtb_t8 (i := 219) rfl (by decide +kernel)
set_option maxRecDepth 100000 in
theorem gw905 : Jvm.Cond.methodLink "LeftAnswersModel" 383 ⟨"LeftAnswersModel", "layAside", "()V"⟩ ∈ gtb := gtb_t8 (i := 205) rfl (by decide +kernel)
set_option maxRecDepth 100000 in
theorem gw906 : Jvm.Cond.selects "LeftAnswersModel" ⟨"LeftAnswersModel", "layAside", "()V"⟩ ⟨"LeftAnswersModel", "layAside", "()V"⟩ ∈ gtb := gtb_in (i := 106) (by decide +kernel) (by decide +kernel)
set_option maxRecDepth 100000 in
theorem gw907 : Jvm.Cond.code ⟨"LeftAnswersModel", "layAside", "()V"⟩ prog_15_method_104_code 2 none ∈ gtb := gtb_t8 (i := 208) rfl (by decide +kernel)
set_option maxRecDepth 100000 in
theorem gw908 : Jvm.Cond.instanceMethod ⟨"LeftAnswersModel", "layAside", "()V"⟩ ∈ gtb := gtb_t8 (i := 207) rfl (by decide +kernel)
set_option maxRecDepth 100000 in
theorem gw909 : Jvm.Cond.methodLink "LeftAnswersModel" 407 ⟨"LeftAnswersModel", "goBy", "(I)I"⟩ ∈ gtb := gtb_t8 (i := 237) rfl (by decide +kernel)
set_option maxRecDepth 100000 in
theorem gw910 : Jvm.Cond.selects "LeftAnswersModel" ⟨"LeftAnswersModel", "goBy", "(I)I"⟩ ⟨"LeftAnswersModel", "goBy", "(I)I"⟩ ∈ gtb := gtb_in (i := 113) (by decide +kernel) (by decide +kernel)
set_option maxRecDepth 100000 in
theorem gw911 : Jvm.Cond.code ⟨"LeftAnswersModel", "goBy", "(I)I"⟩ prog_15_method_112_code 4 (some .int) ∈ gtb := gtb_t9 (i := 0) rfl (by decide +kernel)
set_option maxRecDepth 100000 in
theorem gw912 : Jvm.Cond.instanceMethod ⟨"LeftAnswersModel", "goBy", "(I)I"⟩ ∈ gtb := gtb_t8 (i := 239) rfl (by decide +kernel)
set_option maxRecDepth 100000 in
theorem gw913 : Jvm.Cond.methodLink "LeftAnswersModel" 259 ⟨"LeftAnswersModel", "jailed", "()I"⟩ ∈ gtb := gtb_t7 (i := 228) rfl (by decide +kernel)
set_option maxRecDepth 100000 in
theorem gw914 : Jvm.Cond.selects "LeftAnswersModel" ⟨"LeftAnswersModel", "jailed", "()I"⟩ ⟨"LeftAnswersModel", "jailed", "()I"⟩ ∈ gtb := gtb_in (i := 79) (by decide +kernel) (by decide +kernel)
set_option maxRecDepth 100000 in
theorem gw915 : Jvm.Cond.code ⟨"LeftAnswersModel", "jailed", "()I"⟩ prog_15_method_55_code 3 (some .int) ∈ gtb := gtb_t7 (i := 231) rfl (by decide +kernel)
set_option maxRecDepth 100000 in
theorem gw916 : Jvm.Cond.instanceMethod ⟨"LeftAnswersModel", "jailed", "()I"⟩ ∈ gtb := gtb_t7 (i := 230) rfl (by decide +kernel)
set_option maxRecDepth 100000 in
theorem gw917 : Jvm.Cond.fieldLink "LeftAnswersModel" 410 "LeftAnswersModel" "hasWritten" "Z" ∈ gtb := gtb_t6 (i := 193) rfl (by decide +kernel)
set_option maxRecDepth 100000 in
theorem gw918 : Jvm.Cond.methodLink "LeftAnswersModel" 413 ⟨"LeftAnswersModel", "stay", "(Z)V"⟩ ∈ gtb := gtb_t9 (i := 1) rfl (by decide +kernel)
set_option maxRecDepth 100000 in
theorem gw919 : Jvm.Cond.selects "LeftAnswersModel" ⟨"LeftAnswersModel", "stay", "(Z)V"⟩ ⟨"LeftAnswersModel", "stay", "(Z)V"⟩ ∈ gtb := gtb_in (i := 114) (by decide +kernel) (by decide +kernel)
set_option maxRecDepth 100000 in
theorem gw920 : Jvm.Cond.code ⟨"LeftAnswersModel", "stay", "(Z)V"⟩ prog_15_method_114_code 4 none ∈ gtb := gtb_t9 (i := 4) rfl (by decide +kernel)
set_option maxRecDepth 100000 in
theorem gw921 : Jvm.Cond.instanceMethod ⟨"LeftAnswersModel", "stay", "(Z)V"⟩ ∈ gtb := gtb_t9 (i := 3) rfl (by decide +kernel)
set_option maxRecDepth 100000 in
theorem gw922 : Jvm.Cond.fieldLink "LeftAnswersModel" 354 "LeftAnswersModel" "texts" "I" ∈ gtb := gtb_t6 (i := 188) rfl (by decide +kernel)
set_option maxRecDepth 100000 in
theorem gw923 : Jvm.Cond.methodLink "LeftAnswersModel" 207 ⟨"LeftAnswersModel", "has", "(II)Z"⟩ ∈ gtb := gtb_t7 (i := 161) rfl (by decide +kernel)
set_option maxRecDepth 100000 in
theorem gw924 : Jvm.Cond.code ⟨"LeftAnswersModel", "has", "(II)Z"⟩ prog_15_method_8_code 2 (some .boolean) ∈ gtb := gtb_t7 (i := 163) rfl (by decide +kernel)
set_option maxRecDepth 100000 in
theorem gw925 : Jvm.Cond.static ⟨"LeftAnswersModel", "has", "(II)Z"⟩ ∈ gtb := gtb_t7 (i := 162) rfl (by decide +kernel)
set_option maxRecDepth 100000 in
theorem gw926 : Jvm.Cond.methodLink "LeftAnswersModel" 252 ⟨"LeftAnswersModel", "skillOf", "(II)I"⟩ ∈ gtb := gtb_t7 (i := 212) rfl (by decide +kernel)
set_option maxRecDepth 100000 in
theorem gw927 : Jvm.Cond.selects "LeftAnswersModel" ⟨"LeftAnswersModel", "skillOf", "(II)I"⟩ ⟨"LeftAnswersModel", "skillOf", "(II)I"⟩ ∈ gtb := gtb_in (i := 77) (by decide +kernel) (by decide +kernel)
set_option maxRecDepth 100000 in
theorem gw928 : Jvm.Cond.code ⟨"LeftAnswersModel", "skillOf", "(II)I"⟩ prog_15_method_49_code 3 (some .int) ∈ gtb := gtb_t7 (i := 215) rfl (by decide +kernel)
set_option maxRecDepth 100000 in
theorem gw929 : Jvm.Cond.instanceMethod ⟨"LeftAnswersModel", "skillOf", "(II)I"⟩ ∈ gtb := gtb_t7 (i := 214) rfl (by decide +kernel)
set_option maxRecDepth 100000 in
theorem gw930 : Jvm.Cond.methodLink "LeftAnswersModel" 314 ⟨"LeftAnswersModel", "canBy", "(III)Z"⟩ ∈ gtb := gtb_t8 (i := 94) rfl (by decide +kernel)
set_option maxRecDepth 100000 in
theorem gw931 : Jvm.Cond.selects "LeftAnswersModel" ⟨"LeftAnswersModel", "canBy", "(III)Z"⟩ ⟨"LeftAnswersModel", "canBy", "(III)Z"⟩ ∈ gtb := gtb_in (i := 93) (by decide +kernel) (by decide +kernel)
set_option maxRecDepth 100000 in
theorem gw932 : Jvm.Cond.code ⟨"LeftAnswersModel", "canBy", "(III)Z"⟩ prog_15_method_58_code 4 (some .boolean) ∈ gtb := gtb_t8 (i := 97) rfl (by decide +kernel)
set_option maxRecDepth 100000 in
theorem gw933 : Jvm.Cond.instanceMethod ⟨"LeftAnswersModel", "canBy", "(III)Z"⟩ ∈ gtb := gtb_t8 (i := 96) rfl (by decide +kernel)
set_option maxRecDepth 100000 in
theorem gw934 : Jvm.Cond.fieldLink "LeftAnswersModel" 11 "LeftAnswersModel" "taped" "I" ∈ gtb := gtb_t6 (i := 149) rfl (by decide +kernel)
set_option maxRecDepth 100000 in
theorem gw935 : Jvm.Cond.methodLink "LeftAnswersModel" 299 ⟨"LeftAnswersModel", "passDays", "(I)I"⟩ ∈ gtb := gtb_t8 (i := 58) rfl (by decide +kernel)
set_option maxRecDepth 100000 in
theorem gw936 : Jvm.Cond.selects "LeftAnswersModel" ⟨"LeftAnswersModel", "passDays", "(I)I"⟩ ⟨"LeftAnswersModel", "passDays", "(I)I"⟩ ∈ gtb := gtb_in (i := 88) (by decide +kernel) (by decide +kernel)
set_option maxRecDepth 100000 in
theorem gw937 : Jvm.Cond.code ⟨"LeftAnswersModel", "passDays", "(I)I"⟩ prog_15_method_71_code 4 (some .int) ∈ gtb := gtb_t8 (i := 61) rfl (by decide +kernel)
set_option maxRecDepth 100000 in
theorem gw938 : Jvm.Cond.instanceMethod ⟨"LeftAnswersModel", "passDays", "(I)I"⟩ ∈ gtb := gtb_t8 (i := 60) rfl (by decide +kernel)
set_option maxRecDepth 100000 in
theorem gw939 : Jvm.Cond.methodLink "LeftAnswersModel" 268 ⟨"LeftAnswersModel", "bitsOf", "(I)I"⟩ ∈ gtb := gtb_t8 (i := 16) rfl (by decide +kernel)
set_option maxRecDepth 100000 in
theorem gw940 : Jvm.Cond.code ⟨"LeftAnswersModel", "bitsOf", "(I)I"⟩ prog_15_method_50_code 1 (some .int) ∈ gtb := gtb_t8 (i := 18) rfl (by decide +kernel)
set_option maxRecDepth 100000 in
theorem gw941 : Jvm.Cond.static ⟨"LeftAnswersModel", "bitsOf", "(I)I"⟩ ∈ gtb := gtb_t8 (i := 17) rfl (by decide +kernel)
set_option maxRecDepth 100000 in
theorem gw942 : Jvm.Cond.methodLink "LeftAnswersModel" 275 ⟨"LeftAnswersModel", "least", "(II)I"⟩ ∈ gtb := gtb_t8 (i := 31) rfl (by decide +kernel)
set_option maxRecDepth 100000 in
theorem gw943 : Jvm.Cond.code ⟨"LeftAnswersModel", "least", "(II)I"⟩ prog_15_method_10_code 2 (some .int) ∈ gtb := gtb_t8 (i := 33) rfl (by decide +kernel)
set_option maxRecDepth 100000 in
theorem gw944 : Jvm.Cond.static ⟨"LeftAnswersModel", "least", "(II)I"⟩ ∈ gtb := gtb_t8 (i := 32) rfl (by decide +kernel)
set_option maxRecDepth 100000 in
theorem gw945 : Jvm.Cond.methodLink "LeftAnswersModel" 249 ⟨"LeftAnswersModel", "isSeen", "(I)Z"⟩ ∈ gtb := gtb_t7 (i := 200) rfl (by decide +kernel)
set_option maxRecDepth 100000 in
theorem gw946 : Jvm.Cond.selects "LeftAnswersModel" ⟨"LeftAnswersModel", "isSeen", "(I)Z"⟩ ⟨"LeftAnswersModel", "isSeen", "(I)Z"⟩ ∈ gtb := gtb_in (i := 75) (by decide +kernel) (by decide +kernel)
set_option maxRecDepth 100000 in
theorem gw947 : Jvm.Cond.code ⟨"LeftAnswersModel", "isSeen", "(I)Z"⟩ prog_15_method_48_code 3 (some .boolean) ∈ gtb := gtb_t7 (i := 203) rfl (by decide +kernel)
set_option maxRecDepth 100000 in
theorem gw948 : Jvm.Cond.instanceMethod ⟨"LeftAnswersModel", "isSeen", "(I)Z"⟩ ∈ gtb := gtb_t7 (i := 202) rfl (by decide +kernel)
set_option maxRecDepth 100000 in
theorem gw949 : Jvm.Cond.fieldLink "LeftAnswersModel" 370 "LeftAnswersModel" "seed" "I" ∈ gtb := gtb_t6 (i := 189) rfl (by decide +kernel)
set_option maxRecDepth 100000 in
theorem gw950 : Jvm.Cond.constant "LeftAnswersModel" 373 1103515245 ∈ gtb := gtb_t8 (i := 200) rfl (by decide +kernel)
set_option maxRecDepth 100000 in
theorem gw951 : Jvm.Cond.methodLink "LeftAnswersModel" 377 ⟨"LeftAnswersModel", "drawsFor", "(I)V"⟩ ∈ gtb := gtb_t8 (i := 192) rfl (by decide +kernel)
set_option maxRecDepth 100000 in
theorem gw952 : Jvm.Cond.selects "LeftAnswersModel" ⟨"LeftAnswersModel", "drawsFor", "(I)V"⟩ ⟨"LeftAnswersModel", "drawsFor", "(I)V"⟩ ∈ gtb := gtb_in (i := 104) (by decide +kernel) (by decide +kernel)
set_option maxRecDepth 100000 in
theorem gw953 : Jvm.Cond.code ⟨"LeftAnswersModel", "drawsFor", "(I)V"⟩ prog_15_method_101_code 4 none ∈ gtb := gtb_t8 (i := 195) rfl (by decide +kernel)
set_option maxRecDepth 100000 in
theorem gw954 : Jvm.Cond.instanceMethod ⟨"LeftAnswersModel", "drawsFor", "(I)V"⟩ ∈ gtb := gtb_t8 (i := 194) rfl (by decide +kernel)
set_option maxRecDepth 100000 in
theorem gw955 : Jvm.Cond.methodLink "LeftAnswersModel" 296 ⟨"LeftAnswersModel", "oneDay", "()V"⟩ ∈ gtb := gtb_t8 (i := 62) rfl (by decide +kernel)
set_option maxRecDepth 100000 in
theorem gw956 : Jvm.Cond.selects "LeftAnswersModel" ⟨"LeftAnswersModel", "oneDay", "()V"⟩ ⟨"LeftAnswersModel", "oneDay", "()V"⟩ ∈ gtb := gtb_in (i := 89) (by decide +kernel) (by decide +kernel)
set_option maxRecDepth 100000 in
theorem gw957 : Jvm.Cond.code ⟨"LeftAnswersModel", "oneDay", "()V"⟩ prog_15_method_70_code 3 none ∈ gtb := gtb_t8 (i := 65) rfl (by decide +kernel)
set_option maxRecDepth 100000 in
theorem gw958 : Jvm.Cond.instanceMethod ⟨"LeftAnswersModel", "oneDay", "()V"⟩ ∈ gtb := gtb_t8 (i := 64) rfl (by decide +kernel)
set_option maxRecDepth 100000 in
theorem gw959 : Jvm.Cond.methodLink "LeftAnswersModel" 380 ⟨"LeftAnswersModel", "drawDays", "(II)I"⟩ ∈ gtb := gtb_t8 (i := 188) rfl (by decide +kernel)
set_option maxRecDepth 100000 in
theorem gw960 : Jvm.Cond.selects "LeftAnswersModel" ⟨"LeftAnswersModel", "drawDays", "(II)I"⟩ ⟨"LeftAnswersModel", "drawDays", "(II)I"⟩ ∈ gtb := gtb_in (i := 103) (by decide +kernel) (by decide +kernel)
set_option maxRecDepth 100000 in
theorem gw961 : Jvm.Cond.code ⟨"LeftAnswersModel", "drawDays", "(II)I"⟩ prog_15_method_102_code 6 (some .int) ∈ gtb := gtb_t8 (i := 191) rfl (by decide +kernel)
set_option maxRecDepth 100000 in
theorem gw962 : Jvm.Cond.instanceMethod ⟨"LeftAnswersModel", "drawDays", "(II)I"⟩ ∈ gtb := gtb_t8 (i := 190) rfl (by decide +kernel)
set_option maxRecDepth 100000 in
theorem gw963 : Jvm.Cond.methodLink "LeftAnswersModel" 374 ⟨"LeftAnswersModel", "draw", "(I)I"⟩ ∈ gtb := gtb_t8 (i := 196) rfl (by decide +kernel)
set_option maxRecDepth 100000 in
theorem gw964 : Jvm.Cond.selects "LeftAnswersModel" ⟨"LeftAnswersModel", "draw", "(I)I"⟩ ⟨"LeftAnswersModel", "draw", "(I)I"⟩ ∈ gtb := gtb_in (i := 105) (by decide +kernel) (by decide +kernel)
set_option maxRecDepth 100000 in
theorem gw965 : Jvm.Cond.code ⟨"LeftAnswersModel", "draw", "(I)I"⟩ prog_15_method_100_code 2 (some .int) ∈ gtb := gtb_t8 (i := 199) rfl (by decide +kernel)
set_option maxRecDepth 100000 in
theorem gw966 : Jvm.Cond.instanceMethod ⟨"LeftAnswersModel", "draw", "(I)I"⟩ ∈ gtb := gtb_t8 (i := 198) rfl (by decide +kernel)
set_option maxRecDepth 100000 in
theorem gw967 : Jvm.Cond.methodLink "LeftAnswersModel" 278 ⟨"LeftAnswersModel", "doDeed", "(III)V"⟩ ∈ gtb := gtb_t8 (i := 27) rfl (by decide +kernel)
set_option maxRecDepth 100000 in
theorem gw968 : Jvm.Cond.selects "LeftAnswersModel" ⟨"LeftAnswersModel", "doDeed", "(III)V"⟩ ⟨"LeftAnswersModel", "doDeed", "(III)V"⟩ ∈ gtb := gtb_in (i := 87) (by decide +kernel) (by decide +kernel)
set_option maxRecDepth 100000 in
theorem gw969 : Jvm.Cond.code ⟨"LeftAnswersModel", "doDeed", "(III)V"⟩ prog_15_method_61_code 4 none ∈ gtb := gtb_t8 (i := 30) rfl (by decide +kernel)
set_option maxRecDepth 100000 in
theorem gw970 : Jvm.Cond.instanceMethod ⟨"LeftAnswersModel", "doDeed", "(III)V"⟩ ∈ gtb := gtb_t8 (i := 29) rfl (by decide +kernel)
set_option maxRecDepth 100000 in
theorem gw971 : Jvm.Cond.methodLink "LeftAnswersModel" 262 ⟨"LeftAnswersModel", "isWed", "(I)Z"⟩ ∈ gtb := gtb_t7 (i := 232) rfl (by decide +kernel)
set_option maxRecDepth 100000 in
theorem gw972 : Jvm.Cond.selects "LeftAnswersModel" ⟨"LeftAnswersModel", "isWed", "(I)Z"⟩ ⟨"LeftAnswersModel", "isWed", "(I)Z"⟩ ∈ gtb := gtb_in (i := 80) (by decide +kernel) (by decide +kernel)
set_option maxRecDepth 100000 in
theorem gw973 : Jvm.Cond.code ⟨"LeftAnswersModel", "isWed", "(I)Z"⟩ prog_15_method_47_code 2 (some .boolean) ∈ gtb := gtb_t7 (i := 235) rfl (by decide +kernel)
set_option maxRecDepth 100000 in
theorem gw974 : Jvm.Cond.instanceMethod ⟨"LeftAnswersModel", "isWed", "(I)Z"⟩ ∈ gtb := gtb_t7 (i := 234) rfl (by decide +kernel)
set_option maxRecDepth 100000 in
theorem gw975 : Jvm.Cond.methodLink "LeftAnswersModel" 228 ⟨"LeftAnswersModel", "readLine", "()Z"⟩ ∈ gtb := gtb_t7 (i := 93) rfl (by decide +kernel)
set_option maxRecDepth 100000 in
theorem gw976 : Jvm.Cond.selects "LeftAnswersModel" ⟨"LeftAnswersModel", "readLine", "()Z"⟩ ⟨"LeftAnswersModel", "readLine", "()Z"⟩ ∈ gtb := gtb_in (i := 54) (by decide +kernel) (by decide +kernel)
set_option maxRecDepth 100000 in
theorem gw977 : Jvm.Cond.code ⟨"LeftAnswersModel", "readLine", "()Z"⟩ prog_15_method_40_code 2 (some .boolean) ∈ gtb := gtb_t7 (i := 96) rfl (by decide +kernel)
set_option maxRecDepth 100000 in
theorem gw978 : Jvm.Cond.instanceMethod ⟨"LeftAnswersModel", "readLine", "()Z"⟩ ∈ gtb := gtb_t7 (i := 95) rfl (by decide +kernel)
set_option maxRecDepth 100000 in
theorem gw979 : Jvm.Cond.methodLink "LeftAnswersModel" 231 ⟨"LeftAnswersModel", "readEnd", "()Z"⟩ ∈ gtb := gtb_t7 (i := 172) rfl (by decide +kernel)
set_option maxRecDepth 100000 in
theorem gw980 : Jvm.Cond.selects "LeftAnswersModel" ⟨"LeftAnswersModel", "readEnd", "()Z"⟩ ⟨"LeftAnswersModel", "readEnd", "()Z"⟩ ∈ gtb := gtb_in (i := 70) (by decide +kernel) (by decide +kernel)
set_option maxRecDepth 100000 in
theorem gw981 : Jvm.Cond.code ⟨"LeftAnswersModel", "readEnd", "()Z"⟩ prog_15_method_24_code 1 (some .boolean) ∈ gtb := gtb_t7 (i := 175) rfl (by decide +kernel)
set_option maxRecDepth 100000 in
theorem gw982 : Jvm.Cond.instanceMethod ⟨"LeftAnswersModel", "readEnd", "()Z"⟩ ∈ gtb := gtb_t7 (i := 174) rfl (by decide +kernel)
set_option maxRecDepth 100000 in
theorem gw983 : Jvm.Cond.fieldLink "LeftAnswersModel" 234 "LeftAnswersModel" "snapMany" "I" ∈ gtb := gtb_t6 (i := 171) rfl (by decide +kernel)
set_option maxRecDepth 100000 in
theorem gw984 : Jvm.Cond.methodLink "LeftAnswersModel" 351 ⟨"LeftAnswersModel", "payBy", "(II)I"⟩ ∈ gtb := gtb_t8 (i := 152) rfl (by decide +kernel)
set_option maxRecDepth 100000 in
theorem gw985 : Jvm.Cond.selects "LeftAnswersModel" ⟨"LeftAnswersModel", "payBy", "(II)I"⟩ ⟨"LeftAnswersModel", "payBy", "(II)I"⟩ ∈ gtb := gtb_in (i := 98) (by decide +kernel) (by decide +kernel)
set_option maxRecDepth 100000 in
theorem gw986 : Jvm.Cond.code ⟨"LeftAnswersModel", "payBy", "(II)I"⟩ prog_15_method_91_code 5 (some .int) ∈ gtb := gtb_t8 (i := 155) rfl (by decide +kernel)
set_option maxRecDepth 100000 in
theorem gw987 : Jvm.Cond.instanceMethod ⟨"LeftAnswersModel", "payBy", "(II)I"⟩ ∈ gtb := gtb_t8 (i := 154) rfl (by decide +kernel)
set_option maxRecDepth 100000 in
theorem gw988 : Jvm.Cond.methodLink "LeftAnswersModel" 14 ⟨"LeftAnswersModel", "come", "(I)V"⟩ ∈ gtb := gtb_t6 (i := 129) rfl (by decide +kernel)
set_option maxRecDepth 100000 in
theorem gw989 : Jvm.Cond.selects "LeftAnswersModel" ⟨"LeftAnswersModel", "come", "(I)V"⟩ ⟨"LeftAnswersModel", "come", "(I)V"⟩ ∈ gtb := gtb_in (i := 48) (by decide +kernel) (by decide +kernel)
set_option maxRecDepth 100000 in
theorem gw990 : Jvm.Cond.code ⟨"LeftAnswersModel", "come", "(I)V"⟩ prog_15_method_3_code 3 none ∈ gtb := gtb_t6 (i := 133) rfl (by decide +kernel)
set_option maxRecDepth 100000 in
theorem gw991 : Jvm.Cond.instanceMethod ⟨"LeftAnswersModel", "come", "(I)V"⟩ ∈ gtb := gtb_t6 (i := 131) rfl (by decide +kernel)
set_option maxRecDepth 100000 in
theorem gw992 : Jvm.Cond.fieldLink "LeftAnswersModel" 322 "LeftAnswersModel" "fitMany" "I" ∈ gtb := gtb_t6 (i := 179) rfl (by decide +kernel)
set_option maxRecDepth 100000 in
theorem gw993 : Jvm.Cond.methodLink "LeftAnswersModel" 317 ⟨"LeftAnswersModel", "canCode", "(II)Z"⟩ ∈ gtb := gtb_t8 (i := 90) rfl (by decide +kernel)
set_option maxRecDepth 100000 in
theorem gw994 : Jvm.Cond.selects "LeftAnswersModel" ⟨"LeftAnswersModel", "canCode", "(II)Z"⟩ ⟨"LeftAnswersModel", "canCode", "(II)Z"⟩ ∈ gtb := gtb_in (i := 92) (by decide +kernel) (by decide +kernel)
set_option maxRecDepth 100000 in
theorem gw995 : Jvm.Cond.code ⟨"LeftAnswersModel", "canCode", "(II)Z"⟩ prog_15_method_78_code 3 (some .boolean) ∈ gtb := gtb_t8 (i := 93) rfl (by decide +kernel)
set_option maxRecDepth 100000 in
theorem gw996 : Jvm.Cond.instanceMethod ⟨"LeftAnswersModel", "canCode", "(II)Z"⟩ ∈ gtb := gtb_t8 (i := 92) rfl (by decide +kernel)
set_option maxRecDepth 100000 in
theorem gw997 : Jvm.Cond.methodLink "LeftAnswersModel" 325 ⟨"LeftAnswersModel", "offBy", "(II)I"⟩ ∈ gtb := gtb_t8 (i := 98) rfl (by decide +kernel)
set_option maxRecDepth 100000 in
theorem gw998 : Jvm.Cond.selects "LeftAnswersModel" ⟨"LeftAnswersModel", "offBy", "(II)I"⟩ ⟨"LeftAnswersModel", "offBy", "(II)I"⟩ ∈ gtb := gtb_in (i := 94) (by decide +kernel) (by decide +kernel)
set_option maxRecDepth 100000 in
theorem gw999 : Jvm.Cond.code ⟨"LeftAnswersModel", "offBy", "(II)I"⟩ prog_15_method_79_code 5 (some .int) ∈ gtb := gtb_t8 (i := 101) rfl (by decide +kernel)
set_option maxRecDepth 100000 in
theorem gw1000 : Jvm.Cond.instanceMethod ⟨"LeftAnswersModel", "offBy", "(II)I"⟩ ∈ gtb := gtb_t8 (i := 100) rfl (by decide +kernel)
set_option maxRecDepth 100000 in
theorem gw1001 : Jvm.Cond.methodLink "LeftAnswersModel" 33 ⟨"LeftAnswersModel", "isLetter", "(I)Z"⟩ ∈ gtb := gtb_t7 (i := 81) rfl (by decide +kernel)
set_option maxRecDepth 100000 in
theorem gw1002 : Jvm.Cond.code ⟨"LeftAnswersModel", "isLetter", "(I)Z"⟩ prog_15_method_15_code 1 (some .boolean) ∈ gtb := gtb_t7 (i := 83) rfl (by decide +kernel)
set_option maxRecDepth 100000 in
theorem gw1003 : Jvm.Cond.static ⟨"LeftAnswersModel", "isLetter", "(I)Z"⟩ ∈ gtb := gtb_t7 (i := 82) rfl (by decide +kernel)
set_option maxRecDepth 100000 in
theorem gw1004 : Jvm.Cond.methodLink "LeftAnswersModel" 37 ⟨"LeftAnswersModel", "isDigit", "(I)Z"⟩ ∈ gtb := gtb_t7 (i := 84) rfl (by decide +kernel)
set_option maxRecDepth 100000 in
theorem gw1005 : Jvm.Cond.code ⟨"LeftAnswersModel", "isDigit", "(I)Z"⟩ prog_15_method_14_code 1 (some .boolean) ∈ gtb := gtb_t7 (i := 86) rfl (by decide +kernel)
set_option maxRecDepth 100000 in
theorem gw1006 : Jvm.Cond.static ⟨"LeftAnswersModel", "isDigit", "(I)Z"⟩ ∈ gtb := gtb_t7 (i := 85) rfl (by decide +kernel)
set_option maxRecDepth 100000 in
theorem gw1007 : Jvm.Cond.fieldLink "LeftAnswersModel" 40 "LeftAnswersModel" "sign" "I" ∈ gtb := gtb_t6 (i := 156) rfl (by decide +kernel)
set_option maxRecDepth 100000 in
theorem gw1008 : Jvm.Cond.fieldLink "LeftAnswersModel" 43 "LeftAnswersModel" "word" "J" ∈ gtb := gtb_t6 (i := 159) rfl (by decide +kernel)
set_option maxRecDepth 100000 in
theorem gw1009 : Jvm.Cond.fieldLink "LeftAnswersModel" 47 "LeftAnswersModel" "number" "I" ∈ gtb := gtb_t6 (i := 155) rfl (by decide +kernel)
set_option maxRecDepth 100000 in
theorem gw1010 : Jvm.Cond.methodLink "LeftAnswersModel" 50 ⟨"LeftAnswersModel", "tapeAt", "(I)I"⟩ ∈ gtb := gtb_t7 (i := 87) rfl (by decide +kernel)
set_option maxRecDepth 100000 in
theorem gw1011 : Jvm.Cond.selects "LeftAnswersModel" ⟨"LeftAnswersModel", "tapeAt", "(I)I"⟩ ⟨"LeftAnswersModel", "tapeAt", "(I)I"⟩ ∈ gtb := gtb_in (i := 53) (by decide +kernel) (by decide +kernel)
set_option maxRecDepth 100000 in
theorem gw1012 : Jvm.Cond.code ⟨"LeftAnswersModel", "tapeAt", "(I)I"⟩ prog_15_method_13_code 2 (some .int) ∈ gtb := gtb_t7 (i := 90) rfl (by decide +kernel)
set_option maxRecDepth 100000 in
theorem gw1013 : Jvm.Cond.instanceMethod ⟨"LeftAnswersModel", "tapeAt", "(I)I"⟩ ∈ gtb := gtb_t7 (i := 89) rfl (by decide +kernel)
set_option maxRecDepth 100000 in
theorem gw1014 : Jvm.Cond.constantLong "LeftAnswersModel" 54 27 ∈ gtb := gtb_t7 (i := 91) rfl (by decide +kernel)
set_option maxRecDepth 100000 in
theorem gw1015 : Jvm.Cond.constantLong "LeftAnswersModel" 56 96 ∈ gtb := gtb_t7 (i := 92) rfl (by decide +kernel)
set_option maxRecDepth 100000 in
theorem gw1016 : Jvm.Cond.methodLink "LeftAnswersModel" 328 ⟨"LeftAnswersModel", "bits", "(I)I"⟩ ∈ gtb := gtb_t8 (i := 121) rfl (by decide +kernel)
set_option maxRecDepth 100000 in
theorem gw1017 : Jvm.Cond.code ⟨"LeftAnswersModel", "bits", "(I)I"⟩ prog_15_method_9_code 3 (some .int) ∈ gtb := gtb_t8 (i := 123) rfl (by decide +kernel)
set_option maxRecDepth 100000 in
theorem gw1018 : Jvm.Cond.static ⟨"LeftAnswersModel", "bits", "(I)I"⟩ ∈ gtb := gtb_t8 (i := 122) rfl (by decide +kernel)
set_option maxRecDepth 100000 in
theorem gw1019 : Jvm.Cond.methodLink "LeftAnswersModel" 453 ⟨"LeftAnswersModel", "holds", "(II)Z"⟩ ∈ gtb := gtb_t9 (i := 49) rfl (by decide +kernel)
set_option maxRecDepth 100000 in
theorem gw1020 : Jvm.Cond.selects "LeftAnswersModel" ⟨"LeftAnswersModel", "holds", "(II)Z"⟩ ⟨"LeftAnswersModel", "holds", "(II)Z"⟩ ∈ gtb := gtb_in (i := 123) (by decide +kernel) (by decide +kernel)
set_option maxRecDepth 100000 in
theorem gw1021 : Jvm.Cond.code ⟨"LeftAnswersModel", "holds", "(II)Z"⟩ prog_15_method_125_code 8 (some .boolean) ∈ gtb := gtb_t9 (i := 52) rfl (by decide +kernel)
set_option maxRecDepth 100000 in
theorem gw1022 : Jvm.Cond.instanceMethod ⟨"LeftAnswersModel", "holds", "(II)Z"⟩ ∈ gtb := gtb_t9 (i := 51) rfl (by decide +kernel)
set_option maxRecDepth 100000 in
theorem gw1023 : Jvm.Cond.methodLink "LeftAnswersModel" 237 ⟨"LeftAnswersModel", "isJailed", "(I)Z"⟩ ∈ gtb := gtb_t7 (i := 204) rfl (by decide +kernel)
set_option maxRecDepth 100000 in
theorem gw1024 : Jvm.Cond.selects "LeftAnswersModel" ⟨"LeftAnswersModel", "isJailed", "(I)Z"⟩ ⟨"LeftAnswersModel", "isJailed", "(I)Z"⟩ ∈ gtb := gtb_in (i := 76) (by decide +kernel) (by decide +kernel)
set_option maxRecDepth 100000 in
theorem gw1025 : Jvm.Cond.code ⟨"LeftAnswersModel", "isJailed", "(I)Z"⟩ prog_15_method_45_code 2 (some .boolean) ∈ gtb := gtb_t7 (i := 207) rfl (by decide +kernel)
set_option maxRecDepth 100000 in
theorem gw1026 : Jvm.Cond.instanceMethod ⟨"LeftAnswersModel", "isJailed", "(I)Z"⟩ ∈ gtb := gtb_t7 (i := 206) rfl (by decide +kernel)
set_option maxRecDepth 100000 in
theorem gw1027 : Jvm.Cond.methodLink "LeftAnswersModel" 246 ⟨"LeftAnswersModel", "isGloved", "(I)Z"⟩ ∈ gtb := gtb_t7 (i := 196) rfl (by decide +kernel)
set_option maxRecDepth 100000 in
theorem gw1028 : Jvm.Cond.selects "LeftAnswersModel" ⟨"LeftAnswersModel", "isGloved", "(I)Z"⟩ ⟨"LeftAnswersModel", "isGloved", "(I)Z"⟩ ∈ gtb := gtb_in (i := 74) (by decide +kernel) (by decide +kernel)
set_option maxRecDepth 100000 in
theorem gw1029 : Jvm.Cond.code ⟨"LeftAnswersModel", "isGloved", "(I)Z"⟩ prog_15_method_46_code 2 (some .boolean) ∈ gtb := gtb_t7 (i := 199) rfl (by decide +kernel)
set_option maxRecDepth 100000 in
theorem gw1030 : Jvm.Cond.instanceMethod ⟨"LeftAnswersModel", "isGloved", "(I)Z"⟩ ∈ gtb := gtb_t7 (i := 198) rfl (by decide +kernel)
set_option maxRecDepth 100000 in
theorem gw1031 : Jvm.Cond.methodLink "LeftAnswersModel" 62 ⟨"LeftAnswersModel", "wordOf", "(I)J"⟩ ∈ gtb := gtb_t7 (i := 101) rfl (by decide +kernel)
set_option maxRecDepth 100000 in
theorem gw1032 : Jvm.Cond.code ⟨"LeftAnswersModel", "wordOf", "(I)J"⟩ prog_15_method_18_code 1 (some .long) ∈ gtb := gtb_t7 (i := 103) rfl (by decide +kernel)
set_option maxRecDepth 100000 in
theorem gw1033 : Jvm.Cond.static ⟨"LeftAnswersModel", "wordOf", "(I)J"⟩ ∈ gtb := gtb_t7 (i := 102) rfl (by decide +kernel)
set_option maxRecDepth 100000 in
theorem gw1034 : Jvm.Cond.methodLink "LeftAnswersModel" 172 ⟨"LeftAnswersModel", "isName", "()Z"⟩ ∈ gtb := gtb_t7 (i := 123) rfl (by decide +kernel)
set_option maxRecDepth 100000 in
theorem gw1035 : Jvm.Cond.selects "LeftAnswersModel" ⟨"LeftAnswersModel", "isName", "()Z"⟩ ⟨"LeftAnswersModel", "isName", "()Z"⟩ ∈ gtb := gtb_in (i := 60) (by decide +kernel) (by decide +kernel)
set_option maxRecDepth 100000 in
theorem gw1036 : Jvm.Cond.code ⟨"LeftAnswersModel", "isName", "()Z"⟩ prog_15_method_21_code 2 (some .boolean) ∈ gtb := gtb_t7 (i := 126) rfl (by decide +kernel)
set_option maxRecDepth 100000 in
theorem gw1037 : Jvm.Cond.instanceMethod ⟨"LeftAnswersModel", "isName", "()Z"⟩ ∈ gtb := gtb_t7 (i := 125) rfl (by decide +kernel)
set_option maxRecDepth 100000 in
theorem gw1038 : Jvm.Cond.methodLink "LeftAnswersModel" 72 ⟨"LeftAnswersModel", "bad", "(I)Z"⟩ ∈ gtb := gtb_t7 (i := 115) rfl (by decide +kernel)
set_option maxRecDepth 100000 in
theorem gw1039 : Jvm.Cond.selects "LeftAnswersModel" ⟨"LeftAnswersModel", "bad", "(I)Z"⟩ ⟨"LeftAnswersModel", "bad", "(I)Z"⟩ ∈ gtb := gtb_in (i := 58) (by decide +kernel) (by decide +kernel)
set_option maxRecDepth 100000 in
theorem gw1040 : Jvm.Cond.code ⟨"LeftAnswersModel", "bad", "(I)Z"⟩ prog_15_method_22_code 2 (some .boolean) ∈ gtb := gtb_t7 (i := 118) rfl (by decide +kernel)
set_option maxRecDepth 100000 in
theorem gw1041 : Jvm.Cond.instanceMethod ⟨"LeftAnswersModel", "bad", "(I)Z"⟩ ∈ gtb := gtb_t7 (i := 117) rfl (by decide +kernel)
set_option maxRecDepth 100000 in
theorem gw1042 : Jvm.Cond.methodLink "LeftAnswersModel" 176 ⟨"LeftAnswersModel", "findIn", "([JIIJ)I"⟩ ∈ gtb := gtb_t7 (i := 127) rfl (by decide +kernel)
set_option maxRecDepth 100000 in
theorem gw1043 : Jvm.Cond.code ⟨"LeftAnswersModel", "findIn", "([JIIJ)I"⟩ prog_15_method_28_code 6 (some .int) ∈ gtb := gtb_t7 (i := 129) rfl (by decide +kernel)
set_option maxRecDepth 100000 in
theorem gw1044 : Jvm.Cond.static ⟨"LeftAnswersModel", "findIn", "([JIIJ)I"⟩ ∈ gtb := gtb_t7 (i := 128) rfl (by decide +kernel)
set_option maxRecDepth 100000 in
theorem gw1045 : Jvm.Cond.fieldLink "LeftAnswersModel" 79 "LeftAnswersModel" "told" "I" ∈ gtb := gtb_t6 (i := 160) rfl (by decide +kernel)
set_option maxRecDepth 100000 in
theorem gw1046 : Jvm.Cond.methodLink "LeftAnswersModel" 265 ⟨"LeftAnswersModel", "sum", "(II)I"⟩ ∈ gtb := gtb_t7 (i := 236) rfl (by decide +kernel)
set_option maxRecDepth 100000 in
theorem gw1047 : Jvm.Cond.selects "LeftAnswersModel" ⟨"LeftAnswersModel", "sum", "(II)I"⟩ ⟨"LeftAnswersModel", "sum", "(II)I"⟩ ∈ gtb := gtb_in (i := 81) (by decide +kernel) (by decide +kernel)
set_option maxRecDepth 100000 in
theorem gw1048 : Jvm.Cond.code ⟨"LeftAnswersModel", "sum", "(II)I"⟩ prog_15_method_51_code 5 (some .int) ∈ gtb := gtb_t7 (i := 239) rfl (by decide +kernel)
set_option maxRecDepth 100000 in
theorem gw1049 : Jvm.Cond.instanceMethod ⟨"LeftAnswersModel", "sum", "(II)I"⟩ ∈ gtb := gtb_t7 (i := 238) rfl (by decide +kernel)
end
section
set_option maxRecDepth 100000 in
theorem gw1050 : Jvm.Cond.methodLink "LeftAnswersModel" 386 ⟨"LeftAnswersModel", "takeBack", "()V"⟩ ∈ gtb := gtb_t8 (i := 209) rfl (by decide +kernel)
set_option maxRecDepth 100000 in
theorem gw1051 : Jvm.Cond.selects "LeftAnswersModel" ⟨"LeftAnswersModel", "takeBack", "()V"⟩ ⟨"LeftAnswersModel", "takeBack", "()V"⟩ ∈ gtb := gtb_in (i := 107) (by decide +kernel) (by decide +kernel)
set_option maxRecDepth 100000 in
theorem gw1052 : Jvm.Cond.code ⟨"LeftAnswersModel", "takeBack", "()V"⟩ prog_15_method_105_code 2 none ∈ gtb := gtb_t8 (i := 212) rfl (by decide +kernel)
set_option maxRecDepth 100000 in
theorem gw1053 : Jvm.Cond.instanceMethod ⟨"LeftAnswersModel", "takeBack", "()V"⟩ ∈ gtb := gtb_t8 (i := 211) rfl (by decide +kernel)
set_option maxRecDepth 100000 in
theorem gw1054 : Jvm.Cond.methodLink "LeftAnswersModel" 320 ⟨"LeftAnswersModel", "size", "(I)I"⟩ ∈ gtb := gtb_t8 (i := 102) rfl (by decide +kernel)
set_option maxRecDepth 100000 in
theorem gw1055 : Jvm.Cond.code ⟨"LeftAnswersModel", "size", "(I)I"⟩ prog_15_method_11_code 1 (some .int) ∈ gtb := gtb_t8 (i := 104) rfl (by decide +kernel)
set_option maxRecDepth 100000 in
theorem gw1056 : Jvm.Cond.static ⟨"LeftAnswersModel", "size", "(I)I"⟩ ∈ gtb := gtb_t8 (i := 103) rfl (by decide +kernel)
set_option maxRecDepth 100000 in
theorem gw1057 : Jvm.Cond.fieldLink "LeftAnswersModel" 302 "LeftAnswersModel" "partMost" "I" ∈ gtb := gtb_t6 (i := 175) rfl (by decide +kernel)
set_option maxRecDepth 100000 in
theorem gw1058 : Jvm.Cond.methodLink "LeftAnswersModel" 305 ⟨"LeftAnswersModel", "isBlamed", "(III)Z"⟩ ∈ gtb := gtb_t8 (i := 78) rfl (by decide +kernel)
set_option maxRecDepth 100000 in
theorem gw1059 : Jvm.Cond.selects "LeftAnswersModel" ⟨"LeftAnswersModel", "isBlamed", "(III)Z"⟩ ⟨"LeftAnswersModel", "isBlamed", "(III)Z"⟩ ∈ gtb := gtb_in (i := 91) (by decide +kernel) (by decide +kernel)
set_option maxRecDepth 100000 in
theorem gw1060 : Jvm.Cond.code ⟨"LeftAnswersModel", "isBlamed", "(III)Z"⟩ prog_15_method_74_code 4 (some .boolean) ∈ gtb := gtb_t8 (i := 81) rfl (by decide +kernel)
set_option maxRecDepth 100000 in
theorem gw1061 : Jvm.Cond.instanceMethod ⟨"LeftAnswersModel", "isBlamed", "(III)Z"⟩ ∈ gtb := gtb_t8 (i := 80) rfl (by decide +kernel)
set_option maxRecDepth 100000 in
theorem gw1062 : Jvm.Cond.methodLink "LeftAnswersModel" 308 ⟨"LeftAnswersModel", "partFrom", "(III)V"⟩ ∈ gtb := gtb_t8 (i := 74) rfl (by decide +kernel)
set_option maxRecDepth 100000 in
theorem gw1063 : Jvm.Cond.selects "LeftAnswersModel" ⟨"LeftAnswersModel", "partFrom", "(III)V"⟩ ⟨"LeftAnswersModel", "partFrom", "(III)V"⟩ ∈ gtb := gtb_in (i := 90) (by decide +kernel) (by decide +kernel)
set_option maxRecDepth 100000 in
theorem gw1064 : Jvm.Cond.code ⟨"LeftAnswersModel", "partFrom", "(III)V"⟩ prog_15_method_75_code 7 none ∈ gtb := gtb_t8 (i := 77) rfl (by decide +kernel)
set_option maxRecDepth 100000 in
theorem gw1065 : Jvm.Cond.instanceMethod ⟨"LeftAnswersModel", "partFrom", "(III)V"⟩ ∈ gtb := gtb_t8 (i := 76) rfl (by decide +kernel)
set_option maxRecDepth 100000 in
theorem gw1066 : Jvm.Cond.fieldLink "LeftAnswersModel" 311 "LeftAnswersModel" "partMany" "I" ∈ gtb := gtb_t6 (i := 176) rfl (by decide +kernel)
set_option maxRecDepth 100000 in
theorem gw1067 : Jvm.Cond.methodLink "LeftAnswersModel" 243 ⟨"LeftAnswersModel", "refuse", "()I"⟩ ∈ gtb := gtb_t7 (i := 192) rfl (by decide +kernel)
set_option maxRecDepth 100000 in
theorem gw1068 : Jvm.Cond.selects "LeftAnswersModel" ⟨"LeftAnswersModel", "refuse", "()I"⟩ ⟨"LeftAnswersModel", "refuse", "()I"⟩ ∈ gtb := gtb_in (i := 73) (by decide +kernel) (by decide +kernel)
set_option maxRecDepth 100000 in
theorem gw1069 : Jvm.Cond.code ⟨"LeftAnswersModel", "refuse", "()I"⟩ prog_15_method_2_code 1 (some .int) ∈ gtb := gtb_t7 (i := 195) rfl (by decide +kernel)
set_option maxRecDepth 100000 in
theorem gw1070 : Jvm.Cond.instanceMethod ⟨"LeftAnswersModel", "refuse", "()I"⟩ ∈ gtb := gtb_t7 (i := 194) rfl (by decide +kernel)
set_option maxRecDepth 100000 in
theorem gw1071 : Jvm.Cond.methodLink "LeftAnswersModel" 429 ⟨"LeftAnswersModel", "readSaid", "()Z"⟩ ∈ gtb := gtb_t9 (i := 21) rfl (by decide +kernel)
set_option maxRecDepth 100000 in
theorem gw1072 : Jvm.Cond.selects "LeftAnswersModel" ⟨"LeftAnswersModel", "readSaid", "()Z"⟩ ⟨"LeftAnswersModel", "readSaid", "()Z"⟩ ∈ gtb := gtb_in (i := 117) (by decide +kernel) (by decide +kernel)
set_option maxRecDepth 100000 in
theorem gw1073 : Jvm.Cond.code ⟨"LeftAnswersModel", "readSaid", "()Z"⟩ prog_15_method_119_code 4 (some .boolean) ∈ gtb := gtb_t9 (i := 24) rfl (by decide +kernel)
set_option maxRecDepth 100000 in
theorem gw1074 : Jvm.Cond.instanceMethod ⟨"LeftAnswersModel", "readSaid", "()Z"⟩ ∈ gtb := gtb_t9 (i := 23) rfl (by decide +kernel)
set_option maxRecDepth 100000 in
theorem gw1075 : Jvm.Cond.fieldLink "LeftAnswersModel" 423 "LeftAnswersModel" "top" "I" ∈ gtb := gtb_t6 (i := 198) rfl (by decide +kernel)
set_option maxRecDepth 100000 in
theorem gw1076 : Jvm.Cond.methodLink "LeftAnswersModel" 180 ⟨"LeftAnswersModel", "isWord", "(I)Z"⟩ ∈ gtb := gtb_t7 (i := 97) rfl (by decide +kernel)
set_option maxRecDepth 100000 in
theorem gw1077 : Jvm.Cond.selects "LeftAnswersModel" ⟨"LeftAnswersModel", "isWord", "(I)Z"⟩ ⟨"LeftAnswersModel", "isWord", "(I)Z"⟩ ∈ gtb := gtb_in (i := 55) (by decide +kernel) (by decide +kernel)
set_option maxRecDepth 100000 in
theorem gw1078 : Jvm.Cond.code ⟨"LeftAnswersModel", "isWord", "(I)Z"⟩ prog_15_method_19_code 2 (some .boolean) ∈ gtb := gtb_t7 (i := 100) rfl (by decide +kernel)
set_option maxRecDepth 100000 in
theorem gw1079 : Jvm.Cond.instanceMethod ⟨"LeftAnswersModel", "isWord", "(I)Z"⟩ ∈ gtb := gtb_t7 (i := 99) rfl (by decide +kernel)
set_option maxRecDepth 100000 in
theorem gw1080 : Jvm.Cond.methodLink "LeftAnswersModel" 426 ⟨"LeftAnswersModel", "saysOne", "(IIII)I"⟩ ∈ gtb := gtb_t9 (i := 33) rfl (by decide +kernel)
set_option maxRecDepth 100000 in
theorem gw1081 : Jvm.Cond.selects "LeftAnswersModel" ⟨"LeftAnswersModel", "saysOne", "(IIII)I"⟩ ⟨"LeftAnswersModel", "saysOne", "(IIII)I"⟩ ∈ gtb := gtb_in (i := 120) (by decide +kernel) (by decide +kernel)
set_option maxRecDepth 100000 in
theorem gw1082 : Jvm.Cond.code ⟨"LeftAnswersModel", "saysOne", "(IIII)I"⟩ prog_15_method_116_code 6 (some .int) ∈ gtb := gtb_t9 (i := 36) rfl (by decide +kernel)
set_option maxRecDepth 100000 in
theorem gw1083 : Jvm.Cond.instanceMethod ⟨"LeftAnswersModel", "saysOne", "(IIII)I"⟩ ∈ gtb := gtb_t9 (i := 35) rfl (by decide +kernel)
set_option maxRecDepth 100000 in
theorem gw1084 : Jvm.Cond.methodLink "LeftAnswersModel" 190 ⟨"LeftAnswersModel", "readNumber", "(II)Z"⟩ ∈ gtb := gtb_t7 (i := 130) rfl (by decide +kernel)
set_option maxRecDepth 100000 in
theorem gw1085 : Jvm.Cond.selects "LeftAnswersModel" ⟨"LeftAnswersModel", "readNumber", "(II)Z"⟩ ⟨"LeftAnswersModel", "readNumber", "(II)Z"⟩ ∈ gtb := gtb_in (i := 61) (by decide +kernel) (by decide +kernel)
set_option maxRecDepth 100000 in
theorem gw1086 : Jvm.Cond.code ⟨"LeftAnswersModel", "readNumber", "(II)Z"⟩ prog_15_method_23_code 3 (some .boolean) ∈ gtb := gtb_t7 (i := 133) rfl (by decide +kernel)
set_option maxRecDepth 100000 in
theorem gw1087 : Jvm.Cond.instanceMethod ⟨"LeftAnswersModel", "readNumber", "(II)Z"⟩ ∈ gtb := gtb_t7 (i := 132) rfl (by decide +kernel)
set_option maxRecDepth 100000 in
theorem gw1088 : Jvm.Cond.methodLink "LeftAnswersModel" 392 ⟨"LeftAnswersModel", "keep", "(IZ)Z"⟩ ∈ gtb := gtb_t8 (i := 221) rfl (by decide +kernel)
set_option maxRecDepth 100000 in
theorem gw1089 : Jvm.Cond.selects "LeftAnswersModel" ⟨"LeftAnswersModel", "keep", "(IZ)Z"⟩ ⟨"LeftAnswersModel", "keep", "(IZ)Z"⟩ ∈ gtb := gtb_in (i := 109) (by decide +kernel) (by decide +kernel)
set_option maxRecDepth 100000 in
theorem gw1090 : Jvm.Cond.code ⟨"LeftAnswersModel", "keep", "(IZ)Z"⟩ prog_15_method_107_code 3 (some .boolean) ∈ gtb := gtb_t8 (i := 224) rfl (by decide +kernel)
set_option maxRecDepth 100000 in
theorem gw1091 : Jvm.Cond.instanceMethod ⟨"LeftAnswersModel", "keep", "(IZ)Z"⟩ ∈ gtb := gtb_t8 (i := 223) rfl (by decide +kernel)
set_option maxRecDepth 100000 in
theorem gw1092 : Jvm.Cond.methodLink "LeftAnswersModel" 401 ⟨"LeftAnswersModel", "readDoes", "(I)Z"⟩ ∈ gtb := gtb_t8 (i := 225) rfl (by decide +kernel)
set_option maxRecDepth 100000 in
theorem gw1093 : Jvm.Cond.selects "LeftAnswersModel" ⟨"LeftAnswersModel", "readDoes", "(I)Z"⟩ ⟨"LeftAnswersModel", "readDoes", "(I)Z"⟩ ∈ gtb := gtb_in (i := 110) (by decide +kernel) (by decide +kernel)
set_option maxRecDepth 100000 in
theorem gw1094 : Jvm.Cond.code ⟨"LeftAnswersModel", "readDoes", "(I)Z"⟩ prog_15_method_110_code 3 (some .boolean) ∈ gtb := gtb_t8 (i := 228) rfl (by decide +kernel)
set_option maxRecDepth 100000 in
theorem gw1095 : Jvm.Cond.instanceMethod ⟨"LeftAnswersModel", "readDoes", "(I)Z"⟩ ∈ gtb := gtb_t8 (i := 227) rfl (by decide +kernel)
set_option maxRecDepth 100000 in
theorem gw1096 : Jvm.Cond.methodLink "LeftAnswersModel" 450 ⟨"LeftAnswersModel", "readOr", "()Z"⟩ ∈ gtb := gtb_t9 (i := 13) rfl (by decide +kernel)
set_option maxRecDepth 100000 in
theorem gw1097 : Jvm.Cond.selects "LeftAnswersModel" ⟨"LeftAnswersModel", "readOr", "()Z"⟩ ⟨"LeftAnswersModel", "readOr", "()Z"⟩ ∈ gtb := gtb_in (i := 115) (by decide +kernel) (by decide +kernel)
set_option maxRecDepth 100000 in
theorem gw1098 : Jvm.Cond.code ⟨"LeftAnswersModel", "readOr", "()Z"⟩ prog_15_method_117_code 2 (some .boolean) ∈ gtb := gtb_t9 (i := 16) rfl (by decide +kernel)
set_option maxRecDepth 100000 in
theorem gw1099 : Jvm.Cond.instanceMethod ⟨"LeftAnswersModel", "readOr", "()Z"⟩ ∈ gtb := gtb_t9 (i := 15) rfl (by decide +kernel)
set_option maxRecDepth 100000 in
theorem gw1100 : Jvm.Cond.methodLink "LeftAnswersModel" 86 ⟨"LeftAnswersModel", "isSign", "(I)Z"⟩ ∈ gtb := gtb_t7 (i := 176) rfl (by decide +kernel)
set_option maxRecDepth 100000 in
theorem gw1101 : Jvm.Cond.selects "LeftAnswersModel" ⟨"LeftAnswersModel", "isSign", "(I)Z"⟩ ⟨"LeftAnswersModel", "isSign", "(I)Z"⟩ ∈ gtb := gtb_in (i := 71) (by decide +kernel) (by decide +kernel)
set_option maxRecDepth 100000 in
theorem gw1102 : Jvm.Cond.code ⟨"LeftAnswersModel", "isSign", "(I)Z"⟩ prog_15_method_20_code 2 (some .boolean) ∈ gtb := gtb_t7 (i := 179) rfl (by decide +kernel)
set_option maxRecDepth 100000 in
theorem gw1103 : Jvm.Cond.instanceMethod ⟨"LeftAnswersModel", "isSign", "(I)Z"⟩ ∈ gtb := gtb_t7 (i := 178) rfl (by decide +kernel)
set_option maxRecDepth 100000 in
theorem gw1104 : Jvm.Cond.methodLink "LeftAnswersModel" 183 ⟨"LeftAnswersModel", "readFirst", "(II)Z"⟩ ∈ gtb := gtb_t7 (i := 111) rfl (by decide +kernel)
set_option maxRecDepth 100000 in
theorem gw1105 : Jvm.Cond.selects "LeftAnswersModel" ⟨"LeftAnswersModel", "readFirst", "(II)Z"⟩ ⟨"LeftAnswersModel", "readFirst", "(II)Z"⟩ ∈ gtb := gtb_in (i := 57) (by decide +kernel) (by decide +kernel)
set_option maxRecDepth 100000 in
theorem gw1106 : Jvm.Cond.code ⟨"LeftAnswersModel", "readFirst", "(II)Z"⟩ prog_15_method_31_code 3 (some .boolean) ∈ gtb := gtb_t7 (i := 114) rfl (by decide +kernel)
set_option maxRecDepth 100000 in
theorem gw1107 : Jvm.Cond.instanceMethod ⟨"LeftAnswersModel", "readFirst", "(II)Z"⟩ ∈ gtb := gtb_t7 (i := 113) rfl (by decide +kernel)
set_option maxRecDepth 100000 in
theorem gw1108 : Jvm.Cond.methodLink "LeftAnswersModel" 187 ⟨"LeftAnswersModel", "readNew", "(I)Z"⟩ ∈ gtb := gtb_t7 (i := 119) rfl (by decide +kernel)
set_option maxRecDepth 100000 in
theorem gw1109 : Jvm.Cond.selects "LeftAnswersModel" ⟨"LeftAnswersModel", "readNew", "(I)Z"⟩ ⟨"LeftAnswersModel", "readNew", "(I)Z"⟩ ∈ gtb := gtb_in (i := 59) (by decide +kernel) (by decide +kernel)
set_option maxRecDepth 100000 in
theorem gw1110 : Jvm.Cond.code ⟨"LeftAnswersModel", "readNew", "(I)Z"⟩ prog_15_method_29_code 2 (some .boolean) ∈ gtb := gtb_t7 (i := 122) rfl (by decide +kernel)
set_option maxRecDepth 100000 in
theorem gw1111 : Jvm.Cond.instanceMethod ⟨"LeftAnswersModel", "readNew", "(I)Z"⟩ ∈ gtb := gtb_t7 (i := 121) rfl (by decide +kernel)
set_option maxRecDepth 100000 in
theorem gw1112 : Jvm.Cond.methodLink "LeftAnswersModel" 193 ⟨"LeftAnswersModel", "put", "(IZ)Z"⟩ ∈ gtb := gtb_t7 (i := 137) rfl (by decide +kernel)
set_option maxRecDepth 100000 in
theorem gw1113 : Jvm.Cond.selects "LeftAnswersModel" ⟨"LeftAnswersModel", "put", "(IZ)Z"⟩ ⟨"LeftAnswersModel", "put", "(IZ)Z"⟩ ∈ gtb := gtb_in (i := 62) (by decide +kernel) (by decide +kernel)
set_option maxRecDepth 100000 in
theorem gw1114 : Jvm.Cond.code ⟨"LeftAnswersModel", "put", "(IZ)Z"⟩ prog_15_method_32_code 3 (some .boolean) ∈ gtb := gtb_t7 (i := 140) rfl (by decide +kernel)
set_option maxRecDepth 100000 in
theorem gw1115 : Jvm.Cond.instanceMethod ⟨"LeftAnswersModel", "put", "(IZ)Z"⟩ ∈ gtb := gtb_t7 (i := 139) rfl (by decide +kernel)
set_option maxRecDepth 100000 in
theorem gw1116 : Jvm.Cond.methodLink "LeftAnswersModel" 197 ⟨"LeftAnswersModel", "readFlag", "(III)V"⟩ ∈ gtb := gtb_t7 (i := 141) rfl (by decide +kernel)
set_option maxRecDepth 100000 in
theorem gw1117 : Jvm.Cond.selects "LeftAnswersModel" ⟨"LeftAnswersModel", "readFlag", "(III)V"⟩ ⟨"LeftAnswersModel", "readFlag", "(III)V"⟩ ∈ gtb := gtb_in (i := 63) (by decide +kernel) (by decide +kernel)
set_option maxRecDepth 100000 in
theorem gw1118 : Jvm.Cond.code ⟨"LeftAnswersModel", "readFlag", "(III)V"⟩ prog_15_method_33_code 4 none ∈ gtb := gtb_t7 (i := 144) rfl (by decide +kernel)
set_option maxRecDepth 100000 in
theorem gw1119 : Jvm.Cond.instanceMethod ⟨"LeftAnswersModel", "readFlag", "(III)V"⟩ ∈ gtb := gtb_t7 (i := 143) rfl (by decide +kernel)
set_option maxRecDepth 100000 in
theorem gw1120 : Jvm.Cond.methodLink "LeftAnswersModel" 389 ⟨"LeftAnswersModel", "readNamed", "(II)Z"⟩ ∈ gtb := gtb_t8 (i := 229) rfl (by decide +kernel)
set_option maxRecDepth 100000 in
theorem gw1121 : Jvm.Cond.selects "LeftAnswersModel" ⟨"LeftAnswersModel", "readNamed", "(II)Z"⟩ ⟨"LeftAnswersModel", "readNamed", "(II)Z"⟩ ∈ gtb := gtb_in (i := 111) (by decide +kernel) (by decide +kernel)
set_option maxRecDepth 100000 in
theorem gw1122 : Jvm.Cond.code ⟨"LeftAnswersModel", "readNamed", "(II)Z"⟩ prog_15_method_108_code 3 (some .boolean) ∈ gtb := gtb_t8 (i := 232) rfl (by decide +kernel)
set_option maxRecDepth 100000 in
theorem gw1123 : Jvm.Cond.instanceMethod ⟨"LeftAnswersModel", "readNamed", "(II)Z"⟩ ∈ gtb := gtb_t8 (i := 231) rfl (by decide +kernel)
set_option maxRecDepth 100000 in
theorem gw1124 : Jvm.Cond.methodLink "LeftAnswersModel" 395 ⟨"LeftAnswersModel", "readHand", "()Z"⟩ ∈ gtb := gtb_t8 (i := 233) rfl (by decide +kernel)
set_option maxRecDepth 100000 in
theorem gw1125 : Jvm.Cond.selects "LeftAnswersModel" ⟨"LeftAnswersModel", "readHand", "()Z"⟩ ⟨"LeftAnswersModel", "readHand", "()Z"⟩ ∈ gtb := gtb_in (i := 112) (by decide +kernel) (by decide +kernel)
set_option maxRecDepth 100000 in
theorem gw1126 : Jvm.Cond.code ⟨"LeftAnswersModel", "readHand", "()Z"⟩ prog_15_method_109_code 2 (some .boolean) ∈ gtb := gtb_t8 (i := 236) rfl (by decide +kernel)
set_option maxRecDepth 100000 in
theorem gw1127 : Jvm.Cond.instanceMethod ⟨"LeftAnswersModel", "readHand", "()Z"⟩ ∈ gtb := gtb_t8 (i := 235) rfl (by decide +kernel)
set_option maxRecDepth 100000 in
theorem gw1128 : Jvm.Cond.methodLink "LeftAnswersModel" 204 ⟨"LeftAnswersModel", "readPair", "()I"⟩ ∈ gtb := gtb_t7 (i := 153) rfl (by decide +kernel)
set_option maxRecDepth 100000 in
theorem gw1129 : Jvm.Cond.selects "LeftAnswersModel" ⟨"LeftAnswersModel", "readPair", "()I"⟩ ⟨"LeftAnswersModel", "readPair", "()I"⟩ ∈ gtb := gtb_in (i := 66) (by decide +kernel) (by decide +kernel)
set_option maxRecDepth 100000 in
theorem gw1130 : Jvm.Cond.code ⟨"LeftAnswersModel", "readPair", "()I"⟩ prog_15_method_36_code 2 (some .int) ∈ gtb := gtb_t7 (i := 156) rfl (by decide +kernel)
set_option maxRecDepth 100000 in
theorem gw1131 : Jvm.Cond.instanceMethod ⟨"LeftAnswersModel", "readPair", "()I"⟩ ∈ gtb := gtb_t7 (i := 155) rfl (by decide +kernel)
set_option maxRecDepth 100000 in
theorem gw1132 : Jvm.Cond.methodLink "LeftAnswersModel" 210 ⟨"LeftAnswersModel", "readPerson", "()Z"⟩ ∈ gtb := gtb_t7 (i := 107) rfl (by decide +kernel)
set_option maxRecDepth 100000 in
theorem gw1133 : Jvm.Cond.selects "LeftAnswersModel" ⟨"LeftAnswersModel", "readPerson", "()Z"⟩ ⟨"LeftAnswersModel", "readPerson", "()Z"⟩ ∈ gtb := gtb_in (i := 56) (by decide +kernel) (by decide +kernel)
set_option maxRecDepth 100000 in
theorem gw1134 : Jvm.Cond.code ⟨"LeftAnswersModel", "readPerson", "()Z"⟩ prog_15_method_34_code 2 (some .boolean) ∈ gtb := gtb_t7 (i := 110) rfl (by decide +kernel)
set_option maxRecDepth 100000 in
theorem gw1135 : Jvm.Cond.instanceMethod ⟨"LeftAnswersModel", "readPerson", "()Z"⟩ ∈ gtb := gtb_t7 (i := 109) rfl (by decide +kernel)
set_option maxRecDepth 100000 in
theorem gw1136 : Jvm.Cond.methodLink "LeftAnswersModel" 213 ⟨"LeftAnswersModel", "readDeed", "()Z"⟩ ∈ gtb := gtb_t7 (i := 145) rfl (by decide +kernel)
set_option maxRecDepth 100000 in
theorem gw1137 : Jvm.Cond.selects "LeftAnswersModel" ⟨"LeftAnswersModel", "readDeed", "()Z"⟩ ⟨"LeftAnswersModel", "readDeed", "()Z"⟩ ∈ gtb := gtb_in (i := 64) (by decide +kernel) (by decide +kernel)
set_option maxRecDepth 100000 in
theorem gw1138 : Jvm.Cond.code ⟨"LeftAnswersModel", "readDeed", "()Z"⟩ prog_15_method_35_code 2 (some .boolean) ∈ gtb := gtb_t7 (i := 148) rfl (by decide +kernel)
set_option maxRecDepth 100000 in
theorem gw1139 : Jvm.Cond.instanceMethod ⟨"LeftAnswersModel", "readDeed", "()Z"⟩ ∈ gtb := gtb_t7 (i := 147) rfl (by decide +kernel)
set_option maxRecDepth 100000 in
theorem gw1140 : Jvm.Cond.methodLink "LeftAnswersModel" 216 ⟨"LeftAnswersModel", "readSees", "()Z"⟩ ∈ gtb := gtb_t7 (i := 149) rfl (by decide +kernel)
set_option maxRecDepth 100000 in
theorem gw1141 : Jvm.Cond.selects "LeftAnswersModel" ⟨"LeftAnswersModel", "readSees", "()Z"⟩ ⟨"LeftAnswersModel", "readSees", "()Z"⟩ ∈ gtb := gtb_in (i := 65) (by decide +kernel) (by decide +kernel)
set_option maxRecDepth 100000 in
theorem gw1142 : Jvm.Cond.code ⟨"LeftAnswersModel", "readSees", "()Z"⟩ prog_15_method_37_code 2 (some .boolean) ∈ gtb := gtb_t7 (i := 152) rfl (by decide +kernel)
set_option maxRecDepth 100000 in
theorem gw1143 : Jvm.Cond.instanceMethod ⟨"LeftAnswersModel", "readSees", "()Z"⟩ ∈ gtb := gtb_t7 (i := 151) rfl (by decide +kernel)
set_option maxRecDepth 100000 in
theorem gw1144 : Jvm.Cond.methodLink "LeftAnswersModel" 219 ⟨"LeftAnswersModel", "readFond", "()Z"⟩ ∈ gtb := gtb_t7 (i := 164) rfl (by decide +kernel)
set_option maxRecDepth 100000 in
theorem gw1145 : Jvm.Cond.selects "LeftAnswersModel" ⟨"LeftAnswersModel", "readFond", "()Z"⟩ ⟨"LeftAnswersModel", "readFond", "()Z"⟩ ∈ gtb := gtb_in (i := 68) (by decide +kernel) (by decide +kernel)
set_option maxRecDepth 100000 in
theorem gw1146 : Jvm.Cond.code ⟨"LeftAnswersModel", "readFond", "()Z"⟩ prog_15_method_38_code 3 (some .boolean) ∈ gtb := gtb_t7 (i := 167) rfl (by decide +kernel)
set_option maxRecDepth 100000 in
theorem gw1147 : Jvm.Cond.instanceMethod ⟨"LeftAnswersModel", "readFond", "()Z"⟩ ∈ gtb := gtb_t7 (i := 166) rfl (by decide +kernel)
set_option maxRecDepth 100000 in
theorem gw1148 : Jvm.Cond.methodLink "LeftAnswersModel" 222 ⟨"LeftAnswersModel", "readOnce", "(I)Z"⟩ ∈ gtb := gtb_t7 (i := 168) rfl (by decide +kernel)
set_option maxRecDepth 100000 in
theorem gw1149 : Jvm.Cond.selects "LeftAnswersModel" ⟨"LeftAnswersModel", "readOnce", "(I)Z"⟩ ⟨"LeftAnswersModel", "readOnce", "(I)Z"⟩ ∈ gtb := gtb_in (i := 69) (by decide +kernel) (by decide +kernel)
set_option maxRecDepth 100000 in
theorem gw1150 : Jvm.Cond.code ⟨"LeftAnswersModel", "readOnce", "(I)Z"⟩ prog_15_method_39_code 2 (some .boolean) ∈ gtb := gtb_t7 (i := 171) rfl (by decide +kernel)
set_option maxRecDepth 100000 in
theorem gw1151 : Jvm.Cond.instanceMethod ⟨"LeftAnswersModel", "readOnce", "(I)Z"⟩ ∈ gtb := gtb_t7 (i := 170) rfl (by decide +kernel)
set_option maxRecDepth 100000 in
theorem gw1152 : Jvm.Cond.methodLink "LeftAnswersModel" 420 ⟨"LeftAnswersModel", "readAnd", "()Z"⟩ ∈ gtb := gtb_t9 (i := 17) rfl (by decide +kernel)
set_option maxRecDepth 100000 in
theorem gw1153 : Jvm.Cond.selects "LeftAnswersModel" ⟨"LeftAnswersModel", "readAnd", "()Z"⟩ ⟨"LeftAnswersModel", "readAnd", "()Z"⟩ ∈ gtb := gtb_in (i := 116) (by decide +kernel) (by decide +kernel)
set_option maxRecDepth 100000 in
theorem gw1154 : Jvm.Cond.code ⟨"LeftAnswersModel", "readAnd", "()Z"⟩ prog_15_method_118_code 2 (some .boolean) ∈ gtb := gtb_t9 (i := 20) rfl (by decide +kernel)
set_option maxRecDepth 100000 in
theorem gw1155 : Jvm.Cond.instanceMethod ⟨"LeftAnswersModel", "readAnd", "()Z"⟩ ∈ gtb := gtb_t9 (i := 19) rfl (by decide +kernel)
set_option maxRecDepth 100000 in
theorem gw1156 : Jvm.Cond.methodLink "LeftAnswersModel" 201 ⟨"LeftAnswersModel", "isOne", "()Z"⟩ ∈ gtb := gtb_t7 (i := 157) rfl (by decide +kernel)
set_option maxRecDepth 100000 in
theorem gw1157 : Jvm.Cond.selects "LeftAnswersModel" ⟨"LeftAnswersModel", "isOne", "()Z"⟩ ⟨"LeftAnswersModel", "isOne", "()Z"⟩ ∈ gtb := gtb_in (i := 67) (by decide +kernel) (by decide +kernel)
set_option maxRecDepth 100000 in
theorem gw1158 : Jvm.Cond.code ⟨"LeftAnswersModel", "isOne", "()Z"⟩ prog_15_method_30_code 1 (some .boolean) ∈ gtb := gtb_t7 (i := 160) rfl (by decide +kernel)
set_option maxRecDepth 100000 in
theorem gw1159 : Jvm.Cond.instanceMethod ⟨"LeftAnswersModel", "isOne", "()Z"⟩ ∈ gtb := gtb_t7 (i := 159) rfl (by decide +kernel)
set_option maxRecDepth 100000 in
theorem gw1160 : Jvm.Cond.fieldLink "LeftAnswersModel" 432 "LeftAnswersModel" "onesMany" "I" ∈ gtb := gtb_t6 (i := 196) rfl (by decide +kernel)
set_option maxRecDepth 100000 in
theorem gw1161 : Jvm.Cond.fieldLink "LeftAnswersModel" 435 "LeftAnswersModel" "within" "I" ∈ gtb := gtb_t6 (i := 197) rfl (by decide +kernel)
set_option maxRecDepth 100000 in
theorem gw1162 : Jvm.Cond.methodLink "LeftAnswersModel" 438 ⟨"LeftAnswersModel", "readBracket", "()Z"⟩ ∈ gtb := gtb_t9 (i := 25) rfl (by decide +kernel)
set_option maxRecDepth 100000 in
theorem gw1163 : Jvm.Cond.selects "LeftAnswersModel" ⟨"LeftAnswersModel", "readBracket", "()Z"⟩ ⟨"LeftAnswersModel", "readBracket", "()Z"⟩ ∈ gtb := gtb_in (i := 118) (by decide +kernel) (by decide +kernel)
set_option maxRecDepth 100000 in
theorem gw1164 : Jvm.Cond.code ⟨"LeftAnswersModel", "readBracket", "()Z"⟩ prog_15_method_121_code 1 (some .boolean) ∈ gtb := gtb_t9 (i := 28) rfl (by decide +kernel)
set_option maxRecDepth 100000 in
theorem gw1165 : Jvm.Cond.instanceMethod ⟨"LeftAnswersModel", "readBracket", "()Z"⟩ ∈ gtb := gtb_t9 (i := 27) rfl (by decide +kernel)
set_option maxRecDepth 100000 in
theorem gw1166 : Jvm.Cond.methodLink "LeftAnswersModel" 441 ⟨"LeftAnswersModel", "readNot", "()Z"⟩ ∈ gtb := gtb_t9 (i := 29) rfl (by decide +kernel)
set_option maxRecDepth 100000 in
theorem gw1167 : Jvm.Cond.selects "LeftAnswersModel" ⟨"LeftAnswersModel", "readNot", "()Z"⟩ ⟨"LeftAnswersModel", "readNot", "()Z"⟩ ∈ gtb := gtb_in (i := 119) (by decide +kernel) (by decide +kernel)
set_option maxRecDepth 100000 in
theorem gw1168 : Jvm.Cond.code ⟨"LeftAnswersModel", "readNot", "()Z"⟩ prog_15_method_120_code 1 (some .boolean) ∈ gtb := gtb_t9 (i := 32) rfl (by decide +kernel)
set_option maxRecDepth 100000 in
theorem gw1169 : Jvm.Cond.instanceMethod ⟨"LeftAnswersModel", "readNot", "()Z"⟩ ∈ gtb := gtb_t9 (i := 31) rfl (by decide +kernel)
set_option maxRecDepth 100000 in
theorem gw1170 : Jvm.Cond.methodLink "LeftAnswersModel" 444 ⟨"LeftAnswersModel", "readOf", "(I)Z"⟩ ∈ gtb := gtb_t9 (i := 37) rfl (by decide +kernel)
set_option maxRecDepth 100000 in
theorem gw1171 : Jvm.Cond.selects "LeftAnswersModel" ⟨"LeftAnswersModel", "readOf", "(I)Z"⟩ ⟨"LeftAnswersModel", "readOf", "(I)Z"⟩ ∈ gtb := gtb_in (i := 121) (by decide +kernel) (by decide +kernel)
set_option maxRecDepth 100000 in
theorem gw1172 : Jvm.Cond.code ⟨"LeftAnswersModel", "readOf", "(I)Z"⟩ prog_15_method_122_code 2 (some .boolean) ∈ gtb := gtb_t9 (i := 40) rfl (by decide +kernel)
set_option maxRecDepth 100000 in
theorem gw1173 : Jvm.Cond.instanceMethod ⟨"LeftAnswersModel", "readOf", "(I)Z"⟩ ∈ gtb := gtb_t9 (i := 39) rfl (by decide +kernel)
set_option maxRecDepth 100000 in
theorem gw1174 : Jvm.Cond.methodLink "LeftAnswersModel" 447 ⟨"LeftAnswersModel", "readCompare", "(I)Z"⟩ ∈ gtb := gtb_t9 (i := 41) rfl (by decide +kernel)
set_option maxRecDepth 100000 in
theorem gw1175 : Jvm.Cond.selects "LeftAnswersModel" ⟨"LeftAnswersModel", "readCompare", "(I)Z"⟩ ⟨"LeftAnswersModel", "readCompare", "(I)Z"⟩ ∈ gtb := gtb_in (i := 122) (by decide +kernel) (by decide +kernel)
set_option maxRecDepth 100000 in
theorem gw1176 : Jvm.Cond.code ⟨"LeftAnswersModel", "readCompare", "(I)Z"⟩ prog_15_method_123_code 3 (some .boolean) ∈ gtb := gtb_t9 (i := 44) rfl (by decide +kernel)
set_option maxRecDepth 100000 in
theorem gw1177 : Jvm.Cond.instanceMethod ⟨"LeftAnswersModel", "readCompare", "(I)Z"⟩ ∈ gtb := gtb_t9 (i := 43) rfl (by decide +kernel)
set_option maxRecDepth 100000 in
theorem gw1178 : Jvm.Cond.fieldLink "LeftAnswersModel" 417 "LeftAnswersModel" "nodes" "I" ∈ gtb := gtb_t6 (i := 195) rfl (by decide +kernel)
set_option maxRecDepth 100000 in
theorem gw1179 : Jvm.Cond.methodLink "LeftAnswersModel" 357 ⟨"LeftAnswersModel", "writeWord", "(J)V"⟩ ∈ gtb := gtb_t8 (i := 164) rfl (by decide +kernel)
set_option maxRecDepth 100000 in
theorem gw1180 : Jvm.Cond.selects "LeftAnswersModel" ⟨"LeftAnswersModel", "writeWord", "(J)V"⟩ ⟨"LeftAnswersModel", "writeWord", "(J)V"⟩ ∈ gtb := gtb_in (i := 99) (by decide +kernel) (by decide +kernel)
set_option maxRecDepth 100000 in
theorem gw1181 : Jvm.Cond.code ⟨"LeftAnswersModel", "writeWord", "(J)V"⟩ prog_15_method_95_code 3 none ∈ gtb := gtb_t8 (i := 167) rfl (by decide +kernel)
set_option maxRecDepth 100000 in
theorem gw1182 : Jvm.Cond.instanceMethod ⟨"LeftAnswersModel", "writeWord", "(J)V"⟩ ∈ gtb := gtb_t8 (i := 166) rfl (by decide +kernel)
set_option maxRecDepth 100000 in
theorem gw1183 : Jvm.Cond.methodLink "LeftAnswersModel" 367 ⟨"LeftAnswersModel", "writeNext", "(J)V"⟩ ∈ gtb := gtb_t8 (i := 172) rfl (by decide +kernel)
set_option maxRecDepth 100000 in
theorem gw1184 : Jvm.Cond.selects "LeftAnswersModel" ⟨"LeftAnswersModel", "writeNext", "(J)V"⟩ ⟨"LeftAnswersModel", "writeNext", "(J)V"⟩ ∈ gtb := gtb_in (i := 101) (by decide +kernel) (by decide +kernel)
set_option maxRecDepth 100000 in
theorem gw1185 : Jvm.Cond.code ⟨"LeftAnswersModel", "writeNext", "(J)V"⟩ prog_15_method_97_code 3 none ∈ gtb := gtb_t8 (i := 175) rfl (by decide +kernel)
set_option maxRecDepth 100000 in
theorem gw1186 : Jvm.Cond.instanceMethod ⟨"LeftAnswersModel", "writeNext", "(J)V"⟩ ∈ gtb := gtb_t8 (i := 174) rfl (by decide +kernel)
set_option maxRecDepth 100000 in
theorem gw1187 : Jvm.Cond.methodLink "LeftAnswersModel" 361 ⟨"LeftAnswersModel", "write", "(I)V"⟩ ∈ gtb := gtb_t8 (i := 168) rfl (by decide +kernel)
set_option maxRecDepth 100000 in
theorem gw1188 : Jvm.Cond.selects "LeftAnswersModel" ⟨"LeftAnswersModel", "write", "(I)V"⟩ ⟨"LeftAnswersModel", "write", "(I)V"⟩ ∈ gtb := gtb_in (i := 100) (by decide +kernel) (by decide +kernel)
set_option maxRecDepth 100000 in
theorem gw1189 : Jvm.Cond.code ⟨"LeftAnswersModel", "write", "(I)V"⟩ prog_15_method_94_code 2 none ∈ gtb := gtb_t8 (i := 171) rfl (by decide +kernel)
set_option maxRecDepth 100000 in
theorem gw1190 : Jvm.Cond.instanceMethod ⟨"LeftAnswersModel", "write", "(I)V"⟩ ∈ gtb := gtb_t8 (i := 170) rfl (by decide +kernel)
set_option maxRecDepth 100000 in
theorem gw1191 : Jvm.Cond.methodLink "LeftAnswersModel" 364 ⟨"LeftAnswersModel", "writeNumber", "(I)V"⟩ ∈ gtb := gtb_t8 (i := 176) rfl (by decide +kernel)
set_option maxRecDepth 100000 in
theorem gw1192 : Jvm.Cond.selects "LeftAnswersModel" ⟨"LeftAnswersModel", "writeNumber", "(I)V"⟩ ⟨"LeftAnswersModel", "writeNumber", "(I)V"⟩ ∈ gtb := gtb_in (i := 102) (by decide +kernel) (by decide +kernel)
set_option maxRecDepth 100000 in
theorem gw1193 : Jvm.Cond.code ⟨"LeftAnswersModel", "writeNumber", "(I)V"⟩ prog_15_method_96_code 2 none ∈ gtb := gtb_t8 (i := 179) rfl (by decide +kernel)
set_option maxRecDepth 100000 in
theorem gw1194 : Jvm.Cond.instanceMethod ⟨"LeftAnswersModel", "writeNumber", "(I)V"⟩ ∈ gtb := gtb_t8 (i := 178) rfl (by decide +kernel)
set_option maxRecDepth 100000 in
theorem gw1195 : Jvm.Cond.methodLink "LeftAnswersModel" 58 ⟨"LeftAnswersModel", "spelt", "(IIIIII)J"⟩ ∈ gtb := gtb_t7 (i := 104) rfl (by decide +kernel)
set_option maxRecDepth 100000 in
theorem gw1196 : Jvm.Cond.code ⟨"LeftAnswersModel", "spelt", "(IIIIII)J"⟩ prog_15_method_17_code 8 (some .long) ∈ gtb := gtb_t7 (i := 106) rfl (by decide +kernel)
set_option maxRecDepth 100000 in
theorem gw1197 : Jvm.Cond.static ⟨"LeftAnswersModel", "spelt", "(IIIIII)J"⟩ ∈ gtb := gtb_t7 (i := 105) rfl (by decide +kernel)
set_option maxRecDepth 100000 in
theorem gw1198 : Jvm.Cond.methodLink "LeftAnswersModel" 338 ⟨"LeftAnswersModel", "isFree", "(I)Z"⟩ ∈ gtb := gtb_t8 (i := 136) rfl (by decide +kernel)
set_option maxRecDepth 100000 in
theorem gw1199 : Jvm.Cond.selects "LeftAnswersModel" ⟨"LeftAnswersModel", "isFree", "(I)Z"⟩ ⟨"LeftAnswersModel", "isFree", "(I)Z"⟩ ∈ gtb := gtb_in (i := 96) (by decide +kernel) (by decide +kernel)
end
section
set_option maxRecDepth 100000 in
theorem gw1200 : Jvm.Cond.code ⟨"LeftAnswersModel", "isFree", "(I)Z"⟩ prog_15_method_86_code 2 (some .boolean) ∈ gtb := gtb_t8 (i := 139) rfl (by decide +kernel)
set_option maxRecDepth 100000 in
theorem gw1201 : Jvm.Cond.instanceMethod ⟨"LeftAnswersModel", "isFree", "(I)Z"⟩ ∈ gtb := gtb_t8 (i := 138) rfl (by decide +kernel)
set_option maxRecDepth 100000 in
theorem gw1202 : Jvm.Cond.methodLink "LeftAnswersModel" 341 ⟨"LeftAnswersModel", "fondness", "(II)I"⟩ ∈ gtb := gtb_t8 (i := 140) rfl (by decide +kernel)
set_option maxRecDepth 100000 in
theorem gw1203 : Jvm.Cond.selects "LeftAnswersModel" ⟨"LeftAnswersModel", "fondness", "(II)I"⟩ ⟨"LeftAnswersModel", "fondness", "(II)I"⟩ ∈ gtb := gtb_in (i := 97) (by decide +kernel) (by decide +kernel)
set_option maxRecDepth 100000 in
theorem gw1204 : Jvm.Cond.code ⟨"LeftAnswersModel", "fondness", "(II)I"⟩ prog_15_method_87_code 5 (some .int) ∈ gtb := gtb_t8 (i := 143) rfl (by decide +kernel)
set_option maxRecDepth 100000 in
theorem gw1205 : Jvm.Cond.instanceMethod ⟨"LeftAnswersModel", "fondness", "(II)I"⟩ ∈ gtb := gtb_t8 (i := 142) rfl (by decide +kernel)
set_option maxRecDepth 100000 in
theorem gw1206 : Jvm.Cond.constant "java/lang/Integer" 265 1431655765 ∈ gtb := gtb_t4 (i := 171) rfl (by decide +kernel)
set_option maxRecDepth 100000 in
theorem gw1207 : Jvm.Cond.constant "java/lang/Integer" 266 858993459 ∈ gtb := gtb_t4 (i := 172) rfl (by decide +kernel)
set_option maxRecDepth 100000 in
theorem gw1208 : Jvm.Cond.constant "java/lang/Integer" 267 252645135 ∈ gtb := gtb_t4 (i := 173) rfl (by decide +kernel)
set_option maxRecDepth 100000 in
theorem gw1209 : Jvm.Cond.classLink "LeftAnswersLaw" 8 "LeftAnswers" ∈ gtb := gtb_t1 (i := 27) rfl (by decide +kernel)
set_option maxRecDepth 100000 in
theorem gw1210 : Jvm.Cond.instantiable "LeftAnswers" 17 ∈ gtb := gtb_t1 (i := 28) rfl (by decide +kernel)
set_option maxRecDepth 100000 in
theorem gw1211 : Jvm.Cond.methodLink "LeftAnswersLaw" 15 ⟨"LeftAnswers", "<init>", "()V"⟩ ∈ gtb := gtb_t1 (i := 29) rfl (by decide +kernel)
set_option maxRecDepth 100000 in
theorem gw1212 : Jvm.Cond.code ⟨"LeftAnswers", "<init>", "()V"⟩ prog_1_method_1_code 1 none ∈ gtb := gtb_t1 (i := 31) rfl (by decide +kernel)
set_option maxRecDepth 100000 in
theorem gw1213 : Jvm.Cond.instanceMethod ⟨"LeftAnswers", "<init>", "()V"⟩ ∈ gtb := gtb_t1 (i := 30) rfl (by decide +kernel)
set_option maxRecDepth 100000 in
theorem gw1214 : Jvm.Cond.classLink "LeftAnswersLaw" 16 "LeftAnswersModel" ∈ gtb := gtb_t6 (i := 138) rfl (by decide +kernel)
set_option maxRecDepth 100000 in
theorem gw1215 : Jvm.Cond.instantiable "LeftAnswersModel" 52 ∈ gtb := gtb_t6 (i := 132) rfl (by decide +kernel)
set_option maxRecDepth 100000 in
theorem gw1216 : Jvm.Cond.methodLink "LeftAnswersLaw" 18 ⟨"LeftAnswersModel", "<init>", "()V"⟩ ∈ gtb := gtb_t6 (i := 139) rfl (by decide +kernel)
set_option maxRecDepth 100000 in
theorem gw1217 : Jvm.Cond.code ⟨"LeftAnswersModel", "<init>", "()V"⟩ prog_15_method_26_code 1 none ∈ gtb := gtb_t6 (i := 141) rfl (by decide +kernel)
set_option maxRecDepth 100000 in
theorem gw1218 : Jvm.Cond.instanceMethod ⟨"LeftAnswersModel", "<init>", "()V"⟩ ∈ gtb := gtb_t6 (i := 140) rfl (by decide +kernel)
set_option maxRecDepth 100000 in
theorem gw1219 : Jvm.Cond.methodLink "LeftAnswersLaw" 19 ⟨"LeftAnswers", "feed", "(IIIII)I"⟩ ∈ gtb := gtb_t3 (i := 2) rfl (by decide +kernel)
set_option maxRecDepth 100000 in
theorem gw1220 : Jvm.Cond.selects "LeftAnswers" ⟨"LeftAnswers", "feed", "(IIIII)I"⟩ ⟨"LeftAnswers", "feed", "(IIIII)I"⟩ ∈ gtb := gtb_t3 (i := 4) rfl (by decide +kernel)
set_option maxRecDepth 100000 in
theorem gw1221 : Jvm.Cond.code ⟨"LeftAnswers", "feed", "(IIIII)I"⟩ prog_1_method_2_code 6 (some .int) ∈ gtb := gtb_t3 (i := 5) rfl (by decide +kernel)
set_option maxRecDepth 100000 in
theorem gw1222 : Jvm.Cond.instanceMethod ⟨"LeftAnswers", "feed", "(IIIII)I"⟩ ∈ gtb := gtb_t3 (i := 3) rfl (by decide +kernel)
set_option maxRecDepth 100000 in
theorem gw1223 : Jvm.Cond.methodLink "LeftAnswersLaw" 23 ⟨"LeftAnswersModel", "feed", "(IIIII)I"⟩ ∈ gtb := gtb_t6 (i := 125) rfl (by decide +kernel)
set_option maxRecDepth 100000 in
theorem gw1224 : Jvm.Cond.selects "LeftAnswersModel" ⟨"LeftAnswersModel", "feed", "(IIIII)I"⟩ ⟨"LeftAnswersModel", "feed", "(IIIII)I"⟩ ∈ gtb := gtb_t6 (i := 127) rfl (by decide +kernel)
set_option maxRecDepth 100000 in
theorem gw1225 : Jvm.Cond.code ⟨"LeftAnswersModel", "feed", "(IIIII)I"⟩ prog_15_method_4_code 6 (some .int) ∈ gtb := gtb_t6 (i := 128) rfl (by decide +kernel)
set_option maxRecDepth 100000 in
theorem gw1226 : Jvm.Cond.instanceMethod ⟨"LeftAnswersModel", "feed", "(IIIII)I"⟩ ∈ gtb := gtb_t6 (i := 126) rfl (by decide +kernel)
set_option maxRecDepth 100000 in
theorem gw1227 : Jvm.Cond.methodLink "LeftAnswersLaw" 24 ⟨"LeftAnswers", "end", "(I)Z"⟩ ∈ gtb := gtb_t3 (i := 10) rfl (by decide +kernel)
set_option maxRecDepth 100000 in
theorem gw1228 : Jvm.Cond.selects "LeftAnswers" ⟨"LeftAnswers", "end", "(I)Z"⟩ ⟨"LeftAnswers", "end", "(I)Z"⟩ ∈ gtb := gtb_t3 (i := 12) rfl (by decide +kernel)
set_option maxRecDepth 100000 in
theorem gw1229 : Jvm.Cond.code ⟨"LeftAnswers", "end", "(I)Z"⟩ prog_1_method_3_code 2 (some .boolean) ∈ gtb := gtb_t3 (i := 13) rfl (by decide +kernel)
set_option maxRecDepth 100000 in
theorem gw1230 : Jvm.Cond.instanceMethod ⟨"LeftAnswers", "end", "(I)Z"⟩ ∈ gtb := gtb_t3 (i := 11) rfl (by decide +kernel)
set_option maxRecDepth 100000 in
theorem gw1231 : Jvm.Cond.methodLink "LeftAnswersLaw" 28 ⟨"LeftAnswersModel", "end", "(I)Z"⟩ ∈ gtb := gtb_t6 (i := 134) rfl (by decide +kernel)
set_option maxRecDepth 100000 in
theorem gw1232 : Jvm.Cond.selects "LeftAnswersModel" ⟨"LeftAnswersModel", "end", "(I)Z"⟩ ⟨"LeftAnswersModel", "end", "(I)Z"⟩ ∈ gtb := gtb_t6 (i := 136) rfl (by decide +kernel)
set_option maxRecDepth 100000 in
theorem gw1233 : Jvm.Cond.code ⟨"LeftAnswersModel", "end", "(I)Z"⟩ prog_15_method_5_code 2 (some .boolean) ∈ gtb := gtb_t6 (i := 137) rfl (by decide +kernel)
set_option maxRecDepth 100000 in
theorem gw1234 : Jvm.Cond.instanceMethod ⟨"LeftAnswersModel", "end", "(I)Z"⟩ ∈ gtb := gtb_t6 (i := 135) rfl (by decide +kernel)
set_option maxRecDepth 100000 in
theorem gw1235 : Jvm.Cond.methodLink "LeftAnswersLaw" 29 ⟨"LeftAnswers", "duchy", "()I"⟩ ∈ gtb := gtb_t3 (i := 14) rfl (by decide +kernel)
set_option maxRecDepth 100000 in
theorem gw1236 : Jvm.Cond.selects "LeftAnswers" ⟨"LeftAnswers", "duchy", "()I"⟩ ⟨"LeftAnswers", "duchy", "()I"⟩ ∈ gtb := gtb_t3 (i := 16) rfl (by decide +kernel)
set_option maxRecDepth 100000 in
theorem gw1237 : Jvm.Cond.code ⟨"LeftAnswers", "duchy", "()I"⟩ prog_1_method_4_code 3 (some .int) ∈ gtb := gtb_t3 (i := 17) rfl (by decide +kernel)
set_option maxRecDepth 100000 in
theorem gw1238 : Jvm.Cond.instanceMethod ⟨"LeftAnswers", "duchy", "()I"⟩ ∈ gtb := gtb_t3 (i := 15) rfl (by decide +kernel)
set_option maxRecDepth 100000 in
theorem gw1239 : Jvm.Cond.methodLink "LeftAnswersLaw" 33 ⟨"LeftAnswersModel", "duchy", "()I"⟩ ∈ gtb := gtb_t7 (i := 65) rfl (by decide +kernel)
set_option maxRecDepth 100000 in
theorem gw1240 : Jvm.Cond.selects "LeftAnswersModel" ⟨"LeftAnswersModel", "duchy", "()I"⟩ ⟨"LeftAnswersModel", "duchy", "()I"⟩ ∈ gtb := gtb_t7 (i := 67) rfl (by decide +kernel)
set_option maxRecDepth 100000 in
theorem gw1241 : Jvm.Cond.code ⟨"LeftAnswersModel", "duchy", "()I"⟩ prog_15_method_41_code 3 (some .int) ∈ gtb := gtb_t7 (i := 68) rfl (by decide +kernel)
set_option maxRecDepth 100000 in
theorem gw1242 : Jvm.Cond.instanceMethod ⟨"LeftAnswersModel", "duchy", "()I"⟩ ∈ gtb := gtb_t7 (i := 66) rfl (by decide +kernel)
set_option maxRecDepth 100000 in
theorem gw1243 : Jvm.Cond.methodLink "LeftAnswersLaw" 34 ⟨"LeftAnswers", "fault", "()I"⟩ ∈ gtb := gtb_t3 (i := 154) rfl (by decide +kernel)
set_option maxRecDepth 100000 in
theorem gw1244 : Jvm.Cond.selects "LeftAnswers" ⟨"LeftAnswers", "fault", "()I"⟩ ⟨"LeftAnswers", "fault", "()I"⟩ ∈ gtb := gtb_t3 (i := 156) rfl (by decide +kernel)
set_option maxRecDepth 100000 in
theorem gw1245 : Jvm.Cond.code ⟨"LeftAnswers", "fault", "()I"⟩ prog_1_method_5_code 1 (some .int) ∈ gtb := gtb_t3 (i := 157) rfl (by decide +kernel)
set_option maxRecDepth 100000 in
theorem gw1246 : Jvm.Cond.instanceMethod ⟨"LeftAnswers", "fault", "()I"⟩ ∈ gtb := gtb_t3 (i := 155) rfl (by decide +kernel)
set_option maxRecDepth 100000 in
theorem gw1247 : Jvm.Cond.methodLink "LeftAnswersLaw" 37 ⟨"LeftAnswersModel", "fault", "()I"⟩ ∈ gtb := gtb_t7 (i := 180) rfl (by decide +kernel)
set_option maxRecDepth 100000 in
theorem gw1248 : Jvm.Cond.selects "LeftAnswersModel" ⟨"LeftAnswersModel", "fault", "()I"⟩ ⟨"LeftAnswersModel", "fault", "()I"⟩ ∈ gtb := gtb_t7 (i := 182) rfl (by decide +kernel)
set_option maxRecDepth 100000 in
theorem gw1249 : Jvm.Cond.code ⟨"LeftAnswersModel", "fault", "()I"⟩ prog_15_method_42_code 1 (some .int) ∈ gtb := gtb_t7 (i := 183) rfl (by decide +kernel)
set_option maxRecDepth 100000 in
theorem gw1250 : Jvm.Cond.instanceMethod ⟨"LeftAnswersModel", "fault", "()I"⟩ ∈ gtb := gtb_t7 (i := 181) rfl (by decide +kernel)
set_option maxRecDepth 100000 in
theorem gw1251 : Jvm.Cond.methodLink "LeftAnswersLaw" 43 ⟨"LeftAnswersModel", "person", "(II)I"⟩ ∈ gtb := gtb_t7 (i := 184) rfl (by decide +kernel)
set_option maxRecDepth 100000 in
theorem gw1252 : Jvm.Cond.selects "LeftAnswersModel" ⟨"LeftAnswersModel", "person", "(II)I"⟩ ⟨"LeftAnswersModel", "person", "(II)I"⟩ ∈ gtb := gtb_t7 (i := 186) rfl (by decide +kernel)
set_option maxRecDepth 100000 in
theorem gw1253 : Jvm.Cond.code ⟨"LeftAnswersModel", "person", "(II)I"⟩ prog_15_method_52_code 3 (some .int) ∈ gtb := gtb_t7 (i := 187) rfl (by decide +kernel)
set_option maxRecDepth 100000 in
theorem gw1254 : Jvm.Cond.instanceMethod ⟨"LeftAnswersModel", "person", "(II)I"⟩ ∈ gtb := gtb_t7 (i := 185) rfl (by decide +kernel)
set_option maxRecDepth 100000 in
theorem gw1255 : Jvm.Cond.methodLink "LeftAnswersLaw" 44 ⟨"LeftAnswers", "skill", "(II)I"⟩ ∈ gtb := gtb_t3 (i := 158) rfl (by decide +kernel)
set_option maxRecDepth 100000 in
theorem gw1256 : Jvm.Cond.selects "LeftAnswers" ⟨"LeftAnswers", "skill", "(II)I"⟩ ⟨"LeftAnswers", "skill", "(II)I"⟩ ∈ gtb := gtb_t3 (i := 160) rfl (by decide +kernel)
set_option maxRecDepth 100000 in
theorem gw1257 : Jvm.Cond.code ⟨"LeftAnswers", "skill", "(II)I"⟩ prog_1_method_7_code 3 (some .int) ∈ gtb := gtb_t3 (i := 161) rfl (by decide +kernel)
set_option maxRecDepth 100000 in
theorem gw1258 : Jvm.Cond.instanceMethod ⟨"LeftAnswers", "skill", "(II)I"⟩ ∈ gtb := gtb_t3 (i := 159) rfl (by decide +kernel)
set_option maxRecDepth 100000 in
theorem gw1259 : Jvm.Cond.methodLink "LeftAnswersLaw" 47 ⟨"LeftAnswersModel", "skill", "(II)I"⟩ ∈ gtb := gtb_t7 (i := 208) rfl (by decide +kernel)
set_option maxRecDepth 100000 in
theorem gw1260 : Jvm.Cond.selects "LeftAnswersModel" ⟨"LeftAnswersModel", "skill", "(II)I"⟩ ⟨"LeftAnswersModel", "skill", "(II)I"⟩ ∈ gtb := gtb_t7 (i := 210) rfl (by decide +kernel)
set_option maxRecDepth 100000 in
theorem gw1261 : Jvm.Cond.code ⟨"LeftAnswersModel", "skill", "(II)I"⟩ prog_15_method_53_code 3 (some .int) ∈ gtb := gtb_t7 (i := 211) rfl (by decide +kernel)
set_option maxRecDepth 100000 in
theorem gw1262 : Jvm.Cond.instanceMethod ⟨"LeftAnswersModel", "skill", "(II)I"⟩ ∈ gtb := gtb_t7 (i := 209) rfl (by decide +kernel)
set_option maxRecDepth 100000 in
theorem gw1263 : Jvm.Cond.methodLink "LeftAnswersLaw" 48 ⟨"LeftAnswers", "deed", "(II)I"⟩ ∈ gtb := gtb_t3 (i := 173) rfl (by decide +kernel)
set_option maxRecDepth 100000 in
theorem gw1264 : Jvm.Cond.selects "LeftAnswers" ⟨"LeftAnswers", "deed", "(II)I"⟩ ⟨"LeftAnswers", "deed", "(II)I"⟩ ∈ gtb := gtb_t3 (i := 175) rfl (by decide +kernel)
set_option maxRecDepth 100000 in
theorem gw1265 : Jvm.Cond.code ⟨"LeftAnswers", "deed", "(II)I"⟩ prog_1_method_8_code 3 (some .int) ∈ gtb := gtb_t3 (i := 176) rfl (by decide +kernel)
set_option maxRecDepth 100000 in
theorem gw1266 : Jvm.Cond.instanceMethod ⟨"LeftAnswers", "deed", "(II)I"⟩ ∈ gtb := gtb_t3 (i := 174) rfl (by decide +kernel)
set_option maxRecDepth 100000 in
theorem gw1267 : Jvm.Cond.methodLink "LeftAnswersLaw" 51 ⟨"LeftAnswersModel", "deed", "(II)I"⟩ ∈ gtb := gtb_t7 (i := 216) rfl (by decide +kernel)
set_option maxRecDepth 100000 in
theorem gw1268 : Jvm.Cond.selects "LeftAnswersModel" ⟨"LeftAnswersModel", "deed", "(II)I"⟩ ⟨"LeftAnswersModel", "deed", "(II)I"⟩ ∈ gtb := gtb_t7 (i := 218) rfl (by decide +kernel)
set_option maxRecDepth 100000 in
theorem gw1269 : Jvm.Cond.code ⟨"LeftAnswersModel", "deed", "(II)I"⟩ prog_15_method_54_code 3 (some .int) ∈ gtb := gtb_t7 (i := 219) rfl (by decide +kernel)
set_option maxRecDepth 100000 in
theorem gw1270 : Jvm.Cond.instanceMethod ⟨"LeftAnswersModel", "deed", "(II)I"⟩ ∈ gtb := gtb_t7 (i := 217) rfl (by decide +kernel)
set_option maxRecDepth 100000 in
theorem gw1271 : Jvm.Cond.methodLink "LeftAnswersLaw" 52 ⟨"LeftAnswers", "now", "(I)I"⟩ ∈ gtb := gtb_t3 (i := 185) rfl (by decide +kernel)
set_option maxRecDepth 100000 in
theorem gw1272 : Jvm.Cond.selects "LeftAnswers" ⟨"LeftAnswers", "now", "(I)I"⟩ ⟨"LeftAnswers", "now", "(I)I"⟩ ∈ gtb := gtb_t3 (i := 187) rfl (by decide +kernel)
set_option maxRecDepth 100000 in
theorem gw1273 : Jvm.Cond.code ⟨"LeftAnswers", "now", "(I)I"⟩ prog_1_method_9_code 2 (some .int) ∈ gtb := gtb_t3 (i := 188) rfl (by decide +kernel)
set_option maxRecDepth 100000 in
theorem gw1274 : Jvm.Cond.instanceMethod ⟨"LeftAnswers", "now", "(I)I"⟩ ∈ gtb := gtb_t3 (i := 186) rfl (by decide +kernel)
set_option maxRecDepth 100000 in
theorem gw1275 : Jvm.Cond.methodLink "LeftAnswersLaw" 56 ⟨"LeftAnswersModel", "now", "(I)I"⟩ ∈ gtb := gtb_t7 (i := 224) rfl (by decide +kernel)
set_option maxRecDepth 100000 in
theorem gw1276 : Jvm.Cond.selects "LeftAnswersModel" ⟨"LeftAnswersModel", "now", "(I)I"⟩ ⟨"LeftAnswersModel", "now", "(I)I"⟩ ∈ gtb := gtb_t7 (i := 226) rfl (by decide +kernel)
set_option maxRecDepth 100000 in
theorem gw1277 : Jvm.Cond.code ⟨"LeftAnswersModel", "now", "(I)I"⟩ prog_15_method_56_code 4 (some .int) ∈ gtb := gtb_t7 (i := 227) rfl (by decide +kernel)
set_option maxRecDepth 100000 in
theorem gw1278 : Jvm.Cond.instanceMethod ⟨"LeftAnswersModel", "now", "(I)I"⟩ ∈ gtb := gtb_t7 (i := 225) rfl (by decide +kernel)
set_option maxRecDepth 100000 in
theorem gw1279 : Jvm.Cond.methodLink "LeftAnswersLaw" 57 ⟨"LeftAnswers", "does", "(III)I"⟩ ∈ gtb := gtb_t3 (i := 214) rfl (by decide +kernel)
set_option maxRecDepth 100000 in
theorem gw1280 : Jvm.Cond.selects "LeftAnswers" ⟨"LeftAnswers", "does", "(III)I"⟩ ⟨"LeftAnswers", "does", "(III)I"⟩ ∈ gtb := gtb_t3 (i := 216) rfl (by decide +kernel)
set_option maxRecDepth 100000 in
theorem gw1281 : Jvm.Cond.code ⟨"LeftAnswers", "does", "(III)I"⟩ prog_1_method_10_code 4 (some .int) ∈ gtb := gtb_t3 (i := 217) rfl (by decide +kernel)
set_option maxRecDepth 100000 in
theorem gw1282 : Jvm.Cond.instanceMethod ⟨"LeftAnswers", "does", "(III)I"⟩ ∈ gtb := gtb_t3 (i := 215) rfl (by decide +kernel)
set_option maxRecDepth 100000 in
theorem gw1283 : Jvm.Cond.methodLink "LeftAnswersLaw" 61 ⟨"LeftAnswersModel", "does", "(III)I"⟩ ∈ gtb := gtb_t8 (i := 0) rfl (by decide +kernel)
set_option maxRecDepth 100000 in
theorem gw1284 : Jvm.Cond.selects "LeftAnswersModel" ⟨"LeftAnswersModel", "does", "(III)I"⟩ ⟨"LeftAnswersModel", "does", "(III)I"⟩ ∈ gtb := gtb_t8 (i := 2) rfl (by decide +kernel)
set_option maxRecDepth 100000 in
theorem gw1285 : Jvm.Cond.code ⟨"LeftAnswersModel", "does", "(III)I"⟩ prog_15_method_64_code 4 (some .int) ∈ gtb := gtb_t8 (i := 3) rfl (by decide +kernel)
set_option maxRecDepth 100000 in
theorem gw1286 : Jvm.Cond.instanceMethod ⟨"LeftAnswersModel", "does", "(III)I"⟩ ∈ gtb := gtb_t8 (i := 1) rfl (by decide +kernel)
set_option maxRecDepth 100000 in
theorem gw1287 : Jvm.Cond.methodLink "LeftAnswersLaw" 62 ⟨"LeftAnswers", "wed", "(II)I"⟩ ∈ gtb := gtb_t4 (i := 57) rfl (by decide +kernel)
set_option maxRecDepth 100000 in
theorem gw1288 : Jvm.Cond.selects "LeftAnswers" ⟨"LeftAnswers", "wed", "(II)I"⟩ ⟨"LeftAnswers", "wed", "(II)I"⟩ ∈ gtb := gtb_t4 (i := 59) rfl (by decide +kernel)
set_option maxRecDepth 100000 in
theorem gw1289 : Jvm.Cond.code ⟨"LeftAnswers", "wed", "(II)I"⟩ prog_1_method_11_code 3 (some .int) ∈ gtb := gtb_t4 (i := 60) rfl (by decide +kernel)
set_option maxRecDepth 100000 in
theorem gw1290 : Jvm.Cond.instanceMethod ⟨"LeftAnswers", "wed", "(II)I"⟩ ∈ gtb := gtb_t4 (i := 58) rfl (by decide +kernel)
set_option maxRecDepth 100000 in
theorem gw1291 : Jvm.Cond.methodLink "LeftAnswersLaw" 65 ⟨"LeftAnswersModel", "wed", "(II)I"⟩ ∈ gtb := gtb_t8 (i := 34) rfl (by decide +kernel)
set_option maxRecDepth 100000 in
theorem gw1292 : Jvm.Cond.selects "LeftAnswersModel" ⟨"LeftAnswersModel", "wed", "(II)I"⟩ ⟨"LeftAnswersModel", "wed", "(II)I"⟩ ∈ gtb := gtb_t8 (i := 36) rfl (by decide +kernel)
set_option maxRecDepth 100000 in
theorem gw1293 : Jvm.Cond.code ⟨"LeftAnswersModel", "wed", "(II)I"⟩ prog_15_method_65_code 3 (some .int) ∈ gtb := gtb_t8 (i := 37) rfl (by decide +kernel)
set_option maxRecDepth 100000 in
theorem gw1294 : Jvm.Cond.instanceMethod ⟨"LeftAnswersModel", "wed", "(II)I"⟩ ∈ gtb := gtb_t8 (i := 35) rfl (by decide +kernel)
set_option maxRecDepth 100000 in
theorem gw1295 : Jvm.Cond.methodLink "LeftAnswersLaw" 66 ⟨"LeftAnswers", "part", "(I)I"⟩ ∈ gtb := gtb_t4 (i := 61) rfl (by decide +kernel)
set_option maxRecDepth 100000 in
theorem gw1296 : Jvm.Cond.selects "LeftAnswers" ⟨"LeftAnswers", "part", "(I)I"⟩ ⟨"LeftAnswers", "part", "(I)I"⟩ ∈ gtb := gtb_t4 (i := 63) rfl (by decide +kernel)
set_option maxRecDepth 100000 in
theorem gw1297 : Jvm.Cond.code ⟨"LeftAnswers", "part", "(I)I"⟩ prog_1_method_12_code 2 (some .int) ∈ gtb := gtb_t4 (i := 64) rfl (by decide +kernel)
set_option maxRecDepth 100000 in
theorem gw1298 : Jvm.Cond.instanceMethod ⟨"LeftAnswers", "part", "(I)I"⟩ ∈ gtb := gtb_t4 (i := 62) rfl (by decide +kernel)
set_option maxRecDepth 100000 in
theorem gw1299 : Jvm.Cond.methodLink "LeftAnswersLaw" 69 ⟨"LeftAnswersModel", "part", "(I)I"⟩ ∈ gtb := gtb_t8 (i := 38) rfl (by decide +kernel)
set_option maxRecDepth 100000 in
theorem gw1300 : Jvm.Cond.selects "LeftAnswersModel" ⟨"LeftAnswersModel", "part", "(I)I"⟩ ⟨"LeftAnswersModel", "part", "(I)I"⟩ ∈ gtb := gtb_t8 (i := 40) rfl (by decide +kernel)
set_option maxRecDepth 100000 in
theorem gw1301 : Jvm.Cond.code ⟨"LeftAnswersModel", "part", "(I)I"⟩ prog_15_method_66_code 2 (some .int) ∈ gtb := gtb_t8 (i := 41) rfl (by decide +kernel)
set_option maxRecDepth 100000 in
theorem gw1302 : Jvm.Cond.instanceMethod ⟨"LeftAnswersModel", "part", "(I)I"⟩ ∈ gtb := gtb_t8 (i := 39) rfl (by decide +kernel)
set_option maxRecDepth 100000 in
theorem gw1303 : Jvm.Cond.methodLink "LeftAnswersLaw" 70 ⟨"LeftAnswers", "glove", "(I)I"⟩ ∈ gtb := gtb_t4 (i := 65) rfl (by decide +kernel)
set_option maxRecDepth 100000 in
theorem gw1304 : Jvm.Cond.selects "LeftAnswers" ⟨"LeftAnswers", "glove", "(I)I"⟩ ⟨"LeftAnswers", "glove", "(I)I"⟩ ∈ gtb := gtb_t4 (i := 67) rfl (by decide +kernel)
set_option maxRecDepth 100000 in
theorem gw1305 : Jvm.Cond.code ⟨"LeftAnswers", "glove", "(I)I"⟩ prog_1_method_13_code 2 (some .int) ∈ gtb := gtb_t4 (i := 68) rfl (by decide +kernel)
set_option maxRecDepth 100000 in
theorem gw1306 : Jvm.Cond.instanceMethod ⟨"LeftAnswers", "glove", "(I)I"⟩ ∈ gtb := gtb_t4 (i := 66) rfl (by decide +kernel)
set_option maxRecDepth 100000 in
theorem gw1307 : Jvm.Cond.methodLink "LeftAnswersLaw" 73 ⟨"LeftAnswersModel", "glove", "(I)I"⟩ ∈ gtb := gtb_t8 (i := 42) rfl (by decide +kernel)
set_option maxRecDepth 100000 in
theorem gw1308 : Jvm.Cond.selects "LeftAnswersModel" ⟨"LeftAnswersModel", "glove", "(I)I"⟩ ⟨"LeftAnswersModel", "glove", "(I)I"⟩ ∈ gtb := gtb_t8 (i := 44) rfl (by decide +kernel)
set_option maxRecDepth 100000 in
theorem gw1309 : Jvm.Cond.code ⟨"LeftAnswersModel", "glove", "(I)I"⟩ prog_15_method_67_code 2 (some .int) ∈ gtb := gtb_t8 (i := 45) rfl (by decide +kernel)
set_option maxRecDepth 100000 in
theorem gw1310 : Jvm.Cond.instanceMethod ⟨"LeftAnswersModel", "glove", "(I)I"⟩ ∈ gtb := gtb_t8 (i := 43) rfl (by decide +kernel)
set_option maxRecDepth 100000 in
theorem gw1311 : Jvm.Cond.methodLink "LeftAnswersLaw" 74 ⟨"LeftAnswers", "bare", "(I)I"⟩ ∈ gtb := gtb_t4 (i := 69) rfl (by decide +kernel)
set_option maxRecDepth 100000 in
theorem gw1312 : Jvm.Cond.selects "LeftAnswers" ⟨"LeftAnswers", "bare", "(I)I"⟩ ⟨"LeftAnswers", "bare", "(I)I"⟩ ∈ gtb := gtb_t4 (i := 71) rfl (by decide +kernel)
set_option maxRecDepth 100000 in
theorem gw1313 : Jvm.Cond.code ⟨"LeftAnswers", "bare", "(I)I"⟩ prog_1_method_14_code 2 (some .int) ∈ gtb := gtb_t4 (i := 72) rfl (by decide +kernel)
set_option maxRecDepth 100000 in
theorem gw1314 : Jvm.Cond.instanceMethod ⟨"LeftAnswers", "bare", "(I)I"⟩ ∈ gtb := gtb_t4 (i := 70) rfl (by decide +kernel)
set_option maxRecDepth 100000 in
theorem gw1315 : Jvm.Cond.methodLink "LeftAnswersLaw" 77 ⟨"LeftAnswersModel", "bare", "(I)I"⟩ ∈ gtb := gtb_t8 (i := 46) rfl (by decide +kernel)
set_option maxRecDepth 100000 in
theorem gw1316 : Jvm.Cond.selects "LeftAnswersModel" ⟨"LeftAnswersModel", "bare", "(I)I"⟩ ⟨"LeftAnswersModel", "bare", "(I)I"⟩ ∈ gtb := gtb_t8 (i := 48) rfl (by decide +kernel)
set_option maxRecDepth 100000 in
theorem gw1317 : Jvm.Cond.code ⟨"LeftAnswersModel", "bare", "(I)I"⟩ prog_15_method_68_code 2 (some .int) ∈ gtb := gtb_t8 (i := 49) rfl (by decide +kernel)
set_option maxRecDepth 100000 in
theorem gw1318 : Jvm.Cond.instanceMethod ⟨"LeftAnswersModel", "bare", "(I)I"⟩ ∈ gtb := gtb_t8 (i := 47) rfl (by decide +kernel)
set_option maxRecDepth 100000 in
theorem gw1319 : Jvm.Cond.methodLink "LeftAnswersLaw" 78 ⟨"LeftAnswers", "days", "(I)I"⟩ ∈ gtb := gtb_t4 (i := 73) rfl (by decide +kernel)
set_option maxRecDepth 100000 in
theorem gw1320 : Jvm.Cond.selects "LeftAnswers" ⟨"LeftAnswers", "days", "(I)I"⟩ ⟨"LeftAnswers", "days", "(I)I"⟩ ∈ gtb := gtb_t4 (i := 75) rfl (by decide +kernel)
set_option maxRecDepth 100000 in
theorem gw1321 : Jvm.Cond.code ⟨"LeftAnswers", "days", "(I)I"⟩ prog_1_method_15_code 3 (some .int) ∈ gtb := gtb_t4 (i := 76) rfl (by decide +kernel)
set_option maxRecDepth 100000 in
theorem gw1322 : Jvm.Cond.instanceMethod ⟨"LeftAnswers", "days", "(I)I"⟩ ∈ gtb := gtb_t4 (i := 74) rfl (by decide +kernel)
set_option maxRecDepth 100000 in
theorem gw1323 : Jvm.Cond.methodLink "LeftAnswersLaw" 81 ⟨"LeftAnswersModel", "days", "(I)I"⟩ ∈ gtb := gtb_t8 (i := 54) rfl (by decide +kernel)
set_option maxRecDepth 100000 in
theorem gw1324 : Jvm.Cond.selects "LeftAnswersModel" ⟨"LeftAnswersModel", "days", "(I)I"⟩ ⟨"LeftAnswersModel", "days", "(I)I"⟩ ∈ gtb := gtb_t8 (i := 56) rfl (by decide +kernel)
set_option maxRecDepth 100000 in
theorem gw1325 : Jvm.Cond.code ⟨"LeftAnswersModel", "days", "(I)I"⟩ prog_15_method_72_code 2 (some .int) ∈ gtb := gtb_t8 (i := 57) rfl (by decide +kernel)
set_option maxRecDepth 100000 in
theorem gw1326 : Jvm.Cond.instanceMethod ⟨"LeftAnswersModel", "days", "(I)I"⟩ ∈ gtb := gtb_t8 (i := 55) rfl (by decide +kernel)
set_option maxRecDepth 100000 in
theorem gw1327 : Jvm.Cond.methodLink "LeftAnswersLaw" 82 ⟨"LeftAnswers", "undo", "()I"⟩ ∈ gtb := gtb_t4 (i := 80) rfl (by decide +kernel)
set_option maxRecDepth 100000 in
theorem gw1328 : Jvm.Cond.selects "LeftAnswers" ⟨"LeftAnswers", "undo", "()I"⟩ ⟨"LeftAnswers", "undo", "()I"⟩ ∈ gtb := gtb_t4 (i := 82) rfl (by decide +kernel)
set_option maxRecDepth 100000 in
theorem gw1329 : Jvm.Cond.code ⟨"LeftAnswers", "undo", "()I"⟩ prog_1_method_16_code 1 (some .int) ∈ gtb := gtb_t4 (i := 83) rfl (by decide +kernel)
set_option maxRecDepth 100000 in
theorem gw1330 : Jvm.Cond.instanceMethod ⟨"LeftAnswers", "undo", "()I"⟩ ∈ gtb := gtb_t4 (i := 81) rfl (by decide +kernel)
set_option maxRecDepth 100000 in
theorem gw1331 : Jvm.Cond.methodLink "LeftAnswersLaw" 85 ⟨"LeftAnswersModel", "undo", "()I"⟩ ∈ gtb := gtb_t8 (i := 50) rfl (by decide +kernel)
set_option maxRecDepth 100000 in
theorem gw1332 : Jvm.Cond.selects "LeftAnswersModel" ⟨"LeftAnswersModel", "undo", "()I"⟩ ⟨"LeftAnswersModel", "undo", "()I"⟩ ∈ gtb := gtb_t8 (i := 52) rfl (by decide +kernel)
set_option maxRecDepth 100000 in
theorem gw1333 : Jvm.Cond.code ⟨"LeftAnswersModel", "undo", "()I"⟩ prog_15_method_69_code 2 (some .int) ∈ gtb := gtb_t8 (i := 53) rfl (by decide +kernel)
set_option maxRecDepth 100000 in
theorem gw1334 : Jvm.Cond.instanceMethod ⟨"LeftAnswersModel", "undo", "()I"⟩ ∈ gtb := gtb_t8 (i := 51) rfl (by decide +kernel)
set_option maxRecDepth 100000 in
theorem gw1335 : Jvm.Cond.methodLink "LeftAnswersLaw" 86 ⟨"LeftAnswers", "able", "(II)I"⟩ ∈ gtb := gtb_t4 (i := 88) rfl (by decide +kernel)
set_option maxRecDepth 100000 in
theorem gw1336 : Jvm.Cond.selects "LeftAnswers" ⟨"LeftAnswers", "able", "(II)I"⟩ ⟨"LeftAnswers", "able", "(II)I"⟩ ∈ gtb := gtb_t4 (i := 90) rfl (by decide +kernel)
set_option maxRecDepth 100000 in
theorem gw1337 : Jvm.Cond.code ⟨"LeftAnswers", "able", "(II)I"⟩ prog_1_method_17_code 3 (some .int) ∈ gtb := gtb_t4 (i := 91) rfl (by decide +kernel)
set_option maxRecDepth 100000 in
theorem gw1338 : Jvm.Cond.instanceMethod ⟨"LeftAnswers", "able", "(II)I"⟩ ∈ gtb := gtb_t4 (i := 89) rfl (by decide +kernel)
set_option maxRecDepth 100000 in
theorem gw1339 : Jvm.Cond.methodLink "LeftAnswersLaw" 89 ⟨"LeftAnswersModel", "able", "(II)I"⟩ ∈ gtb := gtb_t8 (i := 66) rfl (by decide +kernel)
set_option maxRecDepth 100000 in
theorem gw1340 : Jvm.Cond.selects "LeftAnswersModel" ⟨"LeftAnswersModel", "able", "(II)I"⟩ ⟨"LeftAnswersModel", "able", "(II)I"⟩ ∈ gtb := gtb_t8 (i := 68) rfl (by decide +kernel)
set_option maxRecDepth 100000 in
theorem gw1341 : Jvm.Cond.code ⟨"LeftAnswersModel", "able", "(II)I"⟩ prog_15_method_73_code 5 (some .int) ∈ gtb := gtb_t8 (i := 69) rfl (by decide +kernel)
set_option maxRecDepth 100000 in
theorem gw1342 : Jvm.Cond.instanceMethod ⟨"LeftAnswersModel", "able", "(II)I"⟩ ∈ gtb := gtb_t8 (i := 67) rfl (by decide +kernel)
set_option maxRecDepth 100000 in
theorem gw1343 : Jvm.Cond.methodLink "LeftAnswersLaw" 90 ⟨"LeftAnswers", "parted", "()I"⟩ ∈ gtb := gtb_t4 (i := 96) rfl (by decide +kernel)
set_option maxRecDepth 100000 in
theorem gw1344 : Jvm.Cond.selects "LeftAnswers" ⟨"LeftAnswers", "parted", "()I"⟩ ⟨"LeftAnswers", "parted", "()I"⟩ ∈ gtb := gtb_t4 (i := 98) rfl (by decide +kernel)
set_option maxRecDepth 100000 in
theorem gw1345 : Jvm.Cond.code ⟨"LeftAnswers", "parted", "()I"⟩ prog_1_method_18_code 4 (some .int) ∈ gtb := gtb_t4 (i := 99) rfl (by decide +kernel)
set_option maxRecDepth 100000 in
theorem gw1346 : Jvm.Cond.instanceMethod ⟨"LeftAnswers", "parted", "()I"⟩ ∈ gtb := gtb_t4 (i := 97) rfl (by decide +kernel)
set_option maxRecDepth 100000 in
theorem gw1347 : Jvm.Cond.methodLink "LeftAnswersLaw" 93 ⟨"LeftAnswersModel", "parted", "()I"⟩ ∈ gtb := gtb_t8 (i := 70) rfl (by decide +kernel)
set_option maxRecDepth 100000 in
theorem gw1348 : Jvm.Cond.selects "LeftAnswersModel" ⟨"LeftAnswersModel", "parted", "()I"⟩ ⟨"LeftAnswersModel", "parted", "()I"⟩ ∈ gtb := gtb_t8 (i := 72) rfl (by decide +kernel)
set_option maxRecDepth 100000 in
theorem gw1349 : Jvm.Cond.code ⟨"LeftAnswersModel", "parted", "()I"⟩ prog_15_method_76_code 3 (some .int) ∈ gtb := gtb_t8 (i := 73) rfl (by decide +kernel)
end
section
set_option maxRecDepth 100000 in
theorem gw1350 : Jvm.Cond.instanceMethod ⟨"LeftAnswersModel", "parted", "()I"⟩ ∈ gtb := gtb_t8 (i := 71) rfl (by decide +kernel)
set_option maxRecDepth 100000 in
theorem gw1351 : Jvm.Cond.methodLink "LeftAnswersLaw" 94 ⟨"LeftAnswers", "partedAt", "(II)I"⟩ ∈ gtb := gtb_t4 (i := 134) rfl (by decide +kernel)
set_option maxRecDepth 100000 in
theorem gw1352 : Jvm.Cond.selects "LeftAnswers" ⟨"LeftAnswers", "partedAt", "(II)I"⟩ ⟨"LeftAnswers", "partedAt", "(II)I"⟩ ∈ gtb := gtb_t4 (i := 136) rfl (by decide +kernel)
set_option maxRecDepth 100000 in
theorem gw1353 : Jvm.Cond.code ⟨"LeftAnswers", "partedAt", "(II)I"⟩ prog_1_method_19_code 4 (some .int) ∈ gtb := gtb_t4 (i := 137) rfl (by decide +kernel)
set_option maxRecDepth 100000 in
theorem gw1354 : Jvm.Cond.instanceMethod ⟨"LeftAnswers", "partedAt", "(II)I"⟩ ∈ gtb := gtb_t4 (i := 135) rfl (by decide +kernel)
set_option maxRecDepth 100000 in
theorem gw1355 : Jvm.Cond.methodLink "LeftAnswersLaw" 97 ⟨"LeftAnswersModel", "partedAt", "(II)I"⟩ ∈ gtb := gtb_t8 (i := 82) rfl (by decide +kernel)
set_option maxRecDepth 100000 in
theorem gw1356 : Jvm.Cond.selects "LeftAnswersModel" ⟨"LeftAnswersModel", "partedAt", "(II)I"⟩ ⟨"LeftAnswersModel", "partedAt", "(II)I"⟩ ∈ gtb := gtb_t8 (i := 84) rfl (by decide +kernel)
set_option maxRecDepth 100000 in
theorem gw1357 : Jvm.Cond.code ⟨"LeftAnswersModel", "partedAt", "(II)I"⟩ prog_15_method_77_code 3 (some .int) ∈ gtb := gtb_t8 (i := 85) rfl (by decide +kernel)
set_option maxRecDepth 100000 in
theorem gw1358 : Jvm.Cond.instanceMethod ⟨"LeftAnswersModel", "partedAt", "(II)I"⟩ ∈ gtb := gtb_t8 (i := 83) rfl (by decide +kernel)
set_option maxRecDepth 100000 in
theorem gw1359 : Jvm.Cond.methodLink "LeftAnswersLaw" 98 ⟨"LeftAnswers", "fits", "()I"⟩ ∈ gtb := gtb_t4 (i := 142) rfl (by decide +kernel)
set_option maxRecDepth 100000 in
theorem gw1360 : Jvm.Cond.selects "LeftAnswers" ⟨"LeftAnswers", "fits", "()I"⟩ ⟨"LeftAnswers", "fits", "()I"⟩ ∈ gtb := gtb_t4 (i := 144) rfl (by decide +kernel)
set_option maxRecDepth 100000 in
theorem gw1361 : Jvm.Cond.code ⟨"LeftAnswers", "fits", "()I"⟩ prog_1_method_20_code 6 (some .int) ∈ gtb := gtb_t4 (i := 145) rfl (by decide +kernel)
set_option maxRecDepth 100000 in
theorem gw1362 : Jvm.Cond.instanceMethod ⟨"LeftAnswers", "fits", "()I"⟩ ∈ gtb := gtb_t4 (i := 143) rfl (by decide +kernel)
set_option maxRecDepth 100000 in
theorem gw1363 : Jvm.Cond.methodLink "LeftAnswersLaw" 101 ⟨"LeftAnswersModel", "fits", "()I"⟩ ∈ gtb := gtb_t8 (i := 86) rfl (by decide +kernel)
set_option maxRecDepth 100000 in
theorem gw1364 : Jvm.Cond.selects "LeftAnswersModel" ⟨"LeftAnswersModel", "fits", "()I"⟩ ⟨"LeftAnswersModel", "fits", "()I"⟩ ∈ gtb := gtb_t8 (i := 88) rfl (by decide +kernel)
set_option maxRecDepth 100000 in
theorem gw1365 : Jvm.Cond.code ⟨"LeftAnswersModel", "fits", "()I"⟩ prog_15_method_80_code 6 (some .int) ∈ gtb := gtb_t8 (i := 89) rfl (by decide +kernel)
set_option maxRecDepth 100000 in
theorem gw1366 : Jvm.Cond.instanceMethod ⟨"LeftAnswersModel", "fits", "()I"⟩ ∈ gtb := gtb_t8 (i := 87) rfl (by decide +kernel)
set_option maxRecDepth 100000 in
theorem gw1367 : Jvm.Cond.methodLink "LeftAnswersLaw" 102 ⟨"LeftAnswers", "fitAt", "(I)I"⟩ ∈ gtb := gtb_t4 (i := 179) rfl (by decide +kernel)
set_option maxRecDepth 100000 in
theorem gw1368 : Jvm.Cond.selects "LeftAnswers" ⟨"LeftAnswers", "fitAt", "(I)I"⟩ ⟨"LeftAnswers", "fitAt", "(I)I"⟩ ∈ gtb := gtb_t4 (i := 181) rfl (by decide +kernel)
set_option maxRecDepth 100000 in
theorem gw1369 : Jvm.Cond.code ⟨"LeftAnswers", "fitAt", "(I)I"⟩ prog_1_method_21_code 2 (some .int) ∈ gtb := gtb_t4 (i := 182) rfl (by decide +kernel)
set_option maxRecDepth 100000 in
theorem gw1370 : Jvm.Cond.instanceMethod ⟨"LeftAnswers", "fitAt", "(I)I"⟩ ∈ gtb := gtb_t4 (i := 180) rfl (by decide +kernel)
set_option maxRecDepth 100000 in
theorem gw1371 : Jvm.Cond.methodLink "LeftAnswersLaw" 105 ⟨"LeftAnswersModel", "fitAt", "(I)I"⟩ ∈ gtb := gtb_t8 (i := 105) rfl (by decide +kernel)
set_option maxRecDepth 100000 in
theorem gw1372 : Jvm.Cond.selects "LeftAnswersModel" ⟨"LeftAnswersModel", "fitAt", "(I)I"⟩ ⟨"LeftAnswersModel", "fitAt", "(I)I"⟩ ∈ gtb := gtb_t8 (i := 107) rfl (by decide +kernel)
set_option maxRecDepth 100000 in
theorem gw1373 : Jvm.Cond.code ⟨"LeftAnswersModel", "fitAt", "(I)I"⟩ prog_15_method_81_code 2 (some .int) ∈ gtb := gtb_t8 (i := 108) rfl (by decide +kernel)
set_option maxRecDepth 100000 in
theorem gw1374 : Jvm.Cond.instanceMethod ⟨"LeftAnswersModel", "fitAt", "(I)I"⟩ ∈ gtb := gtb_t8 (i := 106) rfl (by decide +kernel)
set_option maxRecDepth 100000 in
theorem gw1375 : Jvm.Cond.methodLink "LeftAnswersLaw" 106 ⟨"LeftAnswers", "test", "()I"⟩ ∈ gtb := gtb_t4 (i := 186) rfl (by decide +kernel)
set_option maxRecDepth 100000 in
theorem gw1376 : Jvm.Cond.selects "LeftAnswers" ⟨"LeftAnswers", "test", "()I"⟩ ⟨"LeftAnswers", "test", "()I"⟩ ∈ gtb := gtb_t4 (i := 188) rfl (by decide +kernel)
set_option maxRecDepth 100000 in
theorem gw1377 : Jvm.Cond.code ⟨"LeftAnswers", "test", "()I"⟩ prog_1_method_22_code 1 (some .int) ∈ gtb := gtb_t4 (i := 189) rfl (by decide +kernel)
set_option maxRecDepth 100000 in
theorem gw1378 : Jvm.Cond.instanceMethod ⟨"LeftAnswers", "test", "()I"⟩ ∈ gtb := gtb_t4 (i := 187) rfl (by decide +kernel)
set_option maxRecDepth 100000 in
theorem gw1379 : Jvm.Cond.methodLink "LeftAnswersLaw" 109 ⟨"LeftAnswersModel", "test", "()I"⟩ ∈ gtb := gtb_t8 (i := 109) rfl (by decide +kernel)
set_option maxRecDepth 100000 in
theorem gw1380 : Jvm.Cond.selects "LeftAnswersModel" ⟨"LeftAnswersModel", "test", "()I"⟩ ⟨"LeftAnswersModel", "test", "()I"⟩ ∈ gtb := gtb_t8 (i := 111) rfl (by decide +kernel)
set_option maxRecDepth 100000 in
theorem gw1381 : Jvm.Cond.code ⟨"LeftAnswersModel", "test", "()I"⟩ prog_15_method_82_code 1 (some .int) ∈ gtb := gtb_t8 (i := 112) rfl (by decide +kernel)
set_option maxRecDepth 100000 in
theorem gw1382 : Jvm.Cond.instanceMethod ⟨"LeftAnswersModel", "test", "()I"⟩ ∈ gtb := gtb_t8 (i := 110) rfl (by decide +kernel)
set_option maxRecDepth 100000 in
theorem gw1383 : Jvm.Cond.methodLink "LeftAnswersLaw" 110 ⟨"LeftAnswers", "hears", "(II)I"⟩ ∈ gtb := gtb_t4 (i := 190) rfl (by decide +kernel)
set_option maxRecDepth 100000 in
theorem gw1384 : Jvm.Cond.selects "LeftAnswers" ⟨"LeftAnswers", "hears", "(II)I"⟩ ⟨"LeftAnswers", "hears", "(II)I"⟩ ∈ gtb := gtb_t4 (i := 192) rfl (by decide +kernel)
set_option maxRecDepth 100000 in
theorem gw1385 : Jvm.Cond.code ⟨"LeftAnswers", "hears", "(II)I"⟩ prog_1_method_23_code 3 (some .int) ∈ gtb := gtb_t4 (i := 193) rfl (by decide +kernel)
set_option maxRecDepth 100000 in
theorem gw1386 : Jvm.Cond.instanceMethod ⟨"LeftAnswers", "hears", "(II)I"⟩ ∈ gtb := gtb_t4 (i := 191) rfl (by decide +kernel)
set_option maxRecDepth 100000 in
theorem gw1387 : Jvm.Cond.methodLink "LeftAnswersLaw" 113 ⟨"LeftAnswersModel", "hears", "(II)I"⟩ ∈ gtb := gtb_t8 (i := 113) rfl (by decide +kernel)
set_option maxRecDepth 100000 in
theorem gw1388 : Jvm.Cond.selects "LeftAnswersModel" ⟨"LeftAnswersModel", "hears", "(II)I"⟩ ⟨"LeftAnswersModel", "hears", "(II)I"⟩ ∈ gtb := gtb_t8 (i := 115) rfl (by decide +kernel)
set_option maxRecDepth 100000 in
theorem gw1389 : Jvm.Cond.code ⟨"LeftAnswersModel", "hears", "(II)I"⟩ prog_15_method_83_code 7 (some .int) ∈ gtb := gtb_t8 (i := 116) rfl (by decide +kernel)
set_option maxRecDepth 100000 in
theorem gw1390 : Jvm.Cond.instanceMethod ⟨"LeftAnswersModel", "hears", "(II)I"⟩ ∈ gtb := gtb_t8 (i := 114) rfl (by decide +kernel)
set_option maxRecDepth 100000 in
theorem gw1391 : Jvm.Cond.methodLink "LeftAnswersLaw" 114 ⟨"LeftAnswers", "guards", "()I"⟩ ∈ gtb := gtb_t4 (i := 202) rfl (by decide +kernel)
set_option maxRecDepth 100000 in
theorem gw1392 : Jvm.Cond.selects "LeftAnswers" ⟨"LeftAnswers", "guards", "()I"⟩ ⟨"LeftAnswers", "guards", "()I"⟩ ∈ gtb := gtb_t4 (i := 204) rfl (by decide +kernel)
set_option maxRecDepth 100000 in
theorem gw1393 : Jvm.Cond.code ⟨"LeftAnswers", "guards", "()I"⟩ prog_1_method_24_code 1 (some .int) ∈ gtb := gtb_t4 (i := 205) rfl (by decide +kernel)
set_option maxRecDepth 100000 in
theorem gw1394 : Jvm.Cond.instanceMethod ⟨"LeftAnswers", "guards", "()I"⟩ ∈ gtb := gtb_t4 (i := 203) rfl (by decide +kernel)
set_option maxRecDepth 100000 in
theorem gw1395 : Jvm.Cond.methodLink "LeftAnswersLaw" 117 ⟨"LeftAnswersModel", "guards", "()I"⟩ ∈ gtb := gtb_t8 (i := 117) rfl (by decide +kernel)
set_option maxRecDepth 100000 in
theorem gw1396 : Jvm.Cond.selects "LeftAnswersModel" ⟨"LeftAnswersModel", "guards", "()I"⟩ ⟨"LeftAnswersModel", "guards", "()I"⟩ ∈ gtb := gtb_t8 (i := 119) rfl (by decide +kernel)
set_option maxRecDepth 100000 in
theorem gw1397 : Jvm.Cond.code ⟨"LeftAnswersModel", "guards", "()I"⟩ prog_15_method_84_code 6 (some .int) ∈ gtb := gtb_t8 (i := 120) rfl (by decide +kernel)
set_option maxRecDepth 100000 in
theorem gw1398 : Jvm.Cond.instanceMethod ⟨"LeftAnswersModel", "guards", "()I"⟩ ∈ gtb := gtb_t8 (i := 118) rfl (by decide +kernel)
set_option maxRecDepth 100000 in
theorem gw1399 : Jvm.Cond.methodLink "LeftAnswersLaw" 118 ⟨"LeftAnswers", "guarding", "()I"⟩ ∈ gtb := gtb_t4 (i := 214) rfl (by decide +kernel)
set_option maxRecDepth 100000 in
theorem gw1400 : Jvm.Cond.selects "LeftAnswers" ⟨"LeftAnswers", "guarding", "()I"⟩ ⟨"LeftAnswers", "guarding", "()I"⟩ ∈ gtb := gtb_t4 (i := 216) rfl (by decide +kernel)
set_option maxRecDepth 100000 in
theorem gw1401 : Jvm.Cond.code ⟨"LeftAnswers", "guarding", "()I"⟩ prog_1_method_25_code 1 (some .int) ∈ gtb := gtb_t4 (i := 217) rfl (by decide +kernel)
set_option maxRecDepth 100000 in
theorem gw1402 : Jvm.Cond.instanceMethod ⟨"LeftAnswers", "guarding", "()I"⟩ ∈ gtb := gtb_t4 (i := 215) rfl (by decide +kernel)
set_option maxRecDepth 100000 in
theorem gw1403 : Jvm.Cond.methodLink "LeftAnswersLaw" 121 ⟨"LeftAnswersModel", "guarding", "()I"⟩ ∈ gtb := gtb_t8 (i := 124) rfl (by decide +kernel)
set_option maxRecDepth 100000 in
theorem gw1404 : Jvm.Cond.selects "LeftAnswersModel" ⟨"LeftAnswersModel", "guarding", "()I"⟩ ⟨"LeftAnswersModel", "guarding", "()I"⟩ ∈ gtb := gtb_t8 (i := 126) rfl (by decide +kernel)
set_option maxRecDepth 100000 in
theorem gw1405 : Jvm.Cond.code ⟨"LeftAnswersModel", "guarding", "()I"⟩ prog_15_method_85_code 1 (some .int) ∈ gtb := gtb_t8 (i := 127) rfl (by decide +kernel)
set_option maxRecDepth 100000 in
theorem gw1406 : Jvm.Cond.instanceMethod ⟨"LeftAnswersModel", "guarding", "()I"⟩ ∈ gtb := gtb_t8 (i := 125) rfl (by decide +kernel)
set_option maxRecDepth 100000 in
theorem gw1407 : Jvm.Cond.methodLink "LeftAnswersLaw" 122 ⟨"LeftAnswers", "best", "()I"⟩ ∈ gtb := gtb_t4 (i := 218) rfl (by decide +kernel)
set_option maxRecDepth 100000 in
theorem gw1408 : Jvm.Cond.selects "LeftAnswers" ⟨"LeftAnswers", "best", "()I"⟩ ⟨"LeftAnswers", "best", "()I"⟩ ∈ gtb := gtb_t4 (i := 220) rfl (by decide +kernel)
set_option maxRecDepth 100000 in
theorem gw1409 : Jvm.Cond.code ⟨"LeftAnswers", "best", "()I"⟩ prog_1_method_26_code 1 (some .int) ∈ gtb := gtb_t4 (i := 221) rfl (by decide +kernel)
set_option maxRecDepth 100000 in
theorem gw1410 : Jvm.Cond.instanceMethod ⟨"LeftAnswers", "best", "()I"⟩ ∈ gtb := gtb_t4 (i := 219) rfl (by decide +kernel)
set_option maxRecDepth 100000 in
theorem gw1411 : Jvm.Cond.methodLink "LeftAnswersLaw" 125 ⟨"LeftAnswersModel", "best", "()I"⟩ ∈ gtb := gtb_t8 (i := 128) rfl (by decide +kernel)
set_option maxRecDepth 100000 in
theorem gw1412 : Jvm.Cond.selects "LeftAnswersModel" ⟨"LeftAnswersModel", "best", "()I"⟩ ⟨"LeftAnswersModel", "best", "()I"⟩ ∈ gtb := gtb_t8 (i := 130) rfl (by decide +kernel)
set_option maxRecDepth 100000 in
theorem gw1413 : Jvm.Cond.code ⟨"LeftAnswersModel", "best", "()I"⟩ prog_15_method_89_code 2 (some .int) ∈ gtb := gtb_t8 (i := 131) rfl (by decide +kernel)
set_option maxRecDepth 100000 in
theorem gw1414 : Jvm.Cond.instanceMethod ⟨"LeftAnswersModel", "best", "()I"⟩ ∈ gtb := gtb_t8 (i := 129) rfl (by decide +kernel)
set_option maxRecDepth 100000 in
theorem gw1415 : Jvm.Cond.methodLink "LeftAnswersLaw" 126 ⟨"LeftAnswers", "bestOf", "(I)I"⟩ ∈ gtb := gtb_t4 (i := 237) rfl (by decide +kernel)
set_option maxRecDepth 100000 in
theorem gw1416 : Jvm.Cond.selects "LeftAnswers" ⟨"LeftAnswers", "bestOf", "(I)I"⟩ ⟨"LeftAnswers", "bestOf", "(I)I"⟩ ∈ gtb := gtb_t4 (i := 239) rfl (by decide +kernel)
set_option maxRecDepth 100000 in
theorem gw1417 : Jvm.Cond.code ⟨"LeftAnswers", "bestOf", "(I)I"⟩ prog_1_method_27_code 2 (some .int) ∈ gtb := gtb_t5 (i := 0) rfl (by decide +kernel)
set_option maxRecDepth 100000 in
theorem gw1418 : Jvm.Cond.instanceMethod ⟨"LeftAnswers", "bestOf", "(I)I"⟩ ∈ gtb := gtb_t4 (i := 238) rfl (by decide +kernel)
set_option maxRecDepth 100000 in
theorem gw1419 : Jvm.Cond.methodLink "LeftAnswersLaw" 129 ⟨"LeftAnswersModel", "bestOf", "(I)I"⟩ ∈ gtb := gtb_t8 (i := 144) rfl (by decide +kernel)
set_option maxRecDepth 100000 in
theorem gw1420 : Jvm.Cond.selects "LeftAnswersModel" ⟨"LeftAnswersModel", "bestOf", "(I)I"⟩ ⟨"LeftAnswersModel", "bestOf", "(I)I"⟩ ∈ gtb := gtb_t8 (i := 146) rfl (by decide +kernel)
set_option maxRecDepth 100000 in
theorem gw1421 : Jvm.Cond.code ⟨"LeftAnswersModel", "bestOf", "(I)I"⟩ prog_15_method_90_code 2 (some .int) ∈ gtb := gtb_t8 (i := 147) rfl (by decide +kernel)
set_option maxRecDepth 100000 in
theorem gw1422 : Jvm.Cond.instanceMethod ⟨"LeftAnswersModel", "bestOf", "(I)I"⟩ ∈ gtb := gtb_t8 (i := 145) rfl (by decide +kernel)
set_option maxRecDepth 100000 in
theorem gw1423 : Jvm.Cond.methodLink "LeftAnswersLaw" 130 ⟨"LeftAnswers", "earns", "(I)I"⟩ ∈ gtb := gtb_t5 (i := 1) rfl (by decide +kernel)
set_option maxRecDepth 100000 in
theorem gw1424 : Jvm.Cond.selects "LeftAnswers" ⟨"LeftAnswers", "earns", "(I)I"⟩ ⟨"LeftAnswers", "earns", "(I)I"⟩ ∈ gtb := gtb_t5 (i := 3) rfl (by decide +kernel)
set_option maxRecDepth 100000 in
theorem gw1425 : Jvm.Cond.code ⟨"LeftAnswers", "earns", "(I)I"⟩ prog_1_method_28_code 2 (some .int) ∈ gtb := gtb_t5 (i := 4) rfl (by decide +kernel)
set_option maxRecDepth 100000 in
theorem gw1426 : Jvm.Cond.instanceMethod ⟨"LeftAnswers", "earns", "(I)I"⟩ ∈ gtb := gtb_t5 (i := 2) rfl (by decide +kernel)
set_option maxRecDepth 100000 in
theorem gw1427 : Jvm.Cond.methodLink "LeftAnswersLaw" 133 ⟨"LeftAnswersModel", "earns", "(I)I"⟩ ∈ gtb := gtb_t8 (i := 148) rfl (by decide +kernel)
set_option maxRecDepth 100000 in
theorem gw1428 : Jvm.Cond.selects "LeftAnswersModel" ⟨"LeftAnswersModel", "earns", "(I)I"⟩ ⟨"LeftAnswersModel", "earns", "(I)I"⟩ ∈ gtb := gtb_t8 (i := 150) rfl (by decide +kernel)
set_option maxRecDepth 100000 in
theorem gw1429 : Jvm.Cond.code ⟨"LeftAnswersModel", "earns", "(I)I"⟩ prog_15_method_92_code 3 (some .int) ∈ gtb := gtb_t8 (i := 151) rfl (by decide +kernel)
set_option maxRecDepth 100000 in
theorem gw1430 : Jvm.Cond.instanceMethod ⟨"LeftAnswersModel", "earns", "(I)I"⟩ ∈ gtb := gtb_t8 (i := 149) rfl (by decide +kernel)
set_option maxRecDepth 100000 in
theorem gw1431 : Jvm.Cond.methodLink "LeftAnswersLaw" 134 ⟨"LeftAnswers", "richest", "()I"⟩ ∈ gtb := gtb_t5 (i := 15) rfl (by decide +kernel)
set_option maxRecDepth 100000 in
theorem gw1432 : Jvm.Cond.selects "LeftAnswers" ⟨"LeftAnswers", "richest", "()I"⟩ ⟨"LeftAnswers", "richest", "()I"⟩ ∈ gtb := gtb_t5 (i := 17) rfl (by decide +kernel)
set_option maxRecDepth 100000 in
theorem gw1433 : Jvm.Cond.code ⟨"LeftAnswers", "richest", "()I"⟩ prog_1_method_29_code 4 (some .int) ∈ gtb := gtb_t5 (i := 18) rfl (by decide +kernel)
set_option maxRecDepth 100000 in
theorem gw1434 : Jvm.Cond.instanceMethod ⟨"LeftAnswers", "richest", "()I"⟩ ∈ gtb := gtb_t5 (i := 16) rfl (by decide +kernel)
set_option maxRecDepth 100000 in
theorem gw1435 : Jvm.Cond.methodLink "LeftAnswersLaw" 137 ⟨"LeftAnswersModel", "richest", "()I"⟩ ∈ gtb := gtb_t8 (i := 156) rfl (by decide +kernel)
set_option maxRecDepth 100000 in
theorem gw1436 : Jvm.Cond.selects "LeftAnswersModel" ⟨"LeftAnswersModel", "richest", "()I"⟩ ⟨"LeftAnswersModel", "richest", "()I"⟩ ∈ gtb := gtb_t8 (i := 158) rfl (by decide +kernel)
set_option maxRecDepth 100000 in
theorem gw1437 : Jvm.Cond.code ⟨"LeftAnswersModel", "richest", "()I"⟩ prog_15_method_93_code 3 (some .int) ∈ gtb := gtb_t8 (i := 159) rfl (by decide +kernel)
set_option maxRecDepth 100000 in
theorem gw1438 : Jvm.Cond.instanceMethod ⟨"LeftAnswersModel", "richest", "()I"⟩ ∈ gtb := gtb_t8 (i := 157) rfl (by decide +kernel)
set_option maxRecDepth 100000 in
theorem gw1439 : Jvm.Cond.methodLink "LeftAnswersLaw" 138 ⟨"LeftAnswers", "slip", "(I)I"⟩ ∈ gtb := gtb_t5 (i := 19) rfl (by decide +kernel)
set_option maxRecDepth 100000 in
theorem gw1440 : Jvm.Cond.selects "LeftAnswers" ⟨"LeftAnswers", "slip", "(I)I"⟩ ⟨"LeftAnswers", "slip", "(I)I"⟩ ∈ gtb := gtb_t5 (i := 21) rfl (by decide +kernel)
set_option maxRecDepth 100000 in
theorem gw1441 : Jvm.Cond.code ⟨"LeftAnswers", "slip", "(I)I"⟩ prog_1_method_30_code 2 (some .int) ∈ gtb := gtb_t5 (i := 22) rfl (by decide +kernel)
set_option maxRecDepth 100000 in
theorem gw1442 : Jvm.Cond.instanceMethod ⟨"LeftAnswers", "slip", "(I)I"⟩ ∈ gtb := gtb_t5 (i := 20) rfl (by decide +kernel)
set_option maxRecDepth 100000 in
theorem gw1443 : Jvm.Cond.methodLink "LeftAnswersLaw" 141 ⟨"LeftAnswersModel", "slip", "(I)I"⟩ ∈ gtb := gtb_t8 (i := 160) rfl (by decide +kernel)
set_option maxRecDepth 100000 in
theorem gw1444 : Jvm.Cond.selects "LeftAnswersModel" ⟨"LeftAnswersModel", "slip", "(I)I"⟩ ⟨"LeftAnswersModel", "slip", "(I)I"⟩ ∈ gtb := gtb_t8 (i := 162) rfl (by decide +kernel)
set_option maxRecDepth 100000 in
theorem gw1445 : Jvm.Cond.code ⟨"LeftAnswersModel", "slip", "(I)I"⟩ prog_15_method_98_code 2 (some .int) ∈ gtb := gtb_t8 (i := 163) rfl (by decide +kernel)
set_option maxRecDepth 100000 in
theorem gw1446 : Jvm.Cond.instanceMethod ⟨"LeftAnswersModel", "slip", "(I)I"⟩ ∈ gtb := gtb_t8 (i := 161) rfl (by decide +kernel)
set_option maxRecDepth 100000 in
theorem gw1447 : Jvm.Cond.methodLink "LeftAnswersLaw" 142 ⟨"LeftAnswers", "byteAt", "(I)I"⟩ ∈ gtb := gtb_t5 (i := 98) rfl (by decide +kernel)
set_option maxRecDepth 100000 in
theorem gw1448 : Jvm.Cond.selects "LeftAnswers" ⟨"LeftAnswers", "byteAt", "(I)I"⟩ ⟨"LeftAnswers", "byteAt", "(I)I"⟩ ∈ gtb := gtb_t5 (i := 100) rfl (by decide +kernel)
set_option maxRecDepth 100000 in
theorem gw1449 : Jvm.Cond.code ⟨"LeftAnswers", "byteAt", "(I)I"⟩ prog_1_method_31_code 2 (some .int) ∈ gtb := gtb_t5 (i := 101) rfl (by decide +kernel)
set_option maxRecDepth 100000 in
theorem gw1450 : Jvm.Cond.instanceMethod ⟨"LeftAnswers", "byteAt", "(I)I"⟩ ∈ gtb := gtb_t5 (i := 99) rfl (by decide +kernel)
set_option maxRecDepth 100000 in
theorem gw1451 : Jvm.Cond.methodLink "LeftAnswersLaw" 145 ⟨"LeftAnswersModel", "byteAt", "(I)I"⟩ ∈ gtb := gtb_t8 (i := 180) rfl (by decide +kernel)
set_option maxRecDepth 100000 in
theorem gw1452 : Jvm.Cond.selects "LeftAnswersModel" ⟨"LeftAnswersModel", "byteAt", "(I)I"⟩ ⟨"LeftAnswersModel", "byteAt", "(I)I"⟩ ∈ gtb := gtb_t8 (i := 182) rfl (by decide +kernel)
set_option maxRecDepth 100000 in
theorem gw1453 : Jvm.Cond.code ⟨"LeftAnswersModel", "byteAt", "(I)I"⟩ prog_15_method_99_code 2 (some .int) ∈ gtb := gtb_t8 (i := 183) rfl (by decide +kernel)
set_option maxRecDepth 100000 in
theorem gw1454 : Jvm.Cond.instanceMethod ⟨"LeftAnswersModel", "byteAt", "(I)I"⟩ ∈ gtb := gtb_t8 (i := 181) rfl (by decide +kernel)
set_option maxRecDepth 100000 in
theorem gw1455 : Jvm.Cond.methodLink "LeftAnswersLaw" 146 ⟨"LeftAnswers", "drawn", "(II)I"⟩ ∈ gtb := gtb_t5 (i := 102) rfl (by decide +kernel)
set_option maxRecDepth 100000 in
theorem gw1456 : Jvm.Cond.selects "LeftAnswers" ⟨"LeftAnswers", "drawn", "(II)I"⟩ ⟨"LeftAnswers", "drawn", "(II)I"⟩ ∈ gtb := gtb_t5 (i := 104) rfl (by decide +kernel)
set_option maxRecDepth 100000 in
theorem gw1457 : Jvm.Cond.code ⟨"LeftAnswers", "drawn", "(II)I"⟩ prog_1_method_32_code 4 (some .int) ∈ gtb := gtb_t5 (i := 105) rfl (by decide +kernel)
set_option maxRecDepth 100000 in
theorem gw1458 : Jvm.Cond.instanceMethod ⟨"LeftAnswers", "drawn", "(II)I"⟩ ∈ gtb := gtb_t5 (i := 103) rfl (by decide +kernel)
set_option maxRecDepth 100000 in
theorem gw1459 : Jvm.Cond.methodLink "LeftAnswersLaw" 149 ⟨"LeftAnswersModel", "drawn", "(II)I"⟩ ∈ gtb := gtb_t8 (i := 184) rfl (by decide +kernel)
set_option maxRecDepth 100000 in
theorem gw1460 : Jvm.Cond.selects "LeftAnswersModel" ⟨"LeftAnswersModel", "drawn", "(II)I"⟩ ⟨"LeftAnswersModel", "drawn", "(II)I"⟩ ∈ gtb := gtb_t8 (i := 186) rfl (by decide +kernel)
set_option maxRecDepth 100000 in
theorem gw1461 : Jvm.Cond.code ⟨"LeftAnswersModel", "drawn", "(II)I"⟩ prog_15_method_103_code 3 (some .int) ∈ gtb := gtb_t8 (i := 187) rfl (by decide +kernel)
set_option maxRecDepth 100000 in
theorem gw1462 : Jvm.Cond.instanceMethod ⟨"LeftAnswersModel", "drawn", "(II)I"⟩ ∈ gtb := gtb_t8 (i := 185) rfl (by decide +kernel)
set_option maxRecDepth 100000 in
theorem gw1463 : Jvm.Cond.methodLink "LeftAnswersLaw" 150 ⟨"LeftAnswers", "odds", "(III)I"⟩ ∈ gtb := gtb_t5 (i := 119) rfl (by decide +kernel)
set_option maxRecDepth 100000 in
theorem gw1464 : Jvm.Cond.selects "LeftAnswers" ⟨"LeftAnswers", "odds", "(III)I"⟩ ⟨"LeftAnswers", "odds", "(III)I"⟩ ∈ gtb := gtb_t5 (i := 121) rfl (by decide +kernel)
set_option maxRecDepth 100000 in
theorem gw1465 : Jvm.Cond.code ⟨"LeftAnswers", "odds", "(III)I"⟩ prog_1_method_33_code 7 (some .int) ∈ gtb := gtb_t5 (i := 122) rfl (by decide +kernel)
set_option maxRecDepth 100000 in
theorem gw1466 : Jvm.Cond.instanceMethod ⟨"LeftAnswers", "odds", "(III)I"⟩ ∈ gtb := gtb_t5 (i := 120) rfl (by decide +kernel)
set_option maxRecDepth 100000 in
theorem gw1467 : Jvm.Cond.methodLink "LeftAnswersLaw" 153 ⟨"LeftAnswersModel", "odds", "(III)I"⟩ ∈ gtb := gtb_t8 (i := 201) rfl (by decide +kernel)
set_option maxRecDepth 100000 in
theorem gw1468 : Jvm.Cond.selects "LeftAnswersModel" ⟨"LeftAnswersModel", "odds", "(III)I"⟩ ⟨"LeftAnswersModel", "odds", "(III)I"⟩ ∈ gtb := gtb_t8 (i := 203) rfl (by decide +kernel)
set_option maxRecDepth 100000 in
theorem gw1469 : Jvm.Cond.code ⟨"LeftAnswersModel", "odds", "(III)I"⟩ prog_15_method_106_code 6 (some .int) ∈ gtb := gtb_t8 (i := 204) rfl (by decide +kernel)
set_option maxRecDepth 100000 in
theorem gw1470 : Jvm.Cond.instanceMethod ⟨"LeftAnswersModel", "odds", "(III)I"⟩ ∈ gtb := gtb_t8 (i := 202) rfl (by decide +kernel)
set_option maxRecDepth 100000 in
theorem gw1471 : Jvm.Cond.methodLink "LeftAnswersLaw" 154 ⟨"LeftAnswers", "book", "(I)I"⟩ ∈ gtb := gtb_t5 (i := 124) rfl (by decide +kernel)
set_option maxRecDepth 100000 in
theorem gw1472 : Jvm.Cond.selects "LeftAnswers" ⟨"LeftAnswers", "book", "(I)I"⟩ ⟨"LeftAnswers", "book", "(I)I"⟩ ∈ gtb := gtb_t5 (i := 126) rfl (by decide +kernel)
set_option maxRecDepth 100000 in
theorem gw1473 : Jvm.Cond.code ⟨"LeftAnswers", "book", "(I)I"⟩ prog_1_method_34_code 2 (some .int) ∈ gtb := gtb_t5 (i := 127) rfl (by decide +kernel)
set_option maxRecDepth 100000 in
theorem gw1474 : Jvm.Cond.instanceMethod ⟨"LeftAnswers", "book", "(I)I"⟩ ∈ gtb := gtb_t5 (i := 125) rfl (by decide +kernel)
set_option maxRecDepth 100000 in
theorem gw1475 : Jvm.Cond.methodLink "LeftAnswersLaw" 157 ⟨"LeftAnswersModel", "book", "(I)I"⟩ ∈ gtb := gtb_t8 (i := 213) rfl (by decide +kernel)
set_option maxRecDepth 100000 in
theorem gw1476 : Jvm.Cond.selects "LeftAnswersModel" ⟨"LeftAnswersModel", "book", "(I)I"⟩ ⟨"LeftAnswersModel", "book", "(I)I"⟩ ∈ gtb := gtb_t8 (i := 215) rfl (by decide +kernel)
set_option maxRecDepth 100000 in
theorem gw1477 : Jvm.Cond.code ⟨"LeftAnswersModel", "book", "(I)I"⟩ prog_15_method_113_code 4 (some .int) ∈ gtb := gtb_t8 (i := 216) rfl (by decide +kernel)
set_option maxRecDepth 100000 in
theorem gw1478 : Jvm.Cond.instanceMethod ⟨"LeftAnswersModel", "book", "(I)I"⟩ ∈ gtb := gtb_t8 (i := 214) rfl (by decide +kernel)
set_option maxRecDepth 100000 in
theorem gw1479 : Jvm.Cond.methodLink "LeftAnswersLaw" 158 ⟨"LeftAnswers", "told", "(I)I"⟩ ∈ gtb := gtb_t5 (i := 173) rfl (by decide +kernel)
set_option maxRecDepth 100000 in
theorem gw1480 : Jvm.Cond.selects "LeftAnswers" ⟨"LeftAnswers", "told", "(I)I"⟩ ⟨"LeftAnswers", "told", "(I)I"⟩ ∈ gtb := gtb_t5 (i := 175) rfl (by decide +kernel)
set_option maxRecDepth 100000 in
theorem gw1481 : Jvm.Cond.code ⟨"LeftAnswers", "told", "(I)I"⟩ prog_1_method_35_code 2 (some .int) ∈ gtb := gtb_t5 (i := 176) rfl (by decide +kernel)
set_option maxRecDepth 100000 in
theorem gw1482 : Jvm.Cond.instanceMethod ⟨"LeftAnswers", "told", "(I)I"⟩ ∈ gtb := gtb_t5 (i := 174) rfl (by decide +kernel)
set_option maxRecDepth 100000 in
theorem gw1483 : Jvm.Cond.methodLink "LeftAnswersLaw" 161 ⟨"LeftAnswersModel", "told", "(I)I"⟩ ∈ gtb := gtb_t9 (i := 5) rfl (by decide +kernel)
set_option maxRecDepth 100000 in
theorem gw1484 : Jvm.Cond.selects "LeftAnswersModel" ⟨"LeftAnswersModel", "told", "(I)I"⟩ ⟨"LeftAnswersModel", "told", "(I)I"⟩ ∈ gtb := gtb_t9 (i := 7) rfl (by decide +kernel)
set_option maxRecDepth 100000 in
theorem gw1485 : Jvm.Cond.code ⟨"LeftAnswersModel", "told", "(I)I"⟩ prog_15_method_115_code 2 (some .int) ∈ gtb := gtb_t9 (i := 8) rfl (by decide +kernel)
set_option maxRecDepth 100000 in
theorem gw1486 : Jvm.Cond.instanceMethod ⟨"LeftAnswersModel", "told", "(I)I"⟩ ∈ gtb := gtb_t9 (i := 6) rfl (by decide +kernel)
set_option maxRecDepth 100000 in
theorem gw1487 : Jvm.Cond.methodLink "LeftAnswersLaw" 162 ⟨"LeftAnswers", "sentence", "()I"⟩ ∈ gtb := gtb_t5 (i := 177) rfl (by decide +kernel)
set_option maxRecDepth 100000 in
theorem gw1488 : Jvm.Cond.selects "LeftAnswers" ⟨"LeftAnswers", "sentence", "()I"⟩ ⟨"LeftAnswers", "sentence", "()I"⟩ ∈ gtb := gtb_t5 (i := 179) rfl (by decide +kernel)
set_option maxRecDepth 100000 in
theorem gw1489 : Jvm.Cond.code ⟨"LeftAnswers", "sentence", "()I"⟩ prog_1_method_36_code 2 (some .int) ∈ gtb := gtb_t5 (i := 180) rfl (by decide +kernel)
set_option maxRecDepth 100000 in
theorem gw1490 : Jvm.Cond.instanceMethod ⟨"LeftAnswers", "sentence", "()I"⟩ ∈ gtb := gtb_t5 (i := 178) rfl (by decide +kernel)
set_option maxRecDepth 100000 in
theorem gw1491 : Jvm.Cond.methodLink "LeftAnswersLaw" 165 ⟨"LeftAnswersModel", "sentence", "()I"⟩ ∈ gtb := gtb_t9 (i := 9) rfl (by decide +kernel)
set_option maxRecDepth 100000 in
theorem gw1492 : Jvm.Cond.selects "LeftAnswersModel" ⟨"LeftAnswersModel", "sentence", "()I"⟩ ⟨"LeftAnswersModel", "sentence", "()I"⟩ ∈ gtb := gtb_t9 (i := 11) rfl (by decide +kernel)
set_option maxRecDepth 100000 in
theorem gw1493 : Jvm.Cond.code ⟨"LeftAnswersModel", "sentence", "()I"⟩ prog_15_method_124_code 2 (some .int) ∈ gtb := gtb_t9 (i := 12) rfl (by decide +kernel)
set_option maxRecDepth 100000 in
theorem gw1494 : Jvm.Cond.instanceMethod ⟨"LeftAnswersModel", "sentence", "()I"⟩ ∈ gtb := gtb_t9 (i := 10) rfl (by decide +kernel)
set_option maxRecDepth 100000 in
theorem gw1495 : Jvm.Cond.methodLink "LeftAnswersLaw" 166 ⟨"LeftAnswers", "said", "(I)I"⟩ ∈ gtb := gtb_t5 (i := 228) rfl (by decide +kernel)
set_option maxRecDepth 100000 in
theorem gw1496 : Jvm.Cond.selects "LeftAnswers" ⟨"LeftAnswers", "said", "(I)I"⟩ ⟨"LeftAnswers", "said", "(I)I"⟩ ∈ gtb := gtb_t5 (i := 230) rfl (by decide +kernel)
set_option maxRecDepth 100000 in
theorem gw1497 : Jvm.Cond.code ⟨"LeftAnswers", "said", "(I)I"⟩ prog_1_method_37_code 3 (some .int) ∈ gtb := gtb_t5 (i := 231) rfl (by decide +kernel)
set_option maxRecDepth 100000 in
theorem gw1498 : Jvm.Cond.instanceMethod ⟨"LeftAnswers", "said", "(I)I"⟩ ∈ gtb := gtb_t5 (i := 229) rfl (by decide +kernel)
set_option maxRecDepth 100000 in
theorem gw1499 : Jvm.Cond.methodLink "LeftAnswersLaw" 169 ⟨"LeftAnswersModel", "said", "(I)I"⟩ ∈ gtb := gtb_t9 (i := 45) rfl (by decide +kernel)
end
section
set_option maxRecDepth 100000 in
theorem gw1500 : Jvm.Cond.selects "LeftAnswersModel" ⟨"LeftAnswersModel", "said", "(I)I"⟩ ⟨"LeftAnswersModel", "said", "(I)I"⟩ ∈ gtb := gtb_t9 (i := 47) rfl (by decide +kernel)
set_option maxRecDepth 100000 in
theorem gw1501 : Jvm.Cond.code ⟨"LeftAnswersModel", "said", "(I)I"⟩ prog_15_method_126_code 4 (some .int) ∈ gtb := gtb_t9 (i := 48) rfl (by decide +kernel)
set_option maxRecDepth 100000 in
theorem gw1502 : Jvm.Cond.instanceMethod ⟨"LeftAnswersModel", "said", "(I)I"⟩ ∈ gtb := gtb_t9 (i := 46) rfl (by decide +kernel)
set_option maxRecDepth 100000 in
theorem gw1503 : Jvm.Cond.methodLink "LeftAnswersLaw" 170 ⟨"LeftAnswers", "image", "(I)Z"⟩ ∈ gtb := gtb_t6 (i := 20) rfl (by decide +kernel)
set_option maxRecDepth 100000 in
theorem gw1504 : Jvm.Cond.selects "LeftAnswers" ⟨"LeftAnswers", "image", "(I)Z"⟩ ⟨"LeftAnswers", "image", "(I)Z"⟩ ∈ gtb := gtb_t6 (i := 22) rfl (by decide +kernel)
set_option maxRecDepth 100000 in
theorem gw1505 : Jvm.Cond.code ⟨"LeftAnswers", "image", "(I)Z"⟩ prog_1_method_38_code 2 (some .boolean) ∈ gtb := gtb_t6 (i := 23) rfl (by decide +kernel)
set_option maxRecDepth 100000 in
theorem gw1506 : Jvm.Cond.instanceMethod ⟨"LeftAnswers", "image", "(I)Z"⟩ ∈ gtb := gtb_t6 (i := 21) rfl (by decide +kernel)
set_option maxRecDepth 100000 in
theorem gw1507 : Jvm.Cond.methodLink "LeftAnswersLaw" 173 ⟨"LeftAnswersModel", "image", "(I)Z"⟩ ∈ gtb := gtb_t9 (i := 53) rfl (by decide +kernel)
set_option maxRecDepth 100000 in
theorem gw1508 : Jvm.Cond.selects "LeftAnswersModel" ⟨"LeftAnswersModel", "image", "(I)Z"⟩ ⟨"LeftAnswersModel", "image", "(I)Z"⟩ ∈ gtb := gtb_t9 (i := 55) rfl (by decide +kernel)
set_option maxRecDepth 100000 in
theorem gw1509 : Jvm.Cond.code ⟨"LeftAnswersModel", "image", "(I)Z"⟩ prog_15_method_127_code 3 (some .boolean) ∈ gtb := gtb_t9 (i := 56) rfl (by decide +kernel)
set_option maxRecDepth 100000 in
theorem gw1510 : Jvm.Cond.instanceMethod ⟨"LeftAnswersModel", "image", "(I)Z"⟩ ∈ gtb := gtb_t9 (i := 54) rfl (by decide +kernel)
set_option maxRecDepth 100000 in
theorem gw1511 : Jvm.Cond.methodLink "LeftAnswersLaw" 174 ⟨"LeftAnswers", "restore", "(I)Z"⟩ ∈ gtb := gtb_t6 (i := 38) rfl (by decide +kernel)
set_option maxRecDepth 100000 in
theorem gw1512 : Jvm.Cond.selects "LeftAnswers" ⟨"LeftAnswers", "restore", "(I)Z"⟩ ⟨"LeftAnswers", "restore", "(I)Z"⟩ ∈ gtb := gtb_t6 (i := 40) rfl (by decide +kernel)
set_option maxRecDepth 100000 in
theorem gw1513 : Jvm.Cond.code ⟨"LeftAnswers", "restore", "(I)Z"⟩ prog_1_method_39_code 2 (some .boolean) ∈ gtb := gtb_t6 (i := 41) rfl (by decide +kernel)
set_option maxRecDepth 100000 in
theorem gw1514 : Jvm.Cond.instanceMethod ⟨"LeftAnswers", "restore", "(I)Z"⟩ ∈ gtb := gtb_t6 (i := 39) rfl (by decide +kernel)
set_option maxRecDepth 100000 in
theorem gw1515 : Jvm.Cond.methodLink "LeftAnswersLaw" 177 ⟨"LeftAnswersModel", "restore", "(I)Z"⟩ ∈ gtb := gtb_t9 (i := 57) rfl (by decide +kernel)
set_option maxRecDepth 100000 in
theorem gw1516 : Jvm.Cond.selects "LeftAnswersModel" ⟨"LeftAnswersModel", "restore", "(I)Z"⟩ ⟨"LeftAnswersModel", "restore", "(I)Z"⟩ ∈ gtb := gtb_t9 (i := 59) rfl (by decide +kernel)
set_option maxRecDepth 100000 in
theorem gw1517 : Jvm.Cond.code ⟨"LeftAnswersModel", "restore", "(I)Z"⟩ prog_15_method_128_code 3 (some .boolean) ∈ gtb := gtb_t9 (i := 60) rfl (by decide +kernel)
set_option maxRecDepth 100000 in
theorem gw1518 : Jvm.Cond.instanceMethod ⟨"LeftAnswersModel", "restore", "(I)Z"⟩ ∈ gtb := gtb_t9 (i := 58) rfl (by decide +kernel)
set_option maxRecDepth 100000 in
theorem gw1519 : Jvm.Cond.methodLink "LeftAnswersLaw" 178 ⟨"LeftAnswers", "count", "(I)I"⟩ ∈ gtb := gtb_t6 (i := 46) rfl (by decide +kernel)
set_option maxRecDepth 100000 in
theorem gw1520 : Jvm.Cond.selects "LeftAnswers" ⟨"LeftAnswers", "count", "(I)I"⟩ ⟨"LeftAnswers", "count", "(I)I"⟩ ∈ gtb := gtb_t6 (i := 48) rfl (by decide +kernel)
set_option maxRecDepth 100000 in
theorem gw1521 : Jvm.Cond.code ⟨"LeftAnswers", "count", "(I)I"⟩ prog_1_method_40_code 2 (some .int) ∈ gtb := gtb_t6 (i := 49) rfl (by decide +kernel)
set_option maxRecDepth 100000 in
theorem gw1522 : Jvm.Cond.instanceMethod ⟨"LeftAnswers", "count", "(I)I"⟩ ∈ gtb := gtb_t6 (i := 47) rfl (by decide +kernel)
set_option maxRecDepth 100000 in
theorem gw1523 : Jvm.Cond.methodLink "LeftAnswersLaw" 181 ⟨"LeftAnswersModel", "count", "(I)I"⟩ ∈ gtb := gtb_t9 (i := 61) rfl (by decide +kernel)
set_option maxRecDepth 100000 in
theorem gw1524 : Jvm.Cond.selects "LeftAnswersModel" ⟨"LeftAnswersModel", "count", "(I)I"⟩ ⟨"LeftAnswersModel", "count", "(I)I"⟩ ∈ gtb := gtb_t9 (i := 63) rfl (by decide +kernel)
set_option maxRecDepth 100000 in
theorem gw1525 : Jvm.Cond.code ⟨"LeftAnswersModel", "count", "(I)I"⟩ prog_15_method_129_code 2 (some .int) ∈ gtb := gtb_t9 (i := 64) rfl (by decide +kernel)
set_option maxRecDepth 100000 in
theorem gw1526 : Jvm.Cond.instanceMethod ⟨"LeftAnswersModel", "count", "(I)I"⟩ ∈ gtb := gtb_t9 (i := 62) rfl (by decide +kernel)
end
