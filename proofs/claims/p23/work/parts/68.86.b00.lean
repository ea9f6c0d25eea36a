set_option maxRecDepth 100000 in
theorem gw0 : Jvm.Cond.methodLink "LeftAnswers" 1 ⟨"java/lang/Object", "<init>", "()V"⟩ ∈ gtb := gtb_t1 (i := 32) rfl (by decide +kernel)
set_option maxRecDepth 100000 in
theorem gw1 : Jvm.Cond.instanceMethod ⟨"java/lang/Object", "<init>", "()V"⟩ ∈ gtb := gtb_t1 (i := 33) rfl (by decide +kernel)
set_option maxRecDepth 100000 in
theorem gw2 : Jvm.Cond.code ⟨"java/lang/Object", "<init>", "()V"⟩ object_method_1_code 1 none ∈ gtb := gtb_t1 (i := 34) rfl (by decide +kernel)
set_option maxRecDepth 100000 in
theorem gw3 : Jvm.Cond.classLink "LeftAnswers" 7 "LeftAnswers$Tape" ∈ gtb := gtb_t1 (i := 35) rfl (by decide +kernel)
set_option maxRecDepth 100000 in
theorem gw4 : Jvm.Cond.instantiable "LeftAnswers$Tape" 12 ∈ gtb := gtb_t1 (i := 36) rfl (by decide +kernel)
set_option maxRecDepth 100000 in
theorem gw5 : Jvm.Cond.initialized "LeftAnswers$Tape" ∈ gtb := gtb_t1 (i := 2) rfl (by decide +kernel)
set_option maxRecDepth 100000 in
theorem gw6 : Jvm.Cond.methodLink "LeftAnswers" 9 ⟨"LeftAnswers$Tape", "<init>", "()V"⟩ ∈ gtb := gtb_t1 (i := 37) rfl (by decide +kernel)
set_option maxRecDepth 100000 in
theorem gw7 : Jvm.Cond.code ⟨"LeftAnswers$Tape", "<init>", "()V"⟩ prog_12_method_1_code 1 none ∈ gtb := gtb_t1 (i := 39) rfl (by decide +kernel)
set_option maxRecDepth 100000 in
theorem gw8 : Jvm.Cond.instanceMethod ⟨"LeftAnswers$Tape", "<init>", "()V"⟩ ∈ gtb := gtb_t1 (i := 38) rfl (by decide +kernel)
set_option maxRecDepth 100000 in
theorem gw9 : Jvm.Cond.fieldLink "LeftAnswers" 10 "LeftAnswers" "tape" "LLeftAnswers$Tape;" ∈ gtb := gtb_t2 (i := 190) rfl (by decide +kernel)
set_option maxRecDepth 100000 in
theorem gw10 : Jvm.Cond.classLink "LeftAnswers" 16 "LeftAnswers$Duchy" ∈ gtb := gtb_t1 (i := 95) rfl (by decide +kernel)
set_option maxRecDepth 100000 in
theorem gw11 : Jvm.Cond.instantiable "LeftAnswers$Duchy" 16 ∈ gtb := gtb_t1 (i := 96) rfl (by decide +kernel)
set_option maxRecDepth 100000 in
theorem gw12 : Jvm.Cond.initialized "LeftAnswers$Duchy" ∈ gtb := gtb_t1 (i := 5) rfl (by decide +kernel)
set_option maxRecDepth 100000 in
theorem gw13 : Jvm.Cond.methodLink "LeftAnswers" 18 ⟨"LeftAnswers$Duchy", "<init>", "()V"⟩ ∈ gtb := gtb_t1 (i := 97) rfl (by decide +kernel)
set_option maxRecDepth 100000 in
theorem gw14 : Jvm.Cond.code ⟨"LeftAnswers$Duchy", "<init>", "()V"⟩ prog_4_method_1_code 1 none ∈ gtb := gtb_t1 (i := 99) rfl (by decide +kernel)
set_option maxRecDepth 100000 in
theorem gw15 : Jvm.Cond.instanceMethod ⟨"LeftAnswers$Duchy", "<init>", "()V"⟩ ∈ gtb := gtb_t1 (i := 98) rfl (by decide +kernel)
set_option maxRecDepth 100000 in
theorem gw16 : Jvm.Cond.fieldLink "LeftAnswers" 19 "LeftAnswers" "duchy" "LLeftAnswers$Duchy;" ∈ gtb := gtb_t2 (i := 191) rfl (by decide +kernel)
set_option maxRecDepth 100000 in
theorem gw17 : Jvm.Cond.fieldLink "LeftAnswers" 23 "LeftAnswers" "spareDuchy" "LLeftAnswers$Duchy;" ∈ gtb := gtb_t2 (i := 192) rfl (by decide +kernel)
set_option maxRecDepth 100000 in
theorem gw18 : Jvm.Cond.classLink "LeftAnswers" 26 "LeftAnswers$Life" ∈ gtb := gtb_t1 (i := 177) rfl (by decide +kernel)
set_option maxRecDepth 100000 in
theorem gw19 : Jvm.Cond.instantiable "LeftAnswers$Life" 12 ∈ gtb := gtb_t1 (i := 178) rfl (by decide +kernel)
set_option maxRecDepth 100000 in
theorem gw20 : Jvm.Cond.initialized "LeftAnswers$Life" ∈ gtb := gtb_t1 (i := 6) rfl (by decide +kernel)
set_option maxRecDepth 100000 in
theorem gw21 : Jvm.Cond.methodLink "LeftAnswers" 28 ⟨"LeftAnswers$Life", "<init>", "()V"⟩ ∈ gtb := gtb_t1 (i := 179) rfl (by decide +kernel)
set_option maxRecDepth 100000 in
theorem gw22 : Jvm.Cond.code ⟨"LeftAnswers$Life", "<init>", "()V"⟩ prog_6_method_1_code 1 none ∈ gtb := gtb_t1 (i := 181) rfl (by decide +kernel)
set_option maxRecDepth 100000 in
theorem gw23 : Jvm.Cond.instanceMethod ⟨"LeftAnswers$Life", "<init>", "()V"⟩ ∈ gtb := gtb_t1 (i := 180) rfl (by decide +kernel)
set_option maxRecDepth 100000 in
theorem gw24 : Jvm.Cond.fieldLink "LeftAnswers" 29 "LeftAnswers" "life" "LLeftAnswers$Life;" ∈ gtb := gtb_t2 (i := 193) rfl (by decide +kernel)
set_option maxRecDepth 100000 in
theorem gw25 : Jvm.Cond.fieldLink "LeftAnswers" 33 "LeftAnswers" "trial" "LLeftAnswers$Life;" ∈ gtb := gtb_t2 (i := 194) rfl (by decide +kernel)
set_option maxRecDepth 100000 in
theorem gw26 : Jvm.Cond.classLink "LeftAnswers" 36 "LeftAnswers$Past" ∈ gtb := gtb_t2 (i := 5) rfl (by decide +kernel)
set_option maxRecDepth 100000 in
theorem gw27 : Jvm.Cond.instantiable "LeftAnswers$Past" 3 ∈ gtb := gtb_t2 (i := 6) rfl (by decide +kernel)
set_option maxRecDepth 100000 in
theorem gw28 : Jvm.Cond.initialized "LeftAnswers$Past" ∈ gtb := gtb_t1 (i := 7) rfl (by decide +kernel)
set_option maxRecDepth 100000 in
theorem gw29 : Jvm.Cond.methodLink "LeftAnswers" 38 ⟨"LeftAnswers$Past", "<init>", "()V"⟩ ∈ gtb := gtb_t2 (i := 7) rfl (by decide +kernel)
set_option maxRecDepth 100000 in
theorem gw30 : Jvm.Cond.code ⟨"LeftAnswers$Past", "<init>", "()V"⟩ prog_9_method_1_code 2 none ∈ gtb := gtb_t2 (i := 9) rfl (by decide +kernel)
set_option maxRecDepth 100000 in
theorem gw31 : Jvm.Cond.instanceMethod ⟨"LeftAnswers$Past", "<init>", "()V"⟩ ∈ gtb := gtb_t2 (i := 8) rfl (by decide +kernel)
set_option maxRecDepth 100000 in
theorem gw32 : Jvm.Cond.fieldLink "LeftAnswers" 39 "LeftAnswers" "past" "LLeftAnswers$Past;" ∈ gtb := gtb_t2 (i := 195) rfl (by decide +kernel)
set_option maxRecDepth 100000 in
theorem gw33 : Jvm.Cond.classLink "LeftAnswers" 43 "LeftAnswers$Book" ∈ gtb := gtb_t2 (i := 24) rfl (by decide +kernel)
set_option maxRecDepth 100000 in
theorem gw34 : Jvm.Cond.instantiable "LeftAnswers$Book" 11 ∈ gtb := gtb_t2 (i := 25) rfl (by decide +kernel)
set_option maxRecDepth 100000 in
theorem gw35 : Jvm.Cond.initialized "LeftAnswers$Book" ∈ gtb := gtb_t1 (i := 8) rfl (by decide +kernel)
set_option maxRecDepth 100000 in
theorem gw36 : Jvm.Cond.methodLink "LeftAnswers" 45 ⟨"LeftAnswers$Book", "<init>", "()V"⟩ ∈ gtb := gtb_t2 (i := 26) rfl (by decide +kernel)
set_option maxRecDepth 100000 in
theorem gw37 : Jvm.Cond.code ⟨"LeftAnswers$Book", "<init>", "()V"⟩ prog_3_method_1_code 1 none ∈ gtb := gtb_t2 (i := 28) rfl (by decide +kernel)
set_option maxRecDepth 100000 in
theorem gw38 : Jvm.Cond.instanceMethod ⟨"LeftAnswers$Book", "<init>", "()V"⟩ ∈ gtb := gtb_t2 (i := 27) rfl (by decide +kernel)
set_option maxRecDepth 100000 in
theorem gw39 : Jvm.Cond.fieldLink "LeftAnswers" 46 "LeftAnswers" "book" "LLeftAnswers$Book;" ∈ gtb := gtb_t2 (i := 196) rfl (by decide +kernel)
set_option maxRecDepth 100000 in
theorem gw40 : Jvm.Cond.classLink "LeftAnswers" 50 "LeftAnswers$Sentence" ∈ gtb := gtb_t2 (i := 70) rfl (by decide +kernel)
set_option maxRecDepth 100000 in
theorem gw41 : Jvm.Cond.instantiable "LeftAnswers$Sentence" 6 ∈ gtb := gtb_t2 (i := 71) rfl (by decide +kernel)
set_option maxRecDepth 100000 in
theorem gw42 : Jvm.Cond.initialized "LeftAnswers$Sentence" ∈ gtb := gtb_t1 (i := 9) rfl (by decide +kernel)
set_option maxRecDepth 100000 in
theorem gw43 : Jvm.Cond.methodLink "LeftAnswers" 52 ⟨"LeftAnswers$Sentence", "<init>", "()V"⟩ ∈ gtb := gtb_t2 (i := 72) rfl (by decide +kernel)
set_option maxRecDepth 100000 in
theorem gw44 : Jvm.Cond.code ⟨"LeftAnswers$Sentence", "<init>", "()V"⟩ prog_10_method_1_code 2 none ∈ gtb := gtb_t2 (i := 74) rfl (by decide +kernel)
set_option maxRecDepth 100000 in
theorem gw45 : Jvm.Cond.instanceMethod ⟨"LeftAnswers$Sentence", "<init>", "()V"⟩ ∈ gtb := gtb_t2 (i := 73) rfl (by decide +kernel)
set_option maxRecDepth 100000 in
theorem gw46 : Jvm.Cond.fieldLink "LeftAnswers" 53 "LeftAnswers" "sentence" "LLeftAnswers$Sentence;" ∈ gtb := gtb_t2 (i := 197) rfl (by decide +kernel)
set_option maxRecDepth 100000 in
theorem gw47 : Jvm.Cond.fieldLink "LeftAnswers" 57 "LeftAnswers" "spareSentence" "LLeftAnswers$Sentence;" ∈ gtb := gtb_t2 (i := 198) rfl (by decide +kernel)
set_option maxRecDepth 100000 in
theorem gw48 : Jvm.Cond.classLink "LeftAnswers" 60 "LeftAnswers$Parted" ∈ gtb := gtb_t2 (i := 99) rfl (by decide +kernel)
set_option maxRecDepth 100000 in
theorem gw49 : Jvm.Cond.instantiable "LeftAnswers$Parted" 6 ∈ gtb := gtb_t2 (i := 100) rfl (by decide +kernel)
set_option maxRecDepth 100000 in
theorem gw50 : Jvm.Cond.initialized "LeftAnswers$Parted" ∈ gtb := gtb_t1 (i := 10) rfl (by decide +kernel)
set_option maxRecDepth 100000 in
theorem gw51 : Jvm.Cond.methodLink "LeftAnswers" 62 ⟨"LeftAnswers$Parted", "<init>", "()V"⟩ ∈ gtb := gtb_t2 (i := 101) rfl (by decide +kernel)
set_option maxRecDepth 100000 in
theorem gw52 : Jvm.Cond.code ⟨"LeftAnswers$Parted", "<init>", "()V"⟩ prog_8_method_1_code 1 none ∈ gtb := gtb_t2 (i := 103) rfl (by decide +kernel)
set_option maxRecDepth 100000 in
theorem gw53 : Jvm.Cond.instanceMethod ⟨"LeftAnswers$Parted", "<init>", "()V"⟩ ∈ gtb := gtb_t2 (i := 102) rfl (by decide +kernel)
set_option maxRecDepth 100000 in
theorem gw54 : Jvm.Cond.fieldLink "LeftAnswers" 63 "LeftAnswers" "parted" "LLeftAnswers$Parted;" ∈ gtb := gtb_t2 (i := 199) rfl (by decide +kernel)
set_option maxRecDepth 100000 in
theorem gw55 : Jvm.Cond.classLink "LeftAnswers" 67 "LeftAnswers$Pairs" ∈ gtb := gtb_t2 (i := 125) rfl (by decide +kernel)
set_option maxRecDepth 100000 in
theorem gw56 : Jvm.Cond.instantiable "LeftAnswers$Pairs" 5 ∈ gtb := gtb_t2 (i := 126) rfl (by decide +kernel)
set_option maxRecDepth 100000 in
theorem gw57 : Jvm.Cond.initialized "LeftAnswers$Pairs" ∈ gtb := gtb_t1 (i := 11) rfl (by decide +kernel)
set_option maxRecDepth 100000 in
theorem gw58 : Jvm.Cond.methodLink "LeftAnswers" 69 ⟨"LeftAnswers$Pairs", "<init>", "()V"⟩ ∈ gtb := gtb_t2 (i := 127) rfl (by decide +kernel)
set_option maxRecDepth 100000 in
theorem gw59 : Jvm.Cond.code ⟨"LeftAnswers$Pairs", "<init>", "()V"⟩ prog_7_method_1_code 2 none ∈ gtb := gtb_t2 (i := 129) rfl (by decide +kernel)
set_option maxRecDepth 100000 in
theorem gw60 : Jvm.Cond.instanceMethod ⟨"LeftAnswers$Pairs", "<init>", "()V"⟩ ∈ gtb := gtb_t2 (i := 128) rfl (by decide +kernel)
set_option maxRecDepth 100000 in
theorem gw61 : Jvm.Cond.fieldLink "LeftAnswers" 70 "LeftAnswers" "pairs" "LLeftAnswers$Pairs;" ∈ gtb := gtb_t2 (i := 200) rfl (by decide +kernel)
set_option maxRecDepth 100000 in
theorem gw62 : Jvm.Cond.classLink "LeftAnswers" 74 "LeftAnswers$Slip" ∈ gtb := gtb_t2 (i := 148) rfl (by decide +kernel)
set_option maxRecDepth 100000 in
theorem gw63 : Jvm.Cond.instantiable "LeftAnswers$Slip" 2 ∈ gtb := gtb_t2 (i := 149) rfl (by decide +kernel)
set_option maxRecDepth 100000 in
theorem gw64 : Jvm.Cond.initialized "LeftAnswers$Slip" ∈ gtb := gtb_t1 (i := 12) rfl (by decide +kernel)
set_option maxRecDepth 100000 in
theorem gw65 : Jvm.Cond.methodLink "LeftAnswers" 76 ⟨"LeftAnswers$Slip", "<init>", "()V"⟩ ∈ gtb := gtb_t2 (i := 150) rfl (by decide +kernel)
set_option maxRecDepth 100000 in
theorem gw66 : Jvm.Cond.code ⟨"LeftAnswers$Slip", "<init>", "()V"⟩ prog_11_method_1_code 1 none ∈ gtb := gtb_t2 (i := 152) rfl (by decide +kernel)
set_option maxRecDepth 100000 in
theorem gw67 : Jvm.Cond.instanceMethod ⟨"LeftAnswers$Slip", "<init>", "()V"⟩ ∈ gtb := gtb_t2 (i := 151) rfl (by decide +kernel)
set_option maxRecDepth 100000 in
theorem gw68 : Jvm.Cond.fieldLink "LeftAnswers" 77 "LeftAnswers" "slip" "LLeftAnswers$Slip;" ∈ gtb := gtb_t2 (i := 201) rfl (by decide +kernel)
set_option maxRecDepth 100000 in
theorem gw69 : Jvm.Cond.classLink "LeftAnswers" 81 "LeftAnswers$Image" ∈ gtb := gtb_t2 (i := 163) rfl (by decide +kernel)
set_option maxRecDepth 100000 in
theorem gw70 : Jvm.Cond.instantiable "LeftAnswers$Image" 4 ∈ gtb := gtb_t2 (i := 165) rfl (by decide +kernel)
set_option maxRecDepth 100000 in
theorem gw71 : Jvm.Cond.initialized "LeftAnswers$Image" ∈ gtb := gtb_t1 (i := 13) rfl (by decide +kernel)
set_option maxRecDepth 100000 in
theorem gw72 : Jvm.Cond.methodLink "LeftAnswers" 83 ⟨"LeftAnswers$Image", "<init>", "()V"⟩ ∈ gtb := gtb_t2 (i := 166) rfl (by decide +kernel)
set_option maxRecDepth 100000 in
theorem gw73 : Jvm.Cond.code ⟨"LeftAnswers$Image", "<init>", "()V"⟩ prog_5_method_1_code 1 none ∈ gtb := gtb_t2 (i := 168) rfl (by decide +kernel)
set_option maxRecDepth 100000 in
theorem gw74 : Jvm.Cond.instanceMethod ⟨"LeftAnswers$Image", "<init>", "()V"⟩ ∈ gtb := gtb_t2 (i := 167) rfl (by decide +kernel)
set_option maxRecDepth 100000 in
theorem gw75 : Jvm.Cond.fieldLink "LeftAnswers" 84 "LeftAnswers" "images" "[LLeftAnswers$Image;" ∈ gtb := gtb_t2 (i := 202) rfl (by decide +kernel)
set_option maxRecDepth 100000 in
theorem gw76 : Jvm.Cond.fieldLink "LeftAnswers" 88 "LeftAnswers" "latestFault" "I" ∈ gtb := gtb_t2 (i := 203) rfl (by decide +kernel)
set_option maxRecDepth 100000 in
theorem gw77 : Jvm.Cond.fieldLink "LeftAnswers" 92 "LeftAnswers" "fitBits" "I" ∈ gtb := gtb_t2 (i := 204) rfl (by decide +kernel)
set_option maxRecDepth 100000 in
theorem gw78 : Jvm.Cond.fieldLink "LeftAnswers" 95 "LeftAnswers" "testDeed" "I" ∈ gtb := gtb_t2 (i := 205) rfl (by decide +kernel)
set_option maxRecDepth 100000 in
theorem gw79 : Jvm.Cond.fieldLink "LeftAnswers" 98 "LeftAnswers" "guardBits" "I" ∈ gtb := gtb_t2 (i := 206) rfl (by decide +kernel)
set_option maxRecDepth 100000 in
theorem gw80 : Jvm.Cond.methodLink "LeftAnswers" 130 ⟨"LeftAnswers", "isPerson", "(I)Z"⟩ ∈ gtb := gtb_t3 (i := 162) rfl (by decide +kernel)
set_option maxRecDepth 100000 in
theorem gw81 : Jvm.Cond.selects "LeftAnswers" ⟨"LeftAnswers", "isPerson", "(I)Z"⟩ ⟨"LeftAnswers", "isPerson", "(I)Z"⟩ ∈ gtb := gtb_in (i := 12) (by decide +kernel) (by decide +kernel)
set_option maxRecDepth 100000 in
theorem gw82 : Jvm.Cond.code ⟨"LeftAnswers", "isPerson", "(I)Z"⟩ prog_1_method_41_code 2 (some .boolean) ∈ gtb := gtb_t3 (i := 165) rfl (by decide +kernel)
set_option maxRecDepth 100000 in
theorem gw83 : Jvm.Cond.initialized "LeftAnswers" ∈ gtb := gtb_t1 (i := 1) rfl (by decide +kernel)
set_option maxRecDepth 100000 in
theorem gw84 : Jvm.Cond.instanceMethod ⟨"LeftAnswers", "isPerson", "(I)Z"⟩ ∈ gtb := gtb_t3 (i := 164) rfl (by decide +kernel)
set_option maxRecDepth 100000 in
theorem gw85 : Jvm.Cond.methodLink "LeftAnswers" 174 ⟨"LeftAnswers", "isDeed", "(I)Z"⟩ ∈ gtb := gtb_t3 (i := 177) rfl (by decide +kernel)
set_option maxRecDepth 100000 in
theorem gw86 : Jvm.Cond.selects "LeftAnswers" ⟨"LeftAnswers", "isDeed", "(I)Z"⟩ ⟨"LeftAnswers", "isDeed", "(I)Z"⟩ ∈ gtb := gtb_in (i := 13) (by decide +kernel) (by decide +kernel)
set_option maxRecDepth 100000 in
theorem gw87 : Jvm.Cond.code ⟨"LeftAnswers", "isDeed", "(I)Z"⟩ prog_1_method_42_code 2 (some .boolean) ∈ gtb := gtb_t3 (i := 180) rfl (by decide +kernel)
set_option maxRecDepth 100000 in
theorem gw88 : Jvm.Cond.instanceMethod ⟨"LeftAnswers", "isDeed", "(I)Z"⟩ ∈ gtb := gtb_t3 (i := 179) rfl (by decide +kernel)
set_option maxRecDepth 100000 in
theorem gw89 : Jvm.Cond.methodLink "LeftAnswers" 238 ⟨"LeftAnswers$Life", "ableBits", "(LLeftAnswers$Duchy;II)I"⟩ ∈ gtb := gtb_t4 (i := 92) rfl (by decide +kernel)
set_option maxRecDepth 100000 in
theorem gw90 : Jvm.Cond.selects "LeftAnswers$Life" ⟨"LeftAnswers$Life", "ableBits", "(LLeftAnswers$Duchy;II)I"⟩ ⟨"LeftAnswers$Life", "ableBits", "(LLeftAnswers$Duchy;II)I"⟩ ∈ gtb := gtb_t4 (i := 94) rfl (by decide +kernel)
set_option maxRecDepth 100000 in
theorem gw91 : Jvm.Cond.code ⟨"LeftAnswers$Life", "ableBits", "(LLeftAnswers$Duchy;II)I"⟩ prog_6_method_28_code 6 (some .int) ∈ gtb := gtb_t4 (i := 95) rfl (by decide +kernel)
set_option maxRecDepth 100000 in
theorem gw92 : Jvm.Cond.instanceMethod ⟨"LeftAnswers$Life", "ableBits", "(LLeftAnswers$Duchy;II)I"⟩ ∈ gtb := gtb_t4 (i := 93) rfl (by decide +kernel)
set_option maxRecDepth 100000 in
theorem gw93 : Jvm.Cond.methodLink "LeftAnswers" 370 ⟨"LeftAnswers$Life", "whyNot", "(LLeftAnswers$Duchy;IIII)I"⟩ ∈ gtb := gtb_t3 (i := 222) rfl (by decide +kernel)
set_option maxRecDepth 100000 in
theorem gw94 : Jvm.Cond.selects "LeftAnswers$Life" ⟨"LeftAnswers$Life", "whyNot", "(LLeftAnswers$Duchy;IIII)I"⟩ ⟨"LeftAnswers$Life", "whyNot", "(LLeftAnswers$Duchy;IIII)I"⟩ ∈ gtb := gtb_t3 (i := 224) rfl (by decide +kernel)
set_option maxRecDepth 100000 in
theorem gw95 : Jvm.Cond.code ⟨"LeftAnswers$Life", "whyNot", "(LLeftAnswers$Duchy;IIII)I"⟩ prog_6_method_14_code 6 (some .int) ∈ gtb := gtb_t3 (i := 225) rfl (by decide +kernel)
set_option maxRecDepth 100000 in
theorem gw96 : Jvm.Cond.instanceMethod ⟨"LeftAnswers$Life", "whyNot", "(LLeftAnswers$Duchy;IIII)I"⟩ ∈ gtb := gtb_t3 (i := 223) rfl (by decide +kernel)
set_option maxRecDepth 100000 in
theorem gw97 : Jvm.Cond.methodLink "LeftAnswers" 226 ⟨"LeftAnswers$Past", "keep", "(LLeftAnswers$Life;)V"⟩ ∈ gtb := gtb_t4 (i := 11) rfl (by decide +kernel)
set_option maxRecDepth 100000 in
theorem gw98 : Jvm.Cond.selects "LeftAnswers$Past" ⟨"LeftAnswers$Past", "keep", "(LLeftAnswers$Life;)V"⟩ ⟨"LeftAnswers$Past", "keep", "(LLeftAnswers$Life;)V"⟩ ∈ gtb := gtb_t4 (i := 13) rfl (by decide +kernel)
set_option maxRecDepth 100000 in
theorem gw99 : Jvm.Cond.code ⟨"LeftAnswers$Past", "keep", "(LLeftAnswers$Life;)V"⟩ prog_9_method_3_code 2 none ∈ gtb := gtb_t4 (i := 14) rfl (by decide +kernel)
set_option maxRecDepth 100000 in
theorem gw100 : Jvm.Cond.instanceMethod ⟨"LeftAnswers$Past", "keep", "(LLeftAnswers$Life;)V"⟩ ∈ gtb := gtb_t4 (i := 12) rfl (by decide +kernel)
set_option maxRecDepth 100000 in
theorem gw101 : Jvm.Cond.methodLink "LeftAnswers" 374 ⟨"LeftAnswers$Life", "perform", "(LLeftAnswers$Duchy;IIII)V"⟩ ∈ gtb := gtb_t4 (i := 22) rfl (by decide +kernel)
set_option maxRecDepth 100000 in
theorem gw102 : Jvm.Cond.selects "LeftAnswers$Life" ⟨"LeftAnswers$Life", "perform", "(LLeftAnswers$Duchy;IIII)V"⟩ ⟨"LeftAnswers$Life", "perform", "(LLeftAnswers$Duchy;IIII)V"⟩ ∈ gtb := gtb_t4 (i := 24) rfl (by decide +kernel)
set_option maxRecDepth 100000 in
theorem gw103 : Jvm.Cond.code ⟨"LeftAnswers$Life", "perform", "(LLeftAnswers$Duchy;IIII)V"⟩ prog_6_method_15_code 6 none ∈ gtb := gtb_t4 (i := 25) rfl (by decide +kernel)
set_option maxRecDepth 100000 in
theorem gw104 : Jvm.Cond.instanceMethod ⟨"LeftAnswers$Life", "perform", "(LLeftAnswers$Duchy;IIII)V"⟩ ∈ gtb := gtb_t4 (i := 23) rfl (by decide +kernel)
set_option maxRecDepth 100000 in
theorem gw105 : Jvm.Cond.methodLink "LeftAnswers" 214 ⟨"LeftAnswers", "act", "(IIII)I"⟩ ∈ gtb := gtb_t3 (i := 218) rfl (by decide +kernel)
set_option maxRecDepth 100000 in
theorem gw106 : Jvm.Cond.selects "LeftAnswers" ⟨"LeftAnswers", "act", "(IIII)I"⟩ ⟨"LeftAnswers", "act", "(IIII)I"⟩ ∈ gtb := gtb_in (i := 14) (by decide +kernel) (by decide +kernel)
set_option maxRecDepth 100000 in
theorem gw107 : Jvm.Cond.code ⟨"LeftAnswers", "act", "(IIII)I"⟩ prog_1_method_44_code 6 (some .int) ∈ gtb := gtb_t3 (i := 221) rfl (by decide +kernel)
set_option maxRecDepth 100000 in
theorem gw108 : Jvm.Cond.instanceMethod ⟨"LeftAnswers", "act", "(IIII)I"⟩ ∈ gtb := gtb_t3 (i := 220) rfl (by decide +kernel)
set_option maxRecDepth 100000 in
theorem gw109 : Jvm.Cond.methodLink "LeftAnswers" 290 ⟨"LeftAnswers$Pairs", "solve", "(LLeftAnswers$Duchy;LLeftAnswers$Life;)I"⟩ ∈ gtb := gtb_t4 (i := 222) rfl (by decide +kernel)
set_option maxRecDepth 100000 in
theorem gw110 : Jvm.Cond.selects "LeftAnswers$Pairs" ⟨"LeftAnswers$Pairs", "solve", "(LLeftAnswers$Duchy;LLeftAnswers$Life;)I"⟩ ⟨"LeftAnswers$Pairs", "solve", "(LLeftAnswers$Duchy;LLeftAnswers$Life;)I"⟩ ∈ gtb := gtb_t4 (i := 224) rfl (by decide +kernel)
set_option maxRecDepth 100000 in
theorem gw111 : Jvm.Cond.code ⟨"LeftAnswers$Pairs", "solve", "(LLeftAnswers$Duchy;LLeftAnswers$Life;)I"⟩ prog_7_method_2_code 7 (some .int) ∈ gtb := gtb_t4 (i := 225) rfl (by decide +kernel)
set_option maxRecDepth 100000 in
theorem gw112 : Jvm.Cond.instanceMethod ⟨"LeftAnswers$Pairs", "solve", "(LLeftAnswers$Duchy;LLeftAnswers$Life;)I"⟩ ∈ gtb := gtb_t4 (i := 223) rfl (by decide +kernel)
set_option maxRecDepth 100000 in
theorem gw113 : Jvm.Cond.fieldLink "LeftAnswers" 293 "LeftAnswers$Pairs" "partnerOf" "[I" ∈ gtb := gtb_t2 (i := 132) rfl (by decide +kernel)
set_option maxRecDepth 100000 in
theorem gw114 : Jvm.Cond.methodLink "LeftAnswers" 318 ⟨"LeftAnswers$Book", "readFrom", "(LLeftAnswers$Tape;LLeftAnswers$Duchy;)V"⟩ ∈ gtb := gtb_t5 (i := 128) rfl (by decide +kernel)
set_option maxRecDepth 100000 in
theorem gw115 : Jvm.Cond.selects "LeftAnswers$Book" ⟨"LeftAnswers$Book", "readFrom", "(LLeftAnswers$Tape;LLeftAnswers$Duchy;)V"⟩ ⟨"LeftAnswers$Book", "readFrom", "(LLeftAnswers$Tape;LLeftAnswers$Duchy;)V"⟩ ∈ gtb := gtb_t5 (i := 130) rfl (by decide +kernel)
set_option maxRecDepth 100000 in
theorem gw116 : Jvm.Cond.code ⟨"LeftAnswers$Book", "readFrom", "(LLeftAnswers$Tape;LLeftAnswers$Duchy;)V"⟩ prog_3_method_2_code 5 none ∈ gtb := gtb_t5 (i := 131) rfl (by decide +kernel)
set_option maxRecDepth 100000 in
theorem gw117 : Jvm.Cond.instanceMethod ⟨"LeftAnswers$Book", "readFrom", "(LLeftAnswers$Tape;LLeftAnswers$Duchy;)V"⟩ ∈ gtb := gtb_t5 (i := 129) rfl (by decide +kernel)
set_option maxRecDepth 100000 in
theorem gw118 : Jvm.Cond.methodLink "LeftAnswers" 112 ⟨"LeftAnswers", "takeFault", "()V"⟩ ∈ gtb := gtb_t3 (i := 141) rfl (by decide +kernel)
set_option maxRecDepth 100000 in
theorem gw119 : Jvm.Cond.selects "LeftAnswers" ⟨"LeftAnswers", "takeFault", "()V"⟩ ⟨"LeftAnswers", "takeFault", "()V"⟩ ∈ gtb := gtb_in (i := 11) (by decide +kernel) (by decide +kernel)
set_option maxRecDepth 100000 in
theorem gw120 : Jvm.Cond.code ⟨"LeftAnswers", "takeFault", "()V"⟩ prog_1_method_45_code 1 none ∈ gtb := gtb_t3 (i := 144) rfl (by decide +kernel)
set_option maxRecDepth 100000 in
theorem gw121 : Jvm.Cond.instanceMethod ⟨"LeftAnswers", "takeFault", "()V"⟩ ∈ gtb := gtb_t3 (i := 143) rfl (by decide +kernel)
set_option maxRecDepth 100000 in
theorem gw122 : Jvm.Cond.fieldLink "LeftAnswers" 115 "LeftAnswers$Tape" "faultPlace" "I" ∈ gtb := gtb_t1 (i := 68) rfl (by decide +kernel)
set_option maxRecDepth 100000 in
theorem gw123 : Jvm.Cond.methodLink "LeftAnswers" 315 ⟨"LeftAnswers$Life", "copyFrom", "(LLeftAnswers$Life;)V"⟩ ∈ gtb := gtb_t5 (i := 123) rfl (by decide +kernel)
set_option maxRecDepth 100000 in
theorem gw124 : Jvm.Cond.selects "LeftAnswers$Life" ⟨"LeftAnswers$Life", "copyFrom", "(LLeftAnswers$Life;)V"⟩ ⟨"LeftAnswers$Life", "copyFrom", "(LLeftAnswers$Life;)V"⟩ ∈ gtb := gtb_t4 (i := 17) rfl (by decide +kernel)
set_option maxRecDepth 100000 in
theorem gw125 : Jvm.Cond.code ⟨"LeftAnswers$Life", "copyFrom", "(LLeftAnswers$Life;)V"⟩ prog_6_method_3_code 2 none ∈ gtb := gtb_t4 (i := 18) rfl (by decide +kernel)
set_option maxRecDepth 100000 in
theorem gw126 : Jvm.Cond.instanceMethod ⟨"LeftAnswers$Life", "copyFrom", "(LLeftAnswers$Life;)V"⟩ ∈ gtb := gtb_t4 (i := 16) rfl (by decide +kernel)
set_option maxRecDepth 100000 in
theorem gw127 : Jvm.Cond.methodLink "LeftAnswers" 321 ⟨"LeftAnswers$Book", "liveIn", "(LLeftAnswers$Life;LLeftAnswers$Duchy;)V"⟩ ∈ gtb := gtb_t5 (i := 166) rfl (by decide +kernel)
set_option maxRecDepth 100000 in
theorem gw128 : Jvm.Cond.selects "LeftAnswers$Book" ⟨"LeftAnswers$Book", "liveIn", "(LLeftAnswers$Life;LLeftAnswers$Duchy;)V"⟩ ⟨"LeftAnswers$Book", "liveIn", "(LLeftAnswers$Life;LLeftAnswers$Duchy;)V"⟩ ∈ gtb := gtb_t5 (i := 168) rfl (by decide +kernel)
set_option maxRecDepth 100000 in
theorem gw129 : Jvm.Cond.code ⟨"LeftAnswers$Book", "liveIn", "(LLeftAnswers$Life;LLeftAnswers$Duchy;)V"⟩ prog_3_method_8_code 5 none ∈ gtb := gtb_t5 (i := 169) rfl (by decide +kernel)
set_option maxRecDepth 100000 in
theorem gw130 : Jvm.Cond.instanceMethod ⟨"LeftAnswers$Book", "liveIn", "(LLeftAnswers$Life;LLeftAnswers$Duchy;)V"⟩ ∈ gtb := gtb_t5 (i := 167) rfl (by decide +kernel)
set_option maxRecDepth 100000 in
theorem gw131 : Jvm.Cond.fieldLink "LeftAnswers" 325 "LeftAnswers$Book" "wrongLine" "I" ∈ gtb := gtb_t2 (i := 38) rfl (by decide +kernel)
set_option maxRecDepth 100000 in
theorem gw132 : Jvm.Cond.fieldLink "LeftAnswers" 306 "LeftAnswers$Slip" "length" "I" ∈ gtb := gtb_t2 (i := 157) rfl (by decide +kernel)
set_option maxRecDepth 100000 in
theorem gw133 : Jvm.Cond.fieldLink "LeftAnswers" 307 "LeftAnswers$Slip" "bytes" "[B" ∈ gtb := gtb_t2 (i := 155) rfl (by decide +kernel)
set_option maxRecDepth 100000 in
theorem gw134 : Jvm.Cond.fieldLink "LeftAnswers" 299 "LeftAnswers$Duchy" "persons" "I" ∈ gtb := gtb_t1 (i := 109) rfl (by decide +kernel)
set_option maxRecDepth 100000 in
theorem gw135 : Jvm.Cond.fieldLink "LeftAnswers" 360 "LeftAnswers$Duchy" "deeds" "I" ∈ gtb := gtb_t1 (i := 112) rfl (by decide +kernel)
set_option maxRecDepth 100000 in
theorem gw136 : Jvm.Cond.fieldLink "LeftAnswers" 363 "LeftAnswers$Duchy" "law" "I" ∈ gtb := gtb_t1 (i := 115) rfl (by decide +kernel)
set_option maxRecDepth 100000 in
theorem gw137 : Jvm.Cond.fieldLink "LeftAnswers" 366 "LeftAnswers$Duchy" "cell" "I" ∈ gtb := gtb_t1 (i := 118) rfl (by decide +kernel)
set_option maxRecDepth 100000 in
theorem gw138 : Jvm.Cond.fieldLink "LeftAnswers" 368 "LeftAnswers$Duchy" "ideas" "I" ∈ gtb := gtb_t1 (i := 121) rfl (by decide +kernel)
set_option maxRecDepth 100000 in
theorem gw139 : Jvm.Cond.fieldLink "LeftAnswers" 101 "LeftAnswers$Tape" "length" "I" ∈ gtb := gtb_t1 (i := 44) rfl (by decide +kernel)
set_option maxRecDepth 100000 in
theorem gw140 : Jvm.Cond.methodLink "LeftAnswers" 218 ⟨"LeftAnswers$Life", "daysLeft", "()I"⟩ ∈ gtb := gtb_t4 (i := 77) rfl (by decide +kernel)
set_option maxRecDepth 100000 in
theorem gw141 : Jvm.Cond.selects "LeftAnswers$Life" ⟨"LeftAnswers$Life", "daysLeft", "()I"⟩ ⟨"LeftAnswers$Life", "daysLeft", "()I"⟩ ∈ gtb := gtb_t4 (i := 9) rfl (by decide +kernel)
set_option maxRecDepth 100000 in
theorem gw142 : Jvm.Cond.code ⟨"LeftAnswers$Life", "daysLeft", "()I"⟩ prog_6_method_13_code 1 (some .int) ∈ gtb := gtb_t4 (i := 10) rfl (by decide +kernel)
set_option maxRecDepth 100000 in
theorem gw143 : Jvm.Cond.instanceMethod ⟨"LeftAnswers$Life", "daysLeft", "()I"⟩ ∈ gtb := gtb_t4 (i := 8) rfl (by decide +kernel)
set_option maxRecDepth 100000 in
theorem gw144 : Jvm.Cond.methodLink "LeftAnswers" 221 ⟨"java/lang/Math", "min", "(II)I"⟩ ∈ gtb := gtb_t4 (i := 78) rfl (by decide +kernel)
set_option maxRecDepth 100000 in
theorem gw145 : Jvm.Cond.static ⟨"java/lang/Math", "min", "(II)I"⟩ ∈ gtb := gtb_t4 (i := 31) rfl (by decide +kernel)
set_option maxRecDepth 100000 in
theorem gw146 : Jvm.Cond.initialized "java/lang/Math" ∈ gtb := gtb_t1 (i := 21) rfl (by decide +kernel)
set_option maxRecDepth 100000 in
theorem gw147 : Jvm.Cond.code ⟨"java/lang/Math", "min", "(II)I"⟩ prog_22_method_69_code 2 (some .int) ∈ gtb := gtb_t4 (i := 32) rfl (by decide +kernel)
set_option maxRecDepth 100000 in
theorem gw148 : Jvm.Cond.methodLink "LeftAnswers" 230 ⟨"LeftAnswers$Life", "passDays", "(LLeftAnswers$Duchy;I)V"⟩ ∈ gtb := gtb_t4 (i := 79) rfl (by decide +kernel)
set_option maxRecDepth 100000 in
theorem gw149 : Jvm.Cond.selects "LeftAnswers$Life" ⟨"LeftAnswers$Life", "passDays", "(LLeftAnswers$Duchy;I)V"⟩ ⟨"LeftAnswers$Life", "passDays", "(LLeftAnswers$Duchy;I)V"⟩ ∈ gtb := gtb_t4 (i := 51) rfl (by decide +kernel)
