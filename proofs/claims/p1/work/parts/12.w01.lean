set_option maxRecDepth 100000 in
theorem gw150 : Jvm.Cond.methodLink "LeftAnswers" 104 ⟨"LeftAnswers$Tape", "put", "(I)V"⟩ ∈ gtb := gtb_in (i := 610) (by decide +kernel) (by decide +kernel)
set_option maxRecDepth 100000 in
theorem gw151 : Jvm.Cond.selects "LeftAnswers$Tape" ⟨"LeftAnswers$Tape", "put", "(I)V"⟩ ⟨"LeftAnswers$Tape", "put", "(I)V"⟩ ∈ gtb := gtb_in (i := 612) (by decide +kernel) (by decide +kernel)
set_option maxRecDepth 100000 in
theorem gw152 : Jvm.Cond.code ⟨"LeftAnswers$Tape", "put", "(I)V"⟩ prog_12_method_2_code 3 none ∈ gtb := gtb_in (i := 613) (by decide +kernel) (by decide +kernel)
set_option maxRecDepth 100000 in
theorem gw153 : Jvm.Cond.instanceMethod ⟨"LeftAnswers$Tape", "put", "(I)V"⟩ ∈ gtb := gtb_in (i := 611) (by decide +kernel) (by decide +kernel)
set_option maxRecDepth 100000 in
theorem gw154 : Jvm.Cond.methodLink "LeftAnswers" 281 ⟨"LeftAnswers", "bitAt", "(II)I"⟩ ∈ gtb := gtb_in (i := 1027) (by decide +kernel) (by decide +kernel)
set_option maxRecDepth 100000 in
theorem gw155 : Jvm.Cond.code ⟨"LeftAnswers", "bitAt", "(II)I"⟩ prog_1_method_48_code 4 (some .int) ∈ gtb := gtb_in (i := 1029) (by decide +kernel) (by decide +kernel)
set_option maxRecDepth 100000 in
theorem gw156 : Jvm.Cond.static ⟨"LeftAnswers", "bitAt", "(II)I"⟩ ∈ gtb := gtb_in (i := 1028) (by decide +kernel) (by decide +kernel)
set_option maxRecDepth 100000 in
theorem gw157 : Jvm.Cond.methodLink "LeftAnswers" 287 ⟨"LeftAnswers$Duchy", "fewestGuards", "()I"⟩ ∈ gtb := gtb_in (i := 1050) (by decide +kernel) (by decide +kernel)
set_option maxRecDepth 100000 in
theorem gw158 : Jvm.Cond.selects "LeftAnswers$Duchy" ⟨"LeftAnswers$Duchy", "fewestGuards", "()I"⟩ ⟨"LeftAnswers$Duchy", "fewestGuards", "()I"⟩ ∈ gtb := gtb_in (i := 1052) (by decide +kernel) (by decide +kernel)
set_option maxRecDepth 100000 in
theorem gw159 : Jvm.Cond.code ⟨"LeftAnswers$Duchy", "fewestGuards", "()I"⟩ prog_4_method_28_code 4 (some .int) ∈ gtb := gtb_in (i := 1053) (by decide +kernel) (by decide +kernel)
set_option maxRecDepth 100000 in
theorem gw160 : Jvm.Cond.instanceMethod ⟨"LeftAnswers$Duchy", "fewestGuards", "()I"⟩ ∈ gtb := gtb_in (i := 1051) (by decide +kernel) (by decide +kernel)
set_option maxRecDepth 100000 in
theorem gw161 : Jvm.Cond.methodLink "LeftAnswers" 276 ⟨"java/lang/Integer", "bitCount", "(I)I"⟩ ∈ gtb := gtb_in (i := 1022) (by decide +kernel) (by decide +kernel)
set_option maxRecDepth 100000 in
theorem gw162 : Jvm.Cond.code ⟨"java/lang/Integer", "bitCount", "(I)I"⟩ prog_21_method_49_code 1 (some .int) ∈ gtb := gtb_in (i := 1014) (by decide +kernel) (by decide +kernel)
set_option maxRecDepth 100000 in
theorem gw163 : Jvm.Cond.initialized "java/lang/Integer" ∈ gtb := gtb_in (i := 146) (by decide +kernel) (by decide +kernel)
set_option maxRecDepth 100000 in
theorem gw164 : Jvm.Cond.static ⟨"java/lang/Integer", "bitCount", "(I)I"⟩ ∈ gtb := gtb_in (i := 1013) (by decide +kernel) (by decide +kernel)
set_option maxRecDepth 100000 in
theorem gw165 : Jvm.Cond.methodLink "LeftAnswers" 351 ⟨"LeftAnswers$Image", "keep", "(LLeftAnswers$Duchy;LLeftAnswers$Life;LLeftAnswers$Sentence;)V"⟩ ∈ gtb := gtb_in (i := 1348) (by decide +kernel) (by decide +kernel)
set_option maxRecDepth 100000 in
theorem gw166 : Jvm.Cond.selects "LeftAnswers$Image" ⟨"LeftAnswers$Image", "keep", "(LLeftAnswers$Duchy;LLeftAnswers$Life;LLeftAnswers$Sentence;)V"⟩ ⟨"LeftAnswers$Image", "keep", "(LLeftAnswers$Duchy;LLeftAnswers$Life;LLeftAnswers$Sentence;)V"⟩ ∈ gtb := gtb_in (i := 1350) (by decide +kernel) (by decide +kernel)
set_option maxRecDepth 100000 in
theorem gw167 : Jvm.Cond.code ⟨"LeftAnswers$Image", "keep", "(LLeftAnswers$Duchy;LLeftAnswers$Life;LLeftAnswers$Sentence;)V"⟩ prog_5_method_2_code 4 none ∈ gtb := gtb_in (i := 1351) (by decide +kernel) (by decide +kernel)
set_option maxRecDepth 100000 in
theorem gw168 : Jvm.Cond.instanceMethod ⟨"LeftAnswers$Image", "keep", "(LLeftAnswers$Duchy;LLeftAnswers$Life;LLeftAnswers$Sentence;)V"⟩ ∈ gtb := gtb_in (i := 1349) (by decide +kernel) (by decide +kernel)
set_option maxRecDepth 100000 in
theorem gw169 : Jvm.Cond.fieldLink "LeftAnswers" 190 "LeftAnswers$Life" "day" "I" ∈ gtb := gtb_in (i := 313) (by decide +kernel) (by decide +kernel)
set_option maxRecDepth 100000 in
theorem gw170 : Jvm.Cond.methodLink "LeftAnswers" 193 ⟨"LeftAnswers$Life", "jailedBits", "()I"⟩ ∈ gtb := gtb_in (i := 793) (by decide +kernel) (by decide +kernel)
set_option maxRecDepth 100000 in
theorem gw171 : Jvm.Cond.selects "LeftAnswers$Life" ⟨"LeftAnswers$Life", "jailedBits", "()I"⟩ ⟨"LeftAnswers$Life", "jailedBits", "()I"⟩ ∈ gtb := gtb_in (i := 795) (by decide +kernel) (by decide +kernel)
set_option maxRecDepth 100000 in
theorem gw172 : Jvm.Cond.code ⟨"LeftAnswers$Life", "jailedBits", "()I"⟩ prog_6_method_8_code 3 (some .int) ∈ gtb := gtb_in (i := 796) (by decide +kernel) (by decide +kernel)
set_option maxRecDepth 100000 in
theorem gw173 : Jvm.Cond.instanceMethod ⟨"LeftAnswers$Life", "jailedBits", "()I"⟩ ∈ gtb := gtb_in (i := 794) (by decide +kernel) (by decide +kernel)
set_option maxRecDepth 100000 in
theorem gw174 : Jvm.Cond.fieldLink "LeftAnswers" 197 "LeftAnswers$Life" "gloved" "I" ∈ gtb := gtb_in (i := 320) (by decide +kernel) (by decide +kernel)
set_option maxRecDepth 100000 in
theorem gw175 : Jvm.Cond.methodLink "LeftAnswers" 198 ⟨"LeftAnswers$Life", "wedBits", "()I"⟩ ∈ gtb := gtb_in (i := 801) (by decide +kernel) (by decide +kernel)
set_option maxRecDepth 100000 in
theorem gw176 : Jvm.Cond.selects "LeftAnswers$Life" ⟨"LeftAnswers$Life", "wedBits", "()I"⟩ ⟨"LeftAnswers$Life", "wedBits", "()I"⟩ ∈ gtb := gtb_in (i := 803) (by decide +kernel) (by decide +kernel)
set_option maxRecDepth 100000 in
theorem gw177 : Jvm.Cond.code ⟨"LeftAnswers$Life", "wedBits", "()I"⟩ prog_6_method_9_code 3 (some .int) ∈ gtb := gtb_in (i := 804) (by decide +kernel) (by decide +kernel)
set_option maxRecDepth 100000 in
theorem gw178 : Jvm.Cond.instanceMethod ⟨"LeftAnswers$Life", "wedBits", "()I"⟩ ∈ gtb := gtb_in (i := 802) (by decide +kernel) (by decide +kernel)
set_option maxRecDepth 100000 in
theorem gw179 : Jvm.Cond.methodLink "LeftAnswers" 201 ⟨"LeftAnswers$Life", "seenBits", "(LLeftAnswers$Duchy;)I"⟩ ∈ gtb := gtb_in (i := 809) (by decide +kernel) (by decide +kernel)
set_option maxRecDepth 100000 in
theorem gw180 : Jvm.Cond.selects "LeftAnswers$Life" ⟨"LeftAnswers$Life", "seenBits", "(LLeftAnswers$Duchy;)I"⟩ ⟨"LeftAnswers$Life", "seenBits", "(LLeftAnswers$Duchy;)I"⟩ ∈ gtb := gtb_in (i := 811) (by decide +kernel) (by decide +kernel)
set_option maxRecDepth 100000 in
theorem gw181 : Jvm.Cond.code ⟨"LeftAnswers$Life", "seenBits", "(LLeftAnswers$Duchy;)I"⟩ prog_6_method_11_code 5 (some .int) ∈ gtb := gtb_in (i := 812) (by decide +kernel) (by decide +kernel)
set_option maxRecDepth 100000 in
theorem gw182 : Jvm.Cond.instanceMethod ⟨"LeftAnswers$Life", "seenBits", "(LLeftAnswers$Duchy;)I"⟩ ∈ gtb := gtb_in (i := 810) (by decide +kernel) (by decide +kernel)
set_option maxRecDepth 100000 in
theorem gw183 : Jvm.Cond.methodLink "LeftAnswers" 205 ⟨"LeftAnswers$Life", "allCoins", "()I"⟩ ∈ gtb := gtb_in (i := 814) (by decide +kernel) (by decide +kernel)
set_option maxRecDepth 100000 in
theorem gw184 : Jvm.Cond.selects "LeftAnswers$Life" ⟨"LeftAnswers$Life", "allCoins", "()I"⟩ ⟨"LeftAnswers$Life", "allCoins", "()I"⟩ ∈ gtb := gtb_in (i := 816) (by decide +kernel) (by decide +kernel)
set_option maxRecDepth 100000 in
theorem gw185 : Jvm.Cond.code ⟨"LeftAnswers$Life", "allCoins", "()I"⟩ prog_6_method_12_code 3 (some .int) ∈ gtb := gtb_in (i := 817) (by decide +kernel) (by decide +kernel)
set_option maxRecDepth 100000 in
theorem gw186 : Jvm.Cond.instanceMethod ⟨"LeftAnswers$Life", "allCoins", "()I"⟩ ∈ gtb := gtb_in (i := 815) (by decide +kernel) (by decide +kernel)
set_option maxRecDepth 100000 in
theorem gw187 : Jvm.Cond.fieldLink "LeftAnswers" 208 "LeftAnswers$Life" "hadUp" "I" ∈ gtb := gtb_in (i := 315) (by decide +kernel) (by decide +kernel)
set_option maxRecDepth 100000 in
theorem gw188 : Jvm.Cond.fieldLink "LeftAnswers" 211 "LeftAnswers$Life" "done" "I" ∈ gtb := gtb_in (i := 317) (by decide +kernel) (by decide +kernel)
set_option maxRecDepth 100000 in
theorem gw189 : Jvm.Cond.methodLink "LeftAnswers" 260 ⟨"LeftAnswers$Parted", "placeOf", "(I)I"⟩ ∈ gtb := gtb_in (i := 982) (by decide +kernel) (by decide +kernel)
set_option maxRecDepth 100000 in
theorem gw190 : Jvm.Cond.selects "LeftAnswers$Parted" ⟨"LeftAnswers$Parted", "placeOf", "(I)I"⟩ ⟨"LeftAnswers$Parted", "placeOf", "(I)I"⟩ ∈ gtb := gtb_in (i := 984) (by decide +kernel) (by decide +kernel)
set_option maxRecDepth 100000 in
theorem gw191 : Jvm.Cond.code ⟨"LeftAnswers$Parted", "placeOf", "(I)I"⟩ prog_8_method_6_code 2 (some .int) ∈ gtb := gtb_in (i := 985) (by decide +kernel) (by decide +kernel)
set_option maxRecDepth 100000 in
theorem gw192 : Jvm.Cond.instanceMethod ⟨"LeftAnswers$Parted", "placeOf", "(I)I"⟩ ∈ gtb := gtb_in (i := 983) (by decide +kernel) (by decide +kernel)
set_option maxRecDepth 100000 in
theorem gw193 : Jvm.Cond.fieldLink "LeftAnswers" 354 "LeftAnswers$Image" "kept" "Z" ∈ gtb := gtb_in (i := 541) (by decide +kernel) (by decide +kernel)
set_option maxRecDepth 100000 in
theorem gw194 : Jvm.Cond.fieldLink "LeftAnswers" 345 "LeftAnswers$Sentence" "ones" "I" ∈ gtb := gtb_in (i := 444) (by decide +kernel) (by decide +kernel)
set_option maxRecDepth 100000 in
theorem gw195 : Jvm.Cond.methodLink "LeftAnswers" 344 ⟨"LeftAnswers$Sentence", "readFrom", "(LLeftAnswers$Tape;LLeftAnswers$Duchy;)V"⟩ ∈ gtb := gtb_in (i := 1265) (by decide +kernel) (by decide +kernel)
set_option maxRecDepth 100000 in
theorem gw196 : Jvm.Cond.selects "LeftAnswers$Sentence" ⟨"LeftAnswers$Sentence", "readFrom", "(LLeftAnswers$Tape;LLeftAnswers$Duchy;)V"⟩ ⟨"LeftAnswers$Sentence", "readFrom", "(LLeftAnswers$Tape;LLeftAnswers$Duchy;)V"⟩ ∈ gtb := gtb_in (i := 1267) (by decide +kernel) (by decide +kernel)
set_option maxRecDepth 100000 in
theorem gw197 : Jvm.Cond.code ⟨"LeftAnswers$Sentence", "readFrom", "(LLeftAnswers$Tape;LLeftAnswers$Duchy;)V"⟩ prog_10_method_4_code 3 none ∈ gtb := gtb_in (i := 1268) (by decide +kernel) (by decide +kernel)
set_option maxRecDepth 100000 in
theorem gw198 : Jvm.Cond.instanceMethod ⟨"LeftAnswers$Sentence", "readFrom", "(LLeftAnswers$Tape;LLeftAnswers$Duchy;)V"⟩ ∈ gtb := gtb_in (i := 1266) (by decide +kernel) (by decide +kernel)
set_option maxRecDepth 100000 in
theorem gw199 : Jvm.Cond.fieldLink "LeftAnswers" 115 "LeftAnswers$Tape" "faultPlace" "I" ∈ gtb := gtb_in (i := 192) (by decide +kernel) (by decide +kernel)
set_option maxRecDepth 100000 in
theorem gw200 : Jvm.Cond.fieldLink "LeftAnswers" 378 "LeftAnswers$Tape" "fault" "I" ∈ gtb := gtb_in (i := 190) (by decide +kernel) (by decide +kernel)
set_option maxRecDepth 100000 in
theorem gw201 : Jvm.Cond.fieldLink "LeftAnswers" 328 "LeftAnswers$Book" "judged" "Z" ∈ gtb := gtb_in (i := 400) (by decide +kernel) (by decide +kernel)
set_option maxRecDepth 100000 in
theorem gw202 : Jvm.Cond.methodLink "LeftAnswers" 234 ⟨"LeftAnswers$Past", "takeBack", "(LLeftAnswers$Life;)I"⟩ ∈ gtb := gtb_in (i := 928) (by decide +kernel) (by decide +kernel)
set_option maxRecDepth 100000 in
theorem gw203 : Jvm.Cond.selects "LeftAnswers$Past" ⟨"LeftAnswers$Past", "takeBack", "(LLeftAnswers$Life;)I"⟩ ⟨"LeftAnswers$Past", "takeBack", "(LLeftAnswers$Life;)I"⟩ ∈ gtb := gtb_in (i := 930) (by decide +kernel) (by decide +kernel)
set_option maxRecDepth 100000 in
theorem gw204 : Jvm.Cond.code ⟨"LeftAnswers$Past", "takeBack", "(LLeftAnswers$Life;)I"⟩ prog_9_method_4_code 2 (some .int) ∈ gtb := gtb_in (i := 931) (by decide +kernel) (by decide +kernel)
set_option maxRecDepth 100000 in
theorem gw205 : Jvm.Cond.instanceMethod ⟨"LeftAnswers$Past", "takeBack", "(LLeftAnswers$Life;)I"⟩ ∈ gtb := gtb_in (i := 929) (by decide +kernel) (by decide +kernel)
set_option maxRecDepth 100000 in
theorem gw206 : Jvm.Cond.methodLink "LeftAnswers$Book" 3 ⟨"java/lang/Object", "<init>", "()V"⟩ ∈ gtb := gtb_in (i := 393) (by decide +kernel) (by decide +kernel)
set_option maxRecDepth 100000 in
theorem gw207 : Jvm.Cond.arrayClass .int ∈ gtb := gtb_in (i := 300) (by decide +kernel) (by decide +kernel)
set_option maxRecDepth 100000 in
theorem gw208 : Jvm.Cond.fieldLink "LeftAnswers$Book" 11 "LeftAnswers$Book" "verbs" "[I" ∈ gtb := gtb_in (i := 394) (by decide +kernel) (by decide +kernel)
set_option maxRecDepth 100000 in
theorem gw209 : Jvm.Cond.fieldLink "LeftAnswers$Book" 15 "LeftAnswers$Book" "doers" "[I" ∈ gtb := gtb_in (i := 395) (by decide +kernel) (by decide +kernel)
set_option maxRecDepth 100000 in
theorem gw210 : Jvm.Cond.fieldLink "LeftAnswers$Book" 18 "LeftAnswers$Book" "others" "[I" ∈ gtb := gtb_in (i := 396) (by decide +kernel) (by decide +kernel)
set_option maxRecDepth 100000 in
theorem gw211 : Jvm.Cond.fieldLink "LeftAnswers$Book" 21 "LeftAnswers$Book" "hands" "[I" ∈ gtb := gtb_in (i := 397) (by decide +kernel) (by decide +kernel)
set_option maxRecDepth 100000 in
theorem gw212 : Jvm.Cond.fieldLink "LeftAnswers$Book" 101 "LeftAnswers$Book" "why" "I" ∈ gtb := gtb_in (i := 403) (by decide +kernel) (by decide +kernel)
set_option maxRecDepth 100000 in
theorem gw213 : Jvm.Cond.fieldLink "LeftAnswers$Book" 104 "LeftAnswers$Book" "wrongLine" "I" ∈ gtb := gtb_in (i := 401) (by decide +kernel) (by decide +kernel)
set_option maxRecDepth 100000 in
theorem gw214 : Jvm.Cond.fieldLink "LeftAnswers$Book" 107 "LeftAnswers$Book" "goodLines" "I" ∈ gtb := gtb_in (i := 405) (by decide +kernel) (by decide +kernel)
set_option maxRecDepth 100000 in
theorem gw215 : Jvm.Cond.fieldLink "LeftAnswers$Book" 24 "LeftAnswers$Book" "lines" "I" ∈ gtb := gtb_in (i := 398) (by decide +kernel) (by decide +kernel)
set_option maxRecDepth 100000 in
theorem gw216 : Jvm.Cond.fieldLink "LeftAnswers$Book" 120 "LeftAnswers$Life" "day" "I" ∈ gtb := gtb_in (i := 312) (by decide +kernel) (by decide +kernel)
set_option maxRecDepth 100000 in
theorem gw217 : Jvm.Cond.fieldLink "LeftAnswers$Book" 123 "LeftAnswers$Book" "dayThen" "I" ∈ gtb := gtb_in (i := 407) (by decide +kernel) (by decide +kernel)
set_option maxRecDepth 100000 in
theorem gw218 : Jvm.Cond.methodLink "LeftAnswers$Book" 126 ⟨"LeftAnswers$Life", "jailedBits", "()I"⟩ ∈ gtb := gtb_in (i := 1256) (by decide +kernel) (by decide +kernel)
set_option maxRecDepth 100000 in
theorem gw219 : Jvm.Cond.fieldLink "LeftAnswers$Book" 129 "LeftAnswers$Book" "jailedThen" "I" ∈ gtb := gtb_in (i := 409) (by decide +kernel) (by decide +kernel)
set_option maxRecDepth 100000 in
theorem gw220 : Jvm.Cond.fieldLink "LeftAnswers$Book" 132 "LeftAnswers$Book" "judged" "Z" ∈ gtb := gtb_in (i := 399) (by decide +kernel) (by decide +kernel)
set_option maxRecDepth 100000 in
theorem gw221 : Jvm.Cond.methodLink "LeftAnswers$Book" 28 ⟨"LeftAnswers$Tape", "open", "(I)V"⟩ ∈ gtb := gtb_in (i := 1216) (by decide +kernel) (by decide +kernel)
set_option maxRecDepth 100000 in
theorem gw222 : Jvm.Cond.selects "LeftAnswers$Tape" ⟨"LeftAnswers$Tape", "open", "(I)V"⟩ ⟨"LeftAnswers$Tape", "open", "(I)V"⟩ ∈ gtb := gtb_in (i := 632) (by decide +kernel) (by decide +kernel)
set_option maxRecDepth 100000 in
theorem gw223 : Jvm.Cond.code ⟨"LeftAnswers$Tape", "open", "(I)V"⟩ prog_12_method_4_code 2 none ∈ gtb := gtb_in (i := 633) (by decide +kernel) (by decide +kernel)
set_option maxRecDepth 100000 in
theorem gw224 : Jvm.Cond.instanceMethod ⟨"LeftAnswers$Tape", "open", "(I)V"⟩ ∈ gtb := gtb_in (i := 631) (by decide +kernel) (by decide +kernel)
set_option maxRecDepth 100000 in
theorem gw225 : Jvm.Cond.fieldLink "LeftAnswers$Book" 34 "LeftAnswers$Tape" "kind" "I" ∈ gtb := gtb_in (i := 172) (by decide +kernel) (by decide +kernel)
set_option maxRecDepth 100000 in
theorem gw226 : Jvm.Cond.methodLink "LeftAnswers$Duchy" 3 ⟨"java/lang/Object", "<init>", "()V"⟩ ∈ gtb := gtb_in (i := 224) (by decide +kernel) (by decide +kernel)
set_option maxRecDepth 100000 in
theorem gw227 : Jvm.Cond.arrayClass .long ∈ gtb := gtb_in (i := 299) (by decide +kernel) (by decide +kernel)
set_option maxRecDepth 100000 in
theorem gw228 : Jvm.Cond.fieldLink "LeftAnswers$Duchy" 9 "LeftAnswers$Duchy" "personNames" "[J" ∈ gtb := gtb_in (i := 249) (by decide +kernel) (by decide +kernel)
set_option maxRecDepth 100000 in
theorem gw229 : Jvm.Cond.fieldLink "LeftAnswers$Duchy" 15 "LeftAnswers$Duchy" "right" "[I" ∈ gtb := gtb_in (i := 251) (by decide +kernel) (by decide +kernel)
set_option maxRecDepth 100000 in
theorem gw230 : Jvm.Cond.fieldLink "LeftAnswers$Duchy" 19 "LeftAnswers$Duchy" "left" "[I" ∈ gtb := gtb_in (i := 252) (by decide +kernel) (by decide +kernel)
set_option maxRecDepth 100000 in
theorem gw231 : Jvm.Cond.fieldLink "LeftAnswers$Duchy" 22 "LeftAnswers$Duchy" "watchers" "[I" ∈ gtb := gtb_in (i := 263) (by decide +kernel) (by decide +kernel)
set_option maxRecDepth 100000 in
theorem gw232 : Jvm.Cond.fieldLink "LeftAnswers$Duchy" 25 "LeftAnswers$Duchy" "fond" "[I" ∈ gtb := gtb_in (i := 265) (by decide +kernel) (by decide +kernel)
set_option maxRecDepth 100000 in
theorem gw233 : Jvm.Cond.fieldLink "LeftAnswers$Duchy" 28 "LeftAnswers$Duchy" "deedNames" "[J" ∈ gtb := gtb_in (i := 253) (by decide +kernel) (by decide +kernel)
set_option maxRecDepth 100000 in
theorem gw234 : Jvm.Cond.fieldLink "LeftAnswers$Duchy" 31 "LeftAnswers$Duchy" "hard" "[I" ∈ gtb := gtb_in (i := 254) (by decide +kernel) (by decide +kernel)
set_option maxRecDepth 100000 in
theorem gw235 : Jvm.Cond.fieldLink "LeftAnswers$Duchy" 34 "LeftAnswers$Duchy" "pay" "[I" ∈ gtb := gtb_in (i := 257) (by decide +kernel) (by decide +kernel)
set_option maxRecDepth 100000 in
theorem gw236 : Jvm.Cond.fieldLink "LeftAnswers$Duchy" 37 "LeftAnswers$Duchy" "blame" "[I" ∈ gtb := gtb_in (i := 260) (by decide +kernel) (by decide +kernel)
set_option maxRecDepth 100000 in
theorem gw237 : Jvm.Cond.methodLink "LeftAnswers$Duchy" 40 ⟨"LeftAnswers$Duchy", "fillIn", "()V"⟩ ∈ gtb := gtb_in (i := 225) (by decide +kernel) (by decide +kernel)
set_option maxRecDepth 100000 in
theorem gw238 : Jvm.Cond.selects "LeftAnswers$Duchy" ⟨"LeftAnswers$Duchy", "fillIn", "()V"⟩ ⟨"LeftAnswers$Duchy", "fillIn", "()V"⟩ ∈ gtb := gtb_in (i := 0) (by decide +kernel) (by decide +kernel)
set_option maxRecDepth 100000 in
theorem gw239 : Jvm.Cond.code ⟨"LeftAnswers$Duchy", "fillIn", "()V"⟩ prog_4_method_5_code 1 none ∈ gtb := gtb_in (i := 228) (by decide +kernel) (by decide +kernel)
set_option maxRecDepth 100000 in
theorem gw240 : Jvm.Cond.instanceMethod ⟨"LeftAnswers$Duchy", "fillIn", "()V"⟩ ∈ gtb := gtb_in (i := 227) (by decide +kernel) (by decide +kernel)
set_option maxRecDepth 100000 in
theorem gw241 : Jvm.Cond.fieldLink "LeftAnswers$Duchy" 43 "LeftAnswers$Duchy" "persons" "I" ∈ gtb := gtb_in (i := 230) (by decide +kernel) (by decide +kernel)
set_option maxRecDepth 100000 in
theorem gw242 : Jvm.Cond.fieldLink "LeftAnswers$Duchy" 47 "LeftAnswers$Duchy" "deeds" "I" ∈ gtb := gtb_in (i := 234) (by decide +kernel) (by decide +kernel)
set_option maxRecDepth 100000 in
theorem gw243 : Jvm.Cond.fieldLink "LeftAnswers$Duchy" 50 "LeftAnswers$Duchy" "law" "I" ∈ gtb := gtb_in (i := 237) (by decide +kernel) (by decide +kernel)
set_option maxRecDepth 100000 in
theorem gw244 : Jvm.Cond.fieldLink "LeftAnswers$Duchy" 53 "LeftAnswers$Duchy" "cell" "I" ∈ gtb := gtb_in (i := 240) (by decide +kernel) (by decide +kernel)
set_option maxRecDepth 100000 in
theorem gw245 : Jvm.Cond.fieldLink "LeftAnswers$Duchy" 56 "LeftAnswers$Duchy" "ideas" "I" ∈ gtb := gtb_in (i := 243) (by decide +kernel) (by decide +kernel)
set_option maxRecDepth 100000 in
theorem gw246 : Jvm.Cond.fieldLink "LeftAnswers$Duchy" 59 "LeftAnswers$Duchy" "gloved" "I" ∈ gtb := gtb_in (i := 246) (by decide +kernel) (by decide +kernel)
set_option maxRecDepth 100000 in
theorem gw247 : Jvm.Cond.fieldLink "LeftAnswers$Duchy" 62 "LeftAnswers$Duchy" "both" "I" ∈ gtb := gtb_in (i := 248) (by decide +kernel) (by decide +kernel)
set_option maxRecDepth 100000 in
theorem gw248 : Jvm.Cond.methodLink "LeftAnswers$Duchy" 65 ⟨"java/lang/System", "arraycopy", "(Ljava/lang/Object;ILjava/lang/Object;II)V"⟩ ∈ gtb := gtb_in (i := 1356) (by decide +kernel) (by decide +kernel)
set_option maxRecDepth 100000 in
theorem gw249 : Jvm.Cond.native ⟨"java/lang/System", "arraycopy", "(Ljava/lang/Object;ILjava/lang/Object;II)V"⟩ ∈ gtb := gtb_in (i := 865) (by decide +kernel) (by decide +kernel)
set_option maxRecDepth 100000 in
theorem gw250 : Jvm.Cond.static ⟨"java/lang/System", "arraycopy", "(Ljava/lang/Object;ILjava/lang/Object;II)V"⟩ ∈ gtb := gtb_in (i := 864) (by decide +kernel) (by decide +kernel)
set_option maxRecDepth 100000 in
theorem gw251 : Jvm.Cond.initialized "java/lang/System" ∈ gtb := gtb_in (i := 144) (by decide +kernel) (by decide +kernel)
set_option maxRecDepth 100000 in
theorem gw252 : Jvm.Cond.methodLink "LeftAnswers$Duchy" 200 ⟨"LeftAnswers$Duchy", "allPersonBits", "()I"⟩ ∈ gtb := gtb_in (i := 1054) (by decide +kernel) (by decide +kernel)
set_option maxRecDepth 100000 in
theorem gw253 : Jvm.Cond.selects "LeftAnswers$Duchy" ⟨"LeftAnswers$Duchy", "allPersonBits", "()I"⟩ ⟨"LeftAnswers$Duchy", "allPersonBits", "()I"⟩ ∈ gtb := gtb_in (i := 1056) (by decide +kernel) (by decide +kernel)
set_option maxRecDepth 100000 in
theorem gw254 : Jvm.Cond.code ⟨"LeftAnswers$Duchy", "allPersonBits", "()I"⟩ prog_4_method_22_code 1 (some .int) ∈ gtb := gtb_in (i := 1057) (by decide +kernel) (by decide +kernel)
set_option maxRecDepth 100000 in
theorem gw255 : Jvm.Cond.instanceMethod ⟨"LeftAnswers$Duchy", "allPersonBits", "()I"⟩ ∈ gtb := gtb_in (i := 1055) (by decide +kernel) (by decide +kernel)
set_option maxRecDepth 100000 in
theorem gw256 : Jvm.Cond.methodLink "LeftAnswers$Duchy" 183 ⟨"java/lang/Integer", "bitCount", "(I)I"⟩ ∈ gtb := gtb_in (i := 1012) (by decide +kernel) (by decide +kernel)
set_option maxRecDepth 100000 in
theorem gw257 : Jvm.Cond.methodLink "LeftAnswers$Duchy" 71 ⟨"LeftAnswers$Duchy", "clear", "()V"⟩ ∈ gtb := gtb_in (i := 626) (by decide +kernel) (by decide +kernel)
set_option maxRecDepth 100000 in
theorem gw258 : Jvm.Cond.selects "LeftAnswers$Duchy" ⟨"LeftAnswers$Duchy", "clear", "()V"⟩ ⟨"LeftAnswers$Duchy", "clear", "()V"⟩ ∈ gtb := gtb_in (i := 1) (by decide +kernel) (by decide +kernel)
set_option maxRecDepth 100000 in
theorem gw259 : Jvm.Cond.code ⟨"LeftAnswers$Duchy", "clear", "()V"⟩ prog_4_method_4_code 2 none ∈ gtb := gtb_in (i := 629) (by decide +kernel) (by decide +kernel)
set_option maxRecDepth 100000 in
theorem gw260 : Jvm.Cond.instanceMethod ⟨"LeftAnswers$Duchy", "clear", "()V"⟩ ∈ gtb := gtb_in (i := 628) (by decide +kernel) (by decide +kernel)
set_option maxRecDepth 100000 in
theorem gw261 : Jvm.Cond.methodLink "LeftAnswers$Duchy" 74 ⟨"LeftAnswers$Tape", "open", "(I)V"⟩ ∈ gtb := gtb_in (i := 630) (by decide +kernel) (by decide +kernel)
set_option maxRecDepth 100000 in
theorem gw262 : Jvm.Cond.fieldLink "LeftAnswers$Duchy" 80 "LeftAnswers$Tape" "kind" "I" ∈ gtb := gtb_in (i := 173) (by decide +kernel) (by decide +kernel)
set_option maxRecDepth 100000 in
theorem gw263 : Jvm.Cond.methodLink "LeftAnswers$Image" 1 ⟨"java/lang/Object", "<init>", "()V"⟩ ∈ gtb := gtb_in (i := 533) (by decide +kernel) (by decide +kernel)
set_option maxRecDepth 100000 in
theorem gw264 : Jvm.Cond.classLink "LeftAnswers$Image" 7 "LeftAnswers$Duchy" ∈ gtb := gtb_in (i := 534) (by decide +kernel) (by decide +kernel)
set_option maxRecDepth 100000 in
theorem gw265 : Jvm.Cond.methodLink "LeftAnswers$Image" 9 ⟨"LeftAnswers$Duchy", "<init>", "()V"⟩ ∈ gtb := gtb_in (i := 535) (by decide +kernel) (by decide +kernel)
set_option maxRecDepth 100000 in
theorem gw266 : Jvm.Cond.fieldLink "LeftAnswers$Image" 10 "LeftAnswers$Image" "duchy" "LLeftAnswers$Duchy;" ∈ gtb := gtb_in (i := 542) (by decide +kernel) (by decide +kernel)
set_option maxRecDepth 100000 in
theorem gw267 : Jvm.Cond.classLink "LeftAnswers$Image" 16 "LeftAnswers$Life" ∈ gtb := gtb_in (i := 536) (by decide +kernel) (by decide +kernel)
set_option maxRecDepth 100000 in
theorem gw268 : Jvm.Cond.methodLink "LeftAnswers$Image" 18 ⟨"LeftAnswers$Life", "<init>", "()V"⟩ ∈ gtb := gtb_in (i := 537) (by decide +kernel) (by decide +kernel)
set_option maxRecDepth 100000 in
theorem gw269 : Jvm.Cond.fieldLink "LeftAnswers$Image" 19 "LeftAnswers$Image" "life" "LLeftAnswers$Life;" ∈ gtb := gtb_in (i := 543) (by decide +kernel) (by decide +kernel)
set_option maxRecDepth 100000 in
theorem gw270 : Jvm.Cond.classLink "LeftAnswers$Image" 23 "LeftAnswers$Sentence" ∈ gtb := gtb_in (i := 538) (by decide +kernel) (by decide +kernel)
set_option maxRecDepth 100000 in
theorem gw271 : Jvm.Cond.methodLink "LeftAnswers$Image" 25 ⟨"LeftAnswers$Sentence", "<init>", "()V"⟩ ∈ gtb := gtb_in (i := 539) (by decide +kernel) (by decide +kernel)
set_option maxRecDepth 100000 in
theorem gw272 : Jvm.Cond.fieldLink "LeftAnswers$Image" 26 "LeftAnswers$Image" "sentence" "LLeftAnswers$Sentence;" ∈ gtb := gtb_in (i := 544) (by decide +kernel) (by decide +kernel)
set_option maxRecDepth 100000 in
theorem gw273 : Jvm.Cond.methodLink "LeftAnswers$Image" 30 ⟨"LeftAnswers$Duchy", "copyFrom", "(LLeftAnswers$Duchy;)V"⟩ ∈ gtb := gtb_in (i := 1352) (by decide +kernel) (by decide +kernel)
set_option maxRecDepth 100000 in
theorem gw274 : Jvm.Cond.selects "LeftAnswers$Duchy" ⟨"LeftAnswers$Duchy", "copyFrom", "(LLeftAnswers$Duchy;)V"⟩ ⟨"LeftAnswers$Duchy", "copyFrom", "(LLeftAnswers$Duchy;)V"⟩ ∈ gtb := gtb_in (i := 1354) (by decide +kernel) (by decide +kernel)
set_option maxRecDepth 100000 in
theorem gw275 : Jvm.Cond.code ⟨"LeftAnswers$Duchy", "copyFrom", "(LLeftAnswers$Duchy;)V"⟩ prog_4_method_2_code 2 none ∈ gtb := gtb_in (i := 1355) (by decide +kernel) (by decide +kernel)
set_option maxRecDepth 100000 in
theorem gw276 : Jvm.Cond.instanceMethod ⟨"LeftAnswers$Duchy", "copyFrom", "(LLeftAnswers$Duchy;)V"⟩ ∈ gtb := gtb_in (i := 1353) (by decide +kernel) (by decide +kernel)
set_option maxRecDepth 100000 in
theorem gw277 : Jvm.Cond.methodLink "LeftAnswers$Image" 34 ⟨"LeftAnswers$Life", "copyFrom", "(LLeftAnswers$Life;)V"⟩ ∈ gtb := gtb_in (i := 1357) (by decide +kernel) (by decide +kernel)
set_option maxRecDepth 100000 in
theorem gw278 : Jvm.Cond.methodLink "LeftAnswers$Image" 37 ⟨"LeftAnswers$Sentence", "copyFrom", "(LLeftAnswers$Sentence;)V"⟩ ∈ gtb := gtb_in (i := 1358) (by decide +kernel) (by decide +kernel)
set_option maxRecDepth 100000 in
theorem gw279 : Jvm.Cond.selects "LeftAnswers$Sentence" ⟨"LeftAnswers$Sentence", "copyFrom", "(LLeftAnswers$Sentence;)V"⟩ ⟨"LeftAnswers$Sentence", "copyFrom", "(LLeftAnswers$Sentence;)V"⟩ ∈ gtb := gtb_in (i := 1360) (by decide +kernel) (by decide +kernel)
set_option maxRecDepth 100000 in
theorem gw280 : Jvm.Cond.code ⟨"LeftAnswers$Sentence", "copyFrom", "(LLeftAnswers$Sentence;)V"⟩ prog_10_method_3_code 3 none ∈ gtb := gtb_in (i := 1361) (by decide +kernel) (by decide +kernel)
set_option maxRecDepth 100000 in
theorem gw281 : Jvm.Cond.instanceMethod ⟨"LeftAnswers$Sentence", "copyFrom", "(LLeftAnswers$Sentence;)V"⟩ ∈ gtb := gtb_in (i := 1359) (by decide +kernel) (by decide +kernel)
set_option maxRecDepth 100000 in
theorem gw282 : Jvm.Cond.fieldLink "LeftAnswers$Image" 40 "LeftAnswers$Image" "kept" "Z" ∈ gtb := gtb_in (i := 540) (by decide +kernel) (by decide +kernel)
set_option maxRecDepth 100000 in
theorem gw283 : Jvm.Cond.methodLink "LeftAnswers$Life" 3 ⟨"java/lang/Object", "<init>", "()V"⟩ ∈ gtb := gtb_in (i := 306) (by decide +kernel) (by decide +kernel)
set_option maxRecDepth 100000 in
theorem gw284 : Jvm.Cond.fieldLink "LeftAnswers$Life" 9 "LeftAnswers$Life" "coins" "[I" ∈ gtb := gtb_in (i := 323) (by decide +kernel) (by decide +kernel)
set_option maxRecDepth 100000 in
theorem gw285 : Jvm.Cond.fieldLink "LeftAnswers$Life" 15 "LeftAnswers$Life" "blame" "[I" ∈ gtb := gtb_in (i := 327) (by decide +kernel) (by decide +kernel)
set_option maxRecDepth 100000 in
theorem gw286 : Jvm.Cond.fieldLink "LeftAnswers$Life" 18 "LeftAnswers$Life" "cell" "[I" ∈ gtb := gtb_in (i := 330) (by decide +kernel) (by decide +kernel)
set_option maxRecDepth 100000 in
theorem gw287 : Jvm.Cond.fieldLink "LeftAnswers$Life" 21 "LeftAnswers$Life" "ideas" "[I" ∈ gtb := gtb_in (i := 333) (by decide +kernel) (by decide +kernel)
set_option maxRecDepth 100000 in
theorem gw288 : Jvm.Cond.fieldLink "LeftAnswers$Life" 24 "LeftAnswers$Life" "spouse" "[I" ∈ gtb := gtb_in (i := 336) (by decide +kernel) (by decide +kernel)
set_option maxRecDepth 100000 in
theorem gw289 : Jvm.Cond.fieldLink "LeftAnswers$Life" 27 "LeftAnswers$Life" "hands" "[I" ∈ gtb := gtb_in (i := 340) (by decide +kernel) (by decide +kernel)
set_option maxRecDepth 100000 in
theorem gw290 : Jvm.Cond.fieldLink "LeftAnswers$Life" 30 "LeftAnswers$Life" "doneOf" "[I" ∈ gtb := gtb_in (i := 342) (by decide +kernel) (by decide +kernel)
set_option maxRecDepth 100000 in
theorem gw291 : Jvm.Cond.methodLink "LeftAnswers$Life" 33 ⟨"LeftAnswers$Life", "begin", "(I)V"⟩ ∈ gtb := gtb_in (i := 307) (by decide +kernel) (by decide +kernel)
set_option maxRecDepth 100000 in
theorem gw292 : Jvm.Cond.fieldLink "LeftAnswers$Life" 37 "LeftAnswers$Life" "day" "I" ∈ gtb := gtb_in (i := 311) (by decide +kernel) (by decide +kernel)
set_option maxRecDepth 100000 in
theorem gw293 : Jvm.Cond.fieldLink "LeftAnswers$Life" 41 "LeftAnswers$Life" "hadUp" "I" ∈ gtb := gtb_in (i := 314) (by decide +kernel) (by decide +kernel)
set_option maxRecDepth 100000 in
theorem gw294 : Jvm.Cond.fieldLink "LeftAnswers$Life" 44 "LeftAnswers$Life" "done" "I" ∈ gtb := gtb_in (i := 316) (by decide +kernel) (by decide +kernel)
set_option maxRecDepth 100000 in
theorem gw295 : Jvm.Cond.fieldLink "LeftAnswers$Life" 47 "LeftAnswers$Life" "gloved" "I" ∈ gtb := gtb_in (i := 318) (by decide +kernel) (by decide +kernel)
set_option maxRecDepth 100000 in
theorem gw296 : Jvm.Cond.methodLink "LeftAnswers$Life" 50 ⟨"java/lang/System", "arraycopy", "(Ljava/lang/Object;ILjava/lang/Object;II)V"⟩ ∈ gtb := gtb_in (i := 863) (by decide +kernel) (by decide +kernel)
set_option maxRecDepth 100000 in
theorem gw297 : Jvm.Cond.methodLink "LeftAnswers$Life" 65 ⟨"LeftAnswers$Life", "isJailed", "(I)Z"⟩ ∈ gtb := gtb_in (i := 797) (by decide +kernel) (by decide +kernel)
set_option maxRecDepth 100000 in
theorem gw298 : Jvm.Cond.selects "LeftAnswers$Life" ⟨"LeftAnswers$Life", "isJailed", "(I)Z"⟩ ⟨"LeftAnswers$Life", "isJailed", "(I)Z"⟩ ∈ gtb := gtb_in (i := 799) (by decide +kernel) (by decide +kernel)
set_option maxRecDepth 100000 in
theorem gw299 : Jvm.Cond.code ⟨"LeftAnswers$Life", "isJailed", "(I)Z"⟩ prog_6_method_4_code 2 (some .boolean) ∈ gtb := gtb_in (i := 800) (by decide +kernel) (by decide +kernel)
