set_option maxRecDepth 100000 in
theorem gw150 : Jvm.Cond.code ⟨"LeftAnswers$Life", "passDays", "(LLeftAnswers$Duchy;I)V"⟩ prog_6_method_23_code 4 none ∈ gtb := gtb_t4 (i := 52) rfl (by decide +kernel)
set_option maxRecDepth 100000 in
theorem gw151 : Jvm.Cond.instanceMethod ⟨"LeftAnswers$Life", "passDays", "(LLeftAnswers$Duchy;I)V"⟩ ∈ gtb := gtb_t4 (i := 50) rfl (by decide +kernel)
set_option maxRecDepth 100000 in
theorem gw152 : Jvm.Cond.fieldLink "LeftAnswers" 177 "LeftAnswers$Duchy" "hard" "[I" ∈ gtb := gtb_t1 (i := 131) rfl (by decide +kernel)
set_option maxRecDepth 100000 in
theorem gw153 : Jvm.Cond.fieldLink "LeftAnswers" 180 "LeftAnswers$Duchy" "pay" "[I" ∈ gtb := gtb_t1 (i := 134) rfl (by decide +kernel)
set_option maxRecDepth 100000 in
theorem gw154 : Jvm.Cond.fieldLink "LeftAnswers" 183 "LeftAnswers$Duchy" "blame" "[I" ∈ gtb := gtb_t1 (i := 137) rfl (by decide +kernel)
set_option maxRecDepth 100000 in
theorem gw155 : Jvm.Cond.methodLink "LeftAnswers" 184 ⟨"LeftAnswers$Duchy", "needsBoth", "(I)Z"⟩ ∈ gtb := gtb_t3 (i := 181) rfl (by decide +kernel)
set_option maxRecDepth 100000 in
theorem gw156 : Jvm.Cond.selects "LeftAnswers$Duchy" ⟨"LeftAnswers$Duchy", "needsBoth", "(I)Z"⟩ ⟨"LeftAnswers$Duchy", "needsBoth", "(I)Z"⟩ ∈ gtb := gtb_t3 (i := 183) rfl (by decide +kernel)
set_option maxRecDepth 100000 in
theorem gw157 : Jvm.Cond.code ⟨"LeftAnswers$Duchy", "needsBoth", "(I)Z"⟩ prog_4_method_18_code 2 (some .boolean) ∈ gtb := gtb_t3 (i := 184) rfl (by decide +kernel)
set_option maxRecDepth 100000 in
theorem gw158 : Jvm.Cond.instanceMethod ⟨"LeftAnswers$Duchy", "needsBoth", "(I)Z"⟩ ∈ gtb := gtb_t3 (i := 182) rfl (by decide +kernel)
set_option maxRecDepth 100000 in
theorem gw159 : Jvm.Cond.fieldLink "LeftAnswers" 187 "LeftAnswers$Life" "doneOf" "[I" ∈ gtb := gtb_t1 (i := 219) rfl (by decide +kernel)
set_option maxRecDepth 100000 in
theorem gw160 : Jvm.Cond.methodLink "LeftAnswers" 167 ⟨"LeftAnswers", "isHand", "(I)Z"⟩ ∈ gtb := gtb_t3 (i := 166) rfl (by decide +kernel)
set_option maxRecDepth 100000 in
theorem gw161 : Jvm.Cond.code ⟨"LeftAnswers", "isHand", "(I)Z"⟩ prog_1_method_43_code 1 (some .boolean) ∈ gtb := gtb_t3 (i := 168) rfl (by decide +kernel)
set_option maxRecDepth 100000 in
theorem gw162 : Jvm.Cond.static ⟨"LeftAnswers", "isHand", "(I)Z"⟩ ∈ gtb := gtb_t3 (i := 167) rfl (by decide +kernel)
set_option maxRecDepth 100000 in
theorem gw163 : Jvm.Cond.methodLink "LeftAnswers" 311 ⟨"LeftAnswers$Life", "drawDays", "(LLeftAnswers$Duchy;II)V"⟩ ∈ gtb := gtb_t5 (i := 106) rfl (by decide +kernel)
set_option maxRecDepth 100000 in
theorem gw164 : Jvm.Cond.selects "LeftAnswers$Life" ⟨"LeftAnswers$Life", "drawDays", "(LLeftAnswers$Duchy;II)V"⟩ ⟨"LeftAnswers$Life", "drawDays", "(LLeftAnswers$Duchy;II)V"⟩ ∈ gtb := gtb_t5 (i := 108) rfl (by decide +kernel)
set_option maxRecDepth 100000 in
theorem gw165 : Jvm.Cond.code ⟨"LeftAnswers$Life", "drawDays", "(LLeftAnswers$Duchy;II)V"⟩ prog_6_method_25_code 6 none ∈ gtb := gtb_t5 (i := 109) rfl (by decide +kernel)
set_option maxRecDepth 100000 in
theorem gw166 : Jvm.Cond.instanceMethod ⟨"LeftAnswers$Life", "drawDays", "(LLeftAnswers$Duchy;II)V"⟩ ∈ gtb := gtb_t5 (i := 107) rfl (by decide +kernel)
set_option maxRecDepth 100000 in
theorem gw167 : Jvm.Cond.methodLink "LeftAnswers" 108 ⟨"LeftAnswers$Duchy", "readFrom", "(LLeftAnswers$Tape;)I"⟩ ∈ gtb := gtb_t3 (i := 18) rfl (by decide +kernel)
set_option maxRecDepth 100000 in
theorem gw168 : Jvm.Cond.selects "LeftAnswers$Duchy" ⟨"LeftAnswers$Duchy", "readFrom", "(LLeftAnswers$Tape;)I"⟩ ⟨"LeftAnswers$Duchy", "readFrom", "(LLeftAnswers$Tape;)I"⟩ ∈ gtb := gtb_t3 (i := 20) rfl (by decide +kernel)
set_option maxRecDepth 100000 in
theorem gw169 : Jvm.Cond.code ⟨"LeftAnswers$Duchy", "readFrom", "(LLeftAnswers$Tape;)I"⟩ prog_4_method_3_code 4 (some .int) ∈ gtb := gtb_t3 (i := 21) rfl (by decide +kernel)
set_option maxRecDepth 100000 in
theorem gw170 : Jvm.Cond.instanceMethod ⟨"LeftAnswers$Duchy", "readFrom", "(LLeftAnswers$Tape;)I"⟩ ∈ gtb := gtb_t3 (i := 19) rfl (by decide +kernel)
set_option maxRecDepth 100000 in
theorem gw171 : Jvm.Cond.fieldLink "LeftAnswers" 118 "LeftAnswers$Duchy" "gloved" "I" ∈ gtb := gtb_t1 (i := 123) rfl (by decide +kernel)
set_option maxRecDepth 100000 in
theorem gw172 : Jvm.Cond.methodLink "LeftAnswers" 121 ⟨"LeftAnswers$Life", "begin", "(I)V"⟩ ∈ gtb := gtb_t3 (i := 145) rfl (by decide +kernel)
set_option maxRecDepth 100000 in
theorem gw173 : Jvm.Cond.selects "LeftAnswers$Life" ⟨"LeftAnswers$Life", "begin", "(I)V"⟩ ⟨"LeftAnswers$Life", "begin", "(I)V"⟩ ∈ gtb := gtb_t1 (i := 185) rfl (by decide +kernel)
set_option maxRecDepth 100000 in
theorem gw174 : Jvm.Cond.code ⟨"LeftAnswers$Life", "begin", "(I)V"⟩ prog_6_method_2_code 3 none ∈ gtb := gtb_t1 (i := 186) rfl (by decide +kernel)
set_option maxRecDepth 100000 in
theorem gw175 : Jvm.Cond.instanceMethod ⟨"LeftAnswers$Life", "begin", "(I)V"⟩ ∈ gtb := gtb_t1 (i := 184) rfl (by decide +kernel)
set_option maxRecDepth 100000 in
theorem gw176 : Jvm.Cond.methodLink "LeftAnswers" 124 ⟨"LeftAnswers$Past", "forget", "()V"⟩ ∈ gtb := gtb_t3 (i := 146) rfl (by decide +kernel)
set_option maxRecDepth 100000 in
theorem gw177 : Jvm.Cond.selects "LeftAnswers$Past" ⟨"LeftAnswers$Past", "forget", "()V"⟩ ⟨"LeftAnswers$Past", "forget", "()V"⟩ ∈ gtb := gtb_t3 (i := 148) rfl (by decide +kernel)
set_option maxRecDepth 100000 in
theorem gw178 : Jvm.Cond.code ⟨"LeftAnswers$Past", "forget", "()V"⟩ prog_9_method_2_code 1 none ∈ gtb := gtb_t3 (i := 149) rfl (by decide +kernel)
set_option maxRecDepth 100000 in
theorem gw179 : Jvm.Cond.instanceMethod ⟨"LeftAnswers$Past", "forget", "()V"⟩ ∈ gtb := gtb_t3 (i := 147) rfl (by decide +kernel)
set_option maxRecDepth 100000 in
theorem gw180 : Jvm.Cond.methodLink "LeftAnswers" 127 ⟨"LeftAnswers$Sentence", "clear", "()V"⟩ ∈ gtb := gtb_t3 (i := 150) rfl (by decide +kernel)
set_option maxRecDepth 100000 in
theorem gw181 : Jvm.Cond.selects "LeftAnswers$Sentence" ⟨"LeftAnswers$Sentence", "clear", "()V"⟩ ⟨"LeftAnswers$Sentence", "clear", "()V"⟩ ∈ gtb := gtb_t3 (i := 152) rfl (by decide +kernel)
set_option maxRecDepth 100000 in
theorem gw182 : Jvm.Cond.code ⟨"LeftAnswers$Sentence", "clear", "()V"⟩ prog_10_method_2_code 1 none ∈ gtb := gtb_t3 (i := 153) rfl (by decide +kernel)
set_option maxRecDepth 100000 in
theorem gw183 : Jvm.Cond.instanceMethod ⟨"LeftAnswers$Sentence", "clear", "()V"⟩ ∈ gtb := gtb_t3 (i := 151) rfl (by decide +kernel)
set_option maxRecDepth 100000 in
theorem gw184 : Jvm.Cond.methodLink "LeftAnswers" 296 ⟨"LeftAnswers$Life", "mostPay", "(LLeftAnswers$Duchy;I)I"⟩ ∈ gtb := gtb_t5 (i := 5) rfl (by decide +kernel)
set_option maxRecDepth 100000 in
theorem gw185 : Jvm.Cond.selects "LeftAnswers$Life" ⟨"LeftAnswers$Life", "mostPay", "(LLeftAnswers$Duchy;I)I"⟩ ⟨"LeftAnswers$Life", "mostPay", "(LLeftAnswers$Duchy;I)I"⟩ ∈ gtb := gtb_t5 (i := 7) rfl (by decide +kernel)
set_option maxRecDepth 100000 in
theorem gw186 : Jvm.Cond.code ⟨"LeftAnswers$Life", "mostPay", "(LLeftAnswers$Duchy;I)I"⟩ prog_6_method_31_code 4 (some .int) ∈ gtb := gtb_t5 (i := 8) rfl (by decide +kernel)
set_option maxRecDepth 100000 in
theorem gw187 : Jvm.Cond.instanceMethod ⟨"LeftAnswers$Life", "mostPay", "(LLeftAnswers$Duchy;I)I"⟩ ∈ gtb := gtb_t5 (i := 6) rfl (by decide +kernel)
set_option maxRecDepth 100000 in
theorem gw188 : Jvm.Cond.methodLink "LeftAnswers" 104 ⟨"LeftAnswers$Tape", "put", "(I)V"⟩ ∈ gtb := gtb_t3 (i := 6) rfl (by decide +kernel)
set_option maxRecDepth 100000 in
theorem gw189 : Jvm.Cond.selects "LeftAnswers$Tape" ⟨"LeftAnswers$Tape", "put", "(I)V"⟩ ⟨"LeftAnswers$Tape", "put", "(I)V"⟩ ∈ gtb := gtb_t3 (i := 8) rfl (by decide +kernel)
set_option maxRecDepth 100000 in
theorem gw190 : Jvm.Cond.code ⟨"LeftAnswers$Tape", "put", "(I)V"⟩ prog_12_method_2_code 3 none ∈ gtb := gtb_t3 (i := 9) rfl (by decide +kernel)
set_option maxRecDepth 100000 in
theorem gw191 : Jvm.Cond.instanceMethod ⟨"LeftAnswers$Tape", "put", "(I)V"⟩ ∈ gtb := gtb_t3 (i := 7) rfl (by decide +kernel)
set_option maxRecDepth 100000 in
theorem gw192 : Jvm.Cond.methodLink "LeftAnswers" 281 ⟨"LeftAnswers", "bitAt", "(II)I"⟩ ∈ gtb := gtb_t4 (i := 183) rfl (by decide +kernel)
set_option maxRecDepth 100000 in
theorem gw193 : Jvm.Cond.code ⟨"LeftAnswers", "bitAt", "(II)I"⟩ prog_1_method_48_code 4 (some .int) ∈ gtb := gtb_t4 (i := 185) rfl (by decide +kernel)
set_option maxRecDepth 100000 in
theorem gw194 : Jvm.Cond.static ⟨"LeftAnswers", "bitAt", "(II)I"⟩ ∈ gtb := gtb_t4 (i := 184) rfl (by decide +kernel)
set_option maxRecDepth 100000 in
theorem gw195 : Jvm.Cond.methodLink "LeftAnswers" 242 ⟨"LeftAnswers", "tapeTellsDeeds", "(I)Z"⟩ ∈ gtb := gtb_t4 (i := 100) rfl (by decide +kernel)
set_option maxRecDepth 100000 in
theorem gw196 : Jvm.Cond.selects "LeftAnswers" ⟨"LeftAnswers", "tapeTellsDeeds", "(I)Z"⟩ ⟨"LeftAnswers", "tapeTellsDeeds", "(I)Z"⟩ ∈ gtb := gtb_in (i := 22) (by decide +kernel) (by decide +kernel)
set_option maxRecDepth 100000 in
theorem gw197 : Jvm.Cond.code ⟨"LeftAnswers", "tapeTellsDeeds", "(I)Z"⟩ prog_1_method_46_code 3 (some .boolean) ∈ gtb := gtb_t4 (i := 103) rfl (by decide +kernel)
set_option maxRecDepth 100000 in
theorem gw198 : Jvm.Cond.instanceMethod ⟨"LeftAnswers", "tapeTellsDeeds", "(I)Z"⟩ ∈ gtb := gtb_t4 (i := 102) rfl (by decide +kernel)
set_option maxRecDepth 100000 in
theorem gw199 : Jvm.Cond.methodLink "LeftAnswers" 263 ⟨"LeftAnswers", "tapeTellsOutcomes", "()Z"⟩ ∈ gtb := gtb_t4 (i := 146) rfl (by decide +kernel)
set_option maxRecDepth 100000 in
theorem gw200 : Jvm.Cond.selects "LeftAnswers" ⟨"LeftAnswers", "tapeTellsOutcomes", "()Z"⟩ ⟨"LeftAnswers", "tapeTellsOutcomes", "()Z"⟩ ∈ gtb := gtb_in (i := 24) (by decide +kernel) (by decide +kernel)
set_option maxRecDepth 100000 in
theorem gw201 : Jvm.Cond.code ⟨"LeftAnswers", "tapeTellsOutcomes", "()Z"⟩ prog_1_method_47_code 2 (some .boolean) ∈ gtb := gtb_t4 (i := 149) rfl (by decide +kernel)
set_option maxRecDepth 100000 in
theorem gw202 : Jvm.Cond.instanceMethod ⟨"LeftAnswers", "tapeTellsOutcomes", "()Z"⟩ ∈ gtb := gtb_t4 (i := 148) rfl (by decide +kernel)
set_option maxRecDepth 100000 in
theorem gw203 : Jvm.Cond.methodLink "LeftAnswers" 267 ⟨"LeftAnswers$Duchy", "allHandBits", "()I"⟩ ∈ gtb := gtb_t4 (i := 150) rfl (by decide +kernel)
set_option maxRecDepth 100000 in
theorem gw204 : Jvm.Cond.selects "LeftAnswers$Duchy" ⟨"LeftAnswers$Duchy", "allHandBits", "()I"⟩ ⟨"LeftAnswers$Duchy", "allHandBits", "()I"⟩ ∈ gtb := gtb_t4 (i := 152) rfl (by decide +kernel)
set_option maxRecDepth 100000 in
theorem gw205 : Jvm.Cond.code ⟨"LeftAnswers$Duchy", "allHandBits", "()I"⟩ prog_4_method_23_code 1 (some .int) ∈ gtb := gtb_t4 (i := 153) rfl (by decide +kernel)
set_option maxRecDepth 100000 in
theorem gw206 : Jvm.Cond.instanceMethod ⟨"LeftAnswers$Duchy", "allHandBits", "()I"⟩ ∈ gtb := gtb_t4 (i := 151) rfl (by decide +kernel)
set_option maxRecDepth 100000 in
theorem gw207 : Jvm.Cond.methodLink "LeftAnswers" 249 ⟨"LeftAnswers$Tape", "signAt", "(I)I"⟩ ∈ gtb := gtb_t4 (i := 104) rfl (by decide +kernel)
set_option maxRecDepth 100000 in
theorem gw208 : Jvm.Cond.selects "LeftAnswers$Tape" ⟨"LeftAnswers$Tape", "signAt", "(I)I"⟩ ⟨"LeftAnswers$Tape", "signAt", "(I)I"⟩ ∈ gtb := gtb_t3 (i := 36) rfl (by decide +kernel)
set_option maxRecDepth 100000 in
theorem gw209 : Jvm.Cond.code ⟨"LeftAnswers$Tape", "signAt", "(I)I"⟩ prog_12_method_3_code 2 (some .int) ∈ gtb := gtb_t3 (i := 37) rfl (by decide +kernel)
set_option maxRecDepth 100000 in
theorem gw210 : Jvm.Cond.instanceMethod ⟨"LeftAnswers$Tape", "signAt", "(I)I"⟩ ∈ gtb := gtb_t3 (i := 35) rfl (by decide +kernel)
set_option maxRecDepth 100000 in
theorem gw211 : Jvm.Cond.methodLink "LeftAnswers" 270 ⟨"LeftAnswers$Duchy", "canBits", "(I)I"⟩ ∈ gtb := gtb_t4 (i := 154) rfl (by decide +kernel)
set_option maxRecDepth 100000 in
theorem gw212 : Jvm.Cond.selects "LeftAnswers$Duchy" ⟨"LeftAnswers$Duchy", "canBits", "(I)I"⟩ ⟨"LeftAnswers$Duchy", "canBits", "(I)I"⟩ ∈ gtb := gtb_t4 (i := 156) rfl (by decide +kernel)
set_option maxRecDepth 100000 in
theorem gw213 : Jvm.Cond.code ⟨"LeftAnswers$Duchy", "canBits", "(I)I"⟩ prog_4_method_24_code 5 (some .int) ∈ gtb := gtb_t4 (i := 157) rfl (by decide +kernel)
set_option maxRecDepth 100000 in
theorem gw214 : Jvm.Cond.instanceMethod ⟨"LeftAnswers$Duchy", "canBits", "(I)I"⟩ ∈ gtb := gtb_t4 (i := 155) rfl (by decide +kernel)
set_option maxRecDepth 100000 in
theorem gw215 : Jvm.Cond.methodLink "LeftAnswers" 273 ⟨"LeftAnswers$Duchy", "bestTest", "(I)I"⟩ ∈ gtb := gtb_t4 (i := 164) rfl (by decide +kernel)
set_option maxRecDepth 100000 in
theorem gw216 : Jvm.Cond.selects "LeftAnswers$Duchy" ⟨"LeftAnswers$Duchy", "bestTest", "(I)I"⟩ ⟨"LeftAnswers$Duchy", "bestTest", "(I)I"⟩ ∈ gtb := gtb_t4 (i := 166) rfl (by decide +kernel)
set_option maxRecDepth 100000 in
theorem gw217 : Jvm.Cond.code ⟨"LeftAnswers$Duchy", "bestTest", "(I)I"⟩ prog_4_method_25_code 8 (some .int) ∈ gtb := gtb_t4 (i := 167) rfl (by decide +kernel)
set_option maxRecDepth 100000 in
theorem gw218 : Jvm.Cond.instanceMethod ⟨"LeftAnswers$Duchy", "bestTest", "(I)I"⟩ ∈ gtb := gtb_t4 (i := 165) rfl (by decide +kernel)
set_option maxRecDepth 100000 in
theorem gw219 : Jvm.Cond.methodLink "LeftAnswers" 276 ⟨"java/lang/Integer", "bitCount", "(I)I"⟩ ∈ gtb := gtb_t4 (i := 178) rfl (by decide +kernel)
set_option maxRecDepth 100000 in
theorem gw220 : Jvm.Cond.code ⟨"java/lang/Integer", "bitCount", "(I)I"⟩ prog_21_method_49_code 1 (some .int) ∈ gtb := gtb_t4 (i := 170) rfl (by decide +kernel)
set_option maxRecDepth 100000 in
theorem gw221 : Jvm.Cond.initialized "java/lang/Integer" ∈ gtb := gtb_t1 (i := 22) rfl (by decide +kernel)
set_option maxRecDepth 100000 in
theorem gw222 : Jvm.Cond.static ⟨"java/lang/Integer", "bitCount", "(I)I"⟩ ∈ gtb := gtb_t4 (i := 169) rfl (by decide +kernel)
set_option maxRecDepth 100000 in
theorem gw223 : Jvm.Cond.methodLink "LeftAnswers" 287 ⟨"LeftAnswers$Duchy", "fewestGuards", "()I"⟩ ∈ gtb := gtb_t4 (i := 206) rfl (by decide +kernel)
set_option maxRecDepth 100000 in
theorem gw224 : Jvm.Cond.selects "LeftAnswers$Duchy" ⟨"LeftAnswers$Duchy", "fewestGuards", "()I"⟩ ⟨"LeftAnswers$Duchy", "fewestGuards", "()I"⟩ ∈ gtb := gtb_t4 (i := 208) rfl (by decide +kernel)
set_option maxRecDepth 100000 in
theorem gw225 : Jvm.Cond.code ⟨"LeftAnswers$Duchy", "fewestGuards", "()I"⟩ prog_4_method_28_code 4 (some .int) ∈ gtb := gtb_t4 (i := 209) rfl (by decide +kernel)
set_option maxRecDepth 100000 in
theorem gw226 : Jvm.Cond.instanceMethod ⟨"LeftAnswers$Duchy", "fewestGuards", "()I"⟩ ∈ gtb := gtb_t4 (i := 207) rfl (by decide +kernel)
set_option maxRecDepth 100000 in
theorem gw227 : Jvm.Cond.methodLink "LeftAnswers" 284 ⟨"LeftAnswers$Duchy", "watchersBetween", "(II)I"⟩ ∈ gtb := gtb_t4 (i := 194) rfl (by decide +kernel)
set_option maxRecDepth 100000 in
theorem gw228 : Jvm.Cond.selects "LeftAnswers$Duchy" ⟨"LeftAnswers$Duchy", "watchersBetween", "(II)I"⟩ ⟨"LeftAnswers$Duchy", "watchersBetween", "(II)I"⟩ ∈ gtb := gtb_t4 (i := 196) rfl (by decide +kernel)
set_option maxRecDepth 100000 in
theorem gw229 : Jvm.Cond.code ⟨"LeftAnswers$Duchy", "watchersBetween", "(II)I"⟩ prog_4_method_26_code 5 (some .int) ∈ gtb := gtb_t4 (i := 197) rfl (by decide +kernel)
set_option maxRecDepth 100000 in
theorem gw230 : Jvm.Cond.instanceMethod ⟨"LeftAnswers$Duchy", "watchersBetween", "(II)I"⟩ ∈ gtb := gtb_t4 (i := 195) rfl (by decide +kernel)
set_option maxRecDepth 100000 in
theorem gw231 : Jvm.Cond.methodLink "LeftAnswers" 351 ⟨"LeftAnswers$Image", "keep", "(LLeftAnswers$Duchy;LLeftAnswers$Life;LLeftAnswers$Sentence;)V"⟩ ∈ gtb := gtb_t6 (i := 24) rfl (by decide +kernel)
set_option maxRecDepth 100000 in
theorem gw232 : Jvm.Cond.selects "LeftAnswers$Image" ⟨"LeftAnswers$Image", "keep", "(LLeftAnswers$Duchy;LLeftAnswers$Life;LLeftAnswers$Sentence;)V"⟩ ⟨"LeftAnswers$Image", "keep", "(LLeftAnswers$Duchy;LLeftAnswers$Life;LLeftAnswers$Sentence;)V"⟩ ∈ gtb := gtb_t6 (i := 26) rfl (by decide +kernel)
set_option maxRecDepth 100000 in
theorem gw233 : Jvm.Cond.code ⟨"LeftAnswers$Image", "keep", "(LLeftAnswers$Duchy;LLeftAnswers$Life;LLeftAnswers$Sentence;)V"⟩ prog_5_method_2_code 4 none ∈ gtb := gtb_t6 (i := 27) rfl (by decide +kernel)
set_option maxRecDepth 100000 in
theorem gw234 : Jvm.Cond.instanceMethod ⟨"LeftAnswers$Image", "keep", "(LLeftAnswers$Duchy;LLeftAnswers$Life;LLeftAnswers$Sentence;)V"⟩ ∈ gtb := gtb_t6 (i := 25) rfl (by decide +kernel)
set_option maxRecDepth 100000 in
theorem gw235 : Jvm.Cond.fieldLink "LeftAnswers" 190 "LeftAnswers$Life" "day" "I" ∈ gtb := gtb_t1 (i := 189) rfl (by decide +kernel)
set_option maxRecDepth 100000 in
theorem gw236 : Jvm.Cond.methodLink "LeftAnswers" 193 ⟨"LeftAnswers$Life", "jailedBits", "()I"⟩ ∈ gtb := gtb_t3 (i := 189) rfl (by decide +kernel)
set_option maxRecDepth 100000 in
theorem gw237 : Jvm.Cond.selects "LeftAnswers$Life" ⟨"LeftAnswers$Life", "jailedBits", "()I"⟩ ⟨"LeftAnswers$Life", "jailedBits", "()I"⟩ ∈ gtb := gtb_t3 (i := 191) rfl (by decide +kernel)
set_option maxRecDepth 100000 in
theorem gw238 : Jvm.Cond.code ⟨"LeftAnswers$Life", "jailedBits", "()I"⟩ prog_6_method_8_code 3 (some .int) ∈ gtb := gtb_t3 (i := 192) rfl (by decide +kernel)
set_option maxRecDepth 100000 in
theorem gw239 : Jvm.Cond.instanceMethod ⟨"LeftAnswers$Life", "jailedBits", "()I"⟩ ∈ gtb := gtb_t3 (i := 190) rfl (by decide +kernel)
set_option maxRecDepth 100000 in
theorem gw240 : Jvm.Cond.fieldLink "LeftAnswers" 197 "LeftAnswers$Life" "gloved" "I" ∈ gtb := gtb_t1 (i := 196) rfl (by decide +kernel)
set_option maxRecDepth 100000 in
theorem gw241 : Jvm.Cond.methodLink "LeftAnswers" 198 ⟨"LeftAnswers$Life", "wedBits", "()I"⟩ ∈ gtb := gtb_t3 (i := 197) rfl (by decide +kernel)
set_option maxRecDepth 100000 in
theorem gw242 : Jvm.Cond.selects "LeftAnswers$Life" ⟨"LeftAnswers$Life", "wedBits", "()I"⟩ ⟨"LeftAnswers$Life", "wedBits", "()I"⟩ ∈ gtb := gtb_t3 (i := 199) rfl (by decide +kernel)
set_option maxRecDepth 100000 in
theorem gw243 : Jvm.Cond.code ⟨"LeftAnswers$Life", "wedBits", "()I"⟩ prog_6_method_9_code 3 (some .int) ∈ gtb := gtb_t3 (i := 200) rfl (by decide +kernel)
set_option maxRecDepth 100000 in
theorem gw244 : Jvm.Cond.instanceMethod ⟨"LeftAnswers$Life", "wedBits", "()I"⟩ ∈ gtb := gtb_t3 (i := 198) rfl (by decide +kernel)
set_option maxRecDepth 100000 in
theorem gw245 : Jvm.Cond.methodLink "LeftAnswers" 201 ⟨"LeftAnswers$Life", "seenBits", "(LLeftAnswers$Duchy;)I"⟩ ∈ gtb := gtb_t3 (i := 205) rfl (by decide +kernel)
set_option maxRecDepth 100000 in
theorem gw246 : Jvm.Cond.selects "LeftAnswers$Life" ⟨"LeftAnswers$Life", "seenBits", "(LLeftAnswers$Duchy;)I"⟩ ⟨"LeftAnswers$Life", "seenBits", "(LLeftAnswers$Duchy;)I"⟩ ∈ gtb := gtb_t3 (i := 207) rfl (by decide +kernel)
set_option maxRecDepth 100000 in
theorem gw247 : Jvm.Cond.code ⟨"LeftAnswers$Life", "seenBits", "(LLeftAnswers$Duchy;)I"⟩ prog_6_method_11_code 5 (some .int) ∈ gtb := gtb_t3 (i := 208) rfl (by decide +kernel)
set_option maxRecDepth 100000 in
theorem gw248 : Jvm.Cond.instanceMethod ⟨"LeftAnswers$Life", "seenBits", "(LLeftAnswers$Duchy;)I"⟩ ∈ gtb := gtb_t3 (i := 206) rfl (by decide +kernel)
set_option maxRecDepth 100000 in
theorem gw249 : Jvm.Cond.methodLink "LeftAnswers" 205 ⟨"LeftAnswers$Life", "allCoins", "()I"⟩ ∈ gtb := gtb_t3 (i := 210) rfl (by decide +kernel)
set_option maxRecDepth 100000 in
theorem gw250 : Jvm.Cond.selects "LeftAnswers$Life" ⟨"LeftAnswers$Life", "allCoins", "()I"⟩ ⟨"LeftAnswers$Life", "allCoins", "()I"⟩ ∈ gtb := gtb_t3 (i := 212) rfl (by decide +kernel)
set_option maxRecDepth 100000 in
theorem gw251 : Jvm.Cond.code ⟨"LeftAnswers$Life", "allCoins", "()I"⟩ prog_6_method_12_code 3 (some .int) ∈ gtb := gtb_t3 (i := 213) rfl (by decide +kernel)
set_option maxRecDepth 100000 in
theorem gw252 : Jvm.Cond.instanceMethod ⟨"LeftAnswers$Life", "allCoins", "()I"⟩ ∈ gtb := gtb_t3 (i := 211) rfl (by decide +kernel)
set_option maxRecDepth 100000 in
theorem gw253 : Jvm.Cond.fieldLink "LeftAnswers" 208 "LeftAnswers$Life" "hadUp" "I" ∈ gtb := gtb_t1 (i := 191) rfl (by decide +kernel)
set_option maxRecDepth 100000 in
theorem gw254 : Jvm.Cond.fieldLink "LeftAnswers" 211 "LeftAnswers$Life" "done" "I" ∈ gtb := gtb_t1 (i := 193) rfl (by decide +kernel)
set_option maxRecDepth 100000 in
theorem gw255 : Jvm.Cond.fieldLink "LeftAnswers" 141 "LeftAnswers$Life" "coins" "[I" ∈ gtb := gtb_t1 (i := 201) rfl (by decide +kernel)
set_option maxRecDepth 100000 in
theorem gw256 : Jvm.Cond.methodLink "LeftAnswers" 245 ⟨"LeftAnswers$Parted", "begin", "(I)V"⟩ ∈ gtb := gtb_t4 (i := 105) rfl (by decide +kernel)
set_option maxRecDepth 100000 in
theorem gw257 : Jvm.Cond.selects "LeftAnswers$Parted" ⟨"LeftAnswers$Parted", "begin", "(I)V"⟩ ⟨"LeftAnswers$Parted", "begin", "(I)V"⟩ ∈ gtb := gtb_t4 (i := 107) rfl (by decide +kernel)
set_option maxRecDepth 100000 in
theorem gw258 : Jvm.Cond.code ⟨"LeftAnswers$Parted", "begin", "(I)V"⟩ prog_8_method_2_code 2 none ∈ gtb := gtb_t4 (i := 108) rfl (by decide +kernel)
set_option maxRecDepth 100000 in
theorem gw259 : Jvm.Cond.instanceMethod ⟨"LeftAnswers$Parted", "begin", "(I)V"⟩ ∈ gtb := gtb_t4 (i := 106) rfl (by decide +kernel)
set_option maxRecDepth 100000 in
theorem gw260 : Jvm.Cond.fieldLink "LeftAnswers" 246 "LeftAnswers$Parted" "can" "[I" ∈ gtb := gtb_t2 (i := 106) rfl (by decide +kernel)
set_option maxRecDepth 100000 in
theorem gw261 : Jvm.Cond.methodLink "LeftAnswers" 253 ⟨"LeftAnswers$Life", "blamelessBits", "(LLeftAnswers$Duchy;I)I"⟩ ∈ gtb := gtb_t4 (i := 113) rfl (by decide +kernel)
set_option maxRecDepth 100000 in
theorem gw262 : Jvm.Cond.selects "LeftAnswers$Life" ⟨"LeftAnswers$Life", "blamelessBits", "(LLeftAnswers$Duchy;I)I"⟩ ⟨"LeftAnswers$Life", "blamelessBits", "(LLeftAnswers$Duchy;I)I"⟩ ∈ gtb := gtb_t4 (i := 115) rfl (by decide +kernel)
set_option maxRecDepth 100000 in
theorem gw263 : Jvm.Cond.code ⟨"LeftAnswers$Life", "blamelessBits", "(LLeftAnswers$Duchy;I)I"⟩ prog_6_method_30_code 8 (some .int) ∈ gtb := gtb_t4 (i := 116) rfl (by decide +kernel)
set_option maxRecDepth 100000 in
theorem gw264 : Jvm.Cond.instanceMethod ⟨"LeftAnswers$Life", "blamelessBits", "(LLeftAnswers$Duchy;I)I"⟩ ∈ gtb := gtb_t4 (i := 114) rfl (by decide +kernel)
set_option maxRecDepth 100000 in
theorem gw265 : Jvm.Cond.methodLink "LeftAnswers" 257 ⟨"LeftAnswers$Parted", "solve", "()I"⟩ ∈ gtb := gtb_t4 (i := 121) rfl (by decide +kernel)
set_option maxRecDepth 100000 in
theorem gw266 : Jvm.Cond.selects "LeftAnswers$Parted" ⟨"LeftAnswers$Parted", "solve", "()I"⟩ ⟨"LeftAnswers$Parted", "solve", "()I"⟩ ∈ gtb := gtb_t4 (i := 123) rfl (by decide +kernel)
set_option maxRecDepth 100000 in
theorem gw267 : Jvm.Cond.code ⟨"LeftAnswers$Parted", "solve", "()I"⟩ prog_8_method_3_code 2 (some .int) ∈ gtb := gtb_t4 (i := 124) rfl (by decide +kernel)
set_option maxRecDepth 100000 in
theorem gw268 : Jvm.Cond.instanceMethod ⟨"LeftAnswers$Parted", "solve", "()I"⟩ ∈ gtb := gtb_t4 (i := 122) rfl (by decide +kernel)
set_option maxRecDepth 100000 in
theorem gw269 : Jvm.Cond.methodLink "LeftAnswers" 260 ⟨"LeftAnswers$Parted", "placeOf", "(I)I"⟩ ∈ gtb := gtb_t4 (i := 138) rfl (by decide +kernel)
set_option maxRecDepth 100000 in
theorem gw270 : Jvm.Cond.selects "LeftAnswers$Parted" ⟨"LeftAnswers$Parted", "placeOf", "(I)I"⟩ ⟨"LeftAnswers$Parted", "placeOf", "(I)I"⟩ ∈ gtb := gtb_t4 (i := 140) rfl (by decide +kernel)
set_option maxRecDepth 100000 in
theorem gw271 : Jvm.Cond.code ⟨"LeftAnswers$Parted", "placeOf", "(I)I"⟩ prog_8_method_6_code 2 (some .int) ∈ gtb := gtb_t4 (i := 141) rfl (by decide +kernel)
set_option maxRecDepth 100000 in
theorem gw272 : Jvm.Cond.instanceMethod ⟨"LeftAnswers$Parted", "placeOf", "(I)I"⟩ ∈ gtb := gtb_t4 (i := 139) rfl (by decide +kernel)
set_option maxRecDepth 100000 in
theorem gw273 : Jvm.Cond.fieldLink "LeftAnswers" 145 "LeftAnswers$Life" "blame" "[I" ∈ gtb := gtb_t1 (i := 204) rfl (by decide +kernel)
set_option maxRecDepth 100000 in
theorem gw274 : Jvm.Cond.fieldLink "LeftAnswers" 148 "LeftAnswers$Life" "cell" "[I" ∈ gtb := gtb_t1 (i := 208) rfl (by decide +kernel)
set_option maxRecDepth 100000 in
theorem gw275 : Jvm.Cond.fieldLink "LeftAnswers" 151 "LeftAnswers$Life" "ideas" "[I" ∈ gtb := gtb_t1 (i := 210) rfl (by decide +kernel)
set_option maxRecDepth 100000 in
theorem gw276 : Jvm.Cond.fieldLink "LeftAnswers" 154 "LeftAnswers$Life" "spouse" "[I" ∈ gtb := gtb_t1 (i := 214) rfl (by decide +kernel)
set_option maxRecDepth 100000 in
theorem gw277 : Jvm.Cond.methodLink "LeftAnswers" 157 ⟨"LeftAnswers$Life", "isGloved", "(I)Z"⟩ ∈ gtb := gtb_t6 (i := 123) rfl (by decide +kernel)
set_option maxRecDepth 100000 in
theorem gw278 : Jvm.Cond.selects "LeftAnswers$Life" ⟨"LeftAnswers$Life", "isGloved", "(I)Z"⟩ ⟨"LeftAnswers$Life", "isGloved", "(I)Z"⟩ ∈ gtb := gtb_t4 (i := 1) rfl (by decide +kernel)
set_option maxRecDepth 100000 in
theorem gw279 : Jvm.Cond.code ⟨"LeftAnswers$Life", "isGloved", "(I)Z"⟩ prog_6_method_5_code 2 (some .boolean) ∈ gtb := gtb_t4 (i := 2) rfl (by decide +kernel)
set_option maxRecDepth 100000 in
theorem gw280 : Jvm.Cond.instanceMethod ⟨"LeftAnswers$Life", "isGloved", "(I)Z"⟩ ∈ gtb := gtb_t4 (i := 0) rfl (by decide +kernel)
set_option maxRecDepth 100000 in
theorem gw281 : Jvm.Cond.fieldLink "LeftAnswers" 160 "LeftAnswers$Life" "hands" "[I" ∈ gtb := gtb_t1 (i := 217) rfl (by decide +kernel)
set_option maxRecDepth 100000 in
theorem gw282 : Jvm.Cond.methodLink "LeftAnswers" 163 ⟨"LeftAnswers$Life", "isSeen", "(LLeftAnswers$Duchy;I)Z"⟩ ∈ gtb := gtb_t6 (i := 124) rfl (by decide +kernel)
set_option maxRecDepth 100000 in
theorem gw283 : Jvm.Cond.selects "LeftAnswers$Life" ⟨"LeftAnswers$Life", "isSeen", "(LLeftAnswers$Duchy;I)Z"⟩ ⟨"LeftAnswers$Life", "isSeen", "(LLeftAnswers$Duchy;I)Z"⟩ ∈ gtb := gtb_t4 (i := 35) rfl (by decide +kernel)
set_option maxRecDepth 100000 in
theorem gw284 : Jvm.Cond.code ⟨"LeftAnswers$Life", "isSeen", "(LLeftAnswers$Duchy;I)Z"⟩ prog_6_method_7_code 3 (some .boolean) ∈ gtb := gtb_t4 (i := 36) rfl (by decide +kernel)
set_option maxRecDepth 100000 in
theorem gw285 : Jvm.Cond.instanceMethod ⟨"LeftAnswers$Life", "isSeen", "(LLeftAnswers$Duchy;I)Z"⟩ ∈ gtb := gtb_t4 (i := 34) rfl (by decide +kernel)
set_option maxRecDepth 100000 in
theorem gw286 : Jvm.Cond.fieldLink "LeftAnswers" 354 "LeftAnswers$Image" "kept" "Z" ∈ gtb := gtb_t2 (i := 177) rfl (by decide +kernel)
set_option maxRecDepth 100000 in
theorem gw287 : Jvm.Cond.methodLink "LeftAnswers" 357 ⟨"LeftAnswers$Image", "giveBack", "(LLeftAnswers$Duchy;LLeftAnswers$Life;LLeftAnswers$Sentence;)V"⟩ ∈ gtb := gtb_t6 (i := 42) rfl (by decide +kernel)
set_option maxRecDepth 100000 in
theorem gw288 : Jvm.Cond.selects "LeftAnswers$Image" ⟨"LeftAnswers$Image", "giveBack", "(LLeftAnswers$Duchy;LLeftAnswers$Life;LLeftAnswers$Sentence;)V"⟩ ⟨"LeftAnswers$Image", "giveBack", "(LLeftAnswers$Duchy;LLeftAnswers$Life;LLeftAnswers$Sentence;)V"⟩ ∈ gtb := gtb_t6 (i := 44) rfl (by decide +kernel)
set_option maxRecDepth 100000 in
theorem gw289 : Jvm.Cond.code ⟨"LeftAnswers$Image", "giveBack", "(LLeftAnswers$Duchy;LLeftAnswers$Life;LLeftAnswers$Sentence;)V"⟩ prog_5_method_3_code 4 none ∈ gtb := gtb_t6 (i := 45) rfl (by decide +kernel)
set_option maxRecDepth 100000 in
theorem gw290 : Jvm.Cond.instanceMethod ⟨"LeftAnswers$Image", "giveBack", "(LLeftAnswers$Duchy;LLeftAnswers$Life;LLeftAnswers$Sentence;)V"⟩ ∈ gtb := gtb_t6 (i := 43) rfl (by decide +kernel)
set_option maxRecDepth 100000 in
theorem gw291 : Jvm.Cond.fieldLink "LeftAnswers" 345 "LeftAnswers$Sentence" "ones" "I" ∈ gtb := gtb_t2 (i := 80) rfl (by decide +kernel)
set_option maxRecDepth 100000 in
theorem gw292 : Jvm.Cond.methodLink "LeftAnswers" 348 ⟨"LeftAnswers$Sentence", "trueOf", "(LLeftAnswers$Duchy;LLeftAnswers$Life;)I"⟩ ∈ gtb := gtb_t5 (i := 232) rfl (by decide +kernel)
set_option maxRecDepth 100000 in
theorem gw293 : Jvm.Cond.selects "LeftAnswers$Sentence" ⟨"LeftAnswers$Sentence", "trueOf", "(LLeftAnswers$Duchy;LLeftAnswers$Life;)I"⟩ ⟨"LeftAnswers$Sentence", "trueOf", "(LLeftAnswers$Duchy;LLeftAnswers$Life;)I"⟩ ∈ gtb := gtb_t5 (i := 234) rfl (by decide +kernel)
set_option maxRecDepth 100000 in
theorem gw294 : Jvm.Cond.code ⟨"LeftAnswers$Sentence", "trueOf", "(LLeftAnswers$Duchy;LLeftAnswers$Life;)I"⟩ prog_10_method_12_code 8 (some .int) ∈ gtb := gtb_t5 (i := 235) rfl (by decide +kernel)
set_option maxRecDepth 100000 in
theorem gw295 : Jvm.Cond.instanceMethod ⟨"LeftAnswers$Sentence", "trueOf", "(LLeftAnswers$Duchy;LLeftAnswers$Life;)I"⟩ ∈ gtb := gtb_t5 (i := 233) rfl (by decide +kernel)
set_option maxRecDepth 100000 in
theorem gw296 : Jvm.Cond.methodLink "LeftAnswers" 344 ⟨"LeftAnswers$Sentence", "readFrom", "(LLeftAnswers$Tape;LLeftAnswers$Duchy;)V"⟩ ∈ gtb := gtb_t5 (i := 181) rfl (by decide +kernel)
set_option maxRecDepth 100000 in
theorem gw297 : Jvm.Cond.selects "LeftAnswers$Sentence" ⟨"LeftAnswers$Sentence", "readFrom", "(LLeftAnswers$Tape;LLeftAnswers$Duchy;)V"⟩ ⟨"LeftAnswers$Sentence", "readFrom", "(LLeftAnswers$Tape;LLeftAnswers$Duchy;)V"⟩ ∈ gtb := gtb_t5 (i := 183) rfl (by decide +kernel)
set_option maxRecDepth 100000 in
theorem gw298 : Jvm.Cond.code ⟨"LeftAnswers$Sentence", "readFrom", "(LLeftAnswers$Tape;LLeftAnswers$Duchy;)V"⟩ prog_10_method_4_code 3 none ∈ gtb := gtb_t5 (i := 184) rfl (by decide +kernel)
set_option maxRecDepth 100000 in
theorem gw299 : Jvm.Cond.instanceMethod ⟨"LeftAnswers$Sentence", "readFrom", "(LLeftAnswers$Tape;LLeftAnswers$Duchy;)V"⟩ ∈ gtb := gtb_t5 (i := 182) rfl (by decide +kernel)
