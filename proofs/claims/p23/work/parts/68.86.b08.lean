set_option maxRecDepth 100000 in
theorem gw1200 : Jvm.Cond.code ⟨"LeftAnswersModel", "isFree", "(I)Z"⟩ prog_15_method_86_code 2 (some .boolean) ∈ gtb := gtb_t8 (i := 139) rfl (by decide +kernel)
set_option maxRecDepth 100000 in
theorem gw1201 : Jvm.Cond.instanceMethod ⟨"LeftAnswersModel", "isFree", "(I)Z"⟩ ∈ gtb := gtb_t8 (i := 138) rfl (by decide +kernel)
set_option maxRecDepth 100000 in
theorem gw1202 : Jvm.Cond.methodLink "LeftAnswersModel" 341 ⟨"LeftAnswersModel", "fondness", "(II)I"⟩ ∈ gtb := gtb_t8 (i := 140) rfl (by decide +kernel)
set_option maxRecDepth 100000 in
theorem gw1203 : Jvm.Cond.selects "LeftAnswersModel" ⟨"LeftAnswersModel", "fondness", "(II)I"⟩ ⟨"LeftAnswersModel", "fondness", "(II)I"⟩ ∈ gtb := gtb_in (i := 97) (by decide +kernel) (by decide +kernel)
set_option maxRecDepth 100000 in
theorem gw1204 : Jvm.Cond.code ⟨"LeftAnswersModel", "fondness", "(II)I"⟩ prog_15_method_87_code 5 (some .int) ∈ gtb := gtb_t8 (i := 143) rfl (by decide +kernel)
set_option maxRecDepth 100000 in
theorem gw1205 : Jvm.Cond.instanceMethod ⟨"LeftAnswersModel", "fondness", "(II)I"⟩ ∈ gtb := gtb_t8 (i := 142) rfl (by decide +kernel)
set_option maxRecDepth 100000 in
theorem gw1206 : Jvm.Cond.constant "java/lang/Integer" 265 1431655765 ∈ gtb := gtb_t4 (i := 171) rfl (by decide +kernel)
set_option maxRecDepth 100000 in
theorem gw1207 : Jvm.Cond.constant "java/lang/Integer" 266 858993459 ∈ gtb := gtb_t4 (i := 172) rfl (by decide +kernel)
set_option maxRecDepth 100000 in
theorem gw1208 : Jvm.Cond.constant "java/lang/Integer" 267 252645135 ∈ gtb := gtb_t4 (i := 173) rfl (by decide +kernel)
set_option maxRecDepth 100000 in
theorem gw1209 : Jvm.Cond.classLink "LeftAnswersLaw" 8 "LeftAnswers" ∈ gtb := gtb_t1 (i := 27) rfl (by decide +kernel)
set_option maxRecDepth 100000 in
theorem gw1210 : Jvm.Cond.instantiable "LeftAnswers" 17 ∈ gtb := gtb_t1 (i := 28) rfl (by decide +kernel)
set_option maxRecDepth 100000 in
theorem gw1211 : Jvm.Cond.methodLink "LeftAnswersLaw" 15 ⟨"LeftAnswers", "<init>", "()V"⟩ ∈ gtb := gtb_t1 (i := 29) rfl (by decide +kernel)
set_option maxRecDepth 100000 in
theorem gw1212 : Jvm.Cond.code ⟨"LeftAnswers", "<init>", "()V"⟩ prog_1_method_1_code 1 none ∈ gtb := gtb_t1 (i := 31) rfl (by decide +kernel)
set_option maxRecDepth 100000 in
theorem gw1213 : Jvm.Cond.instanceMethod ⟨"LeftAnswers", "<init>", "()V"⟩ ∈ gtb := gtb_t1 (i := 30) rfl (by decide +kernel)
set_option maxRecDepth 100000 in
theorem gw1214 : Jvm.Cond.classLink "LeftAnswersLaw" 16 "LeftAnswersModel" ∈ gtb := gtb_t6 (i := 138) rfl (by decide +kernel)
set_option maxRecDepth 100000 in
theorem gw1215 : Jvm.Cond.instantiable "LeftAnswersModel" 52 ∈ gtb := gtb_t6 (i := 132) rfl (by decide +kernel)
set_option maxRecDepth 100000 in
theorem gw1216 : Jvm.Cond.methodLink "LeftAnswersLaw" 18 ⟨"LeftAnswersModel", "<init>", "()V"⟩ ∈ gtb := gtb_t6 (i := 139) rfl (by decide +kernel)
set_option maxRecDepth 100000 in
theorem gw1217 : Jvm.Cond.code ⟨"LeftAnswersModel", "<init>", "()V"⟩ prog_15_method_26_code 1 none ∈ gtb := gtb_t6 (i := 141) rfl (by decide +kernel)
set_option maxRecDepth 100000 in
theorem gw1218 : Jvm.Cond.instanceMethod ⟨"LeftAnswersModel", "<init>", "()V"⟩ ∈ gtb := gtb_t6 (i := 140) rfl (by decide +kernel)
set_option maxRecDepth 100000 in
theorem gw1219 : Jvm.Cond.methodLink "LeftAnswersLaw" 19 ⟨"LeftAnswers", "feed", "(IIIII)I"⟩ ∈ gtb := gtb_t3 (i := 2) rfl (by decide +kernel)
set_option maxRecDepth 100000 in
theorem gw1220 : Jvm.Cond.selects "LeftAnswers" ⟨"LeftAnswers", "feed", "(IIIII)I"⟩ ⟨"LeftAnswers", "feed", "(IIIII)I"⟩ ∈ gtb := gtb_t3 (i := 4) rfl (by decide +kernel)
set_option maxRecDepth 100000 in
theorem gw1221 : Jvm.Cond.code ⟨"LeftAnswers", "feed", "(IIIII)I"⟩ prog_1_method_2_code 6 (some .int) ∈ gtb := gtb_t3 (i := 5) rfl (by decide +kernel)
set_option maxRecDepth 100000 in
theorem gw1222 : Jvm.Cond.instanceMethod ⟨"LeftAnswers", "feed", "(IIIII)I"⟩ ∈ gtb := gtb_t3 (i := 3) rfl (by decide +kernel)
set_option maxRecDepth 100000 in
theorem gw1223 : Jvm.Cond.methodLink "LeftAnswersLaw" 23 ⟨"LeftAnswersModel", "feed", "(IIIII)I"⟩ ∈ gtb := gtb_t6 (i := 125) rfl (by decide +kernel)
set_option maxRecDepth 100000 in
theorem gw1224 : Jvm.Cond.selects "LeftAnswersModel" ⟨"LeftAnswersModel", "feed", "(IIIII)I"⟩ ⟨"LeftAnswersModel", "feed", "(IIIII)I"⟩ ∈ gtb := gtb_t6 (i := 127) rfl (by decide +kernel)
set_option maxRecDepth 100000 in
theorem gw1225 : Jvm.Cond.code ⟨"LeftAnswersModel", "feed", "(IIIII)I"⟩ prog_15_method_4_code 6 (some .int) ∈ gtb := gtb_t6 (i := 128) rfl (by decide +kernel)
set_option maxRecDepth 100000 in
theorem gw1226 : Jvm.Cond.instanceMethod ⟨"LeftAnswersModel", "feed", "(IIIII)I"⟩ ∈ gtb := gtb_t6 (i := 126) rfl (by decide +kernel)
set_option maxRecDepth 100000 in
theorem gw1227 : Jvm.Cond.methodLink "LeftAnswersLaw" 24 ⟨"LeftAnswers", "end", "(I)Z"⟩ ∈ gtb := gtb_t3 (i := 10) rfl (by decide +kernel)
set_option maxRecDepth 100000 in
theorem gw1228 : Jvm.Cond.selects "LeftAnswers" ⟨"LeftAnswers", "end", "(I)Z"⟩ ⟨"LeftAnswers", "end", "(I)Z"⟩ ∈ gtb := gtb_t3 (i := 12) rfl (by decide +kernel)
set_option maxRecDepth 100000 in
theorem gw1229 : Jvm.Cond.code ⟨"LeftAnswers", "end", "(I)Z"⟩ prog_1_method_3_code 2 (some .boolean) ∈ gtb := gtb_t3 (i := 13) rfl (by decide +kernel)
set_option maxRecDepth 100000 in
theorem gw1230 : Jvm.Cond.instanceMethod ⟨"LeftAnswers", "end", "(I)Z"⟩ ∈ gtb := gtb_t3 (i := 11) rfl (by decide +kernel)
set_option maxRecDepth 100000 in
theorem gw1231 : Jvm.Cond.methodLink "LeftAnswersLaw" 28 ⟨"LeftAnswersModel", "end", "(I)Z"⟩ ∈ gtb := gtb_t6 (i := 134) rfl (by decide +kernel)
set_option maxRecDepth 100000 in
theorem gw1232 : Jvm.Cond.selects "LeftAnswersModel" ⟨"LeftAnswersModel", "end", "(I)Z"⟩ ⟨"LeftAnswersModel", "end", "(I)Z"⟩ ∈ gtb := gtb_t6 (i := 136) rfl (by decide +kernel)
set_option maxRecDepth 100000 in
theorem gw1233 : Jvm.Cond.code ⟨"LeftAnswersModel", "end", "(I)Z"⟩ prog_15_method_5_code 2 (some .boolean) ∈ gtb := gtb_t6 (i := 137) rfl (by decide +kernel)
set_option maxRecDepth 100000 in
theorem gw1234 : Jvm.Cond.instanceMethod ⟨"LeftAnswersModel", "end", "(I)Z"⟩ ∈ gtb := gtb_t6 (i := 135) rfl (by decide +kernel)
set_option maxRecDepth 100000 in
theorem gw1235 : Jvm.Cond.methodLink "LeftAnswersLaw" 29 ⟨"LeftAnswers", "duchy", "()I"⟩ ∈ gtb := gtb_t3 (i := 14) rfl (by decide +kernel)
set_option maxRecDepth 100000 in
theorem gw1236 : Jvm.Cond.selects "LeftAnswers" ⟨"LeftAnswers", "duchy", "()I"⟩ ⟨"LeftAnswers", "duchy", "()I"⟩ ∈ gtb := gtb_t3 (i := 16) rfl (by decide +kernel)
set_option maxRecDepth 100000 in
theorem gw1237 : Jvm.Cond.code ⟨"LeftAnswers", "duchy", "()I"⟩ prog_1_method_4_code 3 (some .int) ∈ gtb := gtb_t3 (i := 17) rfl (by decide +kernel)
set_option maxRecDepth 100000 in
theorem gw1238 : Jvm.Cond.instanceMethod ⟨"LeftAnswers", "duchy", "()I"⟩ ∈ gtb := gtb_t3 (i := 15) rfl (by decide +kernel)
set_option maxRecDepth 100000 in
theorem gw1239 : Jvm.Cond.methodLink "LeftAnswersLaw" 33 ⟨"LeftAnswersModel", "duchy", "()I"⟩ ∈ gtb := gtb_t7 (i := 65) rfl (by decide +kernel)
set_option maxRecDepth 100000 in
theorem gw1240 : Jvm.Cond.selects "LeftAnswersModel" ⟨"LeftAnswersModel", "duchy", "()I"⟩ ⟨"LeftAnswersModel", "duchy", "()I"⟩ ∈ gtb := gtb_t7 (i := 67) rfl (by decide +kernel)
set_option maxRecDepth 100000 in
theorem gw1241 : Jvm.Cond.code ⟨"LeftAnswersModel", "duchy", "()I"⟩ prog_15_method_41_code 3 (some .int) ∈ gtb := gtb_t7 (i := 68) rfl (by decide +kernel)
set_option maxRecDepth 100000 in
theorem gw1242 : Jvm.Cond.instanceMethod ⟨"LeftAnswersModel", "duchy", "()I"⟩ ∈ gtb := gtb_t7 (i := 66) rfl (by decide +kernel)
set_option maxRecDepth 100000 in
theorem gw1243 : Jvm.Cond.methodLink "LeftAnswersLaw" 34 ⟨"LeftAnswers", "fault", "()I"⟩ ∈ gtb := gtb_t3 (i := 154) rfl (by decide +kernel)
set_option maxRecDepth 100000 in
theorem gw1244 : Jvm.Cond.selects "LeftAnswers" ⟨"LeftAnswers", "fault", "()I"⟩ ⟨"LeftAnswers", "fault", "()I"⟩ ∈ gtb := gtb_t3 (i := 156) rfl (by decide +kernel)
set_option maxRecDepth 100000 in
theorem gw1245 : Jvm.Cond.code ⟨"LeftAnswers", "fault", "()I"⟩ prog_1_method_5_code 1 (some .int) ∈ gtb := gtb_t3 (i := 157) rfl (by decide +kernel)
set_option maxRecDepth 100000 in
theorem gw1246 : Jvm.Cond.instanceMethod ⟨"LeftAnswers", "fault", "()I"⟩ ∈ gtb := gtb_t3 (i := 155) rfl (by decide +kernel)
set_option maxRecDepth 100000 in
theorem gw1247 : Jvm.Cond.methodLink "LeftAnswersLaw" 37 ⟨"LeftAnswersModel", "fault", "()I"⟩ ∈ gtb := gtb_t7 (i := 180) rfl (by decide +kernel)
set_option maxRecDepth 100000 in
theorem gw1248 : Jvm.Cond.selects "LeftAnswersModel" ⟨"LeftAnswersModel", "fault", "()I"⟩ ⟨"LeftAnswersModel", "fault", "()I"⟩ ∈ gtb := gtb_t7 (i := 182) rfl (by decide +kernel)
set_option maxRecDepth 100000 in
theorem gw1249 : Jvm.Cond.code ⟨"LeftAnswersModel", "fault", "()I"⟩ prog_15_method_42_code 1 (some .int) ∈ gtb := gtb_t7 (i := 183) rfl (by decide +kernel)
set_option maxRecDepth 100000 in
theorem gw1250 : Jvm.Cond.instanceMethod ⟨"LeftAnswersModel", "fault", "()I"⟩ ∈ gtb := gtb_t7 (i := 181) rfl (by decide +kernel)
set_option maxRecDepth 100000 in
theorem gw1251 : Jvm.Cond.methodLink "LeftAnswersLaw" 43 ⟨"LeftAnswersModel", "person", "(II)I"⟩ ∈ gtb := gtb_t7 (i := 184) rfl (by decide +kernel)
set_option maxRecDepth 100000 in
theorem gw1252 : Jvm.Cond.selects "LeftAnswersModel" ⟨"LeftAnswersModel", "person", "(II)I"⟩ ⟨"LeftAnswersModel", "person", "(II)I"⟩ ∈ gtb := gtb_t7 (i := 186) rfl (by decide +kernel)
set_option maxRecDepth 100000 in
theorem gw1253 : Jvm.Cond.code ⟨"LeftAnswersModel", "person", "(II)I"⟩ prog_15_method_52_code 3 (some .int) ∈ gtb := gtb_t7 (i := 187) rfl (by decide +kernel)
set_option maxRecDepth 100000 in
theorem gw1254 : Jvm.Cond.instanceMethod ⟨"LeftAnswersModel", "person", "(II)I"⟩ ∈ gtb := gtb_t7 (i := 185) rfl (by decide +kernel)
set_option maxRecDepth 100000 in
theorem gw1255 : Jvm.Cond.methodLink "LeftAnswersLaw" 44 ⟨"LeftAnswers", "skill", "(II)I"⟩ ∈ gtb := gtb_t3 (i := 158) rfl (by decide +kernel)
set_option maxRecDepth 100000 in
theorem gw1256 : Jvm.Cond.selects "LeftAnswers" ⟨"LeftAnswers", "skill", "(II)I"⟩ ⟨"LeftAnswers", "skill", "(II)I"⟩ ∈ gtb := gtb_t3 (i := 160) rfl (by decide +kernel)
set_option maxRecDepth 100000 in
theorem gw1257 : Jvm.Cond.code ⟨"LeftAnswers", "skill", "(II)I"⟩ prog_1_method_7_code 3 (some .int) ∈ gtb := gtb_t3 (i := 161) rfl (by decide +kernel)
set_option maxRecDepth 100000 in
theorem gw1258 : Jvm.Cond.instanceMethod ⟨"LeftAnswers", "skill", "(II)I"⟩ ∈ gtb := gtb_t3 (i := 159) rfl (by decide +kernel)
set_option maxRecDepth 100000 in
theorem gw1259 : Jvm.Cond.methodLink "LeftAnswersLaw" 47 ⟨"LeftAnswersModel", "skill", "(II)I"⟩ ∈ gtb := gtb_t7 (i := 208) rfl (by decide +kernel)
set_option maxRecDepth 100000 in
theorem gw1260 : Jvm.Cond.selects "LeftAnswersModel" ⟨"LeftAnswersModel", "skill", "(II)I"⟩ ⟨"LeftAnswersModel", "skill", "(II)I"⟩ ∈ gtb := gtb_t7 (i := 210) rfl (by decide +kernel)
set_option maxRecDepth 100000 in
theorem gw1261 : Jvm.Cond.code ⟨"LeftAnswersModel", "skill", "(II)I"⟩ prog_15_method_53_code 3 (some .int) ∈ gtb := gtb_t7 (i := 211) rfl (by decide +kernel)
set_option maxRecDepth 100000 in
theorem gw1262 : Jvm.Cond.instanceMethod ⟨"LeftAnswersModel", "skill", "(II)I"⟩ ∈ gtb := gtb_t7 (i := 209) rfl (by decide +kernel)
set_option maxRecDepth 100000 in
theorem gw1263 : Jvm.Cond.methodLink "LeftAnswersLaw" 48 ⟨"LeftAnswers", "deed", "(II)I"⟩ ∈ gtb := gtb_t3 (i := 173) rfl (by decide +kernel)
set_option maxRecDepth 100000 in
theorem gw1264 : Jvm.Cond.selects "LeftAnswers" ⟨"LeftAnswers", "deed", "(II)I"⟩ ⟨"LeftAnswers", "deed", "(II)I"⟩ ∈ gtb := gtb_t3 (i := 175) rfl (by decide +kernel)
set_option maxRecDepth 100000 in
theorem gw1265 : Jvm.Cond.code ⟨"LeftAnswers", "deed", "(II)I"⟩ prog_1_method_8_code 3 (some .int) ∈ gtb := gtb_t3 (i := 176) rfl (by decide +kernel)
set_option maxRecDepth 100000 in
theorem gw1266 : Jvm.Cond.instanceMethod ⟨"LeftAnswers", "deed", "(II)I"⟩ ∈ gtb := gtb_t3 (i := 174) rfl (by decide +kernel)
set_option maxRecDepth 100000 in
theorem gw1267 : Jvm.Cond.methodLink "LeftAnswersLaw" 51 ⟨"LeftAnswersModel", "deed", "(II)I"⟩ ∈ gtb := gtb_t7 (i := 216) rfl (by decide +kernel)
set_option maxRecDepth 100000 in
theorem gw1268 : Jvm.Cond.selects "LeftAnswersModel" ⟨"LeftAnswersModel", "deed", "(II)I"⟩ ⟨"LeftAnswersModel", "deed", "(II)I"⟩ ∈ gtb := gtb_t7 (i := 218) rfl (by decide +kernel)
set_option maxRecDepth 100000 in
theorem gw1269 : Jvm.Cond.code ⟨"LeftAnswersModel", "deed", "(II)I"⟩ prog_15_method_54_code 3 (some .int) ∈ gtb := gtb_t7 (i := 219) rfl (by decide +kernel)
set_option maxRecDepth 100000 in
theorem gw1270 : Jvm.Cond.instanceMethod ⟨"LeftAnswersModel", "deed", "(II)I"⟩ ∈ gtb := gtb_t7 (i := 217) rfl (by decide +kernel)
set_option maxRecDepth 100000 in
theorem gw1271 : Jvm.Cond.methodLink "LeftAnswersLaw" 52 ⟨"LeftAnswers", "now", "(I)I"⟩ ∈ gtb := gtb_t3 (i := 185) rfl (by decide +kernel)
set_option maxRecDepth 100000 in
theorem gw1272 : Jvm.Cond.selects "LeftAnswers" ⟨"LeftAnswers", "now", "(I)I"⟩ ⟨"LeftAnswers", "now", "(I)I"⟩ ∈ gtb := gtb_t3 (i := 187) rfl (by decide +kernel)
set_option maxRecDepth 100000 in
theorem gw1273 : Jvm.Cond.code ⟨"LeftAnswers", "now", "(I)I"⟩ prog_1_method_9_code 2 (some .int) ∈ gtb := gtb_t3 (i := 188) rfl (by decide +kernel)
set_option maxRecDepth 100000 in
theorem gw1274 : Jvm.Cond.instanceMethod ⟨"LeftAnswers", "now", "(I)I"⟩ ∈ gtb := gtb_t3 (i := 186) rfl (by decide +kernel)
set_option maxRecDepth 100000 in
theorem gw1275 : Jvm.Cond.methodLink "LeftAnswersLaw" 56 ⟨"LeftAnswersModel", "now", "(I)I"⟩ ∈ gtb := gtb_t7 (i := 224) rfl (by decide +kernel)
set_option maxRecDepth 100000 in
theorem gw1276 : Jvm.Cond.selects "LeftAnswersModel" ⟨"LeftAnswersModel", "now", "(I)I"⟩ ⟨"LeftAnswersModel", "now", "(I)I"⟩ ∈ gtb := gtb_t7 (i := 226) rfl (by decide +kernel)
set_option maxRecDepth 100000 in
theorem gw1277 : Jvm.Cond.code ⟨"LeftAnswersModel", "now", "(I)I"⟩ prog_15_method_56_code 4 (some .int) ∈ gtb := gtb_t7 (i := 227) rfl (by decide +kernel)
set_option maxRecDepth 100000 in
theorem gw1278 : Jvm.Cond.instanceMethod ⟨"LeftAnswersModel", "now", "(I)I"⟩ ∈ gtb := gtb_t7 (i := 225) rfl (by decide +kernel)
set_option maxRecDepth 100000 in
theorem gw1279 : Jvm.Cond.methodLink "LeftAnswersLaw" 57 ⟨"LeftAnswers", "does", "(III)I"⟩ ∈ gtb := gtb_t3 (i := 214) rfl (by decide +kernel)
set_option maxRecDepth 100000 in
theorem gw1280 : Jvm.Cond.selects "LeftAnswers" ⟨"LeftAnswers", "does", "(III)I"⟩ ⟨"LeftAnswers", "does", "(III)I"⟩ ∈ gtb := gtb_t3 (i := 216) rfl (by decide +kernel)
set_option maxRecDepth 100000 in
theorem gw1281 : Jvm.Cond.code ⟨"LeftAnswers", "does", "(III)I"⟩ prog_1_method_10_code 4 (some .int) ∈ gtb := gtb_t3 (i := 217) rfl (by decide +kernel)
set_option maxRecDepth 100000 in
theorem gw1282 : Jvm.Cond.instanceMethod ⟨"LeftAnswers", "does", "(III)I"⟩ ∈ gtb := gtb_t3 (i := 215) rfl (by decide +kernel)
set_option maxRecDepth 100000 in
theorem gw1283 : Jvm.Cond.methodLink "LeftAnswersLaw" 61 ⟨"LeftAnswersModel", "does", "(III)I"⟩ ∈ gtb := gtb_t8 (i := 0) rfl (by decide +kernel)
set_option maxRecDepth 100000 in
theorem gw1284 : Jvm.Cond.selects "LeftAnswersModel" ⟨"LeftAnswersModel", "does", "(III)I"⟩ ⟨"LeftAnswersModel", "does", "(III)I"⟩ ∈ gtb := gtb_t8 (i := 2) rfl (by decide +kernel)
set_option maxRecDepth 100000 in
theorem gw1285 : Jvm.Cond.code ⟨"LeftAnswersModel", "does", "(III)I"⟩ prog_15_method_64_code 4 (some .int) ∈ gtb := gtb_t8 (i := 3) rfl (by decide +kernel)
set_option maxRecDepth 100000 in
theorem gw1286 : Jvm.Cond.instanceMethod ⟨"LeftAnswersModel", "does", "(III)I"⟩ ∈ gtb := gtb_t8 (i := 1) rfl (by decide +kernel)
set_option maxRecDepth 100000 in
theorem gw1287 : Jvm.Cond.methodLink "LeftAnswersLaw" 62 ⟨"LeftAnswers", "wed", "(II)I"⟩ ∈ gtb := gtb_t4 (i := 57) rfl (by decide +kernel)
set_option maxRecDepth 100000 in
theorem gw1288 : Jvm.Cond.selects "LeftAnswers" ⟨"LeftAnswers", "wed", "(II)I"⟩ ⟨"LeftAnswers", "wed", "(II)I"⟩ ∈ gtb := gtb_t4 (i := 59) rfl (by decide +kernel)
set_option maxRecDepth 100000 in
theorem gw1289 : Jvm.Cond.code ⟨"LeftAnswers", "wed", "(II)I"⟩ prog_1_method_11_code 3 (some .int) ∈ gtb := gtb_t4 (i := 60) rfl (by decide +kernel)
set_option maxRecDepth 100000 in
theorem gw1290 : Jvm.Cond.instanceMethod ⟨"LeftAnswers", "wed", "(II)I"⟩ ∈ gtb := gtb_t4 (i := 58) rfl (by decide +kernel)
set_option maxRecDepth 100000 in
theorem gw1291 : Jvm.Cond.methodLink "LeftAnswersLaw" 65 ⟨"LeftAnswersModel", "wed", "(II)I"⟩ ∈ gtb := gtb_t8 (i := 34) rfl (by decide +kernel)
set_option maxRecDepth 100000 in
theorem gw1292 : Jvm.Cond.selects "LeftAnswersModel" ⟨"LeftAnswersModel", "wed", "(II)I"⟩ ⟨"LeftAnswersModel", "wed", "(II)I"⟩ ∈ gtb := gtb_t8 (i := 36) rfl (by decide +kernel)
set_option maxRecDepth 100000 in
theorem gw1293 : Jvm.Cond.code ⟨"LeftAnswersModel", "wed", "(II)I"⟩ prog_15_method_65_code 3 (some .int) ∈ gtb := gtb_t8 (i := 37) rfl (by decide +kernel)
set_option maxRecDepth 100000 in
theorem gw1294 : Jvm.Cond.instanceMethod ⟨"LeftAnswersModel", "wed", "(II)I"⟩ ∈ gtb := gtb_t8 (i := 35) rfl (by decide +kernel)
set_option maxRecDepth 100000 in
theorem gw1295 : Jvm.Cond.methodLink "LeftAnswersLaw" 66 ⟨"LeftAnswers", "part", "(I)I"⟩ ∈ gtb := gtb_t4 (i := 61) rfl (by decide +kernel)
set_option maxRecDepth 100000 in
theorem gw1296 : Jvm.Cond.selects "LeftAnswers" ⟨"LeftAnswers", "part", "(I)I"⟩ ⟨"LeftAnswers", "part", "(I)I"⟩ ∈ gtb := gtb_t4 (i := 63) rfl (by decide +kernel)
set_option maxRecDepth 100000 in
theorem gw1297 : Jvm.Cond.code ⟨"LeftAnswers", "part", "(I)I"⟩ prog_1_method_12_code 2 (some .int) ∈ gtb := gtb_t4 (i := 64) rfl (by decide +kernel)
set_option maxRecDepth 100000 in
theorem gw1298 : Jvm.Cond.instanceMethod ⟨"LeftAnswers", "part", "(I)I"⟩ ∈ gtb := gtb_t4 (i := 62) rfl (by decide +kernel)
set_option maxRecDepth 100000 in
theorem gw1299 : Jvm.Cond.methodLink "LeftAnswersLaw" 69 ⟨"LeftAnswersModel", "part", "(I)I"⟩ ∈ gtb := gtb_t8 (i := 38) rfl (by decide +kernel)
set_option maxRecDepth 100000 in
theorem gw1300 : Jvm.Cond.selects "LeftAnswersModel" ⟨"LeftAnswersModel", "part", "(I)I"⟩ ⟨"LeftAnswersModel", "part", "(I)I"⟩ ∈ gtb := gtb_t8 (i := 40) rfl (by decide +kernel)
set_option maxRecDepth 100000 in
theorem gw1301 : Jvm.Cond.code ⟨"LeftAnswersModel", "part", "(I)I"⟩ prog_15_method_66_code 2 (some .int) ∈ gtb := gtb_t8 (i := 41) rfl (by decide +kernel)
set_option maxRecDepth 100000 in
theorem gw1302 : Jvm.Cond.instanceMethod ⟨"LeftAnswersModel", "part", "(I)I"⟩ ∈ gtb := gtb_t8 (i := 39) rfl (by decide +kernel)
set_option maxRecDepth 100000 in
theorem gw1303 : Jvm.Cond.methodLink "LeftAnswersLaw" 70 ⟨"LeftAnswers", "glove", "(I)I"⟩ ∈ gtb := gtb_t4 (i := 65) rfl (by decide +kernel)
set_option maxRecDepth 100000 in
theorem gw1304 : Jvm.Cond.selects "LeftAnswers" ⟨"LeftAnswers", "glove", "(I)I"⟩ ⟨"LeftAnswers", "glove", "(I)I"⟩ ∈ gtb := gtb_t4 (i := 67) rfl (by decide +kernel)
set_option maxRecDepth 100000 in
theorem gw1305 : Jvm.Cond.code ⟨"LeftAnswers", "glove", "(I)I"⟩ prog_1_method_13_code 2 (some .int) ∈ gtb := gtb_t4 (i := 68) rfl (by decide +kernel)
set_option maxRecDepth 100000 in
theorem gw1306 : Jvm.Cond.instanceMethod ⟨"LeftAnswers", "glove", "(I)I"⟩ ∈ gtb := gtb_t4 (i := 66) rfl (by decide +kernel)
set_option maxRecDepth 100000 in
theorem gw1307 : Jvm.Cond.methodLink "LeftAnswersLaw" 73 ⟨"LeftAnswersModel", "glove", "(I)I"⟩ ∈ gtb := gtb_t8 (i := 42) rfl (by decide +kernel)
set_option maxRecDepth 100000 in
theorem gw1308 : Jvm.Cond.selects "LeftAnswersModel" ⟨"LeftAnswersModel", "glove", "(I)I"⟩ ⟨"LeftAnswersModel", "glove", "(I)I"⟩ ∈ gtb := gtb_t8 (i := 44) rfl (by decide +kernel)
set_option maxRecDepth 100000 in
theorem gw1309 : Jvm.Cond.code ⟨"LeftAnswersModel", "glove", "(I)I"⟩ prog_15_method_67_code 2 (some .int) ∈ gtb := gtb_t8 (i := 45) rfl (by decide +kernel)
set_option maxRecDepth 100000 in
theorem gw1310 : Jvm.Cond.instanceMethod ⟨"LeftAnswersModel", "glove", "(I)I"⟩ ∈ gtb := gtb_t8 (i := 43) rfl (by decide +kernel)
set_option maxRecDepth 100000 in
theorem gw1311 : Jvm.Cond.methodLink "LeftAnswersLaw" 74 ⟨"LeftAnswers", "bare", "(I)I"⟩ ∈ gtb := gtb_t4 (i := 69) rfl (by decide +kernel)
set_option maxRecDepth 100000 in
theorem gw1312 : Jvm.Cond.selects "LeftAnswers" ⟨"LeftAnswers", "bare", "(I)I"⟩ ⟨"LeftAnswers", "bare", "(I)I"⟩ ∈ gtb := gtb_t4 (i := 71) rfl (by decide +kernel)
set_option maxRecDepth 100000 in
theorem gw1313 : Jvm.Cond.code ⟨"LeftAnswers", "bare", "(I)I"⟩ prog_1_method_14_code 2 (some .int) ∈ gtb := gtb_t4 (i := 72) rfl (by decide +kernel)
set_option maxRecDepth 100000 in
theorem gw1314 : Jvm.Cond.instanceMethod ⟨"LeftAnswers", "bare", "(I)I"⟩ ∈ gtb := gtb_t4 (i := 70) rfl (by decide +kernel)
set_option maxRecDepth 100000 in
theorem gw1315 : Jvm.Cond.methodLink "LeftAnswersLaw" 77 ⟨"LeftAnswersModel", "bare", "(I)I"⟩ ∈ gtb := gtb_t8 (i := 46) rfl (by decide +kernel)
set_option maxRecDepth 100000 in
theorem gw1316 : Jvm.Cond.selects "LeftAnswersModel" ⟨"LeftAnswersModel", "bare", "(I)I"⟩ ⟨"LeftAnswersModel", "bare", "(I)I"⟩ ∈ gtb := gtb_t8 (i := 48) rfl (by decide +kernel)
set_option maxRecDepth 100000 in
theorem gw1317 : Jvm.Cond.code ⟨"LeftAnswersModel", "bare", "(I)I"⟩ prog_15_method_68_code 2 (some .int) ∈ gtb := gtb_t8 (i := 49) rfl (by decide +kernel)
set_option maxRecDepth 100000 in
theorem gw1318 : Jvm.Cond.instanceMethod ⟨"LeftAnswersModel", "bare", "(I)I"⟩ ∈ gtb := gtb_t8 (i := 47) rfl (by decide +kernel)
set_option maxRecDepth 100000 in
theorem gw1319 : Jvm.Cond.methodLink "LeftAnswersLaw" 78 ⟨"LeftAnswers", "days", "(I)I"⟩ ∈ gtb := gtb_t4 (i := 73) rfl (by decide +kernel)
set_option maxRecDepth 100000 in
theorem gw1320 : Jvm.Cond.selects "LeftAnswers" ⟨"LeftAnswers", "days", "(I)I"⟩ ⟨"LeftAnswers", "days", "(I)I"⟩ ∈ gtb := gtb_t4 (i := 75) rfl (by decide +kernel)
set_option maxRecDepth 100000 in
theorem gw1321 : Jvm.Cond.code ⟨"LeftAnswers", "days", "(I)I"⟩ prog_1_method_15_code 3 (some .int) ∈ gtb := gtb_t4 (i := 76) rfl (by decide +kernel)
set_option maxRecDepth 100000 in
theorem gw1322 : Jvm.Cond.instanceMethod ⟨"LeftAnswers", "days", "(I)I"⟩ ∈ gtb := gtb_t4 (i := 74) rfl (by decide +kernel)
set_option maxRecDepth 100000 in
theorem gw1323 : Jvm.Cond.methodLink "LeftAnswersLaw" 81 ⟨"LeftAnswersModel", "days", "(I)I"⟩ ∈ gtb := gtb_t8 (i := 54) rfl (by decide +kernel)
set_option maxRecDepth 100000 in
theorem gw1324 : Jvm.Cond.selects "LeftAnswersModel" ⟨"LeftAnswersModel", "days", "(I)I"⟩ ⟨"LeftAnswersModel", "days", "(I)I"⟩ ∈ gtb := gtb_t8 (i := 56) rfl (by decide +kernel)
set_option maxRecDepth 100000 in
theorem gw1325 : Jvm.Cond.code ⟨"LeftAnswersModel", "days", "(I)I"⟩ prog_15_method_72_code 2 (some .int) ∈ gtb := gtb_t8 (i := 57) rfl (by decide +kernel)
set_option maxRecDepth 100000 in
theorem gw1326 : Jvm.Cond.instanceMethod ⟨"LeftAnswersModel", "days", "(I)I"⟩ ∈ gtb := gtb_t8 (i := 55) rfl (by decide +kernel)
set_option maxRecDepth 100000 in
theorem gw1327 : Jvm.Cond.methodLink "LeftAnswersLaw" 82 ⟨"LeftAnswers", "undo", "()I"⟩ ∈ gtb := gtb_t4 (i := 80) rfl (by decide +kernel)
set_option maxRecDepth 100000 in
theorem gw1328 : Jvm.Cond.selects "LeftAnswers" ⟨"LeftAnswers", "undo", "()I"⟩ ⟨"LeftAnswers", "undo", "()I"⟩ ∈ gtb := gtb_t4 (i := 82) rfl (by decide +kernel)
set_option maxRecDepth 100000 in
theorem gw1329 : Jvm.Cond.code ⟨"LeftAnswers", "undo", "()I"⟩ prog_1_method_16_code 1 (some .int) ∈ gtb := gtb_t4 (i := 83) rfl (by decide +kernel)
set_option maxRecDepth 100000 in
theorem gw1330 : Jvm.Cond.instanceMethod ⟨"LeftAnswers", "undo", "()I"⟩ ∈ gtb := gtb_t4 (i := 81) rfl (by decide +kernel)
set_option maxRecDepth 100000 in
theorem gw1331 : Jvm.Cond.methodLink "LeftAnswersLaw" 85 ⟨"LeftAnswersModel", "undo", "()I"⟩ ∈ gtb := gtb_t8 (i := 50) rfl (by decide +kernel)
set_option maxRecDepth 100000 in
theorem gw1332 : Jvm.Cond.selects "LeftAnswersModel" ⟨"LeftAnswersModel", "undo", "()I"⟩ ⟨"LeftAnswersModel", "undo", "()I"⟩ ∈ gtb := gtb_t8 (i := 52) rfl (by decide +kernel)
set_option maxRecDepth 100000 in
theorem gw1333 : Jvm.Cond.code ⟨"LeftAnswersModel", "undo", "()I"⟩ prog_15_method_69_code 2 (some .int) ∈ gtb := gtb_t8 (i := 53) rfl (by decide +kernel)
set_option maxRecDepth 100000 in
theorem gw1334 : Jvm.Cond.instanceMethod ⟨"LeftAnswersModel", "undo", "()I"⟩ ∈ gtb := gtb_t8 (i := 51) rfl (by decide +kernel)
set_option maxRecDepth 100000 in
theorem gw1335 : Jvm.Cond.methodLink "LeftAnswersLaw" 86 ⟨"LeftAnswers", "able", "(II)I"⟩ ∈ gtb := gtb_t4 (i := 88) rfl (by decide +kernel)
set_option maxRecDepth 100000 in
theorem gw1336 : Jvm.Cond.selects "LeftAnswers" ⟨"LeftAnswers", "able", "(II)I"⟩ ⟨"LeftAnswers", "able", "(II)I"⟩ ∈ gtb := gtb_t4 (i := 90) rfl (by decide +kernel)
set_option maxRecDepth 100000 in
theorem gw1337 : Jvm.Cond.code ⟨"LeftAnswers", "able", "(II)I"⟩ prog_1_method_17_code 3 (some .int) ∈ gtb := gtb_t4 (i := 91) rfl (by decide +kernel)
set_option maxRecDepth 100000 in
theorem gw1338 : Jvm.Cond.instanceMethod ⟨"LeftAnswers", "able", "(II)I"⟩ ∈ gtb := gtb_t4 (i := 89) rfl (by decide +kernel)
set_option maxRecDepth 100000 in
theorem gw1339 : Jvm.Cond.methodLink "LeftAnswersLaw" 89 ⟨"LeftAnswersModel", "able", "(II)I"⟩ ∈ gtb := gtb_t8 (i := 66) rfl (by decide +kernel)
set_option maxRecDepth 100000 in
theorem gw1340 : Jvm.Cond.selects "LeftAnswersModel" ⟨"LeftAnswersModel", "able", "(II)I"⟩ ⟨"LeftAnswersModel", "able", "(II)I"⟩ ∈ gtb := gtb_t8 (i := 68) rfl (by decide +kernel)
set_option maxRecDepth 100000 in
theorem gw1341 : Jvm.Cond.code ⟨"LeftAnswersModel", "able", "(II)I"⟩ prog_15_method_73_code 5 (some .int) ∈ gtb := gtb_t8 (i := 69) rfl (by decide +kernel)
set_option maxRecDepth 100000 in
theorem gw1342 : Jvm.Cond.instanceMethod ⟨"LeftAnswersModel", "able", "(II)I"⟩ ∈ gtb := gtb_t8 (i := 67) rfl (by decide +kernel)
set_option maxRecDepth 100000 in
theorem gw1343 : Jvm.Cond.methodLink "LeftAnswersLaw" 90 ⟨"LeftAnswers", "parted", "()I"⟩ ∈ gtb := gtb_t4 (i := 96) rfl (by decide +kernel)
set_option maxRecDepth 100000 in
theorem gw1344 : Jvm.Cond.selects "LeftAnswers" ⟨"LeftAnswers", "parted", "()I"⟩ ⟨"LeftAnswers", "parted", "()I"⟩ ∈ gtb := gtb_t4 (i := 98) rfl (by decide +kernel)
set_option maxRecDepth 100000 in
theorem gw1345 : Jvm.Cond.code ⟨"LeftAnswers", "parted", "()I"⟩ prog_1_method_18_code 4 (some .int) ∈ gtb := gtb_t4 (i := 99) rfl (by decide +kernel)
set_option maxRecDepth 100000 in
theorem gw1346 : Jvm.Cond.instanceMethod ⟨"LeftAnswers", "parted", "()I"⟩ ∈ gtb := gtb_t4 (i := 97) rfl (by decide +kernel)
set_option maxRecDepth 100000 in
theorem gw1347 : Jvm.Cond.methodLink "LeftAnswersLaw" 93 ⟨"LeftAnswersModel", "parted", "()I"⟩ ∈ gtb := gtb_t8 (i := 70) rfl (by decide +kernel)
set_option maxRecDepth 100000 in
theorem gw1348 : Jvm.Cond.selects "LeftAnswersModel" ⟨"LeftAnswersModel", "parted", "()I"⟩ ⟨"LeftAnswersModel", "parted", "()I"⟩ ∈ gtb := gtb_t8 (i := 72) rfl (by decide +kernel)
set_option maxRecDepth 100000 in
theorem gw1349 : Jvm.Cond.code ⟨"LeftAnswersModel", "parted", "()I"⟩ prog_15_method_76_code 3 (some .int) ∈ gtb := gtb_t8 (i := 73) rfl (by decide +kernel)
