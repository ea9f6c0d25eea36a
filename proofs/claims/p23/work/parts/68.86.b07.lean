set_option maxRecDepth 100000 in
theorem gw1050 : Jvm.Cond.methodLink "LeftAnswersModel" 386 ⟨"LeftAnswersModel", "takeBack", "()V"⟩ ∈ gtb := gtb_t8 (i := 209) rfl (by decide +kernel)
set_option maxRecDepth 100000 in
theorem gw1051 : Jvm.Cond.selects "LeftAnswersModel" ⟨"LeftAnswersModel", "takeBack", "()V"⟩ ⟨"LeftAnswersModel", "takeBack", "()V"⟩ ∈ gtb := gtb_in (i := 107) (by decide +kernel) (by decide +kernel)
set_option maxRecDepth 100000 in
theorem gw1052 : Jvm.Cond.code ⟨"LeftAnswersModel", "takeBack", "()V"⟩ prog_15_method_105_code 2 none ∈ gtb := gtb_t8 (i := 212) rfl (by decide +kernel)
set_option maxRecDepth 100000 in
theorem gw1053 : Jvm.Cond.instanceMethod ⟨"LeftAnswersModel", "takeBack", "()V"⟩ ∈ gtb := gtb_t8 (i := 211) rfl (by decide +kernel)
set_option maxRecDepth 100000 in
theorem gw1054 : Jvm.Cond.methodLink "LeftAnswersModel" 320 ⟨"LeftAnswersModel", "size", "(I)I"⟩ ∈ gtb := gtb_t8 (i := 102) rfl (by decide +kernel)
set_option maxRecDepth 100000 in
theorem gw1055 : Jvm.Cond.code ⟨"LeftAnswersModel", "size", "(I)I"⟩ prog_15_method_11_code 1 (some .int) ∈ gtb := gtb_t8 (i := 104) rfl (by decide +kernel)
set_option maxRecDepth 100000 in
theorem gw1056 : Jvm.Cond.static ⟨"LeftAnswersModel", "size", "(I)I"⟩ ∈ gtb := gtb_t8 (i := 103) rfl (by decide +kernel)
set_option maxRecDepth 100000 in
theorem gw1057 : Jvm.Cond.fieldLink "LeftAnswersModel" 302 "LeftAnswersModel" "partMost" "I" ∈ gtb := gtb_t6 (i := 175) rfl (by decide +kernel)
set_option maxRecDepth 100000 in
theorem gw1058 : Jvm.Cond.methodLink "LeftAnswersModel" 305 ⟨"LeftAnswersModel", "isBlamed", "(III)Z"⟩ ∈ gtb := gtb_t8 (i := 78) rfl (by decide +kernel)
set_option maxRecDepth 100000 in
theorem gw1059 : Jvm.Cond.selects "LeftAnswersModel" ⟨"LeftAnswersModel", "isBlamed", "(III)Z"⟩ ⟨"LeftAnswersModel", "isBlamed", "(III)Z"⟩ ∈ gtb := gtb_in (i := 91) (by decide +kernel) (by decide +kernel)
set_option maxRecDepth 100000 in
theorem gw1060 : Jvm.Cond.code ⟨"LeftAnswersModel", "isBlamed", "(III)Z"⟩ prog_15_method_74_code 4 (some .boolean) ∈ gtb := gtb_t8 (i := 81) rfl (by decide +kernel)
set_option maxRecDepth 100000 in
theorem gw1061 : Jvm.Cond.instanceMethod ⟨"LeftAnswersModel", "isBlamed", "(III)Z"⟩ ∈ gtb := gtb_t8 (i := 80) rfl (by decide +kernel)
set_option maxRecDepth 100000 in
theorem gw1062 : Jvm.Cond.methodLink "LeftAnswersModel" 308 ⟨"LeftAnswersModel", "partFrom", "(III)V"⟩ ∈ gtb := gtb_t8 (i := 74) rfl (by decide +kernel)
set_option maxRecDepth 100000 in
theorem gw1063 : Jvm.Cond.selects "LeftAnswersModel" ⟨"LeftAnswersModel", "partFrom", "(III)V"⟩ ⟨"LeftAnswersModel", "partFrom", "(III)V"⟩ ∈ gtb := gtb_in (i := 90) (by decide +kernel) (by decide +kernel)
set_option maxRecDepth 100000 in
theorem gw1064 : Jvm.Cond.code ⟨"LeftAnswersModel", "partFrom", "(III)V"⟩ prog_15_method_75_code 7 none ∈ gtb := gtb_t8 (i := 77) rfl (by decide +kernel)
set_option maxRecDepth 100000 in
theorem gw1065 : Jvm.Cond.instanceMethod ⟨"LeftAnswersModel", "partFrom", "(III)V"⟩ ∈ gtb := gtb_t8 (i := 76) rfl (by decide +kernel)
set_option maxRecDepth 100000 in
theorem gw1066 : Jvm.Cond.fieldLink "LeftAnswersModel" 311 "LeftAnswersModel" "partMany" "I" ∈ gtb := gtb_t6 (i := 176) rfl (by decide +kernel)
set_option maxRecDepth 100000 in
theorem gw1067 : Jvm.Cond.methodLink "LeftAnswersModel" 243 ⟨"LeftAnswersModel", "refuse", "()I"⟩ ∈ gtb := gtb_t7 (i := 192) rfl (by decide +kernel)
set_option maxRecDepth 100000 in
theorem gw1068 : Jvm.Cond.selects "LeftAnswersModel" ⟨"LeftAnswersModel", "refuse", "()I"⟩ ⟨"LeftAnswersModel", "refuse", "()I"⟩ ∈ gtb := gtb_in (i := 73) (by decide +kernel) (by decide +kernel)
set_option maxRecDepth 100000 in
theorem gw1069 : Jvm.Cond.code ⟨"LeftAnswersModel", "refuse", "()I"⟩ prog_15_method_2_code 1 (some .int) ∈ gtb := gtb_t7 (i := 195) rfl (by decide +kernel)
set_option maxRecDepth 100000 in
theorem gw1070 : Jvm.Cond.instanceMethod ⟨"LeftAnswersModel", "refuse", "()I"⟩ ∈ gtb := gtb_t7 (i := 194) rfl (by decide +kernel)
set_option maxRecDepth 100000 in
theorem gw1071 : Jvm.Cond.methodLink "LeftAnswersModel" 429 ⟨"LeftAnswersModel", "readSaid", "()Z"⟩ ∈ gtb := gtb_t9 (i := 21) rfl (by decide +kernel)
set_option maxRecDepth 100000 in
theorem gw1072 : Jvm.Cond.selects "LeftAnswersModel" ⟨"LeftAnswersModel", "readSaid", "()Z"⟩ ⟨"LeftAnswersModel", "readSaid", "()Z"⟩ ∈ gtb := gtb_in (i := 117) (by decide +kernel) (by decide +kernel)
set_option maxRecDepth 100000 in
theorem gw1073 : Jvm.Cond.code ⟨"LeftAnswersModel", "readSaid", "()Z"⟩ prog_15_method_119_code 4 (some .boolean) ∈ gtb := gtb_t9 (i := 24) rfl (by decide +kernel)
set_option maxRecDepth 100000 in
theorem gw1074 : Jvm.Cond.instanceMethod ⟨"LeftAnswersModel", "readSaid", "()Z"⟩ ∈ gtb := gtb_t9 (i := 23) rfl (by decide +kernel)
set_option maxRecDepth 100000 in
theorem gw1075 : Jvm.Cond.fieldLink "LeftAnswersModel" 423 "LeftAnswersModel" "top" "I" ∈ gtb := gtb_t6 (i := 198) rfl (by decide +kernel)
set_option maxRecDepth 100000 in
theorem gw1076 : Jvm.Cond.methodLink "LeftAnswersModel" 180 ⟨"LeftAnswersModel", "isWord", "(I)Z"⟩ ∈ gtb := gtb_t7 (i := 97) rfl (by decide +kernel)
set_option maxRecDepth 100000 in
theorem gw1077 : Jvm.Cond.selects "LeftAnswersModel" ⟨"LeftAnswersModel", "isWord", "(I)Z"⟩ ⟨"LeftAnswersModel", "isWord", "(I)Z"⟩ ∈ gtb := gtb_in (i := 55) (by decide +kernel) (by decide +kernel)
set_option maxRecDepth 100000 in
theorem gw1078 : Jvm.Cond.code ⟨"LeftAnswersModel", "isWord", "(I)Z"⟩ prog_15_method_19_code 2 (some .boolean) ∈ gtb := gtb_t7 (i := 100) rfl (by decide +kernel)
set_option maxRecDepth 100000 in
theorem gw1079 : Jvm.Cond.instanceMethod ⟨"LeftAnswersModel", "isWord", "(I)Z"⟩ ∈ gtb := gtb_t7 (i := 99) rfl (by decide +kernel)
set_option maxRecDepth 100000 in
theorem gw1080 : Jvm.Cond.methodLink "LeftAnswersModel" 426 ⟨"LeftAnswersModel", "saysOne", "(IIII)I"⟩ ∈ gtb := gtb_t9 (i := 33) rfl (by decide +kernel)
set_option maxRecDepth 100000 in
theorem gw1081 : Jvm.Cond.selects "LeftAnswersModel" ⟨"LeftAnswersModel", "saysOne", "(IIII)I"⟩ ⟨"LeftAnswersModel", "saysOne", "(IIII)I"⟩ ∈ gtb := gtb_in (i := 120) (by decide +kernel) (by decide +kernel)
set_option maxRecDepth 100000 in
theorem gw1082 : Jvm.Cond.code ⟨"LeftAnswersModel", "saysOne", "(IIII)I"⟩ prog_15_method_116_code 6 (some .int) ∈ gtb := gtb_t9 (i := 36) rfl (by decide +kernel)
set_option maxRecDepth 100000 in
theorem gw1083 : Jvm.Cond.instanceMethod ⟨"LeftAnswersModel", "saysOne", "(IIII)I"⟩ ∈ gtb := gtb_t9 (i := 35) rfl (by decide +kernel)
set_option maxRecDepth 100000 in
theorem gw1084 : Jvm.Cond.methodLink "LeftAnswersModel" 190 ⟨"LeftAnswersModel", "readNumber", "(II)Z"⟩ ∈ gtb := gtb_t7 (i := 130) rfl (by decide +kernel)
set_option maxRecDepth 100000 in
theorem gw1085 : Jvm.Cond.selects "LeftAnswersModel" ⟨"LeftAnswersModel", "readNumber", "(II)Z"⟩ ⟨"LeftAnswersModel", "readNumber", "(II)Z"⟩ ∈ gtb := gtb_in (i := 61) (by decide +kernel) (by decide +kernel)
set_option maxRecDepth 100000 in
theorem gw1086 : Jvm.Cond.code ⟨"LeftAnswersModel", "readNumber", "(II)Z"⟩ prog_15_method_23_code 3 (some .boolean) ∈ gtb := gtb_t7 (i := 133) rfl (by decide +kernel)
set_option maxRecDepth 100000 in
theorem gw1087 : Jvm.Cond.instanceMethod ⟨"LeftAnswersModel", "readNumber", "(II)Z"⟩ ∈ gtb := gtb_t7 (i := 132) rfl (by decide +kernel)
set_option maxRecDepth 100000 in
theorem gw1088 : Jvm.Cond.methodLink "LeftAnswersModel" 392 ⟨"LeftAnswersModel", "keep", "(IZ)Z"⟩ ∈ gtb := gtb_t8 (i := 221) rfl (by decide +kernel)
set_option maxRecDepth 100000 in
theorem gw1089 : Jvm.Cond.selects "LeftAnswersModel" ⟨"LeftAnswersModel", "keep", "(IZ)Z"⟩ ⟨"LeftAnswersModel", "keep", "(IZ)Z"⟩ ∈ gtb := gtb_in (i := 109) (by decide +kernel) (by decide +kernel)
set_option maxRecDepth 100000 in
theorem gw1090 : Jvm.Cond.code ⟨"LeftAnswersModel", "keep", "(IZ)Z"⟩ prog_15_method_107_code 3 (some .boolean) ∈ gtb := gtb_t8 (i := 224) rfl (by decide +kernel)
set_option maxRecDepth 100000 in
theorem gw1091 : Jvm.Cond.instanceMethod ⟨"LeftAnswersModel", "keep", "(IZ)Z"⟩ ∈ gtb := gtb_t8 (i := 223) rfl (by decide +kernel)
set_option maxRecDepth 100000 in
theorem gw1092 : Jvm.Cond.methodLink "LeftAnswersModel" 401 ⟨"LeftAnswersModel", "readDoes", "(I)Z"⟩ ∈ gtb := gtb_t8 (i := 225) rfl (by decide +kernel)
set_option maxRecDepth 100000 in
theorem gw1093 : Jvm.Cond.selects "LeftAnswersModel" ⟨"LeftAnswersModel", "readDoes", "(I)Z"⟩ ⟨"LeftAnswersModel", "readDoes", "(I)Z"⟩ ∈ gtb := gtb_in (i := 110) (by decide +kernel) (by decide +kernel)
set_option maxRecDepth 100000 in
theorem gw1094 : Jvm.Cond.code ⟨"LeftAnswersModel", "readDoes", "(I)Z"⟩ prog_15_method_110_code 3 (some .boolean) ∈ gtb := gtb_t8 (i := 228) rfl (by decide +kernel)
set_option maxRecDepth 100000 in
theorem gw1095 : Jvm.Cond.instanceMethod ⟨"LeftAnswersModel", "readDoes", "(I)Z"⟩ ∈ gtb := gtb_t8 (i := 227) rfl (by decide +kernel)
set_option maxRecDepth 100000 in
theorem gw1096 : Jvm.Cond.methodLink "LeftAnswersModel" 450 ⟨"LeftAnswersModel", "readOr", "()Z"⟩ ∈ gtb := gtb_t9 (i := 13) rfl (by decide +kernel)
set_option maxRecDepth 100000 in
theorem gw1097 : Jvm.Cond.selects "LeftAnswersModel" ⟨"LeftAnswersModel", "readOr", "()Z"⟩ ⟨"LeftAnswersModel", "readOr", "()Z"⟩ ∈ gtb := gtb_in (i := 115) (by decide +kernel) (by decide +kernel)
set_option maxRecDepth 100000 in
theorem gw1098 : Jvm.Cond.code ⟨"LeftAnswersModel", "readOr", "()Z"⟩ prog_15_method_117_code 2 (some .boolean) ∈ gtb := gtb_t9 (i := 16) rfl (by decide +kernel)
set_option maxRecDepth 100000 in
theorem gw1099 : Jvm.Cond.instanceMethod ⟨"LeftAnswersModel", "readOr", "()Z"⟩ ∈ gtb := gtb_t9 (i := 15) rfl (by decide +kernel)
set_option maxRecDepth 100000 in
theorem gw1100 : Jvm.Cond.methodLink "LeftAnswersModel" 86 ⟨"LeftAnswersModel", "isSign", "(I)Z"⟩ ∈ gtb := gtb_t7 (i := 176) rfl (by decide +kernel)
set_option maxRecDepth 100000 in
theorem gw1101 : Jvm.Cond.selects "LeftAnswersModel" ⟨"LeftAnswersModel", "isSign", "(I)Z"⟩ ⟨"LeftAnswersModel", "isSign", "(I)Z"⟩ ∈ gtb := gtb_in (i := 71) (by decide +kernel) (by decide +kernel)
set_option maxRecDepth 100000 in
theorem gw1102 : Jvm.Cond.code ⟨"LeftAnswersModel", "isSign", "(I)Z"⟩ prog_15_method_20_code 2 (some .boolean) ∈ gtb := gtb_t7 (i := 179) rfl (by decide +kernel)
set_option maxRecDepth 100000 in
theorem gw1103 : Jvm.Cond.instanceMethod ⟨"LeftAnswersModel", "isSign", "(I)Z"⟩ ∈ gtb := gtb_t7 (i := 178) rfl (by decide +kernel)
set_option maxRecDepth 100000 in
theorem gw1104 : Jvm.Cond.methodLink "LeftAnswersModel" 183 ⟨"LeftAnswersModel", "readFirst", "(II)Z"⟩ ∈ gtb := gtb_t7 (i := 111) rfl (by decide +kernel)
set_option maxRecDepth 100000 in
theorem gw1105 : Jvm.Cond.selects "LeftAnswersModel" ⟨"LeftAnswersModel", "readFirst", "(II)Z"⟩ ⟨"LeftAnswersModel", "readFirst", "(II)Z"⟩ ∈ gtb := gtb_in (i := 57) (by decide +kernel) (by decide +kernel)
set_option maxRecDepth 100000 in
theorem gw1106 : Jvm.Cond.code ⟨"LeftAnswersModel", "readFirst", "(II)Z"⟩ prog_15_method_31_code 3 (some .boolean) ∈ gtb := gtb_t7 (i := 114) rfl (by decide +kernel)
set_option maxRecDepth 100000 in
theorem gw1107 : Jvm.Cond.instanceMethod ⟨"LeftAnswersModel", "readFirst", "(II)Z"⟩ ∈ gtb := gtb_t7 (i := 113) rfl (by decide +kernel)
set_option maxRecDepth 100000 in
theorem gw1108 : Jvm.Cond.methodLink "LeftAnswersModel" 187 ⟨"LeftAnswersModel", "readNew", "(I)Z"⟩ ∈ gtb := gtb_t7 (i := 119) rfl (by decide +kernel)
set_option maxRecDepth 100000 in
theorem gw1109 : Jvm.Cond.selects "LeftAnswersModel" ⟨"LeftAnswersModel", "readNew", "(I)Z"⟩ ⟨"LeftAnswersModel", "readNew", "(I)Z"⟩ ∈ gtb := gtb_in (i := 59) (by decide +kernel) (by decide +kernel)
set_option maxRecDepth 100000 in
theorem gw1110 : Jvm.Cond.code ⟨"LeftAnswersModel", "readNew", "(I)Z"⟩ prog_15_method_29_code 2 (some .boolean) ∈ gtb := gtb_t7 (i := 122) rfl (by decide +kernel)
set_option maxRecDepth 100000 in
theorem gw1111 : Jvm.Cond.instanceMethod ⟨"LeftAnswersModel", "readNew", "(I)Z"⟩ ∈ gtb := gtb_t7 (i := 121) rfl (by decide +kernel)
set_option maxRecDepth 100000 in
theorem gw1112 : Jvm.Cond.methodLink "LeftAnswersModel" 193 ⟨"LeftAnswersModel", "put", "(IZ)Z"⟩ ∈ gtb := gtb_t7 (i := 137) rfl (by decide +kernel)
set_option maxRecDepth 100000 in
theorem gw1113 : Jvm.Cond.selects "LeftAnswersModel" ⟨"LeftAnswersModel", "put", "(IZ)Z"⟩ ⟨"LeftAnswersModel", "put", "(IZ)Z"⟩ ∈ gtb := gtb_in (i := 62) (by decide +kernel) (by decide +kernel)
set_option maxRecDepth 100000 in
theorem gw1114 : Jvm.Cond.code ⟨"LeftAnswersModel", "put", "(IZ)Z"⟩ prog_15_method_32_code 3 (some .boolean) ∈ gtb := gtb_t7 (i := 140) rfl (by decide +kernel)
set_option maxRecDepth 100000 in
theorem gw1115 : Jvm.Cond.instanceMethod ⟨"LeftAnswersModel", "put", "(IZ)Z"⟩ ∈ gtb := gtb_t7 (i := 139) rfl (by decide +kernel)
set_option maxRecDepth 100000 in
theorem gw1116 : Jvm.Cond.methodLink "LeftAnswersModel" 197 ⟨"LeftAnswersModel", "readFlag", "(III)V"⟩ ∈ gtb := gtb_t7 (i := 141) rfl (by decide +kernel)
set_option maxRecDepth 100000 in
theorem gw1117 : Jvm.Cond.selects "LeftAnswersModel" ⟨"LeftAnswersModel", "readFlag", "(III)V"⟩ ⟨"LeftAnswersModel", "readFlag", "(III)V"⟩ ∈ gtb := gtb_in (i := 63) (by decide +kernel) (by decide +kernel)
set_option maxRecDepth 100000 in
theorem gw1118 : Jvm.Cond.code ⟨"LeftAnswersModel", "readFlag", "(III)V"⟩ prog_15_method_33_code 4 none ∈ gtb := gtb_t7 (i := 144) rfl (by decide +kernel)
set_option maxRecDepth 100000 in
theorem gw1119 : Jvm.Cond.instanceMethod ⟨"LeftAnswersModel", "readFlag", "(III)V"⟩ ∈ gtb := gtb_t7 (i := 143) rfl (by decide +kernel)
set_option maxRecDepth 100000 in
theorem gw1120 : Jvm.Cond.methodLink "LeftAnswersModel" 389 ⟨"LeftAnswersModel", "readNamed", "(II)Z"⟩ ∈ gtb := gtb_t8 (i := 229) rfl (by decide +kernel)
set_option maxRecDepth 100000 in
theorem gw1121 : Jvm.Cond.selects "LeftAnswersModel" ⟨"LeftAnswersModel", "readNamed", "(II)Z"⟩ ⟨"LeftAnswersModel", "readNamed", "(II)Z"⟩ ∈ gtb := gtb_in (i := 111) (by decide +kernel) (by decide +kernel)
set_option maxRecDepth 100000 in
theorem gw1122 : Jvm.Cond.code ⟨"LeftAnswersModel", "readNamed", "(II)Z"⟩ prog_15_method_108_code 3 (some .boolean) ∈ gtb := gtb_t8 (i := 232) rfl (by decide +kernel)
set_option maxRecDepth 100000 in
theorem gw1123 : Jvm.Cond.instanceMethod ⟨"LeftAnswersModel", "readNamed", "(II)Z"⟩ ∈ gtb := gtb_t8 (i := 231) rfl (by decide +kernel)
set_option maxRecDepth 100000 in
theorem gw1124 : Jvm.Cond.methodLink "LeftAnswersModel" 395 ⟨"LeftAnswersModel", "readHand", "()Z"⟩ ∈ gtb := gtb_t8 (i := 233) rfl (by decide +kernel)
set_option maxRecDepth 100000 in
theorem gw1125 : Jvm.Cond.selects "LeftAnswersModel" ⟨"LeftAnswersModel", "readHand", "()Z"⟩ ⟨"LeftAnswersModel", "readHand", "()Z"⟩ ∈ gtb := gtb_in (i := 112) (by decide +kernel) (by decide +kernel)
set_option maxRecDepth 100000 in
theorem gw1126 : Jvm.Cond.code ⟨"LeftAnswersModel", "readHand", "()Z"⟩ prog_15_method_109_code 2 (some .boolean) ∈ gtb := gtb_t8 (i := 236) rfl (by decide +kernel)
set_option maxRecDepth 100000 in
theorem gw1127 : Jvm.Cond.instanceMethod ⟨"LeftAnswersModel", "readHand", "()Z"⟩ ∈ gtb := gtb_t8 (i := 235) rfl (by decide +kernel)
set_option maxRecDepth 100000 in
theorem gw1128 : Jvm.Cond.methodLink "LeftAnswersModel" 204 ⟨"LeftAnswersModel", "readPair", "()I"⟩ ∈ gtb := gtb_t7 (i := 153) rfl (by decide +kernel)
set_option maxRecDepth 100000 in
theorem gw1129 : Jvm.Cond.selects "LeftAnswersModel" ⟨"LeftAnswersModel", "readPair", "()I"⟩ ⟨"LeftAnswersModel", "readPair", "()I"⟩ ∈ gtb := gtb_in (i := 66) (by decide +kernel) (by decide +kernel)
set_option maxRecDepth 100000 in
theorem gw1130 : Jvm.Cond.code ⟨"LeftAnswersModel", "readPair", "()I"⟩ prog_15_method_36_code 2 (some .int) ∈ gtb := gtb_t7 (i := 156) rfl (by decide +kernel)
set_option maxRecDepth 100000 in
theorem gw1131 : Jvm.Cond.instanceMethod ⟨"LeftAnswersModel", "readPair", "()I"⟩ ∈ gtb := gtb_t7 (i := 155) rfl (by decide +kernel)
set_option maxRecDepth 100000 in
theorem gw1132 : Jvm.Cond.methodLink "LeftAnswersModel" 210 ⟨"LeftAnswersModel", "readPerson", "()Z"⟩ ∈ gtb := gtb_t7 (i := 107) rfl (by decide +kernel)
set_option maxRecDepth 100000 in
theorem gw1133 : Jvm.Cond.selects "LeftAnswersModel" ⟨"LeftAnswersModel", "readPerson", "()Z"⟩ ⟨"LeftAnswersModel", "readPerson", "()Z"⟩ ∈ gtb := gtb_in (i := 56) (by decide +kernel) (by decide +kernel)
set_option maxRecDepth 100000 in
theorem gw1134 : Jvm.Cond.code ⟨"LeftAnswersModel", "readPerson", "()Z"⟩ prog_15_method_34_code 2 (some .boolean) ∈ gtb := gtb_t7 (i := 110) rfl (by decide +kernel)
set_option maxRecDepth 100000 in
theorem gw1135 : Jvm.Cond.instanceMethod ⟨"LeftAnswersModel", "readPerson", "()Z"⟩ ∈ gtb := gtb_t7 (i := 109) rfl (by decide +kernel)
set_option maxRecDepth 100000 in
theorem gw1136 : Jvm.Cond.methodLink "LeftAnswersModel" 213 ⟨"LeftAnswersModel", "readDeed", "()Z"⟩ ∈ gtb := gtb_t7 (i := 145) rfl (by decide +kernel)
set_option maxRecDepth 100000 in
theorem gw1137 : Jvm.Cond.selects "LeftAnswersModel" ⟨"LeftAnswersModel", "readDeed", "()Z"⟩ ⟨"LeftAnswersModel", "readDeed", "()Z"⟩ ∈ gtb := gtb_in (i := 64) (by decide +kernel) (by decide +kernel)
set_option maxRecDepth 100000 in
theorem gw1138 : Jvm.Cond.code ⟨"LeftAnswersModel", "readDeed", "()Z"⟩ prog_15_method_35_code 2 (some .boolean) ∈ gtb := gtb_t7 (i := 148) rfl (by decide +kernel)
set_option maxRecDepth 100000 in
theorem gw1139 : Jvm.Cond.instanceMethod ⟨"LeftAnswersModel", "readDeed", "()Z"⟩ ∈ gtb := gtb_t7 (i := 147) rfl (by decide +kernel)
set_option maxRecDepth 100000 in
theorem gw1140 : Jvm.Cond.methodLink "LeftAnswersModel" 216 ⟨"LeftAnswersModel", "readSees", "()Z"⟩ ∈ gtb := gtb_t7 (i := 149) rfl (by decide +kernel)
set_option maxRecDepth 100000 in
theorem gw1141 : Jvm.Cond.selects "LeftAnswersModel" ⟨"LeftAnswersModel", "readSees", "()Z"⟩ ⟨"LeftAnswersModel", "readSees", "()Z"⟩ ∈ gtb := gtb_in (i := 65) (by decide +kernel) (by decide +kernel)
set_option maxRecDepth 100000 in
theorem gw1142 : Jvm.Cond.code ⟨"LeftAnswersModel", "readSees", "()Z"⟩ prog_15_method_37_code 2 (some .boolean) ∈ gtb := gtb_t7 (i := 152) rfl (by decide +kernel)
set_option maxRecDepth 100000 in
theorem gw1143 : Jvm.Cond.instanceMethod ⟨"LeftAnswersModel", "readSees", "()Z"⟩ ∈ gtb := gtb_t7 (i := 151) rfl (by decide +kernel)
set_option maxRecDepth 100000 in
theorem gw1144 : Jvm.Cond.methodLink "LeftAnswersModel" 219 ⟨"LeftAnswersModel", "readFond", "()Z"⟩ ∈ gtb := gtb_t7 (i := 164) rfl (by decide +kernel)
set_option maxRecDepth 100000 in
theorem gw1145 : Jvm.Cond.selects "LeftAnswersModel" ⟨"LeftAnswersModel", "readFond", "()Z"⟩ ⟨"LeftAnswersModel", "readFond", "()Z"⟩ ∈ gtb := gtb_in (i := 68) (by decide +kernel) (by decide +kernel)
set_option maxRecDepth 100000 in
theorem gw1146 : Jvm.Cond.code ⟨"LeftAnswersModel", "readFond", "()Z"⟩ prog_15_method_38_code 3 (some .boolean) ∈ gtb := gtb_t7 (i := 167) rfl (by decide +kernel)
set_option maxRecDepth 100000 in
theorem gw1147 : Jvm.Cond.instanceMethod ⟨"LeftAnswersModel", "readFond", "()Z"⟩ ∈ gtb := gtb_t7 (i := 166) rfl (by decide +kernel)
set_option maxRecDepth 100000 in
theorem gw1148 : Jvm.Cond.methodLink "LeftAnswersModel" 222 ⟨"LeftAnswersModel", "readOnce", "(I)Z"⟩ ∈ gtb := gtb_t7 (i := 168) rfl (by decide +kernel)
set_option maxRecDepth 100000 in
theorem gw1149 : Jvm.Cond.selects "LeftAnswersModel" ⟨"LeftAnswersModel", "readOnce", "(I)Z"⟩ ⟨"LeftAnswersModel", "readOnce", "(I)Z"⟩ ∈ gtb := gtb_in (i := 69) (by decide +kernel) (by decide +kernel)
set_option maxRecDepth 100000 in
theorem gw1150 : Jvm.Cond.code ⟨"LeftAnswersModel", "readOnce", "(I)Z"⟩ prog_15_method_39_code 2 (some .boolean) ∈ gtb := gtb_t7 (i := 171) rfl (by decide +kernel)
set_option maxRecDepth 100000 in
theorem gw1151 : Jvm.Cond.instanceMethod ⟨"LeftAnswersModel", "readOnce", "(I)Z"⟩ ∈ gtb := gtb_t7 (i := 170) rfl (by decide +kernel)
set_option maxRecDepth 100000 in
theorem gw1152 : Jvm.Cond.methodLink "LeftAnswersModel" 420 ⟨"LeftAnswersModel", "readAnd", "()Z"⟩ ∈ gtb := gtb_t9 (i := 17) rfl (by decide +kernel)
set_option maxRecDepth 100000 in
theorem gw1153 : Jvm.Cond.selects "LeftAnswersModel" ⟨"LeftAnswersModel", "readAnd", "()Z"⟩ ⟨"LeftAnswersModel", "readAnd", "()Z"⟩ ∈ gtb := gtb_in (i := 116) (by decide +kernel) (by decide +kernel)
set_option maxRecDepth 100000 in
theorem gw1154 : Jvm.Cond.code ⟨"LeftAnswersModel", "readAnd", "()Z"⟩ prog_15_method_118_code 2 (some .boolean) ∈ gtb := gtb_t9 (i := 20) rfl (by decide +kernel)
set_option maxRecDepth 100000 in
theorem gw1155 : Jvm.Cond.instanceMethod ⟨"LeftAnswersModel", "readAnd", "()Z"⟩ ∈ gtb := gtb_t9 (i := 19) rfl (by decide +kernel)
set_option maxRecDepth 100000 in
theorem gw1156 : Jvm.Cond.methodLink "LeftAnswersModel" 201 ⟨"LeftAnswersModel", "isOne", "()Z"⟩ ∈ gtb := gtb_t7 (i := 157) rfl (by decide +kernel)
set_option maxRecDepth 100000 in
theorem gw1157 : Jvm.Cond.selects "LeftAnswersModel" ⟨"LeftAnswersModel", "isOne", "()Z"⟩ ⟨"LeftAnswersModel", "isOne", "()Z"⟩ ∈ gtb := gtb_in (i := 67) (by decide +kernel) (by decide +kernel)
set_option maxRecDepth 100000 in
theorem gw1158 : Jvm.Cond.code ⟨"LeftAnswersModel", "isOne", "()Z"⟩ prog_15_method_30_code 1 (some .boolean) ∈ gtb := gtb_t7 (i := 160) rfl (by decide +kernel)
set_option maxRecDepth 100000 in
theorem gw1159 : Jvm.Cond.instanceMethod ⟨"LeftAnswersModel", "isOne", "()Z"⟩ ∈ gtb := gtb_t7 (i := 159) rfl (by decide +kernel)
set_option maxRecDepth 100000 in
theorem gw1160 : Jvm.Cond.fieldLink "LeftAnswersModel" 432 "LeftAnswersModel" "onesMany" "I" ∈ gtb := gtb_t6 (i := 196) rfl (by decide +kernel)
set_option maxRecDepth 100000 in
theorem gw1161 : Jvm.Cond.fieldLink "LeftAnswersModel" 435 "LeftAnswersModel" "within" "I" ∈ gtb := gtb_t6 (i := 197) rfl (by decide +kernel)
set_option maxRecDepth 100000 in
theorem gw1162 : Jvm.Cond.methodLink "LeftAnswersModel" 438 ⟨"LeftAnswersModel", "readBracket", "()Z"⟩ ∈ gtb := gtb_t9 (i := 25) rfl (by decide +kernel)
set_option maxRecDepth 100000 in
theorem gw1163 : Jvm.Cond.selects "LeftAnswersModel" ⟨"LeftAnswersModel", "readBracket", "()Z"⟩ ⟨"LeftAnswersModel", "readBracket", "()Z"⟩ ∈ gtb := gtb_in (i := 118) (by decide +kernel) (by decide +kernel)
set_option maxRecDepth 100000 in
theorem gw1164 : Jvm.Cond.code ⟨"LeftAnswersModel", "readBracket", "()Z"⟩ prog_15_method_121_code 1 (some .boolean) ∈ gtb := gtb_t9 (i := 28) rfl (by decide +kernel)
set_option maxRecDepth 100000 in
theorem gw1165 : Jvm.Cond.instanceMethod ⟨"LeftAnswersModel", "readBracket", "()Z"⟩ ∈ gtb := gtb_t9 (i := 27) rfl (by decide +kernel)
set_option maxRecDepth 100000 in
theorem gw1166 : Jvm.Cond.methodLink "LeftAnswersModel" 441 ⟨"LeftAnswersModel", "readNot", "()Z"⟩ ∈ gtb := gtb_t9 (i := 29) rfl (by decide +kernel)
set_option maxRecDepth 100000 in
theorem gw1167 : Jvm.Cond.selects "LeftAnswersModel" ⟨"LeftAnswersModel", "readNot", "()Z"⟩ ⟨"LeftAnswersModel", "readNot", "()Z"⟩ ∈ gtb := gtb_in (i := 119) (by decide +kernel) (by decide +kernel)
set_option maxRecDepth 100000 in
theorem gw1168 : Jvm.Cond.code ⟨"LeftAnswersModel", "readNot", "()Z"⟩ prog_15_method_120_code 1 (some .boolean) ∈ gtb := gtb_t9 (i := 32) rfl (by decide +kernel)
set_option maxRecDepth 100000 in
theorem gw1169 : Jvm.Cond.instanceMethod ⟨"LeftAnswersModel", "readNot", "()Z"⟩ ∈ gtb := gtb_t9 (i := 31) rfl (by decide +kernel)
set_option maxRecDepth 100000 in
theorem gw1170 : Jvm.Cond.methodLink "LeftAnswersModel" 444 ⟨"LeftAnswersModel", "readOf", "(I)Z"⟩ ∈ gtb := gtb_t9 (i := 37) rfl (by decide +kernel)
set_option maxRecDepth 100000 in
theorem gw1171 : Jvm.Cond.selects "LeftAnswersModel" ⟨"LeftAnswersModel", "readOf", "(I)Z"⟩ ⟨"LeftAnswersModel", "readOf", "(I)Z"⟩ ∈ gtb := gtb_in (i := 121) (by decide +kernel) (by decide +kernel)
set_option maxRecDepth 100000 in
theorem gw1172 : Jvm.Cond.code ⟨"LeftAnswersModel", "readOf", "(I)Z"⟩ prog_15_method_122_code 2 (some .boolean) ∈ gtb := gtb_t9 (i := 40) rfl (by decide +kernel)
set_option maxRecDepth 100000 in
theorem gw1173 : Jvm.Cond.instanceMethod ⟨"LeftAnswersModel", "readOf", "(I)Z"⟩ ∈ gtb := gtb_t9 (i := 39) rfl (by decide +kernel)
set_option maxRecDepth 100000 in
theorem gw1174 : Jvm.Cond.methodLink "LeftAnswersModel" 447 ⟨"LeftAnswersModel", "readCompare", "(I)Z"⟩ ∈ gtb := gtb_t9 (i := 41) rfl (by decide +kernel)
set_option maxRecDepth 100000 in
theorem gw1175 : Jvm.Cond.selects "LeftAnswersModel" ⟨"LeftAnswersModel", "readCompare", "(I)Z"⟩ ⟨"LeftAnswersModel", "readCompare", "(I)Z"⟩ ∈ gtb := gtb_in (i := 122) (by decide +kernel) (by decide +kernel)
set_option maxRecDepth 100000 in
theorem gw1176 : Jvm.Cond.code ⟨"LeftAnswersModel", "readCompare", "(I)Z"⟩ prog_15_method_123_code 3 (some .boolean) ∈ gtb := gtb_t9 (i := 44) rfl (by decide +kernel)
set_option maxRecDepth 100000 in
theorem gw1177 : Jvm.Cond.instanceMethod ⟨"LeftAnswersModel", "readCompare", "(I)Z"⟩ ∈ gtb := gtb_t9 (i := 43) rfl (by decide +kernel)
set_option maxRecDepth 100000 in
theorem gw1178 : Jvm.Cond.fieldLink "LeftAnswersModel" 417 "LeftAnswersModel" "nodes" "I" ∈ gtb := gtb_t6 (i := 195) rfl (by decide +kernel)
set_option maxRecDepth 100000 in
theorem gw1179 : Jvm.Cond.methodLink "LeftAnswersModel" 357 ⟨"LeftAnswersModel", "writeWord", "(J)V"⟩ ∈ gtb := gtb_t8 (i := 164) rfl (by decide +kernel)
set_option maxRecDepth 100000 in
theorem gw1180 : Jvm.Cond.selects "LeftAnswersModel" ⟨"LeftAnswersModel", "writeWord", "(J)V"⟩ ⟨"LeftAnswersModel", "writeWord", "(J)V"⟩ ∈ gtb := gtb_in (i := 99) (by decide +kernel) (by decide +kernel)
set_option maxRecDepth 100000 in
theorem gw1181 : Jvm.Cond.code ⟨"LeftAnswersModel", "writeWord", "(J)V"⟩ prog_15_method_95_code 3 none ∈ gtb := gtb_t8 (i := 167) rfl (by decide +kernel)
set_option maxRecDepth 100000 in
theorem gw1182 : Jvm.Cond.instanceMethod ⟨"LeftAnswersModel", "writeWord", "(J)V"⟩ ∈ gtb := gtb_t8 (i := 166) rfl (by decide +kernel)
set_option maxRecDepth 100000 in
theorem gw1183 : Jvm.Cond.methodLink "LeftAnswersModel" 367 ⟨"LeftAnswersModel", "writeNext", "(J)V"⟩ ∈ gtb := gtb_t8 (i := 172) rfl (by decide +kernel)
set_option maxRecDepth 100000 in
theorem gw1184 : Jvm.Cond.selects "LeftAnswersModel" ⟨"LeftAnswersModel", "writeNext", "(J)V"⟩ ⟨"LeftAnswersModel", "writeNext", "(J)V"⟩ ∈ gtb := gtb_in (i := 101) (by decide +kernel) (by decide +kernel)
set_option maxRecDepth 100000 in
theorem gw1185 : Jvm.Cond.code ⟨"LeftAnswersModel", "writeNext", "(J)V"⟩ prog_15_method_97_code 3 none ∈ gtb := gtb_t8 (i := 175) rfl (by decide +kernel)
set_option maxRecDepth 100000 in
theorem gw1186 : Jvm.Cond.instanceMethod ⟨"LeftAnswersModel", "writeNext", "(J)V"⟩ ∈ gtb := gtb_t8 (i := 174) rfl (by decide +kernel)
set_option maxRecDepth 100000 in
theorem gw1187 : Jvm.Cond.methodLink "LeftAnswersModel" 361 ⟨"LeftAnswersModel", "write", "(I)V"⟩ ∈ gtb := gtb_t8 (i := 168) rfl (by decide +kernel)
set_option maxRecDepth 100000 in
theorem gw1188 : Jvm.Cond.selects "LeftAnswersModel" ⟨"LeftAnswersModel", "write", "(I)V"⟩ ⟨"LeftAnswersModel", "write", "(I)V"⟩ ∈ gtb := gtb_in (i := 100) (by decide +kernel) (by decide +kernel)
set_option maxRecDepth 100000 in
theorem gw1189 : Jvm.Cond.code ⟨"LeftAnswersModel", "write", "(I)V"⟩ prog_15_method_94_code 2 none ∈ gtb := gtb_t8 (i := 171) rfl (by decide +kernel)
set_option maxRecDepth 100000 in
theorem gw1190 : Jvm.Cond.instanceMethod ⟨"LeftAnswersModel", "write", "(I)V"⟩ ∈ gtb := gtb_t8 (i := 170) rfl (by decide +kernel)
set_option maxRecDepth 100000 in
theorem gw1191 : Jvm.Cond.methodLink "LeftAnswersModel" 364 ⟨"LeftAnswersModel", "writeNumber", "(I)V"⟩ ∈ gtb := gtb_t8 (i := 176) rfl (by decide +kernel)
set_option maxRecDepth 100000 in
theorem gw1192 : Jvm.Cond.selects "LeftAnswersModel" ⟨"LeftAnswersModel", "writeNumber", "(I)V"⟩ ⟨"LeftAnswersModel", "writeNumber", "(I)V"⟩ ∈ gtb := gtb_in (i := 102) (by decide +kernel) (by decide +kernel)
set_option maxRecDepth 100000 in
theorem gw1193 : Jvm.Cond.code ⟨"LeftAnswersModel", "writeNumber", "(I)V"⟩ prog_15_method_96_code 2 none ∈ gtb := gtb_t8 (i := 179) rfl (by decide +kernel)
set_option maxRecDepth 100000 in
theorem gw1194 : Jvm.Cond.instanceMethod ⟨"LeftAnswersModel", "writeNumber", "(I)V"⟩ ∈ gtb := gtb_t8 (i := 178) rfl (by decide +kernel)
set_option maxRecDepth 100000 in
theorem gw1195 : Jvm.Cond.methodLink "LeftAnswersModel" 58 ⟨"LeftAnswersModel", "spelt", "(IIIIII)J"⟩ ∈ gtb := gtb_t7 (i := 104) rfl (by decide +kernel)
set_option maxRecDepth 100000 in
theorem gw1196 : Jvm.Cond.code ⟨"LeftAnswersModel", "spelt", "(IIIIII)J"⟩ prog_15_method_17_code 8 (some .long) ∈ gtb := gtb_t7 (i := 106) rfl (by decide +kernel)
set_option maxRecDepth 100000 in
theorem gw1197 : Jvm.Cond.static ⟨"LeftAnswersModel", "spelt", "(IIIIII)J"⟩ ∈ gtb := gtb_t7 (i := 105) rfl (by decide +kernel)
set_option maxRecDepth 100000 in
theorem gw1198 : Jvm.Cond.methodLink "LeftAnswersModel" 338 ⟨"LeftAnswersModel", "isFree", "(I)Z"⟩ ∈ gtb := gtb_t8 (i := 136) rfl (by decide +kernel)
set_option maxRecDepth 100000 in
theorem gw1199 : Jvm.Cond.selects "LeftAnswersModel" ⟨"LeftAnswersModel", "isFree", "(I)Z"⟩ ⟨"LeftAnswersModel", "isFree", "(I)Z"⟩ ∈ gtb := gtb_in (i := 96) (by decide +kernel) (by decide +kernel)
