set_option maxRecDepth 100000 in
theorem lk600 : ∀ pc, ev_kb MM "LeftAnswersModel" pc (.putfield 234) 11 24 = true := kb_putf (by decide +kernel) gw983
set_option maxRecDepth 100000 in
theorem lk601 : ∀ pc, ev_kb MM "LeftAnswersModel" pc (.invokevirtual 351) 242 2 = true := kb_vi (by decide) me242 (by decide +kernel) gw984 gw987 gw985
set_option maxRecDepth 100000 in
theorem lk602 : ∀ pc, ev_kb MM "LeftAnswersModel" pc (.getfield 66) 11 10 = true := kb_getf (by decide +kernel) gw868
set_option maxRecDepth 100000 in
theorem lk603 : ∀ pc, ev_kb MM "LeftAnswersModel" pc (.invokevirtual 14) 185 1 = true := kb_vi (by decide) me185 (by decide +kernel) gw988 gw991 gw989
set_option maxRecDepth 100000 in
theorem lk604 : ∀ pc, ev_kb MM "LeftAnswersModel" pc (.getfield 322) 11 32 = true := kb_getf (by decide +kernel) gw992
set_option maxRecDepth 100000 in
theorem lk605 : ∀ pc, ev_kb MM "LeftAnswersModel" pc (.getfield 139) 11 30 = true := kb_getf (by decide +kernel) gw827
set_option maxRecDepth 100000 in
theorem lk606 : ∀ pc, ev_kb MM "LeftAnswersModel" pc (.invokevirtual 317) 184 2 = true := kb_vi (by decide) me184 (by decide +kernel) gw993 gw996 gw994
set_option maxRecDepth 100000 in
theorem lk607 : ∀ pc, ev_kb MM "LeftAnswersModel" pc (.getfield 142) 11 31 = true := kb_getf (by decide +kernel) gw828
set_option maxRecDepth 100000 in
theorem lk608 : ∀ pc, ev_kb MM "LeftAnswersModel" pc (.putfield 322) 11 32 = true := kb_putf (by decide +kernel) gw992
set_option maxRecDepth 100000 in
theorem lk609 : ∀ pc, ev_kb MM "LeftAnswersModel" pc (.invokevirtual 325) 235 2 = true := kb_vi (by decide) me235 (by decide +kernel) gw997 gw1000 gw998
set_option maxRecDepth 100000 in
theorem lk610 : ∀ pc, ev_kb MM "LeftAnswersModel" pc (.getfield 145) 11 33 = true := kb_getf (by decide +kernel) gw829
set_option maxRecDepth 100000 in
theorem lk611 : ∀ pc, ev_kb MM "LeftAnswersModel" pc (.getfield 21) 11 5 = true := kb_getf (by decide +kernel) gw881
set_option maxRecDepth 100000 in
theorem lk612 : ∀ pc, ev_kb MM "LeftAnswersModel" pc (.getfield 18) 11 3 = true := kb_getf (by decide +kernel) gw879
set_option maxRecDepth 100000 in
theorem lk613 : ∀ pc, ev_kb MM "LeftAnswersModel" pc (.putfield 24) 11 6 = true := kb_putf (by decide +kernel) gw869
set_option maxRecDepth 100000 in
theorem lk614 : ∀ pc, ev_kb MM "LeftAnswersModel" pc (.getfield 27) 11 4 = true := kb_getf (by decide +kernel) gw880
set_option maxRecDepth 100000 in
theorem lk615 : ∀ pc, ev_kb MM "LeftAnswersModel" pc (.putfield 30) 11 7 = true := kb_putf (by decide +kernel) gw867
set_option maxRecDepth 100000 in
theorem lk616 : ∀ pc, ev_kb MM "LeftAnswersModel" pc (.invokestatic 33) 220 1 = true := kb_st (by decide) me220 gw1001 gw1003
set_option maxRecDepth 100000 in
theorem lk617 : ∀ pc, ev_kb MM "LeftAnswersModel" pc (.invokestatic 37) 215 1 = true := kb_st (by decide) me215 gw1004 gw1006
set_option maxRecDepth 100000 in
theorem lk618 : ∀ pc, ev_kb MM "LeftAnswersModel" pc (.putfield 40) 11 9 = true := kb_putf (by decide +kernel) gw1007
set_option maxRecDepth 100000 in
theorem lk619 : ∀ pc, ev_kb MM "LeftAnswersModel" pc (.putfield 43) 11 12 = true := kb_putf (by decide +kernel) gw1008
set_option maxRecDepth 100000 in
theorem lk620 : ∀ pc, ev_kb MM "LeftAnswersModel" pc (.putfield 47) 11 8 = true := kb_putf (by decide +kernel) gw1009
set_option maxRecDepth 100000 in
theorem lk621 : ∀ pc, ev_kb MM "LeftAnswersModel" pc (.invokevirtual 50) 285 1 = true := kb_vi (by decide) me285 (by decide +kernel) gw1010 gw1013 gw1011
set_option maxRecDepth 100000 in
theorem lk622 : ∀ pc, ev_kb MM "LeftAnswersModel" pc (.ldc2_w 54) 27 0 = true := kb_ldc2 gw1014
set_option maxRecDepth 100000 in
theorem lk623 : ∀ pc, ev_kb MM "LeftAnswersModel" pc (.getfield 43) 11 12 = true := kb_getf (by decide +kernel) gw1008
set_option maxRecDepth 100000 in
theorem lk624 : ∀ pc, ev_kb MM "LeftAnswersModel" pc (.ldc2_w 56) 96 0 = true := kb_ldc2 gw1015
set_option maxRecDepth 100000 in
theorem lk625 : ∀ pc, ev_kb MM "LeftAnswersModel" pc (.getfield 47) 11 8 = true := kb_getf (by decide +kernel) gw1009
set_option maxRecDepth 100000 in
theorem lk626 : ∀ pc, ev_kb MM "LeftAnswersModel" pc (.getfield 160) 11 43 = true := kb_getf (by decide +kernel) gw834
set_option maxRecDepth 100000 in
theorem lk627 : ∀ pc, ev_kb MM "LeftAnswersModel" pc (.getfield 148) 11 34 = true := kb_getf (by decide +kernel) gw830
set_option maxRecDepth 100000 in
theorem lk628 : ∀ pc, ev_kb MM "LeftAnswersModel" pc (.invokestatic 328) 179 1 = true := kb_st (by decide) me179 gw1016 gw1018
set_option maxRecDepth 100000 in
theorem lk629 : ∀ pc, ev_kb MM "LeftAnswersModel" pc (.invokevirtual 453) 211 2 = true := kb_vi (by decide) me211 (by decide +kernel) gw1019 gw1022 gw1020
set_option maxRecDepth 100000 in
theorem lk630 : ∀ pc, ev_kb MM "LeftAnswersModel" pc (.invokevirtual 237) 219 1 = true := kb_vi (by decide) me219 (by decide +kernel) gw1023 gw1026 gw1024
set_option maxRecDepth 100000 in
theorem lk631 : ∀ pc, ev_kb MM "LeftAnswersModel" pc (.invokevirtual 246) 217 1 = true := kb_vi (by decide) me217 (by decide +kernel) gw1027 gw1030 gw1028
set_option maxRecDepth 100000 in
theorem lk632 : ∀ pc, ev_kb MM "LeftAnswersModel" pc (.getfield 104) 11 16 = true := kb_getf (by decide +kernel) gw815
set_option maxRecDepth 100000 in
theorem lk633 : ∀ pc, ev_kb MM "LeftAnswersModel" pc (.getfield 120) 11 21 = true := kb_getf (by decide +kernel) gw820
set_option maxRecDepth 100000 in
theorem lk634 : ∀ pc, ev_kb MM "LeftAnswersModel" pc (.getfield 123) 11 22 = true := kb_getf (by decide +kernel) gw822
set_option maxRecDepth 100000 in
theorem lk635 : ∀ pc, ev_kb MM "LeftAnswersModel" pc (.invokestatic 62) 293 1 = true := kb_st (by decide) me293 gw1031 gw1033
set_option maxRecDepth 100000 in
theorem lk636 : ∀ pc, ev_kb MM "LeftAnswersModel" pc (.invokevirtual 172) 221 0 = true := kb_vi (by decide) me221 (by decide +kernel) gw1034 gw1037 gw1035
set_option maxRecDepth 100000 in
theorem lk637 : ∀ pc, ev_kb MM "LeftAnswersModel" pc (.invokevirtual 72) 174 1 = true := kb_vi (by decide) me174 (by decide +kernel) gw1038 gw1041 gw1039
set_option maxRecDepth 100000 in
theorem lk638 : ∀ pc, ev_kb MM "LeftAnswersModel" pc (.invokestatic 176) 200 4 = true := kb_st (by decide) me200 gw1042 gw1044
set_option maxRecDepth 100000 in
theorem lk639 : ∀ pc, ev_kb MM "LeftAnswersModel" pc (.putfield 79) 11 13 = true := kb_putf (by decide +kernel) gw1045
set_option maxRecDepth 100000 in
theorem lk640 : ∀ pc, ev_kb MM "LeftAnswersModel" pc (.getfield 79) 11 13 = true := kb_getf (by decide +kernel) gw1045
set_option maxRecDepth 100000 in
theorem lk641 : ∀ pc, ev_kb MM "LeftAnswersModel" pc (.getfield 40) 11 9 = true := kb_getf (by decide +kernel) gw1007
set_option maxRecDepth 100000 in
theorem lk642 : ∀ pc, ev_kb MM "LeftAnswersModel" pc (.getfield 110) 11 18 = true := kb_getf (by decide +kernel) gw817
set_option maxRecDepth 100000 in
theorem lk643 : ∀ pc, ev_kb MM "LeftAnswersModel" pc (.invokevirtual 265) 282 2 = true := kb_vi (by decide) me282 (by decide +kernel) gw1046 gw1049 gw1047
set_option maxRecDepth 100000 in
theorem lk644 : ∀ pc, ev_kb MM "LeftAnswersModel" pc (.invokevirtual 386) 284 0 = true := kb_vi (by decide) me284 (by decide +kernel) gw1050 gw1053 gw1051
set_option maxRecDepth 100000 in
theorem lk645 : ∀ pc, ev_kb MM "LeftAnswersModel" pc (.invokestatic 320) 274 1 = true := kb_st (by decide) me274 gw1054 gw1056
set_option maxRecDepth 100000 in
theorem lk646 : ∀ pc, ev_kb MM "LeftAnswersModel" pc (.getfield 302) 11 28 = true := kb_getf (by decide +kernel) gw1057
set_option maxRecDepth 100000 in
theorem lk647 : ∀ pc, ev_kb MM "LeftAnswersModel" pc (.putfield 302) 11 28 = true := kb_putf (by decide +kernel) gw1057
set_option maxRecDepth 100000 in
theorem lk648 : ∀ pc, ev_kb MM "LeftAnswersModel" pc (.getfield 133) 11 26 = true := kb_getf (by decide +kernel) gw825
set_option maxRecDepth 100000 in
theorem lk649 : ∀ pc, ev_kb MM "LeftAnswersModel" pc (.getfield 130) 11 25 = true := kb_getf (by decide +kernel) gw824
set_option maxRecDepth 100000 in
theorem lk650 : ∀ pc, ev_kb MM "LeftAnswersModel" pc (.getfield 136) 11 27 = true := kb_getf (by decide +kernel) gw826
set_option maxRecDepth 100000 in
theorem lk651 : ∀ pc, ev_kb MM "LeftAnswersModel" pc (.invokevirtual 305) 213 3 = true := kb_vi (by decide) me213 (by decide +kernel) gw1058 gw1061 gw1059
set_option maxRecDepth 100000 in
theorem lk652 : ∀ pc, ev_kb MM "LeftAnswersModel" pc (.invokevirtual 308) 238 3 = true := kb_vi (by decide) me238 (by decide +kernel) gw1062 gw1065 gw1063
set_option maxRecDepth 100000 in
theorem lk653 : ∀ pc, ev_kb MM "LeftAnswersModel" pc (.putfield 311) 11 29 = true := kb_putf (by decide +kernel) gw1066
set_option maxRecDepth 100000 in
theorem lk654 : ∀ pc, ev_kb MM "LeftAnswersModel" pc (.getfield 311) 11 29 = true := kb_getf (by decide +kernel) gw1066
set_option maxRecDepth 100000 in
theorem lk655 : ∀ pc, ev_kb MM "LeftAnswersModel" pc (.invokevirtual 243) 268 0 = true := kb_vi (by decide) me268 (by decide +kernel) gw1067 gw1070 gw1068
set_option maxRecDepth 100000 in
theorem lk656 : ∀ pc, ev_kb MM "LeftAnswersModel" pc (.invokevirtual 429) 266 0 = true := kb_vi (by decide) me266 (by decide +kernel) gw1071 gw1074 gw1072
set_option maxRecDepth 100000 in
theorem lk657 : ∀ pc, ev_kb MM "LeftAnswersModel" pc (.getfield 423) 11 51 = true := kb_getf (by decide +kernel) gw1075
set_option maxRecDepth 100000 in
theorem lk658 : ∀ pc, ev_kb MM "LeftAnswersModel" pc (.invokevirtual 180) 227 1 = true := kb_vi (by decide) me227 (by decide +kernel) gw1076 gw1079 gw1077
set_option maxRecDepth 100000 in
theorem lk659 : ∀ pc, ev_kb MM "LeftAnswersModel" pc (.invokevirtual 426) 272 4 = true := kb_vi (by decide) me272 (by decide +kernel) gw1080 gw1083 gw1081
set_option maxRecDepth 100000 in
theorem lk660 : ∀ pc, ev_kb MM "LeftAnswersModel" pc (.putfield 423) 11 51 = true := kb_putf (by decide +kernel) gw1075
set_option maxRecDepth 100000 in
theorem lk661 : ∀ pc, ev_kb MM "LeftAnswersModel" pc (.invokevirtual 190) 260 2 = true := kb_vi (by decide) me260 (by decide +kernel) gw1084 gw1087 gw1085
set_option maxRecDepth 100000 in
theorem lk662 : ∀ pc, ev_kb MM "LeftAnswersModel" pc (.invokevirtual 392) 229 2 = true := kb_vi (by decide) me229 (by decide +kernel) gw1088 gw1091 gw1089
set_option maxRecDepth 100000 in
theorem lk663 : ∀ pc, ev_kb MM "LeftAnswersModel" pc (.invokevirtual 401) 250 1 = true := kb_vi (by decide) me250 (by decide +kernel) gw1092 gw1095 gw1093
set_option maxRecDepth 100000 in
theorem lk664 : ∀ pc, ev_kb MM "LeftAnswersModel" pc (.invokevirtual 450) 263 0 = true := kb_vi (by decide) me263 (by decide +kernel) gw1096 gw1099 gw1097
set_option maxRecDepth 100000 in
theorem lk665 : ∀ pc, ev_kb MM "LeftAnswersModel" pc (.invokevirtual 86) 225 1 = true := kb_vi (by decide) me225 (by decide +kernel) gw1100 gw1103 gw1101
set_option maxRecDepth 100000 in
theorem lk666 : ∀ pc, ev_kb MM "LeftAnswersModel" pc (.invokevirtual 183) 252 2 = true := kb_vi (by decide) me252 (by decide +kernel) gw1104 gw1107 gw1105
set_option maxRecDepth 100000 in
theorem lk667 : ∀ pc, ev_kb MM "LeftAnswersModel" pc (.invokevirtual 187) 258 1 = true := kb_vi (by decide) me258 (by decide +kernel) gw1108 gw1111 gw1109
set_option maxRecDepth 100000 in
theorem lk668 : ∀ pc, ev_kb MM "LeftAnswersModel" pc (.invokevirtual 193) 244 2 = true := kb_vi (by decide) me244 (by decide +kernel) gw1112 gw1115 gw1113
set_option maxRecDepth 100000 in
theorem lk669 : ∀ pc, ev_kb MM "LeftAnswersModel" pc (.invokevirtual 197) 253 3 = true := kb_vi (by decide) me253 (by decide +kernel) gw1116 gw1119 gw1117
set_option maxRecDepth 100000 in
theorem lk670 : ∀ pc, ev_kb MM "LeftAnswersModel" pc (.invokevirtual 389) 257 2 = true := kb_vi (by decide) me257 (by decide +kernel) gw1120 gw1123 gw1121
set_option maxRecDepth 100000 in
theorem lk671 : ∀ pc, ev_kb MM "LeftAnswersModel" pc (.invokevirtual 395) 255 0 = true := kb_vi (by decide) me255 (by decide +kernel) gw1124 gw1127 gw1125
set_option maxRecDepth 100000 in
theorem lk672 : ∀ pc, ev_kb MM "LeftAnswersModel" pc (.invokevirtual 204) 264 0 = true := kb_vi (by decide) me264 (by decide +kernel) gw1128 gw1131 gw1129
set_option maxRecDepth 100000 in
theorem lk673 : ∀ pc, ev_kb MM "LeftAnswersModel" pc (.invokevirtual 210) 265 0 = true := kb_vi (by decide) me265 (by decide +kernel) gw1132 gw1135 gw1133
set_option maxRecDepth 100000 in
theorem lk674 : ∀ pc, ev_kb MM "LeftAnswersModel" pc (.invokevirtual 213) 249 0 = true := kb_vi (by decide) me249 (by decide +kernel) gw1136 gw1139 gw1137
set_option maxRecDepth 100000 in
theorem lk675 : ∀ pc, ev_kb MM "LeftAnswersModel" pc (.invokevirtual 216) 267 0 = true := kb_vi (by decide) me267 (by decide +kernel) gw1140 gw1143 gw1141
set_option maxRecDepth 100000 in
theorem lk676 : ∀ pc, ev_kb MM "LeftAnswersModel" pc (.invokevirtual 219) 254 0 = true := kb_vi (by decide) me254 (by decide +kernel) gw1144 gw1147 gw1145
set_option maxRecDepth 100000 in
theorem lk677 : ∀ pc, ev_kb MM "LeftAnswersModel" pc (.invokevirtual 222) 262 1 = true := kb_vi (by decide) me262 (by decide +kernel) gw1148 gw1151 gw1149
set_option maxRecDepth 100000 in
theorem lk678 : ∀ pc, ev_kb MM "LeftAnswersModel" pc (.invokevirtual 420) 245 0 = true := kb_vi (by decide) me245 (by decide +kernel) gw1152 gw1155 gw1153
set_option maxRecDepth 100000 in
theorem lk679 : ∀ pc, ev_kb MM "LeftAnswersModel" pc (.invokevirtual 201) 222 0 = true := kb_vi (by decide) me222 (by decide +kernel) gw1156 gw1159 gw1157
set_option maxRecDepth 100000 in
theorem lk680 : ∀ pc, ev_kb MM "LeftAnswersModel" pc (.getfield 432) 11 49 = true := kb_getf (by decide +kernel) gw1160
set_option maxRecDepth 100000 in
theorem lk681 : ∀ pc, ev_kb MM "LeftAnswersModel" pc (.getfield 435) 11 50 = true := kb_getf (by decide +kernel) gw1161
set_option maxRecDepth 100000 in
theorem lk682 : ∀ pc, ev_kb MM "LeftAnswersModel" pc (.putfield 432) 11 49 = true := kb_putf (by decide +kernel) gw1160
set_option maxRecDepth 100000 in
theorem lk683 : ∀ pc, ev_kb MM "LeftAnswersModel" pc (.putfield 435) 11 50 = true := kb_putf (by decide +kernel) gw1161
set_option maxRecDepth 100000 in
theorem lk684 : ∀ pc, ev_kb MM "LeftAnswersModel" pc (.invokevirtual 438) 247 0 = true := kb_vi (by decide) me247 (by decide +kernel) gw1162 gw1165 gw1163
set_option maxRecDepth 100000 in
theorem lk685 : ∀ pc, ev_kb MM "LeftAnswersModel" pc (.invokevirtual 441) 259 0 = true := kb_vi (by decide) me259 (by decide +kernel) gw1166 gw1169 gw1167
set_option maxRecDepth 100000 in
theorem lk686 : ∀ pc, ev_kb MM "LeftAnswersModel" pc (.invokevirtual 444) 261 1 = true := kb_vi (by decide) me261 (by decide +kernel) gw1170 gw1173 gw1171
set_option maxRecDepth 100000 in
theorem lk687 : ∀ pc, ev_kb MM "LeftAnswersModel" pc (.invokevirtual 447) 248 1 = true := kb_vi (by decide) me248 (by decide +kernel) gw1174 gw1177 gw1175
set_option maxRecDepth 100000 in
theorem lk688 : ∀ pc, ev_kb MM "LeftAnswersModel" pc (.getfield 417) 11 48 = true := kb_getf (by decide +kernel) gw1178
set_option maxRecDepth 100000 in
theorem lk689 : ∀ pc, ev_kb MM "LeftAnswersModel" pc (.getfield 166) 11 47 = true := kb_getf (by decide +kernel) gw836
set_option maxRecDepth 100000 in
theorem lk690 : ∀ pc, ev_kb MM "LeftAnswersModel" pc (.putfield 417) 11 48 = true := kb_putf (by decide +kernel) gw1178
set_option maxRecDepth 100000 in
theorem lk691 : ∀ pc, ev_kb MM "LeftAnswersModel" pc (.putfield 354) 11 41 = true := kb_putf (by decide +kernel) gw922
set_option maxRecDepth 100000 in
theorem lk692 : ∀ pc, ev_kb MM "LeftAnswersModel" pc (.invokevirtual 357) 297 1 = true := kb_vi (by decide) me297 (by decide +kernel) gw1179 gw1182 gw1180
set_option maxRecDepth 100000 in
theorem lk693 : ∀ pc, ev_kb MM "LeftAnswersModel" pc (.invokevirtual 367) 295 1 = true := kb_vi (by decide) me295 (by decide +kernel) gw1183 gw1186 gw1184
set_option maxRecDepth 100000 in
theorem lk694 : ∀ pc, ev_kb MM "LeftAnswersModel" pc (.invokevirtual 361) 294 1 = true := kb_vi (by decide) me294 (by decide +kernel) gw1187 gw1190 gw1188
set_option maxRecDepth 100000 in
theorem lk695 : ∀ pc, ev_kb MM "LeftAnswersModel" pc (.invokevirtual 364) 296 1 = true := kb_vi (by decide) me296 (by decide +kernel) gw1191 gw1194 gw1192
set_option maxRecDepth 100000 in
theorem lk696 : ∀ pc, ev_kb MM "LeftAnswersModel" pc (.invokestatic 58) 279 6 = true := kb_st (by decide) me279 gw1195 gw1197
set_option maxRecDepth 100000 in
theorem lk697 : ∀ pc, ev_kb MM "LeftAnswersModel" pc (.getfield 234) 11 24 = true := kb_getf (by decide +kernel) gw983
set_option maxRecDepth 100000 in
theorem lk698 : ∀ pc, ev_kb MM "LeftAnswersModel" pc (.getfield 107) 11 17 = true := kb_getf (by decide +kernel) gw816
set_option maxRecDepth 100000 in
theorem lk699 : ∀ pc, ev_kb MM "LeftAnswersModel" pc (.getfield 410) 11 46 = true := kb_getf (by decide +kernel) gw917
set_option maxRecDepth 100000 in
theorem lk700 : ∀ pc, ev_kb MM "LeftAnswersModel" pc (.invokevirtual 338) 216 1 = true := kb_vi (by decide) me216 (by decide +kernel) gw1198 gw1201 gw1199
set_option maxRecDepth 100000 in
theorem lk701 : ∀ pc, ev_kb MM "LeftAnswersModel" pc (.invokevirtual 341) 203 2 = true := kb_vi (by decide) me203 (by decide +kernel) gw1202 gw1205 gw1203
set_option maxRecDepth 100000 in
theorem lk702 : ∀ pc, ev_kb MM "java/lang/Integer" pc (.ldc_w 265) 1431655765 0 = true := kb_ldcw gw1206
set_option maxRecDepth 100000 in
theorem lk703 : ∀ pc, ev_kb MM "java/lang/Integer" pc (.ldc_w 266) 858993459 0 = true := kb_ldcw gw1207
set_option maxRecDepth 100000 in
theorem lk704 : ∀ pc, ev_kb MM "java/lang/Integer" pc (.ldc_w 267) 252645135 0 = true := kb_ldcw gw1208
set_option maxRecDepth 100000 in
theorem lk705 : ∀ pc, ev_kb MM "LeftAnswersLaw" pc (.new 8) 10 0 = true := kb_new (by decide) gw1209 gw1210 gw83
set_option maxRecDepth 100000 in
theorem lk706 : ∀ pc, ev_kb MM "LeftAnswersLaw" pc (.invokespecial 15) 0 0 = true := kb_sp (by decide) me0 (by decide +kernel) gw1211 gw1213
set_option maxRecDepth 100000 in
theorem lk707 : ∀ pc, ev_kb MM "LeftAnswersLaw" pc (.new 16) 11 0 = true := kb_new (by decide) gw1214 gw1215 gw840
set_option maxRecDepth 100000 in
theorem lk708 : ∀ pc, ev_kb MM "LeftAnswersLaw" pc (.invokespecial 18) 171 0 = true := kb_sp (by decide) me171 (by decide +kernel) gw1216 gw1218
set_option maxRecDepth 100000 in
theorem lk709 : ∀ pc, ev_kb MM "LeftAnswersLaw" pc (.newarray .long) 0 0 = true := kb_newa gw390
set_option maxRecDepth 100000 in
theorem lk710 : ∀ pc, ev_kb MM "LeftAnswersLaw" pc (.invokevirtual 19) 18 5 = true := kb_vi (by decide) me18 (by decide +kernel) gw1219 gw1222 gw1220
set_option maxRecDepth 100000 in
theorem lk711 : ∀ pc, ev_kb MM "LeftAnswersLaw" pc (.invokevirtual 23) 199 5 = true := kb_vi (by decide) me199 (by decide +kernel) gw1223 gw1226 gw1224
set_option maxRecDepth 100000 in
theorem lk712 : ∀ pc, ev_kb MM "LeftAnswersLaw" pc (.invokevirtual 24) 16 1 = true := kb_vi (by decide) me16 (by decide +kernel) gw1227 gw1230 gw1228
set_option maxRecDepth 100000 in
theorem lk713 : ∀ pc, ev_kb MM "LeftAnswersLaw" pc (.invokevirtual 28) 197 1 = true := kb_vi (by decide) me197 (by decide +kernel) gw1231 gw1234 gw1232
set_option maxRecDepth 100000 in
theorem lk714 : ∀ pc, ev_kb MM "LeftAnswersLaw" pc (.invokevirtual 29) 14 0 = true := kb_vi (by decide) me14 (by decide +kernel) gw1235 gw1238 gw1236
set_option maxRecDepth 100000 in
theorem lk715 : ∀ pc, ev_kb MM "LeftAnswersLaw" pc (.invokevirtual 33) 195 0 = true := kb_vi (by decide) me195 (by decide +kernel) gw1239 gw1242 gw1240
set_option maxRecDepth 100000 in
theorem lk716 : ∀ pc, ev_kb MM "LeftAnswersLaw" pc (.invokevirtual 34) 17 0 = true := kb_vi (by decide) me17 (by decide +kernel) gw1243 gw1246 gw1244
set_option maxRecDepth 100000 in
theorem lk717 : ∀ pc, ev_kb MM "LeftAnswersLaw" pc (.invokevirtual 37) 198 0 = true := kb_vi (by decide) me198 (by decide +kernel) gw1247 gw1250 gw1248
set_option maxRecDepth 100000 in
theorem lk718 : ∀ pc, ev_kb MM "LeftAnswersLaw" pc (.invokevirtual 43) 243 2 = true := kb_vi (by decide) me243 (by decide +kernel) gw1251 gw1254 gw1252
set_option maxRecDepth 100000 in
theorem lk719 : ∀ pc, ev_kb MM "LeftAnswersLaw" pc (.invokevirtual 44) 39 2 = true := kb_vi (by decide) me39 (by decide +kernel) gw1255 gw1258 gw1256
set_option maxRecDepth 100000 in
theorem lk720 : ∀ pc, ev_kb MM "LeftAnswersLaw" pc (.invokevirtual 47) 275 2 = true := kb_vi (by decide) me275 (by decide +kernel) gw1259 gw1262 gw1260
set_option maxRecDepth 100000 in
theorem lk721 : ∀ pc, ev_kb MM "LeftAnswersLaw" pc (.invokevirtual 48) 11 2 = true := kb_vi (by decide) me11 (by decide +kernel) gw1263 gw1266 gw1264
set_option maxRecDepth 100000 in
theorem lk722 : ∀ pc, ev_kb MM "LeftAnswersLaw" pc (.invokevirtual 51) 188 2 = true := kb_vi (by decide) me188 (by decide +kernel) gw1267 gw1270 gw1268
set_option maxRecDepth 100000 in
theorem lk723 : ∀ pc, ev_kb MM "LeftAnswersLaw" pc (.invokevirtual 52) 29 1 = true := kb_vi (by decide) me29 (by decide +kernel) gw1271 gw1274 gw1272
set_option maxRecDepth 100000 in
theorem lk724 : ∀ pc, ev_kb MM "LeftAnswersLaw" pc (.invokevirtual 56) 233 1 = true := kb_vi (by decide) me233 (by decide +kernel) gw1275 gw1278 gw1276
set_option maxRecDepth 100000 in
theorem lk725 : ∀ pc, ev_kb MM "LeftAnswersLaw" pc (.invokevirtual 57) 12 3 = true := kb_vi (by decide) me12 (by decide +kernel) gw1279 gw1282 gw1280
set_option maxRecDepth 100000 in
theorem lk726 : ∀ pc, ev_kb MM "LeftAnswersLaw" pc (.invokevirtual 61) 190 3 = true := kb_vi (by decide) me190 (by decide +kernel) gw1283 gw1286 gw1284
set_option maxRecDepth 100000 in
theorem lk727 : ∀ pc, ev_kb MM "LeftAnswersLaw" pc (.invokevirtual 62) 47 2 = true := kb_vi (by decide) me47 (by decide +kernel) gw1287 gw1290 gw1288
set_option maxRecDepth 100000 in
theorem lk728 : ∀ pc, ev_kb MM "LeftAnswersLaw" pc (.invokevirtual 65) 289 2 = true := kb_vi (by decide) me289 (by decide +kernel) gw1291 gw1294 gw1292
set_option maxRecDepth 100000 in
theorem lk729 : ∀ pc, ev_kb MM "LeftAnswersLaw" pc (.invokevirtual 66) 31 1 = true := kb_vi (by decide) me31 (by decide +kernel) gw1295 gw1298 gw1296
set_option maxRecDepth 100000 in
theorem lk730 : ∀ pc, ev_kb MM "LeftAnswersLaw" pc (.invokevirtual 69) 237 1 = true := kb_vi (by decide) me237 (by decide +kernel) gw1299 gw1302 gw1300
set_option maxRecDepth 100000 in
theorem lk731 : ∀ pc, ev_kb MM "LeftAnswersLaw" pc (.invokevirtual 70) 21 1 = true := kb_vi (by decide) me21 (by decide +kernel) gw1303 gw1306 gw1304
set_option maxRecDepth 100000 in
theorem lk732 : ∀ pc, ev_kb MM "LeftAnswersLaw" pc (.invokevirtual 73) 204 1 = true := kb_vi (by decide) me204 (by decide +kernel) gw1307 gw1310 gw1308
set_option maxRecDepth 100000 in
theorem lk733 : ∀ pc, ev_kb MM "LeftAnswersLaw" pc (.invokevirtual 74) 3 1 = true := kb_vi (by decide) me3 (by decide +kernel) gw1311 gw1314 gw1312
set_option maxRecDepth 100000 in
theorem lk734 : ∀ pc, ev_kb MM "LeftAnswersLaw" pc (.invokevirtual 77) 175 1 = true := kb_vi (by decide) me175 (by decide +kernel) gw1315 gw1318 gw1316
set_option maxRecDepth 100000 in
theorem lk735 : ∀ pc, ev_kb MM "LeftAnswersLaw" pc (.invokevirtual 78) 10 1 = true := kb_vi (by decide) me10 (by decide +kernel) gw1319 gw1322 gw1320
set_option maxRecDepth 100000 in
theorem lk736 : ∀ pc, ev_kb MM "LeftAnswersLaw" pc (.invokevirtual 81) 187 1 = true := kb_vi (by decide) me187 (by decide +kernel) gw1323 gw1326 gw1324
set_option maxRecDepth 100000 in
theorem lk737 : ∀ pc, ev_kb MM "LeftAnswersLaw" pc (.invokevirtual 82) 46 0 = true := kb_vi (by decide) me46 (by decide +kernel) gw1327 gw1330 gw1328
set_option maxRecDepth 100000 in
theorem lk738 : ∀ pc, ev_kb MM "LeftAnswersLaw" pc (.invokevirtual 85) 288 0 = true := kb_vi (by decide) me288 (by decide +kernel) gw1331 gw1334 gw1332
set_option maxRecDepth 100000 in
theorem lk739 : ∀ pc, ev_kb MM "LeftAnswersLaw" pc (.invokevirtual 86) 1 2 = true := kb_vi (by decide) me1 (by decide +kernel) gw1335 gw1338 gw1336
set_option maxRecDepth 100000 in
theorem lk740 : ∀ pc, ev_kb MM "LeftAnswersLaw" pc (.invokevirtual 89) 172 2 = true := kb_vi (by decide) me172 (by decide +kernel) gw1339 gw1342 gw1340
set_option maxRecDepth 100000 in
theorem lk741 : ∀ pc, ev_kb MM "LeftAnswersLaw" pc (.invokevirtual 90) 32 0 = true := kb_vi (by decide) me32 (by decide +kernel) gw1343 gw1346 gw1344
set_option maxRecDepth 100000 in
theorem lk742 : ∀ pc, ev_kb MM "LeftAnswersLaw" pc (.invokevirtual 93) 239 0 = true := kb_vi (by decide) me239 (by decide +kernel) gw1347 gw1350 gw1348
set_option maxRecDepth 100000 in
theorem lk743 : ∀ pc, ev_kb MM "LeftAnswersLaw" pc (.invokevirtual 94) 33 2 = true := kb_vi (by decide) me33 (by decide +kernel) gw1351 gw1354 gw1352
set_option maxRecDepth 100000 in
theorem lk744 : ∀ pc, ev_kb MM "LeftAnswersLaw" pc (.invokevirtual 97) 240 2 = true := kb_vi (by decide) me240 (by decide +kernel) gw1355 gw1358 gw1356
set_option maxRecDepth 100000 in
theorem lk745 : ∀ pc, ev_kb MM "LeftAnswersLaw" pc (.invokevirtual 98) 20 0 = true := kb_vi (by decide) me20 (by decide +kernel) gw1359 gw1362 gw1360
set_option maxRecDepth 100000 in
theorem lk746 : ∀ pc, ev_kb MM "LeftAnswersLaw" pc (.invokevirtual 101) 202 0 = true := kb_vi (by decide) me202 (by decide +kernel) gw1363 gw1366 gw1364
set_option maxRecDepth 100000 in
theorem lk747 : ∀ pc, ev_kb MM "LeftAnswersLaw" pc (.invokevirtual 102) 19 1 = true := kb_vi (by decide) me19 (by decide +kernel) gw1367 gw1370 gw1368
set_option maxRecDepth 100000 in
theorem lk748 : ∀ pc, ev_kb MM "LeftAnswersLaw" pc (.invokevirtual 105) 201 1 = true := kb_vi (by decide) me201 (by decide +kernel) gw1371 gw1374 gw1372
set_option maxRecDepth 100000 in
theorem lk749 : ∀ pc, ev_kb MM "LeftAnswersLaw" pc (.invokevirtual 106) 44 0 = true := kb_vi (by decide) me44 (by decide +kernel) gw1375 gw1378 gw1376
set_option maxRecDepth 100000 in
theorem lk750 : ∀ pc, ev_kb MM "LeftAnswersLaw" pc (.invokevirtual 109) 286 0 = true := kb_vi (by decide) me286 (by decide +kernel) gw1379 gw1382 gw1380
set_option maxRecDepth 100000 in
theorem lk751 : ∀ pc, ev_kb MM "LeftAnswersLaw" pc (.invokevirtual 110) 24 2 = true := kb_vi (by decide) me24 (by decide +kernel) gw1383 gw1386 gw1384
set_option maxRecDepth 100000 in
theorem lk752 : ∀ pc, ev_kb MM "LeftAnswersLaw" pc (.invokevirtual 113) 210 2 = true := kb_vi (by decide) me210 (by decide +kernel) gw1387 gw1390 gw1388
set_option maxRecDepth 100000 in
theorem lk753 : ∀ pc, ev_kb MM "LeftAnswersLaw" pc (.invokevirtual 114) 23 0 = true := kb_vi (by decide) me23 (by decide +kernel) gw1391 gw1394 gw1392
set_option maxRecDepth 100000 in
theorem lk754 : ∀ pc, ev_kb MM "LeftAnswersLaw" pc (.invokevirtual 117) 208 0 = true := kb_vi (by decide) me208 (by decide +kernel) gw1395 gw1398 gw1396
set_option maxRecDepth 100000 in
theorem lk755 : ∀ pc, ev_kb MM "LeftAnswersLaw" pc (.invokevirtual 118) 22 0 = true := kb_vi (by decide) me22 (by decide +kernel) gw1399 gw1402 gw1400
set_option maxRecDepth 100000 in
theorem lk756 : ∀ pc, ev_kb MM "LeftAnswersLaw" pc (.invokevirtual 121) 207 0 = true := kb_vi (by decide) me207 (by decide +kernel) gw1403 gw1406 gw1404
set_option maxRecDepth 100000 in
theorem lk757 : ∀ pc, ev_kb MM "LeftAnswersLaw" pc (.invokevirtual 122) 4 0 = true := kb_vi (by decide) me4 (by decide +kernel) gw1407 gw1410 gw1408
set_option maxRecDepth 100000 in
theorem lk758 : ∀ pc, ev_kb MM "LeftAnswersLaw" pc (.invokevirtual 125) 177 0 = true := kb_vi (by decide) me177 (by decide +kernel) gw1411 gw1414 gw1412
set_option maxRecDepth 100000 in
theorem lk759 : ∀ pc, ev_kb MM "LeftAnswersLaw" pc (.invokevirtual 126) 5 1 = true := kb_vi (by decide) me5 (by decide +kernel) gw1415 gw1418 gw1416
set_option maxRecDepth 100000 in
theorem lk760 : ∀ pc, ev_kb MM "LeftAnswersLaw" pc (.invokevirtual 129) 178 1 = true := kb_vi (by decide) me178 (by decide +kernel) gw1419 gw1422 gw1420
set_option maxRecDepth 100000 in
theorem lk761 : ∀ pc, ev_kb MM "LeftAnswersLaw" pc (.invokevirtual 130) 15 1 = true := kb_vi (by decide) me15 (by decide +kernel) gw1423 gw1426 gw1424
set_option maxRecDepth 100000 in
theorem lk762 : ∀ pc, ev_kb MM "LeftAnswersLaw" pc (.invokevirtual 133) 196 1 = true := kb_vi (by decide) me196 (by decide +kernel) gw1427 gw1430 gw1428
set_option maxRecDepth 100000 in
theorem lk763 : ∀ pc, ev_kb MM "LeftAnswersLaw" pc (.invokevirtual 134) 36 0 = true := kb_vi (by decide) me36 (by decide +kernel) gw1431 gw1434 gw1432
set_option maxRecDepth 100000 in
theorem lk764 : ∀ pc, ev_kb MM "LeftAnswersLaw" pc (.invokevirtual 137) 270 0 = true := kb_vi (by decide) me270 (by decide +kernel) gw1435 gw1438 gw1436
set_option maxRecDepth 100000 in
theorem lk765 : ∀ pc, ev_kb MM "LeftAnswersLaw" pc (.invokevirtual 138) 40 1 = true := kb_vi (by decide) me40 (by decide +kernel) gw1439 gw1442 gw1440
set_option maxRecDepth 100000 in
theorem lk766 : ∀ pc, ev_kb MM "LeftAnswersLaw" pc (.invokevirtual 141) 277 1 = true := kb_vi (by decide) me277 (by decide +kernel) gw1443 gw1446 gw1444
set_option maxRecDepth 100000 in
theorem lk767 : ∀ pc, ev_kb MM "LeftAnswersLaw" pc (.invokevirtual 142) 8 1 = true := kb_vi (by decide) me8 (by decide +kernel) gw1447 gw1450 gw1448
set_option maxRecDepth 100000 in
theorem lk768 : ∀ pc, ev_kb MM "LeftAnswersLaw" pc (.invokevirtual 145) 182 1 = true := kb_vi (by decide) me182 (by decide +kernel) gw1451 gw1454 gw1452
set_option maxRecDepth 100000 in
theorem lk769 : ∀ pc, ev_kb MM "LeftAnswersLaw" pc (.invokevirtual 146) 13 2 = true := kb_vi (by decide) me13 (by decide +kernel) gw1455 gw1458 gw1456
set_option maxRecDepth 100000 in
theorem lk770 : ∀ pc, ev_kb MM "LeftAnswersLaw" pc (.invokevirtual 149) 193 2 = true := kb_vi (by decide) me193 (by decide +kernel) gw1459 gw1462 gw1460
set_option maxRecDepth 100000 in
theorem lk771 : ∀ pc, ev_kb MM "LeftAnswersLaw" pc (.invokevirtual 150) 30 3 = true := kb_vi (by decide) me30 (by decide +kernel) gw1463 gw1466 gw1464
set_option maxRecDepth 100000 in
theorem lk772 : ∀ pc, ev_kb MM "LeftAnswersLaw" pc (.invokevirtual 153) 234 3 = true := kb_vi (by decide) me234 (by decide +kernel) gw1467 gw1470 gw1468
set_option maxRecDepth 100000 in
theorem lk773 : ∀ pc, ev_kb MM "LeftAnswersLaw" pc (.invokevirtual 154) 7 1 = true := kb_vi (by decide) me7 (by decide +kernel) gw1471 gw1474 gw1472
set_option maxRecDepth 100000 in
theorem lk774 : ∀ pc, ev_kb MM "LeftAnswersLaw" pc (.invokevirtual 157) 181 1 = true := kb_vi (by decide) me181 (by decide +kernel) gw1475 gw1478 gw1476
set_option maxRecDepth 100000 in
theorem lk775 : ∀ pc, ev_kb MM "LeftAnswersLaw" pc (.invokevirtual 158) 45 1 = true := kb_vi (by decide) me45 (by decide +kernel) gw1479 gw1482 gw1480
set_option maxRecDepth 100000 in
theorem lk776 : ∀ pc, ev_kb MM "LeftAnswersLaw" pc (.invokevirtual 161) 287 1 = true := kb_vi (by decide) me287 (by decide +kernel) gw1483 gw1486 gw1484
set_option maxRecDepth 100000 in
theorem lk777 : ∀ pc, ev_kb MM "LeftAnswersLaw" pc (.invokevirtual 162) 38 0 = true := kb_vi (by decide) me38 (by decide +kernel) gw1487 gw1490 gw1488
set_option maxRecDepth 100000 in
theorem lk778 : ∀ pc, ev_kb MM "LeftAnswersLaw" pc (.invokevirtual 165) 273 0 = true := kb_vi (by decide) me273 (by decide +kernel) gw1491 gw1494 gw1492
set_option maxRecDepth 100000 in
theorem lk779 : ∀ pc, ev_kb MM "LeftAnswersLaw" pc (.invokevirtual 166) 37 1 = true := kb_vi (by decide) me37 (by decide +kernel) gw1495 gw1498 gw1496
set_option maxRecDepth 100000 in
theorem lk780 : ∀ pc, ev_kb MM "LeftAnswersLaw" pc (.invokevirtual 169) 271 1 = true := kb_vi (by decide) me271 (by decide +kernel) gw1499 gw1502 gw1500
set_option maxRecDepth 100000 in
theorem lk781 : ∀ pc, ev_kb MM "LeftAnswersLaw" pc (.invokevirtual 170) 25 1 = true := kb_vi (by decide) me25 (by decide +kernel) gw1503 gw1506 gw1504
set_option maxRecDepth 100000 in
theorem lk782 : ∀ pc, ev_kb MM "LeftAnswersLaw" pc (.invokevirtual 173) 212 1 = true := kb_vi (by decide) me212 (by decide +kernel) gw1507 gw1510 gw1508
set_option maxRecDepth 100000 in
theorem lk783 : ∀ pc, ev_kb MM "LeftAnswersLaw" pc (.invokevirtual 174) 35 1 = true := kb_vi (by decide) me35 (by decide +kernel) gw1511 gw1514 gw1512
set_option maxRecDepth 100000 in
theorem lk784 : ∀ pc, ev_kb MM "LeftAnswersLaw" pc (.invokevirtual 177) 269 1 = true := kb_vi (by decide) me269 (by decide +kernel) gw1515 gw1518 gw1516
set_option maxRecDepth 100000 in
theorem lk785 : ∀ pc, ev_kb MM "LeftAnswersLaw" pc (.invokevirtual 178) 9 1 = true := kb_vi (by decide) me9 (by decide +kernel) gw1519 gw1522 gw1520
set_option maxRecDepth 100000 in
theorem lk786 : ∀ pc, ev_kb MM "LeftAnswersLaw" pc (.invokevirtual 181) 186 1 = true := kb_vi (by decide) me186 (by decide +kernel) gw1523 gw1526 gw1524
