set_option maxRecDepth 100000 in
theorem gw1350 : Jvm.Cond.instanceMethod ⟨"LeftAnswersModel", "parted", "()I"⟩ ∈ gtb := gtb_t8 (i := 71) rfl (by decide +kernel)
set_option maxRecDepth 100000 in
theorem gw1351 : Jvm.Cond.methodLink "LeftAnswersLaw" 94 ⟨"LeftAnswers", "partedAt", "(II)I"⟩ ∈ gtb := gtb_t4 (i := 134) rfl (by decide +kernel)
set_option maxRecDepth 100000 in
theorem gw1352 : Jvm.Cond.selects "LeftAnswers" ⟨"LeftAnswers", "partedAt", "(II)I"⟩ ⟨"LeftAnswers", "partedAt", "(II)I"⟩ ∈ gtb := gtb_t4 (i := 136) rfl (by decide +kernel)
set_option maxRecDepth 100000 in
theorem gw1353 : Jvm.Cond.code ⟨"LeftAnswers", "partedAt", "(II)I"⟩ prog_1_method_19_code 4 (some .int) ∈ gtb := gtb_t4 (i := 137) rfl (by decide +kernel)
set_option maxRecDepth 100000 in
theorem gw1354 : Jvm.Cond.instanceMethod ⟨"LeftAnswers", "partedAt", "(II)I"⟩ ∈ gtb := gtb_t4 (i := 135) rfl (by decide +kernel)
set_option maxRecDepth 100000 in
theorem gw1355 : Jvm.Cond.methodLink "LeftAnswersLaw" 97 ⟨"LeftAnswersModel", "partedAt", "(II)I"⟩ ∈ gtb := gtb_t8 (i := 82) rfl (by decide +kernel)
set_option maxRecDepth 100000 in
theorem gw1356 : Jvm.Cond.selects "LeftAnswersModel" ⟨"LeftAnswersModel", "partedAt", "(II)I"⟩ ⟨"LeftAnswersModel", "partedAt", "(II)I"⟩ ∈ gtb := gtb_t8 (i := 84) rfl (by decide +kernel)
set_option maxRecDepth 100000 in
theorem gw1357 : Jvm.Cond.code ⟨"LeftAnswersModel", "partedAt", "(II)I"⟩ prog_15_method_77_code 3 (some .int) ∈ gtb := gtb_t8 (i := 85) rfl (by decide +kernel)
set_option maxRecDepth 100000 in
theorem gw1358 : Jvm.Cond.instanceMethod ⟨"LeftAnswersModel", "partedAt", "(II)I"⟩ ∈ gtb := gtb_t8 (i := 83) rfl (by decide +kernel)
set_option maxRecDepth 100000 in
theorem gw1359 : Jvm.Cond.methodLink "LeftAnswersLaw" 98 ⟨"LeftAnswers", "fits", "()I"⟩ ∈ gtb := gtb_t4 (i := 142) rfl (by decide +kernel)
set_option maxRecDepth 100000 in
theorem gw1360 : Jvm.Cond.selects "LeftAnswers" ⟨"LeftAnswers", "fits", "()I"⟩ ⟨"LeftAnswers", "fits", "()I"⟩ ∈ gtb := gtb_t4 (i := 144) rfl (by decide +kernel)
set_option maxRecDepth 100000 in
theorem gw1361 : Jvm.Cond.code ⟨"LeftAnswers", "fits", "()I"⟩ prog_1_method_20_code 6 (some .int) ∈ gtb := gtb_t4 (i := 145) rfl (by decide +kernel)
set_option maxRecDepth 100000 in
theorem gw1362 : Jvm.Cond.instanceMethod ⟨"LeftAnswers", "fits", "()I"⟩ ∈ gtb := gtb_t4 (i := 143) rfl (by decide +kernel)
set_option maxRecDepth 100000 in
theorem gw1363 : Jvm.Cond.methodLink "LeftAnswersLaw" 101 ⟨"LeftAnswersModel", "fits", "()I"⟩ ∈ gtb := gtb_t8 (i := 86) rfl (by decide +kernel)
set_option maxRecDepth 100000 in
theorem gw1364 : Jvm.Cond.selects "LeftAnswersModel" ⟨"LeftAnswersModel", "fits", "()I"⟩ ⟨"LeftAnswersModel", "fits", "()I"⟩ ∈ gtb := gtb_t8 (i := 88) rfl (by decide +kernel)
set_option maxRecDepth 100000 in
theorem gw1365 : Jvm.Cond.code ⟨"LeftAnswersModel", "fits", "()I"⟩ prog_15_method_80_code 6 (some .int) ∈ gtb := gtb_t8 (i := 89) rfl (by decide +kernel)
set_option maxRecDepth 100000 in
theorem gw1366 : Jvm.Cond.instanceMethod ⟨"LeftAnswersModel", "fits", "()I"⟩ ∈ gtb := gtb_t8 (i := 87) rfl (by decide +kernel)
set_option maxRecDepth 100000 in
theorem gw1367 : Jvm.Cond.methodLink "LeftAnswersLaw" 102 ⟨"LeftAnswers", "fitAt", "(I)I"⟩ ∈ gtb := gtb_t4 (i := 179) rfl (by decide +kernel)
set_option maxRecDepth 100000 in
theorem gw1368 : Jvm.Cond.selects "LeftAnswers" ⟨"LeftAnswers", "fitAt", "(I)I"⟩ ⟨"LeftAnswers", "fitAt", "(I)I"⟩ ∈ gtb := gtb_t4 (i := 181) rfl (by decide +kernel)
set_option maxRecDepth 100000 in
theorem gw1369 : Jvm.Cond.code ⟨"LeftAnswers", "fitAt", "(I)I"⟩ prog_1_method_21_code 2 (some .int) ∈ gtb := gtb_t4 (i := 182) rfl (by decide +kernel)
set_option maxRecDepth 100000 in
theorem gw1370 : Jvm.Cond.instanceMethod ⟨"LeftAnswers", "fitAt", "(I)I"⟩ ∈ gtb := gtb_t4 (i := 180) rfl (by decide +kernel)
set_option maxRecDepth 100000 in
theorem gw1371 : Jvm.Cond.methodLink "LeftAnswersLaw" 105 ⟨"LeftAnswersModel", "fitAt", "(I)I"⟩ ∈ gtb := gtb_t8 (i := 105) rfl (by decide +kernel)
set_option maxRecDepth 100000 in
theorem gw1372 : Jvm.Cond.selects "LeftAnswersModel" ⟨"LeftAnswersModel", "fitAt", "(I)I"⟩ ⟨"LeftAnswersModel", "fitAt", "(I)I"⟩ ∈ gtb := gtb_t8 (i := 107) rfl (by decide +kernel)
set_option maxRecDepth 100000 in
theorem gw1373 : Jvm.Cond.code ⟨"LeftAnswersModel", "fitAt", "(I)I"⟩ prog_15_method_81_code 2 (some .int) ∈ gtb := gtb_t8 (i := 108) rfl (by decide +kernel)
set_option maxRecDepth 100000 in
theorem gw1374 : Jvm.Cond.instanceMethod ⟨"LeftAnswersModel", "fitAt", "(I)I"⟩ ∈ gtb := gtb_t8 (i := 106) rfl (by decide +kernel)
set_option maxRecDepth 100000 in
theorem gw1375 : Jvm.Cond.methodLink "LeftAnswersLaw" 106 ⟨"LeftAnswers", "test", "()I"⟩ ∈ gtb := gtb_t4 (i := 186) rfl (by decide +kernel)
set_option maxRecDepth 100000 in
theorem gw1376 : Jvm.Cond.selects "LeftAnswers" ⟨"LeftAnswers", "test", "()I"⟩ ⟨"LeftAnswers", "test", "()I"⟩ ∈ gtb := gtb_t4 (i := 188) rfl (by decide +kernel)
set_option maxRecDepth 100000 in
theorem gw1377 : Jvm.Cond.code ⟨"LeftAnswers", "test", "()I"⟩ prog_1_method_22_code 1 (some .int) ∈ gtb := gtb_t4 (i := 189) rfl (by decide +kernel)
set_option maxRecDepth 100000 in
theorem gw1378 : Jvm.Cond.instanceMethod ⟨"LeftAnswers", "test", "()I"⟩ ∈ gtb := gtb_t4 (i := 187) rfl (by decide +kernel)
set_option maxRecDepth 100000 in
theorem gw1379 : Jvm.Cond.methodLink "LeftAnswersLaw" 109 ⟨"LeftAnswersModel", "test", "()I"⟩ ∈ gtb := gtb_t8 (i := 109) rfl (by decide +kernel)
set_option maxRecDepth 100000 in
theorem gw1380 : Jvm.Cond.selects "LeftAnswersModel" ⟨"LeftAnswersModel", "test", "()I"⟩ ⟨"LeftAnswersModel", "test", "()I"⟩ ∈ gtb := gtb_t8 (i := 111) rfl (by decide +kernel)
set_option maxRecDepth 100000 in
theorem gw1381 : Jvm.Cond.code ⟨"LeftAnswersModel", "test", "()I"⟩ prog_15_method_82_code 1 (some .int) ∈ gtb := gtb_t8 (i := 112) rfl (by decide +kernel)
set_option maxRecDepth 100000 in
theorem gw1382 : Jvm.Cond.instanceMethod ⟨"LeftAnswersModel", "test", "()I"⟩ ∈ gtb := gtb_t8 (i := 110) rfl (by decide +kernel)
set_option maxRecDepth 100000 in
theorem gw1383 : Jvm.Cond.methodLink "LeftAnswersLaw" 110 ⟨"LeftAnswers", "hears", "(II)I"⟩ ∈ gtb := gtb_t4 (i := 190) rfl (by decide +kernel)
set_option maxRecDepth 100000 in
theorem gw1384 : Jvm.Cond.selects "LeftAnswers" ⟨"LeftAnswers", "hears", "(II)I"⟩ ⟨"LeftAnswers", "hears", "(II)I"⟩ ∈ gtb := gtb_t4 (i := 192) rfl (by decide +kernel)
set_option maxRecDepth 100000 in
theorem gw1385 : Jvm.Cond.code ⟨"LeftAnswers", "hears", "(II)I"⟩ prog_1_method_23_code 3 (some .int) ∈ gtb := gtb_t4 (i := 193) rfl (by decide +kernel)
set_option maxRecDepth 100000 in
theorem gw1386 : Jvm.Cond.instanceMethod ⟨"LeftAnswers", "hears", "(II)I"⟩ ∈ gtb := gtb_t4 (i := 191) rfl (by decide +kernel)
set_option maxRecDepth 100000 in
theorem gw1387 : Jvm.Cond.methodLink "LeftAnswersLaw" 113 ⟨"LeftAnswersModel", "hears", "(II)I"⟩ ∈ gtb := gtb_t8 (i := 113) rfl (by decide +kernel)
set_option maxRecDepth 100000 in
theorem gw1388 : Jvm.Cond.selects "LeftAnswersModel" ⟨"LeftAnswersModel", "hears", "(II)I"⟩ ⟨"LeftAnswersModel", "hears", "(II)I"⟩ ∈ gtb := gtb_t8 (i := 115) rfl (by decide +kernel)
set_option maxRecDepth 100000 in
theorem gw1389 : Jvm.Cond.code ⟨"LeftAnswersModel", "hears", "(II)I"⟩ prog_15_method_83_code 7 (some .int) ∈ gtb := gtb_t8 (i := 116) rfl (by decide +kernel)
set_option maxRecDepth 100000 in
theorem gw1390 : Jvm.Cond.instanceMethod ⟨"LeftAnswersModel", "hears", "(II)I"⟩ ∈ gtb := gtb_t8 (i := 114) rfl (by decide +kernel)
set_option maxRecDepth 100000 in
theorem gw1391 : Jvm.Cond.methodLink "LeftAnswersLaw" 114 ⟨"LeftAnswers", "guards", "()I"⟩ ∈ gtb := gtb_t4 (i := 202) rfl (by decide +kernel)
set_option maxRecDepth 100000 in
theorem gw1392 : Jvm.Cond.selects "LeftAnswers" ⟨"LeftAnswers", "guards", "()I"⟩ ⟨"LeftAnswers", "guards", "()I"⟩ ∈ gtb := gtb_t4 (i := 204) rfl (by decide +kernel)
set_option maxRecDepth 100000 in
theorem gw1393 : Jvm.Cond.code ⟨"LeftAnswers", "guards", "()I"⟩ prog_1_method_24_code 1 (some .int) ∈ gtb := gtb_t4 (i := 205) rfl (by decide +kernel)
set_option maxRecDepth 100000 in
theorem gw1394 : Jvm.Cond.instanceMethod ⟨"LeftAnswers", "guards", "()I"⟩ ∈ gtb := gtb_t4 (i := 203) rfl (by decide +kernel)
set_option maxRecDepth 100000 in
theorem gw1395 : Jvm.Cond.methodLink "LeftAnswersLaw" 117 ⟨"LeftAnswersModel", "guards", "()I"⟩ ∈ gtb := gtb_t8 (i := 117) rfl (by decide +kernel)
set_option maxRecDepth 100000 in
theorem gw1396 : Jvm.Cond.selects "LeftAnswersModel" ⟨"LeftAnswersModel", "guards", "()I"⟩ ⟨"LeftAnswersModel", "guards", "()I"⟩ ∈ gtb := gtb_t8 (i := 119) rfl (by decide +kernel)
set_option maxRecDepth 100000 in
theorem gw1397 : Jvm.Cond.code ⟨"LeftAnswersModel", "guards", "()I"⟩ prog_15_method_84_code 6 (some .int) ∈ gtb := gtb_t8 (i := 120) rfl (by decide +kernel)
set_option maxRecDepth 100000 in
theorem gw1398 : Jvm.Cond.instanceMethod ⟨"LeftAnswersModel", "guards", "()I"⟩ ∈ gtb := gtb_t8 (i := 118) rfl (by decide +kernel)
set_option maxRecDepth 100000 in
theorem gw1399 : Jvm.Cond.methodLink "LeftAnswersLaw" 118 ⟨"LeftAnswers", "guarding", "()I"⟩ ∈ gtb := gtb_t4 (i := 214) rfl (by decide +kernel)
set_option maxRecDepth 100000 in
theorem gw1400 : Jvm.Cond.selects "LeftAnswers" ⟨"LeftAnswers", "guarding", "()I"⟩ ⟨"LeftAnswers", "guarding", "()I"⟩ ∈ gtb := gtb_t4 (i := 216) rfl (by decide +kernel)
set_option maxRecDepth 100000 in
theorem gw1401 : Jvm.Cond.code ⟨"LeftAnswers", "guarding", "()I"⟩ prog_1_method_25_code 1 (some .int) ∈ gtb := gtb_t4 (i := 217) rfl (by decide +kernel)
set_option maxRecDepth 100000 in
theorem gw1402 : Jvm.Cond.instanceMethod ⟨"LeftAnswers", "guarding", "()I"⟩ ∈ gtb := gtb_t4 (i := 215) rfl (by decide +kernel)
set_option maxRecDepth 100000 in
theorem gw1403 : Jvm.Cond.methodLink "LeftAnswersLaw" 121 ⟨"LeftAnswersModel", "guarding", "()I"⟩ ∈ gtb := gtb_t8 (i := 124) rfl (by decide +kernel)
set_option maxRecDepth 100000 in
theorem gw1404 : Jvm.Cond.selects "LeftAnswersModel" ⟨"LeftAnswersModel", "guarding", "()I"⟩ ⟨"LeftAnswersModel", "guarding", "()I"⟩ ∈ gtb := gtb_t8 (i := 126) rfl (by decide +kernel)
set_option maxRecDepth 100000 in
theorem gw1405 : Jvm.Cond.code ⟨"LeftAnswersModel", "guarding", "()I"⟩ prog_15_method_85_code 1 (some .int) ∈ gtb := gtb_t8 (i := 127) rfl (by decide +kernel)
set_option maxRecDepth 100000 in
theorem gw1406 : Jvm.Cond.instanceMethod ⟨"LeftAnswersModel", "guarding", "()I"⟩ ∈ gtb := gtb_t8 (i := 125) rfl (by decide +kernel)
set_option maxRecDepth 100000 in
theorem gw1407 : Jvm.Cond.methodLink "LeftAnswersLaw" 122 ⟨"LeftAnswers", "best", "()I"⟩ ∈ gtb := gtb_t4 (i := 218) rfl (by decide +kernel)
set_option maxRecDepth 100000 in
theorem gw1408 : Jvm.Cond.selects "LeftAnswers" ⟨"LeftAnswers", "best", "()I"⟩ ⟨"LeftAnswers", "best", "()I"⟩ ∈ gtb := gtb_t4 (i := 220) rfl (by decide +kernel)
set_option maxRecDepth 100000 in
theorem gw1409 : Jvm.Cond.code ⟨"LeftAnswers", "best", "()I"⟩ prog_1_method_26_code 1 (some .int) ∈ gtb := gtb_t4 (i := 221) rfl (by decide +kernel)
set_option maxRecDepth 100000 in
theorem gw1410 : Jvm.Cond.instanceMethod ⟨"LeftAnswers", "best", "()I"⟩ ∈ gtb := gtb_t4 (i := 219) rfl (by decide +kernel)
set_option maxRecDepth 100000 in
theorem gw1411 : Jvm.Cond.methodLink "LeftAnswersLaw" 125 ⟨"LeftAnswersModel", "best", "()I"⟩ ∈ gtb := gtb_t8 (i := 128) rfl (by decide +kernel)
set_option maxRecDepth 100000 in
theorem gw1412 : Jvm.Cond.selects "LeftAnswersModel" ⟨"LeftAnswersModel", "best", "()I"⟩ ⟨"LeftAnswersModel", "best", "()I"⟩ ∈ gtb := gtb_t8 (i := 130) rfl (by decide +kernel)
set_option maxRecDepth 100000 in
theorem gw1413 : Jvm.Cond.code ⟨"LeftAnswersModel", "best", "()I"⟩ prog_15_method_89_code 2 (some .int) ∈ gtb := gtb_t8 (i := 131) rfl (by decide +kernel)
set_option maxRecDepth 100000 in
theorem gw1414 : Jvm.Cond.instanceMethod ⟨"LeftAnswersModel", "best", "()I"⟩ ∈ gtb := gtb_t8 (i := 129) rfl (by decide +kernel)
set_option maxRecDepth 100000 in
theorem gw1415 : Jvm.Cond.methodLink "LeftAnswersLaw" 126 ⟨"LeftAnswers", "bestOf", "(I)I"⟩ ∈ gtb := gtb_t4 (i := 237) rfl (by decide +kernel)
set_option maxRecDepth 100000 in
theorem gw1416 : Jvm.Cond.selects "LeftAnswers" ⟨"LeftAnswers", "bestOf", "(I)I"⟩ ⟨"LeftAnswers", "bestOf", "(I)I"⟩ ∈ gtb := gtb_t4 (i := 239) rfl (by decide +kernel)
set_option maxRecDepth 100000 in
theorem gw1417 : Jvm.Cond.code ⟨"LeftAnswers", "bestOf", "(I)I"⟩ prog_1_method_27_code 2 (some .int) ∈ gtb := gtb_t5 (i := 0) rfl (by decide +kernel)
set_option maxRecDepth 100000 in
theorem gw1418 : Jvm.Cond.instanceMethod ⟨"LeftAnswers", "bestOf", "(I)I"⟩ ∈ gtb := gtb_t4 (i := 238) rfl (by decide +kernel)
set_option maxRecDepth 100000 in
theorem gw1419 : Jvm.Cond.methodLink "LeftAnswersLaw" 129 ⟨"LeftAnswersModel", "bestOf", "(I)I"⟩ ∈ gtb := gtb_t8 (i := 144) rfl (by decide +kernel)
set_option maxRecDepth 100000 in
theorem gw1420 : Jvm.Cond.selects "LeftAnswersModel" ⟨"LeftAnswersModel", "bestOf", "(I)I"⟩ ⟨"LeftAnswersModel", "bestOf", "(I)I"⟩ ∈ gtb := gtb_t8 (i := 146) rfl (by decide +kernel)
set_option maxRecDepth 100000 in
theorem gw1421 : Jvm.Cond.code ⟨"LeftAnswersModel", "bestOf", "(I)I"⟩ prog_15_method_90_code 2 (some .int) ∈ gtb := gtb_t8 (i := 147) rfl (by decide +kernel)
set_option maxRecDepth 100000 in
theorem gw1422 : Jvm.Cond.instanceMethod ⟨"LeftAnswersModel", "bestOf", "(I)I"⟩ ∈ gtb := gtb_t8 (i := 145) rfl (by decide +kernel)
set_option maxRecDepth 100000 in
theorem gw1423 : Jvm.Cond.methodLink "LeftAnswersLaw" 130 ⟨"LeftAnswers", "earns", "(I)I"⟩ ∈ gtb := gtb_t5 (i := 1) rfl (by decide +kernel)
set_option maxRecDepth 100000 in
theorem gw1424 : Jvm.Cond.selects "LeftAnswers" ⟨"LeftAnswers", "earns", "(I)I"⟩ ⟨"LeftAnswers", "earns", "(I)I"⟩ ∈ gtb := gtb_t5 (i := 3) rfl (by decide +kernel)
set_option maxRecDepth 100000 in
theorem gw1425 : Jvm.Cond.code ⟨"LeftAnswers", "earns", "(I)I"⟩ prog_1_method_28_code 2 (some .int) ∈ gtb := gtb_t5 (i := 4) rfl (by decide +kernel)
set_option maxRecDepth 100000 in
theorem gw1426 : Jvm.Cond.instanceMethod ⟨"LeftAnswers", "earns", "(I)I"⟩ ∈ gtb := gtb_t5 (i := 2) rfl (by decide +kernel)
set_option maxRecDepth 100000 in
theorem gw1427 : Jvm.Cond.methodLink "LeftAnswersLaw" 133 ⟨"LeftAnswersModel", "earns", "(I)I"⟩ ∈ gtb := gtb_t8 (i := 148) rfl (by decide +kernel)
set_option maxRecDepth 100000 in
theorem gw1428 : Jvm.Cond.selects "LeftAnswersModel" ⟨"LeftAnswersModel", "earns", "(I)I"⟩ ⟨"LeftAnswersModel", "earns", "(I)I"⟩ ∈ gtb := gtb_t8 (i := 150) rfl (by decide +kernel)
set_option maxRecDepth 100000 in
theorem gw1429 : Jvm.Cond.code ⟨"LeftAnswersModel", "earns", "(I)I"⟩ prog_15_method_92_code 3 (some .int) ∈ gtb := gtb_t8 (i := 151) rfl (by decide +kernel)
set_option maxRecDepth 100000 in
theorem gw1430 : Jvm.Cond.instanceMethod ⟨"LeftAnswersModel", "earns", "(I)I"⟩ ∈ gtb := gtb_t8 (i := 149) rfl (by decide +kernel)
set_option maxRecDepth 100000 in
theorem gw1431 : Jvm.Cond.methodLink "LeftAnswersLaw" 134 ⟨"LeftAnswers", "richest", "()I"⟩ ∈ gtb := gtb_t5 (i := 15) rfl (by decide +kernel)
set_option maxRecDepth 100000 in
theorem gw1432 : Jvm.Cond.selects "LeftAnswers" ⟨"LeftAnswers", "richest", "()I"⟩ ⟨"LeftAnswers", "richest", "()I"⟩ ∈ gtb := gtb_t5 (i := 17) rfl (by decide +kernel)
set_option maxRecDepth 100000 in
theorem gw1433 : Jvm.Cond.code ⟨"LeftAnswers", "richest", "()I"⟩ prog_1_method_29_code 4 (some .int) ∈ gtb := gtb_t5 (i := 18) rfl (by decide +kernel)
set_option maxRecDepth 100000 in
theorem gw1434 : Jvm.Cond.instanceMethod ⟨"LeftAnswers", "richest", "()I"⟩ ∈ gtb := gtb_t5 (i := 16) rfl (by decide +kernel)
set_option maxRecDepth 100000 in
theorem gw1435 : Jvm.Cond.methodLink "LeftAnswersLaw" 137 ⟨"LeftAnswersModel", "richest", "()I"⟩ ∈ gtb := gtb_t8 (i := 156) rfl (by decide +kernel)
set_option maxRecDepth 100000 in
theorem gw1436 : Jvm.Cond.selects "LeftAnswersModel" ⟨"LeftAnswersModel", "richest", "()I"⟩ ⟨"LeftAnswersModel", "richest", "()I"⟩ ∈ gtb := gtb_t8 (i := 158) rfl (by decide +kernel)
set_option maxRecDepth 100000 in
theorem gw1437 : Jvm.Cond.code ⟨"LeftAnswersModel", "richest", "()I"⟩ prog_15_method_93_code 3 (some .int) ∈ gtb := gtb_t8 (i := 159) rfl (by decide +kernel)
set_option maxRecDepth 100000 in
theorem gw1438 : Jvm.Cond.instanceMethod ⟨"LeftAnswersModel", "richest", "()I"⟩ ∈ gtb := gtb_t8 (i := 157) rfl (by decide +kernel)
set_option maxRecDepth 100000 in
theorem gw1439 : Jvm.Cond.methodLink "LeftAnswersLaw" 138 ⟨"LeftAnswers", "slip", "(I)I"⟩ ∈ gtb := gtb_t5 (i := 19) rfl (by decide +kernel)
set_option maxRecDepth 100000 in
theorem gw1440 : Jvm.Cond.selects "LeftAnswers" ⟨"LeftAnswers", "slip", "(I)I"⟩ ⟨"LeftAnswers", "slip", "(I)I"⟩ ∈ gtb := gtb_t5 (i := 21) rfl (by decide +kernel)
set_option maxRecDepth 100000 in
theorem gw1441 : Jvm.Cond.code ⟨"LeftAnswers", "slip", "(I)I"⟩ prog_1_method_30_code 2 (some .int) ∈ gtb := gtb_t5 (i := 22) rfl (by decide +kernel)
set_option maxRecDepth 100000 in
theorem gw1442 : Jvm.Cond.instanceMethod ⟨"LeftAnswers", "slip", "(I)I"⟩ ∈ gtb := gtb_t5 (i := 20) rfl (by decide +kernel)
set_option maxRecDepth 100000 in
theorem gw1443 : Jvm.Cond.methodLink "LeftAnswersLaw" 141 ⟨"LeftAnswersModel", "slip", "(I)I"⟩ ∈ gtb := gtb_t8 (i := 160) rfl (by decide +kernel)
set_option maxRecDepth 100000 in
theorem gw1444 : Jvm.Cond.selects "LeftAnswersModel" ⟨"LeftAnswersModel", "slip", "(I)I"⟩ ⟨"LeftAnswersModel", "slip", "(I)I"⟩ ∈ gtb := gtb_t8 (i := 162) rfl (by decide +kernel)
set_option maxRecDepth 100000 in
theorem gw1445 : Jvm.Cond.code ⟨"LeftAnswersModel", "slip", "(I)I"⟩ prog_15_method_98_code 2 (some .int) ∈ gtb := gtb_t8 (i := 163) rfl (by decide +kernel)
set_option maxRecDepth 100000 in
theorem gw1446 : Jvm.Cond.instanceMethod ⟨"LeftAnswersModel", "slip", "(I)I"⟩ ∈ gtb := gtb_t8 (i := 161) rfl (by decide +kernel)
set_option maxRecDepth 100000 in
theorem gw1447 : Jvm.Cond.methodLink "LeftAnswersLaw" 142 ⟨"LeftAnswers", "byteAt", "(I)I"⟩ ∈ gtb := gtb_t5 (i := 98) rfl (by decide +kernel)
set_option maxRecDepth 100000 in
theorem gw1448 : Jvm.Cond.selects "LeftAnswers" ⟨"LeftAnswers", "byteAt", "(I)I"⟩ ⟨"LeftAnswers", "byteAt", "(I)I"⟩ ∈ gtb := gtb_t5 (i := 100) rfl (by decide +kernel)
set_option maxRecDepth 100000 in
theorem gw1449 : Jvm.Cond.code ⟨"LeftAnswers", "byteAt", "(I)I"⟩ prog_1_method_31_code 2 (some .int) ∈ gtb := gtb_t5 (i := 101) rfl (by decide +kernel)
set_option maxRecDepth 100000 in
theorem gw1450 : Jvm.Cond.instanceMethod ⟨"LeftAnswers", "byteAt", "(I)I"⟩ ∈ gtb := gtb_t5 (i := 99) rfl (by decide +kernel)
set_option maxRecDepth 100000 in
theorem gw1451 : Jvm.Cond.methodLink "LeftAnswersLaw" 145 ⟨"LeftAnswersModel", "byteAt", "(I)I"⟩ ∈ gtb := gtb_t8 (i := 180) rfl (by decide +kernel)
set_option maxRecDepth 100000 in
theorem gw1452 : Jvm.Cond.selects "LeftAnswersModel" ⟨"LeftAnswersModel", "byteAt", "(I)I"⟩ ⟨"LeftAnswersModel", "byteAt", "(I)I"⟩ ∈ gtb := gtb_t8 (i := 182) rfl (by decide +kernel)
set_option maxRecDepth 100000 in
theorem gw1453 : Jvm.Cond.code ⟨"LeftAnswersModel", "byteAt", "(I)I"⟩ prog_15_method_99_code 2 (some .int) ∈ gtb := gtb_t8 (i := 183) rfl (by decide +kernel)
set_option maxRecDepth 100000 in
theorem gw1454 : Jvm.Cond.instanceMethod ⟨"LeftAnswersModel", "byteAt", "(I)I"⟩ ∈ gtb := gtb_t8 (i := 181) rfl (by decide +kernel)
set_option maxRecDepth 100000 in
theorem gw1455 : Jvm.Cond.methodLink "LeftAnswersLaw" 146 ⟨"LeftAnswers", "drawn", "(II)I"⟩ ∈ gtb := gtb_t5 (i := 102) rfl (by decide +kernel)
set_option maxRecDepth 100000 in
theorem gw1456 : Jvm.Cond.selects "LeftAnswers" ⟨"LeftAnswers", "drawn", "(II)I"⟩ ⟨"LeftAnswers", "drawn", "(II)I"⟩ ∈ gtb := gtb_t5 (i := 104) rfl (by decide +kernel)
set_option maxRecDepth 100000 in
theorem gw1457 : Jvm.Cond.code ⟨"LeftAnswers", "drawn", "(II)I"⟩ prog_1_method_32_code 4 (some .int) ∈ gtb := gtb_t5 (i := 105) rfl (by decide +kernel)
set_option maxRecDepth 100000 in
theorem gw1458 : Jvm.Cond.instanceMethod ⟨"LeftAnswers", "drawn", "(II)I"⟩ ∈ gtb := gtb_t5 (i := 103) rfl (by decide +kernel)
set_option maxRecDepth 100000 in
theorem gw1459 : Jvm.Cond.methodLink "LeftAnswersLaw" 149 ⟨"LeftAnswersModel", "drawn", "(II)I"⟩ ∈ gtb := gtb_t8 (i := 184) rfl (by decide +kernel)
set_option maxRecDepth 100000 in
theorem gw1460 : Jvm.Cond.selects "LeftAnswersModel" ⟨"LeftAnswersModel", "drawn", "(II)I"⟩ ⟨"LeftAnswersModel", "drawn", "(II)I"⟩ ∈ gtb := gtb_t8 (i := 186) rfl (by decide +kernel)
set_option maxRecDepth 100000 in
theorem gw1461 : Jvm.Cond.code ⟨"LeftAnswersModel", "drawn", "(II)I"⟩ prog_15_method_103_code 3 (some .int) ∈ gtb := gtb_t8 (i := 187) rfl (by decide +kernel)
set_option maxRecDepth 100000 in
theorem gw1462 : Jvm.Cond.instanceMethod ⟨"LeftAnswersModel", "drawn", "(II)I"⟩ ∈ gtb := gtb_t8 (i := 185) rfl (by decide +kernel)
set_option maxRecDepth 100000 in
theorem gw1463 : Jvm.Cond.methodLink "LeftAnswersLaw" 150 ⟨"LeftAnswers", "odds", "(III)I"⟩ ∈ gtb := gtb_t5 (i := 119) rfl (by decide +kernel)
set_option maxRecDepth 100000 in
theorem gw1464 : Jvm.Cond.selects "LeftAnswers" ⟨"LeftAnswers", "odds", "(III)I"⟩ ⟨"LeftAnswers", "odds", "(III)I"⟩ ∈ gtb := gtb_t5 (i := 121) rfl (by decide +kernel)
set_option maxRecDepth 100000 in
theorem gw1465 : Jvm.Cond.code ⟨"LeftAnswers", "odds", "(III)I"⟩ prog_1_method_33_code 7 (some .int) ∈ gtb := gtb_t5 (i := 122) rfl (by decide +kernel)
set_option maxRecDepth 100000 in
theorem gw1466 : Jvm.Cond.instanceMethod ⟨"LeftAnswers", "odds", "(III)I"⟩ ∈ gtb := gtb_t5 (i := 120) rfl (by decide +kernel)
set_option maxRecDepth 100000 in
theorem gw1467 : Jvm.Cond.methodLink "LeftAnswersLaw" 153 ⟨"LeftAnswersModel", "odds", "(III)I"⟩ ∈ gtb := gtb_t8 (i := 201) rfl (by decide +kernel)
set_option maxRecDepth 100000 in
theorem gw1468 : Jvm.Cond.selects "LeftAnswersModel" ⟨"LeftAnswersModel", "odds", "(III)I"⟩ ⟨"LeftAnswersModel", "odds", "(III)I"⟩ ∈ gtb := gtb_t8 (i := 203) rfl (by decide +kernel)
set_option maxRecDepth 100000 in
theorem gw1469 : Jvm.Cond.code ⟨"LeftAnswersModel", "odds", "(III)I"⟩ prog_15_method_106_code 6 (some .int) ∈ gtb := gtb_t8 (i := 204) rfl (by decide +kernel)
set_option maxRecDepth 100000 in
theorem gw1470 : Jvm.Cond.instanceMethod ⟨"LeftAnswersModel", "odds", "(III)I"⟩ ∈ gtb := gtb_t8 (i := 202) rfl (by decide +kernel)
set_option maxRecDepth 100000 in
theorem gw1471 : Jvm.Cond.methodLink "LeftAnswersLaw" 154 ⟨"LeftAnswers", "book", "(I)I"⟩ ∈ gtb := gtb_t5 (i := 124) rfl (by decide +kernel)
set_option maxRecDepth 100000 in
theorem gw1472 : Jvm.Cond.selects "LeftAnswers" ⟨"LeftAnswers", "book", "(I)I"⟩ ⟨"LeftAnswers", "book", "(I)I"⟩ ∈ gtb := gtb_t5 (i := 126) rfl (by decide +kernel)
set_option maxRecDepth 100000 in
theorem gw1473 : Jvm.Cond.code ⟨"LeftAnswers", "book", "(I)I"⟩ prog_1_method_34_code 2 (some .int) ∈ gtb := gtb_t5 (i := 127) rfl (by decide +kernel)
set_option maxRecDepth 100000 in
theorem gw1474 : Jvm.Cond.instanceMethod ⟨"LeftAnswers", "book", "(I)I"⟩ ∈ gtb := gtb_t5 (i := 125) rfl (by decide +kernel)
set_option maxRecDepth 100000 in
theorem gw1475 : Jvm.Cond.methodLink "LeftAnswersLaw" 157 ⟨"LeftAnswersModel", "book", "(I)I"⟩ ∈ gtb := gtb_t8 (i := 213) rfl (by decide +kernel)
set_option maxRecDepth 100000 in
theorem gw1476 : Jvm.Cond.selects "LeftAnswersModel" ⟨"LeftAnswersModel", "book", "(I)I"⟩ ⟨"LeftAnswersModel", "book", "(I)I"⟩ ∈ gtb := gtb_t8 (i := 215) rfl (by decide +kernel)
set_option maxRecDepth 100000 in
theorem gw1477 : Jvm.Cond.code ⟨"LeftAnswersModel", "book", "(I)I"⟩ prog_15_method_113_code 4 (some .int) ∈ gtb := gtb_t8 (i := 216) rfl (by decide +kernel)
set_option maxRecDepth 100000 in
theorem gw1478 : Jvm.Cond.instanceMethod ⟨"LeftAnswersModel", "book", "(I)I"⟩ ∈ gtb := gtb_t8 (i := 214) rfl (by decide +kernel)
set_option maxRecDepth 100000 in
theorem gw1479 : Jvm.Cond.methodLink "LeftAnswersLaw" 158 ⟨"LeftAnswers", "told", "(I)I"⟩ ∈ gtb := gtb_t5 (i := 173) rfl (by decide +kernel)
set_option maxRecDepth 100000 in
theorem gw1480 : Jvm.Cond.selects "LeftAnswers" ⟨"LeftAnswers", "told", "(I)I"⟩ ⟨"LeftAnswers", "told", "(I)I"⟩ ∈ gtb := gtb_t5 (i := 175) rfl (by decide +kernel)
set_option maxRecDepth 100000 in
theorem gw1481 : Jvm.Cond.code ⟨"LeftAnswers", "told", "(I)I"⟩ prog_1_method_35_code 2 (some .int) ∈ gtb := gtb_t5 (i := 176) rfl (by decide +kernel)
set_option maxRecDepth 100000 in
theorem gw1482 : Jvm.Cond.instanceMethod ⟨"LeftAnswers", "told", "(I)I"⟩ ∈ gtb := gtb_t5 (i := 174) rfl (by decide +kernel)
set_option maxRecDepth 100000 in
theorem gw1483 : Jvm.Cond.methodLink "LeftAnswersLaw" 161 ⟨"LeftAnswersModel", "told", "(I)I"⟩ ∈ gtb := gtb_t9 (i := 5) rfl (by decide +kernel)
set_option maxRecDepth 100000 in
theorem gw1484 : Jvm.Cond.selects "LeftAnswersModel" ⟨"LeftAnswersModel", "told", "(I)I"⟩ ⟨"LeftAnswersModel", "told", "(I)I"⟩ ∈ gtb := gtb_t9 (i := 7) rfl (by decide +kernel)
set_option maxRecDepth 100000 in
theorem gw1485 : Jvm.Cond.code ⟨"LeftAnswersModel", "told", "(I)I"⟩ prog_15_method_115_code 2 (some .int) ∈ gtb := gtb_t9 (i := 8) rfl (by decide +kernel)
set_option maxRecDepth 100000 in
theorem gw1486 : Jvm.Cond.instanceMethod ⟨"LeftAnswersModel", "told", "(I)I"⟩ ∈ gtb := gtb_t9 (i := 6) rfl (by decide +kernel)
set_option maxRecDepth 100000 in
theorem gw1487 : Jvm.Cond.methodLink "LeftAnswersLaw" 162 ⟨"LeftAnswers", "sentence", "()I"⟩ ∈ gtb := gtb_t5 (i := 177) rfl (by decide +kernel)
set_option maxRecDepth 100000 in
theorem gw1488 : Jvm.Cond.selects "LeftAnswers" ⟨"LeftAnswers", "sentence", "()I"⟩ ⟨"LeftAnswers", "sentence", "()I"⟩ ∈ gtb := gtb_t5 (i := 179) rfl (by decide +kernel)
set_option maxRecDepth 100000 in
theorem gw1489 : Jvm.Cond.code ⟨"LeftAnswers", "sentence", "()I"⟩ prog_1_method_36_code 2 (some .int) ∈ gtb := gtb_t5 (i := 180) rfl (by decide +kernel)
set_option maxRecDepth 100000 in
theorem gw1490 : Jvm.Cond.instanceMethod ⟨"LeftAnswers", "sentence", "()I"⟩ ∈ gtb := gtb_t5 (i := 178) rfl (by decide +kernel)
set_option maxRecDepth 100000 in
theorem gw1491 : Jvm.Cond.methodLink "LeftAnswersLaw" 165 ⟨"LeftAnswersModel", "sentence", "()I"⟩ ∈ gtb := gtb_t9 (i := 9) rfl (by decide +kernel)
set_option maxRecDepth 100000 in
theorem gw1492 : Jvm.Cond.selects "LeftAnswersModel" ⟨"LeftAnswersModel", "sentence", "()I"⟩ ⟨"LeftAnswersModel", "sentence", "()I"⟩ ∈ gtb := gtb_t9 (i := 11) rfl (by decide +kernel)
set_option maxRecDepth 100000 in
theorem gw1493 : Jvm.Cond.code ⟨"LeftAnswersModel", "sentence", "()I"⟩ prog_15_method_124_code 2 (some .int) ∈ gtb := gtb_t9 (i := 12) rfl (by decide +kernel)
set_option maxRecDepth 100000 in
theorem gw1494 : Jvm.Cond.instanceMethod ⟨"LeftAnswersModel", "sentence", "()I"⟩ ∈ gtb := gtb_t9 (i := 10) rfl (by decide +kernel)
set_option maxRecDepth 100000 in
theorem gw1495 : Jvm.Cond.methodLink "LeftAnswersLaw" 166 ⟨"LeftAnswers", "said", "(I)I"⟩ ∈ gtb := gtb_t5 (i := 228) rfl (by decide +kernel)
set_option maxRecDepth 100000 in
theorem gw1496 : Jvm.Cond.selects "LeftAnswers" ⟨"LeftAnswers", "said", "(I)I"⟩ ⟨"LeftAnswers", "said", "(I)I"⟩ ∈ gtb := gtb_t5 (i := 230) rfl (by decide +kernel)
set_option maxRecDepth 100000 in
theorem gw1497 : Jvm.Cond.code ⟨"LeftAnswers", "said", "(I)I"⟩ prog_1_method_37_code 3 (some .int) ∈ gtb := gtb_t5 (i := 231) rfl (by decide +kernel)
set_option maxRecDepth 100000 in
theorem gw1498 : Jvm.Cond.instanceMethod ⟨"LeftAnswers", "said", "(I)I"⟩ ∈ gtb := gtb_t5 (i := 229) rfl (by decide +kernel)
set_option maxRecDepth 100000 in
theorem gw1499 : Jvm.Cond.methodLink "LeftAnswersLaw" 169 ⟨"LeftAnswersModel", "said", "(I)I"⟩ ∈ gtb := gtb_t9 (i := 45) rfl (by decide +kernel)
