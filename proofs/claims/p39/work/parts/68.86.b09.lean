set_option maxRecDepth 100000 in
theorem gw1350 : Jvm.Cond.instanceMethod ⟨"LeftAnswersModel", "parted", "()I"⟩ ∈ gtb := gtb_in (i := 1875) (by decide +kernel) (by decide +kernel)
set_option maxRecDepth 100000 in
theorem gw1351 : Jvm.Cond.methodLink "LeftAnswersLaw" 94 ⟨"LeftAnswers", "partedAt", "(II)I"⟩ ∈ gtb := gtb_in (i := 978) (by decide +kernel) (by decide +kernel)
set_option maxRecDepth 100000 in
theorem gw1352 : Jvm.Cond.selects "LeftAnswers" ⟨"LeftAnswers", "partedAt", "(II)I"⟩ ⟨"LeftAnswers", "partedAt", "(II)I"⟩ ∈ gtb := gtb_in (i := 980) (by decide +kernel) (by decide +kernel)
set_option maxRecDepth 100000 in
theorem gw1353 : Jvm.Cond.code ⟨"LeftAnswers", "partedAt", "(II)I"⟩ prog_1_method_19_code 4 (some .int) ∈ gtb := gtb_in (i := 981) (by decide +kernel) (by decide +kernel)
set_option maxRecDepth 100000 in
theorem gw1354 : Jvm.Cond.instanceMethod ⟨"LeftAnswers", "partedAt", "(II)I"⟩ ∈ gtb := gtb_in (i := 979) (by decide +kernel) (by decide +kernel)
set_option maxRecDepth 100000 in
theorem gw1355 : Jvm.Cond.methodLink "LeftAnswersLaw" 97 ⟨"LeftAnswersModel", "partedAt", "(II)I"⟩ ∈ gtb := gtb_in (i := 1886) (by decide +kernel) (by decide +kernel)
set_option maxRecDepth 100000 in
theorem gw1356 : Jvm.Cond.selects "LeftAnswersModel" ⟨"LeftAnswersModel", "partedAt", "(II)I"⟩ ⟨"LeftAnswersModel", "partedAt", "(II)I"⟩ ∈ gtb := gtb_in (i := 1888) (by decide +kernel) (by decide +kernel)
set_option maxRecDepth 100000 in
theorem gw1357 : Jvm.Cond.code ⟨"LeftAnswersModel", "partedAt", "(II)I"⟩ prog_15_method_77_code 3 (some .int) ∈ gtb := gtb_in (i := 1889) (by decide +kernel) (by decide +kernel)
set_option maxRecDepth 100000 in
theorem gw1358 : Jvm.Cond.instanceMethod ⟨"LeftAnswersModel", "partedAt", "(II)I"⟩ ∈ gtb := gtb_in (i := 1887) (by decide +kernel) (by decide +kernel)
set_option maxRecDepth 100000 in
theorem gw1359 : Jvm.Cond.methodLink "LeftAnswersLaw" 98 ⟨"LeftAnswers", "fits", "()I"⟩ ∈ gtb := gtb_in (i := 986) (by decide +kernel) (by decide +kernel)
set_option maxRecDepth 100000 in
theorem gw1360 : Jvm.Cond.selects "LeftAnswers" ⟨"LeftAnswers", "fits", "()I"⟩ ⟨"LeftAnswers", "fits", "()I"⟩ ∈ gtb := gtb_in (i := 988) (by decide +kernel) (by decide +kernel)
set_option maxRecDepth 100000 in
theorem gw1361 : Jvm.Cond.code ⟨"LeftAnswers", "fits", "()I"⟩ prog_1_method_20_code 6 (some .int) ∈ gtb := gtb_in (i := 989) (by decide +kernel) (by decide +kernel)
set_option maxRecDepth 100000 in
theorem gw1362 : Jvm.Cond.instanceMethod ⟨"LeftAnswers", "fits", "()I"⟩ ∈ gtb := gtb_in (i := 987) (by decide +kernel) (by decide +kernel)
set_option maxRecDepth 100000 in
theorem gw1363 : Jvm.Cond.methodLink "LeftAnswersLaw" 101 ⟨"LeftAnswersModel", "fits", "()I"⟩ ∈ gtb := gtb_in (i := 1890) (by decide +kernel) (by decide +kernel)
set_option maxRecDepth 100000 in
theorem gw1364 : Jvm.Cond.selects "LeftAnswersModel" ⟨"LeftAnswersModel", "fits", "()I"⟩ ⟨"LeftAnswersModel", "fits", "()I"⟩ ∈ gtb := gtb_in (i := 1892) (by decide +kernel) (by decide +kernel)
set_option maxRecDepth 100000 in
theorem gw1365 : Jvm.Cond.code ⟨"LeftAnswersModel", "fits", "()I"⟩ prog_15_method_80_code 6 (some .int) ∈ gtb := gtb_in (i := 1893) (by decide +kernel) (by decide +kernel)
set_option maxRecDepth 100000 in
theorem gw1366 : Jvm.Cond.instanceMethod ⟨"LeftAnswersModel", "fits", "()I"⟩ ∈ gtb := gtb_in (i := 1891) (by decide +kernel) (by decide +kernel)
set_option maxRecDepth 100000 in
theorem gw1367 : Jvm.Cond.methodLink "LeftAnswersLaw" 102 ⟨"LeftAnswers", "fitAt", "(I)I"⟩ ∈ gtb := gtb_in (i := 1023) (by decide +kernel) (by decide +kernel)
set_option maxRecDepth 100000 in
theorem gw1368 : Jvm.Cond.selects "LeftAnswers" ⟨"LeftAnswers", "fitAt", "(I)I"⟩ ⟨"LeftAnswers", "fitAt", "(I)I"⟩ ∈ gtb := gtb_in (i := 1025) (by decide +kernel) (by decide +kernel)
set_option maxRecDepth 100000 in
theorem gw1369 : Jvm.Cond.code ⟨"LeftAnswers", "fitAt", "(I)I"⟩ prog_1_method_21_code 2 (some .int) ∈ gtb := gtb_in (i := 1026) (by decide +kernel) (by decide +kernel)
set_option maxRecDepth 100000 in
theorem gw1370 : Jvm.Cond.instanceMethod ⟨"LeftAnswers", "fitAt", "(I)I"⟩ ∈ gtb := gtb_in (i := 1024) (by decide +kernel) (by decide +kernel)
set_option maxRecDepth 100000 in
theorem gw1371 : Jvm.Cond.methodLink "LeftAnswersLaw" 105 ⟨"LeftAnswersModel", "fitAt", "(I)I"⟩ ∈ gtb := gtb_in (i := 1909) (by decide +kernel) (by decide +kernel)
set_option maxRecDepth 100000 in
theorem gw1372 : Jvm.Cond.selects "LeftAnswersModel" ⟨"LeftAnswersModel", "fitAt", "(I)I"⟩ ⟨"LeftAnswersModel", "fitAt", "(I)I"⟩ ∈ gtb := gtb_in (i := 1911) (by decide +kernel) (by decide +kernel)
set_option maxRecDepth 100000 in
theorem gw1373 : Jvm.Cond.code ⟨"LeftAnswersModel", "fitAt", "(I)I"⟩ prog_15_method_81_code 2 (some .int) ∈ gtb := gtb_in (i := 1912) (by decide +kernel) (by decide +kernel)
set_option maxRecDepth 100000 in
theorem gw1374 : Jvm.Cond.instanceMethod ⟨"LeftAnswersModel", "fitAt", "(I)I"⟩ ∈ gtb := gtb_in (i := 1910) (by decide +kernel) (by decide +kernel)
set_option maxRecDepth 100000 in
theorem gw1375 : Jvm.Cond.methodLink "LeftAnswersLaw" 106 ⟨"LeftAnswers", "test", "()I"⟩ ∈ gtb := gtb_in (i := 1030) (by decide +kernel) (by decide +kernel)
set_option maxRecDepth 100000 in
theorem gw1376 : Jvm.Cond.selects "LeftAnswers" ⟨"LeftAnswers", "test", "()I"⟩ ⟨"LeftAnswers", "test", "()I"⟩ ∈ gtb := gtb_in (i := 1032) (by decide +kernel) (by decide +kernel)
set_option maxRecDepth 100000 in
theorem gw1377 : Jvm.Cond.code ⟨"LeftAnswers", "test", "()I"⟩ prog_1_method_22_code 1 (some .int) ∈ gtb := gtb_in (i := 1033) (by decide +kernel) (by decide +kernel)
set_option maxRecDepth 100000 in
theorem gw1378 : Jvm.Cond.instanceMethod ⟨"LeftAnswers", "test", "()I"⟩ ∈ gtb := gtb_in (i := 1031) (by decide +kernel) (by decide +kernel)
set_option maxRecDepth 100000 in
theorem gw1379 : Jvm.Cond.methodLink "LeftAnswersLaw" 109 ⟨"LeftAnswersModel", "test", "()I"⟩ ∈ gtb := gtb_in (i := 1913) (by decide +kernel) (by decide +kernel)
set_option maxRecDepth 100000 in
theorem gw1380 : Jvm.Cond.selects "LeftAnswersModel" ⟨"LeftAnswersModel", "test", "()I"⟩ ⟨"LeftAnswersModel", "test", "()I"⟩ ∈ gtb := gtb_in (i := 1915) (by decide +kernel) (by decide +kernel)
set_option maxRecDepth 100000 in
theorem gw1381 : Jvm.Cond.code ⟨"LeftAnswersModel", "test", "()I"⟩ prog_15_method_82_code 1 (some .int) ∈ gtb := gtb_in (i := 1916) (by decide +kernel) (by decide +kernel)
set_option maxRecDepth 100000 in
theorem gw1382 : Jvm.Cond.instanceMethod ⟨"LeftAnswersModel", "test", "()I"⟩ ∈ gtb := gtb_in (i := 1914) (by decide +kernel) (by decide +kernel)
set_option maxRecDepth 100000 in
theorem gw1383 : Jvm.Cond.methodLink "LeftAnswersLaw" 110 ⟨"LeftAnswers", "hears", "(II)I"⟩ ∈ gtb := gtb_in (i := 1034) (by decide +kernel) (by decide +kernel)
set_option maxRecDepth 100000 in
theorem gw1384 : Jvm.Cond.selects "LeftAnswers" ⟨"LeftAnswers", "hears", "(II)I"⟩ ⟨"LeftAnswers", "hears", "(II)I"⟩ ∈ gtb := gtb_in (i := 1036) (by decide +kernel) (by decide +kernel)
set_option maxRecDepth 100000 in
theorem gw1385 : Jvm.Cond.code ⟨"LeftAnswers", "hears", "(II)I"⟩ prog_1_method_23_code 3 (some .int) ∈ gtb := gtb_in (i := 1037) (by decide +kernel) (by decide +kernel)
set_option maxRecDepth 100000 in
theorem gw1386 : Jvm.Cond.instanceMethod ⟨"LeftAnswers", "hears", "(II)I"⟩ ∈ gtb := gtb_in (i := 1035) (by decide +kernel) (by decide +kernel)
set_option maxRecDepth 100000 in
theorem gw1387 : Jvm.Cond.methodLink "LeftAnswersLaw" 113 ⟨"LeftAnswersModel", "hears", "(II)I"⟩ ∈ gtb := gtb_in (i := 1917) (by decide +kernel) (by decide +kernel)
set_option maxRecDepth 100000 in
theorem gw1388 : Jvm.Cond.selects "LeftAnswersModel" ⟨"LeftAnswersModel", "hears", "(II)I"⟩ ⟨"LeftAnswersModel", "hears", "(II)I"⟩ ∈ gtb := gtb_in (i := 1919) (by decide +kernel) (by decide +kernel)
set_option maxRecDepth 100000 in
theorem gw1389 : Jvm.Cond.code ⟨"LeftAnswersModel", "hears", "(II)I"⟩ prog_15_method_83_code 7 (some .int) ∈ gtb := gtb_in (i := 1920) (by decide +kernel) (by decide +kernel)
set_option maxRecDepth 100000 in
theorem gw1390 : Jvm.Cond.instanceMethod ⟨"LeftAnswersModel", "hears", "(II)I"⟩ ∈ gtb := gtb_in (i := 1918) (by decide +kernel) (by decide +kernel)
set_option maxRecDepth 100000 in
theorem gw1391 : Jvm.Cond.methodLink "LeftAnswersLaw" 114 ⟨"LeftAnswers", "guards", "()I"⟩ ∈ gtb := gtb_in (i := 1046) (by decide +kernel) (by decide +kernel)
set_option maxRecDepth 100000 in
theorem gw1392 : Jvm.Cond.selects "LeftAnswers" ⟨"LeftAnswers", "guards", "()I"⟩ ⟨"LeftAnswers", "guards", "()I"⟩ ∈ gtb := gtb_in (i := 1048) (by decide +kernel) (by decide +kernel)
set_option maxRecDepth 100000 in
theorem gw1393 : Jvm.Cond.code ⟨"LeftAnswers", "guards", "()I"⟩ prog_1_method_24_code 1 (some .int) ∈ gtb := gtb_in (i := 1049) (by decide +kernel) (by decide +kernel)
set_option maxRecDepth 100000 in
theorem gw1394 : Jvm.Cond.instanceMethod ⟨"LeftAnswers", "guards", "()I"⟩ ∈ gtb := gtb_in (i := 1047) (by decide +kernel) (by decide +kernel)
set_option maxRecDepth 100000 in
theorem gw1395 : Jvm.Cond.methodLink "LeftAnswersLaw" 117 ⟨"LeftAnswersModel", "guards", "()I"⟩ ∈ gtb := gtb_in (i := 1921) (by decide +kernel) (by decide +kernel)
set_option maxRecDepth 100000 in
theorem gw1396 : Jvm.Cond.selects "LeftAnswersModel" ⟨"LeftAnswersModel", "guards", "()I"⟩ ⟨"LeftAnswersModel", "guards", "()I"⟩ ∈ gtb := gtb_in (i := 1923) (by decide +kernel) (by decide +kernel)
set_option maxRecDepth 100000 in
theorem gw1397 : Jvm.Cond.code ⟨"LeftAnswersModel", "guards", "()I"⟩ prog_15_method_84_code 6 (some .int) ∈ gtb := gtb_in (i := 1924) (by decide +kernel) (by decide +kernel)
set_option maxRecDepth 100000 in
theorem gw1398 : Jvm.Cond.instanceMethod ⟨"LeftAnswersModel", "guards", "()I"⟩ ∈ gtb := gtb_in (i := 1922) (by decide +kernel) (by decide +kernel)
set_option maxRecDepth 100000 in
theorem gw1399 : Jvm.Cond.methodLink "LeftAnswersLaw" 118 ⟨"LeftAnswers", "guarding", "()I"⟩ ∈ gtb := gtb_in (i := 1058) (by decide +kernel) (by decide +kernel)
set_option maxRecDepth 100000 in
theorem gw1400 : Jvm.Cond.selects "LeftAnswers" ⟨"LeftAnswers", "guarding", "()I"⟩ ⟨"LeftAnswers", "guarding", "()I"⟩ ∈ gtb := gtb_in (i := 1060) (by decide +kernel) (by decide +kernel)
set_option maxRecDepth 100000 in
theorem gw1401 : Jvm.Cond.code ⟨"LeftAnswers", "guarding", "()I"⟩ prog_1_method_25_code 1 (some .int) ∈ gtb := gtb_in (i := 1061) (by decide +kernel) (by decide +kernel)
set_option maxRecDepth 100000 in
theorem gw1402 : Jvm.Cond.instanceMethod ⟨"LeftAnswers", "guarding", "()I"⟩ ∈ gtb := gtb_in (i := 1059) (by decide +kernel) (by decide +kernel)
set_option maxRecDepth 100000 in
theorem gw1403 : Jvm.Cond.methodLink "LeftAnswersLaw" 121 ⟨"LeftAnswersModel", "guarding", "()I"⟩ ∈ gtb := gtb_in (i := 1928) (by decide +kernel) (by decide +kernel)
set_option maxRecDepth 100000 in
theorem gw1404 : Jvm.Cond.selects "LeftAnswersModel" ⟨"LeftAnswersModel", "guarding", "()I"⟩ ⟨"LeftAnswersModel", "guarding", "()I"⟩ ∈ gtb := gtb_in (i := 1930) (by decide +kernel) (by decide +kernel)
set_option maxRecDepth 100000 in
theorem gw1405 : Jvm.Cond.code ⟨"LeftAnswersModel", "guarding", "()I"⟩ prog_15_method_85_code 1 (some .int) ∈ gtb := gtb_in (i := 1931) (by decide +kernel) (by decide +kernel)
set_option maxRecDepth 100000 in
theorem gw1406 : Jvm.Cond.instanceMethod ⟨"LeftAnswersModel", "guarding", "()I"⟩ ∈ gtb := gtb_in (i := 1929) (by decide +kernel) (by decide +kernel)
set_option maxRecDepth 100000 in
theorem gw1407 : Jvm.Cond.methodLink "LeftAnswersLaw" 122 ⟨"LeftAnswers", "best", "()I"⟩ ∈ gtb := gtb_in (i := 1062) (by decide +kernel) (by decide +kernel)
set_option maxRecDepth 100000 in
theorem gw1408 : Jvm.Cond.selects "LeftAnswers" ⟨"LeftAnswers", "best", "()I"⟩ ⟨"LeftAnswers", "best", "()I"⟩ ∈ gtb := gtb_in (i := 1064) (by decide +kernel) (by decide +kernel)
set_option maxRecDepth 100000 in
theorem gw1409 : Jvm.Cond.code ⟨"LeftAnswers", "best", "()I"⟩ prog_1_method_26_code 1 (some .int) ∈ gtb := gtb_in (i := 1065) (by decide +kernel) (by decide +kernel)
set_option maxRecDepth 100000 in
theorem gw1410 : Jvm.Cond.instanceMethod ⟨"LeftAnswers", "best", "()I"⟩ ∈ gtb := gtb_in (i := 1063) (by decide +kernel) (by decide +kernel)
set_option maxRecDepth 100000 in
theorem gw1411 : Jvm.Cond.methodLink "LeftAnswersLaw" 125 ⟨"LeftAnswersModel", "best", "()I"⟩ ∈ gtb := gtb_in (i := 1932) (by decide +kernel) (by decide +kernel)
set_option maxRecDepth 100000 in
theorem gw1412 : Jvm.Cond.selects "LeftAnswersModel" ⟨"LeftAnswersModel", "best", "()I"⟩ ⟨"LeftAnswersModel", "best", "()I"⟩ ∈ gtb := gtb_in (i := 1934) (by decide +kernel) (by decide +kernel)
set_option maxRecDepth 100000 in
theorem gw1413 : Jvm.Cond.code ⟨"LeftAnswersModel", "best", "()I"⟩ prog_15_method_89_code 2 (some .int) ∈ gtb := gtb_in (i := 1935) (by decide +kernel) (by decide +kernel)
set_option maxRecDepth 100000 in
theorem gw1414 : Jvm.Cond.instanceMethod ⟨"LeftAnswersModel", "best", "()I"⟩ ∈ gtb := gtb_in (i := 1933) (by decide +kernel) (by decide +kernel)
set_option maxRecDepth 100000 in
theorem gw1415 : Jvm.Cond.methodLink "LeftAnswersLaw" 126 ⟨"LeftAnswers", "bestOf", "(I)I"⟩ ∈ gtb := gtb_in (i := 1081) (by decide +kernel) (by decide +kernel)
set_option maxRecDepth 100000 in
theorem gw1416 : Jvm.Cond.selects "LeftAnswers" ⟨"LeftAnswers", "bestOf", "(I)I"⟩ ⟨"LeftAnswers", "bestOf", "(I)I"⟩ ∈ gtb := gtb_in (i := 1083) (by decide +kernel) (by decide +kernel)
set_option maxRecDepth 100000 in
theorem gw1417 : Jvm.Cond.code ⟨"LeftAnswers", "bestOf", "(I)I"⟩ prog_1_method_27_code 2 (some .int) ∈ gtb := gtb_in (i := 1084) (by decide +kernel) (by decide +kernel)
set_option maxRecDepth 100000 in
theorem gw1418 : Jvm.Cond.instanceMethod ⟨"LeftAnswers", "bestOf", "(I)I"⟩ ∈ gtb := gtb_in (i := 1082) (by decide +kernel) (by decide +kernel)
set_option maxRecDepth 100000 in
theorem gw1419 : Jvm.Cond.methodLink "LeftAnswersLaw" 129 ⟨"LeftAnswersModel", "bestOf", "(I)I"⟩ ∈ gtb := gtb_in (i := 1948) (by decide +kernel) (by decide +kernel)
set_option maxRecDepth 100000 in
theorem gw1420 : Jvm.Cond.selects "LeftAnswersModel" ⟨"LeftAnswersModel", "bestOf", "(I)I"⟩ ⟨"LeftAnswersModel", "bestOf", "(I)I"⟩ ∈ gtb := gtb_in (i := 1950) (by decide +kernel) (by decide +kernel)
set_option maxRecDepth 100000 in
theorem gw1421 : Jvm.Cond.code ⟨"LeftAnswersModel", "bestOf", "(I)I"⟩ prog_15_method_90_code 2 (some .int) ∈ gtb := gtb_in (i := 1951) (by decide +kernel) (by decide +kernel)
set_option maxRecDepth 100000 in
theorem gw1422 : Jvm.Cond.instanceMethod ⟨"LeftAnswersModel", "bestOf", "(I)I"⟩ ∈ gtb := gtb_in (i := 1949) (by decide +kernel) (by decide +kernel)
set_option maxRecDepth 100000 in
theorem gw1423 : Jvm.Cond.methodLink "LeftAnswersLaw" 130 ⟨"LeftAnswers", "earns", "(I)I"⟩ ∈ gtb := gtb_in (i := 1085) (by decide +kernel) (by decide +kernel)
set_option maxRecDepth 100000 in
theorem gw1424 : Jvm.Cond.selects "LeftAnswers" ⟨"LeftAnswers", "earns", "(I)I"⟩ ⟨"LeftAnswers", "earns", "(I)I"⟩ ∈ gtb := gtb_in (i := 1087) (by decide +kernel) (by decide +kernel)
set_option maxRecDepth 100000 in
theorem gw1425 : Jvm.Cond.code ⟨"LeftAnswers", "earns", "(I)I"⟩ prog_1_method_28_code 2 (some .int) ∈ gtb := gtb_in (i := 1088) (by decide +kernel) (by decide +kernel)
set_option maxRecDepth 100000 in
theorem gw1426 : Jvm.Cond.instanceMethod ⟨"LeftAnswers", "earns", "(I)I"⟩ ∈ gtb := gtb_in (i := 1086) (by decide +kernel) (by decide +kernel)
set_option maxRecDepth 100000 in
theorem gw1427 : Jvm.Cond.methodLink "LeftAnswersLaw" 133 ⟨"LeftAnswersModel", "earns", "(I)I"⟩ ∈ gtb := gtb_in (i := 1952) (by decide +kernel) (by decide +kernel)
set_option maxRecDepth 100000 in
theorem gw1428 : Jvm.Cond.selects "LeftAnswersModel" ⟨"LeftAnswersModel", "earns", "(I)I"⟩ ⟨"LeftAnswersModel", "earns", "(I)I"⟩ ∈ gtb := gtb_in (i := 1954) (by decide +kernel) (by decide +kernel)
set_option maxRecDepth 100000 in
theorem gw1429 : Jvm.Cond.code ⟨"LeftAnswersModel", "earns", "(I)I"⟩ prog_15_method_92_code 3 (some .int) ∈ gtb := gtb_in (i := 1955) (by decide +kernel) (by decide +kernel)
set_option maxRecDepth 100000 in
theorem gw1430 : Jvm.Cond.instanceMethod ⟨"LeftAnswersModel", "earns", "(I)I"⟩ ∈ gtb := gtb_in (i := 1953) (by decide +kernel) (by decide +kernel)
set_option maxRecDepth 100000 in
theorem gw1431 : Jvm.Cond.methodLink "LeftAnswersLaw" 134 ⟨"LeftAnswers", "richest", "()I"⟩ ∈ gtb := gtb_in (i := 1099) (by decide +kernel) (by decide +kernel)
set_option maxRecDepth 100000 in
theorem gw1432 : Jvm.Cond.selects "LeftAnswers" ⟨"LeftAnswers", "richest", "()I"⟩ ⟨"LeftAnswers", "richest", "()I"⟩ ∈ gtb := gtb_in (i := 1101) (by decide +kernel) (by decide +kernel)
set_option maxRecDepth 100000 in
theorem gw1433 : Jvm.Cond.code ⟨"LeftAnswers", "richest", "()I"⟩ prog_1_method_29_code 4 (some .int) ∈ gtb := gtb_in (i := 1102) (by decide +kernel) (by decide +kernel)
set_option maxRecDepth 100000 in
theorem gw1434 : Jvm.Cond.instanceMethod ⟨"LeftAnswers", "richest", "()I"⟩ ∈ gtb := gtb_in (i := 1100) (by decide +kernel) (by decide +kernel)
set_option maxRecDepth 100000 in
theorem gw1435 : Jvm.Cond.methodLink "LeftAnswersLaw" 137 ⟨"LeftAnswersModel", "richest", "()I"⟩ ∈ gtb := gtb_in (i := 1960) (by decide +kernel) (by decide +kernel)
set_option maxRecDepth 100000 in
theorem gw1436 : Jvm.Cond.selects "LeftAnswersModel" ⟨"LeftAnswersModel", "richest", "()I"⟩ ⟨"LeftAnswersModel", "richest", "()I"⟩ ∈ gtb := gtb_in (i := 1962) (by decide +kernel) (by decide +kernel)
set_option maxRecDepth 100000 in
theorem gw1437 : Jvm.Cond.code ⟨"LeftAnswersModel", "richest", "()I"⟩ prog_15_method_93_code 3 (some .int) ∈ gtb := gtb_in (i := 1963) (by decide +kernel) (by decide +kernel)
set_option maxRecDepth 100000 in
theorem gw1438 : Jvm.Cond.instanceMethod ⟨"LeftAnswersModel", "richest", "()I"⟩ ∈ gtb := gtb_in (i := 1961) (by decide +kernel) (by decide +kernel)
set_option maxRecDepth 100000 in
theorem gw1439 : Jvm.Cond.methodLink "LeftAnswersLaw" 138 ⟨"LeftAnswers", "slip", "(I)I"⟩ ∈ gtb := gtb_in (i := 1103) (by decide +kernel) (by decide +kernel)
set_option maxRecDepth 100000 in
theorem gw1440 : Jvm.Cond.selects "LeftAnswers" ⟨"LeftAnswers", "slip", "(I)I"⟩ ⟨"LeftAnswers", "slip", "(I)I"⟩ ∈ gtb := gtb_in (i := 1105) (by decide +kernel) (by decide +kernel)
set_option maxRecDepth 100000 in
theorem gw1441 : Jvm.Cond.code ⟨"LeftAnswers", "slip", "(I)I"⟩ prog_1_method_30_code 2 (some .int) ∈ gtb := gtb_in (i := 1106) (by decide +kernel) (by decide +kernel)
set_option maxRecDepth 100000 in
theorem gw1442 : Jvm.Cond.instanceMethod ⟨"LeftAnswers", "slip", "(I)I"⟩ ∈ gtb := gtb_in (i := 1104) (by decide +kernel) (by decide +kernel)
set_option maxRecDepth 100000 in
theorem gw1443 : Jvm.Cond.methodLink "LeftAnswersLaw" 141 ⟨"LeftAnswersModel", "slip", "(I)I"⟩ ∈ gtb := gtb_in (i := 1964) (by decide +kernel) (by decide +kernel)
set_option maxRecDepth 100000 in
theorem gw1444 : Jvm.Cond.selects "LeftAnswersModel" ⟨"LeftAnswersModel", "slip", "(I)I"⟩ ⟨"LeftAnswersModel", "slip", "(I)I"⟩ ∈ gtb := gtb_in (i := 1966) (by decide +kernel) (by decide +kernel)
set_option maxRecDepth 100000 in
theorem gw1445 : Jvm.Cond.code ⟨"LeftAnswersModel", "slip", "(I)I"⟩ prog_15_method_98_code 2 (some .int) ∈ gtb := gtb_in (i := 1967) (by decide +kernel) (by decide +kernel)
set_option maxRecDepth 100000 in
theorem gw1446 : Jvm.Cond.instanceMethod ⟨"LeftAnswersModel", "slip", "(I)I"⟩ ∈ gtb := gtb_in (i := 1965) (by decide +kernel) (by decide +kernel)
set_option maxRecDepth 100000 in
theorem gw1447 : Jvm.Cond.methodLink "LeftAnswersLaw" 142 ⟨"LeftAnswers", "byteAt", "(I)I"⟩ ∈ gtb := gtb_in (i := 1182) (by decide +kernel) (by decide +kernel)
set_option maxRecDepth 100000 in
theorem gw1448 : Jvm.Cond.selects "LeftAnswers" ⟨"LeftAnswers", "byteAt", "(I)I"⟩ ⟨"LeftAnswers", "byteAt", "(I)I"⟩ ∈ gtb := gtb_in (i := 1184) (by decide +kernel) (by decide +kernel)
set_option maxRecDepth 100000 in
theorem gw1449 : Jvm.Cond.code ⟨"LeftAnswers", "byteAt", "(I)I"⟩ prog_1_method_31_code 2 (some .int) ∈ gtb := gtb_in (i := 1185) (by decide +kernel) (by decide +kernel)
set_option maxRecDepth 100000 in
theorem gw1450 : Jvm.Cond.instanceMethod ⟨"LeftAnswers", "byteAt", "(I)I"⟩ ∈ gtb := gtb_in (i := 1183) (by decide +kernel) (by decide +kernel)
set_option maxRecDepth 100000 in
theorem gw1451 : Jvm.Cond.methodLink "LeftAnswersLaw" 145 ⟨"LeftAnswersModel", "byteAt", "(I)I"⟩ ∈ gtb := gtb_in (i := 1984) (by decide +kernel) (by decide +kernel)
set_option maxRecDepth 100000 in
theorem gw1452 : Jvm.Cond.selects "LeftAnswersModel" ⟨"LeftAnswersModel", "byteAt", "(I)I"⟩ ⟨"LeftAnswersModel", "byteAt", "(I)I"⟩ ∈ gtb := gtb_in (i := 1986) (by decide +kernel) (by decide +kernel)
set_option maxRecDepth 100000 in
theorem gw1453 : Jvm.Cond.code ⟨"LeftAnswersModel", "byteAt", "(I)I"⟩ prog_15_method_99_code 2 (some .int) ∈ gtb := gtb_in (i := 1987) (by decide +kernel) (by decide +kernel)
set_option maxRecDepth 100000 in
theorem gw1454 : Jvm.Cond.instanceMethod ⟨"LeftAnswersModel", "byteAt", "(I)I"⟩ ∈ gtb := gtb_in (i := 1985) (by decide +kernel) (by decide +kernel)
set_option maxRecDepth 100000 in
theorem gw1455 : Jvm.Cond.methodLink "LeftAnswersLaw" 146 ⟨"LeftAnswers", "drawn", "(II)I"⟩ ∈ gtb := gtb_in (i := 1186) (by decide +kernel) (by decide +kernel)
set_option maxRecDepth 100000 in
theorem gw1456 : Jvm.Cond.selects "LeftAnswers" ⟨"LeftAnswers", "drawn", "(II)I"⟩ ⟨"LeftAnswers", "drawn", "(II)I"⟩ ∈ gtb := gtb_in (i := 1188) (by decide +kernel) (by decide +kernel)
set_option maxRecDepth 100000 in
theorem gw1457 : Jvm.Cond.code ⟨"LeftAnswers", "drawn", "(II)I"⟩ prog_1_method_32_code 4 (some .int) ∈ gtb := gtb_in (i := 1189) (by decide +kernel) (by decide +kernel)
set_option maxRecDepth 100000 in
theorem gw1458 : Jvm.Cond.instanceMethod ⟨"LeftAnswers", "drawn", "(II)I"⟩ ∈ gtb := gtb_in (i := 1187) (by decide +kernel) (by decide +kernel)
set_option maxRecDepth 100000 in
theorem gw1459 : Jvm.Cond.methodLink "LeftAnswersLaw" 149 ⟨"LeftAnswersModel", "drawn", "(II)I"⟩ ∈ gtb := gtb_in (i := 1988) (by decide +kernel) (by decide +kernel)
set_option maxRecDepth 100000 in
theorem gw1460 : Jvm.Cond.selects "LeftAnswersModel" ⟨"LeftAnswersModel", "drawn", "(II)I"⟩ ⟨"LeftAnswersModel", "drawn", "(II)I"⟩ ∈ gtb := gtb_in (i := 1990) (by decide +kernel) (by decide +kernel)
set_option maxRecDepth 100000 in
theorem gw1461 : Jvm.Cond.code ⟨"LeftAnswersModel", "drawn", "(II)I"⟩ prog_15_method_103_code 3 (some .int) ∈ gtb := gtb_in (i := 1991) (by decide +kernel) (by decide +kernel)
set_option maxRecDepth 100000 in
theorem gw1462 : Jvm.Cond.instanceMethod ⟨"LeftAnswersModel", "drawn", "(II)I"⟩ ∈ gtb := gtb_in (i := 1989) (by decide +kernel) (by decide +kernel)
set_option maxRecDepth 100000 in
theorem gw1463 : Jvm.Cond.methodLink "LeftAnswersLaw" 150 ⟨"LeftAnswers", "odds", "(III)I"⟩ ∈ gtb := gtb_in (i := 1203) (by decide +kernel) (by decide +kernel)
set_option maxRecDepth 100000 in
theorem gw1464 : Jvm.Cond.selects "LeftAnswers" ⟨"LeftAnswers", "odds", "(III)I"⟩ ⟨"LeftAnswers", "odds", "(III)I"⟩ ∈ gtb := gtb_in (i := 1205) (by decide +kernel) (by decide +kernel)
set_option maxRecDepth 100000 in
theorem gw1465 : Jvm.Cond.code ⟨"LeftAnswers", "odds", "(III)I"⟩ prog_1_method_33_code 7 (some .int) ∈ gtb := gtb_in (i := 1206) (by decide +kernel) (by decide +kernel)
set_option maxRecDepth 100000 in
theorem gw1466 : Jvm.Cond.instanceMethod ⟨"LeftAnswers", "odds", "(III)I"⟩ ∈ gtb := gtb_in (i := 1204) (by decide +kernel) (by decide +kernel)
set_option maxRecDepth 100000 in
theorem gw1467 : Jvm.Cond.methodLink "LeftAnswersLaw" 153 ⟨"LeftAnswersModel", "odds", "(III)I"⟩ ∈ gtb := gtb_in (i := 2005) (by decide +kernel) (by decide +kernel)
set_option maxRecDepth 100000 in
theorem gw1468 : Jvm.Cond.selects "LeftAnswersModel" ⟨"LeftAnswersModel", "odds", "(III)I"⟩ ⟨"LeftAnswersModel", "odds", "(III)I"⟩ ∈ gtb := gtb_in (i := 2007) (by decide +kernel) (by decide +kernel)
set_option maxRecDepth 100000 in
theorem gw1469 : Jvm.Cond.code ⟨"LeftAnswersModel", "odds", "(III)I"⟩ prog_15_method_106_code 6 (some .int) ∈ gtb := gtb_in (i := 2008) (by decide +kernel) (by decide +kernel)
set_option maxRecDepth 100000 in
theorem gw1470 : Jvm.Cond.instanceMethod ⟨"LeftAnswersModel", "odds", "(III)I"⟩ ∈ gtb := gtb_in (i := 2006) (by decide +kernel) (by decide +kernel)
set_option maxRecDepth 100000 in
theorem gw1471 : Jvm.Cond.methodLink "LeftAnswersLaw" 154 ⟨"LeftAnswers", "book", "(I)I"⟩ ∈ gtb := gtb_in (i := 1208) (by decide +kernel) (by decide +kernel)
set_option maxRecDepth 100000 in
theorem gw1472 : Jvm.Cond.selects "LeftAnswers" ⟨"LeftAnswers", "book", "(I)I"⟩ ⟨"LeftAnswers", "book", "(I)I"⟩ ∈ gtb := gtb_in (i := 1210) (by decide +kernel) (by decide +kernel)
set_option maxRecDepth 100000 in
theorem gw1473 : Jvm.Cond.code ⟨"LeftAnswers", "book", "(I)I"⟩ prog_1_method_34_code 2 (some .int) ∈ gtb := gtb_in (i := 1211) (by decide +kernel) (by decide +kernel)
set_option maxRecDepth 100000 in
theorem gw1474 : Jvm.Cond.instanceMethod ⟨"LeftAnswers", "book", "(I)I"⟩ ∈ gtb := gtb_in (i := 1209) (by decide +kernel) (by decide +kernel)
set_option maxRecDepth 100000 in
theorem gw1475 : Jvm.Cond.methodLink "LeftAnswersLaw" 157 ⟨"LeftAnswersModel", "book", "(I)I"⟩ ∈ gtb := gtb_in (i := 2017) (by decide +kernel) (by decide +kernel)
set_option maxRecDepth 100000 in
theorem gw1476 : Jvm.Cond.selects "LeftAnswersModel" ⟨"LeftAnswersModel", "book", "(I)I"⟩ ⟨"LeftAnswersModel", "book", "(I)I"⟩ ∈ gtb := gtb_in (i := 2019) (by decide +kernel) (by decide +kernel)
set_option maxRecDepth 100000 in
theorem gw1477 : Jvm.Cond.code ⟨"LeftAnswersModel", "book", "(I)I"⟩ prog_15_method_113_code 4 (some .int) ∈ gtb := gtb_in (i := 2020) (by decide +kernel) (by decide +kernel)
set_option maxRecDepth 100000 in
theorem gw1478 : Jvm.Cond.instanceMethod ⟨"LeftAnswersModel", "book", "(I)I"⟩ ∈ gtb := gtb_in (i := 2018) (by decide +kernel) (by decide +kernel)
set_option maxRecDepth 100000 in
theorem gw1479 : Jvm.Cond.methodLink "LeftAnswersLaw" 158 ⟨"LeftAnswers", "told", "(I)I"⟩ ∈ gtb := gtb_in (i := 1257) (by decide +kernel) (by decide +kernel)
set_option maxRecDepth 100000 in
theorem gw1480 : Jvm.Cond.selects "LeftAnswers" ⟨"LeftAnswers", "told", "(I)I"⟩ ⟨"LeftAnswers", "told", "(I)I"⟩ ∈ gtb := gtb_in (i := 1259) (by decide +kernel) (by decide +kernel)
set_option maxRecDepth 100000 in
theorem gw1481 : Jvm.Cond.code ⟨"LeftAnswers", "told", "(I)I"⟩ prog_1_method_35_code 2 (some .int) ∈ gtb := gtb_in (i := 1260) (by decide +kernel) (by decide +kernel)
set_option maxRecDepth 100000 in
theorem gw1482 : Jvm.Cond.instanceMethod ⟨"LeftAnswers", "told", "(I)I"⟩ ∈ gtb := gtb_in (i := 1258) (by decide +kernel) (by decide +kernel)
set_option maxRecDepth 100000 in
theorem gw1483 : Jvm.Cond.methodLink "LeftAnswersLaw" 161 ⟨"LeftAnswersModel", "told", "(I)I"⟩ ∈ gtb := gtb_in (i := 2049) (by decide +kernel) (by decide +kernel)
set_option maxRecDepth 100000 in
theorem gw1484 : Jvm.Cond.selects "LeftAnswersModel" ⟨"LeftAnswersModel", "told", "(I)I"⟩ ⟨"LeftAnswersModel", "told", "(I)I"⟩ ∈ gtb := gtb_in (i := 2051) (by decide +kernel) (by decide +kernel)
set_option maxRecDepth 100000 in
theorem gw1485 : Jvm.Cond.code ⟨"LeftAnswersModel", "told", "(I)I"⟩ prog_15_method_115_code 2 (some .int) ∈ gtb := gtb_in (i := 2052) (by decide +kernel) (by decide +kernel)
set_option maxRecDepth 100000 in
theorem gw1486 : Jvm.Cond.instanceMethod ⟨"LeftAnswersModel", "told", "(I)I"⟩ ∈ gtb := gtb_in (i := 2050) (by decide +kernel) (by decide +kernel)
set_option maxRecDepth 100000 in
theorem gw1487 : Jvm.Cond.methodLink "LeftAnswersLaw" 162 ⟨"LeftAnswers", "sentence", "()I"⟩ ∈ gtb := gtb_in (i := 1261) (by decide +kernel) (by decide +kernel)
set_option maxRecDepth 100000 in
theorem gw1488 : Jvm.Cond.selects "LeftAnswers" ⟨"LeftAnswers", "sentence", "()I"⟩ ⟨"LeftAnswers", "sentence", "()I"⟩ ∈ gtb := gtb_in (i := 1263) (by decide +kernel) (by decide +kernel)
set_option maxRecDepth 100000 in
theorem gw1489 : Jvm.Cond.code ⟨"LeftAnswers", "sentence", "()I"⟩ prog_1_method_36_code 2 (some .int) ∈ gtb := gtb_in (i := 1264) (by decide +kernel) (by decide +kernel)
set_option maxRecDepth 100000 in
theorem gw1490 : Jvm.Cond.instanceMethod ⟨"LeftAnswers", "sentence", "()I"⟩ ∈ gtb := gtb_in (i := 1262) (by decide +kernel) (by decide +kernel)
set_option maxRecDepth 100000 in
theorem gw1491 : Jvm.Cond.methodLink "LeftAnswersLaw" 165 ⟨"LeftAnswersModel", "sentence", "()I"⟩ ∈ gtb := gtb_in (i := 2053) (by decide +kernel) (by decide +kernel)
set_option maxRecDepth 100000 in
theorem gw1492 : Jvm.Cond.selects "LeftAnswersModel" ⟨"LeftAnswersModel", "sentence", "()I"⟩ ⟨"LeftAnswersModel", "sentence", "()I"⟩ ∈ gtb := gtb_in (i := 2055) (by decide +kernel) (by decide +kernel)
set_option maxRecDepth 100000 in
theorem gw1493 : Jvm.Cond.code ⟨"LeftAnswersModel", "sentence", "()I"⟩ prog_15_method_124_code 2 (some .int) ∈ gtb := gtb_in (i := 2056) (by decide +kernel) (by decide +kernel)
set_option maxRecDepth 100000 in
theorem gw1494 : Jvm.Cond.instanceMethod ⟨"LeftAnswersModel", "sentence", "()I"⟩ ∈ gtb := gtb_in (i := 2054) (by decide +kernel) (by decide +kernel)
set_option maxRecDepth 100000 in
theorem gw1495 : Jvm.Cond.methodLink "LeftAnswersLaw" 166 ⟨"LeftAnswers", "said", "(I)I"⟩ ∈ gtb := gtb_in (i := 1312) (by decide +kernel) (by decide +kernel)
set_option maxRecDepth 100000 in
theorem gw1496 : Jvm.Cond.selects "LeftAnswers" ⟨"LeftAnswers", "said", "(I)I"⟩ ⟨"LeftAnswers", "said", "(I)I"⟩ ∈ gtb := gtb_in (i := 1314) (by decide +kernel) (by decide +kernel)
set_option maxRecDepth 100000 in
theorem gw1497 : Jvm.Cond.code ⟨"LeftAnswers", "said", "(I)I"⟩ prog_1_method_37_code 3 (some .int) ∈ gtb := gtb_in (i := 1315) (by decide +kernel) (by decide +kernel)
set_option maxRecDepth 100000 in
theorem gw1498 : Jvm.Cond.instanceMethod ⟨"LeftAnswers", "said", "(I)I"⟩ ∈ gtb := gtb_in (i := 1313) (by decide +kernel) (by decide +kernel)
set_option maxRecDepth 100000 in
theorem gw1499 : Jvm.Cond.methodLink "LeftAnswersLaw" 169 ⟨"LeftAnswersModel", "said", "(I)I"⟩ ∈ gtb := gtb_in (i := 2089) (by decide +kernel) (by decide +kernel)
