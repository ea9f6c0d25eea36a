set_option maxRecDepth 100000 in
theorem gw450 : Jvm.Cond.code ⟨"LeftAnswersModel", "go", "()V"⟩ prog_15_method_16_code 5 none ∈ gtb := gtb_in (i := 1648) (by decide +kernel) (by decide +kernel)
set_option maxRecDepth 100000 in
theorem gw451 : Jvm.Cond.instanceMethod ⟨"LeftAnswersModel", "go", "()V"⟩ ∈ gtb := gtb_in (i := 1647) (by decide +kernel) (by decide +kernel)
set_option maxRecDepth 100000 in
theorem gw452 : Jvm.Cond.fieldLink "LeftAnswersModel" 331 "LeftAnswersModel" "wedMost" "I" ∈ gtb := gtb_in (i := 1512) (by decide +kernel) (by decide +kernel)
set_option maxRecDepth 100000 in
theorem gw453 : Jvm.Cond.methodLink "LeftAnswersModel" 334 ⟨"LeftAnswersModel", "wedFrom", "(II)V"⟩ ∈ gtb := gtb_in (i := 1940) (by decide +kernel) (by decide +kernel)
set_option maxRecDepth 100000 in
theorem gw454 : Jvm.Cond.selects "LeftAnswersModel" ⟨"LeftAnswersModel", "wedFrom", "(II)V"⟩ ⟨"LeftAnswersModel", "wedFrom", "(II)V"⟩ ∈ gtb := gtb_in (i := 95) (by decide +kernel) (by decide +kernel)
set_option maxRecDepth 100000 in
theorem gw455 : Jvm.Cond.code ⟨"LeftAnswersModel", "wedFrom", "(II)V"⟩ prog_15_method_88_code 4 none ∈ gtb := gtb_in (i := 1943) (by decide +kernel) (by decide +kernel)
set_option maxRecDepth 100000 in
theorem gw456 : Jvm.Cond.instanceMethod ⟨"LeftAnswersModel", "wedFrom", "(II)V"⟩ ∈ gtb := gtb_in (i := 1942) (by decide +kernel) (by decide +kernel)
set_option maxRecDepth 100000 in
theorem gw457 : Jvm.Cond.fieldLink "LeftAnswersModel" 344 "LeftAnswersModel" "wedMany" "I" ∈ gtb := gtb_in (i := 1513) (by decide +kernel) (by decide +kernel)
set_option maxRecDepth 100000 in
theorem gw458 : Jvm.Cond.fieldLink "LeftAnswersModel" 347 "LeftAnswersModel" "hasWedded" "Z" ∈ gtb := gtb_in (i := 1514) (by decide +kernel) (by decide +kernel)
set_option maxRecDepth 100000 in
theorem gw459 : Jvm.Cond.methodLink "LeftAnswersModel" 75 ⟨"LeftAnswersModel", "isIn", "(III)Z"⟩ ∈ gtb := gtb_in (i := 1702) (by decide +kernel) (by decide +kernel)
set_option maxRecDepth 100000 in
theorem gw460 : Jvm.Cond.code ⟨"LeftAnswersModel", "isIn", "(III)Z"⟩ prog_15_method_7_code 3 (some .boolean) ∈ gtb := gtb_in (i := 1704) (by decide +kernel) (by decide +kernel)
set_option maxRecDepth 100000 in
theorem gw461 : Jvm.Cond.static ⟨"LeftAnswersModel", "isIn", "(III)Z"⟩ ∈ gtb := gtb_in (i := 1703) (by decide +kernel) (by decide +kernel)
set_option maxRecDepth 100000 in
theorem gw462 : Jvm.Cond.methodLink "LeftAnswersModel" 225 ⟨"LeftAnswersModel", "begin", "(I)V"⟩ ∈ gtb := gtb_in (i := 1637) (by decide +kernel) (by decide +kernel)
set_option maxRecDepth 100000 in
theorem gw463 : Jvm.Cond.selects "LeftAnswersModel" ⟨"LeftAnswersModel", "begin", "(I)V"⟩ ⟨"LeftAnswersModel", "begin", "(I)V"⟩ ∈ gtb := gtb_in (i := 50) (by decide +kernel) (by decide +kernel)
set_option maxRecDepth 100000 in
theorem gw464 : Jvm.Cond.code ⟨"LeftAnswersModel", "begin", "(I)V"⟩ prog_15_method_25_code 2 none ∈ gtb := gtb_in (i := 1640) (by decide +kernel) (by decide +kernel)
set_option maxRecDepth 100000 in
theorem gw465 : Jvm.Cond.instanceMethod ⟨"LeftAnswersModel", "begin", "(I)V"⟩ ∈ gtb := gtb_in (i := 1639) (by decide +kernel) (by decide +kernel)
set_option maxRecDepth 100000 in
theorem gw466 : Jvm.Cond.fieldLink "LeftAnswersModel" 398 "LeftAnswersModel" "lineMany" "I" ∈ gtb := gtb_in (i := 1520) (by decide +kernel) (by decide +kernel)
set_option maxRecDepth 100000 in
theorem gw467 : Jvm.Cond.methodLink "LeftAnswersModel" 383 ⟨"LeftAnswersModel", "layAside", "()V"⟩ ∈ gtb := gtb_in (i := 2013) (by decide +kernel) (by decide +kernel)
set_option maxRecDepth 100000 in
theorem gw468 : Jvm.Cond.selects "LeftAnswersModel" ⟨"LeftAnswersModel", "layAside", "()V"⟩ ⟨"LeftAnswersModel", "layAside", "()V"⟩ ∈ gtb := gtb_in (i := 106) (by decide +kernel) (by decide +kernel)
set_option maxRecDepth 100000 in
theorem gw469 : Jvm.Cond.code ⟨"LeftAnswersModel", "layAside", "()V"⟩ prog_15_method_104_code 2 none ∈ gtb := gtb_in (i := 2016) (by decide +kernel) (by decide +kernel)
set_option maxRecDepth 100000 in
theorem gw470 : Jvm.Cond.instanceMethod ⟨"LeftAnswersModel", "layAside", "()V"⟩ ∈ gtb := gtb_in (i := 2015) (by decide +kernel) (by decide +kernel)
set_option maxRecDepth 100000 in
theorem gw471 : Jvm.Cond.methodLink "LeftAnswersModel" 259 ⟨"LeftAnswersModel", "jailed", "()I"⟩ ∈ gtb := gtb_in (i := 1796) (by decide +kernel) (by decide +kernel)
set_option maxRecDepth 100000 in
theorem gw472 : Jvm.Cond.selects "LeftAnswersModel" ⟨"LeftAnswersModel", "jailed", "()I"⟩ ⟨"LeftAnswersModel", "jailed", "()I"⟩ ∈ gtb := gtb_in (i := 79) (by decide +kernel) (by decide +kernel)
set_option maxRecDepth 100000 in
theorem gw473 : Jvm.Cond.code ⟨"LeftAnswersModel", "jailed", "()I"⟩ prog_15_method_55_code 3 (some .int) ∈ gtb := gtb_in (i := 1799) (by decide +kernel) (by decide +kernel)
set_option maxRecDepth 100000 in
theorem gw474 : Jvm.Cond.instanceMethod ⟨"LeftAnswersModel", "jailed", "()I"⟩ ∈ gtb := gtb_in (i := 1798) (by decide +kernel) (by decide +kernel)
set_option maxRecDepth 100000 in
theorem gw475 : Jvm.Cond.fieldLink "LeftAnswersModel" 410 "LeftAnswersModel" "hasWritten" "Z" ∈ gtb := gtb_in (i := 1521) (by decide +kernel) (by decide +kernel)
set_option maxRecDepth 100000 in
theorem gw476 : Jvm.Cond.methodLink "LeftAnswersModel" 413 ⟨"LeftAnswersModel", "stay", "(Z)V"⟩ ∈ gtb := gtb_in (i := 2049) (by decide +kernel) (by decide +kernel)
set_option maxRecDepth 100000 in
theorem gw477 : Jvm.Cond.selects "LeftAnswersModel" ⟨"LeftAnswersModel", "stay", "(Z)V"⟩ ⟨"LeftAnswersModel", "stay", "(Z)V"⟩ ∈ gtb := gtb_in (i := 114) (by decide +kernel) (by decide +kernel)
set_option maxRecDepth 100000 in
theorem gw478 : Jvm.Cond.code ⟨"LeftAnswersModel", "stay", "(Z)V"⟩ prog_15_method_114_code 4 none ∈ gtb := gtb_in (i := 2052) (by decide +kernel) (by decide +kernel)
set_option maxRecDepth 100000 in
theorem gw479 : Jvm.Cond.instanceMethod ⟨"LeftAnswersModel", "stay", "(Z)V"⟩ ∈ gtb := gtb_in (i := 2051) (by decide +kernel) (by decide +kernel)
set_option maxRecDepth 100000 in
theorem gw480 : Jvm.Cond.fieldLink "LeftAnswersModel" 354 "LeftAnswersModel" "texts" "I" ∈ gtb := gtb_in (i := 1516) (by decide +kernel) (by decide +kernel)
set_option maxRecDepth 100000 in
theorem gw481 : Jvm.Cond.fieldLink "LeftAnswersModel" 11 "LeftAnswersModel" "taped" "I" ∈ gtb := gtb_in (i := 1477) (by decide +kernel) (by decide +kernel)
set_option maxRecDepth 100000 in
theorem gw482 : Jvm.Cond.methodLink "LeftAnswersModel" 285 ⟨"LeftAnswersModel", "snap", "()V"⟩ ∈ gtb := gtb_in (i := 1827) (by decide +kernel) (by decide +kernel)
set_option maxRecDepth 100000 in
theorem gw483 : Jvm.Cond.selects "LeftAnswersModel" ⟨"LeftAnswersModel", "snap", "()V"⟩ ⟨"LeftAnswersModel", "snap", "()V"⟩ ∈ gtb := gtb_in (i := 85) (by decide +kernel) (by decide +kernel)
set_option maxRecDepth 100000 in
theorem gw484 : Jvm.Cond.code ⟨"LeftAnswersModel", "snap", "()V"⟩ prog_15_method_57_code 2 none ∈ gtb := gtb_in (i := 1830) (by decide +kernel) (by decide +kernel)
set_option maxRecDepth 100000 in
theorem gw485 : Jvm.Cond.instanceMethod ⟨"LeftAnswersModel", "snap", "()V"⟩ ∈ gtb := gtb_in (i := 1829) (by decide +kernel) (by decide +kernel)
set_option maxRecDepth 100000 in
theorem gw486 : Jvm.Cond.methodLink "LeftAnswersModel" 299 ⟨"LeftAnswersModel", "passDays", "(I)I"⟩ ∈ gtb := gtb_in (i := 1866) (by decide +kernel) (by decide +kernel)
set_option maxRecDepth 100000 in
theorem gw487 : Jvm.Cond.selects "LeftAnswersModel" ⟨"LeftAnswersModel", "passDays", "(I)I"⟩ ⟨"LeftAnswersModel", "passDays", "(I)I"⟩ ∈ gtb := gtb_in (i := 88) (by decide +kernel) (by decide +kernel)
set_option maxRecDepth 100000 in
theorem gw488 : Jvm.Cond.code ⟨"LeftAnswersModel", "passDays", "(I)I"⟩ prog_15_method_71_code 4 (some .int) ∈ gtb := gtb_in (i := 1869) (by decide +kernel) (by decide +kernel)
set_option maxRecDepth 100000 in
theorem gw489 : Jvm.Cond.instanceMethod ⟨"LeftAnswersModel", "passDays", "(I)I"⟩ ∈ gtb := gtb_in (i := 1868) (by decide +kernel) (by decide +kernel)
set_option maxRecDepth 100000 in
theorem gw490 : Jvm.Cond.methodLink "LeftAnswersModel" 256 ⟨"LeftAnswersModel", "isDeed", "(I)Z"⟩ ∈ gtb := gtb_in (i := 1788) (by decide +kernel) (by decide +kernel)
set_option maxRecDepth 100000 in
theorem gw491 : Jvm.Cond.selects "LeftAnswersModel" ⟨"LeftAnswersModel", "isDeed", "(I)Z"⟩ ⟨"LeftAnswersModel", "isDeed", "(I)Z"⟩ ∈ gtb := gtb_in (i := 78) (by decide +kernel) (by decide +kernel)
set_option maxRecDepth 100000 in
theorem gw492 : Jvm.Cond.code ⟨"LeftAnswersModel", "isDeed", "(I)Z"⟩ prog_15_method_44_code 2 (some .boolean) ∈ gtb := gtb_in (i := 1791) (by decide +kernel) (by decide +kernel)
set_option maxRecDepth 100000 in
theorem gw493 : Jvm.Cond.instanceMethod ⟨"LeftAnswersModel", "isDeed", "(I)Z"⟩ ∈ gtb := gtb_in (i := 1790) (by decide +kernel) (by decide +kernel)
set_option maxRecDepth 100000 in
theorem gw494 : Jvm.Cond.fieldLink "LeftAnswersModel" 234 "LeftAnswersModel" "snapMany" "I" ∈ gtb := gtb_in (i := 1499) (by decide +kernel) (by decide +kernel)
set_option maxRecDepth 100000 in
theorem gw495 : Jvm.Cond.methodLink "LeftAnswersModel" 14 ⟨"LeftAnswersModel", "come", "(I)V"⟩ ∈ gtb := gtb_in (i := 1457) (by decide +kernel) (by decide +kernel)
set_option maxRecDepth 100000 in
theorem gw496 : Jvm.Cond.selects "LeftAnswersModel" ⟨"LeftAnswersModel", "come", "(I)V"⟩ ⟨"LeftAnswersModel", "come", "(I)V"⟩ ∈ gtb := gtb_in (i := 48) (by decide +kernel) (by decide +kernel)
set_option maxRecDepth 100000 in
theorem gw497 : Jvm.Cond.code ⟨"LeftAnswersModel", "come", "(I)V"⟩ prog_15_method_3_code 3 none ∈ gtb := gtb_in (i := 1461) (by decide +kernel) (by decide +kernel)
set_option maxRecDepth 100000 in
theorem gw498 : Jvm.Cond.instanceMethod ⟨"LeftAnswersModel", "come", "(I)V"⟩ ∈ gtb := gtb_in (i := 1459) (by decide +kernel) (by decide +kernel)
set_option maxRecDepth 100000 in
theorem gw499 : Jvm.Cond.fieldLink "LeftAnswersModel" 322 "LeftAnswersModel" "fitMany" "I" ∈ gtb := gtb_in (i := 1507) (by decide +kernel) (by decide +kernel)
set_option maxRecDepth 100000 in
theorem gw500 : Jvm.Cond.methodLink "LeftAnswersModel" 207 ⟨"LeftAnswersModel", "has", "(II)Z"⟩ ∈ gtb := gtb_in (i := 1729) (by decide +kernel) (by decide +kernel)
set_option maxRecDepth 100000 in
theorem gw501 : Jvm.Cond.code ⟨"LeftAnswersModel", "has", "(II)Z"⟩ prog_15_method_8_code 2 (some .boolean) ∈ gtb := gtb_in (i := 1731) (by decide +kernel) (by decide +kernel)
set_option maxRecDepth 100000 in
theorem gw502 : Jvm.Cond.static ⟨"LeftAnswersModel", "has", "(II)Z"⟩ ∈ gtb := gtb_in (i := 1730) (by decide +kernel) (by decide +kernel)
set_option maxRecDepth 100000 in
theorem gw503 : Jvm.Cond.methodLink "LeftAnswersModel" 328 ⟨"LeftAnswersModel", "bits", "(I)I"⟩ ∈ gtb := gtb_in (i := 1929) (by decide +kernel) (by decide +kernel)
set_option maxRecDepth 100000 in
theorem gw504 : Jvm.Cond.code ⟨"LeftAnswersModel", "bits", "(I)I"⟩ prog_15_method_9_code 3 (some .int) ∈ gtb := gtb_in (i := 1931) (by decide +kernel) (by decide +kernel)
set_option maxRecDepth 100000 in
theorem gw505 : Jvm.Cond.static ⟨"LeftAnswersModel", "bits", "(I)I"⟩ ∈ gtb := gtb_in (i := 1930) (by decide +kernel) (by decide +kernel)
set_option maxRecDepth 100000 in
theorem gw506 : Jvm.Cond.methodLink "LeftAnswersModel" 237 ⟨"LeftAnswersModel", "isJailed", "(I)Z"⟩ ∈ gtb := gtb_in (i := 1772) (by decide +kernel) (by decide +kernel)
set_option maxRecDepth 100000 in
theorem gw507 : Jvm.Cond.selects "LeftAnswersModel" ⟨"LeftAnswersModel", "isJailed", "(I)Z"⟩ ⟨"LeftAnswersModel", "isJailed", "(I)Z"⟩ ∈ gtb := gtb_in (i := 76) (by decide +kernel) (by decide +kernel)
set_option maxRecDepth 100000 in
theorem gw508 : Jvm.Cond.code ⟨"LeftAnswersModel", "isJailed", "(I)Z"⟩ prog_15_method_45_code 2 (some .boolean) ∈ gtb := gtb_in (i := 1775) (by decide +kernel) (by decide +kernel)
set_option maxRecDepth 100000 in
theorem gw509 : Jvm.Cond.instanceMethod ⟨"LeftAnswersModel", "isJailed", "(I)Z"⟩ ∈ gtb := gtb_in (i := 1774) (by decide +kernel) (by decide +kernel)
set_option maxRecDepth 100000 in
theorem gw510 : Jvm.Cond.methodLink "LeftAnswersModel" 262 ⟨"LeftAnswersModel", "isWed", "(I)Z"⟩ ∈ gtb := gtb_in (i := 1800) (by decide +kernel) (by decide +kernel)
set_option maxRecDepth 100000 in
theorem gw511 : Jvm.Cond.selects "LeftAnswersModel" ⟨"LeftAnswersModel", "isWed", "(I)Z"⟩ ⟨"LeftAnswersModel", "isWed", "(I)Z"⟩ ∈ gtb := gtb_in (i := 80) (by decide +kernel) (by decide +kernel)
set_option maxRecDepth 100000 in
theorem gw512 : Jvm.Cond.code ⟨"LeftAnswersModel", "isWed", "(I)Z"⟩ prog_15_method_47_code 2 (some .boolean) ∈ gtb := gtb_in (i := 1803) (by decide +kernel) (by decide +kernel)
set_option maxRecDepth 100000 in
theorem gw513 : Jvm.Cond.instanceMethod ⟨"LeftAnswersModel", "isWed", "(I)Z"⟩ ∈ gtb := gtb_in (i := 1802) (by decide +kernel) (by decide +kernel)
set_option maxRecDepth 100000 in
theorem gw514 : Jvm.Cond.methodLink "LeftAnswersModel" 265 ⟨"LeftAnswersModel", "sum", "(II)I"⟩ ∈ gtb := gtb_in (i := 1804) (by decide +kernel) (by decide +kernel)
set_option maxRecDepth 100000 in
theorem gw515 : Jvm.Cond.selects "LeftAnswersModel" ⟨"LeftAnswersModel", "sum", "(II)I"⟩ ⟨"LeftAnswersModel", "sum", "(II)I"⟩ ∈ gtb := gtb_in (i := 81) (by decide +kernel) (by decide +kernel)
set_option maxRecDepth 100000 in
theorem gw516 : Jvm.Cond.code ⟨"LeftAnswersModel", "sum", "(II)I"⟩ prog_15_method_51_code 5 (some .int) ∈ gtb := gtb_in (i := 1807) (by decide +kernel) (by decide +kernel)
set_option maxRecDepth 100000 in
theorem gw517 : Jvm.Cond.instanceMethod ⟨"LeftAnswersModel", "sum", "(II)I"⟩ ∈ gtb := gtb_in (i := 1806) (by decide +kernel) (by decide +kernel)
set_option maxRecDepth 100000 in
theorem gw518 : Jvm.Cond.fieldLink "LeftAnswersModel" 311 "LeftAnswersModel" "partMany" "I" ∈ gtb := gtb_in (i := 1504) (by decide +kernel) (by decide +kernel)
set_option maxRecDepth 100000 in
theorem gw519 : Jvm.Cond.methodLink "LeftAnswersModel" 275 ⟨"LeftAnswersModel", "least", "(II)I"⟩ ∈ gtb := gtb_in (i := 1839) (by decide +kernel) (by decide +kernel)
set_option maxRecDepth 100000 in
theorem gw520 : Jvm.Cond.code ⟨"LeftAnswersModel", "least", "(II)I"⟩ prog_15_method_10_code 2 (some .int) ∈ gtb := gtb_in (i := 1841) (by decide +kernel) (by decide +kernel)
set_option maxRecDepth 100000 in
theorem gw521 : Jvm.Cond.static ⟨"LeftAnswersModel", "least", "(II)I"⟩ ∈ gtb := gtb_in (i := 1840) (by decide +kernel) (by decide +kernel)
set_option maxRecDepth 100000 in
theorem gw522 : Jvm.Cond.methodLink "LeftAnswersModel" 296 ⟨"LeftAnswersModel", "oneDay", "()V"⟩ ∈ gtb := gtb_in (i := 1870) (by decide +kernel) (by decide +kernel)
set_option maxRecDepth 100000 in
theorem gw523 : Jvm.Cond.selects "LeftAnswersModel" ⟨"LeftAnswersModel", "oneDay", "()V"⟩ ⟨"LeftAnswersModel", "oneDay", "()V"⟩ ∈ gtb := gtb_in (i := 89) (by decide +kernel) (by decide +kernel)
set_option maxRecDepth 100000 in
theorem gw524 : Jvm.Cond.code ⟨"LeftAnswersModel", "oneDay", "()V"⟩ prog_15_method_70_code 3 none ∈ gtb := gtb_in (i := 1873) (by decide +kernel) (by decide +kernel)
set_option maxRecDepth 100000 in
theorem gw525 : Jvm.Cond.instanceMethod ⟨"LeftAnswersModel", "oneDay", "()V"⟩ ∈ gtb := gtb_in (i := 1872) (by decide +kernel) (by decide +kernel)
set_option maxRecDepth 100000 in
theorem gw526 : Jvm.Cond.methodLink "LeftAnswersModel" 243 ⟨"LeftAnswersModel", "refuse", "()I"⟩ ∈ gtb := gtb_in (i := 1760) (by decide +kernel) (by decide +kernel)
set_option maxRecDepth 100000 in
theorem gw527 : Jvm.Cond.selects "LeftAnswersModel" ⟨"LeftAnswersModel", "refuse", "()I"⟩ ⟨"LeftAnswersModel", "refuse", "()I"⟩ ∈ gtb := gtb_in (i := 73) (by decide +kernel) (by decide +kernel)
set_option maxRecDepth 100000 in
theorem gw528 : Jvm.Cond.code ⟨"LeftAnswersModel", "refuse", "()I"⟩ prog_15_method_2_code 1 (some .int) ∈ gtb := gtb_in (i := 1763) (by decide +kernel) (by decide +kernel)
set_option maxRecDepth 100000 in
theorem gw529 : Jvm.Cond.instanceMethod ⟨"LeftAnswersModel", "refuse", "()I"⟩ ∈ gtb := gtb_in (i := 1762) (by decide +kernel) (by decide +kernel)
set_option maxRecDepth 100000 in
theorem gw530 : Jvm.Cond.methodLink "LeftAnswersModel" 429 ⟨"LeftAnswersModel", "readSaid", "()Z"⟩ ∈ gtb := gtb_in (i := 2069) (by decide +kernel) (by decide +kernel)
set_option maxRecDepth 100000 in
theorem gw531 : Jvm.Cond.selects "LeftAnswersModel" ⟨"LeftAnswersModel", "readSaid", "()Z"⟩ ⟨"LeftAnswersModel", "readSaid", "()Z"⟩ ∈ gtb := gtb_in (i := 117) (by decide +kernel) (by decide +kernel)
set_option maxRecDepth 100000 in
theorem gw532 : Jvm.Cond.code ⟨"LeftAnswersModel", "readSaid", "()Z"⟩ prog_15_method_119_code 4 (some .boolean) ∈ gtb := gtb_in (i := 2072) (by decide +kernel) (by decide +kernel)
set_option maxRecDepth 100000 in
theorem gw533 : Jvm.Cond.instanceMethod ⟨"LeftAnswersModel", "readSaid", "()Z"⟩ ∈ gtb := gtb_in (i := 2071) (by decide +kernel) (by decide +kernel)
set_option maxRecDepth 100000 in
theorem gw534 : Jvm.Cond.methodLink "LeftAnswersModel" 420 ⟨"LeftAnswersModel", "readAnd", "()Z"⟩ ∈ gtb := gtb_in (i := 2065) (by decide +kernel) (by decide +kernel)
set_option maxRecDepth 100000 in
theorem gw535 : Jvm.Cond.selects "LeftAnswersModel" ⟨"LeftAnswersModel", "readAnd", "()Z"⟩ ⟨"LeftAnswersModel", "readAnd", "()Z"⟩ ∈ gtb := gtb_in (i := 116) (by decide +kernel) (by decide +kernel)
set_option maxRecDepth 100000 in
theorem gw536 : Jvm.Cond.code ⟨"LeftAnswersModel", "readAnd", "()Z"⟩ prog_15_method_118_code 2 (some .boolean) ∈ gtb := gtb_in (i := 2068) (by decide +kernel) (by decide +kernel)
set_option maxRecDepth 100000 in
theorem gw537 : Jvm.Cond.instanceMethod ⟨"LeftAnswersModel", "readAnd", "()Z"⟩ ∈ gtb := gtb_in (i := 2067) (by decide +kernel) (by decide +kernel)
set_option maxRecDepth 100000 in
theorem gw538 : Jvm.Cond.methodLink "LeftAnswersModel" 86 ⟨"LeftAnswersModel", "isSign", "(I)Z"⟩ ∈ gtb := gtb_in (i := 1744) (by decide +kernel) (by decide +kernel)
set_option maxRecDepth 100000 in
theorem gw539 : Jvm.Cond.selects "LeftAnswersModel" ⟨"LeftAnswersModel", "isSign", "(I)Z"⟩ ⟨"LeftAnswersModel", "isSign", "(I)Z"⟩ ∈ gtb := gtb_in (i := 71) (by decide +kernel) (by decide +kernel)
set_option maxRecDepth 100000 in
theorem gw540 : Jvm.Cond.code ⟨"LeftAnswersModel", "isSign", "(I)Z"⟩ prog_15_method_20_code 2 (some .boolean) ∈ gtb := gtb_in (i := 1747) (by decide +kernel) (by decide +kernel)
set_option maxRecDepth 100000 in
theorem gw541 : Jvm.Cond.instanceMethod ⟨"LeftAnswersModel", "isSign", "(I)Z"⟩ ∈ gtb := gtb_in (i := 1746) (by decide +kernel) (by decide +kernel)
set_option maxRecDepth 100000 in
theorem gw542 : Jvm.Cond.methodLink "LeftAnswersModel" 180 ⟨"LeftAnswersModel", "isWord", "(I)Z"⟩ ∈ gtb := gtb_in (i := 1665) (by decide +kernel) (by decide +kernel)
set_option maxRecDepth 100000 in
theorem gw543 : Jvm.Cond.selects "LeftAnswersModel" ⟨"LeftAnswersModel", "isWord", "(I)Z"⟩ ⟨"LeftAnswersModel", "isWord", "(I)Z"⟩ ∈ gtb := gtb_in (i := 55) (by decide +kernel) (by decide +kernel)
set_option maxRecDepth 100000 in
theorem gw544 : Jvm.Cond.code ⟨"LeftAnswersModel", "isWord", "(I)Z"⟩ prog_15_method_19_code 2 (some .boolean) ∈ gtb := gtb_in (i := 1668) (by decide +kernel) (by decide +kernel)
set_option maxRecDepth 100000 in
theorem gw545 : Jvm.Cond.instanceMethod ⟨"LeftAnswersModel", "isWord", "(I)Z"⟩ ∈ gtb := gtb_in (i := 1667) (by decide +kernel) (by decide +kernel)
set_option maxRecDepth 100000 in
theorem gw546 : Jvm.Cond.methodLink "LeftAnswersModel" 72 ⟨"LeftAnswersModel", "bad", "(I)Z"⟩ ∈ gtb := gtb_in (i := 1683) (by decide +kernel) (by decide +kernel)
set_option maxRecDepth 100000 in
theorem gw547 : Jvm.Cond.selects "LeftAnswersModel" ⟨"LeftAnswersModel", "bad", "(I)Z"⟩ ⟨"LeftAnswersModel", "bad", "(I)Z"⟩ ∈ gtb := gtb_in (i := 58) (by decide +kernel) (by decide +kernel)
set_option maxRecDepth 100000 in
theorem gw548 : Jvm.Cond.code ⟨"LeftAnswersModel", "bad", "(I)Z"⟩ prog_15_method_22_code 2 (some .boolean) ∈ gtb := gtb_in (i := 1686) (by decide +kernel) (by decide +kernel)
set_option maxRecDepth 100000 in
theorem gw549 : Jvm.Cond.instanceMethod ⟨"LeftAnswersModel", "bad", "(I)Z"⟩ ∈ gtb := gtb_in (i := 1685) (by decide +kernel) (by decide +kernel)
set_option maxRecDepth 100000 in
theorem gw550 : Jvm.Cond.fieldLink "LeftAnswersModel" 417 "LeftAnswersModel" "nodes" "I" ∈ gtb := gtb_in (i := 1523) (by decide +kernel) (by decide +kernel)
set_option maxRecDepth 100000 in
theorem gw551 : Jvm.Cond.fieldLink "LeftAnswersModel" 432 "LeftAnswersModel" "onesMany" "I" ∈ gtb := gtb_in (i := 1524) (by decide +kernel) (by decide +kernel)
set_option maxRecDepth 100000 in
theorem gw552 : Jvm.Cond.fieldLink "LeftAnswersModel" 435 "LeftAnswersModel" "within" "I" ∈ gtb := gtb_in (i := 1525) (by decide +kernel) (by decide +kernel)
set_option maxRecDepth 100000 in
theorem gw553 : Jvm.Cond.methodLink "LeftAnswersModel" 450 ⟨"LeftAnswersModel", "readOr", "()Z"⟩ ∈ gtb := gtb_in (i := 2061) (by decide +kernel) (by decide +kernel)
set_option maxRecDepth 100000 in
theorem gw554 : Jvm.Cond.selects "LeftAnswersModel" ⟨"LeftAnswersModel", "readOr", "()Z"⟩ ⟨"LeftAnswersModel", "readOr", "()Z"⟩ ∈ gtb := gtb_in (i := 115) (by decide +kernel) (by decide +kernel)
set_option maxRecDepth 100000 in
theorem gw555 : Jvm.Cond.code ⟨"LeftAnswersModel", "readOr", "()Z"⟩ prog_15_method_117_code 2 (some .boolean) ∈ gtb := gtb_in (i := 2064) (by decide +kernel) (by decide +kernel)
set_option maxRecDepth 100000 in
theorem gw556 : Jvm.Cond.instanceMethod ⟨"LeftAnswersModel", "readOr", "()Z"⟩ ∈ gtb := gtb_in (i := 2063) (by decide +kernel) (by decide +kernel)
set_option maxRecDepth 100000 in
theorem gw557 : Jvm.Cond.constant "java/lang/Integer" 265 1431655765 ∈ gtb := gtb_in (i := 1015) (by decide +kernel) (by decide +kernel)
set_option maxRecDepth 100000 in
theorem gw558 : Jvm.Cond.constant "java/lang/Integer" 266 858993459 ∈ gtb := gtb_in (i := 1016) (by decide +kernel) (by decide +kernel)
set_option maxRecDepth 100000 in
theorem gw559 : Jvm.Cond.constant "java/lang/Integer" 267 252645135 ∈ gtb := gtb_in (i := 1017) (by decide +kernel) (by decide +kernel)
set_option maxRecDepth 100000 in
theorem gw560 : Jvm.Cond.classLink "LeftAnswersLaw" 8 "LeftAnswers" ∈ gtb := gtb_in (i := 151) (by decide +kernel) (by decide +kernel)
set_option maxRecDepth 100000 in
theorem gw561 : Jvm.Cond.instantiable "LeftAnswers" 17 ∈ gtb := gtb_in (i := 152) (by decide +kernel) (by decide +kernel)
set_option maxRecDepth 100000 in
theorem gw562 : Jvm.Cond.methodLink "LeftAnswersLaw" 15 ⟨"LeftAnswers", "<init>", "()V"⟩ ∈ gtb := gtb_in (i := 153) (by decide +kernel) (by decide +kernel)
set_option maxRecDepth 100000 in
theorem gw563 : Jvm.Cond.code ⟨"LeftAnswers", "<init>", "()V"⟩ prog_1_method_1_code 1 none ∈ gtb := gtb_in (i := 155) (by decide +kernel) (by decide +kernel)
set_option maxRecDepth 100000 in
theorem gw564 : Jvm.Cond.instanceMethod ⟨"LeftAnswers", "<init>", "()V"⟩ ∈ gtb := gtb_in (i := 154) (by decide +kernel) (by decide +kernel)
set_option maxRecDepth 100000 in
theorem gw565 : Jvm.Cond.classLink "LeftAnswersLaw" 16 "LeftAnswersModel" ∈ gtb := gtb_in (i := 1466) (by decide +kernel) (by decide +kernel)
set_option maxRecDepth 100000 in
theorem gw566 : Jvm.Cond.instantiable "LeftAnswersModel" 52 ∈ gtb := gtb_in (i := 1460) (by decide +kernel) (by decide +kernel)
set_option maxRecDepth 100000 in
theorem gw567 : Jvm.Cond.methodLink "LeftAnswersLaw" 18 ⟨"LeftAnswersModel", "<init>", "()V"⟩ ∈ gtb := gtb_in (i := 1467) (by decide +kernel) (by decide +kernel)
set_option maxRecDepth 100000 in
theorem gw568 : Jvm.Cond.code ⟨"LeftAnswersModel", "<init>", "()V"⟩ prog_15_method_26_code 1 none ∈ gtb := gtb_in (i := 1469) (by decide +kernel) (by decide +kernel)
set_option maxRecDepth 100000 in
theorem gw569 : Jvm.Cond.instanceMethod ⟨"LeftAnswersModel", "<init>", "()V"⟩ ∈ gtb := gtb_in (i := 1468) (by decide +kernel) (by decide +kernel)
set_option maxRecDepth 100000 in
theorem gw570 : Jvm.Cond.methodLink "LeftAnswersLaw" 19 ⟨"LeftAnswers", "feed", "(IIIII)I"⟩ ∈ gtb := gtb_in (i := 606) (by decide +kernel) (by decide +kernel)
set_option maxRecDepth 100000 in
theorem gw571 : Jvm.Cond.selects "LeftAnswers" ⟨"LeftAnswers", "feed", "(IIIII)I"⟩ ⟨"LeftAnswers", "feed", "(IIIII)I"⟩ ∈ gtb := gtb_in (i := 608) (by decide +kernel) (by decide +kernel)
set_option maxRecDepth 100000 in
theorem gw572 : Jvm.Cond.code ⟨"LeftAnswers", "feed", "(IIIII)I"⟩ prog_1_method_2_code 6 (some .int) ∈ gtb := gtb_in (i := 609) (by decide +kernel) (by decide +kernel)
set_option maxRecDepth 100000 in
theorem gw573 : Jvm.Cond.instanceMethod ⟨"LeftAnswers", "feed", "(IIIII)I"⟩ ∈ gtb := gtb_in (i := 607) (by decide +kernel) (by decide +kernel)
set_option maxRecDepth 100000 in
theorem gw574 : Jvm.Cond.methodLink "LeftAnswersLaw" 23 ⟨"LeftAnswersModel", "feed", "(IIIII)I"⟩ ∈ gtb := gtb_in (i := 1453) (by decide +kernel) (by decide +kernel)
set_option maxRecDepth 100000 in
theorem gw575 : Jvm.Cond.selects "LeftAnswersModel" ⟨"LeftAnswersModel", "feed", "(IIIII)I"⟩ ⟨"LeftAnswersModel", "feed", "(IIIII)I"⟩ ∈ gtb := gtb_in (i := 1455) (by decide +kernel) (by decide +kernel)
set_option maxRecDepth 100000 in
theorem gw576 : Jvm.Cond.code ⟨"LeftAnswersModel", "feed", "(IIIII)I"⟩ prog_15_method_4_code 6 (some .int) ∈ gtb := gtb_in (i := 1456) (by decide +kernel) (by decide +kernel)
set_option maxRecDepth 100000 in
theorem gw577 : Jvm.Cond.instanceMethod ⟨"LeftAnswersModel", "feed", "(IIIII)I"⟩ ∈ gtb := gtb_in (i := 1454) (by decide +kernel) (by decide +kernel)
set_option maxRecDepth 100000 in
theorem gw578 : Jvm.Cond.methodLink "LeftAnswersLaw" 24 ⟨"LeftAnswers", "end", "(I)Z"⟩ ∈ gtb := gtb_in (i := 614) (by decide +kernel) (by decide +kernel)
set_option maxRecDepth 100000 in
theorem gw579 : Jvm.Cond.selects "LeftAnswers" ⟨"LeftAnswers", "end", "(I)Z"⟩ ⟨"LeftAnswers", "end", "(I)Z"⟩ ∈ gtb := gtb_in (i := 616) (by decide +kernel) (by decide +kernel)
set_option maxRecDepth 100000 in
theorem gw580 : Jvm.Cond.code ⟨"LeftAnswers", "end", "(I)Z"⟩ prog_1_method_3_code 2 (some .boolean) ∈ gtb := gtb_in (i := 617) (by decide +kernel) (by decide +kernel)
set_option maxRecDepth 100000 in
theorem gw581 : Jvm.Cond.instanceMethod ⟨"LeftAnswers", "end", "(I)Z"⟩ ∈ gtb := gtb_in (i := 615) (by decide +kernel) (by decide +kernel)
set_option maxRecDepth 100000 in
theorem gw582 : Jvm.Cond.methodLink "LeftAnswersLaw" 28 ⟨"LeftAnswersModel", "end", "(I)Z"⟩ ∈ gtb := gtb_in (i := 1462) (by decide +kernel) (by decide +kernel)
set_option maxRecDepth 100000 in
theorem gw583 : Jvm.Cond.selects "LeftAnswersModel" ⟨"LeftAnswersModel", "end", "(I)Z"⟩ ⟨"LeftAnswersModel", "end", "(I)Z"⟩ ∈ gtb := gtb_in (i := 1464) (by decide +kernel) (by decide +kernel)
set_option maxRecDepth 100000 in
theorem gw584 : Jvm.Cond.code ⟨"LeftAnswersModel", "end", "(I)Z"⟩ prog_15_method_5_code 2 (some .boolean) ∈ gtb := gtb_in (i := 1465) (by decide +kernel) (by decide +kernel)
set_option maxRecDepth 100000 in
theorem gw585 : Jvm.Cond.instanceMethod ⟨"LeftAnswersModel", "end", "(I)Z"⟩ ∈ gtb := gtb_in (i := 1463) (by decide +kernel) (by decide +kernel)
set_option maxRecDepth 100000 in
theorem gw586 : Jvm.Cond.methodLink "LeftAnswersLaw" 29 ⟨"LeftAnswers", "duchy", "()I"⟩ ∈ gtb := gtb_in (i := 618) (by decide +kernel) (by decide +kernel)
set_option maxRecDepth 100000 in
theorem gw587 : Jvm.Cond.selects "LeftAnswers" ⟨"LeftAnswers", "duchy", "()I"⟩ ⟨"LeftAnswers", "duchy", "()I"⟩ ∈ gtb := gtb_in (i := 620) (by decide +kernel) (by decide +kernel)
set_option maxRecDepth 100000 in
theorem gw588 : Jvm.Cond.code ⟨"LeftAnswers", "duchy", "()I"⟩ prog_1_method_4_code 3 (some .int) ∈ gtb := gtb_in (i := 621) (by decide +kernel) (by decide +kernel)
set_option maxRecDepth 100000 in
theorem gw589 : Jvm.Cond.instanceMethod ⟨"LeftAnswers", "duchy", "()I"⟩ ∈ gtb := gtb_in (i := 619) (by decide +kernel) (by decide +kernel)
set_option maxRecDepth 100000 in
theorem gw590 : Jvm.Cond.methodLink "LeftAnswersLaw" 33 ⟨"LeftAnswersModel", "duchy", "()I"⟩ ∈ gtb := gtb_in (i := 1633) (by decide +kernel) (by decide +kernel)
set_option maxRecDepth 100000 in
theorem gw591 : Jvm.Cond.selects "LeftAnswersModel" ⟨"LeftAnswersModel", "duchy", "()I"⟩ ⟨"LeftAnswersModel", "duchy", "()I"⟩ ∈ gtb := gtb_in (i := 1635) (by decide +kernel) (by decide +kernel)
set_option maxRecDepth 100000 in
theorem gw592 : Jvm.Cond.code ⟨"LeftAnswersModel", "duchy", "()I"⟩ prog_15_method_41_code 3 (some .int) ∈ gtb := gtb_in (i := 1636) (by decide +kernel) (by decide +kernel)
set_option maxRecDepth 100000 in
theorem gw593 : Jvm.Cond.instanceMethod ⟨"LeftAnswersModel", "duchy", "()I"⟩ ∈ gtb := gtb_in (i := 1634) (by decide +kernel) (by decide +kernel)
set_option maxRecDepth 100000 in
theorem gw594 : Jvm.Cond.methodLink "LeftAnswersLaw" 34 ⟨"LeftAnswers", "fault", "()I"⟩ ∈ gtb := gtb_in (i := 758) (by decide +kernel) (by decide +kernel)
set_option maxRecDepth 100000 in
theorem gw595 : Jvm.Cond.selects "LeftAnswers" ⟨"LeftAnswers", "fault", "()I"⟩ ⟨"LeftAnswers", "fault", "()I"⟩ ∈ gtb := gtb_in (i := 760) (by decide +kernel) (by decide +kernel)
set_option maxRecDepth 100000 in
theorem gw596 : Jvm.Cond.code ⟨"LeftAnswers", "fault", "()I"⟩ prog_1_method_5_code 1 (some .int) ∈ gtb := gtb_in (i := 761) (by decide +kernel) (by decide +kernel)
set_option maxRecDepth 100000 in
theorem gw597 : Jvm.Cond.instanceMethod ⟨"LeftAnswers", "fault", "()I"⟩ ∈ gtb := gtb_in (i := 759) (by decide +kernel) (by decide +kernel)
set_option maxRecDepth 100000 in
theorem gw598 : Jvm.Cond.methodLink "LeftAnswersLaw" 37 ⟨"LeftAnswersModel", "fault", "()I"⟩ ∈ gtb := gtb_in (i := 1748) (by decide +kernel) (by decide +kernel)
set_option maxRecDepth 100000 in
theorem gw599 : Jvm.Cond.selects "LeftAnswersModel" ⟨"LeftAnswersModel", "fault", "()I"⟩ ⟨"LeftAnswersModel", "fault", "()I"⟩ ∈ gtb := gtb_in (i := 1750) (by decide +kernel) (by decide +kernel)
