set_option maxRecDepth 100000 in
theorem gw1500 : Jvm.Cond.selects "LeftAnswersModel" ⟨"LeftAnswersModel", "said", "(I)I"⟩ ⟨"LeftAnswersModel", "said", "(I)I"⟩ ∈ gtb := gtb_t9 (i := 47) rfl (by decide +kernel)
set_option maxRecDepth 100000 in
theorem gw1501 : Jvm.Cond.code ⟨"LeftAnswersModel", "said", "(I)I"⟩ prog_15_method_126_code 4 (some .int) ∈ gtb := gtb_t9 (i := 48) rfl (by decide +kernel)
set_option maxRecDepth 100000 in
theorem gw1502 : Jvm.Cond.instanceMethod ⟨"LeftAnswersModel", "said", "(I)I"⟩ ∈ gtb := gtb_t9 (i := 46) rfl (by decide +kernel)
set_option maxRecDepth 100000 in
theorem gw1503 : Jvm.Cond.methodLink "LeftAnswersLaw" 170 ⟨"LeftAnswers", "image", "(I)Z"⟩ ∈ gtb := gtb_t6 (i := 20) rfl (by decide +kernel)
set_option maxRecDepth 100000 in
theorem gw1504 : Jvm.Cond.selects "LeftAnswers" ⟨"LeftAnswers", "image", "(I)Z"⟩ ⟨"LeftAnswers", "image", "(I)Z"⟩ ∈ gtb := gtb_t6 (i := 22) rfl (by decide +kernel)
set_option maxRecDepth 100000 in
theorem gw1505 : Jvm.Cond.code ⟨"LeftAnswers", "image", "(I)Z"⟩ prog_1_method_38_code 2 (some .boolean) ∈ gtb := gtb_t6 (i := 23) rfl (by decide +kernel)
set_option maxRecDepth 100000 in
theorem gw1506 : Jvm.Cond.instanceMethod ⟨"LeftAnswers", "image", "(I)Z"⟩ ∈ gtb := gtb_t6 (i := 21) rfl (by decide +kernel)
set_option maxRecDepth 100000 in
theorem gw1507 : Jvm.Cond.methodLink "LeftAnswersLaw" 173 ⟨"LeftAnswersModel", "image", "(I)Z"⟩ ∈ gtb := gtb_t9 (i := 53) rfl (by decide +kernel)
set_option maxRecDepth 100000 in
theorem gw1508 : Jvm.Cond.selects "LeftAnswersModel" ⟨"LeftAnswersModel", "image", "(I)Z"⟩ ⟨"LeftAnswersModel", "image", "(I)Z"⟩ ∈ gtb := gtb_t9 (i := 55) rfl (by decide +kernel)
set_option maxRecDepth 100000 in
theorem gw1509 : Jvm.Cond.code ⟨"LeftAnswersModel", "image", "(I)Z"⟩ prog_15_method_127_code 3 (some .boolean) ∈ gtb := gtb_t9 (i := 56) rfl (by decide +kernel)
set_option maxRecDepth 100000 in
theorem gw1510 : Jvm.Cond.instanceMethod ⟨"LeftAnswersModel", "image", "(I)Z"⟩ ∈ gtb := gtb_t9 (i := 54) rfl (by decide +kernel)
set_option maxRecDepth 100000 in
theorem gw1511 : Jvm.Cond.methodLink "LeftAnswersLaw" 174 ⟨"LeftAnswers", "restore", "(I)Z"⟩ ∈ gtb := gtb_t6 (i := 38) rfl (by decide +kernel)
set_option maxRecDepth 100000 in
theorem gw1512 : Jvm.Cond.selects "LeftAnswers" ⟨"LeftAnswers", "restore", "(I)Z"⟩ ⟨"LeftAnswers", "restore", "(I)Z"⟩ ∈ gtb := gtb_t6 (i := 40) rfl (by decide +kernel)
set_option maxRecDepth 100000 in
theorem gw1513 : Jvm.Cond.code ⟨"LeftAnswers", "restore", "(I)Z"⟩ prog_1_method_39_code 2 (some .boolean) ∈ gtb := gtb_t6 (i := 41) rfl (by decide +kernel)
set_option maxRecDepth 100000 in
theorem gw1514 : Jvm.Cond.instanceMethod ⟨"LeftAnswers", "restore", "(I)Z"⟩ ∈ gtb := gtb_t6 (i := 39) rfl (by decide +kernel)
set_option maxRecDepth 100000 in
theorem gw1515 : Jvm.Cond.methodLink "LeftAnswersLaw" 177 ⟨"LeftAnswersModel", "restore", "(I)Z"⟩ ∈ gtb := gtb_t9 (i := 57) rfl (by decide +kernel)
set_option maxRecDepth 100000 in
theorem gw1516 : Jvm.Cond.selects "LeftAnswersModel" ⟨"LeftAnswersModel", "restore", "(I)Z"⟩ ⟨"LeftAnswersModel", "restore", "(I)Z"⟩ ∈ gtb := gtb_t9 (i := 59) rfl (by decide +kernel)
set_option maxRecDepth 100000 in
theorem gw1517 : Jvm.Cond.code ⟨"LeftAnswersModel", "restore", "(I)Z"⟩ prog_15_method_128_code 3 (some .boolean) ∈ gtb := gtb_t9 (i := 60) rfl (by decide +kernel)
set_option maxRecDepth 100000 in
theorem gw1518 : Jvm.Cond.instanceMethod ⟨"LeftAnswersModel", "restore", "(I)Z"⟩ ∈ gtb := gtb_t9 (i := 58) rfl (by decide +kernel)
set_option maxRecDepth 100000 in
theorem gw1519 : Jvm.Cond.methodLink "LeftAnswersLaw" 178 ⟨"LeftAnswers", "count", "(I)I"⟩ ∈ gtb := gtb_t6 (i := 46) rfl (by decide +kernel)
set_option maxRecDepth 100000 in
theorem gw1520 : Jvm.Cond.selects "LeftAnswers" ⟨"LeftAnswers", "count", "(I)I"⟩ ⟨"LeftAnswers", "count", "(I)I"⟩ ∈ gtb := gtb_t6 (i := 48) rfl (by decide +kernel)
set_option maxRecDepth 100000 in
theorem gw1521 : Jvm.Cond.code ⟨"LeftAnswers", "count", "(I)I"⟩ prog_1_method_40_code 2 (some .int) ∈ gtb := gtb_t6 (i := 49) rfl (by decide +kernel)
set_option maxRecDepth 100000 in
theorem gw1522 : Jvm.Cond.instanceMethod ⟨"LeftAnswers", "count", "(I)I"⟩ ∈ gtb := gtb_t6 (i := 47) rfl (by decide +kernel)
set_option maxRecDepth 100000 in
theorem gw1523 : Jvm.Cond.methodLink "LeftAnswersLaw" 181 ⟨"LeftAnswersModel", "count", "(I)I"⟩ ∈ gtb := gtb_t9 (i := 61) rfl (by decide +kernel)
set_option maxRecDepth 100000 in
theorem gw1524 : Jvm.Cond.selects "LeftAnswersModel" ⟨"LeftAnswersModel", "count", "(I)I"⟩ ⟨"LeftAnswersModel", "count", "(I)I"⟩ ∈ gtb := gtb_t9 (i := 63) rfl (by decide +kernel)
set_option maxRecDepth 100000 in
theorem gw1525 : Jvm.Cond.code ⟨"LeftAnswersModel", "count", "(I)I"⟩ prog_15_method_129_code 2 (some .int) ∈ gtb := gtb_t9 (i := 64) rfl (by decide +kernel)
set_option maxRecDepth 100000 in
theorem gw1526 : Jvm.Cond.instanceMethod ⟨"LeftAnswersModel", "count", "(I)I"⟩ ∈ gtb := gtb_t9 (i := 62) rfl (by decide +kernel)
