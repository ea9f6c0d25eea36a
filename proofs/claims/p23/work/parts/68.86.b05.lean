set_option maxRecDepth 100000 in
theorem gw750 : Jvm.Cond.methodLink "LeftAnswers$Slip" 31 ⟨"LeftAnswers$Slip", "putText", "(Ljava/lang/String;)V"⟩ ∈ gtb := gtb_t5 (i := 37) rfl (by decide +kernel)
set_option maxRecDepth 100000 in
theorem gw751 : Jvm.Cond.selects "LeftAnswers$Slip" ⟨"LeftAnswers$Slip", "putText", "(Ljava/lang/String;)V"⟩ ⟨"LeftAnswers$Slip", "putText", "(Ljava/lang/String;)V"⟩ ∈ gtb := gtb_in (i := 30) (by decide +kernel) (by decide +kernel)
set_option maxRecDepth 100000 in
theorem gw752 : Jvm.Cond.code ⟨"LeftAnswers$Slip", "putText", "(Ljava/lang/String;)V"⟩ prog_11_method_4_code 3 none ∈ gtb := gtb_t5 (i := 40) rfl (by decide +kernel)
set_option maxRecDepth 100000 in
theorem gw753 : Jvm.Cond.instanceMethod ⟨"LeftAnswers$Slip", "putText", "(Ljava/lang/String;)V"⟩ ∈ gtb := gtb_t5 (i := 39) rfl (by decide +kernel)
set_option maxRecDepth 100000 in
theorem gw754 : Jvm.Cond.fieldLink "LeftAnswers$Slip" 35 "LeftAnswers$Life" "coins" "[I" ∈ gtb := gtb_t1 (i := 200) rfl (by decide +kernel)
set_option maxRecDepth 100000 in
theorem gw755 : Jvm.Cond.methodLink "LeftAnswers$Slip" 41 ⟨"LeftAnswers$Slip", "putNumber", "(I)V"⟩ ∈ gtb := gtb_t5 (i := 89) rfl (by decide +kernel)
set_option maxRecDepth 100000 in
theorem gw756 : Jvm.Cond.selects "LeftAnswers$Slip" ⟨"LeftAnswers$Slip", "putNumber", "(I)V"⟩ ⟨"LeftAnswers$Slip", "putNumber", "(I)V"⟩ ∈ gtb := gtb_in (i := 31) (by decide +kernel) (by decide +kernel)
set_option maxRecDepth 100000 in
theorem gw757 : Jvm.Cond.code ⟨"LeftAnswers$Slip", "putNumber", "(I)V"⟩ prog_11_method_6_code 2 none ∈ gtb := gtb_t5 (i := 92) rfl (by decide +kernel)
set_option maxRecDepth 100000 in
theorem gw758 : Jvm.Cond.instanceMethod ⟨"LeftAnswers$Slip", "putNumber", "(I)V"⟩ ∈ gtb := gtb_t5 (i := 91) rfl (by decide +kernel)
set_option maxRecDepth 100000 in
theorem gw759 : Jvm.Cond.methodLink "LeftAnswers$Slip" 45 ⟨"LeftAnswers$Life", "isJailed", "(I)Z"⟩ ∈ gtb := gtb_t5 (i := 93) rfl (by decide +kernel)
set_option maxRecDepth 100000 in
theorem gw760 : Jvm.Cond.fieldLink "LeftAnswers$Slip" 51 "LeftAnswers$Life" "cell" "[I" ∈ gtb := gtb_t1 (i := 207) rfl (by decide +kernel)
set_option maxRecDepth 100000 in
theorem gw761 : Jvm.Cond.methodLink "LeftAnswers$Slip" 54 ⟨"LeftAnswers$Life", "isGloved", "(I)Z"⟩ ∈ gtb := gtb_t5 (i := 95) rfl (by decide +kernel)
set_option maxRecDepth 100000 in
theorem gw762 : Jvm.Cond.fieldLink "LeftAnswers$Slip" 59 "LeftAnswers$Life" "spouse" "[I" ∈ gtb := gtb_t1 (i := 213) rfl (by decide +kernel)
set_option maxRecDepth 100000 in
theorem gw763 : Jvm.Cond.methodLink "LeftAnswers$Tape" 3 ⟨"java/lang/Object", "<init>", "()V"⟩ ∈ gtb := gtb_t1 (i := 40) rfl (by decide +kernel)
set_option maxRecDepth 100000 in
theorem gw764 : Jvm.Cond.fieldLink "LeftAnswers$Tape" 11 "LeftAnswers$Tape" "bytes" "[B" ∈ gtb := gtb_t1 (i := 43) rfl (by decide +kernel)
set_option maxRecDepth 100000 in
theorem gw765 : Jvm.Cond.fieldLink "LeftAnswers$Tape" 15 "LeftAnswers$Word" "NOTHING" "LLeftAnswers$Word;" ∈ gtb := gtb_t1 (i := 41) rfl (by decide +kernel)
set_option maxRecDepth 100000 in
theorem gw766 : Jvm.Cond.fieldLink "LeftAnswers$Tape" 21 "LeftAnswers$Tape" "word" "LLeftAnswers$Word;" ∈ gtb := gtb_t1 (i := 53) rfl (by decide +kernel)
set_option maxRecDepth 100000 in
theorem gw767 : Jvm.Cond.fieldLink "LeftAnswers$Tape" 46 "LeftAnswers$Tape" "letters" "J" ∈ gtb := gtb_t1 (i := 57) rfl (by decide +kernel)
set_option maxRecDepth 100000 in
theorem gw768 : Jvm.Cond.fieldLink "LeftAnswers$Tape" 50 "LeftAnswers$Tape" "number" "I" ∈ gtb := gtb_t1 (i := 59) rfl (by decide +kernel)
set_option maxRecDepth 100000 in
theorem gw769 : Jvm.Cond.fieldLink "LeftAnswers$Tape" 31 "LeftAnswers$Tape" "at" "I" ∈ gtb := gtb_t1 (i := 47) rfl (by decide +kernel)
set_option maxRecDepth 100000 in
theorem gw770 : Jvm.Cond.fieldLink "LeftAnswers$Tape" 24 "LeftAnswers$Tape" "length" "I" ∈ gtb := gtb_t1 (i := 45) rfl (by decide +kernel)
set_option maxRecDepth 100000 in
theorem gw771 : Jvm.Cond.methodLink "LeftAnswers$Tape" 53 ⟨"LeftAnswers$Tape", "signAt", "(I)I"⟩ ∈ gtb := gtb_t3 (i := 34) rfl (by decide +kernel)
set_option maxRecDepth 100000 in
theorem gw772 : Jvm.Cond.methodLink "LeftAnswers$Tape" 57 ⟨"LeftAnswers$Tape", "isBlank", "(I)Z"⟩ ∈ gtb := gtb_t3 (i := 38) rfl (by decide +kernel)
set_option maxRecDepth 100000 in
theorem gw773 : Jvm.Cond.code ⟨"LeftAnswers$Tape", "isBlank", "(I)Z"⟩ prog_12_method_8_code 1 (some .boolean) ∈ gtb := gtb_t3 (i := 40) rfl (by decide +kernel)
set_option maxRecDepth 100000 in
theorem gw774 : Jvm.Cond.static ⟨"LeftAnswers$Tape", "isBlank", "(I)Z"⟩ ∈ gtb := gtb_t3 (i := 39) rfl (by decide +kernel)
set_option maxRecDepth 100000 in
theorem gw775 : Jvm.Cond.fieldLink "LeftAnswers$Tape" 61 "LeftAnswers$Tape" "place" "I" ∈ gtb := gtb_t1 (i := 52) rfl (by decide +kernel)
set_option maxRecDepth 100000 in
theorem gw776 : Jvm.Cond.fieldLink "LeftAnswers$Tape" 28 "LeftAnswers$Tape" "limit" "I" ∈ gtb := gtb_t1 (i := 46) rfl (by decide +kernel)
set_option maxRecDepth 100000 in
theorem gw777 : Jvm.Cond.fieldLink "LeftAnswers$Tape" 64 "LeftAnswers$Tape" "kind" "I" ∈ gtb := gtb_t1 (i := 51) rfl (by decide +kernel)
set_option maxRecDepth 100000 in
theorem gw778 : Jvm.Cond.methodLink "LeftAnswers$Tape" 67 ⟨"LeftAnswers$Tape", "isLetter", "(I)Z"⟩ ∈ gtb := gtb_t3 (i := 41) rfl (by decide +kernel)
set_option maxRecDepth 100000 in
theorem gw779 : Jvm.Cond.code ⟨"LeftAnswers$Tape", "isLetter", "(I)Z"⟩ prog_12_method_9_code 1 (some .boolean) ∈ gtb := gtb_t3 (i := 43) rfl (by decide +kernel)
set_option maxRecDepth 100000 in
theorem gw780 : Jvm.Cond.static ⟨"LeftAnswers$Tape", "isLetter", "(I)Z"⟩ ∈ gtb := gtb_t3 (i := 42) rfl (by decide +kernel)
set_option maxRecDepth 100000 in
theorem gw781 : Jvm.Cond.methodLink "LeftAnswers$Tape" 70 ⟨"LeftAnswers$Tape", "isDigit", "(I)Z"⟩ ∈ gtb := gtb_t3 (i := 44) rfl (by decide +kernel)
set_option maxRecDepth 100000 in
theorem gw782 : Jvm.Cond.code ⟨"LeftAnswers$Tape", "isDigit", "(I)Z"⟩ prog_12_method_10_code 1 (some .boolean) ∈ gtb := gtb_t3 (i := 46) rfl (by decide +kernel)
set_option maxRecDepth 100000 in
theorem gw783 : Jvm.Cond.static ⟨"LeftAnswers$Tape", "isDigit", "(I)Z"⟩ ∈ gtb := gtb_t3 (i := 45) rfl (by decide +kernel)
set_option maxRecDepth 100000 in
theorem gw784 : Jvm.Cond.methodLink "LeftAnswers$Tape" 73 ⟨"LeftAnswers$Tape", "readRun", "()V"⟩ ∈ gtb := gtb_t3 (i := 47) rfl (by decide +kernel)
set_option maxRecDepth 100000 in
theorem gw785 : Jvm.Cond.selects "LeftAnswers$Tape" ⟨"LeftAnswers$Tape", "readRun", "()V"⟩ ⟨"LeftAnswers$Tape", "readRun", "()V"⟩ ∈ gtb := gtb_in (i := 2) (by decide +kernel) (by decide +kernel)
set_option maxRecDepth 100000 in
theorem gw786 : Jvm.Cond.code ⟨"LeftAnswers$Tape", "readRun", "()V"⟩ prog_12_method_6_code 4 none ∈ gtb := gtb_t3 (i := 50) rfl (by decide +kernel)
set_option maxRecDepth 100000 in
theorem gw787 : Jvm.Cond.instanceMethod ⟨"LeftAnswers$Tape", "readRun", "()V"⟩ ∈ gtb := gtb_t3 (i := 49) rfl (by decide +kernel)
set_option maxRecDepth 100000 in
theorem gw788 : Jvm.Cond.methodLink "LeftAnswers$Tape" 76 ⟨"LeftAnswers$Tape", "readMark", "()V"⟩ ∈ gtb := gtb_t3 (i := 61) rfl (by decide +kernel)
set_option maxRecDepth 100000 in
theorem gw789 : Jvm.Cond.selects "LeftAnswers$Tape" ⟨"LeftAnswers$Tape", "readMark", "()V"⟩ ⟨"LeftAnswers$Tape", "readMark", "()V"⟩ ∈ gtb := gtb_in (i := 3) (by decide +kernel) (by decide +kernel)
set_option maxRecDepth 100000 in
theorem gw790 : Jvm.Cond.code ⟨"LeftAnswers$Tape", "readMark", "()V"⟩ prog_12_method_7_code 2 none ∈ gtb := gtb_t3 (i := 64) rfl (by decide +kernel)
set_option maxRecDepth 100000 in
theorem gw791 : Jvm.Cond.instanceMethod ⟨"LeftAnswers$Tape", "readMark", "()V"⟩ ∈ gtb := gtb_t3 (i := 63) rfl (by decide +kernel)
set_option maxRecDepth 100000 in
theorem gw792 : Jvm.Cond.fieldLink "LeftAnswers$Tape" 34 "LeftAnswers$Tape" "fault" "I" ∈ gtb := gtb_t1 (i := 65) rfl (by decide +kernel)
set_option maxRecDepth 100000 in
theorem gw793 : Jvm.Cond.fieldLink "LeftAnswers$Tape" 37 "LeftAnswers$Tape" "faultPlace" "I" ∈ gtb := gtb_t1 (i := 67) rfl (by decide +kernel)
set_option maxRecDepth 100000 in
theorem gw794 : Jvm.Cond.fieldLink "LeftAnswers$Tape" 40 "LeftAnswers$Tape" "taken" "I" ∈ gtb := gtb_t1 (i := 62) rfl (by decide +kernel)
set_option maxRecDepth 100000 in
theorem gw795 : Jvm.Cond.methodLink "LeftAnswers$Tape" 43 ⟨"LeftAnswers$Tape", "advance", "()V"⟩ ∈ gtb := gtb_t3 (i := 30) rfl (by decide +kernel)
set_option maxRecDepth 100000 in
theorem gw796 : Jvm.Cond.methodLink "LeftAnswers$Tape" 87 ⟨"LeftAnswers$Tape", "isMark", "(I)Z"⟩ ∈ gtb := gtb_t3 (i := 65) rfl (by decide +kernel)
set_option maxRecDepth 100000 in
theorem gw797 : Jvm.Cond.code ⟨"LeftAnswers$Tape", "isMark", "(I)Z"⟩ prog_12_method_11_code 1 (some .boolean) ∈ gtb := gtb_t3 (i := 67) rfl (by decide +kernel)
set_option maxRecDepth 100000 in
theorem gw798 : Jvm.Cond.static ⟨"LeftAnswers$Tape", "isMark", "(I)Z"⟩ ∈ gtb := gtb_t3 (i := 66) rfl (by decide +kernel)
set_option maxRecDepth 100000 in
theorem gw799 : Jvm.Cond.methodLink "LeftAnswers$Tape" 79 ⟨"LeftAnswers$Word", "withLetter", "(JI)J"⟩ ∈ gtb := gtb_t3 (i := 51) rfl (by decide +kernel)
set_option maxRecDepth 100000 in
theorem gw800 : Jvm.Cond.code ⟨"LeftAnswers$Word", "withLetter", "(JI)J"⟩ prog_13_method_5_code 3 (some .long) ∈ gtb := gtb_t3 (i := 53) rfl (by decide +kernel)
set_option maxRecDepth 100000 in
theorem gw801 : Jvm.Cond.initialized "LeftAnswers$Word" ∈ gtb := gtb_t1 (i := 4) rfl (by decide +kernel)
set_option maxRecDepth 100000 in
theorem gw802 : Jvm.Cond.static ⟨"LeftAnswers$Word", "withLetter", "(JI)J"⟩ ∈ gtb := gtb_t3 (i := 52) rfl (by decide +kernel)
set_option maxRecDepth 100000 in
theorem gw803 : Jvm.Cond.methodLink "LeftAnswers$Tape" 83 ⟨"LeftAnswers$Word", "of", "(J)LLeftAnswers$Word;"⟩ ∈ gtb := gtb_t3 (i := 54) rfl (by decide +kernel)
set_option maxRecDepth 100000 in
theorem gw804 : Jvm.Cond.code ⟨"LeftAnswers$Word", "of", "(J)LLeftAnswers$Word;"⟩ prog_13_method_6_code 3 (some (.object "LeftAnswers$Word")) ∈ gtb := gtb_t3 (i := 56) rfl (by decide +kernel)
set_option maxRecDepth 100000 in
theorem gw805 : Jvm.Cond.static ⟨"LeftAnswers$Word", "of", "(J)LLeftAnswers$Word;"⟩ ∈ gtb := gtb_t3 (i := 55) rfl (by decide +kernel)
set_option maxRecDepth 100000 in
theorem gw806 : Jvm.Cond.methodLink "LeftAnswers$Tape" 90 ⟨"LeftAnswers$Tape", "isMarkHere", "(C)Z"⟩ ∈ gtb := gtb_t3 (i := 137) rfl (by decide +kernel)
set_option maxRecDepth 100000 in
theorem gw807 : Jvm.Cond.methodLink "LeftAnswers$Tape" 94 ⟨"LeftAnswers$Tape", "refuse", "(I)Z"⟩ ∈ gtb := gtb_t3 (i := 97) rfl (by decide +kernel)
set_option maxRecDepth 100000 in
theorem gw808 : Jvm.Cond.fieldLink "LeftAnswers$Word" 141 "LeftAnswers$Word" "ALL" "[LLeftAnswers$Word;" ∈ gtb := gtb_t3 (i := 57) rfl (by decide +kernel)
set_option maxRecDepth 100000 in
theorem gw809 : Jvm.Cond.fieldLink "LeftAnswers$Word" 123 "LeftAnswers$Word" "letters" "J" ∈ gtb := gtb_t9 (i := 82) rfl (by decide +kernel)
set_option maxRecDepth 100000 in
theorem gw810 : Jvm.Cond.fieldLink "LeftAnswers$Word" 7 "LeftAnswers$Word" "NAME" "LLeftAnswers$Word;" ∈ gtb := gtb_t3 (i := 59) rfl (by decide +kernel)
set_option maxRecDepth 100000 in
theorem gw811 : Jvm.Cond.methodLink "LeftAnswersModel" 93 ⟨"java/lang/Object", "<init>", "()V"⟩ ∈ gtb := gtb_t6 (i := 142) rfl (by decide +kernel)
set_option maxRecDepth 100000 in
theorem gw812 : Jvm.Cond.fieldLink "LeftAnswersModel" 7 "LeftAnswersModel" "tape" "[I" ∈ gtb := gtb_t6 (i := 148) rfl (by decide +kernel)
set_option maxRecDepth 100000 in
theorem gw813 : Jvm.Cond.fieldLink "LeftAnswersModel" 98 "LeftAnswersModel" "now" "[I" ∈ gtb := gtb_t6 (i := 161) rfl (by decide +kernel)
set_option maxRecDepth 100000 in
theorem gw814 : Jvm.Cond.fieldLink "LeftAnswersModel" 101 "LeftAnswersModel" "read" "[I" ∈ gtb := gtb_t6 (i := 162) rfl (by decide +kernel)
set_option maxRecDepth 100000 in
theorem gw815 : Jvm.Cond.fieldLink "LeftAnswersModel" 104 "LeftAnswersModel" "kept" "[I" ∈ gtb := gtb_t6 (i := 163) rfl (by decide +kernel)
set_option maxRecDepth 100000 in
theorem gw816 : Jvm.Cond.fieldLink "LeftAnswersModel" 107 "LeftAnswersModel" "snaps" "[I" ∈ gtb := gtb_t6 (i := 164) rfl (by decide +kernel)
set_option maxRecDepth 100000 in
theorem gw817 : Jvm.Cond.fieldLink "LeftAnswersModel" 110 "LeftAnswersModel" "aside" "[I" ∈ gtb := gtb_t6 (i := 165) rfl (by decide +kernel)
set_option maxRecDepth 100000 in
theorem gw818 : Jvm.Cond.fieldLink "LeftAnswersModel" 113 "LeftAnswersModel" "name" "[J" ∈ gtb := gtb_t6 (i := 166) rfl (by decide +kernel)
set_option maxRecDepth 100000 in
theorem gw819 : Jvm.Cond.fieldLink "LeftAnswersModel" 117 "LeftAnswersModel" "readName" "[J" ∈ gtb := gtb_t6 (i := 167) rfl (by decide +kernel)
set_option maxRecDepth 100000 in
theorem gw820 : Jvm.Cond.fieldLink "LeftAnswersModel" 120 "LeftAnswersModel" "keptName" "[J" ∈ gtb := gtb_t6 (i := 168) rfl (by decide +kernel)
set_option maxRecDepth 100000 in
theorem gw821 : Jvm.Cond.arrayClass .boolean ∈ gtb := gtb_t7 (i := 64) rfl (by decide +kernel)
set_option maxRecDepth 100000 in
theorem gw822 : Jvm.Cond.fieldLink "LeftAnswersModel" 123 "LeftAnswersModel" "isKept" "[Z" ∈ gtb := gtb_t6 (i := 169) rfl (by decide +kernel)
set_option maxRecDepth 100000 in
theorem gw823 : Jvm.Cond.fieldLink "LeftAnswersModel" 127 "LeftAnswersModel" "onces" "[Z" ∈ gtb := gtb_t6 (i := 170) rfl (by decide +kernel)
set_option maxRecDepth 100000 in
theorem gw824 : Jvm.Cond.fieldLink "LeftAnswersModel" 130 "LeftAnswersModel" "parting" "[I" ∈ gtb := gtb_t6 (i := 172) rfl (by decide +kernel)
set_option maxRecDepth 100000 in
theorem gw825 : Jvm.Cond.fieldLink "LeftAnswersModel" 133 "LeftAnswersModel" "parted" "[I" ∈ gtb := gtb_t6 (i := 173) rfl (by decide +kernel)
set_option maxRecDepth 100000 in
theorem gw826 : Jvm.Cond.fieldLink "LeftAnswersModel" 136 "LeftAnswersModel" "taken" "[I" ∈ gtb := gtb_t6 (i := 174) rfl (by decide +kernel)
set_option maxRecDepth 100000 in
theorem gw827 : Jvm.Cond.fieldLink "LeftAnswersModel" 139 "LeftAnswersModel" "fit" "[I" ∈ gtb := gtb_t6 (i := 177) rfl (by decide +kernel)
set_option maxRecDepth 100000 in
theorem gw828 : Jvm.Cond.fieldLink "LeftAnswersModel" 142 "LeftAnswersModel" "trying" "[I" ∈ gtb := gtb_t6 (i := 178) rfl (by decide +kernel)
set_option maxRecDepth 100000 in
theorem gw829 : Jvm.Cond.fieldLink "LeftAnswersModel" 145 "LeftAnswersModel" "testing" "I" ∈ gtb := gtb_t6 (i := 180) rfl (by decide +kernel)
set_option maxRecDepth 100000 in
theorem gw830 : Jvm.Cond.fieldLink "LeftAnswersModel" 148 "LeftAnswersModel" "guarding" "I" ∈ gtb := gtb_t6 (i := 181) rfl (by decide +kernel)
set_option maxRecDepth 100000 in
theorem gw831 : Jvm.Cond.fieldLink "LeftAnswersModel" 151 "LeftAnswersModel" "wedding" "[I" ∈ gtb := gtb_t6 (i := 182) rfl (by decide +kernel)
set_option maxRecDepth 100000 in
theorem gw832 : Jvm.Cond.fieldLink "LeftAnswersModel" 154 "LeftAnswersModel" "wedded" "[I" ∈ gtb := gtb_t6 (i := 183) rfl (by decide +kernel)
set_option maxRecDepth 100000 in
theorem gw833 : Jvm.Cond.fieldLink "LeftAnswersModel" 157 "LeftAnswersModel" "text" "[I" ∈ gtb := gtb_t6 (i := 187) rfl (by decide +kernel)
set_option maxRecDepth 100000 in
theorem gw834 : Jvm.Cond.fieldLink "LeftAnswersModel" 160 "LeftAnswersModel" "line" "[I" ∈ gtb := gtb_t6 (i := 190) rfl (by decide +kernel)
set_option maxRecDepth 100000 in
theorem gw835 : Jvm.Cond.fieldLink "LeftAnswersModel" 163 "LeftAnswersModel" "written" "[I" ∈ gtb := gtb_t6 (i := 191) rfl (by decide +kernel)
set_option maxRecDepth 100000 in
theorem gw836 : Jvm.Cond.fieldLink "LeftAnswersModel" 166 "LeftAnswersModel" "node" "[I" ∈ gtb := gtb_t6 (i := 194) rfl (by decide +kernel)
set_option maxRecDepth 100000 in
theorem gw837 : Jvm.Cond.methodLink "LeftAnswersModel" 169 ⟨"LeftAnswersModel", "startSo", "()V"⟩ ∈ gtb := gtb_t6 (i := 143) rfl (by decide +kernel)
set_option maxRecDepth 100000 in
theorem gw838 : Jvm.Cond.selects "LeftAnswersModel" ⟨"LeftAnswersModel", "startSo", "()V"⟩ ⟨"LeftAnswersModel", "startSo", "()V"⟩ ∈ gtb := gtb_in (i := 49) (by decide +kernel) (by decide +kernel)
set_option maxRecDepth 100000 in
theorem gw839 : Jvm.Cond.code ⟨"LeftAnswersModel", "startSo", "()V"⟩ prog_15_method_27_code 2 none ∈ gtb := gtb_t6 (i := 146) rfl (by decide +kernel)
set_option maxRecDepth 100000 in
theorem gw840 : Jvm.Cond.initialized "LeftAnswersModel" ∈ gtb := gtb_t1 (i := 14) rfl (by decide +kernel)
set_option maxRecDepth 100000 in
theorem gw841 : Jvm.Cond.instanceMethod ⟨"LeftAnswersModel", "startSo", "()V"⟩ ∈ gtb := gtb_t6 (i := 145) rfl (by decide +kernel)
set_option maxRecDepth 100000 in
theorem gw842 : Jvm.Cond.fieldLink "LeftAnswersModel" 1 "LeftAnswersModel" "thrown" "I" ∈ gtb := gtb_t6 (i := 147) rfl (by decide +kernel)
set_option maxRecDepth 100000 in
theorem gw843 : Jvm.Cond.methodLink "LeftAnswersModel" 240 ⟨"LeftAnswersModel", "isPerson", "(I)Z"⟩ ∈ gtb := gtb_t7 (i := 188) rfl (by decide +kernel)
set_option maxRecDepth 100000 in
theorem gw844 : Jvm.Cond.selects "LeftAnswersModel" ⟨"LeftAnswersModel", "isPerson", "(I)Z"⟩ ⟨"LeftAnswersModel", "isPerson", "(I)Z"⟩ ∈ gtb := gtb_in (i := 72) (by decide +kernel) (by decide +kernel)
set_option maxRecDepth 100000 in
theorem gw845 : Jvm.Cond.code ⟨"LeftAnswersModel", "isPerson", "(I)Z"⟩ prog_15_method_43_code 2 (some .boolean) ∈ gtb := gtb_t7 (i := 191) rfl (by decide +kernel)
set_option maxRecDepth 100000 in
theorem gw846 : Jvm.Cond.instanceMethod ⟨"LeftAnswersModel", "isPerson", "(I)Z"⟩ ∈ gtb := gtb_t7 (i := 190) rfl (by decide +kernel)
set_option maxRecDepth 100000 in
theorem gw847 : Jvm.Cond.methodLink "LeftAnswersModel" 256 ⟨"LeftAnswersModel", "isDeed", "(I)Z"⟩ ∈ gtb := gtb_t7 (i := 220) rfl (by decide +kernel)
set_option maxRecDepth 100000 in
theorem gw848 : Jvm.Cond.selects "LeftAnswersModel" ⟨"LeftAnswersModel", "isDeed", "(I)Z"⟩ ⟨"LeftAnswersModel", "isDeed", "(I)Z"⟩ ∈ gtb := gtb_in (i := 78) (by decide +kernel) (by decide +kernel)
set_option maxRecDepth 100000 in
theorem gw849 : Jvm.Cond.code ⟨"LeftAnswersModel", "isDeed", "(I)Z"⟩ prog_15_method_44_code 2 (some .boolean) ∈ gtb := gtb_t7 (i := 223) rfl (by decide +kernel)
set_option maxRecDepth 100000 in
theorem gw850 : Jvm.Cond.instanceMethod ⟨"LeftAnswersModel", "isDeed", "(I)Z"⟩ ∈ gtb := gtb_t7 (i := 222) rfl (by decide +kernel)
set_option maxRecDepth 100000 in
theorem gw851 : Jvm.Cond.methodLink "LeftAnswersModel" 271 ⟨"LeftAnswersModel", "whyDo", "(III)I"⟩ ∈ gtb := gtb_t8 (i := 12) rfl (by decide +kernel)
set_option maxRecDepth 100000 in
theorem gw852 : Jvm.Cond.selects "LeftAnswersModel" ⟨"LeftAnswersModel", "whyDo", "(III)I"⟩ ⟨"LeftAnswersModel", "whyDo", "(III)I"⟩ ∈ gtb := gtb_in (i := 84) (by decide +kernel) (by decide +kernel)
set_option maxRecDepth 100000 in
theorem gw853 : Jvm.Cond.code ⟨"LeftAnswersModel", "whyDo", "(III)I"⟩ prog_15_method_59_code 4 (some .int) ∈ gtb := gtb_t8 (i := 15) rfl (by decide +kernel)
set_option maxRecDepth 100000 in
theorem gw854 : Jvm.Cond.instanceMethod ⟨"LeftAnswersModel", "whyDo", "(III)I"⟩ ∈ gtb := gtb_t8 (i := 14) rfl (by decide +kernel)
set_option maxRecDepth 100000 in
theorem gw855 : Jvm.Cond.methodLink "LeftAnswersModel" 281 ⟨"LeftAnswersModel", "why", "(IIII)I"⟩ ∈ gtb := gtb_t8 (i := 8) rfl (by decide +kernel)
set_option maxRecDepth 100000 in
theorem gw856 : Jvm.Cond.selects "LeftAnswersModel" ⟨"LeftAnswersModel", "why", "(IIII)I"⟩ ⟨"LeftAnswersModel", "why", "(IIII)I"⟩ ∈ gtb := gtb_in (i := 83) (by decide +kernel) (by decide +kernel)
set_option maxRecDepth 100000 in
theorem gw857 : Jvm.Cond.code ⟨"LeftAnswersModel", "why", "(IIII)I"⟩ prog_15_method_60_code 5 (some .int) ∈ gtb := gtb_t8 (i := 11) rfl (by decide +kernel)
set_option maxRecDepth 100000 in
theorem gw858 : Jvm.Cond.instanceMethod ⟨"LeftAnswersModel", "why", "(IIII)I"⟩ ∈ gtb := gtb_t8 (i := 10) rfl (by decide +kernel)
set_option maxRecDepth 100000 in
theorem gw859 : Jvm.Cond.methodLink "LeftAnswersModel" 285 ⟨"LeftAnswersModel", "snap", "()V"⟩ ∈ gtb := gtb_t8 (i := 19) rfl (by decide +kernel)
set_option maxRecDepth 100000 in
theorem gw860 : Jvm.Cond.selects "LeftAnswersModel" ⟨"LeftAnswersModel", "snap", "()V"⟩ ⟨"LeftAnswersModel", "snap", "()V"⟩ ∈ gtb := gtb_in (i := 85) (by decide +kernel) (by decide +kernel)
set_option maxRecDepth 100000 in
theorem gw861 : Jvm.Cond.code ⟨"LeftAnswersModel", "snap", "()V"⟩ prog_15_method_57_code 2 none ∈ gtb := gtb_t8 (i := 22) rfl (by decide +kernel)
set_option maxRecDepth 100000 in
theorem gw862 : Jvm.Cond.instanceMethod ⟨"LeftAnswersModel", "snap", "()V"⟩ ∈ gtb := gtb_t8 (i := 21) rfl (by decide +kernel)
set_option maxRecDepth 100000 in
theorem gw863 : Jvm.Cond.methodLink "LeftAnswersModel" 288 ⟨"LeftAnswersModel", "live", "(IIII)V"⟩ ∈ gtb := gtb_t8 (i := 23) rfl (by decide +kernel)
set_option maxRecDepth 100000 in
theorem gw864 : Jvm.Cond.selects "LeftAnswersModel" ⟨"LeftAnswersModel", "live", "(IIII)V"⟩ ⟨"LeftAnswersModel", "live", "(IIII)V"⟩ ∈ gtb := gtb_in (i := 86) (by decide +kernel) (by decide +kernel)
set_option maxRecDepth 100000 in
theorem gw865 : Jvm.Cond.code ⟨"LeftAnswersModel", "live", "(IIII)V"⟩ prog_15_method_62_code 5 none ∈ gtb := gtb_t8 (i := 26) rfl (by decide +kernel)
set_option maxRecDepth 100000 in
theorem gw866 : Jvm.Cond.instanceMethod ⟨"LeftAnswersModel", "live", "(IIII)V"⟩ ∈ gtb := gtb_t8 (i := 25) rfl (by decide +kernel)
set_option maxRecDepth 100000 in
theorem gw867 : Jvm.Cond.fieldLink "LeftAnswersModel" 30 "LeftAnswersModel" "kind" "I" ∈ gtb := gtb_t6 (i := 154) rfl (by decide +kernel)
set_option maxRecDepth 100000 in
theorem gw868 : Jvm.Cond.fieldLink "LeftAnswersModel" 66 "LeftAnswersModel" "fault" "I" ∈ gtb := gtb_t6 (i := 157) rfl (by decide +kernel)
set_option maxRecDepth 100000 in
theorem gw869 : Jvm.Cond.fieldLink "LeftAnswersModel" 24 "LeftAnswersModel" "from" "I" ∈ gtb := gtb_t6 (i := 153) rfl (by decide +kernel)
set_option maxRecDepth 100000 in
theorem gw870 : Jvm.Cond.fieldLink "LeftAnswersModel" 69 "LeftAnswersModel" "place" "I" ∈ gtb := gtb_t6 (i := 158) rfl (by decide +kernel)
set_option maxRecDepth 100000 in
theorem gw871 : Jvm.Cond.methodLink "LeftAnswersModel" 292 ⟨"LeftAnswersModel", "act", "(IIIIZ)I"⟩ ∈ gtb := gtb_t8 (i := 4) rfl (by decide +kernel)
set_option maxRecDepth 100000 in
theorem gw872 : Jvm.Cond.selects "LeftAnswersModel" ⟨"LeftAnswersModel", "act", "(IIIIZ)I"⟩ ⟨"LeftAnswersModel", "act", "(IIIIZ)I"⟩ ∈ gtb := gtb_in (i := 82) (by decide +kernel) (by decide +kernel)
set_option maxRecDepth 100000 in
theorem gw873 : Jvm.Cond.code ⟨"LeftAnswersModel", "act", "(IIIIZ)I"⟩ prog_15_method_63_code 7 (some .int) ∈ gtb := gtb_t8 (i := 7) rfl (by decide +kernel)
set_option maxRecDepth 100000 in
theorem gw874 : Jvm.Cond.instanceMethod ⟨"LeftAnswersModel", "act", "(IIIIZ)I"⟩ ∈ gtb := gtb_t8 (i := 6) rfl (by decide +kernel)
set_option maxRecDepth 100000 in
theorem gw875 : Jvm.Cond.methodLink "LeftAnswersModel" 89 ⟨"LeftAnswersModel", "take", "()I"⟩ ∈ gtb := gtb_t7 (i := 73) rfl (by decide +kernel)
set_option maxRecDepth 100000 in
theorem gw876 : Jvm.Cond.selects "LeftAnswersModel" ⟨"LeftAnswersModel", "take", "()I"⟩ ⟨"LeftAnswersModel", "take", "()I"⟩ ∈ gtb := gtb_in (i := 51) (by decide +kernel) (by decide +kernel)
set_option maxRecDepth 100000 in
theorem gw877 : Jvm.Cond.code ⟨"LeftAnswersModel", "take", "()I"⟩ prog_15_method_6_code 2 (some .int) ∈ gtb := gtb_t7 (i := 76) rfl (by decide +kernel)
set_option maxRecDepth 100000 in
theorem gw878 : Jvm.Cond.instanceMethod ⟨"LeftAnswersModel", "take", "()I"⟩ ∈ gtb := gtb_t7 (i := 75) rfl (by decide +kernel)
set_option maxRecDepth 100000 in
theorem gw879 : Jvm.Cond.fieldLink "LeftAnswersModel" 18 "LeftAnswersModel" "size" "I" ∈ gtb := gtb_t6 (i := 150) rfl (by decide +kernel)
set_option maxRecDepth 100000 in
theorem gw880 : Jvm.Cond.fieldLink "LeftAnswersModel" 27 "LeftAnswersModel" "limit" "I" ∈ gtb := gtb_t6 (i := 151) rfl (by decide +kernel)
set_option maxRecDepth 100000 in
theorem gw881 : Jvm.Cond.fieldLink "LeftAnswersModel" 21 "LeftAnswersModel" "to" "I" ∈ gtb := gtb_t6 (i := 152) rfl (by decide +kernel)
set_option maxRecDepth 100000 in
theorem gw882 : Jvm.Cond.methodLink "LeftAnswersModel" 82 ⟨"LeftAnswersModel", "go", "()V"⟩ ∈ gtb := gtb_t7 (i := 77) rfl (by decide +kernel)
set_option maxRecDepth 100000 in
theorem gw883 : Jvm.Cond.selects "LeftAnswersModel" ⟨"LeftAnswersModel", "go", "()V"⟩ ⟨"LeftAnswersModel", "go", "()V"⟩ ∈ gtb := gtb_in (i := 52) (by decide +kernel) (by decide +kernel)
set_option maxRecDepth 100000 in
theorem gw884 : Jvm.Cond.code ⟨"LeftAnswersModel", "go", "()V"⟩ prog_15_method_16_code 5 none ∈ gtb := gtb_t7 (i := 80) rfl (by decide +kernel)
set_option maxRecDepth 100000 in
theorem gw885 : Jvm.Cond.instanceMethod ⟨"LeftAnswersModel", "go", "()V"⟩ ∈ gtb := gtb_t7 (i := 79) rfl (by decide +kernel)
set_option maxRecDepth 100000 in
theorem gw886 : Jvm.Cond.fieldLink "LeftAnswersModel" 331 "LeftAnswersModel" "wedMost" "I" ∈ gtb := gtb_t6 (i := 184) rfl (by decide +kernel)
set_option maxRecDepth 100000 in
theorem gw887 : Jvm.Cond.methodLink "LeftAnswersModel" 334 ⟨"LeftAnswersModel", "wedFrom", "(II)V"⟩ ∈ gtb := gtb_t8 (i := 132) rfl (by decide +kernel)
set_option maxRecDepth 100000 in
theorem gw888 : Jvm.Cond.selects "LeftAnswersModel" ⟨"LeftAnswersModel", "wedFrom", "(II)V"⟩ ⟨"LeftAnswersModel", "wedFrom", "(II)V"⟩ ∈ gtb := gtb_in (i := 95) (by decide +kernel) (by decide +kernel)
set_option maxRecDepth 100000 in
theorem gw889 : Jvm.Cond.code ⟨"LeftAnswersModel", "wedFrom", "(II)V"⟩ prog_15_method_88_code 4 none ∈ gtb := gtb_t8 (i := 135) rfl (by decide +kernel)
set_option maxRecDepth 100000 in
theorem gw890 : Jvm.Cond.instanceMethod ⟨"LeftAnswersModel", "wedFrom", "(II)V"⟩ ∈ gtb := gtb_t8 (i := 134) rfl (by decide +kernel)
set_option maxRecDepth 100000 in
theorem gw891 : Jvm.Cond.fieldLink "LeftAnswersModel" 344 "LeftAnswersModel" "wedMany" "I" ∈ gtb := gtb_t6 (i := 185) rfl (by decide +kernel)
set_option maxRecDepth 100000 in
theorem gw892 : Jvm.Cond.fieldLink "LeftAnswersModel" 347 "LeftAnswersModel" "hasWedded" "Z" ∈ gtb := gtb_t6 (i := 186) rfl (by decide +kernel)
set_option maxRecDepth 100000 in
theorem gw893 : Jvm.Cond.methodLink "LeftAnswersModel" 75 ⟨"LeftAnswersModel", "isIn", "(III)Z"⟩ ∈ gtb := gtb_t7 (i := 134) rfl (by decide +kernel)
set_option maxRecDepth 100000 in
theorem gw894 : Jvm.Cond.code ⟨"LeftAnswersModel", "isIn", "(III)Z"⟩ prog_15_method_7_code 3 (some .boolean) ∈ gtb := gtb_t7 (i := 136) rfl (by decide +kernel)
set_option maxRecDepth 100000 in
theorem gw895 : Jvm.Cond.static ⟨"LeftAnswersModel", "isIn", "(III)Z"⟩ ∈ gtb := gtb_t7 (i := 135) rfl (by decide +kernel)
set_option maxRecDepth 100000 in
theorem gw896 : Jvm.Cond.methodLink "LeftAnswersModel" 225 ⟨"LeftAnswersModel", "begin", "(I)V"⟩ ∈ gtb := gtb_t7 (i := 69) rfl (by decide +kernel)
set_option maxRecDepth 100000 in
theorem gw897 : Jvm.Cond.selects "LeftAnswersModel" ⟨"LeftAnswersModel", "begin", "(I)V"⟩ ⟨"LeftAnswersModel", "begin", "(I)V"⟩ ∈ gtb := gtb_in (i := 50) (by decide +kernel) (by decide +kernel)
set_option maxRecDepth 100000 in
theorem gw898 : Jvm.Cond.code ⟨"LeftAnswersModel", "begin", "(I)V"⟩ prog_15_method_25_code 2 none ∈ gtb := gtb_t7 (i := 72) rfl (by decide +kernel)
set_option maxRecDepth 100000 in
theorem gw899 : Jvm.Cond.instanceMethod ⟨"LeftAnswersModel", "begin", "(I)V"⟩ ∈ gtb := gtb_t7 (i := 71) rfl (by decide +kernel)
