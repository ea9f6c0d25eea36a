set_option maxRecDepth 100000 in
theorem gw750 : Jvm.Cond.methodLink "LeftAnswersLaw" 120 ⟨"LeftAnswersModel", "guards", "()I"⟩ ∈ gtb := gtb_in (i := 1925) (by decide +kernel) (by decide +kernel)
set_option maxRecDepth 100000 in
theorem gw751 : Jvm.Cond.selects "LeftAnswersModel" ⟨"LeftAnswersModel", "guards", "()I"⟩ ⟨"LeftAnswersModel", "guards", "()I"⟩ ∈ gtb := gtb_in (i := 1927) (by decide +kernel) (by decide +kernel)
set_option maxRecDepth 100000 in
theorem gw752 : Jvm.Cond.code ⟨"LeftAnswersModel", "guards", "()I"⟩ prog_15_method_84_code 6 (some .int) ∈ gtb := gtb_in (i := 1928) (by decide +kernel) (by decide +kernel)
set_option maxRecDepth 100000 in
theorem gw753 : Jvm.Cond.instanceMethod ⟨"LeftAnswersModel", "guards", "()I"⟩ ∈ gtb := gtb_in (i := 1926) (by decide +kernel) (by decide +kernel)
set_option maxRecDepth 100000 in
theorem gw754 : Jvm.Cond.methodLink "LeftAnswersLaw" 121 ⟨"LeftAnswers", "guarding", "()I"⟩ ∈ gtb := gtb_in (i := 1058) (by decide +kernel) (by decide +kernel)
set_option maxRecDepth 100000 in
theorem gw755 : Jvm.Cond.selects "LeftAnswers" ⟨"LeftAnswers", "guarding", "()I"⟩ ⟨"LeftAnswers", "guarding", "()I"⟩ ∈ gtb := gtb_in (i := 1060) (by decide +kernel) (by decide +kernel)
set_option maxRecDepth 100000 in
theorem gw756 : Jvm.Cond.code ⟨"LeftAnswers", "guarding", "()I"⟩ prog_1_method_25_code 1 (some .int) ∈ gtb := gtb_in (i := 1061) (by decide +kernel) (by decide +kernel)
set_option maxRecDepth 100000 in
theorem gw757 : Jvm.Cond.instanceMethod ⟨"LeftAnswers", "guarding", "()I"⟩ ∈ gtb := gtb_in (i := 1059) (by decide +kernel) (by decide +kernel)
set_option maxRecDepth 100000 in
theorem gw758 : Jvm.Cond.methodLink "LeftAnswersLaw" 124 ⟨"LeftAnswersModel", "guarding", "()I"⟩ ∈ gtb := gtb_in (i := 1932) (by decide +kernel) (by decide +kernel)
set_option maxRecDepth 100000 in
theorem gw759 : Jvm.Cond.selects "LeftAnswersModel" ⟨"LeftAnswersModel", "guarding", "()I"⟩ ⟨"LeftAnswersModel", "guarding", "()I"⟩ ∈ gtb := gtb_in (i := 1934) (by decide +kernel) (by decide +kernel)
set_option maxRecDepth 100000 in
theorem gw760 : Jvm.Cond.code ⟨"LeftAnswersModel", "guarding", "()I"⟩ prog_15_method_85_code 1 (some .int) ∈ gtb := gtb_in (i := 1935) (by decide +kernel) (by decide +kernel)
set_option maxRecDepth 100000 in
theorem gw761 : Jvm.Cond.instanceMethod ⟨"LeftAnswersModel", "guarding", "()I"⟩ ∈ gtb := gtb_in (i := 1933) (by decide +kernel) (by decide +kernel)
set_option maxRecDepth 100000 in
theorem gw762 : Jvm.Cond.methodLink "LeftAnswersLaw" 125 ⟨"LeftAnswers", "best", "()I"⟩ ∈ gtb := gtb_in (i := 1062) (by decide +kernel) (by decide +kernel)
set_option maxRecDepth 100000 in
theorem gw763 : Jvm.Cond.selects "LeftAnswers" ⟨"LeftAnswers", "best", "()I"⟩ ⟨"LeftAnswers", "best", "()I"⟩ ∈ gtb := gtb_in (i := 1064) (by decide +kernel) (by decide +kernel)
set_option maxRecDepth 100000 in
theorem gw764 : Jvm.Cond.code ⟨"LeftAnswers", "best", "()I"⟩ prog_1_method_26_code 1 (some .int) ∈ gtb := gtb_in (i := 1065) (by decide +kernel) (by decide +kernel)
set_option maxRecDepth 100000 in
theorem gw765 : Jvm.Cond.instanceMethod ⟨"LeftAnswers", "best", "()I"⟩ ∈ gtb := gtb_in (i := 1063) (by decide +kernel) (by decide +kernel)
set_option maxRecDepth 100000 in
theorem gw766 : Jvm.Cond.methodLink "LeftAnswersLaw" 128 ⟨"LeftAnswersModel", "best", "()I"⟩ ∈ gtb := gtb_in (i := 1936) (by decide +kernel) (by decide +kernel)
set_option maxRecDepth 100000 in
theorem gw767 : Jvm.Cond.selects "LeftAnswersModel" ⟨"LeftAnswersModel", "best", "()I"⟩ ⟨"LeftAnswersModel", "best", "()I"⟩ ∈ gtb := gtb_in (i := 1938) (by decide +kernel) (by decide +kernel)
set_option maxRecDepth 100000 in
theorem gw768 : Jvm.Cond.code ⟨"LeftAnswersModel", "best", "()I"⟩ prog_15_method_89_code 2 (some .int) ∈ gtb := gtb_in (i := 1939) (by decide +kernel) (by decide +kernel)
set_option maxRecDepth 100000 in
theorem gw769 : Jvm.Cond.instanceMethod ⟨"LeftAnswersModel", "best", "()I"⟩ ∈ gtb := gtb_in (i := 1937) (by decide +kernel) (by decide +kernel)
set_option maxRecDepth 100000 in
theorem gw770 : Jvm.Cond.methodLink "LeftAnswersLaw" 129 ⟨"LeftAnswers", "bestOf", "(I)I"⟩ ∈ gtb := gtb_in (i := 1081) (by decide +kernel) (by decide +kernel)
set_option maxRecDepth 100000 in
theorem gw771 : Jvm.Cond.selects "LeftAnswers" ⟨"LeftAnswers", "bestOf", "(I)I"⟩ ⟨"LeftAnswers", "bestOf", "(I)I"⟩ ∈ gtb := gtb_in (i := 1083) (by decide +kernel) (by decide +kernel)
set_option maxRecDepth 100000 in
theorem gw772 : Jvm.Cond.code ⟨"LeftAnswers", "bestOf", "(I)I"⟩ prog_1_method_27_code 2 (some .int) ∈ gtb := gtb_in (i := 1084) (by decide +kernel) (by decide +kernel)
set_option maxRecDepth 100000 in
theorem gw773 : Jvm.Cond.instanceMethod ⟨"LeftAnswers", "bestOf", "(I)I"⟩ ∈ gtb := gtb_in (i := 1082) (by decide +kernel) (by decide +kernel)
set_option maxRecDepth 100000 in
theorem gw774 : Jvm.Cond.methodLink "LeftAnswersLaw" 132 ⟨"LeftAnswersModel", "bestOf", "(I)I"⟩ ∈ gtb := gtb_in (i := 1952) (by decide +kernel) (by decide +kernel)
set_option maxRecDepth 100000 in
theorem gw775 : Jvm.Cond.selects "LeftAnswersModel" ⟨"LeftAnswersModel", "bestOf", "(I)I"⟩ ⟨"LeftAnswersModel", "bestOf", "(I)I"⟩ ∈ gtb := gtb_in (i := 1954) (by decide +kernel) (by decide +kernel)
set_option maxRecDepth 100000 in
theorem gw776 : Jvm.Cond.code ⟨"LeftAnswersModel", "bestOf", "(I)I"⟩ prog_15_method_90_code 2 (some .int) ∈ gtb := gtb_in (i := 1955) (by decide +kernel) (by decide +kernel)
set_option maxRecDepth 100000 in
theorem gw777 : Jvm.Cond.instanceMethod ⟨"LeftAnswersModel", "bestOf", "(I)I"⟩ ∈ gtb := gtb_in (i := 1953) (by decide +kernel) (by decide +kernel)
set_option maxRecDepth 100000 in
theorem gw778 : Jvm.Cond.methodLink "LeftAnswersLaw" 133 ⟨"LeftAnswers", "earns", "(I)I"⟩ ∈ gtb := gtb_in (i := 1085) (by decide +kernel) (by decide +kernel)
set_option maxRecDepth 100000 in
theorem gw779 : Jvm.Cond.selects "LeftAnswers" ⟨"LeftAnswers", "earns", "(I)I"⟩ ⟨"LeftAnswers", "earns", "(I)I"⟩ ∈ gtb := gtb_in (i := 1087) (by decide +kernel) (by decide +kernel)
set_option maxRecDepth 100000 in
theorem gw780 : Jvm.Cond.code ⟨"LeftAnswers", "earns", "(I)I"⟩ prog_1_method_28_code 2 (some .int) ∈ gtb := gtb_in (i := 1088) (by decide +kernel) (by decide +kernel)
set_option maxRecDepth 100000 in
theorem gw781 : Jvm.Cond.instanceMethod ⟨"LeftAnswers", "earns", "(I)I"⟩ ∈ gtb := gtb_in (i := 1086) (by decide +kernel) (by decide +kernel)
set_option maxRecDepth 100000 in
theorem gw782 : Jvm.Cond.methodLink "LeftAnswersLaw" 136 ⟨"LeftAnswersModel", "earns", "(I)I"⟩ ∈ gtb := gtb_in (i := 1956) (by decide +kernel) (by decide +kernel)
set_option maxRecDepth 100000 in
theorem gw783 : Jvm.Cond.selects "LeftAnswersModel" ⟨"LeftAnswersModel", "earns", "(I)I"⟩ ⟨"LeftAnswersModel", "earns", "(I)I"⟩ ∈ gtb := gtb_in (i := 1958) (by decide +kernel) (by decide +kernel)
set_option maxRecDepth 100000 in
theorem gw784 : Jvm.Cond.code ⟨"LeftAnswersModel", "earns", "(I)I"⟩ prog_15_method_92_code 3 (some .int) ∈ gtb := gtb_in (i := 1959) (by decide +kernel) (by decide +kernel)
set_option maxRecDepth 100000 in
theorem gw785 : Jvm.Cond.instanceMethod ⟨"LeftAnswersModel", "earns", "(I)I"⟩ ∈ gtb := gtb_in (i := 1957) (by decide +kernel) (by decide +kernel)
set_option maxRecDepth 100000 in
theorem gw786 : Jvm.Cond.methodLink "LeftAnswersLaw" 137 ⟨"LeftAnswers", "richest", "()I"⟩ ∈ gtb := gtb_in (i := 1099) (by decide +kernel) (by decide +kernel)
set_option maxRecDepth 100000 in
theorem gw787 : Jvm.Cond.selects "LeftAnswers" ⟨"LeftAnswers", "richest", "()I"⟩ ⟨"LeftAnswers", "richest", "()I"⟩ ∈ gtb := gtb_in (i := 1101) (by decide +kernel) (by decide +kernel)
set_option maxRecDepth 100000 in
theorem gw788 : Jvm.Cond.code ⟨"LeftAnswers", "richest", "()I"⟩ prog_1_method_29_code 4 (some .int) ∈ gtb := gtb_in (i := 1102) (by decide +kernel) (by decide +kernel)
set_option maxRecDepth 100000 in
theorem gw789 : Jvm.Cond.instanceMethod ⟨"LeftAnswers", "richest", "()I"⟩ ∈ gtb := gtb_in (i := 1100) (by decide +kernel) (by decide +kernel)
set_option maxRecDepth 100000 in
theorem gw790 : Jvm.Cond.methodLink "LeftAnswersLaw" 140 ⟨"LeftAnswersModel", "richest", "()I"⟩ ∈ gtb := gtb_in (i := 1964) (by decide +kernel) (by decide +kernel)
set_option maxRecDepth 100000 in
theorem gw791 : Jvm.Cond.selects "LeftAnswersModel" ⟨"LeftAnswersModel", "richest", "()I"⟩ ⟨"LeftAnswersModel", "richest", "()I"⟩ ∈ gtb := gtb_in (i := 1966) (by decide +kernel) (by decide +kernel)
set_option maxRecDepth 100000 in
theorem gw792 : Jvm.Cond.code ⟨"LeftAnswersModel", "richest", "()I"⟩ prog_15_method_93_code 3 (some .int) ∈ gtb := gtb_in (i := 1967) (by decide +kernel) (by decide +kernel)
set_option maxRecDepth 100000 in
theorem gw793 : Jvm.Cond.instanceMethod ⟨"LeftAnswersModel", "richest", "()I"⟩ ∈ gtb := gtb_in (i := 1965) (by decide +kernel) (by decide +kernel)
set_option maxRecDepth 100000 in
theorem gw794 : Jvm.Cond.methodLink "LeftAnswersLaw" 141 ⟨"LeftAnswers", "slip", "(I)I"⟩ ∈ gtb := gtb_in (i := 1103) (by decide +kernel) (by decide +kernel)
set_option maxRecDepth 100000 in
theorem gw795 : Jvm.Cond.selects "LeftAnswers" ⟨"LeftAnswers", "slip", "(I)I"⟩ ⟨"LeftAnswers", "slip", "(I)I"⟩ ∈ gtb := gtb_in (i := 1105) (by decide +kernel) (by decide +kernel)
set_option maxRecDepth 100000 in
theorem gw796 : Jvm.Cond.code ⟨"LeftAnswers", "slip", "(I)I"⟩ prog_1_method_30_code 2 (some .int) ∈ gtb := gtb_in (i := 1106) (by decide +kernel) (by decide +kernel)
set_option maxRecDepth 100000 in
theorem gw797 : Jvm.Cond.instanceMethod ⟨"LeftAnswers", "slip", "(I)I"⟩ ∈ gtb := gtb_in (i := 1104) (by decide +kernel) (by decide +kernel)
set_option maxRecDepth 100000 in
theorem gw798 : Jvm.Cond.methodLink "LeftAnswersLaw" 144 ⟨"LeftAnswersModel", "slip", "(I)I"⟩ ∈ gtb := gtb_in (i := 1968) (by decide +kernel) (by decide +kernel)
set_option maxRecDepth 100000 in
theorem gw799 : Jvm.Cond.selects "LeftAnswersModel" ⟨"LeftAnswersModel", "slip", "(I)I"⟩ ⟨"LeftAnswersModel", "slip", "(I)I"⟩ ∈ gtb := gtb_in (i := 1970) (by decide +kernel) (by decide +kernel)
set_option maxRecDepth 100000 in
theorem gw800 : Jvm.Cond.code ⟨"LeftAnswersModel", "slip", "(I)I"⟩ prog_15_method_98_code 2 (some .int) ∈ gtb := gtb_in (i := 1971) (by decide +kernel) (by decide +kernel)
set_option maxRecDepth 100000 in
theorem gw801 : Jvm.Cond.instanceMethod ⟨"LeftAnswersModel", "slip", "(I)I"⟩ ∈ gtb := gtb_in (i := 1969) (by decide +kernel) (by decide +kernel)
set_option maxRecDepth 100000 in
theorem gw802 : Jvm.Cond.methodLink "LeftAnswersLaw" 145 ⟨"LeftAnswers", "byteAt", "(I)I"⟩ ∈ gtb := gtb_in (i := 1182) (by decide +kernel) (by decide +kernel)
set_option maxRecDepth 100000 in
theorem gw803 : Jvm.Cond.selects "LeftAnswers" ⟨"LeftAnswers", "byteAt", "(I)I"⟩ ⟨"LeftAnswers", "byteAt", "(I)I"⟩ ∈ gtb := gtb_in (i := 1184) (by decide +kernel) (by decide +kernel)
set_option maxRecDepth 100000 in
theorem gw804 : Jvm.Cond.code ⟨"LeftAnswers", "byteAt", "(I)I"⟩ prog_1_method_31_code 2 (some .int) ∈ gtb := gtb_in (i := 1185) (by decide +kernel) (by decide +kernel)
set_option maxRecDepth 100000 in
theorem gw805 : Jvm.Cond.instanceMethod ⟨"LeftAnswers", "byteAt", "(I)I"⟩ ∈ gtb := gtb_in (i := 1183) (by decide +kernel) (by decide +kernel)
set_option maxRecDepth 100000 in
theorem gw806 : Jvm.Cond.methodLink "LeftAnswersLaw" 148 ⟨"LeftAnswersModel", "byteAt", "(I)I"⟩ ∈ gtb := gtb_in (i := 1988) (by decide +kernel) (by decide +kernel)
set_option maxRecDepth 100000 in
theorem gw807 : Jvm.Cond.selects "LeftAnswersModel" ⟨"LeftAnswersModel", "byteAt", "(I)I"⟩ ⟨"LeftAnswersModel", "byteAt", "(I)I"⟩ ∈ gtb := gtb_in (i := 1990) (by decide +kernel) (by decide +kernel)
set_option maxRecDepth 100000 in
theorem gw808 : Jvm.Cond.code ⟨"LeftAnswersModel", "byteAt", "(I)I"⟩ prog_15_method_99_code 2 (some .int) ∈ gtb := gtb_in (i := 1991) (by decide +kernel) (by decide +kernel)
set_option maxRecDepth 100000 in
theorem gw809 : Jvm.Cond.instanceMethod ⟨"LeftAnswersModel", "byteAt", "(I)I"⟩ ∈ gtb := gtb_in (i := 1989) (by decide +kernel) (by decide +kernel)
set_option maxRecDepth 100000 in
theorem gw810 : Jvm.Cond.methodLink "LeftAnswersLaw" 149 ⟨"LeftAnswers", "drawn", "(II)I"⟩ ∈ gtb := gtb_in (i := 1186) (by decide +kernel) (by decide +kernel)
set_option maxRecDepth 100000 in
theorem gw811 : Jvm.Cond.selects "LeftAnswers" ⟨"LeftAnswers", "drawn", "(II)I"⟩ ⟨"LeftAnswers", "drawn", "(II)I"⟩ ∈ gtb := gtb_in (i := 1188) (by decide +kernel) (by decide +kernel)
set_option maxRecDepth 100000 in
theorem gw812 : Jvm.Cond.code ⟨"LeftAnswers", "drawn", "(II)I"⟩ prog_1_method_32_code 4 (some .int) ∈ gtb := gtb_in (i := 1189) (by decide +kernel) (by decide +kernel)
set_option maxRecDepth 100000 in
theorem gw813 : Jvm.Cond.instanceMethod ⟨"LeftAnswers", "drawn", "(II)I"⟩ ∈ gtb := gtb_in (i := 1187) (by decide +kernel) (by decide +kernel)
set_option maxRecDepth 100000 in
theorem gw814 : Jvm.Cond.methodLink "LeftAnswersLaw" 152 ⟨"LeftAnswersModel", "drawn", "(II)I"⟩ ∈ gtb := gtb_in (i := 1992) (by decide +kernel) (by decide +kernel)
set_option maxRecDepth 100000 in
theorem gw815 : Jvm.Cond.selects "LeftAnswersModel" ⟨"LeftAnswersModel", "drawn", "(II)I"⟩ ⟨"LeftAnswersModel", "drawn", "(II)I"⟩ ∈ gtb := gtb_in (i := 1994) (by decide +kernel) (by decide +kernel)
set_option maxRecDepth 100000 in
theorem gw816 : Jvm.Cond.code ⟨"LeftAnswersModel", "drawn", "(II)I"⟩ prog_15_method_103_code 3 (some .int) ∈ gtb := gtb_in (i := 1995) (by decide +kernel) (by decide +kernel)
set_option maxRecDepth 100000 in
theorem gw817 : Jvm.Cond.instanceMethod ⟨"LeftAnswersModel", "drawn", "(II)I"⟩ ∈ gtb := gtb_in (i := 1993) (by decide +kernel) (by decide +kernel)
set_option maxRecDepth 100000 in
theorem gw818 : Jvm.Cond.methodLink "LeftAnswersLaw" 153 ⟨"LeftAnswers", "odds", "(III)I"⟩ ∈ gtb := gtb_in (i := 1203) (by decide +kernel) (by decide +kernel)
set_option maxRecDepth 100000 in
theorem gw819 : Jvm.Cond.selects "LeftAnswers" ⟨"LeftAnswers", "odds", "(III)I"⟩ ⟨"LeftAnswers", "odds", "(III)I"⟩ ∈ gtb := gtb_in (i := 1205) (by decide +kernel) (by decide +kernel)
set_option maxRecDepth 100000 in
theorem gw820 : Jvm.Cond.code ⟨"LeftAnswers", "odds", "(III)I"⟩ prog_1_method_33_code 7 (some .int) ∈ gtb := gtb_in (i := 1206) (by decide +kernel) (by decide +kernel)
set_option maxRecDepth 100000 in
theorem gw821 : Jvm.Cond.instanceMethod ⟨"LeftAnswers", "odds", "(III)I"⟩ ∈ gtb := gtb_in (i := 1204) (by decide +kernel) (by decide +kernel)
set_option maxRecDepth 100000 in
theorem gw822 : Jvm.Cond.methodLink "LeftAnswersLaw" 156 ⟨"LeftAnswersModel", "odds", "(III)I"⟩ ∈ gtb := gtb_in (i := 2009) (by decide +kernel) (by decide +kernel)
set_option maxRecDepth 100000 in
theorem gw823 : Jvm.Cond.selects "LeftAnswersModel" ⟨"LeftAnswersModel", "odds", "(III)I"⟩ ⟨"LeftAnswersModel", "odds", "(III)I"⟩ ∈ gtb := gtb_in (i := 2011) (by decide +kernel) (by decide +kernel)
set_option maxRecDepth 100000 in
theorem gw824 : Jvm.Cond.code ⟨"LeftAnswersModel", "odds", "(III)I"⟩ prog_15_method_106_code 6 (some .int) ∈ gtb := gtb_in (i := 2012) (by decide +kernel) (by decide +kernel)
set_option maxRecDepth 100000 in
theorem gw825 : Jvm.Cond.instanceMethod ⟨"LeftAnswersModel", "odds", "(III)I"⟩ ∈ gtb := gtb_in (i := 2010) (by decide +kernel) (by decide +kernel)
set_option maxRecDepth 100000 in
theorem gw826 : Jvm.Cond.methodLink "LeftAnswersLaw" 157 ⟨"LeftAnswers", "book", "(I)I"⟩ ∈ gtb := gtb_in (i := 1208) (by decide +kernel) (by decide +kernel)
set_option maxRecDepth 100000 in
theorem gw827 : Jvm.Cond.selects "LeftAnswers" ⟨"LeftAnswers", "book", "(I)I"⟩ ⟨"LeftAnswers", "book", "(I)I"⟩ ∈ gtb := gtb_in (i := 1210) (by decide +kernel) (by decide +kernel)
set_option maxRecDepth 100000 in
theorem gw828 : Jvm.Cond.code ⟨"LeftAnswers", "book", "(I)I"⟩ prog_1_method_34_code 2 (some .int) ∈ gtb := gtb_in (i := 1211) (by decide +kernel) (by decide +kernel)
set_option maxRecDepth 100000 in
theorem gw829 : Jvm.Cond.instanceMethod ⟨"LeftAnswers", "book", "(I)I"⟩ ∈ gtb := gtb_in (i := 1209) (by decide +kernel) (by decide +kernel)
set_option maxRecDepth 100000 in
theorem gw830 : Jvm.Cond.methodLink "LeftAnswersLaw" 160 ⟨"LeftAnswersModel", "book", "(I)I"⟩ ∈ gtb := gtb_in (i := 2021) (by decide +kernel) (by decide +kernel)
set_option maxRecDepth 100000 in
theorem gw831 : Jvm.Cond.selects "LeftAnswersModel" ⟨"LeftAnswersModel", "book", "(I)I"⟩ ⟨"LeftAnswersModel", "book", "(I)I"⟩ ∈ gtb := gtb_in (i := 2023) (by decide +kernel) (by decide +kernel)
set_option maxRecDepth 100000 in
theorem gw832 : Jvm.Cond.code ⟨"LeftAnswersModel", "book", "(I)I"⟩ prog_15_method_113_code 4 (some .int) ∈ gtb := gtb_in (i := 2024) (by decide +kernel) (by decide +kernel)
set_option maxRecDepth 100000 in
theorem gw833 : Jvm.Cond.instanceMethod ⟨"LeftAnswersModel", "book", "(I)I"⟩ ∈ gtb := gtb_in (i := 2022) (by decide +kernel) (by decide +kernel)
set_option maxRecDepth 100000 in
theorem gw834 : Jvm.Cond.methodLink "LeftAnswersLaw" 161 ⟨"LeftAnswers", "told", "(I)I"⟩ ∈ gtb := gtb_in (i := 1257) (by decide +kernel) (by decide +kernel)
set_option maxRecDepth 100000 in
theorem gw835 : Jvm.Cond.selects "LeftAnswers" ⟨"LeftAnswers", "told", "(I)I"⟩ ⟨"LeftAnswers", "told", "(I)I"⟩ ∈ gtb := gtb_in (i := 1259) (by decide +kernel) (by decide +kernel)
set_option maxRecDepth 100000 in
theorem gw836 : Jvm.Cond.code ⟨"LeftAnswers", "told", "(I)I"⟩ prog_1_method_35_code 2 (some .int) ∈ gtb := gtb_in (i := 1260) (by decide +kernel) (by decide +kernel)
set_option maxRecDepth 100000 in
theorem gw837 : Jvm.Cond.instanceMethod ⟨"LeftAnswers", "told", "(I)I"⟩ ∈ gtb := gtb_in (i := 1258) (by decide +kernel) (by decide +kernel)
set_option maxRecDepth 100000 in
theorem gw838 : Jvm.Cond.methodLink "LeftAnswersLaw" 164 ⟨"LeftAnswersModel", "told", "(I)I"⟩ ∈ gtb := gtb_in (i := 2053) (by decide +kernel) (by decide +kernel)
set_option maxRecDepth 100000 in
theorem gw839 : Jvm.Cond.selects "LeftAnswersModel" ⟨"LeftAnswersModel", "told", "(I)I"⟩ ⟨"LeftAnswersModel", "told", "(I)I"⟩ ∈ gtb := gtb_in (i := 2055) (by decide +kernel) (by decide +kernel)
set_option maxRecDepth 100000 in
theorem gw840 : Jvm.Cond.code ⟨"LeftAnswersModel", "told", "(I)I"⟩ prog_15_method_115_code 2 (some .int) ∈ gtb := gtb_in (i := 2056) (by decide +kernel) (by decide +kernel)
set_option maxRecDepth 100000 in
theorem gw841 : Jvm.Cond.instanceMethod ⟨"LeftAnswersModel", "told", "(I)I"⟩ ∈ gtb := gtb_in (i := 2054) (by decide +kernel) (by decide +kernel)
set_option maxRecDepth 100000 in
theorem gw842 : Jvm.Cond.methodLink "LeftAnswersLaw" 165 ⟨"LeftAnswers", "sentence", "()I"⟩ ∈ gtb := gtb_in (i := 1261) (by decide +kernel) (by decide +kernel)
set_option maxRecDepth 100000 in
theorem gw843 : Jvm.Cond.selects "LeftAnswers" ⟨"LeftAnswers", "sentence", "()I"⟩ ⟨"LeftAnswers", "sentence", "()I"⟩ ∈ gtb := gtb_in (i := 1263) (by decide +kernel) (by decide +kernel)
set_option maxRecDepth 100000 in
theorem gw844 : Jvm.Cond.code ⟨"LeftAnswers", "sentence", "()I"⟩ prog_1_method_36_code 2 (some .int) ∈ gtb := gtb_in (i := 1264) (by decide +kernel) (by decide +kernel)
set_option maxRecDepth 100000 in
theorem gw845 : Jvm.Cond.instanceMethod ⟨"LeftAnswers", "sentence", "()I"⟩ ∈ gtb := gtb_in (i := 1262) (by decide +kernel) (by decide +kernel)
set_option maxRecDepth 100000 in
theorem gw846 : Jvm.Cond.methodLink "LeftAnswersLaw" 168 ⟨"LeftAnswersModel", "sentence", "()I"⟩ ∈ gtb := gtb_in (i := 2057) (by decide +kernel) (by decide +kernel)
set_option maxRecDepth 100000 in
theorem gw847 : Jvm.Cond.selects "LeftAnswersModel" ⟨"LeftAnswersModel", "sentence", "()I"⟩ ⟨"LeftAnswersModel", "sentence", "()I"⟩ ∈ gtb := gtb_in (i := 2059) (by decide +kernel) (by decide +kernel)
set_option maxRecDepth 100000 in
theorem gw848 : Jvm.Cond.code ⟨"LeftAnswersModel", "sentence", "()I"⟩ prog_15_method_124_code 2 (some .int) ∈ gtb := gtb_in (i := 2060) (by decide +kernel) (by decide +kernel)
set_option maxRecDepth 100000 in
theorem gw849 : Jvm.Cond.instanceMethod ⟨"LeftAnswersModel", "sentence", "()I"⟩ ∈ gtb := gtb_in (i := 2058) (by decide +kernel) (by decide +kernel)
set_option maxRecDepth 100000 in
theorem gw850 : Jvm.Cond.methodLink "LeftAnswersLaw" 169 ⟨"LeftAnswers", "said", "(I)I"⟩ ∈ gtb := gtb_in (i := 1312) (by decide +kernel) (by decide +kernel)
set_option maxRecDepth 100000 in
theorem gw851 : Jvm.Cond.selects "LeftAnswers" ⟨"LeftAnswers", "said", "(I)I"⟩ ⟨"LeftAnswers", "said", "(I)I"⟩ ∈ gtb := gtb_in (i := 1314) (by decide +kernel) (by decide +kernel)
set_option maxRecDepth 100000 in
theorem gw852 : Jvm.Cond.code ⟨"LeftAnswers", "said", "(I)I"⟩ prog_1_method_37_code 3 (some .int) ∈ gtb := gtb_in (i := 1315) (by decide +kernel) (by decide +kernel)
set_option maxRecDepth 100000 in
theorem gw853 : Jvm.Cond.instanceMethod ⟨"LeftAnswers", "said", "(I)I"⟩ ∈ gtb := gtb_in (i := 1313) (by decide +kernel) (by decide +kernel)
set_option maxRecDepth 100000 in
theorem gw854 : Jvm.Cond.methodLink "LeftAnswersLaw" 172 ⟨"LeftAnswersModel", "said", "(I)I"⟩ ∈ gtb := gtb_in (i := 2093) (by decide +kernel) (by decide +kernel)
set_option maxRecDepth 100000 in
theorem gw855 : Jvm.Cond.selects "LeftAnswersModel" ⟨"LeftAnswersModel", "said", "(I)I"⟩ ⟨"LeftAnswersModel", "said", "(I)I"⟩ ∈ gtb := gtb_in (i := 2095) (by decide +kernel) (by decide +kernel)
set_option maxRecDepth 100000 in
theorem gw856 : Jvm.Cond.code ⟨"LeftAnswersModel", "said", "(I)I"⟩ prog_15_method_126_code 4 (some .int) ∈ gtb := gtb_in (i := 2096) (by decide +kernel) (by decide +kernel)
set_option maxRecDepth 100000 in
theorem gw857 : Jvm.Cond.instanceMethod ⟨"LeftAnswersModel", "said", "(I)I"⟩ ∈ gtb := gtb_in (i := 2094) (by decide +kernel) (by decide +kernel)
set_option maxRecDepth 100000 in
theorem gw858 : Jvm.Cond.methodLink "LeftAnswersLaw" 173 ⟨"LeftAnswers", "image", "(I)Z"⟩ ∈ gtb := gtb_in (i := 1344) (by decide +kernel) (by decide +kernel)
set_option maxRecDepth 100000 in
theorem gw859 : Jvm.Cond.selects "LeftAnswers" ⟨"LeftAnswers", "image", "(I)Z"⟩ ⟨"LeftAnswers", "image", "(I)Z"⟩ ∈ gtb := gtb_in (i := 1346) (by decide +kernel) (by decide +kernel)
set_option maxRecDepth 100000 in
theorem gw860 : Jvm.Cond.code ⟨"LeftAnswers", "image", "(I)Z"⟩ prog_1_method_38_code 2 (some .boolean) ∈ gtb := gtb_in (i := 1347) (by decide +kernel) (by decide +kernel)
set_option maxRecDepth 100000 in
theorem gw861 : Jvm.Cond.instanceMethod ⟨"LeftAnswers", "image", "(I)Z"⟩ ∈ gtb := gtb_in (i := 1345) (by decide +kernel) (by decide +kernel)
set_option maxRecDepth 100000 in
theorem gw862 : Jvm.Cond.methodLink "LeftAnswersLaw" 176 ⟨"LeftAnswersModel", "image", "(I)Z"⟩ ∈ gtb := gtb_in (i := 2101) (by decide +kernel) (by decide +kernel)
set_option maxRecDepth 100000 in
theorem gw863 : Jvm.Cond.selects "LeftAnswersModel" ⟨"LeftAnswersModel", "image", "(I)Z"⟩ ⟨"LeftAnswersModel", "image", "(I)Z"⟩ ∈ gtb := gtb_in (i := 2103) (by decide +kernel) (by decide +kernel)
set_option maxRecDepth 100000 in
theorem gw864 : Jvm.Cond.code ⟨"LeftAnswersModel", "image", "(I)Z"⟩ prog_15_method_127_code 3 (some .boolean) ∈ gtb := gtb_in (i := 2104) (by decide +kernel) (by decide +kernel)
set_option maxRecDepth 100000 in
theorem gw865 : Jvm.Cond.instanceMethod ⟨"LeftAnswersModel", "image", "(I)Z"⟩ ∈ gtb := gtb_in (i := 2102) (by decide +kernel) (by decide +kernel)
set_option maxRecDepth 100000 in
theorem gw866 : Jvm.Cond.methodLink "LeftAnswersLaw" 177 ⟨"LeftAnswers", "restore", "(I)Z"⟩ ∈ gtb := gtb_in (i := 1362) (by decide +kernel) (by decide +kernel)
set_option maxRecDepth 100000 in
theorem gw867 : Jvm.Cond.selects "LeftAnswers" ⟨"LeftAnswers", "restore", "(I)Z"⟩ ⟨"LeftAnswers", "restore", "(I)Z"⟩ ∈ gtb := gtb_in (i := 1364) (by decide +kernel) (by decide +kernel)
set_option maxRecDepth 100000 in
theorem gw868 : Jvm.Cond.code ⟨"LeftAnswers", "restore", "(I)Z"⟩ prog_1_method_39_code 2 (some .boolean) ∈ gtb := gtb_in (i := 1365) (by decide +kernel) (by decide +kernel)
set_option maxRecDepth 100000 in
theorem gw869 : Jvm.Cond.instanceMethod ⟨"LeftAnswers", "restore", "(I)Z"⟩ ∈ gtb := gtb_in (i := 1363) (by decide +kernel) (by decide +kernel)
set_option maxRecDepth 100000 in
theorem gw870 : Jvm.Cond.methodLink "LeftAnswersLaw" 180 ⟨"LeftAnswersModel", "restore", "(I)Z"⟩ ∈ gtb := gtb_in (i := 2105) (by decide +kernel) (by decide +kernel)
set_option maxRecDepth 100000 in
theorem gw871 : Jvm.Cond.selects "LeftAnswersModel" ⟨"LeftAnswersModel", "restore", "(I)Z"⟩ ⟨"LeftAnswersModel", "restore", "(I)Z"⟩ ∈ gtb := gtb_in (i := 2107) (by decide +kernel) (by decide +kernel)
set_option maxRecDepth 100000 in
theorem gw872 : Jvm.Cond.code ⟨"LeftAnswersModel", "restore", "(I)Z"⟩ prog_15_method_128_code 3 (some .boolean) ∈ gtb := gtb_in (i := 2108) (by decide +kernel) (by decide +kernel)
set_option maxRecDepth 100000 in
theorem gw873 : Jvm.Cond.instanceMethod ⟨"LeftAnswersModel", "restore", "(I)Z"⟩ ∈ gtb := gtb_in (i := 2106) (by decide +kernel) (by decide +kernel)
set_option maxRecDepth 100000 in
theorem gw874 : Jvm.Cond.methodLink "LeftAnswersLaw" 181 ⟨"LeftAnswers", "count", "(I)I"⟩ ∈ gtb := gtb_in (i := 1370) (by decide +kernel) (by decide +kernel)
set_option maxRecDepth 100000 in
theorem gw875 : Jvm.Cond.selects "LeftAnswers" ⟨"LeftAnswers", "count", "(I)I"⟩ ⟨"LeftAnswers", "count", "(I)I"⟩ ∈ gtb := gtb_in (i := 1372) (by decide +kernel) (by decide +kernel)
set_option maxRecDepth 100000 in
theorem gw876 : Jvm.Cond.code ⟨"LeftAnswers", "count", "(I)I"⟩ prog_1_method_40_code 2 (some .int) ∈ gtb := gtb_in (i := 1373) (by decide +kernel) (by decide +kernel)
set_option maxRecDepth 100000 in
theorem gw877 : Jvm.Cond.instanceMethod ⟨"LeftAnswers", "count", "(I)I"⟩ ∈ gtb := gtb_in (i := 1371) (by decide +kernel) (by decide +kernel)
set_option maxRecDepth 100000 in
theorem gw878 : Jvm.Cond.methodLink "LeftAnswersLaw" 184 ⟨"LeftAnswersModel", "count", "(I)I"⟩ ∈ gtb := gtb_in (i := 2109) (by decide +kernel) (by decide +kernel)
set_option maxRecDepth 100000 in
theorem gw879 : Jvm.Cond.selects "LeftAnswersModel" ⟨"LeftAnswersModel", "count", "(I)I"⟩ ⟨"LeftAnswersModel", "count", "(I)I"⟩ ∈ gtb := gtb_in (i := 2111) (by decide +kernel) (by decide +kernel)
set_option maxRecDepth 100000 in
theorem gw880 : Jvm.Cond.code ⟨"LeftAnswersModel", "count", "(I)I"⟩ prog_15_method_129_code 2 (some .int) ∈ gtb := gtb_in (i := 2112) (by decide +kernel) (by decide +kernel)
set_option maxRecDepth 100000 in
theorem gw881 : Jvm.Cond.instanceMethod ⟨"LeftAnswersModel", "count", "(I)I"⟩ ∈ gtb := gtb_in (i := 2110) (by decide +kernel) (by decide +kernel)
