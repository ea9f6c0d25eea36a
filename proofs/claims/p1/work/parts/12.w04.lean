set_option maxRecDepth 100000 in
theorem gw600 : Jvm.Cond.code ⟨"LeftAnswersModel", "fault", "()I"⟩ prog_15_method_42_code 1 (some .int) ∈ gtb := gtb_in (i := 1751) (by decide +kernel) (by decide +kernel)
set_option maxRecDepth 100000 in
theorem gw601 : Jvm.Cond.instanceMethod ⟨"LeftAnswersModel", "fault", "()I"⟩ ∈ gtb := gtb_in (i := 1749) (by decide +kernel) (by decide +kernel)
set_option maxRecDepth 100000 in
theorem gw602 : Jvm.Cond.methodLink "LeftAnswersLaw" 43 ⟨"LeftAnswersModel", "person", "(II)I"⟩ ∈ gtb := gtb_in (i := 1752) (by decide +kernel) (by decide +kernel)
set_option maxRecDepth 100000 in
theorem gw603 : Jvm.Cond.selects "LeftAnswersModel" ⟨"LeftAnswersModel", "person", "(II)I"⟩ ⟨"LeftAnswersModel", "person", "(II)I"⟩ ∈ gtb := gtb_in (i := 1754) (by decide +kernel) (by decide +kernel)
set_option maxRecDepth 100000 in
theorem gw604 : Jvm.Cond.code ⟨"LeftAnswersModel", "person", "(II)I"⟩ prog_15_method_52_code 3 (some .int) ∈ gtb := gtb_in (i := 1755) (by decide +kernel) (by decide +kernel)
set_option maxRecDepth 100000 in
theorem gw605 : Jvm.Cond.instanceMethod ⟨"LeftAnswersModel", "person", "(II)I"⟩ ∈ gtb := gtb_in (i := 1753) (by decide +kernel) (by decide +kernel)
set_option maxRecDepth 100000 in
theorem gw606 : Jvm.Cond.methodLink "LeftAnswersLaw" 44 ⟨"LeftAnswersModel", "thrown", "()I"⟩ ∈ gtb := gtb_in (i := 1449) (by decide +kernel) (by decide +kernel)
set_option maxRecDepth 100000 in
theorem gw607 : Jvm.Cond.selects "LeftAnswersModel" ⟨"LeftAnswersModel", "thrown", "()I"⟩ ⟨"LeftAnswersModel", "thrown", "()I"⟩ ∈ gtb := gtb_in (i := 1451) (by decide +kernel) (by decide +kernel)
set_option maxRecDepth 100000 in
theorem gw608 : Jvm.Cond.code ⟨"LeftAnswersModel", "thrown", "()I"⟩ prog_15_method_1_code 1 (some .int) ∈ gtb := gtb_in (i := 1452) (by decide +kernel) (by decide +kernel)
set_option maxRecDepth 100000 in
theorem gw609 : Jvm.Cond.instanceMethod ⟨"LeftAnswersModel", "thrown", "()I"⟩ ∈ gtb := gtb_in (i := 1450) (by decide +kernel) (by decide +kernel)
set_option maxRecDepth 100000 in
theorem gw610 : Jvm.Cond.methodLink "LeftAnswersLaw" 47 ⟨"LeftAnswers", "skill", "(II)I"⟩ ∈ gtb := gtb_in (i := 762) (by decide +kernel) (by decide +kernel)
set_option maxRecDepth 100000 in
theorem gw611 : Jvm.Cond.selects "LeftAnswers" ⟨"LeftAnswers", "skill", "(II)I"⟩ ⟨"LeftAnswers", "skill", "(II)I"⟩ ∈ gtb := gtb_in (i := 764) (by decide +kernel) (by decide +kernel)
set_option maxRecDepth 100000 in
theorem gw612 : Jvm.Cond.code ⟨"LeftAnswers", "skill", "(II)I"⟩ prog_1_method_7_code 3 (some .int) ∈ gtb := gtb_in (i := 765) (by decide +kernel) (by decide +kernel)
set_option maxRecDepth 100000 in
theorem gw613 : Jvm.Cond.instanceMethod ⟨"LeftAnswers", "skill", "(II)I"⟩ ∈ gtb := gtb_in (i := 763) (by decide +kernel) (by decide +kernel)
set_option maxRecDepth 100000 in
theorem gw614 : Jvm.Cond.methodLink "LeftAnswersLaw" 50 ⟨"LeftAnswersModel", "skill", "(II)I"⟩ ∈ gtb := gtb_in (i := 1776) (by decide +kernel) (by decide +kernel)
set_option maxRecDepth 100000 in
theorem gw615 : Jvm.Cond.selects "LeftAnswersModel" ⟨"LeftAnswersModel", "skill", "(II)I"⟩ ⟨"LeftAnswersModel", "skill", "(II)I"⟩ ∈ gtb := gtb_in (i := 1778) (by decide +kernel) (by decide +kernel)
set_option maxRecDepth 100000 in
theorem gw616 : Jvm.Cond.code ⟨"LeftAnswersModel", "skill", "(II)I"⟩ prog_15_method_53_code 3 (some .int) ∈ gtb := gtb_in (i := 1779) (by decide +kernel) (by decide +kernel)
set_option maxRecDepth 100000 in
theorem gw617 : Jvm.Cond.instanceMethod ⟨"LeftAnswersModel", "skill", "(II)I"⟩ ∈ gtb := gtb_in (i := 1777) (by decide +kernel) (by decide +kernel)
set_option maxRecDepth 100000 in
theorem gw618 : Jvm.Cond.methodLink "LeftAnswersLaw" 51 ⟨"LeftAnswers", "deed", "(II)I"⟩ ∈ gtb := gtb_in (i := 777) (by decide +kernel) (by decide +kernel)
set_option maxRecDepth 100000 in
theorem gw619 : Jvm.Cond.selects "LeftAnswers" ⟨"LeftAnswers", "deed", "(II)I"⟩ ⟨"LeftAnswers", "deed", "(II)I"⟩ ∈ gtb := gtb_in (i := 779) (by decide +kernel) (by decide +kernel)
set_option maxRecDepth 100000 in
theorem gw620 : Jvm.Cond.code ⟨"LeftAnswers", "deed", "(II)I"⟩ prog_1_method_8_code 3 (some .int) ∈ gtb := gtb_in (i := 780) (by decide +kernel) (by decide +kernel)
set_option maxRecDepth 100000 in
theorem gw621 : Jvm.Cond.instanceMethod ⟨"LeftAnswers", "deed", "(II)I"⟩ ∈ gtb := gtb_in (i := 778) (by decide +kernel) (by decide +kernel)
set_option maxRecDepth 100000 in
theorem gw622 : Jvm.Cond.methodLink "LeftAnswersLaw" 54 ⟨"LeftAnswersModel", "deed", "(II)I"⟩ ∈ gtb := gtb_in (i := 1784) (by decide +kernel) (by decide +kernel)
set_option maxRecDepth 100000 in
theorem gw623 : Jvm.Cond.selects "LeftAnswersModel" ⟨"LeftAnswersModel", "deed", "(II)I"⟩ ⟨"LeftAnswersModel", "deed", "(II)I"⟩ ∈ gtb := gtb_in (i := 1786) (by decide +kernel) (by decide +kernel)
set_option maxRecDepth 100000 in
theorem gw624 : Jvm.Cond.code ⟨"LeftAnswersModel", "deed", "(II)I"⟩ prog_15_method_54_code 3 (some .int) ∈ gtb := gtb_in (i := 1787) (by decide +kernel) (by decide +kernel)
set_option maxRecDepth 100000 in
theorem gw625 : Jvm.Cond.instanceMethod ⟨"LeftAnswersModel", "deed", "(II)I"⟩ ∈ gtb := gtb_in (i := 1785) (by decide +kernel) (by decide +kernel)
set_option maxRecDepth 100000 in
theorem gw626 : Jvm.Cond.methodLink "LeftAnswersLaw" 55 ⟨"LeftAnswers", "now", "(I)I"⟩ ∈ gtb := gtb_in (i := 789) (by decide +kernel) (by decide +kernel)
set_option maxRecDepth 100000 in
theorem gw627 : Jvm.Cond.selects "LeftAnswers" ⟨"LeftAnswers", "now", "(I)I"⟩ ⟨"LeftAnswers", "now", "(I)I"⟩ ∈ gtb := gtb_in (i := 791) (by decide +kernel) (by decide +kernel)
set_option maxRecDepth 100000 in
theorem gw628 : Jvm.Cond.code ⟨"LeftAnswers", "now", "(I)I"⟩ prog_1_method_9_code 2 (some .int) ∈ gtb := gtb_in (i := 792) (by decide +kernel) (by decide +kernel)
set_option maxRecDepth 100000 in
theorem gw629 : Jvm.Cond.instanceMethod ⟨"LeftAnswers", "now", "(I)I"⟩ ∈ gtb := gtb_in (i := 790) (by decide +kernel) (by decide +kernel)
set_option maxRecDepth 100000 in
theorem gw630 : Jvm.Cond.methodLink "LeftAnswersLaw" 59 ⟨"LeftAnswersModel", "now", "(I)I"⟩ ∈ gtb := gtb_in (i := 1792) (by decide +kernel) (by decide +kernel)
set_option maxRecDepth 100000 in
theorem gw631 : Jvm.Cond.selects "LeftAnswersModel" ⟨"LeftAnswersModel", "now", "(I)I"⟩ ⟨"LeftAnswersModel", "now", "(I)I"⟩ ∈ gtb := gtb_in (i := 1794) (by decide +kernel) (by decide +kernel)
set_option maxRecDepth 100000 in
theorem gw632 : Jvm.Cond.code ⟨"LeftAnswersModel", "now", "(I)I"⟩ prog_15_method_56_code 4 (some .int) ∈ gtb := gtb_in (i := 1795) (by decide +kernel) (by decide +kernel)
set_option maxRecDepth 100000 in
theorem gw633 : Jvm.Cond.instanceMethod ⟨"LeftAnswersModel", "now", "(I)I"⟩ ∈ gtb := gtb_in (i := 1793) (by decide +kernel) (by decide +kernel)
set_option maxRecDepth 100000 in
theorem gw634 : Jvm.Cond.methodLink "LeftAnswersLaw" 60 ⟨"LeftAnswers", "does", "(III)I"⟩ ∈ gtb := gtb_in (i := 818) (by decide +kernel) (by decide +kernel)
set_option maxRecDepth 100000 in
theorem gw635 : Jvm.Cond.selects "LeftAnswers" ⟨"LeftAnswers", "does", "(III)I"⟩ ⟨"LeftAnswers", "does", "(III)I"⟩ ∈ gtb := gtb_in (i := 820) (by decide +kernel) (by decide +kernel)
set_option maxRecDepth 100000 in
theorem gw636 : Jvm.Cond.code ⟨"LeftAnswers", "does", "(III)I"⟩ prog_1_method_10_code 4 (some .int) ∈ gtb := gtb_in (i := 821) (by decide +kernel) (by decide +kernel)
set_option maxRecDepth 100000 in
theorem gw637 : Jvm.Cond.instanceMethod ⟨"LeftAnswers", "does", "(III)I"⟩ ∈ gtb := gtb_in (i := 819) (by decide +kernel) (by decide +kernel)
set_option maxRecDepth 100000 in
theorem gw638 : Jvm.Cond.methodLink "LeftAnswersLaw" 64 ⟨"LeftAnswersModel", "does", "(III)I"⟩ ∈ gtb := gtb_in (i := 1808) (by decide +kernel) (by decide +kernel)
set_option maxRecDepth 100000 in
theorem gw639 : Jvm.Cond.selects "LeftAnswersModel" ⟨"LeftAnswersModel", "does", "(III)I"⟩ ⟨"LeftAnswersModel", "does", "(III)I"⟩ ∈ gtb := gtb_in (i := 1810) (by decide +kernel) (by decide +kernel)
set_option maxRecDepth 100000 in
theorem gw640 : Jvm.Cond.code ⟨"LeftAnswersModel", "does", "(III)I"⟩ prog_15_method_64_code 4 (some .int) ∈ gtb := gtb_in (i := 1811) (by decide +kernel) (by decide +kernel)
set_option maxRecDepth 100000 in
theorem gw641 : Jvm.Cond.instanceMethod ⟨"LeftAnswersModel", "does", "(III)I"⟩ ∈ gtb := gtb_in (i := 1809) (by decide +kernel) (by decide +kernel)
set_option maxRecDepth 100000 in
theorem gw642 : Jvm.Cond.methodLink "LeftAnswersLaw" 65 ⟨"LeftAnswers", "wed", "(II)I"⟩ ∈ gtb := gtb_in (i := 901) (by decide +kernel) (by decide +kernel)
set_option maxRecDepth 100000 in
theorem gw643 : Jvm.Cond.selects "LeftAnswers" ⟨"LeftAnswers", "wed", "(II)I"⟩ ⟨"LeftAnswers", "wed", "(II)I"⟩ ∈ gtb := gtb_in (i := 903) (by decide +kernel) (by decide +kernel)
set_option maxRecDepth 100000 in
theorem gw644 : Jvm.Cond.code ⟨"LeftAnswers", "wed", "(II)I"⟩ prog_1_method_11_code 3 (some .int) ∈ gtb := gtb_in (i := 904) (by decide +kernel) (by decide +kernel)
set_option maxRecDepth 100000 in
theorem gw645 : Jvm.Cond.instanceMethod ⟨"LeftAnswers", "wed", "(II)I"⟩ ∈ gtb := gtb_in (i := 902) (by decide +kernel) (by decide +kernel)
set_option maxRecDepth 100000 in
theorem gw646 : Jvm.Cond.methodLink "LeftAnswersLaw" 68 ⟨"LeftAnswersModel", "wed", "(II)I"⟩ ∈ gtb := gtb_in (i := 1842) (by decide +kernel) (by decide +kernel)
set_option maxRecDepth 100000 in
theorem gw647 : Jvm.Cond.selects "LeftAnswersModel" ⟨"LeftAnswersModel", "wed", "(II)I"⟩ ⟨"LeftAnswersModel", "wed", "(II)I"⟩ ∈ gtb := gtb_in (i := 1844) (by decide +kernel) (by decide +kernel)
set_option maxRecDepth 100000 in
theorem gw648 : Jvm.Cond.code ⟨"LeftAnswersModel", "wed", "(II)I"⟩ prog_15_method_65_code 3 (some .int) ∈ gtb := gtb_in (i := 1845) (by decide +kernel) (by decide +kernel)
set_option maxRecDepth 100000 in
theorem gw649 : Jvm.Cond.instanceMethod ⟨"LeftAnswersModel", "wed", "(II)I"⟩ ∈ gtb := gtb_in (i := 1843) (by decide +kernel) (by decide +kernel)
set_option maxRecDepth 100000 in
theorem gw650 : Jvm.Cond.methodLink "LeftAnswersLaw" 69 ⟨"LeftAnswers", "part", "(I)I"⟩ ∈ gtb := gtb_in (i := 905) (by decide +kernel) (by decide +kernel)
set_option maxRecDepth 100000 in
theorem gw651 : Jvm.Cond.selects "LeftAnswers" ⟨"LeftAnswers", "part", "(I)I"⟩ ⟨"LeftAnswers", "part", "(I)I"⟩ ∈ gtb := gtb_in (i := 907) (by decide +kernel) (by decide +kernel)
set_option maxRecDepth 100000 in
theorem gw652 : Jvm.Cond.code ⟨"LeftAnswers", "part", "(I)I"⟩ prog_1_method_12_code 2 (some .int) ∈ gtb := gtb_in (i := 908) (by decide +kernel) (by decide +kernel)
set_option maxRecDepth 100000 in
theorem gw653 : Jvm.Cond.instanceMethod ⟨"LeftAnswers", "part", "(I)I"⟩ ∈ gtb := gtb_in (i := 906) (by decide +kernel) (by decide +kernel)
set_option maxRecDepth 100000 in
theorem gw654 : Jvm.Cond.methodLink "LeftAnswersLaw" 72 ⟨"LeftAnswersModel", "part", "(I)I"⟩ ∈ gtb := gtb_in (i := 1846) (by decide +kernel) (by decide +kernel)
set_option maxRecDepth 100000 in
theorem gw655 : Jvm.Cond.selects "LeftAnswersModel" ⟨"LeftAnswersModel", "part", "(I)I"⟩ ⟨"LeftAnswersModel", "part", "(I)I"⟩ ∈ gtb := gtb_in (i := 1848) (by decide +kernel) (by decide +kernel)
set_option maxRecDepth 100000 in
theorem gw656 : Jvm.Cond.code ⟨"LeftAnswersModel", "part", "(I)I"⟩ prog_15_method_66_code 2 (some .int) ∈ gtb := gtb_in (i := 1849) (by decide +kernel) (by decide +kernel)
set_option maxRecDepth 100000 in
theorem gw657 : Jvm.Cond.instanceMethod ⟨"LeftAnswersModel", "part", "(I)I"⟩ ∈ gtb := gtb_in (i := 1847) (by decide +kernel) (by decide +kernel)
set_option maxRecDepth 100000 in
theorem gw658 : Jvm.Cond.methodLink "LeftAnswersLaw" 73 ⟨"LeftAnswers", "glove", "(I)I"⟩ ∈ gtb := gtb_in (i := 909) (by decide +kernel) (by decide +kernel)
set_option maxRecDepth 100000 in
theorem gw659 : Jvm.Cond.selects "LeftAnswers" ⟨"LeftAnswers", "glove", "(I)I"⟩ ⟨"LeftAnswers", "glove", "(I)I"⟩ ∈ gtb := gtb_in (i := 911) (by decide +kernel) (by decide +kernel)
set_option maxRecDepth 100000 in
theorem gw660 : Jvm.Cond.code ⟨"LeftAnswers", "glove", "(I)I"⟩ prog_1_method_13_code 2 (some .int) ∈ gtb := gtb_in (i := 912) (by decide +kernel) (by decide +kernel)
set_option maxRecDepth 100000 in
theorem gw661 : Jvm.Cond.instanceMethod ⟨"LeftAnswers", "glove", "(I)I"⟩ ∈ gtb := gtb_in (i := 910) (by decide +kernel) (by decide +kernel)
set_option maxRecDepth 100000 in
theorem gw662 : Jvm.Cond.methodLink "LeftAnswersLaw" 76 ⟨"LeftAnswersModel", "glove", "(I)I"⟩ ∈ gtb := gtb_in (i := 1850) (by decide +kernel) (by decide +kernel)
set_option maxRecDepth 100000 in
theorem gw663 : Jvm.Cond.selects "LeftAnswersModel" ⟨"LeftAnswersModel", "glove", "(I)I"⟩ ⟨"LeftAnswersModel", "glove", "(I)I"⟩ ∈ gtb := gtb_in (i := 1852) (by decide +kernel) (by decide +kernel)
set_option maxRecDepth 100000 in
theorem gw664 : Jvm.Cond.code ⟨"LeftAnswersModel", "glove", "(I)I"⟩ prog_15_method_67_code 2 (some .int) ∈ gtb := gtb_in (i := 1853) (by decide +kernel) (by decide +kernel)
set_option maxRecDepth 100000 in
theorem gw665 : Jvm.Cond.instanceMethod ⟨"LeftAnswersModel", "glove", "(I)I"⟩ ∈ gtb := gtb_in (i := 1851) (by decide +kernel) (by decide +kernel)
set_option maxRecDepth 100000 in
theorem gw666 : Jvm.Cond.methodLink "LeftAnswersLaw" 77 ⟨"LeftAnswers", "bare", "(I)I"⟩ ∈ gtb := gtb_in (i := 913) (by decide +kernel) (by decide +kernel)
set_option maxRecDepth 100000 in
theorem gw667 : Jvm.Cond.selects "LeftAnswers" ⟨"LeftAnswers", "bare", "(I)I"⟩ ⟨"LeftAnswers", "bare", "(I)I"⟩ ∈ gtb := gtb_in (i := 915) (by decide +kernel) (by decide +kernel)
set_option maxRecDepth 100000 in
theorem gw668 : Jvm.Cond.code ⟨"LeftAnswers", "bare", "(I)I"⟩ prog_1_method_14_code 2 (some .int) ∈ gtb := gtb_in (i := 916) (by decide +kernel) (by decide +kernel)
set_option maxRecDepth 100000 in
theorem gw669 : Jvm.Cond.instanceMethod ⟨"LeftAnswers", "bare", "(I)I"⟩ ∈ gtb := gtb_in (i := 914) (by decide +kernel) (by decide +kernel)
set_option maxRecDepth 100000 in
theorem gw670 : Jvm.Cond.methodLink "LeftAnswersLaw" 80 ⟨"LeftAnswersModel", "bare", "(I)I"⟩ ∈ gtb := gtb_in (i := 1854) (by decide +kernel) (by decide +kernel)
set_option maxRecDepth 100000 in
theorem gw671 : Jvm.Cond.selects "LeftAnswersModel" ⟨"LeftAnswersModel", "bare", "(I)I"⟩ ⟨"LeftAnswersModel", "bare", "(I)I"⟩ ∈ gtb := gtb_in (i := 1856) (by decide +kernel) (by decide +kernel)
set_option maxRecDepth 100000 in
theorem gw672 : Jvm.Cond.code ⟨"LeftAnswersModel", "bare", "(I)I"⟩ prog_15_method_68_code 2 (some .int) ∈ gtb := gtb_in (i := 1857) (by decide +kernel) (by decide +kernel)
set_option maxRecDepth 100000 in
theorem gw673 : Jvm.Cond.instanceMethod ⟨"LeftAnswersModel", "bare", "(I)I"⟩ ∈ gtb := gtb_in (i := 1855) (by decide +kernel) (by decide +kernel)
set_option maxRecDepth 100000 in
theorem gw674 : Jvm.Cond.methodLink "LeftAnswersLaw" 81 ⟨"LeftAnswers", "days", "(I)I"⟩ ∈ gtb := gtb_in (i := 917) (by decide +kernel) (by decide +kernel)
set_option maxRecDepth 100000 in
theorem gw675 : Jvm.Cond.selects "LeftAnswers" ⟨"LeftAnswers", "days", "(I)I"⟩ ⟨"LeftAnswers", "days", "(I)I"⟩ ∈ gtb := gtb_in (i := 919) (by decide +kernel) (by decide +kernel)
set_option maxRecDepth 100000 in
theorem gw676 : Jvm.Cond.code ⟨"LeftAnswers", "days", "(I)I"⟩ prog_1_method_15_code 3 (some .int) ∈ gtb := gtb_in (i := 920) (by decide +kernel) (by decide +kernel)
set_option maxRecDepth 100000 in
theorem gw677 : Jvm.Cond.instanceMethod ⟨"LeftAnswers", "days", "(I)I"⟩ ∈ gtb := gtb_in (i := 918) (by decide +kernel) (by decide +kernel)
set_option maxRecDepth 100000 in
theorem gw678 : Jvm.Cond.methodLink "LeftAnswersLaw" 84 ⟨"LeftAnswersModel", "days", "(I)I"⟩ ∈ gtb := gtb_in (i := 1862) (by decide +kernel) (by decide +kernel)
set_option maxRecDepth 100000 in
theorem gw679 : Jvm.Cond.selects "LeftAnswersModel" ⟨"LeftAnswersModel", "days", "(I)I"⟩ ⟨"LeftAnswersModel", "days", "(I)I"⟩ ∈ gtb := gtb_in (i := 1864) (by decide +kernel) (by decide +kernel)
set_option maxRecDepth 100000 in
theorem gw680 : Jvm.Cond.code ⟨"LeftAnswersModel", "days", "(I)I"⟩ prog_15_method_72_code 2 (some .int) ∈ gtb := gtb_in (i := 1865) (by decide +kernel) (by decide +kernel)
set_option maxRecDepth 100000 in
theorem gw681 : Jvm.Cond.instanceMethod ⟨"LeftAnswersModel", "days", "(I)I"⟩ ∈ gtb := gtb_in (i := 1863) (by decide +kernel) (by decide +kernel)
set_option maxRecDepth 100000 in
theorem gw682 : Jvm.Cond.methodLink "LeftAnswersLaw" 85 ⟨"LeftAnswers", "undo", "()I"⟩ ∈ gtb := gtb_in (i := 924) (by decide +kernel) (by decide +kernel)
set_option maxRecDepth 100000 in
theorem gw683 : Jvm.Cond.selects "LeftAnswers" ⟨"LeftAnswers", "undo", "()I"⟩ ⟨"LeftAnswers", "undo", "()I"⟩ ∈ gtb := gtb_in (i := 926) (by decide +kernel) (by decide +kernel)
set_option maxRecDepth 100000 in
theorem gw684 : Jvm.Cond.code ⟨"LeftAnswers", "undo", "()I"⟩ prog_1_method_16_code 1 (some .int) ∈ gtb := gtb_in (i := 927) (by decide +kernel) (by decide +kernel)
set_option maxRecDepth 100000 in
theorem gw685 : Jvm.Cond.instanceMethod ⟨"LeftAnswers", "undo", "()I"⟩ ∈ gtb := gtb_in (i := 925) (by decide +kernel) (by decide +kernel)
set_option maxRecDepth 100000 in
theorem gw686 : Jvm.Cond.methodLink "LeftAnswersLaw" 88 ⟨"LeftAnswersModel", "undo", "()I"⟩ ∈ gtb := gtb_in (i := 1858) (by decide +kernel) (by decide +kernel)
set_option maxRecDepth 100000 in
theorem gw687 : Jvm.Cond.selects "LeftAnswersModel" ⟨"LeftAnswersModel", "undo", "()I"⟩ ⟨"LeftAnswersModel", "undo", "()I"⟩ ∈ gtb := gtb_in (i := 1860) (by decide +kernel) (by decide +kernel)
set_option maxRecDepth 100000 in
theorem gw688 : Jvm.Cond.code ⟨"LeftAnswersModel", "undo", "()I"⟩ prog_15_method_69_code 2 (some .int) ∈ gtb := gtb_in (i := 1861) (by decide +kernel) (by decide +kernel)
set_option maxRecDepth 100000 in
theorem gw689 : Jvm.Cond.instanceMethod ⟨"LeftAnswersModel", "undo", "()I"⟩ ∈ gtb := gtb_in (i := 1859) (by decide +kernel) (by decide +kernel)
set_option maxRecDepth 100000 in
theorem gw690 : Jvm.Cond.methodLink "LeftAnswersLaw" 89 ⟨"LeftAnswers", "able", "(II)I"⟩ ∈ gtb := gtb_in (i := 932) (by decide +kernel) (by decide +kernel)
set_option maxRecDepth 100000 in
theorem gw691 : Jvm.Cond.selects "LeftAnswers" ⟨"LeftAnswers", "able", "(II)I"⟩ ⟨"LeftAnswers", "able", "(II)I"⟩ ∈ gtb := gtb_in (i := 934) (by decide +kernel) (by decide +kernel)
set_option maxRecDepth 100000 in
theorem gw692 : Jvm.Cond.code ⟨"LeftAnswers", "able", "(II)I"⟩ prog_1_method_17_code 3 (some .int) ∈ gtb := gtb_in (i := 935) (by decide +kernel) (by decide +kernel)
set_option maxRecDepth 100000 in
theorem gw693 : Jvm.Cond.instanceMethod ⟨"LeftAnswers", "able", "(II)I"⟩ ∈ gtb := gtb_in (i := 933) (by decide +kernel) (by decide +kernel)
set_option maxRecDepth 100000 in
theorem gw694 : Jvm.Cond.methodLink "LeftAnswersLaw" 92 ⟨"LeftAnswersModel", "able", "(II)I"⟩ ∈ gtb := gtb_in (i := 1874) (by decide +kernel) (by decide +kernel)
set_option maxRecDepth 100000 in
theorem gw695 : Jvm.Cond.selects "LeftAnswersModel" ⟨"LeftAnswersModel", "able", "(II)I"⟩ ⟨"LeftAnswersModel", "able", "(II)I"⟩ ∈ gtb := gtb_in (i := 1876) (by decide +kernel) (by decide +kernel)
set_option maxRecDepth 100000 in
theorem gw696 : Jvm.Cond.code ⟨"LeftAnswersModel", "able", "(II)I"⟩ prog_15_method_73_code 5 (some .int) ∈ gtb := gtb_in (i := 1877) (by decide +kernel) (by decide +kernel)
set_option maxRecDepth 100000 in
theorem gw697 : Jvm.Cond.instanceMethod ⟨"LeftAnswersModel", "able", "(II)I"⟩ ∈ gtb := gtb_in (i := 1875) (by decide +kernel) (by decide +kernel)
set_option maxRecDepth 100000 in
theorem gw698 : Jvm.Cond.methodLink "LeftAnswersLaw" 93 ⟨"LeftAnswers", "parted", "()I"⟩ ∈ gtb := gtb_in (i := 940) (by decide +kernel) (by decide +kernel)
set_option maxRecDepth 100000 in
theorem gw699 : Jvm.Cond.selects "LeftAnswers" ⟨"LeftAnswers", "parted", "()I"⟩ ⟨"LeftAnswers", "parted", "()I"⟩ ∈ gtb := gtb_in (i := 942) (by decide +kernel) (by decide +kernel)
set_option maxRecDepth 100000 in
theorem gw700 : Jvm.Cond.code ⟨"LeftAnswers", "parted", "()I"⟩ prog_1_method_18_code 4 (some .int) ∈ gtb := gtb_in (i := 943) (by decide +kernel) (by decide +kernel)
set_option maxRecDepth 100000 in
theorem gw701 : Jvm.Cond.instanceMethod ⟨"LeftAnswers", "parted", "()I"⟩ ∈ gtb := gtb_in (i := 941) (by decide +kernel) (by decide +kernel)
set_option maxRecDepth 100000 in
theorem gw702 : Jvm.Cond.methodLink "LeftAnswersLaw" 96 ⟨"LeftAnswersModel", "parted", "()I"⟩ ∈ gtb := gtb_in (i := 1878) (by decide +kernel) (by decide +kernel)
set_option maxRecDepth 100000 in
theorem gw703 : Jvm.Cond.selects "LeftAnswersModel" ⟨"LeftAnswersModel", "parted", "()I"⟩ ⟨"LeftAnswersModel", "parted", "()I"⟩ ∈ gtb := gtb_in (i := 1880) (by decide +kernel) (by decide +kernel)
set_option maxRecDepth 100000 in
theorem gw704 : Jvm.Cond.code ⟨"LeftAnswersModel", "parted", "()I"⟩ prog_15_method_76_code 3 (some .int) ∈ gtb := gtb_in (i := 1881) (by decide +kernel) (by decide +kernel)
set_option maxRecDepth 100000 in
theorem gw705 : Jvm.Cond.instanceMethod ⟨"LeftAnswersModel", "parted", "()I"⟩ ∈ gtb := gtb_in (i := 1879) (by decide +kernel) (by decide +kernel)
set_option maxRecDepth 100000 in
theorem gw706 : Jvm.Cond.methodLink "LeftAnswersLaw" 97 ⟨"LeftAnswers", "partedAt", "(II)I"⟩ ∈ gtb := gtb_in (i := 978) (by decide +kernel) (by decide +kernel)
set_option maxRecDepth 100000 in
theorem gw707 : Jvm.Cond.selects "LeftAnswers" ⟨"LeftAnswers", "partedAt", "(II)I"⟩ ⟨"LeftAnswers", "partedAt", "(II)I"⟩ ∈ gtb := gtb_in (i := 980) (by decide +kernel) (by decide +kernel)
set_option maxRecDepth 100000 in
theorem gw708 : Jvm.Cond.code ⟨"LeftAnswers", "partedAt", "(II)I"⟩ prog_1_method_19_code 4 (some .int) ∈ gtb := gtb_in (i := 981) (by decide +kernel) (by decide +kernel)
set_option maxRecDepth 100000 in
theorem gw709 : Jvm.Cond.instanceMethod ⟨"LeftAnswers", "partedAt", "(II)I"⟩ ∈ gtb := gtb_in (i := 979) (by decide +kernel) (by decide +kernel)
set_option maxRecDepth 100000 in
theorem gw710 : Jvm.Cond.methodLink "LeftAnswersLaw" 100 ⟨"LeftAnswersModel", "partedAt", "(II)I"⟩ ∈ gtb := gtb_in (i := 1890) (by decide +kernel) (by decide +kernel)
set_option maxRecDepth 100000 in
theorem gw711 : Jvm.Cond.selects "LeftAnswersModel" ⟨"LeftAnswersModel", "partedAt", "(II)I"⟩ ⟨"LeftAnswersModel", "partedAt", "(II)I"⟩ ∈ gtb := gtb_in (i := 1892) (by decide +kernel) (by decide +kernel)
set_option maxRecDepth 100000 in
theorem gw712 : Jvm.Cond.code ⟨"LeftAnswersModel", "partedAt", "(II)I"⟩ prog_15_method_77_code 3 (some .int) ∈ gtb := gtb_in (i := 1893) (by decide +kernel) (by decide +kernel)
set_option maxRecDepth 100000 in
theorem gw713 : Jvm.Cond.instanceMethod ⟨"LeftAnswersModel", "partedAt", "(II)I"⟩ ∈ gtb := gtb_in (i := 1891) (by decide +kernel) (by decide +kernel)
set_option maxRecDepth 100000 in
theorem gw714 : Jvm.Cond.methodLink "LeftAnswersLaw" 101 ⟨"LeftAnswers", "fits", "()I"⟩ ∈ gtb := gtb_in (i := 986) (by decide +kernel) (by decide +kernel)
set_option maxRecDepth 100000 in
theorem gw715 : Jvm.Cond.selects "LeftAnswers" ⟨"LeftAnswers", "fits", "()I"⟩ ⟨"LeftAnswers", "fits", "()I"⟩ ∈ gtb := gtb_in (i := 988) (by decide +kernel) (by decide +kernel)
set_option maxRecDepth 100000 in
theorem gw716 : Jvm.Cond.code ⟨"LeftAnswers", "fits", "()I"⟩ prog_1_method_20_code 6 (some .int) ∈ gtb := gtb_in (i := 989) (by decide +kernel) (by decide +kernel)
set_option maxRecDepth 100000 in
theorem gw717 : Jvm.Cond.instanceMethod ⟨"LeftAnswers", "fits", "()I"⟩ ∈ gtb := gtb_in (i := 987) (by decide +kernel) (by decide +kernel)
set_option maxRecDepth 100000 in
theorem gw718 : Jvm.Cond.methodLink "LeftAnswersLaw" 104 ⟨"LeftAnswersModel", "fits", "()I"⟩ ∈ gtb := gtb_in (i := 1894) (by decide +kernel) (by decide +kernel)
set_option maxRecDepth 100000 in
theorem gw719 : Jvm.Cond.selects "LeftAnswersModel" ⟨"LeftAnswersModel", "fits", "()I"⟩ ⟨"LeftAnswersModel", "fits", "()I"⟩ ∈ gtb := gtb_in (i := 1896) (by decide +kernel) (by decide +kernel)
set_option maxRecDepth 100000 in
theorem gw720 : Jvm.Cond.code ⟨"LeftAnswersModel", "fits", "()I"⟩ prog_15_method_80_code 6 (some .int) ∈ gtb := gtb_in (i := 1897) (by decide +kernel) (by decide +kernel)
set_option maxRecDepth 100000 in
theorem gw721 : Jvm.Cond.instanceMethod ⟨"LeftAnswersModel", "fits", "()I"⟩ ∈ gtb := gtb_in (i := 1895) (by decide +kernel) (by decide +kernel)
set_option maxRecDepth 100000 in
theorem gw722 : Jvm.Cond.methodLink "LeftAnswersLaw" 105 ⟨"LeftAnswers", "fitAt", "(I)I"⟩ ∈ gtb := gtb_in (i := 1023) (by decide +kernel) (by decide +kernel)
set_option maxRecDepth 100000 in
theorem gw723 : Jvm.Cond.selects "LeftAnswers" ⟨"LeftAnswers", "fitAt", "(I)I"⟩ ⟨"LeftAnswers", "fitAt", "(I)I"⟩ ∈ gtb := gtb_in (i := 1025) (by decide +kernel) (by decide +kernel)
set_option maxRecDepth 100000 in
theorem gw724 : Jvm.Cond.code ⟨"LeftAnswers", "fitAt", "(I)I"⟩ prog_1_method_21_code 2 (some .int) ∈ gtb := gtb_in (i := 1026) (by decide +kernel) (by decide +kernel)
set_option maxRecDepth 100000 in
theorem gw725 : Jvm.Cond.instanceMethod ⟨"LeftAnswers", "fitAt", "(I)I"⟩ ∈ gtb := gtb_in (i := 1024) (by decide +kernel) (by decide +kernel)
set_option maxRecDepth 100000 in
theorem gw726 : Jvm.Cond.methodLink "LeftAnswersLaw" 108 ⟨"LeftAnswersModel", "fitAt", "(I)I"⟩ ∈ gtb := gtb_in (i := 1913) (by decide +kernel) (by decide +kernel)
set_option maxRecDepth 100000 in
theorem gw727 : Jvm.Cond.selects "LeftAnswersModel" ⟨"LeftAnswersModel", "fitAt", "(I)I"⟩ ⟨"LeftAnswersModel", "fitAt", "(I)I"⟩ ∈ gtb := gtb_in (i := 1915) (by decide +kernel) (by decide +kernel)
set_option maxRecDepth 100000 in
theorem gw728 : Jvm.Cond.code ⟨"LeftAnswersModel", "fitAt", "(I)I"⟩ prog_15_method_81_code 2 (some .int) ∈ gtb := gtb_in (i := 1916) (by decide +kernel) (by decide +kernel)
set_option maxRecDepth 100000 in
theorem gw729 : Jvm.Cond.instanceMethod ⟨"LeftAnswersModel", "fitAt", "(I)I"⟩ ∈ gtb := gtb_in (i := 1914) (by decide +kernel) (by decide +kernel)
set_option maxRecDepth 100000 in
theorem gw730 : Jvm.Cond.methodLink "LeftAnswersLaw" 109 ⟨"LeftAnswers", "test", "()I"⟩ ∈ gtb := gtb_in (i := 1030) (by decide +kernel) (by decide +kernel)
set_option maxRecDepth 100000 in
theorem gw731 : Jvm.Cond.selects "LeftAnswers" ⟨"LeftAnswers", "test", "()I"⟩ ⟨"LeftAnswers", "test", "()I"⟩ ∈ gtb := gtb_in (i := 1032) (by decide +kernel) (by decide +kernel)
set_option maxRecDepth 100000 in
theorem gw732 : Jvm.Cond.code ⟨"LeftAnswers", "test", "()I"⟩ prog_1_method_22_code 1 (some .int) ∈ gtb := gtb_in (i := 1033) (by decide +kernel) (by decide +kernel)
set_option maxRecDepth 100000 in
theorem gw733 : Jvm.Cond.instanceMethod ⟨"LeftAnswers", "test", "()I"⟩ ∈ gtb := gtb_in (i := 1031) (by decide +kernel) (by decide +kernel)
set_option maxRecDepth 100000 in
theorem gw734 : Jvm.Cond.methodLink "LeftAnswersLaw" 112 ⟨"LeftAnswersModel", "test", "()I"⟩ ∈ gtb := gtb_in (i := 1917) (by decide +kernel) (by decide +kernel)
set_option maxRecDepth 100000 in
theorem gw735 : Jvm.Cond.selects "LeftAnswersModel" ⟨"LeftAnswersModel", "test", "()I"⟩ ⟨"LeftAnswersModel", "test", "()I"⟩ ∈ gtb := gtb_in (i := 1919) (by decide +kernel) (by decide +kernel)
set_option maxRecDepth 100000 in
theorem gw736 : Jvm.Cond.code ⟨"LeftAnswersModel", "test", "()I"⟩ prog_15_method_82_code 1 (some .int) ∈ gtb := gtb_in (i := 1920) (by decide +kernel) (by decide +kernel)
set_option maxRecDepth 100000 in
theorem gw737 : Jvm.Cond.instanceMethod ⟨"LeftAnswersModel", "test", "()I"⟩ ∈ gtb := gtb_in (i := 1918) (by decide +kernel) (by decide +kernel)
set_option maxRecDepth 100000 in
theorem gw738 : Jvm.Cond.methodLink "LeftAnswersLaw" 113 ⟨"LeftAnswers", "hears", "(II)I"⟩ ∈ gtb := gtb_in (i := 1034) (by decide +kernel) (by decide +kernel)
set_option maxRecDepth 100000 in
theorem gw739 : Jvm.Cond.selects "LeftAnswers" ⟨"LeftAnswers", "hears", "(II)I"⟩ ⟨"LeftAnswers", "hears", "(II)I"⟩ ∈ gtb := gtb_in (i := 1036) (by decide +kernel) (by decide +kernel)
set_option maxRecDepth 100000 in
theorem gw740 : Jvm.Cond.code ⟨"LeftAnswers", "hears", "(II)I"⟩ prog_1_method_23_code 3 (some .int) ∈ gtb := gtb_in (i := 1037) (by decide +kernel) (by decide +kernel)
set_option maxRecDepth 100000 in
theorem gw741 : Jvm.Cond.instanceMethod ⟨"LeftAnswers", "hears", "(II)I"⟩ ∈ gtb := gtb_in (i := 1035) (by decide +kernel) (by decide +kernel)
set_option maxRecDepth 100000 in
theorem gw742 : Jvm.Cond.methodLink "LeftAnswersLaw" 116 ⟨"LeftAnswersModel", "hears", "(II)I"⟩ ∈ gtb := gtb_in (i := 1921) (by decide +kernel) (by decide +kernel)
set_option maxRecDepth 100000 in
theorem gw743 : Jvm.Cond.selects "LeftAnswersModel" ⟨"LeftAnswersModel", "hears", "(II)I"⟩ ⟨"LeftAnswersModel", "hears", "(II)I"⟩ ∈ gtb := gtb_in (i := 1923) (by decide +kernel) (by decide +kernel)
set_option maxRecDepth 100000 in
theorem gw744 : Jvm.Cond.code ⟨"LeftAnswersModel", "hears", "(II)I"⟩ prog_15_method_83_code 7 (some .int) ∈ gtb := gtb_in (i := 1924) (by decide +kernel) (by decide +kernel)
set_option maxRecDepth 100000 in
theorem gw745 : Jvm.Cond.instanceMethod ⟨"LeftAnswersModel", "hears", "(II)I"⟩ ∈ gtb := gtb_in (i := 1922) (by decide +kernel) (by decide +kernel)
set_option maxRecDepth 100000 in
theorem gw746 : Jvm.Cond.methodLink "LeftAnswersLaw" 117 ⟨"LeftAnswers", "guards", "()I"⟩ ∈ gtb := gtb_in (i := 1046) (by decide +kernel) (by decide +kernel)
set_option maxRecDepth 100000 in
theorem gw747 : Jvm.Cond.selects "LeftAnswers" ⟨"LeftAnswers", "guards", "()I"⟩ ⟨"LeftAnswers", "guards", "()I"⟩ ∈ gtb := gtb_in (i := 1048) (by decide +kernel) (by decide +kernel)
set_option maxRecDepth 100000 in
theorem gw748 : Jvm.Cond.code ⟨"LeftAnswers", "guards", "()I"⟩ prog_1_method_24_code 1 (some .int) ∈ gtb := gtb_in (i := 1049) (by decide +kernel) (by decide +kernel)
set_option maxRecDepth 100000 in
theorem gw749 : Jvm.Cond.instanceMethod ⟨"LeftAnswers", "guards", "()I"⟩ ∈ gtb := gtb_in (i := 1047) (by decide +kernel) (by decide +kernel)
