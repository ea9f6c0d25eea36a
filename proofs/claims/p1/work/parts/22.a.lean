/-! ===== calls on fresh objects, computed ===== -/
def hc_end_0 : List AE := ev_hB
set_option maxRecDepth 1000000 in
theorem ox_end_0 : ev_is (ev MM 9 15 [.ref 0, .int 0] ev_hB) (some (.int 1)) hc_end_0 = true := by decide +kernel
set_option maxRecDepth 1000000 in
theorem om_end_0 : ev_isv (ev MM 9 110 [.ref 180, .int 0] hc_end_0) (.int 1) = true := by decide +kernel
def hc_fault : List AE := ev_hB
set_option maxRecDepth 1000000 in
theorem ox_fault : ev_is (ev MM 9 16 [.ref 0] ev_hB) (some (.int 0)) hc_fault = true := by decide +kernel
set_option maxRecDepth 1000000 in
theorem om_fault : ev_isv (ev MM 9 111 [.ref 180] hc_fault) (.int 0) = true := by decide +kernel
def hc_now_0 : List AE := ev_hB
set_option maxRecDepth 1000000 in
theorem ox_now_0 : ev_is (ev MM 9 27 [.ref 0, .int 0] ev_hB) (some (.int 0)) hc_now_0 = true := by decide +kernel
set_option maxRecDepth 1000000 in
theorem om_now_0 : ev_isv (ev MM 9 132 [.ref 180, .int 0] hc_now_0) (.int 0) = true := by decide +kernel
def hc_now_1 : List AE := ev_hB
set_option maxRecDepth 1000000 in
theorem ox_now_1 : ev_is (ev MM 9 27 [.ref 0, .int 1] ev_hB) (some (.int 0)) hc_now_1 = true := by decide +kernel
set_option maxRecDepth 1000000 in
theorem om_now_1 : ev_isv (ev MM 9 132 [.ref 180, .int 1] hc_now_1) (.int 0) = true := by decide +kernel
def hc_now_2 : List AE := ev_hB
set_option maxRecDepth 1000000 in
theorem ox_now_2 : ev_is (ev MM 9 27 [.ref 0, .int 2] ev_hB) (some (.int 0)) hc_now_2 = true := by decide +kernel
set_option maxRecDepth 1000000 in
theorem om_now_2 : ev_isv (ev MM 9 132 [.ref 180, .int 2] hc_now_2) (.int 0) = true := by decide +kernel
def hc_now_3 : List AE := ev_hB
set_option maxRecDepth 1000000 in
theorem ox_now_3 : ev_is (ev MM 9 27 [.ref 0, .int 3] ev_hB) (some (.int 0)) hc_now_3 = true := by decide +kernel
set_option maxRecDepth 1000000 in
theorem om_now_3 : ev_isv (ev MM 9 132 [.ref 180, .int 3] hc_now_3) (.int 0) = true := by decide +kernel
def hc_now_4 : List AE := ev_hB
set_option maxRecDepth 1000000 in
theorem ox_now_4 : ev_is (ev MM 9 27 [.ref 0, .int 4] ev_hB) (some (.int 0)) hc_now_4 = true := by decide +kernel
set_option maxRecDepth 1000000 in
theorem om_now_4 : ev_isv (ev MM 9 132 [.ref 180, .int 4] hc_now_4) (.int 0) = true := by decide +kernel
def hc_now_5 : List AE := ev_hB
set_option maxRecDepth 1000000 in
theorem ox_now_5 : ev_is (ev MM 9 27 [.ref 0, .int 5] ev_hB) (some (.int 0)) hc_now_5 = true := by decide +kernel
set_option maxRecDepth 1000000 in
theorem om_now_5 : ev_isv (ev MM 9 132 [.ref 180, .int 5] hc_now_5) (.int 0) = true := by decide +kernel
def hc_now_6 : List AE := ev_hB
set_option maxRecDepth 1000000 in
theorem ox_now_6 : ev_is (ev MM 9 27 [.ref 0, .int 6] ev_hB) (some (.int 0)) hc_now_6 = true := by decide +kernel
set_option maxRecDepth 1000000 in
theorem om_now_6 : ev_isv (ev MM 9 132 [.ref 180, .int 6] hc_now_6) (.int 0) = true := by decide +kernel
def hc_now_7 : List AE := ev_hB
set_option maxRecDepth 1000000 in
theorem ox_now_7 : ev_is (ev MM 9 27 [.ref 0, .int 7] ev_hB) (some (.int 0)) hc_now_7 = true := by decide +kernel
set_option maxRecDepth 1000000 in
theorem om_now_7 : ev_isv (ev MM 9 132 [.ref 180, .int 7] hc_now_7) (.int 0) = true := by decide +kernel
def hc_undo : List AE := ev_hB
set_option maxRecDepth 1000000 in
theorem ox_undo : ev_is (ev MM 9 41 [.ref 0] ev_hB) (some (.int (-1))) hc_undo = true := by decide +kernel
set_option maxRecDepth 1000000 in
theorem om_undo : ev_isv (ev MM 9 157 [.ref 180] hc_undo) (.int (-1)) = true := by decide +kernel
def hc_parted : List AE := ev_hB
set_option maxRecDepth 1000000 in
theorem ox_parted : ev_is (ev MM 9 30 [.ref 0] ev_hB) (some (.int (-1))) hc_parted = true := by decide +kernel
set_option maxRecDepth 1000000 in
theorem om_parted : ev_isv (ev MM 9 136 [.ref 180] hc_parted) (.int (-1)) = true := by decide +kernel
def hc_fits : List AE := ev_hB
set_option maxRecDepth 1000000 in
theorem ox_fits : ev_is (ev MM 9 19 [.ref 0] ev_hB) (some (.int (-1))) hc_fits = true := by decide +kernel
set_option maxRecDepth 1000000 in
theorem om_fits : ev_isv (ev MM 9 114 [.ref 180] hc_fits) (.int (-1)) = true := by decide +kernel
def hc_test : List AE := ev_hB
set_option maxRecDepth 1000000 in
theorem ox_test : ev_is (ev MM 9 39 [.ref 0] ev_hB) (some (.int (-1))) hc_test = true := by decide +kernel
set_option maxRecDepth 1000000 in
theorem om_test : ev_isv (ev MM 9 155 [.ref 180] hc_test) (.int (-1)) = true := by decide +kernel
def hc_guards : List AE := (ev_hB.set 0 (.inr (10, [.ref 1, .ref 3, .ref 13, .ref 23, .ref 31, .ref 39, .ref 105, .ref 110, .ref 115, .ref 120, .ref 125, .ref 129, .ref 131, .int 0, .int 0, .int (-1), .int 0])))
set_option maxRecDepth 1000000 in
theorem ox_guards : ev_is (ev MM 9 22 [.ref 0] ev_hB) (some (.int 0)) hc_guards = true := by decide +kernel
set_option maxRecDepth 1000000 in
theorem om_guards : ev_isv (ev MM 9 118 [.ref 180] hc_guards) (.int 0) = true := by decide +kernel
def hc_guarding : List AE := ev_hB
set_option maxRecDepth 1000000 in
theorem ox_guarding : ev_is (ev MM 9 21 [.ref 0] ev_hB) (some (.int (-1))) hc_guarding = true := by decide +kernel
set_option maxRecDepth 1000000 in
theorem om_guarding : ev_isv (ev MM 9 117 [.ref 180] hc_guarding) (.int (-1)) = true := by decide +kernel
def hc_best : List AE := ev_hB
set_option maxRecDepth 1000000 in
theorem ox_best : ev_is (ev MM 9 3 [.ref 0] ev_hB) (some (.int 0)) hc_best = true := by decide +kernel
set_option maxRecDepth 1000000 in
theorem om_best : ev_isv (ev MM 9 97 [.ref 180] hc_best) (.int 0) = true := by decide +kernel
def hc_richest : List AE := ev_hB
set_option maxRecDepth 1000000 in
theorem ox_richest : ev_is (ev MM 9 33 [.ref 0] ev_hB) (some (.int (-1))) hc_richest = true := by decide +kernel
set_option maxRecDepth 1000000 in
theorem om_richest : ev_isv (ev MM 9 145 [.ref 180] hc_richest) (.int (-1)) = true := by decide +kernel
def hc_sentence : List AE := ((ev_hB.set 0 (.inr (10, [.ref 1, .ref 3, .ref 13, .ref 23, .ref 31, .ref 39, .ref 105, .ref 110, .ref 115, .ref 120, .ref 125, .ref 129, .ref 131, .int 1, .int 0, .int (-1), .int (-1)]))).set 1 (.inr (9, [.ref 2, .int 0, .int 200, .int 0, .int 4, .int 0, .retAddr 0, .long 0, .int 0, .int 0, .int 1, .int 0])))
set_option maxRecDepth 1000000 in
theorem ox_sentence : ev_is (ev MM 9 35 [.ref 0] ev_hB) (some (.int (-1))) hc_sentence = true := by decide +kernel
set_option maxRecDepth 1000000 in
theorem om_sentence : ev_isv (ev MM 9 147 [.ref 180] hc_sentence) (.int (-1)) = true := by decide +kernel
def hc_restore_0 : List AE := ev_hB
set_option maxRecDepth 1000000 in
theorem ox_restore_0 : ev_is (ev MM 9 32 [.ref 0, .int 0] ev_hB) (some (.int 0)) hc_restore_0 = true := by decide +kernel
set_option maxRecDepth 1000000 in
theorem om_restore_0 : ev_isv (ev MM 9 144 [.ref 180, .int 0] hc_restore_0) (.int 0) = true := by decide +kernel
def hc_restore_1 : List AE := ev_hB
set_option maxRecDepth 1000000 in
theorem ox_restore_1 : ev_is (ev MM 9 32 [.ref 0, .int 1] ev_hB) (some (.int 0)) hc_restore_1 = true := by decide +kernel
set_option maxRecDepth 1000000 in
theorem om_restore_1 : ev_isv (ev MM 9 144 [.ref 180, .int 1] hc_restore_1) (.int 0) = true := by decide +kernel
def hc_count_0 : List AE := ev_hB
set_option maxRecDepth 1000000 in
theorem ox_count_0 : ev_is (ev MM 9 8 [.ref 0, .int 0] ev_hB) (some (.int 0)) hc_count_0 = true := by decide +kernel
set_option maxRecDepth 1000000 in
theorem om_count_0 : ev_isv (ev MM 9 103 [.ref 180, .int 0] hc_count_0) (.int 0) = true := by decide +kernel
def hc_count_1 : List AE := ev_hB
set_option maxRecDepth 1000000 in
theorem ox_count_1 : ev_is (ev MM 9 8 [.ref 0, .int 1] ev_hB) (some (.int 0)) hc_count_1 = true := by decide +kernel
set_option maxRecDepth 1000000 in
theorem om_count_1 : ev_isv (ev MM 9 103 [.ref 180, .int 1] hc_count_1) (.int 0) = true := by decide +kernel
def hc_count_2 : List AE := ev_hB
set_option maxRecDepth 1000000 in
theorem ox_count_2 : ev_is (ev MM 9 8 [.ref 0, .int 2] ev_hB) (some (.int 10)) hc_count_2 = true := by decide +kernel
set_option maxRecDepth 1000000 in
theorem om_count_2 : ev_isv (ev MM 9 103 [.ref 180, .int 2] hc_count_2) (.int 10) = true := by decide +kernel
def hc_count_3 : List AE := ev_hB
set_option maxRecDepth 1000000 in
theorem ox_count_3 : ev_is (ev MM 9 8 [.ref 0, .int 3] ev_hB) (some (.int 3)) hc_count_3 = true := by decide +kernel
set_option maxRecDepth 1000000 in
theorem om_count_3 : ev_isv (ev MM 9 103 [.ref 180, .int 3] hc_count_3) (.int 3) = true := by decide +kernel
def hc_count_4 : List AE := ev_hB
set_option maxRecDepth 1000000 in
theorem ox_count_4 : ev_is (ev MM 9 8 [.ref 0, .int 4] ev_hB) (some (.int 5)) hc_count_4 = true := by decide +kernel
set_option maxRecDepth 1000000 in
theorem om_count_4 : ev_isv (ev MM 9 103 [.ref 180, .int 4] hc_count_4) (.int 5) = true := by decide +kernel
def hc_count_5 : List AE := ev_hB
set_option maxRecDepth 1000000 in
theorem ox_count_5 : ev_is (ev MM 9 8 [.ref 0, .int 5] ev_hB) (some (.int 0)) hc_count_5 = true := by decide +kernel
set_option maxRecDepth 1000000 in
theorem om_count_5 : ev_isv (ev MM 9 103 [.ref 180, .int 5] hc_count_5) (.int 0) = true := by decide +kernel
