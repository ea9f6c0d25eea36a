/-! ===== duchy on fresh objects, computed ===== -/
def hc_duchy : List AE := ((ev_hB.set 0 (.inr (10, [.ref 1, .ref 13, .ref 3, .ref 23, .ref 31, .ref 39, .ref 105, .ref 110, .ref 115, .ref 120, .ref 125, .ref 129, .ref 131, .int 0, .int 0, .int (-1), .int (-1)]))).set 1 (.inr (9, [.ref 2, .int 0, .int 900, .int 0, .int 4, .int 0, .retAddr 0, .long 0, .int 0, .int 0, .int 0, .int 0])))
set_option maxRecDepth 1000000 in
theorem ox_duchy : ev_is (ev MM 9 13 [.ref 0] ev_hB) (some (.int 0)) hc_duchy = true := by decide +kernel
set_option maxRecDepth 1000000 in
theorem om_duchy : ev_isv (ev MM 9 108 [.ref 180] hc_duchy) (.int 0) = true := by decide +kernel
