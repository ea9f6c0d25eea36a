/-! ===== book on fresh objects, computed ===== -/
def hc_book_0 : List AE := ((ev_hB.set 1 (.inr (9, [.ref 2, .int 0, .int 400, .int 0, .int 4, .int 0, .retAddr 0, .long 0, .int 0, .int 0, .int 0, .int 0]))).set 105 (.inr (0, [.ref 106, .ref 107, .ref 108, .ref 109, .int 0, .int 1, .int (-1), .int 0, .int 0, .int 0, .int 0])))
set_option maxRecDepth 1000000 in
theorem ox_book_0 : ev_is (ev MM 9 6 [.ref 0, .int 0] ev_hB) (some (.int (-1))) hc_book_0 = true := by decide +kernel
set_option maxRecDepth 1000000 in
theorem om_book_0 : ev_isv (ev MM 9 100 [.ref 180, .int 0] hc_book_0) (.int (-1)) = true := by decide +kernel
def hc_book_1 : List AE := (((ev_hB.set 1 (.inr (9, [.ref 2, .int 0, .int 400, .int 0, .int 4, .int 0, .retAddr 0, .long 0, .int 0, .int 0, .int 0, .int 0]))).set 39 (.inr (6, [.ref 40, .int 0, .int 1]))).set 105 (.inr (0, [.ref 106, .ref 107, .ref 108, .ref 109, .int 0, .int 1, .int (-1), .int 0, .int 0, .int 0, .int 0])))
set_option maxRecDepth 1000000 in
theorem ox_book_1 : ev_is (ev MM 9 6 [.ref 0, .int 1] ev_hB) (some (.int (-1))) hc_book_1 = true := by decide +kernel
set_option maxRecDepth 1000000 in
theorem om_book_1 : ev_isv (ev MM 9 100 [.ref 180, .int 1] hc_book_1) (.int (-1)) = true := by decide +kernel
