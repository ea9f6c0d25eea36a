/-! ===== image on fresh objects, computed ===== -/
def hc_image_0 : List AE := (ev_hB.set 132 (.inr (2, [.int 1, .ref 133, .ref 143, .ref 151])))
set_option maxRecDepth 1000000 in
theorem ox_image_0 : ev_is (ev MM 9 24 [.ref 0, .int 0] ev_hB) (some (.int 1)) hc_image_0 = true := by decide +kernel
def hc_image_1 : List AE := (ev_hB.set 156 (.inr (2, [.int 1, .ref 157, .ref 167, .ref 175])))
set_option maxRecDepth 1000000 in
theorem ox_image_1 : ev_is (ev MM 9 24 [.ref 0, .int 1] ev_hB) (some (.int 1)) hc_image_1 = true := by decide +kernel
