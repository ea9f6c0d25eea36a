/-! ===== the constructors, computed ===== -/
set_option maxRecDepth 1000000 in
theorem ini_x : ev_is (ev MM 100 0 [.ref 0] [.inr (10, ev_new 10)]) none ev_hA = true := by decide +kernel
set_option maxRecDepth 1000000 in
theorem ini_m : ev_is (ev MM 100 171 [.ref 180] (ev_hA ++ [.inr (11, ev_new 11)])) none (ev_hA ++ ev_hN) = true := by decide +kernel
