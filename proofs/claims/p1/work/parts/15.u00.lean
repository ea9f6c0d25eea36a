set_option maxRecDepth 100000 in
theorem ex161_0 : (eu161_0.take 8).all (fun ch => ch.all (ev_vq MM ep_l161 ev_w161)) = true := by decide +kernel
set_option maxRecDepth 100000 in
theorem ex161_1 : (eu161_1.take 8).all (fun ch => ch.all (ev_vq MM ep_l161 ev_w161)) = true := by decide +kernel
