set_option maxRecDepth 100000 in
theorem ex161_6 : (eu161_6.take 8).all (fun ch => ch.all (ev_vq MM ep_l161 ev_w161)) = true := by decide +kernel
set_option maxRecDepth 100000 in
theorem ex161_7 : (eu161_7.take 8).all (fun ch => ch.all (ev_vq MM ep_l161 ev_w161)) = true := by decide +kernel
