set_option maxRecDepth 100000 in
theorem ex161_8 : (eu161_8.take 8).all (fun ch => ch.all (ev_vq MM ep_l161 ev_w161)) = true := by decide +kernel
set_option maxRecDepth 100000 in
theorem ex161_9 : (eu161_9.take 8).all (fun ch => ch.all (ev_vq MM ep_l161 ev_w161)) = true := by decide +kernel
