set_option maxRecDepth 100000 in
theorem ex161_4 : (eu161_4.take 8).all (fun ch => ch.all (ev_vq MM ep_l161 ev_w161)) = true := by decide +kernel
set_option maxRecDepth 100000 in
theorem ex161_5 : (eu161_5.take 8).all (fun ch => ch.all (ev_vq MM ep_l161 ev_w161)) = true := by decide +kernel
