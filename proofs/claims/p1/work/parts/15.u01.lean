set_option maxRecDepth 100000 in
theorem ex161_2 : (eu161_2.take 8).all (fun ch => ch.all (ev_vq MM ep_l161 ev_w161)) = true := by decide +kernel
set_option maxRecDepth 100000 in
theorem ex161_3 : (eu161_3.take 8).all (fun ch => ch.all (ev_vq MM ep_l161 ev_w161)) = true := by decide +kernel
