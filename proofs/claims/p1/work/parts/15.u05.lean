set_option maxRecDepth 100000 in
theorem ex161_10 : (eu161_10.take 8).all (fun ch => ch.all (ev_vq MM ep_l161 ev_w161)) = true := by decide +kernel
