set_option maxRecDepth 100000 in
theorem ex300_0 : (eu300_0.take 8).all (fun ch => ch.all (ev_vq MM ep_l300 ev_w300)) = true := by decide +kernel
set_option maxRecDepth 100000 in
theorem ex300_1 : (eu300_1.take 8).all (fun ch => ch.all (ev_vq MM ep_l300 ev_w300)) = true := by decide +kernel
