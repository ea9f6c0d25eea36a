set_option maxRecDepth 100000 in
theorem ex300_8 : (eu300_8.take 8).all (fun ch => ch.all (ev_vq MM ep_l300 ev_w300)) = true := by decide +kernel
set_option maxRecDepth 100000 in
theorem ex300_9 : (eu300_9.take 8).all (fun ch => ch.all (ev_vq MM ep_l300 ev_w300)) = true := by decide +kernel
