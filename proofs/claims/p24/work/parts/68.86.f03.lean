set_option maxRecDepth 100000 in
theorem ex300_6 : (eu300_6.take 8).all (fun ch => ch.all (ev_vq MM ep_l300 ev_w300)) = true := by decide +kernel
set_option maxRecDepth 100000 in
theorem ex300_7 : (eu300_7.take 8).all (fun ch => ch.all (ev_vq MM ep_l300 ev_w300)) = true := by decide +kernel
