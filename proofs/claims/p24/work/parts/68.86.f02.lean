set_option maxRecDepth 100000 in
theorem ex300_4 : (eu300_4.take 8).all (fun ch => ch.all (ev_vq MM ep_l300 ev_w300)) = true := by decide +kernel
set_option maxRecDepth 100000 in
theorem ex300_5 : (eu300_5.take 8).all (fun ch => ch.all (ev_vq MM ep_l300 ev_w300)) = true := by decide +kernel
