set_option maxRecDepth 100000 in
theorem ex300_2 : (eu300_2.take 8).all (fun ch => ch.all (ev_vq MM ep_l300 ev_w300)) = true := by decide +kernel
set_option maxRecDepth 100000 in
theorem ex300_3 : (eu300_3.take 8).all (fun ch => ch.all (ev_vq MM ep_l300 ev_w300)) = true := by decide +kernel
