section
set_option maxRecDepth 100000 in
theorem ex300_0 : (eu300_0.take 8).all (fun ch => ch.all (ev_vq MM ep_l300 ev_w300)) = true := scan_at (off := 0) (by decide) (by decide +kernel)
set_option maxRecDepth 100000 in
theorem ex300_1 : (eu300_1.take 8).all (fun ch => ch.all (ev_vq MM ep_l300 ev_w300)) = true := scan_at (off := 128) (by decide) (by decide +kernel)
end
section
set_option maxRecDepth 100000 in
theorem ex300_2 : (eu300_2.take 8).all (fun ch => ch.all (ev_vq MM ep_l300 ev_w300)) = true := scan_at (off := 256) (by decide) (by decide +kernel)
set_option maxRecDepth 100000 in
theorem ex300_3 : (eu300_3.take 8).all (fun ch => ch.all (ev_vq MM ep_l300 ev_w300)) = true := scan_at (off := 384) (by decide) (by decide +kernel)
end
section
set_option maxRecDepth 100000 in
theorem ex300_4 : (eu300_4.take 8).all (fun ch => ch.all (ev_vq MM ep_l300 ev_w300)) = true := scan_at (off := 512) (by decide) (by decide +kernel)
set_option maxRecDepth 100000 in
theorem ex300_5 : (eu300_5.take 8).all (fun ch => ch.all (ev_vq MM ep_l300 ev_w300)) = true := scan_at (off := 640) (by decide) (by decide +kernel)
end
section
set_option maxRecDepth 100000 in
theorem ex300_6 : (eu300_6.take 8).all (fun ch => ch.all (ev_vq MM ep_l300 ev_w300)) = true := scan_at (off := 768) (by decide) (by decide +kernel)
set_option maxRecDepth 100000 in
theorem ex300_7 : (eu300_7.take 8).all (fun ch => ch.all (ev_vq MM ep_l300 ev_w300)) = true := scan_at (off := 896) (by decide) (by decide +kernel)
end
section
set_option maxRecDepth 100000 in
theorem ex300_8 : (eu300_8.take 8).all (fun ch => ch.all (ev_vq MM ep_l300 ev_w300)) = true := scan_at (off := 1024) (by decide) (by decide +kernel)
set_option maxRecDepth 100000 in
theorem ex300_9 : (eu300_9.take 8).all (fun ch => ch.all (ev_vq MM ep_l300 ev_w300)) = true := scan_at (off := 1152) (by decide) (by decide +kernel)
end
