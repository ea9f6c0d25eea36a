set_option maxRecDepth 100000 in
theorem ev_c160 : ev_vr MM ev_w160 = true := ev_vr_mk (l := [(.ldc_w 265, 1431655765, 0), (.ldc_w 266, 858993459, 0), (.ldc_w 267, 252645135, 0)]) (by decide +kernel) (List.forall_mem_cons.mpr ⟨lk402, List.forall_mem_cons.mpr ⟨lk403, List.forall_mem_cons.mpr ⟨lk404, fun _ h => absurd h List.not_mem_nil⟩⟩⟩)
