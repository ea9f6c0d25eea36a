def ep_l160 : List (Instr × Nat × Nat) := [(.ldc_w 265, 1431655765, 0), (.ldc_w 266, 858993459, 0), (.ldc_w 267, 252645135, 0)]
set_option maxRecDepth 100000 in
theorem ep_k160 : ∀ q ∈ ep_l160, ∀ pc, ev_kb MM "java/lang/Integer" pc q.1 q.2.1 q.2.2 = true := by
  unfold ep_l160
  exact List.forall_mem_cons.mpr ⟨lk402, List.forall_mem_cons.mpr ⟨lk403, List.forall_mem_cons.mpr ⟨lk404, fun _ h => absurd h List.not_mem_nil⟩⟩⟩
set_option maxRecDepth 100000 in
theorem ep_c160 : ev_vr MM ev_w160 = true := ev_vr_mk (l := ep_l160) (by decide +kernel) ep_k160
