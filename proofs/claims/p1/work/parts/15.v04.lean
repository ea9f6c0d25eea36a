def ep_l160 : List (Instr × Nat × Nat) := [(.ldc_w 265, 1431655765, 0), (.ldc_w 266, 858993459, 0), (.ldc_w 267, 252645135, 0)]
set_option maxRecDepth 100000 in
theorem ep_k160 : ∀ q ∈ ep_l160, ∀ pc, ev_kb MM "java/lang/Integer" pc q.1 q.2.1 q.2.2 = true := by
  unfold ep_l160
  exact List.forall_mem_cons.mpr ⟨lk402, List.forall_mem_cons.mpr ⟨lk403, List.forall_mem_cons.mpr ⟨lk404, fun _ h => absurd h List.not_mem_nil⟩⟩⟩
set_option maxRecDepth 100000 in
theorem ep_c160 : ev_vr MM ev_w160 = true := ev_vr_mk (l := ep_l160) (by decide +kernel) ep_k160
set_option maxRecDepth 100000 in
theorem ex161 : ev_q161.all (fun ch => ch.all (ev_vq MM ep_l161 ev_w161)) = true := ev_td _ 8 eu161_0 ex161_0 (ev_td _ 8 eu161_1 ex161_1 (ev_td _ 8 eu161_2 ex161_2 (ev_td _ 8 eu161_3 ex161_3 (ev_td _ 8 eu161_4 ex161_4 (ev_td _ 8 eu161_5 ex161_5 (ev_td _ 8 eu161_6 ex161_6 (ev_td _ 8 eu161_7 ex161_7 (ev_td _ 8 eu161_8 ex161_8 (ev_td _ 8 eu161_9 ex161_9 (ev_td _ 8 eu161_10 ex161_10 (rfl)))))))))))
theorem ep_c161 : ev_vr MM ev_w161 = true := by
  refine ev_vr_mk (l := ep_l161) ?_ ep_k161
  unfold ev_vf
  rw [Bool.and_eq_true]
  exact ⟨by decide +kernel, ex161⟩
def ep_l162 : List (Instr × Nat × Nat) := [(.invokevirtual 130, 26, 1)]
set_option maxRecDepth 100000 in
theorem ep_k162 : ∀ q ∈ ep_l162, ∀ pc, ev_kb MM "LeftAnswers" pc q.1 q.2.1 q.2.2 = true := by
  unfold ep_l162
  exact List.forall_mem_cons.mpr ⟨lk39, fun _ h => absurd h List.not_mem_nil⟩
set_option maxRecDepth 100000 in
theorem ep_c162 : ev_vr MM ev_w162 = true := ev_vr_mk (l := ep_l162) (by decide +kernel) ep_k162
def ep_l163 : List (Instr × Nat × Nat) := []
set_option maxRecDepth 100000 in
theorem ep_k163 : ∀ q ∈ ep_l163, ∀ pc, ev_kb MM "LeftAnswersLaw" pc q.1 q.2.1 q.2.2 = true := by
  unfold ep_l163
  exact fun _ h => absurd h List.not_mem_nil
set_option maxRecDepth 100000 in
theorem ep_c163 : ev_vr MM ev_w163 = true := ev_vr_mk (l := ep_l163) (by decide +kernel) ep_k163
def ep_l164 : List (Instr × Nat × Nat) := [(.getfield 1, 11, 0)]
set_option maxRecDepth 100000 in
theorem ep_k164 : ∀ q ∈ ep_l164, ∀ pc, ev_kb MM "LeftAnswersModel" pc q.1 q.2.1 q.2.2 = true := by
  unfold ep_l164
  exact List.forall_mem_cons.mpr ⟨lk488, fun _ h => absurd h List.not_mem_nil⟩
set_option maxRecDepth 100000 in
theorem ep_c164 : ev_vr MM ev_w164 = true := ev_vr_mk (l := ep_l164) (by decide +kernel) ep_k164
