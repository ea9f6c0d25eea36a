def ep_l280 : List (Instr × Nat × Nat) := [(.getfield 98, 11, 14)]
set_option maxRecDepth 100000 in
theorem ep_k280 : ∀ q ∈ ep_l280, ∀ pc, ev_kb MM "LeftAnswersModel" pc q.1 q.2.1 q.2.2 = true := by
  unfold ep_l280
  exact List.forall_mem_cons.mpr ⟨lk533, fun _ h => absurd h List.not_mem_nil⟩
set_option maxRecDepth 100000 in
theorem ep_c280 : ev_vr MM ev_w280 = true := ev_vr_mk (l := ep_l280) (by decide +kernel) ep_k280
def ep_l281 : List (Instr × Nat × Nat) := [(.getfield 98, 11, 14), (.getfield 110, 11, 18), (.invokevirtual 285, 278, 0), (.invokevirtual 386, 284, 0)]
set_option maxRecDepth 100000 in
theorem ep_k281 : ∀ q ∈ ep_l281, ∀ pc, ev_kb MM "LeftAnswersModel" pc q.1 q.2.1 q.2.2 = true := by
  unfold ep_l281
  exact List.forall_mem_cons.mpr ⟨lk533, List.forall_mem_cons.mpr ⟨lk642, List.forall_mem_cons.mpr ⟨lk540, List.forall_mem_cons.mpr ⟨lk644, fun _ h => absurd h List.not_mem_nil⟩⟩⟩⟩
set_option maxRecDepth 100000 in
theorem ep_c281 : ev_vr MM ev_w281 = true := ev_vr_mk (l := ep_l281) (by decide +kernel) ep_k281
def ep_l282 : List (Instr × Nat × Nat) := [(.getfield 98, 11, 14)]
set_option maxRecDepth 100000 in
theorem ep_k282 : ∀ q ∈ ep_l282, ∀ pc, ev_kb MM "LeftAnswersModel" pc q.1 q.2.1 q.2.2 = true := by
  unfold ep_l282
  exact List.forall_mem_cons.mpr ⟨lk533, fun _ h => absurd h List.not_mem_nil⟩
set_option maxRecDepth 100000 in
theorem ep_c282 : ev_vr MM ev_w282 = true := ev_vr_mk (l := ep_l282) (by decide +kernel) ep_k282
def ep_l283 : List (Instr × Nat × Nat) := [(.getfield 11, 11, 2), (.putfield 11, 11, 2)]
set_option maxRecDepth 100000 in
theorem ep_k283 : ∀ q ∈ ep_l283, ∀ pc, ev_kb MM "LeftAnswersModel" pc q.1 q.2.1 q.2.2 = true := by
  unfold ep_l283
  exact List.forall_mem_cons.mpr ⟨lk579, List.forall_mem_cons.mpr ⟨lk580, fun _ h => absurd h List.not_mem_nil⟩⟩
set_option maxRecDepth 100000 in
theorem ep_c283 : ev_vr MM ev_w283 = true := ev_vr_mk (l := ep_l283) (by decide +kernel) ep_k283
def ep_l284 : List (Instr × Nat × Nat) := [(.getfield 98, 11, 14), (.getfield 110, 11, 18)]
set_option maxRecDepth 100000 in
theorem ep_k284 : ∀ q ∈ ep_l284, ∀ pc, ev_kb MM "LeftAnswersModel" pc q.1 q.2.1 q.2.2 = true := by
  unfold ep_l284
  exact List.forall_mem_cons.mpr ⟨lk533, List.forall_mem_cons.mpr ⟨lk642, fun _ h => absurd h List.not_mem_nil⟩⟩
set_option maxRecDepth 100000 in
theorem ep_c284 : ev_vr MM ev_w284 = true := ev_vr_mk (l := ep_l284) (by decide +kernel) ep_k284
def ep_l285 : List (Instr × Nat × Nat) := [(.getfield 18, 11, 3), (.getfield 7, 11, 1)]
set_option maxRecDepth 100000 in
theorem ep_k285 : ∀ q ∈ ep_l285, ∀ pc, ev_kb MM "LeftAnswersModel" pc q.1 q.2.1 q.2.2 = true := by
  unfold ep_l285
  exact List.forall_mem_cons.mpr ⟨lk612, List.forall_mem_cons.mpr ⟨lk578, fun _ h => absurd h List.not_mem_nil⟩⟩
set_option maxRecDepth 100000 in
theorem ep_c285 : ev_vr MM ev_w285 = true := ev_vr_mk (l := ep_l285) (by decide +kernel) ep_k285
def ep_l286 : List (Instr × Nat × Nat) := [(.putfield 1, 11, 0), (.getfield 145, 11, 33)]
set_option maxRecDepth 100000 in
theorem ep_k286 : ∀ q ∈ ep_l286, ∀ pc, ev_kb MM "LeftAnswersModel" pc q.1 q.2.1 q.2.2 = true := by
  unfold ep_l286
  exact List.forall_mem_cons.mpr ⟨lk535, List.forall_mem_cons.mpr ⟨lk610, fun _ h => absurd h List.not_mem_nil⟩⟩
set_option maxRecDepth 100000 in
theorem ep_c286 : ev_vr MM ev_w286 = true := ev_vr_mk (l := ep_l286) (by decide +kernel) ep_k286
def ep_l287 : List (Instr × Nat × Nat) := [(.putfield 1, 11, 0), (.getfield 410, 11, 46), (.invokestatic 75, 218, 3), (.getfield 163, 11, 44)]
set_option maxRecDepth 100000 in
theorem ep_k287 : ∀ q ∈ ep_l287, ∀ pc, ev_kb MM "LeftAnswersModel" pc q.1 q.2.1 q.2.2 = true := by
  unfold ep_l287
  exact List.forall_mem_cons.mpr ⟨lk535, List.forall_mem_cons.mpr ⟨lk699, List.forall_mem_cons.mpr ⟨lk560, List.forall_mem_cons.mpr ⟨lk569, fun _ h => absurd h List.not_mem_nil⟩⟩⟩⟩
set_option maxRecDepth 100000 in
theorem ep_c287 : ev_vr MM ev_w287 = true := ev_vr_mk (l := ep_l287) (by decide +kernel) ep_k287
def ep_l288 : List (Instr × Nat × Nat) := [(.putfield 1, 11, 0), (.getfield 234, 11, 24), (.putfield 234, 11, 24), (.getfield 98, 11, 14), (.getfield 107, 11, 17)]
set_option maxRecDepth 100000 in
theorem ep_k288 : ∀ q ∈ ep_l288, ∀ pc, ev_kb MM "LeftAnswersModel" pc q.1 q.2.1 q.2.2 = true := by
  unfold ep_l288
  exact List.forall_mem_cons.mpr ⟨lk535, List.forall_mem_cons.mpr ⟨lk697, List.forall_mem_cons.mpr ⟨lk600, List.forall_mem_cons.mpr ⟨lk533, List.forall_mem_cons.mpr ⟨lk698, fun _ h => absurd h List.not_mem_nil⟩⟩⟩⟩⟩
set_option maxRecDepth 100000 in
theorem ep_c288 : ev_vr MM ev_w288 = true := ev_vr_mk (l := ep_l288) (by decide +kernel) ep_k288
def ep_l289 : List (Instr × Nat × Nat) := [(.putfield 1, 11, 0), (.invokevirtual 240, 223, 1), (.invokevirtual 292, 173, 5)]
set_option maxRecDepth 100000 in
theorem ep_k289 : ∀ q ∈ ep_l289, ∀ pc, ev_kb MM "LeftAnswersModel" pc q.1 q.2.1 q.2.2 = true := by
  unfold ep_l289
  exact List.forall_mem_cons.mpr ⟨lk535, List.forall_mem_cons.mpr ⟨lk536, List.forall_mem_cons.mpr ⟨lk546, fun _ h => absurd h List.not_mem_nil⟩⟩⟩
set_option maxRecDepth 100000 in
theorem ep_c289 : ev_vr MM ev_w289 = true := ev_vr_mk (l := ep_l289) (by decide +kernel) ep_k289
def ep_l290 : List (Instr × Nat × Nat) := [(.getfield 98, 11, 14), (.getfield 331, 11, 37), (.putfield 331, 11, 37), (.getfield 154, 11, 36), (.getfield 151, 11, 35), (.invokevirtual 334, 290, 2), (.invokevirtual 338, 216, 1), (.invokevirtual 341, 203, 2)]
set_option maxRecDepth 100000 in
theorem ep_k290 : ∀ q ∈ ep_l290, ∀ pc, ev_kb MM "LeftAnswersModel" pc q.1 q.2.1 q.2.2 = true := by
  unfold ep_l290
  exact List.forall_mem_cons.mpr ⟨lk533, List.forall_mem_cons.mpr ⟨lk557, List.forall_mem_cons.mpr ⟨lk553, List.forall_mem_cons.mpr ⟨lk561, List.forall_mem_cons.mpr ⟨lk552, List.forall_mem_cons.mpr ⟨lk554, List.forall_mem_cons.mpr ⟨lk700, List.forall_mem_cons.mpr ⟨lk701, fun _ h => absurd h List.not_mem_nil⟩⟩⟩⟩⟩⟩⟩⟩
set_option maxRecDepth 100000 in
theorem ep_c290 : ev_vr MM ev_w290 = true := ev_vr_mk (l := ep_l290) (by decide +kernel) ep_k290
def ep_l291 : List (Instr × Nat × Nat) := [(.invokevirtual 271, 292, 3), (.invokevirtual 262, 226, 1), (.invokevirtual 246, 217, 1), (.invokevirtual 237, 219, 1)]
set_option maxRecDepth 100000 in
theorem ep_k291 : ∀ q ∈ ep_l291, ∀ pc, ev_kb MM "LeftAnswersModel" pc q.1 q.2.1 q.2.2 = true := by
  unfold ep_l291
  exact List.forall_mem_cons.mpr ⟨lk538, List.forall_mem_cons.mpr ⟨lk593, List.forall_mem_cons.mpr ⟨lk631, List.forall_mem_cons.mpr ⟨lk630, fun _ h => absurd h List.not_mem_nil⟩⟩⟩⟩
set_option maxRecDepth 100000 in
theorem ep_c291 : ev_vr MM ev_w291 = true := ev_vr_mk (l := ep_l291) (by decide +kernel) ep_k291
def ep_l292 : List (Instr × Nat × Nat) := [(.invokevirtual 237, 219, 1), (.getfield 98, 11, 14), (.invokestatic 268, 180, 1), (.invokestatic 207, 209, 2), (.invokevirtual 252, 276, 2), (.invokevirtual 246, 217, 1)]
set_option maxRecDepth 100000 in
theorem ep_k292 : ∀ q ∈ ep_l292, ∀ pc, ev_kb MM "LeftAnswersModel" pc q.1 q.2.1 q.2.2 = true := by
  unfold ep_l292
  exact List.forall_mem_cons.mpr ⟨lk630, List.forall_mem_cons.mpr ⟨lk533, List.forall_mem_cons.mpr ⟨lk582, List.forall_mem_cons.mpr ⟨lk575, List.forall_mem_cons.mpr ⟨lk576, List.forall_mem_cons.mpr ⟨lk631, fun _ h => absurd h List.not_mem_nil⟩⟩⟩⟩⟩⟩
set_option maxRecDepth 100000 in
theorem ep_c292 : ev_vr MM ev_w292 = true := ev_vr_mk (l := ep_l292) (by decide +kernel) ep_k292
def ep_l293 : List (Instr × Nat × Nat) := [(.invokestatic 58, 279, 6)]
set_option maxRecDepth 100000 in
theorem ep_k293 : ∀ q ∈ ep_l293, ∀ pc, ev_kb MM "LeftAnswersModel" pc q.1 q.2.1 q.2.2 = true := by
  unfold ep_l293
  exact List.forall_mem_cons.mpr ⟨lk696, fun _ h => absurd h List.not_mem_nil⟩
set_option maxRecDepth 100000 in
theorem ep_c293 : ev_vr MM ev_w293 = true := ev_vr_mk (l := ep_l293) (by decide +kernel) ep_k293
def ep_l294 : List (Instr × Nat × Nat) := [(.getfield 157, 11, 40), (.getfield 354, 11, 41), (.putfield 354, 11, 41)]
set_option maxRecDepth 100000 in
theorem ep_k294 : ∀ q ∈ ep_l294, ∀ pc, ev_kb MM "LeftAnswersModel" pc q.1 q.2.1 q.2.2 = true := by
  unfold ep_l294
  exact List.forall_mem_cons.mpr ⟨lk574, List.forall_mem_cons.mpr ⟨lk573, List.forall_mem_cons.mpr ⟨lk691, fun _ h => absurd h List.not_mem_nil⟩⟩⟩
set_option maxRecDepth 100000 in
theorem ep_c294 : ev_vr MM ev_w294 = true := ev_vr_mk (l := ep_l294) (by decide +kernel) ep_k294
def ep_l295 : List (Instr × Nat × Nat) := [(.invokevirtual 361, 294, 1), (.invokevirtual 357, 297, 1)]
set_option maxRecDepth 100000 in
theorem ep_k295 : ∀ q ∈ ep_l295, ∀ pc, ev_kb MM "LeftAnswersModel" pc q.1 q.2.1 q.2.2 = true := by
  unfold ep_l295
  exact List.forall_mem_cons.mpr ⟨lk694, List.forall_mem_cons.mpr ⟨lk692, fun _ h => absurd h List.not_mem_nil⟩⟩
set_option maxRecDepth 100000 in
theorem ep_c295 : ev_vr MM ev_w295 = true := ev_vr_mk (l := ep_l295) (by decide +kernel) ep_k295
def ep_l296 : List (Instr × Nat × Nat) := [(.invokevirtual 364, 296, 1), (.invokevirtual 361, 294, 1)]
set_option maxRecDepth 100000 in
theorem ep_k296 : ∀ q ∈ ep_l296, ∀ pc, ev_kb MM "LeftAnswersModel" pc q.1 q.2.1 q.2.2 = true := by
  unfold ep_l296
  exact List.forall_mem_cons.mpr ⟨lk695, List.forall_mem_cons.mpr ⟨lk694, fun _ h => absurd h List.not_mem_nil⟩⟩
set_option maxRecDepth 100000 in
theorem ep_c296 : ev_vr MM ev_w296 = true := ev_vr_mk (l := ep_l296) (by decide +kernel) ep_k296
def ep_l297 : List (Instr × Nat × Nat) := [(.ldc2_w 54, 27, 0), (.invokevirtual 357, 297, 1), (.invokevirtual 361, 294, 1)]
set_option maxRecDepth 100000 in
theorem ep_k297 : ∀ q ∈ ep_l297, ∀ pc, ev_kb MM "LeftAnswersModel" pc q.1 q.2.1 q.2.2 = true := by
  unfold ep_l297
  exact List.forall_mem_cons.mpr ⟨lk622, List.forall_mem_cons.mpr ⟨lk692, List.forall_mem_cons.mpr ⟨lk694, fun _ h => absurd h List.not_mem_nil⟩⟩⟩
set_option maxRecDepth 100000 in
theorem ep_c297 : ev_vr MM ev_w297 = true := ev_vr_mk (l := ep_l297) (by decide +kernel) ep_k297
def ep_l298 : List (Instr × Nat × Nat) := [(.ldc_w 265, 1431655765, 0), (.ldc_w 266, 858993459, 0), (.ldc_w 267, 252645135, 0)]
set_option maxRecDepth 100000 in
theorem ep_k298 : ∀ q ∈ ep_l298, ∀ pc, ev_kb MM "java/lang/Integer" pc q.1 q.2.1 q.2.2 = true := by
  unfold ep_l298
  exact List.forall_mem_cons.mpr ⟨lk702, List.forall_mem_cons.mpr ⟨lk703, List.forall_mem_cons.mpr ⟨lk704, fun _ h => absurd h List.not_mem_nil⟩⟩⟩
set_option maxRecDepth 100000 in
theorem ep_c298 : ev_vr MM ev_w298 = true := ev_vr_mk (l := ep_l298) (by decide +kernel) ep_k298
def ep_l299 : List (Instr × Nat × Nat) := []
set_option maxRecDepth 100000 in
theorem ep_k299 : ∀ q ∈ ep_l299, ∀ pc, ev_kb MM "java/lang/Math" pc q.1 q.2.1 q.2.2 = true := by
  unfold ep_l299
  exact fun _ h => absurd h List.not_mem_nil
set_option maxRecDepth 100000 in
theorem ep_c299 : ev_vr MM ev_w299 = true := ev_vr_mk (l := ep_l299) (by decide +kernel) ep_k299
set_option maxRecDepth 100000 in
theorem ex300 : ev_q300.all (fun ch => ch.all (ev_vq MM ep_l300 ev_w300)) = true := ev_td _ 8 eu300_0 ex300_0 (ev_td _ 8 eu300_1 ex300_1 (ev_td _ 8 eu300_2 ex300_2 (ev_td _ 8 eu300_3 ex300_3 (ev_td _ 8 eu300_4 ex300_4 (ev_td _ 8 eu300_5 ex300_5 (ev_td _ 8 eu300_6 ex300_6 (ev_td _ 8 eu300_7 ex300_7 (ev_td _ 8 eu300_8 ex300_8 (ev_td _ 8 eu300_9 ex300_9 (rfl))))))))))
theorem ep_c300 : ev_vr MM ev_w300 = true := by
  refine ev_vr_mk (l := ep_l300) ?_ ep_k300
  unfold ev_vf
  rw [Bool.and_eq_true]
  exact ⟨rfl, ex300⟩
def ep_l301 : List (Instr × Nat × Nat) := [(.invokevirtual 130, 28, 1), (.getfield 29, 10, 3), (.getfield 141, 3, 5), (.getfield 145, 3, 6), (.getfield 148, 3, 7), (.getfield 151, 3, 8), (.getfield 154, 3, 9), (.invokevirtual 157, 102, 1), (.getfield 160, 3, 10), (.getfield 19, 10, 1), (.invokevirtual 163, 104, 2)]
set_option maxRecDepth 100000 in
theorem ep_k301 : ∀ q ∈ ep_l301, ∀ pc, ev_kb MM "LeftAnswers" pc q.1 q.2.1 q.2.2 = true := by
  unfold ep_l301
  exact List.forall_mem_cons.mpr ⟨lk39, List.forall_mem_cons.mpr ⟨lk41, List.forall_mem_cons.mpr ⟨lk113, List.forall_mem_cons.mpr ⟨lk120, List.forall_mem_cons.mpr ⟨lk121, List.forall_mem_cons.mpr ⟨lk122, List.forall_mem_cons.mpr ⟨lk123, List.forall_mem_cons.mpr ⟨lk124, List.forall_mem_cons.mpr ⟨lk125, List.forall_mem_cons.mpr ⟨lk42, List.forall_mem_cons.mpr ⟨lk126, fun _ h => absurd h List.not_mem_nil⟩⟩⟩⟩⟩⟩⟩⟩⟩⟩⟩
set_option maxRecDepth 100000 in
theorem ep_c301 : ev_vr MM ev_w301 = true := ev_vr_mk (l := ep_l301) (by decide +kernel) ep_k301
def ep_l302 : List (Instr × Nat × Nat) := []
set_option maxRecDepth 100000 in
theorem ep_k302 : ∀ q ∈ ep_l302, ∀ pc, ev_kb MM "LeftAnswersLaw" pc q.1 q.2.1 q.2.2 = true := by
  unfold ep_l302
  exact fun _ h => absurd h List.not_mem_nil
set_option maxRecDepth 100000 in
theorem ep_c302 : ev_vr MM ev_w302 = true := ev_vr_mk (l := ep_l302) (by decide +kernel) ep_k302
