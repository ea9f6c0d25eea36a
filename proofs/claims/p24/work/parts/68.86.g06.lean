def ep_l240 : List (Instr × Nat × Nat) := [(.putfield 1, 11, 0), (.getfield 311, 11, 29), (.invokestatic 75, 218, 3), (.getfield 133, 11, 26)]
set_option maxRecDepth 100000 in
theorem ep_k240 : ∀ q ∈ ep_l240, ∀ pc, ev_kb MM "LeftAnswersModel" pc q.1 q.2.1 q.2.2 = true := by
  unfold ep_l240
  exact List.forall_mem_cons.mpr ⟨lk535, List.forall_mem_cons.mpr ⟨lk654, List.forall_mem_cons.mpr ⟨lk560, List.forall_mem_cons.mpr ⟨lk648, fun _ h => absurd h List.not_mem_nil⟩⟩⟩⟩
set_option maxRecDepth 100000 in
theorem ep_c240 : ev_vr MM ev_w240 = true := ev_vr_mk (l := ep_l240) (by decide +kernel) ep_k240
def ep_l241 : List (Instr × Nat × Nat) := [(.getfield 98, 11, 14), (.invokestatic 275, 231, 2), (.invokevirtual 296, 236, 0)]
set_option maxRecDepth 100000 in
theorem ep_k241 : ∀ q ∈ ep_l241, ∀ pc, ev_kb MM "LeftAnswersModel" pc q.1 q.2.1 q.2.2 = true := by
  unfold ep_l241
  exact List.forall_mem_cons.mpr ⟨lk533, List.forall_mem_cons.mpr ⟨lk583, List.forall_mem_cons.mpr ⟨lk589, fun _ h => absurd h List.not_mem_nil⟩⟩⟩
set_option maxRecDepth 100000 in
theorem ep_c241 : ev_vr MM ev_w241 = true := ev_vr_mk (l := ep_l241) (by decide +kernel) ep_k241
def ep_l242 : List (Instr × Nat × Nat) := [(.invokevirtual 246, 217, 1), (.getfield 98, 11, 14), (.invokevirtual 314, 183, 3), (.invokevirtual 305, 213, 3)]
set_option maxRecDepth 100000 in
theorem ep_k242 : ∀ q ∈ ep_l242, ∀ pc, ev_kb MM "LeftAnswersModel" pc q.1 q.2.1 q.2.2 = true := by
  unfold ep_l242
  exact List.forall_mem_cons.mpr ⟨lk631, List.forall_mem_cons.mpr ⟨lk533, List.forall_mem_cons.mpr ⟨lk577, List.forall_mem_cons.mpr ⟨lk651, fun _ h => absurd h List.not_mem_nil⟩⟩⟩⟩
set_option maxRecDepth 100000 in
theorem ep_c242 : ev_vr MM ev_w242 = true := ev_vr_mk (l := ep_l242) (by decide +kernel) ep_k242
def ep_l243 : List (Instr × Nat × Nat) := [(.putfield 1, 11, 0), (.invokevirtual 240, 223, 1), (.invokevirtual 243, 268, 0), (.getfield 98, 11, 14), (.invokevirtual 246, 217, 1), (.invokevirtual 249, 224, 1)]
set_option maxRecDepth 100000 in
theorem ep_k243 : ∀ q ∈ ep_l243, ∀ pc, ev_kb MM "LeftAnswersModel" pc q.1 q.2.1 q.2.2 = true := by
  unfold ep_l243
  exact List.forall_mem_cons.mpr ⟨lk535, List.forall_mem_cons.mpr ⟨lk536, List.forall_mem_cons.mpr ⟨lk655, List.forall_mem_cons.mpr ⟨lk533, List.forall_mem_cons.mpr ⟨lk631, List.forall_mem_cons.mpr ⟨lk584, fun _ h => absurd h List.not_mem_nil⟩⟩⟩⟩⟩⟩
set_option maxRecDepth 100000 in
theorem ep_c243 : ev_vr MM ev_w243 = true := ev_vr_mk (l := ep_l243) (by decide +kernel) ep_k243
def ep_l244 : List (Instr × Nat × Nat) := [(.getfield 101, 11, 15), (.getfield 79, 11, 13)]
set_option maxRecDepth 100000 in
theorem ep_k244 : ∀ q ∈ ep_l244, ∀ pc, ev_kb MM "LeftAnswersModel" pc q.1 q.2.1 q.2.2 = true := by
  unfold ep_l244
  exact List.forall_mem_cons.mpr ⟨lk594, List.forall_mem_cons.mpr ⟨lk640, fun _ h => absurd h List.not_mem_nil⟩⟩
set_option maxRecDepth 100000 in
theorem ep_c244 : ev_vr MM ev_w244 = true := ev_vr_mk (l := ep_l244) (by decide +kernel) ep_k244
def ep_l245 : List (Instr × Nat × Nat) := [(.invokevirtual 429, 266, 0), (.getfield 423, 11, 51), (.invokevirtual 180, 227, 1), (.invokevirtual 82, 205, 0), (.invokevirtual 426, 272, 4), (.putfield 423, 11, 51)]
set_option maxRecDepth 100000 in
theorem ep_k245 : ∀ q ∈ ep_l245, ∀ pc, ev_kb MM "LeftAnswersModel" pc q.1 q.2.1 q.2.2 = true := by
  unfold ep_l245
  exact List.forall_mem_cons.mpr ⟨lk656, List.forall_mem_cons.mpr ⟨lk657, List.forall_mem_cons.mpr ⟨lk658, List.forall_mem_cons.mpr ⟨lk551, List.forall_mem_cons.mpr ⟨lk659, List.forall_mem_cons.mpr ⟨lk660, fun _ h => absurd h List.not_mem_nil⟩⟩⟩⟩⟩⟩
set_option maxRecDepth 100000 in
theorem ep_c245 : ev_vr MM ev_w245 = true := ev_vr_mk (l := ep_l245) (by decide +kernel) ep_k245
def ep_l246 : List (Instr × Nat × Nat) := [(.invokevirtual 180, 227, 1), (.invokevirtual 172, 221, 0), (.invokevirtual 72, 174, 1), (.getfield 113, 11, 19), (.getfield 98, 11, 14), (.getfield 43, 11, 12), (.invokestatic 176, 200, 4), (.getfield 398, 11, 45), (.getfield 160, 11, 43), (.invokevirtual 82, 205, 0), (.invokevirtual 190, 260, 2), (.invokevirtual 392, 229, 2), (.invokevirtual 401, 250, 1), (.invokevirtual 231, 251, 0)]
set_option maxRecDepth 100000 in
theorem ep_k246 : ∀ q ∈ ep_l246, ∀ pc, ev_kb MM "LeftAnswersModel" pc q.1 q.2.1 q.2.2 = true := by
  unfold ep_l246
  exact List.forall_mem_cons.mpr ⟨lk658, List.forall_mem_cons.mpr ⟨lk636, List.forall_mem_cons.mpr ⟨lk637, List.forall_mem_cons.mpr ⟨lk598, List.forall_mem_cons.mpr ⟨lk533, List.forall_mem_cons.mpr ⟨lk623, List.forall_mem_cons.mpr ⟨lk638, List.forall_mem_cons.mpr ⟨lk566, List.forall_mem_cons.mpr ⟨lk626, List.forall_mem_cons.mpr ⟨lk551, List.forall_mem_cons.mpr ⟨lk661, List.forall_mem_cons.mpr ⟨lk662, List.forall_mem_cons.mpr ⟨lk663, List.forall_mem_cons.mpr ⟨lk597, fun _ h => absurd h List.not_mem_nil⟩⟩⟩⟩⟩⟩⟩⟩⟩⟩⟩⟩⟩⟩
set_option maxRecDepth 100000 in
theorem ep_c246 : ev_vr MM ev_w246 = true := ev_vr_mk (l := ep_l246) (by decide +kernel) ep_k246
def ep_l247 : List (Instr × Nat × Nat) := [(.invokevirtual 450, 263, 0), (.invokevirtual 86, 225, 1), (.invokevirtual 72, 174, 1), (.invokevirtual 82, 205, 0)]
set_option maxRecDepth 100000 in
theorem ep_k247 : ∀ q ∈ ep_l247, ∀ pc, ev_kb MM "LeftAnswersModel" pc q.1 q.2.1 q.2.2 = true := by
  unfold ep_l247
  exact List.forall_mem_cons.mpr ⟨lk664, List.forall_mem_cons.mpr ⟨lk665, List.forall_mem_cons.mpr ⟨lk637, List.forall_mem_cons.mpr ⟨lk551, fun _ h => absurd h List.not_mem_nil⟩⟩⟩⟩
set_option maxRecDepth 100000 in
theorem ep_c247 : ev_vr MM ev_w247 = true := ev_vr_mk (l := ep_l247) (by decide +kernel) ep_k247
def ep_l248 : List (Instr × Nat × Nat) := [(.invokevirtual 86, 225, 1), (.invokevirtual 72, 174, 1), (.getfield 40, 11, 9), (.invokevirtual 82, 205, 0), (.invokevirtual 190, 260, 2), (.getfield 79, 11, 13), (.invokevirtual 426, 272, 4), (.putfield 423, 11, 51)]
set_option maxRecDepth 100000 in
theorem ep_k248 : ∀ q ∈ ep_l248, ∀ pc, ev_kb MM "LeftAnswersModel" pc q.1 q.2.1 q.2.2 = true := by
  unfold ep_l248
  exact List.forall_mem_cons.mpr ⟨lk665, List.forall_mem_cons.mpr ⟨lk637, List.forall_mem_cons.mpr ⟨lk641, List.forall_mem_cons.mpr ⟨lk551, List.forall_mem_cons.mpr ⟨lk661, List.forall_mem_cons.mpr ⟨lk640, List.forall_mem_cons.mpr ⟨lk659, List.forall_mem_cons.mpr ⟨lk660, fun _ h => absurd h List.not_mem_nil⟩⟩⟩⟩⟩⟩⟩⟩
set_option maxRecDepth 100000 in
theorem ep_c248 : ev_vr MM ev_w248 = true := ev_vr_mk (l := ep_l248) (by decide +kernel) ep_k248
def ep_l249 : List (Instr × Nat × Nat) := [(.invokevirtual 183, 252, 2), (.getfield 101, 11, 15), (.invokevirtual 187, 258, 1), (.invokevirtual 190, 260, 2), (.invokevirtual 193, 244, 2), (.invokevirtual 197, 253, 3)]
set_option maxRecDepth 100000 in
theorem ep_k249 : ∀ q ∈ ep_l249, ∀ pc, ev_kb MM "LeftAnswersModel" pc q.1 q.2.1 q.2.2 = true := by
  unfold ep_l249
  exact List.forall_mem_cons.mpr ⟨lk666, List.forall_mem_cons.mpr ⟨lk594, List.forall_mem_cons.mpr ⟨lk667, List.forall_mem_cons.mpr ⟨lk661, List.forall_mem_cons.mpr ⟨lk668, List.forall_mem_cons.mpr ⟨lk669, fun _ h => absurd h List.not_mem_nil⟩⟩⟩⟩⟩⟩
set_option maxRecDepth 100000 in
theorem ep_c249 : ev_vr MM ev_w249 = true := ev_vr_mk (l := ep_l249) (by decide +kernel) ep_k249
def ep_l250 : List (Instr × Nat × Nat) := [(.invokevirtual 180, 227, 1), (.invokevirtual 72, 174, 1), (.getfield 160, 11, 43), (.invokevirtual 82, 205, 0), (.getfield 98, 11, 14), (.invokevirtual 389, 257, 2), (.invokevirtual 392, 229, 2), (.invokevirtual 395, 255, 0)]
set_option maxRecDepth 100000 in
theorem ep_k250 : ∀ q ∈ ep_l250, ∀ pc, ev_kb MM "LeftAnswersModel" pc q.1 q.2.1 q.2.2 = true := by
  unfold ep_l250
  exact List.forall_mem_cons.mpr ⟨lk658, List.forall_mem_cons.mpr ⟨lk637, List.forall_mem_cons.mpr ⟨lk626, List.forall_mem_cons.mpr ⟨lk551, List.forall_mem_cons.mpr ⟨lk533, List.forall_mem_cons.mpr ⟨lk670, List.forall_mem_cons.mpr ⟨lk662, List.forall_mem_cons.mpr ⟨lk671, fun _ h => absurd h List.not_mem_nil⟩⟩⟩⟩⟩⟩⟩⟩
set_option maxRecDepth 100000 in
theorem ep_c250 : ev_vr MM ev_w250 = true := ev_vr_mk (l := ep_l250) (by decide +kernel) ep_k250
def ep_l251 : List (Instr × Nat × Nat) := [(.invokevirtual 86, 225, 1), (.invokevirtual 72, 174, 1), (.invokevirtual 82, 205, 0)]
set_option maxRecDepth 100000 in
theorem ep_k251 : ∀ q ∈ ep_l251, ∀ pc, ev_kb MM "LeftAnswersModel" pc q.1 q.2.1 q.2.2 = true := by
  unfold ep_l251
  exact List.forall_mem_cons.mpr ⟨lk665, List.forall_mem_cons.mpr ⟨lk637, List.forall_mem_cons.mpr ⟨lk551, fun _ h => absurd h List.not_mem_nil⟩⟩⟩
set_option maxRecDepth 100000 in
theorem ep_c251 : ev_vr MM ev_w251 = true := ev_vr_mk (l := ep_l251) (by decide +kernel) ep_k251
def ep_l252 : List (Instr × Nat × Nat) := [(.getfield 101, 11, 15), (.invokevirtual 72, 174, 1), (.invokevirtual 82, 205, 0)]
set_option maxRecDepth 100000 in
theorem ep_k252 : ∀ q ∈ ep_l252, ∀ pc, ev_kb MM "LeftAnswersModel" pc q.1 q.2.1 q.2.2 = true := by
  unfold ep_l252
  exact List.forall_mem_cons.mpr ⟨lk594, List.forall_mem_cons.mpr ⟨lk637, List.forall_mem_cons.mpr ⟨lk551, fun _ h => absurd h List.not_mem_nil⟩⟩⟩
set_option maxRecDepth 100000 in
theorem ep_c252 : ev_vr MM ev_w252 = true := ev_vr_mk (l := ep_l252) (by decide +kernel) ep_k252
def ep_l253 : List (Instr × Nat × Nat) := [(.invokevirtual 180, 227, 1), (.getfield 101, 11, 15), (.invokevirtual 82, 205, 0)]
set_option maxRecDepth 100000 in
theorem ep_k253 : ∀ q ∈ ep_l253, ∀ pc, ev_kb MM "LeftAnswersModel" pc q.1 q.2.1 q.2.2 = true := by
  unfold ep_l253
  exact List.forall_mem_cons.mpr ⟨lk658, List.forall_mem_cons.mpr ⟨lk594, List.forall_mem_cons.mpr ⟨lk551, fun _ h => absurd h List.not_mem_nil⟩⟩⟩
set_option maxRecDepth 100000 in
theorem ep_c253 : ev_vr MM ev_w253 = true := ev_vr_mk (l := ep_l253) (by decide +kernel) ep_k253
def ep_l254 : List (Instr × Nat × Nat) := [(.invokevirtual 204, 264, 0), (.getfield 79, 11, 13), (.getfield 101, 11, 15), (.invokevirtual 72, 174, 1), (.invokevirtual 82, 205, 0), (.invokevirtual 190, 260, 2), (.invokevirtual 193, 244, 2)]
set_option maxRecDepth 100000 in
theorem ep_k254 : ∀ q ∈ ep_l254, ∀ pc, ev_kb MM "LeftAnswersModel" pc q.1 q.2.1 q.2.2 = true := by
  unfold ep_l254
  exact List.forall_mem_cons.mpr ⟨lk672, List.forall_mem_cons.mpr ⟨lk640, List.forall_mem_cons.mpr ⟨lk594, List.forall_mem_cons.mpr ⟨lk637, List.forall_mem_cons.mpr ⟨lk551, List.forall_mem_cons.mpr ⟨lk661, List.forall_mem_cons.mpr ⟨lk668, fun _ h => absurd h List.not_mem_nil⟩⟩⟩⟩⟩⟩⟩
set_option maxRecDepth 100000 in
theorem ep_c254 : ev_vr MM ev_w254 = true := ev_vr_mk (l := ep_l254) (by decide +kernel) ep_k254
def ep_l255 : List (Instr × Nat × Nat) := [(.invokevirtual 180, 227, 1), (.invokevirtual 72, 174, 1), (.putfield 79, 11, 13), (.invokevirtual 82, 205, 0)]
set_option maxRecDepth 100000 in
theorem ep_k255 : ∀ q ∈ ep_l255, ∀ pc, ev_kb MM "LeftAnswersModel" pc q.1 q.2.1 q.2.2 = true := by
  unfold ep_l255
  exact List.forall_mem_cons.mpr ⟨lk658, List.forall_mem_cons.mpr ⟨lk637, List.forall_mem_cons.mpr ⟨lk639, List.forall_mem_cons.mpr ⟨lk551, fun _ h => absurd h List.not_mem_nil⟩⟩⟩⟩
set_option maxRecDepth 100000 in
theorem ep_c255 : ev_vr MM ev_w255 = true := ev_vr_mk (l := ep_l255) (by decide +kernel) ep_k255
def ep_l256 : List (Instr × Nat × Nat) := [(.invokevirtual 180, 227, 1), (.invokevirtual 210, 265, 0), (.invokevirtual 213, 249, 0), (.invokevirtual 216, 267, 0), (.invokevirtual 219, 254, 0), (.invokevirtual 222, 262, 1), (.invokevirtual 72, 174, 1)]
set_option maxRecDepth 100000 in
theorem ep_k256 : ∀ q ∈ ep_l256, ∀ pc, ev_kb MM "LeftAnswersModel" pc q.1 q.2.1 q.2.2 = true := by
  unfold ep_l256
  exact List.forall_mem_cons.mpr ⟨lk658, List.forall_mem_cons.mpr ⟨lk673, List.forall_mem_cons.mpr ⟨lk674, List.forall_mem_cons.mpr ⟨lk675, List.forall_mem_cons.mpr ⟨lk676, List.forall_mem_cons.mpr ⟨lk677, List.forall_mem_cons.mpr ⟨lk637, fun _ h => absurd h List.not_mem_nil⟩⟩⟩⟩⟩⟩⟩
set_option maxRecDepth 100000 in
theorem ep_c256 : ev_vr MM ev_w256 = true := ev_vr_mk (l := ep_l256) (by decide +kernel) ep_k256
def ep_l257 : List (Instr × Nat × Nat) := [(.invokevirtual 172, 221, 0), (.invokevirtual 72, 174, 1), (.getfield 113, 11, 19), (.getfield 43, 11, 12), (.invokestatic 176, 200, 4), (.putfield 79, 11, 13), (.getfield 79, 11, 13), (.invokevirtual 82, 205, 0)]
set_option maxRecDepth 100000 in
theorem ep_k257 : ∀ q ∈ ep_l257, ∀ pc, ev_kb MM "LeftAnswersModel" pc q.1 q.2.1 q.2.2 = true := by
  unfold ep_l257
  exact List.forall_mem_cons.mpr ⟨lk636, List.forall_mem_cons.mpr ⟨lk637, List.forall_mem_cons.mpr ⟨lk598, List.forall_mem_cons.mpr ⟨lk623, List.forall_mem_cons.mpr ⟨lk638, List.forall_mem_cons.mpr ⟨lk639, List.forall_mem_cons.mpr ⟨lk640, List.forall_mem_cons.mpr ⟨lk551, fun _ h => absurd h List.not_mem_nil⟩⟩⟩⟩⟩⟩⟩⟩
set_option maxRecDepth 100000 in
theorem ep_c257 : ev_vr MM ev_w257 = true := ev_vr_mk (l := ep_l257) (by decide +kernel) ep_k257
def ep_l258 : List (Instr × Nat × Nat) := [(.invokevirtual 172, 221, 0), (.invokevirtual 72, 174, 1), (.getfield 117, 11, 20), (.getfield 101, 11, 15), (.getfield 43, 11, 12), (.invokestatic 176, 200, 4), (.invokevirtual 82, 205, 0)]
set_option maxRecDepth 100000 in
theorem ep_k258 : ∀ q ∈ ep_l258, ∀ pc, ev_kb MM "LeftAnswersModel" pc q.1 q.2.1 q.2.2 = true := by
  unfold ep_l258
  exact List.forall_mem_cons.mpr ⟨lk636, List.forall_mem_cons.mpr ⟨lk637, List.forall_mem_cons.mpr ⟨lk599, List.forall_mem_cons.mpr ⟨lk594, List.forall_mem_cons.mpr ⟨lk623, List.forall_mem_cons.mpr ⟨lk638, List.forall_mem_cons.mpr ⟨lk551, fun _ h => absurd h List.not_mem_nil⟩⟩⟩⟩⟩⟩⟩
set_option maxRecDepth 100000 in
theorem ep_c258 : ev_vr MM ev_w258 = true := ev_vr_mk (l := ep_l258) (by decide +kernel) ep_k258
def ep_l259 : List (Instr × Nat × Nat) := [(.invokevirtual 429, 266, 0), (.getfield 423, 11, 51), (.invokevirtual 426, 272, 4), (.putfield 423, 11, 51)]
set_option maxRecDepth 100000 in
theorem ep_k259 : ∀ q ∈ ep_l259, ∀ pc, ev_kb MM "LeftAnswersModel" pc q.1 q.2.1 q.2.2 = true := by
  unfold ep_l259
  exact List.forall_mem_cons.mpr ⟨lk656, List.forall_mem_cons.mpr ⟨lk657, List.forall_mem_cons.mpr ⟨lk659, List.forall_mem_cons.mpr ⟨lk660, fun _ h => absurd h List.not_mem_nil⟩⟩⟩⟩
set_option maxRecDepth 100000 in
theorem ep_c259 : ev_vr MM ev_w259 = true := ev_vr_mk (l := ep_l259) (by decide +kernel) ep_k259
def ep_l260 : List (Instr × Nat × Nat) := [(.getfield 30, 11, 7), (.invokevirtual 72, 174, 1), (.getfield 47, 11, 8), (.invokestatic 75, 218, 3), (.putfield 79, 11, 13), (.invokevirtual 82, 205, 0)]
set_option maxRecDepth 100000 in
theorem ep_k260 : ∀ q ∈ ep_l260, ∀ pc, ev_kb MM "LeftAnswersModel" pc q.1 q.2.1 q.2.2 = true := by
  unfold ep_l260
  exact List.forall_mem_cons.mpr ⟨lk542, List.forall_mem_cons.mpr ⟨lk637, List.forall_mem_cons.mpr ⟨lk625, List.forall_mem_cons.mpr ⟨lk560, List.forall_mem_cons.mpr ⟨lk639, List.forall_mem_cons.mpr ⟨lk551, fun _ h => absurd h List.not_mem_nil⟩⟩⟩⟩⟩⟩
set_option maxRecDepth 100000 in
theorem ep_c260 : ev_vr MM ev_w260 = true := ev_vr_mk (l := ep_l260) (by decide +kernel) ep_k260
def ep_l261 : List (Instr × Nat × Nat) := [(.getfield 98, 11, 14), (.invokevirtual 389, 257, 2), (.getfield 79, 11, 13), (.invokevirtual 426, 272, 4), (.putfield 423, 11, 51)]
set_option maxRecDepth 100000 in
theorem ep_k261 : ∀ q ∈ ep_l261, ∀ pc, ev_kb MM "LeftAnswersModel" pc q.1 q.2.1 q.2.2 = true := by
  unfold ep_l261
  exact List.forall_mem_cons.mpr ⟨lk533, List.forall_mem_cons.mpr ⟨lk670, List.forall_mem_cons.mpr ⟨lk640, List.forall_mem_cons.mpr ⟨lk659, List.forall_mem_cons.mpr ⟨lk660, fun _ h => absurd h List.not_mem_nil⟩⟩⟩⟩⟩
set_option maxRecDepth 100000 in
theorem ep_c261 : ev_vr MM ev_w261 = true := ev_vr_mk (l := ep_l261) (by decide +kernel) ep_k261
def ep_l262 : List (Instr × Nat × Nat) := [(.getfield 127, 11, 23), (.invokevirtual 72, 174, 1), (.invokevirtual 82, 205, 0), (.invokevirtual 190, 260, 2), (.invokevirtual 193, 244, 2)]
set_option maxRecDepth 100000 in
theorem ep_k262 : ∀ q ∈ ep_l262, ∀ pc, ev_kb MM "LeftAnswersModel" pc q.1 q.2.1 q.2.2 = true := by
  unfold ep_l262
  exact List.forall_mem_cons.mpr ⟨lk595, List.forall_mem_cons.mpr ⟨lk637, List.forall_mem_cons.mpr ⟨lk551, List.forall_mem_cons.mpr ⟨lk661, List.forall_mem_cons.mpr ⟨lk668, fun _ h => absurd h List.not_mem_nil⟩⟩⟩⟩⟩
set_option maxRecDepth 100000 in
theorem ep_c262 : ev_vr MM ev_w262 = true := ev_vr_mk (l := ep_l262) (by decide +kernel) ep_k262
def ep_l263 : List (Instr × Nat × Nat) := [(.invokevirtual 420, 245, 0), (.getfield 423, 11, 51), (.invokevirtual 180, 227, 1), (.invokevirtual 82, 205, 0), (.invokevirtual 426, 272, 4), (.putfield 423, 11, 51)]
set_option maxRecDepth 100000 in
theorem ep_k263 : ∀ q ∈ ep_l263, ∀ pc, ev_kb MM "LeftAnswersModel" pc q.1 q.2.1 q.2.2 = true := by
  unfold ep_l263
  exact List.forall_mem_cons.mpr ⟨lk678, List.forall_mem_cons.mpr ⟨lk657, List.forall_mem_cons.mpr ⟨lk658, List.forall_mem_cons.mpr ⟨lk551, List.forall_mem_cons.mpr ⟨lk659, List.forall_mem_cons.mpr ⟨lk660, fun _ h => absurd h List.not_mem_nil⟩⟩⟩⟩⟩⟩
set_option maxRecDepth 100000 in
theorem ep_c263 : ev_vr MM ev_w263 = true := ev_vr_mk (l := ep_l263) (by decide +kernel) ep_k263
def ep_l264 : List (Instr × Nat × Nat) := [(.invokevirtual 82, 205, 0), (.invokevirtual 201, 222, 0), (.getfield 79, 11, 13), (.invokevirtual 72, 174, 1)]
set_option maxRecDepth 100000 in
theorem ep_k264 : ∀ q ∈ ep_l264, ∀ pc, ev_kb MM "LeftAnswersModel" pc q.1 q.2.1 q.2.2 = true := by
  unfold ep_l264
  exact List.forall_mem_cons.mpr ⟨lk551, List.forall_mem_cons.mpr ⟨lk679, List.forall_mem_cons.mpr ⟨lk640, List.forall_mem_cons.mpr ⟨lk637, fun _ h => absurd h List.not_mem_nil⟩⟩⟩⟩
set_option maxRecDepth 100000 in
theorem ep_c264 : ev_vr MM ev_w264 = true := ev_vr_mk (l := ep_l264) (by decide +kernel) ep_k264
def ep_l265 : List (Instr × Nat × Nat) := [(.invokevirtual 183, 252, 2), (.getfield 101, 11, 15), (.invokevirtual 187, 258, 1), (.invokevirtual 190, 260, 2), (.invokevirtual 193, 244, 2), (.invokevirtual 197, 253, 3)]
set_option maxRecDepth 100000 in
theorem ep_k265 : ∀ q ∈ ep_l265, ∀ pc, ev_kb MM "LeftAnswersModel" pc q.1 q.2.1 q.2.2 = true := by
  unfold ep_l265
  exact List.forall_mem_cons.mpr ⟨lk666, List.forall_mem_cons.mpr ⟨lk594, List.forall_mem_cons.mpr ⟨lk667, List.forall_mem_cons.mpr ⟨lk661, List.forall_mem_cons.mpr ⟨lk668, List.forall_mem_cons.mpr ⟨lk669, fun _ h => absurd h List.not_mem_nil⟩⟩⟩⟩⟩⟩
set_option maxRecDepth 100000 in
theorem ep_c265 : ev_vr MM ev_w265 = true := ev_vr_mk (l := ep_l265) (by decide +kernel) ep_k265
def ep_l266 : List (Instr × Nat × Nat) := [(.invokevirtual 86, 225, 1), (.invokevirtual 180, 227, 1), (.invokevirtual 72, 174, 1), (.getfield 432, 11, 49), (.getfield 435, 11, 50), (.putfield 432, 11, 49), (.putfield 435, 11, 50), (.invokevirtual 82, 205, 0), (.invokevirtual 438, 247, 0), (.invokevirtual 441, 259, 0), (.invokevirtual 426, 272, 4), (.putfield 423, 11, 51), (.invokevirtual 444, 261, 1), (.invokevirtual 447, 248, 1)]
set_option maxRecDepth 100000 in
theorem ep_k266 : ∀ q ∈ ep_l266, ∀ pc, ev_kb MM "LeftAnswersModel" pc q.1 q.2.1 q.2.2 = true := by
  unfold ep_l266
  exact List.forall_mem_cons.mpr ⟨lk665, List.forall_mem_cons.mpr ⟨lk658, List.forall_mem_cons.mpr ⟨lk637, List.forall_mem_cons.mpr ⟨lk680, List.forall_mem_cons.mpr ⟨lk681, List.forall_mem_cons.mpr ⟨lk682, List.forall_mem_cons.mpr ⟨lk683, List.forall_mem_cons.mpr ⟨lk551, List.forall_mem_cons.mpr ⟨lk684, List.forall_mem_cons.mpr ⟨lk685, List.forall_mem_cons.mpr ⟨lk659, List.forall_mem_cons.mpr ⟨lk660, List.forall_mem_cons.mpr ⟨lk686, List.forall_mem_cons.mpr ⟨lk687, fun _ h => absurd h List.not_mem_nil⟩⟩⟩⟩⟩⟩⟩⟩⟩⟩⟩⟩⟩⟩
set_option maxRecDepth 100000 in
theorem ep_c266 : ev_vr MM ev_w266 = true := ev_vr_mk (l := ep_l266) (by decide +kernel) ep_k266
def ep_l267 : List (Instr × Nat × Nat) := [(.invokevirtual 204, 264, 0), (.getfield 101, 11, 15), (.getfield 79, 11, 13), (.invokestatic 207, 209, 2), (.invokevirtual 72, 174, 1), (.invokevirtual 82, 205, 0)]
set_option maxRecDepth 100000 in
theorem ep_k267 : ∀ q ∈ ep_l267, ∀ pc, ev_kb MM "LeftAnswersModel" pc q.1 q.2.1 q.2.2 = true := by
  unfold ep_l267
  exact List.forall_mem_cons.mpr ⟨lk672, List.forall_mem_cons.mpr ⟨lk594, List.forall_mem_cons.mpr ⟨lk640, List.forall_mem_cons.mpr ⟨lk575, List.forall_mem_cons.mpr ⟨lk637, List.forall_mem_cons.mpr ⟨lk551, fun _ h => absurd h List.not_mem_nil⟩⟩⟩⟩⟩⟩
set_option maxRecDepth 100000 in
theorem ep_c267 : ev_vr MM ev_w267 = true := ev_vr_mk (l := ep_l267) (by decide +kernel) ep_k267
def ep_l268 : List (Instr × Nat × Nat) := [(.putfield 1, 11, 0)]
set_option maxRecDepth 100000 in
theorem ep_k268 : ∀ q ∈ ep_l268, ∀ pc, ev_kb MM "LeftAnswersModel" pc q.1 q.2.1 q.2.2 = true := by
  unfold ep_l268
  exact List.forall_mem_cons.mpr ⟨lk535, fun _ h => absurd h List.not_mem_nil⟩
set_option maxRecDepth 100000 in
theorem ep_c268 : ev_vr MM ev_w268 = true := ev_vr_mk (l := ep_l268) (by decide +kernel) ep_k268
def ep_l269 : List (Instr × Nat × Nat) := [(.putfield 1, 11, 0), (.invokestatic 75, 218, 3), (.getfield 123, 11, 22), (.getfield 98, 11, 14), (.getfield 104, 11, 16), (.getfield 113, 11, 19), (.getfield 120, 11, 21), (.putfield 234, 11, 24)]
set_option maxRecDepth 100000 in
theorem ep_k269 : ∀ q ∈ ep_l269, ∀ pc, ev_kb MM "LeftAnswersModel" pc q.1 q.2.1 q.2.2 = true := by
  unfold ep_l269
  exact List.forall_mem_cons.mpr ⟨lk535, List.forall_mem_cons.mpr ⟨lk560, List.forall_mem_cons.mpr ⟨lk634, List.forall_mem_cons.mpr ⟨lk533, List.forall_mem_cons.mpr ⟨lk632, List.forall_mem_cons.mpr ⟨lk598, List.forall_mem_cons.mpr ⟨lk633, List.forall_mem_cons.mpr ⟨lk600, fun _ h => absurd h List.not_mem_nil⟩⟩⟩⟩⟩⟩⟩⟩
set_option maxRecDepth 100000 in
theorem ep_c269 : ev_vr MM ev_w269 = true := ev_vr_mk (l := ep_l269) (by decide +kernel) ep_k269
def ep_l270 : List (Instr × Nat × Nat) := [(.putfield 1, 11, 0), (.getfield 98, 11, 14)]
set_option maxRecDepth 100000 in
theorem ep_k270 : ∀ q ∈ ep_l270, ∀ pc, ev_kb MM "LeftAnswersModel" pc q.1 q.2.1 q.2.2 = true := by
  unfold ep_l270
  exact List.forall_mem_cons.mpr ⟨lk535, List.forall_mem_cons.mpr ⟨lk533, fun _ h => absurd h List.not_mem_nil⟩⟩
set_option maxRecDepth 100000 in
theorem ep_c270 : ev_vr MM ev_w270 = true := ev_vr_mk (l := ep_l270) (by decide +kernel) ep_k270
def ep_l271 : List (Instr × Nat × Nat) := [(.putfield 1, 11, 0), (.getfield 98, 11, 14), (.invokevirtual 453, 211, 2)]
set_option maxRecDepth 100000 in
theorem ep_k271 : ∀ q ∈ ep_l271, ∀ pc, ev_kb MM "LeftAnswersModel" pc q.1 q.2.1 q.2.2 = true := by
  unfold ep_l271
  exact List.forall_mem_cons.mpr ⟨lk535, List.forall_mem_cons.mpr ⟨lk533, List.forall_mem_cons.mpr ⟨lk629, fun _ h => absurd h List.not_mem_nil⟩⟩⟩
set_option maxRecDepth 100000 in
theorem ep_c271 : ev_vr MM ev_w271 = true := ev_vr_mk (l := ep_l271) (by decide +kernel) ep_k271
def ep_l272 : List (Instr × Nat × Nat) := [(.getfield 417, 11, 48), (.getfield 166, 11, 47), (.putfield 417, 11, 48)]
set_option maxRecDepth 100000 in
theorem ep_k272 : ∀ q ∈ ep_l272, ∀ pc, ev_kb MM "LeftAnswersModel" pc q.1 q.2.1 q.2.2 = true := by
  unfold ep_l272
  exact List.forall_mem_cons.mpr ⟨lk688, List.forall_mem_cons.mpr ⟨lk689, List.forall_mem_cons.mpr ⟨lk690, fun _ h => absurd h List.not_mem_nil⟩⟩⟩
set_option maxRecDepth 100000 in
theorem ep_c272 : ev_vr MM ev_w272 = true := ev_vr_mk (l := ep_l272) (by decide +kernel) ep_k272
def ep_l273 : List (Instr × Nat × Nat) := [(.invokevirtual 225, 176, 1), (.putfield 417, 11, 48), (.putfield 432, 11, 49), (.putfield 435, 11, 50), (.invokevirtual 450, 263, 0), (.getfield 69, 11, 11), (.getfield 30, 11, 7), (.invokevirtual 72, 174, 1), (.getfield 98, 11, 14), (.getfield 423, 11, 51), (.getfield 166, 11, 47), (.getfield 432, 11, 49)]
set_option maxRecDepth 100000 in
theorem ep_k273 : ∀ q ∈ ep_l273, ∀ pc, ev_kb MM "LeftAnswersModel" pc q.1 q.2.1 q.2.2 = true := by
  unfold ep_l273
  exact List.forall_mem_cons.mpr ⟨lk562, List.forall_mem_cons.mpr ⟨lk690, List.forall_mem_cons.mpr ⟨lk682, List.forall_mem_cons.mpr ⟨lk683, List.forall_mem_cons.mpr ⟨lk664, List.forall_mem_cons.mpr ⟨lk565, List.forall_mem_cons.mpr ⟨lk542, List.forall_mem_cons.mpr ⟨lk637, List.forall_mem_cons.mpr ⟨lk533, List.forall_mem_cons.mpr ⟨lk657, List.forall_mem_cons.mpr ⟨lk689, List.forall_mem_cons.mpr ⟨lk680, fun _ h => absurd h List.not_mem_nil⟩⟩⟩⟩⟩⟩⟩⟩⟩⟩⟩⟩
set_option maxRecDepth 100000 in
theorem ep_c273 : ev_vr MM ev_w273 = true := ev_vr_mk (l := ep_l273) (by decide +kernel) ep_k273
def ep_l274 : List (Instr × Nat × Nat) := []
set_option maxRecDepth 100000 in
theorem ep_k274 : ∀ q ∈ ep_l274, ∀ pc, ev_kb MM "LeftAnswersModel" pc q.1 q.2.1 q.2.2 = true := by
  unfold ep_l274
  exact fun _ h => absurd h List.not_mem_nil
set_option maxRecDepth 100000 in
theorem ep_c274 : ev_vr MM ev_w274 = true := ev_vr_mk (l := ep_l274) (by decide +kernel) ep_k274
def ep_l275 : List (Instr × Nat × Nat) := [(.putfield 1, 11, 0), (.invokevirtual 240, 223, 1), (.invokestatic 75, 218, 3), (.invokevirtual 252, 276, 2)]
set_option maxRecDepth 100000 in
theorem ep_k275 : ∀ q ∈ ep_l275, ∀ pc, ev_kb MM "LeftAnswersModel" pc q.1 q.2.1 q.2.2 = true := by
  unfold ep_l275
  exact List.forall_mem_cons.mpr ⟨lk535, List.forall_mem_cons.mpr ⟨lk536, List.forall_mem_cons.mpr ⟨lk560, List.forall_mem_cons.mpr ⟨lk576, fun _ h => absurd h List.not_mem_nil⟩⟩⟩⟩
set_option maxRecDepth 100000 in
theorem ep_c275 : ev_vr MM ev_w275 = true := ev_vr_mk (l := ep_l275) (by decide +kernel) ep_k275
def ep_l276 : List (Instr × Nat × Nat) := [(.getfield 98, 11, 14)]
set_option maxRecDepth 100000 in
theorem ep_k276 : ∀ q ∈ ep_l276, ∀ pc, ev_kb MM "LeftAnswersModel" pc q.1 q.2.1 q.2.2 = true := by
  unfold ep_l276
  exact List.forall_mem_cons.mpr ⟨lk533, fun _ h => absurd h List.not_mem_nil⟩
set_option maxRecDepth 100000 in
theorem ep_c276 : ev_vr MM ev_w276 = true := ev_vr_mk (l := ep_l276) (by decide +kernel) ep_k276
def ep_l277 : List (Instr × Nat × Nat) := [(.putfield 1, 11, 0), (.invokevirtual 240, 223, 1), (.putfield 354, 11, 41), (.getfield 113, 11, 19), (.invokevirtual 357, 297, 1), (.invokestatic 62, 293, 1), (.invokevirtual 367, 295, 1), (.invokevirtual 361, 294, 1), (.getfield 98, 11, 14), (.invokevirtual 364, 296, 1), (.invokevirtual 237, 219, 1), (.invokestatic 58, 279, 6), (.invokevirtual 246, 217, 1), (.invokevirtual 262, 226, 1), (.getfield 354, 11, 41)]
set_option maxRecDepth 100000 in
theorem ep_k277 : ∀ q ∈ ep_l277, ∀ pc, ev_kb MM "LeftAnswersModel" pc q.1 q.2.1 q.2.2 = true := by
  unfold ep_l277
  exact List.forall_mem_cons.mpr ⟨lk535, List.forall_mem_cons.mpr ⟨lk536, List.forall_mem_cons.mpr ⟨lk691, List.forall_mem_cons.mpr ⟨lk598, List.forall_mem_cons.mpr ⟨lk692, List.forall_mem_cons.mpr ⟨lk635, List.forall_mem_cons.mpr ⟨lk693, List.forall_mem_cons.mpr ⟨lk694, List.forall_mem_cons.mpr ⟨lk533, List.forall_mem_cons.mpr ⟨lk695, List.forall_mem_cons.mpr ⟨lk630, List.forall_mem_cons.mpr ⟨lk696, List.forall_mem_cons.mpr ⟨lk631, List.forall_mem_cons.mpr ⟨lk593, List.forall_mem_cons.mpr ⟨lk573, fun _ h => absurd h List.not_mem_nil⟩⟩⟩⟩⟩⟩⟩⟩⟩⟩⟩⟩⟩⟩⟩
set_option maxRecDepth 100000 in
theorem ep_c277 : ev_vr MM ev_w277 = true := ev_vr_mk (l := ep_l277) (by decide +kernel) ep_k277
def ep_l278 : List (Instr × Nat × Nat) := [(.getfield 234, 11, 24), (.getfield 107, 11, 17), (.putfield 234, 11, 24), (.getfield 98, 11, 14)]
set_option maxRecDepth 100000 in
theorem ep_k278 : ∀ q ∈ ep_l278, ∀ pc, ev_kb MM "LeftAnswersModel" pc q.1 q.2.1 q.2.2 = true := by
  unfold ep_l278
  exact List.forall_mem_cons.mpr ⟨lk697, List.forall_mem_cons.mpr ⟨lk698, List.forall_mem_cons.mpr ⟨lk600, List.forall_mem_cons.mpr ⟨lk533, fun _ h => absurd h List.not_mem_nil⟩⟩⟩⟩
set_option maxRecDepth 100000 in
theorem ep_c278 : ev_vr MM ev_w278 = true := ev_vr_mk (l := ep_l278) (by decide +kernel) ep_k278
def ep_l279 : List (Instr × Nat × Nat) := [(.ldc2_w 54, 27, 0), (.ldc2_w 56, 96, 0)]
set_option maxRecDepth 100000 in
theorem ep_k279 : ∀ q ∈ ep_l279, ∀ pc, ev_kb MM "LeftAnswersModel" pc q.1 q.2.1 q.2.2 = true := by
  unfold ep_l279
  exact List.forall_mem_cons.mpr ⟨lk622, List.forall_mem_cons.mpr ⟨lk624, fun _ h => absurd h List.not_mem_nil⟩⟩
set_option maxRecDepth 100000 in
theorem ep_c279 : ev_vr MM ev_w279 = true := ev_vr_mk (l := ep_l279) (by decide +kernel) ep_k279
