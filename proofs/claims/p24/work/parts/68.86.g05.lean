def ep_l200 : List (Instr × Nat × Nat) := []
set_option maxRecDepth 100000 in
theorem ep_k200 : ∀ q ∈ ep_l200, ∀ pc, ev_kb MM "LeftAnswersModel" pc q.1 q.2.1 q.2.2 = true := by
  unfold ep_l200
  exact fun _ h => absurd h List.not_mem_nil
set_option maxRecDepth 100000 in
theorem ep_c200 : ev_vr MM ev_w200 = true := ev_vr_mk (l := ep_l200) (by decide +kernel) ep_k200
def ep_l201 : List (Instr × Nat × Nat) := [(.putfield 1, 11, 0), (.getfield 322, 11, 32), (.invokestatic 75, 218, 3), (.getfield 139, 11, 30)]
set_option maxRecDepth 100000 in
theorem ep_k201 : ∀ q ∈ ep_l201, ∀ pc, ev_kb MM "LeftAnswersModel" pc q.1 q.2.1 q.2.2 = true := by
  unfold ep_l201
  exact List.forall_mem_cons.mpr ⟨lk535, List.forall_mem_cons.mpr ⟨lk604, List.forall_mem_cons.mpr ⟨lk560, List.forall_mem_cons.mpr ⟨lk605, fun _ h => absurd h List.not_mem_nil⟩⟩⟩⟩
set_option maxRecDepth 100000 in
theorem ep_c201 : ev_vr MM ev_w201 = true := ev_vr_mk (l := ep_l201) (by decide +kernel) ep_k201
def ep_l202 : List (Instr × Nat × Nat) := [(.putfield 1, 11, 0), (.invokevirtual 89, 283, 0), (.invokestatic 75, 218, 3), (.getfield 7, 11, 1), (.invokevirtual 256, 214, 1), (.getfield 98, 11, 14), (.invokevirtual 317, 184, 2), (.getfield 142, 11, 31), (.getfield 139, 11, 30), (.putfield 322, 11, 32), (.putfield 145, 11, 33), (.invokevirtual 325, 235, 2), (.getfield 145, 11, 33)]
set_option maxRecDepth 100000 in
theorem ep_k202 : ∀ q ∈ ep_l202, ∀ pc, ev_kb MM "LeftAnswersModel" pc q.1 q.2.1 q.2.2 = true := by
  unfold ep_l202
  exact List.forall_mem_cons.mpr ⟨lk535, List.forall_mem_cons.mpr ⟨lk547, List.forall_mem_cons.mpr ⟨lk560, List.forall_mem_cons.mpr ⟨lk578, List.forall_mem_cons.mpr ⟨lk537, List.forall_mem_cons.mpr ⟨lk533, List.forall_mem_cons.mpr ⟨lk606, List.forall_mem_cons.mpr ⟨lk607, List.forall_mem_cons.mpr ⟨lk605, List.forall_mem_cons.mpr ⟨lk608, List.forall_mem_cons.mpr ⟨lk525, List.forall_mem_cons.mpr ⟨lk609, List.forall_mem_cons.mpr ⟨lk610, fun _ h => absurd h List.not_mem_nil⟩⟩⟩⟩⟩⟩⟩⟩⟩⟩⟩⟩⟩
set_option maxRecDepth 100000 in
theorem ep_c202 : ev_vr MM ev_w202 = true := ev_vr_mk (l := ep_l202) (by decide +kernel) ep_k202
def ep_l203 : List (Instr × Nat × Nat) := [(.getfield 98, 11, 14)]
set_option maxRecDepth 100000 in
theorem ep_k203 : ∀ q ∈ ep_l203, ∀ pc, ev_kb MM "LeftAnswersModel" pc q.1 q.2.1 q.2.2 = true := by
  unfold ep_l203
  exact List.forall_mem_cons.mpr ⟨lk533, fun _ h => absurd h List.not_mem_nil⟩
set_option maxRecDepth 100000 in
theorem ep_c203 : ev_vr MM ev_w203 = true := ev_vr_mk (l := ep_l203) (by decide +kernel) ep_k203
def ep_l204 : List (Instr × Nat × Nat) := [(.putfield 1, 11, 0), (.invokevirtual 240, 223, 1), (.invokevirtual 292, 173, 5)]
set_option maxRecDepth 100000 in
theorem ep_k204 : ∀ q ∈ ep_l204, ∀ pc, ev_kb MM "LeftAnswersModel" pc q.1 q.2.1 q.2.2 = true := by
  unfold ep_l204
  exact List.forall_mem_cons.mpr ⟨lk535, List.forall_mem_cons.mpr ⟨lk536, List.forall_mem_cons.mpr ⟨lk546, fun _ h => absurd h List.not_mem_nil⟩⟩⟩
set_option maxRecDepth 100000 in
theorem ep_c204 : ev_vr MM ev_w204 = true := ev_vr_mk (l := ep_l204) (by decide +kernel) ep_k204
def ep_l205 : List (Instr × Nat × Nat) := [(.getfield 21, 11, 5), (.getfield 18, 11, 3), (.getfield 7, 11, 1), (.putfield 21, 11, 5), (.putfield 24, 11, 6), (.getfield 27, 11, 4), (.getfield 24, 11, 6), (.putfield 30, 11, 7), (.invokestatic 33, 220, 1), (.invokestatic 37, 215, 1), (.putfield 40, 11, 9), (.putfield 43, 11, 12), (.putfield 47, 11, 8), (.invokevirtual 50, 285, 1), (.ldc2_w 54, 27, 0), (.getfield 43, 11, 12), (.ldc2_w 56, 96, 0), (.getfield 47, 11, 8)]
set_option maxRecDepth 100000 in
theorem ep_k205 : ∀ q ∈ ep_l205, ∀ pc, ev_kb MM "LeftAnswersModel" pc q.1 q.2.1 q.2.2 = true := by
  unfold ep_l205
  exact List.forall_mem_cons.mpr ⟨lk611, List.forall_mem_cons.mpr ⟨lk612, List.forall_mem_cons.mpr ⟨lk578, List.forall_mem_cons.mpr ⟨lk550, List.forall_mem_cons.mpr ⟨lk613, List.forall_mem_cons.mpr ⟨lk614, List.forall_mem_cons.mpr ⟨lk544, List.forall_mem_cons.mpr ⟨lk615, List.forall_mem_cons.mpr ⟨lk616, List.forall_mem_cons.mpr ⟨lk617, List.forall_mem_cons.mpr ⟨lk618, List.forall_mem_cons.mpr ⟨lk619, List.forall_mem_cons.mpr ⟨lk620, List.forall_mem_cons.mpr ⟨lk621, List.forall_mem_cons.mpr ⟨lk622, List.forall_mem_cons.mpr ⟨lk623, List.forall_mem_cons.mpr ⟨lk624, List.forall_mem_cons.mpr ⟨lk625, fun _ h => absurd h List.not_mem_nil⟩⟩⟩⟩⟩⟩⟩⟩⟩⟩⟩⟩⟩⟩⟩⟩⟩⟩
set_option maxRecDepth 100000 in
theorem ep_c205 : ev_vr MM ev_w205 = true := ev_vr_mk (l := ep_l205) (by decide +kernel) ep_k205
def ep_l206 : List (Instr × Nat × Nat) := [(.getfield 160, 11, 43), (.getfield 98, 11, 14), (.invokevirtual 299, 241, 1), (.invokevirtual 281, 291, 4), (.invokevirtual 288, 232, 4)]
set_option maxRecDepth 100000 in
theorem ep_k206 : ∀ q ∈ ep_l206, ∀ pc, ev_kb MM "LeftAnswersModel" pc q.1 q.2.1 q.2.2 = true := by
  unfold ep_l206
  exact List.forall_mem_cons.mpr ⟨lk626, List.forall_mem_cons.mpr ⟨lk533, List.forall_mem_cons.mpr ⟨lk581, List.forall_mem_cons.mpr ⟨lk539, List.forall_mem_cons.mpr ⟨lk541, fun _ h => absurd h List.not_mem_nil⟩⟩⟩⟩⟩
set_option maxRecDepth 100000 in
theorem ep_c206 : ev_vr MM ev_w206 = true := ev_vr_mk (l := ep_l206) (by decide +kernel) ep_k206
def ep_l207 : List (Instr × Nat × Nat) := [(.putfield 1, 11, 0), (.getfield 148, 11, 34)]
set_option maxRecDepth 100000 in
theorem ep_k207 : ∀ q ∈ ep_l207, ∀ pc, ev_kb MM "LeftAnswersModel" pc q.1 q.2.1 q.2.2 = true := by
  unfold ep_l207
  exact List.forall_mem_cons.mpr ⟨lk535, List.forall_mem_cons.mpr ⟨lk627, fun _ h => absurd h List.not_mem_nil⟩⟩
set_option maxRecDepth 100000 in
theorem ep_c207 : ev_vr MM ev_w207 = true := ev_vr_mk (l := ep_l207) (by decide +kernel) ep_k207
def ep_l208 : List (Instr × Nat × Nat) := [(.putfield 1, 11, 0), (.getfield 98, 11, 14), (.invokestatic 207, 209, 2), (.invokestatic 328, 179, 1), (.putfield 148, 11, 34)]
set_option maxRecDepth 100000 in
theorem ep_k208 : ∀ q ∈ ep_l208, ∀ pc, ev_kb MM "LeftAnswersModel" pc q.1 q.2.1 q.2.2 = true := by
  unfold ep_l208
  exact List.forall_mem_cons.mpr ⟨lk535, List.forall_mem_cons.mpr ⟨lk533, List.forall_mem_cons.mpr ⟨lk575, List.forall_mem_cons.mpr ⟨lk628, List.forall_mem_cons.mpr ⟨lk526, fun _ h => absurd h List.not_mem_nil⟩⟩⟩⟩⟩
set_option maxRecDepth 100000 in
theorem ep_c208 : ev_vr MM ev_w208 = true := ev_vr_mk (l := ep_l208) (by decide +kernel) ep_k208
def ep_l209 : List (Instr × Nat × Nat) := []
set_option maxRecDepth 100000 in
theorem ep_k209 : ∀ q ∈ ep_l209, ∀ pc, ev_kb MM "LeftAnswersModel" pc q.1 q.2.1 q.2.2 = true := by
  unfold ep_l209
  exact fun _ h => absurd h List.not_mem_nil
set_option maxRecDepth 100000 in
theorem ep_c209 : ev_vr MM ev_w209 = true := ev_vr_mk (l := ep_l209) (by decide +kernel) ep_k209
def ep_l210 : List (Instr × Nat × Nat) := [(.putfield 1, 11, 0), (.invokevirtual 240, 223, 1), (.invokestatic 207, 209, 2), (.getfield 98, 11, 14)]
set_option maxRecDepth 100000 in
theorem ep_k210 : ∀ q ∈ ep_l210, ∀ pc, ev_kb MM "LeftAnswersModel" pc q.1 q.2.1 q.2.2 = true := by
  unfold ep_l210
  exact List.forall_mem_cons.mpr ⟨lk535, List.forall_mem_cons.mpr ⟨lk536, List.forall_mem_cons.mpr ⟨lk575, List.forall_mem_cons.mpr ⟨lk533, fun _ h => absurd h List.not_mem_nil⟩⟩⟩⟩
set_option maxRecDepth 100000 in
theorem ep_c210 : ev_vr MM ev_w210 = true := ev_vr_mk (l := ep_l210) (by decide +kernel) ep_k210
def ep_l211 : List (Instr × Nat × Nat) := [(.getfield 98, 11, 14), (.invokevirtual 453, 211, 2), (.invokevirtual 237, 219, 1), (.invokevirtual 246, 217, 1), (.invokevirtual 262, 226, 1), (.invokevirtual 249, 224, 1)]
set_option maxRecDepth 100000 in
theorem ep_k211 : ∀ q ∈ ep_l211, ∀ pc, ev_kb MM "LeftAnswersModel" pc q.1 q.2.1 q.2.2 = true := by
  unfold ep_l211
  exact List.forall_mem_cons.mpr ⟨lk533, List.forall_mem_cons.mpr ⟨lk629, List.forall_mem_cons.mpr ⟨lk630, List.forall_mem_cons.mpr ⟨lk631, List.forall_mem_cons.mpr ⟨lk593, List.forall_mem_cons.mpr ⟨lk584, fun _ h => absurd h List.not_mem_nil⟩⟩⟩⟩⟩⟩
set_option maxRecDepth 100000 in
theorem ep_c211 : ev_vr MM ev_w211 = true := ev_vr_mk (l := ep_l211) (by decide +kernel) ep_k211
def ep_l212 : List (Instr × Nat × Nat) := [(.putfield 1, 11, 0), (.invokestatic 75, 218, 3), (.getfield 104, 11, 16), (.getfield 98, 11, 14), (.getfield 120, 11, 21), (.getfield 113, 11, 19), (.getfield 123, 11, 22)]
set_option maxRecDepth 100000 in
theorem ep_k212 : ∀ q ∈ ep_l212, ∀ pc, ev_kb MM "LeftAnswersModel" pc q.1 q.2.1 q.2.2 = true := by
  unfold ep_l212
  exact List.forall_mem_cons.mpr ⟨lk535, List.forall_mem_cons.mpr ⟨lk560, List.forall_mem_cons.mpr ⟨lk632, List.forall_mem_cons.mpr ⟨lk533, List.forall_mem_cons.mpr ⟨lk633, List.forall_mem_cons.mpr ⟨lk598, List.forall_mem_cons.mpr ⟨lk634, fun _ h => absurd h List.not_mem_nil⟩⟩⟩⟩⟩⟩⟩
set_option maxRecDepth 100000 in
theorem ep_c212 : ev_vr MM ev_w212 = true := ev_vr_mk (l := ep_l212) (by decide +kernel) ep_k212
def ep_l213 : List (Instr × Nat × Nat) := [(.getfield 98, 11, 14), (.invokevirtual 249, 224, 1)]
set_option maxRecDepth 100000 in
theorem ep_k213 : ∀ q ∈ ep_l213, ∀ pc, ev_kb MM "LeftAnswersModel" pc q.1 q.2.1 q.2.2 = true := by
  unfold ep_l213
  exact List.forall_mem_cons.mpr ⟨lk533, List.forall_mem_cons.mpr ⟨lk584, fun _ h => absurd h List.not_mem_nil⟩⟩
set_option maxRecDepth 100000 in
theorem ep_c213 : ev_vr MM ev_w213 = true := ev_vr_mk (l := ep_l213) (by decide +kernel) ep_k213
def ep_l214 : List (Instr × Nat × Nat) := [(.getfield 98, 11, 14), (.invokestatic 75, 218, 3)]
set_option maxRecDepth 100000 in
theorem ep_k214 : ∀ q ∈ ep_l214, ∀ pc, ev_kb MM "LeftAnswersModel" pc q.1 q.2.1 q.2.2 = true := by
  unfold ep_l214
  exact List.forall_mem_cons.mpr ⟨lk533, List.forall_mem_cons.mpr ⟨lk560, fun _ h => absurd h List.not_mem_nil⟩⟩
set_option maxRecDepth 100000 in
theorem ep_c214 : ev_vr MM ev_w214 = true := ev_vr_mk (l := ep_l214) (by decide +kernel) ep_k214
def ep_l215 : List (Instr × Nat × Nat) := []
set_option maxRecDepth 100000 in
theorem ep_k215 : ∀ q ∈ ep_l215, ∀ pc, ev_kb MM "LeftAnswersModel" pc q.1 q.2.1 q.2.2 = true := by
  unfold ep_l215
  exact fun _ h => absurd h List.not_mem_nil
set_option maxRecDepth 100000 in
theorem ep_c215 : ev_vr MM ev_w215 = true := ev_vr_mk (l := ep_l215) (by decide +kernel) ep_k215
def ep_l216 : List (Instr × Nat × Nat) := [(.invokevirtual 262, 226, 1), (.invokevirtual 246, 217, 1), (.invokevirtual 237, 219, 1)]
set_option maxRecDepth 100000 in
theorem ep_k216 : ∀ q ∈ ep_l216, ∀ pc, ev_kb MM "LeftAnswersModel" pc q.1 q.2.1 q.2.2 = true := by
  unfold ep_l216
  exact List.forall_mem_cons.mpr ⟨lk593, List.forall_mem_cons.mpr ⟨lk631, List.forall_mem_cons.mpr ⟨lk630, fun _ h => absurd h List.not_mem_nil⟩⟩⟩
set_option maxRecDepth 100000 in
theorem ep_c216 : ev_vr MM ev_w216 = true := ev_vr_mk (l := ep_l216) (by decide +kernel) ep_k216
def ep_l217 : List (Instr × Nat × Nat) := [(.getfield 98, 11, 14), (.invokestatic 207, 209, 2)]
set_option maxRecDepth 100000 in
theorem ep_k217 : ∀ q ∈ ep_l217, ∀ pc, ev_kb MM "LeftAnswersModel" pc q.1 q.2.1 q.2.2 = true := by
  unfold ep_l217
  exact List.forall_mem_cons.mpr ⟨lk533, List.forall_mem_cons.mpr ⟨lk575, fun _ h => absurd h List.not_mem_nil⟩⟩
set_option maxRecDepth 100000 in
theorem ep_c217 : ev_vr MM ev_w217 = true := ev_vr_mk (l := ep_l217) (by decide +kernel) ep_k217
def ep_l218 : List (Instr × Nat × Nat) := []
set_option maxRecDepth 100000 in
theorem ep_k218 : ∀ q ∈ ep_l218, ∀ pc, ev_kb MM "LeftAnswersModel" pc q.1 q.2.1 q.2.2 = true := by
  unfold ep_l218
  exact fun _ h => absurd h List.not_mem_nil
set_option maxRecDepth 100000 in
theorem ep_c218 : ev_vr MM ev_w218 = true := ev_vr_mk (l := ep_l218) (by decide +kernel) ep_k218
def ep_l219 : List (Instr × Nat × Nat) := [(.getfield 98, 11, 14)]
set_option maxRecDepth 100000 in
theorem ep_k219 : ∀ q ∈ ep_l219, ∀ pc, ev_kb MM "LeftAnswersModel" pc q.1 q.2.1 q.2.2 = true := by
  unfold ep_l219
  exact List.forall_mem_cons.mpr ⟨lk533, fun _ h => absurd h List.not_mem_nil⟩
set_option maxRecDepth 100000 in
theorem ep_c219 : ev_vr MM ev_w219 = true := ev_vr_mk (l := ep_l219) (by decide +kernel) ep_k219
def ep_l220 : List (Instr × Nat × Nat) := []
set_option maxRecDepth 100000 in
theorem ep_k220 : ∀ q ∈ ep_l220, ∀ pc, ev_kb MM "LeftAnswersModel" pc q.1 q.2.1 q.2.2 = true := by
  unfold ep_l220
  exact fun _ h => absurd h List.not_mem_nil
set_option maxRecDepth 100000 in
theorem ep_c220 : ev_vr MM ev_w220 = true := ev_vr_mk (l := ep_l220) (by decide +kernel) ep_k220
def ep_l221 : List (Instr × Nat × Nat) := [(.getfield 30, 11, 7), (.getfield 43, 11, 12), (.invokestatic 62, 293, 1)]
set_option maxRecDepth 100000 in
theorem ep_k221 : ∀ q ∈ ep_l221, ∀ pc, ev_kb MM "LeftAnswersModel" pc q.1 q.2.1 q.2.2 = true := by
  unfold ep_l221
  exact List.forall_mem_cons.mpr ⟨lk542, List.forall_mem_cons.mpr ⟨lk623, List.forall_mem_cons.mpr ⟨lk635, fun _ h => absurd h List.not_mem_nil⟩⟩⟩
set_option maxRecDepth 100000 in
theorem ep_c221 : ev_vr MM ev_w221 = true := ev_vr_mk (l := ep_l221) (by decide +kernel) ep_k221
def ep_l222 : List (Instr × Nat × Nat) := [(.invokevirtual 172, 221, 0), (.invokevirtual 72, 174, 1), (.getfield 117, 11, 20), (.getfield 101, 11, 15), (.getfield 43, 11, 12), (.invokestatic 176, 200, 4), (.putfield 79, 11, 13), (.getfield 79, 11, 13)]
set_option maxRecDepth 100000 in
theorem ep_k222 : ∀ q ∈ ep_l222, ∀ pc, ev_kb MM "LeftAnswersModel" pc q.1 q.2.1 q.2.2 = true := by
  unfold ep_l222
  exact List.forall_mem_cons.mpr ⟨lk636, List.forall_mem_cons.mpr ⟨lk637, List.forall_mem_cons.mpr ⟨lk599, List.forall_mem_cons.mpr ⟨lk594, List.forall_mem_cons.mpr ⟨lk623, List.forall_mem_cons.mpr ⟨lk638, List.forall_mem_cons.mpr ⟨lk639, List.forall_mem_cons.mpr ⟨lk640, fun _ h => absurd h List.not_mem_nil⟩⟩⟩⟩⟩⟩⟩⟩
set_option maxRecDepth 100000 in
theorem ep_c222 : ev_vr MM ev_w222 = true := ev_vr_mk (l := ep_l222) (by decide +kernel) ep_k222
def ep_l223 : List (Instr × Nat × Nat) := [(.getfield 98, 11, 14), (.invokestatic 75, 218, 3)]
set_option maxRecDepth 100000 in
theorem ep_k223 : ∀ q ∈ ep_l223, ∀ pc, ev_kb MM "LeftAnswersModel" pc q.1 q.2.1 q.2.2 = true := by
  unfold ep_l223
  exact List.forall_mem_cons.mpr ⟨lk533, List.forall_mem_cons.mpr ⟨lk560, fun _ h => absurd h List.not_mem_nil⟩⟩
set_option maxRecDepth 100000 in
theorem ep_c223 : ev_vr MM ev_w223 = true := ev_vr_mk (l := ep_l223) (by decide +kernel) ep_k223
def ep_l224 : List (Instr × Nat × Nat) := [(.getfield 98, 11, 14), (.invokestatic 207, 209, 2), (.invokevirtual 237, 219, 1)]
set_option maxRecDepth 100000 in
theorem ep_k224 : ∀ q ∈ ep_l224, ∀ pc, ev_kb MM "LeftAnswersModel" pc q.1 q.2.1 q.2.2 = true := by
  unfold ep_l224
  exact List.forall_mem_cons.mpr ⟨lk533, List.forall_mem_cons.mpr ⟨lk575, List.forall_mem_cons.mpr ⟨lk630, fun _ h => absurd h List.not_mem_nil⟩⟩⟩
set_option maxRecDepth 100000 in
theorem ep_c224 : ev_vr MM ev_w224 = true := ev_vr_mk (l := ep_l224) (by decide +kernel) ep_k224
def ep_l225 : List (Instr × Nat × Nat) := [(.getfield 30, 11, 7), (.getfield 40, 11, 9)]
set_option maxRecDepth 100000 in
theorem ep_k225 : ∀ q ∈ ep_l225, ∀ pc, ev_kb MM "LeftAnswersModel" pc q.1 q.2.1 q.2.2 = true := by
  unfold ep_l225
  exact List.forall_mem_cons.mpr ⟨lk542, List.forall_mem_cons.mpr ⟨lk641, fun _ h => absurd h List.not_mem_nil⟩⟩
set_option maxRecDepth 100000 in
theorem ep_c225 : ev_vr MM ev_w225 = true := ev_vr_mk (l := ep_l225) (by decide +kernel) ep_k225
def ep_l226 : List (Instr × Nat × Nat) := [(.getfield 98, 11, 14)]
set_option maxRecDepth 100000 in
theorem ep_k226 : ∀ q ∈ ep_l226, ∀ pc, ev_kb MM "LeftAnswersModel" pc q.1 q.2.1 q.2.2 = true := by
  unfold ep_l226
  exact List.forall_mem_cons.mpr ⟨lk533, fun _ h => absurd h List.not_mem_nil⟩
set_option maxRecDepth 100000 in
theorem ep_c226 : ev_vr MM ev_w226 = true := ev_vr_mk (l := ep_l226) (by decide +kernel) ep_k226
def ep_l227 : List (Instr × Nat × Nat) := [(.getfield 30, 11, 7), (.getfield 43, 11, 12), (.invokestatic 62, 293, 1)]
set_option maxRecDepth 100000 in
theorem ep_k227 : ∀ q ∈ ep_l227, ∀ pc, ev_kb MM "LeftAnswersModel" pc q.1 q.2.1 q.2.2 = true := by
  unfold ep_l227
  exact List.forall_mem_cons.mpr ⟨lk542, List.forall_mem_cons.mpr ⟨lk623, List.forall_mem_cons.mpr ⟨lk635, fun _ h => absurd h List.not_mem_nil⟩⟩⟩
set_option maxRecDepth 100000 in
theorem ep_c227 : ev_vr MM ev_w227 = true := ev_vr_mk (l := ep_l227) (by decide +kernel) ep_k227
def ep_l228 : List (Instr × Nat × Nat) := [(.invokevirtual 237, 219, 1)]
set_option maxRecDepth 100000 in
theorem ep_k228 : ∀ q ∈ ep_l228, ∀ pc, ev_kb MM "LeftAnswersModel" pc q.1 q.2.1 q.2.2 = true := by
  unfold ep_l228
  exact List.forall_mem_cons.mpr ⟨lk630, fun _ h => absurd h List.not_mem_nil⟩
set_option maxRecDepth 100000 in
theorem ep_c228 : ev_vr MM ev_w228 = true := ev_vr_mk (l := ep_l228) (by decide +kernel) ep_k228
def ep_l229 : List (Instr × Nat × Nat) := [(.getfield 160, 11, 43), (.getfield 79, 11, 13)]
set_option maxRecDepth 100000 in
theorem ep_k229 : ∀ q ∈ ep_l229, ∀ pc, ev_kb MM "LeftAnswersModel" pc q.1 q.2.1 q.2.2 = true := by
  unfold ep_l229
  exact List.forall_mem_cons.mpr ⟨lk626, List.forall_mem_cons.mpr ⟨lk640, fun _ h => absurd h List.not_mem_nil⟩⟩
set_option maxRecDepth 100000 in
theorem ep_c229 : ev_vr MM ev_w229 = true := ev_vr_mk (l := ep_l229) (by decide +kernel) ep_k229
def ep_l230 : List (Instr × Nat × Nat) := [(.getfield 110, 11, 18), (.getfield 98, 11, 14)]
set_option maxRecDepth 100000 in
theorem ep_k230 : ∀ q ∈ ep_l230, ∀ pc, ev_kb MM "LeftAnswersModel" pc q.1 q.2.1 q.2.2 = true := by
  unfold ep_l230
  exact List.forall_mem_cons.mpr ⟨lk642, List.forall_mem_cons.mpr ⟨lk533, fun _ h => absurd h List.not_mem_nil⟩⟩
set_option maxRecDepth 100000 in
theorem ep_c230 : ev_vr MM ev_w230 = true := ev_vr_mk (l := ep_l230) (by decide +kernel) ep_k230
def ep_l231 : List (Instr × Nat × Nat) := []
set_option maxRecDepth 100000 in
theorem ep_k231 : ∀ q ∈ ep_l231, ∀ pc, ev_kb MM "LeftAnswersModel" pc q.1 q.2.1 q.2.2 = true := by
  unfold ep_l231
  exact fun _ h => absurd h List.not_mem_nil
set_option maxRecDepth 100000 in
theorem ep_c231 : ev_vr MM ev_w231 = true := ev_vr_mk (l := ep_l231) (by decide +kernel) ep_k231
def ep_l232 : List (Instr × Nat × Nat) := [(.invokevirtual 278, 189, 3), (.getfield 98, 11, 14)]
set_option maxRecDepth 100000 in
theorem ep_k232 : ∀ q ∈ ep_l232, ∀ pc, ev_kb MM "LeftAnswersModel" pc q.1 q.2.1 q.2.2 = true := by
  unfold ep_l232
  exact List.forall_mem_cons.mpr ⟨lk592, List.forall_mem_cons.mpr ⟨lk533, fun _ h => absurd h List.not_mem_nil⟩⟩
set_option maxRecDepth 100000 in
theorem ep_c232 : ev_vr MM ev_w232 = true := ev_vr_mk (l := ep_l232) (by decide +kernel) ep_k232
def ep_l233 : List (Instr × Nat × Nat) := [(.putfield 1, 11, 0), (.getfield 98, 11, 14), (.invokevirtual 259, 228, 0), (.invokevirtual 262, 226, 1), (.invokevirtual 249, 224, 1), (.invokevirtual 265, 282, 2)]
set_option maxRecDepth 100000 in
theorem ep_k233 : ∀ q ∈ ep_l233, ∀ pc, ev_kb MM "LeftAnswersModel" pc q.1 q.2.1 q.2.2 = true := by
  unfold ep_l233
  exact List.forall_mem_cons.mpr ⟨lk535, List.forall_mem_cons.mpr ⟨lk533, List.forall_mem_cons.mpr ⟨lk570, List.forall_mem_cons.mpr ⟨lk593, List.forall_mem_cons.mpr ⟨lk584, List.forall_mem_cons.mpr ⟨lk643, fun _ h => absurd h List.not_mem_nil⟩⟩⟩⟩⟩⟩
set_option maxRecDepth 100000 in
theorem ep_c233 : ev_vr MM ev_w233 = true := ev_vr_mk (l := ep_l233) (by decide +kernel) ep_k233
def ep_l234 : List (Instr × Nat × Nat) := [(.putfield 1, 11, 0), (.invokevirtual 240, 223, 1), (.invokestatic 75, 218, 3), (.invokevirtual 383, 230, 0), (.invokevirtual 380, 192, 2), (.getfield 98, 11, 14), (.getfield 110, 11, 18), (.invokevirtual 386, 284, 0)]
set_option maxRecDepth 100000 in
theorem ep_k234 : ∀ q ∈ ep_l234, ∀ pc, ev_kb MM "LeftAnswersModel" pc q.1 q.2.1 q.2.2 = true := by
  unfold ep_l234
  exact List.forall_mem_cons.mpr ⟨lk535, List.forall_mem_cons.mpr ⟨lk536, List.forall_mem_cons.mpr ⟨lk560, List.forall_mem_cons.mpr ⟨lk567, List.forall_mem_cons.mpr ⟨lk590, List.forall_mem_cons.mpr ⟨lk533, List.forall_mem_cons.mpr ⟨lk642, List.forall_mem_cons.mpr ⟨lk644, fun _ h => absurd h List.not_mem_nil⟩⟩⟩⟩⟩⟩⟩⟩
set_option maxRecDepth 100000 in
theorem ep_c234 : ev_vr MM ev_w234 = true := ev_vr_mk (l := ep_l234) (by decide +kernel) ep_k234
def ep_l235 : List (Instr × Nat × Nat) := [(.getfield 139, 11, 30), (.invokevirtual 317, 184, 2), (.invokestatic 320, 274, 1)]
set_option maxRecDepth 100000 in
theorem ep_k235 : ∀ q ∈ ep_l235, ∀ pc, ev_kb MM "LeftAnswersModel" pc q.1 q.2.1 q.2.2 = true := by
  unfold ep_l235
  exact List.forall_mem_cons.mpr ⟨lk605, List.forall_mem_cons.mpr ⟨lk606, List.forall_mem_cons.mpr ⟨lk645, fun _ h => absurd h List.not_mem_nil⟩⟩⟩
set_option maxRecDepth 100000 in
theorem ep_c235 : ev_vr MM ev_w235 = true := ev_vr_mk (l := ep_l235) (by decide +kernel) ep_k235
def ep_l236 : List (Instr × Nat × Nat) := [(.getfield 98, 11, 14), (.invokevirtual 262, 226, 1), (.invokestatic 275, 231, 2), (.invokevirtual 237, 219, 1)]
set_option maxRecDepth 100000 in
theorem ep_k236 : ∀ q ∈ ep_l236, ∀ pc, ev_kb MM "LeftAnswersModel" pc q.1 q.2.1 q.2.2 = true := by
  unfold ep_l236
  exact List.forall_mem_cons.mpr ⟨lk533, List.forall_mem_cons.mpr ⟨lk593, List.forall_mem_cons.mpr ⟨lk583, List.forall_mem_cons.mpr ⟨lk630, fun _ h => absurd h List.not_mem_nil⟩⟩⟩⟩
set_option maxRecDepth 100000 in
theorem ep_c236 : ev_vr MM ev_w236 = true := ev_vr_mk (l := ep_l236) (by decide +kernel) ep_k236
def ep_l237 : List (Instr × Nat × Nat) := [(.putfield 1, 11, 0), (.invokevirtual 240, 223, 1), (.invokevirtual 292, 173, 5)]
set_option maxRecDepth 100000 in
theorem ep_k237 : ∀ q ∈ ep_l237, ∀ pc, ev_kb MM "LeftAnswersModel" pc q.1 q.2.1 q.2.2 = true := by
  unfold ep_l237
  exact List.forall_mem_cons.mpr ⟨lk535, List.forall_mem_cons.mpr ⟨lk536, List.forall_mem_cons.mpr ⟨lk546, fun _ h => absurd h List.not_mem_nil⟩⟩⟩
set_option maxRecDepth 100000 in
theorem ep_c237 : ev_vr MM ev_w237 = true := ev_vr_mk (l := ep_l237) (by decide +kernel) ep_k237
def ep_l238 : List (Instr × Nat × Nat) := [(.getfield 302, 11, 28), (.putfield 302, 11, 28), (.getfield 133, 11, 26), (.getfield 130, 11, 25), (.getfield 98, 11, 14), (.getfield 136, 11, 27), (.invokestatic 268, 180, 1), (.getfield 7, 11, 1), (.invokevirtual 271, 292, 3), (.invokevirtual 305, 213, 3), (.invokevirtual 308, 238, 3)]
set_option maxRecDepth 100000 in
theorem ep_k238 : ∀ q ∈ ep_l238, ∀ pc, ev_kb MM "LeftAnswersModel" pc q.1 q.2.1 q.2.2 = true := by
  unfold ep_l238
  exact List.forall_mem_cons.mpr ⟨lk646, List.forall_mem_cons.mpr ⟨lk647, List.forall_mem_cons.mpr ⟨lk648, List.forall_mem_cons.mpr ⟨lk649, List.forall_mem_cons.mpr ⟨lk533, List.forall_mem_cons.mpr ⟨lk650, List.forall_mem_cons.mpr ⟨lk582, List.forall_mem_cons.mpr ⟨lk578, List.forall_mem_cons.mpr ⟨lk538, List.forall_mem_cons.mpr ⟨lk651, List.forall_mem_cons.mpr ⟨lk652, fun _ h => absurd h List.not_mem_nil⟩⟩⟩⟩⟩⟩⟩⟩⟩⟩⟩
set_option maxRecDepth 100000 in
theorem ep_c238 : ev_vr MM ev_w238 = true := ev_vr_mk (l := ep_l238) (by decide +kernel) ep_k238
def ep_l239 : List (Instr × Nat × Nat) := [(.putfield 1, 11, 0), (.invokevirtual 89, 283, 0), (.invokestatic 75, 218, 3), (.getfield 7, 11, 1), (.invokevirtual 256, 214, 1), (.getfield 136, 11, 27), (.putfield 302, 11, 28), (.invokevirtual 308, 238, 3), (.putfield 311, 11, 29), (.getfield 302, 11, 28)]
set_option maxRecDepth 100000 in
theorem ep_k239 : ∀ q ∈ ep_l239, ∀ pc, ev_kb MM "LeftAnswersModel" pc q.1 q.2.1 q.2.2 = true := by
  unfold ep_l239
  exact List.forall_mem_cons.mpr ⟨lk535, List.forall_mem_cons.mpr ⟨lk547, List.forall_mem_cons.mpr ⟨lk560, List.forall_mem_cons.mpr ⟨lk578, List.forall_mem_cons.mpr ⟨lk537, List.forall_mem_cons.mpr ⟨lk650, List.forall_mem_cons.mpr ⟨lk647, List.forall_mem_cons.mpr ⟨lk652, List.forall_mem_cons.mpr ⟨lk653, List.forall_mem_cons.mpr ⟨lk646, fun _ h => absurd h List.not_mem_nil⟩⟩⟩⟩⟩⟩⟩⟩⟩⟩
set_option maxRecDepth 100000 in
theorem ep_c239 : ev_vr MM ev_w239 = true := ev_vr_mk (l := ep_l239) (by decide +kernel) ep_k239
