def ep_l160 : List (Instr × Nat × Nat) := [(.getfield 64, 9, 4), (.getfield 50, 9, 8)]
set_option maxRecDepth 100000 in
theorem ep_k160 : ∀ q ∈ ep_l160, ∀ pc, ev_kb MM "LeftAnswers$Tape" pc q.1 q.2.1 q.2.2 = true := by
  unfold ep_l160
  exact List.forall_mem_cons.mpr ⟨lk486, List.forall_mem_cons.mpr ⟨lk487, fun _ h => absurd h List.not_mem_nil⟩⟩
set_option maxRecDepth 100000 in
theorem ep_c160 : ev_vr MM ev_w160 = true := ev_vr_mk (l := ep_l160) (by decide +kernel) ep_k160
def ep_l161 : List (Instr × Nat × Nat) := [(.putfield 28, 9, 2), (.putfield 31, 9, 3), (.putfield 34, 9, 10), (.putfield 37, 9, 11), (.putfield 40, 9, 9), (.invokevirtual 43, 155, 0)]
set_option maxRecDepth 100000 in
theorem ep_k161 : ∀ q ∈ ep_l161, ∀ pc, ev_kb MM "LeftAnswers$Tape" pc q.1 q.2.1 q.2.2 = true := by
  unfold ep_l161
  exact List.forall_mem_cons.mpr ⟨lk488, List.forall_mem_cons.mpr ⟨lk478, List.forall_mem_cons.mpr ⟨lk489, List.forall_mem_cons.mpr ⟨lk490, List.forall_mem_cons.mpr ⟨lk491, List.forall_mem_cons.mpr ⟨lk492, fun _ h => absurd h List.not_mem_nil⟩⟩⟩⟩⟩⟩
set_option maxRecDepth 100000 in
theorem ep_c161 : ev_vr MM ev_w161 = true := ev_vr_mk (l := ep_l161) (by decide +kernel) ep_k161
def ep_l162 : List (Instr × Nat × Nat) := [(.getfield 24, 9, 1), (.getfield 11, 9, 0), (.putfield 24, 9, 1)]
set_option maxRecDepth 100000 in
theorem ep_k162 : ∀ q ∈ ep_l162, ∀ pc, ev_kb MM "LeftAnswers$Tape" pc q.1 q.2.1 q.2.2 = true := by
  unfold ep_l162
  exact List.forall_mem_cons.mpr ⟨lk475, List.forall_mem_cons.mpr ⟨lk493, List.forall_mem_cons.mpr ⟨lk494, fun _ h => absurd h List.not_mem_nil⟩⟩⟩
set_option maxRecDepth 100000 in
theorem ep_c162 : ev_vr MM ev_w162 = true := ev_vr_mk (l := ep_l162) (by decide +kernel) ep_k162
def ep_l163 : List (Instr × Nat × Nat) := [(.getfield 31, 9, 3), (.invokevirtual 53, 166, 1), (.putfield 50, 9, 8), (.invokestatic 87, 159, 1), (.putfield 64, 9, 4), (.putfield 31, 9, 3)]
set_option maxRecDepth 100000 in
theorem ep_k163 : ∀ q ∈ ep_l163, ∀ pc, ev_kb MM "LeftAnswers$Tape" pc q.1 q.2.1 q.2.2 = true := by
  unfold ep_l163
  exact List.forall_mem_cons.mpr ⟨lk474, List.forall_mem_cons.mpr ⟨lk476, List.forall_mem_cons.mpr ⟨lk473, List.forall_mem_cons.mpr ⟨lk495, List.forall_mem_cons.mpr ⟨lk481, List.forall_mem_cons.mpr ⟨lk478, fun _ h => absurd h List.not_mem_nil⟩⟩⟩⟩⟩⟩
set_option maxRecDepth 100000 in
theorem ep_c163 : ev_vr MM ev_w163 = true := ev_vr_mk (l := ep_l163) (by decide +kernel) ep_k163
def ep_l164 : List (Instr × Nat × Nat) := [(.getfield 31, 9, 3), (.getfield 24, 9, 1), (.invokevirtual 53, 166, 1), (.invokestatic 67, 158, 1), (.getfield 46, 9, 7), (.invokestatic 79, 170, 2), (.putfield 46, 9, 7), (.invokestatic 70, 157, 1), (.getfield 50, 9, 8), (.putfield 50, 9, 8), (.putfield 31, 9, 3), (.putfield 64, 9, 4), (.invokestatic 83, 169, 1), (.putfield 21, 9, 6)]
set_option maxRecDepth 100000 in
theorem ep_k164 : ∀ q ∈ ep_l164, ∀ pc, ev_kb MM "LeftAnswers$Tape" pc q.1 q.2.1 q.2.2 = true := by
  unfold ep_l164
  exact List.forall_mem_cons.mpr ⟨lk474, List.forall_mem_cons.mpr ⟨lk475, List.forall_mem_cons.mpr ⟨lk476, List.forall_mem_cons.mpr ⟨lk482, List.forall_mem_cons.mpr ⟨lk496, List.forall_mem_cons.mpr ⟨lk497, List.forall_mem_cons.mpr ⟨lk472, List.forall_mem_cons.mpr ⟨lk483, List.forall_mem_cons.mpr ⟨lk487, List.forall_mem_cons.mpr ⟨lk473, List.forall_mem_cons.mpr ⟨lk478, List.forall_mem_cons.mpr ⟨lk481, List.forall_mem_cons.mpr ⟨lk498, List.forall_mem_cons.mpr ⟨lk471, fun _ h => absurd h List.not_mem_nil⟩⟩⟩⟩⟩⟩⟩⟩⟩⟩⟩⟩⟩⟩
set_option maxRecDepth 100000 in
theorem ep_c164 : ev_vr MM ev_w164 = true := ev_vr_mk (l := ep_l164) (by decide +kernel) ep_k164
def ep_l165 : List (Instr × Nat × Nat) := [(.putfield 34, 9, 10), (.getfield 61, 9, 5), (.putfield 37, 9, 11)]
set_option maxRecDepth 100000 in
theorem ep_k165 : ∀ q ∈ ep_l165, ∀ pc, ev_kb MM "LeftAnswers$Tape" pc q.1 q.2.1 q.2.2 = true := by
  unfold ep_l165
  exact List.forall_mem_cons.mpr ⟨lk489, List.forall_mem_cons.mpr ⟨lk499, List.forall_mem_cons.mpr ⟨lk490, fun _ h => absurd h List.not_mem_nil⟩⟩⟩
set_option maxRecDepth 100000 in
theorem ep_c165 : ev_vr MM ev_w165 = true := ev_vr_mk (l := ep_l165) (by decide +kernel) ep_k165
def ep_l166 : List (Instr × Nat × Nat) := [(.getfield 11, 9, 0)]
set_option maxRecDepth 100000 in
theorem ep_k166 : ∀ q ∈ ep_l166, ∀ pc, ev_kb MM "LeftAnswers$Tape" pc q.1 q.2.1 q.2.2 = true := by
  unfold ep_l166
  exact List.forall_mem_cons.mpr ⟨lk493, fun _ h => absurd h List.not_mem_nil⟩
set_option maxRecDepth 100000 in
theorem ep_c166 : ev_vr MM ev_w166 = true := ev_vr_mk (l := ep_l166) (by decide +kernel) ep_k166
def ep_l167 : List (Instr × Nat × Nat) := [(.invokevirtual 90, 160, 1), (.invokevirtual 94, 165, 1), (.invokevirtual 43, 155, 0)]
set_option maxRecDepth 100000 in
theorem ep_k167 : ∀ q ∈ ep_l167, ∀ pc, ev_kb MM "LeftAnswers$Tape" pc q.1 q.2.1 q.2.2 = true := by
  unfold ep_l167
  exact List.forall_mem_cons.mpr ⟨lk500, List.forall_mem_cons.mpr ⟨lk501, List.forall_mem_cons.mpr ⟨lk492, fun _ h => absurd h List.not_mem_nil⟩⟩⟩
set_option maxRecDepth 100000 in
theorem ep_c167 : ev_vr MM ev_w167 = true := ev_vr_mk (l := ep_l167) (by decide +kernel) ep_k167
def ep_l168 : List (Instr × Nat × Nat) := [(.getfield 64, 9, 4), (.invokevirtual 94, 165, 1), (.getfield 50, 9, 8), (.putfield 40, 9, 9), (.invokevirtual 43, 155, 0)]
set_option maxRecDepth 100000 in
theorem ep_k168 : ∀ q ∈ ep_l168, ∀ pc, ev_kb MM "LeftAnswers$Tape" pc q.1 q.2.1 q.2.2 = true := by
  unfold ep_l168
  exact List.forall_mem_cons.mpr ⟨lk486, List.forall_mem_cons.mpr ⟨lk501, List.forall_mem_cons.mpr ⟨lk487, List.forall_mem_cons.mpr ⟨lk491, List.forall_mem_cons.mpr ⟨lk492, fun _ h => absurd h List.not_mem_nil⟩⟩⟩⟩⟩
set_option maxRecDepth 100000 in
theorem ep_c168 : ev_vr MM ev_w168 = true := ev_vr_mk (l := ep_l168) (by decide +kernel) ep_k168
def ep_l169 : List (Instr × Nat × Nat) := [(.getstatic 141, 101, 0), (.getfield 123, 200, 0), (.getstatic 7, 1, 0)]
set_option maxRecDepth 100000 in
theorem ep_k169 : ∀ q ∈ ep_l169, ∀ pc, ev_kb MM "LeftAnswers$Word" pc q.1 q.2.1 q.2.2 = true := by
  unfold ep_l169
  exact List.forall_mem_cons.mpr ⟨lk502, List.forall_mem_cons.mpr ⟨lk503, List.forall_mem_cons.mpr ⟨lk504, fun _ h => absurd h List.not_mem_nil⟩⟩⟩
set_option maxRecDepth 100000 in
theorem ep_c169 : ev_vr MM ev_w169 = true := ev_vr_mk (l := ep_l169) (by decide +kernel) ep_k169
def ep_l170 : List (Instr × Nat × Nat) := []
set_option maxRecDepth 100000 in
theorem ep_k170 : ∀ q ∈ ep_l170, ∀ pc, ev_kb MM "LeftAnswers$Word" pc q.1 q.2.1 q.2.2 = true := by
  unfold ep_l170
  exact fun _ h => absurd h List.not_mem_nil
set_option maxRecDepth 100000 in
theorem ep_c170 : ev_vr MM ev_w170 = true := ev_vr_mk (l := ep_l170) (by decide +kernel) ep_k170
def ep_l171 : List (Instr × Nat × Nat) := [(.invokespecial 93, 999, 0), (.newarray .int, 0, 0), (.putfield 7, 11, 1), (.putfield 98, 11, 14), (.putfield 101, 11, 15), (.putfield 104, 11, 16), (.putfield 107, 11, 17), (.putfield 110, 11, 18), (.newarray .long, 0, 0), (.putfield 113, 11, 19), (.putfield 117, 11, 20), (.putfield 120, 11, 21), (.newarray .boolean, 0, 0), (.putfield 123, 11, 22), (.putfield 127, 11, 23), (.putfield 130, 11, 25), (.putfield 133, 11, 26), (.putfield 136, 11, 27), (.putfield 139, 11, 30), (.putfield 142, 11, 31), (.putfield 145, 11, 33), (.putfield 148, 11, 34), (.putfield 151, 11, 35), (.putfield 154, 11, 36), (.putfield 157, 11, 40), (.putfield 160, 11, 43), (.putfield 163, 11, 44), (.putfield 166, 11, 47), (.getfield 98, 11, 14), (.invokevirtual 169, 280, 0)]
set_option maxRecDepth 100000 in
theorem ep_k171 : ∀ q ∈ ep_l171, ∀ pc, ev_kb MM "LeftAnswersModel" pc q.1 q.2.1 q.2.2 = true := by
  unfold ep_l171
  exact List.forall_mem_cons.mpr ⟨lk505, List.forall_mem_cons.mpr ⟨lk506, List.forall_mem_cons.mpr ⟨lk507, List.forall_mem_cons.mpr ⟨lk508, List.forall_mem_cons.mpr ⟨lk509, List.forall_mem_cons.mpr ⟨lk510, List.forall_mem_cons.mpr ⟨lk511, List.forall_mem_cons.mpr ⟨lk512, List.forall_mem_cons.mpr ⟨lk513, List.forall_mem_cons.mpr ⟨lk514, List.forall_mem_cons.mpr ⟨lk515, List.forall_mem_cons.mpr ⟨lk516, List.forall_mem_cons.mpr ⟨lk517, List.forall_mem_cons.mpr ⟨lk518, List.forall_mem_cons.mpr ⟨lk519, List.forall_mem_cons.mpr ⟨lk520, List.forall_mem_cons.mpr ⟨lk521, List.forall_mem_cons.mpr ⟨lk522, List.forall_mem_cons.mpr ⟨lk523, List.forall_mem_cons.mpr ⟨lk524, List.forall_mem_cons.mpr ⟨lk525, List.forall_mem_cons.mpr ⟨lk526, List.forall_mem_cons.mpr ⟨lk527, List.forall_mem_cons.mpr ⟨lk528, List.forall_mem_cons.mpr ⟨lk529, List.forall_mem_cons.mpr ⟨lk530, List.forall_mem_cons.mpr ⟨lk531, List.forall_mem_cons.mpr ⟨lk532, List.forall_mem_cons.mpr ⟨lk533, List.forall_mem_cons.mpr ⟨lk534, fun _ h => absurd h List.not_mem_nil⟩⟩⟩⟩⟩⟩⟩⟩⟩⟩⟩⟩⟩⟩⟩⟩⟩⟩⟩⟩⟩⟩⟩⟩⟩⟩⟩⟩⟩⟩
set_option maxRecDepth 100000 in
theorem ep_c171 : ev_vr MM ev_w171 = true := ev_vr_mk (l := ep_l171) (by decide +kernel) ep_k171
def ep_l172 : List (Instr × Nat × Nat) := [(.putfield 1, 11, 0), (.invokevirtual 240, 223, 1), (.invokevirtual 256, 214, 1), (.invokevirtual 271, 292, 3)]
set_option maxRecDepth 100000 in
theorem ep_k172 : ∀ q ∈ ep_l172, ∀ pc, ev_kb MM "LeftAnswersModel" pc q.1 q.2.1 q.2.2 = true := by
  unfold ep_l172
  exact List.forall_mem_cons.mpr ⟨lk535, List.forall_mem_cons.mpr ⟨lk536, List.forall_mem_cons.mpr ⟨lk537, List.forall_mem_cons.mpr ⟨lk538, fun _ h => absurd h List.not_mem_nil⟩⟩⟩⟩
set_option maxRecDepth 100000 in
theorem ep_c172 : ev_vr MM ev_w172 = true := ev_vr_mk (l := ep_l172) (by decide +kernel) ep_k172
def ep_l173 : List (Instr × Nat × Nat) := [(.invokevirtual 281, 291, 4), (.invokevirtual 285, 278, 0), (.invokevirtual 288, 232, 4)]
set_option maxRecDepth 100000 in
theorem ep_k173 : ∀ q ∈ ep_l173, ∀ pc, ev_kb MM "LeftAnswersModel" pc q.1 q.2.1 q.2.2 = true := by
  unfold ep_l173
  exact List.forall_mem_cons.mpr ⟨lk539, List.forall_mem_cons.mpr ⟨lk540, List.forall_mem_cons.mpr ⟨lk541, fun _ h => absurd h List.not_mem_nil⟩⟩⟩
set_option maxRecDepth 100000 in
theorem ep_c173 : ev_vr MM ev_w173 = true := ev_vr_mk (l := ep_l173) (by decide +kernel) ep_k173
def ep_l174 : List (Instr × Nat × Nat) := [(.getfield 30, 11, 7), (.putfield 66, 11, 10), (.getfield 24, 11, 6), (.putfield 69, 11, 11)]
set_option maxRecDepth 100000 in
theorem ep_k174 : ∀ q ∈ ep_l174, ∀ pc, ev_kb MM "LeftAnswersModel" pc q.1 q.2.1 q.2.2 = true := by
  unfold ep_l174
  exact List.forall_mem_cons.mpr ⟨lk542, List.forall_mem_cons.mpr ⟨lk543, List.forall_mem_cons.mpr ⟨lk544, List.forall_mem_cons.mpr ⟨lk545, fun _ h => absurd h List.not_mem_nil⟩⟩⟩⟩
set_option maxRecDepth 100000 in
theorem ep_c174 : ev_vr MM ev_w174 = true := ev_vr_mk (l := ep_l174) (by decide +kernel) ep_k174
def ep_l175 : List (Instr × Nat × Nat) := [(.putfield 1, 11, 0), (.invokevirtual 240, 223, 1), (.invokevirtual 292, 173, 5)]
set_option maxRecDepth 100000 in
theorem ep_k175 : ∀ q ∈ ep_l175, ∀ pc, ev_kb MM "LeftAnswersModel" pc q.1 q.2.1 q.2.2 = true := by
  unfold ep_l175
  exact List.forall_mem_cons.mpr ⟨lk535, List.forall_mem_cons.mpr ⟨lk536, List.forall_mem_cons.mpr ⟨lk546, fun _ h => absurd h List.not_mem_nil⟩⟩⟩
set_option maxRecDepth 100000 in
theorem ep_c175 : ev_vr MM ev_w175 = true := ev_vr_mk (l := ep_l175) (by decide +kernel) ep_k175
def ep_l176 : List (Instr × Nat × Nat) := [(.putfield 1, 11, 0), (.invokevirtual 89, 283, 0), (.putfield 18, 11, 3), (.putfield 27, 11, 4), (.putfield 66, 11, 10), (.putfield 21, 11, 5), (.invokevirtual 82, 205, 0)]
set_option maxRecDepth 100000 in
theorem ep_k176 : ∀ q ∈ ep_l176, ∀ pc, ev_kb MM "LeftAnswersModel" pc q.1 q.2.1 q.2.2 = true := by
  unfold ep_l176
  exact List.forall_mem_cons.mpr ⟨lk535, List.forall_mem_cons.mpr ⟨lk547, List.forall_mem_cons.mpr ⟨lk548, List.forall_mem_cons.mpr ⟨lk549, List.forall_mem_cons.mpr ⟨lk543, List.forall_mem_cons.mpr ⟨lk550, List.forall_mem_cons.mpr ⟨lk551, fun _ h => absurd h List.not_mem_nil⟩⟩⟩⟩⟩⟩⟩
set_option maxRecDepth 100000 in
theorem ep_c176 : ev_vr MM ev_w176 = true := ev_vr_mk (l := ep_l176) (by decide +kernel) ep_k176
def ep_l177 : List (Instr × Nat × Nat) := [(.putfield 1, 11, 0), (.getfield 151, 11, 35), (.putfield 331, 11, 37), (.invokevirtual 334, 290, 2), (.getfield 98, 11, 14), (.putfield 344, 11, 38), (.putfield 347, 11, 39), (.getfield 331, 11, 37)]
set_option maxRecDepth 100000 in
theorem ep_k177 : ∀ q ∈ ep_l177, ∀ pc, ev_kb MM "LeftAnswersModel" pc q.1 q.2.1 q.2.2 = true := by
  unfold ep_l177
  exact List.forall_mem_cons.mpr ⟨lk535, List.forall_mem_cons.mpr ⟨lk552, List.forall_mem_cons.mpr ⟨lk553, List.forall_mem_cons.mpr ⟨lk554, List.forall_mem_cons.mpr ⟨lk533, List.forall_mem_cons.mpr ⟨lk555, List.forall_mem_cons.mpr ⟨lk556, List.forall_mem_cons.mpr ⟨lk557, fun _ h => absurd h List.not_mem_nil⟩⟩⟩⟩⟩⟩⟩⟩
set_option maxRecDepth 100000 in
theorem ep_c177 : ev_vr MM ev_w177 = true := ev_vr_mk (l := ep_l177) (by decide +kernel) ep_k177
def ep_l178 : List (Instr × Nat × Nat) := [(.putfield 1, 11, 0), (.getfield 347, 11, 39), (.getfield 344, 11, 38), (.invokestatic 75, 218, 3), (.getfield 154, 11, 36)]
set_option maxRecDepth 100000 in
theorem ep_k178 : ∀ q ∈ ep_l178, ∀ pc, ev_kb MM "LeftAnswersModel" pc q.1 q.2.1 q.2.2 = true := by
  unfold ep_l178
  exact List.forall_mem_cons.mpr ⟨lk535, List.forall_mem_cons.mpr ⟨lk558, List.forall_mem_cons.mpr ⟨lk559, List.forall_mem_cons.mpr ⟨lk560, List.forall_mem_cons.mpr ⟨lk561, fun _ h => absurd h List.not_mem_nil⟩⟩⟩⟩⟩
set_option maxRecDepth 100000 in
theorem ep_c178 : ev_vr MM ev_w178 = true := ev_vr_mk (l := ep_l178) (by decide +kernel) ep_k178
def ep_l179 : List (Instr × Nat × Nat) := []
set_option maxRecDepth 100000 in
theorem ep_k179 : ∀ q ∈ ep_l179, ∀ pc, ev_kb MM "LeftAnswersModel" pc q.1 q.2.1 q.2.2 = true := by
  unfold ep_l179
  exact fun _ h => absurd h List.not_mem_nil
set_option maxRecDepth 100000 in
theorem ep_c179 : ev_vr MM ev_w179 = true := ev_vr_mk (l := ep_l179) (by decide +kernel) ep_k179
def ep_l180 : List (Instr × Nat × Nat) := []
set_option maxRecDepth 100000 in
theorem ep_k180 : ∀ q ∈ ep_l180, ∀ pc, ev_kb MM "LeftAnswersModel" pc q.1 q.2.1 q.2.2 = true := by
  unfold ep_l180
  exact fun _ h => absurd h List.not_mem_nil
set_option maxRecDepth 100000 in
theorem ep_c180 : ev_vr MM ev_w180 = true := ev_vr_mk (l := ep_l180) (by decide +kernel) ep_k180
def ep_l181 : List (Instr × Nat × Nat) := [(.putfield 1, 11, 0), (.invokestatic 75, 218, 3), (.invokevirtual 225, 176, 1), (.putfield 398, 11, 45), (.getfield 30, 11, 7), (.invokevirtual 404, 246, 0), (.getfield 69, 11, 11), (.getfield 398, 11, 45), (.invokevirtual 383, 230, 0), (.invokevirtual 407, 206, 1), (.getfield 163, 11, 44), (.getfield 98, 11, 14), (.invokevirtual 259, 228, 0), (.putfield 410, 11, 46), (.invokevirtual 413, 281, 1)]
set_option maxRecDepth 100000 in
theorem ep_k181 : ∀ q ∈ ep_l181, ∀ pc, ev_kb MM "LeftAnswersModel" pc q.1 q.2.1 q.2.2 = true := by
  unfold ep_l181
  exact List.forall_mem_cons.mpr ⟨lk535, List.forall_mem_cons.mpr ⟨lk560, List.forall_mem_cons.mpr ⟨lk562, List.forall_mem_cons.mpr ⟨lk563, List.forall_mem_cons.mpr ⟨lk542, List.forall_mem_cons.mpr ⟨lk564, List.forall_mem_cons.mpr ⟨lk565, List.forall_mem_cons.mpr ⟨lk566, List.forall_mem_cons.mpr ⟨lk567, List.forall_mem_cons.mpr ⟨lk568, List.forall_mem_cons.mpr ⟨lk569, List.forall_mem_cons.mpr ⟨lk533, List.forall_mem_cons.mpr ⟨lk570, List.forall_mem_cons.mpr ⟨lk571, List.forall_mem_cons.mpr ⟨lk572, fun _ h => absurd h List.not_mem_nil⟩⟩⟩⟩⟩⟩⟩⟩⟩⟩⟩⟩⟩⟩⟩
set_option maxRecDepth 100000 in
theorem ep_c181 : ev_vr MM ev_w181 = true := ev_vr_mk (l := ep_l181) (by decide +kernel) ep_k181
def ep_l182 : List (Instr × Nat × Nat) := [(.putfield 1, 11, 0), (.getfield 354, 11, 41), (.invokestatic 75, 218, 3), (.getfield 157, 11, 40)]
set_option maxRecDepth 100000 in
theorem ep_k182 : ∀ q ∈ ep_l182, ∀ pc, ev_kb MM "LeftAnswersModel" pc q.1 q.2.1 q.2.2 = true := by
  unfold ep_l182
  exact List.forall_mem_cons.mpr ⟨lk535, List.forall_mem_cons.mpr ⟨lk573, List.forall_mem_cons.mpr ⟨lk560, List.forall_mem_cons.mpr ⟨lk574, fun _ h => absurd h List.not_mem_nil⟩⟩⟩⟩
set_option maxRecDepth 100000 in
theorem ep_c182 : ev_vr MM ev_w182 = true := ev_vr_mk (l := ep_l182) (by decide +kernel) ep_k182
def ep_l183 : List (Instr × Nat × Nat) := [(.getfield 98, 11, 14), (.invokestatic 207, 209, 2), (.invokevirtual 252, 276, 2)]
set_option maxRecDepth 100000 in
theorem ep_k183 : ∀ q ∈ ep_l183, ∀ pc, ev_kb MM "LeftAnswersModel" pc q.1 q.2.1 q.2.2 = true := by
  unfold ep_l183
  exact List.forall_mem_cons.mpr ⟨lk533, List.forall_mem_cons.mpr ⟨lk575, List.forall_mem_cons.mpr ⟨lk576, fun _ h => absurd h List.not_mem_nil⟩⟩⟩
set_option maxRecDepth 100000 in
theorem ep_c183 : ev_vr MM ev_w183 = true := ev_vr_mk (l := ep_l183) (by decide +kernel) ep_k183
def ep_l184 : List (Instr × Nat × Nat) := [(.invokevirtual 314, 183, 3)]
set_option maxRecDepth 100000 in
theorem ep_k184 : ∀ q ∈ ep_l184, ∀ pc, ev_kb MM "LeftAnswersModel" pc q.1 q.2.1 q.2.2 = true := by
  unfold ep_l184
  exact List.forall_mem_cons.mpr ⟨lk577, fun _ h => absurd h List.not_mem_nil⟩
set_option maxRecDepth 100000 in
theorem ep_c184 : ev_vr MM ev_w184 = true := ev_vr_mk (l := ep_l184) (by decide +kernel) ep_k184
def ep_l185 : List (Instr × Nat × Nat) := [(.getfield 7, 11, 1), (.getfield 11, 11, 2), (.putfield 11, 11, 2)]
set_option maxRecDepth 100000 in
theorem ep_k185 : ∀ q ∈ ep_l185, ∀ pc, ev_kb MM "LeftAnswersModel" pc q.1 q.2.1 q.2.2 = true := by
  unfold ep_l185
  exact List.forall_mem_cons.mpr ⟨lk578, List.forall_mem_cons.mpr ⟨lk579, List.forall_mem_cons.mpr ⟨lk580, fun _ h => absurd h List.not_mem_nil⟩⟩⟩
set_option maxRecDepth 100000 in
theorem ep_c185 : ev_vr MM ev_w185 = true := ev_vr_mk (l := ep_l185) (by decide +kernel) ep_k185
def ep_l186 : List (Instr × Nat × Nat) := [(.putfield 1, 11, 0), (.getfield 98, 11, 14), (.getfield 11, 11, 2)]
set_option maxRecDepth 100000 in
theorem ep_k186 : ∀ q ∈ ep_l186, ∀ pc, ev_kb MM "LeftAnswersModel" pc q.1 q.2.1 q.2.2 = true := by
  unfold ep_l186
  exact List.forall_mem_cons.mpr ⟨lk535, List.forall_mem_cons.mpr ⟨lk533, List.forall_mem_cons.mpr ⟨lk579, fun _ h => absurd h List.not_mem_nil⟩⟩⟩
set_option maxRecDepth 100000 in
theorem ep_c186 : ev_vr MM ev_w186 = true := ev_vr_mk (l := ep_l186) (by decide +kernel) ep_k186
def ep_l187 : List (Instr × Nat × Nat) := [(.putfield 1, 11, 0), (.invokestatic 75, 218, 3), (.getfield 98, 11, 14), (.invokevirtual 285, 278, 0), (.invokevirtual 299, 241, 1)]
set_option maxRecDepth 100000 in
theorem ep_k187 : ∀ q ∈ ep_l187, ∀ pc, ev_kb MM "LeftAnswersModel" pc q.1 q.2.1 q.2.2 = true := by
  unfold ep_l187
  exact List.forall_mem_cons.mpr ⟨lk535, List.forall_mem_cons.mpr ⟨lk560, List.forall_mem_cons.mpr ⟨lk533, List.forall_mem_cons.mpr ⟨lk540, List.forall_mem_cons.mpr ⟨lk581, fun _ h => absurd h List.not_mem_nil⟩⟩⟩⟩⟩
set_option maxRecDepth 100000 in
theorem ep_c187 : ev_vr MM ev_w187 = true := ev_vr_mk (l := ep_l187) (by decide +kernel) ep_k187
def ep_l188 : List (Instr × Nat × Nat) := [(.putfield 1, 11, 0), (.invokevirtual 256, 214, 1), (.getfield 98, 11, 14), (.invokestatic 207, 209, 2)]
set_option maxRecDepth 100000 in
theorem ep_k188 : ∀ q ∈ ep_l188, ∀ pc, ev_kb MM "LeftAnswersModel" pc q.1 q.2.1 q.2.2 = true := by
  unfold ep_l188
  exact List.forall_mem_cons.mpr ⟨lk535, List.forall_mem_cons.mpr ⟨lk537, List.forall_mem_cons.mpr ⟨lk533, List.forall_mem_cons.mpr ⟨lk575, fun _ h => absurd h List.not_mem_nil⟩⟩⟩⟩
set_option maxRecDepth 100000 in
theorem ep_c188 : ev_vr MM ev_w188 = true := ev_vr_mk (l := ep_l188) (by decide +kernel) ep_k188
def ep_l189 : List (Instr × Nat × Nat) := [(.getfield 98, 11, 14), (.invokestatic 268, 180, 1), (.invokestatic 275, 231, 2), (.invokevirtual 249, 224, 1)]
set_option maxRecDepth 100000 in
theorem ep_k189 : ∀ q ∈ ep_l189, ∀ pc, ev_kb MM "LeftAnswersModel" pc q.1 q.2.1 q.2.2 = true := by
  unfold ep_l189
  exact List.forall_mem_cons.mpr ⟨lk533, List.forall_mem_cons.mpr ⟨lk582, List.forall_mem_cons.mpr ⟨lk583, List.forall_mem_cons.mpr ⟨lk584, fun _ h => absurd h List.not_mem_nil⟩⟩⟩⟩
set_option maxRecDepth 100000 in
theorem ep_c189 : ev_vr MM ev_w189 = true := ev_vr_mk (l := ep_l189) (by decide +kernel) ep_k189
def ep_l190 : List (Instr × Nat × Nat) := [(.putfield 1, 11, 0), (.invokevirtual 240, 223, 1), (.invokevirtual 256, 214, 1), (.invokestatic 75, 218, 3), (.invokevirtual 292, 173, 5)]
set_option maxRecDepth 100000 in
theorem ep_k190 : ∀ q ∈ ep_l190, ∀ pc, ev_kb MM "LeftAnswersModel" pc q.1 q.2.1 q.2.2 = true := by
  unfold ep_l190
  exact List.forall_mem_cons.mpr ⟨lk535, List.forall_mem_cons.mpr ⟨lk536, List.forall_mem_cons.mpr ⟨lk537, List.forall_mem_cons.mpr ⟨lk560, List.forall_mem_cons.mpr ⟨lk546, fun _ h => absurd h List.not_mem_nil⟩⟩⟩⟩⟩
set_option maxRecDepth 100000 in
theorem ep_c190 : ev_vr MM ev_w190 = true := ev_vr_mk (l := ep_l190) (by decide +kernel) ep_k190
def ep_l191 : List (Instr × Nat × Nat) := [(.getfield 370, 11, 42), (.ldc_w 373, 1103515245, 0), (.putfield 370, 11, 42)]
set_option maxRecDepth 100000 in
theorem ep_k191 : ∀ q ∈ ep_l191, ∀ pc, ev_kb MM "LeftAnswersModel" pc q.1 q.2.1 q.2.2 = true := by
  unfold ep_l191
  exact List.forall_mem_cons.mpr ⟨lk585, List.forall_mem_cons.mpr ⟨lk586, List.forall_mem_cons.mpr ⟨lk587, fun _ h => absurd h List.not_mem_nil⟩⟩⟩
set_option maxRecDepth 100000 in
theorem ep_c191 : ev_vr MM ev_w191 = true := ev_vr_mk (l := ep_l191) (by decide +kernel) ep_k191
def ep_l192 : List (Instr × Nat × Nat) := [(.putfield 370, 11, 42), (.getfield 98, 11, 14), (.invokestatic 275, 231, 2), (.invokevirtual 377, 194, 1), (.invokevirtual 296, 236, 0)]
set_option maxRecDepth 100000 in
theorem ep_k192 : ∀ q ∈ ep_l192, ∀ pc, ev_kb MM "LeftAnswersModel" pc q.1 q.2.1 q.2.2 = true := by
  unfold ep_l192
  exact List.forall_mem_cons.mpr ⟨lk587, List.forall_mem_cons.mpr ⟨lk533, List.forall_mem_cons.mpr ⟨lk583, List.forall_mem_cons.mpr ⟨lk588, List.forall_mem_cons.mpr ⟨lk589, fun _ h => absurd h List.not_mem_nil⟩⟩⟩⟩⟩
set_option maxRecDepth 100000 in
theorem ep_c192 : ev_vr MM ev_w192 = true := ev_vr_mk (l := ep_l192) (by decide +kernel) ep_k192
def ep_l193 : List (Instr × Nat × Nat) := [(.putfield 1, 11, 0), (.invokestatic 75, 218, 3), (.getfield 98, 11, 14), (.invokevirtual 285, 278, 0), (.invokevirtual 380, 192, 2)]
set_option maxRecDepth 100000 in
theorem ep_k193 : ∀ q ∈ ep_l193, ∀ pc, ev_kb MM "LeftAnswersModel" pc q.1 q.2.1 q.2.2 = true := by
  unfold ep_l193
  exact List.forall_mem_cons.mpr ⟨lk535, List.forall_mem_cons.mpr ⟨lk560, List.forall_mem_cons.mpr ⟨lk533, List.forall_mem_cons.mpr ⟨lk540, List.forall_mem_cons.mpr ⟨lk590, fun _ h => absurd h List.not_mem_nil⟩⟩⟩⟩⟩
set_option maxRecDepth 100000 in
theorem ep_c193 : ev_vr MM ev_w193 = true := ev_vr_mk (l := ep_l193) (by decide +kernel) ep_k193
def ep_l194 : List (Instr × Nat × Nat) := [(.getfield 98, 11, 14), (.invokevirtual 374, 191, 1), (.invokevirtual 271, 292, 3), (.invokevirtual 278, 189, 3), (.invokevirtual 281, 291, 4), (.invokevirtual 288, 232, 4), (.invokevirtual 262, 226, 1)]
set_option maxRecDepth 100000 in
theorem ep_k194 : ∀ q ∈ ep_l194, ∀ pc, ev_kb MM "LeftAnswersModel" pc q.1 q.2.1 q.2.2 = true := by
  unfold ep_l194
  exact List.forall_mem_cons.mpr ⟨lk533, List.forall_mem_cons.mpr ⟨lk591, List.forall_mem_cons.mpr ⟨lk538, List.forall_mem_cons.mpr ⟨lk592, List.forall_mem_cons.mpr ⟨lk539, List.forall_mem_cons.mpr ⟨lk541, List.forall_mem_cons.mpr ⟨lk593, fun _ h => absurd h List.not_mem_nil⟩⟩⟩⟩⟩⟩⟩
set_option maxRecDepth 100000 in
theorem ep_c194 : ev_vr MM ev_w194 = true := ev_vr_mk (l := ep_l194) (by decide +kernel) ep_k194
def ep_l195 : List (Instr × Nat × Nat) := [(.invokevirtual 225, 176, 1), (.getfield 101, 11, 15), (.getfield 127, 11, 23), (.getfield 30, 11, 7), (.invokevirtual 228, 256, 0), (.invokevirtual 231, 251, 0), (.getfield 69, 11, 11), (.getfield 98, 11, 14), (.getfield 113, 11, 19), (.getfield 117, 11, 20), (.invokevirtual 169, 280, 0), (.putfield 234, 11, 24)]
set_option maxRecDepth 100000 in
theorem ep_k195 : ∀ q ∈ ep_l195, ∀ pc, ev_kb MM "LeftAnswersModel" pc q.1 q.2.1 q.2.2 = true := by
  unfold ep_l195
  exact List.forall_mem_cons.mpr ⟨lk562, List.forall_mem_cons.mpr ⟨lk594, List.forall_mem_cons.mpr ⟨lk595, List.forall_mem_cons.mpr ⟨lk542, List.forall_mem_cons.mpr ⟨lk596, List.forall_mem_cons.mpr ⟨lk597, List.forall_mem_cons.mpr ⟨lk565, List.forall_mem_cons.mpr ⟨lk533, List.forall_mem_cons.mpr ⟨lk598, List.forall_mem_cons.mpr ⟨lk599, List.forall_mem_cons.mpr ⟨lk534, List.forall_mem_cons.mpr ⟨lk600, fun _ h => absurd h List.not_mem_nil⟩⟩⟩⟩⟩⟩⟩⟩⟩⟩⟩⟩
set_option maxRecDepth 100000 in
theorem ep_c195 : ev_vr MM ev_w195 = true := ev_vr_mk (l := ep_l195) (by decide +kernel) ep_k195
def ep_l196 : List (Instr × Nat × Nat) := [(.putfield 1, 11, 0), (.invokevirtual 240, 223, 1), (.invokevirtual 351, 242, 2)]
set_option maxRecDepth 100000 in
theorem ep_k196 : ∀ q ∈ ep_l196, ∀ pc, ev_kb MM "LeftAnswersModel" pc q.1 q.2.1 q.2.2 = true := by
  unfold ep_l196
  exact List.forall_mem_cons.mpr ⟨lk535, List.forall_mem_cons.mpr ⟨lk536, List.forall_mem_cons.mpr ⟨lk601, fun _ h => absurd h List.not_mem_nil⟩⟩⟩
set_option maxRecDepth 100000 in
theorem ep_c196 : ev_vr MM ev_w196 = true := ev_vr_mk (l := ep_l196) (by decide +kernel) ep_k196
def ep_l197 : List (Instr × Nat × Nat) := [(.putfield 1, 11, 0), (.getfield 11, 11, 2), (.putfield 11, 11, 2)]
set_option maxRecDepth 100000 in
theorem ep_k197 : ∀ q ∈ ep_l197, ∀ pc, ev_kb MM "LeftAnswersModel" pc q.1 q.2.1 q.2.2 = true := by
  unfold ep_l197
  exact List.forall_mem_cons.mpr ⟨lk535, List.forall_mem_cons.mpr ⟨lk579, List.forall_mem_cons.mpr ⟨lk580, fun _ h => absurd h List.not_mem_nil⟩⟩⟩
set_option maxRecDepth 100000 in
theorem ep_c197 : ev_vr MM ev_w197 = true := ev_vr_mk (l := ep_l197) (by decide +kernel) ep_k197
def ep_l198 : List (Instr × Nat × Nat) := [(.putfield 1, 11, 0), (.getfield 66, 11, 10)]
set_option maxRecDepth 100000 in
theorem ep_k198 : ∀ q ∈ ep_l198, ∀ pc, ev_kb MM "LeftAnswersModel" pc q.1 q.2.1 q.2.2 = true := by
  unfold ep_l198
  exact List.forall_mem_cons.mpr ⟨lk535, List.forall_mem_cons.mpr ⟨lk602, fun _ h => absurd h List.not_mem_nil⟩⟩
set_option maxRecDepth 100000 in
theorem ep_c198 : ev_vr MM ev_w198 = true := ev_vr_mk (l := ep_l198) (by decide +kernel) ep_k198
def ep_l199 : List (Instr × Nat × Nat) := [(.putfield 1, 11, 0), (.getfield 11, 11, 2), (.invokevirtual 14, 185, 1)]
set_option maxRecDepth 100000 in
theorem ep_k199 : ∀ q ∈ ep_l199, ∀ pc, ev_kb MM "LeftAnswersModel" pc q.1 q.2.1 q.2.2 = true := by
  unfold ep_l199
  exact List.forall_mem_cons.mpr ⟨lk535, List.forall_mem_cons.mpr ⟨lk579, List.forall_mem_cons.mpr ⟨lk603, fun _ h => absurd h List.not_mem_nil⟩⟩⟩
set_option maxRecDepth 100000 in
theorem ep_c199 : ev_vr MM ev_w199 = true := ev_vr_mk (l := ep_l199) (by decide +kernel) ep_k199
