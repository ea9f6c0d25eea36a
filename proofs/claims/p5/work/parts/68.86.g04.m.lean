section
def ep_l160 : List (Instr × Nat × Nat) := [(.getfield 64, 9, 4), (.getfield 50, 9, 8)]
set_option maxRecDepth 100000 in
theorem ep_k160 : ∀ q ∈ ep_l160, ∀ pc, ev_kb MM "LeftAnswers$Tape" pc q.1 q.2.1 q.2.2 = true := by
  unfold ep_l160
  exact List.forall_mem_cons.mpr ⟨lk486, List.forall_mem_cons.mpr ⟨lk487, fun _ h => absurd h List.not_mem_nil⟩⟩
set_option maxRecDepth 100000 in
theorem ep_c160 : ev_vr MM ev_w160 = true := ev_vr_mk (l := ep_l160) (scan_vf (by decide +kernel)) ep_k160
def ep_l161 : List (Instr × Nat × Nat) := [(.putfield 28, 9, 2), (.putfield 31, 9, 3), (.putfield 34, 9, 10), (.putfield 37, 9, 11), (.putfield 40, 9, 9), (.invokevirtual 43, 155, 0)]
set_option maxRecDepth 100000 in
theorem ep_k161 : ∀ q ∈ ep_l161, ∀ pc, ev_kb MM "LeftAnswers$Tape" pc q.1 q.2.1 q.2.2 = true := by
  unfold ep_l161
  exact List.forall_mem_cons.mpr ⟨lk488, List.forall_mem_cons.mpr ⟨lk478, List.forall_mem_cons.mpr ⟨lk489, List.forall_mem_cons.mpr ⟨lk490, List.forall_mem_cons.mpr ⟨lk491, List.forall_mem_cons.mpr ⟨lk492, fun _ h => absurd h List.not_mem_nil⟩⟩⟩⟩⟩⟩
set_option maxRecDepth 100000 in
theorem ep_c161 : ev_vr MM ev_w161 = true := ev_vr_mk (l := ep_l161) (scan_vf (by decide +kernel)) ep_k161
def ep_l162 : List (Instr × Nat × Nat) := [(.getfield 24, 9, 1), (.getfield 11, 9, 0), (.putfield 24, 9, 1)]
set_option maxRecDepth 100000 in
theorem ep_k162 : ∀ q ∈ ep_l162, ∀ pc, ev_kb MM "LeftAnswers$Tape" pc q.1 q.2.1 q.2.2 = true := by
  unfold ep_l162
  exact List.forall_mem_cons.mpr ⟨lk475, List.forall_mem_cons.mpr ⟨lk493, List.forall_mem_cons.mpr ⟨lk494, fun _ h => absurd h List.not_mem_nil⟩⟩⟩
set_option maxRecDepth 100000 in
theorem ep_c162 : ev_vr MM ev_w162 = true := ev_vr_mk (l := ep_l162) (scan_vf (by decide +kernel)) ep_k162
def ep_l163 : List (Instr × Nat × Nat) := [(.getfield 31, 9, 3), (.invokevirtual 53, 166, 1), (.putfield 50, 9, 8), (.invokestatic 87, 159, 1), (.putfield 64, 9, 4), (.putfield 31, 9, 3)]
set_option maxRecDepth 100000 in
theorem ep_k163 : ∀ q ∈ ep_l163, ∀ pc, ev_kb MM "LeftAnswers$Tape" pc q.1 q.2.1 q.2.2 = true := by
  unfold ep_l163
  exact List.forall_mem_cons.mpr ⟨lk474, List.forall_mem_cons.mpr ⟨lk476, List.forall_mem_cons.mpr ⟨lk473, List.forall_mem_cons.mpr ⟨lk495, List.forall_mem_cons.mpr ⟨lk481, List.forall_mem_cons.mpr ⟨lk478, fun _ h => absurd h List.not_mem_nil⟩⟩⟩⟩⟩⟩
set_option maxRecDepth 100000 in
theorem ep_c163 : ev_vr MM ev_w163 = true := ev_vr_mk (l := ep_l163) (scan_vf (by decide +kernel)) ep_k163
def ep_l164 : List (Instr × Nat × Nat) := [(.getfield 31, 9, 3), (.getfield 24, 9, 1), (.invokevirtual 53, 166, 1), (.invokestatic 67, 158, 1), (.getfield 46, 9, 7), (.invokestatic 79, 170, 2), (.putfield 46, 9, 7), (.invokestatic 70, 157, 1), (.getfield 50, 9, 8), (.putfield 50, 9, 8), (.putfield 31, 9, 3), (.putfield 64, 9, 4), (.invokestatic 83, 169, 1), (.putfield 21, 9, 6)]
set_option maxRecDepth 100000 in
theorem ep_k164 : ∀ q ∈ ep_l164, ∀ pc, ev_kb MM "LeftAnswers$Tape" pc q.1 q.2.1 q.2.2 = true := by
  unfold ep_l164
  exact List.forall_mem_cons.mpr ⟨lk474, List.forall_mem_cons.mpr ⟨lk475, List.forall_mem_cons.mpr ⟨lk476, List.forall_mem_cons.mpr ⟨lk482, List.forall_mem_cons.mpr ⟨lk496, List.forall_mem_cons.mpr ⟨lk497, List.forall_mem_cons.mpr ⟨lk472, List.forall_mem_cons.mpr ⟨lk483, List.forall_mem_cons.mpr ⟨lk487, List.forall_mem_cons.mpr ⟨lk473, List.forall_mem_cons.mpr ⟨lk478, List.forall_mem_cons.mpr ⟨lk481, List.forall_mem_cons.mpr ⟨lk498, List.forall_mem_cons.mpr ⟨lk471, fun _ h => absurd h List.not_mem_nil⟩⟩⟩⟩⟩⟩⟩⟩⟩⟩⟩⟩⟩⟩
set_option maxRecDepth 100000 in
theorem ep_c164 : ev_vr MM ev_w164 = true := ev_vr_mk (l := ep_l164) (scan_vf (by decide +kernel)) ep_k164
def ep_l165 : List (Instr × Nat × Nat) := [(.putfield 34, 9, 10), (.getfield 61, 9, 5), (.putfield 37, 9, 11)]
set_option maxRecDepth 100000 in
theorem ep_k165 : ∀ q ∈ ep_l165, ∀ pc, ev_kb MM "LeftAnswers$Tape" pc q.1 q.2.1 q.2.2 = true := by
  unfold ep_l165
  exact List.forall_mem_cons.mpr ⟨lk489, List.forall_mem_cons.mpr ⟨lk499, List.forall_mem_cons.mpr ⟨lk490, fun _ h => absurd h List.not_mem_nil⟩⟩⟩
set_option maxRecDepth 100000 in
theorem ep_c165 : ev_vr MM ev_w165 = true := ev_vr_mk (l := ep_l165) (scan_vf (by decide +kernel)) ep_k165
def ep_l166 : List (Instr × Nat × Nat) := [(.getfield 11, 9, 0)]
set_option maxRecDepth 100000 in
theorem ep_k166 : ∀ q ∈ ep_l166, ∀ pc, ev_kb MM "LeftAnswers$Tape" pc q.1 q.2.1 q.2.2 = true := by
  unfold ep_l166
  exact List.forall_mem_cons.mpr ⟨lk493, fun _ h => absurd h List.not_mem_nil⟩
set_option maxRecDepth 100000 in
theorem ep_c166 : ev_vr MM ev_w166 = true := ev_vr_mk (l := ep_l166) (scan_vf (by decide +kernel)) ep_k166
def ep_l167 : List (Instr × Nat × Nat) := [(.invokevirtual 90, 160, 1), (.invokevirtual 94, 165, 1), (.invokevirtual 43, 155, 0)]
set_option maxRecDepth 100000 in
theorem ep_k167 : ∀ q ∈ ep_l167, ∀ pc, ev_kb MM "LeftAnswers$Tape" pc q.1 q.2.1 q.2.2 = true := by
  unfold ep_l167
  exact List.forall_mem_cons.mpr ⟨lk500, List.forall_mem_cons.mpr ⟨lk501, List.forall_mem_cons.mpr ⟨lk492, fun _ h => absurd h List.not_mem_nil⟩⟩⟩
set_option maxRecDepth 100000 in
theorem ep_c167 : ev_vr MM ev_w167 = true := ev_vr_mk (l := ep_l167) (scan_vf (by decide +kernel)) ep_k167
def ep_l168 : List (Instr × Nat × Nat) := [(.getfield 64, 9, 4), (.invokevirtual 94, 165, 1), (.getfield 50, 9, 8), (.putfield 40, 9, 9), (.invokevirtual 43, 155, 0)]
set_option maxRecDepth 100000 in
theorem ep_k168 : ∀ q ∈ ep_l168, ∀ pc, ev_kb MM "LeftAnswers$Tape" pc q.1 q.2.1 q.2.2 = true := by
  unfold ep_l168
  exact List.forall_mem_cons.mpr ⟨lk486, List.forall_mem_cons.mpr ⟨lk501, List.forall_mem_cons.mpr ⟨lk487, List.forall_mem_cons.mpr ⟨lk491, List.forall_mem_cons.mpr ⟨lk492, fun _ h => absurd h List.not_mem_nil⟩⟩⟩⟩⟩
set_option maxRecDepth 100000 in
theorem ep_c168 : ev_vr MM ev_w168 = true := ev_vr_mk (l := ep_l168) (scan_vf (by decide +kernel)) ep_k168
def ep_l169 : List (Instr × Nat × Nat) := [(.getstatic 141, 101, 0), (.getfield 123, 200, 0), (.getstatic 7, 1, 0)]
set_option maxRecDepth 100000 in
theorem ep_k169 : ∀ q ∈ ep_l169, ∀ pc, ev_kb MM "LeftAnswers$Word" pc q.1 q.2.1 q.2.2 = true := by
  unfold ep_l169
  exact List.forall_mem_cons.mpr ⟨lk502, List.forall_mem_cons.mpr ⟨lk503, List.forall_mem_cons.mpr ⟨lk504, fun _ h => absurd h List.not_mem_nil⟩⟩⟩
set_option maxRecDepth 100000 in
theorem ep_c169 : ev_vr MM ev_w169 = true := ev_vr_mk (l := ep_l169) (scan_vf (by decide +kernel)) ep_k169
def ep_l170 : List (Instr × Nat × Nat) := []
set_option maxRecDepth 100000 in
theorem ep_k170 : ∀ q ∈ ep_l170, ∀ pc, ev_kb MM "LeftAnswers$Word" pc q.1 q.2.1 q.2.2 = true := by
  unfold ep_l170
  exact fun _ h => absurd h List.not_mem_nil
set_option maxRecDepth 100000 in
theorem ep_c170 : ev_vr MM ev_w170 = true := ev_vr_mk (l := ep_l170) (scan_vf (by decide +kernel)) ep_k170
def ep_l171 : List (Instr × Nat × Nat) := [(.invokespecial 93, 999, 0), (.newarray .int, 0, 0), (.putfield 7, 11, 1), (.putfield 98, 11, 14), (.putfield 101, 11, 15), (.putfield 104, 11, 16), (.putfield 107, 11, 17), (.putfield 110, 11, 18), (.newarray .long, 0, 0), (.putfield 113, 11, 19), (.putfield 117, 11, 20), (.putfield 120, 11, 21), (.newarray .boolean, 0, 0), (.putfield 123, 11, 22), (.putfield 127, 11, 23), (.putfield 130, 11, 25), (.putfield 133, 11, 26), (.putfield 136, 11, 27), (.putfield 139, 11, 30), (.putfield 142, 11, 31), (.putfield 145, 11, 33), (.putfield 148, 11, 34), (.putfield 151, 11, 35), (.putfield 154, 11, 36), (.putfield 157, 11, 40), (.putfield 160, 11, 43), (.putfield 163, 11, 44), (.putfield 166, 11, 47), (.getfield 98, 11, 14), (.invokevirtual 169, 280, 0)]
set_option maxRecDepth 100000 in
theorem ep_k171 : ∀ q ∈ ep_l171, ∀ pc, ev_kb MM "LeftAnswersModel" pc q.1 q.2.1 q.2.2 = true := by
  unfold ep_l171
  exact List.forall_mem_cons.mpr ⟨lk505, List.forall_mem_cons.mpr ⟨lk506, List.forall_mem_cons.mpr ⟨lk507, List.forall_mem_cons.mpr ⟨lk508, List.forall_mem_cons.mpr ⟨lk509, List.forall_mem_cons.mpr ⟨lk510, List.forall_mem_cons.mpr ⟨lk511, List.forall_mem_cons.mpr ⟨lk512, List.forall_mem_cons.mpr ⟨lk513, List.forall_mem_cons.mpr ⟨lk514, List.forall_mem_cons.mpr ⟨lk515, List.forall_mem_cons.mpr ⟨lk516, List.forall_mem_cons.mpr ⟨lk517, List.forall_mem_cons.mpr ⟨lk518, List.forall_mem_cons.mpr ⟨lk519, List.forall_mem_cons.mpr ⟨lk520, List.forall_mem_cons.mpr ⟨lk521, List.forall_mem_cons.mpr ⟨lk522, List.forall_mem_cons.mpr ⟨lk523, List.forall_mem_cons.mpr ⟨lk524, List.forall_mem_cons.mpr ⟨lk525, List.forall_mem_cons.mpr ⟨lk526, List.forall_mem_cons.mpr ⟨lk527, List.forall_mem_cons.mpr ⟨lk528, List.forall_mem_cons.mpr ⟨lk529, List.forall_mem_cons.mpr ⟨lk530, List.forall_mem_cons.mpr ⟨lk531, List.forall_mem_cons.mpr ⟨lk532, List.forall_mem_cons.mpr ⟨lk533, List.forall_mem_cons.mpr ⟨lk534, fun _ h => absurd h List.not_mem_nil⟩⟩⟩⟩⟩⟩⟩⟩⟩⟩⟩⟩⟩⟩⟩⟩⟩⟩⟩⟩⟩⟩⟩⟩⟩⟩⟩⟩⟩⟩
set_option maxRecDepth 100000 in
theorem ep_c171 : ev_vr MM ev_w171 = true := ev_vr_mk (l := ep_l171) (scan_vf (by decide +kernel)) ep_k171
def ep_l172 : List (Instr × Nat × Nat) := [(.putfield 1, 11, 0), (.invokevirtual 240, 223, 1), (.invokevirtual 256, 214, 1), (.invokevirtual 271, 292, 3)]
set_option maxRecDepth 100000 in
theorem ep_k172 : ∀ q ∈ ep_l172, ∀ pc, ev_kb MM "LeftAnswersModel" pc q.1 q.2.1 q.2.2 = true := by
  unfold ep_l172
  exact List.forall_mem_cons.mpr ⟨lk535, List.forall_mem_cons.mpr ⟨lk536, List.forall_mem_cons.mpr ⟨lk537, List.forall_mem_cons.mpr ⟨lk538, fun _ h => absurd h List.not_mem_nil⟩⟩⟩⟩
set_option maxRecDepth 100000 in
theorem ep_c172 : ev_vr MM ev_w172 = true := ev_vr_mk (l := ep_l172) (scan_vf (by decide +kernel)) ep_k172
def ep_l173 : List (Instr × Nat × Nat) := [(.invokevirtual 281, 291, 4), (.invokevirtual 285, 278, 0), (.invokevirtual 288, 232, 4)]
set_option maxRecDepth 100000 in
theorem ep_k173 : ∀ q ∈ ep_l173, ∀ pc, ev_kb MM "LeftAnswersModel" pc q.1 q.2.1 q.2.2 = true := by
  unfold ep_l173
  exact List.forall_mem_cons.mpr ⟨lk539, List.forall_mem_cons.mpr ⟨lk540, List.forall_mem_cons.mpr ⟨lk541, fun _ h => absurd h List.not_mem_nil⟩⟩⟩
set_option maxRecDepth 100000 in
theorem ep_c173 : ev_vr MM ev_w173 = true := ev_vr_mk (l := ep_l173) (scan_vf (by decide +kernel)) ep_k173
def ep_l174 : List (Instr × Nat × Nat) := [(.getfield 30, 11, 7), (.putfield 66, 11, 10), (.getfield 24, 11, 6), (.putfield 69, 11, 11)]
set_option maxRecDepth 100000 in
theorem ep_k174 : ∀ q ∈ ep_l174, ∀ pc, ev_kb MM "LeftAnswersModel" pc q.1 q.2.1 q.2.2 = true := by
  unfold ep_l174
  exact List.forall_mem_cons.mpr ⟨lk542, List.forall_mem_cons.mpr ⟨lk543, List.forall_mem_cons.mpr ⟨lk544, List.forall_mem_cons.mpr ⟨lk545, fun _ h => absurd h List.not_mem_nil⟩⟩⟩⟩
set_option maxRecDepth 100000 in
theorem ep_c174 : ev_vr MM ev_w174 = true := ev_vr_mk (l := ep_l174) (scan_vf (by decide +kernel)) ep_k174
def ep_l175 : List (Instr × Nat × Nat) := [(.putfield 1, 11, 0), (.invokevirtual 240, 223, 1), (.invokevirtual 292, 173, 5)]
set_option maxRecDepth 100000 in
theorem ep_k175 : ∀ q ∈ ep_l175, ∀ pc, ev_kb MM "LeftAnswersModel" pc q.1 q.2.1 q.2.2 = true := by
  unfold ep_l175
  exact List.forall_mem_cons.mpr ⟨lk535, List.forall_mem_cons.mpr ⟨lk536, List.forall_mem_cons.mpr ⟨lk546, fun _ h => absurd h List.not_mem_nil⟩⟩⟩
set_option maxRecDepth 100000 in
theorem ep_c175 : ev_vr MM ev_w175 = true := ev_vr_mk (l := ep_l175) (scan_vf (by decide +kernel)) ep_k175
def ep_l176 : List (Instr × Nat × Nat) := [(.putfield 1, 11, 0), (.invokevirtual 89, 283, 0), (.putfield 18, 11, 3), (.putfield 27, 11, 4), (.putfield 66, 11, 10), (.putfield 21, 11, 5), (.invokevirtual 82, 205, 0)]
set_option maxRecDepth 100000 in
theorem ep_k176 : ∀ q ∈ ep_l176, ∀ pc, ev_kb MM "LeftAnswersModel" pc q.1 q.2.1 q.2.2 = true := by
  unfold ep_l176
  exact List.forall_mem_cons.mpr ⟨lk535, List.forall_mem_cons.mpr ⟨lk547, List.forall_mem_cons.mpr ⟨lk548, List.forall_mem_cons.mpr ⟨lk549, List.forall_mem_cons.mpr ⟨lk543, List.forall_mem_cons.mpr ⟨lk550, List.forall_mem_cons.mpr ⟨lk551, fun _ h => absurd h List.not_mem_nil⟩⟩⟩⟩⟩⟩⟩
set_option maxRecDepth 100000 in
theorem ep_c176 : ev_vr MM ev_w176 = true := ev_vr_mk (l := ep_l176) (scan_vf (by decide +kernel)) ep_k176
def ep_l177 : List (Instr × Nat × Nat) := [(.putfield 1, 11, 0), (.getfield 151, 11, 35), (.putfield 331, 11, 37), (.invokevirtual 334, 290, 2), (.getfield 98, 11, 14), (.putfield 344, 11, 38), (.putfield 347, 11, 39), (.getfield 331, 11, 37)]
set_option maxRecDepth 100000 in
theorem ep_k177 : ∀ q ∈ ep_l177, ∀ pc, ev_kb MM "LeftAnswersModel" pc q.1 q.2.1 q.2.2 = true := by
  unfold ep_l177
  exact List.forall_mem_cons.mpr ⟨lk535, List.forall_mem_cons.mpr ⟨lk552, List.forall_mem_cons.mpr ⟨lk553, List.forall_mem_cons.mpr ⟨lk554, List.forall_mem_cons.mpr ⟨lk533, List.forall_mem_cons.mpr ⟨lk555, List.forall_mem_cons.mpr ⟨lk556, List.forall_mem_cons.mpr ⟨lk557, fun _ h => absurd h List.not_mem_nil⟩⟩⟩⟩⟩⟩⟩⟩
set_option maxRecDepth 100000 in
theorem ep_c177 : ev_vr MM ev_w177 = true := ev_vr_mk (l := ep_l177) (scan_vf (by decide +kernel)) ep_k177
def ep_l178 : List (Instr × Nat × Nat) := [(.putfield 1, 11, 0), (.getfield 347, 11, 39), (.getfield 344, 11, 38), (.invokestatic 75, 218, 3), (.getfield 154, 11, 36)]
set_option maxRecDepth 100000 in
theorem ep_k178 : ∀ q ∈ ep_l178, ∀ pc, ev_kb MM "LeftAnswersModel" pc q.1 q.2.1 q.2.2 = true := by
  unfold ep_l178
  exact List.forall_mem_cons.mpr ⟨lk535, List.forall_mem_cons.mpr ⟨lk558, List.forall_mem_cons.mpr ⟨lk559, List.forall_mem_cons.mpr ⟨lk560, List.forall_mem_cons.mpr ⟨lk561, fun _ h => absurd h List.not_mem_nil⟩⟩⟩⟩⟩
set_option maxRecDepth 100000 in
theorem ep_c178 : ev_vr MM ev_w178 = true := ev_vr_mk (l := ep_l178) (scan_vf (by decide +kernel)) ep_k178
def ep_l179 : List (Instr × Nat × Nat) := []
set_option maxRecDepth 100000 in
theorem ep_k179 : ∀ q ∈ ep_l179, ∀ pc, ev_kb MM "LeftAnswersModel" pc q.1 q.2.1 q.2.2 = true := by
  unfold ep_l179
  exact fun _ h => absurd h List.not_mem_nil
set_option maxRecDepth 100000 in
theorem ep_c179 : ev_vr MM ev_w179 = true := ev_vr_mk (l := ep_l179) (scan_vf (by decide +kernel)) ep_k179
def ep_l180 : List (Instr × Nat × Nat) := []
set_option maxRecDepth 100000 in
theorem ep_k180 : ∀ q ∈ ep_l180, ∀ pc, ev_kb MM "LeftAnswersModel" pc q.1 q.2.1 q.2.2 = true := by
  unfold ep_l180
  exact fun _ h => absurd h List.not_mem_nil
set_option maxRecDepth 100000 in
theorem ep_c180 : ev_vr MM ev_w180 = true := ev_vr_mk (l := ep_l180) (scan_vf (by decide +kernel)) ep_k180
def ep_l181 : List (Instr × Nat × Nat) := [(.putfield 1, 11, 0), (.invokestatic 75, 218, 3), (.invokevirtual 225, 176, 1), (.putfield 398, 11, 45), (.getfield 30, 11, 7), (.invokevirtual 404, 246, 0), (.getfield 69, 11, 11), (.getfield 398, 11, 45), (.invokevirtual 383, 230, 0), (.invokevirtual 407, 206, 1), (.getfield 163, 11, 44), (.getfield 98, 11, 14), (.invokevirtual 259, 228, 0), (.putfield 410, 11, 46), (.invokevirtual 413, 281, 1)]
set_option maxRecDepth 100000 in
theorem ep_k181 : ∀ q ∈ ep_l181, ∀ pc, ev_kb MM "LeftAnswersModel" pc q.1 q.2.1 q.2.2 = true := by
  unfold ep_l181
  exact List.forall_mem_cons.mpr ⟨lk535, List.forall_mem_cons.mpr ⟨lk560, List.forall_mem_cons.mpr ⟨lk562, List.forall_mem_cons.mpr ⟨lk563, List.forall_mem_cons.mpr ⟨lk542, List.forall_mem_cons.mpr ⟨lk564, List.forall_mem_cons.mpr ⟨lk565, List.forall_mem_cons.mpr ⟨lk566, List.forall_mem_cons.mpr ⟨lk567, List.forall_mem_cons.mpr ⟨lk568, List.forall_mem_cons.mpr ⟨lk569, List.forall_mem_cons.mpr ⟨lk533, List.forall_mem_cons.mpr ⟨lk570, List.forall_mem_cons.mpr ⟨lk571, List.forall_mem_cons.mpr ⟨lk572, fun _ h => absurd h List.not_mem_nil⟩⟩⟩⟩⟩⟩⟩⟩⟩⟩⟩⟩⟩⟩⟩
set_option maxRecDepth 100000 in
theorem ep_c181 : ev_vr MM ev_w181 = true := ev_vr_mk (l := ep_l181) (scan_vf (by decide +kernel)) ep_k181
def ep_l182 : List (Instr × Nat × Nat) := [(.putfield 1, 11, 0), (.getfield 354, 11, 41), (.invokestatic 75, 218, 3), (.getfield 157, 11, 40)]
set_option maxRecDepth 100000 in
theorem ep_k182 : ∀ q ∈ ep_l182, ∀ pc, ev_kb MM "LeftAnswersModel" pc q.1 q.2.1 q.2.2 = true := by
  unfold ep_l182
  exact List.forall_mem_cons.mpr ⟨lk535, List.forall_mem_cons.mpr ⟨lk573, List.forall_mem_cons.mpr ⟨lk560, List.forall_mem_cons.mpr ⟨lk574, fun _ h => absurd h List.not_mem_nil⟩⟩⟩⟩
set_option maxRecDepth 100000 in
theorem ep_c182 : ev_vr MM ev_w182 = true := ev_vr_mk (l := ep_l182) (scan_vf (by decide +kernel)) ep_k182
def ep_l183 : List (Instr × Nat × Nat) := [(.getfield 98, 11, 14), (.invokestatic 207, 209, 2), (.invokevirtual 252, 276, 2)]
set_option maxRecDepth 100000 in
theorem ep_k183 : ∀ q ∈ ep_l183, ∀ pc, ev_kb MM "LeftAnswersModel" pc q.1 q.2.1 q.2.2 = true := by
  unfold ep_l183
  exact List.forall_mem_cons.mpr ⟨lk533, List.forall_mem_cons.mpr ⟨lk575, List.forall_mem_cons.mpr ⟨lk576, fun _ h => absurd h List.not_mem_nil⟩⟩⟩
set_option maxRecDepth 100000 in
theorem ep_c183 : ev_vr MM ev_w183 = true := ev_vr_mk (l := ep_l183) (scan_vf (by decide +kernel)) ep_k183
def ep_l184 : List (Instr × Nat × Nat) := [(.invokevirtual 314, 183, 3)]
set_option maxRecDepth 100000 in
theorem ep_k184 : ∀ q ∈ ep_l184, ∀ pc, ev_kb MM "LeftAnswersModel" pc q.1 q.2.1 q.2.2 = true := by
  unfold ep_l184
  exact List.forall_mem_cons.mpr ⟨lk577, fun _ h => absurd h List.not_mem_nil⟩
set_option maxRecDepth 100000 in
theorem ep_c184 : ev_vr MM ev_w184 = true := ev_vr_mk (l := ep_l184) (scan_vf (by decide +kernel)) ep_k184
def ep_l185 : List (Instr × Nat × Nat) := [(.getfield 7, 11, 1), (.getfield 11, 11, 2), (.putfield 11, 11, 2)]
set_option maxRecDepth 100000 in
theorem ep_k185 : ∀ q ∈ ep_l185, ∀ pc, ev_kb MM "LeftAnswersModel" pc q.1 q.2.1 q.2.2 = true := by
  unfold ep_l185
  exact List.forall_mem_cons.mpr ⟨lk578, List.forall_mem_cons.mpr ⟨lk579, List.forall_mem_cons.mpr ⟨lk580, fun _ h => absurd h List.not_mem_nil⟩⟩⟩
set_option maxRecDepth 100000 in
theorem ep_c185 : ev_vr MM ev_w185 = true := ev_vr_mk (l := ep_l185) (scan_vf (by decide +kernel)) ep_k185
def ep_l186 : List (Instr × Nat × Nat) := [(.putfield 1, 11, 0), (.getfield 98, 11, 14), (.getfield 11, 11, 2)]
set_option maxRecDepth 100000 in
theorem ep_k186 : ∀ q ∈ ep_l186, ∀ pc, ev_kb MM "LeftAnswersModel" pc q.1 q.2.1 q.2.2 = true := by
  unfold ep_l186
  exact List.forall_mem_cons.mpr ⟨lk535, List.forall_mem_cons.mpr ⟨lk533, List.forall_mem_cons.mpr ⟨lk579, fun _ h => absurd h List.not_mem_nil⟩⟩⟩
set_option maxRecDepth 100000 in
theorem ep_c186 : ev_vr MM ev_w186 = true := ev_vr_mk (l := ep_l186) (scan_vf (by decide +kernel)) ep_k186
def ep_l187 : List (Instr × Nat × Nat) := [(.putfield 1, 11, 0), (.invokestatic 75, 218, 3), (.getfield 98, 11, 14), (.invokevirtual 285, 278, 0), (.invokevirtual 299, 241, 1)]
set_option maxRecDepth 100000 in
theorem ep_k187 : ∀ q ∈ ep_l187, ∀ pc, ev_kb MM "LeftAnswersModel" pc q.1 q.2.1 q.2.2 = true := by
  unfold ep_l187
  exact List.forall_mem_cons.mpr ⟨lk535, List.forall_mem_cons.mpr ⟨lk560, List.forall_mem_cons.mpr ⟨lk533, List.forall_mem_cons.mpr ⟨lk540, List.forall_mem_cons.mpr ⟨lk581, fun _ h => absurd h List.not_mem_nil⟩⟩⟩⟩⟩
set_option maxRecDepth 100000 in
theorem ep_c187 : ev_vr MM ev_w187 = true := ev_vr_mk (l := ep_l187) (scan_vf (by decide +kernel)) ep_k187
def ep_l188 : List (Instr × Nat × Nat) := [(.putfield 1, 11, 0), (.invokevirtual 256, 214, 1), (.getfield 98, 11, 14), (.invokestatic 207, 209, 2)]
set_option maxRecDepth 100000 in
theorem ep_k188 : ∀ q ∈ ep_l188, ∀ pc, ev_kb MM "LeftAnswersModel" pc q.1 q.2.1 q.2.2 = true := by
  unfold ep_l188
  exact List.forall_mem_cons.mpr ⟨lk535, List.forall_mem_cons.mpr ⟨lk537, List.forall_mem_cons.mpr ⟨lk533, List.forall_mem_cons.mpr ⟨lk575, fun _ h => absurd h List.not_mem_nil⟩⟩⟩⟩
set_option maxRecDepth 100000 in
theorem ep_c188 : ev_vr MM ev_w188 = true := ev_vr_mk (l := ep_l188) (scan_vf (by decide +kernel)) ep_k188
def ep_l189 : List (Instr × Nat × Nat) := [(.getfield 98, 11, 14), (.invokestatic 268, 180, 1), (.invokestatic 275, 231, 2), (.invokevirtual 249, 224, 1)]
set_option maxRecDepth 100000 in
theorem ep_k189 : ∀ q ∈ ep_l189, ∀ pc, ev_kb MM "LeftAnswersModel" pc q.1 q.2.1 q.2.2 = true := by
  unfold ep_l189
  exact List.forall_mem_cons.mpr ⟨lk533, List.forall_mem_cons.mpr ⟨lk582, List.forall_mem_cons.mpr ⟨lk583, List.forall_mem_cons.mpr ⟨lk584, fun _ h => absurd h List.not_mem_nil⟩⟩⟩⟩
set_option maxRecDepth 100000 in
theorem ep_c189 : ev_vr MM ev_w189 = true := ev_vr_mk (l := ep_l189) (scan_vf (by decide +kernel)) ep_k189
def ep_l190 : List (Instr × Nat × Nat) := [(.putfield 1, 11, 0), (.invokevirtual 240, 223, 1), (.invokevirtual 256, 214, 1), (.invokestatic 75, 218, 3), (.invokevirtual 292, 173, 5)]
set_option maxRecDepth 100000 in
theorem ep_k190 : ∀ q ∈ ep_l190, ∀ pc, ev_kb MM "LeftAnswersModel" pc q.1 q.2.1 q.2.2 = true := by
  unfold ep_l190
  exact List.forall_mem_cons.mpr ⟨lk535, List.forall_mem_cons.mpr ⟨lk536, List.forall_mem_cons.mpr ⟨lk537, List.forall_mem_cons.mpr ⟨lk560, List.forall_mem_cons.mpr ⟨lk546, fun _ h => absurd h List.not_mem_nil⟩⟩⟩⟩⟩
set_option maxRecDepth 100000 in
theorem ep_c190 : ev_vr MM ev_w190 = true := ev_vr_mk (l := ep_l190) (scan_vf (by decide +kernel)) ep_k190
def ep_l191 : List (Instr × Nat × Nat) := [(.getfield 370, 11, 42), (.ldc_w 373, 1103515245, 0), (.putfield 370, 11, 42)]
set_option maxRecDepth 100000 in
theorem ep_k191 : ∀ q ∈ ep_l191, ∀ pc, ev_kb MM "LeftAnswersModel" pc q.1 q.2.1 q.2.2 = true := by
  unfold ep_l191
  exact List.forall_mem_cons.mpr ⟨lk585, List.forall_mem_cons.mpr ⟨lk586, List.forall_mem_cons.mpr ⟨lk587, fun _ h => absurd h List.not_mem_nil⟩⟩⟩
set_option maxRecDepth 100000 in
theorem ep_c191 : ev_vr MM ev_w191 = true := ev_vr_mk (l := ep_l191) (scan_vf (by decide +kernel)) ep_k191
def ep_l192 : List (Instr × Nat × Nat) := [(.putfield 370, 11, 42), (.getfield 98, 11, 14), (.invokestatic 275, 231, 2), (.invokevirtual 377, 194, 1), (.invokevirtual 296, 236, 0)]
set_option maxRecDepth 100000 in
theorem ep_k192 : ∀ q ∈ ep_l192, ∀ pc, ev_kb MM "LeftAnswersModel" pc q.1 q.2.1 q.2.2 = true := by
  unfold ep_l192
  exact List.forall_mem_cons.mpr ⟨lk587, List.forall_mem_cons.mpr ⟨lk533, List.forall_mem_cons.mpr ⟨lk583, List.forall_mem_cons.mpr ⟨lk588, List.forall_mem_cons.mpr ⟨lk589, fun _ h => absurd h List.not_mem_nil⟩⟩⟩⟩⟩
set_option maxRecDepth 100000 in
theorem ep_c192 : ev_vr MM ev_w192 = true := ev_vr_mk (l := ep_l192) (scan_vf (by decide +kernel)) ep_k192
def ep_l193 : List (Instr × Nat × Nat) := [(.putfield 1, 11, 0), (.invokestatic 75, 218, 3), (.getfield 98, 11, 14), (.invokevirtual 285, 278, 0), (.invokevirtual 380, 192, 2)]
set_option maxRecDepth 100000 in
theorem ep_k193 : ∀ q ∈ ep_l193, ∀ pc, ev_kb MM "LeftAnswersModel" pc q.1 q.2.1 q.2.2 = true := by
  unfold ep_l193
  exact List.forall_mem_cons.mpr ⟨lk535, List.forall_mem_cons.mpr ⟨lk560, List.forall_mem_cons.mpr ⟨lk533, List.forall_mem_cons.mpr ⟨lk540, List.forall_mem_cons.mpr ⟨lk590, fun _ h => absurd h List.not_mem_nil⟩⟩⟩⟩⟩
set_option maxRecDepth 100000 in
theorem ep_c193 : ev_vr MM ev_w193 = true := ev_vr_mk (l := ep_l193) (scan_vf (by decide +kernel)) ep_k193
def ep_l194 : List (Instr × Nat × Nat) := [(.getfield 98, 11, 14), (.invokevirtual 374, 191, 1), (.invokevirtual 271, 292, 3), (.invokevirtual 278, 189, 3), (.invokevirtual 281, 291, 4), (.invokevirtual 288, 232, 4), (.invokevirtual 262, 226, 1)]
set_option maxRecDepth 100000 in
theorem ep_k194 : ∀ q ∈ ep_l194, ∀ pc, ev_kb MM "LeftAnswersModel" pc q.1 q.2.1 q.2.2 = true := by
  unfold ep_l194
  exact List.forall_mem_cons.mpr ⟨lk533, List.forall_mem_cons.mpr ⟨lk591, List.forall_mem_cons.mpr ⟨lk538, List.forall_mem_cons.mpr ⟨lk592, List.forall_mem_cons.mpr ⟨lk539, List.forall_mem_cons.mpr ⟨lk541, List.forall_mem_cons.mpr ⟨lk593, fun _ h => absurd h List.not_mem_nil⟩⟩⟩⟩⟩⟩⟩
set_option maxRecDepth 100000 in
theorem ep_c194 : ev_vr MM ev_w194 = true := ev_vr_mk (l := ep_l194) (scan_vf (by decide +kernel)) ep_k194
def ep_l195 : List (Instr × Nat × Nat) := [(.invokevirtual 225, 176, 1), (.getfield 101, 11, 15), (.getfield 127, 11, 23), (.getfield 30, 11, 7), (.invokevirtual 228, 256, 0), (.invokevirtual 231, 251, 0), (.getfield 69, 11, 11), (.getfield 98, 11, 14), (.getfield 113, 11, 19), (.getfield 117, 11, 20), (.invokevirtual 169, 280, 0), (.putfield 234, 11, 24)]
set_option maxRecDepth 100000 in
theorem ep_k195 : ∀ q ∈ ep_l195, ∀ pc, ev_kb MM "LeftAnswersModel" pc q.1 q.2.1 q.2.2 = true := by
  unfold ep_l195
  exact List.forall_mem_cons.mpr ⟨lk562, List.forall_mem_cons.mpr ⟨lk594, List.forall_mem_cons.mpr ⟨lk595, List.forall_mem_cons.mpr ⟨lk542, List.forall_mem_cons.mpr ⟨lk596, List.forall_mem_cons.mpr ⟨lk597, List.forall_mem_cons.mpr ⟨lk565, List.forall_mem_cons.mpr ⟨lk533, List.forall_mem_cons.mpr ⟨lk598, List.forall_mem_cons.mpr ⟨lk599, List.forall_mem_cons.mpr ⟨lk534, List.forall_mem_cons.mpr ⟨lk600, fun _ h => absurd h List.not_mem_nil⟩⟩⟩⟩⟩⟩⟩⟩⟩⟩⟩⟩
set_option maxRecDepth 100000 in
theorem ep_c195 : ev_vr MM ev_w195 = true := ev_vr_mk (l := ep_l195) (scan_vf (by decide +kernel)) ep_k195
def ep_l196 : List (Instr × Nat × Nat) := [(.putfield 1, 11, 0), (.invokevirtual 240, 223, 1), (.invokevirtual 351, 242, 2)]
set_option maxRecDepth 100000 in
theorem ep_k196 : ∀ q ∈ ep_l196, ∀ pc, ev_kb MM "LeftAnswersModel" pc q.1 q.2.1 q.2.2 = true := by
  unfold ep_l196
  exact List.forall_mem_cons.mpr ⟨lk535, List.forall_mem_cons.mpr ⟨lk536, List.forall_mem_cons.mpr ⟨lk601, fun _ h => absurd h List.not_mem_nil⟩⟩⟩
set_option maxRecDepth 100000 in
theorem ep_c196 : ev_vr MM ev_w196 = true := ev_vr_mk (l := ep_l196) (scan_vf (by decide +kernel)) ep_k196
def ep_l197 : List (Instr × Nat × Nat) := [(.putfield 1, 11, 0), (.getfield 11, 11, 2), (.putfield 11, 11, 2)]
set_option maxRecDepth 100000 in
theorem ep_k197 : ∀ q ∈ ep_l197, ∀ pc, ev_kb MM "LeftAnswersModel" pc q.1 q.2.1 q.2.2 = true := by
  unfold ep_l197
  exact List.forall_mem_cons.mpr ⟨lk535, List.forall_mem_cons.mpr ⟨lk579, List.forall_mem_cons.mpr ⟨lk580, fun _ h => absurd h List.not_mem_nil⟩⟩⟩
set_option maxRecDepth 100000 in
theorem ep_c197 : ev_vr MM ev_w197 = true := ev_vr_mk (l := ep_l197) (scan_vf (by decide +kernel)) ep_k197
def ep_l198 : List (Instr × Nat × Nat) := [(.putfield 1, 11, 0), (.getfield 66, 11, 10)]
set_option maxRecDepth 100000 in
theorem ep_k198 : ∀ q ∈ ep_l198, ∀ pc, ev_kb MM "LeftAnswersModel" pc q.1 q.2.1 q.2.2 = true := by
  unfold ep_l198
  exact List.forall_mem_cons.mpr ⟨lk535, List.forall_mem_cons.mpr ⟨lk602, fun _ h => absurd h List.not_mem_nil⟩⟩
set_option maxRecDepth 100000 in
theorem ep_c198 : ev_vr MM ev_w198 = true := ev_vr_mk (l := ep_l198) (scan_vf (by decide +kernel)) ep_k198
def ep_l199 : List (Instr × Nat × Nat) := [(.putfield 1, 11, 0), (.getfield 11, 11, 2), (.invokevirtual 14, 185, 1)]
set_option maxRecDepth 100000 in
theorem ep_k199 : ∀ q ∈ ep_l199, ∀ pc, ev_kb MM "LeftAnswersModel" pc q.1 q.2.1 q.2.2 = true := by
  unfold ep_l199
  exact List.forall_mem_cons.mpr ⟨lk535, List.forall_mem_cons.mpr ⟨lk579, List.forall_mem_cons.mpr ⟨lk603, fun _ h => absurd h List.not_mem_nil⟩⟩⟩
set_option maxRecDepth 100000 in
theorem ep_c199 : ev_vr MM ev_w199 = true := ev_vr_mk (l := ep_l199) (scan_vf (by decide +kernel)) ep_k199
end
section
def ep_l200 : List (Instr × Nat × Nat) := []
set_option maxRecDepth 100000 in
theorem ep_k200 : ∀ q ∈ ep_l200, ∀ pc, ev_kb MM "LeftAnswersModel" pc q.1 q.2.1 q.2.2 = true := by
  unfold ep_l200
  exact fun _ h => absurd h List.not_mem_nil
set_option maxRecDepth 100000 in
theorem ep_c200 : ev_vr MM ev_w200 = true := ev_vr_mk (l := ep_l200) (scan_vf (by decide +kernel)) ep_k200
def ep_l201 : List (Instr × Nat × Nat) := [(.putfield 1, 11, 0), (.getfield 322, 11, 32), (.invokestatic 75, 218, 3), (.getfield 139, 11, 30)]
set_option maxRecDepth 100000 in
theorem ep_k201 : ∀ q ∈ ep_l201, ∀ pc, ev_kb MM "LeftAnswersModel" pc q.1 q.2.1 q.2.2 = true := by
  unfold ep_l201
  exact List.forall_mem_cons.mpr ⟨lk535, List.forall_mem_cons.mpr ⟨lk604, List.forall_mem_cons.mpr ⟨lk560, List.forall_mem_cons.mpr ⟨lk605, fun _ h => absurd h List.not_mem_nil⟩⟩⟩⟩
set_option maxRecDepth 100000 in
theorem ep_c201 : ev_vr MM ev_w201 = true := ev_vr_mk (l := ep_l201) (scan_vf (by decide +kernel)) ep_k201
def ep_l202 : List (Instr × Nat × Nat) := [(.putfield 1, 11, 0), (.invokevirtual 89, 283, 0), (.invokestatic 75, 218, 3), (.getfield 7, 11, 1), (.invokevirtual 256, 214, 1), (.getfield 98, 11, 14), (.invokevirtual 317, 184, 2), (.getfield 142, 11, 31), (.getfield 139, 11, 30), (.putfield 322, 11, 32), (.putfield 145, 11, 33), (.invokevirtual 325, 235, 2), (.getfield 145, 11, 33)]
set_option maxRecDepth 100000 in
theorem ep_k202 : ∀ q ∈ ep_l202, ∀ pc, ev_kb MM "LeftAnswersModel" pc q.1 q.2.1 q.2.2 = true := by
  unfold ep_l202
  exact List.forall_mem_cons.mpr ⟨lk535, List.forall_mem_cons.mpr ⟨lk547, List.forall_mem_cons.mpr ⟨lk560, List.forall_mem_cons.mpr ⟨lk578, List.forall_mem_cons.mpr ⟨lk537, List.forall_mem_cons.mpr ⟨lk533, List.forall_mem_cons.mpr ⟨lk606, List.forall_mem_cons.mpr ⟨lk607, List.forall_mem_cons.mpr ⟨lk605, List.forall_mem_cons.mpr ⟨lk608, List.forall_mem_cons.mpr ⟨lk525, List.forall_mem_cons.mpr ⟨lk609, List.forall_mem_cons.mpr ⟨lk610, fun _ h => absurd h List.not_mem_nil⟩⟩⟩⟩⟩⟩⟩⟩⟩⟩⟩⟩⟩
set_option maxRecDepth 100000 in
theorem ep_c202 : ev_vr MM ev_w202 = true := ev_vr_mk (l := ep_l202) (scan_vf (by decide +kernel)) ep_k202
def ep_l203 : List (Instr × Nat × Nat) := [(.getfield 98, 11, 14)]
set_option maxRecDepth 100000 in
theorem ep_k203 : ∀ q ∈ ep_l203, ∀ pc, ev_kb MM "LeftAnswersModel" pc q.1 q.2.1 q.2.2 = true := by
  unfold ep_l203
  exact List.forall_mem_cons.mpr ⟨lk533, fun _ h => absurd h List.not_mem_nil⟩
set_option maxRecDepth 100000 in
theorem ep_c203 : ev_vr MM ev_w203 = true := ev_vr_mk (l := ep_l203) (scan_vf (by decide +kernel)) ep_k203
def ep_l204 : List (Instr × Nat × Nat) := [(.putfield 1, 11, 0), (.invokevirtual 240, 223, 1), (.invokevirtual 292, 173, 5)]
set_option maxRecDepth 100000 in
theorem ep_k204 : ∀ q ∈ ep_l204, ∀ pc, ev_kb MM "LeftAnswersModel" pc q.1 q.2.1 q.2.2 = true := by
  unfold ep_l204
  exact List.forall_mem_cons.mpr ⟨lk535, List.forall_mem_cons.mpr ⟨lk536, List.forall_mem_cons.mpr ⟨lk546, fun _ h => absurd h List.not_mem_nil⟩⟩⟩
set_option maxRecDepth 100000 in
theorem ep_c204 : ev_vr MM ev_w204 = true := ev_vr_mk (l := ep_l204) (scan_vf (by decide +kernel)) ep_k204
def ep_l205 : List (Instr × Nat × Nat) := [(.getfield 21, 11, 5), (.getfield 18, 11, 3), (.getfield 7, 11, 1), (.putfield 21, 11, 5), (.putfield 24, 11, 6), (.getfield 27, 11, 4), (.getfield 24, 11, 6), (.putfield 30, 11, 7), (.invokestatic 33, 220, 1), (.invokestatic 37, 215, 1), (.putfield 40, 11, 9), (.putfield 43, 11, 12), (.putfield 47, 11, 8), (.invokevirtual 50, 285, 1), (.ldc2_w 54, 27, 0), (.getfield 43, 11, 12), (.ldc2_w 56, 96, 0), (.getfield 47, 11, 8)]
set_option maxRecDepth 100000 in
theorem ep_k205 : ∀ q ∈ ep_l205, ∀ pc, ev_kb MM "LeftAnswersModel" pc q.1 q.2.1 q.2.2 = true := by
  unfold ep_l205
  exact List.forall_mem_cons.mpr ⟨lk611, List.forall_mem_cons.mpr ⟨lk612, List.forall_mem_cons.mpr ⟨lk578, List.forall_mem_cons.mpr ⟨lk550, List.forall_mem_cons.mpr ⟨lk613, List.forall_mem_cons.mpr ⟨lk614, List.forall_mem_cons.mpr ⟨lk544, List.forall_mem_cons.mpr ⟨lk615, List.forall_mem_cons.mpr ⟨lk616, List.forall_mem_cons.mpr ⟨lk617, List.forall_mem_cons.mpr ⟨lk618, List.forall_mem_cons.mpr ⟨lk619, List.forall_mem_cons.mpr ⟨lk620, List.forall_mem_cons.mpr ⟨lk621, List.forall_mem_cons.mpr ⟨lk622, List.forall_mem_cons.mpr ⟨lk623, List.forall_mem_cons.mpr ⟨lk624, List.forall_mem_cons.mpr ⟨lk625, fun _ h => absurd h List.not_mem_nil⟩⟩⟩⟩⟩⟩⟩⟩⟩⟩⟩⟩⟩⟩⟩⟩⟩⟩
set_option maxRecDepth 100000 in
theorem ep_c205 : ev_vr MM ev_w205 = true := ev_vr_mk (l := ep_l205) (scan_vf (by decide +kernel)) ep_k205
def ep_l206 : List (Instr × Nat × Nat) := [(.getfield 160, 11, 43), (.getfield 98, 11, 14), (.invokevirtual 299, 241, 1), (.invokevirtual 281, 291, 4), (.invokevirtual 288, 232, 4)]
set_option maxRecDepth 100000 in
theorem ep_k206 : ∀ q ∈ ep_l206, ∀ pc, ev_kb MM "LeftAnswersModel" pc q.1 q.2.1 q.2.2 = true := by
  unfold ep_l206
  exact List.forall_mem_cons.mpr ⟨lk626, List.forall_mem_cons.mpr ⟨lk533, List.forall_mem_cons.mpr ⟨lk581, List.forall_mem_cons.mpr ⟨lk539, List.forall_mem_cons.mpr ⟨lk541, fun _ h => absurd h List.not_mem_nil⟩⟩⟩⟩⟩
set_option maxRecDepth 100000 in
theorem ep_c206 : ev_vr MM ev_w206 = true := ev_vr_mk (l := ep_l206) (scan_vf (by decide +kernel)) ep_k206
def ep_l207 : List (Instr × Nat × Nat) := [(.putfield 1, 11, 0), (.getfield 148, 11, 34)]
set_option maxRecDepth 100000 in
theorem ep_k207 : ∀ q ∈ ep_l207, ∀ pc, ev_kb MM "LeftAnswersModel" pc q.1 q.2.1 q.2.2 = true := by
  unfold ep_l207
  exact List.forall_mem_cons.mpr ⟨lk535, List.forall_mem_cons.mpr ⟨lk627, fun _ h => absurd h List.not_mem_nil⟩⟩
set_option maxRecDepth 100000 in
theorem ep_c207 : ev_vr MM ev_w207 = true := ev_vr_mk (l := ep_l207) (scan_vf (by decide +kernel)) ep_k207
def ep_l208 : List (Instr × Nat × Nat) := [(.putfield 1, 11, 0), (.getfield 98, 11, 14), (.invokestatic 207, 209, 2), (.invokestatic 328, 179, 1), (.putfield 148, 11, 34)]
set_option maxRecDepth 100000 in
theorem ep_k208 : ∀ q ∈ ep_l208, ∀ pc, ev_kb MM "LeftAnswersModel" pc q.1 q.2.1 q.2.2 = true := by
  unfold ep_l208
  exact List.forall_mem_cons.mpr ⟨lk535, List.forall_mem_cons.mpr ⟨lk533, List.forall_mem_cons.mpr ⟨lk575, List.forall_mem_cons.mpr ⟨lk628, List.forall_mem_cons.mpr ⟨lk526, fun _ h => absurd h List.not_mem_nil⟩⟩⟩⟩⟩
set_option maxRecDepth 100000 in
theorem ep_c208 : ev_vr MM ev_w208 = true := ev_vr_mk (l := ep_l208) (scan_vf (by decide +kernel)) ep_k208
def ep_l209 : List (Instr × Nat × Nat) := []
set_option maxRecDepth 100000 in
theorem ep_k209 : ∀ q ∈ ep_l209, ∀ pc, ev_kb MM "LeftAnswersModel" pc q.1 q.2.1 q.2.2 = true := by
  unfold ep_l209
  exact fun _ h => absurd h List.not_mem_nil
set_option maxRecDepth 100000 in
theorem ep_c209 : ev_vr MM ev_w209 = true := ev_vr_mk (l := ep_l209) (scan_vf (by decide +kernel)) ep_k209
def ep_l210 : List (Instr × Nat × Nat) := [(.putfield 1, 11, 0), (.invokevirtual 240, 223, 1), (.invokestatic 207, 209, 2), (.getfield 98, 11, 14)]
set_option maxRecDepth 100000 in
theorem ep_k210 : ∀ q ∈ ep_l210, ∀ pc, ev_kb MM "LeftAnswersModel" pc q.1 q.2.1 q.2.2 = true := by
  unfold ep_l210
  exact List.forall_mem_cons.mpr ⟨lk535, List.forall_mem_cons.mpr ⟨lk536, List.forall_mem_cons.mpr ⟨lk575, List.forall_mem_cons.mpr ⟨lk533, fun _ h => absurd h List.not_mem_nil⟩⟩⟩⟩
set_option maxRecDepth 100000 in
theorem ep_c210 : ev_vr MM ev_w210 = true := ev_vr_mk (l := ep_l210) (scan_vf (by decide +kernel)) ep_k210
def ep_l211 : List (Instr × Nat × Nat) := [(.getfield 98, 11, 14), (.invokevirtual 453, 211, 2), (.invokevirtual 237, 219, 1), (.invokevirtual 246, 217, 1), (.invokevirtual 262, 226, 1), (.invokevirtual 249, 224, 1)]
set_option maxRecDepth 100000 in
theorem ep_k211 : ∀ q ∈ ep_l211, ∀ pc, ev_kb MM "LeftAnswersModel" pc q.1 q.2.1 q.2.2 = true := by
  unfold ep_l211
  exact List.forall_mem_cons.mpr ⟨lk533, List.forall_mem_cons.mpr ⟨lk629, List.forall_mem_cons.mpr ⟨lk630, List.forall_mem_cons.mpr ⟨lk631, List.forall_mem_cons.mpr ⟨lk593, List.forall_mem_cons.mpr ⟨lk584, fun _ h => absurd h List.not_mem_nil⟩⟩⟩⟩⟩⟩
set_option maxRecDepth 100000 in
theorem ep_c211 : ev_vr MM ev_w211 = true := ev_vr_mk (l := ep_l211) (scan_vf (by decide +kernel)) ep_k211
def ep_l212 : List (Instr × Nat × Nat) := [(.putfield 1, 11, 0), (.invokestatic 75, 218, 3), (.getfield 104, 11, 16), (.getfield 98, 11, 14), (.getfield 120, 11, 21), (.getfield 113, 11, 19), (.getfield 123, 11, 22)]
set_option maxRecDepth 100000 in
theorem ep_k212 : ∀ q ∈ ep_l212, ∀ pc, ev_kb MM "LeftAnswersModel" pc q.1 q.2.1 q.2.2 = true := by
  unfold ep_l212
  exact List.forall_mem_cons.mpr ⟨lk535, List.forall_mem_cons.mpr ⟨lk560, List.forall_mem_cons.mpr ⟨lk632, List.forall_mem_cons.mpr ⟨lk533, List.forall_mem_cons.mpr ⟨lk633, List.forall_mem_cons.mpr ⟨lk598, List.forall_mem_cons.mpr ⟨lk634, fun _ h => absurd h List.not_mem_nil⟩⟩⟩⟩⟩⟩⟩
set_option maxRecDepth 100000 in
theorem ep_c212 : ev_vr MM ev_w212 = true := ev_vr_mk (l := ep_l212) (scan_vf (by decide +kernel)) ep_k212
def ep_l213 : List (Instr × Nat × Nat) := [(.getfield 98, 11, 14), (.invokevirtual 249, 224, 1)]
set_option maxRecDepth 100000 in
theorem ep_k213 : ∀ q ∈ ep_l213, ∀ pc, ev_kb MM "LeftAnswersModel" pc q.1 q.2.1 q.2.2 = true := by
  unfold ep_l213
  exact List.forall_mem_cons.mpr ⟨lk533, List.forall_mem_cons.mpr ⟨lk584, fun _ h => absurd h List.not_mem_nil⟩⟩
set_option maxRecDepth 100000 in
theorem ep_c213 : ev_vr MM ev_w213 = true := ev_vr_mk (l := ep_l213) (scan_vf (by decide +kernel)) ep_k213
def ep_l214 : List (Instr × Nat × Nat) := [(.getfield 98, 11, 14), (.invokestatic 75, 218, 3)]
set_option maxRecDepth 100000 in
theorem ep_k214 : ∀ q ∈ ep_l214, ∀ pc, ev_kb MM "LeftAnswersModel" pc q.1 q.2.1 q.2.2 = true := by
  unfold ep_l214
  exact List.forall_mem_cons.mpr ⟨lk533, List.forall_mem_cons.mpr ⟨lk560, fun _ h => absurd h List.not_mem_nil⟩⟩
set_option maxRecDepth 100000 in
theorem ep_c214 : ev_vr MM ev_w214 = true := ev_vr_mk (l := ep_l214) (scan_vf (by decide +kernel)) ep_k214
def ep_l215 : List (Instr × Nat × Nat) := []
set_option maxRecDepth 100000 in
theorem ep_k215 : ∀ q ∈ ep_l215, ∀ pc, ev_kb MM "LeftAnswersModel" pc q.1 q.2.1 q.2.2 = true := by
  unfold ep_l215
  exact fun _ h => absurd h List.not_mem_nil
set_option maxRecDepth 100000 in
theorem ep_c215 : ev_vr MM ev_w215 = true := ev_vr_mk (l := ep_l215) (scan_vf (by decide +kernel)) ep_k215
def ep_l216 : List (Instr × Nat × Nat) := [(.invokevirtual 262, 226, 1), (.invokevirtual 246, 217, 1), (.invokevirtual 237, 219, 1)]
set_option maxRecDepth 100000 in
theorem ep_k216 : ∀ q ∈ ep_l216, ∀ pc, ev_kb MM "LeftAnswersModel" pc q.1 q.2.1 q.2.2 = true := by
  unfold ep_l216
  exact List.forall_mem_cons.mpr ⟨lk593, List.forall_mem_cons.mpr ⟨lk631, List.forall_mem_cons.mpr ⟨lk630, fun _ h => absurd h List.not_mem_nil⟩⟩⟩
set_option maxRecDepth 100000 in
theorem ep_c216 : ev_vr MM ev_w216 = true := ev_vr_mk (l := ep_l216) (scan_vf (by decide +kernel)) ep_k216
def ep_l217 : List (Instr × Nat × Nat) := [(.getfield 98, 11, 14), (.invokestatic 207, 209, 2)]
set_option maxRecDepth 100000 in
theorem ep_k217 : ∀ q ∈ ep_l217, ∀ pc, ev_kb MM "LeftAnswersModel" pc q.1 q.2.1 q.2.2 = true := by
  unfold ep_l217
  exact List.forall_mem_cons.mpr ⟨lk533, List.forall_mem_cons.mpr ⟨lk575, fun _ h => absurd h List.not_mem_nil⟩⟩
set_option maxRecDepth 100000 in
theorem ep_c217 : ev_vr MM ev_w217 = true := ev_vr_mk (l := ep_l217) (scan_vf (by decide +kernel)) ep_k217
def ep_l218 : List (Instr × Nat × Nat) := []
set_option maxRecDepth 100000 in
theorem ep_k218 : ∀ q ∈ ep_l218, ∀ pc, ev_kb MM "LeftAnswersModel" pc q.1 q.2.1 q.2.2 = true := by
  unfold ep_l218
  exact fun _ h => absurd h List.not_mem_nil
set_option maxRecDepth 100000 in
theorem ep_c218 : ev_vr MM ev_w218 = true := ev_vr_mk (l := ep_l218) (scan_vf (by decide +kernel)) ep_k218
def ep_l219 : List (Instr × Nat × Nat) := [(.getfield 98, 11, 14)]
set_option maxRecDepth 100000 in
theorem ep_k219 : ∀ q ∈ ep_l219, ∀ pc, ev_kb MM "LeftAnswersModel" pc q.1 q.2.1 q.2.2 = true := by
  unfold ep_l219
  exact List.forall_mem_cons.mpr ⟨lk533, fun _ h => absurd h List.not_mem_nil⟩
set_option maxRecDepth 100000 in
theorem ep_c219 : ev_vr MM ev_w219 = true := ev_vr_mk (l := ep_l219) (scan_vf (by decide +kernel)) ep_k219
def ep_l220 : List (Instr × Nat × Nat) := []
set_option maxRecDepth 100000 in
theorem ep_k220 : ∀ q ∈ ep_l220, ∀ pc, ev_kb MM "LeftAnswersModel" pc q.1 q.2.1 q.2.2 = true := by
  unfold ep_l220
  exact fun _ h => absurd h List.not_mem_nil
set_option maxRecDepth 100000 in
theorem ep_c220 : ev_vr MM ev_w220 = true := ev_vr_mk (l := ep_l220) (scan_vf (by decide +kernel)) ep_k220
def ep_l221 : List (Instr × Nat × Nat) := [(.getfield 30, 11, 7), (.getfield 43, 11, 12), (.invokestatic 62, 293, 1)]
set_option maxRecDepth 100000 in
theorem ep_k221 : ∀ q ∈ ep_l221, ∀ pc, ev_kb MM "LeftAnswersModel" pc q.1 q.2.1 q.2.2 = true := by
  unfold ep_l221
  exact List.forall_mem_cons.mpr ⟨lk542, List.forall_mem_cons.mpr ⟨lk623, List.forall_mem_cons.mpr ⟨lk635, fun _ h => absurd h List.not_mem_nil⟩⟩⟩
set_option maxRecDepth 100000 in
theorem ep_c221 : ev_vr MM ev_w221 = true := ev_vr_mk (l := ep_l221) (scan_vf (by decide +kernel)) ep_k221
def ep_l222 : List (Instr × Nat × Nat) := [(.invokevirtual 172, 221, 0), (.invokevirtual 72, 174, 1), (.getfield 117, 11, 20), (.getfield 101, 11, 15), (.getfield 43, 11, 12), (.invokestatic 176, 200, 4), (.putfield 79, 11, 13), (.getfield 79, 11, 13)]
set_option maxRecDepth 100000 in
theorem ep_k222 : ∀ q ∈ ep_l222, ∀ pc, ev_kb MM "LeftAnswersModel" pc q.1 q.2.1 q.2.2 = true := by
  unfold ep_l222
  exact List.forall_mem_cons.mpr ⟨lk636, List.forall_mem_cons.mpr ⟨lk637, List.forall_mem_cons.mpr ⟨lk599, List.forall_mem_cons.mpr ⟨lk594, List.forall_mem_cons.mpr ⟨lk623, List.forall_mem_cons.mpr ⟨lk638, List.forall_mem_cons.mpr ⟨lk639, List.forall_mem_cons.mpr ⟨lk640, fun _ h => absurd h List.not_mem_nil⟩⟩⟩⟩⟩⟩⟩⟩
set_option maxRecDepth 100000 in
theorem ep_c222 : ev_vr MM ev_w222 = true := ev_vr_mk (l := ep_l222) (scan_vf (by decide +kernel)) ep_k222
def ep_l223 : List (Instr × Nat × Nat) := [(.getfield 98, 11, 14), (.invokestatic 75, 218, 3)]
set_option maxRecDepth 100000 in
theorem ep_k223 : ∀ q ∈ ep_l223, ∀ pc, ev_kb MM "LeftAnswersModel" pc q.1 q.2.1 q.2.2 = true := by
  unfold ep_l223
  exact List.forall_mem_cons.mpr ⟨lk533, List.forall_mem_cons.mpr ⟨lk560, fun _ h => absurd h List.not_mem_nil⟩⟩
set_option maxRecDepth 100000 in
theorem ep_c223 : ev_vr MM ev_w223 = true := ev_vr_mk (l := ep_l223) (scan_vf (by decide +kernel)) ep_k223
def ep_l224 : List (Instr × Nat × Nat) := [(.getfield 98, 11, 14), (.invokestatic 207, 209, 2), (.invokevirtual 237, 219, 1)]
set_option maxRecDepth 100000 in
theorem ep_k224 : ∀ q ∈ ep_l224, ∀ pc, ev_kb MM "LeftAnswersModel" pc q.1 q.2.1 q.2.2 = true := by
  unfold ep_l224
  exact List.forall_mem_cons.mpr ⟨lk533, List.forall_mem_cons.mpr ⟨lk575, List.forall_mem_cons.mpr ⟨lk630, fun _ h => absurd h List.not_mem_nil⟩⟩⟩
set_option maxRecDepth 100000 in
theorem ep_c224 : ev_vr MM ev_w224 = true := ev_vr_mk (l := ep_l224) (scan_vf (by decide +kernel)) ep_k224
def ep_l225 : List (Instr × Nat × Nat) := [(.getfield 30, 11, 7), (.getfield 40, 11, 9)]
set_option maxRecDepth 100000 in
theorem ep_k225 : ∀ q ∈ ep_l225, ∀ pc, ev_kb MM "LeftAnswersModel" pc q.1 q.2.1 q.2.2 = true := by
  unfold ep_l225
  exact List.forall_mem_cons.mpr ⟨lk542, List.forall_mem_cons.mpr ⟨lk641, fun _ h => absurd h List.not_mem_nil⟩⟩
set_option maxRecDepth 100000 in
theorem ep_c225 : ev_vr MM ev_w225 = true := ev_vr_mk (l := ep_l225) (scan_vf (by decide +kernel)) ep_k225
def ep_l226 : List (Instr × Nat × Nat) := [(.getfield 98, 11, 14)]
set_option maxRecDepth 100000 in
theorem ep_k226 : ∀ q ∈ ep_l226, ∀ pc, ev_kb MM "LeftAnswersModel" pc q.1 q.2.1 q.2.2 = true := by
  unfold ep_l226
  exact List.forall_mem_cons.mpr ⟨lk533, fun _ h => absurd h List.not_mem_nil⟩
set_option maxRecDepth 100000 in
theorem ep_c226 : ev_vr MM ev_w226 = true := ev_vr_mk (l := ep_l226) (scan_vf (by decide +kernel)) ep_k226
def ep_l227 : List (Instr × Nat × Nat) := [(.getfield 30, 11, 7), (.getfield 43, 11, 12), (.invokestatic 62, 293, 1)]
set_option maxRecDepth 100000 in
theorem ep_k227 : ∀ q ∈ ep_l227, ∀ pc, ev_kb MM "LeftAnswersModel" pc q.1 q.2.1 q.2.2 = true := by
  unfold ep_l227
  exact List.forall_mem_cons.mpr ⟨lk542, List.forall_mem_cons.mpr ⟨lk623, List.forall_mem_cons.mpr ⟨lk635, fun _ h => absurd h List.not_mem_nil⟩⟩⟩
set_option maxRecDepth 100000 in
theorem ep_c227 : ev_vr MM ev_w227 = true := ev_vr_mk (l := ep_l227) (scan_vf (by decide +kernel)) ep_k227
def ep_l228 : List (Instr × Nat × Nat) := [(.invokevirtual 237, 219, 1)]
set_option maxRecDepth 100000 in
theorem ep_k228 : ∀ q ∈ ep_l228, ∀ pc, ev_kb MM "LeftAnswersModel" pc q.1 q.2.1 q.2.2 = true := by
  unfold ep_l228
  exact List.forall_mem_cons.mpr ⟨lk630, fun _ h => absurd h List.not_mem_nil⟩
set_option maxRecDepth 100000 in
theorem ep_c228 : ev_vr MM ev_w228 = true := ev_vr_mk (l := ep_l228) (scan_vf (by decide +kernel)) ep_k228
def ep_l229 : List (Instr × Nat × Nat) := [(.getfield 160, 11, 43), (.getfield 79, 11, 13)]
set_option maxRecDepth 100000 in
theorem ep_k229 : ∀ q ∈ ep_l229, ∀ pc, ev_kb MM "LeftAnswersModel" pc q.1 q.2.1 q.2.2 = true := by
  unfold ep_l229
  exact List.forall_mem_cons.mpr ⟨lk626, List.forall_mem_cons.mpr ⟨lk640, fun _ h => absurd h List.not_mem_nil⟩⟩
set_option maxRecDepth 100000 in
theorem ep_c229 : ev_vr MM ev_w229 = true := ev_vr_mk (l := ep_l229) (scan_vf (by decide +kernel)) ep_k229
def ep_l230 : List (Instr × Nat × Nat) := [(.getfield 110, 11, 18), (.getfield 98, 11, 14)]
set_option maxRecDepth 100000 in
theorem ep_k230 : ∀ q ∈ ep_l230, ∀ pc, ev_kb MM "LeftAnswersModel" pc q.1 q.2.1 q.2.2 = true := by
  unfold ep_l230
  exact List.forall_mem_cons.mpr ⟨lk642, List.forall_mem_cons.mpr ⟨lk533, fun _ h => absurd h List.not_mem_nil⟩⟩
set_option maxRecDepth 100000 in
theorem ep_c230 : ev_vr MM ev_w230 = true := ev_vr_mk (l := ep_l230) (scan_vf (by decide +kernel)) ep_k230
def ep_l231 : List (Instr × Nat × Nat) := []
set_option maxRecDepth 100000 in
theorem ep_k231 : ∀ q ∈ ep_l231, ∀ pc, ev_kb MM "LeftAnswersModel" pc q.1 q.2.1 q.2.2 = true := by
  unfold ep_l231
  exact fun _ h => absurd h List.not_mem_nil
set_option maxRecDepth 100000 in
theorem ep_c231 : ev_vr MM ev_w231 = true := ev_vr_mk (l := ep_l231) (scan_vf (by decide +kernel)) ep_k231
def ep_l232 : List (Instr × Nat × Nat) := [(.invokevirtual 278, 189, 3), (.getfield 98, 11, 14)]
set_option maxRecDepth 100000 in
theorem ep_k232 : ∀ q ∈ ep_l232, ∀ pc, ev_kb MM "LeftAnswersModel" pc q.1 q.2.1 q.2.2 = true := by
  unfold ep_l232
  exact List.forall_mem_cons.mpr ⟨lk592, List.forall_mem_cons.mpr ⟨lk533, fun _ h => absurd h List.not_mem_nil⟩⟩
set_option maxRecDepth 100000 in
theorem ep_c232 : ev_vr MM ev_w232 = true := ev_vr_mk (l := ep_l232) (scan_vf (by decide +kernel)) ep_k232
def ep_l233 : List (Instr × Nat × Nat) := [(.putfield 1, 11, 0), (.getfield 98, 11, 14), (.invokevirtual 259, 228, 0), (.invokevirtual 262, 226, 1), (.invokevirtual 249, 224, 1), (.invokevirtual 265, 282, 2)]
set_option maxRecDepth 100000 in
theorem ep_k233 : ∀ q ∈ ep_l233, ∀ pc, ev_kb MM "LeftAnswersModel" pc q.1 q.2.1 q.2.2 = true := by
  unfold ep_l233
  exact List.forall_mem_cons.mpr ⟨lk535, List.forall_mem_cons.mpr ⟨lk533, List.forall_mem_cons.mpr ⟨lk570, List.forall_mem_cons.mpr ⟨lk593, List.forall_mem_cons.mpr ⟨lk584, List.forall_mem_cons.mpr ⟨lk643, fun _ h => absurd h List.not_mem_nil⟩⟩⟩⟩⟩⟩
set_option maxRecDepth 100000 in
theorem ep_c233 : ev_vr MM ev_w233 = true := ev_vr_mk (l := ep_l233) (scan_vf (by decide +kernel)) ep_k233
def ep_l234 : List (Instr × Nat × Nat) := [(.putfield 1, 11, 0), (.invokevirtual 240, 223, 1), (.invokestatic 75, 218, 3), (.invokevirtual 383, 230, 0), (.invokevirtual 380, 192, 2), (.getfield 98, 11, 14), (.getfield 110, 11, 18), (.invokevirtual 386, 284, 0)]
set_option maxRecDepth 100000 in
theorem ep_k234 : ∀ q ∈ ep_l234, ∀ pc, ev_kb MM "LeftAnswersModel" pc q.1 q.2.1 q.2.2 = true := by
  unfold ep_l234
  exact List.forall_mem_cons.mpr ⟨lk535, List.forall_mem_cons.mpr ⟨lk536, List.forall_mem_cons.mpr ⟨lk560, List.forall_mem_cons.mpr ⟨lk567, List.forall_mem_cons.mpr ⟨lk590, List.forall_mem_cons.mpr ⟨lk533, List.forall_mem_cons.mpr ⟨lk642, List.forall_mem_cons.mpr ⟨lk644, fun _ h => absurd h List.not_mem_nil⟩⟩⟩⟩⟩⟩⟩⟩
set_option maxRecDepth 100000 in
theorem ep_c234 : ev_vr MM ev_w234 = true := ev_vr_mk (l := ep_l234) (scan_vf (by decide +kernel)) ep_k234
def ep_l235 : List (Instr × Nat × Nat) := [(.getfield 139, 11, 30), (.invokevirtual 317, 184, 2), (.invokestatic 320, 274, 1)]
set_option maxRecDepth 100000 in
theorem ep_k235 : ∀ q ∈ ep_l235, ∀ pc, ev_kb MM "LeftAnswersModel" pc q.1 q.2.1 q.2.2 = true := by
  unfold ep_l235
  exact List.forall_mem_cons.mpr ⟨lk605, List.forall_mem_cons.mpr ⟨lk606, List.forall_mem_cons.mpr ⟨lk645, fun _ h => absurd h List.not_mem_nil⟩⟩⟩
set_option maxRecDepth 100000 in
theorem ep_c235 : ev_vr MM ev_w235 = true := ev_vr_mk (l := ep_l235) (scan_vf (by decide +kernel)) ep_k235
def ep_l236 : List (Instr × Nat × Nat) := [(.getfield 98, 11, 14), (.invokevirtual 262, 226, 1), (.invokestatic 275, 231, 2), (.invokevirtual 237, 219, 1)]
set_option maxRecDepth 100000 in
theorem ep_k236 : ∀ q ∈ ep_l236, ∀ pc, ev_kb MM "LeftAnswersModel" pc q.1 q.2.1 q.2.2 = true := by
  unfold ep_l236
  exact List.forall_mem_cons.mpr ⟨lk533, List.forall_mem_cons.mpr ⟨lk593, List.forall_mem_cons.mpr ⟨lk583, List.forall_mem_cons.mpr ⟨lk630, fun _ h => absurd h List.not_mem_nil⟩⟩⟩⟩
set_option maxRecDepth 100000 in
theorem ep_c236 : ev_vr MM ev_w236 = true := ev_vr_mk (l := ep_l236) (scan_vf (by decide +kernel)) ep_k236
def ep_l237 : List (Instr × Nat × Nat) := [(.putfield 1, 11, 0), (.invokevirtual 240, 223, 1), (.invokevirtual 292, 173, 5)]
set_option maxRecDepth 100000 in
theorem ep_k237 : ∀ q ∈ ep_l237, ∀ pc, ev_kb MM "LeftAnswersModel" pc q.1 q.2.1 q.2.2 = true := by
  unfold ep_l237
  exact List.forall_mem_cons.mpr ⟨lk535, List.forall_mem_cons.mpr ⟨lk536, List.forall_mem_cons.mpr ⟨lk546, fun _ h => absurd h List.not_mem_nil⟩⟩⟩
set_option maxRecDepth 100000 in
theorem ep_c237 : ev_vr MM ev_w237 = true := ev_vr_mk (l := ep_l237) (scan_vf (by decide +kernel)) ep_k237
def ep_l238 : List (Instr × Nat × Nat) := [(.getfield 302, 11, 28), (.putfield 302, 11, 28), (.getfield 133, 11, 26), (.getfield 130, 11, 25), (.getfield 98, 11, 14), (.getfield 136, 11, 27), (.invokestatic 268, 180, 1), (.getfield 7, 11, 1), (.invokevirtual 271, 292, 3), (.invokevirtual 305, 213, 3), (.invokevirtual 308, 238, 3)]
set_option maxRecDepth 100000 in
theorem ep_k238 : ∀ q ∈ ep_l238, ∀ pc, ev_kb MM "LeftAnswersModel" pc q.1 q.2.1 q.2.2 = true := by
  unfold ep_l238
  exact List.forall_mem_cons.mpr ⟨lk646, List.forall_mem_cons.mpr ⟨lk647, List.forall_mem_cons.mpr ⟨lk648, List.forall_mem_cons.mpr ⟨lk649, List.forall_mem_cons.mpr ⟨lk533, List.forall_mem_cons.mpr ⟨lk650, List.forall_mem_cons.mpr ⟨lk582, List.forall_mem_cons.mpr ⟨lk578, List.forall_mem_cons.mpr ⟨lk538, List.forall_mem_cons.mpr ⟨lk651, List.forall_mem_cons.mpr ⟨lk652, fun _ h => absurd h List.not_mem_nil⟩⟩⟩⟩⟩⟩⟩⟩⟩⟩⟩
set_option maxRecDepth 100000 in
theorem ep_c238 : ev_vr MM ev_w238 = true := ev_vr_mk (l := ep_l238) (scan_vf (by decide +kernel)) ep_k238
def ep_l239 : List (Instr × Nat × Nat) := [(.putfield 1, 11, 0), (.invokevirtual 89, 283, 0), (.invokestatic 75, 218, 3), (.getfield 7, 11, 1), (.invokevirtual 256, 214, 1), (.getfield 136, 11, 27), (.putfield 302, 11, 28), (.invokevirtual 308, 238, 3), (.putfield 311, 11, 29), (.getfield 302, 11, 28)]
set_option maxRecDepth 100000 in
theorem ep_k239 : ∀ q ∈ ep_l239, ∀ pc, ev_kb MM "LeftAnswersModel" pc q.1 q.2.1 q.2.2 = true := by
  unfold ep_l239
  exact List.forall_mem_cons.mpr ⟨lk535, List.forall_mem_cons.mpr ⟨lk547, List.forall_mem_cons.mpr ⟨lk560, List.forall_mem_cons.mpr ⟨lk578, List.forall_mem_cons.mpr ⟨lk537, List.forall_mem_cons.mpr ⟨lk650, List.forall_mem_cons.mpr ⟨lk647, List.forall_mem_cons.mpr ⟨lk652, List.forall_mem_cons.mpr ⟨lk653, List.forall_mem_cons.mpr ⟨lk646, fun _ h => absurd h List.not_mem_nil⟩⟩⟩⟩⟩⟩⟩⟩⟩⟩
set_option maxRecDepth 100000 in
theorem ep_c239 : ev_vr MM ev_w239 = true := ev_vr_mk (l := ep_l239) (scan_vf (by decide +kernel)) ep_k239
end
section
def ep_l240 : List (Instr × Nat × Nat) := [(.putfield 1, 11, 0), (.getfield 311, 11, 29), (.invokestatic 75, 218, 3), (.getfield 133, 11, 26)]
set_option maxRecDepth 100000 in
theorem ep_k240 : ∀ q ∈ ep_l240, ∀ pc, ev_kb MM "LeftAnswersModel" pc q.1 q.2.1 q.2.2 = true := by
  unfold ep_l240
  exact List.forall_mem_cons.mpr ⟨lk535, List.forall_mem_cons.mpr ⟨lk654, List.forall_mem_cons.mpr ⟨lk560, List.forall_mem_cons.mpr ⟨lk648, fun _ h => absurd h List.not_mem_nil⟩⟩⟩⟩
set_option maxRecDepth 100000 in
theorem ep_c240 : ev_vr MM ev_w240 = true := ev_vr_mk (l := ep_l240) (scan_vf (by decide +kernel)) ep_k240
def ep_l241 : List (Instr × Nat × Nat) := [(.getfield 98, 11, 14), (.invokestatic 275, 231, 2), (.invokevirtual 296, 236, 0)]
set_option maxRecDepth 100000 in
theorem ep_k241 : ∀ q ∈ ep_l241, ∀ pc, ev_kb MM "LeftAnswersModel" pc q.1 q.2.1 q.2.2 = true := by
  unfold ep_l241
  exact List.forall_mem_cons.mpr ⟨lk533, List.forall_mem_cons.mpr ⟨lk583, List.forall_mem_cons.mpr ⟨lk589, fun _ h => absurd h List.not_mem_nil⟩⟩⟩
set_option maxRecDepth 100000 in
theorem ep_c241 : ev_vr MM ev_w241 = true := ev_vr_mk (l := ep_l241) (scan_vf (by decide +kernel)) ep_k241
def ep_l242 : List (Instr × Nat × Nat) := [(.invokevirtual 246, 217, 1), (.getfield 98, 11, 14), (.invokevirtual 314, 183, 3), (.invokevirtual 305, 213, 3)]
set_option maxRecDepth 100000 in
theorem ep_k242 : ∀ q ∈ ep_l242, ∀ pc, ev_kb MM "LeftAnswersModel" pc q.1 q.2.1 q.2.2 = true := by
  unfold ep_l242
  exact List.forall_mem_cons.mpr ⟨lk631, List.forall_mem_cons.mpr ⟨lk533, List.forall_mem_cons.mpr ⟨lk577, List.forall_mem_cons.mpr ⟨lk651, fun _ h => absurd h List.not_mem_nil⟩⟩⟩⟩
set_option maxRecDepth 100000 in
theorem ep_c242 : ev_vr MM ev_w242 = true := ev_vr_mk (l := ep_l242) (scan_vf (by decide +kernel)) ep_k242
def ep_l243 : List (Instr × Nat × Nat) := [(.putfield 1, 11, 0), (.invokevirtual 240, 223, 1), (.invokevirtual 243, 268, 0), (.getfield 98, 11, 14), (.invokevirtual 246, 217, 1), (.invokevirtual 249, 224, 1)]
set_option maxRecDepth 100000 in
theorem ep_k243 : ∀ q ∈ ep_l243, ∀ pc, ev_kb MM "LeftAnswersModel" pc q.1 q.2.1 q.2.2 = true := by
  unfold ep_l243
  exact List.forall_mem_cons.mpr ⟨lk535, List.forall_mem_cons.mpr ⟨lk536, List.forall_mem_cons.mpr ⟨lk655, List.forall_mem_cons.mpr ⟨lk533, List.forall_mem_cons.mpr ⟨lk631, List.forall_mem_cons.mpr ⟨lk584, fun _ h => absurd h List.not_mem_nil⟩⟩⟩⟩⟩⟩
set_option maxRecDepth 100000 in
theorem ep_c243 : ev_vr MM ev_w243 = true := ev_vr_mk (l := ep_l243) (scan_vf (by decide +kernel)) ep_k243
def ep_l244 : List (Instr × Nat × Nat) := [(.getfield 101, 11, 15), (.getfield 79, 11, 13)]
set_option maxRecDepth 100000 in
theorem ep_k244 : ∀ q ∈ ep_l244, ∀ pc, ev_kb MM "LeftAnswersModel" pc q.1 q.2.1 q.2.2 = true := by
  unfold ep_l244
  exact List.forall_mem_cons.mpr ⟨lk594, List.forall_mem_cons.mpr ⟨lk640, fun _ h => absurd h List.not_mem_nil⟩⟩
set_option maxRecDepth 100000 in
theorem ep_c244 : ev_vr MM ev_w244 = true := ev_vr_mk (l := ep_l244) (scan_vf (by decide +kernel)) ep_k244
def ep_l245 : List (Instr × Nat × Nat) := [(.invokevirtual 429, 266, 0), (.getfield 423, 11, 51), (.invokevirtual 180, 227, 1), (.invokevirtual 82, 205, 0), (.invokevirtual 426, 272, 4), (.putfield 423, 11, 51)]
set_option maxRecDepth 100000 in
theorem ep_k245 : ∀ q ∈ ep_l245, ∀ pc, ev_kb MM "LeftAnswersModel" pc q.1 q.2.1 q.2.2 = true := by
  unfold ep_l245
  exact List.forall_mem_cons.mpr ⟨lk656, List.forall_mem_cons.mpr ⟨lk657, List.forall_mem_cons.mpr ⟨lk658, List.forall_mem_cons.mpr ⟨lk551, List.forall_mem_cons.mpr ⟨lk659, List.forall_mem_cons.mpr ⟨lk660, fun _ h => absurd h List.not_mem_nil⟩⟩⟩⟩⟩⟩
set_option maxRecDepth 100000 in
theorem ep_c245 : ev_vr MM ev_w245 = true := ev_vr_mk (l := ep_l245) (scan_vf (by decide +kernel)) ep_k245
def ep_l246 : List (Instr × Nat × Nat) := [(.invokevirtual 180, 227, 1), (.invokevirtual 172, 221, 0), (.invokevirtual 72, 174, 1), (.getfield 113, 11, 19), (.getfield 98, 11, 14), (.getfield 43, 11, 12), (.invokestatic 176, 200, 4), (.getfield 398, 11, 45), (.getfield 160, 11, 43), (.invokevirtual 82, 205, 0), (.invokevirtual 190, 260, 2), (.invokevirtual 392, 229, 2), (.invokevirtual 401, 250, 1), (.invokevirtual 231, 251, 0)]
set_option maxRecDepth 100000 in
theorem ep_k246 : ∀ q ∈ ep_l246, ∀ pc, ev_kb MM "LeftAnswersModel" pc q.1 q.2.1 q.2.2 = true := by
  unfold ep_l246
  exact List.forall_mem_cons.mpr ⟨lk658, List.forall_mem_cons.mpr ⟨lk636, List.forall_mem_cons.mpr ⟨lk637, List.forall_mem_cons.mpr ⟨lk598, List.forall_mem_cons.mpr ⟨lk533, List.forall_mem_cons.mpr ⟨lk623, List.forall_mem_cons.mpr ⟨lk638, List.forall_mem_cons.mpr ⟨lk566, List.forall_mem_cons.mpr ⟨lk626, List.forall_mem_cons.mpr ⟨lk551, List.forall_mem_cons.mpr ⟨lk661, List.forall_mem_cons.mpr ⟨lk662, List.forall_mem_cons.mpr ⟨lk663, List.forall_mem_cons.mpr ⟨lk597, fun _ h => absurd h List.not_mem_nil⟩⟩⟩⟩⟩⟩⟩⟩⟩⟩⟩⟩⟩⟩
set_option maxRecDepth 100000 in
theorem ep_c246 : ev_vr MM ev_w246 = true := ev_vr_mk (l := ep_l246) (scan_vf (by decide +kernel)) ep_k246
def ep_l247 : List (Instr × Nat × Nat) := [(.invokevirtual 450, 263, 0), (.invokevirtual 86, 225, 1), (.invokevirtual 72, 174, 1), (.invokevirtual 82, 205, 0)]
set_option maxRecDepth 100000 in
theorem ep_k247 : ∀ q ∈ ep_l247, ∀ pc, ev_kb MM "LeftAnswersModel" pc q.1 q.2.1 q.2.2 = true := by
  unfold ep_l247
  exact List.forall_mem_cons.mpr ⟨lk664, List.forall_mem_cons.mpr ⟨lk665, List.forall_mem_cons.mpr ⟨lk637, List.forall_mem_cons.mpr ⟨lk551, fun _ h => absurd h List.not_mem_nil⟩⟩⟩⟩
set_option maxRecDepth 100000 in
theorem ep_c247 : ev_vr MM ev_w247 = true := ev_vr_mk (l := ep_l247) (scan_vf (by decide +kernel)) ep_k247
def ep_l248 : List (Instr × Nat × Nat) := [(.invokevirtual 86, 225, 1), (.invokevirtual 72, 174, 1), (.getfield 40, 11, 9), (.invokevirtual 82, 205, 0), (.invokevirtual 190, 260, 2), (.getfield 79, 11, 13), (.invokevirtual 426, 272, 4), (.putfield 423, 11, 51)]
set_option maxRecDepth 100000 in
theorem ep_k248 : ∀ q ∈ ep_l248, ∀ pc, ev_kb MM "LeftAnswersModel" pc q.1 q.2.1 q.2.2 = true := by
  unfold ep_l248
  exact List.forall_mem_cons.mpr ⟨lk665, List.forall_mem_cons.mpr ⟨lk637, List.forall_mem_cons.mpr ⟨lk641, List.forall_mem_cons.mpr ⟨lk551, List.forall_mem_cons.mpr ⟨lk661, List.forall_mem_cons.mpr ⟨lk640, List.forall_mem_cons.mpr ⟨lk659, List.forall_mem_cons.mpr ⟨lk660, fun _ h => absurd h List.not_mem_nil⟩⟩⟩⟩⟩⟩⟩⟩
set_option maxRecDepth 100000 in
theorem ep_c248 : ev_vr MM ev_w248 = true := ev_vr_mk (l := ep_l248) (scan_vf (by decide +kernel)) ep_k248
def ep_l249 : List (Instr × Nat × Nat) := [(.invokevirtual 183, 252, 2), (.getfield 101, 11, 15), (.invokevirtual 187, 258, 1), (.invokevirtual 190, 260, 2), (.invokevirtual 193, 244, 2), (.invokevirtual 197, 253, 3)]
set_option maxRecDepth 100000 in
theorem ep_k249 : ∀ q ∈ ep_l249, ∀ pc, ev_kb MM "LeftAnswersModel" pc q.1 q.2.1 q.2.2 = true := by
  unfold ep_l249
  exact List.forall_mem_cons.mpr ⟨lk666, List.forall_mem_cons.mpr ⟨lk594, List.forall_mem_cons.mpr ⟨lk667, List.forall_mem_cons.mpr ⟨lk661, List.forall_mem_cons.mpr ⟨lk668, List.forall_mem_cons.mpr ⟨lk669, fun _ h => absurd h List.not_mem_nil⟩⟩⟩⟩⟩⟩
set_option maxRecDepth 100000 in
theorem ep_c249 : ev_vr MM ev_w249 = true := ev_vr_mk (l := ep_l249) (scan_vf (by decide +kernel)) ep_k249
def ep_l250 : List (Instr × Nat × Nat) := [(.invokevirtual 180, 227, 1), (.invokevirtual 72, 174, 1), (.getfield 160, 11, 43), (.invokevirtual 82, 205, 0), (.getfield 98, 11, 14), (.invokevirtual 389, 257, 2), (.invokevirtual 392, 229, 2), (.invokevirtual 395, 255, 0)]
set_option maxRecDepth 100000 in
theorem ep_k250 : ∀ q ∈ ep_l250, ∀ pc, ev_kb MM "LeftAnswersModel" pc q.1 q.2.1 q.2.2 = true := by
  unfold ep_l250
  exact List.forall_mem_cons.mpr ⟨lk658, List.forall_mem_cons.mpr ⟨lk637, List.forall_mem_cons.mpr ⟨lk626, List.forall_mem_cons.mpr ⟨lk551, List.forall_mem_cons.mpr ⟨lk533, List.forall_mem_cons.mpr ⟨lk670, List.forall_mem_cons.mpr ⟨lk662, List.forall_mem_cons.mpr ⟨lk671, fun _ h => absurd h List.not_mem_nil⟩⟩⟩⟩⟩⟩⟩⟩
set_option maxRecDepth 100000 in
theorem ep_c250 : ev_vr MM ev_w250 = true := ev_vr_mk (l := ep_l250) (scan_vf (by decide +kernel)) ep_k250
def ep_l251 : List (Instr × Nat × Nat) := [(.invokevirtual 86, 225, 1), (.invokevirtual 72, 174, 1), (.invokevirtual 82, 205, 0)]
set_option maxRecDepth 100000 in
theorem ep_k251 : ∀ q ∈ ep_l251, ∀ pc, ev_kb MM "LeftAnswersModel" pc q.1 q.2.1 q.2.2 = true := by
  unfold ep_l251
  exact List.forall_mem_cons.mpr ⟨lk665, List.forall_mem_cons.mpr ⟨lk637, List.forall_mem_cons.mpr ⟨lk551, fun _ h => absurd h List.not_mem_nil⟩⟩⟩
set_option maxRecDepth 100000 in
theorem ep_c251 : ev_vr MM ev_w251 = true := ev_vr_mk (l := ep_l251) (scan_vf (by decide +kernel)) ep_k251
def ep_l252 : List (Instr × Nat × Nat) := [(.getfield 101, 11, 15), (.invokevirtual 72, 174, 1), (.invokevirtual 82, 205, 0)]
set_option maxRecDepth 100000 in
theorem ep_k252 : ∀ q ∈ ep_l252, ∀ pc, ev_kb MM "LeftAnswersModel" pc q.1 q.2.1 q.2.2 = true := by
  unfold ep_l252
  exact List.forall_mem_cons.mpr ⟨lk594, List.forall_mem_cons.mpr ⟨lk637, List.forall_mem_cons.mpr ⟨lk551, fun _ h => absurd h List.not_mem_nil⟩⟩⟩
set_option maxRecDepth 100000 in
theorem ep_c252 : ev_vr MM ev_w252 = true := ev_vr_mk (l := ep_l252) (scan_vf (by decide +kernel)) ep_k252
def ep_l253 : List (Instr × Nat × Nat) := [(.invokevirtual 180, 227, 1), (.getfield 101, 11, 15), (.invokevirtual 82, 205, 0)]
set_option maxRecDepth 100000 in
theorem ep_k253 : ∀ q ∈ ep_l253, ∀ pc, ev_kb MM "LeftAnswersModel" pc q.1 q.2.1 q.2.2 = true := by
  unfold ep_l253
  exact List.forall_mem_cons.mpr ⟨lk658, List.forall_mem_cons.mpr ⟨lk594, List.forall_mem_cons.mpr ⟨lk551, fun _ h => absurd h List.not_mem_nil⟩⟩⟩
set_option maxRecDepth 100000 in
theorem ep_c253 : ev_vr MM ev_w253 = true := ev_vr_mk (l := ep_l253) (scan_vf (by decide +kernel)) ep_k253
def ep_l254 : List (Instr × Nat × Nat) := [(.invokevirtual 204, 264, 0), (.getfield 79, 11, 13), (.getfield 101, 11, 15), (.invokevirtual 72, 174, 1), (.invokevirtual 82, 205, 0), (.invokevirtual 190, 260, 2), (.invokevirtual 193, 244, 2)]
set_option maxRecDepth 100000 in
theorem ep_k254 : ∀ q ∈ ep_l254, ∀ pc, ev_kb MM "LeftAnswersModel" pc q.1 q.2.1 q.2.2 = true := by
  unfold ep_l254
  exact List.forall_mem_cons.mpr ⟨lk672, List.forall_mem_cons.mpr ⟨lk640, List.forall_mem_cons.mpr ⟨lk594, List.forall_mem_cons.mpr ⟨lk637, List.forall_mem_cons.mpr ⟨lk551, List.forall_mem_cons.mpr ⟨lk661, List.forall_mem_cons.mpr ⟨lk668, fun _ h => absurd h List.not_mem_nil⟩⟩⟩⟩⟩⟩⟩
set_option maxRecDepth 100000 in
theorem ep_c254 : ev_vr MM ev_w254 = true := ev_vr_mk (l := ep_l254) (scan_vf (by decide +kernel)) ep_k254
def ep_l255 : List (Instr × Nat × Nat) := [(.invokevirtual 180, 227, 1), (.invokevirtual 72, 174, 1), (.putfield 79, 11, 13), (.invokevirtual 82, 205, 0)]
set_option maxRecDepth 100000 in
theorem ep_k255 : ∀ q ∈ ep_l255, ∀ pc, ev_kb MM "LeftAnswersModel" pc q.1 q.2.1 q.2.2 = true := by
  unfold ep_l255
  exact List.forall_mem_cons.mpr ⟨lk658, List.forall_mem_cons.mpr ⟨lk637, List.forall_mem_cons.mpr ⟨lk639, List.forall_mem_cons.mpr ⟨lk551, fun _ h => absurd h List.not_mem_nil⟩⟩⟩⟩
set_option maxRecDepth 100000 in
theorem ep_c255 : ev_vr MM ev_w255 = true := ev_vr_mk (l := ep_l255) (scan_vf (by decide +kernel)) ep_k255
def ep_l256 : List (Instr × Nat × Nat) := [(.invokevirtual 180, 227, 1), (.invokevirtual 210, 265, 0), (.invokevirtual 213, 249, 0), (.invokevirtual 216, 267, 0), (.invokevirtual 219, 254, 0), (.invokevirtual 222, 262, 1), (.invokevirtual 72, 174, 1)]
set_option maxRecDepth 100000 in
theorem ep_k256 : ∀ q ∈ ep_l256, ∀ pc, ev_kb MM "LeftAnswersModel" pc q.1 q.2.1 q.2.2 = true := by
  unfold ep_l256
  exact List.forall_mem_cons.mpr ⟨lk658, List.forall_mem_cons.mpr ⟨lk673, List.forall_mem_cons.mpr ⟨lk674, List.forall_mem_cons.mpr ⟨lk675, List.forall_mem_cons.mpr ⟨lk676, List.forall_mem_cons.mpr ⟨lk677, List.forall_mem_cons.mpr ⟨lk637, fun _ h => absurd h List.not_mem_nil⟩⟩⟩⟩⟩⟩⟩
set_option maxRecDepth 100000 in
theorem ep_c256 : ev_vr MM ev_w256 = true := ev_vr_mk (l := ep_l256) (scan_vf (by decide +kernel)) ep_k256
def ep_l257 : List (Instr × Nat × Nat) := [(.invokevirtual 172, 221, 0), (.invokevirtual 72, 174, 1), (.getfield 113, 11, 19), (.getfield 43, 11, 12), (.invokestatic 176, 200, 4), (.putfield 79, 11, 13), (.getfield 79, 11, 13), (.invokevirtual 82, 205, 0)]
set_option maxRecDepth 100000 in
theorem ep_k257 : ∀ q ∈ ep_l257, ∀ pc, ev_kb MM "LeftAnswersModel" pc q.1 q.2.1 q.2.2 = true := by
  unfold ep_l257
  exact List.forall_mem_cons.mpr ⟨lk636, List.forall_mem_cons.mpr ⟨lk637, List.forall_mem_cons.mpr ⟨lk598, List.forall_mem_cons.mpr ⟨lk623, List.forall_mem_cons.mpr ⟨lk638, List.forall_mem_cons.mpr ⟨lk639, List.forall_mem_cons.mpr ⟨lk640, List.forall_mem_cons.mpr ⟨lk551, fun _ h => absurd h List.not_mem_nil⟩⟩⟩⟩⟩⟩⟩⟩
set_option maxRecDepth 100000 in
theorem ep_c257 : ev_vr MM ev_w257 = true := ev_vr_mk (l := ep_l257) (scan_vf (by decide +kernel)) ep_k257
def ep_l258 : List (Instr × Nat × Nat) := [(.invokevirtual 172, 221, 0), (.invokevirtual 72, 174, 1), (.getfield 117, 11, 20), (.getfield 101, 11, 15), (.getfield 43, 11, 12), (.invokestatic 176, 200, 4), (.invokevirtual 82, 205, 0)]
set_option maxRecDepth 100000 in
theorem ep_k258 : ∀ q ∈ ep_l258, ∀ pc, ev_kb MM "LeftAnswersModel" pc q.1 q.2.1 q.2.2 = true := by
  unfold ep_l258
  exact List.forall_mem_cons.mpr ⟨lk636, List.forall_mem_cons.mpr ⟨lk637, List.forall_mem_cons.mpr ⟨lk599, List.forall_mem_cons.mpr ⟨lk594, List.forall_mem_cons.mpr ⟨lk623, List.forall_mem_cons.mpr ⟨lk638, List.forall_mem_cons.mpr ⟨lk551, fun _ h => absurd h List.not_mem_nil⟩⟩⟩⟩⟩⟩⟩
set_option maxRecDepth 100000 in
theorem ep_c258 : ev_vr MM ev_w258 = true := ev_vr_mk (l := ep_l258) (scan_vf (by decide +kernel)) ep_k258
def ep_l259 : List (Instr × Nat × Nat) := [(.invokevirtual 429, 266, 0), (.getfield 423, 11, 51), (.invokevirtual 426, 272, 4), (.putfield 423, 11, 51)]
set_option maxRecDepth 100000 in
theorem ep_k259 : ∀ q ∈ ep_l259, ∀ pc, ev_kb MM "LeftAnswersModel" pc q.1 q.2.1 q.2.2 = true := by
  unfold ep_l259
  exact List.forall_mem_cons.mpr ⟨lk656, List.forall_mem_cons.mpr ⟨lk657, List.forall_mem_cons.mpr ⟨lk659, List.forall_mem_cons.mpr ⟨lk660, fun _ h => absurd h List.not_mem_nil⟩⟩⟩⟩
set_option maxRecDepth 100000 in
theorem ep_c259 : ev_vr MM ev_w259 = true := ev_vr_mk (l := ep_l259) (scan_vf (by decide +kernel)) ep_k259
def ep_l260 : List (Instr × Nat × Nat) := [(.getfield 30, 11, 7), (.invokevirtual 72, 174, 1), (.getfield 47, 11, 8), (.invokestatic 75, 218, 3), (.putfield 79, 11, 13), (.invokevirtual 82, 205, 0)]
set_option maxRecDepth 100000 in
theorem ep_k260 : ∀ q ∈ ep_l260, ∀ pc, ev_kb MM "LeftAnswersModel" pc q.1 q.2.1 q.2.2 = true := by
  unfold ep_l260
  exact List.forall_mem_cons.mpr ⟨lk542, List.forall_mem_cons.mpr ⟨lk637, List.forall_mem_cons.mpr ⟨lk625, List.forall_mem_cons.mpr ⟨lk560, List.forall_mem_cons.mpr ⟨lk639, List.forall_mem_cons.mpr ⟨lk551, fun _ h => absurd h List.not_mem_nil⟩⟩⟩⟩⟩⟩
set_option maxRecDepth 100000 in
theorem ep_c260 : ev_vr MM ev_w260 = true := ev_vr_mk (l := ep_l260) (scan_vf (by decide +kernel)) ep_k260
def ep_l261 : List (Instr × Nat × Nat) := [(.getfield 98, 11, 14), (.invokevirtual 389, 257, 2), (.getfield 79, 11, 13), (.invokevirtual 426, 272, 4), (.putfield 423, 11, 51)]
set_option maxRecDepth 100000 in
theorem ep_k261 : ∀ q ∈ ep_l261, ∀ pc, ev_kb MM "LeftAnswersModel" pc q.1 q.2.1 q.2.2 = true := by
  unfold ep_l261
  exact List.forall_mem_cons.mpr ⟨lk533, List.forall_mem_cons.mpr ⟨lk670, List.forall_mem_cons.mpr ⟨lk640, List.forall_mem_cons.mpr ⟨lk659, List.forall_mem_cons.mpr ⟨lk660, fun _ h => absurd h List.not_mem_nil⟩⟩⟩⟩⟩
set_option maxRecDepth 100000 in
theorem ep_c261 : ev_vr MM ev_w261 = true := ev_vr_mk (l := ep_l261) (scan_vf (by decide +kernel)) ep_k261
def ep_l262 : List (Instr × Nat × Nat) := [(.getfield 127, 11, 23), (.invokevirtual 72, 174, 1), (.invokevirtual 82, 205, 0), (.invokevirtual 190, 260, 2), (.invokevirtual 193, 244, 2)]
set_option maxRecDepth 100000 in
theorem ep_k262 : ∀ q ∈ ep_l262, ∀ pc, ev_kb MM "LeftAnswersModel" pc q.1 q.2.1 q.2.2 = true := by
  unfold ep_l262
  exact List.forall_mem_cons.mpr ⟨lk595, List.forall_mem_cons.mpr ⟨lk637, List.forall_mem_cons.mpr ⟨lk551, List.forall_mem_cons.mpr ⟨lk661, List.forall_mem_cons.mpr ⟨lk668, fun _ h => absurd h List.not_mem_nil⟩⟩⟩⟩⟩
set_option maxRecDepth 100000 in
theorem ep_c262 : ev_vr MM ev_w262 = true := ev_vr_mk (l := ep_l262) (scan_vf (by decide +kernel)) ep_k262
def ep_l263 : List (Instr × Nat × Nat) := [(.invokevirtual 420, 245, 0), (.getfield 423, 11, 51), (.invokevirtual 180, 227, 1), (.invokevirtual 82, 205, 0), (.invokevirtual 426, 272, 4), (.putfield 423, 11, 51)]
set_option maxRecDepth 100000 in
theorem ep_k263 : ∀ q ∈ ep_l263, ∀ pc, ev_kb MM "LeftAnswersModel" pc q.1 q.2.1 q.2.2 = true := by
  unfold ep_l263
  exact List.forall_mem_cons.mpr ⟨lk678, List.forall_mem_cons.mpr ⟨lk657, List.forall_mem_cons.mpr ⟨lk658, List.forall_mem_cons.mpr ⟨lk551, List.forall_mem_cons.mpr ⟨lk659, List.forall_mem_cons.mpr ⟨lk660, fun _ h => absurd h List.not_mem_nil⟩⟩⟩⟩⟩⟩
set_option maxRecDepth 100000 in
theorem ep_c263 : ev_vr MM ev_w263 = true := ev_vr_mk (l := ep_l263) (scan_vf (by decide +kernel)) ep_k263
def ep_l264 : List (Instr × Nat × Nat) := [(.invokevirtual 82, 205, 0), (.invokevirtual 201, 222, 0), (.getfield 79, 11, 13), (.invokevirtual 72, 174, 1)]
set_option maxRecDepth 100000 in
theorem ep_k264 : ∀ q ∈ ep_l264, ∀ pc, ev_kb MM "LeftAnswersModel" pc q.1 q.2.1 q.2.2 = true := by
  unfold ep_l264
  exact List.forall_mem_cons.mpr ⟨lk551, List.forall_mem_cons.mpr ⟨lk679, List.forall_mem_cons.mpr ⟨lk640, List.forall_mem_cons.mpr ⟨lk637, fun _ h => absurd h List.not_mem_nil⟩⟩⟩⟩
set_option maxRecDepth 100000 in
theorem ep_c264 : ev_vr MM ev_w264 = true := ev_vr_mk (l := ep_l264) (scan_vf (by decide +kernel)) ep_k264
def ep_l265 : List (Instr × Nat × Nat) := [(.invokevirtual 183, 252, 2), (.getfield 101, 11, 15), (.invokevirtual 187, 258, 1), (.invokevirtual 190, 260, 2), (.invokevirtual 193, 244, 2), (.invokevirtual 197, 253, 3)]
set_option maxRecDepth 100000 in
theorem ep_k265 : ∀ q ∈ ep_l265, ∀ pc, ev_kb MM "LeftAnswersModel" pc q.1 q.2.1 q.2.2 = true := by
  unfold ep_l265
  exact List.forall_mem_cons.mpr ⟨lk666, List.forall_mem_cons.mpr ⟨lk594, List.forall_mem_cons.mpr ⟨lk667, List.forall_mem_cons.mpr ⟨lk661, List.forall_mem_cons.mpr ⟨lk668, List.forall_mem_cons.mpr ⟨lk669, fun _ h => absurd h List.not_mem_nil⟩⟩⟩⟩⟩⟩
set_option maxRecDepth 100000 in
theorem ep_c265 : ev_vr MM ev_w265 = true := ev_vr_mk (l := ep_l265) (scan_vf (by decide +kernel)) ep_k265
def ep_l266 : List (Instr × Nat × Nat) := [(.invokevirtual 86, 225, 1), (.invokevirtual 180, 227, 1), (.invokevirtual 72, 174, 1), (.getfield 432, 11, 49), (.getfield 435, 11, 50), (.putfield 432, 11, 49), (.putfield 435, 11, 50), (.invokevirtual 82, 205, 0), (.invokevirtual 438, 247, 0), (.invokevirtual 441, 259, 0), (.invokevirtual 426, 272, 4), (.putfield 423, 11, 51), (.invokevirtual 444, 261, 1), (.invokevirtual 447, 248, 1)]
set_option maxRecDepth 100000 in
theorem ep_k266 : ∀ q ∈ ep_l266, ∀ pc, ev_kb MM "LeftAnswersModel" pc q.1 q.2.1 q.2.2 = true := by
  unfold ep_l266
  exact List.forall_mem_cons.mpr ⟨lk665, List.forall_mem_cons.mpr ⟨lk658, List.forall_mem_cons.mpr ⟨lk637, List.forall_mem_cons.mpr ⟨lk680, List.forall_mem_cons.mpr ⟨lk681, List.forall_mem_cons.mpr ⟨lk682, List.forall_mem_cons.mpr ⟨lk683, List.forall_mem_cons.mpr ⟨lk551, List.forall_mem_cons.mpr ⟨lk684, List.forall_mem_cons.mpr ⟨lk685, List.forall_mem_cons.mpr ⟨lk659, List.forall_mem_cons.mpr ⟨lk660, List.forall_mem_cons.mpr ⟨lk686, List.forall_mem_cons.mpr ⟨lk687, fun _ h => absurd h List.not_mem_nil⟩⟩⟩⟩⟩⟩⟩⟩⟩⟩⟩⟩⟩⟩
set_option maxRecDepth 100000 in
theorem ep_c266 : ev_vr MM ev_w266 = true := ev_vr_mk (l := ep_l266) (scan_vf (by decide +kernel)) ep_k266
def ep_l267 : List (Instr × Nat × Nat) := [(.invokevirtual 204, 264, 0), (.getfield 101, 11, 15), (.getfield 79, 11, 13), (.invokestatic 207, 209, 2), (.invokevirtual 72, 174, 1), (.invokevirtual 82, 205, 0)]
set_option maxRecDepth 100000 in
theorem ep_k267 : ∀ q ∈ ep_l267, ∀ pc, ev_kb MM "LeftAnswersModel" pc q.1 q.2.1 q.2.2 = true := by
  unfold ep_l267
  exact List.forall_mem_cons.mpr ⟨lk672, List.forall_mem_cons.mpr ⟨lk594, List.forall_mem_cons.mpr ⟨lk640, List.forall_mem_cons.mpr ⟨lk575, List.forall_mem_cons.mpr ⟨lk637, List.forall_mem_cons.mpr ⟨lk551, fun _ h => absurd h List.not_mem_nil⟩⟩⟩⟩⟩⟩
set_option maxRecDepth 100000 in
theorem ep_c267 : ev_vr MM ev_w267 = true := ev_vr_mk (l := ep_l267) (scan_vf (by decide +kernel)) ep_k267
def ep_l268 : List (Instr × Nat × Nat) := [(.putfield 1, 11, 0)]
set_option maxRecDepth 100000 in
theorem ep_k268 : ∀ q ∈ ep_l268, ∀ pc, ev_kb MM "LeftAnswersModel" pc q.1 q.2.1 q.2.2 = true := by
  unfold ep_l268
  exact List.forall_mem_cons.mpr ⟨lk535, fun _ h => absurd h List.not_mem_nil⟩
set_option maxRecDepth 100000 in
theorem ep_c268 : ev_vr MM ev_w268 = true := ev_vr_mk (l := ep_l268) (scan_vf (by decide +kernel)) ep_k268
def ep_l269 : List (Instr × Nat × Nat) := [(.putfield 1, 11, 0), (.invokestatic 75, 218, 3), (.getfield 123, 11, 22), (.getfield 98, 11, 14), (.getfield 104, 11, 16), (.getfield 113, 11, 19), (.getfield 120, 11, 21), (.putfield 234, 11, 24)]
set_option maxRecDepth 100000 in
theorem ep_k269 : ∀ q ∈ ep_l269, ∀ pc, ev_kb MM "LeftAnswersModel" pc q.1 q.2.1 q.2.2 = true := by
  unfold ep_l269
  exact List.forall_mem_cons.mpr ⟨lk535, List.forall_mem_cons.mpr ⟨lk560, List.forall_mem_cons.mpr ⟨lk634, List.forall_mem_cons.mpr ⟨lk533, List.forall_mem_cons.mpr ⟨lk632, List.forall_mem_cons.mpr ⟨lk598, List.forall_mem_cons.mpr ⟨lk633, List.forall_mem_cons.mpr ⟨lk600, fun _ h => absurd h List.not_mem_nil⟩⟩⟩⟩⟩⟩⟩⟩
set_option maxRecDepth 100000 in
theorem ep_c269 : ev_vr MM ev_w269 = true := ev_vr_mk (l := ep_l269) (scan_vf (by decide +kernel)) ep_k269
def ep_l270 : List (Instr × Nat × Nat) := [(.putfield 1, 11, 0), (.getfield 98, 11, 14)]
set_option maxRecDepth 100000 in
theorem ep_k270 : ∀ q ∈ ep_l270, ∀ pc, ev_kb MM "LeftAnswersModel" pc q.1 q.2.1 q.2.2 = true := by
  unfold ep_l270
  exact List.forall_mem_cons.mpr ⟨lk535, List.forall_mem_cons.mpr ⟨lk533, fun _ h => absurd h List.not_mem_nil⟩⟩
set_option maxRecDepth 100000 in
theorem ep_c270 : ev_vr MM ev_w270 = true := ev_vr_mk (l := ep_l270) (scan_vf (by decide +kernel)) ep_k270
def ep_l271 : List (Instr × Nat × Nat) := [(.putfield 1, 11, 0), (.getfield 98, 11, 14), (.invokevirtual 453, 211, 2)]
set_option maxRecDepth 100000 in
theorem ep_k271 : ∀ q ∈ ep_l271, ∀ pc, ev_kb MM "LeftAnswersModel" pc q.1 q.2.1 q.2.2 = true := by
  unfold ep_l271
  exact List.forall_mem_cons.mpr ⟨lk535, List.forall_mem_cons.mpr ⟨lk533, List.forall_mem_cons.mpr ⟨lk629, fun _ h => absurd h List.not_mem_nil⟩⟩⟩
set_option maxRecDepth 100000 in
theorem ep_c271 : ev_vr MM ev_w271 = true := ev_vr_mk (l := ep_l271) (scan_vf (by decide +kernel)) ep_k271
def ep_l272 : List (Instr × Nat × Nat) := [(.getfield 417, 11, 48), (.getfield 166, 11, 47), (.putfield 417, 11, 48)]
set_option maxRecDepth 100000 in
theorem ep_k272 : ∀ q ∈ ep_l272, ∀ pc, ev_kb MM "LeftAnswersModel" pc q.1 q.2.1 q.2.2 = true := by
  unfold ep_l272
  exact List.forall_mem_cons.mpr ⟨lk688, List.forall_mem_cons.mpr ⟨lk689, List.forall_mem_cons.mpr ⟨lk690, fun _ h => absurd h List.not_mem_nil⟩⟩⟩
set_option maxRecDepth 100000 in
theorem ep_c272 : ev_vr MM ev_w272 = true := ev_vr_mk (l := ep_l272) (scan_vf (by decide +kernel)) ep_k272
def ep_l273 : List (Instr × Nat × Nat) := [(.invokevirtual 225, 176, 1), (.putfield 417, 11, 48), (.putfield 432, 11, 49), (.putfield 435, 11, 50), (.invokevirtual 450, 263, 0), (.getfield 69, 11, 11), (.getfield 30, 11, 7), (.invokevirtual 72, 174, 1), (.getfield 98, 11, 14), (.getfield 423, 11, 51), (.getfield 166, 11, 47), (.getfield 432, 11, 49)]
set_option maxRecDepth 100000 in
theorem ep_k273 : ∀ q ∈ ep_l273, ∀ pc, ev_kb MM "LeftAnswersModel" pc q.1 q.2.1 q.2.2 = true := by
  unfold ep_l273
  exact List.forall_mem_cons.mpr ⟨lk562, List.forall_mem_cons.mpr ⟨lk690, List.forall_mem_cons.mpr ⟨lk682, List.forall_mem_cons.mpr ⟨lk683, List.forall_mem_cons.mpr ⟨lk664, List.forall_mem_cons.mpr ⟨lk565, List.forall_mem_cons.mpr ⟨lk542, List.forall_mem_cons.mpr ⟨lk637, List.forall_mem_cons.mpr ⟨lk533, List.forall_mem_cons.mpr ⟨lk657, List.forall_mem_cons.mpr ⟨lk689, List.forall_mem_cons.mpr ⟨lk680, fun _ h => absurd h List.not_mem_nil⟩⟩⟩⟩⟩⟩⟩⟩⟩⟩⟩⟩
set_option maxRecDepth 100000 in
theorem ep_c273 : ev_vr MM ev_w273 = true := ev_vr_mk (l := ep_l273) (scan_vf (by decide +kernel)) ep_k273
def ep_l274 : List (Instr × Nat × Nat) := []
set_option maxRecDepth 100000 in
theorem ep_k274 : ∀ q ∈ ep_l274, ∀ pc, ev_kb MM "LeftAnswersModel" pc q.1 q.2.1 q.2.2 = true := by
  unfold ep_l274
  exact fun _ h => absurd h List.not_mem_nil
set_option maxRecDepth 100000 in
theorem ep_c274 : ev_vr MM ev_w274 = true := ev_vr_mk (l := ep_l274) (scan_vf (by decide +kernel)) ep_k274
def ep_l275 : List (Instr × Nat × Nat) := [(.putfield 1, 11, 0), (.invokevirtual 240, 223, 1), (.invokestatic 75, 218, 3), (.invokevirtual 252, 276, 2)]
set_option maxRecDepth 100000 in
theorem ep_k275 : ∀ q ∈ ep_l275, ∀ pc, ev_kb MM "LeftAnswersModel" pc q.1 q.2.1 q.2.2 = true := by
  unfold ep_l275
  exact List.forall_mem_cons.mpr ⟨lk535, List.forall_mem_cons.mpr ⟨lk536, List.forall_mem_cons.mpr ⟨lk560, List.forall_mem_cons.mpr ⟨lk576, fun _ h => absurd h List.not_mem_nil⟩⟩⟩⟩
set_option maxRecDepth 100000 in
theorem ep_c275 : ev_vr MM ev_w275 = true := ev_vr_mk (l := ep_l275) (scan_vf (by decide +kernel)) ep_k275
def ep_l276 : List (Instr × Nat × Nat) := [(.getfield 98, 11, 14)]
set_option maxRecDepth 100000 in
theorem ep_k276 : ∀ q ∈ ep_l276, ∀ pc, ev_kb MM "LeftAnswersModel" pc q.1 q.2.1 q.2.2 = true := by
  unfold ep_l276
  exact List.forall_mem_cons.mpr ⟨lk533, fun _ h => absurd h List.not_mem_nil⟩
set_option maxRecDepth 100000 in
theorem ep_c276 : ev_vr MM ev_w276 = true := ev_vr_mk (l := ep_l276) (scan_vf (by decide +kernel)) ep_k276
def ep_l277 : List (Instr × Nat × Nat) := [(.putfield 1, 11, 0), (.invokevirtual 240, 223, 1), (.putfield 354, 11, 41), (.getfield 113, 11, 19), (.invokevirtual 357, 297, 1), (.invokestatic 62, 293, 1), (.invokevirtual 367, 295, 1), (.invokevirtual 361, 294, 1), (.getfield 98, 11, 14), (.invokevirtual 364, 296, 1), (.invokevirtual 237, 219, 1), (.invokestatic 58, 279, 6), (.invokevirtual 246, 217, 1), (.invokevirtual 262, 226, 1), (.getfield 354, 11, 41)]
set_option maxRecDepth 100000 in
theorem ep_k277 : ∀ q ∈ ep_l277, ∀ pc, ev_kb MM "LeftAnswersModel" pc q.1 q.2.1 q.2.2 = true := by
  unfold ep_l277
  exact List.forall_mem_cons.mpr ⟨lk535, List.forall_mem_cons.mpr ⟨lk536, List.forall_mem_cons.mpr ⟨lk691, List.forall_mem_cons.mpr ⟨lk598, List.forall_mem_cons.mpr ⟨lk692, List.forall_mem_cons.mpr ⟨lk635, List.forall_mem_cons.mpr ⟨lk693, List.forall_mem_cons.mpr ⟨lk694, List.forall_mem_cons.mpr ⟨lk533, List.forall_mem_cons.mpr ⟨lk695, List.forall_mem_cons.mpr ⟨lk630, List.forall_mem_cons.mpr ⟨lk696, List.forall_mem_cons.mpr ⟨lk631, List.forall_mem_cons.mpr ⟨lk593, List.forall_mem_cons.mpr ⟨lk573, fun _ h => absurd h List.not_mem_nil⟩⟩⟩⟩⟩⟩⟩⟩⟩⟩⟩⟩⟩⟩⟩
set_option maxRecDepth 100000 in
theorem ep_c277 : ev_vr MM ev_w277 = true := ev_vr_mk (l := ep_l277) (scan_vf (by decide +kernel)) ep_k277
def ep_l278 : List (Instr × Nat × Nat) := [(.getfield 234, 11, 24), (.getfield 107, 11, 17), (.putfield 234, 11, 24), (.getfield 98, 11, 14)]
set_option maxRecDepth 100000 in
theorem ep_k278 : ∀ q ∈ ep_l278, ∀ pc, ev_kb MM "LeftAnswersModel" pc q.1 q.2.1 q.2.2 = true := by
  unfold ep_l278
  exact List.forall_mem_cons.mpr ⟨lk697, List.forall_mem_cons.mpr ⟨lk698, List.forall_mem_cons.mpr ⟨lk600, List.forall_mem_cons.mpr ⟨lk533, fun _ h => absurd h List.not_mem_nil⟩⟩⟩⟩
set_option maxRecDepth 100000 in
theorem ep_c278 : ev_vr MM ev_w278 = true := ev_vr_mk (l := ep_l278) (scan_vf (by decide +kernel)) ep_k278
def ep_l279 : List (Instr × Nat × Nat) := [(.ldc2_w 54, 27, 0), (.ldc2_w 56, 96, 0)]
set_option maxRecDepth 100000 in
theorem ep_k279 : ∀ q ∈ ep_l279, ∀ pc, ev_kb MM "LeftAnswersModel" pc q.1 q.2.1 q.2.2 = true := by
  unfold ep_l279
  exact List.forall_mem_cons.mpr ⟨lk622, List.forall_mem_cons.mpr ⟨lk624, fun _ h => absurd h List.not_mem_nil⟩⟩
set_option maxRecDepth 100000 in
theorem ep_c279 : ev_vr MM ev_w279 = true := ev_vr_mk (l := ep_l279) (scan_vf (by decide +kernel)) ep_k279
end
section
def ep_l280 : List (Instr × Nat × Nat) := [(.getfield 98, 11, 14)]
set_option maxRecDepth 100000 in
theorem ep_k280 : ∀ q ∈ ep_l280, ∀ pc, ev_kb MM "LeftAnswersModel" pc q.1 q.2.1 q.2.2 = true := by
  unfold ep_l280
  exact List.forall_mem_cons.mpr ⟨lk533, fun _ h => absurd h List.not_mem_nil⟩
set_option maxRecDepth 100000 in
theorem ep_c280 : ev_vr MM ev_w280 = true := ev_vr_mk (l := ep_l280) (scan_vf (by decide +kernel)) ep_k280
def ep_l281 : List (Instr × Nat × Nat) := [(.getfield 98, 11, 14), (.getfield 110, 11, 18), (.invokevirtual 285, 278, 0), (.invokevirtual 386, 284, 0)]
set_option maxRecDepth 100000 in
theorem ep_k281 : ∀ q ∈ ep_l281, ∀ pc, ev_kb MM "LeftAnswersModel" pc q.1 q.2.1 q.2.2 = true := by
  unfold ep_l281
  exact List.forall_mem_cons.mpr ⟨lk533, List.forall_mem_cons.mpr ⟨lk642, List.forall_mem_cons.mpr ⟨lk540, List.forall_mem_cons.mpr ⟨lk644, fun _ h => absurd h List.not_mem_nil⟩⟩⟩⟩
set_option maxRecDepth 100000 in
theorem ep_c281 : ev_vr MM ev_w281 = true := ev_vr_mk (l := ep_l281) (scan_vf (by decide +kernel)) ep_k281
def ep_l282 : List (Instr × Nat × Nat) := [(.getfield 98, 11, 14)]
set_option maxRecDepth 100000 in
theorem ep_k282 : ∀ q ∈ ep_l282, ∀ pc, ev_kb MM "LeftAnswersModel" pc q.1 q.2.1 q.2.2 = true := by
  unfold ep_l282
  exact List.forall_mem_cons.mpr ⟨lk533, fun _ h => absurd h List.not_mem_nil⟩
set_option maxRecDepth 100000 in
theorem ep_c282 : ev_vr MM ev_w282 = true := ev_vr_mk (l := ep_l282) (scan_vf (by decide +kernel)) ep_k282
def ep_l283 : List (Instr × Nat × Nat) := [(.getfield 11, 11, 2), (.putfield 11, 11, 2)]
set_option maxRecDepth 100000 in
theorem ep_k283 : ∀ q ∈ ep_l283, ∀ pc, ev_kb MM "LeftAnswersModel" pc q.1 q.2.1 q.2.2 = true := by
  unfold ep_l283
  exact List.forall_mem_cons.mpr ⟨lk579, List.forall_mem_cons.mpr ⟨lk580, fun _ h => absurd h List.not_mem_nil⟩⟩
set_option maxRecDepth 100000 in
theorem ep_c283 : ev_vr MM ev_w283 = true := ev_vr_mk (l := ep_l283) (scan_vf (by decide +kernel)) ep_k283
def ep_l284 : List (Instr × Nat × Nat) := [(.getfield 98, 11, 14), (.getfield 110, 11, 18)]
set_option maxRecDepth 100000 in
theorem ep_k284 : ∀ q ∈ ep_l284, ∀ pc, ev_kb MM "LeftAnswersModel" pc q.1 q.2.1 q.2.2 = true := by
  unfold ep_l284
  exact List.forall_mem_cons.mpr ⟨lk533, List.forall_mem_cons.mpr ⟨lk642, fun _ h => absurd h List.not_mem_nil⟩⟩
set_option maxRecDepth 100000 in
theorem ep_c284 : ev_vr MM ev_w284 = true := ev_vr_mk (l := ep_l284) (scan_vf (by decide +kernel)) ep_k284
def ep_l285 : List (Instr × Nat × Nat) := [(.getfield 18, 11, 3), (.getfield 7, 11, 1)]
set_option maxRecDepth 100000 in
theorem ep_k285 : ∀ q ∈ ep_l285, ∀ pc, ev_kb MM "LeftAnswersModel" pc q.1 q.2.1 q.2.2 = true := by
  unfold ep_l285
  exact List.forall_mem_cons.mpr ⟨lk612, List.forall_mem_cons.mpr ⟨lk578, fun _ h => absurd h List.not_mem_nil⟩⟩
set_option maxRecDepth 100000 in
theorem ep_c285 : ev_vr MM ev_w285 = true := ev_vr_mk (l := ep_l285) (scan_vf (by decide +kernel)) ep_k285
def ep_l286 : List (Instr × Nat × Nat) := [(.putfield 1, 11, 0), (.getfield 145, 11, 33)]
set_option maxRecDepth 100000 in
theorem ep_k286 : ∀ q ∈ ep_l286, ∀ pc, ev_kb MM "LeftAnswersModel" pc q.1 q.2.1 q.2.2 = true := by
  unfold ep_l286
  exact List.forall_mem_cons.mpr ⟨lk535, List.forall_mem_cons.mpr ⟨lk610, fun _ h => absurd h List.not_mem_nil⟩⟩
set_option maxRecDepth 100000 in
theorem ep_c286 : ev_vr MM ev_w286 = true := ev_vr_mk (l := ep_l286) (scan_vf (by decide +kernel)) ep_k286
def ep_l287 : List (Instr × Nat × Nat) := [(.putfield 1, 11, 0), (.getfield 410, 11, 46), (.invokestatic 75, 218, 3), (.getfield 163, 11, 44)]
set_option maxRecDepth 100000 in
theorem ep_k287 : ∀ q ∈ ep_l287, ∀ pc, ev_kb MM "LeftAnswersModel" pc q.1 q.2.1 q.2.2 = true := by
  unfold ep_l287
  exact List.forall_mem_cons.mpr ⟨lk535, List.forall_mem_cons.mpr ⟨lk699, List.forall_mem_cons.mpr ⟨lk560, List.forall_mem_cons.mpr ⟨lk569, fun _ h => absurd h List.not_mem_nil⟩⟩⟩⟩
set_option maxRecDepth 100000 in
theorem ep_c287 : ev_vr MM ev_w287 = true := ev_vr_mk (l := ep_l287) (scan_vf (by decide +kernel)) ep_k287
def ep_l288 : List (Instr × Nat × Nat) := [(.putfield 1, 11, 0), (.getfield 234, 11, 24), (.putfield 234, 11, 24), (.getfield 98, 11, 14), (.getfield 107, 11, 17)]
set_option maxRecDepth 100000 in
theorem ep_k288 : ∀ q ∈ ep_l288, ∀ pc, ev_kb MM "LeftAnswersModel" pc q.1 q.2.1 q.2.2 = true := by
  unfold ep_l288
  exact List.forall_mem_cons.mpr ⟨lk535, List.forall_mem_cons.mpr ⟨lk697, List.forall_mem_cons.mpr ⟨lk600, List.forall_mem_cons.mpr ⟨lk533, List.forall_mem_cons.mpr ⟨lk698, fun _ h => absurd h List.not_mem_nil⟩⟩⟩⟩⟩
set_option maxRecDepth 100000 in
theorem ep_c288 : ev_vr MM ev_w288 = true := ev_vr_mk (l := ep_l288) (scan_vf (by decide +kernel)) ep_k288
def ep_l289 : List (Instr × Nat × Nat) := [(.putfield 1, 11, 0), (.invokevirtual 240, 223, 1), (.invokevirtual 292, 173, 5)]
set_option maxRecDepth 100000 in
theorem ep_k289 : ∀ q ∈ ep_l289, ∀ pc, ev_kb MM "LeftAnswersModel" pc q.1 q.2.1 q.2.2 = true := by
  unfold ep_l289
  exact List.forall_mem_cons.mpr ⟨lk535, List.forall_mem_cons.mpr ⟨lk536, List.forall_mem_cons.mpr ⟨lk546, fun _ h => absurd h List.not_mem_nil⟩⟩⟩
set_option maxRecDepth 100000 in
theorem ep_c289 : ev_vr MM ev_w289 = true := ev_vr_mk (l := ep_l289) (scan_vf (by decide +kernel)) ep_k289
def ep_l290 : List (Instr × Nat × Nat) := [(.getfield 98, 11, 14), (.getfield 331, 11, 37), (.putfield 331, 11, 37), (.getfield 154, 11, 36), (.getfield 151, 11, 35), (.invokevirtual 334, 290, 2), (.invokevirtual 338, 216, 1), (.invokevirtual 341, 203, 2)]
set_option maxRecDepth 100000 in
theorem ep_k290 : ∀ q ∈ ep_l290, ∀ pc, ev_kb MM "LeftAnswersModel" pc q.1 q.2.1 q.2.2 = true := by
  unfold ep_l290
  exact List.forall_mem_cons.mpr ⟨lk533, List.forall_mem_cons.mpr ⟨lk557, List.forall_mem_cons.mpr ⟨lk553, List.forall_mem_cons.mpr ⟨lk561, List.forall_mem_cons.mpr ⟨lk552, List.forall_mem_cons.mpr ⟨lk554, List.forall_mem_cons.mpr ⟨lk700, List.forall_mem_cons.mpr ⟨lk701, fun _ h => absurd h List.not_mem_nil⟩⟩⟩⟩⟩⟩⟩⟩
set_option maxRecDepth 100000 in
theorem ep_c290 : ev_vr MM ev_w290 = true := ev_vr_mk (l := ep_l290) (scan_vf (by decide +kernel)) ep_k290
def ep_l291 : List (Instr × Nat × Nat) := [(.invokevirtual 271, 292, 3), (.invokevirtual 262, 226, 1), (.invokevirtual 246, 217, 1), (.invokevirtual 237, 219, 1)]
set_option maxRecDepth 100000 in
theorem ep_k291 : ∀ q ∈ ep_l291, ∀ pc, ev_kb MM "LeftAnswersModel" pc q.1 q.2.1 q.2.2 = true := by
  unfold ep_l291
  exact List.forall_mem_cons.mpr ⟨lk538, List.forall_mem_cons.mpr ⟨lk593, List.forall_mem_cons.mpr ⟨lk631, List.forall_mem_cons.mpr ⟨lk630, fun _ h => absurd h List.not_mem_nil⟩⟩⟩⟩
set_option maxRecDepth 100000 in
theorem ep_c291 : ev_vr MM ev_w291 = true := ev_vr_mk (l := ep_l291) (scan_vf (by decide +kernel)) ep_k291
def ep_l292 : List (Instr × Nat × Nat) := [(.invokevirtual 237, 219, 1), (.getfield 98, 11, 14), (.invokestatic 268, 180, 1), (.invokestatic 207, 209, 2), (.invokevirtual 252, 276, 2), (.invokevirtual 246, 217, 1)]
set_option maxRecDepth 100000 in
theorem ep_k292 : ∀ q ∈ ep_l292, ∀ pc, ev_kb MM "LeftAnswersModel" pc q.1 q.2.1 q.2.2 = true := by
  unfold ep_l292
  exact List.forall_mem_cons.mpr ⟨lk630, List.forall_mem_cons.mpr ⟨lk533, List.forall_mem_cons.mpr ⟨lk582, List.forall_mem_cons.mpr ⟨lk575, List.forall_mem_cons.mpr ⟨lk576, List.forall_mem_cons.mpr ⟨lk631, fun _ h => absurd h List.not_mem_nil⟩⟩⟩⟩⟩⟩
set_option maxRecDepth 100000 in
theorem ep_c292 : ev_vr MM ev_w292 = true := ev_vr_mk (l := ep_l292) (scan_vf (by decide +kernel)) ep_k292
def ep_l293 : List (Instr × Nat × Nat) := [(.invokestatic 58, 279, 6)]
set_option maxRecDepth 100000 in
theorem ep_k293 : ∀ q ∈ ep_l293, ∀ pc, ev_kb MM "LeftAnswersModel" pc q.1 q.2.1 q.2.2 = true := by
  unfold ep_l293
  exact List.forall_mem_cons.mpr ⟨lk696, fun _ h => absurd h List.not_mem_nil⟩
set_option maxRecDepth 100000 in
theorem ep_c293 : ev_vr MM ev_w293 = true := ev_vr_mk (l := ep_l293) (scan_vf (by decide +kernel)) ep_k293
def ep_l294 : List (Instr × Nat × Nat) := [(.getfield 157, 11, 40), (.getfield 354, 11, 41), (.putfield 354, 11, 41)]
set_option maxRecDepth 100000 in
theorem ep_k294 : ∀ q ∈ ep_l294, ∀ pc, ev_kb MM "LeftAnswersModel" pc q.1 q.2.1 q.2.2 = true := by
  unfold ep_l294
  exact List.forall_mem_cons.mpr ⟨lk574, List.forall_mem_cons.mpr ⟨lk573, List.forall_mem_cons.mpr ⟨lk691, fun _ h => absurd h List.not_mem_nil⟩⟩⟩
set_option maxRecDepth 100000 in
theorem ep_c294 : ev_vr MM ev_w294 = true := ev_vr_mk (l := ep_l294) (scan_vf (by decide +kernel)) ep_k294
def ep_l295 : List (Instr × Nat × Nat) := [(.invokevirtual 361, 294, 1), (.invokevirtual 357, 297, 1)]
set_option maxRecDepth 100000 in
theorem ep_k295 : ∀ q ∈ ep_l295, ∀ pc, ev_kb MM "LeftAnswersModel" pc q.1 q.2.1 q.2.2 = true := by
  unfold ep_l295
  exact List.forall_mem_cons.mpr ⟨lk694, List.forall_mem_cons.mpr ⟨lk692, fun _ h => absurd h List.not_mem_nil⟩⟩
set_option maxRecDepth 100000 in
theorem ep_c295 : ev_vr MM ev_w295 = true := ev_vr_mk (l := ep_l295) (scan_vf (by decide +kernel)) ep_k295
def ep_l296 : List (Instr × Nat × Nat) := [(.invokevirtual 364, 296, 1), (.invokevirtual 361, 294, 1)]
set_option maxRecDepth 100000 in
theorem ep_k296 : ∀ q ∈ ep_l296, ∀ pc, ev_kb MM "LeftAnswersModel" pc q.1 q.2.1 q.2.2 = true := by
  unfold ep_l296
  exact List.forall_mem_cons.mpr ⟨lk695, List.forall_mem_cons.mpr ⟨lk694, fun _ h => absurd h List.not_mem_nil⟩⟩
set_option maxRecDepth 100000 in
theorem ep_c296 : ev_vr MM ev_w296 = true := ev_vr_mk (l := ep_l296) (scan_vf (by decide +kernel)) ep_k296
def ep_l297 : List (Instr × Nat × Nat) := [(.ldc2_w 54, 27, 0), (.invokevirtual 357, 297, 1), (.invokevirtual 361, 294, 1)]
set_option maxRecDepth 100000 in
theorem ep_k297 : ∀ q ∈ ep_l297, ∀ pc, ev_kb MM "LeftAnswersModel" pc q.1 q.2.1 q.2.2 = true := by
  unfold ep_l297
  exact List.forall_mem_cons.mpr ⟨lk622, List.forall_mem_cons.mpr ⟨lk692, List.forall_mem_cons.mpr ⟨lk694, fun _ h => absurd h List.not_mem_nil⟩⟩⟩
set_option maxRecDepth 100000 in
theorem ep_c297 : ev_vr MM ev_w297 = true := ev_vr_mk (l := ep_l297) (scan_vf (by decide +kernel)) ep_k297
def ep_l298 : List (Instr × Nat × Nat) := [(.ldc_w 265, 1431655765, 0), (.ldc_w 266, 858993459, 0), (.ldc_w 267, 252645135, 0)]
set_option maxRecDepth 100000 in
theorem ep_k298 : ∀ q ∈ ep_l298, ∀ pc, ev_kb MM "java/lang/Integer" pc q.1 q.2.1 q.2.2 = true := by
  unfold ep_l298
  exact List.forall_mem_cons.mpr ⟨lk702, List.forall_mem_cons.mpr ⟨lk703, List.forall_mem_cons.mpr ⟨lk704, fun _ h => absurd h List.not_mem_nil⟩⟩⟩
set_option maxRecDepth 100000 in
theorem ep_c298 : ev_vr MM ev_w298 = true := ev_vr_mk (l := ep_l298) (scan_vf (by decide +kernel)) ep_k298
def ep_l299 : List (Instr × Nat × Nat) := []
set_option maxRecDepth 100000 in
theorem ep_k299 : ∀ q ∈ ep_l299, ∀ pc, ev_kb MM "java/lang/Math" pc q.1 q.2.1 q.2.2 = true := by
  unfold ep_l299
  exact fun _ h => absurd h List.not_mem_nil
set_option maxRecDepth 100000 in
theorem ep_c299 : ev_vr MM ev_w299 = true := ev_vr_mk (l := ep_l299) (scan_vf (by decide +kernel)) ep_k299
set_option maxRecDepth 100000 in
theorem ex300 : ev_q300.all (fun ch => ch.all (ev_vq MM ep_l300 ev_w300)) = true := ev_td _ 8 eu300_0 ex300_0 (ev_td _ 8 eu300_1 ex300_1 (ev_td _ 8 eu300_2 ex300_2 (ev_td _ 8 eu300_3 ex300_3 (ev_td _ 8 eu300_4 ex300_4 (ev_td _ 8 eu300_5 ex300_5 (ev_td _ 8 eu300_6 ex300_6 (ev_td _ 8 eu300_7 ex300_7 (ev_td _ 8 eu300_8 ex300_8 (ev_td _ 8 eu300_9 ex300_9 (rfl))))))))))
theorem ep_c300 : ev_vr MM ev_w300 = true := by
  refine ev_vr_mk (l := ep_l300) ?_ ep_k300
  unfold ev_vf
  rw [Bool.and_eq_true]
  exact ⟨rfl, ex300⟩
def ep_l301 : List (Instr × Nat × Nat) := [(.invokevirtual 130, 28, 1), (.getfield 29, 10, 3), (.getfield 141, 3, 5), (.getfield 145, 3, 6), (.getfield 148, 3, 7), (.getfield 151, 3, 8), (.getfield 154, 3, 9), (.invokevirtual 157, 102, 1), (.getfield 160, 3, 10), (.getfield 19, 10, 1), (.invokevirtual 163, 104, 2)]
set_option maxRecDepth 100000 in
theorem ep_k301 : ∀ q ∈ ep_l301, ∀ pc, ev_kb MM "LeftAnswers" pc q.1 q.2.1 q.2.2 = true := by
  unfold ep_l301
  exact List.forall_mem_cons.mpr ⟨lk39, List.forall_mem_cons.mpr ⟨lk41, List.forall_mem_cons.mpr ⟨lk113, List.forall_mem_cons.mpr ⟨lk120, List.forall_mem_cons.mpr ⟨lk121, List.forall_mem_cons.mpr ⟨lk122, List.forall_mem_cons.mpr ⟨lk123, List.forall_mem_cons.mpr ⟨lk124, List.forall_mem_cons.mpr ⟨lk125, List.forall_mem_cons.mpr ⟨lk42, List.forall_mem_cons.mpr ⟨lk126, fun _ h => absurd h List.not_mem_nil⟩⟩⟩⟩⟩⟩⟩⟩⟩⟩⟩
set_option maxRecDepth 100000 in
theorem ep_c301 : ev_vr MM ev_w301 = true := ev_vr_mk (l := ep_l301) (scan_vf (by decide +kernel)) ep_k301
def ep_l302 : List (Instr × Nat × Nat) := []
set_option maxRecDepth 100000 in
theorem ep_k302 : ∀ q ∈ ep_l302, ∀ pc, ev_kb MM "LeftAnswersLaw" pc q.1 q.2.1 q.2.2 = true := by
  unfold ep_l302
  exact fun _ h => absurd h List.not_mem_nil
set_option maxRecDepth 100000 in
theorem ep_c302 : ev_vr MM ev_w302 = true := ev_vr_mk (l := ep_l302) (scan_vf (by decide +kernel)) ep_k302
end
