def ep_l120 : List (Instr × Nat × Nat) := [(.putfield 1, 11, 0), (.invokevirtual 240, 125, 1)]
set_option maxRecDepth 100000 in
theorem ep_k120 : ∀ q ∈ ep_l120, ∀ pc, ev_kb MM "LeftAnswersModel" pc q.1 q.2.1 q.2.2 = true := by
  unfold ep_l120
  exact List.forall_mem_cons.mpr ⟨lk325, List.forall_mem_cons.mpr ⟨lk326, fun _ h => absurd h List.not_mem_nil⟩⟩
set_option maxRecDepth 100000 in
theorem ep_c120 : ev_vr MM ev_w120 = true := ev_vr_mk (l := ep_l120) (by decide +kernel) ep_k120
def ep_l121 : List (Instr × Nat × Nat) := [(.putfield 1, 11, 0), (.invokestatic 75, 123, 3), (.getfield 104, 11, 16), (.getfield 98, 11, 14), (.getfield 120, 11, 21), (.getfield 113, 11, 19), (.getfield 123, 11, 22)]
set_option maxRecDepth 100000 in
theorem ep_k121 : ∀ q ∈ ep_l121, ∀ pc, ev_kb MM "LeftAnswersModel" pc q.1 q.2.1 q.2.2 = true := by
  unfold ep_l121
  exact List.forall_mem_cons.mpr ⟨lk325, List.forall_mem_cons.mpr ⟨lk344, List.forall_mem_cons.mpr ⟨lk376, List.forall_mem_cons.mpr ⟨lk323, List.forall_mem_cons.mpr ⟨lk377, List.forall_mem_cons.mpr ⟨lk362, List.forall_mem_cons.mpr ⟨lk378, fun _ h => absurd h List.not_mem_nil⟩⟩⟩⟩⟩⟩⟩
set_option maxRecDepth 100000 in
theorem ep_c121 : ev_vr MM ev_w121 = true := ev_vr_mk (l := ep_l121) (by decide +kernel) ep_k121
def ep_l122 : List (Instr × Nat × Nat) := [(.getfield 98, 11, 14), (.invokestatic 75, 123, 3)]
set_option maxRecDepth 100000 in
theorem ep_k122 : ∀ q ∈ ep_l122, ∀ pc, ev_kb MM "LeftAnswersModel" pc q.1 q.2.1 q.2.2 = true := by
  unfold ep_l122
  exact List.forall_mem_cons.mpr ⟨lk323, List.forall_mem_cons.mpr ⟨lk344, fun _ h => absurd h List.not_mem_nil⟩⟩
set_option maxRecDepth 100000 in
theorem ep_c122 : ev_vr MM ev_w122 = true := ev_vr_mk (l := ep_l122) (by decide +kernel) ep_k122
def ep_l123 : List (Instr × Nat × Nat) := []
set_option maxRecDepth 100000 in
theorem ep_k123 : ∀ q ∈ ep_l123, ∀ pc, ev_kb MM "LeftAnswersModel" pc q.1 q.2.1 q.2.2 = true := by
  unfold ep_l123
  exact fun _ h => absurd h List.not_mem_nil
set_option maxRecDepth 100000 in
theorem ep_c123 : ev_vr MM ev_w123 = true := ev_vr_mk (l := ep_l123) (by decide +kernel) ep_k123
def ep_l124 : List (Instr × Nat × Nat) := [(.getfield 98, 11, 14)]
set_option maxRecDepth 100000 in
theorem ep_k124 : ∀ q ∈ ep_l124, ∀ pc, ev_kb MM "LeftAnswersModel" pc q.1 q.2.1 q.2.2 = true := by
  unfold ep_l124
  exact List.forall_mem_cons.mpr ⟨lk323, fun _ h => absurd h List.not_mem_nil⟩
set_option maxRecDepth 100000 in
theorem ep_c124 : ev_vr MM ev_w124 = true := ev_vr_mk (l := ep_l124) (by decide +kernel) ep_k124
def ep_l125 : List (Instr × Nat × Nat) := [(.getfield 98, 11, 14), (.invokestatic 75, 123, 3)]
set_option maxRecDepth 100000 in
theorem ep_k125 : ∀ q ∈ ep_l125, ∀ pc, ev_kb MM "LeftAnswersModel" pc q.1 q.2.1 q.2.2 = true := by
  unfold ep_l125
  exact List.forall_mem_cons.mpr ⟨lk323, List.forall_mem_cons.mpr ⟨lk344, fun _ h => absurd h List.not_mem_nil⟩⟩
set_option maxRecDepth 100000 in
theorem ep_c125 : ev_vr MM ev_w125 = true := ev_vr_mk (l := ep_l125) (by decide +kernel) ep_k125
def ep_l126 : List (Instr × Nat × Nat) := [(.getfield 30, 11, 7)]
set_option maxRecDepth 100000 in
theorem ep_k126 : ∀ q ∈ ep_l126, ∀ pc, ev_kb MM "LeftAnswersModel" pc q.1 q.2.1 q.2.2 = true := by
  unfold ep_l126
  exact List.forall_mem_cons.mpr ⟨lk327, fun _ h => absurd h List.not_mem_nil⟩
set_option maxRecDepth 100000 in
theorem ep_c126 : ev_vr MM ev_w126 = true := ev_vr_mk (l := ep_l126) (by decide +kernel) ep_k126
def ep_l127 : List (Instr × Nat × Nat) := [(.getfield 98, 11, 14)]
set_option maxRecDepth 100000 in
theorem ep_k127 : ∀ q ∈ ep_l127, ∀ pc, ev_kb MM "LeftAnswersModel" pc q.1 q.2.1 q.2.2 = true := by
  unfold ep_l127
  exact List.forall_mem_cons.mpr ⟨lk323, fun _ h => absurd h List.not_mem_nil⟩
set_option maxRecDepth 100000 in
theorem ep_c127 : ev_vr MM ev_w127 = true := ev_vr_mk (l := ep_l127) (by decide +kernel) ep_k127
def ep_l128 : List (Instr × Nat × Nat) := [(.getfield 30, 11, 7)]
set_option maxRecDepth 100000 in
theorem ep_k128 : ∀ q ∈ ep_l128, ∀ pc, ev_kb MM "LeftAnswersModel" pc q.1 q.2.1 q.2.2 = true := by
  unfold ep_l128
  exact List.forall_mem_cons.mpr ⟨lk327, fun _ h => absurd h List.not_mem_nil⟩
set_option maxRecDepth 100000 in
theorem ep_c128 : ev_vr MM ev_w128 = true := ev_vr_mk (l := ep_l128) (by decide +kernel) ep_k128
def ep_l129 : List (Instr × Nat × Nat) := [(.invokevirtual 237, 124, 1)]
set_option maxRecDepth 100000 in
theorem ep_k129 : ∀ q ∈ ep_l129, ∀ pc, ev_kb MM "LeftAnswersModel" pc q.1 q.2.1 q.2.2 = true := by
  unfold ep_l129
  exact List.forall_mem_cons.mpr ⟨lk379, fun _ h => absurd h List.not_mem_nil⟩
set_option maxRecDepth 100000 in
theorem ep_c129 : ev_vr MM ev_w129 = true := ev_vr_mk (l := ep_l129) (by decide +kernel) ep_k129
def ep_l130 : List (Instr × Nat × Nat) := [(.getfield 110, 11, 18), (.getfield 98, 11, 14)]
set_option maxRecDepth 100000 in
theorem ep_k130 : ∀ q ∈ ep_l130, ∀ pc, ev_kb MM "LeftAnswersModel" pc q.1 q.2.1 q.2.2 = true := by
  unfold ep_l130
  exact List.forall_mem_cons.mpr ⟨lk380, List.forall_mem_cons.mpr ⟨lk323, fun _ h => absurd h List.not_mem_nil⟩⟩
set_option maxRecDepth 100000 in
theorem ep_c130 : ev_vr MM ev_w130 = true := ev_vr_mk (l := ep_l130) (by decide +kernel) ep_k130
def ep_l131 : List (Instr × Nat × Nat) := []
set_option maxRecDepth 100000 in
theorem ep_k131 : ∀ q ∈ ep_l131, ∀ pc, ev_kb MM "LeftAnswersModel" pc q.1 q.2.1 q.2.2 = true := by
  unfold ep_l131
  exact fun _ h => absurd h List.not_mem_nil
set_option maxRecDepth 100000 in
theorem ep_c131 : ev_vr MM ev_w131 = true := ev_vr_mk (l := ep_l131) (by decide +kernel) ep_k131
def ep_l132 : List (Instr × Nat × Nat) := [(.putfield 1, 11, 0), (.getfield 98, 11, 14), (.invokevirtual 259, 129, 0), (.invokevirtual 262, 127, 1), (.invokevirtual 265, 153, 2)]
set_option maxRecDepth 100000 in
theorem ep_k132 : ∀ q ∈ ep_l132, ∀ pc, ev_kb MM "LeftAnswersModel" pc q.1 q.2.1 q.2.2 = true := by
  unfold ep_l132
  exact List.forall_mem_cons.mpr ⟨lk325, List.forall_mem_cons.mpr ⟨lk323, List.forall_mem_cons.mpr ⟨lk350, List.forall_mem_cons.mpr ⟨lk381, List.forall_mem_cons.mpr ⟨lk382, fun _ h => absurd h List.not_mem_nil⟩⟩⟩⟩⟩
set_option maxRecDepth 100000 in
theorem ep_c132 : ev_vr MM ev_w132 = true := ev_vr_mk (l := ep_l132) (by decide +kernel) ep_k132
def ep_l133 : List (Instr × Nat × Nat) := [(.putfield 1, 11, 0), (.invokevirtual 240, 125, 1)]
set_option maxRecDepth 100000 in
theorem ep_k133 : ∀ q ∈ ep_l133, ∀ pc, ev_kb MM "LeftAnswersModel" pc q.1 q.2.1 q.2.2 = true := by
  unfold ep_l133
  exact List.forall_mem_cons.mpr ⟨lk325, List.forall_mem_cons.mpr ⟨lk326, fun _ h => absurd h List.not_mem_nil⟩⟩
set_option maxRecDepth 100000 in
theorem ep_c133 : ev_vr MM ev_w133 = true := ev_vr_mk (l := ep_l133) (by decide +kernel) ep_k133
def ep_l134 : List (Instr × Nat × Nat) := [(.getfield 98, 11, 14), (.invokevirtual 237, 124, 1)]
set_option maxRecDepth 100000 in
theorem ep_k134 : ∀ q ∈ ep_l134, ∀ pc, ev_kb MM "LeftAnswersModel" pc q.1 q.2.1 q.2.2 = true := by
  unfold ep_l134
  exact List.forall_mem_cons.mpr ⟨lk323, List.forall_mem_cons.mpr ⟨lk379, fun _ h => absurd h List.not_mem_nil⟩⟩
set_option maxRecDepth 100000 in
theorem ep_c134 : ev_vr MM ev_w134 = true := ev_vr_mk (l := ep_l134) (by decide +kernel) ep_k134
def ep_l135 : List (Instr × Nat × Nat) := [(.putfield 1, 11, 0), (.invokevirtual 240, 125, 1), (.invokevirtual 292, 93, 5)]
set_option maxRecDepth 100000 in
theorem ep_k135 : ∀ q ∈ ep_l135, ∀ pc, ev_kb MM "LeftAnswersModel" pc q.1 q.2.1 q.2.2 = true := by
  unfold ep_l135
  exact List.forall_mem_cons.mpr ⟨lk325, List.forall_mem_cons.mpr ⟨lk326, List.forall_mem_cons.mpr ⟨lk331, fun _ h => absurd h List.not_mem_nil⟩⟩⟩
set_option maxRecDepth 100000 in
theorem ep_c135 : ev_vr MM ev_w135 = true := ev_vr_mk (l := ep_l135) (by decide +kernel) ep_k135
def ep_l136 : List (Instr × Nat × Nat) := [(.putfield 1, 11, 0), (.invokevirtual 89, 154, 0), (.invokestatic 75, 123, 3)]
set_option maxRecDepth 100000 in
theorem ep_k136 : ∀ q ∈ ep_l136, ∀ pc, ev_kb MM "LeftAnswersModel" pc q.1 q.2.1 q.2.2 = true := by
  unfold ep_l136
  exact List.forall_mem_cons.mpr ⟨lk325, List.forall_mem_cons.mpr ⟨lk332, List.forall_mem_cons.mpr ⟨lk344, fun _ h => absurd h List.not_mem_nil⟩⟩⟩
set_option maxRecDepth 100000 in
theorem ep_c136 : ev_vr MM ev_w136 = true := ev_vr_mk (l := ep_l136) (by decide +kernel) ep_k136
def ep_l137 : List (Instr × Nat × Nat) := [(.putfield 1, 11, 0), (.getfield 311, 11, 29), (.invokestatic 75, 123, 3)]
set_option maxRecDepth 100000 in
theorem ep_k137 : ∀ q ∈ ep_l137, ∀ pc, ev_kb MM "LeftAnswersModel" pc q.1 q.2.1 q.2.2 = true := by
  unfold ep_l137
  exact List.forall_mem_cons.mpr ⟨lk325, List.forall_mem_cons.mpr ⟨lk383, List.forall_mem_cons.mpr ⟨lk344, fun _ h => absurd h List.not_mem_nil⟩⟩⟩
set_option maxRecDepth 100000 in
theorem ep_c137 : ev_vr MM ev_w137 = true := ev_vr_mk (l := ep_l137) (by decide +kernel) ep_k137
def ep_l138 : List (Instr × Nat × Nat) := [(.getfield 98, 11, 14), (.invokestatic 275, 131, 2), (.invokevirtual 296, 134, 0)]
set_option maxRecDepth 100000 in
theorem ep_k138 : ∀ q ∈ ep_l138, ∀ pc, ev_kb MM "LeftAnswersModel" pc q.1 q.2.1 q.2.2 = true := by
  unfold ep_l138
  exact List.forall_mem_cons.mpr ⟨lk323, List.forall_mem_cons.mpr ⟨lk384, List.forall_mem_cons.mpr ⟨lk385, fun _ h => absurd h List.not_mem_nil⟩⟩⟩
set_option maxRecDepth 100000 in
theorem ep_c138 : ev_vr MM ev_w138 = true := ev_vr_mk (l := ep_l138) (by decide +kernel) ep_k138
def ep_l139 : List (Instr × Nat × Nat) := [(.putfield 1, 11, 0), (.invokevirtual 240, 125, 1), (.invokevirtual 243, 143, 0)]
set_option maxRecDepth 100000 in
theorem ep_k139 : ∀ q ∈ ep_l139, ∀ pc, ev_kb MM "LeftAnswersModel" pc q.1 q.2.1 q.2.2 = true := by
  unfold ep_l139
  exact List.forall_mem_cons.mpr ⟨lk325, List.forall_mem_cons.mpr ⟨lk326, List.forall_mem_cons.mpr ⟨lk386, fun _ h => absurd h List.not_mem_nil⟩⟩⟩
set_option maxRecDepth 100000 in
theorem ep_c139 : ev_vr MM ev_w139 = true := ev_vr_mk (l := ep_l139) (by decide +kernel) ep_k139
def ep_l140 : List (Instr × Nat × Nat) := [(.invokevirtual 429, 142, 0)]
set_option maxRecDepth 100000 in
theorem ep_k140 : ∀ q ∈ ep_l140, ∀ pc, ev_kb MM "LeftAnswersModel" pc q.1 q.2.1 q.2.2 = true := by
  unfold ep_l140
  exact List.forall_mem_cons.mpr ⟨lk387, fun _ h => absurd h List.not_mem_nil⟩
set_option maxRecDepth 100000 in
theorem ep_c140 : ev_vr MM ev_w140 = true := ev_vr_mk (l := ep_l140) (by decide +kernel) ep_k140
def ep_l141 : List (Instr × Nat × Nat) := [(.invokevirtual 420, 140, 0)]
set_option maxRecDepth 100000 in
theorem ep_k141 : ∀ q ∈ ep_l141, ∀ pc, ev_kb MM "LeftAnswersModel" pc q.1 q.2.1 q.2.2 = true := by
  unfold ep_l141
  exact List.forall_mem_cons.mpr ⟨lk388, fun _ h => absurd h List.not_mem_nil⟩
set_option maxRecDepth 100000 in
theorem ep_c141 : ev_vr MM ev_w141 = true := ev_vr_mk (l := ep_l141) (by decide +kernel) ep_k141
def ep_l142 : List (Instr × Nat × Nat) := [(.invokevirtual 86, 126, 1), (.invokevirtual 180, 128, 1), (.invokevirtual 72, 94, 1)]
set_option maxRecDepth 100000 in
theorem ep_k142 : ∀ q ∈ ep_l142, ∀ pc, ev_kb MM "LeftAnswersModel" pc q.1 q.2.1 q.2.2 = true := by
  unfold ep_l142
  exact List.forall_mem_cons.mpr ⟨lk389, List.forall_mem_cons.mpr ⟨lk390, List.forall_mem_cons.mpr ⟨lk391, fun _ h => absurd h List.not_mem_nil⟩⟩⟩
set_option maxRecDepth 100000 in
theorem ep_c142 : ev_vr MM ev_w142 = true := ev_vr_mk (l := ep_l142) (by decide +kernel) ep_k142
def ep_l143 : List (Instr × Nat × Nat) := [(.putfield 1, 11, 0)]
set_option maxRecDepth 100000 in
theorem ep_k143 : ∀ q ∈ ep_l143, ∀ pc, ev_kb MM "LeftAnswersModel" pc q.1 q.2.1 q.2.2 = true := by
  unfold ep_l143
  exact List.forall_mem_cons.mpr ⟨lk325, fun _ h => absurd h List.not_mem_nil⟩
set_option maxRecDepth 100000 in
theorem ep_c143 : ev_vr MM ev_w143 = true := ev_vr_mk (l := ep_l143) (by decide +kernel) ep_k143
def ep_l144 : List (Instr × Nat × Nat) := [(.putfield 1, 11, 0), (.invokestatic 75, 123, 3), (.getfield 123, 11, 22)]
set_option maxRecDepth 100000 in
theorem ep_k144 : ∀ q ∈ ep_l144, ∀ pc, ev_kb MM "LeftAnswersModel" pc q.1 q.2.1 q.2.2 = true := by
  unfold ep_l144
  exact List.forall_mem_cons.mpr ⟨lk325, List.forall_mem_cons.mpr ⟨lk344, List.forall_mem_cons.mpr ⟨lk378, fun _ h => absurd h List.not_mem_nil⟩⟩⟩
set_option maxRecDepth 100000 in
theorem ep_c144 : ev_vr MM ev_w144 = true := ev_vr_mk (l := ep_l144) (by decide +kernel) ep_k144
def ep_l145 : List (Instr × Nat × Nat) := [(.putfield 1, 11, 0), (.getfield 98, 11, 14)]
set_option maxRecDepth 100000 in
theorem ep_k145 : ∀ q ∈ ep_l145, ∀ pc, ev_kb MM "LeftAnswersModel" pc q.1 q.2.1 q.2.2 = true := by
  unfold ep_l145
  exact List.forall_mem_cons.mpr ⟨lk325, List.forall_mem_cons.mpr ⟨lk323, fun _ h => absurd h List.not_mem_nil⟩⟩
set_option maxRecDepth 100000 in
theorem ep_c145 : ev_vr MM ev_w145 = true := ev_vr_mk (l := ep_l145) (by decide +kernel) ep_k145
def ep_l146 : List (Instr × Nat × Nat) := [(.putfield 1, 11, 0), (.getfield 98, 11, 14)]
set_option maxRecDepth 100000 in
theorem ep_k146 : ∀ q ∈ ep_l146, ∀ pc, ev_kb MM "LeftAnswersModel" pc q.1 q.2.1 q.2.2 = true := by
  unfold ep_l146
  exact List.forall_mem_cons.mpr ⟨lk325, List.forall_mem_cons.mpr ⟨lk323, fun _ h => absurd h List.not_mem_nil⟩⟩
set_option maxRecDepth 100000 in
theorem ep_c146 : ev_vr MM ev_w146 = true := ev_vr_mk (l := ep_l146) (by decide +kernel) ep_k146
def ep_l147 : List (Instr × Nat × Nat) := [(.invokevirtual 225, 96, 1), (.putfield 417, 11, 48), (.putfield 432, 11, 49), (.putfield 435, 11, 50), (.invokevirtual 450, 141, 0), (.getfield 69, 11, 11)]
set_option maxRecDepth 100000 in
theorem ep_k147 : ∀ q ∈ ep_l147, ∀ pc, ev_kb MM "LeftAnswersModel" pc q.1 q.2.1 q.2.2 = true := by
  unfold ep_l147
  exact List.forall_mem_cons.mpr ⟨lk345, List.forall_mem_cons.mpr ⟨lk392, List.forall_mem_cons.mpr ⟨lk393, List.forall_mem_cons.mpr ⟨lk394, List.forall_mem_cons.mpr ⟨lk395, List.forall_mem_cons.mpr ⟨lk396, fun _ h => absurd h List.not_mem_nil⟩⟩⟩⟩⟩⟩
set_option maxRecDepth 100000 in
theorem ep_c147 : ev_vr MM ev_w147 = true := ev_vr_mk (l := ep_l147) (by decide +kernel) ep_k147
def ep_l148 : List (Instr × Nat × Nat) := [(.putfield 1, 11, 0), (.invokevirtual 240, 125, 1)]
set_option maxRecDepth 100000 in
theorem ep_k148 : ∀ q ∈ ep_l148, ∀ pc, ev_kb MM "LeftAnswersModel" pc q.1 q.2.1 q.2.2 = true := by
  unfold ep_l148
  exact List.forall_mem_cons.mpr ⟨lk325, List.forall_mem_cons.mpr ⟨lk326, fun _ h => absurd h List.not_mem_nil⟩⟩
set_option maxRecDepth 100000 in
theorem ep_c148 : ev_vr MM ev_w148 = true := ev_vr_mk (l := ep_l148) (by decide +kernel) ep_k148
def ep_l149 : List (Instr × Nat × Nat) := [(.putfield 1, 11, 0), (.invokevirtual 240, 125, 1)]
set_option maxRecDepth 100000 in
theorem ep_k149 : ∀ q ∈ ep_l149, ∀ pc, ev_kb MM "LeftAnswersModel" pc q.1 q.2.1 q.2.2 = true := by
  unfold ep_l149
  exact List.forall_mem_cons.mpr ⟨lk325, List.forall_mem_cons.mpr ⟨lk326, fun _ h => absurd h List.not_mem_nil⟩⟩
set_option maxRecDepth 100000 in
theorem ep_c149 : ev_vr MM ev_w149 = true := ev_vr_mk (l := ep_l149) (by decide +kernel) ep_k149
def ep_l150 : List (Instr × Nat × Nat) := [(.getfield 234, 11, 24), (.getfield 107, 11, 17), (.getfield 98, 11, 14), (.putfield 234, 11, 24)]
set_option maxRecDepth 100000 in
theorem ep_k150 : ∀ q ∈ ep_l150, ∀ pc, ev_kb MM "LeftAnswersModel" pc q.1 q.2.1 q.2.2 = true := by
  unfold ep_l150
  exact List.forall_mem_cons.mpr ⟨lk397, List.forall_mem_cons.mpr ⟨lk398, List.forall_mem_cons.mpr ⟨lk323, List.forall_mem_cons.mpr ⟨lk364, fun _ h => absurd h List.not_mem_nil⟩⟩⟩⟩
set_option maxRecDepth 100000 in
theorem ep_c150 : ev_vr MM ev_w150 = true := ev_vr_mk (l := ep_l150) (by decide +kernel) ep_k150
def ep_l151 : List (Instr × Nat × Nat) := [(.getfield 98, 11, 14)]
set_option maxRecDepth 100000 in
theorem ep_k151 : ∀ q ∈ ep_l151, ∀ pc, ev_kb MM "LeftAnswersModel" pc q.1 q.2.1 q.2.2 = true := by
  unfold ep_l151
  exact List.forall_mem_cons.mpr ⟨lk323, fun _ h => absurd h List.not_mem_nil⟩
set_option maxRecDepth 100000 in
theorem ep_c151 : ev_vr MM ev_w151 = true := ev_vr_mk (l := ep_l151) (by decide +kernel) ep_k151
def ep_l152 : List (Instr × Nat × Nat) := [(.getfield 98, 11, 14), (.getfield 110, 11, 18)]
set_option maxRecDepth 100000 in
theorem ep_k152 : ∀ q ∈ ep_l152, ∀ pc, ev_kb MM "LeftAnswersModel" pc q.1 q.2.1 q.2.2 = true := by
  unfold ep_l152
  exact List.forall_mem_cons.mpr ⟨lk323, List.forall_mem_cons.mpr ⟨lk380, fun _ h => absurd h List.not_mem_nil⟩⟩
set_option maxRecDepth 100000 in
theorem ep_c152 : ev_vr MM ev_w152 = true := ev_vr_mk (l := ep_l152) (by decide +kernel) ep_k152
def ep_l153 : List (Instr × Nat × Nat) := [(.getfield 98, 11, 14)]
set_option maxRecDepth 100000 in
theorem ep_k153 : ∀ q ∈ ep_l153, ∀ pc, ev_kb MM "LeftAnswersModel" pc q.1 q.2.1 q.2.2 = true := by
  unfold ep_l153
  exact List.forall_mem_cons.mpr ⟨lk323, fun _ h => absurd h List.not_mem_nil⟩
set_option maxRecDepth 100000 in
theorem ep_c153 : ev_vr MM ev_w153 = true := ev_vr_mk (l := ep_l153) (by decide +kernel) ep_k153
def ep_l154 : List (Instr × Nat × Nat) := [(.getfield 11, 11, 2), (.putfield 11, 11, 2)]
set_option maxRecDepth 100000 in
theorem ep_k154 : ∀ q ∈ ep_l154, ∀ pc, ev_kb MM "LeftAnswersModel" pc q.1 q.2.1 q.2.2 = true := by
  unfold ep_l154
  exact List.forall_mem_cons.mpr ⟨lk355, List.forall_mem_cons.mpr ⟨lk356, fun _ h => absurd h List.not_mem_nil⟩⟩
set_option maxRecDepth 100000 in
theorem ep_c154 : ev_vr MM ev_w154 = true := ev_vr_mk (l := ep_l154) (by decide +kernel) ep_k154
def ep_l155 : List (Instr × Nat × Nat) := [(.putfield 1, 11, 0), (.getfield 145, 11, 33)]
set_option maxRecDepth 100000 in
theorem ep_k155 : ∀ q ∈ ep_l155, ∀ pc, ev_kb MM "LeftAnswersModel" pc q.1 q.2.1 q.2.2 = true := by
  unfold ep_l155
  exact List.forall_mem_cons.mpr ⟨lk325, List.forall_mem_cons.mpr ⟨lk399, fun _ h => absurd h List.not_mem_nil⟩⟩
set_option maxRecDepth 100000 in
theorem ep_c155 : ev_vr MM ev_w155 = true := ev_vr_mk (l := ep_l155) (by decide +kernel) ep_k155
def ep_l156 : List (Instr × Nat × Nat) := [(.putfield 1, 11, 0), (.getfield 410, 11, 46)]
set_option maxRecDepth 100000 in
theorem ep_k156 : ∀ q ∈ ep_l156, ∀ pc, ev_kb MM "LeftAnswersModel" pc q.1 q.2.1 q.2.2 = true := by
  unfold ep_l156
  exact List.forall_mem_cons.mpr ⟨lk325, List.forall_mem_cons.mpr ⟨lk400, fun _ h => absurd h List.not_mem_nil⟩⟩
set_option maxRecDepth 100000 in
theorem ep_c156 : ev_vr MM ev_w156 = true := ev_vr_mk (l := ep_l156) (by decide +kernel) ep_k156
def ep_l157 : List (Instr × Nat × Nat) := [(.putfield 1, 11, 0), (.getfield 234, 11, 24)]
set_option maxRecDepth 100000 in
theorem ep_k157 : ∀ q ∈ ep_l157, ∀ pc, ev_kb MM "LeftAnswersModel" pc q.1 q.2.1 q.2.2 = true := by
  unfold ep_l157
  exact List.forall_mem_cons.mpr ⟨lk325, List.forall_mem_cons.mpr ⟨lk397, fun _ h => absurd h List.not_mem_nil⟩⟩
set_option maxRecDepth 100000 in
theorem ep_c157 : ev_vr MM ev_w157 = true := ev_vr_mk (l := ep_l157) (by decide +kernel) ep_k157
def ep_l158 : List (Instr × Nat × Nat) := [(.putfield 1, 11, 0), (.invokevirtual 240, 125, 1), (.invokevirtual 292, 93, 5)]
set_option maxRecDepth 100000 in
theorem ep_k158 : ∀ q ∈ ep_l158, ∀ pc, ev_kb MM "LeftAnswersModel" pc q.1 q.2.1 q.2.2 = true := by
  unfold ep_l158
  exact List.forall_mem_cons.mpr ⟨lk325, List.forall_mem_cons.mpr ⟨lk326, List.forall_mem_cons.mpr ⟨lk331, fun _ h => absurd h List.not_mem_nil⟩⟩⟩
set_option maxRecDepth 100000 in
theorem ep_c158 : ev_vr MM ev_w158 = true := ev_vr_mk (l := ep_l158) (by decide +kernel) ep_k158
def ep_l159 : List (Instr × Nat × Nat) := [(.getfield 98, 11, 14), (.getfield 331, 11, 37), (.putfield 331, 11, 37), (.getfield 154, 11, 36), (.getfield 151, 11, 35)]
set_option maxRecDepth 100000 in
theorem ep_k159 : ∀ q ∈ ep_l159, ∀ pc, ev_kb MM "LeftAnswersModel" pc q.1 q.2.1 q.2.2 = true := by
  unfold ep_l159
  exact List.forall_mem_cons.mpr ⟨lk323, List.forall_mem_cons.mpr ⟨lk342, List.forall_mem_cons.mpr ⟨lk338, List.forall_mem_cons.mpr ⟨lk401, List.forall_mem_cons.mpr ⟨lk337, fun _ h => absurd h List.not_mem_nil⟩⟩⟩⟩⟩
set_option maxRecDepth 100000 in
theorem ep_c159 : ev_vr MM ev_w159 = true := ev_vr_mk (l := ep_l159) (by decide +kernel) ep_k159
