def ep_l120 : List (Instr × Nat × Nat) := [(.getfield 27, 4, 3), (.getfield 28, 4, 4), (.putfield 28, 4, 4), (.getfield 15, 4, 1), (.getfield 9, 4, 0), (.invokestatic 51, 904, 5), (.invokevirtual 47, 120, 2), (.getfield 18, 4, 2)]
set_option maxRecDepth 100000 in
theorem ep_k120 : ∀ q ∈ ep_l120, ∀ pc, ev_kb MM "LeftAnswers$Pairs" pc q.1 q.2.1 q.2.2 = true := by
  unfold ep_l120
  exact List.forall_mem_cons.mpr ⟨lk344, List.forall_mem_cons.mpr ⟨lk345, List.forall_mem_cons.mpr ⟨lk346, List.forall_mem_cons.mpr ⟨lk347, List.forall_mem_cons.mpr ⟨lk343, List.forall_mem_cons.mpr ⟨lk348, List.forall_mem_cons.mpr ⟨lk349, List.forall_mem_cons.mpr ⟨lk350, fun _ h => absurd h List.not_mem_nil⟩⟩⟩⟩⟩⟩⟩⟩
set_option maxRecDepth 100000 in
theorem ep_c120 : ev_vr MM ev_w120 = true := ev_vr_mk (l := ep_l120) (by decide +kernel) ep_k120
def ep_l121 : List (Instr × Nat × Nat) := [(.getfield 21, 1, 0), (.putfield 27, 4, 3), (.putfield 28, 4, 4), (.invokevirtual 31, 114, 0), (.getfield 37, 3, 3), (.invokevirtual 40, 106, 0), (.getfield 27, 4, 3), (.getfield 15, 4, 1), (.invokevirtual 43, 67, 2), (.getfield 18, 4, 2), (.getfield 9, 4, 0), (.invokevirtual 47, 120, 2), (.getfield 28, 4, 4)]
set_option maxRecDepth 100000 in
theorem ep_k121 : ∀ q ∈ ep_l121, ∀ pc, ev_kb MM "LeftAnswers$Pairs" pc q.1 q.2.1 q.2.2 = true := by
  unfold ep_l121
  exact List.forall_mem_cons.mpr ⟨lk351, List.forall_mem_cons.mpr ⟨lk352, List.forall_mem_cons.mpr ⟨lk346, List.forall_mem_cons.mpr ⟨lk353, List.forall_mem_cons.mpr ⟨lk354, List.forall_mem_cons.mpr ⟨lk355, List.forall_mem_cons.mpr ⟨lk344, List.forall_mem_cons.mpr ⟨lk347, List.forall_mem_cons.mpr ⟨lk356, List.forall_mem_cons.mpr ⟨lk350, List.forall_mem_cons.mpr ⟨lk343, List.forall_mem_cons.mpr ⟨lk349, List.forall_mem_cons.mpr ⟨lk345, fun _ h => absurd h List.not_mem_nil⟩⟩⟩⟩⟩⟩⟩⟩⟩⟩⟩⟩⟩
set_option maxRecDepth 100000 in
theorem ep_c121 : ev_vr MM ev_w121 = true := ev_vr_mk (l := ep_l121) (by decide +kernel) ep_k121
def ep_l122 : List (Instr × Nat × Nat) := [(.invokespecial 3, 999, 0), (.newarray .int, 0, 0), (.putfield 9, 5, 0), (.putfield 15, 5, 1), (.putfield 18, 5, 2), (.putfield 21, 5, 3)]
set_option maxRecDepth 100000 in
theorem ep_k122 : ∀ q ∈ ep_l122, ∀ pc, ev_kb MM "LeftAnswers$Parted" pc q.1 q.2.1 q.2.2 = true := by
  unfold ep_l122
  exact List.forall_mem_cons.mpr ⟨lk357, List.forall_mem_cons.mpr ⟨lk358, List.forall_mem_cons.mpr ⟨lk359, List.forall_mem_cons.mpr ⟨lk360, List.forall_mem_cons.mpr ⟨lk361, List.forall_mem_cons.mpr ⟨lk362, fun _ h => absurd h List.not_mem_nil⟩⟩⟩⟩⟩⟩
set_option maxRecDepth 100000 in
theorem ep_c122 : ev_vr MM ev_w122 = true := ev_vr_mk (l := ep_l122) (by decide +kernel) ep_k122
def ep_l123 : List (Instr × Nat × Nat) := [(.invokestatic 24, 901, 2), (.invokestatic 30, 902, 2), (.putfield 33, 5, 4), (.putfield 37, 5, 5)]
set_option maxRecDepth 100000 in
theorem ep_k123 : ∀ q ∈ ep_l123, ∀ pc, ev_kb MM "LeftAnswers$Parted" pc q.1 q.2.1 q.2.2 = true := by
  unfold ep_l123
  exact List.forall_mem_cons.mpr ⟨lk363, List.forall_mem_cons.mpr ⟨lk364, List.forall_mem_cons.mpr ⟨lk365, List.forall_mem_cons.mpr ⟨lk366, fun _ h => absurd h List.not_mem_nil⟩⟩⟩⟩
set_option maxRecDepth 100000 in
theorem ep_c123 : ev_vr MM ev_w123 = true := ev_vr_mk (l := ep_l123) (by decide +kernel) ep_k123
def ep_l124 : List (Instr × Nat × Nat) := [(.getfield 33, 5, 4), (.getfield 21, 5, 3)]
set_option maxRecDepth 100000 in
theorem ep_k124 : ∀ q ∈ ep_l124, ∀ pc, ev_kb MM "LeftAnswers$Parted" pc q.1 q.2.1 q.2.2 = true := by
  unfold ep_l124
  exact List.forall_mem_cons.mpr ⟨lk367, List.forall_mem_cons.mpr ⟨lk368, fun _ h => absurd h List.not_mem_nil⟩⟩
set_option maxRecDepth 100000 in
theorem ep_c124 : ev_vr MM ev_w124 = true := ev_vr_mk (l := ep_l124) (by decide +kernel) ep_k124
def ep_l125 : List (Instr × Nat × Nat) := [(.getfield 15, 5, 1), (.getfield 37, 5, 5), (.getfield 33, 5, 4), (.putfield 37, 5, 5), (.getfield 18, 5, 2), (.getfield 21, 5, 3), (.invokestatic 45, 904, 5), (.getfield 9, 5, 0), (.invokestatic 51, 127, 1), (.invokevirtual 41, 125, 3)]
set_option maxRecDepth 100000 in
theorem ep_k125 : ∀ q ∈ ep_l125, ∀ pc, ev_kb MM "LeftAnswers$Parted" pc q.1 q.2.1 q.2.2 = true := by
  unfold ep_l125
  exact List.forall_mem_cons.mpr ⟨lk369, List.forall_mem_cons.mpr ⟨lk370, List.forall_mem_cons.mpr ⟨lk367, List.forall_mem_cons.mpr ⟨lk366, List.forall_mem_cons.mpr ⟨lk371, List.forall_mem_cons.mpr ⟨lk368, List.forall_mem_cons.mpr ⟨lk372, List.forall_mem_cons.mpr ⟨lk373, List.forall_mem_cons.mpr ⟨lk374, List.forall_mem_cons.mpr ⟨lk375, fun _ h => absurd h List.not_mem_nil⟩⟩⟩⟩⟩⟩⟩⟩⟩⟩
set_option maxRecDepth 100000 in
theorem ep_c125 : ev_vr MM ev_w125 = true := ev_vr_mk (l := ep_l125) (by decide +kernel) ep_k125
def ep_l126 : List (Instr × Nat × Nat) := [(.getfield 15, 5, 1), (.getfield 33, 5, 4), (.getfield 9, 5, 0), (.ldc 40, 2097151, 0), (.invokevirtual 41, 125, 3), (.getfield 37, 5, 5)]
set_option maxRecDepth 100000 in
theorem ep_k126 : ∀ q ∈ ep_l126, ∀ pc, ev_kb MM "LeftAnswers$Parted" pc q.1 q.2.1 q.2.2 = true := by
  unfold ep_l126
  exact List.forall_mem_cons.mpr ⟨lk369, List.forall_mem_cons.mpr ⟨lk367, List.forall_mem_cons.mpr ⟨lk373, List.forall_mem_cons.mpr ⟨lk376, List.forall_mem_cons.mpr ⟨lk375, List.forall_mem_cons.mpr ⟨lk370, fun _ h => absurd h List.not_mem_nil⟩⟩⟩⟩⟩⟩
set_option maxRecDepth 100000 in
theorem ep_c126 : ev_vr MM ev_w126 = true := ev_vr_mk (l := ep_l126) (by decide +kernel) ep_k126
def ep_l127 : List (Instr × Nat × Nat) := []
set_option maxRecDepth 100000 in
theorem ep_k127 : ∀ q ∈ ep_l127, ∀ pc, ev_kb MM "LeftAnswers$Parted" pc q.1 q.2.1 q.2.2 = true := by
  unfold ep_l127
  exact fun _ h => absurd h List.not_mem_nil
set_option maxRecDepth 100000 in
theorem ep_c127 : ev_vr MM ev_w127 = true := ev_vr_mk (l := ep_l127) (by decide +kernel) ep_k127
def ep_l128 : List (Instr × Nat × Nat) := [(.invokespecial 3, 999, 0), (.anewarray 11, 5, 0), (.putfield 13, 6, 0), (.getfield 13, 6, 0), (.new 11, 3, 0), (.invokespecial 17, 87, 0)]
set_option maxRecDepth 100000 in
theorem ep_k128 : ∀ q ∈ ep_l128, ∀ pc, ev_kb MM "LeftAnswers$Past" pc q.1 q.2.1 q.2.2 = true := by
  unfold ep_l128
  exact List.forall_mem_cons.mpr ⟨lk377, List.forall_mem_cons.mpr ⟨lk378, List.forall_mem_cons.mpr ⟨lk379, List.forall_mem_cons.mpr ⟨lk380, List.forall_mem_cons.mpr ⟨lk381, List.forall_mem_cons.mpr ⟨lk382, fun _ h => absurd h List.not_mem_nil⟩⟩⟩⟩⟩⟩
set_option maxRecDepth 100000 in
theorem ep_c128 : ev_vr MM ev_w128 = true := ev_vr_mk (l := ep_l128) (by decide +kernel) ep_k128
def ep_l129 : List (Instr × Nat × Nat) := [(.putfield 18, 6, 2)]
set_option maxRecDepth 100000 in
theorem ep_k129 : ∀ q ∈ ep_l129, ∀ pc, ev_kb MM "LeftAnswers$Past" pc q.1 q.2.1 q.2.2 = true := by
  unfold ep_l129
  exact List.forall_mem_cons.mpr ⟨lk383, fun _ h => absurd h List.not_mem_nil⟩
set_option maxRecDepth 100000 in
theorem ep_c129 : ev_vr MM ev_w129 = true := ev_vr_mk (l := ep_l129) (by decide +kernel) ep_k129
def ep_l130 : List (Instr × Nat × Nat) := [(.getfield 18, 6, 2), (.getfield 22, 6, 1), (.putfield 22, 6, 1), (.putfield 18, 6, 2), (.getfield 13, 6, 0), (.invokevirtual 25, 94, 1)]
set_option maxRecDepth 100000 in
theorem ep_k130 : ∀ q ∈ ep_l130, ∀ pc, ev_kb MM "LeftAnswers$Past" pc q.1 q.2.1 q.2.2 = true := by
  unfold ep_l130
  exact List.forall_mem_cons.mpr ⟨lk384, List.forall_mem_cons.mpr ⟨lk385, List.forall_mem_cons.mpr ⟨lk386, List.forall_mem_cons.mpr ⟨lk383, List.forall_mem_cons.mpr ⟨lk380, List.forall_mem_cons.mpr ⟨lk387, fun _ h => absurd h List.not_mem_nil⟩⟩⟩⟩⟩⟩
set_option maxRecDepth 100000 in
theorem ep_c130 : ev_vr MM ev_w130 = true := ev_vr_mk (l := ep_l130) (by decide +kernel) ep_k130
def ep_l131 : List (Instr × Nat × Nat) := [(.getfield 18, 6, 2), (.putfield 18, 6, 2), (.getfield 13, 6, 0), (.getfield 22, 6, 1), (.invokevirtual 25, 94, 1)]
set_option maxRecDepth 100000 in
theorem ep_k131 : ∀ q ∈ ep_l131, ∀ pc, ev_kb MM "LeftAnswers$Past" pc q.1 q.2.1 q.2.2 = true := by
  unfold ep_l131
  exact List.forall_mem_cons.mpr ⟨lk384, List.forall_mem_cons.mpr ⟨lk383, List.forall_mem_cons.mpr ⟨lk380, List.forall_mem_cons.mpr ⟨lk385, List.forall_mem_cons.mpr ⟨lk387, fun _ h => absurd h List.not_mem_nil⟩⟩⟩⟩⟩
set_option maxRecDepth 100000 in
theorem ep_c131 : ev_vr MM ev_w131 = true := ev_vr_mk (l := ep_l131) (by decide +kernel) ep_k131
def ep_l132 : List (Instr × Nat × Nat) := [(.invokespecial 5, 999, 0), (.anewarray 11, 4, 0), (.putfield 13, 7, 2), (.getfield 13, 7, 2), (.getstatic 17, 0, 0), (.newarray .int, 0, 0), (.putfield 21, 7, 3), (.putfield 25, 7, 4), (.putfield 28, 7, 5)]
set_option maxRecDepth 100000 in
theorem ep_k132 : ∀ q ∈ ep_l132, ∀ pc, ev_kb MM "LeftAnswers$Sentence" pc q.1 q.2.1 q.2.2 = true := by
  unfold ep_l132
  exact List.forall_mem_cons.mpr ⟨lk388, List.forall_mem_cons.mpr ⟨lk389, List.forall_mem_cons.mpr ⟨lk390, List.forall_mem_cons.mpr ⟨lk391, List.forall_mem_cons.mpr ⟨lk392, List.forall_mem_cons.mpr ⟨lk393, List.forall_mem_cons.mpr ⟨lk394, List.forall_mem_cons.mpr ⟨lk395, List.forall_mem_cons.mpr ⟨lk396, fun _ h => absurd h List.not_mem_nil⟩⟩⟩⟩⟩⟩⟩⟩⟩
set_option maxRecDepth 100000 in
theorem ep_c132 : ev_vr MM ev_w132 = true := ev_vr_mk (l := ep_l132) (by decide +kernel) ep_k132
def ep_l133 : List (Instr × Nat × Nat) := [(.getfield 35, 7, 1), (.getfield 13, 7, 2), (.getfield 21, 7, 3), (.getfield 25, 7, 4), (.putfield 35, 7, 1)]
set_option maxRecDepth 100000 in
theorem ep_k133 : ∀ q ∈ ep_l133, ∀ pc, ev_kb MM "LeftAnswers$Sentence" pc q.1 q.2.1 q.2.2 = true := by
  unfold ep_l133
  exact List.forall_mem_cons.mpr ⟨lk397, List.forall_mem_cons.mpr ⟨lk391, List.forall_mem_cons.mpr ⟨lk398, List.forall_mem_cons.mpr ⟨lk399, List.forall_mem_cons.mpr ⟨lk400, fun _ h => absurd h List.not_mem_nil⟩⟩⟩⟩⟩
set_option maxRecDepth 100000 in
theorem ep_c133 : ev_vr MM ev_w133 = true := ev_vr_mk (l := ep_l133) (by decide +kernel) ep_k133
def ep_l134 : List (Instr × Nat × Nat) := [(.getstatic 91, 100, 0), (.invokevirtual 96, 900, 0)]
set_option maxRecDepth 100000 in
theorem ep_k134 : ∀ q ∈ ep_l134, ∀ pc, ev_kb MM "LeftAnswers$Sentence" pc q.1 q.2.1 q.2.2 = true := by
  unfold ep_l134
  exact List.forall_mem_cons.mpr ⟨lk401, List.forall_mem_cons.mpr ⟨lk402, fun _ h => absurd h List.not_mem_nil⟩⟩
set_option maxRecDepth 100000 in
theorem ep_c134 : ev_vr MM ev_w134 = true := ev_vr_mk (l := ep_l134) (by decide +kernel) ep_k134
def ep_l135 : List (Instr × Nat × Nat) := [(.getstatic 91, 100, 0), (.getfield 13, 7, 2), (.invokevirtual 96, 900, 0), (.invokevirtual 137, 106, 0), (.getfield 142, 3, 3), (.invokevirtual 145, 114, 0), (.invokevirtual 148, 93, 0), (.invokevirtual 151, 113, 1), (.invokevirtual 155, 139, 3)]
set_option maxRecDepth 100000 in
theorem ep_k135 : ∀ q ∈ ep_l135, ∀ pc, ev_kb MM "LeftAnswers$Sentence" pc q.1 q.2.1 q.2.2 = true := by
  unfold ep_l135
  exact List.forall_mem_cons.mpr ⟨lk401, List.forall_mem_cons.mpr ⟨lk391, List.forall_mem_cons.mpr ⟨lk402, List.forall_mem_cons.mpr ⟨lk403, List.forall_mem_cons.mpr ⟨lk404, List.forall_mem_cons.mpr ⟨lk405, List.forall_mem_cons.mpr ⟨lk406, List.forall_mem_cons.mpr ⟨lk407, List.forall_mem_cons.mpr ⟨lk408, fun _ h => absurd h List.not_mem_nil⟩⟩⟩⟩⟩⟩⟩⟩⟩
set_option maxRecDepth 100000 in
theorem ep_c135 : ev_vr MM ev_w135 = true := ev_vr_mk (l := ep_l135) (by decide +kernel) ep_k135
def ep_l136 : List (Instr × Nat × Nat) := [(.putfield 31, 7, 0), (.putfield 35, 7, 1)]
set_option maxRecDepth 100000 in
theorem ep_k136 : ∀ q ∈ ep_l136, ∀ pc, ev_kb MM "LeftAnswers$Sentence" pc q.1 q.2.1 q.2.2 = true := by
  unfold ep_l136
  exact List.forall_mem_cons.mpr ⟨lk409, List.forall_mem_cons.mpr ⟨lk400, fun _ h => absurd h List.not_mem_nil⟩⟩
set_option maxRecDepth 100000 in
theorem ep_c136 : ev_vr MM ev_w136 = true := ev_vr_mk (l := ep_l136) (by decide +kernel) ep_k136
def ep_l137 : List (Instr × Nat × Nat) := [(.getfield 31, 7, 0), (.putfield 31, 7, 0), (.getfield 35, 7, 1), (.putfield 35, 7, 1), (.getfield 13, 7, 2), (.getfield 21, 7, 3), (.getfield 25, 7, 4)]
set_option maxRecDepth 100000 in
theorem ep_k137 : ∀ q ∈ ep_l137, ∀ pc, ev_kb MM "LeftAnswers$Sentence" pc q.1 q.2.1 q.2.2 = true := by
  unfold ep_l137
  exact List.forall_mem_cons.mpr ⟨lk410, List.forall_mem_cons.mpr ⟨lk409, List.forall_mem_cons.mpr ⟨lk397, List.forall_mem_cons.mpr ⟨lk400, List.forall_mem_cons.mpr ⟨lk391, List.forall_mem_cons.mpr ⟨lk398, List.forall_mem_cons.mpr ⟨lk399, fun _ h => absurd h List.not_mem_nil⟩⟩⟩⟩⟩⟩⟩
set_option maxRecDepth 100000 in
theorem ep_c137 : ev_vr MM ev_w137 = true := ev_vr_mk (l := ep_l137) (by decide +kernel) ep_k137
def ep_l138 : List (Instr × Nat × Nat) := []
set_option maxRecDepth 100000 in
theorem ep_k138 : ∀ q ∈ ep_l138, ∀ pc, ev_kb MM "LeftAnswers$Sentence" pc q.1 q.2.1 q.2.2 = true := by
  unfold ep_l138
  exact fun _ h => absurd h List.not_mem_nil
set_option maxRecDepth 100000 in
theorem ep_c138 : ev_vr MM ev_w138 = true := ev_vr_mk (l := ep_l138) (by decide +kernel) ep_k138
def ep_l139 : List (Instr × Nat × Nat) := [(.getfield 158, 1, 0), (.getfield 13, 7, 2), (.invokestatic 161, 140, 3), (.getfield 21, 7, 3), (.getfield 25, 7, 4), (.invokestatic 165, 138, 3)]
set_option maxRecDepth 100000 in
theorem ep_k139 : ∀ q ∈ ep_l139, ∀ pc, ev_kb MM "LeftAnswers$Sentence" pc q.1 q.2.1 q.2.2 = true := by
  unfold ep_l139
  exact List.forall_mem_cons.mpr ⟨lk411, List.forall_mem_cons.mpr ⟨lk391, List.forall_mem_cons.mpr ⟨lk412, List.forall_mem_cons.mpr ⟨lk398, List.forall_mem_cons.mpr ⟨lk399, List.forall_mem_cons.mpr ⟨lk413, fun _ h => absurd h List.not_mem_nil⟩⟩⟩⟩⟩⟩
set_option maxRecDepth 100000 in
theorem ep_c139 : ev_vr MM ev_w139 = true := ev_vr_mk (l := ep_l139) (by decide +kernel) ep_k139
def ep_l140 : List (Instr × Nat × Nat) := [(.getstatic 91, 100, 0), (.invokevirtual 96, 900, 0), (.getfield 169, 3, 9), (.getfield 172, 3, 5), (.getfield 175, 3, 6), (.getfield 178, 3, 8)]
set_option maxRecDepth 100000 in
theorem ep_k140 : ∀ q ∈ ep_l140, ∀ pc, ev_kb MM "LeftAnswers$Sentence" pc q.1 q.2.1 q.2.2 = true := by
  unfold ep_l140
  exact List.forall_mem_cons.mpr ⟨lk401, List.forall_mem_cons.mpr ⟨lk402, List.forall_mem_cons.mpr ⟨lk414, List.forall_mem_cons.mpr ⟨lk415, List.forall_mem_cons.mpr ⟨lk416, List.forall_mem_cons.mpr ⟨lk417, fun _ h => absurd h List.not_mem_nil⟩⟩⟩⟩⟩⟩
set_option maxRecDepth 100000 in
theorem ep_c140 : ev_vr MM ev_w140 = true := ev_vr_mk (l := ep_l140) (by decide +kernel) ep_k140
def ep_l141 : List (Instr × Nat × Nat) := [(.invokevirtual 74, 145, 3), (.getfield 61, 9, 6), (.getstatic 77, 21, 0), (.invokevirtual 67, 155, 0), (.invokevirtual 70, 133, 3)]
set_option maxRecDepth 100000 in
theorem ep_k141 : ∀ q ∈ ep_l141, ∀ pc, ev_kb MM "LeftAnswers$Sentence" pc q.1 q.2.1 q.2.2 = true := by
  unfold ep_l141
  exact List.forall_mem_cons.mpr ⟨lk418, List.forall_mem_cons.mpr ⟨lk419, List.forall_mem_cons.mpr ⟨lk420, List.forall_mem_cons.mpr ⟨lk421, List.forall_mem_cons.mpr ⟨lk422, fun _ h => absurd h List.not_mem_nil⟩⟩⟩⟩⟩
set_option maxRecDepth 100000 in
theorem ep_c141 : ev_vr MM ev_w141 = true := ev_vr_mk (l := ep_l141) (by decide +kernel) ep_k141
def ep_l142 : List (Instr × Nat × Nat) := [(.invokevirtual 58, 141, 3), (.getfield 61, 9, 6), (.getstatic 64, 20, 0), (.invokevirtual 67, 155, 0), (.invokevirtual 70, 133, 3)]
set_option maxRecDepth 100000 in
theorem ep_k142 : ∀ q ∈ ep_l142, ∀ pc, ev_kb MM "LeftAnswers$Sentence" pc q.1 q.2.1 q.2.2 = true := by
  unfold ep_l142
  exact List.forall_mem_cons.mpr ⟨lk423, List.forall_mem_cons.mpr ⟨lk419, List.forall_mem_cons.mpr ⟨lk424, List.forall_mem_cons.mpr ⟨lk421, List.forall_mem_cons.mpr ⟨lk422, fun _ h => absurd h List.not_mem_nil⟩⟩⟩⟩⟩
set_option maxRecDepth 100000 in
theorem ep_c142 : ev_vr MM ev_w142 = true := ev_vr_mk (l := ep_l142) (by decide +kernel) ep_k142
def ep_l143 : List (Instr × Nat × Nat) := [(.invokevirtual 38, 136, 0), (.invokevirtual 41, 161, 1), (.invokevirtual 47, 142, 3), (.getfield 51, 9, 4), (.invokevirtual 54, 165, 1)]
set_option maxRecDepth 100000 in
theorem ep_k143 : ∀ q ∈ ep_l143, ∀ pc, ev_kb MM "LeftAnswers$Sentence" pc q.1 q.2.1 q.2.2 = true := by
  unfold ep_l143
  exact List.forall_mem_cons.mpr ⟨lk425, List.forall_mem_cons.mpr ⟨lk426, List.forall_mem_cons.mpr ⟨lk427, List.forall_mem_cons.mpr ⟨lk428, List.forall_mem_cons.mpr ⟨lk429, fun _ h => absurd h List.not_mem_nil⟩⟩⟩⟩⟩
set_option maxRecDepth 100000 in
theorem ep_c143 : ev_vr MM ev_w143 = true := ev_vr_mk (l := ep_l143) (by decide +kernel) ep_k143
def ep_l144 : List (Instr × Nat × Nat) := [(.getfield 117, 9, 8), (.invokevirtual 80, 160, 1), (.invokevirtual 54, 165, 1), (.invokevirtual 67, 155, 0), (.invokevirtual 120, 168, 2), (.getfield 124, 9, 9), (.invokevirtual 70, 133, 3)]
set_option maxRecDepth 100000 in
theorem ep_k144 : ∀ q ∈ ep_l144, ∀ pc, ev_kb MM "LeftAnswers$Sentence" pc q.1 q.2.1 q.2.2 = true := by
  unfold ep_l144
  exact List.forall_mem_cons.mpr ⟨lk430, List.forall_mem_cons.mpr ⟨lk431, List.forall_mem_cons.mpr ⟨lk429, List.forall_mem_cons.mpr ⟨lk421, List.forall_mem_cons.mpr ⟨lk432, List.forall_mem_cons.mpr ⟨lk433, List.forall_mem_cons.mpr ⟨lk422, fun _ h => absurd h List.not_mem_nil⟩⟩⟩⟩⟩⟩⟩
set_option maxRecDepth 100000 in
theorem ep_c144 : ev_vr MM ev_w144 = true := ev_vr_mk (l := ep_l144) (by decide +kernel) ep_k144
def ep_l145 : List (Instr × Nat × Nat) := [(.invokevirtual 80, 160, 1), (.getfield 61, 9, 6), (.invokestatic 84, 134, 1), (.invokevirtual 54, 165, 1), (.getfield 31, 7, 0), (.putfield 31, 7, 0), (.invokevirtual 67, 155, 0), (.invokevirtual 47, 142, 3), (.invokevirtual 88, 167, 1), (.getstatic 91, 100, 0), (.invokevirtual 96, 900, 0), (.invokevirtual 74, 145, 3), (.invokevirtual 70, 133, 3), (.invokevirtual 100, 146, 2), (.invokevirtual 104, 144, 2)]
set_option maxRecDepth 100000 in
theorem ep_k145 : ∀ q ∈ ep_l145, ∀ pc, ev_kb MM "LeftAnswers$Sentence" pc q.1 q.2.1 q.2.2 = true := by
  unfold ep_l145
  exact List.forall_mem_cons.mpr ⟨lk431, List.forall_mem_cons.mpr ⟨lk419, List.forall_mem_cons.mpr ⟨lk434, List.forall_mem_cons.mpr ⟨lk429, List.forall_mem_cons.mpr ⟨lk410, List.forall_mem_cons.mpr ⟨lk409, List.forall_mem_cons.mpr ⟨lk421, List.forall_mem_cons.mpr ⟨lk427, List.forall_mem_cons.mpr ⟨lk435, List.forall_mem_cons.mpr ⟨lk401, List.forall_mem_cons.mpr ⟨lk402, List.forall_mem_cons.mpr ⟨lk418, List.forall_mem_cons.mpr ⟨lk422, List.forall_mem_cons.mpr ⟨lk436, List.forall_mem_cons.mpr ⟨lk437, fun _ h => absurd h List.not_mem_nil⟩⟩⟩⟩⟩⟩⟩⟩⟩⟩⟩⟩⟩⟩⟩
set_option maxRecDepth 100000 in
theorem ep_c145 : ev_vr MM ev_w145 = true := ev_vr_mk (l := ep_l145) (by decide +kernel) ep_k145
def ep_l146 : List (Instr × Nat × Nat) := [(.invokevirtual 108, 73, 1), (.getstatic 114, 27, 0), (.invokevirtual 70, 133, 3), (.invokevirtual 67, 155, 0)]
set_option maxRecDepth 100000 in
theorem ep_k146 : ∀ q ∈ ep_l146, ∀ pc, ev_kb MM "LeftAnswers$Sentence" pc q.1 q.2.1 q.2.2 = true := by
  unfold ep_l146
  exact List.forall_mem_cons.mpr ⟨lk438, List.forall_mem_cons.mpr ⟨lk439, List.forall_mem_cons.mpr ⟨lk422, List.forall_mem_cons.mpr ⟨lk421, fun _ h => absurd h List.not_mem_nil⟩⟩⟩⟩
set_option maxRecDepth 100000 in
theorem ep_c146 : ev_vr MM ev_w146 = true := ev_vr_mk (l := ep_l146) (by decide +kernel) ep_k146
def ep_l147 : List (Instr × Nat × Nat) := [(.invokevirtual 127, 58, 0), (.getfield 35, 7, 1), (.getfield 13, 7, 2), (.getstatic 77, 21, 0), (.getstatic 64, 20, 0), (.getfield 28, 7, 5), (.getstatic 130, 22, 0), (.invokevirtual 133, 135, 3)]
set_option maxRecDepth 100000 in
theorem ep_k147 : ∀ q ∈ ep_l147, ∀ pc, ev_kb MM "LeftAnswers$Sentence" pc q.1 q.2.1 q.2.2 = true := by
  unfold ep_l147
  exact List.forall_mem_cons.mpr ⟨lk440, List.forall_mem_cons.mpr ⟨lk397, List.forall_mem_cons.mpr ⟨lk391, List.forall_mem_cons.mpr ⟨lk420, List.forall_mem_cons.mpr ⟨lk424, List.forall_mem_cons.mpr ⟨lk441, List.forall_mem_cons.mpr ⟨lk442, List.forall_mem_cons.mpr ⟨lk443, fun _ h => absurd h List.not_mem_nil⟩⟩⟩⟩⟩⟩⟩⟩
set_option maxRecDepth 100000 in
theorem ep_c147 : ev_vr MM ev_w147 = true := ev_vr_mk (l := ep_l147) (by decide +kernel) ep_k147
def ep_l148 : List (Instr × Nat × Nat) := [(.invokespecial 3, 999, 0), (.newarray .byte, 0, 0), (.putfield 11, 8, 0)]
set_option maxRecDepth 100000 in
theorem ep_k148 : ∀ q ∈ ep_l148, ∀ pc, ev_kb MM "LeftAnswers$Slip" pc q.1 q.2.1 q.2.2 = true := by
  unfold ep_l148
  exact List.forall_mem_cons.mpr ⟨lk444, List.forall_mem_cons.mpr ⟨lk445, List.forall_mem_cons.mpr ⟨lk446, fun _ h => absurd h List.not_mem_nil⟩⟩⟩
set_option maxRecDepth 100000 in
theorem ep_c148 : ev_vr MM ev_w148 = true := ev_vr_mk (l := ep_l148) (by decide +kernel) ep_k148
def ep_l149 : List (Instr × Nat × Nat) := [(.ldc2_w 76, 31, 0), (.invokevirtual 73, 151, 1)]
set_option maxRecDepth 100000 in
theorem ep_k149 : ∀ q ∈ ep_l149, ∀ pc, ev_kb MM "LeftAnswers$Slip" pc q.1 q.2.1 q.2.2 = true := by
  unfold ep_l149
  exact List.forall_mem_cons.mpr ⟨lk447, List.forall_mem_cons.mpr ⟨lk448, fun _ h => absurd h List.not_mem_nil⟩⟩
set_option maxRecDepth 100000 in
theorem ep_c149 : ev_vr MM ev_w149 = true := ev_vr_mk (l := ep_l149) (by decide +kernel) ep_k149
def ep_l150 : List (Instr × Nat × Nat) := [(.invokevirtual 73, 151, 1)]
set_option maxRecDepth 100000 in
theorem ep_k150 : ∀ q ∈ ep_l150, ∀ pc, ev_kb MM "LeftAnswers$Slip" pc q.1 q.2.1 q.2.2 = true := by
  unfold ep_l150
  exact List.forall_mem_cons.mpr ⟨lk448, fun _ h => absurd h List.not_mem_nil⟩
set_option maxRecDepth 100000 in
theorem ep_c150 : ev_vr MM ev_w150 = true := ev_vr_mk (l := ep_l150) (by decide +kernel) ep_k150
def ep_l151 : List (Instr × Nat × Nat) := [(.getfield 15, 8, 1), (.getfield 11, 8, 0), (.putfield 15, 8, 1)]
set_option maxRecDepth 100000 in
theorem ep_k151 : ∀ q ∈ ep_l151, ∀ pc, ev_kb MM "LeftAnswers$Slip" pc q.1 q.2.1 q.2.2 = true := by
  unfold ep_l151
  exact List.forall_mem_cons.mpr ⟨lk449, List.forall_mem_cons.mpr ⟨lk450, List.forall_mem_cons.mpr ⟨lk451, fun _ h => absurd h List.not_mem_nil⟩⟩⟩
set_option maxRecDepth 100000 in
theorem ep_c151 : ev_vr MM ev_w151 = true := ev_vr_mk (l := ep_l151) (by decide +kernel) ep_k151
def ep_l152 : List (Instr × Nat × Nat) := [(.invokevirtual 64, 905, 0), (.invokevirtual 69, 906, 1), (.invokevirtual 73, 151, 1)]
set_option maxRecDepth 100000 in
theorem ep_k152 : ∀ q ∈ ep_l152, ∀ pc, ev_kb MM "LeftAnswers$Slip" pc q.1 q.2.1 q.2.2 = true := by
  unfold ep_l152
  exact List.forall_mem_cons.mpr ⟨lk452, List.forall_mem_cons.mpr ⟨lk453, List.forall_mem_cons.mpr ⟨lk448, fun _ h => absurd h List.not_mem_nil⟩⟩⟩
set_option maxRecDepth 100000 in
theorem ep_c152 : ev_vr MM ev_w152 = true := ev_vr_mk (l := ep_l152) (by decide +kernel) ep_k152
def ep_l153 : List (Instr × Nat × Nat) := [(.putfield 15, 8, 1), (.getfield 19, 1, 7), (.invokevirtual 25, 149, 1), (.ldc 29, 300, 1), (.invokevirtual 31, 152, 1), (.getfield 35, 3, 5), (.invokevirtual 41, 150, 1), (.invokevirtual 45, 103, 1), (.ldc 49, 301, 1), (.getfield 51, 3, 7), (.invokevirtual 54, 102, 1), (.ldc 57, 302, 1), (.getfield 59, 3, 9), (.ldc 62, 303, 1)]
set_option maxRecDepth 100000 in
theorem ep_k153 : ∀ q ∈ ep_l153, ∀ pc, ev_kb MM "LeftAnswers$Slip" pc q.1 q.2.1 q.2.2 = true := by
  unfold ep_l153
  exact List.forall_mem_cons.mpr ⟨lk451, List.forall_mem_cons.mpr ⟨lk454, List.forall_mem_cons.mpr ⟨lk455, List.forall_mem_cons.mpr ⟨lk456, List.forall_mem_cons.mpr ⟨lk457, List.forall_mem_cons.mpr ⟨lk458, List.forall_mem_cons.mpr ⟨lk459, List.forall_mem_cons.mpr ⟨lk460, List.forall_mem_cons.mpr ⟨lk461, List.forall_mem_cons.mpr ⟨lk462, List.forall_mem_cons.mpr ⟨lk463, List.forall_mem_cons.mpr ⟨lk464, List.forall_mem_cons.mpr ⟨lk465, List.forall_mem_cons.mpr ⟨lk466, fun _ h => absurd h List.not_mem_nil⟩⟩⟩⟩⟩⟩⟩⟩⟩⟩⟩⟩⟩⟩
set_option maxRecDepth 100000 in
theorem ep_c153 : ev_vr MM ev_w153 = true := ev_vr_mk (l := ep_l153) (by decide +kernel) ep_k153
def ep_l154 : List (Instr × Nat × Nat) := [(.invokespecial 3, 999, 0), (.newarray .byte, 0, 0), (.putfield 11, 9, 0), (.getstatic 15, 0, 0), (.putfield 21, 9, 6)]
set_option maxRecDepth 100000 in
theorem ep_k154 : ∀ q ∈ ep_l154, ∀ pc, ev_kb MM "LeftAnswers$Tape" pc q.1 q.2.1 q.2.2 = true := by
  unfold ep_l154
  exact List.forall_mem_cons.mpr ⟨lk467, List.forall_mem_cons.mpr ⟨lk468, List.forall_mem_cons.mpr ⟨lk469, List.forall_mem_cons.mpr ⟨lk470, List.forall_mem_cons.mpr ⟨lk471, fun _ h => absurd h List.not_mem_nil⟩⟩⟩⟩⟩
set_option maxRecDepth 100000 in
theorem ep_c154 : ev_vr MM ev_w154 = true := ev_vr_mk (l := ep_l154) (by decide +kernel) ep_k154
def ep_l155 : List (Instr × Nat × Nat) := [(.getstatic 15, 0, 0), (.putfield 21, 9, 6), (.putfield 46, 9, 7), (.putfield 50, 9, 8), (.getfield 31, 9, 3), (.getfield 24, 9, 1), (.invokevirtual 53, 166, 1), (.invokestatic 57, 156, 1), (.putfield 31, 9, 3), (.putfield 61, 9, 5), (.getfield 28, 9, 2), (.putfield 64, 9, 4), (.invokestatic 67, 158, 1), (.invokestatic 70, 157, 1), (.invokevirtual 73, 164, 0), (.invokevirtual 76, 163, 0)]
set_option maxRecDepth 100000 in
theorem ep_k155 : ∀ q ∈ ep_l155, ∀ pc, ev_kb MM "LeftAnswers$Tape" pc q.1 q.2.1 q.2.2 = true := by
  unfold ep_l155
  exact List.forall_mem_cons.mpr ⟨lk470, List.forall_mem_cons.mpr ⟨lk471, List.forall_mem_cons.mpr ⟨lk472, List.forall_mem_cons.mpr ⟨lk473, List.forall_mem_cons.mpr ⟨lk474, List.forall_mem_cons.mpr ⟨lk475, List.forall_mem_cons.mpr ⟨lk476, List.forall_mem_cons.mpr ⟨lk477, List.forall_mem_cons.mpr ⟨lk478, List.forall_mem_cons.mpr ⟨lk479, List.forall_mem_cons.mpr ⟨lk480, List.forall_mem_cons.mpr ⟨lk481, List.forall_mem_cons.mpr ⟨lk482, List.forall_mem_cons.mpr ⟨lk483, List.forall_mem_cons.mpr ⟨lk484, List.forall_mem_cons.mpr ⟨lk485, fun _ h => absurd h List.not_mem_nil⟩⟩⟩⟩⟩⟩⟩⟩⟩⟩⟩⟩⟩⟩⟩⟩
set_option maxRecDepth 100000 in
theorem ep_c155 : ev_vr MM ev_w155 = true := ev_vr_mk (l := ep_l155) (by decide +kernel) ep_k155
def ep_l156 : List (Instr × Nat × Nat) := []
set_option maxRecDepth 100000 in
theorem ep_k156 : ∀ q ∈ ep_l156, ∀ pc, ev_kb MM "LeftAnswers$Tape" pc q.1 q.2.1 q.2.2 = true := by
  unfold ep_l156
  exact fun _ h => absurd h List.not_mem_nil
set_option maxRecDepth 100000 in
theorem ep_c156 : ev_vr MM ev_w156 = true := ev_vr_mk (l := ep_l156) (by decide +kernel) ep_k156
def ep_l157 : List (Instr × Nat × Nat) := []
set_option maxRecDepth 100000 in
theorem ep_k157 : ∀ q ∈ ep_l157, ∀ pc, ev_kb MM "LeftAnswers$Tape" pc q.1 q.2.1 q.2.2 = true := by
  unfold ep_l157
  exact fun _ h => absurd h List.not_mem_nil
set_option maxRecDepth 100000 in
theorem ep_c157 : ev_vr MM ev_w157 = true := ev_vr_mk (l := ep_l157) (by decide +kernel) ep_k157
def ep_l158 : List (Instr × Nat × Nat) := []
set_option maxRecDepth 100000 in
theorem ep_k158 : ∀ q ∈ ep_l158, ∀ pc, ev_kb MM "LeftAnswers$Tape" pc q.1 q.2.1 q.2.2 = true := by
  unfold ep_l158
  exact fun _ h => absurd h List.not_mem_nil
set_option maxRecDepth 100000 in
theorem ep_c158 : ev_vr MM ev_w158 = true := ev_vr_mk (l := ep_l158) (by decide +kernel) ep_k158
def ep_l159 : List (Instr × Nat × Nat) := []
set_option maxRecDepth 100000 in
theorem ep_k159 : ∀ q ∈ ep_l159, ∀ pc, ev_kb MM "LeftAnswers$Tape" pc q.1 q.2.1 q.2.2 = true := by
  unfold ep_l159
  exact fun _ h => absurd h List.not_mem_nil
set_option maxRecDepth 100000 in
theorem ep_c159 : ev_vr MM ev_w159 = true := ev_vr_mk (l := ep_l159) (by decide +kernel) ep_k159
