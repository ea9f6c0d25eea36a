def ep_l80 : List (Instr × Nat × Nat) := [(.invokevirtual 74, 83, 3)]
set_option maxRecDepth 100000 in
theorem ep_k80 : ∀ q ∈ ep_l80, ∀ pc, ev_kb MM "LeftAnswers$Sentence" pc q.1 q.2.1 q.2.2 = true := by
  unfold ep_l80
  exact List.forall_mem_cons.mpr ⟨lk261, fun _ h => absurd h List.not_mem_nil⟩
set_option maxRecDepth 100000 in
theorem ep_c80 : ev_vr MM ev_w80 = true := ev_vr_mk (l := ep_l80) (by decide +kernel) ep_k80
def ep_l81 : List (Instr × Nat × Nat) := [(.invokevirtual 58, 80, 3)]
set_option maxRecDepth 100000 in
theorem ep_k81 : ∀ q ∈ ep_l81, ∀ pc, ev_kb MM "LeftAnswers$Sentence" pc q.1 q.2.1 q.2.2 = true := by
  unfold ep_l81
  exact List.forall_mem_cons.mpr ⟨lk262, fun _ h => absurd h List.not_mem_nil⟩
set_option maxRecDepth 100000 in
theorem ep_c81 : ev_vr MM ev_w81 = true := ev_vr_mk (l := ep_l81) (by decide +kernel) ep_k81
def ep_l82 : List (Instr × Nat × Nat) := [(.invokevirtual 38, 78, 0), (.invokevirtual 41, 88, 1), (.invokevirtual 47, 81, 3)]
set_option maxRecDepth 100000 in
theorem ep_k82 : ∀ q ∈ ep_l82, ∀ pc, ev_kb MM "LeftAnswers$Sentence" pc q.1 q.2.1 q.2.2 = true := by
  unfold ep_l82
  exact List.forall_mem_cons.mpr ⟨lk263, List.forall_mem_cons.mpr ⟨lk264, List.forall_mem_cons.mpr ⟨lk265, fun _ h => absurd h List.not_mem_nil⟩⟩⟩
set_option maxRecDepth 100000 in
theorem ep_c82 : ev_vr MM ev_w82 = true := ev_vr_mk (l := ep_l82) (by decide +kernel) ep_k82
def ep_l83 : List (Instr × Nat × Nat) := [(.invokevirtual 80, 87, 1), (.getfield 61, 9, 6), (.invokestatic 84, 77, 1), (.invokevirtual 54, 90, 1)]
set_option maxRecDepth 100000 in
theorem ep_k83 : ∀ q ∈ ep_l83, ∀ pc, ev_kb MM "LeftAnswers$Sentence" pc q.1 q.2.1 q.2.2 = true := by
  unfold ep_l83
  exact List.forall_mem_cons.mpr ⟨lk266, List.forall_mem_cons.mpr ⟨lk267, List.forall_mem_cons.mpr ⟨lk268, List.forall_mem_cons.mpr ⟨lk269, fun _ h => absurd h List.not_mem_nil⟩⟩⟩⟩
set_option maxRecDepth 100000 in
theorem ep_c83 : ev_vr MM ev_w83 = true := ev_vr_mk (l := ep_l83) (by decide +kernel) ep_k83
def ep_l84 : List (Instr × Nat × Nat) := [(.invokespecial 3, 999, 0), (.newarray .byte, 0, 0), (.putfield 11, 8, 0)]
set_option maxRecDepth 100000 in
theorem ep_k84 : ∀ q ∈ ep_l84, ∀ pc, ev_kb MM "LeftAnswers$Slip" pc q.1 q.2.1 q.2.2 = true := by
  unfold ep_l84
  exact List.forall_mem_cons.mpr ⟨lk270, List.forall_mem_cons.mpr ⟨lk271, List.forall_mem_cons.mpr ⟨lk272, fun _ h => absurd h List.not_mem_nil⟩⟩⟩
set_option maxRecDepth 100000 in
theorem ep_c84 : ev_vr MM ev_w84 = true := ev_vr_mk (l := ep_l84) (by decide +kernel) ep_k84
def ep_l85 : List (Instr × Nat × Nat) := [(.invokespecial 3, 999, 0), (.newarray .byte, 0, 0), (.putfield 11, 9, 0), (.getstatic 15, 0, 0), (.putfield 21, 9, 6)]
set_option maxRecDepth 100000 in
theorem ep_k85 : ∀ q ∈ ep_l85, ∀ pc, ev_kb MM "LeftAnswers$Tape" pc q.1 q.2.1 q.2.2 = true := by
  unfold ep_l85
  exact List.forall_mem_cons.mpr ⟨lk273, List.forall_mem_cons.mpr ⟨lk274, List.forall_mem_cons.mpr ⟨lk275, List.forall_mem_cons.mpr ⟨lk276, List.forall_mem_cons.mpr ⟨lk277, fun _ h => absurd h List.not_mem_nil⟩⟩⟩⟩⟩
set_option maxRecDepth 100000 in
theorem ep_c85 : ev_vr MM ev_w85 = true := ev_vr_mk (l := ep_l85) (by decide +kernel) ep_k85
def ep_l86 : List (Instr × Nat × Nat) := [(.getstatic 15, 0, 0), (.putfield 21, 9, 6), (.putfield 46, 9, 7), (.putfield 50, 9, 8), (.getfield 31, 9, 3), (.getfield 24, 9, 1), (.putfield 61, 9, 5), (.getfield 28, 9, 2), (.putfield 64, 9, 4)]
set_option maxRecDepth 100000 in
theorem ep_k86 : ∀ q ∈ ep_l86, ∀ pc, ev_kb MM "LeftAnswers$Tape" pc q.1 q.2.1 q.2.2 = true := by
  unfold ep_l86
  exact List.forall_mem_cons.mpr ⟨lk276, List.forall_mem_cons.mpr ⟨lk277, List.forall_mem_cons.mpr ⟨lk278, List.forall_mem_cons.mpr ⟨lk279, List.forall_mem_cons.mpr ⟨lk280, List.forall_mem_cons.mpr ⟨lk281, List.forall_mem_cons.mpr ⟨lk282, List.forall_mem_cons.mpr ⟨lk283, List.forall_mem_cons.mpr ⟨lk284, fun _ h => absurd h List.not_mem_nil⟩⟩⟩⟩⟩⟩⟩⟩⟩
set_option maxRecDepth 100000 in
theorem ep_c86 : ev_vr MM ev_w86 = true := ev_vr_mk (l := ep_l86) (by decide +kernel) ep_k86
def ep_l87 : List (Instr × Nat × Nat) := [(.getfield 64, 9, 4)]
set_option maxRecDepth 100000 in
theorem ep_k87 : ∀ q ∈ ep_l87, ∀ pc, ev_kb MM "LeftAnswers$Tape" pc q.1 q.2.1 q.2.2 = true := by
  unfold ep_l87
  exact List.forall_mem_cons.mpr ⟨lk285, fun _ h => absurd h List.not_mem_nil⟩
set_option maxRecDepth 100000 in
theorem ep_c87 : ev_vr MM ev_w87 = true := ev_vr_mk (l := ep_l87) (by decide +kernel) ep_k87
def ep_l88 : List (Instr × Nat × Nat) := [(.putfield 28, 9, 2), (.putfield 31, 9, 3), (.putfield 34, 9, 10), (.putfield 37, 9, 11), (.putfield 40, 9, 9), (.invokevirtual 43, 86, 0)]
set_option maxRecDepth 100000 in
theorem ep_k88 : ∀ q ∈ ep_l88, ∀ pc, ev_kb MM "LeftAnswers$Tape" pc q.1 q.2.1 q.2.2 = true := by
  unfold ep_l88
  exact List.forall_mem_cons.mpr ⟨lk286, List.forall_mem_cons.mpr ⟨lk287, List.forall_mem_cons.mpr ⟨lk288, List.forall_mem_cons.mpr ⟨lk289, List.forall_mem_cons.mpr ⟨lk290, List.forall_mem_cons.mpr ⟨lk291, fun _ h => absurd h List.not_mem_nil⟩⟩⟩⟩⟩⟩
set_option maxRecDepth 100000 in
theorem ep_c88 : ev_vr MM ev_w88 = true := ev_vr_mk (l := ep_l88) (by decide +kernel) ep_k88
def ep_l89 : List (Instr × Nat × Nat) := [(.getfield 24, 9, 1), (.getfield 11, 9, 0), (.putfield 24, 9, 1)]
set_option maxRecDepth 100000 in
theorem ep_k89 : ∀ q ∈ ep_l89, ∀ pc, ev_kb MM "LeftAnswers$Tape" pc q.1 q.2.1 q.2.2 = true := by
  unfold ep_l89
  exact List.forall_mem_cons.mpr ⟨lk281, List.forall_mem_cons.mpr ⟨lk292, List.forall_mem_cons.mpr ⟨lk293, fun _ h => absurd h List.not_mem_nil⟩⟩⟩
set_option maxRecDepth 100000 in
theorem ep_c89 : ev_vr MM ev_w89 = true := ev_vr_mk (l := ep_l89) (by decide +kernel) ep_k89
def ep_l90 : List (Instr × Nat × Nat) := [(.putfield 34, 9, 10), (.getfield 61, 9, 5), (.putfield 37, 9, 11)]
set_option maxRecDepth 100000 in
theorem ep_k90 : ∀ q ∈ ep_l90, ∀ pc, ev_kb MM "LeftAnswers$Tape" pc q.1 q.2.1 q.2.2 = true := by
  unfold ep_l90
  exact List.forall_mem_cons.mpr ⟨lk288, List.forall_mem_cons.mpr ⟨lk294, List.forall_mem_cons.mpr ⟨lk289, fun _ h => absurd h List.not_mem_nil⟩⟩⟩
set_option maxRecDepth 100000 in
theorem ep_c90 : ev_vr MM ev_w90 = true := ev_vr_mk (l := ep_l90) (by decide +kernel) ep_k90
def ep_l91 : List (Instr × Nat × Nat) := [(.invokespecial 93, 999, 0), (.newarray .int, 0, 0), (.putfield 7, 11, 1), (.putfield 98, 11, 14), (.putfield 101, 11, 15), (.putfield 104, 11, 16), (.putfield 107, 11, 17), (.putfield 110, 11, 18), (.newarray .long, 0, 0), (.putfield 113, 11, 19), (.putfield 117, 11, 20), (.putfield 120, 11, 21), (.newarray .boolean, 0, 0), (.putfield 123, 11, 22), (.putfield 127, 11, 23), (.putfield 130, 11, 25), (.putfield 133, 11, 26), (.putfield 136, 11, 27), (.putfield 139, 11, 30), (.putfield 142, 11, 31), (.putfield 145, 11, 33), (.putfield 148, 11, 34), (.putfield 151, 11, 35), (.putfield 154, 11, 36), (.putfield 157, 11, 40), (.putfield 160, 11, 43), (.putfield 163, 11, 44), (.putfield 166, 11, 47), (.getfield 98, 11, 14), (.invokevirtual 169, 151, 0)]
set_option maxRecDepth 100000 in
theorem ep_k91 : ∀ q ∈ ep_l91, ∀ pc, ev_kb MM "LeftAnswersModel" pc q.1 q.2.1 q.2.2 = true := by
  unfold ep_l91
  exact List.forall_mem_cons.mpr ⟨lk295, List.forall_mem_cons.mpr ⟨lk296, List.forall_mem_cons.mpr ⟨lk297, List.forall_mem_cons.mpr ⟨lk298, List.forall_mem_cons.mpr ⟨lk299, List.forall_mem_cons.mpr ⟨lk300, List.forall_mem_cons.mpr ⟨lk301, List.forall_mem_cons.mpr ⟨lk302, List.forall_mem_cons.mpr ⟨lk303, List.forall_mem_cons.mpr ⟨lk304, List.forall_mem_cons.mpr ⟨lk305, List.forall_mem_cons.mpr ⟨lk306, List.forall_mem_cons.mpr ⟨lk307, List.forall_mem_cons.mpr ⟨lk308, List.forall_mem_cons.mpr ⟨lk309, List.forall_mem_cons.mpr ⟨lk310, List.forall_mem_cons.mpr ⟨lk311, List.forall_mem_cons.mpr ⟨lk312, List.forall_mem_cons.mpr ⟨lk313, List.forall_mem_cons.mpr ⟨lk314, List.forall_mem_cons.mpr ⟨lk315, List.forall_mem_cons.mpr ⟨lk316, List.forall_mem_cons.mpr ⟨lk317, List.forall_mem_cons.mpr ⟨lk318, List.forall_mem_cons.mpr ⟨lk319, List.forall_mem_cons.mpr ⟨lk320, List.forall_mem_cons.mpr ⟨lk321, List.forall_mem_cons.mpr ⟨lk322, List.forall_mem_cons.mpr ⟨lk323, List.forall_mem_cons.mpr ⟨lk324, fun _ h => absurd h List.not_mem_nil⟩⟩⟩⟩⟩⟩⟩⟩⟩⟩⟩⟩⟩⟩⟩⟩⟩⟩⟩⟩⟩⟩⟩⟩⟩⟩⟩⟩⟩⟩
set_option maxRecDepth 100000 in
theorem ep_c91 : ev_vr MM ev_w91 = true := ev_vr_mk (l := ep_l91) (by decide +kernel) ep_k91
def ep_l92 : List (Instr × Nat × Nat) := [(.putfield 1, 11, 0), (.invokevirtual 240, 125, 1)]
set_option maxRecDepth 100000 in
theorem ep_k92 : ∀ q ∈ ep_l92, ∀ pc, ev_kb MM "LeftAnswersModel" pc q.1 q.2.1 q.2.2 = true := by
  unfold ep_l92
  exact List.forall_mem_cons.mpr ⟨lk325, List.forall_mem_cons.mpr ⟨lk326, fun _ h => absurd h List.not_mem_nil⟩⟩
set_option maxRecDepth 100000 in
theorem ep_c92 : ev_vr MM ev_w92 = true := ev_vr_mk (l := ep_l92) (by decide +kernel) ep_k92
def ep_l93 : List (Instr × Nat × Nat) := []
set_option maxRecDepth 100000 in
theorem ep_k93 : ∀ q ∈ ep_l93, ∀ pc, ev_kb MM "LeftAnswersModel" pc q.1 q.2.1 q.2.2 = true := by
  unfold ep_l93
  exact fun _ h => absurd h List.not_mem_nil
set_option maxRecDepth 100000 in
theorem ep_c93 : ev_vr MM ev_w93 = true := ev_vr_mk (l := ep_l93) (by decide +kernel) ep_k93
def ep_l94 : List (Instr × Nat × Nat) := [(.getfield 30, 11, 7), (.putfield 66, 11, 10), (.getfield 24, 11, 6), (.putfield 69, 11, 11)]
set_option maxRecDepth 100000 in
theorem ep_k94 : ∀ q ∈ ep_l94, ∀ pc, ev_kb MM "LeftAnswersModel" pc q.1 q.2.1 q.2.2 = true := by
  unfold ep_l94
  exact List.forall_mem_cons.mpr ⟨lk327, List.forall_mem_cons.mpr ⟨lk328, List.forall_mem_cons.mpr ⟨lk329, List.forall_mem_cons.mpr ⟨lk330, fun _ h => absurd h List.not_mem_nil⟩⟩⟩⟩
set_option maxRecDepth 100000 in
theorem ep_c94 : ev_vr MM ev_w94 = true := ev_vr_mk (l := ep_l94) (by decide +kernel) ep_k94
def ep_l95 : List (Instr × Nat × Nat) := [(.putfield 1, 11, 0), (.invokevirtual 240, 125, 1), (.invokevirtual 292, 93, 5)]
set_option maxRecDepth 100000 in
theorem ep_k95 : ∀ q ∈ ep_l95, ∀ pc, ev_kb MM "LeftAnswersModel" pc q.1 q.2.1 q.2.2 = true := by
  unfold ep_l95
  exact List.forall_mem_cons.mpr ⟨lk325, List.forall_mem_cons.mpr ⟨lk326, List.forall_mem_cons.mpr ⟨lk331, fun _ h => absurd h List.not_mem_nil⟩⟩⟩
set_option maxRecDepth 100000 in
theorem ep_c95 : ev_vr MM ev_w95 = true := ev_vr_mk (l := ep_l95) (by decide +kernel) ep_k95
def ep_l96 : List (Instr × Nat × Nat) := [(.putfield 1, 11, 0), (.invokevirtual 89, 154, 0), (.putfield 18, 11, 3), (.putfield 27, 11, 4), (.putfield 66, 11, 10), (.putfield 21, 11, 5), (.invokevirtual 82, 116, 0)]
set_option maxRecDepth 100000 in
theorem ep_k96 : ∀ q ∈ ep_l96, ∀ pc, ev_kb MM "LeftAnswersModel" pc q.1 q.2.1 q.2.2 = true := by
  unfold ep_l96
  exact List.forall_mem_cons.mpr ⟨lk325, List.forall_mem_cons.mpr ⟨lk332, List.forall_mem_cons.mpr ⟨lk333, List.forall_mem_cons.mpr ⟨lk334, List.forall_mem_cons.mpr ⟨lk328, List.forall_mem_cons.mpr ⟨lk335, List.forall_mem_cons.mpr ⟨lk336, fun _ h => absurd h List.not_mem_nil⟩⟩⟩⟩⟩⟩⟩
set_option maxRecDepth 100000 in
theorem ep_c96 : ev_vr MM ev_w96 = true := ev_vr_mk (l := ep_l96) (by decide +kernel) ep_k96
def ep_l97 : List (Instr × Nat × Nat) := [(.putfield 1, 11, 0), (.getfield 151, 11, 35), (.putfield 331, 11, 37), (.invokevirtual 334, 159, 2), (.getfield 98, 11, 14), (.putfield 344, 11, 38), (.putfield 347, 11, 39), (.getfield 331, 11, 37)]
set_option maxRecDepth 100000 in
theorem ep_k97 : ∀ q ∈ ep_l97, ∀ pc, ev_kb MM "LeftAnswersModel" pc q.1 q.2.1 q.2.2 = true := by
  unfold ep_l97
  exact List.forall_mem_cons.mpr ⟨lk325, List.forall_mem_cons.mpr ⟨lk337, List.forall_mem_cons.mpr ⟨lk338, List.forall_mem_cons.mpr ⟨lk339, List.forall_mem_cons.mpr ⟨lk323, List.forall_mem_cons.mpr ⟨lk340, List.forall_mem_cons.mpr ⟨lk341, List.forall_mem_cons.mpr ⟨lk342, fun _ h => absurd h List.not_mem_nil⟩⟩⟩⟩⟩⟩⟩⟩
set_option maxRecDepth 100000 in
theorem ep_c97 : ev_vr MM ev_w97 = true := ev_vr_mk (l := ep_l97) (by decide +kernel) ep_k97
def ep_l98 : List (Instr × Nat × Nat) := [(.putfield 1, 11, 0), (.getfield 347, 11, 39)]
set_option maxRecDepth 100000 in
theorem ep_k98 : ∀ q ∈ ep_l98, ∀ pc, ev_kb MM "LeftAnswersModel" pc q.1 q.2.1 q.2.2 = true := by
  unfold ep_l98
  exact List.forall_mem_cons.mpr ⟨lk325, List.forall_mem_cons.mpr ⟨lk343, fun _ h => absurd h List.not_mem_nil⟩⟩
set_option maxRecDepth 100000 in
theorem ep_c98 : ev_vr MM ev_w98 = true := ev_vr_mk (l := ep_l98) (by decide +kernel) ep_k98
def ep_l99 : List (Instr × Nat × Nat) := []
set_option maxRecDepth 100000 in
theorem ep_k99 : ∀ q ∈ ep_l99, ∀ pc, ev_kb MM "LeftAnswersModel" pc q.1 q.2.1 q.2.2 = true := by
  unfold ep_l99
  exact fun _ h => absurd h List.not_mem_nil
set_option maxRecDepth 100000 in
theorem ep_c99 : ev_vr MM ev_w99 = true := ev_vr_mk (l := ep_l99) (by decide +kernel) ep_k99
def ep_l100 : List (Instr × Nat × Nat) := [(.putfield 1, 11, 0), (.invokestatic 75, 123, 3), (.invokevirtual 225, 96, 1), (.putfield 398, 11, 45), (.getfield 30, 11, 7), (.invokevirtual 383, 130, 0), (.getfield 398, 11, 45), (.getfield 163, 11, 44), (.getfield 98, 11, 14), (.invokevirtual 259, 129, 0), (.putfield 410, 11, 46), (.invokevirtual 413, 152, 1)]
set_option maxRecDepth 100000 in
theorem ep_k100 : ∀ q ∈ ep_l100, ∀ pc, ev_kb MM "LeftAnswersModel" pc q.1 q.2.1 q.2.2 = true := by
  unfold ep_l100
  exact List.forall_mem_cons.mpr ⟨lk325, List.forall_mem_cons.mpr ⟨lk344, List.forall_mem_cons.mpr ⟨lk345, List.forall_mem_cons.mpr ⟨lk346, List.forall_mem_cons.mpr ⟨lk327, List.forall_mem_cons.mpr ⟨lk347, List.forall_mem_cons.mpr ⟨lk348, List.forall_mem_cons.mpr ⟨lk349, List.forall_mem_cons.mpr ⟨lk323, List.forall_mem_cons.mpr ⟨lk350, List.forall_mem_cons.mpr ⟨lk351, List.forall_mem_cons.mpr ⟨lk352, fun _ h => absurd h List.not_mem_nil⟩⟩⟩⟩⟩⟩⟩⟩⟩⟩⟩⟩
set_option maxRecDepth 100000 in
theorem ep_c100 : ev_vr MM ev_w100 = true := ev_vr_mk (l := ep_l100) (by decide +kernel) ep_k100
def ep_l101 : List (Instr × Nat × Nat) := [(.putfield 1, 11, 0), (.getfield 354, 11, 41), (.invokestatic 75, 123, 3)]
set_option maxRecDepth 100000 in
theorem ep_k101 : ∀ q ∈ ep_l101, ∀ pc, ev_kb MM "LeftAnswersModel" pc q.1 q.2.1 q.2.2 = true := by
  unfold ep_l101
  exact List.forall_mem_cons.mpr ⟨lk325, List.forall_mem_cons.mpr ⟨lk353, List.forall_mem_cons.mpr ⟨lk344, fun _ h => absurd h List.not_mem_nil⟩⟩⟩
set_option maxRecDepth 100000 in
theorem ep_c101 : ev_vr MM ev_w101 = true := ev_vr_mk (l := ep_l101) (by decide +kernel) ep_k101
def ep_l102 : List (Instr × Nat × Nat) := [(.getfield 7, 11, 1), (.getfield 11, 11, 2), (.putfield 11, 11, 2)]
set_option maxRecDepth 100000 in
theorem ep_k102 : ∀ q ∈ ep_l102, ∀ pc, ev_kb MM "LeftAnswersModel" pc q.1 q.2.1 q.2.2 = true := by
  unfold ep_l102
  exact List.forall_mem_cons.mpr ⟨lk354, List.forall_mem_cons.mpr ⟨lk355, List.forall_mem_cons.mpr ⟨lk356, fun _ h => absurd h List.not_mem_nil⟩⟩⟩
set_option maxRecDepth 100000 in
theorem ep_c102 : ev_vr MM ev_w102 = true := ev_vr_mk (l := ep_l102) (by decide +kernel) ep_k102
def ep_l103 : List (Instr × Nat × Nat) := [(.putfield 1, 11, 0), (.getfield 98, 11, 14), (.getfield 11, 11, 2)]
set_option maxRecDepth 100000 in
theorem ep_k103 : ∀ q ∈ ep_l103, ∀ pc, ev_kb MM "LeftAnswersModel" pc q.1 q.2.1 q.2.2 = true := by
  unfold ep_l103
  exact List.forall_mem_cons.mpr ⟨lk325, List.forall_mem_cons.mpr ⟨lk323, List.forall_mem_cons.mpr ⟨lk355, fun _ h => absurd h List.not_mem_nil⟩⟩⟩
set_option maxRecDepth 100000 in
theorem ep_c103 : ev_vr MM ev_w103 = true := ev_vr_mk (l := ep_l103) (by decide +kernel) ep_k103
def ep_l104 : List (Instr × Nat × Nat) := [(.putfield 1, 11, 0), (.invokestatic 75, 123, 3), (.getfield 98, 11, 14), (.invokevirtual 285, 150, 0), (.invokevirtual 299, 138, 1)]
set_option maxRecDepth 100000 in
theorem ep_k104 : ∀ q ∈ ep_l104, ∀ pc, ev_kb MM "LeftAnswersModel" pc q.1 q.2.1 q.2.2 = true := by
  unfold ep_l104
  exact List.forall_mem_cons.mpr ⟨lk325, List.forall_mem_cons.mpr ⟨lk344, List.forall_mem_cons.mpr ⟨lk323, List.forall_mem_cons.mpr ⟨lk357, List.forall_mem_cons.mpr ⟨lk358, fun _ h => absurd h List.not_mem_nil⟩⟩⟩⟩⟩
set_option maxRecDepth 100000 in
theorem ep_c104 : ev_vr MM ev_w104 = true := ev_vr_mk (l := ep_l104) (by decide +kernel) ep_k104
def ep_l105 : List (Instr × Nat × Nat) := [(.putfield 1, 11, 0), (.invokevirtual 256, 122, 1)]
set_option maxRecDepth 100000 in
theorem ep_k105 : ∀ q ∈ ep_l105, ∀ pc, ev_kb MM "LeftAnswersModel" pc q.1 q.2.1 q.2.2 = true := by
  unfold ep_l105
  exact List.forall_mem_cons.mpr ⟨lk325, List.forall_mem_cons.mpr ⟨lk359, fun _ h => absurd h List.not_mem_nil⟩⟩
set_option maxRecDepth 100000 in
theorem ep_c105 : ev_vr MM ev_w105 = true := ev_vr_mk (l := ep_l105) (by decide +kernel) ep_k105
def ep_l106 : List (Instr × Nat × Nat) := [(.putfield 1, 11, 0), (.invokevirtual 240, 125, 1), (.invokevirtual 292, 93, 5)]
set_option maxRecDepth 100000 in
theorem ep_k106 : ∀ q ∈ ep_l106, ∀ pc, ev_kb MM "LeftAnswersModel" pc q.1 q.2.1 q.2.2 = true := by
  unfold ep_l106
  exact List.forall_mem_cons.mpr ⟨lk325, List.forall_mem_cons.mpr ⟨lk326, List.forall_mem_cons.mpr ⟨lk331, fun _ h => absurd h List.not_mem_nil⟩⟩⟩
set_option maxRecDepth 100000 in
theorem ep_c106 : ev_vr MM ev_w106 = true := ev_vr_mk (l := ep_l106) (by decide +kernel) ep_k106
def ep_l107 : List (Instr × Nat × Nat) := [(.putfield 1, 11, 0), (.invokestatic 75, 123, 3), (.getfield 98, 11, 14)]
set_option maxRecDepth 100000 in
theorem ep_k107 : ∀ q ∈ ep_l107, ∀ pc, ev_kb MM "LeftAnswersModel" pc q.1 q.2.1 q.2.2 = true := by
  unfold ep_l107
  exact List.forall_mem_cons.mpr ⟨lk325, List.forall_mem_cons.mpr ⟨lk344, List.forall_mem_cons.mpr ⟨lk323, fun _ h => absurd h List.not_mem_nil⟩⟩⟩
set_option maxRecDepth 100000 in
theorem ep_c107 : ev_vr MM ev_w107 = true := ev_vr_mk (l := ep_l107) (by decide +kernel) ep_k107
def ep_l108 : List (Instr × Nat × Nat) := [(.invokevirtual 225, 96, 1), (.getfield 101, 11, 15), (.getfield 127, 11, 23), (.getfield 30, 11, 7), (.getfield 98, 11, 14), (.getfield 113, 11, 19), (.getfield 117, 11, 20), (.invokevirtual 169, 151, 0), (.putfield 234, 11, 24)]
set_option maxRecDepth 100000 in
theorem ep_k108 : ∀ q ∈ ep_l108, ∀ pc, ev_kb MM "LeftAnswersModel" pc q.1 q.2.1 q.2.2 = true := by
  unfold ep_l108
  exact List.forall_mem_cons.mpr ⟨lk345, List.forall_mem_cons.mpr ⟨lk360, List.forall_mem_cons.mpr ⟨lk361, List.forall_mem_cons.mpr ⟨lk327, List.forall_mem_cons.mpr ⟨lk323, List.forall_mem_cons.mpr ⟨lk362, List.forall_mem_cons.mpr ⟨lk363, List.forall_mem_cons.mpr ⟨lk324, List.forall_mem_cons.mpr ⟨lk364, fun _ h => absurd h List.not_mem_nil⟩⟩⟩⟩⟩⟩⟩⟩⟩
set_option maxRecDepth 100000 in
theorem ep_c108 : ev_vr MM ev_w108 = true := ev_vr_mk (l := ep_l108) (by decide +kernel) ep_k108
def ep_l109 : List (Instr × Nat × Nat) := [(.putfield 1, 11, 0), (.invokevirtual 240, 125, 1)]
set_option maxRecDepth 100000 in
theorem ep_k109 : ∀ q ∈ ep_l109, ∀ pc, ev_kb MM "LeftAnswersModel" pc q.1 q.2.1 q.2.2 = true := by
  unfold ep_l109
  exact List.forall_mem_cons.mpr ⟨lk325, List.forall_mem_cons.mpr ⟨lk326, fun _ h => absurd h List.not_mem_nil⟩⟩
set_option maxRecDepth 100000 in
theorem ep_c109 : ev_vr MM ev_w109 = true := ev_vr_mk (l := ep_l109) (by decide +kernel) ep_k109
def ep_l110 : List (Instr × Nat × Nat) := [(.putfield 1, 11, 0), (.getfield 11, 11, 2), (.putfield 11, 11, 2)]
set_option maxRecDepth 100000 in
theorem ep_k110 : ∀ q ∈ ep_l110, ∀ pc, ev_kb MM "LeftAnswersModel" pc q.1 q.2.1 q.2.2 = true := by
  unfold ep_l110
  exact List.forall_mem_cons.mpr ⟨lk325, List.forall_mem_cons.mpr ⟨lk355, List.forall_mem_cons.mpr ⟨lk356, fun _ h => absurd h List.not_mem_nil⟩⟩⟩
set_option maxRecDepth 100000 in
theorem ep_c110 : ev_vr MM ev_w110 = true := ev_vr_mk (l := ep_l110) (by decide +kernel) ep_k110
def ep_l111 : List (Instr × Nat × Nat) := [(.putfield 1, 11, 0), (.getfield 66, 11, 10)]
set_option maxRecDepth 100000 in
theorem ep_k111 : ∀ q ∈ ep_l111, ∀ pc, ev_kb MM "LeftAnswersModel" pc q.1 q.2.1 q.2.2 = true := by
  unfold ep_l111
  exact List.forall_mem_cons.mpr ⟨lk325, List.forall_mem_cons.mpr ⟨lk365, fun _ h => absurd h List.not_mem_nil⟩⟩
set_option maxRecDepth 100000 in
theorem ep_c111 : ev_vr MM ev_w111 = true := ev_vr_mk (l := ep_l111) (by decide +kernel) ep_k111
def ep_l112 : List (Instr × Nat × Nat) := [(.putfield 1, 11, 0), (.getfield 11, 11, 2), (.invokevirtual 14, 102, 1)]
set_option maxRecDepth 100000 in
theorem ep_k112 : ∀ q ∈ ep_l112, ∀ pc, ev_kb MM "LeftAnswersModel" pc q.1 q.2.1 q.2.2 = true := by
  unfold ep_l112
  exact List.forall_mem_cons.mpr ⟨lk325, List.forall_mem_cons.mpr ⟨lk355, List.forall_mem_cons.mpr ⟨lk366, fun _ h => absurd h List.not_mem_nil⟩⟩⟩
set_option maxRecDepth 100000 in
theorem ep_c112 : ev_vr MM ev_w112 = true := ev_vr_mk (l := ep_l112) (by decide +kernel) ep_k112
def ep_l113 : List (Instr × Nat × Nat) := [(.putfield 1, 11, 0), (.getfield 322, 11, 32), (.invokestatic 75, 123, 3)]
set_option maxRecDepth 100000 in
theorem ep_k113 : ∀ q ∈ ep_l113, ∀ pc, ev_kb MM "LeftAnswersModel" pc q.1 q.2.1 q.2.2 = true := by
  unfold ep_l113
  exact List.forall_mem_cons.mpr ⟨lk325, List.forall_mem_cons.mpr ⟨lk367, List.forall_mem_cons.mpr ⟨lk344, fun _ h => absurd h List.not_mem_nil⟩⟩⟩
set_option maxRecDepth 100000 in
theorem ep_c113 : ev_vr MM ev_w113 = true := ev_vr_mk (l := ep_l113) (by decide +kernel) ep_k113
def ep_l114 : List (Instr × Nat × Nat) := [(.putfield 1, 11, 0), (.invokevirtual 89, 154, 0), (.invokestatic 75, 123, 3)]
set_option maxRecDepth 100000 in
theorem ep_k114 : ∀ q ∈ ep_l114, ∀ pc, ev_kb MM "LeftAnswersModel" pc q.1 q.2.1 q.2.2 = true := by
  unfold ep_l114
  exact List.forall_mem_cons.mpr ⟨lk325, List.forall_mem_cons.mpr ⟨lk332, List.forall_mem_cons.mpr ⟨lk344, fun _ h => absurd h List.not_mem_nil⟩⟩⟩
set_option maxRecDepth 100000 in
theorem ep_c114 : ev_vr MM ev_w114 = true := ev_vr_mk (l := ep_l114) (by decide +kernel) ep_k114
def ep_l115 : List (Instr × Nat × Nat) := [(.putfield 1, 11, 0), (.invokevirtual 240, 125, 1), (.invokevirtual 292, 93, 5)]
set_option maxRecDepth 100000 in
theorem ep_k115 : ∀ q ∈ ep_l115, ∀ pc, ev_kb MM "LeftAnswersModel" pc q.1 q.2.1 q.2.2 = true := by
  unfold ep_l115
  exact List.forall_mem_cons.mpr ⟨lk325, List.forall_mem_cons.mpr ⟨lk326, List.forall_mem_cons.mpr ⟨lk331, fun _ h => absurd h List.not_mem_nil⟩⟩⟩
set_option maxRecDepth 100000 in
theorem ep_c115 : ev_vr MM ev_w115 = true := ev_vr_mk (l := ep_l115) (by decide +kernel) ep_k115
def ep_l116 : List (Instr × Nat × Nat) := [(.getfield 21, 11, 5), (.getfield 18, 11, 3), (.putfield 24, 11, 6), (.getfield 27, 11, 4), (.putfield 30, 11, 7)]
set_option maxRecDepth 100000 in
theorem ep_k116 : ∀ q ∈ ep_l116, ∀ pc, ev_kb MM "LeftAnswersModel" pc q.1 q.2.1 q.2.2 = true := by
  unfold ep_l116
  exact List.forall_mem_cons.mpr ⟨lk368, List.forall_mem_cons.mpr ⟨lk369, List.forall_mem_cons.mpr ⟨lk370, List.forall_mem_cons.mpr ⟨lk371, List.forall_mem_cons.mpr ⟨lk372, fun _ h => absurd h List.not_mem_nil⟩⟩⟩⟩⟩
set_option maxRecDepth 100000 in
theorem ep_c116 : ev_vr MM ev_w116 = true := ev_vr_mk (l := ep_l116) (by decide +kernel) ep_k116
def ep_l117 : List (Instr × Nat × Nat) := [(.putfield 1, 11, 0), (.getfield 148, 11, 34)]
set_option maxRecDepth 100000 in
theorem ep_k117 : ∀ q ∈ ep_l117, ∀ pc, ev_kb MM "LeftAnswersModel" pc q.1 q.2.1 q.2.2 = true := by
  unfold ep_l117
  exact List.forall_mem_cons.mpr ⟨lk325, List.forall_mem_cons.mpr ⟨lk373, fun _ h => absurd h List.not_mem_nil⟩⟩
set_option maxRecDepth 100000 in
theorem ep_c117 : ev_vr MM ev_w117 = true := ev_vr_mk (l := ep_l117) (by decide +kernel) ep_k117
def ep_l118 : List (Instr × Nat × Nat) := [(.putfield 1, 11, 0), (.getfield 98, 11, 14), (.invokestatic 207, 119, 2), (.invokestatic 328, 99, 1), (.putfield 148, 11, 34)]
set_option maxRecDepth 100000 in
theorem ep_k118 : ∀ q ∈ ep_l118, ∀ pc, ev_kb MM "LeftAnswersModel" pc q.1 q.2.1 q.2.2 = true := by
  unfold ep_l118
  exact List.forall_mem_cons.mpr ⟨lk325, List.forall_mem_cons.mpr ⟨lk323, List.forall_mem_cons.mpr ⟨lk374, List.forall_mem_cons.mpr ⟨lk375, List.forall_mem_cons.mpr ⟨lk316, fun _ h => absurd h List.not_mem_nil⟩⟩⟩⟩⟩
set_option maxRecDepth 100000 in
theorem ep_c118 : ev_vr MM ev_w118 = true := ev_vr_mk (l := ep_l118) (by decide +kernel) ep_k118
def ep_l119 : List (Instr × Nat × Nat) := []
set_option maxRecDepth 100000 in
theorem ep_k119 : ∀ q ∈ ep_l119, ∀ pc, ev_kb MM "LeftAnswersModel" pc q.1 q.2.1 q.2.2 = true := by
  unfold ep_l119
  exact fun _ h => absurd h List.not_mem_nil
set_option maxRecDepth 100000 in
theorem ep_c119 : ev_vr MM ev_w119 = true := ev_vr_mk (l := ep_l119) (by decide +kernel) ep_k119
