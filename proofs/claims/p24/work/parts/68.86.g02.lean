def ep_l80 : List (Instr × Nat × Nat) := [(.invokevirtual 122, 155, 0), (.invokevirtual 149, 73, 1), (.invokevirtual 114, 165, 1)]
set_option maxRecDepth 100000 in
theorem ep_k80 : ∀ q ∈ ep_l80, ∀ pc, ev_kb MM "LeftAnswers$Duchy" pc q.1 q.2.1 q.2.2 = true := by
  unfold ep_l80
  exact List.forall_mem_cons.mpr ⟨lk237, List.forall_mem_cons.mpr ⟨lk257, List.forall_mem_cons.mpr ⟨lk234, fun _ h => absurd h List.not_mem_nil⟩⟩⟩
set_option maxRecDepth 100000 in
theorem ep_c80 : ev_vr MM ev_w80 = true := ev_vr_mk (l := ep_l80) (by decide +kernel) ep_k80
def ep_l81 : List (Instr × Nat × Nat) := [(.getfield 15, 1, 8), (.getfield 19, 1, 9)]
set_option maxRecDepth 100000 in
theorem ep_k81 : ∀ q ∈ ep_l81, ∀ pc, ev_kb MM "LeftAnswers$Duchy" pc q.1 q.2.1 q.2.2 = true := by
  unfold ep_l81
  exact List.forall_mem_cons.mpr ⟨lk220, List.forall_mem_cons.mpr ⟨lk221, fun _ h => absurd h List.not_mem_nil⟩⟩
set_option maxRecDepth 100000 in
theorem ep_c81 : ev_vr MM ev_w81 = true := ev_vr_mk (l := ep_l81) (by decide +kernel) ep_k81
def ep_l82 : List (Instr × Nat × Nat) := [(.getfield 43, 1, 0), (.getfield 22, 1, 14)]
set_option maxRecDepth 100000 in
theorem ep_k82 : ∀ q ∈ ep_l82, ∀ pc, ev_kb MM "LeftAnswers$Duchy" pc q.1 q.2.1 q.2.2 = true := by
  unfold ep_l82
  exact List.forall_mem_cons.mpr ⟨lk198, List.forall_mem_cons.mpr ⟨lk211, fun _ h => absurd h List.not_mem_nil⟩⟩
set_option maxRecDepth 100000 in
theorem ep_c82 : ev_vr MM ev_w82 = true := ev_vr_mk (l := ep_l82) (by decide +kernel) ep_k82
def ep_l83 : List (Instr × Nat × Nat) := [(.invokevirtual 197, 82, 1)]
set_option maxRecDepth 100000 in
theorem ep_k83 : ∀ q ∈ ep_l83, ∀ pc, ev_kb MM "LeftAnswers$Duchy" pc q.1 q.2.1 q.2.2 = true := by
  unfold ep_l83
  exact List.forall_mem_cons.mpr ⟨lk228, fun _ h => absurd h List.not_mem_nil⟩
set_option maxRecDepth 100000 in
theorem ep_c83 : ev_vr MM ev_w83 = true := ev_vr_mk (l := ep_l83) (by decide +kernel) ep_k83
def ep_l84 : List (Instr × Nat × Nat) := [(.invokespecial 1, 999, 0), (.new 7, 1, 0), (.invokespecial 9, 56, 0), (.putfield 10, 2, 1), (.new 16, 3, 0), (.invokespecial 18, 87, 0), (.putfield 19, 2, 2), (.new 23, 7, 0), (.invokespecial 25, 132, 0), (.putfield 26, 2, 3)]
set_option maxRecDepth 100000 in
theorem ep_k84 : ∀ q ∈ ep_l84, ∀ pc, ev_kb MM "LeftAnswers$Image" pc q.1 q.2.1 q.2.2 = true := by
  unfold ep_l84
  exact List.forall_mem_cons.mpr ⟨lk258, List.forall_mem_cons.mpr ⟨lk259, List.forall_mem_cons.mpr ⟨lk260, List.forall_mem_cons.mpr ⟨lk261, List.forall_mem_cons.mpr ⟨lk262, List.forall_mem_cons.mpr ⟨lk263, List.forall_mem_cons.mpr ⟨lk264, List.forall_mem_cons.mpr ⟨lk265, List.forall_mem_cons.mpr ⟨lk266, List.forall_mem_cons.mpr ⟨lk267, fun _ h => absurd h List.not_mem_nil⟩⟩⟩⟩⟩⟩⟩⟩⟩⟩
set_option maxRecDepth 100000 in
theorem ep_c84 : ev_vr MM ev_w84 = true := ev_vr_mk (l := ep_l84) (by decide +kernel) ep_k84
def ep_l85 : List (Instr × Nat × Nat) := [(.getfield 10, 2, 1), (.invokevirtual 30, 62, 1), (.getfield 19, 2, 2), (.invokevirtual 34, 94, 1), (.getfield 26, 2, 3), (.invokevirtual 37, 137, 1)]
set_option maxRecDepth 100000 in
theorem ep_k85 : ∀ q ∈ ep_l85, ∀ pc, ev_kb MM "LeftAnswers$Image" pc q.1 q.2.1 q.2.2 = true := by
  unfold ep_l85
  exact List.forall_mem_cons.mpr ⟨lk268, List.forall_mem_cons.mpr ⟨lk269, List.forall_mem_cons.mpr ⟨lk270, List.forall_mem_cons.mpr ⟨lk271, List.forall_mem_cons.mpr ⟨lk272, List.forall_mem_cons.mpr ⟨lk273, fun _ h => absurd h List.not_mem_nil⟩⟩⟩⟩⟩⟩
set_option maxRecDepth 100000 in
theorem ep_c85 : ev_vr MM ev_w85 = true := ev_vr_mk (l := ep_l85) (by decide +kernel) ep_k85
def ep_l86 : List (Instr × Nat × Nat) := [(.getfield 10, 2, 1), (.invokevirtual 30, 62, 1), (.getfield 19, 2, 2), (.invokevirtual 34, 94, 1), (.getfield 26, 2, 3), (.invokevirtual 37, 137, 1), (.putfield 40, 2, 0)]
set_option maxRecDepth 100000 in
theorem ep_k86 : ∀ q ∈ ep_l86, ∀ pc, ev_kb MM "LeftAnswers$Image" pc q.1 q.2.1 q.2.2 = true := by
  unfold ep_l86
  exact List.forall_mem_cons.mpr ⟨lk268, List.forall_mem_cons.mpr ⟨lk269, List.forall_mem_cons.mpr ⟨lk270, List.forall_mem_cons.mpr ⟨lk271, List.forall_mem_cons.mpr ⟨lk272, List.forall_mem_cons.mpr ⟨lk273, List.forall_mem_cons.mpr ⟨lk274, fun _ h => absurd h List.not_mem_nil⟩⟩⟩⟩⟩⟩⟩
set_option maxRecDepth 100000 in
theorem ep_c86 : ev_vr MM ev_w86 = true := ev_vr_mk (l := ep_l86) (by decide +kernel) ep_k86
def ep_l87 : List (Instr × Nat × Nat) := [(.invokespecial 3, 999, 0), (.newarray .int, 0, 0), (.putfield 9, 3, 5), (.putfield 15, 3, 6), (.putfield 18, 3, 7), (.putfield 21, 3, 8), (.putfield 24, 3, 9), (.putfield 27, 3, 10), (.putfield 30, 3, 11), (.invokevirtual 33, 91, 1)]
set_option maxRecDepth 100000 in
theorem ep_k87 : ∀ q ∈ ep_l87, ∀ pc, ev_kb MM "LeftAnswers$Life" pc q.1 q.2.1 q.2.2 = true := by
  unfold ep_l87
  exact List.forall_mem_cons.mpr ⟨lk275, List.forall_mem_cons.mpr ⟨lk276, List.forall_mem_cons.mpr ⟨lk277, List.forall_mem_cons.mpr ⟨lk278, List.forall_mem_cons.mpr ⟨lk279, List.forall_mem_cons.mpr ⟨lk280, List.forall_mem_cons.mpr ⟨lk281, List.forall_mem_cons.mpr ⟨lk282, List.forall_mem_cons.mpr ⟨lk283, List.forall_mem_cons.mpr ⟨lk284, fun _ h => absurd h List.not_mem_nil⟩⟩⟩⟩⟩⟩⟩⟩⟩⟩
set_option maxRecDepth 100000 in
theorem ep_c87 : ev_vr MM ev_w87 = true := ev_vr_mk (l := ep_l87) (by decide +kernel) ep_k87
def ep_l88 : List (Instr × Nat × Nat) := [(.invokevirtual 75, 117, 4)]
set_option maxRecDepth 100000 in
theorem ep_k88 : ∀ q ∈ ep_l88, ∀ pc, ev_kb MM "LeftAnswers$Life" pc q.1 q.2.1 q.2.2 = true := by
  unfold ep_l88
  exact List.forall_mem_cons.mpr ⟨lk285, fun _ h => absurd h List.not_mem_nil⟩
set_option maxRecDepth 100000 in
theorem ep_c88 : ev_vr MM ev_w88 = true := ev_vr_mk (l := ep_l88) (by decide +kernel) ep_k88
def ep_l89 : List (Instr × Nat × Nat) := [(.getfield 15, 3, 6), (.getfield 135, 1, 2), (.getfield 18, 3, 7), (.getfield 138, 1, 3), (.getfield 41, 3, 1), (.putfield 41, 3, 1)]
set_option maxRecDepth 100000 in
theorem ep_k89 : ∀ q ∈ ep_l89, ∀ pc, ev_kb MM "LeftAnswers$Life" pc q.1 q.2.1 q.2.2 = true := by
  unfold ep_l89
  exact List.forall_mem_cons.mpr ⟨lk286, List.forall_mem_cons.mpr ⟨lk287, List.forall_mem_cons.mpr ⟨lk288, List.forall_mem_cons.mpr ⟨lk289, List.forall_mem_cons.mpr ⟨lk290, List.forall_mem_cons.mpr ⟨lk291, fun _ h => absurd h List.not_mem_nil⟩⟩⟩⟩⟩⟩
set_option maxRecDepth 100000 in
theorem ep_c89 : ev_vr MM ev_w89 = true := ev_vr_mk (l := ep_l89) (by decide +kernel) ep_k89
def ep_l90 : List (Instr × Nat × Nat) := [(.getfield 9, 3, 5)]
set_option maxRecDepth 100000 in
theorem ep_k90 : ∀ q ∈ ep_l90, ∀ pc, ev_kb MM "LeftAnswers$Life" pc q.1 q.2.1 q.2.2 = true := by
  unfold ep_l90
  exact List.forall_mem_cons.mpr ⟨lk292, fun _ h => absurd h List.not_mem_nil⟩
set_option maxRecDepth 100000 in
theorem ep_c90 : ev_vr MM ev_w90 = true := ev_vr_mk (l := ep_l90) (by decide +kernel) ep_k90
def ep_l91 : List (Instr × Nat × Nat) := [(.putfield 37, 3, 0), (.putfield 41, 3, 1), (.putfield 44, 3, 2), (.putfield 47, 3, 3), (.getfield 9, 3, 5), (.getfield 15, 3, 6), (.getfield 18, 3, 7), (.getfield 21, 3, 8), (.getfield 24, 3, 9), (.getfield 27, 3, 10), (.getfield 30, 3, 11)]
set_option maxRecDepth 100000 in
theorem ep_k91 : ∀ q ∈ ep_l91, ∀ pc, ev_kb MM "LeftAnswers$Life" pc q.1 q.2.1 q.2.2 = true := by
  unfold ep_l91
  exact List.forall_mem_cons.mpr ⟨lk293, List.forall_mem_cons.mpr ⟨lk291, List.forall_mem_cons.mpr ⟨lk294, List.forall_mem_cons.mpr ⟨lk295, List.forall_mem_cons.mpr ⟨lk292, List.forall_mem_cons.mpr ⟨lk286, List.forall_mem_cons.mpr ⟨lk288, List.forall_mem_cons.mpr ⟨lk296, List.forall_mem_cons.mpr ⟨lk297, List.forall_mem_cons.mpr ⟨lk298, List.forall_mem_cons.mpr ⟨lk299, fun _ h => absurd h List.not_mem_nil⟩⟩⟩⟩⟩⟩⟩⟩⟩⟩⟩
set_option maxRecDepth 100000 in
theorem ep_c91 : ev_vr MM ev_w91 = true := ev_vr_mk (l := ep_l91) (by decide +kernel) ep_k91
def ep_l92 : List (Instr × Nat × Nat) := [(.invokevirtual 159, 113, 1), (.getfield 72, 1, 0), (.invokestatic 163, 101, 4), (.invokevirtual 75, 117, 4)]
set_option maxRecDepth 100000 in
theorem ep_k92 : ∀ q ∈ ep_l92, ∀ pc, ev_kb MM "LeftAnswers$Life" pc q.1 q.2.1 q.2.2 = true := by
  unfold ep_l92
  exact List.forall_mem_cons.mpr ⟨lk300, List.forall_mem_cons.mpr ⟨lk301, List.forall_mem_cons.mpr ⟨lk302, List.forall_mem_cons.mpr ⟨lk285, fun _ h => absurd h List.not_mem_nil⟩⟩⟩⟩
set_option maxRecDepth 100000 in
theorem ep_c92 : ev_vr MM ev_w92 = true := ev_vr_mk (l := ep_l92) (by decide +kernel) ep_k92
def ep_l93 : List (Instr × Nat × Nat) := [(.getfield 27, 3, 10)]
set_option maxRecDepth 100000 in
theorem ep_k93 : ∀ q ∈ ep_l93, ∀ pc, ev_kb MM "LeftAnswers$Life" pc q.1 q.2.1 q.2.2 = true := by
  unfold ep_l93
  exact List.forall_mem_cons.mpr ⟨lk298, fun _ h => absurd h List.not_mem_nil⟩
set_option maxRecDepth 100000 in
theorem ep_c93 : ev_vr MM ev_w93 = true := ev_vr_mk (l := ep_l93) (by decide +kernel) ep_k93
def ep_l94 : List (Instr × Nat × Nat) := [(.getfield 37, 3, 0), (.putfield 37, 3, 0), (.getfield 41, 3, 1), (.putfield 41, 3, 1), (.getfield 44, 3, 2), (.putfield 44, 3, 2), (.getfield 47, 3, 3), (.putfield 47, 3, 3), (.getfield 9, 3, 5), (.invokestatic 50, 904, 5), (.getfield 15, 3, 6), (.getfield 18, 3, 7), (.getfield 21, 3, 8), (.getfield 24, 3, 9), (.getfield 27, 3, 10), (.getfield 30, 3, 11)]
set_option maxRecDepth 100000 in
theorem ep_k94 : ∀ q ∈ ep_l94, ∀ pc, ev_kb MM "LeftAnswers$Life" pc q.1 q.2.1 q.2.2 = true := by
  unfold ep_l94
  exact List.forall_mem_cons.mpr ⟨lk303, List.forall_mem_cons.mpr ⟨lk293, List.forall_mem_cons.mpr ⟨lk290, List.forall_mem_cons.mpr ⟨lk291, List.forall_mem_cons.mpr ⟨lk304, List.forall_mem_cons.mpr ⟨lk294, List.forall_mem_cons.mpr ⟨lk305, List.forall_mem_cons.mpr ⟨lk295, List.forall_mem_cons.mpr ⟨lk292, List.forall_mem_cons.mpr ⟨lk306, List.forall_mem_cons.mpr ⟨lk286, List.forall_mem_cons.mpr ⟨lk288, List.forall_mem_cons.mpr ⟨lk296, List.forall_mem_cons.mpr ⟨lk297, List.forall_mem_cons.mpr ⟨lk298, List.forall_mem_cons.mpr ⟨lk299, fun _ h => absurd h List.not_mem_nil⟩⟩⟩⟩⟩⟩⟩⟩⟩⟩⟩⟩⟩⟩⟩⟩
set_option maxRecDepth 100000 in
theorem ep_c94 : ev_vr MM ev_w94 = true := ev_vr_mk (l := ep_l94) (by decide +kernel) ep_k94
def ep_l95 : List (Instr × Nat × Nat) := [(.getfield 37, 3, 0)]
set_option maxRecDepth 100000 in
theorem ep_k95 : ∀ q ∈ ep_l95, ∀ pc, ev_kb MM "LeftAnswers$Life" pc q.1 q.2.1 q.2.2 = true := by
  unfold ep_l95
  exact List.forall_mem_cons.mpr ⟨lk303, fun _ h => absurd h List.not_mem_nil⟩
set_option maxRecDepth 100000 in
theorem ep_c95 : ev_vr MM ev_w95 = true := ev_vr_mk (l := ep_l95) (by decide +kernel) ep_k95
def ep_l96 : List (Instr × Nat × Nat) := [(.getfield 9, 3, 5), (.getfield 118, 1, 12), (.invokestatic 121, 901, 2), (.getfield 27, 3, 10), (.invokestatic 104, 100, 1), (.getfield 44, 3, 2), (.putfield 44, 3, 2), (.getfield 30, 3, 11), (.getfield 21, 3, 8), (.invokevirtual 126, 104, 2), (.getfield 130, 1, 13), (.invokevirtual 131, 89, 3)]
set_option maxRecDepth 100000 in
theorem ep_k96 : ∀ q ∈ ep_l96, ∀ pc, ev_kb MM "LeftAnswers$Life" pc q.1 q.2.1 q.2.2 = true := by
  unfold ep_l96
  exact List.forall_mem_cons.mpr ⟨lk292, List.forall_mem_cons.mpr ⟨lk307, List.forall_mem_cons.mpr ⟨lk308, List.forall_mem_cons.mpr ⟨lk298, List.forall_mem_cons.mpr ⟨lk309, List.forall_mem_cons.mpr ⟨lk304, List.forall_mem_cons.mpr ⟨lk294, List.forall_mem_cons.mpr ⟨lk299, List.forall_mem_cons.mpr ⟨lk296, List.forall_mem_cons.mpr ⟨lk310, List.forall_mem_cons.mpr ⟨lk311, List.forall_mem_cons.mpr ⟨lk312, fun _ h => absurd h List.not_mem_nil⟩⟩⟩⟩⟩⟩⟩⟩⟩⟩⟩⟩
set_option maxRecDepth 100000 in
theorem ep_c96 : ev_vr MM ev_w96 = true := ev_vr_mk (l := ep_l96) (by decide +kernel) ep_k96
def ep_l97 : List (Instr × Nat × Nat) := [(.getfield 146, 3, 4), (.ldc 158, 1103515245, 0), (.putfield 146, 3, 4)]
set_option maxRecDepth 100000 in
theorem ep_k97 : ∀ q ∈ ep_l97, ∀ pc, ev_kb MM "LeftAnswers$Life" pc q.1 q.2.1 q.2.2 = true := by
  unfold ep_l97
  exact List.forall_mem_cons.mpr ⟨lk313, List.forall_mem_cons.mpr ⟨lk314, List.forall_mem_cons.mpr ⟨lk315, fun _ h => absurd h List.not_mem_nil⟩⟩⟩
set_option maxRecDepth 100000 in
theorem ep_c97 : ev_vr MM ev_w97 = true := ev_vr_mk (l := ep_l97) (by decide +kernel) ep_k97
def ep_l98 : List (Instr × Nat × Nat) := [(.getfield 152, 1, 1), (.invokevirtual 155, 97, 1), (.invokevirtual 75, 117, 4), (.invokevirtual 89, 96, 4), (.getfield 72, 1, 0), (.invokevirtual 79, 118, 2), (.invokevirtual 93, 115, 2), (.invokevirtual 97, 109, 1)]
set_option maxRecDepth 100000 in
theorem ep_k98 : ∀ q ∈ ep_l98, ∀ pc, ev_kb MM "LeftAnswers$Life" pc q.1 q.2.1 q.2.2 = true := by
  unfold ep_l98
  exact List.forall_mem_cons.mpr ⟨lk316, List.forall_mem_cons.mpr ⟨lk317, List.forall_mem_cons.mpr ⟨lk285, List.forall_mem_cons.mpr ⟨lk318, List.forall_mem_cons.mpr ⟨lk301, List.forall_mem_cons.mpr ⟨lk319, List.forall_mem_cons.mpr ⟨lk320, List.forall_mem_cons.mpr ⟨lk321, fun _ h => absurd h List.not_mem_nil⟩⟩⟩⟩⟩⟩⟩⟩
set_option maxRecDepth 100000 in
theorem ep_c98 : ev_vr MM ev_w98 = true := ev_vr_mk (l := ep_l98) (by decide +kernel) ep_k98
def ep_l99 : List (Instr × Nat × Nat) := [(.putfield 146, 3, 4), (.getfield 37, 3, 0), (.getfield 72, 1, 0), (.invokevirtual 149, 98, 2), (.invokevirtual 140, 110, 1)]
set_option maxRecDepth 100000 in
theorem ep_k99 : ∀ q ∈ ep_l99, ∀ pc, ev_kb MM "LeftAnswers$Life" pc q.1 q.2.1 q.2.2 = true := by
  unfold ep_l99
  exact List.forall_mem_cons.mpr ⟨lk315, List.forall_mem_cons.mpr ⟨lk303, List.forall_mem_cons.mpr ⟨lk301, List.forall_mem_cons.mpr ⟨lk322, List.forall_mem_cons.mpr ⟨lk323, fun _ h => absurd h List.not_mem_nil⟩⟩⟩⟩⟩
set_option maxRecDepth 100000 in
theorem ep_c99 : ev_vr MM ev_w99 = true := ev_vr_mk (l := ep_l99) (by decide +kernel) ep_k99
def ep_l100 : List (Instr × Nat × Nat) := []
set_option maxRecDepth 100000 in
theorem ep_k100 : ∀ q ∈ ep_l100, ∀ pc, ev_kb MM "LeftAnswers$Life" pc q.1 q.2.1 q.2.2 = true := by
  unfold ep_l100
  exact fun _ h => absurd h List.not_mem_nil
set_option maxRecDepth 100000 in
theorem ep_c100 : ev_vr MM ev_w100 = true := ev_vr_mk (l := ep_l100) (by decide +kernel) ep_k100
def ep_l101 : List (Instr × Nat × Nat) := [(.getfield 130, 1, 13)]
set_option maxRecDepth 100000 in
theorem ep_k101 : ∀ q ∈ ep_l101, ∀ pc, ev_kb MM "LeftAnswers$Life" pc q.1 q.2.1 q.2.2 = true := by
  unfold ep_l101
  exact List.forall_mem_cons.mpr ⟨lk311, fun _ h => absurd h List.not_mem_nil⟩
set_option maxRecDepth 100000 in
theorem ep_c101 : ev_vr MM ev_w101 = true := ev_vr_mk (l := ep_l101) (by decide +kernel) ep_k101
def ep_l102 : List (Instr × Nat × Nat) := [(.getfield 47, 3, 3)]
set_option maxRecDepth 100000 in
theorem ep_k102 : ∀ q ∈ ep_l102, ∀ pc, ev_kb MM "LeftAnswers$Life" pc q.1 q.2.1 q.2.2 = true := by
  unfold ep_l102
  exact List.forall_mem_cons.mpr ⟨lk305, fun _ h => absurd h List.not_mem_nil⟩
set_option maxRecDepth 100000 in
theorem ep_c102 : ev_vr MM ev_w102 = true := ev_vr_mk (l := ep_l102) (by decide +kernel) ep_k102
def ep_l103 : List (Instr × Nat × Nat) := [(.getfield 18, 3, 7)]
set_option maxRecDepth 100000 in
theorem ep_k103 : ∀ q ∈ ep_l103, ∀ pc, ev_kb MM "LeftAnswers$Life" pc q.1 q.2.1 q.2.2 = true := by
  unfold ep_l103
  exact List.forall_mem_cons.mpr ⟨lk288, fun _ h => absurd h List.not_mem_nil⟩
set_option maxRecDepth 100000 in
theorem ep_c103 : ev_vr MM ev_w103 = true := ev_vr_mk (l := ep_l103) (by decide +kernel) ep_k103
def ep_l104 : List (Instr × Nat × Nat) := [(.getfield 56, 1, 14), (.invokevirtual 61, 106, 0)]
set_option maxRecDepth 100000 in
theorem ep_k104 : ∀ q ∈ ep_l104, ∀ pc, ev_kb MM "LeftAnswers$Life" pc q.1 q.2.1 q.2.2 = true := by
  unfold ep_l104
  exact List.forall_mem_cons.mpr ⟨lk324, List.forall_mem_cons.mpr ⟨lk325, fun _ h => absurd h List.not_mem_nil⟩⟩
set_option maxRecDepth 100000 in
theorem ep_c104 : ev_vr MM ev_w104 = true := ev_vr_mk (l := ep_l104) (by decide +kernel) ep_k104
def ep_l105 : List (Instr × Nat × Nat) := [(.getfield 24, 3, 9)]
set_option maxRecDepth 100000 in
theorem ep_k105 : ∀ q ∈ ep_l105, ∀ pc, ev_kb MM "LeftAnswers$Life" pc q.1 q.2.1 q.2.2 = true := by
  unfold ep_l105
  exact List.forall_mem_cons.mpr ⟨lk297, fun _ h => absurd h List.not_mem_nil⟩
set_option maxRecDepth 100000 in
theorem ep_c105 : ev_vr MM ev_w105 = true := ev_vr_mk (l := ep_l105) (by decide +kernel) ep_k105
def ep_l106 : List (Instr × Nat × Nat) := [(.invokevirtual 65, 103, 1)]
set_option maxRecDepth 100000 in
theorem ep_k106 : ∀ q ∈ ep_l106, ∀ pc, ev_kb MM "LeftAnswers$Life" pc q.1 q.2.1 q.2.2 = true := by
  unfold ep_l106
  exact List.forall_mem_cons.mpr ⟨lk326, fun _ h => absurd h List.not_mem_nil⟩
set_option maxRecDepth 100000 in
theorem ep_c106 : ev_vr MM ev_w106 = true := ev_vr_mk (l := ep_l106) (by decide +kernel) ep_k106
def ep_l107 : List (Instr × Nat × Nat) := [(.invokevirtual 167, 108, 3), (.invokevirtual 83, 102, 1), (.invokestatic 171, 902, 2)]
set_option maxRecDepth 100000 in
theorem ep_k107 : ∀ q ∈ ep_l107, ∀ pc, ev_kb MM "LeftAnswers$Life" pc q.1 q.2.1 q.2.2 = true := by
  unfold ep_l107
  exact List.forall_mem_cons.mpr ⟨lk327, List.forall_mem_cons.mpr ⟨lk328, List.forall_mem_cons.mpr ⟨lk329, fun _ h => absurd h List.not_mem_nil⟩⟩⟩
set_option maxRecDepth 100000 in
theorem ep_c107 : ev_vr MM ev_w107 = true := ev_vr_mk (l := ep_l107) (by decide +kernel) ep_k107
def ep_l108 : List (Instr × Nat × Nat) := [(.invokevirtual 126, 104, 2), (.getfield 152, 1, 1), (.invokevirtual 174, 69, 3), (.invokestatic 163, 101, 4), (.getfield 118, 1, 12), (.invokestatic 171, 902, 2)]
set_option maxRecDepth 100000 in
theorem ep_k108 : ∀ q ∈ ep_l108, ∀ pc, ev_kb MM "LeftAnswers$Life" pc q.1 q.2.1 q.2.2 = true := by
  unfold ep_l108
  exact List.forall_mem_cons.mpr ⟨lk310, List.forall_mem_cons.mpr ⟨lk316, List.forall_mem_cons.mpr ⟨lk330, List.forall_mem_cons.mpr ⟨lk302, List.forall_mem_cons.mpr ⟨lk307, List.forall_mem_cons.mpr ⟨lk329, fun _ h => absurd h List.not_mem_nil⟩⟩⟩⟩⟩⟩
set_option maxRecDepth 100000 in
theorem ep_c108 : ev_vr MM ev_w108 = true := ev_vr_mk (l := ep_l108) (by decide +kernel) ep_k108
def ep_l109 : List (Instr × Nat × Nat) := [(.getfield 24, 3, 9)]
set_option maxRecDepth 100000 in
theorem ep_k109 : ∀ q ∈ ep_l109, ∀ pc, ev_kb MM "LeftAnswers$Life" pc q.1 q.2.1 q.2.2 = true := by
  unfold ep_l109
  exact List.forall_mem_cons.mpr ⟨lk297, fun _ h => absurd h List.not_mem_nil⟩
set_option maxRecDepth 100000 in
theorem ep_c109 : ev_vr MM ev_w109 = true := ev_vr_mk (l := ep_l109) (by decide +kernel) ep_k109
def ep_l110 : List (Instr × Nat × Nat) := [(.getfield 72, 1, 0), (.getfield 24, 3, 9), (.getfield 21, 3, 8), (.getfield 144, 1, 4), (.getfield 9, 3, 5), (.invokestatic 121, 901, 2), (.invokevirtual 65, 103, 1), (.getfield 18, 3, 7), (.getfield 27, 3, 10), (.getfield 37, 3, 0), (.putfield 37, 3, 0)]
set_option maxRecDepth 100000 in
theorem ep_k110 : ∀ q ∈ ep_l110, ∀ pc, ev_kb MM "LeftAnswers$Life" pc q.1 q.2.1 q.2.2 = true := by
  unfold ep_l110
  exact List.forall_mem_cons.mpr ⟨lk301, List.forall_mem_cons.mpr ⟨lk297, List.forall_mem_cons.mpr ⟨lk296, List.forall_mem_cons.mpr ⟨lk331, List.forall_mem_cons.mpr ⟨lk292, List.forall_mem_cons.mpr ⟨lk308, List.forall_mem_cons.mpr ⟨lk326, List.forall_mem_cons.mpr ⟨lk288, List.forall_mem_cons.mpr ⟨lk298, List.forall_mem_cons.mpr ⟨lk303, List.forall_mem_cons.mpr ⟨lk293, fun _ h => absurd h List.not_mem_nil⟩⟩⟩⟩⟩⟩⟩⟩⟩⟩⟩
set_option maxRecDepth 100000 in
theorem ep_c110 : ev_vr MM ev_w110 = true := ev_vr_mk (l := ep_l110) (by decide +kernel) ep_k110
def ep_l111 : List (Instr × Nat × Nat) := [(.getfield 37, 3, 0), (.invokevirtual 140, 110, 1)]
set_option maxRecDepth 100000 in
theorem ep_k111 : ∀ q ∈ ep_l111, ∀ pc, ev_kb MM "LeftAnswers$Life" pc q.1 q.2.1 q.2.2 = true := by
  unfold ep_l111
  exact List.forall_mem_cons.mpr ⟨lk303, List.forall_mem_cons.mpr ⟨lk323, fun _ h => absurd h List.not_mem_nil⟩⟩
set_option maxRecDepth 100000 in
theorem ep_c111 : ev_vr MM ev_w111 = true := ev_vr_mk (l := ep_l111) (by decide +kernel) ep_k111
def ep_l112 : List (Instr × Nat × Nat) := [(.invokevirtual 89, 96, 4), (.invokevirtual 93, 115, 2), (.invokevirtual 97, 109, 1), (.getfield 47, 3, 3), (.putfield 47, 3, 3), (.invokevirtual 100, 111, 2)]
set_option maxRecDepth 100000 in
theorem ep_k112 : ∀ q ∈ ep_l112, ∀ pc, ev_kb MM "LeftAnswers$Life" pc q.1 q.2.1 q.2.2 = true := by
  unfold ep_l112
  exact List.forall_mem_cons.mpr ⟨lk318, List.forall_mem_cons.mpr ⟨lk320, List.forall_mem_cons.mpr ⟨lk321, List.forall_mem_cons.mpr ⟨lk305, List.forall_mem_cons.mpr ⟨lk295, List.forall_mem_cons.mpr ⟨lk332, fun _ h => absurd h List.not_mem_nil⟩⟩⟩⟩⟩⟩
set_option maxRecDepth 100000 in
theorem ep_c112 : ev_vr MM ev_w112 = true := ev_vr_mk (l := ep_l112) (by decide +kernel) ep_k112
def ep_l113 : List (Instr × Nat × Nat) := [(.invokevirtual 61, 106, 0), (.getfield 72, 1, 0), (.getfield 56, 1, 14)]
set_option maxRecDepth 100000 in
theorem ep_k113 : ∀ q ∈ ep_l113, ∀ pc, ev_kb MM "LeftAnswers$Life" pc q.1 q.2.1 q.2.2 = true := by
  unfold ep_l113
  exact List.forall_mem_cons.mpr ⟨lk325, List.forall_mem_cons.mpr ⟨lk301, List.forall_mem_cons.mpr ⟨lk324, fun _ h => absurd h List.not_mem_nil⟩⟩⟩
set_option maxRecDepth 100000 in
theorem ep_c113 : ev_vr MM ev_w113 = true := ev_vr_mk (l := ep_l113) (by decide +kernel) ep_k113
def ep_l114 : List (Instr × Nat × Nat) := [(.invokevirtual 69, 105, 1)]
set_option maxRecDepth 100000 in
theorem ep_k114 : ∀ q ∈ ep_l114, ∀ pc, ev_kb MM "LeftAnswers$Life" pc q.1 q.2.1 q.2.2 = true := by
  unfold ep_l114
  exact List.forall_mem_cons.mpr ⟨lk333, fun _ h => absurd h List.not_mem_nil⟩
set_option maxRecDepth 100000 in
theorem ep_c114 : ev_vr MM ev_w114 = true := ev_vr_mk (l := ep_l114) (by decide +kernel) ep_k114
def ep_l115 : List (Instr × Nat × Nat) := [(.getfield 24, 3, 9)]
set_option maxRecDepth 100000 in
theorem ep_k115 : ∀ q ∈ ep_l115, ∀ pc, ev_kb MM "LeftAnswers$Life" pc q.1 q.2.1 q.2.2 = true := by
  unfold ep_l115
  exact List.forall_mem_cons.mpr ⟨lk297, fun _ h => absurd h List.not_mem_nil⟩
set_option maxRecDepth 100000 in
theorem ep_c115 : ev_vr MM ev_w115 = true := ev_vr_mk (l := ep_l115) (by decide +kernel) ep_k115
def ep_l116 : List (Instr × Nat × Nat) := [(.invokevirtual 75, 117, 4), (.invokevirtual 79, 118, 2), (.invokevirtual 69, 105, 1), (.invokevirtual 83, 102, 1), (.invokevirtual 86, 95, 0)]
set_option maxRecDepth 100000 in
theorem ep_k116 : ∀ q ∈ ep_l116, ∀ pc, ev_kb MM "LeftAnswers$Life" pc q.1 q.2.1 q.2.2 = true := by
  unfold ep_l116
  exact List.forall_mem_cons.mpr ⟨lk285, List.forall_mem_cons.mpr ⟨lk319, List.forall_mem_cons.mpr ⟨lk333, List.forall_mem_cons.mpr ⟨lk328, List.forall_mem_cons.mpr ⟨lk334, fun _ h => absurd h List.not_mem_nil⟩⟩⟩⟩⟩
set_option maxRecDepth 100000 in
theorem ep_c116 : ev_vr MM ev_w116 = true := ev_vr_mk (l := ep_l116) (by decide +kernel) ep_k116
def ep_l117 : List (Instr × Nat × Nat) := [(.invokevirtual 65, 103, 1), (.getfield 27, 3, 10), (.invokestatic 104, 100, 1), (.invokevirtual 108, 68, 2), (.invokevirtual 112, 81, 2), (.getfield 115, 1, 11), (.invokevirtual 83, 102, 1)]
set_option maxRecDepth 100000 in
theorem ep_k117 : ∀ q ∈ ep_l117, ∀ pc, ev_kb MM "LeftAnswers$Life" pc q.1 q.2.1 q.2.2 = true := by
  unfold ep_l117
  exact List.forall_mem_cons.mpr ⟨lk326, List.forall_mem_cons.mpr ⟨lk298, List.forall_mem_cons.mpr ⟨lk309, List.forall_mem_cons.mpr ⟨lk335, List.forall_mem_cons.mpr ⟨lk336, List.forall_mem_cons.mpr ⟨lk337, List.forall_mem_cons.mpr ⟨lk328, fun _ h => absurd h List.not_mem_nil⟩⟩⟩⟩⟩⟩⟩
set_option maxRecDepth 100000 in
theorem ep_c117 : ev_vr MM ev_w117 = true := ev_vr_mk (l := ep_l117) (by decide +kernel) ep_k117
def ep_l118 : List (Instr × Nat × Nat) := [(.invokevirtual 69, 105, 1), (.invokevirtual 83, 102, 1), (.invokevirtual 65, 103, 1)]
set_option maxRecDepth 100000 in
theorem ep_k118 : ∀ q ∈ ep_l118, ∀ pc, ev_kb MM "LeftAnswers$Life" pc q.1 q.2.1 q.2.2 = true := by
  unfold ep_l118
  exact List.forall_mem_cons.mpr ⟨lk333, List.forall_mem_cons.mpr ⟨lk328, List.forall_mem_cons.mpr ⟨lk326, fun _ h => absurd h List.not_mem_nil⟩⟩⟩
set_option maxRecDepth 100000 in
theorem ep_c118 : ev_vr MM ev_w118 = true := ev_vr_mk (l := ep_l118) (by decide +kernel) ep_k118
def ep_l119 : List (Instr × Nat × Nat) := [(.invokespecial 3, 999, 0), (.newarray .int, 0, 0), (.putfield 9, 4, 0), (.putfield 15, 4, 1), (.putfield 18, 4, 2), (.getfield 9, 4, 0)]
set_option maxRecDepth 100000 in
theorem ep_k119 : ∀ q ∈ ep_l119, ∀ pc, ev_kb MM "LeftAnswers$Pairs" pc q.1 q.2.1 q.2.2 = true := by
  unfold ep_l119
  exact List.forall_mem_cons.mpr ⟨lk338, List.forall_mem_cons.mpr ⟨lk339, List.forall_mem_cons.mpr ⟨lk340, List.forall_mem_cons.mpr ⟨lk341, List.forall_mem_cons.mpr ⟨lk342, List.forall_mem_cons.mpr ⟨lk343, fun _ h => absurd h List.not_mem_nil⟩⟩⟩⟩⟩⟩
set_option maxRecDepth 100000 in
theorem ep_c119 : ev_vr MM ev_w119 = true := ev_vr_mk (l := ep_l119) (by decide +kernel) ep_k119
