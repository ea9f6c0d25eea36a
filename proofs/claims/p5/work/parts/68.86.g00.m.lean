section
def ep_l0 : List (Instr × Nat × Nat) := [(.invokespecial 1, 999, 0), (.new 7, 9, 0), (.invokespecial 9, 154, 0), (.putfield 10, 10, 0), (.new 16, 1, 0), (.invokespecial 18, 56, 0), (.putfield 19, 10, 1), (.putfield 23, 10, 2), (.new 26, 3, 0), (.invokespecial 28, 87, 0), (.putfield 29, 10, 3), (.putfield 33, 10, 4), (.new 36, 6, 0), (.invokespecial 38, 128, 0), (.putfield 39, 10, 5), (.new 43, 0, 0), (.invokespecial 45, 48, 0), (.putfield 46, 10, 6), (.new 50, 7, 0), (.invokespecial 52, 132, 0), (.putfield 53, 10, 7), (.putfield 57, 10, 8), (.new 60, 5, 0), (.invokespecial 62, 122, 0), (.putfield 63, 10, 9), (.new 67, 4, 0), (.invokespecial 69, 119, 0), (.putfield 70, 10, 10), (.new 74, 8, 0), (.invokespecial 76, 148, 0), (.putfield 77, 10, 11), (.anewarray 81, 6, 0), (.new 81, 2, 0), (.invokespecial 83, 84, 0), (.putfield 84, 10, 12), (.putfield 88, 10, 13), (.putfield 92, 10, 14), (.putfield 95, 10, 15), (.putfield 98, 10, 16)]
set_option maxRecDepth 100000 in
theorem ep_k0 : ∀ q ∈ ep_l0, ∀ pc, ev_kb MM "LeftAnswers" pc q.1 q.2.1 q.2.2 = true := by
  unfold ep_l0
  exact List.forall_mem_cons.mpr ⟨lk0, List.forall_mem_cons.mpr ⟨lk1, List.forall_mem_cons.mpr ⟨lk2, List.forall_mem_cons.mpr ⟨lk3, List.forall_mem_cons.mpr ⟨lk4, List.forall_mem_cons.mpr ⟨lk5, List.forall_mem_cons.mpr ⟨lk6, List.forall_mem_cons.mpr ⟨lk7, List.forall_mem_cons.mpr ⟨lk8, List.forall_mem_cons.mpr ⟨lk9, List.forall_mem_cons.mpr ⟨lk10, List.forall_mem_cons.mpr ⟨lk11, List.forall_mem_cons.mpr ⟨lk12, List.forall_mem_cons.mpr ⟨lk13, List.forall_mem_cons.mpr ⟨lk14, List.forall_mem_cons.mpr ⟨lk15, List.forall_mem_cons.mpr ⟨lk16, List.forall_mem_cons.mpr ⟨lk17, List.forall_mem_cons.mpr ⟨lk18, List.forall_mem_cons.mpr ⟨lk19, List.forall_mem_cons.mpr ⟨lk20, List.forall_mem_cons.mpr ⟨lk21, List.forall_mem_cons.mpr ⟨lk22, List.forall_mem_cons.mpr ⟨lk23, List.forall_mem_cons.mpr ⟨lk24, List.forall_mem_cons.mpr ⟨lk25, List.forall_mem_cons.mpr ⟨lk26, List.forall_mem_cons.mpr ⟨lk27, List.forall_mem_cons.mpr ⟨lk28, List.forall_mem_cons.mpr ⟨lk29, List.forall_mem_cons.mpr ⟨lk30, List.forall_mem_cons.mpr ⟨lk31, List.forall_mem_cons.mpr ⟨lk32, List.forall_mem_cons.mpr ⟨lk33, List.forall_mem_cons.mpr ⟨lk34, List.forall_mem_cons.mpr ⟨lk35, List.forall_mem_cons.mpr ⟨lk36, List.forall_mem_cons.mpr ⟨lk37, List.forall_mem_cons.mpr ⟨lk38, fun _ h => absurd h List.not_mem_nil⟩⟩⟩⟩⟩⟩⟩⟩⟩⟩⟩⟩⟩⟩⟩⟩⟩⟩⟩⟩⟩⟩⟩⟩⟩⟩⟩⟩⟩⟩⟩⟩⟩⟩⟩⟩⟩⟩⟩
set_option maxRecDepth 100000 in
theorem ep_c0 : ev_vr MM ev_w0 = true := ev_vr_mk (l := ep_l0) (scan_vf (by decide +kernel)) ep_k0
def ep_l1 : List (Instr × Nat × Nat) := [(.invokevirtual 130, 28, 1), (.invokevirtual 174, 26, 1), (.getfield 29, 10, 3), (.getfield 19, 10, 1), (.invokevirtual 238, 88, 3)]
set_option maxRecDepth 100000 in
theorem ep_k1 : ∀ q ∈ ep_l1, ∀ pc, ev_kb MM "LeftAnswers" pc q.1 q.2.1 q.2.2 = true := by
  unfold ep_l1
  exact List.forall_mem_cons.mpr ⟨lk39, List.forall_mem_cons.mpr ⟨lk40, List.forall_mem_cons.mpr ⟨lk41, List.forall_mem_cons.mpr ⟨lk42, List.forall_mem_cons.mpr ⟨lk43, fun _ h => absurd h List.not_mem_nil⟩⟩⟩⟩⟩
set_option maxRecDepth 100000 in
theorem ep_c1 : ev_vr MM ev_w1 = true := ev_vr_mk (l := ep_l1) (scan_vf (by decide +kernel)) ep_k1
def ep_l2 : List (Instr × Nat × Nat) := [(.getfield 29, 10, 3), (.getfield 19, 10, 1), (.invokevirtual 370, 116, 5), (.getfield 39, 10, 5), (.invokevirtual 226, 130, 1), (.invokevirtual 374, 112, 5)]
set_option maxRecDepth 100000 in
theorem ep_k2 : ∀ q ∈ ep_l2, ∀ pc, ev_kb MM "LeftAnswers" pc q.1 q.2.1 q.2.2 = true := by
  unfold ep_l2
  exact List.forall_mem_cons.mpr ⟨lk41, List.forall_mem_cons.mpr ⟨lk42, List.forall_mem_cons.mpr ⟨lk44, List.forall_mem_cons.mpr ⟨lk45, List.forall_mem_cons.mpr ⟨lk46, List.forall_mem_cons.mpr ⟨lk47, fun _ h => absurd h List.not_mem_nil⟩⟩⟩⟩⟩⟩
set_option maxRecDepth 100000 in
theorem ep_c2 : ev_vr MM ev_w2 = true := ev_vr_mk (l := ep_l2) (scan_vf (by decide +kernel)) ep_k2
def ep_l3 : List (Instr × Nat × Nat) := [(.invokevirtual 130, 28, 1), (.invokevirtual 214, 2, 4)]
set_option maxRecDepth 100000 in
theorem ep_k3 : ∀ q ∈ ep_l3, ∀ pc, ev_kb MM "LeftAnswers" pc q.1 q.2.1 q.2.2 = true := by
  unfold ep_l3
  exact List.forall_mem_cons.mpr ⟨lk39, List.forall_mem_cons.mpr ⟨lk48, fun _ h => absurd h List.not_mem_nil⟩⟩
set_option maxRecDepth 100000 in
theorem ep_c3 : ev_vr MM ev_w3 = true := ev_vr_mk (l := ep_l3) (scan_vf (by decide +kernel)) ep_k3
def ep_l4 : List (Instr × Nat × Nat) := [(.getfield 70, 10, 10), (.getfield 19, 10, 1), (.getfield 29, 10, 3), (.invokevirtual 290, 121, 2)]
set_option maxRecDepth 100000 in
theorem ep_k4 : ∀ q ∈ ep_l4, ∀ pc, ev_kb MM "LeftAnswers" pc q.1 q.2.1 q.2.2 = true := by
  unfold ep_l4
  exact List.forall_mem_cons.mpr ⟨lk49, List.forall_mem_cons.mpr ⟨lk42, List.forall_mem_cons.mpr ⟨lk41, List.forall_mem_cons.mpr ⟨lk50, fun _ h => absurd h List.not_mem_nil⟩⟩⟩⟩
set_option maxRecDepth 100000 in
theorem ep_c4 : ev_vr MM ev_w4 = true := ev_vr_mk (l := ep_l4) (scan_vf (by decide +kernel)) ep_k4
def ep_l5 : List (Instr × Nat × Nat) := [(.invokevirtual 130, 28, 1), (.getfield 70, 10, 10), (.getfield 293, 4, 0)]
set_option maxRecDepth 100000 in
theorem ep_k5 : ∀ q ∈ ep_l5, ∀ pc, ev_kb MM "LeftAnswers" pc q.1 q.2.1 q.2.2 = true := by
  unfold ep_l5
  exact List.forall_mem_cons.mpr ⟨lk39, List.forall_mem_cons.mpr ⟨lk49, List.forall_mem_cons.mpr ⟨lk51, fun _ h => absurd h List.not_mem_nil⟩⟩⟩
set_option maxRecDepth 100000 in
theorem ep_c5 : ev_vr MM ev_w5 = true := ev_vr_mk (l := ep_l5) (scan_vf (by decide +kernel)) ep_k5
def ep_l6 : List (Instr × Nat × Nat) := []
set_option maxRecDepth 100000 in
theorem ep_k6 : ∀ q ∈ ep_l6, ∀ pc, ev_kb MM "LeftAnswers" pc q.1 q.2.1 q.2.2 = true := by
  unfold ep_l6
  exact fun _ h => absurd h List.not_mem_nil
set_option maxRecDepth 100000 in
theorem ep_c6 : ev_vr MM ev_w6 = true := ev_vr_mk (l := ep_l6) (scan_vf (by decide +kernel)) ep_k6
def ep_l7 : List (Instr × Nat × Nat) := [(.getfield 46, 10, 6), (.getfield 10, 10, 0), (.getfield 19, 10, 1), (.invokevirtual 318, 54, 2), (.invokevirtual 112, 41, 0), (.getfield 88, 10, 13), (.getfield 115, 9, 11), (.getfield 33, 10, 4), (.getfield 29, 10, 3), (.invokevirtual 315, 94, 1), (.invokevirtual 321, 50, 2), (.getfield 39, 10, 5), (.invokevirtual 226, 130, 1), (.getfield 325, 0, 6)]
set_option maxRecDepth 100000 in
theorem ep_k7 : ∀ q ∈ ep_l7, ∀ pc, ev_kb MM "LeftAnswers" pc q.1 q.2.1 q.2.2 = true := by
  unfold ep_l7
  exact List.forall_mem_cons.mpr ⟨lk52, List.forall_mem_cons.mpr ⟨lk53, List.forall_mem_cons.mpr ⟨lk42, List.forall_mem_cons.mpr ⟨lk54, List.forall_mem_cons.mpr ⟨lk55, List.forall_mem_cons.mpr ⟨lk56, List.forall_mem_cons.mpr ⟨lk57, List.forall_mem_cons.mpr ⟨lk58, List.forall_mem_cons.mpr ⟨lk41, List.forall_mem_cons.mpr ⟨lk59, List.forall_mem_cons.mpr ⟨lk60, List.forall_mem_cons.mpr ⟨lk45, List.forall_mem_cons.mpr ⟨lk46, List.forall_mem_cons.mpr ⟨lk61, fun _ h => absurd h List.not_mem_nil⟩⟩⟩⟩⟩⟩⟩⟩⟩⟩⟩⟩⟩⟩
set_option maxRecDepth 100000 in
theorem ep_c7 : ev_vr MM ev_w7 = true := ev_vr_mk (l := ep_l7) (scan_vf (by decide +kernel)) ep_k7
def ep_l8 : List (Instr × Nat × Nat) := [(.getfield 77, 10, 11), (.getfield 306, 8, 1), (.getfield 307, 8, 0)]
set_option maxRecDepth 100000 in
theorem ep_k8 : ∀ q ∈ ep_l8, ∀ pc, ev_kb MM "LeftAnswers" pc q.1 q.2.1 q.2.2 = true := by
  unfold ep_l8
  exact List.forall_mem_cons.mpr ⟨lk62, List.forall_mem_cons.mpr ⟨lk63, List.forall_mem_cons.mpr ⟨lk64, fun _ h => absurd h List.not_mem_nil⟩⟩⟩
set_option maxRecDepth 100000 in
theorem ep_c8 : ev_vr MM ev_w8 = true := ev_vr_mk (l := ep_l8) (scan_vf (by decide +kernel)) ep_k8
def ep_l9 : List (Instr × Nat × Nat) := [(.getfield 19, 10, 1), (.getfield 299, 1, 0), (.getfield 360, 1, 1), (.getfield 363, 1, 2), (.getfield 366, 1, 3), (.getfield 368, 1, 4), (.getfield 10, 10, 0), (.getfield 101, 9, 1)]
set_option maxRecDepth 100000 in
theorem ep_k9 : ∀ q ∈ ep_l9, ∀ pc, ev_kb MM "LeftAnswers" pc q.1 q.2.1 q.2.2 = true := by
  unfold ep_l9
  exact List.forall_mem_cons.mpr ⟨lk42, List.forall_mem_cons.mpr ⟨lk65, List.forall_mem_cons.mpr ⟨lk66, List.forall_mem_cons.mpr ⟨lk67, List.forall_mem_cons.mpr ⟨lk68, List.forall_mem_cons.mpr ⟨lk69, List.forall_mem_cons.mpr ⟨lk53, List.forall_mem_cons.mpr ⟨lk70, fun _ h => absurd h List.not_mem_nil⟩⟩⟩⟩⟩⟩⟩⟩
set_option maxRecDepth 100000 in
theorem ep_c9 : ev_vr MM ev_w9 = true := ev_vr_mk (l := ep_l9) (scan_vf (by decide +kernel)) ep_k9
def ep_l10 : List (Instr × Nat × Nat) := [(.getfield 29, 10, 3), (.invokevirtual 218, 95, 0), (.invokestatic 221, 901, 2), (.getfield 39, 10, 5), (.invokevirtual 226, 130, 1), (.getfield 19, 10, 1), (.invokevirtual 230, 111, 2)]
set_option maxRecDepth 100000 in
theorem ep_k10 : ∀ q ∈ ep_l10, ∀ pc, ev_kb MM "LeftAnswers" pc q.1 q.2.1 q.2.2 = true := by
  unfold ep_l10
  exact List.forall_mem_cons.mpr ⟨lk41, List.forall_mem_cons.mpr ⟨lk71, List.forall_mem_cons.mpr ⟨lk72, List.forall_mem_cons.mpr ⟨lk45, List.forall_mem_cons.mpr ⟨lk46, List.forall_mem_cons.mpr ⟨lk42, List.forall_mem_cons.mpr ⟨lk73, fun _ h => absurd h List.not_mem_nil⟩⟩⟩⟩⟩⟩⟩
set_option maxRecDepth 100000 in
theorem ep_c10 : ev_vr MM ev_w10 = true := ev_vr_mk (l := ep_l10) (scan_vf (by decide +kernel)) ep_k10
def ep_l11 : List (Instr × Nat × Nat) := [(.invokevirtual 174, 26, 1), (.getfield 19, 10, 1), (.getfield 177, 1, 11), (.getfield 180, 1, 12), (.getfield 183, 1, 13), (.invokevirtual 184, 72, 1), (.getfield 29, 10, 3), (.getfield 187, 3, 11)]
set_option maxRecDepth 100000 in
theorem ep_k11 : ∀ q ∈ ep_l11, ∀ pc, ev_kb MM "LeftAnswers" pc q.1 q.2.1 q.2.2 = true := by
  unfold ep_l11
  exact List.forall_mem_cons.mpr ⟨lk40, List.forall_mem_cons.mpr ⟨lk42, List.forall_mem_cons.mpr ⟨lk74, List.forall_mem_cons.mpr ⟨lk75, List.forall_mem_cons.mpr ⟨lk76, List.forall_mem_cons.mpr ⟨lk77, List.forall_mem_cons.mpr ⟨lk41, List.forall_mem_cons.mpr ⟨lk78, fun _ h => absurd h List.not_mem_nil⟩⟩⟩⟩⟩⟩⟩⟩
set_option maxRecDepth 100000 in
theorem ep_c11 : ev_vr MM ev_w11 = true := ev_vr_mk (l := ep_l11) (scan_vf (by decide +kernel)) ep_k11
def ep_l12 : List (Instr × Nat × Nat) := [(.invokevirtual 130, 28, 1), (.invokevirtual 174, 26, 1), (.invokestatic 167, 27, 1), (.invokevirtual 214, 2, 4)]
set_option maxRecDepth 100000 in
theorem ep_k12 : ∀ q ∈ ep_l12, ∀ pc, ev_kb MM "LeftAnswers" pc q.1 q.2.1 q.2.2 = true := by
  unfold ep_l12
  exact List.forall_mem_cons.mpr ⟨lk39, List.forall_mem_cons.mpr ⟨lk40, List.forall_mem_cons.mpr ⟨lk79, List.forall_mem_cons.mpr ⟨lk48, fun _ h => absurd h List.not_mem_nil⟩⟩⟩⟩
set_option maxRecDepth 100000 in
theorem ep_c12 : ev_vr MM ev_w12 = true := ev_vr_mk (l := ep_l12) (scan_vf (by decide +kernel)) ep_k12
def ep_l13 : List (Instr × Nat × Nat) := [(.getfield 19, 10, 1), (.getfield 299, 1, 0), (.getfield 29, 10, 3), (.invokevirtual 218, 95, 0), (.invokestatic 221, 901, 2), (.getfield 39, 10, 5), (.invokevirtual 226, 130, 1), (.invokevirtual 311, 99, 3)]
set_option maxRecDepth 100000 in
theorem ep_k13 : ∀ q ∈ ep_l13, ∀ pc, ev_kb MM "LeftAnswers" pc q.1 q.2.1 q.2.2 = true := by
  unfold ep_l13
  exact List.forall_mem_cons.mpr ⟨lk42, List.forall_mem_cons.mpr ⟨lk65, List.forall_mem_cons.mpr ⟨lk41, List.forall_mem_cons.mpr ⟨lk71, List.forall_mem_cons.mpr ⟨lk72, List.forall_mem_cons.mpr ⟨lk45, List.forall_mem_cons.mpr ⟨lk46, List.forall_mem_cons.mpr ⟨lk80, fun _ h => absurd h List.not_mem_nil⟩⟩⟩⟩⟩⟩⟩⟩
set_option maxRecDepth 100000 in
theorem ep_c13 : ev_vr MM ev_w13 = true := ev_vr_mk (l := ep_l13) (scan_vf (by decide +kernel)) ep_k13
def ep_l14 : List (Instr × Nat × Nat) := [(.getfield 23, 10, 2), (.getfield 10, 10, 0), (.invokevirtual 108, 76, 1), (.invokevirtual 112, 41, 0), (.getfield 88, 10, 13), (.getfield 115, 9, 11), (.getfield 19, 10, 1), (.putfield 19, 10, 1), (.putfield 23, 10, 2), (.getfield 29, 10, 3), (.getfield 118, 1, 5), (.invokevirtual 121, 91, 1), (.getfield 39, 10, 5), (.invokevirtual 124, 129, 0), (.getfield 53, 10, 7), (.invokevirtual 127, 136, 0)]
set_option maxRecDepth 100000 in
theorem ep_k14 : ∀ q ∈ ep_l14, ∀ pc, ev_kb MM "LeftAnswers" pc q.1 q.2.1 q.2.2 = true := by
  unfold ep_l14
  exact List.forall_mem_cons.mpr ⟨lk81, List.forall_mem_cons.mpr ⟨lk53, List.forall_mem_cons.mpr ⟨lk82, List.forall_mem_cons.mpr ⟨lk55, List.forall_mem_cons.mpr ⟨lk56, List.forall_mem_cons.mpr ⟨lk57, List.forall_mem_cons.mpr ⟨lk42, List.forall_mem_cons.mpr ⟨lk6, List.forall_mem_cons.mpr ⟨lk7, List.forall_mem_cons.mpr ⟨lk41, List.forall_mem_cons.mpr ⟨lk83, List.forall_mem_cons.mpr ⟨lk84, List.forall_mem_cons.mpr ⟨lk45, List.forall_mem_cons.mpr ⟨lk85, List.forall_mem_cons.mpr ⟨lk86, List.forall_mem_cons.mpr ⟨lk87, fun _ h => absurd h List.not_mem_nil⟩⟩⟩⟩⟩⟩⟩⟩⟩⟩⟩⟩⟩⟩⟩⟩
set_option maxRecDepth 100000 in
theorem ep_c14 : ev_vr MM ev_w14 = true := ev_vr_mk (l := ep_l14) (scan_vf (by decide +kernel)) ep_k14
def ep_l15 : List (Instr × Nat × Nat) := [(.invokevirtual 130, 28, 1), (.getfield 29, 10, 3), (.getfield 19, 10, 1), (.invokevirtual 296, 107, 2)]
set_option maxRecDepth 100000 in
theorem ep_k15 : ∀ q ∈ ep_l15, ∀ pc, ev_kb MM "LeftAnswers" pc q.1 q.2.1 q.2.2 = true := by
  unfold ep_l15
  exact List.forall_mem_cons.mpr ⟨lk39, List.forall_mem_cons.mpr ⟨lk41, List.forall_mem_cons.mpr ⟨lk42, List.forall_mem_cons.mpr ⟨lk88, fun _ h => absurd h List.not_mem_nil⟩⟩⟩⟩
set_option maxRecDepth 100000 in
theorem ep_c15 : ev_vr MM ev_w15 = true := ev_vr_mk (l := ep_l15) (scan_vf (by decide +kernel)) ep_k15
def ep_l16 : List (Instr × Nat × Nat) := [(.getfield 10, 10, 0), (.getfield 101, 9, 1), (.putfield 101, 9, 1)]
set_option maxRecDepth 100000 in
theorem ep_k16 : ∀ q ∈ ep_l16, ∀ pc, ev_kb MM "LeftAnswers" pc q.1 q.2.1 q.2.2 = true := by
  unfold ep_l16
  exact List.forall_mem_cons.mpr ⟨lk53, List.forall_mem_cons.mpr ⟨lk70, List.forall_mem_cons.mpr ⟨lk89, fun _ h => absurd h List.not_mem_nil⟩⟩⟩
set_option maxRecDepth 100000 in
theorem ep_c16 : ev_vr MM ev_w16 = true := ev_vr_mk (l := ep_l16) (scan_vf (by decide +kernel)) ep_k16
def ep_l17 : List (Instr × Nat × Nat) := [(.getfield 88, 10, 13)]
set_option maxRecDepth 100000 in
theorem ep_k17 : ∀ q ∈ ep_l17, ∀ pc, ev_kb MM "LeftAnswers" pc q.1 q.2.1 q.2.2 = true := by
  unfold ep_l17
  exact List.forall_mem_cons.mpr ⟨lk56, fun _ h => absurd h List.not_mem_nil⟩
set_option maxRecDepth 100000 in
theorem ep_c17 : ev_vr MM ev_w17 = true := ev_vr_mk (l := ep_l17) (scan_vf (by decide +kernel)) ep_k17
def ep_l18 : List (Instr × Nat × Nat) := [(.getfield 10, 10, 0), (.getfield 101, 9, 1), (.invokevirtual 104, 162, 1)]
set_option maxRecDepth 100000 in
theorem ep_k18 : ∀ q ∈ ep_l18, ∀ pc, ev_kb MM "LeftAnswers" pc q.1 q.2.1 q.2.2 = true := by
  unfold ep_l18
  exact List.forall_mem_cons.mpr ⟨lk53, List.forall_mem_cons.mpr ⟨lk70, List.forall_mem_cons.mpr ⟨lk90, fun _ h => absurd h List.not_mem_nil⟩⟩⟩
set_option maxRecDepth 100000 in
theorem ep_c18 : ev_vr MM ev_w18 = true := ev_vr_mk (l := ep_l18) (scan_vf (by decide +kernel)) ep_k18
def ep_l19 : List (Instr × Nat × Nat) := [(.getfield 92, 10, 14), (.invokestatic 281, 6, 2)]
set_option maxRecDepth 100000 in
theorem ep_k19 : ∀ q ∈ ep_l19, ∀ pc, ev_kb MM "LeftAnswers" pc q.1 q.2.1 q.2.2 = true := by
  unfold ep_l19
  exact List.forall_mem_cons.mpr ⟨lk91, List.forall_mem_cons.mpr ⟨lk92, fun _ h => absurd h List.not_mem_nil⟩⟩
set_option maxRecDepth 100000 in
theorem ep_c19 : ev_vr MM ev_w19 = true := ev_vr_mk (l := ep_l19) (scan_vf (by decide +kernel)) ep_k19
def ep_l20 : List (Instr × Nat × Nat) := [(.getfield 10, 10, 0), (.getfield 101, 9, 1), (.invokevirtual 242, 42, 1), (.invokevirtual 263, 43, 0), (.putfield 101, 9, 1), (.getfield 19, 10, 1), (.invokevirtual 267, 57, 0), (.invokevirtual 249, 166, 1), (.invokevirtual 270, 60, 1), (.putfield 92, 10, 14), (.invokevirtual 273, 59, 1), (.putfield 95, 10, 15), (.invokestatic 276, 298, 1)]
set_option maxRecDepth 100000 in
theorem ep_k20 : ∀ q ∈ ep_l20, ∀ pc, ev_kb MM "LeftAnswers" pc q.1 q.2.1 q.2.2 = true := by
  unfold ep_l20
  exact List.forall_mem_cons.mpr ⟨lk53, List.forall_mem_cons.mpr ⟨lk70, List.forall_mem_cons.mpr ⟨lk93, List.forall_mem_cons.mpr ⟨lk94, List.forall_mem_cons.mpr ⟨lk89, List.forall_mem_cons.mpr ⟨lk42, List.forall_mem_cons.mpr ⟨lk95, List.forall_mem_cons.mpr ⟨lk96, List.forall_mem_cons.mpr ⟨lk97, List.forall_mem_cons.mpr ⟨lk36, List.forall_mem_cons.mpr ⟨lk98, List.forall_mem_cons.mpr ⟨lk37, List.forall_mem_cons.mpr ⟨lk99, fun _ h => absurd h List.not_mem_nil⟩⟩⟩⟩⟩⟩⟩⟩⟩⟩⟩⟩⟩
set_option maxRecDepth 100000 in
theorem ep_c20 : ev_vr MM ev_w20 = true := ev_vr_mk (l := ep_l20) (scan_vf (by decide +kernel)) ep_k20
def ep_l21 : List (Instr × Nat × Nat) := [(.invokevirtual 130, 28, 1), (.invokevirtual 214, 2, 4)]
set_option maxRecDepth 100000 in
theorem ep_k21 : ∀ q ∈ ep_l21, ∀ pc, ev_kb MM "LeftAnswers" pc q.1 q.2.1 q.2.2 = true := by
  unfold ep_l21
  exact List.forall_mem_cons.mpr ⟨lk39, List.forall_mem_cons.mpr ⟨lk48, fun _ h => absurd h List.not_mem_nil⟩⟩
set_option maxRecDepth 100000 in
theorem ep_c21 : ev_vr MM ev_w21 = true := ev_vr_mk (l := ep_l21) (scan_vf (by decide +kernel)) ep_k21
def ep_l22 : List (Instr × Nat × Nat) := [(.getfield 98, 10, 16)]
set_option maxRecDepth 100000 in
theorem ep_k22 : ∀ q ∈ ep_l22, ∀ pc, ev_kb MM "LeftAnswers" pc q.1 q.2.1 q.2.2 = true := by
  unfold ep_l22
  exact List.forall_mem_cons.mpr ⟨lk100, fun _ h => absurd h List.not_mem_nil⟩
set_option maxRecDepth 100000 in
theorem ep_c22 : ev_vr MM ev_w22 = true := ev_vr_mk (l := ep_l22) (scan_vf (by decide +kernel)) ep_k22
def ep_l23 : List (Instr × Nat × Nat) := [(.getfield 19, 10, 1), (.invokevirtual 287, 64, 0), (.putfield 98, 10, 16), (.getfield 98, 10, 16), (.invokestatic 276, 298, 1)]
set_option maxRecDepth 100000 in
theorem ep_k23 : ∀ q ∈ ep_l23, ∀ pc, ev_kb MM "LeftAnswers" pc q.1 q.2.1 q.2.2 = true := by
  unfold ep_l23
  exact List.forall_mem_cons.mpr ⟨lk42, List.forall_mem_cons.mpr ⟨lk101, List.forall_mem_cons.mpr ⟨lk38, List.forall_mem_cons.mpr ⟨lk100, List.forall_mem_cons.mpr ⟨lk99, fun _ h => absurd h List.not_mem_nil⟩⟩⟩⟩⟩
set_option maxRecDepth 100000 in
theorem ep_c23 : ev_vr MM ev_w23 = true := ev_vr_mk (l := ep_l23) (scan_vf (by decide +kernel)) ep_k23
def ep_l24 : List (Instr × Nat × Nat) := [(.invokevirtual 130, 28, 1), (.getfield 19, 10, 1), (.invokevirtual 284, 83, 2)]
set_option maxRecDepth 100000 in
theorem ep_k24 : ∀ q ∈ ep_l24, ∀ pc, ev_kb MM "LeftAnswers" pc q.1 q.2.1 q.2.2 = true := by
  unfold ep_l24
  exact List.forall_mem_cons.mpr ⟨lk39, List.forall_mem_cons.mpr ⟨lk42, List.forall_mem_cons.mpr ⟨lk102, fun _ h => absurd h List.not_mem_nil⟩⟩⟩
set_option maxRecDepth 100000 in
theorem ep_c24 : ev_vr MM ev_w24 = true := ev_vr_mk (l := ep_l24) (scan_vf (by decide +kernel)) ep_k24
def ep_l25 : List (Instr × Nat × Nat) := [(.getfield 84, 10, 12), (.getfield 19, 10, 1), (.getfield 29, 10, 3), (.getfield 53, 10, 7), (.invokevirtual 351, 86, 3)]
set_option maxRecDepth 100000 in
theorem ep_k25 : ∀ q ∈ ep_l25, ∀ pc, ev_kb MM "LeftAnswers" pc q.1 q.2.1 q.2.2 = true := by
  unfold ep_l25
  exact List.forall_mem_cons.mpr ⟨lk103, List.forall_mem_cons.mpr ⟨lk42, List.forall_mem_cons.mpr ⟨lk41, List.forall_mem_cons.mpr ⟨lk86, List.forall_mem_cons.mpr ⟨lk104, fun _ h => absurd h List.not_mem_nil⟩⟩⟩⟩⟩
set_option maxRecDepth 100000 in
theorem ep_c25 : ev_vr MM ev_w25 = true := ev_vr_mk (l := ep_l25) (scan_vf (by decide +kernel)) ep_k25
def ep_l26 : List (Instr × Nat × Nat) := [(.getfield 19, 10, 1), (.getfield 360, 1, 1)]
set_option maxRecDepth 100000 in
theorem ep_k26 : ∀ q ∈ ep_l26, ∀ pc, ev_kb MM "LeftAnswers" pc q.1 q.2.1 q.2.2 = true := by
  unfold ep_l26
  exact List.forall_mem_cons.mpr ⟨lk42, List.forall_mem_cons.mpr ⟨lk66, fun _ h => absurd h List.not_mem_nil⟩⟩
set_option maxRecDepth 100000 in
theorem ep_c26 : ev_vr MM ev_w26 = true := ev_vr_mk (l := ep_l26) (scan_vf (by decide +kernel)) ep_k26
def ep_l27 : List (Instr × Nat × Nat) := []
set_option maxRecDepth 100000 in
theorem ep_k27 : ∀ q ∈ ep_l27, ∀ pc, ev_kb MM "LeftAnswers" pc q.1 q.2.1 q.2.2 = true := by
  unfold ep_l27
  exact fun _ h => absurd h List.not_mem_nil
set_option maxRecDepth 100000 in
theorem ep_c27 : ev_vr MM ev_w27 = true := ev_vr_mk (l := ep_l27) (scan_vf (by decide +kernel)) ep_k27
def ep_l28 : List (Instr × Nat × Nat) := [(.getfield 19, 10, 1), (.getfield 299, 1, 0)]
set_option maxRecDepth 100000 in
theorem ep_k28 : ∀ q ∈ ep_l28, ∀ pc, ev_kb MM "LeftAnswers" pc q.1 q.2.1 q.2.2 = true := by
  unfold ep_l28
  exact List.forall_mem_cons.mpr ⟨lk42, List.forall_mem_cons.mpr ⟨lk65, fun _ h => absurd h List.not_mem_nil⟩⟩
set_option maxRecDepth 100000 in
theorem ep_c28 : ev_vr MM ev_w28 = true := ev_vr_mk (l := ep_l28) (scan_vf (by decide +kernel)) ep_k28
def ep_l29 : List (Instr × Nat × Nat) := [(.getfield 29, 10, 3), (.getfield 190, 3, 0), (.invokevirtual 193, 106, 0), (.getfield 197, 3, 3), (.invokevirtual 198, 114, 0), (.getfield 19, 10, 1), (.invokevirtual 201, 113, 1), (.invokevirtual 205, 90, 0), (.getfield 208, 3, 1), (.getfield 211, 3, 2)]
set_option maxRecDepth 100000 in
theorem ep_k29 : ∀ q ∈ ep_l29, ∀ pc, ev_kb MM "LeftAnswers" pc q.1 q.2.1 q.2.2 = true := by
  unfold ep_l29
  exact List.forall_mem_cons.mpr ⟨lk41, List.forall_mem_cons.mpr ⟨lk105, List.forall_mem_cons.mpr ⟨lk106, List.forall_mem_cons.mpr ⟨lk107, List.forall_mem_cons.mpr ⟨lk108, List.forall_mem_cons.mpr ⟨lk42, List.forall_mem_cons.mpr ⟨lk109, List.forall_mem_cons.mpr ⟨lk110, List.forall_mem_cons.mpr ⟨lk111, List.forall_mem_cons.mpr ⟨lk112, fun _ h => absurd h List.not_mem_nil⟩⟩⟩⟩⟩⟩⟩⟩⟩⟩
set_option maxRecDepth 100000 in
theorem ep_c29 : ev_vr MM ev_w29 = true := ev_vr_mk (l := ep_l29) (scan_vf (by decide +kernel)) ep_k29
def ep_l30 : List (Instr × Nat × Nat) := [(.invokevirtual 130, 28, 1), (.getfield 29, 10, 3), (.invokevirtual 218, 95, 0), (.invokestatic 221, 901, 2), (.getfield 33, 10, 4), (.invokevirtual 315, 94, 1), (.getfield 19, 10, 1), (.invokevirtual 311, 99, 3), (.getfield 141, 3, 5)]
set_option maxRecDepth 100000 in
theorem ep_k30 : ∀ q ∈ ep_l30, ∀ pc, ev_kb MM "LeftAnswers" pc q.1 q.2.1 q.2.2 = true := by
  unfold ep_l30
  exact List.forall_mem_cons.mpr ⟨lk39, List.forall_mem_cons.mpr ⟨lk41, List.forall_mem_cons.mpr ⟨lk71, List.forall_mem_cons.mpr ⟨lk72, List.forall_mem_cons.mpr ⟨lk58, List.forall_mem_cons.mpr ⟨lk59, List.forall_mem_cons.mpr ⟨lk42, List.forall_mem_cons.mpr ⟨lk80, List.forall_mem_cons.mpr ⟨lk113, fun _ h => absurd h List.not_mem_nil⟩⟩⟩⟩⟩⟩⟩⟩⟩
set_option maxRecDepth 100000 in
theorem ep_c30 : ev_vr MM ev_w30 = true := ev_vr_mk (l := ep_l30) (scan_vf (by decide +kernel)) ep_k30
def ep_l31 : List (Instr × Nat × Nat) := [(.invokevirtual 130, 28, 1), (.invokevirtual 214, 2, 4)]
set_option maxRecDepth 100000 in
theorem ep_k31 : ∀ q ∈ ep_l31, ∀ pc, ev_kb MM "LeftAnswers" pc q.1 q.2.1 q.2.2 = true := by
  unfold ep_l31
  exact List.forall_mem_cons.mpr ⟨lk39, List.forall_mem_cons.mpr ⟨lk48, fun _ h => absurd h List.not_mem_nil⟩⟩
set_option maxRecDepth 100000 in
theorem ep_c31 : ev_vr MM ev_w31 = true := ev_vr_mk (l := ep_l31) (scan_vf (by decide +kernel)) ep_k31
def ep_l32 : List (Instr × Nat × Nat) := [(.getfield 10, 10, 0), (.getfield 101, 9, 1), (.invokevirtual 242, 42, 1), (.putfield 101, 9, 1), (.getfield 63, 10, 9), (.invokevirtual 245, 123, 1), (.getfield 246, 5, 0), (.getfield 29, 10, 3), (.getfield 19, 10, 1), (.invokevirtual 249, 166, 1), (.invokevirtual 253, 92, 2), (.invokevirtual 257, 126, 0)]
set_option maxRecDepth 100000 in
theorem ep_k32 : ∀ q ∈ ep_l32, ∀ pc, ev_kb MM "LeftAnswers" pc q.1 q.2.1 q.2.2 = true := by
  unfold ep_l32
  exact List.forall_mem_cons.mpr ⟨lk53, List.forall_mem_cons.mpr ⟨lk70, List.forall_mem_cons.mpr ⟨lk93, List.forall_mem_cons.mpr ⟨lk89, List.forall_mem_cons.mpr ⟨lk114, List.forall_mem_cons.mpr ⟨lk115, List.forall_mem_cons.mpr ⟨lk116, List.forall_mem_cons.mpr ⟨lk41, List.forall_mem_cons.mpr ⟨lk42, List.forall_mem_cons.mpr ⟨lk96, List.forall_mem_cons.mpr ⟨lk117, List.forall_mem_cons.mpr ⟨lk118, fun _ h => absurd h List.not_mem_nil⟩⟩⟩⟩⟩⟩⟩⟩⟩⟩⟩⟩
set_option maxRecDepth 100000 in
theorem ep_c32 : ev_vr MM ev_w32 = true := ev_vr_mk (l := ep_l32) (scan_vf (by decide +kernel)) ep_k32
def ep_l33 : List (Instr × Nat × Nat) := [(.getfield 63, 10, 9), (.invokevirtual 260, 124, 1)]
set_option maxRecDepth 100000 in
theorem ep_k33 : ∀ q ∈ ep_l33, ∀ pc, ev_kb MM "LeftAnswers" pc q.1 q.2.1 q.2.2 = true := by
  unfold ep_l33
  exact List.forall_mem_cons.mpr ⟨lk114, List.forall_mem_cons.mpr ⟨lk119, fun _ h => absurd h List.not_mem_nil⟩⟩
set_option maxRecDepth 100000 in
theorem ep_c33 : ev_vr MM ev_w33 = true := ev_vr_mk (l := ep_l33) (scan_vf (by decide +kernel)) ep_k33
def ep_l34 : List (Instr × Nat × Nat) := [(.invokevirtual 130, 28, 1), (.getfield 29, 10, 3), (.getfield 141, 3, 5), (.getfield 145, 3, 6), (.getfield 148, 3, 7), (.getfield 151, 3, 8), (.getfield 154, 3, 9), (.invokevirtual 157, 102, 1), (.getfield 160, 3, 10), (.getfield 19, 10, 1), (.invokevirtual 163, 104, 2)]
set_option maxRecDepth 100000 in
theorem ep_k34 : ∀ q ∈ ep_l34, ∀ pc, ev_kb MM "LeftAnswers" pc q.1 q.2.1 q.2.2 = true := by
  unfold ep_l34
  exact List.forall_mem_cons.mpr ⟨lk39, List.forall_mem_cons.mpr ⟨lk41, List.forall_mem_cons.mpr ⟨lk113, List.forall_mem_cons.mpr ⟨lk120, List.forall_mem_cons.mpr ⟨lk121, List.forall_mem_cons.mpr ⟨lk122, List.forall_mem_cons.mpr ⟨lk123, List.forall_mem_cons.mpr ⟨lk124, List.forall_mem_cons.mpr ⟨lk125, List.forall_mem_cons.mpr ⟨lk42, List.forall_mem_cons.mpr ⟨lk126, fun _ h => absurd h List.not_mem_nil⟩⟩⟩⟩⟩⟩⟩⟩⟩⟩⟩
set_option maxRecDepth 100000 in
theorem ep_c34 : ev_vr MM ev_w34 = true := ev_vr_mk (l := ep_l34) (scan_vf (by decide +kernel)) ep_k34
def ep_l35 : List (Instr × Nat × Nat) := [(.getfield 84, 10, 12), (.getfield 354, 2, 0), (.getfield 19, 10, 1), (.getfield 29, 10, 3), (.getfield 53, 10, 7), (.invokevirtual 357, 85, 3), (.getfield 39, 10, 5), (.invokevirtual 124, 129, 0)]
set_option maxRecDepth 100000 in
theorem ep_k35 : ∀ q ∈ ep_l35, ∀ pc, ev_kb MM "LeftAnswers" pc q.1 q.2.1 q.2.2 = true := by
  unfold ep_l35
  exact List.forall_mem_cons.mpr ⟨lk103, List.forall_mem_cons.mpr ⟨lk127, List.forall_mem_cons.mpr ⟨lk42, List.forall_mem_cons.mpr ⟨lk41, List.forall_mem_cons.mpr ⟨lk86, List.forall_mem_cons.mpr ⟨lk128, List.forall_mem_cons.mpr ⟨lk45, List.forall_mem_cons.mpr ⟨lk85, fun _ h => absurd h List.not_mem_nil⟩⟩⟩⟩⟩⟩⟩⟩
set_option maxRecDepth 100000 in
theorem ep_c35 : ev_vr MM ev_w35 = true := ev_vr_mk (l := ep_l35) (scan_vf (by decide +kernel)) ep_k35
def ep_l36 : List (Instr × Nat × Nat) := [(.getfield 19, 10, 1), (.getfield 299, 1, 0), (.getfield 29, 10, 3), (.getfield 141, 3, 5)]
set_option maxRecDepth 100000 in
theorem ep_k36 : ∀ q ∈ ep_l36, ∀ pc, ev_kb MM "LeftAnswers" pc q.1 q.2.1 q.2.2 = true := by
  unfold ep_l36
  exact List.forall_mem_cons.mpr ⟨lk42, List.forall_mem_cons.mpr ⟨lk65, List.forall_mem_cons.mpr ⟨lk41, List.forall_mem_cons.mpr ⟨lk113, fun _ h => absurd h List.not_mem_nil⟩⟩⟩⟩
set_option maxRecDepth 100000 in
theorem ep_c36 : ev_vr MM ev_w36 = true := ev_vr_mk (l := ep_l36) (scan_vf (by decide +kernel)) ep_k36
def ep_l37 : List (Instr × Nat × Nat) := [(.getfield 53, 10, 7), (.getfield 345, 7, 0), (.getfield 19, 10, 1), (.getfield 29, 10, 3), (.invokevirtual 348, 147, 2), (.invokestatic 276, 298, 1), (.invokestatic 281, 6, 2)]
set_option maxRecDepth 100000 in
theorem ep_k37 : ∀ q ∈ ep_l37, ∀ pc, ev_kb MM "LeftAnswers" pc q.1 q.2.1 q.2.2 = true := by
  unfold ep_l37
  exact List.forall_mem_cons.mpr ⟨lk86, List.forall_mem_cons.mpr ⟨lk129, List.forall_mem_cons.mpr ⟨lk42, List.forall_mem_cons.mpr ⟨lk41, List.forall_mem_cons.mpr ⟨lk130, List.forall_mem_cons.mpr ⟨lk99, List.forall_mem_cons.mpr ⟨lk92, fun _ h => absurd h List.not_mem_nil⟩⟩⟩⟩⟩⟩⟩
set_option maxRecDepth 100000 in
theorem ep_c37 : ev_vr MM ev_w37 = true := ev_vr_mk (l := ep_l37) (scan_vf (by decide +kernel)) ep_k37
def ep_l38 : List (Instr × Nat × Nat) := [(.getfield 57, 10, 8), (.getfield 10, 10, 0), (.getfield 19, 10, 1), (.invokevirtual 344, 143, 2), (.invokevirtual 112, 41, 0), (.getfield 88, 10, 13), (.getfield 115, 9, 11), (.getfield 53, 10, 7), (.putfield 53, 10, 7), (.putfield 57, 10, 8), (.getfield 345, 7, 0)]
set_option maxRecDepth 100000 in
theorem ep_k38 : ∀ q ∈ ep_l38, ∀ pc, ev_kb MM "LeftAnswers" pc q.1 q.2.1 q.2.2 = true := by
  unfold ep_l38
  exact List.forall_mem_cons.mpr ⟨lk131, List.forall_mem_cons.mpr ⟨lk53, List.forall_mem_cons.mpr ⟨lk42, List.forall_mem_cons.mpr ⟨lk132, List.forall_mem_cons.mpr ⟨lk55, List.forall_mem_cons.mpr ⟨lk56, List.forall_mem_cons.mpr ⟨lk57, List.forall_mem_cons.mpr ⟨lk86, List.forall_mem_cons.mpr ⟨lk20, List.forall_mem_cons.mpr ⟨lk21, List.forall_mem_cons.mpr ⟨lk129, fun _ h => absurd h List.not_mem_nil⟩⟩⟩⟩⟩⟩⟩⟩⟩⟩⟩
set_option maxRecDepth 100000 in
theorem ep_c38 : ev_vr MM ev_w38 = true := ev_vr_mk (l := ep_l38) (scan_vf (by decide +kernel)) ep_k38
def ep_l39 : List (Instr × Nat × Nat) := [(.invokevirtual 130, 28, 1), (.invokestatic 167, 27, 1), (.getfield 19, 10, 1), (.invokevirtual 170, 81, 2)]
set_option maxRecDepth 100000 in
theorem ep_k39 : ∀ q ∈ ep_l39, ∀ pc, ev_kb MM "LeftAnswers" pc q.1 q.2.1 q.2.2 = true := by
  unfold ep_l39
  exact List.forall_mem_cons.mpr ⟨lk39, List.forall_mem_cons.mpr ⟨lk79, List.forall_mem_cons.mpr ⟨lk42, List.forall_mem_cons.mpr ⟨lk133, fun _ h => absurd h List.not_mem_nil⟩⟩⟩⟩
set_option maxRecDepth 100000 in
theorem ep_c39 : ev_vr MM ev_w39 = true := ev_vr_mk (l := ep_l39) (scan_vf (by decide +kernel)) ep_k39
end
section
def ep_l40 : List (Instr × Nat × Nat) := [(.invokevirtual 130, 28, 1), (.getfield 77, 10, 11), (.getfield 19, 10, 1), (.getfield 29, 10, 3), (.invokevirtual 302, 153, 3), (.getfield 306, 8, 1)]
set_option maxRecDepth 100000 in
theorem ep_k40 : ∀ q ∈ ep_l40, ∀ pc, ev_kb MM "LeftAnswers" pc q.1 q.2.1 q.2.2 = true := by
  unfold ep_l40
  exact List.forall_mem_cons.mpr ⟨lk39, List.forall_mem_cons.mpr ⟨lk62, List.forall_mem_cons.mpr ⟨lk42, List.forall_mem_cons.mpr ⟨lk41, List.forall_mem_cons.mpr ⟨lk134, List.forall_mem_cons.mpr ⟨lk63, fun _ h => absurd h List.not_mem_nil⟩⟩⟩⟩⟩⟩
set_option maxRecDepth 100000 in
theorem ep_c40 : ev_vr MM ev_w40 = true := ev_vr_mk (l := ep_l40) (scan_vf (by decide +kernel)) ep_k40
def ep_l41 : List (Instr × Nat × Nat) := [(.getfield 10, 10, 0), (.getfield 378, 9, 10), (.putfield 88, 10, 13), (.putfield 101, 9, 1)]
set_option maxRecDepth 100000 in
theorem ep_k41 : ∀ q ∈ ep_l41, ∀ pc, ev_kb MM "LeftAnswers" pc q.1 q.2.1 q.2.2 = true := by
  unfold ep_l41
  exact List.forall_mem_cons.mpr ⟨lk53, List.forall_mem_cons.mpr ⟨lk135, List.forall_mem_cons.mpr ⟨lk35, List.forall_mem_cons.mpr ⟨lk89, fun _ h => absurd h List.not_mem_nil⟩⟩⟩⟩
set_option maxRecDepth 100000 in
theorem ep_c41 : ev_vr MM ev_w41 = true := ev_vr_mk (l := ep_l41) (scan_vf (by decide +kernel)) ep_k41
def ep_l42 : List (Instr × Nat × Nat) := [(.getfield 10, 10, 0), (.getfield 101, 9, 1), (.invokevirtual 249, 166, 1), (.invokevirtual 174, 26, 1)]
set_option maxRecDepth 100000 in
theorem ep_k42 : ∀ q ∈ ep_l42, ∀ pc, ev_kb MM "LeftAnswers" pc q.1 q.2.1 q.2.2 = true := by
  unfold ep_l42
  exact List.forall_mem_cons.mpr ⟨lk53, List.forall_mem_cons.mpr ⟨lk70, List.forall_mem_cons.mpr ⟨lk96, List.forall_mem_cons.mpr ⟨lk40, fun _ h => absurd h List.not_mem_nil⟩⟩⟩⟩
set_option maxRecDepth 100000 in
theorem ep_c42 : ev_vr MM ev_w42 = true := ev_vr_mk (l := ep_l42) (scan_vf (by decide +kernel)) ep_k42
def ep_l43 : List (Instr × Nat × Nat) := [(.getfield 10, 10, 0), (.getfield 101, 9, 1), (.invokevirtual 249, 166, 1)]
set_option maxRecDepth 100000 in
theorem ep_k43 : ∀ q ∈ ep_l43, ∀ pc, ev_kb MM "LeftAnswers" pc q.1 q.2.1 q.2.2 = true := by
  unfold ep_l43
  exact List.forall_mem_cons.mpr ⟨lk53, List.forall_mem_cons.mpr ⟨lk70, List.forall_mem_cons.mpr ⟨lk96, fun _ h => absurd h List.not_mem_nil⟩⟩⟩
set_option maxRecDepth 100000 in
theorem ep_c43 : ev_vr MM ev_w43 = true := ev_vr_mk (l := ep_l43) (scan_vf (by decide +kernel)) ep_k43
def ep_l44 : List (Instr × Nat × Nat) := [(.getfield 95, 10, 15)]
set_option maxRecDepth 100000 in
theorem ep_k44 : ∀ q ∈ ep_l44, ∀ pc, ev_kb MM "LeftAnswers" pc q.1 q.2.1 q.2.2 = true := by
  unfold ep_l44
  exact List.forall_mem_cons.mpr ⟨lk136, fun _ h => absurd h List.not_mem_nil⟩
set_option maxRecDepth 100000 in
theorem ep_c44 : ev_vr MM ev_w44 = true := ev_vr_mk (l := ep_l44) (scan_vf (by decide +kernel)) ep_k44
def ep_l45 : List (Instr × Nat × Nat) := [(.getfield 46, 10, 6), (.getfield 328, 0, 5), (.getfield 332, 0, 7), (.getfield 335, 0, 8), (.getfield 338, 0, 9), (.getfield 341, 0, 10)]
set_option maxRecDepth 100000 in
theorem ep_k45 : ∀ q ∈ ep_l45, ∀ pc, ev_kb MM "LeftAnswers" pc q.1 q.2.1 q.2.2 = true := by
  unfold ep_l45
  exact List.forall_mem_cons.mpr ⟨lk52, List.forall_mem_cons.mpr ⟨lk137, List.forall_mem_cons.mpr ⟨lk138, List.forall_mem_cons.mpr ⟨lk139, List.forall_mem_cons.mpr ⟨lk140, List.forall_mem_cons.mpr ⟨lk141, fun _ h => absurd h List.not_mem_nil⟩⟩⟩⟩⟩⟩
set_option maxRecDepth 100000 in
theorem ep_c45 : ev_vr MM ev_w45 = true := ev_vr_mk (l := ep_l45) (scan_vf (by decide +kernel)) ep_k45
def ep_l46 : List (Instr × Nat × Nat) := [(.getfield 39, 10, 5), (.getfield 29, 10, 3), (.invokevirtual 234, 131, 1)]
set_option maxRecDepth 100000 in
theorem ep_k46 : ∀ q ∈ ep_l46, ∀ pc, ev_kb MM "LeftAnswers" pc q.1 q.2.1 q.2.2 = true := by
  unfold ep_l46
  exact List.forall_mem_cons.mpr ⟨lk45, List.forall_mem_cons.mpr ⟨lk41, List.forall_mem_cons.mpr ⟨lk142, fun _ h => absurd h List.not_mem_nil⟩⟩⟩
set_option maxRecDepth 100000 in
theorem ep_c46 : ev_vr MM ev_w46 = true := ev_vr_mk (l := ep_l46) (scan_vf (by decide +kernel)) ep_k46
def ep_l47 : List (Instr × Nat × Nat) := [(.invokevirtual 130, 28, 1), (.invokevirtual 214, 2, 4)]
set_option maxRecDepth 100000 in
theorem ep_k47 : ∀ q ∈ ep_l47, ∀ pc, ev_kb MM "LeftAnswers" pc q.1 q.2.1 q.2.2 = true := by
  unfold ep_l47
  exact List.forall_mem_cons.mpr ⟨lk39, List.forall_mem_cons.mpr ⟨lk48, fun _ h => absurd h List.not_mem_nil⟩⟩
set_option maxRecDepth 100000 in
theorem ep_c47 : ev_vr MM ev_w47 = true := ev_vr_mk (l := ep_l47) (scan_vf (by decide +kernel)) ep_k47
def ep_l48 : List (Instr × Nat × Nat) := [(.invokespecial 3, 999, 0), (.newarray .int, 0, 0), (.putfield 11, 0, 0), (.putfield 15, 0, 1), (.putfield 18, 0, 2), (.putfield 21, 0, 3)]
set_option maxRecDepth 100000 in
theorem ep_k48 : ∀ q ∈ ep_l48, ∀ pc, ev_kb MM "LeftAnswers$Book" pc q.1 q.2.1 q.2.2 = true := by
  unfold ep_l48
  exact List.forall_mem_cons.mpr ⟨lk143, List.forall_mem_cons.mpr ⟨lk144, List.forall_mem_cons.mpr ⟨lk145, List.forall_mem_cons.mpr ⟨lk146, List.forall_mem_cons.mpr ⟨lk147, List.forall_mem_cons.mpr ⟨lk148, fun _ h => absurd h List.not_mem_nil⟩⟩⟩⟩⟩⟩
set_option maxRecDepth 100000 in
theorem ep_c48 : ev_vr MM ev_w48 = true := ev_vr_mk (l := ep_l48) (scan_vf (by decide +kernel)) ep_k48
def ep_l49 : List (Instr × Nat × Nat) := [(.getfield 24, 0, 4), (.getfield 11, 0, 0), (.getfield 15, 0, 1), (.getfield 18, 0, 2), (.getfield 21, 0, 3), (.putfield 24, 0, 4)]
set_option maxRecDepth 100000 in
theorem ep_k49 : ∀ q ∈ ep_l49, ∀ pc, ev_kb MM "LeftAnswers$Book" pc q.1 q.2.1 q.2.2 = true := by
  unfold ep_l49
  exact List.forall_mem_cons.mpr ⟨lk149, List.forall_mem_cons.mpr ⟨lk150, List.forall_mem_cons.mpr ⟨lk151, List.forall_mem_cons.mpr ⟨lk152, List.forall_mem_cons.mpr ⟨lk153, List.forall_mem_cons.mpr ⟨lk154, fun _ h => absurd h List.not_mem_nil⟩⟩⟩⟩⟩⟩
set_option maxRecDepth 100000 in
theorem ep_c49 : ev_vr MM ev_w49 = true := ev_vr_mk (l := ep_l49) (scan_vf (by decide +kernel)) ep_k49
def ep_l50 : List (Instr × Nat × Nat) := [(.putfield 101, 0, 7), (.putfield 104, 0, 6), (.putfield 107, 0, 8), (.getfield 24, 0, 4), (.getfield 101, 0, 7), (.getfield 11, 0, 0), (.getfield 15, 0, 1), (.getfield 18, 0, 2), (.getfield 21, 0, 3), (.invokevirtual 110, 116, 5), (.invokevirtual 116, 112, 5), (.getfield 107, 0, 8), (.getfield 120, 3, 0), (.putfield 123, 0, 9), (.invokevirtual 126, 106, 0), (.putfield 129, 0, 10), (.putfield 132, 0, 5)]
set_option maxRecDepth 100000 in
theorem ep_k50 : ∀ q ∈ ep_l50, ∀ pc, ev_kb MM "LeftAnswers$Book" pc q.1 q.2.1 q.2.2 = true := by
  unfold ep_l50
  exact List.forall_mem_cons.mpr ⟨lk155, List.forall_mem_cons.mpr ⟨lk156, List.forall_mem_cons.mpr ⟨lk157, List.forall_mem_cons.mpr ⟨lk149, List.forall_mem_cons.mpr ⟨lk158, List.forall_mem_cons.mpr ⟨lk150, List.forall_mem_cons.mpr ⟨lk151, List.forall_mem_cons.mpr ⟨lk152, List.forall_mem_cons.mpr ⟨lk153, List.forall_mem_cons.mpr ⟨lk159, List.forall_mem_cons.mpr ⟨lk160, List.forall_mem_cons.mpr ⟨lk161, List.forall_mem_cons.mpr ⟨lk162, List.forall_mem_cons.mpr ⟨lk163, List.forall_mem_cons.mpr ⟨lk164, List.forall_mem_cons.mpr ⟨lk165, List.forall_mem_cons.mpr ⟨lk166, fun _ h => absurd h List.not_mem_nil⟩⟩⟩⟩⟩⟩⟩⟩⟩⟩⟩⟩⟩⟩⟩⟩⟩
set_option maxRecDepth 100000 in
theorem ep_c50 : ev_vr MM ev_w50 = true := ev_vr_mk (l := ep_l50) (scan_vf (by decide +kernel)) ep_k50
def ep_l51 : List (Instr × Nat × Nat) := [(.invokevirtual 76, 73, 1), (.getfield 24, 0, 4), (.invokevirtual 58, 165, 1), (.invokevirtual 62, 155, 0), (.getfield 37, 9, 6), (.getstatic 82, 100, 0), (.invokevirtual 87, 900, 0), (.invokevirtual 91, 53, 3), (.invokevirtual 95, 55, 3), (.invokevirtual 72, 49, 4)]
set_option maxRecDepth 100000 in
theorem ep_k51 : ∀ q ∈ ep_l51, ∀ pc, ev_kb MM "LeftAnswers$Book" pc q.1 q.2.1 q.2.2 = true := by
  unfold ep_l51
  exact List.forall_mem_cons.mpr ⟨lk167, List.forall_mem_cons.mpr ⟨lk149, List.forall_mem_cons.mpr ⟨lk168, List.forall_mem_cons.mpr ⟨lk169, List.forall_mem_cons.mpr ⟨lk170, List.forall_mem_cons.mpr ⟨lk171, List.forall_mem_cons.mpr ⟨lk172, List.forall_mem_cons.mpr ⟨lk173, List.forall_mem_cons.mpr ⟨lk174, List.forall_mem_cons.mpr ⟨lk175, fun _ h => absurd h List.not_mem_nil⟩⟩⟩⟩⟩⟩⟩⟩⟩⟩
set_option maxRecDepth 100000 in
theorem ep_c51 : ev_vr MM ev_w51 = true := ev_vr_mk (l := ep_l51) (scan_vf (by decide +kernel)) ep_k51
def ep_l52 : List (Instr × Nat × Nat) := [(.getfield 24, 0, 4), (.invokevirtual 58, 165, 1), (.invokevirtual 62, 155, 0), (.invokevirtual 65, 168, 2), (.getfield 69, 9, 9), (.invokevirtual 72, 49, 4)]
set_option maxRecDepth 100000 in
theorem ep_k52 : ∀ q ∈ ep_l52, ∀ pc, ev_kb MM "LeftAnswers$Book" pc q.1 q.2.1 q.2.2 = true := by
  unfold ep_l52
  exact List.forall_mem_cons.mpr ⟨lk149, List.forall_mem_cons.mpr ⟨lk168, List.forall_mem_cons.mpr ⟨lk169, List.forall_mem_cons.mpr ⟨lk176, List.forall_mem_cons.mpr ⟨lk177, List.forall_mem_cons.mpr ⟨lk175, fun _ h => absurd h List.not_mem_nil⟩⟩⟩⟩⟩⟩
set_option maxRecDepth 100000 in
theorem ep_c52 : ev_vr MM ev_w52 = true := ev_vr_mk (l := ep_l52) (scan_vf (by decide +kernel)) ep_k52
def ep_l53 : List (Instr × Nat × Nat) := [(.invokevirtual 62, 155, 0), (.invokevirtual 98, 63, 1), (.getstatic 82, 100, 0), (.getfield 37, 9, 6), (.invokevirtual 87, 900, 0), (.invokevirtual 72, 49, 4), (.invokevirtual 58, 165, 1)]
set_option maxRecDepth 100000 in
theorem ep_k53 : ∀ q ∈ ep_l53, ∀ pc, ev_kb MM "LeftAnswers$Book" pc q.1 q.2.1 q.2.2 = true := by
  unfold ep_l53
  exact List.forall_mem_cons.mpr ⟨lk169, List.forall_mem_cons.mpr ⟨lk178, List.forall_mem_cons.mpr ⟨lk171, List.forall_mem_cons.mpr ⟨lk170, List.forall_mem_cons.mpr ⟨lk172, List.forall_mem_cons.mpr ⟨lk175, List.forall_mem_cons.mpr ⟨lk168, fun _ h => absurd h List.not_mem_nil⟩⟩⟩⟩⟩⟩⟩
set_option maxRecDepth 100000 in
theorem ep_c53 : ev_vr MM ev_w53 = true := ev_vr_mk (l := ep_l53) (scan_vf (by decide +kernel)) ep_k53
def ep_l54 : List (Instr × Nat × Nat) := [(.putfield 24, 0, 4), (.invokevirtual 28, 161, 1), (.getfield 34, 9, 4), (.getfield 37, 9, 6), (.getstatic 41, 16, 0), (.invokevirtual 46, 52, 1), (.invokevirtual 50, 51, 2), (.invokevirtual 54, 167, 1)]
set_option maxRecDepth 100000 in
theorem ep_k54 : ∀ q ∈ ep_l54, ∀ pc, ev_kb MM "LeftAnswers$Book" pc q.1 q.2.1 q.2.2 = true := by
  unfold ep_l54
  exact List.forall_mem_cons.mpr ⟨lk154, List.forall_mem_cons.mpr ⟨lk179, List.forall_mem_cons.mpr ⟨lk180, List.forall_mem_cons.mpr ⟨lk170, List.forall_mem_cons.mpr ⟨lk181, List.forall_mem_cons.mpr ⟨lk182, List.forall_mem_cons.mpr ⟨lk183, List.forall_mem_cons.mpr ⟨lk184, fun _ h => absurd h List.not_mem_nil⟩⟩⟩⟩⟩⟩⟩⟩
set_option maxRecDepth 100000 in
theorem ep_c54 : ev_vr MM ev_w54 = true := ev_vr_mk (l := ep_l54) (scan_vf (by decide +kernel)) ep_k54
def ep_l55 : List (Instr × Nat × Nat) := [(.invokevirtual 62, 155, 0), (.invokevirtual 76, 73, 1), (.invokevirtual 72, 49, 4)]
set_option maxRecDepth 100000 in
theorem ep_k55 : ∀ q ∈ ep_l55, ∀ pc, ev_kb MM "LeftAnswers$Book" pc q.1 q.2.1 q.2.2 = true := by
  unfold ep_l55
  exact List.forall_mem_cons.mpr ⟨lk169, List.forall_mem_cons.mpr ⟨lk167, List.forall_mem_cons.mpr ⟨lk175, fun _ h => absurd h List.not_mem_nil⟩⟩⟩
set_option maxRecDepth 100000 in
theorem ep_c55 : ev_vr MM ev_w55 = true := ev_vr_mk (l := ep_l55) (scan_vf (by decide +kernel)) ep_k55
def ep_l56 : List (Instr × Nat × Nat) := [(.invokespecial 3, 999, 0), (.newarray .long, 0, 0), (.putfield 9, 1, 7), (.newarray .int, 0, 0), (.putfield 15, 1, 8), (.putfield 19, 1, 9), (.putfield 22, 1, 14), (.putfield 25, 1, 15), (.putfield 28, 1, 10), (.putfield 31, 1, 11), (.putfield 34, 1, 12), (.putfield 37, 1, 13), (.invokevirtual 40, 65, 0)]
set_option maxRecDepth 100000 in
theorem ep_k56 : ∀ q ∈ ep_l56, ∀ pc, ev_kb MM "LeftAnswers$Duchy" pc q.1 q.2.1 q.2.2 = true := by
  unfold ep_l56
  exact List.forall_mem_cons.mpr ⟨lk185, List.forall_mem_cons.mpr ⟨lk186, List.forall_mem_cons.mpr ⟨lk187, List.forall_mem_cons.mpr ⟨lk188, List.forall_mem_cons.mpr ⟨lk189, List.forall_mem_cons.mpr ⟨lk190, List.forall_mem_cons.mpr ⟨lk191, List.forall_mem_cons.mpr ⟨lk192, List.forall_mem_cons.mpr ⟨lk193, List.forall_mem_cons.mpr ⟨lk194, List.forall_mem_cons.mpr ⟨lk195, List.forall_mem_cons.mpr ⟨lk196, List.forall_mem_cons.mpr ⟨lk197, fun _ h => absurd h List.not_mem_nil⟩⟩⟩⟩⟩⟩⟩⟩⟩⟩⟩⟩⟩
set_option maxRecDepth 100000 in
theorem ep_c56 : ev_vr MM ev_w56 = true := ev_vr_mk (l := ep_l56) (scan_vf (by decide +kernel)) ep_k56
def ep_l57 : List (Instr × Nat × Nat) := [(.getfield 43, 1, 0)]
set_option maxRecDepth 100000 in
theorem ep_k57 : ∀ q ∈ ep_l57, ∀ pc, ev_kb MM "LeftAnswers$Duchy" pc q.1 q.2.1 q.2.2 = true := by
  unfold ep_l57
  exact List.forall_mem_cons.mpr ⟨lk198, fun _ h => absurd h List.not_mem_nil⟩
set_option maxRecDepth 100000 in
theorem ep_c57 : ev_vr MM ev_w57 = true := ev_vr_mk (l := ep_l57) (scan_vf (by decide +kernel)) ep_k57
def ep_l58 : List (Instr × Nat × Nat) := [(.getfield 43, 1, 0)]
set_option maxRecDepth 100000 in
theorem ep_k58 : ∀ q ∈ ep_l58, ∀ pc, ev_kb MM "LeftAnswers$Duchy" pc q.1 q.2.1 q.2.2 = true := by
  unfold ep_l58
  exact List.forall_mem_cons.mpr ⟨lk198, fun _ h => absurd h List.not_mem_nil⟩
set_option maxRecDepth 100000 in
theorem ep_c58 : ev_vr MM ev_w58 = true := ev_vr_mk (l := ep_l58) (scan_vf (by decide +kernel)) ep_k58
def ep_l59 : List (Instr × Nat × Nat) := [(.invokestatic 183, 298, 1), (.getfield 47, 1, 1), (.invokevirtual 189, 60, 1), (.invokestatic 192, 299, 1)]
set_option maxRecDepth 100000 in
theorem ep_k59 : ∀ q ∈ ep_l59, ∀ pc, ev_kb MM "LeftAnswers$Duchy" pc q.1 q.2.1 q.2.2 = true := by
  unfold ep_l59
  exact List.forall_mem_cons.mpr ⟨lk199, List.forall_mem_cons.mpr ⟨lk200, List.forall_mem_cons.mpr ⟨lk201, List.forall_mem_cons.mpr ⟨lk202, fun _ h => absurd h List.not_mem_nil⟩⟩⟩⟩
set_option maxRecDepth 100000 in
theorem ep_c59 : ev_vr MM ev_w59 = true := ev_vr_mk (l := ep_l59) (scan_vf (by decide +kernel)) ep_k59
def ep_l60 : List (Instr × Nat × Nat) := [(.getfield 43, 1, 0), (.invokevirtual 179, 69, 3)]
set_option maxRecDepth 100000 in
theorem ep_k60 : ∀ q ∈ ep_l60, ∀ pc, ev_kb MM "LeftAnswers$Duchy" pc q.1 q.2.1 q.2.2 = true := by
  unfold ep_l60
  exact List.forall_mem_cons.mpr ⟨lk198, List.forall_mem_cons.mpr ⟨lk203, fun _ h => absurd h List.not_mem_nil⟩⟩
set_option maxRecDepth 100000 in
theorem ep_c60 : ev_vr MM ev_w60 = true := ev_vr_mk (l := ep_l60) (scan_vf (by decide +kernel)) ep_k60
def ep_l61 : List (Instr × Nat × Nat) := [(.putfield 43, 1, 0), (.putfield 47, 1, 1), (.putfield 50, 1, 2), (.putfield 53, 1, 3), (.putfield 56, 1, 4), (.putfield 59, 1, 5), (.putfield 62, 1, 6), (.getfield 22, 1, 14), (.getfield 25, 1, 15)]
set_option maxRecDepth 100000 in
theorem ep_k61 : ∀ q ∈ ep_l61, ∀ pc, ev_kb MM "LeftAnswers$Duchy" pc q.1 q.2.1 q.2.2 = true := by
  unfold ep_l61
  exact List.forall_mem_cons.mpr ⟨lk204, List.forall_mem_cons.mpr ⟨lk205, List.forall_mem_cons.mpr ⟨lk206, List.forall_mem_cons.mpr ⟨lk207, List.forall_mem_cons.mpr ⟨lk208, List.forall_mem_cons.mpr ⟨lk209, List.forall_mem_cons.mpr ⟨lk210, List.forall_mem_cons.mpr ⟨lk211, List.forall_mem_cons.mpr ⟨lk212, fun _ h => absurd h List.not_mem_nil⟩⟩⟩⟩⟩⟩⟩⟩⟩
set_option maxRecDepth 100000 in
theorem ep_c61 : ev_vr MM ev_w61 = true := ev_vr_mk (l := ep_l61) (scan_vf (by decide +kernel)) ep_k61
def ep_l62 : List (Instr × Nat × Nat) := [(.getfield 43, 1, 0), (.putfield 43, 1, 0), (.getfield 47, 1, 1), (.putfield 47, 1, 1), (.getfield 50, 1, 2), (.putfield 50, 1, 2), (.getfield 53, 1, 3), (.putfield 53, 1, 3), (.getfield 56, 1, 4), (.putfield 56, 1, 4), (.getfield 59, 1, 5), (.putfield 59, 1, 5), (.getfield 62, 1, 6), (.putfield 62, 1, 6), (.getfield 9, 1, 7), (.invokestatic 65, 904, 5), (.getfield 15, 1, 8), (.getfield 19, 1, 9), (.getfield 22, 1, 14), (.getfield 25, 1, 15), (.getfield 28, 1, 10), (.getfield 31, 1, 11), (.getfield 34, 1, 12), (.getfield 37, 1, 13)]
set_option maxRecDepth 100000 in
theorem ep_k62 : ∀ q ∈ ep_l62, ∀ pc, ev_kb MM "LeftAnswers$Duchy" pc q.1 q.2.1 q.2.2 = true := by
  unfold ep_l62
  exact List.forall_mem_cons.mpr ⟨lk198, List.forall_mem_cons.mpr ⟨lk204, List.forall_mem_cons.mpr ⟨lk200, List.forall_mem_cons.mpr ⟨lk205, List.forall_mem_cons.mpr ⟨lk213, List.forall_mem_cons.mpr ⟨lk206, List.forall_mem_cons.mpr ⟨lk214, List.forall_mem_cons.mpr ⟨lk207, List.forall_mem_cons.mpr ⟨lk215, List.forall_mem_cons.mpr ⟨lk208, List.forall_mem_cons.mpr ⟨lk216, List.forall_mem_cons.mpr ⟨lk209, List.forall_mem_cons.mpr ⟨lk217, List.forall_mem_cons.mpr ⟨lk210, List.forall_mem_cons.mpr ⟨lk218, List.forall_mem_cons.mpr ⟨lk219, List.forall_mem_cons.mpr ⟨lk220, List.forall_mem_cons.mpr ⟨lk221, List.forall_mem_cons.mpr ⟨lk211, List.forall_mem_cons.mpr ⟨lk212, List.forall_mem_cons.mpr ⟨lk222, List.forall_mem_cons.mpr ⟨lk223, List.forall_mem_cons.mpr ⟨lk224, List.forall_mem_cons.mpr ⟨lk225, fun _ h => absurd h List.not_mem_nil⟩⟩⟩⟩⟩⟩⟩⟩⟩⟩⟩⟩⟩⟩⟩⟩⟩⟩⟩⟩⟩⟩⟩⟩
set_option maxRecDepth 100000 in
theorem ep_c62 : ev_vr MM ev_w62 = true := ev_vr_mk (l := ep_l62) (scan_vf (by decide +kernel)) ep_k62
def ep_l63 : List (Instr × Nat × Nat) := [(.getfield 28, 1, 10), (.getfield 47, 1, 1), (.invokestatic 165, 71, 3)]
set_option maxRecDepth 100000 in
theorem ep_k63 : ∀ q ∈ ep_l63, ∀ pc, ev_kb MM "LeftAnswers$Duchy" pc q.1 q.2.1 q.2.2 = true := by
  unfold ep_l63
  exact List.forall_mem_cons.mpr ⟨lk222, List.forall_mem_cons.mpr ⟨lk200, List.forall_mem_cons.mpr ⟨lk226, fun _ h => absurd h List.not_mem_nil⟩⟩⟩
set_option maxRecDepth 100000 in
theorem ep_c63 : ev_vr MM ev_w63 = true := ev_vr_mk (l := ep_l63) (scan_vf (by decide +kernel)) ep_k63
def ep_l64 : List (Instr × Nat × Nat) := [(.invokevirtual 200, 58, 0), (.invokestatic 183, 298, 1), (.invokevirtual 197, 82, 1)]
set_option maxRecDepth 100000 in
theorem ep_k64 : ∀ q ∈ ep_l64, ∀ pc, ev_kb MM "LeftAnswers$Duchy" pc q.1 q.2.1 q.2.2 = true := by
  unfold ep_l64
  exact List.forall_mem_cons.mpr ⟨lk227, List.forall_mem_cons.mpr ⟨lk199, List.forall_mem_cons.mpr ⟨lk228, fun _ h => absurd h List.not_mem_nil⟩⟩⟩
set_option maxRecDepth 100000 in
theorem ep_c64 : ev_vr MM ev_w64 = true := ev_vr_mk (l := ep_l64) (scan_vf (by decide +kernel)) ep_k64
def ep_l65 : List (Instr × Nat × Nat) := [(.getfield 50, 1, 2), (.putfield 50, 1, 2), (.getfield 53, 1, 3), (.putfield 53, 1, 3), (.getfield 56, 1, 4), (.putfield 56, 1, 4)]
set_option maxRecDepth 100000 in
theorem ep_k65 : ∀ q ∈ ep_l65, ∀ pc, ev_kb MM "LeftAnswers$Duchy" pc q.1 q.2.1 q.2.2 = true := by
  unfold ep_l65
  exact List.forall_mem_cons.mpr ⟨lk213, List.forall_mem_cons.mpr ⟨lk206, List.forall_mem_cons.mpr ⟨lk214, List.forall_mem_cons.mpr ⟨lk207, List.forall_mem_cons.mpr ⟨lk215, List.forall_mem_cons.mpr ⟨lk208, fun _ h => absurd h List.not_mem_nil⟩⟩⟩⟩⟩⟩
set_option maxRecDepth 100000 in
theorem ep_c65 : ev_vr MM ev_w65 = true := ev_vr_mk (l := ep_l65) (scan_vf (by decide +kernel)) ep_k65
def ep_l66 : List (Instr × Nat × Nat) := []
set_option maxRecDepth 100000 in
theorem ep_k66 : ∀ q ∈ ep_l66, ∀ pc, ev_kb MM "LeftAnswers$Duchy" pc q.1 q.2.1 q.2.2 = true := by
  unfold ep_l66
  exact fun _ h => absurd h List.not_mem_nil
set_option maxRecDepth 100000 in
theorem ep_c66 : ev_vr MM ev_w66 = true := ev_vr_mk (l := ep_l66) (scan_vf (by decide +kernel)) ep_k66
def ep_l67 : List (Instr × Nat × Nat) := [(.getfield 25, 1, 15)]
set_option maxRecDepth 100000 in
theorem ep_k67 : ∀ q ∈ ep_l67, ∀ pc, ev_kb MM "LeftAnswers$Duchy" pc q.1 q.2.1 q.2.2 = true := by
  unfold ep_l67
  exact List.forall_mem_cons.mpr ⟨lk212, fun _ h => absurd h List.not_mem_nil⟩
set_option maxRecDepth 100000 in
theorem ep_c67 : ev_vr MM ev_w67 = true := ev_vr_mk (l := ep_l67) (scan_vf (by decide +kernel)) ep_k67
def ep_l68 : List (Instr × Nat × Nat) := [(.invokevirtual 169, 72, 1)]
set_option maxRecDepth 100000 in
theorem ep_k68 : ∀ q ∈ ep_l68, ∀ pc, ev_kb MM "LeftAnswers$Duchy" pc q.1 q.2.1 q.2.2 = true := by
  unfold ep_l68
  exact List.forall_mem_cons.mpr ⟨lk229, fun _ h => absurd h List.not_mem_nil⟩
set_option maxRecDepth 100000 in
theorem ep_c68 : ev_vr MM ev_w68 = true := ev_vr_mk (l := ep_l68) (scan_vf (by decide +kernel)) ep_k68
def ep_l69 : List (Instr × Nat × Nat) := [(.invokevirtual 172, 68, 2), (.invokevirtual 175, 81, 2), (.getfield 31, 1, 11)]
set_option maxRecDepth 100000 in
theorem ep_k69 : ∀ q ∈ ep_l69, ∀ pc, ev_kb MM "LeftAnswers$Duchy" pc q.1 q.2.1 q.2.2 = true := by
  unfold ep_l69
  exact List.forall_mem_cons.mpr ⟨lk230, List.forall_mem_cons.mpr ⟨lk231, List.forall_mem_cons.mpr ⟨lk223, fun _ h => absurd h List.not_mem_nil⟩⟩⟩
set_option maxRecDepth 100000 in
theorem ep_c69 : ev_vr MM ev_w69 = true := ev_vr_mk (l := ep_l69) (scan_vf (by decide +kernel)) ep_k69
def ep_l70 : List (Instr × Nat × Nat) := [(.getfield 88, 9, 6), (.getstatic 158, 1, 0), (.invokevirtual 114, 165, 1), (.getfield 9, 1, 7), (.getfield 43, 1, 0), (.getfield 128, 9, 7), (.invokestatic 161, 66, 3), (.getfield 28, 1, 10), (.getfield 47, 1, 1)]
set_option maxRecDepth 100000 in
theorem ep_k70 : ∀ q ∈ ep_l70, ∀ pc, ev_kb MM "LeftAnswers$Duchy" pc q.1 q.2.1 q.2.2 = true := by
  unfold ep_l70
  exact List.forall_mem_cons.mpr ⟨lk232, List.forall_mem_cons.mpr ⟨lk233, List.forall_mem_cons.mpr ⟨lk234, List.forall_mem_cons.mpr ⟨lk218, List.forall_mem_cons.mpr ⟨lk198, List.forall_mem_cons.mpr ⟨lk235, List.forall_mem_cons.mpr ⟨lk236, List.forall_mem_cons.mpr ⟨lk222, List.forall_mem_cons.mpr ⟨lk200, fun _ h => absurd h List.not_mem_nil⟩⟩⟩⟩⟩⟩⟩⟩⟩
set_option maxRecDepth 100000 in
theorem ep_c70 : ev_vr MM ev_w70 = true := ev_vr_mk (l := ep_l70) (scan_vf (by decide +kernel)) ep_k70
def ep_l71 : List (Instr × Nat × Nat) := [(.getfield 88, 9, 6), (.getstatic 158, 1, 0), (.invokevirtual 114, 165, 1), (.getfield 128, 9, 7), (.invokestatic 161, 66, 3)]
set_option maxRecDepth 100000 in
theorem ep_k71 : ∀ q ∈ ep_l71, ∀ pc, ev_kb MM "LeftAnswers$Duchy" pc q.1 q.2.1 q.2.2 = true := by
  unfold ep_l71
  exact List.forall_mem_cons.mpr ⟨lk232, List.forall_mem_cons.mpr ⟨lk233, List.forall_mem_cons.mpr ⟨lk234, List.forall_mem_cons.mpr ⟨lk235, List.forall_mem_cons.mpr ⟨lk236, fun _ h => absurd h List.not_mem_nil⟩⟩⟩⟩⟩
set_option maxRecDepth 100000 in
theorem ep_c71 : ev_vr MM ev_w71 = true := ev_vr_mk (l := ep_l71) (scan_vf (by decide +kernel)) ep_k71
def ep_l72 : List (Instr × Nat × Nat) := [(.getfield 62, 1, 6)]
set_option maxRecDepth 100000 in
theorem ep_k72 : ∀ q ∈ ep_l72, ∀ pc, ev_kb MM "LeftAnswers$Duchy" pc q.1 q.2.1 q.2.2 = true := by
  unfold ep_l72
  exact List.forall_mem_cons.mpr ⟨lk217, fun _ h => absurd h List.not_mem_nil⟩
set_option maxRecDepth 100000 in
theorem ep_c72 : ev_vr MM ev_w72 = true := ev_vr_mk (l := ep_l72) (scan_vf (by decide +kernel)) ep_k72
def ep_l73 : List (Instr × Nat × Nat) := [(.getfield 9, 1, 7), (.getfield 43, 1, 0), (.invokestatic 165, 71, 3)]
set_option maxRecDepth 100000 in
theorem ep_k73 : ∀ q ∈ ep_l73, ∀ pc, ev_kb MM "LeftAnswers$Duchy" pc q.1 q.2.1 q.2.2 = true := by
  unfold ep_l73
  exact List.forall_mem_cons.mpr ⟨lk218, List.forall_mem_cons.mpr ⟨lk198, List.forall_mem_cons.mpr ⟨lk226, fun _ h => absurd h List.not_mem_nil⟩⟩⟩
set_option maxRecDepth 100000 in
theorem ep_c73 : ev_vr MM ev_w73 = true := ev_vr_mk (l := ep_l73) (scan_vf (by decide +kernel)) ep_k73
def ep_l74 : List (Instr × Nat × Nat) := [(.getfield 47, 1, 1), (.invokevirtual 114, 165, 1), (.invokevirtual 122, 155, 0), (.invokevirtual 125, 70, 1), (.getfield 28, 1, 10), (.getfield 128, 9, 7), (.invokevirtual 132, 168, 2), (.getfield 31, 1, 11), (.getfield 136, 9, 9), (.getfield 34, 1, 12), (.getfield 37, 1, 13), (.getfield 88, 9, 6), (.getstatic 142, 5, 0), (.getfield 62, 1, 6), (.putfield 62, 1, 6), (.putfield 47, 1, 1)]
set_option maxRecDepth 100000 in
theorem ep_k74 : ∀ q ∈ ep_l74, ∀ pc, ev_kb MM "LeftAnswers$Duchy" pc q.1 q.2.1 q.2.2 = true := by
  unfold ep_l74
  exact List.forall_mem_cons.mpr ⟨lk200, List.forall_mem_cons.mpr ⟨lk234, List.forall_mem_cons.mpr ⟨lk237, List.forall_mem_cons.mpr ⟨lk238, List.forall_mem_cons.mpr ⟨lk222, List.forall_mem_cons.mpr ⟨lk235, List.forall_mem_cons.mpr ⟨lk239, List.forall_mem_cons.mpr ⟨lk223, List.forall_mem_cons.mpr ⟨lk240, List.forall_mem_cons.mpr ⟨lk224, List.forall_mem_cons.mpr ⟨lk225, List.forall_mem_cons.mpr ⟨lk232, List.forall_mem_cons.mpr ⟨lk241, List.forall_mem_cons.mpr ⟨lk217, List.forall_mem_cons.mpr ⟨lk210, List.forall_mem_cons.mpr ⟨lk205, fun _ h => absurd h List.not_mem_nil⟩⟩⟩⟩⟩⟩⟩⟩⟩⟩⟩⟩⟩⟩⟩⟩
set_option maxRecDepth 100000 in
theorem ep_c74 : ev_vr MM ev_w74 = true := ev_vr_mk (l := ep_l74) (scan_vf (by decide +kernel)) ep_k74
def ep_l75 : List (Instr × Nat × Nat) := [(.invokevirtual 145, 80, 1), (.getfield 25, 1, 15), (.invokevirtual 114, 165, 1), (.invokevirtual 122, 155, 0), (.invokevirtual 132, 168, 2), (.getfield 136, 9, 9)]
set_option maxRecDepth 100000 in
theorem ep_k75 : ∀ q ∈ ep_l75, ∀ pc, ev_kb MM "LeftAnswers$Duchy" pc q.1 q.2.1 q.2.2 = true := by
  unfold ep_l75
  exact List.forall_mem_cons.mpr ⟨lk242, List.forall_mem_cons.mpr ⟨lk212, List.forall_mem_cons.mpr ⟨lk234, List.forall_mem_cons.mpr ⟨lk237, List.forall_mem_cons.mpr ⟨lk239, List.forall_mem_cons.mpr ⟨lk240, fun _ h => absurd h List.not_mem_nil⟩⟩⟩⟩⟩⟩
set_option maxRecDepth 100000 in
theorem ep_c75 : ev_vr MM ev_w75 = true := ev_vr_mk (l := ep_l75) (scan_vf (by decide +kernel)) ep_k75
def ep_l76 : List (Instr × Nat × Nat) := [(.invokevirtual 71, 61, 0), (.invokevirtual 74, 161, 1), (.getfield 80, 9, 4), (.invokevirtual 40, 65, 0), (.getstatic 83, 100, 0), (.getfield 88, 9, 6), (.invokevirtual 92, 900, 0), (.invokevirtual 98, 78, 1), (.invokevirtual 102, 74, 1), (.invokevirtual 105, 79, 1), (.invokevirtual 108, 75, 1), (.invokevirtual 111, 77, 1), (.invokevirtual 114, 165, 1), (.invokevirtual 118, 167, 1)]
set_option maxRecDepth 100000 in
theorem ep_k76 : ∀ q ∈ ep_l76, ∀ pc, ev_kb MM "LeftAnswers$Duchy" pc q.1 q.2.1 q.2.2 = true := by
  unfold ep_l76
  exact List.forall_mem_cons.mpr ⟨lk243, List.forall_mem_cons.mpr ⟨lk244, List.forall_mem_cons.mpr ⟨lk245, List.forall_mem_cons.mpr ⟨lk197, List.forall_mem_cons.mpr ⟨lk246, List.forall_mem_cons.mpr ⟨lk232, List.forall_mem_cons.mpr ⟨lk247, List.forall_mem_cons.mpr ⟨lk248, List.forall_mem_cons.mpr ⟨lk249, List.forall_mem_cons.mpr ⟨lk250, List.forall_mem_cons.mpr ⟨lk251, List.forall_mem_cons.mpr ⟨lk252, List.forall_mem_cons.mpr ⟨lk234, List.forall_mem_cons.mpr ⟨lk253, fun _ h => absurd h List.not_mem_nil⟩⟩⟩⟩⟩⟩⟩⟩⟩⟩⟩⟩⟩⟩
set_option maxRecDepth 100000 in
theorem ep_c76 : ev_vr MM ev_w76 = true := ev_vr_mk (l := ep_l76) (scan_vf (by decide +kernel)) ep_k76
def ep_l77 : List (Instr × Nat × Nat) := [(.getfield 88, 9, 6), (.getstatic 152, 8, 0), (.getfield 50, 1, 2), (.getstatic 155, 9, 0), (.getfield 53, 1, 3), (.getfield 56, 1, 4), (.invokevirtual 114, 165, 1), (.invokevirtual 122, 155, 0), (.invokevirtual 132, 168, 2), (.getfield 136, 9, 9), (.putfield 50, 1, 2), (.putfield 53, 1, 3), (.putfield 56, 1, 4)]
set_option maxRecDepth 100000 in
theorem ep_k77 : ∀ q ∈ ep_l77, ∀ pc, ev_kb MM "LeftAnswers$Duchy" pc q.1 q.2.1 q.2.2 = true := by
  unfold ep_l77
  exact List.forall_mem_cons.mpr ⟨lk232, List.forall_mem_cons.mpr ⟨lk254, List.forall_mem_cons.mpr ⟨lk213, List.forall_mem_cons.mpr ⟨lk255, List.forall_mem_cons.mpr ⟨lk214, List.forall_mem_cons.mpr ⟨lk215, List.forall_mem_cons.mpr ⟨lk234, List.forall_mem_cons.mpr ⟨lk237, List.forall_mem_cons.mpr ⟨lk239, List.forall_mem_cons.mpr ⟨lk240, List.forall_mem_cons.mpr ⟨lk206, List.forall_mem_cons.mpr ⟨lk207, List.forall_mem_cons.mpr ⟨lk208, fun _ h => absurd h List.not_mem_nil⟩⟩⟩⟩⟩⟩⟩⟩⟩⟩⟩⟩⟩
set_option maxRecDepth 100000 in
theorem ep_c77 : ev_vr MM ev_w77 = true := ev_vr_mk (l := ep_l77) (scan_vf (by decide +kernel)) ep_k77
def ep_l78 : List (Instr × Nat × Nat) := [(.getfield 43, 1, 0), (.invokevirtual 114, 165, 1), (.invokevirtual 122, 155, 0), (.invokevirtual 125, 70, 1), (.getfield 9, 1, 7), (.getfield 128, 9, 7), (.invokevirtual 132, 168, 2), (.getfield 15, 1, 8), (.getfield 136, 9, 9), (.getfield 19, 1, 9), (.getfield 88, 9, 6), (.getstatic 139, 3, 0), (.getfield 59, 1, 5), (.putfield 59, 1, 5), (.putfield 43, 1, 0)]
set_option maxRecDepth 100000 in
theorem ep_k78 : ∀ q ∈ ep_l78, ∀ pc, ev_kb MM "LeftAnswers$Duchy" pc q.1 q.2.1 q.2.2 = true := by
  unfold ep_l78
  exact List.forall_mem_cons.mpr ⟨lk198, List.forall_mem_cons.mpr ⟨lk234, List.forall_mem_cons.mpr ⟨lk237, List.forall_mem_cons.mpr ⟨lk238, List.forall_mem_cons.mpr ⟨lk218, List.forall_mem_cons.mpr ⟨lk235, List.forall_mem_cons.mpr ⟨lk239, List.forall_mem_cons.mpr ⟨lk220, List.forall_mem_cons.mpr ⟨lk240, List.forall_mem_cons.mpr ⟨lk221, List.forall_mem_cons.mpr ⟨lk232, List.forall_mem_cons.mpr ⟨lk256, List.forall_mem_cons.mpr ⟨lk216, List.forall_mem_cons.mpr ⟨lk209, List.forall_mem_cons.mpr ⟨lk204, fun _ h => absurd h List.not_mem_nil⟩⟩⟩⟩⟩⟩⟩⟩⟩⟩⟩⟩⟩⟩⟩
set_option maxRecDepth 100000 in
theorem ep_c78 : ev_vr MM ev_w78 = true := ev_vr_mk (l := ep_l78) (scan_vf (by decide +kernel)) ep_k78
def ep_l79 : List (Instr × Nat × Nat) := [(.invokevirtual 145, 80, 1), (.getfield 22, 1, 14), (.invokevirtual 114, 165, 1), (.invokevirtual 122, 155, 0)]
set_option maxRecDepth 100000 in
theorem ep_k79 : ∀ q ∈ ep_l79, ∀ pc, ev_kb MM "LeftAnswers$Duchy" pc q.1 q.2.1 q.2.2 = true := by
  unfold ep_l79
  exact List.forall_mem_cons.mpr ⟨lk242, List.forall_mem_cons.mpr ⟨lk211, List.forall_mem_cons.mpr ⟨lk234, List.forall_mem_cons.mpr ⟨lk237, fun _ h => absurd h List.not_mem_nil⟩⟩⟩⟩
set_option maxRecDepth 100000 in
theorem ep_c79 : ev_vr MM ev_w79 = true := ev_vr_mk (l := ep_l79) (scan_vf (by decide +kernel)) ep_k79
end
section
def ep_l80 : List (Instr × Nat × Nat) := [(.invokevirtual 122, 155, 0), (.invokevirtual 149, 73, 1), (.invokevirtual 114, 165, 1)]
set_option maxRecDepth 100000 in
theorem ep_k80 : ∀ q ∈ ep_l80, ∀ pc, ev_kb MM "LeftAnswers$Duchy" pc q.1 q.2.1 q.2.2 = true := by
  unfold ep_l80
  exact List.forall_mem_cons.mpr ⟨lk237, List.forall_mem_cons.mpr ⟨lk257, List.forall_mem_cons.mpr ⟨lk234, fun _ h => absurd h List.not_mem_nil⟩⟩⟩
set_option maxRecDepth 100000 in
theorem ep_c80 : ev_vr MM ev_w80 = true := ev_vr_mk (l := ep_l80) (scan_vf (by decide +kernel)) ep_k80
def ep_l81 : List (Instr × Nat × Nat) := [(.getfield 15, 1, 8), (.getfield 19, 1, 9)]
set_option maxRecDepth 100000 in
theorem ep_k81 : ∀ q ∈ ep_l81, ∀ pc, ev_kb MM "LeftAnswers$Duchy" pc q.1 q.2.1 q.2.2 = true := by
  unfold ep_l81
  exact List.forall_mem_cons.mpr ⟨lk220, List.forall_mem_cons.mpr ⟨lk221, fun _ h => absurd h List.not_mem_nil⟩⟩
set_option maxRecDepth 100000 in
theorem ep_c81 : ev_vr MM ev_w81 = true := ev_vr_mk (l := ep_l81) (scan_vf (by decide +kernel)) ep_k81
def ep_l82 : List (Instr × Nat × Nat) := [(.getfield 43, 1, 0), (.getfield 22, 1, 14)]
set_option maxRecDepth 100000 in
theorem ep_k82 : ∀ q ∈ ep_l82, ∀ pc, ev_kb MM "LeftAnswers$Duchy" pc q.1 q.2.1 q.2.2 = true := by
  unfold ep_l82
  exact List.forall_mem_cons.mpr ⟨lk198, List.forall_mem_cons.mpr ⟨lk211, fun _ h => absurd h List.not_mem_nil⟩⟩
set_option maxRecDepth 100000 in
theorem ep_c82 : ev_vr MM ev_w82 = true := ev_vr_mk (l := ep_l82) (scan_vf (by decide +kernel)) ep_k82
def ep_l83 : List (Instr × Nat × Nat) := [(.invokevirtual 197, 82, 1)]
set_option maxRecDepth 100000 in
theorem ep_k83 : ∀ q ∈ ep_l83, ∀ pc, ev_kb MM "LeftAnswers$Duchy" pc q.1 q.2.1 q.2.2 = true := by
  unfold ep_l83
  exact List.forall_mem_cons.mpr ⟨lk228, fun _ h => absurd h List.not_mem_nil⟩
set_option maxRecDepth 100000 in
theorem ep_c83 : ev_vr MM ev_w83 = true := ev_vr_mk (l := ep_l83) (scan_vf (by decide +kernel)) ep_k83
def ep_l84 : List (Instr × Nat × Nat) := [(.invokespecial 1, 999, 0), (.new 7, 1, 0), (.invokespecial 9, 56, 0), (.putfield 10, 2, 1), (.new 16, 3, 0), (.invokespecial 18, 87, 0), (.putfield 19, 2, 2), (.new 23, 7, 0), (.invokespecial 25, 132, 0), (.putfield 26, 2, 3)]
set_option maxRecDepth 100000 in
theorem ep_k84 : ∀ q ∈ ep_l84, ∀ pc, ev_kb MM "LeftAnswers$Image" pc q.1 q.2.1 q.2.2 = true := by
  unfold ep_l84
  exact List.forall_mem_cons.mpr ⟨lk258, List.forall_mem_cons.mpr ⟨lk259, List.forall_mem_cons.mpr ⟨lk260, List.forall_mem_cons.mpr ⟨lk261, List.forall_mem_cons.mpr ⟨lk262, List.forall_mem_cons.mpr ⟨lk263, List.forall_mem_cons.mpr ⟨lk264, List.forall_mem_cons.mpr ⟨lk265, List.forall_mem_cons.mpr ⟨lk266, List.forall_mem_cons.mpr ⟨lk267, fun _ h => absurd h List.not_mem_nil⟩⟩⟩⟩⟩⟩⟩⟩⟩⟩
set_option maxRecDepth 100000 in
theorem ep_c84 : ev_vr MM ev_w84 = true := ev_vr_mk (l := ep_l84) (scan_vf (by decide +kernel)) ep_k84
def ep_l85 : List (Instr × Nat × Nat) := [(.getfield 10, 2, 1), (.invokevirtual 30, 62, 1), (.getfield 19, 2, 2), (.invokevirtual 34, 94, 1), (.getfield 26, 2, 3), (.invokevirtual 37, 137, 1)]
set_option maxRecDepth 100000 in
theorem ep_k85 : ∀ q ∈ ep_l85, ∀ pc, ev_kb MM "LeftAnswers$Image" pc q.1 q.2.1 q.2.2 = true := by
  unfold ep_l85
  exact List.forall_mem_cons.mpr ⟨lk268, List.forall_mem_cons.mpr ⟨lk269, List.forall_mem_cons.mpr ⟨lk270, List.forall_mem_cons.mpr ⟨lk271, List.forall_mem_cons.mpr ⟨lk272, List.forall_mem_cons.mpr ⟨lk273, fun _ h => absurd h List.not_mem_nil⟩⟩⟩⟩⟩⟩
set_option maxRecDepth 100000 in
theorem ep_c85 : ev_vr MM ev_w85 = true := ev_vr_mk (l := ep_l85) (scan_vf (by decide +kernel)) ep_k85
def ep_l86 : List (Instr × Nat × Nat) := [(.getfield 10, 2, 1), (.invokevirtual 30, 62, 1), (.getfield 19, 2, 2), (.invokevirtual 34, 94, 1), (.getfield 26, 2, 3), (.invokevirtual 37, 137, 1), (.putfield 40, 2, 0)]
set_option maxRecDepth 100000 in
theorem ep_k86 : ∀ q ∈ ep_l86, ∀ pc, ev_kb MM "LeftAnswers$Image" pc q.1 q.2.1 q.2.2 = true := by
  unfold ep_l86
  exact List.forall_mem_cons.mpr ⟨lk268, List.forall_mem_cons.mpr ⟨lk269, List.forall_mem_cons.mpr ⟨lk270, List.forall_mem_cons.mpr ⟨lk271, List.forall_mem_cons.mpr ⟨lk272, List.forall_mem_cons.mpr ⟨lk273, List.forall_mem_cons.mpr ⟨lk274, fun _ h => absurd h List.not_mem_nil⟩⟩⟩⟩⟩⟩⟩
set_option maxRecDepth 100000 in
theorem ep_c86 : ev_vr MM ev_w86 = true := ev_vr_mk (l := ep_l86) (scan_vf (by decide +kernel)) ep_k86
def ep_l87 : List (Instr × Nat × Nat) := [(.invokespecial 3, 999, 0), (.newarray .int, 0, 0), (.putfield 9, 3, 5), (.putfield 15, 3, 6), (.putfield 18, 3, 7), (.putfield 21, 3, 8), (.putfield 24, 3, 9), (.putfield 27, 3, 10), (.putfield 30, 3, 11), (.invokevirtual 33, 91, 1)]
set_option maxRecDepth 100000 in
theorem ep_k87 : ∀ q ∈ ep_l87, ∀ pc, ev_kb MM "LeftAnswers$Life" pc q.1 q.2.1 q.2.2 = true := by
  unfold ep_l87
  exact List.forall_mem_cons.mpr ⟨lk275, List.forall_mem_cons.mpr ⟨lk276, List.forall_mem_cons.mpr ⟨lk277, List.forall_mem_cons.mpr ⟨lk278, List.forall_mem_cons.mpr ⟨lk279, List.forall_mem_cons.mpr ⟨lk280, List.forall_mem_cons.mpr ⟨lk281, List.forall_mem_cons.mpr ⟨lk282, List.forall_mem_cons.mpr ⟨lk283, List.forall_mem_cons.mpr ⟨lk284, fun _ h => absurd h List.not_mem_nil⟩⟩⟩⟩⟩⟩⟩⟩⟩⟩
set_option maxRecDepth 100000 in
theorem ep_c87 : ev_vr MM ev_w87 = true := ev_vr_mk (l := ep_l87) (scan_vf (by decide +kernel)) ep_k87
def ep_l88 : List (Instr × Nat × Nat) := [(.invokevirtual 75, 117, 4)]
set_option maxRecDepth 100000 in
theorem ep_k88 : ∀ q ∈ ep_l88, ∀ pc, ev_kb MM "LeftAnswers$Life" pc q.1 q.2.1 q.2.2 = true := by
  unfold ep_l88
  exact List.forall_mem_cons.mpr ⟨lk285, fun _ h => absurd h List.not_mem_nil⟩
set_option maxRecDepth 100000 in
theorem ep_c88 : ev_vr MM ev_w88 = true := ev_vr_mk (l := ep_l88) (scan_vf (by decide +kernel)) ep_k88
def ep_l89 : List (Instr × Nat × Nat) := [(.getfield 15, 3, 6), (.getfield 135, 1, 2), (.getfield 18, 3, 7), (.getfield 138, 1, 3), (.getfield 41, 3, 1), (.putfield 41, 3, 1)]
set_option maxRecDepth 100000 in
theorem ep_k89 : ∀ q ∈ ep_l89, ∀ pc, ev_kb MM "LeftAnswers$Life" pc q.1 q.2.1 q.2.2 = true := by
  unfold ep_l89
  exact List.forall_mem_cons.mpr ⟨lk286, List.forall_mem_cons.mpr ⟨lk287, List.forall_mem_cons.mpr ⟨lk288, List.forall_mem_cons.mpr ⟨lk289, List.forall_mem_cons.mpr ⟨lk290, List.forall_mem_cons.mpr ⟨lk291, fun _ h => absurd h List.not_mem_nil⟩⟩⟩⟩⟩⟩
set_option maxRecDepth 100000 in
theorem ep_c89 : ev_vr MM ev_w89 = true := ev_vr_mk (l := ep_l89) (scan_vf (by decide +kernel)) ep_k89
def ep_l90 : List (Instr × Nat × Nat) := [(.getfield 9, 3, 5)]
set_option maxRecDepth 100000 in
theorem ep_k90 : ∀ q ∈ ep_l90, ∀ pc, ev_kb MM "LeftAnswers$Life" pc q.1 q.2.1 q.2.2 = true := by
  unfold ep_l90
  exact List.forall_mem_cons.mpr ⟨lk292, fun _ h => absurd h List.not_mem_nil⟩
set_option maxRecDepth 100000 in
theorem ep_c90 : ev_vr MM ev_w90 = true := ev_vr_mk (l := ep_l90) (scan_vf (by decide +kernel)) ep_k90
def ep_l91 : List (Instr × Nat × Nat) := [(.putfield 37, 3, 0), (.putfield 41, 3, 1), (.putfield 44, 3, 2), (.putfield 47, 3, 3), (.getfield 9, 3, 5), (.getfield 15, 3, 6), (.getfield 18, 3, 7), (.getfield 21, 3, 8), (.getfield 24, 3, 9), (.getfield 27, 3, 10), (.getfield 30, 3, 11)]
set_option maxRecDepth 100000 in
theorem ep_k91 : ∀ q ∈ ep_l91, ∀ pc, ev_kb MM "LeftAnswers$Life" pc q.1 q.2.1 q.2.2 = true := by
  unfold ep_l91
  exact List.forall_mem_cons.mpr ⟨lk293, List.forall_mem_cons.mpr ⟨lk291, List.forall_mem_cons.mpr ⟨lk294, List.forall_mem_cons.mpr ⟨lk295, List.forall_mem_cons.mpr ⟨lk292, List.forall_mem_cons.mpr ⟨lk286, List.forall_mem_cons.mpr ⟨lk288, List.forall_mem_cons.mpr ⟨lk296, List.forall_mem_cons.mpr ⟨lk297, List.forall_mem_cons.mpr ⟨lk298, List.forall_mem_cons.mpr ⟨lk299, fun _ h => absurd h List.not_mem_nil⟩⟩⟩⟩⟩⟩⟩⟩⟩⟩⟩
set_option maxRecDepth 100000 in
theorem ep_c91 : ev_vr MM ev_w91 = true := ev_vr_mk (l := ep_l91) (scan_vf (by decide +kernel)) ep_k91
def ep_l92 : List (Instr × Nat × Nat) := [(.invokevirtual 159, 113, 1), (.getfield 72, 1, 0), (.invokestatic 163, 101, 4), (.invokevirtual 75, 117, 4)]
set_option maxRecDepth 100000 in
theorem ep_k92 : ∀ q ∈ ep_l92, ∀ pc, ev_kb MM "LeftAnswers$Life" pc q.1 q.2.1 q.2.2 = true := by
  unfold ep_l92
  exact List.forall_mem_cons.mpr ⟨lk300, List.forall_mem_cons.mpr ⟨lk301, List.forall_mem_cons.mpr ⟨lk302, List.forall_mem_cons.mpr ⟨lk285, fun _ h => absurd h List.not_mem_nil⟩⟩⟩⟩
set_option maxRecDepth 100000 in
theorem ep_c92 : ev_vr MM ev_w92 = true := ev_vr_mk (l := ep_l92) (scan_vf (by decide +kernel)) ep_k92
def ep_l93 : List (Instr × Nat × Nat) := [(.getfield 27, 3, 10)]
set_option maxRecDepth 100000 in
theorem ep_k93 : ∀ q ∈ ep_l93, ∀ pc, ev_kb MM "LeftAnswers$Life" pc q.1 q.2.1 q.2.2 = true := by
  unfold ep_l93
  exact List.forall_mem_cons.mpr ⟨lk298, fun _ h => absurd h List.not_mem_nil⟩
set_option maxRecDepth 100000 in
theorem ep_c93 : ev_vr MM ev_w93 = true := ev_vr_mk (l := ep_l93) (scan_vf (by decide +kernel)) ep_k93
def ep_l94 : List (Instr × Nat × Nat) := [(.getfield 37, 3, 0), (.putfield 37, 3, 0), (.getfield 41, 3, 1), (.putfield 41, 3, 1), (.getfield 44, 3, 2), (.putfield 44, 3, 2), (.getfield 47, 3, 3), (.putfield 47, 3, 3), (.getfield 9, 3, 5), (.invokestatic 50, 904, 5), (.getfield 15, 3, 6), (.getfield 18, 3, 7), (.getfield 21, 3, 8), (.getfield 24, 3, 9), (.getfield 27, 3, 10), (.getfield 30, 3, 11)]
set_option maxRecDepth 100000 in
theorem ep_k94 : ∀ q ∈ ep_l94, ∀ pc, ev_kb MM "LeftAnswers$Life" pc q.1 q.2.1 q.2.2 = true := by
  unfold ep_l94
  exact List.forall_mem_cons.mpr ⟨lk303, List.forall_mem_cons.mpr ⟨lk293, List.forall_mem_cons.mpr ⟨lk290, List.forall_mem_cons.mpr ⟨lk291, List.forall_mem_cons.mpr ⟨lk304, List.forall_mem_cons.mpr ⟨lk294, List.forall_mem_cons.mpr ⟨lk305, List.forall_mem_cons.mpr ⟨lk295, List.forall_mem_cons.mpr ⟨lk292, List.forall_mem_cons.mpr ⟨lk306, List.forall_mem_cons.mpr ⟨lk286, List.forall_mem_cons.mpr ⟨lk288, List.forall_mem_cons.mpr ⟨lk296, List.forall_mem_cons.mpr ⟨lk297, List.forall_mem_cons.mpr ⟨lk298, List.forall_mem_cons.mpr ⟨lk299, fun _ h => absurd h List.not_mem_nil⟩⟩⟩⟩⟩⟩⟩⟩⟩⟩⟩⟩⟩⟩⟩⟩
set_option maxRecDepth 100000 in
theorem ep_c94 : ev_vr MM ev_w94 = true := ev_vr_mk (l := ep_l94) (scan_vf (by decide +kernel)) ep_k94
def ep_l95 : List (Instr × Nat × Nat) := [(.getfield 37, 3, 0)]
set_option maxRecDepth 100000 in
theorem ep_k95 : ∀ q ∈ ep_l95, ∀ pc, ev_kb MM "LeftAnswers$Life" pc q.1 q.2.1 q.2.2 = true := by
  unfold ep_l95
  exact List.forall_mem_cons.mpr ⟨lk303, fun _ h => absurd h List.not_mem_nil⟩
set_option maxRecDepth 100000 in
theorem ep_c95 : ev_vr MM ev_w95 = true := ev_vr_mk (l := ep_l95) (scan_vf (by decide +kernel)) ep_k95
def ep_l96 : List (Instr × Nat × Nat) := [(.getfield 9, 3, 5), (.getfield 118, 1, 12), (.invokestatic 121, 901, 2), (.getfield 27, 3, 10), (.invokestatic 104, 100, 1), (.getfield 44, 3, 2), (.putfield 44, 3, 2), (.getfield 30, 3, 11), (.getfield 21, 3, 8), (.invokevirtual 126, 104, 2), (.getfield 130, 1, 13), (.invokevirtual 131, 89, 3)]
set_option maxRecDepth 100000 in
theorem ep_k96 : ∀ q ∈ ep_l96, ∀ pc, ev_kb MM "LeftAnswers$Life" pc q.1 q.2.1 q.2.2 = true := by
  unfold ep_l96
  exact List.forall_mem_cons.mpr ⟨lk292, List.forall_mem_cons.mpr ⟨lk307, List.forall_mem_cons.mpr ⟨lk308, List.forall_mem_cons.mpr ⟨lk298, List.forall_mem_cons.mpr ⟨lk309, List.forall_mem_cons.mpr ⟨lk304, List.forall_mem_cons.mpr ⟨lk294, List.forall_mem_cons.mpr ⟨lk299, List.forall_mem_cons.mpr ⟨lk296, List.forall_mem_cons.mpr ⟨lk310, List.forall_mem_cons.mpr ⟨lk311, List.forall_mem_cons.mpr ⟨lk312, fun _ h => absurd h List.not_mem_nil⟩⟩⟩⟩⟩⟩⟩⟩⟩⟩⟩⟩
set_option maxRecDepth 100000 in
theorem ep_c96 : ev_vr MM ev_w96 = true := ev_vr_mk (l := ep_l96) (scan_vf (by decide +kernel)) ep_k96
def ep_l97 : List (Instr × Nat × Nat) := [(.getfield 146, 3, 4), (.ldc 158, 1103515245, 0), (.putfield 146, 3, 4)]
set_option maxRecDepth 100000 in
theorem ep_k97 : ∀ q ∈ ep_l97, ∀ pc, ev_kb MM "LeftAnswers$Life" pc q.1 q.2.1 q.2.2 = true := by
  unfold ep_l97
  exact List.forall_mem_cons.mpr ⟨lk313, List.forall_mem_cons.mpr ⟨lk314, List.forall_mem_cons.mpr ⟨lk315, fun _ h => absurd h List.not_mem_nil⟩⟩⟩
set_option maxRecDepth 100000 in
theorem ep_c97 : ev_vr MM ev_w97 = true := ev_vr_mk (l := ep_l97) (scan_vf (by decide +kernel)) ep_k97
def ep_l98 : List (Instr × Nat × Nat) := [(.getfield 152, 1, 1), (.invokevirtual 155, 97, 1), (.invokevirtual 75, 117, 4), (.invokevirtual 89, 96, 4), (.getfield 72, 1, 0), (.invokevirtual 79, 118, 2), (.invokevirtual 93, 115, 2), (.invokevirtual 97, 109, 1)]
set_option maxRecDepth 100000 in
theorem ep_k98 : ∀ q ∈ ep_l98, ∀ pc, ev_kb MM "LeftAnswers$Life" pc q.1 q.2.1 q.2.2 = true := by
  unfold ep_l98
  exact List.forall_mem_cons.mpr ⟨lk316, List.forall_mem_cons.mpr ⟨lk317, List.forall_mem_cons.mpr ⟨lk285, List.forall_mem_cons.mpr ⟨lk318, List.forall_mem_cons.mpr ⟨lk301, List.forall_mem_cons.mpr ⟨lk319, List.forall_mem_cons.mpr ⟨lk320, List.forall_mem_cons.mpr ⟨lk321, fun _ h => absurd h List.not_mem_nil⟩⟩⟩⟩⟩⟩⟩⟩
set_option maxRecDepth 100000 in
theorem ep_c98 : ev_vr MM ev_w98 = true := ev_vr_mk (l := ep_l98) (scan_vf (by decide +kernel)) ep_k98
def ep_l99 : List (Instr × Nat × Nat) := [(.putfield 146, 3, 4), (.getfield 37, 3, 0), (.getfield 72, 1, 0), (.invokevirtual 149, 98, 2), (.invokevirtual 140, 110, 1)]
set_option maxRecDepth 100000 in
theorem ep_k99 : ∀ q ∈ ep_l99, ∀ pc, ev_kb MM "LeftAnswers$Life" pc q.1 q.2.1 q.2.2 = true := by
  unfold ep_l99
  exact List.forall_mem_cons.mpr ⟨lk315, List.forall_mem_cons.mpr ⟨lk303, List.forall_mem_cons.mpr ⟨lk301, List.forall_mem_cons.mpr ⟨lk322, List.forall_mem_cons.mpr ⟨lk323, fun _ h => absurd h List.not_mem_nil⟩⟩⟩⟩⟩
set_option maxRecDepth 100000 in
theorem ep_c99 : ev_vr MM ev_w99 = true := ev_vr_mk (l := ep_l99) (scan_vf (by decide +kernel)) ep_k99
def ep_l100 : List (Instr × Nat × Nat) := []
set_option maxRecDepth 100000 in
theorem ep_k100 : ∀ q ∈ ep_l100, ∀ pc, ev_kb MM "LeftAnswers$Life" pc q.1 q.2.1 q.2.2 = true := by
  unfold ep_l100
  exact fun _ h => absurd h List.not_mem_nil
set_option maxRecDepth 100000 in
theorem ep_c100 : ev_vr MM ev_w100 = true := ev_vr_mk (l := ep_l100) (scan_vf (by decide +kernel)) ep_k100
def ep_l101 : List (Instr × Nat × Nat) := [(.getfield 130, 1, 13)]
set_option maxRecDepth 100000 in
theorem ep_k101 : ∀ q ∈ ep_l101, ∀ pc, ev_kb MM "LeftAnswers$Life" pc q.1 q.2.1 q.2.2 = true := by
  unfold ep_l101
  exact List.forall_mem_cons.mpr ⟨lk311, fun _ h => absurd h List.not_mem_nil⟩
set_option maxRecDepth 100000 in
theorem ep_c101 : ev_vr MM ev_w101 = true := ev_vr_mk (l := ep_l101) (scan_vf (by decide +kernel)) ep_k101
def ep_l102 : List (Instr × Nat × Nat) := [(.getfield 47, 3, 3)]
set_option maxRecDepth 100000 in
theorem ep_k102 : ∀ q ∈ ep_l102, ∀ pc, ev_kb MM "LeftAnswers$Life" pc q.1 q.2.1 q.2.2 = true := by
  unfold ep_l102
  exact List.forall_mem_cons.mpr ⟨lk305, fun _ h => absurd h List.not_mem_nil⟩
set_option maxRecDepth 100000 in
theorem ep_c102 : ev_vr MM ev_w102 = true := ev_vr_mk (l := ep_l102) (scan_vf (by decide +kernel)) ep_k102
def ep_l103 : List (Instr × Nat × Nat) := [(.getfield 18, 3, 7)]
set_option maxRecDepth 100000 in
theorem ep_k103 : ∀ q ∈ ep_l103, ∀ pc, ev_kb MM "LeftAnswers$Life" pc q.1 q.2.1 q.2.2 = true := by
  unfold ep_l103
  exact List.forall_mem_cons.mpr ⟨lk288, fun _ h => absurd h List.not_mem_nil⟩
set_option maxRecDepth 100000 in
theorem ep_c103 : ev_vr MM ev_w103 = true := ev_vr_mk (l := ep_l103) (scan_vf (by decide +kernel)) ep_k103
def ep_l104 : List (Instr × Nat × Nat) := [(.getfield 56, 1, 14), (.invokevirtual 61, 106, 0)]
set_option maxRecDepth 100000 in
theorem ep_k104 : ∀ q ∈ ep_l104, ∀ pc, ev_kb MM "LeftAnswers$Life" pc q.1 q.2.1 q.2.2 = true := by
  unfold ep_l104
  exact List.forall_mem_cons.mpr ⟨lk324, List.forall_mem_cons.mpr ⟨lk325, fun _ h => absurd h List.not_mem_nil⟩⟩
set_option maxRecDepth 100000 in
theorem ep_c104 : ev_vr MM ev_w104 = true := ev_vr_mk (l := ep_l104) (scan_vf (by decide +kernel)) ep_k104
def ep_l105 : List (Instr × Nat × Nat) := [(.getfield 24, 3, 9)]
set_option maxRecDepth 100000 in
theorem ep_k105 : ∀ q ∈ ep_l105, ∀ pc, ev_kb MM "LeftAnswers$Life" pc q.1 q.2.1 q.2.2 = true := by
  unfold ep_l105
  exact List.forall_mem_cons.mpr ⟨lk297, fun _ h => absurd h List.not_mem_nil⟩
set_option maxRecDepth 100000 in
theorem ep_c105 : ev_vr MM ev_w105 = true := ev_vr_mk (l := ep_l105) (scan_vf (by decide +kernel)) ep_k105
def ep_l106 : List (Instr × Nat × Nat) := [(.invokevirtual 65, 103, 1)]
set_option maxRecDepth 100000 in
theorem ep_k106 : ∀ q ∈ ep_l106, ∀ pc, ev_kb MM "LeftAnswers$Life" pc q.1 q.2.1 q.2.2 = true := by
  unfold ep_l106
  exact List.forall_mem_cons.mpr ⟨lk326, fun _ h => absurd h List.not_mem_nil⟩
set_option maxRecDepth 100000 in
theorem ep_c106 : ev_vr MM ev_w106 = true := ev_vr_mk (l := ep_l106) (scan_vf (by decide +kernel)) ep_k106
def ep_l107 : List (Instr × Nat × Nat) := [(.invokevirtual 167, 108, 3), (.invokevirtual 83, 102, 1), (.invokestatic 171, 902, 2)]
set_option maxRecDepth 100000 in
theorem ep_k107 : ∀ q ∈ ep_l107, ∀ pc, ev_kb MM "LeftAnswers$Life" pc q.1 q.2.1 q.2.2 = true := by
  unfold ep_l107
  exact List.forall_mem_cons.mpr ⟨lk327, List.forall_mem_cons.mpr ⟨lk328, List.forall_mem_cons.mpr ⟨lk329, fun _ h => absurd h List.not_mem_nil⟩⟩⟩
set_option maxRecDepth 100000 in
theorem ep_c107 : ev_vr MM ev_w107 = true := ev_vr_mk (l := ep_l107) (scan_vf (by decide +kernel)) ep_k107
def ep_l108 : List (Instr × Nat × Nat) := [(.invokevirtual 126, 104, 2), (.getfield 152, 1, 1), (.invokevirtual 174, 69, 3), (.invokestatic 163, 101, 4), (.getfield 118, 1, 12), (.invokestatic 171, 902, 2)]
set_option maxRecDepth 100000 in
theorem ep_k108 : ∀ q ∈ ep_l108, ∀ pc, ev_kb MM "LeftAnswers$Life" pc q.1 q.2.1 q.2.2 = true := by
  unfold ep_l108
  exact List.forall_mem_cons.mpr ⟨lk310, List.forall_mem_cons.mpr ⟨lk316, List.forall_mem_cons.mpr ⟨lk330, List.forall_mem_cons.mpr ⟨lk302, List.forall_mem_cons.mpr ⟨lk307, List.forall_mem_cons.mpr ⟨lk329, fun _ h => absurd h List.not_mem_nil⟩⟩⟩⟩⟩⟩
set_option maxRecDepth 100000 in
theorem ep_c108 : ev_vr MM ev_w108 = true := ev_vr_mk (l := ep_l108) (scan_vf (by decide +kernel)) ep_k108
def ep_l109 : List (Instr × Nat × Nat) := [(.getfield 24, 3, 9)]
set_option maxRecDepth 100000 in
theorem ep_k109 : ∀ q ∈ ep_l109, ∀ pc, ev_kb MM "LeftAnswers$Life" pc q.1 q.2.1 q.2.2 = true := by
  unfold ep_l109
  exact List.forall_mem_cons.mpr ⟨lk297, fun _ h => absurd h List.not_mem_nil⟩
set_option maxRecDepth 100000 in
theorem ep_c109 : ev_vr MM ev_w109 = true := ev_vr_mk (l := ep_l109) (scan_vf (by decide +kernel)) ep_k109
def ep_l110 : List (Instr × Nat × Nat) := [(.getfield 72, 1, 0), (.getfield 24, 3, 9), (.getfield 21, 3, 8), (.getfield 144, 1, 4), (.getfield 9, 3, 5), (.invokestatic 121, 901, 2), (.invokevirtual 65, 103, 1), (.getfield 18, 3, 7), (.getfield 27, 3, 10), (.getfield 37, 3, 0), (.putfield 37, 3, 0)]
set_option maxRecDepth 100000 in
theorem ep_k110 : ∀ q ∈ ep_l110, ∀ pc, ev_kb MM "LeftAnswers$Life" pc q.1 q.2.1 q.2.2 = true := by
  unfold ep_l110
  exact List.forall_mem_cons.mpr ⟨lk301, List.forall_mem_cons.mpr ⟨lk297, List.forall_mem_cons.mpr ⟨lk296, List.forall_mem_cons.mpr ⟨lk331, List.forall_mem_cons.mpr ⟨lk292, List.forall_mem_cons.mpr ⟨lk308, List.forall_mem_cons.mpr ⟨lk326, List.forall_mem_cons.mpr ⟨lk288, List.forall_mem_cons.mpr ⟨lk298, List.forall_mem_cons.mpr ⟨lk303, List.forall_mem_cons.mpr ⟨lk293, fun _ h => absurd h List.not_mem_nil⟩⟩⟩⟩⟩⟩⟩⟩⟩⟩⟩
set_option maxRecDepth 100000 in
theorem ep_c110 : ev_vr MM ev_w110 = true := ev_vr_mk (l := ep_l110) (scan_vf (by decide +kernel)) ep_k110
def ep_l111 : List (Instr × Nat × Nat) := [(.getfield 37, 3, 0), (.invokevirtual 140, 110, 1)]
set_option maxRecDepth 100000 in
theorem ep_k111 : ∀ q ∈ ep_l111, ∀ pc, ev_kb MM "LeftAnswers$Life" pc q.1 q.2.1 q.2.2 = true := by
  unfold ep_l111
  exact List.forall_mem_cons.mpr ⟨lk303, List.forall_mem_cons.mpr ⟨lk323, fun _ h => absurd h List.not_mem_nil⟩⟩
set_option maxRecDepth 100000 in
theorem ep_c111 : ev_vr MM ev_w111 = true := ev_vr_mk (l := ep_l111) (scan_vf (by decide +kernel)) ep_k111
def ep_l112 : List (Instr × Nat × Nat) := [(.invokevirtual 89, 96, 4), (.invokevirtual 93, 115, 2), (.invokevirtual 97, 109, 1), (.getfield 47, 3, 3), (.putfield 47, 3, 3), (.invokevirtual 100, 111, 2)]
set_option maxRecDepth 100000 in
theorem ep_k112 : ∀ q ∈ ep_l112, ∀ pc, ev_kb MM "LeftAnswers$Life" pc q.1 q.2.1 q.2.2 = true := by
  unfold ep_l112
  exact List.forall_mem_cons.mpr ⟨lk318, List.forall_mem_cons.mpr ⟨lk320, List.forall_mem_cons.mpr ⟨lk321, List.forall_mem_cons.mpr ⟨lk305, List.forall_mem_cons.mpr ⟨lk295, List.forall_mem_cons.mpr ⟨lk332, fun _ h => absurd h List.not_mem_nil⟩⟩⟩⟩⟩⟩
set_option maxRecDepth 100000 in
theorem ep_c112 : ev_vr MM ev_w112 = true := ev_vr_mk (l := ep_l112) (scan_vf (by decide +kernel)) ep_k112
def ep_l113 : List (Instr × Nat × Nat) := [(.invokevirtual 61, 106, 0), (.getfield 72, 1, 0), (.getfield 56, 1, 14)]
set_option maxRecDepth 100000 in
theorem ep_k113 : ∀ q ∈ ep_l113, ∀ pc, ev_kb MM "LeftAnswers$Life" pc q.1 q.2.1 q.2.2 = true := by
  unfold ep_l113
  exact List.forall_mem_cons.mpr ⟨lk325, List.forall_mem_cons.mpr ⟨lk301, List.forall_mem_cons.mpr ⟨lk324, fun _ h => absurd h List.not_mem_nil⟩⟩⟩
set_option maxRecDepth 100000 in
theorem ep_c113 : ev_vr MM ev_w113 = true := ev_vr_mk (l := ep_l113) (scan_vf (by decide +kernel)) ep_k113
def ep_l114 : List (Instr × Nat × Nat) := [(.invokevirtual 69, 105, 1)]
set_option maxRecDepth 100000 in
theorem ep_k114 : ∀ q ∈ ep_l114, ∀ pc, ev_kb MM "LeftAnswers$Life" pc q.1 q.2.1 q.2.2 = true := by
  unfold ep_l114
  exact List.forall_mem_cons.mpr ⟨lk333, fun _ h => absurd h List.not_mem_nil⟩
set_option maxRecDepth 100000 in
theorem ep_c114 : ev_vr MM ev_w114 = true := ev_vr_mk (l := ep_l114) (scan_vf (by decide +kernel)) ep_k114
def ep_l115 : List (Instr × Nat × Nat) := [(.getfield 24, 3, 9)]
set_option maxRecDepth 100000 in
theorem ep_k115 : ∀ q ∈ ep_l115, ∀ pc, ev_kb MM "LeftAnswers$Life" pc q.1 q.2.1 q.2.2 = true := by
  unfold ep_l115
  exact List.forall_mem_cons.mpr ⟨lk297, fun _ h => absurd h List.not_mem_nil⟩
set_option maxRecDepth 100000 in
theorem ep_c115 : ev_vr MM ev_w115 = true := ev_vr_mk (l := ep_l115) (scan_vf (by decide +kernel)) ep_k115
def ep_l116 : List (Instr × Nat × Nat) := [(.invokevirtual 75, 117, 4), (.invokevirtual 79, 118, 2), (.invokevirtual 69, 105, 1), (.invokevirtual 83, 102, 1), (.invokevirtual 86, 95, 0)]
set_option maxRecDepth 100000 in
theorem ep_k116 : ∀ q ∈ ep_l116, ∀ pc, ev_kb MM "LeftAnswers$Life" pc q.1 q.2.1 q.2.2 = true := by
  unfold ep_l116
  exact List.forall_mem_cons.mpr ⟨lk285, List.forall_mem_cons.mpr ⟨lk319, List.forall_mem_cons.mpr ⟨lk333, List.forall_mem_cons.mpr ⟨lk328, List.forall_mem_cons.mpr ⟨lk334, fun _ h => absurd h List.not_mem_nil⟩⟩⟩⟩⟩
set_option maxRecDepth 100000 in
theorem ep_c116 : ev_vr MM ev_w116 = true := ev_vr_mk (l := ep_l116) (scan_vf (by decide +kernel)) ep_k116
def ep_l117 : List (Instr × Nat × Nat) := [(.invokevirtual 65, 103, 1), (.getfield 27, 3, 10), (.invokestatic 104, 100, 1), (.invokevirtual 108, 68, 2), (.invokevirtual 112, 81, 2), (.getfield 115, 1, 11), (.invokevirtual 83, 102, 1)]
set_option maxRecDepth 100000 in
theorem ep_k117 : ∀ q ∈ ep_l117, ∀ pc, ev_kb MM "LeftAnswers$Life" pc q.1 q.2.1 q.2.2 = true := by
  unfold ep_l117
  exact List.forall_mem_cons.mpr ⟨lk326, List.forall_mem_cons.mpr ⟨lk298, List.forall_mem_cons.mpr ⟨lk309, List.forall_mem_cons.mpr ⟨lk335, List.forall_mem_cons.mpr ⟨lk336, List.forall_mem_cons.mpr ⟨lk337, List.forall_mem_cons.mpr ⟨lk328, fun _ h => absurd h List.not_mem_nil⟩⟩⟩⟩⟩⟩⟩
set_option maxRecDepth 100000 in
theorem ep_c117 : ev_vr MM ev_w117 = true := ev_vr_mk (l := ep_l117) (scan_vf (by decide +kernel)) ep_k117
def ep_l118 : List (Instr × Nat × Nat) := [(.invokevirtual 69, 105, 1), (.invokevirtual 83, 102, 1), (.invokevirtual 65, 103, 1)]
set_option maxRecDepth 100000 in
theorem ep_k118 : ∀ q ∈ ep_l118, ∀ pc, ev_kb MM "LeftAnswers$Life" pc q.1 q.2.1 q.2.2 = true := by
  unfold ep_l118
  exact List.forall_mem_cons.mpr ⟨lk333, List.forall_mem_cons.mpr ⟨lk328, List.forall_mem_cons.mpr ⟨lk326, fun _ h => absurd h List.not_mem_nil⟩⟩⟩
set_option maxRecDepth 100000 in
theorem ep_c118 : ev_vr MM ev_w118 = true := ev_vr_mk (l := ep_l118) (scan_vf (by decide +kernel)) ep_k118
def ep_l119 : List (Instr × Nat × Nat) := [(.invokespecial 3, 999, 0), (.newarray .int, 0, 0), (.putfield 9, 4, 0), (.putfield 15, 4, 1), (.putfield 18, 4, 2), (.getfield 9, 4, 0)]
set_option maxRecDepth 100000 in
theorem ep_k119 : ∀ q ∈ ep_l119, ∀ pc, ev_kb MM "LeftAnswers$Pairs" pc q.1 q.2.1 q.2.2 = true := by
  unfold ep_l119
  exact List.forall_mem_cons.mpr ⟨lk338, List.forall_mem_cons.mpr ⟨lk339, List.forall_mem_cons.mpr ⟨lk340, List.forall_mem_cons.mpr ⟨lk341, List.forall_mem_cons.mpr ⟨lk342, List.forall_mem_cons.mpr ⟨lk343, fun _ h => absurd h List.not_mem_nil⟩⟩⟩⟩⟩⟩
set_option maxRecDepth 100000 in
theorem ep_c119 : ev_vr MM ev_w119 = true := ev_vr_mk (l := ep_l119) (scan_vf (by decide +kernel)) ep_k119
end
section
def ep_l120 : List (Instr × Nat × Nat) := [(.getfield 27, 4, 3), (.getfield 28, 4, 4), (.putfield 28, 4, 4), (.getfield 15, 4, 1), (.getfield 9, 4, 0), (.invokestatic 51, 904, 5), (.invokevirtual 47, 120, 2), (.getfield 18, 4, 2)]
set_option maxRecDepth 100000 in
theorem ep_k120 : ∀ q ∈ ep_l120, ∀ pc, ev_kb MM "LeftAnswers$Pairs" pc q.1 q.2.1 q.2.2 = true := by
  unfold ep_l120
  exact List.forall_mem_cons.mpr ⟨lk344, List.forall_mem_cons.mpr ⟨lk345, List.forall_mem_cons.mpr ⟨lk346, List.forall_mem_cons.mpr ⟨lk347, List.forall_mem_cons.mpr ⟨lk343, List.forall_mem_cons.mpr ⟨lk348, List.forall_mem_cons.mpr ⟨lk349, List.forall_mem_cons.mpr ⟨lk350, fun _ h => absurd h List.not_mem_nil⟩⟩⟩⟩⟩⟩⟩⟩
set_option maxRecDepth 100000 in
theorem ep_c120 : ev_vr MM ev_w120 = true := ev_vr_mk (l := ep_l120) (scan_vf (by decide +kernel)) ep_k120
def ep_l121 : List (Instr × Nat × Nat) := [(.getfield 21, 1, 0), (.putfield 27, 4, 3), (.putfield 28, 4, 4), (.invokevirtual 31, 114, 0), (.getfield 37, 3, 3), (.invokevirtual 40, 106, 0), (.getfield 27, 4, 3), (.getfield 15, 4, 1), (.invokevirtual 43, 67, 2), (.getfield 18, 4, 2), (.getfield 9, 4, 0), (.invokevirtual 47, 120, 2), (.getfield 28, 4, 4)]
set_option maxRecDepth 100000 in
theorem ep_k121 : ∀ q ∈ ep_l121, ∀ pc, ev_kb MM "LeftAnswers$Pairs" pc q.1 q.2.1 q.2.2 = true := by
  unfold ep_l121
  exact List.forall_mem_cons.mpr ⟨lk351, List.forall_mem_cons.mpr ⟨lk352, List.forall_mem_cons.mpr ⟨lk346, List.forall_mem_cons.mpr ⟨lk353, List.forall_mem_cons.mpr ⟨lk354, List.forall_mem_cons.mpr ⟨lk355, List.forall_mem_cons.mpr ⟨lk344, List.forall_mem_cons.mpr ⟨lk347, List.forall_mem_cons.mpr ⟨lk356, List.forall_mem_cons.mpr ⟨lk350, List.forall_mem_cons.mpr ⟨lk343, List.forall_mem_cons.mpr ⟨lk349, List.forall_mem_cons.mpr ⟨lk345, fun _ h => absurd h List.not_mem_nil⟩⟩⟩⟩⟩⟩⟩⟩⟩⟩⟩⟩⟩
set_option maxRecDepth 100000 in
theorem ep_c121 : ev_vr MM ev_w121 = true := ev_vr_mk (l := ep_l121) (scan_vf (by decide +kernel)) ep_k121
def ep_l122 : List (Instr × Nat × Nat) := [(.invokespecial 3, 999, 0), (.newarray .int, 0, 0), (.putfield 9, 5, 0), (.putfield 15, 5, 1), (.putfield 18, 5, 2), (.putfield 21, 5, 3)]
set_option maxRecDepth 100000 in
theorem ep_k122 : ∀ q ∈ ep_l122, ∀ pc, ev_kb MM "LeftAnswers$Parted" pc q.1 q.2.1 q.2.2 = true := by
  unfold ep_l122
  exact List.forall_mem_cons.mpr ⟨lk357, List.forall_mem_cons.mpr ⟨lk358, List.forall_mem_cons.mpr ⟨lk359, List.forall_mem_cons.mpr ⟨lk360, List.forall_mem_cons.mpr ⟨lk361, List.forall_mem_cons.mpr ⟨lk362, fun _ h => absurd h List.not_mem_nil⟩⟩⟩⟩⟩⟩
set_option maxRecDepth 100000 in
theorem ep_c122 : ev_vr MM ev_w122 = true := ev_vr_mk (l := ep_l122) (scan_vf (by decide +kernel)) ep_k122
def ep_l123 : List (Instr × Nat × Nat) := [(.invokestatic 24, 901, 2), (.invokestatic 30, 902, 2), (.putfield 33, 5, 4), (.putfield 37, 5, 5)]
set_option maxRecDepth 100000 in
theorem ep_k123 : ∀ q ∈ ep_l123, ∀ pc, ev_kb MM "LeftAnswers$Parted" pc q.1 q.2.1 q.2.2 = true := by
  unfold ep_l123
  exact List.forall_mem_cons.mpr ⟨lk363, List.forall_mem_cons.mpr ⟨lk364, List.forall_mem_cons.mpr ⟨lk365, List.forall_mem_cons.mpr ⟨lk366, fun _ h => absurd h List.not_mem_nil⟩⟩⟩⟩
set_option maxRecDepth 100000 in
theorem ep_c123 : ev_vr MM ev_w123 = true := ev_vr_mk (l := ep_l123) (scan_vf (by decide +kernel)) ep_k123
def ep_l124 : List (Instr × Nat × Nat) := [(.getfield 33, 5, 4), (.getfield 21, 5, 3)]
set_option maxRecDepth 100000 in
theorem ep_k124 : ∀ q ∈ ep_l124, ∀ pc, ev_kb MM "LeftAnswers$Parted" pc q.1 q.2.1 q.2.2 = true := by
  unfold ep_l124
  exact List.forall_mem_cons.mpr ⟨lk367, List.forall_mem_cons.mpr ⟨lk368, fun _ h => absurd h List.not_mem_nil⟩⟩
set_option maxRecDepth 100000 in
theorem ep_c124 : ev_vr MM ev_w124 = true := ev_vr_mk (l := ep_l124) (scan_vf (by decide +kernel)) ep_k124
def ep_l125 : List (Instr × Nat × Nat) := [(.getfield 15, 5, 1), (.getfield 37, 5, 5), (.getfield 33, 5, 4), (.putfield 37, 5, 5), (.getfield 18, 5, 2), (.getfield 21, 5, 3), (.invokestatic 45, 904, 5), (.getfield 9, 5, 0), (.invokestatic 51, 127, 1), (.invokevirtual 41, 125, 3)]
set_option maxRecDepth 100000 in
theorem ep_k125 : ∀ q ∈ ep_l125, ∀ pc, ev_kb MM "LeftAnswers$Parted" pc q.1 q.2.1 q.2.2 = true := by
  unfold ep_l125
  exact List.forall_mem_cons.mpr ⟨lk369, List.forall_mem_cons.mpr ⟨lk370, List.forall_mem_cons.mpr ⟨lk367, List.forall_mem_cons.mpr ⟨lk366, List.forall_mem_cons.mpr ⟨lk371, List.forall_mem_cons.mpr ⟨lk368, List.forall_mem_cons.mpr ⟨lk372, List.forall_mem_cons.mpr ⟨lk373, List.forall_mem_cons.mpr ⟨lk374, List.forall_mem_cons.mpr ⟨lk375, fun _ h => absurd h List.not_mem_nil⟩⟩⟩⟩⟩⟩⟩⟩⟩⟩
set_option maxRecDepth 100000 in
theorem ep_c125 : ev_vr MM ev_w125 = true := ev_vr_mk (l := ep_l125) (scan_vf (by decide +kernel)) ep_k125
def ep_l126 : List (Instr × Nat × Nat) := [(.getfield 15, 5, 1), (.getfield 33, 5, 4), (.getfield 9, 5, 0), (.ldc 40, 2097151, 0), (.invokevirtual 41, 125, 3), (.getfield 37, 5, 5)]
set_option maxRecDepth 100000 in
theorem ep_k126 : ∀ q ∈ ep_l126, ∀ pc, ev_kb MM "LeftAnswers$Parted" pc q.1 q.2.1 q.2.2 = true := by
  unfold ep_l126
  exact List.forall_mem_cons.mpr ⟨lk369, List.forall_mem_cons.mpr ⟨lk367, List.forall_mem_cons.mpr ⟨lk373, List.forall_mem_cons.mpr ⟨lk376, List.forall_mem_cons.mpr ⟨lk375, List.forall_mem_cons.mpr ⟨lk370, fun _ h => absurd h List.not_mem_nil⟩⟩⟩⟩⟩⟩
set_option maxRecDepth 100000 in
theorem ep_c126 : ev_vr MM ev_w126 = true := ev_vr_mk (l := ep_l126) (scan_vf (by decide +kernel)) ep_k126
def ep_l127 : List (Instr × Nat × Nat) := []
set_option maxRecDepth 100000 in
theorem ep_k127 : ∀ q ∈ ep_l127, ∀ pc, ev_kb MM "LeftAnswers$Parted" pc q.1 q.2.1 q.2.2 = true := by
  unfold ep_l127
  exact fun _ h => absurd h List.not_mem_nil
set_option maxRecDepth 100000 in
theorem ep_c127 : ev_vr MM ev_w127 = true := ev_vr_mk (l := ep_l127) (scan_vf (by decide +kernel)) ep_k127
def ep_l128 : List (Instr × Nat × Nat) := [(.invokespecial 3, 999, 0), (.anewarray 11, 5, 0), (.putfield 13, 6, 0), (.getfield 13, 6, 0), (.new 11, 3, 0), (.invokespecial 17, 87, 0)]
set_option maxRecDepth 100000 in
theorem ep_k128 : ∀ q ∈ ep_l128, ∀ pc, ev_kb MM "LeftAnswers$Past" pc q.1 q.2.1 q.2.2 = true := by
  unfold ep_l128
  exact List.forall_mem_cons.mpr ⟨lk377, List.forall_mem_cons.mpr ⟨lk378, List.forall_mem_cons.mpr ⟨lk379, List.forall_mem_cons.mpr ⟨lk380, List.forall_mem_cons.mpr ⟨lk381, List.forall_mem_cons.mpr ⟨lk382, fun _ h => absurd h List.not_mem_nil⟩⟩⟩⟩⟩⟩
set_option maxRecDepth 100000 in
theorem ep_c128 : ev_vr MM ev_w128 = true := ev_vr_mk (l := ep_l128) (scan_vf (by decide +kernel)) ep_k128
def ep_l129 : List (Instr × Nat × Nat) := [(.putfield 18, 6, 2)]
set_option maxRecDepth 100000 in
theorem ep_k129 : ∀ q ∈ ep_l129, ∀ pc, ev_kb MM "LeftAnswers$Past" pc q.1 q.2.1 q.2.2 = true := by
  unfold ep_l129
  exact List.forall_mem_cons.mpr ⟨lk383, fun _ h => absurd h List.not_mem_nil⟩
set_option maxRecDepth 100000 in
theorem ep_c129 : ev_vr MM ev_w129 = true := ev_vr_mk (l := ep_l129) (scan_vf (by decide +kernel)) ep_k129
def ep_l130 : List (Instr × Nat × Nat) := [(.getfield 18, 6, 2), (.getfield 22, 6, 1), (.putfield 22, 6, 1), (.putfield 18, 6, 2), (.getfield 13, 6, 0), (.invokevirtual 25, 94, 1)]
set_option maxRecDepth 100000 in
theorem ep_k130 : ∀ q ∈ ep_l130, ∀ pc, ev_kb MM "LeftAnswers$Past" pc q.1 q.2.1 q.2.2 = true := by
  unfold ep_l130
  exact List.forall_mem_cons.mpr ⟨lk384, List.forall_mem_cons.mpr ⟨lk385, List.forall_mem_cons.mpr ⟨lk386, List.forall_mem_cons.mpr ⟨lk383, List.forall_mem_cons.mpr ⟨lk380, List.forall_mem_cons.mpr ⟨lk387, fun _ h => absurd h List.not_mem_nil⟩⟩⟩⟩⟩⟩
set_option maxRecDepth 100000 in
theorem ep_c130 : ev_vr MM ev_w130 = true := ev_vr_mk (l := ep_l130) (scan_vf (by decide +kernel)) ep_k130
def ep_l131 : List (Instr × Nat × Nat) := [(.getfield 18, 6, 2), (.putfield 18, 6, 2), (.getfield 13, 6, 0), (.getfield 22, 6, 1), (.invokevirtual 25, 94, 1)]
set_option maxRecDepth 100000 in
theorem ep_k131 : ∀ q ∈ ep_l131, ∀ pc, ev_kb MM "LeftAnswers$Past" pc q.1 q.2.1 q.2.2 = true := by
  unfold ep_l131
  exact List.forall_mem_cons.mpr ⟨lk384, List.forall_mem_cons.mpr ⟨lk383, List.forall_mem_cons.mpr ⟨lk380, List.forall_mem_cons.mpr ⟨lk385, List.forall_mem_cons.mpr ⟨lk387, fun _ h => absurd h List.not_mem_nil⟩⟩⟩⟩⟩
set_option maxRecDepth 100000 in
theorem ep_c131 : ev_vr MM ev_w131 = true := ev_vr_mk (l := ep_l131) (scan_vf (by decide +kernel)) ep_k131
def ep_l132 : List (Instr × Nat × Nat) := [(.invokespecial 5, 999, 0), (.anewarray 11, 4, 0), (.putfield 13, 7, 2), (.getfield 13, 7, 2), (.getstatic 17, 0, 0), (.newarray .int, 0, 0), (.putfield 21, 7, 3), (.putfield 25, 7, 4), (.putfield 28, 7, 5)]
set_option maxRecDepth 100000 in
theorem ep_k132 : ∀ q ∈ ep_l132, ∀ pc, ev_kb MM "LeftAnswers$Sentence" pc q.1 q.2.1 q.2.2 = true := by
  unfold ep_l132
  exact List.forall_mem_cons.mpr ⟨lk388, List.forall_mem_cons.mpr ⟨lk389, List.forall_mem_cons.mpr ⟨lk390, List.forall_mem_cons.mpr ⟨lk391, List.forall_mem_cons.mpr ⟨lk392, List.forall_mem_cons.mpr ⟨lk393, List.forall_mem_cons.mpr ⟨lk394, List.forall_mem_cons.mpr ⟨lk395, List.forall_mem_cons.mpr ⟨lk396, fun _ h => absurd h List.not_mem_nil⟩⟩⟩⟩⟩⟩⟩⟩⟩
set_option maxRecDepth 100000 in
theorem ep_c132 : ev_vr MM ev_w132 = true := ev_vr_mk (l := ep_l132) (scan_vf (by decide +kernel)) ep_k132
def ep_l133 : List (Instr × Nat × Nat) := [(.getfield 35, 7, 1), (.getfield 13, 7, 2), (.getfield 21, 7, 3), (.getfield 25, 7, 4), (.putfield 35, 7, 1)]
set_option maxRecDepth 100000 in
theorem ep_k133 : ∀ q ∈ ep_l133, ∀ pc, ev_kb MM "LeftAnswers$Sentence" pc q.1 q.2.1 q.2.2 = true := by
  unfold ep_l133
  exact List.forall_mem_cons.mpr ⟨lk397, List.forall_mem_cons.mpr ⟨lk391, List.forall_mem_cons.mpr ⟨lk398, List.forall_mem_cons.mpr ⟨lk399, List.forall_mem_cons.mpr ⟨lk400, fun _ h => absurd h List.not_mem_nil⟩⟩⟩⟩⟩
set_option maxRecDepth 100000 in
theorem ep_c133 : ev_vr MM ev_w133 = true := ev_vr_mk (l := ep_l133) (scan_vf (by decide +kernel)) ep_k133
def ep_l134 : List (Instr × Nat × Nat) := [(.getstatic 91, 100, 0), (.invokevirtual 96, 900, 0)]
set_option maxRecDepth 100000 in
theorem ep_k134 : ∀ q ∈ ep_l134, ∀ pc, ev_kb MM "LeftAnswers$Sentence" pc q.1 q.2.1 q.2.2 = true := by
  unfold ep_l134
  exact List.forall_mem_cons.mpr ⟨lk401, List.forall_mem_cons.mpr ⟨lk402, fun _ h => absurd h List.not_mem_nil⟩⟩
set_option maxRecDepth 100000 in
theorem ep_c134 : ev_vr MM ev_w134 = true := ev_vr_mk (l := ep_l134) (scan_vf (by decide +kernel)) ep_k134
def ep_l135 : List (Instr × Nat × Nat) := [(.getstatic 91, 100, 0), (.getfield 13, 7, 2), (.invokevirtual 96, 900, 0), (.invokevirtual 137, 106, 0), (.getfield 142, 3, 3), (.invokevirtual 145, 114, 0), (.invokevirtual 148, 93, 0), (.invokevirtual 151, 113, 1), (.invokevirtual 155, 139, 3)]
set_option maxRecDepth 100000 in
theorem ep_k135 : ∀ q ∈ ep_l135, ∀ pc, ev_kb MM "LeftAnswers$Sentence" pc q.1 q.2.1 q.2.2 = true := by
  unfold ep_l135
  exact List.forall_mem_cons.mpr ⟨lk401, List.forall_mem_cons.mpr ⟨lk391, List.forall_mem_cons.mpr ⟨lk402, List.forall_mem_cons.mpr ⟨lk403, List.forall_mem_cons.mpr ⟨lk404, List.forall_mem_cons.mpr ⟨lk405, List.forall_mem_cons.mpr ⟨lk406, List.forall_mem_cons.mpr ⟨lk407, List.forall_mem_cons.mpr ⟨lk408, fun _ h => absurd h List.not_mem_nil⟩⟩⟩⟩⟩⟩⟩⟩⟩
set_option maxRecDepth 100000 in
theorem ep_c135 : ev_vr MM ev_w135 = true := ev_vr_mk (l := ep_l135) (scan_vf (by decide +kernel)) ep_k135
def ep_l136 : List (Instr × Nat × Nat) := [(.putfield 31, 7, 0), (.putfield 35, 7, 1)]
set_option maxRecDepth 100000 in
theorem ep_k136 : ∀ q ∈ ep_l136, ∀ pc, ev_kb MM "LeftAnswers$Sentence" pc q.1 q.2.1 q.2.2 = true := by
  unfold ep_l136
  exact List.forall_mem_cons.mpr ⟨lk409, List.forall_mem_cons.mpr ⟨lk400, fun _ h => absurd h List.not_mem_nil⟩⟩
set_option maxRecDepth 100000 in
theorem ep_c136 : ev_vr MM ev_w136 = true := ev_vr_mk (l := ep_l136) (scan_vf (by decide +kernel)) ep_k136
def ep_l137 : List (Instr × Nat × Nat) := [(.getfield 31, 7, 0), (.putfield 31, 7, 0), (.getfield 35, 7, 1), (.putfield 35, 7, 1), (.getfield 13, 7, 2), (.getfield 21, 7, 3), (.getfield 25, 7, 4)]
set_option maxRecDepth 100000 in
theorem ep_k137 : ∀ q ∈ ep_l137, ∀ pc, ev_kb MM "LeftAnswers$Sentence" pc q.1 q.2.1 q.2.2 = true := by
  unfold ep_l137
  exact List.forall_mem_cons.mpr ⟨lk410, List.forall_mem_cons.mpr ⟨lk409, List.forall_mem_cons.mpr ⟨lk397, List.forall_mem_cons.mpr ⟨lk400, List.forall_mem_cons.mpr ⟨lk391, List.forall_mem_cons.mpr ⟨lk398, List.forall_mem_cons.mpr ⟨lk399, fun _ h => absurd h List.not_mem_nil⟩⟩⟩⟩⟩⟩⟩
set_option maxRecDepth 100000 in
theorem ep_c137 : ev_vr MM ev_w137 = true := ev_vr_mk (l := ep_l137) (scan_vf (by decide +kernel)) ep_k137
def ep_l138 : List (Instr × Nat × Nat) := []
set_option maxRecDepth 100000 in
theorem ep_k138 : ∀ q ∈ ep_l138, ∀ pc, ev_kb MM "LeftAnswers$Sentence" pc q.1 q.2.1 q.2.2 = true := by
  unfold ep_l138
  exact fun _ h => absurd h List.not_mem_nil
set_option maxRecDepth 100000 in
theorem ep_c138 : ev_vr MM ev_w138 = true := ev_vr_mk (l := ep_l138) (scan_vf (by decide +kernel)) ep_k138
def ep_l139 : List (Instr × Nat × Nat) := [(.getfield 158, 1, 0), (.getfield 13, 7, 2), (.invokestatic 161, 140, 3), (.getfield 21, 7, 3), (.getfield 25, 7, 4), (.invokestatic 165, 138, 3)]
set_option maxRecDepth 100000 in
theorem ep_k139 : ∀ q ∈ ep_l139, ∀ pc, ev_kb MM "LeftAnswers$Sentence" pc q.1 q.2.1 q.2.2 = true := by
  unfold ep_l139
  exact List.forall_mem_cons.mpr ⟨lk411, List.forall_mem_cons.mpr ⟨lk391, List.forall_mem_cons.mpr ⟨lk412, List.forall_mem_cons.mpr ⟨lk398, List.forall_mem_cons.mpr ⟨lk399, List.forall_mem_cons.mpr ⟨lk413, fun _ h => absurd h List.not_mem_nil⟩⟩⟩⟩⟩⟩
set_option maxRecDepth 100000 in
theorem ep_c139 : ev_vr MM ev_w139 = true := ev_vr_mk (l := ep_l139) (scan_vf (by decide +kernel)) ep_k139
def ep_l140 : List (Instr × Nat × Nat) := [(.getstatic 91, 100, 0), (.invokevirtual 96, 900, 0), (.getfield 169, 3, 9), (.getfield 172, 3, 5), (.getfield 175, 3, 6), (.getfield 178, 3, 8)]
set_option maxRecDepth 100000 in
theorem ep_k140 : ∀ q ∈ ep_l140, ∀ pc, ev_kb MM "LeftAnswers$Sentence" pc q.1 q.2.1 q.2.2 = true := by
  unfold ep_l140
  exact List.forall_mem_cons.mpr ⟨lk401, List.forall_mem_cons.mpr ⟨lk402, List.forall_mem_cons.mpr ⟨lk414, List.forall_mem_cons.mpr ⟨lk415, List.forall_mem_cons.mpr ⟨lk416, List.forall_mem_cons.mpr ⟨lk417, fun _ h => absurd h List.not_mem_nil⟩⟩⟩⟩⟩⟩
set_option maxRecDepth 100000 in
theorem ep_c140 : ev_vr MM ev_w140 = true := ev_vr_mk (l := ep_l140) (scan_vf (by decide +kernel)) ep_k140
def ep_l141 : List (Instr × Nat × Nat) := [(.invokevirtual 74, 145, 3), (.getfield 61, 9, 6), (.getstatic 77, 21, 0), (.invokevirtual 67, 155, 0), (.invokevirtual 70, 133, 3)]
set_option maxRecDepth 100000 in
theorem ep_k141 : ∀ q ∈ ep_l141, ∀ pc, ev_kb MM "LeftAnswers$Sentence" pc q.1 q.2.1 q.2.2 = true := by
  unfold ep_l141
  exact List.forall_mem_cons.mpr ⟨lk418, List.forall_mem_cons.mpr ⟨lk419, List.forall_mem_cons.mpr ⟨lk420, List.forall_mem_cons.mpr ⟨lk421, List.forall_mem_cons.mpr ⟨lk422, fun _ h => absurd h List.not_mem_nil⟩⟩⟩⟩⟩
set_option maxRecDepth 100000 in
theorem ep_c141 : ev_vr MM ev_w141 = true := ev_vr_mk (l := ep_l141) (scan_vf (by decide +kernel)) ep_k141
def ep_l142 : List (Instr × Nat × Nat) := [(.invokevirtual 58, 141, 3), (.getfield 61, 9, 6), (.getstatic 64, 20, 0), (.invokevirtual 67, 155, 0), (.invokevirtual 70, 133, 3)]
set_option maxRecDepth 100000 in
theorem ep_k142 : ∀ q ∈ ep_l142, ∀ pc, ev_kb MM "LeftAnswers$Sentence" pc q.1 q.2.1 q.2.2 = true := by
  unfold ep_l142
  exact List.forall_mem_cons.mpr ⟨lk423, List.forall_mem_cons.mpr ⟨lk419, List.forall_mem_cons.mpr ⟨lk424, List.forall_mem_cons.mpr ⟨lk421, List.forall_mem_cons.mpr ⟨lk422, fun _ h => absurd h List.not_mem_nil⟩⟩⟩⟩⟩
set_option maxRecDepth 100000 in
theorem ep_c142 : ev_vr MM ev_w142 = true := ev_vr_mk (l := ep_l142) (scan_vf (by decide +kernel)) ep_k142
def ep_l143 : List (Instr × Nat × Nat) := [(.invokevirtual 38, 136, 0), (.invokevirtual 41, 161, 1), (.invokevirtual 47, 142, 3), (.getfield 51, 9, 4), (.invokevirtual 54, 165, 1)]
set_option maxRecDepth 100000 in
theorem ep_k143 : ∀ q ∈ ep_l143, ∀ pc, ev_kb MM "LeftAnswers$Sentence" pc q.1 q.2.1 q.2.2 = true := by
  unfold ep_l143
  exact List.forall_mem_cons.mpr ⟨lk425, List.forall_mem_cons.mpr ⟨lk426, List.forall_mem_cons.mpr ⟨lk427, List.forall_mem_cons.mpr ⟨lk428, List.forall_mem_cons.mpr ⟨lk429, fun _ h => absurd h List.not_mem_nil⟩⟩⟩⟩⟩
set_option maxRecDepth 100000 in
theorem ep_c143 : ev_vr MM ev_w143 = true := ev_vr_mk (l := ep_l143) (scan_vf (by decide +kernel)) ep_k143
def ep_l144 : List (Instr × Nat × Nat) := [(.getfield 117, 9, 8), (.invokevirtual 80, 160, 1), (.invokevirtual 54, 165, 1), (.invokevirtual 67, 155, 0), (.invokevirtual 120, 168, 2), (.getfield 124, 9, 9), (.invokevirtual 70, 133, 3)]
set_option maxRecDepth 100000 in
theorem ep_k144 : ∀ q ∈ ep_l144, ∀ pc, ev_kb MM "LeftAnswers$Sentence" pc q.1 q.2.1 q.2.2 = true := by
  unfold ep_l144
  exact List.forall_mem_cons.mpr ⟨lk430, List.forall_mem_cons.mpr ⟨lk431, List.forall_mem_cons.mpr ⟨lk429, List.forall_mem_cons.mpr ⟨lk421, List.forall_mem_cons.mpr ⟨lk432, List.forall_mem_cons.mpr ⟨lk433, List.forall_mem_cons.mpr ⟨lk422, fun _ h => absurd h List.not_mem_nil⟩⟩⟩⟩⟩⟩⟩
set_option maxRecDepth 100000 in
theorem ep_c144 : ev_vr MM ev_w144 = true := ev_vr_mk (l := ep_l144) (scan_vf (by decide +kernel)) ep_k144
def ep_l145 : List (Instr × Nat × Nat) := [(.invokevirtual 80, 160, 1), (.getfield 61, 9, 6), (.invokestatic 84, 134, 1), (.invokevirtual 54, 165, 1), (.getfield 31, 7, 0), (.putfield 31, 7, 0), (.invokevirtual 67, 155, 0), (.invokevirtual 47, 142, 3), (.invokevirtual 88, 167, 1), (.getstatic 91, 100, 0), (.invokevirtual 96, 900, 0), (.invokevirtual 74, 145, 3), (.invokevirtual 70, 133, 3), (.invokevirtual 100, 146, 2), (.invokevirtual 104, 144, 2)]
set_option maxRecDepth 100000 in
theorem ep_k145 : ∀ q ∈ ep_l145, ∀ pc, ev_kb MM "LeftAnswers$Sentence" pc q.1 q.2.1 q.2.2 = true := by
  unfold ep_l145
  exact List.forall_mem_cons.mpr ⟨lk431, List.forall_mem_cons.mpr ⟨lk419, List.forall_mem_cons.mpr ⟨lk434, List.forall_mem_cons.mpr ⟨lk429, List.forall_mem_cons.mpr ⟨lk410, List.forall_mem_cons.mpr ⟨lk409, List.forall_mem_cons.mpr ⟨lk421, List.forall_mem_cons.mpr ⟨lk427, List.forall_mem_cons.mpr ⟨lk435, List.forall_mem_cons.mpr ⟨lk401, List.forall_mem_cons.mpr ⟨lk402, List.forall_mem_cons.mpr ⟨lk418, List.forall_mem_cons.mpr ⟨lk422, List.forall_mem_cons.mpr ⟨lk436, List.forall_mem_cons.mpr ⟨lk437, fun _ h => absurd h List.not_mem_nil⟩⟩⟩⟩⟩⟩⟩⟩⟩⟩⟩⟩⟩⟩⟩
set_option maxRecDepth 100000 in
theorem ep_c145 : ev_vr MM ev_w145 = true := ev_vr_mk (l := ep_l145) (scan_vf (by decide +kernel)) ep_k145
def ep_l146 : List (Instr × Nat × Nat) := [(.invokevirtual 108, 73, 1), (.getstatic 114, 27, 0), (.invokevirtual 70, 133, 3), (.invokevirtual 67, 155, 0)]
set_option maxRecDepth 100000 in
theorem ep_k146 : ∀ q ∈ ep_l146, ∀ pc, ev_kb MM "LeftAnswers$Sentence" pc q.1 q.2.1 q.2.2 = true := by
  unfold ep_l146
  exact List.forall_mem_cons.mpr ⟨lk438, List.forall_mem_cons.mpr ⟨lk439, List.forall_mem_cons.mpr ⟨lk422, List.forall_mem_cons.mpr ⟨lk421, fun _ h => absurd h List.not_mem_nil⟩⟩⟩⟩
set_option maxRecDepth 100000 in
theorem ep_c146 : ev_vr MM ev_w146 = true := ev_vr_mk (l := ep_l146) (scan_vf (by decide +kernel)) ep_k146
def ep_l147 : List (Instr × Nat × Nat) := [(.invokevirtual 127, 58, 0), (.getfield 35, 7, 1), (.getfield 13, 7, 2), (.getstatic 77, 21, 0), (.getstatic 64, 20, 0), (.getfield 28, 7, 5), (.getstatic 130, 22, 0), (.invokevirtual 133, 135, 3)]
set_option maxRecDepth 100000 in
theorem ep_k147 : ∀ q ∈ ep_l147, ∀ pc, ev_kb MM "LeftAnswers$Sentence" pc q.1 q.2.1 q.2.2 = true := by
  unfold ep_l147
  exact List.forall_mem_cons.mpr ⟨lk440, List.forall_mem_cons.mpr ⟨lk397, List.forall_mem_cons.mpr ⟨lk391, List.forall_mem_cons.mpr ⟨lk420, List.forall_mem_cons.mpr ⟨lk424, List.forall_mem_cons.mpr ⟨lk441, List.forall_mem_cons.mpr ⟨lk442, List.forall_mem_cons.mpr ⟨lk443, fun _ h => absurd h List.not_mem_nil⟩⟩⟩⟩⟩⟩⟩⟩
set_option maxRecDepth 100000 in
theorem ep_c147 : ev_vr MM ev_w147 = true := ev_vr_mk (l := ep_l147) (scan_vf (by decide +kernel)) ep_k147
def ep_l148 : List (Instr × Nat × Nat) := [(.invokespecial 3, 999, 0), (.newarray .byte, 0, 0), (.putfield 11, 8, 0)]
set_option maxRecDepth 100000 in
theorem ep_k148 : ∀ q ∈ ep_l148, ∀ pc, ev_kb MM "LeftAnswers$Slip" pc q.1 q.2.1 q.2.2 = true := by
  unfold ep_l148
  exact List.forall_mem_cons.mpr ⟨lk444, List.forall_mem_cons.mpr ⟨lk445, List.forall_mem_cons.mpr ⟨lk446, fun _ h => absurd h List.not_mem_nil⟩⟩⟩
set_option maxRecDepth 100000 in
theorem ep_c148 : ev_vr MM ev_w148 = true := ev_vr_mk (l := ep_l148) (scan_vf (by decide +kernel)) ep_k148
def ep_l149 : List (Instr × Nat × Nat) := [(.ldc2_w 76, 31, 0), (.invokevirtual 73, 151, 1)]
set_option maxRecDepth 100000 in
theorem ep_k149 : ∀ q ∈ ep_l149, ∀ pc, ev_kb MM "LeftAnswers$Slip" pc q.1 q.2.1 q.2.2 = true := by
  unfold ep_l149
  exact List.forall_mem_cons.mpr ⟨lk447, List.forall_mem_cons.mpr ⟨lk448, fun _ h => absurd h List.not_mem_nil⟩⟩
set_option maxRecDepth 100000 in
theorem ep_c149 : ev_vr MM ev_w149 = true := ev_vr_mk (l := ep_l149) (scan_vf (by decide +kernel)) ep_k149
def ep_l150 : List (Instr × Nat × Nat) := [(.invokevirtual 73, 151, 1)]
set_option maxRecDepth 100000 in
theorem ep_k150 : ∀ q ∈ ep_l150, ∀ pc, ev_kb MM "LeftAnswers$Slip" pc q.1 q.2.1 q.2.2 = true := by
  unfold ep_l150
  exact List.forall_mem_cons.mpr ⟨lk448, fun _ h => absurd h List.not_mem_nil⟩
set_option maxRecDepth 100000 in
theorem ep_c150 : ev_vr MM ev_w150 = true := ev_vr_mk (l := ep_l150) (scan_vf (by decide +kernel)) ep_k150
def ep_l151 : List (Instr × Nat × Nat) := [(.getfield 15, 8, 1), (.getfield 11, 8, 0), (.putfield 15, 8, 1)]
set_option maxRecDepth 100000 in
theorem ep_k151 : ∀ q ∈ ep_l151, ∀ pc, ev_kb MM "LeftAnswers$Slip" pc q.1 q.2.1 q.2.2 = true := by
  unfold ep_l151
  exact List.forall_mem_cons.mpr ⟨lk449, List.forall_mem_cons.mpr ⟨lk450, List.forall_mem_cons.mpr ⟨lk451, fun _ h => absurd h List.not_mem_nil⟩⟩⟩
set_option maxRecDepth 100000 in
theorem ep_c151 : ev_vr MM ev_w151 = true := ev_vr_mk (l := ep_l151) (scan_vf (by decide +kernel)) ep_k151
def ep_l152 : List (Instr × Nat × Nat) := [(.invokevirtual 64, 905, 0), (.invokevirtual 69, 906, 1), (.invokevirtual 73, 151, 1)]
set_option maxRecDepth 100000 in
theorem ep_k152 : ∀ q ∈ ep_l152, ∀ pc, ev_kb MM "LeftAnswers$Slip" pc q.1 q.2.1 q.2.2 = true := by
  unfold ep_l152
  exact List.forall_mem_cons.mpr ⟨lk452, List.forall_mem_cons.mpr ⟨lk453, List.forall_mem_cons.mpr ⟨lk448, fun _ h => absurd h List.not_mem_nil⟩⟩⟩
set_option maxRecDepth 100000 in
theorem ep_c152 : ev_vr MM ev_w152 = true := ev_vr_mk (l := ep_l152) (scan_vf (by decide +kernel)) ep_k152
def ep_l153 : List (Instr × Nat × Nat) := [(.putfield 15, 8, 1), (.getfield 19, 1, 7), (.invokevirtual 25, 149, 1), (.ldc 29, 300, 1), (.invokevirtual 31, 152, 1), (.getfield 35, 3, 5), (.invokevirtual 41, 150, 1), (.invokevirtual 45, 103, 1), (.ldc 49, 301, 1), (.getfield 51, 3, 7), (.invokevirtual 54, 102, 1), (.ldc 57, 302, 1), (.getfield 59, 3, 9), (.ldc 62, 303, 1)]
set_option maxRecDepth 100000 in
theorem ep_k153 : ∀ q ∈ ep_l153, ∀ pc, ev_kb MM "LeftAnswers$Slip" pc q.1 q.2.1 q.2.2 = true := by
  unfold ep_l153
  exact List.forall_mem_cons.mpr ⟨lk451, List.forall_mem_cons.mpr ⟨lk454, List.forall_mem_cons.mpr ⟨lk455, List.forall_mem_cons.mpr ⟨lk456, List.forall_mem_cons.mpr ⟨lk457, List.forall_mem_cons.mpr ⟨lk458, List.forall_mem_cons.mpr ⟨lk459, List.forall_mem_cons.mpr ⟨lk460, List.forall_mem_cons.mpr ⟨lk461, List.forall_mem_cons.mpr ⟨lk462, List.forall_mem_cons.mpr ⟨lk463, List.forall_mem_cons.mpr ⟨lk464, List.forall_mem_cons.mpr ⟨lk465, List.forall_mem_cons.mpr ⟨lk466, fun _ h => absurd h List.not_mem_nil⟩⟩⟩⟩⟩⟩⟩⟩⟩⟩⟩⟩⟩⟩
set_option maxRecDepth 100000 in
theorem ep_c153 : ev_vr MM ev_w153 = true := ev_vr_mk (l := ep_l153) (scan_vf (by decide +kernel)) ep_k153
def ep_l154 : List (Instr × Nat × Nat) := [(.invokespecial 3, 999, 0), (.newarray .byte, 0, 0), (.putfield 11, 9, 0), (.getstatic 15, 0, 0), (.putfield 21, 9, 6)]
set_option maxRecDepth 100000 in
theorem ep_k154 : ∀ q ∈ ep_l154, ∀ pc, ev_kb MM "LeftAnswers$Tape" pc q.1 q.2.1 q.2.2 = true := by
  unfold ep_l154
  exact List.forall_mem_cons.mpr ⟨lk467, List.forall_mem_cons.mpr ⟨lk468, List.forall_mem_cons.mpr ⟨lk469, List.forall_mem_cons.mpr ⟨lk470, List.forall_mem_cons.mpr ⟨lk471, fun _ h => absurd h List.not_mem_nil⟩⟩⟩⟩⟩
set_option maxRecDepth 100000 in
theorem ep_c154 : ev_vr MM ev_w154 = true := ev_vr_mk (l := ep_l154) (scan_vf (by decide +kernel)) ep_k154
def ep_l155 : List (Instr × Nat × Nat) := [(.getstatic 15, 0, 0), (.putfield 21, 9, 6), (.putfield 46, 9, 7), (.putfield 50, 9, 8), (.getfield 31, 9, 3), (.getfield 24, 9, 1), (.invokevirtual 53, 166, 1), (.invokestatic 57, 156, 1), (.putfield 31, 9, 3), (.putfield 61, 9, 5), (.getfield 28, 9, 2), (.putfield 64, 9, 4), (.invokestatic 67, 158, 1), (.invokestatic 70, 157, 1), (.invokevirtual 73, 164, 0), (.invokevirtual 76, 163, 0)]
set_option maxRecDepth 100000 in
theorem ep_k155 : ∀ q ∈ ep_l155, ∀ pc, ev_kb MM "LeftAnswers$Tape" pc q.1 q.2.1 q.2.2 = true := by
  unfold ep_l155
  exact List.forall_mem_cons.mpr ⟨lk470, List.forall_mem_cons.mpr ⟨lk471, List.forall_mem_cons.mpr ⟨lk472, List.forall_mem_cons.mpr ⟨lk473, List.forall_mem_cons.mpr ⟨lk474, List.forall_mem_cons.mpr ⟨lk475, List.forall_mem_cons.mpr ⟨lk476, List.forall_mem_cons.mpr ⟨lk477, List.forall_mem_cons.mpr ⟨lk478, List.forall_mem_cons.mpr ⟨lk479, List.forall_mem_cons.mpr ⟨lk480, List.forall_mem_cons.mpr ⟨lk481, List.forall_mem_cons.mpr ⟨lk482, List.forall_mem_cons.mpr ⟨lk483, List.forall_mem_cons.mpr ⟨lk484, List.forall_mem_cons.mpr ⟨lk485, fun _ h => absurd h List.not_mem_nil⟩⟩⟩⟩⟩⟩⟩⟩⟩⟩⟩⟩⟩⟩⟩⟩
set_option maxRecDepth 100000 in
theorem ep_c155 : ev_vr MM ev_w155 = true := ev_vr_mk (l := ep_l155) (scan_vf (by decide +kernel)) ep_k155
def ep_l156 : List (Instr × Nat × Nat) := []
set_option maxRecDepth 100000 in
theorem ep_k156 : ∀ q ∈ ep_l156, ∀ pc, ev_kb MM "LeftAnswers$Tape" pc q.1 q.2.1 q.2.2 = true := by
  unfold ep_l156
  exact fun _ h => absurd h List.not_mem_nil
set_option maxRecDepth 100000 in
theorem ep_c156 : ev_vr MM ev_w156 = true := ev_vr_mk (l := ep_l156) (scan_vf (by decide +kernel)) ep_k156
def ep_l157 : List (Instr × Nat × Nat) := []
set_option maxRecDepth 100000 in
theorem ep_k157 : ∀ q ∈ ep_l157, ∀ pc, ev_kb MM "LeftAnswers$Tape" pc q.1 q.2.1 q.2.2 = true := by
  unfold ep_l157
  exact fun _ h => absurd h List.not_mem_nil
set_option maxRecDepth 100000 in
theorem ep_c157 : ev_vr MM ev_w157 = true := ev_vr_mk (l := ep_l157) (scan_vf (by decide +kernel)) ep_k157
def ep_l158 : List (Instr × Nat × Nat) := []
set_option maxRecDepth 100000 in
theorem ep_k158 : ∀ q ∈ ep_l158, ∀ pc, ev_kb MM "LeftAnswers$Tape" pc q.1 q.2.1 q.2.2 = true := by
  unfold ep_l158
  exact fun _ h => absurd h List.not_mem_nil
set_option maxRecDepth 100000 in
theorem ep_c158 : ev_vr MM ev_w158 = true := ev_vr_mk (l := ep_l158) (scan_vf (by decide +kernel)) ep_k158
def ep_l159 : List (Instr × Nat × Nat) := []
set_option maxRecDepth 100000 in
theorem ep_k159 : ∀ q ∈ ep_l159, ∀ pc, ev_kb MM "LeftAnswers$Tape" pc q.1 q.2.1 q.2.2 = true := by
  unfold ep_l159
  exact fun _ h => absurd h List.not_mem_nil
set_option maxRecDepth 100000 in
theorem ep_c159 : ev_vr MM ev_w159 = true := ev_vr_mk (l := ep_l159) (scan_vf (by decide +kernel)) ep_k159
end
