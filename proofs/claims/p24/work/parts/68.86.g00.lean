def ep_l0 : List (Instr × Nat × Nat) := [(.invokespecial 1, 999, 0), (.new 7, 9, 0), (.invokespecial 9, 154, 0), (.putfield 10, 10, 0), (.new 16, 1, 0), (.invokespecial 18, 56, 0), (.putfield 19, 10, 1), (.putfield 23, 10, 2), (.new 26, 3, 0), (.invokespecial 28, 87, 0), (.putfield 29, 10, 3), (.putfield 33, 10, 4), (.new 36, 6, 0), (.invokespecial 38, 128, 0), (.putfield 39, 10, 5), (.new 43, 0, 0), (.invokespecial 45, 48, 0), (.putfield 46, 10, 6), (.new 50, 7, 0), (.invokespecial 52, 132, 0), (.putfield 53, 10, 7), (.putfield 57, 10, 8), (.new 60, 5, 0), (.invokespecial 62, 122, 0), (.putfield 63, 10, 9), (.new 67, 4, 0), (.invokespecial 69, 119, 0), (.putfield 70, 10, 10), (.new 74, 8, 0), (.invokespecial 76, 148, 0), (.putfield 77, 10, 11), (.anewarray 81, 6, 0), (.new 81, 2, 0), (.invokespecial 83, 84, 0), (.putfield 84, 10, 12), (.putfield 88, 10, 13), (.putfield 92, 10, 14), (.putfield 95, 10, 15), (.putfield 98, 10, 16)]
set_option maxRecDepth 100000 in
theorem ep_k0 : ∀ q ∈ ep_l0, ∀ pc, ev_kb MM "LeftAnswers" pc q.1 q.2.1 q.2.2 = true := by
  unfold ep_l0
  exact List.forall_mem_cons.mpr ⟨lk0, List.forall_mem_cons.mpr ⟨lk1, List.forall_mem_cons.mpr ⟨lk2, List.forall_mem_cons.mpr ⟨lk3, List.forall_mem_cons.mpr ⟨lk4, List.forall_mem_cons.mpr ⟨lk5, List.forall_mem_cons.mpr ⟨lk6, List.forall_mem_cons.mpr ⟨lk7, List.forall_mem_cons.mpr ⟨lk8, List.forall_mem_cons.mpr ⟨lk9, List.forall_mem_cons.mpr ⟨lk10, List.forall_mem_cons.mpr ⟨lk11, List.forall_mem_cons.mpr ⟨lk12, List.forall_mem_cons.mpr ⟨lk13, List.forall_mem_cons.mpr ⟨lk14, List.forall_mem_cons.mpr ⟨lk15, List.forall_mem_cons.mpr ⟨lk16, List.forall_mem_cons.mpr ⟨lk17, List.forall_mem_cons.mpr ⟨lk18, List.forall_mem_cons.mpr ⟨lk19, List.forall_mem_cons.mpr ⟨lk20, List.forall_mem_cons.mpr ⟨lk21, List.forall_mem_cons.mpr ⟨lk22, List.forall_mem_cons.mpr ⟨lk23, List.forall_mem_cons.mpr ⟨lk24, List.forall_mem_cons.mpr ⟨lk25, List.forall_mem_cons.mpr ⟨lk26, List.forall_mem_cons.mpr ⟨lk27, List.forall_mem_cons.mpr ⟨lk28, List.forall_mem_cons.mpr ⟨lk29, List.forall_mem_cons.mpr ⟨lk30, List.forall_mem_cons.mpr ⟨lk31, List.forall_mem_cons.mpr ⟨lk32, List.forall_mem_cons.mpr ⟨lk33, List.forall_mem_cons.mpr ⟨lk34, List.forall_mem_cons.mpr ⟨lk35, List.forall_mem_cons.mpr ⟨lk36, List.forall_mem_cons.mpr ⟨lk37, List.forall_mem_cons.mpr ⟨lk38, fun _ h => absurd h List.not_mem_nil⟩⟩⟩⟩⟩⟩⟩⟩⟩⟩⟩⟩⟩⟩⟩⟩⟩⟩⟩⟩⟩⟩⟩⟩⟩⟩⟩⟩⟩⟩⟩⟩⟩⟩⟩⟩⟩⟩⟩
set_option maxRecDepth 100000 in
theorem ep_c0 : ev_vr MM ev_w0 = true := ev_vr_mk (l := ep_l0) (by decide +kernel) ep_k0
def ep_l1 : List (Instr × Nat × Nat) := [(.invokevirtual 130, 28, 1), (.invokevirtual 174, 26, 1), (.getfield 29, 10, 3), (.getfield 19, 10, 1), (.invokevirtual 238, 88, 3)]
set_option maxRecDepth 100000 in
theorem ep_k1 : ∀ q ∈ ep_l1, ∀ pc, ev_kb MM "LeftAnswers" pc q.1 q.2.1 q.2.2 = true := by
  unfold ep_l1
  exact List.forall_mem_cons.mpr ⟨lk39, List.forall_mem_cons.mpr ⟨lk40, List.forall_mem_cons.mpr ⟨lk41, List.forall_mem_cons.mpr ⟨lk42, List.forall_mem_cons.mpr ⟨lk43, fun _ h => absurd h List.not_mem_nil⟩⟩⟩⟩⟩
set_option maxRecDepth 100000 in
theorem ep_c1 : ev_vr MM ev_w1 = true := ev_vr_mk (l := ep_l1) (by decide +kernel) ep_k1
def ep_l2 : List (Instr × Nat × Nat) := [(.getfield 29, 10, 3), (.getfield 19, 10, 1), (.invokevirtual 370, 116, 5), (.getfield 39, 10, 5), (.invokevirtual 226, 130, 1), (.invokevirtual 374, 112, 5)]
set_option maxRecDepth 100000 in
theorem ep_k2 : ∀ q ∈ ep_l2, ∀ pc, ev_kb MM "LeftAnswers" pc q.1 q.2.1 q.2.2 = true := by
  unfold ep_l2
  exact List.forall_mem_cons.mpr ⟨lk41, List.forall_mem_cons.mpr ⟨lk42, List.forall_mem_cons.mpr ⟨lk44, List.forall_mem_cons.mpr ⟨lk45, List.forall_mem_cons.mpr ⟨lk46, List.forall_mem_cons.mpr ⟨lk47, fun _ h => absurd h List.not_mem_nil⟩⟩⟩⟩⟩⟩
set_option maxRecDepth 100000 in
theorem ep_c2 : ev_vr MM ev_w2 = true := ev_vr_mk (l := ep_l2) (by decide +kernel) ep_k2
def ep_l3 : List (Instr × Nat × Nat) := [(.invokevirtual 130, 28, 1), (.invokevirtual 214, 2, 4)]
set_option maxRecDepth 100000 in
theorem ep_k3 : ∀ q ∈ ep_l3, ∀ pc, ev_kb MM "LeftAnswers" pc q.1 q.2.1 q.2.2 = true := by
  unfold ep_l3
  exact List.forall_mem_cons.mpr ⟨lk39, List.forall_mem_cons.mpr ⟨lk48, fun _ h => absurd h List.not_mem_nil⟩⟩
set_option maxRecDepth 100000 in
theorem ep_c3 : ev_vr MM ev_w3 = true := ev_vr_mk (l := ep_l3) (by decide +kernel) ep_k3
def ep_l4 : List (Instr × Nat × Nat) := [(.getfield 70, 10, 10), (.getfield 19, 10, 1), (.getfield 29, 10, 3), (.invokevirtual 290, 121, 2)]
set_option maxRecDepth 100000 in
theorem ep_k4 : ∀ q ∈ ep_l4, ∀ pc, ev_kb MM "LeftAnswers" pc q.1 q.2.1 q.2.2 = true := by
  unfold ep_l4
  exact List.forall_mem_cons.mpr ⟨lk49, List.forall_mem_cons.mpr ⟨lk42, List.forall_mem_cons.mpr ⟨lk41, List.forall_mem_cons.mpr ⟨lk50, fun _ h => absurd h List.not_mem_nil⟩⟩⟩⟩
set_option maxRecDepth 100000 in
theorem ep_c4 : ev_vr MM ev_w4 = true := ev_vr_mk (l := ep_l4) (by decide +kernel) ep_k4
def ep_l5 : List (Instr × Nat × Nat) := [(.invokevirtual 130, 28, 1), (.getfield 70, 10, 10), (.getfield 293, 4, 0)]
set_option maxRecDepth 100000 in
theorem ep_k5 : ∀ q ∈ ep_l5, ∀ pc, ev_kb MM "LeftAnswers" pc q.1 q.2.1 q.2.2 = true := by
  unfold ep_l5
  exact List.forall_mem_cons.mpr ⟨lk39, List.forall_mem_cons.mpr ⟨lk49, List.forall_mem_cons.mpr ⟨lk51, fun _ h => absurd h List.not_mem_nil⟩⟩⟩
set_option maxRecDepth 100000 in
theorem ep_c5 : ev_vr MM ev_w5 = true := ev_vr_mk (l := ep_l5) (by decide +kernel) ep_k5
def ep_l6 : List (Instr × Nat × Nat) := []
set_option maxRecDepth 100000 in
theorem ep_k6 : ∀ q ∈ ep_l6, ∀ pc, ev_kb MM "LeftAnswers" pc q.1 q.2.1 q.2.2 = true := by
  unfold ep_l6
  exact fun _ h => absurd h List.not_mem_nil
set_option maxRecDepth 100000 in
theorem ep_c6 : ev_vr MM ev_w6 = true := ev_vr_mk (l := ep_l6) (by decide +kernel) ep_k6
def ep_l7 : List (Instr × Nat × Nat) := [(.getfield 46, 10, 6), (.getfield 10, 10, 0), (.getfield 19, 10, 1), (.invokevirtual 318, 54, 2), (.invokevirtual 112, 41, 0), (.getfield 88, 10, 13), (.getfield 115, 9, 11), (.getfield 33, 10, 4), (.getfield 29, 10, 3), (.invokevirtual 315, 94, 1), (.invokevirtual 321, 50, 2), (.getfield 39, 10, 5), (.invokevirtual 226, 130, 1), (.getfield 325, 0, 6)]
set_option maxRecDepth 100000 in
theorem ep_k7 : ∀ q ∈ ep_l7, ∀ pc, ev_kb MM "LeftAnswers" pc q.1 q.2.1 q.2.2 = true := by
  unfold ep_l7
  exact List.forall_mem_cons.mpr ⟨lk52, List.forall_mem_cons.mpr ⟨lk53, List.forall_mem_cons.mpr ⟨lk42, List.forall_mem_cons.mpr ⟨lk54, List.forall_mem_cons.mpr ⟨lk55, List.forall_mem_cons.mpr ⟨lk56, List.forall_mem_cons.mpr ⟨lk57, List.forall_mem_cons.mpr ⟨lk58, List.forall_mem_cons.mpr ⟨lk41, List.forall_mem_cons.mpr ⟨lk59, List.forall_mem_cons.mpr ⟨lk60, List.forall_mem_cons.mpr ⟨lk45, List.forall_mem_cons.mpr ⟨lk46, List.forall_mem_cons.mpr ⟨lk61, fun _ h => absurd h List.not_mem_nil⟩⟩⟩⟩⟩⟩⟩⟩⟩⟩⟩⟩⟩⟩
set_option maxRecDepth 100000 in
theorem ep_c7 : ev_vr MM ev_w7 = true := ev_vr_mk (l := ep_l7) (by decide +kernel) ep_k7
def ep_l8 : List (Instr × Nat × Nat) := [(.getfield 77, 10, 11), (.getfield 306, 8, 1), (.getfield 307, 8, 0)]
set_option maxRecDepth 100000 in
theorem ep_k8 : ∀ q ∈ ep_l8, ∀ pc, ev_kb MM "LeftAnswers" pc q.1 q.2.1 q.2.2 = true := by
  unfold ep_l8
  exact List.forall_mem_cons.mpr ⟨lk62, List.forall_mem_cons.mpr ⟨lk63, List.forall_mem_cons.mpr ⟨lk64, fun _ h => absurd h List.not_mem_nil⟩⟩⟩
set_option maxRecDepth 100000 in
theorem ep_c8 : ev_vr MM ev_w8 = true := ev_vr_mk (l := ep_l8) (by decide +kernel) ep_k8
def ep_l9 : List (Instr × Nat × Nat) := [(.getfield 19, 10, 1), (.getfield 299, 1, 0), (.getfield 360, 1, 1), (.getfield 363, 1, 2), (.getfield 366, 1, 3), (.getfield 368, 1, 4), (.getfield 10, 10, 0), (.getfield 101, 9, 1)]
set_option maxRecDepth 100000 in
theorem ep_k9 : ∀ q ∈ ep_l9, ∀ pc, ev_kb MM "LeftAnswers" pc q.1 q.2.1 q.2.2 = true := by
  unfold ep_l9
  exact List.forall_mem_cons.mpr ⟨lk42, List.forall_mem_cons.mpr ⟨lk65, List.forall_mem_cons.mpr ⟨lk66, List.forall_mem_cons.mpr ⟨lk67, List.forall_mem_cons.mpr ⟨lk68, List.forall_mem_cons.mpr ⟨lk69, List.forall_mem_cons.mpr ⟨lk53, List.forall_mem_cons.mpr ⟨lk70, fun _ h => absurd h List.not_mem_nil⟩⟩⟩⟩⟩⟩⟩⟩
set_option maxRecDepth 100000 in
theorem ep_c9 : ev_vr MM ev_w9 = true := ev_vr_mk (l := ep_l9) (by decide +kernel) ep_k9
def ep_l10 : List (Instr × Nat × Nat) := [(.getfield 29, 10, 3), (.invokevirtual 218, 95, 0), (.invokestatic 221, 901, 2), (.getfield 39, 10, 5), (.invokevirtual 226, 130, 1), (.getfield 19, 10, 1), (.invokevirtual 230, 111, 2)]
set_option maxRecDepth 100000 in
theorem ep_k10 : ∀ q ∈ ep_l10, ∀ pc, ev_kb MM "LeftAnswers" pc q.1 q.2.1 q.2.2 = true := by
  unfold ep_l10
  exact List.forall_mem_cons.mpr ⟨lk41, List.forall_mem_cons.mpr ⟨lk71, List.forall_mem_cons.mpr ⟨lk72, List.forall_mem_cons.mpr ⟨lk45, List.forall_mem_cons.mpr ⟨lk46, List.forall_mem_cons.mpr ⟨lk42, List.forall_mem_cons.mpr ⟨lk73, fun _ h => absurd h List.not_mem_nil⟩⟩⟩⟩⟩⟩⟩
set_option maxRecDepth 100000 in
theorem ep_c10 : ev_vr MM ev_w10 = true := ev_vr_mk (l := ep_l10) (by decide +kernel) ep_k10
def ep_l11 : List (Instr × Nat × Nat) := [(.invokevirtual 174, 26, 1), (.getfield 19, 10, 1), (.getfield 177, 1, 11), (.getfield 180, 1, 12), (.getfield 183, 1, 13), (.invokevirtual 184, 72, 1), (.getfield 29, 10, 3), (.getfield 187, 3, 11)]
set_option maxRecDepth 100000 in
theorem ep_k11 : ∀ q ∈ ep_l11, ∀ pc, ev_kb MM "LeftAnswers" pc q.1 q.2.1 q.2.2 = true := by
  unfold ep_l11
  exact List.forall_mem_cons.mpr ⟨lk40, List.forall_mem_cons.mpr ⟨lk42, List.forall_mem_cons.mpr ⟨lk74, List.forall_mem_cons.mpr ⟨lk75, List.forall_mem_cons.mpr ⟨lk76, List.forall_mem_cons.mpr ⟨lk77, List.forall_mem_cons.mpr ⟨lk41, List.forall_mem_cons.mpr ⟨lk78, fun _ h => absurd h List.not_mem_nil⟩⟩⟩⟩⟩⟩⟩⟩
set_option maxRecDepth 100000 in
theorem ep_c11 : ev_vr MM ev_w11 = true := ev_vr_mk (l := ep_l11) (by decide +kernel) ep_k11
def ep_l12 : List (Instr × Nat × Nat) := [(.invokevirtual 130, 28, 1), (.invokevirtual 174, 26, 1), (.invokestatic 167, 27, 1), (.invokevirtual 214, 2, 4)]
set_option maxRecDepth 100000 in
theorem ep_k12 : ∀ q ∈ ep_l12, ∀ pc, ev_kb MM "LeftAnswers" pc q.1 q.2.1 q.2.2 = true := by
  unfold ep_l12
  exact List.forall_mem_cons.mpr ⟨lk39, List.forall_mem_cons.mpr ⟨lk40, List.forall_mem_cons.mpr ⟨lk79, List.forall_mem_cons.mpr ⟨lk48, fun _ h => absurd h List.not_mem_nil⟩⟩⟩⟩
set_option maxRecDepth 100000 in
theorem ep_c12 : ev_vr MM ev_w12 = true := ev_vr_mk (l := ep_l12) (by decide +kernel) ep_k12
def ep_l13 : List (Instr × Nat × Nat) := [(.getfield 19, 10, 1), (.getfield 299, 1, 0), (.getfield 29, 10, 3), (.invokevirtual 218, 95, 0), (.invokestatic 221, 901, 2), (.getfield 39, 10, 5), (.invokevirtual 226, 130, 1), (.invokevirtual 311, 99, 3)]
set_option maxRecDepth 100000 in
theorem ep_k13 : ∀ q ∈ ep_l13, ∀ pc, ev_kb MM "LeftAnswers" pc q.1 q.2.1 q.2.2 = true := by
  unfold ep_l13
  exact List.forall_mem_cons.mpr ⟨lk42, List.forall_mem_cons.mpr ⟨lk65, List.forall_mem_cons.mpr ⟨lk41, List.forall_mem_cons.mpr ⟨lk71, List.forall_mem_cons.mpr ⟨lk72, List.forall_mem_cons.mpr ⟨lk45, List.forall_mem_cons.mpr ⟨lk46, List.forall_mem_cons.mpr ⟨lk80, fun _ h => absurd h List.not_mem_nil⟩⟩⟩⟩⟩⟩⟩⟩
set_option maxRecDepth 100000 in
theorem ep_c13 : ev_vr MM ev_w13 = true := ev_vr_mk (l := ep_l13) (by decide +kernel) ep_k13
def ep_l14 : List (Instr × Nat × Nat) := [(.getfield 23, 10, 2), (.getfield 10, 10, 0), (.invokevirtual 108, 76, 1), (.invokevirtual 112, 41, 0), (.getfield 88, 10, 13), (.getfield 115, 9, 11), (.getfield 19, 10, 1), (.putfield 19, 10, 1), (.putfield 23, 10, 2), (.getfield 29, 10, 3), (.getfield 118, 1, 5), (.invokevirtual 121, 91, 1), (.getfield 39, 10, 5), (.invokevirtual 124, 129, 0), (.getfield 53, 10, 7), (.invokevirtual 127, 136, 0)]
set_option maxRecDepth 100000 in
theorem ep_k14 : ∀ q ∈ ep_l14, ∀ pc, ev_kb MM "LeftAnswers" pc q.1 q.2.1 q.2.2 = true := by
  unfold ep_l14
  exact List.forall_mem_cons.mpr ⟨lk81, List.forall_mem_cons.mpr ⟨lk53, List.forall_mem_cons.mpr ⟨lk82, List.forall_mem_cons.mpr ⟨lk55, List.forall_mem_cons.mpr ⟨lk56, List.forall_mem_cons.mpr ⟨lk57, List.forall_mem_cons.mpr ⟨lk42, List.forall_mem_cons.mpr ⟨lk6, List.forall_mem_cons.mpr ⟨lk7, List.forall_mem_cons.mpr ⟨lk41, List.forall_mem_cons.mpr ⟨lk83, List.forall_mem_cons.mpr ⟨lk84, List.forall_mem_cons.mpr ⟨lk45, List.forall_mem_cons.mpr ⟨lk85, List.forall_mem_cons.mpr ⟨lk86, List.forall_mem_cons.mpr ⟨lk87, fun _ h => absurd h List.not_mem_nil⟩⟩⟩⟩⟩⟩⟩⟩⟩⟩⟩⟩⟩⟩⟩⟩
set_option maxRecDepth 100000 in
theorem ep_c14 : ev_vr MM ev_w14 = true := ev_vr_mk (l := ep_l14) (by decide +kernel) ep_k14
def ep_l15 : List (Instr × Nat × Nat) := [(.invokevirtual 130, 28, 1), (.getfield 29, 10, 3), (.getfield 19, 10, 1), (.invokevirtual 296, 107, 2)]
set_option maxRecDepth 100000 in
theorem ep_k15 : ∀ q ∈ ep_l15, ∀ pc, ev_kb MM "LeftAnswers" pc q.1 q.2.1 q.2.2 = true := by
  unfold ep_l15
  exact List.forall_mem_cons.mpr ⟨lk39, List.forall_mem_cons.mpr ⟨lk41, List.forall_mem_cons.mpr ⟨lk42, List.forall_mem_cons.mpr ⟨lk88, fun _ h => absurd h List.not_mem_nil⟩⟩⟩⟩
set_option maxRecDepth 100000 in
theorem ep_c15 : ev_vr MM ev_w15 = true := ev_vr_mk (l := ep_l15) (by decide +kernel) ep_k15
def ep_l16 : List (Instr × Nat × Nat) := [(.getfield 10, 10, 0), (.getfield 101, 9, 1), (.putfield 101, 9, 1)]
set_option maxRecDepth 100000 in
theorem ep_k16 : ∀ q ∈ ep_l16, ∀ pc, ev_kb MM "LeftAnswers" pc q.1 q.2.1 q.2.2 = true := by
  unfold ep_l16
  exact List.forall_mem_cons.mpr ⟨lk53, List.forall_mem_cons.mpr ⟨lk70, List.forall_mem_cons.mpr ⟨lk89, fun _ h => absurd h List.not_mem_nil⟩⟩⟩
set_option maxRecDepth 100000 in
theorem ep_c16 : ev_vr MM ev_w16 = true := ev_vr_mk (l := ep_l16) (by decide +kernel) ep_k16
def ep_l17 : List (Instr × Nat × Nat) := [(.getfield 88, 10, 13)]
set_option maxRecDepth 100000 in
theorem ep_k17 : ∀ q ∈ ep_l17, ∀ pc, ev_kb MM "LeftAnswers" pc q.1 q.2.1 q.2.2 = true := by
  unfold ep_l17
  exact List.forall_mem_cons.mpr ⟨lk56, fun _ h => absurd h List.not_mem_nil⟩
set_option maxRecDepth 100000 in
theorem ep_c17 : ev_vr MM ev_w17 = true := ev_vr_mk (l := ep_l17) (by decide +kernel) ep_k17
def ep_l18 : List (Instr × Nat × Nat) := [(.getfield 10, 10, 0), (.getfield 101, 9, 1), (.invokevirtual 104, 162, 1)]
set_option maxRecDepth 100000 in
theorem ep_k18 : ∀ q ∈ ep_l18, ∀ pc, ev_kb MM "LeftAnswers" pc q.1 q.2.1 q.2.2 = true := by
  unfold ep_l18
  exact List.forall_mem_cons.mpr ⟨lk53, List.forall_mem_cons.mpr ⟨lk70, List.forall_mem_cons.mpr ⟨lk90, fun _ h => absurd h List.not_mem_nil⟩⟩⟩
set_option maxRecDepth 100000 in
theorem ep_c18 : ev_vr MM ev_w18 = true := ev_vr_mk (l := ep_l18) (by decide +kernel) ep_k18
def ep_l19 : List (Instr × Nat × Nat) := [(.getfield 92, 10, 14), (.invokestatic 281, 6, 2)]
set_option maxRecDepth 100000 in
theorem ep_k19 : ∀ q ∈ ep_l19, ∀ pc, ev_kb MM "LeftAnswers" pc q.1 q.2.1 q.2.2 = true := by
  unfold ep_l19
  exact List.forall_mem_cons.mpr ⟨lk91, List.forall_mem_cons.mpr ⟨lk92, fun _ h => absurd h List.not_mem_nil⟩⟩
set_option maxRecDepth 100000 in
theorem ep_c19 : ev_vr MM ev_w19 = true := ev_vr_mk (l := ep_l19) (by decide +kernel) ep_k19
def ep_l20 : List (Instr × Nat × Nat) := [(.getfield 10, 10, 0), (.getfield 101, 9, 1), (.invokevirtual 242, 42, 1), (.invokevirtual 263, 43, 0), (.putfield 101, 9, 1), (.getfield 19, 10, 1), (.invokevirtual 267, 57, 0), (.invokevirtual 249, 166, 1), (.invokevirtual 270, 60, 1), (.putfield 92, 10, 14), (.invokevirtual 273, 59, 1), (.putfield 95, 10, 15), (.invokestatic 276, 298, 1)]
set_option maxRecDepth 100000 in
theorem ep_k20 : ∀ q ∈ ep_l20, ∀ pc, ev_kb MM "LeftAnswers" pc q.1 q.2.1 q.2.2 = true := by
  unfold ep_l20
  exact List.forall_mem_cons.mpr ⟨lk53, List.forall_mem_cons.mpr ⟨lk70, List.forall_mem_cons.mpr ⟨lk93, List.forall_mem_cons.mpr ⟨lk94, List.forall_mem_cons.mpr ⟨lk89, List.forall_mem_cons.mpr ⟨lk42, List.forall_mem_cons.mpr ⟨lk95, List.forall_mem_cons.mpr ⟨lk96, List.forall_mem_cons.mpr ⟨lk97, List.forall_mem_cons.mpr ⟨lk36, List.forall_mem_cons.mpr ⟨lk98, List.forall_mem_cons.mpr ⟨lk37, List.forall_mem_cons.mpr ⟨lk99, fun _ h => absurd h List.not_mem_nil⟩⟩⟩⟩⟩⟩⟩⟩⟩⟩⟩⟩⟩
set_option maxRecDepth 100000 in
theorem ep_c20 : ev_vr MM ev_w20 = true := ev_vr_mk (l := ep_l20) (by decide +kernel) ep_k20
def ep_l21 : List (Instr × Nat × Nat) := [(.invokevirtual 130, 28, 1), (.invokevirtual 214, 2, 4)]
set_option maxRecDepth 100000 in
theorem ep_k21 : ∀ q ∈ ep_l21, ∀ pc, ev_kb MM "LeftAnswers" pc q.1 q.2.1 q.2.2 = true := by
  unfold ep_l21
  exact List.forall_mem_cons.mpr ⟨lk39, List.forall_mem_cons.mpr ⟨lk48, fun _ h => absurd h List.not_mem_nil⟩⟩
set_option maxRecDepth 100000 in
theorem ep_c21 : ev_vr MM ev_w21 = true := ev_vr_mk (l := ep_l21) (by decide +kernel) ep_k21
def ep_l22 : List (Instr × Nat × Nat) := [(.getfield 98, 10, 16)]
set_option maxRecDepth 100000 in
theorem ep_k22 : ∀ q ∈ ep_l22, ∀ pc, ev_kb MM "LeftAnswers" pc q.1 q.2.1 q.2.2 = true := by
  unfold ep_l22
  exact List.forall_mem_cons.mpr ⟨lk100, fun _ h => absurd h List.not_mem_nil⟩
set_option maxRecDepth 100000 in
theorem ep_c22 : ev_vr MM ev_w22 = true := ev_vr_mk (l := ep_l22) (by decide +kernel) ep_k22
def ep_l23 : List (Instr × Nat × Nat) := [(.getfield 19, 10, 1), (.invokevirtual 287, 64, 0), (.putfield 98, 10, 16), (.getfield 98, 10, 16), (.invokestatic 276, 298, 1)]
set_option maxRecDepth 100000 in
theorem ep_k23 : ∀ q ∈ ep_l23, ∀ pc, ev_kb MM "LeftAnswers" pc q.1 q.2.1 q.2.2 = true := by
  unfold ep_l23
  exact List.forall_mem_cons.mpr ⟨lk42, List.forall_mem_cons.mpr ⟨lk101, List.forall_mem_cons.mpr ⟨lk38, List.forall_mem_cons.mpr ⟨lk100, List.forall_mem_cons.mpr ⟨lk99, fun _ h => absurd h List.not_mem_nil⟩⟩⟩⟩⟩
set_option maxRecDepth 100000 in
theorem ep_c23 : ev_vr MM ev_w23 = true := ev_vr_mk (l := ep_l23) (by decide +kernel) ep_k23
def ep_l24 : List (Instr × Nat × Nat) := [(.invokevirtual 130, 28, 1), (.getfield 19, 10, 1), (.invokevirtual 284, 83, 2)]
set_option maxRecDepth 100000 in
theorem ep_k24 : ∀ q ∈ ep_l24, ∀ pc, ev_kb MM "LeftAnswers" pc q.1 q.2.1 q.2.2 = true := by
  unfold ep_l24
  exact List.forall_mem_cons.mpr ⟨lk39, List.forall_mem_cons.mpr ⟨lk42, List.forall_mem_cons.mpr ⟨lk102, fun _ h => absurd h List.not_mem_nil⟩⟩⟩
set_option maxRecDepth 100000 in
theorem ep_c24 : ev_vr MM ev_w24 = true := ev_vr_mk (l := ep_l24) (by decide +kernel) ep_k24
def ep_l25 : List (Instr × Nat × Nat) := [(.getfield 84, 10, 12), (.getfield 19, 10, 1), (.getfield 29, 10, 3), (.getfield 53, 10, 7), (.invokevirtual 351, 86, 3)]
set_option maxRecDepth 100000 in
theorem ep_k25 : ∀ q ∈ ep_l25, ∀ pc, ev_kb MM "LeftAnswers" pc q.1 q.2.1 q.2.2 = true := by
  unfold ep_l25
  exact List.forall_mem_cons.mpr ⟨lk103, List.forall_mem_cons.mpr ⟨lk42, List.forall_mem_cons.mpr ⟨lk41, List.forall_mem_cons.mpr ⟨lk86, List.forall_mem_cons.mpr ⟨lk104, fun _ h => absurd h List.not_mem_nil⟩⟩⟩⟩⟩
set_option maxRecDepth 100000 in
theorem ep_c25 : ev_vr MM ev_w25 = true := ev_vr_mk (l := ep_l25) (by decide +kernel) ep_k25
def ep_l26 : List (Instr × Nat × Nat) := [(.getfield 19, 10, 1), (.getfield 360, 1, 1)]
set_option maxRecDepth 100000 in
theorem ep_k26 : ∀ q ∈ ep_l26, ∀ pc, ev_kb MM "LeftAnswers" pc q.1 q.2.1 q.2.2 = true := by
  unfold ep_l26
  exact List.forall_mem_cons.mpr ⟨lk42, List.forall_mem_cons.mpr ⟨lk66, fun _ h => absurd h List.not_mem_nil⟩⟩
set_option maxRecDepth 100000 in
theorem ep_c26 : ev_vr MM ev_w26 = true := ev_vr_mk (l := ep_l26) (by decide +kernel) ep_k26
def ep_l27 : List (Instr × Nat × Nat) := []
set_option maxRecDepth 100000 in
theorem ep_k27 : ∀ q ∈ ep_l27, ∀ pc, ev_kb MM "LeftAnswers" pc q.1 q.2.1 q.2.2 = true := by
  unfold ep_l27
  exact fun _ h => absurd h List.not_mem_nil
set_option maxRecDepth 100000 in
theorem ep_c27 : ev_vr MM ev_w27 = true := ev_vr_mk (l := ep_l27) (by decide +kernel) ep_k27
def ep_l28 : List (Instr × Nat × Nat) := [(.getfield 19, 10, 1), (.getfield 299, 1, 0)]
set_option maxRecDepth 100000 in
theorem ep_k28 : ∀ q ∈ ep_l28, ∀ pc, ev_kb MM "LeftAnswers" pc q.1 q.2.1 q.2.2 = true := by
  unfold ep_l28
  exact List.forall_mem_cons.mpr ⟨lk42, List.forall_mem_cons.mpr ⟨lk65, fun _ h => absurd h List.not_mem_nil⟩⟩
set_option maxRecDepth 100000 in
theorem ep_c28 : ev_vr MM ev_w28 = true := ev_vr_mk (l := ep_l28) (by decide +kernel) ep_k28
def ep_l29 : List (Instr × Nat × Nat) := [(.getfield 29, 10, 3), (.getfield 190, 3, 0), (.invokevirtual 193, 106, 0), (.getfield 197, 3, 3), (.invokevirtual 198, 114, 0), (.getfield 19, 10, 1), (.invokevirtual 201, 113, 1), (.invokevirtual 205, 90, 0), (.getfield 208, 3, 1), (.getfield 211, 3, 2)]
set_option maxRecDepth 100000 in
theorem ep_k29 : ∀ q ∈ ep_l29, ∀ pc, ev_kb MM "LeftAnswers" pc q.1 q.2.1 q.2.2 = true := by
  unfold ep_l29
  exact List.forall_mem_cons.mpr ⟨lk41, List.forall_mem_cons.mpr ⟨lk105, List.forall_mem_cons.mpr ⟨lk106, List.forall_mem_cons.mpr ⟨lk107, List.forall_mem_cons.mpr ⟨lk108, List.forall_mem_cons.mpr ⟨lk42, List.forall_mem_cons.mpr ⟨lk109, List.forall_mem_cons.mpr ⟨lk110, List.forall_mem_cons.mpr ⟨lk111, List.forall_mem_cons.mpr ⟨lk112, fun _ h => absurd h List.not_mem_nil⟩⟩⟩⟩⟩⟩⟩⟩⟩⟩
set_option maxRecDepth 100000 in
theorem ep_c29 : ev_vr MM ev_w29 = true := ev_vr_mk (l := ep_l29) (by decide +kernel) ep_k29
def ep_l30 : List (Instr × Nat × Nat) := [(.invokevirtual 130, 28, 1), (.getfield 29, 10, 3), (.invokevirtual 218, 95, 0), (.invokestatic 221, 901, 2), (.getfield 33, 10, 4), (.invokevirtual 315, 94, 1), (.getfield 19, 10, 1), (.invokevirtual 311, 99, 3), (.getfield 141, 3, 5)]
set_option maxRecDepth 100000 in
theorem ep_k30 : ∀ q ∈ ep_l30, ∀ pc, ev_kb MM "LeftAnswers" pc q.1 q.2.1 q.2.2 = true := by
  unfold ep_l30
  exact List.forall_mem_cons.mpr ⟨lk39, List.forall_mem_cons.mpr ⟨lk41, List.forall_mem_cons.mpr ⟨lk71, List.forall_mem_cons.mpr ⟨lk72, List.forall_mem_cons.mpr ⟨lk58, List.forall_mem_cons.mpr ⟨lk59, List.forall_mem_cons.mpr ⟨lk42, List.forall_mem_cons.mpr ⟨lk80, List.forall_mem_cons.mpr ⟨lk113, fun _ h => absurd h List.not_mem_nil⟩⟩⟩⟩⟩⟩⟩⟩⟩
set_option maxRecDepth 100000 in
theorem ep_c30 : ev_vr MM ev_w30 = true := ev_vr_mk (l := ep_l30) (by decide +kernel) ep_k30
def ep_l31 : List (Instr × Nat × Nat) := [(.invokevirtual 130, 28, 1), (.invokevirtual 214, 2, 4)]
set_option maxRecDepth 100000 in
theorem ep_k31 : ∀ q ∈ ep_l31, ∀ pc, ev_kb MM "LeftAnswers" pc q.1 q.2.1 q.2.2 = true := by
  unfold ep_l31
  exact List.forall_mem_cons.mpr ⟨lk39, List.forall_mem_cons.mpr ⟨lk48, fun _ h => absurd h List.not_mem_nil⟩⟩
set_option maxRecDepth 100000 in
theorem ep_c31 : ev_vr MM ev_w31 = true := ev_vr_mk (l := ep_l31) (by decide +kernel) ep_k31
def ep_l32 : List (Instr × Nat × Nat) := [(.getfield 10, 10, 0), (.getfield 101, 9, 1), (.invokevirtual 242, 42, 1), (.putfield 101, 9, 1), (.getfield 63, 10, 9), (.invokevirtual 245, 123, 1), (.getfield 246, 5, 0), (.getfield 29, 10, 3), (.getfield 19, 10, 1), (.invokevirtual 249, 166, 1), (.invokevirtual 253, 92, 2), (.invokevirtual 257, 126, 0)]
set_option maxRecDepth 100000 in
theorem ep_k32 : ∀ q ∈ ep_l32, ∀ pc, ev_kb MM "LeftAnswers" pc q.1 q.2.1 q.2.2 = true := by
  unfold ep_l32
  exact List.forall_mem_cons.mpr ⟨lk53, List.forall_mem_cons.mpr ⟨lk70, List.forall_mem_cons.mpr ⟨lk93, List.forall_mem_cons.mpr ⟨lk89, List.forall_mem_cons.mpr ⟨lk114, List.forall_mem_cons.mpr ⟨lk115, List.forall_mem_cons.mpr ⟨lk116, List.forall_mem_cons.mpr ⟨lk41, List.forall_mem_cons.mpr ⟨lk42, List.forall_mem_cons.mpr ⟨lk96, List.forall_mem_cons.mpr ⟨lk117, List.forall_mem_cons.mpr ⟨lk118, fun _ h => absurd h List.not_mem_nil⟩⟩⟩⟩⟩⟩⟩⟩⟩⟩⟩⟩
set_option maxRecDepth 100000 in
theorem ep_c32 : ev_vr MM ev_w32 = true := ev_vr_mk (l := ep_l32) (by decide +kernel) ep_k32
def ep_l33 : List (Instr × Nat × Nat) := [(.getfield 63, 10, 9), (.invokevirtual 260, 124, 1)]
set_option maxRecDepth 100000 in
theorem ep_k33 : ∀ q ∈ ep_l33, ∀ pc, ev_kb MM "LeftAnswers" pc q.1 q.2.1 q.2.2 = true := by
  unfold ep_l33
  exact List.forall_mem_cons.mpr ⟨lk114, List.forall_mem_cons.mpr ⟨lk119, fun _ h => absurd h List.not_mem_nil⟩⟩
set_option maxRecDepth 100000 in
theorem ep_c33 : ev_vr MM ev_w33 = true := ev_vr_mk (l := ep_l33) (by decide +kernel) ep_k33
def ep_l34 : List (Instr × Nat × Nat) := [(.invokevirtual 130, 28, 1), (.getfield 29, 10, 3), (.getfield 141, 3, 5), (.getfield 145, 3, 6), (.getfield 148, 3, 7), (.getfield 151, 3, 8), (.getfield 154, 3, 9), (.invokevirtual 157, 102, 1), (.getfield 160, 3, 10), (.getfield 19, 10, 1), (.invokevirtual 163, 104, 2)]
set_option maxRecDepth 100000 in
theorem ep_k34 : ∀ q ∈ ep_l34, ∀ pc, ev_kb MM "LeftAnswers" pc q.1 q.2.1 q.2.2 = true := by
  unfold ep_l34
  exact List.forall_mem_cons.mpr ⟨lk39, List.forall_mem_cons.mpr ⟨lk41, List.forall_mem_cons.mpr ⟨lk113, List.forall_mem_cons.mpr ⟨lk120, List.forall_mem_cons.mpr ⟨lk121, List.forall_mem_cons.mpr ⟨lk122, List.forall_mem_cons.mpr ⟨lk123, List.forall_mem_cons.mpr ⟨lk124, List.forall_mem_cons.mpr ⟨lk125, List.forall_mem_cons.mpr ⟨lk42, List.forall_mem_cons.mpr ⟨lk126, fun _ h => absurd h List.not_mem_nil⟩⟩⟩⟩⟩⟩⟩⟩⟩⟩⟩
set_option maxRecDepth 100000 in
theorem ep_c34 : ev_vr MM ev_w34 = true := ev_vr_mk (l := ep_l34) (by decide +kernel) ep_k34
def ep_l35 : List (Instr × Nat × Nat) := [(.getfield 84, 10, 12), (.getfield 354, 2, 0), (.getfield 19, 10, 1), (.getfield 29, 10, 3), (.getfield 53, 10, 7), (.invokevirtual 357, 85, 3), (.getfield 39, 10, 5), (.invokevirtual 124, 129, 0)]
set_option maxRecDepth 100000 in
theorem ep_k35 : ∀ q ∈ ep_l35, ∀ pc, ev_kb MM "LeftAnswers" pc q.1 q.2.1 q.2.2 = true := by
  unfold ep_l35
  exact List.forall_mem_cons.mpr ⟨lk103, List.forall_mem_cons.mpr ⟨lk127, List.forall_mem_cons.mpr ⟨lk42, List.forall_mem_cons.mpr ⟨lk41, List.forall_mem_cons.mpr ⟨lk86, List.forall_mem_cons.mpr ⟨lk128, List.forall_mem_cons.mpr ⟨lk45, List.forall_mem_cons.mpr ⟨lk85, fun _ h => absurd h List.not_mem_nil⟩⟩⟩⟩⟩⟩⟩⟩
set_option maxRecDepth 100000 in
theorem ep_c35 : ev_vr MM ev_w35 = true := ev_vr_mk (l := ep_l35) (by decide +kernel) ep_k35
def ep_l36 : List (Instr × Nat × Nat) := [(.getfield 19, 10, 1), (.getfield 299, 1, 0), (.getfield 29, 10, 3), (.getfield 141, 3, 5)]
set_option maxRecDepth 100000 in
theorem ep_k36 : ∀ q ∈ ep_l36, ∀ pc, ev_kb MM "LeftAnswers" pc q.1 q.2.1 q.2.2 = true := by
  unfold ep_l36
  exact List.forall_mem_cons.mpr ⟨lk42, List.forall_mem_cons.mpr ⟨lk65, List.forall_mem_cons.mpr ⟨lk41, List.forall_mem_cons.mpr ⟨lk113, fun _ h => absurd h List.not_mem_nil⟩⟩⟩⟩
set_option maxRecDepth 100000 in
theorem ep_c36 : ev_vr MM ev_w36 = true := ev_vr_mk (l := ep_l36) (by decide +kernel) ep_k36
def ep_l37 : List (Instr × Nat × Nat) := [(.getfield 53, 10, 7), (.getfield 345, 7, 0), (.getfield 19, 10, 1), (.getfield 29, 10, 3), (.invokevirtual 348, 147, 2), (.invokestatic 276, 298, 1), (.invokestatic 281, 6, 2)]
set_option maxRecDepth 100000 in
theorem ep_k37 : ∀ q ∈ ep_l37, ∀ pc, ev_kb MM "LeftAnswers" pc q.1 q.2.1 q.2.2 = true := by
  unfold ep_l37
  exact List.forall_mem_cons.mpr ⟨lk86, List.forall_mem_cons.mpr ⟨lk129, List.forall_mem_cons.mpr ⟨lk42, List.forall_mem_cons.mpr ⟨lk41, List.forall_mem_cons.mpr ⟨lk130, List.forall_mem_cons.mpr ⟨lk99, List.forall_mem_cons.mpr ⟨lk92, fun _ h => absurd h List.not_mem_nil⟩⟩⟩⟩⟩⟩⟩
set_option maxRecDepth 100000 in
theorem ep_c37 : ev_vr MM ev_w37 = true := ev_vr_mk (l := ep_l37) (by decide +kernel) ep_k37
def ep_l38 : List (Instr × Nat × Nat) := [(.getfield 57, 10, 8), (.getfield 10, 10, 0), (.getfield 19, 10, 1), (.invokevirtual 344, 143, 2), (.invokevirtual 112, 41, 0), (.getfield 88, 10, 13), (.getfield 115, 9, 11), (.getfield 53, 10, 7), (.putfield 53, 10, 7), (.putfield 57, 10, 8), (.getfield 345, 7, 0)]
set_option maxRecDepth 100000 in
theorem ep_k38 : ∀ q ∈ ep_l38, ∀ pc, ev_kb MM "LeftAnswers" pc q.1 q.2.1 q.2.2 = true := by
  unfold ep_l38
  exact List.forall_mem_cons.mpr ⟨lk131, List.forall_mem_cons.mpr ⟨lk53, List.forall_mem_cons.mpr ⟨lk42, List.forall_mem_cons.mpr ⟨lk132, List.forall_mem_cons.mpr ⟨lk55, List.forall_mem_cons.mpr ⟨lk56, List.forall_mem_cons.mpr ⟨lk57, List.forall_mem_cons.mpr ⟨lk86, List.forall_mem_cons.mpr ⟨lk20, List.forall_mem_cons.mpr ⟨lk21, List.forall_mem_cons.mpr ⟨lk129, fun _ h => absurd h List.not_mem_nil⟩⟩⟩⟩⟩⟩⟩⟩⟩⟩⟩
set_option maxRecDepth 100000 in
theorem ep_c38 : ev_vr MM ev_w38 = true := ev_vr_mk (l := ep_l38) (by decide +kernel) ep_k38
def ep_l39 : List (Instr × Nat × Nat) := [(.invokevirtual 130, 28, 1), (.invokestatic 167, 27, 1), (.getfield 19, 10, 1), (.invokevirtual 170, 81, 2)]
set_option maxRecDepth 100000 in
theorem ep_k39 : ∀ q ∈ ep_l39, ∀ pc, ev_kb MM "LeftAnswers" pc q.1 q.2.1 q.2.2 = true := by
  unfold ep_l39
  exact List.forall_mem_cons.mpr ⟨lk39, List.forall_mem_cons.mpr ⟨lk79, List.forall_mem_cons.mpr ⟨lk42, List.forall_mem_cons.mpr ⟨lk133, fun _ h => absurd h List.not_mem_nil⟩⟩⟩⟩
set_option maxRecDepth 100000 in
theorem ep_c39 : ev_vr MM ev_w39 = true := ev_vr_mk (l := ep_l39) (by decide +kernel) ep_k39
