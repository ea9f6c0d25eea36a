def ep_l40 : List (Instr × Nat × Nat) := [(.getfield 46, 10, 6), (.getfield 328, 0, 5)]
set_option maxRecDepth 100000 in
theorem ep_k40 : ∀ q ∈ ep_l40, ∀ pc, ev_kb MM "LeftAnswers" pc q.1 q.2.1 q.2.2 = true := by
  unfold ep_l40
  exact List.forall_mem_cons.mpr ⟨lk44, List.forall_mem_cons.mpr ⟨lk100, fun _ h => absurd h List.not_mem_nil⟩⟩
set_option maxRecDepth 100000 in
theorem ep_c40 : ev_vr MM ev_w40 = true := ev_vr_mk (l := ep_l40) (by decide +kernel) ep_k40
def ep_l41 : List (Instr × Nat × Nat) := [(.getfield 39, 10, 5), (.getfield 29, 10, 3), (.invokevirtual 234, 75, 1)]
set_option maxRecDepth 100000 in
theorem ep_k41 : ∀ q ∈ ep_l41, ∀ pc, ev_kb MM "LeftAnswers" pc q.1 q.2.1 q.2.2 = true := by
  unfold ep_l41
  exact List.forall_mem_cons.mpr ⟨lk52, List.forall_mem_cons.mpr ⟨lk42, List.forall_mem_cons.mpr ⟨lk101, fun _ h => absurd h List.not_mem_nil⟩⟩⟩
set_option maxRecDepth 100000 in
theorem ep_c41 : ev_vr MM ev_w41 = true := ev_vr_mk (l := ep_l41) (by decide +kernel) ep_k41
def ep_l42 : List (Instr × Nat × Nat) := [(.invokevirtual 130, 26, 1)]
set_option maxRecDepth 100000 in
theorem ep_k42 : ∀ q ∈ ep_l42, ∀ pc, ev_kb MM "LeftAnswers" pc q.1 q.2.1 q.2.2 = true := by
  unfold ep_l42
  exact List.forall_mem_cons.mpr ⟨lk39, fun _ h => absurd h List.not_mem_nil⟩
set_option maxRecDepth 100000 in
theorem ep_c42 : ev_vr MM ev_w42 = true := ev_vr_mk (l := ep_l42) (by decide +kernel) ep_k42
def ep_l43 : List (Instr × Nat × Nat) := [(.invokespecial 3, 999, 0), (.newarray .int, 0, 0), (.putfield 11, 0, 0), (.putfield 15, 0, 1), (.putfield 18, 0, 2), (.putfield 21, 0, 3)]
set_option maxRecDepth 100000 in
theorem ep_k43 : ∀ q ∈ ep_l43, ∀ pc, ev_kb MM "LeftAnswers$Book" pc q.1 q.2.1 q.2.2 = true := by
  unfold ep_l43
  exact List.forall_mem_cons.mpr ⟨lk102, List.forall_mem_cons.mpr ⟨lk103, List.forall_mem_cons.mpr ⟨lk104, List.forall_mem_cons.mpr ⟨lk105, List.forall_mem_cons.mpr ⟨lk106, List.forall_mem_cons.mpr ⟨lk107, fun _ h => absurd h List.not_mem_nil⟩⟩⟩⟩⟩⟩
set_option maxRecDepth 100000 in
theorem ep_c43 : ev_vr MM ev_w43 = true := ev_vr_mk (l := ep_l43) (by decide +kernel) ep_k43
def ep_l44 : List (Instr × Nat × Nat) := [(.putfield 101, 0, 7), (.putfield 104, 0, 6), (.putfield 107, 0, 8), (.getfield 24, 0, 4), (.getfield 120, 3, 0), (.putfield 123, 0, 9), (.invokevirtual 126, 62, 0), (.putfield 129, 0, 10), (.putfield 132, 0, 5)]
set_option maxRecDepth 100000 in
theorem ep_k44 : ∀ q ∈ ep_l44, ∀ pc, ev_kb MM "LeftAnswers$Book" pc q.1 q.2.1 q.2.2 = true := by
  unfold ep_l44
  exact List.forall_mem_cons.mpr ⟨lk108, List.forall_mem_cons.mpr ⟨lk109, List.forall_mem_cons.mpr ⟨lk110, List.forall_mem_cons.mpr ⟨lk111, List.forall_mem_cons.mpr ⟨lk112, List.forall_mem_cons.mpr ⟨lk113, List.forall_mem_cons.mpr ⟨lk114, List.forall_mem_cons.mpr ⟨lk115, List.forall_mem_cons.mpr ⟨lk116, fun _ h => absurd h List.not_mem_nil⟩⟩⟩⟩⟩⟩⟩⟩⟩
set_option maxRecDepth 100000 in
theorem ep_c44 : ev_vr MM ev_w44 = true := ev_vr_mk (l := ep_l44) (by decide +kernel) ep_k44
def ep_l45 : List (Instr × Nat × Nat) := [(.putfield 24, 0, 4), (.invokevirtual 28, 88, 1), (.getfield 34, 9, 4)]
set_option maxRecDepth 100000 in
theorem ep_k45 : ∀ q ∈ ep_l45, ∀ pc, ev_kb MM "LeftAnswers$Book" pc q.1 q.2.1 q.2.2 = true := by
  unfold ep_l45
  exact List.forall_mem_cons.mpr ⟨lk117, List.forall_mem_cons.mpr ⟨lk118, List.forall_mem_cons.mpr ⟨lk119, fun _ h => absurd h List.not_mem_nil⟩⟩⟩
set_option maxRecDepth 100000 in
theorem ep_c45 : ev_vr MM ev_w45 = true := ev_vr_mk (l := ep_l45) (by decide +kernel) ep_k45
def ep_l46 : List (Instr × Nat × Nat) := [(.invokespecial 3, 999, 0), (.newarray .long, 0, 0), (.putfield 9, 1, 7), (.newarray .int, 0, 0), (.putfield 15, 1, 8), (.putfield 19, 1, 9), (.putfield 22, 1, 14), (.putfield 25, 1, 15), (.putfield 28, 1, 10), (.putfield 31, 1, 11), (.putfield 34, 1, 12), (.putfield 37, 1, 13), (.invokevirtual 40, 51, 0)]
set_option maxRecDepth 100000 in
theorem ep_k46 : ∀ q ∈ ep_l46, ∀ pc, ev_kb MM "LeftAnswers$Duchy" pc q.1 q.2.1 q.2.2 = true := by
  unfold ep_l46
  exact List.forall_mem_cons.mpr ⟨lk120, List.forall_mem_cons.mpr ⟨lk121, List.forall_mem_cons.mpr ⟨lk122, List.forall_mem_cons.mpr ⟨lk123, List.forall_mem_cons.mpr ⟨lk124, List.forall_mem_cons.mpr ⟨lk125, List.forall_mem_cons.mpr ⟨lk126, List.forall_mem_cons.mpr ⟨lk127, List.forall_mem_cons.mpr ⟨lk128, List.forall_mem_cons.mpr ⟨lk129, List.forall_mem_cons.mpr ⟨lk130, List.forall_mem_cons.mpr ⟨lk131, List.forall_mem_cons.mpr ⟨lk132, fun _ h => absurd h List.not_mem_nil⟩⟩⟩⟩⟩⟩⟩⟩⟩⟩⟩⟩⟩
set_option maxRecDepth 100000 in
theorem ep_c46 : ev_vr MM ev_w46 = true := ev_vr_mk (l := ep_l46) (by decide +kernel) ep_k46
def ep_l47 : List (Instr × Nat × Nat) := [(.getfield 43, 1, 0)]
set_option maxRecDepth 100000 in
theorem ep_k47 : ∀ q ∈ ep_l47, ∀ pc, ev_kb MM "LeftAnswers$Duchy" pc q.1 q.2.1 q.2.2 = true := by
  unfold ep_l47
  exact List.forall_mem_cons.mpr ⟨lk133, fun _ h => absurd h List.not_mem_nil⟩
set_option maxRecDepth 100000 in
theorem ep_c47 : ev_vr MM ev_w47 = true := ev_vr_mk (l := ep_l47) (by decide +kernel) ep_k47
def ep_l48 : List (Instr × Nat × Nat) := [(.putfield 43, 1, 0), (.putfield 47, 1, 1), (.putfield 50, 1, 2), (.putfield 53, 1, 3), (.putfield 56, 1, 4), (.putfield 59, 1, 5), (.putfield 62, 1, 6), (.getfield 22, 1, 14), (.getfield 25, 1, 15)]
set_option maxRecDepth 100000 in
theorem ep_k48 : ∀ q ∈ ep_l48, ∀ pc, ev_kb MM "LeftAnswers$Duchy" pc q.1 q.2.1 q.2.2 = true := by
  unfold ep_l48
  exact List.forall_mem_cons.mpr ⟨lk134, List.forall_mem_cons.mpr ⟨lk135, List.forall_mem_cons.mpr ⟨lk136, List.forall_mem_cons.mpr ⟨lk137, List.forall_mem_cons.mpr ⟨lk138, List.forall_mem_cons.mpr ⟨lk139, List.forall_mem_cons.mpr ⟨lk140, List.forall_mem_cons.mpr ⟨lk141, List.forall_mem_cons.mpr ⟨lk142, fun _ h => absurd h List.not_mem_nil⟩⟩⟩⟩⟩⟩⟩⟩⟩
set_option maxRecDepth 100000 in
theorem ep_c48 : ev_vr MM ev_w48 = true := ev_vr_mk (l := ep_l48) (by decide +kernel) ep_k48
def ep_l49 : List (Instr × Nat × Nat) := [(.getfield 43, 1, 0), (.putfield 43, 1, 0), (.getfield 47, 1, 1), (.putfield 47, 1, 1), (.getfield 50, 1, 2), (.putfield 50, 1, 2), (.getfield 53, 1, 3), (.putfield 53, 1, 3), (.getfield 56, 1, 4), (.putfield 56, 1, 4), (.getfield 59, 1, 5), (.putfield 59, 1, 5), (.getfield 62, 1, 6), (.putfield 62, 1, 6), (.getfield 9, 1, 7), (.invokestatic 65, 904, 5), (.getfield 15, 1, 8), (.getfield 19, 1, 9), (.getfield 22, 1, 14), (.getfield 25, 1, 15), (.getfield 28, 1, 10), (.getfield 31, 1, 11), (.getfield 34, 1, 12), (.getfield 37, 1, 13)]
set_option maxRecDepth 100000 in
theorem ep_k49 : ∀ q ∈ ep_l49, ∀ pc, ev_kb MM "LeftAnswers$Duchy" pc q.1 q.2.1 q.2.2 = true := by
  unfold ep_l49
  exact List.forall_mem_cons.mpr ⟨lk133, List.forall_mem_cons.mpr ⟨lk134, List.forall_mem_cons.mpr ⟨lk143, List.forall_mem_cons.mpr ⟨lk135, List.forall_mem_cons.mpr ⟨lk144, List.forall_mem_cons.mpr ⟨lk136, List.forall_mem_cons.mpr ⟨lk145, List.forall_mem_cons.mpr ⟨lk137, List.forall_mem_cons.mpr ⟨lk146, List.forall_mem_cons.mpr ⟨lk138, List.forall_mem_cons.mpr ⟨lk147, List.forall_mem_cons.mpr ⟨lk139, List.forall_mem_cons.mpr ⟨lk148, List.forall_mem_cons.mpr ⟨lk140, List.forall_mem_cons.mpr ⟨lk149, List.forall_mem_cons.mpr ⟨lk150, List.forall_mem_cons.mpr ⟨lk151, List.forall_mem_cons.mpr ⟨lk152, List.forall_mem_cons.mpr ⟨lk141, List.forall_mem_cons.mpr ⟨lk142, List.forall_mem_cons.mpr ⟨lk153, List.forall_mem_cons.mpr ⟨lk154, List.forall_mem_cons.mpr ⟨lk155, List.forall_mem_cons.mpr ⟨lk156, fun _ h => absurd h List.not_mem_nil⟩⟩⟩⟩⟩⟩⟩⟩⟩⟩⟩⟩⟩⟩⟩⟩⟩⟩⟩⟩⟩⟩⟩⟩
set_option maxRecDepth 100000 in
theorem ep_c49 : ev_vr MM ev_w49 = true := ev_vr_mk (l := ep_l49) (by decide +kernel) ep_k49
def ep_l50 : List (Instr × Nat × Nat) := [(.invokevirtual 200, 47, 0), (.invokestatic 183, 160, 1)]
set_option maxRecDepth 100000 in
theorem ep_k50 : ∀ q ∈ ep_l50, ∀ pc, ev_kb MM "LeftAnswers$Duchy" pc q.1 q.2.1 q.2.2 = true := by
  unfold ep_l50
  exact List.forall_mem_cons.mpr ⟨lk157, List.forall_mem_cons.mpr ⟨lk158, fun _ h => absurd h List.not_mem_nil⟩⟩
set_option maxRecDepth 100000 in
theorem ep_c50 : ev_vr MM ev_w50 = true := ev_vr_mk (l := ep_l50) (by decide +kernel) ep_k50
def ep_l51 : List (Instr × Nat × Nat) := [(.getfield 50, 1, 2), (.putfield 50, 1, 2), (.getfield 53, 1, 3), (.putfield 53, 1, 3), (.getfield 56, 1, 4), (.putfield 56, 1, 4)]
set_option maxRecDepth 100000 in
theorem ep_k51 : ∀ q ∈ ep_l51, ∀ pc, ev_kb MM "LeftAnswers$Duchy" pc q.1 q.2.1 q.2.2 = true := by
  unfold ep_l51
  exact List.forall_mem_cons.mpr ⟨lk144, List.forall_mem_cons.mpr ⟨lk136, List.forall_mem_cons.mpr ⟨lk145, List.forall_mem_cons.mpr ⟨lk137, List.forall_mem_cons.mpr ⟨lk146, List.forall_mem_cons.mpr ⟨lk138, fun _ h => absurd h List.not_mem_nil⟩⟩⟩⟩⟩⟩
set_option maxRecDepth 100000 in
theorem ep_c51 : ev_vr MM ev_w51 = true := ev_vr_mk (l := ep_l51) (by decide +kernel) ep_k51
def ep_l52 : List (Instr × Nat × Nat) := [(.invokevirtual 71, 48, 0), (.invokevirtual 74, 88, 1), (.getfield 80, 9, 4), (.invokevirtual 40, 51, 0)]
set_option maxRecDepth 100000 in
theorem ep_k52 : ∀ q ∈ ep_l52, ∀ pc, ev_kb MM "LeftAnswers$Duchy" pc q.1 q.2.1 q.2.2 = true := by
  unfold ep_l52
  exact List.forall_mem_cons.mpr ⟨lk159, List.forall_mem_cons.mpr ⟨lk160, List.forall_mem_cons.mpr ⟨lk161, List.forall_mem_cons.mpr ⟨lk132, fun _ h => absurd h List.not_mem_nil⟩⟩⟩⟩
set_option maxRecDepth 100000 in
theorem ep_c52 : ev_vr MM ev_w52 = true := ev_vr_mk (l := ep_l52) (by decide +kernel) ep_k52
def ep_l53 : List (Instr × Nat × Nat) := [(.invokespecial 1, 999, 0), (.new 7, 1, 0), (.invokespecial 9, 46, 0), (.putfield 10, 2, 1), (.new 16, 3, 0), (.invokespecial 18, 55, 0), (.putfield 19, 2, 2), (.new 23, 7, 0), (.invokespecial 25, 76, 0), (.putfield 26, 2, 3)]
set_option maxRecDepth 100000 in
theorem ep_k53 : ∀ q ∈ ep_l53, ∀ pc, ev_kb MM "LeftAnswers$Image" pc q.1 q.2.1 q.2.2 = true := by
  unfold ep_l53
  exact List.forall_mem_cons.mpr ⟨lk162, List.forall_mem_cons.mpr ⟨lk163, List.forall_mem_cons.mpr ⟨lk164, List.forall_mem_cons.mpr ⟨lk165, List.forall_mem_cons.mpr ⟨lk166, List.forall_mem_cons.mpr ⟨lk167, List.forall_mem_cons.mpr ⟨lk168, List.forall_mem_cons.mpr ⟨lk169, List.forall_mem_cons.mpr ⟨lk170, List.forall_mem_cons.mpr ⟨lk171, fun _ h => absurd h List.not_mem_nil⟩⟩⟩⟩⟩⟩⟩⟩⟩⟩
set_option maxRecDepth 100000 in
theorem ep_c53 : ev_vr MM ev_w53 = true := ev_vr_mk (l := ep_l53) (by decide +kernel) ep_k53
def ep_l54 : List (Instr × Nat × Nat) := [(.getfield 10, 2, 1), (.invokevirtual 30, 49, 1), (.getfield 19, 2, 2), (.invokevirtual 34, 58, 1), (.getfield 26, 2, 3), (.invokevirtual 37, 79, 1), (.putfield 40, 2, 0)]
set_option maxRecDepth 100000 in
theorem ep_k54 : ∀ q ∈ ep_l54, ∀ pc, ev_kb MM "LeftAnswers$Image" pc q.1 q.2.1 q.2.2 = true := by
  unfold ep_l54
  exact List.forall_mem_cons.mpr ⟨lk172, List.forall_mem_cons.mpr ⟨lk173, List.forall_mem_cons.mpr ⟨lk174, List.forall_mem_cons.mpr ⟨lk175, List.forall_mem_cons.mpr ⟨lk176, List.forall_mem_cons.mpr ⟨lk177, List.forall_mem_cons.mpr ⟨lk178, fun _ h => absurd h List.not_mem_nil⟩⟩⟩⟩⟩⟩⟩
set_option maxRecDepth 100000 in
theorem ep_c54 : ev_vr MM ev_w54 = true := ev_vr_mk (l := ep_l54) (by decide +kernel) ep_k54
def ep_l55 : List (Instr × Nat × Nat) := [(.invokespecial 3, 999, 0), (.newarray .int, 0, 0), (.putfield 9, 3, 5), (.putfield 15, 3, 6), (.putfield 18, 3, 7), (.putfield 21, 3, 8), (.putfield 24, 3, 9), (.putfield 27, 3, 10), (.putfield 30, 3, 11), (.invokevirtual 33, 57, 1)]
set_option maxRecDepth 100000 in
theorem ep_k55 : ∀ q ∈ ep_l55, ∀ pc, ev_kb MM "LeftAnswers$Life" pc q.1 q.2.1 q.2.2 = true := by
  unfold ep_l55
  exact List.forall_mem_cons.mpr ⟨lk179, List.forall_mem_cons.mpr ⟨lk180, List.forall_mem_cons.mpr ⟨lk181, List.forall_mem_cons.mpr ⟨lk182, List.forall_mem_cons.mpr ⟨lk183, List.forall_mem_cons.mpr ⟨lk184, List.forall_mem_cons.mpr ⟨lk185, List.forall_mem_cons.mpr ⟨lk186, List.forall_mem_cons.mpr ⟨lk187, List.forall_mem_cons.mpr ⟨lk188, fun _ h => absurd h List.not_mem_nil⟩⟩⟩⟩⟩⟩⟩⟩⟩⟩
set_option maxRecDepth 100000 in
theorem ep_c55 : ev_vr MM ev_w55 = true := ev_vr_mk (l := ep_l55) (by decide +kernel) ep_k55
def ep_l56 : List (Instr × Nat × Nat) := [(.getfield 9, 3, 5)]
set_option maxRecDepth 100000 in
theorem ep_k56 : ∀ q ∈ ep_l56, ∀ pc, ev_kb MM "LeftAnswers$Life" pc q.1 q.2.1 q.2.2 = true := by
  unfold ep_l56
  exact List.forall_mem_cons.mpr ⟨lk189, fun _ h => absurd h List.not_mem_nil⟩
set_option maxRecDepth 100000 in
theorem ep_c56 : ev_vr MM ev_w56 = true := ev_vr_mk (l := ep_l56) (by decide +kernel) ep_k56
def ep_l57 : List (Instr × Nat × Nat) := [(.putfield 37, 3, 0), (.putfield 41, 3, 1), (.putfield 44, 3, 2), (.putfield 47, 3, 3), (.getfield 9, 3, 5), (.getfield 15, 3, 6), (.getfield 18, 3, 7), (.getfield 21, 3, 8), (.getfield 24, 3, 9), (.getfield 27, 3, 10), (.getfield 30, 3, 11)]
set_option maxRecDepth 100000 in
theorem ep_k57 : ∀ q ∈ ep_l57, ∀ pc, ev_kb MM "LeftAnswers$Life" pc q.1 q.2.1 q.2.2 = true := by
  unfold ep_l57
  exact List.forall_mem_cons.mpr ⟨lk190, List.forall_mem_cons.mpr ⟨lk191, List.forall_mem_cons.mpr ⟨lk192, List.forall_mem_cons.mpr ⟨lk193, List.forall_mem_cons.mpr ⟨lk189, List.forall_mem_cons.mpr ⟨lk194, List.forall_mem_cons.mpr ⟨lk195, List.forall_mem_cons.mpr ⟨lk196, List.forall_mem_cons.mpr ⟨lk197, List.forall_mem_cons.mpr ⟨lk198, List.forall_mem_cons.mpr ⟨lk199, fun _ h => absurd h List.not_mem_nil⟩⟩⟩⟩⟩⟩⟩⟩⟩⟩⟩
set_option maxRecDepth 100000 in
theorem ep_c57 : ev_vr MM ev_w57 = true := ev_vr_mk (l := ep_l57) (by decide +kernel) ep_k57
def ep_l58 : List (Instr × Nat × Nat) := [(.getfield 37, 3, 0), (.putfield 37, 3, 0), (.getfield 41, 3, 1), (.putfield 41, 3, 1), (.getfield 44, 3, 2), (.putfield 44, 3, 2), (.getfield 47, 3, 3), (.putfield 47, 3, 3), (.getfield 9, 3, 5), (.invokestatic 50, 904, 5), (.getfield 15, 3, 6), (.getfield 18, 3, 7), (.getfield 21, 3, 8), (.getfield 24, 3, 9), (.getfield 27, 3, 10), (.getfield 30, 3, 11)]
set_option maxRecDepth 100000 in
theorem ep_k58 : ∀ q ∈ ep_l58, ∀ pc, ev_kb MM "LeftAnswers$Life" pc q.1 q.2.1 q.2.2 = true := by
  unfold ep_l58
  exact List.forall_mem_cons.mpr ⟨lk200, List.forall_mem_cons.mpr ⟨lk190, List.forall_mem_cons.mpr ⟨lk201, List.forall_mem_cons.mpr ⟨lk191, List.forall_mem_cons.mpr ⟨lk202, List.forall_mem_cons.mpr ⟨lk192, List.forall_mem_cons.mpr ⟨lk203, List.forall_mem_cons.mpr ⟨lk193, List.forall_mem_cons.mpr ⟨lk189, List.forall_mem_cons.mpr ⟨lk204, List.forall_mem_cons.mpr ⟨lk194, List.forall_mem_cons.mpr ⟨lk195, List.forall_mem_cons.mpr ⟨lk196, List.forall_mem_cons.mpr ⟨lk197, List.forall_mem_cons.mpr ⟨lk198, List.forall_mem_cons.mpr ⟨lk199, fun _ h => absurd h List.not_mem_nil⟩⟩⟩⟩⟩⟩⟩⟩⟩⟩⟩⟩⟩⟩⟩⟩
set_option maxRecDepth 100000 in
theorem ep_c58 : ev_vr MM ev_w58 = true := ev_vr_mk (l := ep_l58) (by decide +kernel) ep_k58
def ep_l59 : List (Instr × Nat × Nat) := [(.getfield 37, 3, 0)]
set_option maxRecDepth 100000 in
theorem ep_k59 : ∀ q ∈ ep_l59, ∀ pc, ev_kb MM "LeftAnswers$Life" pc q.1 q.2.1 q.2.2 = true := by
  unfold ep_l59
  exact List.forall_mem_cons.mpr ⟨lk200, fun _ h => absurd h List.not_mem_nil⟩
set_option maxRecDepth 100000 in
theorem ep_c59 : ev_vr MM ev_w59 = true := ev_vr_mk (l := ep_l59) (by decide +kernel) ep_k59
def ep_l60 : List (Instr × Nat × Nat) := [(.getfield 18, 3, 7)]
set_option maxRecDepth 100000 in
theorem ep_k60 : ∀ q ∈ ep_l60, ∀ pc, ev_kb MM "LeftAnswers$Life" pc q.1 q.2.1 q.2.2 = true := by
  unfold ep_l60
  exact List.forall_mem_cons.mpr ⟨lk195, fun _ h => absurd h List.not_mem_nil⟩
set_option maxRecDepth 100000 in
theorem ep_c60 : ev_vr MM ev_w60 = true := ev_vr_mk (l := ep_l60) (by decide +kernel) ep_k60
def ep_l61 : List (Instr × Nat × Nat) := [(.getfield 24, 3, 9)]
set_option maxRecDepth 100000 in
theorem ep_k61 : ∀ q ∈ ep_l61, ∀ pc, ev_kb MM "LeftAnswers$Life" pc q.1 q.2.1 q.2.2 = true := by
  unfold ep_l61
  exact List.forall_mem_cons.mpr ⟨lk197, fun _ h => absurd h List.not_mem_nil⟩
set_option maxRecDepth 100000 in
theorem ep_c61 : ev_vr MM ev_w61 = true := ev_vr_mk (l := ep_l61) (by decide +kernel) ep_k61
def ep_l62 : List (Instr × Nat × Nat) := [(.invokevirtual 65, 60, 1)]
set_option maxRecDepth 100000 in
theorem ep_k62 : ∀ q ∈ ep_l62, ∀ pc, ev_kb MM "LeftAnswers$Life" pc q.1 q.2.1 q.2.2 = true := by
  unfold ep_l62
  exact List.forall_mem_cons.mpr ⟨lk205, fun _ h => absurd h List.not_mem_nil⟩
set_option maxRecDepth 100000 in
theorem ep_c62 : ev_vr MM ev_w62 = true := ev_vr_mk (l := ep_l62) (by decide +kernel) ep_k62
def ep_l63 : List (Instr × Nat × Nat) := [(.getfield 72, 1, 0), (.getfield 37, 3, 0), (.putfield 37, 3, 0)]
set_option maxRecDepth 100000 in
theorem ep_k63 : ∀ q ∈ ep_l63, ∀ pc, ev_kb MM "LeftAnswers$Life" pc q.1 q.2.1 q.2.2 = true := by
  unfold ep_l63
  exact List.forall_mem_cons.mpr ⟨lk206, List.forall_mem_cons.mpr ⟨lk200, List.forall_mem_cons.mpr ⟨lk190, fun _ h => absurd h List.not_mem_nil⟩⟩⟩
set_option maxRecDepth 100000 in
theorem ep_c63 : ev_vr MM ev_w63 = true := ev_vr_mk (l := ep_l63) (by decide +kernel) ep_k63
def ep_l64 : List (Instr × Nat × Nat) := [(.getfield 37, 3, 0), (.invokevirtual 140, 63, 1)]
set_option maxRecDepth 100000 in
theorem ep_k64 : ∀ q ∈ ep_l64, ∀ pc, ev_kb MM "LeftAnswers$Life" pc q.1 q.2.1 q.2.2 = true := by
  unfold ep_l64
  exact List.forall_mem_cons.mpr ⟨lk200, List.forall_mem_cons.mpr ⟨lk207, fun _ h => absurd h List.not_mem_nil⟩⟩
set_option maxRecDepth 100000 in
theorem ep_c64 : ev_vr MM ev_w64 = true := ev_vr_mk (l := ep_l64) (by decide +kernel) ep_k64
def ep_l65 : List (Instr × Nat × Nat) := [(.invokevirtual 61, 62, 0), (.getfield 72, 1, 0)]
set_option maxRecDepth 100000 in
theorem ep_k65 : ∀ q ∈ ep_l65, ∀ pc, ev_kb MM "LeftAnswers$Life" pc q.1 q.2.1 q.2.2 = true := by
  unfold ep_l65
  exact List.forall_mem_cons.mpr ⟨lk208, List.forall_mem_cons.mpr ⟨lk206, fun _ h => absurd h List.not_mem_nil⟩⟩
set_option maxRecDepth 100000 in
theorem ep_c65 : ev_vr MM ev_w65 = true := ev_vr_mk (l := ep_l65) (by decide +kernel) ep_k65
def ep_l66 : List (Instr × Nat × Nat) := [(.invokevirtual 69, 61, 1)]
set_option maxRecDepth 100000 in
theorem ep_k66 : ∀ q ∈ ep_l66, ∀ pc, ev_kb MM "LeftAnswers$Life" pc q.1 q.2.1 q.2.2 = true := by
  unfold ep_l66
  exact List.forall_mem_cons.mpr ⟨lk209, fun _ h => absurd h List.not_mem_nil⟩
set_option maxRecDepth 100000 in
theorem ep_c66 : ev_vr MM ev_w66 = true := ev_vr_mk (l := ep_l66) (by decide +kernel) ep_k66
def ep_l67 : List (Instr × Nat × Nat) := [(.invokespecial 3, 999, 0), (.newarray .int, 0, 0), (.putfield 9, 4, 0), (.putfield 15, 4, 1), (.putfield 18, 4, 2), (.getfield 9, 4, 0)]
set_option maxRecDepth 100000 in
theorem ep_k67 : ∀ q ∈ ep_l67, ∀ pc, ev_kb MM "LeftAnswers$Pairs" pc q.1 q.2.1 q.2.2 = true := by
  unfold ep_l67
  exact List.forall_mem_cons.mpr ⟨lk210, List.forall_mem_cons.mpr ⟨lk211, List.forall_mem_cons.mpr ⟨lk212, List.forall_mem_cons.mpr ⟨lk213, List.forall_mem_cons.mpr ⟨lk214, List.forall_mem_cons.mpr ⟨lk215, fun _ h => absurd h List.not_mem_nil⟩⟩⟩⟩⟩⟩
set_option maxRecDepth 100000 in
theorem ep_c67 : ev_vr MM ev_w67 = true := ev_vr_mk (l := ep_l67) (by decide +kernel) ep_k67
def ep_l68 : List (Instr × Nat × Nat) := [(.getfield 27, 4, 3), (.getfield 28, 4, 4), (.putfield 28, 4, 4), (.getfield 15, 4, 1), (.getfield 9, 4, 0), (.invokestatic 51, 904, 5)]
set_option maxRecDepth 100000 in
theorem ep_k68 : ∀ q ∈ ep_l68, ∀ pc, ev_kb MM "LeftAnswers$Pairs" pc q.1 q.2.1 q.2.2 = true := by
  unfold ep_l68
  exact List.forall_mem_cons.mpr ⟨lk216, List.forall_mem_cons.mpr ⟨lk217, List.forall_mem_cons.mpr ⟨lk218, List.forall_mem_cons.mpr ⟨lk219, List.forall_mem_cons.mpr ⟨lk215, List.forall_mem_cons.mpr ⟨lk220, fun _ h => absurd h List.not_mem_nil⟩⟩⟩⟩⟩⟩
set_option maxRecDepth 100000 in
theorem ep_c68 : ev_vr MM ev_w68 = true := ev_vr_mk (l := ep_l68) (by decide +kernel) ep_k68
def ep_l69 : List (Instr × Nat × Nat) := [(.getfield 21, 1, 0), (.putfield 27, 4, 3), (.putfield 28, 4, 4), (.invokevirtual 31, 66, 0), (.getfield 37, 3, 3), (.invokevirtual 40, 62, 0), (.getfield 27, 4, 3), (.getfield 9, 4, 0), (.invokevirtual 47, 68, 2), (.getfield 28, 4, 4)]
set_option maxRecDepth 100000 in
theorem ep_k69 : ∀ q ∈ ep_l69, ∀ pc, ev_kb MM "LeftAnswers$Pairs" pc q.1 q.2.1 q.2.2 = true := by
  unfold ep_l69
  exact List.forall_mem_cons.mpr ⟨lk221, List.forall_mem_cons.mpr ⟨lk222, List.forall_mem_cons.mpr ⟨lk218, List.forall_mem_cons.mpr ⟨lk223, List.forall_mem_cons.mpr ⟨lk224, List.forall_mem_cons.mpr ⟨lk225, List.forall_mem_cons.mpr ⟨lk216, List.forall_mem_cons.mpr ⟨lk215, List.forall_mem_cons.mpr ⟨lk226, List.forall_mem_cons.mpr ⟨lk217, fun _ h => absurd h List.not_mem_nil⟩⟩⟩⟩⟩⟩⟩⟩⟩⟩
set_option maxRecDepth 100000 in
theorem ep_c69 : ev_vr MM ev_w69 = true := ev_vr_mk (l := ep_l69) (by decide +kernel) ep_k69
def ep_l70 : List (Instr × Nat × Nat) := [(.invokespecial 3, 999, 0), (.newarray .int, 0, 0), (.putfield 9, 5, 0), (.putfield 15, 5, 1), (.putfield 18, 5, 2), (.putfield 21, 5, 3)]
set_option maxRecDepth 100000 in
theorem ep_k70 : ∀ q ∈ ep_l70, ∀ pc, ev_kb MM "LeftAnswers$Parted" pc q.1 q.2.1 q.2.2 = true := by
  unfold ep_l70
  exact List.forall_mem_cons.mpr ⟨lk227, List.forall_mem_cons.mpr ⟨lk228, List.forall_mem_cons.mpr ⟨lk229, List.forall_mem_cons.mpr ⟨lk230, List.forall_mem_cons.mpr ⟨lk231, List.forall_mem_cons.mpr ⟨lk232, fun _ h => absurd h List.not_mem_nil⟩⟩⟩⟩⟩⟩
set_option maxRecDepth 100000 in
theorem ep_c70 : ev_vr MM ev_w70 = true := ev_vr_mk (l := ep_l70) (by decide +kernel) ep_k70
def ep_l71 : List (Instr × Nat × Nat) := [(.getfield 33, 5, 4)]
set_option maxRecDepth 100000 in
theorem ep_k71 : ∀ q ∈ ep_l71, ∀ pc, ev_kb MM "LeftAnswers$Parted" pc q.1 q.2.1 q.2.2 = true := by
  unfold ep_l71
  exact List.forall_mem_cons.mpr ⟨lk233, fun _ h => absurd h List.not_mem_nil⟩
set_option maxRecDepth 100000 in
theorem ep_c71 : ev_vr MM ev_w71 = true := ev_vr_mk (l := ep_l71) (by decide +kernel) ep_k71
def ep_l72 : List (Instr × Nat × Nat) := [(.invokespecial 3, 999, 0), (.anewarray 11, 5, 0), (.putfield 13, 6, 0), (.getfield 13, 6, 0), (.new 11, 3, 0), (.invokespecial 17, 55, 0)]
set_option maxRecDepth 100000 in
theorem ep_k72 : ∀ q ∈ ep_l72, ∀ pc, ev_kb MM "LeftAnswers$Past" pc q.1 q.2.1 q.2.2 = true := by
  unfold ep_l72
  exact List.forall_mem_cons.mpr ⟨lk234, List.forall_mem_cons.mpr ⟨lk235, List.forall_mem_cons.mpr ⟨lk236, List.forall_mem_cons.mpr ⟨lk237, List.forall_mem_cons.mpr ⟨lk238, List.forall_mem_cons.mpr ⟨lk239, fun _ h => absurd h List.not_mem_nil⟩⟩⟩⟩⟩⟩
set_option maxRecDepth 100000 in
theorem ep_c72 : ev_vr MM ev_w72 = true := ev_vr_mk (l := ep_l72) (by decide +kernel) ep_k72
def ep_l73 : List (Instr × Nat × Nat) := [(.putfield 18, 6, 2)]
set_option maxRecDepth 100000 in
theorem ep_k73 : ∀ q ∈ ep_l73, ∀ pc, ev_kb MM "LeftAnswers$Past" pc q.1 q.2.1 q.2.2 = true := by
  unfold ep_l73
  exact List.forall_mem_cons.mpr ⟨lk240, fun _ h => absurd h List.not_mem_nil⟩
set_option maxRecDepth 100000 in
theorem ep_c73 : ev_vr MM ev_w73 = true := ev_vr_mk (l := ep_l73) (by decide +kernel) ep_k73
def ep_l74 : List (Instr × Nat × Nat) := [(.getfield 18, 6, 2), (.getfield 13, 6, 0), (.getfield 22, 6, 1), (.invokevirtual 25, 58, 1), (.putfield 18, 6, 2)]
set_option maxRecDepth 100000 in
theorem ep_k74 : ∀ q ∈ ep_l74, ∀ pc, ev_kb MM "LeftAnswers$Past" pc q.1 q.2.1 q.2.2 = true := by
  unfold ep_l74
  exact List.forall_mem_cons.mpr ⟨lk241, List.forall_mem_cons.mpr ⟨lk237, List.forall_mem_cons.mpr ⟨lk242, List.forall_mem_cons.mpr ⟨lk243, List.forall_mem_cons.mpr ⟨lk240, fun _ h => absurd h List.not_mem_nil⟩⟩⟩⟩⟩
set_option maxRecDepth 100000 in
theorem ep_c74 : ev_vr MM ev_w74 = true := ev_vr_mk (l := ep_l74) (by decide +kernel) ep_k74
def ep_l75 : List (Instr × Nat × Nat) := [(.getfield 18, 6, 2)]
set_option maxRecDepth 100000 in
theorem ep_k75 : ∀ q ∈ ep_l75, ∀ pc, ev_kb MM "LeftAnswers$Past" pc q.1 q.2.1 q.2.2 = true := by
  unfold ep_l75
  exact List.forall_mem_cons.mpr ⟨lk241, fun _ h => absurd h List.not_mem_nil⟩
set_option maxRecDepth 100000 in
theorem ep_c75 : ev_vr MM ev_w75 = true := ev_vr_mk (l := ep_l75) (by decide +kernel) ep_k75
def ep_l76 : List (Instr × Nat × Nat) := [(.invokespecial 5, 999, 0), (.anewarray 11, 4, 0), (.putfield 13, 7, 2), (.getfield 13, 7, 2), (.getstatic 17, 0, 0), (.newarray .int, 0, 0), (.putfield 21, 7, 3), (.putfield 25, 7, 4), (.putfield 28, 7, 5)]
set_option maxRecDepth 100000 in
theorem ep_k76 : ∀ q ∈ ep_l76, ∀ pc, ev_kb MM "LeftAnswers$Sentence" pc q.1 q.2.1 q.2.2 = true := by
  unfold ep_l76
  exact List.forall_mem_cons.mpr ⟨lk244, List.forall_mem_cons.mpr ⟨lk245, List.forall_mem_cons.mpr ⟨lk246, List.forall_mem_cons.mpr ⟨lk247, List.forall_mem_cons.mpr ⟨lk248, List.forall_mem_cons.mpr ⟨lk249, List.forall_mem_cons.mpr ⟨lk250, List.forall_mem_cons.mpr ⟨lk251, List.forall_mem_cons.mpr ⟨lk252, fun _ h => absurd h List.not_mem_nil⟩⟩⟩⟩⟩⟩⟩⟩⟩
set_option maxRecDepth 100000 in
theorem ep_c76 : ev_vr MM ev_w76 = true := ev_vr_mk (l := ep_l76) (by decide +kernel) ep_k76
def ep_l77 : List (Instr × Nat × Nat) := [(.getstatic 91, 100, 0), (.invokevirtual 96, 900, 0)]
set_option maxRecDepth 100000 in
theorem ep_k77 : ∀ q ∈ ep_l77, ∀ pc, ev_kb MM "LeftAnswers$Sentence" pc q.1 q.2.1 q.2.2 = true := by
  unfold ep_l77
  exact List.forall_mem_cons.mpr ⟨lk253, List.forall_mem_cons.mpr ⟨lk254, fun _ h => absurd h List.not_mem_nil⟩⟩
set_option maxRecDepth 100000 in
theorem ep_c77 : ev_vr MM ev_w77 = true := ev_vr_mk (l := ep_l77) (by decide +kernel) ep_k77
def ep_l78 : List (Instr × Nat × Nat) := [(.putfield 31, 7, 0), (.putfield 35, 7, 1)]
set_option maxRecDepth 100000 in
theorem ep_k78 : ∀ q ∈ ep_l78, ∀ pc, ev_kb MM "LeftAnswers$Sentence" pc q.1 q.2.1 q.2.2 = true := by
  unfold ep_l78
  exact List.forall_mem_cons.mpr ⟨lk255, List.forall_mem_cons.mpr ⟨lk256, fun _ h => absurd h List.not_mem_nil⟩⟩
set_option maxRecDepth 100000 in
theorem ep_c78 : ev_vr MM ev_w78 = true := ev_vr_mk (l := ep_l78) (by decide +kernel) ep_k78
def ep_l79 : List (Instr × Nat × Nat) := [(.getfield 31, 7, 0), (.putfield 31, 7, 0), (.getfield 35, 7, 1), (.putfield 35, 7, 1), (.getfield 13, 7, 2), (.getfield 21, 7, 3), (.getfield 25, 7, 4)]
set_option maxRecDepth 100000 in
theorem ep_k79 : ∀ q ∈ ep_l79, ∀ pc, ev_kb MM "LeftAnswers$Sentence" pc q.1 q.2.1 q.2.2 = true := by
  unfold ep_l79
  exact List.forall_mem_cons.mpr ⟨lk257, List.forall_mem_cons.mpr ⟨lk255, List.forall_mem_cons.mpr ⟨lk258, List.forall_mem_cons.mpr ⟨lk256, List.forall_mem_cons.mpr ⟨lk247, List.forall_mem_cons.mpr ⟨lk259, List.forall_mem_cons.mpr ⟨lk260, fun _ h => absurd h List.not_mem_nil⟩⟩⟩⟩⟩⟩⟩
set_option maxRecDepth 100000 in
theorem ep_c79 : ev_vr MM ev_w79 = true := ev_vr_mk (l := ep_l79) (by decide +kernel) ep_k79
