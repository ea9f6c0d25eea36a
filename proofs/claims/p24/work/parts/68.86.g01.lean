def ep_l40 : List (Instr × Nat × Nat) := [(.invokevirtual 130, 28, 1), (.getfield 77, 10, 11), (.getfield 19, 10, 1), (.getfield 29, 10, 3), (.invokevirtual 302, 153, 3), (.getfield 306, 8, 1)]
set_option maxRecDepth 100000 in
theorem ep_k40 : ∀ q ∈ ep_l40, ∀ pc, ev_kb MM "LeftAnswers" pc q.1 q.2.1 q.2.2 = true := by
  unfold ep_l40
  exact List.forall_mem_cons.mpr ⟨lk39, List.forall_mem_cons.mpr ⟨lk62, List.forall_mem_cons.mpr ⟨lk42, List.forall_mem_cons.mpr ⟨lk41, List.forall_mem_cons.mpr ⟨lk134, List.forall_mem_cons.mpr ⟨lk63, fun _ h => absurd h List.not_mem_nil⟩⟩⟩⟩⟩⟩
set_option maxRecDepth 100000 in
theorem ep_c40 : ev_vr MM ev_w40 = true := ev_vr_mk (l := ep_l40) (by decide +kernel) ep_k40
def ep_l41 : List (Instr × Nat × Nat) := [(.getfield 10, 10, 0), (.getfield 378, 9, 10), (.putfield 88, 10, 13), (.putfield 101, 9, 1)]
set_option maxRecDepth 100000 in
theorem ep_k41 : ∀ q ∈ ep_l41, ∀ pc, ev_kb MM "LeftAnswers" pc q.1 q.2.1 q.2.2 = true := by
  unfold ep_l41
  exact List.forall_mem_cons.mpr ⟨lk53, List.forall_mem_cons.mpr ⟨lk135, List.forall_mem_cons.mpr ⟨lk35, List.forall_mem_cons.mpr ⟨lk89, fun _ h => absurd h List.not_mem_nil⟩⟩⟩⟩
set_option maxRecDepth 100000 in
theorem ep_c41 : ev_vr MM ev_w41 = true := ev_vr_mk (l := ep_l41) (by decide +kernel) ep_k41
def ep_l42 : List (Instr × Nat × Nat) := [(.getfield 10, 10, 0), (.getfield 101, 9, 1), (.invokevirtual 249, 166, 1), (.invokevirtual 174, 26, 1)]
set_option maxRecDepth 100000 in
theorem ep_k42 : ∀ q ∈ ep_l42, ∀ pc, ev_kb MM "LeftAnswers" pc q.1 q.2.1 q.2.2 = true := by
  unfold ep_l42
  exact List.forall_mem_cons.mpr ⟨lk53, List.forall_mem_cons.mpr ⟨lk70, List.forall_mem_cons.mpr ⟨lk96, List.forall_mem_cons.mpr ⟨lk40, fun _ h => absurd h List.not_mem_nil⟩⟩⟩⟩
set_option maxRecDepth 100000 in
theorem ep_c42 : ev_vr MM ev_w42 = true := ev_vr_mk (l := ep_l42) (by decide +kernel) ep_k42
def ep_l43 : List (Instr × Nat × Nat) := [(.getfield 10, 10, 0), (.getfield 101, 9, 1), (.invokevirtual 249, 166, 1)]
set_option maxRecDepth 100000 in
theorem ep_k43 : ∀ q ∈ ep_l43, ∀ pc, ev_kb MM "LeftAnswers" pc q.1 q.2.1 q.2.2 = true := by
  unfold ep_l43
  exact List.forall_mem_cons.mpr ⟨lk53, List.forall_mem_cons.mpr ⟨lk70, List.forall_mem_cons.mpr ⟨lk96, fun _ h => absurd h List.not_mem_nil⟩⟩⟩
set_option maxRecDepth 100000 in
theorem ep_c43 : ev_vr MM ev_w43 = true := ev_vr_mk (l := ep_l43) (by decide +kernel) ep_k43
def ep_l44 : List (Instr × Nat × Nat) := [(.getfield 95, 10, 15)]
set_option maxRecDepth 100000 in
theorem ep_k44 : ∀ q ∈ ep_l44, ∀ pc, ev_kb MM "LeftAnswers" pc q.1 q.2.1 q.2.2 = true := by
  unfold ep_l44
  exact List.forall_mem_cons.mpr ⟨lk136, fun _ h => absurd h List.not_mem_nil⟩
set_option maxRecDepth 100000 in
theorem ep_c44 : ev_vr MM ev_w44 = true := ev_vr_mk (l := ep_l44) (by decide +kernel) ep_k44
def ep_l45 : List (Instr × Nat × Nat) := [(.getfield 46, 10, 6), (.getfield 328, 0, 5), (.getfield 332, 0, 7), (.getfield 335, 0, 8), (.getfield 338, 0, 9), (.getfield 341, 0, 10)]
set_option maxRecDepth 100000 in
theorem ep_k45 : ∀ q ∈ ep_l45, ∀ pc, ev_kb MM "LeftAnswers" pc q.1 q.2.1 q.2.2 = true := by
  unfold ep_l45
  exact List.forall_mem_cons.mpr ⟨lk52, List.forall_mem_cons.mpr ⟨lk137, List.forall_mem_cons.mpr ⟨lk138, List.forall_mem_cons.mpr ⟨lk139, List.forall_mem_cons.mpr ⟨lk140, List.forall_mem_cons.mpr ⟨lk141, fun _ h => absurd h List.not_mem_nil⟩⟩⟩⟩⟩⟩
set_option maxRecDepth 100000 in
theorem ep_c45 : ev_vr MM ev_w45 = true := ev_vr_mk (l := ep_l45) (by decide +kernel) ep_k45
def ep_l46 : List (Instr × Nat × Nat) := [(.getfield 39, 10, 5), (.getfield 29, 10, 3), (.invokevirtual 234, 131, 1)]
set_option maxRecDepth 100000 in
theorem ep_k46 : ∀ q ∈ ep_l46, ∀ pc, ev_kb MM "LeftAnswers" pc q.1 q.2.1 q.2.2 = true := by
  unfold ep_l46
  exact List.forall_mem_cons.mpr ⟨lk45, List.forall_mem_cons.mpr ⟨lk41, List.forall_mem_cons.mpr ⟨lk142, fun _ h => absurd h List.not_mem_nil⟩⟩⟩
set_option maxRecDepth 100000 in
theorem ep_c46 : ev_vr MM ev_w46 = true := ev_vr_mk (l := ep_l46) (by decide +kernel) ep_k46
def ep_l47 : List (Instr × Nat × Nat) := [(.invokevirtual 130, 28, 1), (.invokevirtual 214, 2, 4)]
set_option maxRecDepth 100000 in
theorem ep_k47 : ∀ q ∈ ep_l47, ∀ pc, ev_kb MM "LeftAnswers" pc q.1 q.2.1 q.2.2 = true := by
  unfold ep_l47
  exact List.forall_mem_cons.mpr ⟨lk39, List.forall_mem_cons.mpr ⟨lk48, fun _ h => absurd h List.not_mem_nil⟩⟩
set_option maxRecDepth 100000 in
theorem ep_c47 : ev_vr MM ev_w47 = true := ev_vr_mk (l := ep_l47) (by decide +kernel) ep_k47
def ep_l48 : List (Instr × Nat × Nat) := [(.invokespecial 3, 999, 0), (.newarray .int, 0, 0), (.putfield 11, 0, 0), (.putfield 15, 0, 1), (.putfield 18, 0, 2), (.putfield 21, 0, 3)]
set_option maxRecDepth 100000 in
theorem ep_k48 : ∀ q ∈ ep_l48, ∀ pc, ev_kb MM "LeftAnswers$Book" pc q.1 q.2.1 q.2.2 = true := by
  unfold ep_l48
  exact List.forall_mem_cons.mpr ⟨lk143, List.forall_mem_cons.mpr ⟨lk144, List.forall_mem_cons.mpr ⟨lk145, List.forall_mem_cons.mpr ⟨lk146, List.forall_mem_cons.mpr ⟨lk147, List.forall_mem_cons.mpr ⟨lk148, fun _ h => absurd h List.not_mem_nil⟩⟩⟩⟩⟩⟩
set_option maxRecDepth 100000 in
theorem ep_c48 : ev_vr MM ev_w48 = true := ev_vr_mk (l := ep_l48) (by decide +kernel) ep_k48
def ep_l49 : List (Instr × Nat × Nat) := [(.getfield 24, 0, 4), (.getfield 11, 0, 0), (.getfield 15, 0, 1), (.getfield 18, 0, 2), (.getfield 21, 0, 3), (.putfield 24, 0, 4)]
set_option maxRecDepth 100000 in
theorem ep_k49 : ∀ q ∈ ep_l49, ∀ pc, ev_kb MM "LeftAnswers$Book" pc q.1 q.2.1 q.2.2 = true := by
  unfold ep_l49
  exact List.forall_mem_cons.mpr ⟨lk149, List.forall_mem_cons.mpr ⟨lk150, List.forall_mem_cons.mpr ⟨lk151, List.forall_mem_cons.mpr ⟨lk152, List.forall_mem_cons.mpr ⟨lk153, List.forall_mem_cons.mpr ⟨lk154, fun _ h => absurd h List.not_mem_nil⟩⟩⟩⟩⟩⟩
set_option maxRecDepth 100000 in
theorem ep_c49 : ev_vr MM ev_w49 = true := ev_vr_mk (l := ep_l49) (by decide +kernel) ep_k49
def ep_l50 : List (Instr × Nat × Nat) := [(.putfield 101, 0, 7), (.putfield 104, 0, 6), (.putfield 107, 0, 8), (.getfield 24, 0, 4), (.getfield 101, 0, 7), (.getfield 11, 0, 0), (.getfield 15, 0, 1), (.getfield 18, 0, 2), (.getfield 21, 0, 3), (.invokevirtual 110, 116, 5), (.invokevirtual 116, 112, 5), (.getfield 107, 0, 8), (.getfield 120, 3, 0), (.putfield 123, 0, 9), (.invokevirtual 126, 106, 0), (.putfield 129, 0, 10), (.putfield 132, 0, 5)]
set_option maxRecDepth 100000 in
theorem ep_k50 : ∀ q ∈ ep_l50, ∀ pc, ev_kb MM "LeftAnswers$Book" pc q.1 q.2.1 q.2.2 = true := by
  unfold ep_l50
  exact List.forall_mem_cons.mpr ⟨lk155, List.forall_mem_cons.mpr ⟨lk156, List.forall_mem_cons.mpr ⟨lk157, List.forall_mem_cons.mpr ⟨lk149, List.forall_mem_cons.mpr ⟨lk158, List.forall_mem_cons.mpr ⟨lk150, List.forall_mem_cons.mpr ⟨lk151, List.forall_mem_cons.mpr ⟨lk152, List.forall_mem_cons.mpr ⟨lk153, List.forall_mem_cons.mpr ⟨lk159, List.forall_mem_cons.mpr ⟨lk160, List.forall_mem_cons.mpr ⟨lk161, List.forall_mem_cons.mpr ⟨lk162, List.forall_mem_cons.mpr ⟨lk163, List.forall_mem_cons.mpr ⟨lk164, List.forall_mem_cons.mpr ⟨lk165, List.forall_mem_cons.mpr ⟨lk166, fun _ h => absurd h List.not_mem_nil⟩⟩⟩⟩⟩⟩⟩⟩⟩⟩⟩⟩⟩⟩⟩⟩⟩
set_option maxRecDepth 100000 in
theorem ep_c50 : ev_vr MM ev_w50 = true := ev_vr_mk (l := ep_l50) (by decide +kernel) ep_k50
def ep_l51 : List (Instr × Nat × Nat) := [(.invokevirtual 76, 73, 1), (.getfield 24, 0, 4), (.invokevirtual 58, 165, 1), (.invokevirtual 62, 155, 0), (.getfield 37, 9, 6), (.getstatic 82, 100, 0), (.invokevirtual 87, 900, 0), (.invokevirtual 91, 53, 3), (.invokevirtual 95, 55, 3), (.invokevirtual 72, 49, 4)]
set_option maxRecDepth 100000 in
theorem ep_k51 : ∀ q ∈ ep_l51, ∀ pc, ev_kb MM "LeftAnswers$Book" pc q.1 q.2.1 q.2.2 = true := by
  unfold ep_l51
  exact List.forall_mem_cons.mpr ⟨lk167, List.forall_mem_cons.mpr ⟨lk149, List.forall_mem_cons.mpr ⟨lk168, List.forall_mem_cons.mpr ⟨lk169, List.forall_mem_cons.mpr ⟨lk170, List.forall_mem_cons.mpr ⟨lk171, List.forall_mem_cons.mpr ⟨lk172, List.forall_mem_cons.mpr ⟨lk173, List.forall_mem_cons.mpr ⟨lk174, List.forall_mem_cons.mpr ⟨lk175, fun _ h => absurd h List.not_mem_nil⟩⟩⟩⟩⟩⟩⟩⟩⟩⟩
set_option maxRecDepth 100000 in
theorem ep_c51 : ev_vr MM ev_w51 = true := ev_vr_mk (l := ep_l51) (by decide +kernel) ep_k51
def ep_l52 : List (Instr × Nat × Nat) := [(.getfield 24, 0, 4), (.invokevirtual 58, 165, 1), (.invokevirtual 62, 155, 0), (.invokevirtual 65, 168, 2), (.getfield 69, 9, 9), (.invokevirtual 72, 49, 4)]
set_option maxRecDepth 100000 in
theorem ep_k52 : ∀ q ∈ ep_l52, ∀ pc, ev_kb MM "LeftAnswers$Book" pc q.1 q.2.1 q.2.2 = true := by
  unfold ep_l52
  exact List.forall_mem_cons.mpr ⟨lk149, List.forall_mem_cons.mpr ⟨lk168, List.forall_mem_cons.mpr ⟨lk169, List.forall_mem_cons.mpr ⟨lk176, List.forall_mem_cons.mpr ⟨lk177, List.forall_mem_cons.mpr ⟨lk175, fun _ h => absurd h List.not_mem_nil⟩⟩⟩⟩⟩⟩
set_option maxRecDepth 100000 in
theorem ep_c52 : ev_vr MM ev_w52 = true := ev_vr_mk (l := ep_l52) (by decide +kernel) ep_k52
def ep_l53 : List (Instr × Nat × Nat) := [(.invokevirtual 62, 155, 0), (.invokevirtual 98, 63, 1), (.getstatic 82, 100, 0), (.getfield 37, 9, 6), (.invokevirtual 87, 900, 0), (.invokevirtual 72, 49, 4), (.invokevirtual 58, 165, 1)]
set_option maxRecDepth 100000 in
theorem ep_k53 : ∀ q ∈ ep_l53, ∀ pc, ev_kb MM "LeftAnswers$Book" pc q.1 q.2.1 q.2.2 = true := by
  unfold ep_l53
  exact List.forall_mem_cons.mpr ⟨lk169, List.forall_mem_cons.mpr ⟨lk178, List.forall_mem_cons.mpr ⟨lk171, List.forall_mem_cons.mpr ⟨lk170, List.forall_mem_cons.mpr ⟨lk172, List.forall_mem_cons.mpr ⟨lk175, List.forall_mem_cons.mpr ⟨lk168, fun _ h => absurd h List.not_mem_nil⟩⟩⟩⟩⟩⟩⟩
set_option maxRecDepth 100000 in
theorem ep_c53 : ev_vr MM ev_w53 = true := ev_vr_mk (l := ep_l53) (by decide +kernel) ep_k53
def ep_l54 : List (Instr × Nat × Nat) := [(.putfield 24, 0, 4), (.invokevirtual 28, 161, 1), (.getfield 34, 9, 4), (.getfield 37, 9, 6), (.getstatic 41, 16, 0), (.invokevirtual 46, 52, 1), (.invokevirtual 50, 51, 2), (.invokevirtual 54, 167, 1)]
set_option maxRecDepth 100000 in
theorem ep_k54 : ∀ q ∈ ep_l54, ∀ pc, ev_kb MM "LeftAnswers$Book" pc q.1 q.2.1 q.2.2 = true := by
  unfold ep_l54
  exact List.forall_mem_cons.mpr ⟨lk154, List.forall_mem_cons.mpr ⟨lk179, List.forall_mem_cons.mpr ⟨lk180, List.forall_mem_cons.mpr ⟨lk170, List.forall_mem_cons.mpr ⟨lk181, List.forall_mem_cons.mpr ⟨lk182, List.forall_mem_cons.mpr ⟨lk183, List.forall_mem_cons.mpr ⟨lk184, fun _ h => absurd h List.not_mem_nil⟩⟩⟩⟩⟩⟩⟩⟩
set_option maxRecDepth 100000 in
theorem ep_c54 : ev_vr MM ev_w54 = true := ev_vr_mk (l := ep_l54) (by decide +kernel) ep_k54
def ep_l55 : List (Instr × Nat × Nat) := [(.invokevirtual 62, 155, 0), (.invokevirtual 76, 73, 1), (.invokevirtual 72, 49, 4)]
set_option maxRecDepth 100000 in
theorem ep_k55 : ∀ q ∈ ep_l55, ∀ pc, ev_kb MM "LeftAnswers$Book" pc q.1 q.2.1 q.2.2 = true := by
  unfold ep_l55
  exact List.forall_mem_cons.mpr ⟨lk169, List.forall_mem_cons.mpr ⟨lk167, List.forall_mem_cons.mpr ⟨lk175, fun _ h => absurd h List.not_mem_nil⟩⟩⟩
set_option maxRecDepth 100000 in
theorem ep_c55 : ev_vr MM ev_w55 = true := ev_vr_mk (l := ep_l55) (by decide +kernel) ep_k55
def ep_l56 : List (Instr × Nat × Nat) := [(.invokespecial 3, 999, 0), (.newarray .long, 0, 0), (.putfield 9, 1, 7), (.newarray .int, 0, 0), (.putfield 15, 1, 8), (.putfield 19, 1, 9), (.putfield 22, 1, 14), (.putfield 25, 1, 15), (.putfield 28, 1, 10), (.putfield 31, 1, 11), (.putfield 34, 1, 12), (.putfield 37, 1, 13), (.invokevirtual 40, 65, 0)]
set_option maxRecDepth 100000 in
theorem ep_k56 : ∀ q ∈ ep_l56, ∀ pc, ev_kb MM "LeftAnswers$Duchy" pc q.1 q.2.1 q.2.2 = true := by
  unfold ep_l56
  exact List.forall_mem_cons.mpr ⟨lk185, List.forall_mem_cons.mpr ⟨lk186, List.forall_mem_cons.mpr ⟨lk187, List.forall_mem_cons.mpr ⟨lk188, List.forall_mem_cons.mpr ⟨lk189, List.forall_mem_cons.mpr ⟨lk190, List.forall_mem_cons.mpr ⟨lk191, List.forall_mem_cons.mpr ⟨lk192, List.forall_mem_cons.mpr ⟨lk193, List.forall_mem_cons.mpr ⟨lk194, List.forall_mem_cons.mpr ⟨lk195, List.forall_mem_cons.mpr ⟨lk196, List.forall_mem_cons.mpr ⟨lk197, fun _ h => absurd h List.not_mem_nil⟩⟩⟩⟩⟩⟩⟩⟩⟩⟩⟩⟩⟩
set_option maxRecDepth 100000 in
theorem ep_c56 : ev_vr MM ev_w56 = true := ev_vr_mk (l := ep_l56) (by decide +kernel) ep_k56
def ep_l57 : List (Instr × Nat × Nat) := [(.getfield 43, 1, 0)]
set_option maxRecDepth 100000 in
theorem ep_k57 : ∀ q ∈ ep_l57, ∀ pc, ev_kb MM "LeftAnswers$Duchy" pc q.1 q.2.1 q.2.2 = true := by
  unfold ep_l57
  exact List.forall_mem_cons.mpr ⟨lk198, fun _ h => absurd h List.not_mem_nil⟩
set_option maxRecDepth 100000 in
theorem ep_c57 : ev_vr MM ev_w57 = true := ev_vr_mk (l := ep_l57) (by decide +kernel) ep_k57
def ep_l58 : List (Instr × Nat × Nat) := [(.getfield 43, 1, 0)]
set_option maxRecDepth 100000 in
theorem ep_k58 : ∀ q ∈ ep_l58, ∀ pc, ev_kb MM "LeftAnswers$Duchy" pc q.1 q.2.1 q.2.2 = true := by
  unfold ep_l58
  exact List.forall_mem_cons.mpr ⟨lk198, fun _ h => absurd h List.not_mem_nil⟩
set_option maxRecDepth 100000 in
theorem ep_c58 : ev_vr MM ev_w58 = true := ev_vr_mk (l := ep_l58) (by decide +kernel) ep_k58
def ep_l59 : List (Instr × Nat × Nat) := [(.invokestatic 183, 298, 1), (.getfield 47, 1, 1), (.invokevirtual 189, 60, 1), (.invokestatic 192, 299, 1)]
set_option maxRecDepth 100000 in
theorem ep_k59 : ∀ q ∈ ep_l59, ∀ pc, ev_kb MM "LeftAnswers$Duchy" pc q.1 q.2.1 q.2.2 = true := by
  unfold ep_l59
  exact List.forall_mem_cons.mpr ⟨lk199, List.forall_mem_cons.mpr ⟨lk200, List.forall_mem_cons.mpr ⟨lk201, List.forall_mem_cons.mpr ⟨lk202, fun _ h => absurd h List.not_mem_nil⟩⟩⟩⟩
set_option maxRecDepth 100000 in
theorem ep_c59 : ev_vr MM ev_w59 = true := ev_vr_mk (l := ep_l59) (by decide +kernel) ep_k59
def ep_l60 : List (Instr × Nat × Nat) := [(.getfield 43, 1, 0), (.invokevirtual 179, 69, 3)]
set_option maxRecDepth 100000 in
theorem ep_k60 : ∀ q ∈ ep_l60, ∀ pc, ev_kb MM "LeftAnswers$Duchy" pc q.1 q.2.1 q.2.2 = true := by
  unfold ep_l60
  exact List.forall_mem_cons.mpr ⟨lk198, List.forall_mem_cons.mpr ⟨lk203, fun _ h => absurd h List.not_mem_nil⟩⟩
set_option maxRecDepth 100000 in
theorem ep_c60 : ev_vr MM ev_w60 = true := ev_vr_mk (l := ep_l60) (by decide +kernel) ep_k60
def ep_l61 : List (Instr × Nat × Nat) := [(.putfield 43, 1, 0), (.putfield 47, 1, 1), (.putfield 50, 1, 2), (.putfield 53, 1, 3), (.putfield 56, 1, 4), (.putfield 59, 1, 5), (.putfield 62, 1, 6), (.getfield 22, 1, 14), (.getfield 25, 1, 15)]
set_option maxRecDepth 100000 in
theorem ep_k61 : ∀ q ∈ ep_l61, ∀ pc, ev_kb MM "LeftAnswers$Duchy" pc q.1 q.2.1 q.2.2 = true := by
  unfold ep_l61
  exact List.forall_mem_cons.mpr ⟨lk204, List.forall_mem_cons.mpr ⟨lk205, List.forall_mem_cons.mpr ⟨lk206, List.forall_mem_cons.mpr ⟨lk207, List.forall_mem_cons.mpr ⟨lk208, List.forall_mem_cons.mpr ⟨lk209, List.forall_mem_cons.mpr ⟨lk210, List.forall_mem_cons.mpr ⟨lk211, List.forall_mem_cons.mpr ⟨lk212, fun _ h => absurd h List.not_mem_nil⟩⟩⟩⟩⟩⟩⟩⟩⟩
set_option maxRecDepth 100000 in
theorem ep_c61 : ev_vr MM ev_w61 = true := ev_vr_mk (l := ep_l61) (by decide +kernel) ep_k61
def ep_l62 : List (Instr × Nat × Nat) := [(.getfield 43, 1, 0), (.putfield 43, 1, 0), (.getfield 47, 1, 1), (.putfield 47, 1, 1), (.getfield 50, 1, 2), (.putfield 50, 1, 2), (.getfield 53, 1, 3), (.putfield 53, 1, 3), (.getfield 56, 1, 4), (.putfield 56, 1, 4), (.getfield 59, 1, 5), (.putfield 59, 1, 5), (.getfield 62, 1, 6), (.putfield 62, 1, 6), (.getfield 9, 1, 7), (.invokestatic 65, 904, 5), (.getfield 15, 1, 8), (.getfield 19, 1, 9), (.getfield 22, 1, 14), (.getfield 25, 1, 15), (.getfield 28, 1, 10), (.getfield 31, 1, 11), (.getfield 34, 1, 12), (.getfield 37, 1, 13)]
set_option maxRecDepth 100000 in
theorem ep_k62 : ∀ q ∈ ep_l62, ∀ pc, ev_kb MM "LeftAnswers$Duchy" pc q.1 q.2.1 q.2.2 = true := by
  unfold ep_l62
  exact List.forall_mem_cons.mpr ⟨lk198, List.forall_mem_cons.mpr ⟨lk204, List.forall_mem_cons.mpr ⟨lk200, List.forall_mem_cons.mpr ⟨lk205, List.forall_mem_cons.mpr ⟨lk213, List.forall_mem_cons.mpr ⟨lk206, List.forall_mem_cons.mpr ⟨lk214, List.forall_mem_cons.mpr ⟨lk207, List.forall_mem_cons.mpr ⟨lk215, List.forall_mem_cons.mpr ⟨lk208, List.forall_mem_cons.mpr ⟨lk216, List.forall_mem_cons.mpr ⟨lk209, List.forall_mem_cons.mpr ⟨lk217, List.forall_mem_cons.mpr ⟨lk210, List.forall_mem_cons.mpr ⟨lk218, List.forall_mem_cons.mpr ⟨lk219, List.forall_mem_cons.mpr ⟨lk220, List.forall_mem_cons.mpr ⟨lk221, List.forall_mem_cons.mpr ⟨lk211, List.forall_mem_cons.mpr ⟨lk212, List.forall_mem_cons.mpr ⟨lk222, List.forall_mem_cons.mpr ⟨lk223, List.forall_mem_cons.mpr ⟨lk224, List.forall_mem_cons.mpr ⟨lk225, fun _ h => absurd h List.not_mem_nil⟩⟩⟩⟩⟩⟩⟩⟩⟩⟩⟩⟩⟩⟩⟩⟩⟩⟩⟩⟩⟩⟩⟩⟩
set_option maxRecDepth 100000 in
theorem ep_c62 : ev_vr MM ev_w62 = true := ev_vr_mk (l := ep_l62) (by decide +kernel) ep_k62
def ep_l63 : List (Instr × Nat × Nat) := [(.getfield 28, 1, 10), (.getfield 47, 1, 1), (.invokestatic 165, 71, 3)]
set_option maxRecDepth 100000 in
theorem ep_k63 : ∀ q ∈ ep_l63, ∀ pc, ev_kb MM "LeftAnswers$Duchy" pc q.1 q.2.1 q.2.2 = true := by
  unfold ep_l63
  exact List.forall_mem_cons.mpr ⟨lk222, List.forall_mem_cons.mpr ⟨lk200, List.forall_mem_cons.mpr ⟨lk226, fun _ h => absurd h List.not_mem_nil⟩⟩⟩
set_option maxRecDepth 100000 in
theorem ep_c63 : ev_vr MM ev_w63 = true := ev_vr_mk (l := ep_l63) (by decide +kernel) ep_k63
def ep_l64 : List (Instr × Nat × Nat) := [(.invokevirtual 200, 58, 0), (.invokestatic 183, 298, 1), (.invokevirtual 197, 82, 1)]
set_option maxRecDepth 100000 in
theorem ep_k64 : ∀ q ∈ ep_l64, ∀ pc, ev_kb MM "LeftAnswers$Duchy" pc q.1 q.2.1 q.2.2 = true := by
  unfold ep_l64
  exact List.forall_mem_cons.mpr ⟨lk227, List.forall_mem_cons.mpr ⟨lk199, List.forall_mem_cons.mpr ⟨lk228, fun _ h => absurd h List.not_mem_nil⟩⟩⟩
set_option maxRecDepth 100000 in
theorem ep_c64 : ev_vr MM ev_w64 = true := ev_vr_mk (l := ep_l64) (by decide +kernel) ep_k64
def ep_l65 : List (Instr × Nat × Nat) := [(.getfield 50, 1, 2), (.putfield 50, 1, 2), (.getfield 53, 1, 3), (.putfield 53, 1, 3), (.getfield 56, 1, 4), (.putfield 56, 1, 4)]
set_option maxRecDepth 100000 in
theorem ep_k65 : ∀ q ∈ ep_l65, ∀ pc, ev_kb MM "LeftAnswers$Duchy" pc q.1 q.2.1 q.2.2 = true := by
  unfold ep_l65
  exact List.forall_mem_cons.mpr ⟨lk213, List.forall_mem_cons.mpr ⟨lk206, List.forall_mem_cons.mpr ⟨lk214, List.forall_mem_cons.mpr ⟨lk207, List.forall_mem_cons.mpr ⟨lk215, List.forall_mem_cons.mpr ⟨lk208, fun _ h => absurd h List.not_mem_nil⟩⟩⟩⟩⟩⟩
set_option maxRecDepth 100000 in
theorem ep_c65 : ev_vr MM ev_w65 = true := ev_vr_mk (l := ep_l65) (by decide +kernel) ep_k65
def ep_l66 : List (Instr × Nat × Nat) := []
set_option maxRecDepth 100000 in
theorem ep_k66 : ∀ q ∈ ep_l66, ∀ pc, ev_kb MM "LeftAnswers$Duchy" pc q.1 q.2.1 q.2.2 = true := by
  unfold ep_l66
  exact fun _ h => absurd h List.not_mem_nil
set_option maxRecDepth 100000 in
theorem ep_c66 : ev_vr MM ev_w66 = true := ev_vr_mk (l := ep_l66) (by decide +kernel) ep_k66
def ep_l67 : List (Instr × Nat × Nat) := [(.getfield 25, 1, 15)]
set_option maxRecDepth 100000 in
theorem ep_k67 : ∀ q ∈ ep_l67, ∀ pc, ev_kb MM "LeftAnswers$Duchy" pc q.1 q.2.1 q.2.2 = true := by
  unfold ep_l67
  exact List.forall_mem_cons.mpr ⟨lk212, fun _ h => absurd h List.not_mem_nil⟩
set_option maxRecDepth 100000 in
theorem ep_c67 : ev_vr MM ev_w67 = true := ev_vr_mk (l := ep_l67) (by decide +kernel) ep_k67
def ep_l68 : List (Instr × Nat × Nat) := [(.invokevirtual 169, 72, 1)]
set_option maxRecDepth 100000 in
theorem ep_k68 : ∀ q ∈ ep_l68, ∀ pc, ev_kb MM "LeftAnswers$Duchy" pc q.1 q.2.1 q.2.2 = true := by
  unfold ep_l68
  exact List.forall_mem_cons.mpr ⟨lk229, fun _ h => absurd h List.not_mem_nil⟩
set_option maxRecDepth 100000 in
theorem ep_c68 : ev_vr MM ev_w68 = true := ev_vr_mk (l := ep_l68) (by decide +kernel) ep_k68
def ep_l69 : List (Instr × Nat × Nat) := [(.invokevirtual 172, 68, 2), (.invokevirtual 175, 81, 2), (.getfield 31, 1, 11)]
set_option maxRecDepth 100000 in
theorem ep_k69 : ∀ q ∈ ep_l69, ∀ pc, ev_kb MM "LeftAnswers$Duchy" pc q.1 q.2.1 q.2.2 = true := by
  unfold ep_l69
  exact List.forall_mem_cons.mpr ⟨lk230, List.forall_mem_cons.mpr ⟨lk231, List.forall_mem_cons.mpr ⟨lk223, fun _ h => absurd h List.not_mem_nil⟩⟩⟩
set_option maxRecDepth 100000 in
theorem ep_c69 : ev_vr MM ev_w69 = true := ev_vr_mk (l := ep_l69) (by decide +kernel) ep_k69
def ep_l70 : List (Instr × Nat × Nat) := [(.getfield 88, 9, 6), (.getstatic 158, 1, 0), (.invokevirtual 114, 165, 1), (.getfield 9, 1, 7), (.getfield 43, 1, 0), (.getfield 128, 9, 7), (.invokestatic 161, 66, 3), (.getfield 28, 1, 10), (.getfield 47, 1, 1)]
set_option maxRecDepth 100000 in
theorem ep_k70 : ∀ q ∈ ep_l70, ∀ pc, ev_kb MM "LeftAnswers$Duchy" pc q.1 q.2.1 q.2.2 = true := by
  unfold ep_l70
  exact List.forall_mem_cons.mpr ⟨lk232, List.forall_mem_cons.mpr ⟨lk233, List.forall_mem_cons.mpr ⟨lk234, List.forall_mem_cons.mpr ⟨lk218, List.forall_mem_cons.mpr ⟨lk198, List.forall_mem_cons.mpr ⟨lk235, List.forall_mem_cons.mpr ⟨lk236, List.forall_mem_cons.mpr ⟨lk222, List.forall_mem_cons.mpr ⟨lk200, fun _ h => absurd h List.not_mem_nil⟩⟩⟩⟩⟩⟩⟩⟩⟩
set_option maxRecDepth 100000 in
theorem ep_c70 : ev_vr MM ev_w70 = true := ev_vr_mk (l := ep_l70) (by decide +kernel) ep_k70
def ep_l71 : List (Instr × Nat × Nat) := [(.getfield 88, 9, 6), (.getstatic 158, 1, 0), (.invokevirtual 114, 165, 1), (.getfield 128, 9, 7), (.invokestatic 161, 66, 3)]
set_option maxRecDepth 100000 in
theorem ep_k71 : ∀ q ∈ ep_l71, ∀ pc, ev_kb MM "LeftAnswers$Duchy" pc q.1 q.2.1 q.2.2 = true := by
  unfold ep_l71
  exact List.forall_mem_cons.mpr ⟨lk232, List.forall_mem_cons.mpr ⟨lk233, List.forall_mem_cons.mpr ⟨lk234, List.forall_mem_cons.mpr ⟨lk235, List.forall_mem_cons.mpr ⟨lk236, fun _ h => absurd h List.not_mem_nil⟩⟩⟩⟩⟩
set_option maxRecDepth 100000 in
theorem ep_c71 : ev_vr MM ev_w71 = true := ev_vr_mk (l := ep_l71) (by decide +kernel) ep_k71
def ep_l72 : List (Instr × Nat × Nat) := [(.getfield 62, 1, 6)]
set_option maxRecDepth 100000 in
theorem ep_k72 : ∀ q ∈ ep_l72, ∀ pc, ev_kb MM "LeftAnswers$Duchy" pc q.1 q.2.1 q.2.2 = true := by
  unfold ep_l72
  exact List.forall_mem_cons.mpr ⟨lk217, fun _ h => absurd h List.not_mem_nil⟩
set_option maxRecDepth 100000 in
theorem ep_c72 : ev_vr MM ev_w72 = true := ev_vr_mk (l := ep_l72) (by decide +kernel) ep_k72
def ep_l73 : List (Instr × Nat × Nat) := [(.getfield 9, 1, 7), (.getfield 43, 1, 0), (.invokestatic 165, 71, 3)]
set_option maxRecDepth 100000 in
theorem ep_k73 : ∀ q ∈ ep_l73, ∀ pc, ev_kb MM "LeftAnswers$Duchy" pc q.1 q.2.1 q.2.2 = true := by
  unfold ep_l73
  exact List.forall_mem_cons.mpr ⟨lk218, List.forall_mem_cons.mpr ⟨lk198, List.forall_mem_cons.mpr ⟨lk226, fun _ h => absurd h List.not_mem_nil⟩⟩⟩
set_option maxRecDepth 100000 in
theorem ep_c73 : ev_vr MM ev_w73 = true := ev_vr_mk (l := ep_l73) (by decide +kernel) ep_k73
def ep_l74 : List (Instr × Nat × Nat) := [(.getfield 47, 1, 1), (.invokevirtual 114, 165, 1), (.invokevirtual 122, 155, 0), (.invokevirtual 125, 70, 1), (.getfield 28, 1, 10), (.getfield 128, 9, 7), (.invokevirtual 132, 168, 2), (.getfield 31, 1, 11), (.getfield 136, 9, 9), (.getfield 34, 1, 12), (.getfield 37, 1, 13), (.getfield 88, 9, 6), (.getstatic 142, 5, 0), (.getfield 62, 1, 6), (.putfield 62, 1, 6), (.putfield 47, 1, 1)]
set_option maxRecDepth 100000 in
theorem ep_k74 : ∀ q ∈ ep_l74, ∀ pc, ev_kb MM "LeftAnswers$Duchy" pc q.1 q.2.1 q.2.2 = true := by
  unfold ep_l74
  exact List.forall_mem_cons.mpr ⟨lk200, List.forall_mem_cons.mpr ⟨lk234, List.forall_mem_cons.mpr ⟨lk237, List.forall_mem_cons.mpr ⟨lk238, List.forall_mem_cons.mpr ⟨lk222, List.forall_mem_cons.mpr ⟨lk235, List.forall_mem_cons.mpr ⟨lk239, List.forall_mem_cons.mpr ⟨lk223, List.forall_mem_cons.mpr ⟨lk240, List.forall_mem_cons.mpr ⟨lk224, List.forall_mem_cons.mpr ⟨lk225, List.forall_mem_cons.mpr ⟨lk232, List.forall_mem_cons.mpr ⟨lk241, List.forall_mem_cons.mpr ⟨lk217, List.forall_mem_cons.mpr ⟨lk210, List.forall_mem_cons.mpr ⟨lk205, fun _ h => absurd h List.not_mem_nil⟩⟩⟩⟩⟩⟩⟩⟩⟩⟩⟩⟩⟩⟩⟩⟩
set_option maxRecDepth 100000 in
theorem ep_c74 : ev_vr MM ev_w74 = true := ev_vr_mk (l := ep_l74) (by decide +kernel) ep_k74
def ep_l75 : List (Instr × Nat × Nat) := [(.invokevirtual 145, 80, 1), (.getfield 25, 1, 15), (.invokevirtual 114, 165, 1), (.invokevirtual 122, 155, 0), (.invokevirtual 132, 168, 2), (.getfield 136, 9, 9)]
set_option maxRecDepth 100000 in
theorem ep_k75 : ∀ q ∈ ep_l75, ∀ pc, ev_kb MM "LeftAnswers$Duchy" pc q.1 q.2.1 q.2.2 = true := by
  unfold ep_l75
  exact List.forall_mem_cons.mpr ⟨lk242, List.forall_mem_cons.mpr ⟨lk212, List.forall_mem_cons.mpr ⟨lk234, List.forall_mem_cons.mpr ⟨lk237, List.forall_mem_cons.mpr ⟨lk239, List.forall_mem_cons.mpr ⟨lk240, fun _ h => absurd h List.not_mem_nil⟩⟩⟩⟩⟩⟩
set_option maxRecDepth 100000 in
theorem ep_c75 : ev_vr MM ev_w75 = true := ev_vr_mk (l := ep_l75) (by decide +kernel) ep_k75
def ep_l76 : List (Instr × Nat × Nat) := [(.invokevirtual 71, 61, 0), (.invokevirtual 74, 161, 1), (.getfield 80, 9, 4), (.invokevirtual 40, 65, 0), (.getstatic 83, 100, 0), (.getfield 88, 9, 6), (.invokevirtual 92, 900, 0), (.invokevirtual 98, 78, 1), (.invokevirtual 102, 74, 1), (.invokevirtual 105, 79, 1), (.invokevirtual 108, 75, 1), (.invokevirtual 111, 77, 1), (.invokevirtual 114, 165, 1), (.invokevirtual 118, 167, 1)]
set_option maxRecDepth 100000 in
theorem ep_k76 : ∀ q ∈ ep_l76, ∀ pc, ev_kb MM "LeftAnswers$Duchy" pc q.1 q.2.1 q.2.2 = true := by
  unfold ep_l76
  exact List.forall_mem_cons.mpr ⟨lk243, List.forall_mem_cons.mpr ⟨lk244, List.forall_mem_cons.mpr ⟨lk245, List.forall_mem_cons.mpr ⟨lk197, List.forall_mem_cons.mpr ⟨lk246, List.forall_mem_cons.mpr ⟨lk232, List.forall_mem_cons.mpr ⟨lk247, List.forall_mem_cons.mpr ⟨lk248, List.forall_mem_cons.mpr ⟨lk249, List.forall_mem_cons.mpr ⟨lk250, List.forall_mem_cons.mpr ⟨lk251, List.forall_mem_cons.mpr ⟨lk252, List.forall_mem_cons.mpr ⟨lk234, List.forall_mem_cons.mpr ⟨lk253, fun _ h => absurd h List.not_mem_nil⟩⟩⟩⟩⟩⟩⟩⟩⟩⟩⟩⟩⟩⟩
set_option maxRecDepth 100000 in
theorem ep_c76 : ev_vr MM ev_w76 = true := ev_vr_mk (l := ep_l76) (by decide +kernel) ep_k76
def ep_l77 : List (Instr × Nat × Nat) := [(.getfield 88, 9, 6), (.getstatic 152, 8, 0), (.getfield 50, 1, 2), (.getstatic 155, 9, 0), (.getfield 53, 1, 3), (.getfield 56, 1, 4), (.invokevirtual 114, 165, 1), (.invokevirtual 122, 155, 0), (.invokevirtual 132, 168, 2), (.getfield 136, 9, 9), (.putfield 50, 1, 2), (.putfield 53, 1, 3), (.putfield 56, 1, 4)]
set_option maxRecDepth 100000 in
theorem ep_k77 : ∀ q ∈ ep_l77, ∀ pc, ev_kb MM "LeftAnswers$Duchy" pc q.1 q.2.1 q.2.2 = true := by
  unfold ep_l77
  exact List.forall_mem_cons.mpr ⟨lk232, List.forall_mem_cons.mpr ⟨lk254, List.forall_mem_cons.mpr ⟨lk213, List.forall_mem_cons.mpr ⟨lk255, List.forall_mem_cons.mpr ⟨lk214, List.forall_mem_cons.mpr ⟨lk215, List.forall_mem_cons.mpr ⟨lk234, List.forall_mem_cons.mpr ⟨lk237, List.forall_mem_cons.mpr ⟨lk239, List.forall_mem_cons.mpr ⟨lk240, List.forall_mem_cons.mpr ⟨lk206, List.forall_mem_cons.mpr ⟨lk207, List.forall_mem_cons.mpr ⟨lk208, fun _ h => absurd h List.not_mem_nil⟩⟩⟩⟩⟩⟩⟩⟩⟩⟩⟩⟩⟩
set_option maxRecDepth 100000 in
theorem ep_c77 : ev_vr MM ev_w77 = true := ev_vr_mk (l := ep_l77) (by decide +kernel) ep_k77
def ep_l78 : List (Instr × Nat × Nat) := [(.getfield 43, 1, 0), (.invokevirtual 114, 165, 1), (.invokevirtual 122, 155, 0), (.invokevirtual 125, 70, 1), (.getfield 9, 1, 7), (.getfield 128, 9, 7), (.invokevirtual 132, 168, 2), (.getfield 15, 1, 8), (.getfield 136, 9, 9), (.getfield 19, 1, 9), (.getfield 88, 9, 6), (.getstatic 139, 3, 0), (.getfield 59, 1, 5), (.putfield 59, 1, 5), (.putfield 43, 1, 0)]
set_option maxRecDepth 100000 in
theorem ep_k78 : ∀ q ∈ ep_l78, ∀ pc, ev_kb MM "LeftAnswers$Duchy" pc q.1 q.2.1 q.2.2 = true := by
  unfold ep_l78
  exact List.forall_mem_cons.mpr ⟨lk198, List.forall_mem_cons.mpr ⟨lk234, List.forall_mem_cons.mpr ⟨lk237, List.forall_mem_cons.mpr ⟨lk238, List.forall_mem_cons.mpr ⟨lk218, List.forall_mem_cons.mpr ⟨lk235, List.forall_mem_cons.mpr ⟨lk239, List.forall_mem_cons.mpr ⟨lk220, List.forall_mem_cons.mpr ⟨lk240, List.forall_mem_cons.mpr ⟨lk221, List.forall_mem_cons.mpr ⟨lk232, List.forall_mem_cons.mpr ⟨lk256, List.forall_mem_cons.mpr ⟨lk216, List.forall_mem_cons.mpr ⟨lk209, List.forall_mem_cons.mpr ⟨lk204, fun _ h => absurd h List.not_mem_nil⟩⟩⟩⟩⟩⟩⟩⟩⟩⟩⟩⟩⟩⟩⟩
set_option maxRecDepth 100000 in
theorem ep_c78 : ev_vr MM ev_w78 = true := ev_vr_mk (l := ep_l78) (by decide +kernel) ep_k78
def ep_l79 : List (Instr × Nat × Nat) := [(.invokevirtual 145, 80, 1), (.getfield 22, 1, 14), (.invokevirtual 114, 165, 1), (.invokevirtual 122, 155, 0)]
set_option maxRecDepth 100000 in
theorem ep_k79 : ∀ q ∈ ep_l79, ∀ pc, ev_kb MM "LeftAnswers$Duchy" pc q.1 q.2.1 q.2.2 = true := by
  unfold ep_l79
  exact List.forall_mem_cons.mpr ⟨lk242, List.forall_mem_cons.mpr ⟨lk211, List.forall_mem_cons.mpr ⟨lk234, List.forall_mem_cons.mpr ⟨lk237, fun _ h => absurd h List.not_mem_nil⟩⟩⟩⟩
set_option maxRecDepth 100000 in
theorem ep_c79 : ev_vr MM ev_w79 = true := ev_vr_mk (l := ep_l79) (by decide +kernel) ep_k79
