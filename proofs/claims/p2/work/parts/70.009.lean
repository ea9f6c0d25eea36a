/-! ===== contracts, inferred and printed by my program, checked here ===== -/
/-- M.write -/
def syt_655 : CO := (294, 1, [(0, 0, 0, 0, 0, 0), ((-2147483648), 2147483647, 0, (-2147483648), 0, 2147483647), (17, 31, 0, 17, 0, 31)], [(2, 180, 0), (0, 1, 0)], [(180, 41, (0, 2, 0))], [(1, 1, 0), (2, 180, 41)], [(none, [(0, 0, 0, 0, 0, 0), ((-2147483648), 2147483647, 0, (-2147483648), 0, 2147483647), (17, 31, 0, 17, 0, 31)], [(180, 41, (0, 2, 1))], [])], [(180, 41, 41), (199, 17, 31)], [], [], [])
set_option maxRecDepth 100000 in
theorem syc_655 : CoOk GG MM syt_655 := chk_ok (cs := []) (F := 4000) (fun _ h => absurd h List.not_mem_nil) (by decide +kernel) (by decide +kernel)
/-- M.writeWord -/
def syt_656 : CO := (297, 8, [(0, 0, 0, 0, 0, 0), (1, 10460353202, 0, 1, 0, 10460353202), (16, 25, 0, 16, 0, 25)], [(2, 180, 0), (1, 1, 0)], [(180, 41, (0, 2, 0))], [(1, 1, 0), (2, 180, 41)], [(none, [(0, 0, 0, 0, 0, 0), (1, 10460353202, 0, 1, 0, 10460353202), (16, 25, 0, 16, 0, 25), (17, 32, 2, 1, 0, 32)], [(180, 41, (0, 3, 0))], [(2, 180, 41)])], [(180, 41, 41), (199, 16, 31)], [], [], [])
set_option maxRecDepth 100000 in
theorem syc_656 : CoOk GG MM syt_656 := chk_ok (cs := [syt_605, syt_607, syt_655, syt_645, syt_654]) (F := 4000) (List.forall_mem_cons.mpr ⟨syc_605, List.forall_mem_cons.mpr ⟨syc_607, List.forall_mem_cons.mpr ⟨syc_655, List.forall_mem_cons.mpr ⟨syc_645, List.forall_mem_cons.mpr ⟨syc_654, fun _ h => absurd h List.not_mem_nil⟩⟩⟩⟩⟩) (by decide +kernel) (by decide +kernel)
/-- M.write -/
def syt_657 : CO := (294, 1, [(0, 0, 0, 0, 0, 0), ((-2147483648), 2147483647, 0, (-2147483648), 0, 2147483647), (17, 32, 0, 17, 0, 32)], [(2, 180, 0), (0, 1, 0)], [(180, 41, (0, 2, 0))], [(1, 1, 0), (2, 180, 41)], [(none, [(0, 0, 0, 0, 0, 0), ((-2147483648), 2147483647, 0, (-2147483648), 0, 2147483647), (17, 32, 0, 17, 0, 32)], [(180, 41, (0, 2, 1))], [])], [(180, 41, 41), (199, 17, 32)], [], [], [])
set_option maxRecDepth 100000 in
theorem syc_657 : CoOk GG MM syt_657 := chk_ok (cs := []) (F := 4000) (fun _ h => absurd h List.not_mem_nil) (by decide +kernel) (by decide +kernel)
/-- M.writeWord -/
def syt_658 : CO := (297, 9, [(0, 0, 0, 0, 0, 0), ((-9223372036854775808), 282429536480, 0, (-9223372036854775808), 0, 282429536480), (16, 25, 0, 16, 0, 25)], [(2, 180, 0), (1, 1, 0)], [(180, 41, (0, 2, 0))], [(1, 1, 0), (2, 180, 41)], [(none, [(0, 0, 0, 0, 0, 0), ((-9223372036854775808), 282429536480, 0, (-9223372036854775808), 0, 282429536480), (16, 25, 0, 16, 0, 25), (17, 33, 2, 1, 0, 33)], [(180, 41, (0, 3, 0))], [(2, 180, 41)])], [(180, 41, 41), (199, 16, 32)], [], [], [])
set_option maxRecDepth 100000 in
theorem syc_658 : CoOk GG MM syt_658 := chk_ok (cs := [syt_605, syt_607, syt_657, syt_645, syt_656]) (F := 4000) (List.forall_mem_cons.mpr ⟨syc_605, List.forall_mem_cons.mpr ⟨syc_607, List.forall_mem_cons.mpr ⟨syc_657, List.forall_mem_cons.mpr ⟨syc_645, List.forall_mem_cons.mpr ⟨syc_656, fun _ h => absurd h List.not_mem_nil⟩⟩⟩⟩⟩) (by decide +kernel) (by decide +kernel)
/-- M.writeNext -/
def syt_659 : CO := (295, 10, [(0, 0, 0, 0, 0, 0), ((-9223372036854775808), 282429536480, 0, (-9223372036854775808), 0, 282429536480), (15, 24, 0, 15, 0, 24)], [(2, 180, 0), (1, 1, 0)], [(180, 41, (0, 2, 0))], [(1, 1, 0), (2, 180, 41)], [(none, [(0, 0, 0, 0, 0, 0), ((-9223372036854775808), 282429536480, 0, (-9223372036854775808), 0, 282429536480), (15, 24, 0, 15, 0, 24), (17, 33, 2, 2, 0, 33)], [(180, 41, (0, 3, 0))], [(2, 180, 41)])], [(180, 41, 41), (199, 15, 32)], [], [], [])
set_option maxRecDepth 100000 in
theorem syc_659 : CoOk GG MM syt_659 := chk_ok (cs := [syt_604, syt_658]) (F := 4000) (List.forall_mem_cons.mpr ⟨syc_604, List.forall_mem_cons.mpr ⟨syc_658, fun _ h => absurd h List.not_mem_nil⟩⟩) (by decide +kernel) (by decide +kernel)
/-- M.spelt -/
def syt_660 : CO := (279, 1, [(0, 0, 0, 0, 0, 0)], [(0, 0, 105), (0, 0, 110), (0, 0, 0), (0, 0, 0), (0, 0, 0), (0, 0, 0)], [], [], [(some (1, 1, 0), [(0, 0, 0, 0, 0, 0), (257, 257, 0, 257, 0, 257)], [], [(1, 0, 0)])], [], [], [], [])
set_option maxRecDepth 100000 in
theorem syc_660 : CoOk GG MM syt_660 := chk_ok (cs := []) (F := 4000) (fun _ h => absurd h List.not_mem_nil) (by decide +kernel) (by decide +kernel)
/-- M.writeWord -/
def syt_661 : CO := (297, 2, [(0, 0, 0, 0, 0, 0), (9, 9, 0, 9, 0, 9), (9, 18, 0, 9, 0, 18)], [(2, 180, 0), (1, 1, 0)], [(180, 41, (0, 2, 0))], [(1, 1, 0), (2, 180, 41)], [(none, [(0, 0, 0, 0, 0, 0), (9, 9, 0, 9, 0, 9), (9, 18, 0, 9, 0, 18)], [(180, 41, (0, 2, 1))], [])], [(180, 41, 41), (199, 9, 18)], [], [], [])
set_option maxRecDepth 100000 in
theorem syc_661 : CoOk GG MM syt_661 := chk_ok (cs := [syt_591]) (F := 4000) (List.forall_mem_cons.mpr ⟨syc_591, fun _ h => absurd h List.not_mem_nil⟩) (by decide +kernel) (by decide +kernel)
/-- M.writeWord -/
def syt_662 : CO := (297, 3, [(0, 0, 0, 0, 0, 0), (257, 257, 0, 257, 0, 257), (9, 18, 0, 9, 0, 18)], [(2, 180, 0), (1, 1, 0)], [(180, 41, (0, 2, 0))], [(1, 1, 0), (2, 180, 41)], [(none, [(0, 0, 0, 0, 0, 0), (257, 257, 0, 257, 0, 257), (9, 18, 0, 9, 0, 18)], [(180, 41, (0, 2, 2))], [])], [(180, 41, 41), (199, 9, 19)], [], [], [])
set_option maxRecDepth 100000 in
theorem syc_662 : CoOk GG MM syt_662 := chk_ok (cs := [syt_593, syt_661]) (F := 4000) (List.forall_mem_cons.mpr ⟨syc_593, List.forall_mem_cons.mpr ⟨syc_661, fun _ h => absurd h List.not_mem_nil⟩⟩) (by decide +kernel) (by decide +kernel)
/-- M.writeNext -/
def syt_663 : CO := (295, 4, [(0, 0, 0, 0, 0, 0), (257, 257, 0, 257, 0, 257), (8, 17, 0, 8, 0, 17)], [(2, 180, 0), (1, 1, 0)], [(180, 41, (0, 2, 0))], [(1, 1, 0), (2, 180, 41)], [(none, [(0, 0, 0, 0, 0, 0), (257, 257, 0, 257, 0, 257), (8, 17, 0, 8, 0, 17)], [(180, 41, (0, 2, 3))], [])], [(180, 41, 41), (199, 8, 19)], [], [], [])
set_option maxRecDepth 100000 in
theorem syc_663 : CoOk GG MM syt_663 := chk_ok (cs := [syt_590, syt_662]) (F := 4000) (List.forall_mem_cons.mpr ⟨syc_590, List.forall_mem_cons.mpr ⟨syc_662, fun _ h => absurd h List.not_mem_nil⟩⟩) (by decide +kernel) (by decide +kernel)
/-- M.writeWord -/
def syt_664 : CO := (297, 2, [(0, 0, 0, 0, 0, 0), (3, 3, 0, 3, 0, 3), (12, 21, 0, 12, 0, 21)], [(2, 180, 0), (1, 1, 0)], [(180, 41, (0, 2, 0))], [(1, 1, 0), (2, 180, 41)], [(none, [(0, 0, 0, 0, 0, 0), (3, 3, 0, 3, 0, 3), (12, 21, 0, 12, 0, 21)], [(180, 41, (0, 2, 1))], [])], [(180, 41, 41), (199, 12, 21)], [], [], [])
set_option maxRecDepth 100000 in
theorem syc_664 : CoOk GG MM syt_664 := chk_ok (cs := [syt_597]) (F := 4000) (List.forall_mem_cons.mpr ⟨syc_597, fun _ h => absurd h List.not_mem_nil⟩) (by decide +kernel) (by decide +kernel)
/-- M.writeWord -/
def syt_665 : CO := (297, 3, [(0, 0, 0, 0, 0, 0), (86, 86, 0, 86, 0, 86), (12, 21, 0, 12, 0, 21)], [(2, 180, 0), (1, 1, 0)], [(180, 41, (0, 2, 0))], [(1, 1, 0), (2, 180, 41)], [(none, [(0, 0, 0, 0, 0, 0), (86, 86, 0, 86, 0, 86), (12, 21, 0, 12, 0, 21)], [(180, 41, (0, 2, 2))], [])], [(180, 41, 41), (199, 12, 22)], [], [], [])
set_option maxRecDepth 100000 in
theorem syc_665 : CoOk GG MM syt_665 := chk_ok (cs := [syt_599, syt_664]) (F := 4000) (List.forall_mem_cons.mpr ⟨syc_599, List.forall_mem_cons.mpr ⟨syc_664, fun _ h => absurd h List.not_mem_nil⟩⟩) (by decide +kernel) (by decide +kernel)
/-- M.writeWord -/
def syt_666 : CO := (297, 4, [(0, 0, 0, 0, 0, 0), (2334, 2334, 0, 2334, 0, 2334), (12, 21, 0, 12, 0, 21)], [(2, 180, 0), (1, 1, 0)], [(180, 41, (0, 2, 0))], [(1, 1, 0), (2, 180, 41)], [(none, [(0, 0, 0, 0, 0, 0), (2334, 2334, 0, 2334, 0, 2334), (12, 21, 0, 12, 0, 21)], [(180, 41, (0, 2, 3))], [])], [(180, 41, 41), (199, 12, 23)], [], [], [])
set_option maxRecDepth 100000 in
theorem syc_666 : CoOk GG MM syt_666 := chk_ok (cs := [syt_601, syt_665]) (F := 4000) (List.forall_mem_cons.mpr ⟨syc_601, List.forall_mem_cons.mpr ⟨syc_665, fun _ h => absurd h List.not_mem_nil⟩⟩) (by decide +kernel) (by decide +kernel)
/-- M.writeWord -/
def syt_667 : CO := (297, 5, [(0, 0, 0, 0, 0, 0), (63030, 63030, 0, 63030, 0, 63030), (12, 21, 0, 12, 0, 21)], [(2, 180, 0), (1, 1, 0)], [(180, 41, (0, 2, 0))], [(1, 1, 0), (2, 180, 41)], [(none, [(0, 0, 0, 0, 0, 0), (63030, 63030, 0, 63030, 0, 63030), (12, 21, 0, 12, 0, 21)], [(180, 41, (0, 2, 4))], [])], [(180, 41, 41), (199, 12, 24)], [], [], [])
set_option maxRecDepth 100000 in
theorem syc_667 : CoOk GG MM syt_667 := chk_ok (cs := [syt_604, syt_666]) (F := 4000) (List.forall_mem_cons.mpr ⟨syc_604, List.forall_mem_cons.mpr ⟨syc_666, fun _ h => absurd h List.not_mem_nil⟩⟩) (by decide +kernel) (by decide +kernel)
/-- M.writeNext -/
def syt_668 : CO := (295, 6, [(0, 0, 0, 0, 0, 0), (63030, 63030, 0, 63030, 0, 63030), (11, 20, 0, 11, 0, 20)], [(2, 180, 0), (1, 1, 0)], [(180, 41, (0, 2, 0))], [(1, 1, 0), (2, 180, 41)], [(none, [(0, 0, 0, 0, 0, 0), (63030, 63030, 0, 63030, 0, 63030), (11, 20, 0, 11, 0, 20)], [(180, 41, (0, 2, 5))], [])], [(180, 41, 41), (199, 11, 24)], [], [], [])
set_option maxRecDepth 100000 in
theorem syc_668 : CoOk GG MM syt_668 := chk_ok (cs := [syt_595, syt_667]) (F := 4000) (List.forall_mem_cons.mpr ⟨syc_595, List.forall_mem_cons.mpr ⟨syc_667, fun _ h => absurd h List.not_mem_nil⟩⟩) (by decide +kernel) (by decide +kernel)
/-- M.writeNumber -/
def syt_669 : CO := (296, 2, [(0, 0, 0, 0, 0, 0), (1, 3, 0, 1, 0, 3), (17, 26, 0, 17, 0, 26)], [(2, 180, 0), (0, 1, 0)], [(180, 41, (0, 2, 0))], [(1, 1, 0), (2, 180, 41)], [(none, [(0, 0, 0, 0, 0, 0), (1, 3, 0, 1, 0, 3), (17, 26, 0, 17, 0, 26)], [(180, 41, (0, 2, 1))], [])], [(180, 41, 41), (199, 17, 26)], [], [], [])
set_option maxRecDepth 100000 in
theorem syc_669 : CoOk GG MM syt_669 := chk_ok (cs := [syt_607]) (F := 4000) (List.forall_mem_cons.mpr ⟨syc_607, fun _ h => absurd h List.not_mem_nil⟩) (by decide +kernel) (by decide +kernel)
/-- M.writeNumber -/
def syt_670 : CO := (296, 3, [(0, 0, 0, 0, 0, 0), (0, 30, 0, 0, 0, 30), (17, 26, 0, 17, 0, 26)], [(2, 180, 0), (0, 1, 0)], [(180, 41, (0, 2, 0))], [(1, 1, 0), (2, 180, 41)], [(none, [(0, 0, 0, 0, 0, 0), (0, 30, 0, 0, 0, 30), (17, 26, 0, 17, 0, 26), (18, 28, 2, 1, 0, 28)], [(180, 41, (0, 3, 0))], [(2, 180, 41)])], [(180, 41, 41), (199, 17, 27)], [], [], [])
set_option maxRecDepth 100000 in
theorem syc_670 : CoOk GG MM syt_670 := chk_ok (cs := [syt_607, syt_609, syt_669]) (F := 4000) (List.forall_mem_cons.mpr ⟨syc_607, List.forall_mem_cons.mpr ⟨syc_609, List.forall_mem_cons.mpr ⟨syc_669, fun _ h => absurd h List.not_mem_nil⟩⟩⟩) (by decide +kernel) (by decide +kernel)
/-- M.write -/
def syt_671 : CO := (294, 1, [(0, 0, 0, 0, 0, 0), ((-2147483648), 2147483647, 0, (-2147483648), 0, 2147483647), (18, 28, 0, 18, 0, 28)], [(2, 180, 0), (0, 1, 0)], [(180, 41, (0, 2, 0))], [(1, 1, 0), (2, 180, 41)], [(none, [(0, 0, 0, 0, 0, 0), ((-2147483648), 2147483647, 0, (-2147483648), 0, 2147483647), (18, 28, 0, 18, 0, 28)], [(180, 41, (0, 2, 1))], [])], [(180, 41, 41), (199, 18, 28)], [], [], [])
set_option maxRecDepth 100000 in
theorem syc_671 : CoOk GG MM syt_671 := chk_ok (cs := []) (F := 4000) (fun _ h => absurd h List.not_mem_nil) (by decide +kernel) (by decide +kernel)
/-- M.write -/
def syt_672 : CO := (294, 1, [(0, 0, 0, 0, 0, 0), ((-2147483648), 2147483647, 0, (-2147483648), 0, 2147483647), (19, 29, 0, 19, 0, 29)], [(2, 180, 0), (0, 1, 0)], [(180, 41, (0, 2, 0))], [(1, 1, 0), (2, 180, 41)], [(none, [(0, 0, 0, 0, 0, 0), ((-2147483648), 2147483647, 0, (-2147483648), 0, 2147483647), (19, 29, 0, 19, 0, 29)], [(180, 41, (0, 2, 1))], [])], [(180, 41, 41), (199, 19, 29)], [], [], [])
set_option maxRecDepth 100000 in
theorem syc_672 : CoOk GG MM syt_672 := chk_ok (cs := []) (F := 4000) (fun _ h => absurd h List.not_mem_nil) (by decide +kernel) (by decide +kernel)
/-- M.writeWord -/
def syt_673 : CO := (297, 2, [(0, 0, 0, 0, 0, 0), (7, 7, 0, 7, 0, 7), (19, 29, 0, 19, 0, 29)], [(2, 180, 0), (1, 1, 0)], [(180, 41, (0, 2, 0))], [(1, 1, 0), (2, 180, 41)], [(none, [(0, 0, 0, 0, 0, 0), (7, 7, 0, 7, 0, 7), (19, 29, 0, 19, 0, 29)], [(180, 41, (0, 2, 1))], [])], [(180, 41, 41), (199, 19, 29)], [], [], [])
set_option maxRecDepth 100000 in
theorem syc_673 : CoOk GG MM syt_673 := chk_ok (cs := [syt_672]) (F := 4000) (List.forall_mem_cons.mpr ⟨syc_672, fun _ h => absurd h List.not_mem_nil⟩) (by decide +kernel) (by decide +kernel)
/-- M.write -/
def syt_674 : CO := (294, 1, [(0, 0, 0, 0, 0, 0), ((-2147483648), 2147483647, 0, (-2147483648), 0, 2147483647), (20, 30, 0, 20, 0, 30)], [(2, 180, 0), (0, 1, 0)], [(180, 41, (0, 2, 0))], [(1, 1, 0), (2, 180, 41)], [(none, [(0, 0, 0, 0, 0, 0), ((-2147483648), 2147483647, 0, (-2147483648), 0, 2147483647), (20, 30, 0, 20, 0, 30)], [(180, 41, (0, 2, 1))], [])], [(180, 41, 41), (199, 20, 30)], [], [], [])
set_option maxRecDepth 100000 in
theorem syc_674 : CoOk GG MM syt_674 := chk_ok (cs := []) (F := 4000) (fun _ h => absurd h List.not_mem_nil) (by decide +kernel) (by decide +kernel)
/-- M.writeWord -/
def syt_675 : CO := (297, 3, [(0, 0, 0, 0, 0, 0), (201, 201, 0, 201, 0, 201), (19, 29, 0, 19, 0, 29)], [(2, 180, 0), (1, 1, 0)], [(180, 41, (0, 2, 0))], [(1, 1, 0), (2, 180, 41)], [(none, [(0, 0, 0, 0, 0, 0), (201, 201, 0, 201, 0, 201), (19, 29, 0, 19, 0, 29)], [(180, 41, (0, 2, 2))], [])], [(180, 41, 41), (199, 19, 30)], [], [], [])
set_option maxRecDepth 100000 in
theorem syc_675 : CoOk GG MM syt_675 := chk_ok (cs := [syt_674, syt_673]) (F := 4000) (List.forall_mem_cons.mpr ⟨syc_674, List.forall_mem_cons.mpr ⟨syc_673, fun _ h => absurd h List.not_mem_nil⟩⟩) (by decide +kernel) (by decide +kernel)
/-- M.write -/
def syt_676 : CO := (294, 1, [(0, 0, 0, 0, 0, 0), ((-2147483648), 2147483647, 0, (-2147483648), 0, 2147483647), (21, 31, 0, 21, 0, 31)], [(2, 180, 0), (0, 1, 0)], [(180, 41, (0, 2, 0))], [(1, 1, 0), (2, 180, 41)], [(none, [(0, 0, 0, 0, 0, 0), ((-2147483648), 2147483647, 0, (-2147483648), 0, 2147483647), (21, 31, 0, 21, 0, 31)], [(180, 41, (0, 2, 1))], [])], [(180, 41, 41), (199, 21, 31)], [], [], [])
set_option maxRecDepth 100000 in
theorem syc_676 : CoOk GG MM syt_676 := chk_ok (cs := []) (F := 4000) (fun _ h => absurd h List.not_mem_nil) (by decide +kernel) (by decide +kernel)
/-- M.writeWord -/
def syt_677 : CO := (297, 4, [(0, 0, 0, 0, 0, 0), (5442, 5442, 0, 5442, 0, 5442), (19, 29, 0, 19, 0, 29)], [(2, 180, 0), (1, 1, 0)], [(180, 41, (0, 2, 0))], [(1, 1, 0), (2, 180, 41)], [(none, [(0, 0, 0, 0, 0, 0), (5442, 5442, 0, 5442, 0, 5442), (19, 29, 0, 19, 0, 29)], [(180, 41, (0, 2, 3))], [])], [(180, 41, 41), (199, 19, 31)], [], [], [])
set_option maxRecDepth 100000 in
theorem syc_677 : CoOk GG MM syt_677 := chk_ok (cs := [syt_676, syt_675]) (F := 4000) (List.forall_mem_cons.mpr ⟨syc_676, List.forall_mem_cons.mpr ⟨syc_675, fun _ h => absurd h List.not_mem_nil⟩⟩) (by decide +kernel) (by decide +kernel)
/-- M.write -/
def syt_678 : CO := (294, 1, [(0, 0, 0, 0, 0, 0), ((-2147483648), 2147483647, 0, (-2147483648), 0, 2147483647), (22, 32, 0, 22, 0, 32)], [(2, 180, 0), (0, 1, 0)], [(180, 41, (0, 2, 0))], [(1, 1, 0), (2, 180, 41)], [(none, [(0, 0, 0, 0, 0, 0), ((-2147483648), 2147483647, 0, (-2147483648), 0, 2147483647), (22, 32, 0, 22, 0, 32)], [(180, 41, (0, 2, 1))], [])], [(180, 41, 41), (199, 22, 32)], [], [], [])
set_option maxRecDepth 100000 in
theorem syc_678 : CoOk GG MM syt_678 := chk_ok (cs := []) (F := 4000) (fun _ h => absurd h List.not_mem_nil) (by decide +kernel) (by decide +kernel)
/-- M.writeWord -/
def syt_679 : CO := (297, 5, [(0, 0, 0, 0, 0, 0), (146956, 146956, 0, 146956, 0, 146956), (19, 29, 0, 19, 0, 29)], [(2, 180, 0), (1, 1, 0)], [(180, 41, (0, 2, 0))], [(1, 1, 0), (2, 180, 41)], [(none, [(0, 0, 0, 0, 0, 0), (146956, 146956, 0, 146956, 0, 146956), (19, 29, 0, 19, 0, 29)], [(180, 41, (0, 2, 4))], [])], [(180, 41, 41), (199, 19, 32)], [], [], [])
set_option maxRecDepth 100000 in
theorem syc_679 : CoOk GG MM syt_679 := chk_ok (cs := [syt_678, syt_677]) (F := 4000) (List.forall_mem_cons.mpr ⟨syc_678, List.forall_mem_cons.mpr ⟨syc_677, fun _ h => absurd h List.not_mem_nil⟩⟩) (by decide +kernel) (by decide +kernel)
/-- M.write -/
def syt_680 : CO := (294, 1, [(0, 0, 0, 0, 0, 0), ((-2147483648), 2147483647, 0, (-2147483648), 0, 2147483647), (23, 33, 0, 23, 0, 33)], [(2, 180, 0), (0, 1, 0)], [(180, 41, (0, 2, 0))], [(1, 1, 0), (2, 180, 41)], [(none, [(0, 0, 0, 0, 0, 0), ((-2147483648), 2147483647, 0, (-2147483648), 0, 2147483647), (23, 33, 0, 23, 0, 33)], [(180, 41, (0, 2, 1))], [])], [(180, 41, 41), (199, 23, 33)], [], [], [])
set_option maxRecDepth 100000 in
theorem syc_680 : CoOk GG MM syt_680 := chk_ok (cs := []) (F := 4000) (fun _ h => absurd h List.not_mem_nil) (by decide +kernel) (by decide +kernel)
/-- M.writeWord -/
def syt_681 : CO := (297, 6, [(0, 0, 0, 0, 0, 0), (3967817, 3967817, 0, 3967817, 0, 3967817), (19, 29, 0, 19, 0, 29)], [(2, 180, 0), (1, 1, 0)], [(180, 41, (0, 2, 0))], [(1, 1, 0), (2, 180, 41)], [(none, [(0, 0, 0, 0, 0, 0), (3967817, 3967817, 0, 3967817, 0, 3967817), (19, 29, 0, 19, 0, 29)], [(180, 41, (0, 2, 5))], [])], [(180, 41, 41), (199, 19, 33)], [], [], [])
set_option maxRecDepth 100000 in
theorem syc_681 : CoOk GG MM syt_681 := chk_ok (cs := [syt_680, syt_679]) (F := 4000) (List.forall_mem_cons.mpr ⟨syc_680, List.forall_mem_cons.mpr ⟨syc_679, fun _ h => absurd h List.not_mem_nil⟩⟩) (by decide +kernel) (by decide +kernel)
/-- M.writeWord -/
def syt_682 : CO := (297, 7, [(0, 0, 0, 0, 0, 0), (107131063, 107131063, 0, 107131063, 0, 107131063), (19, 29, 0, 19, 0, 29)], [(2, 180, 0), (1, 1, 0)], [(180, 41, (0, 2, 0))], [(1, 1, 0), (2, 180, 41)], [(none, [(0, 0, 0, 0, 0, 0), (107131063, 107131063, 0, 107131063, 0, 107131063), (19, 29, 0, 19, 0, 29)], [(180, 41, (0, 2, 6))], [])], [(180, 41, 41), (199, 19, 34)], [], [], [])
set_option maxRecDepth 100000 in
theorem syc_682 : CoOk GG MM syt_682 := chk_ok (cs := [syt_624, syt_681]) (F := 4000) (List.forall_mem_cons.mpr ⟨syc_624, List.forall_mem_cons.mpr ⟨syc_681, fun _ h => absurd h List.not_mem_nil⟩⟩) (by decide +kernel) (by decide +kernel)
/-- M.writeNext -/
def syt_683 : CO := (295, 8, [(0, 0, 0, 0, 0, 0), (107131063, 107131063, 0, 107131063, 0, 107131063), (18, 28, 0, 18, 0, 28)], [(2, 180, 0), (1, 1, 0)], [(180, 41, (0, 2, 0))], [(1, 1, 0), (2, 180, 41)], [(none, [(0, 0, 0, 0, 0, 0), (107131063, 107131063, 0, 107131063, 0, 107131063), (18, 28, 0, 18, 0, 28)], [(180, 41, (0, 2, 7))], [])], [(180, 41, 41), (199, 18, 34)], [], [], [])
set_option maxRecDepth 100000 in
theorem syc_683 : CoOk GG MM syt_683 := chk_ok (cs := [syt_671, syt_682]) (F := 4000) (List.forall_mem_cons.mpr ⟨syc_671, List.forall_mem_cons.mpr ⟨syc_682, fun _ h => absurd h List.not_mem_nil⟩⟩) (by decide +kernel) (by decide +kernel)
/-- M.write -/
def syt_684 : CO := (294, 1, [(0, 0, 0, 0, 0, 0), ((-2147483648), 2147483647, 0, (-2147483648), 0, 2147483647), (25, 35, 0, 25, 0, 35)], [(2, 180, 0), (0, 1, 0)], [(180, 41, (0, 2, 0))], [(1, 1, 0), (2, 180, 41)], [(none, [(0, 0, 0, 0, 0, 0), ((-2147483648), 2147483647, 0, (-2147483648), 0, 2147483647), (25, 35, 0, 25, 0, 35)], [(180, 41, (0, 2, 1))], [])], [(180, 41, 41), (199, 25, 35)], [], [], [])
set_option maxRecDepth 100000 in
theorem syc_684 : CoOk GG MM syt_684 := chk_ok (cs := []) (F := 4000) (fun _ h => absurd h List.not_mem_nil) (by decide +kernel) (by decide +kernel)
/-- M.write -/
def syt_685 : CO := (294, 1, [(0, 0, 0, 0, 0, 0), ((-2147483648), 2147483647, 0, (-2147483648), 0, 2147483647), (26, 36, 0, 26, 0, 36)], [(2, 180, 0), (0, 1, 0)], [(180, 41, (0, 2, 0))], [(1, 1, 0), (2, 180, 41)], [(none, [(0, 0, 0, 0, 0, 0), ((-2147483648), 2147483647, 0, (-2147483648), 0, 2147483647), (26, 36, 0, 26, 0, 36)], [(180, 41, (0, 2, 1))], [])], [(180, 41, 41), (199, 26, 36)], [], [], [])
set_option maxRecDepth 100000 in
theorem syc_685 : CoOk GG MM syt_685 := chk_ok (cs := []) (F := 4000) (fun _ h => absurd h List.not_mem_nil) (by decide +kernel) (by decide +kernel)
/-- M.writeWord -/
def syt_686 : CO := (297, 2, [(0, 0, 0, 0, 0, 0), (23, 23, 0, 23, 0, 23), (26, 36, 0, 26, 0, 36)], [(2, 180, 0), (1, 1, 0)], [(180, 41, (0, 2, 0))], [(1, 1, 0), (2, 180, 41)], [(none, [(0, 0, 0, 0, 0, 0), (23, 23, 0, 23, 0, 23), (26, 36, 0, 26, 0, 36)], [(180, 41, (0, 2, 1))], [])], [(180, 41, 41), (199, 26, 36)], [], [], [])
set_option maxRecDepth 100000 in
theorem syc_686 : CoOk GG MM syt_686 := chk_ok (cs := [syt_685]) (F := 4000) (List.forall_mem_cons.mpr ⟨syc_685, fun _ h => absurd h List.not_mem_nil⟩) (by decide +kernel) (by decide +kernel)
/-- M.write -/
def syt_687 : CO := (294, 1, [(0, 0, 0, 0, 0, 0), ((-2147483648), 2147483647, 0, (-2147483648), 0, 2147483647), (27, 37, 0, 27, 0, 37)], [(2, 180, 0), (0, 1, 0)], [(180, 41, (0, 2, 0))], [(1, 1, 0), (2, 180, 41)], [(none, [(0, 0, 0, 0, 0, 0), ((-2147483648), 2147483647, 0, (-2147483648), 0, 2147483647), (27, 37, 0, 27, 0, 37)], [(180, 41, (0, 2, 1))], [])], [(180, 41, 41), (199, 27, 37)], [], [], [])
set_option maxRecDepth 100000 in
theorem syc_687 : CoOk GG MM syt_687 := chk_ok (cs := []) (F := 4000) (fun _ h => absurd h List.not_mem_nil) (by decide +kernel) (by decide +kernel)
/-- M.writeWord -/
def syt_688 : CO := (297, 3, [(0, 0, 0, 0, 0, 0), (626, 626, 0, 626, 0, 626), (26, 36, 0, 26, 0, 36)], [(2, 180, 0), (1, 1, 0)], [(180, 41, (0, 2, 0))], [(1, 1, 0), (2, 180, 41)], [(none, [(0, 0, 0, 0, 0, 0), (626, 626, 0, 626, 0, 626), (26, 36, 0, 26, 0, 36)], [(180, 41, (0, 2, 2))], [])], [(180, 41, 41), (199, 26, 37)], [], [], [])
set_option maxRecDepth 100000 in
theorem syc_688 : CoOk GG MM syt_688 := chk_ok (cs := [syt_687, syt_686]) (F := 4000) (List.forall_mem_cons.mpr ⟨syc_687, List.forall_mem_cons.mpr ⟨syc_686, fun _ h => absurd h List.not_mem_nil⟩⟩) (by decide +kernel) (by decide +kernel)
/-- M.write -/
def syt_689 : CO := (294, 1, [(0, 0, 0, 0, 0, 0), ((-2147483648), 2147483647, 0, (-2147483648), 0, 2147483647), (28, 38, 0, 28, 0, 38)], [(2, 180, 0), (0, 1, 0)], [(180, 41, (0, 2, 0))], [(1, 1, 0), (2, 180, 41)], [(none, [(0, 0, 0, 0, 0, 0), ((-2147483648), 2147483647, 0, (-2147483648), 0, 2147483647), (28, 38, 0, 28, 0, 38)], [(180, 41, (0, 2, 1))], [])], [(180, 41, 41), (199, 28, 38)], [], [], [])
set_option maxRecDepth 100000 in
theorem syc_689 : CoOk GG MM syt_689 := chk_ok (cs := []) (F := 4000) (fun _ h => absurd h List.not_mem_nil) (by decide +kernel) (by decide +kernel)
/-- M.writeWord -/
def syt_690 : CO := (297, 4, [(0, 0, 0, 0, 0, 0), (16906, 16906, 0, 16906, 0, 16906), (26, 36, 0, 26, 0, 36)], [(2, 180, 0), (1, 1, 0)], [(180, 41, (0, 2, 0))], [(1, 1, 0), (2, 180, 41)], [(none, [(0, 0, 0, 0, 0, 0), (16906, 16906, 0, 16906, 0, 16906), (26, 36, 0, 26, 0, 36)], [(180, 41, (0, 2, 3))], [])], [(180, 41, 41), (199, 26, 38)], [], [], [])
set_option maxRecDepth 100000 in
theorem syc_690 : CoOk GG MM syt_690 := chk_ok (cs := [syt_689, syt_688]) (F := 4000) (List.forall_mem_cons.mpr ⟨syc_689, List.forall_mem_cons.mpr ⟨syc_688, fun _ h => absurd h List.not_mem_nil⟩⟩) (by decide +kernel) (by decide +kernel)
/-- M.writeNext -/
def syt_691 : CO := (295, 5, [(0, 0, 0, 0, 0, 0), (16906, 16906, 0, 16906, 0, 16906), (25, 35, 0, 25, 0, 35)], [(2, 180, 0), (1, 1, 0)], [(180, 41, (0, 2, 0))], [(1, 1, 0), (2, 180, 41)], [(none, [(0, 0, 0, 0, 0, 0), (16906, 16906, 0, 16906, 0, 16906), (25, 35, 0, 25, 0, 35)], [(180, 41, (0, 2, 4))], [])], [(180, 41, 41), (199, 25, 38)], [], [], [])
set_option maxRecDepth 100000 in
theorem syc_691 : CoOk GG MM syt_691 := chk_ok (cs := [syt_684, syt_690]) (F := 4000) (List.forall_mem_cons.mpr ⟨syc_684, List.forall_mem_cons.mpr ⟨syc_690, fun _ h => absurd h List.not_mem_nil⟩⟩) (by decide +kernel) (by decide +kernel)
/-- M.write -/
def syt_692 : CO := (294, 1, [(0, 0, 0, 0, 0, 0), ((-2147483648), 2147483647, 0, (-2147483648), 0, 2147483647), (29, 39, 0, 29, 0, 39)], [(2, 180, 0), (0, 1, 0)], [(180, 41, (0, 2, 0))], [(1, 1, 0), (2, 180, 41)], [(none, [(0, 0, 0, 0, 0, 0), ((-2147483648), 2147483647, 0, (-2147483648), 0, 2147483647), (29, 39, 0, 29, 0, 39)], [(180, 41, (0, 2, 1))], [])], [(180, 41, 41), (199, 29, 39)], [], [], [])
set_option maxRecDepth 100000 in
theorem syc_692 : CoOk GG MM syt_692 := chk_ok (cs := []) (F := 4000) (fun _ h => absurd h List.not_mem_nil) (by decide +kernel) (by decide +kernel)
/-- M.write -/
def syt_693 : CO := (294, 1, [(0, 0, 0, 0, 0, 0), ((-2147483648), 2147483647, 0, (-2147483648), 0, 2147483647), (30, 40, 0, 30, 0, 40)], [(2, 180, 0), (0, 1, 0)], [(180, 41, (0, 2, 0))], [(1, 1, 0), (2, 180, 41)], [(none, [(0, 0, 0, 0, 0, 0), ((-2147483648), 2147483647, 0, (-2147483648), 0, 2147483647), (30, 40, 0, 30, 0, 40)], [(180, 41, (0, 2, 1))], [])], [(180, 41, 41), (199, 30, 40)], [], [], [])
set_option maxRecDepth 100000 in
theorem syc_693 : CoOk GG MM syt_693 := chk_ok (cs := []) (F := 4000) (fun _ h => absurd h List.not_mem_nil) (by decide +kernel) (by decide +kernel)
/-- M.writeWord -/
def syt_694 : CO := (297, 2, [(0, 0, 0, 0, 0, 0), (20, 20, 0, 20, 0, 20), (30, 40, 0, 30, 0, 40)], [(2, 180, 0), (1, 1, 0)], [(180, 41, (0, 2, 0))], [(1, 1, 0), (2, 180, 41)], [(none, [(0, 0, 0, 0, 0, 0), (20, 20, 0, 20, 0, 20), (30, 40, 0, 30, 0, 40)], [(180, 41, (0, 2, 1))], [])], [(180, 41, 41), (199, 30, 40)], [], [], [])
set_option maxRecDepth 100000 in
theorem syc_694 : CoOk GG MM syt_694 := chk_ok (cs := [syt_693]) (F := 4000) (List.forall_mem_cons.mpr ⟨syc_693, fun _ h => absurd h List.not_mem_nil⟩) (by decide +kernel) (by decide +kernel)
/-- M.write -/
def syt_695 : CO := (294, 1, [(0, 0, 0, 0, 0, 0), ((-2147483648), 2147483647, 0, (-2147483648), 0, 2147483647), (31, 41, 0, 31, 0, 41)], [(2, 180, 0), (0, 1, 0)], [(180, 41, (0, 2, 0))], [(1, 1, 0), (2, 180, 41)], [(none, [(0, 0, 0, 0, 0, 0), ((-2147483648), 2147483647, 0, (-2147483648), 0, 2147483647), (31, 41, 0, 31, 0, 41)], [(180, 41, (0, 2, 1))], [])], [(180, 41, 41), (199, 31, 41)], [], [], [])
set_option maxRecDepth 100000 in
theorem syc_695 : CoOk GG MM syt_695 := chk_ok (cs := []) (F := 4000) (fun _ h => absurd h List.not_mem_nil) (by decide +kernel) (by decide +kernel)
/-- M.writeWord -/
def syt_696 : CO := (297, 3, [(0, 0, 0, 0, 0, 0), (555, 555, 0, 555, 0, 555), (30, 40, 0, 30, 0, 40)], [(2, 180, 0), (1, 1, 0)], [(180, 41, (0, 2, 0))], [(1, 1, 0), (2, 180, 41)], [(none, [(0, 0, 0, 0, 0, 0), (555, 555, 0, 555, 0, 555), (30, 40, 0, 30, 0, 40)], [(180, 41, (0, 2, 2))], [])], [(180, 41, 41), (199, 30, 41)], [], [], [])
set_option maxRecDepth 100000 in
theorem syc_696 : CoOk GG MM syt_696 := chk_ok (cs := [syt_695, syt_694]) (F := 4000) (List.forall_mem_cons.mpr ⟨syc_695, List.forall_mem_cons.mpr ⟨syc_694, fun _ h => absurd h List.not_mem_nil⟩⟩) (by decide +kernel) (by decide +kernel)
/-- M.writeNext -/
def syt_697 : CO := (295, 4, [(0, 0, 0, 0, 0, 0), (555, 555, 0, 555, 0, 555), (29, 39, 0, 29, 0, 39)], [(2, 180, 0), (1, 1, 0)], [(180, 41, (0, 2, 0))], [(1, 1, 0), (2, 180, 41)], [(none, [(0, 0, 0, 0, 0, 0), (555, 555, 0, 555, 0, 555), (29, 39, 0, 29, 0, 39)], [(180, 41, (0, 2, 3))], [])], [(180, 41, 41), (199, 29, 41)], [], [], [])
set_option maxRecDepth 100000 in
theorem syc_697 : CoOk GG MM syt_697 := chk_ok (cs := [syt_692, syt_696]) (F := 4000) (List.forall_mem_cons.mpr ⟨syc_692, List.forall_mem_cons.mpr ⟨syc_696, fun _ h => absurd h List.not_mem_nil⟩⟩) (by decide +kernel) (by decide +kernel)
/-- M.write -/
def syt_698 : CO := (294, 1, [(0, 0, 0, 0, 0, 0), ((-2147483648), 2147483647, 0, (-2147483648), 0, 2147483647), (32, 42, 0, 32, 0, 42)], [(2, 180, 0), (0, 1, 0)], [(180, 41, (0, 2, 0))], [(1, 1, 0), (2, 180, 41)], [(none, [(0, 0, 0, 0, 0, 0), ((-2147483648), 2147483647, 0, (-2147483648), 0, 2147483647), (32, 42, 0, 32, 0, 42)], [(180, 41, (0, 2, 1))], [])], [(180, 41, 41), (199, 32, 42)], [], [], [])
set_option maxRecDepth 100000 in
theorem syc_698 : CoOk GG MM syt_698 := chk_ok (cs := []) (F := 4000) (fun _ h => absurd h List.not_mem_nil) (by decide +kernel) (by decide +kernel)
/-- M.write -/
def syt_699 : CO := (294, 1, [(0, 0, 0, 0, 0, 0), ((-2147483648), 2147483647, 0, (-2147483648), 0, 2147483647), (33, 43, 0, 33, 0, 43)], [(2, 180, 0), (0, 1, 0)], [(180, 41, (0, 2, 0))], [(1, 1, 0), (2, 180, 41)], [(none, [(0, 0, 0, 0, 0, 0), ((-2147483648), 2147483647, 0, (-2147483648), 0, 2147483647), (33, 43, 0, 33, 0, 43)], [(180, 41, (0, 2, 1))], [])], [(180, 41, 41), (199, 33, 43)], [], [], [])
set_option maxRecDepth 100000 in
theorem syc_699 : CoOk GG MM syt_699 := chk_ok (cs := []) (F := 4000) (fun _ h => absurd h List.not_mem_nil) (by decide +kernel) (by decide +kernel)
/-- M.writeWord -/
def syt_700 : CO := (297, 2, [(0, 0, 0, 0, 0, 0), (1, 26, 0, 1, 0, 26), (33, 43, 0, 33, 0, 43)], [(2, 180, 0), (1, 1, 0)], [(180, 41, (0, 2, 0))], [(1, 1, 0), (2, 180, 41)], [(none, [(0, 0, 0, 0, 0, 0), (1, 26, 0, 1, 0, 26), (33, 43, 0, 33, 0, 43)], [(180, 41, (0, 2, 1))], [])], [(180, 41, 41), (199, 33, 43)], [], [], [])
set_option maxRecDepth 100000 in
theorem syc_700 : CoOk GG MM syt_700 := chk_ok (cs := [syt_699]) (F := 4000) (List.forall_mem_cons.mpr ⟨syc_699, fun _ h => absurd h List.not_mem_nil⟩) (by decide +kernel) (by decide +kernel)
/-- M.write -/
def syt_701 : CO := (294, 1, [(0, 0, 0, 0, 0, 0), ((-2147483648), 2147483647, 0, (-2147483648), 0, 2147483647), (34, 44, 0, 34, 0, 44)], [(2, 180, 0), (0, 1, 0)], [(180, 41, (0, 2, 0))], [(1, 1, 0), (2, 180, 41)], [(none, [(0, 0, 0, 0, 0, 0), ((-2147483648), 2147483647, 0, (-2147483648), 0, 2147483647), (34, 44, 0, 34, 0, 44)], [(180, 41, (0, 2, 1))], [])], [(180, 41, 41), (199, 34, 44)], [], [], [])
set_option maxRecDepth 100000 in
theorem syc_701 : CoOk GG MM syt_701 := chk_ok (cs := []) (F := 4000) (fun _ h => absurd h List.not_mem_nil) (by decide +kernel) (by decide +kernel)
/-- M.writeWord -/
def syt_702 : CO := (297, 2, [(0, 0, 0, 0, 0, 0), (1, 1, 0, 1, 0, 1), (33, 43, 0, 33, 0, 43)], [(2, 180, 0), (1, 1, 0)], [(180, 41, (0, 2, 0))], [(1, 1, 0), (2, 180, 41)], [(none, [(0, 0, 0, 0, 0, 0), (1, 1, 0, 1, 0, 1), (33, 43, 0, 33, 0, 43)], [(180, 41, (0, 2, 1))], [])], [(180, 41, 41), (199, 33, 43)], [], [], [])
set_option maxRecDepth 100000 in
theorem syc_702 : CoOk GG MM syt_702 := chk_ok (cs := [syt_699]) (F := 4000) (List.forall_mem_cons.mpr ⟨syc_699, fun _ h => absurd h List.not_mem_nil⟩) (by decide +kernel) (by decide +kernel)
/-- M.writeWord -/
def syt_703 : CO := (297, 3, [(0, 0, 0, 0, 0, 0), (1, 728, 0, 1, 0, 728), (33, 43, 0, 33, 0, 43)], [(2, 180, 0), (1, 1, 0)], [(180, 41, (0, 2, 0))], [(1, 1, 0), (2, 180, 41)], [(none, [(0, 0, 0, 0, 0, 0), (1, 728, 0, 1, 0, 728), (33, 43, 0, 33, 0, 43), (34, 45, 2, 1, 0, 45)], [(180, 41, (0, 3, 0))], [(2, 180, 41)])], [(180, 41, 41), (199, 33, 44)], [], [], [])
set_option maxRecDepth 100000 in
theorem syc_703 : CoOk GG MM syt_703 := chk_ok (cs := [syt_699, syt_701, syt_702, syt_700]) (F := 4000) (List.forall_mem_cons.mpr ⟨syc_699, List.forall_mem_cons.mpr ⟨syc_701, List.forall_mem_cons.mpr ⟨syc_702, List.forall_mem_cons.mpr ⟨syc_700, fun _ h => absurd h List.not_mem_nil⟩⟩⟩⟩) (by decide +kernel) (by decide +kernel)
/-- M.write -/
def syt_704 : CO := (294, 1, [(0, 0, 0, 0, 0, 0), ((-2147483648), 2147483647, 0, (-2147483648), 0, 2147483647), (34, 45, 0, 34, 0, 45)], [(2, 180, 0), (0, 1, 0)], [(180, 41, (0, 2, 0))], [(1, 1, 0), (2, 180, 41)], [(none, [(0, 0, 0, 0, 0, 0), ((-2147483648), 2147483647, 0, (-2147483648), 0, 2147483647), (34, 45, 0, 34, 0, 45)], [(180, 41, (0, 2, 1))], [])], [(180, 41, 41), (199, 34, 45)], [], [], [])
set_option maxRecDepth 100000 in
theorem syc_704 : CoOk GG MM syt_704 := chk_ok (cs := []) (F := 4000) (fun _ h => absurd h List.not_mem_nil) (by decide +kernel) (by decide +kernel)
/-- M.writeWord -/
def syt_705 : CO := (297, 4, [(0, 0, 0, 0, 0, 0), (1, 19682, 0, 1, 0, 19682), (33, 43, 0, 33, 0, 43)], [(2, 180, 0), (1, 1, 0)], [(180, 41, (0, 2, 0))], [(1, 1, 0), (2, 180, 41)], [(none, [(0, 0, 0, 0, 0, 0), (1, 19682, 0, 1, 0, 19682), (33, 43, 0, 33, 0, 43), (34, 46, 2, 1, 0, 46)], [(180, 41, (0, 3, 0))], [(2, 180, 41)])], [(180, 41, 41), (199, 33, 45)], [], [], [])
set_option maxRecDepth 100000 in
theorem syc_705 : CoOk GG MM syt_705 := chk_ok (cs := [syt_699, syt_701, syt_704, syt_702, syt_703]) (F := 4000) (List.forall_mem_cons.mpr ⟨syc_699, List.forall_mem_cons.mpr ⟨syc_701, List.forall_mem_cons.mpr ⟨syc_704, List.forall_mem_cons.mpr ⟨syc_702, List.forall_mem_cons.mpr ⟨syc_703, fun _ h => absurd h List.not_mem_nil⟩⟩⟩⟩⟩) (by decide +kernel) (by decide +kernel)
/-- M.write -/
def syt_706 : CO := (294, 1, [(0, 0, 0, 0, 0, 0), ((-2147483648), 2147483647, 0, (-2147483648), 0, 2147483647), (34, 46, 0, 34, 0, 46)], [(2, 180, 0), (0, 1, 0)], [(180, 41, (0, 2, 0))], [(1, 1, 0), (2, 180, 41)], [(none, [(0, 0, 0, 0, 0, 0), ((-2147483648), 2147483647, 0, (-2147483648), 0, 2147483647), (34, 46, 0, 34, 0, 46)], [(180, 41, (0, 2, 1))], [])], [(180, 41, 41), (199, 34, 46)], [], [], [])
set_option maxRecDepth 100000 in
theorem syc_706 : CoOk GG MM syt_706 := chk_ok (cs := []) (F := 4000) (fun _ h => absurd h List.not_mem_nil) (by decide +kernel) (by decide +kernel)
/-- M.writeWord -/
def syt_707 : CO := (297, 5, [(0, 0, 0, 0, 0, 0), (1, 531440, 0, 1, 0, 531440), (33, 43, 0, 33, 0, 43)], [(2, 180, 0), (1, 1, 0)], [(180, 41, (0, 2, 0))], [(1, 1, 0), (2, 180, 41)], [(none, [(0, 0, 0, 0, 0, 0), (1, 531440, 0, 1, 0, 531440), (33, 43, 0, 33, 0, 43), (34, 47, 2, 1, 0, 47)], [(180, 41, (0, 3, 0))], [(2, 180, 41)])], [(180, 41, 41), (199, 33, 46)], [], [], [])
set_option maxRecDepth 100000 in
theorem syc_707 : CoOk GG MM syt_707 := chk_ok (cs := [syt_699, syt_701, syt_706, syt_702, syt_705]) (F := 4000) (List.forall_mem_cons.mpr ⟨syc_699, List.forall_mem_cons.mpr ⟨syc_701, List.forall_mem_cons.mpr ⟨syc_706, List.forall_mem_cons.mpr ⟨syc_702, List.forall_mem_cons.mpr ⟨syc_705, fun _ h => absurd h List.not_mem_nil⟩⟩⟩⟩⟩) (by decide +kernel) (by decide +kernel)
/-- M.write -/
def syt_708 : CO := (294, 1, [(0, 0, 0, 0, 0, 0), ((-2147483648), 2147483647, 0, (-2147483648), 0, 2147483647), (34, 47, 0, 34, 0, 47)], [(2, 180, 0), (0, 1, 0)], [(180, 41, (0, 2, 0))], [(1, 1, 0), (2, 180, 41)], [(none, [(0, 0, 0, 0, 0, 0), ((-2147483648), 2147483647, 0, (-2147483648), 0, 2147483647), (34, 47, 0, 34, 0, 47)], [(180, 41, (0, 2, 1))], [])], [(180, 41, 41), (199, 34, 47)], [], [], [])
set_option maxRecDepth 100000 in
theorem syc_708 : CoOk GG MM syt_708 := chk_ok (cs := []) (F := 4000) (fun _ h => absurd h List.not_mem_nil) (by decide +kernel) (by decide +kernel)
/-- M.writeWord -/
def syt_709 : CO := (297, 6, [(0, 0, 0, 0, 0, 0), (1, 14348906, 0, 1, 0, 14348906), (33, 43, 0, 33, 0, 43)], [(2, 180, 0), (1, 1, 0)], [(180, 41, (0, 2, 0))], [(1, 1, 0), (2, 180, 41)], [(none, [(0, 0, 0, 0, 0, 0), (1, 14348906, 0, 1, 0, 14348906), (33, 43, 0, 33, 0, 43), (34, 48, 2, 1, 0, 48)], [(180, 41, (0, 3, 0))], [(2, 180, 41)])], [(180, 41, 41), (199, 33, 47)], [], [], [])
set_option maxRecDepth 100000 in
theorem syc_709 : CoOk GG MM syt_709 := chk_ok (cs := [syt_699, syt_701, syt_708, syt_702, syt_707]) (F := 4000) (List.forall_mem_cons.mpr ⟨syc_699, List.forall_mem_cons.mpr ⟨syc_701, List.forall_mem_cons.mpr ⟨syc_708, List.forall_mem_cons.mpr ⟨syc_702, List.forall_mem_cons.mpr ⟨syc_707, fun _ h => absurd h List.not_mem_nil⟩⟩⟩⟩⟩) (by decide +kernel) (by decide +kernel)
/-- M.write -/
def syt_710 : CO := (294, 1, [(0, 0, 0, 0, 0, 0), ((-2147483648), 2147483647, 0, (-2147483648), 0, 2147483647), (34, 48, 0, 34, 0, 48)], [(2, 180, 0), (0, 1, 0)], [(180, 41, (0, 2, 0))], [(1, 1, 0), (2, 180, 41)], [(none, [(0, 0, 0, 0, 0, 0), ((-2147483648), 2147483647, 0, (-2147483648), 0, 2147483647), (34, 48, 0, 34, 0, 48)], [(180, 41, (0, 2, 1))], [])], [(180, 41, 41), (199, 34, 48)], [], [], [])
set_option maxRecDepth 100000 in
theorem syc_710 : CoOk GG MM syt_710 := chk_ok (cs := []) (F := 4000) (fun _ h => absurd h List.not_mem_nil) (by decide +kernel) (by decide +kernel)
/-- M.writeWord -/
def syt_711 : CO := (297, 7, [(0, 0, 0, 0, 0, 0), (1, 387420488, 0, 1, 0, 387420488), (33, 43, 0, 33, 0, 43)], [(2, 180, 0), (1, 1, 0)], [(180, 41, (0, 2, 0))], [(1, 1, 0), (2, 180, 41)], [(none, [(0, 0, 0, 0, 0, 0), (1, 387420488, 0, 1, 0, 387420488), (33, 43, 0, 33, 0, 43), (34, 49, 2, 1, 0, 49)], [(180, 41, (0, 3, 0))], [(2, 180, 41)])], [(180, 41, 41), (199, 33, 48)], [], [], [])
set_option maxRecDepth 100000 in
theorem syc_711 : CoOk GG MM syt_711 := chk_ok (cs := [syt_699, syt_701, syt_710, syt_702, syt_709]) (F := 4000) (List.forall_mem_cons.mpr ⟨syc_699, List.forall_mem_cons.mpr ⟨syc_701, List.forall_mem_cons.mpr ⟨syc_710, List.forall_mem_cons.mpr ⟨syc_702, List.forall_mem_cons.mpr ⟨syc_709, fun _ h => absurd h List.not_mem_nil⟩⟩⟩⟩⟩) (by decide +kernel) (by decide +kernel)
/-- M.write -/
def syt_712 : CO := (294, 1, [(0, 0, 0, 0, 0, 0), ((-2147483648), 2147483647, 0, (-2147483648), 0, 2147483647), (34, 49, 0, 34, 0, 49)], [(2, 180, 0), (0, 1, 0)], [(180, 41, (0, 2, 0))], [(1, 1, 0), (2, 180, 41)], [(none, [(0, 0, 0, 0, 0, 0), ((-2147483648), 2147483647, 0, (-2147483648), 0, 2147483647), (34, 49, 0, 34, 0, 49)], [(180, 41, (0, 2, 1))], [])], [(180, 41, 41), (199, 34, 49)], [], [], [])
set_option maxRecDepth 100000 in
theorem syc_712 : CoOk GG MM syt_712 := chk_ok (cs := []) (F := 4000) (fun _ h => absurd h List.not_mem_nil) (by decide +kernel) (by decide +kernel)
/-- M.writeWord -/
def syt_713 : CO := (297, 8, [(0, 0, 0, 0, 0, 0), (1, 10460353202, 0, 1, 0, 10460353202), (33, 43, 0, 33, 0, 43)], [(2, 180, 0), (1, 1, 0)], [(180, 41, (0, 2, 0))], [(1, 1, 0), (2, 180, 41)], [(none, [(0, 0, 0, 0, 0, 0), (1, 10460353202, 0, 1, 0, 10460353202), (33, 43, 0, 33, 0, 43), (34, 50, 2, 1, 0, 50)], [(180, 41, (0, 3, 0))], [(2, 180, 41)])], [(180, 41, 41), (199, 33, 49)], [], [], [])
set_option maxRecDepth 100000 in
theorem syc_713 : CoOk GG MM syt_713 := chk_ok (cs := [syt_699, syt_701, syt_712, syt_702, syt_711]) (F := 4000) (List.forall_mem_cons.mpr ⟨syc_699, List.forall_mem_cons.mpr ⟨syc_701, List.forall_mem_cons.mpr ⟨syc_712, List.forall_mem_cons.mpr ⟨syc_702, List.forall_mem_cons.mpr ⟨syc_711, fun _ h => absurd h List.not_mem_nil⟩⟩⟩⟩⟩) (by decide +kernel) (by decide +kernel)
/-- M.write -/
def syt_714 : CO := (294, 1, [(0, 0, 0, 0, 0, 0), ((-2147483648), 2147483647, 0, (-2147483648), 0, 2147483647), (34, 50, 0, 34, 0, 50)], [(2, 180, 0), (0, 1, 0)], [(180, 41, (0, 2, 0))], [(1, 1, 0), (2, 180, 41)], [(none, [(0, 0, 0, 0, 0, 0), ((-2147483648), 2147483647, 0, (-2147483648), 0, 2147483647), (34, 50, 0, 34, 0, 50)], [(180, 41, (0, 2, 1))], [])], [(180, 41, 41), (199, 34, 50)], [], [], [])
set_option maxRecDepth 100000 in
theorem syc_714 : CoOk GG MM syt_714 := chk_ok (cs := []) (F := 4000) (fun _ h => absurd h List.not_mem_nil) (by decide +kernel) (by decide +kernel)
/-- M.writeWord -/
def syt_715 : CO := (297, 9, [(0, 0, 0, 0, 0, 0), ((-9223372036854775808), 282429536480, 0, (-9223372036854775808), 0, 282429536480), (33, 43, 0, 33, 0, 43)], [(2, 180, 0), (1, 1, 0)], [(180, 41, (0, 2, 0))], [(1, 1, 0), (2, 180, 41)], [(none, [(0, 0, 0, 0, 0, 0), ((-9223372036854775808), 282429536480, 0, (-9223372036854775808), 0, 282429536480), (33, 43, 0, 33, 0, 43), (34, 51, 2, 1, 0, 51)], [(180, 41, (0, 3, 0))], [(2, 180, 41)])], [(180, 41, 41), (199, 33, 50)], [], [], [])
set_option maxRecDepth 100000 in
theorem syc_715 : CoOk GG MM syt_715 := chk_ok (cs := [syt_699, syt_701, syt_714, syt_702, syt_713]) (F := 4000) (List.forall_mem_cons.mpr ⟨syc_699, List.forall_mem_cons.mpr ⟨syc_701, List.forall_mem_cons.mpr ⟨syc_714, List.forall_mem_cons.mpr ⟨syc_702, List.forall_mem_cons.mpr ⟨syc_713, fun _ h => absurd h List.not_mem_nil⟩⟩⟩⟩⟩) (by decide +kernel) (by decide +kernel)
/-- M.writeNext -/
def syt_716 : CO := (295, 10, [(0, 0, 0, 0, 0, 0), ((-9223372036854775808), 282429536480, 0, (-9223372036854775808), 0, 282429536480), (32, 42, 0, 32, 0, 42)], [(2, 180, 0), (1, 1, 0)], [(180, 41, (0, 2, 0))], [(1, 1, 0), (2, 180, 41)], [(none, [(0, 0, 0, 0, 0, 0), ((-9223372036854775808), 282429536480, 0, (-9223372036854775808), 0, 282429536480), (32, 42, 0, 32, 0, 42), (34, 51, 2, 2, 0, 51)], [(180, 41, (0, 3, 0))], [(2, 180, 41)])], [(180, 41, 41), (199, 32, 50)], [], [], [])
set_option maxRecDepth 100000 in
theorem syc_716 : CoOk GG MM syt_716 := chk_ok (cs := [syt_698, syt_715]) (F := 4000) (List.forall_mem_cons.mpr ⟨syc_698, List.forall_mem_cons.mpr ⟨syc_715, fun _ h => absurd h List.not_mem_nil⟩⟩) (by decide +kernel) (by decide +kernel)
/-- M.writeWord -/
def syt_717 : CO := (297, 2, [(0, 0, 0, 0, 0, 0), (23, 23, 0, 23, 0, 23), (19, 29, 0, 19, 0, 29)], [(2, 180, 0), (1, 1, 0)], [(180, 41, (0, 2, 0))], [(1, 1, 0), (2, 180, 41)], [(none, [(0, 0, 0, 0, 0, 0), (23, 23, 0, 23, 0, 23), (19, 29, 0, 19, 0, 29)], [(180, 41, (0, 2, 1))], [])], [(180, 41, 41), (199, 19, 29)], [], [], [])
set_option maxRecDepth 100000 in
theorem syc_717 : CoOk GG MM syt_717 := chk_ok (cs := [syt_672]) (F := 4000) (List.forall_mem_cons.mpr ⟨syc_672, fun _ h => absurd h List.not_mem_nil⟩) (by decide +kernel) (by decide +kernel)
/-- M.writeWord -/
def syt_718 : CO := (297, 3, [(0, 0, 0, 0, 0, 0), (626, 626, 0, 626, 0, 626), (19, 29, 0, 19, 0, 29)], [(2, 180, 0), (1, 1, 0)], [(180, 41, (0, 2, 0))], [(1, 1, 0), (2, 180, 41)], [(none, [(0, 0, 0, 0, 0, 0), (626, 626, 0, 626, 0, 626), (19, 29, 0, 19, 0, 29)], [(180, 41, (0, 2, 2))], [])], [(180, 41, 41), (199, 19, 30)], [], [], [])
set_option maxRecDepth 100000 in
theorem syc_718 : CoOk GG MM syt_718 := chk_ok (cs := [syt_674, syt_717]) (F := 4000) (List.forall_mem_cons.mpr ⟨syc_674, List.forall_mem_cons.mpr ⟨syc_717, fun _ h => absurd h List.not_mem_nil⟩⟩) (by decide +kernel) (by decide +kernel)
/-- M.writeWord -/
def syt_719 : CO := (297, 4, [(0, 0, 0, 0, 0, 0), (16906, 16906, 0, 16906, 0, 16906), (19, 29, 0, 19, 0, 29)], [(2, 180, 0), (1, 1, 0)], [(180, 41, (0, 2, 0))], [(1, 1, 0), (2, 180, 41)], [(none, [(0, 0, 0, 0, 0, 0), (16906, 16906, 0, 16906, 0, 16906), (19, 29, 0, 19, 0, 29)], [(180, 41, (0, 2, 3))], [])], [(180, 41, 41), (199, 19, 31)], [], [], [])
set_option maxRecDepth 100000 in
theorem syc_719 : CoOk GG MM syt_719 := chk_ok (cs := [syt_676, syt_718]) (F := 4000) (List.forall_mem_cons.mpr ⟨syc_676, List.forall_mem_cons.mpr ⟨syc_718, fun _ h => absurd h List.not_mem_nil⟩⟩) (by decide +kernel) (by decide +kernel)
/-- M.writeNext -/
def syt_720 : CO := (295, 5, [(0, 0, 0, 0, 0, 0), (16906, 16906, 0, 16906, 0, 16906), (18, 28, 0, 18, 0, 28)], [(2, 180, 0), (1, 1, 0)], [(180, 41, (0, 2, 0))], [(1, 1, 0), (2, 180, 41)], [(none, [(0, 0, 0, 0, 0, 0), (16906, 16906, 0, 16906, 0, 16906), (18, 28, 0, 18, 0, 28)], [(180, 41, (0, 2, 4))], [])], [(180, 41, 41), (199, 18, 31)], [], [], [])
set_option maxRecDepth 100000 in
theorem syc_720 : CoOk GG MM syt_720 := chk_ok (cs := [syt_671, syt_719]) (F := 4000) (List.forall_mem_cons.mpr ⟨syc_671, List.forall_mem_cons.mpr ⟨syc_719, fun _ h => absurd h List.not_mem_nil⟩⟩) (by decide +kernel) (by decide +kernel)
/-- M.writeWord -/
def syt_721 : CO := (297, 2, [(0, 0, 0, 0, 0, 0), (20, 20, 0, 20, 0, 20), (23, 33, 0, 23, 0, 33)], [(2, 180, 0), (1, 1, 0)], [(180, 41, (0, 2, 0))], [(1, 1, 0), (2, 180, 41)], [(none, [(0, 0, 0, 0, 0, 0), (20, 20, 0, 20, 0, 20), (23, 33, 0, 23, 0, 33)], [(180, 41, (0, 2, 1))], [])], [(180, 41, 41), (199, 23, 33)], [], [], [])
set_option maxRecDepth 100000 in
theorem syc_721 : CoOk GG MM syt_721 := chk_ok (cs := [syt_680]) (F := 4000) (List.forall_mem_cons.mpr ⟨syc_680, fun _ h => absurd h List.not_mem_nil⟩) (by decide +kernel) (by decide +kernel)
/-- M.writeWord -/
def syt_722 : CO := (297, 3, [(0, 0, 0, 0, 0, 0), (555, 555, 0, 555, 0, 555), (23, 33, 0, 23, 0, 33)], [(2, 180, 0), (1, 1, 0)], [(180, 41, (0, 2, 0))], [(1, 1, 0), (2, 180, 41)], [(none, [(0, 0, 0, 0, 0, 0), (555, 555, 0, 555, 0, 555), (23, 33, 0, 23, 0, 33)], [(180, 41, (0, 2, 2))], [])], [(180, 41, 41), (199, 23, 34)], [], [], [])
set_option maxRecDepth 100000 in
theorem syc_722 : CoOk GG MM syt_722 := chk_ok (cs := [syt_624, syt_721]) (F := 4000) (List.forall_mem_cons.mpr ⟨syc_624, List.forall_mem_cons.mpr ⟨syc_721, fun _ h => absurd h List.not_mem_nil⟩⟩) (by decide +kernel) (by decide +kernel)
/-- M.writeNext -/
def syt_723 : CO := (295, 4, [(0, 0, 0, 0, 0, 0), (555, 555, 0, 555, 0, 555), (22, 32, 0, 22, 0, 32)], [(2, 180, 0), (1, 1, 0)], [(180, 41, (0, 2, 0))], [(1, 1, 0), (2, 180, 41)], [(none, [(0, 0, 0, 0, 0, 0), (555, 555, 0, 555, 0, 555), (22, 32, 0, 22, 0, 32)], [(180, 41, (0, 2, 3))], [])], [(180, 41, 41), (199, 22, 34)], [], [], [])
set_option maxRecDepth 100000 in
theorem syc_723 : CoOk GG MM syt_723 := chk_ok (cs := [syt_678, syt_722]) (F := 4000) (List.forall_mem_cons.mpr ⟨syc_678, List.forall_mem_cons.mpr ⟨syc_722, fun _ h => absurd h List.not_mem_nil⟩⟩) (by decide +kernel) (by decide +kernel)
/-- M.writeWord -/
def syt_724 : CO := (297, 2, [(0, 0, 0, 0, 0, 0), (1, 26, 0, 1, 0, 26), (26, 36, 0, 26, 0, 36)], [(2, 180, 0), (1, 1, 0)], [(180, 41, (0, 2, 0))], [(1, 1, 0), (2, 180, 41)], [(none, [(0, 0, 0, 0, 0, 0), (1, 26, 0, 1, 0, 26), (26, 36, 0, 26, 0, 36)], [(180, 41, (0, 2, 1))], [])], [(180, 41, 41), (199, 26, 36)], [], [], [])
set_option maxRecDepth 100000 in
theorem syc_724 : CoOk GG MM syt_724 := chk_ok (cs := [syt_685]) (F := 4000) (List.forall_mem_cons.mpr ⟨syc_685, fun _ h => absurd h List.not_mem_nil⟩) (by decide +kernel) (by decide +kernel)
/-- M.writeWord -/
def syt_725 : CO := (297, 2, [(0, 0, 0, 0, 0, 0), (1, 1, 0, 1, 0, 1), (26, 36, 0, 26, 0, 36)], [(2, 180, 0), (1, 1, 0)], [(180, 41, (0, 2, 0))], [(1, 1, 0), (2, 180, 41)], [(none, [(0, 0, 0, 0, 0, 0), (1, 1, 0, 1, 0, 1), (26, 36, 0, 26, 0, 36)], [(180, 41, (0, 2, 1))], [])], [(180, 41, 41), (199, 26, 36)], [], [], [])
set_option maxRecDepth 100000 in
theorem syc_725 : CoOk GG MM syt_725 := chk_ok (cs := [syt_685]) (F := 4000) (List.forall_mem_cons.mpr ⟨syc_685, fun _ h => absurd h List.not_mem_nil⟩) (by decide +kernel) (by decide +kernel)
/-- M.writeWord -/
def syt_726 : CO := (297, 3, [(0, 0, 0, 0, 0, 0), (1, 728, 0, 1, 0, 728), (26, 36, 0, 26, 0, 36)], [(2, 180, 0), (1, 1, 0)], [(180, 41, (0, 2, 0))], [(1, 1, 0), (2, 180, 41)], [(none, [(0, 0, 0, 0, 0, 0), (1, 728, 0, 1, 0, 728), (26, 36, 0, 26, 0, 36), (27, 38, 2, 1, 0, 38)], [(180, 41, (0, 3, 0))], [(2, 180, 41)])], [(180, 41, 41), (199, 26, 37)], [], [], [])
set_option maxRecDepth 100000 in
theorem syc_726 : CoOk GG MM syt_726 := chk_ok (cs := [syt_685, syt_687, syt_725, syt_724]) (F := 4000) (List.forall_mem_cons.mpr ⟨syc_685, List.forall_mem_cons.mpr ⟨syc_687, List.forall_mem_cons.mpr ⟨syc_725, List.forall_mem_cons.mpr ⟨syc_724, fun _ h => absurd h List.not_mem_nil⟩⟩⟩⟩) (by decide +kernel) (by decide +kernel)
/-- M.write -/
def syt_727 : CO := (294, 1, [(0, 0, 0, 0, 0, 0), ((-2147483648), 2147483647, 0, (-2147483648), 0, 2147483647), (27, 38, 0, 27, 0, 38)], [(2, 180, 0), (0, 1, 0)], [(180, 41, (0, 2, 0))], [(1, 1, 0), (2, 180, 41)], [(none, [(0, 0, 0, 0, 0, 0), ((-2147483648), 2147483647, 0, (-2147483648), 0, 2147483647), (27, 38, 0, 27, 0, 38)], [(180, 41, (0, 2, 1))], [])], [(180, 41, 41), (199, 27, 38)], [], [], [])
set_option maxRecDepth 100000 in
theorem syc_727 : CoOk GG MM syt_727 := chk_ok (cs := []) (F := 4000) (fun _ h => absurd h List.not_mem_nil) (by decide +kernel) (by decide +kernel)
/-- M.writeWord -/
def syt_728 : CO := (297, 4, [(0, 0, 0, 0, 0, 0), (1, 19682, 0, 1, 0, 19682), (26, 36, 0, 26, 0, 36)], [(2, 180, 0), (1, 1, 0)], [(180, 41, (0, 2, 0))], [(1, 1, 0), (2, 180, 41)], [(none, [(0, 0, 0, 0, 0, 0), (1, 19682, 0, 1, 0, 19682), (26, 36, 0, 26, 0, 36), (27, 39, 2, 1, 0, 39)], [(180, 41, (0, 3, 0))], [(2, 180, 41)])], [(180, 41, 41), (199, 26, 38)], [], [], [])
set_option maxRecDepth 100000 in
theorem syc_728 : CoOk GG MM syt_728 := chk_ok (cs := [syt_685, syt_687, syt_727, syt_725, syt_726]) (F := 4000) (List.forall_mem_cons.mpr ⟨syc_685, List.forall_mem_cons.mpr ⟨syc_687, List.forall_mem_cons.mpr ⟨syc_727, List.forall_mem_cons.mpr ⟨syc_725, List.forall_mem_cons.mpr ⟨syc_726, fun _ h => absurd h List.not_mem_nil⟩⟩⟩⟩⟩) (by decide +kernel) (by decide +kernel)
/-- M.write -/
def syt_729 : CO := (294, 1, [(0, 0, 0, 0, 0, 0), ((-2147483648), 2147483647, 0, (-2147483648), 0, 2147483647), (27, 39, 0, 27, 0, 39)], [(2, 180, 0), (0, 1, 0)], [(180, 41, (0, 2, 0))], [(1, 1, 0), (2, 180, 41)], [(none, [(0, 0, 0, 0, 0, 0), ((-2147483648), 2147483647, 0, (-2147483648), 0, 2147483647), (27, 39, 0, 27, 0, 39)], [(180, 41, (0, 2, 1))], [])], [(180, 41, 41), (199, 27, 39)], [], [], [])
set_option maxRecDepth 100000 in
theorem syc_729 : CoOk GG MM syt_729 := chk_ok (cs := []) (F := 4000) (fun _ h => absurd h List.not_mem_nil) (by decide +kernel) (by decide +kernel)
/-- M.writeWord -/
def syt_730 : CO := (297, 5, [(0, 0, 0, 0, 0, 0), (1, 531440, 0, 1, 0, 531440), (26, 36, 0, 26, 0, 36)], [(2, 180, 0), (1, 1, 0)], [(180, 41, (0, 2, 0))], [(1, 1, 0), (2, 180, 41)], [(none, [(0, 0, 0, 0, 0, 0), (1, 531440, 0, 1, 0, 531440), (26, 36, 0, 26, 0, 36), (27, 40, 2, 1, 0, 40)], [(180, 41, (0, 3, 0))], [(2, 180, 41)])], [(180, 41, 41), (199, 26, 39)], [], [], [])
set_option maxRecDepth 100000 in
theorem syc_730 : CoOk GG MM syt_730 := chk_ok (cs := [syt_685, syt_687, syt_729, syt_725, syt_728]) (F := 4000) (List.forall_mem_cons.mpr ⟨syc_685, List.forall_mem_cons.mpr ⟨syc_687, List.forall_mem_cons.mpr ⟨syc_729, List.forall_mem_cons.mpr ⟨syc_725, List.forall_mem_cons.mpr ⟨syc_728, fun _ h => absurd h List.not_mem_nil⟩⟩⟩⟩⟩) (by decide +kernel) (by decide +kernel)
/-- M.write -/
def syt_731 : CO := (294, 1, [(0, 0, 0, 0, 0, 0), ((-2147483648), 2147483647, 0, (-2147483648), 0, 2147483647), (27, 40, 0, 27, 0, 40)], [(2, 180, 0), (0, 1, 0)], [(180, 41, (0, 2, 0))], [(1, 1, 0), (2, 180, 41)], [(none, [(0, 0, 0, 0, 0, 0), ((-2147483648), 2147483647, 0, (-2147483648), 0, 2147483647), (27, 40, 0, 27, 0, 40)], [(180, 41, (0, 2, 1))], [])], [(180, 41, 41), (199, 27, 40)], [], [], [])
set_option maxRecDepth 100000 in
theorem syc_731 : CoOk GG MM syt_731 := chk_ok (cs := []) (F := 4000) (fun _ h => absurd h List.not_mem_nil) (by decide +kernel) (by decide +kernel)
/-- M.writeWord -/
def syt_732 : CO := (297, 6, [(0, 0, 0, 0, 0, 0), (1, 14348906, 0, 1, 0, 14348906), (26, 36, 0, 26, 0, 36)], [(2, 180, 0), (1, 1, 0)], [(180, 41, (0, 2, 0))], [(1, 1, 0), (2, 180, 41)], [(none, [(0, 0, 0, 0, 0, 0), (1, 14348906, 0, 1, 0, 14348906), (26, 36, 0, 26, 0, 36), (27, 41, 2, 1, 0, 41)], [(180, 41, (0, 3, 0))], [(2, 180, 41)])], [(180, 41, 41), (199, 26, 40)], [], [], [])
set_option maxRecDepth 100000 in
theorem syc_732 : CoOk GG MM syt_732 := chk_ok (cs := [syt_685, syt_687, syt_731, syt_725, syt_730]) (F := 4000) (List.forall_mem_cons.mpr ⟨syc_685, List.forall_mem_cons.mpr ⟨syc_687, List.forall_mem_cons.mpr ⟨syc_731, List.forall_mem_cons.mpr ⟨syc_725, List.forall_mem_cons.mpr ⟨syc_730, fun _ h => absurd h List.not_mem_nil⟩⟩⟩⟩⟩) (by decide +kernel) (by decide +kernel)
/-- M.write -/
def syt_733 : CO := (294, 1, [(0, 0, 0, 0, 0, 0), ((-2147483648), 2147483647, 0, (-2147483648), 0, 2147483647), (27, 41, 0, 27, 0, 41)], [(2, 180, 0), (0, 1, 0)], [(180, 41, (0, 2, 0))], [(1, 1, 0), (2, 180, 41)], [(none, [(0, 0, 0, 0, 0, 0), ((-2147483648), 2147483647, 0, (-2147483648), 0, 2147483647), (27, 41, 0, 27, 0, 41)], [(180, 41, (0, 2, 1))], [])], [(180, 41, 41), (199, 27, 41)], [], [], [])
set_option maxRecDepth 100000 in
theorem syc_733 : CoOk GG MM syt_733 := chk_ok (cs := []) (F := 4000) (fun _ h => absurd h List.not_mem_nil) (by decide +kernel) (by decide +kernel)
/-- M.writeWord -/
def syt_734 : CO := (297, 7, [(0, 0, 0, 0, 0, 0), (1, 387420488, 0, 1, 0, 387420488), (26, 36, 0, 26, 0, 36)], [(2, 180, 0), (1, 1, 0)], [(180, 41, (0, 2, 0))], [(1, 1, 0), (2, 180, 41)], [(none, [(0, 0, 0, 0, 0, 0), (1, 387420488, 0, 1, 0, 387420488), (26, 36, 0, 26, 0, 36), (27, 42, 2, 1, 0, 42)], [(180, 41, (0, 3, 0))], [(2, 180, 41)])], [(180, 41, 41), (199, 26, 41)], [], [], [])
set_option maxRecDepth 100000 in
theorem syc_734 : CoOk GG MM syt_734 := chk_ok (cs := [syt_685, syt_687, syt_733, syt_725, syt_732]) (F := 4000) (List.forall_mem_cons.mpr ⟨syc_685, List.forall_mem_cons.mpr ⟨syc_687, List.forall_mem_cons.mpr ⟨syc_733, List.forall_mem_cons.mpr ⟨syc_725, List.forall_mem_cons.mpr ⟨syc_732, fun _ h => absurd h List.not_mem_nil⟩⟩⟩⟩⟩) (by decide +kernel) (by decide +kernel)
/-- M.write -/
def syt_735 : CO := (294, 1, [(0, 0, 0, 0, 0, 0), ((-2147483648), 2147483647, 0, (-2147483648), 0, 2147483647), (27, 42, 0, 27, 0, 42)], [(2, 180, 0), (0, 1, 0)], [(180, 41, (0, 2, 0))], [(1, 1, 0), (2, 180, 41)], [(none, [(0, 0, 0, 0, 0, 0), ((-2147483648), 2147483647, 0, (-2147483648), 0, 2147483647), (27, 42, 0, 27, 0, 42)], [(180, 41, (0, 2, 1))], [])], [(180, 41, 41), (199, 27, 42)], [], [], [])
set_option maxRecDepth 100000 in
theorem syc_735 : CoOk GG MM syt_735 := chk_ok (cs := []) (F := 4000) (fun _ h => absurd h List.not_mem_nil) (by decide +kernel) (by decide +kernel)
/-- M.writeWord -/
def syt_736 : CO := (297, 8, [(0, 0, 0, 0, 0, 0), (1, 10460353202, 0, 1, 0, 10460353202), (26, 36, 0, 26, 0, 36)], [(2, 180, 0), (1, 1, 0)], [(180, 41, (0, 2, 0))], [(1, 1, 0), (2, 180, 41)], [(none, [(0, 0, 0, 0, 0, 0), (1, 10460353202, 0, 1, 0, 10460353202), (26, 36, 0, 26, 0, 36), (27, 43, 2, 1, 0, 43)], [(180, 41, (0, 3, 0))], [(2, 180, 41)])], [(180, 41, 41), (199, 26, 42)], [], [], [])
set_option maxRecDepth 100000 in
theorem syc_736 : CoOk GG MM syt_736 := chk_ok (cs := [syt_685, syt_687, syt_735, syt_725, syt_734]) (F := 4000) (List.forall_mem_cons.mpr ⟨syc_685, List.forall_mem_cons.mpr ⟨syc_687, List.forall_mem_cons.mpr ⟨syc_735, List.forall_mem_cons.mpr ⟨syc_725, List.forall_mem_cons.mpr ⟨syc_734, fun _ h => absurd h List.not_mem_nil⟩⟩⟩⟩⟩) (by decide +kernel) (by decide +kernel)
/-- M.write -/
def syt_737 : CO := (294, 1, [(0, 0, 0, 0, 0, 0), ((-2147483648), 2147483647, 0, (-2147483648), 0, 2147483647), (27, 43, 0, 27, 0, 43)], [(2, 180, 0), (0, 1, 0)], [(180, 41, (0, 2, 0))], [(1, 1, 0), (2, 180, 41)], [(none, [(0, 0, 0, 0, 0, 0), ((-2147483648), 2147483647, 0, (-2147483648), 0, 2147483647), (27, 43, 0, 27, 0, 43)], [(180, 41, (0, 2, 1))], [])], [(180, 41, 41), (199, 27, 43)], [], [], [])
set_option maxRecDepth 100000 in
theorem syc_737 : CoOk GG MM syt_737 := chk_ok (cs := []) (F := 4000) (fun _ h => absurd h List.not_mem_nil) (by decide +kernel) (by decide +kernel)
/-- M.writeWord -/
def syt_738 : CO := (297, 9, [(0, 0, 0, 0, 0, 0), ((-9223372036854775808), 282429536480, 0, (-9223372036854775808), 0, 282429536480), (26, 36, 0, 26, 0, 36)], [(2, 180, 0), (1, 1, 0)], [(180, 41, (0, 2, 0))], [(1, 1, 0), (2, 180, 41)], [(none, [(0, 0, 0, 0, 0, 0), ((-9223372036854775808), 282429536480, 0, (-9223372036854775808), 0, 282429536480), (26, 36, 0, 26, 0, 36), (27, 44, 2, 1, 0, 44)], [(180, 41, (0, 3, 0))], [(2, 180, 41)])], [(180, 41, 41), (199, 26, 43)], [], [], [])
set_option maxRecDepth 100000 in
theorem syc_738 : CoOk GG MM syt_738 := chk_ok (cs := [syt_685, syt_687, syt_737, syt_725, syt_736]) (F := 4000) (List.forall_mem_cons.mpr ⟨syc_685, List.forall_mem_cons.mpr ⟨syc_687, List.forall_mem_cons.mpr ⟨syc_737, List.forall_mem_cons.mpr ⟨syc_725, List.forall_mem_cons.mpr ⟨syc_736, fun _ h => absurd h List.not_mem_nil⟩⟩⟩⟩⟩) (by decide +kernel) (by decide +kernel)
/-- M.writeNext -/
def syt_739 : CO := (295, 10, [(0, 0, 0, 0, 0, 0), ((-9223372036854775808), 282429536480, 0, (-9223372036854775808), 0, 282429536480), (25, 35, 0, 25, 0, 35)], [(2, 180, 0), (1, 1, 0)], [(180, 41, (0, 2, 0))], [(1, 1, 0), (2, 180, 41)], [(none, [(0, 0, 0, 0, 0, 0), ((-9223372036854775808), 282429536480, 0, (-9223372036854775808), 0, 282429536480), (25, 35, 0, 25, 0, 35), (27, 44, 2, 2, 0, 44)], [(180, 41, (0, 3, 0))], [(2, 180, 41)])], [(180, 41, 41), (199, 25, 43)], [], [], [])
set_option maxRecDepth 100000 in
theorem syc_739 : CoOk GG MM syt_739 := chk_ok (cs := [syt_684, syt_738]) (F := 4000) (List.forall_mem_cons.mpr ⟨syc_684, List.forall_mem_cons.mpr ⟨syc_738, fun _ h => absurd h List.not_mem_nil⟩⟩) (by decide +kernel) (by decide +kernel)
/-- M.slip -/
def syt_740 : CO := (277, 11, [(0, 0, 0, 0, 0, 0), ((-2147483648), 2147483647, 0, (-2147483648), 0, 2147483647)], [(2, 180, 0), (0, 1, 0)], [], [(1, 1, 0)], [(some (0, 4, 0), [(0, 0, 0, 0, 0, 0), ((-2147483648), 2147483647, 0, (-2147483648), 0, 2147483647), (8, 59, 0, 8, 0, 59), (1, 7, 0, 1, 0, 7), (8, 59, 0, 8, 0, 59)], [(180, 41, (0, 2, 0)), (182, 0, (0, 3, 0))], [(2, 180, 41), (2, 182, 0), (1, 0, 0)]), (some (0, 0, (-1)), [(0, 0, 0, 0, 0, 0), ((-2147483648), 2147483647, 0, (-2147483648), 0, 2147483647)], [], [])], [(180, 0, 0), (180, 41, 41), (199, 0, 50)], [], [], [])
set_option maxRecDepth 100000 in
theorem syc_740 : CoOk GG MM syt_740 := chk_ok (cs := [syt_224, syt_222, syt_215, syt_256, syt_660, syt_91, syt_121, syt_123, syt_129, syt_131, syt_583, syt_605, syt_582, syt_603, syt_611, syt_617, syt_640, syt_643, syt_663, syt_668, syt_683, syt_691, syt_697, syt_720, syt_723, syt_636, syt_659, syt_716, syt_739, syt_670, syt_589, syt_572]) (F := 4000) (List.forall_mem_cons.mpr ⟨syc_224, List.forall_mem_cons.mpr ⟨syc_222, List.forall_mem_cons.mpr ⟨syc_215, List.forall_mem_cons.mpr ⟨syc_256, List.forall_mem_cons.mpr ⟨syc_660, List.forall_mem_cons.mpr ⟨syc_91, List.forall_mem_cons.mpr ⟨syc_121, List.forall_mem_cons.mpr ⟨syc_123, List.forall_mem_cons.mpr ⟨syc_129, List.forall_mem_cons.mpr ⟨syc_131, List.forall_mem_cons.mpr ⟨syc_583, List.forall_mem_cons.mpr ⟨syc_605, List.forall_mem_cons.mpr ⟨syc_582, List.forall_mem_cons.mpr ⟨syc_603, List.forall_mem_cons.mpr ⟨syc_611, List.forall_mem_cons.mpr ⟨syc_617, List.forall_mem_cons.mpr ⟨syc_640, List.forall_mem_cons.mpr ⟨syc_643, List.forall_mem_cons.mpr ⟨syc_663, List.forall_mem_cons.mpr ⟨syc_668, List.forall_mem_cons.mpr ⟨syc_683, List.forall_mem_cons.mpr ⟨syc_691, List.forall_mem_cons.mpr ⟨syc_697, List.forall_mem_cons.mpr ⟨syc_720, List.forall_mem_cons.mpr ⟨syc_723, List.forall_mem_cons.mpr ⟨syc_636, List.forall_mem_cons.mpr ⟨syc_659, List.forall_mem_cons.mpr ⟨syc_716, List.forall_mem_cons.mpr ⟨syc_739, List.forall_mem_cons.mpr ⟨syc_670, List.forall_mem_cons.mpr ⟨syc_589, List.forall_mem_cons.mpr ⟨syc_572, fun _ h => absurd h List.not_mem_nil⟩⟩⟩⟩⟩⟩⟩⟩⟩⟩⟩⟩⟩⟩⟩⟩⟩⟩⟩⟩⟩⟩⟩⟩⟩⟩⟩⟩⟩⟩⟩⟩) (by decide +kernel) (by decide +kernel)
/-- X.byteAt -/
def syt_741 : CO := (8, 1, [(0, 0, 0, 0, 0, 0), ((-2147483648), 2147483647, 0, (-2147483648), 0, 2147483647)], [(2, 0, 0), (0, 1, 0)], [(0, 1, (2, 3, 0)), (0, 2, (2, 13, 0)), (0, 7, (2, 110, 0)), (0, 8, (2, 115, 0))], [(1, 1, 0)], [(some (0, 2, 0), [(0, 0, 0, 0, 0, 0), (0, 63, 0, 0, 0, 63), ((-128), 127, 0, (-128), 0, 127)], [(0, 1, (2, 3, 0)), (0, 2, (2, 13, 0)), (0, 7, (2, 110, 0)), (0, 8, (2, 115, 0))], [(1, 0, 0)]), (some (0, 0, (-1)), [(0, 0, 0, 0, 0, 0), ((-2147483648), 2147483647, 0, (-2147483648), 0, 2147483647)], [(0, 1, (2, 3, 0)), (0, 2, (2, 13, 0)), (0, 7, (2, 110, 0)), (0, 8, (2, 115, 0))], [])], [], [], [], [])
set_option maxRecDepth 100000 in
theorem syc_741 : CoOk GG MM syt_741 := chk_ok (cs := []) (F := 4000) (fun _ h => absurd h List.not_mem_nil) (by decide +kernel) (by decide +kernel)
/-- M.isIn -/
def syt_742 : CO := (218, 1, [(0, 0, 0, 0, 0, 0), ((-2147483648), 2147483647, 0, (-2147483648), 0, 2147483647), ((-1), 63, 0, (-1), 0, 63)], [(0, 1, 0), (0, 0, 0), (0, 2, 0)], [], [(1, 0, 0), (1, 2, 0)], [(some (0, 0, 1), [(0, 0, 0, 0, 0, 0), (0, 63, 0, 0, 0, 63), (0, 63, 0, 0, 0, 63)], [], []), (some (0, 0, 0), [(0, 0, 0, 0, 0, 0), ((-2147483648), 2147483647, 0, (-2147483648), 0, 2147483647), ((-1), 63, 0, (-1), 0, 63)], [], [])], [], [], [], [])
set_option maxRecDepth 100000 in
theorem syc_742 : CoOk GG MM syt_742 := chk_ok (cs := []) (F := 4000) (fun _ h => absurd h List.not_mem_nil) (by decide +kernel) (by decide +kernel)
/-- M.byteAt -/
def syt_743 : CO := (182, 2, [(0, 0, 0, 0, 0, 0), ((-2147483648), 2147483647, 0, (-2147483648), 0, 2147483647)], [(2, 180, 0), (0, 1, 0)], [], [(1, 1, 0)], [(some (0, 0, (-1)), [(0, 0, 0, 0, 0, 0), ((-2147483648), 2147483647, 0, (-2147483648), 0, 2147483647)], [], []), (some (0, 3, 0), [(0, 0, 0, 0, 0, 0), (0, 63, 0, 0, 0, 63), (1, 64, 0, 1, 0, 64), ((-2147483648), 2147483647, 0, (-2147483648), 0, 2147483647)], [(180, 41, (0, 2, 0))], [(2, 180, 41), (1, 0, 0)])], [(180, 0, 0)], [], [], [])
set_option maxRecDepth 100000 in
theorem syc_743 : CoOk GG MM syt_743 := chk_ok (cs := [syt_742]) (F := 4000) (List.forall_mem_cons.mpr ⟨syc_742, fun _ h => absurd h List.not_mem_nil⟩) (by decide +kernel) (by decide +kernel)
/-- Life.draw -/
def syt_744 : CO := (97, 1, [(0, 0, 0, 0, 0, 0), (1, 8, 0, 1, 0, 8)], [(2, 23, 0), (0, 1, 0)], [], [(1, 1, 0)], [(some (0, 2, 0), [(0, 0, 0, 0, 0, 0), (1, 8, 0, 1, 0, 8), (0, 7, 0, 0, 0, 7)], [], [(1, 0, 0)])], [(23, 4, 4)], [], [], [])
set_option maxRecDepth 100000 in
theorem syc_744 : CoOk GG MM syt_744 := chk_ok (cs := []) (F := 4000) (fun _ h => absurd h List.not_mem_nil) (by decide +kernel) (by decide +kernel)
/-- Life.draw -/
def syt_745 : CO := (97, 1, [(0, 0, 0, 0, 0, 0)], [(2, 23, 0), (0, 0, 3)], [], [], [(some (0, 1, 0), [(0, 0, 0, 0, 0, 0), (0, 2, 0, 0, 0, 2)], [], [(1, 0, 0)])], [(23, 4, 4)], [], [], [])
set_option maxRecDepth 100000 in
theorem syc_745 : CoOk GG MM syt_745 := chk_ok (cs := []) (F := 4000) (fun _ h => absurd h List.not_mem_nil) (by decide +kernel) (by decide +kernel)
/-- Life.draw -/
def syt_746 : CO := (97, 1, [(0, 0, 0, 0, 0, 0)], [(2, 23, 0), (0, 0, 8)], [], [], [(some (0, 1, 0), [(0, 0, 0, 0, 0, 0), (0, 7, 0, 0, 0, 7)], [], [(1, 0, 0)])], [(23, 4, 4)], [], [], [])
set_option maxRecDepth 100000 in
theorem syc_746 : CoOk GG MM syt_746 := chk_ok (cs := []) (F := 4000) (fun _ h => absurd h List.not_mem_nil) (by decide +kernel) (by decide +kernel)
/-- Life.draw -/
def syt_747 : CO := (97, 1, [(0, 0, 0, 0, 0, 0), (0, 7, 0, 0, 0, 7)], [(2, 23, 0), (0, 1, 0)], [], [(1, 1, 0)], [(some (0, 2, 0), [(0, 0, 0, 0, 0, 0), (1, 7, 0, 1, 0, 7), (0, 6, 0, 0, 0, 6)], [], [(1, 0, 0)]), (some (0, 0, 0), [(0, 0, 0, 0, 0, 0), (0, 0, 0, 0, 0, 0)], [], [])], [(23, 4, 4)], [], [], [])
set_option maxRecDepth 100000 in
theorem syc_747 : CoOk GG MM syt_747 := chk_ok (cs := []) (F := 4000) (fun _ h => absurd h List.not_mem_nil) (by decide +kernel) (by decide +kernel)
/-- Life.drawActs -/
def syt_748 : CO := (98, 5, [(0, 0, 0, 0, 0, 0), (0, 6, 0, 0, 0, 6)], [(2, 23, 0), (2, 3, 0), (0, 1, 0)], [], [(1, 2, 0)], [(none, [(0, 0, 0, 0, 0, 0), (0, 6, 0, 0, 0, 6)], [], [])], [(23, 1, 2), (23, 4, 4), (24, 0, 6), (25, 0, 6), (26, 0, 6), (27, 0, 6), (28, 0, 6), (29, 0, 6), (30, 0, 7)], [], [], [])
set_option maxRecDepth 100000 in
theorem syc_748 : CoOk GG MM syt_748 := chk_ok (cs := [syt_274, syt_745, syt_746, syt_744, syt_747, syt_310, syt_293, syt_261, syt_291]) (F := 4000) (List.forall_mem_cons.mpr ⟨syc_274, List.forall_mem_cons.mpr ⟨syc_745, List.forall_mem_cons.mpr ⟨syc_746, List.forall_mem_cons.mpr ⟨syc_744, List.forall_mem_cons.mpr ⟨syc_747, List.forall_mem_cons.mpr ⟨syc_310, List.forall_mem_cons.mpr ⟨syc_293, List.forall_mem_cons.mpr ⟨syc_261, List.forall_mem_cons.mpr ⟨syc_291, fun _ h => absurd h List.not_mem_nil⟩⟩⟩⟩⟩⟩⟩⟩⟩) (by decide +kernel) (by decide +kernel)
/-- Life.drawDays -/
def syt_749 : CO := (99, 6, [(0, 0, 0, 0, 0, 0), (1, 60, 0, 1, 0, 60), ((-2147483648), 2147483647, 0, (-2147483648), 0, 2147483647)], [(2, 23, 0), (2, 3, 0), (0, 1, 0), (0, 2, 0)], [], [(1, 2, 0), (1, 3, 0)], [(none, [(0, 0, 0, 0, 0, 0), (1, 60, 0, 1, 0, 60), ((-2147483648), 2147483647, 0, (-2147483648), 0, 2147483647)], [], [])], [(23, 0, 2), (23, 4, 4), (24, 0, 6), (25, 0, 6), (26, 0, 6), (27, 0, 6), (28, 0, 6), (29, 0, 6), (30, 0, 7)], [(8, 1, 1, ([(0, 0, 0, 0, 0, 0), (1, 60, 0, 1, 0, 60), ((-2147483648), 2147483647, 0, (-2147483648), 0, 2147483647), (0, 60, 0, 0, 0, 60)], [(0, (2, 23, 0)), (1, (2, 3, 0)), (2, (0, 1, 0)), (4, (0, 3, 0))], [], []), [(0, 4, 0)], [(27, 1)]),
  (27, 1, 3, ([(0, 0, 0, 0, 0, 0), (1, 60, 0, 1, 0, 60), ((-2147483648), 2147483647, 0, (-2147483648), 0, 2147483647), (0, 59, 0, 0, 0, 59)], [(0, (2, 23, 0)), (1, (2, 3, 0)), (2, (0, 1, 0)), (4, (0, 3, 0)), (5, (0, 0, 0))], [], []), [], [(8, 0), (27, 2)]),
  (27, 1, 3, ([(0, 0, 0, 0, 0, 0), (1, 60, 0, 1, 0, 60), ((-2147483648), 2147483647, 0, (-2147483648), 0, 2147483647), (0, 59, 0, 0, 0, 59)], [(0, (2, 23, 0)), (1, (2, 3, 0)), (2, (0, 1, 0)), (4, (0, 3, 0)), (5, (0, 0, 1))], [], []), [], [(8, 0), (27, 3)]),
  (27, 1, 3, ([(0, 0, 0, 0, 0, 0), (1, 60, 0, 1, 0, 60), ((-2147483648), 2147483647, 0, (-2147483648), 0, 2147483647), (0, 59, 0, 0, 0, 59)], [(0, (2, 23, 0)), (1, (2, 3, 0)), (2, (0, 1, 0)), (4, (0, 3, 0)), (5, (0, 0, 2))], [], []), [], [(8, 0), (27, 4)]),
  (27, 1, 3, ([(0, 0, 0, 0, 0, 0), (1, 60, 0, 1, 0, 60), ((-2147483648), 2147483647, 0, (-2147483648), 0, 2147483647), (0, 59, 0, 0, 0, 59)], [(0, (2, 23, 0)), (1, (2, 3, 0)), (2, (0, 1, 0)), (4, (0, 3, 0)), (5, (0, 0, 3))], [], []), [], [(8, 0), (27, 5)]),
  (27, 1, 3, ([(0, 0, 0, 0, 0, 0), (1, 60, 0, 1, 0, 60), ((-2147483648), 2147483647, 0, (-2147483648), 0, 2147483647), (0, 59, 0, 0, 0, 59)], [(0, (2, 23, 0)), (1, (2, 3, 0)), (2, (0, 1, 0)), (4, (0, 3, 0)), (5, (0, 0, 4))], [], []), [], [(8, 0), (27, 6)]),
  (27, 1, 3, ([(0, 0, 0, 0, 0, 0), (1, 60, 0, 1, 0, 60), ((-2147483648), 2147483647, 0, (-2147483648), 0, 2147483647), (0, 59, 0, 0, 0, 59)], [(0, (2, 23, 0)), (1, (2, 3, 0)), (2, (0, 1, 0)), (4, (0, 3, 0)), (5, (0, 0, 5))], [], []), [], [(8, 0), (27, 7)]),
  (27, 1, 3, ([(0, 0, 0, 0, 0, 0), (1, 60, 0, 1, 0, 60), ((-2147483648), 2147483647, 0, (-2147483648), 0, 2147483647), (0, 59, 0, 0, 0, 59)], [(0, (2, 23, 0)), (1, (2, 3, 0)), (2, (0, 1, 0)), (4, (0, 3, 0)), (5, (0, 0, 6))], [], []), [], [(8, 0), (27, 8)]),
  (27, 1, 3, ([(0, 0, 0, 0, 0, 0), (1, 60, 0, 1, 0, 60), ((-2147483648), 2147483647, 0, (-2147483648), 0, 2147483647), (0, 59, 0, 0, 0, 59)], [(0, (2, 23, 0)), (1, (2, 3, 0)), (2, (0, 1, 0)), (4, (0, 3, 0)), (5, (0, 0, 7))], [], []), [], [(8, 0)])], [], [(8, 0)])
set_option maxRecDepth 100000 in
theorem syc_749 : CoOk GG MM syt_749 := chk_ok (cs := [syt_748, syt_338]) (F := 4000) (List.forall_mem_cons.mpr ⟨syc_748, List.forall_mem_cons.mpr ⟨syc_338, fun _ h => absurd h List.not_mem_nil⟩⟩) (by decide +kernel) (by decide +kernel)
/-- X.drawn -/
def syt_750 : CO := (13, 7, [(0, 0, 0, 0, 0, 0), ((-2147483648), 2147483647, 0, (-2147483648), 0, 2147483647), ((-2147483648), 2147483647, 0, (-2147483648), 0, 2147483647)], [(2, 0, 0), (0, 1, 0), (0, 2, 0)], [(0, 1, (2, 3, 0)), (0, 2, (2, 13, 0)), (0, 7, (2, 110, 0)), (0, 8, (2, 115, 0))], [(1, 1, 0), (1, 2, 0)], [(some (0, 0, (-1)), [(0, 0, 0, 0, 0, 0), ((-2147483648), 2147483647, 0, (-2147483648), 0, 2147483647), ((-2147483648), 2147483647, 0, (-2147483648), 0, 2147483647)], [(0, 1, (2, 3, 0)), (0, 2, (2, 13, 0)), (0, 7, (2, 110, 0)), (0, 8, (2, 115, 0))], []), (some (0, 3, 0), [(0, 0, 0, 0, 0, 0), (1, 60, 0, 1, 0, 60), ((-2147483648), 2147483647, 0, (-2147483648), 0, 2147483647), ((-2147483648), 60, 0, (-2147483648), 0, 60)], [(0, 1, (2, 3, 0)), (0, 2, (2, 13, 0)), (0, 7, (2, 110, 0)), (0, 8, (2, 115, 0))], [(1, 0, 0)])], [(23, 0, 2), (23, 4, 4), (24, 0, 6), (25, 0, 6), (26, 0, 6), (27, 0, 6), (28, 0, 6), (29, 0, 6), (30, 0, 7), (39, 1, 2), (41, 0, 3), (42, 0, 7), (43, 0, 7), (44, 0, 7), (45, 0, 7), (46, 0, 7), (47, 0, 7), (48, 0, 8), (49, 0, 3), (50, 0, 7), (51, 0, 7), (52, 0, 7), (53, 0, 7), (54, 0, 7), (55, 0, 7), (56, 0, 8), (57, 0, 3), (58, 0, 7), (59, 0, 7), (60, 0, 7), (61, 0, 7), (62, 0, 7), (63, 0, 7), (64, 0, 8), (65, 0, 3), (66, 0, 7), (67, 0, 7), (68, 0, 7), (69, 0, 7), (70, 0, 7), (71, 0, 7), (72, 0, 8), (73, 0, 3), (74, 0, 7), (75, 0, 7), (76, 0, 7), (77, 0, 7), (78, 0, 7), (79, 0, 7), (80, 0, 8), (81, 0, 3), (82, 0, 7), (83, 0, 7), (84, 0, 7), (85, 0, 7), (86, 0, 7), (87, 0, 7), (88, 0, 8), (89, 0, 3), (90, 0, 7), (91, 0, 7), (92, 0, 7), (93, 0, 7), (94, 0, 7), (95, 0, 7), (96, 0, 8), (97, 0, 3), (98, 0, 7), (99, 0, 7), (100, 0, 7), (101, 0, 7), (102, 0, 7), (103, 0, 7), (104, 0, 8)], [], [], [])
set_option maxRecDepth 100000 in
theorem syc_750 : CoOk GG MM syt_750 := chk_ok (cs := [syt_337, syt_749, syt_271]) (F := 4000) (List.forall_mem_cons.mpr ⟨syc_337, List.forall_mem_cons.mpr ⟨syc_749, List.forall_mem_cons.mpr ⟨syc_271, fun _ h => absurd h List.not_mem_nil⟩⟩⟩) (by decide +kernel) (by decide +kernel)
/-- M.draw -/
def syt_751 : CO := (191, 1, [(0, 0, 0, 0, 0, 0), (1, 8, 0, 1, 0, 8)], [(2, 180, 0), (0, 1, 0)], [], [(1, 1, 0)], [(some (0, 2, 0), [(0, 0, 0, 0, 0, 0), (1, 8, 0, 1, 0, 8), (0, 7, 0, 0, 0, 7)], [], [(1, 0, 0)])], [(180, 42, 42)], [], [], [])
set_option maxRecDepth 100000 in
theorem syc_751 : CoOk GG MM syt_751 := chk_ok (cs := []) (F := 4000) (fun _ h => absurd h List.not_mem_nil) (by decide +kernel) (by decide +kernel)
/-- M.draw -/
def syt_752 : CO := (191, 1, [(0, 0, 0, 0, 0, 0)], [(2, 180, 0), (0, 0, 3)], [], [], [(some (0, 1, 0), [(0, 0, 0, 0, 0, 0), (0, 2, 0, 0, 0, 2)], [], [(1, 0, 0)])], [(180, 42, 42)], [], [], [])
set_option maxRecDepth 100000 in
theorem syc_752 : CoOk GG MM syt_752 := chk_ok (cs := []) (F := 4000) (fun _ h => absurd h List.not_mem_nil) (by decide +kernel) (by decide +kernel)
/-- M.draw -/
def syt_753 : CO := (191, 1, [(0, 0, 0, 0, 0, 0)], [(2, 180, 0), (0, 0, 8)], [], [], [(some (0, 1, 0), [(0, 0, 0, 0, 0, 0), (0, 7, 0, 0, 0, 7)], [], [(1, 0, 0)])], [(180, 42, 42)], [], [], [])
set_option maxRecDepth 100000 in
theorem syc_753 : CoOk GG MM syt_753 := chk_ok (cs := []) (F := 4000) (fun _ h => absurd h List.not_mem_nil) (by decide +kernel) (by decide +kernel)
/-- M.draw -/
def syt_754 : CO := (191, 1, [(0, 0, 0, 0, 0, 0), (1, 7, 0, 1, 0, 7)], [(2, 180, 0), (0, 1, 0)], [], [(1, 1, 0)], [(some (0, 2, 0), [(0, 0, 0, 0, 0, 0), (1, 7, 0, 1, 0, 7), (0, 6, 0, 0, 0, 6)], [], [(1, 0, 0)])], [(180, 42, 42)], [], [], [])
set_option maxRecDepth 100000 in
theorem syc_754 : CoOk GG MM syt_754 := chk_ok (cs := []) (F := 4000) (fun _ h => absurd h List.not_mem_nil) (by decide +kernel) (by decide +kernel)
/-- M.isWed -/
def syt_755 : CO := (226, 1, [(0, 0, 0, 0, 0, 0), (1, 6, 0, 1, 0, 6)], [(2, 180, 0), (0, 1, 0)], [], [(1, 1, 0)], [(some (0, 0, 1), [(0, 0, 0, 0, 0, 0), (6, 6, 0, 6, 0, 6), (0, 6, 0, 0, 0, 6)], [(182, 138, (0, 2, 0))], [(2, 182, 138)]), (some (0, 0, 0), [(0, 0, 0, 0, 0, 0), (6, 6, 0, 6, 0, 6), ((-1), (-1), 0, (-1), 0, (-1))], [(182, 138, (0, 2, 0))], [(2, 182, 138)]), (some (0, 0, 1), [(0, 0, 0, 0, 0, 0), (5, 5, 0, 5, 0, 5), (0, 6, 0, 0, 0, 6)], [(182, 137, (0, 2, 0))], [(2, 182, 137)]), (some (0, 0, 0), [(0, 0, 0, 0, 0, 0), (5, 5, 0, 5, 0, 5), ((-1), (-1), 0, (-1), 0, (-1))], [(182, 137, (0, 2, 0))], [(2, 182, 137)]), (some (0, 0, 1), [(0, 0, 0, 0, 0, 0), (4, 4, 0, 4, 0, 4), (0, 6, 0, 0, 0, 6)], [(182, 136, (0, 2, 0))], [(2, 182, 136)]), (some (0, 0, 0), [(0, 0, 0, 0, 0, 0), (4, 4, 0, 4, 0, 4), ((-1), (-1), 0, (-1), 0, (-1))], [(182, 136, (0, 2, 0))], [(2, 182, 136)]), (some (0, 0, 1), [(0, 0, 0, 0, 0, 0), (3, 3, 0, 3, 0, 3), (0, 6, 0, 0, 0, 6)], [(182, 135, (0, 2, 0))], [(2, 182, 135)]), (some (0, 0, 0), [(0, 0, 0, 0, 0, 0), (3, 3, 0, 3, 0, 3), ((-1), (-1), 0, (-1), 0, (-1))], [(182, 135, (0, 2, 0))], [(2, 182, 135)]), (some (0, 0, 1), [(0, 0, 0, 0, 0, 0), (2, 2, 0, 2, 0, 2), (0, 6, 0, 0, 0, 6)], [(182, 134, (0, 2, 0))], [(2, 182, 134)]), (some (0, 0, 0), [(0, 0, 0, 0, 0, 0), (2, 2, 0, 2, 0, 2), ((-1), (-1), 0, (-1), 0, (-1))], [(182, 134, (0, 2, 0))], [(2, 182, 134)]), (some (0, 0, 1), [(0, 0, 0, 0, 0, 0), (1, 1, 0, 1, 0, 1), (0, 6, 0, 0, 0, 6)], [(182, 133, (0, 2, 0))], [(2, 182, 133)]), (some (0, 0, 0), [(0, 0, 0, 0, 0, 0), (1, 1, 0, 1, 0, 1), ((-1), (-1), 0, (-1), 0, (-1))], [(182, 133, (0, 2, 0))], [(2, 182, 133)])], [], [], [], [])
set_option maxRecDepth 100000 in
theorem syc_755 : CoOk GG MM syt_755 := chk_ok (cs := []) (F := 4000) (fun _ h => absurd h List.not_mem_nil) (by decide +kernel) (by decide +kernel)
/-- M.why -/
def syt_756 : CO := (291, 3, [(0, 0, 0, 0, 0, 0), (0, 6, 0, 0, 0, 6)], [(2, 180, 0), (0, 0, 1), (0, 0, 0), (0, 1, 0), (0, 0, 0)], [], [(1, 3, 0)], [(some (0, 0, 1), [(0, 0, 0, 0, 0, 0), (0, 0, 0, 0, 0, 0)], [], []), (some (0, 2, 0), [(0, 0, 0, 0, 0, 0), (0, 6, 0, 0, 0, 6), (2, 4, 0, 2, 0, 4)], [], [(1, 0, 0)]), (some (0, 0, 0), [(0, 0, 0, 0, 0, 0), (1, 6, 0, 1, 0, 6)], [], [])], [], [], [], [])
set_option maxRecDepth 100000 in
theorem syc_756 : CoOk GG MM syt_756 := chk_ok (cs := [syt_224, syt_297, syt_298, syt_299, syt_300, syt_301, syt_302, syt_346, syt_343, syt_755]) (F := 4000) (List.forall_mem_cons.mpr ⟨syc_224, List.forall_mem_cons.mpr ⟨syc_297, List.forall_mem_cons.mpr ⟨syc_298, List.forall_mem_cons.mpr ⟨syc_299, List.forall_mem_cons.mpr ⟨syc_300, List.forall_mem_cons.mpr ⟨syc_301, List.forall_mem_cons.mpr ⟨syc_302, List.forall_mem_cons.mpr ⟨syc_346, List.forall_mem_cons.mpr ⟨syc_343, List.forall_mem_cons.mpr ⟨syc_755, fun _ h => absurd h List.not_mem_nil⟩⟩⟩⟩⟩⟩⟩⟩⟩⟩) (by decide +kernel) (by decide +kernel)
/-- M.live -/
def syt_757 : CO := (232, 1, [(0, 0, 0, 0, 0, 0), (1, 6, 0, 1, 0, 6)], [(2, 180, 0), (0, 0, 1), (0, 0, 0), (0, 1, 0), (0, 0, 0)], [], [(1, 3, 0)], [(none, [(0, 0, 0, 0, 0, 0), (1, 6, 0, 1, 0, 6)], [], [])], [(182, 132, 138)], [], [], [])
set_option maxRecDepth 100000 in
theorem syc_757 : CoOk GG MM syt_757 := chk_ok (cs := []) (F := 4000) (fun _ h => absurd h List.not_mem_nil) (by decide +kernel) (by decide +kernel)
/-- M.live -/
def syt_758 : CO := (232, 1, [(0, 0, 0, 0, 0, 0)], [(2, 180, 0), (0, 0, 2), (0, 0, 0), (0, 0, 0), (0, 0, 0)], [], [], [(none, [(0, 0, 0, 0, 0, 0)], [], [])], [(182, 131, 138)], [], [], [])
set_option maxRecDepth 100000 in
theorem syc_758 : CoOk GG MM syt_758 := chk_ok (cs := []) (F := 4000) (fun _ h => absurd h List.not_mem_nil) (by decide +kernel) (by decide +kernel)
/-- M.doDeed -/
def syt_759 : CO := (189, 3, [(0, 0, 0, 0, 0, 0), (0, 7, 0, 0, 0, 7), (0, 2, 0, 0, 0, 2)], [(2, 180, 0), (0, 0, 0), (0, 1, 0), (0, 2, 0)], [], [(1, 2, 0), (1, 3, 0)], [(none, [(0, 0, 0, 0, 0, 0), (0, 7, 0, 0, 0, 7), (0, 2, 0, 0, 0, 2)], [], [])], [(182, 103, 104), (182, 111, 111), (182, 118, 118), (182, 125, 125), (182, 139, 139), (182, 146, 153)], [], [], [])
set_option maxRecDepth 100000 in
theorem syc_759 : CoOk GG MM syt_759 := chk_ok (cs := [syt_279, syt_223, syt_283, syt_284]) (F := 4000) (List.forall_mem_cons.mpr ⟨syc_279, List.forall_mem_cons.mpr ⟨syc_223, List.forall_mem_cons.mpr ⟨syc_283, List.forall_mem_cons.mpr ⟨syc_284, fun _ h => absurd h List.not_mem_nil⟩⟩⟩⟩) (by decide +kernel) (by decide +kernel)
/-- M.drawsFor -/
def syt_760 : CO := (194, 4, [(0, 0, 0, 0, 0, 0), (1, 7, 0, 1, 0, 7)], [(2, 180, 0), (0, 0, 0)], [(182, 0, (0, 1, 0))], [(2, 182, 0)], [(none, [(0, 0, 0, 0, 0, 0), (1, 7, 0, 1, 0, 7), (0, 8, 0, 0, 0, 8)], [(182, 0, (0, 1, 0)), (182, 1, (0, 2, 0))], [(2, 182, 1)])], [(180, 42, 42), (182, 103, 104), (182, 111, 111), (182, 118, 118), (182, 125, 125), (182, 131, 139), (182, 146, 153)], [], [], [])
set_option maxRecDepth 100000 in
theorem syc_760 : CoOk GG MM syt_760 := chk_ok (cs := [syt_759, syt_752, syt_753, syt_754, syt_751, syt_343, syt_758, syt_757, syt_756, syt_280]) (F := 4000) (List.forall_mem_cons.mpr ⟨syc_759, List.forall_mem_cons.mpr ⟨syc_752, List.forall_mem_cons.mpr ⟨syc_753, List.forall_mem_cons.mpr ⟨syc_754, List.forall_mem_cons.mpr ⟨syc_751, List.forall_mem_cons.mpr ⟨syc_343, List.forall_mem_cons.mpr ⟨syc_758, List.forall_mem_cons.mpr ⟨syc_757, List.forall_mem_cons.mpr ⟨syc_756, List.forall_mem_cons.mpr ⟨syc_280, fun _ h => absurd h List.not_mem_nil⟩⟩⟩⟩⟩⟩⟩⟩⟩⟩) (by decide +kernel) (by decide +kernel)
/-- M.draw -/
def syt_761 : CO := (191, 1, [(0, 0, 0, 0, 0, 0), (2, 7, 0, 2, 0, 7)], [(2, 180, 0), (0, 1, 0)], [], [(1, 1, 0)], [(some (0, 2, 0), [(0, 0, 0, 0, 0, 0), (2, 7, 0, 2, 0, 7), (0, 6, 0, 0, 0, 6)], [], [(1, 0, 0)])], [(180, 42, 42)], [], [], [])
set_option maxRecDepth 100000 in
theorem syc_761 : CoOk GG MM syt_761 := chk_ok (cs := []) (F := 4000) (fun _ h => absurd h List.not_mem_nil) (by decide +kernel) (by decide +kernel)
/-- M.why -/
def syt_762 : CO := (291, 3, [(0, 0, 0, 0, 0, 0), (0, 6, 0, 0, 0, 6)], [(2, 180, 0), (0, 0, 1), (0, 0, 1), (0, 1, 0), (0, 0, 0)], [], [(1, 3, 0)], [(some (0, 0, 1), [(0, 0, 0, 0, 0, 0), (1, 1, 0, 1, 0, 1)], [], []), (some (0, 2, 0), [(0, 0, 0, 0, 0, 0), (0, 6, 0, 0, 0, 6), (2, 4, 0, 2, 0, 4)], [], [(1, 0, 0)]), (some (0, 0, 0), [(0, 0, 0, 0, 0, 0), (0, 6, 0, 0, 0, 6)], [], [])], [], [], [], [])
set_option maxRecDepth 100000 in
theorem syc_762 : CoOk GG MM syt_762 := chk_ok (cs := [syt_224, syt_216, syt_297, syt_298, syt_299, syt_300, syt_301, syt_302, syt_348, syt_345, syt_256]) (F := 4000) (List.forall_mem_cons.mpr ⟨syc_224, List.forall_mem_cons.mpr ⟨syc_216, List.forall_mem_cons.mpr ⟨syc_297, List.forall_mem_cons.mpr ⟨syc_298, List.forall_mem_cons.mpr ⟨syc_299, List.forall_mem_cons.mpr ⟨syc_300, List.forall_mem_cons.mpr ⟨syc_301, List.forall_mem_cons.mpr ⟨syc_302, List.forall_mem_cons.mpr ⟨syc_348, List.forall_mem_cons.mpr ⟨syc_345, List.forall_mem_cons.mpr ⟨syc_256, fun _ h => absurd h List.not_mem_nil⟩⟩⟩⟩⟩⟩⟩⟩⟩⟩⟩) (by decide +kernel) (by decide +kernel)
/-- M.live -/
def syt_763 : CO := (232, 1, [(0, 0, 0, 0, 0, 0), (0, 6, 0, 0, 0, 6)], [(2, 180, 0), (0, 0, 1), (0, 0, 1), (0, 1, 0), (0, 0, 0)], [], [(1, 3, 0)], [(none, [(0, 0, 0, 0, 0, 0), (0, 6, 0, 0, 0, 6)], [], [])], [(182, 132, 138)], [], [], [])
set_option maxRecDepth 100000 in
theorem syc_763 : CoOk GG MM syt_763 := chk_ok (cs := []) (F := 4000) (fun _ h => absurd h List.not_mem_nil) (by decide +kernel) (by decide +kernel)
/-- M.live -/
def syt_764 : CO := (232, 1, [(0, 0, 0, 0, 0, 0)], [(2, 180, 0), (0, 0, 2), (0, 0, 1), (0, 0, 0), (0, 0, 0)], [], [], [(none, [(0, 0, 0, 0, 0, 0)], [], [])], [(182, 131, 138)], [], [], [])
set_option maxRecDepth 100000 in
theorem syc_764 : CoOk GG MM syt_764 := chk_ok (cs := []) (F := 4000) (fun _ h => absurd h List.not_mem_nil) (by decide +kernel) (by decide +kernel)
/-- M.doDeed -/
def syt_765 : CO := (189, 3, [(0, 0, 0, 0, 0, 0), (0, 7, 0, 0, 0, 7), (0, 2, 0, 0, 0, 2)], [(2, 180, 0), (0, 0, 1), (0, 1, 0), (0, 2, 0)], [], [(1, 2, 0), (1, 3, 0)], [(none, [(0, 0, 0, 0, 0, 0), (0, 7, 0, 0, 0, 7), (0, 2, 0, 0, 0, 2)], [], [])], [(182, 103, 103), (182, 105, 105), (182, 112, 112), (182, 119, 119), (182, 126, 126), (182, 140, 140), (182, 146, 153)], [], [], [])
set_option maxRecDepth 100000 in
theorem syc_765 : CoOk GG MM syt_765 := chk_ok (cs := [syt_279, syt_223, syt_283, syt_284]) (F := 4000) (List.forall_mem_cons.mpr ⟨syc_279, List.forall_mem_cons.mpr ⟨syc_223, List.forall_mem_cons.mpr ⟨syc_283, List.forall_mem_cons.mpr ⟨syc_284, fun _ h => absurd h List.not_mem_nil⟩⟩⟩⟩) (by decide +kernel) (by decide +kernel)
/-- M.drawsFor -/
def syt_766 : CO := (194, 4, [(0, 0, 0, 0, 0, 0), (2, 7, 0, 2, 0, 7)], [(2, 180, 0), (0, 0, 1)], [(182, 0, (0, 1, 0))], [(2, 182, 0)], [(none, [(0, 0, 0, 0, 0, 0), (2, 7, 0, 2, 0, 7), (0, 8, 0, 0, 0, 8)], [(182, 0, (0, 1, 0)), (182, 1, (0, 2, 0))], [(2, 182, 1)])], [(180, 42, 42), (182, 103, 103), (182, 105, 105), (182, 112, 112), (182, 119, 119), (182, 126, 126), (182, 131, 138), (182, 140, 140), (182, 146, 153)], [], [], [])
set_option maxRecDepth 100000 in
theorem syc_766 : CoOk GG MM syt_766 := chk_ok (cs := [syt_765, syt_752, syt_753, syt_761, syt_751, syt_345, syt_764, syt_763, syt_762, syt_280]) (F := 4000) (List.forall_mem_cons.mpr ⟨syc_765, List.forall_mem_cons.mpr ⟨syc_752, List.forall_mem_cons.mpr ⟨syc_753, List.forall_mem_cons.mpr ⟨syc_761, List.forall_mem_cons.mpr ⟨syc_751, List.forall_mem_cons.mpr ⟨syc_345, List.forall_mem_cons.mpr ⟨syc_764, List.forall_mem_cons.mpr ⟨syc_763, List.forall_mem_cons.mpr ⟨syc_762, List.forall_mem_cons.mpr ⟨syc_280, fun _ h => absurd h List.not_mem_nil⟩⟩⟩⟩⟩⟩⟩⟩⟩⟩) (by decide +kernel) (by decide +kernel)
/-- M.draw -/
def syt_767 : CO := (191, 1, [(0, 0, 0, 0, 0, 0), (3, 7, 0, 3, 0, 7)], [(2, 180, 0), (0, 1, 0)], [], [(1, 1, 0)], [(some (0, 2, 0), [(0, 0, 0, 0, 0, 0), (3, 7, 0, 3, 0, 7), (0, 6, 0, 0, 0, 6)], [], [(1, 0, 0)])], [(180, 42, 42)], [], [], [])
set_option maxRecDepth 100000 in
theorem syc_767 : CoOk GG MM syt_767 := chk_ok (cs := []) (F := 4000) (fun _ h => absurd h List.not_mem_nil) (by decide +kernel) (by decide +kernel)
/-- M.why -/
def syt_768 : CO := (291, 3, [(0, 0, 0, 0, 0, 0), (0, 6, 0, 0, 0, 6)], [(2, 180, 0), (0, 0, 1), (0, 0, 2), (0, 1, 0), (0, 0, 0)], [], [(1, 3, 0)], [(some (0, 0, 1), [(0, 0, 0, 0, 0, 0), (2, 2, 0, 2, 0, 2)], [], []), (some (0, 2, 0), [(0, 0, 0, 0, 0, 0), (0, 6, 0, 0, 0, 6), (2, 4, 0, 2, 0, 4)], [], [(1, 0, 0)]), (some (0, 0, 0), [(0, 0, 0, 0, 0, 0), (0, 6, 0, 0, 0, 6)], [], [])], [], [], [], [])
set_option maxRecDepth 100000 in
theorem syc_768 : CoOk GG MM syt_768 := chk_ok (cs := [syt_224, syt_216, syt_297, syt_298, syt_299, syt_300, syt_301, syt_302, syt_350, syt_347, syt_256]) (F := 4000) (List.forall_mem_cons.mpr ⟨syc_224, List.forall_mem_cons.mpr ⟨syc_216, List.forall_mem_cons.mpr ⟨syc_297, List.forall_mem_cons.mpr ⟨syc_298, List.forall_mem_cons.mpr ⟨syc_299, List.forall_mem_cons.mpr ⟨syc_300, List.forall_mem_cons.mpr ⟨syc_301, List.forall_mem_cons.mpr ⟨syc_302, List.forall_mem_cons.mpr ⟨syc_350, List.forall_mem_cons.mpr ⟨syc_347, List.forall_mem_cons.mpr ⟨syc_256, fun _ h => absurd h List.not_mem_nil⟩⟩⟩⟩⟩⟩⟩⟩⟩⟩⟩) (by decide +kernel) (by decide +kernel)
/-- M.live -/
def syt_769 : CO := (232, 1, [(0, 0, 0, 0, 0, 0), (0, 6, 0, 0, 0, 6)], [(2, 180, 0), (0, 0, 1), (0, 0, 2), (0, 1, 0), (0, 0, 0)], [], [(1, 3, 0)], [(none, [(0, 0, 0, 0, 0, 0), (0, 6, 0, 0, 0, 6)], [], [])], [(182, 132, 138)], [], [], [])
set_option maxRecDepth 100000 in
theorem syc_769 : CoOk GG MM syt_769 := chk_ok (cs := []) (F := 4000) (fun _ h => absurd h List.not_mem_nil) (by decide +kernel) (by decide +kernel)
/-- M.live -/
def syt_770 : CO := (232, 1, [(0, 0, 0, 0, 0, 0)], [(2, 180, 0), (0, 0, 2), (0, 0, 2), (0, 0, 0), (0, 0, 0)], [], [], [(none, [(0, 0, 0, 0, 0, 0)], [], [])], [(182, 131, 138)], [], [], [])
set_option maxRecDepth 100000 in
theorem syc_770 : CoOk GG MM syt_770 := chk_ok (cs := []) (F := 4000) (fun _ h => absurd h List.not_mem_nil) (by decide +kernel) (by decide +kernel)
/-- M.doDeed -/
def syt_771 : CO := (189, 3, [(0, 0, 0, 0, 0, 0), (0, 7, 0, 0, 0, 7), (0, 2, 0, 0, 0, 2)], [(2, 180, 0), (0, 0, 2), (0, 1, 0), (0, 2, 0)], [], [(1, 2, 0), (1, 3, 0)], [(none, [(0, 0, 0, 0, 0, 0), (0, 7, 0, 0, 0, 7), (0, 2, 0, 0, 0, 2)], [], [])], [(182, 103, 103), (182, 106, 106), (182, 113, 113), (182, 120, 120), (182, 127, 127), (182, 141, 141), (182, 146, 153)], [], [], [])
set_option maxRecDepth 100000 in
theorem syc_771 : CoOk GG MM syt_771 := chk_ok (cs := [syt_279, syt_223, syt_283, syt_284]) (F := 4000) (List.forall_mem_cons.mpr ⟨syc_279, List.forall_mem_cons.mpr ⟨syc_223, List.forall_mem_cons.mpr ⟨syc_283, List.forall_mem_cons.mpr ⟨syc_284, fun _ h => absurd h List.not_mem_nil⟩⟩⟩⟩) (by decide +kernel) (by decide +kernel)
/-- M.drawsFor -/
def syt_772 : CO := (194, 4, [(0, 0, 0, 0, 0, 0), (3, 7, 0, 3, 0, 7)], [(2, 180, 0), (0, 0, 2)], [(182, 0, (0, 1, 0))], [(2, 182, 0)], [(none, [(0, 0, 0, 0, 0, 0), (3, 7, 0, 3, 0, 7), (0, 8, 0, 0, 0, 8)], [(182, 0, (0, 1, 0)), (182, 1, (0, 2, 0))], [(2, 182, 1)])], [(180, 42, 42), (182, 103, 103), (182, 106, 106), (182, 113, 113), (182, 120, 120), (182, 127, 127), (182, 131, 138), (182, 141, 141), (182, 146, 153)], [], [], [])
set_option maxRecDepth 100000 in
theorem syc_772 : CoOk GG MM syt_772 := chk_ok (cs := [syt_771, syt_752, syt_753, syt_767, syt_751, syt_347, syt_770, syt_769, syt_768, syt_280]) (F := 4000) (List.forall_mem_cons.mpr ⟨syc_771, List.forall_mem_cons.mpr ⟨syc_752, List.forall_mem_cons.mpr ⟨syc_753, List.forall_mem_cons.mpr ⟨syc_767, List.forall_mem_cons.mpr ⟨syc_751, List.forall_mem_cons.mpr ⟨syc_347, List.forall_mem_cons.mpr ⟨syc_770, List.forall_mem_cons.mpr ⟨syc_769, List.forall_mem_cons.mpr ⟨syc_768, List.forall_mem_cons.mpr ⟨syc_280, fun _ h => absurd h List.not_mem_nil⟩⟩⟩⟩⟩⟩⟩⟩⟩⟩) (by decide +kernel) (by decide +kernel)
/-- M.draw -/
def syt_773 : CO := (191, 1, [(0, 0, 0, 0, 0, 0), (4, 7, 0, 4, 0, 7)], [(2, 180, 0), (0, 1, 0)], [], [(1, 1, 0)], [(some (0, 2, 0), [(0, 0, 0, 0, 0, 0), (4, 7, 0, 4, 0, 7), (0, 6, 0, 0, 0, 6)], [], [(1, 0, 0)])], [(180, 42, 42)], [], [], [])
set_option maxRecDepth 100000 in
theorem syc_773 : CoOk GG MM syt_773 := chk_ok (cs := []) (F := 4000) (fun _ h => absurd h List.not_mem_nil) (by decide +kernel) (by decide +kernel)
/-- M.why -/
def syt_774 : CO := (291, 3, [(0, 0, 0, 0, 0, 0), (0, 6, 0, 0, 0, 6)], [(2, 180, 0), (0, 0, 1), (0, 0, 3), (0, 1, 0), (0, 0, 0)], [], [(1, 3, 0)], [(some (0, 0, 1), [(0, 0, 0, 0, 0, 0), (3, 3, 0, 3, 0, 3)], [], []), (some (0, 2, 0), [(0, 0, 0, 0, 0, 0), (0, 6, 0, 0, 0, 6), (2, 4, 0, 2, 0, 4)], [], [(1, 0, 0)]), (some (0, 0, 0), [(0, 0, 0, 0, 0, 0), (0, 6, 0, 0, 0, 6)], [], [])], [], [], [], [])
set_option maxRecDepth 100000 in
theorem syc_774 : CoOk GG MM syt_774 := chk_ok (cs := [syt_224, syt_216, syt_297, syt_298, syt_299, syt_300, syt_301, syt_302, syt_352, syt_349, syt_256]) (F := 4000) (List.forall_mem_cons.mpr ⟨syc_224, List.forall_mem_cons.mpr ⟨syc_216, List.forall_mem_cons.mpr ⟨syc_297, List.forall_mem_cons.mpr ⟨syc_298, List.forall_mem_cons.mpr ⟨syc_299, List.forall_mem_cons.mpr ⟨syc_300, List.forall_mem_cons.mpr ⟨syc_301, List.forall_mem_cons.mpr ⟨syc_302, List.forall_mem_cons.mpr ⟨syc_352, List.forall_mem_cons.mpr ⟨syc_349, List.forall_mem_cons.mpr ⟨syc_256, fun _ h => absurd h List.not_mem_nil⟩⟩⟩⟩⟩⟩⟩⟩⟩⟩⟩) (by decide +kernel) (by decide +kernel)
