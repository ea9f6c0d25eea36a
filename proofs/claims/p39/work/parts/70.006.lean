/-! ===== contracts, inferred and printed by my program, checked here ===== -/
/-- Slip.putName -/
def syt_568 : CO := (149, 2, [(0, 0, 0, 0, 0, 0), ((-9223372036854775808), 9223372036854775807, 0, (-9223372036854775808), 0, 9223372036854775807)], [(2, 129, 0), (1, 1, 0)], [], [(1, 1, 0)], [(none, [(0, 0, 0, 0, 0, 0), ((-9223372036854775808), 9223372036854775807, 0, (-9223372036854775808), 0, 9223372036854775807)], [], [])], [(129, 1, 1), (130, 0, 63)], [(3, 1, 2, ([(0, 0, 0, 0, 0, 0), ((-9223372036854775808), 9223372036854775807, 0, (-9223372036854775808), 0, 9223372036854775807), ((-1000), 30, 0, (-1000), 0, 30)], [(0, (2, 129, 0)), (1, (1, 1, 0)), (3, (0, 2, 0))], [], []), [(0, 3, 0)], [(3, 0)])], [], [(3, 0)])
set_option maxRecDepth 100000 in
theorem syc_568 : CoOk GG MM syt_568 := chk_ok (cs := [syt_567]) (F := 4000) (List.forall_mem_cons.mpr ⟨syc_567, fun _ h => absurd h List.not_mem_nil⟩) (by decide +kernel) (by decide +kernel)
/-- Slip.putText -/
def syt_569 : CO := (152, 2, [(0, 0, 0, 0, 0, 0)], [(2, 129, 0), (4, 300, 0)], [], [], [(none, [(0, 0, 0, 0, 0, 0)], [], [])], [(129, 1, 1), (130, 0, 63)], [(2, 1, 1, ([(0, 0, 0, 0, 0, 0), (0, 6, 0, 0, 0, 6)], [(0, (2, 129, 0)), (1, (4, 300, 0)), (2, (0, 1, 0))], [], []), [(0, 2, 0)], [(2, 0)])], [], [(2, 0)])
set_option maxRecDepth 100000 in
theorem syc_569 : CoOk GG MM syt_569 := chk_ok (cs := [syt_567]) (F := 4000) (List.forall_mem_cons.mpr ⟨syc_567, fun _ h => absurd h List.not_mem_nil⟩) (by decide +kernel) (by decide +kernel)
/-- Slip.putNumber -/
def syt_570 : CO := (150, 2, [(0, 0, 0, 0, 0, 0), ((-2147483648), 2147483647, 0, (-2147483648), 0, 2147483647)], [(2, 129, 0), (0, 1, 0)], [], [(1, 1, 0)], [(none, [(0, 0, 0, 0, 0, 0), ((-2147483648), 2147483647, 0, (-2147483648), 0, 2147483647)], [], [])], [(129, 1, 1), (130, 0, 63)], [], [], [])
set_option maxRecDepth 100000 in
theorem syc_570 : CoOk GG MM syt_570 := chk_ok (cs := [syt_567]) (F := 4000) (List.forall_mem_cons.mpr ⟨syc_567, fun _ h => absurd h List.not_mem_nil⟩) (by decide +kernel) (by decide +kernel)
/-- Slip.putText -/
def syt_571 : CO := (152, 2, [(0, 0, 0, 0, 0, 0)], [(2, 129, 0), (4, 303, 0)], [], [], [(none, [(0, 0, 0, 0, 0, 0)], [], [])], [(129, 1, 1), (130, 0, 63)], [(2, 1, 1, ([(0, 0, 0, 0, 0, 0), (0, 8, 0, 0, 0, 8)], [(0, (2, 129, 0)), (1, (4, 303, 0)), (2, (0, 1, 0))], [], []), [(0, 2, 0)], [(2, 0)])], [], [(2, 0)])
set_option maxRecDepth 100000 in
theorem syc_571 : CoOk GG MM syt_571 := chk_ok (cs := [syt_567]) (F := 4000) (List.forall_mem_cons.mpr ⟨syc_567, fun _ h => absurd h List.not_mem_nil⟩) (by decide +kernel) (by decide +kernel)
/-- Slip.putText -/
def syt_572 : CO := (152, 2, [(0, 0, 0, 0, 0, 0)], [(2, 129, 0), (4, 302, 0)], [], [], [(none, [(0, 0, 0, 0, 0, 0)], [], [])], [(129, 1, 1), (130, 0, 63)], [(2, 1, 1, ([(0, 0, 0, 0, 0, 0), (0, 7, 0, 0, 0, 7)], [(0, (2, 129, 0)), (1, (4, 302, 0)), (2, (0, 1, 0))], [], []), [(0, 2, 0)], [(2, 0)])], [], [(2, 0)])
set_option maxRecDepth 100000 in
theorem syc_572 : CoOk GG MM syt_572 := chk_ok (cs := [syt_567]) (F := 4000) (List.forall_mem_cons.mpr ⟨syc_567, fun _ h => absurd h List.not_mem_nil⟩) (by decide +kernel) (by decide +kernel)
/-- Slip.putText -/
def syt_573 : CO := (152, 2, [(0, 0, 0, 0, 0, 0)], [(2, 129, 0), (4, 301, 0)], [], [], [(none, [(0, 0, 0, 0, 0, 0)], [], [])], [(129, 1, 1), (130, 0, 63)], [(2, 1, 1, ([(0, 0, 0, 0, 0, 0), (0, 9, 0, 0, 0, 9)], [(0, (2, 129, 0)), (1, (4, 301, 0)), (2, (0, 1, 0))], [], []), [(0, 2, 0)], [(2, 0)])], [], [(2, 0)])
set_option maxRecDepth 100000 in
theorem syc_573 : CoOk GG MM syt_573 := chk_ok (cs := [syt_567]) (F := 4000) (List.forall_mem_cons.mpr ⟨syc_567, fun _ h => absurd h List.not_mem_nil⟩) (by decide +kernel) (by decide +kernel)
/-- Slip.write -/
def syt_574 : CO := (153, 3, [(0, 0, 0, 0, 0, 0), (0, 6, 0, 0, 0, 6)], [(2, 129, 0), (2, 3, 0), (2, 23, 0), (0, 1, 0)], [], [(1, 3, 0)], [(none, [(0, 0, 0, 0, 0, 0), (0, 6, 0, 0, 0, 6)], [], [])], [(129, 1, 1), (130, 0, 63)], [], [], [])
set_option maxRecDepth 100000 in
theorem syc_574 : CoOk GG MM syt_574 := chk_ok (cs := [syt_280, syt_261, syt_568, syt_570, syt_569, syt_571, syt_572, syt_573]) (F := 4000) (List.forall_mem_cons.mpr ⟨syc_280, List.forall_mem_cons.mpr ⟨syc_261, List.forall_mem_cons.mpr ⟨syc_568, List.forall_mem_cons.mpr ⟨syc_570, List.forall_mem_cons.mpr ⟨syc_569, List.forall_mem_cons.mpr ⟨syc_571, List.forall_mem_cons.mpr ⟨syc_572, List.forall_mem_cons.mpr ⟨syc_573, fun _ h => absurd h List.not_mem_nil⟩⟩⟩⟩⟩⟩⟩⟩) (by decide +kernel) (by decide +kernel)
/-- X.slip -/
def syt_575 : CO := (40, 4, [(0, 0, 0, 0, 0, 0), ((-2147483648), 2147483647, 0, (-2147483648), 0, 2147483647)], [(2, 0, 0), (0, 1, 0)], [(0, 1, (2, 3, 0)), (0, 2, (2, 13, 0)), (0, 7, (2, 110, 0)), (0, 8, (2, 115, 0))], [(1, 1, 0)], [(some (0, 0, (-1)), [(0, 0, 0, 0, 0, 0), ((-2147483648), 2147483647, 0, (-2147483648), 0, 2147483647)], [(0, 1, (2, 3, 0)), (0, 2, (2, 13, 0)), (0, 7, (2, 110, 0)), (0, 8, (2, 115, 0))], []), (some (0, 2, 0), [(0, 0, 0, 0, 0, 0), (0, 6, 0, 0, 0, 6), (0, 64, 0, 0, 0, 64)], [(0, 1, (2, 3, 0)), (0, 2, (2, 13, 0)), (0, 7, (2, 110, 0)), (0, 8, (2, 115, 0))], [(1, 0, 0)])], [(129, 1, 1), (130, 0, 63)], [], [], [])
set_option maxRecDepth 100000 in
theorem syc_575 : CoOk GG MM syt_575 := chk_ok (cs := [syt_247, syt_574]) (F := 4000) (List.forall_mem_cons.mpr ⟨syc_247, List.forall_mem_cons.mpr ⟨syc_574, fun _ h => absurd h List.not_mem_nil⟩⟩) (by decide +kernel) (by decide +kernel)
/-- M.write -/
def syt_576 : CO := (294, 1, [(0, 0, 0, 0, 0, 0), ((-2147483648), 2147483647, 0, (-2147483648), 0, 2147483647)], [(2, 180, 0), (0, 1, 0)], [(180, 41, (0, 0, 0))], [(1, 1, 0)], [(none, [(0, 0, 0, 0, 0, 0), ((-2147483648), 2147483647, 0, (-2147483648), 0, 2147483647)], [(180, 41, (0, 0, 1))], [])], [(180, 41, 41), (199, 0, 0)], [], [], [])
set_option maxRecDepth 100000 in
theorem syc_576 : CoOk GG MM syt_576 := chk_ok (cs := []) (F := 4000) (fun _ h => absurd h List.not_mem_nil) (by decide +kernel) (by decide +kernel)
/-- M.writeWord -/
def syt_577 : CO := (297, 2, [(0, 0, 0, 0, 0, 0), (1, 26, 0, 1, 0, 26)], [(2, 180, 0), (1, 1, 0)], [(180, 41, (0, 0, 0))], [(1, 1, 0)], [(none, [(0, 0, 0, 0, 0, 0), (1, 26, 0, 1, 0, 26)], [(180, 41, (0, 0, 1))], [])], [(180, 41, 41), (199, 0, 0)], [], [], [])
set_option maxRecDepth 100000 in
theorem syc_577 : CoOk GG MM syt_577 := chk_ok (cs := [syt_576]) (F := 4000) (List.forall_mem_cons.mpr ⟨syc_576, fun _ h => absurd h List.not_mem_nil⟩) (by decide +kernel) (by decide +kernel)
/-- M.write -/
def syt_578 : CO := (294, 1, [(0, 0, 0, 0, 0, 0), ((-2147483648), 2147483647, 0, (-2147483648), 0, 2147483647)], [(2, 180, 0), (0, 1, 0)], [(180, 41, (0, 0, 1))], [(1, 1, 0)], [(none, [(0, 0, 0, 0, 0, 0), ((-2147483648), 2147483647, 0, (-2147483648), 0, 2147483647)], [(180, 41, (0, 0, 2))], [])], [(180, 41, 41), (199, 1, 1)], [], [], [])
set_option maxRecDepth 100000 in
theorem syc_578 : CoOk GG MM syt_578 := chk_ok (cs := []) (F := 4000) (fun _ h => absurd h List.not_mem_nil) (by decide +kernel) (by decide +kernel)
/-- M.writeWord -/
def syt_579 : CO := (297, 2, [(0, 0, 0, 0, 0, 0), (1, 1, 0, 1, 0, 1)], [(2, 180, 0), (1, 1, 0)], [(180, 41, (0, 0, 0))], [(1, 1, 0)], [(none, [(0, 0, 0, 0, 0, 0), (1, 1, 0, 1, 0, 1)], [(180, 41, (0, 0, 1))], [])], [(180, 41, 41), (199, 0, 0)], [], [], [])
set_option maxRecDepth 100000 in
theorem syc_579 : CoOk GG MM syt_579 := chk_ok (cs := [syt_576]) (F := 4000) (List.forall_mem_cons.mpr ⟨syc_576, fun _ h => absurd h List.not_mem_nil⟩) (by decide +kernel) (by decide +kernel)
/-- M.writeWord -/
def syt_580 : CO := (297, 3, [(0, 0, 0, 0, 0, 0), (1, 728, 0, 1, 0, 728)], [(2, 180, 0), (1, 1, 0)], [(180, 41, (0, 0, 0))], [(1, 1, 0)], [(none, [(0, 0, 0, 0, 0, 0), (1, 728, 0, 1, 0, 728), (1, 2, 0, 1, 0, 2)], [(180, 41, (0, 2, 0))], [(2, 180, 41)])], [(180, 41, 41), (199, 0, 1)], [], [], [])
set_option maxRecDepth 100000 in
theorem syc_580 : CoOk GG MM syt_580 := chk_ok (cs := [syt_576, syt_578, syt_579, syt_577]) (F := 4000) (List.forall_mem_cons.mpr ⟨syc_576, List.forall_mem_cons.mpr ⟨syc_578, List.forall_mem_cons.mpr ⟨syc_579, List.forall_mem_cons.mpr ⟨syc_577, fun _ h => absurd h List.not_mem_nil⟩⟩⟩⟩) (by decide +kernel) (by decide +kernel)
/-- M.write -/
def syt_581 : CO := (294, 1, [(0, 0, 0, 0, 0, 0), ((-2147483648), 2147483647, 0, (-2147483648), 0, 2147483647), (1, 2, 0, 1, 0, 2)], [(2, 180, 0), (0, 1, 0)], [(180, 41, (0, 2, 0))], [(1, 1, 0), (2, 180, 41)], [(none, [(0, 0, 0, 0, 0, 0), ((-2147483648), 2147483647, 0, (-2147483648), 0, 2147483647), (1, 2, 0, 1, 0, 2)], [(180, 41, (0, 2, 1))], [])], [(180, 41, 41), (199, 1, 2)], [], [], [])
set_option maxRecDepth 100000 in
theorem syc_581 : CoOk GG MM syt_581 := chk_ok (cs := []) (F := 4000) (fun _ h => absurd h List.not_mem_nil) (by decide +kernel) (by decide +kernel)
/-- M.writeWord -/
def syt_582 : CO := (297, 4, [(0, 0, 0, 0, 0, 0), (1, 19682, 0, 1, 0, 19682)], [(2, 180, 0), (1, 1, 0)], [(180, 41, (0, 0, 0))], [(1, 1, 0)], [(none, [(0, 0, 0, 0, 0, 0), (1, 19682, 0, 1, 0, 19682), (1, 3, 0, 1, 0, 3)], [(180, 41, (0, 2, 0))], [(2, 180, 41)])], [(180, 41, 41), (199, 0, 2)], [], [], [])
set_option maxRecDepth 100000 in
theorem syc_582 : CoOk GG MM syt_582 := chk_ok (cs := [syt_576, syt_578, syt_581, syt_579, syt_580]) (F := 4000) (List.forall_mem_cons.mpr ⟨syc_576, List.forall_mem_cons.mpr ⟨syc_578, List.forall_mem_cons.mpr ⟨syc_581, List.forall_mem_cons.mpr ⟨syc_579, List.forall_mem_cons.mpr ⟨syc_580, fun _ h => absurd h List.not_mem_nil⟩⟩⟩⟩⟩) (by decide +kernel) (by decide +kernel)
/-- M.write -/
def syt_583 : CO := (294, 1, [(0, 0, 0, 0, 0, 0), ((-2147483648), 2147483647, 0, (-2147483648), 0, 2147483647), (1, 3, 0, 1, 0, 3)], [(2, 180, 0), (0, 1, 0)], [(180, 41, (0, 2, 0))], [(1, 1, 0), (2, 180, 41)], [(none, [(0, 0, 0, 0, 0, 0), ((-2147483648), 2147483647, 0, (-2147483648), 0, 2147483647), (1, 3, 0, 1, 0, 3)], [(180, 41, (0, 2, 1))], [])], [(180, 41, 41), (199, 1, 3)], [], [], [])
set_option maxRecDepth 100000 in
theorem syc_583 : CoOk GG MM syt_583 := chk_ok (cs := []) (F := 4000) (fun _ h => absurd h List.not_mem_nil) (by decide +kernel) (by decide +kernel)
/-- M.writeWord -/
def syt_584 : CO := (297, 5, [(0, 0, 0, 0, 0, 0), (1, 531440, 0, 1, 0, 531440)], [(2, 180, 0), (1, 1, 0)], [(180, 41, (0, 0, 0))], [(1, 1, 0)], [(none, [(0, 0, 0, 0, 0, 0), (1, 531440, 0, 1, 0, 531440), (1, 4, 0, 1, 0, 4)], [(180, 41, (0, 2, 0))], [(2, 180, 41)])], [(180, 41, 41), (199, 0, 3)], [], [], [])
set_option maxRecDepth 100000 in
theorem syc_584 : CoOk GG MM syt_584 := chk_ok (cs := [syt_576, syt_578, syt_583, syt_579, syt_582]) (F := 4000) (List.forall_mem_cons.mpr ⟨syc_576, List.forall_mem_cons.mpr ⟨syc_578, List.forall_mem_cons.mpr ⟨syc_583, List.forall_mem_cons.mpr ⟨syc_579, List.forall_mem_cons.mpr ⟨syc_582, fun _ h => absurd h List.not_mem_nil⟩⟩⟩⟩⟩) (by decide +kernel) (by decide +kernel)
/-- M.write -/
def syt_585 : CO := (294, 1, [(0, 0, 0, 0, 0, 0), ((-2147483648), 2147483647, 0, (-2147483648), 0, 2147483647), (1, 4, 0, 1, 0, 4)], [(2, 180, 0), (0, 1, 0)], [(180, 41, (0, 2, 0))], [(1, 1, 0), (2, 180, 41)], [(none, [(0, 0, 0, 0, 0, 0), ((-2147483648), 2147483647, 0, (-2147483648), 0, 2147483647), (1, 4, 0, 1, 0, 4)], [(180, 41, (0, 2, 1))], [])], [(180, 41, 41), (199, 1, 4)], [], [], [])
set_option maxRecDepth 100000 in
theorem syc_585 : CoOk GG MM syt_585 := chk_ok (cs := []) (F := 4000) (fun _ h => absurd h List.not_mem_nil) (by decide +kernel) (by decide +kernel)
/-- M.writeWord -/
def syt_586 : CO := (297, 6, [(0, 0, 0, 0, 0, 0), (1, 14348906, 0, 1, 0, 14348906)], [(2, 180, 0), (1, 1, 0)], [(180, 41, (0, 0, 0))], [(1, 1, 0)], [(none, [(0, 0, 0, 0, 0, 0), (1, 14348906, 0, 1, 0, 14348906), (1, 5, 0, 1, 0, 5)], [(180, 41, (0, 2, 0))], [(2, 180, 41)])], [(180, 41, 41), (199, 0, 4)], [], [], [])
set_option maxRecDepth 100000 in
theorem syc_586 : CoOk GG MM syt_586 := chk_ok (cs := [syt_576, syt_578, syt_585, syt_579, syt_584]) (F := 4000) (List.forall_mem_cons.mpr ⟨syc_576, List.forall_mem_cons.mpr ⟨syc_578, List.forall_mem_cons.mpr ⟨syc_585, List.forall_mem_cons.mpr ⟨syc_579, List.forall_mem_cons.mpr ⟨syc_584, fun _ h => absurd h List.not_mem_nil⟩⟩⟩⟩⟩) (by decide +kernel) (by decide +kernel)
/-- M.write -/
def syt_587 : CO := (294, 1, [(0, 0, 0, 0, 0, 0), ((-2147483648), 2147483647, 0, (-2147483648), 0, 2147483647), (1, 5, 0, 1, 0, 5)], [(2, 180, 0), (0, 1, 0)], [(180, 41, (0, 2, 0))], [(1, 1, 0), (2, 180, 41)], [(none, [(0, 0, 0, 0, 0, 0), ((-2147483648), 2147483647, 0, (-2147483648), 0, 2147483647), (1, 5, 0, 1, 0, 5)], [(180, 41, (0, 2, 1))], [])], [(180, 41, 41), (199, 1, 5)], [], [], [])
set_option maxRecDepth 100000 in
theorem syc_587 : CoOk GG MM syt_587 := chk_ok (cs := []) (F := 4000) (fun _ h => absurd h List.not_mem_nil) (by decide +kernel) (by decide +kernel)
/-- M.writeWord -/
def syt_588 : CO := (297, 7, [(0, 0, 0, 0, 0, 0), (1, 387420488, 0, 1, 0, 387420488)], [(2, 180, 0), (1, 1, 0)], [(180, 41, (0, 0, 0))], [(1, 1, 0)], [(none, [(0, 0, 0, 0, 0, 0), (1, 387420488, 0, 1, 0, 387420488), (1, 6, 0, 1, 0, 6)], [(180, 41, (0, 2, 0))], [(2, 180, 41)])], [(180, 41, 41), (199, 0, 5)], [], [], [])
set_option maxRecDepth 100000 in
theorem syc_588 : CoOk GG MM syt_588 := chk_ok (cs := [syt_576, syt_578, syt_587, syt_579, syt_586]) (F := 4000) (List.forall_mem_cons.mpr ⟨syc_576, List.forall_mem_cons.mpr ⟨syc_578, List.forall_mem_cons.mpr ⟨syc_587, List.forall_mem_cons.mpr ⟨syc_579, List.forall_mem_cons.mpr ⟨syc_586, fun _ h => absurd h List.not_mem_nil⟩⟩⟩⟩⟩) (by decide +kernel) (by decide +kernel)
/-- M.write -/
def syt_589 : CO := (294, 1, [(0, 0, 0, 0, 0, 0), ((-2147483648), 2147483647, 0, (-2147483648), 0, 2147483647), (1, 6, 0, 1, 0, 6)], [(2, 180, 0), (0, 1, 0)], [(180, 41, (0, 2, 0))], [(1, 1, 0), (2, 180, 41)], [(none, [(0, 0, 0, 0, 0, 0), ((-2147483648), 2147483647, 0, (-2147483648), 0, 2147483647), (1, 6, 0, 1, 0, 6)], [(180, 41, (0, 2, 1))], [])], [(180, 41, 41), (199, 1, 6)], [], [], [])
set_option maxRecDepth 100000 in
theorem syc_589 : CoOk GG MM syt_589 := chk_ok (cs := []) (F := 4000) (fun _ h => absurd h List.not_mem_nil) (by decide +kernel) (by decide +kernel)
/-- M.writeWord -/
def syt_590 : CO := (297, 8, [(0, 0, 0, 0, 0, 0), (1, 10460353202, 0, 1, 0, 10460353202)], [(2, 180, 0), (1, 1, 0)], [(180, 41, (0, 0, 0))], [(1, 1, 0)], [(none, [(0, 0, 0, 0, 0, 0), (1, 10460353202, 0, 1, 0, 10460353202), (1, 7, 0, 1, 0, 7)], [(180, 41, (0, 2, 0))], [(2, 180, 41)])], [(180, 41, 41), (199, 0, 6)], [], [], [])
set_option maxRecDepth 100000 in
theorem syc_590 : CoOk GG MM syt_590 := chk_ok (cs := [syt_576, syt_578, syt_589, syt_579, syt_588]) (F := 4000) (List.forall_mem_cons.mpr ⟨syc_576, List.forall_mem_cons.mpr ⟨syc_578, List.forall_mem_cons.mpr ⟨syc_589, List.forall_mem_cons.mpr ⟨syc_579, List.forall_mem_cons.mpr ⟨syc_588, fun _ h => absurd h List.not_mem_nil⟩⟩⟩⟩⟩) (by decide +kernel) (by decide +kernel)
/-- M.write -/
def syt_591 : CO := (294, 1, [(0, 0, 0, 0, 0, 0), ((-2147483648), 2147483647, 0, (-2147483648), 0, 2147483647), (1, 7, 0, 1, 0, 7)], [(2, 180, 0), (0, 1, 0)], [(180, 41, (0, 2, 0))], [(1, 1, 0), (2, 180, 41)], [(none, [(0, 0, 0, 0, 0, 0), ((-2147483648), 2147483647, 0, (-2147483648), 0, 2147483647), (1, 7, 0, 1, 0, 7)], [(180, 41, (0, 2, 1))], [])], [(180, 41, 41), (199, 1, 7)], [], [], [])
set_option maxRecDepth 100000 in
theorem syc_591 : CoOk GG MM syt_591 := chk_ok (cs := []) (F := 4000) (fun _ h => absurd h List.not_mem_nil) (by decide +kernel) (by decide +kernel)
/-- M.writeWord -/
def syt_592 : CO := (297, 9, [(0, 0, 0, 0, 0, 0), ((-9223372036854775808), 282429536480, 0, (-9223372036854775808), 0, 282429536480)], [(2, 180, 0), (1, 1, 0)], [(180, 41, (0, 0, 0))], [(1, 1, 0)], [(none, [(0, 0, 0, 0, 0, 0), ((-9223372036854775808), 282429536480, 0, (-9223372036854775808), 0, 282429536480), (1, 8, 0, 1, 0, 8)], [(180, 41, (0, 2, 0))], [(2, 180, 41)])], [(180, 41, 41), (199, 0, 7)], [], [], [])
set_option maxRecDepth 100000 in
theorem syc_592 : CoOk GG MM syt_592 := chk_ok (cs := [syt_576, syt_578, syt_591, syt_579, syt_590]) (F := 4000) (List.forall_mem_cons.mpr ⟨syc_576, List.forall_mem_cons.mpr ⟨syc_578, List.forall_mem_cons.mpr ⟨syc_591, List.forall_mem_cons.mpr ⟨syc_579, List.forall_mem_cons.mpr ⟨syc_590, fun _ h => absurd h List.not_mem_nil⟩⟩⟩⟩⟩) (by decide +kernel) (by decide +kernel)
/-- M.write -/
def syt_593 : CO := (294, 1, [(0, 0, 0, 0, 0, 0), ((-2147483648), 2147483647, 0, (-2147483648), 0, 2147483647), (1, 8, 0, 1, 0, 8)], [(2, 180, 0), (0, 1, 0)], [(180, 41, (0, 2, 0))], [(1, 1, 0), (2, 180, 41)], [(none, [(0, 0, 0, 0, 0, 0), ((-2147483648), 2147483647, 0, (-2147483648), 0, 2147483647), (1, 8, 0, 1, 0, 8)], [(180, 41, (0, 2, 1))], [])], [(180, 41, 41), (199, 1, 8)], [], [], [])
set_option maxRecDepth 100000 in
theorem syc_593 : CoOk GG MM syt_593 := chk_ok (cs := []) (F := 4000) (fun _ h => absurd h List.not_mem_nil) (by decide +kernel) (by decide +kernel)
/-- M.write -/
def syt_594 : CO := (294, 1, [(0, 0, 0, 0, 0, 0), ((-2147483648), 2147483647, 0, (-2147483648), 0, 2147483647), (2, 9, 0, 2, 0, 9)], [(2, 180, 0), (0, 1, 0)], [(180, 41, (0, 2, 0))], [(1, 1, 0), (2, 180, 41)], [(none, [(0, 0, 0, 0, 0, 0), ((-2147483648), 2147483647, 0, (-2147483648), 0, 2147483647), (2, 9, 0, 2, 0, 9)], [(180, 41, (0, 2, 1))], [])], [(180, 41, 41), (199, 2, 9)], [], [], [])
set_option maxRecDepth 100000 in
theorem syc_594 : CoOk GG MM syt_594 := chk_ok (cs := []) (F := 4000) (fun _ h => absurd h List.not_mem_nil) (by decide +kernel) (by decide +kernel)
/-- M.writeWord -/
def syt_595 : CO := (297, 2, [(0, 0, 0, 0, 0, 0), (15, 15, 0, 15, 0, 15), (2, 9, 0, 2, 0, 9)], [(2, 180, 0), (1, 1, 0)], [(180, 41, (0, 2, 0))], [(1, 1, 0), (2, 180, 41)], [(none, [(0, 0, 0, 0, 0, 0), (15, 15, 0, 15, 0, 15), (2, 9, 0, 2, 0, 9)], [(180, 41, (0, 2, 1))], [])], [(180, 41, 41), (199, 2, 9)], [], [], [])
set_option maxRecDepth 100000 in
theorem syc_595 : CoOk GG MM syt_595 := chk_ok (cs := [syt_594]) (F := 4000) (List.forall_mem_cons.mpr ⟨syc_594, fun _ h => absurd h List.not_mem_nil⟩) (by decide +kernel) (by decide +kernel)
/-- M.write -/
def syt_596 : CO := (294, 1, [(0, 0, 0, 0, 0, 0), ((-2147483648), 2147483647, 0, (-2147483648), 0, 2147483647), (3, 10, 0, 3, 0, 10)], [(2, 180, 0), (0, 1, 0)], [(180, 41, (0, 2, 0))], [(1, 1, 0), (2, 180, 41)], [(none, [(0, 0, 0, 0, 0, 0), ((-2147483648), 2147483647, 0, (-2147483648), 0, 2147483647), (3, 10, 0, 3, 0, 10)], [(180, 41, (0, 2, 1))], [])], [(180, 41, 41), (199, 3, 10)], [], [], [])
set_option maxRecDepth 100000 in
theorem syc_596 : CoOk GG MM syt_596 := chk_ok (cs := []) (F := 4000) (fun _ h => absurd h List.not_mem_nil) (by decide +kernel) (by decide +kernel)
/-- M.writeWord -/
def syt_597 : CO := (297, 3, [(0, 0, 0, 0, 0, 0), (428, 428, 0, 428, 0, 428), (2, 9, 0, 2, 0, 9)], [(2, 180, 0), (1, 1, 0)], [(180, 41, (0, 2, 0))], [(1, 1, 0), (2, 180, 41)], [(none, [(0, 0, 0, 0, 0, 0), (428, 428, 0, 428, 0, 428), (2, 9, 0, 2, 0, 9)], [(180, 41, (0, 2, 2))], [])], [(180, 41, 41), (199, 2, 10)], [], [], [])
set_option maxRecDepth 100000 in
theorem syc_597 : CoOk GG MM syt_597 := chk_ok (cs := [syt_596, syt_595]) (F := 4000) (List.forall_mem_cons.mpr ⟨syc_596, List.forall_mem_cons.mpr ⟨syc_595, fun _ h => absurd h List.not_mem_nil⟩⟩) (by decide +kernel) (by decide +kernel)
/-- M.write -/
def syt_598 : CO := (294, 1, [(0, 0, 0, 0, 0, 0), ((-2147483648), 2147483647, 0, (-2147483648), 0, 2147483647), (4, 11, 0, 4, 0, 11)], [(2, 180, 0), (0, 1, 0)], [(180, 41, (0, 2, 0))], [(1, 1, 0), (2, 180, 41)], [(none, [(0, 0, 0, 0, 0, 0), ((-2147483648), 2147483647, 0, (-2147483648), 0, 2147483647), (4, 11, 0, 4, 0, 11)], [(180, 41, (0, 2, 1))], [])], [(180, 41, 41), (199, 4, 11)], [], [], [])
set_option maxRecDepth 100000 in
theorem syc_598 : CoOk GG MM syt_598 := chk_ok (cs := []) (F := 4000) (fun _ h => absurd h List.not_mem_nil) (by decide +kernel) (by decide +kernel)
/-- M.writeWord -/
def syt_599 : CO := (297, 4, [(0, 0, 0, 0, 0, 0), (11570, 11570, 0, 11570, 0, 11570), (2, 9, 0, 2, 0, 9)], [(2, 180, 0), (1, 1, 0)], [(180, 41, (0, 2, 0))], [(1, 1, 0), (2, 180, 41)], [(none, [(0, 0, 0, 0, 0, 0), (11570, 11570, 0, 11570, 0, 11570), (2, 9, 0, 2, 0, 9)], [(180, 41, (0, 2, 3))], [])], [(180, 41, 41), (199, 2, 11)], [], [], [])
set_option maxRecDepth 100000 in
theorem syc_599 : CoOk GG MM syt_599 := chk_ok (cs := [syt_598, syt_597]) (F := 4000) (List.forall_mem_cons.mpr ⟨syc_598, List.forall_mem_cons.mpr ⟨syc_597, fun _ h => absurd h List.not_mem_nil⟩⟩) (by decide +kernel) (by decide +kernel)
/-- M.write -/
def syt_600 : CO := (294, 1, [(0, 0, 0, 0, 0, 0), ((-2147483648), 2147483647, 0, (-2147483648), 0, 2147483647), (5, 12, 0, 5, 0, 12)], [(2, 180, 0), (0, 1, 0)], [(180, 41, (0, 2, 0))], [(1, 1, 0), (2, 180, 41)], [(none, [(0, 0, 0, 0, 0, 0), ((-2147483648), 2147483647, 0, (-2147483648), 0, 2147483647), (5, 12, 0, 5, 0, 12)], [(180, 41, (0, 2, 1))], [])], [(180, 41, 41), (199, 5, 12)], [], [], [])
set_option maxRecDepth 100000 in
theorem syc_600 : CoOk GG MM syt_600 := chk_ok (cs := []) (F := 4000) (fun _ h => absurd h List.not_mem_nil) (by decide +kernel) (by decide +kernel)
/-- M.writeWord -/
def syt_601 : CO := (297, 5, [(0, 0, 0, 0, 0, 0), (312409, 312409, 0, 312409, 0, 312409), (2, 9, 0, 2, 0, 9)], [(2, 180, 0), (1, 1, 0)], [(180, 41, (0, 2, 0))], [(1, 1, 0), (2, 180, 41)], [(none, [(0, 0, 0, 0, 0, 0), (312409, 312409, 0, 312409, 0, 312409), (2, 9, 0, 2, 0, 9)], [(180, 41, (0, 2, 4))], [])], [(180, 41, 41), (199, 2, 12)], [], [], [])
set_option maxRecDepth 100000 in
theorem syc_601 : CoOk GG MM syt_601 := chk_ok (cs := [syt_600, syt_599]) (F := 4000) (List.forall_mem_cons.mpr ⟨syc_600, List.forall_mem_cons.mpr ⟨syc_599, fun _ h => absurd h List.not_mem_nil⟩⟩) (by decide +kernel) (by decide +kernel)
/-- M.writeNext -/
def syt_602 : CO := (295, 6, [(0, 0, 0, 0, 0, 0), (312409, 312409, 0, 312409, 0, 312409), (1, 8, 0, 1, 0, 8)], [(2, 180, 0), (1, 1, 0)], [(180, 41, (0, 2, 0))], [(1, 1, 0), (2, 180, 41)], [(none, [(0, 0, 0, 0, 0, 0), (312409, 312409, 0, 312409, 0, 312409), (1, 8, 0, 1, 0, 8)], [(180, 41, (0, 2, 5))], [])], [(180, 41, 41), (199, 1, 12)], [], [], [])
set_option maxRecDepth 100000 in
theorem syc_602 : CoOk GG MM syt_602 := chk_ok (cs := [syt_593, syt_601]) (F := 4000) (List.forall_mem_cons.mpr ⟨syc_593, List.forall_mem_cons.mpr ⟨syc_601, fun _ h => absurd h List.not_mem_nil⟩⟩) (by decide +kernel) (by decide +kernel)
/-- M.write -/
def syt_603 : CO := (294, 1, [(0, 0, 0, 0, 0, 0), ((-2147483648), 2147483647, 0, (-2147483648), 0, 2147483647), (6, 13, 0, 6, 0, 13)], [(2, 180, 0), (0, 1, 0)], [(180, 41, (0, 2, 0))], [(1, 1, 0), (2, 180, 41)], [(none, [(0, 0, 0, 0, 0, 0), ((-2147483648), 2147483647, 0, (-2147483648), 0, 2147483647), (6, 13, 0, 6, 0, 13)], [(180, 41, (0, 2, 1))], [])], [(180, 41, 41), (199, 6, 13)], [], [], [])
set_option maxRecDepth 100000 in
theorem syc_603 : CoOk GG MM syt_603 := chk_ok (cs := []) (F := 4000) (fun _ h => absurd h List.not_mem_nil) (by decide +kernel) (by decide +kernel)
/-- M.write -/
def syt_604 : CO := (294, 1, [(0, 0, 0, 0, 0, 0), ((-2147483648), 2147483647, 0, (-2147483648), 0, 2147483647), (7, 14, 0, 7, 0, 14)], [(2, 180, 0), (0, 1, 0)], [(180, 41, (0, 2, 0))], [(1, 1, 0), (2, 180, 41)], [(none, [(0, 0, 0, 0, 0, 0), ((-2147483648), 2147483647, 0, (-2147483648), 0, 2147483647), (7, 14, 0, 7, 0, 14)], [(180, 41, (0, 2, 1))], [])], [(180, 41, 41), (199, 7, 14)], [], [], [])
set_option maxRecDepth 100000 in
theorem syc_604 : CoOk GG MM syt_604 := chk_ok (cs := []) (F := 4000) (fun _ h => absurd h List.not_mem_nil) (by decide +kernel) (by decide +kernel)
/-- M.writeNumber -/
def syt_605 : CO := (296, 2, [(0, 0, 0, 0, 0, 0), (1, 9, 0, 1, 0, 9), (7, 14, 0, 7, 0, 14)], [(2, 180, 0), (0, 1, 0)], [(180, 41, (0, 2, 0))], [(1, 1, 0), (2, 180, 41)], [(none, [(0, 0, 0, 0, 0, 0), (1, 9, 0, 1, 0, 9), (7, 14, 0, 7, 0, 14)], [(180, 41, (0, 2, 1))], [])], [(180, 41, 41), (199, 7, 14)], [], [], [])
set_option maxRecDepth 100000 in
theorem syc_605 : CoOk GG MM syt_605 := chk_ok (cs := [syt_604]) (F := 4000) (List.forall_mem_cons.mpr ⟨syc_604, fun _ h => absurd h List.not_mem_nil⟩) (by decide +kernel) (by decide +kernel)
/-- M.write -/
def syt_606 : CO := (294, 1, [(0, 0, 0, 0, 0, 0), ((-2147483648), 2147483647, 0, (-2147483648), 0, 2147483647), (8, 15, 0, 8, 0, 15)], [(2, 180, 0), (0, 1, 0)], [(180, 41, (0, 2, 0))], [(1, 1, 0), (2, 180, 41)], [(none, [(0, 0, 0, 0, 0, 0), ((-2147483648), 2147483647, 0, (-2147483648), 0, 2147483647), (8, 15, 0, 8, 0, 15)], [(180, 41, (0, 2, 1))], [])], [(180, 41, 41), (199, 8, 15)], [], [], [])
set_option maxRecDepth 100000 in
theorem syc_606 : CoOk GG MM syt_606 := chk_ok (cs := []) (F := 4000) (fun _ h => absurd h List.not_mem_nil) (by decide +kernel) (by decide +kernel)
/-- M.writeNumber -/
def syt_607 : CO := (296, 3, [(0, 0, 0, 0, 0, 0), (1, 99, 0, 1, 0, 99), (7, 14, 0, 7, 0, 14)], [(2, 180, 0), (0, 1, 0)], [(180, 41, (0, 2, 0))], [(1, 1, 0), (2, 180, 41)], [(none, [(0, 0, 0, 0, 0, 0), (1, 99, 0, 1, 0, 99), (7, 14, 0, 7, 0, 14), (8, 16, 2, 1, 0, 16)], [(180, 41, (0, 3, 0))], [(2, 180, 41)])], [(180, 41, 41), (199, 7, 15)], [], [], [])
set_option maxRecDepth 100000 in
theorem syc_607 : CoOk GG MM syt_607 := chk_ok (cs := [syt_604, syt_606, syt_605]) (F := 4000) (List.forall_mem_cons.mpr ⟨syc_604, List.forall_mem_cons.mpr ⟨syc_606, List.forall_mem_cons.mpr ⟨syc_605, fun _ h => absurd h List.not_mem_nil⟩⟩⟩) (by decide +kernel) (by decide +kernel)
/-- M.write -/
def syt_608 : CO := (294, 1, [(0, 0, 0, 0, 0, 0), ((-2147483648), 2147483647, 0, (-2147483648), 0, 2147483647), (8, 16, 0, 8, 0, 16)], [(2, 180, 0), (0, 1, 0)], [(180, 41, (0, 2, 0))], [(1, 1, 0), (2, 180, 41)], [(none, [(0, 0, 0, 0, 0, 0), ((-2147483648), 2147483647, 0, (-2147483648), 0, 2147483647), (8, 16, 0, 8, 0, 16)], [(180, 41, (0, 2, 1))], [])], [(180, 41, 41), (199, 8, 16)], [], [], [])
set_option maxRecDepth 100000 in
theorem syc_608 : CoOk GG MM syt_608 := chk_ok (cs := []) (F := 4000) (fun _ h => absurd h List.not_mem_nil) (by decide +kernel) (by decide +kernel)
/-- M.writeNumber -/
def syt_609 : CO := (296, 4, [(0, 0, 0, 0, 0, 0), (0, 999, 0, 0, 0, 999), (7, 14, 0, 7, 0, 14)], [(2, 180, 0), (0, 1, 0)], [(180, 41, (0, 2, 0))], [(1, 1, 0), (2, 180, 41)], [(none, [(0, 0, 0, 0, 0, 0), (0, 999, 0, 0, 0, 999), (7, 14, 0, 7, 0, 14), (8, 17, 2, 1, 0, 17)], [(180, 41, (0, 3, 0))], [(2, 180, 41)])], [(180, 41, 41), (199, 7, 16)], [], [], [])
set_option maxRecDepth 100000 in
theorem syc_609 : CoOk GG MM syt_609 := chk_ok (cs := [syt_604, syt_608, syt_607]) (F := 4000) (List.forall_mem_cons.mpr ⟨syc_604, List.forall_mem_cons.mpr ⟨syc_608, List.forall_mem_cons.mpr ⟨syc_607, fun _ h => absurd h List.not_mem_nil⟩⟩⟩) (by decide +kernel) (by decide +kernel)
/-- M.write -/
def syt_610 : CO := (294, 1, [(0, 0, 0, 0, 0, 0), ((-2147483648), 2147483647, 0, (-2147483648), 0, 2147483647), (8, 17, 0, 8, 0, 17)], [(2, 180, 0), (0, 1, 0)], [(180, 41, (0, 2, 0))], [(1, 1, 0), (2, 180, 41)], [(none, [(0, 0, 0, 0, 0, 0), ((-2147483648), 2147483647, 0, (-2147483648), 0, 2147483647), (8, 17, 0, 8, 0, 17)], [(180, 41, (0, 2, 1))], [])], [(180, 41, 41), (199, 8, 17)], [], [], [])
set_option maxRecDepth 100000 in
theorem syc_610 : CoOk GG MM syt_610 := chk_ok (cs := []) (F := 4000) (fun _ h => absurd h List.not_mem_nil) (by decide +kernel) (by decide +kernel)
/-- M.write -/
def syt_611 : CO := (294, 1, [(0, 0, 0, 0, 0, 0), ((-2147483648), 2147483647, 0, (-2147483648), 0, 2147483647), (9, 18, 0, 9, 0, 18)], [(2, 180, 0), (0, 1, 0)], [(180, 41, (0, 2, 0))], [(1, 1, 0), (2, 180, 41)], [(none, [(0, 0, 0, 0, 0, 0), ((-2147483648), 2147483647, 0, (-2147483648), 0, 2147483647), (9, 18, 0, 9, 0, 18)], [(180, 41, (0, 2, 1))], [])], [(180, 41, 41), (199, 9, 18)], [], [], [])
set_option maxRecDepth 100000 in
theorem syc_611 : CoOk GG MM syt_611 := chk_ok (cs := []) (F := 4000) (fun _ h => absurd h List.not_mem_nil) (by decide +kernel) (by decide +kernel)
/-- M.writeWord -/
def syt_612 : CO := (297, 2, [(0, 0, 0, 0, 0, 0), (7, 7, 0, 7, 0, 7), (9, 18, 0, 9, 0, 18)], [(2, 180, 0), (1, 1, 0)], [(180, 41, (0, 2, 0))], [(1, 1, 0), (2, 180, 41)], [(none, [(0, 0, 0, 0, 0, 0), (7, 7, 0, 7, 0, 7), (9, 18, 0, 9, 0, 18)], [(180, 41, (0, 2, 1))], [])], [(180, 41, 41), (199, 9, 18)], [], [], [])
set_option maxRecDepth 100000 in
theorem syc_612 : CoOk GG MM syt_612 := chk_ok (cs := [syt_611]) (F := 4000) (List.forall_mem_cons.mpr ⟨syc_611, fun _ h => absurd h List.not_mem_nil⟩) (by decide +kernel) (by decide +kernel)
/-- M.write -/
def syt_613 : CO := (294, 1, [(0, 0, 0, 0, 0, 0), ((-2147483648), 2147483647, 0, (-2147483648), 0, 2147483647), (10, 19, 0, 10, 0, 19)], [(2, 180, 0), (0, 1, 0)], [(180, 41, (0, 2, 0))], [(1, 1, 0), (2, 180, 41)], [(none, [(0, 0, 0, 0, 0, 0), ((-2147483648), 2147483647, 0, (-2147483648), 0, 2147483647), (10, 19, 0, 10, 0, 19)], [(180, 41, (0, 2, 1))], [])], [(180, 41, 41), (199, 10, 19)], [], [], [])
set_option maxRecDepth 100000 in
theorem syc_613 : CoOk GG MM syt_613 := chk_ok (cs := []) (F := 4000) (fun _ h => absurd h List.not_mem_nil) (by decide +kernel) (by decide +kernel)
/-- M.writeWord -/
def syt_614 : CO := (297, 3, [(0, 0, 0, 0, 0, 0), (201, 201, 0, 201, 0, 201), (9, 18, 0, 9, 0, 18)], [(2, 180, 0), (1, 1, 0)], [(180, 41, (0, 2, 0))], [(1, 1, 0), (2, 180, 41)], [(none, [(0, 0, 0, 0, 0, 0), (201, 201, 0, 201, 0, 201), (9, 18, 0, 9, 0, 18)], [(180, 41, (0, 2, 2))], [])], [(180, 41, 41), (199, 9, 19)], [], [], [])
set_option maxRecDepth 100000 in
theorem syc_614 : CoOk GG MM syt_614 := chk_ok (cs := [syt_613, syt_612]) (F := 4000) (List.forall_mem_cons.mpr ⟨syc_613, List.forall_mem_cons.mpr ⟨syc_612, fun _ h => absurd h List.not_mem_nil⟩⟩) (by decide +kernel) (by decide +kernel)
/-- M.write -/
def syt_615 : CO := (294, 1, [(0, 0, 0, 0, 0, 0), ((-2147483648), 2147483647, 0, (-2147483648), 0, 2147483647), (11, 20, 0, 11, 0, 20)], [(2, 180, 0), (0, 1, 0)], [(180, 41, (0, 2, 0))], [(1, 1, 0), (2, 180, 41)], [(none, [(0, 0, 0, 0, 0, 0), ((-2147483648), 2147483647, 0, (-2147483648), 0, 2147483647), (11, 20, 0, 11, 0, 20)], [(180, 41, (0, 2, 1))], [])], [(180, 41, 41), (199, 11, 20)], [], [], [])
set_option maxRecDepth 100000 in
theorem syc_615 : CoOk GG MM syt_615 := chk_ok (cs := []) (F := 4000) (fun _ h => absurd h List.not_mem_nil) (by decide +kernel) (by decide +kernel)
/-- M.writeWord -/
def syt_616 : CO := (297, 4, [(0, 0, 0, 0, 0, 0), (5442, 5442, 0, 5442, 0, 5442), (9, 18, 0, 9, 0, 18)], [(2, 180, 0), (1, 1, 0)], [(180, 41, (0, 2, 0))], [(1, 1, 0), (2, 180, 41)], [(none, [(0, 0, 0, 0, 0, 0), (5442, 5442, 0, 5442, 0, 5442), (9, 18, 0, 9, 0, 18)], [(180, 41, (0, 2, 3))], [])], [(180, 41, 41), (199, 9, 20)], [], [], [])
set_option maxRecDepth 100000 in
theorem syc_616 : CoOk GG MM syt_616 := chk_ok (cs := [syt_615, syt_614]) (F := 4000) (List.forall_mem_cons.mpr ⟨syc_615, List.forall_mem_cons.mpr ⟨syc_614, fun _ h => absurd h List.not_mem_nil⟩⟩) (by decide +kernel) (by decide +kernel)
/-- M.write -/
def syt_617 : CO := (294, 1, [(0, 0, 0, 0, 0, 0), ((-2147483648), 2147483647, 0, (-2147483648), 0, 2147483647), (12, 21, 0, 12, 0, 21)], [(2, 180, 0), (0, 1, 0)], [(180, 41, (0, 2, 0))], [(1, 1, 0), (2, 180, 41)], [(none, [(0, 0, 0, 0, 0, 0), ((-2147483648), 2147483647, 0, (-2147483648), 0, 2147483647), (12, 21, 0, 12, 0, 21)], [(180, 41, (0, 2, 1))], [])], [(180, 41, 41), (199, 12, 21)], [], [], [])
set_option maxRecDepth 100000 in
theorem syc_617 : CoOk GG MM syt_617 := chk_ok (cs := []) (F := 4000) (fun _ h => absurd h List.not_mem_nil) (by decide +kernel) (by decide +kernel)
/-- M.writeWord -/
def syt_618 : CO := (297, 5, [(0, 0, 0, 0, 0, 0), (146956, 146956, 0, 146956, 0, 146956), (9, 18, 0, 9, 0, 18)], [(2, 180, 0), (1, 1, 0)], [(180, 41, (0, 2, 0))], [(1, 1, 0), (2, 180, 41)], [(none, [(0, 0, 0, 0, 0, 0), (146956, 146956, 0, 146956, 0, 146956), (9, 18, 0, 9, 0, 18)], [(180, 41, (0, 2, 4))], [])], [(180, 41, 41), (199, 9, 21)], [], [], [])
set_option maxRecDepth 100000 in
theorem syc_618 : CoOk GG MM syt_618 := chk_ok (cs := [syt_617, syt_616]) (F := 4000) (List.forall_mem_cons.mpr ⟨syc_617, List.forall_mem_cons.mpr ⟨syc_616, fun _ h => absurd h List.not_mem_nil⟩⟩) (by decide +kernel) (by decide +kernel)
/-- M.write -/
def syt_619 : CO := (294, 1, [(0, 0, 0, 0, 0, 0), ((-2147483648), 2147483647, 0, (-2147483648), 0, 2147483647), (13, 22, 0, 13, 0, 22)], [(2, 180, 0), (0, 1, 0)], [(180, 41, (0, 2, 0))], [(1, 1, 0), (2, 180, 41)], [(none, [(0, 0, 0, 0, 0, 0), ((-2147483648), 2147483647, 0, (-2147483648), 0, 2147483647), (13, 22, 0, 13, 0, 22)], [(180, 41, (0, 2, 1))], [])], [(180, 41, 41), (199, 13, 22)], [], [], [])
set_option maxRecDepth 100000 in
theorem syc_619 : CoOk GG MM syt_619 := chk_ok (cs := []) (F := 4000) (fun _ h => absurd h List.not_mem_nil) (by decide +kernel) (by decide +kernel)
/-- M.writeWord -/
def syt_620 : CO := (297, 6, [(0, 0, 0, 0, 0, 0), (3967817, 3967817, 0, 3967817, 0, 3967817), (9, 18, 0, 9, 0, 18)], [(2, 180, 0), (1, 1, 0)], [(180, 41, (0, 2, 0))], [(1, 1, 0), (2, 180, 41)], [(none, [(0, 0, 0, 0, 0, 0), (3967817, 3967817, 0, 3967817, 0, 3967817), (9, 18, 0, 9, 0, 18)], [(180, 41, (0, 2, 5))], [])], [(180, 41, 41), (199, 9, 22)], [], [], [])
set_option maxRecDepth 100000 in
theorem syc_620 : CoOk GG MM syt_620 := chk_ok (cs := [syt_619, syt_618]) (F := 4000) (List.forall_mem_cons.mpr ⟨syc_619, List.forall_mem_cons.mpr ⟨syc_618, fun _ h => absurd h List.not_mem_nil⟩⟩) (by decide +kernel) (by decide +kernel)
/-- M.write -/
def syt_621 : CO := (294, 1, [(0, 0, 0, 0, 0, 0), ((-2147483648), 2147483647, 0, (-2147483648), 0, 2147483647), (14, 23, 0, 14, 0, 23)], [(2, 180, 0), (0, 1, 0)], [(180, 41, (0, 2, 0))], [(1, 1, 0), (2, 180, 41)], [(none, [(0, 0, 0, 0, 0, 0), ((-2147483648), 2147483647, 0, (-2147483648), 0, 2147483647), (14, 23, 0, 14, 0, 23)], [(180, 41, (0, 2, 1))], [])], [(180, 41, 41), (199, 14, 23)], [], [], [])
set_option maxRecDepth 100000 in
theorem syc_621 : CoOk GG MM syt_621 := chk_ok (cs := []) (F := 4000) (fun _ h => absurd h List.not_mem_nil) (by decide +kernel) (by decide +kernel)
/-- M.writeWord -/
def syt_622 : CO := (297, 7, [(0, 0, 0, 0, 0, 0), (107131063, 107131063, 0, 107131063, 0, 107131063), (9, 18, 0, 9, 0, 18)], [(2, 180, 0), (1, 1, 0)], [(180, 41, (0, 2, 0))], [(1, 1, 0), (2, 180, 41)], [(none, [(0, 0, 0, 0, 0, 0), (107131063, 107131063, 0, 107131063, 0, 107131063), (9, 18, 0, 9, 0, 18)], [(180, 41, (0, 2, 6))], [])], [(180, 41, 41), (199, 9, 23)], [], [], [])
set_option maxRecDepth 100000 in
theorem syc_622 : CoOk GG MM syt_622 := chk_ok (cs := [syt_621, syt_620]) (F := 4000) (List.forall_mem_cons.mpr ⟨syc_621, List.forall_mem_cons.mpr ⟨syc_620, fun _ h => absurd h List.not_mem_nil⟩⟩) (by decide +kernel) (by decide +kernel)
/-- M.writeNext -/
def syt_623 : CO := (295, 8, [(0, 0, 0, 0, 0, 0), (107131063, 107131063, 0, 107131063, 0, 107131063), (8, 17, 0, 8, 0, 17)], [(2, 180, 0), (1, 1, 0)], [(180, 41, (0, 2, 0))], [(1, 1, 0), (2, 180, 41)], [(none, [(0, 0, 0, 0, 0, 0), (107131063, 107131063, 0, 107131063, 0, 107131063), (8, 17, 0, 8, 0, 17)], [(180, 41, (0, 2, 7))], [])], [(180, 41, 41), (199, 8, 23)], [], [], [])
set_option maxRecDepth 100000 in
theorem syc_623 : CoOk GG MM syt_623 := chk_ok (cs := [syt_610, syt_622]) (F := 4000) (List.forall_mem_cons.mpr ⟨syc_610, List.forall_mem_cons.mpr ⟨syc_622, fun _ h => absurd h List.not_mem_nil⟩⟩) (by decide +kernel) (by decide +kernel)
/-- M.write -/
def syt_624 : CO := (294, 1, [(0, 0, 0, 0, 0, 0), ((-2147483648), 2147483647, 0, (-2147483648), 0, 2147483647), (15, 24, 0, 15, 0, 24)], [(2, 180, 0), (0, 1, 0)], [(180, 41, (0, 2, 0))], [(1, 1, 0), (2, 180, 41)], [(none, [(0, 0, 0, 0, 0, 0), ((-2147483648), 2147483647, 0, (-2147483648), 0, 2147483647), (15, 24, 0, 15, 0, 24)], [(180, 41, (0, 2, 1))], [])], [(180, 41, 41), (199, 15, 24)], [], [], [])
set_option maxRecDepth 100000 in
theorem syc_624 : CoOk GG MM syt_624 := chk_ok (cs := []) (F := 4000) (fun _ h => absurd h List.not_mem_nil) (by decide +kernel) (by decide +kernel)
/-- M.write -/
def syt_625 : CO := (294, 1, [(0, 0, 0, 0, 0, 0), ((-2147483648), 2147483647, 0, (-2147483648), 0, 2147483647), (16, 25, 0, 16, 0, 25)], [(2, 180, 0), (0, 1, 0)], [(180, 41, (0, 2, 0))], [(1, 1, 0), (2, 180, 41)], [(none, [(0, 0, 0, 0, 0, 0), ((-2147483648), 2147483647, 0, (-2147483648), 0, 2147483647), (16, 25, 0, 16, 0, 25)], [(180, 41, (0, 2, 1))], [])], [(180, 41, 41), (199, 16, 25)], [], [], [])
set_option maxRecDepth 100000 in
theorem syc_625 : CoOk GG MM syt_625 := chk_ok (cs := []) (F := 4000) (fun _ h => absurd h List.not_mem_nil) (by decide +kernel) (by decide +kernel)
/-- M.writeWord -/
def syt_626 : CO := (297, 2, [(0, 0, 0, 0, 0, 0), (23, 23, 0, 23, 0, 23), (16, 25, 0, 16, 0, 25)], [(2, 180, 0), (1, 1, 0)], [(180, 41, (0, 2, 0))], [(1, 1, 0), (2, 180, 41)], [(none, [(0, 0, 0, 0, 0, 0), (23, 23, 0, 23, 0, 23), (16, 25, 0, 16, 0, 25)], [(180, 41, (0, 2, 1))], [])], [(180, 41, 41), (199, 16, 25)], [], [], [])
set_option maxRecDepth 100000 in
theorem syc_626 : CoOk GG MM syt_626 := chk_ok (cs := [syt_625]) (F := 4000) (List.forall_mem_cons.mpr ⟨syc_625, fun _ h => absurd h List.not_mem_nil⟩) (by decide +kernel) (by decide +kernel)
/-- M.write -/
def syt_627 : CO := (294, 1, [(0, 0, 0, 0, 0, 0), ((-2147483648), 2147483647, 0, (-2147483648), 0, 2147483647), (17, 26, 0, 17, 0, 26)], [(2, 180, 0), (0, 1, 0)], [(180, 41, (0, 2, 0))], [(1, 1, 0), (2, 180, 41)], [(none, [(0, 0, 0, 0, 0, 0), ((-2147483648), 2147483647, 0, (-2147483648), 0, 2147483647), (17, 26, 0, 17, 0, 26)], [(180, 41, (0, 2, 1))], [])], [(180, 41, 41), (199, 17, 26)], [], [], [])
set_option maxRecDepth 100000 in
theorem syc_627 : CoOk GG MM syt_627 := chk_ok (cs := []) (F := 4000) (fun _ h => absurd h List.not_mem_nil) (by decide +kernel) (by decide +kernel)
/-- M.writeWord -/
def syt_628 : CO := (297, 3, [(0, 0, 0, 0, 0, 0), (626, 626, 0, 626, 0, 626), (16, 25, 0, 16, 0, 25)], [(2, 180, 0), (1, 1, 0)], [(180, 41, (0, 2, 0))], [(1, 1, 0), (2, 180, 41)], [(none, [(0, 0, 0, 0, 0, 0), (626, 626, 0, 626, 0, 626), (16, 25, 0, 16, 0, 25)], [(180, 41, (0, 2, 2))], [])], [(180, 41, 41), (199, 16, 26)], [], [], [])
set_option maxRecDepth 100000 in
theorem syc_628 : CoOk GG MM syt_628 := chk_ok (cs := [syt_627, syt_626]) (F := 4000) (List.forall_mem_cons.mpr ⟨syc_627, List.forall_mem_cons.mpr ⟨syc_626, fun _ h => absurd h List.not_mem_nil⟩⟩) (by decide +kernel) (by decide +kernel)
/-- M.write -/
def syt_629 : CO := (294, 1, [(0, 0, 0, 0, 0, 0), ((-2147483648), 2147483647, 0, (-2147483648), 0, 2147483647), (18, 27, 0, 18, 0, 27)], [(2, 180, 0), (0, 1, 0)], [(180, 41, (0, 2, 0))], [(1, 1, 0), (2, 180, 41)], [(none, [(0, 0, 0, 0, 0, 0), ((-2147483648), 2147483647, 0, (-2147483648), 0, 2147483647), (18, 27, 0, 18, 0, 27)], [(180, 41, (0, 2, 1))], [])], [(180, 41, 41), (199, 18, 27)], [], [], [])
set_option maxRecDepth 100000 in
theorem syc_629 : CoOk GG MM syt_629 := chk_ok (cs := []) (F := 4000) (fun _ h => absurd h List.not_mem_nil) (by decide +kernel) (by decide +kernel)
/-- M.writeWord -/
def syt_630 : CO := (297, 4, [(0, 0, 0, 0, 0, 0), (16906, 16906, 0, 16906, 0, 16906), (16, 25, 0, 16, 0, 25)], [(2, 180, 0), (1, 1, 0)], [(180, 41, (0, 2, 0))], [(1, 1, 0), (2, 180, 41)], [(none, [(0, 0, 0, 0, 0, 0), (16906, 16906, 0, 16906, 0, 16906), (16, 25, 0, 16, 0, 25)], [(180, 41, (0, 2, 3))], [])], [(180, 41, 41), (199, 16, 27)], [], [], [])
set_option maxRecDepth 100000 in
theorem syc_630 : CoOk GG MM syt_630 := chk_ok (cs := [syt_629, syt_628]) (F := 4000) (List.forall_mem_cons.mpr ⟨syc_629, List.forall_mem_cons.mpr ⟨syc_628, fun _ h => absurd h List.not_mem_nil⟩⟩) (by decide +kernel) (by decide +kernel)
/-- M.writeNext -/
def syt_631 : CO := (295, 5, [(0, 0, 0, 0, 0, 0), (16906, 16906, 0, 16906, 0, 16906), (15, 24, 0, 15, 0, 24)], [(2, 180, 0), (1, 1, 0)], [(180, 41, (0, 2, 0))], [(1, 1, 0), (2, 180, 41)], [(none, [(0, 0, 0, 0, 0, 0), (16906, 16906, 0, 16906, 0, 16906), (15, 24, 0, 15, 0, 24)], [(180, 41, (0, 2, 4))], [])], [(180, 41, 41), (199, 15, 27)], [], [], [])
set_option maxRecDepth 100000 in
theorem syc_631 : CoOk GG MM syt_631 := chk_ok (cs := [syt_624, syt_630]) (F := 4000) (List.forall_mem_cons.mpr ⟨syc_624, List.forall_mem_cons.mpr ⟨syc_630, fun _ h => absurd h List.not_mem_nil⟩⟩) (by decide +kernel) (by decide +kernel)
/-- M.write -/
def syt_632 : CO := (294, 1, [(0, 0, 0, 0, 0, 0), ((-2147483648), 2147483647, 0, (-2147483648), 0, 2147483647), (19, 28, 0, 19, 0, 28)], [(2, 180, 0), (0, 1, 0)], [(180, 41, (0, 2, 0))], [(1, 1, 0), (2, 180, 41)], [(none, [(0, 0, 0, 0, 0, 0), ((-2147483648), 2147483647, 0, (-2147483648), 0, 2147483647), (19, 28, 0, 19, 0, 28)], [(180, 41, (0, 2, 1))], [])], [(180, 41, 41), (199, 19, 28)], [], [], [])
set_option maxRecDepth 100000 in
theorem syc_632 : CoOk GG MM syt_632 := chk_ok (cs := []) (F := 4000) (fun _ h => absurd h List.not_mem_nil) (by decide +kernel) (by decide +kernel)
/-- M.write -/
def syt_633 : CO := (294, 1, [(0, 0, 0, 0, 0, 0), ((-2147483648), 2147483647, 0, (-2147483648), 0, 2147483647), (20, 29, 0, 20, 0, 29)], [(2, 180, 0), (0, 1, 0)], [(180, 41, (0, 2, 0))], [(1, 1, 0), (2, 180, 41)], [(none, [(0, 0, 0, 0, 0, 0), ((-2147483648), 2147483647, 0, (-2147483648), 0, 2147483647), (20, 29, 0, 20, 0, 29)], [(180, 41, (0, 2, 1))], [])], [(180, 41, 41), (199, 20, 29)], [], [], [])
set_option maxRecDepth 100000 in
theorem syc_633 : CoOk GG MM syt_633 := chk_ok (cs := []) (F := 4000) (fun _ h => absurd h List.not_mem_nil) (by decide +kernel) (by decide +kernel)
/-- M.writeWord -/
def syt_634 : CO := (297, 2, [(0, 0, 0, 0, 0, 0), (20, 20, 0, 20, 0, 20), (20, 29, 0, 20, 0, 29)], [(2, 180, 0), (1, 1, 0)], [(180, 41, (0, 2, 0))], [(1, 1, 0), (2, 180, 41)], [(none, [(0, 0, 0, 0, 0, 0), (20, 20, 0, 20, 0, 20), (20, 29, 0, 20, 0, 29)], [(180, 41, (0, 2, 1))], [])], [(180, 41, 41), (199, 20, 29)], [], [], [])
set_option maxRecDepth 100000 in
theorem syc_634 : CoOk GG MM syt_634 := chk_ok (cs := [syt_633]) (F := 4000) (List.forall_mem_cons.mpr ⟨syc_633, fun _ h => absurd h List.not_mem_nil⟩) (by decide +kernel) (by decide +kernel)
/-- M.write -/
def syt_635 : CO := (294, 1, [(0, 0, 0, 0, 0, 0), ((-2147483648), 2147483647, 0, (-2147483648), 0, 2147483647), (21, 30, 0, 21, 0, 30)], [(2, 180, 0), (0, 1, 0)], [(180, 41, (0, 2, 0))], [(1, 1, 0), (2, 180, 41)], [(none, [(0, 0, 0, 0, 0, 0), ((-2147483648), 2147483647, 0, (-2147483648), 0, 2147483647), (21, 30, 0, 21, 0, 30)], [(180, 41, (0, 2, 1))], [])], [(180, 41, 41), (199, 21, 30)], [], [], [])
set_option maxRecDepth 100000 in
theorem syc_635 : CoOk GG MM syt_635 := chk_ok (cs := []) (F := 4000) (fun _ h => absurd h List.not_mem_nil) (by decide +kernel) (by decide +kernel)
/-- M.writeWord -/
def syt_636 : CO := (297, 3, [(0, 0, 0, 0, 0, 0), (555, 555, 0, 555, 0, 555), (20, 29, 0, 20, 0, 29)], [(2, 180, 0), (1, 1, 0)], [(180, 41, (0, 2, 0))], [(1, 1, 0), (2, 180, 41)], [(none, [(0, 0, 0, 0, 0, 0), (555, 555, 0, 555, 0, 555), (20, 29, 0, 20, 0, 29)], [(180, 41, (0, 2, 2))], [])], [(180, 41, 41), (199, 20, 30)], [], [], [])
set_option maxRecDepth 100000 in
theorem syc_636 : CoOk GG MM syt_636 := chk_ok (cs := [syt_635, syt_634]) (F := 4000) (List.forall_mem_cons.mpr ⟨syc_635, List.forall_mem_cons.mpr ⟨syc_634, fun _ h => absurd h List.not_mem_nil⟩⟩) (by decide +kernel) (by decide +kernel)
/-- M.writeNext -/
def syt_637 : CO := (295, 4, [(0, 0, 0, 0, 0, 0), (555, 555, 0, 555, 0, 555), (19, 28, 0, 19, 0, 28)], [(2, 180, 0), (1, 1, 0)], [(180, 41, (0, 2, 0))], [(1, 1, 0), (2, 180, 41)], [(none, [(0, 0, 0, 0, 0, 0), (555, 555, 0, 555, 0, 555), (19, 28, 0, 19, 0, 28)], [(180, 41, (0, 2, 3))], [])], [(180, 41, 41), (199, 19, 30)], [], [], [])
set_option maxRecDepth 100000 in
theorem syc_637 : CoOk GG MM syt_637 := chk_ok (cs := [syt_632, syt_636]) (F := 4000) (List.forall_mem_cons.mpr ⟨syc_632, List.forall_mem_cons.mpr ⟨syc_636, fun _ h => absurd h List.not_mem_nil⟩⟩) (by decide +kernel) (by decide +kernel)
/-- M.write -/
def syt_638 : CO := (294, 1, [(0, 0, 0, 0, 0, 0), ((-2147483648), 2147483647, 0, (-2147483648), 0, 2147483647), (22, 31, 0, 22, 0, 31)], [(2, 180, 0), (0, 1, 0)], [(180, 41, (0, 2, 0))], [(1, 1, 0), (2, 180, 41)], [(none, [(0, 0, 0, 0, 0, 0), ((-2147483648), 2147483647, 0, (-2147483648), 0, 2147483647), (22, 31, 0, 22, 0, 31)], [(180, 41, (0, 2, 1))], [])], [(180, 41, 41), (199, 22, 31)], [], [], [])
set_option maxRecDepth 100000 in
theorem syc_638 : CoOk GG MM syt_638 := chk_ok (cs := []) (F := 4000) (fun _ h => absurd h List.not_mem_nil) (by decide +kernel) (by decide +kernel)
/-- M.write -/
def syt_639 : CO := (294, 1, [(0, 0, 0, 0, 0, 0), ((-2147483648), 2147483647, 0, (-2147483648), 0, 2147483647), (23, 32, 0, 23, 0, 32)], [(2, 180, 0), (0, 1, 0)], [(180, 41, (0, 2, 0))], [(1, 1, 0), (2, 180, 41)], [(none, [(0, 0, 0, 0, 0, 0), ((-2147483648), 2147483647, 0, (-2147483648), 0, 2147483647), (23, 32, 0, 23, 0, 32)], [(180, 41, (0, 2, 1))], [])], [(180, 41, 41), (199, 23, 32)], [], [], [])
set_option maxRecDepth 100000 in
theorem syc_639 : CoOk GG MM syt_639 := chk_ok (cs := []) (F := 4000) (fun _ h => absurd h List.not_mem_nil) (by decide +kernel) (by decide +kernel)
/-- M.writeWord -/
def syt_640 : CO := (297, 2, [(0, 0, 0, 0, 0, 0), (1, 26, 0, 1, 0, 26), (23, 32, 0, 23, 0, 32)], [(2, 180, 0), (1, 1, 0)], [(180, 41, (0, 2, 0))], [(1, 1, 0), (2, 180, 41)], [(none, [(0, 0, 0, 0, 0, 0), (1, 26, 0, 1, 0, 26), (23, 32, 0, 23, 0, 32)], [(180, 41, (0, 2, 1))], [])], [(180, 41, 41), (199, 23, 32)], [], [], [])
set_option maxRecDepth 100000 in
theorem syc_640 : CoOk GG MM syt_640 := chk_ok (cs := [syt_639]) (F := 4000) (List.forall_mem_cons.mpr ⟨syc_639, fun _ h => absurd h List.not_mem_nil⟩) (by decide +kernel) (by decide +kernel)
/-- M.write -/
def syt_641 : CO := (294, 1, [(0, 0, 0, 0, 0, 0), ((-2147483648), 2147483647, 0, (-2147483648), 0, 2147483647), (24, 33, 0, 24, 0, 33)], [(2, 180, 0), (0, 1, 0)], [(180, 41, (0, 2, 0))], [(1, 1, 0), (2, 180, 41)], [(none, [(0, 0, 0, 0, 0, 0), ((-2147483648), 2147483647, 0, (-2147483648), 0, 2147483647), (24, 33, 0, 24, 0, 33)], [(180, 41, (0, 2, 1))], [])], [(180, 41, 41), (199, 24, 33)], [], [], [])
set_option maxRecDepth 100000 in
theorem syc_641 : CoOk GG MM syt_641 := chk_ok (cs := []) (F := 4000) (fun _ h => absurd h List.not_mem_nil) (by decide +kernel) (by decide +kernel)
/-- M.writeWord -/
def syt_642 : CO := (297, 2, [(0, 0, 0, 0, 0, 0), (1, 1, 0, 1, 0, 1), (23, 32, 0, 23, 0, 32)], [(2, 180, 0), (1, 1, 0)], [(180, 41, (0, 2, 0))], [(1, 1, 0), (2, 180, 41)], [(none, [(0, 0, 0, 0, 0, 0), (1, 1, 0, 1, 0, 1), (23, 32, 0, 23, 0, 32)], [(180, 41, (0, 2, 1))], [])], [(180, 41, 41), (199, 23, 32)], [], [], [])
set_option maxRecDepth 100000 in
theorem syc_642 : CoOk GG MM syt_642 := chk_ok (cs := [syt_639]) (F := 4000) (List.forall_mem_cons.mpr ⟨syc_639, fun _ h => absurd h List.not_mem_nil⟩) (by decide +kernel) (by decide +kernel)
/-- M.writeWord -/
def syt_643 : CO := (297, 3, [(0, 0, 0, 0, 0, 0), (1, 728, 0, 1, 0, 728), (23, 32, 0, 23, 0, 32)], [(2, 180, 0), (1, 1, 0)], [(180, 41, (0, 2, 0))], [(1, 1, 0), (2, 180, 41)], [(none, [(0, 0, 0, 0, 0, 0), (1, 728, 0, 1, 0, 728), (23, 32, 0, 23, 0, 32), (24, 34, 2, 1, 0, 34)], [(180, 41, (0, 3, 0))], [(2, 180, 41)])], [(180, 41, 41), (199, 23, 33)], [], [], [])
set_option maxRecDepth 100000 in
theorem syc_643 : CoOk GG MM syt_643 := chk_ok (cs := [syt_639, syt_641, syt_642, syt_640]) (F := 4000) (List.forall_mem_cons.mpr ⟨syc_639, List.forall_mem_cons.mpr ⟨syc_641, List.forall_mem_cons.mpr ⟨syc_642, List.forall_mem_cons.mpr ⟨syc_640, fun _ h => absurd h List.not_mem_nil⟩⟩⟩⟩) (by decide +kernel) (by decide +kernel)
/-- M.write -/
def syt_644 : CO := (294, 1, [(0, 0, 0, 0, 0, 0), ((-2147483648), 2147483647, 0, (-2147483648), 0, 2147483647), (24, 34, 0, 24, 0, 34)], [(2, 180, 0), (0, 1, 0)], [(180, 41, (0, 2, 0))], [(1, 1, 0), (2, 180, 41)], [(none, [(0, 0, 0, 0, 0, 0), ((-2147483648), 2147483647, 0, (-2147483648), 0, 2147483647), (24, 34, 0, 24, 0, 34)], [(180, 41, (0, 2, 1))], [])], [(180, 41, 41), (199, 24, 34)], [], [], [])
set_option maxRecDepth 100000 in
theorem syc_644 : CoOk GG MM syt_644 := chk_ok (cs := []) (F := 4000) (fun _ h => absurd h List.not_mem_nil) (by decide +kernel) (by decide +kernel)
/-- M.writeWord -/
def syt_645 : CO := (297, 4, [(0, 0, 0, 0, 0, 0), (1, 19682, 0, 1, 0, 19682), (23, 32, 0, 23, 0, 32)], [(2, 180, 0), (1, 1, 0)], [(180, 41, (0, 2, 0))], [(1, 1, 0), (2, 180, 41)], [(none, [(0, 0, 0, 0, 0, 0), (1, 19682, 0, 1, 0, 19682), (23, 32, 0, 23, 0, 32), (24, 35, 2, 1, 0, 35)], [(180, 41, (0, 3, 0))], [(2, 180, 41)])], [(180, 41, 41), (199, 23, 34)], [], [], [])
set_option maxRecDepth 100000 in
theorem syc_645 : CoOk GG MM syt_645 := chk_ok (cs := [syt_639, syt_641, syt_644, syt_642, syt_643]) (F := 4000) (List.forall_mem_cons.mpr ⟨syc_639, List.forall_mem_cons.mpr ⟨syc_641, List.forall_mem_cons.mpr ⟨syc_644, List.forall_mem_cons.mpr ⟨syc_642, List.forall_mem_cons.mpr ⟨syc_643, fun _ h => absurd h List.not_mem_nil⟩⟩⟩⟩⟩) (by decide +kernel) (by decide +kernel)
/-- M.write -/
def syt_646 : CO := (294, 1, [(0, 0, 0, 0, 0, 0), ((-2147483648), 2147483647, 0, (-2147483648), 0, 2147483647), (24, 35, 0, 24, 0, 35)], [(2, 180, 0), (0, 1, 0)], [(180, 41, (0, 2, 0))], [(1, 1, 0), (2, 180, 41)], [(none, [(0, 0, 0, 0, 0, 0), ((-2147483648), 2147483647, 0, (-2147483648), 0, 2147483647), (24, 35, 0, 24, 0, 35)], [(180, 41, (0, 2, 1))], [])], [(180, 41, 41), (199, 24, 35)], [], [], [])
set_option maxRecDepth 100000 in
theorem syc_646 : CoOk GG MM syt_646 := chk_ok (cs := []) (F := 4000) (fun _ h => absurd h List.not_mem_nil) (by decide +kernel) (by decide +kernel)
/-- M.writeWord -/
def syt_647 : CO := (297, 5, [(0, 0, 0, 0, 0, 0), (1, 531440, 0, 1, 0, 531440), (23, 32, 0, 23, 0, 32)], [(2, 180, 0), (1, 1, 0)], [(180, 41, (0, 2, 0))], [(1, 1, 0), (2, 180, 41)], [(none, [(0, 0, 0, 0, 0, 0), (1, 531440, 0, 1, 0, 531440), (23, 32, 0, 23, 0, 32), (24, 36, 2, 1, 0, 36)], [(180, 41, (0, 3, 0))], [(2, 180, 41)])], [(180, 41, 41), (199, 23, 35)], [], [], [])
set_option maxRecDepth 100000 in
theorem syc_647 : CoOk GG MM syt_647 := chk_ok (cs := [syt_639, syt_641, syt_646, syt_642, syt_645]) (F := 4000) (List.forall_mem_cons.mpr ⟨syc_639, List.forall_mem_cons.mpr ⟨syc_641, List.forall_mem_cons.mpr ⟨syc_646, List.forall_mem_cons.mpr ⟨syc_642, List.forall_mem_cons.mpr ⟨syc_645, fun _ h => absurd h List.not_mem_nil⟩⟩⟩⟩⟩) (by decide +kernel) (by decide +kernel)
/-- M.write -/
def syt_648 : CO := (294, 1, [(0, 0, 0, 0, 0, 0), ((-2147483648), 2147483647, 0, (-2147483648), 0, 2147483647), (24, 36, 0, 24, 0, 36)], [(2, 180, 0), (0, 1, 0)], [(180, 41, (0, 2, 0))], [(1, 1, 0), (2, 180, 41)], [(none, [(0, 0, 0, 0, 0, 0), ((-2147483648), 2147483647, 0, (-2147483648), 0, 2147483647), (24, 36, 0, 24, 0, 36)], [(180, 41, (0, 2, 1))], [])], [(180, 41, 41), (199, 24, 36)], [], [], [])
set_option maxRecDepth 100000 in
theorem syc_648 : CoOk GG MM syt_648 := chk_ok (cs := []) (F := 4000) (fun _ h => absurd h List.not_mem_nil) (by decide +kernel) (by decide +kernel)
/-- M.writeWord -/
def syt_649 : CO := (297, 6, [(0, 0, 0, 0, 0, 0), (1, 14348906, 0, 1, 0, 14348906), (23, 32, 0, 23, 0, 32)], [(2, 180, 0), (1, 1, 0)], [(180, 41, (0, 2, 0))], [(1, 1, 0), (2, 180, 41)], [(none, [(0, 0, 0, 0, 0, 0), (1, 14348906, 0, 1, 0, 14348906), (23, 32, 0, 23, 0, 32), (24, 37, 2, 1, 0, 37)], [(180, 41, (0, 3, 0))], [(2, 180, 41)])], [(180, 41, 41), (199, 23, 36)], [], [], [])
set_option maxRecDepth 100000 in
theorem syc_649 : CoOk GG MM syt_649 := chk_ok (cs := [syt_639, syt_641, syt_648, syt_642, syt_647]) (F := 4000) (List.forall_mem_cons.mpr ⟨syc_639, List.forall_mem_cons.mpr ⟨syc_641, List.forall_mem_cons.mpr ⟨syc_648, List.forall_mem_cons.mpr ⟨syc_642, List.forall_mem_cons.mpr ⟨syc_647, fun _ h => absurd h List.not_mem_nil⟩⟩⟩⟩⟩) (by decide +kernel) (by decide +kernel)
/-- M.write -/
def syt_650 : CO := (294, 1, [(0, 0, 0, 0, 0, 0), ((-2147483648), 2147483647, 0, (-2147483648), 0, 2147483647), (24, 37, 0, 24, 0, 37)], [(2, 180, 0), (0, 1, 0)], [(180, 41, (0, 2, 0))], [(1, 1, 0), (2, 180, 41)], [(none, [(0, 0, 0, 0, 0, 0), ((-2147483648), 2147483647, 0, (-2147483648), 0, 2147483647), (24, 37, 0, 24, 0, 37)], [(180, 41, (0, 2, 1))], [])], [(180, 41, 41), (199, 24, 37)], [], [], [])
set_option maxRecDepth 100000 in
theorem syc_650 : CoOk GG MM syt_650 := chk_ok (cs := []) (F := 4000) (fun _ h => absurd h List.not_mem_nil) (by decide +kernel) (by decide +kernel)
/-- M.writeWord -/
def syt_651 : CO := (297, 7, [(0, 0, 0, 0, 0, 0), (1, 387420488, 0, 1, 0, 387420488), (23, 32, 0, 23, 0, 32)], [(2, 180, 0), (1, 1, 0)], [(180, 41, (0, 2, 0))], [(1, 1, 0), (2, 180, 41)], [(none, [(0, 0, 0, 0, 0, 0), (1, 387420488, 0, 1, 0, 387420488), (23, 32, 0, 23, 0, 32), (24, 38, 2, 1, 0, 38)], [(180, 41, (0, 3, 0))], [(2, 180, 41)])], [(180, 41, 41), (199, 23, 37)], [], [], [])
set_option maxRecDepth 100000 in
theorem syc_651 : CoOk GG MM syt_651 := chk_ok (cs := [syt_639, syt_641, syt_650, syt_642, syt_649]) (F := 4000) (List.forall_mem_cons.mpr ⟨syc_639, List.forall_mem_cons.mpr ⟨syc_641, List.forall_mem_cons.mpr ⟨syc_650, List.forall_mem_cons.mpr ⟨syc_642, List.forall_mem_cons.mpr ⟨syc_649, fun _ h => absurd h List.not_mem_nil⟩⟩⟩⟩⟩) (by decide +kernel) (by decide +kernel)
/-- M.write -/
def syt_652 : CO := (294, 1, [(0, 0, 0, 0, 0, 0), ((-2147483648), 2147483647, 0, (-2147483648), 0, 2147483647), (24, 38, 0, 24, 0, 38)], [(2, 180, 0), (0, 1, 0)], [(180, 41, (0, 2, 0))], [(1, 1, 0), (2, 180, 41)], [(none, [(0, 0, 0, 0, 0, 0), ((-2147483648), 2147483647, 0, (-2147483648), 0, 2147483647), (24, 38, 0, 24, 0, 38)], [(180, 41, (0, 2, 1))], [])], [(180, 41, 41), (199, 24, 38)], [], [], [])
set_option maxRecDepth 100000 in
theorem syc_652 : CoOk GG MM syt_652 := chk_ok (cs := []) (F := 4000) (fun _ h => absurd h List.not_mem_nil) (by decide +kernel) (by decide +kernel)
/-- M.writeWord -/
def syt_653 : CO := (297, 8, [(0, 0, 0, 0, 0, 0), (1, 10460353202, 0, 1, 0, 10460353202), (23, 32, 0, 23, 0, 32)], [(2, 180, 0), (1, 1, 0)], [(180, 41, (0, 2, 0))], [(1, 1, 0), (2, 180, 41)], [(none, [(0, 0, 0, 0, 0, 0), (1, 10460353202, 0, 1, 0, 10460353202), (23, 32, 0, 23, 0, 32), (24, 39, 2, 1, 0, 39)], [(180, 41, (0, 3, 0))], [(2, 180, 41)])], [(180, 41, 41), (199, 23, 38)], [], [], [])
set_option maxRecDepth 100000 in
theorem syc_653 : CoOk GG MM syt_653 := chk_ok (cs := [syt_639, syt_641, syt_652, syt_642, syt_651]) (F := 4000) (List.forall_mem_cons.mpr ⟨syc_639, List.forall_mem_cons.mpr ⟨syc_641, List.forall_mem_cons.mpr ⟨syc_652, List.forall_mem_cons.mpr ⟨syc_642, List.forall_mem_cons.mpr ⟨syc_651, fun _ h => absurd h List.not_mem_nil⟩⟩⟩⟩⟩) (by decide +kernel) (by decide +kernel)
/-- M.write -/
def syt_654 : CO := (294, 1, [(0, 0, 0, 0, 0, 0), ((-2147483648), 2147483647, 0, (-2147483648), 0, 2147483647), (24, 39, 0, 24, 0, 39)], [(2, 180, 0), (0, 1, 0)], [(180, 41, (0, 2, 0))], [(1, 1, 0), (2, 180, 41)], [(none, [(0, 0, 0, 0, 0, 0), ((-2147483648), 2147483647, 0, (-2147483648), 0, 2147483647), (24, 39, 0, 24, 0, 39)], [(180, 41, (0, 2, 1))], [])], [(180, 41, 41), (199, 24, 39)], [], [], [])
set_option maxRecDepth 100000 in
theorem syc_654 : CoOk GG MM syt_654 := chk_ok (cs := []) (F := 4000) (fun _ h => absurd h List.not_mem_nil) (by decide +kernel) (by decide +kernel)
/-- M.writeWord -/
def syt_655 : CO := (297, 9, [(0, 0, 0, 0, 0, 0), ((-9223372036854775808), 282429536480, 0, (-9223372036854775808), 0, 282429536480), (23, 32, 0, 23, 0, 32)], [(2, 180, 0), (1, 1, 0)], [(180, 41, (0, 2, 0))], [(1, 1, 0), (2, 180, 41)], [(none, [(0, 0, 0, 0, 0, 0), ((-9223372036854775808), 282429536480, 0, (-9223372036854775808), 0, 282429536480), (23, 32, 0, 23, 0, 32), (24, 40, 2, 1, 0, 40)], [(180, 41, (0, 3, 0))], [(2, 180, 41)])], [(180, 41, 41), (199, 23, 39)], [], [], [])
set_option maxRecDepth 100000 in
theorem syc_655 : CoOk GG MM syt_655 := chk_ok (cs := [syt_639, syt_641, syt_654, syt_642, syt_653]) (F := 4000) (List.forall_mem_cons.mpr ⟨syc_639, List.forall_mem_cons.mpr ⟨syc_641, List.forall_mem_cons.mpr ⟨syc_654, List.forall_mem_cons.mpr ⟨syc_642, List.forall_mem_cons.mpr ⟨syc_653, fun _ h => absurd h List.not_mem_nil⟩⟩⟩⟩⟩) (by decide +kernel) (by decide +kernel)
/-- M.writeNext -/
def syt_656 : CO := (295, 10, [(0, 0, 0, 0, 0, 0), ((-9223372036854775808), 282429536480, 0, (-9223372036854775808), 0, 282429536480), (22, 31, 0, 22, 0, 31)], [(2, 180, 0), (1, 1, 0)], [(180, 41, (0, 2, 0))], [(1, 1, 0), (2, 180, 41)], [(none, [(0, 0, 0, 0, 0, 0), ((-9223372036854775808), 282429536480, 0, (-9223372036854775808), 0, 282429536480), (22, 31, 0, 22, 0, 31), (24, 40, 2, 2, 0, 40)], [(180, 41, (0, 3, 0))], [(2, 180, 41)])], [(180, 41, 41), (199, 22, 39)], [], [], [])
set_option maxRecDepth 100000 in
theorem syc_656 : CoOk GG MM syt_656 := chk_ok (cs := [syt_638, syt_655]) (F := 4000) (List.forall_mem_cons.mpr ⟨syc_638, List.forall_mem_cons.mpr ⟨syc_655, fun _ h => absurd h List.not_mem_nil⟩⟩) (by decide +kernel) (by decide +kernel)
/-- M.writeWord -/
def syt_657 : CO := (297, 2, [(0, 0, 0, 0, 0, 0), (23, 23, 0, 23, 0, 23), (9, 18, 0, 9, 0, 18)], [(2, 180, 0), (1, 1, 0)], [(180, 41, (0, 2, 0))], [(1, 1, 0), (2, 180, 41)], [(none, [(0, 0, 0, 0, 0, 0), (23, 23, 0, 23, 0, 23), (9, 18, 0, 9, 0, 18)], [(180, 41, (0, 2, 1))], [])], [(180, 41, 41), (199, 9, 18)], [], [], [])
set_option maxRecDepth 100000 in
theorem syc_657 : CoOk GG MM syt_657 := chk_ok (cs := [syt_611]) (F := 4000) (List.forall_mem_cons.mpr ⟨syc_611, fun _ h => absurd h List.not_mem_nil⟩) (by decide +kernel) (by decide +kernel)
/-- M.writeWord -/
def syt_658 : CO := (297, 3, [(0, 0, 0, 0, 0, 0), (626, 626, 0, 626, 0, 626), (9, 18, 0, 9, 0, 18)], [(2, 180, 0), (1, 1, 0)], [(180, 41, (0, 2, 0))], [(1, 1, 0), (2, 180, 41)], [(none, [(0, 0, 0, 0, 0, 0), (626, 626, 0, 626, 0, 626), (9, 18, 0, 9, 0, 18)], [(180, 41, (0, 2, 2))], [])], [(180, 41, 41), (199, 9, 19)], [], [], [])
set_option maxRecDepth 100000 in
theorem syc_658 : CoOk GG MM syt_658 := chk_ok (cs := [syt_613, syt_657]) (F := 4000) (List.forall_mem_cons.mpr ⟨syc_613, List.forall_mem_cons.mpr ⟨syc_657, fun _ h => absurd h List.not_mem_nil⟩⟩) (by decide +kernel) (by decide +kernel)
/-- M.writeWord -/
def syt_659 : CO := (297, 4, [(0, 0, 0, 0, 0, 0), (16906, 16906, 0, 16906, 0, 16906), (9, 18, 0, 9, 0, 18)], [(2, 180, 0), (1, 1, 0)], [(180, 41, (0, 2, 0))], [(1, 1, 0), (2, 180, 41)], [(none, [(0, 0, 0, 0, 0, 0), (16906, 16906, 0, 16906, 0, 16906), (9, 18, 0, 9, 0, 18)], [(180, 41, (0, 2, 3))], [])], [(180, 41, 41), (199, 9, 20)], [], [], [])
set_option maxRecDepth 100000 in
theorem syc_659 : CoOk GG MM syt_659 := chk_ok (cs := [syt_615, syt_658]) (F := 4000) (List.forall_mem_cons.mpr ⟨syc_615, List.forall_mem_cons.mpr ⟨syc_658, fun _ h => absurd h List.not_mem_nil⟩⟩) (by decide +kernel) (by decide +kernel)
/-- M.writeNext -/
def syt_660 : CO := (295, 5, [(0, 0, 0, 0, 0, 0), (16906, 16906, 0, 16906, 0, 16906), (8, 17, 0, 8, 0, 17)], [(2, 180, 0), (1, 1, 0)], [(180, 41, (0, 2, 0))], [(1, 1, 0), (2, 180, 41)], [(none, [(0, 0, 0, 0, 0, 0), (16906, 16906, 0, 16906, 0, 16906), (8, 17, 0, 8, 0, 17)], [(180, 41, (0, 2, 4))], [])], [(180, 41, 41), (199, 8, 20)], [], [], [])
set_option maxRecDepth 100000 in
theorem syc_660 : CoOk GG MM syt_660 := chk_ok (cs := [syt_610, syt_659]) (F := 4000) (List.forall_mem_cons.mpr ⟨syc_610, List.forall_mem_cons.mpr ⟨syc_659, fun _ h => absurd h List.not_mem_nil⟩⟩) (by decide +kernel) (by decide +kernel)
/-- M.writeWord -/
def syt_661 : CO := (297, 2, [(0, 0, 0, 0, 0, 0), (20, 20, 0, 20, 0, 20), (13, 22, 0, 13, 0, 22)], [(2, 180, 0), (1, 1, 0)], [(180, 41, (0, 2, 0))], [(1, 1, 0), (2, 180, 41)], [(none, [(0, 0, 0, 0, 0, 0), (20, 20, 0, 20, 0, 20), (13, 22, 0, 13, 0, 22)], [(180, 41, (0, 2, 1))], [])], [(180, 41, 41), (199, 13, 22)], [], [], [])
set_option maxRecDepth 100000 in
theorem syc_661 : CoOk GG MM syt_661 := chk_ok (cs := [syt_619]) (F := 4000) (List.forall_mem_cons.mpr ⟨syc_619, fun _ h => absurd h List.not_mem_nil⟩) (by decide +kernel) (by decide +kernel)
/-- M.writeWord -/
def syt_662 : CO := (297, 3, [(0, 0, 0, 0, 0, 0), (555, 555, 0, 555, 0, 555), (13, 22, 0, 13, 0, 22)], [(2, 180, 0), (1, 1, 0)], [(180, 41, (0, 2, 0))], [(1, 1, 0), (2, 180, 41)], [(none, [(0, 0, 0, 0, 0, 0), (555, 555, 0, 555, 0, 555), (13, 22, 0, 13, 0, 22)], [(180, 41, (0, 2, 2))], [])], [(180, 41, 41), (199, 13, 23)], [], [], [])
set_option maxRecDepth 100000 in
theorem syc_662 : CoOk GG MM syt_662 := chk_ok (cs := [syt_621, syt_661]) (F := 4000) (List.forall_mem_cons.mpr ⟨syc_621, List.forall_mem_cons.mpr ⟨syc_661, fun _ h => absurd h List.not_mem_nil⟩⟩) (by decide +kernel) (by decide +kernel)
/-- M.writeNext -/
def syt_663 : CO := (295, 4, [(0, 0, 0, 0, 0, 0), (555, 555, 0, 555, 0, 555), (12, 21, 0, 12, 0, 21)], [(2, 180, 0), (1, 1, 0)], [(180, 41, (0, 2, 0))], [(1, 1, 0), (2, 180, 41)], [(none, [(0, 0, 0, 0, 0, 0), (555, 555, 0, 555, 0, 555), (12, 21, 0, 12, 0, 21)], [(180, 41, (0, 2, 3))], [])], [(180, 41, 41), (199, 12, 23)], [], [], [])
set_option maxRecDepth 100000 in
theorem syc_663 : CoOk GG MM syt_663 := chk_ok (cs := [syt_617, syt_662]) (F := 4000) (List.forall_mem_cons.mpr ⟨syc_617, List.forall_mem_cons.mpr ⟨syc_662, fun _ h => absurd h List.not_mem_nil⟩⟩) (by decide +kernel) (by decide +kernel)
/-- M.writeWord -/
def syt_664 : CO := (297, 2, [(0, 0, 0, 0, 0, 0), (1, 26, 0, 1, 0, 26), (16, 25, 0, 16, 0, 25)], [(2, 180, 0), (1, 1, 0)], [(180, 41, (0, 2, 0))], [(1, 1, 0), (2, 180, 41)], [(none, [(0, 0, 0, 0, 0, 0), (1, 26, 0, 1, 0, 26), (16, 25, 0, 16, 0, 25)], [(180, 41, (0, 2, 1))], [])], [(180, 41, 41), (199, 16, 25)], [], [], [])
set_option maxRecDepth 100000 in
theorem syc_664 : CoOk GG MM syt_664 := chk_ok (cs := [syt_625]) (F := 4000) (List.forall_mem_cons.mpr ⟨syc_625, fun _ h => absurd h List.not_mem_nil⟩) (by decide +kernel) (by decide +kernel)
/-- M.writeWord -/
def syt_665 : CO := (297, 2, [(0, 0, 0, 0, 0, 0), (1, 1, 0, 1, 0, 1), (16, 25, 0, 16, 0, 25)], [(2, 180, 0), (1, 1, 0)], [(180, 41, (0, 2, 0))], [(1, 1, 0), (2, 180, 41)], [(none, [(0, 0, 0, 0, 0, 0), (1, 1, 0, 1, 0, 1), (16, 25, 0, 16, 0, 25)], [(180, 41, (0, 2, 1))], [])], [(180, 41, 41), (199, 16, 25)], [], [], [])
set_option maxRecDepth 100000 in
theorem syc_665 : CoOk GG MM syt_665 := chk_ok (cs := [syt_625]) (F := 4000) (List.forall_mem_cons.mpr ⟨syc_625, fun _ h => absurd h List.not_mem_nil⟩) (by decide +kernel) (by decide +kernel)
/-- M.writeWord -/
def syt_666 : CO := (297, 3, [(0, 0, 0, 0, 0, 0), (1, 728, 0, 1, 0, 728), (16, 25, 0, 16, 0, 25)], [(2, 180, 0), (1, 1, 0)], [(180, 41, (0, 2, 0))], [(1, 1, 0), (2, 180, 41)], [(none, [(0, 0, 0, 0, 0, 0), (1, 728, 0, 1, 0, 728), (16, 25, 0, 16, 0, 25), (17, 27, 2, 1, 0, 27)], [(180, 41, (0, 3, 0))], [(2, 180, 41)])], [(180, 41, 41), (199, 16, 26)], [], [], [])
set_option maxRecDepth 100000 in
theorem syc_666 : CoOk GG MM syt_666 := chk_ok (cs := [syt_625, syt_627, syt_665, syt_664]) (F := 4000) (List.forall_mem_cons.mpr ⟨syc_625, List.forall_mem_cons.mpr ⟨syc_627, List.forall_mem_cons.mpr ⟨syc_665, List.forall_mem_cons.mpr ⟨syc_664, fun _ h => absurd h List.not_mem_nil⟩⟩⟩⟩) (by decide +kernel) (by decide +kernel)
/-- M.write -/
def syt_667 : CO := (294, 1, [(0, 0, 0, 0, 0, 0), ((-2147483648), 2147483647, 0, (-2147483648), 0, 2147483647), (17, 27, 0, 17, 0, 27)], [(2, 180, 0), (0, 1, 0)], [(180, 41, (0, 2, 0))], [(1, 1, 0), (2, 180, 41)], [(none, [(0, 0, 0, 0, 0, 0), ((-2147483648), 2147483647, 0, (-2147483648), 0, 2147483647), (17, 27, 0, 17, 0, 27)], [(180, 41, (0, 2, 1))], [])], [(180, 41, 41), (199, 17, 27)], [], [], [])
set_option maxRecDepth 100000 in
theorem syc_667 : CoOk GG MM syt_667 := chk_ok (cs := []) (F := 4000) (fun _ h => absurd h List.not_mem_nil) (by decide +kernel) (by decide +kernel)
/-- M.writeWord -/
def syt_668 : CO := (297, 4, [(0, 0, 0, 0, 0, 0), (1, 19682, 0, 1, 0, 19682), (16, 25, 0, 16, 0, 25)], [(2, 180, 0), (1, 1, 0)], [(180, 41, (0, 2, 0))], [(1, 1, 0), (2, 180, 41)], [(none, [(0, 0, 0, 0, 0, 0), (1, 19682, 0, 1, 0, 19682), (16, 25, 0, 16, 0, 25), (17, 28, 2, 1, 0, 28)], [(180, 41, (0, 3, 0))], [(2, 180, 41)])], [(180, 41, 41), (199, 16, 27)], [], [], [])
set_option maxRecDepth 100000 in
theorem syc_668 : CoOk GG MM syt_668 := chk_ok (cs := [syt_625, syt_627, syt_667, syt_665, syt_666]) (F := 4000) (List.forall_mem_cons.mpr ⟨syc_625, List.forall_mem_cons.mpr ⟨syc_627, List.forall_mem_cons.mpr ⟨syc_667, List.forall_mem_cons.mpr ⟨syc_665, List.forall_mem_cons.mpr ⟨syc_666, fun _ h => absurd h List.not_mem_nil⟩⟩⟩⟩⟩) (by decide +kernel) (by decide +kernel)
/-- M.write -/
def syt_669 : CO := (294, 1, [(0, 0, 0, 0, 0, 0), ((-2147483648), 2147483647, 0, (-2147483648), 0, 2147483647), (17, 28, 0, 17, 0, 28)], [(2, 180, 0), (0, 1, 0)], [(180, 41, (0, 2, 0))], [(1, 1, 0), (2, 180, 41)], [(none, [(0, 0, 0, 0, 0, 0), ((-2147483648), 2147483647, 0, (-2147483648), 0, 2147483647), (17, 28, 0, 17, 0, 28)], [(180, 41, (0, 2, 1))], [])], [(180, 41, 41), (199, 17, 28)], [], [], [])
set_option maxRecDepth 100000 in
theorem syc_669 : CoOk GG MM syt_669 := chk_ok (cs := []) (F := 4000) (fun _ h => absurd h List.not_mem_nil) (by decide +kernel) (by decide +kernel)
/-- M.writeWord -/
def syt_670 : CO := (297, 5, [(0, 0, 0, 0, 0, 0), (1, 531440, 0, 1, 0, 531440), (16, 25, 0, 16, 0, 25)], [(2, 180, 0), (1, 1, 0)], [(180, 41, (0, 2, 0))], [(1, 1, 0), (2, 180, 41)], [(none, [(0, 0, 0, 0, 0, 0), (1, 531440, 0, 1, 0, 531440), (16, 25, 0, 16, 0, 25), (17, 29, 2, 1, 0, 29)], [(180, 41, (0, 3, 0))], [(2, 180, 41)])], [(180, 41, 41), (199, 16, 28)], [], [], [])
set_option maxRecDepth 100000 in
theorem syc_670 : CoOk GG MM syt_670 := chk_ok (cs := [syt_625, syt_627, syt_669, syt_665, syt_668]) (F := 4000) (List.forall_mem_cons.mpr ⟨syc_625, List.forall_mem_cons.mpr ⟨syc_627, List.forall_mem_cons.mpr ⟨syc_669, List.forall_mem_cons.mpr ⟨syc_665, List.forall_mem_cons.mpr ⟨syc_668, fun _ h => absurd h List.not_mem_nil⟩⟩⟩⟩⟩) (by decide +kernel) (by decide +kernel)
/-- M.write -/
def syt_671 : CO := (294, 1, [(0, 0, 0, 0, 0, 0), ((-2147483648), 2147483647, 0, (-2147483648), 0, 2147483647), (17, 29, 0, 17, 0, 29)], [(2, 180, 0), (0, 1, 0)], [(180, 41, (0, 2, 0))], [(1, 1, 0), (2, 180, 41)], [(none, [(0, 0, 0, 0, 0, 0), ((-2147483648), 2147483647, 0, (-2147483648), 0, 2147483647), (17, 29, 0, 17, 0, 29)], [(180, 41, (0, 2, 1))], [])], [(180, 41, 41), (199, 17, 29)], [], [], [])
set_option maxRecDepth 100000 in
theorem syc_671 : CoOk GG MM syt_671 := chk_ok (cs := []) (F := 4000) (fun _ h => absurd h List.not_mem_nil) (by decide +kernel) (by decide +kernel)
/-- M.writeWord -/
def syt_672 : CO := (297, 6, [(0, 0, 0, 0, 0, 0), (1, 14348906, 0, 1, 0, 14348906), (16, 25, 0, 16, 0, 25)], [(2, 180, 0), (1, 1, 0)], [(180, 41, (0, 2, 0))], [(1, 1, 0), (2, 180, 41)], [(none, [(0, 0, 0, 0, 0, 0), (1, 14348906, 0, 1, 0, 14348906), (16, 25, 0, 16, 0, 25), (17, 30, 2, 1, 0, 30)], [(180, 41, (0, 3, 0))], [(2, 180, 41)])], [(180, 41, 41), (199, 16, 29)], [], [], [])
set_option maxRecDepth 100000 in
theorem syc_672 : CoOk GG MM syt_672 := chk_ok (cs := [syt_625, syt_627, syt_671, syt_665, syt_670]) (F := 4000) (List.forall_mem_cons.mpr ⟨syc_625, List.forall_mem_cons.mpr ⟨syc_627, List.forall_mem_cons.mpr ⟨syc_671, List.forall_mem_cons.mpr ⟨syc_665, List.forall_mem_cons.mpr ⟨syc_670, fun _ h => absurd h List.not_mem_nil⟩⟩⟩⟩⟩) (by decide +kernel) (by decide +kernel)
/-- M.write -/
def syt_673 : CO := (294, 1, [(0, 0, 0, 0, 0, 0), ((-2147483648), 2147483647, 0, (-2147483648), 0, 2147483647), (17, 30, 0, 17, 0, 30)], [(2, 180, 0), (0, 1, 0)], [(180, 41, (0, 2, 0))], [(1, 1, 0), (2, 180, 41)], [(none, [(0, 0, 0, 0, 0, 0), ((-2147483648), 2147483647, 0, (-2147483648), 0, 2147483647), (17, 30, 0, 17, 0, 30)], [(180, 41, (0, 2, 1))], [])], [(180, 41, 41), (199, 17, 30)], [], [], [])
set_option maxRecDepth 100000 in
theorem syc_673 : CoOk GG MM syt_673 := chk_ok (cs := []) (F := 4000) (fun _ h => absurd h List.not_mem_nil) (by decide +kernel) (by decide +kernel)
/-- M.writeWord -/
def syt_674 : CO := (297, 7, [(0, 0, 0, 0, 0, 0), (1, 387420488, 0, 1, 0, 387420488), (16, 25, 0, 16, 0, 25)], [(2, 180, 0), (1, 1, 0)], [(180, 41, (0, 2, 0))], [(1, 1, 0), (2, 180, 41)], [(none, [(0, 0, 0, 0, 0, 0), (1, 387420488, 0, 1, 0, 387420488), (16, 25, 0, 16, 0, 25), (17, 31, 2, 1, 0, 31)], [(180, 41, (0, 3, 0))], [(2, 180, 41)])], [(180, 41, 41), (199, 16, 30)], [], [], [])
set_option maxRecDepth 100000 in
theorem syc_674 : CoOk GG MM syt_674 := chk_ok (cs := [syt_625, syt_627, syt_673, syt_665, syt_672]) (F := 4000) (List.forall_mem_cons.mpr ⟨syc_625, List.forall_mem_cons.mpr ⟨syc_627, List.forall_mem_cons.mpr ⟨syc_673, List.forall_mem_cons.mpr ⟨syc_665, List.forall_mem_cons.mpr ⟨syc_672, fun _ h => absurd h List.not_mem_nil⟩⟩⟩⟩⟩) (by decide +kernel) (by decide +kernel)
/-- M.write -/
def syt_675 : CO := (294, 1, [(0, 0, 0, 0, 0, 0), ((-2147483648), 2147483647, 0, (-2147483648), 0, 2147483647), (17, 31, 0, 17, 0, 31)], [(2, 180, 0), (0, 1, 0)], [(180, 41, (0, 2, 0))], [(1, 1, 0), (2, 180, 41)], [(none, [(0, 0, 0, 0, 0, 0), ((-2147483648), 2147483647, 0, (-2147483648), 0, 2147483647), (17, 31, 0, 17, 0, 31)], [(180, 41, (0, 2, 1))], [])], [(180, 41, 41), (199, 17, 31)], [], [], [])
set_option maxRecDepth 100000 in
theorem syc_675 : CoOk GG MM syt_675 := chk_ok (cs := []) (F := 4000) (fun _ h => absurd h List.not_mem_nil) (by decide +kernel) (by decide +kernel)
/-- M.writeWord -/
def syt_676 : CO := (297, 8, [(0, 0, 0, 0, 0, 0), (1, 10460353202, 0, 1, 0, 10460353202), (16, 25, 0, 16, 0, 25)], [(2, 180, 0), (1, 1, 0)], [(180, 41, (0, 2, 0))], [(1, 1, 0), (2, 180, 41)], [(none, [(0, 0, 0, 0, 0, 0), (1, 10460353202, 0, 1, 0, 10460353202), (16, 25, 0, 16, 0, 25), (17, 32, 2, 1, 0, 32)], [(180, 41, (0, 3, 0))], [(2, 180, 41)])], [(180, 41, 41), (199, 16, 31)], [], [], [])
set_option maxRecDepth 100000 in
theorem syc_676 : CoOk GG MM syt_676 := chk_ok (cs := [syt_625, syt_627, syt_675, syt_665, syt_674]) (F := 4000) (List.forall_mem_cons.mpr ⟨syc_625, List.forall_mem_cons.mpr ⟨syc_627, List.forall_mem_cons.mpr ⟨syc_675, List.forall_mem_cons.mpr ⟨syc_665, List.forall_mem_cons.mpr ⟨syc_674, fun _ h => absurd h List.not_mem_nil⟩⟩⟩⟩⟩) (by decide +kernel) (by decide +kernel)
/-- M.write -/
def syt_677 : CO := (294, 1, [(0, 0, 0, 0, 0, 0), ((-2147483648), 2147483647, 0, (-2147483648), 0, 2147483647), (17, 32, 0, 17, 0, 32)], [(2, 180, 0), (0, 1, 0)], [(180, 41, (0, 2, 0))], [(1, 1, 0), (2, 180, 41)], [(none, [(0, 0, 0, 0, 0, 0), ((-2147483648), 2147483647, 0, (-2147483648), 0, 2147483647), (17, 32, 0, 17, 0, 32)], [(180, 41, (0, 2, 1))], [])], [(180, 41, 41), (199, 17, 32)], [], [], [])
set_option maxRecDepth 100000 in
theorem syc_677 : CoOk GG MM syt_677 := chk_ok (cs := []) (F := 4000) (fun _ h => absurd h List.not_mem_nil) (by decide +kernel) (by decide +kernel)
/-- M.writeWord -/
def syt_678 : CO := (297, 9, [(0, 0, 0, 0, 0, 0), ((-9223372036854775808), 282429536480, 0, (-9223372036854775808), 0, 282429536480), (16, 25, 0, 16, 0, 25)], [(2, 180, 0), (1, 1, 0)], [(180, 41, (0, 2, 0))], [(1, 1, 0), (2, 180, 41)], [(none, [(0, 0, 0, 0, 0, 0), ((-9223372036854775808), 282429536480, 0, (-9223372036854775808), 0, 282429536480), (16, 25, 0, 16, 0, 25), (17, 33, 2, 1, 0, 33)], [(180, 41, (0, 3, 0))], [(2, 180, 41)])], [(180, 41, 41), (199, 16, 32)], [], [], [])
set_option maxRecDepth 100000 in
theorem syc_678 : CoOk GG MM syt_678 := chk_ok (cs := [syt_625, syt_627, syt_677, syt_665, syt_676]) (F := 4000) (List.forall_mem_cons.mpr ⟨syc_625, List.forall_mem_cons.mpr ⟨syc_627, List.forall_mem_cons.mpr ⟨syc_677, List.forall_mem_cons.mpr ⟨syc_665, List.forall_mem_cons.mpr ⟨syc_676, fun _ h => absurd h List.not_mem_nil⟩⟩⟩⟩⟩) (by decide +kernel) (by decide +kernel)
/-- M.writeNext -/
def syt_679 : CO := (295, 10, [(0, 0, 0, 0, 0, 0), ((-9223372036854775808), 282429536480, 0, (-9223372036854775808), 0, 282429536480), (15, 24, 0, 15, 0, 24)], [(2, 180, 0), (1, 1, 0)], [(180, 41, (0, 2, 0))], [(1, 1, 0), (2, 180, 41)], [(none, [(0, 0, 0, 0, 0, 0), ((-9223372036854775808), 282429536480, 0, (-9223372036854775808), 0, 282429536480), (15, 24, 0, 15, 0, 24), (17, 33, 2, 2, 0, 33)], [(180, 41, (0, 3, 0))], [(2, 180, 41)])], [(180, 41, 41), (199, 15, 32)], [], [], [])
set_option maxRecDepth 100000 in
theorem syc_679 : CoOk GG MM syt_679 := chk_ok (cs := [syt_624, syt_678]) (F := 4000) (List.forall_mem_cons.mpr ⟨syc_624, List.forall_mem_cons.mpr ⟨syc_678, fun _ h => absurd h List.not_mem_nil⟩⟩) (by decide +kernel) (by decide +kernel)
/-- M.spelt -/
def syt_680 : CO := (279, 1, [(0, 0, 0, 0, 0, 0)], [(0, 0, 105), (0, 0, 110), (0, 0, 0), (0, 0, 0), (0, 0, 0), (0, 0, 0)], [], [], [(some (1, 1, 0), [(0, 0, 0, 0, 0, 0), (257, 257, 0, 257, 0, 257)], [], [(1, 0, 0)])], [], [], [], [])
set_option maxRecDepth 100000 in
theorem syc_680 : CoOk GG MM syt_680 := chk_ok (cs := []) (F := 4000) (fun _ h => absurd h List.not_mem_nil) (by decide +kernel) (by decide +kernel)
/-- M.writeWord -/
def syt_681 : CO := (297, 2, [(0, 0, 0, 0, 0, 0), (9, 9, 0, 9, 0, 9), (9, 18, 0, 9, 0, 18)], [(2, 180, 0), (1, 1, 0)], [(180, 41, (0, 2, 0))], [(1, 1, 0), (2, 180, 41)], [(none, [(0, 0, 0, 0, 0, 0), (9, 9, 0, 9, 0, 9), (9, 18, 0, 9, 0, 18)], [(180, 41, (0, 2, 1))], [])], [(180, 41, 41), (199, 9, 18)], [], [], [])
set_option maxRecDepth 100000 in
theorem syc_681 : CoOk GG MM syt_681 := chk_ok (cs := [syt_611]) (F := 4000) (List.forall_mem_cons.mpr ⟨syc_611, fun _ h => absurd h List.not_mem_nil⟩) (by decide +kernel) (by decide +kernel)
/-- M.writeWord -/
def syt_682 : CO := (297, 3, [(0, 0, 0, 0, 0, 0), (257, 257, 0, 257, 0, 257), (9, 18, 0, 9, 0, 18)], [(2, 180, 0), (1, 1, 0)], [(180, 41, (0, 2, 0))], [(1, 1, 0), (2, 180, 41)], [(none, [(0, 0, 0, 0, 0, 0), (257, 257, 0, 257, 0, 257), (9, 18, 0, 9, 0, 18)], [(180, 41, (0, 2, 2))], [])], [(180, 41, 41), (199, 9, 19)], [], [], [])
set_option maxRecDepth 100000 in
theorem syc_682 : CoOk GG MM syt_682 := chk_ok (cs := [syt_613, syt_681]) (F := 4000) (List.forall_mem_cons.mpr ⟨syc_613, List.forall_mem_cons.mpr ⟨syc_681, fun _ h => absurd h List.not_mem_nil⟩⟩) (by decide +kernel) (by decide +kernel)
/-- M.writeNext -/
def syt_683 : CO := (295, 4, [(0, 0, 0, 0, 0, 0), (257, 257, 0, 257, 0, 257), (8, 17, 0, 8, 0, 17)], [(2, 180, 0), (1, 1, 0)], [(180, 41, (0, 2, 0))], [(1, 1, 0), (2, 180, 41)], [(none, [(0, 0, 0, 0, 0, 0), (257, 257, 0, 257, 0, 257), (8, 17, 0, 8, 0, 17)], [(180, 41, (0, 2, 3))], [])], [(180, 41, 41), (199, 8, 19)], [], [], [])
set_option maxRecDepth 100000 in
theorem syc_683 : CoOk GG MM syt_683 := chk_ok (cs := [syt_610, syt_682]) (F := 4000) (List.forall_mem_cons.mpr ⟨syc_610, List.forall_mem_cons.mpr ⟨syc_682, fun _ h => absurd h List.not_mem_nil⟩⟩) (by decide +kernel) (by decide +kernel)
/-- M.writeWord -/
def syt_684 : CO := (297, 2, [(0, 0, 0, 0, 0, 0), (3, 3, 0, 3, 0, 3), (12, 21, 0, 12, 0, 21)], [(2, 180, 0), (1, 1, 0)], [(180, 41, (0, 2, 0))], [(1, 1, 0), (2, 180, 41)], [(none, [(0, 0, 0, 0, 0, 0), (3, 3, 0, 3, 0, 3), (12, 21, 0, 12, 0, 21)], [(180, 41, (0, 2, 1))], [])], [(180, 41, 41), (199, 12, 21)], [], [], [])
set_option maxRecDepth 100000 in
theorem syc_684 : CoOk GG MM syt_684 := chk_ok (cs := [syt_617]) (F := 4000) (List.forall_mem_cons.mpr ⟨syc_617, fun _ h => absurd h List.not_mem_nil⟩) (by decide +kernel) (by decide +kernel)
/-- M.writeWord -/
def syt_685 : CO := (297, 3, [(0, 0, 0, 0, 0, 0), (86, 86, 0, 86, 0, 86), (12, 21, 0, 12, 0, 21)], [(2, 180, 0), (1, 1, 0)], [(180, 41, (0, 2, 0))], [(1, 1, 0), (2, 180, 41)], [(none, [(0, 0, 0, 0, 0, 0), (86, 86, 0, 86, 0, 86), (12, 21, 0, 12, 0, 21)], [(180, 41, (0, 2, 2))], [])], [(180, 41, 41), (199, 12, 22)], [], [], [])
set_option maxRecDepth 100000 in
theorem syc_685 : CoOk GG MM syt_685 := chk_ok (cs := [syt_619, syt_684]) (F := 4000) (List.forall_mem_cons.mpr ⟨syc_619, List.forall_mem_cons.mpr ⟨syc_684, fun _ h => absurd h List.not_mem_nil⟩⟩) (by decide +kernel) (by decide +kernel)
/-- M.writeWord -/
def syt_686 : CO := (297, 4, [(0, 0, 0, 0, 0, 0), (2334, 2334, 0, 2334, 0, 2334), (12, 21, 0, 12, 0, 21)], [(2, 180, 0), (1, 1, 0)], [(180, 41, (0, 2, 0))], [(1, 1, 0), (2, 180, 41)], [(none, [(0, 0, 0, 0, 0, 0), (2334, 2334, 0, 2334, 0, 2334), (12, 21, 0, 12, 0, 21)], [(180, 41, (0, 2, 3))], [])], [(180, 41, 41), (199, 12, 23)], [], [], [])
set_option maxRecDepth 100000 in
theorem syc_686 : CoOk GG MM syt_686 := chk_ok (cs := [syt_621, syt_685]) (F := 4000) (List.forall_mem_cons.mpr ⟨syc_621, List.forall_mem_cons.mpr ⟨syc_685, fun _ h => absurd h List.not_mem_nil⟩⟩) (by decide +kernel) (by decide +kernel)
/-- M.writeWord -/
def syt_687 : CO := (297, 5, [(0, 0, 0, 0, 0, 0), (63030, 63030, 0, 63030, 0, 63030), (12, 21, 0, 12, 0, 21)], [(2, 180, 0), (1, 1, 0)], [(180, 41, (0, 2, 0))], [(1, 1, 0), (2, 180, 41)], [(none, [(0, 0, 0, 0, 0, 0), (63030, 63030, 0, 63030, 0, 63030), (12, 21, 0, 12, 0, 21)], [(180, 41, (0, 2, 4))], [])], [(180, 41, 41), (199, 12, 24)], [], [], [])
set_option maxRecDepth 100000 in
theorem syc_687 : CoOk GG MM syt_687 := chk_ok (cs := [syt_624, syt_686]) (F := 4000) (List.forall_mem_cons.mpr ⟨syc_624, List.forall_mem_cons.mpr ⟨syc_686, fun _ h => absurd h List.not_mem_nil⟩⟩) (by decide +kernel) (by decide +kernel)
/-- M.writeNext -/
def syt_688 : CO := (295, 6, [(0, 0, 0, 0, 0, 0), (63030, 63030, 0, 63030, 0, 63030), (11, 20, 0, 11, 0, 20)], [(2, 180, 0), (1, 1, 0)], [(180, 41, (0, 2, 0))], [(1, 1, 0), (2, 180, 41)], [(none, [(0, 0, 0, 0, 0, 0), (63030, 63030, 0, 63030, 0, 63030), (11, 20, 0, 11, 0, 20)], [(180, 41, (0, 2, 5))], [])], [(180, 41, 41), (199, 11, 24)], [], [], [])
set_option maxRecDepth 100000 in
theorem syc_688 : CoOk GG MM syt_688 := chk_ok (cs := [syt_615, syt_687]) (F := 4000) (List.forall_mem_cons.mpr ⟨syc_615, List.forall_mem_cons.mpr ⟨syc_687, fun _ h => absurd h List.not_mem_nil⟩⟩) (by decide +kernel) (by decide +kernel)
/-- M.writeNumber -/
def syt_689 : CO := (296, 2, [(0, 0, 0, 0, 0, 0), (1, 3, 0, 1, 0, 3), (17, 26, 0, 17, 0, 26)], [(2, 180, 0), (0, 1, 0)], [(180, 41, (0, 2, 0))], [(1, 1, 0), (2, 180, 41)], [(none, [(0, 0, 0, 0, 0, 0), (1, 3, 0, 1, 0, 3), (17, 26, 0, 17, 0, 26)], [(180, 41, (0, 2, 1))], [])], [(180, 41, 41), (199, 17, 26)], [], [], [])
set_option maxRecDepth 100000 in
theorem syc_689 : CoOk GG MM syt_689 := chk_ok (cs := [syt_627]) (F := 4000) (List.forall_mem_cons.mpr ⟨syc_627, fun _ h => absurd h List.not_mem_nil⟩) (by decide +kernel) (by decide +kernel)
/-- M.writeNumber -/
def syt_690 : CO := (296, 3, [(0, 0, 0, 0, 0, 0), (0, 30, 0, 0, 0, 30), (17, 26, 0, 17, 0, 26)], [(2, 180, 0), (0, 1, 0)], [(180, 41, (0, 2, 0))], [(1, 1, 0), (2, 180, 41)], [(none, [(0, 0, 0, 0, 0, 0), (0, 30, 0, 0, 0, 30), (17, 26, 0, 17, 0, 26), (18, 28, 2, 1, 0, 28)], [(180, 41, (0, 3, 0))], [(2, 180, 41)])], [(180, 41, 41), (199, 17, 27)], [], [], [])
set_option maxRecDepth 100000 in
theorem syc_690 : CoOk GG MM syt_690 := chk_ok (cs := [syt_627, syt_629, syt_689]) (F := 4000) (List.forall_mem_cons.mpr ⟨syc_627, List.forall_mem_cons.mpr ⟨syc_629, List.forall_mem_cons.mpr ⟨syc_689, fun _ h => absurd h List.not_mem_nil⟩⟩⟩) (by decide +kernel) (by decide +kernel)
/-- M.write -/
def syt_691 : CO := (294, 1, [(0, 0, 0, 0, 0, 0), ((-2147483648), 2147483647, 0, (-2147483648), 0, 2147483647), (18, 28, 0, 18, 0, 28)], [(2, 180, 0), (0, 1, 0)], [(180, 41, (0, 2, 0))], [(1, 1, 0), (2, 180, 41)], [(none, [(0, 0, 0, 0, 0, 0), ((-2147483648), 2147483647, 0, (-2147483648), 0, 2147483647), (18, 28, 0, 18, 0, 28)], [(180, 41, (0, 2, 1))], [])], [(180, 41, 41), (199, 18, 28)], [], [], [])
set_option maxRecDepth 100000 in
theorem syc_691 : CoOk GG MM syt_691 := chk_ok (cs := []) (F := 4000) (fun _ h => absurd h List.not_mem_nil) (by decide +kernel) (by decide +kernel)
/-- M.write -/
def syt_692 : CO := (294, 1, [(0, 0, 0, 0, 0, 0), ((-2147483648), 2147483647, 0, (-2147483648), 0, 2147483647), (19, 29, 0, 19, 0, 29)], [(2, 180, 0), (0, 1, 0)], [(180, 41, (0, 2, 0))], [(1, 1, 0), (2, 180, 41)], [(none, [(0, 0, 0, 0, 0, 0), ((-2147483648), 2147483647, 0, (-2147483648), 0, 2147483647), (19, 29, 0, 19, 0, 29)], [(180, 41, (0, 2, 1))], [])], [(180, 41, 41), (199, 19, 29)], [], [], [])
set_option maxRecDepth 100000 in
theorem syc_692 : CoOk GG MM syt_692 := chk_ok (cs := []) (F := 4000) (fun _ h => absurd h List.not_mem_nil) (by decide +kernel) (by decide +kernel)
/-- M.writeWord -/
def syt_693 : CO := (297, 2, [(0, 0, 0, 0, 0, 0), (7, 7, 0, 7, 0, 7), (19, 29, 0, 19, 0, 29)], [(2, 180, 0), (1, 1, 0)], [(180, 41, (0, 2, 0))], [(1, 1, 0), (2, 180, 41)], [(none, [(0, 0, 0, 0, 0, 0), (7, 7, 0, 7, 0, 7), (19, 29, 0, 19, 0, 29)], [(180, 41, (0, 2, 1))], [])], [(180, 41, 41), (199, 19, 29)], [], [], [])
set_option maxRecDepth 100000 in
theorem syc_693 : CoOk GG MM syt_693 := chk_ok (cs := [syt_692]) (F := 4000) (List.forall_mem_cons.mpr ⟨syc_692, fun _ h => absurd h List.not_mem_nil⟩) (by decide +kernel) (by decide +kernel)
/-- M.write -/
def syt_694 : CO := (294, 1, [(0, 0, 0, 0, 0, 0), ((-2147483648), 2147483647, 0, (-2147483648), 0, 2147483647), (20, 30, 0, 20, 0, 30)], [(2, 180, 0), (0, 1, 0)], [(180, 41, (0, 2, 0))], [(1, 1, 0), (2, 180, 41)], [(none, [(0, 0, 0, 0, 0, 0), ((-2147483648), 2147483647, 0, (-2147483648), 0, 2147483647), (20, 30, 0, 20, 0, 30)], [(180, 41, (0, 2, 1))], [])], [(180, 41, 41), (199, 20, 30)], [], [], [])
set_option maxRecDepth 100000 in
theorem syc_694 : CoOk GG MM syt_694 := chk_ok (cs := []) (F := 4000) (fun _ h => absurd h List.not_mem_nil) (by decide +kernel) (by decide +kernel)
/-- M.writeWord -/
def syt_695 : CO := (297, 3, [(0, 0, 0, 0, 0, 0), (201, 201, 0, 201, 0, 201), (19, 29, 0, 19, 0, 29)], [(2, 180, 0), (1, 1, 0)], [(180, 41, (0, 2, 0))], [(1, 1, 0), (2, 180, 41)], [(none, [(0, 0, 0, 0, 0, 0), (201, 201, 0, 201, 0, 201), (19, 29, 0, 19, 0, 29)], [(180, 41, (0, 2, 2))], [])], [(180, 41, 41), (199, 19, 30)], [], [], [])
set_option maxRecDepth 100000 in
theorem syc_695 : CoOk GG MM syt_695 := chk_ok (cs := [syt_694, syt_693]) (F := 4000) (List.forall_mem_cons.mpr ⟨syc_694, List.forall_mem_cons.mpr ⟨syc_693, fun _ h => absurd h List.not_mem_nil⟩⟩) (by decide +kernel) (by decide +kernel)
/-- M.write -/
def syt_696 : CO := (294, 1, [(0, 0, 0, 0, 0, 0), ((-2147483648), 2147483647, 0, (-2147483648), 0, 2147483647), (21, 31, 0, 21, 0, 31)], [(2, 180, 0), (0, 1, 0)], [(180, 41, (0, 2, 0))], [(1, 1, 0), (2, 180, 41)], [(none, [(0, 0, 0, 0, 0, 0), ((-2147483648), 2147483647, 0, (-2147483648), 0, 2147483647), (21, 31, 0, 21, 0, 31)], [(180, 41, (0, 2, 1))], [])], [(180, 41, 41), (199, 21, 31)], [], [], [])
set_option maxRecDepth 100000 in
theorem syc_696 : CoOk GG MM syt_696 := chk_ok (cs := []) (F := 4000) (fun _ h => absurd h List.not_mem_nil) (by decide +kernel) (by decide +kernel)
/-- M.writeWord -/
def syt_697 : CO := (297, 4, [(0, 0, 0, 0, 0, 0), (5442, 5442, 0, 5442, 0, 5442), (19, 29, 0, 19, 0, 29)], [(2, 180, 0), (1, 1, 0)], [(180, 41, (0, 2, 0))], [(1, 1, 0), (2, 180, 41)], [(none, [(0, 0, 0, 0, 0, 0), (5442, 5442, 0, 5442, 0, 5442), (19, 29, 0, 19, 0, 29)], [(180, 41, (0, 2, 3))], [])], [(180, 41, 41), (199, 19, 31)], [], [], [])
set_option maxRecDepth 100000 in
theorem syc_697 : CoOk GG MM syt_697 := chk_ok (cs := [syt_696, syt_695]) (F := 4000) (List.forall_mem_cons.mpr ⟨syc_696, List.forall_mem_cons.mpr ⟨syc_695, fun _ h => absurd h List.not_mem_nil⟩⟩) (by decide +kernel) (by decide +kernel)
/-- M.write -/
def syt_698 : CO := (294, 1, [(0, 0, 0, 0, 0, 0), ((-2147483648), 2147483647, 0, (-2147483648), 0, 2147483647), (22, 32, 0, 22, 0, 32)], [(2, 180, 0), (0, 1, 0)], [(180, 41, (0, 2, 0))], [(1, 1, 0), (2, 180, 41)], [(none, [(0, 0, 0, 0, 0, 0), ((-2147483648), 2147483647, 0, (-2147483648), 0, 2147483647), (22, 32, 0, 22, 0, 32)], [(180, 41, (0, 2, 1))], [])], [(180, 41, 41), (199, 22, 32)], [], [], [])
set_option maxRecDepth 100000 in
theorem syc_698 : CoOk GG MM syt_698 := chk_ok (cs := []) (F := 4000) (fun _ h => absurd h List.not_mem_nil) (by decide +kernel) (by decide +kernel)
/-- M.writeWord -/
def syt_699 : CO := (297, 5, [(0, 0, 0, 0, 0, 0), (146956, 146956, 0, 146956, 0, 146956), (19, 29, 0, 19, 0, 29)], [(2, 180, 0), (1, 1, 0)], [(180, 41, (0, 2, 0))], [(1, 1, 0), (2, 180, 41)], [(none, [(0, 0, 0, 0, 0, 0), (146956, 146956, 0, 146956, 0, 146956), (19, 29, 0, 19, 0, 29)], [(180, 41, (0, 2, 4))], [])], [(180, 41, 41), (199, 19, 32)], [], [], [])
set_option maxRecDepth 100000 in
theorem syc_699 : CoOk GG MM syt_699 := chk_ok (cs := [syt_698, syt_697]) (F := 4000) (List.forall_mem_cons.mpr ⟨syc_698, List.forall_mem_cons.mpr ⟨syc_697, fun _ h => absurd h List.not_mem_nil⟩⟩) (by decide +kernel) (by decide +kernel)
/-- M.write -/
def syt_700 : CO := (294, 1, [(0, 0, 0, 0, 0, 0), ((-2147483648), 2147483647, 0, (-2147483648), 0, 2147483647), (23, 33, 0, 23, 0, 33)], [(2, 180, 0), (0, 1, 0)], [(180, 41, (0, 2, 0))], [(1, 1, 0), (2, 180, 41)], [(none, [(0, 0, 0, 0, 0, 0), ((-2147483648), 2147483647, 0, (-2147483648), 0, 2147483647), (23, 33, 0, 23, 0, 33)], [(180, 41, (0, 2, 1))], [])], [(180, 41, 41), (199, 23, 33)], [], [], [])
set_option maxRecDepth 100000 in
theorem syc_700 : CoOk GG MM syt_700 := chk_ok (cs := []) (F := 4000) (fun _ h => absurd h List.not_mem_nil) (by decide +kernel) (by decide +kernel)
/-- M.writeWord -/
def syt_701 : CO := (297, 6, [(0, 0, 0, 0, 0, 0), (3967817, 3967817, 0, 3967817, 0, 3967817), (19, 29, 0, 19, 0, 29)], [(2, 180, 0), (1, 1, 0)], [(180, 41, (0, 2, 0))], [(1, 1, 0), (2, 180, 41)], [(none, [(0, 0, 0, 0, 0, 0), (3967817, 3967817, 0, 3967817, 0, 3967817), (19, 29, 0, 19, 0, 29)], [(180, 41, (0, 2, 5))], [])], [(180, 41, 41), (199, 19, 33)], [], [], [])
set_option maxRecDepth 100000 in
theorem syc_701 : CoOk GG MM syt_701 := chk_ok (cs := [syt_700, syt_699]) (F := 4000) (List.forall_mem_cons.mpr ⟨syc_700, List.forall_mem_cons.mpr ⟨syc_699, fun _ h => absurd h List.not_mem_nil⟩⟩) (by decide +kernel) (by decide +kernel)
/-- M.writeWord -/
def syt_702 : CO := (297, 7, [(0, 0, 0, 0, 0, 0), (107131063, 107131063, 0, 107131063, 0, 107131063), (19, 29, 0, 19, 0, 29)], [(2, 180, 0), (1, 1, 0)], [(180, 41, (0, 2, 0))], [(1, 1, 0), (2, 180, 41)], [(none, [(0, 0, 0, 0, 0, 0), (107131063, 107131063, 0, 107131063, 0, 107131063), (19, 29, 0, 19, 0, 29)], [(180, 41, (0, 2, 6))], [])], [(180, 41, 41), (199, 19, 34)], [], [], [])
set_option maxRecDepth 100000 in
theorem syc_702 : CoOk GG MM syt_702 := chk_ok (cs := [syt_644, syt_701]) (F := 4000) (List.forall_mem_cons.mpr ⟨syc_644, List.forall_mem_cons.mpr ⟨syc_701, fun _ h => absurd h List.not_mem_nil⟩⟩) (by decide +kernel) (by decide +kernel)
/-- M.writeNext -/
def syt_703 : CO := (295, 8, [(0, 0, 0, 0, 0, 0), (107131063, 107131063, 0, 107131063, 0, 107131063), (18, 28, 0, 18, 0, 28)], [(2, 180, 0), (1, 1, 0)], [(180, 41, (0, 2, 0))], [(1, 1, 0), (2, 180, 41)], [(none, [(0, 0, 0, 0, 0, 0), (107131063, 107131063, 0, 107131063, 0, 107131063), (18, 28, 0, 18, 0, 28)], [(180, 41, (0, 2, 7))], [])], [(180, 41, 41), (199, 18, 34)], [], [], [])
set_option maxRecDepth 100000 in
theorem syc_703 : CoOk GG MM syt_703 := chk_ok (cs := [syt_691, syt_702]) (F := 4000) (List.forall_mem_cons.mpr ⟨syc_691, List.forall_mem_cons.mpr ⟨syc_702, fun _ h => absurd h List.not_mem_nil⟩⟩) (by decide +kernel) (by decide +kernel)
/-- M.write -/
def syt_704 : CO := (294, 1, [(0, 0, 0, 0, 0, 0), ((-2147483648), 2147483647, 0, (-2147483648), 0, 2147483647), (25, 35, 0, 25, 0, 35)], [(2, 180, 0), (0, 1, 0)], [(180, 41, (0, 2, 0))], [(1, 1, 0), (2, 180, 41)], [(none, [(0, 0, 0, 0, 0, 0), ((-2147483648), 2147483647, 0, (-2147483648), 0, 2147483647), (25, 35, 0, 25, 0, 35)], [(180, 41, (0, 2, 1))], [])], [(180, 41, 41), (199, 25, 35)], [], [], [])
set_option maxRecDepth 100000 in
theorem syc_704 : CoOk GG MM syt_704 := chk_ok (cs := []) (F := 4000) (fun _ h => absurd h List.not_mem_nil) (by decide +kernel) (by decide +kernel)
/-- M.write -/
def syt_705 : CO := (294, 1, [(0, 0, 0, 0, 0, 0), ((-2147483648), 2147483647, 0, (-2147483648), 0, 2147483647), (26, 36, 0, 26, 0, 36)], [(2, 180, 0), (0, 1, 0)], [(180, 41, (0, 2, 0))], [(1, 1, 0), (2, 180, 41)], [(none, [(0, 0, 0, 0, 0, 0), ((-2147483648), 2147483647, 0, (-2147483648), 0, 2147483647), (26, 36, 0, 26, 0, 36)], [(180, 41, (0, 2, 1))], [])], [(180, 41, 41), (199, 26, 36)], [], [], [])
set_option maxRecDepth 100000 in
theorem syc_705 : CoOk GG MM syt_705 := chk_ok (cs := []) (F := 4000) (fun _ h => absurd h List.not_mem_nil) (by decide +kernel) (by decide +kernel)
/-- M.writeWord -/
def syt_706 : CO := (297, 2, [(0, 0, 0, 0, 0, 0), (23, 23, 0, 23, 0, 23), (26, 36, 0, 26, 0, 36)], [(2, 180, 0), (1, 1, 0)], [(180, 41, (0, 2, 0))], [(1, 1, 0), (2, 180, 41)], [(none, [(0, 0, 0, 0, 0, 0), (23, 23, 0, 23, 0, 23), (26, 36, 0, 26, 0, 36)], [(180, 41, (0, 2, 1))], [])], [(180, 41, 41), (199, 26, 36)], [], [], [])
set_option maxRecDepth 100000 in
theorem syc_706 : CoOk GG MM syt_706 := chk_ok (cs := [syt_705]) (F := 4000) (List.forall_mem_cons.mpr ⟨syc_705, fun _ h => absurd h List.not_mem_nil⟩) (by decide +kernel) (by decide +kernel)
/-- M.write -/
def syt_707 : CO := (294, 1, [(0, 0, 0, 0, 0, 0), ((-2147483648), 2147483647, 0, (-2147483648), 0, 2147483647), (27, 37, 0, 27, 0, 37)], [(2, 180, 0), (0, 1, 0)], [(180, 41, (0, 2, 0))], [(1, 1, 0), (2, 180, 41)], [(none, [(0, 0, 0, 0, 0, 0), ((-2147483648), 2147483647, 0, (-2147483648), 0, 2147483647), (27, 37, 0, 27, 0, 37)], [(180, 41, (0, 2, 1))], [])], [(180, 41, 41), (199, 27, 37)], [], [], [])
set_option maxRecDepth 100000 in
theorem syc_707 : CoOk GG MM syt_707 := chk_ok (cs := []) (F := 4000) (fun _ h => absurd h List.not_mem_nil) (by decide +kernel) (by decide +kernel)
/-- M.writeWord -/
def syt_708 : CO := (297, 3, [(0, 0, 0, 0, 0, 0), (626, 626, 0, 626, 0, 626), (26, 36, 0, 26, 0, 36)], [(2, 180, 0), (1, 1, 0)], [(180, 41, (0, 2, 0))], [(1, 1, 0), (2, 180, 41)], [(none, [(0, 0, 0, 0, 0, 0), (626, 626, 0, 626, 0, 626), (26, 36, 0, 26, 0, 36)], [(180, 41, (0, 2, 2))], [])], [(180, 41, 41), (199, 26, 37)], [], [], [])
set_option maxRecDepth 100000 in
theorem syc_708 : CoOk GG MM syt_708 := chk_ok (cs := [syt_707, syt_706]) (F := 4000) (List.forall_mem_cons.mpr ⟨syc_707, List.forall_mem_cons.mpr ⟨syc_706, fun _ h => absurd h List.not_mem_nil⟩⟩) (by decide +kernel) (by decide +kernel)
/-- M.write -/
def syt_709 : CO := (294, 1, [(0, 0, 0, 0, 0, 0), ((-2147483648), 2147483647, 0, (-2147483648), 0, 2147483647), (28, 38, 0, 28, 0, 38)], [(2, 180, 0), (0, 1, 0)], [(180, 41, (0, 2, 0))], [(1, 1, 0), (2, 180, 41)], [(none, [(0, 0, 0, 0, 0, 0), ((-2147483648), 2147483647, 0, (-2147483648), 0, 2147483647), (28, 38, 0, 28, 0, 38)], [(180, 41, (0, 2, 1))], [])], [(180, 41, 41), (199, 28, 38)], [], [], [])
set_option maxRecDepth 100000 in
theorem syc_709 : CoOk GG MM syt_709 := chk_ok (cs := []) (F := 4000) (fun _ h => absurd h List.not_mem_nil) (by decide +kernel) (by decide +kernel)
/-- M.writeWord -/
def syt_710 : CO := (297, 4, [(0, 0, 0, 0, 0, 0), (16906, 16906, 0, 16906, 0, 16906), (26, 36, 0, 26, 0, 36)], [(2, 180, 0), (1, 1, 0)], [(180, 41, (0, 2, 0))], [(1, 1, 0), (2, 180, 41)], [(none, [(0, 0, 0, 0, 0, 0), (16906, 16906, 0, 16906, 0, 16906), (26, 36, 0, 26, 0, 36)], [(180, 41, (0, 2, 3))], [])], [(180, 41, 41), (199, 26, 38)], [], [], [])
set_option maxRecDepth 100000 in
theorem syc_710 : CoOk GG MM syt_710 := chk_ok (cs := [syt_709, syt_708]) (F := 4000) (List.forall_mem_cons.mpr ⟨syc_709, List.forall_mem_cons.mpr ⟨syc_708, fun _ h => absurd h List.not_mem_nil⟩⟩) (by decide +kernel) (by decide +kernel)
/-- M.writeNext -/
def syt_711 : CO := (295, 5, [(0, 0, 0, 0, 0, 0), (16906, 16906, 0, 16906, 0, 16906), (25, 35, 0, 25, 0, 35)], [(2, 180, 0), (1, 1, 0)], [(180, 41, (0, 2, 0))], [(1, 1, 0), (2, 180, 41)], [(none, [(0, 0, 0, 0, 0, 0), (16906, 16906, 0, 16906, 0, 16906), (25, 35, 0, 25, 0, 35)], [(180, 41, (0, 2, 4))], [])], [(180, 41, 41), (199, 25, 38)], [], [], [])
set_option maxRecDepth 100000 in
theorem syc_711 : CoOk GG MM syt_711 := chk_ok (cs := [syt_704, syt_710]) (F := 4000) (List.forall_mem_cons.mpr ⟨syc_704, List.forall_mem_cons.mpr ⟨syc_710, fun _ h => absurd h List.not_mem_nil⟩⟩) (by decide +kernel) (by decide +kernel)
/-- M.write -/
def syt_712 : CO := (294, 1, [(0, 0, 0, 0, 0, 0), ((-2147483648), 2147483647, 0, (-2147483648), 0, 2147483647), (29, 39, 0, 29, 0, 39)], [(2, 180, 0), (0, 1, 0)], [(180, 41, (0, 2, 0))], [(1, 1, 0), (2, 180, 41)], [(none, [(0, 0, 0, 0, 0, 0), ((-2147483648), 2147483647, 0, (-2147483648), 0, 2147483647), (29, 39, 0, 29, 0, 39)], [(180, 41, (0, 2, 1))], [])], [(180, 41, 41), (199, 29, 39)], [], [], [])
set_option maxRecDepth 100000 in
theorem syc_712 : CoOk GG MM syt_712 := chk_ok (cs := []) (F := 4000) (fun _ h => absurd h List.not_mem_nil) (by decide +kernel) (by decide +kernel)
/-- M.write -/
def syt_713 : CO := (294, 1, [(0, 0, 0, 0, 0, 0), ((-2147483648), 2147483647, 0, (-2147483648), 0, 2147483647), (30, 40, 0, 30, 0, 40)], [(2, 180, 0), (0, 1, 0)], [(180, 41, (0, 2, 0))], [(1, 1, 0), (2, 180, 41)], [(none, [(0, 0, 0, 0, 0, 0), ((-2147483648), 2147483647, 0, (-2147483648), 0, 2147483647), (30, 40, 0, 30, 0, 40)], [(180, 41, (0, 2, 1))], [])], [(180, 41, 41), (199, 30, 40)], [], [], [])
set_option maxRecDepth 100000 in
theorem syc_713 : CoOk GG MM syt_713 := chk_ok (cs := []) (F := 4000) (fun _ h => absurd h List.not_mem_nil) (by decide +kernel) (by decide +kernel)
/-- M.writeWord -/
def syt_714 : CO := (297, 2, [(0, 0, 0, 0, 0, 0), (20, 20, 0, 20, 0, 20), (30, 40, 0, 30, 0, 40)], [(2, 180, 0), (1, 1, 0)], [(180, 41, (0, 2, 0))], [(1, 1, 0), (2, 180, 41)], [(none, [(0, 0, 0, 0, 0, 0), (20, 20, 0, 20, 0, 20), (30, 40, 0, 30, 0, 40)], [(180, 41, (0, 2, 1))], [])], [(180, 41, 41), (199, 30, 40)], [], [], [])
set_option maxRecDepth 100000 in
theorem syc_714 : CoOk GG MM syt_714 := chk_ok (cs := [syt_713]) (F := 4000) (List.forall_mem_cons.mpr ⟨syc_713, fun _ h => absurd h List.not_mem_nil⟩) (by decide +kernel) (by decide +kernel)
/-- M.write -/
def syt_715 : CO := (294, 1, [(0, 0, 0, 0, 0, 0), ((-2147483648), 2147483647, 0, (-2147483648), 0, 2147483647), (31, 41, 0, 31, 0, 41)], [(2, 180, 0), (0, 1, 0)], [(180, 41, (0, 2, 0))], [(1, 1, 0), (2, 180, 41)], [(none, [(0, 0, 0, 0, 0, 0), ((-2147483648), 2147483647, 0, (-2147483648), 0, 2147483647), (31, 41, 0, 31, 0, 41)], [(180, 41, (0, 2, 1))], [])], [(180, 41, 41), (199, 31, 41)], [], [], [])
set_option maxRecDepth 100000 in
theorem syc_715 : CoOk GG MM syt_715 := chk_ok (cs := []) (F := 4000) (fun _ h => absurd h List.not_mem_nil) (by decide +kernel) (by decide +kernel)
/-- M.writeWord -/
def syt_716 : CO := (297, 3, [(0, 0, 0, 0, 0, 0), (555, 555, 0, 555, 0, 555), (30, 40, 0, 30, 0, 40)], [(2, 180, 0), (1, 1, 0)], [(180, 41, (0, 2, 0))], [(1, 1, 0), (2, 180, 41)], [(none, [(0, 0, 0, 0, 0, 0), (555, 555, 0, 555, 0, 555), (30, 40, 0, 30, 0, 40)], [(180, 41, (0, 2, 2))], [])], [(180, 41, 41), (199, 30, 41)], [], [], [])
set_option maxRecDepth 100000 in
theorem syc_716 : CoOk GG MM syt_716 := chk_ok (cs := [syt_715, syt_714]) (F := 4000) (List.forall_mem_cons.mpr ⟨syc_715, List.forall_mem_cons.mpr ⟨syc_714, fun _ h => absurd h List.not_mem_nil⟩⟩) (by decide +kernel) (by decide +kernel)
/-- M.writeNext -/
def syt_717 : CO := (295, 4, [(0, 0, 0, 0, 0, 0), (555, 555, 0, 555, 0, 555), (29, 39, 0, 29, 0, 39)], [(2, 180, 0), (1, 1, 0)], [(180, 41, (0, 2, 0))], [(1, 1, 0), (2, 180, 41)], [(none, [(0, 0, 0, 0, 0, 0), (555, 555, 0, 555, 0, 555), (29, 39, 0, 29, 0, 39)], [(180, 41, (0, 2, 3))], [])], [(180, 41, 41), (199, 29, 41)], [], [], [])
set_option maxRecDepth 100000 in
theorem syc_717 : CoOk GG MM syt_717 := chk_ok (cs := [syt_712, syt_716]) (F := 4000) (List.forall_mem_cons.mpr ⟨syc_712, List.forall_mem_cons.mpr ⟨syc_716, fun _ h => absurd h List.not_mem_nil⟩⟩) (by decide +kernel) (by decide +kernel)
/-- M.write -/
def syt_718 : CO := (294, 1, [(0, 0, 0, 0, 0, 0), ((-2147483648), 2147483647, 0, (-2147483648), 0, 2147483647), (32, 42, 0, 32, 0, 42)], [(2, 180, 0), (0, 1, 0)], [(180, 41, (0, 2, 0))], [(1, 1, 0), (2, 180, 41)], [(none, [(0, 0, 0, 0, 0, 0), ((-2147483648), 2147483647, 0, (-2147483648), 0, 2147483647), (32, 42, 0, 32, 0, 42)], [(180, 41, (0, 2, 1))], [])], [(180, 41, 41), (199, 32, 42)], [], [], [])
set_option maxRecDepth 100000 in
theorem syc_718 : CoOk GG MM syt_718 := chk_ok (cs := []) (F := 4000) (fun _ h => absurd h List.not_mem_nil) (by decide +kernel) (by decide +kernel)
/-- M.write -/
def syt_719 : CO := (294, 1, [(0, 0, 0, 0, 0, 0), ((-2147483648), 2147483647, 0, (-2147483648), 0, 2147483647), (33, 43, 0, 33, 0, 43)], [(2, 180, 0), (0, 1, 0)], [(180, 41, (0, 2, 0))], [(1, 1, 0), (2, 180, 41)], [(none, [(0, 0, 0, 0, 0, 0), ((-2147483648), 2147483647, 0, (-2147483648), 0, 2147483647), (33, 43, 0, 33, 0, 43)], [(180, 41, (0, 2, 1))], [])], [(180, 41, 41), (199, 33, 43)], [], [], [])
set_option maxRecDepth 100000 in
theorem syc_719 : CoOk GG MM syt_719 := chk_ok (cs := []) (F := 4000) (fun _ h => absurd h List.not_mem_nil) (by decide +kernel) (by decide +kernel)
/-- M.writeWord -/
def syt_720 : CO := (297, 2, [(0, 0, 0, 0, 0, 0), (1, 26, 0, 1, 0, 26), (33, 43, 0, 33, 0, 43)], [(2, 180, 0), (1, 1, 0)], [(180, 41, (0, 2, 0))], [(1, 1, 0), (2, 180, 41)], [(none, [(0, 0, 0, 0, 0, 0), (1, 26, 0, 1, 0, 26), (33, 43, 0, 33, 0, 43)], [(180, 41, (0, 2, 1))], [])], [(180, 41, 41), (199, 33, 43)], [], [], [])
set_option maxRecDepth 100000 in
theorem syc_720 : CoOk GG MM syt_720 := chk_ok (cs := [syt_719]) (F := 4000) (List.forall_mem_cons.mpr ⟨syc_719, fun _ h => absurd h List.not_mem_nil⟩) (by decide +kernel) (by decide +kernel)
/-- M.write -/
def syt_721 : CO := (294, 1, [(0, 0, 0, 0, 0, 0), ((-2147483648), 2147483647, 0, (-2147483648), 0, 2147483647), (34, 44, 0, 34, 0, 44)], [(2, 180, 0), (0, 1, 0)], [(180, 41, (0, 2, 0))], [(1, 1, 0), (2, 180, 41)], [(none, [(0, 0, 0, 0, 0, 0), ((-2147483648), 2147483647, 0, (-2147483648), 0, 2147483647), (34, 44, 0, 34, 0, 44)], [(180, 41, (0, 2, 1))], [])], [(180, 41, 41), (199, 34, 44)], [], [], [])
set_option maxRecDepth 100000 in
theorem syc_721 : CoOk GG MM syt_721 := chk_ok (cs := []) (F := 4000) (fun _ h => absurd h List.not_mem_nil) (by decide +kernel) (by decide +kernel)
/-- M.writeWord -/
def syt_722 : CO := (297, 2, [(0, 0, 0, 0, 0, 0), (1, 1, 0, 1, 0, 1), (33, 43, 0, 33, 0, 43)], [(2, 180, 0), (1, 1, 0)], [(180, 41, (0, 2, 0))], [(1, 1, 0), (2, 180, 41)], [(none, [(0, 0, 0, 0, 0, 0), (1, 1, 0, 1, 0, 1), (33, 43, 0, 33, 0, 43)], [(180, 41, (0, 2, 1))], [])], [(180, 41, 41), (199, 33, 43)], [], [], [])
set_option maxRecDepth 100000 in
theorem syc_722 : CoOk GG MM syt_722 := chk_ok (cs := [syt_719]) (F := 4000) (List.forall_mem_cons.mpr ⟨syc_719, fun _ h => absurd h List.not_mem_nil⟩) (by decide +kernel) (by decide +kernel)
/-- M.writeWord -/
def syt_723 : CO := (297, 3, [(0, 0, 0, 0, 0, 0), (1, 728, 0, 1, 0, 728), (33, 43, 0, 33, 0, 43)], [(2, 180, 0), (1, 1, 0)], [(180, 41, (0, 2, 0))], [(1, 1, 0), (2, 180, 41)], [(none, [(0, 0, 0, 0, 0, 0), (1, 728, 0, 1, 0, 728), (33, 43, 0, 33, 0, 43), (34, 45, 2, 1, 0, 45)], [(180, 41, (0, 3, 0))], [(2, 180, 41)])], [(180, 41, 41), (199, 33, 44)], [], [], [])
set_option maxRecDepth 100000 in
theorem syc_723 : CoOk GG MM syt_723 := chk_ok (cs := [syt_719, syt_721, syt_722, syt_720]) (F := 4000) (List.forall_mem_cons.mpr ⟨syc_719, List.forall_mem_cons.mpr ⟨syc_721, List.forall_mem_cons.mpr ⟨syc_722, List.forall_mem_cons.mpr ⟨syc_720, fun _ h => absurd h List.not_mem_nil⟩⟩⟩⟩) (by decide +kernel) (by decide +kernel)
/-- M.write -/
def syt_724 : CO := (294, 1, [(0, 0, 0, 0, 0, 0), ((-2147483648), 2147483647, 0, (-2147483648), 0, 2147483647), (34, 45, 0, 34, 0, 45)], [(2, 180, 0), (0, 1, 0)], [(180, 41, (0, 2, 0))], [(1, 1, 0), (2, 180, 41)], [(none, [(0, 0, 0, 0, 0, 0), ((-2147483648), 2147483647, 0, (-2147483648), 0, 2147483647), (34, 45, 0, 34, 0, 45)], [(180, 41, (0, 2, 1))], [])], [(180, 41, 41), (199, 34, 45)], [], [], [])
set_option maxRecDepth 100000 in
theorem syc_724 : CoOk GG MM syt_724 := chk_ok (cs := []) (F := 4000) (fun _ h => absurd h List.not_mem_nil) (by decide +kernel) (by decide +kernel)
/-- M.writeWord -/
def syt_725 : CO := (297, 4, [(0, 0, 0, 0, 0, 0), (1, 19682, 0, 1, 0, 19682), (33, 43, 0, 33, 0, 43)], [(2, 180, 0), (1, 1, 0)], [(180, 41, (0, 2, 0))], [(1, 1, 0), (2, 180, 41)], [(none, [(0, 0, 0, 0, 0, 0), (1, 19682, 0, 1, 0, 19682), (33, 43, 0, 33, 0, 43), (34, 46, 2, 1, 0, 46)], [(180, 41, (0, 3, 0))], [(2, 180, 41)])], [(180, 41, 41), (199, 33, 45)], [], [], [])
set_option maxRecDepth 100000 in
theorem syc_725 : CoOk GG MM syt_725 := chk_ok (cs := [syt_719, syt_721, syt_724, syt_722, syt_723]) (F := 4000) (List.forall_mem_cons.mpr ⟨syc_719, List.forall_mem_cons.mpr ⟨syc_721, List.forall_mem_cons.mpr ⟨syc_724, List.forall_mem_cons.mpr ⟨syc_722, List.forall_mem_cons.mpr ⟨syc_723, fun _ h => absurd h List.not_mem_nil⟩⟩⟩⟩⟩) (by decide +kernel) (by decide +kernel)
/-- M.write -/
def syt_726 : CO := (294, 1, [(0, 0, 0, 0, 0, 0), ((-2147483648), 2147483647, 0, (-2147483648), 0, 2147483647), (34, 46, 0, 34, 0, 46)], [(2, 180, 0), (0, 1, 0)], [(180, 41, (0, 2, 0))], [(1, 1, 0), (2, 180, 41)], [(none, [(0, 0, 0, 0, 0, 0), ((-2147483648), 2147483647, 0, (-2147483648), 0, 2147483647), (34, 46, 0, 34, 0, 46)], [(180, 41, (0, 2, 1))], [])], [(180, 41, 41), (199, 34, 46)], [], [], [])
set_option maxRecDepth 100000 in
theorem syc_726 : CoOk GG MM syt_726 := chk_ok (cs := []) (F := 4000) (fun _ h => absurd h List.not_mem_nil) (by decide +kernel) (by decide +kernel)
/-- M.writeWord -/
def syt_727 : CO := (297, 5, [(0, 0, 0, 0, 0, 0), (1, 531440, 0, 1, 0, 531440), (33, 43, 0, 33, 0, 43)], [(2, 180, 0), (1, 1, 0)], [(180, 41, (0, 2, 0))], [(1, 1, 0), (2, 180, 41)], [(none, [(0, 0, 0, 0, 0, 0), (1, 531440, 0, 1, 0, 531440), (33, 43, 0, 33, 0, 43), (34, 47, 2, 1, 0, 47)], [(180, 41, (0, 3, 0))], [(2, 180, 41)])], [(180, 41, 41), (199, 33, 46)], [], [], [])
set_option maxRecDepth 100000 in
theorem syc_727 : CoOk GG MM syt_727 := chk_ok (cs := [syt_719, syt_721, syt_726, syt_722, syt_725]) (F := 4000) (List.forall_mem_cons.mpr ⟨syc_719, List.forall_mem_cons.mpr ⟨syc_721, List.forall_mem_cons.mpr ⟨syc_726, List.forall_mem_cons.mpr ⟨syc_722, List.forall_mem_cons.mpr ⟨syc_725, fun _ h => absurd h List.not_mem_nil⟩⟩⟩⟩⟩) (by decide +kernel) (by decide +kernel)
/-- M.write -/
def syt_728 : CO := (294, 1, [(0, 0, 0, 0, 0, 0), ((-2147483648), 2147483647, 0, (-2147483648), 0, 2147483647), (34, 47, 0, 34, 0, 47)], [(2, 180, 0), (0, 1, 0)], [(180, 41, (0, 2, 0))], [(1, 1, 0), (2, 180, 41)], [(none, [(0, 0, 0, 0, 0, 0), ((-2147483648), 2147483647, 0, (-2147483648), 0, 2147483647), (34, 47, 0, 34, 0, 47)], [(180, 41, (0, 2, 1))], [])], [(180, 41, 41), (199, 34, 47)], [], [], [])
set_option maxRecDepth 100000 in
theorem syc_728 : CoOk GG MM syt_728 := chk_ok (cs := []) (F := 4000) (fun _ h => absurd h List.not_mem_nil) (by decide +kernel) (by decide +kernel)
/-- M.writeWord -/
def syt_729 : CO := (297, 6, [(0, 0, 0, 0, 0, 0), (1, 14348906, 0, 1, 0, 14348906), (33, 43, 0, 33, 0, 43)], [(2, 180, 0), (1, 1, 0)], [(180, 41, (0, 2, 0))], [(1, 1, 0), (2, 180, 41)], [(none, [(0, 0, 0, 0, 0, 0), (1, 14348906, 0, 1, 0, 14348906), (33, 43, 0, 33, 0, 43), (34, 48, 2, 1, 0, 48)], [(180, 41, (0, 3, 0))], [(2, 180, 41)])], [(180, 41, 41), (199, 33, 47)], [], [], [])
set_option maxRecDepth 100000 in
theorem syc_729 : CoOk GG MM syt_729 := chk_ok (cs := [syt_719, syt_721, syt_728, syt_722, syt_727]) (F := 4000) (List.forall_mem_cons.mpr ⟨syc_719, List.forall_mem_cons.mpr ⟨syc_721, List.forall_mem_cons.mpr ⟨syc_728, List.forall_mem_cons.mpr ⟨syc_722, List.forall_mem_cons.mpr ⟨syc_727, fun _ h => absurd h List.not_mem_nil⟩⟩⟩⟩⟩) (by decide +kernel) (by decide +kernel)
/-- M.write -/
def syt_730 : CO := (294, 1, [(0, 0, 0, 0, 0, 0), ((-2147483648), 2147483647, 0, (-2147483648), 0, 2147483647), (34, 48, 0, 34, 0, 48)], [(2, 180, 0), (0, 1, 0)], [(180, 41, (0, 2, 0))], [(1, 1, 0), (2, 180, 41)], [(none, [(0, 0, 0, 0, 0, 0), ((-2147483648), 2147483647, 0, (-2147483648), 0, 2147483647), (34, 48, 0, 34, 0, 48)], [(180, 41, (0, 2, 1))], [])], [(180, 41, 41), (199, 34, 48)], [], [], [])
set_option maxRecDepth 100000 in
theorem syc_730 : CoOk GG MM syt_730 := chk_ok (cs := []) (F := 4000) (fun _ h => absurd h List.not_mem_nil) (by decide +kernel) (by decide +kernel)
/-- M.writeWord -/
def syt_731 : CO := (297, 7, [(0, 0, 0, 0, 0, 0), (1, 387420488, 0, 1, 0, 387420488), (33, 43, 0, 33, 0, 43)], [(2, 180, 0), (1, 1, 0)], [(180, 41, (0, 2, 0))], [(1, 1, 0), (2, 180, 41)], [(none, [(0, 0, 0, 0, 0, 0), (1, 387420488, 0, 1, 0, 387420488), (33, 43, 0, 33, 0, 43), (34, 49, 2, 1, 0, 49)], [(180, 41, (0, 3, 0))], [(2, 180, 41)])], [(180, 41, 41), (199, 33, 48)], [], [], [])
set_option maxRecDepth 100000 in
theorem syc_731 : CoOk GG MM syt_731 := chk_ok (cs := [syt_719, syt_721, syt_730, syt_722, syt_729]) (F := 4000) (List.forall_mem_cons.mpr ⟨syc_719, List.forall_mem_cons.mpr ⟨syc_721, List.forall_mem_cons.mpr ⟨syc_730, List.forall_mem_cons.mpr ⟨syc_722, List.forall_mem_cons.mpr ⟨syc_729, fun _ h => absurd h List.not_mem_nil⟩⟩⟩⟩⟩) (by decide +kernel) (by decide +kernel)
/-- M.write -/
def syt_732 : CO := (294, 1, [(0, 0, 0, 0, 0, 0), ((-2147483648), 2147483647, 0, (-2147483648), 0, 2147483647), (34, 49, 0, 34, 0, 49)], [(2, 180, 0), (0, 1, 0)], [(180, 41, (0, 2, 0))], [(1, 1, 0), (2, 180, 41)], [(none, [(0, 0, 0, 0, 0, 0), ((-2147483648), 2147483647, 0, (-2147483648), 0, 2147483647), (34, 49, 0, 34, 0, 49)], [(180, 41, (0, 2, 1))], [])], [(180, 41, 41), (199, 34, 49)], [], [], [])
set_option maxRecDepth 100000 in
theorem syc_732 : CoOk GG MM syt_732 := chk_ok (cs := []) (F := 4000) (fun _ h => absurd h List.not_mem_nil) (by decide +kernel) (by decide +kernel)
/-- M.writeWord -/
def syt_733 : CO := (297, 8, [(0, 0, 0, 0, 0, 0), (1, 10460353202, 0, 1, 0, 10460353202), (33, 43, 0, 33, 0, 43)], [(2, 180, 0), (1, 1, 0)], [(180, 41, (0, 2, 0))], [(1, 1, 0), (2, 180, 41)], [(none, [(0, 0, 0, 0, 0, 0), (1, 10460353202, 0, 1, 0, 10460353202), (33, 43, 0, 33, 0, 43), (34, 50, 2, 1, 0, 50)], [(180, 41, (0, 3, 0))], [(2, 180, 41)])], [(180, 41, 41), (199, 33, 49)], [], [], [])
set_option maxRecDepth 100000 in
theorem syc_733 : CoOk GG MM syt_733 := chk_ok (cs := [syt_719, syt_721, syt_732, syt_722, syt_731]) (F := 4000) (List.forall_mem_cons.mpr ⟨syc_719, List.forall_mem_cons.mpr ⟨syc_721, List.forall_mem_cons.mpr ⟨syc_732, List.forall_mem_cons.mpr ⟨syc_722, List.forall_mem_cons.mpr ⟨syc_731, fun _ h => absurd h List.not_mem_nil⟩⟩⟩⟩⟩) (by decide +kernel) (by decide +kernel)
/-- M.write -/
def syt_734 : CO := (294, 1, [(0, 0, 0, 0, 0, 0), ((-2147483648), 2147483647, 0, (-2147483648), 0, 2147483647), (34, 50, 0, 34, 0, 50)], [(2, 180, 0), (0, 1, 0)], [(180, 41, (0, 2, 0))], [(1, 1, 0), (2, 180, 41)], [(none, [(0, 0, 0, 0, 0, 0), ((-2147483648), 2147483647, 0, (-2147483648), 0, 2147483647), (34, 50, 0, 34, 0, 50)], [(180, 41, (0, 2, 1))], [])], [(180, 41, 41), (199, 34, 50)], [], [], [])
set_option maxRecDepth 100000 in
theorem syc_734 : CoOk GG MM syt_734 := chk_ok (cs := []) (F := 4000) (fun _ h => absurd h List.not_mem_nil) (by decide +kernel) (by decide +kernel)
/-- M.writeWord -/
def syt_735 : CO := (297, 9, [(0, 0, 0, 0, 0, 0), ((-9223372036854775808), 282429536480, 0, (-9223372036854775808), 0, 282429536480), (33, 43, 0, 33, 0, 43)], [(2, 180, 0), (1, 1, 0)], [(180, 41, (0, 2, 0))], [(1, 1, 0), (2, 180, 41)], [(none, [(0, 0, 0, 0, 0, 0), ((-9223372036854775808), 282429536480, 0, (-9223372036854775808), 0, 282429536480), (33, 43, 0, 33, 0, 43), (34, 51, 2, 1, 0, 51)], [(180, 41, (0, 3, 0))], [(2, 180, 41)])], [(180, 41, 41), (199, 33, 50)], [], [], [])
set_option maxRecDepth 100000 in
theorem syc_735 : CoOk GG MM syt_735 := chk_ok (cs := [syt_719, syt_721, syt_734, syt_722, syt_733]) (F := 4000) (List.forall_mem_cons.mpr ⟨syc_719, List.forall_mem_cons.mpr ⟨syc_721, List.forall_mem_cons.mpr ⟨syc_734, List.forall_mem_cons.mpr ⟨syc_722, List.forall_mem_cons.mpr ⟨syc_733, fun _ h => absurd h List.not_mem_nil⟩⟩⟩⟩⟩) (by decide +kernel) (by decide +kernel)
/-- M.writeNext -/
def syt_736 : CO := (295, 10, [(0, 0, 0, 0, 0, 0), ((-9223372036854775808), 282429536480, 0, (-9223372036854775808), 0, 282429536480), (32, 42, 0, 32, 0, 42)], [(2, 180, 0), (1, 1, 0)], [(180, 41, (0, 2, 0))], [(1, 1, 0), (2, 180, 41)], [(none, [(0, 0, 0, 0, 0, 0), ((-9223372036854775808), 282429536480, 0, (-9223372036854775808), 0, 282429536480), (32, 42, 0, 32, 0, 42), (34, 51, 2, 2, 0, 51)], [(180, 41, (0, 3, 0))], [(2, 180, 41)])], [(180, 41, 41), (199, 32, 50)], [], [], [])
set_option maxRecDepth 100000 in
theorem syc_736 : CoOk GG MM syt_736 := chk_ok (cs := [syt_718, syt_735]) (F := 4000) (List.forall_mem_cons.mpr ⟨syc_718, List.forall_mem_cons.mpr ⟨syc_735, fun _ h => absurd h List.not_mem_nil⟩⟩) (by decide +kernel) (by decide +kernel)
/-- M.writeWord -/
def syt_737 : CO := (297, 2, [(0, 0, 0, 0, 0, 0), (23, 23, 0, 23, 0, 23), (19, 29, 0, 19, 0, 29)], [(2, 180, 0), (1, 1, 0)], [(180, 41, (0, 2, 0))], [(1, 1, 0), (2, 180, 41)], [(none, [(0, 0, 0, 0, 0, 0), (23, 23, 0, 23, 0, 23), (19, 29, 0, 19, 0, 29)], [(180, 41, (0, 2, 1))], [])], [(180, 41, 41), (199, 19, 29)], [], [], [])
set_option maxRecDepth 100000 in
theorem syc_737 : CoOk GG MM syt_737 := chk_ok (cs := [syt_692]) (F := 4000) (List.forall_mem_cons.mpr ⟨syc_692, fun _ h => absurd h List.not_mem_nil⟩) (by decide +kernel) (by decide +kernel)
/-- M.writeWord -/
def syt_738 : CO := (297, 3, [(0, 0, 0, 0, 0, 0), (626, 626, 0, 626, 0, 626), (19, 29, 0, 19, 0, 29)], [(2, 180, 0), (1, 1, 0)], [(180, 41, (0, 2, 0))], [(1, 1, 0), (2, 180, 41)], [(none, [(0, 0, 0, 0, 0, 0), (626, 626, 0, 626, 0, 626), (19, 29, 0, 19, 0, 29)], [(180, 41, (0, 2, 2))], [])], [(180, 41, 41), (199, 19, 30)], [], [], [])
set_option maxRecDepth 100000 in
theorem syc_738 : CoOk GG MM syt_738 := chk_ok (cs := [syt_694, syt_737]) (F := 4000) (List.forall_mem_cons.mpr ⟨syc_694, List.forall_mem_cons.mpr ⟨syc_737, fun _ h => absurd h List.not_mem_nil⟩⟩) (by decide +kernel) (by decide +kernel)
/-- M.writeWord -/
def syt_739 : CO := (297, 4, [(0, 0, 0, 0, 0, 0), (16906, 16906, 0, 16906, 0, 16906), (19, 29, 0, 19, 0, 29)], [(2, 180, 0), (1, 1, 0)], [(180, 41, (0, 2, 0))], [(1, 1, 0), (2, 180, 41)], [(none, [(0, 0, 0, 0, 0, 0), (16906, 16906, 0, 16906, 0, 16906), (19, 29, 0, 19, 0, 29)], [(180, 41, (0, 2, 3))], [])], [(180, 41, 41), (199, 19, 31)], [], [], [])
set_option maxRecDepth 100000 in
theorem syc_739 : CoOk GG MM syt_739 := chk_ok (cs := [syt_696, syt_738]) (F := 4000) (List.forall_mem_cons.mpr ⟨syc_696, List.forall_mem_cons.mpr ⟨syc_738, fun _ h => absurd h List.not_mem_nil⟩⟩) (by decide +kernel) (by decide +kernel)
/-- M.writeNext -/
def syt_740 : CO := (295, 5, [(0, 0, 0, 0, 0, 0), (16906, 16906, 0, 16906, 0, 16906), (18, 28, 0, 18, 0, 28)], [(2, 180, 0), (1, 1, 0)], [(180, 41, (0, 2, 0))], [(1, 1, 0), (2, 180, 41)], [(none, [(0, 0, 0, 0, 0, 0), (16906, 16906, 0, 16906, 0, 16906), (18, 28, 0, 18, 0, 28)], [(180, 41, (0, 2, 4))], [])], [(180, 41, 41), (199, 18, 31)], [], [], [])
set_option maxRecDepth 100000 in
theorem syc_740 : CoOk GG MM syt_740 := chk_ok (cs := [syt_691, syt_739]) (F := 4000) (List.forall_mem_cons.mpr ⟨syc_691, List.forall_mem_cons.mpr ⟨syc_739, fun _ h => absurd h List.not_mem_nil⟩⟩) (by decide +kernel) (by decide +kernel)
/-- M.writeWord -/
def syt_741 : CO := (297, 2, [(0, 0, 0, 0, 0, 0), (20, 20, 0, 20, 0, 20), (23, 33, 0, 23, 0, 33)], [(2, 180, 0), (1, 1, 0)], [(180, 41, (0, 2, 0))], [(1, 1, 0), (2, 180, 41)], [(none, [(0, 0, 0, 0, 0, 0), (20, 20, 0, 20, 0, 20), (23, 33, 0, 23, 0, 33)], [(180, 41, (0, 2, 1))], [])], [(180, 41, 41), (199, 23, 33)], [], [], [])
set_option maxRecDepth 100000 in
theorem syc_741 : CoOk GG MM syt_741 := chk_ok (cs := [syt_700]) (F := 4000) (List.forall_mem_cons.mpr ⟨syc_700, fun _ h => absurd h List.not_mem_nil⟩) (by decide +kernel) (by decide +kernel)
/-- M.writeWord -/
def syt_742 : CO := (297, 3, [(0, 0, 0, 0, 0, 0), (555, 555, 0, 555, 0, 555), (23, 33, 0, 23, 0, 33)], [(2, 180, 0), (1, 1, 0)], [(180, 41, (0, 2, 0))], [(1, 1, 0), (2, 180, 41)], [(none, [(0, 0, 0, 0, 0, 0), (555, 555, 0, 555, 0, 555), (23, 33, 0, 23, 0, 33)], [(180, 41, (0, 2, 2))], [])], [(180, 41, 41), (199, 23, 34)], [], [], [])
set_option maxRecDepth 100000 in
theorem syc_742 : CoOk GG MM syt_742 := chk_ok (cs := [syt_644, syt_741]) (F := 4000) (List.forall_mem_cons.mpr ⟨syc_644, List.forall_mem_cons.mpr ⟨syc_741, fun _ h => absurd h List.not_mem_nil⟩⟩) (by decide +kernel) (by decide +kernel)
/-- M.writeNext -/
def syt_743 : CO := (295, 4, [(0, 0, 0, 0, 0, 0), (555, 555, 0, 555, 0, 555), (22, 32, 0, 22, 0, 32)], [(2, 180, 0), (1, 1, 0)], [(180, 41, (0, 2, 0))], [(1, 1, 0), (2, 180, 41)], [(none, [(0, 0, 0, 0, 0, 0), (555, 555, 0, 555, 0, 555), (22, 32, 0, 22, 0, 32)], [(180, 41, (0, 2, 3))], [])], [(180, 41, 41), (199, 22, 34)], [], [], [])
set_option maxRecDepth 100000 in
theorem syc_743 : CoOk GG MM syt_743 := chk_ok (cs := [syt_698, syt_742]) (F := 4000) (List.forall_mem_cons.mpr ⟨syc_698, List.forall_mem_cons.mpr ⟨syc_742, fun _ h => absurd h List.not_mem_nil⟩⟩) (by decide +kernel) (by decide +kernel)
/-- M.writeWord -/
def syt_744 : CO := (297, 2, [(0, 0, 0, 0, 0, 0), (1, 26, 0, 1, 0, 26), (26, 36, 0, 26, 0, 36)], [(2, 180, 0), (1, 1, 0)], [(180, 41, (0, 2, 0))], [(1, 1, 0), (2, 180, 41)], [(none, [(0, 0, 0, 0, 0, 0), (1, 26, 0, 1, 0, 26), (26, 36, 0, 26, 0, 36)], [(180, 41, (0, 2, 1))], [])], [(180, 41, 41), (199, 26, 36)], [], [], [])
set_option maxRecDepth 100000 in
theorem syc_744 : CoOk GG MM syt_744 := chk_ok (cs := [syt_705]) (F := 4000) (List.forall_mem_cons.mpr ⟨syc_705, fun _ h => absurd h List.not_mem_nil⟩) (by decide +kernel) (by decide +kernel)
/-- M.writeWord -/
def syt_745 : CO := (297, 2, [(0, 0, 0, 0, 0, 0), (1, 1, 0, 1, 0, 1), (26, 36, 0, 26, 0, 36)], [(2, 180, 0), (1, 1, 0)], [(180, 41, (0, 2, 0))], [(1, 1, 0), (2, 180, 41)], [(none, [(0, 0, 0, 0, 0, 0), (1, 1, 0, 1, 0, 1), (26, 36, 0, 26, 0, 36)], [(180, 41, (0, 2, 1))], [])], [(180, 41, 41), (199, 26, 36)], [], [], [])
set_option maxRecDepth 100000 in
theorem syc_745 : CoOk GG MM syt_745 := chk_ok (cs := [syt_705]) (F := 4000) (List.forall_mem_cons.mpr ⟨syc_705, fun _ h => absurd h List.not_mem_nil⟩) (by decide +kernel) (by decide +kernel)
/-- M.writeWord -/
def syt_746 : CO := (297, 3, [(0, 0, 0, 0, 0, 0), (1, 728, 0, 1, 0, 728), (26, 36, 0, 26, 0, 36)], [(2, 180, 0), (1, 1, 0)], [(180, 41, (0, 2, 0))], [(1, 1, 0), (2, 180, 41)], [(none, [(0, 0, 0, 0, 0, 0), (1, 728, 0, 1, 0, 728), (26, 36, 0, 26, 0, 36), (27, 38, 2, 1, 0, 38)], [(180, 41, (0, 3, 0))], [(2, 180, 41)])], [(180, 41, 41), (199, 26, 37)], [], [], [])
set_option maxRecDepth 100000 in
theorem syc_746 : CoOk GG MM syt_746 := chk_ok (cs := [syt_705, syt_707, syt_745, syt_744]) (F := 4000) (List.forall_mem_cons.mpr ⟨syc_705, List.forall_mem_cons.mpr ⟨syc_707, List.forall_mem_cons.mpr ⟨syc_745, List.forall_mem_cons.mpr ⟨syc_744, fun _ h => absurd h List.not_mem_nil⟩⟩⟩⟩) (by decide +kernel) (by decide +kernel)
/-- M.write -/
def syt_747 : CO := (294, 1, [(0, 0, 0, 0, 0, 0), ((-2147483648), 2147483647, 0, (-2147483648), 0, 2147483647), (27, 38, 0, 27, 0, 38)], [(2, 180, 0), (0, 1, 0)], [(180, 41, (0, 2, 0))], [(1, 1, 0), (2, 180, 41)], [(none, [(0, 0, 0, 0, 0, 0), ((-2147483648), 2147483647, 0, (-2147483648), 0, 2147483647), (27, 38, 0, 27, 0, 38)], [(180, 41, (0, 2, 1))], [])], [(180, 41, 41), (199, 27, 38)], [], [], [])
set_option maxRecDepth 100000 in
theorem syc_747 : CoOk GG MM syt_747 := chk_ok (cs := []) (F := 4000) (fun _ h => absurd h List.not_mem_nil) (by decide +kernel) (by decide +kernel)
/-- M.writeWord -/
def syt_748 : CO := (297, 4, [(0, 0, 0, 0, 0, 0), (1, 19682, 0, 1, 0, 19682), (26, 36, 0, 26, 0, 36)], [(2, 180, 0), (1, 1, 0)], [(180, 41, (0, 2, 0))], [(1, 1, 0), (2, 180, 41)], [(none, [(0, 0, 0, 0, 0, 0), (1, 19682, 0, 1, 0, 19682), (26, 36, 0, 26, 0, 36), (27, 39, 2, 1, 0, 39)], [(180, 41, (0, 3, 0))], [(2, 180, 41)])], [(180, 41, 41), (199, 26, 38)], [], [], [])
set_option maxRecDepth 100000 in
theorem syc_748 : CoOk GG MM syt_748 := chk_ok (cs := [syt_705, syt_707, syt_747, syt_745, syt_746]) (F := 4000) (List.forall_mem_cons.mpr ⟨syc_705, List.forall_mem_cons.mpr ⟨syc_707, List.forall_mem_cons.mpr ⟨syc_747, List.forall_mem_cons.mpr ⟨syc_745, List.forall_mem_cons.mpr ⟨syc_746, fun _ h => absurd h List.not_mem_nil⟩⟩⟩⟩⟩) (by decide +kernel) (by decide +kernel)
/-- M.write -/
def syt_749 : CO := (294, 1, [(0, 0, 0, 0, 0, 0), ((-2147483648), 2147483647, 0, (-2147483648), 0, 2147483647), (27, 39, 0, 27, 0, 39)], [(2, 180, 0), (0, 1, 0)], [(180, 41, (0, 2, 0))], [(1, 1, 0), (2, 180, 41)], [(none, [(0, 0, 0, 0, 0, 0), ((-2147483648), 2147483647, 0, (-2147483648), 0, 2147483647), (27, 39, 0, 27, 0, 39)], [(180, 41, (0, 2, 1))], [])], [(180, 41, 41), (199, 27, 39)], [], [], [])
set_option maxRecDepth 100000 in
theorem syc_749 : CoOk GG MM syt_749 := chk_ok (cs := []) (F := 4000) (fun _ h => absurd h List.not_mem_nil) (by decide +kernel) (by decide +kernel)
/-- M.writeWord -/
def syt_750 : CO := (297, 5, [(0, 0, 0, 0, 0, 0), (1, 531440, 0, 1, 0, 531440), (26, 36, 0, 26, 0, 36)], [(2, 180, 0), (1, 1, 0)], [(180, 41, (0, 2, 0))], [(1, 1, 0), (2, 180, 41)], [(none, [(0, 0, 0, 0, 0, 0), (1, 531440, 0, 1, 0, 531440), (26, 36, 0, 26, 0, 36), (27, 40, 2, 1, 0, 40)], [(180, 41, (0, 3, 0))], [(2, 180, 41)])], [(180, 41, 41), (199, 26, 39)], [], [], [])
set_option maxRecDepth 100000 in
theorem syc_750 : CoOk GG MM syt_750 := chk_ok (cs := [syt_705, syt_707, syt_749, syt_745, syt_748]) (F := 4000) (List.forall_mem_cons.mpr ⟨syc_705, List.forall_mem_cons.mpr ⟨syc_707, List.forall_mem_cons.mpr ⟨syc_749, List.forall_mem_cons.mpr ⟨syc_745, List.forall_mem_cons.mpr ⟨syc_748, fun _ h => absurd h List.not_mem_nil⟩⟩⟩⟩⟩) (by decide +kernel) (by decide +kernel)
/-- M.write -/
def syt_751 : CO := (294, 1, [(0, 0, 0, 0, 0, 0), ((-2147483648), 2147483647, 0, (-2147483648), 0, 2147483647), (27, 40, 0, 27, 0, 40)], [(2, 180, 0), (0, 1, 0)], [(180, 41, (0, 2, 0))], [(1, 1, 0), (2, 180, 41)], [(none, [(0, 0, 0, 0, 0, 0), ((-2147483648), 2147483647, 0, (-2147483648), 0, 2147483647), (27, 40, 0, 27, 0, 40)], [(180, 41, (0, 2, 1))], [])], [(180, 41, 41), (199, 27, 40)], [], [], [])
set_option maxRecDepth 100000 in
theorem syc_751 : CoOk GG MM syt_751 := chk_ok (cs := []) (F := 4000) (fun _ h => absurd h List.not_mem_nil) (by decide +kernel) (by decide +kernel)
/-- M.writeWord -/
def syt_752 : CO := (297, 6, [(0, 0, 0, 0, 0, 0), (1, 14348906, 0, 1, 0, 14348906), (26, 36, 0, 26, 0, 36)], [(2, 180, 0), (1, 1, 0)], [(180, 41, (0, 2, 0))], [(1, 1, 0), (2, 180, 41)], [(none, [(0, 0, 0, 0, 0, 0), (1, 14348906, 0, 1, 0, 14348906), (26, 36, 0, 26, 0, 36), (27, 41, 2, 1, 0, 41)], [(180, 41, (0, 3, 0))], [(2, 180, 41)])], [(180, 41, 41), (199, 26, 40)], [], [], [])
set_option maxRecDepth 100000 in
theorem syc_752 : CoOk GG MM syt_752 := chk_ok (cs := [syt_705, syt_707, syt_751, syt_745, syt_750]) (F := 4000) (List.forall_mem_cons.mpr ⟨syc_705, List.forall_mem_cons.mpr ⟨syc_707, List.forall_mem_cons.mpr ⟨syc_751, List.forall_mem_cons.mpr ⟨syc_745, List.forall_mem_cons.mpr ⟨syc_750, fun _ h => absurd h List.not_mem_nil⟩⟩⟩⟩⟩) (by decide +kernel) (by decide +kernel)
/-- M.write -/
def syt_753 : CO := (294, 1, [(0, 0, 0, 0, 0, 0), ((-2147483648), 2147483647, 0, (-2147483648), 0, 2147483647), (27, 41, 0, 27, 0, 41)], [(2, 180, 0), (0, 1, 0)], [(180, 41, (0, 2, 0))], [(1, 1, 0), (2, 180, 41)], [(none, [(0, 0, 0, 0, 0, 0), ((-2147483648), 2147483647, 0, (-2147483648), 0, 2147483647), (27, 41, 0, 27, 0, 41)], [(180, 41, (0, 2, 1))], [])], [(180, 41, 41), (199, 27, 41)], [], [], [])
set_option maxRecDepth 100000 in
theorem syc_753 : CoOk GG MM syt_753 := chk_ok (cs := []) (F := 4000) (fun _ h => absurd h List.not_mem_nil) (by decide +kernel) (by decide +kernel)
/-- M.writeWord -/
def syt_754 : CO := (297, 7, [(0, 0, 0, 0, 0, 0), (1, 387420488, 0, 1, 0, 387420488), (26, 36, 0, 26, 0, 36)], [(2, 180, 0), (1, 1, 0)], [(180, 41, (0, 2, 0))], [(1, 1, 0), (2, 180, 41)], [(none, [(0, 0, 0, 0, 0, 0), (1, 387420488, 0, 1, 0, 387420488), (26, 36, 0, 26, 0, 36), (27, 42, 2, 1, 0, 42)], [(180, 41, (0, 3, 0))], [(2, 180, 41)])], [(180, 41, 41), (199, 26, 41)], [], [], [])
set_option maxRecDepth 100000 in
theorem syc_754 : CoOk GG MM syt_754 := chk_ok (cs := [syt_705, syt_707, syt_753, syt_745, syt_752]) (F := 4000) (List.forall_mem_cons.mpr ⟨syc_705, List.forall_mem_cons.mpr ⟨syc_707, List.forall_mem_cons.mpr ⟨syc_753, List.forall_mem_cons.mpr ⟨syc_745, List.forall_mem_cons.mpr ⟨syc_752, fun _ h => absurd h List.not_mem_nil⟩⟩⟩⟩⟩) (by decide +kernel) (by decide +kernel)
/-- M.write -/
def syt_755 : CO := (294, 1, [(0, 0, 0, 0, 0, 0), ((-2147483648), 2147483647, 0, (-2147483648), 0, 2147483647), (27, 42, 0, 27, 0, 42)], [(2, 180, 0), (0, 1, 0)], [(180, 41, (0, 2, 0))], [(1, 1, 0), (2, 180, 41)], [(none, [(0, 0, 0, 0, 0, 0), ((-2147483648), 2147483647, 0, (-2147483648), 0, 2147483647), (27, 42, 0, 27, 0, 42)], [(180, 41, (0, 2, 1))], [])], [(180, 41, 41), (199, 27, 42)], [], [], [])
set_option maxRecDepth 100000 in
theorem syc_755 : CoOk GG MM syt_755 := chk_ok (cs := []) (F := 4000) (fun _ h => absurd h List.not_mem_nil) (by decide +kernel) (by decide +kernel)
/-- M.writeWord -/
def syt_756 : CO := (297, 8, [(0, 0, 0, 0, 0, 0), (1, 10460353202, 0, 1, 0, 10460353202), (26, 36, 0, 26, 0, 36)], [(2, 180, 0), (1, 1, 0)], [(180, 41, (0, 2, 0))], [(1, 1, 0), (2, 180, 41)], [(none, [(0, 0, 0, 0, 0, 0), (1, 10460353202, 0, 1, 0, 10460353202), (26, 36, 0, 26, 0, 36), (27, 43, 2, 1, 0, 43)], [(180, 41, (0, 3, 0))], [(2, 180, 41)])], [(180, 41, 41), (199, 26, 42)], [], [], [])
set_option maxRecDepth 100000 in
theorem syc_756 : CoOk GG MM syt_756 := chk_ok (cs := [syt_705, syt_707, syt_755, syt_745, syt_754]) (F := 4000) (List.forall_mem_cons.mpr ⟨syc_705, List.forall_mem_cons.mpr ⟨syc_707, List.forall_mem_cons.mpr ⟨syc_755, List.forall_mem_cons.mpr ⟨syc_745, List.forall_mem_cons.mpr ⟨syc_754, fun _ h => absurd h List.not_mem_nil⟩⟩⟩⟩⟩) (by decide +kernel) (by decide +kernel)
/-- M.write -/
def syt_757 : CO := (294, 1, [(0, 0, 0, 0, 0, 0), ((-2147483648), 2147483647, 0, (-2147483648), 0, 2147483647), (27, 43, 0, 27, 0, 43)], [(2, 180, 0), (0, 1, 0)], [(180, 41, (0, 2, 0))], [(1, 1, 0), (2, 180, 41)], [(none, [(0, 0, 0, 0, 0, 0), ((-2147483648), 2147483647, 0, (-2147483648), 0, 2147483647), (27, 43, 0, 27, 0, 43)], [(180, 41, (0, 2, 1))], [])], [(180, 41, 41), (199, 27, 43)], [], [], [])
set_option maxRecDepth 100000 in
theorem syc_757 : CoOk GG MM syt_757 := chk_ok (cs := []) (F := 4000) (fun _ h => absurd h List.not_mem_nil) (by decide +kernel) (by decide +kernel)
/-- M.writeWord -/
def syt_758 : CO := (297, 9, [(0, 0, 0, 0, 0, 0), ((-9223372036854775808), 282429536480, 0, (-9223372036854775808), 0, 282429536480), (26, 36, 0, 26, 0, 36)], [(2, 180, 0), (1, 1, 0)], [(180, 41, (0, 2, 0))], [(1, 1, 0), (2, 180, 41)], [(none, [(0, 0, 0, 0, 0, 0), ((-9223372036854775808), 282429536480, 0, (-9223372036854775808), 0, 282429536480), (26, 36, 0, 26, 0, 36), (27, 44, 2, 1, 0, 44)], [(180, 41, (0, 3, 0))], [(2, 180, 41)])], [(180, 41, 41), (199, 26, 43)], [], [], [])
set_option maxRecDepth 100000 in
theorem syc_758 : CoOk GG MM syt_758 := chk_ok (cs := [syt_705, syt_707, syt_757, syt_745, syt_756]) (F := 4000) (List.forall_mem_cons.mpr ⟨syc_705, List.forall_mem_cons.mpr ⟨syc_707, List.forall_mem_cons.mpr ⟨syc_757, List.forall_mem_cons.mpr ⟨syc_745, List.forall_mem_cons.mpr ⟨syc_756, fun _ h => absurd h List.not_mem_nil⟩⟩⟩⟩⟩) (by decide +kernel) (by decide +kernel)
/-- M.writeNext -/
def syt_759 : CO := (295, 10, [(0, 0, 0, 0, 0, 0), ((-9223372036854775808), 282429536480, 0, (-9223372036854775808), 0, 282429536480), (25, 35, 0, 25, 0, 35)], [(2, 180, 0), (1, 1, 0)], [(180, 41, (0, 2, 0))], [(1, 1, 0), (2, 180, 41)], [(none, [(0, 0, 0, 0, 0, 0), ((-9223372036854775808), 282429536480, 0, (-9223372036854775808), 0, 282429536480), (25, 35, 0, 25, 0, 35), (27, 44, 2, 2, 0, 44)], [(180, 41, (0, 3, 0))], [(2, 180, 41)])], [(180, 41, 41), (199, 25, 43)], [], [], [])
set_option maxRecDepth 100000 in
theorem syc_759 : CoOk GG MM syt_759 := chk_ok (cs := [syt_704, syt_758]) (F := 4000) (List.forall_mem_cons.mpr ⟨syc_704, List.forall_mem_cons.mpr ⟨syc_758, fun _ h => absurd h List.not_mem_nil⟩⟩) (by decide +kernel) (by decide +kernel)
/-- M.slip -/
def syt_760 : CO := (277, 11, [(0, 0, 0, 0, 0, 0), ((-2147483648), 2147483647, 0, (-2147483648), 0, 2147483647)], [(2, 180, 0), (0, 1, 0)], [], [(1, 1, 0)], [(some (0, 4, 0), [(0, 0, 0, 0, 0, 0), (0, 6, 0, 0, 0, 6), (8, 59, 0, 8, 0, 59), (1, 7, 0, 1, 0, 7), (8, 59, 0, 8, 0, 59)], [(180, 41, (0, 2, 0)), (182, 0, (0, 3, 0))], [(2, 180, 41), (2, 182, 0), (1, 0, 0)]), (some (0, 0, (-1)), [(0, 0, 0, 0, 0, 0), ((-2147483648), 2147483647, 0, (-2147483648), 0, 2147483647)], [], [])], [(180, 0, 0), (180, 41, 41), (199, 0, 50)], [], [], [])
set_option maxRecDepth 100000 in
theorem syc_760 : CoOk GG MM syt_760 := chk_ok (cs := [syt_244, syt_242, syt_235, syt_276, syt_680, syt_91, syt_121, syt_123, syt_129, syt_131, syt_603, syt_625, syt_602, syt_623, syt_631, syt_637, syt_660, syt_663, syt_683, syt_688, syt_703, syt_711, syt_717, syt_740, syt_743, syt_656, syt_679, syt_736, syt_759, syt_690, syt_609, syt_592]) (F := 4000) (List.forall_mem_cons.mpr ⟨syc_244, List.forall_mem_cons.mpr ⟨syc_242, List.forall_mem_cons.mpr ⟨syc_235, List.forall_mem_cons.mpr ⟨syc_276, List.forall_mem_cons.mpr ⟨syc_680, List.forall_mem_cons.mpr ⟨syc_91, List.forall_mem_cons.mpr ⟨syc_121, List.forall_mem_cons.mpr ⟨syc_123, List.forall_mem_cons.mpr ⟨syc_129, List.forall_mem_cons.mpr ⟨syc_131, List.forall_mem_cons.mpr ⟨syc_603, List.forall_mem_cons.mpr ⟨syc_625, List.forall_mem_cons.mpr ⟨syc_602, List.forall_mem_cons.mpr ⟨syc_623, List.forall_mem_cons.mpr ⟨syc_631, List.forall_mem_cons.mpr ⟨syc_637, List.forall_mem_cons.mpr ⟨syc_660, List.forall_mem_cons.mpr ⟨syc_663, List.forall_mem_cons.mpr ⟨syc_683, List.forall_mem_cons.mpr ⟨syc_688, List.forall_mem_cons.mpr ⟨syc_703, List.forall_mem_cons.mpr ⟨syc_711, List.forall_mem_cons.mpr ⟨syc_717, List.forall_mem_cons.mpr ⟨syc_740, List.forall_mem_cons.mpr ⟨syc_743, List.forall_mem_cons.mpr ⟨syc_656, List.forall_mem_cons.mpr ⟨syc_679, List.forall_mem_cons.mpr ⟨syc_736, List.forall_mem_cons.mpr ⟨syc_759, List.forall_mem_cons.mpr ⟨syc_690, List.forall_mem_cons.mpr ⟨syc_609, List.forall_mem_cons.mpr ⟨syc_592, fun _ h => absurd h List.not_mem_nil⟩⟩⟩⟩⟩⟩⟩⟩⟩⟩⟩⟩⟩⟩⟩⟩⟩⟩⟩⟩⟩⟩⟩⟩⟩⟩⟩⟩⟩⟩⟩⟩) (by decide +kernel) (by decide +kernel)
/-- X.byteAt -/
def syt_761 : CO := (8, 1, [(0, 0, 0, 0, 0, 0), ((-2147483648), 2147483647, 0, (-2147483648), 0, 2147483647)], [(2, 0, 0), (0, 1, 0)], [(0, 1, (2, 3, 0)), (0, 2, (2, 13, 0)), (0, 7, (2, 110, 0)), (0, 8, (2, 115, 0))], [(1, 1, 0)], [(some (0, 2, 0), [(0, 0, 0, 0, 0, 0), (0, 63, 0, 0, 0, 63), ((-128), 127, 0, (-128), 0, 127)], [(0, 1, (2, 3, 0)), (0, 2, (2, 13, 0)), (0, 7, (2, 110, 0)), (0, 8, (2, 115, 0))], [(1, 0, 0)]), (some (0, 0, (-1)), [(0, 0, 0, 0, 0, 0), ((-2147483648), 2147483647, 0, (-2147483648), 0, 2147483647)], [(0, 1, (2, 3, 0)), (0, 2, (2, 13, 0)), (0, 7, (2, 110, 0)), (0, 8, (2, 115, 0))], [])], [], [], [], [])
set_option maxRecDepth 100000 in
theorem syc_761 : CoOk GG MM syt_761 := chk_ok (cs := []) (F := 4000) (fun _ h => absurd h List.not_mem_nil) (by decide +kernel) (by decide +kernel)
/-- M.isIn -/
def syt_762 : CO := (218, 1, [(0, 0, 0, 0, 0, 0), ((-2147483648), 2147483647, 0, (-2147483648), 0, 2147483647), ((-1), 63, 0, (-1), 0, 63)], [(0, 1, 0), (0, 0, 0), (0, 2, 0)], [], [(1, 0, 0), (1, 2, 0)], [(some (0, 0, 1), [(0, 0, 0, 0, 0, 0), (0, 63, 0, 0, 0, 63), (0, 63, 0, 0, 0, 63)], [], []), (some (0, 0, 0), [(0, 0, 0, 0, 0, 0), ((-2147483648), 2147483647, 0, (-2147483648), 0, 2147483647), ((-1), 63, 0, (-1), 0, 63)], [], [])], [], [], [], [])
set_option maxRecDepth 100000 in
theorem syc_762 : CoOk GG MM syt_762 := chk_ok (cs := []) (F := 4000) (fun _ h => absurd h List.not_mem_nil) (by decide +kernel) (by decide +kernel)
/-- M.byteAt -/
def syt_763 : CO := (182, 2, [(0, 0, 0, 0, 0, 0), ((-2147483648), 2147483647, 0, (-2147483648), 0, 2147483647)], [(2, 180, 0), (0, 1, 0)], [], [(1, 1, 0)], [(some (0, 0, (-1)), [(0, 0, 0, 0, 0, 0), ((-2147483648), 2147483647, 0, (-2147483648), 0, 2147483647)], [], []), (some (0, 3, 0), [(0, 0, 0, 0, 0, 0), (0, 63, 0, 0, 0, 63), (1, 64, 0, 1, 0, 64), ((-2147483648), 2147483647, 0, (-2147483648), 0, 2147483647)], [(180, 41, (0, 2, 0))], [(2, 180, 41), (1, 0, 0)])], [(180, 0, 0)], [], [], [])
set_option maxRecDepth 100000 in
theorem syc_763 : CoOk GG MM syt_763 := chk_ok (cs := [syt_762]) (F := 4000) (List.forall_mem_cons.mpr ⟨syc_762, fun _ h => absurd h List.not_mem_nil⟩) (by decide +kernel) (by decide +kernel)
/-- Life.draw -/
def syt_764 : CO := (97, 1, [(0, 0, 0, 0, 0, 0), (1, 8, 0, 1, 0, 8)], [(2, 23, 0), (0, 1, 0)], [], [(1, 1, 0)], [(some (0, 2, 0), [(0, 0, 0, 0, 0, 0), (1, 8, 0, 1, 0, 8), (0, 7, 0, 0, 0, 7)], [], [(1, 0, 0)])], [(23, 4, 4)], [], [], [])
set_option maxRecDepth 100000 in
theorem syc_764 : CoOk GG MM syt_764 := chk_ok (cs := []) (F := 4000) (fun _ h => absurd h List.not_mem_nil) (by decide +kernel) (by decide +kernel)
/-- Life.draw -/
def syt_765 : CO := (97, 1, [(0, 0, 0, 0, 0, 0)], [(2, 23, 0), (0, 0, 3)], [], [], [(some (0, 1, 0), [(0, 0, 0, 0, 0, 0), (0, 2, 0, 0, 0, 2)], [], [(1, 0, 0)])], [(23, 4, 4)], [], [], [])
set_option maxRecDepth 100000 in
theorem syc_765 : CoOk GG MM syt_765 := chk_ok (cs := []) (F := 4000) (fun _ h => absurd h List.not_mem_nil) (by decide +kernel) (by decide +kernel)
/-- Life.draw -/
def syt_766 : CO := (97, 1, [(0, 0, 0, 0, 0, 0)], [(2, 23, 0), (0, 0, 8)], [], [], [(some (0, 1, 0), [(0, 0, 0, 0, 0, 0), (0, 7, 0, 0, 0, 7)], [], [(1, 0, 0)])], [(23, 4, 4)], [], [], [])
set_option maxRecDepth 100000 in
theorem syc_766 : CoOk GG MM syt_766 := chk_ok (cs := []) (F := 4000) (fun _ h => absurd h List.not_mem_nil) (by decide +kernel) (by decide +kernel)
/-- Life.draw -/
def syt_767 : CO := (97, 1, [(0, 0, 0, 0, 0, 0), (0, 7, 0, 0, 0, 7)], [(2, 23, 0), (0, 1, 0)], [], [(1, 1, 0)], [(some (0, 2, 0), [(0, 0, 0, 0, 0, 0), (1, 7, 0, 1, 0, 7), (0, 6, 0, 0, 0, 6)], [], [(1, 0, 0)]), (some (0, 0, 0), [(0, 0, 0, 0, 0, 0), (0, 0, 0, 0, 0, 0)], [], [])], [(23, 4, 4)], [], [], [])
set_option maxRecDepth 100000 in
theorem syc_767 : CoOk GG MM syt_767 := chk_ok (cs := []) (F := 4000) (fun _ h => absurd h List.not_mem_nil) (by decide +kernel) (by decide +kernel)
/-- Life.drawActs -/
def syt_768 : CO := (98, 5, [(0, 0, 0, 0, 0, 0), (0, 6, 0, 0, 0, 6)], [(2, 23, 0), (2, 3, 0), (0, 1, 0)], [], [(1, 2, 0)], [(none, [(0, 0, 0, 0, 0, 0), (0, 6, 0, 0, 0, 6)], [], [])], [(23, 1, 2), (23, 4, 4), (24, 0, 6), (25, 0, 6), (26, 0, 6), (27, 0, 6), (28, 0, 6), (29, 0, 6), (30, 0, 7)], [], [], [])
set_option maxRecDepth 100000 in
theorem syc_768 : CoOk GG MM syt_768 := chk_ok (cs := [syt_294, syt_765, syt_766, syt_764, syt_767, syt_330, syt_313, syt_281, syt_311]) (F := 4000) (List.forall_mem_cons.mpr ⟨syc_294, List.forall_mem_cons.mpr ⟨syc_765, List.forall_mem_cons.mpr ⟨syc_766, List.forall_mem_cons.mpr ⟨syc_764, List.forall_mem_cons.mpr ⟨syc_767, List.forall_mem_cons.mpr ⟨syc_330, List.forall_mem_cons.mpr ⟨syc_313, List.forall_mem_cons.mpr ⟨syc_281, List.forall_mem_cons.mpr ⟨syc_311, fun _ h => absurd h List.not_mem_nil⟩⟩⟩⟩⟩⟩⟩⟩⟩) (by decide +kernel) (by decide +kernel)
/-- Life.drawDays -/
def syt_769 : CO := (99, 6, [(0, 0, 0, 0, 0, 0), (1, 60, 0, 1, 0, 60), ((-2147483648), 2147483647, 0, (-2147483648), 0, 2147483647)], [(2, 23, 0), (2, 3, 0), (0, 1, 0), (0, 2, 0)], [], [(1, 2, 0), (1, 3, 0)], [(none, [(0, 0, 0, 0, 0, 0), (1, 60, 0, 1, 0, 60), ((-2147483648), 2147483647, 0, (-2147483648), 0, 2147483647)], [], [])], [(23, 0, 2), (23, 4, 4), (24, 0, 6), (25, 0, 6), (26, 0, 6), (27, 0, 6), (28, 0, 6), (29, 0, 6), (30, 0, 7)], [(8, 1, 1, ([(0, 0, 0, 0, 0, 0), (1, 60, 0, 1, 0, 60), ((-2147483648), 2147483647, 0, (-2147483648), 0, 2147483647), (0, 60, 0, 0, 0, 60)], [(0, (2, 23, 0)), (1, (2, 3, 0)), (2, (0, 1, 0)), (4, (0, 3, 0))], [], []), [(0, 4, 0)], [(27, 1)]),
  (27, 1, 3, ([(0, 0, 0, 0, 0, 0), (1, 60, 0, 1, 0, 60), ((-2147483648), 2147483647, 0, (-2147483648), 0, 2147483647), (0, 59, 0, 0, 0, 59)], [(0, (2, 23, 0)), (1, (2, 3, 0)), (2, (0, 1, 0)), (4, (0, 3, 0)), (5, (0, 0, 0))], [], []), [], [(8, 0), (27, 2)]),
  (27, 1, 3, ([(0, 0, 0, 0, 0, 0), (1, 60, 0, 1, 0, 60), ((-2147483648), 2147483647, 0, (-2147483648), 0, 2147483647), (0, 59, 0, 0, 0, 59)], [(0, (2, 23, 0)), (1, (2, 3, 0)), (2, (0, 1, 0)), (4, (0, 3, 0)), (5, (0, 0, 1))], [], []), [], [(8, 0), (27, 3)]),
  (27, 1, 3, ([(0, 0, 0, 0, 0, 0), (1, 60, 0, 1, 0, 60), ((-2147483648), 2147483647, 0, (-2147483648), 0, 2147483647), (0, 59, 0, 0, 0, 59)], [(0, (2, 23, 0)), (1, (2, 3, 0)), (2, (0, 1, 0)), (4, (0, 3, 0)), (5, (0, 0, 2))], [], []), [], [(8, 0), (27, 4)]),
  (27, 1, 3, ([(0, 0, 0, 0, 0, 0), (1, 60, 0, 1, 0, 60), ((-2147483648), 2147483647, 0, (-2147483648), 0, 2147483647), (0, 59, 0, 0, 0, 59)], [(0, (2, 23, 0)), (1, (2, 3, 0)), (2, (0, 1, 0)), (4, (0, 3, 0)), (5, (0, 0, 3))], [], []), [], [(8, 0), (27, 5)]),
  (27, 1, 3, ([(0, 0, 0, 0, 0, 0), (1, 60, 0, 1, 0, 60), ((-2147483648), 2147483647, 0, (-2147483648), 0, 2147483647), (0, 59, 0, 0, 0, 59)], [(0, (2, 23, 0)), (1, (2, 3, 0)), (2, (0, 1, 0)), (4, (0, 3, 0)), (5, (0, 0, 4))], [], []), [], [(8, 0), (27, 6)]),
  (27, 1, 3, ([(0, 0, 0, 0, 0, 0), (1, 60, 0, 1, 0, 60), ((-2147483648), 2147483647, 0, (-2147483648), 0, 2147483647), (0, 59, 0, 0, 0, 59)], [(0, (2, 23, 0)), (1, (2, 3, 0)), (2, (0, 1, 0)), (4, (0, 3, 0)), (5, (0, 0, 5))], [], []), [], [(8, 0), (27, 7)]),
  (27, 1, 3, ([(0, 0, 0, 0, 0, 0), (1, 60, 0, 1, 0, 60), ((-2147483648), 2147483647, 0, (-2147483648), 0, 2147483647), (0, 59, 0, 0, 0, 59)], [(0, (2, 23, 0)), (1, (2, 3, 0)), (2, (0, 1, 0)), (4, (0, 3, 0)), (5, (0, 0, 6))], [], []), [], [(8, 0), (27, 8)]),
  (27, 1, 3, ([(0, 0, 0, 0, 0, 0), (1, 60, 0, 1, 0, 60), ((-2147483648), 2147483647, 0, (-2147483648), 0, 2147483647), (0, 59, 0, 0, 0, 59)], [(0, (2, 23, 0)), (1, (2, 3, 0)), (2, (0, 1, 0)), (4, (0, 3, 0)), (5, (0, 0, 7))], [], []), [], [(8, 0)])], [], [(8, 0)])
set_option maxRecDepth 100000 in
theorem syc_769 : CoOk GG MM syt_769 := chk_ok (cs := [syt_768, syt_358]) (F := 4000) (List.forall_mem_cons.mpr ⟨syc_768, List.forall_mem_cons.mpr ⟨syc_358, fun _ h => absurd h List.not_mem_nil⟩⟩) (by decide +kernel) (by decide +kernel)
/-- X.drawn -/
def syt_770 : CO := (13, 7, [(0, 0, 0, 0, 0, 0), ((-2147483648), 2147483647, 0, (-2147483648), 0, 2147483647), ((-2147483648), 2147483647, 0, (-2147483648), 0, 2147483647)], [(2, 0, 0), (0, 1, 0), (0, 2, 0)], [(0, 1, (2, 3, 0)), (0, 2, (2, 13, 0)), (0, 7, (2, 110, 0)), (0, 8, (2, 115, 0))], [(1, 1, 0), (1, 2, 0)], [(some (0, 0, (-1)), [(0, 0, 0, 0, 0, 0), ((-2147483648), 2147483647, 0, (-2147483648), 0, 2147483647), ((-2147483648), 2147483647, 0, (-2147483648), 0, 2147483647)], [(0, 1, (2, 3, 0)), (0, 2, (2, 13, 0)), (0, 7, (2, 110, 0)), (0, 8, (2, 115, 0))], []), (some (0, 3, 0), [(0, 0, 0, 0, 0, 0), (1, 60, 0, 1, 0, 60), ((-2147483648), 2147483647, 0, (-2147483648), 0, 2147483647), ((-2147483648), 60, 0, (-2147483648), 0, 60)], [(0, 1, (2, 3, 0)), (0, 2, (2, 13, 0)), (0, 7, (2, 110, 0)), (0, 8, (2, 115, 0))], [(1, 0, 0)])], [(23, 0, 2), (23, 4, 4), (24, 0, 6), (25, 0, 6), (26, 0, 6), (27, 0, 6), (28, 0, 6), (29, 0, 6), (30, 0, 7), (39, 1, 2), (41, 0, 3), (42, 0, 7), (43, 0, 7), (44, 0, 7), (45, 0, 7), (46, 0, 7), (47, 0, 7), (48, 0, 8), (49, 0, 3), (50, 0, 7), (51, 0, 7), (52, 0, 7), (53, 0, 7), (54, 0, 7), (55, 0, 7), (56, 0, 8), (57, 0, 3), (58, 0, 7), (59, 0, 7), (60, 0, 7), (61, 0, 7), (62, 0, 7), (63, 0, 7), (64, 0, 8), (65, 0, 3), (66, 0, 7), (67, 0, 7), (68, 0, 7), (69, 0, 7), (70, 0, 7), (71, 0, 7), (72, 0, 8), (73, 0, 3), (74, 0, 7), (75, 0, 7), (76, 0, 7), (77, 0, 7), (78, 0, 7), (79, 0, 7), (80, 0, 8), (81, 0, 3), (82, 0, 7), (83, 0, 7), (84, 0, 7), (85, 0, 7), (86, 0, 7), (87, 0, 7), (88, 0, 8), (89, 0, 3), (90, 0, 7), (91, 0, 7), (92, 0, 7), (93, 0, 7), (94, 0, 7), (95, 0, 7), (96, 0, 8), (97, 0, 3), (98, 0, 7), (99, 0, 7), (100, 0, 7), (101, 0, 7), (102, 0, 7), (103, 0, 7), (104, 0, 8)], [], [], [])
set_option maxRecDepth 100000 in
theorem syc_770 : CoOk GG MM syt_770 := chk_ok (cs := [syt_357, syt_769, syt_291]) (F := 4000) (List.forall_mem_cons.mpr ⟨syc_357, List.forall_mem_cons.mpr ⟨syc_769, List.forall_mem_cons.mpr ⟨syc_291, fun _ h => absurd h List.not_mem_nil⟩⟩⟩) (by decide +kernel) (by decide +kernel)
/-- M.draw -/
def syt_771 : CO := (191, 1, [(0, 0, 0, 0, 0, 0), (1, 8, 0, 1, 0, 8)], [(2, 180, 0), (0, 1, 0)], [], [(1, 1, 0)], [(some (0, 2, 0), [(0, 0, 0, 0, 0, 0), (1, 8, 0, 1, 0, 8), (0, 7, 0, 0, 0, 7)], [], [(1, 0, 0)])], [(180, 42, 42)], [], [], [])
set_option maxRecDepth 100000 in
theorem syc_771 : CoOk GG MM syt_771 := chk_ok (cs := []) (F := 4000) (fun _ h => absurd h List.not_mem_nil) (by decide +kernel) (by decide +kernel)
/-- M.draw -/
def syt_772 : CO := (191, 1, [(0, 0, 0, 0, 0, 0)], [(2, 180, 0), (0, 0, 3)], [], [], [(some (0, 1, 0), [(0, 0, 0, 0, 0, 0), (0, 2, 0, 0, 0, 2)], [], [(1, 0, 0)])], [(180, 42, 42)], [], [], [])
set_option maxRecDepth 100000 in
theorem syc_772 : CoOk GG MM syt_772 := chk_ok (cs := []) (F := 4000) (fun _ h => absurd h List.not_mem_nil) (by decide +kernel) (by decide +kernel)
/-- M.draw -/
def syt_773 : CO := (191, 1, [(0, 0, 0, 0, 0, 0)], [(2, 180, 0), (0, 0, 8)], [], [], [(some (0, 1, 0), [(0, 0, 0, 0, 0, 0), (0, 7, 0, 0, 0, 7)], [], [(1, 0, 0)])], [(180, 42, 42)], [], [], [])
set_option maxRecDepth 100000 in
theorem syc_773 : CoOk GG MM syt_773 := chk_ok (cs := []) (F := 4000) (fun _ h => absurd h List.not_mem_nil) (by decide +kernel) (by decide +kernel)
/-- M.draw -/
def syt_774 : CO := (191, 1, [(0, 0, 0, 0, 0, 0), (1, 7, 0, 1, 0, 7)], [(2, 180, 0), (0, 1, 0)], [], [(1, 1, 0)], [(some (0, 2, 0), [(0, 0, 0, 0, 0, 0), (1, 7, 0, 1, 0, 7), (0, 6, 0, 0, 0, 6)], [], [(1, 0, 0)])], [(180, 42, 42)], [], [], [])
set_option maxRecDepth 100000 in
theorem syc_774 : CoOk GG MM syt_774 := chk_ok (cs := []) (F := 4000) (fun _ h => absurd h List.not_mem_nil) (by decide +kernel) (by decide +kernel)
/-- M.isWed -/
def syt_775 : CO := (226, 1, [(0, 0, 0, 0, 0, 0), (1, 6, 0, 1, 0, 6)], [(2, 180, 0), (0, 1, 0)], [], [(1, 1, 0)], [(some (0, 0, 1), [(0, 0, 0, 0, 0, 0), (6, 6, 0, 6, 0, 6), (0, 6, 0, 0, 0, 6)], [(182, 138, (0, 2, 0))], [(2, 182, 138)]), (some (0, 0, 0), [(0, 0, 0, 0, 0, 0), (6, 6, 0, 6, 0, 6), ((-1), (-1), 0, (-1), 0, (-1))], [(182, 138, (0, 2, 0))], [(2, 182, 138)]), (some (0, 0, 1), [(0, 0, 0, 0, 0, 0), (5, 5, 0, 5, 0, 5), (0, 6, 0, 0, 0, 6)], [(182, 137, (0, 2, 0))], [(2, 182, 137)]), (some (0, 0, 0), [(0, 0, 0, 0, 0, 0), (5, 5, 0, 5, 0, 5), ((-1), (-1), 0, (-1), 0, (-1))], [(182, 137, (0, 2, 0))], [(2, 182, 137)]), (some (0, 0, 1), [(0, 0, 0, 0, 0, 0), (4, 4, 0, 4, 0, 4), (0, 6, 0, 0, 0, 6)], [(182, 136, (0, 2, 0))], [(2, 182, 136)]), (some (0, 0, 0), [(0, 0, 0, 0, 0, 0), (4, 4, 0, 4, 0, 4), ((-1), (-1), 0, (-1), 0, (-1))], [(182, 136, (0, 2, 0))], [(2, 182, 136)]), (some (0, 0, 1), [(0, 0, 0, 0, 0, 0), (3, 3, 0, 3, 0, 3), (0, 6, 0, 0, 0, 6)], [(182, 135, (0, 2, 0))], [(2, 182, 135)]), (some (0, 0, 0), [(0, 0, 0, 0, 0, 0), (3, 3, 0, 3, 0, 3), ((-1), (-1), 0, (-1), 0, (-1))], [(182, 135, (0, 2, 0))], [(2, 182, 135)]), (some (0, 0, 1), [(0, 0, 0, 0, 0, 0), (2, 2, 0, 2, 0, 2), (0, 6, 0, 0, 0, 6)], [(182, 134, (0, 2, 0))], [(2, 182, 134)]), (some (0, 0, 0), [(0, 0, 0, 0, 0, 0), (2, 2, 0, 2, 0, 2), ((-1), (-1), 0, (-1), 0, (-1))], [(182, 134, (0, 2, 0))], [(2, 182, 134)]), (some (0, 0, 1), [(0, 0, 0, 0, 0, 0), (1, 1, 0, 1, 0, 1), (0, 6, 0, 0, 0, 6)], [(182, 133, (0, 2, 0))], [(2, 182, 133)]), (some (0, 0, 0), [(0, 0, 0, 0, 0, 0), (1, 1, 0, 1, 0, 1), ((-1), (-1), 0, (-1), 0, (-1))], [(182, 133, (0, 2, 0))], [(2, 182, 133)])], [], [], [], [])
set_option maxRecDepth 100000 in
theorem syc_775 : CoOk GG MM syt_775 := chk_ok (cs := []) (F := 4000) (fun _ h => absurd h List.not_mem_nil) (by decide +kernel) (by decide +kernel)
/-- M.why -/
def syt_776 : CO := (291, 3, [(0, 0, 0, 0, 0, 0), (0, 6, 0, 0, 0, 6)], [(2, 180, 0), (0, 0, 1), (0, 0, 0), (0, 1, 0), (0, 0, 0)], [], [(1, 3, 0)], [(some (0, 0, 1), [(0, 0, 0, 0, 0, 0), (0, 0, 0, 0, 0, 0)], [], []), (some (0, 2, 0), [(0, 0, 0, 0, 0, 0), (1, 6, 0, 1, 0, 6), (2, 4, 0, 2, 0, 4)], [], [(1, 0, 0)]), (some (0, 0, 0), [(0, 0, 0, 0, 0, 0), (1, 6, 0, 1, 0, 6)], [], [])], [], [], [], [])
set_option maxRecDepth 100000 in
theorem syc_776 : CoOk GG MM syt_776 := chk_ok (cs := [syt_244, syt_317, syt_318, syt_319, syt_320, syt_321, syt_322, syt_366, syt_363, syt_775]) (F := 4000) (List.forall_mem_cons.mpr ⟨syc_244, List.forall_mem_cons.mpr ⟨syc_317, List.forall_mem_cons.mpr ⟨syc_318, List.forall_mem_cons.mpr ⟨syc_319, List.forall_mem_cons.mpr ⟨syc_320, List.forall_mem_cons.mpr ⟨syc_321, List.forall_mem_cons.mpr ⟨syc_322, List.forall_mem_cons.mpr ⟨syc_366, List.forall_mem_cons.mpr ⟨syc_363, List.forall_mem_cons.mpr ⟨syc_775, fun _ h => absurd h List.not_mem_nil⟩⟩⟩⟩⟩⟩⟩⟩⟩⟩) (by decide +kernel) (by decide +kernel)
/-- M.live -/
def syt_777 : CO := (232, 1, [(0, 0, 0, 0, 0, 0), (1, 6, 0, 1, 0, 6)], [(2, 180, 0), (0, 0, 1), (0, 0, 0), (0, 1, 0), (0, 0, 0)], [], [(1, 3, 0)], [(none, [(0, 0, 0, 0, 0, 0), (1, 6, 0, 1, 0, 6)], [], [])], [(182, 132, 138)], [], [], [])
set_option maxRecDepth 100000 in
theorem syc_777 : CoOk GG MM syt_777 := chk_ok (cs := []) (F := 4000) (fun _ h => absurd h List.not_mem_nil) (by decide +kernel) (by decide +kernel)
/-- M.live -/
def syt_778 : CO := (232, 1, [(0, 0, 0, 0, 0, 0)], [(2, 180, 0), (0, 0, 2), (0, 0, 0), (0, 0, 0), (0, 0, 0)], [], [], [(none, [(0, 0, 0, 0, 0, 0)], [], [])], [(182, 131, 138)], [], [], [])
set_option maxRecDepth 100000 in
theorem syc_778 : CoOk GG MM syt_778 := chk_ok (cs := []) (F := 4000) (fun _ h => absurd h List.not_mem_nil) (by decide +kernel) (by decide +kernel)
/-- M.doDeed -/
def syt_779 : CO := (189, 3, [(0, 0, 0, 0, 0, 0), (0, 7, 0, 0, 0, 7), (0, 2, 0, 0, 0, 2)], [(2, 180, 0), (0, 0, 0), (0, 1, 0), (0, 2, 0)], [], [(1, 2, 0), (1, 3, 0)], [(none, [(0, 0, 0, 0, 0, 0), (0, 7, 0, 0, 0, 7), (0, 2, 0, 0, 0, 2)], [], [])], [(182, 103, 104), (182, 111, 111), (182, 118, 118), (182, 125, 125), (182, 139, 139), (182, 146, 153)], [], [], [])
set_option maxRecDepth 100000 in
theorem syc_779 : CoOk GG MM syt_779 := chk_ok (cs := [syt_299, syt_243, syt_303, syt_304]) (F := 4000) (List.forall_mem_cons.mpr ⟨syc_299, List.forall_mem_cons.mpr ⟨syc_243, List.forall_mem_cons.mpr ⟨syc_303, List.forall_mem_cons.mpr ⟨syc_304, fun _ h => absurd h List.not_mem_nil⟩⟩⟩⟩) (by decide +kernel) (by decide +kernel)
