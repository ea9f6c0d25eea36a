/-! ===== contracts, inferred and printed by my program, checked here ===== -/
/-- M.drawsFor -/
def syt_780 : CO := (194, 4, [(0, 0, 0, 0, 0, 0), (1, 7, 0, 1, 0, 7)], [(2, 180, 0), (0, 0, 0)], [(182, 0, (0, 1, 0))], [(2, 182, 0)], [(none, [(0, 0, 0, 0, 0, 0), (1, 7, 0, 1, 0, 7), (0, 8, 0, 0, 0, 8)], [(182, 0, (0, 1, 0)), (182, 1, (0, 2, 0))], [(2, 182, 1)])], [(180, 42, 42), (182, 103, 104), (182, 111, 111), (182, 118, 118), (182, 125, 125), (182, 131, 139), (182, 146, 153)], [], [], [])
set_option maxRecDepth 100000 in
theorem syc_780 : CoOk GG MM syt_780 := chk_ok (cs := [syt_779, syt_772, syt_773, syt_774, syt_771, syt_363, syt_778, syt_777, syt_776, syt_300]) (F := 4000) (List.forall_mem_cons.mpr ⟨syc_779, List.forall_mem_cons.mpr ⟨syc_772, List.forall_mem_cons.mpr ⟨syc_773, List.forall_mem_cons.mpr ⟨syc_774, List.forall_mem_cons.mpr ⟨syc_771, List.forall_mem_cons.mpr ⟨syc_363, List.forall_mem_cons.mpr ⟨syc_778, List.forall_mem_cons.mpr ⟨syc_777, List.forall_mem_cons.mpr ⟨syc_776, List.forall_mem_cons.mpr ⟨syc_300, fun _ h => absurd h List.not_mem_nil⟩⟩⟩⟩⟩⟩⟩⟩⟩⟩) (by decide +kernel) (by decide +kernel)
/-- M.draw -/
def syt_781 : CO := (191, 1, [(0, 0, 0, 0, 0, 0), (2, 7, 0, 2, 0, 7)], [(2, 180, 0), (0, 1, 0)], [], [(1, 1, 0)], [(some (0, 2, 0), [(0, 0, 0, 0, 0, 0), (2, 7, 0, 2, 0, 7), (0, 6, 0, 0, 0, 6)], [], [(1, 0, 0)])], [(180, 42, 42)], [], [], [])
set_option maxRecDepth 100000 in
theorem syc_781 : CoOk GG MM syt_781 := chk_ok (cs := []) (F := 4000) (fun _ h => absurd h List.not_mem_nil) (by decide +kernel) (by decide +kernel)
/-- M.why -/
def syt_782 : CO := (291, 3, [(0, 0, 0, 0, 0, 0), (0, 6, 0, 0, 0, 6)], [(2, 180, 0), (0, 0, 1), (0, 0, 1), (0, 1, 0), (0, 0, 0)], [], [(1, 3, 0)], [(some (0, 0, 1), [(0, 0, 0, 0, 0, 0), (1, 1, 0, 1, 0, 1)], [], []), (some (0, 2, 0), [(0, 0, 0, 0, 0, 0), (0, 6, 0, 0, 0, 6), (2, 4, 0, 2, 0, 4)], [], [(1, 0, 0)]), (some (0, 0, 0), [(0, 0, 0, 0, 0, 0), (0, 6, 0, 0, 0, 6)], [], [])], [], [], [], [])
set_option maxRecDepth 100000 in
theorem syc_782 : CoOk GG MM syt_782 := chk_ok (cs := [syt_244, syt_236, syt_317, syt_318, syt_319, syt_320, syt_321, syt_322, syt_368, syt_365, syt_276]) (F := 4000) (List.forall_mem_cons.mpr ⟨syc_244, List.forall_mem_cons.mpr ⟨syc_236, List.forall_mem_cons.mpr ⟨syc_317, List.forall_mem_cons.mpr ⟨syc_318, List.forall_mem_cons.mpr ⟨syc_319, List.forall_mem_cons.mpr ⟨syc_320, List.forall_mem_cons.mpr ⟨syc_321, List.forall_mem_cons.mpr ⟨syc_322, List.forall_mem_cons.mpr ⟨syc_368, List.forall_mem_cons.mpr ⟨syc_365, List.forall_mem_cons.mpr ⟨syc_276, fun _ h => absurd h List.not_mem_nil⟩⟩⟩⟩⟩⟩⟩⟩⟩⟩⟩) (by decide +kernel) (by decide +kernel)
/-- M.live -/
def syt_783 : CO := (232, 1, [(0, 0, 0, 0, 0, 0), (0, 6, 0, 0, 0, 6)], [(2, 180, 0), (0, 0, 1), (0, 0, 1), (0, 1, 0), (0, 0, 0)], [], [(1, 3, 0)], [(none, [(0, 0, 0, 0, 0, 0), (0, 6, 0, 0, 0, 6)], [], [])], [(182, 132, 138)], [], [], [])
set_option maxRecDepth 100000 in
theorem syc_783 : CoOk GG MM syt_783 := chk_ok (cs := []) (F := 4000) (fun _ h => absurd h List.not_mem_nil) (by decide +kernel) (by decide +kernel)
/-- M.live -/
def syt_784 : CO := (232, 1, [(0, 0, 0, 0, 0, 0)], [(2, 180, 0), (0, 0, 2), (0, 0, 1), (0, 0, 0), (0, 0, 0)], [], [], [(none, [(0, 0, 0, 0, 0, 0)], [], [])], [(182, 131, 138)], [], [], [])
set_option maxRecDepth 100000 in
theorem syc_784 : CoOk GG MM syt_784 := chk_ok (cs := []) (F := 4000) (fun _ h => absurd h List.not_mem_nil) (by decide +kernel) (by decide +kernel)
/-- M.doDeed -/
def syt_785 : CO := (189, 3, [(0, 0, 0, 0, 0, 0), (0, 7, 0, 0, 0, 7), (0, 2, 0, 0, 0, 2)], [(2, 180, 0), (0, 0, 1), (0, 1, 0), (0, 2, 0)], [], [(1, 2, 0), (1, 3, 0)], [(none, [(0, 0, 0, 0, 0, 0), (0, 7, 0, 0, 0, 7), (0, 2, 0, 0, 0, 2)], [], [])], [(182, 103, 103), (182, 105, 105), (182, 112, 112), (182, 119, 119), (182, 126, 126), (182, 140, 140), (182, 146, 153)], [], [], [])
set_option maxRecDepth 100000 in
theorem syc_785 : CoOk GG MM syt_785 := chk_ok (cs := [syt_299, syt_243, syt_303, syt_304]) (F := 4000) (List.forall_mem_cons.mpr ⟨syc_299, List.forall_mem_cons.mpr ⟨syc_243, List.forall_mem_cons.mpr ⟨syc_303, List.forall_mem_cons.mpr ⟨syc_304, fun _ h => absurd h List.not_mem_nil⟩⟩⟩⟩) (by decide +kernel) (by decide +kernel)
/-- M.drawsFor -/
def syt_786 : CO := (194, 4, [(0, 0, 0, 0, 0, 0), (2, 7, 0, 2, 0, 7)], [(2, 180, 0), (0, 0, 1)], [(182, 0, (0, 1, 0))], [(2, 182, 0)], [(none, [(0, 0, 0, 0, 0, 0), (2, 7, 0, 2, 0, 7), (0, 8, 0, 0, 0, 8)], [(182, 0, (0, 1, 0)), (182, 1, (0, 2, 0))], [(2, 182, 1)])], [(180, 42, 42), (182, 103, 103), (182, 105, 105), (182, 112, 112), (182, 119, 119), (182, 126, 126), (182, 131, 138), (182, 140, 140), (182, 146, 153)], [], [], [])
set_option maxRecDepth 100000 in
theorem syc_786 : CoOk GG MM syt_786 := chk_ok (cs := [syt_785, syt_772, syt_773, syt_781, syt_771, syt_365, syt_784, syt_783, syt_782, syt_300]) (F := 4000) (List.forall_mem_cons.mpr ⟨syc_785, List.forall_mem_cons.mpr ⟨syc_772, List.forall_mem_cons.mpr ⟨syc_773, List.forall_mem_cons.mpr ⟨syc_781, List.forall_mem_cons.mpr ⟨syc_771, List.forall_mem_cons.mpr ⟨syc_365, List.forall_mem_cons.mpr ⟨syc_784, List.forall_mem_cons.mpr ⟨syc_783, List.forall_mem_cons.mpr ⟨syc_782, List.forall_mem_cons.mpr ⟨syc_300, fun _ h => absurd h List.not_mem_nil⟩⟩⟩⟩⟩⟩⟩⟩⟩⟩) (by decide +kernel) (by decide +kernel)
/-- M.draw -/
def syt_787 : CO := (191, 1, [(0, 0, 0, 0, 0, 0), (3, 7, 0, 3, 0, 7)], [(2, 180, 0), (0, 1, 0)], [], [(1, 1, 0)], [(some (0, 2, 0), [(0, 0, 0, 0, 0, 0), (3, 7, 0, 3, 0, 7), (0, 6, 0, 0, 0, 6)], [], [(1, 0, 0)])], [(180, 42, 42)], [], [], [])
set_option maxRecDepth 100000 in
theorem syc_787 : CoOk GG MM syt_787 := chk_ok (cs := []) (F := 4000) (fun _ h => absurd h List.not_mem_nil) (by decide +kernel) (by decide +kernel)
/-- M.why -/
def syt_788 : CO := (291, 3, [(0, 0, 0, 0, 0, 0), (0, 6, 0, 0, 0, 6)], [(2, 180, 0), (0, 0, 1), (0, 0, 2), (0, 1, 0), (0, 0, 0)], [], [(1, 3, 0)], [(some (0, 0, 1), [(0, 0, 0, 0, 0, 0), (2, 2, 0, 2, 0, 2)], [], []), (some (0, 2, 0), [(0, 0, 0, 0, 0, 0), (0, 6, 0, 0, 0, 6), (2, 4, 0, 2, 0, 4)], [], [(1, 0, 0)]), (some (0, 0, 0), [(0, 0, 0, 0, 0, 0), (0, 6, 0, 0, 0, 6)], [], [])], [], [], [], [])
set_option maxRecDepth 100000 in
theorem syc_788 : CoOk GG MM syt_788 := chk_ok (cs := [syt_244, syt_236, syt_317, syt_318, syt_319, syt_320, syt_321, syt_322, syt_370, syt_367, syt_276]) (F := 4000) (List.forall_mem_cons.mpr ⟨syc_244, List.forall_mem_cons.mpr ⟨syc_236, List.forall_mem_cons.mpr ⟨syc_317, List.forall_mem_cons.mpr ⟨syc_318, List.forall_mem_cons.mpr ⟨syc_319, List.forall_mem_cons.mpr ⟨syc_320, List.forall_mem_cons.mpr ⟨syc_321, List.forall_mem_cons.mpr ⟨syc_322, List.forall_mem_cons.mpr ⟨syc_370, List.forall_mem_cons.mpr ⟨syc_367, List.forall_mem_cons.mpr ⟨syc_276, fun _ h => absurd h List.not_mem_nil⟩⟩⟩⟩⟩⟩⟩⟩⟩⟩⟩) (by decide +kernel) (by decide +kernel)
/-- M.live -/
def syt_789 : CO := (232, 1, [(0, 0, 0, 0, 0, 0), (0, 6, 0, 0, 0, 6)], [(2, 180, 0), (0, 0, 1), (0, 0, 2), (0, 1, 0), (0, 0, 0)], [], [(1, 3, 0)], [(none, [(0, 0, 0, 0, 0, 0), (0, 6, 0, 0, 0, 6)], [], [])], [(182, 132, 138)], [], [], [])
set_option maxRecDepth 100000 in
theorem syc_789 : CoOk GG MM syt_789 := chk_ok (cs := []) (F := 4000) (fun _ h => absurd h List.not_mem_nil) (by decide +kernel) (by decide +kernel)
/-- M.live -/
def syt_790 : CO := (232, 1, [(0, 0, 0, 0, 0, 0)], [(2, 180, 0), (0, 0, 2), (0, 0, 2), (0, 0, 0), (0, 0, 0)], [], [], [(none, [(0, 0, 0, 0, 0, 0)], [], [])], [(182, 131, 138)], [], [], [])
set_option maxRecDepth 100000 in
theorem syc_790 : CoOk GG MM syt_790 := chk_ok (cs := []) (F := 4000) (fun _ h => absurd h List.not_mem_nil) (by decide +kernel) (by decide +kernel)
/-- M.doDeed -/
def syt_791 : CO := (189, 3, [(0, 0, 0, 0, 0, 0), (0, 7, 0, 0, 0, 7), (0, 2, 0, 0, 0, 2)], [(2, 180, 0), (0, 0, 2), (0, 1, 0), (0, 2, 0)], [], [(1, 2, 0), (1, 3, 0)], [(none, [(0, 0, 0, 0, 0, 0), (0, 7, 0, 0, 0, 7), (0, 2, 0, 0, 0, 2)], [], [])], [(182, 103, 103), (182, 106, 106), (182, 113, 113), (182, 120, 120), (182, 127, 127), (182, 141, 141), (182, 146, 153)], [], [], [])
set_option maxRecDepth 100000 in
theorem syc_791 : CoOk GG MM syt_791 := chk_ok (cs := [syt_299, syt_243, syt_303, syt_304]) (F := 4000) (List.forall_mem_cons.mpr ⟨syc_299, List.forall_mem_cons.mpr ⟨syc_243, List.forall_mem_cons.mpr ⟨syc_303, List.forall_mem_cons.mpr ⟨syc_304, fun _ h => absurd h List.not_mem_nil⟩⟩⟩⟩) (by decide +kernel) (by decide +kernel)
/-- M.drawsFor -/
def syt_792 : CO := (194, 4, [(0, 0, 0, 0, 0, 0), (3, 7, 0, 3, 0, 7)], [(2, 180, 0), (0, 0, 2)], [(182, 0, (0, 1, 0))], [(2, 182, 0)], [(none, [(0, 0, 0, 0, 0, 0), (3, 7, 0, 3, 0, 7), (0, 8, 0, 0, 0, 8)], [(182, 0, (0, 1, 0)), (182, 1, (0, 2, 0))], [(2, 182, 1)])], [(180, 42, 42), (182, 103, 103), (182, 106, 106), (182, 113, 113), (182, 120, 120), (182, 127, 127), (182, 131, 138), (182, 141, 141), (182, 146, 153)], [], [], [])
set_option maxRecDepth 100000 in
theorem syc_792 : CoOk GG MM syt_792 := chk_ok (cs := [syt_791, syt_772, syt_773, syt_787, syt_771, syt_367, syt_790, syt_789, syt_788, syt_300]) (F := 4000) (List.forall_mem_cons.mpr ⟨syc_791, List.forall_mem_cons.mpr ⟨syc_772, List.forall_mem_cons.mpr ⟨syc_773, List.forall_mem_cons.mpr ⟨syc_787, List.forall_mem_cons.mpr ⟨syc_771, List.forall_mem_cons.mpr ⟨syc_367, List.forall_mem_cons.mpr ⟨syc_790, List.forall_mem_cons.mpr ⟨syc_789, List.forall_mem_cons.mpr ⟨syc_788, List.forall_mem_cons.mpr ⟨syc_300, fun _ h => absurd h List.not_mem_nil⟩⟩⟩⟩⟩⟩⟩⟩⟩⟩) (by decide +kernel) (by decide +kernel)
/-- M.draw -/
def syt_793 : CO := (191, 1, [(0, 0, 0, 0, 0, 0), (4, 7, 0, 4, 0, 7)], [(2, 180, 0), (0, 1, 0)], [], [(1, 1, 0)], [(some (0, 2, 0), [(0, 0, 0, 0, 0, 0), (4, 7, 0, 4, 0, 7), (0, 6, 0, 0, 0, 6)], [], [(1, 0, 0)])], [(180, 42, 42)], [], [], [])
set_option maxRecDepth 100000 in
theorem syc_793 : CoOk GG MM syt_793 := chk_ok (cs := []) (F := 4000) (fun _ h => absurd h List.not_mem_nil) (by decide +kernel) (by decide +kernel)
/-- M.why -/
def syt_794 : CO := (291, 3, [(0, 0, 0, 0, 0, 0), (0, 6, 0, 0, 0, 6)], [(2, 180, 0), (0, 0, 1), (0, 0, 3), (0, 1, 0), (0, 0, 0)], [], [(1, 3, 0)], [(some (0, 0, 1), [(0, 0, 0, 0, 0, 0), (3, 3, 0, 3, 0, 3)], [], []), (some (0, 2, 0), [(0, 0, 0, 0, 0, 0), (0, 6, 0, 0, 0, 6), (2, 4, 0, 2, 0, 4)], [], [(1, 0, 0)]), (some (0, 0, 0), [(0, 0, 0, 0, 0, 0), (0, 6, 0, 0, 0, 6)], [], [])], [], [], [], [])
set_option maxRecDepth 100000 in
theorem syc_794 : CoOk GG MM syt_794 := chk_ok (cs := [syt_244, syt_236, syt_317, syt_318, syt_319, syt_320, syt_321, syt_322, syt_372, syt_369, syt_276]) (F := 4000) (List.forall_mem_cons.mpr ⟨syc_244, List.forall_mem_cons.mpr ⟨syc_236, List.forall_mem_cons.mpr ⟨syc_317, List.forall_mem_cons.mpr ⟨syc_318, List.forall_mem_cons.mpr ⟨syc_319, List.forall_mem_cons.mpr ⟨syc_320, List.forall_mem_cons.mpr ⟨syc_321, List.forall_mem_cons.mpr ⟨syc_322, List.forall_mem_cons.mpr ⟨syc_372, List.forall_mem_cons.mpr ⟨syc_369, List.forall_mem_cons.mpr ⟨syc_276, fun _ h => absurd h List.not_mem_nil⟩⟩⟩⟩⟩⟩⟩⟩⟩⟩⟩) (by decide +kernel) (by decide +kernel)
/-- M.live -/
def syt_795 : CO := (232, 1, [(0, 0, 0, 0, 0, 0), (0, 6, 0, 0, 0, 6)], [(2, 180, 0), (0, 0, 1), (0, 0, 3), (0, 1, 0), (0, 0, 0)], [], [(1, 3, 0)], [(none, [(0, 0, 0, 0, 0, 0), (0, 6, 0, 0, 0, 6)], [], [])], [(182, 132, 138)], [], [], [])
set_option maxRecDepth 100000 in
theorem syc_795 : CoOk GG MM syt_795 := chk_ok (cs := []) (F := 4000) (fun _ h => absurd h List.not_mem_nil) (by decide +kernel) (by decide +kernel)
/-- M.live -/
def syt_796 : CO := (232, 1, [(0, 0, 0, 0, 0, 0)], [(2, 180, 0), (0, 0, 2), (0, 0, 3), (0, 0, 0), (0, 0, 0)], [], [], [(none, [(0, 0, 0, 0, 0, 0)], [], [])], [(182, 131, 138)], [], [], [])
set_option maxRecDepth 100000 in
theorem syc_796 : CoOk GG MM syt_796 := chk_ok (cs := []) (F := 4000) (fun _ h => absurd h List.not_mem_nil) (by decide +kernel) (by decide +kernel)
/-- M.doDeed -/
def syt_797 : CO := (189, 3, [(0, 0, 0, 0, 0, 0), (0, 7, 0, 0, 0, 7), (0, 2, 0, 0, 0, 2)], [(2, 180, 0), (0, 0, 3), (0, 1, 0), (0, 2, 0)], [], [(1, 2, 0), (1, 3, 0)], [(none, [(0, 0, 0, 0, 0, 0), (0, 7, 0, 0, 0, 7), (0, 2, 0, 0, 0, 2)], [], [])], [(182, 103, 103), (182, 107, 107), (182, 114, 114), (182, 121, 121), (182, 128, 128), (182, 142, 142), (182, 146, 153)], [], [], [])
set_option maxRecDepth 100000 in
theorem syc_797 : CoOk GG MM syt_797 := chk_ok (cs := [syt_299, syt_243, syt_303, syt_304]) (F := 4000) (List.forall_mem_cons.mpr ⟨syc_299, List.forall_mem_cons.mpr ⟨syc_243, List.forall_mem_cons.mpr ⟨syc_303, List.forall_mem_cons.mpr ⟨syc_304, fun _ h => absurd h List.not_mem_nil⟩⟩⟩⟩) (by decide +kernel) (by decide +kernel)
/-- M.drawsFor -/
def syt_798 : CO := (194, 4, [(0, 0, 0, 0, 0, 0), (4, 7, 0, 4, 0, 7)], [(2, 180, 0), (0, 0, 3)], [(182, 0, (0, 1, 0))], [(2, 182, 0)], [(none, [(0, 0, 0, 0, 0, 0), (4, 7, 0, 4, 0, 7), (0, 8, 0, 0, 0, 8)], [(182, 0, (0, 1, 0)), (182, 1, (0, 2, 0))], [(2, 182, 1)])], [(180, 42, 42), (182, 103, 103), (182, 107, 107), (182, 114, 114), (182, 121, 121), (182, 128, 128), (182, 131, 138), (182, 142, 142), (182, 146, 153)], [], [], [])
set_option maxRecDepth 100000 in
theorem syc_798 : CoOk GG MM syt_798 := chk_ok (cs := [syt_797, syt_772, syt_773, syt_793, syt_771, syt_369, syt_796, syt_795, syt_794, syt_300]) (F := 4000) (List.forall_mem_cons.mpr ⟨syc_797, List.forall_mem_cons.mpr ⟨syc_772, List.forall_mem_cons.mpr ⟨syc_773, List.forall_mem_cons.mpr ⟨syc_793, List.forall_mem_cons.mpr ⟨syc_771, List.forall_mem_cons.mpr ⟨syc_369, List.forall_mem_cons.mpr ⟨syc_796, List.forall_mem_cons.mpr ⟨syc_795, List.forall_mem_cons.mpr ⟨syc_794, List.forall_mem_cons.mpr ⟨syc_300, fun _ h => absurd h List.not_mem_nil⟩⟩⟩⟩⟩⟩⟩⟩⟩⟩) (by decide +kernel) (by decide +kernel)
/-- M.draw -/
def syt_799 : CO := (191, 1, [(0, 0, 0, 0, 0, 0), (5, 7, 0, 5, 0, 7)], [(2, 180, 0), (0, 1, 0)], [], [(1, 1, 0)], [(some (0, 2, 0), [(0, 0, 0, 0, 0, 0), (5, 7, 0, 5, 0, 7), (0, 6, 0, 0, 0, 6)], [], [(1, 0, 0)])], [(180, 42, 42)], [], [], [])
set_option maxRecDepth 100000 in
theorem syc_799 : CoOk GG MM syt_799 := chk_ok (cs := []) (F := 4000) (fun _ h => absurd h List.not_mem_nil) (by decide +kernel) (by decide +kernel)
/-- M.why -/
def syt_800 : CO := (291, 3, [(0, 0, 0, 0, 0, 0), (0, 6, 0, 0, 0, 6)], [(2, 180, 0), (0, 0, 1), (0, 0, 4), (0, 1, 0), (0, 0, 0)], [], [(1, 3, 0)], [(some (0, 0, 1), [(0, 0, 0, 0, 0, 0), (4, 4, 0, 4, 0, 4)], [], []), (some (0, 2, 0), [(0, 0, 0, 0, 0, 0), (0, 6, 0, 0, 0, 6), (2, 4, 0, 2, 0, 4)], [], [(1, 0, 0)]), (some (0, 0, 0), [(0, 0, 0, 0, 0, 0), (0, 6, 0, 0, 0, 6)], [], [])], [], [], [], [])
set_option maxRecDepth 100000 in
theorem syc_800 : CoOk GG MM syt_800 := chk_ok (cs := [syt_244, syt_236, syt_317, syt_318, syt_319, syt_320, syt_321, syt_322, syt_374, syt_371, syt_276]) (F := 4000) (List.forall_mem_cons.mpr ⟨syc_244, List.forall_mem_cons.mpr ⟨syc_236, List.forall_mem_cons.mpr ⟨syc_317, List.forall_mem_cons.mpr ⟨syc_318, List.forall_mem_cons.mpr ⟨syc_319, List.forall_mem_cons.mpr ⟨syc_320, List.forall_mem_cons.mpr ⟨syc_321, List.forall_mem_cons.mpr ⟨syc_322, List.forall_mem_cons.mpr ⟨syc_374, List.forall_mem_cons.mpr ⟨syc_371, List.forall_mem_cons.mpr ⟨syc_276, fun _ h => absurd h List.not_mem_nil⟩⟩⟩⟩⟩⟩⟩⟩⟩⟩⟩) (by decide +kernel) (by decide +kernel)
/-- M.live -/
def syt_801 : CO := (232, 1, [(0, 0, 0, 0, 0, 0), (0, 6, 0, 0, 0, 6)], [(2, 180, 0), (0, 0, 1), (0, 0, 4), (0, 1, 0), (0, 0, 0)], [], [(1, 3, 0)], [(none, [(0, 0, 0, 0, 0, 0), (0, 6, 0, 0, 0, 6)], [], [])], [(182, 132, 138)], [], [], [])
set_option maxRecDepth 100000 in
theorem syc_801 : CoOk GG MM syt_801 := chk_ok (cs := []) (F := 4000) (fun _ h => absurd h List.not_mem_nil) (by decide +kernel) (by decide +kernel)
/-- M.live -/
def syt_802 : CO := (232, 1, [(0, 0, 0, 0, 0, 0)], [(2, 180, 0), (0, 0, 2), (0, 0, 4), (0, 0, 0), (0, 0, 0)], [], [], [(none, [(0, 0, 0, 0, 0, 0)], [], [])], [(182, 131, 138)], [], [], [])
set_option maxRecDepth 100000 in
theorem syc_802 : CoOk GG MM syt_802 := chk_ok (cs := []) (F := 4000) (fun _ h => absurd h List.not_mem_nil) (by decide +kernel) (by decide +kernel)
/-- M.doDeed -/
def syt_803 : CO := (189, 3, [(0, 0, 0, 0, 0, 0), (0, 7, 0, 0, 0, 7), (0, 2, 0, 0, 0, 2)], [(2, 180, 0), (0, 0, 4), (0, 1, 0), (0, 2, 0)], [], [(1, 2, 0), (1, 3, 0)], [(none, [(0, 0, 0, 0, 0, 0), (0, 7, 0, 0, 0, 7), (0, 2, 0, 0, 0, 2)], [], [])], [(182, 103, 103), (182, 108, 108), (182, 115, 115), (182, 122, 122), (182, 129, 129), (182, 143, 143), (182, 146, 153)], [], [], [])
set_option maxRecDepth 100000 in
theorem syc_803 : CoOk GG MM syt_803 := chk_ok (cs := [syt_299, syt_243, syt_303, syt_304]) (F := 4000) (List.forall_mem_cons.mpr ⟨syc_299, List.forall_mem_cons.mpr ⟨syc_243, List.forall_mem_cons.mpr ⟨syc_303, List.forall_mem_cons.mpr ⟨syc_304, fun _ h => absurd h List.not_mem_nil⟩⟩⟩⟩) (by decide +kernel) (by decide +kernel)
/-- M.drawsFor -/
def syt_804 : CO := (194, 4, [(0, 0, 0, 0, 0, 0), (5, 7, 0, 5, 0, 7)], [(2, 180, 0), (0, 0, 4)], [(182, 0, (0, 1, 0))], [(2, 182, 0)], [(none, [(0, 0, 0, 0, 0, 0), (5, 7, 0, 5, 0, 7), (0, 8, 0, 0, 0, 8)], [(182, 0, (0, 1, 0)), (182, 1, (0, 2, 0))], [(2, 182, 1)])], [(180, 42, 42), (182, 103, 103), (182, 108, 108), (182, 115, 115), (182, 122, 122), (182, 129, 129), (182, 131, 138), (182, 143, 143), (182, 146, 153)], [], [], [])
set_option maxRecDepth 100000 in
theorem syc_804 : CoOk GG MM syt_804 := chk_ok (cs := [syt_803, syt_772, syt_773, syt_799, syt_771, syt_371, syt_802, syt_801, syt_800, syt_300]) (F := 4000) (List.forall_mem_cons.mpr ⟨syc_803, List.forall_mem_cons.mpr ⟨syc_772, List.forall_mem_cons.mpr ⟨syc_773, List.forall_mem_cons.mpr ⟨syc_799, List.forall_mem_cons.mpr ⟨syc_771, List.forall_mem_cons.mpr ⟨syc_371, List.forall_mem_cons.mpr ⟨syc_802, List.forall_mem_cons.mpr ⟨syc_801, List.forall_mem_cons.mpr ⟨syc_800, List.forall_mem_cons.mpr ⟨syc_300, fun _ h => absurd h List.not_mem_nil⟩⟩⟩⟩⟩⟩⟩⟩⟩⟩) (by decide +kernel) (by decide +kernel)
/-- M.draw -/
def syt_805 : CO := (191, 1, [(0, 0, 0, 0, 0, 0), (6, 7, 0, 6, 0, 7)], [(2, 180, 0), (0, 1, 0)], [], [(1, 1, 0)], [(some (0, 2, 0), [(0, 0, 0, 0, 0, 0), (6, 7, 0, 6, 0, 7), (0, 6, 0, 0, 0, 6)], [], [(1, 0, 0)])], [(180, 42, 42)], [], [], [])
set_option maxRecDepth 100000 in
theorem syc_805 : CoOk GG MM syt_805 := chk_ok (cs := []) (F := 4000) (fun _ h => absurd h List.not_mem_nil) (by decide +kernel) (by decide +kernel)
/-- M.why -/
def syt_806 : CO := (291, 3, [(0, 0, 0, 0, 0, 0), (0, 6, 0, 0, 0, 6)], [(2, 180, 0), (0, 0, 1), (0, 0, 5), (0, 1, 0), (0, 0, 0)], [], [(1, 3, 0)], [(some (0, 0, 1), [(0, 0, 0, 0, 0, 0), (5, 5, 0, 5, 0, 5)], [], []), (some (0, 2, 0), [(0, 0, 0, 0, 0, 0), (0, 6, 0, 0, 0, 6), (2, 4, 0, 2, 0, 4)], [], [(1, 0, 0)]), (some (0, 0, 0), [(0, 0, 0, 0, 0, 0), (0, 6, 0, 0, 0, 6)], [], [])], [], [], [], [])
set_option maxRecDepth 100000 in
theorem syc_806 : CoOk GG MM syt_806 := chk_ok (cs := [syt_244, syt_236, syt_317, syt_318, syt_319, syt_320, syt_321, syt_322, syt_376, syt_373, syt_276]) (F := 4000) (List.forall_mem_cons.mpr ⟨syc_244, List.forall_mem_cons.mpr ⟨syc_236, List.forall_mem_cons.mpr ⟨syc_317, List.forall_mem_cons.mpr ⟨syc_318, List.forall_mem_cons.mpr ⟨syc_319, List.forall_mem_cons.mpr ⟨syc_320, List.forall_mem_cons.mpr ⟨syc_321, List.forall_mem_cons.mpr ⟨syc_322, List.forall_mem_cons.mpr ⟨syc_376, List.forall_mem_cons.mpr ⟨syc_373, List.forall_mem_cons.mpr ⟨syc_276, fun _ h => absurd h List.not_mem_nil⟩⟩⟩⟩⟩⟩⟩⟩⟩⟩⟩) (by decide +kernel) (by decide +kernel)
/-- M.live -/
def syt_807 : CO := (232, 1, [(0, 0, 0, 0, 0, 0), (0, 6, 0, 0, 0, 6)], [(2, 180, 0), (0, 0, 1), (0, 0, 5), (0, 1, 0), (0, 0, 0)], [], [(1, 3, 0)], [(none, [(0, 0, 0, 0, 0, 0), (0, 6, 0, 0, 0, 6)], [], [])], [(182, 132, 138)], [], [], [])
set_option maxRecDepth 100000 in
theorem syc_807 : CoOk GG MM syt_807 := chk_ok (cs := []) (F := 4000) (fun _ h => absurd h List.not_mem_nil) (by decide +kernel) (by decide +kernel)
/-- M.live -/
def syt_808 : CO := (232, 1, [(0, 0, 0, 0, 0, 0)], [(2, 180, 0), (0, 0, 2), (0, 0, 5), (0, 0, 0), (0, 0, 0)], [], [], [(none, [(0, 0, 0, 0, 0, 0)], [], [])], [(182, 131, 138)], [], [], [])
set_option maxRecDepth 100000 in
theorem syc_808 : CoOk GG MM syt_808 := chk_ok (cs := []) (F := 4000) (fun _ h => absurd h List.not_mem_nil) (by decide +kernel) (by decide +kernel)
/-- M.doDeed -/
def syt_809 : CO := (189, 3, [(0, 0, 0, 0, 0, 0), (0, 7, 0, 0, 0, 7), (0, 2, 0, 0, 0, 2)], [(2, 180, 0), (0, 0, 5), (0, 1, 0), (0, 2, 0)], [], [(1, 2, 0), (1, 3, 0)], [(none, [(0, 0, 0, 0, 0, 0), (0, 7, 0, 0, 0, 7), (0, 2, 0, 0, 0, 2)], [], [])], [(182, 103, 103), (182, 109, 109), (182, 116, 116), (182, 123, 123), (182, 130, 130), (182, 144, 144), (182, 146, 153)], [], [], [])
set_option maxRecDepth 100000 in
theorem syc_809 : CoOk GG MM syt_809 := chk_ok (cs := [syt_299, syt_243, syt_303, syt_304]) (F := 4000) (List.forall_mem_cons.mpr ⟨syc_299, List.forall_mem_cons.mpr ⟨syc_243, List.forall_mem_cons.mpr ⟨syc_303, List.forall_mem_cons.mpr ⟨syc_304, fun _ h => absurd h List.not_mem_nil⟩⟩⟩⟩) (by decide +kernel) (by decide +kernel)
/-- M.drawsFor -/
def syt_810 : CO := (194, 4, [(0, 0, 0, 0, 0, 0), (6, 7, 0, 6, 0, 7)], [(2, 180, 0), (0, 0, 5)], [(182, 0, (0, 1, 0))], [(2, 182, 0)], [(none, [(0, 0, 0, 0, 0, 0), (6, 7, 0, 6, 0, 7), (0, 8, 0, 0, 0, 8)], [(182, 0, (0, 1, 0)), (182, 1, (0, 2, 0))], [(2, 182, 1)])], [(180, 42, 42), (182, 103, 103), (182, 109, 109), (182, 116, 116), (182, 123, 123), (182, 130, 138), (182, 144, 144), (182, 146, 153)], [], [], [])
set_option maxRecDepth 100000 in
theorem syc_810 : CoOk GG MM syt_810 := chk_ok (cs := [syt_809, syt_772, syt_773, syt_805, syt_771, syt_373, syt_808, syt_807, syt_806, syt_300]) (F := 4000) (List.forall_mem_cons.mpr ⟨syc_809, List.forall_mem_cons.mpr ⟨syc_772, List.forall_mem_cons.mpr ⟨syc_773, List.forall_mem_cons.mpr ⟨syc_805, List.forall_mem_cons.mpr ⟨syc_771, List.forall_mem_cons.mpr ⟨syc_373, List.forall_mem_cons.mpr ⟨syc_808, List.forall_mem_cons.mpr ⟨syc_807, List.forall_mem_cons.mpr ⟨syc_806, List.forall_mem_cons.mpr ⟨syc_300, fun _ h => absurd h List.not_mem_nil⟩⟩⟩⟩⟩⟩⟩⟩⟩⟩) (by decide +kernel) (by decide +kernel)
/-- M.draw -/
def syt_811 : CO := (191, 1, [(0, 0, 0, 0, 0, 0), (7, 7, 0, 7, 0, 7)], [(2, 180, 0), (0, 1, 0)], [], [(1, 1, 0)], [(some (0, 2, 0), [(0, 0, 0, 0, 0, 0), (7, 7, 0, 7, 0, 7), (0, 6, 0, 0, 0, 6)], [], [(1, 0, 0)])], [(180, 42, 42)], [], [], [])
set_option maxRecDepth 100000 in
theorem syc_811 : CoOk GG MM syt_811 := chk_ok (cs := []) (F := 4000) (fun _ h => absurd h List.not_mem_nil) (by decide +kernel) (by decide +kernel)
/-- M.why -/
def syt_812 : CO := (291, 3, [(0, 0, 0, 0, 0, 0), (0, 6, 0, 0, 0, 6)], [(2, 180, 0), (0, 0, 1), (0, 0, 6), (0, 1, 0), (0, 0, 0)], [], [(1, 3, 0)], [(some (0, 0, 1), [(0, 0, 0, 0, 0, 0), (6, 6, 0, 6, 0, 6)], [], []), (some (0, 2, 0), [(0, 0, 0, 0, 0, 0), (0, 5, 0, 0, 0, 5), (2, 4, 0, 2, 0, 4)], [], [(1, 0, 0)]), (some (0, 0, 0), [(0, 0, 0, 0, 0, 0), (0, 5, 0, 0, 0, 5)], [], [])], [], [], [], [])
set_option maxRecDepth 100000 in
theorem syc_812 : CoOk GG MM syt_812 := chk_ok (cs := [syt_244, syt_236, syt_317, syt_318, syt_319, syt_320, syt_321, syt_377, syt_375, syt_275]) (F := 4000) (List.forall_mem_cons.mpr ⟨syc_244, List.forall_mem_cons.mpr ⟨syc_236, List.forall_mem_cons.mpr ⟨syc_317, List.forall_mem_cons.mpr ⟨syc_318, List.forall_mem_cons.mpr ⟨syc_319, List.forall_mem_cons.mpr ⟨syc_320, List.forall_mem_cons.mpr ⟨syc_321, List.forall_mem_cons.mpr ⟨syc_377, List.forall_mem_cons.mpr ⟨syc_375, List.forall_mem_cons.mpr ⟨syc_275, fun _ h => absurd h List.not_mem_nil⟩⟩⟩⟩⟩⟩⟩⟩⟩⟩) (by decide +kernel) (by decide +kernel)
/-- M.live -/
def syt_813 : CO := (232, 1, [(0, 0, 0, 0, 0, 0), (0, 5, 0, 0, 0, 5)], [(2, 180, 0), (0, 0, 1), (0, 0, 6), (0, 1, 0), (0, 0, 0)], [], [(1, 3, 0)], [(none, [(0, 0, 0, 0, 0, 0), (0, 5, 0, 0, 0, 5)], [], [])], [(182, 132, 138)], [], [], [])
set_option maxRecDepth 100000 in
theorem syc_813 : CoOk GG MM syt_813 := chk_ok (cs := []) (F := 4000) (fun _ h => absurd h List.not_mem_nil) (by decide +kernel) (by decide +kernel)
/-- M.live -/
def syt_814 : CO := (232, 1, [(0, 0, 0, 0, 0, 0)], [(2, 180, 0), (0, 0, 2), (0, 0, 6), (0, 0, 0), (0, 0, 0)], [], [], [(none, [(0, 0, 0, 0, 0, 0)], [], [])], [(182, 131, 138)], [], [], [])
set_option maxRecDepth 100000 in
theorem syc_814 : CoOk GG MM syt_814 := chk_ok (cs := []) (F := 4000) (fun _ h => absurd h List.not_mem_nil) (by decide +kernel) (by decide +kernel)
/-- M.doDeed -/
def syt_815 : CO := (189, 3, [(0, 0, 0, 0, 0, 0), (0, 7, 0, 0, 0, 7), (0, 2, 0, 0, 0, 2)], [(2, 180, 0), (0, 0, 6), (0, 1, 0), (0, 2, 0)], [], [(1, 2, 0), (1, 3, 0)], [(none, [(0, 0, 0, 0, 0, 0), (0, 7, 0, 0, 0, 7), (0, 2, 0, 0, 0, 2)], [], [])], [(182, 103, 103), (182, 110, 110), (182, 117, 117), (182, 124, 124), (182, 131, 131), (182, 145, 153)], [], [], [])
set_option maxRecDepth 100000 in
theorem syc_815 : CoOk GG MM syt_815 := chk_ok (cs := [syt_299, syt_243, syt_303, syt_304]) (F := 4000) (List.forall_mem_cons.mpr ⟨syc_299, List.forall_mem_cons.mpr ⟨syc_243, List.forall_mem_cons.mpr ⟨syc_303, List.forall_mem_cons.mpr ⟨syc_304, fun _ h => absurd h List.not_mem_nil⟩⟩⟩⟩) (by decide +kernel) (by decide +kernel)
/-- M.drawsFor -/
def syt_816 : CO := (194, 4, [(0, 0, 0, 0, 0, 0), (7, 7, 0, 7, 0, 7)], [(2, 180, 0), (0, 0, 6)], [(182, 0, (0, 1, 0))], [(2, 182, 0)], [(none, [(0, 0, 0, 0, 0, 0), (7, 7, 0, 7, 0, 7), (0, 8, 0, 0, 0, 8)], [(182, 0, (0, 1, 0)), (182, 1, (0, 2, 0))], [(2, 182, 1)])], [(180, 42, 42), (182, 103, 103), (182, 110, 110), (182, 117, 117), (182, 124, 124), (182, 131, 138), (182, 145, 153)], [], [], [])
set_option maxRecDepth 100000 in
theorem syc_816 : CoOk GG MM syt_816 := chk_ok (cs := [syt_815, syt_772, syt_773, syt_811, syt_771, syt_375, syt_814, syt_813, syt_812, syt_300]) (F := 4000) (List.forall_mem_cons.mpr ⟨syc_815, List.forall_mem_cons.mpr ⟨syc_772, List.forall_mem_cons.mpr ⟨syc_773, List.forall_mem_cons.mpr ⟨syc_811, List.forall_mem_cons.mpr ⟨syc_771, List.forall_mem_cons.mpr ⟨syc_375, List.forall_mem_cons.mpr ⟨syc_814, List.forall_mem_cons.mpr ⟨syc_813, List.forall_mem_cons.mpr ⟨syc_812, List.forall_mem_cons.mpr ⟨syc_300, fun _ h => absurd h List.not_mem_nil⟩⟩⟩⟩⟩⟩⟩⟩⟩⟩) (by decide +kernel) (by decide +kernel)
/-- M.drawDays -/
def syt_817 : CO := (192, 5, [(0, 0, 0, 0, 0, 0), (1, 60, 0, 1, 0, 60), ((-2147483648), 2147483647, 0, (-2147483648), 0, 2147483647)], [(2, 180, 0), (0, 1, 0), (0, 2, 0)], [], [(1, 1, 0), (1, 2, 0)], [(some (0, 3, 0), [(0, 0, 0, 0, 0, 0), (1, 60, 0, 1, 0, 60), ((-2147483648), 2147483647, 0, (-2147483648), 0, 2147483647), ((-2147483648), 60, 0, (-2147483648), 0, 60)], [], [(1, 0, 0)])], [(180, 42, 42), (182, 101, 101), (182, 103, 153)], [(24, 1, 1, ([(0, 0, 0, 0, 0, 0), (1, 60, 0, 1, 0, 60), ((-2147483648), 2147483647, 0, (-2147483648), 0, 2147483647), (0, 60, 0, 0, 0, 60), ((-2147483648), 60, 0, (-2147483648), 0, 60)], [(0, (2, 180, 0)), (3, (0, 4, 0)), (4, (0, 3, 0))], [], []), [(0, 4, 0), (0, 3, 0)], [(33, 1)]),
  (33, 1, 3, ([(0, 0, 0, 0, 0, 0), (1, 60, 0, 1, 0, 60), ((-2147483648), 2147483647, 0, (-2147483648), 0, 2147483647), (0, 59, 0, 0, 0, 59), (1, 60, 0, 1, 0, 60)], [(0, (2, 180, 0)), (3, (0, 4, 0)), (4, (0, 3, 0)), (5, (0, 0, 0))], [], []), [(0, 3, 0)], [(24, 0), (33, 2)]),
  (33, 1, 3, ([(0, 0, 0, 0, 0, 0), (1, 60, 0, 1, 0, 60), ((-2147483648), 2147483647, 0, (-2147483648), 0, 2147483647), (0, 59, 0, 0, 0, 59), (1, 60, 0, 1, 0, 60), (1, 7, 0, 1, 0, 7), (0, 8, 0, 0, 0, 8)], [(0, (2, 180, 0)), (3, (0, 4, 0)), (4, (0, 3, 0)), (5, (0, 0, 1))], [], [(182, 0, (0, 5, 0)), (182, 1, (0, 6, 0))]), [(0, 3, 0), (2, 182, 0), (2, 182, 1)], [(24, 0), (33, 3)]),
  (33, 1, 3, ([(0, 0, 0, 0, 0, 0), (1, 60, 0, 1, 0, 60), ((-2147483648), 2147483647, 0, (-2147483648), 0, 2147483647), (0, 59, 0, 0, 0, 59), (1, 60, 0, 1, 0, 60), (2, 7, 0, 2, 0, 7), (0, 8, 0, 0, 0, 8)], [(0, (2, 180, 0)), (3, (0, 4, 0)), (4, (0, 3, 0)), (5, (0, 0, 2))], [], [(182, 0, (0, 5, 0)), (182, 1, (0, 6, 0))]), [(0, 3, 0), (2, 182, 0), (2, 182, 1)], [(24, 0), (33, 4)]),
  (33, 1, 3, ([(0, 0, 0, 0, 0, 0), (1, 60, 0, 1, 0, 60), ((-2147483648), 2147483647, 0, (-2147483648), 0, 2147483647), (0, 59, 0, 0, 0, 59), (1, 60, 0, 1, 0, 60), (3, 7, 0, 3, 0, 7), (0, 8, 0, 0, 0, 8)], [(0, (2, 180, 0)), (3, (0, 4, 0)), (4, (0, 3, 0)), (5, (0, 0, 3))], [], [(182, 0, (0, 5, 0)), (182, 1, (0, 6, 0))]), [(0, 3, 0), (2, 182, 0), (2, 182, 1)], [(24, 0), (33, 5)]),
  (33, 1, 3, ([(0, 0, 0, 0, 0, 0), (1, 60, 0, 1, 0, 60), ((-2147483648), 2147483647, 0, (-2147483648), 0, 2147483647), (0, 59, 0, 0, 0, 59), (1, 60, 0, 1, 0, 60), (4, 7, 0, 4, 0, 7), (0, 8, 0, 0, 0, 8)], [(0, (2, 180, 0)), (3, (0, 4, 0)), (4, (0, 3, 0)), (5, (0, 0, 4))], [], [(182, 0, (0, 5, 0)), (182, 1, (0, 6, 0))]), [(0, 3, 0), (2, 182, 0), (2, 182, 1)], [(24, 0), (33, 6)]),
  (33, 1, 3, ([(0, 0, 0, 0, 0, 0), (1, 60, 0, 1, 0, 60), ((-2147483648), 2147483647, 0, (-2147483648), 0, 2147483647), (0, 59, 0, 0, 0, 59), (1, 60, 0, 1, 0, 60), (5, 7, 0, 5, 0, 7), (0, 8, 0, 0, 0, 8)], [(0, (2, 180, 0)), (3, (0, 4, 0)), (4, (0, 3, 0)), (5, (0, 0, 5))], [], [(182, 0, (0, 5, 0)), (182, 1, (0, 6, 0))]), [(0, 3, 0), (2, 182, 0), (2, 182, 1)], [(24, 0), (33, 7)]),
  (33, 1, 3, ([(0, 0, 0, 0, 0, 0), (1, 60, 0, 1, 0, 60), ((-2147483648), 2147483647, 0, (-2147483648), 0, 2147483647), (0, 59, 0, 0, 0, 59), (1, 60, 0, 1, 0, 60), (6, 7, 0, 6, 0, 7), (0, 8, 0, 0, 0, 8)], [(0, (2, 180, 0)), (3, (0, 4, 0)), (4, (0, 3, 0)), (5, (0, 0, 6))], [], [(182, 0, (0, 5, 0)), (182, 1, (0, 6, 0))]), [(0, 3, 0), (2, 182, 0), (2, 182, 1)], [(24, 0), (33, 8)]),
  (33, 1, 3, ([(0, 0, 0, 0, 0, 0), (1, 60, 0, 1, 0, 60), ((-2147483648), 2147483647, 0, (-2147483648), 0, 2147483647), (0, 59, 0, 0, 0, 59), (1, 60, 0, 1, 0, 60), (7, 7, 0, 7, 0, 7), (0, 8, 0, 0, 0, 8)], [(0, (2, 180, 0)), (3, (0, 4, 0)), (4, (0, 3, 0)), (5, (0, 0, 7))], [], [(182, 0, (0, 5, 0)), (182, 1, (0, 6, 0))]), [(0, 3, 0), (2, 182, 0), (2, 182, 1)], [(24, 0)])], [], [(24, 0)])
set_option maxRecDepth 100000 in
theorem syc_817 : CoOk GG MM syt_817 := chk_ok (cs := [syt_816, syt_810, syt_804, syt_798, syt_792, syt_786, syt_780, syt_362, syt_378]) (F := 4000) (List.forall_mem_cons.mpr ⟨syc_816, List.forall_mem_cons.mpr ⟨syc_810, List.forall_mem_cons.mpr ⟨syc_804, List.forall_mem_cons.mpr ⟨syc_798, List.forall_mem_cons.mpr ⟨syc_792, List.forall_mem_cons.mpr ⟨syc_786, List.forall_mem_cons.mpr ⟨syc_780, List.forall_mem_cons.mpr ⟨syc_362, List.forall_mem_cons.mpr ⟨syc_378, fun _ h => absurd h List.not_mem_nil⟩⟩⟩⟩⟩⟩⟩⟩⟩) (by decide +kernel) (by decide +kernel)
/-- M.drawn -/
def syt_818 : CO := (193, 6, [(0, 0, 0, 0, 0, 0), ((-2147483648), 2147483647, 0, (-2147483648), 0, 2147483647), ((-2147483648), 2147483647, 0, (-2147483648), 0, 2147483647)], [(2, 180, 0), (0, 1, 0), (0, 2, 0)], [], [(1, 1, 0), (1, 2, 0)], [(some (0, 0, (-1)), [(0, 0, 0, 0, 0, 0), ((-2147483648), 2147483647, 0, (-2147483648), 0, 2147483647), ((-2147483648), 2147483647, 0, (-2147483648), 0, 2147483647)], [], []), (some (0, 0, 0), [(0, 0, 0, 0, 0, 0), (1, 60, 0, 1, 0, 60), ((-2147483648), 2147483647, 0, (-2147483648), 0, 2147483647), (1, 7, 0, 1, 0, 7)], [(182, 0, (0, 3, 0))], [(2, 182, 0)]), (some (0, 4, 0), [(0, 0, 0, 0, 0, 0), (1, 60, 0, 1, 0, 60), ((-2147483648), 2147483647, 0, (-2147483648), 0, 2147483647), (1, 7, 0, 1, 0, 7), ((-2147483648), 60, 0, (-2147483648), 0, 60)], [(182, 0, (0, 3, 0))], [(2, 182, 0), (1, 0, 0)])], [(180, 0, 0), (180, 24, 24), (180, 42, 42), (182, 101, 101), (182, 103, 153), (185, 0, 423)], [], [], [])
set_option maxRecDepth 100000 in
theorem syc_818 : CoOk GG MM syt_818 := chk_ok (cs := [syt_817, syt_361, syt_302]) (F := 4000) (List.forall_mem_cons.mpr ⟨syc_817, List.forall_mem_cons.mpr ⟨syc_361, List.forall_mem_cons.mpr ⟨syc_302, fun _ h => absurd h List.not_mem_nil⟩⟩⟩) (by decide +kernel) (by decide +kernel)
/-- Life.copyFrom -/
def syt_819 : CO := (94, 1, [(0, 0, 0, 0, 0, 0)], [(2, 31, 0), (2, 23, 0)], [], [], [(none, [(0, 0, 0, 0, 0, 0)], [], [])], [(31, 0, 3), (32, 0, 7), (33, 0, 7), (34, 0, 7), (35, 0, 7), (36, 0, 7), (37, 0, 7), (38, 0, 8)], [], [], [])
set_option maxRecDepth 100000 in
theorem syc_819 : CoOk GG MM syt_819 := chk_ok (cs := []) (F := 4000) (fun _ h => absurd h List.not_mem_nil) (by decide +kernel) (by decide +kernel)
/-- Life.draw -/
def syt_820 : CO := (97, 1, [(0, 0, 0, 0, 0, 0), (1, 8, 0, 1, 0, 8)], [(2, 31, 0), (0, 1, 0)], [], [(1, 1, 0)], [(some (0, 2, 0), [(0, 0, 0, 0, 0, 0), (1, 8, 0, 1, 0, 8), (0, 7, 0, 0, 0, 7)], [], [(1, 0, 0)])], [(31, 4, 4)], [], [], [])
set_option maxRecDepth 100000 in
theorem syc_820 : CoOk GG MM syt_820 := chk_ok (cs := []) (F := 4000) (fun _ h => absurd h List.not_mem_nil) (by decide +kernel) (by decide +kernel)
/-- Life.draw -/
def syt_821 : CO := (97, 1, [(0, 0, 0, 0, 0, 0)], [(2, 31, 0), (0, 0, 3)], [], [], [(some (0, 1, 0), [(0, 0, 0, 0, 0, 0), (0, 2, 0, 0, 0, 2)], [], [(1, 0, 0)])], [(31, 4, 4)], [], [], [])
set_option maxRecDepth 100000 in
theorem syc_821 : CoOk GG MM syt_821 := chk_ok (cs := []) (F := 4000) (fun _ h => absurd h List.not_mem_nil) (by decide +kernel) (by decide +kernel)
/-- Life.isJailed -/
def syt_822 : CO := (103, 1, [(0, 0, 0, 0, 0, 0), (0, 6, 0, 0, 0, 6)], [(2, 31, 0), (0, 1, 0)], [], [(1, 1, 0)], [(some (0, 0, 1), [(0, 0, 0, 0, 0, 0), (0, 6, 0, 0, 0, 6)], [], []), (some (0, 0, 0), [(0, 0, 0, 0, 0, 0), (0, 6, 0, 0, 0, 6)], [], [])], [], [], [], [])
set_option maxRecDepth 100000 in
theorem syc_822 : CoOk GG MM syt_822 := chk_ok (cs := []) (F := 4000) (fun _ h => absurd h List.not_mem_nil) (by decide +kernel) (by decide +kernel)
/-- Life.isGloved -/
def syt_823 : CO := (102, 1, [(0, 0, 0, 0, 0, 0), (0, 6, 0, 0, 0, 6)], [(2, 31, 0), (0, 1, 0)], [], [(1, 1, 0)], [(some (0, 0, 1), [(0, 0, 0, 0, 0, 0), (0, 6, 0, 0, 0, 6)], [], []), (some (0, 0, 0), [(0, 0, 0, 0, 0, 0), (0, 6, 0, 0, 0, 6)], [], [])], [], [], [], [])
set_option maxRecDepth 100000 in
theorem syc_823 : CoOk GG MM syt_823 := chk_ok (cs := []) (F := 4000) (fun _ h => absurd h List.not_mem_nil) (by decide +kernel) (by decide +kernel)
/-- Life.whyNotDo -/
def syt_824 : CO := (117, 3, [(0, 0, 0, 0, 0, 0), (0, 6, 0, 0, 0, 6), (0, 7, 0, 0, 0, 7), (0, 2, 0, 0, 0, 2)], [(2, 31, 0), (2, 3, 0), (0, 1, 0), (0, 2, 0), (0, 3, 0)], [], [(1, 2, 0), (1, 3, 0), (1, 4, 0)], [(some (0, 4, 0), [(0, 0, 0, 0, 0, 0), (0, 6, 0, 0, 0, 6), (0, 7, 0, 0, 0, 7), (0, 2, 0, 0, 0, 2), (2, 5, 0, 2, 0, 5)], [], [(1, 0, 0)]), (some (0, 0, 0), [(0, 0, 0, 0, 0, 0), (0, 6, 0, 0, 0, 6), (0, 7, 0, 0, 0, 7), (0, 2, 0, 0, 0, 2)], [], []), (some (0, 0, 1), [(0, 0, 0, 0, 0, 0), (0, 6, 0, 0, 0, 6), (0, 7, 0, 0, 0, 7), (0, 2, 0, 0, 0, 2)], [], [])], [], [], [], [])
set_option maxRecDepth 100000 in
theorem syc_824 : CoOk GG MM syt_824 := chk_ok (cs := [syt_279, syt_249, syt_278, syt_823, syt_822]) (F := 4000) (List.forall_mem_cons.mpr ⟨syc_279, List.forall_mem_cons.mpr ⟨syc_249, List.forall_mem_cons.mpr ⟨syc_278, List.forall_mem_cons.mpr ⟨syc_823, List.forall_mem_cons.mpr ⟨syc_822, fun _ h => absurd h List.not_mem_nil⟩⟩⟩⟩⟩) (by decide +kernel) (by decide +kernel)
/-- Life.draw -/
def syt_825 : CO := (97, 1, [(0, 0, 0, 0, 0, 0)], [(2, 31, 0), (0, 0, 8)], [], [], [(some (0, 1, 0), [(0, 0, 0, 0, 0, 0), (0, 7, 0, 0, 0, 7)], [], [(1, 0, 0)])], [(31, 4, 4)], [], [], [])
set_option maxRecDepth 100000 in
theorem syc_825 : CoOk GG MM syt_825 := chk_ok (cs := []) (F := 4000) (fun _ h => absurd h List.not_mem_nil) (by decide +kernel) (by decide +kernel)
/-- Life.draw -/
def syt_826 : CO := (97, 1, [(0, 0, 0, 0, 0, 0), (0, 7, 0, 0, 0, 7)], [(2, 31, 0), (0, 1, 0)], [], [(1, 1, 0)], [(some (0, 2, 0), [(0, 0, 0, 0, 0, 0), (1, 7, 0, 1, 0, 7), (0, 6, 0, 0, 0, 6)], [], [(1, 0, 0)]), (some (0, 0, 0), [(0, 0, 0, 0, 0, 0), (0, 0, 0, 0, 0, 0)], [], [])], [(31, 4, 4)], [], [], [])
set_option maxRecDepth 100000 in
theorem syc_826 : CoOk GG MM syt_826 := chk_ok (cs := []) (F := 4000) (fun _ h => absurd h List.not_mem_nil) (by decide +kernel) (by decide +kernel)
/-- Life.isWed -/
def syt_827 : CO := (105, 1, [(0, 0, 0, 0, 0, 0), (0, 6, 0, 0, 0, 6)], [(2, 31, 0), (0, 1, 0)], [], [(1, 1, 0)], [(some (0, 0, 1), [(0, 0, 0, 0, 0, 0), (0, 6, 0, 0, 0, 6)], [], []), (some (0, 0, 0), [(0, 0, 0, 0, 0, 0), (0, 6, 0, 0, 0, 6)], [], [])], [], [], [], [])
set_option maxRecDepth 100000 in
theorem syc_827 : CoOk GG MM syt_827 := chk_ok (cs := []) (F := 4000) (fun _ h => absurd h List.not_mem_nil) (by decide +kernel) (by decide +kernel)
/-- Life.whyNotWed -/
def syt_828 : CO := (118, 2, [(0, 0, 0, 0, 0, 0), (0, 6, 0, 0, 0, 6), (0, 6, 0, 0, 0, 6)], [(2, 31, 0), (0, 1, 0), (0, 2, 0)], [], [(1, 1, 0), (1, 2, 0)], [(some (0, 0, 1), [(0, 0, 0, 0, 0, 0), (0, 6, 0, 0, 0, 6), (0, 6, 0, 0, 0, 6)], [], []), (some (0, 0, 0), [(0, 0, 0, 0, 0, 0), (0, 6, 0, 0, 0, 6), (0, 6, 0, 0, 0, 6)], [], []), (some (0, 3, 0), [(0, 0, 0, 0, 0, 0), (0, 6, 0, 0, 0, 6), (0, 6, 0, 0, 0, 6), (2, 4, 0, 2, 0, 4)], [], [(1, 0, 0)])], [], [], [], [])
set_option maxRecDepth 100000 in
theorem syc_828 : CoOk GG MM syt_828 := chk_ok (cs := [syt_823, syt_822, syt_827]) (F := 4000) (List.forall_mem_cons.mpr ⟨syc_823, List.forall_mem_cons.mpr ⟨syc_822, List.forall_mem_cons.mpr ⟨syc_827, fun _ h => absurd h List.not_mem_nil⟩⟩⟩) (by decide +kernel) (by decide +kernel)
/-- Life.wedTwo -/
def syt_829 : CO := (115, 1, [(0, 0, 0, 0, 0, 0), (0, 6, 0, 0, 0, 6), (0, 6, 0, 0, 0, 6)], [(2, 31, 0), (0, 1, 0), (0, 2, 0)], [], [(1, 1, 0), (1, 2, 0)], [(none, [(0, 0, 0, 0, 0, 0), (0, 6, 0, 0, 0, 6), (0, 6, 0, 0, 0, 6)], [], [])], [(36, 0, 6)], [], [], [])
set_option maxRecDepth 100000 in
theorem syc_829 : CoOk GG MM syt_829 := chk_ok (cs := []) (F := 4000) (fun _ h => absurd h List.not_mem_nil) (by decide +kernel) (by decide +kernel)
/-- Life.partFromSpouse -/
def syt_830 : CO := (109, 1, [(0, 0, 0, 0, 0, 0), (0, 6, 0, 0, 0, 6)], [(2, 31, 0), (0, 1, 0)], [], [(1, 1, 0)], [(none, [(0, 0, 0, 0, 0, 0), (0, 6, 0, 0, 0, 6)], [], [])], [(36, 0, 6)], [], [], [])
set_option maxRecDepth 100000 in
theorem syc_830 : CoOk GG MM syt_830 := chk_ok (cs := []) (F := 4000) (fun _ h => absurd h List.not_mem_nil) (by decide +kernel) (by decide +kernel)
/-- Life.jailedBits -/
def syt_831 : CO := (106, 2, [(0, 0, 0, 0, 0, 0)], [(2, 31, 0)], [], [], [(some (0, 1, 0), [(0, 0, 0, 0, 0, 0), ((-2147483648), 2147483647, 0, (-2147483648), 0, 2147483647)], [], [(1, 0, 0)])], [], [(4, 1, 1, ([(0, 0, 0, 0, 0, 0), (0, 7, 0, 0, 0, 7), ((-2147483648), 2147483647, 0, (-2147483648), 0, 2147483647)], [(0, (2, 31, 0)), (1, (0, 2, 0)), (2, (0, 1, 0))], [], []), [(0, 2, 0), (0, 1, 0)], [(4, 0)])], [], [(4, 0)])
set_option maxRecDepth 100000 in
theorem syc_831 : CoOk GG MM syt_831 := chk_ok (cs := [syt_822]) (F := 4000) (List.forall_mem_cons.mpr ⟨syc_822, fun _ h => absurd h List.not_mem_nil⟩) (by decide +kernel) (by decide +kernel)
/-- Life.isSeen -/
def syt_832 : CO := (104, 3, [(0, 0, 0, 0, 0, 0), (0, 6, 0, 0, 0, 6)], [(2, 31, 0), (2, 3, 0), (0, 1, 0)], [], [(1, 2, 0)], [(some (0, 0, 1), [(0, 0, 0, 0, 0, 0), (0, 6, 0, 0, 0, 6)], [], []), (some (0, 0, 0), [(0, 0, 0, 0, 0, 0), (0, 6, 0, 0, 0, 6)], [], [])], [], [], [], [])
set_option maxRecDepth 100000 in
theorem syc_832 : CoOk GG MM syt_832 := chk_ok (cs := [syt_831]) (F := 4000) (List.forall_mem_cons.mpr ⟨syc_831, fun _ h => absurd h List.not_mem_nil⟩) (by decide +kernel) (by decide +kernel)
/-- Life.addBlame -/
def syt_833 : CO := (89, 1, [(0, 0, 0, 0, 0, 0), (0, 6, 0, 0, 0, 6), ((-2147483648), 2147483647, 0, (-2147483648), 0, 2147483647)], [(2, 31, 0), (2, 3, 0), (0, 1, 0), (0, 2, 0)], [], [(1, 2, 0), (1, 3, 0)], [(none, [(0, 0, 0, 0, 0, 0), (0, 6, 0, 0, 0, 6), ((-2147483648), 2147483647, 0, (-2147483648), 0, 2147483647)], [], [])], [(31, 1, 1), (33, 0, 6), (34, 0, 6)], [], [], [])
set_option maxRecDepth 100000 in
theorem syc_833 : CoOk GG MM syt_833 := chk_ok (cs := []) (F := 4000) (fun _ h => absurd h List.not_mem_nil) (by decide +kernel) (by decide +kernel)
/-- Life.doDeed -/
def syt_834 : CO := (96, 4, [(0, 0, 0, 0, 0, 0), (0, 6, 0, 0, 0, 6), (0, 7, 0, 0, 0, 7), (0, 2, 0, 0, 0, 2)], [(2, 31, 0), (2, 3, 0), (0, 1, 0), (0, 2, 0), (0, 3, 0)], [], [(1, 2, 0), (1, 3, 0), (1, 4, 0)], [(none, [(0, 0, 0, 0, 0, 0), (0, 6, 0, 0, 0, 6), (0, 7, 0, 0, 0, 7), (0, 2, 0, 0, 0, 2)], [], [])], [(31, 1, 2), (32, 0, 6), (33, 0, 6), (34, 0, 6), (35, 0, 6), (37, 0, 6), (38, 0, 7)], [], [], [])
set_option maxRecDepth 100000 in
theorem syc_834 : CoOk GG MM syt_834 := chk_ok (cs := [syt_833, syt_278, syt_832]) (F := 4000) (List.forall_mem_cons.mpr ⟨syc_833, List.forall_mem_cons.mpr ⟨syc_278, List.forall_mem_cons.mpr ⟨syc_832, fun _ h => absurd h List.not_mem_nil⟩⟩⟩) (by decide +kernel) (by decide +kernel)
/-- Life.drawActs -/
def syt_835 : CO := (98, 5, [(0, 0, 0, 0, 0, 0), (0, 6, 0, 0, 0, 6)], [(2, 31, 0), (2, 3, 0), (0, 1, 0)], [], [(1, 2, 0)], [(none, [(0, 0, 0, 0, 0, 0), (0, 6, 0, 0, 0, 6)], [], [])], [(31, 1, 2), (31, 4, 4), (32, 0, 6), (33, 0, 6), (34, 0, 6), (35, 0, 6), (36, 0, 6), (37, 0, 6), (38, 0, 7)], [], [], [])
set_option maxRecDepth 100000 in
theorem syc_835 : CoOk GG MM syt_835 := chk_ok (cs := [syt_834, syt_821, syt_825, syt_820, syt_826, syt_830, syt_829, syt_824, syt_828]) (F := 4000) (List.forall_mem_cons.mpr ⟨syc_834, List.forall_mem_cons.mpr ⟨syc_821, List.forall_mem_cons.mpr ⟨syc_825, List.forall_mem_cons.mpr ⟨syc_820, List.forall_mem_cons.mpr ⟨syc_826, List.forall_mem_cons.mpr ⟨syc_830, List.forall_mem_cons.mpr ⟨syc_829, List.forall_mem_cons.mpr ⟨syc_824, List.forall_mem_cons.mpr ⟨syc_828, fun _ h => absurd h List.not_mem_nil⟩⟩⟩⟩⟩⟩⟩⟩⟩) (by decide +kernel) (by decide +kernel)
/-- Life.passDay -/
def syt_836 : CO := (110, 2, [(0, 0, 0, 0, 0, 0)], [(2, 31, 0), (2, 3, 0)], [], [], [(none, [(0, 0, 0, 0, 0, 0)], [], [])], [(31, 0, 0), (32, 0, 6), (34, 0, 6), (37, 0, 6)], [(2, 1, 1, ([(0, 0, 0, 0, 0, 0), (0, 7, 0, 0, 0, 7)], [(0, (2, 31, 0)), (1, (2, 3, 0)), (2, (0, 1, 0))], [], []), [(0, 2, 0)], [(2, 0), (87, 1)]),
  (87, 2, 1, ([(0, 0, 0, 0, 0, 0), (0, 7, 0, 0, 0, 7)], [(0, (2, 31, 0)), (1, (2, 3, 0)), (2, (0, 1, 0))], [], []), [(0, 2, 0)], [(87, 1)])], [], [(2, 0)])
set_option maxRecDepth 100000 in
theorem syc_836 : CoOk GG MM syt_836 := chk_ok (cs := [syt_822]) (F := 4000) (List.forall_mem_cons.mpr ⟨syc_822, fun _ h => absurd h List.not_mem_nil⟩) (by decide +kernel) (by decide +kernel)
/-- Life.drawDays -/
def syt_837 : CO := (99, 6, [(0, 0, 0, 0, 0, 0), ((-2147483648), 20, 0, (-2147483648), 0, 20), ((-2147483648), 2147483647, 0, (-2147483648), 0, 2147483647)], [(2, 31, 0), (2, 3, 0), (0, 1, 0), (0, 2, 0)], [], [(1, 2, 0), (1, 3, 0)], [(none, [(0, 0, 0, 0, 0, 0), ((-2147483648), 20, 0, (-2147483648), 0, 20), ((-2147483648), 2147483647, 0, (-2147483648), 0, 2147483647)], [], [])], [(31, 0, 2), (31, 4, 4), (32, 0, 6), (33, 0, 6), (34, 0, 6), (35, 0, 6), (36, 0, 6), (37, 0, 6), (38, 0, 7)], [(8, 1, 1, ([(0, 0, 0, 0, 0, 0), ((-2147483648), 20, 0, (-2147483648), 0, 20), ((-2147483648), 2147483647, 0, (-2147483648), 0, 2147483647), (0, 20, 0, 0, 0, 20)], [(0, (2, 31, 0)), (1, (2, 3, 0)), (2, (0, 1, 0)), (4, (0, 3, 0))], [], []), [(0, 4, 0)], [(27, 1)]),
  (27, 1, 3, ([(0, 0, 0, 0, 0, 0), (1, 20, 0, 1, 0, 20), ((-2147483648), 2147483647, 0, (-2147483648), 0, 2147483647), (0, 19, 0, 0, 0, 19)], [(0, (2, 31, 0)), (1, (2, 3, 0)), (2, (0, 1, 0)), (4, (0, 3, 0)), (5, (0, 0, 0))], [], []), [], [(8, 0), (27, 2)]),
  (27, 1, 3, ([(0, 0, 0, 0, 0, 0), (1, 20, 0, 1, 0, 20), ((-2147483648), 2147483647, 0, (-2147483648), 0, 2147483647), (0, 19, 0, 0, 0, 19)], [(0, (2, 31, 0)), (1, (2, 3, 0)), (2, (0, 1, 0)), (4, (0, 3, 0)), (5, (0, 0, 1))], [], []), [], [(8, 0), (27, 3)]),
  (27, 1, 3, ([(0, 0, 0, 0, 0, 0), (1, 20, 0, 1, 0, 20), ((-2147483648), 2147483647, 0, (-2147483648), 0, 2147483647), (0, 19, 0, 0, 0, 19)], [(0, (2, 31, 0)), (1, (2, 3, 0)), (2, (0, 1, 0)), (4, (0, 3, 0)), (5, (0, 0, 2))], [], []), [], [(8, 0), (27, 4)]),
  (27, 1, 3, ([(0, 0, 0, 0, 0, 0), (1, 20, 0, 1, 0, 20), ((-2147483648), 2147483647, 0, (-2147483648), 0, 2147483647), (0, 19, 0, 0, 0, 19)], [(0, (2, 31, 0)), (1, (2, 3, 0)), (2, (0, 1, 0)), (4, (0, 3, 0)), (5, (0, 0, 3))], [], []), [], [(8, 0), (27, 5)]),
  (27, 1, 3, ([(0, 0, 0, 0, 0, 0), (1, 20, 0, 1, 0, 20), ((-2147483648), 2147483647, 0, (-2147483648), 0, 2147483647), (0, 19, 0, 0, 0, 19)], [(0, (2, 31, 0)), (1, (2, 3, 0)), (2, (0, 1, 0)), (4, (0, 3, 0)), (5, (0, 0, 4))], [], []), [], [(8, 0), (27, 6)]),
  (27, 1, 3, ([(0, 0, 0, 0, 0, 0), (1, 20, 0, 1, 0, 20), ((-2147483648), 2147483647, 0, (-2147483648), 0, 2147483647), (0, 19, 0, 0, 0, 19)], [(0, (2, 31, 0)), (1, (2, 3, 0)), (2, (0, 1, 0)), (4, (0, 3, 0)), (5, (0, 0, 5))], [], []), [], [(8, 0), (27, 7)]),
  (27, 1, 3, ([(0, 0, 0, 0, 0, 0), (1, 20, 0, 1, 0, 20), ((-2147483648), 2147483647, 0, (-2147483648), 0, 2147483647), (0, 19, 0, 0, 0, 19)], [(0, (2, 31, 0)), (1, (2, 3, 0)), (2, (0, 1, 0)), (4, (0, 3, 0)), (5, (0, 0, 6))], [], []), [], [(8, 0), (27, 8)]),
  (27, 1, 3, ([(0, 0, 0, 0, 0, 0), (1, 20, 0, 1, 0, 20), ((-2147483648), 2147483647, 0, (-2147483648), 0, 2147483647), (0, 19, 0, 0, 0, 19)], [(0, (2, 31, 0)), (1, (2, 3, 0)), (2, (0, 1, 0)), (4, (0, 3, 0)), (5, (0, 0, 7))], [], []), [], [(8, 0)])], [], [(8, 0)])
set_option maxRecDepth 100000 in
theorem syc_837 : CoOk GG MM syt_837 := chk_ok (cs := [syt_835, syt_836]) (F := 4000) (List.forall_mem_cons.mpr ⟨syc_835, List.forall_mem_cons.mpr ⟨syc_836, fun _ h => absurd h List.not_mem_nil⟩⟩) (by decide +kernel) (by decide +kernel)
/-- X.odds -/
def syt_838 : CO := (30, 7, [(0, 0, 0, 0, 0, 0), ((-2147483648), 2147483647, 0, (-2147483648), 0, 2147483647), ((-2147483648), 2147483647, 0, (-2147483648), 0, 2147483647), ((-2147483648), 2147483647, 0, (-2147483648), 0, 2147483647)], [(2, 0, 0), (0, 1, 0), (0, 2, 0), (0, 3, 0)], [(0, 1, (2, 3, 0)), (0, 2, (2, 13, 0)), (0, 7, (2, 110, 0)), (0, 8, (2, 115, 0))], [(1, 1, 0), (1, 2, 0), (1, 3, 0)], [(some (0, 0, (-1)), [(0, 0, 0, 0, 0, 0), ((-2147483648), 2147483647, 0, (-2147483648), 0, 2147483647), ((-2147483648), 2147483647, 0, (-2147483648), 0, 2147483647), ((-2147483648), 2147483647, 0, (-2147483648), 0, 2147483647)], [(0, 1, (2, 3, 0)), (0, 2, (2, 13, 0)), (0, 7, (2, 110, 0)), (0, 8, (2, 115, 0))], []), (some (0, 4, 0), [(0, 0, 0, 0, 0, 0), (0, 6, 0, 0, 0, 6), (1, 30, 0, 1, 0, 30), ((-2147483648), 2147483647, 0, (-2147483648), 0, 2147483647), ((-2147483648), 2147483647, 0, (-2147483648), 0, 2147483647)], [(0, 1, (2, 3, 0)), (0, 2, (2, 13, 0)), (0, 7, (2, 110, 0)), (0, 8, (2, 115, 0))], [(1, 0, 0)])], [(31, 0, 4), (32, 0, 7), (33, 0, 7), (34, 0, 7), (35, 0, 7), (36, 0, 7), (37, 0, 7), (38, 0, 8)], [(41, 1, 1, ([(0, 0, 0, 0, 0, 0), (0, 6, 0, 0, 0, 6), (1, 30, 0, 1, 0, 30), ((-2147483648), 2147483647, 0, (-2147483648), 0, 2147483647), (0, 30, 0, 0, 0, 30), ((-2147483648), 20, 0, (-2147483648), 0, 20), ((-2147483648), 2147483647, 0, (-2147483648), 0, 2147483647)], [(0, (2, 0, 0)), (1, (0, 1, 0)), (2, (0, 2, 0)), (3, (0, 3, 0)), (4, (0, 5, 0)), (5, (0, 6, 0)), (6, (0, 4, 0))], [], [(0, 1, (2, 3, 0)), (0, 2, (2, 13, 0)), (0, 7, (2, 110, 0)), (0, 8, (2, 115, 0))]), [(0, 6, 0), (0, 4, 0), (0, 5, 0)], [(41, 0)])], [], [(41, 0)])
set_option maxRecDepth 100000 in
theorem syc_838 : CoOk GG MM syt_838 := chk_ok (cs := [syt_247, syt_819, syt_357, syt_837]) (F := 4000) (List.forall_mem_cons.mpr ⟨syc_247, List.forall_mem_cons.mpr ⟨syc_819, List.forall_mem_cons.mpr ⟨syc_357, List.forall_mem_cons.mpr ⟨syc_837, fun _ h => absurd h List.not_mem_nil⟩⟩⟩⟩) (by decide +kernel) (by decide +kernel)
/-- M.layAside -/
def syl_839_0 : List LB := [(2, 1, 0, ([(0, 0, 0, 0, 0, 0)], [(0, (2, 180, 0)), (1, (0, 0, 0))], [], []), [], [(2, 1)]),
  (2, 2, 0, ([(0, 0, 0, 0, 0, 0)], [(0, (2, 180, 0)), (1, (0, 0, 8))], [], []), [], [(2, 2)]),
  (2, 3, 0, ([(0, 0, 0, 0, 0, 0)], [(0, (2, 180, 0)), (1, (0, 0, 16))], [], []), [], [(2, 3)])]
def syl_839_1 : List LB := [(2, 4, 0, ([(0, 0, 0, 0, 0, 0)], [(0, (2, 180, 0)), (1, (0, 0, 24))], [], []), [], [(2, 4)]),
  (2, 5, 0, ([(0, 0, 0, 0, 0, 0)], [(0, (2, 180, 0)), (1, (0, 0, 32))], [], []), [], [(2, 5)]),
  (2, 6, 0, ([(0, 0, 0, 0, 0, 0)], [(0, (2, 180, 0)), (1, (0, 0, 40))], [], []), [], [(2, 6)])]
def syl_839_2 : List LB := [(2, 7, 0, ([(0, 0, 0, 0, 0, 0)], [(0, (2, 180, 0)), (1, (0, 0, 48))], [], []), [], [])]
def syt_839 : CO := (230, 1, [(0, 0, 0, 0, 0, 0)], [(2, 180, 0)], [], [], [(none, [(0, 0, 0, 0, 0, 0)], [], [])], [(186, 0, 52)], (syl_839_0 ++ (syl_839_1 ++ (syl_839_2))), [], [(2, 0)])
set_option maxRecDepth 100000 in
theorem syp_839_0 : runL MM GG [] syt_839 4000 0 syl_839_0 = true := by decide +kernel
set_option maxRecDepth 100000 in
theorem syp_839_1 : runL MM GG [] syt_839 4000 3 syl_839_1 = true := by decide +kernel
set_option maxRecDepth 100000 in
theorem syp_839_2 : runL MM GG [] syt_839 4000 6 syl_839_2 = true := by decide +kernel
set_option maxRecDepth 100000 in
theorem syc_839 : CoOk GG MM syt_839 := chk_ok (cs := []) (F := 4000) (fun _ h => absurd h List.not_mem_nil) (by decide +kernel) (runL_app syp_839_0 (runL_app syp_839_1 (syp_839_2)))
/-- M.least -/
def syt_840 : CO := (231, 1, [(0, 0, 0, 0, 0, 0), ((-2147483648), 2147483647, 0, (-2147483648), 0, 2147483647)], [(0, 0, 20), (0, 1, 0)], [], [(1, 1, 0)], [(some (0, 2, 0), [(0, 0, 0, 0, 0, 0), ((-2147483648), 2147483647, 0, (-2147483648), 0, 2147483647), ((-2147483648), 20, 0, (-2147483648), 0, 20)], [], [(1, 0, 0)])], [], [], [], [])
set_option maxRecDepth 100000 in
theorem syc_840 : CoOk GG MM syt_840 := chk_ok (cs := []) (F := 4000) (fun _ h => absurd h List.not_mem_nil) (by decide +kernel) (by decide +kernel)
/-- M.drawDays -/
def syt_841 : CO := (192, 5, [(0, 0, 0, 0, 0, 0), ((-2147483648), 2147483647, 0, (-2147483648), 0, 2147483647)], [(2, 180, 0), (0, 0, 20), (0, 1, 0)], [], [(1, 2, 0)], [(some (0, 2, 0), [(0, 0, 0, 0, 0, 0), ((-2147483648), 2147483647, 0, (-2147483648), 0, 2147483647), ((-2147483648), 20, 0, (-2147483648), 0, 20)], [], [(1, 0, 0)])], [(180, 42, 42), (182, 101, 101), (182, 103, 153)], [(24, 1, 1, ([(0, 0, 0, 0, 0, 0), ((-2147483648), 2147483647, 0, (-2147483648), 0, 2147483647), (0, 20, 0, 0, 0, 20), ((-2147483648), 20, 0, (-2147483648), 0, 20)], [(0, (2, 180, 0)), (3, (0, 3, 0)), (4, (0, 2, 0))], [], []), [(0, 4, 0), (0, 3, 0)], [(33, 1)]),
  (33, 1, 3, ([(0, 0, 0, 0, 0, 0), ((-2147483648), 2147483647, 0, (-2147483648), 0, 2147483647), (0, 19, 0, 0, 0, 19), (1, 20, 0, 1, 0, 20)], [(0, (2, 180, 0)), (3, (0, 3, 0)), (4, (0, 2, 0)), (5, (0, 0, 0))], [], []), [(0, 3, 0)], [(24, 0), (33, 2)]),
  (33, 1, 3, ([(0, 0, 0, 0, 0, 0), ((-2147483648), 2147483647, 0, (-2147483648), 0, 2147483647), (0, 19, 0, 0, 0, 19), (1, 20, 0, 1, 0, 20), (1, 7, 0, 1, 0, 7), (0, 8, 0, 0, 0, 8)], [(0, (2, 180, 0)), (3, (0, 3, 0)), (4, (0, 2, 0)), (5, (0, 0, 1))], [], [(182, 0, (0, 4, 0)), (182, 1, (0, 5, 0))]), [(0, 3, 0), (2, 182, 0), (2, 182, 1)], [(24, 0), (33, 3)]),
  (33, 1, 3, ([(0, 0, 0, 0, 0, 0), ((-2147483648), 2147483647, 0, (-2147483648), 0, 2147483647), (0, 19, 0, 0, 0, 19), (1, 20, 0, 1, 0, 20), (2, 7, 0, 2, 0, 7), (0, 8, 0, 0, 0, 8)], [(0, (2, 180, 0)), (3, (0, 3, 0)), (4, (0, 2, 0)), (5, (0, 0, 2))], [], [(182, 0, (0, 4, 0)), (182, 1, (0, 5, 0))]), [(0, 3, 0), (2, 182, 0), (2, 182, 1)], [(24, 0), (33, 4)]),
  (33, 1, 3, ([(0, 0, 0, 0, 0, 0), ((-2147483648), 2147483647, 0, (-2147483648), 0, 2147483647), (0, 19, 0, 0, 0, 19), (1, 20, 0, 1, 0, 20), (3, 7, 0, 3, 0, 7), (0, 8, 0, 0, 0, 8)], [(0, (2, 180, 0)), (3, (0, 3, 0)), (4, (0, 2, 0)), (5, (0, 0, 3))], [], [(182, 0, (0, 4, 0)), (182, 1, (0, 5, 0))]), [(0, 3, 0), (2, 182, 0), (2, 182, 1)], [(24, 0), (33, 5)]),
  (33, 1, 3, ([(0, 0, 0, 0, 0, 0), ((-2147483648), 2147483647, 0, (-2147483648), 0, 2147483647), (0, 19, 0, 0, 0, 19), (1, 20, 0, 1, 0, 20), (4, 7, 0, 4, 0, 7), (0, 8, 0, 0, 0, 8)], [(0, (2, 180, 0)), (3, (0, 3, 0)), (4, (0, 2, 0)), (5, (0, 0, 4))], [], [(182, 0, (0, 4, 0)), (182, 1, (0, 5, 0))]), [(0, 3, 0), (2, 182, 0), (2, 182, 1)], [(24, 0), (33, 6)]),
  (33, 1, 3, ([(0, 0, 0, 0, 0, 0), ((-2147483648), 2147483647, 0, (-2147483648), 0, 2147483647), (0, 19, 0, 0, 0, 19), (1, 20, 0, 1, 0, 20), (5, 7, 0, 5, 0, 7), (0, 8, 0, 0, 0, 8)], [(0, (2, 180, 0)), (3, (0, 3, 0)), (4, (0, 2, 0)), (5, (0, 0, 5))], [], [(182, 0, (0, 4, 0)), (182, 1, (0, 5, 0))]), [(0, 3, 0), (2, 182, 0), (2, 182, 1)], [(24, 0), (33, 7)]),
  (33, 1, 3, ([(0, 0, 0, 0, 0, 0), ((-2147483648), 2147483647, 0, (-2147483648), 0, 2147483647), (0, 19, 0, 0, 0, 19), (1, 20, 0, 1, 0, 20), (6, 7, 0, 6, 0, 7), (0, 8, 0, 0, 0, 8)], [(0, (2, 180, 0)), (3, (0, 3, 0)), (4, (0, 2, 0)), (5, (0, 0, 6))], [], [(182, 0, (0, 4, 0)), (182, 1, (0, 5, 0))]), [(0, 3, 0), (2, 182, 0), (2, 182, 1)], [(24, 0), (33, 8)]),
  (33, 1, 3, ([(0, 0, 0, 0, 0, 0), ((-2147483648), 2147483647, 0, (-2147483648), 0, 2147483647), (0, 19, 0, 0, 0, 19), (1, 20, 0, 1, 0, 20), (7, 7, 0, 7, 0, 7), (0, 8, 0, 0, 0, 8)], [(0, (2, 180, 0)), (3, (0, 3, 0)), (4, (0, 2, 0)), (5, (0, 0, 7))], [], [(182, 0, (0, 4, 0)), (182, 1, (0, 5, 0))]), [(0, 3, 0), (2, 182, 0), (2, 182, 1)], [(24, 0)])], [], [(24, 0)])
set_option maxRecDepth 100000 in
theorem syc_841 : CoOk GG MM syt_841 := chk_ok (cs := [syt_816, syt_810, syt_804, syt_798, syt_792, syt_786, syt_780, syt_840, syt_378]) (F := 4000) (List.forall_mem_cons.mpr ⟨syc_816, List.forall_mem_cons.mpr ⟨syc_810, List.forall_mem_cons.mpr ⟨syc_804, List.forall_mem_cons.mpr ⟨syc_798, List.forall_mem_cons.mpr ⟨syc_792, List.forall_mem_cons.mpr ⟨syc_786, List.forall_mem_cons.mpr ⟨syc_780, List.forall_mem_cons.mpr ⟨syc_840, List.forall_mem_cons.mpr ⟨syc_378, fun _ h => absurd h List.not_mem_nil⟩⟩⟩⟩⟩⟩⟩⟩⟩) (by decide +kernel) (by decide +kernel)
/-- M.takeBack -/
def syl_842_0 : List LB := [(2, 1, 0, ([(0, 0, 0, 0, 0, 0)], [(0, (2, 180, 0)), (1, (0, 0, 0))], [], []), [], [(2, 1)]),
  (2, 2, 0, ([(0, 0, 0, 0, 0, 0)], [(0, (2, 180, 0)), (1, (0, 0, 8))], [], []), [], [(2, 2)]),
  (2, 3, 0, ([(0, 0, 0, 0, 0, 0)], [(0, (2, 180, 0)), (1, (0, 0, 16))], [], []), [], [(2, 3)])]
def syl_842_1 : List LB := [(2, 4, 0, ([(0, 0, 0, 0, 0, 0)], [(0, (2, 180, 0)), (1, (0, 0, 24))], [], []), [], [(2, 4)]),
  (2, 5, 0, ([(0, 0, 0, 0, 0, 0)], [(0, (2, 180, 0)), (1, (0, 0, 32))], [], []), [], [(2, 5)]),
  (2, 6, 0, ([(0, 0, 0, 0, 0, 0)], [(0, (2, 180, 0)), (1, (0, 0, 40))], [], []), [], [(2, 6)])]
def syl_842_2 : List LB := [(2, 7, 0, ([(0, 0, 0, 0, 0, 0)], [(0, (2, 180, 0)), (1, (0, 0, 48))], [], []), [], [])]
def syt_842 : CO := (284, 1, [(0, 0, 0, 0, 0, 0)], [(2, 180, 0)], [], [], [(none, [(0, 0, 0, 0, 0, 0)], [], [])], [(182, 101, 153)], (syl_842_0 ++ (syl_842_1 ++ (syl_842_2))), [], [(2, 0)])
set_option maxRecDepth 100000 in
theorem syp_842_0 : runL MM GG [] syt_842 4000 0 syl_842_0 = true := by decide +kernel
set_option maxRecDepth 100000 in
theorem syp_842_1 : runL MM GG [] syt_842 4000 3 syl_842_1 = true := by decide +kernel
set_option maxRecDepth 100000 in
theorem syp_842_2 : runL MM GG [] syt_842 4000 6 syl_842_2 = true := by decide +kernel
set_option maxRecDepth 100000 in
theorem syc_842 : CoOk GG MM syt_842 := chk_ok (cs := []) (F := 4000) (fun _ h => absurd h List.not_mem_nil) (by decide +kernel) (runL_app syp_842_0 (runL_app syp_842_1 (syp_842_2)))
/-- M.odds -/
def syt_843 : CO := (234, 6, [(0, 0, 0, 0, 0, 0), ((-2147483648), 2147483647, 0, (-2147483648), 0, 2147483647), ((-2147483648), 2147483647, 0, (-2147483648), 0, 2147483647), ((-2147483648), 2147483647, 0, (-2147483648), 0, 2147483647)], [(2, 180, 0), (0, 1, 0), (0, 2, 0), (0, 3, 0)], [], [(1, 1, 0), (1, 2, 0), (1, 3, 0)], [(some (0, 0, (-1)), [(0, 0, 0, 0, 0, 0), ((-2147483648), 2147483647, 0, (-2147483648), 0, 2147483647), ((-2147483648), 2147483647, 0, (-2147483648), 0, 2147483647), ((-2147483648), 2147483647, 0, (-2147483648), 0, 2147483647)], [], []), (some (0, 5, 0), [(0, 0, 0, 0, 0, 0), (0, 6, 0, 0, 0, 6), (1, 30, 0, 1, 0, 30), ((-2147483648), 2147483647, 0, (-2147483648), 0, 2147483647), (1, 7, 0, 1, 0, 7), ((-2147483648), 2147483647, 0, (-2147483648), 0, 2147483647)], [(182, 0, (0, 4, 0))], [(2, 182, 0), (1, 0, 0)])], [(180, 0, 0), (180, 42, 42), (182, 101, 153), (186, 0, 52)], [(35, 1, 1, ([(0, 0, 0, 0, 0, 0), (0, 6, 0, 0, 0, 6), (1, 30, 0, 1, 0, 30), ((-2147483648), 2147483647, 0, (-2147483648), 0, 2147483647), (0, 30, 0, 0, 0, 30), ((-2147483648), 2147483647, 0, (-2147483648), 0, 2147483647), (1, 7, 0, 1, 0, 7)], [(0, (2, 180, 0)), (1, (0, 1, 0)), (2, (0, 2, 0)), (3, (0, 3, 0)), (4, (0, 5, 0)), (5, (0, 4, 0))], [], [(182, 0, (0, 6, 0))]), [(0, 5, 0), (0, 4, 0), (2, 182, 0)], [(35, 0)])], [], [(35, 0)])
set_option maxRecDepth 100000 in
theorem syc_843 : CoOk GG MM syt_843 := chk_ok (cs := [syt_841, syt_208, syt_235, syt_839, syt_842]) (F := 4000) (List.forall_mem_cons.mpr ⟨syc_841, List.forall_mem_cons.mpr ⟨syc_208, List.forall_mem_cons.mpr ⟨syc_235, List.forall_mem_cons.mpr ⟨syc_839, List.forall_mem_cons.mpr ⟨syc_842, fun _ h => absurd h List.not_mem_nil⟩⟩⟩⟩⟩) (by decide +kernel) (by decide +kernel)
/-- Tape.open -/
def syt_844 : CO := (161, 4, [(0, 0, 0, 0, 0, 0)], [(2, 1, 0), (0, 0, 400)], [], [], [(none, [(0, 0, 0, 0, 0, 0), (0, 940, 0, 0, 0, 940)], [(1, 3, (0, 1, 0)), (1, 9, (0, 0, 0))], [(2, 1, 3)])], [(1, 2, 11)], [], [], [])
set_option maxRecDepth 100000 in
theorem syc_844 : CoOk GG MM syt_844 := chk_ok (cs := [syt_21]) (F := 4000) (List.forall_mem_cons.mpr ⟨syc_21, fun _ h => absurd h List.not_mem_nil⟩) (by decide +kernel) (by decide +kernel)
/-- Tape.takesNumber -/
def syt_845 : CO := (168, 4, [(0, 0, 0, 0, 0, 0)], [(2, 1, 0), (0, 0, 1), (0, 0, 60)], [], [], [(some (0, 0, 0), [(0, 0, 0, 0, 0, 0)], [], []), (some (0, 0, 1), [(0, 0, 0, 0, 0, 0), (0, 940, 0, 0, 0, 940), (1, 60, 0, 1, 0, 60)], [(1, 3, (0, 1, 0)), (1, 9, (0, 2, 0))], [(2, 1, 3), (2, 1, 9)])], [(1, 3, 11)], [], [], [])
set_option maxRecDepth 100000 in
theorem syc_845 : CoOk GG MM syt_845 := chk_ok (cs := [syt_21, syt_25, syt_26]) (F := 4000) (List.forall_mem_cons.mpr ⟨syc_21, List.forall_mem_cons.mpr ⟨syc_25, List.forall_mem_cons.mpr ⟨syc_26, fun _ h => absurd h List.not_mem_nil⟩⟩⟩) (by decide +kernel) (by decide +kernel)
/-- Book.addLine -/
def syt_846 : CO := (49, 1, [(0, 0, 0, 0, 0, 0), (1, 60, 0, 1, 0, 60)], [(2, 105, 0), (0, 0, 50), (0, 0, 0), (0, 1, 0), (0, 0, 0)], [], [(1, 3, 0)], [(none, [(0, 0, 0, 0, 0, 0), (1, 60, 0, 1, 0, 60), (1, 40, 0, 1, 0, 40)], [(105, 4, (0, 2, 0))], [(2, 105, 4)])], [(105, 4, 4), (106, 0, 39), (107, 0, 39), (108, 0, 39), (109, 0, 39)], [], [(105, 4, 1)], [])
set_option maxRecDepth 100000 in
theorem syc_846 : CoOk GG MM syt_846 := chk_ok (cs := []) (F := 4000) (fun _ h => absurd h List.not_mem_nil) (by decide +kernel) (by decide +kernel)
/-- Book.readDay -/
def syt_847 : CO := (52, 5, [(0, 0, 0, 0, 0, 0)], [(2, 105, 0), (2, 1, 0)], [], [], [(some (0, 0, 0), [(0, 0, 0, 0, 0, 0), (0, 40, 0, 0, 0, 40)], [(105, 4, (0, 1, 0))], [(2, 105, 4)]), (some (0, 0, 1), [(0, 0, 0, 0, 0, 0), (0, 940, 0, 0, 0, 940), (1, 60, 0, 1, 0, 60), (1, 40, 0, 1, 0, 40)], [(1, 3, (0, 1, 0)), (1, 9, (0, 2, 0)), (105, 4, (0, 3, 0))], [(2, 1, 3), (2, 1, 9), (2, 105, 4)])], [(1, 3, 11), (105, 4, 4), (106, 0, 39), (107, 0, 39), (108, 0, 39), (109, 0, 39)], [], [], [])
set_option maxRecDepth 100000 in
theorem syc_847 : CoOk GG MM syt_847 := chk_ok (cs := [syt_846, syt_21, syt_38, syt_845]) (F := 4000) (List.forall_mem_cons.mpr ⟨syc_846, List.forall_mem_cons.mpr ⟨syc_21, List.forall_mem_cons.mpr ⟨syc_38, List.forall_mem_cons.mpr ⟨syc_845, fun _ h => absurd h List.not_mem_nil⟩⟩⟩⟩) (by decide +kernel) (by decide +kernel)
/-- Duchy.find -/
def syt_848 : CO := (66, 1, [(0, 0, 0, 0, 0, 0), (0, 7, 0, 0, 0, 7), ((-9223372036854775808), 9223372036854775807, 0, (-9223372036854775808), 0, 9223372036854775807)], [(2, 4, 0), (0, 1, 0), (1, 2, 0)], [], [(1, 1, 0), (1, 2, 0)], [(some (0, 3, 0), [(0, 0, 0, 0, 0, 0), (1, 7, 0, 1, 0, 7), ((-9223372036854775808), 9223372036854775807, 0, (-9223372036854775808), 0, 9223372036854775807), (0, 6, 0, 0, 0, 6)], [], [(1, 0, 0)]), (some (0, 0, (-1)), [(0, 0, 0, 0, 0, 0), (0, 7, 0, 0, 0, 7), ((-9223372036854775808), 9223372036854775807, 0, (-9223372036854775808), 0, 9223372036854775807)], [], [])], [], [(3, 1, 1, ([(0, 0, 0, 0, 0, 0), (0, 7, 0, 0, 0, 7), ((-9223372036854775808), 9223372036854775807, 0, (-9223372036854775808), 0, 9223372036854775807), (0, 7, 0, 0, 0, 7)], [(0, (2, 4, 0)), (1, (0, 1, 0)), (2, (1, 2, 0)), (4, (0, 3, 0))], [], []), [(0, 4, 0)], [(3, 0)])], [], [(3, 0)])
set_option maxRecDepth 100000 in
theorem syc_848 : CoOk GG MM syt_848 := chk_ok (cs := []) (F := 4000) (fun _ h => absurd h List.not_mem_nil) (by decide +kernel) (by decide +kernel)
/-- Duchy.namedHere -/
def syt_849 : CO := (71, 2, [(0, 0, 0, 0, 0, 0), (0, 7, 0, 0, 0, 7)], [(2, 1, 0), (2, 4, 0), (0, 1, 0)], [], [(1, 2, 0)], [(some (0, 0, (-1)), [(0, 0, 0, 0, 0, 0), (0, 7, 0, 0, 0, 7)], [], []), (some (0, 2, 0), [(0, 0, 0, 0, 0, 0), (1, 7, 0, 1, 0, 7), (0, 6, 0, 0, 0, 6)], [], [(1, 0, 0)])], [(1, 10, 11)], [], [], [])
set_option maxRecDepth 100000 in
theorem syc_849 : CoOk GG MM syt_849 := chk_ok (cs := [syt_848, syt_24, syt_25]) (F := 4000) (List.forall_mem_cons.mpr ⟨syc_848, List.forall_mem_cons.mpr ⟨syc_24, List.forall_mem_cons.mpr ⟨syc_25, fun _ h => absurd h List.not_mem_nil⟩⟩⟩) (by decide +kernel) (by decide +kernel)
/-- Duchy.personHere -/
def syt_850 : CO := (73, 3, [(0, 0, 0, 0, 0, 0)], [(2, 3, 0), (2, 1, 0)], [], [], [(some (0, 1, 0), [(0, 0, 0, 0, 0, 0), (0, 6, 0, 0, 0, 6)], [], [(1, 0, 0)]), (some (0, 0, (-1)), [(0, 0, 0, 0, 0, 0)], [], [])], [(1, 10, 11)], [], [], [])
set_option maxRecDepth 100000 in
theorem syc_850 : CoOk GG MM syt_850 := chk_ok (cs := [syt_849]) (F := 4000) (List.forall_mem_cons.mpr ⟨syc_849, fun _ h => absurd h List.not_mem_nil⟩) (by decide +kernel) (by decide +kernel)
/-- Book.addLine -/
def syt_851 : CO := (49, 1, [(0, 0, 0, 0, 0, 0), (0, 6, 0, 0, 0, 6)], [(2, 105, 0), (0, 0, 40), (0, 1, 0), (0, 0, 0), (0, 0, 0)], [], [(1, 2, 0)], [(none, [(0, 0, 0, 0, 0, 0), (0, 6, 0, 0, 0, 6), (1, 40, 0, 1, 0, 40)], [(105, 4, (0, 2, 0))], [(2, 105, 4)])], [(105, 4, 4), (106, 0, 39), (107, 0, 39), (108, 0, 39), (109, 0, 39)], [], [(105, 4, 1)], [])
set_option maxRecDepth 100000 in
theorem syc_851 : CoOk GG MM syt_851 := chk_ok (cs := []) (F := 4000) (fun _ h => absurd h List.not_mem_nil) (by decide +kernel) (by decide +kernel)
/-- Book.addLine -/
def syt_852 : CO := (49, 1, [(0, 0, 0, 0, 0, 0), (0, 6, 0, 0, 0, 6)], [(2, 105, 0), (0, 0, 30), (0, 1, 0), (0, 0, 0), (0, 0, 0)], [], [(1, 2, 0)], [(none, [(0, 0, 0, 0, 0, 0), (0, 6, 0, 0, 0, 6), (1, 40, 0, 1, 0, 40)], [(105, 4, (0, 2, 0))], [(2, 105, 4)])], [(105, 4, 4), (106, 0, 39), (107, 0, 39), (108, 0, 39), (109, 0, 39)], [], [(105, 4, 1)], [])
set_option maxRecDepth 100000 in
theorem syc_852 : CoOk GG MM syt_852 := chk_ok (cs := []) (F := 4000) (fun _ h => absurd h List.not_mem_nil) (by decide +kernel) (by decide +kernel)
/-- Book.addLine -/
def syt_853 : CO := (49, 1, [(0, 0, 0, 0, 0, 0), (0, 6, 0, 0, 0, 6)], [(2, 105, 0), (0, 0, 20), (0, 1, 0), (0, 0, 0), (0, 0, 0)], [], [(1, 2, 0)], [(none, [(0, 0, 0, 0, 0, 0), (0, 6, 0, 0, 0, 6), (1, 40, 0, 1, 0, 40)], [(105, 4, (0, 2, 0))], [(2, 105, 4)])], [(105, 4, 4), (106, 0, 39), (107, 0, 39), (108, 0, 39), (109, 0, 39)], [], [(105, 4, 1)], [])
set_option maxRecDepth 100000 in
theorem syc_853 : CoOk GG MM syt_853 := chk_ok (cs := []) (F := 4000) (fun _ h => absurd h List.not_mem_nil) (by decide +kernel) (by decide +kernel)
/-- Book.addLine -/
def syt_854 : CO := (49, 1, [(0, 0, 0, 0, 0, 0), (0, 6, 0, 0, 0, 6), (0, 6, 0, 0, 0, 6)], [(2, 105, 0), (0, 0, 10), (0, 1, 0), (0, 2, 0), (0, 0, 0)], [], [(1, 2, 0), (1, 3, 0)], [(none, [(0, 0, 0, 0, 0, 0), (0, 6, 0, 0, 0, 6), (0, 6, 0, 0, 0, 6), (1, 40, 0, 1, 0, 40)], [(105, 4, (0, 3, 0))], [(2, 105, 4)])], [(105, 4, 4), (106, 0, 39), (107, 0, 39), (108, 0, 39), (109, 0, 39)], [], [(105, 4, 1)], [])
set_option maxRecDepth 100000 in
theorem syc_854 : CoOk GG MM syt_854 := chk_ok (cs := []) (F := 4000) (fun _ h => absurd h List.not_mem_nil) (by decide +kernel) (by decide +kernel)
/-- Book.readWeds -/
def syt_855 : CO := (55, 4, [(0, 0, 0, 0, 0, 0), (0, 6, 0, 0, 0, 6)], [(2, 105, 0), (2, 1, 0), (2, 3, 0), (0, 1, 0)], [], [(1, 3, 0)], [(some (0, 0, 0), [(0, 0, 0, 0, 0, 0), (0, 6, 0, 0, 0, 6), (0, 940, 0, 0, 0, 940)], [(1, 3, (0, 2, 0))], [(2, 1, 3)]), (some (0, 0, 1), [(0, 0, 0, 0, 0, 0), (0, 6, 0, 0, 0, 6), (0, 940, 0, 0, 0, 940), (1, 40, 0, 1, 0, 40)], [(1, 3, (0, 2, 0)), (105, 4, (0, 3, 0))], [(2, 1, 3), (2, 105, 4)])], [(1, 3, 8), (1, 10, 11), (105, 4, 4), (106, 0, 39), (107, 0, 39), (108, 0, 39), (109, 0, 39)], [], [], [])
set_option maxRecDepth 100000 in
theorem syc_855 : CoOk GG MM syt_855 := chk_ok (cs := [syt_854, syt_850, syt_21]) (F := 4000) (List.forall_mem_cons.mpr ⟨syc_854, List.forall_mem_cons.mpr ⟨syc_850, List.forall_mem_cons.mpr ⟨syc_21, fun _ h => absurd h List.not_mem_nil⟩⟩⟩) (by decide +kernel) (by decide +kernel)
/-- Duchy.find -/
def syt_856 : CO := (66, 1, [(0, 0, 0, 0, 0, 0), (0, 8, 0, 0, 0, 8), ((-9223372036854775808), 9223372036854775807, 0, (-9223372036854775808), 0, 9223372036854775807)], [(2, 9, 0), (0, 1, 0), (1, 2, 0)], [], [(1, 1, 0), (1, 2, 0)], [(some (0, 3, 0), [(0, 0, 0, 0, 0, 0), (1, 8, 0, 1, 0, 8), ((-9223372036854775808), 9223372036854775807, 0, (-9223372036854775808), 0, 9223372036854775807), (0, 7, 0, 0, 0, 7)], [], [(1, 0, 0)]), (some (0, 0, (-1)), [(0, 0, 0, 0, 0, 0), (0, 8, 0, 0, 0, 8), ((-9223372036854775808), 9223372036854775807, 0, (-9223372036854775808), 0, 9223372036854775807)], [], [])], [], [(3, 1, 1, ([(0, 0, 0, 0, 0, 0), (0, 8, 0, 0, 0, 8), ((-9223372036854775808), 9223372036854775807, 0, (-9223372036854775808), 0, 9223372036854775807), (0, 8, 0, 0, 0, 8)], [(0, (2, 9, 0)), (1, (0, 1, 0)), (2, (1, 2, 0)), (4, (0, 3, 0))], [], []), [(0, 4, 0)], [(3, 0)])], [], [(3, 0)])
set_option maxRecDepth 100000 in
theorem syc_856 : CoOk GG MM syt_856 := chk_ok (cs := []) (F := 4000) (fun _ h => absurd h List.not_mem_nil) (by decide +kernel) (by decide +kernel)
/-- Duchy.namedHere -/
def syt_857 : CO := (71, 2, [(0, 0, 0, 0, 0, 0), (0, 8, 0, 0, 0, 8)], [(2, 1, 0), (2, 9, 0), (0, 1, 0)], [], [(1, 2, 0)], [(some (0, 0, (-1)), [(0, 0, 0, 0, 0, 0), (0, 8, 0, 0, 0, 8)], [], []), (some (0, 2, 0), [(0, 0, 0, 0, 0, 0), (1, 8, 0, 1, 0, 8), (0, 7, 0, 0, 0, 7)], [], [(1, 0, 0)])], [(1, 10, 11)], [], [], [])
set_option maxRecDepth 100000 in
theorem syc_857 : CoOk GG MM syt_857 := chk_ok (cs := [syt_856, syt_24, syt_25]) (F := 4000) (List.forall_mem_cons.mpr ⟨syc_856, List.forall_mem_cons.mpr ⟨syc_24, List.forall_mem_cons.mpr ⟨syc_25, fun _ h => absurd h List.not_mem_nil⟩⟩⟩) (by decide +kernel) (by decide +kernel)
/-- Duchy.deedHere -/
def syt_858 : CO := (63, 3, [(0, 0, 0, 0, 0, 0)], [(2, 3, 0), (2, 1, 0)], [], [], [(some (0, 1, 0), [(0, 0, 0, 0, 0, 0), (0, 7, 0, 0, 0, 7)], [], [(1, 0, 0)]), (some (0, 0, (-1)), [(0, 0, 0, 0, 0, 0)], [], [])], [(1, 10, 11)], [], [], [])
set_option maxRecDepth 100000 in
theorem syc_858 : CoOk GG MM syt_858 := chk_ok (cs := [syt_857]) (F := 4000) (List.forall_mem_cons.mpr ⟨syc_857, fun _ h => absurd h List.not_mem_nil⟩) (by decide +kernel) (by decide +kernel)
/-- Book.addLine -/
def syt_859 : CO := (49, 1, [(0, 0, 0, 0, 0, 0), (0, 6, 0, 0, 0, 6), (0, 7, 0, 0, 0, 7)], [(2, 105, 0), (0, 0, 0), (0, 1, 0), (0, 2, 0), (0, 0, 2)], [], [(1, 2, 0), (1, 3, 0)], [(none, [(0, 0, 0, 0, 0, 0), (0, 6, 0, 0, 0, 6), (0, 7, 0, 0, 0, 7), (1, 40, 0, 1, 0, 40)], [(105, 4, (0, 3, 0))], [(2, 105, 4)])], [(105, 4, 4), (106, 0, 39), (107, 0, 39), (108, 0, 39), (109, 0, 39)], [], [(105, 4, 1)], [])
set_option maxRecDepth 100000 in
theorem syc_859 : CoOk GG MM syt_859 := chk_ok (cs := []) (F := 4000) (fun _ h => absurd h List.not_mem_nil) (by decide +kernel) (by decide +kernel)
/-- Book.addLine -/
def syt_860 : CO := (49, 1, [(0, 0, 0, 0, 0, 0), (0, 6, 0, 0, 0, 6), (0, 7, 0, 0, 0, 7)], [(2, 105, 0), (0, 0, 0), (0, 1, 0), (0, 2, 0), (0, 0, 1)], [], [(1, 2, 0), (1, 3, 0)], [(none, [(0, 0, 0, 0, 0, 0), (0, 6, 0, 0, 0, 6), (0, 7, 0, 0, 0, 7), (1, 40, 0, 1, 0, 40)], [(105, 4, (0, 3, 0))], [(2, 105, 4)])], [(105, 4, 4), (106, 0, 39), (107, 0, 39), (108, 0, 39), (109, 0, 39)], [], [(105, 4, 1)], [])
set_option maxRecDepth 100000 in
theorem syc_860 : CoOk GG MM syt_860 := chk_ok (cs := []) (F := 4000) (fun _ h => absurd h List.not_mem_nil) (by decide +kernel) (by decide +kernel)
/-- Book.addLine -/
def syt_861 : CO := (49, 1, [(0, 0, 0, 0, 0, 0), (0, 6, 0, 0, 0, 6), (0, 7, 0, 0, 0, 7)], [(2, 105, 0), (0, 0, 0), (0, 1, 0), (0, 2, 0), (0, 0, 0)], [], [(1, 2, 0), (1, 3, 0)], [(none, [(0, 0, 0, 0, 0, 0), (0, 6, 0, 0, 0, 6), (0, 7, 0, 0, 0, 7), (1, 40, 0, 1, 0, 40)], [(105, 4, (0, 3, 0))], [(2, 105, 4)])], [(105, 4, 4), (106, 0, 39), (107, 0, 39), (108, 0, 39), (109, 0, 39)], [], [(105, 4, 1)], [])
set_option maxRecDepth 100000 in
theorem syc_861 : CoOk GG MM syt_861 := chk_ok (cs := []) (F := 4000) (fun _ h => absurd h List.not_mem_nil) (by decide +kernel) (by decide +kernel)
/-- Book.readDoes -/
def syt_862 : CO := (53, 4, [(0, 0, 0, 0, 0, 0), (0, 6, 0, 0, 0, 6)], [(2, 105, 0), (2, 1, 0), (2, 3, 0), (0, 1, 0)], [], [(1, 3, 0)], [(some (0, 0, 0), [(0, 0, 0, 0, 0, 0), (0, 6, 0, 0, 0, 6), (0, 940, 0, 0, 0, 940)], [(1, 3, (0, 2, 0))], [(2, 1, 3)]), (some (0, 0, 1), [(0, 0, 0, 0, 0, 0), (0, 6, 0, 0, 0, 6), (0, 940, 0, 0, 0, 940), (1, 40, 0, 1, 0, 40)], [(1, 3, (0, 2, 0)), (105, 4, (0, 3, 0))], [(2, 1, 3), (2, 105, 4)])], [(1, 3, 8), (1, 10, 11), (105, 4, 4), (106, 0, 39), (107, 0, 39), (108, 0, 39), (109, 0, 39)], [], [], [])
set_option maxRecDepth 100000 in
theorem syc_862 : CoOk GG MM syt_862 := chk_ok (cs := [syt_859, syt_860, syt_861, syt_858, syt_21, syt_25]) (F := 4000) (List.forall_mem_cons.mpr ⟨syc_859, List.forall_mem_cons.mpr ⟨syc_860, List.forall_mem_cons.mpr ⟨syc_861, List.forall_mem_cons.mpr ⟨syc_858, List.forall_mem_cons.mpr ⟨syc_21, List.forall_mem_cons.mpr ⟨syc_25, fun _ h => absurd h List.not_mem_nil⟩⟩⟩⟩⟩⟩) (by decide +kernel) (by decide +kernel)
/-- Book.readAct -/
def syt_863 : CO := (51, 5, [(0, 0, 0, 0, 0, 0)], [(2, 105, 0), (2, 1, 0), (2, 3, 0)], [], [], [(some (0, 0, 0), [(0, 0, 0, 0, 0, 0)], [], []), (some (0, 0, 1), [(0, 0, 0, 0, 0, 0), (0, 940, 0, 0, 0, 940), (1, 40, 0, 1, 0, 40)], [(1, 3, (0, 1, 0)), (105, 4, (0, 2, 0))], [(2, 1, 3), (2, 105, 4)])], [(1, 3, 8), (1, 10, 11), (105, 4, 4), (106, 0, 39), (107, 0, 39), (108, 0, 39), (109, 0, 39)], [], [], [])
set_option maxRecDepth 100000 in
theorem syc_863 : CoOk GG MM syt_863 := chk_ok (cs := [syt_851, syt_852, syt_853, syt_862, syt_855, syt_850, syt_21, syt_25, syt_38]) (F := 4000) (List.forall_mem_cons.mpr ⟨syc_851, List.forall_mem_cons.mpr ⟨syc_852, List.forall_mem_cons.mpr ⟨syc_853, List.forall_mem_cons.mpr ⟨syc_862, List.forall_mem_cons.mpr ⟨syc_855, List.forall_mem_cons.mpr ⟨syc_850, List.forall_mem_cons.mpr ⟨syc_21, List.forall_mem_cons.mpr ⟨syc_25, List.forall_mem_cons.mpr ⟨syc_38, fun _ h => absurd h List.not_mem_nil⟩⟩⟩⟩⟩⟩⟩⟩⟩) (by decide +kernel) (by decide +kernel)
/-- Book.readFrom -/
def syt_864 : CO := (54, 6, [(0, 0, 0, 0, 0, 0)], [(2, 105, 0), (2, 1, 0), (2, 3, 0)], [], [], [(none, [(0, 0, 0, 0, 0, 0)], [], [])], [(1, 2, 11), (105, 4, 4), (106, 0, 39), (107, 0, 39), (108, 0, 39), (109, 0, 39)], [(14, 1, 1, ([(0, 0, 0, 0, 0, 0), (0, 48, 0, 0, 0, 48), (0, 940, 0, 0, 0, 940), (0, 60, 0, 0, 0, 60), (0, 40, 0, 0, 0, 40)], [(0, (2, 105, 0)), (1, (2, 1, 0)), (2, (2, 3, 0)), (3, (0, 1, 0))], [], [(1, 3, (0, 2, 0)), (1, 9, (0, 3, 0)), (105, 4, (0, 4, 0))]), [(0, 3, 0), (2, 1, 3), (2, 1, 9), (2, 105, 4)], [(14, 0)])], [], [(14, 0)])
set_option maxRecDepth 100000 in
theorem syc_864 : CoOk GG MM syt_864 := chk_ok (cs := [syt_863, syt_847, syt_844, syt_30]) (F := 4000) (List.forall_mem_cons.mpr ⟨syc_863, List.forall_mem_cons.mpr ⟨syc_847, List.forall_mem_cons.mpr ⟨syc_844, List.forall_mem_cons.mpr ⟨syc_30, fun _ h => absurd h List.not_mem_nil⟩⟩⟩⟩) (by decide +kernel) (by decide +kernel)
/-- Life.daysLeft -/
def syt_865 : CO := (95, 1, [(0, 0, 0, 0, 0, 0)], [(2, 31, 0)], [], [], [(some (0, 1, 0), [(0, 0, 0, 0, 0, 0), ((-2147483648), 2147483647, 0, (-2147483648), 0, 2147483647)], [], [(1, 0, 0)])], [], [], [], [])
set_option maxRecDepth 100000 in
theorem syc_865 : CoOk GG MM syt_865 := chk_ok (cs := []) (F := 4000) (fun _ h => absurd h List.not_mem_nil) (by decide +kernel) (by decide +kernel)
/-- Life.whyNot -/
def syt_866 : CO := (116, 2, [(0, 0, 0, 0, 0, 0), (11, 50, 0, 11, 0, 50), (0, 6, 0, 0, 0, 6), (0, 60, 0, 0, 0, 60), (0, 2, 0, 0, 0, 2)], [(2, 31, 0), (2, 3, 0), (0, 1, 0), (0, 2, 0), (0, 3, 0), (0, 4, 0)], [], [(1, 2, 0), (1, 3, 0), (1, 4, 0), (1, 5, 0)], [(some (0, 0, 1), [(0, 0, 0, 0, 0, 0), (11, 50, 0, 11, 0, 50), (0, 6, 0, 0, 0, 6), (0, 60, 0, 0, 0, 60), (0, 2, 0, 0, 0, 2)], [], []), (some (0, 0, 0), [(0, 0, 0, 0, 0, 0), (11, 50, 0, 11, 0, 50), (0, 6, 0, 0, 0, 6), (0, 60, 0, 0, 0, 60), (0, 2, 0, 0, 0, 2)], [], []), (some (0, 0, 2), [(0, 0, 0, 0, 0, 0), (30, 30, 0, 30, 0, 30), (0, 6, 0, 0, 0, 6), (0, 60, 0, 0, 0, 60), (0, 2, 0, 0, 0, 2)], [], [])], [], [], [], [])
set_option maxRecDepth 100000 in
theorem syc_866 : CoOk GG MM syt_866 := chk_ok (cs := [syt_865, syt_823, syt_827]) (F := 4000) (List.forall_mem_cons.mpr ⟨syc_865, List.forall_mem_cons.mpr ⟨syc_823, List.forall_mem_cons.mpr ⟨syc_827, fun _ h => absurd h List.not_mem_nil⟩⟩⟩) (by decide +kernel) (by decide +kernel)
/-- Life.passDays -/
def syt_867 : CO := (111, 3, [(0, 0, 0, 0, 0, 0), (0, 60, 0, 0, 0, 60)], [(2, 31, 0), (2, 3, 0), (0, 1, 0)], [], [(1, 2, 0)], [(none, [(0, 0, 0, 0, 0, 0), (0, 60, 0, 0, 0, 60)], [], [])], [(31, 0, 0), (32, 0, 6), (34, 0, 6), (37, 0, 6)], [(2, 1, 1, ([(0, 0, 0, 0, 0, 0), (0, 60, 0, 0, 0, 60), (0, 60, 0, 0, 0, 60)], [(0, (2, 31, 0)), (1, (2, 3, 0)), (2, (0, 1, 0)), (3, (0, 2, 0))], [], []), [(0, 3, 0)], [(2, 0)])], [], [(2, 0)])
set_option maxRecDepth 100000 in
theorem syc_867 : CoOk GG MM syt_867 := chk_ok (cs := [syt_836]) (F := 4000) (List.forall_mem_cons.mpr ⟨syc_836, fun _ h => absurd h List.not_mem_nil⟩) (by decide +kernel) (by decide +kernel)
/-- Life.perform -/
def syt_868 : CO := (112, 4, [(0, 0, 0, 0, 0, 0), (11, 50, 0, 11, 0, 50), (0, 6, 0, 0, 0, 6), (0, 60, 0, 0, 0, 60), (0, 2, 0, 0, 0, 2)], [(2, 31, 0), (2, 3, 0), (0, 1, 0), (0, 2, 0), (0, 3, 0), (0, 4, 0)], [], [(1, 2, 0), (1, 3, 0), (1, 4, 0), (1, 5, 0)], [(none, [(0, 0, 0, 0, 0, 0), (11, 50, 0, 11, 0, 50), (0, 6, 0, 0, 0, 6), (0, 60, 0, 0, 0, 60), (0, 2, 0, 0, 0, 2)], [], [])], [(31, 0, 0), (31, 3, 3), (32, 0, 6), (34, 0, 6), (36, 0, 6), (37, 0, 6)], [], [], [])
set_option maxRecDepth 100000 in
theorem syc_868 : CoOk GG MM syt_868 := chk_ok (cs := [syt_830, syt_867]) (F := 4000) (List.forall_mem_cons.mpr ⟨syc_830, List.forall_mem_cons.mpr ⟨syc_867, fun _ h => absurd h List.not_mem_nil⟩⟩) (by decide +kernel) (by decide +kernel)
/-- Life.whyNot -/
def syt_869 : CO := (116, 2, [(0, 0, 0, 0, 0, 0), (1, 9, 0, 1, 0, 9), (0, 6, 0, 0, 0, 6), (0, 60, 0, 0, 0, 60), (0, 2, 0, 0, 0, 2)], [(2, 31, 0), (2, 3, 0), (0, 1, 0), (0, 2, 0), (0, 3, 0), (0, 4, 0)], [], [(1, 2, 0), (1, 3, 0), (1, 4, 0), (1, 5, 0)], [(some (0, 0, 1), [(0, 0, 0, 0, 0, 0), (1, 9, 0, 1, 0, 9), (0, 6, 0, 0, 0, 6), (0, 60, 0, 0, 0, 60), (0, 2, 0, 0, 0, 2)], [], []), (some (0, 0, 0), [(0, 0, 0, 0, 0, 0), (1, 9, 0, 1, 0, 9), (0, 6, 0, 0, 0, 6), (0, 60, 0, 0, 0, 60), (0, 2, 0, 0, 0, 2)], [], [])], [], [], [], [])
set_option maxRecDepth 100000 in
theorem syc_869 : CoOk GG MM syt_869 := chk_ok (cs := [syt_865]) (F := 4000) (List.forall_mem_cons.mpr ⟨syc_865, fun _ h => absurd h List.not_mem_nil⟩) (by decide +kernel) (by decide +kernel)
/-- Life.perform -/
def syt_870 : CO := (112, 4, [(0, 0, 0, 0, 0, 0), (1, 9, 0, 1, 0, 9), (0, 6, 0, 0, 0, 6), (0, 60, 0, 0, 0, 60), (0, 2, 0, 0, 0, 2)], [(2, 31, 0), (2, 3, 0), (0, 1, 0), (0, 2, 0), (0, 3, 0), (0, 4, 0)], [], [(1, 2, 0), (1, 3, 0), (1, 4, 0), (1, 5, 0)], [(none, [(0, 0, 0, 0, 0, 0), (1, 9, 0, 1, 0, 9), (0, 6, 0, 0, 0, 6), (0, 60, 0, 0, 0, 60), (0, 2, 0, 0, 0, 2)], [], [])], [(31, 0, 0), (32, 0, 6), (34, 0, 6), (37, 0, 6)], [], [], [])
set_option maxRecDepth 100000 in
theorem syc_870 : CoOk GG MM syt_870 := chk_ok (cs := [syt_867]) (F := 4000) (List.forall_mem_cons.mpr ⟨syc_867, fun _ h => absurd h List.not_mem_nil⟩) (by decide +kernel) (by decide +kernel)
/-- Life.whyNot -/
def syt_871 : CO := (116, 3, [(0, 0, 0, 0, 0, 0), (10, 10, 0, 10, 0, 10), (0, 6, 0, 0, 0, 6), (0, 6, 0, 0, 0, 6), (0, 2, 0, 0, 0, 2)], [(2, 31, 0), (2, 3, 0), (0, 1, 0), (0, 2, 0), (0, 3, 0), (0, 4, 0)], [], [(1, 2, 0), (1, 3, 0), (1, 4, 0), (1, 5, 0)], [(some (0, 5, 0), [(0, 0, 0, 0, 0, 0), (10, 10, 0, 10, 0, 10), (0, 6, 0, 0, 0, 6), (0, 6, 0, 0, 0, 6), (0, 2, 0, 0, 0, 2), (2, 4, 0, 2, 0, 4)], [], [(1, 0, 0)]), (some (0, 0, 0), [(0, 0, 0, 0, 0, 0), (10, 10, 0, 10, 0, 10), (0, 6, 0, 0, 0, 6), (0, 6, 0, 0, 0, 6), (0, 2, 0, 0, 0, 2)], [], []), (some (0, 0, 1), [(0, 0, 0, 0, 0, 0), (10, 10, 0, 10, 0, 10), (0, 6, 0, 0, 0, 6), (0, 6, 0, 0, 0, 6), (0, 2, 0, 0, 0, 2)], [], [])], [], [], [], [])
set_option maxRecDepth 100000 in
theorem syc_871 : CoOk GG MM syt_871 := chk_ok (cs := [syt_828]) (F := 4000) (List.forall_mem_cons.mpr ⟨syc_828, fun _ h => absurd h List.not_mem_nil⟩) (by decide +kernel) (by decide +kernel)
/-- Life.perform -/
def syt_872 : CO := (112, 2, [(0, 0, 0, 0, 0, 0), (10, 10, 0, 10, 0, 10), (0, 6, 0, 0, 0, 6), (0, 6, 0, 0, 0, 6), (0, 2, 0, 0, 0, 2)], [(2, 31, 0), (2, 3, 0), (0, 1, 0), (0, 2, 0), (0, 3, 0), (0, 4, 0)], [], [(1, 2, 0), (1, 3, 0), (1, 4, 0), (1, 5, 0)], [(none, [(0, 0, 0, 0, 0, 0), (10, 10, 0, 10, 0, 10), (0, 6, 0, 0, 0, 6), (0, 6, 0, 0, 0, 6), (0, 2, 0, 0, 0, 2)], [], [])], [(36, 0, 6)], [], [], [])
set_option maxRecDepth 100000 in
theorem syc_872 : CoOk GG MM syt_872 := chk_ok (cs := [syt_829]) (F := 4000) (List.forall_mem_cons.mpr ⟨syc_829, fun _ h => absurd h List.not_mem_nil⟩) (by decide +kernel) (by decide +kernel)
/-- Life.whyNot -/
def syt_873 : CO := (116, 4, [(0, 0, 0, 0, 0, 0), (0, 0, 0, 0, 0, 0), (0, 6, 0, 0, 0, 6), (0, 7, 0, 0, 0, 7), (0, 2, 0, 0, 0, 2)], [(2, 31, 0), (2, 3, 0), (0, 1, 0), (0, 2, 0), (0, 3, 0), (0, 4, 0)], [], [(1, 2, 0), (1, 3, 0), (1, 4, 0), (1, 5, 0)], [(some (0, 0, 1), [(0, 0, 0, 0, 0, 0), (0, 0, 0, 0, 0, 0), (0, 6, 0, 0, 0, 6), (0, 7, 0, 0, 0, 7), (0, 2, 0, 0, 0, 2)], [], []), (some (0, 0, 0), [(0, 0, 0, 0, 0, 0), (0, 0, 0, 0, 0, 0), (0, 6, 0, 0, 0, 6), (0, 7, 0, 0, 0, 7), (0, 2, 0, 0, 0, 2)], [], []), (some (0, 5, 0), [(0, 0, 0, 0, 0, 0), (0, 0, 0, 0, 0, 0), (0, 6, 0, 0, 0, 6), (0, 7, 0, 0, 0, 7), (0, 2, 0, 0, 0, 2), (2, 5, 0, 2, 0, 5)], [], [(1, 0, 0)])], [], [], [], [])
set_option maxRecDepth 100000 in
theorem syc_873 : CoOk GG MM syt_873 := chk_ok (cs := [syt_824]) (F := 4000) (List.forall_mem_cons.mpr ⟨syc_824, fun _ h => absurd h List.not_mem_nil⟩) (by decide +kernel) (by decide +kernel)
/-- Life.perform -/
def syt_874 : CO := (112, 5, [(0, 0, 0, 0, 0, 0), (0, 0, 0, 0, 0, 0), (0, 6, 0, 0, 0, 6), (0, 7, 0, 0, 0, 7), (0, 2, 0, 0, 0, 2)], [(2, 31, 0), (2, 3, 0), (0, 1, 0), (0, 2, 0), (0, 3, 0), (0, 4, 0)], [], [(1, 2, 0), (1, 3, 0), (1, 4, 0), (1, 5, 0)], [(none, [(0, 0, 0, 0, 0, 0), (0, 0, 0, 0, 0, 0), (0, 6, 0, 0, 0, 6), (0, 7, 0, 0, 0, 7), (0, 2, 0, 0, 0, 2)], [], [])], [(31, 1, 2), (32, 0, 6), (33, 0, 6), (34, 0, 6), (35, 0, 6), (37, 0, 6), (38, 0, 7)], [], [], [])
set_option maxRecDepth 100000 in
theorem syc_874 : CoOk GG MM syt_874 := chk_ok (cs := [syt_834]) (F := 4000) (List.forall_mem_cons.mpr ⟨syc_834, fun _ h => absurd h List.not_mem_nil⟩) (by decide +kernel) (by decide +kernel)
/-- Book.liveIn -/
def syl_875_0 : List LB := [(17, 1, 0, ([(0, 0, 0, 0, 0, 0)], [(0, (2, 105, 0)), (1, (2, 31, 0)), (2, (2, 3, 0)), (3, (0, 0, 0))], [], []), [], [(17, 1)])]
def syl_875_1 : List LB := [(17, 2, 0, ([(0, 0, 0, 0, 0, 0), (1, 40, 0, 1, 0, 40)], [(0, (2, 105, 0)), (1, (2, 31, 0)), (2, (2, 3, 0)), (3, (0, 0, 1))], [], [(105, 4, (0, 1, 0))]), [(2, 105, 4)], [(17, 2)])]
def syl_875_2 : List LB := [(17, 3, 0, ([(0, 0, 0, 0, 0, 0), (2, 40, 0, 2, 0, 40)], [(0, (2, 105, 0)), (1, (2, 31, 0)), (2, (2, 3, 0)), (3, (0, 0, 2))], [], [(105, 4, (0, 1, 0))]), [(2, 105, 4)], [(17, 3)])]
def syl_875_3 : List LB := [(17, 4, 0, ([(0, 0, 0, 0, 0, 0), (3, 40, 0, 3, 0, 40)], [(0, (2, 105, 0)), (1, (2, 31, 0)), (2, (2, 3, 0)), (3, (0, 0, 3))], [], [(105, 4, (0, 1, 0))]), [(2, 105, 4)], [(17, 4)])]
def syl_875_4 : List LB := [(17, 5, 0, ([(0, 0, 0, 0, 0, 0), (4, 40, 0, 4, 0, 40)], [(0, (2, 105, 0)), (1, (2, 31, 0)), (2, (2, 3, 0)), (3, (0, 0, 4))], [], [(105, 4, (0, 1, 0))]), [(2, 105, 4)], [(17, 5)])]
def syl_875_5 : List LB := [(17, 6, 0, ([(0, 0, 0, 0, 0, 0), (5, 40, 0, 5, 0, 40)], [(0, (2, 105, 0)), (1, (2, 31, 0)), (2, (2, 3, 0)), (3, (0, 0, 5))], [], [(105, 4, (0, 1, 0))]), [(2, 105, 4)], [(17, 6)])]
def syl_875_6 : List LB := [(17, 7, 0, ([(0, 0, 0, 0, 0, 0), (6, 40, 0, 6, 0, 40)], [(0, (2, 105, 0)), (1, (2, 31, 0)), (2, (2, 3, 0)), (3, (0, 0, 6))], [], [(105, 4, (0, 1, 0))]), [(2, 105, 4)], [(17, 7)])]
def syl_875_7 : List LB := [(17, 8, 0, ([(0, 0, 0, 0, 0, 0), (7, 40, 0, 7, 0, 40)], [(0, (2, 105, 0)), (1, (2, 31, 0)), (2, (2, 3, 0)), (3, (0, 0, 7))], [], [(105, 4, (0, 1, 0))]), [(2, 105, 4)], [(17, 8)])]
def syl_875_8 : List LB := [(17, 9, 0, ([(0, 0, 0, 0, 0, 0), (8, 40, 0, 8, 0, 40)], [(0, (2, 105, 0)), (1, (2, 31, 0)), (2, (2, 3, 0)), (3, (0, 0, 8))], [], [(105, 4, (0, 1, 0))]), [(2, 105, 4)], [(17, 9)])]
def syl_875_9 : List LB := [(17, 10, 0, ([(0, 0, 0, 0, 0, 0), (9, 40, 0, 9, 0, 40)], [(0, (2, 105, 0)), (1, (2, 31, 0)), (2, (2, 3, 0)), (3, (0, 0, 9))], [], [(105, 4, (0, 1, 0))]), [(2, 105, 4)], [(17, 10)])]
def syl_875_10 : List LB := [(17, 11, 0, ([(0, 0, 0, 0, 0, 0), (10, 40, 0, 10, 0, 40)], [(0, (2, 105, 0)), (1, (2, 31, 0)), (2, (2, 3, 0)), (3, (0, 0, 10))], [], [(105, 4, (0, 1, 0))]), [(2, 105, 4)], [(17, 11)])]
def syl_875_11 : List LB := [(17, 12, 0, ([(0, 0, 0, 0, 0, 0), (11, 40, 0, 11, 0, 40)], [(0, (2, 105, 0)), (1, (2, 31, 0)), (2, (2, 3, 0)), (3, (0, 0, 11))], [], [(105, 4, (0, 1, 0))]), [(2, 105, 4)], [(17, 12)])]
def syl_875_12 : List LB := [(17, 13, 0, ([(0, 0, 0, 0, 0, 0), (12, 40, 0, 12, 0, 40)], [(0, (2, 105, 0)), (1, (2, 31, 0)), (2, (2, 3, 0)), (3, (0, 0, 12))], [], [(105, 4, (0, 1, 0))]), [(2, 105, 4)], [(17, 13)])]
def syl_875_13 : List LB := [(17, 14, 0, ([(0, 0, 0, 0, 0, 0), (13, 40, 0, 13, 0, 40)], [(0, (2, 105, 0)), (1, (2, 31, 0)), (2, (2, 3, 0)), (3, (0, 0, 13))], [], [(105, 4, (0, 1, 0))]), [(2, 105, 4)], [(17, 14)])]
def syl_875_14 : List LB := [(17, 15, 0, ([(0, 0, 0, 0, 0, 0), (14, 40, 0, 14, 0, 40)], [(0, (2, 105, 0)), (1, (2, 31, 0)), (2, (2, 3, 0)), (3, (0, 0, 14))], [], [(105, 4, (0, 1, 0))]), [(2, 105, 4)], [(17, 15)])]
def syl_875_15 : List LB := [(17, 16, 0, ([(0, 0, 0, 0, 0, 0), (15, 40, 0, 15, 0, 40)], [(0, (2, 105, 0)), (1, (2, 31, 0)), (2, (2, 3, 0)), (3, (0, 0, 15))], [], [(105, 4, (0, 1, 0))]), [(2, 105, 4)], [(17, 16)])]
def syl_875_16 : List LB := [(17, 17, 0, ([(0, 0, 0, 0, 0, 0), (16, 40, 0, 16, 0, 40)], [(0, (2, 105, 0)), (1, (2, 31, 0)), (2, (2, 3, 0)), (3, (0, 0, 16))], [], [(105, 4, (0, 1, 0))]), [(2, 105, 4)], [(17, 17)])]
def syl_875_17 : List LB := [(17, 18, 0, ([(0, 0, 0, 0, 0, 0), (17, 40, 0, 17, 0, 40)], [(0, (2, 105, 0)), (1, (2, 31, 0)), (2, (2, 3, 0)), (3, (0, 0, 17))], [], [(105, 4, (0, 1, 0))]), [(2, 105, 4)], [(17, 18)])]
def syl_875_18 : List LB := [(17, 19, 0, ([(0, 0, 0, 0, 0, 0), (18, 40, 0, 18, 0, 40)], [(0, (2, 105, 0)), (1, (2, 31, 0)), (2, (2, 3, 0)), (3, (0, 0, 18))], [], [(105, 4, (0, 1, 0))]), [(2, 105, 4)], [(17, 19)])]
def syl_875_19 : List LB := [(17, 20, 0, ([(0, 0, 0, 0, 0, 0), (19, 40, 0, 19, 0, 40)], [(0, (2, 105, 0)), (1, (2, 31, 0)), (2, (2, 3, 0)), (3, (0, 0, 19))], [], [(105, 4, (0, 1, 0))]), [(2, 105, 4)], [(17, 20)])]
def syl_875_20 : List LB := [(17, 21, 0, ([(0, 0, 0, 0, 0, 0), (20, 40, 0, 20, 0, 40)], [(0, (2, 105, 0)), (1, (2, 31, 0)), (2, (2, 3, 0)), (3, (0, 0, 20))], [], [(105, 4, (0, 1, 0))]), [(2, 105, 4)], [(17, 21)])]
def syl_875_21 : List LB := [(17, 22, 0, ([(0, 0, 0, 0, 0, 0), (21, 40, 0, 21, 0, 40)], [(0, (2, 105, 0)), (1, (2, 31, 0)), (2, (2, 3, 0)), (3, (0, 0, 21))], [], [(105, 4, (0, 1, 0))]), [(2, 105, 4)], [(17, 22)])]
def syl_875_22 : List LB := [(17, 23, 0, ([(0, 0, 0, 0, 0, 0), (22, 40, 0, 22, 0, 40)], [(0, (2, 105, 0)), (1, (2, 31, 0)), (2, (2, 3, 0)), (3, (0, 0, 22))], [], [(105, 4, (0, 1, 0))]), [(2, 105, 4)], [(17, 23)])]
def syl_875_23 : List LB := [(17, 24, 0, ([(0, 0, 0, 0, 0, 0), (23, 40, 0, 23, 0, 40)], [(0, (2, 105, 0)), (1, (2, 31, 0)), (2, (2, 3, 0)), (3, (0, 0, 23))], [], [(105, 4, (0, 1, 0))]), [(2, 105, 4)], [(17, 24)])]
def syl_875_24 : List LB := [(17, 25, 0, ([(0, 0, 0, 0, 0, 0), (24, 40, 0, 24, 0, 40)], [(0, (2, 105, 0)), (1, (2, 31, 0)), (2, (2, 3, 0)), (3, (0, 0, 24))], [], [(105, 4, (0, 1, 0))]), [(2, 105, 4)], [(17, 25)])]
def syl_875_25 : List LB := [(17, 26, 0, ([(0, 0, 0, 0, 0, 0), (25, 40, 0, 25, 0, 40)], [(0, (2, 105, 0)), (1, (2, 31, 0)), (2, (2, 3, 0)), (3, (0, 0, 25))], [], [(105, 4, (0, 1, 0))]), [(2, 105, 4)], [(17, 26)])]
def syl_875_26 : List LB := [(17, 27, 0, ([(0, 0, 0, 0, 0, 0), (26, 40, 0, 26, 0, 40)], [(0, (2, 105, 0)), (1, (2, 31, 0)), (2, (2, 3, 0)), (3, (0, 0, 26))], [], [(105, 4, (0, 1, 0))]), [(2, 105, 4)], [(17, 27)])]
def syl_875_27 : List LB := [(17, 28, 0, ([(0, 0, 0, 0, 0, 0), (27, 40, 0, 27, 0, 40)], [(0, (2, 105, 0)), (1, (2, 31, 0)), (2, (2, 3, 0)), (3, (0, 0, 27))], [], [(105, 4, (0, 1, 0))]), [(2, 105, 4)], [(17, 28)])]
def syl_875_28 : List LB := [(17, 29, 0, ([(0, 0, 0, 0, 0, 0), (28, 40, 0, 28, 0, 40)], [(0, (2, 105, 0)), (1, (2, 31, 0)), (2, (2, 3, 0)), (3, (0, 0, 28))], [], [(105, 4, (0, 1, 0))]), [(2, 105, 4)], [(17, 29)])]
def syl_875_29 : List LB := [(17, 30, 0, ([(0, 0, 0, 0, 0, 0), (29, 40, 0, 29, 0, 40)], [(0, (2, 105, 0)), (1, (2, 31, 0)), (2, (2, 3, 0)), (3, (0, 0, 29))], [], [(105, 4, (0, 1, 0))]), [(2, 105, 4)], [(17, 30)])]
def syl_875_30 : List LB := [(17, 31, 0, ([(0, 0, 0, 0, 0, 0), (30, 40, 0, 30, 0, 40)], [(0, (2, 105, 0)), (1, (2, 31, 0)), (2, (2, 3, 0)), (3, (0, 0, 30))], [], [(105, 4, (0, 1, 0))]), [(2, 105, 4)], [(17, 31)])]
def syl_875_31 : List LB := [(17, 32, 0, ([(0, 0, 0, 0, 0, 0), (31, 40, 0, 31, 0, 40)], [(0, (2, 105, 0)), (1, (2, 31, 0)), (2, (2, 3, 0)), (3, (0, 0, 31))], [], [(105, 4, (0, 1, 0))]), [(2, 105, 4)], [(17, 32)])]
def syl_875_32 : List LB := [(17, 33, 0, ([(0, 0, 0, 0, 0, 0), (32, 40, 0, 32, 0, 40)], [(0, (2, 105, 0)), (1, (2, 31, 0)), (2, (2, 3, 0)), (3, (0, 0, 32))], [], [(105, 4, (0, 1, 0))]), [(2, 105, 4)], [(17, 33)])]
def syl_875_33 : List LB := [(17, 34, 0, ([(0, 0, 0, 0, 0, 0), (33, 40, 0, 33, 0, 40)], [(0, (2, 105, 0)), (1, (2, 31, 0)), (2, (2, 3, 0)), (3, (0, 0, 33))], [], [(105, 4, (0, 1, 0))]), [(2, 105, 4)], [(17, 34)])]
def syl_875_34 : List LB := [(17, 35, 0, ([(0, 0, 0, 0, 0, 0), (34, 40, 0, 34, 0, 40)], [(0, (2, 105, 0)), (1, (2, 31, 0)), (2, (2, 3, 0)), (3, (0, 0, 34))], [], [(105, 4, (0, 1, 0))]), [(2, 105, 4)], [(17, 35)])]
def syl_875_35 : List LB := [(17, 36, 0, ([(0, 0, 0, 0, 0, 0), (35, 40, 0, 35, 0, 40)], [(0, (2, 105, 0)), (1, (2, 31, 0)), (2, (2, 3, 0)), (3, (0, 0, 35))], [], [(105, 4, (0, 1, 0))]), [(2, 105, 4)], [(17, 36)])]
def syl_875_36 : List LB := [(17, 37, 0, ([(0, 0, 0, 0, 0, 0), (36, 40, 0, 36, 0, 40)], [(0, (2, 105, 0)), (1, (2, 31, 0)), (2, (2, 3, 0)), (3, (0, 0, 36))], [], [(105, 4, (0, 1, 0))]), [(2, 105, 4)], [(17, 37)])]
def syl_875_37 : List LB := [(17, 38, 0, ([(0, 0, 0, 0, 0, 0), (37, 40, 0, 37, 0, 40)], [(0, (2, 105, 0)), (1, (2, 31, 0)), (2, (2, 3, 0)), (3, (0, 0, 37))], [], [(105, 4, (0, 1, 0))]), [(2, 105, 4)], [(17, 38)])]
def syl_875_38 : List LB := [(17, 39, 0, ([(0, 0, 0, 0, 0, 0), (38, 40, 0, 38, 0, 40)], [(0, (2, 105, 0)), (1, (2, 31, 0)), (2, (2, 3, 0)), (3, (0, 0, 38))], [], [(105, 4, (0, 1, 0))]), [(2, 105, 4)], [(17, 39)])]
def syl_875_39 : List LB := [(17, 40, 0, ([(0, 0, 0, 0, 0, 0), (39, 40, 0, 39, 0, 40)], [(0, (2, 105, 0)), (1, (2, 31, 0)), (2, (2, 3, 0)), (3, (0, 0, 39))], [], [(105, 4, (0, 1, 0))]), [(2, 105, 4)], [(17, 40)]),
  (17, 41, 0, ([(0, 0, 0, 0, 0, 0), (40, 40, 0, 40, 0, 40)], [(0, (2, 105, 0)), (1, (2, 31, 0)), (2, (2, 3, 0)), (3, (0, 0, 40))], [], [(105, 4, (0, 1, 0))]), [(2, 105, 4)], [])]
def syt_875 : CO := (50, 6, [(0, 0, 0, 0, 0, 0)], [(2, 105, 0), (2, 31, 0), (2, 3, 0)], [], [], [(none, [(0, 0, 0, 0, 0, 0), (0, 40, 0, 0, 0, 40)], [(105, 4, (0, 1, 0))], [(2, 105, 4)])], [(31, 0, 3), (32, 0, 6), (33, 0, 6), (34, 0, 6), (35, 0, 6), (36, 0, 6), (37, 0, 6), (38, 0, 7), (105, 5, 10)], (syl_875_0 ++ (syl_875_1 ++ (syl_875_2 ++ (syl_875_3 ++ (syl_875_4 ++ (syl_875_5 ++ (syl_875_6 ++ (syl_875_7 ++ (syl_875_8 ++ (syl_875_9 ++ (syl_875_10 ++ (syl_875_11 ++ (syl_875_12 ++ (syl_875_13 ++ (syl_875_14 ++ (syl_875_15 ++ (syl_875_16 ++ (syl_875_17 ++ (syl_875_18 ++ (syl_875_19 ++ (syl_875_20 ++ (syl_875_21 ++ (syl_875_22 ++ (syl_875_23 ++ (syl_875_24 ++ (syl_875_25 ++ (syl_875_26 ++ (syl_875_27 ++ (syl_875_28 ++ (syl_875_29 ++ (syl_875_30 ++ (syl_875_31 ++ (syl_875_32 ++ (syl_875_33 ++ (syl_875_34 ++ (syl_875_35 ++ (syl_875_36 ++ (syl_875_37 ++ (syl_875_38 ++ (syl_875_39)))))))))))))))))))))))))))))))))))))))), [], [(17, 0)])
set_option maxRecDepth 100000 in
theorem syp_875_0 : runL MM GG [syt_831, syt_872, syt_874, syt_870, syt_868, syt_871, syt_873, syt_869, syt_866] syt_875 4000 0 syl_875_0 = true := by decide +kernel
set_option maxRecDepth 100000 in
theorem syp_875_1 : runL MM GG [syt_831, syt_872, syt_874, syt_870, syt_868, syt_871, syt_873, syt_869, syt_866] syt_875 4000 1 syl_875_1 = true := by decide +kernel
set_option maxRecDepth 100000 in
theorem syp_875_2 : runL MM GG [syt_831, syt_872, syt_874, syt_870, syt_868, syt_871, syt_873, syt_869, syt_866] syt_875 4000 2 syl_875_2 = true := by decide +kernel
set_option maxRecDepth 100000 in
theorem syp_875_3 : runL MM GG [syt_831, syt_872, syt_874, syt_870, syt_868, syt_871, syt_873, syt_869, syt_866] syt_875 4000 3 syl_875_3 = true := by decide +kernel
set_option maxRecDepth 100000 in
theorem syp_875_4 : runL MM GG [syt_831, syt_872, syt_874, syt_870, syt_868, syt_871, syt_873, syt_869, syt_866] syt_875 4000 4 syl_875_4 = true := by decide +kernel
set_option maxRecDepth 100000 in
theorem syp_875_5 : runL MM GG [syt_831, syt_872, syt_874, syt_870, syt_868, syt_871, syt_873, syt_869, syt_866] syt_875 4000 5 syl_875_5 = true := by decide +kernel
set_option maxRecDepth 100000 in
theorem syp_875_6 : runL MM GG [syt_831, syt_872, syt_874, syt_870, syt_868, syt_871, syt_873, syt_869, syt_866] syt_875 4000 6 syl_875_6 = true := by decide +kernel
set_option maxRecDepth 100000 in
theorem syp_875_7 : runL MM GG [syt_831, syt_872, syt_874, syt_870, syt_868, syt_871, syt_873, syt_869, syt_866] syt_875 4000 7 syl_875_7 = true := by decide +kernel
set_option maxRecDepth 100000 in
theorem syp_875_8 : runL MM GG [syt_831, syt_872, syt_874, syt_870, syt_868, syt_871, syt_873, syt_869, syt_866] syt_875 4000 8 syl_875_8 = true := by decide +kernel
set_option maxRecDepth 100000 in
theorem syp_875_9 : runL MM GG [syt_831, syt_872, syt_874, syt_870, syt_868, syt_871, syt_873, syt_869, syt_866] syt_875 4000 9 syl_875_9 = true := by decide +kernel
set_option maxRecDepth 100000 in
theorem syp_875_10 : runL MM GG [syt_831, syt_872, syt_874, syt_870, syt_868, syt_871, syt_873, syt_869, syt_866] syt_875 4000 10 syl_875_10 = true := by decide +kernel
set_option maxRecDepth 100000 in
theorem syp_875_11 : runL MM GG [syt_831, syt_872, syt_874, syt_870, syt_868, syt_871, syt_873, syt_869, syt_866] syt_875 4000 11 syl_875_11 = true := by decide +kernel
set_option maxRecDepth 100000 in
theorem syp_875_12 : runL MM GG [syt_831, syt_872, syt_874, syt_870, syt_868, syt_871, syt_873, syt_869, syt_866] syt_875 4000 12 syl_875_12 = true := by decide +kernel
set_option maxRecDepth 100000 in
theorem syp_875_13 : runL MM GG [syt_831, syt_872, syt_874, syt_870, syt_868, syt_871, syt_873, syt_869, syt_866] syt_875 4000 13 syl_875_13 = true := by decide +kernel
set_option maxRecDepth 100000 in
theorem syp_875_14 : runL MM GG [syt_831, syt_872, syt_874, syt_870, syt_868, syt_871, syt_873, syt_869, syt_866] syt_875 4000 14 syl_875_14 = true := by decide +kernel
set_option maxRecDepth 100000 in
theorem syp_875_15 : runL MM GG [syt_831, syt_872, syt_874, syt_870, syt_868, syt_871, syt_873, syt_869, syt_866] syt_875 4000 15 syl_875_15 = true := by decide +kernel
set_option maxRecDepth 100000 in
theorem syp_875_16 : runL MM GG [syt_831, syt_872, syt_874, syt_870, syt_868, syt_871, syt_873, syt_869, syt_866] syt_875 4000 16 syl_875_16 = true := by decide +kernel
set_option maxRecDepth 100000 in
theorem syp_875_17 : runL MM GG [syt_831, syt_872, syt_874, syt_870, syt_868, syt_871, syt_873, syt_869, syt_866] syt_875 4000 17 syl_875_17 = true := by decide +kernel
set_option maxRecDepth 100000 in
theorem syp_875_18 : runL MM GG [syt_831, syt_872, syt_874, syt_870, syt_868, syt_871, syt_873, syt_869, syt_866] syt_875 4000 18 syl_875_18 = true := by decide +kernel
set_option maxRecDepth 100000 in
theorem syp_875_19 : runL MM GG [syt_831, syt_872, syt_874, syt_870, syt_868, syt_871, syt_873, syt_869, syt_866] syt_875 4000 19 syl_875_19 = true := by decide +kernel
set_option maxRecDepth 100000 in
theorem syp_875_20 : runL MM GG [syt_831, syt_872, syt_874, syt_870, syt_868, syt_871, syt_873, syt_869, syt_866] syt_875 4000 20 syl_875_20 = true := by decide +kernel
set_option maxRecDepth 100000 in
theorem syp_875_21 : runL MM GG [syt_831, syt_872, syt_874, syt_870, syt_868, syt_871, syt_873, syt_869, syt_866] syt_875 4000 21 syl_875_21 = true := by decide +kernel
set_option maxRecDepth 100000 in
theorem syp_875_22 : runL MM GG [syt_831, syt_872, syt_874, syt_870, syt_868, syt_871, syt_873, syt_869, syt_866] syt_875 4000 22 syl_875_22 = true := by decide +kernel
set_option maxRecDepth 100000 in
theorem syp_875_23 : runL MM GG [syt_831, syt_872, syt_874, syt_870, syt_868, syt_871, syt_873, syt_869, syt_866] syt_875 4000 23 syl_875_23 = true := by decide +kernel
set_option maxRecDepth 100000 in
theorem syp_875_24 : runL MM GG [syt_831, syt_872, syt_874, syt_870, syt_868, syt_871, syt_873, syt_869, syt_866] syt_875 4000 24 syl_875_24 = true := by decide +kernel
set_option maxRecDepth 100000 in
theorem syp_875_25 : runL MM GG [syt_831, syt_872, syt_874, syt_870, syt_868, syt_871, syt_873, syt_869, syt_866] syt_875 4000 25 syl_875_25 = true := by decide +kernel
set_option maxRecDepth 100000 in
theorem syp_875_26 : runL MM GG [syt_831, syt_872, syt_874, syt_870, syt_868, syt_871, syt_873, syt_869, syt_866] syt_875 4000 26 syl_875_26 = true := by decide +kernel
set_option maxRecDepth 100000 in
theorem syp_875_27 : runL MM GG [syt_831, syt_872, syt_874, syt_870, syt_868, syt_871, syt_873, syt_869, syt_866] syt_875 4000 27 syl_875_27 = true := by decide +kernel
set_option maxRecDepth 100000 in
theorem syp_875_28 : runL MM GG [syt_831, syt_872, syt_874, syt_870, syt_868, syt_871, syt_873, syt_869, syt_866] syt_875 4000 28 syl_875_28 = true := by decide +kernel
set_option maxRecDepth 100000 in
theorem syp_875_29 : runL MM GG [syt_831, syt_872, syt_874, syt_870, syt_868, syt_871, syt_873, syt_869, syt_866] syt_875 4000 29 syl_875_29 = true := by decide +kernel
set_option maxRecDepth 100000 in
theorem syp_875_30 : runL MM GG [syt_831, syt_872, syt_874, syt_870, syt_868, syt_871, syt_873, syt_869, syt_866] syt_875 4000 30 syl_875_30 = true := by decide +kernel
set_option maxRecDepth 100000 in
theorem syp_875_31 : runL MM GG [syt_831, syt_872, syt_874, syt_870, syt_868, syt_871, syt_873, syt_869, syt_866] syt_875 4000 31 syl_875_31 = true := by decide +kernel
set_option maxRecDepth 100000 in
theorem syp_875_32 : runL MM GG [syt_831, syt_872, syt_874, syt_870, syt_868, syt_871, syt_873, syt_869, syt_866] syt_875 4000 32 syl_875_32 = true := by decide +kernel
set_option maxRecDepth 100000 in
theorem syp_875_33 : runL MM GG [syt_831, syt_872, syt_874, syt_870, syt_868, syt_871, syt_873, syt_869, syt_866] syt_875 4000 33 syl_875_33 = true := by decide +kernel
set_option maxRecDepth 100000 in
theorem syp_875_34 : runL MM GG [syt_831, syt_872, syt_874, syt_870, syt_868, syt_871, syt_873, syt_869, syt_866] syt_875 4000 34 syl_875_34 = true := by decide +kernel
set_option maxRecDepth 100000 in
theorem syp_875_35 : runL MM GG [syt_831, syt_872, syt_874, syt_870, syt_868, syt_871, syt_873, syt_869, syt_866] syt_875 4000 35 syl_875_35 = true := by decide +kernel
set_option maxRecDepth 100000 in
theorem syp_875_36 : runL MM GG [syt_831, syt_872, syt_874, syt_870, syt_868, syt_871, syt_873, syt_869, syt_866] syt_875 4000 36 syl_875_36 = true := by decide +kernel
set_option maxRecDepth 100000 in
theorem syp_875_37 : runL MM GG [syt_831, syt_872, syt_874, syt_870, syt_868, syt_871, syt_873, syt_869, syt_866] syt_875 4000 37 syl_875_37 = true := by decide +kernel
set_option maxRecDepth 100000 in
theorem syp_875_38 : runL MM GG [syt_831, syt_872, syt_874, syt_870, syt_868, syt_871, syt_873, syt_869, syt_866] syt_875 4000 38 syl_875_38 = true := by decide +kernel
set_option maxRecDepth 100000 in
theorem syp_875_39 : runL MM GG [syt_831, syt_872, syt_874, syt_870, syt_868, syt_871, syt_873, syt_869, syt_866] syt_875 4000 39 syl_875_39 = true := by decide +kernel
set_option maxRecDepth 100000 in
theorem syc_875 : CoOk GG MM syt_875 := chk_ok (cs := [syt_831, syt_872, syt_874, syt_870, syt_868, syt_871, syt_873, syt_869, syt_866]) (F := 4000) (List.forall_mem_cons.mpr ⟨syc_831, List.forall_mem_cons.mpr ⟨syc_872, List.forall_mem_cons.mpr ⟨syc_874, List.forall_mem_cons.mpr ⟨syc_870, List.forall_mem_cons.mpr ⟨syc_868, List.forall_mem_cons.mpr ⟨syc_871, List.forall_mem_cons.mpr ⟨syc_873, List.forall_mem_cons.mpr ⟨syc_869, List.forall_mem_cons.mpr ⟨syc_866, fun _ h => absurd h List.not_mem_nil⟩⟩⟩⟩⟩⟩⟩⟩⟩) (by decide +kernel) (runL_app syp_875_0 (runL_app syp_875_1 (runL_app syp_875_2 (runL_app syp_875_3 (runL_app syp_875_4 (runL_app syp_875_5 (runL_app syp_875_6 (runL_app syp_875_7 (runL_app syp_875_8 (runL_app syp_875_9 (runL_app syp_875_10 (runL_app syp_875_11 (runL_app syp_875_12 (runL_app syp_875_13 (runL_app syp_875_14 (runL_app syp_875_15 (runL_app syp_875_16 (runL_app syp_875_17 (runL_app syp_875_18 (runL_app syp_875_19 (runL_app syp_875_20 (runL_app syp_875_21 (runL_app syp_875_22 (runL_app syp_875_23 (runL_app syp_875_24 (runL_app syp_875_25 (runL_app syp_875_26 (runL_app syp_875_27 (runL_app syp_875_28 (runL_app syp_875_29 (runL_app syp_875_30 (runL_app syp_875_31 (runL_app syp_875_32 (runL_app syp_875_33 (runL_app syp_875_34 (runL_app syp_875_35 (runL_app syp_875_36 (runL_app syp_875_37 (runL_app syp_875_38 (syp_875_39))))))))))))))))))))))))))))))))))))))))
