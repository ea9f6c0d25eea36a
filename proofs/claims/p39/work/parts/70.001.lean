/-! ===== contracts, inferred and printed by my program, checked here ===== -/
/-- M.begin -/
def syt_74 : CO := (176, 3, [(0, 0, 0, 0, 0, 0)], [(2, 180, 0), (0, 0, 900)], [], [], [(none, [(0, 0, 0, 0, 0, 0), (0, 940, 0, 0, 0, 940), (0, 940, 0, 0, 0, 940), (0, 3, 0, 0, 0, 3)], [(180, 2, (0, 0, 0)), (180, 3, (0, 1, 0)), (180, 5, (0, 2, 0)), (180, 7, (0, 3, 0))], [(2, 180, 3), (2, 180, 5), (2, 180, 7)]), (none, [(0, 0, 0, 0, 0, 0), (1, 940, 0, 1, 0, 940), (1, 900, 0, 1, 0, 900)], [(180, 2, (0, 0, 0)), (180, 3, (0, 1, 0)), (180, 5, (0, 2, 0)), (180, 7, (0, 0, 4))], [(2, 180, 3), (2, 180, 5)])], [(180, 0, 0), (180, 2, 10), (180, 12, 12)], [], [], [])
set_option maxRecDepth 100000 in
theorem syc_74 : CoOk GG MM syt_74 := chk_ok (cs := [syt_73, syt_52]) (F := 4000) (List.forall_mem_cons.mpr ⟨syc_73, List.forall_mem_cons.mpr ⟨syc_52, fun _ h => absurd h List.not_mem_nil⟩⟩) (by decide +kernel) (by decide +kernel)
/-- M.spelt -/
def syt_75 : CO := (279, 1, [(0, 0, 0, 0, 0, 0)], [(0, 0, 112), (0, 0, 101), (0, 0, 114), (0, 0, 115), (0, 0, 111), (0, 0, 110)], [], [], [(some (1, 1, 0), [(0, 0, 0, 0, 0, 0), (232608281, 232608281, 0, 232608281, 0, 232608281)], [], [(1, 0, 0)])], [], [], [], [])
set_option maxRecDepth 100000 in
theorem syc_75 : CoOk GG MM syt_75 := chk_ok (cs := []) (F := 4000) (fun _ h => absurd h List.not_mem_nil) (by decide +kernel) (by decide +kernel)
/-- M.wordOf -/
def syt_76 : CO := (293, 2, [(0, 0, 0, 0, 0, 0)], [(0, 0, 0)], [], [], [(some (1, 1, 0), [(0, 0, 0, 0, 0, 0), (232608281, 232608281, 0, 232608281, 0, 232608281)], [], [(1, 0, 0)])], [], [], [], [])
set_option maxRecDepth 100000 in
theorem syc_76 : CoOk GG MM syt_76 := chk_ok (cs := [syt_75]) (F := 4000) (List.forall_mem_cons.mpr ⟨syc_75, fun _ h => absurd h List.not_mem_nil⟩) (by decide +kernel) (by decide +kernel)
/-- M.isWord -/
def syt_77 : CO := (227, 3, [(0, 0, 0, 0, 0, 0), (0, 940, 0, 0, 0, 940), (1, 4, 0, 1, 0, 4)], [(2, 180, 0), (0, 0, 0)], [(180, 5, (0, 1, 0)), (180, 7, (0, 2, 0))], [(2, 180, 5), (2, 180, 7)], [(some (0, 0, 0), [(0, 0, 0, 0, 0, 0), (0, 940, 0, 0, 0, 940), (1, 4, 0, 1, 0, 4)], [(180, 5, (0, 1, 0)), (180, 7, (0, 2, 0))], []), (some (0, 0, 1), [(0, 0, 0, 0, 0, 0), (0, 940, 0, 0, 0, 940), (2, 2, 0, 2, 0, 2)], [(180, 5, (0, 1, 0)), (180, 7, (0, 2, 0))], [])], [], [], [], [])
set_option maxRecDepth 100000 in
theorem syc_77 : CoOk GG MM syt_77 := chk_ok (cs := [syt_76]) (F := 4000) (List.forall_mem_cons.mpr ⟨syc_76, fun _ h => absurd h List.not_mem_nil⟩) (by decide +kernel) (by decide +kernel)
/-- M.bad -/
def syt_78 : CO := (174, 1, [(0, 0, 0, 0, 0, 0), (0, 940, 0, 0, 0, 940), (2, 2, 0, 2, 0, 2)], [(2, 180, 0), (0, 0, 4)], [(180, 5, (0, 1, 0)), (180, 7, (0, 2, 0))], [(2, 180, 5), (2, 180, 7)], [(some (0, 0, 0), [(0, 0, 0, 0, 0, 0), (0, 940, 0, 0, 0, 940), (2, 2, 0, 2, 0, 2)], [(180, 5, (0, 1, 0)), (180, 7, (0, 2, 0))], [])], [(180, 10, 11)], [], [], [])
set_option maxRecDepth 100000 in
theorem syc_78 : CoOk GG MM syt_78 := chk_ok (cs := []) (F := 4000) (fun _ h => absurd h List.not_mem_nil) (by decide +kernel) (by decide +kernel)
/-- M.readFirst -/
def syt_79 : CO := (252, 3, [(0, 0, 0, 0, 0, 0), (0, 940, 0, 0, 0, 940), (2, 2, 0, 2, 0, 2)], [(2, 180, 0), (0, 0, 0), (0, 0, 7)], [(180, 5, (0, 1, 0)), (180, 7, (0, 2, 0))], [(2, 180, 5), (2, 180, 7)], [(some (0, 0, 0), [(0, 0, 0, 0, 0, 0), (0, 940, 0, 0, 0, 940), (2, 2, 0, 2, 0, 2), (7, 7, 0, 7, 0, 7)], [(180, 5, (0, 1, 0)), (180, 7, (0, 2, 0)), (183, 0, (0, 3, 0))], [(2, 183, 0)]), (some (0, 0, 1), [(0, 0, 0, 0, 0, 0), (0, 940, 0, 0, 0, 940), (2, 2, 0, 2, 0, 2), (0, 940, 1, 0, 0, 940), (0, 4, 0, 0, 0, 4), (0, 6, 0, 0, 0, 6)], [(180, 5, (0, 3, 0)), (180, 7, (0, 4, 0)), (183, 0, (0, 5, 0))], [(2, 180, 5), (2, 180, 7), (2, 183, 0)])], [(180, 5, 12)], [], [], [])
set_option maxRecDepth 100000 in
theorem syc_79 : CoOk GG MM syt_79 := chk_ok (cs := [syt_78, syt_73]) (F := 4000) (List.forall_mem_cons.mpr ⟨syc_78, List.forall_mem_cons.mpr ⟨syc_73, fun _ h => absurd h List.not_mem_nil⟩⟩) (by decide +kernel) (by decide +kernel)
/-- M.spelt -/
def syt_80 : CO := (279, 1, [(0, 0, 0, 0, 0, 0)], [(0, 0, 100), (0, 0, 101), (0, 0, 101), (0, 0, 100), (0, 0, 0), (0, 0, 0)], [], [], [(some (1, 1, 0), [(0, 0, 0, 0, 0, 0), (82516, 82516, 0, 82516, 0, 82516)], [], [(1, 0, 0)])], [], [], [], [])
set_option maxRecDepth 100000 in
theorem syc_80 : CoOk GG MM syt_80 := chk_ok (cs := []) (F := 4000) (fun _ h => absurd h List.not_mem_nil) (by decide +kernel) (by decide +kernel)
/-- M.wordOf -/
def syt_81 : CO := (293, 2, [(0, 0, 0, 0, 0, 0)], [(0, 0, 1)], [], [], [(some (1, 1, 0), [(0, 0, 0, 0, 0, 0), (82516, 82516, 0, 82516, 0, 82516)], [], [(1, 0, 0)])], [], [], [], [])
set_option maxRecDepth 100000 in
theorem syc_81 : CoOk GG MM syt_81 := chk_ok (cs := [syt_80]) (F := 4000) (List.forall_mem_cons.mpr ⟨syc_80, fun _ h => absurd h List.not_mem_nil⟩) (by decide +kernel) (by decide +kernel)
/-- M.spelt -/
def syt_82 : CO := (279, 1, [(0, 0, 0, 0, 0, 0)], [(0, 0, 98), (0, 0, 111), (0, 0, 116), (0, 0, 104), (0, 0, 0), (0, 0, 0)], [], [], [(some (1, 1, 0), [(0, 0, 0, 0, 0, 0), (50849, 50849, 0, 50849, 0, 50849)], [], [(1, 0, 0)])], [], [], [], [])
set_option maxRecDepth 100000 in
theorem syc_82 : CoOk GG MM syt_82 := chk_ok (cs := []) (F := 4000) (fun _ h => absurd h List.not_mem_nil) (by decide +kernel) (by decide +kernel)
/-- M.wordOf -/
def syt_83 : CO := (293, 2, [(0, 0, 0, 0, 0, 0)], [(0, 0, 2)], [], [], [(some (1, 1, 0), [(0, 0, 0, 0, 0, 0), (50849, 50849, 0, 50849, 0, 50849)], [], [(1, 0, 0)])], [], [], [], [])
set_option maxRecDepth 100000 in
theorem syc_83 : CoOk GG MM syt_83 := chk_ok (cs := [syt_82]) (F := 4000) (List.forall_mem_cons.mpr ⟨syc_82, fun _ h => absurd h List.not_mem_nil⟩) (by decide +kernel) (by decide +kernel)
/-- M.spelt -/
def syt_84 : CO := (279, 1, [(0, 0, 0, 0, 0, 0)], [(0, 0, 115), (0, 0, 101), (0, 0, 101), (0, 0, 115), (0, 0, 0), (0, 0, 0)], [], [], [(some (1, 1, 0), [(0, 0, 0, 0, 0, 0), (377776, 377776, 0, 377776, 0, 377776)], [], [(1, 0, 0)])], [], [], [], [])
set_option maxRecDepth 100000 in
theorem syc_84 : CoOk GG MM syt_84 := chk_ok (cs := []) (F := 4000) (fun _ h => absurd h List.not_mem_nil) (by decide +kernel) (by decide +kernel)
/-- M.wordOf -/
def syt_85 : CO := (293, 2, [(0, 0, 0, 0, 0, 0)], [(0, 0, 3)], [], [], [(some (1, 1, 0), [(0, 0, 0, 0, 0, 0), (377776, 377776, 0, 377776, 0, 377776)], [], [(1, 0, 0)])], [], [], [], [])
set_option maxRecDepth 100000 in
theorem syc_85 : CoOk GG MM syt_85 := chk_ok (cs := [syt_84]) (F := 4000) (List.forall_mem_cons.mpr ⟨syc_84, fun _ h => absurd h List.not_mem_nil⟩) (by decide +kernel) (by decide +kernel)
/-- M.spelt -/
def syt_86 : CO := (279, 1, [(0, 0, 0, 0, 0, 0)], [(0, 0, 102), (0, 0, 111), (0, 0, 110), (0, 0, 100), (0, 0, 0), (0, 0, 0)], [], [], [(some (1, 1, 0), [(0, 0, 0, 0, 0, 0), (129415, 129415, 0, 129415, 0, 129415)], [], [(1, 0, 0)])], [], [], [], [])
set_option maxRecDepth 100000 in
theorem syc_86 : CoOk GG MM syt_86 := chk_ok (cs := []) (F := 4000) (fun _ h => absurd h List.not_mem_nil) (by decide +kernel) (by decide +kernel)
/-- M.wordOf -/
def syt_87 : CO := (293, 2, [(0, 0, 0, 0, 0, 0)], [(0, 0, 4)], [], [], [(some (1, 1, 0), [(0, 0, 0, 0, 0, 0), (129415, 129415, 0, 129415, 0, 129415)], [], [(1, 0, 0)])], [], [], [], [])
set_option maxRecDepth 100000 in
theorem syc_87 : CoOk GG MM syt_87 := chk_ok (cs := [syt_86]) (F := 4000) (List.forall_mem_cons.mpr ⟨syc_86, fun _ h => absurd h List.not_mem_nil⟩) (by decide +kernel) (by decide +kernel)
/-- M.spelt -/
def syt_88 : CO := (279, 1, [(0, 0, 0, 0, 0, 0)], [(0, 0, 108), (0, 0, 97), (0, 0, 119), (0, 0, 0), (0, 0, 0), (0, 0, 0)], [], [], [(some (1, 1, 0), [(0, 0, 0, 0, 0, 0), (8798, 8798, 0, 8798, 0, 8798)], [], [(1, 0, 0)])], [], [], [], [])
set_option maxRecDepth 100000 in
theorem syc_88 : CoOk GG MM syt_88 := chk_ok (cs := []) (F := 4000) (fun _ h => absurd h List.not_mem_nil) (by decide +kernel) (by decide +kernel)
/-- M.wordOf -/
def syt_89 : CO := (293, 2, [(0, 0, 0, 0, 0, 0)], [(0, 0, 5)], [], [], [(some (1, 1, 0), [(0, 0, 0, 0, 0, 0), (8798, 8798, 0, 8798, 0, 8798)], [], [(1, 0, 0)])], [], [], [], [])
set_option maxRecDepth 100000 in
theorem syc_89 : CoOk GG MM syt_89 := chk_ok (cs := [syt_88]) (F := 4000) (List.forall_mem_cons.mpr ⟨syc_88, fun _ h => absurd h List.not_mem_nil⟩) (by decide +kernel) (by decide +kernel)
/-- M.spelt -/
def syt_90 : CO := (279, 1, [(0, 0, 0, 0, 0, 0)], [(0, 0, 99), (0, 0, 101), (0, 0, 108), (0, 0, 108), (0, 0, 0), (0, 0, 0)], [], [], [(some (1, 1, 0), [(0, 0, 0, 0, 0, 0), (63030, 63030, 0, 63030, 0, 63030)], [], [(1, 0, 0)])], [], [], [], [])
set_option maxRecDepth 100000 in
theorem syc_90 : CoOk GG MM syt_90 := chk_ok (cs := []) (F := 4000) (fun _ h => absurd h List.not_mem_nil) (by decide +kernel) (by decide +kernel)
/-- M.wordOf -/
def syt_91 : CO := (293, 2, [(0, 0, 0, 0, 0, 0)], [(0, 0, 6)], [], [], [(some (1, 1, 0), [(0, 0, 0, 0, 0, 0), (63030, 63030, 0, 63030, 0, 63030)], [], [(1, 0, 0)])], [], [], [], [])
set_option maxRecDepth 100000 in
theorem syc_91 : CoOk GG MM syt_91 := chk_ok (cs := [syt_90]) (F := 4000) (List.forall_mem_cons.mpr ⟨syc_90, fun _ h => absurd h List.not_mem_nil⟩) (by decide +kernel) (by decide +kernel)
/-- M.spelt -/
def syt_92 : CO := (279, 1, [(0, 0, 0, 0, 0, 0)], [(0, 0, 105), (0, 0, 100), (0, 0, 101), (0, 0, 97), (0, 0, 115), (0, 0, 0)], [], [], [(some (1, 1, 0), [(0, 0, 0, 0, 0, 0), (4865392, 4865392, 0, 4865392, 0, 4865392)], [], [(1, 0, 0)])], [], [], [], [])
set_option maxRecDepth 100000 in
theorem syc_92 : CoOk GG MM syt_92 := chk_ok (cs := []) (F := 4000) (fun _ h => absurd h List.not_mem_nil) (by decide +kernel) (by decide +kernel)
/-- M.wordOf -/
def syt_93 : CO := (293, 2, [(0, 0, 0, 0, 0, 0)], [(0, 0, 7)], [], [], [(some (1, 1, 0), [(0, 0, 0, 0, 0, 0), (4865392, 4865392, 0, 4865392, 0, 4865392)], [], [(1, 0, 0)])], [], [], [], [])
set_option maxRecDepth 100000 in
theorem syc_93 : CoOk GG MM syt_93 := chk_ok (cs := [syt_92]) (F := 4000) (List.forall_mem_cons.mpr ⟨syc_92, fun _ h => absurd h List.not_mem_nil⟩) (by decide +kernel) (by decide +kernel)
/-- M.spelt -/
def syt_94 : CO := (279, 1, [(0, 0, 0, 0, 0, 0)], [(0, 0, 100), (0, 0, 111), (0, 0, 101), (0, 0, 115), (0, 0, 0), (0, 0, 0)], [], [], [(some (1, 1, 0), [(0, 0, 0, 0, 0, 0), (89821, 89821, 0, 89821, 0, 89821)], [], [(1, 0, 0)])], [], [], [], [])
set_option maxRecDepth 100000 in
theorem syc_94 : CoOk GG MM syt_94 := chk_ok (cs := []) (F := 4000) (fun _ h => absurd h List.not_mem_nil) (by decide +kernel) (by decide +kernel)
/-- M.wordOf -/
def syt_95 : CO := (293, 2, [(0, 0, 0, 0, 0, 0)], [(0, 0, 8)], [], [], [(some (1, 1, 0), [(0, 0, 0, 0, 0, 0), (89821, 89821, 0, 89821, 0, 89821)], [], [(1, 0, 0)])], [], [], [], [])
set_option maxRecDepth 100000 in
theorem syc_95 : CoOk GG MM syt_95 := chk_ok (cs := [syt_94]) (F := 4000) (List.forall_mem_cons.mpr ⟨syc_94, fun _ h => absurd h List.not_mem_nil⟩) (by decide +kernel) (by decide +kernel)
/-- M.spelt -/
def syt_96 : CO := (279, 1, [(0, 0, 0, 0, 0, 0)], [(0, 0, 119), (0, 0, 101), (0, 0, 100), (0, 0, 115), (0, 0, 0), (0, 0, 0)], [], [], [(some (1, 1, 0), [(0, 0, 0, 0, 0, 0), (456481, 456481, 0, 456481, 0, 456481)], [], [(1, 0, 0)])], [], [], [], [])
set_option maxRecDepth 100000 in
theorem syc_96 : CoOk GG MM syt_96 := chk_ok (cs := []) (F := 4000) (fun _ h => absurd h List.not_mem_nil) (by decide +kernel) (by decide +kernel)
/-- M.wordOf -/
def syt_97 : CO := (293, 2, [(0, 0, 0, 0, 0, 0)], [(0, 0, 9)], [], [], [(some (1, 1, 0), [(0, 0, 0, 0, 0, 0), (456481, 456481, 0, 456481, 0, 456481)], [], [(1, 0, 0)])], [], [], [], [])
set_option maxRecDepth 100000 in
theorem syc_97 : CoOk GG MM syt_97 := chk_ok (cs := [syt_96]) (F := 4000) (List.forall_mem_cons.mpr ⟨syc_96, fun _ h => absurd h List.not_mem_nil⟩) (by decide +kernel) (by decide +kernel)
/-- M.spelt -/
def syt_98 : CO := (279, 1, [(0, 0, 0, 0, 0, 0)], [(0, 0, 112), (0, 0, 97), (0, 0, 114), (0, 0, 116), (0, 0, 115), (0, 0, 0)], [], [], [(some (1, 1, 0), [(0, 0, 0, 0, 0, 0), (8536420, 8536420, 0, 8536420, 0, 8536420)], [], [(1, 0, 0)])], [], [], [], [])
set_option maxRecDepth 100000 in
theorem syc_98 : CoOk GG MM syt_98 := chk_ok (cs := []) (F := 4000) (fun _ h => absurd h List.not_mem_nil) (by decide +kernel) (by decide +kernel)
/-- M.wordOf -/
def syt_99 : CO := (293, 2, [(0, 0, 0, 0, 0, 0)], [(0, 0, 10)], [], [], [(some (1, 1, 0), [(0, 0, 0, 0, 0, 0), (8536420, 8536420, 0, 8536420, 0, 8536420)], [], [(1, 0, 0)])], [], [], [], [])
set_option maxRecDepth 100000 in
theorem syc_99 : CoOk GG MM syt_99 := chk_ok (cs := [syt_98]) (F := 4000) (List.forall_mem_cons.mpr ⟨syc_98, fun _ h => absurd h List.not_mem_nil⟩) (by decide +kernel) (by decide +kernel)
/-- M.spelt -/
def syt_100 : CO := (279, 1, [(0, 0, 0, 0, 0, 0)], [(0, 0, 103), (0, 0, 108), (0, 0, 111), (0, 0, 118), (0, 0, 101), (0, 0, 115)], [], [], [(some (1, 1, 0), [(0, 0, 0, 0, 0, 0), (107131078, 107131078, 0, 107131078, 0, 107131078)], [], [(1, 0, 0)])], [], [], [], [])
set_option maxRecDepth 100000 in
theorem syc_100 : CoOk GG MM syt_100 := chk_ok (cs := []) (F := 4000) (fun _ h => absurd h List.not_mem_nil) (by decide +kernel) (by decide +kernel)
/-- M.wordOf -/
def syt_101 : CO := (293, 2, [(0, 0, 0, 0, 0, 0)], [(0, 0, 11)], [], [], [(some (1, 1, 0), [(0, 0, 0, 0, 0, 0), (107131078, 107131078, 0, 107131078, 0, 107131078)], [], [(1, 0, 0)])], [], [], [], [])
set_option maxRecDepth 100000 in
theorem syc_101 : CoOk GG MM syt_101 := chk_ok (cs := [syt_100]) (F := 4000) (List.forall_mem_cons.mpr ⟨syc_100, fun _ h => absurd h List.not_mem_nil⟩) (by decide +kernel) (by decide +kernel)
/-- M.spelt -/
def syt_102 : CO := (279, 1, [(0, 0, 0, 0, 0, 0)], [(0, 0, 98), (0, 0, 97), (0, 0, 114), (0, 0, 101), (0, 0, 115), (0, 0, 0)], [], [], [(some (1, 1, 0), [(0, 0, 0, 0, 0, 0), (1095841, 1095841, 0, 1095841, 0, 1095841)], [], [(1, 0, 0)])], [], [], [], [])
set_option maxRecDepth 100000 in
theorem syc_102 : CoOk GG MM syt_102 := chk_ok (cs := []) (F := 4000) (fun _ h => absurd h List.not_mem_nil) (by decide +kernel) (by decide +kernel)
/-- M.wordOf -/
def syt_103 : CO := (293, 2, [(0, 0, 0, 0, 0, 0)], [(0, 0, 12)], [], [], [(some (1, 1, 0), [(0, 0, 0, 0, 0, 0), (1095841, 1095841, 0, 1095841, 0, 1095841)], [], [(1, 0, 0)])], [], [], [], [])
set_option maxRecDepth 100000 in
theorem syc_103 : CoOk GG MM syt_103 := chk_ok (cs := [syt_102]) (F := 4000) (List.forall_mem_cons.mpr ⟨syc_102, fun _ h => absurd h List.not_mem_nil⟩) (by decide +kernel) (by decide +kernel)
/-- M.spelt -/
def syt_104 : CO := (279, 1, [(0, 0, 0, 0, 0, 0)], [(0, 0, 114), (0, 0, 105), (0, 0, 103), (0, 0, 104), (0, 0, 116), (0, 0, 0)], [], [], [(some (1, 1, 0), [(0, 0, 0, 0, 0, 0), (9748424, 9748424, 0, 9748424, 0, 9748424)], [], [(1, 0, 0)])], [], [], [], [])
set_option maxRecDepth 100000 in
theorem syc_104 : CoOk GG MM syt_104 := chk_ok (cs := []) (F := 4000) (fun _ h => absurd h List.not_mem_nil) (by decide +kernel) (by decide +kernel)
/-- M.wordOf -/
def syt_105 : CO := (293, 2, [(0, 0, 0, 0, 0, 0)], [(0, 0, 13)], [], [], [(some (1, 1, 0), [(0, 0, 0, 0, 0, 0), (9748424, 9748424, 0, 9748424, 0, 9748424)], [], [(1, 0, 0)])], [], [], [], [])
set_option maxRecDepth 100000 in
theorem syc_105 : CoOk GG MM syt_105 := chk_ok (cs := [syt_104]) (F := 4000) (List.forall_mem_cons.mpr ⟨syc_104, fun _ h => absurd h List.not_mem_nil⟩) (by decide +kernel) (by decide +kernel)
/-- M.spelt -/
def syt_106 : CO := (279, 1, [(0, 0, 0, 0, 0, 0)], [(0, 0, 108), (0, 0, 101), (0, 0, 102), (0, 0, 116), (0, 0, 0), (0, 0, 0)], [], [], [(some (1, 1, 0), [(0, 0, 0, 0, 0, 0), (240023, 240023, 0, 240023, 0, 240023)], [], [(1, 0, 0)])], [], [], [], [])
set_option maxRecDepth 100000 in
theorem syc_106 : CoOk GG MM syt_106 := chk_ok (cs := []) (F := 4000) (fun _ h => absurd h List.not_mem_nil) (by decide +kernel) (by decide +kernel)
/-- M.wordOf -/
def syt_107 : CO := (293, 2, [(0, 0, 0, 0, 0, 0)], [(0, 0, 14)], [], [], [(some (1, 1, 0), [(0, 0, 0, 0, 0, 0), (240023, 240023, 0, 240023, 0, 240023)], [], [(1, 0, 0)])], [], [], [], [])
set_option maxRecDepth 100000 in
theorem syc_107 : CoOk GG MM syt_107 := chk_ok (cs := [syt_106]) (F := 4000) (List.forall_mem_cons.mpr ⟨syc_106, fun _ h => absurd h List.not_mem_nil⟩) (by decide +kernel) (by decide +kernel)
/-- M.spelt -/
def syt_108 : CO := (279, 1, [(0, 0, 0, 0, 0, 0)], [(0, 0, 116), (0, 0, 119), (0, 0, 111), (0, 0, 0), (0, 0, 0), (0, 0, 0)], [], [], [(some (1, 1, 0), [(0, 0, 0, 0, 0, 0), (15216, 15216, 0, 15216, 0, 15216)], [], [(1, 0, 0)])], [], [], [], [])
set_option maxRecDepth 100000 in
theorem syc_108 : CoOk GG MM syt_108 := chk_ok (cs := []) (F := 4000) (fun _ h => absurd h List.not_mem_nil) (by decide +kernel) (by decide +kernel)
/-- M.wordOf -/
def syt_109 : CO := (293, 2, [(0, 0, 0, 0, 0, 0)], [(0, 0, 15)], [], [], [(some (1, 1, 0), [(0, 0, 0, 0, 0, 0), (15216, 15216, 0, 15216, 0, 15216)], [], [(1, 0, 0)])], [], [], [], [])
set_option maxRecDepth 100000 in
theorem syc_109 : CoOk GG MM syt_109 := chk_ok (cs := [syt_108]) (F := 4000) (List.forall_mem_cons.mpr ⟨syc_108, fun _ h => absurd h List.not_mem_nil⟩) (by decide +kernel) (by decide +kernel)
/-- M.spelt -/
def syt_110 : CO := (279, 1, [(0, 0, 0, 0, 0, 0)], [(0, 0, 100), (0, 0, 97), (0, 0, 121), (0, 0, 0), (0, 0, 0), (0, 0, 0)], [], [], [(some (1, 1, 0), [(0, 0, 0, 0, 0, 0), (2968, 2968, 0, 2968, 0, 2968)], [], [(1, 0, 0)])], [], [], [], [])
set_option maxRecDepth 100000 in
theorem syc_110 : CoOk GG MM syt_110 := chk_ok (cs := []) (F := 4000) (fun _ h => absurd h List.not_mem_nil) (by decide +kernel) (by decide +kernel)
/-- M.wordOf -/
def syt_111 : CO := (293, 2, [(0, 0, 0, 0, 0, 0)], [(0, 0, 16)], [], [], [(some (1, 1, 0), [(0, 0, 0, 0, 0, 0), (2968, 2968, 0, 2968, 0, 2968)], [], [(1, 0, 0)])], [], [], [], [])
set_option maxRecDepth 100000 in
theorem syc_111 : CoOk GG MM syt_111 := chk_ok (cs := [syt_110]) (F := 4000) (List.forall_mem_cons.mpr ⟨syc_110, fun _ h => absurd h List.not_mem_nil⟩) (by decide +kernel) (by decide +kernel)
/-- M.spelt -/
def syt_112 : CO := (279, 1, [(0, 0, 0, 0, 0, 0)], [(0, 0, 111), (0, 0, 114), (0, 0, 0), (0, 0, 0), (0, 0, 0), (0, 0, 0)], [], [], [(some (1, 1, 0), [(0, 0, 0, 0, 0, 0), (423, 423, 0, 423, 0, 423)], [], [(1, 0, 0)])], [], [], [], [])
set_option maxRecDepth 100000 in
theorem syc_112 : CoOk GG MM syt_112 := chk_ok (cs := []) (F := 4000) (fun _ h => absurd h List.not_mem_nil) (by decide +kernel) (by decide +kernel)
/-- M.wordOf -/
def syt_113 : CO := (293, 2, [(0, 0, 0, 0, 0, 0)], [(0, 0, 17)], [], [], [(some (1, 1, 0), [(0, 0, 0, 0, 0, 0), (423, 423, 0, 423, 0, 423)], [], [(1, 0, 0)])], [], [], [], [])
set_option maxRecDepth 100000 in
theorem syc_113 : CoOk GG MM syt_113 := chk_ok (cs := [syt_112]) (F := 4000) (List.forall_mem_cons.mpr ⟨syc_112, fun _ h => absurd h List.not_mem_nil⟩) (by decide +kernel) (by decide +kernel)
/-- M.spelt -/
def syt_114 : CO := (279, 1, [(0, 0, 0, 0, 0, 0)], [(0, 0, 97), (0, 0, 110), (0, 0, 100), (0, 0, 0), (0, 0, 0), (0, 0, 0)], [], [], [(some (1, 1, 0), [(0, 0, 0, 0, 0, 0), (1111, 1111, 0, 1111, 0, 1111)], [], [(1, 0, 0)])], [], [], [], [])
set_option maxRecDepth 100000 in
theorem syc_114 : CoOk GG MM syt_114 := chk_ok (cs := []) (F := 4000) (fun _ h => absurd h List.not_mem_nil) (by decide +kernel) (by decide +kernel)
/-- M.wordOf -/
def syt_115 : CO := (293, 2, [(0, 0, 0, 0, 0, 0)], [(0, 0, 18)], [], [], [(some (1, 1, 0), [(0, 0, 0, 0, 0, 0), (1111, 1111, 0, 1111, 0, 1111)], [], [(1, 0, 0)])], [], [], [], [])
set_option maxRecDepth 100000 in
theorem syc_115 : CoOk GG MM syt_115 := chk_ok (cs := [syt_114]) (F := 4000) (List.forall_mem_cons.mpr ⟨syc_114, fun _ h => absurd h List.not_mem_nil⟩) (by decide +kernel) (by decide +kernel)
/-- M.spelt -/
def syt_116 : CO := (279, 1, [(0, 0, 0, 0, 0, 0)], [(0, 0, 110), (0, 0, 111), (0, 0, 116), (0, 0, 0), (0, 0, 0), (0, 0, 0)], [], [], [(some (1, 1, 0), [(0, 0, 0, 0, 0, 0), (10631, 10631, 0, 10631, 0, 10631)], [], [(1, 0, 0)])], [], [], [], [])
set_option maxRecDepth 100000 in
theorem syc_116 : CoOk GG MM syt_116 := chk_ok (cs := []) (F := 4000) (fun _ h => absurd h List.not_mem_nil) (by decide +kernel) (by decide +kernel)
/-- M.wordOf -/
def syt_117 : CO := (293, 2, [(0, 0, 0, 0, 0, 0)], [(0, 0, 19)], [], [], [(some (1, 1, 0), [(0, 0, 0, 0, 0, 0), (10631, 10631, 0, 10631, 0, 10631)], [], [(1, 0, 0)])], [], [], [], [])
set_option maxRecDepth 100000 in
theorem syc_117 : CoOk GG MM syt_117 := chk_ok (cs := [syt_116]) (F := 4000) (List.forall_mem_cons.mpr ⟨syc_116, fun _ h => absurd h List.not_mem_nil⟩) (by decide +kernel) (by decide +kernel)
/-- M.spelt -/
def syt_118 : CO := (279, 1, [(0, 0, 0, 0, 0, 0)], [(0, 0, 106), (0, 0, 97), (0, 0, 105), (0, 0, 108), (0, 0, 101), (0, 0, 100)], [], [], [(some (1, 1, 0), [(0, 0, 0, 0, 0, 0), (144206545, 144206545, 0, 144206545, 0, 144206545)], [], [(1, 0, 0)])], [], [], [], [])
set_option maxRecDepth 100000 in
theorem syc_118 : CoOk GG MM syt_118 := chk_ok (cs := []) (F := 4000) (fun _ h => absurd h List.not_mem_nil) (by decide +kernel) (by decide +kernel)
/-- M.wordOf -/
def syt_119 : CO := (293, 2, [(0, 0, 0, 0, 0, 0)], [(0, 0, 20)], [], [], [(some (1, 1, 0), [(0, 0, 0, 0, 0, 0), (144206545, 144206545, 0, 144206545, 0, 144206545)], [], [(1, 0, 0)])], [], [], [], [])
set_option maxRecDepth 100000 in
theorem syc_119 : CoOk GG MM syt_119 := chk_ok (cs := [syt_118]) (F := 4000) (List.forall_mem_cons.mpr ⟨syc_118, fun _ h => absurd h List.not_mem_nil⟩) (by decide +kernel) (by decide +kernel)
/-- M.spelt -/
def syt_120 : CO := (279, 1, [(0, 0, 0, 0, 0, 0)], [(0, 0, 103), (0, 0, 108), (0, 0, 111), (0, 0, 118), (0, 0, 101), (0, 0, 100)], [], [], [(some (1, 1, 0), [(0, 0, 0, 0, 0, 0), (107131063, 107131063, 0, 107131063, 0, 107131063)], [], [(1, 0, 0)])], [], [], [], [])
set_option maxRecDepth 100000 in
theorem syc_120 : CoOk GG MM syt_120 := chk_ok (cs := []) (F := 4000) (fun _ h => absurd h List.not_mem_nil) (by decide +kernel) (by decide +kernel)
/-- M.wordOf -/
def syt_121 : CO := (293, 2, [(0, 0, 0, 0, 0, 0)], [(0, 0, 21)], [], [], [(some (1, 1, 0), [(0, 0, 0, 0, 0, 0), (107131063, 107131063, 0, 107131063, 0, 107131063)], [], [(1, 0, 0)])], [], [], [], [])
set_option maxRecDepth 100000 in
theorem syc_121 : CoOk GG MM syt_121 := chk_ok (cs := [syt_120]) (F := 4000) (List.forall_mem_cons.mpr ⟨syc_120, fun _ h => absurd h List.not_mem_nil⟩) (by decide +kernel) (by decide +kernel)
/-- M.spelt -/
def syt_122 : CO := (279, 1, [(0, 0, 0, 0, 0, 0)], [(0, 0, 119), (0, 0, 101), (0, 0, 100), (0, 0, 0), (0, 0, 0), (0, 0, 0)], [], [], [(some (1, 1, 0), [(0, 0, 0, 0, 0, 0), (16906, 16906, 0, 16906, 0, 16906)], [], [(1, 0, 0)])], [], [], [], [])
set_option maxRecDepth 100000 in
theorem syc_122 : CoOk GG MM syt_122 := chk_ok (cs := []) (F := 4000) (fun _ h => absurd h List.not_mem_nil) (by decide +kernel) (by decide +kernel)
/-- M.wordOf -/
def syt_123 : CO := (293, 2, [(0, 0, 0, 0, 0, 0)], [(0, 0, 22)], [], [], [(some (1, 1, 0), [(0, 0, 0, 0, 0, 0), (16906, 16906, 0, 16906, 0, 16906)], [], [(1, 0, 0)])], [], [], [], [])
set_option maxRecDepth 100000 in
theorem syc_123 : CoOk GG MM syt_123 := chk_ok (cs := [syt_122]) (F := 4000) (List.forall_mem_cons.mpr ⟨syc_122, fun _ h => absurd h List.not_mem_nil⟩) (by decide +kernel) (by decide +kernel)
/-- M.spelt -/
def syt_124 : CO := (279, 1, [(0, 0, 0, 0, 0, 0)], [(0, 0, 98), (0, 0, 117), (0, 0, 115), (0, 0, 121), (0, 0, 0), (0, 0, 0)], [], [], [(some (1, 1, 0), [(0, 0, 0, 0, 0, 0), (55213, 55213, 0, 55213, 0, 55213)], [], [(1, 0, 0)])], [], [], [], [])
set_option maxRecDepth 100000 in
theorem syc_124 : CoOk GG MM syt_124 := chk_ok (cs := []) (F := 4000) (fun _ h => absurd h List.not_mem_nil) (by decide +kernel) (by decide +kernel)
/-- M.wordOf -/
def syt_125 : CO := (293, 2, [(0, 0, 0, 0, 0, 0)], [(0, 0, 23)], [], [], [(some (1, 1, 0), [(0, 0, 0, 0, 0, 0), (55213, 55213, 0, 55213, 0, 55213)], [], [(1, 0, 0)])], [], [], [], [])
set_option maxRecDepth 100000 in
theorem syc_125 : CoOk GG MM syt_125 := chk_ok (cs := [syt_124]) (F := 4000) (List.forall_mem_cons.mpr ⟨syc_124, fun _ h => absurd h List.not_mem_nil⟩) (by decide +kernel) (by decide +kernel)
/-- M.spelt -/
def syt_126 : CO := (279, 1, [(0, 0, 0, 0, 0, 0)], [(0, 0, 115), (0, 0, 101), (0, 0, 101), (0, 0, 110), (0, 0, 0), (0, 0, 0)], [], [], [(some (1, 1, 0), [(0, 0, 0, 0, 0, 0), (377771, 377771, 0, 377771, 0, 377771)], [], [(1, 0, 0)])], [], [], [], [])
set_option maxRecDepth 100000 in
theorem syc_126 : CoOk GG MM syt_126 := chk_ok (cs := []) (F := 4000) (fun _ h => absurd h List.not_mem_nil) (by decide +kernel) (by decide +kernel)
/-- M.wordOf -/
def syt_127 : CO := (293, 2, [(0, 0, 0, 0, 0, 0)], [(0, 0, 24)], [], [], [(some (1, 1, 0), [(0, 0, 0, 0, 0, 0), (377771, 377771, 0, 377771, 0, 377771)], [], [(1, 0, 0)])], [], [], [], [])
set_option maxRecDepth 100000 in
theorem syc_127 : CoOk GG MM syt_127 := chk_ok (cs := [syt_126]) (F := 4000) (List.forall_mem_cons.mpr ⟨syc_126, fun _ h => absurd h List.not_mem_nil⟩) (by decide +kernel) (by decide +kernel)
/-- M.spelt -/
def syt_128 : CO := (279, 1, [(0, 0, 0, 0, 0, 0)], [(0, 0, 116), (0, 0, 111), (0, 0, 0), (0, 0, 0), (0, 0, 0), (0, 0, 0)], [], [], [(some (1, 1, 0), [(0, 0, 0, 0, 0, 0), (555, 555, 0, 555, 0, 555)], [], [(1, 0, 0)])], [], [], [], [])
set_option maxRecDepth 100000 in
theorem syc_128 : CoOk GG MM syt_128 := chk_ok (cs := []) (F := 4000) (fun _ h => absurd h List.not_mem_nil) (by decide +kernel) (by decide +kernel)
/-- M.wordOf -/
def syt_129 : CO := (293, 2, [(0, 0, 0, 0, 0, 0)], [(0, 0, 25)], [], [], [(some (1, 1, 0), [(0, 0, 0, 0, 0, 0), (555, 555, 0, 555, 0, 555)], [], [(1, 0, 0)])], [], [], [], [])
set_option maxRecDepth 100000 in
theorem syc_129 : CoOk GG MM syt_129 := chk_ok (cs := [syt_128]) (F := 4000) (List.forall_mem_cons.mpr ⟨syc_128, fun _ h => absurd h List.not_mem_nil⟩) (by decide +kernel) (by decide +kernel)
/-- M.spelt -/
def syt_130 : CO := (279, 1, [(0, 0, 0, 0, 0, 0)], [(0, 0, 111), (0, 0, 119), (0, 0, 110), (0, 0, 115), (0, 0, 0), (0, 0, 0)], [], [], [(some (1, 1, 0), [(0, 0, 0, 0, 0, 0), (312409, 312409, 0, 312409, 0, 312409)], [], [(1, 0, 0)])], [], [], [], [])
set_option maxRecDepth 100000 in
theorem syc_130 : CoOk GG MM syt_130 := chk_ok (cs := []) (F := 4000) (fun _ h => absurd h List.not_mem_nil) (by decide +kernel) (by decide +kernel)
/-- M.wordOf -/
def syt_131 : CO := (293, 2, [(0, 0, 0, 0, 0, 0)], [(0, 0, 26)], [], [], [(some (1, 1, 0), [(0, 0, 0, 0, 0, 0), (312409, 312409, 0, 312409, 0, 312409)], [], [(1, 0, 0)])], [], [], [], [])
set_option maxRecDepth 100000 in
theorem syc_131 : CoOk GG MM syt_131 := chk_ok (cs := [syt_130]) (F := 4000) (List.forall_mem_cons.mpr ⟨syc_130, fun _ h => absurd h List.not_mem_nil⟩) (by decide +kernel) (by decide +kernel)
/-- M.spelt -/
def syt_132 : CO := (279, 1, [(0, 0, 0, 0, 0, 0)], [(0, 0, 98), (0, 0, 108), (0, 0, 97), (0, 0, 109), (0, 0, 101), (0, 0, 0)], [], [], [(some (1, 1, 0), [(0, 0, 0, 0, 0, 0), (1300163, 1300163, 0, 1300163, 0, 1300163)], [], [(1, 0, 0)])], [], [], [], [])
set_option maxRecDepth 100000 in
theorem syc_132 : CoOk GG MM syt_132 := chk_ok (cs := []) (F := 4000) (fun _ h => absurd h List.not_mem_nil) (by decide +kernel) (by decide +kernel)
/-- M.wordOf -/
def syt_133 : CO := (293, 2, [(0, 0, 0, 0, 0, 0)], [(0, 0, 27)], [], [], [(some (1, 1, 0), [(0, 0, 0, 0, 0, 0), (1300163, 1300163, 0, 1300163, 0, 1300163)], [], [(1, 0, 0)])], [], [], [], [])
set_option maxRecDepth 100000 in
theorem syc_133 : CoOk GG MM syt_133 := chk_ok (cs := [syt_132]) (F := 4000) (List.forall_mem_cons.mpr ⟨syc_132, fun _ h => absurd h List.not_mem_nil⟩) (by decide +kernel) (by decide +kernel)
/-- M.spelt -/
def syt_134 : CO := (279, 1, [(0, 0, 0, 0, 0, 0)], [(0, 0, 105), (0, 0, 100), (0, 0, 101), (0, 0, 97), (0, 0, 0), (0, 0, 0)], [], [], [(some (1, 1, 0), [(0, 0, 0, 0, 0, 0), (180199, 180199, 0, 180199, 0, 180199)], [], [(1, 0, 0)])], [], [], [], [])
set_option maxRecDepth 100000 in
theorem syc_134 : CoOk GG MM syt_134 := chk_ok (cs := []) (F := 4000) (fun _ h => absurd h List.not_mem_nil) (by decide +kernel) (by decide +kernel)
/-- M.wordOf -/
def syt_135 : CO := (293, 2, [(0, 0, 0, 0, 0, 0)], [(0, 0, 28)], [], [], [(some (1, 1, 0), [(0, 0, 0, 0, 0, 0), (180199, 180199, 0, 180199, 0, 180199)], [], [(1, 0, 0)])], [], [], [], [])
set_option maxRecDepth 100000 in
theorem syc_135 : CoOk GG MM syt_135 := chk_ok (cs := [syt_134]) (F := 4000) (List.forall_mem_cons.mpr ⟨syc_134, fun _ h => absurd h List.not_mem_nil⟩) (by decide +kernel) (by decide +kernel)
/-- M.spelt -/
def syt_136 : CO := (279, 1, [(0, 0, 0, 0, 0, 0)], [(0, 0, 110), (0, 0, 117), (0, 0, 109), (0, 0, 98), (0, 0, 101), (0, 0, 114)], [], [], [(some (1, 1, 0), [(0, 0, 0, 0, 0, 0), (212302449, 212302449, 0, 212302449, 0, 212302449)], [], [(1, 0, 0)])], [], [], [], [])
set_option maxRecDepth 100000 in
theorem syc_136 : CoOk GG MM syt_136 := chk_ok (cs := []) (F := 4000) (fun _ h => absurd h List.not_mem_nil) (by decide +kernel) (by decide +kernel)
/-- M.wordOf -/
def syt_137 : CO := (293, 2, [(0, 0, 0, 0, 0, 0)], [(0, 0, 29)], [], [], [(some (1, 1, 0), [(0, 0, 0, 0, 0, 0), (212302449, 212302449, 0, 212302449, 0, 212302449)], [], [(1, 0, 0)])], [], [], [], [])
set_option maxRecDepth 100000 in
theorem syc_137 : CoOk GG MM syt_137 := chk_ok (cs := [syt_136]) (F := 4000) (List.forall_mem_cons.mpr ⟨syc_136, fun _ h => absurd h List.not_mem_nil⟩) (by decide +kernel) (by decide +kernel)
/-- M.isName -/
def syl_138_0 : List LB := [(12, 1, 0, ([(0, 0, 0, 0, 0, 0), (0, 940, 0, 0, 0, 940), (2, 2, 0, 2, 0, 2)], [(0, (2, 180, 0)), (1, (0, 0, 0))], [], [(180, 5, (0, 1, 0)), (180, 7, (0, 2, 0))]), [], [(12, 1)]),
  (12, 2, 0, ([(0, 0, 0, 0, 0, 0), (0, 940, 0, 0, 0, 940), (2, 2, 0, 2, 0, 2)], [(0, (2, 180, 0)), (1, (0, 0, 1))], [], [(180, 5, (0, 1, 0)), (180, 7, (0, 2, 0))]), [], [(12, 2)]),
  (12, 3, 0, ([(0, 0, 0, 0, 0, 0), (0, 940, 0, 0, 0, 940), (2, 2, 0, 2, 0, 2)], [(0, (2, 180, 0)), (1, (0, 0, 2))], [], [(180, 5, (0, 1, 0)), (180, 7, (0, 2, 0))]), [], [(12, 3)]),
  (12, 4, 0, ([(0, 0, 0, 0, 0, 0), (0, 940, 0, 0, 0, 940), (2, 2, 0, 2, 0, 2)], [(0, (2, 180, 0)), (1, (0, 0, 3))], [], [(180, 5, (0, 1, 0)), (180, 7, (0, 2, 0))]), [], [(12, 4)]),
  (12, 5, 0, ([(0, 0, 0, 0, 0, 0), (0, 940, 0, 0, 0, 940), (2, 2, 0, 2, 0, 2)], [(0, (2, 180, 0)), (1, (0, 0, 4))], [], [(180, 5, (0, 1, 0)), (180, 7, (0, 2, 0))]), [], [(12, 5)]),
  (12, 6, 0, ([(0, 0, 0, 0, 0, 0), (0, 940, 0, 0, 0, 940), (2, 2, 0, 2, 0, 2)], [(0, (2, 180, 0)), (1, (0, 0, 5))], [], [(180, 5, (0, 1, 0)), (180, 7, (0, 2, 0))]), [], [(12, 6)]),
  (12, 7, 0, ([(0, 0, 0, 0, 0, 0), (0, 940, 0, 0, 0, 940), (2, 2, 0, 2, 0, 2)], [(0, (2, 180, 0)), (1, (0, 0, 6))], [], [(180, 5, (0, 1, 0)), (180, 7, (0, 2, 0))]), [], [(12, 7)]),
  (12, 8, 0, ([(0, 0, 0, 0, 0, 0), (0, 940, 0, 0, 0, 940), (2, 2, 0, 2, 0, 2)], [(0, (2, 180, 0)), (1, (0, 0, 7))], [], [(180, 5, (0, 1, 0)), (180, 7, (0, 2, 0))]), [], [(12, 8)]),
  (12, 9, 0, ([(0, 0, 0, 0, 0, 0), (0, 940, 0, 0, 0, 940), (2, 2, 0, 2, 0, 2)], [(0, (2, 180, 0)), (1, (0, 0, 8))], [], [(180, 5, (0, 1, 0)), (180, 7, (0, 2, 0))]), [], [(12, 9)]),
  (12, 10, 0, ([(0, 0, 0, 0, 0, 0), (0, 940, 0, 0, 0, 940), (2, 2, 0, 2, 0, 2)], [(0, (2, 180, 0)), (1, (0, 0, 9))], [], [(180, 5, (0, 1, 0)), (180, 7, (0, 2, 0))]), [], [(12, 10)]),
  (12, 11, 0, ([(0, 0, 0, 0, 0, 0), (0, 940, 0, 0, 0, 940), (2, 2, 0, 2, 0, 2)], [(0, (2, 180, 0)), (1, (0, 0, 10))], [], [(180, 5, (0, 1, 0)), (180, 7, (0, 2, 0))]), [], [(12, 11)]),
  (12, 12, 0, ([(0, 0, 0, 0, 0, 0), (0, 940, 0, 0, 0, 940), (2, 2, 0, 2, 0, 2)], [(0, (2, 180, 0)), (1, (0, 0, 11))], [], [(180, 5, (0, 1, 0)), (180, 7, (0, 2, 0))]), [], [(12, 12)]),
  (12, 13, 0, ([(0, 0, 0, 0, 0, 0), (0, 940, 0, 0, 0, 940), (2, 2, 0, 2, 0, 2)], [(0, (2, 180, 0)), (1, (0, 0, 12))], [], [(180, 5, (0, 1, 0)), (180, 7, (0, 2, 0))]), [], [(12, 13)]),
  (12, 14, 0, ([(0, 0, 0, 0, 0, 0), (0, 940, 0, 0, 0, 940), (2, 2, 0, 2, 0, 2)], [(0, (2, 180, 0)), (1, (0, 0, 13))], [], [(180, 5, (0, 1, 0)), (180, 7, (0, 2, 0))]), [], [(12, 14)]),
  (12, 15, 0, ([(0, 0, 0, 0, 0, 0), (0, 940, 0, 0, 0, 940), (2, 2, 0, 2, 0, 2)], [(0, (2, 180, 0)), (1, (0, 0, 14))], [], [(180, 5, (0, 1, 0)), (180, 7, (0, 2, 0))]), [], [(12, 15)]),
  (12, 16, 0, ([(0, 0, 0, 0, 0, 0), (0, 940, 0, 0, 0, 940), (2, 2, 0, 2, 0, 2)], [(0, (2, 180, 0)), (1, (0, 0, 15))], [], [(180, 5, (0, 1, 0)), (180, 7, (0, 2, 0))]), [], [(12, 16)]),
  (12, 17, 0, ([(0, 0, 0, 0, 0, 0), (0, 940, 0, 0, 0, 940), (2, 2, 0, 2, 0, 2)], [(0, (2, 180, 0)), (1, (0, 0, 16))], [], [(180, 5, (0, 1, 0)), (180, 7, (0, 2, 0))]), [], [(12, 17)]),
  (12, 18, 0, ([(0, 0, 0, 0, 0, 0), (0, 940, 0, 0, 0, 940), (2, 2, 0, 2, 0, 2)], [(0, (2, 180, 0)), (1, (0, 0, 17))], [], [(180, 5, (0, 1, 0)), (180, 7, (0, 2, 0))]), [], [(12, 18)]),
  (12, 19, 0, ([(0, 0, 0, 0, 0, 0), (0, 940, 0, 0, 0, 940), (2, 2, 0, 2, 0, 2)], [(0, (2, 180, 0)), (1, (0, 0, 18))], [], [(180, 5, (0, 1, 0)), (180, 7, (0, 2, 0))]), [], [(12, 19)]),
  (12, 20, 0, ([(0, 0, 0, 0, 0, 0), (0, 940, 0, 0, 0, 940), (2, 2, 0, 2, 0, 2)], [(0, (2, 180, 0)), (1, (0, 0, 19))], [], [(180, 5, (0, 1, 0)), (180, 7, (0, 2, 0))]), [], [(12, 20)]),
  (12, 21, 0, ([(0, 0, 0, 0, 0, 0), (0, 940, 0, 0, 0, 940), (2, 2, 0, 2, 0, 2)], [(0, (2, 180, 0)), (1, (0, 0, 20))], [], [(180, 5, (0, 1, 0)), (180, 7, (0, 2, 0))]), [], [(12, 21)])]
def syl_138_1 : List LB := [(12, 22, 0, ([(0, 0, 0, 0, 0, 0), (0, 940, 0, 0, 0, 940), (2, 2, 0, 2, 0, 2)], [(0, (2, 180, 0)), (1, (0, 0, 21))], [], [(180, 5, (0, 1, 0)), (180, 7, (0, 2, 0))]), [], [(12, 22)]),
  (12, 23, 0, ([(0, 0, 0, 0, 0, 0), (0, 940, 0, 0, 0, 940), (2, 2, 0, 2, 0, 2)], [(0, (2, 180, 0)), (1, (0, 0, 22))], [], [(180, 5, (0, 1, 0)), (180, 7, (0, 2, 0))]), [], [(12, 23)]),
  (12, 24, 0, ([(0, 0, 0, 0, 0, 0), (0, 940, 0, 0, 0, 940), (2, 2, 0, 2, 0, 2)], [(0, (2, 180, 0)), (1, (0, 0, 23))], [], [(180, 5, (0, 1, 0)), (180, 7, (0, 2, 0))]), [], [(12, 24)]),
  (12, 25, 0, ([(0, 0, 0, 0, 0, 0), (0, 940, 0, 0, 0, 940), (2, 2, 0, 2, 0, 2)], [(0, (2, 180, 0)), (1, (0, 0, 24))], [], [(180, 5, (0, 1, 0)), (180, 7, (0, 2, 0))]), [], [(12, 25)]),
  (12, 26, 0, ([(0, 0, 0, 0, 0, 0), (0, 940, 0, 0, 0, 940), (2, 2, 0, 2, 0, 2)], [(0, (2, 180, 0)), (1, (0, 0, 25))], [], [(180, 5, (0, 1, 0)), (180, 7, (0, 2, 0))]), [], [(12, 26)]),
  (12, 27, 0, ([(0, 0, 0, 0, 0, 0), (0, 940, 0, 0, 0, 940), (2, 2, 0, 2, 0, 2)], [(0, (2, 180, 0)), (1, (0, 0, 26))], [], [(180, 5, (0, 1, 0)), (180, 7, (0, 2, 0))]), [], [(12, 27)]),
  (12, 28, 0, ([(0, 0, 0, 0, 0, 0), (0, 940, 0, 0, 0, 940), (2, 2, 0, 2, 0, 2)], [(0, (2, 180, 0)), (1, (0, 0, 27))], [], [(180, 5, (0, 1, 0)), (180, 7, (0, 2, 0))]), [], [(12, 28)]),
  (12, 29, 0, ([(0, 0, 0, 0, 0, 0), (0, 940, 0, 0, 0, 940), (2, 2, 0, 2, 0, 2)], [(0, (2, 180, 0)), (1, (0, 0, 28))], [], [(180, 5, (0, 1, 0)), (180, 7, (0, 2, 0))]), [], [(12, 29)]),
  (12, 30, 0, ([(0, 0, 0, 0, 0, 0), (0, 940, 0, 0, 0, 940), (2, 2, 0, 2, 0, 2)], [(0, (2, 180, 0)), (1, (0, 0, 29))], [], [(180, 5, (0, 1, 0)), (180, 7, (0, 2, 0))]), [], [(12, 30)]),
  (12, 31, 0, ([(0, 0, 0, 0, 0, 0), (0, 940, 0, 0, 0, 940), (2, 2, 0, 2, 0, 2)], [(0, (2, 180, 0)), (1, (0, 0, 30))], [], [(180, 5, (0, 1, 0)), (180, 7, (0, 2, 0))]), [], [])]
def syt_138 : CO := (221, 3, [(0, 0, 0, 0, 0, 0), (0, 940, 0, 0, 0, 940), (0, 4, 0, 0, 0, 4)], [(2, 180, 0)], [(180, 5, (0, 1, 0)), (180, 7, (0, 2, 0))], [(2, 180, 5), (2, 180, 7)], [(some (0, 0, 0), [(0, 0, 0, 0, 0, 0), (0, 940, 0, 0, 0, 940), (0, 4, 0, 0, 0, 4)], [(180, 5, (0, 1, 0)), (180, 7, (0, 2, 0))], []), (some (0, 0, 1), [(0, 0, 0, 0, 0, 0), (0, 940, 0, 0, 0, 940), (2, 2, 0, 2, 0, 2)], [(180, 5, (0, 1, 0)), (180, 7, (0, 2, 0))], [])], [], (syl_138_0 ++ (syl_138_1)), [], [(12, 0)])
set_option maxRecDepth 100000 in
theorem syp_138_0 : runL MM GG [syt_76, syt_81, syt_83, syt_85, syt_87, syt_89, syt_91, syt_93, syt_95, syt_97, syt_99, syt_101, syt_103, syt_105, syt_107, syt_109, syt_111, syt_113, syt_115, syt_117, syt_119, syt_121, syt_123, syt_125, syt_127, syt_129, syt_131, syt_133, syt_135, syt_137] syt_138 4000 0 syl_138_0 = true := by decide +kernel
set_option maxRecDepth 100000 in
theorem syp_138_1 : runL MM GG [syt_76, syt_81, syt_83, syt_85, syt_87, syt_89, syt_91, syt_93, syt_95, syt_97, syt_99, syt_101, syt_103, syt_105, syt_107, syt_109, syt_111, syt_113, syt_115, syt_117, syt_119, syt_121, syt_123, syt_125, syt_127, syt_129, syt_131, syt_133, syt_135, syt_137] syt_138 4000 21 syl_138_1 = true := by decide +kernel
set_option maxRecDepth 100000 in
theorem syc_138 : CoOk GG MM syt_138 := chk_ok (cs := [syt_76, syt_81, syt_83, syt_85, syt_87, syt_89, syt_91, syt_93, syt_95, syt_97, syt_99, syt_101, syt_103, syt_105, syt_107, syt_109, syt_111, syt_113, syt_115, syt_117, syt_119, syt_121, syt_123, syt_125, syt_127, syt_129, syt_131, syt_133, syt_135, syt_137]) (F := 4000) (List.forall_mem_cons.mpr ⟨syc_76, List.forall_mem_cons.mpr ⟨syc_81, List.forall_mem_cons.mpr ⟨syc_83, List.forall_mem_cons.mpr ⟨syc_85, List.forall_mem_cons.mpr ⟨syc_87, List.forall_mem_cons.mpr ⟨syc_89, List.forall_mem_cons.mpr ⟨syc_91, List.forall_mem_cons.mpr ⟨syc_93, List.forall_mem_cons.mpr ⟨syc_95, List.forall_mem_cons.mpr ⟨syc_97, List.forall_mem_cons.mpr ⟨syc_99, List.forall_mem_cons.mpr ⟨syc_101, List.forall_mem_cons.mpr ⟨syc_103, List.forall_mem_cons.mpr ⟨syc_105, List.forall_mem_cons.mpr ⟨syc_107, List.forall_mem_cons.mpr ⟨syc_109, List.forall_mem_cons.mpr ⟨syc_111, List.forall_mem_cons.mpr ⟨syc_113, List.forall_mem_cons.mpr ⟨syc_115, List.forall_mem_cons.mpr ⟨syc_117, List.forall_mem_cons.mpr ⟨syc_119, List.forall_mem_cons.mpr ⟨syc_121, List.forall_mem_cons.mpr ⟨syc_123, List.forall_mem_cons.mpr ⟨syc_125, List.forall_mem_cons.mpr ⟨syc_127, List.forall_mem_cons.mpr ⟨syc_129, List.forall_mem_cons.mpr ⟨syc_131, List.forall_mem_cons.mpr ⟨syc_133, List.forall_mem_cons.mpr ⟨syc_135, List.forall_mem_cons.mpr ⟨syc_137, fun _ h => absurd h List.not_mem_nil⟩⟩⟩⟩⟩⟩⟩⟩⟩⟩⟩⟩⟩⟩⟩⟩⟩⟩⟩⟩⟩⟩⟩⟩⟩⟩⟩⟩⟩⟩) (by decide +kernel) (runL_app syp_138_0 (syp_138_1))
/-- M.findIn -/
def syt_139 : CO := (200, 1, [(0, 0, 0, 0, 0, 0), (0, 6, 0, 0, 0, 6), ((-9223372036854775808), 9223372036854775807, 0, (-9223372036854775808), 0, 9223372036854775807)], [(2, 188, 0), (0, 0, 0), (0, 1, 0), (1, 2, 0)], [], [(1, 2, 0), (1, 3, 0)], [(some (0, 3, 0), [(0, 0, 0, 0, 0, 0), (1, 6, 0, 1, 0, 6), ((-9223372036854775808), 282429536480, 0, (-9223372036854775808), 0, 282429536480), (0, 5, 0, 0, 0, 5)], [], [(1, 0, 0)]), (some (0, 0, (-1)), [(0, 0, 0, 0, 0, 0), (0, 6, 0, 0, 0, 6), ((-9223372036854775808), 9223372036854775807, 0, (-9223372036854775808), 0, 9223372036854775807)], [], [])], [], [(3, 1, 0, ([(0, 0, 0, 0, 0, 0), (0, 6, 0, 0, 0, 6), ((-9223372036854775808), 9223372036854775807, 0, (-9223372036854775808), 0, 9223372036854775807)], [(0, (2, 188, 0)), (1, (0, 0, 0)), (2, (0, 1, 0)), (3, (1, 2, 0)), (5, (0, 0, 0))], [], []), [], [(3, 1)]),
  (3, 2, 0, ([(0, 0, 0, 0, 0, 0), (1, 6, 0, 1, 0, 6), ((-9223372036854775808), 9223372036854775807, 0, (-9223372036854775808), 0, 9223372036854775807)], [(0, (2, 188, 0)), (1, (0, 0, 0)), (2, (0, 1, 0)), (3, (1, 2, 0)), (5, (0, 0, 1))], [], []), [], [(3, 2)]),
  (3, 3, 0, ([(0, 0, 0, 0, 0, 0), (2, 6, 0, 2, 0, 6), ((-9223372036854775808), 9223372036854775807, 0, (-9223372036854775808), 0, 9223372036854775807)], [(0, (2, 188, 0)), (1, (0, 0, 0)), (2, (0, 1, 0)), (3, (1, 2, 0)), (5, (0, 0, 2))], [], []), [], [(3, 3)]),
  (3, 4, 0, ([(0, 0, 0, 0, 0, 0), (3, 6, 0, 3, 0, 6), ((-9223372036854775808), 9223372036854775807, 0, (-9223372036854775808), 0, 9223372036854775807)], [(0, (2, 188, 0)), (1, (0, 0, 0)), (2, (0, 1, 0)), (3, (1, 2, 0)), (5, (0, 0, 3))], [], []), [], [(3, 4)]),
  (3, 5, 0, ([(0, 0, 0, 0, 0, 0), (4, 6, 0, 4, 0, 6), ((-9223372036854775808), 9223372036854775807, 0, (-9223372036854775808), 0, 9223372036854775807)], [(0, (2, 188, 0)), (1, (0, 0, 0)), (2, (0, 1, 0)), (3, (1, 2, 0)), (5, (0, 0, 4))], [], []), [], [(3, 5)]),
  (3, 6, 0, ([(0, 0, 0, 0, 0, 0), (5, 6, 0, 5, 0, 6), ((-9223372036854775808), 9223372036854775807, 0, (-9223372036854775808), 0, 9223372036854775807)], [(0, (2, 188, 0)), (1, (0, 0, 0)), (2, (0, 1, 0)), (3, (1, 2, 0)), (5, (0, 0, 5))], [], []), [], [(3, 6)]),
  (3, 7, 0, ([(0, 0, 0, 0, 0, 0), (6, 6, 0, 6, 0, 6), ((-9223372036854775808), 9223372036854775807, 0, (-9223372036854775808), 0, 9223372036854775807)], [(0, (2, 188, 0)), (1, (0, 0, 0)), (2, (0, 1, 0)), (3, (1, 2, 0)), (5, (0, 0, 6))], [], []), [], [])], [], [(3, 0)])
set_option maxRecDepth 100000 in
theorem syc_139 : CoOk GG MM syt_139 := chk_ok (cs := []) (F := 4000) (fun _ h => absurd h List.not_mem_nil) (by decide +kernel) (by decide +kernel)
/-- M.findIn -/
def syt_140 : CO := (200, 1, [(0, 0, 0, 0, 0, 0), (0, 8, 0, 0, 0, 8), ((-9223372036854775808), 9223372036854775807, 0, (-9223372036854775808), 0, 9223372036854775807)], [(2, 188, 0), (0, 0, 7), (0, 1, 0), (1, 2, 0)], [], [(1, 2, 0), (1, 3, 0)], [(some (0, 3, 0), [(0, 0, 0, 0, 0, 0), (1, 8, 0, 1, 0, 8), ((-9223372036854775808), 282429536480, 0, (-9223372036854775808), 0, 282429536480), (0, 7, 0, 0, 0, 7)], [], [(1, 0, 0)]), (some (0, 0, (-1)), [(0, 0, 0, 0, 0, 0), (0, 8, 0, 0, 0, 8), ((-9223372036854775808), 9223372036854775807, 0, (-9223372036854775808), 0, 9223372036854775807)], [], [])], [], [(3, 1, 0, ([(0, 0, 0, 0, 0, 0), (0, 8, 0, 0, 0, 8), ((-9223372036854775808), 9223372036854775807, 0, (-9223372036854775808), 0, 9223372036854775807)], [(0, (2, 188, 0)), (1, (0, 0, 7)), (2, (0, 1, 0)), (3, (1, 2, 0)), (5, (0, 0, 0))], [], []), [], [(3, 1)]),
  (3, 2, 0, ([(0, 0, 0, 0, 0, 0), (1, 8, 0, 1, 0, 8), ((-9223372036854775808), 9223372036854775807, 0, (-9223372036854775808), 0, 9223372036854775807)], [(0, (2, 188, 0)), (1, (0, 0, 7)), (2, (0, 1, 0)), (3, (1, 2, 0)), (5, (0, 0, 1))], [], []), [], [(3, 2)]),
  (3, 3, 0, ([(0, 0, 0, 0, 0, 0), (2, 8, 0, 2, 0, 8), ((-9223372036854775808), 9223372036854775807, 0, (-9223372036854775808), 0, 9223372036854775807)], [(0, (2, 188, 0)), (1, (0, 0, 7)), (2, (0, 1, 0)), (3, (1, 2, 0)), (5, (0, 0, 2))], [], []), [], [(3, 3)]),
  (3, 4, 0, ([(0, 0, 0, 0, 0, 0), (3, 8, 0, 3, 0, 8), ((-9223372036854775808), 9223372036854775807, 0, (-9223372036854775808), 0, 9223372036854775807)], [(0, (2, 188, 0)), (1, (0, 0, 7)), (2, (0, 1, 0)), (3, (1, 2, 0)), (5, (0, 0, 3))], [], []), [], [(3, 4)]),
  (3, 5, 0, ([(0, 0, 0, 0, 0, 0), (4, 8, 0, 4, 0, 8), ((-9223372036854775808), 9223372036854775807, 0, (-9223372036854775808), 0, 9223372036854775807)], [(0, (2, 188, 0)), (1, (0, 0, 7)), (2, (0, 1, 0)), (3, (1, 2, 0)), (5, (0, 0, 4))], [], []), [], [(3, 5)]),
  (3, 6, 0, ([(0, 0, 0, 0, 0, 0), (5, 8, 0, 5, 0, 8), ((-9223372036854775808), 9223372036854775807, 0, (-9223372036854775808), 0, 9223372036854775807)], [(0, (2, 188, 0)), (1, (0, 0, 7)), (2, (0, 1, 0)), (3, (1, 2, 0)), (5, (0, 0, 5))], [], []), [], [(3, 6)]),
  (3, 7, 0, ([(0, 0, 0, 0, 0, 0), (6, 8, 0, 6, 0, 8), ((-9223372036854775808), 9223372036854775807, 0, (-9223372036854775808), 0, 9223372036854775807)], [(0, (2, 188, 0)), (1, (0, 0, 7)), (2, (0, 1, 0)), (3, (1, 2, 0)), (5, (0, 0, 6))], [], []), [], [(3, 7)]),
  (3, 8, 0, ([(0, 0, 0, 0, 0, 0), (7, 8, 0, 7, 0, 8), ((-9223372036854775808), 9223372036854775807, 0, (-9223372036854775808), 0, 9223372036854775807)], [(0, (2, 188, 0)), (1, (0, 0, 7)), (2, (0, 1, 0)), (3, (1, 2, 0)), (5, (0, 0, 7))], [], []), [], [(3, 8)]),
  (3, 9, 0, ([(0, 0, 0, 0, 0, 0), (8, 8, 0, 8, 0, 8), ((-9223372036854775808), 9223372036854775807, 0, (-9223372036854775808), 0, 9223372036854775807)], [(0, (2, 188, 0)), (1, (0, 0, 7)), (2, (0, 1, 0)), (3, (1, 2, 0)), (5, (0, 0, 8))], [], []), [], [])], [], [(3, 0)])
set_option maxRecDepth 100000 in
theorem syc_140 : CoOk GG MM syt_140 := chk_ok (cs := []) (F := 4000) (fun _ h => absurd h List.not_mem_nil) (by decide +kernel) (by decide +kernel)
/-- M.bad -/
def syt_141 : CO := (174, 1, [(0, 0, 0, 0, 0, 0), (0, 940, 0, 0, 0, 940), (2, 2, 0, 2, 0, 2)], [(2, 180, 0), (0, 0, 3)], [(180, 5, (0, 1, 0)), (180, 7, (0, 2, 0))], [(2, 180, 5), (2, 180, 7)], [(some (0, 0, 0), [(0, 0, 0, 0, 0, 0), (0, 940, 0, 0, 0, 940), (2, 2, 0, 2, 0, 2)], [(180, 5, (0, 1, 0)), (180, 7, (0, 2, 0))], [])], [(180, 10, 11)], [], [], [])
set_option maxRecDepth 100000 in
theorem syc_141 : CoOk GG MM syt_141 := chk_ok (cs := []) (F := 4000) (fun _ h => absurd h List.not_mem_nil) (by decide +kernel) (by decide +kernel)
/-- M.bad -/
def syt_142 : CO := (174, 1, [(0, 0, 0, 0, 0, 0), (0, 940, 0, 0, 0, 940), (0, 4, 0, 0, 0, 4)], [(2, 180, 0), (0, 0, 1)], [(180, 5, (0, 1, 0)), (180, 7, (0, 2, 0))], [(2, 180, 5), (2, 180, 7)], [(some (0, 0, 0), [(0, 0, 0, 0, 0, 0), (0, 940, 0, 0, 0, 940), (0, 4, 0, 0, 0, 4)], [(180, 5, (0, 1, 0)), (180, 7, (0, 2, 0))], [])], [(180, 10, 11)], [], [], [])
set_option maxRecDepth 100000 in
theorem syc_142 : CoOk GG MM syt_142 := chk_ok (cs := []) (F := 4000) (fun _ h => absurd h List.not_mem_nil) (by decide +kernel) (by decide +kernel)
/-- M.readNew -/
def syt_143 : CO := (258, 4, [(0, 0, 0, 0, 0, 0), (0, 6, 0, 0, 0, 6), (0, 940, 0, 0, 0, 940), (0, 4, 0, 0, 0, 4), (0, 6, 0, 0, 0, 6)], [(2, 180, 0), (0, 1, 0)], [(180, 5, (0, 2, 0)), (180, 7, (0, 3, 0)), (183, 0, (0, 4, 0))], [(1, 1, 0), (2, 180, 5), (2, 180, 7), (2, 183, 0)], [(some (0, 0, 1), [(0, 0, 0, 0, 0, 0), (0, 6, 0, 0, 0, 6), (0, 940, 0, 0, 0, 940), (2, 2, 0, 2, 0, 2), (0, 6, 0, 0, 0, 6), (0, 940, 2, 0, 0, 940), (0, 3, 0, 0, 0, 3)], [(180, 5, (0, 5, 0)), (180, 7, (0, 6, 0)), (183, 0, (0, 4, 0))], [(2, 180, 5), (2, 180, 7)]), (some (0, 0, 1), [(0, 0, 0, 0, 0, 0), (0, 6, 0, 0, 0, 6), (0, 939, 0, 0, 0, 939), (2, 2, 0, 2, 0, 2), (0, 6, 0, 0, 0, 6), (1, 940, 0, 1, 0, 940), (1, 900, 2, 1, 0, 900)], [(180, 3, (0, 5, 0)), (180, 5, (0, 6, 0)), (180, 7, (0, 0, 4)), (183, 0, (0, 4, 0))], [(2, 180, 3), (2, 180, 5)]), (some (0, 0, 0), [(0, 0, 0, 0, 0, 0), (0, 6, 0, 0, 0, 6), (0, 940, 0, 0, 0, 940), (0, 4, 0, 0, 0, 4), (0, 6, 0, 0, 0, 6)], [(180, 5, (0, 2, 0)), (180, 7, (0, 3, 0)), (183, 0, (0, 4, 0))], [])], [(180, 5, 12), (188, 0, 6)], [], [], [])
set_option maxRecDepth 100000 in
theorem syc_143 : CoOk GG MM syt_143 := chk_ok (cs := [syt_141, syt_142, syt_139, syt_140, syt_73, syt_138]) (F := 4000) (List.forall_mem_cons.mpr ⟨syc_141, List.forall_mem_cons.mpr ⟨syc_142, List.forall_mem_cons.mpr ⟨syc_139, List.forall_mem_cons.mpr ⟨syc_140, List.forall_mem_cons.mpr ⟨syc_73, List.forall_mem_cons.mpr ⟨syc_138, fun _ h => absurd h List.not_mem_nil⟩⟩⟩⟩⟩⟩) (by decide +kernel) (by decide +kernel)
/-- M.bad -/
def syt_144 : CO := (174, 1, [(0, 0, 0, 0, 0, 0), (0, 940, 0, 0, 0, 940)], [(2, 180, 0), (0, 0, 1)], [(180, 5, (0, 1, 0)), (180, 7, (0, 0, 4))], [(2, 180, 5)], [(some (0, 0, 0), [(0, 0, 0, 0, 0, 0), (0, 940, 0, 0, 0, 940)], [(180, 5, (0, 1, 0)), (180, 7, (0, 0, 4))], [])], [(180, 10, 11)], [], [], [])
set_option maxRecDepth 100000 in
theorem syc_144 : CoOk GG MM syt_144 := chk_ok (cs := []) (F := 4000) (fun _ h => absurd h List.not_mem_nil) (by decide +kernel) (by decide +kernel)
/-- M.readNumber -/
def syt_145 : CO := (260, 2, [(0, 0, 0, 0, 0, 0), (0, 940, 0, 0, 0, 940)], [(2, 180, 0), (0, 0, 1), (0, 0, 9)], [(180, 5, (0, 1, 0)), (180, 7, (0, 0, 4))], [(2, 180, 5)], [(some (0, 0, 0), [(0, 0, 0, 0, 0, 0), (0, 940, 0, 0, 0, 940)], [(180, 5, (0, 1, 0)), (180, 7, (0, 0, 4))], [])], [(180, 10, 11)], [], [], [])
set_option maxRecDepth 100000 in
theorem syc_145 : CoOk GG MM syt_145 := chk_ok (cs := [syt_144]) (F := 4000) (List.forall_mem_cons.mpr ⟨syc_144, fun _ h => absurd h List.not_mem_nil⟩) (by decide +kernel) (by decide +kernel)
/-- M.put -/
def syt_146 : CO := (244, 1, [(0, 0, 0, 0, 0, 0), (5, 11, 0, 5, 0, 11)], [(2, 180, 0), (0, 1, 0), (0, 0, 0)], [], [(1, 1, 0)], [(some (0, 0, 0), [(0, 0, 0, 0, 0, 0), (5, 11, 0, 5, 0, 11)], [], [])], [], [], [], [])
set_option maxRecDepth 100000 in
theorem syc_146 : CoOk GG MM syt_146 := chk_ok (cs := []) (F := 4000) (fun _ h => absurd h List.not_mem_nil) (by decide +kernel) (by decide +kernel)
/-- M.bad -/
def syt_147 : CO := (174, 1, [(0, 0, 0, 0, 0, 0), (0, 940, 0, 0, 0, 940), (0, 2, 0, 0, 0, 2)], [(2, 180, 0), (0, 0, 1)], [(180, 5, (0, 1, 0)), (180, 7, (0, 2, 0))], [(2, 180, 5), (2, 180, 7)], [(some (0, 0, 0), [(0, 0, 0, 0, 0, 0), (0, 940, 0, 0, 0, 940), (0, 2, 0, 0, 0, 2)], [(180, 5, (0, 1, 0)), (180, 7, (0, 2, 0))], [])], [(180, 10, 11)], [], [], [])
set_option maxRecDepth 100000 in
theorem syc_147 : CoOk GG MM syt_147 := chk_ok (cs := []) (F := 4000) (fun _ h => absurd h List.not_mem_nil) (by decide +kernel) (by decide +kernel)
/-- M.isIn -/
def syt_148 : CO := (218, 1, [(0, 0, 0, 0, 0, 0), ((-2147483648), 2147483647, 0, (-2147483648), 0, 2147483647)], [(0, 1, 0), (0, 0, 1), (0, 0, 9)], [], [(1, 0, 0)], [(some (0, 0, 1), [(0, 0, 0, 0, 0, 0), (1, 9, 0, 1, 0, 9)], [], []), (some (0, 0, 0), [(0, 0, 0, 0, 0, 0), ((-2147483648), 2147483647, 0, (-2147483648), 0, 2147483647)], [], [])], [], [], [], [])
set_option maxRecDepth 100000 in
theorem syc_148 : CoOk GG MM syt_148 := chk_ok (cs := []) (F := 4000) (fun _ h => absurd h List.not_mem_nil) (by decide +kernel) (by decide +kernel)
/-- M.bad -/
def syt_149 : CO := (174, 1, [(0, 0, 0, 0, 0, 0), (0, 940, 0, 0, 0, 940), (3, 3, 0, 3, 0, 3)], [(2, 180, 0), (0, 0, 2)], [(180, 5, (0, 1, 0)), (180, 7, (0, 2, 0))], [(2, 180, 5), (2, 180, 7)], [(some (0, 0, 0), [(0, 0, 0, 0, 0, 0), (0, 940, 0, 0, 0, 940), (3, 3, 0, 3, 0, 3)], [(180, 5, (0, 1, 0)), (180, 7, (0, 2, 0))], [])], [(180, 10, 11)], [], [], [])
set_option maxRecDepth 100000 in
theorem syc_149 : CoOk GG MM syt_149 := chk_ok (cs := []) (F := 4000) (fun _ h => absurd h List.not_mem_nil) (by decide +kernel) (by decide +kernel)
/-- M.readNumber -/
def syt_150 : CO := (260, 3, [(0, 0, 0, 0, 0, 0), (0, 940, 0, 0, 0, 940), (0, 3, 0, 0, 0, 3)], [(2, 180, 0), (0, 0, 1), (0, 0, 9)], [(180, 5, (0, 1, 0)), (180, 7, (0, 2, 0))], [(2, 180, 5), (2, 180, 7)], [(some (0, 0, 0), [(0, 0, 0, 0, 0, 0), (0, 940, 0, 0, 0, 940), (0, 3, 0, 0, 0, 3)], [(180, 5, (0, 1, 0)), (180, 7, (0, 2, 0))], []), (some (0, 0, 1), [(0, 0, 0, 0, 0, 0), (0, 940, 0, 0, 0, 940), (3, 3, 0, 3, 0, 3), (0, 940, 1, 0, 0, 940), (0, 3, 0, 0, 0, 3), (1, 9, 0, 1, 0, 9)], [(180, 5, (0, 3, 0)), (180, 7, (0, 4, 0)), (180, 13, (0, 5, 0))], [(2, 180, 5), (2, 180, 7), (2, 180, 13)]), (some (0, 0, 1), [(0, 0, 0, 0, 0, 0), (0, 939, 0, 0, 0, 939), (3, 3, 0, 3, 0, 3), (1, 940, 0, 1, 0, 940), (1, 900, 1, 1, 0, 900), (1, 9, 0, 1, 0, 9)], [(180, 3, (0, 3, 0)), (180, 5, (0, 4, 0)), (180, 7, (0, 0, 4)), (180, 13, (0, 5, 0))], [(2, 180, 3), (2, 180, 5), (2, 180, 13)])], [(180, 5, 13)], [], [], [])
set_option maxRecDepth 100000 in
theorem syc_150 : CoOk GG MM syt_150 := chk_ok (cs := [syt_149, syt_147, syt_73, syt_148]) (F := 4000) (List.forall_mem_cons.mpr ⟨syc_149, List.forall_mem_cons.mpr ⟨syc_147, List.forall_mem_cons.mpr ⟨syc_73, List.forall_mem_cons.mpr ⟨syc_148, fun _ h => absurd h List.not_mem_nil⟩⟩⟩⟩) (by decide +kernel) (by decide +kernel)
/-- M.put -/
def syt_151 : CO := (244, 1, [(0, 0, 0, 0, 0, 0), (5, 11, 0, 5, 0, 11), (1, 9, 0, 1, 0, 9)], [(2, 180, 0), (0, 1, 0), (0, 0, 1)], [(180, 13, (0, 2, 0))], [(1, 1, 0), (2, 180, 13)], [(some (0, 0, 1), [(0, 0, 0, 0, 0, 0), (5, 11, 0, 5, 0, 11), (1, 9, 0, 1, 0, 9)], [(180, 13, (0, 2, 0))], [])], [(183, 5, 11)], [], [], [])
set_option maxRecDepth 100000 in
theorem syc_151 : CoOk GG MM syt_151 := chk_ok (cs := []) (F := 4000) (fun _ h => absurd h List.not_mem_nil) (by decide +kernel) (by decide +kernel)
/-- M.put -/
def syt_152 : CO := (244, 1, [(0, 0, 0, 0, 0, 0), (12, 18, 0, 12, 0, 18), (1, 9, 0, 1, 0, 9)], [(2, 180, 0), (0, 1, 0), (0, 0, 0)], [(180, 13, (0, 2, 0))], [(1, 1, 0), (2, 180, 13)], [(some (0, 0, 0), [(0, 0, 0, 0, 0, 0), (12, 18, 0, 12, 0, 18), (1, 9, 0, 1, 0, 9)], [(180, 13, (0, 2, 0))], [])], [], [], [], [])
set_option maxRecDepth 100000 in
theorem syc_152 : CoOk GG MM syt_152 := chk_ok (cs := []) (F := 4000) (fun _ h => absurd h List.not_mem_nil) (by decide +kernel) (by decide +kernel)
/-- M.put -/
def syt_153 : CO := (244, 1, [(0, 0, 0, 0, 0, 0), (12, 18, 0, 12, 0, 18), (1, 9, 0, 1, 0, 9)], [(2, 180, 0), (0, 1, 0), (0, 0, 1)], [(180, 13, (0, 2, 0))], [(1, 1, 0), (2, 180, 13)], [(some (0, 0, 1), [(0, 0, 0, 0, 0, 0), (12, 18, 0, 12, 0, 18), (1, 9, 0, 1, 0, 9)], [(180, 13, (0, 2, 0))], [])], [(183, 12, 18)], [], [], [])
set_option maxRecDepth 100000 in
theorem syc_153 : CoOk GG MM syt_153 := chk_ok (cs := []) (F := 4000) (fun _ h => absurd h List.not_mem_nil) (by decide +kernel) (by decide +kernel)
/-- M.isWord -/
def syt_154 : CO := (227, 1, [(0, 0, 0, 0, 0, 0), (0, 940, 0, 0, 0, 940)], [(2, 180, 0), (0, 0, 21)], [(180, 5, (0, 1, 0)), (180, 7, (0, 0, 4))], [(2, 180, 5)], [(some (0, 0, 0), [(0, 0, 0, 0, 0, 0), (0, 940, 0, 0, 0, 940)], [(180, 5, (0, 1, 0)), (180, 7, (0, 0, 4))], [])], [], [], [], [])
set_option maxRecDepth 100000 in
theorem syc_154 : CoOk GG MM syt_154 := chk_ok (cs := []) (F := 4000) (fun _ h => absurd h List.not_mem_nil) (by decide +kernel) (by decide +kernel)
/-- M.readFlag -/
def syt_155 : CO := (253, 2, [(0, 0, 0, 0, 0, 0), (0, 6, 0, 0, 0, 6), (0, 940, 0, 0, 0, 940)], [(2, 180, 0), (0, 0, 21), (0, 0, 19), (0, 1, 0)], [(180, 5, (0, 2, 0)), (180, 7, (0, 0, 4))], [(1, 3, 0), (2, 180, 5)], [(none, [(0, 0, 0, 0, 0, 0), (0, 6, 0, 0, 0, 6), (0, 940, 0, 0, 0, 940)], [(180, 5, (0, 2, 0)), (180, 7, (0, 0, 4))], [])], [], [], [], [])
set_option maxRecDepth 100000 in
theorem syc_155 : CoOk GG MM syt_155 := chk_ok (cs := [syt_154]) (F := 4000) (List.forall_mem_cons.mpr ⟨syc_154, fun _ h => absurd h List.not_mem_nil⟩) (by decide +kernel) (by decide +kernel)
/-- M.isWord -/
def syt_156 : CO := (227, 3, [(0, 0, 0, 0, 0, 0), (0, 940, 0, 0, 0, 940), (0, 3, 0, 0, 0, 3)], [(2, 180, 0), (0, 0, 21)], [(180, 5, (0, 1, 0)), (180, 7, (0, 2, 0))], [(2, 180, 5), (2, 180, 7)], [(some (0, 0, 0), [(0, 0, 0, 0, 0, 0), (0, 940, 0, 0, 0, 940), (0, 3, 0, 0, 0, 3)], [(180, 5, (0, 1, 0)), (180, 7, (0, 2, 0))], []), (some (0, 0, 1), [(0, 0, 0, 0, 0, 0), (0, 940, 0, 0, 0, 940), (2, 2, 0, 2, 0, 2)], [(180, 5, (0, 1, 0)), (180, 7, (0, 2, 0))], [])], [], [], [], [])
set_option maxRecDepth 100000 in
theorem syc_156 : CoOk GG MM syt_156 := chk_ok (cs := [syt_121]) (F := 4000) (List.forall_mem_cons.mpr ⟨syc_121, fun _ h => absurd h List.not_mem_nil⟩) (by decide +kernel) (by decide +kernel)
/-- M.readFlag -/
def syt_157 : CO := (253, 4, [(0, 0, 0, 0, 0, 0), (0, 6, 0, 0, 0, 6), (0, 940, 0, 0, 0, 940), (0, 3, 0, 0, 0, 3)], [(2, 180, 0), (0, 0, 21), (0, 0, 19), (0, 1, 0)], [(180, 5, (0, 2, 0)), (180, 7, (0, 3, 0))], [(1, 3, 0), (2, 180, 5), (2, 180, 7)], [(none, [(0, 0, 0, 0, 0, 0), (0, 6, 0, 0, 0, 6), (0, 940, 0, 0, 0, 940), (0, 3, 0, 0, 0, 3), (0, 940, 2, 0, 0, 940), (0, 3, 0, 0, 0, 3)], [(180, 5, (0, 4, 0)), (180, 7, (0, 5, 0))], [(2, 180, 5), (2, 180, 7)]), (none, [(0, 0, 0, 0, 0, 0), (0, 6, 0, 0, 0, 6), (0, 939, 0, 0, 0, 939), (2, 2, 0, 2, 0, 2), (1, 940, 0, 1, 0, 940), (1, 900, 2, 1, 0, 900)], [(180, 3, (0, 4, 0)), (180, 5, (0, 5, 0)), (180, 7, (0, 0, 4))], [(2, 180, 3), (2, 180, 5)])], [(180, 5, 9), (180, 12, 12), (183, 19, 19)], [], [], [])
set_option maxRecDepth 100000 in
theorem syc_157 : CoOk GG MM syt_157 := chk_ok (cs := [syt_73, syt_156]) (F := 4000) (List.forall_mem_cons.mpr ⟨syc_73, List.forall_mem_cons.mpr ⟨syc_156, fun _ h => absurd h List.not_mem_nil⟩⟩) (by decide +kernel) (by decide +kernel)
/-- M.put -/
def syt_158 : CO := (244, 1, [(0, 0, 0, 0, 0, 0), (12, 18, 0, 12, 0, 18)], [(2, 180, 0), (0, 1, 0), (0, 0, 0)], [], [(1, 1, 0)], [(some (0, 0, 0), [(0, 0, 0, 0, 0, 0), (12, 18, 0, 12, 0, 18)], [], [])], [], [], [], [])
set_option maxRecDepth 100000 in
theorem syc_158 : CoOk GG MM syt_158 := chk_ok (cs := []) (F := 4000) (fun _ h => absurd h List.not_mem_nil) (by decide +kernel) (by decide +kernel)
/-- M.readPerson -/
def syt_159 : CO := (265, 5, [(0, 0, 0, 0, 0, 0), (0, 940, 0, 0, 0, 940), (2, 2, 0, 2, 0, 2)], [(2, 180, 0)], [(180, 5, (0, 1, 0)), (180, 7, (0, 2, 0))], [(2, 180, 5), (2, 180, 7)], [(some (0, 0, 0), [(0, 0, 0, 0, 0, 0), (0, 940, 0, 0, 0, 940), (2, 2, 0, 2, 0, 2), (0, 940, 1, 0, 0, 940), (0, 4, 0, 0, 0, 4), (0, 7, 0, 0, 0, 7)], [(180, 5, (0, 3, 0)), (180, 7, (0, 4, 0)), (183, 0, (0, 5, 0))], [(2, 180, 5), (2, 180, 7), (2, 183, 0)]), (some (0, 0, 1), [(0, 0, 0, 0, 0, 0), (0, 940, 0, 0, 0, 940), (2, 2, 0, 2, 0, 2), (1, 940, 0, 1, 0, 940), (1, 900, 1, 1, 0, 900), (1, 9, 0, 1, 0, 9), (1, 7, 0, 1, 0, 7)], [(180, 3, (0, 3, 0)), (180, 5, (0, 4, 0)), (180, 7, (0, 0, 4)), (180, 13, (0, 5, 0)), (183, 0, (0, 6, 0))], [(2, 180, 3), (2, 180, 5), (2, 180, 13), (2, 183, 0)]), (some (0, 0, 1), [(0, 0, 0, 0, 0, 0), (0, 940, 0, 0, 0, 940), (2, 2, 0, 2, 0, 2), (0, 940, 1, 0, 0, 940), (0, 3, 0, 0, 0, 3), (1, 9, 0, 1, 0, 9), (1, 7, 0, 1, 0, 7)], [(180, 5, (0, 3, 0)), (180, 7, (0, 4, 0)), (180, 13, (0, 5, 0)), (183, 0, (0, 6, 0))], [(2, 180, 5), (2, 180, 7), (2, 180, 13), (2, 183, 0)])], [(180, 5, 13), (183, 0, 0), (183, 5, 19), (188, 0, 6)], [], [], [])
set_option maxRecDepth 100000 in
theorem syc_159 : CoOk GG MM syt_159 := chk_ok (cs := [syt_146, syt_158, syt_151, syt_152, syt_153, syt_79, syt_155, syt_157, syt_143, syt_145, syt_150]) (F := 4000) (List.forall_mem_cons.mpr ⟨syc_146, List.forall_mem_cons.mpr ⟨syc_158, List.forall_mem_cons.mpr ⟨syc_151, List.forall_mem_cons.mpr ⟨syc_152, List.forall_mem_cons.mpr ⟨syc_153, List.forall_mem_cons.mpr ⟨syc_79, List.forall_mem_cons.mpr ⟨syc_155, List.forall_mem_cons.mpr ⟨syc_157, List.forall_mem_cons.mpr ⟨syc_143, List.forall_mem_cons.mpr ⟨syc_145, List.forall_mem_cons.mpr ⟨syc_150, fun _ h => absurd h List.not_mem_nil⟩⟩⟩⟩⟩⟩⟩⟩⟩⟩⟩) (by decide +kernel) (by decide +kernel)
/-- M.isWord -/
def syt_160 : CO := (227, 3, [(0, 0, 0, 0, 0, 0), (0, 940, 0, 0, 0, 940), (1, 4, 0, 1, 0, 4)], [(2, 180, 0), (0, 0, 1)], [(180, 5, (0, 1, 0)), (180, 7, (0, 2, 0))], [(2, 180, 5), (2, 180, 7)], [(some (0, 0, 0), [(0, 0, 0, 0, 0, 0), (0, 940, 0, 0, 0, 940), (1, 4, 0, 1, 0, 4)], [(180, 5, (0, 1, 0)), (180, 7, (0, 2, 0))], []), (some (0, 0, 1), [(0, 0, 0, 0, 0, 0), (0, 940, 0, 0, 0, 940), (2, 2, 0, 2, 0, 2)], [(180, 5, (0, 1, 0)), (180, 7, (0, 2, 0))], [])], [], [], [], [])
set_option maxRecDepth 100000 in
theorem syc_160 : CoOk GG MM syt_160 := chk_ok (cs := [syt_81]) (F := 4000) (List.forall_mem_cons.mpr ⟨syc_81, fun _ h => absurd h List.not_mem_nil⟩) (by decide +kernel) (by decide +kernel)
/-- M.readFirst -/
def syt_161 : CO := (252, 3, [(0, 0, 0, 0, 0, 0), (0, 940, 0, 0, 0, 940), (2, 2, 0, 2, 0, 2)], [(2, 180, 0), (0, 0, 1), (0, 0, 8)], [(180, 5, (0, 1, 0)), (180, 7, (0, 2, 0))], [(2, 180, 5), (2, 180, 7)], [(some (0, 0, 0), [(0, 0, 0, 0, 0, 0), (0, 940, 0, 0, 0, 940), (2, 2, 0, 2, 0, 2), (8, 8, 0, 8, 0, 8)], [(180, 5, (0, 1, 0)), (180, 7, (0, 2, 0)), (183, 1, (0, 3, 0))], [(2, 183, 1)]), (some (0, 0, 1), [(0, 0, 0, 0, 0, 0), (0, 940, 0, 0, 0, 940), (2, 2, 0, 2, 0, 2), (0, 940, 1, 0, 0, 940), (0, 4, 0, 0, 0, 4), (0, 7, 0, 0, 0, 7)], [(180, 5, (0, 3, 0)), (180, 7, (0, 4, 0)), (183, 1, (0, 5, 0))], [(2, 180, 5), (2, 180, 7), (2, 183, 1)])], [(180, 5, 12)], [], [], [])
set_option maxRecDepth 100000 in
theorem syc_161 : CoOk GG MM syt_161 := chk_ok (cs := [syt_78, syt_73]) (F := 4000) (List.forall_mem_cons.mpr ⟨syc_78, List.forall_mem_cons.mpr ⟨syc_73, fun _ h => absurd h List.not_mem_nil⟩⟩) (by decide +kernel) (by decide +kernel)
/-- M.findIn -/
def syt_162 : CO := (200, 1, [(0, 0, 0, 0, 0, 0), (0, 7, 0, 0, 0, 7), ((-9223372036854775808), 9223372036854775807, 0, (-9223372036854775808), 0, 9223372036854775807)], [(2, 188, 0), (0, 0, 0), (0, 1, 0), (1, 2, 0)], [], [(1, 2, 0), (1, 3, 0)], [(some (0, 3, 0), [(0, 0, 0, 0, 0, 0), (1, 7, 0, 1, 0, 7), ((-9223372036854775808), 282429536480, 0, (-9223372036854775808), 0, 282429536480), (0, 6, 0, 0, 0, 6)], [], [(1, 0, 0)]), (some (0, 0, (-1)), [(0, 0, 0, 0, 0, 0), (0, 7, 0, 0, 0, 7), ((-9223372036854775808), 9223372036854775807, 0, (-9223372036854775808), 0, 9223372036854775807)], [], [])], [], [(3, 1, 0, ([(0, 0, 0, 0, 0, 0), (0, 7, 0, 0, 0, 7), ((-9223372036854775808), 9223372036854775807, 0, (-9223372036854775808), 0, 9223372036854775807)], [(0, (2, 188, 0)), (1, (0, 0, 0)), (2, (0, 1, 0)), (3, (1, 2, 0)), (5, (0, 0, 0))], [], []), [], [(3, 1)]),
  (3, 2, 0, ([(0, 0, 0, 0, 0, 0), (1, 7, 0, 1, 0, 7), ((-9223372036854775808), 9223372036854775807, 0, (-9223372036854775808), 0, 9223372036854775807)], [(0, (2, 188, 0)), (1, (0, 0, 0)), (2, (0, 1, 0)), (3, (1, 2, 0)), (5, (0, 0, 1))], [], []), [], [(3, 2)]),
  (3, 3, 0, ([(0, 0, 0, 0, 0, 0), (2, 7, 0, 2, 0, 7), ((-9223372036854775808), 9223372036854775807, 0, (-9223372036854775808), 0, 9223372036854775807)], [(0, (2, 188, 0)), (1, (0, 0, 0)), (2, (0, 1, 0)), (3, (1, 2, 0)), (5, (0, 0, 2))], [], []), [], [(3, 3)]),
  (3, 4, 0, ([(0, 0, 0, 0, 0, 0), (3, 7, 0, 3, 0, 7), ((-9223372036854775808), 9223372036854775807, 0, (-9223372036854775808), 0, 9223372036854775807)], [(0, (2, 188, 0)), (1, (0, 0, 0)), (2, (0, 1, 0)), (3, (1, 2, 0)), (5, (0, 0, 3))], [], []), [], [(3, 4)]),
  (3, 5, 0, ([(0, 0, 0, 0, 0, 0), (4, 7, 0, 4, 0, 7), ((-9223372036854775808), 9223372036854775807, 0, (-9223372036854775808), 0, 9223372036854775807)], [(0, (2, 188, 0)), (1, (0, 0, 0)), (2, (0, 1, 0)), (3, (1, 2, 0)), (5, (0, 0, 4))], [], []), [], [(3, 5)]),
  (3, 6, 0, ([(0, 0, 0, 0, 0, 0), (5, 7, 0, 5, 0, 7), ((-9223372036854775808), 9223372036854775807, 0, (-9223372036854775808), 0, 9223372036854775807)], [(0, (2, 188, 0)), (1, (0, 0, 0)), (2, (0, 1, 0)), (3, (1, 2, 0)), (5, (0, 0, 5))], [], []), [], [(3, 6)]),
  (3, 7, 0, ([(0, 0, 0, 0, 0, 0), (6, 7, 0, 6, 0, 7), ((-9223372036854775808), 9223372036854775807, 0, (-9223372036854775808), 0, 9223372036854775807)], [(0, (2, 188, 0)), (1, (0, 0, 0)), (2, (0, 1, 0)), (3, (1, 2, 0)), (5, (0, 0, 6))], [], []), [], [(3, 7)]),
  (3, 8, 0, ([(0, 0, 0, 0, 0, 0), (7, 7, 0, 7, 0, 7), ((-9223372036854775808), 9223372036854775807, 0, (-9223372036854775808), 0, 9223372036854775807)], [(0, (2, 188, 0)), (1, (0, 0, 0)), (2, (0, 1, 0)), (3, (1, 2, 0)), (5, (0, 0, 7))], [], []), [], [])], [], [(3, 0)])
set_option maxRecDepth 100000 in
theorem syc_162 : CoOk GG MM syt_162 := chk_ok (cs := []) (F := 4000) (fun _ h => absurd h List.not_mem_nil) (by decide +kernel) (by decide +kernel)
/-- M.findIn -/
def syt_163 : CO := (200, 1, [(0, 0, 0, 0, 0, 0), (0, 7, 0, 0, 0, 7), ((-9223372036854775808), 9223372036854775807, 0, (-9223372036854775808), 0, 9223372036854775807)], [(2, 188, 0), (0, 0, 7), (0, 1, 0), (1, 2, 0)], [], [(1, 2, 0), (1, 3, 0)], [(some (0, 3, 0), [(0, 0, 0, 0, 0, 0), (1, 7, 0, 1, 0, 7), ((-9223372036854775808), 282429536480, 0, (-9223372036854775808), 0, 282429536480), (0, 6, 0, 0, 0, 6)], [], [(1, 0, 0)]), (some (0, 0, (-1)), [(0, 0, 0, 0, 0, 0), (0, 7, 0, 0, 0, 7), ((-9223372036854775808), 9223372036854775807, 0, (-9223372036854775808), 0, 9223372036854775807)], [], [])], [], [(3, 1, 0, ([(0, 0, 0, 0, 0, 0), (0, 7, 0, 0, 0, 7), ((-9223372036854775808), 9223372036854775807, 0, (-9223372036854775808), 0, 9223372036854775807)], [(0, (2, 188, 0)), (1, (0, 0, 7)), (2, (0, 1, 0)), (3, (1, 2, 0)), (5, (0, 0, 0))], [], []), [], [(3, 1)]),
  (3, 2, 0, ([(0, 0, 0, 0, 0, 0), (1, 7, 0, 1, 0, 7), ((-9223372036854775808), 9223372036854775807, 0, (-9223372036854775808), 0, 9223372036854775807)], [(0, (2, 188, 0)), (1, (0, 0, 7)), (2, (0, 1, 0)), (3, (1, 2, 0)), (5, (0, 0, 1))], [], []), [], [(3, 2)]),
  (3, 3, 0, ([(0, 0, 0, 0, 0, 0), (2, 7, 0, 2, 0, 7), ((-9223372036854775808), 9223372036854775807, 0, (-9223372036854775808), 0, 9223372036854775807)], [(0, (2, 188, 0)), (1, (0, 0, 7)), (2, (0, 1, 0)), (3, (1, 2, 0)), (5, (0, 0, 2))], [], []), [], [(3, 3)]),
  (3, 4, 0, ([(0, 0, 0, 0, 0, 0), (3, 7, 0, 3, 0, 7), ((-9223372036854775808), 9223372036854775807, 0, (-9223372036854775808), 0, 9223372036854775807)], [(0, (2, 188, 0)), (1, (0, 0, 7)), (2, (0, 1, 0)), (3, (1, 2, 0)), (5, (0, 0, 3))], [], []), [], [(3, 4)]),
  (3, 5, 0, ([(0, 0, 0, 0, 0, 0), (4, 7, 0, 4, 0, 7), ((-9223372036854775808), 9223372036854775807, 0, (-9223372036854775808), 0, 9223372036854775807)], [(0, (2, 188, 0)), (1, (0, 0, 7)), (2, (0, 1, 0)), (3, (1, 2, 0)), (5, (0, 0, 4))], [], []), [], [(3, 5)]),
  (3, 6, 0, ([(0, 0, 0, 0, 0, 0), (5, 7, 0, 5, 0, 7), ((-9223372036854775808), 9223372036854775807, 0, (-9223372036854775808), 0, 9223372036854775807)], [(0, (2, 188, 0)), (1, (0, 0, 7)), (2, (0, 1, 0)), (3, (1, 2, 0)), (5, (0, 0, 5))], [], []), [], [(3, 6)]),
  (3, 7, 0, ([(0, 0, 0, 0, 0, 0), (6, 7, 0, 6, 0, 7), ((-9223372036854775808), 9223372036854775807, 0, (-9223372036854775808), 0, 9223372036854775807)], [(0, (2, 188, 0)), (1, (0, 0, 7)), (2, (0, 1, 0)), (3, (1, 2, 0)), (5, (0, 0, 6))], [], []), [], [(3, 7)]),
  (3, 8, 0, ([(0, 0, 0, 0, 0, 0), (7, 7, 0, 7, 0, 7), ((-9223372036854775808), 9223372036854775807, 0, (-9223372036854775808), 0, 9223372036854775807)], [(0, (2, 188, 0)), (1, (0, 0, 7)), (2, (0, 1, 0)), (3, (1, 2, 0)), (5, (0, 0, 7))], [], []), [], [])], [], [(3, 0)])
set_option maxRecDepth 100000 in
theorem syc_163 : CoOk GG MM syt_163 := chk_ok (cs := []) (F := 4000) (fun _ h => absurd h List.not_mem_nil) (by decide +kernel) (by decide +kernel)
/-- M.readNew -/
def syt_164 : CO := (258, 4, [(0, 0, 0, 0, 0, 0), (7, 14, 0, 7, 0, 14), (0, 940, 0, 0, 0, 940), (0, 4, 0, 0, 0, 4), (0, 7, 0, 0, 0, 7)], [(2, 180, 0), (0, 1, 0)], [(180, 5, (0, 2, 0)), (180, 7, (0, 3, 0)), (183, 1, (0, 4, 0))], [(1, 1, 0), (2, 180, 5), (2, 180, 7), (2, 183, 1)], [(some (0, 0, 1), [(0, 0, 0, 0, 0, 0), (7, 14, 0, 7, 0, 14), (0, 940, 0, 0, 0, 940), (2, 2, 0, 2, 0, 2), (0, 7, 0, 0, 0, 7), (0, 940, 2, 0, 0, 940), (0, 3, 0, 0, 0, 3)], [(180, 5, (0, 5, 0)), (180, 7, (0, 6, 0)), (183, 1, (0, 4, 0))], [(2, 180, 5), (2, 180, 7)]), (some (0, 0, 1), [(0, 0, 0, 0, 0, 0), (7, 14, 0, 7, 0, 14), (0, 939, 0, 0, 0, 939), (2, 2, 0, 2, 0, 2), (0, 7, 0, 0, 0, 7), (1, 940, 0, 1, 0, 940), (1, 900, 2, 1, 0, 900)], [(180, 3, (0, 5, 0)), (180, 5, (0, 6, 0)), (180, 7, (0, 0, 4)), (183, 1, (0, 4, 0))], [(2, 180, 3), (2, 180, 5)]), (some (0, 0, 0), [(0, 0, 0, 0, 0, 0), (7, 14, 0, 7, 0, 14), (0, 940, 0, 0, 0, 940), (0, 4, 0, 0, 0, 4), (0, 7, 0, 0, 0, 7)], [(180, 5, (0, 2, 0)), (180, 7, (0, 3, 0)), (183, 1, (0, 4, 0))], [])], [(180, 5, 12), (188, 7, 14)], [], [], [])
set_option maxRecDepth 100000 in
theorem syc_164 : CoOk GG MM syt_164 := chk_ok (cs := [syt_141, syt_142, syt_162, syt_163, syt_73, syt_138]) (F := 4000) (List.forall_mem_cons.mpr ⟨syc_141, List.forall_mem_cons.mpr ⟨syc_142, List.forall_mem_cons.mpr ⟨syc_162, List.forall_mem_cons.mpr ⟨syc_163, List.forall_mem_cons.mpr ⟨syc_73, List.forall_mem_cons.mpr ⟨syc_138, fun _ h => absurd h List.not_mem_nil⟩⟩⟩⟩⟩⟩) (by decide +kernel) (by decide +kernel)
/-- M.readNumber -/
def syt_165 : CO := (260, 2, [(0, 0, 0, 0, 0, 0), (0, 940, 0, 0, 0, 940)], [(2, 180, 0), (0, 0, 1), (0, 0, 18)], [(180, 5, (0, 1, 0)), (180, 7, (0, 0, 4))], [(2, 180, 5)], [(some (0, 0, 0), [(0, 0, 0, 0, 0, 0), (0, 940, 0, 0, 0, 940)], [(180, 5, (0, 1, 0)), (180, 7, (0, 0, 4))], [])], [(180, 10, 11)], [], [], [])
set_option maxRecDepth 100000 in
theorem syc_165 : CoOk GG MM syt_165 := chk_ok (cs := [syt_144]) (F := 4000) (List.forall_mem_cons.mpr ⟨syc_144, fun _ h => absurd h List.not_mem_nil⟩) (by decide +kernel) (by decide +kernel)
/-- M.put -/
def syt_166 : CO := (244, 1, [(0, 0, 0, 0, 0, 0), (20, 27, 0, 20, 0, 27)], [(2, 180, 0), (0, 1, 0), (0, 0, 0)], [], [(1, 1, 0)], [(some (0, 0, 0), [(0, 0, 0, 0, 0, 0), (20, 27, 0, 20, 0, 27)], [], [])], [], [], [], [])
set_option maxRecDepth 100000 in
theorem syc_166 : CoOk GG MM syt_166 := chk_ok (cs := []) (F := 4000) (fun _ h => absurd h List.not_mem_nil) (by decide +kernel) (by decide +kernel)
/-- M.isIn -/
def syt_167 : CO := (218, 1, [(0, 0, 0, 0, 0, 0), ((-2147483648), 2147483647, 0, (-2147483648), 0, 2147483647)], [(0, 1, 0), (0, 0, 1), (0, 0, 18)], [], [(1, 0, 0)], [(some (0, 0, 1), [(0, 0, 0, 0, 0, 0), (1, 18, 0, 1, 0, 18)], [], []), (some (0, 0, 0), [(0, 0, 0, 0, 0, 0), ((-2147483648), 2147483647, 0, (-2147483648), 0, 2147483647)], [], [])], [], [], [], [])
set_option maxRecDepth 100000 in
theorem syc_167 : CoOk GG MM syt_167 := chk_ok (cs := []) (F := 4000) (fun _ h => absurd h List.not_mem_nil) (by decide +kernel) (by decide +kernel)
/-- M.readNumber -/
def syt_168 : CO := (260, 3, [(0, 0, 0, 0, 0, 0), (0, 940, 0, 0, 0, 940), (0, 3, 0, 0, 0, 3)], [(2, 180, 0), (0, 0, 1), (0, 0, 18)], [(180, 5, (0, 1, 0)), (180, 7, (0, 2, 0))], [(2, 180, 5), (2, 180, 7)], [(some (0, 0, 0), [(0, 0, 0, 0, 0, 0), (0, 940, 0, 0, 0, 940), (0, 3, 0, 0, 0, 3)], [(180, 5, (0, 1, 0)), (180, 7, (0, 2, 0))], []), (some (0, 0, 1), [(0, 0, 0, 0, 0, 0), (0, 940, 0, 0, 0, 940), (3, 3, 0, 3, 0, 3), (0, 940, 1, 0, 0, 940), (0, 3, 0, 0, 0, 3), (1, 18, 0, 1, 0, 18)], [(180, 5, (0, 3, 0)), (180, 7, (0, 4, 0)), (180, 13, (0, 5, 0))], [(2, 180, 5), (2, 180, 7), (2, 180, 13)]), (some (0, 0, 1), [(0, 0, 0, 0, 0, 0), (0, 939, 0, 0, 0, 939), (3, 3, 0, 3, 0, 3), (1, 940, 0, 1, 0, 940), (1, 900, 1, 1, 0, 900), (1, 18, 0, 1, 0, 18)], [(180, 3, (0, 3, 0)), (180, 5, (0, 4, 0)), (180, 7, (0, 0, 4)), (180, 13, (0, 5, 0))], [(2, 180, 3), (2, 180, 5), (2, 180, 13)])], [(180, 5, 13)], [], [], [])
set_option maxRecDepth 100000 in
theorem syc_168 : CoOk GG MM syt_168 := chk_ok (cs := [syt_149, syt_147, syt_73, syt_167]) (F := 4000) (List.forall_mem_cons.mpr ⟨syc_149, List.forall_mem_cons.mpr ⟨syc_147, List.forall_mem_cons.mpr ⟨syc_73, List.forall_mem_cons.mpr ⟨syc_167, fun _ h => absurd h List.not_mem_nil⟩⟩⟩⟩) (by decide +kernel) (by decide +kernel)
/-- M.put -/
def syt_169 : CO := (244, 1, [(0, 0, 0, 0, 0, 0), (20, 27, 0, 20, 0, 27), (1, 18, 0, 1, 0, 18)], [(2, 180, 0), (0, 1, 0), (0, 0, 1)], [(180, 13, (0, 2, 0))], [(1, 1, 0), (2, 180, 13)], [(some (0, 0, 1), [(0, 0, 0, 0, 0, 0), (20, 27, 0, 20, 0, 27), (1, 18, 0, 1, 0, 18)], [(180, 13, (0, 2, 0))], [])], [(183, 20, 27)], [], [], [])
set_option maxRecDepth 100000 in
theorem syc_169 : CoOk GG MM syt_169 := chk_ok (cs := []) (F := 4000) (fun _ h => absurd h List.not_mem_nil) (by decide +kernel) (by decide +kernel)
/-- M.readNumber -/
def syt_170 : CO := (260, 2, [(0, 0, 0, 0, 0, 0), (0, 940, 0, 0, 0, 940)], [(2, 180, 0), (0, 0, 0), (0, 0, 30)], [(180, 5, (0, 1, 0)), (180, 7, (0, 0, 4))], [(2, 180, 5)], [(some (0, 0, 0), [(0, 0, 0, 0, 0, 0), (0, 940, 0, 0, 0, 940)], [(180, 5, (0, 1, 0)), (180, 7, (0, 0, 4))], [])], [(180, 10, 11)], [], [], [])
set_option maxRecDepth 100000 in
theorem syc_170 : CoOk GG MM syt_170 := chk_ok (cs := [syt_144]) (F := 4000) (List.forall_mem_cons.mpr ⟨syc_144, fun _ h => absurd h List.not_mem_nil⟩) (by decide +kernel) (by decide +kernel)
/-- M.put -/
def syt_171 : CO := (244, 1, [(0, 0, 0, 0, 0, 0), (28, 35, 0, 28, 0, 35), (1, 18, 0, 1, 0, 18)], [(2, 180, 0), (0, 1, 0), (0, 0, 0)], [(180, 13, (0, 2, 0))], [(1, 1, 0), (2, 180, 13)], [(some (0, 0, 0), [(0, 0, 0, 0, 0, 0), (28, 35, 0, 28, 0, 35), (1, 18, 0, 1, 0, 18)], [(180, 13, (0, 2, 0))], [])], [], [], [], [])
set_option maxRecDepth 100000 in
theorem syc_171 : CoOk GG MM syt_171 := chk_ok (cs := []) (F := 4000) (fun _ h => absurd h List.not_mem_nil) (by decide +kernel) (by decide +kernel)
/-- M.isIn -/
def syt_172 : CO := (218, 1, [(0, 0, 0, 0, 0, 0), ((-2147483648), 2147483647, 0, (-2147483648), 0, 2147483647)], [(0, 1, 0), (0, 0, 0), (0, 0, 30)], [], [(1, 0, 0)], [(some (0, 0, 1), [(0, 0, 0, 0, 0, 0), (0, 30, 0, 0, 0, 30)], [], []), (some (0, 0, 0), [(0, 0, 0, 0, 0, 0), ((-2147483648), 2147483647, 0, (-2147483648), 0, 2147483647)], [], [])], [], [], [], [])
set_option maxRecDepth 100000 in
theorem syc_172 : CoOk GG MM syt_172 := chk_ok (cs := []) (F := 4000) (fun _ h => absurd h List.not_mem_nil) (by decide +kernel) (by decide +kernel)
/-- M.readNumber -/
def syt_173 : CO := (260, 3, [(0, 0, 0, 0, 0, 0), (0, 940, 0, 0, 0, 940), (0, 3, 0, 0, 0, 3)], [(2, 180, 0), (0, 0, 0), (0, 0, 30)], [(180, 5, (0, 1, 0)), (180, 7, (0, 2, 0))], [(2, 180, 5), (2, 180, 7)], [(some (0, 0, 0), [(0, 0, 0, 0, 0, 0), (0, 940, 0, 0, 0, 940), (0, 3, 0, 0, 0, 3)], [(180, 5, (0, 1, 0)), (180, 7, (0, 2, 0))], []), (some (0, 0, 1), [(0, 0, 0, 0, 0, 0), (0, 940, 0, 0, 0, 940), (3, 3, 0, 3, 0, 3), (0, 940, 1, 0, 0, 940), (0, 3, 0, 0, 0, 3), (0, 30, 0, 0, 0, 30)], [(180, 5, (0, 3, 0)), (180, 7, (0, 4, 0)), (180, 13, (0, 5, 0))], [(2, 180, 5), (2, 180, 7), (2, 180, 13)]), (some (0, 0, 1), [(0, 0, 0, 0, 0, 0), (0, 939, 0, 0, 0, 939), (3, 3, 0, 3, 0, 3), (1, 940, 0, 1, 0, 940), (1, 900, 1, 1, 0, 900), (0, 30, 0, 0, 0, 30)], [(180, 3, (0, 3, 0)), (180, 5, (0, 4, 0)), (180, 7, (0, 0, 4)), (180, 13, (0, 5, 0))], [(2, 180, 3), (2, 180, 5), (2, 180, 13)])], [(180, 5, 13)], [], [], [])
set_option maxRecDepth 100000 in
theorem syc_173 : CoOk GG MM syt_173 := chk_ok (cs := [syt_149, syt_147, syt_73, syt_172]) (F := 4000) (List.forall_mem_cons.mpr ⟨syc_149, List.forall_mem_cons.mpr ⟨syc_147, List.forall_mem_cons.mpr ⟨syc_73, List.forall_mem_cons.mpr ⟨syc_172, fun _ h => absurd h List.not_mem_nil⟩⟩⟩⟩) (by decide +kernel) (by decide +kernel)
/-- M.put -/
def syt_174 : CO := (244, 1, [(0, 0, 0, 0, 0, 0), (28, 35, 0, 28, 0, 35), (0, 30, 0, 0, 0, 30)], [(2, 180, 0), (0, 1, 0), (0, 0, 1)], [(180, 13, (0, 2, 0))], [(1, 1, 0), (2, 180, 13)], [(some (0, 0, 1), [(0, 0, 0, 0, 0, 0), (28, 35, 0, 28, 0, 35), (0, 30, 0, 0, 0, 30)], [(180, 13, (0, 2, 0))], [])], [(183, 28, 35)], [], [], [])
set_option maxRecDepth 100000 in
theorem syc_174 : CoOk GG MM syt_174 := chk_ok (cs := []) (F := 4000) (fun _ h => absurd h List.not_mem_nil) (by decide +kernel) (by decide +kernel)
/-- M.readNumber -/
def syt_175 : CO := (260, 2, [(0, 0, 0, 0, 0, 0), (0, 940, 0, 0, 0, 940)], [(2, 180, 0), (0, 0, 0), (0, 0, 9)], [(180, 5, (0, 1, 0)), (180, 7, (0, 0, 4))], [(2, 180, 5)], [(some (0, 0, 0), [(0, 0, 0, 0, 0, 0), (0, 940, 0, 0, 0, 940)], [(180, 5, (0, 1, 0)), (180, 7, (0, 0, 4))], [])], [(180, 10, 11)], [], [], [])
set_option maxRecDepth 100000 in
theorem syc_175 : CoOk GG MM syt_175 := chk_ok (cs := [syt_144]) (F := 4000) (List.forall_mem_cons.mpr ⟨syc_144, fun _ h => absurd h List.not_mem_nil⟩) (by decide +kernel) (by decide +kernel)
/-- M.put -/
def syt_176 : CO := (244, 1, [(0, 0, 0, 0, 0, 0), (36, 43, 0, 36, 0, 43), (0, 30, 0, 0, 0, 30)], [(2, 180, 0), (0, 1, 0), (0, 0, 0)], [(180, 13, (0, 2, 0))], [(1, 1, 0), (2, 180, 13)], [(some (0, 0, 0), [(0, 0, 0, 0, 0, 0), (36, 43, 0, 36, 0, 43), (0, 30, 0, 0, 0, 30)], [(180, 13, (0, 2, 0))], [])], [], [], [], [])
set_option maxRecDepth 100000 in
theorem syc_176 : CoOk GG MM syt_176 := chk_ok (cs := []) (F := 4000) (fun _ h => absurd h List.not_mem_nil) (by decide +kernel) (by decide +kernel)
/-- M.isIn -/
def syt_177 : CO := (218, 1, [(0, 0, 0, 0, 0, 0), ((-2147483648), 2147483647, 0, (-2147483648), 0, 2147483647)], [(0, 1, 0), (0, 0, 0), (0, 0, 9)], [], [(1, 0, 0)], [(some (0, 0, 1), [(0, 0, 0, 0, 0, 0), (0, 9, 0, 0, 0, 9)], [], []), (some (0, 0, 0), [(0, 0, 0, 0, 0, 0), ((-2147483648), 2147483647, 0, (-2147483648), 0, 2147483647)], [], [])], [], [], [], [])
set_option maxRecDepth 100000 in
theorem syc_177 : CoOk GG MM syt_177 := chk_ok (cs := []) (F := 4000) (fun _ h => absurd h List.not_mem_nil) (by decide +kernel) (by decide +kernel)
/-- M.readNumber -/
def syt_178 : CO := (260, 3, [(0, 0, 0, 0, 0, 0), (0, 940, 0, 0, 0, 940), (0, 3, 0, 0, 0, 3)], [(2, 180, 0), (0, 0, 0), (0, 0, 9)], [(180, 5, (0, 1, 0)), (180, 7, (0, 2, 0))], [(2, 180, 5), (2, 180, 7)], [(some (0, 0, 0), [(0, 0, 0, 0, 0, 0), (0, 940, 0, 0, 0, 940), (0, 3, 0, 0, 0, 3)], [(180, 5, (0, 1, 0)), (180, 7, (0, 2, 0))], []), (some (0, 0, 1), [(0, 0, 0, 0, 0, 0), (0, 940, 0, 0, 0, 940), (3, 3, 0, 3, 0, 3), (0, 940, 1, 0, 0, 940), (0, 3, 0, 0, 0, 3), (0, 9, 0, 0, 0, 9)], [(180, 5, (0, 3, 0)), (180, 7, (0, 4, 0)), (180, 13, (0, 5, 0))], [(2, 180, 5), (2, 180, 7), (2, 180, 13)]), (some (0, 0, 1), [(0, 0, 0, 0, 0, 0), (0, 939, 0, 0, 0, 939), (3, 3, 0, 3, 0, 3), (1, 940, 0, 1, 0, 940), (1, 900, 1, 1, 0, 900), (0, 9, 0, 0, 0, 9)], [(180, 3, (0, 3, 0)), (180, 5, (0, 4, 0)), (180, 7, (0, 0, 4)), (180, 13, (0, 5, 0))], [(2, 180, 3), (2, 180, 5), (2, 180, 13)])], [(180, 5, 13)], [], [], [])
set_option maxRecDepth 100000 in
theorem syc_178 : CoOk GG MM syt_178 := chk_ok (cs := [syt_149, syt_147, syt_73, syt_177]) (F := 4000) (List.forall_mem_cons.mpr ⟨syc_149, List.forall_mem_cons.mpr ⟨syc_147, List.forall_mem_cons.mpr ⟨syc_73, List.forall_mem_cons.mpr ⟨syc_177, fun _ h => absurd h List.not_mem_nil⟩⟩⟩⟩) (by decide +kernel) (by decide +kernel)
/-- M.put -/
def syt_179 : CO := (244, 1, [(0, 0, 0, 0, 0, 0), (36, 43, 0, 36, 0, 43), (0, 9, 0, 0, 0, 9)], [(2, 180, 0), (0, 1, 0), (0, 0, 1)], [(180, 13, (0, 2, 0))], [(1, 1, 0), (2, 180, 13)], [(some (0, 0, 1), [(0, 0, 0, 0, 0, 0), (36, 43, 0, 36, 0, 43), (0, 9, 0, 0, 0, 9)], [(180, 13, (0, 2, 0))], [])], [(183, 36, 43)], [], [], [])
set_option maxRecDepth 100000 in
theorem syc_179 : CoOk GG MM syt_179 := chk_ok (cs := []) (F := 4000) (fun _ h => absurd h List.not_mem_nil) (by decide +kernel) (by decide +kernel)
/-- M.isWord -/
def syt_180 : CO := (227, 1, [(0, 0, 0, 0, 0, 0), (0, 940, 0, 0, 0, 940)], [(2, 180, 0), (0, 0, 2)], [(180, 5, (0, 1, 0)), (180, 7, (0, 0, 4))], [(2, 180, 5)], [(some (0, 0, 0), [(0, 0, 0, 0, 0, 0), (0, 940, 0, 0, 0, 940)], [(180, 5, (0, 1, 0)), (180, 7, (0, 0, 4))], [])], [], [], [], [])
set_option maxRecDepth 100000 in
theorem syc_180 : CoOk GG MM syt_180 := chk_ok (cs := []) (F := 4000) (fun _ h => absurd h List.not_mem_nil) (by decide +kernel) (by decide +kernel)
/-- M.readFlag -/
def syt_181 : CO := (253, 2, [(0, 0, 0, 0, 0, 0), (0, 7, 0, 0, 0, 7), (0, 940, 0, 0, 0, 940)], [(2, 180, 0), (0, 0, 2), (0, 0, 44), (0, 1, 0)], [(180, 5, (0, 2, 0)), (180, 7, (0, 0, 4))], [(1, 3, 0), (2, 180, 5)], [(none, [(0, 0, 0, 0, 0, 0), (0, 7, 0, 0, 0, 7), (0, 940, 0, 0, 0, 940)], [(180, 5, (0, 2, 0)), (180, 7, (0, 0, 4))], [])], [], [], [], [])
set_option maxRecDepth 100000 in
theorem syc_181 : CoOk GG MM syt_181 := chk_ok (cs := [syt_180]) (F := 4000) (List.forall_mem_cons.mpr ⟨syc_180, fun _ h => absurd h List.not_mem_nil⟩) (by decide +kernel) (by decide +kernel)
/-- M.isWord -/
def syt_182 : CO := (227, 3, [(0, 0, 0, 0, 0, 0), (0, 940, 0, 0, 0, 940), (0, 3, 0, 0, 0, 3)], [(2, 180, 0), (0, 0, 2)], [(180, 5, (0, 1, 0)), (180, 7, (0, 2, 0))], [(2, 180, 5), (2, 180, 7)], [(some (0, 0, 0), [(0, 0, 0, 0, 0, 0), (0, 940, 0, 0, 0, 940), (0, 3, 0, 0, 0, 3)], [(180, 5, (0, 1, 0)), (180, 7, (0, 2, 0))], []), (some (0, 0, 1), [(0, 0, 0, 0, 0, 0), (0, 940, 0, 0, 0, 940), (2, 2, 0, 2, 0, 2)], [(180, 5, (0, 1, 0)), (180, 7, (0, 2, 0))], [])], [], [], [], [])
set_option maxRecDepth 100000 in
theorem syc_182 : CoOk GG MM syt_182 := chk_ok (cs := [syt_83]) (F := 4000) (List.forall_mem_cons.mpr ⟨syc_83, fun _ h => absurd h List.not_mem_nil⟩) (by decide +kernel) (by decide +kernel)
/-- M.readFlag -/
def syt_183 : CO := (253, 4, [(0, 0, 0, 0, 0, 0), (0, 7, 0, 0, 0, 7), (0, 940, 0, 0, 0, 940), (0, 3, 0, 0, 0, 3)], [(2, 180, 0), (0, 0, 2), (0, 0, 44), (0, 1, 0)], [(180, 5, (0, 2, 0)), (180, 7, (0, 3, 0))], [(1, 3, 0), (2, 180, 5), (2, 180, 7)], [(none, [(0, 0, 0, 0, 0, 0), (0, 7, 0, 0, 0, 7), (0, 940, 0, 0, 0, 940), (0, 3, 0, 0, 0, 3), (0, 940, 2, 0, 0, 940), (0, 3, 0, 0, 0, 3)], [(180, 5, (0, 4, 0)), (180, 7, (0, 5, 0))], [(2, 180, 5), (2, 180, 7)]), (none, [(0, 0, 0, 0, 0, 0), (0, 7, 0, 0, 0, 7), (0, 939, 0, 0, 0, 939), (2, 2, 0, 2, 0, 2), (1, 940, 0, 1, 0, 940), (1, 900, 2, 1, 0, 900)], [(180, 3, (0, 4, 0)), (180, 5, (0, 5, 0)), (180, 7, (0, 0, 4))], [(2, 180, 3), (2, 180, 5)])], [(180, 5, 9), (180, 12, 12), (183, 44, 44)], [], [], [])
set_option maxRecDepth 100000 in
theorem syc_183 : CoOk GG MM syt_183 := chk_ok (cs := [syt_73, syt_182]) (F := 4000) (List.forall_mem_cons.mpr ⟨syc_73, List.forall_mem_cons.mpr ⟨syc_182, fun _ h => absurd h List.not_mem_nil⟩⟩) (by decide +kernel) (by decide +kernel)
/-- M.put -/
def syt_184 : CO := (244, 1, [(0, 0, 0, 0, 0, 0), (36, 43, 0, 36, 0, 43)], [(2, 180, 0), (0, 1, 0), (0, 0, 0)], [], [(1, 1, 0)], [(some (0, 0, 0), [(0, 0, 0, 0, 0, 0), (36, 43, 0, 36, 0, 43)], [], [])], [], [], [], [])
set_option maxRecDepth 100000 in
theorem syc_184 : CoOk GG MM syt_184 := chk_ok (cs := []) (F := 4000) (fun _ h => absurd h List.not_mem_nil) (by decide +kernel) (by decide +kernel)
/-- M.put -/
def syt_185 : CO := (244, 1, [(0, 0, 0, 0, 0, 0), (28, 35, 0, 28, 0, 35)], [(2, 180, 0), (0, 1, 0), (0, 0, 0)], [], [(1, 1, 0)], [(some (0, 0, 0), [(0, 0, 0, 0, 0, 0), (28, 35, 0, 28, 0, 35)], [], [])], [], [], [], [])
set_option maxRecDepth 100000 in
theorem syc_185 : CoOk GG MM syt_185 := chk_ok (cs := []) (F := 4000) (fun _ h => absurd h List.not_mem_nil) (by decide +kernel) (by decide +kernel)
/-- M.readDeed -/
def syt_186 : CO := (249, 5, [(0, 0, 0, 0, 0, 0), (0, 940, 0, 0, 0, 940), (2, 2, 0, 2, 0, 2)], [(2, 180, 0)], [(180, 5, (0, 1, 0)), (180, 7, (0, 2, 0))], [(2, 180, 5), (2, 180, 7)], [(some (0, 0, 0), [(0, 0, 0, 0, 0, 0), (0, 940, 0, 0, 0, 940), (2, 2, 0, 2, 0, 2), (0, 940, 1, 0, 0, 940), (0, 4, 0, 0, 0, 4), (0, 8, 0, 0, 0, 8)], [(180, 5, (0, 3, 0)), (180, 7, (0, 4, 0)), (183, 1, (0, 5, 0))], [(2, 180, 5), (2, 180, 7), (2, 183, 1)]), (some (0, 0, 1), [(0, 0, 0, 0, 0, 0), (0, 940, 0, 0, 0, 940), (2, 2, 0, 2, 0, 2), (1, 940, 0, 1, 0, 940), (1, 900, 1, 1, 0, 900), (0, 9, 0, 0, 0, 9), (1, 8, 0, 1, 0, 8)], [(180, 3, (0, 3, 0)), (180, 5, (0, 4, 0)), (180, 7, (0, 0, 4)), (180, 13, (0, 5, 0)), (183, 1, (0, 6, 0))], [(2, 180, 3), (2, 180, 5), (2, 180, 13), (2, 183, 1)]), (some (0, 0, 1), [(0, 0, 0, 0, 0, 0), (0, 940, 0, 0, 0, 940), (2, 2, 0, 2, 0, 2), (0, 940, 1, 0, 0, 940), (0, 3, 0, 0, 0, 3), (0, 9, 0, 0, 0, 9), (1, 8, 0, 1, 0, 8)], [(180, 5, (0, 3, 0)), (180, 7, (0, 4, 0)), (180, 13, (0, 5, 0)), (183, 1, (0, 6, 0))], [(2, 180, 5), (2, 180, 7), (2, 180, 13), (2, 183, 1)])], [(180, 5, 13), (183, 1, 1), (183, 20, 44), (188, 7, 14)], [], [], [])
set_option maxRecDepth 100000 in
theorem syc_186 : CoOk GG MM syt_186 := chk_ok (cs := [syt_166, syt_184, syt_185, syt_179, syt_169, syt_171, syt_174, syt_176, syt_161, syt_181, syt_183, syt_164, syt_165, syt_170, syt_175, syt_168, syt_173, syt_178]) (F := 4000) (List.forall_mem_cons.mpr ⟨syc_166, List.forall_mem_cons.mpr ⟨syc_184, List.forall_mem_cons.mpr ⟨syc_185, List.forall_mem_cons.mpr ⟨syc_179, List.forall_mem_cons.mpr ⟨syc_169, List.forall_mem_cons.mpr ⟨syc_171, List.forall_mem_cons.mpr ⟨syc_174, List.forall_mem_cons.mpr ⟨syc_176, List.forall_mem_cons.mpr ⟨syc_161, List.forall_mem_cons.mpr ⟨syc_181, List.forall_mem_cons.mpr ⟨syc_183, List.forall_mem_cons.mpr ⟨syc_164, List.forall_mem_cons.mpr ⟨syc_165, List.forall_mem_cons.mpr ⟨syc_170, List.forall_mem_cons.mpr ⟨syc_175, List.forall_mem_cons.mpr ⟨syc_168, List.forall_mem_cons.mpr ⟨syc_173, List.forall_mem_cons.mpr ⟨syc_178, fun _ h => absurd h List.not_mem_nil⟩⟩⟩⟩⟩⟩⟩⟩⟩⟩⟩⟩⟩⟩⟩⟩⟩⟩) (by decide +kernel) (by decide +kernel)
/-- M.isWord -/
def syt_187 : CO := (227, 3, [(0, 0, 0, 0, 0, 0), (0, 940, 0, 0, 0, 940), (1, 4, 0, 1, 0, 4)], [(2, 180, 0), (0, 0, 3)], [(180, 5, (0, 1, 0)), (180, 7, (0, 2, 0))], [(2, 180, 5), (2, 180, 7)], [(some (0, 0, 0), [(0, 0, 0, 0, 0, 0), (0, 940, 0, 0, 0, 940), (1, 4, 0, 1, 0, 4)], [(180, 5, (0, 1, 0)), (180, 7, (0, 2, 0))], []), (some (0, 0, 1), [(0, 0, 0, 0, 0, 0), (0, 940, 0, 0, 0, 940), (2, 2, 0, 2, 0, 2)], [(180, 5, (0, 1, 0)), (180, 7, (0, 2, 0))], [])], [], [], [], [])
set_option maxRecDepth 100000 in
theorem syc_187 : CoOk GG MM syt_187 := chk_ok (cs := [syt_85]) (F := 4000) (List.forall_mem_cons.mpr ⟨syc_85, fun _ h => absurd h List.not_mem_nil⟩) (by decide +kernel) (by decide +kernel)
/-- M.isName -/
def syl_188_0 : List LB := [(12, 1, 0, ([(0, 0, 0, 0, 0, 0), (0, 940, 0, 0, 0, 940), (2, 2, 0, 2, 0, 2)], [(0, (2, 180, 0)), (1, (0, 0, 0))], [], [(180, 5, (0, 1, 0)), (180, 7, (0, 2, 0))]), [], [(12, 1)]),
  (12, 2, 0, ([(0, 0, 0, 0, 0, 0), (0, 940, 0, 0, 0, 940), (2, 2, 0, 2, 0, 2)], [(0, (2, 180, 0)), (1, (0, 0, 1))], [], [(180, 5, (0, 1, 0)), (180, 7, (0, 2, 0))]), [], [(12, 2)]),
  (12, 3, 0, ([(0, 0, 0, 0, 0, 0), (0, 940, 0, 0, 0, 940), (2, 2, 0, 2, 0, 2)], [(0, (2, 180, 0)), (1, (0, 0, 2))], [], [(180, 5, (0, 1, 0)), (180, 7, (0, 2, 0))]), [], [(12, 3)]),
  (12, 4, 0, ([(0, 0, 0, 0, 0, 0), (0, 940, 0, 0, 0, 940), (2, 2, 0, 2, 0, 2)], [(0, (2, 180, 0)), (1, (0, 0, 3))], [], [(180, 5, (0, 1, 0)), (180, 7, (0, 2, 0))]), [], [(12, 4)]),
  (12, 5, 0, ([(0, 0, 0, 0, 0, 0), (0, 940, 0, 0, 0, 940), (2, 2, 0, 2, 0, 2)], [(0, (2, 180, 0)), (1, (0, 0, 4))], [], [(180, 5, (0, 1, 0)), (180, 7, (0, 2, 0))]), [], [(12, 5)]),
  (12, 6, 0, ([(0, 0, 0, 0, 0, 0), (0, 940, 0, 0, 0, 940), (2, 2, 0, 2, 0, 2)], [(0, (2, 180, 0)), (1, (0, 0, 5))], [], [(180, 5, (0, 1, 0)), (180, 7, (0, 2, 0))]), [], [(12, 6)]),
  (12, 7, 0, ([(0, 0, 0, 0, 0, 0), (0, 940, 0, 0, 0, 940), (2, 2, 0, 2, 0, 2)], [(0, (2, 180, 0)), (1, (0, 0, 6))], [], [(180, 5, (0, 1, 0)), (180, 7, (0, 2, 0))]), [], [(12, 7)]),
  (12, 8, 0, ([(0, 0, 0, 0, 0, 0), (0, 940, 0, 0, 0, 940), (2, 2, 0, 2, 0, 2)], [(0, (2, 180, 0)), (1, (0, 0, 7))], [], [(180, 5, (0, 1, 0)), (180, 7, (0, 2, 0))]), [], [(12, 8)]),
  (12, 9, 0, ([(0, 0, 0, 0, 0, 0), (0, 940, 0, 0, 0, 940), (2, 2, 0, 2, 0, 2)], [(0, (2, 180, 0)), (1, (0, 0, 8))], [], [(180, 5, (0, 1, 0)), (180, 7, (0, 2, 0))]), [], [(12, 9)]),
  (12, 10, 0, ([(0, 0, 0, 0, 0, 0), (0, 940, 0, 0, 0, 940), (2, 2, 0, 2, 0, 2)], [(0, (2, 180, 0)), (1, (0, 0, 9))], [], [(180, 5, (0, 1, 0)), (180, 7, (0, 2, 0))]), [], [(12, 10)]),
  (12, 11, 0, ([(0, 0, 0, 0, 0, 0), (0, 940, 0, 0, 0, 940), (2, 2, 0, 2, 0, 2)], [(0, (2, 180, 0)), (1, (0, 0, 10))], [], [(180, 5, (0, 1, 0)), (180, 7, (0, 2, 0))]), [], [(12, 11)]),
  (12, 12, 0, ([(0, 0, 0, 0, 0, 0), (0, 940, 0, 0, 0, 940), (2, 2, 0, 2, 0, 2)], [(0, (2, 180, 0)), (1, (0, 0, 11))], [], [(180, 5, (0, 1, 0)), (180, 7, (0, 2, 0))]), [], [(12, 12)]),
  (12, 13, 0, ([(0, 0, 0, 0, 0, 0), (0, 940, 0, 0, 0, 940), (2, 2, 0, 2, 0, 2)], [(0, (2, 180, 0)), (1, (0, 0, 12))], [], [(180, 5, (0, 1, 0)), (180, 7, (0, 2, 0))]), [], [(12, 13)]),
  (12, 14, 0, ([(0, 0, 0, 0, 0, 0), (0, 940, 0, 0, 0, 940), (2, 2, 0, 2, 0, 2)], [(0, (2, 180, 0)), (1, (0, 0, 13))], [], [(180, 5, (0, 1, 0)), (180, 7, (0, 2, 0))]), [], [(12, 14)]),
  (12, 15, 0, ([(0, 0, 0, 0, 0, 0), (0, 940, 0, 0, 0, 940), (2, 2, 0, 2, 0, 2)], [(0, (2, 180, 0)), (1, (0, 0, 14))], [], [(180, 5, (0, 1, 0)), (180, 7, (0, 2, 0))]), [], [(12, 15)]),
  (12, 16, 0, ([(0, 0, 0, 0, 0, 0), (0, 940, 0, 0, 0, 940), (2, 2, 0, 2, 0, 2)], [(0, (2, 180, 0)), (1, (0, 0, 15))], [], [(180, 5, (0, 1, 0)), (180, 7, (0, 2, 0))]), [], [(12, 16)]),
  (12, 17, 0, ([(0, 0, 0, 0, 0, 0), (0, 940, 0, 0, 0, 940), (2, 2, 0, 2, 0, 2)], [(0, (2, 180, 0)), (1, (0, 0, 16))], [], [(180, 5, (0, 1, 0)), (180, 7, (0, 2, 0))]), [], [(12, 17)]),
  (12, 18, 0, ([(0, 0, 0, 0, 0, 0), (0, 940, 0, 0, 0, 940), (2, 2, 0, 2, 0, 2)], [(0, (2, 180, 0)), (1, (0, 0, 17))], [], [(180, 5, (0, 1, 0)), (180, 7, (0, 2, 0))]), [], [(12, 18)]),
  (12, 19, 0, ([(0, 0, 0, 0, 0, 0), (0, 940, 0, 0, 0, 940), (2, 2, 0, 2, 0, 2)], [(0, (2, 180, 0)), (1, (0, 0, 18))], [], [(180, 5, (0, 1, 0)), (180, 7, (0, 2, 0))]), [], [(12, 19)]),
  (12, 20, 0, ([(0, 0, 0, 0, 0, 0), (0, 940, 0, 0, 0, 940), (2, 2, 0, 2, 0, 2)], [(0, (2, 180, 0)), (1, (0, 0, 19))], [], [(180, 5, (0, 1, 0)), (180, 7, (0, 2, 0))]), [], [(12, 20)]),
  (12, 21, 0, ([(0, 0, 0, 0, 0, 0), (0, 940, 0, 0, 0, 940), (2, 2, 0, 2, 0, 2)], [(0, (2, 180, 0)), (1, (0, 0, 20))], [], [(180, 5, (0, 1, 0)), (180, 7, (0, 2, 0))]), [], [(12, 21)])]
def syl_188_1 : List LB := [(12, 22, 0, ([(0, 0, 0, 0, 0, 0), (0, 940, 0, 0, 0, 940), (2, 2, 0, 2, 0, 2)], [(0, (2, 180, 0)), (1, (0, 0, 21))], [], [(180, 5, (0, 1, 0)), (180, 7, (0, 2, 0))]), [], [(12, 22)]),
  (12, 23, 0, ([(0, 0, 0, 0, 0, 0), (0, 940, 0, 0, 0, 940), (2, 2, 0, 2, 0, 2)], [(0, (2, 180, 0)), (1, (0, 0, 22))], [], [(180, 5, (0, 1, 0)), (180, 7, (0, 2, 0))]), [], [(12, 23)]),
  (12, 24, 0, ([(0, 0, 0, 0, 0, 0), (0, 940, 0, 0, 0, 940), (2, 2, 0, 2, 0, 2)], [(0, (2, 180, 0)), (1, (0, 0, 23))], [], [(180, 5, (0, 1, 0)), (180, 7, (0, 2, 0))]), [], [(12, 24)]),
  (12, 25, 0, ([(0, 0, 0, 0, 0, 0), (0, 940, 0, 0, 0, 940), (2, 2, 0, 2, 0, 2)], [(0, (2, 180, 0)), (1, (0, 0, 24))], [], [(180, 5, (0, 1, 0)), (180, 7, (0, 2, 0))]), [], [(12, 25)]),
  (12, 26, 0, ([(0, 0, 0, 0, 0, 0), (0, 940, 0, 0, 0, 940), (2, 2, 0, 2, 0, 2)], [(0, (2, 180, 0)), (1, (0, 0, 25))], [], [(180, 5, (0, 1, 0)), (180, 7, (0, 2, 0))]), [], [(12, 26)]),
  (12, 27, 0, ([(0, 0, 0, 0, 0, 0), (0, 940, 0, 0, 0, 940), (2, 2, 0, 2, 0, 2)], [(0, (2, 180, 0)), (1, (0, 0, 26))], [], [(180, 5, (0, 1, 0)), (180, 7, (0, 2, 0))]), [], [(12, 27)]),
  (12, 28, 0, ([(0, 0, 0, 0, 0, 0), (0, 940, 0, 0, 0, 940), (2, 2, 0, 2, 0, 2)], [(0, (2, 180, 0)), (1, (0, 0, 27))], [], [(180, 5, (0, 1, 0)), (180, 7, (0, 2, 0))]), [], [(12, 28)]),
  (12, 29, 0, ([(0, 0, 0, 0, 0, 0), (0, 940, 0, 0, 0, 940), (2, 2, 0, 2, 0, 2)], [(0, (2, 180, 0)), (1, (0, 0, 28))], [], [(180, 5, (0, 1, 0)), (180, 7, (0, 2, 0))]), [], [(12, 29)]),
  (12, 30, 0, ([(0, 0, 0, 0, 0, 0), (0, 940, 0, 0, 0, 940), (2, 2, 0, 2, 0, 2)], [(0, (2, 180, 0)), (1, (0, 0, 29))], [], [(180, 5, (0, 1, 0)), (180, 7, (0, 2, 0))]), [], [(12, 30)]),
  (12, 31, 0, ([(0, 0, 0, 0, 0, 0), (0, 940, 0, 0, 0, 940), (2, 2, 0, 2, 0, 2)], [(0, (2, 180, 0)), (1, (0, 0, 30))], [], [(180, 5, (0, 1, 0)), (180, 7, (0, 2, 0))]), [], [])]
def syt_188 : CO := (221, 3, [(0, 0, 0, 0, 0, 0), (0, 940, 0, 0, 0, 940), (2, 3, 0, 2, 0, 3)], [(2, 180, 0)], [(180, 5, (0, 1, 0)), (180, 7, (0, 2, 0))], [(2, 180, 5), (2, 180, 7)], [(some (0, 0, 0), [(0, 0, 0, 0, 0, 0), (0, 940, 0, 0, 0, 940), (2, 3, 0, 2, 0, 3)], [(180, 5, (0, 1, 0)), (180, 7, (0, 2, 0))], []), (some (0, 0, 1), [(0, 0, 0, 0, 0, 0), (0, 940, 0, 0, 0, 940), (2, 2, 0, 2, 0, 2)], [(180, 5, (0, 1, 0)), (180, 7, (0, 2, 0))], [])], [], (syl_188_0 ++ (syl_188_1)), [], [(12, 0)])
set_option maxRecDepth 100000 in
theorem syp_188_0 : runL MM GG [syt_76, syt_81, syt_83, syt_85, syt_87, syt_89, syt_91, syt_93, syt_95, syt_97, syt_99, syt_101, syt_103, syt_105, syt_107, syt_109, syt_111, syt_113, syt_115, syt_117, syt_119, syt_121, syt_123, syt_125, syt_127, syt_129, syt_131, syt_133, syt_135, syt_137] syt_188 4000 0 syl_188_0 = true := by decide +kernel
set_option maxRecDepth 100000 in
theorem syp_188_1 : runL MM GG [syt_76, syt_81, syt_83, syt_85, syt_87, syt_89, syt_91, syt_93, syt_95, syt_97, syt_99, syt_101, syt_103, syt_105, syt_107, syt_109, syt_111, syt_113, syt_115, syt_117, syt_119, syt_121, syt_123, syt_125, syt_127, syt_129, syt_131, syt_133, syt_135, syt_137] syt_188 4000 21 syl_188_1 = true := by decide +kernel
set_option maxRecDepth 100000 in
theorem syc_188 : CoOk GG MM syt_188 := chk_ok (cs := [syt_76, syt_81, syt_83, syt_85, syt_87, syt_89, syt_91, syt_93, syt_95, syt_97, syt_99, syt_101, syt_103, syt_105, syt_107, syt_109, syt_111, syt_113, syt_115, syt_117, syt_119, syt_121, syt_123, syt_125, syt_127, syt_129, syt_131, syt_133, syt_135, syt_137]) (F := 4000) (List.forall_mem_cons.mpr ⟨syc_76, List.forall_mem_cons.mpr ⟨syc_81, List.forall_mem_cons.mpr ⟨syc_83, List.forall_mem_cons.mpr ⟨syc_85, List.forall_mem_cons.mpr ⟨syc_87, List.forall_mem_cons.mpr ⟨syc_89, List.forall_mem_cons.mpr ⟨syc_91, List.forall_mem_cons.mpr ⟨syc_93, List.forall_mem_cons.mpr ⟨syc_95, List.forall_mem_cons.mpr ⟨syc_97, List.forall_mem_cons.mpr ⟨syc_99, List.forall_mem_cons.mpr ⟨syc_101, List.forall_mem_cons.mpr ⟨syc_103, List.forall_mem_cons.mpr ⟨syc_105, List.forall_mem_cons.mpr ⟨syc_107, List.forall_mem_cons.mpr ⟨syc_109, List.forall_mem_cons.mpr ⟨syc_111, List.forall_mem_cons.mpr ⟨syc_113, List.forall_mem_cons.mpr ⟨syc_115, List.forall_mem_cons.mpr ⟨syc_117, List.forall_mem_cons.mpr ⟨syc_119, List.forall_mem_cons.mpr ⟨syc_121, List.forall_mem_cons.mpr ⟨syc_123, List.forall_mem_cons.mpr ⟨syc_125, List.forall_mem_cons.mpr ⟨syc_127, List.forall_mem_cons.mpr ⟨syc_129, List.forall_mem_cons.mpr ⟨syc_131, List.forall_mem_cons.mpr ⟨syc_133, List.forall_mem_cons.mpr ⟨syc_135, List.forall_mem_cons.mpr ⟨syc_137, fun _ h => absurd h List.not_mem_nil⟩⟩⟩⟩⟩⟩⟩⟩⟩⟩⟩⟩⟩⟩⟩⟩⟩⟩⟩⟩⟩⟩⟩⟩⟩⟩⟩⟩⟩⟩) (by decide +kernel) (runL_app syp_188_0 (syp_188_1))
/-- M.bad -/
def syt_189 : CO := (174, 1, [(0, 0, 0, 0, 0, 0), (0, 940, 0, 0, 0, 940), (2, 3, 0, 2, 0, 3)], [(2, 180, 0), (0, 0, 1)], [(180, 5, (0, 1, 0)), (180, 7, (0, 2, 0))], [(2, 180, 5), (2, 180, 7)], [(some (0, 0, 0), [(0, 0, 0, 0, 0, 0), (0, 940, 0, 0, 0, 940), (2, 3, 0, 2, 0, 3)], [(180, 5, (0, 1, 0)), (180, 7, (0, 2, 0))], [])], [(180, 10, 11)], [], [], [])
set_option maxRecDepth 100000 in
theorem syc_189 : CoOk GG MM syt_189 := chk_ok (cs := []) (F := 4000) (fun _ h => absurd h List.not_mem_nil) (by decide +kernel) (by decide +kernel)
/-- M.isOne -/
def syt_190 : CO := (222, 4, [(0, 0, 0, 0, 0, 0), (0, 940, 0, 0, 0, 940), (2, 3, 0, 2, 0, 3)], [(2, 180, 0)], [(180, 5, (0, 1, 0)), (180, 7, (0, 2, 0))], [(2, 180, 5), (2, 180, 7)], [(some (0, 0, 0), [(0, 0, 0, 0, 0, 0), (0, 940, 0, 0, 0, 940), (2, 3, 0, 2, 0, 3)], [(180, 5, (0, 1, 0)), (180, 7, (0, 2, 0))], []), (some (0, 0, 1), [(0, 0, 0, 0, 0, 0), (0, 940, 0, 0, 0, 940), (2, 2, 0, 2, 0, 2), (0, 6, 0, 0, 0, 6), (1, 7, 0, 1, 0, 7)], [(180, 5, (0, 1, 0)), (180, 7, (0, 2, 0)), (180, 13, (0, 3, 0)), (183, 0, (0, 4, 0))], [(2, 180, 13), (2, 183, 0)])], [(180, 10, 11), (180, 13, 13)], [], [], [])
set_option maxRecDepth 100000 in
theorem syc_190 : CoOk GG MM syt_190 := chk_ok (cs := [syt_141, syt_189, syt_162, syt_188]) (F := 4000) (List.forall_mem_cons.mpr ⟨syc_141, List.forall_mem_cons.mpr ⟨syc_189, List.forall_mem_cons.mpr ⟨syc_162, List.forall_mem_cons.mpr ⟨syc_188, fun _ h => absurd h List.not_mem_nil⟩⟩⟩⟩) (by decide +kernel) (by decide +kernel)
/-- M.isName -/
def syt_191 : CO := (221, 1, [(0, 0, 0, 0, 0, 0), (0, 940, 0, 0, 0, 940)], [(2, 180, 0)], [(180, 5, (0, 1, 0)), (180, 7, (0, 0, 4))], [(2, 180, 5)], [(some (0, 0, 0), [(0, 0, 0, 0, 0, 0), (0, 940, 0, 0, 0, 940)], [(180, 5, (0, 1, 0)), (180, 7, (0, 0, 4))], [])], [], [], [], [])
set_option maxRecDepth 100000 in
theorem syc_191 : CoOk GG MM syt_191 := chk_ok (cs := []) (F := 4000) (fun _ h => absurd h List.not_mem_nil) (by decide +kernel) (by decide +kernel)
/-- M.isOne -/
def syt_192 : CO := (222, 2, [(0, 0, 0, 0, 0, 0), (0, 940, 0, 0, 0, 940)], [(2, 180, 0)], [(180, 5, (0, 1, 0)), (180, 7, (0, 0, 4))], [(2, 180, 5)], [(some (0, 0, 0), [(0, 0, 0, 0, 0, 0), (0, 940, 0, 0, 0, 940)], [(180, 5, (0, 1, 0)), (180, 7, (0, 0, 4))], [])], [(180, 10, 11)], [], [], [])
set_option maxRecDepth 100000 in
theorem syc_192 : CoOk GG MM syt_192 := chk_ok (cs := [syt_144, syt_191]) (F := 4000) (List.forall_mem_cons.mpr ⟨syc_144, List.forall_mem_cons.mpr ⟨syc_191, fun _ h => absurd h List.not_mem_nil⟩⟩) (by decide +kernel) (by decide +kernel)
/-- M.isName -/
def syt_193 : CO := (221, 1, [(0, 0, 0, 0, 0, 0), (0, 940, 0, 0, 0, 940), (0, 1, 0, 0, 0, 1)], [(2, 180, 0)], [(180, 5, (0, 1, 0)), (180, 7, (0, 2, 0))], [(2, 180, 5), (2, 180, 7)], [(some (0, 0, 0), [(0, 0, 0, 0, 0, 0), (0, 940, 0, 0, 0, 940), (0, 1, 0, 0, 0, 1)], [(180, 5, (0, 1, 0)), (180, 7, (0, 2, 0))], [])], [], [], [], [])
set_option maxRecDepth 100000 in
theorem syc_193 : CoOk GG MM syt_193 := chk_ok (cs := []) (F := 4000) (fun _ h => absurd h List.not_mem_nil) (by decide +kernel) (by decide +kernel)
/-- M.bad -/
def syt_194 : CO := (174, 1, [(0, 0, 0, 0, 0, 0), (0, 940, 0, 0, 0, 940), (0, 1, 0, 0, 0, 1)], [(2, 180, 0), (0, 0, 1)], [(180, 5, (0, 1, 0)), (180, 7, (0, 2, 0))], [(2, 180, 5), (2, 180, 7)], [(some (0, 0, 0), [(0, 0, 0, 0, 0, 0), (0, 940, 0, 0, 0, 940), (0, 1, 0, 0, 0, 1)], [(180, 5, (0, 1, 0)), (180, 7, (0, 2, 0))], [])], [(180, 10, 11)], [], [], [])
set_option maxRecDepth 100000 in
theorem syc_194 : CoOk GG MM syt_194 := chk_ok (cs := []) (F := 4000) (fun _ h => absurd h List.not_mem_nil) (by decide +kernel) (by decide +kernel)
/-- M.isOne -/
def syt_195 : CO := (222, 2, [(0, 0, 0, 0, 0, 0), (0, 940, 0, 0, 0, 940), (0, 1, 0, 0, 0, 1)], [(2, 180, 0)], [(180, 5, (0, 1, 0)), (180, 7, (0, 2, 0))], [(2, 180, 5), (2, 180, 7)], [(some (0, 0, 0), [(0, 0, 0, 0, 0, 0), (0, 940, 0, 0, 0, 940), (0, 1, 0, 0, 0, 1)], [(180, 5, (0, 1, 0)), (180, 7, (0, 2, 0))], [])], [(180, 10, 11)], [], [], [])
set_option maxRecDepth 100000 in
theorem syc_195 : CoOk GG MM syt_195 := chk_ok (cs := [syt_194, syt_193]) (F := 4000) (List.forall_mem_cons.mpr ⟨syc_194, List.forall_mem_cons.mpr ⟨syc_193, fun _ h => absurd h List.not_mem_nil⟩⟩) (by decide +kernel) (by decide +kernel)
/-- M.readPair -/
def syt_196 : CO := (264, 5, [(0, 0, 0, 0, 0, 0), (0, 940, 0, 0, 0, 940), (2, 2, 0, 2, 0, 2)], [(2, 180, 0)], [(180, 5, (0, 1, 0)), (180, 7, (0, 2, 0))], [(2, 180, 5), (2, 180, 7)], [(some (0, 8, 0), [(0, 0, 0, 0, 0, 0), (0, 940, 0, 0, 0, 940), (2, 2, 0, 2, 0, 2), (1, 940, 0, 1, 0, 940), (0, 940, 1, 0, 0, 940), (2, 2, 0, 2, 0, 2), (0, 6, 0, 0, 0, 6), (1, 7, 0, 1, 0, 7), (0, 6, 0, 0, 0, 6)], [(180, 3, (0, 3, 0)), (180, 5, (0, 4, 0)), (180, 7, (0, 5, 0)), (180, 13, (0, 6, 0)), (183, 0, (0, 7, 0))], [(2, 180, 3), (2, 180, 5), (2, 180, 7), (2, 180, 13), (2, 183, 0), (1, 0, 0)]), (some (0, 0, (-1)), [(0, 0, 0, 0, 0, 0), (0, 940, 0, 0, 0, 940), (2, 2, 0, 2, 0, 2), (0, 940, 1, 0, 0, 940), (0, 4, 0, 0, 0, 4)], [(180, 5, (0, 3, 0)), (180, 7, (0, 4, 0))], [(2, 180, 5), (2, 180, 7)])], [(180, 5, 13)], [], [], [])
set_option maxRecDepth 100000 in
theorem syc_196 : CoOk GG MM syt_196 := chk_ok (cs := [syt_141, syt_73, syt_192, syt_190, syt_195]) (F := 4000) (List.forall_mem_cons.mpr ⟨syc_141, List.forall_mem_cons.mpr ⟨syc_73, List.forall_mem_cons.mpr ⟨syc_192, List.forall_mem_cons.mpr ⟨syc_190, List.forall_mem_cons.mpr ⟨syc_195, fun _ h => absurd h List.not_mem_nil⟩⟩⟩⟩⟩) (by decide +kernel) (by decide +kernel)
/-- M.has -/
def syt_197 : CO := (209, 1, [(0, 0, 0, 0, 0, 0), ((-2147483648), 2147483647, 0, (-2147483648), 0, 2147483647), ((-2147483648), 2147483647, 0, (-2147483648), 0, 2147483647)], [(0, 1, 0), (0, 2, 0)], [], [(1, 0, 0), (1, 1, 0)], [(some (0, 0, 1), [(0, 0, 0, 0, 0, 0), ((-2147483648), 2147483647, 0, (-2147483648), 0, 2147483647), ((-2147483648), 2147483647, 0, (-2147483648), 0, 2147483647)], [], []), (some (0, 0, 0), [(0, 0, 0, 0, 0, 0), ((-2147483648), 2147483647, 0, (-2147483648), 0, 2147483647), ((-2147483648), 2147483647, 0, (-2147483648), 0, 2147483647)], [], [])], [], [], [], [])
set_option maxRecDepth 100000 in
theorem syc_197 : CoOk GG MM syt_197 := chk_ok (cs := []) (F := 4000) (fun _ h => absurd h List.not_mem_nil) (by decide +kernel) (by decide +kernel)
/-- M.readSees -/
def syt_198 : CO := (267, 6, [(0, 0, 0, 0, 0, 0), (0, 940, 0, 0, 0, 940), (2, 2, 0, 2, 0, 2)], [(2, 180, 0)], [(180, 5, (0, 1, 0)), (180, 7, (0, 2, 0))], [(2, 180, 5), (2, 180, 7)], [(some (0, 0, 0), [(0, 0, 0, 0, 0, 0), (0, 940, 0, 0, 0, 940), (2, 2, 0, 2, 0, 2), (0, 940, 1, 0, 0, 940), (0, 4, 0, 0, 0, 4)], [(180, 5, (0, 3, 0)), (180, 7, (0, 4, 0))], [(2, 180, 5), (2, 180, 7)]), (some (0, 0, 1), [(0, 0, 0, 0, 0, 0), (0, 940, 0, 0, 0, 940), (2, 2, 0, 2, 0, 2), (0, 940, 1, 0, 0, 940), (0, 3, 0, 0, 0, 3), (0, 6, 0, 0, 0, 6), (1, 7, 0, 1, 0, 7)], [(180, 5, (0, 3, 0)), (180, 7, (0, 4, 0)), (180, 13, (0, 5, 0)), (183, 0, (0, 6, 0))], [(2, 180, 5), (2, 180, 7), (2, 180, 13), (2, 183, 0)]), (some (0, 0, 1), [(0, 0, 0, 0, 0, 0), (0, 940, 0, 0, 0, 940), (2, 2, 0, 2, 0, 2), (1, 940, 0, 1, 0, 940), (1, 900, 1, 1, 0, 900), (0, 6, 0, 0, 0, 6), (1, 7, 0, 1, 0, 7)], [(180, 3, (0, 3, 0)), (180, 5, (0, 4, 0)), (180, 7, (0, 0, 4)), (180, 13, (0, 5, 0)), (183, 0, (0, 6, 0))], [(2, 180, 3), (2, 180, 5), (2, 180, 13), (2, 183, 0)])], [(180, 5, 13), (183, 45, 51)], [], [], [])
set_option maxRecDepth 100000 in
theorem syc_198 : CoOk GG MM syt_198 := chk_ok (cs := [syt_141, syt_73, syt_197, syt_196]) (F := 4000) (List.forall_mem_cons.mpr ⟨syc_141, List.forall_mem_cons.mpr ⟨syc_73, List.forall_mem_cons.mpr ⟨syc_197, List.forall_mem_cons.mpr ⟨syc_196, fun _ h => absurd h List.not_mem_nil⟩⟩⟩⟩) (by decide +kernel) (by decide +kernel)
/-- M.isWord -/
def syt_199 : CO := (227, 3, [(0, 0, 0, 0, 0, 0), (0, 940, 0, 0, 0, 940), (1, 4, 0, 1, 0, 4)], [(2, 180, 0), (0, 0, 4)], [(180, 5, (0, 1, 0)), (180, 7, (0, 2, 0))], [(2, 180, 5), (2, 180, 7)], [(some (0, 0, 0), [(0, 0, 0, 0, 0, 0), (0, 940, 0, 0, 0, 940), (1, 4, 0, 1, 0, 4)], [(180, 5, (0, 1, 0)), (180, 7, (0, 2, 0))], []), (some (0, 0, 1), [(0, 0, 0, 0, 0, 0), (0, 940, 0, 0, 0, 940), (2, 2, 0, 2, 0, 2)], [(180, 5, (0, 1, 0)), (180, 7, (0, 2, 0))], [])], [], [], [], [])
set_option maxRecDepth 100000 in
theorem syc_199 : CoOk GG MM syt_199 := chk_ok (cs := [syt_87]) (F := 4000) (List.forall_mem_cons.mpr ⟨syc_87, fun _ h => absurd h List.not_mem_nil⟩) (by decide +kernel) (by decide +kernel)
/-- M.bad -/
def syt_200 : CO := (174, 1, [(0, 0, 0, 0, 0, 0), (0, 940, 0, 0, 0, 940), (2, 2, 0, 2, 0, 2)], [(2, 180, 0), (0, 0, 1)], [(180, 5, (0, 1, 0)), (180, 7, (0, 2, 0))], [(2, 180, 5), (2, 180, 7)], [(some (0, 0, 0), [(0, 0, 0, 0, 0, 0), (0, 940, 0, 0, 0, 940), (2, 2, 0, 2, 0, 2)], [(180, 5, (0, 1, 0)), (180, 7, (0, 2, 0))], [])], [(180, 10, 11)], [], [], [])
set_option maxRecDepth 100000 in
theorem syc_200 : CoOk GG MM syt_200 := chk_ok (cs := []) (F := 4000) (fun _ h => absurd h List.not_mem_nil) (by decide +kernel) (by decide +kernel)
/-- M.readNumber -/
def syt_201 : CO := (260, 3, [(0, 0, 0, 0, 0, 0), (0, 940, 0, 0, 0, 940), (2, 3, 0, 2, 0, 3)], [(2, 180, 0), (0, 0, 1), (0, 0, 9)], [(180, 5, (0, 1, 0)), (180, 7, (0, 2, 0))], [(2, 180, 5), (2, 180, 7)], [(some (0, 0, 0), [(0, 0, 0, 0, 0, 0), (0, 940, 0, 0, 0, 940), (2, 3, 0, 2, 0, 3)], [(180, 5, (0, 1, 0)), (180, 7, (0, 2, 0))], []), (some (0, 0, 1), [(0, 0, 0, 0, 0, 0), (0, 940, 0, 0, 0, 940), (3, 3, 0, 3, 0, 3), (0, 940, 1, 0, 0, 940), (0, 3, 0, 0, 0, 3), (1, 9, 0, 1, 0, 9)], [(180, 5, (0, 3, 0)), (180, 7, (0, 4, 0)), (180, 13, (0, 5, 0))], [(2, 180, 5), (2, 180, 7), (2, 180, 13)]), (some (0, 0, 1), [(0, 0, 0, 0, 0, 0), (0, 939, 0, 0, 0, 939), (3, 3, 0, 3, 0, 3), (1, 940, 0, 1, 0, 940), (1, 900, 1, 1, 0, 900), (1, 9, 0, 1, 0, 9)], [(180, 3, (0, 3, 0)), (180, 5, (0, 4, 0)), (180, 7, (0, 0, 4)), (180, 13, (0, 5, 0))], [(2, 180, 3), (2, 180, 5), (2, 180, 13)])], [(180, 5, 13)], [], [], [])
set_option maxRecDepth 100000 in
theorem syc_201 : CoOk GG MM syt_201 := chk_ok (cs := [syt_149, syt_200, syt_73, syt_148]) (F := 4000) (List.forall_mem_cons.mpr ⟨syc_149, List.forall_mem_cons.mpr ⟨syc_200, List.forall_mem_cons.mpr ⟨syc_73, List.forall_mem_cons.mpr ⟨syc_148, fun _ h => absurd h List.not_mem_nil⟩⟩⟩⟩) (by decide +kernel) (by decide +kernel)
/-- M.put -/
def syt_202 : CO := (244, 1, [(0, 0, 0, 0, 0, 0), (52, 100, 0, 52, 0, 100), (1, 9, 0, 1, 0, 9)], [(2, 180, 0), (0, 1, 0), (0, 0, 1)], [(180, 13, (0, 2, 0))], [(1, 1, 0), (2, 180, 13)], [(some (0, 0, 1), [(0, 0, 0, 0, 0, 0), (52, 100, 0, 52, 0, 100), (1, 9, 0, 1, 0, 9)], [(180, 13, (0, 2, 0))], [])], [(183, 52, 100)], [], [], [])
set_option maxRecDepth 100000 in
theorem syc_202 : CoOk GG MM syt_202 := chk_ok (cs := []) (F := 4000) (fun _ h => absurd h List.not_mem_nil) (by decide +kernel) (by decide +kernel)
/-- M.put -/
def syt_203 : CO := (244, 1, [(0, 0, 0, 0, 0, 0), (52, 100, 0, 52, 0, 100)], [(2, 180, 0), (0, 1, 0), (0, 0, 0)], [], [(1, 1, 0)], [(some (0, 0, 0), [(0, 0, 0, 0, 0, 0), (52, 100, 0, 52, 0, 100)], [], [])], [], [], [], [])
set_option maxRecDepth 100000 in
theorem syc_203 : CoOk GG MM syt_203 := chk_ok (cs := []) (F := 4000) (fun _ h => absurd h List.not_mem_nil) (by decide +kernel) (by decide +kernel)
/-- M.put -/
def syt_204 : CO := (244, 1, [(0, 0, 0, 0, 0, 0), (52, 100, 0, 52, 0, 100), (0, 6, 0, 0, 0, 6)], [(2, 180, 0), (0, 1, 0), (0, 0, 0)], [(180, 13, (0, 2, 0))], [(1, 1, 0), (2, 180, 13)], [(some (0, 0, 0), [(0, 0, 0, 0, 0, 0), (52, 100, 0, 52, 0, 100), (0, 6, 0, 0, 0, 6)], [(180, 13, (0, 2, 0))], [])], [], [], [], [])
set_option maxRecDepth 100000 in
theorem syc_204 : CoOk GG MM syt_204 := chk_ok (cs := []) (F := 4000) (fun _ h => absurd h List.not_mem_nil) (by decide +kernel) (by decide +kernel)
/-- M.readNumber -/
def syt_205 : CO := (260, 2, [(0, 0, 0, 0, 0, 0), (0, 940, 0, 0, 0, 940), (0, 1, 0, 0, 0, 1)], [(2, 180, 0), (0, 0, 1), (0, 0, 9)], [(180, 5, (0, 1, 0)), (180, 7, (0, 2, 0))], [(2, 180, 5), (2, 180, 7)], [(some (0, 0, 0), [(0, 0, 0, 0, 0, 0), (0, 940, 0, 0, 0, 940), (0, 1, 0, 0, 0, 1)], [(180, 5, (0, 1, 0)), (180, 7, (0, 2, 0))], [])], [(180, 10, 11)], [], [], [])
set_option maxRecDepth 100000 in
theorem syc_205 : CoOk GG MM syt_205 := chk_ok (cs := [syt_194]) (F := 4000) (List.forall_mem_cons.mpr ⟨syc_194, fun _ h => absurd h List.not_mem_nil⟩) (by decide +kernel) (by decide +kernel)
/-- M.readFond -/
def syt_206 : CO := (254, 6, [(0, 0, 0, 0, 0, 0), (0, 940, 0, 0, 0, 940), (2, 2, 0, 2, 0, 2)], [(2, 180, 0)], [(180, 5, (0, 1, 0)), (180, 7, (0, 2, 0))], [(2, 180, 5), (2, 180, 7)], [(some (0, 0, 0), [(0, 0, 0, 0, 0, 0), (0, 940, 0, 0, 0, 940), (2, 2, 0, 2, 0, 2), (0, 940, 1, 0, 0, 940), (0, 4, 0, 0, 0, 4)], [(180, 5, (0, 3, 0)), (180, 7, (0, 4, 0))], [(2, 180, 5), (2, 180, 7)]), (some (0, 0, 1), [(0, 0, 0, 0, 0, 0), (0, 940, 0, 0, 0, 940), (2, 2, 0, 2, 0, 2), (1, 940, 0, 1, 0, 940), (1, 900, 1, 1, 0, 900), (1, 9, 0, 1, 0, 9), (1, 7, 0, 1, 0, 7)], [(180, 3, (0, 3, 0)), (180, 5, (0, 4, 0)), (180, 7, (0, 0, 4)), (180, 13, (0, 5, 0)), (183, 0, (0, 6, 0))], [(2, 180, 3), (2, 180, 5), (2, 180, 13), (2, 183, 0)]), (some (0, 0, 1), [(0, 0, 0, 0, 0, 0), (0, 940, 0, 0, 0, 940), (2, 2, 0, 2, 0, 2), (1, 940, 0, 1, 0, 940), (0, 940, 1, 0, 0, 940), (0, 3, 0, 0, 0, 3), (1, 9, 0, 1, 0, 9), (1, 7, 0, 1, 0, 7)], [(180, 3, (0, 3, 0)), (180, 5, (0, 4, 0)), (180, 7, (0, 5, 0)), (180, 13, (0, 6, 0)), (183, 0, (0, 7, 0))], [(2, 180, 3), (2, 180, 5), (2, 180, 7), (2, 180, 13), (2, 183, 0)])], [(180, 5, 13), (183, 52, 100)], [], [], [])
set_option maxRecDepth 100000 in
theorem syc_206 : CoOk GG MM syt_206 := chk_ok (cs := [syt_141, syt_73, syt_203, syt_204, syt_202, syt_145, syt_201, syt_205, syt_196]) (F := 4000) (List.forall_mem_cons.mpr ⟨syc_141, List.forall_mem_cons.mpr ⟨syc_73, List.forall_mem_cons.mpr ⟨syc_203, List.forall_mem_cons.mpr ⟨syc_204, List.forall_mem_cons.mpr ⟨syc_202, List.forall_mem_cons.mpr ⟨syc_145, List.forall_mem_cons.mpr ⟨syc_201, List.forall_mem_cons.mpr ⟨syc_205, List.forall_mem_cons.mpr ⟨syc_196, fun _ h => absurd h List.not_mem_nil⟩⟩⟩⟩⟩⟩⟩⟩⟩) (by decide +kernel) (by decide +kernel)
/-- M.isWord -/
def syt_207 : CO := (227, 3, [(0, 0, 0, 0, 0, 0), (0, 940, 0, 0, 0, 940), (1, 4, 0, 1, 0, 4)], [(2, 180, 0), (0, 0, 5)], [(180, 5, (0, 1, 0)), (180, 7, (0, 2, 0))], [(2, 180, 5), (2, 180, 7)], [(some (0, 0, 0), [(0, 0, 0, 0, 0, 0), (0, 940, 0, 0, 0, 940), (1, 4, 0, 1, 0, 4)], [(180, 5, (0, 1, 0)), (180, 7, (0, 2, 0))], []), (some (0, 0, 1), [(0, 0, 0, 0, 0, 0), (0, 940, 0, 0, 0, 940), (2, 2, 0, 2, 0, 2)], [(180, 5, (0, 1, 0)), (180, 7, (0, 2, 0))], [])], [], [], [], [])
set_option maxRecDepth 100000 in
theorem syc_207 : CoOk GG MM syt_207 := chk_ok (cs := [syt_89]) (F := 4000) (List.forall_mem_cons.mpr ⟨syc_89, fun _ h => absurd h List.not_mem_nil⟩) (by decide +kernel) (by decide +kernel)
/-- M.isIn -/
def syt_208 : CO := (218, 1, [(0, 0, 0, 0, 0, 0), ((-2147483648), 2147483647, 0, (-2147483648), 0, 2147483647)], [(0, 1, 0), (0, 0, 1), (0, 0, 30)], [], [(1, 0, 0)], [(some (0, 0, 1), [(0, 0, 0, 0, 0, 0), (1, 30, 0, 1, 0, 30)], [], []), (some (0, 0, 0), [(0, 0, 0, 0, 0, 0), ((-2147483648), 2147483647, 0, (-2147483648), 0, 2147483647)], [], [])], [], [], [], [])
set_option maxRecDepth 100000 in
theorem syc_208 : CoOk GG MM syt_208 := chk_ok (cs := []) (F := 4000) (fun _ h => absurd h List.not_mem_nil) (by decide +kernel) (by decide +kernel)
/-- M.readNumber -/
def syt_209 : CO := (260, 3, [(0, 0, 0, 0, 0, 0), (0, 940, 0, 0, 0, 940), (2, 3, 0, 2, 0, 3)], [(2, 180, 0), (0, 0, 1), (0, 0, 30)], [(180, 5, (0, 1, 0)), (180, 7, (0, 2, 0))], [(2, 180, 5), (2, 180, 7)], [(some (0, 0, 0), [(0, 0, 0, 0, 0, 0), (0, 940, 0, 0, 0, 940), (2, 3, 0, 2, 0, 3)], [(180, 5, (0, 1, 0)), (180, 7, (0, 2, 0))], []), (some (0, 0, 1), [(0, 0, 0, 0, 0, 0), (0, 940, 0, 0, 0, 940), (3, 3, 0, 3, 0, 3), (0, 940, 1, 0, 0, 940), (0, 3, 0, 0, 0, 3), (1, 30, 0, 1, 0, 30)], [(180, 5, (0, 3, 0)), (180, 7, (0, 4, 0)), (180, 13, (0, 5, 0))], [(2, 180, 5), (2, 180, 7), (2, 180, 13)]), (some (0, 0, 1), [(0, 0, 0, 0, 0, 0), (0, 939, 0, 0, 0, 939), (3, 3, 0, 3, 0, 3), (1, 940, 0, 1, 0, 940), (1, 900, 1, 1, 0, 900), (1, 30, 0, 1, 0, 30)], [(180, 3, (0, 3, 0)), (180, 5, (0, 4, 0)), (180, 7, (0, 0, 4)), (180, 13, (0, 5, 0))], [(2, 180, 3), (2, 180, 5), (2, 180, 13)])], [(180, 5, 13)], [], [], [])
set_option maxRecDepth 100000 in
theorem syc_209 : CoOk GG MM syt_209 := chk_ok (cs := [syt_149, syt_200, syt_73, syt_208]) (F := 4000) (List.forall_mem_cons.mpr ⟨syc_149, List.forall_mem_cons.mpr ⟨syc_200, List.forall_mem_cons.mpr ⟨syc_73, List.forall_mem_cons.mpr ⟨syc_208, fun _ h => absurd h List.not_mem_nil⟩⟩⟩⟩) (by decide +kernel) (by decide +kernel)
/-- M.put -/
def syt_210 : CO := (244, 1, [(0, 0, 0, 0, 0, 0), (1, 30, 0, 1, 0, 30)], [(2, 180, 0), (0, 0, 2), (0, 0, 1)], [(180, 13, (0, 1, 0))], [(2, 180, 13)], [(some (0, 0, 1), [(0, 0, 0, 0, 0, 0), (1, 30, 0, 1, 0, 30)], [(180, 13, (0, 1, 0))], [])], [(183, 2, 2)], [], [], [])
set_option maxRecDepth 100000 in
theorem syc_210 : CoOk GG MM syt_210 := chk_ok (cs := []) (F := 4000) (fun _ h => absurd h List.not_mem_nil) (by decide +kernel) (by decide +kernel)
/-- M.put -/
def syt_211 : CO := (244, 1, [(0, 0, 0, 0, 0, 0)], [(2, 180, 0), (0, 0, 2), (0, 0, 0)], [], [], [(some (0, 0, 0), [(0, 0, 0, 0, 0, 0)], [], [])], [], [], [], [])
set_option maxRecDepth 100000 in
theorem syc_211 : CoOk GG MM syt_211 := chk_ok (cs := []) (F := 4000) (fun _ h => absurd h List.not_mem_nil) (by decide +kernel) (by decide +kernel)
/-- M.readNumber -/
def syt_212 : CO := (260, 2, [(0, 0, 0, 0, 0, 0), (0, 940, 0, 0, 0, 940)], [(2, 180, 0), (0, 0, 1), (0, 0, 30)], [(180, 5, (0, 1, 0)), (180, 7, (0, 0, 4))], [(2, 180, 5)], [(some (0, 0, 0), [(0, 0, 0, 0, 0, 0), (0, 940, 0, 0, 0, 940)], [(180, 5, (0, 1, 0)), (180, 7, (0, 0, 4))], [])], [(180, 10, 11)], [], [], [])
set_option maxRecDepth 100000 in
theorem syc_212 : CoOk GG MM syt_212 := chk_ok (cs := [syt_144]) (F := 4000) (List.forall_mem_cons.mpr ⟨syc_144, fun _ h => absurd h List.not_mem_nil⟩) (by decide +kernel) (by decide +kernel)
/-- M.readNumber -/
def syt_213 : CO := (260, 2, [(0, 0, 0, 0, 0, 0), (0, 940, 0, 0, 0, 940), (0, 1, 0, 0, 0, 1)], [(2, 180, 0), (0, 0, 1), (0, 0, 30)], [(180, 5, (0, 1, 0)), (180, 7, (0, 2, 0))], [(2, 180, 5), (2, 180, 7)], [(some (0, 0, 0), [(0, 0, 0, 0, 0, 0), (0, 940, 0, 0, 0, 940), (0, 1, 0, 0, 0, 1)], [(180, 5, (0, 1, 0)), (180, 7, (0, 2, 0))], [])], [(180, 10, 11)], [], [], [])
set_option maxRecDepth 100000 in
theorem syc_213 : CoOk GG MM syt_213 := chk_ok (cs := [syt_194]) (F := 4000) (List.forall_mem_cons.mpr ⟨syc_194, fun _ h => absurd h List.not_mem_nil⟩) (by decide +kernel) (by decide +kernel)
/-- M.readOnce -/
def syt_214 : CO := (262, 4, [(0, 0, 0, 0, 0, 0), (0, 940, 0, 0, 0, 940), (2, 2, 0, 2, 0, 2)], [(2, 180, 0), (0, 0, 0)], [(180, 5, (0, 1, 0)), (180, 7, (0, 2, 0))], [(2, 180, 5), (2, 180, 7)], [(some (0, 0, 0), [(0, 0, 0, 0, 0, 0), (0, 940, 0, 0, 0, 940), (2, 2, 0, 2, 0, 2), (0, 940, 1, 0, 0, 940), (0, 4, 0, 0, 0, 4)], [(180, 5, (0, 3, 0)), (180, 7, (0, 4, 0))], [(2, 180, 5), (2, 180, 7)]), (some (0, 0, 1), [(0, 0, 0, 0, 0, 0), (0, 940, 0, 0, 0, 940), (2, 2, 0, 2, 0, 2), (1, 940, 0, 1, 0, 940), (1, 900, 1, 1, 0, 900), (1, 30, 0, 1, 0, 30)], [(180, 3, (0, 3, 0)), (180, 5, (0, 4, 0)), (180, 7, (0, 0, 4)), (180, 13, (0, 5, 0))], [(2, 180, 3), (2, 180, 5), (2, 180, 13)]), (some (0, 0, 1), [(0, 0, 0, 0, 0, 0), (0, 940, 0, 0, 0, 940), (2, 2, 0, 2, 0, 2), (1, 940, 0, 1, 0, 940), (0, 940, 1, 0, 0, 940), (0, 3, 0, 0, 0, 3), (1, 30, 0, 1, 0, 30)], [(180, 3, (0, 3, 0)), (180, 5, (0, 4, 0)), (180, 7, (0, 5, 0)), (180, 13, (0, 6, 0))], [(2, 180, 3), (2, 180, 5), (2, 180, 7), (2, 180, 13)])], [(180, 5, 13), (183, 2, 2), (191, 0, 0)], [], [], [])
set_option maxRecDepth 100000 in
theorem syc_214 : CoOk GG MM syt_214 := chk_ok (cs := [syt_141, syt_73, syt_211, syt_210, syt_212, syt_209, syt_213]) (F := 4000) (List.forall_mem_cons.mpr ⟨syc_141, List.forall_mem_cons.mpr ⟨syc_73, List.forall_mem_cons.mpr ⟨syc_211, List.forall_mem_cons.mpr ⟨syc_210, List.forall_mem_cons.mpr ⟨syc_212, List.forall_mem_cons.mpr ⟨syc_209, List.forall_mem_cons.mpr ⟨syc_213, fun _ h => absurd h List.not_mem_nil⟩⟩⟩⟩⟩⟩⟩) (by decide +kernel) (by decide +kernel)
/-- M.isWord -/
def syt_215 : CO := (227, 3, [(0, 0, 0, 0, 0, 0), (0, 940, 0, 0, 0, 940), (1, 4, 0, 1, 0, 4)], [(2, 180, 0), (0, 0, 6)], [(180, 5, (0, 1, 0)), (180, 7, (0, 2, 0))], [(2, 180, 5), (2, 180, 7)], [(some (0, 0, 0), [(0, 0, 0, 0, 0, 0), (0, 940, 0, 0, 0, 940), (1, 4, 0, 1, 0, 4)], [(180, 5, (0, 1, 0)), (180, 7, (0, 2, 0))], []), (some (0, 0, 1), [(0, 0, 0, 0, 0, 0), (0, 940, 0, 0, 0, 940), (2, 2, 0, 2, 0, 2)], [(180, 5, (0, 1, 0)), (180, 7, (0, 2, 0))], [])], [], [], [], [])
set_option maxRecDepth 100000 in
theorem syc_215 : CoOk GG MM syt_215 := chk_ok (cs := [syt_91]) (F := 4000) (List.forall_mem_cons.mpr ⟨syc_91, fun _ h => absurd h List.not_mem_nil⟩) (by decide +kernel) (by decide +kernel)
/-- M.put -/
def syt_216 : CO := (244, 1, [(0, 0, 0, 0, 0, 0), (1, 30, 0, 1, 0, 30)], [(2, 180, 0), (0, 0, 3), (0, 0, 1)], [(180, 13, (0, 1, 0))], [(2, 180, 13)], [(some (0, 0, 1), [(0, 0, 0, 0, 0, 0), (1, 30, 0, 1, 0, 30)], [(180, 13, (0, 1, 0))], [])], [(183, 3, 3)], [], [], [])
set_option maxRecDepth 100000 in
theorem syc_216 : CoOk GG MM syt_216 := chk_ok (cs := []) (F := 4000) (fun _ h => absurd h List.not_mem_nil) (by decide +kernel) (by decide +kernel)
/-- M.put -/
def syt_217 : CO := (244, 1, [(0, 0, 0, 0, 0, 0)], [(2, 180, 0), (0, 0, 3), (0, 0, 0)], [], [], [(some (0, 0, 0), [(0, 0, 0, 0, 0, 0)], [], [])], [], [], [], [])
set_option maxRecDepth 100000 in
theorem syc_217 : CoOk GG MM syt_217 := chk_ok (cs := []) (F := 4000) (fun _ h => absurd h List.not_mem_nil) (by decide +kernel) (by decide +kernel)
/-- M.readOnce -/
def syt_218 : CO := (262, 4, [(0, 0, 0, 0, 0, 0), (0, 940, 0, 0, 0, 940), (2, 2, 0, 2, 0, 2)], [(2, 180, 0), (0, 0, 1)], [(180, 5, (0, 1, 0)), (180, 7, (0, 2, 0))], [(2, 180, 5), (2, 180, 7)], [(some (0, 0, 0), [(0, 0, 0, 0, 0, 0), (0, 940, 0, 0, 0, 940), (2, 2, 0, 2, 0, 2), (0, 940, 1, 0, 0, 940), (0, 4, 0, 0, 0, 4)], [(180, 5, (0, 3, 0)), (180, 7, (0, 4, 0))], [(2, 180, 5), (2, 180, 7)]), (some (0, 0, 1), [(0, 0, 0, 0, 0, 0), (0, 940, 0, 0, 0, 940), (2, 2, 0, 2, 0, 2), (1, 940, 0, 1, 0, 940), (1, 900, 1, 1, 0, 900), (1, 30, 0, 1, 0, 30)], [(180, 3, (0, 3, 0)), (180, 5, (0, 4, 0)), (180, 7, (0, 0, 4)), (180, 13, (0, 5, 0))], [(2, 180, 3), (2, 180, 5), (2, 180, 13)]), (some (0, 0, 1), [(0, 0, 0, 0, 0, 0), (0, 940, 0, 0, 0, 940), (2, 2, 0, 2, 0, 2), (1, 940, 0, 1, 0, 940), (0, 940, 1, 0, 0, 940), (0, 3, 0, 0, 0, 3), (1, 30, 0, 1, 0, 30)], [(180, 3, (0, 3, 0)), (180, 5, (0, 4, 0)), (180, 7, (0, 5, 0)), (180, 13, (0, 6, 0))], [(2, 180, 3), (2, 180, 5), (2, 180, 7), (2, 180, 13)])], [(180, 5, 13), (183, 3, 3), (191, 1, 1)], [], [], [])
set_option maxRecDepth 100000 in
theorem syc_218 : CoOk GG MM syt_218 := chk_ok (cs := [syt_141, syt_73, syt_217, syt_216, syt_212, syt_209, syt_213]) (F := 4000) (List.forall_mem_cons.mpr ⟨syc_141, List.forall_mem_cons.mpr ⟨syc_73, List.forall_mem_cons.mpr ⟨syc_217, List.forall_mem_cons.mpr ⟨syc_216, List.forall_mem_cons.mpr ⟨syc_212, List.forall_mem_cons.mpr ⟨syc_209, List.forall_mem_cons.mpr ⟨syc_213, fun _ h => absurd h List.not_mem_nil⟩⟩⟩⟩⟩⟩⟩) (by decide +kernel) (by decide +kernel)
/-- M.isWord -/
def syt_219 : CO := (227, 3, [(0, 0, 0, 0, 0, 0), (0, 940, 0, 0, 0, 940), (1, 4, 0, 1, 0, 4)], [(2, 180, 0), (0, 0, 7)], [(180, 5, (0, 1, 0)), (180, 7, (0, 2, 0))], [(2, 180, 5), (2, 180, 7)], [(some (0, 0, 0), [(0, 0, 0, 0, 0, 0), (0, 940, 0, 0, 0, 940), (1, 4, 0, 1, 0, 4)], [(180, 5, (0, 1, 0)), (180, 7, (0, 2, 0))], []), (some (0, 0, 1), [(0, 0, 0, 0, 0, 0), (0, 940, 0, 0, 0, 940), (2, 2, 0, 2, 0, 2)], [(180, 5, (0, 1, 0)), (180, 7, (0, 2, 0))], [])], [], [], [], [])
set_option maxRecDepth 100000 in
theorem syc_219 : CoOk GG MM syt_219 := chk_ok (cs := [syt_93]) (F := 4000) (List.forall_mem_cons.mpr ⟨syc_93, fun _ h => absurd h List.not_mem_nil⟩) (by decide +kernel) (by decide +kernel)
/-- M.put -/
def syt_220 : CO := (244, 1, [(0, 0, 0, 0, 0, 0), (1, 30, 0, 1, 0, 30)], [(2, 180, 0), (0, 0, 4), (0, 0, 1)], [(180, 13, (0, 1, 0))], [(2, 180, 13)], [(some (0, 0, 1), [(0, 0, 0, 0, 0, 0), (1, 30, 0, 1, 0, 30)], [(180, 13, (0, 1, 0))], [])], [(183, 4, 4)], [], [], [])
set_option maxRecDepth 100000 in
theorem syc_220 : CoOk GG MM syt_220 := chk_ok (cs := []) (F := 4000) (fun _ h => absurd h List.not_mem_nil) (by decide +kernel) (by decide +kernel)
/-- M.put -/
def syt_221 : CO := (244, 1, [(0, 0, 0, 0, 0, 0)], [(2, 180, 0), (0, 0, 4), (0, 0, 0)], [], [], [(some (0, 0, 0), [(0, 0, 0, 0, 0, 0)], [], [])], [], [], [], [])
set_option maxRecDepth 100000 in
theorem syc_221 : CoOk GG MM syt_221 := chk_ok (cs := []) (F := 4000) (fun _ h => absurd h List.not_mem_nil) (by decide +kernel) (by decide +kernel)
/-- M.readOnce -/
def syt_222 : CO := (262, 4, [(0, 0, 0, 0, 0, 0), (0, 940, 0, 0, 0, 940), (2, 2, 0, 2, 0, 2)], [(2, 180, 0), (0, 0, 2)], [(180, 5, (0, 1, 0)), (180, 7, (0, 2, 0))], [(2, 180, 5), (2, 180, 7)], [(some (0, 0, 0), [(0, 0, 0, 0, 0, 0), (0, 940, 0, 0, 0, 940), (2, 2, 0, 2, 0, 2), (0, 940, 1, 0, 0, 940), (0, 4, 0, 0, 0, 4)], [(180, 5, (0, 3, 0)), (180, 7, (0, 4, 0))], [(2, 180, 5), (2, 180, 7)]), (some (0, 0, 1), [(0, 0, 0, 0, 0, 0), (0, 940, 0, 0, 0, 940), (2, 2, 0, 2, 0, 2), (1, 940, 0, 1, 0, 940), (1, 900, 1, 1, 0, 900), (1, 30, 0, 1, 0, 30)], [(180, 3, (0, 3, 0)), (180, 5, (0, 4, 0)), (180, 7, (0, 0, 4)), (180, 13, (0, 5, 0))], [(2, 180, 3), (2, 180, 5), (2, 180, 13)]), (some (0, 0, 1), [(0, 0, 0, 0, 0, 0), (0, 940, 0, 0, 0, 940), (2, 2, 0, 2, 0, 2), (1, 940, 0, 1, 0, 940), (0, 940, 1, 0, 0, 940), (0, 3, 0, 0, 0, 3), (1, 30, 0, 1, 0, 30)], [(180, 3, (0, 3, 0)), (180, 5, (0, 4, 0)), (180, 7, (0, 5, 0)), (180, 13, (0, 6, 0))], [(2, 180, 3), (2, 180, 5), (2, 180, 7), (2, 180, 13)])], [(180, 5, 13), (183, 4, 4), (191, 2, 2)], [], [], [])
set_option maxRecDepth 100000 in
theorem syc_222 : CoOk GG MM syt_222 := chk_ok (cs := [syt_141, syt_73, syt_221, syt_220, syt_212, syt_209, syt_213]) (F := 4000) (List.forall_mem_cons.mpr ⟨syc_141, List.forall_mem_cons.mpr ⟨syc_73, List.forall_mem_cons.mpr ⟨syc_221, List.forall_mem_cons.mpr ⟨syc_220, List.forall_mem_cons.mpr ⟨syc_212, List.forall_mem_cons.mpr ⟨syc_209, List.forall_mem_cons.mpr ⟨syc_213, fun _ h => absurd h List.not_mem_nil⟩⟩⟩⟩⟩⟩⟩) (by decide +kernel) (by decide +kernel)
/-- M.bad -/
def syt_223 : CO := (174, 1, [(0, 0, 0, 0, 0, 0), (0, 940, 0, 0, 0, 940), (1, 4, 0, 1, 0, 4)], [(2, 180, 0), (0, 0, 1)], [(180, 5, (0, 1, 0)), (180, 7, (0, 2, 0))], [(2, 180, 5), (2, 180, 7)], [(some (0, 0, 0), [(0, 0, 0, 0, 0, 0), (0, 940, 0, 0, 0, 940), (1, 4, 0, 1, 0, 4)], [(180, 5, (0, 1, 0)), (180, 7, (0, 2, 0))], [])], [(180, 10, 11)], [], [], [])
set_option maxRecDepth 100000 in
theorem syc_223 : CoOk GG MM syt_223 := chk_ok (cs := []) (F := 4000) (fun _ h => absurd h List.not_mem_nil) (by decide +kernel) (by decide +kernel)
/-- M.readLine -/
def syt_224 : CO := (256, 7, [(0, 0, 0, 0, 0, 0), (0, 940, 0, 0, 0, 940), (1, 4, 0, 1, 0, 4)], [(2, 180, 0)], [(180, 5, (0, 1, 0)), (180, 7, (0, 2, 0))], [(2, 180, 5), (2, 180, 7)], [(some (0, 0, 1), [(0, 0, 0, 0, 0, 0), (0, 940, 0, 0, 0, 940), (2, 2, 0, 2, 0, 2), (0, 940, 1, 0, 0, 940), (0, 3, 0, 0, 0, 3), (0, 30, 0, 0, 0, 30)], [(180, 5, (0, 3, 0)), (180, 7, (0, 4, 0)), (180, 13, (0, 5, 0))], [(2, 180, 5), (2, 180, 7), (2, 180, 13)]), (some (0, 0, 1), [(0, 0, 0, 0, 0, 0), (0, 940, 0, 0, 0, 940), (2, 2, 0, 2, 0, 2), (1, 940, 0, 1, 0, 940), (1, 900, 1, 1, 0, 900), (0, 30, 0, 0, 0, 30)], [(180, 3, (0, 3, 0)), (180, 5, (0, 4, 0)), (180, 7, (0, 0, 4)), (180, 13, (0, 5, 0))], [(2, 180, 3), (2, 180, 5), (2, 180, 13)]), (some (0, 0, 0), [(0, 0, 0, 0, 0, 0), (0, 940, 0, 0, 0, 940), (1, 4, 0, 1, 0, 4), (0, 940, 1, 0, 0, 940), (0, 4, 0, 0, 0, 4)], [(180, 5, (0, 3, 0)), (180, 7, (0, 4, 0))], [(2, 180, 5), (2, 180, 7)])], [(180, 5, 13), (183, 0, 100), (188, 0, 14), (191, 0, 2)], [(54, 1, 0, ([(0, 0, 0, 0, 0, 0), (0, 940, 0, 0, 0, 940), (1, 4, 0, 1, 0, 4)], [(0, (2, 180, 0)), (1, (0, 0, 0))], [], [(180, 5, (0, 1, 0)), (180, 7, (0, 2, 0))]), [], [(54, 1)]),
  (54, 2, 0, ([(0, 0, 0, 0, 0, 0), (0, 940, 0, 0, 0, 940), (1, 4, 0, 1, 0, 4)], [(0, (2, 180, 0)), (1, (0, 0, 1))], [], [(180, 5, (0, 1, 0)), (180, 7, (0, 2, 0))]), [], [(54, 2)]),
  (54, 3, 0, ([(0, 0, 0, 0, 0, 0), (0, 940, 0, 0, 0, 940), (1, 4, 0, 1, 0, 4)], [(0, (2, 180, 0)), (1, (0, 0, 2))], [], [(180, 5, (0, 1, 0)), (180, 7, (0, 2, 0))]), [], [(54, 3)]),
  (54, 4, 0, ([(0, 0, 0, 0, 0, 0), (0, 940, 0, 0, 0, 940), (1, 4, 0, 1, 0, 4)], [(0, (2, 180, 0)), (1, (0, 0, 3))], [], [(180, 5, (0, 1, 0)), (180, 7, (0, 2, 0))]), [], [])], [], [(54, 0)])
set_option maxRecDepth 100000 in
theorem syc_224 : CoOk GG MM syt_224 := chk_ok (cs := [syt_223, syt_77, syt_160, syt_187, syt_199, syt_207, syt_215, syt_219, syt_186, syt_206, syt_214, syt_218, syt_222, syt_159, syt_198]) (F := 4000) (List.forall_mem_cons.mpr ⟨syc_223, List.forall_mem_cons.mpr ⟨syc_77, List.forall_mem_cons.mpr ⟨syc_160, List.forall_mem_cons.mpr ⟨syc_187, List.forall_mem_cons.mpr ⟨syc_199, List.forall_mem_cons.mpr ⟨syc_207, List.forall_mem_cons.mpr ⟨syc_215, List.forall_mem_cons.mpr ⟨syc_219, List.forall_mem_cons.mpr ⟨syc_186, List.forall_mem_cons.mpr ⟨syc_206, List.forall_mem_cons.mpr ⟨syc_214, List.forall_mem_cons.mpr ⟨syc_218, List.forall_mem_cons.mpr ⟨syc_222, List.forall_mem_cons.mpr ⟨syc_159, List.forall_mem_cons.mpr ⟨syc_198, fun _ h => absurd h List.not_mem_nil⟩⟩⟩⟩⟩⟩⟩⟩⟩⟩⟩⟩⟩⟩⟩) (by decide +kernel) (by decide +kernel)
/-- M.isSign -/
def syt_225 : CO := (225, 1, [(0, 0, 0, 0, 0, 0), (0, 940, 0, 0, 0, 940)], [(2, 180, 0), (0, 0, 59)], [(180, 5, (0, 1, 0)), (180, 7, (0, 0, 4))], [(2, 180, 5)], [(some (0, 0, 1), [(0, 0, 0, 0, 0, 0), (0, 940, 0, 0, 0, 940)], [(180, 5, (0, 1, 0)), (180, 7, (0, 0, 4))], []), (some (0, 0, 0), [(0, 0, 0, 0, 0, 0), (0, 940, 0, 0, 0, 940)], [(180, 5, (0, 1, 0)), (180, 7, (0, 0, 4))], [])], [], [], [], [])
set_option maxRecDepth 100000 in
theorem syc_225 : CoOk GG MM syt_225 := chk_ok (cs := []) (F := 4000) (fun _ h => absurd h List.not_mem_nil) (by decide +kernel) (by decide +kernel)
/-- M.readEnd -/
def syt_226 : CO := (251, 3, [(0, 0, 0, 0, 0, 0), (0, 940, 0, 0, 0, 940)], [(2, 180, 0)], [(180, 5, (0, 1, 0)), (180, 7, (0, 0, 4))], [(2, 180, 5)], [(some (0, 0, 0), [(0, 0, 0, 0, 0, 0), (0, 940, 0, 0, 0, 940)], [(180, 5, (0, 1, 0)), (180, 7, (0, 0, 4))], []), (some (0, 0, 1), [(0, 0, 0, 0, 0, 0), (0, 940, 0, 0, 0, 940), (0, 940, 1, 0, 0, 940), (0, 4, 0, 0, 0, 4)], [(180, 5, (0, 2, 0)), (180, 7, (0, 3, 0))], [(2, 180, 5), (2, 180, 7)])], [(180, 5, 12)], [], [], [])
set_option maxRecDepth 100000 in
theorem syc_226 : CoOk GG MM syt_226 := chk_ok (cs := [syt_144, syt_73, syt_225]) (F := 4000) (List.forall_mem_cons.mpr ⟨syc_144, List.forall_mem_cons.mpr ⟨syc_73, List.forall_mem_cons.mpr ⟨syc_225, fun _ h => absurd h List.not_mem_nil⟩⟩⟩) (by decide +kernel) (by decide +kernel)
/-- M.isSign -/
def syt_227 : CO := (225, 1, [(0, 0, 0, 0, 0, 0), (0, 940, 0, 0, 0, 940), (0, 3, 0, 0, 0, 3)], [(2, 180, 0), (0, 0, 59)], [(180, 5, (0, 1, 0)), (180, 7, (0, 2, 0))], [(2, 180, 5), (2, 180, 7)], [(some (0, 0, 0), [(0, 0, 0, 0, 0, 0), (0, 940, 0, 0, 0, 940), (0, 3, 0, 0, 0, 3)], [(180, 5, (0, 1, 0)), (180, 7, (0, 2, 0))], [])], [], [], [], [])
set_option maxRecDepth 100000 in
theorem syc_227 : CoOk GG MM syt_227 := chk_ok (cs := []) (F := 4000) (fun _ h => absurd h List.not_mem_nil) (by decide +kernel) (by decide +kernel)
/-- M.bad -/
def syt_228 : CO := (174, 1, [(0, 0, 0, 0, 0, 0), (0, 940, 0, 0, 0, 940), (0, 3, 0, 0, 0, 3)], [(2, 180, 0), (0, 0, 1)], [(180, 5, (0, 1, 0)), (180, 7, (0, 2, 0))], [(2, 180, 5), (2, 180, 7)], [(some (0, 0, 0), [(0, 0, 0, 0, 0, 0), (0, 940, 0, 0, 0, 940), (0, 3, 0, 0, 0, 3)], [(180, 5, (0, 1, 0)), (180, 7, (0, 2, 0))], [])], [(180, 10, 11)], [], [], [])
set_option maxRecDepth 100000 in
theorem syc_228 : CoOk GG MM syt_228 := chk_ok (cs := []) (F := 4000) (fun _ h => absurd h List.not_mem_nil) (by decide +kernel) (by decide +kernel)
/-- M.readEnd -/
def syt_229 : CO := (251, 2, [(0, 0, 0, 0, 0, 0), (0, 940, 0, 0, 0, 940), (0, 3, 0, 0, 0, 3)], [(2, 180, 0)], [(180, 5, (0, 1, 0)), (180, 7, (0, 2, 0))], [(2, 180, 5), (2, 180, 7)], [(some (0, 0, 0), [(0, 0, 0, 0, 0, 0), (0, 940, 0, 0, 0, 940), (0, 3, 0, 0, 0, 3)], [(180, 5, (0, 1, 0)), (180, 7, (0, 2, 0))], [])], [(180, 10, 11)], [], [], [])
set_option maxRecDepth 100000 in
theorem syc_229 : CoOk GG MM syt_229 := chk_ok (cs := [syt_228, syt_227]) (F := 4000) (List.forall_mem_cons.mpr ⟨syc_228, List.forall_mem_cons.mpr ⟨syc_227, fun _ h => absurd h List.not_mem_nil⟩⟩) (by decide +kernel) (by decide +kernel)
/-- M.startSo -/
def syl_230_0 : List LB := [(3, 1, 0, ([(0, 0, 0, 0, 0, 0)], [(0, (2, 180, 0)), (1, (0, 0, 104))], [], []), [], [(3, 1)]),
  (3, 2, 0, ([(0, 0, 0, 0, 0, 0)], [(0, (2, 180, 0)), (1, (0, 0, 112))], [], []), [], [(3, 2)]),
  (3, 3, 0, ([(0, 0, 0, 0, 0, 0)], [(0, (2, 180, 0)), (1, (0, 0, 120))], [], []), [], [(3, 3)]),
  (3, 4, 0, ([(0, 0, 0, 0, 0, 0)], [(0, (2, 180, 0)), (1, (0, 0, 128))], [], []), [], [(3, 4)])]
def syl_230_1 : List LB := [(3, 5, 0, ([(0, 0, 0, 0, 0, 0)], [(0, (2, 180, 0)), (1, (0, 0, 136))], [], []), [], [(3, 5)]),
  (3, 6, 0, ([(0, 0, 0, 0, 0, 0)], [(0, (2, 180, 0)), (1, (0, 0, 144))], [], []), [], [(3, 6)]),
  (3, 7, 0, ([(0, 0, 0, 0, 0, 0)], [(0, (2, 180, 0)), (1, (0, 0, 152))], [], []), [], [(3, 7)]),
  (3, 8, 0, ([(0, 0, 0, 0, 0, 0)], [(0, (2, 180, 0)), (1, (0, 0, 160))], [], []), [], [(3, 8)])]
def syl_230_2 : List LB := [(3, 9, 0, ([(0, 0, 0, 0, 0, 0)], [(0, (2, 180, 0)), (1, (0, 0, 168))], [], []), [], [(3, 9)]),
  (3, 10, 0, ([(0, 0, 0, 0, 0, 0)], [(0, (2, 180, 0)), (1, (0, 0, 176))], [], []), [], [(3, 10)]),
  (3, 11, 0, ([(0, 0, 0, 0, 0, 0)], [(0, (2, 180, 0)), (1, (0, 0, 184))], [], []), [], [(3, 11)]),
  (3, 12, 0, ([(0, 0, 0, 0, 0, 0)], [(0, (2, 180, 0)), (1, (0, 0, 192))], [], []), [], [(3, 12)])]
def syl_230_3 : List LB := [(3, 13, 0, ([(0, 0, 0, 0, 0, 0)], [(0, (2, 180, 0)), (1, (0, 0, 200))], [], []), [], [(3, 13)]),
  (3, 14, 0, ([(0, 0, 0, 0, 0, 0)], [(0, (2, 180, 0)), (1, (0, 0, 208))], [], []), [], [(3, 14)]),
  (3, 15, 0, ([(0, 0, 0, 0, 0, 0)], [(0, (2, 180, 0)), (1, (0, 0, 216))], [], []), [], [(3, 15)]),
  (3, 16, 0, ([(0, 0, 0, 0, 0, 0)], [(0, (2, 180, 0)), (1, (0, 0, 224))], [], []), [], [(3, 16)])]
def syl_230_4 : List LB := [(3, 17, 0, ([(0, 0, 0, 0, 0, 0)], [(0, (2, 180, 0)), (1, (0, 0, 232))], [], []), [], [(3, 17)]),
  (3, 18, 0, ([(0, 0, 0, 0, 0, 0)], [(0, (2, 180, 0)), (1, (0, 0, 240))], [], []), [], [(3, 18)]),
  (3, 19, 0, ([(0, 0, 0, 0, 0, 0)], [(0, (2, 180, 0)), (1, (0, 0, 248))], [], []), [], [(3, 19)]),
  (3, 20, 0, ([(0, 0, 0, 0, 0, 0)], [(0, (2, 180, 0)), (1, (0, 0, 256))], [], []), [], [(3, 20)])]
def syl_230_5 : List LB := [(3, 21, 0, ([(0, 0, 0, 0, 0, 0)], [(0, (2, 180, 0)), (1, (0, 0, 264))], [], []), [], [(3, 21)]),
  (3, 22, 0, ([(0, 0, 0, 0, 0, 0)], [(0, (2, 180, 0)), (1, (0, 0, 272))], [], []), [], [(3, 22)]),
  (3, 23, 0, ([(0, 0, 0, 0, 0, 0)], [(0, (2, 180, 0)), (1, (0, 0, 280))], [], []), [], [(3, 23)]),
  (3, 24, 0, ([(0, 0, 0, 0, 0, 0)], [(0, (2, 180, 0)), (1, (0, 0, 288))], [], []), [], [(3, 24)])]
def syl_230_6 : List LB := [(3, 25, 0, ([(0, 0, 0, 0, 0, 0)], [(0, (2, 180, 0)), (1, (0, 0, 296))], [], []), [], [(3, 25)]),
  (3, 26, 0, ([(0, 0, 0, 0, 0, 0)], [(0, (2, 180, 0)), (1, (0, 0, 304))], [], []), [], [(3, 26)]),
  (3, 27, 0, ([(0, 0, 0, 0, 0, 0)], [(0, (2, 180, 0)), (1, (0, 0, 312))], [], []), [], [(3, 27)]),
  (3, 28, 0, ([(0, 0, 0, 0, 0, 0)], [(0, (2, 180, 0)), (1, (0, 0, 320))], [], []), [], [(3, 28)])]
def syl_230_7 : List LB := [(3, 29, 0, ([(0, 0, 0, 0, 0, 0)], [(0, (2, 180, 0)), (1, (0, 0, 328))], [], []), [], [(3, 29)]),
  (3, 30, 0, ([(0, 0, 0, 0, 0, 0)], [(0, (2, 180, 0)), (1, (0, 0, 336))], [], []), [], [(3, 30)]),
  (3, 31, 0, ([(0, 0, 0, 0, 0, 0)], [(0, (2, 180, 0)), (1, (0, 0, 344))], [], []), [], [(3, 31)]),
  (3, 32, 0, ([(0, 0, 0, 0, 0, 0)], [(0, (2, 180, 0)), (1, (0, 0, 352))], [], []), [], [(3, 32)])]
def syl_230_8 : List LB := [(3, 33, 0, ([(0, 0, 0, 0, 0, 0)], [(0, (2, 180, 0)), (1, (0, 0, 360))], [], []), [], [(3, 33)]),
  (3, 34, 0, ([(0, 0, 0, 0, 0, 0)], [(0, (2, 180, 0)), (1, (0, 0, 368))], [], []), [], [(3, 34)]),
  (3, 35, 0, ([(0, 0, 0, 0, 0, 0)], [(0, (2, 180, 0)), (1, (0, 0, 376))], [], []), [], [(3, 35)]),
  (3, 36, 0, ([(0, 0, 0, 0, 0, 0)], [(0, (2, 180, 0)), (1, (0, 0, 384))], [], []), [], [(3, 36)]),
  (3, 37, 0, ([(0, 0, 0, 0, 0, 0)], [(0, (2, 180, 0)), (1, (0, 0, 392))], [], []), [], [(39, 37)])]
def syl_230_9 : List LB := [(39, 38, 0, ([(0, 0, 0, 0, 0, 0)], [(0, (2, 180, 0)), (1, (0, 0, 0))], [], []), [], [])]
def syt_230 : CO := (280, 1, [(0, 0, 0, 0, 0, 0)], [(2, 180, 0)], [], [], [(none, [(0, 0, 0, 0, 0, 0)], [], [])], [(182, 101, 395)], (syl_230_0 ++ (syl_230_1 ++ (syl_230_2 ++ (syl_230_3 ++ (syl_230_4 ++ (syl_230_5 ++ (syl_230_6 ++ (syl_230_7 ++ (syl_230_8 ++ (syl_230_9)))))))))), [], [(3, 0)])
set_option maxRecDepth 100000 in
theorem syp_230_0 : runL MM GG [] syt_230 4000 0 syl_230_0 = true := by decide +kernel
set_option maxRecDepth 100000 in
theorem syp_230_1 : runL MM GG [] syt_230 4000 4 syl_230_1 = true := by decide +kernel
set_option maxRecDepth 100000 in
theorem syp_230_2 : runL MM GG [] syt_230 4000 8 syl_230_2 = true := by decide +kernel
set_option maxRecDepth 100000 in
theorem syp_230_3 : runL MM GG [] syt_230 4000 12 syl_230_3 = true := by decide +kernel
set_option maxRecDepth 100000 in
theorem syp_230_4 : runL MM GG [] syt_230 4000 16 syl_230_4 = true := by decide +kernel
set_option maxRecDepth 100000 in
theorem syp_230_5 : runL MM GG [] syt_230 4000 20 syl_230_5 = true := by decide +kernel
set_option maxRecDepth 100000 in
theorem syp_230_6 : runL MM GG [] syt_230 4000 24 syl_230_6 = true := by decide +kernel
set_option maxRecDepth 100000 in
theorem syp_230_7 : runL MM GG [] syt_230 4000 28 syl_230_7 = true := by decide +kernel
set_option maxRecDepth 100000 in
theorem syp_230_8 : runL MM GG [] syt_230 4000 32 syl_230_8 = true := by decide +kernel
set_option maxRecDepth 100000 in
theorem syp_230_9 : runL MM GG [] syt_230 4000 37 syl_230_9 = true := by decide +kernel
set_option maxRecDepth 100000 in
theorem syc_230 : CoOk GG MM syt_230 := chk_ok (cs := []) (F := 4000) (fun _ h => absurd h List.not_mem_nil) (by decide +kernel) (runL_app syp_230_0 (runL_app syp_230_1 (runL_app syp_230_2 (runL_app syp_230_3 (runL_app syp_230_4 (runL_app syp_230_5 (runL_app syp_230_6 (runL_app syp_230_7 (runL_app syp_230_8 (syp_230_9))))))))))
