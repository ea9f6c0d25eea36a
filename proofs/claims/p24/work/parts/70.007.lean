/-! ===== contracts, inferred and printed by my program, checked here ===== -/
/-- M.drawsFor -/
def syt_780 : CO := (nat_lit 194, nat_lit 4, [ee_0, ee_26], [sv_19, sv_6], [(nat_lit 182, nat_lit 0, sv_1)], [(nat_lit 2, nat_lit 182, nat_lit 0)], [(none, [ee_0, ee_26, ee_30], [(nat_lit 182, nat_lit 0, sv_1), (nat_lit 182, nat_lit 1, sv_4)], [(nat_lit 2, nat_lit 182, nat_lit 1)])], [(nat_lit 180, nat_lit 42, nat_lit 42), (nat_lit 182, nat_lit 103, nat_lit 104), (nat_lit 182, nat_lit 111, nat_lit 111), (nat_lit 182, nat_lit 118, nat_lit 118), (nat_lit 182, nat_lit 125, nat_lit 125), (nat_lit 182, nat_lit 131, nat_lit 139), (nat_lit 182, nat_lit 146, nat_lit 153)], [], [], [])
set_option maxRecDepth 100000 in
theorem syc_780 : CoOk GG MM syt_780 := chk_okF (cs := [syt_779, syt_772, syt_773, syt_774, syt_771, syt_363, syt_778, syt_777, syt_776, syt_300]) (F := 4000) (cs_c syc_779 <| cs_c syc_772 <| cs_c syc_773 <| cs_c syc_774 <| cs_c syc_771 <| cs_c syc_363 <| cs_c syc_778 <| cs_c syc_777 <| cs_c syc_776 <| cs_c syc_300 cs_n) (by decide +kernel) (by decide +kernel)
/-- M.draw -/
def syt_781 : CO := (nat_lit 191, nat_lit 1, [ee_0, ee_130], [sv_19, sv_1], [], [(nat_lit 1, nat_lit 1, nat_lit 0)], [(some sv_4, [ee_0, ee_130, ee_27], [], [(nat_lit 1, nat_lit 0, nat_lit 0)])], [(nat_lit 180, nat_lit 42, nat_lit 42)], [], [], [])
set_option maxRecDepth 100000 in
theorem syc_781 : CoOk GG MM syt_781 := chk_okF (cs := []) (F := 4000) (fun _ h => absurd h List.not_mem_nil) (by decide +kernel) (by decide +kernel)
/-- M.why -/
def syt_782 : CO := (nat_lit 291, nat_lit 3, [ee_0, ee_27], [sv_19, sv_24, sv_24, sv_1, sv_6], [], [(nat_lit 1, nat_lit 3, nat_lit 0)], [(some sv_24, [ee_0, ee_146], [], []), (some sv_4, [ee_0, ee_27, ee_152], [], [(nat_lit 1, nat_lit 0, nat_lit 0)]), (some sv_6, [ee_0, ee_27], [], [])], [], [], [], [])
set_option maxRecDepth 100000 in
theorem syc_782 : CoOk GG MM syt_782 := chk_okF (cs := [syt_244, syt_236, syt_317, syt_318, syt_319, syt_320, syt_321, syt_322, syt_368, syt_365, syt_276]) (F := 4000) (cs_c syc_244 <| cs_c syc_236 <| cs_c syc_317 <| cs_c syc_318 <| cs_c syc_319 <| cs_c syc_320 <| cs_c syc_321 <| cs_c syc_322 <| cs_c syc_368 <| cs_c syc_365 <| cs_c syc_276 cs_n) (by decide +kernel) (by decide +kernel)
/-- M.live -/
def syt_783 : CO := (nat_lit 232, nat_lit 1, [ee_0, ee_27], [sv_19, sv_24, sv_24, sv_1, sv_6], [], [(nat_lit 1, nat_lit 3, nat_lit 0)], [(none, [ee_0, ee_27], [], [])], [(nat_lit 182, nat_lit 132, nat_lit 138)], [], [], [])
set_option maxRecDepth 100000 in
theorem syc_783 : CoOk GG MM syt_783 := chk_okF (cs := []) (F := 4000) (fun _ h => absurd h List.not_mem_nil) (by decide +kernel) (by decide +kernel)
/-- M.live -/
def syt_784 : CO := (nat_lit 232, nat_lit 1, [ee_0], [sv_19, sv_32, sv_24, sv_6, sv_6], [], [], [(none, [ee_0], [], [])], [(nat_lit 182, nat_lit 131, nat_lit 138)], [], [], [])
set_option maxRecDepth 100000 in
theorem syc_784 : CoOk GG MM syt_784 := chk_okF (cs := []) (F := 4000) (fun _ h => absurd h List.not_mem_nil) (by decide +kernel) (by decide +kernel)
/-- M.doDeed -/
def syt_785 : CO := (nat_lit 189, nat_lit 3, [ee_0, ee_14, ee_127], [sv_19, sv_24, sv_1, sv_4], [], [(nat_lit 1, nat_lit 2, nat_lit 0), (nat_lit 1, nat_lit 3, nat_lit 0)], [(none, [ee_0, ee_14, ee_127], [], [])], [(nat_lit 182, nat_lit 103, nat_lit 103), (nat_lit 182, nat_lit 105, nat_lit 105), (nat_lit 182, nat_lit 112, nat_lit 112), (nat_lit 182, nat_lit 119, nat_lit 119), (nat_lit 182, nat_lit 126, nat_lit 126), (nat_lit 182, nat_lit 140, nat_lit 140), (nat_lit 182, nat_lit 146, nat_lit 153)], [], [], [])
set_option maxRecDepth 100000 in
theorem syc_785 : CoOk GG MM syt_785 := chk_okF (cs := [syt_299, syt_243, syt_303, syt_304]) (F := 4000) (cs_c syc_299 <| cs_c syc_243 <| cs_c syc_303 <| cs_c syc_304 cs_n) (by decide +kernel) (by decide +kernel)
/-- M.drawsFor -/
def syt_786 : CO := (nat_lit 194, nat_lit 4, [ee_0, ee_130], [sv_19, sv_24], [(nat_lit 182, nat_lit 0, sv_1)], [(nat_lit 2, nat_lit 182, nat_lit 0)], [(none, [ee_0, ee_130, ee_30], [(nat_lit 182, nat_lit 0, sv_1), (nat_lit 182, nat_lit 1, sv_4)], [(nat_lit 2, nat_lit 182, nat_lit 1)])], [(nat_lit 180, nat_lit 42, nat_lit 42), (nat_lit 182, nat_lit 103, nat_lit 103), (nat_lit 182, nat_lit 105, nat_lit 105), (nat_lit 182, nat_lit 112, nat_lit 112), (nat_lit 182, nat_lit 119, nat_lit 119), (nat_lit 182, nat_lit 126, nat_lit 126), (nat_lit 182, nat_lit 131, nat_lit 138), (nat_lit 182, nat_lit 140, nat_lit 140), (nat_lit 182, nat_lit 146, nat_lit 153)], [], [], [])
set_option maxRecDepth 100000 in
theorem syc_786 : CoOk GG MM syt_786 := chk_okF (cs := [syt_785, syt_772, syt_773, syt_781, syt_771, syt_365, syt_784, syt_783, syt_782, syt_300]) (F := 4000) (cs_c syc_785 <| cs_c syc_772 <| cs_c syc_773 <| cs_c syc_781 <| cs_c syc_771 <| cs_c syc_365 <| cs_c syc_784 <| cs_c syc_783 <| cs_c syc_782 <| cs_c syc_300 cs_n) (by decide +kernel) (by decide +kernel)
/-- M.draw -/
def syt_787 : CO := (nat_lit 191, nat_lit 1, [ee_0, ee_131], [sv_19, sv_1], [], [(nat_lit 1, nat_lit 1, nat_lit 0)], [(some sv_4, [ee_0, ee_131, ee_27], [], [(nat_lit 1, nat_lit 0, nat_lit 0)])], [(nat_lit 180, nat_lit 42, nat_lit 42)], [], [], [])
set_option maxRecDepth 100000 in
theorem syc_787 : CoOk GG MM syt_787 := chk_okF (cs := []) (F := 4000) (fun _ h => absurd h List.not_mem_nil) (by decide +kernel) (by decide +kernel)
/-- M.why -/
def syt_788 : CO := (nat_lit 291, nat_lit 3, [ee_0, ee_27], [sv_19, sv_24, sv_32, sv_1, sv_6], [], [(nat_lit 1, nat_lit 3, nat_lit 0)], [(some sv_24, [ee_0, ee_78], [], []), (some sv_4, [ee_0, ee_27, ee_152], [], [(nat_lit 1, nat_lit 0, nat_lit 0)]), (some sv_6, [ee_0, ee_27], [], [])], [], [], [], [])
set_option maxRecDepth 100000 in
theorem syc_788 : CoOk GG MM syt_788 := chk_okF (cs := [syt_244, syt_236, syt_317, syt_318, syt_319, syt_320, syt_321, syt_322, syt_370, syt_367, syt_276]) (F := 4000) (cs_c syc_244 <| cs_c syc_236 <| cs_c syc_317 <| cs_c syc_318 <| cs_c syc_319 <| cs_c syc_320 <| cs_c syc_321 <| cs_c syc_322 <| cs_c syc_370 <| cs_c syc_367 <| cs_c syc_276 cs_n) (by decide +kernel) (by decide +kernel)
/-- M.live -/
def syt_789 : CO := (nat_lit 232, nat_lit 1, [ee_0, ee_27], [sv_19, sv_24, sv_32, sv_1, sv_6], [], [(nat_lit 1, nat_lit 3, nat_lit 0)], [(none, [ee_0, ee_27], [], [])], [(nat_lit 182, nat_lit 132, nat_lit 138)], [], [], [])
set_option maxRecDepth 100000 in
theorem syc_789 : CoOk GG MM syt_789 := chk_okF (cs := []) (F := 4000) (fun _ h => absurd h List.not_mem_nil) (by decide +kernel) (by decide +kernel)
/-- M.live -/
def syt_790 : CO := (nat_lit 232, nat_lit 1, [ee_0], [sv_19, sv_32, sv_32, sv_6, sv_6], [], [], [(none, [ee_0], [], [])], [(nat_lit 182, nat_lit 131, nat_lit 138)], [], [], [])
set_option maxRecDepth 100000 in
theorem syc_790 : CoOk GG MM syt_790 := chk_okF (cs := []) (F := 4000) (fun _ h => absurd h List.not_mem_nil) (by decide +kernel) (by decide +kernel)
/-- M.doDeed -/
def syt_791 : CO := (nat_lit 189, nat_lit 3, [ee_0, ee_14, ee_127], [sv_19, sv_32, sv_1, sv_4], [], [(nat_lit 1, nat_lit 2, nat_lit 0), (nat_lit 1, nat_lit 3, nat_lit 0)], [(none, [ee_0, ee_14, ee_127], [], [])], [(nat_lit 182, nat_lit 103, nat_lit 103), (nat_lit 182, nat_lit 106, nat_lit 106), (nat_lit 182, nat_lit 113, nat_lit 113), (nat_lit 182, nat_lit 120, nat_lit 120), (nat_lit 182, nat_lit 127, nat_lit 127), (nat_lit 182, nat_lit 141, nat_lit 141), (nat_lit 182, nat_lit 146, nat_lit 153)], [], [], [])
set_option maxRecDepth 100000 in
theorem syc_791 : CoOk GG MM syt_791 := chk_okF (cs := [syt_299, syt_243, syt_303, syt_304]) (F := 4000) (cs_c syc_299 <| cs_c syc_243 <| cs_c syc_303 <| cs_c syc_304 cs_n) (by decide +kernel) (by decide +kernel)
/-- M.drawsFor -/
def syt_792 : CO := (nat_lit 194, nat_lit 4, [ee_0, ee_131], [sv_19, sv_32], [(nat_lit 182, nat_lit 0, sv_1)], [(nat_lit 2, nat_lit 182, nat_lit 0)], [(none, [ee_0, ee_131, ee_30], [(nat_lit 182, nat_lit 0, sv_1), (nat_lit 182, nat_lit 1, sv_4)], [(nat_lit 2, nat_lit 182, nat_lit 1)])], [(nat_lit 180, nat_lit 42, nat_lit 42), (nat_lit 182, nat_lit 103, nat_lit 103), (nat_lit 182, nat_lit 106, nat_lit 106), (nat_lit 182, nat_lit 113, nat_lit 113), (nat_lit 182, nat_lit 120, nat_lit 120), (nat_lit 182, nat_lit 127, nat_lit 127), (nat_lit 182, nat_lit 131, nat_lit 138), (nat_lit 182, nat_lit 141, nat_lit 141), (nat_lit 182, nat_lit 146, nat_lit 153)], [], [], [])
set_option maxRecDepth 100000 in
theorem syc_792 : CoOk GG MM syt_792 := chk_okF (cs := [syt_791, syt_772, syt_773, syt_787, syt_771, syt_367, syt_790, syt_789, syt_788, syt_300]) (F := 4000) (cs_c syc_791 <| cs_c syc_772 <| cs_c syc_773 <| cs_c syc_787 <| cs_c syc_771 <| cs_c syc_367 <| cs_c syc_790 <| cs_c syc_789 <| cs_c syc_788 <| cs_c syc_300 cs_n) (by decide +kernel) (by decide +kernel)
/-- M.draw -/
def syt_793 : CO := (nat_lit 191, nat_lit 1, [ee_0, ee_132], [sv_19, sv_1], [], [(nat_lit 1, nat_lit 1, nat_lit 0)], [(some sv_4, [ee_0, ee_132, ee_27], [], [(nat_lit 1, nat_lit 0, nat_lit 0)])], [(nat_lit 180, nat_lit 42, nat_lit 42)], [], [], [])
set_option maxRecDepth 100000 in
theorem syc_793 : CoOk GG MM syt_793 := chk_okF (cs := []) (F := 4000) (fun _ h => absurd h List.not_mem_nil) (by decide +kernel) (by decide +kernel)
/-- M.why -/
def syt_794 : CO := (nat_lit 291, nat_lit 3, [ee_0, ee_27], [sv_19, sv_24, sv_31, sv_1, sv_6], [], [(nat_lit 1, nat_lit 3, nat_lit 0)], [(some sv_24, [ee_0, ee_128], [], []), (some sv_4, [ee_0, ee_27, ee_152], [], [(nat_lit 1, nat_lit 0, nat_lit 0)]), (some sv_6, [ee_0, ee_27], [], [])], [], [], [], [])
set_option maxRecDepth 100000 in
theorem syc_794 : CoOk GG MM syt_794 := chk_okF (cs := [syt_244, syt_236, syt_317, syt_318, syt_319, syt_320, syt_321, syt_322, syt_372, syt_369, syt_276]) (F := 4000) (cs_c syc_244 <| cs_c syc_236 <| cs_c syc_317 <| cs_c syc_318 <| cs_c syc_319 <| cs_c syc_320 <| cs_c syc_321 <| cs_c syc_322 <| cs_c syc_372 <| cs_c syc_369 <| cs_c syc_276 cs_n) (by decide +kernel) (by decide +kernel)
/-- M.live -/
def syt_795 : CO := (nat_lit 232, nat_lit 1, [ee_0, ee_27], [sv_19, sv_24, sv_31, sv_1, sv_6], [], [(nat_lit 1, nat_lit 3, nat_lit 0)], [(none, [ee_0, ee_27], [], [])], [(nat_lit 182, nat_lit 132, nat_lit 138)], [], [], [])
set_option maxRecDepth 100000 in
theorem syc_795 : CoOk GG MM syt_795 := chk_okF (cs := []) (F := 4000) (fun _ h => absurd h List.not_mem_nil) (by decide +kernel) (by decide +kernel)
/-- M.live -/
def syt_796 : CO := (nat_lit 232, nat_lit 1, [ee_0], [sv_19, sv_32, sv_31, sv_6, sv_6], [], [], [(none, [ee_0], [], [])], [(nat_lit 182, nat_lit 131, nat_lit 138)], [], [], [])
set_option maxRecDepth 100000 in
theorem syc_796 : CoOk GG MM syt_796 := chk_okF (cs := []) (F := 4000) (fun _ h => absurd h List.not_mem_nil) (by decide +kernel) (by decide +kernel)
/-- M.doDeed -/
def syt_797 : CO := (nat_lit 189, nat_lit 3, [ee_0, ee_14, ee_127], [sv_19, sv_31, sv_1, sv_4], [], [(nat_lit 1, nat_lit 2, nat_lit 0), (nat_lit 1, nat_lit 3, nat_lit 0)], [(none, [ee_0, ee_14, ee_127], [], [])], [(nat_lit 182, nat_lit 103, nat_lit 103), (nat_lit 182, nat_lit 107, nat_lit 107), (nat_lit 182, nat_lit 114, nat_lit 114), (nat_lit 182, nat_lit 121, nat_lit 121), (nat_lit 182, nat_lit 128, nat_lit 128), (nat_lit 182, nat_lit 142, nat_lit 142), (nat_lit 182, nat_lit 146, nat_lit 153)], [], [], [])
set_option maxRecDepth 100000 in
theorem syc_797 : CoOk GG MM syt_797 := chk_okF (cs := [syt_299, syt_243, syt_303, syt_304]) (F := 4000) (cs_c syc_299 <| cs_c syc_243 <| cs_c syc_303 <| cs_c syc_304 cs_n) (by decide +kernel) (by decide +kernel)
/-- M.drawsFor -/
def syt_798 : CO := (nat_lit 194, nat_lit 4, [ee_0, ee_132], [sv_19, sv_31], [(nat_lit 182, nat_lit 0, sv_1)], [(nat_lit 2, nat_lit 182, nat_lit 0)], [(none, [ee_0, ee_132, ee_30], [(nat_lit 182, nat_lit 0, sv_1), (nat_lit 182, nat_lit 1, sv_4)], [(nat_lit 2, nat_lit 182, nat_lit 1)])], [(nat_lit 180, nat_lit 42, nat_lit 42), (nat_lit 182, nat_lit 103, nat_lit 103), (nat_lit 182, nat_lit 107, nat_lit 107), (nat_lit 182, nat_lit 114, nat_lit 114), (nat_lit 182, nat_lit 121, nat_lit 121), (nat_lit 182, nat_lit 128, nat_lit 128), (nat_lit 182, nat_lit 131, nat_lit 138), (nat_lit 182, nat_lit 142, nat_lit 142), (nat_lit 182, nat_lit 146, nat_lit 153)], [], [], [])
set_option maxRecDepth 100000 in
theorem syc_798 : CoOk GG MM syt_798 := chk_okF (cs := [syt_797, syt_772, syt_773, syt_793, syt_771, syt_369, syt_796, syt_795, syt_794, syt_300]) (F := 4000) (cs_c syc_797 <| cs_c syc_772 <| cs_c syc_773 <| cs_c syc_793 <| cs_c syc_771 <| cs_c syc_369 <| cs_c syc_796 <| cs_c syc_795 <| cs_c syc_794 <| cs_c syc_300 cs_n) (by decide +kernel) (by decide +kernel)
/-- M.draw -/
def syt_799 : CO := (nat_lit 191, nat_lit 1, [ee_0, ee_133], [sv_19, sv_1], [], [(nat_lit 1, nat_lit 1, nat_lit 0)], [(some sv_4, [ee_0, ee_133, ee_27], [], [(nat_lit 1, nat_lit 0, nat_lit 0)])], [(nat_lit 180, nat_lit 42, nat_lit 42)], [], [], [])
set_option maxRecDepth 100000 in
theorem syc_799 : CoOk GG MM syt_799 := chk_okF (cs := []) (F := 4000) (fun _ h => absurd h List.not_mem_nil) (by decide +kernel) (by decide +kernel)
/-- M.why -/
def syt_800 : CO := (nat_lit 291, nat_lit 3, [ee_0, ee_27], [sv_19, sv_24, sv_38, sv_1, sv_6], [], [(nat_lit 1, nat_lit 3, nat_lit 0)], [(some sv_24, [ee_0, ee_144], [], []), (some sv_4, [ee_0, ee_27, ee_152], [], [(nat_lit 1, nat_lit 0, nat_lit 0)]), (some sv_6, [ee_0, ee_27], [], [])], [], [], [], [])
set_option maxRecDepth 100000 in
theorem syc_800 : CoOk GG MM syt_800 := chk_okF (cs := [syt_244, syt_236, syt_317, syt_318, syt_319, syt_320, syt_321, syt_322, syt_374, syt_371, syt_276]) (F := 4000) (cs_c syc_244 <| cs_c syc_236 <| cs_c syc_317 <| cs_c syc_318 <| cs_c syc_319 <| cs_c syc_320 <| cs_c syc_321 <| cs_c syc_322 <| cs_c syc_374 <| cs_c syc_371 <| cs_c syc_276 cs_n) (by decide +kernel) (by decide +kernel)
/-- M.live -/
def syt_801 : CO := (nat_lit 232, nat_lit 1, [ee_0, ee_27], [sv_19, sv_24, sv_38, sv_1, sv_6], [], [(nat_lit 1, nat_lit 3, nat_lit 0)], [(none, [ee_0, ee_27], [], [])], [(nat_lit 182, nat_lit 132, nat_lit 138)], [], [], [])
set_option maxRecDepth 100000 in
theorem syc_801 : CoOk GG MM syt_801 := chk_okF (cs := []) (F := 4000) (fun _ h => absurd h List.not_mem_nil) (by decide +kernel) (by decide +kernel)
/-- M.live -/
def syt_802 : CO := (nat_lit 232, nat_lit 1, [ee_0], [sv_19, sv_32, sv_38, sv_6, sv_6], [], [], [(none, [ee_0], [], [])], [(nat_lit 182, nat_lit 131, nat_lit 138)], [], [], [])
set_option maxRecDepth 100000 in
theorem syc_802 : CoOk GG MM syt_802 := chk_okF (cs := []) (F := 4000) (fun _ h => absurd h List.not_mem_nil) (by decide +kernel) (by decide +kernel)
/-- M.doDeed -/
def syt_803 : CO := (nat_lit 189, nat_lit 3, [ee_0, ee_14, ee_127], [sv_19, sv_38, sv_1, sv_4], [], [(nat_lit 1, nat_lit 2, nat_lit 0), (nat_lit 1, nat_lit 3, nat_lit 0)], [(none, [ee_0, ee_14, ee_127], [], [])], [(nat_lit 182, nat_lit 103, nat_lit 103), (nat_lit 182, nat_lit 108, nat_lit 108), (nat_lit 182, nat_lit 115, nat_lit 115), (nat_lit 182, nat_lit 122, nat_lit 122), (nat_lit 182, nat_lit 129, nat_lit 129), (nat_lit 182, nat_lit 143, nat_lit 143), (nat_lit 182, nat_lit 146, nat_lit 153)], [], [], [])
set_option maxRecDepth 100000 in
theorem syc_803 : CoOk GG MM syt_803 := chk_okF (cs := [syt_299, syt_243, syt_303, syt_304]) (F := 4000) (cs_c syc_299 <| cs_c syc_243 <| cs_c syc_303 <| cs_c syc_304 cs_n) (by decide +kernel) (by decide +kernel)
/-- M.drawsFor -/
def syt_804 : CO := (nat_lit 194, nat_lit 4, [ee_0, ee_133], [sv_19, sv_38], [(nat_lit 182, nat_lit 0, sv_1)], [(nat_lit 2, nat_lit 182, nat_lit 0)], [(none, [ee_0, ee_133, ee_30], [(nat_lit 182, nat_lit 0, sv_1), (nat_lit 182, nat_lit 1, sv_4)], [(nat_lit 2, nat_lit 182, nat_lit 1)])], [(nat_lit 180, nat_lit 42, nat_lit 42), (nat_lit 182, nat_lit 103, nat_lit 103), (nat_lit 182, nat_lit 108, nat_lit 108), (nat_lit 182, nat_lit 115, nat_lit 115), (nat_lit 182, nat_lit 122, nat_lit 122), (nat_lit 182, nat_lit 129, nat_lit 129), (nat_lit 182, nat_lit 131, nat_lit 138), (nat_lit 182, nat_lit 143, nat_lit 143), (nat_lit 182, nat_lit 146, nat_lit 153)], [], [], [])
set_option maxRecDepth 100000 in
theorem syc_804 : CoOk GG MM syt_804 := chk_okF (cs := [syt_803, syt_772, syt_773, syt_799, syt_771, syt_371, syt_802, syt_801, syt_800, syt_300]) (F := 4000) (cs_c syc_803 <| cs_c syc_772 <| cs_c syc_773 <| cs_c syc_799 <| cs_c syc_771 <| cs_c syc_371 <| cs_c syc_802 <| cs_c syc_801 <| cs_c syc_800 <| cs_c syc_300 cs_n) (by decide +kernel) (by decide +kernel)
/-- M.draw -/
def syt_805 : CO := (nat_lit 191, nat_lit 1, [ee_0, ee_134], [sv_19, sv_1], [], [(nat_lit 1, nat_lit 1, nat_lit 0)], [(some sv_4, [ee_0, ee_134, ee_27], [], [(nat_lit 1, nat_lit 0, nat_lit 0)])], [(nat_lit 180, nat_lit 42, nat_lit 42)], [], [], [])
set_option maxRecDepth 100000 in
theorem syc_805 : CoOk GG MM syt_805 := chk_okF (cs := []) (F := 4000) (fun _ h => absurd h List.not_mem_nil) (by decide +kernel) (by decide +kernel)
/-- M.why -/
def syt_806 : CO := (nat_lit 291, nat_lit 3, [ee_0, ee_27], [sv_19, sv_24, sv_68, sv_1, sv_6], [], [(nat_lit 1, nat_lit 3, nat_lit 0)], [(some sv_24, [ee_0, ee_147], [], []), (some sv_4, [ee_0, ee_27, ee_152], [], [(nat_lit 1, nat_lit 0, nat_lit 0)]), (some sv_6, [ee_0, ee_27], [], [])], [], [], [], [])
set_option maxRecDepth 100000 in
theorem syc_806 : CoOk GG MM syt_806 := chk_okF (cs := [syt_244, syt_236, syt_317, syt_318, syt_319, syt_320, syt_321, syt_322, syt_376, syt_373, syt_276]) (F := 4000) (cs_c syc_244 <| cs_c syc_236 <| cs_c syc_317 <| cs_c syc_318 <| cs_c syc_319 <| cs_c syc_320 <| cs_c syc_321 <| cs_c syc_322 <| cs_c syc_376 <| cs_c syc_373 <| cs_c syc_276 cs_n) (by decide +kernel) (by decide +kernel)
/-- M.live -/
def syt_807 : CO := (nat_lit 232, nat_lit 1, [ee_0, ee_27], [sv_19, sv_24, sv_68, sv_1, sv_6], [], [(nat_lit 1, nat_lit 3, nat_lit 0)], [(none, [ee_0, ee_27], [], [])], [(nat_lit 182, nat_lit 132, nat_lit 138)], [], [], [])
set_option maxRecDepth 100000 in
theorem syc_807 : CoOk GG MM syt_807 := chk_okF (cs := []) (F := 4000) (fun _ h => absurd h List.not_mem_nil) (by decide +kernel) (by decide +kernel)
/-- M.live -/
def syt_808 : CO := (nat_lit 232, nat_lit 1, [ee_0], [sv_19, sv_32, sv_68, sv_6, sv_6], [], [], [(none, [ee_0], [], [])], [(nat_lit 182, nat_lit 131, nat_lit 138)], [], [], [])
set_option maxRecDepth 100000 in
theorem syc_808 : CoOk GG MM syt_808 := chk_okF (cs := []) (F := 4000) (fun _ h => absurd h List.not_mem_nil) (by decide +kernel) (by decide +kernel)
/-- M.doDeed -/
def syt_809 : CO := (nat_lit 189, nat_lit 3, [ee_0, ee_14, ee_127], [sv_19, sv_68, sv_1, sv_4], [], [(nat_lit 1, nat_lit 2, nat_lit 0), (nat_lit 1, nat_lit 3, nat_lit 0)], [(none, [ee_0, ee_14, ee_127], [], [])], [(nat_lit 182, nat_lit 103, nat_lit 103), (nat_lit 182, nat_lit 109, nat_lit 109), (nat_lit 182, nat_lit 116, nat_lit 116), (nat_lit 182, nat_lit 123, nat_lit 123), (nat_lit 182, nat_lit 130, nat_lit 130), (nat_lit 182, nat_lit 144, nat_lit 144), (nat_lit 182, nat_lit 146, nat_lit 153)], [], [], [])
set_option maxRecDepth 100000 in
theorem syc_809 : CoOk GG MM syt_809 := chk_okF (cs := [syt_299, syt_243, syt_303, syt_304]) (F := 4000) (cs_c syc_299 <| cs_c syc_243 <| cs_c syc_303 <| cs_c syc_304 cs_n) (by decide +kernel) (by decide +kernel)
/-- M.drawsFor -/
def syt_810 : CO := (nat_lit 194, nat_lit 4, [ee_0, ee_134], [sv_19, sv_68], [(nat_lit 182, nat_lit 0, sv_1)], [(nat_lit 2, nat_lit 182, nat_lit 0)], [(none, [ee_0, ee_134, ee_30], [(nat_lit 182, nat_lit 0, sv_1), (nat_lit 182, nat_lit 1, sv_4)], [(nat_lit 2, nat_lit 182, nat_lit 1)])], [(nat_lit 180, nat_lit 42, nat_lit 42), (nat_lit 182, nat_lit 103, nat_lit 103), (nat_lit 182, nat_lit 109, nat_lit 109), (nat_lit 182, nat_lit 116, nat_lit 116), (nat_lit 182, nat_lit 123, nat_lit 123), (nat_lit 182, nat_lit 130, nat_lit 138), (nat_lit 182, nat_lit 144, nat_lit 144), (nat_lit 182, nat_lit 146, nat_lit 153)], [], [], [])
set_option maxRecDepth 100000 in
theorem syc_810 : CoOk GG MM syt_810 := chk_okF (cs := [syt_809, syt_772, syt_773, syt_805, syt_771, syt_373, syt_808, syt_807, syt_806, syt_300]) (F := 4000) (cs_c syc_809 <| cs_c syc_772 <| cs_c syc_773 <| cs_c syc_805 <| cs_c syc_771 <| cs_c syc_373 <| cs_c syc_808 <| cs_c syc_807 <| cs_c syc_806 <| cs_c syc_300 cs_n) (by decide +kernel) (by decide +kernel)
/-- M.draw -/
def syt_811 : CO := (nat_lit 191, nat_lit 1, [ee_0, ee_79], [sv_19, sv_1], [], [(nat_lit 1, nat_lit 1, nat_lit 0)], [(some sv_4, [ee_0, ee_79, ee_27], [], [(nat_lit 1, nat_lit 0, nat_lit 0)])], [(nat_lit 180, nat_lit 42, nat_lit 42)], [], [], [])
set_option maxRecDepth 100000 in
theorem syc_811 : CoOk GG MM syt_811 := chk_okF (cs := []) (F := 4000) (fun _ h => absurd h List.not_mem_nil) (by decide +kernel) (by decide +kernel)
/-- M.why -/
def syt_812 : CO := (nat_lit 291, nat_lit 3, [ee_0, ee_27], [sv_19, sv_24, sv_70, sv_1, sv_6], [], [(nat_lit 1, nat_lit 3, nat_lit 0)], [(some sv_24, [ee_0, ee_115], [], []), (some sv_4, [ee_0, ee_116, ee_152], [], [(nat_lit 1, nat_lit 0, nat_lit 0)]), (some sv_6, [ee_0, ee_116], [], [])], [], [], [], [])
set_option maxRecDepth 100000 in
theorem syc_812 : CoOk GG MM syt_812 := chk_okF (cs := [syt_244, syt_236, syt_317, syt_318, syt_319, syt_320, syt_321, syt_377, syt_375, syt_275]) (F := 4000) (cs_c syc_244 <| cs_c syc_236 <| cs_c syc_317 <| cs_c syc_318 <| cs_c syc_319 <| cs_c syc_320 <| cs_c syc_321 <| cs_c syc_377 <| cs_c syc_375 <| cs_c syc_275 cs_n) (by decide +kernel) (by decide +kernel)
/-- M.live -/
def syt_813 : CO := (nat_lit 232, nat_lit 1, [ee_0, ee_116], [sv_19, sv_24, sv_70, sv_1, sv_6], [], [(nat_lit 1, nat_lit 3, nat_lit 0)], [(none, [ee_0, ee_116], [], [])], [(nat_lit 182, nat_lit 132, nat_lit 138)], [], [], [])
set_option maxRecDepth 100000 in
theorem syc_813 : CoOk GG MM syt_813 := chk_okF (cs := []) (F := 4000) (fun _ h => absurd h List.not_mem_nil) (by decide +kernel) (by decide +kernel)
/-- M.live -/
def syt_814 : CO := (nat_lit 232, nat_lit 1, [ee_0], [sv_19, sv_32, sv_70, sv_6, sv_6], [], [], [(none, [ee_0], [], [])], [(nat_lit 182, nat_lit 131, nat_lit 138)], [], [], [])
set_option maxRecDepth 100000 in
theorem syc_814 : CoOk GG MM syt_814 := chk_okF (cs := []) (F := 4000) (fun _ h => absurd h List.not_mem_nil) (by decide +kernel) (by decide +kernel)
/-- M.doDeed -/
def syt_815 : CO := (nat_lit 189, nat_lit 3, [ee_0, ee_14, ee_127], [sv_19, sv_70, sv_1, sv_4], [], [(nat_lit 1, nat_lit 2, nat_lit 0), (nat_lit 1, nat_lit 3, nat_lit 0)], [(none, [ee_0, ee_14, ee_127], [], [])], [(nat_lit 182, nat_lit 103, nat_lit 103), (nat_lit 182, nat_lit 110, nat_lit 110), (nat_lit 182, nat_lit 117, nat_lit 117), (nat_lit 182, nat_lit 124, nat_lit 124), (nat_lit 182, nat_lit 131, nat_lit 131), (nat_lit 182, nat_lit 145, nat_lit 153)], [], [], [])
set_option maxRecDepth 100000 in
theorem syc_815 : CoOk GG MM syt_815 := chk_okF (cs := [syt_299, syt_243, syt_303, syt_304]) (F := 4000) (cs_c syc_299 <| cs_c syc_243 <| cs_c syc_303 <| cs_c syc_304 cs_n) (by decide +kernel) (by decide +kernel)
/-- M.drawsFor -/
def syt_816 : CO := (nat_lit 194, nat_lit 4, [ee_0, ee_79], [sv_19, sv_70], [(nat_lit 182, nat_lit 0, sv_1)], [(nat_lit 2, nat_lit 182, nat_lit 0)], [(none, [ee_0, ee_79, ee_30], [(nat_lit 182, nat_lit 0, sv_1), (nat_lit 182, nat_lit 1, sv_4)], [(nat_lit 2, nat_lit 182, nat_lit 1)])], [(nat_lit 180, nat_lit 42, nat_lit 42), (nat_lit 182, nat_lit 103, nat_lit 103), (nat_lit 182, nat_lit 110, nat_lit 110), (nat_lit 182, nat_lit 117, nat_lit 117), (nat_lit 182, nat_lit 124, nat_lit 124), (nat_lit 182, nat_lit 131, nat_lit 138), (nat_lit 182, nat_lit 145, nat_lit 153)], [], [], [])
set_option maxRecDepth 100000 in
theorem syc_816 : CoOk GG MM syt_816 := chk_okF (cs := [syt_815, syt_772, syt_773, syt_811, syt_771, syt_375, syt_814, syt_813, syt_812, syt_300]) (F := 4000) (cs_c syc_815 <| cs_c syc_772 <| cs_c syc_773 <| cs_c syc_811 <| cs_c syc_771 <| cs_c syc_375 <| cs_c syc_814 <| cs_c syc_813 <| cs_c syc_812 <| cs_c syc_300 cs_n) (by decide +kernel) (by decide +kernel)
/-- M.drawDays -/
def syt_817 : CO := (nat_lit 192, nat_lit 5, [ee_0, ee_153, ee_1], [sv_19, sv_1, sv_4], [], [(nat_lit 1, nat_lit 1, nat_lit 0), (nat_lit 1, nat_lit 2, nat_lit 0)], [(some sv_9, [ee_0, ee_153, ee_1, ee_155], [], [(nat_lit 1, nat_lit 0, nat_lit 0)])], [(nat_lit 180, nat_lit 42, nat_lit 42), (nat_lit 182, nat_lit 101, nat_lit 101), (nat_lit 182, nat_lit 103, nat_lit 153)], [(nat_lit 24, nat_lit 1, nat_lit 1, ([ee_0, ee_153, ee_1, ee_154, ee_155], [(nat_lit 0, sv_19), (nat_lit 3, sv_10), (nat_lit 4, sv_9)], [], []), [(nat_lit 0, nat_lit 4, nat_lit 0), (nat_lit 0, nat_lit 3, nat_lit 0)], [(nat_lit 33, nat_lit 1)]),
  (nat_lit 33, nat_lit 1, nat_lit 3, ([ee_0, ee_153, ee_1, ee_15, ee_153], [(nat_lit 0, sv_19), (nat_lit 3, sv_10), (nat_lit 4, sv_9), (nat_lit 5, sv_6)], [], []), [(nat_lit 0, nat_lit 3, nat_lit 0)], [(nat_lit 24, nat_lit 0), (nat_lit 33, nat_lit 2)]),
  (nat_lit 33, nat_lit 1, nat_lit 3, ([ee_0, ee_153, ee_1, ee_15, ee_153, ee_26, ee_30], [(nat_lit 0, sv_19), (nat_lit 3, sv_10), (nat_lit 4, sv_9), (nat_lit 5, sv_24)], [], [(nat_lit 182, nat_lit 0, sv_11), (nat_lit 182, nat_lit 1, sv_17)]), [(nat_lit 0, nat_lit 3, nat_lit 0), (nat_lit 2, nat_lit 182, nat_lit 0), (nat_lit 2, nat_lit 182, nat_lit 1)], [(nat_lit 24, nat_lit 0), (nat_lit 33, nat_lit 3)]),
  (nat_lit 33, nat_lit 1, nat_lit 3, ([ee_0, ee_153, ee_1, ee_15, ee_153, ee_130, ee_30], [(nat_lit 0, sv_19), (nat_lit 3, sv_10), (nat_lit 4, sv_9), (nat_lit 5, sv_32)], [], [(nat_lit 182, nat_lit 0, sv_11), (nat_lit 182, nat_lit 1, sv_17)]), [(nat_lit 0, nat_lit 3, nat_lit 0), (nat_lit 2, nat_lit 182, nat_lit 0), (nat_lit 2, nat_lit 182, nat_lit 1)], [(nat_lit 24, nat_lit 0), (nat_lit 33, nat_lit 4)]),
  (nat_lit 33, nat_lit 1, nat_lit 3, ([ee_0, ee_153, ee_1, ee_15, ee_153, ee_131, ee_30], [(nat_lit 0, sv_19), (nat_lit 3, sv_10), (nat_lit 4, sv_9), (nat_lit 5, sv_31)], [], [(nat_lit 182, nat_lit 0, sv_11), (nat_lit 182, nat_lit 1, sv_17)]), [(nat_lit 0, nat_lit 3, nat_lit 0), (nat_lit 2, nat_lit 182, nat_lit 0), (nat_lit 2, nat_lit 182, nat_lit 1)], [(nat_lit 24, nat_lit 0), (nat_lit 33, nat_lit 5)]),
  (nat_lit 33, nat_lit 1, nat_lit 3, ([ee_0, ee_153, ee_1, ee_15, ee_153, ee_132, ee_30], [(nat_lit 0, sv_19), (nat_lit 3, sv_10), (nat_lit 4, sv_9), (nat_lit 5, sv_38)], [], [(nat_lit 182, nat_lit 0, sv_11), (nat_lit 182, nat_lit 1, sv_17)]), [(nat_lit 0, nat_lit 3, nat_lit 0), (nat_lit 2, nat_lit 182, nat_lit 0), (nat_lit 2, nat_lit 182, nat_lit 1)], [(nat_lit 24, nat_lit 0), (nat_lit 33, nat_lit 6)]),
  (nat_lit 33, nat_lit 1, nat_lit 3, ([ee_0, ee_153, ee_1, ee_15, ee_153, ee_133, ee_30], [(nat_lit 0, sv_19), (nat_lit 3, sv_10), (nat_lit 4, sv_9), (nat_lit 5, sv_68)], [], [(nat_lit 182, nat_lit 0, sv_11), (nat_lit 182, nat_lit 1, sv_17)]), [(nat_lit 0, nat_lit 3, nat_lit 0), (nat_lit 2, nat_lit 182, nat_lit 0), (nat_lit 2, nat_lit 182, nat_lit 1)], [(nat_lit 24, nat_lit 0), (nat_lit 33, nat_lit 7)]),
  (nat_lit 33, nat_lit 1, nat_lit 3, ([ee_0, ee_153, ee_1, ee_15, ee_153, ee_134, ee_30], [(nat_lit 0, sv_19), (nat_lit 3, sv_10), (nat_lit 4, sv_9), (nat_lit 5, sv_70)], [], [(nat_lit 182, nat_lit 0, sv_11), (nat_lit 182, nat_lit 1, sv_17)]), [(nat_lit 0, nat_lit 3, nat_lit 0), (nat_lit 2, nat_lit 182, nat_lit 0), (nat_lit 2, nat_lit 182, nat_lit 1)], [(nat_lit 24, nat_lit 0), (nat_lit 33, nat_lit 8)]),
  (nat_lit 33, nat_lit 1, nat_lit 3, ([ee_0, ee_153, ee_1, ee_15, ee_153, ee_79, ee_30], [(nat_lit 0, sv_19), (nat_lit 3, sv_10), (nat_lit 4, sv_9), (nat_lit 5, sv_59)], [], [(nat_lit 182, nat_lit 0, sv_11), (nat_lit 182, nat_lit 1, sv_17)]), [(nat_lit 0, nat_lit 3, nat_lit 0), (nat_lit 2, nat_lit 182, nat_lit 0), (nat_lit 2, nat_lit 182, nat_lit 1)], [(nat_lit 24, nat_lit 0)])], [], [(nat_lit 24, nat_lit 0)])
set_option maxRecDepth 100000 in
theorem syc_817 : CoOk GG MM syt_817 := chk_okF (cs := [syt_816, syt_810, syt_804, syt_798, syt_792, syt_786, syt_780, syt_362, syt_378]) (F := 4000) (cs_c syc_816 <| cs_c syc_810 <| cs_c syc_804 <| cs_c syc_798 <| cs_c syc_792 <| cs_c syc_786 <| cs_c syc_780 <| cs_c syc_362 <| cs_c syc_378 cs_n) (by decide +kernel) (by decide +kernel)
/-- M.drawn -/
def syt_818 : CO := (nat_lit 193, nat_lit 6, [ee_0, ee_1, ee_1], [sv_19, sv_1, sv_4], [], [(nat_lit 1, nat_lit 1, nat_lit 0), (nat_lit 1, nat_lit 2, nat_lit 0)], [(some sv_16, [ee_0, ee_1, ee_1], [], []), (some sv_6, [ee_0, ee_153, ee_1, ee_26], [(nat_lit 182, nat_lit 0, sv_9)], [(nat_lit 2, nat_lit 182, nat_lit 0)]), (some sv_10, [ee_0, ee_153, ee_1, ee_26, ee_155], [(nat_lit 182, nat_lit 0, sv_9)], [(nat_lit 2, nat_lit 182, nat_lit 0), (nat_lit 1, nat_lit 0, nat_lit 0)])], [(nat_lit 180, nat_lit 0, nat_lit 0), (nat_lit 180, nat_lit 24, nat_lit 24), (nat_lit 180, nat_lit 42, nat_lit 42), (nat_lit 182, nat_lit 101, nat_lit 101), (nat_lit 182, nat_lit 103, nat_lit 153), (nat_lit 185, nat_lit 0, nat_lit 423)], [], [], [])
set_option maxRecDepth 100000 in
theorem syc_818 : CoOk GG MM syt_818 := chk_okF (cs := [syt_817, syt_361, syt_302]) (F := 4000) (cs_c syc_817 <| cs_c syc_361 <| cs_c syc_302 cs_n) (by decide +kernel) (by decide +kernel)
/-- Life.copyFrom -/
def syt_819 : CO := (nat_lit 94, nat_lit 1, [ee_0], [sv_232, sv_41], [], [], [(none, [ee_0], [], [])], [(nat_lit 31, nat_lit 0, nat_lit 3), (nat_lit 32, nat_lit 0, nat_lit 7), (nat_lit 33, nat_lit 0, nat_lit 7), (nat_lit 34, nat_lit 0, nat_lit 7), (nat_lit 35, nat_lit 0, nat_lit 7), (nat_lit 36, nat_lit 0, nat_lit 7), (nat_lit 37, nat_lit 0, nat_lit 7), (nat_lit 38, nat_lit 0, nat_lit 8)], [], [], [])
set_option maxRecDepth 100000 in
theorem syc_819 : CoOk GG MM syt_819 := chk_okF (cs := []) (F := 4000) (fun _ h => absurd h List.not_mem_nil) (by decide +kernel) (by decide +kernel)
/-- Life.draw -/
def syt_820 : CO := (nat_lit 97, nat_lit 1, [ee_0, ee_31], [sv_232, sv_1], [], [(nat_lit 1, nat_lit 1, nat_lit 0)], [(some sv_4, [ee_0, ee_31, ee_14], [], [(nat_lit 1, nat_lit 0, nat_lit 0)])], [(nat_lit 31, nat_lit 4, nat_lit 4)], [], [], [])
set_option maxRecDepth 100000 in
theorem syc_820 : CoOk GG MM syt_820 := chk_okF (cs := []) (F := 4000) (fun _ h => absurd h List.not_mem_nil) (by decide +kernel) (by decide +kernel)
/-- Life.draw -/
def syt_821 : CO := (nat_lit 97, nat_lit 1, [ee_0], [sv_232, sv_31], [], [], [(some sv_1, [ee_0, ee_127], [], [(nat_lit 1, nat_lit 0, nat_lit 0)])], [(nat_lit 31, nat_lit 4, nat_lit 4)], [], [], [])
set_option maxRecDepth 100000 in
theorem syc_821 : CoOk GG MM syt_821 := chk_okF (cs := []) (F := 4000) (fun _ h => absurd h List.not_mem_nil) (by decide +kernel) (by decide +kernel)
/-- Life.isJailed -/
def syt_822 : CO := (nat_lit 103, nat_lit 1, [ee_0, ee_27], [sv_232, sv_1], [], [(nat_lit 1, nat_lit 1, nat_lit 0)], [(some sv_24, [ee_0, ee_27], [], []), (some sv_6, [ee_0, ee_27], [], [])], [], [], [], [])
set_option maxRecDepth 100000 in
theorem syc_822 : CoOk GG MM syt_822 := chk_okF (cs := []) (F := 4000) (fun _ h => absurd h List.not_mem_nil) (by decide +kernel) (by decide +kernel)
/-- Life.isGloved -/
def syt_823 : CO := (nat_lit 102, nat_lit 1, [ee_0, ee_27], [sv_232, sv_1], [], [(nat_lit 1, nat_lit 1, nat_lit 0)], [(some sv_24, [ee_0, ee_27], [], []), (some sv_6, [ee_0, ee_27], [], [])], [], [], [], [])
set_option maxRecDepth 100000 in
theorem syc_823 : CoOk GG MM syt_823 := chk_okF (cs := []) (F := 4000) (fun _ h => absurd h List.not_mem_nil) (by decide +kernel) (by decide +kernel)
/-- Life.whyNotDo -/
def syt_824 : CO := (nat_lit 117, nat_lit 3, [ee_0, ee_27, ee_14, ee_127], [sv_232, sv_12, sv_1, sv_4, sv_9], [], [(nat_lit 1, nat_lit 2, nat_lit 0), (nat_lit 1, nat_lit 3, nat_lit 0), (nat_lit 1, nat_lit 4, nat_lit 0)], [(some sv_10, [ee_0, ee_27, ee_14, ee_127, ee_148], [], [(nat_lit 1, nat_lit 0, nat_lit 0)]), (some sv_6, [ee_0, ee_27, ee_14, ee_127], [], []), (some sv_24, [ee_0, ee_27, ee_14, ee_127], [], [])], [], [], [], [])
set_option maxRecDepth 100000 in
theorem syc_824 : CoOk GG MM syt_824 := chk_okF (cs := [syt_279, syt_249, syt_278, syt_823, syt_822]) (F := 4000) (cs_c syc_279 <| cs_c syc_249 <| cs_c syc_278 <| cs_c syc_823 <| cs_c syc_822 cs_n) (by decide +kernel) (by decide +kernel)
/-- Life.draw -/
def syt_825 : CO := (nat_lit 97, nat_lit 1, [ee_0], [sv_232, sv_5], [], [], [(some sv_1, [ee_0, ee_14], [], [(nat_lit 1, nat_lit 0, nat_lit 0)])], [(nat_lit 31, nat_lit 4, nat_lit 4)], [], [], [])
set_option maxRecDepth 100000 in
theorem syc_825 : CoOk GG MM syt_825 := chk_okF (cs := []) (F := 4000) (fun _ h => absurd h List.not_mem_nil) (by decide +kernel) (by decide +kernel)
/-- Life.draw -/
def syt_826 : CO := (nat_lit 97, nat_lit 1, [ee_0, ee_14], [sv_232, sv_1], [], [(nat_lit 1, nat_lit 1, nat_lit 0)], [(some sv_4, [ee_0, ee_26, ee_27], [], [(nat_lit 1, nat_lit 0, nat_lit 0)]), (some sv_6, [ee_0, ee_0], [], [])], [(nat_lit 31, nat_lit 4, nat_lit 4)], [], [], [])
set_option maxRecDepth 100000 in
theorem syc_826 : CoOk GG MM syt_826 := chk_okF (cs := []) (F := 4000) (fun _ h => absurd h List.not_mem_nil) (by decide +kernel) (by decide +kernel)
/-- Life.isWed -/
def syt_827 : CO := (nat_lit 105, nat_lit 1, [ee_0, ee_27], [sv_232, sv_1], [], [(nat_lit 1, nat_lit 1, nat_lit 0)], [(some sv_24, [ee_0, ee_27], [], []), (some sv_6, [ee_0, ee_27], [], [])], [], [], [], [])
set_option maxRecDepth 100000 in
theorem syc_827 : CoOk GG MM syt_827 := chk_okF (cs := []) (F := 4000) (fun _ h => absurd h List.not_mem_nil) (by decide +kernel) (by decide +kernel)
/-- Life.whyNotWed -/
def syt_828 : CO := (nat_lit 118, nat_lit 2, [ee_0, ee_27, ee_27], [sv_232, sv_1, sv_4], [], [(nat_lit 1, nat_lit 1, nat_lit 0), (nat_lit 1, nat_lit 2, nat_lit 0)], [(some sv_24, [ee_0, ee_27, ee_27], [], []), (some sv_6, [ee_0, ee_27, ee_27], [], []), (some sv_9, [ee_0, ee_27, ee_27, ee_152], [], [(nat_lit 1, nat_lit 0, nat_lit 0)])], [], [], [], [])
set_option maxRecDepth 100000 in
theorem syc_828 : CoOk GG MM syt_828 := chk_okF (cs := [syt_823, syt_822, syt_827]) (F := 4000) (cs_c syc_823 <| cs_c syc_822 <| cs_c syc_827 cs_n) (by decide +kernel) (by decide +kernel)
/-- Life.wedTwo -/
def syt_829 : CO := (nat_lit 115, nat_lit 1, [ee_0, ee_27, ee_27], [sv_232, sv_1, sv_4], [], [(nat_lit 1, nat_lit 1, nat_lit 0), (nat_lit 1, nat_lit 2, nat_lit 0)], [(none, [ee_0, ee_27, ee_27], [], [])], [(nat_lit 36, nat_lit 0, nat_lit 6)], [], [], [])
set_option maxRecDepth 100000 in
theorem syc_829 : CoOk GG MM syt_829 := chk_okF (cs := []) (F := 4000) (fun _ h => absurd h List.not_mem_nil) (by decide +kernel) (by decide +kernel)
/-- Life.partFromSpouse -/
def syt_830 : CO := (nat_lit 109, nat_lit 1, [ee_0, ee_27], [sv_232, sv_1], [], [(nat_lit 1, nat_lit 1, nat_lit 0)], [(none, [ee_0, ee_27], [], [])], [(nat_lit 36, nat_lit 0, nat_lit 6)], [], [], [])
set_option maxRecDepth 100000 in
theorem syc_830 : CoOk GG MM syt_830 := chk_okF (cs := []) (F := 4000) (fun _ h => absurd h List.not_mem_nil) (by decide +kernel) (by decide +kernel)
/-- Life.jailedBits -/
def syt_831 : CO := (nat_lit 106, nat_lit 2, [ee_0], [sv_232], [], [], [(some sv_1, [ee_0, ee_1], [], [(nat_lit 1, nat_lit 0, nat_lit 0)])], [], [(nat_lit 4, nat_lit 1, nat_lit 1, ([ee_0, ee_14, ee_1], [(nat_lit 0, sv_232), (nat_lit 1, sv_4), (nat_lit 2, sv_1)], [], []), [(nat_lit 0, nat_lit 2, nat_lit 0), (nat_lit 0, nat_lit 1, nat_lit 0)], [(nat_lit 4, nat_lit 0)])], [], [(nat_lit 4, nat_lit 0)])
set_option maxRecDepth 100000 in
theorem syc_831 : CoOk GG MM syt_831 := chk_okF (cs := [syt_822]) (F := 4000) (cs_c syc_822 cs_n) (by decide +kernel) (by decide +kernel)
/-- Life.isSeen -/
def syt_832 : CO := (nat_lit 104, nat_lit 3, [ee_0, ee_27], [sv_232, sv_12, sv_1], [], [(nat_lit 1, nat_lit 2, nat_lit 0)], [(some sv_24, [ee_0, ee_27], [], []), (some sv_6, [ee_0, ee_27], [], [])], [], [], [], [])
set_option maxRecDepth 100000 in
theorem syc_832 : CoOk GG MM syt_832 := chk_okF (cs := [syt_831]) (F := 4000) (cs_c syc_831 cs_n) (by decide +kernel) (by decide +kernel)
/-- Life.addBlame -/
def syt_833 : CO := (nat_lit 89, nat_lit 1, [ee_0, ee_27, ee_1], [sv_232, sv_12, sv_1, sv_4], [], [(nat_lit 1, nat_lit 2, nat_lit 0), (nat_lit 1, nat_lit 3, nat_lit 0)], [(none, [ee_0, ee_27, ee_1], [], [])], [(nat_lit 31, nat_lit 1, nat_lit 1), (nat_lit 33, nat_lit 0, nat_lit 6), (nat_lit 34, nat_lit 0, nat_lit 6)], [], [], [])
set_option maxRecDepth 100000 in
theorem syc_833 : CoOk GG MM syt_833 := chk_okF (cs := []) (F := 4000) (fun _ h => absurd h List.not_mem_nil) (by decide +kernel) (by decide +kernel)
/-- Life.doDeed -/
def syt_834 : CO := (nat_lit 96, nat_lit 4, [ee_0, ee_27, ee_14, ee_127], [sv_232, sv_12, sv_1, sv_4, sv_9], [], [(nat_lit 1, nat_lit 2, nat_lit 0), (nat_lit 1, nat_lit 3, nat_lit 0), (nat_lit 1, nat_lit 4, nat_lit 0)], [(none, [ee_0, ee_27, ee_14, ee_127], [], [])], [(nat_lit 31, nat_lit 1, nat_lit 2), (nat_lit 32, nat_lit 0, nat_lit 6), (nat_lit 33, nat_lit 0, nat_lit 6), (nat_lit 34, nat_lit 0, nat_lit 6), (nat_lit 35, nat_lit 0, nat_lit 6), (nat_lit 37, nat_lit 0, nat_lit 6), (nat_lit 38, nat_lit 0, nat_lit 7)], [], [], [])
set_option maxRecDepth 100000 in
theorem syc_834 : CoOk GG MM syt_834 := chk_okF (cs := [syt_833, syt_278, syt_832]) (F := 4000) (cs_c syc_833 <| cs_c syc_278 <| cs_c syc_832 cs_n) (by decide +kernel) (by decide +kernel)
/-- Life.drawActs -/
def syt_835 : CO := (nat_lit 98, nat_lit 5, [ee_0, ee_27], [sv_232, sv_12, sv_1], [], [(nat_lit 1, nat_lit 2, nat_lit 0)], [(none, [ee_0, ee_27], [], [])], [(nat_lit 31, nat_lit 1, nat_lit 2), (nat_lit 31, nat_lit 4, nat_lit 4), (nat_lit 32, nat_lit 0, nat_lit 6), (nat_lit 33, nat_lit 0, nat_lit 6), (nat_lit 34, nat_lit 0, nat_lit 6), (nat_lit 35, nat_lit 0, nat_lit 6), (nat_lit 36, nat_lit 0, nat_lit 6), (nat_lit 37, nat_lit 0, nat_lit 6), (nat_lit 38, nat_lit 0, nat_lit 7)], [], [], [])
set_option maxRecDepth 100000 in
theorem syc_835 : CoOk GG MM syt_835 := chk_okF (cs := [syt_834, syt_821, syt_825, syt_820, syt_826, syt_830, syt_829, syt_824, syt_828]) (F := 4000) (cs_c syc_834 <| cs_c syc_821 <| cs_c syc_825 <| cs_c syc_820 <| cs_c syc_826 <| cs_c syc_830 <| cs_c syc_829 <| cs_c syc_824 <| cs_c syc_828 cs_n) (by decide +kernel) (by decide +kernel)
/-- Life.passDay -/
def syt_836 : CO := (nat_lit 110, nat_lit 2, [ee_0], [sv_232, sv_12], [], [], [(none, [ee_0], [], [])], [(nat_lit 31, nat_lit 0, nat_lit 0), (nat_lit 32, nat_lit 0, nat_lit 6), (nat_lit 34, nat_lit 0, nat_lit 6), (nat_lit 37, nat_lit 0, nat_lit 6)], [(nat_lit 2, nat_lit 1, nat_lit 1, ([ee_0, ee_14], [(nat_lit 0, sv_232), (nat_lit 1, sv_12), (nat_lit 2, sv_1)], [], []), [(nat_lit 0, nat_lit 2, nat_lit 0)], [(nat_lit 2, nat_lit 0), (nat_lit 87, nat_lit 1)]),
  (nat_lit 87, nat_lit 2, nat_lit 1, ([ee_0, ee_14], [(nat_lit 0, sv_232), (nat_lit 1, sv_12), (nat_lit 2, sv_1)], [], []), [(nat_lit 0, nat_lit 2, nat_lit 0)], [(nat_lit 87, nat_lit 1)])], [], [(nat_lit 2, nat_lit 0)])
set_option maxRecDepth 100000 in
theorem syc_836 : CoOk GG MM syt_836 := chk_okF (cs := [syt_822]) (F := 4000) (cs_c syc_822 cs_n) (by decide +kernel) (by decide +kernel)
/-- Life.drawDays -/
def syt_837 : CO := (nat_lit 99, nat_lit 6, [ee_0, ee_435, ee_1], [sv_232, sv_12, sv_1, sv_4], [], [(nat_lit 1, nat_lit 2, nat_lit 0), (nat_lit 1, nat_lit 3, nat_lit 0)], [(none, [ee_0, ee_435, ee_1], [], [])], [(nat_lit 31, nat_lit 0, nat_lit 2), (nat_lit 31, nat_lit 4, nat_lit 4), (nat_lit 32, nat_lit 0, nat_lit 6), (nat_lit 33, nat_lit 0, nat_lit 6), (nat_lit 34, nat_lit 0, nat_lit 6), (nat_lit 35, nat_lit 0, nat_lit 6), (nat_lit 36, nat_lit 0, nat_lit 6), (nat_lit 37, nat_lit 0, nat_lit 6), (nat_lit 38, nat_lit 0, nat_lit 7)], [(nat_lit 8, nat_lit 1, nat_lit 1, ([ee_0, ee_435, ee_1, ee_141], [(nat_lit 0, sv_232), (nat_lit 1, sv_12), (nat_lit 2, sv_1), (nat_lit 4, sv_9)], [], []), [(nat_lit 0, nat_lit 4, nat_lit 0)], [(nat_lit 27, nat_lit 1)]),
  (nat_lit 27, nat_lit 1, nat_lit 3, ([ee_0, ee_436, ee_1, ee_202], [(nat_lit 0, sv_232), (nat_lit 1, sv_12), (nat_lit 2, sv_1), (nat_lit 4, sv_9), (nat_lit 5, sv_6)], [], []), [], [(nat_lit 8, nat_lit 0), (nat_lit 27, nat_lit 2)]),
  (nat_lit 27, nat_lit 1, nat_lit 3, ([ee_0, ee_436, ee_1, ee_202], [(nat_lit 0, sv_232), (nat_lit 1, sv_12), (nat_lit 2, sv_1), (nat_lit 4, sv_9), (nat_lit 5, sv_24)], [], []), [], [(nat_lit 8, nat_lit 0), (nat_lit 27, nat_lit 3)]),
  (nat_lit 27, nat_lit 1, nat_lit 3, ([ee_0, ee_436, ee_1, ee_202], [(nat_lit 0, sv_232), (nat_lit 1, sv_12), (nat_lit 2, sv_1), (nat_lit 4, sv_9), (nat_lit 5, sv_32)], [], []), [], [(nat_lit 8, nat_lit 0), (nat_lit 27, nat_lit 4)]),
  (nat_lit 27, nat_lit 1, nat_lit 3, ([ee_0, ee_436, ee_1, ee_202], [(nat_lit 0, sv_232), (nat_lit 1, sv_12), (nat_lit 2, sv_1), (nat_lit 4, sv_9), (nat_lit 5, sv_31)], [], []), [], [(nat_lit 8, nat_lit 0), (nat_lit 27, nat_lit 5)]),
  (nat_lit 27, nat_lit 1, nat_lit 3, ([ee_0, ee_436, ee_1, ee_202], [(nat_lit 0, sv_232), (nat_lit 1, sv_12), (nat_lit 2, sv_1), (nat_lit 4, sv_9), (nat_lit 5, sv_38)], [], []), [], [(nat_lit 8, nat_lit 0), (nat_lit 27, nat_lit 6)]),
  (nat_lit 27, nat_lit 1, nat_lit 3, ([ee_0, ee_436, ee_1, ee_202], [(nat_lit 0, sv_232), (nat_lit 1, sv_12), (nat_lit 2, sv_1), (nat_lit 4, sv_9), (nat_lit 5, sv_68)], [], []), [], [(nat_lit 8, nat_lit 0), (nat_lit 27, nat_lit 7)]),
  (nat_lit 27, nat_lit 1, nat_lit 3, ([ee_0, ee_436, ee_1, ee_202], [(nat_lit 0, sv_232), (nat_lit 1, sv_12), (nat_lit 2, sv_1), (nat_lit 4, sv_9), (nat_lit 5, sv_70)], [], []), [], [(nat_lit 8, nat_lit 0), (nat_lit 27, nat_lit 8)]),
  (nat_lit 27, nat_lit 1, nat_lit 3, ([ee_0, ee_436, ee_1, ee_202], [(nat_lit 0, sv_232), (nat_lit 1, sv_12), (nat_lit 2, sv_1), (nat_lit 4, sv_9), (nat_lit 5, sv_59)], [], []), [], [(nat_lit 8, nat_lit 0)])], [], [(nat_lit 8, nat_lit 0)])
set_option maxRecDepth 100000 in
theorem syc_837 : CoOk GG MM syt_837 := chk_okF (cs := [syt_835, syt_836]) (F := 4000) (cs_c syc_835 <| cs_c syc_836 cs_n) (by decide +kernel) (by decide +kernel)
/-- X.odds -/
def syt_838 : CO := (nat_lit 30, nat_lit 7, [ee_0, ee_1, ee_1, ee_1], [sv_8, sv_1, sv_4, sv_9], [(nat_lit 0, nat_lit 1, sv_12), (nat_lit 0, nat_lit 2, sv_13), (nat_lit 0, nat_lit 7, sv_14), (nat_lit 0, nat_lit 8, sv_15)], [(nat_lit 1, nat_lit 1, nat_lit 0), (nat_lit 1, nat_lit 2, nat_lit 0), (nat_lit 1, nat_lit 3, nat_lit 0)], [(some sv_16, [ee_0, ee_1, ee_1, ee_1], [(nat_lit 0, nat_lit 1, sv_12), (nat_lit 0, nat_lit 2, sv_13), (nat_lit 0, nat_lit 7, sv_14), (nat_lit 0, nat_lit 8, sv_15)], []), (some sv_10, [ee_0, ee_27, ee_25, ee_1, ee_1], [(nat_lit 0, nat_lit 1, sv_12), (nat_lit 0, nat_lit 2, sv_13), (nat_lit 0, nat_lit 7, sv_14), (nat_lit 0, nat_lit 8, sv_15)], [(nat_lit 1, nat_lit 0, nat_lit 0)])], [(nat_lit 31, nat_lit 0, nat_lit 4), (nat_lit 32, nat_lit 0, nat_lit 7), (nat_lit 33, nat_lit 0, nat_lit 7), (nat_lit 34, nat_lit 0, nat_lit 7), (nat_lit 35, nat_lit 0, nat_lit 7), (nat_lit 36, nat_lit 0, nat_lit 7), (nat_lit 37, nat_lit 0, nat_lit 7), (nat_lit 38, nat_lit 0, nat_lit 8)], [(nat_lit 41, nat_lit 1, nat_lit 1, ([ee_0, ee_27, ee_25, ee_1, ee_33, ee_435, ee_1], [(nat_lit 0, sv_8), (nat_lit 1, sv_1), (nat_lit 2, sv_4), (nat_lit 3, sv_9), (nat_lit 4, sv_11), (nat_lit 5, sv_17), (nat_lit 6, sv_10)], [], [(nat_lit 0, nat_lit 1, sv_12), (nat_lit 0, nat_lit 2, sv_13), (nat_lit 0, nat_lit 7, sv_14), (nat_lit 0, nat_lit 8, sv_15)]), [(nat_lit 0, nat_lit 6, nat_lit 0), (nat_lit 0, nat_lit 4, nat_lit 0), (nat_lit 0, nat_lit 5, nat_lit 0)], [(nat_lit 41, nat_lit 0)])], [], [(nat_lit 41, nat_lit 0)])
set_option maxRecDepth 100000 in
theorem syc_838 : CoOk GG MM syt_838 := chk_okF (cs := [syt_247, syt_819, syt_357, syt_837]) (F := 4000) (cs_c syc_247 <| cs_c syc_819 <| cs_c syc_357 <| cs_c syc_837 cs_n) (by decide +kernel) (by decide +kernel)
/-- M.layAside -/
def syt_839 : CO := (nat_lit 230, nat_lit 1, [ee_0], [sv_19], [], [], [(none, [ee_0], [], [])], [(nat_lit 186, nat_lit 0, nat_lit 52)], [(nat_lit 2, nat_lit 1, nat_lit 0, ([ee_0], [(nat_lit 0, sv_19), (nat_lit 1, sv_6)], [], []), [], [(nat_lit 2, nat_lit 1)]),
  (nat_lit 2, nat_lit 2, nat_lit 0, ([ee_0], [(nat_lit 0, sv_19), (nat_lit 1, sv_5)], [], []), [], [(nat_lit 2, nat_lit 2)]),
  (nat_lit 2, nat_lit 3, nat_lit 0, ([ee_0], [(nat_lit 0, sv_19), (nat_lit 1, sv_3)], [], []), [], [(nat_lit 2, nat_lit 3)]),
  (nat_lit 2, nat_lit 4, nat_lit 0, ([ee_0], [(nat_lit 0, sv_19), (nat_lit 1, sv_2)], [], []), [], [(nat_lit 2, nat_lit 4)]),
  (nat_lit 2, nat_lit 5, nat_lit 0, ([ee_0], [(nat_lit 0, sv_19), (nat_lit 1, sv_133)], [], []), [], [(nat_lit 2, nat_lit 5)]),
  (nat_lit 2, nat_lit 6, nat_lit 0, ([ee_0], [(nat_lit 0, sv_19), (nat_lit 1, sv_134)], [], []), [], [(nat_lit 2, nat_lit 6)]),
  (nat_lit 2, nat_lit 7, nat_lit 0, ([ee_0], [(nat_lit 0, sv_19), (nat_lit 1, sv_135)], [], []), [], [])], [], [(nat_lit 2, nat_lit 0)])
set_option maxRecDepth 100000 in
theorem syc_839 : CoOk GG MM syt_839 := chk_okF (cs := []) (F := 4000) (fun _ h => absurd h List.not_mem_nil) (by decide +kernel) (by decide +kernel)
/-- M.least -/
def syt_840 : CO := (nat_lit 231, nat_lit 1, [ee_0, ee_1], [sv_84, sv_1], [], [(nat_lit 1, nat_lit 1, nat_lit 0)], [(some sv_4, [ee_0, ee_1, ee_435], [], [(nat_lit 1, nat_lit 0, nat_lit 0)])], [], [], [], [])
set_option maxRecDepth 100000 in
theorem syc_840 : CoOk GG MM syt_840 := chk_okF (cs := []) (F := 4000) (fun _ h => absurd h List.not_mem_nil) (by decide +kernel) (by decide +kernel)
/-- M.drawDays -/
def syt_841 : CO := (nat_lit 192, nat_lit 5, [ee_0, ee_1], [sv_19, sv_84, sv_1], [], [(nat_lit 1, nat_lit 2, nat_lit 0)], [(some sv_4, [ee_0, ee_1, ee_435], [], [(nat_lit 1, nat_lit 0, nat_lit 0)])], [(nat_lit 180, nat_lit 42, nat_lit 42), (nat_lit 182, nat_lit 101, nat_lit 101), (nat_lit 182, nat_lit 103, nat_lit 153)], [(nat_lit 24, nat_lit 1, nat_lit 1, ([ee_0, ee_1, ee_141, ee_435], [(nat_lit 0, sv_19), (nat_lit 3, sv_9), (nat_lit 4, sv_4)], [], []), [(nat_lit 0, nat_lit 4, nat_lit 0), (nat_lit 0, nat_lit 3, nat_lit 0)], [(nat_lit 33, nat_lit 1)]),
  (nat_lit 33, nat_lit 1, nat_lit 3, ([ee_0, ee_1, ee_202, ee_436], [(nat_lit 0, sv_19), (nat_lit 3, sv_9), (nat_lit 4, sv_4), (nat_lit 5, sv_6)], [], []), [(nat_lit 0, nat_lit 3, nat_lit 0)], [(nat_lit 24, nat_lit 0), (nat_lit 33, nat_lit 2)]),
  (nat_lit 33, nat_lit 1, nat_lit 3, ([ee_0, ee_1, ee_202, ee_436, ee_26, ee_30], [(nat_lit 0, sv_19), (nat_lit 3, sv_9), (nat_lit 4, sv_4), (nat_lit 5, sv_24)], [], [(nat_lit 182, nat_lit 0, sv_10), (nat_lit 182, nat_lit 1, sv_11)]), [(nat_lit 0, nat_lit 3, nat_lit 0), (nat_lit 2, nat_lit 182, nat_lit 0), (nat_lit 2, nat_lit 182, nat_lit 1)], [(nat_lit 24, nat_lit 0), (nat_lit 33, nat_lit 3)]),
  (nat_lit 33, nat_lit 1, nat_lit 3, ([ee_0, ee_1, ee_202, ee_436, ee_130, ee_30], [(nat_lit 0, sv_19), (nat_lit 3, sv_9), (nat_lit 4, sv_4), (nat_lit 5, sv_32)], [], [(nat_lit 182, nat_lit 0, sv_10), (nat_lit 182, nat_lit 1, sv_11)]), [(nat_lit 0, nat_lit 3, nat_lit 0), (nat_lit 2, nat_lit 182, nat_lit 0), (nat_lit 2, nat_lit 182, nat_lit 1)], [(nat_lit 24, nat_lit 0), (nat_lit 33, nat_lit 4)]),
  (nat_lit 33, nat_lit 1, nat_lit 3, ([ee_0, ee_1, ee_202, ee_436, ee_131, ee_30], [(nat_lit 0, sv_19), (nat_lit 3, sv_9), (nat_lit 4, sv_4), (nat_lit 5, sv_31)], [], [(nat_lit 182, nat_lit 0, sv_10), (nat_lit 182, nat_lit 1, sv_11)]), [(nat_lit 0, nat_lit 3, nat_lit 0), (nat_lit 2, nat_lit 182, nat_lit 0), (nat_lit 2, nat_lit 182, nat_lit 1)], [(nat_lit 24, nat_lit 0), (nat_lit 33, nat_lit 5)]),
  (nat_lit 33, nat_lit 1, nat_lit 3, ([ee_0, ee_1, ee_202, ee_436, ee_132, ee_30], [(nat_lit 0, sv_19), (nat_lit 3, sv_9), (nat_lit 4, sv_4), (nat_lit 5, sv_38)], [], [(nat_lit 182, nat_lit 0, sv_10), (nat_lit 182, nat_lit 1, sv_11)]), [(nat_lit 0, nat_lit 3, nat_lit 0), (nat_lit 2, nat_lit 182, nat_lit 0), (nat_lit 2, nat_lit 182, nat_lit 1)], [(nat_lit 24, nat_lit 0), (nat_lit 33, nat_lit 6)]),
  (nat_lit 33, nat_lit 1, nat_lit 3, ([ee_0, ee_1, ee_202, ee_436, ee_133, ee_30], [(nat_lit 0, sv_19), (nat_lit 3, sv_9), (nat_lit 4, sv_4), (nat_lit 5, sv_68)], [], [(nat_lit 182, nat_lit 0, sv_10), (nat_lit 182, nat_lit 1, sv_11)]), [(nat_lit 0, nat_lit 3, nat_lit 0), (nat_lit 2, nat_lit 182, nat_lit 0), (nat_lit 2, nat_lit 182, nat_lit 1)], [(nat_lit 24, nat_lit 0), (nat_lit 33, nat_lit 7)]),
  (nat_lit 33, nat_lit 1, nat_lit 3, ([ee_0, ee_1, ee_202, ee_436, ee_134, ee_30], [(nat_lit 0, sv_19), (nat_lit 3, sv_9), (nat_lit 4, sv_4), (nat_lit 5, sv_70)], [], [(nat_lit 182, nat_lit 0, sv_10), (nat_lit 182, nat_lit 1, sv_11)]), [(nat_lit 0, nat_lit 3, nat_lit 0), (nat_lit 2, nat_lit 182, nat_lit 0), (nat_lit 2, nat_lit 182, nat_lit 1)], [(nat_lit 24, nat_lit 0), (nat_lit 33, nat_lit 8)]),
  (nat_lit 33, nat_lit 1, nat_lit 3, ([ee_0, ee_1, ee_202, ee_436, ee_79, ee_30], [(nat_lit 0, sv_19), (nat_lit 3, sv_9), (nat_lit 4, sv_4), (nat_lit 5, sv_59)], [], [(nat_lit 182, nat_lit 0, sv_10), (nat_lit 182, nat_lit 1, sv_11)]), [(nat_lit 0, nat_lit 3, nat_lit 0), (nat_lit 2, nat_lit 182, nat_lit 0), (nat_lit 2, nat_lit 182, nat_lit 1)], [(nat_lit 24, nat_lit 0)])], [], [(nat_lit 24, nat_lit 0)])
set_option maxRecDepth 100000 in
theorem syc_841 : CoOk GG MM syt_841 := chk_okF (cs := [syt_816, syt_810, syt_804, syt_798, syt_792, syt_786, syt_780, syt_840, syt_378]) (F := 4000) (cs_c syc_816 <| cs_c syc_810 <| cs_c syc_804 <| cs_c syc_798 <| cs_c syc_792 <| cs_c syc_786 <| cs_c syc_780 <| cs_c syc_840 <| cs_c syc_378 cs_n) (by decide +kernel) (by decide +kernel)
/-- M.takeBack -/
def syt_842 : CO := (nat_lit 284, nat_lit 1, [ee_0], [sv_19], [], [], [(none, [ee_0], [], [])], [(nat_lit 182, nat_lit 101, nat_lit 153)], [(nat_lit 2, nat_lit 1, nat_lit 0, ([ee_0], [(nat_lit 0, sv_19), (nat_lit 1, sv_6)], [], []), [], [(nat_lit 2, nat_lit 1)]),
  (nat_lit 2, nat_lit 2, nat_lit 0, ([ee_0], [(nat_lit 0, sv_19), (nat_lit 1, sv_5)], [], []), [], [(nat_lit 2, nat_lit 2)]),
  (nat_lit 2, nat_lit 3, nat_lit 0, ([ee_0], [(nat_lit 0, sv_19), (nat_lit 1, sv_3)], [], []), [], [(nat_lit 2, nat_lit 3)]),
  (nat_lit 2, nat_lit 4, nat_lit 0, ([ee_0], [(nat_lit 0, sv_19), (nat_lit 1, sv_2)], [], []), [], [(nat_lit 2, nat_lit 4)]),
  (nat_lit 2, nat_lit 5, nat_lit 0, ([ee_0], [(nat_lit 0, sv_19), (nat_lit 1, sv_133)], [], []), [], [(nat_lit 2, nat_lit 5)]),
  (nat_lit 2, nat_lit 6, nat_lit 0, ([ee_0], [(nat_lit 0, sv_19), (nat_lit 1, sv_134)], [], []), [], [(nat_lit 2, nat_lit 6)]),
  (nat_lit 2, nat_lit 7, nat_lit 0, ([ee_0], [(nat_lit 0, sv_19), (nat_lit 1, sv_135)], [], []), [], [])], [], [(nat_lit 2, nat_lit 0)])
set_option maxRecDepth 100000 in
theorem syc_842 : CoOk GG MM syt_842 := chk_okF (cs := []) (F := 4000) (fun _ h => absurd h List.not_mem_nil) (by decide +kernel) (by decide +kernel)
/-- M.odds -/
def syt_843 : CO := (nat_lit 234, nat_lit 6, [ee_0, ee_1, ee_1, ee_1], [sv_19, sv_1, sv_4, sv_9], [], [(nat_lit 1, nat_lit 1, nat_lit 0), (nat_lit 1, nat_lit 2, nat_lit 0), (nat_lit 1, nat_lit 3, nat_lit 0)], [(some sv_16, [ee_0, ee_1, ee_1, ee_1], [], []), (some sv_11, [ee_0, ee_27, ee_25, ee_1, ee_26, ee_1], [(nat_lit 182, nat_lit 0, sv_10)], [(nat_lit 2, nat_lit 182, nat_lit 0), (nat_lit 1, nat_lit 0, nat_lit 0)])], [(nat_lit 180, nat_lit 0, nat_lit 0), (nat_lit 180, nat_lit 42, nat_lit 42), (nat_lit 182, nat_lit 101, nat_lit 153), (nat_lit 186, nat_lit 0, nat_lit 52)], [(nat_lit 35, nat_lit 1, nat_lit 1, ([ee_0, ee_27, ee_25, ee_1, ee_33, ee_1, ee_26], [(nat_lit 0, sv_19), (nat_lit 1, sv_1), (nat_lit 2, sv_4), (nat_lit 3, sv_9), (nat_lit 4, sv_11), (nat_lit 5, sv_10)], [], [(nat_lit 182, nat_lit 0, sv_17)]), [(nat_lit 0, nat_lit 5, nat_lit 0), (nat_lit 0, nat_lit 4, nat_lit 0), (nat_lit 2, nat_lit 182, nat_lit 0)], [(nat_lit 35, nat_lit 0)])], [], [(nat_lit 35, nat_lit 0)])
set_option maxRecDepth 100000 in
theorem syc_843 : CoOk GG MM syt_843 := chk_okF (cs := [syt_841, syt_208, syt_235, syt_839, syt_842]) (F := 4000) (cs_c syc_841 <| cs_c syc_208 <| cs_c syc_235 <| cs_c syc_839 <| cs_c syc_842 cs_n) (by decide +kernel) (by decide +kernel)
/-- Tape.open -/
def syt_844 : CO := (nat_lit 161, nat_lit 4, [ee_0], [sv_0, sv_233], [], [], [(none, [ee_0, ee_13], [(nat_lit 1, nat_lit 3, sv_1), (nat_lit 1, nat_lit 9, sv_6)], [(nat_lit 2, nat_lit 1, nat_lit 3)])], [(nat_lit 1, nat_lit 2, nat_lit 11)], [], [], [])
set_option maxRecDepth 100000 in
theorem syc_844 : CoOk GG MM syt_844 := chk_okF (cs := [syt_21]) (F := 4000) (cs_c syc_21 cs_n) (by decide +kernel) (by decide +kernel)
/-- Tape.takesNumber -/
def syt_845 : CO := (nat_lit 168, nat_lit 4, [ee_0], [sv_0, sv_24, sv_153], [], [], [(some sv_6, [ee_0], [], []), (some sv_24, [ee_0, ee_13, ee_153], [(nat_lit 1, nat_lit 3, sv_1), (nat_lit 1, nat_lit 9, sv_4)], [(nat_lit 2, nat_lit 1, nat_lit 3), (nat_lit 2, nat_lit 1, nat_lit 9)])], [(nat_lit 1, nat_lit 3, nat_lit 11)], [], [], [])
set_option maxRecDepth 100000 in
theorem syc_845 : CoOk GG MM syt_845 := chk_okF (cs := [syt_21, syt_25, syt_26]) (F := 4000) (cs_c syc_21 <| cs_c syc_25 <| cs_c syc_26 cs_n) (by decide +kernel) (by decide +kernel)
/-- Book.addLine -/
def syt_846 : CO := (nat_lit 49, nat_lit 1, [ee_0, ee_153], [sv_234, sv_176, sv_6, sv_1, sv_6], [], [(nat_lit 1, nat_lit 3, nat_lit 0)], [(none, [ee_0, ee_153, ee_437], [(nat_lit 105, nat_lit 4, sv_4)], [(nat_lit 2, nat_lit 105, nat_lit 4)])], [(nat_lit 105, nat_lit 4, nat_lit 4), (nat_lit 106, nat_lit 0, nat_lit 39), (nat_lit 107, nat_lit 0, nat_lit 39), (nat_lit 108, nat_lit 0, nat_lit 39), (nat_lit 109, nat_lit 0, nat_lit 39)], [], [(nat_lit 105, nat_lit 4, nat_lit 1)], [])
set_option maxRecDepth 100000 in
theorem syc_846 : CoOk GG MM syt_846 := chk_okF (cs := []) (F := 4000) (fun _ h => absurd h List.not_mem_nil) (by decide +kernel) (by decide +kernel)
/-- Book.readDay -/
def syt_847 : CO := (nat_lit 52, nat_lit 5, [ee_0], [sv_234, sv_0], [], [], [(some sv_6, [ee_0, ee_24], [(nat_lit 105, nat_lit 4, sv_1)], [(nat_lit 2, nat_lit 105, nat_lit 4)]), (some sv_24, [ee_0, ee_13, ee_153, ee_437], [(nat_lit 1, nat_lit 3, sv_1), (nat_lit 1, nat_lit 9, sv_4), (nat_lit 105, nat_lit 4, sv_9)], [(nat_lit 2, nat_lit 1, nat_lit 3), (nat_lit 2, nat_lit 1, nat_lit 9), (nat_lit 2, nat_lit 105, nat_lit 4)])], [(nat_lit 1, nat_lit 3, nat_lit 11), (nat_lit 105, nat_lit 4, nat_lit 4), (nat_lit 106, nat_lit 0, nat_lit 39), (nat_lit 107, nat_lit 0, nat_lit 39), (nat_lit 108, nat_lit 0, nat_lit 39), (nat_lit 109, nat_lit 0, nat_lit 39)], [], [], [])
set_option maxRecDepth 100000 in
theorem syc_847 : CoOk GG MM syt_847 := chk_okF (cs := [syt_846, syt_21, syt_38, syt_845]) (F := 4000) (cs_c syc_846 <| cs_c syc_21 <| cs_c syc_38 <| cs_c syc_845 cs_n) (by decide +kernel) (by decide +kernel)
/-- Duchy.find -/
def syt_848 : CO := (nat_lit 66, nat_lit 1, [ee_0, ee_14, ee_23], [sv_235, sv_1, sv_36], [], [(nat_lit 1, nat_lit 1, nat_lit 0), (nat_lit 1, nat_lit 2, nat_lit 0)], [(some sv_9, [ee_0, ee_26, ee_23, ee_27], [], [(nat_lit 1, nat_lit 0, nat_lit 0)]), (some sv_16, [ee_0, ee_14, ee_23], [], [])], [], [(nat_lit 3, nat_lit 1, nat_lit 1, ([ee_0, ee_14, ee_23, ee_14], [(nat_lit 0, sv_235), (nat_lit 1, sv_1), (nat_lit 2, sv_36), (nat_lit 4, sv_9)], [], []), [(nat_lit 0, nat_lit 4, nat_lit 0)], [(nat_lit 3, nat_lit 0)])], [], [(nat_lit 3, nat_lit 0)])
set_option maxRecDepth 100000 in
theorem syc_848 : CoOk GG MM syt_848 := chk_okF (cs := []) (F := 4000) (fun _ h => absurd h List.not_mem_nil) (by decide +kernel) (by decide +kernel)
/-- Duchy.namedHere -/
def syt_849 : CO := (nat_lit 71, nat_lit 2, [ee_0, ee_14], [sv_0, sv_235, sv_1], [], [(nat_lit 1, nat_lit 2, nat_lit 0)], [(some sv_16, [ee_0, ee_14], [], []), (some sv_4, [ee_0, ee_26, ee_27], [], [(nat_lit 1, nat_lit 0, nat_lit 0)])], [(nat_lit 1, nat_lit 10, nat_lit 11)], [], [], [])
set_option maxRecDepth 100000 in
theorem syc_849 : CoOk GG MM syt_849 := chk_okF (cs := [syt_848, syt_24, syt_25]) (F := 4000) (cs_c syc_848 <| cs_c syc_24 <| cs_c syc_25 cs_n) (by decide +kernel) (by decide +kernel)
/-- Duchy.personHere -/
def syt_850 : CO := (nat_lit 73, nat_lit 3, [ee_0], [sv_12, sv_0], [], [], [(some sv_1, [ee_0, ee_27], [], [(nat_lit 1, nat_lit 0, nat_lit 0)]), (some sv_16, [ee_0], [], [])], [(nat_lit 1, nat_lit 10, nat_lit 11)], [], [], [])
set_option maxRecDepth 100000 in
theorem syc_850 : CoOk GG MM syt_850 := chk_okF (cs := [syt_849]) (F := 4000) (cs_c syc_849 cs_n) (by decide +kernel) (by decide +kernel)
/-- Book.addLine -/
def syt_851 : CO := (nat_lit 49, nat_lit 1, [ee_0, ee_27], [sv_234, sv_134, sv_1, sv_6, sv_6], [], [(nat_lit 1, nat_lit 2, nat_lit 0)], [(none, [ee_0, ee_27, ee_437], [(nat_lit 105, nat_lit 4, sv_4)], [(nat_lit 2, nat_lit 105, nat_lit 4)])], [(nat_lit 105, nat_lit 4, nat_lit 4), (nat_lit 106, nat_lit 0, nat_lit 39), (nat_lit 107, nat_lit 0, nat_lit 39), (nat_lit 108, nat_lit 0, nat_lit 39), (nat_lit 109, nat_lit 0, nat_lit 39)], [], [(nat_lit 105, nat_lit 4, nat_lit 1)], [])
set_option maxRecDepth 100000 in
theorem syc_851 : CoOk GG MM syt_851 := chk_okF (cs := []) (F := 4000) (fun _ h => absurd h List.not_mem_nil) (by decide +kernel) (by decide +kernel)
/-- Book.addLine -/
def syt_852 : CO := (nat_lit 49, nat_lit 1, [ee_0, ee_27], [sv_234, sv_33, sv_1, sv_6, sv_6], [], [(nat_lit 1, nat_lit 2, nat_lit 0)], [(none, [ee_0, ee_27, ee_437], [(nat_lit 105, nat_lit 4, sv_4)], [(nat_lit 2, nat_lit 105, nat_lit 4)])], [(nat_lit 105, nat_lit 4, nat_lit 4), (nat_lit 106, nat_lit 0, nat_lit 39), (nat_lit 107, nat_lit 0, nat_lit 39), (nat_lit 108, nat_lit 0, nat_lit 39), (nat_lit 109, nat_lit 0, nat_lit 39)], [], [(nat_lit 105, nat_lit 4, nat_lit 1)], [])
set_option maxRecDepth 100000 in
theorem syc_852 : CoOk GG MM syt_852 := chk_okF (cs := []) (F := 4000) (fun _ h => absurd h List.not_mem_nil) (by decide +kernel) (by decide +kernel)
/-- Book.addLine -/
def syt_853 : CO := (nat_lit 49, nat_lit 1, [ee_0, ee_27], [sv_234, sv_84, sv_1, sv_6, sv_6], [], [(nat_lit 1, nat_lit 2, nat_lit 0)], [(none, [ee_0, ee_27, ee_437], [(nat_lit 105, nat_lit 4, sv_4)], [(nat_lit 2, nat_lit 105, nat_lit 4)])], [(nat_lit 105, nat_lit 4, nat_lit 4), (nat_lit 106, nat_lit 0, nat_lit 39), (nat_lit 107, nat_lit 0, nat_lit 39), (nat_lit 108, nat_lit 0, nat_lit 39), (nat_lit 109, nat_lit 0, nat_lit 39)], [], [(nat_lit 105, nat_lit 4, nat_lit 1)], [])
set_option maxRecDepth 100000 in
theorem syc_853 : CoOk GG MM syt_853 := chk_okF (cs := []) (F := 4000) (fun _ h => absurd h List.not_mem_nil) (by decide +kernel) (by decide +kernel)
/-- Book.addLine -/
def syt_854 : CO := (nat_lit 49, nat_lit 1, [ee_0, ee_27, ee_27], [sv_234, sv_72, sv_1, sv_4, sv_6], [], [(nat_lit 1, nat_lit 2, nat_lit 0), (nat_lit 1, nat_lit 3, nat_lit 0)], [(none, [ee_0, ee_27, ee_27, ee_437], [(nat_lit 105, nat_lit 4, sv_9)], [(nat_lit 2, nat_lit 105, nat_lit 4)])], [(nat_lit 105, nat_lit 4, nat_lit 4), (nat_lit 106, nat_lit 0, nat_lit 39), (nat_lit 107, nat_lit 0, nat_lit 39), (nat_lit 108, nat_lit 0, nat_lit 39), (nat_lit 109, nat_lit 0, nat_lit 39)], [], [(nat_lit 105, nat_lit 4, nat_lit 1)], [])
set_option maxRecDepth 100000 in
theorem syc_854 : CoOk GG MM syt_854 := chk_okF (cs := []) (F := 4000) (fun _ h => absurd h List.not_mem_nil) (by decide +kernel) (by decide +kernel)
/-- Book.readWeds -/
def syt_855 : CO := (nat_lit 55, nat_lit 4, [ee_0, ee_27], [sv_234, sv_0, sv_12, sv_1], [], [(nat_lit 1, nat_lit 3, nat_lit 0)], [(some sv_6, [ee_0, ee_27, ee_13], [(nat_lit 1, nat_lit 3, sv_4)], [(nat_lit 2, nat_lit 1, nat_lit 3)]), (some sv_24, [ee_0, ee_27, ee_13, ee_437], [(nat_lit 1, nat_lit 3, sv_4), (nat_lit 105, nat_lit 4, sv_9)], [(nat_lit 2, nat_lit 1, nat_lit 3), (nat_lit 2, nat_lit 105, nat_lit 4)])], [(nat_lit 1, nat_lit 3, nat_lit 8), (nat_lit 1, nat_lit 10, nat_lit 11), (nat_lit 105, nat_lit 4, nat_lit 4), (nat_lit 106, nat_lit 0, nat_lit 39), (nat_lit 107, nat_lit 0, nat_lit 39), (nat_lit 108, nat_lit 0, nat_lit 39), (nat_lit 109, nat_lit 0, nat_lit 39)], [], [], [])
set_option maxRecDepth 100000 in
theorem syc_855 : CoOk GG MM syt_855 := chk_okF (cs := [syt_854, syt_850, syt_21]) (F := 4000) (cs_c syc_854 <| cs_c syc_850 <| cs_c syc_21 cs_n) (by decide +kernel) (by decide +kernel)
/-- Duchy.find -/
def syt_856 : CO := (nat_lit 66, nat_lit 1, [ee_0, ee_30, ee_23], [sv_236, sv_1, sv_36], [], [(nat_lit 1, nat_lit 1, nat_lit 0), (nat_lit 1, nat_lit 2, nat_lit 0)], [(some sv_9, [ee_0, ee_31, ee_23, ee_14], [], [(nat_lit 1, nat_lit 0, nat_lit 0)]), (some sv_16, [ee_0, ee_30, ee_23], [], [])], [], [(nat_lit 3, nat_lit 1, nat_lit 1, ([ee_0, ee_30, ee_23, ee_30], [(nat_lit 0, sv_236), (nat_lit 1, sv_1), (nat_lit 2, sv_36), (nat_lit 4, sv_9)], [], []), [(nat_lit 0, nat_lit 4, nat_lit 0)], [(nat_lit 3, nat_lit 0)])], [], [(nat_lit 3, nat_lit 0)])
set_option maxRecDepth 100000 in
theorem syc_856 : CoOk GG MM syt_856 := chk_okF (cs := []) (F := 4000) (fun _ h => absurd h List.not_mem_nil) (by decide +kernel) (by decide +kernel)
/-- Duchy.namedHere -/
def syt_857 : CO := (nat_lit 71, nat_lit 2, [ee_0, ee_30], [sv_0, sv_236, sv_1], [], [(nat_lit 1, nat_lit 2, nat_lit 0)], [(some sv_16, [ee_0, ee_30], [], []), (some sv_4, [ee_0, ee_31, ee_14], [], [(nat_lit 1, nat_lit 0, nat_lit 0)])], [(nat_lit 1, nat_lit 10, nat_lit 11)], [], [], [])
set_option maxRecDepth 100000 in
theorem syc_857 : CoOk GG MM syt_857 := chk_okF (cs := [syt_856, syt_24, syt_25]) (F := 4000) (cs_c syc_856 <| cs_c syc_24 <| cs_c syc_25 cs_n) (by decide +kernel) (by decide +kernel)
/-- Duchy.deedHere -/
def syt_858 : CO := (nat_lit 63, nat_lit 3, [ee_0], [sv_12, sv_0], [], [], [(some sv_1, [ee_0, ee_14], [], [(nat_lit 1, nat_lit 0, nat_lit 0)]), (some sv_16, [ee_0], [], [])], [(nat_lit 1, nat_lit 10, nat_lit 11)], [], [], [])
set_option maxRecDepth 100000 in
theorem syc_858 : CoOk GG MM syt_858 := chk_okF (cs := [syt_857]) (F := 4000) (cs_c syc_857 cs_n) (by decide +kernel) (by decide +kernel)
/-- Book.addLine -/
def syt_859 : CO := (nat_lit 49, nat_lit 1, [ee_0, ee_27, ee_14], [sv_234, sv_6, sv_1, sv_4, sv_32], [], [(nat_lit 1, nat_lit 2, nat_lit 0), (nat_lit 1, nat_lit 3, nat_lit 0)], [(none, [ee_0, ee_27, ee_14, ee_437], [(nat_lit 105, nat_lit 4, sv_9)], [(nat_lit 2, nat_lit 105, nat_lit 4)])], [(nat_lit 105, nat_lit 4, nat_lit 4), (nat_lit 106, nat_lit 0, nat_lit 39), (nat_lit 107, nat_lit 0, nat_lit 39), (nat_lit 108, nat_lit 0, nat_lit 39), (nat_lit 109, nat_lit 0, nat_lit 39)], [], [(nat_lit 105, nat_lit 4, nat_lit 1)], [])
set_option maxRecDepth 100000 in
theorem syc_859 : CoOk GG MM syt_859 := chk_okF (cs := []) (F := 4000) (fun _ h => absurd h List.not_mem_nil) (by decide +kernel) (by decide +kernel)
/-- Book.addLine -/
def syt_860 : CO := (nat_lit 49, nat_lit 1, [ee_0, ee_27, ee_14], [sv_234, sv_6, sv_1, sv_4, sv_24], [], [(nat_lit 1, nat_lit 2, nat_lit 0), (nat_lit 1, nat_lit 3, nat_lit 0)], [(none, [ee_0, ee_27, ee_14, ee_437], [(nat_lit 105, nat_lit 4, sv_9)], [(nat_lit 2, nat_lit 105, nat_lit 4)])], [(nat_lit 105, nat_lit 4, nat_lit 4), (nat_lit 106, nat_lit 0, nat_lit 39), (nat_lit 107, nat_lit 0, nat_lit 39), (nat_lit 108, nat_lit 0, nat_lit 39), (nat_lit 109, nat_lit 0, nat_lit 39)], [], [(nat_lit 105, nat_lit 4, nat_lit 1)], [])
set_option maxRecDepth 100000 in
theorem syc_860 : CoOk GG MM syt_860 := chk_okF (cs := []) (F := 4000) (fun _ h => absurd h List.not_mem_nil) (by decide +kernel) (by decide +kernel)
/-- Book.addLine -/
def syt_861 : CO := (nat_lit 49, nat_lit 1, [ee_0, ee_27, ee_14], [sv_234, sv_6, sv_1, sv_4, sv_6], [], [(nat_lit 1, nat_lit 2, nat_lit 0), (nat_lit 1, nat_lit 3, nat_lit 0)], [(none, [ee_0, ee_27, ee_14, ee_437], [(nat_lit 105, nat_lit 4, sv_9)], [(nat_lit 2, nat_lit 105, nat_lit 4)])], [(nat_lit 105, nat_lit 4, nat_lit 4), (nat_lit 106, nat_lit 0, nat_lit 39), (nat_lit 107, nat_lit 0, nat_lit 39), (nat_lit 108, nat_lit 0, nat_lit 39), (nat_lit 109, nat_lit 0, nat_lit 39)], [], [(nat_lit 105, nat_lit 4, nat_lit 1)], [])
set_option maxRecDepth 100000 in
theorem syc_861 : CoOk GG MM syt_861 := chk_okF (cs := []) (F := 4000) (fun _ h => absurd h List.not_mem_nil) (by decide +kernel) (by decide +kernel)
/-- Book.readDoes -/
def syt_862 : CO := (nat_lit 53, nat_lit 4, [ee_0, ee_27], [sv_234, sv_0, sv_12, sv_1], [], [(nat_lit 1, nat_lit 3, nat_lit 0)], [(some sv_6, [ee_0, ee_27, ee_13], [(nat_lit 1, nat_lit 3, sv_4)], [(nat_lit 2, nat_lit 1, nat_lit 3)]), (some sv_24, [ee_0, ee_27, ee_13, ee_437], [(nat_lit 1, nat_lit 3, sv_4), (nat_lit 105, nat_lit 4, sv_9)], [(nat_lit 2, nat_lit 1, nat_lit 3), (nat_lit 2, nat_lit 105, nat_lit 4)])], [(nat_lit 1, nat_lit 3, nat_lit 8), (nat_lit 1, nat_lit 10, nat_lit 11), (nat_lit 105, nat_lit 4, nat_lit 4), (nat_lit 106, nat_lit 0, nat_lit 39), (nat_lit 107, nat_lit 0, nat_lit 39), (nat_lit 108, nat_lit 0, nat_lit 39), (nat_lit 109, nat_lit 0, nat_lit 39)], [], [], [])
set_option maxRecDepth 100000 in
theorem syc_862 : CoOk GG MM syt_862 := chk_okF (cs := [syt_859, syt_860, syt_861, syt_858, syt_21, syt_25]) (F := 4000) (cs_c syc_859 <| cs_c syc_860 <| cs_c syc_861 <| cs_c syc_858 <| cs_c syc_21 <| cs_c syc_25 cs_n) (by decide +kernel) (by decide +kernel)
/-- Book.readAct -/
def syt_863 : CO := (nat_lit 51, nat_lit 5, [ee_0], [sv_234, sv_0, sv_12], [], [], [(some sv_6, [ee_0], [], []), (some sv_24, [ee_0, ee_13, ee_437], [(nat_lit 1, nat_lit 3, sv_1), (nat_lit 105, nat_lit 4, sv_4)], [(nat_lit 2, nat_lit 1, nat_lit 3), (nat_lit 2, nat_lit 105, nat_lit 4)])], [(nat_lit 1, nat_lit 3, nat_lit 8), (nat_lit 1, nat_lit 10, nat_lit 11), (nat_lit 105, nat_lit 4, nat_lit 4), (nat_lit 106, nat_lit 0, nat_lit 39), (nat_lit 107, nat_lit 0, nat_lit 39), (nat_lit 108, nat_lit 0, nat_lit 39), (nat_lit 109, nat_lit 0, nat_lit 39)], [], [], [])
set_option maxRecDepth 100000 in
theorem syc_863 : CoOk GG MM syt_863 := chk_okF (cs := [syt_851, syt_852, syt_853, syt_862, syt_855, syt_850, syt_21, syt_25, syt_38]) (F := 4000) (cs_c syc_851 <| cs_c syc_852 <| cs_c syc_853 <| cs_c syc_862 <| cs_c syc_855 <| cs_c syc_850 <| cs_c syc_21 <| cs_c syc_25 <| cs_c syc_38 cs_n) (by decide +kernel) (by decide +kernel)
/-- Book.readFrom -/
def syt_864 : CO := (nat_lit 54, nat_lit 6, [ee_0], [sv_234, sv_0, sv_12], [], [], [(none, [ee_0], [], [])], [(nat_lit 1, nat_lit 2, nat_lit 11), (nat_lit 105, nat_lit 4, nat_lit 4), (nat_lit 106, nat_lit 0, nat_lit 39), (nat_lit 107, nat_lit 0, nat_lit 39), (nat_lit 108, nat_lit 0, nat_lit 39), (nat_lit 109, nat_lit 0, nat_lit 39)], [(nat_lit 14, nat_lit 1, nat_lit 1, ([ee_0, ee_28, ee_13, ee_154, ee_24], [(nat_lit 0, sv_234), (nat_lit 1, sv_0), (nat_lit 2, sv_12), (nat_lit 3, sv_1)], [], [(nat_lit 1, nat_lit 3, sv_4), (nat_lit 1, nat_lit 9, sv_9), (nat_lit 105, nat_lit 4, sv_10)]), [(nat_lit 0, nat_lit 3, nat_lit 0), (nat_lit 2, nat_lit 1, nat_lit 3), (nat_lit 2, nat_lit 1, nat_lit 9), (nat_lit 2, nat_lit 105, nat_lit 4)], [(nat_lit 14, nat_lit 0)])], [], [(nat_lit 14, nat_lit 0)])
set_option maxRecDepth 100000 in
theorem syc_864 : CoOk GG MM syt_864 := chk_okF (cs := [syt_863, syt_847, syt_844, syt_30]) (F := 4000) (cs_c syc_863 <| cs_c syc_847 <| cs_c syc_844 <| cs_c syc_30 cs_n) (by decide +kernel) (by decide +kernel)
/-- Life.daysLeft -/
def syt_865 : CO := (nat_lit 95, nat_lit 1, [ee_0], [sv_232], [], [], [(some sv_1, [ee_0, ee_1], [], [(nat_lit 1, nat_lit 0, nat_lit 0)])], [], [], [], [])
set_option maxRecDepth 100000 in
theorem syc_865 : CoOk GG MM syt_865 := chk_okF (cs := []) (F := 4000) (fun _ h => absurd h List.not_mem_nil) (by decide +kernel) (by decide +kernel)
/-- Life.whyNot -/
def syt_866 : CO := (nat_lit 116, nat_lit 2, [ee_0, ee_438, ee_27, ee_154, ee_127], [sv_232, sv_12, sv_1, sv_4, sv_9, sv_10], [], [(nat_lit 1, nat_lit 2, nat_lit 0), (nat_lit 1, nat_lit 3, nat_lit 0), (nat_lit 1, nat_lit 4, nat_lit 0), (nat_lit 1, nat_lit 5, nat_lit 0)], [(some sv_24, [ee_0, ee_438, ee_27, ee_154, ee_127], [], []), (some sv_6, [ee_0, ee_438, ee_27, ee_154, ee_127], [], []), (some sv_32, [ee_0, ee_439, ee_27, ee_154, ee_127], [], [])], [], [], [], [])
set_option maxRecDepth 100000 in
theorem syc_866 : CoOk GG MM syt_866 := chk_okF (cs := [syt_865, syt_823, syt_827]) (F := 4000) (cs_c syc_865 <| cs_c syc_823 <| cs_c syc_827 cs_n) (by decide +kernel) (by decide +kernel)
/-- Life.passDays -/
def syt_867 : CO := (nat_lit 111, nat_lit 3, [ee_0, ee_154], [sv_232, sv_12, sv_1], [], [(nat_lit 1, nat_lit 2, nat_lit 0)], [(none, [ee_0, ee_154], [], [])], [(nat_lit 31, nat_lit 0, nat_lit 0), (nat_lit 32, nat_lit 0, nat_lit 6), (nat_lit 34, nat_lit 0, nat_lit 6), (nat_lit 37, nat_lit 0, nat_lit 6)], [(nat_lit 2, nat_lit 1, nat_lit 1, ([ee_0, ee_154, ee_154], [(nat_lit 0, sv_232), (nat_lit 1, sv_12), (nat_lit 2, sv_1), (nat_lit 3, sv_4)], [], []), [(nat_lit 0, nat_lit 3, nat_lit 0)], [(nat_lit 2, nat_lit 0)])], [], [(nat_lit 2, nat_lit 0)])
set_option maxRecDepth 100000 in
theorem syc_867 : CoOk GG MM syt_867 := chk_okF (cs := [syt_836]) (F := 4000) (cs_c syc_836 cs_n) (by decide +kernel) (by decide +kernel)
/-- Life.perform -/
def syt_868 : CO := (nat_lit 112, nat_lit 4, [ee_0, ee_438, ee_27, ee_154, ee_127], [sv_232, sv_12, sv_1, sv_4, sv_9, sv_10], [], [(nat_lit 1, nat_lit 2, nat_lit 0), (nat_lit 1, nat_lit 3, nat_lit 0), (nat_lit 1, nat_lit 4, nat_lit 0), (nat_lit 1, nat_lit 5, nat_lit 0)], [(none, [ee_0, ee_438, ee_27, ee_154, ee_127], [], [])], [(nat_lit 31, nat_lit 0, nat_lit 0), (nat_lit 31, nat_lit 3, nat_lit 3), (nat_lit 32, nat_lit 0, nat_lit 6), (nat_lit 34, nat_lit 0, nat_lit 6), (nat_lit 36, nat_lit 0, nat_lit 6), (nat_lit 37, nat_lit 0, nat_lit 6)], [], [], [])
set_option maxRecDepth 100000 in
theorem syc_868 : CoOk GG MM syt_868 := chk_okF (cs := [syt_830, syt_867]) (F := 4000) (cs_c syc_830 <| cs_c syc_867 cs_n) (by decide +kernel) (by decide +kernel)
/-- Life.whyNot -/
def syt_869 : CO := (nat_lit 116, nat_lit 2, [ee_0, ee_29, ee_27, ee_154, ee_127], [sv_232, sv_12, sv_1, sv_4, sv_9, sv_10], [], [(nat_lit 1, nat_lit 2, nat_lit 0), (nat_lit 1, nat_lit 3, nat_lit 0), (nat_lit 1, nat_lit 4, nat_lit 0), (nat_lit 1, nat_lit 5, nat_lit 0)], [(some sv_24, [ee_0, ee_29, ee_27, ee_154, ee_127], [], []), (some sv_6, [ee_0, ee_29, ee_27, ee_154, ee_127], [], [])], [], [], [], [])
set_option maxRecDepth 100000 in
theorem syc_869 : CoOk GG MM syt_869 := chk_okF (cs := [syt_865]) (F := 4000) (cs_c syc_865 cs_n) (by decide +kernel) (by decide +kernel)
/-- Life.perform -/
def syt_870 : CO := (nat_lit 112, nat_lit 4, [ee_0, ee_29, ee_27, ee_154, ee_127], [sv_232, sv_12, sv_1, sv_4, sv_9, sv_10], [], [(nat_lit 1, nat_lit 2, nat_lit 0), (nat_lit 1, nat_lit 3, nat_lit 0), (nat_lit 1, nat_lit 4, nat_lit 0), (nat_lit 1, nat_lit 5, nat_lit 0)], [(none, [ee_0, ee_29, ee_27, ee_154, ee_127], [], [])], [(nat_lit 31, nat_lit 0, nat_lit 0), (nat_lit 32, nat_lit 0, nat_lit 6), (nat_lit 34, nat_lit 0, nat_lit 6), (nat_lit 37, nat_lit 0, nat_lit 6)], [], [], [])
set_option maxRecDepth 100000 in
theorem syc_870 : CoOk GG MM syt_870 := chk_okF (cs := [syt_867]) (F := 4000) (cs_c syc_867 cs_n) (by decide +kernel) (by decide +kernel)
/-- Life.whyNot -/
def syt_871 : CO := (nat_lit 116, nat_lit 3, [ee_0, ee_177, ee_27, ee_27, ee_127], [sv_232, sv_12, sv_1, sv_4, sv_9, sv_10], [], [(nat_lit 1, nat_lit 2, nat_lit 0), (nat_lit 1, nat_lit 3, nat_lit 0), (nat_lit 1, nat_lit 4, nat_lit 0), (nat_lit 1, nat_lit 5, nat_lit 0)], [(some sv_11, [ee_0, ee_177, ee_27, ee_27, ee_127, ee_152], [], [(nat_lit 1, nat_lit 0, nat_lit 0)]), (some sv_6, [ee_0, ee_177, ee_27, ee_27, ee_127], [], []), (some sv_24, [ee_0, ee_177, ee_27, ee_27, ee_127], [], [])], [], [], [], [])
set_option maxRecDepth 100000 in
theorem syc_871 : CoOk GG MM syt_871 := chk_okF (cs := [syt_828]) (F := 4000) (cs_c syc_828 cs_n) (by decide +kernel) (by decide +kernel)
/-- Life.perform -/
def syt_872 : CO := (nat_lit 112, nat_lit 2, [ee_0, ee_177, ee_27, ee_27, ee_127], [sv_232, sv_12, sv_1, sv_4, sv_9, sv_10], [], [(nat_lit 1, nat_lit 2, nat_lit 0), (nat_lit 1, nat_lit 3, nat_lit 0), (nat_lit 1, nat_lit 4, nat_lit 0), (nat_lit 1, nat_lit 5, nat_lit 0)], [(none, [ee_0, ee_177, ee_27, ee_27, ee_127], [], [])], [(nat_lit 36, nat_lit 0, nat_lit 6)], [], [], [])
set_option maxRecDepth 100000 in
theorem syc_872 : CoOk GG MM syt_872 := chk_okF (cs := [syt_829]) (F := 4000) (cs_c syc_829 cs_n) (by decide +kernel) (by decide +kernel)
/-- Life.whyNot -/
def syt_873 : CO := (nat_lit 116, nat_lit 4, [ee_0, ee_0, ee_27, ee_14, ee_127], [sv_232, sv_12, sv_1, sv_4, sv_9, sv_10], [], [(nat_lit 1, nat_lit 2, nat_lit 0), (nat_lit 1, nat_lit 3, nat_lit 0), (nat_lit 1, nat_lit 4, nat_lit 0), (nat_lit 1, nat_lit 5, nat_lit 0)], [(some sv_24, [ee_0, ee_0, ee_27, ee_14, ee_127], [], []), (some sv_6, [ee_0, ee_0, ee_27, ee_14, ee_127], [], []), (some sv_11, [ee_0, ee_0, ee_27, ee_14, ee_127, ee_148], [], [(nat_lit 1, nat_lit 0, nat_lit 0)])], [], [], [], [])
set_option maxRecDepth 100000 in
theorem syc_873 : CoOk GG MM syt_873 := chk_okF (cs := [syt_824]) (F := 4000) (cs_c syc_824 cs_n) (by decide +kernel) (by decide +kernel)
/-- Life.perform -/
def syt_874 : CO := (nat_lit 112, nat_lit 5, [ee_0, ee_0, ee_27, ee_14, ee_127], [sv_232, sv_12, sv_1, sv_4, sv_9, sv_10], [], [(nat_lit 1, nat_lit 2, nat_lit 0), (nat_lit 1, nat_lit 3, nat_lit 0), (nat_lit 1, nat_lit 4, nat_lit 0), (nat_lit 1, nat_lit 5, nat_lit 0)], [(none, [ee_0, ee_0, ee_27, ee_14, ee_127], [], [])], [(nat_lit 31, nat_lit 1, nat_lit 2), (nat_lit 32, nat_lit 0, nat_lit 6), (nat_lit 33, nat_lit 0, nat_lit 6), (nat_lit 34, nat_lit 0, nat_lit 6), (nat_lit 35, nat_lit 0, nat_lit 6), (nat_lit 37, nat_lit 0, nat_lit 6), (nat_lit 38, nat_lit 0, nat_lit 7)], [], [], [])
set_option maxRecDepth 100000 in
theorem syc_874 : CoOk GG MM syt_874 := chk_okF (cs := [syt_834]) (F := 4000) (cs_c syc_834 cs_n) (by decide +kernel) (by decide +kernel)
/-- Book.liveIn -/
def syl_875_0 : List LB := [(nat_lit 17, nat_lit 1, nat_lit 0, ([ee_0], [(nat_lit 0, sv_234), (nat_lit 1, sv_232), (nat_lit 2, sv_12), (nat_lit 3, sv_6)], [], []), [], [(nat_lit 17, nat_lit 1)]),
  (nat_lit 17, nat_lit 2, nat_lit 0, ([ee_0, ee_437], [(nat_lit 0, sv_234), (nat_lit 1, sv_232), (nat_lit 2, sv_12), (nat_lit 3, sv_24)], [], [(nat_lit 105, nat_lit 4, sv_1)]), [(nat_lit 2, nat_lit 105, nat_lit 4)], [(nat_lit 17, nat_lit 2)]),
  (nat_lit 17, nat_lit 3, nat_lit 0, ([ee_0, ee_440], [(nat_lit 0, sv_234), (nat_lit 1, sv_232), (nat_lit 2, sv_12), (nat_lit 3, sv_32)], [], [(nat_lit 105, nat_lit 4, sv_1)]), [(nat_lit 2, nat_lit 105, nat_lit 4)], [(nat_lit 17, nat_lit 3)])]
def syl_875_1 : List LB := [(nat_lit 17, nat_lit 4, nat_lit 0, ([ee_0, ee_441], [(nat_lit 0, sv_234), (nat_lit 1, sv_232), (nat_lit 2, sv_12), (nat_lit 3, sv_31)], [], [(nat_lit 105, nat_lit 4, sv_1)]), [(nat_lit 2, nat_lit 105, nat_lit 4)], [(nat_lit 17, nat_lit 4)]),
  (nat_lit 17, nat_lit 5, nat_lit 0, ([ee_0, ee_442], [(nat_lit 0, sv_234), (nat_lit 1, sv_232), (nat_lit 2, sv_12), (nat_lit 3, sv_38)], [], [(nat_lit 105, nat_lit 4, sv_1)]), [(nat_lit 2, nat_lit 105, nat_lit 4)], [(nat_lit 17, nat_lit 5)]),
  (nat_lit 17, nat_lit 6, nat_lit 0, ([ee_0, ee_443], [(nat_lit 0, sv_234), (nat_lit 1, sv_232), (nat_lit 2, sv_12), (nat_lit 3, sv_68)], [], [(nat_lit 105, nat_lit 4, sv_1)]), [(nat_lit 2, nat_lit 105, nat_lit 4)], [(nat_lit 17, nat_lit 6)])]
def syl_875_2 : List LB := [(nat_lit 17, nat_lit 7, nat_lit 0, ([ee_0, ee_444], [(nat_lit 0, sv_234), (nat_lit 1, sv_232), (nat_lit 2, sv_12), (nat_lit 3, sv_70)], [], [(nat_lit 105, nat_lit 4, sv_1)]), [(nat_lit 2, nat_lit 105, nat_lit 4)], [(nat_lit 17, nat_lit 7)]),
  (nat_lit 17, nat_lit 8, nat_lit 0, ([ee_0, ee_445], [(nat_lit 0, sv_234), (nat_lit 1, sv_232), (nat_lit 2, sv_12), (nat_lit 3, sv_59)], [], [(nat_lit 105, nat_lit 4, sv_1)]), [(nat_lit 2, nat_lit 105, nat_lit 4)], [(nat_lit 17, nat_lit 8)]),
  (nat_lit 17, nat_lit 9, nat_lit 0, ([ee_0, ee_446], [(nat_lit 0, sv_234), (nat_lit 1, sv_232), (nat_lit 2, sv_12), (nat_lit 3, sv_5)], [], [(nat_lit 105, nat_lit 4, sv_1)]), [(nat_lit 2, nat_lit 105, nat_lit 4)], [(nat_lit 17, nat_lit 9)])]
def syl_875_3 : List LB := [(nat_lit 17, nat_lit 10, nat_lit 0, ([ee_0, ee_447], [(nat_lit 0, sv_234), (nat_lit 1, sv_232), (nat_lit 2, sv_12), (nat_lit 3, sv_37)], [], [(nat_lit 105, nat_lit 4, sv_1)]), [(nat_lit 2, nat_lit 105, nat_lit 4)], [(nat_lit 17, nat_lit 10)]),
  (nat_lit 17, nat_lit 11, nat_lit 0, ([ee_0, ee_448], [(nat_lit 0, sv_234), (nat_lit 1, sv_232), (nat_lit 2, sv_12), (nat_lit 3, sv_72)], [], [(nat_lit 105, nat_lit 4, sv_1)]), [(nat_lit 2, nat_lit 105, nat_lit 4)], [(nat_lit 17, nat_lit 11)]),
  (nat_lit 17, nat_lit 12, nat_lit 0, ([ee_0, ee_449], [(nat_lit 0, sv_234), (nat_lit 1, sv_232), (nat_lit 2, sv_12), (nat_lit 3, sv_75)], [], [(nat_lit 105, nat_lit 4, sv_1)]), [(nat_lit 2, nat_lit 105, nat_lit 4)], [(nat_lit 17, nat_lit 12)])]
def syl_875_4 : List LB := [(nat_lit 17, nat_lit 13, nat_lit 0, ([ee_0, ee_450], [(nat_lit 0, sv_234), (nat_lit 1, sv_232), (nat_lit 2, sv_12), (nat_lit 3, sv_76)], [], [(nat_lit 105, nat_lit 4, sv_1)]), [(nat_lit 2, nat_lit 105, nat_lit 4)], [(nat_lit 17, nat_lit 13)]),
  (nat_lit 17, nat_lit 14, nat_lit 0, ([ee_0, ee_451], [(nat_lit 0, sv_234), (nat_lit 1, sv_232), (nat_lit 2, sv_12), (nat_lit 3, sv_77)], [], [(nat_lit 105, nat_lit 4, sv_1)]), [(nat_lit 2, nat_lit 105, nat_lit 4)], [(nat_lit 17, nat_lit 14)]),
  (nat_lit 17, nat_lit 15, nat_lit 0, ([ee_0, ee_452], [(nat_lit 0, sv_234), (nat_lit 1, sv_232), (nat_lit 2, sv_12), (nat_lit 3, sv_78)], [], [(nat_lit 105, nat_lit 4, sv_1)]), [(nat_lit 2, nat_lit 105, nat_lit 4)], [(nat_lit 17, nat_lit 15)])]
def syl_875_5 : List LB := [(nat_lit 17, nat_lit 16, nat_lit 0, ([ee_0, ee_453], [(nat_lit 0, sv_234), (nat_lit 1, sv_232), (nat_lit 2, sv_12), (nat_lit 3, sv_79)], [], [(nat_lit 105, nat_lit 4, sv_1)]), [(nat_lit 2, nat_lit 105, nat_lit 4)], [(nat_lit 17, nat_lit 16)]),
  (nat_lit 17, nat_lit 17, nat_lit 0, ([ee_0, ee_454], [(nat_lit 0, sv_234), (nat_lit 1, sv_232), (nat_lit 2, sv_12), (nat_lit 3, sv_3)], [], [(nat_lit 105, nat_lit 4, sv_1)]), [(nat_lit 2, nat_lit 105, nat_lit 4)], [(nat_lit 17, nat_lit 17)]),
  (nat_lit 17, nat_lit 18, nat_lit 0, ([ee_0, ee_455], [(nat_lit 0, sv_234), (nat_lit 1, sv_232), (nat_lit 2, sv_12), (nat_lit 3, sv_81)], [], [(nat_lit 105, nat_lit 4, sv_1)]), [(nat_lit 2, nat_lit 105, nat_lit 4)], [(nat_lit 17, nat_lit 18)])]
def syl_875_6 : List LB := [(nat_lit 17, nat_lit 19, nat_lit 0, ([ee_0, ee_456], [(nat_lit 0, sv_234), (nat_lit 1, sv_232), (nat_lit 2, sv_12), (nat_lit 3, sv_40)], [], [(nat_lit 105, nat_lit 4, sv_1)]), [(nat_lit 2, nat_lit 105, nat_lit 4)], [(nat_lit 17, nat_lit 19)]),
  (nat_lit 17, nat_lit 20, nat_lit 0, ([ee_0, ee_457], [(nat_lit 0, sv_234), (nat_lit 1, sv_232), (nat_lit 2, sv_12), (nat_lit 3, sv_82)], [], [(nat_lit 105, nat_lit 4, sv_1)]), [(nat_lit 2, nat_lit 105, nat_lit 4)], [(nat_lit 17, nat_lit 20)]),
  (nat_lit 17, nat_lit 21, nat_lit 0, ([ee_0, ee_458], [(nat_lit 0, sv_234), (nat_lit 1, sv_232), (nat_lit 2, sv_12), (nat_lit 3, sv_84)], [], [(nat_lit 105, nat_lit 4, sv_1)]), [(nat_lit 2, nat_lit 105, nat_lit 4)], [(nat_lit 17, nat_lit 21)])]
def syl_875_7 : List LB := [(nat_lit 17, nat_lit 22, nat_lit 0, ([ee_0, ee_459], [(nat_lit 0, sv_234), (nat_lit 1, sv_232), (nat_lit 2, sv_12), (nat_lit 3, sv_85)], [], [(nat_lit 105, nat_lit 4, sv_1)]), [(nat_lit 2, nat_lit 105, nat_lit 4)], [(nat_lit 17, nat_lit 22)]),
  (nat_lit 17, nat_lit 23, nat_lit 0, ([ee_0, ee_460], [(nat_lit 0, sv_234), (nat_lit 1, sv_232), (nat_lit 2, sv_12), (nat_lit 3, sv_86)], [], [(nat_lit 105, nat_lit 4, sv_1)]), [(nat_lit 2, nat_lit 105, nat_lit 4)], [(nat_lit 17, nat_lit 23)]),
  (nat_lit 17, nat_lit 24, nat_lit 0, ([ee_0, ee_461], [(nat_lit 0, sv_234), (nat_lit 1, sv_232), (nat_lit 2, sv_12), (nat_lit 3, sv_88)], [], [(nat_lit 105, nat_lit 4, sv_1)]), [(nat_lit 2, nat_lit 105, nat_lit 4)], [(nat_lit 17, nat_lit 24)])]
def syl_875_8 : List LB := [(nat_lit 17, nat_lit 25, nat_lit 0, ([ee_0, ee_462], [(nat_lit 0, sv_234), (nat_lit 1, sv_232), (nat_lit 2, sv_12), (nat_lit 3, sv_2)], [], [(nat_lit 105, nat_lit 4, sv_1)]), [(nat_lit 2, nat_lit 105, nat_lit 4)], [(nat_lit 17, nat_lit 25)]),
  (nat_lit 17, nat_lit 26, nat_lit 0, ([ee_0, ee_463], [(nat_lit 0, sv_234), (nat_lit 1, sv_232), (nat_lit 2, sv_12), (nat_lit 3, sv_89)], [], [(nat_lit 105, nat_lit 4, sv_1)]), [(nat_lit 2, nat_lit 105, nat_lit 4)], [(nat_lit 17, nat_lit 26)]),
  (nat_lit 17, nat_lit 27, nat_lit 0, ([ee_0, ee_464], [(nat_lit 0, sv_234), (nat_lit 1, sv_232), (nat_lit 2, sv_12), (nat_lit 3, sv_90)], [], [(nat_lit 105, nat_lit 4, sv_1)]), [(nat_lit 2, nat_lit 105, nat_lit 4)], [(nat_lit 17, nat_lit 27)])]
def syl_875_9 : List LB := [(nat_lit 17, nat_lit 28, nat_lit 0, ([ee_0, ee_423], [(nat_lit 0, sv_234), (nat_lit 1, sv_232), (nat_lit 2, sv_12), (nat_lit 3, sv_92)], [], [(nat_lit 105, nat_lit 4, sv_1)]), [(nat_lit 2, nat_lit 105, nat_lit 4)], [(nat_lit 17, nat_lit 28)]),
  (nat_lit 17, nat_lit 29, nat_lit 0, ([ee_0, ee_465], [(nat_lit 0, sv_234), (nat_lit 1, sv_232), (nat_lit 2, sv_12), (nat_lit 3, sv_93)], [], [(nat_lit 105, nat_lit 4, sv_1)]), [(nat_lit 2, nat_lit 105, nat_lit 4)], [(nat_lit 17, nat_lit 29)]),
  (nat_lit 17, nat_lit 30, nat_lit 0, ([ee_0, ee_466], [(nat_lit 0, sv_234), (nat_lit 1, sv_232), (nat_lit 2, sv_12), (nat_lit 3, sv_94)], [], [(nat_lit 105, nat_lit 4, sv_1)]), [(nat_lit 2, nat_lit 105, nat_lit 4)], [(nat_lit 17, nat_lit 30)])]
def syl_875_10 : List LB := [(nat_lit 17, nat_lit 31, nat_lit 0, ([ee_0, ee_399], [(nat_lit 0, sv_234), (nat_lit 1, sv_232), (nat_lit 2, sv_12), (nat_lit 3, sv_33)], [], [(nat_lit 105, nat_lit 4, sv_1)]), [(nat_lit 2, nat_lit 105, nat_lit 4)], [(nat_lit 17, nat_lit 31)]),
  (nat_lit 17, nat_lit 32, nat_lit 0, ([ee_0, ee_467], [(nat_lit 0, sv_234), (nat_lit 1, sv_232), (nat_lit 2, sv_12), (nat_lit 3, sv_161)], [], [(nat_lit 105, nat_lit 4, sv_1)]), [(nat_lit 2, nat_lit 105, nat_lit 4)], [(nat_lit 17, nat_lit 32)]),
  (nat_lit 17, nat_lit 33, nat_lit 0, ([ee_0, ee_468], [(nat_lit 0, sv_234), (nat_lit 1, sv_232), (nat_lit 2, sv_12), (nat_lit 3, sv_133)], [], [(nat_lit 105, nat_lit 4, sv_1)]), [(nat_lit 2, nat_lit 105, nat_lit 4)], [(nat_lit 17, nat_lit 33)])]
def syl_875_11 : List LB := [(nat_lit 17, nat_lit 34, nat_lit 0, ([ee_0, ee_469], [(nat_lit 0, sv_234), (nat_lit 1, sv_232), (nat_lit 2, sv_12), (nat_lit 3, sv_162)], [], [(nat_lit 105, nat_lit 4, sv_1)]), [(nat_lit 2, nat_lit 105, nat_lit 4)], [(nat_lit 17, nat_lit 34)]),
  (nat_lit 17, nat_lit 35, nat_lit 0, ([ee_0, ee_470], [(nat_lit 0, sv_234), (nat_lit 1, sv_232), (nat_lit 2, sv_12), (nat_lit 3, sv_163)], [], [(nat_lit 105, nat_lit 4, sv_1)]), [(nat_lit 2, nat_lit 105, nat_lit 4)], [(nat_lit 17, nat_lit 35)]),
  (nat_lit 17, nat_lit 36, nat_lit 0, ([ee_0, ee_471], [(nat_lit 0, sv_234), (nat_lit 1, sv_232), (nat_lit 2, sv_12), (nat_lit 3, sv_164)], [], [(nat_lit 105, nat_lit 4, sv_1)]), [(nat_lit 2, nat_lit 105, nat_lit 4)], [(nat_lit 17, nat_lit 36)])]
def syl_875_12 : List LB := [(nat_lit 17, nat_lit 37, nat_lit 0, ([ee_0, ee_472], [(nat_lit 0, sv_234), (nat_lit 1, sv_232), (nat_lit 2, sv_12), (nat_lit 3, sv_165)], [], [(nat_lit 105, nat_lit 4, sv_1)]), [(nat_lit 2, nat_lit 105, nat_lit 4)], [(nat_lit 17, nat_lit 37)]),
  (nat_lit 17, nat_lit 38, nat_lit 0, ([ee_0, ee_473], [(nat_lit 0, sv_234), (nat_lit 1, sv_232), (nat_lit 2, sv_12), (nat_lit 3, sv_166)], [], [(nat_lit 105, nat_lit 4, sv_1)]), [(nat_lit 2, nat_lit 105, nat_lit 4)], [(nat_lit 17, nat_lit 38)]),
  (nat_lit 17, nat_lit 39, nat_lit 0, ([ee_0, ee_474], [(nat_lit 0, sv_234), (nat_lit 1, sv_232), (nat_lit 2, sv_12), (nat_lit 3, sv_167)], [], [(nat_lit 105, nat_lit 4, sv_1)]), [(nat_lit 2, nat_lit 105, nat_lit 4)], [(nat_lit 17, nat_lit 39)])]
def syl_875_13 : List LB := [(nat_lit 17, nat_lit 40, nat_lit 0, ([ee_0, ee_475], [(nat_lit 0, sv_234), (nat_lit 1, sv_232), (nat_lit 2, sv_12), (nat_lit 3, sv_168)], [], [(nat_lit 105, nat_lit 4, sv_1)]), [(nat_lit 2, nat_lit 105, nat_lit 4)], [(nat_lit 17, nat_lit 40)]),
  (nat_lit 17, nat_lit 41, nat_lit 0, ([ee_0, ee_476], [(nat_lit 0, sv_234), (nat_lit 1, sv_232), (nat_lit 2, sv_12), (nat_lit 3, sv_134)], [], [(nat_lit 105, nat_lit 4, sv_1)]), [(nat_lit 2, nat_lit 105, nat_lit 4)], [])]
def syt_875 : CO := (nat_lit 50, nat_lit 6, [ee_0], [sv_234, sv_232, sv_12], [], [], [(none, [ee_0, ee_24], [(nat_lit 105, nat_lit 4, sv_1)], [(nat_lit 2, nat_lit 105, nat_lit 4)])], [(nat_lit 31, nat_lit 0, nat_lit 3), (nat_lit 32, nat_lit 0, nat_lit 6), (nat_lit 33, nat_lit 0, nat_lit 6), (nat_lit 34, nat_lit 0, nat_lit 6), (nat_lit 35, nat_lit 0, nat_lit 6), (nat_lit 36, nat_lit 0, nat_lit 6), (nat_lit 37, nat_lit 0, nat_lit 6), (nat_lit 38, nat_lit 0, nat_lit 7), (nat_lit 105, nat_lit 5, nat_lit 10)], (syl_875_0 ++ (syl_875_1 ++ (syl_875_2 ++ (syl_875_3 ++ (syl_875_4 ++ (syl_875_5 ++ (syl_875_6 ++ (syl_875_7 ++ (syl_875_8 ++ (syl_875_9 ++ (syl_875_10 ++ (syl_875_11 ++ (syl_875_12 ++ (syl_875_13)))))))))))))), [], [(nat_lit 17, nat_lit 0)])
set_option maxRecDepth 100000 in
theorem syp_875_0 : runL_f GG [syt_831, syt_872, syt_874, syt_870, syt_868, syt_871, syt_873, syt_869, syt_866] syt_875 4000 0 syl_875_0 = true := by decide +kernel
set_option maxRecDepth 100000 in
theorem syp_875_1 : runL_f GG [syt_831, syt_872, syt_874, syt_870, syt_868, syt_871, syt_873, syt_869, syt_866] syt_875 4000 3 syl_875_1 = true := by decide +kernel
set_option maxRecDepth 100000 in
theorem syp_875_2 : runL_f GG [syt_831, syt_872, syt_874, syt_870, syt_868, syt_871, syt_873, syt_869, syt_866] syt_875 4000 6 syl_875_2 = true := by decide +kernel
set_option maxRecDepth 100000 in
theorem syp_875_3 : runL_f GG [syt_831, syt_872, syt_874, syt_870, syt_868, syt_871, syt_873, syt_869, syt_866] syt_875 4000 9 syl_875_3 = true := by decide +kernel
set_option maxRecDepth 100000 in
theorem syp_875_4 : runL_f GG [syt_831, syt_872, syt_874, syt_870, syt_868, syt_871, syt_873, syt_869, syt_866] syt_875 4000 12 syl_875_4 = true := by decide +kernel
set_option maxRecDepth 100000 in
theorem syp_875_5 : runL_f GG [syt_831, syt_872, syt_874, syt_870, syt_868, syt_871, syt_873, syt_869, syt_866] syt_875 4000 15 syl_875_5 = true := by decide +kernel
set_option maxRecDepth 100000 in
theorem syp_875_6 : runL_f GG [syt_831, syt_872, syt_874, syt_870, syt_868, syt_871, syt_873, syt_869, syt_866] syt_875 4000 18 syl_875_6 = true := by decide +kernel
set_option maxRecDepth 100000 in
theorem syp_875_7 : runL_f GG [syt_831, syt_872, syt_874, syt_870, syt_868, syt_871, syt_873, syt_869, syt_866] syt_875 4000 21 syl_875_7 = true := by decide +kernel
set_option maxRecDepth 100000 in
theorem syp_875_8 : runL_f GG [syt_831, syt_872, syt_874, syt_870, syt_868, syt_871, syt_873, syt_869, syt_866] syt_875 4000 24 syl_875_8 = true := by decide +kernel
set_option maxRecDepth 100000 in
theorem syp_875_9 : runL_f GG [syt_831, syt_872, syt_874, syt_870, syt_868, syt_871, syt_873, syt_869, syt_866] syt_875 4000 27 syl_875_9 = true := by decide +kernel
set_option maxRecDepth 100000 in
theorem syp_875_10 : runL_f GG [syt_831, syt_872, syt_874, syt_870, syt_868, syt_871, syt_873, syt_869, syt_866] syt_875 4000 30 syl_875_10 = true := by decide +kernel
set_option maxRecDepth 100000 in
theorem syp_875_11 : runL_f GG [syt_831, syt_872, syt_874, syt_870, syt_868, syt_871, syt_873, syt_869, syt_866] syt_875 4000 33 syl_875_11 = true := by decide +kernel
set_option maxRecDepth 100000 in
theorem syp_875_12 : runL_f GG [syt_831, syt_872, syt_874, syt_870, syt_868, syt_871, syt_873, syt_869, syt_866] syt_875 4000 36 syl_875_12 = true := by decide +kernel
set_option maxRecDepth 100000 in
theorem syp_875_13 : runL_f GG [syt_831, syt_872, syt_874, syt_870, syt_868, syt_871, syt_873, syt_869, syt_866] syt_875 4000 39 syl_875_13 = true := by decide +kernel
set_option maxRecDepth 100000 in
theorem syc_875 : CoOk GG MM syt_875 := chk_okP (cs := [syt_831, syt_872, syt_874, syt_870, syt_868, syt_871, syt_873, syt_869, syt_866]) (F := 4000) (cs_c syc_831 <| cs_c syc_872 <| cs_c syc_874 <| cs_c syc_870 <| cs_c syc_868 <| cs_c syc_871 <| cs_c syc_873 <| cs_c syc_869 <| cs_c syc_866 cs_n) (by decide +kernel) (runL_app (runL_q syp_875_0) (runL_app (runL_q syp_875_1) (runL_app (runL_q syp_875_2) (runL_app (runL_q syp_875_3) (runL_app (runL_q syp_875_4) (runL_app (runL_q syp_875_5) (runL_app (runL_q syp_875_6) (runL_app (runL_q syp_875_7) (runL_app (runL_q syp_875_8) (runL_app (runL_q syp_875_9) (runL_app (runL_q syp_875_10) (runL_app (runL_q syp_875_11) (runL_app (runL_q syp_875_12) ((runL_q syp_875_13)))))))))))))))
