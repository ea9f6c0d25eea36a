section
/-! ===== contracts, inferred and printed by my program, checked here ===== -/
/-- Slip.putName -/
def syt_568 : CO := (nat_lit 149, nat_lit 2, [ee_0, ee_23], [sv_224, sv_26], [], [(nat_lit 1, nat_lit 1, nat_lit 0)], [(none, [ee_0, ee_23], [], [])], [(nat_lit 129, nat_lit 1, nat_lit 1), (nat_lit 130, nat_lit 0, nat_lit 63)], [(nat_lit 3, nat_lit 1, nat_lit 2, ([ee_0, ee_23, ee_313], [(nat_lit 0, sv_224), (nat_lit 1, sv_26), (nat_lit 3, sv_4)], [], []), [(nat_lit 0, nat_lit 3, nat_lit 0)], [(nat_lit 3, nat_lit 0)])], [], [(nat_lit 3, nat_lit 0)])
set_option maxRecDepth 100000 in
theorem syc_568 : CoOk GG MM syt_568 := chk_okF (cs := [syt_567]) (F := 4000) (cs_c syc_567 cs_n) (by decide +kernel) (by decide +kernel)
/-- Slip.putText -/
def syt_569 : CO := (nat_lit 152, nat_lit 2, [ee_0], [sv_224, sv_225], [], [], [(none, [ee_0], [], [])], [(nat_lit 129, nat_lit 1, nat_lit 1), (nat_lit 130, nat_lit 0, nat_lit 63)], [(nat_lit 2, nat_lit 1, nat_lit 1, ([ee_0, ee_27], [(nat_lit 0, sv_224), (nat_lit 1, sv_225), (nat_lit 2, sv_1)], [], []), [(nat_lit 0, nat_lit 2, nat_lit 0)], [(nat_lit 2, nat_lit 0)])], [], [(nat_lit 2, nat_lit 0)])
set_option maxRecDepth 100000 in
theorem syc_569 : CoOk GG MM syt_569 := chk_okF (cs := [syt_567]) (F := 4000) (cs_c syc_567 cs_n) (by decide +kernel) (by decide +kernel)
/-- Slip.putNumber -/
def syt_570 : CO := (nat_lit 150, nat_lit 2, [ee_0, ee_1], [sv_224, sv_1], [], [(nat_lit 1, nat_lit 1, nat_lit 0)], [(none, [ee_0, ee_1], [], [])], [(nat_lit 129, nat_lit 1, nat_lit 1), (nat_lit 130, nat_lit 0, nat_lit 63)], [], [], [])
set_option maxRecDepth 100000 in
theorem syc_570 : CoOk GG MM syt_570 := chk_okF (cs := [syt_567]) (F := 4000) (cs_c syc_567 cs_n) (by decide +kernel) (by decide +kernel)
/-- Slip.putText -/
def syt_571 : CO := (nat_lit 152, nat_lit 2, [ee_0], [sv_224, sv_226], [], [], [(none, [ee_0], [], [])], [(nat_lit 129, nat_lit 1, nat_lit 1), (nat_lit 130, nat_lit 0, nat_lit 63)], [(nat_lit 2, nat_lit 1, nat_lit 1, ([ee_0, ee_30], [(nat_lit 0, sv_224), (nat_lit 1, sv_226), (nat_lit 2, sv_1)], [], []), [(nat_lit 0, nat_lit 2, nat_lit 0)], [(nat_lit 2, nat_lit 0)])], [], [(nat_lit 2, nat_lit 0)])
set_option maxRecDepth 100000 in
theorem syc_571 : CoOk GG MM syt_571 := chk_okF (cs := [syt_567]) (F := 4000) (cs_c syc_567 cs_n) (by decide +kernel) (by decide +kernel)
/-- Slip.putText -/
def syt_572 : CO := (nat_lit 152, nat_lit 2, [ee_0], [sv_224, sv_227], [], [], [(none, [ee_0], [], [])], [(nat_lit 129, nat_lit 1, nat_lit 1), (nat_lit 130, nat_lit 0, nat_lit 63)], [(nat_lit 2, nat_lit 1, nat_lit 1, ([ee_0, ee_14], [(nat_lit 0, sv_224), (nat_lit 1, sv_227), (nat_lit 2, sv_1)], [], []), [(nat_lit 0, nat_lit 2, nat_lit 0)], [(nat_lit 2, nat_lit 0)])], [], [(nat_lit 2, nat_lit 0)])
set_option maxRecDepth 100000 in
theorem syc_572 : CoOk GG MM syt_572 := chk_okF (cs := [syt_567]) (F := 4000) (cs_c syc_567 cs_n) (by decide +kernel) (by decide +kernel)
/-- Slip.putText -/
def syt_573 : CO := (nat_lit 152, nat_lit 2, [ee_0], [sv_224, sv_228], [], [], [(none, [ee_0], [], [])], [(nat_lit 129, nat_lit 1, nat_lit 1), (nat_lit 130, nat_lit 0, nat_lit 63)], [(nat_lit 2, nat_lit 1, nat_lit 1, ([ee_0, ee_34], [(nat_lit 0, sv_224), (nat_lit 1, sv_228), (nat_lit 2, sv_1)], [], []), [(nat_lit 0, nat_lit 2, nat_lit 0)], [(nat_lit 2, nat_lit 0)])], [], [(nat_lit 2, nat_lit 0)])
set_option maxRecDepth 100000 in
theorem syc_573 : CoOk GG MM syt_573 := chk_okF (cs := [syt_567]) (F := 4000) (cs_c syc_567 cs_n) (by decide +kernel) (by decide +kernel)
/-- Slip.write -/
def syt_574 : CO := (nat_lit 153, nat_lit 3, [ee_0, ee_27], [sv_224, sv_12, sv_41, sv_1], [], [(nat_lit 1, nat_lit 3, nat_lit 0)], [(none, [ee_0, ee_27], [], [])], [(nat_lit 129, nat_lit 1, nat_lit 1), (nat_lit 130, nat_lit 0, nat_lit 63)], [], [], [])
set_option maxRecDepth 100000 in
theorem syc_574 : CoOk GG MM syt_574 := chk_okF (cs := [syt_280, syt_261, syt_568, syt_570, syt_569, syt_571, syt_572, syt_573]) (F := 4000) (cs_c syc_280 <| cs_c syc_261 <| cs_c syc_568 <| cs_c syc_570 <| cs_c syc_569 <| cs_c syc_571 <| cs_c syc_572 <| cs_c syc_573 cs_n) (by decide +kernel) (by decide +kernel)
/-- X.slip -/
def syt_575 : CO := (nat_lit 40, nat_lit 4, [ee_0, ee_1], [sv_8, sv_1], [(nat_lit 0, nat_lit 1, sv_12), (nat_lit 0, nat_lit 2, sv_13), (nat_lit 0, nat_lit 7, sv_14), (nat_lit 0, nat_lit 8, sv_15)], [(nat_lit 1, nat_lit 1, nat_lit 0)], [(some sv_16, [ee_0, ee_1], [(nat_lit 0, nat_lit 1, sv_12), (nat_lit 0, nat_lit 2, sv_13), (nat_lit 0, nat_lit 7, sv_14), (nat_lit 0, nat_lit 8, sv_15)], []), (some sv_4, [ee_0, ee_27, ee_268], [(nat_lit 0, nat_lit 1, sv_12), (nat_lit 0, nat_lit 2, sv_13), (nat_lit 0, nat_lit 7, sv_14), (nat_lit 0, nat_lit 8, sv_15)], [(nat_lit 1, nat_lit 0, nat_lit 0)])], [(nat_lit 129, nat_lit 1, nat_lit 1), (nat_lit 130, nat_lit 0, nat_lit 63)], [], [], [])
set_option maxRecDepth 100000 in
theorem syc_575 : CoOk GG MM syt_575 := chk_okF (cs := [syt_247, syt_574]) (F := 4000) (cs_c syc_247 <| cs_c syc_574 cs_n) (by decide +kernel) (by decide +kernel)
/-- M.write -/
def syt_576 : CO := (nat_lit 294, nat_lit 1, [ee_0, ee_1], [sv_19, sv_1], [(nat_lit 180, nat_lit 41, sv_6)], [(nat_lit 1, nat_lit 1, nat_lit 0)], [(none, [ee_0, ee_1], [(nat_lit 180, nat_lit 41, sv_24)], [])], [(nat_lit 180, nat_lit 41, nat_lit 41), (nat_lit 199, nat_lit 0, nat_lit 0)], [], [], [])
set_option maxRecDepth 100000 in
theorem syc_576 : CoOk GG MM syt_576 := chk_okF (cs := []) (F := 4000) (fun _ h => absurd h List.not_mem_nil) (by decide +kernel) (by decide +kernel)
/-- M.writeWord -/
def syt_577 : CO := (nat_lit 297, nat_lit 2, [ee_0, ee_314], [sv_19, sv_26], [(nat_lit 180, nat_lit 41, sv_6)], [(nat_lit 1, nat_lit 1, nat_lit 0)], [(none, [ee_0, ee_314], [(nat_lit 180, nat_lit 41, sv_24)], [])], [(nat_lit 180, nat_lit 41, nat_lit 41), (nat_lit 199, nat_lit 0, nat_lit 0)], [], [], [])
set_option maxRecDepth 100000 in
theorem syc_577 : CoOk GG MM syt_577 := chk_okF (cs := [syt_576]) (F := 4000) (cs_c syc_576 cs_n) (by decide +kernel) (by decide +kernel)
/-- M.write -/
def syt_578 : CO := (nat_lit 294, nat_lit 1, [ee_0, ee_1], [sv_19, sv_1], [(nat_lit 180, nat_lit 41, sv_24)], [(nat_lit 1, nat_lit 1, nat_lit 0)], [(none, [ee_0, ee_1], [(nat_lit 180, nat_lit 41, sv_32)], [])], [(nat_lit 180, nat_lit 41, nat_lit 41), (nat_lit 199, nat_lit 1, nat_lit 1)], [], [], [])
set_option maxRecDepth 100000 in
theorem syc_578 : CoOk GG MM syt_578 := chk_okF (cs := []) (F := 4000) (fun _ h => absurd h List.not_mem_nil) (by decide +kernel) (by decide +kernel)
/-- M.writeWord -/
def syt_579 : CO := (nat_lit 297, nat_lit 2, [ee_0, ee_146], [sv_19, sv_26], [(nat_lit 180, nat_lit 41, sv_6)], [(nat_lit 1, nat_lit 1, nat_lit 0)], [(none, [ee_0, ee_146], [(nat_lit 180, nat_lit 41, sv_24)], [])], [(nat_lit 180, nat_lit 41, nat_lit 41), (nat_lit 199, nat_lit 0, nat_lit 0)], [], [], [])
set_option maxRecDepth 100000 in
theorem syc_579 : CoOk GG MM syt_579 := chk_okF (cs := [syt_576]) (F := 4000) (cs_c syc_576 cs_n) (by decide +kernel) (by decide +kernel)
/-- M.writeWord -/
def syt_580 : CO := (nat_lit 297, nat_lit 3, [ee_0, ee_315], [sv_19, sv_26], [(nat_lit 180, nat_lit 41, sv_6)], [(nat_lit 1, nat_lit 1, nat_lit 0)], [(none, [ee_0, ee_315, ee_309], [(nat_lit 180, nat_lit 41, sv_4)], [(nat_lit 2, nat_lit 180, nat_lit 41)])], [(nat_lit 180, nat_lit 41, nat_lit 41), (nat_lit 199, nat_lit 0, nat_lit 1)], [], [], [])
set_option maxRecDepth 100000 in
theorem syc_580 : CoOk GG MM syt_580 := chk_okF (cs := [syt_576, syt_578, syt_579, syt_577]) (F := 4000) (cs_c syc_576 <| cs_c syc_578 <| cs_c syc_579 <| cs_c syc_577 cs_n) (by decide +kernel) (by decide +kernel)
/-- M.write -/
def syt_581 : CO := (nat_lit 294, nat_lit 1, [ee_0, ee_1, ee_309], [sv_19, sv_1], [(nat_lit 180, nat_lit 41, sv_4)], [(nat_lit 1, nat_lit 1, nat_lit 0), (nat_lit 2, nat_lit 180, nat_lit 41)], [(none, [ee_0, ee_1, ee_309], [(nat_lit 180, nat_lit 41, sv_20)], [])], [(nat_lit 180, nat_lit 41, nat_lit 41), (nat_lit 199, nat_lit 1, nat_lit 2)], [], [], [])
set_option maxRecDepth 100000 in
theorem syc_581 : CoOk GG MM syt_581 := chk_okF (cs := []) (F := 4000) (fun _ h => absurd h List.not_mem_nil) (by decide +kernel) (by decide +kernel)
/-- M.writeWord -/
def syt_582 : CO := (nat_lit 297, nat_lit 4, [ee_0, ee_316], [sv_19, sv_26], [(nat_lit 180, nat_lit 41, sv_6)], [(nat_lit 1, nat_lit 1, nat_lit 0)], [(none, [ee_0, ee_316, ee_310], [(nat_lit 180, nat_lit 41, sv_4)], [(nat_lit 2, nat_lit 180, nat_lit 41)])], [(nat_lit 180, nat_lit 41, nat_lit 41), (nat_lit 199, nat_lit 0, nat_lit 2)], [], [], [])
set_option maxRecDepth 100000 in
theorem syc_582 : CoOk GG MM syt_582 := chk_okF (cs := [syt_576, syt_578, syt_581, syt_579, syt_580]) (F := 4000) (cs_c syc_576 <| cs_c syc_578 <| cs_c syc_581 <| cs_c syc_579 <| cs_c syc_580 cs_n) (by decide +kernel) (by decide +kernel)
/-- M.write -/
def syt_583 : CO := (nat_lit 294, nat_lit 1, [ee_0, ee_1, ee_310], [sv_19, sv_1], [(nat_lit 180, nat_lit 41, sv_4)], [(nat_lit 1, nat_lit 1, nat_lit 0), (nat_lit 2, nat_lit 180, nat_lit 41)], [(none, [ee_0, ee_1, ee_310], [(nat_lit 180, nat_lit 41, sv_20)], [])], [(nat_lit 180, nat_lit 41, nat_lit 41), (nat_lit 199, nat_lit 1, nat_lit 3)], [], [], [])
set_option maxRecDepth 100000 in
theorem syc_583 : CoOk GG MM syt_583 := chk_okF (cs := []) (F := 4000) (fun _ h => absurd h List.not_mem_nil) (by decide +kernel) (by decide +kernel)
/-- M.writeWord -/
def syt_584 : CO := (nat_lit 297, nat_lit 5, [ee_0, ee_317], [sv_19, sv_26], [(nat_lit 180, nat_lit 41, sv_6)], [(nat_lit 1, nat_lit 1, nat_lit 0)], [(none, [ee_0, ee_317, ee_77], [(nat_lit 180, nat_lit 41, sv_4)], [(nat_lit 2, nat_lit 180, nat_lit 41)])], [(nat_lit 180, nat_lit 41, nat_lit 41), (nat_lit 199, nat_lit 0, nat_lit 3)], [], [], [])
set_option maxRecDepth 100000 in
theorem syc_584 : CoOk GG MM syt_584 := chk_okF (cs := [syt_576, syt_578, syt_583, syt_579, syt_582]) (F := 4000) (cs_c syc_576 <| cs_c syc_578 <| cs_c syc_583 <| cs_c syc_579 <| cs_c syc_582 cs_n) (by decide +kernel) (by decide +kernel)
/-- M.write -/
def syt_585 : CO := (nat_lit 294, nat_lit 1, [ee_0, ee_1, ee_77], [sv_19, sv_1], [(nat_lit 180, nat_lit 41, sv_4)], [(nat_lit 1, nat_lit 1, nat_lit 0), (nat_lit 2, nat_lit 180, nat_lit 41)], [(none, [ee_0, ee_1, ee_77], [(nat_lit 180, nat_lit 41, sv_20)], [])], [(nat_lit 180, nat_lit 41, nat_lit 41), (nat_lit 199, nat_lit 1, nat_lit 4)], [], [], [])
set_option maxRecDepth 100000 in
theorem syc_585 : CoOk GG MM syt_585 := chk_okF (cs := []) (F := 4000) (fun _ h => absurd h List.not_mem_nil) (by decide +kernel) (by decide +kernel)
/-- M.writeWord -/
def syt_586 : CO := (nat_lit 297, nat_lit 6, [ee_0, ee_318], [sv_19, sv_26], [(nat_lit 180, nat_lit 41, sv_6)], [(nat_lit 1, nat_lit 1, nat_lit 0)], [(none, [ee_0, ee_318, ee_311], [(nat_lit 180, nat_lit 41, sv_4)], [(nat_lit 2, nat_lit 180, nat_lit 41)])], [(nat_lit 180, nat_lit 41, nat_lit 41), (nat_lit 199, nat_lit 0, nat_lit 4)], [], [], [])
set_option maxRecDepth 100000 in
theorem syc_586 : CoOk GG MM syt_586 := chk_okF (cs := [syt_576, syt_578, syt_585, syt_579, syt_584]) (F := 4000) (cs_c syc_576 <| cs_c syc_578 <| cs_c syc_585 <| cs_c syc_579 <| cs_c syc_584 cs_n) (by decide +kernel) (by decide +kernel)
/-- M.write -/
def syt_587 : CO := (nat_lit 294, nat_lit 1, [ee_0, ee_1, ee_311], [sv_19, sv_1], [(nat_lit 180, nat_lit 41, sv_4)], [(nat_lit 1, nat_lit 1, nat_lit 0), (nat_lit 2, nat_lit 180, nat_lit 41)], [(none, [ee_0, ee_1, ee_311], [(nat_lit 180, nat_lit 41, sv_20)], [])], [(nat_lit 180, nat_lit 41, nat_lit 41), (nat_lit 199, nat_lit 1, nat_lit 5)], [], [], [])
set_option maxRecDepth 100000 in
theorem syc_587 : CoOk GG MM syt_587 := chk_okF (cs := []) (F := 4000) (fun _ h => absurd h List.not_mem_nil) (by decide +kernel) (by decide +kernel)
/-- M.writeWord -/
def syt_588 : CO := (nat_lit 297, nat_lit 7, [ee_0, ee_319], [sv_19, sv_26], [(nat_lit 180, nat_lit 41, sv_6)], [(nat_lit 1, nat_lit 1, nat_lit 0)], [(none, [ee_0, ee_319, ee_110], [(nat_lit 180, nat_lit 41, sv_4)], [(nat_lit 2, nat_lit 180, nat_lit 41)])], [(nat_lit 180, nat_lit 41, nat_lit 41), (nat_lit 199, nat_lit 0, nat_lit 5)], [], [], [])
set_option maxRecDepth 100000 in
theorem syc_588 : CoOk GG MM syt_588 := chk_okF (cs := [syt_576, syt_578, syt_587, syt_579, syt_586]) (F := 4000) (cs_c syc_576 <| cs_c syc_578 <| cs_c syc_587 <| cs_c syc_579 <| cs_c syc_586 cs_n) (by decide +kernel) (by decide +kernel)
/-- M.write -/
def syt_589 : CO := (nat_lit 294, nat_lit 1, [ee_0, ee_1, ee_110], [sv_19, sv_1], [(nat_lit 180, nat_lit 41, sv_4)], [(nat_lit 1, nat_lit 1, nat_lit 0), (nat_lit 2, nat_lit 180, nat_lit 41)], [(none, [ee_0, ee_1, ee_110], [(nat_lit 180, nat_lit 41, sv_20)], [])], [(nat_lit 180, nat_lit 41, nat_lit 41), (nat_lit 199, nat_lit 1, nat_lit 6)], [], [], [])
set_option maxRecDepth 100000 in
theorem syc_589 : CoOk GG MM syt_589 := chk_okF (cs := []) (F := 4000) (fun _ h => absurd h List.not_mem_nil) (by decide +kernel) (by decide +kernel)
/-- M.writeWord -/
def syt_590 : CO := (nat_lit 297, nat_lit 8, [ee_0, ee_320], [sv_19, sv_26], [(nat_lit 180, nat_lit 41, sv_6)], [(nat_lit 1, nat_lit 1, nat_lit 0)], [(none, [ee_0, ee_320, ee_26], [(nat_lit 180, nat_lit 41, sv_4)], [(nat_lit 2, nat_lit 180, nat_lit 41)])], [(nat_lit 180, nat_lit 41, nat_lit 41), (nat_lit 199, nat_lit 0, nat_lit 6)], [], [], [])
set_option maxRecDepth 100000 in
theorem syc_590 : CoOk GG MM syt_590 := chk_okF (cs := [syt_576, syt_578, syt_589, syt_579, syt_588]) (F := 4000) (cs_c syc_576 <| cs_c syc_578 <| cs_c syc_589 <| cs_c syc_579 <| cs_c syc_588 cs_n) (by decide +kernel) (by decide +kernel)
/-- M.write -/
def syt_591 : CO := (nat_lit 294, nat_lit 1, [ee_0, ee_1, ee_26], [sv_19, sv_1], [(nat_lit 180, nat_lit 41, sv_4)], [(nat_lit 1, nat_lit 1, nat_lit 0), (nat_lit 2, nat_lit 180, nat_lit 41)], [(none, [ee_0, ee_1, ee_26], [(nat_lit 180, nat_lit 41, sv_20)], [])], [(nat_lit 180, nat_lit 41, nat_lit 41), (nat_lit 199, nat_lit 1, nat_lit 7)], [], [], [])
set_option maxRecDepth 100000 in
theorem syc_591 : CoOk GG MM syt_591 := chk_okF (cs := []) (F := 4000) (fun _ h => absurd h List.not_mem_nil) (by decide +kernel) (by decide +kernel)
/-- M.writeWord -/
def syt_592 : CO := (nat_lit 297, nat_lit 9, [ee_0, ee_74], [sv_19, sv_26], [(nat_lit 180, nat_lit 41, sv_6)], [(nat_lit 1, nat_lit 1, nat_lit 0)], [(none, [ee_0, ee_74, ee_31], [(nat_lit 180, nat_lit 41, sv_4)], [(nat_lit 2, nat_lit 180, nat_lit 41)])], [(nat_lit 180, nat_lit 41, nat_lit 41), (nat_lit 199, nat_lit 0, nat_lit 7)], [], [], [])
set_option maxRecDepth 100000 in
theorem syc_592 : CoOk GG MM syt_592 := chk_okF (cs := [syt_576, syt_578, syt_591, syt_579, syt_590]) (F := 4000) (cs_c syc_576 <| cs_c syc_578 <| cs_c syc_591 <| cs_c syc_579 <| cs_c syc_590 cs_n) (by decide +kernel) (by decide +kernel)
/-- M.write -/
def syt_593 : CO := (nat_lit 294, nat_lit 1, [ee_0, ee_1, ee_31], [sv_19, sv_1], [(nat_lit 180, nat_lit 41, sv_4)], [(nat_lit 1, nat_lit 1, nat_lit 0), (nat_lit 2, nat_lit 180, nat_lit 41)], [(none, [ee_0, ee_1, ee_31], [(nat_lit 180, nat_lit 41, sv_20)], [])], [(nat_lit 180, nat_lit 41, nat_lit 41), (nat_lit 199, nat_lit 1, nat_lit 8)], [], [], [])
set_option maxRecDepth 100000 in
theorem syc_593 : CoOk GG MM syt_593 := chk_okF (cs := []) (F := 4000) (fun _ h => absurd h List.not_mem_nil) (by decide +kernel) (by decide +kernel)
/-- M.write -/
def syt_594 : CO := (nat_lit 294, nat_lit 1, [ee_0, ee_1, ee_321], [sv_19, sv_1], [(nat_lit 180, nat_lit 41, sv_4)], [(nat_lit 1, nat_lit 1, nat_lit 0), (nat_lit 2, nat_lit 180, nat_lit 41)], [(none, [ee_0, ee_1, ee_321], [(nat_lit 180, nat_lit 41, sv_20)], [])], [(nat_lit 180, nat_lit 41, nat_lit 41), (nat_lit 199, nat_lit 2, nat_lit 9)], [], [], [])
set_option maxRecDepth 100000 in
theorem syc_594 : CoOk GG MM syt_594 := chk_okF (cs := []) (F := 4000) (fun _ h => absurd h List.not_mem_nil) (by decide +kernel) (by decide +kernel)
/-- M.writeWord -/
def syt_595 : CO := (nat_lit 297, nat_lit 2, [ee_0, ee_322, ee_321], [sv_19, sv_26], [(nat_lit 180, nat_lit 41, sv_4)], [(nat_lit 1, nat_lit 1, nat_lit 0), (nat_lit 2, nat_lit 180, nat_lit 41)], [(none, [ee_0, ee_322, ee_321], [(nat_lit 180, nat_lit 41, sv_20)], [])], [(nat_lit 180, nat_lit 41, nat_lit 41), (nat_lit 199, nat_lit 2, nat_lit 9)], [], [], [])
set_option maxRecDepth 100000 in
theorem syc_595 : CoOk GG MM syt_595 := chk_okF (cs := [syt_594]) (F := 4000) (cs_c syc_594 cs_n) (by decide +kernel) (by decide +kernel)
/-- M.write -/
def syt_596 : CO := (nat_lit 294, nat_lit 1, [ee_0, ee_1, ee_323], [sv_19, sv_1], [(nat_lit 180, nat_lit 41, sv_4)], [(nat_lit 1, nat_lit 1, nat_lit 0), (nat_lit 2, nat_lit 180, nat_lit 41)], [(none, [ee_0, ee_1, ee_323], [(nat_lit 180, nat_lit 41, sv_20)], [])], [(nat_lit 180, nat_lit 41, nat_lit 41), (nat_lit 199, nat_lit 3, nat_lit 10)], [], [], [])
set_option maxRecDepth 100000 in
theorem syc_596 : CoOk GG MM syt_596 := chk_okF (cs := []) (F := 4000) (fun _ h => absurd h List.not_mem_nil) (by decide +kernel) (by decide +kernel)
/-- M.writeWord -/
def syt_597 : CO := (nat_lit 297, nat_lit 3, [ee_0, ee_324, ee_321], [sv_19, sv_26], [(nat_lit 180, nat_lit 41, sv_4)], [(nat_lit 1, nat_lit 1, nat_lit 0), (nat_lit 2, nat_lit 180, nat_lit 41)], [(none, [ee_0, ee_324, ee_321], [(nat_lit 180, nat_lit 41, sv_21)], [])], [(nat_lit 180, nat_lit 41, nat_lit 41), (nat_lit 199, nat_lit 2, nat_lit 10)], [], [], [])
set_option maxRecDepth 100000 in
theorem syc_597 : CoOk GG MM syt_597 := chk_okF (cs := [syt_596, syt_595]) (F := 4000) (cs_c syc_596 <| cs_c syc_595 cs_n) (by decide +kernel) (by decide +kernel)
/-- M.write -/
def syt_598 : CO := (nat_lit 294, nat_lit 1, [ee_0, ee_1, ee_325], [sv_19, sv_1], [(nat_lit 180, nat_lit 41, sv_4)], [(nat_lit 1, nat_lit 1, nat_lit 0), (nat_lit 2, nat_lit 180, nat_lit 41)], [(none, [ee_0, ee_1, ee_325], [(nat_lit 180, nat_lit 41, sv_20)], [])], [(nat_lit 180, nat_lit 41, nat_lit 41), (nat_lit 199, nat_lit 4, nat_lit 11)], [], [], [])
set_option maxRecDepth 100000 in
theorem syc_598 : CoOk GG MM syt_598 := chk_okF (cs := []) (F := 4000) (fun _ h => absurd h List.not_mem_nil) (by decide +kernel) (by decide +kernel)
/-- M.writeWord -/
def syt_599 : CO := (nat_lit 297, nat_lit 4, [ee_0, ee_326, ee_321], [sv_19, sv_26], [(nat_lit 180, nat_lit 41, sv_4)], [(nat_lit 1, nat_lit 1, nat_lit 0), (nat_lit 2, nat_lit 180, nat_lit 41)], [(none, [ee_0, ee_326, ee_321], [(nat_lit 180, nat_lit 41, sv_22)], [])], [(nat_lit 180, nat_lit 41, nat_lit 41), (nat_lit 199, nat_lit 2, nat_lit 11)], [], [], [])
set_option maxRecDepth 100000 in
theorem syc_599 : CoOk GG MM syt_599 := chk_okF (cs := [syt_598, syt_597]) (F := 4000) (cs_c syc_598 <| cs_c syc_597 cs_n) (by decide +kernel) (by decide +kernel)
/-- M.write -/
def syt_600 : CO := (nat_lit 294, nat_lit 1, [ee_0, ee_1, ee_169], [sv_19, sv_1], [(nat_lit 180, nat_lit 41, sv_4)], [(nat_lit 1, nat_lit 1, nat_lit 0), (nat_lit 2, nat_lit 180, nat_lit 41)], [(none, [ee_0, ee_1, ee_169], [(nat_lit 180, nat_lit 41, sv_20)], [])], [(nat_lit 180, nat_lit 41, nat_lit 41), (nat_lit 199, nat_lit 5, nat_lit 12)], [], [], [])
set_option maxRecDepth 100000 in
theorem syc_600 : CoOk GG MM syt_600 := chk_okF (cs := []) (F := 4000) (fun _ h => absurd h List.not_mem_nil) (by decide +kernel) (by decide +kernel)
/-- M.writeWord -/
def syt_601 : CO := (nat_lit 297, nat_lit 5, [ee_0, ee_106, ee_321], [sv_19, sv_26], [(nat_lit 180, nat_lit 41, sv_4)], [(nat_lit 1, nat_lit 1, nat_lit 0), (nat_lit 2, nat_lit 180, nat_lit 41)], [(none, [ee_0, ee_106, ee_321], [(nat_lit 180, nat_lit 41, sv_23)], [])], [(nat_lit 180, nat_lit 41, nat_lit 41), (nat_lit 199, nat_lit 2, nat_lit 12)], [], [], [])
set_option maxRecDepth 100000 in
theorem syc_601 : CoOk GG MM syt_601 := chk_okF (cs := [syt_600, syt_599]) (F := 4000) (cs_c syc_600 <| cs_c syc_599 cs_n) (by decide +kernel) (by decide +kernel)
/-- M.writeNext -/
def syt_602 : CO := (nat_lit 295, nat_lit 6, [ee_0, ee_106, ee_31], [sv_19, sv_26], [(nat_lit 180, nat_lit 41, sv_4)], [(nat_lit 1, nat_lit 1, nat_lit 0), (nat_lit 2, nat_lit 180, nat_lit 41)], [(none, [ee_0, ee_106, ee_31], [(nat_lit 180, nat_lit 41, sv_229)], [])], [(nat_lit 180, nat_lit 41, nat_lit 41), (nat_lit 199, nat_lit 1, nat_lit 12)], [], [], [])
set_option maxRecDepth 100000 in
theorem syc_602 : CoOk GG MM syt_602 := chk_okF (cs := [syt_593, syt_601]) (F := 4000) (cs_c syc_593 <| cs_c syc_601 cs_n) (by decide +kernel) (by decide +kernel)
/-- M.write -/
def syt_603 : CO := (nat_lit 294, nat_lit 1, [ee_0, ee_1, ee_327], [sv_19, sv_1], [(nat_lit 180, nat_lit 41, sv_4)], [(nat_lit 1, nat_lit 1, nat_lit 0), (nat_lit 2, nat_lit 180, nat_lit 41)], [(none, [ee_0, ee_1, ee_327], [(nat_lit 180, nat_lit 41, sv_20)], [])], [(nat_lit 180, nat_lit 41, nat_lit 41), (nat_lit 199, nat_lit 6, nat_lit 13)], [], [], [])
set_option maxRecDepth 100000 in
theorem syc_603 : CoOk GG MM syt_603 := chk_okF (cs := []) (F := 4000) (fun _ h => absurd h List.not_mem_nil) (by decide +kernel) (by decide +kernel)
/-- M.write -/
def syt_604 : CO := (nat_lit 294, nat_lit 1, [ee_0, ee_1, ee_135], [sv_19, sv_1], [(nat_lit 180, nat_lit 41, sv_4)], [(nat_lit 1, nat_lit 1, nat_lit 0), (nat_lit 2, nat_lit 180, nat_lit 41)], [(none, [ee_0, ee_1, ee_135], [(nat_lit 180, nat_lit 41, sv_20)], [])], [(nat_lit 180, nat_lit 41, nat_lit 41), (nat_lit 199, nat_lit 7, nat_lit 14)], [], [], [])
set_option maxRecDepth 100000 in
theorem syc_604 : CoOk GG MM syt_604 := chk_okF (cs := []) (F := 4000) (fun _ h => absurd h List.not_mem_nil) (by decide +kernel) (by decide +kernel)
/-- M.writeNumber -/
def syt_605 : CO := (nat_lit 296, nat_lit 2, [ee_0, ee_29, ee_135], [sv_19, sv_1], [(nat_lit 180, nat_lit 41, sv_4)], [(nat_lit 1, nat_lit 1, nat_lit 0), (nat_lit 2, nat_lit 180, nat_lit 41)], [(none, [ee_0, ee_29, ee_135], [(nat_lit 180, nat_lit 41, sv_20)], [])], [(nat_lit 180, nat_lit 41, nat_lit 41), (nat_lit 199, nat_lit 7, nat_lit 14)], [], [], [])
set_option maxRecDepth 100000 in
theorem syc_605 : CoOk GG MM syt_605 := chk_okF (cs := [syt_604]) (F := 4000) (cs_c syc_604 cs_n) (by decide +kernel) (by decide +kernel)
/-- M.write -/
def syt_606 : CO := (nat_lit 294, nat_lit 1, [ee_0, ee_1, ee_328], [sv_19, sv_1], [(nat_lit 180, nat_lit 41, sv_4)], [(nat_lit 1, nat_lit 1, nat_lit 0), (nat_lit 2, nat_lit 180, nat_lit 41)], [(none, [ee_0, ee_1, ee_328], [(nat_lit 180, nat_lit 41, sv_20)], [])], [(nat_lit 180, nat_lit 41, nat_lit 41), (nat_lit 199, nat_lit 8, nat_lit 15)], [], [], [])
set_option maxRecDepth 100000 in
theorem syc_606 : CoOk GG MM syt_606 := chk_okF (cs := []) (F := 4000) (fun _ h => absurd h List.not_mem_nil) (by decide +kernel) (by decide +kernel)
/-- M.writeNumber -/
def syt_607 : CO := (nat_lit 296, nat_lit 3, [ee_0, ee_329, ee_135], [sv_19, sv_1], [(nat_lit 180, nat_lit 41, sv_4)], [(nat_lit 1, nat_lit 1, nat_lit 0), (nat_lit 2, nat_lit 180, nat_lit 41)], [(none, [ee_0, ee_329, ee_135, ee_330], [(nat_lit 180, nat_lit 41, sv_9)], [(nat_lit 2, nat_lit 180, nat_lit 41)])], [(nat_lit 180, nat_lit 41, nat_lit 41), (nat_lit 199, nat_lit 7, nat_lit 15)], [], [], [])
set_option maxRecDepth 100000 in
theorem syc_607 : CoOk GG MM syt_607 := chk_okF (cs := [syt_604, syt_606, syt_605]) (F := 4000) (cs_c syc_604 <| cs_c syc_606 <| cs_c syc_605 cs_n) (by decide +kernel) (by decide +kernel)
/-- M.write -/
def syt_608 : CO := (nat_lit 294, nat_lit 1, [ee_0, ee_1, ee_331], [sv_19, sv_1], [(nat_lit 180, nat_lit 41, sv_4)], [(nat_lit 1, nat_lit 1, nat_lit 0), (nat_lit 2, nat_lit 180, nat_lit 41)], [(none, [ee_0, ee_1, ee_331], [(nat_lit 180, nat_lit 41, sv_20)], [])], [(nat_lit 180, nat_lit 41, nat_lit 41), (nat_lit 199, nat_lit 8, nat_lit 16)], [], [], [])
set_option maxRecDepth 100000 in
theorem syc_608 : CoOk GG MM syt_608 := chk_okF (cs := []) (F := 4000) (fun _ h => absurd h List.not_mem_nil) (by decide +kernel) (by decide +kernel)
/-- M.writeNumber -/
def syt_609 : CO := (nat_lit 296, nat_lit 4, [ee_0, ee_150, ee_135], [sv_19, sv_1], [(nat_lit 180, nat_lit 41, sv_4)], [(nat_lit 1, nat_lit 1, nat_lit 0), (nat_lit 2, nat_lit 180, nat_lit 41)], [(none, [ee_0, ee_150, ee_135, ee_332], [(nat_lit 180, nat_lit 41, sv_9)], [(nat_lit 2, nat_lit 180, nat_lit 41)])], [(nat_lit 180, nat_lit 41, nat_lit 41), (nat_lit 199, nat_lit 7, nat_lit 16)], [], [], [])
set_option maxRecDepth 100000 in
theorem syc_609 : CoOk GG MM syt_609 := chk_okF (cs := [syt_604, syt_608, syt_607]) (F := 4000) (cs_c syc_604 <| cs_c syc_608 <| cs_c syc_607 cs_n) (by decide +kernel) (by decide +kernel)
/-- M.write -/
def syt_610 : CO := (nat_lit 294, nat_lit 1, [ee_0, ee_1, ee_333], [sv_19, sv_1], [(nat_lit 180, nat_lit 41, sv_4)], [(nat_lit 1, nat_lit 1, nat_lit 0), (nat_lit 2, nat_lit 180, nat_lit 41)], [(none, [ee_0, ee_1, ee_333], [(nat_lit 180, nat_lit 41, sv_20)], [])], [(nat_lit 180, nat_lit 41, nat_lit 41), (nat_lit 199, nat_lit 8, nat_lit 17)], [], [], [])
set_option maxRecDepth 100000 in
theorem syc_610 : CoOk GG MM syt_610 := chk_okF (cs := []) (F := 4000) (fun _ h => absurd h List.not_mem_nil) (by decide +kernel) (by decide +kernel)
/-- M.write -/
def syt_611 : CO := (nat_lit 294, nat_lit 1, [ee_0, ee_1, ee_334], [sv_19, sv_1], [(nat_lit 180, nat_lit 41, sv_4)], [(nat_lit 1, nat_lit 1, nat_lit 0), (nat_lit 2, nat_lit 180, nat_lit 41)], [(none, [ee_0, ee_1, ee_334], [(nat_lit 180, nat_lit 41, sv_20)], [])], [(nat_lit 180, nat_lit 41, nat_lit 41), (nat_lit 199, nat_lit 9, nat_lit 18)], [], [], [])
set_option maxRecDepth 100000 in
theorem syc_611 : CoOk GG MM syt_611 := chk_okF (cs := []) (F := 4000) (fun _ h => absurd h List.not_mem_nil) (by decide +kernel) (by decide +kernel)
/-- M.writeWord -/
def syt_612 : CO := (nat_lit 297, nat_lit 2, [ee_0, ee_79, ee_334], [sv_19, sv_26], [(nat_lit 180, nat_lit 41, sv_4)], [(nat_lit 1, nat_lit 1, nat_lit 0), (nat_lit 2, nat_lit 180, nat_lit 41)], [(none, [ee_0, ee_79, ee_334], [(nat_lit 180, nat_lit 41, sv_20)], [])], [(nat_lit 180, nat_lit 41, nat_lit 41), (nat_lit 199, nat_lit 9, nat_lit 18)], [], [], [])
set_option maxRecDepth 100000 in
theorem syc_612 : CoOk GG MM syt_612 := chk_okF (cs := [syt_611]) (F := 4000) (cs_c syc_611 cs_n) (by decide +kernel) (by decide +kernel)
/-- M.write -/
def syt_613 : CO := (nat_lit 294, nat_lit 1, [ee_0, ee_1, ee_335], [sv_19, sv_1], [(nat_lit 180, nat_lit 41, sv_4)], [(nat_lit 1, nat_lit 1, nat_lit 0), (nat_lit 2, nat_lit 180, nat_lit 41)], [(none, [ee_0, ee_1, ee_335], [(nat_lit 180, nat_lit 41, sv_20)], [])], [(nat_lit 180, nat_lit 41, nat_lit 41), (nat_lit 199, nat_lit 10, nat_lit 19)], [], [], [])
set_option maxRecDepth 100000 in
theorem syc_613 : CoOk GG MM syt_613 := chk_okF (cs := []) (F := 4000) (fun _ h => absurd h List.not_mem_nil) (by decide +kernel) (by decide +kernel)
/-- M.writeWord -/
def syt_614 : CO := (nat_lit 297, nat_lit 3, [ee_0, ee_336, ee_334], [sv_19, sv_26], [(nat_lit 180, nat_lit 41, sv_4)], [(nat_lit 1, nat_lit 1, nat_lit 0), (nat_lit 2, nat_lit 180, nat_lit 41)], [(none, [ee_0, ee_336, ee_334], [(nat_lit 180, nat_lit 41, sv_21)], [])], [(nat_lit 180, nat_lit 41, nat_lit 41), (nat_lit 199, nat_lit 9, nat_lit 19)], [], [], [])
set_option maxRecDepth 100000 in
theorem syc_614 : CoOk GG MM syt_614 := chk_okF (cs := [syt_613, syt_612]) (F := 4000) (cs_c syc_613 <| cs_c syc_612 cs_n) (by decide +kernel) (by decide +kernel)
/-- M.write -/
def syt_615 : CO := (nat_lit 294, nat_lit 1, [ee_0, ee_1, ee_188], [sv_19, sv_1], [(nat_lit 180, nat_lit 41, sv_4)], [(nat_lit 1, nat_lit 1, nat_lit 0), (nat_lit 2, nat_lit 180, nat_lit 41)], [(none, [ee_0, ee_1, ee_188], [(nat_lit 180, nat_lit 41, sv_20)], [])], [(nat_lit 180, nat_lit 41, nat_lit 41), (nat_lit 199, nat_lit 11, nat_lit 20)], [], [], [])
set_option maxRecDepth 100000 in
theorem syc_615 : CoOk GG MM syt_615 := chk_okF (cs := []) (F := 4000) (fun _ h => absurd h List.not_mem_nil) (by decide +kernel) (by decide +kernel)
/-- M.writeWord -/
def syt_616 : CO := (nat_lit 297, nat_lit 4, [ee_0, ee_337, ee_334], [sv_19, sv_26], [(nat_lit 180, nat_lit 41, sv_4)], [(nat_lit 1, nat_lit 1, nat_lit 0), (nat_lit 2, nat_lit 180, nat_lit 41)], [(none, [ee_0, ee_337, ee_334], [(nat_lit 180, nat_lit 41, sv_22)], [])], [(nat_lit 180, nat_lit 41, nat_lit 41), (nat_lit 199, nat_lit 9, nat_lit 20)], [], [], [])
set_option maxRecDepth 100000 in
theorem syc_616 : CoOk GG MM syt_616 := chk_okF (cs := [syt_615, syt_614]) (F := 4000) (cs_c syc_615 <| cs_c syc_614 cs_n) (by decide +kernel) (by decide +kernel)
/-- M.write -/
def syt_617 : CO := (nat_lit 294, nat_lit 1, [ee_0, ee_1, ee_338], [sv_19, sv_1], [(nat_lit 180, nat_lit 41, sv_4)], [(nat_lit 1, nat_lit 1, nat_lit 0), (nat_lit 2, nat_lit 180, nat_lit 41)], [(none, [ee_0, ee_1, ee_338], [(nat_lit 180, nat_lit 41, sv_20)], [])], [(nat_lit 180, nat_lit 41, nat_lit 41), (nat_lit 199, nat_lit 12, nat_lit 21)], [], [], [])
set_option maxRecDepth 100000 in
theorem syc_617 : CoOk GG MM syt_617 := chk_okF (cs := []) (F := 4000) (fun _ h => absurd h List.not_mem_nil) (by decide +kernel) (by decide +kernel)
/-- M.writeWord -/
def syt_618 : CO := (nat_lit 297, nat_lit 5, [ee_0, ee_339, ee_334], [sv_19, sv_26], [(nat_lit 180, nat_lit 41, sv_4)], [(nat_lit 1, nat_lit 1, nat_lit 0), (nat_lit 2, nat_lit 180, nat_lit 41)], [(none, [ee_0, ee_339, ee_334], [(nat_lit 180, nat_lit 41, sv_23)], [])], [(nat_lit 180, nat_lit 41, nat_lit 41), (nat_lit 199, nat_lit 9, nat_lit 21)], [], [], [])
set_option maxRecDepth 100000 in
theorem syc_618 : CoOk GG MM syt_618 := chk_okF (cs := [syt_617, syt_616]) (F := 4000) (cs_c syc_617 <| cs_c syc_616 cs_n) (by decide +kernel) (by decide +kernel)
/-- M.write -/
def syt_619 : CO := (nat_lit 294, nat_lit 1, [ee_0, ee_1, ee_340], [sv_19, sv_1], [(nat_lit 180, nat_lit 41, sv_4)], [(nat_lit 1, nat_lit 1, nat_lit 0), (nat_lit 2, nat_lit 180, nat_lit 41)], [(none, [ee_0, ee_1, ee_340], [(nat_lit 180, nat_lit 41, sv_20)], [])], [(nat_lit 180, nat_lit 41, nat_lit 41), (nat_lit 199, nat_lit 13, nat_lit 22)], [], [], [])
set_option maxRecDepth 100000 in
theorem syc_619 : CoOk GG MM syt_619 := chk_okF (cs := []) (F := 4000) (fun _ h => absurd h List.not_mem_nil) (by decide +kernel) (by decide +kernel)
/-- M.writeWord -/
def syt_620 : CO := (nat_lit 297, nat_lit 6, [ee_0, ee_341, ee_334], [sv_19, sv_26], [(nat_lit 180, nat_lit 41, sv_4)], [(nat_lit 1, nat_lit 1, nat_lit 0), (nat_lit 2, nat_lit 180, nat_lit 41)], [(none, [ee_0, ee_341, ee_334], [(nat_lit 180, nat_lit 41, sv_229)], [])], [(nat_lit 180, nat_lit 41, nat_lit 41), (nat_lit 199, nat_lit 9, nat_lit 22)], [], [], [])
set_option maxRecDepth 100000 in
theorem syc_620 : CoOk GG MM syt_620 := chk_okF (cs := [syt_619, syt_618]) (F := 4000) (cs_c syc_619 <| cs_c syc_618 cs_n) (by decide +kernel) (by decide +kernel)
/-- M.write -/
def syt_621 : CO := (nat_lit 294, nat_lit 1, [ee_0, ee_1, ee_342], [sv_19, sv_1], [(nat_lit 180, nat_lit 41, sv_4)], [(nat_lit 1, nat_lit 1, nat_lit 0), (nat_lit 2, nat_lit 180, nat_lit 41)], [(none, [ee_0, ee_1, ee_342], [(nat_lit 180, nat_lit 41, sv_20)], [])], [(nat_lit 180, nat_lit 41, nat_lit 41), (nat_lit 199, nat_lit 14, nat_lit 23)], [], [], [])
set_option maxRecDepth 100000 in
theorem syc_621 : CoOk GG MM syt_621 := chk_okF (cs := []) (F := 4000) (fun _ h => absurd h List.not_mem_nil) (by decide +kernel) (by decide +kernel)
/-- M.writeWord -/
def syt_622 : CO := (nat_lit 297, nat_lit 7, [ee_0, ee_101, ee_334], [sv_19, sv_26], [(nat_lit 180, nat_lit 41, sv_4)], [(nat_lit 1, nat_lit 1, nat_lit 0), (nat_lit 2, nat_lit 180, nat_lit 41)], [(none, [ee_0, ee_101, ee_334], [(nat_lit 180, nat_lit 41, sv_230)], [])], [(nat_lit 180, nat_lit 41, nat_lit 41), (nat_lit 199, nat_lit 9, nat_lit 23)], [], [], [])
set_option maxRecDepth 100000 in
theorem syc_622 : CoOk GG MM syt_622 := chk_okF (cs := [syt_621, syt_620]) (F := 4000) (cs_c syc_621 <| cs_c syc_620 cs_n) (by decide +kernel) (by decide +kernel)
/-- M.writeNext -/
def syt_623 : CO := (nat_lit 295, nat_lit 8, [ee_0, ee_101, ee_333], [sv_19, sv_26], [(nat_lit 180, nat_lit 41, sv_4)], [(nat_lit 1, nat_lit 1, nat_lit 0), (nat_lit 2, nat_lit 180, nat_lit 41)], [(none, [ee_0, ee_101, ee_333], [(nat_lit 180, nat_lit 41, sv_231)], [])], [(nat_lit 180, nat_lit 41, nat_lit 41), (nat_lit 199, nat_lit 8, nat_lit 23)], [], [], [])
set_option maxRecDepth 100000 in
theorem syc_623 : CoOk GG MM syt_623 := chk_okF (cs := [syt_610, syt_622]) (F := 4000) (cs_c syc_610 <| cs_c syc_622 cs_n) (by decide +kernel) (by decide +kernel)
/-- M.write -/
def syt_624 : CO := (nat_lit 294, nat_lit 1, [ee_0, ee_1, ee_343], [sv_19, sv_1], [(nat_lit 180, nat_lit 41, sv_4)], [(nat_lit 1, nat_lit 1, nat_lit 0), (nat_lit 2, nat_lit 180, nat_lit 41)], [(none, [ee_0, ee_1, ee_343], [(nat_lit 180, nat_lit 41, sv_20)], [])], [(nat_lit 180, nat_lit 41, nat_lit 41), (nat_lit 199, nat_lit 15, nat_lit 24)], [], [], [])
set_option maxRecDepth 100000 in
theorem syc_624 : CoOk GG MM syt_624 := chk_okF (cs := []) (F := 4000) (fun _ h => absurd h List.not_mem_nil) (by decide +kernel) (by decide +kernel)
/-- M.write -/
def syt_625 : CO := (nat_lit 294, nat_lit 1, [ee_0, ee_1, ee_344], [sv_19, sv_1], [(nat_lit 180, nat_lit 41, sv_4)], [(nat_lit 1, nat_lit 1, nat_lit 0), (nat_lit 2, nat_lit 180, nat_lit 41)], [(none, [ee_0, ee_1, ee_344], [(nat_lit 180, nat_lit 41, sv_20)], [])], [(nat_lit 180, nat_lit 41, nat_lit 41), (nat_lit 199, nat_lit 16, nat_lit 25)], [], [], [])
set_option maxRecDepth 100000 in
theorem syc_625 : CoOk GG MM syt_625 := chk_okF (cs := []) (F := 4000) (fun _ h => absurd h List.not_mem_nil) (by decide +kernel) (by decide +kernel)
/-- M.writeWord -/
def syt_626 : CO := (nat_lit 297, nat_lit 2, [ee_0, ee_345, ee_344], [sv_19, sv_26], [(nat_lit 180, nat_lit 41, sv_4)], [(nat_lit 1, nat_lit 1, nat_lit 0), (nat_lit 2, nat_lit 180, nat_lit 41)], [(none, [ee_0, ee_345, ee_344], [(nat_lit 180, nat_lit 41, sv_20)], [])], [(nat_lit 180, nat_lit 41, nat_lit 41), (nat_lit 199, nat_lit 16, nat_lit 25)], [], [], [])
set_option maxRecDepth 100000 in
theorem syc_626 : CoOk GG MM syt_626 := chk_okF (cs := [syt_625]) (F := 4000) (cs_c syc_625 cs_n) (by decide +kernel) (by decide +kernel)
/-- M.write -/
def syt_627 : CO := (nat_lit 294, nat_lit 1, [ee_0, ee_1, ee_346], [sv_19, sv_1], [(nat_lit 180, nat_lit 41, sv_4)], [(nat_lit 1, nat_lit 1, nat_lit 0), (nat_lit 2, nat_lit 180, nat_lit 41)], [(none, [ee_0, ee_1, ee_346], [(nat_lit 180, nat_lit 41, sv_20)], [])], [(nat_lit 180, nat_lit 41, nat_lit 41), (nat_lit 199, nat_lit 17, nat_lit 26)], [], [], [])
set_option maxRecDepth 100000 in
theorem syc_627 : CoOk GG MM syt_627 := chk_okF (cs := []) (F := 4000) (fun _ h => absurd h List.not_mem_nil) (by decide +kernel) (by decide +kernel)
/-- M.writeWord -/
def syt_628 : CO := (nat_lit 297, nat_lit 3, [ee_0, ee_347, ee_344], [sv_19, sv_26], [(nat_lit 180, nat_lit 41, sv_4)], [(nat_lit 1, nat_lit 1, nat_lit 0), (nat_lit 2, nat_lit 180, nat_lit 41)], [(none, [ee_0, ee_347, ee_344], [(nat_lit 180, nat_lit 41, sv_21)], [])], [(nat_lit 180, nat_lit 41, nat_lit 41), (nat_lit 199, nat_lit 16, nat_lit 26)], [], [], [])
set_option maxRecDepth 100000 in
theorem syc_628 : CoOk GG MM syt_628 := chk_okF (cs := [syt_627, syt_626]) (F := 4000) (cs_c syc_627 <| cs_c syc_626 cs_n) (by decide +kernel) (by decide +kernel)
/-- M.write -/
def syt_629 : CO := (nat_lit 294, nat_lit 1, [ee_0, ee_1, ee_348], [sv_19, sv_1], [(nat_lit 180, nat_lit 41, sv_4)], [(nat_lit 1, nat_lit 1, nat_lit 0), (nat_lit 2, nat_lit 180, nat_lit 41)], [(none, [ee_0, ee_1, ee_348], [(nat_lit 180, nat_lit 41, sv_20)], [])], [(nat_lit 180, nat_lit 41, nat_lit 41), (nat_lit 199, nat_lit 18, nat_lit 27)], [], [], [])
set_option maxRecDepth 100000 in
theorem syc_629 : CoOk GG MM syt_629 := chk_okF (cs := []) (F := 4000) (fun _ h => absurd h List.not_mem_nil) (by decide +kernel) (by decide +kernel)
/-- M.writeWord -/
def syt_630 : CO := (nat_lit 297, nat_lit 4, [ee_0, ee_102, ee_344], [sv_19, sv_26], [(nat_lit 180, nat_lit 41, sv_4)], [(nat_lit 1, nat_lit 1, nat_lit 0), (nat_lit 2, nat_lit 180, nat_lit 41)], [(none, [ee_0, ee_102, ee_344], [(nat_lit 180, nat_lit 41, sv_22)], [])], [(nat_lit 180, nat_lit 41, nat_lit 41), (nat_lit 199, nat_lit 16, nat_lit 27)], [], [], [])
set_option maxRecDepth 100000 in
theorem syc_630 : CoOk GG MM syt_630 := chk_okF (cs := [syt_629, syt_628]) (F := 4000) (cs_c syc_629 <| cs_c syc_628 cs_n) (by decide +kernel) (by decide +kernel)
/-- M.writeNext -/
def syt_631 : CO := (nat_lit 295, nat_lit 5, [ee_0, ee_102, ee_343], [sv_19, sv_26], [(nat_lit 180, nat_lit 41, sv_4)], [(nat_lit 1, nat_lit 1, nat_lit 0), (nat_lit 2, nat_lit 180, nat_lit 41)], [(none, [ee_0, ee_102, ee_343], [(nat_lit 180, nat_lit 41, sv_23)], [])], [(nat_lit 180, nat_lit 41, nat_lit 41), (nat_lit 199, nat_lit 15, nat_lit 27)], [], [], [])
set_option maxRecDepth 100000 in
theorem syc_631 : CoOk GG MM syt_631 := chk_okF (cs := [syt_624, syt_630]) (F := 4000) (cs_c syc_624 <| cs_c syc_630 cs_n) (by decide +kernel) (by decide +kernel)
/-- M.write -/
def syt_632 : CO := (nat_lit 294, nat_lit 1, [ee_0, ee_1, ee_349], [sv_19, sv_1], [(nat_lit 180, nat_lit 41, sv_4)], [(nat_lit 1, nat_lit 1, nat_lit 0), (nat_lit 2, nat_lit 180, nat_lit 41)], [(none, [ee_0, ee_1, ee_349], [(nat_lit 180, nat_lit 41, sv_20)], [])], [(nat_lit 180, nat_lit 41, nat_lit 41), (nat_lit 199, nat_lit 19, nat_lit 28)], [], [], [])
set_option maxRecDepth 100000 in
theorem syc_632 : CoOk GG MM syt_632 := chk_okF (cs := []) (F := 4000) (fun _ h => absurd h List.not_mem_nil) (by decide +kernel) (by decide +kernel)
/-- M.write -/
def syt_633 : CO := (nat_lit 294, nat_lit 1, [ee_0, ee_1, ee_350], [sv_19, sv_1], [(nat_lit 180, nat_lit 41, sv_4)], [(nat_lit 1, nat_lit 1, nat_lit 0), (nat_lit 2, nat_lit 180, nat_lit 41)], [(none, [ee_0, ee_1, ee_350], [(nat_lit 180, nat_lit 41, sv_20)], [])], [(nat_lit 180, nat_lit 41, nat_lit 41), (nat_lit 199, nat_lit 20, nat_lit 29)], [], [], [])
set_option maxRecDepth 100000 in
theorem syc_633 : CoOk GG MM syt_633 := chk_okF (cs := []) (F := 4000) (fun _ h => absurd h List.not_mem_nil) (by decide +kernel) (by decide +kernel)
/-- M.writeWord -/
def syt_634 : CO := (nat_lit 297, nat_lit 2, [ee_0, ee_351, ee_350], [sv_19, sv_26], [(nat_lit 180, nat_lit 41, sv_4)], [(nat_lit 1, nat_lit 1, nat_lit 0), (nat_lit 2, nat_lit 180, nat_lit 41)], [(none, [ee_0, ee_351, ee_350], [(nat_lit 180, nat_lit 41, sv_20)], [])], [(nat_lit 180, nat_lit 41, nat_lit 41), (nat_lit 199, nat_lit 20, nat_lit 29)], [], [], [])
set_option maxRecDepth 100000 in
theorem syc_634 : CoOk GG MM syt_634 := chk_okF (cs := [syt_633]) (F := 4000) (cs_c syc_633 cs_n) (by decide +kernel) (by decide +kernel)
/-- M.write -/
def syt_635 : CO := (nat_lit 294, nat_lit 1, [ee_0, ee_1, ee_352], [sv_19, sv_1], [(nat_lit 180, nat_lit 41, sv_4)], [(nat_lit 1, nat_lit 1, nat_lit 0), (nat_lit 2, nat_lit 180, nat_lit 41)], [(none, [ee_0, ee_1, ee_352], [(nat_lit 180, nat_lit 41, sv_20)], [])], [(nat_lit 180, nat_lit 41, nat_lit 41), (nat_lit 199, nat_lit 21, nat_lit 30)], [], [], [])
set_option maxRecDepth 100000 in
theorem syc_635 : CoOk GG MM syt_635 := chk_okF (cs := []) (F := 4000) (fun _ h => absurd h List.not_mem_nil) (by decide +kernel) (by decide +kernel)
/-- M.writeWord -/
def syt_636 : CO := (nat_lit 297, nat_lit 3, [ee_0, ee_105, ee_350], [sv_19, sv_26], [(nat_lit 180, nat_lit 41, sv_4)], [(nat_lit 1, nat_lit 1, nat_lit 0), (nat_lit 2, nat_lit 180, nat_lit 41)], [(none, [ee_0, ee_105, ee_350], [(nat_lit 180, nat_lit 41, sv_21)], [])], [(nat_lit 180, nat_lit 41, nat_lit 41), (nat_lit 199, nat_lit 20, nat_lit 30)], [], [], [])
set_option maxRecDepth 100000 in
theorem syc_636 : CoOk GG MM syt_636 := chk_okF (cs := [syt_635, syt_634]) (F := 4000) (cs_c syc_635 <| cs_c syc_634 cs_n) (by decide +kernel) (by decide +kernel)
/-- M.writeNext -/
def syt_637 : CO := (nat_lit 295, nat_lit 4, [ee_0, ee_105, ee_349], [sv_19, sv_26], [(nat_lit 180, nat_lit 41, sv_4)], [(nat_lit 1, nat_lit 1, nat_lit 0), (nat_lit 2, nat_lit 180, nat_lit 41)], [(none, [ee_0, ee_105, ee_349], [(nat_lit 180, nat_lit 41, sv_22)], [])], [(nat_lit 180, nat_lit 41, nat_lit 41), (nat_lit 199, nat_lit 19, nat_lit 30)], [], [], [])
set_option maxRecDepth 100000 in
theorem syc_637 : CoOk GG MM syt_637 := chk_okF (cs := [syt_632, syt_636]) (F := 4000) (cs_c syc_632 <| cs_c syc_636 cs_n) (by decide +kernel) (by decide +kernel)
/-- M.write -/
def syt_638 : CO := (nat_lit 294, nat_lit 1, [ee_0, ee_1, ee_353], [sv_19, sv_1], [(nat_lit 180, nat_lit 41, sv_4)], [(nat_lit 1, nat_lit 1, nat_lit 0), (nat_lit 2, nat_lit 180, nat_lit 41)], [(none, [ee_0, ee_1, ee_353], [(nat_lit 180, nat_lit 41, sv_20)], [])], [(nat_lit 180, nat_lit 41, nat_lit 41), (nat_lit 199, nat_lit 22, nat_lit 31)], [], [], [])
set_option maxRecDepth 100000 in
theorem syc_638 : CoOk GG MM syt_638 := chk_okF (cs := []) (F := 4000) (fun _ h => absurd h List.not_mem_nil) (by decide +kernel) (by decide +kernel)
/-- M.write -/
def syt_639 : CO := (nat_lit 294, nat_lit 1, [ee_0, ee_1, ee_354], [sv_19, sv_1], [(nat_lit 180, nat_lit 41, sv_4)], [(nat_lit 1, nat_lit 1, nat_lit 0), (nat_lit 2, nat_lit 180, nat_lit 41)], [(none, [ee_0, ee_1, ee_354], [(nat_lit 180, nat_lit 41, sv_20)], [])], [(nat_lit 180, nat_lit 41, nat_lit 41), (nat_lit 199, nat_lit 23, nat_lit 32)], [], [], [])
set_option maxRecDepth 100000 in
theorem syc_639 : CoOk GG MM syt_639 := chk_okF (cs := []) (F := 4000) (fun _ h => absurd h List.not_mem_nil) (by decide +kernel) (by decide +kernel)
/-- M.writeWord -/
def syt_640 : CO := (nat_lit 297, nat_lit 2, [ee_0, ee_314, ee_354], [sv_19, sv_26], [(nat_lit 180, nat_lit 41, sv_4)], [(nat_lit 1, nat_lit 1, nat_lit 0), (nat_lit 2, nat_lit 180, nat_lit 41)], [(none, [ee_0, ee_314, ee_354], [(nat_lit 180, nat_lit 41, sv_20)], [])], [(nat_lit 180, nat_lit 41, nat_lit 41), (nat_lit 199, nat_lit 23, nat_lit 32)], [], [], [])
set_option maxRecDepth 100000 in
theorem syc_640 : CoOk GG MM syt_640 := chk_okF (cs := [syt_639]) (F := 4000) (cs_c syc_639 cs_n) (by decide +kernel) (by decide +kernel)
/-- M.write -/
def syt_641 : CO := (nat_lit 294, nat_lit 1, [ee_0, ee_1, ee_355], [sv_19, sv_1], [(nat_lit 180, nat_lit 41, sv_4)], [(nat_lit 1, nat_lit 1, nat_lit 0), (nat_lit 2, nat_lit 180, nat_lit 41)], [(none, [ee_0, ee_1, ee_355], [(nat_lit 180, nat_lit 41, sv_20)], [])], [(nat_lit 180, nat_lit 41, nat_lit 41), (nat_lit 199, nat_lit 24, nat_lit 33)], [], [], [])
set_option maxRecDepth 100000 in
theorem syc_641 : CoOk GG MM syt_641 := chk_okF (cs := []) (F := 4000) (fun _ h => absurd h List.not_mem_nil) (by decide +kernel) (by decide +kernel)
/-- M.writeWord -/
def syt_642 : CO := (nat_lit 297, nat_lit 2, [ee_0, ee_146, ee_354], [sv_19, sv_26], [(nat_lit 180, nat_lit 41, sv_4)], [(nat_lit 1, nat_lit 1, nat_lit 0), (nat_lit 2, nat_lit 180, nat_lit 41)], [(none, [ee_0, ee_146, ee_354], [(nat_lit 180, nat_lit 41, sv_20)], [])], [(nat_lit 180, nat_lit 41, nat_lit 41), (nat_lit 199, nat_lit 23, nat_lit 32)], [], [], [])
set_option maxRecDepth 100000 in
theorem syc_642 : CoOk GG MM syt_642 := chk_okF (cs := [syt_639]) (F := 4000) (cs_c syc_639 cs_n) (by decide +kernel) (by decide +kernel)
/-- M.writeWord -/
def syt_643 : CO := (nat_lit 297, nat_lit 3, [ee_0, ee_315, ee_354], [sv_19, sv_26], [(nat_lit 180, nat_lit 41, sv_4)], [(nat_lit 1, nat_lit 1, nat_lit 0), (nat_lit 2, nat_lit 180, nat_lit 41)], [(none, [ee_0, ee_315, ee_354, ee_356], [(nat_lit 180, nat_lit 41, sv_9)], [(nat_lit 2, nat_lit 180, nat_lit 41)])], [(nat_lit 180, nat_lit 41, nat_lit 41), (nat_lit 199, nat_lit 23, nat_lit 33)], [], [], [])
set_option maxRecDepth 100000 in
theorem syc_643 : CoOk GG MM syt_643 := chk_okF (cs := [syt_639, syt_641, syt_642, syt_640]) (F := 4000) (cs_c syc_639 <| cs_c syc_641 <| cs_c syc_642 <| cs_c syc_640 cs_n) (by decide +kernel) (by decide +kernel)
/-- M.write -/
def syt_644 : CO := (nat_lit 294, nat_lit 1, [ee_0, ee_1, ee_357], [sv_19, sv_1], [(nat_lit 180, nat_lit 41, sv_4)], [(nat_lit 1, nat_lit 1, nat_lit 0), (nat_lit 2, nat_lit 180, nat_lit 41)], [(none, [ee_0, ee_1, ee_357], [(nat_lit 180, nat_lit 41, sv_20)], [])], [(nat_lit 180, nat_lit 41, nat_lit 41), (nat_lit 199, nat_lit 24, nat_lit 34)], [], [], [])
set_option maxRecDepth 100000 in
theorem syc_644 : CoOk GG MM syt_644 := chk_okF (cs := []) (F := 4000) (fun _ h => absurd h List.not_mem_nil) (by decide +kernel) (by decide +kernel)
/-- M.writeWord -/
def syt_645 : CO := (nat_lit 297, nat_lit 4, [ee_0, ee_316, ee_354], [sv_19, sv_26], [(nat_lit 180, nat_lit 41, sv_4)], [(nat_lit 1, nat_lit 1, nat_lit 0), (nat_lit 2, nat_lit 180, nat_lit 41)], [(none, [ee_0, ee_316, ee_354, ee_358], [(nat_lit 180, nat_lit 41, sv_9)], [(nat_lit 2, nat_lit 180, nat_lit 41)])], [(nat_lit 180, nat_lit 41, nat_lit 41), (nat_lit 199, nat_lit 23, nat_lit 34)], [], [], [])
set_option maxRecDepth 100000 in
theorem syc_645 : CoOk GG MM syt_645 := chk_okF (cs := [syt_639, syt_641, syt_644, syt_642, syt_643]) (F := 4000) (cs_c syc_639 <| cs_c syc_641 <| cs_c syc_644 <| cs_c syc_642 <| cs_c syc_643 cs_n) (by decide +kernel) (by decide +kernel)
/-- M.write -/
def syt_646 : CO := (nat_lit 294, nat_lit 1, [ee_0, ee_1, ee_359], [sv_19, sv_1], [(nat_lit 180, nat_lit 41, sv_4)], [(nat_lit 1, nat_lit 1, nat_lit 0), (nat_lit 2, nat_lit 180, nat_lit 41)], [(none, [ee_0, ee_1, ee_359], [(nat_lit 180, nat_lit 41, sv_20)], [])], [(nat_lit 180, nat_lit 41, nat_lit 41), (nat_lit 199, nat_lit 24, nat_lit 35)], [], [], [])
set_option maxRecDepth 100000 in
theorem syc_646 : CoOk GG MM syt_646 := chk_okF (cs := []) (F := 4000) (fun _ h => absurd h List.not_mem_nil) (by decide +kernel) (by decide +kernel)
/-- M.writeWord -/
def syt_647 : CO := (nat_lit 297, nat_lit 5, [ee_0, ee_317, ee_354], [sv_19, sv_26], [(nat_lit 180, nat_lit 41, sv_4)], [(nat_lit 1, nat_lit 1, nat_lit 0), (nat_lit 2, nat_lit 180, nat_lit 41)], [(none, [ee_0, ee_317, ee_354, ee_360], [(nat_lit 180, nat_lit 41, sv_9)], [(nat_lit 2, nat_lit 180, nat_lit 41)])], [(nat_lit 180, nat_lit 41, nat_lit 41), (nat_lit 199, nat_lit 23, nat_lit 35)], [], [], [])
set_option maxRecDepth 100000 in
theorem syc_647 : CoOk GG MM syt_647 := chk_okF (cs := [syt_639, syt_641, syt_646, syt_642, syt_645]) (F := 4000) (cs_c syc_639 <| cs_c syc_641 <| cs_c syc_646 <| cs_c syc_642 <| cs_c syc_645 cs_n) (by decide +kernel) (by decide +kernel)
/-- M.write -/
def syt_648 : CO := (nat_lit 294, nat_lit 1, [ee_0, ee_1, ee_361], [sv_19, sv_1], [(nat_lit 180, nat_lit 41, sv_4)], [(nat_lit 1, nat_lit 1, nat_lit 0), (nat_lit 2, nat_lit 180, nat_lit 41)], [(none, [ee_0, ee_1, ee_361], [(nat_lit 180, nat_lit 41, sv_20)], [])], [(nat_lit 180, nat_lit 41, nat_lit 41), (nat_lit 199, nat_lit 24, nat_lit 36)], [], [], [])
set_option maxRecDepth 100000 in
theorem syc_648 : CoOk GG MM syt_648 := chk_okF (cs := []) (F := 4000) (fun _ h => absurd h List.not_mem_nil) (by decide +kernel) (by decide +kernel)
/-- M.writeWord -/
def syt_649 : CO := (nat_lit 297, nat_lit 6, [ee_0, ee_318, ee_354], [sv_19, sv_26], [(nat_lit 180, nat_lit 41, sv_4)], [(nat_lit 1, nat_lit 1, nat_lit 0), (nat_lit 2, nat_lit 180, nat_lit 41)], [(none, [ee_0, ee_318, ee_354, ee_362], [(nat_lit 180, nat_lit 41, sv_9)], [(nat_lit 2, nat_lit 180, nat_lit 41)])], [(nat_lit 180, nat_lit 41, nat_lit 41), (nat_lit 199, nat_lit 23, nat_lit 36)], [], [], [])
set_option maxRecDepth 100000 in
theorem syc_649 : CoOk GG MM syt_649 := chk_okF (cs := [syt_639, syt_641, syt_648, syt_642, syt_647]) (F := 4000) (cs_c syc_639 <| cs_c syc_641 <| cs_c syc_648 <| cs_c syc_642 <| cs_c syc_647 cs_n) (by decide +kernel) (by decide +kernel)
/-- M.write -/
def syt_650 : CO := (nat_lit 294, nat_lit 1, [ee_0, ee_1, ee_363], [sv_19, sv_1], [(nat_lit 180, nat_lit 41, sv_4)], [(nat_lit 1, nat_lit 1, nat_lit 0), (nat_lit 2, nat_lit 180, nat_lit 41)], [(none, [ee_0, ee_1, ee_363], [(nat_lit 180, nat_lit 41, sv_20)], [])], [(nat_lit 180, nat_lit 41, nat_lit 41), (nat_lit 199, nat_lit 24, nat_lit 37)], [], [], [])
set_option maxRecDepth 100000 in
theorem syc_650 : CoOk GG MM syt_650 := chk_okF (cs := []) (F := 4000) (fun _ h => absurd h List.not_mem_nil) (by decide +kernel) (by decide +kernel)
/-- M.writeWord -/
def syt_651 : CO := (nat_lit 297, nat_lit 7, [ee_0, ee_319, ee_354], [sv_19, sv_26], [(nat_lit 180, nat_lit 41, sv_4)], [(nat_lit 1, nat_lit 1, nat_lit 0), (nat_lit 2, nat_lit 180, nat_lit 41)], [(none, [ee_0, ee_319, ee_354, ee_364], [(nat_lit 180, nat_lit 41, sv_9)], [(nat_lit 2, nat_lit 180, nat_lit 41)])], [(nat_lit 180, nat_lit 41, nat_lit 41), (nat_lit 199, nat_lit 23, nat_lit 37)], [], [], [])
set_option maxRecDepth 100000 in
theorem syc_651 : CoOk GG MM syt_651 := chk_okF (cs := [syt_639, syt_641, syt_650, syt_642, syt_649]) (F := 4000) (cs_c syc_639 <| cs_c syc_641 <| cs_c syc_650 <| cs_c syc_642 <| cs_c syc_649 cs_n) (by decide +kernel) (by decide +kernel)
/-- M.write -/
def syt_652 : CO := (nat_lit 294, nat_lit 1, [ee_0, ee_1, ee_365], [sv_19, sv_1], [(nat_lit 180, nat_lit 41, sv_4)], [(nat_lit 1, nat_lit 1, nat_lit 0), (nat_lit 2, nat_lit 180, nat_lit 41)], [(none, [ee_0, ee_1, ee_365], [(nat_lit 180, nat_lit 41, sv_20)], [])], [(nat_lit 180, nat_lit 41, nat_lit 41), (nat_lit 199, nat_lit 24, nat_lit 38)], [], [], [])
set_option maxRecDepth 100000 in
theorem syc_652 : CoOk GG MM syt_652 := chk_okF (cs := []) (F := 4000) (fun _ h => absurd h List.not_mem_nil) (by decide +kernel) (by decide +kernel)
/-- M.writeWord -/
def syt_653 : CO := (nat_lit 297, nat_lit 8, [ee_0, ee_320, ee_354], [sv_19, sv_26], [(nat_lit 180, nat_lit 41, sv_4)], [(nat_lit 1, nat_lit 1, nat_lit 0), (nat_lit 2, nat_lit 180, nat_lit 41)], [(none, [ee_0, ee_320, ee_354, ee_366], [(nat_lit 180, nat_lit 41, sv_9)], [(nat_lit 2, nat_lit 180, nat_lit 41)])], [(nat_lit 180, nat_lit 41, nat_lit 41), (nat_lit 199, nat_lit 23, nat_lit 38)], [], [], [])
set_option maxRecDepth 100000 in
theorem syc_653 : CoOk GG MM syt_653 := chk_okF (cs := [syt_639, syt_641, syt_652, syt_642, syt_651]) (F := 4000) (cs_c syc_639 <| cs_c syc_641 <| cs_c syc_652 <| cs_c syc_642 <| cs_c syc_651 cs_n) (by decide +kernel) (by decide +kernel)
/-- M.write -/
def syt_654 : CO := (nat_lit 294, nat_lit 1, [ee_0, ee_1, ee_367], [sv_19, sv_1], [(nat_lit 180, nat_lit 41, sv_4)], [(nat_lit 1, nat_lit 1, nat_lit 0), (nat_lit 2, nat_lit 180, nat_lit 41)], [(none, [ee_0, ee_1, ee_367], [(nat_lit 180, nat_lit 41, sv_20)], [])], [(nat_lit 180, nat_lit 41, nat_lit 41), (nat_lit 199, nat_lit 24, nat_lit 39)], [], [], [])
set_option maxRecDepth 100000 in
theorem syc_654 : CoOk GG MM syt_654 := chk_okF (cs := []) (F := 4000) (fun _ h => absurd h List.not_mem_nil) (by decide +kernel) (by decide +kernel)
/-- M.writeWord -/
def syt_655 : CO := (nat_lit 297, nat_lit 9, [ee_0, ee_74, ee_354], [sv_19, sv_26], [(nat_lit 180, nat_lit 41, sv_4)], [(nat_lit 1, nat_lit 1, nat_lit 0), (nat_lit 2, nat_lit 180, nat_lit 41)], [(none, [ee_0, ee_74, ee_354, ee_368], [(nat_lit 180, nat_lit 41, sv_9)], [(nat_lit 2, nat_lit 180, nat_lit 41)])], [(nat_lit 180, nat_lit 41, nat_lit 41), (nat_lit 199, nat_lit 23, nat_lit 39)], [], [], [])
set_option maxRecDepth 100000 in
theorem syc_655 : CoOk GG MM syt_655 := chk_okF (cs := [syt_639, syt_641, syt_654, syt_642, syt_653]) (F := 4000) (cs_c syc_639 <| cs_c syc_641 <| cs_c syc_654 <| cs_c syc_642 <| cs_c syc_653 cs_n) (by decide +kernel) (by decide +kernel)
/-- M.writeNext -/
def syt_656 : CO := (nat_lit 295, nat_lit 10, [ee_0, ee_74, ee_353], [sv_19, sv_26], [(nat_lit 180, nat_lit 41, sv_4)], [(nat_lit 1, nat_lit 1, nat_lit 0), (nat_lit 2, nat_lit 180, nat_lit 41)], [(none, [ee_0, ee_74, ee_353, ee_369], [(nat_lit 180, nat_lit 41, sv_9)], [(nat_lit 2, nat_lit 180, nat_lit 41)])], [(nat_lit 180, nat_lit 41, nat_lit 41), (nat_lit 199, nat_lit 22, nat_lit 39)], [], [], [])
set_option maxRecDepth 100000 in
theorem syc_656 : CoOk GG MM syt_656 := chk_okF (cs := [syt_638, syt_655]) (F := 4000) (cs_c syc_638 <| cs_c syc_655 cs_n) (by decide +kernel) (by decide +kernel)
/-- M.writeWord -/
def syt_657 : CO := (nat_lit 297, nat_lit 2, [ee_0, ee_345, ee_334], [sv_19, sv_26], [(nat_lit 180, nat_lit 41, sv_4)], [(nat_lit 1, nat_lit 1, nat_lit 0), (nat_lit 2, nat_lit 180, nat_lit 41)], [(none, [ee_0, ee_345, ee_334], [(nat_lit 180, nat_lit 41, sv_20)], [])], [(nat_lit 180, nat_lit 41, nat_lit 41), (nat_lit 199, nat_lit 9, nat_lit 18)], [], [], [])
set_option maxRecDepth 100000 in
theorem syc_657 : CoOk GG MM syt_657 := chk_okF (cs := [syt_611]) (F := 4000) (cs_c syc_611 cs_n) (by decide +kernel) (by decide +kernel)
/-- M.writeWord -/
def syt_658 : CO := (nat_lit 297, nat_lit 3, [ee_0, ee_347, ee_334], [sv_19, sv_26], [(nat_lit 180, nat_lit 41, sv_4)], [(nat_lit 1, nat_lit 1, nat_lit 0), (nat_lit 2, nat_lit 180, nat_lit 41)], [(none, [ee_0, ee_347, ee_334], [(nat_lit 180, nat_lit 41, sv_21)], [])], [(nat_lit 180, nat_lit 41, nat_lit 41), (nat_lit 199, nat_lit 9, nat_lit 19)], [], [], [])
set_option maxRecDepth 100000 in
theorem syc_658 : CoOk GG MM syt_658 := chk_okF (cs := [syt_613, syt_657]) (F := 4000) (cs_c syc_613 <| cs_c syc_657 cs_n) (by decide +kernel) (by decide +kernel)
/-- M.writeWord -/
def syt_659 : CO := (nat_lit 297, nat_lit 4, [ee_0, ee_102, ee_334], [sv_19, sv_26], [(nat_lit 180, nat_lit 41, sv_4)], [(nat_lit 1, nat_lit 1, nat_lit 0), (nat_lit 2, nat_lit 180, nat_lit 41)], [(none, [ee_0, ee_102, ee_334], [(nat_lit 180, nat_lit 41, sv_22)], [])], [(nat_lit 180, nat_lit 41, nat_lit 41), (nat_lit 199, nat_lit 9, nat_lit 20)], [], [], [])
set_option maxRecDepth 100000 in
theorem syc_659 : CoOk GG MM syt_659 := chk_okF (cs := [syt_615, syt_658]) (F := 4000) (cs_c syc_615 <| cs_c syc_658 cs_n) (by decide +kernel) (by decide +kernel)
/-- M.writeNext -/
def syt_660 : CO := (nat_lit 295, nat_lit 5, [ee_0, ee_102, ee_333], [sv_19, sv_26], [(nat_lit 180, nat_lit 41, sv_4)], [(nat_lit 1, nat_lit 1, nat_lit 0), (nat_lit 2, nat_lit 180, nat_lit 41)], [(none, [ee_0, ee_102, ee_333], [(nat_lit 180, nat_lit 41, sv_23)], [])], [(nat_lit 180, nat_lit 41, nat_lit 41), (nat_lit 199, nat_lit 8, nat_lit 20)], [], [], [])
set_option maxRecDepth 100000 in
theorem syc_660 : CoOk GG MM syt_660 := chk_okF (cs := [syt_610, syt_659]) (F := 4000) (cs_c syc_610 <| cs_c syc_659 cs_n) (by decide +kernel) (by decide +kernel)
/-- M.writeWord -/
def syt_661 : CO := (nat_lit 297, nat_lit 2, [ee_0, ee_351, ee_340], [sv_19, sv_26], [(nat_lit 180, nat_lit 41, sv_4)], [(nat_lit 1, nat_lit 1, nat_lit 0), (nat_lit 2, nat_lit 180, nat_lit 41)], [(none, [ee_0, ee_351, ee_340], [(nat_lit 180, nat_lit 41, sv_20)], [])], [(nat_lit 180, nat_lit 41, nat_lit 41), (nat_lit 199, nat_lit 13, nat_lit 22)], [], [], [])
set_option maxRecDepth 100000 in
theorem syc_661 : CoOk GG MM syt_661 := chk_okF (cs := [syt_619]) (F := 4000) (cs_c syc_619 cs_n) (by decide +kernel) (by decide +kernel)
/-- M.writeWord -/
def syt_662 : CO := (nat_lit 297, nat_lit 3, [ee_0, ee_105, ee_340], [sv_19, sv_26], [(nat_lit 180, nat_lit 41, sv_4)], [(nat_lit 1, nat_lit 1, nat_lit 0), (nat_lit 2, nat_lit 180, nat_lit 41)], [(none, [ee_0, ee_105, ee_340], [(nat_lit 180, nat_lit 41, sv_21)], [])], [(nat_lit 180, nat_lit 41, nat_lit 41), (nat_lit 199, nat_lit 13, nat_lit 23)], [], [], [])
set_option maxRecDepth 100000 in
theorem syc_662 : CoOk GG MM syt_662 := chk_okF (cs := [syt_621, syt_661]) (F := 4000) (cs_c syc_621 <| cs_c syc_661 cs_n) (by decide +kernel) (by decide +kernel)
/-- M.writeNext -/
def syt_663 : CO := (nat_lit 295, nat_lit 4, [ee_0, ee_105, ee_338], [sv_19, sv_26], [(nat_lit 180, nat_lit 41, sv_4)], [(nat_lit 1, nat_lit 1, nat_lit 0), (nat_lit 2, nat_lit 180, nat_lit 41)], [(none, [ee_0, ee_105, ee_338], [(nat_lit 180, nat_lit 41, sv_22)], [])], [(nat_lit 180, nat_lit 41, nat_lit 41), (nat_lit 199, nat_lit 12, nat_lit 23)], [], [], [])
set_option maxRecDepth 100000 in
theorem syc_663 : CoOk GG MM syt_663 := chk_okF (cs := [syt_617, syt_662]) (F := 4000) (cs_c syc_617 <| cs_c syc_662 cs_n) (by decide +kernel) (by decide +kernel)
/-- M.writeWord -/
def syt_664 : CO := (nat_lit 297, nat_lit 2, [ee_0, ee_314, ee_344], [sv_19, sv_26], [(nat_lit 180, nat_lit 41, sv_4)], [(nat_lit 1, nat_lit 1, nat_lit 0), (nat_lit 2, nat_lit 180, nat_lit 41)], [(none, [ee_0, ee_314, ee_344], [(nat_lit 180, nat_lit 41, sv_20)], [])], [(nat_lit 180, nat_lit 41, nat_lit 41), (nat_lit 199, nat_lit 16, nat_lit 25)], [], [], [])
set_option maxRecDepth 100000 in
theorem syc_664 : CoOk GG MM syt_664 := chk_okF (cs := [syt_625]) (F := 4000) (cs_c syc_625 cs_n) (by decide +kernel) (by decide +kernel)
/-- M.writeWord -/
def syt_665 : CO := (nat_lit 297, nat_lit 2, [ee_0, ee_146, ee_344], [sv_19, sv_26], [(nat_lit 180, nat_lit 41, sv_4)], [(nat_lit 1, nat_lit 1, nat_lit 0), (nat_lit 2, nat_lit 180, nat_lit 41)], [(none, [ee_0, ee_146, ee_344], [(nat_lit 180, nat_lit 41, sv_20)], [])], [(nat_lit 180, nat_lit 41, nat_lit 41), (nat_lit 199, nat_lit 16, nat_lit 25)], [], [], [])
set_option maxRecDepth 100000 in
theorem syc_665 : CoOk GG MM syt_665 := chk_okF (cs := [syt_625]) (F := 4000) (cs_c syc_625 cs_n) (by decide +kernel) (by decide +kernel)
/-- M.writeWord -/
def syt_666 : CO := (nat_lit 297, nat_lit 3, [ee_0, ee_315, ee_344], [sv_19, sv_26], [(nat_lit 180, nat_lit 41, sv_4)], [(nat_lit 1, nat_lit 1, nat_lit 0), (nat_lit 2, nat_lit 180, nat_lit 41)], [(none, [ee_0, ee_315, ee_344, ee_370], [(nat_lit 180, nat_lit 41, sv_9)], [(nat_lit 2, nat_lit 180, nat_lit 41)])], [(nat_lit 180, nat_lit 41, nat_lit 41), (nat_lit 199, nat_lit 16, nat_lit 26)], [], [], [])
set_option maxRecDepth 100000 in
theorem syc_666 : CoOk GG MM syt_666 := chk_okF (cs := [syt_625, syt_627, syt_665, syt_664]) (F := 4000) (cs_c syc_625 <| cs_c syc_627 <| cs_c syc_665 <| cs_c syc_664 cs_n) (by decide +kernel) (by decide +kernel)
/-- M.write -/
def syt_667 : CO := (nat_lit 294, nat_lit 1, [ee_0, ee_1, ee_371], [sv_19, sv_1], [(nat_lit 180, nat_lit 41, sv_4)], [(nat_lit 1, nat_lit 1, nat_lit 0), (nat_lit 2, nat_lit 180, nat_lit 41)], [(none, [ee_0, ee_1, ee_371], [(nat_lit 180, nat_lit 41, sv_20)], [])], [(nat_lit 180, nat_lit 41, nat_lit 41), (nat_lit 199, nat_lit 17, nat_lit 27)], [], [], [])
set_option maxRecDepth 100000 in
theorem syc_667 : CoOk GG MM syt_667 := chk_okF (cs := []) (F := 4000) (fun _ h => absurd h List.not_mem_nil) (by decide +kernel) (by decide +kernel)
/-- M.writeWord -/
def syt_668 : CO := (nat_lit 297, nat_lit 4, [ee_0, ee_316, ee_344], [sv_19, sv_26], [(nat_lit 180, nat_lit 41, sv_4)], [(nat_lit 1, nat_lit 1, nat_lit 0), (nat_lit 2, nat_lit 180, nat_lit 41)], [(none, [ee_0, ee_316, ee_344, ee_372], [(nat_lit 180, nat_lit 41, sv_9)], [(nat_lit 2, nat_lit 180, nat_lit 41)])], [(nat_lit 180, nat_lit 41, nat_lit 41), (nat_lit 199, nat_lit 16, nat_lit 27)], [], [], [])
set_option maxRecDepth 100000 in
theorem syc_668 : CoOk GG MM syt_668 := chk_okF (cs := [syt_625, syt_627, syt_667, syt_665, syt_666]) (F := 4000) (cs_c syc_625 <| cs_c syc_627 <| cs_c syc_667 <| cs_c syc_665 <| cs_c syc_666 cs_n) (by decide +kernel) (by decide +kernel)
/-- M.write -/
def syt_669 : CO := (nat_lit 294, nat_lit 1, [ee_0, ee_1, ee_373], [sv_19, sv_1], [(nat_lit 180, nat_lit 41, sv_4)], [(nat_lit 1, nat_lit 1, nat_lit 0), (nat_lit 2, nat_lit 180, nat_lit 41)], [(none, [ee_0, ee_1, ee_373], [(nat_lit 180, nat_lit 41, sv_20)], [])], [(nat_lit 180, nat_lit 41, nat_lit 41), (nat_lit 199, nat_lit 17, nat_lit 28)], [], [], [])
set_option maxRecDepth 100000 in
theorem syc_669 : CoOk GG MM syt_669 := chk_okF (cs := []) (F := 4000) (fun _ h => absurd h List.not_mem_nil) (by decide +kernel) (by decide +kernel)
/-- M.writeWord -/
def syt_670 : CO := (nat_lit 297, nat_lit 5, [ee_0, ee_317, ee_344], [sv_19, sv_26], [(nat_lit 180, nat_lit 41, sv_4)], [(nat_lit 1, nat_lit 1, nat_lit 0), (nat_lit 2, nat_lit 180, nat_lit 41)], [(none, [ee_0, ee_317, ee_344, ee_374], [(nat_lit 180, nat_lit 41, sv_9)], [(nat_lit 2, nat_lit 180, nat_lit 41)])], [(nat_lit 180, nat_lit 41, nat_lit 41), (nat_lit 199, nat_lit 16, nat_lit 28)], [], [], [])
set_option maxRecDepth 100000 in
theorem syc_670 : CoOk GG MM syt_670 := chk_okF (cs := [syt_625, syt_627, syt_669, syt_665, syt_668]) (F := 4000) (cs_c syc_625 <| cs_c syc_627 <| cs_c syc_669 <| cs_c syc_665 <| cs_c syc_668 cs_n) (by decide +kernel) (by decide +kernel)
/-- M.write -/
def syt_671 : CO := (nat_lit 294, nat_lit 1, [ee_0, ee_1, ee_375], [sv_19, sv_1], [(nat_lit 180, nat_lit 41, sv_4)], [(nat_lit 1, nat_lit 1, nat_lit 0), (nat_lit 2, nat_lit 180, nat_lit 41)], [(none, [ee_0, ee_1, ee_375], [(nat_lit 180, nat_lit 41, sv_20)], [])], [(nat_lit 180, nat_lit 41, nat_lit 41), (nat_lit 199, nat_lit 17, nat_lit 29)], [], [], [])
set_option maxRecDepth 100000 in
theorem syc_671 : CoOk GG MM syt_671 := chk_okF (cs := []) (F := 4000) (fun _ h => absurd h List.not_mem_nil) (by decide +kernel) (by decide +kernel)
/-- M.writeWord -/
def syt_672 : CO := (nat_lit 297, nat_lit 6, [ee_0, ee_318, ee_344], [sv_19, sv_26], [(nat_lit 180, nat_lit 41, sv_4)], [(nat_lit 1, nat_lit 1, nat_lit 0), (nat_lit 2, nat_lit 180, nat_lit 41)], [(none, [ee_0, ee_318, ee_344, ee_376], [(nat_lit 180, nat_lit 41, sv_9)], [(nat_lit 2, nat_lit 180, nat_lit 41)])], [(nat_lit 180, nat_lit 41, nat_lit 41), (nat_lit 199, nat_lit 16, nat_lit 29)], [], [], [])
set_option maxRecDepth 100000 in
theorem syc_672 : CoOk GG MM syt_672 := chk_okF (cs := [syt_625, syt_627, syt_671, syt_665, syt_670]) (F := 4000) (cs_c syc_625 <| cs_c syc_627 <| cs_c syc_671 <| cs_c syc_665 <| cs_c syc_670 cs_n) (by decide +kernel) (by decide +kernel)
/-- M.write -/
def syt_673 : CO := (nat_lit 294, nat_lit 1, [ee_0, ee_1, ee_377], [sv_19, sv_1], [(nat_lit 180, nat_lit 41, sv_4)], [(nat_lit 1, nat_lit 1, nat_lit 0), (nat_lit 2, nat_lit 180, nat_lit 41)], [(none, [ee_0, ee_1, ee_377], [(nat_lit 180, nat_lit 41, sv_20)], [])], [(nat_lit 180, nat_lit 41, nat_lit 41), (nat_lit 199, nat_lit 17, nat_lit 30)], [], [], [])
set_option maxRecDepth 100000 in
theorem syc_673 : CoOk GG MM syt_673 := chk_okF (cs := []) (F := 4000) (fun _ h => absurd h List.not_mem_nil) (by decide +kernel) (by decide +kernel)
/-- M.writeWord -/
def syt_674 : CO := (nat_lit 297, nat_lit 7, [ee_0, ee_319, ee_344], [sv_19, sv_26], [(nat_lit 180, nat_lit 41, sv_4)], [(nat_lit 1, nat_lit 1, nat_lit 0), (nat_lit 2, nat_lit 180, nat_lit 41)], [(none, [ee_0, ee_319, ee_344, ee_378], [(nat_lit 180, nat_lit 41, sv_9)], [(nat_lit 2, nat_lit 180, nat_lit 41)])], [(nat_lit 180, nat_lit 41, nat_lit 41), (nat_lit 199, nat_lit 16, nat_lit 30)], [], [], [])
set_option maxRecDepth 100000 in
theorem syc_674 : CoOk GG MM syt_674 := chk_okF (cs := [syt_625, syt_627, syt_673, syt_665, syt_672]) (F := 4000) (cs_c syc_625 <| cs_c syc_627 <| cs_c syc_673 <| cs_c syc_665 <| cs_c syc_672 cs_n) (by decide +kernel) (by decide +kernel)
/-- M.write -/
def syt_675 : CO := (nat_lit 294, nat_lit 1, [ee_0, ee_1, ee_379], [sv_19, sv_1], [(nat_lit 180, nat_lit 41, sv_4)], [(nat_lit 1, nat_lit 1, nat_lit 0), (nat_lit 2, nat_lit 180, nat_lit 41)], [(none, [ee_0, ee_1, ee_379], [(nat_lit 180, nat_lit 41, sv_20)], [])], [(nat_lit 180, nat_lit 41, nat_lit 41), (nat_lit 199, nat_lit 17, nat_lit 31)], [], [], [])
set_option maxRecDepth 100000 in
theorem syc_675 : CoOk GG MM syt_675 := chk_okF (cs := []) (F := 4000) (fun _ h => absurd h List.not_mem_nil) (by decide +kernel) (by decide +kernel)
/-- M.writeWord -/
def syt_676 : CO := (nat_lit 297, nat_lit 8, [ee_0, ee_320, ee_344], [sv_19, sv_26], [(nat_lit 180, nat_lit 41, sv_4)], [(nat_lit 1, nat_lit 1, nat_lit 0), (nat_lit 2, nat_lit 180, nat_lit 41)], [(none, [ee_0, ee_320, ee_344, ee_380], [(nat_lit 180, nat_lit 41, sv_9)], [(nat_lit 2, nat_lit 180, nat_lit 41)])], [(nat_lit 180, nat_lit 41, nat_lit 41), (nat_lit 199, nat_lit 16, nat_lit 31)], [], [], [])
set_option maxRecDepth 100000 in
theorem syc_676 : CoOk GG MM syt_676 := chk_okF (cs := [syt_625, syt_627, syt_675, syt_665, syt_674]) (F := 4000) (cs_c syc_625 <| cs_c syc_627 <| cs_c syc_675 <| cs_c syc_665 <| cs_c syc_674 cs_n) (by decide +kernel) (by decide +kernel)
/-- M.write -/
def syt_677 : CO := (nat_lit 294, nat_lit 1, [ee_0, ee_1, ee_381], [sv_19, sv_1], [(nat_lit 180, nat_lit 41, sv_4)], [(nat_lit 1, nat_lit 1, nat_lit 0), (nat_lit 2, nat_lit 180, nat_lit 41)], [(none, [ee_0, ee_1, ee_381], [(nat_lit 180, nat_lit 41, sv_20)], [])], [(nat_lit 180, nat_lit 41, nat_lit 41), (nat_lit 199, nat_lit 17, nat_lit 32)], [], [], [])
set_option maxRecDepth 100000 in
theorem syc_677 : CoOk GG MM syt_677 := chk_okF (cs := []) (F := 4000) (fun _ h => absurd h List.not_mem_nil) (by decide +kernel) (by decide +kernel)
/-- M.writeWord -/
def syt_678 : CO := (nat_lit 297, nat_lit 9, [ee_0, ee_74, ee_344], [sv_19, sv_26], [(nat_lit 180, nat_lit 41, sv_4)], [(nat_lit 1, nat_lit 1, nat_lit 0), (nat_lit 2, nat_lit 180, nat_lit 41)], [(none, [ee_0, ee_74, ee_344, ee_382], [(nat_lit 180, nat_lit 41, sv_9)], [(nat_lit 2, nat_lit 180, nat_lit 41)])], [(nat_lit 180, nat_lit 41, nat_lit 41), (nat_lit 199, nat_lit 16, nat_lit 32)], [], [], [])
set_option maxRecDepth 100000 in
theorem syc_678 : CoOk GG MM syt_678 := chk_okF (cs := [syt_625, syt_627, syt_677, syt_665, syt_676]) (F := 4000) (cs_c syc_625 <| cs_c syc_627 <| cs_c syc_677 <| cs_c syc_665 <| cs_c syc_676 cs_n) (by decide +kernel) (by decide +kernel)
/-- M.writeNext -/
def syt_679 : CO := (nat_lit 295, nat_lit 10, [ee_0, ee_74, ee_343], [sv_19, sv_26], [(nat_lit 180, nat_lit 41, sv_4)], [(nat_lit 1, nat_lit 1, nat_lit 0), (nat_lit 2, nat_lit 180, nat_lit 41)], [(none, [ee_0, ee_74, ee_343, ee_383], [(nat_lit 180, nat_lit 41, sv_9)], [(nat_lit 2, nat_lit 180, nat_lit 41)])], [(nat_lit 180, nat_lit 41, nat_lit 41), (nat_lit 199, nat_lit 15, nat_lit 32)], [], [], [])
set_option maxRecDepth 100000 in
theorem syc_679 : CoOk GG MM syt_679 := chk_okF (cs := [syt_624, syt_678]) (F := 4000) (cs_c syc_624 <| cs_c syc_678 cs_n) (by decide +kernel) (by decide +kernel)
/-- M.spelt -/
def syt_680 : CO := (nat_lit 279, nat_lit 1, [ee_0], [sv_71, sv_58, sv_6, sv_6, sv_6, sv_6], [], [], [(some sv_26, [ee_0, ee_384], [], [(nat_lit 1, nat_lit 0, nat_lit 0)])], [], [], [], [])
set_option maxRecDepth 100000 in
theorem syc_680 : CoOk GG MM syt_680 := chk_okF (cs := []) (F := 4000) (fun _ h => absurd h List.not_mem_nil) (by decide +kernel) (by decide +kernel)
/-- M.writeWord -/
def syt_681 : CO := (nat_lit 297, nat_lit 2, [ee_0, ee_178, ee_334], [sv_19, sv_26], [(nat_lit 180, nat_lit 41, sv_4)], [(nat_lit 1, nat_lit 1, nat_lit 0), (nat_lit 2, nat_lit 180, nat_lit 41)], [(none, [ee_0, ee_178, ee_334], [(nat_lit 180, nat_lit 41, sv_20)], [])], [(nat_lit 180, nat_lit 41, nat_lit 41), (nat_lit 199, nat_lit 9, nat_lit 18)], [], [], [])
set_option maxRecDepth 100000 in
theorem syc_681 : CoOk GG MM syt_681 := chk_okF (cs := [syt_611]) (F := 4000) (cs_c syc_611 cs_n) (by decide +kernel) (by decide +kernel)
/-- M.writeWord -/
def syt_682 : CO := (nat_lit 297, nat_lit 3, [ee_0, ee_384, ee_334], [sv_19, sv_26], [(nat_lit 180, nat_lit 41, sv_4)], [(nat_lit 1, nat_lit 1, nat_lit 0), (nat_lit 2, nat_lit 180, nat_lit 41)], [(none, [ee_0, ee_384, ee_334], [(nat_lit 180, nat_lit 41, sv_21)], [])], [(nat_lit 180, nat_lit 41, nat_lit 41), (nat_lit 199, nat_lit 9, nat_lit 19)], [], [], [])
set_option maxRecDepth 100000 in
theorem syc_682 : CoOk GG MM syt_682 := chk_okF (cs := [syt_613, syt_681]) (F := 4000) (cs_c syc_613 <| cs_c syc_681 cs_n) (by decide +kernel) (by decide +kernel)
/-- M.writeNext -/
def syt_683 : CO := (nat_lit 295, nat_lit 4, [ee_0, ee_384, ee_333], [sv_19, sv_26], [(nat_lit 180, nat_lit 41, sv_4)], [(nat_lit 1, nat_lit 1, nat_lit 0), (nat_lit 2, nat_lit 180, nat_lit 41)], [(none, [ee_0, ee_384, ee_333], [(nat_lit 180, nat_lit 41, sv_22)], [])], [(nat_lit 180, nat_lit 41, nat_lit 41), (nat_lit 199, nat_lit 8, nat_lit 19)], [], [], [])
set_option maxRecDepth 100000 in
theorem syc_683 : CoOk GG MM syt_683 := chk_okF (cs := [syt_610, syt_682]) (F := 4000) (cs_c syc_610 <| cs_c syc_682 cs_n) (by decide +kernel) (by decide +kernel)
/-- M.writeWord -/
def syt_684 : CO := (nat_lit 297, nat_lit 2, [ee_0, ee_128, ee_338], [sv_19, sv_26], [(nat_lit 180, nat_lit 41, sv_4)], [(nat_lit 1, nat_lit 1, nat_lit 0), (nat_lit 2, nat_lit 180, nat_lit 41)], [(none, [ee_0, ee_128, ee_338], [(nat_lit 180, nat_lit 41, sv_20)], [])], [(nat_lit 180, nat_lit 41, nat_lit 41), (nat_lit 199, nat_lit 12, nat_lit 21)], [], [], [])
set_option maxRecDepth 100000 in
theorem syc_684 : CoOk GG MM syt_684 := chk_okF (cs := [syt_617]) (F := 4000) (cs_c syc_617 cs_n) (by decide +kernel) (by decide +kernel)
/-- M.writeWord -/
def syt_685 : CO := (nat_lit 297, nat_lit 3, [ee_0, ee_385, ee_338], [sv_19, sv_26], [(nat_lit 180, nat_lit 41, sv_4)], [(nat_lit 1, nat_lit 1, nat_lit 0), (nat_lit 2, nat_lit 180, nat_lit 41)], [(none, [ee_0, ee_385, ee_338], [(nat_lit 180, nat_lit 41, sv_21)], [])], [(nat_lit 180, nat_lit 41, nat_lit 41), (nat_lit 199, nat_lit 12, nat_lit 22)], [], [], [])
set_option maxRecDepth 100000 in
theorem syc_685 : CoOk GG MM syt_685 := chk_okF (cs := [syt_619, syt_684]) (F := 4000) (cs_c syc_619 <| cs_c syc_684 cs_n) (by decide +kernel) (by decide +kernel)
/-- M.writeWord -/
def syt_686 : CO := (nat_lit 297, nat_lit 4, [ee_0, ee_386, ee_338], [sv_19, sv_26], [(nat_lit 180, nat_lit 41, sv_4)], [(nat_lit 1, nat_lit 1, nat_lit 0), (nat_lit 2, nat_lit 180, nat_lit 41)], [(none, [ee_0, ee_386, ee_338], [(nat_lit 180, nat_lit 41, sv_22)], [])], [(nat_lit 180, nat_lit 41, nat_lit 41), (nat_lit 199, nat_lit 12, nat_lit 23)], [], [], [])
set_option maxRecDepth 100000 in
theorem syc_686 : CoOk GG MM syt_686 := chk_okF (cs := [syt_621, syt_685]) (F := 4000) (cs_c syc_621 <| cs_c syc_685 cs_n) (by decide +kernel) (by decide +kernel)
/-- M.writeWord -/
def syt_687 : CO := (nat_lit 297, nat_lit 5, [ee_0, ee_86, ee_338], [sv_19, sv_26], [(nat_lit 180, nat_lit 41, sv_4)], [(nat_lit 1, nat_lit 1, nat_lit 0), (nat_lit 2, nat_lit 180, nat_lit 41)], [(none, [ee_0, ee_86, ee_338], [(nat_lit 180, nat_lit 41, sv_23)], [])], [(nat_lit 180, nat_lit 41, nat_lit 41), (nat_lit 199, nat_lit 12, nat_lit 24)], [], [], [])
set_option maxRecDepth 100000 in
theorem syc_687 : CoOk GG MM syt_687 := chk_okF (cs := [syt_624, syt_686]) (F := 4000) (cs_c syc_624 <| cs_c syc_686 cs_n) (by decide +kernel) (by decide +kernel)
/-- M.writeNext -/
def syt_688 : CO := (nat_lit 295, nat_lit 6, [ee_0, ee_86, ee_188], [sv_19, sv_26], [(nat_lit 180, nat_lit 41, sv_4)], [(nat_lit 1, nat_lit 1, nat_lit 0), (nat_lit 2, nat_lit 180, nat_lit 41)], [(none, [ee_0, ee_86, ee_188], [(nat_lit 180, nat_lit 41, sv_229)], [])], [(nat_lit 180, nat_lit 41, nat_lit 41), (nat_lit 199, nat_lit 11, nat_lit 24)], [], [], [])
set_option maxRecDepth 100000 in
theorem syc_688 : CoOk GG MM syt_688 := chk_okF (cs := [syt_615, syt_687]) (F := 4000) (cs_c syc_615 <| cs_c syc_687 cs_n) (by decide +kernel) (by decide +kernel)
/-- M.writeNumber -/
def syt_689 : CO := (nat_lit 296, nat_lit 2, [ee_0, ee_310, ee_346], [sv_19, sv_1], [(nat_lit 180, nat_lit 41, sv_4)], [(nat_lit 1, nat_lit 1, nat_lit 0), (nat_lit 2, nat_lit 180, nat_lit 41)], [(none, [ee_0, ee_310, ee_346], [(nat_lit 180, nat_lit 41, sv_20)], [])], [(nat_lit 180, nat_lit 41, nat_lit 41), (nat_lit 199, nat_lit 17, nat_lit 26)], [], [], [])
set_option maxRecDepth 100000 in
theorem syc_689 : CoOk GG MM syt_689 := chk_okF (cs := [syt_627]) (F := 4000) (cs_c syc_627 cs_n) (by decide +kernel) (by decide +kernel)
/-- M.writeNumber -/
def syt_690 : CO := (nat_lit 296, nat_lit 3, [ee_0, ee_33, ee_346], [sv_19, sv_1], [(nat_lit 180, nat_lit 41, sv_4)], [(nat_lit 1, nat_lit 1, nat_lit 0), (nat_lit 2, nat_lit 180, nat_lit 41)], [(none, [ee_0, ee_33, ee_346, ee_387], [(nat_lit 180, nat_lit 41, sv_9)], [(nat_lit 2, nat_lit 180, nat_lit 41)])], [(nat_lit 180, nat_lit 41, nat_lit 41), (nat_lit 199, nat_lit 17, nat_lit 27)], [], [], [])
set_option maxRecDepth 100000 in
theorem syc_690 : CoOk GG MM syt_690 := chk_okF (cs := [syt_627, syt_629, syt_689]) (F := 4000) (cs_c syc_627 <| cs_c syc_629 <| cs_c syc_689 cs_n) (by decide +kernel) (by decide +kernel)
/-- M.write -/
def syt_691 : CO := (nat_lit 294, nat_lit 1, [ee_0, ee_1, ee_388], [sv_19, sv_1], [(nat_lit 180, nat_lit 41, sv_4)], [(nat_lit 1, nat_lit 1, nat_lit 0), (nat_lit 2, nat_lit 180, nat_lit 41)], [(none, [ee_0, ee_1, ee_388], [(nat_lit 180, nat_lit 41, sv_20)], [])], [(nat_lit 180, nat_lit 41, nat_lit 41), (nat_lit 199, nat_lit 18, nat_lit 28)], [], [], [])
set_option maxRecDepth 100000 in
theorem syc_691 : CoOk GG MM syt_691 := chk_okF (cs := []) (F := 4000) (fun _ h => absurd h List.not_mem_nil) (by decide +kernel) (by decide +kernel)
/-- M.write -/
def syt_692 : CO := (nat_lit 294, nat_lit 1, [ee_0, ee_1, ee_389], [sv_19, sv_1], [(nat_lit 180, nat_lit 41, sv_4)], [(nat_lit 1, nat_lit 1, nat_lit 0), (nat_lit 2, nat_lit 180, nat_lit 41)], [(none, [ee_0, ee_1, ee_389], [(nat_lit 180, nat_lit 41, sv_20)], [])], [(nat_lit 180, nat_lit 41, nat_lit 41), (nat_lit 199, nat_lit 19, nat_lit 29)], [], [], [])
set_option maxRecDepth 100000 in
theorem syc_692 : CoOk GG MM syt_692 := chk_okF (cs := []) (F := 4000) (fun _ h => absurd h List.not_mem_nil) (by decide +kernel) (by decide +kernel)
/-- M.writeWord -/
def syt_693 : CO := (nat_lit 297, nat_lit 2, [ee_0, ee_79, ee_389], [sv_19, sv_26], [(nat_lit 180, nat_lit 41, sv_4)], [(nat_lit 1, nat_lit 1, nat_lit 0), (nat_lit 2, nat_lit 180, nat_lit 41)], [(none, [ee_0, ee_79, ee_389], [(nat_lit 180, nat_lit 41, sv_20)], [])], [(nat_lit 180, nat_lit 41, nat_lit 41), (nat_lit 199, nat_lit 19, nat_lit 29)], [], [], [])
set_option maxRecDepth 100000 in
theorem syc_693 : CoOk GG MM syt_693 := chk_okF (cs := [syt_692]) (F := 4000) (cs_c syc_692 cs_n) (by decide +kernel) (by decide +kernel)
/-- M.write -/
def syt_694 : CO := (nat_lit 294, nat_lit 1, [ee_0, ee_1, ee_390], [sv_19, sv_1], [(nat_lit 180, nat_lit 41, sv_4)], [(nat_lit 1, nat_lit 1, nat_lit 0), (nat_lit 2, nat_lit 180, nat_lit 41)], [(none, [ee_0, ee_1, ee_390], [(nat_lit 180, nat_lit 41, sv_20)], [])], [(nat_lit 180, nat_lit 41, nat_lit 41), (nat_lit 199, nat_lit 20, nat_lit 30)], [], [], [])
set_option maxRecDepth 100000 in
theorem syc_694 : CoOk GG MM syt_694 := chk_okF (cs := []) (F := 4000) (fun _ h => absurd h List.not_mem_nil) (by decide +kernel) (by decide +kernel)
/-- M.writeWord -/
def syt_695 : CO := (nat_lit 297, nat_lit 3, [ee_0, ee_336, ee_389], [sv_19, sv_26], [(nat_lit 180, nat_lit 41, sv_4)], [(nat_lit 1, nat_lit 1, nat_lit 0), (nat_lit 2, nat_lit 180, nat_lit 41)], [(none, [ee_0, ee_336, ee_389], [(nat_lit 180, nat_lit 41, sv_21)], [])], [(nat_lit 180, nat_lit 41, nat_lit 41), (nat_lit 199, nat_lit 19, nat_lit 30)], [], [], [])
set_option maxRecDepth 100000 in
theorem syc_695 : CoOk GG MM syt_695 := chk_okF (cs := [syt_694, syt_693]) (F := 4000) (cs_c syc_694 <| cs_c syc_693 cs_n) (by decide +kernel) (by decide +kernel)
/-- M.write -/
def syt_696 : CO := (nat_lit 294, nat_lit 1, [ee_0, ee_1, ee_391], [sv_19, sv_1], [(nat_lit 180, nat_lit 41, sv_4)], [(nat_lit 1, nat_lit 1, nat_lit 0), (nat_lit 2, nat_lit 180, nat_lit 41)], [(none, [ee_0, ee_1, ee_391], [(nat_lit 180, nat_lit 41, sv_20)], [])], [(nat_lit 180, nat_lit 41, nat_lit 41), (nat_lit 199, nat_lit 21, nat_lit 31)], [], [], [])
set_option maxRecDepth 100000 in
theorem syc_696 : CoOk GG MM syt_696 := chk_okF (cs := []) (F := 4000) (fun _ h => absurd h List.not_mem_nil) (by decide +kernel) (by decide +kernel)
/-- M.writeWord -/
def syt_697 : CO := (nat_lit 297, nat_lit 4, [ee_0, ee_337, ee_389], [sv_19, sv_26], [(nat_lit 180, nat_lit 41, sv_4)], [(nat_lit 1, nat_lit 1, nat_lit 0), (nat_lit 2, nat_lit 180, nat_lit 41)], [(none, [ee_0, ee_337, ee_389], [(nat_lit 180, nat_lit 41, sv_22)], [])], [(nat_lit 180, nat_lit 41, nat_lit 41), (nat_lit 199, nat_lit 19, nat_lit 31)], [], [], [])
set_option maxRecDepth 100000 in
theorem syc_697 : CoOk GG MM syt_697 := chk_okF (cs := [syt_696, syt_695]) (F := 4000) (cs_c syc_696 <| cs_c syc_695 cs_n) (by decide +kernel) (by decide +kernel)
/-- M.write -/
def syt_698 : CO := (nat_lit 294, nat_lit 1, [ee_0, ee_1, ee_392], [sv_19, sv_1], [(nat_lit 180, nat_lit 41, sv_4)], [(nat_lit 1, nat_lit 1, nat_lit 0), (nat_lit 2, nat_lit 180, nat_lit 41)], [(none, [ee_0, ee_1, ee_392], [(nat_lit 180, nat_lit 41, sv_20)], [])], [(nat_lit 180, nat_lit 41, nat_lit 41), (nat_lit 199, nat_lit 22, nat_lit 32)], [], [], [])
set_option maxRecDepth 100000 in
theorem syc_698 : CoOk GG MM syt_698 := chk_okF (cs := []) (F := 4000) (fun _ h => absurd h List.not_mem_nil) (by decide +kernel) (by decide +kernel)
/-- M.writeWord -/
def syt_699 : CO := (nat_lit 297, nat_lit 5, [ee_0, ee_339, ee_389], [sv_19, sv_26], [(nat_lit 180, nat_lit 41, sv_4)], [(nat_lit 1, nat_lit 1, nat_lit 0), (nat_lit 2, nat_lit 180, nat_lit 41)], [(none, [ee_0, ee_339, ee_389], [(nat_lit 180, nat_lit 41, sv_23)], [])], [(nat_lit 180, nat_lit 41, nat_lit 41), (nat_lit 199, nat_lit 19, nat_lit 32)], [], [], [])
set_option maxRecDepth 100000 in
theorem syc_699 : CoOk GG MM syt_699 := chk_okF (cs := [syt_698, syt_697]) (F := 4000) (cs_c syc_698 <| cs_c syc_697 cs_n) (by decide +kernel) (by decide +kernel)
/-- M.write -/
def syt_700 : CO := (nat_lit 294, nat_lit 1, [ee_0, ee_1, ee_393], [sv_19, sv_1], [(nat_lit 180, nat_lit 41, sv_4)], [(nat_lit 1, nat_lit 1, nat_lit 0), (nat_lit 2, nat_lit 180, nat_lit 41)], [(none, [ee_0, ee_1, ee_393], [(nat_lit 180, nat_lit 41, sv_20)], [])], [(nat_lit 180, nat_lit 41, nat_lit 41), (nat_lit 199, nat_lit 23, nat_lit 33)], [], [], [])
set_option maxRecDepth 100000 in
theorem syc_700 : CoOk GG MM syt_700 := chk_okF (cs := []) (F := 4000) (fun _ h => absurd h List.not_mem_nil) (by decide +kernel) (by decide +kernel)
/-- M.writeWord -/
def syt_701 : CO := (nat_lit 297, nat_lit 6, [ee_0, ee_341, ee_389], [sv_19, sv_26], [(nat_lit 180, nat_lit 41, sv_4)], [(nat_lit 1, nat_lit 1, nat_lit 0), (nat_lit 2, nat_lit 180, nat_lit 41)], [(none, [ee_0, ee_341, ee_389], [(nat_lit 180, nat_lit 41, sv_229)], [])], [(nat_lit 180, nat_lit 41, nat_lit 41), (nat_lit 199, nat_lit 19, nat_lit 33)], [], [], [])
set_option maxRecDepth 100000 in
theorem syc_701 : CoOk GG MM syt_701 := chk_okF (cs := [syt_700, syt_699]) (F := 4000) (cs_c syc_700 <| cs_c syc_699 cs_n) (by decide +kernel) (by decide +kernel)
/-- M.writeWord -/
def syt_702 : CO := (nat_lit 297, nat_lit 7, [ee_0, ee_101, ee_389], [sv_19, sv_26], [(nat_lit 180, nat_lit 41, sv_4)], [(nat_lit 1, nat_lit 1, nat_lit 0), (nat_lit 2, nat_lit 180, nat_lit 41)], [(none, [ee_0, ee_101, ee_389], [(nat_lit 180, nat_lit 41, sv_230)], [])], [(nat_lit 180, nat_lit 41, nat_lit 41), (nat_lit 199, nat_lit 19, nat_lit 34)], [], [], [])
set_option maxRecDepth 100000 in
theorem syc_702 : CoOk GG MM syt_702 := chk_okF (cs := [syt_644, syt_701]) (F := 4000) (cs_c syc_644 <| cs_c syc_701 cs_n) (by decide +kernel) (by decide +kernel)
/-- M.writeNext -/
def syt_703 : CO := (nat_lit 295, nat_lit 8, [ee_0, ee_101, ee_388], [sv_19, sv_26], [(nat_lit 180, nat_lit 41, sv_4)], [(nat_lit 1, nat_lit 1, nat_lit 0), (nat_lit 2, nat_lit 180, nat_lit 41)], [(none, [ee_0, ee_101, ee_388], [(nat_lit 180, nat_lit 41, sv_231)], [])], [(nat_lit 180, nat_lit 41, nat_lit 41), (nat_lit 199, nat_lit 18, nat_lit 34)], [], [], [])
set_option maxRecDepth 100000 in
theorem syc_703 : CoOk GG MM syt_703 := chk_okF (cs := [syt_691, syt_702]) (F := 4000) (cs_c syc_691 <| cs_c syc_702 cs_n) (by decide +kernel) (by decide +kernel)
/-- M.write -/
def syt_704 : CO := (nat_lit 294, nat_lit 1, [ee_0, ee_1, ee_394], [sv_19, sv_1], [(nat_lit 180, nat_lit 41, sv_4)], [(nat_lit 1, nat_lit 1, nat_lit 0), (nat_lit 2, nat_lit 180, nat_lit 41)], [(none, [ee_0, ee_1, ee_394], [(nat_lit 180, nat_lit 41, sv_20)], [])], [(nat_lit 180, nat_lit 41, nat_lit 41), (nat_lit 199, nat_lit 25, nat_lit 35)], [], [], [])
set_option maxRecDepth 100000 in
theorem syc_704 : CoOk GG MM syt_704 := chk_okF (cs := []) (F := 4000) (fun _ h => absurd h List.not_mem_nil) (by decide +kernel) (by decide +kernel)
/-- M.write -/
def syt_705 : CO := (nat_lit 294, nat_lit 1, [ee_0, ee_1, ee_395], [sv_19, sv_1], [(nat_lit 180, nat_lit 41, sv_4)], [(nat_lit 1, nat_lit 1, nat_lit 0), (nat_lit 2, nat_lit 180, nat_lit 41)], [(none, [ee_0, ee_1, ee_395], [(nat_lit 180, nat_lit 41, sv_20)], [])], [(nat_lit 180, nat_lit 41, nat_lit 41), (nat_lit 199, nat_lit 26, nat_lit 36)], [], [], [])
set_option maxRecDepth 100000 in
theorem syc_705 : CoOk GG MM syt_705 := chk_okF (cs := []) (F := 4000) (fun _ h => absurd h List.not_mem_nil) (by decide +kernel) (by decide +kernel)
/-- M.writeWord -/
def syt_706 : CO := (nat_lit 297, nat_lit 2, [ee_0, ee_345, ee_395], [sv_19, sv_26], [(nat_lit 180, nat_lit 41, sv_4)], [(nat_lit 1, nat_lit 1, nat_lit 0), (nat_lit 2, nat_lit 180, nat_lit 41)], [(none, [ee_0, ee_345, ee_395], [(nat_lit 180, nat_lit 41, sv_20)], [])], [(nat_lit 180, nat_lit 41, nat_lit 41), (nat_lit 199, nat_lit 26, nat_lit 36)], [], [], [])
set_option maxRecDepth 100000 in
theorem syc_706 : CoOk GG MM syt_706 := chk_okF (cs := [syt_705]) (F := 4000) (cs_c syc_705 cs_n) (by decide +kernel) (by decide +kernel)
/-- M.write -/
def syt_707 : CO := (nat_lit 294, nat_lit 1, [ee_0, ee_1, ee_396], [sv_19, sv_1], [(nat_lit 180, nat_lit 41, sv_4)], [(nat_lit 1, nat_lit 1, nat_lit 0), (nat_lit 2, nat_lit 180, nat_lit 41)], [(none, [ee_0, ee_1, ee_396], [(nat_lit 180, nat_lit 41, sv_20)], [])], [(nat_lit 180, nat_lit 41, nat_lit 41), (nat_lit 199, nat_lit 27, nat_lit 37)], [], [], [])
set_option maxRecDepth 100000 in
theorem syc_707 : CoOk GG MM syt_707 := chk_okF (cs := []) (F := 4000) (fun _ h => absurd h List.not_mem_nil) (by decide +kernel) (by decide +kernel)
/-- M.writeWord -/
def syt_708 : CO := (nat_lit 297, nat_lit 3, [ee_0, ee_347, ee_395], [sv_19, sv_26], [(nat_lit 180, nat_lit 41, sv_4)], [(nat_lit 1, nat_lit 1, nat_lit 0), (nat_lit 2, nat_lit 180, nat_lit 41)], [(none, [ee_0, ee_347, ee_395], [(nat_lit 180, nat_lit 41, sv_21)], [])], [(nat_lit 180, nat_lit 41, nat_lit 41), (nat_lit 199, nat_lit 26, nat_lit 37)], [], [], [])
set_option maxRecDepth 100000 in
theorem syc_708 : CoOk GG MM syt_708 := chk_okF (cs := [syt_707, syt_706]) (F := 4000) (cs_c syc_707 <| cs_c syc_706 cs_n) (by decide +kernel) (by decide +kernel)
/-- M.write -/
def syt_709 : CO := (nat_lit 294, nat_lit 1, [ee_0, ee_1, ee_397], [sv_19, sv_1], [(nat_lit 180, nat_lit 41, sv_4)], [(nat_lit 1, nat_lit 1, nat_lit 0), (nat_lit 2, nat_lit 180, nat_lit 41)], [(none, [ee_0, ee_1, ee_397], [(nat_lit 180, nat_lit 41, sv_20)], [])], [(nat_lit 180, nat_lit 41, nat_lit 41), (nat_lit 199, nat_lit 28, nat_lit 38)], [], [], [])
set_option maxRecDepth 100000 in
theorem syc_709 : CoOk GG MM syt_709 := chk_okF (cs := []) (F := 4000) (fun _ h => absurd h List.not_mem_nil) (by decide +kernel) (by decide +kernel)
/-- M.writeWord -/
def syt_710 : CO := (nat_lit 297, nat_lit 4, [ee_0, ee_102, ee_395], [sv_19, sv_26], [(nat_lit 180, nat_lit 41, sv_4)], [(nat_lit 1, nat_lit 1, nat_lit 0), (nat_lit 2, nat_lit 180, nat_lit 41)], [(none, [ee_0, ee_102, ee_395], [(nat_lit 180, nat_lit 41, sv_22)], [])], [(nat_lit 180, nat_lit 41, nat_lit 41), (nat_lit 199, nat_lit 26, nat_lit 38)], [], [], [])
set_option maxRecDepth 100000 in
theorem syc_710 : CoOk GG MM syt_710 := chk_okF (cs := [syt_709, syt_708]) (F := 4000) (cs_c syc_709 <| cs_c syc_708 cs_n) (by decide +kernel) (by decide +kernel)
/-- M.writeNext -/
def syt_711 : CO := (nat_lit 295, nat_lit 5, [ee_0, ee_102, ee_394], [sv_19, sv_26], [(nat_lit 180, nat_lit 41, sv_4)], [(nat_lit 1, nat_lit 1, nat_lit 0), (nat_lit 2, nat_lit 180, nat_lit 41)], [(none, [ee_0, ee_102, ee_394], [(nat_lit 180, nat_lit 41, sv_23)], [])], [(nat_lit 180, nat_lit 41, nat_lit 41), (nat_lit 199, nat_lit 25, nat_lit 38)], [], [], [])
set_option maxRecDepth 100000 in
theorem syc_711 : CoOk GG MM syt_711 := chk_okF (cs := [syt_704, syt_710]) (F := 4000) (cs_c syc_704 <| cs_c syc_710 cs_n) (by decide +kernel) (by decide +kernel)
/-- M.write -/
def syt_712 : CO := (nat_lit 294, nat_lit 1, [ee_0, ee_1, ee_398], [sv_19, sv_1], [(nat_lit 180, nat_lit 41, sv_4)], [(nat_lit 1, nat_lit 1, nat_lit 0), (nat_lit 2, nat_lit 180, nat_lit 41)], [(none, [ee_0, ee_1, ee_398], [(nat_lit 180, nat_lit 41, sv_20)], [])], [(nat_lit 180, nat_lit 41, nat_lit 41), (nat_lit 199, nat_lit 29, nat_lit 39)], [], [], [])
set_option maxRecDepth 100000 in
theorem syc_712 : CoOk GG MM syt_712 := chk_okF (cs := []) (F := 4000) (fun _ h => absurd h List.not_mem_nil) (by decide +kernel) (by decide +kernel)
/-- M.write -/
def syt_713 : CO := (nat_lit 294, nat_lit 1, [ee_0, ee_1, ee_399], [sv_19, sv_1], [(nat_lit 180, nat_lit 41, sv_4)], [(nat_lit 1, nat_lit 1, nat_lit 0), (nat_lit 2, nat_lit 180, nat_lit 41)], [(none, [ee_0, ee_1, ee_399], [(nat_lit 180, nat_lit 41, sv_20)], [])], [(nat_lit 180, nat_lit 41, nat_lit 41), (nat_lit 199, nat_lit 30, nat_lit 40)], [], [], [])
set_option maxRecDepth 100000 in
theorem syc_713 : CoOk GG MM syt_713 := chk_okF (cs := []) (F := 4000) (fun _ h => absurd h List.not_mem_nil) (by decide +kernel) (by decide +kernel)
/-- M.writeWord -/
def syt_714 : CO := (nat_lit 297, nat_lit 2, [ee_0, ee_351, ee_399], [sv_19, sv_26], [(nat_lit 180, nat_lit 41, sv_4)], [(nat_lit 1, nat_lit 1, nat_lit 0), (nat_lit 2, nat_lit 180, nat_lit 41)], [(none, [ee_0, ee_351, ee_399], [(nat_lit 180, nat_lit 41, sv_20)], [])], [(nat_lit 180, nat_lit 41, nat_lit 41), (nat_lit 199, nat_lit 30, nat_lit 40)], [], [], [])
set_option maxRecDepth 100000 in
theorem syc_714 : CoOk GG MM syt_714 := chk_okF (cs := [syt_713]) (F := 4000) (cs_c syc_713 cs_n) (by decide +kernel) (by decide +kernel)
/-- M.write -/
def syt_715 : CO := (nat_lit 294, nat_lit 1, [ee_0, ee_1, ee_400], [sv_19, sv_1], [(nat_lit 180, nat_lit 41, sv_4)], [(nat_lit 1, nat_lit 1, nat_lit 0), (nat_lit 2, nat_lit 180, nat_lit 41)], [(none, [ee_0, ee_1, ee_400], [(nat_lit 180, nat_lit 41, sv_20)], [])], [(nat_lit 180, nat_lit 41, nat_lit 41), (nat_lit 199, nat_lit 31, nat_lit 41)], [], [], [])
set_option maxRecDepth 100000 in
theorem syc_715 : CoOk GG MM syt_715 := chk_okF (cs := []) (F := 4000) (fun _ h => absurd h List.not_mem_nil) (by decide +kernel) (by decide +kernel)
/-- M.writeWord -/
def syt_716 : CO := (nat_lit 297, nat_lit 3, [ee_0, ee_105, ee_399], [sv_19, sv_26], [(nat_lit 180, nat_lit 41, sv_4)], [(nat_lit 1, nat_lit 1, nat_lit 0), (nat_lit 2, nat_lit 180, nat_lit 41)], [(none, [ee_0, ee_105, ee_399], [(nat_lit 180, nat_lit 41, sv_21)], [])], [(nat_lit 180, nat_lit 41, nat_lit 41), (nat_lit 199, nat_lit 30, nat_lit 41)], [], [], [])
set_option maxRecDepth 100000 in
theorem syc_716 : CoOk GG MM syt_716 := chk_okF (cs := [syt_715, syt_714]) (F := 4000) (cs_c syc_715 <| cs_c syc_714 cs_n) (by decide +kernel) (by decide +kernel)
/-- M.writeNext -/
def syt_717 : CO := (nat_lit 295, nat_lit 4, [ee_0, ee_105, ee_398], [sv_19, sv_26], [(nat_lit 180, nat_lit 41, sv_4)], [(nat_lit 1, nat_lit 1, nat_lit 0), (nat_lit 2, nat_lit 180, nat_lit 41)], [(none, [ee_0, ee_105, ee_398], [(nat_lit 180, nat_lit 41, sv_22)], [])], [(nat_lit 180, nat_lit 41, nat_lit 41), (nat_lit 199, nat_lit 29, nat_lit 41)], [], [], [])
set_option maxRecDepth 100000 in
theorem syc_717 : CoOk GG MM syt_717 := chk_okF (cs := [syt_712, syt_716]) (F := 4000) (cs_c syc_712 <| cs_c syc_716 cs_n) (by decide +kernel) (by decide +kernel)
/-- M.write -/
def syt_718 : CO := (nat_lit 294, nat_lit 1, [ee_0, ee_1, ee_401], [sv_19, sv_1], [(nat_lit 180, nat_lit 41, sv_4)], [(nat_lit 1, nat_lit 1, nat_lit 0), (nat_lit 2, nat_lit 180, nat_lit 41)], [(none, [ee_0, ee_1, ee_401], [(nat_lit 180, nat_lit 41, sv_20)], [])], [(nat_lit 180, nat_lit 41, nat_lit 41), (nat_lit 199, nat_lit 32, nat_lit 42)], [], [], [])
set_option maxRecDepth 100000 in
theorem syc_718 : CoOk GG MM syt_718 := chk_okF (cs := []) (F := 4000) (fun _ h => absurd h List.not_mem_nil) (by decide +kernel) (by decide +kernel)
/-- M.write -/
def syt_719 : CO := (nat_lit 294, nat_lit 1, [ee_0, ee_1, ee_402], [sv_19, sv_1], [(nat_lit 180, nat_lit 41, sv_4)], [(nat_lit 1, nat_lit 1, nat_lit 0), (nat_lit 2, nat_lit 180, nat_lit 41)], [(none, [ee_0, ee_1, ee_402], [(nat_lit 180, nat_lit 41, sv_20)], [])], [(nat_lit 180, nat_lit 41, nat_lit 41), (nat_lit 199, nat_lit 33, nat_lit 43)], [], [], [])
set_option maxRecDepth 100000 in
theorem syc_719 : CoOk GG MM syt_719 := chk_okF (cs := []) (F := 4000) (fun _ h => absurd h List.not_mem_nil) (by decide +kernel) (by decide +kernel)
/-- M.writeWord -/
def syt_720 : CO := (nat_lit 297, nat_lit 2, [ee_0, ee_314, ee_402], [sv_19, sv_26], [(nat_lit 180, nat_lit 41, sv_4)], [(nat_lit 1, nat_lit 1, nat_lit 0), (nat_lit 2, nat_lit 180, nat_lit 41)], [(none, [ee_0, ee_314, ee_402], [(nat_lit 180, nat_lit 41, sv_20)], [])], [(nat_lit 180, nat_lit 41, nat_lit 41), (nat_lit 199, nat_lit 33, nat_lit 43)], [], [], [])
set_option maxRecDepth 100000 in
theorem syc_720 : CoOk GG MM syt_720 := chk_okF (cs := [syt_719]) (F := 4000) (cs_c syc_719 cs_n) (by decide +kernel) (by decide +kernel)
/-- M.write -/
def syt_721 : CO := (nat_lit 294, nat_lit 1, [ee_0, ee_1, ee_403], [sv_19, sv_1], [(nat_lit 180, nat_lit 41, sv_4)], [(nat_lit 1, nat_lit 1, nat_lit 0), (nat_lit 2, nat_lit 180, nat_lit 41)], [(none, [ee_0, ee_1, ee_403], [(nat_lit 180, nat_lit 41, sv_20)], [])], [(nat_lit 180, nat_lit 41, nat_lit 41), (nat_lit 199, nat_lit 34, nat_lit 44)], [], [], [])
set_option maxRecDepth 100000 in
theorem syc_721 : CoOk GG MM syt_721 := chk_okF (cs := []) (F := 4000) (fun _ h => absurd h List.not_mem_nil) (by decide +kernel) (by decide +kernel)
/-- M.writeWord -/
def syt_722 : CO := (nat_lit 297, nat_lit 2, [ee_0, ee_146, ee_402], [sv_19, sv_26], [(nat_lit 180, nat_lit 41, sv_4)], [(nat_lit 1, nat_lit 1, nat_lit 0), (nat_lit 2, nat_lit 180, nat_lit 41)], [(none, [ee_0, ee_146, ee_402], [(nat_lit 180, nat_lit 41, sv_20)], [])], [(nat_lit 180, nat_lit 41, nat_lit 41), (nat_lit 199, nat_lit 33, nat_lit 43)], [], [], [])
set_option maxRecDepth 100000 in
theorem syc_722 : CoOk GG MM syt_722 := chk_okF (cs := [syt_719]) (F := 4000) (cs_c syc_719 cs_n) (by decide +kernel) (by decide +kernel)
/-- M.writeWord -/
def syt_723 : CO := (nat_lit 297, nat_lit 3, [ee_0, ee_315, ee_402], [sv_19, sv_26], [(nat_lit 180, nat_lit 41, sv_4)], [(nat_lit 1, nat_lit 1, nat_lit 0), (nat_lit 2, nat_lit 180, nat_lit 41)], [(none, [ee_0, ee_315, ee_402, ee_404], [(nat_lit 180, nat_lit 41, sv_9)], [(nat_lit 2, nat_lit 180, nat_lit 41)])], [(nat_lit 180, nat_lit 41, nat_lit 41), (nat_lit 199, nat_lit 33, nat_lit 44)], [], [], [])
set_option maxRecDepth 100000 in
theorem syc_723 : CoOk GG MM syt_723 := chk_okF (cs := [syt_719, syt_721, syt_722, syt_720]) (F := 4000) (cs_c syc_719 <| cs_c syc_721 <| cs_c syc_722 <| cs_c syc_720 cs_n) (by decide +kernel) (by decide +kernel)
/-- M.write -/
def syt_724 : CO := (nat_lit 294, nat_lit 1, [ee_0, ee_1, ee_405], [sv_19, sv_1], [(nat_lit 180, nat_lit 41, sv_4)], [(nat_lit 1, nat_lit 1, nat_lit 0), (nat_lit 2, nat_lit 180, nat_lit 41)], [(none, [ee_0, ee_1, ee_405], [(nat_lit 180, nat_lit 41, sv_20)], [])], [(nat_lit 180, nat_lit 41, nat_lit 41), (nat_lit 199, nat_lit 34, nat_lit 45)], [], [], [])
set_option maxRecDepth 100000 in
theorem syc_724 : CoOk GG MM syt_724 := chk_okF (cs := []) (F := 4000) (fun _ h => absurd h List.not_mem_nil) (by decide +kernel) (by decide +kernel)
/-- M.writeWord -/
def syt_725 : CO := (nat_lit 297, nat_lit 4, [ee_0, ee_316, ee_402], [sv_19, sv_26], [(nat_lit 180, nat_lit 41, sv_4)], [(nat_lit 1, nat_lit 1, nat_lit 0), (nat_lit 2, nat_lit 180, nat_lit 41)], [(none, [ee_0, ee_316, ee_402, ee_406], [(nat_lit 180, nat_lit 41, sv_9)], [(nat_lit 2, nat_lit 180, nat_lit 41)])], [(nat_lit 180, nat_lit 41, nat_lit 41), (nat_lit 199, nat_lit 33, nat_lit 45)], [], [], [])
set_option maxRecDepth 100000 in
theorem syc_725 : CoOk GG MM syt_725 := chk_okF (cs := [syt_719, syt_721, syt_724, syt_722, syt_723]) (F := 4000) (cs_c syc_719 <| cs_c syc_721 <| cs_c syc_724 <| cs_c syc_722 <| cs_c syc_723 cs_n) (by decide +kernel) (by decide +kernel)
/-- M.write -/
def syt_726 : CO := (nat_lit 294, nat_lit 1, [ee_0, ee_1, ee_407], [sv_19, sv_1], [(nat_lit 180, nat_lit 41, sv_4)], [(nat_lit 1, nat_lit 1, nat_lit 0), (nat_lit 2, nat_lit 180, nat_lit 41)], [(none, [ee_0, ee_1, ee_407], [(nat_lit 180, nat_lit 41, sv_20)], [])], [(nat_lit 180, nat_lit 41, nat_lit 41), (nat_lit 199, nat_lit 34, nat_lit 46)], [], [], [])
set_option maxRecDepth 100000 in
theorem syc_726 : CoOk GG MM syt_726 := chk_okF (cs := []) (F := 4000) (fun _ h => absurd h List.not_mem_nil) (by decide +kernel) (by decide +kernel)
/-- M.writeWord -/
def syt_727 : CO := (nat_lit 297, nat_lit 5, [ee_0, ee_317, ee_402], [sv_19, sv_26], [(nat_lit 180, nat_lit 41, sv_4)], [(nat_lit 1, nat_lit 1, nat_lit 0), (nat_lit 2, nat_lit 180, nat_lit 41)], [(none, [ee_0, ee_317, ee_402, ee_408], [(nat_lit 180, nat_lit 41, sv_9)], [(nat_lit 2, nat_lit 180, nat_lit 41)])], [(nat_lit 180, nat_lit 41, nat_lit 41), (nat_lit 199, nat_lit 33, nat_lit 46)], [], [], [])
set_option maxRecDepth 100000 in
theorem syc_727 : CoOk GG MM syt_727 := chk_okF (cs := [syt_719, syt_721, syt_726, syt_722, syt_725]) (F := 4000) (cs_c syc_719 <| cs_c syc_721 <| cs_c syc_726 <| cs_c syc_722 <| cs_c syc_725 cs_n) (by decide +kernel) (by decide +kernel)
/-- M.write -/
def syt_728 : CO := (nat_lit 294, nat_lit 1, [ee_0, ee_1, ee_409], [sv_19, sv_1], [(nat_lit 180, nat_lit 41, sv_4)], [(nat_lit 1, nat_lit 1, nat_lit 0), (nat_lit 2, nat_lit 180, nat_lit 41)], [(none, [ee_0, ee_1, ee_409], [(nat_lit 180, nat_lit 41, sv_20)], [])], [(nat_lit 180, nat_lit 41, nat_lit 41), (nat_lit 199, nat_lit 34, nat_lit 47)], [], [], [])
set_option maxRecDepth 100000 in
theorem syc_728 : CoOk GG MM syt_728 := chk_okF (cs := []) (F := 4000) (fun _ h => absurd h List.not_mem_nil) (by decide +kernel) (by decide +kernel)
/-- M.writeWord -/
def syt_729 : CO := (nat_lit 297, nat_lit 6, [ee_0, ee_318, ee_402], [sv_19, sv_26], [(nat_lit 180, nat_lit 41, sv_4)], [(nat_lit 1, nat_lit 1, nat_lit 0), (nat_lit 2, nat_lit 180, nat_lit 41)], [(none, [ee_0, ee_318, ee_402, ee_410], [(nat_lit 180, nat_lit 41, sv_9)], [(nat_lit 2, nat_lit 180, nat_lit 41)])], [(nat_lit 180, nat_lit 41, nat_lit 41), (nat_lit 199, nat_lit 33, nat_lit 47)], [], [], [])
set_option maxRecDepth 100000 in
theorem syc_729 : CoOk GG MM syt_729 := chk_okF (cs := [syt_719, syt_721, syt_728, syt_722, syt_727]) (F := 4000) (cs_c syc_719 <| cs_c syc_721 <| cs_c syc_728 <| cs_c syc_722 <| cs_c syc_727 cs_n) (by decide +kernel) (by decide +kernel)
/-- M.write -/
def syt_730 : CO := (nat_lit 294, nat_lit 1, [ee_0, ee_1, ee_411], [sv_19, sv_1], [(nat_lit 180, nat_lit 41, sv_4)], [(nat_lit 1, nat_lit 1, nat_lit 0), (nat_lit 2, nat_lit 180, nat_lit 41)], [(none, [ee_0, ee_1, ee_411], [(nat_lit 180, nat_lit 41, sv_20)], [])], [(nat_lit 180, nat_lit 41, nat_lit 41), (nat_lit 199, nat_lit 34, nat_lit 48)], [], [], [])
set_option maxRecDepth 100000 in
theorem syc_730 : CoOk GG MM syt_730 := chk_okF (cs := []) (F := 4000) (fun _ h => absurd h List.not_mem_nil) (by decide +kernel) (by decide +kernel)
/-- M.writeWord -/
def syt_731 : CO := (nat_lit 297, nat_lit 7, [ee_0, ee_319, ee_402], [sv_19, sv_26], [(nat_lit 180, nat_lit 41, sv_4)], [(nat_lit 1, nat_lit 1, nat_lit 0), (nat_lit 2, nat_lit 180, nat_lit 41)], [(none, [ee_0, ee_319, ee_402, ee_412], [(nat_lit 180, nat_lit 41, sv_9)], [(nat_lit 2, nat_lit 180, nat_lit 41)])], [(nat_lit 180, nat_lit 41, nat_lit 41), (nat_lit 199, nat_lit 33, nat_lit 48)], [], [], [])
set_option maxRecDepth 100000 in
theorem syc_731 : CoOk GG MM syt_731 := chk_okF (cs := [syt_719, syt_721, syt_730, syt_722, syt_729]) (F := 4000) (cs_c syc_719 <| cs_c syc_721 <| cs_c syc_730 <| cs_c syc_722 <| cs_c syc_729 cs_n) (by decide +kernel) (by decide +kernel)
/-- M.write -/
def syt_732 : CO := (nat_lit 294, nat_lit 1, [ee_0, ee_1, ee_413], [sv_19, sv_1], [(nat_lit 180, nat_lit 41, sv_4)], [(nat_lit 1, nat_lit 1, nat_lit 0), (nat_lit 2, nat_lit 180, nat_lit 41)], [(none, [ee_0, ee_1, ee_413], [(nat_lit 180, nat_lit 41, sv_20)], [])], [(nat_lit 180, nat_lit 41, nat_lit 41), (nat_lit 199, nat_lit 34, nat_lit 49)], [], [], [])
set_option maxRecDepth 100000 in
theorem syc_732 : CoOk GG MM syt_732 := chk_okF (cs := []) (F := 4000) (fun _ h => absurd h List.not_mem_nil) (by decide +kernel) (by decide +kernel)
/-- M.writeWord -/
def syt_733 : CO := (nat_lit 297, nat_lit 8, [ee_0, ee_320, ee_402], [sv_19, sv_26], [(nat_lit 180, nat_lit 41, sv_4)], [(nat_lit 1, nat_lit 1, nat_lit 0), (nat_lit 2, nat_lit 180, nat_lit 41)], [(none, [ee_0, ee_320, ee_402, ee_414], [(nat_lit 180, nat_lit 41, sv_9)], [(nat_lit 2, nat_lit 180, nat_lit 41)])], [(nat_lit 180, nat_lit 41, nat_lit 41), (nat_lit 199, nat_lit 33, nat_lit 49)], [], [], [])
set_option maxRecDepth 100000 in
theorem syc_733 : CoOk GG MM syt_733 := chk_okF (cs := [syt_719, syt_721, syt_732, syt_722, syt_731]) (F := 4000) (cs_c syc_719 <| cs_c syc_721 <| cs_c syc_732 <| cs_c syc_722 <| cs_c syc_731 cs_n) (by decide +kernel) (by decide +kernel)
/-- M.write -/
def syt_734 : CO := (nat_lit 294, nat_lit 1, [ee_0, ee_1, ee_415], [sv_19, sv_1], [(nat_lit 180, nat_lit 41, sv_4)], [(nat_lit 1, nat_lit 1, nat_lit 0), (nat_lit 2, nat_lit 180, nat_lit 41)], [(none, [ee_0, ee_1, ee_415], [(nat_lit 180, nat_lit 41, sv_20)], [])], [(nat_lit 180, nat_lit 41, nat_lit 41), (nat_lit 199, nat_lit 34, nat_lit 50)], [], [], [])
set_option maxRecDepth 100000 in
theorem syc_734 : CoOk GG MM syt_734 := chk_okF (cs := []) (F := 4000) (fun _ h => absurd h List.not_mem_nil) (by decide +kernel) (by decide +kernel)
/-- M.writeWord -/
def syt_735 : CO := (nat_lit 297, nat_lit 9, [ee_0, ee_74, ee_402], [sv_19, sv_26], [(nat_lit 180, nat_lit 41, sv_4)], [(nat_lit 1, nat_lit 1, nat_lit 0), (nat_lit 2, nat_lit 180, nat_lit 41)], [(none, [ee_0, ee_74, ee_402, ee_416], [(nat_lit 180, nat_lit 41, sv_9)], [(nat_lit 2, nat_lit 180, nat_lit 41)])], [(nat_lit 180, nat_lit 41, nat_lit 41), (nat_lit 199, nat_lit 33, nat_lit 50)], [], [], [])
set_option maxRecDepth 100000 in
theorem syc_735 : CoOk GG MM syt_735 := chk_okF (cs := [syt_719, syt_721, syt_734, syt_722, syt_733]) (F := 4000) (cs_c syc_719 <| cs_c syc_721 <| cs_c syc_734 <| cs_c syc_722 <| cs_c syc_733 cs_n) (by decide +kernel) (by decide +kernel)
/-- M.writeNext -/
def syt_736 : CO := (nat_lit 295, nat_lit 10, [ee_0, ee_74, ee_401], [sv_19, sv_26], [(nat_lit 180, nat_lit 41, sv_4)], [(nat_lit 1, nat_lit 1, nat_lit 0), (nat_lit 2, nat_lit 180, nat_lit 41)], [(none, [ee_0, ee_74, ee_401, ee_417], [(nat_lit 180, nat_lit 41, sv_9)], [(nat_lit 2, nat_lit 180, nat_lit 41)])], [(nat_lit 180, nat_lit 41, nat_lit 41), (nat_lit 199, nat_lit 32, nat_lit 50)], [], [], [])
set_option maxRecDepth 100000 in
theorem syc_736 : CoOk GG MM syt_736 := chk_okF (cs := [syt_718, syt_735]) (F := 4000) (cs_c syc_718 <| cs_c syc_735 cs_n) (by decide +kernel) (by decide +kernel)
/-- M.writeWord -/
def syt_737 : CO := (nat_lit 297, nat_lit 2, [ee_0, ee_345, ee_389], [sv_19, sv_26], [(nat_lit 180, nat_lit 41, sv_4)], [(nat_lit 1, nat_lit 1, nat_lit 0), (nat_lit 2, nat_lit 180, nat_lit 41)], [(none, [ee_0, ee_345, ee_389], [(nat_lit 180, nat_lit 41, sv_20)], [])], [(nat_lit 180, nat_lit 41, nat_lit 41), (nat_lit 199, nat_lit 19, nat_lit 29)], [], [], [])
set_option maxRecDepth 100000 in
theorem syc_737 : CoOk GG MM syt_737 := chk_okF (cs := [syt_692]) (F := 4000) (cs_c syc_692 cs_n) (by decide +kernel) (by decide +kernel)
/-- M.writeWord -/
def syt_738 : CO := (nat_lit 297, nat_lit 3, [ee_0, ee_347, ee_389], [sv_19, sv_26], [(nat_lit 180, nat_lit 41, sv_4)], [(nat_lit 1, nat_lit 1, nat_lit 0), (nat_lit 2, nat_lit 180, nat_lit 41)], [(none, [ee_0, ee_347, ee_389], [(nat_lit 180, nat_lit 41, sv_21)], [])], [(nat_lit 180, nat_lit 41, nat_lit 41), (nat_lit 199, nat_lit 19, nat_lit 30)], [], [], [])
set_option maxRecDepth 100000 in
theorem syc_738 : CoOk GG MM syt_738 := chk_okF (cs := [syt_694, syt_737]) (F := 4000) (cs_c syc_694 <| cs_c syc_737 cs_n) (by decide +kernel) (by decide +kernel)
/-- M.writeWord -/
def syt_739 : CO := (nat_lit 297, nat_lit 4, [ee_0, ee_102, ee_389], [sv_19, sv_26], [(nat_lit 180, nat_lit 41, sv_4)], [(nat_lit 1, nat_lit 1, nat_lit 0), (nat_lit 2, nat_lit 180, nat_lit 41)], [(none, [ee_0, ee_102, ee_389], [(nat_lit 180, nat_lit 41, sv_22)], [])], [(nat_lit 180, nat_lit 41, nat_lit 41), (nat_lit 199, nat_lit 19, nat_lit 31)], [], [], [])
set_option maxRecDepth 100000 in
theorem syc_739 : CoOk GG MM syt_739 := chk_okF (cs := [syt_696, syt_738]) (F := 4000) (cs_c syc_696 <| cs_c syc_738 cs_n) (by decide +kernel) (by decide +kernel)
/-- M.writeNext -/
def syt_740 : CO := (nat_lit 295, nat_lit 5, [ee_0, ee_102, ee_388], [sv_19, sv_26], [(nat_lit 180, nat_lit 41, sv_4)], [(nat_lit 1, nat_lit 1, nat_lit 0), (nat_lit 2, nat_lit 180, nat_lit 41)], [(none, [ee_0, ee_102, ee_388], [(nat_lit 180, nat_lit 41, sv_23)], [])], [(nat_lit 180, nat_lit 41, nat_lit 41), (nat_lit 199, nat_lit 18, nat_lit 31)], [], [], [])
set_option maxRecDepth 100000 in
theorem syc_740 : CoOk GG MM syt_740 := chk_okF (cs := [syt_691, syt_739]) (F := 4000) (cs_c syc_691 <| cs_c syc_739 cs_n) (by decide +kernel) (by decide +kernel)
/-- M.writeWord -/
def syt_741 : CO := (nat_lit 297, nat_lit 2, [ee_0, ee_351, ee_393], [sv_19, sv_26], [(nat_lit 180, nat_lit 41, sv_4)], [(nat_lit 1, nat_lit 1, nat_lit 0), (nat_lit 2, nat_lit 180, nat_lit 41)], [(none, [ee_0, ee_351, ee_393], [(nat_lit 180, nat_lit 41, sv_20)], [])], [(nat_lit 180, nat_lit 41, nat_lit 41), (nat_lit 199, nat_lit 23, nat_lit 33)], [], [], [])
set_option maxRecDepth 100000 in
theorem syc_741 : CoOk GG MM syt_741 := chk_okF (cs := [syt_700]) (F := 4000) (cs_c syc_700 cs_n) (by decide +kernel) (by decide +kernel)
/-- M.writeWord -/
def syt_742 : CO := (nat_lit 297, nat_lit 3, [ee_0, ee_105, ee_393], [sv_19, sv_26], [(nat_lit 180, nat_lit 41, sv_4)], [(nat_lit 1, nat_lit 1, nat_lit 0), (nat_lit 2, nat_lit 180, nat_lit 41)], [(none, [ee_0, ee_105, ee_393], [(nat_lit 180, nat_lit 41, sv_21)], [])], [(nat_lit 180, nat_lit 41, nat_lit 41), (nat_lit 199, nat_lit 23, nat_lit 34)], [], [], [])
set_option maxRecDepth 100000 in
theorem syc_742 : CoOk GG MM syt_742 := chk_okF (cs := [syt_644, syt_741]) (F := 4000) (cs_c syc_644 <| cs_c syc_741 cs_n) (by decide +kernel) (by decide +kernel)
/-- M.writeNext -/
def syt_743 : CO := (nat_lit 295, nat_lit 4, [ee_0, ee_105, ee_392], [sv_19, sv_26], [(nat_lit 180, nat_lit 41, sv_4)], [(nat_lit 1, nat_lit 1, nat_lit 0), (nat_lit 2, nat_lit 180, nat_lit 41)], [(none, [ee_0, ee_105, ee_392], [(nat_lit 180, nat_lit 41, sv_22)], [])], [(nat_lit 180, nat_lit 41, nat_lit 41), (nat_lit 199, nat_lit 22, nat_lit 34)], [], [], [])
set_option maxRecDepth 100000 in
theorem syc_743 : CoOk GG MM syt_743 := chk_okF (cs := [syt_698, syt_742]) (F := 4000) (cs_c syc_698 <| cs_c syc_742 cs_n) (by decide +kernel) (by decide +kernel)
/-- M.writeWord -/
def syt_744 : CO := (nat_lit 297, nat_lit 2, [ee_0, ee_314, ee_395], [sv_19, sv_26], [(nat_lit 180, nat_lit 41, sv_4)], [(nat_lit 1, nat_lit 1, nat_lit 0), (nat_lit 2, nat_lit 180, nat_lit 41)], [(none, [ee_0, ee_314, ee_395], [(nat_lit 180, nat_lit 41, sv_20)], [])], [(nat_lit 180, nat_lit 41, nat_lit 41), (nat_lit 199, nat_lit 26, nat_lit 36)], [], [], [])
set_option maxRecDepth 100000 in
theorem syc_744 : CoOk GG MM syt_744 := chk_okF (cs := [syt_705]) (F := 4000) (cs_c syc_705 cs_n) (by decide +kernel) (by decide +kernel)
/-- M.writeWord -/
def syt_745 : CO := (nat_lit 297, nat_lit 2, [ee_0, ee_146, ee_395], [sv_19, sv_26], [(nat_lit 180, nat_lit 41, sv_4)], [(nat_lit 1, nat_lit 1, nat_lit 0), (nat_lit 2, nat_lit 180, nat_lit 41)], [(none, [ee_0, ee_146, ee_395], [(nat_lit 180, nat_lit 41, sv_20)], [])], [(nat_lit 180, nat_lit 41, nat_lit 41), (nat_lit 199, nat_lit 26, nat_lit 36)], [], [], [])
set_option maxRecDepth 100000 in
theorem syc_745 : CoOk GG MM syt_745 := chk_okF (cs := [syt_705]) (F := 4000) (cs_c syc_705 cs_n) (by decide +kernel) (by decide +kernel)
/-- M.writeWord -/
def syt_746 : CO := (nat_lit 297, nat_lit 3, [ee_0, ee_315, ee_395], [sv_19, sv_26], [(nat_lit 180, nat_lit 41, sv_4)], [(nat_lit 1, nat_lit 1, nat_lit 0), (nat_lit 2, nat_lit 180, nat_lit 41)], [(none, [ee_0, ee_315, ee_395, ee_418], [(nat_lit 180, nat_lit 41, sv_9)], [(nat_lit 2, nat_lit 180, nat_lit 41)])], [(nat_lit 180, nat_lit 41, nat_lit 41), (nat_lit 199, nat_lit 26, nat_lit 37)], [], [], [])
set_option maxRecDepth 100000 in
theorem syc_746 : CoOk GG MM syt_746 := chk_okF (cs := [syt_705, syt_707, syt_745, syt_744]) (F := 4000) (cs_c syc_705 <| cs_c syc_707 <| cs_c syc_745 <| cs_c syc_744 cs_n) (by decide +kernel) (by decide +kernel)
/-- M.write -/
def syt_747 : CO := (nat_lit 294, nat_lit 1, [ee_0, ee_1, ee_419], [sv_19, sv_1], [(nat_lit 180, nat_lit 41, sv_4)], [(nat_lit 1, nat_lit 1, nat_lit 0), (nat_lit 2, nat_lit 180, nat_lit 41)], [(none, [ee_0, ee_1, ee_419], [(nat_lit 180, nat_lit 41, sv_20)], [])], [(nat_lit 180, nat_lit 41, nat_lit 41), (nat_lit 199, nat_lit 27, nat_lit 38)], [], [], [])
set_option maxRecDepth 100000 in
theorem syc_747 : CoOk GG MM syt_747 := chk_okF (cs := []) (F := 4000) (fun _ h => absurd h List.not_mem_nil) (by decide +kernel) (by decide +kernel)
/-- M.writeWord -/
def syt_748 : CO := (nat_lit 297, nat_lit 4, [ee_0, ee_316, ee_395], [sv_19, sv_26], [(nat_lit 180, nat_lit 41, sv_4)], [(nat_lit 1, nat_lit 1, nat_lit 0), (nat_lit 2, nat_lit 180, nat_lit 41)], [(none, [ee_0, ee_316, ee_395, ee_420], [(nat_lit 180, nat_lit 41, sv_9)], [(nat_lit 2, nat_lit 180, nat_lit 41)])], [(nat_lit 180, nat_lit 41, nat_lit 41), (nat_lit 199, nat_lit 26, nat_lit 38)], [], [], [])
set_option maxRecDepth 100000 in
theorem syc_748 : CoOk GG MM syt_748 := chk_okF (cs := [syt_705, syt_707, syt_747, syt_745, syt_746]) (F := 4000) (cs_c syc_705 <| cs_c syc_707 <| cs_c syc_747 <| cs_c syc_745 <| cs_c syc_746 cs_n) (by decide +kernel) (by decide +kernel)
/-- M.write -/
def syt_749 : CO := (nat_lit 294, nat_lit 1, [ee_0, ee_1, ee_421], [sv_19, sv_1], [(nat_lit 180, nat_lit 41, sv_4)], [(nat_lit 1, nat_lit 1, nat_lit 0), (nat_lit 2, nat_lit 180, nat_lit 41)], [(none, [ee_0, ee_1, ee_421], [(nat_lit 180, nat_lit 41, sv_20)], [])], [(nat_lit 180, nat_lit 41, nat_lit 41), (nat_lit 199, nat_lit 27, nat_lit 39)], [], [], [])
set_option maxRecDepth 100000 in
theorem syc_749 : CoOk GG MM syt_749 := chk_okF (cs := []) (F := 4000) (fun _ h => absurd h List.not_mem_nil) (by decide +kernel) (by decide +kernel)
/-- M.writeWord -/
def syt_750 : CO := (nat_lit 297, nat_lit 5, [ee_0, ee_317, ee_395], [sv_19, sv_26], [(nat_lit 180, nat_lit 41, sv_4)], [(nat_lit 1, nat_lit 1, nat_lit 0), (nat_lit 2, nat_lit 180, nat_lit 41)], [(none, [ee_0, ee_317, ee_395, ee_422], [(nat_lit 180, nat_lit 41, sv_9)], [(nat_lit 2, nat_lit 180, nat_lit 41)])], [(nat_lit 180, nat_lit 41, nat_lit 41), (nat_lit 199, nat_lit 26, nat_lit 39)], [], [], [])
set_option maxRecDepth 100000 in
theorem syc_750 : CoOk GG MM syt_750 := chk_okF (cs := [syt_705, syt_707, syt_749, syt_745, syt_748]) (F := 4000) (cs_c syc_705 <| cs_c syc_707 <| cs_c syc_749 <| cs_c syc_745 <| cs_c syc_748 cs_n) (by decide +kernel) (by decide +kernel)
/-- M.write -/
def syt_751 : CO := (nat_lit 294, nat_lit 1, [ee_0, ee_1, ee_423], [sv_19, sv_1], [(nat_lit 180, nat_lit 41, sv_4)], [(nat_lit 1, nat_lit 1, nat_lit 0), (nat_lit 2, nat_lit 180, nat_lit 41)], [(none, [ee_0, ee_1, ee_423], [(nat_lit 180, nat_lit 41, sv_20)], [])], [(nat_lit 180, nat_lit 41, nat_lit 41), (nat_lit 199, nat_lit 27, nat_lit 40)], [], [], [])
set_option maxRecDepth 100000 in
theorem syc_751 : CoOk GG MM syt_751 := chk_okF (cs := []) (F := 4000) (fun _ h => absurd h List.not_mem_nil) (by decide +kernel) (by decide +kernel)
/-- M.writeWord -/
def syt_752 : CO := (nat_lit 297, nat_lit 6, [ee_0, ee_318, ee_395], [sv_19, sv_26], [(nat_lit 180, nat_lit 41, sv_4)], [(nat_lit 1, nat_lit 1, nat_lit 0), (nat_lit 2, nat_lit 180, nat_lit 41)], [(none, [ee_0, ee_318, ee_395, ee_424], [(nat_lit 180, nat_lit 41, sv_9)], [(nat_lit 2, nat_lit 180, nat_lit 41)])], [(nat_lit 180, nat_lit 41, nat_lit 41), (nat_lit 199, nat_lit 26, nat_lit 40)], [], [], [])
set_option maxRecDepth 100000 in
theorem syc_752 : CoOk GG MM syt_752 := chk_okF (cs := [syt_705, syt_707, syt_751, syt_745, syt_750]) (F := 4000) (cs_c syc_705 <| cs_c syc_707 <| cs_c syc_751 <| cs_c syc_745 <| cs_c syc_750 cs_n) (by decide +kernel) (by decide +kernel)
/-- M.write -/
def syt_753 : CO := (nat_lit 294, nat_lit 1, [ee_0, ee_1, ee_425], [sv_19, sv_1], [(nat_lit 180, nat_lit 41, sv_4)], [(nat_lit 1, nat_lit 1, nat_lit 0), (nat_lit 2, nat_lit 180, nat_lit 41)], [(none, [ee_0, ee_1, ee_425], [(nat_lit 180, nat_lit 41, sv_20)], [])], [(nat_lit 180, nat_lit 41, nat_lit 41), (nat_lit 199, nat_lit 27, nat_lit 41)], [], [], [])
set_option maxRecDepth 100000 in
theorem syc_753 : CoOk GG MM syt_753 := chk_okF (cs := []) (F := 4000) (fun _ h => absurd h List.not_mem_nil) (by decide +kernel) (by decide +kernel)
/-- M.writeWord -/
def syt_754 : CO := (nat_lit 297, nat_lit 7, [ee_0, ee_319, ee_395], [sv_19, sv_26], [(nat_lit 180, nat_lit 41, sv_4)], [(nat_lit 1, nat_lit 1, nat_lit 0), (nat_lit 2, nat_lit 180, nat_lit 41)], [(none, [ee_0, ee_319, ee_395, ee_426], [(nat_lit 180, nat_lit 41, sv_9)], [(nat_lit 2, nat_lit 180, nat_lit 41)])], [(nat_lit 180, nat_lit 41, nat_lit 41), (nat_lit 199, nat_lit 26, nat_lit 41)], [], [], [])
set_option maxRecDepth 100000 in
theorem syc_754 : CoOk GG MM syt_754 := chk_okF (cs := [syt_705, syt_707, syt_753, syt_745, syt_752]) (F := 4000) (cs_c syc_705 <| cs_c syc_707 <| cs_c syc_753 <| cs_c syc_745 <| cs_c syc_752 cs_n) (by decide +kernel) (by decide +kernel)
/-- M.write -/
def syt_755 : CO := (nat_lit 294, nat_lit 1, [ee_0, ee_1, ee_427], [sv_19, sv_1], [(nat_lit 180, nat_lit 41, sv_4)], [(nat_lit 1, nat_lit 1, nat_lit 0), (nat_lit 2, nat_lit 180, nat_lit 41)], [(none, [ee_0, ee_1, ee_427], [(nat_lit 180, nat_lit 41, sv_20)], [])], [(nat_lit 180, nat_lit 41, nat_lit 41), (nat_lit 199, nat_lit 27, nat_lit 42)], [], [], [])
set_option maxRecDepth 100000 in
theorem syc_755 : CoOk GG MM syt_755 := chk_okF (cs := []) (F := 4000) (fun _ h => absurd h List.not_mem_nil) (by decide +kernel) (by decide +kernel)
/-- M.writeWord -/
def syt_756 : CO := (nat_lit 297, nat_lit 8, [ee_0, ee_320, ee_395], [sv_19, sv_26], [(nat_lit 180, nat_lit 41, sv_4)], [(nat_lit 1, nat_lit 1, nat_lit 0), (nat_lit 2, nat_lit 180, nat_lit 41)], [(none, [ee_0, ee_320, ee_395, ee_428], [(nat_lit 180, nat_lit 41, sv_9)], [(nat_lit 2, nat_lit 180, nat_lit 41)])], [(nat_lit 180, nat_lit 41, nat_lit 41), (nat_lit 199, nat_lit 26, nat_lit 42)], [], [], [])
set_option maxRecDepth 100000 in
theorem syc_756 : CoOk GG MM syt_756 := chk_okF (cs := [syt_705, syt_707, syt_755, syt_745, syt_754]) (F := 4000) (cs_c syc_705 <| cs_c syc_707 <| cs_c syc_755 <| cs_c syc_745 <| cs_c syc_754 cs_n) (by decide +kernel) (by decide +kernel)
/-- M.write -/
def syt_757 : CO := (nat_lit 294, nat_lit 1, [ee_0, ee_1, ee_429], [sv_19, sv_1], [(nat_lit 180, nat_lit 41, sv_4)], [(nat_lit 1, nat_lit 1, nat_lit 0), (nat_lit 2, nat_lit 180, nat_lit 41)], [(none, [ee_0, ee_1, ee_429], [(nat_lit 180, nat_lit 41, sv_20)], [])], [(nat_lit 180, nat_lit 41, nat_lit 41), (nat_lit 199, nat_lit 27, nat_lit 43)], [], [], [])
set_option maxRecDepth 100000 in
theorem syc_757 : CoOk GG MM syt_757 := chk_okF (cs := []) (F := 4000) (fun _ h => absurd h List.not_mem_nil) (by decide +kernel) (by decide +kernel)
/-- M.writeWord -/
def syt_758 : CO := (nat_lit 297, nat_lit 9, [ee_0, ee_74, ee_395], [sv_19, sv_26], [(nat_lit 180, nat_lit 41, sv_4)], [(nat_lit 1, nat_lit 1, nat_lit 0), (nat_lit 2, nat_lit 180, nat_lit 41)], [(none, [ee_0, ee_74, ee_395, ee_430], [(nat_lit 180, nat_lit 41, sv_9)], [(nat_lit 2, nat_lit 180, nat_lit 41)])], [(nat_lit 180, nat_lit 41, nat_lit 41), (nat_lit 199, nat_lit 26, nat_lit 43)], [], [], [])
set_option maxRecDepth 100000 in
theorem syc_758 : CoOk GG MM syt_758 := chk_okF (cs := [syt_705, syt_707, syt_757, syt_745, syt_756]) (F := 4000) (cs_c syc_705 <| cs_c syc_707 <| cs_c syc_757 <| cs_c syc_745 <| cs_c syc_756 cs_n) (by decide +kernel) (by decide +kernel)
/-- M.writeNext -/
def syt_759 : CO := (nat_lit 295, nat_lit 10, [ee_0, ee_74, ee_394], [sv_19, sv_26], [(nat_lit 180, nat_lit 41, sv_4)], [(nat_lit 1, nat_lit 1, nat_lit 0), (nat_lit 2, nat_lit 180, nat_lit 41)], [(none, [ee_0, ee_74, ee_394, ee_431], [(nat_lit 180, nat_lit 41, sv_9)], [(nat_lit 2, nat_lit 180, nat_lit 41)])], [(nat_lit 180, nat_lit 41, nat_lit 41), (nat_lit 199, nat_lit 25, nat_lit 43)], [], [], [])
set_option maxRecDepth 100000 in
theorem syc_759 : CoOk GG MM syt_759 := chk_okF (cs := [syt_704, syt_758]) (F := 4000) (cs_c syc_704 <| cs_c syc_758 cs_n) (by decide +kernel) (by decide +kernel)
/-- M.slip -/
def syt_760 : CO := (nat_lit 277, nat_lit 11, [ee_0, ee_1], [sv_19, sv_1], [], [(nat_lit 1, nat_lit 1, nat_lit 0)], [(some sv_10, [ee_0, ee_27, ee_432, ee_26, ee_432], [(nat_lit 180, nat_lit 41, sv_4), (nat_lit 182, nat_lit 0, sv_9)], [(nat_lit 2, nat_lit 180, nat_lit 41), (nat_lit 2, nat_lit 182, nat_lit 0), (nat_lit 1, nat_lit 0, nat_lit 0)]), (some sv_16, [ee_0, ee_1], [], [])], [(nat_lit 180, nat_lit 0, nat_lit 0), (nat_lit 180, nat_lit 41, nat_lit 41), (nat_lit 199, nat_lit 0, nat_lit 50)], [], [], [])
set_option maxRecDepth 100000 in
theorem syc_760 : CoOk GG MM syt_760 := chk_okF (cs := [syt_244, syt_242, syt_235, syt_276, syt_680, syt_91, syt_121, syt_123, syt_129, syt_131, syt_603, syt_625, syt_602, syt_623, syt_631, syt_637, syt_660, syt_663, syt_683, syt_688, syt_703, syt_711, syt_717, syt_740, syt_743, syt_656, syt_679, syt_736, syt_759, syt_690, syt_609, syt_592]) (F := 4000) (cs_c syc_244 <| cs_c syc_242 <| cs_c syc_235 <| cs_c syc_276 <| cs_c syc_680 <| cs_c syc_91 <| cs_c syc_121 <| cs_c syc_123 <| cs_c syc_129 <| cs_c syc_131 <| cs_c syc_603 <| cs_c syc_625 <| cs_c syc_602 <| cs_c syc_623 <| cs_c syc_631 <| cs_c syc_637 <| cs_c syc_660 <| cs_c syc_663 <| cs_c syc_683 <| cs_c syc_688 <| cs_c syc_703 <| cs_c syc_711 <| cs_c syc_717 <| cs_c syc_740 <| cs_c syc_743 <| cs_c syc_656 <| cs_c syc_679 <| cs_c syc_736 <| cs_c syc_759 <| cs_c syc_690 <| cs_c syc_609 <| cs_c syc_592 cs_n) (by decide +kernel) (by decide +kernel)
/-- X.byteAt -/
def syt_761 : CO := (nat_lit 8, nat_lit 1, [ee_0, ee_1], [sv_8, sv_1], [(nat_lit 0, nat_lit 1, sv_12), (nat_lit 0, nat_lit 2, sv_13), (nat_lit 0, nat_lit 7, sv_14), (nat_lit 0, nat_lit 8, sv_15)], [(nat_lit 1, nat_lit 1, nat_lit 0)], [(some sv_4, [ee_0, ee_179, ee_163], [(nat_lit 0, nat_lit 1, sv_12), (nat_lit 0, nat_lit 2, sv_13), (nat_lit 0, nat_lit 7, sv_14), (nat_lit 0, nat_lit 8, sv_15)], [(nat_lit 1, nat_lit 0, nat_lit 0)]), (some sv_16, [ee_0, ee_1], [(nat_lit 0, nat_lit 1, sv_12), (nat_lit 0, nat_lit 2, sv_13), (nat_lit 0, nat_lit 7, sv_14), (nat_lit 0, nat_lit 8, sv_15)], [])], [], [], [], [])
set_option maxRecDepth 100000 in
theorem syc_761 : CoOk GG MM syt_761 := chk_okF (cs := []) (F := 4000) (fun _ h => absurd h List.not_mem_nil) (by decide +kernel) (by decide +kernel)
/-- M.isIn -/
def syt_762 : CO := (nat_lit 218, nat_lit 1, [ee_0, ee_1, ee_433], [sv_1, sv_6, sv_4], [], [(nat_lit 1, nat_lit 0, nat_lit 0), (nat_lit 1, nat_lit 2, nat_lit 0)], [(some sv_24, [ee_0, ee_179, ee_179], [], []), (some sv_6, [ee_0, ee_1, ee_433], [], [])], [], [], [], [])
set_option maxRecDepth 100000 in
theorem syc_762 : CoOk GG MM syt_762 := chk_okF (cs := []) (F := 4000) (fun _ h => absurd h List.not_mem_nil) (by decide +kernel) (by decide +kernel)
/-- M.byteAt -/
def syt_763 : CO := (nat_lit 182, nat_lit 2, [ee_0, ee_1], [sv_19, sv_1], [], [(nat_lit 1, nat_lit 1, nat_lit 0)], [(some sv_16, [ee_0, ee_1], [], []), (some sv_9, [ee_0, ee_179, ee_434, ee_1], [(nat_lit 180, nat_lit 41, sv_4)], [(nat_lit 2, nat_lit 180, nat_lit 41), (nat_lit 1, nat_lit 0, nat_lit 0)])], [(nat_lit 180, nat_lit 0, nat_lit 0)], [], [], [])
set_option maxRecDepth 100000 in
theorem syc_763 : CoOk GG MM syt_763 := chk_okF (cs := [syt_762]) (F := 4000) (cs_c syc_762 cs_n) (by decide +kernel) (by decide +kernel)
/-- Life.draw -/
def syt_764 : CO := (nat_lit 97, nat_lit 1, [ee_0, ee_31], [sv_41, sv_1], [], [(nat_lit 1, nat_lit 1, nat_lit 0)], [(some sv_4, [ee_0, ee_31, ee_14], [], [(nat_lit 1, nat_lit 0, nat_lit 0)])], [(nat_lit 23, nat_lit 4, nat_lit 4)], [], [], [])
set_option maxRecDepth 100000 in
theorem syc_764 : CoOk GG MM syt_764 := chk_okF (cs := []) (F := 4000) (fun _ h => absurd h List.not_mem_nil) (by decide +kernel) (by decide +kernel)
/-- Life.draw -/
def syt_765 : CO := (nat_lit 97, nat_lit 1, [ee_0], [sv_41, sv_31], [], [], [(some sv_1, [ee_0, ee_127], [], [(nat_lit 1, nat_lit 0, nat_lit 0)])], [(nat_lit 23, nat_lit 4, nat_lit 4)], [], [], [])
set_option maxRecDepth 100000 in
theorem syc_765 : CoOk GG MM syt_765 := chk_okF (cs := []) (F := 4000) (fun _ h => absurd h List.not_mem_nil) (by decide +kernel) (by decide +kernel)
/-- Life.draw -/
def syt_766 : CO := (nat_lit 97, nat_lit 1, [ee_0], [sv_41, sv_5], [], [], [(some sv_1, [ee_0, ee_14], [], [(nat_lit 1, nat_lit 0, nat_lit 0)])], [(nat_lit 23, nat_lit 4, nat_lit 4)], [], [], [])
set_option maxRecDepth 100000 in
theorem syc_766 : CoOk GG MM syt_766 := chk_okF (cs := []) (F := 4000) (fun _ h => absurd h List.not_mem_nil) (by decide +kernel) (by decide +kernel)
/-- Life.draw -/
def syt_767 : CO := (nat_lit 97, nat_lit 1, [ee_0, ee_14], [sv_41, sv_1], [], [(nat_lit 1, nat_lit 1, nat_lit 0)], [(some sv_4, [ee_0, ee_26, ee_27], [], [(nat_lit 1, nat_lit 0, nat_lit 0)]), (some sv_6, [ee_0, ee_0], [], [])], [(nat_lit 23, nat_lit 4, nat_lit 4)], [], [], [])
set_option maxRecDepth 100000 in
theorem syc_767 : CoOk GG MM syt_767 := chk_okF (cs := []) (F := 4000) (fun _ h => absurd h List.not_mem_nil) (by decide +kernel) (by decide +kernel)
/-- Life.drawActs -/
def syt_768 : CO := (nat_lit 98, nat_lit 5, [ee_0, ee_27], [sv_41, sv_12, sv_1], [], [(nat_lit 1, nat_lit 2, nat_lit 0)], [(none, [ee_0, ee_27], [], [])], [(nat_lit 23, nat_lit 1, nat_lit 2), (nat_lit 23, nat_lit 4, nat_lit 4), (nat_lit 24, nat_lit 0, nat_lit 6), (nat_lit 25, nat_lit 0, nat_lit 6), (nat_lit 26, nat_lit 0, nat_lit 6), (nat_lit 27, nat_lit 0, nat_lit 6), (nat_lit 28, nat_lit 0, nat_lit 6), (nat_lit 29, nat_lit 0, nat_lit 6), (nat_lit 30, nat_lit 0, nat_lit 7)], [], [], [])
set_option maxRecDepth 100000 in
theorem syc_768 : CoOk GG MM syt_768 := chk_okF (cs := [syt_294, syt_765, syt_766, syt_764, syt_767, syt_330, syt_313, syt_281, syt_311]) (F := 4000) (cs_c syc_294 <| cs_c syc_765 <| cs_c syc_766 <| cs_c syc_764 <| cs_c syc_767 <| cs_c syc_330 <| cs_c syc_313 <| cs_c syc_281 <| cs_c syc_311 cs_n) (by decide +kernel) (by decide +kernel)
/-- Life.drawDays -/
def syt_769 : CO := (nat_lit 99, nat_lit 6, [ee_0, ee_153, ee_1], [sv_41, sv_12, sv_1, sv_4], [], [(nat_lit 1, nat_lit 2, nat_lit 0), (nat_lit 1, nat_lit 3, nat_lit 0)], [(none, [ee_0, ee_153, ee_1], [], [])], [(nat_lit 23, nat_lit 0, nat_lit 2), (nat_lit 23, nat_lit 4, nat_lit 4), (nat_lit 24, nat_lit 0, nat_lit 6), (nat_lit 25, nat_lit 0, nat_lit 6), (nat_lit 26, nat_lit 0, nat_lit 6), (nat_lit 27, nat_lit 0, nat_lit 6), (nat_lit 28, nat_lit 0, nat_lit 6), (nat_lit 29, nat_lit 0, nat_lit 6), (nat_lit 30, nat_lit 0, nat_lit 7)], [(nat_lit 8, nat_lit 1, nat_lit 1, ([ee_0, ee_153, ee_1, ee_154], [(nat_lit 0, sv_41), (nat_lit 1, sv_12), (nat_lit 2, sv_1), (nat_lit 4, sv_9)], [], []), [(nat_lit 0, nat_lit 4, nat_lit 0)], [(nat_lit 27, nat_lit 1)]),
  (nat_lit 27, nat_lit 1, nat_lit 3, ([ee_0, ee_153, ee_1, ee_15], [(nat_lit 0, sv_41), (nat_lit 1, sv_12), (nat_lit 2, sv_1), (nat_lit 4, sv_9), (nat_lit 5, sv_6)], [], []), [], [(nat_lit 8, nat_lit 0), (nat_lit 27, nat_lit 2)]),
  (nat_lit 27, nat_lit 1, nat_lit 3, ([ee_0, ee_153, ee_1, ee_15], [(nat_lit 0, sv_41), (nat_lit 1, sv_12), (nat_lit 2, sv_1), (nat_lit 4, sv_9), (nat_lit 5, sv_24)], [], []), [], [(nat_lit 8, nat_lit 0), (nat_lit 27, nat_lit 3)]),
  (nat_lit 27, nat_lit 1, nat_lit 3, ([ee_0, ee_153, ee_1, ee_15], [(nat_lit 0, sv_41), (nat_lit 1, sv_12), (nat_lit 2, sv_1), (nat_lit 4, sv_9), (nat_lit 5, sv_32)], [], []), [], [(nat_lit 8, nat_lit 0), (nat_lit 27, nat_lit 4)]),
  (nat_lit 27, nat_lit 1, nat_lit 3, ([ee_0, ee_153, ee_1, ee_15], [(nat_lit 0, sv_41), (nat_lit 1, sv_12), (nat_lit 2, sv_1), (nat_lit 4, sv_9), (nat_lit 5, sv_31)], [], []), [], [(nat_lit 8, nat_lit 0), (nat_lit 27, nat_lit 5)]),
  (nat_lit 27, nat_lit 1, nat_lit 3, ([ee_0, ee_153, ee_1, ee_15], [(nat_lit 0, sv_41), (nat_lit 1, sv_12), (nat_lit 2, sv_1), (nat_lit 4, sv_9), (nat_lit 5, sv_38)], [], []), [], [(nat_lit 8, nat_lit 0), (nat_lit 27, nat_lit 6)]),
  (nat_lit 27, nat_lit 1, nat_lit 3, ([ee_0, ee_153, ee_1, ee_15], [(nat_lit 0, sv_41), (nat_lit 1, sv_12), (nat_lit 2, sv_1), (nat_lit 4, sv_9), (nat_lit 5, sv_68)], [], []), [], [(nat_lit 8, nat_lit 0), (nat_lit 27, nat_lit 7)]),
  (nat_lit 27, nat_lit 1, nat_lit 3, ([ee_0, ee_153, ee_1, ee_15], [(nat_lit 0, sv_41), (nat_lit 1, sv_12), (nat_lit 2, sv_1), (nat_lit 4, sv_9), (nat_lit 5, sv_70)], [], []), [], [(nat_lit 8, nat_lit 0), (nat_lit 27, nat_lit 8)]),
  (nat_lit 27, nat_lit 1, nat_lit 3, ([ee_0, ee_153, ee_1, ee_15], [(nat_lit 0, sv_41), (nat_lit 1, sv_12), (nat_lit 2, sv_1), (nat_lit 4, sv_9), (nat_lit 5, sv_59)], [], []), [], [(nat_lit 8, nat_lit 0)])], [], [(nat_lit 8, nat_lit 0)])
set_option maxRecDepth 100000 in
theorem syc_769 : CoOk GG MM syt_769 := chk_okF (cs := [syt_768, syt_358]) (F := 4000) (cs_c syc_768 <| cs_c syc_358 cs_n) (by decide +kernel) (by decide +kernel)
/-- X.drawn -/
def syt_770 : CO := (nat_lit 13, nat_lit 7, [ee_0, ee_1, ee_1], [sv_8, sv_1, sv_4], [(nat_lit 0, nat_lit 1, sv_12), (nat_lit 0, nat_lit 2, sv_13), (nat_lit 0, nat_lit 7, sv_14), (nat_lit 0, nat_lit 8, sv_15)], [(nat_lit 1, nat_lit 1, nat_lit 0), (nat_lit 1, nat_lit 2, nat_lit 0)], [(some sv_16, [ee_0, ee_1, ee_1], [(nat_lit 0, nat_lit 1, sv_12), (nat_lit 0, nat_lit 2, sv_13), (nat_lit 0, nat_lit 7, sv_14), (nat_lit 0, nat_lit 8, sv_15)], []), (some sv_9, [ee_0, ee_153, ee_1, ee_155], [(nat_lit 0, nat_lit 1, sv_12), (nat_lit 0, nat_lit 2, sv_13), (nat_lit 0, nat_lit 7, sv_14), (nat_lit 0, nat_lit 8, sv_15)], [(nat_lit 1, nat_lit 0, nat_lit 0)])], [(nat_lit 23, nat_lit 0, nat_lit 2), (nat_lit 23, nat_lit 4, nat_lit 4), (nat_lit 24, nat_lit 0, nat_lit 6), (nat_lit 25, nat_lit 0, nat_lit 6), (nat_lit 26, nat_lit 0, nat_lit 6), (nat_lit 27, nat_lit 0, nat_lit 6), (nat_lit 28, nat_lit 0, nat_lit 6), (nat_lit 29, nat_lit 0, nat_lit 6), (nat_lit 30, nat_lit 0, nat_lit 7), (nat_lit 39, nat_lit 1, nat_lit 2), (nat_lit 41, nat_lit 0, nat_lit 3), (nat_lit 42, nat_lit 0, nat_lit 7), (nat_lit 43, nat_lit 0, nat_lit 7), (nat_lit 44, nat_lit 0, nat_lit 7), (nat_lit 45, nat_lit 0, nat_lit 7), (nat_lit 46, nat_lit 0, nat_lit 7), (nat_lit 47, nat_lit 0, nat_lit 7), (nat_lit 48, nat_lit 0, nat_lit 8), (nat_lit 49, nat_lit 0, nat_lit 3), (nat_lit 50, nat_lit 0, nat_lit 7), (nat_lit 51, nat_lit 0, nat_lit 7), (nat_lit 52, nat_lit 0, nat_lit 7), (nat_lit 53, nat_lit 0, nat_lit 7), (nat_lit 54, nat_lit 0, nat_lit 7), (nat_lit 55, nat_lit 0, nat_lit 7), (nat_lit 56, nat_lit 0, nat_lit 8), (nat_lit 57, nat_lit 0, nat_lit 3), (nat_lit 58, nat_lit 0, nat_lit 7), (nat_lit 59, nat_lit 0, nat_lit 7), (nat_lit 60, nat_lit 0, nat_lit 7), (nat_lit 61, nat_lit 0, nat_lit 7), (nat_lit 62, nat_lit 0, nat_lit 7), (nat_lit 63, nat_lit 0, nat_lit 7), (nat_lit 64, nat_lit 0, nat_lit 8), (nat_lit 65, nat_lit 0, nat_lit 3), (nat_lit 66, nat_lit 0, nat_lit 7), (nat_lit 67, nat_lit 0, nat_lit 7), (nat_lit 68, nat_lit 0, nat_lit 7), (nat_lit 69, nat_lit 0, nat_lit 7), (nat_lit 70, nat_lit 0, nat_lit 7), (nat_lit 71, nat_lit 0, nat_lit 7), (nat_lit 72, nat_lit 0, nat_lit 8), (nat_lit 73, nat_lit 0, nat_lit 3), (nat_lit 74, nat_lit 0, nat_lit 7), (nat_lit 75, nat_lit 0, nat_lit 7), (nat_lit 76, nat_lit 0, nat_lit 7), (nat_lit 77, nat_lit 0, nat_lit 7), (nat_lit 78, nat_lit 0, nat_lit 7), (nat_lit 79, nat_lit 0, nat_lit 7), (nat_lit 80, nat_lit 0, nat_lit 8), (nat_lit 81, nat_lit 0, nat_lit 3), (nat_lit 82, nat_lit 0, nat_lit 7), (nat_lit 83, nat_lit 0, nat_lit 7), (nat_lit 84, nat_lit 0, nat_lit 7), (nat_lit 85, nat_lit 0, nat_lit 7), (nat_lit 86, nat_lit 0, nat_lit 7), (nat_lit 87, nat_lit 0, nat_lit 7), (nat_lit 88, nat_lit 0, nat_lit 8), (nat_lit 89, nat_lit 0, nat_lit 3), (nat_lit 90, nat_lit 0, nat_lit 7), (nat_lit 91, nat_lit 0, nat_lit 7), (nat_lit 92, nat_lit 0, nat_lit 7), (nat_lit 93, nat_lit 0, nat_lit 7), (nat_lit 94, nat_lit 0, nat_lit 7), (nat_lit 95, nat_lit 0, nat_lit 7), (nat_lit 96, nat_lit 0, nat_lit 8), (nat_lit 97, nat_lit 0, nat_lit 3), (nat_lit 98, nat_lit 0, nat_lit 7), (nat_lit 99, nat_lit 0, nat_lit 7), (nat_lit 100, nat_lit 0, nat_lit 7), (nat_lit 101, nat_lit 0, nat_lit 7), (nat_lit 102, nat_lit 0, nat_lit 7), (nat_lit 103, nat_lit 0, nat_lit 7), (nat_lit 104, nat_lit 0, nat_lit 8)], [], [], [])
set_option maxRecDepth 100000 in
theorem syc_770 : CoOk GG MM syt_770 := chk_okF (cs := [syt_357, syt_769, syt_291]) (F := 4000) (cs_c syc_357 <| cs_c syc_769 <| cs_c syc_291 cs_n) (by decide +kernel) (by decide +kernel)
/-- M.draw -/
def syt_771 : CO := (nat_lit 191, nat_lit 1, [ee_0, ee_31], [sv_19, sv_1], [], [(nat_lit 1, nat_lit 1, nat_lit 0)], [(some sv_4, [ee_0, ee_31, ee_14], [], [(nat_lit 1, nat_lit 0, nat_lit 0)])], [(nat_lit 180, nat_lit 42, nat_lit 42)], [], [], [])
set_option maxRecDepth 100000 in
theorem syc_771 : CoOk GG MM syt_771 := chk_okF (cs := []) (F := 4000) (fun _ h => absurd h List.not_mem_nil) (by decide +kernel) (by decide +kernel)
/-- M.draw -/
def syt_772 : CO := (nat_lit 191, nat_lit 1, [ee_0], [sv_19, sv_31], [], [], [(some sv_1, [ee_0, ee_127], [], [(nat_lit 1, nat_lit 0, nat_lit 0)])], [(nat_lit 180, nat_lit 42, nat_lit 42)], [], [], [])
set_option maxRecDepth 100000 in
theorem syc_772 : CoOk GG MM syt_772 := chk_okF (cs := []) (F := 4000) (fun _ h => absurd h List.not_mem_nil) (by decide +kernel) (by decide +kernel)
/-- M.draw -/
def syt_773 : CO := (nat_lit 191, nat_lit 1, [ee_0], [sv_19, sv_5], [], [], [(some sv_1, [ee_0, ee_14], [], [(nat_lit 1, nat_lit 0, nat_lit 0)])], [(nat_lit 180, nat_lit 42, nat_lit 42)], [], [], [])
set_option maxRecDepth 100000 in
theorem syc_773 : CoOk GG MM syt_773 := chk_okF (cs := []) (F := 4000) (fun _ h => absurd h List.not_mem_nil) (by decide +kernel) (by decide +kernel)
/-- M.draw -/
def syt_774 : CO := (nat_lit 191, nat_lit 1, [ee_0, ee_26], [sv_19, sv_1], [], [(nat_lit 1, nat_lit 1, nat_lit 0)], [(some sv_4, [ee_0, ee_26, ee_27], [], [(nat_lit 1, nat_lit 0, nat_lit 0)])], [(nat_lit 180, nat_lit 42, nat_lit 42)], [], [], [])
set_option maxRecDepth 100000 in
theorem syc_774 : CoOk GG MM syt_774 := chk_okF (cs := []) (F := 4000) (fun _ h => absurd h List.not_mem_nil) (by decide +kernel) (by decide +kernel)
/-- M.isWed -/
def syt_775 : CO := (nat_lit 226, nat_lit 1, [ee_0, ee_110], [sv_19, sv_1], [], [(nat_lit 1, nat_lit 1, nat_lit 0)], [(some sv_24, [ee_0, ee_115, ee_27], [(nat_lit 182, nat_lit 138, sv_4)], [(nat_lit 2, nat_lit 182, nat_lit 138)]), (some sv_6, [ee_0, ee_115, ee_145], [(nat_lit 182, nat_lit 138, sv_4)], [(nat_lit 2, nat_lit 182, nat_lit 138)]), (some sv_24, [ee_0, ee_147, ee_27], [(nat_lit 182, nat_lit 137, sv_4)], [(nat_lit 2, nat_lit 182, nat_lit 137)]), (some sv_6, [ee_0, ee_147, ee_145], [(nat_lit 182, nat_lit 137, sv_4)], [(nat_lit 2, nat_lit 182, nat_lit 137)]), (some sv_24, [ee_0, ee_144, ee_27], [(nat_lit 182, nat_lit 136, sv_4)], [(nat_lit 2, nat_lit 182, nat_lit 136)]), (some sv_6, [ee_0, ee_144, ee_145], [(nat_lit 182, nat_lit 136, sv_4)], [(nat_lit 2, nat_lit 182, nat_lit 136)]), (some sv_24, [ee_0, ee_128, ee_27], [(nat_lit 182, nat_lit 135, sv_4)], [(nat_lit 2, nat_lit 182, nat_lit 135)]), (some sv_6, [ee_0, ee_128, ee_145], [(nat_lit 182, nat_lit 135, sv_4)], [(nat_lit 2, nat_lit 182, nat_lit 135)]), (some sv_24, [ee_0, ee_78, ee_27], [(nat_lit 182, nat_lit 134, sv_4)], [(nat_lit 2, nat_lit 182, nat_lit 134)]), (some sv_6, [ee_0, ee_78, ee_145], [(nat_lit 182, nat_lit 134, sv_4)], [(nat_lit 2, nat_lit 182, nat_lit 134)]), (some sv_24, [ee_0, ee_146, ee_27], [(nat_lit 182, nat_lit 133, sv_4)], [(nat_lit 2, nat_lit 182, nat_lit 133)]), (some sv_6, [ee_0, ee_146, ee_145], [(nat_lit 182, nat_lit 133, sv_4)], [(nat_lit 2, nat_lit 182, nat_lit 133)])], [], [], [], [])
set_option maxRecDepth 100000 in
theorem syc_775 : CoOk GG MM syt_775 := chk_okF (cs := []) (F := 4000) (fun _ h => absurd h List.not_mem_nil) (by decide +kernel) (by decide +kernel)
/-- M.why -/
def syt_776 : CO := (nat_lit 291, nat_lit 3, [ee_0, ee_27], [sv_19, sv_24, sv_6, sv_1, sv_6], [], [(nat_lit 1, nat_lit 3, nat_lit 0)], [(some sv_24, [ee_0, ee_0], [], []), (some sv_4, [ee_0, ee_110, ee_152], [], [(nat_lit 1, nat_lit 0, nat_lit 0)]), (some sv_6, [ee_0, ee_110], [], [])], [], [], [], [])
set_option maxRecDepth 100000 in
theorem syc_776 : CoOk GG MM syt_776 := chk_okF (cs := [syt_244, syt_317, syt_318, syt_319, syt_320, syt_321, syt_322, syt_366, syt_363, syt_775]) (F := 4000) (cs_c syc_244 <| cs_c syc_317 <| cs_c syc_318 <| cs_c syc_319 <| cs_c syc_320 <| cs_c syc_321 <| cs_c syc_322 <| cs_c syc_366 <| cs_c syc_363 <| cs_c syc_775 cs_n) (by decide +kernel) (by decide +kernel)
/-- M.live -/
def syt_777 : CO := (nat_lit 232, nat_lit 1, [ee_0, ee_110], [sv_19, sv_24, sv_6, sv_1, sv_6], [], [(nat_lit 1, nat_lit 3, nat_lit 0)], [(none, [ee_0, ee_110], [], [])], [(nat_lit 182, nat_lit 132, nat_lit 138)], [], [], [])
set_option maxRecDepth 100000 in
theorem syc_777 : CoOk GG MM syt_777 := chk_okF (cs := []) (F := 4000) (fun _ h => absurd h List.not_mem_nil) (by decide +kernel) (by decide +kernel)
/-- M.live -/
def syt_778 : CO := (nat_lit 232, nat_lit 1, [ee_0], [sv_19, sv_32, sv_6, sv_6, sv_6], [], [], [(none, [ee_0], [], [])], [(nat_lit 182, nat_lit 131, nat_lit 138)], [], [], [])
set_option maxRecDepth 100000 in
theorem syc_778 : CoOk GG MM syt_778 := chk_okF (cs := []) (F := 4000) (fun _ h => absurd h List.not_mem_nil) (by decide +kernel) (by decide +kernel)
/-- M.doDeed -/
def syt_779 : CO := (nat_lit 189, nat_lit 3, [ee_0, ee_14, ee_127], [sv_19, sv_6, sv_1, sv_4], [], [(nat_lit 1, nat_lit 2, nat_lit 0), (nat_lit 1, nat_lit 3, nat_lit 0)], [(none, [ee_0, ee_14, ee_127], [], [])], [(nat_lit 182, nat_lit 103, nat_lit 104), (nat_lit 182, nat_lit 111, nat_lit 111), (nat_lit 182, nat_lit 118, nat_lit 118), (nat_lit 182, nat_lit 125, nat_lit 125), (nat_lit 182, nat_lit 139, nat_lit 139), (nat_lit 182, nat_lit 146, nat_lit 153)], [], [], [])
set_option maxRecDepth 100000 in
theorem syc_779 : CoOk GG MM syt_779 := chk_okF (cs := [syt_299, syt_243, syt_303, syt_304]) (F := 4000) (cs_c syc_299 <| cs_c syc_243 <| cs_c syc_303 <| cs_c syc_304 cs_n) (by decide +kernel) (by decide +kernel)
end
section
/-! ===== contracts, inferred and printed by my program, checked here ===== -/
/-- M.drawsFor -/
def syt_780 : CO := (nat_lit 194, nat_lit 4, [ee_0, ee_26], [sv_19, sv_6], [(nat_lit 182, nat_lit 0, sv_1)], [(nat_lit 2, nat_lit 182, nat_lit 0)], [(none, [ee_0, ee_26, ee_30], [(nat_lit 182, nat_lit 0, sv_1), (nat_lit 182, nat_lit 1, sv_4)], [(nat_lit 2, nat_lit 182, nat_lit 1)])], [(nat_lit 180, nat_lit 42, nat_lit 42), (nat_lit 182, nat_lit 103, nat_lit 104), (nat_lit 182, nat_lit 111, nat_lit 111), (nat_lit 182, nat_lit 118, nat_lit 118), (nat_lit 182, nat_lit 125, nat_lit 125), (nat_lit 182, nat_lit 131, nat_lit 139), (nat_lit 182, nat_lit 146, nat_lit 153)], [], [], [])
set_option maxRecDepth 100000 in
theorem syc_780 : CoOk GG MM syt_780 := chk_okF (cs := [syt_779, syt_772, syt_773, syt_774, syt_771, syt_363, syt_778, syt_777, syt_776, syt_300]) (F := 4000) (cs_c syc_779 <| cs_c syc_772 <| cs_c syc_773 <| cs_c syc_774 <| cs_c syc_771 <| cs_c syc_363 <| cs_c syc_778 <| cs_c syc_777 <| cs_c syc_776 <| cs_c syc_300 cs_n) (by decide +kernel) (by decide +kernel)
/-- M.draw -/
def syt_781 : CO := (nat_lit 191, nat_lit 1, [ee_0, ee_130], [sv_19, sv_1], [], [(nat_lit 1, nat_lit 1, nat_lit 0)], [(some sv_4, [ee_0, ee_130, ee_27], [], [(nat_lit 1, nat_lit 0, nat_lit 0)])], [(nat_lit 180, nat_lit 42, nat_lit 42)], [], [], [])
set_option maxRecDepth 100000 in
theorem syc_781 : CoOk GG MM syt_781 := chk_okF (cs := []) (F := 4000) (fun _ h => absurd h List.not_mem_nil) (by decide +kernel) (by decide +kernel)
/-- M.why -/
def syt_782 : CO := (nat_lit 291, nat_lit 3, [ee_0, ee_27], [sv_19, sv_24, sv_24, sv_1, sv_6], [], [(nat_lit 1, nat_lit 3, nat_lit 0)], [(some sv_24, [ee_0, ee_146], [], []), (some sv_4, [ee_0, ee_27, ee_152], [], [(nat_lit 1, nat_lit 0, nat_lit 0)]), (some sv_6, [ee_0, ee_27], [], [])], [], [], [], [])
set_option maxRecDepth 100000 in
theorem syc_782 : CoOk GG MM syt_782 := chk_okF (cs := [syt_244, syt_236, syt_317, syt_318, syt_319, syt_320, syt_321, syt_322, syt_368, syt_365, syt_276]) (F := 4000) (cs_c syc_244 <| cs_c syc_236 <| cs_c syc_317 <| cs_c syc_318 <| cs_c syc_319 <| cs_c syc_320 <| cs_c syc_321 <| cs_c syc_322 <| cs_c syc_368 <| cs_c syc_365 <| cs_c syc_276 cs_n) (by decide +kernel) (by decide +kernel)
/-- M.live -/
def syt_783 : CO := (nat_lit 232, nat_lit 1, [ee_0, ee_27], [sv_19, sv_24, sv_24, sv_1, sv_6], [], [(nat_lit 1, nat_lit 3, nat_lit 0)], [(none, [ee_0, ee_27], [], [])], [(nat_lit 182, nat_lit 132, nat_lit 138)], [], [], [])
set_option maxRecDepth 100000 in
theorem syc_783 : CoOk GG MM syt_783 := chk_okF (cs := []) (F := 4000) (fun _ h => absurd h List.not_mem_nil) (by decide +kernel) (by decide +kernel)
/-- M.live -/
def syt_784 : CO := (nat_lit 232, nat_lit 1, [ee_0], [sv_19, sv_32, sv_24, sv_6, sv_6], [], [], [(none, [ee_0], [], [])], [(nat_lit 182, nat_lit 131, nat_lit 138)], [], [], [])
set_option maxRecDepth 100000 in
theorem syc_784 : CoOk GG MM syt_784 := chk_okF (cs := []) (F := 4000) (fun _ h => absurd h List.not_mem_nil) (by decide +kernel) (by decide +kernel)
/-- M.doDeed -/
def syt_785 : CO := (nat_lit 189, nat_lit 3, [ee_0, ee_14, ee_127], [sv_19, sv_24, sv_1, sv_4], [], [(nat_lit 1, nat_lit 2, nat_lit 0), (nat_lit 1, nat_lit 3, nat_lit 0)], [(none, [ee_0, ee_14, ee_127], [], [])], [(nat_lit 182, nat_lit 103, nat_lit 103), (nat_lit 182, nat_lit 105, nat_lit 105), (nat_lit 182, nat_lit 112, nat_lit 112), (nat_lit 182, nat_lit 119, nat_lit 119), (nat_lit 182, nat_lit 126, nat_lit 126), (nat_lit 182, nat_lit 140, nat_lit 140), (nat_lit 182, nat_lit 146, nat_lit 153)], [], [], [])
set_option maxRecDepth 100000 in
theorem syc_785 : CoOk GG MM syt_785 := chk_okF (cs := [syt_299, syt_243, syt_303, syt_304]) (F := 4000) (cs_c syc_299 <| cs_c syc_243 <| cs_c syc_303 <| cs_c syc_304 cs_n) (by decide +kernel) (by decide +kernel)
/-- M.drawsFor -/
def syt_786 : CO := (nat_lit 194, nat_lit 4, [ee_0, ee_130], [sv_19, sv_24], [(nat_lit 182, nat_lit 0, sv_1)], [(nat_lit 2, nat_lit 182, nat_lit 0)], [(none, [ee_0, ee_130, ee_30], [(nat_lit 182, nat_lit 0, sv_1), (nat_lit 182, nat_lit 1, sv_4)], [(nat_lit 2, nat_lit 182, nat_lit 1)])], [(nat_lit 180, nat_lit 42, nat_lit 42), (nat_lit 182, nat_lit 103, nat_lit 103), (nat_lit 182, nat_lit 105, nat_lit 105), (nat_lit 182, nat_lit 112, nat_lit 112), (nat_lit 182, nat_lit 119, nat_lit 119), (nat_lit 182, nat_lit 126, nat_lit 126), (nat_lit 182, nat_lit 131, nat_lit 138), (nat_lit 182, nat_lit 140, nat_lit 140), (nat_lit 182, nat_lit 146, nat_lit 153)], [], [], [])
set_option maxRecDepth 100000 in
theorem syc_786 : CoOk GG MM syt_786 := chk_okF (cs := [syt_785, syt_772, syt_773, syt_781, syt_771, syt_365, syt_784, syt_783, syt_782, syt_300]) (F := 4000) (cs_c syc_785 <| cs_c syc_772 <| cs_c syc_773 <| cs_c syc_781 <| cs_c syc_771 <| cs_c syc_365 <| cs_c syc_784 <| cs_c syc_783 <| cs_c syc_782 <| cs_c syc_300 cs_n) (by decide +kernel) (by decide +kernel)
/-- M.draw -/
def syt_787 : CO := (nat_lit 191, nat_lit 1, [ee_0, ee_131], [sv_19, sv_1], [], [(nat_lit 1, nat_lit 1, nat_lit 0)], [(some sv_4, [ee_0, ee_131, ee_27], [], [(nat_lit 1, nat_lit 0, nat_lit 0)])], [(nat_lit 180, nat_lit 42, nat_lit 42)], [], [], [])
set_option maxRecDepth 100000 in
theorem syc_787 : CoOk GG MM syt_787 := chk_okF (cs := []) (F := 4000) (fun _ h => absurd h List.not_mem_nil) (by decide +kernel) (by decide +kernel)
/-- M.why -/
def syt_788 : CO := (nat_lit 291, nat_lit 3, [ee_0, ee_27], [sv_19, sv_24, sv_32, sv_1, sv_6], [], [(nat_lit 1, nat_lit 3, nat_lit 0)], [(some sv_24, [ee_0, ee_78], [], []), (some sv_4, [ee_0, ee_27, ee_152], [], [(nat_lit 1, nat_lit 0, nat_lit 0)]), (some sv_6, [ee_0, ee_27], [], [])], [], [], [], [])
set_option maxRecDepth 100000 in
theorem syc_788 : CoOk GG MM syt_788 := chk_okF (cs := [syt_244, syt_236, syt_317, syt_318, syt_319, syt_320, syt_321, syt_322, syt_370, syt_367, syt_276]) (F := 4000) (cs_c syc_244 <| cs_c syc_236 <| cs_c syc_317 <| cs_c syc_318 <| cs_c syc_319 <| cs_c syc_320 <| cs_c syc_321 <| cs_c syc_322 <| cs_c syc_370 <| cs_c syc_367 <| cs_c syc_276 cs_n) (by decide +kernel) (by decide +kernel)
/-- M.live -/
def syt_789 : CO := (nat_lit 232, nat_lit 1, [ee_0, ee_27], [sv_19, sv_24, sv_32, sv_1, sv_6], [], [(nat_lit 1, nat_lit 3, nat_lit 0)], [(none, [ee_0, ee_27], [], [])], [(nat_lit 182, nat_lit 132, nat_lit 138)], [], [], [])
set_option maxRecDepth 100000 in
theorem syc_789 : CoOk GG MM syt_789 := chk_okF (cs := []) (F := 4000) (fun _ h => absurd h List.not_mem_nil) (by decide +kernel) (by decide +kernel)
/-- M.live -/
def syt_790 : CO := (nat_lit 232, nat_lit 1, [ee_0], [sv_19, sv_32, sv_32, sv_6, sv_6], [], [], [(none, [ee_0], [], [])], [(nat_lit 182, nat_lit 131, nat_lit 138)], [], [], [])
set_option maxRecDepth 100000 in
theorem syc_790 : CoOk GG MM syt_790 := chk_okF (cs := []) (F := 4000) (fun _ h => absurd h List.not_mem_nil) (by decide +kernel) (by decide +kernel)
/-- M.doDeed -/
def syt_791 : CO := (nat_lit 189, nat_lit 3, [ee_0, ee_14, ee_127], [sv_19, sv_32, sv_1, sv_4], [], [(nat_lit 1, nat_lit 2, nat_lit 0), (nat_lit 1, nat_lit 3, nat_lit 0)], [(none, [ee_0, ee_14, ee_127], [], [])], [(nat_lit 182, nat_lit 103, nat_lit 103), (nat_lit 182, nat_lit 106, nat_lit 106), (nat_lit 182, nat_lit 113, nat_lit 113), (nat_lit 182, nat_lit 120, nat_lit 120), (nat_lit 182, nat_lit 127, nat_lit 127), (nat_lit 182, nat_lit 141, nat_lit 141), (nat_lit 182, nat_lit 146, nat_lit 153)], [], [], [])
set_option maxRecDepth 100000 in
theorem syc_791 : CoOk GG MM syt_791 := chk_okF (cs := [syt_299, syt_243, syt_303, syt_304]) (F := 4000) (cs_c syc_299 <| cs_c syc_243 <| cs_c syc_303 <| cs_c syc_304 cs_n) (by decide +kernel) (by decide +kernel)
/-- M.drawsFor -/
def syt_792 : CO := (nat_lit 194, nat_lit 4, [ee_0, ee_131], [sv_19, sv_32], [(nat_lit 182, nat_lit 0, sv_1)], [(nat_lit 2, nat_lit 182, nat_lit 0)], [(none, [ee_0, ee_131, ee_30], [(nat_lit 182, nat_lit 0, sv_1), (nat_lit 182, nat_lit 1, sv_4)], [(nat_lit 2, nat_lit 182, nat_lit 1)])], [(nat_lit 180, nat_lit 42, nat_lit 42), (nat_lit 182, nat_lit 103, nat_lit 103), (nat_lit 182, nat_lit 106, nat_lit 106), (nat_lit 182, nat_lit 113, nat_lit 113), (nat_lit 182, nat_lit 120, nat_lit 120), (nat_lit 182, nat_lit 127, nat_lit 127), (nat_lit 182, nat_lit 131, nat_lit 138), (nat_lit 182, nat_lit 141, nat_lit 141), (nat_lit 182, nat_lit 146, nat_lit 153)], [], [], [])
set_option maxRecDepth 100000 in
theorem syc_792 : CoOk GG MM syt_792 := chk_okF (cs := [syt_791, syt_772, syt_773, syt_787, syt_771, syt_367, syt_790, syt_789, syt_788, syt_300]) (F := 4000) (cs_c syc_791 <| cs_c syc_772 <| cs_c syc_773 <| cs_c syc_787 <| cs_c syc_771 <| cs_c syc_367 <| cs_c syc_790 <| cs_c syc_789 <| cs_c syc_788 <| cs_c syc_300 cs_n) (by decide +kernel) (by decide +kernel)
/-- M.draw -/
def syt_793 : CO := (nat_lit 191, nat_lit 1, [ee_0, ee_132], [sv_19, sv_1], [], [(nat_lit 1, nat_lit 1, nat_lit 0)], [(some sv_4, [ee_0, ee_132, ee_27], [], [(nat_lit 1, nat_lit 0, nat_lit 0)])], [(nat_lit 180, nat_lit 42, nat_lit 42)], [], [], [])
set_option maxRecDepth 100000 in
theorem syc_793 : CoOk GG MM syt_793 := chk_okF (cs := []) (F := 4000) (fun _ h => absurd h List.not_mem_nil) (by decide +kernel) (by decide +kernel)
/-- M.why -/
def syt_794 : CO := (nat_lit 291, nat_lit 3, [ee_0, ee_27], [sv_19, sv_24, sv_31, sv_1, sv_6], [], [(nat_lit 1, nat_lit 3, nat_lit 0)], [(some sv_24, [ee_0, ee_128], [], []), (some sv_4, [ee_0, ee_27, ee_152], [], [(nat_lit 1, nat_lit 0, nat_lit 0)]), (some sv_6, [ee_0, ee_27], [], [])], [], [], [], [])
set_option maxRecDepth 100000 in
theorem syc_794 : CoOk GG MM syt_794 := chk_okF (cs := [syt_244, syt_236, syt_317, syt_318, syt_319, syt_320, syt_321, syt_322, syt_372, syt_369, syt_276]) (F := 4000) (cs_c syc_244 <| cs_c syc_236 <| cs_c syc_317 <| cs_c syc_318 <| cs_c syc_319 <| cs_c syc_320 <| cs_c syc_321 <| cs_c syc_322 <| cs_c syc_372 <| cs_c syc_369 <| cs_c syc_276 cs_n) (by decide +kernel) (by decide +kernel)
/-- M.live -/
def syt_795 : CO := (nat_lit 232, nat_lit 1, [ee_0, ee_27], [sv_19, sv_24, sv_31, sv_1, sv_6], [], [(nat_lit 1, nat_lit 3, nat_lit 0)], [(none, [ee_0, ee_27], [], [])], [(nat_lit 182, nat_lit 132, nat_lit 138)], [], [], [])
set_option maxRecDepth 100000 in
theorem syc_795 : CoOk GG MM syt_795 := chk_okF (cs := []) (F := 4000) (fun _ h => absurd h List.not_mem_nil) (by decide +kernel) (by decide +kernel)
/-- M.live -/
def syt_796 : CO := (nat_lit 232, nat_lit 1, [ee_0], [sv_19, sv_32, sv_31, sv_6, sv_6], [], [], [(none, [ee_0], [], [])], [(nat_lit 182, nat_lit 131, nat_lit 138)], [], [], [])
set_option maxRecDepth 100000 in
theorem syc_796 : CoOk GG MM syt_796 := chk_okF (cs := []) (F := 4000) (fun _ h => absurd h List.not_mem_nil) (by decide +kernel) (by decide +kernel)
/-- M.doDeed -/
def syt_797 : CO := (nat_lit 189, nat_lit 3, [ee_0, ee_14, ee_127], [sv_19, sv_31, sv_1, sv_4], [], [(nat_lit 1, nat_lit 2, nat_lit 0), (nat_lit 1, nat_lit 3, nat_lit 0)], [(none, [ee_0, ee_14, ee_127], [], [])], [(nat_lit 182, nat_lit 103, nat_lit 103), (nat_lit 182, nat_lit 107, nat_lit 107), (nat_lit 182, nat_lit 114, nat_lit 114), (nat_lit 182, nat_lit 121, nat_lit 121), (nat_lit 182, nat_lit 128, nat_lit 128), (nat_lit 182, nat_lit 142, nat_lit 142), (nat_lit 182, nat_lit 146, nat_lit 153)], [], [], [])
set_option maxRecDepth 100000 in
theorem syc_797 : CoOk GG MM syt_797 := chk_okF (cs := [syt_299, syt_243, syt_303, syt_304]) (F := 4000) (cs_c syc_299 <| cs_c syc_243 <| cs_c syc_303 <| cs_c syc_304 cs_n) (by decide +kernel) (by decide +kernel)
/-- M.drawsFor -/
def syt_798 : CO := (nat_lit 194, nat_lit 4, [ee_0, ee_132], [sv_19, sv_31], [(nat_lit 182, nat_lit 0, sv_1)], [(nat_lit 2, nat_lit 182, nat_lit 0)], [(none, [ee_0, ee_132, ee_30], [(nat_lit 182, nat_lit 0, sv_1), (nat_lit 182, nat_lit 1, sv_4)], [(nat_lit 2, nat_lit 182, nat_lit 1)])], [(nat_lit 180, nat_lit 42, nat_lit 42), (nat_lit 182, nat_lit 103, nat_lit 103), (nat_lit 182, nat_lit 107, nat_lit 107), (nat_lit 182, nat_lit 114, nat_lit 114), (nat_lit 182, nat_lit 121, nat_lit 121), (nat_lit 182, nat_lit 128, nat_lit 128), (nat_lit 182, nat_lit 131, nat_lit 138), (nat_lit 182, nat_lit 142, nat_lit 142), (nat_lit 182, nat_lit 146, nat_lit 153)], [], [], [])
set_option maxRecDepth 100000 in
theorem syc_798 : CoOk GG MM syt_798 := chk_okF (cs := [syt_797, syt_772, syt_773, syt_793, syt_771, syt_369, syt_796, syt_795, syt_794, syt_300]) (F := 4000) (cs_c syc_797 <| cs_c syc_772 <| cs_c syc_773 <| cs_c syc_793 <| cs_c syc_771 <| cs_c syc_369 <| cs_c syc_796 <| cs_c syc_795 <| cs_c syc_794 <| cs_c syc_300 cs_n) (by decide +kernel) (by decide +kernel)
/-- M.draw -/
def syt_799 : CO := (nat_lit 191, nat_lit 1, [ee_0, ee_133], [sv_19, sv_1], [], [(nat_lit 1, nat_lit 1, nat_lit 0)], [(some sv_4, [ee_0, ee_133, ee_27], [], [(nat_lit 1, nat_lit 0, nat_lit 0)])], [(nat_lit 180, nat_lit 42, nat_lit 42)], [], [], [])
set_option maxRecDepth 100000 in
theorem syc_799 : CoOk GG MM syt_799 := chk_okF (cs := []) (F := 4000) (fun _ h => absurd h List.not_mem_nil) (by decide +kernel) (by decide +kernel)
/-- M.why -/
def syt_800 : CO := (nat_lit 291, nat_lit 3, [ee_0, ee_27], [sv_19, sv_24, sv_38, sv_1, sv_6], [], [(nat_lit 1, nat_lit 3, nat_lit 0)], [(some sv_24, [ee_0, ee_144], [], []), (some sv_4, [ee_0, ee_27, ee_152], [], [(nat_lit 1, nat_lit 0, nat_lit 0)]), (some sv_6, [ee_0, ee_27], [], [])], [], [], [], [])
set_option maxRecDepth 100000 in
theorem syc_800 : CoOk GG MM syt_800 := chk_okF (cs := [syt_244, syt_236, syt_317, syt_318, syt_319, syt_320, syt_321, syt_322, syt_374, syt_371, syt_276]) (F := 4000) (cs_c syc_244 <| cs_c syc_236 <| cs_c syc_317 <| cs_c syc_318 <| cs_c syc_319 <| cs_c syc_320 <| cs_c syc_321 <| cs_c syc_322 <| cs_c syc_374 <| cs_c syc_371 <| cs_c syc_276 cs_n) (by decide +kernel) (by decide +kernel)
/-- M.live -/
def syt_801 : CO := (nat_lit 232, nat_lit 1, [ee_0, ee_27], [sv_19, sv_24, sv_38, sv_1, sv_6], [], [(nat_lit 1, nat_lit 3, nat_lit 0)], [(none, [ee_0, ee_27], [], [])], [(nat_lit 182, nat_lit 132, nat_lit 138)], [], [], [])
set_option maxRecDepth 100000 in
theorem syc_801 : CoOk GG MM syt_801 := chk_okF (cs := []) (F := 4000) (fun _ h => absurd h List.not_mem_nil) (by decide +kernel) (by decide +kernel)
/-- M.live -/
def syt_802 : CO := (nat_lit 232, nat_lit 1, [ee_0], [sv_19, sv_32, sv_38, sv_6, sv_6], [], [], [(none, [ee_0], [], [])], [(nat_lit 182, nat_lit 131, nat_lit 138)], [], [], [])
set_option maxRecDepth 100000 in
theorem syc_802 : CoOk GG MM syt_802 := chk_okF (cs := []) (F := 4000) (fun _ h => absurd h List.not_mem_nil) (by decide +kernel) (by decide +kernel)
/-- M.doDeed -/
def syt_803 : CO := (nat_lit 189, nat_lit 3, [ee_0, ee_14, ee_127], [sv_19, sv_38, sv_1, sv_4], [], [(nat_lit 1, nat_lit 2, nat_lit 0), (nat_lit 1, nat_lit 3, nat_lit 0)], [(none, [ee_0, ee_14, ee_127], [], [])], [(nat_lit 182, nat_lit 103, nat_lit 103), (nat_lit 182, nat_lit 108, nat_lit 108), (nat_lit 182, nat_lit 115, nat_lit 115), (nat_lit 182, nat_lit 122, nat_lit 122), (nat_lit 182, nat_lit 129, nat_lit 129), (nat_lit 182, nat_lit 143, nat_lit 143), (nat_lit 182, nat_lit 146, nat_lit 153)], [], [], [])
set_option maxRecDepth 100000 in
theorem syc_803 : CoOk GG MM syt_803 := chk_okF (cs := [syt_299, syt_243, syt_303, syt_304]) (F := 4000) (cs_c syc_299 <| cs_c syc_243 <| cs_c syc_303 <| cs_c syc_304 cs_n) (by decide +kernel) (by decide +kernel)
/-- M.drawsFor -/
def syt_804 : CO := (nat_lit 194, nat_lit 4, [ee_0, ee_133], [sv_19, sv_38], [(nat_lit 182, nat_lit 0, sv_1)], [(nat_lit 2, nat_lit 182, nat_lit 0)], [(none, [ee_0, ee_133, ee_30], [(nat_lit 182, nat_lit 0, sv_1), (nat_lit 182, nat_lit 1, sv_4)], [(nat_lit 2, nat_lit 182, nat_lit 1)])], [(nat_lit 180, nat_lit 42, nat_lit 42), (nat_lit 182, nat_lit 103, nat_lit 103), (nat_lit 182, nat_lit 108, nat_lit 108), (nat_lit 182, nat_lit 115, nat_lit 115), (nat_lit 182, nat_lit 122, nat_lit 122), (nat_lit 182, nat_lit 129, nat_lit 129), (nat_lit 182, nat_lit 131, nat_lit 138), (nat_lit 182, nat_lit 143, nat_lit 143), (nat_lit 182, nat_lit 146, nat_lit 153)], [], [], [])
set_option maxRecDepth 100000 in
theorem syc_804 : CoOk GG MM syt_804 := chk_okF (cs := [syt_803, syt_772, syt_773, syt_799, syt_771, syt_371, syt_802, syt_801, syt_800, syt_300]) (F := 4000) (cs_c syc_803 <| cs_c syc_772 <| cs_c syc_773 <| cs_c syc_799 <| cs_c syc_771 <| cs_c syc_371 <| cs_c syc_802 <| cs_c syc_801 <| cs_c syc_800 <| cs_c syc_300 cs_n) (by decide +kernel) (by decide +kernel)
/-- M.draw -/
def syt_805 : CO := (nat_lit 191, nat_lit 1, [ee_0, ee_134], [sv_19, sv_1], [], [(nat_lit 1, nat_lit 1, nat_lit 0)], [(some sv_4, [ee_0, ee_134, ee_27], [], [(nat_lit 1, nat_lit 0, nat_lit 0)])], [(nat_lit 180, nat_lit 42, nat_lit 42)], [], [], [])
set_option maxRecDepth 100000 in
theorem syc_805 : CoOk GG MM syt_805 := chk_okF (cs := []) (F := 4000) (fun _ h => absurd h List.not_mem_nil) (by decide +kernel) (by decide +kernel)
/-- M.why -/
def syt_806 : CO := (nat_lit 291, nat_lit 3, [ee_0, ee_27], [sv_19, sv_24, sv_68, sv_1, sv_6], [], [(nat_lit 1, nat_lit 3, nat_lit 0)], [(some sv_24, [ee_0, ee_147], [], []), (some sv_4, [ee_0, ee_27, ee_152], [], [(nat_lit 1, nat_lit 0, nat_lit 0)]), (some sv_6, [ee_0, ee_27], [], [])], [], [], [], [])
set_option maxRecDepth 100000 in
theorem syc_806 : CoOk GG MM syt_806 := chk_okF (cs := [syt_244, syt_236, syt_317, syt_318, syt_319, syt_320, syt_321, syt_322, syt_376, syt_373, syt_276]) (F := 4000) (cs_c syc_244 <| cs_c syc_236 <| cs_c syc_317 <| cs_c syc_318 <| cs_c syc_319 <| cs_c syc_320 <| cs_c syc_321 <| cs_c syc_322 <| cs_c syc_376 <| cs_c syc_373 <| cs_c syc_276 cs_n) (by decide +kernel) (by decide +kernel)
/-- M.live -/
def syt_807 : CO := (nat_lit 232, nat_lit 1, [ee_0, ee_27], [sv_19, sv_24, sv_68, sv_1, sv_6], [], [(nat_lit 1, nat_lit 3, nat_lit 0)], [(none, [ee_0, ee_27], [], [])], [(nat_lit 182, nat_lit 132, nat_lit 138)], [], [], [])
set_option maxRecDepth 100000 in
theorem syc_807 : CoOk GG MM syt_807 := chk_okF (cs := []) (F := 4000) (fun _ h => absurd h List.not_mem_nil) (by decide +kernel) (by decide +kernel)
/-- M.live -/
def syt_808 : CO := (nat_lit 232, nat_lit 1, [ee_0], [sv_19, sv_32, sv_68, sv_6, sv_6], [], [], [(none, [ee_0], [], [])], [(nat_lit 182, nat_lit 131, nat_lit 138)], [], [], [])
set_option maxRecDepth 100000 in
theorem syc_808 : CoOk GG MM syt_808 := chk_okF (cs := []) (F := 4000) (fun _ h => absurd h List.not_mem_nil) (by decide +kernel) (by decide +kernel)
/-- M.doDeed -/
def syt_809 : CO := (nat_lit 189, nat_lit 3, [ee_0, ee_14, ee_127], [sv_19, sv_68, sv_1, sv_4], [], [(nat_lit 1, nat_lit 2, nat_lit 0), (nat_lit 1, nat_lit 3, nat_lit 0)], [(none, [ee_0, ee_14, ee_127], [], [])], [(nat_lit 182, nat_lit 103, nat_lit 103), (nat_lit 182, nat_lit 109, nat_lit 109), (nat_lit 182, nat_lit 116, nat_lit 116), (nat_lit 182, nat_lit 123, nat_lit 123), (nat_lit 182, nat_lit 130, nat_lit 130), (nat_lit 182, nat_lit 144, nat_lit 144), (nat_lit 182, nat_lit 146, nat_lit 153)], [], [], [])
set_option maxRecDepth 100000 in
theorem syc_809 : CoOk GG MM syt_809 := chk_okF (cs := [syt_299, syt_243, syt_303, syt_304]) (F := 4000) (cs_c syc_299 <| cs_c syc_243 <| cs_c syc_303 <| cs_c syc_304 cs_n) (by decide +kernel) (by decide +kernel)
/-- M.drawsFor -/
def syt_810 : CO := (nat_lit 194, nat_lit 4, [ee_0, ee_134], [sv_19, sv_68], [(nat_lit 182, nat_lit 0, sv_1)], [(nat_lit 2, nat_lit 182, nat_lit 0)], [(none, [ee_0, ee_134, ee_30], [(nat_lit 182, nat_lit 0, sv_1), (nat_lit 182, nat_lit 1, sv_4)], [(nat_lit 2, nat_lit 182, nat_lit 1)])], [(nat_lit 180, nat_lit 42, nat_lit 42), (nat_lit 182, nat_lit 103, nat_lit 103), (nat_lit 182, nat_lit 109, nat_lit 109), (nat_lit 182, nat_lit 116, nat_lit 116), (nat_lit 182, nat_lit 123, nat_lit 123), (nat_lit 182, nat_lit 130, nat_lit 138), (nat_lit 182, nat_lit 144, nat_lit 144), (nat_lit 182, nat_lit 146, nat_lit 153)], [], [], [])
set_option maxRecDepth 100000 in
theorem syc_810 : CoOk GG MM syt_810 := chk_okF (cs := [syt_809, syt_772, syt_773, syt_805, syt_771, syt_373, syt_808, syt_807, syt_806, syt_300]) (F := 4000) (cs_c syc_809 <| cs_c syc_772 <| cs_c syc_773 <| cs_c syc_805 <| cs_c syc_771 <| cs_c syc_373 <| cs_c syc_808 <| cs_c syc_807 <| cs_c syc_806 <| cs_c syc_300 cs_n) (by decide +kernel) (by decide +kernel)
/-- M.draw -/
def syt_811 : CO := (nat_lit 191, nat_lit 1, [ee_0, ee_79], [sv_19, sv_1], [], [(nat_lit 1, nat_lit 1, nat_lit 0)], [(some sv_4, [ee_0, ee_79, ee_27], [], [(nat_lit 1, nat_lit 0, nat_lit 0)])], [(nat_lit 180, nat_lit 42, nat_lit 42)], [], [], [])
set_option maxRecDepth 100000 in
theorem syc_811 : CoOk GG MM syt_811 := chk_okF (cs := []) (F := 4000) (fun _ h => absurd h List.not_mem_nil) (by decide +kernel) (by decide +kernel)
/-- M.why -/
def syt_812 : CO := (nat_lit 291, nat_lit 3, [ee_0, ee_27], [sv_19, sv_24, sv_70, sv_1, sv_6], [], [(nat_lit 1, nat_lit 3, nat_lit 0)], [(some sv_24, [ee_0, ee_115], [], []), (some sv_4, [ee_0, ee_116, ee_152], [], [(nat_lit 1, nat_lit 0, nat_lit 0)]), (some sv_6, [ee_0, ee_116], [], [])], [], [], [], [])
set_option maxRecDepth 100000 in
theorem syc_812 : CoOk GG MM syt_812 := chk_okF (cs := [syt_244, syt_236, syt_317, syt_318, syt_319, syt_320, syt_321, syt_377, syt_375, syt_275]) (F := 4000) (cs_c syc_244 <| cs_c syc_236 <| cs_c syc_317 <| cs_c syc_318 <| cs_c syc_319 <| cs_c syc_320 <| cs_c syc_321 <| cs_c syc_377 <| cs_c syc_375 <| cs_c syc_275 cs_n) (by decide +kernel) (by decide +kernel)
/-- M.live -/
def syt_813 : CO := (nat_lit 232, nat_lit 1, [ee_0, ee_116], [sv_19, sv_24, sv_70, sv_1, sv_6], [], [(nat_lit 1, nat_lit 3, nat_lit 0)], [(none, [ee_0, ee_116], [], [])], [(nat_lit 182, nat_lit 132, nat_lit 138)], [], [], [])
set_option maxRecDepth 100000 in
theorem syc_813 : CoOk GG MM syt_813 := chk_okF (cs := []) (F := 4000) (fun _ h => absurd h List.not_mem_nil) (by decide +kernel) (by decide +kernel)
/-- M.live -/
def syt_814 : CO := (nat_lit 232, nat_lit 1, [ee_0], [sv_19, sv_32, sv_70, sv_6, sv_6], [], [], [(none, [ee_0], [], [])], [(nat_lit 182, nat_lit 131, nat_lit 138)], [], [], [])
set_option maxRecDepth 100000 in
theorem syc_814 : CoOk GG MM syt_814 := chk_okF (cs := []) (F := 4000) (fun _ h => absurd h List.not_mem_nil) (by decide +kernel) (by decide +kernel)
/-- M.doDeed -/
def syt_815 : CO := (nat_lit 189, nat_lit 3, [ee_0, ee_14, ee_127], [sv_19, sv_70, sv_1, sv_4], [], [(nat_lit 1, nat_lit 2, nat_lit 0), (nat_lit 1, nat_lit 3, nat_lit 0)], [(none, [ee_0, ee_14, ee_127], [], [])], [(nat_lit 182, nat_lit 103, nat_lit 103), (nat_lit 182, nat_lit 110, nat_lit 110), (nat_lit 182, nat_lit 117, nat_lit 117), (nat_lit 182, nat_lit 124, nat_lit 124), (nat_lit 182, nat_lit 131, nat_lit 131), (nat_lit 182, nat_lit 145, nat_lit 153)], [], [], [])
set_option maxRecDepth 100000 in
theorem syc_815 : CoOk GG MM syt_815 := chk_okF (cs := [syt_299, syt_243, syt_303, syt_304]) (F := 4000) (cs_c syc_299 <| cs_c syc_243 <| cs_c syc_303 <| cs_c syc_304 cs_n) (by decide +kernel) (by decide +kernel)
/-- M.drawsFor -/
def syt_816 : CO := (nat_lit 194, nat_lit 4, [ee_0, ee_79], [sv_19, sv_70], [(nat_lit 182, nat_lit 0, sv_1)], [(nat_lit 2, nat_lit 182, nat_lit 0)], [(none, [ee_0, ee_79, ee_30], [(nat_lit 182, nat_lit 0, sv_1), (nat_lit 182, nat_lit 1, sv_4)], [(nat_lit 2, nat_lit 182, nat_lit 1)])], [(nat_lit 180, nat_lit 42, nat_lit 42), (nat_lit 182, nat_lit 103, nat_lit 103), (nat_lit 182, nat_lit 110, nat_lit 110), (nat_lit 182, nat_lit 117, nat_lit 117), (nat_lit 182, nat_lit 124, nat_lit 124), (nat_lit 182, nat_lit 131, nat_lit 138), (nat_lit 182, nat_lit 145, nat_lit 153)], [], [], [])
set_option maxRecDepth 100000 in
theorem syc_816 : CoOk GG MM syt_816 := chk_okF (cs := [syt_815, syt_772, syt_773, syt_811, syt_771, syt_375, syt_814, syt_813, syt_812, syt_300]) (F := 4000) (cs_c syc_815 <| cs_c syc_772 <| cs_c syc_773 <| cs_c syc_811 <| cs_c syc_771 <| cs_c syc_375 <| cs_c syc_814 <| cs_c syc_813 <| cs_c syc_812 <| cs_c syc_300 cs_n) (by decide +kernel) (by decide +kernel)
/-- M.drawDays -/
def syt_817 : CO := (nat_lit 192, nat_lit 5, [ee_0, ee_153, ee_1], [sv_19, sv_1, sv_4], [], [(nat_lit 1, nat_lit 1, nat_lit 0), (nat_lit 1, nat_lit 2, nat_lit 0)], [(some sv_9, [ee_0, ee_153, ee_1, ee_155], [], [(nat_lit 1, nat_lit 0, nat_lit 0)])], [(nat_lit 180, nat_lit 42, nat_lit 42), (nat_lit 182, nat_lit 101, nat_lit 101), (nat_lit 182, nat_lit 103, nat_lit 153)], [(nat_lit 24, nat_lit 1, nat_lit 1, ([ee_0, ee_153, ee_1, ee_154, ee_155], [(nat_lit 0, sv_19), (nat_lit 3, sv_10), (nat_lit 4, sv_9)], [], []), [(nat_lit 0, nat_lit 4, nat_lit 0), (nat_lit 0, nat_lit 3, nat_lit 0)], [(nat_lit 33, nat_lit 1)]),
  (nat_lit 33, nat_lit 1, nat_lit 3, ([ee_0, ee_153, ee_1, ee_15, ee_153], [(nat_lit 0, sv_19), (nat_lit 3, sv_10), (nat_lit 4, sv_9), (nat_lit 5, sv_6)], [], []), [(nat_lit 0, nat_lit 3, nat_lit 0)], [(nat_lit 24, nat_lit 0), (nat_lit 33, nat_lit 2)]),
  (nat_lit 33, nat_lit 1, nat_lit 3, ([ee_0, ee_153, ee_1, ee_15, ee_153, ee_26, ee_30], [(nat_lit 0, sv_19), (nat_lit 3, sv_10), (nat_lit 4, sv_9), (nat_lit 5, sv_24)], [], [(nat_lit 182, nat_lit 0, sv_11), (nat_lit 182, nat_lit 1, sv_17)]), [(nat_lit 0, nat_lit 3, nat_lit 0), (nat_lit 2, nat_lit 182, nat_lit 0), (nat_lit 2, nat_lit 182, nat_lit 1)], [(nat_lit 24, nat_lit 0), (nat_lit 33, nat_lit 3)]),
  (nat_lit 33, nat_lit 1, nat_lit 3, ([ee_0, ee_153, ee_1, ee_15, ee_153, ee_130, ee_30], [(nat_lit 0, sv_19), (nat_lit 3, sv_10), (nat_lit 4, sv_9), (nat_lit 5, sv_32)], [], [(nat_lit 182, nat_lit 0, sv_11), (nat_lit 182, nat_lit 1, sv_17)]), [(nat_lit 0, nat_lit 3, nat_lit 0), (nat_lit 2, nat_lit 182, nat_lit 0), (nat_lit 2, nat_lit 182, nat_lit 1)], [(nat_lit 24, nat_lit 0), (nat_lit 33, nat_lit 4)]),
  (nat_lit 33, nat_lit 1, nat_lit 3, ([ee_0, ee_153, ee_1, ee_15, ee_153, ee_131, ee_30], [(nat_lit 0, sv_19), (nat_lit 3, sv_10), (nat_lit 4, sv_9), (nat_lit 5, sv_31)], [], [(nat_lit 182, nat_lit 0, sv_11), (nat_lit 182, nat_lit 1, sv_17)]), [(nat_lit 0, nat_lit 3, nat_lit 0), (nat_lit 2, nat_lit 182, nat_lit 0), (nat_lit 2, nat_lit 182, nat_lit 1)], [(nat_lit 24, nat_lit 0), (nat_lit 33, nat_lit 5)]),
  (nat_lit 33, nat_lit 1, nat_lit 3, ([ee_0, ee_153, ee_1, ee_15, ee_153, ee_132, ee_30], [(nat_lit 0, sv_19), (nat_lit 3, sv_10), (nat_lit 4, sv_9), (nat_lit 5, sv_38)], [], [(nat_lit 182, nat_lit 0, sv_11), (nat_lit 182, nat_lit 1, sv_17)]), [(nat_lit 0, nat_lit 3, nat_lit 0), (nat_lit 2, nat_lit 182, nat_lit 0), (nat_lit 2, nat_lit 182, nat_lit 1)], [(nat_lit 24, nat_lit 0), (nat_lit 33, nat_lit 6)]),
  (nat_lit 33, nat_lit 1, nat_lit 3, ([ee_0, ee_153, ee_1, ee_15, ee_153, ee_133, ee_30], [(nat_lit 0, sv_19), (nat_lit 3, sv_10), (nat_lit 4, sv_9), (nat_lit 5, sv_68)], [], [(nat_lit 182, nat_lit 0, sv_11), (nat_lit 182, nat_lit 1, sv_17)]), [(nat_lit 0, nat_lit 3, nat_lit 0), (nat_lit 2, nat_lit 182, nat_lit 0), (nat_lit 2, nat_lit 182, nat_lit 1)], [(nat_lit 24, nat_lit 0), (nat_lit 33, nat_lit 7)]),
  (nat_lit 33, nat_lit 1, nat_lit 3, ([ee_0, ee_153, ee_1, ee_15, ee_153, ee_134, ee_30], [(nat_lit 0, sv_19), (nat_lit 3, sv_10), (nat_lit 4, sv_9), (nat_lit 5, sv_70)], [], [(nat_lit 182, nat_lit 0, sv_11), (nat_lit 182, nat_lit 1, sv_17)]), [(nat_lit 0, nat_lit 3, nat_lit 0), (nat_lit 2, nat_lit 182, nat_lit 0), (nat_lit 2, nat_lit 182, nat_lit 1)], [(nat_lit 24, nat_lit 0), (nat_lit 33, nat_lit 8)]),
  (nat_lit 33, nat_lit 1, nat_lit 3, ([ee_0, ee_153, ee_1, ee_15, ee_153, ee_79, ee_30], [(nat_lit 0, sv_19), (nat_lit 3, sv_10), (nat_lit 4, sv_9), (nat_lit 5, sv_59)], [], [(nat_lit 182, nat_lit 0, sv_11), (nat_lit 182, nat_lit 1, sv_17)]), [(nat_lit 0, nat_lit 3, nat_lit 0), (nat_lit 2, nat_lit 182, nat_lit 0), (nat_lit 2, nat_lit 182, nat_lit 1)], [(nat_lit 24, nat_lit 0)])], [], [(nat_lit 24, nat_lit 0)])
set_option maxRecDepth 100000 in
theorem syc_817 : CoOk GG MM syt_817 := chk_okF (cs := [syt_816, syt_810, syt_804, syt_798, syt_792, syt_786, syt_780, syt_362, syt_378]) (F := 4000) (cs_c syc_816 <| cs_c syc_810 <| cs_c syc_804 <| cs_c syc_798 <| cs_c syc_792 <| cs_c syc_786 <| cs_c syc_780 <| cs_c syc_362 <| cs_c syc_378 cs_n) (by decide +kernel) (by decide +kernel)
/-- M.drawn -/
def syt_818 : CO := (nat_lit 193, nat_lit 6, [ee_0, ee_1, ee_1], [sv_19, sv_1, sv_4], [], [(nat_lit 1, nat_lit 1, nat_lit 0), (nat_lit 1, nat_lit 2, nat_lit 0)], [(some sv_16, [ee_0, ee_1, ee_1], [], []), (some sv_6, [ee_0, ee_153, ee_1, ee_26], [(nat_lit 182, nat_lit 0, sv_9)], [(nat_lit 2, nat_lit 182, nat_lit 0)]), (some sv_10, [ee_0, ee_153, ee_1, ee_26, ee_155], [(nat_lit 182, nat_lit 0, sv_9)], [(nat_lit 2, nat_lit 182, nat_lit 0), (nat_lit 1, nat_lit 0, nat_lit 0)])], [(nat_lit 180, nat_lit 0, nat_lit 0), (nat_lit 180, nat_lit 24, nat_lit 24), (nat_lit 180, nat_lit 42, nat_lit 42), (nat_lit 182, nat_lit 101, nat_lit 101), (nat_lit 182, nat_lit 103, nat_lit 153), (nat_lit 185, nat_lit 0, nat_lit 423)], [], [], [])
set_option maxRecDepth 100000 in
theorem syc_818 : CoOk GG MM syt_818 := chk_okF (cs := [syt_817, syt_361, syt_302]) (F := 4000) (cs_c syc_817 <| cs_c syc_361 <| cs_c syc_302 cs_n) (by decide +kernel) (by decide +kernel)
/-- Life.copyFrom -/
def syt_819 : CO := (nat_lit 94, nat_lit 1, [ee_0], [sv_232, sv_41], [], [], [(none, [ee_0], [], [])], [(nat_lit 31, nat_lit 0, nat_lit 3), (nat_lit 32, nat_lit 0, nat_lit 7), (nat_lit 33, nat_lit 0, nat_lit 7), (nat_lit 34, nat_lit 0, nat_lit 7), (nat_lit 35, nat_lit 0, nat_lit 7), (nat_lit 36, nat_lit 0, nat_lit 7), (nat_lit 37, nat_lit 0, nat_lit 7), (nat_lit 38, nat_lit 0, nat_lit 8)], [], [], [])
set_option maxRecDepth 100000 in
theorem syc_819 : CoOk GG MM syt_819 := chk_okF (cs := []) (F := 4000) (fun _ h => absurd h List.not_mem_nil) (by decide +kernel) (by decide +kernel)
/-- Life.draw -/
def syt_820 : CO := (nat_lit 97, nat_lit 1, [ee_0, ee_31], [sv_232, sv_1], [], [(nat_lit 1, nat_lit 1, nat_lit 0)], [(some sv_4, [ee_0, ee_31, ee_14], [], [(nat_lit 1, nat_lit 0, nat_lit 0)])], [(nat_lit 31, nat_lit 4, nat_lit 4)], [], [], [])
set_option maxRecDepth 100000 in
theorem syc_820 : CoOk GG MM syt_820 := chk_okF (cs := []) (F := 4000) (fun _ h => absurd h List.not_mem_nil) (by decide +kernel) (by decide +kernel)
/-- Life.draw -/
def syt_821 : CO := (nat_lit 97, nat_lit 1, [ee_0], [sv_232, sv_31], [], [], [(some sv_1, [ee_0, ee_127], [], [(nat_lit 1, nat_lit 0, nat_lit 0)])], [(nat_lit 31, nat_lit 4, nat_lit 4)], [], [], [])
set_option maxRecDepth 100000 in
theorem syc_821 : CoOk GG MM syt_821 := chk_okF (cs := []) (F := 4000) (fun _ h => absurd h List.not_mem_nil) (by decide +kernel) (by decide +kernel)
/-- Life.isJailed -/
def syt_822 : CO := (nat_lit 103, nat_lit 1, [ee_0, ee_27], [sv_232, sv_1], [], [(nat_lit 1, nat_lit 1, nat_lit 0)], [(some sv_24, [ee_0, ee_27], [], []), (some sv_6, [ee_0, ee_27], [], [])], [], [], [], [])
set_option maxRecDepth 100000 in
theorem syc_822 : CoOk GG MM syt_822 := chk_okF (cs := []) (F := 4000) (fun _ h => absurd h List.not_mem_nil) (by decide +kernel) (by decide +kernel)
/-- Life.isGloved -/
def syt_823 : CO := (nat_lit 102, nat_lit 1, [ee_0, ee_27], [sv_232, sv_1], [], [(nat_lit 1, nat_lit 1, nat_lit 0)], [(some sv_24, [ee_0, ee_27], [], []), (some sv_6, [ee_0, ee_27], [], [])], [], [], [], [])
set_option maxRecDepth 100000 in
theorem syc_823 : CoOk GG MM syt_823 := chk_okF (cs := []) (F := 4000) (fun _ h => absurd h List.not_mem_nil) (by decide +kernel) (by decide +kernel)
/-- Life.whyNotDo -/
def syt_824 : CO := (nat_lit 117, nat_lit 3, [ee_0, ee_27, ee_14, ee_127], [sv_232, sv_12, sv_1, sv_4, sv_9], [], [(nat_lit 1, nat_lit 2, nat_lit 0), (nat_lit 1, nat_lit 3, nat_lit 0), (nat_lit 1, nat_lit 4, nat_lit 0)], [(some sv_10, [ee_0, ee_27, ee_14, ee_127, ee_148], [], [(nat_lit 1, nat_lit 0, nat_lit 0)]), (some sv_6, [ee_0, ee_27, ee_14, ee_127], [], []), (some sv_24, [ee_0, ee_27, ee_14, ee_127], [], [])], [], [], [], [])
set_option maxRecDepth 100000 in
theorem syc_824 : CoOk GG MM syt_824 := chk_okF (cs := [syt_279, syt_249, syt_278, syt_823, syt_822]) (F := 4000) (cs_c syc_279 <| cs_c syc_249 <| cs_c syc_278 <| cs_c syc_823 <| cs_c syc_822 cs_n) (by decide +kernel) (by decide +kernel)
/-- Life.draw -/
def syt_825 : CO := (nat_lit 97, nat_lit 1, [ee_0], [sv_232, sv_5], [], [], [(some sv_1, [ee_0, ee_14], [], [(nat_lit 1, nat_lit 0, nat_lit 0)])], [(nat_lit 31, nat_lit 4, nat_lit 4)], [], [], [])
set_option maxRecDepth 100000 in
theorem syc_825 : CoOk GG MM syt_825 := chk_okF (cs := []) (F := 4000) (fun _ h => absurd h List.not_mem_nil) (by decide +kernel) (by decide +kernel)
/-- Life.draw -/
def syt_826 : CO := (nat_lit 97, nat_lit 1, [ee_0, ee_14], [sv_232, sv_1], [], [(nat_lit 1, nat_lit 1, nat_lit 0)], [(some sv_4, [ee_0, ee_26, ee_27], [], [(nat_lit 1, nat_lit 0, nat_lit 0)]), (some sv_6, [ee_0, ee_0], [], [])], [(nat_lit 31, nat_lit 4, nat_lit 4)], [], [], [])
set_option maxRecDepth 100000 in
theorem syc_826 : CoOk GG MM syt_826 := chk_okF (cs := []) (F := 4000) (fun _ h => absurd h List.not_mem_nil) (by decide +kernel) (by decide +kernel)
/-- Life.isWed -/
def syt_827 : CO := (nat_lit 105, nat_lit 1, [ee_0, ee_27], [sv_232, sv_1], [], [(nat_lit 1, nat_lit 1, nat_lit 0)], [(some sv_24, [ee_0, ee_27], [], []), (some sv_6, [ee_0, ee_27], [], [])], [], [], [], [])
set_option maxRecDepth 100000 in
theorem syc_827 : CoOk GG MM syt_827 := chk_okF (cs := []) (F := 4000) (fun _ h => absurd h List.not_mem_nil) (by decide +kernel) (by decide +kernel)
/-- Life.whyNotWed -/
def syt_828 : CO := (nat_lit 118, nat_lit 2, [ee_0, ee_27, ee_27], [sv_232, sv_1, sv_4], [], [(nat_lit 1, nat_lit 1, nat_lit 0), (nat_lit 1, nat_lit 2, nat_lit 0)], [(some sv_24, [ee_0, ee_27, ee_27], [], []), (some sv_6, [ee_0, ee_27, ee_27], [], []), (some sv_9, [ee_0, ee_27, ee_27, ee_152], [], [(nat_lit 1, nat_lit 0, nat_lit 0)])], [], [], [], [])
set_option maxRecDepth 100000 in
theorem syc_828 : CoOk GG MM syt_828 := chk_okF (cs := [syt_823, syt_822, syt_827]) (F := 4000) (cs_c syc_823 <| cs_c syc_822 <| cs_c syc_827 cs_n) (by decide +kernel) (by decide +kernel)
/-- Life.wedTwo -/
def syt_829 : CO := (nat_lit 115, nat_lit 1, [ee_0, ee_27, ee_27], [sv_232, sv_1, sv_4], [], [(nat_lit 1, nat_lit 1, nat_lit 0), (nat_lit 1, nat_lit 2, nat_lit 0)], [(none, [ee_0, ee_27, ee_27], [], [])], [(nat_lit 36, nat_lit 0, nat_lit 6)], [], [], [])
set_option maxRecDepth 100000 in
theorem syc_829 : CoOk GG MM syt_829 := chk_okF (cs := []) (F := 4000) (fun _ h => absurd h List.not_mem_nil) (by decide +kernel) (by decide +kernel)
/-- Life.partFromSpouse -/
def syt_830 : CO := (nat_lit 109, nat_lit 1, [ee_0, ee_27], [sv_232, sv_1], [], [(nat_lit 1, nat_lit 1, nat_lit 0)], [(none, [ee_0, ee_27], [], [])], [(nat_lit 36, nat_lit 0, nat_lit 6)], [], [], [])
set_option maxRecDepth 100000 in
theorem syc_830 : CoOk GG MM syt_830 := chk_okF (cs := []) (F := 4000) (fun _ h => absurd h List.not_mem_nil) (by decide +kernel) (by decide +kernel)
/-- Life.jailedBits -/
def syt_831 : CO := (nat_lit 106, nat_lit 2, [ee_0], [sv_232], [], [], [(some sv_1, [ee_0, ee_1], [], [(nat_lit 1, nat_lit 0, nat_lit 0)])], [], [(nat_lit 4, nat_lit 1, nat_lit 1, ([ee_0, ee_14, ee_1], [(nat_lit 0, sv_232), (nat_lit 1, sv_4), (nat_lit 2, sv_1)], [], []), [(nat_lit 0, nat_lit 2, nat_lit 0), (nat_lit 0, nat_lit 1, nat_lit 0)], [(nat_lit 4, nat_lit 0)])], [], [(nat_lit 4, nat_lit 0)])
set_option maxRecDepth 100000 in
theorem syc_831 : CoOk GG MM syt_831 := chk_okF (cs := [syt_822]) (F := 4000) (cs_c syc_822 cs_n) (by decide +kernel) (by decide +kernel)
/-- Life.isSeen -/
def syt_832 : CO := (nat_lit 104, nat_lit 3, [ee_0, ee_27], [sv_232, sv_12, sv_1], [], [(nat_lit 1, nat_lit 2, nat_lit 0)], [(some sv_24, [ee_0, ee_27], [], []), (some sv_6, [ee_0, ee_27], [], [])], [], [], [], [])
set_option maxRecDepth 100000 in
theorem syc_832 : CoOk GG MM syt_832 := chk_okF (cs := [syt_831]) (F := 4000) (cs_c syc_831 cs_n) (by decide +kernel) (by decide +kernel)
/-- Life.addBlame -/
def syt_833 : CO := (nat_lit 89, nat_lit 1, [ee_0, ee_27, ee_1], [sv_232, sv_12, sv_1, sv_4], [], [(nat_lit 1, nat_lit 2, nat_lit 0), (nat_lit 1, nat_lit 3, nat_lit 0)], [(none, [ee_0, ee_27, ee_1], [], [])], [(nat_lit 31, nat_lit 1, nat_lit 1), (nat_lit 33, nat_lit 0, nat_lit 6), (nat_lit 34, nat_lit 0, nat_lit 6)], [], [], [])
set_option maxRecDepth 100000 in
theorem syc_833 : CoOk GG MM syt_833 := chk_okF (cs := []) (F := 4000) (fun _ h => absurd h List.not_mem_nil) (by decide +kernel) (by decide +kernel)
/-- Life.doDeed -/
def syt_834 : CO := (nat_lit 96, nat_lit 4, [ee_0, ee_27, ee_14, ee_127], [sv_232, sv_12, sv_1, sv_4, sv_9], [], [(nat_lit 1, nat_lit 2, nat_lit 0), (nat_lit 1, nat_lit 3, nat_lit 0), (nat_lit 1, nat_lit 4, nat_lit 0)], [(none, [ee_0, ee_27, ee_14, ee_127], [], [])], [(nat_lit 31, nat_lit 1, nat_lit 2), (nat_lit 32, nat_lit 0, nat_lit 6), (nat_lit 33, nat_lit 0, nat_lit 6), (nat_lit 34, nat_lit 0, nat_lit 6), (nat_lit 35, nat_lit 0, nat_lit 6), (nat_lit 37, nat_lit 0, nat_lit 6), (nat_lit 38, nat_lit 0, nat_lit 7)], [], [], [])
set_option maxRecDepth 100000 in
theorem syc_834 : CoOk GG MM syt_834 := chk_okF (cs := [syt_833, syt_278, syt_832]) (F := 4000) (cs_c syc_833 <| cs_c syc_278 <| cs_c syc_832 cs_n) (by decide +kernel) (by decide +kernel)
/-- Life.drawActs -/
def syt_835 : CO := (nat_lit 98, nat_lit 5, [ee_0, ee_27], [sv_232, sv_12, sv_1], [], [(nat_lit 1, nat_lit 2, nat_lit 0)], [(none, [ee_0, ee_27], [], [])], [(nat_lit 31, nat_lit 1, nat_lit 2), (nat_lit 31, nat_lit 4, nat_lit 4), (nat_lit 32, nat_lit 0, nat_lit 6), (nat_lit 33, nat_lit 0, nat_lit 6), (nat_lit 34, nat_lit 0, nat_lit 6), (nat_lit 35, nat_lit 0, nat_lit 6), (nat_lit 36, nat_lit 0, nat_lit 6), (nat_lit 37, nat_lit 0, nat_lit 6), (nat_lit 38, nat_lit 0, nat_lit 7)], [], [], [])
set_option maxRecDepth 100000 in
theorem syc_835 : CoOk GG MM syt_835 := chk_okF (cs := [syt_834, syt_821, syt_825, syt_820, syt_826, syt_830, syt_829, syt_824, syt_828]) (F := 4000) (cs_c syc_834 <| cs_c syc_821 <| cs_c syc_825 <| cs_c syc_820 <| cs_c syc_826 <| cs_c syc_830 <| cs_c syc_829 <| cs_c syc_824 <| cs_c syc_828 cs_n) (by decide +kernel) (by decide +kernel)
/-- Life.passDay -/
def syt_836 : CO := (nat_lit 110, nat_lit 2, [ee_0], [sv_232, sv_12], [], [], [(none, [ee_0], [], [])], [(nat_lit 31, nat_lit 0, nat_lit 0), (nat_lit 32, nat_lit 0, nat_lit 6), (nat_lit 34, nat_lit 0, nat_lit 6), (nat_lit 37, nat_lit 0, nat_lit 6)], [(nat_lit 2, nat_lit 1, nat_lit 1, ([ee_0, ee_14], [(nat_lit 0, sv_232), (nat_lit 1, sv_12), (nat_lit 2, sv_1)], [], []), [(nat_lit 0, nat_lit 2, nat_lit 0)], [(nat_lit 2, nat_lit 0), (nat_lit 87, nat_lit 1)]),
  (nat_lit 87, nat_lit 2, nat_lit 1, ([ee_0, ee_14], [(nat_lit 0, sv_232), (nat_lit 1, sv_12), (nat_lit 2, sv_1)], [], []), [(nat_lit 0, nat_lit 2, nat_lit 0)], [(nat_lit 87, nat_lit 1)])], [], [(nat_lit 2, nat_lit 0)])
set_option maxRecDepth 100000 in
theorem syc_836 : CoOk GG MM syt_836 := chk_okF (cs := [syt_822]) (F := 4000) (cs_c syc_822 cs_n) (by decide +kernel) (by decide +kernel)
/-- Life.drawDays -/
def syt_837 : CO := (nat_lit 99, nat_lit 6, [ee_0, ee_435, ee_1], [sv_232, sv_12, sv_1, sv_4], [], [(nat_lit 1, nat_lit 2, nat_lit 0), (nat_lit 1, nat_lit 3, nat_lit 0)], [(none, [ee_0, ee_435, ee_1], [], [])], [(nat_lit 31, nat_lit 0, nat_lit 2), (nat_lit 31, nat_lit 4, nat_lit 4), (nat_lit 32, nat_lit 0, nat_lit 6), (nat_lit 33, nat_lit 0, nat_lit 6), (nat_lit 34, nat_lit 0, nat_lit 6), (nat_lit 35, nat_lit 0, nat_lit 6), (nat_lit 36, nat_lit 0, nat_lit 6), (nat_lit 37, nat_lit 0, nat_lit 6), (nat_lit 38, nat_lit 0, nat_lit 7)], [(nat_lit 8, nat_lit 1, nat_lit 1, ([ee_0, ee_435, ee_1, ee_141], [(nat_lit 0, sv_232), (nat_lit 1, sv_12), (nat_lit 2, sv_1), (nat_lit 4, sv_9)], [], []), [(nat_lit 0, nat_lit 4, nat_lit 0)], [(nat_lit 27, nat_lit 1)]),
  (nat_lit 27, nat_lit 1, nat_lit 3, ([ee_0, ee_436, ee_1, ee_202], [(nat_lit 0, sv_232), (nat_lit 1, sv_12), (nat_lit 2, sv_1), (nat_lit 4, sv_9), (nat_lit 5, sv_6)], [], []), [], [(nat_lit 8, nat_lit 0), (nat_lit 27, nat_lit 2)]),
  (nat_lit 27, nat_lit 1, nat_lit 3, ([ee_0, ee_436, ee_1, ee_202], [(nat_lit 0, sv_232), (nat_lit 1, sv_12), (nat_lit 2, sv_1), (nat_lit 4, sv_9), (nat_lit 5, sv_24)], [], []), [], [(nat_lit 8, nat_lit 0), (nat_lit 27, nat_lit 3)]),
  (nat_lit 27, nat_lit 1, nat_lit 3, ([ee_0, ee_436, ee_1, ee_202], [(nat_lit 0, sv_232), (nat_lit 1, sv_12), (nat_lit 2, sv_1), (nat_lit 4, sv_9), (nat_lit 5, sv_32)], [], []), [], [(nat_lit 8, nat_lit 0), (nat_lit 27, nat_lit 4)]),
  (nat_lit 27, nat_lit 1, nat_lit 3, ([ee_0, ee_436, ee_1, ee_202], [(nat_lit 0, sv_232), (nat_lit 1, sv_12), (nat_lit 2, sv_1), (nat_lit 4, sv_9), (nat_lit 5, sv_31)], [], []), [], [(nat_lit 8, nat_lit 0), (nat_lit 27, nat_lit 5)]),
  (nat_lit 27, nat_lit 1, nat_lit 3, ([ee_0, ee_436, ee_1, ee_202], [(nat_lit 0, sv_232), (nat_lit 1, sv_12), (nat_lit 2, sv_1), (nat_lit 4, sv_9), (nat_lit 5, sv_38)], [], []), [], [(nat_lit 8, nat_lit 0), (nat_lit 27, nat_lit 6)]),
  (nat_lit 27, nat_lit 1, nat_lit 3, ([ee_0, ee_436, ee_1, ee_202], [(nat_lit 0, sv_232), (nat_lit 1, sv_12), (nat_lit 2, sv_1), (nat_lit 4, sv_9), (nat_lit 5, sv_68)], [], []), [], [(nat_lit 8, nat_lit 0), (nat_lit 27, nat_lit 7)]),
  (nat_lit 27, nat_lit 1, nat_lit 3, ([ee_0, ee_436, ee_1, ee_202], [(nat_lit 0, sv_232), (nat_lit 1, sv_12), (nat_lit 2, sv_1), (nat_lit 4, sv_9), (nat_lit 5, sv_70)], [], []), [], [(nat_lit 8, nat_lit 0), (nat_lit 27, nat_lit 8)]),
  (nat_lit 27, nat_lit 1, nat_lit 3, ([ee_0, ee_436, ee_1, ee_202], [(nat_lit 0, sv_232), (nat_lit 1, sv_12), (nat_lit 2, sv_1), (nat_lit 4, sv_9), (nat_lit 5, sv_59)], [], []), [], [(nat_lit 8, nat_lit 0)])], [], [(nat_lit 8, nat_lit 0)])
set_option maxRecDepth 100000 in
theorem syc_837 : CoOk GG MM syt_837 := chk_okF (cs := [syt_835, syt_836]) (F := 4000) (cs_c syc_835 <| cs_c syc_836 cs_n) (by decide +kernel) (by decide +kernel)
/-- X.odds -/
def syt_838 : CO := (nat_lit 30, nat_lit 7, [ee_0, ee_1, ee_1, ee_1], [sv_8, sv_1, sv_4, sv_9], [(nat_lit 0, nat_lit 1, sv_12), (nat_lit 0, nat_lit 2, sv_13), (nat_lit 0, nat_lit 7, sv_14), (nat_lit 0, nat_lit 8, sv_15)], [(nat_lit 1, nat_lit 1, nat_lit 0), (nat_lit 1, nat_lit 2, nat_lit 0), (nat_lit 1, nat_lit 3, nat_lit 0)], [(some sv_16, [ee_0, ee_1, ee_1, ee_1], [(nat_lit 0, nat_lit 1, sv_12), (nat_lit 0, nat_lit 2, sv_13), (nat_lit 0, nat_lit 7, sv_14), (nat_lit 0, nat_lit 8, sv_15)], []), (some sv_10, [ee_0, ee_27, ee_25, ee_1, ee_1], [(nat_lit 0, nat_lit 1, sv_12), (nat_lit 0, nat_lit 2, sv_13), (nat_lit 0, nat_lit 7, sv_14), (nat_lit 0, nat_lit 8, sv_15)], [(nat_lit 1, nat_lit 0, nat_lit 0)])], [(nat_lit 31, nat_lit 0, nat_lit 4), (nat_lit 32, nat_lit 0, nat_lit 7), (nat_lit 33, nat_lit 0, nat_lit 7), (nat_lit 34, nat_lit 0, nat_lit 7), (nat_lit 35, nat_lit 0, nat_lit 7), (nat_lit 36, nat_lit 0, nat_lit 7), (nat_lit 37, nat_lit 0, nat_lit 7), (nat_lit 38, nat_lit 0, nat_lit 8)], [(nat_lit 41, nat_lit 1, nat_lit 1, ([ee_0, ee_27, ee_25, ee_1, ee_33, ee_435, ee_1], [(nat_lit 0, sv_8), (nat_lit 1, sv_1), (nat_lit 2, sv_4), (nat_lit 3, sv_9), (nat_lit 4, sv_11), (nat_lit 5, sv_17), (nat_lit 6, sv_10)], [], [(nat_lit 0, nat_lit 1, sv_12), (nat_lit 0, nat_lit 2, sv_13), (nat_lit 0, nat_lit 7, sv_14), (nat_lit 0, nat_lit 8, sv_15)]), [(nat_lit 0, nat_lit 6, nat_lit 0), (nat_lit 0, nat_lit 4, nat_lit 0), (nat_lit 0, nat_lit 5, nat_lit 0)], [(nat_lit 41, nat_lit 0)])], [], [(nat_lit 41, nat_lit 0)])
set_option maxRecDepth 100000 in
theorem syc_838 : CoOk GG MM syt_838 := chk_okF (cs := [syt_247, syt_819, syt_357, syt_837]) (F := 4000) (cs_c syc_247 <| cs_c syc_819 <| cs_c syc_357 <| cs_c syc_837 cs_n) (by decide +kernel) (by decide +kernel)
/-- M.layAside -/
def syt_839 : CO := (nat_lit 230, nat_lit 1, [ee_0], [sv_19], [], [], [(none, [ee_0], [], [])], [(nat_lit 186, nat_lit 0, nat_lit 52)], [(nat_lit 2, nat_lit 1, nat_lit 0, ([ee_0], [(nat_lit 0, sv_19), (nat_lit 1, sv_6)], [], []), [], [(nat_lit 2, nat_lit 1)]),
  (nat_lit 2, nat_lit 2, nat_lit 0, ([ee_0], [(nat_lit 0, sv_19), (nat_lit 1, sv_5)], [], []), [], [(nat_lit 2, nat_lit 2)]),
  (nat_lit 2, nat_lit 3, nat_lit 0, ([ee_0], [(nat_lit 0, sv_19), (nat_lit 1, sv_3)], [], []), [], [(nat_lit 2, nat_lit 3)]),
  (nat_lit 2, nat_lit 4, nat_lit 0, ([ee_0], [(nat_lit 0, sv_19), (nat_lit 1, sv_2)], [], []), [], [(nat_lit 2, nat_lit 4)]),
  (nat_lit 2, nat_lit 5, nat_lit 0, ([ee_0], [(nat_lit 0, sv_19), (nat_lit 1, sv_133)], [], []), [], [(nat_lit 2, nat_lit 5)]),
  (nat_lit 2, nat_lit 6, nat_lit 0, ([ee_0], [(nat_lit 0, sv_19), (nat_lit 1, sv_134)], [], []), [], [(nat_lit 2, nat_lit 6)]),
  (nat_lit 2, nat_lit 7, nat_lit 0, ([ee_0], [(nat_lit 0, sv_19), (nat_lit 1, sv_135)], [], []), [], [])], [], [(nat_lit 2, nat_lit 0)])
set_option maxRecDepth 100000 in
theorem syc_839 : CoOk GG MM syt_839 := chk_okF (cs := []) (F := 4000) (fun _ h => absurd h List.not_mem_nil) (by decide +kernel) (by decide +kernel)
/-- M.least -/
def syt_840 : CO := (nat_lit 231, nat_lit 1, [ee_0, ee_1], [sv_84, sv_1], [], [(nat_lit 1, nat_lit 1, nat_lit 0)], [(some sv_4, [ee_0, ee_1, ee_435], [], [(nat_lit 1, nat_lit 0, nat_lit 0)])], [], [], [], [])
set_option maxRecDepth 100000 in
theorem syc_840 : CoOk GG MM syt_840 := chk_okF (cs := []) (F := 4000) (fun _ h => absurd h List.not_mem_nil) (by decide +kernel) (by decide +kernel)
/-- M.drawDays -/
def syt_841 : CO := (nat_lit 192, nat_lit 5, [ee_0, ee_1], [sv_19, sv_84, sv_1], [], [(nat_lit 1, nat_lit 2, nat_lit 0)], [(some sv_4, [ee_0, ee_1, ee_435], [], [(nat_lit 1, nat_lit 0, nat_lit 0)])], [(nat_lit 180, nat_lit 42, nat_lit 42), (nat_lit 182, nat_lit 101, nat_lit 101), (nat_lit 182, nat_lit 103, nat_lit 153)], [(nat_lit 24, nat_lit 1, nat_lit 1, ([ee_0, ee_1, ee_141, ee_435], [(nat_lit 0, sv_19), (nat_lit 3, sv_9), (nat_lit 4, sv_4)], [], []), [(nat_lit 0, nat_lit 4, nat_lit 0), (nat_lit 0, nat_lit 3, nat_lit 0)], [(nat_lit 33, nat_lit 1)]),
  (nat_lit 33, nat_lit 1, nat_lit 3, ([ee_0, ee_1, ee_202, ee_436], [(nat_lit 0, sv_19), (nat_lit 3, sv_9), (nat_lit 4, sv_4), (nat_lit 5, sv_6)], [], []), [(nat_lit 0, nat_lit 3, nat_lit 0)], [(nat_lit 24, nat_lit 0), (nat_lit 33, nat_lit 2)]),
  (nat_lit 33, nat_lit 1, nat_lit 3, ([ee_0, ee_1, ee_202, ee_436, ee_26, ee_30], [(nat_lit 0, sv_19), (nat_lit 3, sv_9), (nat_lit 4, sv_4), (nat_lit 5, sv_24)], [], [(nat_lit 182, nat_lit 0, sv_10), (nat_lit 182, nat_lit 1, sv_11)]), [(nat_lit 0, nat_lit 3, nat_lit 0), (nat_lit 2, nat_lit 182, nat_lit 0), (nat_lit 2, nat_lit 182, nat_lit 1)], [(nat_lit 24, nat_lit 0), (nat_lit 33, nat_lit 3)]),
  (nat_lit 33, nat_lit 1, nat_lit 3, ([ee_0, ee_1, ee_202, ee_436, ee_130, ee_30], [(nat_lit 0, sv_19), (nat_lit 3, sv_9), (nat_lit 4, sv_4), (nat_lit 5, sv_32)], [], [(nat_lit 182, nat_lit 0, sv_10), (nat_lit 182, nat_lit 1, sv_11)]), [(nat_lit 0, nat_lit 3, nat_lit 0), (nat_lit 2, nat_lit 182, nat_lit 0), (nat_lit 2, nat_lit 182, nat_lit 1)], [(nat_lit 24, nat_lit 0), (nat_lit 33, nat_lit 4)]),
  (nat_lit 33, nat_lit 1, nat_lit 3, ([ee_0, ee_1, ee_202, ee_436, ee_131, ee_30], [(nat_lit 0, sv_19), (nat_lit 3, sv_9), (nat_lit 4, sv_4), (nat_lit 5, sv_31)], [], [(nat_lit 182, nat_lit 0, sv_10), (nat_lit 182, nat_lit 1, sv_11)]), [(nat_lit 0, nat_lit 3, nat_lit 0), (nat_lit 2, nat_lit 182, nat_lit 0), (nat_lit 2, nat_lit 182, nat_lit 1)], [(nat_lit 24, nat_lit 0), (nat_lit 33, nat_lit 5)]),
  (nat_lit 33, nat_lit 1, nat_lit 3, ([ee_0, ee_1, ee_202, ee_436, ee_132, ee_30], [(nat_lit 0, sv_19), (nat_lit 3, sv_9), (nat_lit 4, sv_4), (nat_lit 5, sv_38)], [], [(nat_lit 182, nat_lit 0, sv_10), (nat_lit 182, nat_lit 1, sv_11)]), [(nat_lit 0, nat_lit 3, nat_lit 0), (nat_lit 2, nat_lit 182, nat_lit 0), (nat_lit 2, nat_lit 182, nat_lit 1)], [(nat_lit 24, nat_lit 0), (nat_lit 33, nat_lit 6)]),
  (nat_lit 33, nat_lit 1, nat_lit 3, ([ee_0, ee_1, ee_202, ee_436, ee_133, ee_30], [(nat_lit 0, sv_19), (nat_lit 3, sv_9), (nat_lit 4, sv_4), (nat_lit 5, sv_68)], [], [(nat_lit 182, nat_lit 0, sv_10), (nat_lit 182, nat_lit 1, sv_11)]), [(nat_lit 0, nat_lit 3, nat_lit 0), (nat_lit 2, nat_lit 182, nat_lit 0), (nat_lit 2, nat_lit 182, nat_lit 1)], [(nat_lit 24, nat_lit 0), (nat_lit 33, nat_lit 7)]),
  (nat_lit 33, nat_lit 1, nat_lit 3, ([ee_0, ee_1, ee_202, ee_436, ee_134, ee_30], [(nat_lit 0, sv_19), (nat_lit 3, sv_9), (nat_lit 4, sv_4), (nat_lit 5, sv_70)], [], [(nat_lit 182, nat_lit 0, sv_10), (nat_lit 182, nat_lit 1, sv_11)]), [(nat_lit 0, nat_lit 3, nat_lit 0), (nat_lit 2, nat_lit 182, nat_lit 0), (nat_lit 2, nat_lit 182, nat_lit 1)], [(nat_lit 24, nat_lit 0), (nat_lit 33, nat_lit 8)]),
  (nat_lit 33, nat_lit 1, nat_lit 3, ([ee_0, ee_1, ee_202, ee_436, ee_79, ee_30], [(nat_lit 0, sv_19), (nat_lit 3, sv_9), (nat_lit 4, sv_4), (nat_lit 5, sv_59)], [], [(nat_lit 182, nat_lit 0, sv_10), (nat_lit 182, nat_lit 1, sv_11)]), [(nat_lit 0, nat_lit 3, nat_lit 0), (nat_lit 2, nat_lit 182, nat_lit 0), (nat_lit 2, nat_lit 182, nat_lit 1)], [(nat_lit 24, nat_lit 0)])], [], [(nat_lit 24, nat_lit 0)])
set_option maxRecDepth 100000 in
theorem syc_841 : CoOk GG MM syt_841 := chk_okF (cs := [syt_816, syt_810, syt_804, syt_798, syt_792, syt_786, syt_780, syt_840, syt_378]) (F := 4000) (cs_c syc_816 <| cs_c syc_810 <| cs_c syc_804 <| cs_c syc_798 <| cs_c syc_792 <| cs_c syc_786 <| cs_c syc_780 <| cs_c syc_840 <| cs_c syc_378 cs_n) (by decide +kernel) (by decide +kernel)
/-- M.takeBack -/
def syt_842 : CO := (nat_lit 284, nat_lit 1, [ee_0], [sv_19], [], [], [(none, [ee_0], [], [])], [(nat_lit 182, nat_lit 101, nat_lit 153)], [(nat_lit 2, nat_lit 1, nat_lit 0, ([ee_0], [(nat_lit 0, sv_19), (nat_lit 1, sv_6)], [], []), [], [(nat_lit 2, nat_lit 1)]),
  (nat_lit 2, nat_lit 2, nat_lit 0, ([ee_0], [(nat_lit 0, sv_19), (nat_lit 1, sv_5)], [], []), [], [(nat_lit 2, nat_lit 2)]),
  (nat_lit 2, nat_lit 3, nat_lit 0, ([ee_0], [(nat_lit 0, sv_19), (nat_lit 1, sv_3)], [], []), [], [(nat_lit 2, nat_lit 3)]),
  (nat_lit 2, nat_lit 4, nat_lit 0, ([ee_0], [(nat_lit 0, sv_19), (nat_lit 1, sv_2)], [], []), [], [(nat_lit 2, nat_lit 4)]),
  (nat_lit 2, nat_lit 5, nat_lit 0, ([ee_0], [(nat_lit 0, sv_19), (nat_lit 1, sv_133)], [], []), [], [(nat_lit 2, nat_lit 5)]),
  (nat_lit 2, nat_lit 6, nat_lit 0, ([ee_0], [(nat_lit 0, sv_19), (nat_lit 1, sv_134)], [], []), [], [(nat_lit 2, nat_lit 6)]),
  (nat_lit 2, nat_lit 7, nat_lit 0, ([ee_0], [(nat_lit 0, sv_19), (nat_lit 1, sv_135)], [], []), [], [])], [], [(nat_lit 2, nat_lit 0)])
set_option maxRecDepth 100000 in
theorem syc_842 : CoOk GG MM syt_842 := chk_okF (cs := []) (F := 4000) (fun _ h => absurd h List.not_mem_nil) (by decide +kernel) (by decide +kernel)
/-- M.odds -/
def syt_843 : CO := (nat_lit 234, nat_lit 6, [ee_0, ee_1, ee_1, ee_1], [sv_19, sv_1, sv_4, sv_9], [], [(nat_lit 1, nat_lit 1, nat_lit 0), (nat_lit 1, nat_lit 2, nat_lit 0), (nat_lit 1, nat_lit 3, nat_lit 0)], [(some sv_16, [ee_0, ee_1, ee_1, ee_1], [], []), (some sv_11, [ee_0, ee_27, ee_25, ee_1, ee_26, ee_1], [(nat_lit 182, nat_lit 0, sv_10)], [(nat_lit 2, nat_lit 182, nat_lit 0), (nat_lit 1, nat_lit 0, nat_lit 0)])], [(nat_lit 180, nat_lit 0, nat_lit 0), (nat_lit 180, nat_lit 42, nat_lit 42), (nat_lit 182, nat_lit 101, nat_lit 153), (nat_lit 186, nat_lit 0, nat_lit 52)], [(nat_lit 35, nat_lit 1, nat_lit 1, ([ee_0, ee_27, ee_25, ee_1, ee_33, ee_1, ee_26], [(nat_lit 0, sv_19), (nat_lit 1, sv_1), (nat_lit 2, sv_4), (nat_lit 3, sv_9), (nat_lit 4, sv_11), (nat_lit 5, sv_10)], [], [(nat_lit 182, nat_lit 0, sv_17)]), [(nat_lit 0, nat_lit 5, nat_lit 0), (nat_lit 0, nat_lit 4, nat_lit 0), (nat_lit 2, nat_lit 182, nat_lit 0)], [(nat_lit 35, nat_lit 0)])], [], [(nat_lit 35, nat_lit 0)])
set_option maxRecDepth 100000 in
theorem syc_843 : CoOk GG MM syt_843 := chk_okF (cs := [syt_841, syt_208, syt_235, syt_839, syt_842]) (F := 4000) (cs_c syc_841 <| cs_c syc_208 <| cs_c syc_235 <| cs_c syc_839 <| cs_c syc_842 cs_n) (by decide +kernel) (by decide +kernel)
/-- Tape.open -/
def syt_844 : CO := (nat_lit 161, nat_lit 4, [ee_0], [sv_0, sv_233], [], [], [(none, [ee_0, ee_13], [(nat_lit 1, nat_lit 3, sv_1), (nat_lit 1, nat_lit 9, sv_6)], [(nat_lit 2, nat_lit 1, nat_lit 3)])], [(nat_lit 1, nat_lit 2, nat_lit 11)], [], [], [])
set_option maxRecDepth 100000 in
theorem syc_844 : CoOk GG MM syt_844 := chk_okF (cs := [syt_21]) (F := 4000) (cs_c syc_21 cs_n) (by decide +kernel) (by decide +kernel)
/-- Tape.takesNumber -/
def syt_845 : CO := (nat_lit 168, nat_lit 4, [ee_0], [sv_0, sv_24, sv_153], [], [], [(some sv_6, [ee_0], [], []), (some sv_24, [ee_0, ee_13, ee_153], [(nat_lit 1, nat_lit 3, sv_1), (nat_lit 1, nat_lit 9, sv_4)], [(nat_lit 2, nat_lit 1, nat_lit 3), (nat_lit 2, nat_lit 1, nat_lit 9)])], [(nat_lit 1, nat_lit 3, nat_lit 11)], [], [], [])
set_option maxRecDepth 100000 in
theorem syc_845 : CoOk GG MM syt_845 := chk_okF (cs := [syt_21, syt_25, syt_26]) (F := 4000) (cs_c syc_21 <| cs_c syc_25 <| cs_c syc_26 cs_n) (by decide +kernel) (by decide +kernel)
/-- Book.addLine -/
def syt_846 : CO := (nat_lit 49, nat_lit 1, [ee_0, ee_153], [sv_234, sv_176, sv_6, sv_1, sv_6], [], [(nat_lit 1, nat_lit 3, nat_lit 0)], [(none, [ee_0, ee_153, ee_437], [(nat_lit 105, nat_lit 4, sv_4)], [(nat_lit 2, nat_lit 105, nat_lit 4)])], [(nat_lit 105, nat_lit 4, nat_lit 4), (nat_lit 106, nat_lit 0, nat_lit 39), (nat_lit 107, nat_lit 0, nat_lit 39), (nat_lit 108, nat_lit 0, nat_lit 39), (nat_lit 109, nat_lit 0, nat_lit 39)], [], [(nat_lit 105, nat_lit 4, nat_lit 1)], [])
set_option maxRecDepth 100000 in
theorem syc_846 : CoOk GG MM syt_846 := chk_okF (cs := []) (F := 4000) (fun _ h => absurd h List.not_mem_nil) (by decide +kernel) (by decide +kernel)
/-- Book.readDay -/
def syt_847 : CO := (nat_lit 52, nat_lit 5, [ee_0], [sv_234, sv_0], [], [], [(some sv_6, [ee_0, ee_24], [(nat_lit 105, nat_lit 4, sv_1)], [(nat_lit 2, nat_lit 105, nat_lit 4)]), (some sv_24, [ee_0, ee_13, ee_153, ee_437], [(nat_lit 1, nat_lit 3, sv_1), (nat_lit 1, nat_lit 9, sv_4), (nat_lit 105, nat_lit 4, sv_9)], [(nat_lit 2, nat_lit 1, nat_lit 3), (nat_lit 2, nat_lit 1, nat_lit 9), (nat_lit 2, nat_lit 105, nat_lit 4)])], [(nat_lit 1, nat_lit 3, nat_lit 11), (nat_lit 105, nat_lit 4, nat_lit 4), (nat_lit 106, nat_lit 0, nat_lit 39), (nat_lit 107, nat_lit 0, nat_lit 39), (nat_lit 108, nat_lit 0, nat_lit 39), (nat_lit 109, nat_lit 0, nat_lit 39)], [], [], [])
set_option maxRecDepth 100000 in
theorem syc_847 : CoOk GG MM syt_847 := chk_okF (cs := [syt_846, syt_21, syt_38, syt_845]) (F := 4000) (cs_c syc_846 <| cs_c syc_21 <| cs_c syc_38 <| cs_c syc_845 cs_n) (by decide +kernel) (by decide +kernel)
/-- Duchy.find -/
def syt_848 : CO := (nat_lit 66, nat_lit 1, [ee_0, ee_14, ee_23], [sv_235, sv_1, sv_36], [], [(nat_lit 1, nat_lit 1, nat_lit 0), (nat_lit 1, nat_lit 2, nat_lit 0)], [(some sv_9, [ee_0, ee_26, ee_23, ee_27], [], [(nat_lit 1, nat_lit 0, nat_lit 0)]), (some sv_16, [ee_0, ee_14, ee_23], [], [])], [], [(nat_lit 3, nat_lit 1, nat_lit 1, ([ee_0, ee_14, ee_23, ee_14], [(nat_lit 0, sv_235), (nat_lit 1, sv_1), (nat_lit 2, sv_36), (nat_lit 4, sv_9)], [], []), [(nat_lit 0, nat_lit 4, nat_lit 0)], [(nat_lit 3, nat_lit 0)])], [], [(nat_lit 3, nat_lit 0)])
set_option maxRecDepth 100000 in
theorem syc_848 : CoOk GG MM syt_848 := chk_okF (cs := []) (F := 4000) (fun _ h => absurd h List.not_mem_nil) (by decide +kernel) (by decide +kernel)
/-- Duchy.namedHere -/
def syt_849 : CO := (nat_lit 71, nat_lit 2, [ee_0, ee_14], [sv_0, sv_235, sv_1], [], [(nat_lit 1, nat_lit 2, nat_lit 0)], [(some sv_16, [ee_0, ee_14], [], []), (some sv_4, [ee_0, ee_26, ee_27], [], [(nat_lit 1, nat_lit 0, nat_lit 0)])], [(nat_lit 1, nat_lit 10, nat_lit 11)], [], [], [])
set_option maxRecDepth 100000 in
theorem syc_849 : CoOk GG MM syt_849 := chk_okF (cs := [syt_848, syt_24, syt_25]) (F := 4000) (cs_c syc_848 <| cs_c syc_24 <| cs_c syc_25 cs_n) (by decide +kernel) (by decide +kernel)
/-- Duchy.personHere -/
def syt_850 : CO := (nat_lit 73, nat_lit 3, [ee_0], [sv_12, sv_0], [], [], [(some sv_1, [ee_0, ee_27], [], [(nat_lit 1, nat_lit 0, nat_lit 0)]), (some sv_16, [ee_0], [], [])], [(nat_lit 1, nat_lit 10, nat_lit 11)], [], [], [])
set_option maxRecDepth 100000 in
theorem syc_850 : CoOk GG MM syt_850 := chk_okF (cs := [syt_849]) (F := 4000) (cs_c syc_849 cs_n) (by decide +kernel) (by decide +kernel)
/-- Book.addLine -/
def syt_851 : CO := (nat_lit 49, nat_lit 1, [ee_0, ee_27], [sv_234, sv_134, sv_1, sv_6, sv_6], [], [(nat_lit 1, nat_lit 2, nat_lit 0)], [(none, [ee_0, ee_27, ee_437], [(nat_lit 105, nat_lit 4, sv_4)], [(nat_lit 2, nat_lit 105, nat_lit 4)])], [(nat_lit 105, nat_lit 4, nat_lit 4), (nat_lit 106, nat_lit 0, nat_lit 39), (nat_lit 107, nat_lit 0, nat_lit 39), (nat_lit 108, nat_lit 0, nat_lit 39), (nat_lit 109, nat_lit 0, nat_lit 39)], [], [(nat_lit 105, nat_lit 4, nat_lit 1)], [])
set_option maxRecDepth 100000 in
theorem syc_851 : CoOk GG MM syt_851 := chk_okF (cs := []) (F := 4000) (fun _ h => absurd h List.not_mem_nil) (by decide +kernel) (by decide +kernel)
/-- Book.addLine -/
def syt_852 : CO := (nat_lit 49, nat_lit 1, [ee_0, ee_27], [sv_234, sv_33, sv_1, sv_6, sv_6], [], [(nat_lit 1, nat_lit 2, nat_lit 0)], [(none, [ee_0, ee_27, ee_437], [(nat_lit 105, nat_lit 4, sv_4)], [(nat_lit 2, nat_lit 105, nat_lit 4)])], [(nat_lit 105, nat_lit 4, nat_lit 4), (nat_lit 106, nat_lit 0, nat_lit 39), (nat_lit 107, nat_lit 0, nat_lit 39), (nat_lit 108, nat_lit 0, nat_lit 39), (nat_lit 109, nat_lit 0, nat_lit 39)], [], [(nat_lit 105, nat_lit 4, nat_lit 1)], [])
set_option maxRecDepth 100000 in
theorem syc_852 : CoOk GG MM syt_852 := chk_okF (cs := []) (F := 4000) (fun _ h => absurd h List.not_mem_nil) (by decide +kernel) (by decide +kernel)
/-- Book.addLine -/
def syt_853 : CO := (nat_lit 49, nat_lit 1, [ee_0, ee_27], [sv_234, sv_84, sv_1, sv_6, sv_6], [], [(nat_lit 1, nat_lit 2, nat_lit 0)], [(none, [ee_0, ee_27, ee_437], [(nat_lit 105, nat_lit 4, sv_4)], [(nat_lit 2, nat_lit 105, nat_lit 4)])], [(nat_lit 105, nat_lit 4, nat_lit 4), (nat_lit 106, nat_lit 0, nat_lit 39), (nat_lit 107, nat_lit 0, nat_lit 39), (nat_lit 108, nat_lit 0, nat_lit 39), (nat_lit 109, nat_lit 0, nat_lit 39)], [], [(nat_lit 105, nat_lit 4, nat_lit 1)], [])
set_option maxRecDepth 100000 in
theorem syc_853 : CoOk GG MM syt_853 := chk_okF (cs := []) (F := 4000) (fun _ h => absurd h List.not_mem_nil) (by decide +kernel) (by decide +kernel)
/-- Book.addLine -/
def syt_854 : CO := (nat_lit 49, nat_lit 1, [ee_0, ee_27, ee_27], [sv_234, sv_72, sv_1, sv_4, sv_6], [], [(nat_lit 1, nat_lit 2, nat_lit 0), (nat_lit 1, nat_lit 3, nat_lit 0)], [(none, [ee_0, ee_27, ee_27, ee_437], [(nat_lit 105, nat_lit 4, sv_9)], [(nat_lit 2, nat_lit 105, nat_lit 4)])], [(nat_lit 105, nat_lit 4, nat_lit 4), (nat_lit 106, nat_lit 0, nat_lit 39), (nat_lit 107, nat_lit 0, nat_lit 39), (nat_lit 108, nat_lit 0, nat_lit 39), (nat_lit 109, nat_lit 0, nat_lit 39)], [], [(nat_lit 105, nat_lit 4, nat_lit 1)], [])
set_option maxRecDepth 100000 in
theorem syc_854 : CoOk GG MM syt_854 := chk_okF (cs := []) (F := 4000) (fun _ h => absurd h List.not_mem_nil) (by decide +kernel) (by decide +kernel)
/-- Book.readWeds -/
def syt_855 : CO := (nat_lit 55, nat_lit 4, [ee_0, ee_27], [sv_234, sv_0, sv_12, sv_1], [], [(nat_lit 1, nat_lit 3, nat_lit 0)], [(some sv_6, [ee_0, ee_27, ee_13], [(nat_lit 1, nat_lit 3, sv_4)], [(nat_lit 2, nat_lit 1, nat_lit 3)]), (some sv_24, [ee_0, ee_27, ee_13, ee_437], [(nat_lit 1, nat_lit 3, sv_4), (nat_lit 105, nat_lit 4, sv_9)], [(nat_lit 2, nat_lit 1, nat_lit 3), (nat_lit 2, nat_lit 105, nat_lit 4)])], [(nat_lit 1, nat_lit 3, nat_lit 8), (nat_lit 1, nat_lit 10, nat_lit 11), (nat_lit 105, nat_lit 4, nat_lit 4), (nat_lit 106, nat_lit 0, nat_lit 39), (nat_lit 107, nat_lit 0, nat_lit 39), (nat_lit 108, nat_lit 0, nat_lit 39), (nat_lit 109, nat_lit 0, nat_lit 39)], [], [], [])
set_option maxRecDepth 100000 in
theorem syc_855 : CoOk GG MM syt_855 := chk_okF (cs := [syt_854, syt_850, syt_21]) (F := 4000) (cs_c syc_854 <| cs_c syc_850 <| cs_c syc_21 cs_n) (by decide +kernel) (by decide +kernel)
/-- Duchy.find -/
def syt_856 : CO := (nat_lit 66, nat_lit 1, [ee_0, ee_30, ee_23], [sv_236, sv_1, sv_36], [], [(nat_lit 1, nat_lit 1, nat_lit 0), (nat_lit 1, nat_lit 2, nat_lit 0)], [(some sv_9, [ee_0, ee_31, ee_23, ee_14], [], [(nat_lit 1, nat_lit 0, nat_lit 0)]), (some sv_16, [ee_0, ee_30, ee_23], [], [])], [], [(nat_lit 3, nat_lit 1, nat_lit 1, ([ee_0, ee_30, ee_23, ee_30], [(nat_lit 0, sv_236), (nat_lit 1, sv_1), (nat_lit 2, sv_36), (nat_lit 4, sv_9)], [], []), [(nat_lit 0, nat_lit 4, nat_lit 0)], [(nat_lit 3, nat_lit 0)])], [], [(nat_lit 3, nat_lit 0)])
set_option maxRecDepth 100000 in
theorem syc_856 : CoOk GG MM syt_856 := chk_okF (cs := []) (F := 4000) (fun _ h => absurd h List.not_mem_nil) (by decide +kernel) (by decide +kernel)
/-- Duchy.namedHere -/
def syt_857 : CO := (nat_lit 71, nat_lit 2, [ee_0, ee_30], [sv_0, sv_236, sv_1], [], [(nat_lit 1, nat_lit 2, nat_lit 0)], [(some sv_16, [ee_0, ee_30], [], []), (some sv_4, [ee_0, ee_31, ee_14], [], [(nat_lit 1, nat_lit 0, nat_lit 0)])], [(nat_lit 1, nat_lit 10, nat_lit 11)], [], [], [])
set_option maxRecDepth 100000 in
theorem syc_857 : CoOk GG MM syt_857 := chk_okF (cs := [syt_856, syt_24, syt_25]) (F := 4000) (cs_c syc_856 <| cs_c syc_24 <| cs_c syc_25 cs_n) (by decide +kernel) (by decide +kernel)
/-- Duchy.deedHere -/
def syt_858 : CO := (nat_lit 63, nat_lit 3, [ee_0], [sv_12, sv_0], [], [], [(some sv_1, [ee_0, ee_14], [], [(nat_lit 1, nat_lit 0, nat_lit 0)]), (some sv_16, [ee_0], [], [])], [(nat_lit 1, nat_lit 10, nat_lit 11)], [], [], [])
set_option maxRecDepth 100000 in
theorem syc_858 : CoOk GG MM syt_858 := chk_okF (cs := [syt_857]) (F := 4000) (cs_c syc_857 cs_n) (by decide +kernel) (by decide +kernel)
/-- Book.addLine -/
def syt_859 : CO := (nat_lit 49, nat_lit 1, [ee_0, ee_27, ee_14], [sv_234, sv_6, sv_1, sv_4, sv_32], [], [(nat_lit 1, nat_lit 2, nat_lit 0), (nat_lit 1, nat_lit 3, nat_lit 0)], [(none, [ee_0, ee_27, ee_14, ee_437], [(nat_lit 105, nat_lit 4, sv_9)], [(nat_lit 2, nat_lit 105, nat_lit 4)])], [(nat_lit 105, nat_lit 4, nat_lit 4), (nat_lit 106, nat_lit 0, nat_lit 39), (nat_lit 107, nat_lit 0, nat_lit 39), (nat_lit 108, nat_lit 0, nat_lit 39), (nat_lit 109, nat_lit 0, nat_lit 39)], [], [(nat_lit 105, nat_lit 4, nat_lit 1)], [])
set_option maxRecDepth 100000 in
theorem syc_859 : CoOk GG MM syt_859 := chk_okF (cs := []) (F := 4000) (fun _ h => absurd h List.not_mem_nil) (by decide +kernel) (by decide +kernel)
/-- Book.addLine -/
def syt_860 : CO := (nat_lit 49, nat_lit 1, [ee_0, ee_27, ee_14], [sv_234, sv_6, sv_1, sv_4, sv_24], [], [(nat_lit 1, nat_lit 2, nat_lit 0), (nat_lit 1, nat_lit 3, nat_lit 0)], [(none, [ee_0, ee_27, ee_14, ee_437], [(nat_lit 105, nat_lit 4, sv_9)], [(nat_lit 2, nat_lit 105, nat_lit 4)])], [(nat_lit 105, nat_lit 4, nat_lit 4), (nat_lit 106, nat_lit 0, nat_lit 39), (nat_lit 107, nat_lit 0, nat_lit 39), (nat_lit 108, nat_lit 0, nat_lit 39), (nat_lit 109, nat_lit 0, nat_lit 39)], [], [(nat_lit 105, nat_lit 4, nat_lit 1)], [])
set_option maxRecDepth 100000 in
theorem syc_860 : CoOk GG MM syt_860 := chk_okF (cs := []) (F := 4000) (fun _ h => absurd h List.not_mem_nil) (by decide +kernel) (by decide +kernel)
/-- Book.addLine -/
def syt_861 : CO := (nat_lit 49, nat_lit 1, [ee_0, ee_27, ee_14], [sv_234, sv_6, sv_1, sv_4, sv_6], [], [(nat_lit 1, nat_lit 2, nat_lit 0), (nat_lit 1, nat_lit 3, nat_lit 0)], [(none, [ee_0, ee_27, ee_14, ee_437], [(nat_lit 105, nat_lit 4, sv_9)], [(nat_lit 2, nat_lit 105, nat_lit 4)])], [(nat_lit 105, nat_lit 4, nat_lit 4), (nat_lit 106, nat_lit 0, nat_lit 39), (nat_lit 107, nat_lit 0, nat_lit 39), (nat_lit 108, nat_lit 0, nat_lit 39), (nat_lit 109, nat_lit 0, nat_lit 39)], [], [(nat_lit 105, nat_lit 4, nat_lit 1)], [])
set_option maxRecDepth 100000 in
theorem syc_861 : CoOk GG MM syt_861 := chk_okF (cs := []) (F := 4000) (fun _ h => absurd h List.not_mem_nil) (by decide +kernel) (by decide +kernel)
/-- Book.readDoes -/
def syt_862 : CO := (nat_lit 53, nat_lit 4, [ee_0, ee_27], [sv_234, sv_0, sv_12, sv_1], [], [(nat_lit 1, nat_lit 3, nat_lit 0)], [(some sv_6, [ee_0, ee_27, ee_13], [(nat_lit 1, nat_lit 3, sv_4)], [(nat_lit 2, nat_lit 1, nat_lit 3)]), (some sv_24, [ee_0, ee_27, ee_13, ee_437], [(nat_lit 1, nat_lit 3, sv_4), (nat_lit 105, nat_lit 4, sv_9)], [(nat_lit 2, nat_lit 1, nat_lit 3), (nat_lit 2, nat_lit 105, nat_lit 4)])], [(nat_lit 1, nat_lit 3, nat_lit 8), (nat_lit 1, nat_lit 10, nat_lit 11), (nat_lit 105, nat_lit 4, nat_lit 4), (nat_lit 106, nat_lit 0, nat_lit 39), (nat_lit 107, nat_lit 0, nat_lit 39), (nat_lit 108, nat_lit 0, nat_lit 39), (nat_lit 109, nat_lit 0, nat_lit 39)], [], [], [])
set_option maxRecDepth 100000 in
theorem syc_862 : CoOk GG MM syt_862 := chk_okF (cs := [syt_859, syt_860, syt_861, syt_858, syt_21, syt_25]) (F := 4000) (cs_c syc_859 <| cs_c syc_860 <| cs_c syc_861 <| cs_c syc_858 <| cs_c syc_21 <| cs_c syc_25 cs_n) (by decide +kernel) (by decide +kernel)
/-- Book.readAct -/
def syt_863 : CO := (nat_lit 51, nat_lit 5, [ee_0], [sv_234, sv_0, sv_12], [], [], [(some sv_6, [ee_0], [], []), (some sv_24, [ee_0, ee_13, ee_437], [(nat_lit 1, nat_lit 3, sv_1), (nat_lit 105, nat_lit 4, sv_4)], [(nat_lit 2, nat_lit 1, nat_lit 3), (nat_lit 2, nat_lit 105, nat_lit 4)])], [(nat_lit 1, nat_lit 3, nat_lit 8), (nat_lit 1, nat_lit 10, nat_lit 11), (nat_lit 105, nat_lit 4, nat_lit 4), (nat_lit 106, nat_lit 0, nat_lit 39), (nat_lit 107, nat_lit 0, nat_lit 39), (nat_lit 108, nat_lit 0, nat_lit 39), (nat_lit 109, nat_lit 0, nat_lit 39)], [], [], [])
set_option maxRecDepth 100000 in
theorem syc_863 : CoOk GG MM syt_863 := chk_okF (cs := [syt_851, syt_852, syt_853, syt_862, syt_855, syt_850, syt_21, syt_25, syt_38]) (F := 4000) (cs_c syc_851 <| cs_c syc_852 <| cs_c syc_853 <| cs_c syc_862 <| cs_c syc_855 <| cs_c syc_850 <| cs_c syc_21 <| cs_c syc_25 <| cs_c syc_38 cs_n) (by decide +kernel) (by decide +kernel)
/-- Book.readFrom -/
def syt_864 : CO := (nat_lit 54, nat_lit 6, [ee_0], [sv_234, sv_0, sv_12], [], [], [(none, [ee_0], [], [])], [(nat_lit 1, nat_lit 2, nat_lit 11), (nat_lit 105, nat_lit 4, nat_lit 4), (nat_lit 106, nat_lit 0, nat_lit 39), (nat_lit 107, nat_lit 0, nat_lit 39), (nat_lit 108, nat_lit 0, nat_lit 39), (nat_lit 109, nat_lit 0, nat_lit 39)], [(nat_lit 14, nat_lit 1, nat_lit 1, ([ee_0, ee_28, ee_13, ee_154, ee_24], [(nat_lit 0, sv_234), (nat_lit 1, sv_0), (nat_lit 2, sv_12), (nat_lit 3, sv_1)], [], [(nat_lit 1, nat_lit 3, sv_4), (nat_lit 1, nat_lit 9, sv_9), (nat_lit 105, nat_lit 4, sv_10)]), [(nat_lit 0, nat_lit 3, nat_lit 0), (nat_lit 2, nat_lit 1, nat_lit 3), (nat_lit 2, nat_lit 1, nat_lit 9), (nat_lit 2, nat_lit 105, nat_lit 4)], [(nat_lit 14, nat_lit 0)])], [], [(nat_lit 14, nat_lit 0)])
set_option maxRecDepth 100000 in
theorem syc_864 : CoOk GG MM syt_864 := chk_okF (cs := [syt_863, syt_847, syt_844, syt_30]) (F := 4000) (cs_c syc_863 <| cs_c syc_847 <| cs_c syc_844 <| cs_c syc_30 cs_n) (by decide +kernel) (by decide +kernel)
/-- Life.daysLeft -/
def syt_865 : CO := (nat_lit 95, nat_lit 1, [ee_0], [sv_232], [], [], [(some sv_1, [ee_0, ee_1], [], [(nat_lit 1, nat_lit 0, nat_lit 0)])], [], [], [], [])
set_option maxRecDepth 100000 in
theorem syc_865 : CoOk GG MM syt_865 := chk_okF (cs := []) (F := 4000) (fun _ h => absurd h List.not_mem_nil) (by decide +kernel) (by decide +kernel)
/-- Life.whyNot -/
def syt_866 : CO := (nat_lit 116, nat_lit 2, [ee_0, ee_438, ee_27, ee_154, ee_127], [sv_232, sv_12, sv_1, sv_4, sv_9, sv_10], [], [(nat_lit 1, nat_lit 2, nat_lit 0), (nat_lit 1, nat_lit 3, nat_lit 0), (nat_lit 1, nat_lit 4, nat_lit 0), (nat_lit 1, nat_lit 5, nat_lit 0)], [(some sv_24, [ee_0, ee_438, ee_27, ee_154, ee_127], [], []), (some sv_6, [ee_0, ee_438, ee_27, ee_154, ee_127], [], []), (some sv_32, [ee_0, ee_439, ee_27, ee_154, ee_127], [], [])], [], [], [], [])
set_option maxRecDepth 100000 in
theorem syc_866 : CoOk GG MM syt_866 := chk_okF (cs := [syt_865, syt_823, syt_827]) (F := 4000) (cs_c syc_865 <| cs_c syc_823 <| cs_c syc_827 cs_n) (by decide +kernel) (by decide +kernel)
/-- Life.passDays -/
def syt_867 : CO := (nat_lit 111, nat_lit 3, [ee_0, ee_154], [sv_232, sv_12, sv_1], [], [(nat_lit 1, nat_lit 2, nat_lit 0)], [(none, [ee_0, ee_154], [], [])], [(nat_lit 31, nat_lit 0, nat_lit 0), (nat_lit 32, nat_lit 0, nat_lit 6), (nat_lit 34, nat_lit 0, nat_lit 6), (nat_lit 37, nat_lit 0, nat_lit 6)], [(nat_lit 2, nat_lit 1, nat_lit 1, ([ee_0, ee_154, ee_154], [(nat_lit 0, sv_232), (nat_lit 1, sv_12), (nat_lit 2, sv_1), (nat_lit 3, sv_4)], [], []), [(nat_lit 0, nat_lit 3, nat_lit 0)], [(nat_lit 2, nat_lit 0)])], [], [(nat_lit 2, nat_lit 0)])
set_option maxRecDepth 100000 in
theorem syc_867 : CoOk GG MM syt_867 := chk_okF (cs := [syt_836]) (F := 4000) (cs_c syc_836 cs_n) (by decide +kernel) (by decide +kernel)
/-- Life.perform -/
def syt_868 : CO := (nat_lit 112, nat_lit 4, [ee_0, ee_438, ee_27, ee_154, ee_127], [sv_232, sv_12, sv_1, sv_4, sv_9, sv_10], [], [(nat_lit 1, nat_lit 2, nat_lit 0), (nat_lit 1, nat_lit 3, nat_lit 0), (nat_lit 1, nat_lit 4, nat_lit 0), (nat_lit 1, nat_lit 5, nat_lit 0)], [(none, [ee_0, ee_438, ee_27, ee_154, ee_127], [], [])], [(nat_lit 31, nat_lit 0, nat_lit 0), (nat_lit 31, nat_lit 3, nat_lit 3), (nat_lit 32, nat_lit 0, nat_lit 6), (nat_lit 34, nat_lit 0, nat_lit 6), (nat_lit 36, nat_lit 0, nat_lit 6), (nat_lit 37, nat_lit 0, nat_lit 6)], [], [], [])
set_option maxRecDepth 100000 in
theorem syc_868 : CoOk GG MM syt_868 := chk_okF (cs := [syt_830, syt_867]) (F := 4000) (cs_c syc_830 <| cs_c syc_867 cs_n) (by decide +kernel) (by decide +kernel)
/-- Life.whyNot -/
def syt_869 : CO := (nat_lit 116, nat_lit 2, [ee_0, ee_29, ee_27, ee_154, ee_127], [sv_232, sv_12, sv_1, sv_4, sv_9, sv_10], [], [(nat_lit 1, nat_lit 2, nat_lit 0), (nat_lit 1, nat_lit 3, nat_lit 0), (nat_lit 1, nat_lit 4, nat_lit 0), (nat_lit 1, nat_lit 5, nat_lit 0)], [(some sv_24, [ee_0, ee_29, ee_27, ee_154, ee_127], [], []), (some sv_6, [ee_0, ee_29, ee_27, ee_154, ee_127], [], [])], [], [], [], [])
set_option maxRecDepth 100000 in
theorem syc_869 : CoOk GG MM syt_869 := chk_okF (cs := [syt_865]) (F := 4000) (cs_c syc_865 cs_n) (by decide +kernel) (by decide +kernel)
/-- Life.perform -/
def syt_870 : CO := (nat_lit 112, nat_lit 4, [ee_0, ee_29, ee_27, ee_154, ee_127], [sv_232, sv_12, sv_1, sv_4, sv_9, sv_10], [], [(nat_lit 1, nat_lit 2, nat_lit 0), (nat_lit 1, nat_lit 3, nat_lit 0), (nat_lit 1, nat_lit 4, nat_lit 0), (nat_lit 1, nat_lit 5, nat_lit 0)], [(none, [ee_0, ee_29, ee_27, ee_154, ee_127], [], [])], [(nat_lit 31, nat_lit 0, nat_lit 0), (nat_lit 32, nat_lit 0, nat_lit 6), (nat_lit 34, nat_lit 0, nat_lit 6), (nat_lit 37, nat_lit 0, nat_lit 6)], [], [], [])
set_option maxRecDepth 100000 in
theorem syc_870 : CoOk GG MM syt_870 := chk_okF (cs := [syt_867]) (F := 4000) (cs_c syc_867 cs_n) (by decide +kernel) (by decide +kernel)
/-- Life.whyNot -/
def syt_871 : CO := (nat_lit 116, nat_lit 3, [ee_0, ee_177, ee_27, ee_27, ee_127], [sv_232, sv_12, sv_1, sv_4, sv_9, sv_10], [], [(nat_lit 1, nat_lit 2, nat_lit 0), (nat_lit 1, nat_lit 3, nat_lit 0), (nat_lit 1, nat_lit 4, nat_lit 0), (nat_lit 1, nat_lit 5, nat_lit 0)], [(some sv_11, [ee_0, ee_177, ee_27, ee_27, ee_127, ee_152], [], [(nat_lit 1, nat_lit 0, nat_lit 0)]), (some sv_6, [ee_0, ee_177, ee_27, ee_27, ee_127], [], []), (some sv_24, [ee_0, ee_177, ee_27, ee_27, ee_127], [], [])], [], [], [], [])
set_option maxRecDepth 100000 in
theorem syc_871 : CoOk GG MM syt_871 := chk_okF (cs := [syt_828]) (F := 4000) (cs_c syc_828 cs_n) (by decide +kernel) (by decide +kernel)
/-- Life.perform -/
def syt_872 : CO := (nat_lit 112, nat_lit 2, [ee_0, ee_177, ee_27, ee_27, ee_127], [sv_232, sv_12, sv_1, sv_4, sv_9, sv_10], [], [(nat_lit 1, nat_lit 2, nat_lit 0), (nat_lit 1, nat_lit 3, nat_lit 0), (nat_lit 1, nat_lit 4, nat_lit 0), (nat_lit 1, nat_lit 5, nat_lit 0)], [(none, [ee_0, ee_177, ee_27, ee_27, ee_127], [], [])], [(nat_lit 36, nat_lit 0, nat_lit 6)], [], [], [])
set_option maxRecDepth 100000 in
theorem syc_872 : CoOk GG MM syt_872 := chk_okF (cs := [syt_829]) (F := 4000) (cs_c syc_829 cs_n) (by decide +kernel) (by decide +kernel)
/-- Life.whyNot -/
def syt_873 : CO := (nat_lit 116, nat_lit 4, [ee_0, ee_0, ee_27, ee_14, ee_127], [sv_232, sv_12, sv_1, sv_4, sv_9, sv_10], [], [(nat_lit 1, nat_lit 2, nat_lit 0), (nat_lit 1, nat_lit 3, nat_lit 0), (nat_lit 1, nat_lit 4, nat_lit 0), (nat_lit 1, nat_lit 5, nat_lit 0)], [(some sv_24, [ee_0, ee_0, ee_27, ee_14, ee_127], [], []), (some sv_6, [ee_0, ee_0, ee_27, ee_14, ee_127], [], []), (some sv_11, [ee_0, ee_0, ee_27, ee_14, ee_127, ee_148], [], [(nat_lit 1, nat_lit 0, nat_lit 0)])], [], [], [], [])
set_option maxRecDepth 100000 in
theorem syc_873 : CoOk GG MM syt_873 := chk_okF (cs := [syt_824]) (F := 4000) (cs_c syc_824 cs_n) (by decide +kernel) (by decide +kernel)
/-- Life.perform -/
def syt_874 : CO := (nat_lit 112, nat_lit 5, [ee_0, ee_0, ee_27, ee_14, ee_127], [sv_232, sv_12, sv_1, sv_4, sv_9, sv_10], [], [(nat_lit 1, nat_lit 2, nat_lit 0), (nat_lit 1, nat_lit 3, nat_lit 0), (nat_lit 1, nat_lit 4, nat_lit 0), (nat_lit 1, nat_lit 5, nat_lit 0)], [(none, [ee_0, ee_0, ee_27, ee_14, ee_127], [], [])], [(nat_lit 31, nat_lit 1, nat_lit 2), (nat_lit 32, nat_lit 0, nat_lit 6), (nat_lit 33, nat_lit 0, nat_lit 6), (nat_lit 34, nat_lit 0, nat_lit 6), (nat_lit 35, nat_lit 0, nat_lit 6), (nat_lit 37, nat_lit 0, nat_lit 6), (nat_lit 38, nat_lit 0, nat_lit 7)], [], [], [])
set_option maxRecDepth 100000 in
theorem syc_874 : CoOk GG MM syt_874 := chk_okF (cs := [syt_834]) (F := 4000) (cs_c syc_834 cs_n) (by decide +kernel) (by decide +kernel)
/-- Book.liveIn -/
def syl_875_0 : List LB := [(nat_lit 17, nat_lit 1, nat_lit 0, ([ee_0], [(nat_lit 0, sv_234), (nat_lit 1, sv_232), (nat_lit 2, sv_12), (nat_lit 3, sv_6)], [], []), [], [(nat_lit 17, nat_lit 1)]),
  (nat_lit 17, nat_lit 2, nat_lit 0, ([ee_0, ee_437], [(nat_lit 0, sv_234), (nat_lit 1, sv_232), (nat_lit 2, sv_12), (nat_lit 3, sv_24)], [], [(nat_lit 105, nat_lit 4, sv_1)]), [(nat_lit 2, nat_lit 105, nat_lit 4)], [(nat_lit 17, nat_lit 2)]),
  (nat_lit 17, nat_lit 3, nat_lit 0, ([ee_0, ee_440], [(nat_lit 0, sv_234), (nat_lit 1, sv_232), (nat_lit 2, sv_12), (nat_lit 3, sv_32)], [], [(nat_lit 105, nat_lit 4, sv_1)]), [(nat_lit 2, nat_lit 105, nat_lit 4)], [(nat_lit 17, nat_lit 3)])]
def syl_875_1 : List LB := [(nat_lit 17, nat_lit 4, nat_lit 0, ([ee_0, ee_441], [(nat_lit 0, sv_234), (nat_lit 1, sv_232), (nat_lit 2, sv_12), (nat_lit 3, sv_31)], [], [(nat_lit 105, nat_lit 4, sv_1)]), [(nat_lit 2, nat_lit 105, nat_lit 4)], [(nat_lit 17, nat_lit 4)]),
  (nat_lit 17, nat_lit 5, nat_lit 0, ([ee_0, ee_442], [(nat_lit 0, sv_234), (nat_lit 1, sv_232), (nat_lit 2, sv_12), (nat_lit 3, sv_38)], [], [(nat_lit 105, nat_lit 4, sv_1)]), [(nat_lit 2, nat_lit 105, nat_lit 4)], [(nat_lit 17, nat_lit 5)]),
  (nat_lit 17, nat_lit 6, nat_lit 0, ([ee_0, ee_443], [(nat_lit 0, sv_234), (nat_lit 1, sv_232), (nat_lit 2, sv_12), (nat_lit 3, sv_68)], [], [(nat_lit 105, nat_lit 4, sv_1)]), [(nat_lit 2, nat_lit 105, nat_lit 4)], [(nat_lit 17, nat_lit 6)])]
def syl_875_2 : List LB := [(nat_lit 17, nat_lit 7, nat_lit 0, ([ee_0, ee_444], [(nat_lit 0, sv_234), (nat_lit 1, sv_232), (nat_lit 2, sv_12), (nat_lit 3, sv_70)], [], [(nat_lit 105, nat_lit 4, sv_1)]), [(nat_lit 2, nat_lit 105, nat_lit 4)], [(nat_lit 17, nat_lit 7)]),
  (nat_lit 17, nat_lit 8, nat_lit 0, ([ee_0, ee_445], [(nat_lit 0, sv_234), (nat_lit 1, sv_232), (nat_lit 2, sv_12), (nat_lit 3, sv_59)], [], [(nat_lit 105, nat_lit 4, sv_1)]), [(nat_lit 2, nat_lit 105, nat_lit 4)], [(nat_lit 17, nat_lit 8)]),
  (nat_lit 17, nat_lit 9, nat_lit 0, ([ee_0, ee_446], [(nat_lit 0, sv_234), (nat_lit 1, sv_232), (nat_lit 2, sv_12), (nat_lit 3, sv_5)], [], [(nat_lit 105, nat_lit 4, sv_1)]), [(nat_lit 2, nat_lit 105, nat_lit 4)], [(nat_lit 17, nat_lit 9)])]
def syl_875_3 : List LB := [(nat_lit 17, nat_lit 10, nat_lit 0, ([ee_0, ee_447], [(nat_lit 0, sv_234), (nat_lit 1, sv_232), (nat_lit 2, sv_12), (nat_lit 3, sv_37)], [], [(nat_lit 105, nat_lit 4, sv_1)]), [(nat_lit 2, nat_lit 105, nat_lit 4)], [(nat_lit 17, nat_lit 10)]),
  (nat_lit 17, nat_lit 11, nat_lit 0, ([ee_0, ee_448], [(nat_lit 0, sv_234), (nat_lit 1, sv_232), (nat_lit 2, sv_12), (nat_lit 3, sv_72)], [], [(nat_lit 105, nat_lit 4, sv_1)]), [(nat_lit 2, nat_lit 105, nat_lit 4)], [(nat_lit 17, nat_lit 11)]),
  (nat_lit 17, nat_lit 12, nat_lit 0, ([ee_0, ee_449], [(nat_lit 0, sv_234), (nat_lit 1, sv_232), (nat_lit 2, sv_12), (nat_lit 3, sv_75)], [], [(nat_lit 105, nat_lit 4, sv_1)]), [(nat_lit 2, nat_lit 105, nat_lit 4)], [(nat_lit 17, nat_lit 12)])]
def syl_875_4 : List LB := [(nat_lit 17, nat_lit 13, nat_lit 0, ([ee_0, ee_450], [(nat_lit 0, sv_234), (nat_lit 1, sv_232), (nat_lit 2, sv_12), (nat_lit 3, sv_76)], [], [(nat_lit 105, nat_lit 4, sv_1)]), [(nat_lit 2, nat_lit 105, nat_lit 4)], [(nat_lit 17, nat_lit 13)]),
  (nat_lit 17, nat_lit 14, nat_lit 0, ([ee_0, ee_451], [(nat_lit 0, sv_234), (nat_lit 1, sv_232), (nat_lit 2, sv_12), (nat_lit 3, sv_77)], [], [(nat_lit 105, nat_lit 4, sv_1)]), [(nat_lit 2, nat_lit 105, nat_lit 4)], [(nat_lit 17, nat_lit 14)]),
  (nat_lit 17, nat_lit 15, nat_lit 0, ([ee_0, ee_452], [(nat_lit 0, sv_234), (nat_lit 1, sv_232), (nat_lit 2, sv_12), (nat_lit 3, sv_78)], [], [(nat_lit 105, nat_lit 4, sv_1)]), [(nat_lit 2, nat_lit 105, nat_lit 4)], [(nat_lit 17, nat_lit 15)])]
def syl_875_5 : List LB := [(nat_lit 17, nat_lit 16, nat_lit 0, ([ee_0, ee_453], [(nat_lit 0, sv_234), (nat_lit 1, sv_232), (nat_lit 2, sv_12), (nat_lit 3, sv_79)], [], [(nat_lit 105, nat_lit 4, sv_1)]), [(nat_lit 2, nat_lit 105, nat_lit 4)], [(nat_lit 17, nat_lit 16)]),
  (nat_lit 17, nat_lit 17, nat_lit 0, ([ee_0, ee_454], [(nat_lit 0, sv_234), (nat_lit 1, sv_232), (nat_lit 2, sv_12), (nat_lit 3, sv_3)], [], [(nat_lit 105, nat_lit 4, sv_1)]), [(nat_lit 2, nat_lit 105, nat_lit 4)], [(nat_lit 17, nat_lit 17)]),
  (nat_lit 17, nat_lit 18, nat_lit 0, ([ee_0, ee_455], [(nat_lit 0, sv_234), (nat_lit 1, sv_232), (nat_lit 2, sv_12), (nat_lit 3, sv_81)], [], [(nat_lit 105, nat_lit 4, sv_1)]), [(nat_lit 2, nat_lit 105, nat_lit 4)], [(nat_lit 17, nat_lit 18)])]
def syl_875_6 : List LB := [(nat_lit 17, nat_lit 19, nat_lit 0, ([ee_0, ee_456], [(nat_lit 0, sv_234), (nat_lit 1, sv_232), (nat_lit 2, sv_12), (nat_lit 3, sv_40)], [], [(nat_lit 105, nat_lit 4, sv_1)]), [(nat_lit 2, nat_lit 105, nat_lit 4)], [(nat_lit 17, nat_lit 19)]),
  (nat_lit 17, nat_lit 20, nat_lit 0, ([ee_0, ee_457], [(nat_lit 0, sv_234), (nat_lit 1, sv_232), (nat_lit 2, sv_12), (nat_lit 3, sv_82)], [], [(nat_lit 105, nat_lit 4, sv_1)]), [(nat_lit 2, nat_lit 105, nat_lit 4)], [(nat_lit 17, nat_lit 20)]),
  (nat_lit 17, nat_lit 21, nat_lit 0, ([ee_0, ee_458], [(nat_lit 0, sv_234), (nat_lit 1, sv_232), (nat_lit 2, sv_12), (nat_lit 3, sv_84)], [], [(nat_lit 105, nat_lit 4, sv_1)]), [(nat_lit 2, nat_lit 105, nat_lit 4)], [(nat_lit 17, nat_lit 21)])]
def syl_875_7 : List LB := [(nat_lit 17, nat_lit 22, nat_lit 0, ([ee_0, ee_459], [(nat_lit 0, sv_234), (nat_lit 1, sv_232), (nat_lit 2, sv_12), (nat_lit 3, sv_85)], [], [(nat_lit 105, nat_lit 4, sv_1)]), [(nat_lit 2, nat_lit 105, nat_lit 4)], [(nat_lit 17, nat_lit 22)]),
  (nat_lit 17, nat_lit 23, nat_lit 0, ([ee_0, ee_460], [(nat_lit 0, sv_234), (nat_lit 1, sv_232), (nat_lit 2, sv_12), (nat_lit 3, sv_86)], [], [(nat_lit 105, nat_lit 4, sv_1)]), [(nat_lit 2, nat_lit 105, nat_lit 4)], [(nat_lit 17, nat_lit 23)]),
  (nat_lit 17, nat_lit 24, nat_lit 0, ([ee_0, ee_461], [(nat_lit 0, sv_234), (nat_lit 1, sv_232), (nat_lit 2, sv_12), (nat_lit 3, sv_88)], [], [(nat_lit 105, nat_lit 4, sv_1)]), [(nat_lit 2, nat_lit 105, nat_lit 4)], [(nat_lit 17, nat_lit 24)])]
def syl_875_8 : List LB := [(nat_lit 17, nat_lit 25, nat_lit 0, ([ee_0, ee_462], [(nat_lit 0, sv_234), (nat_lit 1, sv_232), (nat_lit 2, sv_12), (nat_lit 3, sv_2)], [], [(nat_lit 105, nat_lit 4, sv_1)]), [(nat_lit 2, nat_lit 105, nat_lit 4)], [(nat_lit 17, nat_lit 25)]),
  (nat_lit 17, nat_lit 26, nat_lit 0, ([ee_0, ee_463], [(nat_lit 0, sv_234), (nat_lit 1, sv_232), (nat_lit 2, sv_12), (nat_lit 3, sv_89)], [], [(nat_lit 105, nat_lit 4, sv_1)]), [(nat_lit 2, nat_lit 105, nat_lit 4)], [(nat_lit 17, nat_lit 26)]),
  (nat_lit 17, nat_lit 27, nat_lit 0, ([ee_0, ee_464], [(nat_lit 0, sv_234), (nat_lit 1, sv_232), (nat_lit 2, sv_12), (nat_lit 3, sv_90)], [], [(nat_lit 105, nat_lit 4, sv_1)]), [(nat_lit 2, nat_lit 105, nat_lit 4)], [(nat_lit 17, nat_lit 27)])]
def syl_875_9 : List LB := [(nat_lit 17, nat_lit 28, nat_lit 0, ([ee_0, ee_423], [(nat_lit 0, sv_234), (nat_lit 1, sv_232), (nat_lit 2, sv_12), (nat_lit 3, sv_92)], [], [(nat_lit 105, nat_lit 4, sv_1)]), [(nat_lit 2, nat_lit 105, nat_lit 4)], [(nat_lit 17, nat_lit 28)]),
  (nat_lit 17, nat_lit 29, nat_lit 0, ([ee_0, ee_465], [(nat_lit 0, sv_234), (nat_lit 1, sv_232), (nat_lit 2, sv_12), (nat_lit 3, sv_93)], [], [(nat_lit 105, nat_lit 4, sv_1)]), [(nat_lit 2, nat_lit 105, nat_lit 4)], [(nat_lit 17, nat_lit 29)]),
  (nat_lit 17, nat_lit 30, nat_lit 0, ([ee_0, ee_466], [(nat_lit 0, sv_234), (nat_lit 1, sv_232), (nat_lit 2, sv_12), (nat_lit 3, sv_94)], [], [(nat_lit 105, nat_lit 4, sv_1)]), [(nat_lit 2, nat_lit 105, nat_lit 4)], [(nat_lit 17, nat_lit 30)])]
def syl_875_10 : List LB := [(nat_lit 17, nat_lit 31, nat_lit 0, ([ee_0, ee_399], [(nat_lit 0, sv_234), (nat_lit 1, sv_232), (nat_lit 2, sv_12), (nat_lit 3, sv_33)], [], [(nat_lit 105, nat_lit 4, sv_1)]), [(nat_lit 2, nat_lit 105, nat_lit 4)], [(nat_lit 17, nat_lit 31)]),
  (nat_lit 17, nat_lit 32, nat_lit 0, ([ee_0, ee_467], [(nat_lit 0, sv_234), (nat_lit 1, sv_232), (nat_lit 2, sv_12), (nat_lit 3, sv_161)], [], [(nat_lit 105, nat_lit 4, sv_1)]), [(nat_lit 2, nat_lit 105, nat_lit 4)], [(nat_lit 17, nat_lit 32)]),
  (nat_lit 17, nat_lit 33, nat_lit 0, ([ee_0, ee_468], [(nat_lit 0, sv_234), (nat_lit 1, sv_232), (nat_lit 2, sv_12), (nat_lit 3, sv_133)], [], [(nat_lit 105, nat_lit 4, sv_1)]), [(nat_lit 2, nat_lit 105, nat_lit 4)], [(nat_lit 17, nat_lit 33)])]
def syl_875_11 : List LB := [(nat_lit 17, nat_lit 34, nat_lit 0, ([ee_0, ee_469], [(nat_lit 0, sv_234), (nat_lit 1, sv_232), (nat_lit 2, sv_12), (nat_lit 3, sv_162)], [], [(nat_lit 105, nat_lit 4, sv_1)]), [(nat_lit 2, nat_lit 105, nat_lit 4)], [(nat_lit 17, nat_lit 34)]),
  (nat_lit 17, nat_lit 35, nat_lit 0, ([ee_0, ee_470], [(nat_lit 0, sv_234), (nat_lit 1, sv_232), (nat_lit 2, sv_12), (nat_lit 3, sv_163)], [], [(nat_lit 105, nat_lit 4, sv_1)]), [(nat_lit 2, nat_lit 105, nat_lit 4)], [(nat_lit 17, nat_lit 35)]),
  (nat_lit 17, nat_lit 36, nat_lit 0, ([ee_0, ee_471], [(nat_lit 0, sv_234), (nat_lit 1, sv_232), (nat_lit 2, sv_12), (nat_lit 3, sv_164)], [], [(nat_lit 105, nat_lit 4, sv_1)]), [(nat_lit 2, nat_lit 105, nat_lit 4)], [(nat_lit 17, nat_lit 36)])]
def syl_875_12 : List LB := [(nat_lit 17, nat_lit 37, nat_lit 0, ([ee_0, ee_472], [(nat_lit 0, sv_234), (nat_lit 1, sv_232), (nat_lit 2, sv_12), (nat_lit 3, sv_165)], [], [(nat_lit 105, nat_lit 4, sv_1)]), [(nat_lit 2, nat_lit 105, nat_lit 4)], [(nat_lit 17, nat_lit 37)]),
  (nat_lit 17, nat_lit 38, nat_lit 0, ([ee_0, ee_473], [(nat_lit 0, sv_234), (nat_lit 1, sv_232), (nat_lit 2, sv_12), (nat_lit 3, sv_166)], [], [(nat_lit 105, nat_lit 4, sv_1)]), [(nat_lit 2, nat_lit 105, nat_lit 4)], [(nat_lit 17, nat_lit 38)]),
  (nat_lit 17, nat_lit 39, nat_lit 0, ([ee_0, ee_474], [(nat_lit 0, sv_234), (nat_lit 1, sv_232), (nat_lit 2, sv_12), (nat_lit 3, sv_167)], [], [(nat_lit 105, nat_lit 4, sv_1)]), [(nat_lit 2, nat_lit 105, nat_lit 4)], [(nat_lit 17, nat_lit 39)])]
def syl_875_13 : List LB := [(nat_lit 17, nat_lit 40, nat_lit 0, ([ee_0, ee_475], [(nat_lit 0, sv_234), (nat_lit 1, sv_232), (nat_lit 2, sv_12), (nat_lit 3, sv_168)], [], [(nat_lit 105, nat_lit 4, sv_1)]), [(nat_lit 2, nat_lit 105, nat_lit 4)], [(nat_lit 17, nat_lit 40)]),
  (nat_lit 17, nat_lit 41, nat_lit 0, ([ee_0, ee_476], [(nat_lit 0, sv_234), (nat_lit 1, sv_232), (nat_lit 2, sv_12), (nat_lit 3, sv_134)], [], [(nat_lit 105, nat_lit 4, sv_1)]), [(nat_lit 2, nat_lit 105, nat_lit 4)], [])]
def syt_875 : CO := (nat_lit 50, nat_lit 6, [ee_0], [sv_234, sv_232, sv_12], [], [], [(none, [ee_0, ee_24], [(nat_lit 105, nat_lit 4, sv_1)], [(nat_lit 2, nat_lit 105, nat_lit 4)])], [(nat_lit 31, nat_lit 0, nat_lit 3), (nat_lit 32, nat_lit 0, nat_lit 6), (nat_lit 33, nat_lit 0, nat_lit 6), (nat_lit 34, nat_lit 0, nat_lit 6), (nat_lit 35, nat_lit 0, nat_lit 6), (nat_lit 36, nat_lit 0, nat_lit 6), (nat_lit 37, nat_lit 0, nat_lit 6), (nat_lit 38, nat_lit 0, nat_lit 7), (nat_lit 105, nat_lit 5, nat_lit 10)], (syl_875_0 ++ (syl_875_1 ++ (syl_875_2 ++ (syl_875_3 ++ (syl_875_4 ++ (syl_875_5 ++ (syl_875_6 ++ (syl_875_7 ++ (syl_875_8 ++ (syl_875_9 ++ (syl_875_10 ++ (syl_875_11 ++ (syl_875_12 ++ (syl_875_13)))))))))))))), [], [(nat_lit 17, nat_lit 0)])
set_option maxRecDepth 100000 in
theorem syp_875_0 : runL_f GG [syt_831, syt_872, syt_874, syt_870, syt_868, syt_871, syt_873, syt_869, syt_866] syt_875 4000 0 syl_875_0 = true := by decide +kernel
set_option maxRecDepth 100000 in
theorem syp_875_1 : runL_f GG [syt_831, syt_872, syt_874, syt_870, syt_868, syt_871, syt_873, syt_869, syt_866] syt_875 4000 3 syl_875_1 = true := by decide +kernel
set_option maxRecDepth 100000 in
theorem syp_875_2 : runL_f GG [syt_831, syt_872, syt_874, syt_870, syt_868, syt_871, syt_873, syt_869, syt_866] syt_875 4000 6 syl_875_2 = true := by decide +kernel
set_option maxRecDepth 100000 in
theorem syp_875_3 : runL_f GG [syt_831, syt_872, syt_874, syt_870, syt_868, syt_871, syt_873, syt_869, syt_866] syt_875 4000 9 syl_875_3 = true := by decide +kernel
set_option maxRecDepth 100000 in
theorem syp_875_4 : runL_f GG [syt_831, syt_872, syt_874, syt_870, syt_868, syt_871, syt_873, syt_869, syt_866] syt_875 4000 12 syl_875_4 = true := by decide +kernel
set_option maxRecDepth 100000 in
theorem syp_875_5 : runL_f GG [syt_831, syt_872, syt_874, syt_870, syt_868, syt_871, syt_873, syt_869, syt_866] syt_875 4000 15 syl_875_5 = true := by decide +kernel
set_option maxRecDepth 100000 in
theorem syp_875_6 : runL_f GG [syt_831, syt_872, syt_874, syt_870, syt_868, syt_871, syt_873, syt_869, syt_866] syt_875 4000 18 syl_875_6 = true := by decide +kernel
set_option maxRecDepth 100000 in
theorem syp_875_7 : runL_f GG [syt_831, syt_872, syt_874, syt_870, syt_868, syt_871, syt_873, syt_869, syt_866] syt_875 4000 21 syl_875_7 = true := by decide +kernel
set_option maxRecDepth 100000 in
theorem syp_875_8 : runL_f GG [syt_831, syt_872, syt_874, syt_870, syt_868, syt_871, syt_873, syt_869, syt_866] syt_875 4000 24 syl_875_8 = true := by decide +kernel
set_option maxRecDepth 100000 in
theorem syp_875_9 : runL_f GG [syt_831, syt_872, syt_874, syt_870, syt_868, syt_871, syt_873, syt_869, syt_866] syt_875 4000 27 syl_875_9 = true := by decide +kernel
set_option maxRecDepth 100000 in
theorem syp_875_10 : runL_f GG [syt_831, syt_872, syt_874, syt_870, syt_868, syt_871, syt_873, syt_869, syt_866] syt_875 4000 30 syl_875_10 = true := by decide +kernel
set_option maxRecDepth 100000 in
theorem syp_875_11 : runL_f GG [syt_831, syt_872, syt_874, syt_870, syt_868, syt_871, syt_873, syt_869, syt_866] syt_875 4000 33 syl_875_11 = true := by decide +kernel
set_option maxRecDepth 100000 in
theorem syp_875_12 : runL_f GG [syt_831, syt_872, syt_874, syt_870, syt_868, syt_871, syt_873, syt_869, syt_866] syt_875 4000 36 syl_875_12 = true := by decide +kernel
set_option maxRecDepth 100000 in
theorem syp_875_13 : runL_f GG [syt_831, syt_872, syt_874, syt_870, syt_868, syt_871, syt_873, syt_869, syt_866] syt_875 4000 39 syl_875_13 = true := by decide +kernel
set_option maxRecDepth 100000 in
theorem syc_875 : CoOk GG MM syt_875 := chk_okP (cs := [syt_831, syt_872, syt_874, syt_870, syt_868, syt_871, syt_873, syt_869, syt_866]) (F := 4000) (cs_c syc_831 <| cs_c syc_872 <| cs_c syc_874 <| cs_c syc_870 <| cs_c syc_868 <| cs_c syc_871 <| cs_c syc_873 <| cs_c syc_869 <| cs_c syc_866 cs_n) (by decide +kernel) (runL_app (runL_q syp_875_0) (runL_app (runL_q syp_875_1) (runL_app (runL_q syp_875_2) (runL_app (runL_q syp_875_3) (runL_app (runL_q syp_875_4) (runL_app (runL_q syp_875_5) (runL_app (runL_q syp_875_6) (runL_app (runL_q syp_875_7) (runL_app (runL_q syp_875_8) (runL_app (runL_q syp_875_9) (runL_app (runL_q syp_875_10) (runL_app (runL_q syp_875_11) (runL_app (runL_q syp_875_12) ((runL_q syp_875_13)))))))))))))))
end
