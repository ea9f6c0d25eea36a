section
/-! ===== contracts, inferred and printed by my program, checked here ===== -/
/-- M.isIn -/
def syt_2547 : CO := (nat_lit 218, nat_lit 1, [ee_0, ee_712], [sv_1, sv_6, sv_24], [], [(nat_lit 1, nat_lit 0, nat_lit 0)], [(some sv_6, [ee_0, ee_712], [], [])], [], [], [], [])
set_option maxRecDepth 100000 in
theorem syc_2547 : CoOk GG MM syt_2547 := chk_okF (cs := []) (F := 4000) (fun _ h => absurd h List.not_mem_nil) (by decide +kernel) (by decide +kernel)
/-- M.book -/
def syt_2548 : CO := (nat_lit 181, nat_lit 2, [ee_0, ee_712], [sv_19, sv_1], [], [(nat_lit 1, nat_lit 1, nat_lit 0)], [(some sv_285, [ee_0, ee_712], [], [])], [(nat_lit 180, nat_lit 0, nat_lit 0)], [], [], [])
set_option maxRecDepth 100000 in
theorem syc_2548 : CoOk GG MM syt_2548 := chk_okF (cs := [syt_2547]) (F := 4000) (cs_c syc_2547 cs_n) (by decide +kernel) (by decide +kernel)
/-- Tape.put -/
def syt_2549 : CO := (nat_lit 162, nat_lit 1, [ee_0, ee_1, ee_7], [sv_0, sv_1], [(nat_lit 1, nat_lit 1, sv_4)], [(nat_lit 1, nat_lit 1, nat_lit 0), (nat_lit 2, nat_lit 1, nat_lit 1)], [(none, [ee_0, ee_1, ee_7], [(nat_lit 1, nat_lit 1, sv_23)], [])], [(nat_lit 1, nat_lit 1, nat_lit 1), (nat_lit 2, nat_lit 0, nat_lit 923)], [(nat_lit 3, nat_lit 1, nat_lit 0, ([ee_0, ee_1, ee_7], [(nat_lit 0, sv_0), (nat_lit 1, sv_1), (nat_lit 2, sv_2)], [], [(nat_lit 1, nat_lit 1, sv_4)]), [], [(nat_lit 3, nat_lit 1)]),
  (nat_lit 3, nat_lit 2, nat_lit 0, ([ee_0, ee_1, ee_7], [(nat_lit 0, sv_0), (nat_lit 1, sv_1), (nat_lit 2, sv_3)], [], [(nat_lit 1, nat_lit 1, sv_20)]), [], [(nat_lit 3, nat_lit 2)]),
  (nat_lit 3, nat_lit 3, nat_lit 0, ([ee_0, ee_1, ee_7], [(nat_lit 0, sv_0), (nat_lit 1, sv_1), (nat_lit 2, sv_5)], [], [(nat_lit 1, nat_lit 1, sv_21)]), [], [(nat_lit 3, nat_lit 3)]),
  (nat_lit 3, nat_lit 4, nat_lit 0, ([ee_0, ee_1, ee_7], [(nat_lit 0, sv_0), (nat_lit 1, sv_1), (nat_lit 2, sv_6)], [], [(nat_lit 1, nat_lit 1, sv_22)]), [], [(nat_lit 3, nat_lit 4)]),
  (nat_lit 3, nat_lit 5, nat_lit 0, ([ee_0, ee_1, ee_7], [(nat_lit 0, sv_0), (nat_lit 1, sv_1), (nat_lit 2, sv_7)], [], [(nat_lit 1, nat_lit 1, sv_23)]), [], [])], [], [(nat_lit 3, nat_lit 0)])
set_option maxRecDepth 100000 in
theorem syc_2549 : CoOk GG MM syt_2549 := chk_okF (cs := []) (F := 4000) (fun _ h => absurd h List.not_mem_nil) (by decide +kernel) (by decide +kernel)
/-- Tape.put -/
def syt_2550 : CO := (nat_lit 162, nat_lit 1, [ee_0, ee_1, ee_8], [sv_0, sv_1], [(nat_lit 1, nat_lit 1, sv_4)], [(nat_lit 1, nat_lit 1, nat_lit 0), (nat_lit 2, nat_lit 1, nat_lit 1)], [(none, [ee_0, ee_1, ee_8], [(nat_lit 1, nat_lit 1, sv_23)], [])], [(nat_lit 1, nat_lit 1, nat_lit 1), (nat_lit 2, nat_lit 4, nat_lit 927)], [(nat_lit 3, nat_lit 1, nat_lit 0, ([ee_0, ee_1, ee_8], [(nat_lit 0, sv_0), (nat_lit 1, sv_1), (nat_lit 2, sv_2)], [], [(nat_lit 1, nat_lit 1, sv_4)]), [], [(nat_lit 3, nat_lit 1)]),
  (nat_lit 3, nat_lit 2, nat_lit 0, ([ee_0, ee_1, ee_8], [(nat_lit 0, sv_0), (nat_lit 1, sv_1), (nat_lit 2, sv_3)], [], [(nat_lit 1, nat_lit 1, sv_20)]), [], [(nat_lit 3, nat_lit 2)]),
  (nat_lit 3, nat_lit 3, nat_lit 0, ([ee_0, ee_1, ee_8], [(nat_lit 0, sv_0), (nat_lit 1, sv_1), (nat_lit 2, sv_5)], [], [(nat_lit 1, nat_lit 1, sv_21)]), [], [(nat_lit 3, nat_lit 3)]),
  (nat_lit 3, nat_lit 4, nat_lit 0, ([ee_0, ee_1, ee_8], [(nat_lit 0, sv_0), (nat_lit 1, sv_1), (nat_lit 2, sv_6)], [], [(nat_lit 1, nat_lit 1, sv_22)]), [], [(nat_lit 3, nat_lit 4)]),
  (nat_lit 3, nat_lit 5, nat_lit 0, ([ee_0, ee_1, ee_8], [(nat_lit 0, sv_0), (nat_lit 1, sv_1), (nat_lit 2, sv_7)], [], [(nat_lit 1, nat_lit 1, sv_23)]), [], [])], [], [(nat_lit 3, nat_lit 0)])
set_option maxRecDepth 100000 in
theorem syc_2550 : CoOk GG MM syt_2550 := chk_okF (cs := []) (F := 4000) (fun _ h => absurd h List.not_mem_nil) (by decide +kernel) (by decide +kernel)
/-- Tape.put -/
def syt_2551 : CO := (nat_lit 162, nat_lit 1, [ee_0, ee_1, ee_9], [sv_0, sv_1], [(nat_lit 1, nat_lit 1, sv_4)], [(nat_lit 1, nat_lit 1, nat_lit 0), (nat_lit 2, nat_lit 1, nat_lit 1)], [(none, [ee_0, ee_1, ee_9], [(nat_lit 1, nat_lit 1, sv_23)], [])], [(nat_lit 1, nat_lit 1, nat_lit 1), (nat_lit 2, nat_lit 8, nat_lit 931)], [(nat_lit 3, nat_lit 1, nat_lit 0, ([ee_0, ee_1, ee_9], [(nat_lit 0, sv_0), (nat_lit 1, sv_1), (nat_lit 2, sv_2)], [], [(nat_lit 1, nat_lit 1, sv_4)]), [], [(nat_lit 3, nat_lit 1)]),
  (nat_lit 3, nat_lit 2, nat_lit 0, ([ee_0, ee_1, ee_9], [(nat_lit 0, sv_0), (nat_lit 1, sv_1), (nat_lit 2, sv_3)], [], [(nat_lit 1, nat_lit 1, sv_20)]), [], [(nat_lit 3, nat_lit 2)]),
  (nat_lit 3, nat_lit 3, nat_lit 0, ([ee_0, ee_1, ee_9], [(nat_lit 0, sv_0), (nat_lit 1, sv_1), (nat_lit 2, sv_5)], [], [(nat_lit 1, nat_lit 1, sv_21)]), [], [(nat_lit 3, nat_lit 3)]),
  (nat_lit 3, nat_lit 4, nat_lit 0, ([ee_0, ee_1, ee_9], [(nat_lit 0, sv_0), (nat_lit 1, sv_1), (nat_lit 2, sv_6)], [], [(nat_lit 1, nat_lit 1, sv_22)]), [], [(nat_lit 3, nat_lit 4)]),
  (nat_lit 3, nat_lit 5, nat_lit 0, ([ee_0, ee_1, ee_9], [(nat_lit 0, sv_0), (nat_lit 1, sv_1), (nat_lit 2, sv_7)], [], [(nat_lit 1, nat_lit 1, sv_23)]), [], [])], [], [(nat_lit 3, nat_lit 0)])
set_option maxRecDepth 100000 in
theorem syc_2551 : CoOk GG MM syt_2551 := chk_okF (cs := []) (F := 4000) (fun _ h => absurd h List.not_mem_nil) (by decide +kernel) (by decide +kernel)
/-- Tape.put -/
def syt_2552 : CO := (nat_lit 162, nat_lit 1, [ee_0, ee_1, ee_10], [sv_0, sv_1], [(nat_lit 1, nat_lit 1, sv_4)], [(nat_lit 1, nat_lit 1, nat_lit 0), (nat_lit 2, nat_lit 1, nat_lit 1)], [(none, [ee_0, ee_1, ee_10], [(nat_lit 1, nat_lit 1, sv_23)], [])], [(nat_lit 1, nat_lit 1, nat_lit 1), (nat_lit 2, nat_lit 12, nat_lit 935)], [(nat_lit 3, nat_lit 1, nat_lit 0, ([ee_0, ee_1, ee_10], [(nat_lit 0, sv_0), (nat_lit 1, sv_1), (nat_lit 2, sv_2)], [], [(nat_lit 1, nat_lit 1, sv_4)]), [], [(nat_lit 3, nat_lit 1)]),
  (nat_lit 3, nat_lit 2, nat_lit 0, ([ee_0, ee_1, ee_10], [(nat_lit 0, sv_0), (nat_lit 1, sv_1), (nat_lit 2, sv_3)], [], [(nat_lit 1, nat_lit 1, sv_20)]), [], [(nat_lit 3, nat_lit 2)]),
  (nat_lit 3, nat_lit 3, nat_lit 0, ([ee_0, ee_1, ee_10], [(nat_lit 0, sv_0), (nat_lit 1, sv_1), (nat_lit 2, sv_5)], [], [(nat_lit 1, nat_lit 1, sv_21)]), [], [(nat_lit 3, nat_lit 3)]),
  (nat_lit 3, nat_lit 4, nat_lit 0, ([ee_0, ee_1, ee_10], [(nat_lit 0, sv_0), (nat_lit 1, sv_1), (nat_lit 2, sv_6)], [], [(nat_lit 1, nat_lit 1, sv_22)]), [], [(nat_lit 3, nat_lit 4)]),
  (nat_lit 3, nat_lit 5, nat_lit 0, ([ee_0, ee_1, ee_10], [(nat_lit 0, sv_0), (nat_lit 1, sv_1), (nat_lit 2, sv_7)], [], [(nat_lit 1, nat_lit 1, sv_23)]), [], [])], [], [(nat_lit 3, nat_lit 0)])
set_option maxRecDepth 100000 in
theorem syc_2552 : CoOk GG MM syt_2552 := chk_okF (cs := []) (F := 4000) (fun _ h => absurd h List.not_mem_nil) (by decide +kernel) (by decide +kernel)
/-- Tape.put -/
def syt_2553 : CO := (nat_lit 162, nat_lit 1, [ee_0, ee_1, ee_11], [sv_0, sv_1], [(nat_lit 1, nat_lit 1, sv_4)], [(nat_lit 1, nat_lit 1, nat_lit 0), (nat_lit 2, nat_lit 1, nat_lit 1)], [(none, [ee_0, ee_1, ee_11], [(nat_lit 1, nat_lit 1, sv_23)], [])], [(nat_lit 1, nat_lit 1, nat_lit 1), (nat_lit 2, nat_lit 16, nat_lit 939)], [(nat_lit 3, nat_lit 1, nat_lit 0, ([ee_0, ee_1, ee_11], [(nat_lit 0, sv_0), (nat_lit 1, sv_1), (nat_lit 2, sv_2)], [], [(nat_lit 1, nat_lit 1, sv_4)]), [], [(nat_lit 3, nat_lit 1)]),
  (nat_lit 3, nat_lit 2, nat_lit 0, ([ee_0, ee_1, ee_11], [(nat_lit 0, sv_0), (nat_lit 1, sv_1), (nat_lit 2, sv_3)], [], [(nat_lit 1, nat_lit 1, sv_20)]), [], [(nat_lit 3, nat_lit 2)]),
  (nat_lit 3, nat_lit 3, nat_lit 0, ([ee_0, ee_1, ee_11], [(nat_lit 0, sv_0), (nat_lit 1, sv_1), (nat_lit 2, sv_5)], [], [(nat_lit 1, nat_lit 1, sv_21)]), [], [(nat_lit 3, nat_lit 3)]),
  (nat_lit 3, nat_lit 4, nat_lit 0, ([ee_0, ee_1, ee_11], [(nat_lit 0, sv_0), (nat_lit 1, sv_1), (nat_lit 2, sv_6)], [], [(nat_lit 1, nat_lit 1, sv_22)]), [], [(nat_lit 3, nat_lit 4)]),
  (nat_lit 3, nat_lit 5, nat_lit 0, ([ee_0, ee_1, ee_11], [(nat_lit 0, sv_0), (nat_lit 1, sv_1), (nat_lit 2, sv_7)], [], [(nat_lit 1, nat_lit 1, sv_23)]), [], [])], [], [(nat_lit 3, nat_lit 0)])
set_option maxRecDepth 100000 in
theorem syc_2553 : CoOk GG MM syt_2553 := chk_okF (cs := []) (F := 4000) (fun _ h => absurd h List.not_mem_nil) (by decide +kernel) (by decide +kernel)
/-- X.feed -/
def syt_2554 : CO := (nat_lit 18, nat_lit 2, [ee_0, ee_1, ee_1, ee_1, ee_1, ee_1, ee_7], [sv_8, sv_1, sv_4, sv_9, sv_10, sv_11], [(nat_lit 1, nat_lit 1, sv_17)], [(nat_lit 1, nat_lit 1, nat_lit 0), (nat_lit 1, nat_lit 2, nat_lit 0), (nat_lit 1, nat_lit 3, nat_lit 0), (nat_lit 1, nat_lit 4, nat_lit 0), (nat_lit 1, nat_lit 5, nat_lit 0), (nat_lit 2, nat_lit 1, nat_lit 1)], [(some sv_284, [ee_0, ee_1, ee_1, ee_1, ee_1, ee_1, ee_7], [(nat_lit 1, nat_lit 1, sv_284)], [])], [(nat_lit 1, nat_lit 1, nat_lit 1), (nat_lit 2, nat_lit 0, nat_lit 939)], [], [], [])
set_option maxRecDepth 100000 in
theorem syc_2554 : CoOk GG MM syt_2554 := chk_okF (cs := [syt_2549, syt_2550, syt_2551, syt_2552, syt_2553]) (F := 4000) (cs_c syc_2549 <| cs_c syc_2550 <| cs_c syc_2551 <| cs_c syc_2552 <| cs_c syc_2553 cs_n) (by decide +kernel) (by decide +kernel)
/-- X.feed -/
def syt_2555 : CO := (nat_lit 18, nat_lit 1, [ee_0, ee_1, ee_1, ee_1, ee_1, ee_1, ee_6], [sv_8, sv_1, sv_4, sv_9, sv_10, sv_11], [(nat_lit 1, nat_lit 1, sv_17)], [(nat_lit 1, nat_lit 1, nat_lit 0), (nat_lit 1, nat_lit 2, nat_lit 0), (nat_lit 1, nat_lit 3, nat_lit 0), (nat_lit 1, nat_lit 4, nat_lit 0), (nat_lit 1, nat_lit 5, nat_lit 0), (nat_lit 2, nat_lit 1, nat_lit 1)], [(some sv_16, [ee_0, ee_1, ee_1, ee_1, ee_1, ee_1, ee_6], [(nat_lit 1, nat_lit 1, sv_17)], [])], [], [], [], [])
set_option maxRecDepth 100000 in
theorem syc_2555 : CoOk GG MM syt_2555 := chk_okF (cs := []) (F := 4000) (fun _ h => absurd h List.not_mem_nil) (by decide +kernel) (by decide +kernel)
/-- X.end -/
def syt_2556 : CO := (nat_lit 16, nat_lit 1, [ee_0, ee_710, ee_13], [sv_8, sv_1], [(nat_lit 1, nat_lit 1, sv_4)], [(nat_lit 1, nat_lit 1, nat_lit 0), (nat_lit 2, nat_lit 1, nat_lit 1)], [(some sv_6, [ee_0, ee_710, ee_13], [(nat_lit 1, nat_lit 1, sv_4)], [])], [], [], [], [])
set_option maxRecDepth 100000 in
theorem syc_2556 : CoOk GG MM syt_2556 := chk_okF (cs := []) (F := 4000) (fun _ h => absurd h List.not_mem_nil) (by decide +kernel) (by decide +kernel)
/-- X.end -/
def syt_2557 : CO := (nat_lit 16, nat_lit 1, [ee_0, ee_13, ee_72], [sv_8, sv_1], [(nat_lit 1, nat_lit 1, sv_4)], [(nat_lit 1, nat_lit 1, nat_lit 0), (nat_lit 2, nat_lit 1, nat_lit 1)], [(some sv_24, [ee_0, ee_13, ee_72], [(nat_lit 1, nat_lit 1, sv_1)], [])], [(nat_lit 1, nat_lit 1, nat_lit 1)], [], [], [])
set_option maxRecDepth 100000 in
theorem syc_2557 : CoOk GG MM syt_2557 := chk_okF (cs := []) (F := 4000) (fun _ h => absurd h List.not_mem_nil) (by decide +kernel) (by decide +kernel)
/-- X.end -/
def syt_2558 : CO := (nat_lit 16, nat_lit 1, [ee_0, ee_711, ee_13], [sv_8, sv_1], [(nat_lit 1, nat_lit 1, sv_4)], [(nat_lit 1, nat_lit 1, nat_lit 0), (nat_lit 2, nat_lit 1, nat_lit 1)], [(some sv_6, [ee_0, ee_711, ee_13], [(nat_lit 1, nat_lit 1, sv_4)], [])], [], [], [], [])
set_option maxRecDepth 100000 in
theorem syc_2558 : CoOk GG MM syt_2558 := chk_okF (cs := []) (F := 4000) (fun _ h => absurd h List.not_mem_nil) (by decide +kernel) (by decide +kernel)
/-- X.book -/
def syt_2559 : CO := (nat_lit 7, nat_lit 1, [ee_0, ee_710], [sv_8, sv_1], [], [(nat_lit 1, nat_lit 1, nat_lit 0)], [(some sv_285, [ee_0, ee_710], [], [])], [], [], [], [])
set_option maxRecDepth 100000 in
theorem syc_2559 : CoOk GG MM syt_2559 := chk_okF (cs := []) (F := 4000) (fun _ h => absurd h List.not_mem_nil) (by decide +kernel) (by decide +kernel)
/-- Book.readWeds -/
def syt_2560 : CO := (nat_lit 55, nat_lit 4, [ee_0, ee_27], [sv_234, sv_0, sv_13, sv_1], [], [(nat_lit 1, nat_lit 3, nat_lit 0)], [(some sv_6, [ee_0, ee_27, ee_13], [(nat_lit 1, nat_lit 3, sv_4)], [(nat_lit 2, nat_lit 1, nat_lit 3)]), (some sv_24, [ee_0, ee_27, ee_13, ee_437], [(nat_lit 1, nat_lit 3, sv_4), (nat_lit 105, nat_lit 4, sv_9)], [(nat_lit 2, nat_lit 1, nat_lit 3), (nat_lit 2, nat_lit 105, nat_lit 4)])], [(nat_lit 1, nat_lit 3, nat_lit 8), (nat_lit 1, nat_lit 10, nat_lit 11), (nat_lit 105, nat_lit 4, nat_lit 4), (nat_lit 106, nat_lit 0, nat_lit 39), (nat_lit 107, nat_lit 0, nat_lit 39), (nat_lit 108, nat_lit 0, nat_lit 39), (nat_lit 109, nat_lit 0, nat_lit 39)], [], [], [])
set_option maxRecDepth 100000 in
theorem syc_2560 : CoOk GG MM syt_2560 := chk_okF (cs := [syt_854, syt_33, syt_21]) (F := 4000) (cs_c syc_854 <| cs_c syc_33 <| cs_c syc_21 cs_n) (by decide +kernel) (by decide +kernel)
/-- Duchy.namedHere -/
def syt_2561 : CO := (nat_lit 71, nat_lit 2, [ee_0, ee_30], [sv_0, sv_39, sv_1], [], [(nat_lit 1, nat_lit 2, nat_lit 0)], [(some sv_16, [ee_0, ee_30], [], []), (some sv_4, [ee_0, ee_31, ee_14], [], [(nat_lit 1, nat_lit 0, nat_lit 0)])], [(nat_lit 1, nat_lit 10, nat_lit 11)], [], [], [])
set_option maxRecDepth 100000 in
theorem syc_2561 : CoOk GG MM syt_2561 := chk_okF (cs := [syt_39, syt_24, syt_25]) (F := 4000) (cs_c syc_39 <| cs_c syc_24 <| cs_c syc_25 cs_n) (by decide +kernel) (by decide +kernel)
/-- Duchy.deedHere -/
def syt_2562 : CO := (nat_lit 63, nat_lit 3, [ee_0], [sv_13, sv_0], [], [], [(some sv_1, [ee_0, ee_14], [], [(nat_lit 1, nat_lit 0, nat_lit 0)]), (some sv_16, [ee_0], [], [])], [(nat_lit 1, nat_lit 10, nat_lit 11)], [], [], [])
set_option maxRecDepth 100000 in
theorem syc_2562 : CoOk GG MM syt_2562 := chk_okF (cs := [syt_2561]) (F := 4000) (cs_c syc_2561 cs_n) (by decide +kernel) (by decide +kernel)
/-- Book.readDoes -/
def syt_2563 : CO := (nat_lit 53, nat_lit 4, [ee_0, ee_27], [sv_234, sv_0, sv_13, sv_1], [], [(nat_lit 1, nat_lit 3, nat_lit 0)], [(some sv_6, [ee_0, ee_27, ee_13], [(nat_lit 1, nat_lit 3, sv_4)], [(nat_lit 2, nat_lit 1, nat_lit 3)]), (some sv_24, [ee_0, ee_27, ee_13, ee_437], [(nat_lit 1, nat_lit 3, sv_4), (nat_lit 105, nat_lit 4, sv_9)], [(nat_lit 2, nat_lit 1, nat_lit 3), (nat_lit 2, nat_lit 105, nat_lit 4)])], [(nat_lit 1, nat_lit 3, nat_lit 8), (nat_lit 1, nat_lit 10, nat_lit 11), (nat_lit 105, nat_lit 4, nat_lit 4), (nat_lit 106, nat_lit 0, nat_lit 39), (nat_lit 107, nat_lit 0, nat_lit 39), (nat_lit 108, nat_lit 0, nat_lit 39), (nat_lit 109, nat_lit 0, nat_lit 39)], [], [], [])
set_option maxRecDepth 100000 in
theorem syc_2563 : CoOk GG MM syt_2563 := chk_okF (cs := [syt_859, syt_860, syt_861, syt_2562, syt_21, syt_25]) (F := 4000) (cs_c syc_859 <| cs_c syc_860 <| cs_c syc_861 <| cs_c syc_2562 <| cs_c syc_21 <| cs_c syc_25 cs_n) (by decide +kernel) (by decide +kernel)
/-- Book.readAct -/
def syt_2564 : CO := (nat_lit 51, nat_lit 5, [ee_0], [sv_234, sv_0, sv_13], [], [], [(some sv_6, [ee_0], [], []), (some sv_24, [ee_0, ee_13, ee_437], [(nat_lit 1, nat_lit 3, sv_1), (nat_lit 105, nat_lit 4, sv_4)], [(nat_lit 2, nat_lit 1, nat_lit 3), (nat_lit 2, nat_lit 105, nat_lit 4)])], [(nat_lit 1, nat_lit 3, nat_lit 8), (nat_lit 1, nat_lit 10, nat_lit 11), (nat_lit 105, nat_lit 4, nat_lit 4), (nat_lit 106, nat_lit 0, nat_lit 39), (nat_lit 107, nat_lit 0, nat_lit 39), (nat_lit 108, nat_lit 0, nat_lit 39), (nat_lit 109, nat_lit 0, nat_lit 39)], [], [], [])
set_option maxRecDepth 100000 in
theorem syc_2564 : CoOk GG MM syt_2564 := chk_okF (cs := [syt_851, syt_852, syt_853, syt_2563, syt_2560, syt_33, syt_21, syt_25, syt_38]) (F := 4000) (cs_c syc_851 <| cs_c syc_852 <| cs_c syc_853 <| cs_c syc_2563 <| cs_c syc_2560 <| cs_c syc_33 <| cs_c syc_21 <| cs_c syc_25 <| cs_c syc_38 cs_n) (by decide +kernel) (by decide +kernel)
/-- Book.readFrom -/
def syt_2565 : CO := (nat_lit 54, nat_lit 6, [ee_0], [sv_234, sv_0, sv_13], [], [], [(none, [ee_0], [], [])], [(nat_lit 1, nat_lit 2, nat_lit 11), (nat_lit 105, nat_lit 4, nat_lit 4), (nat_lit 106, nat_lit 0, nat_lit 39), (nat_lit 107, nat_lit 0, nat_lit 39), (nat_lit 108, nat_lit 0, nat_lit 39), (nat_lit 109, nat_lit 0, nat_lit 39)], [(nat_lit 14, nat_lit 1, nat_lit 1, ([ee_0, ee_28, ee_13, ee_154, ee_24], [(nat_lit 0, sv_234), (nat_lit 1, sv_0), (nat_lit 2, sv_13), (nat_lit 3, sv_1)], [], [(nat_lit 1, nat_lit 3, sv_4), (nat_lit 1, nat_lit 9, sv_9), (nat_lit 105, nat_lit 4, sv_10)]), [(nat_lit 0, nat_lit 3, nat_lit 0), (nat_lit 2, nat_lit 1, nat_lit 3), (nat_lit 2, nat_lit 1, nat_lit 9), (nat_lit 2, nat_lit 105, nat_lit 4)], [(nat_lit 14, nat_lit 0)])], [], [(nat_lit 14, nat_lit 0)])
set_option maxRecDepth 100000 in
theorem syc_2565 : CoOk GG MM syt_2565 := chk_okF (cs := [syt_2564, syt_847, syt_844, syt_30]) (F := 4000) (cs_c syc_2564 <| cs_c syc_847 <| cs_c syc_844 <| cs_c syc_30 cs_n) (by decide +kernel) (by decide +kernel)
/-- Life.whyNot -/
def syt_2566 : CO := (nat_lit 116, nat_lit 2, [ee_0, ee_438, ee_27, ee_154, ee_127], [sv_232, sv_13, sv_1, sv_4, sv_9, sv_10], [], [(nat_lit 1, nat_lit 2, nat_lit 0), (nat_lit 1, nat_lit 3, nat_lit 0), (nat_lit 1, nat_lit 4, nat_lit 0), (nat_lit 1, nat_lit 5, nat_lit 0)], [(some sv_24, [ee_0, ee_438, ee_27, ee_154, ee_127], [], []), (some sv_6, [ee_0, ee_438, ee_27, ee_154, ee_127], [], []), (some sv_32, [ee_0, ee_439, ee_27, ee_154, ee_127], [], [])], [], [], [], [])
set_option maxRecDepth 100000 in
theorem syc_2566 : CoOk GG MM syt_2566 := chk_okF (cs := [syt_865, syt_823, syt_827]) (F := 4000) (cs_c syc_865 <| cs_c syc_823 <| cs_c syc_827 cs_n) (by decide +kernel) (by decide +kernel)
/-- Life.passDays -/
def syt_2567 : CO := (nat_lit 111, nat_lit 3, [ee_0, ee_154], [sv_232, sv_13, sv_1], [], [(nat_lit 1, nat_lit 2, nat_lit 0)], [(none, [ee_0, ee_154], [], [])], [(nat_lit 31, nat_lit 0, nat_lit 0), (nat_lit 32, nat_lit 0, nat_lit 6), (nat_lit 34, nat_lit 0, nat_lit 6), (nat_lit 37, nat_lit 0, nat_lit 6)], [(nat_lit 2, nat_lit 1, nat_lit 1, ([ee_0, ee_154, ee_154], [(nat_lit 0, sv_232), (nat_lit 1, sv_13), (nat_lit 2, sv_1), (nat_lit 3, sv_4)], [], []), [(nat_lit 0, nat_lit 3, nat_lit 0)], [(nat_lit 2, nat_lit 0)])], [], [(nat_lit 2, nat_lit 0)])
set_option maxRecDepth 100000 in
theorem syc_2567 : CoOk GG MM syt_2567 := chk_okF (cs := [syt_2329]) (F := 4000) (cs_c syc_2329 cs_n) (by decide +kernel) (by decide +kernel)
/-- Life.perform -/
def syt_2568 : CO := (nat_lit 112, nat_lit 4, [ee_0, ee_438, ee_27, ee_154, ee_127], [sv_232, sv_13, sv_1, sv_4, sv_9, sv_10], [], [(nat_lit 1, nat_lit 2, nat_lit 0), (nat_lit 1, nat_lit 3, nat_lit 0), (nat_lit 1, nat_lit 4, nat_lit 0), (nat_lit 1, nat_lit 5, nat_lit 0)], [(none, [ee_0, ee_438, ee_27, ee_154, ee_127], [], [])], [(nat_lit 31, nat_lit 0, nat_lit 0), (nat_lit 31, nat_lit 3, nat_lit 3), (nat_lit 32, nat_lit 0, nat_lit 6), (nat_lit 34, nat_lit 0, nat_lit 6), (nat_lit 36, nat_lit 0, nat_lit 6), (nat_lit 37, nat_lit 0, nat_lit 6)], [], [], [])
set_option maxRecDepth 100000 in
theorem syc_2568 : CoOk GG MM syt_2568 := chk_okF (cs := [syt_830, syt_2567]) (F := 4000) (cs_c syc_830 <| cs_c syc_2567 cs_n) (by decide +kernel) (by decide +kernel)
/-- Life.whyNot -/
def syt_2569 : CO := (nat_lit 116, nat_lit 2, [ee_0, ee_29, ee_27, ee_154, ee_127], [sv_232, sv_13, sv_1, sv_4, sv_9, sv_10], [], [(nat_lit 1, nat_lit 2, nat_lit 0), (nat_lit 1, nat_lit 3, nat_lit 0), (nat_lit 1, nat_lit 4, nat_lit 0), (nat_lit 1, nat_lit 5, nat_lit 0)], [(some sv_24, [ee_0, ee_29, ee_27, ee_154, ee_127], [], []), (some sv_6, [ee_0, ee_29, ee_27, ee_154, ee_127], [], [])], [], [], [], [])
set_option maxRecDepth 100000 in
theorem syc_2569 : CoOk GG MM syt_2569 := chk_okF (cs := [syt_865]) (F := 4000) (cs_c syc_865 cs_n) (by decide +kernel) (by decide +kernel)
/-- Life.perform -/
def syt_2570 : CO := (nat_lit 112, nat_lit 4, [ee_0, ee_29, ee_27, ee_154, ee_127], [sv_232, sv_13, sv_1, sv_4, sv_9, sv_10], [], [(nat_lit 1, nat_lit 2, nat_lit 0), (nat_lit 1, nat_lit 3, nat_lit 0), (nat_lit 1, nat_lit 4, nat_lit 0), (nat_lit 1, nat_lit 5, nat_lit 0)], [(none, [ee_0, ee_29, ee_27, ee_154, ee_127], [], [])], [(nat_lit 31, nat_lit 0, nat_lit 0), (nat_lit 32, nat_lit 0, nat_lit 6), (nat_lit 34, nat_lit 0, nat_lit 6), (nat_lit 37, nat_lit 0, nat_lit 6)], [], [], [])
set_option maxRecDepth 100000 in
theorem syc_2570 : CoOk GG MM syt_2570 := chk_okF (cs := [syt_2567]) (F := 4000) (cs_c syc_2567 cs_n) (by decide +kernel) (by decide +kernel)
/-- Life.whyNot -/
def syt_2571 : CO := (nat_lit 116, nat_lit 3, [ee_0, ee_177, ee_27, ee_27, ee_127], [sv_232, sv_13, sv_1, sv_4, sv_9, sv_10], [], [(nat_lit 1, nat_lit 2, nat_lit 0), (nat_lit 1, nat_lit 3, nat_lit 0), (nat_lit 1, nat_lit 4, nat_lit 0), (nat_lit 1, nat_lit 5, nat_lit 0)], [(some sv_11, [ee_0, ee_177, ee_27, ee_27, ee_127, ee_152], [], [(nat_lit 1, nat_lit 0, nat_lit 0)]), (some sv_6, [ee_0, ee_177, ee_27, ee_27, ee_127], [], []), (some sv_24, [ee_0, ee_177, ee_27, ee_27, ee_127], [], [])], [], [], [], [])
set_option maxRecDepth 100000 in
theorem syc_2571 : CoOk GG MM syt_2571 := chk_okF (cs := [syt_828]) (F := 4000) (cs_c syc_828 cs_n) (by decide +kernel) (by decide +kernel)
/-- Life.perform -/
def syt_2572 : CO := (nat_lit 112, nat_lit 2, [ee_0, ee_177, ee_27, ee_27, ee_127], [sv_232, sv_13, sv_1, sv_4, sv_9, sv_10], [], [(nat_lit 1, nat_lit 2, nat_lit 0), (nat_lit 1, nat_lit 3, nat_lit 0), (nat_lit 1, nat_lit 4, nat_lit 0), (nat_lit 1, nat_lit 5, nat_lit 0)], [(none, [ee_0, ee_177, ee_27, ee_27, ee_127], [], [])], [(nat_lit 36, nat_lit 0, nat_lit 6)], [], [], [])
set_option maxRecDepth 100000 in
theorem syc_2572 : CoOk GG MM syt_2572 := chk_okF (cs := [syt_829]) (F := 4000) (cs_c syc_829 cs_n) (by decide +kernel) (by decide +kernel)
/-- Life.whyNot -/
def syt_2573 : CO := (nat_lit 116, nat_lit 4, [ee_0, ee_0, ee_27, ee_14, ee_127], [sv_232, sv_13, sv_1, sv_4, sv_9, sv_10], [], [(nat_lit 1, nat_lit 2, nat_lit 0), (nat_lit 1, nat_lit 3, nat_lit 0), (nat_lit 1, nat_lit 4, nat_lit 0), (nat_lit 1, nat_lit 5, nat_lit 0)], [(some sv_24, [ee_0, ee_0, ee_27, ee_14, ee_127], [], []), (some sv_6, [ee_0, ee_0, ee_27, ee_14, ee_127], [], []), (some sv_11, [ee_0, ee_0, ee_27, ee_14, ee_127, ee_148], [], [(nat_lit 1, nat_lit 0, nat_lit 0)])], [], [], [], [])
set_option maxRecDepth 100000 in
theorem syc_2573 : CoOk GG MM syt_2573 := chk_okF (cs := [syt_2324]) (F := 4000) (cs_c syc_2324 cs_n) (by decide +kernel) (by decide +kernel)
/-- Life.perform -/
def syt_2574 : CO := (nat_lit 112, nat_lit 5, [ee_0, ee_0, ee_27, ee_14, ee_127], [sv_232, sv_13, sv_1, sv_4, sv_9, sv_10], [], [(nat_lit 1, nat_lit 2, nat_lit 0), (nat_lit 1, nat_lit 3, nat_lit 0), (nat_lit 1, nat_lit 4, nat_lit 0), (nat_lit 1, nat_lit 5, nat_lit 0)], [(none, [ee_0, ee_0, ee_27, ee_14, ee_127], [], [])], [(nat_lit 31, nat_lit 1, nat_lit 2), (nat_lit 32, nat_lit 0, nat_lit 6), (nat_lit 33, nat_lit 0, nat_lit 6), (nat_lit 34, nat_lit 0, nat_lit 6), (nat_lit 35, nat_lit 0, nat_lit 6), (nat_lit 37, nat_lit 0, nat_lit 6), (nat_lit 38, nat_lit 0, nat_lit 7)], [], [], [])
set_option maxRecDepth 100000 in
theorem syc_2574 : CoOk GG MM syt_2574 := chk_okF (cs := [syt_2327]) (F := 4000) (cs_c syc_2327 cs_n) (by decide +kernel) (by decide +kernel)
/-- Book.liveIn -/
def syl_2575_0 : List LB := [(nat_lit 17, nat_lit 1, nat_lit 0, ([ee_0], [(nat_lit 0, sv_234), (nat_lit 1, sv_232), (nat_lit 2, sv_13), (nat_lit 3, sv_6)], [], []), [], [(nat_lit 17, nat_lit 1)]),
  (nat_lit 17, nat_lit 2, nat_lit 0, ([ee_0, ee_437], [(nat_lit 0, sv_234), (nat_lit 1, sv_232), (nat_lit 2, sv_13), (nat_lit 3, sv_24)], [], [(nat_lit 105, nat_lit 4, sv_1)]), [(nat_lit 2, nat_lit 105, nat_lit 4)], [(nat_lit 17, nat_lit 2)]),
  (nat_lit 17, nat_lit 3, nat_lit 0, ([ee_0, ee_440], [(nat_lit 0, sv_234), (nat_lit 1, sv_232), (nat_lit 2, sv_13), (nat_lit 3, sv_32)], [], [(nat_lit 105, nat_lit 4, sv_1)]), [(nat_lit 2, nat_lit 105, nat_lit 4)], [(nat_lit 17, nat_lit 3)])]
def syl_2575_1 : List LB := [(nat_lit 17, nat_lit 4, nat_lit 0, ([ee_0, ee_441], [(nat_lit 0, sv_234), (nat_lit 1, sv_232), (nat_lit 2, sv_13), (nat_lit 3, sv_31)], [], [(nat_lit 105, nat_lit 4, sv_1)]), [(nat_lit 2, nat_lit 105, nat_lit 4)], [(nat_lit 17, nat_lit 4)]),
  (nat_lit 17, nat_lit 5, nat_lit 0, ([ee_0, ee_442], [(nat_lit 0, sv_234), (nat_lit 1, sv_232), (nat_lit 2, sv_13), (nat_lit 3, sv_38)], [], [(nat_lit 105, nat_lit 4, sv_1)]), [(nat_lit 2, nat_lit 105, nat_lit 4)], [(nat_lit 17, nat_lit 5)]),
  (nat_lit 17, nat_lit 6, nat_lit 0, ([ee_0, ee_443], [(nat_lit 0, sv_234), (nat_lit 1, sv_232), (nat_lit 2, sv_13), (nat_lit 3, sv_68)], [], [(nat_lit 105, nat_lit 4, sv_1)]), [(nat_lit 2, nat_lit 105, nat_lit 4)], [(nat_lit 17, nat_lit 6)])]
def syl_2575_2 : List LB := [(nat_lit 17, nat_lit 7, nat_lit 0, ([ee_0, ee_444], [(nat_lit 0, sv_234), (nat_lit 1, sv_232), (nat_lit 2, sv_13), (nat_lit 3, sv_70)], [], [(nat_lit 105, nat_lit 4, sv_1)]), [(nat_lit 2, nat_lit 105, nat_lit 4)], [(nat_lit 17, nat_lit 7)]),
  (nat_lit 17, nat_lit 8, nat_lit 0, ([ee_0, ee_445], [(nat_lit 0, sv_234), (nat_lit 1, sv_232), (nat_lit 2, sv_13), (nat_lit 3, sv_59)], [], [(nat_lit 105, nat_lit 4, sv_1)]), [(nat_lit 2, nat_lit 105, nat_lit 4)], [(nat_lit 17, nat_lit 8)]),
  (nat_lit 17, nat_lit 9, nat_lit 0, ([ee_0, ee_446], [(nat_lit 0, sv_234), (nat_lit 1, sv_232), (nat_lit 2, sv_13), (nat_lit 3, sv_5)], [], [(nat_lit 105, nat_lit 4, sv_1)]), [(nat_lit 2, nat_lit 105, nat_lit 4)], [(nat_lit 17, nat_lit 9)])]
def syl_2575_3 : List LB := [(nat_lit 17, nat_lit 10, nat_lit 0, ([ee_0, ee_447], [(nat_lit 0, sv_234), (nat_lit 1, sv_232), (nat_lit 2, sv_13), (nat_lit 3, sv_37)], [], [(nat_lit 105, nat_lit 4, sv_1)]), [(nat_lit 2, nat_lit 105, nat_lit 4)], [(nat_lit 17, nat_lit 10)]),
  (nat_lit 17, nat_lit 11, nat_lit 0, ([ee_0, ee_448], [(nat_lit 0, sv_234), (nat_lit 1, sv_232), (nat_lit 2, sv_13), (nat_lit 3, sv_72)], [], [(nat_lit 105, nat_lit 4, sv_1)]), [(nat_lit 2, nat_lit 105, nat_lit 4)], [(nat_lit 17, nat_lit 11)]),
  (nat_lit 17, nat_lit 12, nat_lit 0, ([ee_0, ee_449], [(nat_lit 0, sv_234), (nat_lit 1, sv_232), (nat_lit 2, sv_13), (nat_lit 3, sv_75)], [], [(nat_lit 105, nat_lit 4, sv_1)]), [(nat_lit 2, nat_lit 105, nat_lit 4)], [(nat_lit 17, nat_lit 12)])]
def syl_2575_4 : List LB := [(nat_lit 17, nat_lit 13, nat_lit 0, ([ee_0, ee_450], [(nat_lit 0, sv_234), (nat_lit 1, sv_232), (nat_lit 2, sv_13), (nat_lit 3, sv_76)], [], [(nat_lit 105, nat_lit 4, sv_1)]), [(nat_lit 2, nat_lit 105, nat_lit 4)], [(nat_lit 17, nat_lit 13)]),
  (nat_lit 17, nat_lit 14, nat_lit 0, ([ee_0, ee_451], [(nat_lit 0, sv_234), (nat_lit 1, sv_232), (nat_lit 2, sv_13), (nat_lit 3, sv_77)], [], [(nat_lit 105, nat_lit 4, sv_1)]), [(nat_lit 2, nat_lit 105, nat_lit 4)], [(nat_lit 17, nat_lit 14)]),
  (nat_lit 17, nat_lit 15, nat_lit 0, ([ee_0, ee_452], [(nat_lit 0, sv_234), (nat_lit 1, sv_232), (nat_lit 2, sv_13), (nat_lit 3, sv_78)], [], [(nat_lit 105, nat_lit 4, sv_1)]), [(nat_lit 2, nat_lit 105, nat_lit 4)], [(nat_lit 17, nat_lit 15)])]
def syl_2575_5 : List LB := [(nat_lit 17, nat_lit 16, nat_lit 0, ([ee_0, ee_453], [(nat_lit 0, sv_234), (nat_lit 1, sv_232), (nat_lit 2, sv_13), (nat_lit 3, sv_79)], [], [(nat_lit 105, nat_lit 4, sv_1)]), [(nat_lit 2, nat_lit 105, nat_lit 4)], [(nat_lit 17, nat_lit 16)]),
  (nat_lit 17, nat_lit 17, nat_lit 0, ([ee_0, ee_454], [(nat_lit 0, sv_234), (nat_lit 1, sv_232), (nat_lit 2, sv_13), (nat_lit 3, sv_3)], [], [(nat_lit 105, nat_lit 4, sv_1)]), [(nat_lit 2, nat_lit 105, nat_lit 4)], [(nat_lit 17, nat_lit 17)]),
  (nat_lit 17, nat_lit 18, nat_lit 0, ([ee_0, ee_455], [(nat_lit 0, sv_234), (nat_lit 1, sv_232), (nat_lit 2, sv_13), (nat_lit 3, sv_81)], [], [(nat_lit 105, nat_lit 4, sv_1)]), [(nat_lit 2, nat_lit 105, nat_lit 4)], [(nat_lit 17, nat_lit 18)])]
def syl_2575_6 : List LB := [(nat_lit 17, nat_lit 19, nat_lit 0, ([ee_0, ee_456], [(nat_lit 0, sv_234), (nat_lit 1, sv_232), (nat_lit 2, sv_13), (nat_lit 3, sv_40)], [], [(nat_lit 105, nat_lit 4, sv_1)]), [(nat_lit 2, nat_lit 105, nat_lit 4)], [(nat_lit 17, nat_lit 19)]),
  (nat_lit 17, nat_lit 20, nat_lit 0, ([ee_0, ee_457], [(nat_lit 0, sv_234), (nat_lit 1, sv_232), (nat_lit 2, sv_13), (nat_lit 3, sv_82)], [], [(nat_lit 105, nat_lit 4, sv_1)]), [(nat_lit 2, nat_lit 105, nat_lit 4)], [(nat_lit 17, nat_lit 20)]),
  (nat_lit 17, nat_lit 21, nat_lit 0, ([ee_0, ee_458], [(nat_lit 0, sv_234), (nat_lit 1, sv_232), (nat_lit 2, sv_13), (nat_lit 3, sv_84)], [], [(nat_lit 105, nat_lit 4, sv_1)]), [(nat_lit 2, nat_lit 105, nat_lit 4)], [(nat_lit 17, nat_lit 21)])]
def syl_2575_7 : List LB := [(nat_lit 17, nat_lit 22, nat_lit 0, ([ee_0, ee_459], [(nat_lit 0, sv_234), (nat_lit 1, sv_232), (nat_lit 2, sv_13), (nat_lit 3, sv_85)], [], [(nat_lit 105, nat_lit 4, sv_1)]), [(nat_lit 2, nat_lit 105, nat_lit 4)], [(nat_lit 17, nat_lit 22)]),
  (nat_lit 17, nat_lit 23, nat_lit 0, ([ee_0, ee_460], [(nat_lit 0, sv_234), (nat_lit 1, sv_232), (nat_lit 2, sv_13), (nat_lit 3, sv_86)], [], [(nat_lit 105, nat_lit 4, sv_1)]), [(nat_lit 2, nat_lit 105, nat_lit 4)], [(nat_lit 17, nat_lit 23)]),
  (nat_lit 17, nat_lit 24, nat_lit 0, ([ee_0, ee_461], [(nat_lit 0, sv_234), (nat_lit 1, sv_232), (nat_lit 2, sv_13), (nat_lit 3, sv_88)], [], [(nat_lit 105, nat_lit 4, sv_1)]), [(nat_lit 2, nat_lit 105, nat_lit 4)], [(nat_lit 17, nat_lit 24)])]
def syl_2575_8 : List LB := [(nat_lit 17, nat_lit 25, nat_lit 0, ([ee_0, ee_462], [(nat_lit 0, sv_234), (nat_lit 1, sv_232), (nat_lit 2, sv_13), (nat_lit 3, sv_2)], [], [(nat_lit 105, nat_lit 4, sv_1)]), [(nat_lit 2, nat_lit 105, nat_lit 4)], [(nat_lit 17, nat_lit 25)]),
  (nat_lit 17, nat_lit 26, nat_lit 0, ([ee_0, ee_463], [(nat_lit 0, sv_234), (nat_lit 1, sv_232), (nat_lit 2, sv_13), (nat_lit 3, sv_89)], [], [(nat_lit 105, nat_lit 4, sv_1)]), [(nat_lit 2, nat_lit 105, nat_lit 4)], [(nat_lit 17, nat_lit 26)]),
  (nat_lit 17, nat_lit 27, nat_lit 0, ([ee_0, ee_464], [(nat_lit 0, sv_234), (nat_lit 1, sv_232), (nat_lit 2, sv_13), (nat_lit 3, sv_90)], [], [(nat_lit 105, nat_lit 4, sv_1)]), [(nat_lit 2, nat_lit 105, nat_lit 4)], [(nat_lit 17, nat_lit 27)])]
def syl_2575_9 : List LB := [(nat_lit 17, nat_lit 28, nat_lit 0, ([ee_0, ee_423], [(nat_lit 0, sv_234), (nat_lit 1, sv_232), (nat_lit 2, sv_13), (nat_lit 3, sv_92)], [], [(nat_lit 105, nat_lit 4, sv_1)]), [(nat_lit 2, nat_lit 105, nat_lit 4)], [(nat_lit 17, nat_lit 28)]),
  (nat_lit 17, nat_lit 29, nat_lit 0, ([ee_0, ee_465], [(nat_lit 0, sv_234), (nat_lit 1, sv_232), (nat_lit 2, sv_13), (nat_lit 3, sv_93)], [], [(nat_lit 105, nat_lit 4, sv_1)]), [(nat_lit 2, nat_lit 105, nat_lit 4)], [(nat_lit 17, nat_lit 29)]),
  (nat_lit 17, nat_lit 30, nat_lit 0, ([ee_0, ee_466], [(nat_lit 0, sv_234), (nat_lit 1, sv_232), (nat_lit 2, sv_13), (nat_lit 3, sv_94)], [], [(nat_lit 105, nat_lit 4, sv_1)]), [(nat_lit 2, nat_lit 105, nat_lit 4)], [(nat_lit 17, nat_lit 30)])]
def syl_2575_10 : List LB := [(nat_lit 17, nat_lit 31, nat_lit 0, ([ee_0, ee_399], [(nat_lit 0, sv_234), (nat_lit 1, sv_232), (nat_lit 2, sv_13), (nat_lit 3, sv_33)], [], [(nat_lit 105, nat_lit 4, sv_1)]), [(nat_lit 2, nat_lit 105, nat_lit 4)], [(nat_lit 17, nat_lit 31)]),
  (nat_lit 17, nat_lit 32, nat_lit 0, ([ee_0, ee_467], [(nat_lit 0, sv_234), (nat_lit 1, sv_232), (nat_lit 2, sv_13), (nat_lit 3, sv_161)], [], [(nat_lit 105, nat_lit 4, sv_1)]), [(nat_lit 2, nat_lit 105, nat_lit 4)], [(nat_lit 17, nat_lit 32)]),
  (nat_lit 17, nat_lit 33, nat_lit 0, ([ee_0, ee_468], [(nat_lit 0, sv_234), (nat_lit 1, sv_232), (nat_lit 2, sv_13), (nat_lit 3, sv_133)], [], [(nat_lit 105, nat_lit 4, sv_1)]), [(nat_lit 2, nat_lit 105, nat_lit 4)], [(nat_lit 17, nat_lit 33)])]
def syl_2575_11 : List LB := [(nat_lit 17, nat_lit 34, nat_lit 0, ([ee_0, ee_469], [(nat_lit 0, sv_234), (nat_lit 1, sv_232), (nat_lit 2, sv_13), (nat_lit 3, sv_162)], [], [(nat_lit 105, nat_lit 4, sv_1)]), [(nat_lit 2, nat_lit 105, nat_lit 4)], [(nat_lit 17, nat_lit 34)]),
  (nat_lit 17, nat_lit 35, nat_lit 0, ([ee_0, ee_470], [(nat_lit 0, sv_234), (nat_lit 1, sv_232), (nat_lit 2, sv_13), (nat_lit 3, sv_163)], [], [(nat_lit 105, nat_lit 4, sv_1)]), [(nat_lit 2, nat_lit 105, nat_lit 4)], [(nat_lit 17, nat_lit 35)]),
  (nat_lit 17, nat_lit 36, nat_lit 0, ([ee_0, ee_471], [(nat_lit 0, sv_234), (nat_lit 1, sv_232), (nat_lit 2, sv_13), (nat_lit 3, sv_164)], [], [(nat_lit 105, nat_lit 4, sv_1)]), [(nat_lit 2, nat_lit 105, nat_lit 4)], [(nat_lit 17, nat_lit 36)])]
def syl_2575_12 : List LB := [(nat_lit 17, nat_lit 37, nat_lit 0, ([ee_0, ee_472], [(nat_lit 0, sv_234), (nat_lit 1, sv_232), (nat_lit 2, sv_13), (nat_lit 3, sv_165)], [], [(nat_lit 105, nat_lit 4, sv_1)]), [(nat_lit 2, nat_lit 105, nat_lit 4)], [(nat_lit 17, nat_lit 37)]),
  (nat_lit 17, nat_lit 38, nat_lit 0, ([ee_0, ee_473], [(nat_lit 0, sv_234), (nat_lit 1, sv_232), (nat_lit 2, sv_13), (nat_lit 3, sv_166)], [], [(nat_lit 105, nat_lit 4, sv_1)]), [(nat_lit 2, nat_lit 105, nat_lit 4)], [(nat_lit 17, nat_lit 38)]),
  (nat_lit 17, nat_lit 39, nat_lit 0, ([ee_0, ee_474], [(nat_lit 0, sv_234), (nat_lit 1, sv_232), (nat_lit 2, sv_13), (nat_lit 3, sv_167)], [], [(nat_lit 105, nat_lit 4, sv_1)]), [(nat_lit 2, nat_lit 105, nat_lit 4)], [(nat_lit 17, nat_lit 39)])]
def syl_2575_13 : List LB := [(nat_lit 17, nat_lit 40, nat_lit 0, ([ee_0, ee_475], [(nat_lit 0, sv_234), (nat_lit 1, sv_232), (nat_lit 2, sv_13), (nat_lit 3, sv_168)], [], [(nat_lit 105, nat_lit 4, sv_1)]), [(nat_lit 2, nat_lit 105, nat_lit 4)], [(nat_lit 17, nat_lit 40)]),
  (nat_lit 17, nat_lit 41, nat_lit 0, ([ee_0, ee_476], [(nat_lit 0, sv_234), (nat_lit 1, sv_232), (nat_lit 2, sv_13), (nat_lit 3, sv_134)], [], [(nat_lit 105, nat_lit 4, sv_1)]), [(nat_lit 2, nat_lit 105, nat_lit 4)], [])]
def syt_2575 : CO := (nat_lit 50, nat_lit 6, [ee_0], [sv_234, sv_232, sv_13], [], [], [(none, [ee_0, ee_24], [(nat_lit 105, nat_lit 4, sv_1)], [(nat_lit 2, nat_lit 105, nat_lit 4)])], [(nat_lit 31, nat_lit 0, nat_lit 3), (nat_lit 32, nat_lit 0, nat_lit 6), (nat_lit 33, nat_lit 0, nat_lit 6), (nat_lit 34, nat_lit 0, nat_lit 6), (nat_lit 35, nat_lit 0, nat_lit 6), (nat_lit 36, nat_lit 0, nat_lit 6), (nat_lit 37, nat_lit 0, nat_lit 6), (nat_lit 38, nat_lit 0, nat_lit 7), (nat_lit 105, nat_lit 5, nat_lit 10)], (syl_2575_0 ++ (syl_2575_1 ++ (syl_2575_2 ++ (syl_2575_3 ++ (syl_2575_4 ++ (syl_2575_5 ++ (syl_2575_6 ++ (syl_2575_7 ++ (syl_2575_8 ++ (syl_2575_9 ++ (syl_2575_10 ++ (syl_2575_11 ++ (syl_2575_12 ++ (syl_2575_13)))))))))))))), [], [(nat_lit 17, nat_lit 0)])
set_option maxRecDepth 100000 in
theorem syp_2575_0 : runL_f GG [syt_831, syt_2572, syt_2574, syt_2570, syt_2568, syt_2571, syt_2573, syt_2569, syt_2566] syt_2575 4000 0 syl_2575_0 = true := by decide +kernel
set_option maxRecDepth 100000 in
theorem syp_2575_1 : runL_f GG [syt_831, syt_2572, syt_2574, syt_2570, syt_2568, syt_2571, syt_2573, syt_2569, syt_2566] syt_2575 4000 3 syl_2575_1 = true := by decide +kernel
set_option maxRecDepth 100000 in
theorem syp_2575_2 : runL_f GG [syt_831, syt_2572, syt_2574, syt_2570, syt_2568, syt_2571, syt_2573, syt_2569, syt_2566] syt_2575 4000 6 syl_2575_2 = true := by decide +kernel
set_option maxRecDepth 100000 in
theorem syp_2575_3 : runL_f GG [syt_831, syt_2572, syt_2574, syt_2570, syt_2568, syt_2571, syt_2573, syt_2569, syt_2566] syt_2575 4000 9 syl_2575_3 = true := by decide +kernel
set_option maxRecDepth 100000 in
theorem syp_2575_4 : runL_f GG [syt_831, syt_2572, syt_2574, syt_2570, syt_2568, syt_2571, syt_2573, syt_2569, syt_2566] syt_2575 4000 12 syl_2575_4 = true := by decide +kernel
set_option maxRecDepth 100000 in
theorem syp_2575_5 : runL_f GG [syt_831, syt_2572, syt_2574, syt_2570, syt_2568, syt_2571, syt_2573, syt_2569, syt_2566] syt_2575 4000 15 syl_2575_5 = true := by decide +kernel
set_option maxRecDepth 100000 in
theorem syp_2575_6 : runL_f GG [syt_831, syt_2572, syt_2574, syt_2570, syt_2568, syt_2571, syt_2573, syt_2569, syt_2566] syt_2575 4000 18 syl_2575_6 = true := by decide +kernel
set_option maxRecDepth 100000 in
theorem syp_2575_7 : runL_f GG [syt_831, syt_2572, syt_2574, syt_2570, syt_2568, syt_2571, syt_2573, syt_2569, syt_2566] syt_2575 4000 21 syl_2575_7 = true := by decide +kernel
set_option maxRecDepth 100000 in
theorem syp_2575_8 : runL_f GG [syt_831, syt_2572, syt_2574, syt_2570, syt_2568, syt_2571, syt_2573, syt_2569, syt_2566] syt_2575 4000 24 syl_2575_8 = true := by decide +kernel
set_option maxRecDepth 100000 in
theorem syp_2575_9 : runL_f GG [syt_831, syt_2572, syt_2574, syt_2570, syt_2568, syt_2571, syt_2573, syt_2569, syt_2566] syt_2575 4000 27 syl_2575_9 = true := by decide +kernel
set_option maxRecDepth 100000 in
theorem syp_2575_10 : runL_f GG [syt_831, syt_2572, syt_2574, syt_2570, syt_2568, syt_2571, syt_2573, syt_2569, syt_2566] syt_2575 4000 30 syl_2575_10 = true := by decide +kernel
set_option maxRecDepth 100000 in
theorem syp_2575_11 : runL_f GG [syt_831, syt_2572, syt_2574, syt_2570, syt_2568, syt_2571, syt_2573, syt_2569, syt_2566] syt_2575 4000 33 syl_2575_11 = true := by decide +kernel
set_option maxRecDepth 100000 in
theorem syp_2575_12 : runL_f GG [syt_831, syt_2572, syt_2574, syt_2570, syt_2568, syt_2571, syt_2573, syt_2569, syt_2566] syt_2575 4000 36 syl_2575_12 = true := by decide +kernel
set_option maxRecDepth 100000 in
theorem syp_2575_13 : runL_f GG [syt_831, syt_2572, syt_2574, syt_2570, syt_2568, syt_2571, syt_2573, syt_2569, syt_2566] syt_2575 4000 39 syl_2575_13 = true := by decide +kernel
set_option maxRecDepth 100000 in
theorem syc_2575 : CoOk GG MM syt_2575 := chk_okP (cs := [syt_831, syt_2572, syt_2574, syt_2570, syt_2568, syt_2571, syt_2573, syt_2569, syt_2566]) (F := 4000) (cs_c syc_831 <| cs_c syc_2572 <| cs_c syc_2574 <| cs_c syc_2570 <| cs_c syc_2568 <| cs_c syc_2571 <| cs_c syc_2573 <| cs_c syc_2569 <| cs_c syc_2566 cs_n) (by decide +kernel) (runL_app (runL_q syp_2575_0) (runL_app (runL_q syp_2575_1) (runL_app (runL_q syp_2575_2) (runL_app (runL_q syp_2575_3) (runL_app (runL_q syp_2575_4) (runL_app (runL_q syp_2575_5) (runL_app (runL_q syp_2575_6) (runL_app (runL_q syp_2575_7) (runL_app (runL_q syp_2575_8) (runL_app (runL_q syp_2575_9) (runL_app (runL_q syp_2575_10) (runL_app (runL_q syp_2575_11) (runL_app (runL_q syp_2575_12) ((runL_q syp_2575_13)))))))))))))))
end
section
/-! ===== contracts, inferred and printed by my program, checked here ===== -/
/-- X.book -/
def syt_2576 : CO := (nat_lit 7, nat_lit 7, [ee_0, ee_55], [sv_8, sv_1], [], [(nat_lit 1, nat_lit 1, nat_lit 0)], [(some sv_4, [ee_0, ee_55, ee_1], [(nat_lit 1, nat_lit 1, sv_6)], [(nat_lit 1, nat_lit 0, nat_lit 0)])], [(nat_lit 0, nat_lit 13, nat_lit 13), (nat_lit 1, nat_lit 1, nat_lit 11), (nat_lit 23, nat_lit 0, nat_lit 3), (nat_lit 24, nat_lit 0, nat_lit 7), (nat_lit 25, nat_lit 0, nat_lit 7), (nat_lit 26, nat_lit 0, nat_lit 7), (nat_lit 27, nat_lit 0, nat_lit 7), (nat_lit 28, nat_lit 0, nat_lit 7), (nat_lit 29, nat_lit 0, nat_lit 7), (nat_lit 30, nat_lit 0, nat_lit 8), (nat_lit 31, nat_lit 0, nat_lit 3), (nat_lit 32, nat_lit 0, nat_lit 7), (nat_lit 33, nat_lit 0, nat_lit 7), (nat_lit 34, nat_lit 0, nat_lit 7), (nat_lit 35, nat_lit 0, nat_lit 7), (nat_lit 36, nat_lit 0, nat_lit 7), (nat_lit 37, nat_lit 0, nat_lit 7), (nat_lit 38, nat_lit 0, nat_lit 8), (nat_lit 39, nat_lit 1, nat_lit 2), (nat_lit 41, nat_lit 0, nat_lit 3), (nat_lit 42, nat_lit 0, nat_lit 7), (nat_lit 43, nat_lit 0, nat_lit 7), (nat_lit 44, nat_lit 0, nat_lit 7), (nat_lit 45, nat_lit 0, nat_lit 7), (nat_lit 46, nat_lit 0, nat_lit 7), (nat_lit 47, nat_lit 0, nat_lit 7), (nat_lit 48, nat_lit 0, nat_lit 8), (nat_lit 49, nat_lit 0, nat_lit 3), (nat_lit 50, nat_lit 0, nat_lit 7), (nat_lit 51, nat_lit 0, nat_lit 7), (nat_lit 52, nat_lit 0, nat_lit 7), (nat_lit 53, nat_lit 0, nat_lit 7), (nat_lit 54, nat_lit 0, nat_lit 7), (nat_lit 55, nat_lit 0, nat_lit 7), (nat_lit 56, nat_lit 0, nat_lit 8), (nat_lit 57, nat_lit 0, nat_lit 3), (nat_lit 58, nat_lit 0, nat_lit 7), (nat_lit 59, nat_lit 0, nat_lit 7), (nat_lit 60, nat_lit 0, nat_lit 7), (nat_lit 61, nat_lit 0, nat_lit 7), (nat_lit 62, nat_lit 0, nat_lit 7), (nat_lit 63, nat_lit 0, nat_lit 7), (nat_lit 64, nat_lit 0, nat_lit 8), (nat_lit 65, nat_lit 0, nat_lit 3), (nat_lit 66, nat_lit 0, nat_lit 7), (nat_lit 67, nat_lit 0, nat_lit 7), (nat_lit 68, nat_lit 0, nat_lit 7), (nat_lit 69, nat_lit 0, nat_lit 7), (nat_lit 70, nat_lit 0, nat_lit 7), (nat_lit 71, nat_lit 0, nat_lit 7), (nat_lit 72, nat_lit 0, nat_lit 8), (nat_lit 73, nat_lit 0, nat_lit 3), (nat_lit 74, nat_lit 0, nat_lit 7), (nat_lit 75, nat_lit 0, nat_lit 7), (nat_lit 76, nat_lit 0, nat_lit 7), (nat_lit 77, nat_lit 0, nat_lit 7), (nat_lit 78, nat_lit 0, nat_lit 7), (nat_lit 79, nat_lit 0, nat_lit 7), (nat_lit 80, nat_lit 0, nat_lit 8), (nat_lit 81, nat_lit 0, nat_lit 3), (nat_lit 82, nat_lit 0, nat_lit 7), (nat_lit 83, nat_lit 0, nat_lit 7), (nat_lit 84, nat_lit 0, nat_lit 7), (nat_lit 85, nat_lit 0, nat_lit 7), (nat_lit 86, nat_lit 0, nat_lit 7), (nat_lit 87, nat_lit 0, nat_lit 7), (nat_lit 88, nat_lit 0, nat_lit 8), (nat_lit 89, nat_lit 0, nat_lit 3), (nat_lit 90, nat_lit 0, nat_lit 7), (nat_lit 91, nat_lit 0, nat_lit 7), (nat_lit 92, nat_lit 0, nat_lit 7), (nat_lit 93, nat_lit 0, nat_lit 7), (nat_lit 94, nat_lit 0, nat_lit 7), (nat_lit 95, nat_lit 0, nat_lit 7), (nat_lit 96, nat_lit 0, nat_lit 8), (nat_lit 97, nat_lit 0, nat_lit 3), (nat_lit 98, nat_lit 0, nat_lit 7), (nat_lit 99, nat_lit 0, nat_lit 7), (nat_lit 100, nat_lit 0, nat_lit 7), (nat_lit 101, nat_lit 0, nat_lit 7), (nat_lit 102, nat_lit 0, nat_lit 7), (nat_lit 103, nat_lit 0, nat_lit 7), (nat_lit 104, nat_lit 0, nat_lit 8), (nat_lit 105, nat_lit 4, nat_lit 10), (nat_lit 106, nat_lit 0, nat_lit 39), (nat_lit 107, nat_lit 0, nat_lit 39), (nat_lit 108, nat_lit 0, nat_lit 39), (nat_lit 109, nat_lit 0, nat_lit 39)], [], [], [])
set_option maxRecDepth 100000 in
theorem syc_2576 : CoOk GG MM syt_2576 := chk_okF (cs := [syt_47, syt_2362, syt_875, syt_2575, syt_864, syt_2565, syt_819, syt_876, syt_291]) (F := 4000) (cs_c syc_47 <| cs_c syc_2362 <| cs_c syc_875 <| cs_c syc_2575 <| cs_c syc_864 <| cs_c syc_2565 <| cs_c syc_819 <| cs_c syc_876 <| cs_c syc_291 cs_n) (by decide +kernel) (by decide +kernel)
/-- X.book -/
def syt_2577 : CO := (nat_lit 7, nat_lit 1, [ee_0, ee_712], [sv_8, sv_1], [], [(nat_lit 1, nat_lit 1, nat_lit 0)], [(some sv_285, [ee_0, ee_712], [], [])], [], [], [], [])
set_option maxRecDepth 100000 in
theorem syc_2577 : CoOk GG MM syt_2577 := chk_okF (cs := []) (F := 4000) (fun _ h => absurd h List.not_mem_nil) (by decide +kernel) (by decide +kernel)
/-- X.isPerson -/
def syt_2578 : CO := (nat_lit 28, nat_lit 1, [ee_0, ee_710], [sv_8, sv_1], [], [(nat_lit 1, nat_lit 1, nat_lit 0)], [(some sv_6, [ee_0, ee_710], [], [])], [], [], [], [])
set_option maxRecDepth 100000 in
theorem syc_2578 : CoOk GG MM syt_2578 := chk_okF (cs := []) (F := 4000) (fun _ h => absurd h List.not_mem_nil) (by decide +kernel) (by decide +kernel)
/-- X.isPerson -/
def syt_2579 : CO := (nat_lit 28, nat_lit 1, [ee_0, ee_27, ee_713], [sv_8, sv_1], [(nat_lit 0, nat_lit 1, sv_12), (nat_lit 3, nat_lit 0, sv_4)], [(nat_lit 1, nat_lit 1, nat_lit 0), (nat_lit 2, nat_lit 3, nat_lit 0)], [(some sv_24, [ee_0, ee_27, ee_714], [(nat_lit 0, nat_lit 1, sv_12)], [])], [], [], [], [])
set_option maxRecDepth 100000 in
theorem syc_2579 : CoOk GG MM syt_2579 := chk_okF (cs := []) (F := 4000) (fun _ h => absurd h List.not_mem_nil) (by decide +kernel) (by decide +kernel)
/-- X.isPerson -/
def syt_2580 : CO := (nat_lit 28, nat_lit 1, [ee_0, ee_715, ee_14], [sv_8, sv_1], [(nat_lit 0, nat_lit 1, sv_12), (nat_lit 3, nat_lit 0, sv_4)], [(nat_lit 1, nat_lit 1, nat_lit 0), (nat_lit 2, nat_lit 3, nat_lit 0)], [(some sv_6, [ee_0, ee_715, ee_14], [(nat_lit 0, nat_lit 1, sv_12)], [])], [], [], [], [])
set_option maxRecDepth 100000 in
theorem syc_2580 : CoOk GG MM syt_2580 := chk_okF (cs := []) (F := 4000) (fun _ h => absurd h List.not_mem_nil) (by decide +kernel) (by decide +kernel)
/-- X.person -/
def syt_2581 : CO := (nat_lit 34, nat_lit 4, [ee_0, ee_27, ee_14, ee_713], [sv_8, sv_1, sv_4], [(nat_lit 0, nat_lit 1, sv_12), (nat_lit 3, nat_lit 0, sv_9)], [(nat_lit 1, nat_lit 1, nat_lit 0), (nat_lit 1, nat_lit 2, nat_lit 0), (nat_lit 2, nat_lit 3, nat_lit 0)], [(some sv_10, [ee_0, ee_27, ee_27, ee_714, ee_1], [(nat_lit 0, nat_lit 1, sv_12)], [(nat_lit 1, nat_lit 0, nat_lit 0)]), (some sv_6, [ee_0, ee_27, ee_14, ee_714], [(nat_lit 0, nat_lit 1, sv_12)], []), (some sv_24, [ee_0, ee_27, ee_14, ee_714], [(nat_lit 0, nat_lit 1, sv_12)], [])], [], [], [], [])
set_option maxRecDepth 100000 in
theorem syc_2581 : CoOk GG MM syt_2581 := chk_okF (cs := [syt_2579, syt_280, syt_292]) (F := 4000) (cs_c syc_2579 <| cs_c syc_280 <| cs_c syc_292 cs_n) (by decide +kernel) (by decide +kernel)
/-- X.isPerson -/
def syt_2582 : CO := (nat_lit 28, nat_lit 1, [ee_0, ee_27, ee_713], [sv_8, sv_1], [(nat_lit 0, nat_lit 1, sv_13), (nat_lit 13, nat_lit 0, sv_4)], [(nat_lit 1, nat_lit 1, nat_lit 0), (nat_lit 2, nat_lit 13, nat_lit 0)], [(some sv_24, [ee_0, ee_27, ee_714], [(nat_lit 0, nat_lit 1, sv_13)], [])], [], [], [], [])
set_option maxRecDepth 100000 in
theorem syc_2582 : CoOk GG MM syt_2582 := chk_okF (cs := []) (F := 4000) (fun _ h => absurd h List.not_mem_nil) (by decide +kernel) (by decide +kernel)
/-- X.isPerson -/
def syt_2583 : CO := (nat_lit 28, nat_lit 1, [ee_0, ee_715, ee_14], [sv_8, sv_1], [(nat_lit 0, nat_lit 1, sv_13), (nat_lit 13, nat_lit 0, sv_4)], [(nat_lit 1, nat_lit 1, nat_lit 0), (nat_lit 2, nat_lit 13, nat_lit 0)], [(some sv_6, [ee_0, ee_715, ee_14], [(nat_lit 0, nat_lit 1, sv_13)], [])], [], [], [], [])
set_option maxRecDepth 100000 in
theorem syc_2583 : CoOk GG MM syt_2583 := chk_okF (cs := []) (F := 4000) (fun _ h => absurd h List.not_mem_nil) (by decide +kernel) (by decide +kernel)
/-- X.person -/
def syt_2584 : CO := (nat_lit 34, nat_lit 4, [ee_0, ee_27, ee_14, ee_713], [sv_8, sv_1, sv_4], [(nat_lit 0, nat_lit 1, sv_13), (nat_lit 13, nat_lit 0, sv_9)], [(nat_lit 1, nat_lit 1, nat_lit 0), (nat_lit 1, nat_lit 2, nat_lit 0), (nat_lit 2, nat_lit 13, nat_lit 0)], [(some sv_10, [ee_0, ee_27, ee_27, ee_714, ee_1], [(nat_lit 0, nat_lit 1, sv_13)], [(nat_lit 1, nat_lit 0, nat_lit 0)]), (some sv_6, [ee_0, ee_27, ee_14, ee_714], [(nat_lit 0, nat_lit 1, sv_13)], []), (some sv_24, [ee_0, ee_27, ee_14, ee_714], [(nat_lit 0, nat_lit 1, sv_13)], [])], [], [], [], [])
set_option maxRecDepth 100000 in
theorem syc_2584 : CoOk GG MM syt_2584 := chk_okF (cs := [syt_2582, syt_280, syt_2254]) (F := 4000) (cs_c syc_2582 <| cs_c syc_280 <| cs_c syc_2254 cs_n) (by decide +kernel) (by decide +kernel)
end
