/-! ===== contracts, inferred and printed by my program, checked here ===== -/
/-- Tape.put -/
def syt_0 : CO := (nat_lit 162, nat_lit 1, [ee_0, ee_1], [sv_0, sv_1], [], [(nat_lit 1, nat_lit 1, nat_lit 0)], [(none, [ee_0, ee_1, ee_5], [(nat_lit 1, nat_lit 1, sv_4)], [(nat_lit 2, nat_lit 1, nat_lit 1)])], [(nat_lit 1, nat_lit 1, nat_lit 1), (nat_lit 2, nat_lit 0, nat_lit 939)], [(nat_lit 3, nat_lit 1, nat_lit 0, ([ee_0, ee_1], [(nat_lit 0, sv_0), (nat_lit 1, sv_1), (nat_lit 2, sv_2)], [], []), [], [(nat_lit 3, nat_lit 1)]),
  (nat_lit 3, nat_lit 2, nat_lit 0, ([ee_0, ee_1, ee_2], [(nat_lit 0, sv_0), (nat_lit 1, sv_1), (nat_lit 2, sv_3)], [], [(nat_lit 1, nat_lit 1, sv_4)]), [(nat_lit 2, nat_lit 1, nat_lit 1)], [(nat_lit 3, nat_lit 2)]),
  (nat_lit 3, nat_lit 3, nat_lit 0, ([ee_0, ee_1, ee_3], [(nat_lit 0, sv_0), (nat_lit 1, sv_1), (nat_lit 2, sv_5)], [], [(nat_lit 1, nat_lit 1, sv_4)]), [(nat_lit 2, nat_lit 1, nat_lit 1)], [(nat_lit 3, nat_lit 3)]),
  (nat_lit 3, nat_lit 4, nat_lit 0, ([ee_0, ee_1, ee_4], [(nat_lit 0, sv_0), (nat_lit 1, sv_1), (nat_lit 2, sv_6)], [], [(nat_lit 1, nat_lit 1, sv_4)]), [(nat_lit 2, nat_lit 1, nat_lit 1)], [(nat_lit 3, nat_lit 4)]),
  (nat_lit 3, nat_lit 5, nat_lit 0, ([ee_0, ee_1, ee_5], [(nat_lit 0, sv_0), (nat_lit 1, sv_1), (nat_lit 2, sv_7)], [], [(nat_lit 1, nat_lit 1, sv_4)]), [(nat_lit 2, nat_lit 1, nat_lit 1)], [])], [], [(nat_lit 3, nat_lit 0)])
set_option maxRecDepth 100000 in
theorem syc_0 : CoOk GG MM syt_0 := chk_okF (cs := []) (F := 4000) (fun _ h => absurd h List.not_mem_nil) (by decide +kernel) (by decide +kernel)
/-- X.feed -/
def syt_1 : CO := (nat_lit 18, nat_lit 2, [ee_0, ee_1, ee_1, ee_1, ee_1, ee_1], [sv_8, sv_1, sv_4, sv_9, sv_10, sv_11], [(nat_lit 0, nat_lit 1, sv_12), (nat_lit 0, nat_lit 2, sv_13), (nat_lit 0, nat_lit 7, sv_14), (nat_lit 0, nat_lit 8, sv_15)], [(nat_lit 1, nat_lit 1, nat_lit 0), (nat_lit 1, nat_lit 2, nat_lit 0), (nat_lit 1, nat_lit 3, nat_lit 0), (nat_lit 1, nat_lit 4, nat_lit 0), (nat_lit 1, nat_lit 5, nat_lit 0)], [(some sv_16, [ee_0, ee_1, ee_1, ee_1, ee_1, ee_1, ee_6], [(nat_lit 0, nat_lit 1, sv_12), (nat_lit 0, nat_lit 2, sv_13), (nat_lit 0, nat_lit 7, sv_14), (nat_lit 0, nat_lit 8, sv_15), (nat_lit 1, nat_lit 1, sv_17)], [(nat_lit 2, nat_lit 1, nat_lit 1)]), (some sv_18, [ee_0, ee_1, ee_1, ee_1, ee_1, ee_1, ee_5, ee_5], [(nat_lit 0, nat_lit 1, sv_12), (nat_lit 0, nat_lit 2, sv_13), (nat_lit 0, nat_lit 7, sv_14), (nat_lit 0, nat_lit 8, sv_15), (nat_lit 1, nat_lit 1, sv_17)], [(nat_lit 2, nat_lit 1, nat_lit 1), (nat_lit 1, nat_lit 0, nat_lit 0)])], [(nat_lit 1, nat_lit 1, nat_lit 1), (nat_lit 2, nat_lit 0, nat_lit 939)], [], [], [])
set_option maxRecDepth 100000 in
theorem syc_1 : CoOk GG MM syt_1 := chk_okF (cs := [syt_0]) (F := 4000) (cs_c syc_0 cs_n) (by decide +kernel) (by decide +kernel)
/-- M.come -/
def syt_2 : CO := (nat_lit 185, nat_lit 1, [ee_0, ee_1, ee_7], [sv_19, sv_1], [(nat_lit 180, nat_lit 2, sv_4)], [(nat_lit 1, nat_lit 1, nat_lit 0), (nat_lit 2, nat_lit 180, nat_lit 2)], [(none, [ee_0, ee_1, ee_7], [(nat_lit 180, nat_lit 2, sv_23)], [])], [(nat_lit 180, nat_lit 2, nat_lit 2), (nat_lit 181, nat_lit 0, nat_lit 923)], [(nat_lit 3, nat_lit 1, nat_lit 0, ([ee_0, ee_1, ee_7], [(nat_lit 0, sv_19), (nat_lit 1, sv_1), (nat_lit 2, sv_2)], [], [(nat_lit 180, nat_lit 2, sv_4)]), [], [(nat_lit 3, nat_lit 1)]),
  (nat_lit 3, nat_lit 2, nat_lit 0, ([ee_0, ee_1, ee_7], [(nat_lit 0, sv_19), (nat_lit 1, sv_1), (nat_lit 2, sv_3)], [], [(nat_lit 180, nat_lit 2, sv_20)]), [], [(nat_lit 3, nat_lit 2)]),
  (nat_lit 3, nat_lit 3, nat_lit 0, ([ee_0, ee_1, ee_7], [(nat_lit 0, sv_19), (nat_lit 1, sv_1), (nat_lit 2, sv_5)], [], [(nat_lit 180, nat_lit 2, sv_21)]), [], [(nat_lit 3, nat_lit 3)]),
  (nat_lit 3, nat_lit 4, nat_lit 0, ([ee_0, ee_1, ee_7], [(nat_lit 0, sv_19), (nat_lit 1, sv_1), (nat_lit 2, sv_6)], [], [(nat_lit 180, nat_lit 2, sv_22)]), [], [(nat_lit 3, nat_lit 4)]),
  (nat_lit 3, nat_lit 5, nat_lit 0, ([ee_0, ee_1, ee_7], [(nat_lit 0, sv_19), (nat_lit 1, sv_1), (nat_lit 2, sv_7)], [], [(nat_lit 180, nat_lit 2, sv_23)]), [], [])], [], [(nat_lit 3, nat_lit 0)])
set_option maxRecDepth 100000 in
theorem syc_2 : CoOk GG MM syt_2 := chk_okF (cs := []) (F := 4000) (fun _ h => absurd h List.not_mem_nil) (by decide +kernel) (by decide +kernel)
/-- M.come -/
def syt_3 : CO := (nat_lit 185, nat_lit 1, [ee_0, ee_1, ee_8], [sv_19, sv_1], [(nat_lit 180, nat_lit 2, sv_4)], [(nat_lit 1, nat_lit 1, nat_lit 0), (nat_lit 2, nat_lit 180, nat_lit 2)], [(none, [ee_0, ee_1, ee_8], [(nat_lit 180, nat_lit 2, sv_23)], [])], [(nat_lit 180, nat_lit 2, nat_lit 2), (nat_lit 181, nat_lit 4, nat_lit 927)], [(nat_lit 3, nat_lit 1, nat_lit 0, ([ee_0, ee_1, ee_8], [(nat_lit 0, sv_19), (nat_lit 1, sv_1), (nat_lit 2, sv_2)], [], [(nat_lit 180, nat_lit 2, sv_4)]), [], [(nat_lit 3, nat_lit 1)]),
  (nat_lit 3, nat_lit 2, nat_lit 0, ([ee_0, ee_1, ee_8], [(nat_lit 0, sv_19), (nat_lit 1, sv_1), (nat_lit 2, sv_3)], [], [(nat_lit 180, nat_lit 2, sv_20)]), [], [(nat_lit 3, nat_lit 2)]),
  (nat_lit 3, nat_lit 3, nat_lit 0, ([ee_0, ee_1, ee_8], [(nat_lit 0, sv_19), (nat_lit 1, sv_1), (nat_lit 2, sv_5)], [], [(nat_lit 180, nat_lit 2, sv_21)]), [], [(nat_lit 3, nat_lit 3)]),
  (nat_lit 3, nat_lit 4, nat_lit 0, ([ee_0, ee_1, ee_8], [(nat_lit 0, sv_19), (nat_lit 1, sv_1), (nat_lit 2, sv_6)], [], [(nat_lit 180, nat_lit 2, sv_22)]), [], [(nat_lit 3, nat_lit 4)]),
  (nat_lit 3, nat_lit 5, nat_lit 0, ([ee_0, ee_1, ee_8], [(nat_lit 0, sv_19), (nat_lit 1, sv_1), (nat_lit 2, sv_7)], [], [(nat_lit 180, nat_lit 2, sv_23)]), [], [])], [], [(nat_lit 3, nat_lit 0)])
set_option maxRecDepth 100000 in
theorem syc_3 : CoOk GG MM syt_3 := chk_okF (cs := []) (F := 4000) (fun _ h => absurd h List.not_mem_nil) (by decide +kernel) (by decide +kernel)
/-- M.come -/
def syt_4 : CO := (nat_lit 185, nat_lit 1, [ee_0, ee_1, ee_9], [sv_19, sv_1], [(nat_lit 180, nat_lit 2, sv_4)], [(nat_lit 1, nat_lit 1, nat_lit 0), (nat_lit 2, nat_lit 180, nat_lit 2)], [(none, [ee_0, ee_1, ee_9], [(nat_lit 180, nat_lit 2, sv_23)], [])], [(nat_lit 180, nat_lit 2, nat_lit 2), (nat_lit 181, nat_lit 8, nat_lit 931)], [(nat_lit 3, nat_lit 1, nat_lit 0, ([ee_0, ee_1, ee_9], [(nat_lit 0, sv_19), (nat_lit 1, sv_1), (nat_lit 2, sv_2)], [], [(nat_lit 180, nat_lit 2, sv_4)]), [], [(nat_lit 3, nat_lit 1)]),
  (nat_lit 3, nat_lit 2, nat_lit 0, ([ee_0, ee_1, ee_9], [(nat_lit 0, sv_19), (nat_lit 1, sv_1), (nat_lit 2, sv_3)], [], [(nat_lit 180, nat_lit 2, sv_20)]), [], [(nat_lit 3, nat_lit 2)]),
  (nat_lit 3, nat_lit 3, nat_lit 0, ([ee_0, ee_1, ee_9], [(nat_lit 0, sv_19), (nat_lit 1, sv_1), (nat_lit 2, sv_5)], [], [(nat_lit 180, nat_lit 2, sv_21)]), [], [(nat_lit 3, nat_lit 3)]),
  (nat_lit 3, nat_lit 4, nat_lit 0, ([ee_0, ee_1, ee_9], [(nat_lit 0, sv_19), (nat_lit 1, sv_1), (nat_lit 2, sv_6)], [], [(nat_lit 180, nat_lit 2, sv_22)]), [], [(nat_lit 3, nat_lit 4)]),
  (nat_lit 3, nat_lit 5, nat_lit 0, ([ee_0, ee_1, ee_9], [(nat_lit 0, sv_19), (nat_lit 1, sv_1), (nat_lit 2, sv_7)], [], [(nat_lit 180, nat_lit 2, sv_23)]), [], [])], [], [(nat_lit 3, nat_lit 0)])
set_option maxRecDepth 100000 in
theorem syc_4 : CoOk GG MM syt_4 := chk_okF (cs := []) (F := 4000) (fun _ h => absurd h List.not_mem_nil) (by decide +kernel) (by decide +kernel)
/-- M.come -/
def syt_5 : CO := (nat_lit 185, nat_lit 1, [ee_0, ee_1, ee_10], [sv_19, sv_1], [(nat_lit 180, nat_lit 2, sv_4)], [(nat_lit 1, nat_lit 1, nat_lit 0), (nat_lit 2, nat_lit 180, nat_lit 2)], [(none, [ee_0, ee_1, ee_10], [(nat_lit 180, nat_lit 2, sv_23)], [])], [(nat_lit 180, nat_lit 2, nat_lit 2), (nat_lit 181, nat_lit 12, nat_lit 935)], [(nat_lit 3, nat_lit 1, nat_lit 0, ([ee_0, ee_1, ee_10], [(nat_lit 0, sv_19), (nat_lit 1, sv_1), (nat_lit 2, sv_2)], [], [(nat_lit 180, nat_lit 2, sv_4)]), [], [(nat_lit 3, nat_lit 1)]),
  (nat_lit 3, nat_lit 2, nat_lit 0, ([ee_0, ee_1, ee_10], [(nat_lit 0, sv_19), (nat_lit 1, sv_1), (nat_lit 2, sv_3)], [], [(nat_lit 180, nat_lit 2, sv_20)]), [], [(nat_lit 3, nat_lit 2)]),
  (nat_lit 3, nat_lit 3, nat_lit 0, ([ee_0, ee_1, ee_10], [(nat_lit 0, sv_19), (nat_lit 1, sv_1), (nat_lit 2, sv_5)], [], [(nat_lit 180, nat_lit 2, sv_21)]), [], [(nat_lit 3, nat_lit 3)]),
  (nat_lit 3, nat_lit 4, nat_lit 0, ([ee_0, ee_1, ee_10], [(nat_lit 0, sv_19), (nat_lit 1, sv_1), (nat_lit 2, sv_6)], [], [(nat_lit 180, nat_lit 2, sv_22)]), [], [(nat_lit 3, nat_lit 4)]),
  (nat_lit 3, nat_lit 5, nat_lit 0, ([ee_0, ee_1, ee_10], [(nat_lit 0, sv_19), (nat_lit 1, sv_1), (nat_lit 2, sv_7)], [], [(nat_lit 180, nat_lit 2, sv_23)]), [], [])], [], [(nat_lit 3, nat_lit 0)])
set_option maxRecDepth 100000 in
theorem syc_5 : CoOk GG MM syt_5 := chk_okF (cs := []) (F := 4000) (fun _ h => absurd h List.not_mem_nil) (by decide +kernel) (by decide +kernel)
/-- M.come -/
def syt_6 : CO := (nat_lit 185, nat_lit 1, [ee_0, ee_1, ee_11], [sv_19, sv_1], [(nat_lit 180, nat_lit 2, sv_4)], [(nat_lit 1, nat_lit 1, nat_lit 0), (nat_lit 2, nat_lit 180, nat_lit 2)], [(none, [ee_0, ee_1, ee_11], [(nat_lit 180, nat_lit 2, sv_23)], [])], [(nat_lit 180, nat_lit 2, nat_lit 2), (nat_lit 181, nat_lit 16, nat_lit 939)], [(nat_lit 3, nat_lit 1, nat_lit 0, ([ee_0, ee_1, ee_11], [(nat_lit 0, sv_19), (nat_lit 1, sv_1), (nat_lit 2, sv_2)], [], [(nat_lit 180, nat_lit 2, sv_4)]), [], [(nat_lit 3, nat_lit 1)]),
  (nat_lit 3, nat_lit 2, nat_lit 0, ([ee_0, ee_1, ee_11], [(nat_lit 0, sv_19), (nat_lit 1, sv_1), (nat_lit 2, sv_3)], [], [(nat_lit 180, nat_lit 2, sv_20)]), [], [(nat_lit 3, nat_lit 2)]),
  (nat_lit 3, nat_lit 3, nat_lit 0, ([ee_0, ee_1, ee_11], [(nat_lit 0, sv_19), (nat_lit 1, sv_1), (nat_lit 2, sv_5)], [], [(nat_lit 180, nat_lit 2, sv_21)]), [], [(nat_lit 3, nat_lit 3)]),
  (nat_lit 3, nat_lit 4, nat_lit 0, ([ee_0, ee_1, ee_11], [(nat_lit 0, sv_19), (nat_lit 1, sv_1), (nat_lit 2, sv_6)], [], [(nat_lit 180, nat_lit 2, sv_22)]), [], [(nat_lit 3, nat_lit 4)]),
  (nat_lit 3, nat_lit 5, nat_lit 0, ([ee_0, ee_1, ee_11], [(nat_lit 0, sv_19), (nat_lit 1, sv_1), (nat_lit 2, sv_7)], [], [(nat_lit 180, nat_lit 2, sv_23)]), [], [])], [], [(nat_lit 3, nat_lit 0)])
set_option maxRecDepth 100000 in
theorem syc_6 : CoOk GG MM syt_6 := chk_okF (cs := []) (F := 4000) (fun _ h => absurd h List.not_mem_nil) (by decide +kernel) (by decide +kernel)
/-- M.feed -/
def syt_7 : CO := (nat_lit 199, nat_lit 2, [ee_0, ee_1, ee_1, ee_1, ee_1, ee_1], [sv_19, sv_1, sv_4, sv_9, sv_10, sv_11], [], [(nat_lit 1, nat_lit 1, nat_lit 0), (nat_lit 1, nat_lit 2, nat_lit 0), (nat_lit 1, nat_lit 3, nat_lit 0), (nat_lit 1, nat_lit 4, nat_lit 0), (nat_lit 1, nat_lit 5, nat_lit 0)], [(some sv_16, [ee_0, ee_1, ee_1, ee_1, ee_1, ee_1, ee_6], [(nat_lit 180, nat_lit 2, sv_17)], [(nat_lit 2, nat_lit 180, nat_lit 2)]), (some sv_18, [ee_0, ee_1, ee_1, ee_1, ee_1, ee_1, ee_12, ee_12], [(nat_lit 180, nat_lit 2, sv_17)], [(nat_lit 2, nat_lit 180, nat_lit 2), (nat_lit 1, nat_lit 0, nat_lit 0)])], [(nat_lit 180, nat_lit 0, nat_lit 0), (nat_lit 180, nat_lit 2, nat_lit 2), (nat_lit 181, nat_lit 0, nat_lit 939)], [], [], [])
set_option maxRecDepth 100000 in
theorem syc_7 : CoOk GG MM syt_7 := chk_okF (cs := [syt_2, syt_3, syt_4, syt_5, syt_6]) (F := 4000) (cs_c syc_2 <| cs_c syc_3 <| cs_c syc_4 <| cs_c syc_5 <| cs_c syc_6 cs_n) (by decide +kernel) (by decide +kernel)
/-- X.end -/
def syt_8 : CO := (nat_lit 16, nat_lit 1, [ee_0, ee_1], [sv_8, sv_1], [(nat_lit 0, nat_lit 1, sv_12), (nat_lit 0, nat_lit 2, sv_13), (nat_lit 0, nat_lit 7, sv_14), (nat_lit 0, nat_lit 8, sv_15)], [(nat_lit 1, nat_lit 1, nat_lit 0)], [(some sv_6, [ee_0, ee_1], [(nat_lit 0, nat_lit 1, sv_12), (nat_lit 0, nat_lit 2, sv_13), (nat_lit 0, nat_lit 7, sv_14), (nat_lit 0, nat_lit 8, sv_15)], []), (some sv_24, [ee_0, ee_13], [(nat_lit 0, nat_lit 1, sv_12), (nat_lit 0, nat_lit 2, sv_13), (nat_lit 0, nat_lit 7, sv_14), (nat_lit 0, nat_lit 8, sv_15), (nat_lit 1, nat_lit 1, sv_1)], [])], [(nat_lit 1, nat_lit 1, nat_lit 1)], [], [], [])
set_option maxRecDepth 100000 in
theorem syc_8 : CoOk GG MM syt_8 := chk_okF (cs := []) (F := 4000) (fun _ h => absurd h List.not_mem_nil) (by decide +kernel) (by decide +kernel)
/-- M.end -/
def syt_9 : CO := (nat_lit 197, nat_lit 1, [ee_0, ee_1], [sv_19, sv_1], [], [(nat_lit 1, nat_lit 1, nat_lit 0)], [(some sv_6, [ee_0, ee_1], [], []), (some sv_24, [ee_0, ee_13], [(nat_lit 180, nat_lit 2, sv_1)], [])], [(nat_lit 180, nat_lit 0, nat_lit 0), (nat_lit 180, nat_lit 2, nat_lit 2)], [], [], [])
set_option maxRecDepth 100000 in
theorem syc_9 : CoOk GG MM syt_9 := chk_okF (cs := []) (F := 4000) (fun _ h => absurd h List.not_mem_nil) (by decide +kernel) (by decide +kernel)
/-- Duchy.clear -/
def syt_10 : CO := (nat_lit 61, nat_lit 1, [ee_0], [sv_13], [], [], [(none, [ee_0], [], [])], [(nat_lit 13, nat_lit 0, nat_lit 6), (nat_lit 17, nat_lit 0, nat_lit 6), (nat_lit 18, nat_lit 0, nat_lit 48)], [(nat_lit 37, nat_lit 1, nat_lit 1, ([ee_0, ee_14], [(nat_lit 0, sv_13), (nat_lit 1, sv_1)], [], []), [(nat_lit 0, nat_lit 1, nat_lit 0)], [(nat_lit 37, nat_lit 0), (nat_lit 58, nat_lit 1)]),
  (nat_lit 58, nat_lit 2, nat_lit 1, ([ee_0, ee_15], [(nat_lit 0, sv_13), (nat_lit 1, sv_1)], [], []), [(nat_lit 0, nat_lit 1, nat_lit 0)], [(nat_lit 58, nat_lit 1)])], [], [(nat_lit 37, nat_lit 0)])
set_option maxRecDepth 100000 in
theorem syc_10 : CoOk GG MM syt_10 := chk_okF (cs := []) (F := 4000) (fun _ h => absurd h List.not_mem_nil) (by decide +kernel) (by decide +kernel)
/-- Tape.signAt -/
def syt_11 : CO := (nat_lit 166, nat_lit 1, [ee_0, ee_1], [sv_0, sv_1], [], [(nat_lit 1, nat_lit 1, nat_lit 0)], [(some sv_4, [ee_0, ee_16, ee_17], [], [(nat_lit 1, nat_lit 0, nat_lit 0)]), (some sv_6, [ee_0, ee_1], [], [])], [], [], [], [])
set_option maxRecDepth 100000 in
theorem syc_11 : CoOk GG MM syt_11 := chk_okF (cs := []) (F := 4000) (fun _ h => absurd h List.not_mem_nil) (by decide +kernel) (by decide +kernel)
/-- Tape.isBlank -/
def syt_12 : CO := (nat_lit 156, nat_lit 1, [ee_0, ee_17], [sv_1], [], [(nat_lit 1, nat_lit 0, nat_lit 0)], [(some sv_24, [ee_0, ee_18], [], []), (some sv_6, [ee_0, ee_17], [], [])], [], [], [], [])
set_option maxRecDepth 100000 in
theorem syc_12 : CoOk GG MM syt_12 := chk_okF (cs := []) (F := 4000) (fun _ h => absurd h List.not_mem_nil) (by decide +kernel) (by decide +kernel)
/-- Tape.isLetter -/
def syt_13 : CO := (nat_lit 158, nat_lit 1, [ee_0, ee_17], [sv_1], [], [(nat_lit 1, nat_lit 0, nat_lit 0)], [(some sv_24, [ee_0, ee_19], [], []), (some sv_6, [ee_0, ee_17], [], [])], [], [], [], [])
set_option maxRecDepth 100000 in
theorem syc_13 : CoOk GG MM syt_13 := chk_okF (cs := []) (F := 4000) (fun _ h => absurd h List.not_mem_nil) (by decide +kernel) (by decide +kernel)
/-- Tape.isDigit -/
def syt_14 : CO := (nat_lit 157, nat_lit 1, [ee_0, ee_17], [sv_1], [], [(nat_lit 1, nat_lit 0, nat_lit 0)], [(some sv_24, [ee_0, ee_20], [], []), (some sv_6, [ee_0, ee_17], [], [])], [], [], [], [])
set_option maxRecDepth 100000 in
theorem syc_14 : CoOk GG MM syt_14 := chk_okF (cs := []) (F := 4000) (fun _ h => absurd h List.not_mem_nil) (by decide +kernel) (by decide +kernel)
/-- Tape.isMark -/
def syt_15 : CO := (nat_lit 159, nat_lit 1, [ee_0, ee_17], [sv_1], [], [(nat_lit 1, nat_lit 0, nat_lit 0)], [(some sv_24, [ee_0, ee_21], [], []), (some sv_6, [ee_0, ee_17], [], [])], [], [], [], [])
set_option maxRecDepth 100000 in
theorem syc_15 : CoOk GG MM syt_15 := chk_okF (cs := []) (F := 4000) (fun _ h => absurd h List.not_mem_nil) (by decide +kernel) (by decide +kernel)
/-- Tape.readMark -/
def syt_16 : CO := (nat_lit 163, nat_lit 2, [ee_0, ee_22], [sv_0], [(nat_lit 1, nat_lit 3, sv_1)], [(nat_lit 2, nat_lit 1, nat_lit 3)], [(none, [ee_0, ee_22], [(nat_lit 1, nat_lit 3, sv_25)], [])], [(nat_lit 1, nat_lit 3, nat_lit 4), (nat_lit 1, nat_lit 8, nat_lit 8)], [], [], [])
set_option maxRecDepth 100000 in
theorem syc_16 : CoOk GG MM syt_16 := chk_okF (cs := [syt_15, syt_11]) (F := 4000) (cs_c syc_15 <| cs_c syc_11 cs_n) (by decide +kernel) (by decide +kernel)
/-- Word.of -/
def syt_17 : CO := (nat_lit 169, nat_lit 1, [ee_0, ee_23], [sv_26], [], [(nat_lit 1, nat_lit 0, nat_lit 0)], [(some sv_27, [ee_0, ee_23, ee_24], [], [(nat_lit 1, nat_lit 0, nat_lit 0)]), (some sv_28, [ee_0, ee_23], [], [])], [], [(nat_lit 2, nat_lit 1, nat_lit 1, ([ee_0, ee_23, ee_24], [(nat_lit 0, sv_26), (nat_lit 2, sv_4)], [], []), [(nat_lit 0, nat_lit 2, nat_lit 0)], [(nat_lit 2, nat_lit 0)])], [], [(nat_lit 2, nat_lit 0)])
set_option maxRecDepth 100000 in
theorem syc_17 : CoOk GG MM syt_17 := chk_okF (cs := []) (F := 4000) (fun _ h => absurd h List.not_mem_nil) (by decide +kernel) (by decide +kernel)
/-- Word.withLetter -/
def syt_18 : CO := (nat_lit 170, nat_lit 1, [ee_0, ee_23, ee_1], [sv_26, sv_4], [], [(nat_lit 1, nat_lit 0, nat_lit 0), (nat_lit 1, nat_lit 1, nat_lit 0)], [(some sv_29, [ee_0, ee_23, ee_1, ee_23], [], [(nat_lit 1, nat_lit 0, nat_lit 0)])], [], [], [], [])
set_option maxRecDepth 100000 in
theorem syc_18 : CoOk GG MM syt_18 := chk_okF (cs := []) (F := 4000) (fun _ h => absurd h List.not_mem_nil) (by decide +kernel) (by decide +kernel)
/-- Tape.readRun -/
def syt_19 : CO := (nat_lit 164, nat_lit 2, [ee_0], [sv_0], [], [], [(none, [ee_0, ee_13], [(nat_lit 1, nat_lit 3, sv_1)], [(nat_lit 2, nat_lit 1, nat_lit 3)])], [(nat_lit 1, nat_lit 3, nat_lit 4), (nat_lit 1, nat_lit 6, nat_lit 8)], [(nat_lit 4, nat_lit 1, nat_lit 1, ([ee_0, ee_13, ee_1, ee_1], [(nat_lit 0, sv_0), (nat_lit 1, sv_4), (nat_lit 2, sv_9)], [], [(nat_lit 1, nat_lit 3, sv_1)]), [(nat_lit 2, nat_lit 1, nat_lit 3), (nat_lit 0, nat_lit 1, nat_lit 0), (nat_lit 0, nat_lit 2, nat_lit 0)], [(nat_lit 4, nat_lit 0)])], [(nat_lit 1, nat_lit 3, nat_lit 0)], [(nat_lit 4, nat_lit 0)])
set_option maxRecDepth 100000 in
theorem syc_19 : CoOk GG MM syt_19 := chk_okF (cs := [syt_14, syt_13, syt_11, syt_17, syt_18]) (F := 4000) (cs_c syc_14 <| cs_c syc_13 <| cs_c syc_11 <| cs_c syc_17 <| cs_c syc_18 cs_n) (by decide +kernel) (by decide +kernel)
/-- Tape.readMark -/
def syt_20 : CO := (nat_lit 163, nat_lit 2, [ee_0, ee_16], [sv_0], [(nat_lit 1, nat_lit 3, sv_1)], [(nat_lit 2, nat_lit 1, nat_lit 3)], [(none, [ee_0, ee_16], [(nat_lit 1, nat_lit 3, sv_25)], [])], [(nat_lit 1, nat_lit 3, nat_lit 4), (nat_lit 1, nat_lit 8, nat_lit 8)], [], [], [])
set_option maxRecDepth 100000 in
theorem syc_20 : CoOk GG MM syt_20 := chk_okF (cs := [syt_15, syt_11]) (F := 4000) (cs_c syc_15 <| cs_c syc_11 cs_n) (by decide +kernel) (by decide +kernel)
/-- Tape.advance -/
def syt_21 : CO := (nat_lit 155, nat_lit 3, [ee_0], [sv_0], [], [], [(none, [ee_0, ee_13], [(nat_lit 1, nat_lit 3, sv_1)], [(nat_lit 2, nat_lit 1, nat_lit 3)])], [(nat_lit 1, nat_lit 3, nat_lit 8)], [(nat_lit 17, nat_lit 1, nat_lit 1, ([ee_0, ee_13], [(nat_lit 0, sv_0)], [], [(nat_lit 1, nat_lit 3, sv_1)]), [(nat_lit 2, nat_lit 1, nat_lit 3)], [(nat_lit 17, nat_lit 0)])], [(nat_lit 1, nat_lit 3, nat_lit 0)], [(nat_lit 17, nat_lit 0)])
set_option maxRecDepth 100000 in
theorem syc_21 : CoOk GG MM syt_21 := chk_okF (cs := [syt_12, syt_14, syt_13, syt_16, syt_20, syt_19, syt_11]) (F := 4000) (cs_c syc_12 <| cs_c syc_14 <| cs_c syc_13 <| cs_c syc_16 <| cs_c syc_20 <| cs_c syc_19 <| cs_c syc_11 cs_n) (by decide +kernel) (by decide +kernel)
/-- Tape.open -/
def syt_22 : CO := (nat_lit 161, nat_lit 4, [ee_0], [sv_0, sv_30], [], [], [(none, [ee_0, ee_13], [(nat_lit 1, nat_lit 3, sv_1), (nat_lit 1, nat_lit 9, sv_6)], [(nat_lit 2, nat_lit 1, nat_lit 3)])], [(nat_lit 1, nat_lit 2, nat_lit 11)], [], [], [])
set_option maxRecDepth 100000 in
theorem syc_22 : CoOk GG MM syt_22 := chk_okF (cs := [syt_21]) (F := 4000) (cs_c syc_21 cs_n) (by decide +kernel) (by decide +kernel)
/-- Duchy.fillIn -/
def syt_23 : CO := (nat_lit 65, nat_lit 1, [ee_0], [sv_13], [], [], [(none, [ee_0], [], [])], [(nat_lit 13, nat_lit 2, nat_lit 4)], [], [], [])
set_option maxRecDepth 100000 in
theorem syc_23 : CoOk GG MM syt_23 := chk_okF (cs := []) (F := 4000) (fun _ h => absurd h List.not_mem_nil) (by decide +kernel) (by decide +kernel)
/-- Tape.refuse -/
def syt_24 : CO := (nat_lit 165, nat_lit 1, [ee_0], [sv_0, sv_31], [], [], [(some sv_6, [ee_0], [], [])], [(nat_lit 1, nat_lit 10, nat_lit 11)], [], [], [])
set_option maxRecDepth 100000 in
theorem syc_24 : CoOk GG MM syt_24 := chk_okF (cs := []) (F := 4000) (fun _ h => absurd h List.not_mem_nil) (by decide +kernel) (by decide +kernel)
/-- Tape.refuse -/
def syt_25 : CO := (nat_lit 165, nat_lit 1, [ee_0], [sv_0, sv_24], [], [], [(some sv_6, [ee_0], [], [])], [(nat_lit 1, nat_lit 10, nat_lit 11)], [], [], [])
set_option maxRecDepth 100000 in
theorem syc_25 : CoOk GG MM syt_25 := chk_okF (cs := []) (F := 4000) (fun _ h => absurd h List.not_mem_nil) (by decide +kernel) (by decide +kernel)
/-- Tape.refuse -/
def syt_26 : CO := (nat_lit 165, nat_lit 1, [ee_0], [sv_0, sv_32], [], [], [(some sv_6, [ee_0], [], [])], [(nat_lit 1, nat_lit 10, nat_lit 11)], [], [], [])
set_option maxRecDepth 100000 in
theorem syc_26 : CoOk GG MM syt_26 := chk_okF (cs := []) (F := 4000) (fun _ h => absurd h List.not_mem_nil) (by decide +kernel) (by decide +kernel)
/-- Tape.takesNumber -/
def syt_27 : CO := (nat_lit 168, nat_lit 4, [ee_0], [sv_0, sv_24, sv_33], [], [], [(some sv_6, [ee_0], [], []), (some sv_24, [ee_0, ee_13, ee_25], [(nat_lit 1, nat_lit 3, sv_1), (nat_lit 1, nat_lit 9, sv_4)], [(nat_lit 2, nat_lit 1, nat_lit 3), (nat_lit 2, nat_lit 1, nat_lit 9)])], [(nat_lit 1, nat_lit 3, nat_lit 11)], [], [], [])
set_option maxRecDepth 100000 in
theorem syc_27 : CoOk GG MM syt_27 := chk_okF (cs := [syt_21, syt_25, syt_26]) (F := 4000) (cs_c syc_21 <| cs_c syc_25 <| cs_c syc_26 cs_n) (by decide +kernel) (by decide +kernel)
/-- Duchy.readOnce -/
def syt_28 : CO := (nat_lit 77, nat_lit 5, [ee_0], [sv_13, sv_0], [], [], [(some sv_6, [ee_0], [], []), (some sv_24, [ee_0, ee_13, ee_25], [(nat_lit 1, nat_lit 3, sv_1), (nat_lit 1, nat_lit 9, sv_4)], [(nat_lit 2, nat_lit 1, nat_lit 3), (nat_lit 2, nat_lit 1, nat_lit 9)])], [(nat_lit 1, nat_lit 3, nat_lit 11), (nat_lit 13, nat_lit 2, nat_lit 4)], [], [], [])
set_option maxRecDepth 100000 in
theorem syc_28 : CoOk GG MM syt_28 := chk_okF (cs := [syt_21, syt_24, syt_27]) (F := 4000) (cs_c syc_21 <| cs_c syc_24 <| cs_c syc_27 cs_n) (by decide +kernel) (by decide +kernel)
/-- Tape.isMarkHere -/
def syt_29 : CO := (nat_lit 160, nat_lit 1, [ee_0], [sv_0, sv_34], [], [], [(some sv_24, [ee_0], [], []), (some sv_6, [ee_0], [], [])], [], [], [], [])
set_option maxRecDepth 100000 in
theorem syc_29 : CoOk GG MM syt_29 := chk_okF (cs := []) (F := 4000) (fun _ h => absurd h List.not_mem_nil) (by decide +kernel) (by decide +kernel)
/-- Tape.takesMark -/
def syt_30 : CO := (nat_lit 167, nat_lit 4, [ee_0], [sv_0, sv_34], [], [], [(some sv_6, [ee_0], [], []), (some sv_24, [ee_0, ee_13], [(nat_lit 1, nat_lit 3, sv_1)], [(nat_lit 2, nat_lit 1, nat_lit 3)])], [(nat_lit 1, nat_lit 3, nat_lit 8), (nat_lit 1, nat_lit 10, nat_lit 11)], [], [], [])
set_option maxRecDepth 100000 in
theorem syc_30 : CoOk GG MM syt_30 := chk_okF (cs := [syt_21, syt_29, syt_25]) (F := 4000) (cs_c syc_21 <| cs_c syc_29 <| cs_c syc_25 cs_n) (by decide +kernel) (by decide +kernel)
/-- Duchy.find -/
def syt_31 : CO := (nat_lit 66, nat_lit 1, [ee_0, ee_14, ee_23], [sv_35, sv_1, sv_36], [], [(nat_lit 1, nat_lit 1, nat_lit 0), (nat_lit 1, nat_lit 2, nat_lit 0)], [(some sv_9, [ee_0, ee_26, ee_23, ee_27], [], [(nat_lit 1, nat_lit 0, nat_lit 0)]), (some sv_16, [ee_0, ee_14, ee_23], [], [])], [], [(nat_lit 3, nat_lit 1, nat_lit 1, ([ee_0, ee_14, ee_23, ee_14], [(nat_lit 0, sv_35), (nat_lit 1, sv_1), (nat_lit 2, sv_36), (nat_lit 4, sv_9)], [], []), [(nat_lit 0, nat_lit 4, nat_lit 0)], [(nat_lit 3, nat_lit 0)])], [], [(nat_lit 3, nat_lit 0)])
set_option maxRecDepth 100000 in
theorem syc_31 : CoOk GG MM syt_31 := chk_okF (cs := []) (F := 4000) (fun _ h => absurd h List.not_mem_nil) (by decide +kernel) (by decide +kernel)
/-- Duchy.namedHere -/
def syt_32 : CO := (nat_lit 71, nat_lit 2, [ee_0, ee_14], [sv_0, sv_35, sv_1], [], [(nat_lit 1, nat_lit 2, nat_lit 0)], [(some sv_16, [ee_0, ee_14], [], []), (some sv_4, [ee_0, ee_26, ee_27], [], [(nat_lit 1, nat_lit 0, nat_lit 0)])], [(nat_lit 1, nat_lit 10, nat_lit 11)], [], [], [])
set_option maxRecDepth 100000 in
theorem syc_32 : CoOk GG MM syt_32 := chk_okF (cs := [syt_31, syt_24, syt_25]) (F := 4000) (cs_c syc_31 <| cs_c syc_24 <| cs_c syc_25 cs_n) (by decide +kernel) (by decide +kernel)
/-- Duchy.personHere -/
def syt_33 : CO := (nat_lit 73, nat_lit 3, [ee_0], [sv_13, sv_0], [], [], [(some sv_1, [ee_0, ee_27], [], [(nat_lit 1, nat_lit 0, nat_lit 0)]), (some sv_16, [ee_0], [], [])], [(nat_lit 1, nat_lit 10, nat_lit 11)], [], [], [])
set_option maxRecDepth 100000 in
theorem syc_33 : CoOk GG MM syt_33 := chk_okF (cs := [syt_32]) (F := 4000) (cs_c syc_32 cs_n) (by decide +kernel) (by decide +kernel)
/-- Duchy.readTwo -/
def syt_34 : CO := (nat_lit 80, nat_lit 4, [ee_0], [sv_13, sv_0], [], [], [(some sv_16, [ee_0, ee_13], [(nat_lit 1, nat_lit 3, sv_1)], [(nat_lit 2, nat_lit 1, nat_lit 3)]), (some sv_4, [ee_0, ee_13, ee_28], [(nat_lit 1, nat_lit 3, sv_1)], [(nat_lit 2, nat_lit 1, nat_lit 3), (nat_lit 1, nat_lit 0, nat_lit 0)])], [(nat_lit 1, nat_lit 3, nat_lit 8), (nat_lit 1, nat_lit 10, nat_lit 11)], [], [], [])
set_option maxRecDepth 100000 in
theorem syc_34 : CoOk GG MM syt_34 := chk_okF (cs := [syt_33, syt_21, syt_24]) (F := 4000) (cs_c syc_33 <| cs_c syc_21 <| cs_c syc_24 cs_n) (by decide +kernel) (by decide +kernel)
/-- Tape.takesNumber -/
def syt_35 : CO := (nat_lit 168, nat_lit 4, [ee_0], [sv_0, sv_24, sv_37], [], [], [(some sv_6, [ee_0], [], []), (some sv_24, [ee_0, ee_13, ee_29], [(nat_lit 1, nat_lit 3, sv_1), (nat_lit 1, nat_lit 9, sv_4)], [(nat_lit 2, nat_lit 1, nat_lit 3), (nat_lit 2, nat_lit 1, nat_lit 9)])], [(nat_lit 1, nat_lit 3, nat_lit 11)], [], [], [])
set_option maxRecDepth 100000 in
theorem syc_35 : CoOk GG MM syt_35 := chk_okF (cs := [syt_21, syt_25, syt_26]) (F := 4000) (cs_c syc_21 <| cs_c syc_25 <| cs_c syc_26 cs_n) (by decide +kernel) (by decide +kernel)
/-- Duchy.readFond -/
def syt_36 : CO := (nat_lit 75, nat_lit 5, [ee_0], [sv_13, sv_0], [], [], [(some sv_6, [ee_0], [], []), (some sv_24, [ee_0, ee_13, ee_29], [(nat_lit 1, nat_lit 3, sv_1), (nat_lit 1, nat_lit 9, sv_4)], [(nat_lit 2, nat_lit 1, nat_lit 3), (nat_lit 2, nat_lit 1, nat_lit 9)])], [(nat_lit 1, nat_lit 3, nat_lit 11), (nat_lit 18, nat_lit 0, nat_lit 48)], [], [], [])
set_option maxRecDepth 100000 in
theorem syc_36 : CoOk GG MM syt_36 := chk_okF (cs := [syt_34, syt_21, syt_24, syt_35]) (F := 4000) (cs_c syc_34 <| cs_c syc_21 <| cs_c syc_24 <| cs_c syc_35 cs_n) (by decide +kernel) (by decide +kernel)
/-- Duchy.readSees -/
def syt_37 : CO := (nat_lit 79, nat_lit 5, [ee_0], [sv_13, sv_0], [], [], [(some sv_6, [ee_0, ee_13], [(nat_lit 1, nat_lit 3, sv_1)], [(nat_lit 2, nat_lit 1, nat_lit 3)]), (some sv_24, [ee_0, ee_13], [(nat_lit 1, nat_lit 3, sv_1)], [(nat_lit 2, nat_lit 1, nat_lit 3)])], [(nat_lit 1, nat_lit 3, nat_lit 8), (nat_lit 1, nat_lit 10, nat_lit 11), (nat_lit 17, nat_lit 0, nat_lit 6)], [], [], [])
set_option maxRecDepth 100000 in
theorem syc_37 : CoOk GG MM syt_37 := chk_okF (cs := [syt_34, syt_21, syt_24]) (F := 4000) (cs_c syc_34 <| cs_c syc_21 <| cs_c syc_24 cs_n) (by decide +kernel) (by decide +kernel)
/-- Tape.refuse -/
def syt_38 : CO := (nat_lit 165, nat_lit 1, [ee_0], [sv_0, sv_38], [], [], [(some sv_6, [ee_0], [], [])], [(nat_lit 1, nat_lit 10, nat_lit 11)], [], [], [])
set_option maxRecDepth 100000 in
theorem syc_38 : CoOk GG MM syt_38 := chk_okF (cs := []) (F := 4000) (fun _ h => absurd h List.not_mem_nil) (by decide +kernel) (by decide +kernel)
/-- Duchy.find -/
def syt_39 : CO := (nat_lit 66, nat_lit 1, [ee_0, ee_30, ee_23], [sv_39, sv_1, sv_36], [], [(nat_lit 1, nat_lit 1, nat_lit 0), (nat_lit 1, nat_lit 2, nat_lit 0)], [(some sv_9, [ee_0, ee_31, ee_23, ee_14], [], [(nat_lit 1, nat_lit 0, nat_lit 0)]), (some sv_16, [ee_0, ee_30, ee_23], [], [])], [], [(nat_lit 3, nat_lit 1, nat_lit 1, ([ee_0, ee_30, ee_23, ee_30], [(nat_lit 0, sv_39), (nat_lit 1, sv_1), (nat_lit 2, sv_36), (nat_lit 4, sv_9)], [], []), [(nat_lit 0, nat_lit 4, nat_lit 0)], [(nat_lit 3, nat_lit 0)])], [], [(nat_lit 3, nat_lit 0)])
set_option maxRecDepth 100000 in
theorem syc_39 : CoOk GG MM syt_39 := chk_okF (cs := []) (F := 4000) (fun _ h => absurd h List.not_mem_nil) (by decide +kernel) (by decide +kernel)
/-- Duchy.isNewName -/
def syt_40 : CO := (nat_lit 70, nat_lit 2, [ee_0], [sv_13, sv_0], [], [], [(some sv_6, [ee_0], [], []), (some sv_24, [ee_0], [], [])], [(nat_lit 1, nat_lit 10, nat_lit 11)], [], [], [])
set_option maxRecDepth 100000 in
theorem syc_40 : CoOk GG MM syt_40 := chk_okF (cs := [syt_31, syt_39, syt_24, syt_25]) (F := 4000) (cs_c syc_31 <| cs_c syc_39 <| cs_c syc_24 <| cs_c syc_25 cs_n) (by decide +kernel) (by decide +kernel)
/-- Tape.takesNumber -/
def syt_41 : CO := (nat_lit 168, nat_lit 4, [ee_0], [sv_0, sv_24, sv_40], [], [], [(some sv_6, [ee_0], [], []), (some sv_24, [ee_0, ee_13, ee_32], [(nat_lit 1, nat_lit 3, sv_1), (nat_lit 1, nat_lit 9, sv_4)], [(nat_lit 2, nat_lit 1, nat_lit 3), (nat_lit 2, nat_lit 1, nat_lit 9)])], [(nat_lit 1, nat_lit 3, nat_lit 11)], [], [], [])
set_option maxRecDepth 100000 in
theorem syc_41 : CoOk GG MM syt_41 := chk_okF (cs := [syt_21, syt_25, syt_26]) (F := 4000) (cs_c syc_21 <| cs_c syc_25 <| cs_c syc_26 cs_n) (by decide +kernel) (by decide +kernel)
/-- Tape.takesNumber -/
def syt_42 : CO := (nat_lit 168, nat_lit 4, [ee_0], [sv_0, sv_6, sv_33], [], [], [(some sv_6, [ee_0], [], []), (some sv_24, [ee_0, ee_13, ee_33], [(nat_lit 1, nat_lit 3, sv_1), (nat_lit 1, nat_lit 9, sv_4)], [(nat_lit 2, nat_lit 1, nat_lit 3), (nat_lit 2, nat_lit 1, nat_lit 9)])], [(nat_lit 1, nat_lit 3, nat_lit 11)], [], [], [])
set_option maxRecDepth 100000 in
theorem syc_42 : CoOk GG MM syt_42 := chk_okF (cs := [syt_21, syt_25, syt_26]) (F := 4000) (cs_c syc_21 <| cs_c syc_25 <| cs_c syc_26 cs_n) (by decide +kernel) (by decide +kernel)
/-- Tape.takesNumber -/
def syt_43 : CO := (nat_lit 168, nat_lit 4, [ee_0], [sv_0, sv_6, sv_37], [], [], [(some sv_6, [ee_0], [], []), (some sv_24, [ee_0, ee_13, ee_34], [(nat_lit 1, nat_lit 3, sv_1), (nat_lit 1, nat_lit 9, sv_4)], [(nat_lit 2, nat_lit 1, nat_lit 3), (nat_lit 2, nat_lit 1, nat_lit 9)])], [(nat_lit 1, nat_lit 3, nat_lit 11)], [], [], [])
set_option maxRecDepth 100000 in
theorem syc_43 : CoOk GG MM syt_43 := chk_okF (cs := [syt_21, syt_25, syt_26]) (F := 4000) (cs_c syc_21 <| cs_c syc_25 <| cs_c syc_26 cs_n) (by decide +kernel) (by decide +kernel)
/-- Duchy.readDeed -/
def syt_44 : CO := (nat_lit 74, nat_lit 5, [ee_0], [sv_13, sv_0], [], [], [(some sv_6, [ee_0], [], []), (some sv_24, [ee_0, ee_13, ee_34], [(nat_lit 1, nat_lit 3, sv_1), (nat_lit 1, nat_lit 9, sv_4)], [(nat_lit 2, nat_lit 1, nat_lit 3), (nat_lit 2, nat_lit 1, nat_lit 9)])], [(nat_lit 1, nat_lit 3, nat_lit 11), (nat_lit 13, nat_lit 1, nat_lit 1), (nat_lit 13, nat_lit 6, nat_lit 6), (nat_lit 19, nat_lit 0, nat_lit 7), (nat_lit 20, nat_lit 0, nat_lit 7), (nat_lit 21, nat_lit 0, nat_lit 7), (nat_lit 22, nat_lit 0, nat_lit 7)], [], [], [])
set_option maxRecDepth 100000 in
theorem syc_44 : CoOk GG MM syt_44 := chk_okF (cs := [syt_40, syt_21, syt_38, syt_41, syt_42, syt_43]) (F := 4000) (cs_c syc_40 <| cs_c syc_21 <| cs_c syc_38 <| cs_c syc_41 <| cs_c syc_42 <| cs_c syc_43 cs_n) (by decide +kernel) (by decide +kernel)
/-- Duchy.readPerson -/
def syt_45 : CO := (nat_lit 78, nat_lit 5, [ee_0], [sv_13, sv_0], [], [], [(some sv_6, [ee_0], [], []), (some sv_24, [ee_0, ee_13, ee_29], [(nat_lit 1, nat_lit 3, sv_1), (nat_lit 1, nat_lit 9, sv_4)], [(nat_lit 2, nat_lit 1, nat_lit 3), (nat_lit 2, nat_lit 1, nat_lit 9)])], [(nat_lit 1, nat_lit 3, nat_lit 11), (nat_lit 13, nat_lit 0, nat_lit 0), (nat_lit 13, nat_lit 5, nat_lit 5), (nat_lit 14, nat_lit 0, nat_lit 6), (nat_lit 15, nat_lit 0, nat_lit 6), (nat_lit 16, nat_lit 0, nat_lit 6)], [], [], [])
set_option maxRecDepth 100000 in
theorem syc_45 : CoOk GG MM syt_45 := chk_okF (cs := [syt_40, syt_21, syt_38, syt_35]) (F := 4000) (cs_c syc_40 <| cs_c syc_21 <| cs_c syc_38 <| cs_c syc_35 cs_n) (by decide +kernel) (by decide +kernel)
/-- Duchy.readFrom -/
def syt_46 : CO := (nat_lit 76, nat_lit 6, [ee_0], [sv_13, sv_0], [], [], [(some sv_9, [ee_0, ee_13, ee_33, ee_35], [(nat_lit 1, nat_lit 3, sv_1), (nat_lit 1, nat_lit 9, sv_4)], [(nat_lit 2, nat_lit 1, nat_lit 3), (nat_lit 2, nat_lit 1, nat_lit 9), (nat_lit 1, nat_lit 0, nat_lit 0)]), (some sv_16, [ee_0], [], [])], [(nat_lit 1, nat_lit 2, nat_lit 11), (nat_lit 13, nat_lit 0, nat_lit 6), (nat_lit 14, nat_lit 0, nat_lit 6), (nat_lit 15, nat_lit 0, nat_lit 6), (nat_lit 16, nat_lit 0, nat_lit 6), (nat_lit 17, nat_lit 0, nat_lit 6), (nat_lit 18, nat_lit 0, nat_lit 48), (nat_lit 19, nat_lit 0, nat_lit 7), (nat_lit 20, nat_lit 0, nat_lit 7), (nat_lit 21, nat_lit 0, nat_lit 7), (nat_lit 22, nat_lit 0, nat_lit 7)], [(nat_lit 13, nat_lit 1, nat_lit 1, ([ee_0, ee_16, ee_13, ee_33], [(nat_lit 0, sv_13), (nat_lit 1, sv_0), (nat_lit 2, sv_1)], [], [(nat_lit 1, nat_lit 3, sv_4), (nat_lit 1, nat_lit 9, sv_9)]), [(nat_lit 0, nat_lit 2, nat_lit 0), (nat_lit 2, nat_lit 1, nat_lit 3), (nat_lit 2, nat_lit 1, nat_lit 9)], [(nat_lit 13, nat_lit 0)])], [], [(nat_lit 13, nat_lit 0)])
set_option maxRecDepth 100000 in
theorem syc_46 : CoOk GG MM syt_46 := chk_okF (cs := [syt_10, syt_23, syt_44, syt_36, syt_28, syt_45, syt_37, syt_22, syt_25, syt_30]) (F := 4000) (cs_c syc_10 <| cs_c syc_23 <| cs_c syc_44 <| cs_c syc_36 <| cs_c syc_28 <| cs_c syc_45 <| cs_c syc_37 <| cs_c syc_22 <| cs_c syc_25 <| cs_c syc_30 cs_n) (by decide +kernel) (by decide +kernel)
/-- X.takeFault -/
def syt_47 : CO := (nat_lit 41, nat_lit 1, [ee_0], [sv_8], [(nat_lit 0, nat_lit 1, sv_12)], [], [(none, [ee_0], [(nat_lit 0, nat_lit 1, sv_12), (nat_lit 1, nat_lit 1, sv_6)], [])], [(nat_lit 0, nat_lit 13, nat_lit 13), (nat_lit 1, nat_lit 1, nat_lit 1)], [], [], [])
set_option maxRecDepth 100000 in
theorem syc_47 : CoOk GG MM syt_47 := chk_okF (cs := []) (F := 4000) (fun _ h => absurd h List.not_mem_nil) (by decide +kernel) (by decide +kernel)
/-- Life.begin -/
def syt_48 : CO := (nat_lit 91, nat_lit 1, [ee_0, ee_1], [sv_41, sv_1], [], [(nat_lit 1, nat_lit 1, nat_lit 0)], [(none, [ee_0, ee_1], [], [])], [(nat_lit 23, nat_lit 0, nat_lit 3), (nat_lit 24, nat_lit 0, nat_lit 6), (nat_lit 25, nat_lit 0, nat_lit 6), (nat_lit 26, nat_lit 0, nat_lit 6), (nat_lit 27, nat_lit 0, nat_lit 6), (nat_lit 28, nat_lit 0, nat_lit 6), (nat_lit 29, nat_lit 0, nat_lit 6), (nat_lit 30, nat_lit 0, nat_lit 7)], [(nat_lit 22, nat_lit 1, nat_lit 1, ([ee_0, ee_1, ee_14], [(nat_lit 0, sv_41), (nat_lit 2, sv_4)], [], []), [(nat_lit 0, nat_lit 2, nat_lit 0)], [(nat_lit 22, nat_lit 0), (nat_lit 78, nat_lit 1)]),
  (nat_lit 78, nat_lit 2, nat_lit 1, ([ee_0, ee_1, ee_30], [(nat_lit 0, sv_41), (nat_lit 2, sv_4)], [], []), [(nat_lit 0, nat_lit 2, nat_lit 0)], [(nat_lit 78, nat_lit 1)])], [], [(nat_lit 22, nat_lit 0)])
set_option maxRecDepth 100000 in
theorem syc_48 : CoOk GG MM syt_48 := chk_okF (cs := []) (F := 4000) (fun _ h => absurd h List.not_mem_nil) (by decide +kernel) (by decide +kernel)
/-- Past.forget -/
def syt_49 : CO := (nat_lit 129, nat_lit 1, [ee_0], [sv_42], [], [], [(none, [ee_0], [], [])], [(nat_lit 39, nat_lit 2, nat_lit 2)], [], [], [])
set_option maxRecDepth 100000 in
theorem syc_49 : CoOk GG MM syt_49 := chk_okF (cs := []) (F := 4000) (fun _ h => absurd h List.not_mem_nil) (by decide +kernel) (by decide +kernel)
/-- Sentence.clear -/
def syt_50 : CO := (nat_lit 136, nat_lit 1, [ee_0], [sv_14], [], [], [(none, [ee_0], [], [])], [(nat_lit 110, nat_lit 0, nat_lit 1)], [], [], [])
set_option maxRecDepth 100000 in
theorem syc_50 : CoOk GG MM syt_50 := chk_okF (cs := []) (F := 4000) (fun _ h => absurd h List.not_mem_nil) (by decide +kernel) (by decide +kernel)
/-- X.duchy -/
def syt_51 : CO := (nat_lit 14, nat_lit 7, [ee_0], [sv_8], [(nat_lit 0, nat_lit 1, sv_12), (nat_lit 0, nat_lit 2, sv_13), (nat_lit 0, nat_lit 7, sv_14), (nat_lit 0, nat_lit 8, sv_15)], [], [(some sv_1, [ee_0, ee_1], [(nat_lit 0, nat_lit 7, sv_14), (nat_lit 0, nat_lit 8, sv_15), (nat_lit 1, nat_lit 1, sv_6)], [(nat_lit 1, nat_lit 0, nat_lit 0)]), (some sv_16, [ee_0], [(nat_lit 0, nat_lit 1, sv_13), (nat_lit 0, nat_lit 2, sv_12), (nat_lit 0, nat_lit 7, sv_14), (nat_lit 0, nat_lit 8, sv_15), (nat_lit 1, nat_lit 1, sv_6)], [])], [(nat_lit 0, nat_lit 1, nat_lit 2), (nat_lit 0, nat_lit 13, nat_lit 13), (nat_lit 1, nat_lit 1, nat_lit 11), (nat_lit 13, nat_lit 0, nat_lit 6), (nat_lit 14, nat_lit 0, nat_lit 6), (nat_lit 15, nat_lit 0, nat_lit 6), (nat_lit 16, nat_lit 0, nat_lit 6), (nat_lit 17, nat_lit 0, nat_lit 6), (nat_lit 18, nat_lit 0, nat_lit 48), (nat_lit 19, nat_lit 0, nat_lit 7), (nat_lit 20, nat_lit 0, nat_lit 7), (nat_lit 21, nat_lit 0, nat_lit 7), (nat_lit 22, nat_lit 0, nat_lit 7), (nat_lit 23, nat_lit 0, nat_lit 3), (nat_lit 24, nat_lit 0, nat_lit 6), (nat_lit 25, nat_lit 0, nat_lit 6), (nat_lit 26, nat_lit 0, nat_lit 6), (nat_lit 27, nat_lit 0, nat_lit 6), (nat_lit 28, nat_lit 0, nat_lit 6), (nat_lit 29, nat_lit 0, nat_lit 6), (nat_lit 30, nat_lit 0, nat_lit 7), (nat_lit 39, nat_lit 2, nat_lit 2), (nat_lit 110, nat_lit 0, nat_lit 1)], [], [], [])
set_option maxRecDepth 100000 in
theorem syc_51 : CoOk GG MM syt_51 := chk_okF (cs := [syt_47, syt_46, syt_48, syt_49, syt_50]) (F := 4000) (cs_c syc_47 <| cs_c syc_46 <| cs_c syc_48 <| cs_c syc_49 <| cs_c syc_50 cs_n) (by decide +kernel) (by decide +kernel)
/-- M.take -/
def syt_52 : CO := (nat_lit 283, nat_lit 1, [ee_0], [sv_19], [], [], [(some sv_1, [ee_0, ee_13], [(nat_lit 180, nat_lit 2, sv_6)], [(nat_lit 1, nat_lit 0, nat_lit 0)])], [(nat_lit 180, nat_lit 2, nat_lit 2)], [], [], [])
set_option maxRecDepth 100000 in
theorem syc_52 : CoOk GG MM syt_52 := chk_okF (cs := []) (F := 4000) (fun _ h => absurd h List.not_mem_nil) (by decide +kernel) (by decide +kernel)
/-- M.isLetter -/
def syt_53 : CO := (nat_lit 220, nat_lit 1, [ee_0, ee_17], [sv_1], [], [(nat_lit 1, nat_lit 0, nat_lit 0)], [(some sv_24, [ee_0, ee_19], [], []), (some sv_6, [ee_0, ee_17], [], [])], [], [], [], [])
set_option maxRecDepth 100000 in
theorem syc_53 : CoOk GG MM syt_53 := chk_okF (cs := []) (F := 4000) (fun _ h => absurd h List.not_mem_nil) (by decide +kernel) (by decide +kernel)
/-- M.isDigit -/
def syt_54 : CO := (nat_lit 215, nat_lit 1, [ee_0, ee_17], [sv_1], [], [(nat_lit 1, nat_lit 0, nat_lit 0)], [(some sv_24, [ee_0, ee_20], [], []), (some sv_6, [ee_0, ee_17], [], [])], [], [], [], [])
set_option maxRecDepth 100000 in
theorem syc_54 : CoOk GG MM syt_54 := chk_okF (cs := []) (F := 4000) (fun _ h => absurd h List.not_mem_nil) (by decide +kernel) (by decide +kernel)
/-- M.tapeAt -/
def syt_55 : CO := (nat_lit 285, nat_lit 1, [ee_0, ee_36, ee_2], [sv_19, sv_1], [(nat_lit 180, nat_lit 3, sv_4)], [(nat_lit 1, nat_lit 1, nat_lit 0), (nat_lit 2, nat_lit 180, nat_lit 3)], [(some sv_9, [ee_0, ee_36, ee_2, ee_17], [(nat_lit 180, nat_lit 3, sv_4)], [(nat_lit 1, nat_lit 0, nat_lit 0)]), (some sv_6, [ee_0, ee_37, ee_37], [(nat_lit 180, nat_lit 3, sv_4)], [])], [], [], [], [])
set_option maxRecDepth 100000 in
theorem syc_55 : CoOk GG MM syt_55 := chk_okF (cs := []) (F := 4000) (fun _ h => absurd h List.not_mem_nil) (by decide +kernel) (by decide +kernel)
/-- M.tapeAt -/
def syt_56 : CO := (nat_lit 285, nat_lit 1, [ee_0, ee_37, ee_37], [sv_19, sv_1], [(nat_lit 180, nat_lit 3, sv_4)], [(nat_lit 1, nat_lit 1, nat_lit 0), (nat_lit 2, nat_lit 180, nat_lit 3)], [(some sv_9, [ee_0, ee_38, ee_39, ee_17], [(nat_lit 180, nat_lit 3, sv_4)], [(nat_lit 1, nat_lit 0, nat_lit 0)]), (some sv_6, [ee_0, ee_37, ee_37], [(nat_lit 180, nat_lit 3, sv_4)], [])], [], [], [], [])
set_option maxRecDepth 100000 in
theorem syc_56 : CoOk GG MM syt_56 := chk_okF (cs := []) (F := 4000) (fun _ h => absurd h List.not_mem_nil) (by decide +kernel) (by decide +kernel)
/-- M.tapeAt -/
def syt_57 : CO := (nat_lit 285, nat_lit 1, [ee_0, ee_40, ee_2], [sv_19, sv_1], [(nat_lit 180, nat_lit 3, sv_4)], [(nat_lit 1, nat_lit 1, nat_lit 0), (nat_lit 2, nat_lit 180, nat_lit 3)], [(some sv_9, [ee_0, ee_40, ee_3, ee_17], [(nat_lit 180, nat_lit 3, sv_4)], [(nat_lit 1, nat_lit 0, nat_lit 0)]), (some sv_6, [ee_0, ee_40, ee_40], [(nat_lit 180, nat_lit 3, sv_4)], [])], [], [], [], [])
set_option maxRecDepth 100000 in
theorem syc_57 : CoOk GG MM syt_57 := chk_okF (cs := []) (F := 4000) (fun _ h => absurd h List.not_mem_nil) (by decide +kernel) (by decide +kernel)
/-- M.tapeAt -/
def syt_58 : CO := (nat_lit 285, nat_lit 1, [ee_0, ee_40, ee_40], [sv_19, sv_1], [(nat_lit 180, nat_lit 3, sv_4)], [(nat_lit 1, nat_lit 1, nat_lit 0), (nat_lit 2, nat_lit 180, nat_lit 3)], [(some sv_9, [ee_0, ee_37, ee_41, ee_17], [(nat_lit 180, nat_lit 3, sv_4)], [(nat_lit 1, nat_lit 0, nat_lit 0)]), (some sv_6, [ee_0, ee_40, ee_40], [(nat_lit 180, nat_lit 3, sv_4)], [])], [], [], [], [])
set_option maxRecDepth 100000 in
theorem syc_58 : CoOk GG MM syt_58 := chk_okF (cs := []) (F := 4000) (fun _ h => absurd h List.not_mem_nil) (by decide +kernel) (by decide +kernel)
/-- M.tapeAt -/
def syt_59 : CO := (nat_lit 285, nat_lit 1, [ee_0, ee_40, ee_3], [sv_19, sv_1], [(nat_lit 180, nat_lit 3, sv_4)], [(nat_lit 1, nat_lit 1, nat_lit 0), (nat_lit 2, nat_lit 180, nat_lit 3)], [(some sv_9, [ee_0, ee_40, ee_3, ee_17], [(nat_lit 180, nat_lit 3, sv_4)], [(nat_lit 1, nat_lit 0, nat_lit 0)]), (some sv_6, [ee_0, ee_41, ee_41], [(nat_lit 180, nat_lit 3, sv_4)], [])], [], [], [], [])
set_option maxRecDepth 100000 in
theorem syc_59 : CoOk GG MM syt_59 := chk_okF (cs := []) (F := 4000) (fun _ h => absurd h List.not_mem_nil) (by decide +kernel) (by decide +kernel)
/-- M.tapeAt -/
def syt_60 : CO := (nat_lit 285, nat_lit 1, [ee_0, ee_42, ee_3], [sv_19, sv_1], [(nat_lit 180, nat_lit 3, sv_4)], [(nat_lit 1, nat_lit 1, nat_lit 0), (nat_lit 2, nat_lit 180, nat_lit 3)], [(some sv_9, [ee_0, ee_42, ee_4, ee_17], [(nat_lit 180, nat_lit 3, sv_4)], [(nat_lit 1, nat_lit 0, nat_lit 0)]), (some sv_6, [ee_0, ee_42, ee_42], [(nat_lit 180, nat_lit 3, sv_4)], [])], [], [], [], [])
set_option maxRecDepth 100000 in
theorem syc_60 : CoOk GG MM syt_60 := chk_okF (cs := []) (F := 4000) (fun _ h => absurd h List.not_mem_nil) (by decide +kernel) (by decide +kernel)
/-- M.tapeAt -/
def syt_61 : CO := (nat_lit 285, nat_lit 1, [ee_0, ee_42, ee_42], [sv_19, sv_1], [(nat_lit 180, nat_lit 3, sv_4)], [(nat_lit 1, nat_lit 1, nat_lit 0), (nat_lit 2, nat_lit 180, nat_lit 3)], [(some sv_9, [ee_0, ee_43, ee_44, ee_17], [(nat_lit 180, nat_lit 3, sv_4)], [(nat_lit 1, nat_lit 0, nat_lit 0)]), (some sv_6, [ee_0, ee_42, ee_42], [(nat_lit 180, nat_lit 3, sv_4)], [])], [], [], [], [])
set_option maxRecDepth 100000 in
theorem syc_61 : CoOk GG MM syt_61 := chk_okF (cs := []) (F := 4000) (fun _ h => absurd h List.not_mem_nil) (by decide +kernel) (by decide +kernel)
/-- M.tapeAt -/
def syt_62 : CO := (nat_lit 285, nat_lit 1, [ee_0, ee_42, ee_4], [sv_19, sv_1], [(nat_lit 180, nat_lit 3, sv_4)], [(nat_lit 1, nat_lit 1, nat_lit 0), (nat_lit 2, nat_lit 180, nat_lit 3)], [(some sv_9, [ee_0, ee_42, ee_4, ee_17], [(nat_lit 180, nat_lit 3, sv_4)], [(nat_lit 1, nat_lit 0, nat_lit 0)]), (some sv_6, [ee_0, ee_44, ee_44], [(nat_lit 180, nat_lit 3, sv_4)], [])], [], [], [], [])
set_option maxRecDepth 100000 in
theorem syc_62 : CoOk GG MM syt_62 := chk_okF (cs := []) (F := 4000) (fun _ h => absurd h List.not_mem_nil) (by decide +kernel) (by decide +kernel)
/-- M.tapeAt -/
def syt_63 : CO := (nat_lit 285, nat_lit 1, [ee_0, ee_4, ee_4], [sv_19, sv_1], [(nat_lit 180, nat_lit 3, sv_4)], [(nat_lit 1, nat_lit 1, nat_lit 0), (nat_lit 2, nat_lit 180, nat_lit 3)], [(some sv_9, [ee_0, ee_44, ee_5, ee_17], [(nat_lit 180, nat_lit 3, sv_4)], [(nat_lit 1, nat_lit 0, nat_lit 0)]), (some sv_6, [ee_0, ee_4, ee_4], [(nat_lit 180, nat_lit 3, sv_4)], [])], [], [], [], [])
set_option maxRecDepth 100000 in
theorem syc_63 : CoOk GG MM syt_63 := chk_okF (cs := []) (F := 4000) (fun _ h => absurd h List.not_mem_nil) (by decide +kernel) (by decide +kernel)
/-- M.tapeAt -/
def syt_64 : CO := (nat_lit 285, nat_lit 1, [ee_0, ee_44, ee_5], [sv_19, sv_1], [(nat_lit 180, nat_lit 3, sv_4)], [(nat_lit 1, nat_lit 1, nat_lit 0), (nat_lit 2, nat_lit 180, nat_lit 3)], [(some sv_9, [ee_0, ee_44, ee_5, ee_17], [(nat_lit 180, nat_lit 3, sv_4)], [(nat_lit 1, nat_lit 0, nat_lit 0)]), (some sv_6, [ee_0, ee_45, ee_45], [(nat_lit 180, nat_lit 3, sv_4)], [])], [], [], [], [])
set_option maxRecDepth 100000 in
theorem syc_64 : CoOk GG MM syt_64 := chk_okF (cs := []) (F := 4000) (fun _ h => absurd h List.not_mem_nil) (by decide +kernel) (by decide +kernel)
/-- M.tapeAt -/
def syt_65 : CO := (nat_lit 285, nat_lit 1, [ee_0, ee_5, ee_5], [sv_19, sv_1], [(nat_lit 180, nat_lit 3, sv_4)], [(nat_lit 1, nat_lit 1, nat_lit 0), (nat_lit 2, nat_lit 180, nat_lit 3)], [(some sv_9, [ee_0, ee_45, ee_46, ee_17], [(nat_lit 180, nat_lit 3, sv_4)], [(nat_lit 1, nat_lit 0, nat_lit 0)]), (some sv_6, [ee_0, ee_5, ee_5], [(nat_lit 180, nat_lit 3, sv_4)], [])], [], [], [], [])
set_option maxRecDepth 100000 in
theorem syc_65 : CoOk GG MM syt_65 := chk_okF (cs := []) (F := 4000) (fun _ h => absurd h List.not_mem_nil) (by decide +kernel) (by decide +kernel)
/-- M.tapeAt -/
def syt_66 : CO := (nat_lit 285, nat_lit 1, [ee_0, ee_45, ee_46], [sv_19, sv_1], [(nat_lit 180, nat_lit 3, sv_4)], [(nat_lit 1, nat_lit 1, nat_lit 0), (nat_lit 2, nat_lit 180, nat_lit 3)], [(some sv_9, [ee_0, ee_45, ee_46, ee_17], [(nat_lit 180, nat_lit 3, sv_4)], [(nat_lit 1, nat_lit 0, nat_lit 0)]), (some sv_6, [ee_0, ee_47, ee_47], [(nat_lit 180, nat_lit 3, sv_4)], [])], [], [], [], [])
set_option maxRecDepth 100000 in
theorem syc_66 : CoOk GG MM syt_66 := chk_okF (cs := []) (F := 4000) (fun _ h => absurd h List.not_mem_nil) (by decide +kernel) (by decide +kernel)
/-- M.tapeAt -/
def syt_67 : CO := (nat_lit 285, nat_lit 1, [ee_0, ee_46, ee_46], [sv_19, sv_1], [(nat_lit 180, nat_lit 3, sv_4)], [(nat_lit 1, nat_lit 1, nat_lit 0), (nat_lit 2, nat_lit 180, nat_lit 3)], [(some sv_9, [ee_0, ee_47, ee_48, ee_17], [(nat_lit 180, nat_lit 3, sv_4)], [(nat_lit 1, nat_lit 0, nat_lit 0)]), (some sv_6, [ee_0, ee_46, ee_46], [(nat_lit 180, nat_lit 3, sv_4)], [])], [], [], [], [])
set_option maxRecDepth 100000 in
theorem syc_67 : CoOk GG MM syt_67 := chk_okF (cs := []) (F := 4000) (fun _ h => absurd h List.not_mem_nil) (by decide +kernel) (by decide +kernel)
/-- M.tapeAt -/
def syt_68 : CO := (nat_lit 285, nat_lit 1, [ee_0, ee_47, ee_48], [sv_19, sv_1], [(nat_lit 180, nat_lit 3, sv_4)], [(nat_lit 1, nat_lit 1, nat_lit 0), (nat_lit 2, nat_lit 180, nat_lit 3)], [(some sv_9, [ee_0, ee_47, ee_48, ee_17], [(nat_lit 180, nat_lit 3, sv_4)], [(nat_lit 1, nat_lit 0, nat_lit 0)]), (some sv_6, [ee_0, ee_49, ee_49], [(nat_lit 180, nat_lit 3, sv_4)], [])], [], [], [], [])
set_option maxRecDepth 100000 in
theorem syc_68 : CoOk GG MM syt_68 := chk_okF (cs := []) (F := 4000) (fun _ h => absurd h List.not_mem_nil) (by decide +kernel) (by decide +kernel)
/-- M.tapeAt -/
def syt_69 : CO := (nat_lit 285, nat_lit 1, [ee_0, ee_48, ee_48], [sv_19, sv_1], [(nat_lit 180, nat_lit 3, sv_4)], [(nat_lit 1, nat_lit 1, nat_lit 0), (nat_lit 2, nat_lit 180, nat_lit 3)], [(some sv_9, [ee_0, ee_49, ee_50, ee_17], [(nat_lit 180, nat_lit 3, sv_4)], [(nat_lit 1, nat_lit 0, nat_lit 0)]), (some sv_6, [ee_0, ee_48, ee_48], [(nat_lit 180, nat_lit 3, sv_4)], [])], [], [], [], [])
set_option maxRecDepth 100000 in
theorem syc_69 : CoOk GG MM syt_69 := chk_okF (cs := []) (F := 4000) (fun _ h => absurd h List.not_mem_nil) (by decide +kernel) (by decide +kernel)
/-- M.tapeAt -/
def syt_70 : CO := (nat_lit 285, nat_lit 1, [ee_0, ee_49, ee_50], [sv_19, sv_1], [(nat_lit 180, nat_lit 3, sv_4)], [(nat_lit 1, nat_lit 1, nat_lit 0), (nat_lit 2, nat_lit 180, nat_lit 3)], [(some sv_9, [ee_0, ee_49, ee_50, ee_17], [(nat_lit 180, nat_lit 3, sv_4)], [(nat_lit 1, nat_lit 0, nat_lit 0)]), (some sv_6, [ee_0, ee_51, ee_51], [(nat_lit 180, nat_lit 3, sv_4)], [])], [], [], [], [])
set_option maxRecDepth 100000 in
theorem syc_70 : CoOk GG MM syt_70 := chk_okF (cs := []) (F := 4000) (fun _ h => absurd h List.not_mem_nil) (by decide +kernel) (by decide +kernel)
/-- M.tapeAt -/
def syt_71 : CO := (nat_lit 285, nat_lit 1, [ee_0, ee_50, ee_50], [sv_19, sv_1], [(nat_lit 180, nat_lit 3, sv_4)], [(nat_lit 1, nat_lit 1, nat_lit 0), (nat_lit 2, nat_lit 180, nat_lit 3)], [(some sv_9, [ee_0, ee_51, ee_52, ee_17], [(nat_lit 180, nat_lit 3, sv_4)], [(nat_lit 1, nat_lit 0, nat_lit 0)]), (some sv_6, [ee_0, ee_50, ee_50], [(nat_lit 180, nat_lit 3, sv_4)], [])], [], [], [], [])
set_option maxRecDepth 100000 in
theorem syc_71 : CoOk GG MM syt_71 := chk_okF (cs := []) (F := 4000) (fun _ h => absurd h List.not_mem_nil) (by decide +kernel) (by decide +kernel)
/-- M.tapeAt -/
def syt_72 : CO := (nat_lit 285, nat_lit 1, [ee_0, ee_51, ee_52], [sv_19, sv_1], [(nat_lit 180, nat_lit 3, sv_4)], [(nat_lit 1, nat_lit 1, nat_lit 0), (nat_lit 2, nat_lit 180, nat_lit 3)], [(some sv_9, [ee_0, ee_51, ee_52, ee_17], [(nat_lit 180, nat_lit 3, sv_4)], [(nat_lit 1, nat_lit 0, nat_lit 0)]), (some sv_6, [ee_0, ee_53, ee_53], [(nat_lit 180, nat_lit 3, sv_4)], [])], [], [], [], [])
set_option maxRecDepth 100000 in
theorem syc_72 : CoOk GG MM syt_72 := chk_okF (cs := []) (F := 4000) (fun _ h => absurd h List.not_mem_nil) (by decide +kernel) (by decide +kernel)
/-- M.go -/
def syl_73_0 : List LB := [(nat_lit 0, nat_lit 1, nat_lit 1, ([ee_0, ee_16, ee_54, ee_2], [(nat_lit 0, sv_19)], [], [(nat_lit 180, nat_lit 3, sv_9), (nat_lit 180, nat_lit 5, sv_4)]), [(nat_lit 2, nat_lit 180, nat_lit 5), (nat_lit 2, nat_lit 180, nat_lit 3)], [(nat_lit 0, nat_lit 0), (nat_lit 215, nat_lit 1)])]
def syl_73_1 : List LB := [(nat_lit 215, nat_lit 2, nat_lit 0, ([ee_0, ee_13, ee_55, ee_2, ee_56], [(nat_lit 0, sv_19), (nat_lit 2, sv_4), (nat_lit 3, sv_24)], [], [(nat_lit 180, nat_lit 3, sv_9), (nat_lit 180, nat_lit 5, sv_10), (nat_lit 180, nat_lit 6, sv_10), (nat_lit 180, nat_lit 12, sv_43)]), [(nat_lit 0, nat_lit 2, nat_lit 0), (nat_lit 2, nat_lit 180, nat_lit 3), (nat_lit 2, nat_lit 180, nat_lit 5)], [(nat_lit 215, nat_lit 2)])]
def syl_73_2 : List LB := [(nat_lit 215, nat_lit 3, nat_lit 0, ([ee_0, ee_13, ee_55, ee_55, ee_2, ee_57, ee_58], [(nat_lit 0, sv_19), (nat_lit 2, sv_4), (nat_lit 3, sv_9)], [], [(nat_lit 180, nat_lit 3, sv_10), (nat_lit 180, nat_lit 5, sv_11), (nat_lit 180, nat_lit 6, sv_44), (nat_lit 180, nat_lit 12, sv_45)]), [(nat_lit 0, nat_lit 2, nat_lit 0), (nat_lit 0, nat_lit 3, nat_lit 0), (nat_lit 2, nat_lit 180, nat_lit 3), (nat_lit 2, nat_lit 180, nat_lit 5), (nat_lit 2, nat_lit 180, nat_lit 12)], [(nat_lit 215, nat_lit 3)])]
def syl_73_3 : List LB := [(nat_lit 215, nat_lit 4, nat_lit 0, ([ee_0, ee_13, ee_55, ee_55, ee_3, ee_59, ee_60], [(nat_lit 0, sv_19), (nat_lit 2, sv_4), (nat_lit 3, sv_9)], [], [(nat_lit 180, nat_lit 3, sv_10), (nat_lit 180, nat_lit 5, sv_11), (nat_lit 180, nat_lit 6, sv_46), (nat_lit 180, nat_lit 12, sv_45)]), [(nat_lit 0, nat_lit 2, nat_lit 0), (nat_lit 0, nat_lit 3, nat_lit 0), (nat_lit 2, nat_lit 180, nat_lit 3), (nat_lit 2, nat_lit 180, nat_lit 5), (nat_lit 2, nat_lit 180, nat_lit 12)], [(nat_lit 215, nat_lit 4)])]
def syl_73_4 : List LB := [(nat_lit 215, nat_lit 5, nat_lit 0, ([ee_0, ee_13, ee_55, ee_55, ee_4, ee_61, ee_62], [(nat_lit 0, sv_19), (nat_lit 2, sv_4), (nat_lit 3, sv_9)], [], [(nat_lit 180, nat_lit 3, sv_10), (nat_lit 180, nat_lit 5, sv_11), (nat_lit 180, nat_lit 6, sv_47), (nat_lit 180, nat_lit 12, sv_45)]), [(nat_lit 0, nat_lit 2, nat_lit 0), (nat_lit 0, nat_lit 3, nat_lit 0), (nat_lit 2, nat_lit 180, nat_lit 3), (nat_lit 2, nat_lit 180, nat_lit 5), (nat_lit 2, nat_lit 180, nat_lit 12)], [(nat_lit 215, nat_lit 5)])]
def syl_73_5 : List LB := [(nat_lit 215, nat_lit 6, nat_lit 0, ([ee_0, ee_13, ee_55, ee_55, ee_5, ee_63, ee_64], [(nat_lit 0, sv_19), (nat_lit 2, sv_4), (nat_lit 3, sv_9)], [], [(nat_lit 180, nat_lit 3, sv_10), (nat_lit 180, nat_lit 5, sv_11), (nat_lit 180, nat_lit 6, sv_48), (nat_lit 180, nat_lit 12, sv_45)]), [(nat_lit 0, nat_lit 2, nat_lit 0), (nat_lit 0, nat_lit 3, nat_lit 0), (nat_lit 2, nat_lit 180, nat_lit 3), (nat_lit 2, nat_lit 180, nat_lit 5), (nat_lit 2, nat_lit 180, nat_lit 12)], [(nat_lit 215, nat_lit 6)])]
def syl_73_6 : List LB := [(nat_lit 215, nat_lit 7, nat_lit 0, ([ee_0, ee_13, ee_55, ee_55, ee_46, ee_65, ee_66], [(nat_lit 0, sv_19), (nat_lit 2, sv_4), (nat_lit 3, sv_9)], [], [(nat_lit 180, nat_lit 3, sv_10), (nat_lit 180, nat_lit 5, sv_11), (nat_lit 180, nat_lit 6, sv_49), (nat_lit 180, nat_lit 12, sv_45)]), [(nat_lit 0, nat_lit 2, nat_lit 0), (nat_lit 0, nat_lit 3, nat_lit 0), (nat_lit 2, nat_lit 180, nat_lit 3), (nat_lit 2, nat_lit 180, nat_lit 5), (nat_lit 2, nat_lit 180, nat_lit 12)], [(nat_lit 215, nat_lit 7)])]
def syl_73_7 : List LB := [(nat_lit 215, nat_lit 8, nat_lit 0, ([ee_0, ee_13, ee_55, ee_55, ee_48, ee_67, ee_68], [(nat_lit 0, sv_19), (nat_lit 2, sv_4), (nat_lit 3, sv_9)], [], [(nat_lit 180, nat_lit 3, sv_10), (nat_lit 180, nat_lit 5, sv_11), (nat_lit 180, nat_lit 6, sv_50), (nat_lit 180, nat_lit 12, sv_45)]), [(nat_lit 0, nat_lit 2, nat_lit 0), (nat_lit 0, nat_lit 3, nat_lit 0), (nat_lit 2, nat_lit 180, nat_lit 3), (nat_lit 2, nat_lit 180, nat_lit 5), (nat_lit 2, nat_lit 180, nat_lit 12)], [(nat_lit 215, nat_lit 8)])]
def syl_73_8 : List LB := [(nat_lit 215, nat_lit 9, nat_lit 1, ([ee_0, ee_13, ee_69, ee_55, ee_55, ee_50, ee_70, ee_71], [(nat_lit 0, sv_19), (nat_lit 2, sv_9), (nat_lit 3, sv_10)], [], [(nat_lit 180, nat_lit 3, sv_11), (nat_lit 180, nat_lit 5, sv_4), (nat_lit 180, nat_lit 6, sv_17), (nat_lit 180, nat_lit 12, sv_51)]), [(nat_lit 2, nat_lit 180, nat_lit 5), (nat_lit 0, nat_lit 2, nat_lit 0), (nat_lit 0, nat_lit 3, nat_lit 0), (nat_lit 2, nat_lit 180, nat_lit 3), (nat_lit 2, nat_lit 180, nat_lit 6), (nat_lit 2, nat_lit 180, nat_lit 12)], [(nat_lit 215, nat_lit 8)])]
def syt_73 : CO := (nat_lit 205, nat_lit 2, [ee_0, ee_13], [sv_19], [(nat_lit 180, nat_lit 5, sv_1)], [(nat_lit 2, nat_lit 180, nat_lit 5)], [(none, [ee_0, ee_13, ee_13, ee_72, ee_13, ee_55], [(nat_lit 180, nat_lit 3, sv_4), (nat_lit 180, nat_lit 5, sv_9), (nat_lit 180, nat_lit 6, sv_10), (nat_lit 180, nat_lit 7, sv_11)], [(nat_lit 2, nat_lit 180, nat_lit 3), (nat_lit 2, nat_lit 180, nat_lit 5), (nat_lit 2, nat_lit 180, nat_lit 6), (nat_lit 2, nat_lit 180, nat_lit 7)]), (none, [ee_0, ee_16, ee_2, ee_57], [(nat_lit 180, nat_lit 3, sv_4), (nat_lit 180, nat_lit 5, sv_9), (nat_lit 180, nat_lit 6, sv_52), (nat_lit 180, nat_lit 7, sv_38)], [(nat_lit 2, nat_lit 180, nat_lit 3), (nat_lit 2, nat_lit 180, nat_lit 5)]), (none, [ee_0, ee_13, ee_2, ee_72, ee_16, ee_73, ee_74], [(nat_lit 180, nat_lit 3, sv_4), (nat_lit 180, nat_lit 5, sv_9), (nat_lit 180, nat_lit 6, sv_10), (nat_lit 180, nat_lit 7, sv_11), (nat_lit 180, nat_lit 12, sv_45)], [(nat_lit 2, nat_lit 180, nat_lit 3), (nat_lit 2, nat_lit 180, nat_lit 5), (nat_lit 2, nat_lit 180, nat_lit 6), (nat_lit 2, nat_lit 180, nat_lit 7), (nat_lit 2, nat_lit 180, nat_lit 12)])], [(nat_lit 180, nat_lit 5, nat_lit 9), (nat_lit 180, nat_lit 12, nat_lit 12)], (syl_73_0 ++ (syl_73_1 ++ (syl_73_2 ++ (syl_73_3 ++ (syl_73_4 ++ (syl_73_5 ++ (syl_73_6 ++ (syl_73_7 ++ (syl_73_8))))))))), [], [(nat_lit 0, nat_lit 0), (nat_lit 215, nat_lit 1)])
set_option maxRecDepth 100000 in
theorem syp_73_0 : runL_f GG [syt_54, syt_53, syt_56, syt_58, syt_59, syt_55, syt_57, syt_72, syt_70, syt_71, syt_68, syt_69, syt_66, syt_67, syt_64, syt_65, syt_61, syt_62, syt_63, syt_60] syt_73 4000 0 syl_73_0 = true := by decide +kernel
set_option maxRecDepth 100000 in
theorem syp_73_1 : runL_f GG [syt_54, syt_53, syt_56, syt_58, syt_59, syt_55, syt_57, syt_72, syt_70, syt_71, syt_68, syt_69, syt_66, syt_67, syt_64, syt_65, syt_61, syt_62, syt_63, syt_60] syt_73 4000 1 syl_73_1 = true := by decide +kernel
set_option maxRecDepth 100000 in
theorem syp_73_2 : runL_f GG [syt_54, syt_53, syt_56, syt_58, syt_59, syt_55, syt_57, syt_72, syt_70, syt_71, syt_68, syt_69, syt_66, syt_67, syt_64, syt_65, syt_61, syt_62, syt_63, syt_60] syt_73 4000 2 syl_73_2 = true := by decide +kernel
set_option maxRecDepth 100000 in
theorem syp_73_3 : runL_f GG [syt_54, syt_53, syt_56, syt_58, syt_59, syt_55, syt_57, syt_72, syt_70, syt_71, syt_68, syt_69, syt_66, syt_67, syt_64, syt_65, syt_61, syt_62, syt_63, syt_60] syt_73 4000 3 syl_73_3 = true := by decide +kernel
set_option maxRecDepth 100000 in
theorem syp_73_4 : runL_f GG [syt_54, syt_53, syt_56, syt_58, syt_59, syt_55, syt_57, syt_72, syt_70, syt_71, syt_68, syt_69, syt_66, syt_67, syt_64, syt_65, syt_61, syt_62, syt_63, syt_60] syt_73 4000 4 syl_73_4 = true := by decide +kernel
set_option maxRecDepth 100000 in
theorem syp_73_5 : runL_f GG [syt_54, syt_53, syt_56, syt_58, syt_59, syt_55, syt_57, syt_72, syt_70, syt_71, syt_68, syt_69, syt_66, syt_67, syt_64, syt_65, syt_61, syt_62, syt_63, syt_60] syt_73 4000 5 syl_73_5 = true := by decide +kernel
set_option maxRecDepth 100000 in
theorem syp_73_6 : runL_f GG [syt_54, syt_53, syt_56, syt_58, syt_59, syt_55, syt_57, syt_72, syt_70, syt_71, syt_68, syt_69, syt_66, syt_67, syt_64, syt_65, syt_61, syt_62, syt_63, syt_60] syt_73 4000 6 syl_73_6 = true := by decide +kernel
set_option maxRecDepth 100000 in
theorem syp_73_7 : runL_f GG [syt_54, syt_53, syt_56, syt_58, syt_59, syt_55, syt_57, syt_72, syt_70, syt_71, syt_68, syt_69, syt_66, syt_67, syt_64, syt_65, syt_61, syt_62, syt_63, syt_60] syt_73 4000 7 syl_73_7 = true := by decide +kernel
set_option maxRecDepth 100000 in
theorem syp_73_8 : runL_f GG [syt_54, syt_53, syt_56, syt_58, syt_59, syt_55, syt_57, syt_72, syt_70, syt_71, syt_68, syt_69, syt_66, syt_67, syt_64, syt_65, syt_61, syt_62, syt_63, syt_60] syt_73 4000 8 syl_73_8 = true := by decide +kernel
set_option maxRecDepth 100000 in
theorem syc_73 : CoOk GG MM syt_73 := chk_okP (cs := [syt_54, syt_53, syt_56, syt_58, syt_59, syt_55, syt_57, syt_72, syt_70, syt_71, syt_68, syt_69, syt_66, syt_67, syt_64, syt_65, syt_61, syt_62, syt_63, syt_60]) (F := 4000) (cs_c syc_54 <| cs_c syc_53 <| cs_c syc_56 <| cs_c syc_58 <| cs_c syc_59 <| cs_c syc_55 <| cs_c syc_57 <| cs_c syc_72 <| cs_c syc_70 <| cs_c syc_71 <| cs_c syc_68 <| cs_c syc_69 <| cs_c syc_66 <| cs_c syc_67 <| cs_c syc_64 <| cs_c syc_65 <| cs_c syc_61 <| cs_c syc_62 <| cs_c syc_63 <| cs_c syc_60 cs_n) (by decide +kernel) (runL_app (runL_q syp_73_0) (runL_app (runL_q syp_73_1) (runL_app (runL_q syp_73_2) (runL_app (runL_q syp_73_3) (runL_app (runL_q syp_73_4) (runL_app (runL_q syp_73_5) (runL_app (runL_q syp_73_6) (runL_app (runL_q syp_73_7) ((runL_q syp_73_8))))))))))
