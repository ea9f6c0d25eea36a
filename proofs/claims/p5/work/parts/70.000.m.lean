section
/-! ===== contracts, inferred and printed by my program, checked here ===== -/
/-- Tape.put -/
def syt_0 : CO := (nat_lit 162, nat_lit 1, [ee_0, ee_1], [sv_0, sv_1], [], [(nat_lit 1, nat_lit 1, nat_lit 0)], [(none, [ee_0, ee_1, ee_5], [(nat_lit 1, nat_lit 1, sv_4)], [(nat_lit 2, nat_lit 1, nat_lit 1)])], [(nat_lit 1, nat_lit 1, nat_lit 1), (nat_lit 2, nat_lit 0, nat_lit 939)], [(nat_lit 3, nat_lit 1, nat_lit 0, ([ee_0, ee_1], [(nat_lit 0, sv_0), (nat_lit 1, sv_1), (nat_lit 2, sv_2)], [], []), [], [(nat_lit 3, nat_lit 1)]),
  (nat_lit 3, nat_lit 2, nat_lit 0, ([ee_0, ee_1, ee_2], [(nat_lit 0, sv_0), (nat_lit 1, sv_1), (nat_lit 2, sv_3)], [], [(nat_lit 1, nat_lit 1, sv_4)]), [(nat_lit 2, nat_lit 1, nat_lit 1)], [(nat_lit 3, nat_lit 2)]),
  (nat_lit 3, nat_lit 3, nat_lit 0, ([ee_0, ee_1, ee_3], [(nat_lit 0, sv_0), (nat_lit 1, sv_1), (nat_lit 2, sv_5)], [], [(nat_lit 1, nat_lit 1, sv_4)]), [(nat_lit 2, nat_lit 1, nat_lit 1)], [(nat_lit 3, nat_lit 3)]),
  (nat_lit 3, nat_lit 4, nat_lit 0, ([ee_0, ee_1, ee_4], [(nat_lit 0, sv_0), (nat_lit 1, sv_1), (nat_lit 2, sv_6)], [], [(nat_lit 1, nat_lit 1, sv_4)]), [(nat_lit 2, nat_lit 1, nat_lit 1)], [(nat_lit 3, nat_lit 4)]),
  (nat_lit 3, nat_lit 5, nat_lit 0, ([ee_0, ee_1, ee_5], [(nat_lit 0, sv_0), (nat_lit 1, sv_1), (nat_lit 2, sv_7)], [], [(nat_lit 1, nat_lit 1, sv_4)]), [(nat_lit 2, nat_lit 1, nat_lit 1)], [])], [], [(nat_lit 3, nat_lit 0)])
set_option maxRecDepth 100000 in
theorem syc_0 : CoOk GG MM syt_0 := chk_okF (cs := []) (F := 4000) (fun _ h => absurd h List.not_mem_nil) (by decide +kernel) (by decide +kernel)
/-- X.feed -/
def syt_1 : CO := (nat_lit 18, nat_lit 2, [ee_0, ee_1, ee_1, ee_1, ee_1, ee_1], [sv_8, sv_1, sv_4, sv_9, sv_10, sv_11], [(nat_lit 0, nat_lit 1, sv_12), (nat_lit 0, nat_lit 2, sv_13), (nat_lit 0, nat_lit 7, sv_14), (nat_lit 0, nat_lit 8, sv_15)], [(nat_lit 1, nat_lit 1, nat_lit 0), (nat_lit 1, nat_lit 2, nat_lit 0), (nat_lit 1, nat_lit 3, nat_lit 0), (nat_lit 1, nat_lit 4, nat_lit 0), (nat_lit 1, nat_lit 5, nat_lit 0)], [(some sv_16, [ee_0, ee_1, ee_1, ee_1, ee_1, ee_1, ee_6], [(nat_lit 0, nat_lit 1, sv_12), (nat_lit 0, nat_lit 2, sv_13), (nat_lit 0, nat_lit 7, sv_14), (nat_lit 0, nat_lit 8, sv_15), (nat_lit 1, nat_lit 1, sv_17)], [(nat_lit 2, nat_lit 1, nat_lit 1)]), (some sv_18, [ee_0, ee_1, ee_1, ee_1, ee_1, ee_1, ee_5, ee_5], [(nat_lit 0, nat_lit 1, sv_12), (nat_lit 0, nat_lit 2, sv_13), (nat_lit 0, nat_lit 7, sv_14), (nat_lit 0, nat_lit 8, sv_15), (nat_lit 1, nat_lit 1, sv_17)], [(nat_lit 2, nat_lit 1, nat_lit 1), (nat_lit 1, nat_lit 0, nat_lit 0)])], [(nat_lit 1, nat_lit 1, nat_lit 1), (nat_lit 2, nat_lit 0, nat_lit 939)], [], [], [])
set_option maxRecDepth 100000 in
theorem syc_1 : CoOk GG MM syt_1 := chk_okF (cs := [syt_0]) (F := 4000) (cs_c syc_0 cs_n) (by decide +kernel) (by decide +kernel)
/-- M.come -/
def syt_2 : CO := (nat_lit 185, nat_lit 1, [ee_0, ee_1, ee_7], [sv_19, sv_1], [(nat_lit 180, nat_lit 2, sv_4)], [(nat_lit 1, nat_lit 1, nat_lit 0), (nat_lit 2, nat_lit 180, nat_lit 2)], [(none, [ee_0, ee_1, ee_7], [(nat_lit 180, nat_lit 2, sv_23)], [])], [(nat_lit 180, nat_lit 2, nat_lit 2), (nat_lit 181, nat_lit 0, nat_lit 923)], [(nat_lit 3, nat_lit 1, nat_lit 0, ([ee_0, ee_1, ee_7], [(nat_lit 0, sv_19), (nat_lit 1, sv_1), (nat_lit 2, sv_2)], [], [(nat_lit 180, nat_lit 2, sv_4)]), [], [(nat_lit 3, nat_lit 1)]),
  (nat_lit 3, nat_lit 2, nat_lit 0, ([ee_0, ee_1, ee_7], [(nat_lit 0, sv_19), (nat_lit 1, sv_1), (nat_lit 2, sv_3)], [], [(nat_lit 180, nat_lit 2, sv_20)]), [], [(nat_lit 3, nat_lit 2)]),
  (nat_lit 3, nat_lit 3, nat_lit 0, ([ee_0, ee_1, ee_7], [(nat_lit 0, sv_19), (nat_lit 1, sv_1), (nat_lit 2, sv_5)], [], [(nat_lit 180, nat_lit 2, sv_21)]), [], [(nat_lit 3, nat_lit 3)]),
  (nat_lit 3, nat_lit 4, nat_lit 0, ([ee_0, ee_1, ee_7], [(nat_lit 0, sv_19), (nat_lit 1, sv_1), (nat_lit 2, sv_6)], [], [(nat_lit 180, nat_lit 2, sv_22)]), [], [(nat_lit 3, nat_lit 4)]),
  (nat_lit 3, nat_lit 5, nat_lit 0, ([ee_0, ee_1, ee_7], [(nat_lit 0, sv_19), (nat_lit 1, sv_1), (nat_lit 2, sv_7)], [], [(nat_lit 180, nat_lit 2, sv_23)]), [], [])], [], [(nat_lit 3, nat_lit 0)])
set_option maxRecDepth 100000 in
theorem syc_2 : CoOk GG MM syt_2 := chk_okF (cs := []) (F := 4000) (fun _ h => absurd h List.not_mem_nil) (by decide +kernel) (by decide +kernel)
/-- M.come -/
def syt_3 : CO := (nat_lit 185, nat_lit 1, [ee_0, ee_1, ee_8], [sv_19, sv_1], [(nat_lit 180, nat_lit 2, sv_4)], [(nat_lit 1, nat_lit 1, nat_lit 0), (nat_lit 2, nat_lit 180, nat_lit 2)], [(none, [ee_0, ee_1, ee_8], [(nat_lit 180, nat_lit 2, sv_23)], [])], [(nat_lit 180, nat_lit 2, nat_lit 2), (nat_lit 181, nat_lit 4, nat_lit 927)], [(nat_lit 3, nat_lit 1, nat_lit 0, ([ee_0, ee_1, ee_8], [(nat_lit 0, sv_19), (nat_lit 1, sv_1), (nat_lit 2, sv_2)], [], [(nat_lit 180, nat_lit 2, sv_4)]), [], [(nat_lit 3, nat_lit 1)]),
  (nat_lit 3, nat_lit 2, nat_lit 0, ([ee_0, ee_1, ee_8], [(nat_lit 0, sv_19), (nat_lit 1, sv_1), (nat_lit 2, sv_3)], [], [(nat_lit 180, nat_lit 2, sv_20)]), [], [(nat_lit 3, nat_lit 2)]),
  (nat_lit 3, nat_lit 3, nat_lit 0, ([ee_0, ee_1, ee_8], [(nat_lit 0, sv_19), (nat_lit 1, sv_1), (nat_lit 2, sv_5)], [], [(nat_lit 180, nat_lit 2, sv_21)]), [], [(nat_lit 3, nat_lit 3)]),
  (nat_lit 3, nat_lit 4, nat_lit 0, ([ee_0, ee_1, ee_8], [(nat_lit 0, sv_19), (nat_lit 1, sv_1), (nat_lit 2, sv_6)], [], [(nat_lit 180, nat_lit 2, sv_22)]), [], [(nat_lit 3, nat_lit 4)]),
  (nat_lit 3, nat_lit 5, nat_lit 0, ([ee_0, ee_1, ee_8], [(nat_lit 0, sv_19), (nat_lit 1, sv_1), (nat_lit 2, sv_7)], [], [(nat_lit 180, nat_lit 2, sv_23)]), [], [])], [], [(nat_lit 3, nat_lit 0)])
set_option maxRecDepth 100000 in
theorem syc_3 : CoOk GG MM syt_3 := chk_okF (cs := []) (F := 4000) (fun _ h => absurd h List.not_mem_nil) (by decide +kernel) (by decide +kernel)
/-- M.come -/
def syt_4 : CO := (nat_lit 185, nat_lit 1, [ee_0, ee_1, ee_9], [sv_19, sv_1], [(nat_lit 180, nat_lit 2, sv_4)], [(nat_lit 1, nat_lit 1, nat_lit 0), (nat_lit 2, nat_lit 180, nat_lit 2)], [(none, [ee_0, ee_1, ee_9], [(nat_lit 180, nat_lit 2, sv_23)], [])], [(nat_lit 180, nat_lit 2, nat_lit 2), (nat_lit 181, nat_lit 8, nat_lit 931)], [(nat_lit 3, nat_lit 1, nat_lit 0, ([ee_0, ee_1, ee_9], [(nat_lit 0, sv_19), (nat_lit 1, sv_1), (nat_lit 2, sv_2)], [], [(nat_lit 180, nat_lit 2, sv_4)]), [], [(nat_lit 3, nat_lit 1)]),
  (nat_lit 3, nat_lit 2, nat_lit 0, ([ee_0, ee_1, ee_9], [(nat_lit 0, sv_19), (nat_lit 1, sv_1), (nat_lit 2, sv_3)], [], [(nat_lit 180, nat_lit 2, sv_20)]), [], [(nat_lit 3, nat_lit 2)]),
  (nat_lit 3, nat_lit 3, nat_lit 0, ([ee_0, ee_1, ee_9], [(nat_lit 0, sv_19), (nat_lit 1, sv_1), (nat_lit 2, sv_5)], [], [(nat_lit 180, nat_lit 2, sv_21)]), [], [(nat_lit 3, nat_lit 3)]),
  (nat_lit 3, nat_lit 4, nat_lit 0, ([ee_0, ee_1, ee_9], [(nat_lit 0, sv_19), (nat_lit 1, sv_1), (nat_lit 2, sv_6)], [], [(nat_lit 180, nat_lit 2, sv_22)]), [], [(nat_lit 3, nat_lit 4)]),
  (nat_lit 3, nat_lit 5, nat_lit 0, ([ee_0, ee_1, ee_9], [(nat_lit 0, sv_19), (nat_lit 1, sv_1), (nat_lit 2, sv_7)], [], [(nat_lit 180, nat_lit 2, sv_23)]), [], [])], [], [(nat_lit 3, nat_lit 0)])
set_option maxRecDepth 100000 in
theorem syc_4 : CoOk GG MM syt_4 := chk_okF (cs := []) (F := 4000) (fun _ h => absurd h List.not_mem_nil) (by decide +kernel) (by decide +kernel)
/-- M.come -/
def syt_5 : CO := (nat_lit 185, nat_lit 1, [ee_0, ee_1, ee_10], [sv_19, sv_1], [(nat_lit 180, nat_lit 2, sv_4)], [(nat_lit 1, nat_lit 1, nat_lit 0), (nat_lit 2, nat_lit 180, nat_lit 2)], [(none, [ee_0, ee_1, ee_10], [(nat_lit 180, nat_lit 2, sv_23)], [])], [(nat_lit 180, nat_lit 2, nat_lit 2), (nat_lit 181, nat_lit 12, nat_lit 935)], [(nat_lit 3, nat_lit 1, nat_lit 0, ([ee_0, ee_1, ee_10], [(nat_lit 0, sv_19), (nat_lit 1, sv_1), (nat_lit 2, sv_2)], [], [(nat_lit 180, nat_lit 2, sv_4)]), [], [(nat_lit 3, nat_lit 1)]),
  (nat_lit 3, nat_lit 2, nat_lit 0, ([ee_0, ee_1, ee_10], [(nat_lit 0, sv_19), (nat_lit 1, sv_1), (nat_lit 2, sv_3)], [], [(nat_lit 180, nat_lit 2, sv_20)]), [], [(nat_lit 3, nat_lit 2)]),
  (nat_lit 3, nat_lit 3, nat_lit 0, ([ee_0, ee_1, ee_10], [(nat_lit 0, sv_19), (nat_lit 1, sv_1), (nat_lit 2, sv_5)], [], [(nat_lit 180, nat_lit 2, sv_21)]), [], [(nat_lit 3, nat_lit 3)]),
  (nat_lit 3, nat_lit 4, nat_lit 0, ([ee_0, ee_1, ee_10], [(nat_lit 0, sv_19), (nat_lit 1, sv_1), (nat_lit 2, sv_6)], [], [(nat_lit 180, nat_lit 2, sv_22)]), [], [(nat_lit 3, nat_lit 4)]),
  (nat_lit 3, nat_lit 5, nat_lit 0, ([ee_0, ee_1, ee_10], [(nat_lit 0, sv_19), (nat_lit 1, sv_1), (nat_lit 2, sv_7)], [], [(nat_lit 180, nat_lit 2, sv_23)]), [], [])], [], [(nat_lit 3, nat_lit 0)])
set_option maxRecDepth 100000 in
theorem syc_5 : CoOk GG MM syt_5 := chk_okF (cs := []) (F := 4000) (fun _ h => absurd h List.not_mem_nil) (by decide +kernel) (by decide +kernel)
/-- M.come -/
def syt_6 : CO := (nat_lit 185, nat_lit 1, [ee_0, ee_1, ee_11], [sv_19, sv_1], [(nat_lit 180, nat_lit 2, sv_4)], [(nat_lit 1, nat_lit 1, nat_lit 0), (nat_lit 2, nat_lit 180, nat_lit 2)], [(none, [ee_0, ee_1, ee_11], [(nat_lit 180, nat_lit 2, sv_23)], [])], [(nat_lit 180, nat_lit 2, nat_lit 2), (nat_lit 181, nat_lit 16, nat_lit 939)], [(nat_lit 3, nat_lit 1, nat_lit 0, ([ee_0, ee_1, ee_11], [(nat_lit 0, sv_19), (nat_lit 1, sv_1), (nat_lit 2, sv_2)], [], [(nat_lit 180, nat_lit 2, sv_4)]), [], [(nat_lit 3, nat_lit 1)]),
  (nat_lit 3, nat_lit 2, nat_lit 0, ([ee_0, ee_1, ee_11], [(nat_lit 0, sv_19), (nat_lit 1, sv_1), (nat_lit 2, sv_3)], [], [(nat_lit 180, nat_lit 2, sv_20)]), [], [(nat_lit 3, nat_lit 2)]),
  (nat_lit 3, nat_lit 3, nat_lit 0, ([ee_0, ee_1, ee_11], [(nat_lit 0, sv_19), (nat_lit 1, sv_1), (nat_lit 2, sv_5)], [], [(nat_lit 180, nat_lit 2, sv_21)]), [], [(nat_lit 3, nat_lit 3)]),
  (nat_lit 3, nat_lit 4, nat_lit 0, ([ee_0, ee_1, ee_11], [(nat_lit 0, sv_19), (nat_lit 1, sv_1), (nat_lit 2, sv_6)], [], [(nat_lit 180, nat_lit 2, sv_22)]), [], [(nat_lit 3, nat_lit 4)]),
  (nat_lit 3, nat_lit 5, nat_lit 0, ([ee_0, ee_1, ee_11], [(nat_lit 0, sv_19), (nat_lit 1, sv_1), (nat_lit 2, sv_7)], [], [(nat_lit 180, nat_lit 2, sv_23)]), [], [])], [], [(nat_lit 3, nat_lit 0)])
set_option maxRecDepth 100000 in
theorem syc_6 : CoOk GG MM syt_6 := chk_okF (cs := []) (F := 4000) (fun _ h => absurd h List.not_mem_nil) (by decide +kernel) (by decide +kernel)
/-- M.feed -/
def syt_7 : CO := (nat_lit 199, nat_lit 2, [ee_0, ee_1, ee_1, ee_1, ee_1, ee_1], [sv_19, sv_1, sv_4, sv_9, sv_10, sv_11], [], [(nat_lit 1, nat_lit 1, nat_lit 0), (nat_lit 1, nat_lit 2, nat_lit 0), (nat_lit 1, nat_lit 3, nat_lit 0), (nat_lit 1, nat_lit 4, nat_lit 0), (nat_lit 1, nat_lit 5, nat_lit 0)], [(some sv_16, [ee_0, ee_1, ee_1, ee_1, ee_1, ee_1, ee_6], [(nat_lit 180, nat_lit 2, sv_17)], [(nat_lit 2, nat_lit 180, nat_lit 2)]), (some sv_18, [ee_0, ee_1, ee_1, ee_1, ee_1, ee_1, ee_12, ee_12], [(nat_lit 180, nat_lit 2, sv_17)], [(nat_lit 2, nat_lit 180, nat_lit 2), (nat_lit 1, nat_lit 0, nat_lit 0)])], [(nat_lit 180, nat_lit 0, nat_lit 0), (nat_lit 180, nat_lit 2, nat_lit 2), (nat_lit 181, nat_lit 0, nat_lit 939)], [], [], [])
set_option maxRecDepth 100000 in
theorem syc_7 : CoOk GG MM syt_7 := chk_okF (cs := [syt_2, syt_3, syt_4, syt_5, syt_6]) (F := 4000) (cs_c syc_2 <| cs_c syc_3 <| cs_c syc_4 <| cs_c syc_5 <| cs_c syc_6 cs_n) (by decide +kernel) (by decide +kernel)
/-- X.end -/
def syt_8 : CO := (nat_lit 16, nat_lit 1, [ee_0, ee_1], [sv_8, sv_1], [(nat_lit 0, nat_lit 1, sv_12), (nat_lit 0, nat_lit 2, sv_13), (nat_lit 0, nat_lit 7, sv_14), (nat_lit 0, nat_lit 8, sv_15)], [(nat_lit 1, nat_lit 1, nat_lit 0)], [(some sv_6, [ee_0, ee_1], [(nat_lit 0, nat_lit 1, sv_12), (nat_lit 0, nat_lit 2, sv_13), (nat_lit 0, nat_lit 7, sv_14), (nat_lit 0, nat_lit 8, sv_15)], []), (some sv_24, [ee_0, ee_13], [(nat_lit 0, nat_lit 1, sv_12), (nat_lit 0, nat_lit 2, sv_13), (nat_lit 0, nat_lit 7, sv_14), (nat_lit 0, nat_lit 8, sv_15), (nat_lit 1, nat_lit 1, sv_1)], [])], [(nat_lit 1, nat_lit 1, nat_lit 1)], [], [], [])
set_option maxRecDepth 100000 in
theorem syc_8 : CoOk GG MM syt_8 := chk_okF (cs := []) (F := 4000) (fun _ h => absurd h List.not_mem_nil) (by decide +kernel) (by decide +kernel)
/-- M.end -/
def syt_9 : CO := (nat_lit 197, nat_lit 1, [ee_0, ee_1], [sv_19, sv_1], [], [(nat_lit 1, nat_lit 1, nat_lit 0)], [(some sv_6, [ee_0, ee_1], [], []), (some sv_24, [ee_0, ee_13], [(nat_lit 180, nat_lit 2, sv_1)], [])], [(nat_lit 180, nat_lit 0, nat_lit 0), (nat_lit 180, nat_lit 2, nat_lit 2)], [], [], [])
set_option maxRecDepth 100000 in
theorem syc_9 : CoOk GG MM syt_9 := chk_okF (cs := []) (F := 4000) (fun _ h => absurd h List.not_mem_nil) (by decide +kernel) (by decide +kernel)
/-- Duchy.clear -/
def syt_10 : CO := (nat_lit 61, nat_lit 1, [ee_0], [sv_13], [], [], [(none, [ee_0], [], [])], [(nat_lit 13, nat_lit 0, nat_lit 6), (nat_lit 17, nat_lit 0, nat_lit 6), (nat_lit 18, nat_lit 0, nat_lit 48)], [(nat_lit 37, nat_lit 1, nat_lit 1, ([ee_0, ee_14], [(nat_lit 0, sv_13), (nat_lit 1, sv_1)], [], []), [(nat_lit 0, nat_lit 1, nat_lit 0)], [(nat_lit 37, nat_lit 0), (nat_lit 58, nat_lit 1)]),
  (nat_lit 58, nat_lit 2, nat_lit 1, ([ee_0, ee_15], [(nat_lit 0, sv_13), (nat_lit 1, sv_1)], [], []), [(nat_lit 0, nat_lit 1, nat_lit 0)], [(nat_lit 58, nat_lit 1)])], [], [(nat_lit 37, nat_lit 0)])
set_option maxRecDepth 100000 in
theorem syc_10 : CoOk GG MM syt_10 := chk_okF (cs := []) (F := 4000) (fun _ h => absurd h List.not_mem_nil) (by decide +kernel) (by decide +kernel)
/-- Tape.signAt -/
def syt_11 : CO := (nat_lit 166, nat_lit 1, [ee_0, ee_1], [sv_0, sv_1], [], [(nat_lit 1, nat_lit 1, nat_lit 0)], [(some sv_4, [ee_0, ee_16, ee_17], [], [(nat_lit 1, nat_lit 0, nat_lit 0)]), (some sv_6, [ee_0, ee_1], [], [])], [], [], [], [])
set_option maxRecDepth 100000 in
theorem syc_11 : CoOk GG MM syt_11 := chk_okF (cs := []) (F := 4000) (fun _ h => absurd h List.not_mem_nil) (by decide +kernel) (by decide +kernel)
/-- Tape.isBlank -/
def syt_12 : CO := (nat_lit 156, nat_lit 1, [ee_0, ee_17], [sv_1], [], [(nat_lit 1, nat_lit 0, nat_lit 0)], [(some sv_24, [ee_0, ee_18], [], []), (some sv_6, [ee_0, ee_17], [], [])], [], [], [], [])
set_option maxRecDepth 100000 in
theorem syc_12 : CoOk GG MM syt_12 := chk_okF (cs := []) (F := 4000) (fun _ h => absurd h List.not_mem_nil) (by decide +kernel) (by decide +kernel)
/-- Tape.isLetter -/
def syt_13 : CO := (nat_lit 158, nat_lit 1, [ee_0, ee_17], [sv_1], [], [(nat_lit 1, nat_lit 0, nat_lit 0)], [(some sv_24, [ee_0, ee_19], [], []), (some sv_6, [ee_0, ee_17], [], [])], [], [], [], [])
set_option maxRecDepth 100000 in
theorem syc_13 : CoOk GG MM syt_13 := chk_okF (cs := []) (F := 4000) (fun _ h => absurd h List.not_mem_nil) (by decide +kernel) (by decide +kernel)
/-- Tape.isDigit -/
def syt_14 : CO := (nat_lit 157, nat_lit 1, [ee_0, ee_17], [sv_1], [], [(nat_lit 1, nat_lit 0, nat_lit 0)], [(some sv_24, [ee_0, ee_20], [], []), (some sv_6, [ee_0, ee_17], [], [])], [], [], [], [])
set_option maxRecDepth 100000 in
theorem syc_14 : CoOk GG MM syt_14 := chk_okF (cs := []) (F := 4000) (fun _ h => absurd h List.not_mem_nil) (by decide +kernel) (by decide +kernel)
/-- Tape.isMark -/
def syt_15 : CO := (nat_lit 159, nat_lit 1, [ee_0, ee_17], [sv_1], [], [(nat_lit 1, nat_lit 0, nat_lit 0)], [(some sv_24, [ee_0, ee_21], [], []), (some sv_6, [ee_0, ee_17], [], [])], [], [], [], [])
set_option maxRecDepth 100000 in
theorem syc_15 : CoOk GG MM syt_15 := chk_okF (cs := []) (F := 4000) (fun _ h => absurd h List.not_mem_nil) (by decide +kernel) (by decide +kernel)
/-- Tape.readMark -/
def syt_16 : CO := (nat_lit 163, nat_lit 2, [ee_0, ee_22], [sv_0], [(nat_lit 1, nat_lit 3, sv_1)], [(nat_lit 2, nat_lit 1, nat_lit 3)], [(none, [ee_0, ee_22], [(nat_lit 1, nat_lit 3, sv_25)], [])], [(nat_lit 1, nat_lit 3, nat_lit 4), (nat_lit 1, nat_lit 8, nat_lit 8)], [], [], [])
set_option maxRecDepth 100000 in
theorem syc_16 : CoOk GG MM syt_16 := chk_okF (cs := [syt_15, syt_11]) (F := 4000) (cs_c syc_15 <| cs_c syc_11 cs_n) (by decide +kernel) (by decide +kernel)
/-- Word.of -/
def syt_17 : CO := (nat_lit 169, nat_lit 1, [ee_0, ee_23], [sv_26], [], [(nat_lit 1, nat_lit 0, nat_lit 0)], [(some sv_27, [ee_0, ee_23, ee_24], [], [(nat_lit 1, nat_lit 0, nat_lit 0)]), (some sv_28, [ee_0, ee_23], [], [])], [], [(nat_lit 2, nat_lit 1, nat_lit 1, ([ee_0, ee_23, ee_24], [(nat_lit 0, sv_26), (nat_lit 2, sv_4)], [], []), [(nat_lit 0, nat_lit 2, nat_lit 0)], [(nat_lit 2, nat_lit 0)])], [], [(nat_lit 2, nat_lit 0)])
set_option maxRecDepth 100000 in
theorem syc_17 : CoOk GG MM syt_17 := chk_okF (cs := []) (F := 4000) (fun _ h => absurd h List.not_mem_nil) (by decide +kernel) (by decide +kernel)
/-- Word.withLetter -/
def syt_18 : CO := (nat_lit 170, nat_lit 1, [ee_0, ee_23, ee_1], [sv_26, sv_4], [], [(nat_lit 1, nat_lit 0, nat_lit 0), (nat_lit 1, nat_lit 1, nat_lit 0)], [(some sv_29, [ee_0, ee_23, ee_1, ee_23], [], [(nat_lit 1, nat_lit 0, nat_lit 0)])], [], [], [], [])
set_option maxRecDepth 100000 in
theorem syc_18 : CoOk GG MM syt_18 := chk_okF (cs := []) (F := 4000) (fun _ h => absurd h List.not_mem_nil) (by decide +kernel) (by decide +kernel)
/-- Tape.readRun -/
def syt_19 : CO := (nat_lit 164, nat_lit 2, [ee_0], [sv_0], [], [], [(none, [ee_0, ee_13], [(nat_lit 1, nat_lit 3, sv_1)], [(nat_lit 2, nat_lit 1, nat_lit 3)])], [(nat_lit 1, nat_lit 3, nat_lit 4), (nat_lit 1, nat_lit 6, nat_lit 8)], [(nat_lit 4, nat_lit 1, nat_lit 1, ([ee_0, ee_13, ee_1, ee_1], [(nat_lit 0, sv_0), (nat_lit 1, sv_4), (nat_lit 2, sv_9)], [], [(nat_lit 1, nat_lit 3, sv_1)]), [(nat_lit 2, nat_lit 1, nat_lit 3), (nat_lit 0, nat_lit 1, nat_lit 0), (nat_lit 0, nat_lit 2, nat_lit 0)], [(nat_lit 4, nat_lit 0)])], [(nat_lit 1, nat_lit 3, nat_lit 0)], [(nat_lit 4, nat_lit 0)])
set_option maxRecDepth 100000 in
theorem syc_19 : CoOk GG MM syt_19 := chk_okF (cs := [syt_14, syt_13, syt_11, syt_17, syt_18]) (F := 4000) (cs_c syc_14 <| cs_c syc_13 <| cs_c syc_11 <| cs_c syc_17 <| cs_c syc_18 cs_n) (by decide +kernel) (by decide +kernel)
/-- Tape.readMark -/
def syt_20 : CO := (nat_lit 163, nat_lit 2, [ee_0, ee_16], [sv_0], [(nat_lit 1, nat_lit 3, sv_1)], [(nat_lit 2, nat_lit 1, nat_lit 3)], [(none, [ee_0, ee_16], [(nat_lit 1, nat_lit 3, sv_25)], [])], [(nat_lit 1, nat_lit 3, nat_lit 4), (nat_lit 1, nat_lit 8, nat_lit 8)], [], [], [])
set_option maxRecDepth 100000 in
theorem syc_20 : CoOk GG MM syt_20 := chk_okF (cs := [syt_15, syt_11]) (F := 4000) (cs_c syc_15 <| cs_c syc_11 cs_n) (by decide +kernel) (by decide +kernel)
/-- Tape.advance -/
def syt_21 : CO := (nat_lit 155, nat_lit 3, [ee_0], [sv_0], [], [], [(none, [ee_0, ee_13], [(nat_lit 1, nat_lit 3, sv_1)], [(nat_lit 2, nat_lit 1, nat_lit 3)])], [(nat_lit 1, nat_lit 3, nat_lit 8)], [(nat_lit 17, nat_lit 1, nat_lit 1, ([ee_0, ee_13], [(nat_lit 0, sv_0)], [], [(nat_lit 1, nat_lit 3, sv_1)]), [(nat_lit 2, nat_lit 1, nat_lit 3)], [(nat_lit 17, nat_lit 0)])], [(nat_lit 1, nat_lit 3, nat_lit 0)], [(nat_lit 17, nat_lit 0)])
set_option maxRecDepth 100000 in
theorem syc_21 : CoOk GG MM syt_21 := chk_okF (cs := [syt_12, syt_14, syt_13, syt_16, syt_20, syt_19, syt_11]) (F := 4000) (cs_c syc_12 <| cs_c syc_14 <| cs_c syc_13 <| cs_c syc_16 <| cs_c syc_20 <| cs_c syc_19 <| cs_c syc_11 cs_n) (by decide +kernel) (by decide +kernel)
/-- Tape.open -/
def syt_22 : CO := (nat_lit 161, nat_lit 4, [ee_0], [sv_0, sv_30], [], [], [(none, [ee_0, ee_13], [(nat_lit 1, nat_lit 3, sv_1), (nat_lit 1, nat_lit 9, sv_6)], [(nat_lit 2, nat_lit 1, nat_lit 3)])], [(nat_lit 1, nat_lit 2, nat_lit 11)], [], [], [])
set_option maxRecDepth 100000 in
theorem syc_22 : CoOk GG MM syt_22 := chk_okF (cs := [syt_21]) (F := 4000) (cs_c syc_21 cs_n) (by decide +kernel) (by decide +kernel)
/-- Duchy.fillIn -/
def syt_23 : CO := (nat_lit 65, nat_lit 1, [ee_0], [sv_13], [], [], [(none, [ee_0], [], [])], [(nat_lit 13, nat_lit 2, nat_lit 4)], [], [], [])
set_option maxRecDepth 100000 in
theorem syc_23 : CoOk GG MM syt_23 := chk_okF (cs := []) (F := 4000) (fun _ h => absurd h List.not_mem_nil) (by decide +kernel) (by decide +kernel)
/-- Tape.refuse -/
def syt_24 : CO := (nat_lit 165, nat_lit 1, [ee_0], [sv_0, sv_31], [], [], [(some sv_6, [ee_0], [], [])], [(nat_lit 1, nat_lit 10, nat_lit 11)], [], [], [])
set_option maxRecDepth 100000 in
theorem syc_24 : CoOk GG MM syt_24 := chk_okF (cs := []) (F := 4000) (fun _ h => absurd h List.not_mem_nil) (by decide +kernel) (by decide +kernel)
/-- Tape.refuse -/
def syt_25 : CO := (nat_lit 165, nat_lit 1, [ee_0], [sv_0, sv_24], [], [], [(some sv_6, [ee_0], [], [])], [(nat_lit 1, nat_lit 10, nat_lit 11)], [], [], [])
set_option maxRecDepth 100000 in
theorem syc_25 : CoOk GG MM syt_25 := chk_okF (cs := []) (F := 4000) (fun _ h => absurd h List.not_mem_nil) (by decide +kernel) (by decide +kernel)
/-- Tape.refuse -/
def syt_26 : CO := (nat_lit 165, nat_lit 1, [ee_0], [sv_0, sv_32], [], [], [(some sv_6, [ee_0], [], [])], [(nat_lit 1, nat_lit 10, nat_lit 11)], [], [], [])
set_option maxRecDepth 100000 in
theorem syc_26 : CoOk GG MM syt_26 := chk_okF (cs := []) (F := 4000) (fun _ h => absurd h List.not_mem_nil) (by decide +kernel) (by decide +kernel)
/-- Tape.takesNumber -/
def syt_27 : CO := (nat_lit 168, nat_lit 4, [ee_0], [sv_0, sv_24, sv_33], [], [], [(some sv_6, [ee_0], [], []), (some sv_24, [ee_0, ee_13, ee_25], [(nat_lit 1, nat_lit 3, sv_1), (nat_lit 1, nat_lit 9, sv_4)], [(nat_lit 2, nat_lit 1, nat_lit 3), (nat_lit 2, nat_lit 1, nat_lit 9)])], [(nat_lit 1, nat_lit 3, nat_lit 11)], [], [], [])
set_option maxRecDepth 100000 in
theorem syc_27 : CoOk GG MM syt_27 := chk_okF (cs := [syt_21, syt_25, syt_26]) (F := 4000) (cs_c syc_21 <| cs_c syc_25 <| cs_c syc_26 cs_n) (by decide +kernel) (by decide +kernel)
/-- Duchy.readOnce -/
def syt_28 : CO := (nat_lit 77, nat_lit 5, [ee_0], [sv_13, sv_0], [], [], [(some sv_6, [ee_0], [], []), (some sv_24, [ee_0, ee_13, ee_25], [(nat_lit 1, nat_lit 3, sv_1), (nat_lit 1, nat_lit 9, sv_4)], [(nat_lit 2, nat_lit 1, nat_lit 3), (nat_lit 2, nat_lit 1, nat_lit 9)])], [(nat_lit 1, nat_lit 3, nat_lit 11), (nat_lit 13, nat_lit 2, nat_lit 4)], [], [], [])
set_option maxRecDepth 100000 in
theorem syc_28 : CoOk GG MM syt_28 := chk_okF (cs := [syt_21, syt_24, syt_27]) (F := 4000) (cs_c syc_21 <| cs_c syc_24 <| cs_c syc_27 cs_n) (by decide +kernel) (by decide +kernel)
/-- Tape.isMarkHere -/
def syt_29 : CO := (nat_lit 160, nat_lit 1, [ee_0], [sv_0, sv_34], [], [], [(some sv_24, [ee_0], [], []), (some sv_6, [ee_0], [], [])], [], [], [], [])
set_option maxRecDepth 100000 in
theorem syc_29 : CoOk GG MM syt_29 := chk_okF (cs := []) (F := 4000) (fun _ h => absurd h List.not_mem_nil) (by decide +kernel) (by decide +kernel)
/-- Tape.takesMark -/
def syt_30 : CO := (nat_lit 167, nat_lit 4, [ee_0], [sv_0, sv_34], [], [], [(some sv_6, [ee_0], [], []), (some sv_24, [ee_0, ee_13], [(nat_lit 1, nat_lit 3, sv_1)], [(nat_lit 2, nat_lit 1, nat_lit 3)])], [(nat_lit 1, nat_lit 3, nat_lit 8), (nat_lit 1, nat_lit 10, nat_lit 11)], [], [], [])
set_option maxRecDepth 100000 in
theorem syc_30 : CoOk GG MM syt_30 := chk_okF (cs := [syt_21, syt_29, syt_25]) (F := 4000) (cs_c syc_21 <| cs_c syc_29 <| cs_c syc_25 cs_n) (by decide +kernel) (by decide +kernel)
/-- Duchy.find -/
def syt_31 : CO := (nat_lit 66, nat_lit 1, [ee_0, ee_14, ee_23], [sv_35, sv_1, sv_36], [], [(nat_lit 1, nat_lit 1, nat_lit 0), (nat_lit 1, nat_lit 2, nat_lit 0)], [(some sv_9, [ee_0, ee_26, ee_23, ee_27], [], [(nat_lit 1, nat_lit 0, nat_lit 0)]), (some sv_16, [ee_0, ee_14, ee_23], [], [])], [], [(nat_lit 3, nat_lit 1, nat_lit 1, ([ee_0, ee_14, ee_23, ee_14], [(nat_lit 0, sv_35), (nat_lit 1, sv_1), (nat_lit 2, sv_36), (nat_lit 4, sv_9)], [], []), [(nat_lit 0, nat_lit 4, nat_lit 0)], [(nat_lit 3, nat_lit 0)])], [], [(nat_lit 3, nat_lit 0)])
set_option maxRecDepth 100000 in
theorem syc_31 : CoOk GG MM syt_31 := chk_okF (cs := []) (F := 4000) (fun _ h => absurd h List.not_mem_nil) (by decide +kernel) (by decide +kernel)
/-- Duchy.namedHere -/
def syt_32 : CO := (nat_lit 71, nat_lit 2, [ee_0, ee_14], [sv_0, sv_35, sv_1], [], [(nat_lit 1, nat_lit 2, nat_lit 0)], [(some sv_16, [ee_0, ee_14], [], []), (some sv_4, [ee_0, ee_26, ee_27], [], [(nat_lit 1, nat_lit 0, nat_lit 0)])], [(nat_lit 1, nat_lit 10, nat_lit 11)], [], [], [])
set_option maxRecDepth 100000 in
theorem syc_32 : CoOk GG MM syt_32 := chk_okF (cs := [syt_31, syt_24, syt_25]) (F := 4000) (cs_c syc_31 <| cs_c syc_24 <| cs_c syc_25 cs_n) (by decide +kernel) (by decide +kernel)
/-- Duchy.personHere -/
def syt_33 : CO := (nat_lit 73, nat_lit 3, [ee_0], [sv_13, sv_0], [], [], [(some sv_1, [ee_0, ee_27], [], [(nat_lit 1, nat_lit 0, nat_lit 0)]), (some sv_16, [ee_0], [], [])], [(nat_lit 1, nat_lit 10, nat_lit 11)], [], [], [])
set_option maxRecDepth 100000 in
theorem syc_33 : CoOk GG MM syt_33 := chk_okF (cs := [syt_32]) (F := 4000) (cs_c syc_32 cs_n) (by decide +kernel) (by decide +kernel)
/-- Duchy.readTwo -/
def syt_34 : CO := (nat_lit 80, nat_lit 4, [ee_0], [sv_13, sv_0], [], [], [(some sv_16, [ee_0, ee_13], [(nat_lit 1, nat_lit 3, sv_1)], [(nat_lit 2, nat_lit 1, nat_lit 3)]), (some sv_4, [ee_0, ee_13, ee_28], [(nat_lit 1, nat_lit 3, sv_1)], [(nat_lit 2, nat_lit 1, nat_lit 3), (nat_lit 1, nat_lit 0, nat_lit 0)])], [(nat_lit 1, nat_lit 3, nat_lit 8), (nat_lit 1, nat_lit 10, nat_lit 11)], [], [], [])
set_option maxRecDepth 100000 in
theorem syc_34 : CoOk GG MM syt_34 := chk_okF (cs := [syt_33, syt_21, syt_24]) (F := 4000) (cs_c syc_33 <| cs_c syc_21 <| cs_c syc_24 cs_n) (by decide +kernel) (by decide +kernel)
/-- Tape.takesNumber -/
def syt_35 : CO := (nat_lit 168, nat_lit 4, [ee_0], [sv_0, sv_24, sv_37], [], [], [(some sv_6, [ee_0], [], []), (some sv_24, [ee_0, ee_13, ee_29], [(nat_lit 1, nat_lit 3, sv_1), (nat_lit 1, nat_lit 9, sv_4)], [(nat_lit 2, nat_lit 1, nat_lit 3), (nat_lit 2, nat_lit 1, nat_lit 9)])], [(nat_lit 1, nat_lit 3, nat_lit 11)], [], [], [])
set_option maxRecDepth 100000 in
theorem syc_35 : CoOk GG MM syt_35 := chk_okF (cs := [syt_21, syt_25, syt_26]) (F := 4000) (cs_c syc_21 <| cs_c syc_25 <| cs_c syc_26 cs_n) (by decide +kernel) (by decide +kernel)
/-- Duchy.readFond -/
def syt_36 : CO := (nat_lit 75, nat_lit 5, [ee_0], [sv_13, sv_0], [], [], [(some sv_6, [ee_0], [], []), (some sv_24, [ee_0, ee_13, ee_29], [(nat_lit 1, nat_lit 3, sv_1), (nat_lit 1, nat_lit 9, sv_4)], [(nat_lit 2, nat_lit 1, nat_lit 3), (nat_lit 2, nat_lit 1, nat_lit 9)])], [(nat_lit 1, nat_lit 3, nat_lit 11), (nat_lit 18, nat_lit 0, nat_lit 48)], [], [], [])
set_option maxRecDepth 100000 in
theorem syc_36 : CoOk GG MM syt_36 := chk_okF (cs := [syt_34, syt_21, syt_24, syt_35]) (F := 4000) (cs_c syc_34 <| cs_c syc_21 <| cs_c syc_24 <| cs_c syc_35 cs_n) (by decide +kernel) (by decide +kernel)
/-- Duchy.readSees -/
def syt_37 : CO := (nat_lit 79, nat_lit 5, [ee_0], [sv_13, sv_0], [], [], [(some sv_6, [ee_0, ee_13], [(nat_lit 1, nat_lit 3, sv_1)], [(nat_lit 2, nat_lit 1, nat_lit 3)]), (some sv_24, [ee_0, ee_13], [(nat_lit 1, nat_lit 3, sv_1)], [(nat_lit 2, nat_lit 1, nat_lit 3)])], [(nat_lit 1, nat_lit 3, nat_lit 8), (nat_lit 1, nat_lit 10, nat_lit 11), (nat_lit 17, nat_lit 0, nat_lit 6)], [], [], [])
set_option maxRecDepth 100000 in
theorem syc_37 : CoOk GG MM syt_37 := chk_okF (cs := [syt_34, syt_21, syt_24]) (F := 4000) (cs_c syc_34 <| cs_c syc_21 <| cs_c syc_24 cs_n) (by decide +kernel) (by decide +kernel)
/-- Tape.refuse -/
def syt_38 : CO := (nat_lit 165, nat_lit 1, [ee_0], [sv_0, sv_38], [], [], [(some sv_6, [ee_0], [], [])], [(nat_lit 1, nat_lit 10, nat_lit 11)], [], [], [])
set_option maxRecDepth 100000 in
theorem syc_38 : CoOk GG MM syt_38 := chk_okF (cs := []) (F := 4000) (fun _ h => absurd h List.not_mem_nil) (by decide +kernel) (by decide +kernel)
/-- Duchy.find -/
def syt_39 : CO := (nat_lit 66, nat_lit 1, [ee_0, ee_30, ee_23], [sv_39, sv_1, sv_36], [], [(nat_lit 1, nat_lit 1, nat_lit 0), (nat_lit 1, nat_lit 2, nat_lit 0)], [(some sv_9, [ee_0, ee_31, ee_23, ee_14], [], [(nat_lit 1, nat_lit 0, nat_lit 0)]), (some sv_16, [ee_0, ee_30, ee_23], [], [])], [], [(nat_lit 3, nat_lit 1, nat_lit 1, ([ee_0, ee_30, ee_23, ee_30], [(nat_lit 0, sv_39), (nat_lit 1, sv_1), (nat_lit 2, sv_36), (nat_lit 4, sv_9)], [], []), [(nat_lit 0, nat_lit 4, nat_lit 0)], [(nat_lit 3, nat_lit 0)])], [], [(nat_lit 3, nat_lit 0)])
set_option maxRecDepth 100000 in
theorem syc_39 : CoOk GG MM syt_39 := chk_okF (cs := []) (F := 4000) (fun _ h => absurd h List.not_mem_nil) (by decide +kernel) (by decide +kernel)
/-- Duchy.isNewName -/
def syt_40 : CO := (nat_lit 70, nat_lit 2, [ee_0], [sv_13, sv_0], [], [], [(some sv_6, [ee_0], [], []), (some sv_24, [ee_0], [], [])], [(nat_lit 1, nat_lit 10, nat_lit 11)], [], [], [])
set_option maxRecDepth 100000 in
theorem syc_40 : CoOk GG MM syt_40 := chk_okF (cs := [syt_31, syt_39, syt_24, syt_25]) (F := 4000) (cs_c syc_31 <| cs_c syc_39 <| cs_c syc_24 <| cs_c syc_25 cs_n) (by decide +kernel) (by decide +kernel)
/-- Tape.takesNumber -/
def syt_41 : CO := (nat_lit 168, nat_lit 4, [ee_0], [sv_0, sv_24, sv_40], [], [], [(some sv_6, [ee_0], [], []), (some sv_24, [ee_0, ee_13, ee_32], [(nat_lit 1, nat_lit 3, sv_1), (nat_lit 1, nat_lit 9, sv_4)], [(nat_lit 2, nat_lit 1, nat_lit 3), (nat_lit 2, nat_lit 1, nat_lit 9)])], [(nat_lit 1, nat_lit 3, nat_lit 11)], [], [], [])
set_option maxRecDepth 100000 in
theorem syc_41 : CoOk GG MM syt_41 := chk_okF (cs := [syt_21, syt_25, syt_26]) (F := 4000) (cs_c syc_21 <| cs_c syc_25 <| cs_c syc_26 cs_n) (by decide +kernel) (by decide +kernel)
/-- Tape.takesNumber -/
def syt_42 : CO := (nat_lit 168, nat_lit 4, [ee_0], [sv_0, sv_6, sv_33], [], [], [(some sv_6, [ee_0], [], []), (some sv_24, [ee_0, ee_13, ee_33], [(nat_lit 1, nat_lit 3, sv_1), (nat_lit 1, nat_lit 9, sv_4)], [(nat_lit 2, nat_lit 1, nat_lit 3), (nat_lit 2, nat_lit 1, nat_lit 9)])], [(nat_lit 1, nat_lit 3, nat_lit 11)], [], [], [])
set_option maxRecDepth 100000 in
theorem syc_42 : CoOk GG MM syt_42 := chk_okF (cs := [syt_21, syt_25, syt_26]) (F := 4000) (cs_c syc_21 <| cs_c syc_25 <| cs_c syc_26 cs_n) (by decide +kernel) (by decide +kernel)
/-- Tape.takesNumber -/
def syt_43 : CO := (nat_lit 168, nat_lit 4, [ee_0], [sv_0, sv_6, sv_37], [], [], [(some sv_6, [ee_0], [], []), (some sv_24, [ee_0, ee_13, ee_34], [(nat_lit 1, nat_lit 3, sv_1), (nat_lit 1, nat_lit 9, sv_4)], [(nat_lit 2, nat_lit 1, nat_lit 3), (nat_lit 2, nat_lit 1, nat_lit 9)])], [(nat_lit 1, nat_lit 3, nat_lit 11)], [], [], [])
set_option maxRecDepth 100000 in
theorem syc_43 : CoOk GG MM syt_43 := chk_okF (cs := [syt_21, syt_25, syt_26]) (F := 4000) (cs_c syc_21 <| cs_c syc_25 <| cs_c syc_26 cs_n) (by decide +kernel) (by decide +kernel)
/-- Duchy.readDeed -/
def syt_44 : CO := (nat_lit 74, nat_lit 5, [ee_0], [sv_13, sv_0], [], [], [(some sv_6, [ee_0], [], []), (some sv_24, [ee_0, ee_13, ee_34], [(nat_lit 1, nat_lit 3, sv_1), (nat_lit 1, nat_lit 9, sv_4)], [(nat_lit 2, nat_lit 1, nat_lit 3), (nat_lit 2, nat_lit 1, nat_lit 9)])], [(nat_lit 1, nat_lit 3, nat_lit 11), (nat_lit 13, nat_lit 1, nat_lit 1), (nat_lit 13, nat_lit 6, nat_lit 6), (nat_lit 19, nat_lit 0, nat_lit 7), (nat_lit 20, nat_lit 0, nat_lit 7), (nat_lit 21, nat_lit 0, nat_lit 7), (nat_lit 22, nat_lit 0, nat_lit 7)], [], [], [])
set_option maxRecDepth 100000 in
theorem syc_44 : CoOk GG MM syt_44 := chk_okF (cs := [syt_40, syt_21, syt_38, syt_41, syt_42, syt_43]) (F := 4000) (cs_c syc_40 <| cs_c syc_21 <| cs_c syc_38 <| cs_c syc_41 <| cs_c syc_42 <| cs_c syc_43 cs_n) (by decide +kernel) (by decide +kernel)
/-- Duchy.readPerson -/
def syt_45 : CO := (nat_lit 78, nat_lit 5, [ee_0], [sv_13, sv_0], [], [], [(some sv_6, [ee_0], [], []), (some sv_24, [ee_0, ee_13, ee_29], [(nat_lit 1, nat_lit 3, sv_1), (nat_lit 1, nat_lit 9, sv_4)], [(nat_lit 2, nat_lit 1, nat_lit 3), (nat_lit 2, nat_lit 1, nat_lit 9)])], [(nat_lit 1, nat_lit 3, nat_lit 11), (nat_lit 13, nat_lit 0, nat_lit 0), (nat_lit 13, nat_lit 5, nat_lit 5), (nat_lit 14, nat_lit 0, nat_lit 6), (nat_lit 15, nat_lit 0, nat_lit 6), (nat_lit 16, nat_lit 0, nat_lit 6)], [], [], [])
set_option maxRecDepth 100000 in
theorem syc_45 : CoOk GG MM syt_45 := chk_okF (cs := [syt_40, syt_21, syt_38, syt_35]) (F := 4000) (cs_c syc_40 <| cs_c syc_21 <| cs_c syc_38 <| cs_c syc_35 cs_n) (by decide +kernel) (by decide +kernel)
/-- Duchy.readFrom -/
def syt_46 : CO := (nat_lit 76, nat_lit 6, [ee_0], [sv_13, sv_0], [], [], [(some sv_9, [ee_0, ee_13, ee_33, ee_35], [(nat_lit 1, nat_lit 3, sv_1), (nat_lit 1, nat_lit 9, sv_4)], [(nat_lit 2, nat_lit 1, nat_lit 3), (nat_lit 2, nat_lit 1, nat_lit 9), (nat_lit 1, nat_lit 0, nat_lit 0)]), (some sv_16, [ee_0], [], [])], [(nat_lit 1, nat_lit 2, nat_lit 11), (nat_lit 13, nat_lit 0, nat_lit 6), (nat_lit 14, nat_lit 0, nat_lit 6), (nat_lit 15, nat_lit 0, nat_lit 6), (nat_lit 16, nat_lit 0, nat_lit 6), (nat_lit 17, nat_lit 0, nat_lit 6), (nat_lit 18, nat_lit 0, nat_lit 48), (nat_lit 19, nat_lit 0, nat_lit 7), (nat_lit 20, nat_lit 0, nat_lit 7), (nat_lit 21, nat_lit 0, nat_lit 7), (nat_lit 22, nat_lit 0, nat_lit 7)], [(nat_lit 13, nat_lit 1, nat_lit 1, ([ee_0, ee_16, ee_13, ee_33], [(nat_lit 0, sv_13), (nat_lit 1, sv_0), (nat_lit 2, sv_1)], [], [(nat_lit 1, nat_lit 3, sv_4), (nat_lit 1, nat_lit 9, sv_9)]), [(nat_lit 0, nat_lit 2, nat_lit 0), (nat_lit 2, nat_lit 1, nat_lit 3), (nat_lit 2, nat_lit 1, nat_lit 9)], [(nat_lit 13, nat_lit 0)])], [], [(nat_lit 13, nat_lit 0)])
set_option maxRecDepth 100000 in
theorem syc_46 : CoOk GG MM syt_46 := chk_okF (cs := [syt_10, syt_23, syt_44, syt_36, syt_28, syt_45, syt_37, syt_22, syt_25, syt_30]) (F := 4000) (cs_c syc_10 <| cs_c syc_23 <| cs_c syc_44 <| cs_c syc_36 <| cs_c syc_28 <| cs_c syc_45 <| cs_c syc_37 <| cs_c syc_22 <| cs_c syc_25 <| cs_c syc_30 cs_n) (by decide +kernel) (by decide +kernel)
/-- X.takeFault -/
def syt_47 : CO := (nat_lit 41, nat_lit 1, [ee_0], [sv_8], [(nat_lit 0, nat_lit 1, sv_12)], [], [(none, [ee_0], [(nat_lit 0, nat_lit 1, sv_12), (nat_lit 1, nat_lit 1, sv_6)], [])], [(nat_lit 0, nat_lit 13, nat_lit 13), (nat_lit 1, nat_lit 1, nat_lit 1)], [], [], [])
set_option maxRecDepth 100000 in
theorem syc_47 : CoOk GG MM syt_47 := chk_okF (cs := []) (F := 4000) (fun _ h => absurd h List.not_mem_nil) (by decide +kernel) (by decide +kernel)
/-- Life.begin -/
def syt_48 : CO := (nat_lit 91, nat_lit 1, [ee_0, ee_1], [sv_41, sv_1], [], [(nat_lit 1, nat_lit 1, nat_lit 0)], [(none, [ee_0, ee_1], [], [])], [(nat_lit 23, nat_lit 0, nat_lit 3), (nat_lit 24, nat_lit 0, nat_lit 6), (nat_lit 25, nat_lit 0, nat_lit 6), (nat_lit 26, nat_lit 0, nat_lit 6), (nat_lit 27, nat_lit 0, nat_lit 6), (nat_lit 28, nat_lit 0, nat_lit 6), (nat_lit 29, nat_lit 0, nat_lit 6), (nat_lit 30, nat_lit 0, nat_lit 7)], [(nat_lit 22, nat_lit 1, nat_lit 1, ([ee_0, ee_1, ee_14], [(nat_lit 0, sv_41), (nat_lit 2, sv_4)], [], []), [(nat_lit 0, nat_lit 2, nat_lit 0)], [(nat_lit 22, nat_lit 0), (nat_lit 78, nat_lit 1)]),
  (nat_lit 78, nat_lit 2, nat_lit 1, ([ee_0, ee_1, ee_30], [(nat_lit 0, sv_41), (nat_lit 2, sv_4)], [], []), [(nat_lit 0, nat_lit 2, nat_lit 0)], [(nat_lit 78, nat_lit 1)])], [], [(nat_lit 22, nat_lit 0)])
set_option maxRecDepth 100000 in
theorem syc_48 : CoOk GG MM syt_48 := chk_okF (cs := []) (F := 4000) (fun _ h => absurd h List.not_mem_nil) (by decide +kernel) (by decide +kernel)
/-- Past.forget -/
def syt_49 : CO := (nat_lit 129, nat_lit 1, [ee_0], [sv_42], [], [], [(none, [ee_0], [], [])], [(nat_lit 39, nat_lit 2, nat_lit 2)], [], [], [])
set_option maxRecDepth 100000 in
theorem syc_49 : CoOk GG MM syt_49 := chk_okF (cs := []) (F := 4000) (fun _ h => absurd h List.not_mem_nil) (by decide +kernel) (by decide +kernel)
/-- Sentence.clear -/
def syt_50 : CO := (nat_lit 136, nat_lit 1, [ee_0], [sv_14], [], [], [(none, [ee_0], [], [])], [(nat_lit 110, nat_lit 0, nat_lit 1)], [], [], [])
set_option maxRecDepth 100000 in
theorem syc_50 : CoOk GG MM syt_50 := chk_okF (cs := []) (F := 4000) (fun _ h => absurd h List.not_mem_nil) (by decide +kernel) (by decide +kernel)
/-- X.duchy -/
def syt_51 : CO := (nat_lit 14, nat_lit 7, [ee_0], [sv_8], [(nat_lit 0, nat_lit 1, sv_12), (nat_lit 0, nat_lit 2, sv_13), (nat_lit 0, nat_lit 7, sv_14), (nat_lit 0, nat_lit 8, sv_15)], [], [(some sv_1, [ee_0, ee_1], [(nat_lit 0, nat_lit 7, sv_14), (nat_lit 0, nat_lit 8, sv_15), (nat_lit 1, nat_lit 1, sv_6)], [(nat_lit 1, nat_lit 0, nat_lit 0)]), (some sv_16, [ee_0], [(nat_lit 0, nat_lit 1, sv_13), (nat_lit 0, nat_lit 2, sv_12), (nat_lit 0, nat_lit 7, sv_14), (nat_lit 0, nat_lit 8, sv_15), (nat_lit 1, nat_lit 1, sv_6)], [])], [(nat_lit 0, nat_lit 1, nat_lit 2), (nat_lit 0, nat_lit 13, nat_lit 13), (nat_lit 1, nat_lit 1, nat_lit 11), (nat_lit 13, nat_lit 0, nat_lit 6), (nat_lit 14, nat_lit 0, nat_lit 6), (nat_lit 15, nat_lit 0, nat_lit 6), (nat_lit 16, nat_lit 0, nat_lit 6), (nat_lit 17, nat_lit 0, nat_lit 6), (nat_lit 18, nat_lit 0, nat_lit 48), (nat_lit 19, nat_lit 0, nat_lit 7), (nat_lit 20, nat_lit 0, nat_lit 7), (nat_lit 21, nat_lit 0, nat_lit 7), (nat_lit 22, nat_lit 0, nat_lit 7), (nat_lit 23, nat_lit 0, nat_lit 3), (nat_lit 24, nat_lit 0, nat_lit 6), (nat_lit 25, nat_lit 0, nat_lit 6), (nat_lit 26, nat_lit 0, nat_lit 6), (nat_lit 27, nat_lit 0, nat_lit 6), (nat_lit 28, nat_lit 0, nat_lit 6), (nat_lit 29, nat_lit 0, nat_lit 6), (nat_lit 30, nat_lit 0, nat_lit 7), (nat_lit 39, nat_lit 2, nat_lit 2), (nat_lit 110, nat_lit 0, nat_lit 1)], [], [], [])
set_option maxRecDepth 100000 in
theorem syc_51 : CoOk GG MM syt_51 := chk_okF (cs := [syt_47, syt_46, syt_48, syt_49, syt_50]) (F := 4000) (cs_c syc_47 <| cs_c syc_46 <| cs_c syc_48 <| cs_c syc_49 <| cs_c syc_50 cs_n) (by decide +kernel) (by decide +kernel)
/-- M.take -/
def syt_52 : CO := (nat_lit 283, nat_lit 1, [ee_0], [sv_19], [], [], [(some sv_1, [ee_0, ee_13], [(nat_lit 180, nat_lit 2, sv_6)], [(nat_lit 1, nat_lit 0, nat_lit 0)])], [(nat_lit 180, nat_lit 2, nat_lit 2)], [], [], [])
set_option maxRecDepth 100000 in
theorem syc_52 : CoOk GG MM syt_52 := chk_okF (cs := []) (F := 4000) (fun _ h => absurd h List.not_mem_nil) (by decide +kernel) (by decide +kernel)
/-- M.isLetter -/
def syt_53 : CO := (nat_lit 220, nat_lit 1, [ee_0, ee_17], [sv_1], [], [(nat_lit 1, nat_lit 0, nat_lit 0)], [(some sv_24, [ee_0, ee_19], [], []), (some sv_6, [ee_0, ee_17], [], [])], [], [], [], [])
set_option maxRecDepth 100000 in
theorem syc_53 : CoOk GG MM syt_53 := chk_okF (cs := []) (F := 4000) (fun _ h => absurd h List.not_mem_nil) (by decide +kernel) (by decide +kernel)
/-- M.isDigit -/
def syt_54 : CO := (nat_lit 215, nat_lit 1, [ee_0, ee_17], [sv_1], [], [(nat_lit 1, nat_lit 0, nat_lit 0)], [(some sv_24, [ee_0, ee_20], [], []), (some sv_6, [ee_0, ee_17], [], [])], [], [], [], [])
set_option maxRecDepth 100000 in
theorem syc_54 : CoOk GG MM syt_54 := chk_okF (cs := []) (F := 4000) (fun _ h => absurd h List.not_mem_nil) (by decide +kernel) (by decide +kernel)
/-- M.tapeAt -/
def syt_55 : CO := (nat_lit 285, nat_lit 1, [ee_0, ee_36, ee_2], [sv_19, sv_1], [(nat_lit 180, nat_lit 3, sv_4)], [(nat_lit 1, nat_lit 1, nat_lit 0), (nat_lit 2, nat_lit 180, nat_lit 3)], [(some sv_9, [ee_0, ee_36, ee_2, ee_17], [(nat_lit 180, nat_lit 3, sv_4)], [(nat_lit 1, nat_lit 0, nat_lit 0)]), (some sv_6, [ee_0, ee_37, ee_37], [(nat_lit 180, nat_lit 3, sv_4)], [])], [], [], [], [])
set_option maxRecDepth 100000 in
theorem syc_55 : CoOk GG MM syt_55 := chk_okF (cs := []) (F := 4000) (fun _ h => absurd h List.not_mem_nil) (by decide +kernel) (by decide +kernel)
/-- M.tapeAt -/
def syt_56 : CO := (nat_lit 285, nat_lit 1, [ee_0, ee_37, ee_37], [sv_19, sv_1], [(nat_lit 180, nat_lit 3, sv_4)], [(nat_lit 1, nat_lit 1, nat_lit 0), (nat_lit 2, nat_lit 180, nat_lit 3)], [(some sv_9, [ee_0, ee_38, ee_39, ee_17], [(nat_lit 180, nat_lit 3, sv_4)], [(nat_lit 1, nat_lit 0, nat_lit 0)]), (some sv_6, [ee_0, ee_37, ee_37], [(nat_lit 180, nat_lit 3, sv_4)], [])], [], [], [], [])
set_option maxRecDepth 100000 in
theorem syc_56 : CoOk GG MM syt_56 := chk_okF (cs := []) (F := 4000) (fun _ h => absurd h List.not_mem_nil) (by decide +kernel) (by decide +kernel)
/-- M.tapeAt -/
def syt_57 : CO := (nat_lit 285, nat_lit 1, [ee_0, ee_40, ee_2], [sv_19, sv_1], [(nat_lit 180, nat_lit 3, sv_4)], [(nat_lit 1, nat_lit 1, nat_lit 0), (nat_lit 2, nat_lit 180, nat_lit 3)], [(some sv_9, [ee_0, ee_40, ee_3, ee_17], [(nat_lit 180, nat_lit 3, sv_4)], [(nat_lit 1, nat_lit 0, nat_lit 0)]), (some sv_6, [ee_0, ee_40, ee_40], [(nat_lit 180, nat_lit 3, sv_4)], [])], [], [], [], [])
set_option maxRecDepth 100000 in
theorem syc_57 : CoOk GG MM syt_57 := chk_okF (cs := []) (F := 4000) (fun _ h => absurd h List.not_mem_nil) (by decide +kernel) (by decide +kernel)
/-- M.tapeAt -/
def syt_58 : CO := (nat_lit 285, nat_lit 1, [ee_0, ee_40, ee_40], [sv_19, sv_1], [(nat_lit 180, nat_lit 3, sv_4)], [(nat_lit 1, nat_lit 1, nat_lit 0), (nat_lit 2, nat_lit 180, nat_lit 3)], [(some sv_9, [ee_0, ee_37, ee_41, ee_17], [(nat_lit 180, nat_lit 3, sv_4)], [(nat_lit 1, nat_lit 0, nat_lit 0)]), (some sv_6, [ee_0, ee_40, ee_40], [(nat_lit 180, nat_lit 3, sv_4)], [])], [], [], [], [])
set_option maxRecDepth 100000 in
theorem syc_58 : CoOk GG MM syt_58 := chk_okF (cs := []) (F := 4000) (fun _ h => absurd h List.not_mem_nil) (by decide +kernel) (by decide +kernel)
/-- M.tapeAt -/
def syt_59 : CO := (nat_lit 285, nat_lit 1, [ee_0, ee_40, ee_3], [sv_19, sv_1], [(nat_lit 180, nat_lit 3, sv_4)], [(nat_lit 1, nat_lit 1, nat_lit 0), (nat_lit 2, nat_lit 180, nat_lit 3)], [(some sv_9, [ee_0, ee_40, ee_3, ee_17], [(nat_lit 180, nat_lit 3, sv_4)], [(nat_lit 1, nat_lit 0, nat_lit 0)]), (some sv_6, [ee_0, ee_41, ee_41], [(nat_lit 180, nat_lit 3, sv_4)], [])], [], [], [], [])
set_option maxRecDepth 100000 in
theorem syc_59 : CoOk GG MM syt_59 := chk_okF (cs := []) (F := 4000) (fun _ h => absurd h List.not_mem_nil) (by decide +kernel) (by decide +kernel)
/-- M.tapeAt -/
def syt_60 : CO := (nat_lit 285, nat_lit 1, [ee_0, ee_42, ee_3], [sv_19, sv_1], [(nat_lit 180, nat_lit 3, sv_4)], [(nat_lit 1, nat_lit 1, nat_lit 0), (nat_lit 2, nat_lit 180, nat_lit 3)], [(some sv_9, [ee_0, ee_42, ee_4, ee_17], [(nat_lit 180, nat_lit 3, sv_4)], [(nat_lit 1, nat_lit 0, nat_lit 0)]), (some sv_6, [ee_0, ee_42, ee_42], [(nat_lit 180, nat_lit 3, sv_4)], [])], [], [], [], [])
set_option maxRecDepth 100000 in
theorem syc_60 : CoOk GG MM syt_60 := chk_okF (cs := []) (F := 4000) (fun _ h => absurd h List.not_mem_nil) (by decide +kernel) (by decide +kernel)
/-- M.tapeAt -/
def syt_61 : CO := (nat_lit 285, nat_lit 1, [ee_0, ee_42, ee_42], [sv_19, sv_1], [(nat_lit 180, nat_lit 3, sv_4)], [(nat_lit 1, nat_lit 1, nat_lit 0), (nat_lit 2, nat_lit 180, nat_lit 3)], [(some sv_9, [ee_0, ee_43, ee_44, ee_17], [(nat_lit 180, nat_lit 3, sv_4)], [(nat_lit 1, nat_lit 0, nat_lit 0)]), (some sv_6, [ee_0, ee_42, ee_42], [(nat_lit 180, nat_lit 3, sv_4)], [])], [], [], [], [])
set_option maxRecDepth 100000 in
theorem syc_61 : CoOk GG MM syt_61 := chk_okF (cs := []) (F := 4000) (fun _ h => absurd h List.not_mem_nil) (by decide +kernel) (by decide +kernel)
/-- M.tapeAt -/
def syt_62 : CO := (nat_lit 285, nat_lit 1, [ee_0, ee_42, ee_4], [sv_19, sv_1], [(nat_lit 180, nat_lit 3, sv_4)], [(nat_lit 1, nat_lit 1, nat_lit 0), (nat_lit 2, nat_lit 180, nat_lit 3)], [(some sv_9, [ee_0, ee_42, ee_4, ee_17], [(nat_lit 180, nat_lit 3, sv_4)], [(nat_lit 1, nat_lit 0, nat_lit 0)]), (some sv_6, [ee_0, ee_44, ee_44], [(nat_lit 180, nat_lit 3, sv_4)], [])], [], [], [], [])
set_option maxRecDepth 100000 in
theorem syc_62 : CoOk GG MM syt_62 := chk_okF (cs := []) (F := 4000) (fun _ h => absurd h List.not_mem_nil) (by decide +kernel) (by decide +kernel)
/-- M.tapeAt -/
def syt_63 : CO := (nat_lit 285, nat_lit 1, [ee_0, ee_4, ee_4], [sv_19, sv_1], [(nat_lit 180, nat_lit 3, sv_4)], [(nat_lit 1, nat_lit 1, nat_lit 0), (nat_lit 2, nat_lit 180, nat_lit 3)], [(some sv_9, [ee_0, ee_44, ee_5, ee_17], [(nat_lit 180, nat_lit 3, sv_4)], [(nat_lit 1, nat_lit 0, nat_lit 0)]), (some sv_6, [ee_0, ee_4, ee_4], [(nat_lit 180, nat_lit 3, sv_4)], [])], [], [], [], [])
set_option maxRecDepth 100000 in
theorem syc_63 : CoOk GG MM syt_63 := chk_okF (cs := []) (F := 4000) (fun _ h => absurd h List.not_mem_nil) (by decide +kernel) (by decide +kernel)
/-- M.tapeAt -/
def syt_64 : CO := (nat_lit 285, nat_lit 1, [ee_0, ee_44, ee_5], [sv_19, sv_1], [(nat_lit 180, nat_lit 3, sv_4)], [(nat_lit 1, nat_lit 1, nat_lit 0), (nat_lit 2, nat_lit 180, nat_lit 3)], [(some sv_9, [ee_0, ee_44, ee_5, ee_17], [(nat_lit 180, nat_lit 3, sv_4)], [(nat_lit 1, nat_lit 0, nat_lit 0)]), (some sv_6, [ee_0, ee_45, ee_45], [(nat_lit 180, nat_lit 3, sv_4)], [])], [], [], [], [])
set_option maxRecDepth 100000 in
theorem syc_64 : CoOk GG MM syt_64 := chk_okF (cs := []) (F := 4000) (fun _ h => absurd h List.not_mem_nil) (by decide +kernel) (by decide +kernel)
/-- M.tapeAt -/
def syt_65 : CO := (nat_lit 285, nat_lit 1, [ee_0, ee_5, ee_5], [sv_19, sv_1], [(nat_lit 180, nat_lit 3, sv_4)], [(nat_lit 1, nat_lit 1, nat_lit 0), (nat_lit 2, nat_lit 180, nat_lit 3)], [(some sv_9, [ee_0, ee_45, ee_46, ee_17], [(nat_lit 180, nat_lit 3, sv_4)], [(nat_lit 1, nat_lit 0, nat_lit 0)]), (some sv_6, [ee_0, ee_5, ee_5], [(nat_lit 180, nat_lit 3, sv_4)], [])], [], [], [], [])
set_option maxRecDepth 100000 in
theorem syc_65 : CoOk GG MM syt_65 := chk_okF (cs := []) (F := 4000) (fun _ h => absurd h List.not_mem_nil) (by decide +kernel) (by decide +kernel)
/-- M.tapeAt -/
def syt_66 : CO := (nat_lit 285, nat_lit 1, [ee_0, ee_45, ee_46], [sv_19, sv_1], [(nat_lit 180, nat_lit 3, sv_4)], [(nat_lit 1, nat_lit 1, nat_lit 0), (nat_lit 2, nat_lit 180, nat_lit 3)], [(some sv_9, [ee_0, ee_45, ee_46, ee_17], [(nat_lit 180, nat_lit 3, sv_4)], [(nat_lit 1, nat_lit 0, nat_lit 0)]), (some sv_6, [ee_0, ee_47, ee_47], [(nat_lit 180, nat_lit 3, sv_4)], [])], [], [], [], [])
set_option maxRecDepth 100000 in
theorem syc_66 : CoOk GG MM syt_66 := chk_okF (cs := []) (F := 4000) (fun _ h => absurd h List.not_mem_nil) (by decide +kernel) (by decide +kernel)
/-- M.tapeAt -/
def syt_67 : CO := (nat_lit 285, nat_lit 1, [ee_0, ee_46, ee_46], [sv_19, sv_1], [(nat_lit 180, nat_lit 3, sv_4)], [(nat_lit 1, nat_lit 1, nat_lit 0), (nat_lit 2, nat_lit 180, nat_lit 3)], [(some sv_9, [ee_0, ee_47, ee_48, ee_17], [(nat_lit 180, nat_lit 3, sv_4)], [(nat_lit 1, nat_lit 0, nat_lit 0)]), (some sv_6, [ee_0, ee_46, ee_46], [(nat_lit 180, nat_lit 3, sv_4)], [])], [], [], [], [])
set_option maxRecDepth 100000 in
theorem syc_67 : CoOk GG MM syt_67 := chk_okF (cs := []) (F := 4000) (fun _ h => absurd h List.not_mem_nil) (by decide +kernel) (by decide +kernel)
/-- M.tapeAt -/
def syt_68 : CO := (nat_lit 285, nat_lit 1, [ee_0, ee_47, ee_48], [sv_19, sv_1], [(nat_lit 180, nat_lit 3, sv_4)], [(nat_lit 1, nat_lit 1, nat_lit 0), (nat_lit 2, nat_lit 180, nat_lit 3)], [(some sv_9, [ee_0, ee_47, ee_48, ee_17], [(nat_lit 180, nat_lit 3, sv_4)], [(nat_lit 1, nat_lit 0, nat_lit 0)]), (some sv_6, [ee_0, ee_49, ee_49], [(nat_lit 180, nat_lit 3, sv_4)], [])], [], [], [], [])
set_option maxRecDepth 100000 in
theorem syc_68 : CoOk GG MM syt_68 := chk_okF (cs := []) (F := 4000) (fun _ h => absurd h List.not_mem_nil) (by decide +kernel) (by decide +kernel)
/-- M.tapeAt -/
def syt_69 : CO := (nat_lit 285, nat_lit 1, [ee_0, ee_48, ee_48], [sv_19, sv_1], [(nat_lit 180, nat_lit 3, sv_4)], [(nat_lit 1, nat_lit 1, nat_lit 0), (nat_lit 2, nat_lit 180, nat_lit 3)], [(some sv_9, [ee_0, ee_49, ee_50, ee_17], [(nat_lit 180, nat_lit 3, sv_4)], [(nat_lit 1, nat_lit 0, nat_lit 0)]), (some sv_6, [ee_0, ee_48, ee_48], [(nat_lit 180, nat_lit 3, sv_4)], [])], [], [], [], [])
set_option maxRecDepth 100000 in
theorem syc_69 : CoOk GG MM syt_69 := chk_okF (cs := []) (F := 4000) (fun _ h => absurd h List.not_mem_nil) (by decide +kernel) (by decide +kernel)
/-- M.tapeAt -/
def syt_70 : CO := (nat_lit 285, nat_lit 1, [ee_0, ee_49, ee_50], [sv_19, sv_1], [(nat_lit 180, nat_lit 3, sv_4)], [(nat_lit 1, nat_lit 1, nat_lit 0), (nat_lit 2, nat_lit 180, nat_lit 3)], [(some sv_9, [ee_0, ee_49, ee_50, ee_17], [(nat_lit 180, nat_lit 3, sv_4)], [(nat_lit 1, nat_lit 0, nat_lit 0)]), (some sv_6, [ee_0, ee_51, ee_51], [(nat_lit 180, nat_lit 3, sv_4)], [])], [], [], [], [])
set_option maxRecDepth 100000 in
theorem syc_70 : CoOk GG MM syt_70 := chk_okF (cs := []) (F := 4000) (fun _ h => absurd h List.not_mem_nil) (by decide +kernel) (by decide +kernel)
/-- M.tapeAt -/
def syt_71 : CO := (nat_lit 285, nat_lit 1, [ee_0, ee_50, ee_50], [sv_19, sv_1], [(nat_lit 180, nat_lit 3, sv_4)], [(nat_lit 1, nat_lit 1, nat_lit 0), (nat_lit 2, nat_lit 180, nat_lit 3)], [(some sv_9, [ee_0, ee_51, ee_52, ee_17], [(nat_lit 180, nat_lit 3, sv_4)], [(nat_lit 1, nat_lit 0, nat_lit 0)]), (some sv_6, [ee_0, ee_50, ee_50], [(nat_lit 180, nat_lit 3, sv_4)], [])], [], [], [], [])
set_option maxRecDepth 100000 in
theorem syc_71 : CoOk GG MM syt_71 := chk_okF (cs := []) (F := 4000) (fun _ h => absurd h List.not_mem_nil) (by decide +kernel) (by decide +kernel)
/-- M.tapeAt -/
def syt_72 : CO := (nat_lit 285, nat_lit 1, [ee_0, ee_51, ee_52], [sv_19, sv_1], [(nat_lit 180, nat_lit 3, sv_4)], [(nat_lit 1, nat_lit 1, nat_lit 0), (nat_lit 2, nat_lit 180, nat_lit 3)], [(some sv_9, [ee_0, ee_51, ee_52, ee_17], [(nat_lit 180, nat_lit 3, sv_4)], [(nat_lit 1, nat_lit 0, nat_lit 0)]), (some sv_6, [ee_0, ee_53, ee_53], [(nat_lit 180, nat_lit 3, sv_4)], [])], [], [], [], [])
set_option maxRecDepth 100000 in
theorem syc_72 : CoOk GG MM syt_72 := chk_okF (cs := []) (F := 4000) (fun _ h => absurd h List.not_mem_nil) (by decide +kernel) (by decide +kernel)
/-- M.go -/
def syl_73_0 : List LB := [(nat_lit 0, nat_lit 1, nat_lit 1, ([ee_0, ee_16, ee_54, ee_2], [(nat_lit 0, sv_19)], [], [(nat_lit 180, nat_lit 3, sv_9), (nat_lit 180, nat_lit 5, sv_4)]), [(nat_lit 2, nat_lit 180, nat_lit 5), (nat_lit 2, nat_lit 180, nat_lit 3)], [(nat_lit 0, nat_lit 0), (nat_lit 215, nat_lit 1)])]
def syl_73_1 : List LB := [(nat_lit 215, nat_lit 2, nat_lit 0, ([ee_0, ee_13, ee_55, ee_2, ee_56], [(nat_lit 0, sv_19), (nat_lit 2, sv_4), (nat_lit 3, sv_24)], [], [(nat_lit 180, nat_lit 3, sv_9), (nat_lit 180, nat_lit 5, sv_10), (nat_lit 180, nat_lit 6, sv_10), (nat_lit 180, nat_lit 12, sv_43)]), [(nat_lit 0, nat_lit 2, nat_lit 0), (nat_lit 2, nat_lit 180, nat_lit 3), (nat_lit 2, nat_lit 180, nat_lit 5)], [(nat_lit 215, nat_lit 2)])]
def syl_73_2 : List LB := [(nat_lit 215, nat_lit 3, nat_lit 0, ([ee_0, ee_13, ee_55, ee_55, ee_2, ee_57, ee_58], [(nat_lit 0, sv_19), (nat_lit 2, sv_4), (nat_lit 3, sv_9)], [], [(nat_lit 180, nat_lit 3, sv_10), (nat_lit 180, nat_lit 5, sv_11), (nat_lit 180, nat_lit 6, sv_44), (nat_lit 180, nat_lit 12, sv_45)]), [(nat_lit 0, nat_lit 2, nat_lit 0), (nat_lit 0, nat_lit 3, nat_lit 0), (nat_lit 2, nat_lit 180, nat_lit 3), (nat_lit 2, nat_lit 180, nat_lit 5), (nat_lit 2, nat_lit 180, nat_lit 12)], [(nat_lit 215, nat_lit 3)])]
def syl_73_3 : List LB := [(nat_lit 215, nat_lit 4, nat_lit 0, ([ee_0, ee_13, ee_55, ee_55, ee_3, ee_59, ee_60], [(nat_lit 0, sv_19), (nat_lit 2, sv_4), (nat_lit 3, sv_9)], [], [(nat_lit 180, nat_lit 3, sv_10), (nat_lit 180, nat_lit 5, sv_11), (nat_lit 180, nat_lit 6, sv_46), (nat_lit 180, nat_lit 12, sv_45)]), [(nat_lit 0, nat_lit 2, nat_lit 0), (nat_lit 0, nat_lit 3, nat_lit 0), (nat_lit 2, nat_lit 180, nat_lit 3), (nat_lit 2, nat_lit 180, nat_lit 5), (nat_lit 2, nat_lit 180, nat_lit 12)], [(nat_lit 215, nat_lit 4)])]
def syl_73_4 : List LB := [(nat_lit 215, nat_lit 5, nat_lit 0, ([ee_0, ee_13, ee_55, ee_55, ee_4, ee_61, ee_62], [(nat_lit 0, sv_19), (nat_lit 2, sv_4), (nat_lit 3, sv_9)], [], [(nat_lit 180, nat_lit 3, sv_10), (nat_lit 180, nat_lit 5, sv_11), (nat_lit 180, nat_lit 6, sv_47), (nat_lit 180, nat_lit 12, sv_45)]), [(nat_lit 0, nat_lit 2, nat_lit 0), (nat_lit 0, nat_lit 3, nat_lit 0), (nat_lit 2, nat_lit 180, nat_lit 3), (nat_lit 2, nat_lit 180, nat_lit 5), (nat_lit 2, nat_lit 180, nat_lit 12)], [(nat_lit 215, nat_lit 5)])]
def syl_73_5 : List LB := [(nat_lit 215, nat_lit 6, nat_lit 0, ([ee_0, ee_13, ee_55, ee_55, ee_5, ee_63, ee_64], [(nat_lit 0, sv_19), (nat_lit 2, sv_4), (nat_lit 3, sv_9)], [], [(nat_lit 180, nat_lit 3, sv_10), (nat_lit 180, nat_lit 5, sv_11), (nat_lit 180, nat_lit 6, sv_48), (nat_lit 180, nat_lit 12, sv_45)]), [(nat_lit 0, nat_lit 2, nat_lit 0), (nat_lit 0, nat_lit 3, nat_lit 0), (nat_lit 2, nat_lit 180, nat_lit 3), (nat_lit 2, nat_lit 180, nat_lit 5), (nat_lit 2, nat_lit 180, nat_lit 12)], [(nat_lit 215, nat_lit 6)])]
def syl_73_6 : List LB := [(nat_lit 215, nat_lit 7, nat_lit 0, ([ee_0, ee_13, ee_55, ee_55, ee_46, ee_65, ee_66], [(nat_lit 0, sv_19), (nat_lit 2, sv_4), (nat_lit 3, sv_9)], [], [(nat_lit 180, nat_lit 3, sv_10), (nat_lit 180, nat_lit 5, sv_11), (nat_lit 180, nat_lit 6, sv_49), (nat_lit 180, nat_lit 12, sv_45)]), [(nat_lit 0, nat_lit 2, nat_lit 0), (nat_lit 0, nat_lit 3, nat_lit 0), (nat_lit 2, nat_lit 180, nat_lit 3), (nat_lit 2, nat_lit 180, nat_lit 5), (nat_lit 2, nat_lit 180, nat_lit 12)], [(nat_lit 215, nat_lit 7)])]
def syl_73_7 : List LB := [(nat_lit 215, nat_lit 8, nat_lit 0, ([ee_0, ee_13, ee_55, ee_55, ee_48, ee_67, ee_68], [(nat_lit 0, sv_19), (nat_lit 2, sv_4), (nat_lit 3, sv_9)], [], [(nat_lit 180, nat_lit 3, sv_10), (nat_lit 180, nat_lit 5, sv_11), (nat_lit 180, nat_lit 6, sv_50), (nat_lit 180, nat_lit 12, sv_45)]), [(nat_lit 0, nat_lit 2, nat_lit 0), (nat_lit 0, nat_lit 3, nat_lit 0), (nat_lit 2, nat_lit 180, nat_lit 3), (nat_lit 2, nat_lit 180, nat_lit 5), (nat_lit 2, nat_lit 180, nat_lit 12)], [(nat_lit 215, nat_lit 8)])]
def syl_73_8 : List LB := [(nat_lit 215, nat_lit 9, nat_lit 1, ([ee_0, ee_13, ee_69, ee_55, ee_55, ee_50, ee_70, ee_71], [(nat_lit 0, sv_19), (nat_lit 2, sv_9), (nat_lit 3, sv_10)], [], [(nat_lit 180, nat_lit 3, sv_11), (nat_lit 180, nat_lit 5, sv_4), (nat_lit 180, nat_lit 6, sv_17), (nat_lit 180, nat_lit 12, sv_51)]), [(nat_lit 2, nat_lit 180, nat_lit 5), (nat_lit 0, nat_lit 2, nat_lit 0), (nat_lit 0, nat_lit 3, nat_lit 0), (nat_lit 2, nat_lit 180, nat_lit 3), (nat_lit 2, nat_lit 180, nat_lit 6), (nat_lit 2, nat_lit 180, nat_lit 12)], [(nat_lit 215, nat_lit 8)])]
def syt_73 : CO := (nat_lit 205, nat_lit 2, [ee_0, ee_13], [sv_19], [(nat_lit 180, nat_lit 5, sv_1)], [(nat_lit 2, nat_lit 180, nat_lit 5)], [(none, [ee_0, ee_13, ee_13, ee_72, ee_13, ee_55], [(nat_lit 180, nat_lit 3, sv_4), (nat_lit 180, nat_lit 5, sv_9), (nat_lit 180, nat_lit 6, sv_10), (nat_lit 180, nat_lit 7, sv_11)], [(nat_lit 2, nat_lit 180, nat_lit 3), (nat_lit 2, nat_lit 180, nat_lit 5), (nat_lit 2, nat_lit 180, nat_lit 6), (nat_lit 2, nat_lit 180, nat_lit 7)]), (none, [ee_0, ee_16, ee_2, ee_57], [(nat_lit 180, nat_lit 3, sv_4), (nat_lit 180, nat_lit 5, sv_9), (nat_lit 180, nat_lit 6, sv_52), (nat_lit 180, nat_lit 7, sv_38)], [(nat_lit 2, nat_lit 180, nat_lit 3), (nat_lit 2, nat_lit 180, nat_lit 5)]), (none, [ee_0, ee_13, ee_2, ee_72, ee_16, ee_73, ee_74], [(nat_lit 180, nat_lit 3, sv_4), (nat_lit 180, nat_lit 5, sv_9), (nat_lit 180, nat_lit 6, sv_10), (nat_lit 180, nat_lit 7, sv_11), (nat_lit 180, nat_lit 12, sv_45)], [(nat_lit 2, nat_lit 180, nat_lit 3), (nat_lit 2, nat_lit 180, nat_lit 5), (nat_lit 2, nat_lit 180, nat_lit 6), (nat_lit 2, nat_lit 180, nat_lit 7), (nat_lit 2, nat_lit 180, nat_lit 12)])], [(nat_lit 180, nat_lit 5, nat_lit 9), (nat_lit 180, nat_lit 12, nat_lit 12)], (syl_73_0 ++ (syl_73_1 ++ (syl_73_2 ++ (syl_73_3 ++ (syl_73_4 ++ (syl_73_5 ++ (syl_73_6 ++ (syl_73_7 ++ (syl_73_8))))))))), [], [(nat_lit 0, nat_lit 0), (nat_lit 215, nat_lit 1)])
set_option maxRecDepth 100000 in
theorem syp_73_0 : runL_f GG [syt_54, syt_53, syt_56, syt_58, syt_59, syt_55, syt_57, syt_72, syt_70, syt_71, syt_68, syt_69, syt_66, syt_67, syt_64, syt_65, syt_61, syt_62, syt_63, syt_60] syt_73 4000 0 syl_73_0 = true := by decide +kernel
set_option maxRecDepth 100000 in
theorem syp_73_1 : runL_f GG [syt_54, syt_53, syt_56, syt_58, syt_59, syt_55, syt_57, syt_72, syt_70, syt_71, syt_68, syt_69, syt_66, syt_67, syt_64, syt_65, syt_61, syt_62, syt_63, syt_60] syt_73 4000 1 syl_73_1 = true := by decide +kernel
set_option maxRecDepth 100000 in
theorem syp_73_2 : runL_f GG [syt_54, syt_53, syt_56, syt_58, syt_59, syt_55, syt_57, syt_72, syt_70, syt_71, syt_68, syt_69, syt_66, syt_67, syt_64, syt_65, syt_61, syt_62, syt_63, syt_60] syt_73 4000 2 syl_73_2 = true := by decide +kernel
set_option maxRecDepth 100000 in
theorem syp_73_3 : runL_f GG [syt_54, syt_53, syt_56, syt_58, syt_59, syt_55, syt_57, syt_72, syt_70, syt_71, syt_68, syt_69, syt_66, syt_67, syt_64, syt_65, syt_61, syt_62, syt_63, syt_60] syt_73 4000 3 syl_73_3 = true := by decide +kernel
set_option maxRecDepth 100000 in
theorem syp_73_4 : runL_f GG [syt_54, syt_53, syt_56, syt_58, syt_59, syt_55, syt_57, syt_72, syt_70, syt_71, syt_68, syt_69, syt_66, syt_67, syt_64, syt_65, syt_61, syt_62, syt_63, syt_60] syt_73 4000 4 syl_73_4 = true := by decide +kernel
set_option maxRecDepth 100000 in
theorem syp_73_5 : runL_f GG [syt_54, syt_53, syt_56, syt_58, syt_59, syt_55, syt_57, syt_72, syt_70, syt_71, syt_68, syt_69, syt_66, syt_67, syt_64, syt_65, syt_61, syt_62, syt_63, syt_60] syt_73 4000 5 syl_73_5 = true := by decide +kernel
set_option maxRecDepth 100000 in
theorem syp_73_6 : runL_f GG [syt_54, syt_53, syt_56, syt_58, syt_59, syt_55, syt_57, syt_72, syt_70, syt_71, syt_68, syt_69, syt_66, syt_67, syt_64, syt_65, syt_61, syt_62, syt_63, syt_60] syt_73 4000 6 syl_73_6 = true := by decide +kernel
set_option maxRecDepth 100000 in
theorem syp_73_7 : runL_f GG [syt_54, syt_53, syt_56, syt_58, syt_59, syt_55, syt_57, syt_72, syt_70, syt_71, syt_68, syt_69, syt_66, syt_67, syt_64, syt_65, syt_61, syt_62, syt_63, syt_60] syt_73 4000 7 syl_73_7 = true := by decide +kernel
set_option maxRecDepth 100000 in
theorem syp_73_8 : runL_f GG [syt_54, syt_53, syt_56, syt_58, syt_59, syt_55, syt_57, syt_72, syt_70, syt_71, syt_68, syt_69, syt_66, syt_67, syt_64, syt_65, syt_61, syt_62, syt_63, syt_60] syt_73 4000 8 syl_73_8 = true := by decide +kernel
set_option maxRecDepth 100000 in
theorem syc_73 : CoOk GG MM syt_73 := chk_okP (cs := [syt_54, syt_53, syt_56, syt_58, syt_59, syt_55, syt_57, syt_72, syt_70, syt_71, syt_68, syt_69, syt_66, syt_67, syt_64, syt_65, syt_61, syt_62, syt_63, syt_60]) (F := 4000) (cs_c syc_54 <| cs_c syc_53 <| cs_c syc_56 <| cs_c syc_58 <| cs_c syc_59 <| cs_c syc_55 <| cs_c syc_57 <| cs_c syc_72 <| cs_c syc_70 <| cs_c syc_71 <| cs_c syc_68 <| cs_c syc_69 <| cs_c syc_66 <| cs_c syc_67 <| cs_c syc_64 <| cs_c syc_65 <| cs_c syc_61 <| cs_c syc_62 <| cs_c syc_63 <| cs_c syc_60 cs_n) (by decide +kernel) (runL_app (runL_q syp_73_0) (runL_app (runL_q syp_73_1) (runL_app (runL_q syp_73_2) (runL_app (runL_q syp_73_3) (runL_app (runL_q syp_73_4) (runL_app (runL_q syp_73_5) (runL_app (runL_q syp_73_6) (runL_app (runL_q syp_73_7) ((runL_q syp_73_8))))))))))
end
section
/-! ===== contracts, inferred and printed by my program, checked here ===== -/
/-- M.begin -/
def syt_74 : CO := (nat_lit 176, nat_lit 3, [ee_0], [sv_19, sv_30], [], [], [(none, [ee_0, ee_13, ee_13, ee_75], [(nat_lit 180, nat_lit 2, sv_6), (nat_lit 180, nat_lit 3, sv_1), (nat_lit 180, nat_lit 5, sv_4), (nat_lit 180, nat_lit 7, sv_9)], [(nat_lit 2, nat_lit 180, nat_lit 3), (nat_lit 2, nat_lit 180, nat_lit 5), (nat_lit 2, nat_lit 180, nat_lit 7)]), (none, [ee_0, ee_2, ee_40], [(nat_lit 180, nat_lit 2, sv_6), (nat_lit 180, nat_lit 3, sv_1), (nat_lit 180, nat_lit 5, sv_4), (nat_lit 180, nat_lit 7, sv_38)], [(nat_lit 2, nat_lit 180, nat_lit 3), (nat_lit 2, nat_lit 180, nat_lit 5)])], [(nat_lit 180, nat_lit 0, nat_lit 0), (nat_lit 180, nat_lit 2, nat_lit 10), (nat_lit 180, nat_lit 12, nat_lit 12)], [], [], [])
set_option maxRecDepth 100000 in
theorem syc_74 : CoOk GG MM syt_74 := chk_okF (cs := [syt_73, syt_52]) (F := 4000) (cs_c syc_73 <| cs_c syc_52 cs_n) (by decide +kernel) (by decide +kernel)
/-- M.spelt -/
def syt_75 : CO := (nat_lit 279, nat_lit 1, [ee_0], [sv_53, sv_54, sv_55, sv_56, sv_57, sv_58], [], [], [(some sv_26, [ee_0, ee_76], [], [(nat_lit 1, nat_lit 0, nat_lit 0)])], [], [], [], [])
set_option maxRecDepth 100000 in
theorem syc_75 : CoOk GG MM syt_75 := chk_okF (cs := []) (F := 4000) (fun _ h => absurd h List.not_mem_nil) (by decide +kernel) (by decide +kernel)
/-- M.wordOf -/
def syt_76 : CO := (nat_lit 293, nat_lit 2, [ee_0], [sv_6], [], [], [(some sv_26, [ee_0, ee_76], [], [(nat_lit 1, nat_lit 0, nat_lit 0)])], [], [], [], [])
set_option maxRecDepth 100000 in
theorem syc_76 : CoOk GG MM syt_76 := chk_okF (cs := [syt_75]) (F := 4000) (cs_c syc_75 cs_n) (by decide +kernel) (by decide +kernel)
/-- M.isWord -/
def syt_77 : CO := (nat_lit 227, nat_lit 3, [ee_0, ee_13, ee_77], [sv_19, sv_6], [(nat_lit 180, nat_lit 5, sv_1), (nat_lit 180, nat_lit 7, sv_4)], [(nat_lit 2, nat_lit 180, nat_lit 5), (nat_lit 2, nat_lit 180, nat_lit 7)], [(some sv_6, [ee_0, ee_13, ee_77], [(nat_lit 180, nat_lit 5, sv_1), (nat_lit 180, nat_lit 7, sv_4)], []), (some sv_24, [ee_0, ee_13, ee_78], [(nat_lit 180, nat_lit 5, sv_1), (nat_lit 180, nat_lit 7, sv_4)], [])], [], [], [], [])
set_option maxRecDepth 100000 in
theorem syc_77 : CoOk GG MM syt_77 := chk_okF (cs := [syt_76]) (F := 4000) (cs_c syc_76 cs_n) (by decide +kernel) (by decide +kernel)
/-- M.bad -/
def syt_78 : CO := (nat_lit 174, nat_lit 1, [ee_0, ee_13, ee_78], [sv_19, sv_38], [(nat_lit 180, nat_lit 5, sv_1), (nat_lit 180, nat_lit 7, sv_4)], [(nat_lit 2, nat_lit 180, nat_lit 5), (nat_lit 2, nat_lit 180, nat_lit 7)], [(some sv_6, [ee_0, ee_13, ee_78], [(nat_lit 180, nat_lit 5, sv_1), (nat_lit 180, nat_lit 7, sv_4)], [])], [(nat_lit 180, nat_lit 10, nat_lit 11)], [], [], [])
set_option maxRecDepth 100000 in
theorem syc_78 : CoOk GG MM syt_78 := chk_okF (cs := []) (F := 4000) (fun _ h => absurd h List.not_mem_nil) (by decide +kernel) (by decide +kernel)
/-- M.readFirst -/
def syt_79 : CO := (nat_lit 252, nat_lit 3, [ee_0, ee_13, ee_78], [sv_19, sv_6, sv_59], [(nat_lit 180, nat_lit 5, sv_1), (nat_lit 180, nat_lit 7, sv_4)], [(nat_lit 2, nat_lit 180, nat_lit 5), (nat_lit 2, nat_lit 180, nat_lit 7)], [(some sv_6, [ee_0, ee_13, ee_78, ee_79], [(nat_lit 180, nat_lit 5, sv_1), (nat_lit 180, nat_lit 7, sv_4), (nat_lit 183, nat_lit 0, sv_9)], [(nat_lit 2, nat_lit 183, nat_lit 0)]), (some sv_24, [ee_0, ee_13, ee_78, ee_72, ee_80, ee_27], [(nat_lit 180, nat_lit 5, sv_9), (nat_lit 180, nat_lit 7, sv_10), (nat_lit 183, nat_lit 0, sv_11)], [(nat_lit 2, nat_lit 180, nat_lit 5), (nat_lit 2, nat_lit 180, nat_lit 7), (nat_lit 2, nat_lit 183, nat_lit 0)])], [(nat_lit 180, nat_lit 5, nat_lit 12)], [], [], [])
set_option maxRecDepth 100000 in
theorem syc_79 : CoOk GG MM syt_79 := chk_okF (cs := [syt_78, syt_73]) (F := 4000) (cs_c syc_78 <| cs_c syc_73 cs_n) (by decide +kernel) (by decide +kernel)
/-- M.spelt -/
def syt_80 : CO := (nat_lit 279, nat_lit 1, [ee_0], [sv_60, sv_54, sv_54, sv_60, sv_6, sv_6], [], [], [(some sv_26, [ee_0, ee_81], [], [(nat_lit 1, nat_lit 0, nat_lit 0)])], [], [], [], [])
set_option maxRecDepth 100000 in
theorem syc_80 : CoOk GG MM syt_80 := chk_okF (cs := []) (F := 4000) (fun _ h => absurd h List.not_mem_nil) (by decide +kernel) (by decide +kernel)
/-- M.wordOf -/
def syt_81 : CO := (nat_lit 293, nat_lit 2, [ee_0], [sv_24], [], [], [(some sv_26, [ee_0, ee_81], [], [(nat_lit 1, nat_lit 0, nat_lit 0)])], [], [], [], [])
set_option maxRecDepth 100000 in
theorem syc_81 : CoOk GG MM syt_81 := chk_okF (cs := [syt_80]) (F := 4000) (cs_c syc_80 cs_n) (by decide +kernel) (by decide +kernel)
/-- M.spelt -/
def syt_82 : CO := (nat_lit 279, nat_lit 1, [ee_0], [sv_61, sv_57, sv_62, sv_63, sv_6, sv_6], [], [], [(some sv_26, [ee_0, ee_82], [], [(nat_lit 1, nat_lit 0, nat_lit 0)])], [], [], [], [])
set_option maxRecDepth 100000 in
theorem syc_82 : CoOk GG MM syt_82 := chk_okF (cs := []) (F := 4000) (fun _ h => absurd h List.not_mem_nil) (by decide +kernel) (by decide +kernel)
/-- M.wordOf -/
def syt_83 : CO := (nat_lit 293, nat_lit 2, [ee_0], [sv_32], [], [], [(some sv_26, [ee_0, ee_82], [], [(nat_lit 1, nat_lit 0, nat_lit 0)])], [], [], [], [])
set_option maxRecDepth 100000 in
theorem syc_83 : CoOk GG MM syt_83 := chk_okF (cs := [syt_82]) (F := 4000) (cs_c syc_82 cs_n) (by decide +kernel) (by decide +kernel)
/-- M.spelt -/
def syt_84 : CO := (nat_lit 279, nat_lit 1, [ee_0], [sv_56, sv_54, sv_54, sv_56, sv_6, sv_6], [], [], [(some sv_26, [ee_0, ee_83], [], [(nat_lit 1, nat_lit 0, nat_lit 0)])], [], [], [], [])
set_option maxRecDepth 100000 in
theorem syc_84 : CoOk GG MM syt_84 := chk_okF (cs := []) (F := 4000) (fun _ h => absurd h List.not_mem_nil) (by decide +kernel) (by decide +kernel)
/-- M.wordOf -/
def syt_85 : CO := (nat_lit 293, nat_lit 2, [ee_0], [sv_31], [], [], [(some sv_26, [ee_0, ee_83], [], [(nat_lit 1, nat_lit 0, nat_lit 0)])], [], [], [], [])
set_option maxRecDepth 100000 in
theorem syc_85 : CoOk GG MM syt_85 := chk_okF (cs := [syt_84]) (F := 4000) (cs_c syc_84 cs_n) (by decide +kernel) (by decide +kernel)
/-- M.spelt -/
def syt_86 : CO := (nat_lit 279, nat_lit 1, [ee_0], [sv_64, sv_57, sv_58, sv_60, sv_6, sv_6], [], [], [(some sv_26, [ee_0, ee_84], [], [(nat_lit 1, nat_lit 0, nat_lit 0)])], [], [], [], [])
set_option maxRecDepth 100000 in
theorem syc_86 : CoOk GG MM syt_86 := chk_okF (cs := []) (F := 4000) (fun _ h => absurd h List.not_mem_nil) (by decide +kernel) (by decide +kernel)
/-- M.wordOf -/
def syt_87 : CO := (nat_lit 293, nat_lit 2, [ee_0], [sv_38], [], [], [(some sv_26, [ee_0, ee_84], [], [(nat_lit 1, nat_lit 0, nat_lit 0)])], [], [], [], [])
set_option maxRecDepth 100000 in
theorem syc_87 : CoOk GG MM syt_87 := chk_okF (cs := [syt_86]) (F := 4000) (cs_c syc_86 cs_n) (by decide +kernel) (by decide +kernel)
/-- M.spelt -/
def syt_88 : CO := (nat_lit 279, nat_lit 1, [ee_0], [sv_65, sv_66, sv_67, sv_6, sv_6, sv_6], [], [], [(some sv_26, [ee_0, ee_85], [], [(nat_lit 1, nat_lit 0, nat_lit 0)])], [], [], [], [])
set_option maxRecDepth 100000 in
theorem syc_88 : CoOk GG MM syt_88 := chk_okF (cs := []) (F := 4000) (fun _ h => absurd h List.not_mem_nil) (by decide +kernel) (by decide +kernel)
/-- M.wordOf -/
def syt_89 : CO := (nat_lit 293, nat_lit 2, [ee_0], [sv_68], [], [], [(some sv_26, [ee_0, ee_85], [], [(nat_lit 1, nat_lit 0, nat_lit 0)])], [], [], [], [])
set_option maxRecDepth 100000 in
theorem syc_89 : CoOk GG MM syt_89 := chk_okF (cs := [syt_88]) (F := 4000) (cs_c syc_88 cs_n) (by decide +kernel) (by decide +kernel)
/-- M.spelt -/
def syt_90 : CO := (nat_lit 279, nat_lit 1, [ee_0], [sv_69, sv_54, sv_65, sv_65, sv_6, sv_6], [], [], [(some sv_26, [ee_0, ee_86], [], [(nat_lit 1, nat_lit 0, nat_lit 0)])], [], [], [], [])
set_option maxRecDepth 100000 in
theorem syc_90 : CoOk GG MM syt_90 := chk_okF (cs := []) (F := 4000) (fun _ h => absurd h List.not_mem_nil) (by decide +kernel) (by decide +kernel)
/-- M.wordOf -/
def syt_91 : CO := (nat_lit 293, nat_lit 2, [ee_0], [sv_70], [], [], [(some sv_26, [ee_0, ee_86], [], [(nat_lit 1, nat_lit 0, nat_lit 0)])], [], [], [], [])
set_option maxRecDepth 100000 in
theorem syc_91 : CoOk GG MM syt_91 := chk_okF (cs := [syt_90]) (F := 4000) (cs_c syc_90 cs_n) (by decide +kernel) (by decide +kernel)
/-- M.spelt -/
def syt_92 : CO := (nat_lit 279, nat_lit 1, [ee_0], [sv_71, sv_60, sv_54, sv_66, sv_56, sv_6], [], [], [(some sv_26, [ee_0, ee_87], [], [(nat_lit 1, nat_lit 0, nat_lit 0)])], [], [], [], [])
set_option maxRecDepth 100000 in
theorem syc_92 : CoOk GG MM syt_92 := chk_okF (cs := []) (F := 4000) (fun _ h => absurd h List.not_mem_nil) (by decide +kernel) (by decide +kernel)
/-- M.wordOf -/
def syt_93 : CO := (nat_lit 293, nat_lit 2, [ee_0], [sv_59], [], [], [(some sv_26, [ee_0, ee_87], [], [(nat_lit 1, nat_lit 0, nat_lit 0)])], [], [], [], [])
set_option maxRecDepth 100000 in
theorem syc_93 : CoOk GG MM syt_93 := chk_okF (cs := [syt_92]) (F := 4000) (cs_c syc_92 cs_n) (by decide +kernel) (by decide +kernel)
/-- M.spelt -/
def syt_94 : CO := (nat_lit 279, nat_lit 1, [ee_0], [sv_60, sv_57, sv_54, sv_56, sv_6, sv_6], [], [], [(some sv_26, [ee_0, ee_88], [], [(nat_lit 1, nat_lit 0, nat_lit 0)])], [], [], [], [])
set_option maxRecDepth 100000 in
theorem syc_94 : CoOk GG MM syt_94 := chk_okF (cs := []) (F := 4000) (fun _ h => absurd h List.not_mem_nil) (by decide +kernel) (by decide +kernel)
/-- M.wordOf -/
def syt_95 : CO := (nat_lit 293, nat_lit 2, [ee_0], [sv_5], [], [], [(some sv_26, [ee_0, ee_88], [], [(nat_lit 1, nat_lit 0, nat_lit 0)])], [], [], [], [])
set_option maxRecDepth 100000 in
theorem syc_95 : CoOk GG MM syt_95 := chk_okF (cs := [syt_94]) (F := 4000) (cs_c syc_94 cs_n) (by decide +kernel) (by decide +kernel)
/-- M.spelt -/
def syt_96 : CO := (nat_lit 279, nat_lit 1, [ee_0], [sv_67, sv_54, sv_60, sv_56, sv_6, sv_6], [], [], [(some sv_26, [ee_0, ee_89], [], [(nat_lit 1, nat_lit 0, nat_lit 0)])], [], [], [], [])
set_option maxRecDepth 100000 in
theorem syc_96 : CoOk GG MM syt_96 := chk_okF (cs := []) (F := 4000) (fun _ h => absurd h List.not_mem_nil) (by decide +kernel) (by decide +kernel)
/-- M.wordOf -/
def syt_97 : CO := (nat_lit 293, nat_lit 2, [ee_0], [sv_37], [], [], [(some sv_26, [ee_0, ee_89], [], [(nat_lit 1, nat_lit 0, nat_lit 0)])], [], [], [], [])
set_option maxRecDepth 100000 in
theorem syc_97 : CoOk GG MM syt_97 := chk_okF (cs := [syt_96]) (F := 4000) (cs_c syc_96 cs_n) (by decide +kernel) (by decide +kernel)
/-- M.spelt -/
def syt_98 : CO := (nat_lit 279, nat_lit 1, [ee_0], [sv_53, sv_66, sv_55, sv_62, sv_56, sv_6], [], [], [(some sv_26, [ee_0, ee_90], [], [(nat_lit 1, nat_lit 0, nat_lit 0)])], [], [], [], [])
set_option maxRecDepth 100000 in
theorem syc_98 : CoOk GG MM syt_98 := chk_okF (cs := []) (F := 4000) (fun _ h => absurd h List.not_mem_nil) (by decide +kernel) (by decide +kernel)
/-- M.wordOf -/
def syt_99 : CO := (nat_lit 293, nat_lit 2, [ee_0], [sv_72], [], [], [(some sv_26, [ee_0, ee_90], [], [(nat_lit 1, nat_lit 0, nat_lit 0)])], [], [], [], [])
set_option maxRecDepth 100000 in
theorem syc_99 : CoOk GG MM syt_99 := chk_okF (cs := [syt_98]) (F := 4000) (cs_c syc_98 cs_n) (by decide +kernel) (by decide +kernel)
/-- M.spelt -/
def syt_100 : CO := (nat_lit 279, nat_lit 1, [ee_0], [sv_73, sv_65, sv_57, sv_74, sv_54, sv_56], [], [], [(some sv_26, [ee_0, ee_91], [], [(nat_lit 1, nat_lit 0, nat_lit 0)])], [], [], [], [])
set_option maxRecDepth 100000 in
theorem syc_100 : CoOk GG MM syt_100 := chk_okF (cs := []) (F := 4000) (fun _ h => absurd h List.not_mem_nil) (by decide +kernel) (by decide +kernel)
/-- M.wordOf -/
def syt_101 : CO := (nat_lit 293, nat_lit 2, [ee_0], [sv_75], [], [], [(some sv_26, [ee_0, ee_91], [], [(nat_lit 1, nat_lit 0, nat_lit 0)])], [], [], [], [])
set_option maxRecDepth 100000 in
theorem syc_101 : CoOk GG MM syt_101 := chk_okF (cs := [syt_100]) (F := 4000) (cs_c syc_100 cs_n) (by decide +kernel) (by decide +kernel)
/-- M.spelt -/
def syt_102 : CO := (nat_lit 279, nat_lit 1, [ee_0], [sv_61, sv_66, sv_55, sv_54, sv_56, sv_6], [], [], [(some sv_26, [ee_0, ee_92], [], [(nat_lit 1, nat_lit 0, nat_lit 0)])], [], [], [], [])
set_option maxRecDepth 100000 in
theorem syc_102 : CoOk GG MM syt_102 := chk_okF (cs := []) (F := 4000) (fun _ h => absurd h List.not_mem_nil) (by decide +kernel) (by decide +kernel)
/-- M.wordOf -/
def syt_103 : CO := (nat_lit 293, nat_lit 2, [ee_0], [sv_76], [], [], [(some sv_26, [ee_0, ee_92], [], [(nat_lit 1, nat_lit 0, nat_lit 0)])], [], [], [], [])
set_option maxRecDepth 100000 in
theorem syc_103 : CoOk GG MM syt_103 := chk_okF (cs := [syt_102]) (F := 4000) (cs_c syc_102 cs_n) (by decide +kernel) (by decide +kernel)
/-- M.spelt -/
def syt_104 : CO := (nat_lit 279, nat_lit 1, [ee_0], [sv_55, sv_71, sv_73, sv_63, sv_62, sv_6], [], [], [(some sv_26, [ee_0, ee_93], [], [(nat_lit 1, nat_lit 0, nat_lit 0)])], [], [], [], [])
set_option maxRecDepth 100000 in
theorem syc_104 : CoOk GG MM syt_104 := chk_okF (cs := []) (F := 4000) (fun _ h => absurd h List.not_mem_nil) (by decide +kernel) (by decide +kernel)
/-- M.wordOf -/
def syt_105 : CO := (nat_lit 293, nat_lit 2, [ee_0], [sv_77], [], [], [(some sv_26, [ee_0, ee_93], [], [(nat_lit 1, nat_lit 0, nat_lit 0)])], [], [], [], [])
set_option maxRecDepth 100000 in
theorem syc_105 : CoOk GG MM syt_105 := chk_okF (cs := [syt_104]) (F := 4000) (cs_c syc_104 cs_n) (by decide +kernel) (by decide +kernel)
/-- M.spelt -/
def syt_106 : CO := (nat_lit 279, nat_lit 1, [ee_0], [sv_65, sv_54, sv_64, sv_62, sv_6, sv_6], [], [], [(some sv_26, [ee_0, ee_94], [], [(nat_lit 1, nat_lit 0, nat_lit 0)])], [], [], [], [])
set_option maxRecDepth 100000 in
theorem syc_106 : CoOk GG MM syt_106 := chk_okF (cs := []) (F := 4000) (fun _ h => absurd h List.not_mem_nil) (by decide +kernel) (by decide +kernel)
/-- M.wordOf -/
def syt_107 : CO := (nat_lit 293, nat_lit 2, [ee_0], [sv_78], [], [], [(some sv_26, [ee_0, ee_94], [], [(nat_lit 1, nat_lit 0, nat_lit 0)])], [], [], [], [])
set_option maxRecDepth 100000 in
theorem syc_107 : CoOk GG MM syt_107 := chk_okF (cs := [syt_106]) (F := 4000) (cs_c syc_106 cs_n) (by decide +kernel) (by decide +kernel)
/-- M.spelt -/
def syt_108 : CO := (nat_lit 279, nat_lit 1, [ee_0], [sv_62, sv_67, sv_57, sv_6, sv_6, sv_6], [], [], [(some sv_26, [ee_0, ee_95], [], [(nat_lit 1, nat_lit 0, nat_lit 0)])], [], [], [], [])
set_option maxRecDepth 100000 in
theorem syc_108 : CoOk GG MM syt_108 := chk_okF (cs := []) (F := 4000) (fun _ h => absurd h List.not_mem_nil) (by decide +kernel) (by decide +kernel)
/-- M.wordOf -/
def syt_109 : CO := (nat_lit 293, nat_lit 2, [ee_0], [sv_79], [], [], [(some sv_26, [ee_0, ee_95], [], [(nat_lit 1, nat_lit 0, nat_lit 0)])], [], [], [], [])
set_option maxRecDepth 100000 in
theorem syc_109 : CoOk GG MM syt_109 := chk_okF (cs := [syt_108]) (F := 4000) (cs_c syc_108 cs_n) (by decide +kernel) (by decide +kernel)
/-- M.spelt -/
def syt_110 : CO := (nat_lit 279, nat_lit 1, [ee_0], [sv_60, sv_66, sv_80, sv_6, sv_6, sv_6], [], [], [(some sv_26, [ee_0, ee_96], [], [(nat_lit 1, nat_lit 0, nat_lit 0)])], [], [], [], [])
set_option maxRecDepth 100000 in
theorem syc_110 : CoOk GG MM syt_110 := chk_okF (cs := []) (F := 4000) (fun _ h => absurd h List.not_mem_nil) (by decide +kernel) (by decide +kernel)
/-- M.wordOf -/
def syt_111 : CO := (nat_lit 293, nat_lit 2, [ee_0], [sv_3], [], [], [(some sv_26, [ee_0, ee_96], [], [(nat_lit 1, nat_lit 0, nat_lit 0)])], [], [], [], [])
set_option maxRecDepth 100000 in
theorem syc_111 : CoOk GG MM syt_111 := chk_okF (cs := [syt_110]) (F := 4000) (cs_c syc_110 cs_n) (by decide +kernel) (by decide +kernel)
/-- M.spelt -/
def syt_112 : CO := (nat_lit 279, nat_lit 1, [ee_0], [sv_57, sv_55, sv_6, sv_6, sv_6, sv_6], [], [], [(some sv_26, [ee_0, ee_97], [], [(nat_lit 1, nat_lit 0, nat_lit 0)])], [], [], [], [])
set_option maxRecDepth 100000 in
theorem syc_112 : CoOk GG MM syt_112 := chk_okF (cs := []) (F := 4000) (fun _ h => absurd h List.not_mem_nil) (by decide +kernel) (by decide +kernel)
/-- M.wordOf -/
def syt_113 : CO := (nat_lit 293, nat_lit 2, [ee_0], [sv_81], [], [], [(some sv_26, [ee_0, ee_97], [], [(nat_lit 1, nat_lit 0, nat_lit 0)])], [], [], [], [])
set_option maxRecDepth 100000 in
theorem syc_113 : CoOk GG MM syt_113 := chk_okF (cs := [syt_112]) (F := 4000) (cs_c syc_112 cs_n) (by decide +kernel) (by decide +kernel)
/-- M.spelt -/
def syt_114 : CO := (nat_lit 279, nat_lit 1, [ee_0], [sv_66, sv_58, sv_60, sv_6, sv_6, sv_6], [], [], [(some sv_26, [ee_0, ee_98], [], [(nat_lit 1, nat_lit 0, nat_lit 0)])], [], [], [], [])
set_option maxRecDepth 100000 in
theorem syc_114 : CoOk GG MM syt_114 := chk_okF (cs := []) (F := 4000) (fun _ h => absurd h List.not_mem_nil) (by decide +kernel) (by decide +kernel)
/-- M.wordOf -/
def syt_115 : CO := (nat_lit 293, nat_lit 2, [ee_0], [sv_40], [], [], [(some sv_26, [ee_0, ee_98], [], [(nat_lit 1, nat_lit 0, nat_lit 0)])], [], [], [], [])
set_option maxRecDepth 100000 in
theorem syc_115 : CoOk GG MM syt_115 := chk_okF (cs := [syt_114]) (F := 4000) (cs_c syc_114 cs_n) (by decide +kernel) (by decide +kernel)
/-- M.spelt -/
def syt_116 : CO := (nat_lit 279, nat_lit 1, [ee_0], [sv_58, sv_57, sv_62, sv_6, sv_6, sv_6], [], [], [(some sv_26, [ee_0, ee_99], [], [(nat_lit 1, nat_lit 0, nat_lit 0)])], [], [], [], [])
set_option maxRecDepth 100000 in
theorem syc_116 : CoOk GG MM syt_116 := chk_okF (cs := []) (F := 4000) (fun _ h => absurd h List.not_mem_nil) (by decide +kernel) (by decide +kernel)
/-- M.wordOf -/
def syt_117 : CO := (nat_lit 293, nat_lit 2, [ee_0], [sv_82], [], [], [(some sv_26, [ee_0, ee_99], [], [(nat_lit 1, nat_lit 0, nat_lit 0)])], [], [], [], [])
set_option maxRecDepth 100000 in
theorem syc_117 : CoOk GG MM syt_117 := chk_okF (cs := [syt_116]) (F := 4000) (cs_c syc_116 cs_n) (by decide +kernel) (by decide +kernel)
/-- M.spelt -/
def syt_118 : CO := (nat_lit 279, nat_lit 1, [ee_0], [sv_83, sv_66, sv_71, sv_65, sv_54, sv_60], [], [], [(some sv_26, [ee_0, ee_100], [], [(nat_lit 1, nat_lit 0, nat_lit 0)])], [], [], [], [])
set_option maxRecDepth 100000 in
theorem syc_118 : CoOk GG MM syt_118 := chk_okF (cs := []) (F := 4000) (fun _ h => absurd h List.not_mem_nil) (by decide +kernel) (by decide +kernel)
/-- M.wordOf -/
def syt_119 : CO := (nat_lit 293, nat_lit 2, [ee_0], [sv_84], [], [], [(some sv_26, [ee_0, ee_100], [], [(nat_lit 1, nat_lit 0, nat_lit 0)])], [], [], [], [])
set_option maxRecDepth 100000 in
theorem syc_119 : CoOk GG MM syt_119 := chk_okF (cs := [syt_118]) (F := 4000) (cs_c syc_118 cs_n) (by decide +kernel) (by decide +kernel)
/-- M.spelt -/
def syt_120 : CO := (nat_lit 279, nat_lit 1, [ee_0], [sv_73, sv_65, sv_57, sv_74, sv_54, sv_60], [], [], [(some sv_26, [ee_0, ee_101], [], [(nat_lit 1, nat_lit 0, nat_lit 0)])], [], [], [], [])
set_option maxRecDepth 100000 in
theorem syc_120 : CoOk GG MM syt_120 := chk_okF (cs := []) (F := 4000) (fun _ h => absurd h List.not_mem_nil) (by decide +kernel) (by decide +kernel)
/-- M.wordOf -/
def syt_121 : CO := (nat_lit 293, nat_lit 2, [ee_0], [sv_85], [], [], [(some sv_26, [ee_0, ee_101], [], [(nat_lit 1, nat_lit 0, nat_lit 0)])], [], [], [], [])
set_option maxRecDepth 100000 in
theorem syc_121 : CoOk GG MM syt_121 := chk_okF (cs := [syt_120]) (F := 4000) (cs_c syc_120 cs_n) (by decide +kernel) (by decide +kernel)
/-- M.spelt -/
def syt_122 : CO := (nat_lit 279, nat_lit 1, [ee_0], [sv_67, sv_54, sv_60, sv_6, sv_6, sv_6], [], [], [(some sv_26, [ee_0, ee_102], [], [(nat_lit 1, nat_lit 0, nat_lit 0)])], [], [], [], [])
set_option maxRecDepth 100000 in
theorem syc_122 : CoOk GG MM syt_122 := chk_okF (cs := []) (F := 4000) (fun _ h => absurd h List.not_mem_nil) (by decide +kernel) (by decide +kernel)
/-- M.wordOf -/
def syt_123 : CO := (nat_lit 293, nat_lit 2, [ee_0], [sv_86], [], [], [(some sv_26, [ee_0, ee_102], [], [(nat_lit 1, nat_lit 0, nat_lit 0)])], [], [], [], [])
set_option maxRecDepth 100000 in
theorem syc_123 : CoOk GG MM syt_123 := chk_okF (cs := [syt_122]) (F := 4000) (cs_c syc_122 cs_n) (by decide +kernel) (by decide +kernel)
/-- M.spelt -/
def syt_124 : CO := (nat_lit 279, nat_lit 1, [ee_0], [sv_61, sv_87, sv_56, sv_80, sv_6, sv_6], [], [], [(some sv_26, [ee_0, ee_103], [], [(nat_lit 1, nat_lit 0, nat_lit 0)])], [], [], [], [])
set_option maxRecDepth 100000 in
theorem syc_124 : CoOk GG MM syt_124 := chk_okF (cs := []) (F := 4000) (fun _ h => absurd h List.not_mem_nil) (by decide +kernel) (by decide +kernel)
/-- M.wordOf -/
def syt_125 : CO := (nat_lit 293, nat_lit 2, [ee_0], [sv_88], [], [], [(some sv_26, [ee_0, ee_103], [], [(nat_lit 1, nat_lit 0, nat_lit 0)])], [], [], [], [])
set_option maxRecDepth 100000 in
theorem syc_125 : CoOk GG MM syt_125 := chk_okF (cs := [syt_124]) (F := 4000) (cs_c syc_124 cs_n) (by decide +kernel) (by decide +kernel)
/-- M.spelt -/
def syt_126 : CO := (nat_lit 279, nat_lit 1, [ee_0], [sv_56, sv_54, sv_54, sv_58, sv_6, sv_6], [], [], [(some sv_26, [ee_0, ee_104], [], [(nat_lit 1, nat_lit 0, nat_lit 0)])], [], [], [], [])
set_option maxRecDepth 100000 in
theorem syc_126 : CoOk GG MM syt_126 := chk_okF (cs := []) (F := 4000) (fun _ h => absurd h List.not_mem_nil) (by decide +kernel) (by decide +kernel)
/-- M.wordOf -/
def syt_127 : CO := (nat_lit 293, nat_lit 2, [ee_0], [sv_2], [], [], [(some sv_26, [ee_0, ee_104], [], [(nat_lit 1, nat_lit 0, nat_lit 0)])], [], [], [], [])
set_option maxRecDepth 100000 in
theorem syc_127 : CoOk GG MM syt_127 := chk_okF (cs := [syt_126]) (F := 4000) (cs_c syc_126 cs_n) (by decide +kernel) (by decide +kernel)
/-- M.spelt -/
def syt_128 : CO := (nat_lit 279, nat_lit 1, [ee_0], [sv_62, sv_57, sv_6, sv_6, sv_6, sv_6], [], [], [(some sv_26, [ee_0, ee_105], [], [(nat_lit 1, nat_lit 0, nat_lit 0)])], [], [], [], [])
set_option maxRecDepth 100000 in
theorem syc_128 : CoOk GG MM syt_128 := chk_okF (cs := []) (F := 4000) (fun _ h => absurd h List.not_mem_nil) (by decide +kernel) (by decide +kernel)
/-- M.wordOf -/
def syt_129 : CO := (nat_lit 293, nat_lit 2, [ee_0], [sv_89], [], [], [(some sv_26, [ee_0, ee_105], [], [(nat_lit 1, nat_lit 0, nat_lit 0)])], [], [], [], [])
set_option maxRecDepth 100000 in
theorem syc_129 : CoOk GG MM syt_129 := chk_okF (cs := [syt_128]) (F := 4000) (cs_c syc_128 cs_n) (by decide +kernel) (by decide +kernel)
/-- M.spelt -/
def syt_130 : CO := (nat_lit 279, nat_lit 1, [ee_0], [sv_57, sv_67, sv_58, sv_56, sv_6, sv_6], [], [], [(some sv_26, [ee_0, ee_106], [], [(nat_lit 1, nat_lit 0, nat_lit 0)])], [], [], [], [])
set_option maxRecDepth 100000 in
theorem syc_130 : CoOk GG MM syt_130 := chk_okF (cs := []) (F := 4000) (fun _ h => absurd h List.not_mem_nil) (by decide +kernel) (by decide +kernel)
/-- M.wordOf -/
def syt_131 : CO := (nat_lit 293, nat_lit 2, [ee_0], [sv_90], [], [], [(some sv_26, [ee_0, ee_106], [], [(nat_lit 1, nat_lit 0, nat_lit 0)])], [], [], [], [])
set_option maxRecDepth 100000 in
theorem syc_131 : CoOk GG MM syt_131 := chk_okF (cs := [syt_130]) (F := 4000) (cs_c syc_130 cs_n) (by decide +kernel) (by decide +kernel)
/-- M.spelt -/
def syt_132 : CO := (nat_lit 279, nat_lit 1, [ee_0], [sv_61, sv_65, sv_66, sv_91, sv_54, sv_6], [], [], [(some sv_26, [ee_0, ee_107], [], [(nat_lit 1, nat_lit 0, nat_lit 0)])], [], [], [], [])
set_option maxRecDepth 100000 in
theorem syc_132 : CoOk GG MM syt_132 := chk_okF (cs := []) (F := 4000) (fun _ h => absurd h List.not_mem_nil) (by decide +kernel) (by decide +kernel)
/-- M.wordOf -/
def syt_133 : CO := (nat_lit 293, nat_lit 2, [ee_0], [sv_92], [], [], [(some sv_26, [ee_0, ee_107], [], [(nat_lit 1, nat_lit 0, nat_lit 0)])], [], [], [], [])
set_option maxRecDepth 100000 in
theorem syc_133 : CoOk GG MM syt_133 := chk_okF (cs := [syt_132]) (F := 4000) (cs_c syc_132 cs_n) (by decide +kernel) (by decide +kernel)
/-- M.spelt -/
def syt_134 : CO := (nat_lit 279, nat_lit 1, [ee_0], [sv_71, sv_60, sv_54, sv_66, sv_6, sv_6], [], [], [(some sv_26, [ee_0, ee_108], [], [(nat_lit 1, nat_lit 0, nat_lit 0)])], [], [], [], [])
set_option maxRecDepth 100000 in
theorem syc_134 : CoOk GG MM syt_134 := chk_okF (cs := []) (F := 4000) (fun _ h => absurd h List.not_mem_nil) (by decide +kernel) (by decide +kernel)
/-- M.wordOf -/
def syt_135 : CO := (nat_lit 293, nat_lit 2, [ee_0], [sv_93], [], [], [(some sv_26, [ee_0, ee_108], [], [(nat_lit 1, nat_lit 0, nat_lit 0)])], [], [], [], [])
set_option maxRecDepth 100000 in
theorem syc_135 : CoOk GG MM syt_135 := chk_okF (cs := [syt_134]) (F := 4000) (cs_c syc_134 cs_n) (by decide +kernel) (by decide +kernel)
/-- M.spelt -/
def syt_136 : CO := (nat_lit 279, nat_lit 1, [ee_0], [sv_58, sv_87, sv_91, sv_61, sv_54, sv_55], [], [], [(some sv_26, [ee_0, ee_109], [], [(nat_lit 1, nat_lit 0, nat_lit 0)])], [], [], [], [])
set_option maxRecDepth 100000 in
theorem syc_136 : CoOk GG MM syt_136 := chk_okF (cs := []) (F := 4000) (fun _ h => absurd h List.not_mem_nil) (by decide +kernel) (by decide +kernel)
/-- M.wordOf -/
def syt_137 : CO := (nat_lit 293, nat_lit 2, [ee_0], [sv_94], [], [], [(some sv_26, [ee_0, ee_109], [], [(nat_lit 1, nat_lit 0, nat_lit 0)])], [], [], [], [])
set_option maxRecDepth 100000 in
theorem syc_137 : CoOk GG MM syt_137 := chk_okF (cs := [syt_136]) (F := 4000) (cs_c syc_136 cs_n) (by decide +kernel) (by decide +kernel)
/-- M.isName -/
def syt_138 : CO := (nat_lit 221, nat_lit 3, [ee_0, ee_13, ee_80], [sv_19], [(nat_lit 180, nat_lit 5, sv_1), (nat_lit 180, nat_lit 7, sv_4)], [(nat_lit 2, nat_lit 180, nat_lit 5), (nat_lit 2, nat_lit 180, nat_lit 7)], [(some sv_6, [ee_0, ee_13, ee_80], [(nat_lit 180, nat_lit 5, sv_1), (nat_lit 180, nat_lit 7, sv_4)], []), (some sv_24, [ee_0, ee_13, ee_78], [(nat_lit 180, nat_lit 5, sv_1), (nat_lit 180, nat_lit 7, sv_4)], [])], [], [(nat_lit 12, nat_lit 1, nat_lit 0, ([ee_0, ee_13, ee_78], [(nat_lit 0, sv_19), (nat_lit 1, sv_6)], [], [(nat_lit 180, nat_lit 5, sv_1), (nat_lit 180, nat_lit 7, sv_4)]), [], [(nat_lit 12, nat_lit 1)]),
  (nat_lit 12, nat_lit 2, nat_lit 0, ([ee_0, ee_13, ee_78], [(nat_lit 0, sv_19), (nat_lit 1, sv_24)], [], [(nat_lit 180, nat_lit 5, sv_1), (nat_lit 180, nat_lit 7, sv_4)]), [], [(nat_lit 12, nat_lit 2)]),
  (nat_lit 12, nat_lit 3, nat_lit 0, ([ee_0, ee_13, ee_78], [(nat_lit 0, sv_19), (nat_lit 1, sv_32)], [], [(nat_lit 180, nat_lit 5, sv_1), (nat_lit 180, nat_lit 7, sv_4)]), [], [(nat_lit 12, nat_lit 3)]),
  (nat_lit 12, nat_lit 4, nat_lit 0, ([ee_0, ee_13, ee_78], [(nat_lit 0, sv_19), (nat_lit 1, sv_31)], [], [(nat_lit 180, nat_lit 5, sv_1), (nat_lit 180, nat_lit 7, sv_4)]), [], [(nat_lit 12, nat_lit 4)]),
  (nat_lit 12, nat_lit 5, nat_lit 0, ([ee_0, ee_13, ee_78], [(nat_lit 0, sv_19), (nat_lit 1, sv_38)], [], [(nat_lit 180, nat_lit 5, sv_1), (nat_lit 180, nat_lit 7, sv_4)]), [], [(nat_lit 12, nat_lit 5)]),
  (nat_lit 12, nat_lit 6, nat_lit 0, ([ee_0, ee_13, ee_78], [(nat_lit 0, sv_19), (nat_lit 1, sv_68)], [], [(nat_lit 180, nat_lit 5, sv_1), (nat_lit 180, nat_lit 7, sv_4)]), [], [(nat_lit 12, nat_lit 6)]),
  (nat_lit 12, nat_lit 7, nat_lit 0, ([ee_0, ee_13, ee_78], [(nat_lit 0, sv_19), (nat_lit 1, sv_70)], [], [(nat_lit 180, nat_lit 5, sv_1), (nat_lit 180, nat_lit 7, sv_4)]), [], [(nat_lit 12, nat_lit 7)]),
  (nat_lit 12, nat_lit 8, nat_lit 0, ([ee_0, ee_13, ee_78], [(nat_lit 0, sv_19), (nat_lit 1, sv_59)], [], [(nat_lit 180, nat_lit 5, sv_1), (nat_lit 180, nat_lit 7, sv_4)]), [], [(nat_lit 12, nat_lit 8)]),
  (nat_lit 12, nat_lit 9, nat_lit 0, ([ee_0, ee_13, ee_78], [(nat_lit 0, sv_19), (nat_lit 1, sv_5)], [], [(nat_lit 180, nat_lit 5, sv_1), (nat_lit 180, nat_lit 7, sv_4)]), [], [(nat_lit 12, nat_lit 9)]),
  (nat_lit 12, nat_lit 10, nat_lit 0, ([ee_0, ee_13, ee_78], [(nat_lit 0, sv_19), (nat_lit 1, sv_37)], [], [(nat_lit 180, nat_lit 5, sv_1), (nat_lit 180, nat_lit 7, sv_4)]), [], [(nat_lit 12, nat_lit 10)]),
  (nat_lit 12, nat_lit 11, nat_lit 0, ([ee_0, ee_13, ee_78], [(nat_lit 0, sv_19), (nat_lit 1, sv_72)], [], [(nat_lit 180, nat_lit 5, sv_1), (nat_lit 180, nat_lit 7, sv_4)]), [], [(nat_lit 12, nat_lit 11)]),
  (nat_lit 12, nat_lit 12, nat_lit 0, ([ee_0, ee_13, ee_78], [(nat_lit 0, sv_19), (nat_lit 1, sv_75)], [], [(nat_lit 180, nat_lit 5, sv_1), (nat_lit 180, nat_lit 7, sv_4)]), [], [(nat_lit 12, nat_lit 12)]),
  (nat_lit 12, nat_lit 13, nat_lit 0, ([ee_0, ee_13, ee_78], [(nat_lit 0, sv_19), (nat_lit 1, sv_76)], [], [(nat_lit 180, nat_lit 5, sv_1), (nat_lit 180, nat_lit 7, sv_4)]), [], [(nat_lit 12, nat_lit 13)]),
  (nat_lit 12, nat_lit 14, nat_lit 0, ([ee_0, ee_13, ee_78], [(nat_lit 0, sv_19), (nat_lit 1, sv_77)], [], [(nat_lit 180, nat_lit 5, sv_1), (nat_lit 180, nat_lit 7, sv_4)]), [], [(nat_lit 12, nat_lit 14)]),
  (nat_lit 12, nat_lit 15, nat_lit 0, ([ee_0, ee_13, ee_78], [(nat_lit 0, sv_19), (nat_lit 1, sv_78)], [], [(nat_lit 180, nat_lit 5, sv_1), (nat_lit 180, nat_lit 7, sv_4)]), [], [(nat_lit 12, nat_lit 15)]),
  (nat_lit 12, nat_lit 16, nat_lit 0, ([ee_0, ee_13, ee_78], [(nat_lit 0, sv_19), (nat_lit 1, sv_79)], [], [(nat_lit 180, nat_lit 5, sv_1), (nat_lit 180, nat_lit 7, sv_4)]), [], [(nat_lit 12, nat_lit 16)]),
  (nat_lit 12, nat_lit 17, nat_lit 0, ([ee_0, ee_13, ee_78], [(nat_lit 0, sv_19), (nat_lit 1, sv_3)], [], [(nat_lit 180, nat_lit 5, sv_1), (nat_lit 180, nat_lit 7, sv_4)]), [], [(nat_lit 12, nat_lit 17)]),
  (nat_lit 12, nat_lit 18, nat_lit 0, ([ee_0, ee_13, ee_78], [(nat_lit 0, sv_19), (nat_lit 1, sv_81)], [], [(nat_lit 180, nat_lit 5, sv_1), (nat_lit 180, nat_lit 7, sv_4)]), [], [(nat_lit 12, nat_lit 18)]),
  (nat_lit 12, nat_lit 19, nat_lit 0, ([ee_0, ee_13, ee_78], [(nat_lit 0, sv_19), (nat_lit 1, sv_40)], [], [(nat_lit 180, nat_lit 5, sv_1), (nat_lit 180, nat_lit 7, sv_4)]), [], [(nat_lit 12, nat_lit 19)]),
  (nat_lit 12, nat_lit 20, nat_lit 0, ([ee_0, ee_13, ee_78], [(nat_lit 0, sv_19), (nat_lit 1, sv_82)], [], [(nat_lit 180, nat_lit 5, sv_1), (nat_lit 180, nat_lit 7, sv_4)]), [], [(nat_lit 12, nat_lit 20)]),
  (nat_lit 12, nat_lit 21, nat_lit 0, ([ee_0, ee_13, ee_78], [(nat_lit 0, sv_19), (nat_lit 1, sv_84)], [], [(nat_lit 180, nat_lit 5, sv_1), (nat_lit 180, nat_lit 7, sv_4)]), [], [(nat_lit 12, nat_lit 21)]),
  (nat_lit 12, nat_lit 22, nat_lit 0, ([ee_0, ee_13, ee_78], [(nat_lit 0, sv_19), (nat_lit 1, sv_85)], [], [(nat_lit 180, nat_lit 5, sv_1), (nat_lit 180, nat_lit 7, sv_4)]), [], [(nat_lit 12, nat_lit 22)]),
  (nat_lit 12, nat_lit 23, nat_lit 0, ([ee_0, ee_13, ee_78], [(nat_lit 0, sv_19), (nat_lit 1, sv_86)], [], [(nat_lit 180, nat_lit 5, sv_1), (nat_lit 180, nat_lit 7, sv_4)]), [], [(nat_lit 12, nat_lit 23)]),
  (nat_lit 12, nat_lit 24, nat_lit 0, ([ee_0, ee_13, ee_78], [(nat_lit 0, sv_19), (nat_lit 1, sv_88)], [], [(nat_lit 180, nat_lit 5, sv_1), (nat_lit 180, nat_lit 7, sv_4)]), [], [(nat_lit 12, nat_lit 24)]),
  (nat_lit 12, nat_lit 25, nat_lit 0, ([ee_0, ee_13, ee_78], [(nat_lit 0, sv_19), (nat_lit 1, sv_2)], [], [(nat_lit 180, nat_lit 5, sv_1), (nat_lit 180, nat_lit 7, sv_4)]), [], [(nat_lit 12, nat_lit 25)]),
  (nat_lit 12, nat_lit 26, nat_lit 0, ([ee_0, ee_13, ee_78], [(nat_lit 0, sv_19), (nat_lit 1, sv_89)], [], [(nat_lit 180, nat_lit 5, sv_1), (nat_lit 180, nat_lit 7, sv_4)]), [], [(nat_lit 12, nat_lit 26)]),
  (nat_lit 12, nat_lit 27, nat_lit 0, ([ee_0, ee_13, ee_78], [(nat_lit 0, sv_19), (nat_lit 1, sv_90)], [], [(nat_lit 180, nat_lit 5, sv_1), (nat_lit 180, nat_lit 7, sv_4)]), [], [(nat_lit 12, nat_lit 27)]),
  (nat_lit 12, nat_lit 28, nat_lit 0, ([ee_0, ee_13, ee_78], [(nat_lit 0, sv_19), (nat_lit 1, sv_92)], [], [(nat_lit 180, nat_lit 5, sv_1), (nat_lit 180, nat_lit 7, sv_4)]), [], [(nat_lit 12, nat_lit 28)]),
  (nat_lit 12, nat_lit 29, nat_lit 0, ([ee_0, ee_13, ee_78], [(nat_lit 0, sv_19), (nat_lit 1, sv_93)], [], [(nat_lit 180, nat_lit 5, sv_1), (nat_lit 180, nat_lit 7, sv_4)]), [], [(nat_lit 12, nat_lit 29)]),
  (nat_lit 12, nat_lit 30, nat_lit 0, ([ee_0, ee_13, ee_78], [(nat_lit 0, sv_19), (nat_lit 1, sv_94)], [], [(nat_lit 180, nat_lit 5, sv_1), (nat_lit 180, nat_lit 7, sv_4)]), [], [(nat_lit 12, nat_lit 30)]),
  (nat_lit 12, nat_lit 31, nat_lit 0, ([ee_0, ee_13, ee_78], [(nat_lit 0, sv_19), (nat_lit 1, sv_33)], [], [(nat_lit 180, nat_lit 5, sv_1), (nat_lit 180, nat_lit 7, sv_4)]), [], [])], [], [(nat_lit 12, nat_lit 0)])
set_option maxRecDepth 100000 in
theorem syc_138 : CoOk GG MM syt_138 := chk_okF (cs := [syt_76, syt_81, syt_83, syt_85, syt_87, syt_89, syt_91, syt_93, syt_95, syt_97, syt_99, syt_101, syt_103, syt_105, syt_107, syt_109, syt_111, syt_113, syt_115, syt_117, syt_119, syt_121, syt_123, syt_125, syt_127, syt_129, syt_131, syt_133, syt_135, syt_137]) (F := 4000) (cs_c syc_76 <| cs_c syc_81 <| cs_c syc_83 <| cs_c syc_85 <| cs_c syc_87 <| cs_c syc_89 <| cs_c syc_91 <| cs_c syc_93 <| cs_c syc_95 <| cs_c syc_97 <| cs_c syc_99 <| cs_c syc_101 <| cs_c syc_103 <| cs_c syc_105 <| cs_c syc_107 <| cs_c syc_109 <| cs_c syc_111 <| cs_c syc_113 <| cs_c syc_115 <| cs_c syc_117 <| cs_c syc_119 <| cs_c syc_121 <| cs_c syc_123 <| cs_c syc_125 <| cs_c syc_127 <| cs_c syc_129 <| cs_c syc_131 <| cs_c syc_133 <| cs_c syc_135 <| cs_c syc_137 cs_n) (by decide +kernel) (by decide +kernel)
/-- M.findIn -/
def syt_139 : CO := (nat_lit 200, nat_lit 1, [ee_0, ee_27, ee_23], [sv_95, sv_6, sv_1, sv_36], [], [(nat_lit 1, nat_lit 2, nat_lit 0), (nat_lit 1, nat_lit 3, nat_lit 0)], [(some sv_9, [ee_0, ee_110, ee_74, ee_116], [], [(nat_lit 1, nat_lit 0, nat_lit 0)]), (some sv_16, [ee_0, ee_27, ee_23], [], [])], [], [(nat_lit 3, nat_lit 1, nat_lit 0, ([ee_0, ee_27, ee_23], [(nat_lit 0, sv_95), (nat_lit 1, sv_6), (nat_lit 2, sv_1), (nat_lit 3, sv_36), (nat_lit 5, sv_6)], [], []), [], [(nat_lit 3, nat_lit 1)]),
  (nat_lit 3, nat_lit 2, nat_lit 0, ([ee_0, ee_110, ee_23], [(nat_lit 0, sv_95), (nat_lit 1, sv_6), (nat_lit 2, sv_1), (nat_lit 3, sv_36), (nat_lit 5, sv_24)], [], []), [], [(nat_lit 3, nat_lit 2)]),
  (nat_lit 3, nat_lit 3, nat_lit 0, ([ee_0, ee_111, ee_23], [(nat_lit 0, sv_95), (nat_lit 1, sv_6), (nat_lit 2, sv_1), (nat_lit 3, sv_36), (nat_lit 5, sv_32)], [], []), [], [(nat_lit 3, nat_lit 3)]),
  (nat_lit 3, nat_lit 4, nat_lit 0, ([ee_0, ee_112, ee_23], [(nat_lit 0, sv_95), (nat_lit 1, sv_6), (nat_lit 2, sv_1), (nat_lit 3, sv_36), (nat_lit 5, sv_31)], [], []), [], [(nat_lit 3, nat_lit 4)]),
  (nat_lit 3, nat_lit 5, nat_lit 0, ([ee_0, ee_113, ee_23], [(nat_lit 0, sv_95), (nat_lit 1, sv_6), (nat_lit 2, sv_1), (nat_lit 3, sv_36), (nat_lit 5, sv_38)], [], []), [], [(nat_lit 3, nat_lit 5)]),
  (nat_lit 3, nat_lit 6, nat_lit 0, ([ee_0, ee_114, ee_23], [(nat_lit 0, sv_95), (nat_lit 1, sv_6), (nat_lit 2, sv_1), (nat_lit 3, sv_36), (nat_lit 5, sv_68)], [], []), [], [(nat_lit 3, nat_lit 6)]),
  (nat_lit 3, nat_lit 7, nat_lit 0, ([ee_0, ee_115, ee_23], [(nat_lit 0, sv_95), (nat_lit 1, sv_6), (nat_lit 2, sv_1), (nat_lit 3, sv_36), (nat_lit 5, sv_70)], [], []), [], [])], [], [(nat_lit 3, nat_lit 0)])
set_option maxRecDepth 100000 in
theorem syc_139 : CoOk GG MM syt_139 := chk_okF (cs := []) (F := 4000) (fun _ h => absurd h List.not_mem_nil) (by decide +kernel) (by decide +kernel)
/-- M.findIn -/
def syt_140 : CO := (nat_lit 200, nat_lit 1, [ee_0, ee_30, ee_23], [sv_95, sv_59, sv_1, sv_36], [], [(nat_lit 1, nat_lit 2, nat_lit 0), (nat_lit 1, nat_lit 3, nat_lit 0)], [(some sv_9, [ee_0, ee_31, ee_74, ee_14], [], [(nat_lit 1, nat_lit 0, nat_lit 0)]), (some sv_16, [ee_0, ee_30, ee_23], [], [])], [], [(nat_lit 3, nat_lit 1, nat_lit 0, ([ee_0, ee_30, ee_23], [(nat_lit 0, sv_95), (nat_lit 1, sv_59), (nat_lit 2, sv_1), (nat_lit 3, sv_36), (nat_lit 5, sv_6)], [], []), [], [(nat_lit 3, nat_lit 1)]),
  (nat_lit 3, nat_lit 2, nat_lit 0, ([ee_0, ee_31, ee_23], [(nat_lit 0, sv_95), (nat_lit 1, sv_59), (nat_lit 2, sv_1), (nat_lit 3, sv_36), (nat_lit 5, sv_24)], [], []), [], [(nat_lit 3, nat_lit 2)]),
  (nat_lit 3, nat_lit 3, nat_lit 0, ([ee_0, ee_117, ee_23], [(nat_lit 0, sv_95), (nat_lit 1, sv_59), (nat_lit 2, sv_1), (nat_lit 3, sv_36), (nat_lit 5, sv_32)], [], []), [], [(nat_lit 3, nat_lit 3)]),
  (nat_lit 3, nat_lit 4, nat_lit 0, ([ee_0, ee_118, ee_23], [(nat_lit 0, sv_95), (nat_lit 1, sv_59), (nat_lit 2, sv_1), (nat_lit 3, sv_36), (nat_lit 5, sv_31)], [], []), [], [(nat_lit 3, nat_lit 4)]),
  (nat_lit 3, nat_lit 5, nat_lit 0, ([ee_0, ee_119, ee_23], [(nat_lit 0, sv_95), (nat_lit 1, sv_59), (nat_lit 2, sv_1), (nat_lit 3, sv_36), (nat_lit 5, sv_38)], [], []), [], [(nat_lit 3, nat_lit 5)]),
  (nat_lit 3, nat_lit 6, nat_lit 0, ([ee_0, ee_120, ee_23], [(nat_lit 0, sv_95), (nat_lit 1, sv_59), (nat_lit 2, sv_1), (nat_lit 3, sv_36), (nat_lit 5, sv_68)], [], []), [], [(nat_lit 3, nat_lit 6)]),
  (nat_lit 3, nat_lit 7, nat_lit 0, ([ee_0, ee_121, ee_23], [(nat_lit 0, sv_95), (nat_lit 1, sv_59), (nat_lit 2, sv_1), (nat_lit 3, sv_36), (nat_lit 5, sv_70)], [], []), [], [(nat_lit 3, nat_lit 7)]),
  (nat_lit 3, nat_lit 8, nat_lit 0, ([ee_0, ee_122, ee_23], [(nat_lit 0, sv_95), (nat_lit 1, sv_59), (nat_lit 2, sv_1), (nat_lit 3, sv_36), (nat_lit 5, sv_59)], [], []), [], [(nat_lit 3, nat_lit 8)]),
  (nat_lit 3, nat_lit 9, nat_lit 0, ([ee_0, ee_123, ee_23], [(nat_lit 0, sv_95), (nat_lit 1, sv_59), (nat_lit 2, sv_1), (nat_lit 3, sv_36), (nat_lit 5, sv_5)], [], []), [], [])], [], [(nat_lit 3, nat_lit 0)])
set_option maxRecDepth 100000 in
theorem syc_140 : CoOk GG MM syt_140 := chk_okF (cs := []) (F := 4000) (fun _ h => absurd h List.not_mem_nil) (by decide +kernel) (by decide +kernel)
/-- M.bad -/
def syt_141 : CO := (nat_lit 174, nat_lit 1, [ee_0, ee_13, ee_78], [sv_19, sv_31], [(nat_lit 180, nat_lit 5, sv_1), (nat_lit 180, nat_lit 7, sv_4)], [(nat_lit 2, nat_lit 180, nat_lit 5), (nat_lit 2, nat_lit 180, nat_lit 7)], [(some sv_6, [ee_0, ee_13, ee_78], [(nat_lit 180, nat_lit 5, sv_1), (nat_lit 180, nat_lit 7, sv_4)], [])], [(nat_lit 180, nat_lit 10, nat_lit 11)], [], [], [])
set_option maxRecDepth 100000 in
theorem syc_141 : CoOk GG MM syt_141 := chk_okF (cs := []) (F := 4000) (fun _ h => absurd h List.not_mem_nil) (by decide +kernel) (by decide +kernel)
/-- M.bad -/
def syt_142 : CO := (nat_lit 174, nat_lit 1, [ee_0, ee_13, ee_80], [sv_19, sv_24], [(nat_lit 180, nat_lit 5, sv_1), (nat_lit 180, nat_lit 7, sv_4)], [(nat_lit 2, nat_lit 180, nat_lit 5), (nat_lit 2, nat_lit 180, nat_lit 7)], [(some sv_6, [ee_0, ee_13, ee_80], [(nat_lit 180, nat_lit 5, sv_1), (nat_lit 180, nat_lit 7, sv_4)], [])], [(nat_lit 180, nat_lit 10, nat_lit 11)], [], [], [])
set_option maxRecDepth 100000 in
theorem syc_142 : CoOk GG MM syt_142 := chk_okF (cs := []) (F := 4000) (fun _ h => absurd h List.not_mem_nil) (by decide +kernel) (by decide +kernel)
/-- M.readNew -/
def syt_143 : CO := (nat_lit 258, nat_lit 4, [ee_0, ee_27, ee_13, ee_80, ee_27], [sv_19, sv_1], [(nat_lit 180, nat_lit 5, sv_4), (nat_lit 180, nat_lit 7, sv_9), (nat_lit 183, nat_lit 0, sv_10)], [(nat_lit 1, nat_lit 1, nat_lit 0), (nat_lit 2, nat_lit 180, nat_lit 5), (nat_lit 2, nat_lit 180, nat_lit 7), (nat_lit 2, nat_lit 183, nat_lit 0)], [(some sv_24, [ee_0, ee_27, ee_13, ee_78, ee_27, ee_124, ee_75], [(nat_lit 180, nat_lit 5, sv_11), (nat_lit 180, nat_lit 7, sv_17), (nat_lit 183, nat_lit 0, sv_10)], [(nat_lit 2, nat_lit 180, nat_lit 5), (nat_lit 2, nat_lit 180, nat_lit 7)]), (some sv_24, [ee_0, ee_27, ee_16, ee_78, ee_27, ee_2, ee_125], [(nat_lit 180, nat_lit 3, sv_11), (nat_lit 180, nat_lit 5, sv_17), (nat_lit 180, nat_lit 7, sv_38), (nat_lit 183, nat_lit 0, sv_10)], [(nat_lit 2, nat_lit 180, nat_lit 3), (nat_lit 2, nat_lit 180, nat_lit 5)]), (some sv_6, [ee_0, ee_27, ee_13, ee_80, ee_27], [(nat_lit 180, nat_lit 5, sv_4), (nat_lit 180, nat_lit 7, sv_9), (nat_lit 183, nat_lit 0, sv_10)], [])], [(nat_lit 180, nat_lit 5, nat_lit 12), (nat_lit 188, nat_lit 0, nat_lit 6)], [], [], [])
set_option maxRecDepth 100000 in
theorem syc_143 : CoOk GG MM syt_143 := chk_okF (cs := [syt_141, syt_142, syt_139, syt_140, syt_73, syt_138]) (F := 4000) (cs_c syc_141 <| cs_c syc_142 <| cs_c syc_139 <| cs_c syc_140 <| cs_c syc_73 <| cs_c syc_138 cs_n) (by decide +kernel) (by decide +kernel)
/-- M.bad -/
def syt_144 : CO := (nat_lit 174, nat_lit 1, [ee_0, ee_13], [sv_19, sv_24], [(nat_lit 180, nat_lit 5, sv_1), (nat_lit 180, nat_lit 7, sv_38)], [(nat_lit 2, nat_lit 180, nat_lit 5)], [(some sv_6, [ee_0, ee_13], [(nat_lit 180, nat_lit 5, sv_1), (nat_lit 180, nat_lit 7, sv_38)], [])], [(nat_lit 180, nat_lit 10, nat_lit 11)], [], [], [])
set_option maxRecDepth 100000 in
theorem syc_144 : CoOk GG MM syt_144 := chk_okF (cs := []) (F := 4000) (fun _ h => absurd h List.not_mem_nil) (by decide +kernel) (by decide +kernel)
/-- M.readNumber -/
def syt_145 : CO := (nat_lit 260, nat_lit 2, [ee_0, ee_13], [sv_19, sv_24, sv_37], [(nat_lit 180, nat_lit 5, sv_1), (nat_lit 180, nat_lit 7, sv_38)], [(nat_lit 2, nat_lit 180, nat_lit 5)], [(some sv_6, [ee_0, ee_13], [(nat_lit 180, nat_lit 5, sv_1), (nat_lit 180, nat_lit 7, sv_38)], [])], [(nat_lit 180, nat_lit 10, nat_lit 11)], [], [], [])
set_option maxRecDepth 100000 in
theorem syc_145 : CoOk GG MM syt_145 := chk_okF (cs := [syt_144]) (F := 4000) (cs_c syc_144 cs_n) (by decide +kernel) (by decide +kernel)
/-- M.put -/
def syt_146 : CO := (nat_lit 244, nat_lit 1, [ee_0, ee_126], [sv_19, sv_1, sv_6], [], [(nat_lit 1, nat_lit 1, nat_lit 0)], [(some sv_6, [ee_0, ee_126], [], [])], [], [], [], [])
set_option maxRecDepth 100000 in
theorem syc_146 : CoOk GG MM syt_146 := chk_okF (cs := []) (F := 4000) (fun _ h => absurd h List.not_mem_nil) (by decide +kernel) (by decide +kernel)
/-- M.bad -/
def syt_147 : CO := (nat_lit 174, nat_lit 1, [ee_0, ee_13, ee_127], [sv_19, sv_24], [(nat_lit 180, nat_lit 5, sv_1), (nat_lit 180, nat_lit 7, sv_4)], [(nat_lit 2, nat_lit 180, nat_lit 5), (nat_lit 2, nat_lit 180, nat_lit 7)], [(some sv_6, [ee_0, ee_13, ee_127], [(nat_lit 180, nat_lit 5, sv_1), (nat_lit 180, nat_lit 7, sv_4)], [])], [(nat_lit 180, nat_lit 10, nat_lit 11)], [], [], [])
set_option maxRecDepth 100000 in
theorem syc_147 : CoOk GG MM syt_147 := chk_okF (cs := []) (F := 4000) (fun _ h => absurd h List.not_mem_nil) (by decide +kernel) (by decide +kernel)
/-- M.isIn -/
def syt_148 : CO := (nat_lit 218, nat_lit 1, [ee_0, ee_1], [sv_1, sv_24, sv_37], [], [(nat_lit 1, nat_lit 0, nat_lit 0)], [(some sv_24, [ee_0, ee_29], [], []), (some sv_6, [ee_0, ee_1], [], [])], [], [], [], [])
set_option maxRecDepth 100000 in
theorem syc_148 : CoOk GG MM syt_148 := chk_okF (cs := []) (F := 4000) (fun _ h => absurd h List.not_mem_nil) (by decide +kernel) (by decide +kernel)
/-- M.bad -/
def syt_149 : CO := (nat_lit 174, nat_lit 1, [ee_0, ee_13, ee_128], [sv_19, sv_32], [(nat_lit 180, nat_lit 5, sv_1), (nat_lit 180, nat_lit 7, sv_4)], [(nat_lit 2, nat_lit 180, nat_lit 5), (nat_lit 2, nat_lit 180, nat_lit 7)], [(some sv_6, [ee_0, ee_13, ee_128], [(nat_lit 180, nat_lit 5, sv_1), (nat_lit 180, nat_lit 7, sv_4)], [])], [(nat_lit 180, nat_lit 10, nat_lit 11)], [], [], [])
set_option maxRecDepth 100000 in
theorem syc_149 : CoOk GG MM syt_149 := chk_okF (cs := []) (F := 4000) (fun _ h => absurd h List.not_mem_nil) (by decide +kernel) (by decide +kernel)
/-- M.readNumber -/
def syt_150 : CO := (nat_lit 260, nat_lit 3, [ee_0, ee_13, ee_75], [sv_19, sv_24, sv_37], [(nat_lit 180, nat_lit 5, sv_1), (nat_lit 180, nat_lit 7, sv_4)], [(nat_lit 2, nat_lit 180, nat_lit 5), (nat_lit 2, nat_lit 180, nat_lit 7)], [(some sv_6, [ee_0, ee_13, ee_75], [(nat_lit 180, nat_lit 5, sv_1), (nat_lit 180, nat_lit 7, sv_4)], []), (some sv_24, [ee_0, ee_13, ee_128, ee_72, ee_75, ee_29], [(nat_lit 180, nat_lit 5, sv_9), (nat_lit 180, nat_lit 7, sv_10), (nat_lit 180, nat_lit 13, sv_11)], [(nat_lit 2, nat_lit 180, nat_lit 5), (nat_lit 2, nat_lit 180, nat_lit 7), (nat_lit 2, nat_lit 180, nat_lit 13)]), (some sv_24, [ee_0, ee_16, ee_128, ee_2, ee_57, ee_29], [(nat_lit 180, nat_lit 3, sv_9), (nat_lit 180, nat_lit 5, sv_10), (nat_lit 180, nat_lit 7, sv_38), (nat_lit 180, nat_lit 13, sv_11)], [(nat_lit 2, nat_lit 180, nat_lit 3), (nat_lit 2, nat_lit 180, nat_lit 5), (nat_lit 2, nat_lit 180, nat_lit 13)])], [(nat_lit 180, nat_lit 5, nat_lit 13)], [], [], [])
set_option maxRecDepth 100000 in
theorem syc_150 : CoOk GG MM syt_150 := chk_okF (cs := [syt_149, syt_147, syt_73, syt_148]) (F := 4000) (cs_c syc_149 <| cs_c syc_147 <| cs_c syc_73 <| cs_c syc_148 cs_n) (by decide +kernel) (by decide +kernel)
/-- M.put -/
def syt_151 : CO := (nat_lit 244, nat_lit 1, [ee_0, ee_126, ee_29], [sv_19, sv_1, sv_24], [(nat_lit 180, nat_lit 13, sv_4)], [(nat_lit 1, nat_lit 1, nat_lit 0), (nat_lit 2, nat_lit 180, nat_lit 13)], [(some sv_24, [ee_0, ee_126, ee_29], [(nat_lit 180, nat_lit 13, sv_4)], [])], [(nat_lit 183, nat_lit 5, nat_lit 11)], [], [], [])
set_option maxRecDepth 100000 in
theorem syc_151 : CoOk GG MM syt_151 := chk_okF (cs := []) (F := 4000) (fun _ h => absurd h List.not_mem_nil) (by decide +kernel) (by decide +kernel)
/-- M.put -/
def syt_152 : CO := (nat_lit 244, nat_lit 1, [ee_0, ee_129, ee_29], [sv_19, sv_1, sv_6], [(nat_lit 180, nat_lit 13, sv_4)], [(nat_lit 1, nat_lit 1, nat_lit 0), (nat_lit 2, nat_lit 180, nat_lit 13)], [(some sv_6, [ee_0, ee_129, ee_29], [(nat_lit 180, nat_lit 13, sv_4)], [])], [], [], [], [])
set_option maxRecDepth 100000 in
theorem syc_152 : CoOk GG MM syt_152 := chk_okF (cs := []) (F := 4000) (fun _ h => absurd h List.not_mem_nil) (by decide +kernel) (by decide +kernel)
/-- M.put -/
def syt_153 : CO := (nat_lit 244, nat_lit 1, [ee_0, ee_129, ee_29], [sv_19, sv_1, sv_24], [(nat_lit 180, nat_lit 13, sv_4)], [(nat_lit 1, nat_lit 1, nat_lit 0), (nat_lit 2, nat_lit 180, nat_lit 13)], [(some sv_24, [ee_0, ee_129, ee_29], [(nat_lit 180, nat_lit 13, sv_4)], [])], [(nat_lit 183, nat_lit 12, nat_lit 18)], [], [], [])
set_option maxRecDepth 100000 in
theorem syc_153 : CoOk GG MM syt_153 := chk_okF (cs := []) (F := 4000) (fun _ h => absurd h List.not_mem_nil) (by decide +kernel) (by decide +kernel)
/-- M.isWord -/
def syt_154 : CO := (nat_lit 227, nat_lit 1, [ee_0, ee_13], [sv_19, sv_85], [(nat_lit 180, nat_lit 5, sv_1), (nat_lit 180, nat_lit 7, sv_38)], [(nat_lit 2, nat_lit 180, nat_lit 5)], [(some sv_6, [ee_0, ee_13], [(nat_lit 180, nat_lit 5, sv_1), (nat_lit 180, nat_lit 7, sv_38)], [])], [], [], [], [])
set_option maxRecDepth 100000 in
theorem syc_154 : CoOk GG MM syt_154 := chk_okF (cs := []) (F := 4000) (fun _ h => absurd h List.not_mem_nil) (by decide +kernel) (by decide +kernel)
/-- M.readFlag -/
def syt_155 : CO := (nat_lit 253, nat_lit 2, [ee_0, ee_27, ee_13], [sv_19, sv_85, sv_82, sv_1], [(nat_lit 180, nat_lit 5, sv_4), (nat_lit 180, nat_lit 7, sv_38)], [(nat_lit 1, nat_lit 3, nat_lit 0), (nat_lit 2, nat_lit 180, nat_lit 5)], [(none, [ee_0, ee_27, ee_13], [(nat_lit 180, nat_lit 5, sv_4), (nat_lit 180, nat_lit 7, sv_38)], [])], [], [], [], [])
set_option maxRecDepth 100000 in
theorem syc_155 : CoOk GG MM syt_155 := chk_okF (cs := [syt_154]) (F := 4000) (cs_c syc_154 cs_n) (by decide +kernel) (by decide +kernel)
/-- M.isWord -/
def syt_156 : CO := (nat_lit 227, nat_lit 3, [ee_0, ee_13, ee_75], [sv_19, sv_85], [(nat_lit 180, nat_lit 5, sv_1), (nat_lit 180, nat_lit 7, sv_4)], [(nat_lit 2, nat_lit 180, nat_lit 5), (nat_lit 2, nat_lit 180, nat_lit 7)], [(some sv_6, [ee_0, ee_13, ee_75], [(nat_lit 180, nat_lit 5, sv_1), (nat_lit 180, nat_lit 7, sv_4)], []), (some sv_24, [ee_0, ee_13, ee_78], [(nat_lit 180, nat_lit 5, sv_1), (nat_lit 180, nat_lit 7, sv_4)], [])], [], [], [], [])
set_option maxRecDepth 100000 in
theorem syc_156 : CoOk GG MM syt_156 := chk_okF (cs := [syt_121]) (F := 4000) (cs_c syc_121 cs_n) (by decide +kernel) (by decide +kernel)
/-- M.readFlag -/
def syt_157 : CO := (nat_lit 253, nat_lit 4, [ee_0, ee_27, ee_13, ee_75], [sv_19, sv_85, sv_82, sv_1], [(nat_lit 180, nat_lit 5, sv_4), (nat_lit 180, nat_lit 7, sv_9)], [(nat_lit 1, nat_lit 3, nat_lit 0), (nat_lit 2, nat_lit 180, nat_lit 5), (nat_lit 2, nat_lit 180, nat_lit 7)], [(none, [ee_0, ee_27, ee_13, ee_75, ee_124, ee_75], [(nat_lit 180, nat_lit 5, sv_10), (nat_lit 180, nat_lit 7, sv_11)], [(nat_lit 2, nat_lit 180, nat_lit 5), (nat_lit 2, nat_lit 180, nat_lit 7)]), (none, [ee_0, ee_27, ee_16, ee_78, ee_2, ee_125], [(nat_lit 180, nat_lit 3, sv_10), (nat_lit 180, nat_lit 5, sv_11), (nat_lit 180, nat_lit 7, sv_38)], [(nat_lit 2, nat_lit 180, nat_lit 3), (nat_lit 2, nat_lit 180, nat_lit 5)])], [(nat_lit 180, nat_lit 5, nat_lit 9), (nat_lit 180, nat_lit 12, nat_lit 12), (nat_lit 183, nat_lit 19, nat_lit 19)], [], [], [])
set_option maxRecDepth 100000 in
theorem syc_157 : CoOk GG MM syt_157 := chk_okF (cs := [syt_73, syt_156]) (F := 4000) (cs_c syc_73 <| cs_c syc_156 cs_n) (by decide +kernel) (by decide +kernel)
/-- M.put -/
def syt_158 : CO := (nat_lit 244, nat_lit 1, [ee_0, ee_129], [sv_19, sv_1, sv_6], [], [(nat_lit 1, nat_lit 1, nat_lit 0)], [(some sv_6, [ee_0, ee_129], [], [])], [], [], [], [])
set_option maxRecDepth 100000 in
theorem syc_158 : CoOk GG MM syt_158 := chk_okF (cs := []) (F := 4000) (fun _ h => absurd h List.not_mem_nil) (by decide +kernel) (by decide +kernel)
/-- M.readPerson -/
def syt_159 : CO := (nat_lit 265, nat_lit 5, [ee_0, ee_13, ee_78], [sv_19], [(nat_lit 180, nat_lit 5, sv_1), (nat_lit 180, nat_lit 7, sv_4)], [(nat_lit 2, nat_lit 180, nat_lit 5), (nat_lit 2, nat_lit 180, nat_lit 7)], [(some sv_6, [ee_0, ee_13, ee_78, ee_72, ee_80, ee_14], [(nat_lit 180, nat_lit 5, sv_9), (nat_lit 180, nat_lit 7, sv_10), (nat_lit 183, nat_lit 0, sv_11)], [(nat_lit 2, nat_lit 180, nat_lit 5), (nat_lit 2, nat_lit 180, nat_lit 7), (nat_lit 2, nat_lit 183, nat_lit 0)]), (some sv_24, [ee_0, ee_13, ee_78, ee_2, ee_57, ee_29, ee_26], [(nat_lit 180, nat_lit 3, sv_9), (nat_lit 180, nat_lit 5, sv_10), (nat_lit 180, nat_lit 7, sv_38), (nat_lit 180, nat_lit 13, sv_11), (nat_lit 183, nat_lit 0, sv_17)], [(nat_lit 2, nat_lit 180, nat_lit 3), (nat_lit 2, nat_lit 180, nat_lit 5), (nat_lit 2, nat_lit 180, nat_lit 13), (nat_lit 2, nat_lit 183, nat_lit 0)]), (some sv_24, [ee_0, ee_13, ee_78, ee_72, ee_75, ee_29, ee_26], [(nat_lit 180, nat_lit 5, sv_9), (nat_lit 180, nat_lit 7, sv_10), (nat_lit 180, nat_lit 13, sv_11), (nat_lit 183, nat_lit 0, sv_17)], [(nat_lit 2, nat_lit 180, nat_lit 5), (nat_lit 2, nat_lit 180, nat_lit 7), (nat_lit 2, nat_lit 180, nat_lit 13), (nat_lit 2, nat_lit 183, nat_lit 0)])], [(nat_lit 180, nat_lit 5, nat_lit 13), (nat_lit 183, nat_lit 0, nat_lit 0), (nat_lit 183, nat_lit 5, nat_lit 19), (nat_lit 188, nat_lit 0, nat_lit 6)], [], [], [])
set_option maxRecDepth 100000 in
theorem syc_159 : CoOk GG MM syt_159 := chk_okF (cs := [syt_146, syt_158, syt_151, syt_152, syt_153, syt_79, syt_155, syt_157, syt_143, syt_145, syt_150]) (F := 4000) (cs_c syc_146 <| cs_c syc_158 <| cs_c syc_151 <| cs_c syc_152 <| cs_c syc_153 <| cs_c syc_79 <| cs_c syc_155 <| cs_c syc_157 <| cs_c syc_143 <| cs_c syc_145 <| cs_c syc_150 cs_n) (by decide +kernel) (by decide +kernel)
/-- M.isWord -/
def syt_160 : CO := (nat_lit 227, nat_lit 3, [ee_0, ee_13, ee_77], [sv_19, sv_24], [(nat_lit 180, nat_lit 5, sv_1), (nat_lit 180, nat_lit 7, sv_4)], [(nat_lit 2, nat_lit 180, nat_lit 5), (nat_lit 2, nat_lit 180, nat_lit 7)], [(some sv_6, [ee_0, ee_13, ee_77], [(nat_lit 180, nat_lit 5, sv_1), (nat_lit 180, nat_lit 7, sv_4)], []), (some sv_24, [ee_0, ee_13, ee_78], [(nat_lit 180, nat_lit 5, sv_1), (nat_lit 180, nat_lit 7, sv_4)], [])], [], [], [], [])
set_option maxRecDepth 100000 in
theorem syc_160 : CoOk GG MM syt_160 := chk_okF (cs := [syt_81]) (F := 4000) (cs_c syc_81 cs_n) (by decide +kernel) (by decide +kernel)
/-- M.readFirst -/
def syt_161 : CO := (nat_lit 252, nat_lit 3, [ee_0, ee_13, ee_78], [sv_19, sv_24, sv_5], [(nat_lit 180, nat_lit 5, sv_1), (nat_lit 180, nat_lit 7, sv_4)], [(nat_lit 2, nat_lit 180, nat_lit 5), (nat_lit 2, nat_lit 180, nat_lit 7)], [(some sv_6, [ee_0, ee_13, ee_78, ee_123], [(nat_lit 180, nat_lit 5, sv_1), (nat_lit 180, nat_lit 7, sv_4), (nat_lit 183, nat_lit 1, sv_9)], [(nat_lit 2, nat_lit 183, nat_lit 1)]), (some sv_24, [ee_0, ee_13, ee_78, ee_72, ee_80, ee_14], [(nat_lit 180, nat_lit 5, sv_9), (nat_lit 180, nat_lit 7, sv_10), (nat_lit 183, nat_lit 1, sv_11)], [(nat_lit 2, nat_lit 180, nat_lit 5), (nat_lit 2, nat_lit 180, nat_lit 7), (nat_lit 2, nat_lit 183, nat_lit 1)])], [(nat_lit 180, nat_lit 5, nat_lit 12)], [], [], [])
set_option maxRecDepth 100000 in
theorem syc_161 : CoOk GG MM syt_161 := chk_okF (cs := [syt_78, syt_73]) (F := 4000) (cs_c syc_78 <| cs_c syc_73 cs_n) (by decide +kernel) (by decide +kernel)
/-- M.findIn -/
def syt_162 : CO := (nat_lit 200, nat_lit 1, [ee_0, ee_14, ee_23], [sv_95, sv_6, sv_1, sv_36], [], [(nat_lit 1, nat_lit 2, nat_lit 0), (nat_lit 1, nat_lit 3, nat_lit 0)], [(some sv_9, [ee_0, ee_26, ee_74, ee_27], [], [(nat_lit 1, nat_lit 0, nat_lit 0)]), (some sv_16, [ee_0, ee_14, ee_23], [], [])], [], [(nat_lit 3, nat_lit 1, nat_lit 0, ([ee_0, ee_14, ee_23], [(nat_lit 0, sv_95), (nat_lit 1, sv_6), (nat_lit 2, sv_1), (nat_lit 3, sv_36), (nat_lit 5, sv_6)], [], []), [], [(nat_lit 3, nat_lit 1)]),
  (nat_lit 3, nat_lit 2, nat_lit 0, ([ee_0, ee_26, ee_23], [(nat_lit 0, sv_95), (nat_lit 1, sv_6), (nat_lit 2, sv_1), (nat_lit 3, sv_36), (nat_lit 5, sv_24)], [], []), [], [(nat_lit 3, nat_lit 2)]),
  (nat_lit 3, nat_lit 3, nat_lit 0, ([ee_0, ee_130, ee_23], [(nat_lit 0, sv_95), (nat_lit 1, sv_6), (nat_lit 2, sv_1), (nat_lit 3, sv_36), (nat_lit 5, sv_32)], [], []), [], [(nat_lit 3, nat_lit 3)]),
  (nat_lit 3, nat_lit 4, nat_lit 0, ([ee_0, ee_131, ee_23], [(nat_lit 0, sv_95), (nat_lit 1, sv_6), (nat_lit 2, sv_1), (nat_lit 3, sv_36), (nat_lit 5, sv_31)], [], []), [], [(nat_lit 3, nat_lit 4)]),
  (nat_lit 3, nat_lit 5, nat_lit 0, ([ee_0, ee_132, ee_23], [(nat_lit 0, sv_95), (nat_lit 1, sv_6), (nat_lit 2, sv_1), (nat_lit 3, sv_36), (nat_lit 5, sv_38)], [], []), [], [(nat_lit 3, nat_lit 5)]),
  (nat_lit 3, nat_lit 6, nat_lit 0, ([ee_0, ee_133, ee_23], [(nat_lit 0, sv_95), (nat_lit 1, sv_6), (nat_lit 2, sv_1), (nat_lit 3, sv_36), (nat_lit 5, sv_68)], [], []), [], [(nat_lit 3, nat_lit 6)]),
  (nat_lit 3, nat_lit 7, nat_lit 0, ([ee_0, ee_134, ee_23], [(nat_lit 0, sv_95), (nat_lit 1, sv_6), (nat_lit 2, sv_1), (nat_lit 3, sv_36), (nat_lit 5, sv_70)], [], []), [], [(nat_lit 3, nat_lit 7)]),
  (nat_lit 3, nat_lit 8, nat_lit 0, ([ee_0, ee_79, ee_23], [(nat_lit 0, sv_95), (nat_lit 1, sv_6), (nat_lit 2, sv_1), (nat_lit 3, sv_36), (nat_lit 5, sv_59)], [], []), [], [])], [], [(nat_lit 3, nat_lit 0)])
set_option maxRecDepth 100000 in
theorem syc_162 : CoOk GG MM syt_162 := chk_okF (cs := []) (F := 4000) (fun _ h => absurd h List.not_mem_nil) (by decide +kernel) (by decide +kernel)
/-- M.findIn -/
def syt_163 : CO := (nat_lit 200, nat_lit 1, [ee_0, ee_14, ee_23], [sv_95, sv_59, sv_1, sv_36], [], [(nat_lit 1, nat_lit 2, nat_lit 0), (nat_lit 1, nat_lit 3, nat_lit 0)], [(some sv_9, [ee_0, ee_26, ee_74, ee_27], [], [(nat_lit 1, nat_lit 0, nat_lit 0)]), (some sv_16, [ee_0, ee_14, ee_23], [], [])], [], [(nat_lit 3, nat_lit 1, nat_lit 0, ([ee_0, ee_14, ee_23], [(nat_lit 0, sv_95), (nat_lit 1, sv_59), (nat_lit 2, sv_1), (nat_lit 3, sv_36), (nat_lit 5, sv_6)], [], []), [], [(nat_lit 3, nat_lit 1)]),
  (nat_lit 3, nat_lit 2, nat_lit 0, ([ee_0, ee_26, ee_23], [(nat_lit 0, sv_95), (nat_lit 1, sv_59), (nat_lit 2, sv_1), (nat_lit 3, sv_36), (nat_lit 5, sv_24)], [], []), [], [(nat_lit 3, nat_lit 2)]),
  (nat_lit 3, nat_lit 3, nat_lit 0, ([ee_0, ee_130, ee_23], [(nat_lit 0, sv_95), (nat_lit 1, sv_59), (nat_lit 2, sv_1), (nat_lit 3, sv_36), (nat_lit 5, sv_32)], [], []), [], [(nat_lit 3, nat_lit 3)]),
  (nat_lit 3, nat_lit 4, nat_lit 0, ([ee_0, ee_131, ee_23], [(nat_lit 0, sv_95), (nat_lit 1, sv_59), (nat_lit 2, sv_1), (nat_lit 3, sv_36), (nat_lit 5, sv_31)], [], []), [], [(nat_lit 3, nat_lit 4)]),
  (nat_lit 3, nat_lit 5, nat_lit 0, ([ee_0, ee_132, ee_23], [(nat_lit 0, sv_95), (nat_lit 1, sv_59), (nat_lit 2, sv_1), (nat_lit 3, sv_36), (nat_lit 5, sv_38)], [], []), [], [(nat_lit 3, nat_lit 5)]),
  (nat_lit 3, nat_lit 6, nat_lit 0, ([ee_0, ee_133, ee_23], [(nat_lit 0, sv_95), (nat_lit 1, sv_59), (nat_lit 2, sv_1), (nat_lit 3, sv_36), (nat_lit 5, sv_68)], [], []), [], [(nat_lit 3, nat_lit 6)]),
  (nat_lit 3, nat_lit 7, nat_lit 0, ([ee_0, ee_134, ee_23], [(nat_lit 0, sv_95), (nat_lit 1, sv_59), (nat_lit 2, sv_1), (nat_lit 3, sv_36), (nat_lit 5, sv_70)], [], []), [], [(nat_lit 3, nat_lit 7)]),
  (nat_lit 3, nat_lit 8, nat_lit 0, ([ee_0, ee_79, ee_23], [(nat_lit 0, sv_95), (nat_lit 1, sv_59), (nat_lit 2, sv_1), (nat_lit 3, sv_36), (nat_lit 5, sv_59)], [], []), [], [])], [], [(nat_lit 3, nat_lit 0)])
set_option maxRecDepth 100000 in
theorem syc_163 : CoOk GG MM syt_163 := chk_okF (cs := []) (F := 4000) (fun _ h => absurd h List.not_mem_nil) (by decide +kernel) (by decide +kernel)
/-- M.readNew -/
def syt_164 : CO := (nat_lit 258, nat_lit 4, [ee_0, ee_135, ee_13, ee_80, ee_14], [sv_19, sv_1], [(nat_lit 180, nat_lit 5, sv_4), (nat_lit 180, nat_lit 7, sv_9), (nat_lit 183, nat_lit 1, sv_10)], [(nat_lit 1, nat_lit 1, nat_lit 0), (nat_lit 2, nat_lit 180, nat_lit 5), (nat_lit 2, nat_lit 180, nat_lit 7), (nat_lit 2, nat_lit 183, nat_lit 1)], [(some sv_24, [ee_0, ee_135, ee_13, ee_78, ee_14, ee_124, ee_75], [(nat_lit 180, nat_lit 5, sv_11), (nat_lit 180, nat_lit 7, sv_17), (nat_lit 183, nat_lit 1, sv_10)], [(nat_lit 2, nat_lit 180, nat_lit 5), (nat_lit 2, nat_lit 180, nat_lit 7)]), (some sv_24, [ee_0, ee_135, ee_16, ee_78, ee_14, ee_2, ee_125], [(nat_lit 180, nat_lit 3, sv_11), (nat_lit 180, nat_lit 5, sv_17), (nat_lit 180, nat_lit 7, sv_38), (nat_lit 183, nat_lit 1, sv_10)], [(nat_lit 2, nat_lit 180, nat_lit 3), (nat_lit 2, nat_lit 180, nat_lit 5)]), (some sv_6, [ee_0, ee_135, ee_13, ee_80, ee_14], [(nat_lit 180, nat_lit 5, sv_4), (nat_lit 180, nat_lit 7, sv_9), (nat_lit 183, nat_lit 1, sv_10)], [])], [(nat_lit 180, nat_lit 5, nat_lit 12), (nat_lit 188, nat_lit 7, nat_lit 14)], [], [], [])
set_option maxRecDepth 100000 in
theorem syc_164 : CoOk GG MM syt_164 := chk_okF (cs := [syt_141, syt_142, syt_162, syt_163, syt_73, syt_138]) (F := 4000) (cs_c syc_141 <| cs_c syc_142 <| cs_c syc_162 <| cs_c syc_163 <| cs_c syc_73 <| cs_c syc_138 cs_n) (by decide +kernel) (by decide +kernel)
/-- M.readNumber -/
def syt_165 : CO := (nat_lit 260, nat_lit 2, [ee_0, ee_13], [sv_19, sv_24, sv_40], [(nat_lit 180, nat_lit 5, sv_1), (nat_lit 180, nat_lit 7, sv_38)], [(nat_lit 2, nat_lit 180, nat_lit 5)], [(some sv_6, [ee_0, ee_13], [(nat_lit 180, nat_lit 5, sv_1), (nat_lit 180, nat_lit 7, sv_38)], [])], [(nat_lit 180, nat_lit 10, nat_lit 11)], [], [], [])
set_option maxRecDepth 100000 in
theorem syc_165 : CoOk GG MM syt_165 := chk_okF (cs := [syt_144]) (F := 4000) (cs_c syc_144 cs_n) (by decide +kernel) (by decide +kernel)
/-- M.put -/
def syt_166 : CO := (nat_lit 244, nat_lit 1, [ee_0, ee_136], [sv_19, sv_1, sv_6], [], [(nat_lit 1, nat_lit 1, nat_lit 0)], [(some sv_6, [ee_0, ee_136], [], [])], [], [], [], [])
set_option maxRecDepth 100000 in
theorem syc_166 : CoOk GG MM syt_166 := chk_okF (cs := []) (F := 4000) (fun _ h => absurd h List.not_mem_nil) (by decide +kernel) (by decide +kernel)
/-- M.isIn -/
def syt_167 : CO := (nat_lit 218, nat_lit 1, [ee_0, ee_1], [sv_1, sv_24, sv_40], [], [(nat_lit 1, nat_lit 0, nat_lit 0)], [(some sv_24, [ee_0, ee_32], [], []), (some sv_6, [ee_0, ee_1], [], [])], [], [], [], [])
set_option maxRecDepth 100000 in
theorem syc_167 : CoOk GG MM syt_167 := chk_okF (cs := []) (F := 4000) (fun _ h => absurd h List.not_mem_nil) (by decide +kernel) (by decide +kernel)
/-- M.readNumber -/
def syt_168 : CO := (nat_lit 260, nat_lit 3, [ee_0, ee_13, ee_75], [sv_19, sv_24, sv_40], [(nat_lit 180, nat_lit 5, sv_1), (nat_lit 180, nat_lit 7, sv_4)], [(nat_lit 2, nat_lit 180, nat_lit 5), (nat_lit 2, nat_lit 180, nat_lit 7)], [(some sv_6, [ee_0, ee_13, ee_75], [(nat_lit 180, nat_lit 5, sv_1), (nat_lit 180, nat_lit 7, sv_4)], []), (some sv_24, [ee_0, ee_13, ee_128, ee_72, ee_75, ee_32], [(nat_lit 180, nat_lit 5, sv_9), (nat_lit 180, nat_lit 7, sv_10), (nat_lit 180, nat_lit 13, sv_11)], [(nat_lit 2, nat_lit 180, nat_lit 5), (nat_lit 2, nat_lit 180, nat_lit 7), (nat_lit 2, nat_lit 180, nat_lit 13)]), (some sv_24, [ee_0, ee_16, ee_128, ee_2, ee_57, ee_32], [(nat_lit 180, nat_lit 3, sv_9), (nat_lit 180, nat_lit 5, sv_10), (nat_lit 180, nat_lit 7, sv_38), (nat_lit 180, nat_lit 13, sv_11)], [(nat_lit 2, nat_lit 180, nat_lit 3), (nat_lit 2, nat_lit 180, nat_lit 5), (nat_lit 2, nat_lit 180, nat_lit 13)])], [(nat_lit 180, nat_lit 5, nat_lit 13)], [], [], [])
set_option maxRecDepth 100000 in
theorem syc_168 : CoOk GG MM syt_168 := chk_okF (cs := [syt_149, syt_147, syt_73, syt_167]) (F := 4000) (cs_c syc_149 <| cs_c syc_147 <| cs_c syc_73 <| cs_c syc_167 cs_n) (by decide +kernel) (by decide +kernel)
/-- M.put -/
def syt_169 : CO := (nat_lit 244, nat_lit 1, [ee_0, ee_136, ee_32], [sv_19, sv_1, sv_24], [(nat_lit 180, nat_lit 13, sv_4)], [(nat_lit 1, nat_lit 1, nat_lit 0), (nat_lit 2, nat_lit 180, nat_lit 13)], [(some sv_24, [ee_0, ee_136, ee_32], [(nat_lit 180, nat_lit 13, sv_4)], [])], [(nat_lit 183, nat_lit 20, nat_lit 27)], [], [], [])
set_option maxRecDepth 100000 in
theorem syc_169 : CoOk GG MM syt_169 := chk_okF (cs := []) (F := 4000) (fun _ h => absurd h List.not_mem_nil) (by decide +kernel) (by decide +kernel)
/-- M.readNumber -/
def syt_170 : CO := (nat_lit 260, nat_lit 2, [ee_0, ee_13], [sv_19, sv_6, sv_33], [(nat_lit 180, nat_lit 5, sv_1), (nat_lit 180, nat_lit 7, sv_38)], [(nat_lit 2, nat_lit 180, nat_lit 5)], [(some sv_6, [ee_0, ee_13], [(nat_lit 180, nat_lit 5, sv_1), (nat_lit 180, nat_lit 7, sv_38)], [])], [(nat_lit 180, nat_lit 10, nat_lit 11)], [], [], [])
set_option maxRecDepth 100000 in
theorem syc_170 : CoOk GG MM syt_170 := chk_okF (cs := [syt_144]) (F := 4000) (cs_c syc_144 cs_n) (by decide +kernel) (by decide +kernel)
/-- M.put -/
def syt_171 : CO := (nat_lit 244, nat_lit 1, [ee_0, ee_137, ee_32], [sv_19, sv_1, sv_6], [(nat_lit 180, nat_lit 13, sv_4)], [(nat_lit 1, nat_lit 1, nat_lit 0), (nat_lit 2, nat_lit 180, nat_lit 13)], [(some sv_6, [ee_0, ee_137, ee_32], [(nat_lit 180, nat_lit 13, sv_4)], [])], [], [], [], [])
set_option maxRecDepth 100000 in
theorem syc_171 : CoOk GG MM syt_171 := chk_okF (cs := []) (F := 4000) (fun _ h => absurd h List.not_mem_nil) (by decide +kernel) (by decide +kernel)
/-- M.isIn -/
def syt_172 : CO := (nat_lit 218, nat_lit 1, [ee_0, ee_1], [sv_1, sv_6, sv_33], [], [(nat_lit 1, nat_lit 0, nat_lit 0)], [(some sv_24, [ee_0, ee_33], [], []), (some sv_6, [ee_0, ee_1], [], [])], [], [], [], [])
set_option maxRecDepth 100000 in
theorem syc_172 : CoOk GG MM syt_172 := chk_okF (cs := []) (F := 4000) (fun _ h => absurd h List.not_mem_nil) (by decide +kernel) (by decide +kernel)
/-- M.readNumber -/
def syt_173 : CO := (nat_lit 260, nat_lit 3, [ee_0, ee_13, ee_75], [sv_19, sv_6, sv_33], [(nat_lit 180, nat_lit 5, sv_1), (nat_lit 180, nat_lit 7, sv_4)], [(nat_lit 2, nat_lit 180, nat_lit 5), (nat_lit 2, nat_lit 180, nat_lit 7)], [(some sv_6, [ee_0, ee_13, ee_75], [(nat_lit 180, nat_lit 5, sv_1), (nat_lit 180, nat_lit 7, sv_4)], []), (some sv_24, [ee_0, ee_13, ee_128, ee_72, ee_75, ee_33], [(nat_lit 180, nat_lit 5, sv_9), (nat_lit 180, nat_lit 7, sv_10), (nat_lit 180, nat_lit 13, sv_11)], [(nat_lit 2, nat_lit 180, nat_lit 5), (nat_lit 2, nat_lit 180, nat_lit 7), (nat_lit 2, nat_lit 180, nat_lit 13)]), (some sv_24, [ee_0, ee_16, ee_128, ee_2, ee_57, ee_33], [(nat_lit 180, nat_lit 3, sv_9), (nat_lit 180, nat_lit 5, sv_10), (nat_lit 180, nat_lit 7, sv_38), (nat_lit 180, nat_lit 13, sv_11)], [(nat_lit 2, nat_lit 180, nat_lit 3), (nat_lit 2, nat_lit 180, nat_lit 5), (nat_lit 2, nat_lit 180, nat_lit 13)])], [(nat_lit 180, nat_lit 5, nat_lit 13)], [], [], [])
set_option maxRecDepth 100000 in
theorem syc_173 : CoOk GG MM syt_173 := chk_okF (cs := [syt_149, syt_147, syt_73, syt_172]) (F := 4000) (cs_c syc_149 <| cs_c syc_147 <| cs_c syc_73 <| cs_c syc_172 cs_n) (by decide +kernel) (by decide +kernel)
/-- M.put -/
def syt_174 : CO := (nat_lit 244, nat_lit 1, [ee_0, ee_137, ee_33], [sv_19, sv_1, sv_24], [(nat_lit 180, nat_lit 13, sv_4)], [(nat_lit 1, nat_lit 1, nat_lit 0), (nat_lit 2, nat_lit 180, nat_lit 13)], [(some sv_24, [ee_0, ee_137, ee_33], [(nat_lit 180, nat_lit 13, sv_4)], [])], [(nat_lit 183, nat_lit 28, nat_lit 35)], [], [], [])
set_option maxRecDepth 100000 in
theorem syc_174 : CoOk GG MM syt_174 := chk_okF (cs := []) (F := 4000) (fun _ h => absurd h List.not_mem_nil) (by decide +kernel) (by decide +kernel)
/-- M.readNumber -/
def syt_175 : CO := (nat_lit 260, nat_lit 2, [ee_0, ee_13], [sv_19, sv_6, sv_37], [(nat_lit 180, nat_lit 5, sv_1), (nat_lit 180, nat_lit 7, sv_38)], [(nat_lit 2, nat_lit 180, nat_lit 5)], [(some sv_6, [ee_0, ee_13], [(nat_lit 180, nat_lit 5, sv_1), (nat_lit 180, nat_lit 7, sv_38)], [])], [(nat_lit 180, nat_lit 10, nat_lit 11)], [], [], [])
set_option maxRecDepth 100000 in
theorem syc_175 : CoOk GG MM syt_175 := chk_okF (cs := [syt_144]) (F := 4000) (cs_c syc_144 cs_n) (by decide +kernel) (by decide +kernel)
/-- M.put -/
def syt_176 : CO := (nat_lit 244, nat_lit 1, [ee_0, ee_138, ee_33], [sv_19, sv_1, sv_6], [(nat_lit 180, nat_lit 13, sv_4)], [(nat_lit 1, nat_lit 1, nat_lit 0), (nat_lit 2, nat_lit 180, nat_lit 13)], [(some sv_6, [ee_0, ee_138, ee_33], [(nat_lit 180, nat_lit 13, sv_4)], [])], [], [], [], [])
set_option maxRecDepth 100000 in
theorem syc_176 : CoOk GG MM syt_176 := chk_okF (cs := []) (F := 4000) (fun _ h => absurd h List.not_mem_nil) (by decide +kernel) (by decide +kernel)
/-- M.isIn -/
def syt_177 : CO := (nat_lit 218, nat_lit 1, [ee_0, ee_1], [sv_1, sv_6, sv_37], [], [(nat_lit 1, nat_lit 0, nat_lit 0)], [(some sv_24, [ee_0, ee_34], [], []), (some sv_6, [ee_0, ee_1], [], [])], [], [], [], [])
set_option maxRecDepth 100000 in
theorem syc_177 : CoOk GG MM syt_177 := chk_okF (cs := []) (F := 4000) (fun _ h => absurd h List.not_mem_nil) (by decide +kernel) (by decide +kernel)
/-- M.readNumber -/
def syt_178 : CO := (nat_lit 260, nat_lit 3, [ee_0, ee_13, ee_75], [sv_19, sv_6, sv_37], [(nat_lit 180, nat_lit 5, sv_1), (nat_lit 180, nat_lit 7, sv_4)], [(nat_lit 2, nat_lit 180, nat_lit 5), (nat_lit 2, nat_lit 180, nat_lit 7)], [(some sv_6, [ee_0, ee_13, ee_75], [(nat_lit 180, nat_lit 5, sv_1), (nat_lit 180, nat_lit 7, sv_4)], []), (some sv_24, [ee_0, ee_13, ee_128, ee_72, ee_75, ee_34], [(nat_lit 180, nat_lit 5, sv_9), (nat_lit 180, nat_lit 7, sv_10), (nat_lit 180, nat_lit 13, sv_11)], [(nat_lit 2, nat_lit 180, nat_lit 5), (nat_lit 2, nat_lit 180, nat_lit 7), (nat_lit 2, nat_lit 180, nat_lit 13)]), (some sv_24, [ee_0, ee_16, ee_128, ee_2, ee_57, ee_34], [(nat_lit 180, nat_lit 3, sv_9), (nat_lit 180, nat_lit 5, sv_10), (nat_lit 180, nat_lit 7, sv_38), (nat_lit 180, nat_lit 13, sv_11)], [(nat_lit 2, nat_lit 180, nat_lit 3), (nat_lit 2, nat_lit 180, nat_lit 5), (nat_lit 2, nat_lit 180, nat_lit 13)])], [(nat_lit 180, nat_lit 5, nat_lit 13)], [], [], [])
set_option maxRecDepth 100000 in
theorem syc_178 : CoOk GG MM syt_178 := chk_okF (cs := [syt_149, syt_147, syt_73, syt_177]) (F := 4000) (cs_c syc_149 <| cs_c syc_147 <| cs_c syc_73 <| cs_c syc_177 cs_n) (by decide +kernel) (by decide +kernel)
/-- M.put -/
def syt_179 : CO := (nat_lit 244, nat_lit 1, [ee_0, ee_138, ee_34], [sv_19, sv_1, sv_24], [(nat_lit 180, nat_lit 13, sv_4)], [(nat_lit 1, nat_lit 1, nat_lit 0), (nat_lit 2, nat_lit 180, nat_lit 13)], [(some sv_24, [ee_0, ee_138, ee_34], [(nat_lit 180, nat_lit 13, sv_4)], [])], [(nat_lit 183, nat_lit 36, nat_lit 43)], [], [], [])
set_option maxRecDepth 100000 in
theorem syc_179 : CoOk GG MM syt_179 := chk_okF (cs := []) (F := 4000) (fun _ h => absurd h List.not_mem_nil) (by decide +kernel) (by decide +kernel)
/-- M.isWord -/
def syt_180 : CO := (nat_lit 227, nat_lit 1, [ee_0, ee_13], [sv_19, sv_32], [(nat_lit 180, nat_lit 5, sv_1), (nat_lit 180, nat_lit 7, sv_38)], [(nat_lit 2, nat_lit 180, nat_lit 5)], [(some sv_6, [ee_0, ee_13], [(nat_lit 180, nat_lit 5, sv_1), (nat_lit 180, nat_lit 7, sv_38)], [])], [], [], [], [])
set_option maxRecDepth 100000 in
theorem syc_180 : CoOk GG MM syt_180 := chk_okF (cs := []) (F := 4000) (fun _ h => absurd h List.not_mem_nil) (by decide +kernel) (by decide +kernel)
/-- M.readFlag -/
def syt_181 : CO := (nat_lit 253, nat_lit 2, [ee_0, ee_14, ee_13], [sv_19, sv_32, sv_96, sv_1], [(nat_lit 180, nat_lit 5, sv_4), (nat_lit 180, nat_lit 7, sv_38)], [(nat_lit 1, nat_lit 3, nat_lit 0), (nat_lit 2, nat_lit 180, nat_lit 5)], [(none, [ee_0, ee_14, ee_13], [(nat_lit 180, nat_lit 5, sv_4), (nat_lit 180, nat_lit 7, sv_38)], [])], [], [], [], [])
set_option maxRecDepth 100000 in
theorem syc_181 : CoOk GG MM syt_181 := chk_okF (cs := [syt_180]) (F := 4000) (cs_c syc_180 cs_n) (by decide +kernel) (by decide +kernel)
/-- M.isWord -/
def syt_182 : CO := (nat_lit 227, nat_lit 3, [ee_0, ee_13, ee_75], [sv_19, sv_32], [(nat_lit 180, nat_lit 5, sv_1), (nat_lit 180, nat_lit 7, sv_4)], [(nat_lit 2, nat_lit 180, nat_lit 5), (nat_lit 2, nat_lit 180, nat_lit 7)], [(some sv_6, [ee_0, ee_13, ee_75], [(nat_lit 180, nat_lit 5, sv_1), (nat_lit 180, nat_lit 7, sv_4)], []), (some sv_24, [ee_0, ee_13, ee_78], [(nat_lit 180, nat_lit 5, sv_1), (nat_lit 180, nat_lit 7, sv_4)], [])], [], [], [], [])
set_option maxRecDepth 100000 in
theorem syc_182 : CoOk GG MM syt_182 := chk_okF (cs := [syt_83]) (F := 4000) (cs_c syc_83 cs_n) (by decide +kernel) (by decide +kernel)
/-- M.readFlag -/
def syt_183 : CO := (nat_lit 253, nat_lit 4, [ee_0, ee_14, ee_13, ee_75], [sv_19, sv_32, sv_96, sv_1], [(nat_lit 180, nat_lit 5, sv_4), (nat_lit 180, nat_lit 7, sv_9)], [(nat_lit 1, nat_lit 3, nat_lit 0), (nat_lit 2, nat_lit 180, nat_lit 5), (nat_lit 2, nat_lit 180, nat_lit 7)], [(none, [ee_0, ee_14, ee_13, ee_75, ee_124, ee_75], [(nat_lit 180, nat_lit 5, sv_10), (nat_lit 180, nat_lit 7, sv_11)], [(nat_lit 2, nat_lit 180, nat_lit 5), (nat_lit 2, nat_lit 180, nat_lit 7)]), (none, [ee_0, ee_14, ee_16, ee_78, ee_2, ee_125], [(nat_lit 180, nat_lit 3, sv_10), (nat_lit 180, nat_lit 5, sv_11), (nat_lit 180, nat_lit 7, sv_38)], [(nat_lit 2, nat_lit 180, nat_lit 3), (nat_lit 2, nat_lit 180, nat_lit 5)])], [(nat_lit 180, nat_lit 5, nat_lit 9), (nat_lit 180, nat_lit 12, nat_lit 12), (nat_lit 183, nat_lit 44, nat_lit 44)], [], [], [])
set_option maxRecDepth 100000 in
theorem syc_183 : CoOk GG MM syt_183 := chk_okF (cs := [syt_73, syt_182]) (F := 4000) (cs_c syc_73 <| cs_c syc_182 cs_n) (by decide +kernel) (by decide +kernel)
/-- M.put -/
def syt_184 : CO := (nat_lit 244, nat_lit 1, [ee_0, ee_138], [sv_19, sv_1, sv_6], [], [(nat_lit 1, nat_lit 1, nat_lit 0)], [(some sv_6, [ee_0, ee_138], [], [])], [], [], [], [])
set_option maxRecDepth 100000 in
theorem syc_184 : CoOk GG MM syt_184 := chk_okF (cs := []) (F := 4000) (fun _ h => absurd h List.not_mem_nil) (by decide +kernel) (by decide +kernel)
/-- M.put -/
def syt_185 : CO := (nat_lit 244, nat_lit 1, [ee_0, ee_137], [sv_19, sv_1, sv_6], [], [(nat_lit 1, nat_lit 1, nat_lit 0)], [(some sv_6, [ee_0, ee_137], [], [])], [], [], [], [])
set_option maxRecDepth 100000 in
theorem syc_185 : CoOk GG MM syt_185 := chk_okF (cs := []) (F := 4000) (fun _ h => absurd h List.not_mem_nil) (by decide +kernel) (by decide +kernel)
/-- M.readDeed -/
def syt_186 : CO := (nat_lit 249, nat_lit 5, [ee_0, ee_13, ee_78], [sv_19], [(nat_lit 180, nat_lit 5, sv_1), (nat_lit 180, nat_lit 7, sv_4)], [(nat_lit 2, nat_lit 180, nat_lit 5), (nat_lit 2, nat_lit 180, nat_lit 7)], [(some sv_6, [ee_0, ee_13, ee_78, ee_72, ee_80, ee_30], [(nat_lit 180, nat_lit 5, sv_9), (nat_lit 180, nat_lit 7, sv_10), (nat_lit 183, nat_lit 1, sv_11)], [(nat_lit 2, nat_lit 180, nat_lit 5), (nat_lit 2, nat_lit 180, nat_lit 7), (nat_lit 2, nat_lit 183, nat_lit 1)]), (some sv_24, [ee_0, ee_13, ee_78, ee_2, ee_57, ee_34, ee_31], [(nat_lit 180, nat_lit 3, sv_9), (nat_lit 180, nat_lit 5, sv_10), (nat_lit 180, nat_lit 7, sv_38), (nat_lit 180, nat_lit 13, sv_11), (nat_lit 183, nat_lit 1, sv_17)], [(nat_lit 2, nat_lit 180, nat_lit 3), (nat_lit 2, nat_lit 180, nat_lit 5), (nat_lit 2, nat_lit 180, nat_lit 13), (nat_lit 2, nat_lit 183, nat_lit 1)]), (some sv_24, [ee_0, ee_13, ee_78, ee_72, ee_75, ee_34, ee_31], [(nat_lit 180, nat_lit 5, sv_9), (nat_lit 180, nat_lit 7, sv_10), (nat_lit 180, nat_lit 13, sv_11), (nat_lit 183, nat_lit 1, sv_17)], [(nat_lit 2, nat_lit 180, nat_lit 5), (nat_lit 2, nat_lit 180, nat_lit 7), (nat_lit 2, nat_lit 180, nat_lit 13), (nat_lit 2, nat_lit 183, nat_lit 1)])], [(nat_lit 180, nat_lit 5, nat_lit 13), (nat_lit 183, nat_lit 1, nat_lit 1), (nat_lit 183, nat_lit 20, nat_lit 44), (nat_lit 188, nat_lit 7, nat_lit 14)], [], [], [])
set_option maxRecDepth 100000 in
theorem syc_186 : CoOk GG MM syt_186 := chk_okF (cs := [syt_166, syt_184, syt_185, syt_179, syt_169, syt_171, syt_174, syt_176, syt_161, syt_181, syt_183, syt_164, syt_165, syt_170, syt_175, syt_168, syt_173, syt_178]) (F := 4000) (cs_c syc_166 <| cs_c syc_184 <| cs_c syc_185 <| cs_c syc_179 <| cs_c syc_169 <| cs_c syc_171 <| cs_c syc_174 <| cs_c syc_176 <| cs_c syc_161 <| cs_c syc_181 <| cs_c syc_183 <| cs_c syc_164 <| cs_c syc_165 <| cs_c syc_170 <| cs_c syc_175 <| cs_c syc_168 <| cs_c syc_173 <| cs_c syc_178 cs_n) (by decide +kernel) (by decide +kernel)
/-- M.isWord -/
def syt_187 : CO := (nat_lit 227, nat_lit 3, [ee_0, ee_13, ee_77], [sv_19, sv_31], [(nat_lit 180, nat_lit 5, sv_1), (nat_lit 180, nat_lit 7, sv_4)], [(nat_lit 2, nat_lit 180, nat_lit 5), (nat_lit 2, nat_lit 180, nat_lit 7)], [(some sv_6, [ee_0, ee_13, ee_77], [(nat_lit 180, nat_lit 5, sv_1), (nat_lit 180, nat_lit 7, sv_4)], []), (some sv_24, [ee_0, ee_13, ee_78], [(nat_lit 180, nat_lit 5, sv_1), (nat_lit 180, nat_lit 7, sv_4)], [])], [], [], [], [])
set_option maxRecDepth 100000 in
theorem syc_187 : CoOk GG MM syt_187 := chk_okF (cs := [syt_85]) (F := 4000) (cs_c syc_85 cs_n) (by decide +kernel) (by decide +kernel)
/-- M.isName -/
def syt_188 : CO := (nat_lit 221, nat_lit 3, [ee_0, ee_13, ee_73], [sv_19], [(nat_lit 180, nat_lit 5, sv_1), (nat_lit 180, nat_lit 7, sv_4)], [(nat_lit 2, nat_lit 180, nat_lit 5), (nat_lit 2, nat_lit 180, nat_lit 7)], [(some sv_6, [ee_0, ee_13, ee_73], [(nat_lit 180, nat_lit 5, sv_1), (nat_lit 180, nat_lit 7, sv_4)], []), (some sv_24, [ee_0, ee_13, ee_78], [(nat_lit 180, nat_lit 5, sv_1), (nat_lit 180, nat_lit 7, sv_4)], [])], [], [(nat_lit 12, nat_lit 1, nat_lit 0, ([ee_0, ee_13, ee_78], [(nat_lit 0, sv_19), (nat_lit 1, sv_6)], [], [(nat_lit 180, nat_lit 5, sv_1), (nat_lit 180, nat_lit 7, sv_4)]), [], [(nat_lit 12, nat_lit 1)]),
  (nat_lit 12, nat_lit 2, nat_lit 0, ([ee_0, ee_13, ee_78], [(nat_lit 0, sv_19), (nat_lit 1, sv_24)], [], [(nat_lit 180, nat_lit 5, sv_1), (nat_lit 180, nat_lit 7, sv_4)]), [], [(nat_lit 12, nat_lit 2)]),
  (nat_lit 12, nat_lit 3, nat_lit 0, ([ee_0, ee_13, ee_78], [(nat_lit 0, sv_19), (nat_lit 1, sv_32)], [], [(nat_lit 180, nat_lit 5, sv_1), (nat_lit 180, nat_lit 7, sv_4)]), [], [(nat_lit 12, nat_lit 3)]),
  (nat_lit 12, nat_lit 4, nat_lit 0, ([ee_0, ee_13, ee_78], [(nat_lit 0, sv_19), (nat_lit 1, sv_31)], [], [(nat_lit 180, nat_lit 5, sv_1), (nat_lit 180, nat_lit 7, sv_4)]), [], [(nat_lit 12, nat_lit 4)]),
  (nat_lit 12, nat_lit 5, nat_lit 0, ([ee_0, ee_13, ee_78], [(nat_lit 0, sv_19), (nat_lit 1, sv_38)], [], [(nat_lit 180, nat_lit 5, sv_1), (nat_lit 180, nat_lit 7, sv_4)]), [], [(nat_lit 12, nat_lit 5)]),
  (nat_lit 12, nat_lit 6, nat_lit 0, ([ee_0, ee_13, ee_78], [(nat_lit 0, sv_19), (nat_lit 1, sv_68)], [], [(nat_lit 180, nat_lit 5, sv_1), (nat_lit 180, nat_lit 7, sv_4)]), [], [(nat_lit 12, nat_lit 6)]),
  (nat_lit 12, nat_lit 7, nat_lit 0, ([ee_0, ee_13, ee_78], [(nat_lit 0, sv_19), (nat_lit 1, sv_70)], [], [(nat_lit 180, nat_lit 5, sv_1), (nat_lit 180, nat_lit 7, sv_4)]), [], [(nat_lit 12, nat_lit 7)]),
  (nat_lit 12, nat_lit 8, nat_lit 0, ([ee_0, ee_13, ee_78], [(nat_lit 0, sv_19), (nat_lit 1, sv_59)], [], [(nat_lit 180, nat_lit 5, sv_1), (nat_lit 180, nat_lit 7, sv_4)]), [], [(nat_lit 12, nat_lit 8)]),
  (nat_lit 12, nat_lit 9, nat_lit 0, ([ee_0, ee_13, ee_78], [(nat_lit 0, sv_19), (nat_lit 1, sv_5)], [], [(nat_lit 180, nat_lit 5, sv_1), (nat_lit 180, nat_lit 7, sv_4)]), [], [(nat_lit 12, nat_lit 9)]),
  (nat_lit 12, nat_lit 10, nat_lit 0, ([ee_0, ee_13, ee_78], [(nat_lit 0, sv_19), (nat_lit 1, sv_37)], [], [(nat_lit 180, nat_lit 5, sv_1), (nat_lit 180, nat_lit 7, sv_4)]), [], [(nat_lit 12, nat_lit 10)]),
  (nat_lit 12, nat_lit 11, nat_lit 0, ([ee_0, ee_13, ee_78], [(nat_lit 0, sv_19), (nat_lit 1, sv_72)], [], [(nat_lit 180, nat_lit 5, sv_1), (nat_lit 180, nat_lit 7, sv_4)]), [], [(nat_lit 12, nat_lit 11)]),
  (nat_lit 12, nat_lit 12, nat_lit 0, ([ee_0, ee_13, ee_78], [(nat_lit 0, sv_19), (nat_lit 1, sv_75)], [], [(nat_lit 180, nat_lit 5, sv_1), (nat_lit 180, nat_lit 7, sv_4)]), [], [(nat_lit 12, nat_lit 12)]),
  (nat_lit 12, nat_lit 13, nat_lit 0, ([ee_0, ee_13, ee_78], [(nat_lit 0, sv_19), (nat_lit 1, sv_76)], [], [(nat_lit 180, nat_lit 5, sv_1), (nat_lit 180, nat_lit 7, sv_4)]), [], [(nat_lit 12, nat_lit 13)]),
  (nat_lit 12, nat_lit 14, nat_lit 0, ([ee_0, ee_13, ee_78], [(nat_lit 0, sv_19), (nat_lit 1, sv_77)], [], [(nat_lit 180, nat_lit 5, sv_1), (nat_lit 180, nat_lit 7, sv_4)]), [], [(nat_lit 12, nat_lit 14)]),
  (nat_lit 12, nat_lit 15, nat_lit 0, ([ee_0, ee_13, ee_78], [(nat_lit 0, sv_19), (nat_lit 1, sv_78)], [], [(nat_lit 180, nat_lit 5, sv_1), (nat_lit 180, nat_lit 7, sv_4)]), [], [(nat_lit 12, nat_lit 15)]),
  (nat_lit 12, nat_lit 16, nat_lit 0, ([ee_0, ee_13, ee_78], [(nat_lit 0, sv_19), (nat_lit 1, sv_79)], [], [(nat_lit 180, nat_lit 5, sv_1), (nat_lit 180, nat_lit 7, sv_4)]), [], [(nat_lit 12, nat_lit 16)]),
  (nat_lit 12, nat_lit 17, nat_lit 0, ([ee_0, ee_13, ee_78], [(nat_lit 0, sv_19), (nat_lit 1, sv_3)], [], [(nat_lit 180, nat_lit 5, sv_1), (nat_lit 180, nat_lit 7, sv_4)]), [], [(nat_lit 12, nat_lit 17)]),
  (nat_lit 12, nat_lit 18, nat_lit 0, ([ee_0, ee_13, ee_78], [(nat_lit 0, sv_19), (nat_lit 1, sv_81)], [], [(nat_lit 180, nat_lit 5, sv_1), (nat_lit 180, nat_lit 7, sv_4)]), [], [(nat_lit 12, nat_lit 18)]),
  (nat_lit 12, nat_lit 19, nat_lit 0, ([ee_0, ee_13, ee_78], [(nat_lit 0, sv_19), (nat_lit 1, sv_40)], [], [(nat_lit 180, nat_lit 5, sv_1), (nat_lit 180, nat_lit 7, sv_4)]), [], [(nat_lit 12, nat_lit 19)]),
  (nat_lit 12, nat_lit 20, nat_lit 0, ([ee_0, ee_13, ee_78], [(nat_lit 0, sv_19), (nat_lit 1, sv_82)], [], [(nat_lit 180, nat_lit 5, sv_1), (nat_lit 180, nat_lit 7, sv_4)]), [], [(nat_lit 12, nat_lit 20)]),
  (nat_lit 12, nat_lit 21, nat_lit 0, ([ee_0, ee_13, ee_78], [(nat_lit 0, sv_19), (nat_lit 1, sv_84)], [], [(nat_lit 180, nat_lit 5, sv_1), (nat_lit 180, nat_lit 7, sv_4)]), [], [(nat_lit 12, nat_lit 21)]),
  (nat_lit 12, nat_lit 22, nat_lit 0, ([ee_0, ee_13, ee_78], [(nat_lit 0, sv_19), (nat_lit 1, sv_85)], [], [(nat_lit 180, nat_lit 5, sv_1), (nat_lit 180, nat_lit 7, sv_4)]), [], [(nat_lit 12, nat_lit 22)]),
  (nat_lit 12, nat_lit 23, nat_lit 0, ([ee_0, ee_13, ee_78], [(nat_lit 0, sv_19), (nat_lit 1, sv_86)], [], [(nat_lit 180, nat_lit 5, sv_1), (nat_lit 180, nat_lit 7, sv_4)]), [], [(nat_lit 12, nat_lit 23)]),
  (nat_lit 12, nat_lit 24, nat_lit 0, ([ee_0, ee_13, ee_78], [(nat_lit 0, sv_19), (nat_lit 1, sv_88)], [], [(nat_lit 180, nat_lit 5, sv_1), (nat_lit 180, nat_lit 7, sv_4)]), [], [(nat_lit 12, nat_lit 24)]),
  (nat_lit 12, nat_lit 25, nat_lit 0, ([ee_0, ee_13, ee_78], [(nat_lit 0, sv_19), (nat_lit 1, sv_2)], [], [(nat_lit 180, nat_lit 5, sv_1), (nat_lit 180, nat_lit 7, sv_4)]), [], [(nat_lit 12, nat_lit 25)]),
  (nat_lit 12, nat_lit 26, nat_lit 0, ([ee_0, ee_13, ee_78], [(nat_lit 0, sv_19), (nat_lit 1, sv_89)], [], [(nat_lit 180, nat_lit 5, sv_1), (nat_lit 180, nat_lit 7, sv_4)]), [], [(nat_lit 12, nat_lit 26)]),
  (nat_lit 12, nat_lit 27, nat_lit 0, ([ee_0, ee_13, ee_78], [(nat_lit 0, sv_19), (nat_lit 1, sv_90)], [], [(nat_lit 180, nat_lit 5, sv_1), (nat_lit 180, nat_lit 7, sv_4)]), [], [(nat_lit 12, nat_lit 27)]),
  (nat_lit 12, nat_lit 28, nat_lit 0, ([ee_0, ee_13, ee_78], [(nat_lit 0, sv_19), (nat_lit 1, sv_92)], [], [(nat_lit 180, nat_lit 5, sv_1), (nat_lit 180, nat_lit 7, sv_4)]), [], [(nat_lit 12, nat_lit 28)]),
  (nat_lit 12, nat_lit 29, nat_lit 0, ([ee_0, ee_13, ee_78], [(nat_lit 0, sv_19), (nat_lit 1, sv_93)], [], [(nat_lit 180, nat_lit 5, sv_1), (nat_lit 180, nat_lit 7, sv_4)]), [], [(nat_lit 12, nat_lit 29)]),
  (nat_lit 12, nat_lit 30, nat_lit 0, ([ee_0, ee_13, ee_78], [(nat_lit 0, sv_19), (nat_lit 1, sv_94)], [], [(nat_lit 180, nat_lit 5, sv_1), (nat_lit 180, nat_lit 7, sv_4)]), [], [(nat_lit 12, nat_lit 30)]),
  (nat_lit 12, nat_lit 31, nat_lit 0, ([ee_0, ee_13, ee_78], [(nat_lit 0, sv_19), (nat_lit 1, sv_33)], [], [(nat_lit 180, nat_lit 5, sv_1), (nat_lit 180, nat_lit 7, sv_4)]), [], [])], [], [(nat_lit 12, nat_lit 0)])
set_option maxRecDepth 100000 in
theorem syc_188 : CoOk GG MM syt_188 := chk_okF (cs := [syt_76, syt_81, syt_83, syt_85, syt_87, syt_89, syt_91, syt_93, syt_95, syt_97, syt_99, syt_101, syt_103, syt_105, syt_107, syt_109, syt_111, syt_113, syt_115, syt_117, syt_119, syt_121, syt_123, syt_125, syt_127, syt_129, syt_131, syt_133, syt_135, syt_137]) (F := 4000) (cs_c syc_76 <| cs_c syc_81 <| cs_c syc_83 <| cs_c syc_85 <| cs_c syc_87 <| cs_c syc_89 <| cs_c syc_91 <| cs_c syc_93 <| cs_c syc_95 <| cs_c syc_97 <| cs_c syc_99 <| cs_c syc_101 <| cs_c syc_103 <| cs_c syc_105 <| cs_c syc_107 <| cs_c syc_109 <| cs_c syc_111 <| cs_c syc_113 <| cs_c syc_115 <| cs_c syc_117 <| cs_c syc_119 <| cs_c syc_121 <| cs_c syc_123 <| cs_c syc_125 <| cs_c syc_127 <| cs_c syc_129 <| cs_c syc_131 <| cs_c syc_133 <| cs_c syc_135 <| cs_c syc_137 cs_n) (by decide +kernel) (by decide +kernel)
/-- M.bad -/
def syt_189 : CO := (nat_lit 174, nat_lit 1, [ee_0, ee_13, ee_73], [sv_19, sv_24], [(nat_lit 180, nat_lit 5, sv_1), (nat_lit 180, nat_lit 7, sv_4)], [(nat_lit 2, nat_lit 180, nat_lit 5), (nat_lit 2, nat_lit 180, nat_lit 7)], [(some sv_6, [ee_0, ee_13, ee_73], [(nat_lit 180, nat_lit 5, sv_1), (nat_lit 180, nat_lit 7, sv_4)], [])], [(nat_lit 180, nat_lit 10, nat_lit 11)], [], [], [])
set_option maxRecDepth 100000 in
theorem syc_189 : CoOk GG MM syt_189 := chk_okF (cs := []) (F := 4000) (fun _ h => absurd h List.not_mem_nil) (by decide +kernel) (by decide +kernel)
/-- M.isOne -/
def syt_190 : CO := (nat_lit 222, nat_lit 4, [ee_0, ee_13, ee_73], [sv_19], [(nat_lit 180, nat_lit 5, sv_1), (nat_lit 180, nat_lit 7, sv_4)], [(nat_lit 2, nat_lit 180, nat_lit 5), (nat_lit 2, nat_lit 180, nat_lit 7)], [(some sv_6, [ee_0, ee_13, ee_73], [(nat_lit 180, nat_lit 5, sv_1), (nat_lit 180, nat_lit 7, sv_4)], []), (some sv_24, [ee_0, ee_13, ee_78, ee_27, ee_26], [(nat_lit 180, nat_lit 5, sv_1), (nat_lit 180, nat_lit 7, sv_4), (nat_lit 180, nat_lit 13, sv_9), (nat_lit 183, nat_lit 0, sv_10)], [(nat_lit 2, nat_lit 180, nat_lit 13), (nat_lit 2, nat_lit 183, nat_lit 0)])], [(nat_lit 180, nat_lit 10, nat_lit 11), (nat_lit 180, nat_lit 13, nat_lit 13)], [], [], [])
set_option maxRecDepth 100000 in
theorem syc_190 : CoOk GG MM syt_190 := chk_okF (cs := [syt_141, syt_189, syt_162, syt_188]) (F := 4000) (cs_c syc_141 <| cs_c syc_189 <| cs_c syc_162 <| cs_c syc_188 cs_n) (by decide +kernel) (by decide +kernel)
/-- M.isName -/
def syt_191 : CO := (nat_lit 221, nat_lit 1, [ee_0, ee_13], [sv_19], [(nat_lit 180, nat_lit 5, sv_1), (nat_lit 180, nat_lit 7, sv_38)], [(nat_lit 2, nat_lit 180, nat_lit 5)], [(some sv_6, [ee_0, ee_13], [(nat_lit 180, nat_lit 5, sv_1), (nat_lit 180, nat_lit 7, sv_38)], [])], [], [], [], [])
set_option maxRecDepth 100000 in
theorem syc_191 : CoOk GG MM syt_191 := chk_okF (cs := []) (F := 4000) (fun _ h => absurd h List.not_mem_nil) (by decide +kernel) (by decide +kernel)
/-- M.isOne -/
def syt_192 : CO := (nat_lit 222, nat_lit 2, [ee_0, ee_13], [sv_19], [(nat_lit 180, nat_lit 5, sv_1), (nat_lit 180, nat_lit 7, sv_38)], [(nat_lit 2, nat_lit 180, nat_lit 5)], [(some sv_6, [ee_0, ee_13], [(nat_lit 180, nat_lit 5, sv_1), (nat_lit 180, nat_lit 7, sv_38)], [])], [(nat_lit 180, nat_lit 10, nat_lit 11)], [], [], [])
set_option maxRecDepth 100000 in
theorem syc_192 : CoOk GG MM syt_192 := chk_okF (cs := [syt_144, syt_191]) (F := 4000) (cs_c syc_144 <| cs_c syc_191 cs_n) (by decide +kernel) (by decide +kernel)
/-- M.isName -/
def syt_193 : CO := (nat_lit 221, nat_lit 1, [ee_0, ee_13, ee_55], [sv_19], [(nat_lit 180, nat_lit 5, sv_1), (nat_lit 180, nat_lit 7, sv_4)], [(nat_lit 2, nat_lit 180, nat_lit 5), (nat_lit 2, nat_lit 180, nat_lit 7)], [(some sv_6, [ee_0, ee_13, ee_55], [(nat_lit 180, nat_lit 5, sv_1), (nat_lit 180, nat_lit 7, sv_4)], [])], [], [], [], [])
set_option maxRecDepth 100000 in
theorem syc_193 : CoOk GG MM syt_193 := chk_okF (cs := []) (F := 4000) (fun _ h => absurd h List.not_mem_nil) (by decide +kernel) (by decide +kernel)
/-- M.bad -/
def syt_194 : CO := (nat_lit 174, nat_lit 1, [ee_0, ee_13, ee_55], [sv_19, sv_24], [(nat_lit 180, nat_lit 5, sv_1), (nat_lit 180, nat_lit 7, sv_4)], [(nat_lit 2, nat_lit 180, nat_lit 5), (nat_lit 2, nat_lit 180, nat_lit 7)], [(some sv_6, [ee_0, ee_13, ee_55], [(nat_lit 180, nat_lit 5, sv_1), (nat_lit 180, nat_lit 7, sv_4)], [])], [(nat_lit 180, nat_lit 10, nat_lit 11)], [], [], [])
set_option maxRecDepth 100000 in
theorem syc_194 : CoOk GG MM syt_194 := chk_okF (cs := []) (F := 4000) (fun _ h => absurd h List.not_mem_nil) (by decide +kernel) (by decide +kernel)
/-- M.isOne -/
def syt_195 : CO := (nat_lit 222, nat_lit 2, [ee_0, ee_13, ee_55], [sv_19], [(nat_lit 180, nat_lit 5, sv_1), (nat_lit 180, nat_lit 7, sv_4)], [(nat_lit 2, nat_lit 180, nat_lit 5), (nat_lit 2, nat_lit 180, nat_lit 7)], [(some sv_6, [ee_0, ee_13, ee_55], [(nat_lit 180, nat_lit 5, sv_1), (nat_lit 180, nat_lit 7, sv_4)], [])], [(nat_lit 180, nat_lit 10, nat_lit 11)], [], [], [])
set_option maxRecDepth 100000 in
theorem syc_195 : CoOk GG MM syt_195 := chk_okF (cs := [syt_194, syt_193]) (F := 4000) (cs_c syc_194 <| cs_c syc_193 cs_n) (by decide +kernel) (by decide +kernel)
/-- M.readPair -/
def syt_196 : CO := (nat_lit 264, nat_lit 5, [ee_0, ee_13, ee_78], [sv_19], [(nat_lit 180, nat_lit 5, sv_1), (nat_lit 180, nat_lit 7, sv_4)], [(nat_lit 2, nat_lit 180, nat_lit 5), (nat_lit 2, nat_lit 180, nat_lit 7)], [(some sv_97, [ee_0, ee_13, ee_78, ee_2, ee_72, ee_78, ee_27, ee_26, ee_27], [(nat_lit 180, nat_lit 3, sv_9), (nat_lit 180, nat_lit 5, sv_10), (nat_lit 180, nat_lit 7, sv_11), (nat_lit 180, nat_lit 13, sv_17), (nat_lit 183, nat_lit 0, sv_18)], [(nat_lit 2, nat_lit 180, nat_lit 3), (nat_lit 2, nat_lit 180, nat_lit 5), (nat_lit 2, nat_lit 180, nat_lit 7), (nat_lit 2, nat_lit 180, nat_lit 13), (nat_lit 2, nat_lit 183, nat_lit 0), (nat_lit 1, nat_lit 0, nat_lit 0)]), (some sv_16, [ee_0, ee_13, ee_78, ee_72, ee_80], [(nat_lit 180, nat_lit 5, sv_9), (nat_lit 180, nat_lit 7, sv_10)], [(nat_lit 2, nat_lit 180, nat_lit 5), (nat_lit 2, nat_lit 180, nat_lit 7)])], [(nat_lit 180, nat_lit 5, nat_lit 13)], [], [], [])
set_option maxRecDepth 100000 in
theorem syc_196 : CoOk GG MM syt_196 := chk_okF (cs := [syt_141, syt_73, syt_192, syt_190, syt_195]) (F := 4000) (cs_c syc_141 <| cs_c syc_73 <| cs_c syc_192 <| cs_c syc_190 <| cs_c syc_195 cs_n) (by decide +kernel) (by decide +kernel)
/-- M.has -/
def syt_197 : CO := (nat_lit 209, nat_lit 1, [ee_0, ee_1, ee_1], [sv_1, sv_4], [], [(nat_lit 1, nat_lit 0, nat_lit 0), (nat_lit 1, nat_lit 1, nat_lit 0)], [(some sv_24, [ee_0, ee_1, ee_1], [], []), (some sv_6, [ee_0, ee_1, ee_1], [], [])], [], [], [], [])
set_option maxRecDepth 100000 in
theorem syc_197 : CoOk GG MM syt_197 := chk_okF (cs := []) (F := 4000) (fun _ h => absurd h List.not_mem_nil) (by decide +kernel) (by decide +kernel)
/-- M.readSees -/
def syt_198 : CO := (nat_lit 267, nat_lit 6, [ee_0, ee_13, ee_78], [sv_19], [(nat_lit 180, nat_lit 5, sv_1), (nat_lit 180, nat_lit 7, sv_4)], [(nat_lit 2, nat_lit 180, nat_lit 5), (nat_lit 2, nat_lit 180, nat_lit 7)], [(some sv_6, [ee_0, ee_13, ee_78, ee_72, ee_80], [(nat_lit 180, nat_lit 5, sv_9), (nat_lit 180, nat_lit 7, sv_10)], [(nat_lit 2, nat_lit 180, nat_lit 5), (nat_lit 2, nat_lit 180, nat_lit 7)]), (some sv_24, [ee_0, ee_13, ee_78, ee_72, ee_75, ee_27, ee_26], [(nat_lit 180, nat_lit 5, sv_9), (nat_lit 180, nat_lit 7, sv_10), (nat_lit 180, nat_lit 13, sv_11), (nat_lit 183, nat_lit 0, sv_17)], [(nat_lit 2, nat_lit 180, nat_lit 5), (nat_lit 2, nat_lit 180, nat_lit 7), (nat_lit 2, nat_lit 180, nat_lit 13), (nat_lit 2, nat_lit 183, nat_lit 0)]), (some sv_24, [ee_0, ee_13, ee_78, ee_2, ee_57, ee_27, ee_26], [(nat_lit 180, nat_lit 3, sv_9), (nat_lit 180, nat_lit 5, sv_10), (nat_lit 180, nat_lit 7, sv_38), (nat_lit 180, nat_lit 13, sv_11), (nat_lit 183, nat_lit 0, sv_17)], [(nat_lit 2, nat_lit 180, nat_lit 3), (nat_lit 2, nat_lit 180, nat_lit 5), (nat_lit 2, nat_lit 180, nat_lit 13), (nat_lit 2, nat_lit 183, nat_lit 0)])], [(nat_lit 180, nat_lit 5, nat_lit 13), (nat_lit 183, nat_lit 45, nat_lit 51)], [], [], [])
set_option maxRecDepth 100000 in
theorem syc_198 : CoOk GG MM syt_198 := chk_okF (cs := [syt_141, syt_73, syt_197, syt_196]) (F := 4000) (cs_c syc_141 <| cs_c syc_73 <| cs_c syc_197 <| cs_c syc_196 cs_n) (by decide +kernel) (by decide +kernel)
/-- M.isWord -/
def syt_199 : CO := (nat_lit 227, nat_lit 3, [ee_0, ee_13, ee_77], [sv_19, sv_38], [(nat_lit 180, nat_lit 5, sv_1), (nat_lit 180, nat_lit 7, sv_4)], [(nat_lit 2, nat_lit 180, nat_lit 5), (nat_lit 2, nat_lit 180, nat_lit 7)], [(some sv_6, [ee_0, ee_13, ee_77], [(nat_lit 180, nat_lit 5, sv_1), (nat_lit 180, nat_lit 7, sv_4)], []), (some sv_24, [ee_0, ee_13, ee_78], [(nat_lit 180, nat_lit 5, sv_1), (nat_lit 180, nat_lit 7, sv_4)], [])], [], [], [], [])
set_option maxRecDepth 100000 in
theorem syc_199 : CoOk GG MM syt_199 := chk_okF (cs := [syt_87]) (F := 4000) (cs_c syc_87 cs_n) (by decide +kernel) (by decide +kernel)
/-- M.bad -/
def syt_200 : CO := (nat_lit 174, nat_lit 1, [ee_0, ee_13, ee_78], [sv_19, sv_24], [(nat_lit 180, nat_lit 5, sv_1), (nat_lit 180, nat_lit 7, sv_4)], [(nat_lit 2, nat_lit 180, nat_lit 5), (nat_lit 2, nat_lit 180, nat_lit 7)], [(some sv_6, [ee_0, ee_13, ee_78], [(nat_lit 180, nat_lit 5, sv_1), (nat_lit 180, nat_lit 7, sv_4)], [])], [(nat_lit 180, nat_lit 10, nat_lit 11)], [], [], [])
set_option maxRecDepth 100000 in
theorem syc_200 : CoOk GG MM syt_200 := chk_okF (cs := []) (F := 4000) (fun _ h => absurd h List.not_mem_nil) (by decide +kernel) (by decide +kernel)
/-- M.readNumber -/
def syt_201 : CO := (nat_lit 260, nat_lit 3, [ee_0, ee_13, ee_73], [sv_19, sv_24, sv_37], [(nat_lit 180, nat_lit 5, sv_1), (nat_lit 180, nat_lit 7, sv_4)], [(nat_lit 2, nat_lit 180, nat_lit 5), (nat_lit 2, nat_lit 180, nat_lit 7)], [(some sv_6, [ee_0, ee_13, ee_73], [(nat_lit 180, nat_lit 5, sv_1), (nat_lit 180, nat_lit 7, sv_4)], []), (some sv_24, [ee_0, ee_13, ee_128, ee_72, ee_75, ee_29], [(nat_lit 180, nat_lit 5, sv_9), (nat_lit 180, nat_lit 7, sv_10), (nat_lit 180, nat_lit 13, sv_11)], [(nat_lit 2, nat_lit 180, nat_lit 5), (nat_lit 2, nat_lit 180, nat_lit 7), (nat_lit 2, nat_lit 180, nat_lit 13)]), (some sv_24, [ee_0, ee_16, ee_128, ee_2, ee_57, ee_29], [(nat_lit 180, nat_lit 3, sv_9), (nat_lit 180, nat_lit 5, sv_10), (nat_lit 180, nat_lit 7, sv_38), (nat_lit 180, nat_lit 13, sv_11)], [(nat_lit 2, nat_lit 180, nat_lit 3), (nat_lit 2, nat_lit 180, nat_lit 5), (nat_lit 2, nat_lit 180, nat_lit 13)])], [(nat_lit 180, nat_lit 5, nat_lit 13)], [], [], [])
set_option maxRecDepth 100000 in
theorem syc_201 : CoOk GG MM syt_201 := chk_okF (cs := [syt_149, syt_200, syt_73, syt_148]) (F := 4000) (cs_c syc_149 <| cs_c syc_200 <| cs_c syc_73 <| cs_c syc_148 cs_n) (by decide +kernel) (by decide +kernel)
/-- M.put -/
def syt_202 : CO := (nat_lit 244, nat_lit 1, [ee_0, ee_139, ee_29], [sv_19, sv_1, sv_24], [(nat_lit 180, nat_lit 13, sv_4)], [(nat_lit 1, nat_lit 1, nat_lit 0), (nat_lit 2, nat_lit 180, nat_lit 13)], [(some sv_24, [ee_0, ee_139, ee_29], [(nat_lit 180, nat_lit 13, sv_4)], [])], [(nat_lit 183, nat_lit 52, nat_lit 100)], [], [], [])
set_option maxRecDepth 100000 in
theorem syc_202 : CoOk GG MM syt_202 := chk_okF (cs := []) (F := 4000) (fun _ h => absurd h List.not_mem_nil) (by decide +kernel) (by decide +kernel)
/-- M.put -/
def syt_203 : CO := (nat_lit 244, nat_lit 1, [ee_0, ee_139], [sv_19, sv_1, sv_6], [], [(nat_lit 1, nat_lit 1, nat_lit 0)], [(some sv_6, [ee_0, ee_139], [], [])], [], [], [], [])
set_option maxRecDepth 100000 in
theorem syc_203 : CoOk GG MM syt_203 := chk_okF (cs := []) (F := 4000) (fun _ h => absurd h List.not_mem_nil) (by decide +kernel) (by decide +kernel)
/-- M.put -/
def syt_204 : CO := (nat_lit 244, nat_lit 1, [ee_0, ee_139, ee_27], [sv_19, sv_1, sv_6], [(nat_lit 180, nat_lit 13, sv_4)], [(nat_lit 1, nat_lit 1, nat_lit 0), (nat_lit 2, nat_lit 180, nat_lit 13)], [(some sv_6, [ee_0, ee_139, ee_27], [(nat_lit 180, nat_lit 13, sv_4)], [])], [], [], [], [])
set_option maxRecDepth 100000 in
theorem syc_204 : CoOk GG MM syt_204 := chk_okF (cs := []) (F := 4000) (fun _ h => absurd h List.not_mem_nil) (by decide +kernel) (by decide +kernel)
/-- M.readNumber -/
def syt_205 : CO := (nat_lit 260, nat_lit 2, [ee_0, ee_13, ee_55], [sv_19, sv_24, sv_37], [(nat_lit 180, nat_lit 5, sv_1), (nat_lit 180, nat_lit 7, sv_4)], [(nat_lit 2, nat_lit 180, nat_lit 5), (nat_lit 2, nat_lit 180, nat_lit 7)], [(some sv_6, [ee_0, ee_13, ee_55], [(nat_lit 180, nat_lit 5, sv_1), (nat_lit 180, nat_lit 7, sv_4)], [])], [(nat_lit 180, nat_lit 10, nat_lit 11)], [], [], [])
set_option maxRecDepth 100000 in
theorem syc_205 : CoOk GG MM syt_205 := chk_okF (cs := [syt_194]) (F := 4000) (cs_c syc_194 cs_n) (by decide +kernel) (by decide +kernel)
/-- M.readFond -/
def syt_206 : CO := (nat_lit 254, nat_lit 6, [ee_0, ee_13, ee_78], [sv_19], [(nat_lit 180, nat_lit 5, sv_1), (nat_lit 180, nat_lit 7, sv_4)], [(nat_lit 2, nat_lit 180, nat_lit 5), (nat_lit 2, nat_lit 180, nat_lit 7)], [(some sv_6, [ee_0, ee_13, ee_78, ee_72, ee_80], [(nat_lit 180, nat_lit 5, sv_9), (nat_lit 180, nat_lit 7, sv_10)], [(nat_lit 2, nat_lit 180, nat_lit 5), (nat_lit 2, nat_lit 180, nat_lit 7)]), (some sv_24, [ee_0, ee_13, ee_78, ee_2, ee_57, ee_29, ee_26], [(nat_lit 180, nat_lit 3, sv_9), (nat_lit 180, nat_lit 5, sv_10), (nat_lit 180, nat_lit 7, sv_38), (nat_lit 180, nat_lit 13, sv_11), (nat_lit 183, nat_lit 0, sv_17)], [(nat_lit 2, nat_lit 180, nat_lit 3), (nat_lit 2, nat_lit 180, nat_lit 5), (nat_lit 2, nat_lit 180, nat_lit 13), (nat_lit 2, nat_lit 183, nat_lit 0)]), (some sv_24, [ee_0, ee_13, ee_78, ee_2, ee_72, ee_75, ee_29, ee_26], [(nat_lit 180, nat_lit 3, sv_9), (nat_lit 180, nat_lit 5, sv_10), (nat_lit 180, nat_lit 7, sv_11), (nat_lit 180, nat_lit 13, sv_17), (nat_lit 183, nat_lit 0, sv_18)], [(nat_lit 2, nat_lit 180, nat_lit 3), (nat_lit 2, nat_lit 180, nat_lit 5), (nat_lit 2, nat_lit 180, nat_lit 7), (nat_lit 2, nat_lit 180, nat_lit 13), (nat_lit 2, nat_lit 183, nat_lit 0)])], [(nat_lit 180, nat_lit 5, nat_lit 13), (nat_lit 183, nat_lit 52, nat_lit 100)], [], [], [])
set_option maxRecDepth 100000 in
theorem syc_206 : CoOk GG MM syt_206 := chk_okF (cs := [syt_141, syt_73, syt_203, syt_204, syt_202, syt_145, syt_201, syt_205, syt_196]) (F := 4000) (cs_c syc_141 <| cs_c syc_73 <| cs_c syc_203 <| cs_c syc_204 <| cs_c syc_202 <| cs_c syc_145 <| cs_c syc_201 <| cs_c syc_205 <| cs_c syc_196 cs_n) (by decide +kernel) (by decide +kernel)
/-- M.isWord -/
def syt_207 : CO := (nat_lit 227, nat_lit 3, [ee_0, ee_13, ee_77], [sv_19, sv_68], [(nat_lit 180, nat_lit 5, sv_1), (nat_lit 180, nat_lit 7, sv_4)], [(nat_lit 2, nat_lit 180, nat_lit 5), (nat_lit 2, nat_lit 180, nat_lit 7)], [(some sv_6, [ee_0, ee_13, ee_77], [(nat_lit 180, nat_lit 5, sv_1), (nat_lit 180, nat_lit 7, sv_4)], []), (some sv_24, [ee_0, ee_13, ee_78], [(nat_lit 180, nat_lit 5, sv_1), (nat_lit 180, nat_lit 7, sv_4)], [])], [], [], [], [])
set_option maxRecDepth 100000 in
theorem syc_207 : CoOk GG MM syt_207 := chk_okF (cs := [syt_89]) (F := 4000) (cs_c syc_89 cs_n) (by decide +kernel) (by decide +kernel)
/-- M.isIn -/
def syt_208 : CO := (nat_lit 218, nat_lit 1, [ee_0, ee_1], [sv_1, sv_24, sv_33], [], [(nat_lit 1, nat_lit 0, nat_lit 0)], [(some sv_24, [ee_0, ee_25], [], []), (some sv_6, [ee_0, ee_1], [], [])], [], [], [], [])
set_option maxRecDepth 100000 in
theorem syc_208 : CoOk GG MM syt_208 := chk_okF (cs := []) (F := 4000) (fun _ h => absurd h List.not_mem_nil) (by decide +kernel) (by decide +kernel)
/-- M.readNumber -/
def syt_209 : CO := (nat_lit 260, nat_lit 3, [ee_0, ee_13, ee_73], [sv_19, sv_24, sv_33], [(nat_lit 180, nat_lit 5, sv_1), (nat_lit 180, nat_lit 7, sv_4)], [(nat_lit 2, nat_lit 180, nat_lit 5), (nat_lit 2, nat_lit 180, nat_lit 7)], [(some sv_6, [ee_0, ee_13, ee_73], [(nat_lit 180, nat_lit 5, sv_1), (nat_lit 180, nat_lit 7, sv_4)], []), (some sv_24, [ee_0, ee_13, ee_128, ee_72, ee_75, ee_25], [(nat_lit 180, nat_lit 5, sv_9), (nat_lit 180, nat_lit 7, sv_10), (nat_lit 180, nat_lit 13, sv_11)], [(nat_lit 2, nat_lit 180, nat_lit 5), (nat_lit 2, nat_lit 180, nat_lit 7), (nat_lit 2, nat_lit 180, nat_lit 13)]), (some sv_24, [ee_0, ee_16, ee_128, ee_2, ee_57, ee_25], [(nat_lit 180, nat_lit 3, sv_9), (nat_lit 180, nat_lit 5, sv_10), (nat_lit 180, nat_lit 7, sv_38), (nat_lit 180, nat_lit 13, sv_11)], [(nat_lit 2, nat_lit 180, nat_lit 3), (nat_lit 2, nat_lit 180, nat_lit 5), (nat_lit 2, nat_lit 180, nat_lit 13)])], [(nat_lit 180, nat_lit 5, nat_lit 13)], [], [], [])
set_option maxRecDepth 100000 in
theorem syc_209 : CoOk GG MM syt_209 := chk_okF (cs := [syt_149, syt_200, syt_73, syt_208]) (F := 4000) (cs_c syc_149 <| cs_c syc_200 <| cs_c syc_73 <| cs_c syc_208 cs_n) (by decide +kernel) (by decide +kernel)
/-- M.put -/
def syt_210 : CO := (nat_lit 244, nat_lit 1, [ee_0, ee_25], [sv_19, sv_32, sv_24], [(nat_lit 180, nat_lit 13, sv_1)], [(nat_lit 2, nat_lit 180, nat_lit 13)], [(some sv_24, [ee_0, ee_25], [(nat_lit 180, nat_lit 13, sv_1)], [])], [(nat_lit 183, nat_lit 2, nat_lit 2)], [], [], [])
set_option maxRecDepth 100000 in
theorem syc_210 : CoOk GG MM syt_210 := chk_okF (cs := []) (F := 4000) (fun _ h => absurd h List.not_mem_nil) (by decide +kernel) (by decide +kernel)
/-- M.put -/
def syt_211 : CO := (nat_lit 244, nat_lit 1, [ee_0], [sv_19, sv_32, sv_6], [], [], [(some sv_6, [ee_0], [], [])], [], [], [], [])
set_option maxRecDepth 100000 in
theorem syc_211 : CoOk GG MM syt_211 := chk_okF (cs := []) (F := 4000) (fun _ h => absurd h List.not_mem_nil) (by decide +kernel) (by decide +kernel)
/-- M.readNumber -/
def syt_212 : CO := (nat_lit 260, nat_lit 2, [ee_0, ee_13], [sv_19, sv_24, sv_33], [(nat_lit 180, nat_lit 5, sv_1), (nat_lit 180, nat_lit 7, sv_38)], [(nat_lit 2, nat_lit 180, nat_lit 5)], [(some sv_6, [ee_0, ee_13], [(nat_lit 180, nat_lit 5, sv_1), (nat_lit 180, nat_lit 7, sv_38)], [])], [(nat_lit 180, nat_lit 10, nat_lit 11)], [], [], [])
set_option maxRecDepth 100000 in
theorem syc_212 : CoOk GG MM syt_212 := chk_okF (cs := [syt_144]) (F := 4000) (cs_c syc_144 cs_n) (by decide +kernel) (by decide +kernel)
/-- M.readNumber -/
def syt_213 : CO := (nat_lit 260, nat_lit 2, [ee_0, ee_13, ee_55], [sv_19, sv_24, sv_33], [(nat_lit 180, nat_lit 5, sv_1), (nat_lit 180, nat_lit 7, sv_4)], [(nat_lit 2, nat_lit 180, nat_lit 5), (nat_lit 2, nat_lit 180, nat_lit 7)], [(some sv_6, [ee_0, ee_13, ee_55], [(nat_lit 180, nat_lit 5, sv_1), (nat_lit 180, nat_lit 7, sv_4)], [])], [(nat_lit 180, nat_lit 10, nat_lit 11)], [], [], [])
set_option maxRecDepth 100000 in
theorem syc_213 : CoOk GG MM syt_213 := chk_okF (cs := [syt_194]) (F := 4000) (cs_c syc_194 cs_n) (by decide +kernel) (by decide +kernel)
/-- M.readOnce -/
def syt_214 : CO := (nat_lit 262, nat_lit 4, [ee_0, ee_13, ee_78], [sv_19, sv_6], [(nat_lit 180, nat_lit 5, sv_1), (nat_lit 180, nat_lit 7, sv_4)], [(nat_lit 2, nat_lit 180, nat_lit 5), (nat_lit 2, nat_lit 180, nat_lit 7)], [(some sv_6, [ee_0, ee_13, ee_78, ee_72, ee_80], [(nat_lit 180, nat_lit 5, sv_9), (nat_lit 180, nat_lit 7, sv_10)], [(nat_lit 2, nat_lit 180, nat_lit 5), (nat_lit 2, nat_lit 180, nat_lit 7)]), (some sv_24, [ee_0, ee_13, ee_78, ee_2, ee_57, ee_25], [(nat_lit 180, nat_lit 3, sv_9), (nat_lit 180, nat_lit 5, sv_10), (nat_lit 180, nat_lit 7, sv_38), (nat_lit 180, nat_lit 13, sv_11)], [(nat_lit 2, nat_lit 180, nat_lit 3), (nat_lit 2, nat_lit 180, nat_lit 5), (nat_lit 2, nat_lit 180, nat_lit 13)]), (some sv_24, [ee_0, ee_13, ee_78, ee_2, ee_72, ee_75, ee_25], [(nat_lit 180, nat_lit 3, sv_9), (nat_lit 180, nat_lit 5, sv_10), (nat_lit 180, nat_lit 7, sv_11), (nat_lit 180, nat_lit 13, sv_17)], [(nat_lit 2, nat_lit 180, nat_lit 3), (nat_lit 2, nat_lit 180, nat_lit 5), (nat_lit 2, nat_lit 180, nat_lit 7), (nat_lit 2, nat_lit 180, nat_lit 13)])], [(nat_lit 180, nat_lit 5, nat_lit 13), (nat_lit 183, nat_lit 2, nat_lit 2), (nat_lit 191, nat_lit 0, nat_lit 0)], [], [], [])
set_option maxRecDepth 100000 in
theorem syc_214 : CoOk GG MM syt_214 := chk_okF (cs := [syt_141, syt_73, syt_211, syt_210, syt_212, syt_209, syt_213]) (F := 4000) (cs_c syc_141 <| cs_c syc_73 <| cs_c syc_211 <| cs_c syc_210 <| cs_c syc_212 <| cs_c syc_209 <| cs_c syc_213 cs_n) (by decide +kernel) (by decide +kernel)
/-- M.isWord -/
def syt_215 : CO := (nat_lit 227, nat_lit 3, [ee_0, ee_13, ee_77], [sv_19, sv_70], [(nat_lit 180, nat_lit 5, sv_1), (nat_lit 180, nat_lit 7, sv_4)], [(nat_lit 2, nat_lit 180, nat_lit 5), (nat_lit 2, nat_lit 180, nat_lit 7)], [(some sv_6, [ee_0, ee_13, ee_77], [(nat_lit 180, nat_lit 5, sv_1), (nat_lit 180, nat_lit 7, sv_4)], []), (some sv_24, [ee_0, ee_13, ee_78], [(nat_lit 180, nat_lit 5, sv_1), (nat_lit 180, nat_lit 7, sv_4)], [])], [], [], [], [])
set_option maxRecDepth 100000 in
theorem syc_215 : CoOk GG MM syt_215 := chk_okF (cs := [syt_91]) (F := 4000) (cs_c syc_91 cs_n) (by decide +kernel) (by decide +kernel)
/-- M.put -/
def syt_216 : CO := (nat_lit 244, nat_lit 1, [ee_0, ee_25], [sv_19, sv_31, sv_24], [(nat_lit 180, nat_lit 13, sv_1)], [(nat_lit 2, nat_lit 180, nat_lit 13)], [(some sv_24, [ee_0, ee_25], [(nat_lit 180, nat_lit 13, sv_1)], [])], [(nat_lit 183, nat_lit 3, nat_lit 3)], [], [], [])
set_option maxRecDepth 100000 in
theorem syc_216 : CoOk GG MM syt_216 := chk_okF (cs := []) (F := 4000) (fun _ h => absurd h List.not_mem_nil) (by decide +kernel) (by decide +kernel)
/-- M.put -/
def syt_217 : CO := (nat_lit 244, nat_lit 1, [ee_0], [sv_19, sv_31, sv_6], [], [], [(some sv_6, [ee_0], [], [])], [], [], [], [])
set_option maxRecDepth 100000 in
theorem syc_217 : CoOk GG MM syt_217 := chk_okF (cs := []) (F := 4000) (fun _ h => absurd h List.not_mem_nil) (by decide +kernel) (by decide +kernel)
/-- M.readOnce -/
def syt_218 : CO := (nat_lit 262, nat_lit 4, [ee_0, ee_13, ee_78], [sv_19, sv_24], [(nat_lit 180, nat_lit 5, sv_1), (nat_lit 180, nat_lit 7, sv_4)], [(nat_lit 2, nat_lit 180, nat_lit 5), (nat_lit 2, nat_lit 180, nat_lit 7)], [(some sv_6, [ee_0, ee_13, ee_78, ee_72, ee_80], [(nat_lit 180, nat_lit 5, sv_9), (nat_lit 180, nat_lit 7, sv_10)], [(nat_lit 2, nat_lit 180, nat_lit 5), (nat_lit 2, nat_lit 180, nat_lit 7)]), (some sv_24, [ee_0, ee_13, ee_78, ee_2, ee_57, ee_25], [(nat_lit 180, nat_lit 3, sv_9), (nat_lit 180, nat_lit 5, sv_10), (nat_lit 180, nat_lit 7, sv_38), (nat_lit 180, nat_lit 13, sv_11)], [(nat_lit 2, nat_lit 180, nat_lit 3), (nat_lit 2, nat_lit 180, nat_lit 5), (nat_lit 2, nat_lit 180, nat_lit 13)]), (some sv_24, [ee_0, ee_13, ee_78, ee_2, ee_72, ee_75, ee_25], [(nat_lit 180, nat_lit 3, sv_9), (nat_lit 180, nat_lit 5, sv_10), (nat_lit 180, nat_lit 7, sv_11), (nat_lit 180, nat_lit 13, sv_17)], [(nat_lit 2, nat_lit 180, nat_lit 3), (nat_lit 2, nat_lit 180, nat_lit 5), (nat_lit 2, nat_lit 180, nat_lit 7), (nat_lit 2, nat_lit 180, nat_lit 13)])], [(nat_lit 180, nat_lit 5, nat_lit 13), (nat_lit 183, nat_lit 3, nat_lit 3), (nat_lit 191, nat_lit 1, nat_lit 1)], [], [], [])
set_option maxRecDepth 100000 in
theorem syc_218 : CoOk GG MM syt_218 := chk_okF (cs := [syt_141, syt_73, syt_217, syt_216, syt_212, syt_209, syt_213]) (F := 4000) (cs_c syc_141 <| cs_c syc_73 <| cs_c syc_217 <| cs_c syc_216 <| cs_c syc_212 <| cs_c syc_209 <| cs_c syc_213 cs_n) (by decide +kernel) (by decide +kernel)
/-- M.isWord -/
def syt_219 : CO := (nat_lit 227, nat_lit 3, [ee_0, ee_13, ee_77], [sv_19, sv_59], [(nat_lit 180, nat_lit 5, sv_1), (nat_lit 180, nat_lit 7, sv_4)], [(nat_lit 2, nat_lit 180, nat_lit 5), (nat_lit 2, nat_lit 180, nat_lit 7)], [(some sv_6, [ee_0, ee_13, ee_77], [(nat_lit 180, nat_lit 5, sv_1), (nat_lit 180, nat_lit 7, sv_4)], []), (some sv_24, [ee_0, ee_13, ee_78], [(nat_lit 180, nat_lit 5, sv_1), (nat_lit 180, nat_lit 7, sv_4)], [])], [], [], [], [])
set_option maxRecDepth 100000 in
theorem syc_219 : CoOk GG MM syt_219 := chk_okF (cs := [syt_93]) (F := 4000) (cs_c syc_93 cs_n) (by decide +kernel) (by decide +kernel)
/-- M.put -/
def syt_220 : CO := (nat_lit 244, nat_lit 1, [ee_0, ee_25], [sv_19, sv_38, sv_24], [(nat_lit 180, nat_lit 13, sv_1)], [(nat_lit 2, nat_lit 180, nat_lit 13)], [(some sv_24, [ee_0, ee_25], [(nat_lit 180, nat_lit 13, sv_1)], [])], [(nat_lit 183, nat_lit 4, nat_lit 4)], [], [], [])
set_option maxRecDepth 100000 in
theorem syc_220 : CoOk GG MM syt_220 := chk_okF (cs := []) (F := 4000) (fun _ h => absurd h List.not_mem_nil) (by decide +kernel) (by decide +kernel)
/-- M.put -/
def syt_221 : CO := (nat_lit 244, nat_lit 1, [ee_0], [sv_19, sv_38, sv_6], [], [], [(some sv_6, [ee_0], [], [])], [], [], [], [])
set_option maxRecDepth 100000 in
theorem syc_221 : CoOk GG MM syt_221 := chk_okF (cs := []) (F := 4000) (fun _ h => absurd h List.not_mem_nil) (by decide +kernel) (by decide +kernel)
/-- M.readOnce -/
def syt_222 : CO := (nat_lit 262, nat_lit 4, [ee_0, ee_13, ee_78], [sv_19, sv_32], [(nat_lit 180, nat_lit 5, sv_1), (nat_lit 180, nat_lit 7, sv_4)], [(nat_lit 2, nat_lit 180, nat_lit 5), (nat_lit 2, nat_lit 180, nat_lit 7)], [(some sv_6, [ee_0, ee_13, ee_78, ee_72, ee_80], [(nat_lit 180, nat_lit 5, sv_9), (nat_lit 180, nat_lit 7, sv_10)], [(nat_lit 2, nat_lit 180, nat_lit 5), (nat_lit 2, nat_lit 180, nat_lit 7)]), (some sv_24, [ee_0, ee_13, ee_78, ee_2, ee_57, ee_25], [(nat_lit 180, nat_lit 3, sv_9), (nat_lit 180, nat_lit 5, sv_10), (nat_lit 180, nat_lit 7, sv_38), (nat_lit 180, nat_lit 13, sv_11)], [(nat_lit 2, nat_lit 180, nat_lit 3), (nat_lit 2, nat_lit 180, nat_lit 5), (nat_lit 2, nat_lit 180, nat_lit 13)]), (some sv_24, [ee_0, ee_13, ee_78, ee_2, ee_72, ee_75, ee_25], [(nat_lit 180, nat_lit 3, sv_9), (nat_lit 180, nat_lit 5, sv_10), (nat_lit 180, nat_lit 7, sv_11), (nat_lit 180, nat_lit 13, sv_17)], [(nat_lit 2, nat_lit 180, nat_lit 3), (nat_lit 2, nat_lit 180, nat_lit 5), (nat_lit 2, nat_lit 180, nat_lit 7), (nat_lit 2, nat_lit 180, nat_lit 13)])], [(nat_lit 180, nat_lit 5, nat_lit 13), (nat_lit 183, nat_lit 4, nat_lit 4), (nat_lit 191, nat_lit 2, nat_lit 2)], [], [], [])
set_option maxRecDepth 100000 in
theorem syc_222 : CoOk GG MM syt_222 := chk_okF (cs := [syt_141, syt_73, syt_221, syt_220, syt_212, syt_209, syt_213]) (F := 4000) (cs_c syc_141 <| cs_c syc_73 <| cs_c syc_221 <| cs_c syc_220 <| cs_c syc_212 <| cs_c syc_209 <| cs_c syc_213 cs_n) (by decide +kernel) (by decide +kernel)
/-- M.bad -/
def syt_223 : CO := (nat_lit 174, nat_lit 1, [ee_0, ee_13, ee_77], [sv_19, sv_24], [(nat_lit 180, nat_lit 5, sv_1), (nat_lit 180, nat_lit 7, sv_4)], [(nat_lit 2, nat_lit 180, nat_lit 5), (nat_lit 2, nat_lit 180, nat_lit 7)], [(some sv_6, [ee_0, ee_13, ee_77], [(nat_lit 180, nat_lit 5, sv_1), (nat_lit 180, nat_lit 7, sv_4)], [])], [(nat_lit 180, nat_lit 10, nat_lit 11)], [], [], [])
set_option maxRecDepth 100000 in
theorem syc_223 : CoOk GG MM syt_223 := chk_okF (cs := []) (F := 4000) (fun _ h => absurd h List.not_mem_nil) (by decide +kernel) (by decide +kernel)
/-- M.readLine -/
def syt_224 : CO := (nat_lit 256, nat_lit 7, [ee_0, ee_13, ee_77], [sv_19], [(nat_lit 180, nat_lit 5, sv_1), (nat_lit 180, nat_lit 7, sv_4)], [(nat_lit 2, nat_lit 180, nat_lit 5), (nat_lit 2, nat_lit 180, nat_lit 7)], [(some sv_24, [ee_0, ee_13, ee_78, ee_72, ee_75, ee_33], [(nat_lit 180, nat_lit 5, sv_9), (nat_lit 180, nat_lit 7, sv_10), (nat_lit 180, nat_lit 13, sv_11)], [(nat_lit 2, nat_lit 180, nat_lit 5), (nat_lit 2, nat_lit 180, nat_lit 7), (nat_lit 2, nat_lit 180, nat_lit 13)]), (some sv_24, [ee_0, ee_13, ee_78, ee_2, ee_57, ee_33], [(nat_lit 180, nat_lit 3, sv_9), (nat_lit 180, nat_lit 5, sv_10), (nat_lit 180, nat_lit 7, sv_38), (nat_lit 180, nat_lit 13, sv_11)], [(nat_lit 2, nat_lit 180, nat_lit 3), (nat_lit 2, nat_lit 180, nat_lit 5), (nat_lit 2, nat_lit 180, nat_lit 13)]), (some sv_6, [ee_0, ee_13, ee_77, ee_72, ee_80], [(nat_lit 180, nat_lit 5, sv_9), (nat_lit 180, nat_lit 7, sv_10)], [(nat_lit 2, nat_lit 180, nat_lit 5), (nat_lit 2, nat_lit 180, nat_lit 7)])], [(nat_lit 180, nat_lit 5, nat_lit 13), (nat_lit 183, nat_lit 0, nat_lit 100), (nat_lit 188, nat_lit 0, nat_lit 14), (nat_lit 191, nat_lit 0, nat_lit 2)], [(nat_lit 54, nat_lit 1, nat_lit 0, ([ee_0, ee_13, ee_77], [(nat_lit 0, sv_19), (nat_lit 1, sv_6)], [], [(nat_lit 180, nat_lit 5, sv_1), (nat_lit 180, nat_lit 7, sv_4)]), [], [(nat_lit 54, nat_lit 1)]),
  (nat_lit 54, nat_lit 2, nat_lit 0, ([ee_0, ee_13, ee_77], [(nat_lit 0, sv_19), (nat_lit 1, sv_24)], [], [(nat_lit 180, nat_lit 5, sv_1), (nat_lit 180, nat_lit 7, sv_4)]), [], [(nat_lit 54, nat_lit 2)]),
  (nat_lit 54, nat_lit 3, nat_lit 0, ([ee_0, ee_13, ee_77], [(nat_lit 0, sv_19), (nat_lit 1, sv_32)], [], [(nat_lit 180, nat_lit 5, sv_1), (nat_lit 180, nat_lit 7, sv_4)]), [], [(nat_lit 54, nat_lit 3)]),
  (nat_lit 54, nat_lit 4, nat_lit 0, ([ee_0, ee_13, ee_77], [(nat_lit 0, sv_19), (nat_lit 1, sv_31)], [], [(nat_lit 180, nat_lit 5, sv_1), (nat_lit 180, nat_lit 7, sv_4)]), [], [])], [], [(nat_lit 54, nat_lit 0)])
set_option maxRecDepth 100000 in
theorem syc_224 : CoOk GG MM syt_224 := chk_okF (cs := [syt_223, syt_77, syt_160, syt_187, syt_199, syt_207, syt_215, syt_219, syt_186, syt_206, syt_214, syt_218, syt_222, syt_159, syt_198]) (F := 4000) (cs_c syc_223 <| cs_c syc_77 <| cs_c syc_160 <| cs_c syc_187 <| cs_c syc_199 <| cs_c syc_207 <| cs_c syc_215 <| cs_c syc_219 <| cs_c syc_186 <| cs_c syc_206 <| cs_c syc_214 <| cs_c syc_218 <| cs_c syc_222 <| cs_c syc_159 <| cs_c syc_198 cs_n) (by decide +kernel) (by decide +kernel)
/-- M.isSign -/
def syt_225 : CO := (nat_lit 225, nat_lit 1, [ee_0, ee_13], [sv_19, sv_34], [(nat_lit 180, nat_lit 5, sv_1), (nat_lit 180, nat_lit 7, sv_38)], [(nat_lit 2, nat_lit 180, nat_lit 5)], [(some sv_24, [ee_0, ee_13], [(nat_lit 180, nat_lit 5, sv_1), (nat_lit 180, nat_lit 7, sv_38)], []), (some sv_6, [ee_0, ee_13], [(nat_lit 180, nat_lit 5, sv_1), (nat_lit 180, nat_lit 7, sv_38)], [])], [], [], [], [])
set_option maxRecDepth 100000 in
theorem syc_225 : CoOk GG MM syt_225 := chk_okF (cs := []) (F := 4000) (fun _ h => absurd h List.not_mem_nil) (by decide +kernel) (by decide +kernel)
/-- M.readEnd -/
def syt_226 : CO := (nat_lit 251, nat_lit 3, [ee_0, ee_13], [sv_19], [(nat_lit 180, nat_lit 5, sv_1), (nat_lit 180, nat_lit 7, sv_38)], [(nat_lit 2, nat_lit 180, nat_lit 5)], [(some sv_6, [ee_0, ee_13], [(nat_lit 180, nat_lit 5, sv_1), (nat_lit 180, nat_lit 7, sv_38)], []), (some sv_24, [ee_0, ee_13, ee_72, ee_80], [(nat_lit 180, nat_lit 5, sv_4), (nat_lit 180, nat_lit 7, sv_9)], [(nat_lit 2, nat_lit 180, nat_lit 5), (nat_lit 2, nat_lit 180, nat_lit 7)])], [(nat_lit 180, nat_lit 5, nat_lit 12)], [], [], [])
set_option maxRecDepth 100000 in
theorem syc_226 : CoOk GG MM syt_226 := chk_okF (cs := [syt_144, syt_73, syt_225]) (F := 4000) (cs_c syc_144 <| cs_c syc_73 <| cs_c syc_225 cs_n) (by decide +kernel) (by decide +kernel)
/-- M.isSign -/
def syt_227 : CO := (nat_lit 225, nat_lit 1, [ee_0, ee_13, ee_75], [sv_19, sv_34], [(nat_lit 180, nat_lit 5, sv_1), (nat_lit 180, nat_lit 7, sv_4)], [(nat_lit 2, nat_lit 180, nat_lit 5), (nat_lit 2, nat_lit 180, nat_lit 7)], [(some sv_6, [ee_0, ee_13, ee_75], [(nat_lit 180, nat_lit 5, sv_1), (nat_lit 180, nat_lit 7, sv_4)], [])], [], [], [], [])
set_option maxRecDepth 100000 in
theorem syc_227 : CoOk GG MM syt_227 := chk_okF (cs := []) (F := 4000) (fun _ h => absurd h List.not_mem_nil) (by decide +kernel) (by decide +kernel)
/-- M.bad -/
def syt_228 : CO := (nat_lit 174, nat_lit 1, [ee_0, ee_13, ee_75], [sv_19, sv_24], [(nat_lit 180, nat_lit 5, sv_1), (nat_lit 180, nat_lit 7, sv_4)], [(nat_lit 2, nat_lit 180, nat_lit 5), (nat_lit 2, nat_lit 180, nat_lit 7)], [(some sv_6, [ee_0, ee_13, ee_75], [(nat_lit 180, nat_lit 5, sv_1), (nat_lit 180, nat_lit 7, sv_4)], [])], [(nat_lit 180, nat_lit 10, nat_lit 11)], [], [], [])
set_option maxRecDepth 100000 in
theorem syc_228 : CoOk GG MM syt_228 := chk_okF (cs := []) (F := 4000) (fun _ h => absurd h List.not_mem_nil) (by decide +kernel) (by decide +kernel)
/-- M.readEnd -/
def syt_229 : CO := (nat_lit 251, nat_lit 2, [ee_0, ee_13, ee_75], [sv_19], [(nat_lit 180, nat_lit 5, sv_1), (nat_lit 180, nat_lit 7, sv_4)], [(nat_lit 2, nat_lit 180, nat_lit 5), (nat_lit 2, nat_lit 180, nat_lit 7)], [(some sv_6, [ee_0, ee_13, ee_75], [(nat_lit 180, nat_lit 5, sv_1), (nat_lit 180, nat_lit 7, sv_4)], [])], [(nat_lit 180, nat_lit 10, nat_lit 11)], [], [], [])
set_option maxRecDepth 100000 in
theorem syc_229 : CoOk GG MM syt_229 := chk_okF (cs := [syt_228, syt_227]) (F := 4000) (cs_c syc_228 <| cs_c syc_227 cs_n) (by decide +kernel) (by decide +kernel)
/-- M.startSo -/
def syl_230_0 : List LB := [(nat_lit 3, nat_lit 1, nat_lit 0, ([ee_0], [(nat_lit 0, sv_19), (nat_lit 1, sv_63)], [], []), [], [(nat_lit 3, nat_lit 1)]),
  (nat_lit 3, nat_lit 2, nat_lit 0, ([ee_0], [(nat_lit 0, sv_19), (nat_lit 1, sv_53)], [], []), [], [(nat_lit 3, nat_lit 2)]),
  (nat_lit 3, nat_lit 3, nat_lit 0, ([ee_0], [(nat_lit 0, sv_19), (nat_lit 1, sv_98)], [], []), [], [(nat_lit 3, nat_lit 3)]),
  (nat_lit 3, nat_lit 4, nat_lit 0, ([ee_0], [(nat_lit 0, sv_19), (nat_lit 1, sv_99)], [], []), [], [(nat_lit 3, nat_lit 4)]),
  (nat_lit 3, nat_lit 5, nat_lit 0, ([ee_0], [(nat_lit 0, sv_19), (nat_lit 1, sv_100)], [], []), [], [(nat_lit 3, nat_lit 5)]),
  (nat_lit 3, nat_lit 6, nat_lit 0, ([ee_0], [(nat_lit 0, sv_19), (nat_lit 1, sv_101)], [], []), [], [(nat_lit 3, nat_lit 6)]),
  (nat_lit 3, nat_lit 7, nat_lit 0, ([ee_0], [(nat_lit 0, sv_19), (nat_lit 1, sv_102)], [], []), [], [(nat_lit 3, nat_lit 7)]),
  (nat_lit 3, nat_lit 8, nat_lit 0, ([ee_0], [(nat_lit 0, sv_19), (nat_lit 1, sv_103)], [], []), [], [(nat_lit 3, nat_lit 8)]),
  (nat_lit 3, nat_lit 9, nat_lit 0, ([ee_0], [(nat_lit 0, sv_19), (nat_lit 1, sv_104)], [], []), [], [(nat_lit 3, nat_lit 9)]),
  (nat_lit 3, nat_lit 10, nat_lit 0, ([ee_0], [(nat_lit 0, sv_19), (nat_lit 1, sv_105)], [], []), [], [(nat_lit 3, nat_lit 10)]),
  (nat_lit 3, nat_lit 11, nat_lit 0, ([ee_0], [(nat_lit 0, sv_19), (nat_lit 1, sv_106)], [], []), [], [(nat_lit 3, nat_lit 11)]),
  (nat_lit 3, nat_lit 12, nat_lit 0, ([ee_0], [(nat_lit 0, sv_19), (nat_lit 1, sv_107)], [], []), [], [(nat_lit 3, nat_lit 12)])]
def syl_230_1 : List LB := [(nat_lit 3, nat_lit 13, nat_lit 0, ([ee_0], [(nat_lit 0, sv_19), (nat_lit 1, sv_108)], [], []), [], [(nat_lit 3, nat_lit 13)]),
  (nat_lit 3, nat_lit 14, nat_lit 0, ([ee_0], [(nat_lit 0, sv_19), (nat_lit 1, sv_109)], [], []), [], [(nat_lit 3, nat_lit 14)]),
  (nat_lit 3, nat_lit 15, nat_lit 0, ([ee_0], [(nat_lit 0, sv_19), (nat_lit 1, sv_110)], [], []), [], [(nat_lit 3, nat_lit 15)]),
  (nat_lit 3, nat_lit 16, nat_lit 0, ([ee_0], [(nat_lit 0, sv_19), (nat_lit 1, sv_111)], [], []), [], [(nat_lit 3, nat_lit 16)]),
  (nat_lit 3, nat_lit 17, nat_lit 0, ([ee_0], [(nat_lit 0, sv_19), (nat_lit 1, sv_112)], [], []), [], [(nat_lit 3, nat_lit 17)]),
  (nat_lit 3, nat_lit 18, nat_lit 0, ([ee_0], [(nat_lit 0, sv_19), (nat_lit 1, sv_113)], [], []), [], [(nat_lit 3, nat_lit 18)]),
  (nat_lit 3, nat_lit 19, nat_lit 0, ([ee_0], [(nat_lit 0, sv_19), (nat_lit 1, sv_114)], [], []), [], [(nat_lit 3, nat_lit 19)]),
  (nat_lit 3, nat_lit 20, nat_lit 0, ([ee_0], [(nat_lit 0, sv_19), (nat_lit 1, sv_115)], [], []), [], [(nat_lit 3, nat_lit 20)]),
  (nat_lit 3, nat_lit 21, nat_lit 0, ([ee_0], [(nat_lit 0, sv_19), (nat_lit 1, sv_116)], [], []), [], [(nat_lit 3, nat_lit 21)]),
  (nat_lit 3, nat_lit 22, nat_lit 0, ([ee_0], [(nat_lit 0, sv_19), (nat_lit 1, sv_117)], [], []), [], [(nat_lit 3, nat_lit 22)]),
  (nat_lit 3, nat_lit 23, nat_lit 0, ([ee_0], [(nat_lit 0, sv_19), (nat_lit 1, sv_118)], [], []), [], [(nat_lit 3, nat_lit 23)]),
  (nat_lit 3, nat_lit 24, nat_lit 0, ([ee_0], [(nat_lit 0, sv_19), (nat_lit 1, sv_119)], [], []), [], [(nat_lit 3, nat_lit 24)])]
def syl_230_2 : List LB := [(nat_lit 3, nat_lit 25, nat_lit 0, ([ee_0], [(nat_lit 0, sv_19), (nat_lit 1, sv_120)], [], []), [], [(nat_lit 3, nat_lit 25)]),
  (nat_lit 3, nat_lit 26, nat_lit 0, ([ee_0], [(nat_lit 0, sv_19), (nat_lit 1, sv_121)], [], []), [], [(nat_lit 3, nat_lit 26)]),
  (nat_lit 3, nat_lit 27, nat_lit 0, ([ee_0], [(nat_lit 0, sv_19), (nat_lit 1, sv_122)], [], []), [], [(nat_lit 3, nat_lit 27)]),
  (nat_lit 3, nat_lit 28, nat_lit 0, ([ee_0], [(nat_lit 0, sv_19), (nat_lit 1, sv_123)], [], []), [], [(nat_lit 3, nat_lit 28)]),
  (nat_lit 3, nat_lit 29, nat_lit 0, ([ee_0], [(nat_lit 0, sv_19), (nat_lit 1, sv_124)], [], []), [], [(nat_lit 3, nat_lit 29)]),
  (nat_lit 3, nat_lit 30, nat_lit 0, ([ee_0], [(nat_lit 0, sv_19), (nat_lit 1, sv_125)], [], []), [], [(nat_lit 3, nat_lit 30)]),
  (nat_lit 3, nat_lit 31, nat_lit 0, ([ee_0], [(nat_lit 0, sv_19), (nat_lit 1, sv_126)], [], []), [], [(nat_lit 3, nat_lit 31)]),
  (nat_lit 3, nat_lit 32, nat_lit 0, ([ee_0], [(nat_lit 0, sv_19), (nat_lit 1, sv_127)], [], []), [], [(nat_lit 3, nat_lit 32)]),
  (nat_lit 3, nat_lit 33, nat_lit 0, ([ee_0], [(nat_lit 0, sv_19), (nat_lit 1, sv_128)], [], []), [], [(nat_lit 3, nat_lit 33)]),
  (nat_lit 3, nat_lit 34, nat_lit 0, ([ee_0], [(nat_lit 0, sv_19), (nat_lit 1, sv_129)], [], []), [], [(nat_lit 3, nat_lit 34)]),
  (nat_lit 3, nat_lit 35, nat_lit 0, ([ee_0], [(nat_lit 0, sv_19), (nat_lit 1, sv_130)], [], []), [], [(nat_lit 3, nat_lit 35)]),
  (nat_lit 3, nat_lit 36, nat_lit 0, ([ee_0], [(nat_lit 0, sv_19), (nat_lit 1, sv_131)], [], []), [], [(nat_lit 3, nat_lit 36)])]
def syl_230_3 : List LB := [(nat_lit 3, nat_lit 37, nat_lit 0, ([ee_0], [(nat_lit 0, sv_19), (nat_lit 1, sv_132)], [], []), [], [(nat_lit 39, nat_lit 37)]),
  (nat_lit 39, nat_lit 38, nat_lit 0, ([ee_0], [(nat_lit 0, sv_19), (nat_lit 1, sv_6)], [], []), [], [])]
def syt_230 : CO := (nat_lit 280, nat_lit 1, [ee_0], [sv_19], [], [], [(none, [ee_0], [], [])], [(nat_lit 182, nat_lit 101, nat_lit 395)], (syl_230_0 ++ (syl_230_1 ++ (syl_230_2 ++ (syl_230_3)))), [], [(nat_lit 3, nat_lit 0)])
set_option maxRecDepth 100000 in
theorem syp_230_0 : runL_f GG [] syt_230 4000 0 syl_230_0 = true := by decide +kernel
set_option maxRecDepth 100000 in
theorem syp_230_1 : runL_f GG [] syt_230 4000 12 syl_230_1 = true := by decide +kernel
set_option maxRecDepth 100000 in
theorem syp_230_2 : runL_f GG [] syt_230 4000 24 syl_230_2 = true := by decide +kernel
set_option maxRecDepth 100000 in
theorem syp_230_3 : runL_f GG [] syt_230 4000 36 syl_230_3 = true := by decide +kernel
set_option maxRecDepth 100000 in
theorem syc_230 : CoOk GG MM syt_230 := chk_okP (cs := []) (F := 4000) (fun _ h => absurd h List.not_mem_nil) (by decide +kernel) (runL_app (runL_q syp_230_0) (runL_app (runL_q syp_230_1) (runL_app (runL_q syp_230_2) ((runL_q syp_230_3)))))
end
