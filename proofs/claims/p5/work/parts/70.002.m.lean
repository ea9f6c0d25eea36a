section
/-! ===== contracts, inferred and printed by my program, checked here ===== -/
/-- M.duchy -/
def syl_231_0 : List LB := [(nat_lit 9, nat_lit 1, nat_lit 1, ([ee_0, ee_140, ee_13, ee_13, ee_80], [(nat_lit 0, sv_19), (nat_lit 1, sv_1)], [], [(nat_lit 180, nat_lit 2, sv_6), (nat_lit 180, nat_lit 3, sv_4), (nat_lit 180, nat_lit 5, sv_9), (nat_lit 180, nat_lit 7, sv_10)]), [(nat_lit 0, nat_lit 1, nat_lit 0), (nat_lit 2, nat_lit 180, nat_lit 3), (nat_lit 2, nat_lit 180, nat_lit 5), (nat_lit 2, nat_lit 180, nat_lit 7)], [(nat_lit 9, nat_lit 0), (nat_lit 30, nat_lit 1)]),
  (nat_lit 30, nat_lit 2, nat_lit 1, ([ee_0, ee_75, ee_13, ee_13, ee_80], [(nat_lit 0, sv_19), (nat_lit 1, sv_1)], [], [(nat_lit 180, nat_lit 2, sv_6), (nat_lit 180, nat_lit 3, sv_4), (nat_lit 180, nat_lit 5, sv_9), (nat_lit 180, nat_lit 7, sv_10)]), [(nat_lit 0, nat_lit 1, nat_lit 0), (nat_lit 2, nat_lit 180, nat_lit 3), (nat_lit 2, nat_lit 180, nat_lit 5), (nat_lit 2, nat_lit 180, nat_lit 7)], [(nat_lit 30, nat_lit 1), (nat_lit 72, nat_lit 2)]),
  (nat_lit 72, nat_lit 3, nat_lit 1, ([ee_0, ee_13, ee_1, ee_13, ee_80], [(nat_lit 0, sv_19), (nat_lit 1, sv_4)], [], [(nat_lit 180, nat_lit 2, sv_6), (nat_lit 180, nat_lit 3, sv_9), (nat_lit 180, nat_lit 5, sv_1), (nat_lit 180, nat_lit 7, sv_10)]), [(nat_lit 2, nat_lit 180, nat_lit 5), (nat_lit 0, nat_lit 1, nat_lit 0), (nat_lit 2, nat_lit 180, nat_lit 3), (nat_lit 2, nat_lit 180, nat_lit 7)], [(nat_lit 72, nat_lit 2), (nat_lit 108, nat_lit 3)]),
  (nat_lit 108, nat_lit 4, nat_lit 0, ([ee_0, ee_1, ee_13, ee_13, ee_0], [(nat_lit 0, sv_19), (nat_lit 1, sv_1), (nat_lit 2, sv_6)], [], [(nat_lit 180, nat_lit 2, sv_6), (nat_lit 180, nat_lit 3, sv_4), (nat_lit 180, nat_lit 5, sv_9), (nat_lit 180, nat_lit 7, sv_10)]), [(nat_lit 0, nat_lit 1, nat_lit 0), (nat_lit 2, nat_lit 180, nat_lit 3), (nat_lit 2, nat_lit 180, nat_lit 5), (nat_lit 2, nat_lit 180, nat_lit 7)], [(nat_lit 108, nat_lit 4)]),
  (nat_lit 108, nat_lit 5, nat_lit 0, ([ee_0, ee_1, ee_13, ee_13, ee_0, ee_14, ee_30, ee_14, ee_30], [(nat_lit 0, sv_19), (nat_lit 1, sv_1), (nat_lit 2, sv_5)], [], [(nat_lit 180, nat_lit 2, sv_6), (nat_lit 180, nat_lit 3, sv_4), (nat_lit 180, nat_lit 5, sv_9), (nat_lit 180, nat_lit 7, sv_10), (nat_lit 182, nat_lit 0, sv_11), (nat_lit 182, nat_lit 1, sv_17), (nat_lit 183, nat_lit 0, sv_18), (nat_lit 183, nat_lit 1, sv_97)]), [(nat_lit 0, nat_lit 1, nat_lit 0), (nat_lit 2, nat_lit 180, nat_lit 3), (nat_lit 2, nat_lit 180, nat_lit 5), (nat_lit 2, nat_lit 180, nat_lit 7), (nat_lit 2, nat_lit 182, nat_lit 0), (nat_lit 2, nat_lit 182, nat_lit 1), (nat_lit 2, nat_lit 183, nat_lit 0), (nat_lit 2, nat_lit 183, nat_lit 1)], [(nat_lit 108, nat_lit 5)]),
  (nat_lit 108, nat_lit 6, nat_lit 0, ([ee_0, ee_1, ee_13, ee_13, ee_0, ee_14, ee_30, ee_14, ee_30], [(nat_lit 0, sv_19), (nat_lit 1, sv_1), (nat_lit 2, sv_3)], [], [(nat_lit 180, nat_lit 2, sv_6), (nat_lit 180, nat_lit 3, sv_4), (nat_lit 180, nat_lit 5, sv_9), (nat_lit 180, nat_lit 7, sv_10), (nat_lit 182, nat_lit 0, sv_11), (nat_lit 182, nat_lit 1, sv_17), (nat_lit 183, nat_lit 0, sv_18), (nat_lit 183, nat_lit 1, sv_97)]), [(nat_lit 0, nat_lit 1, nat_lit 0), (nat_lit 2, nat_lit 180, nat_lit 3), (nat_lit 2, nat_lit 180, nat_lit 5), (nat_lit 2, nat_lit 180, nat_lit 7), (nat_lit 2, nat_lit 182, nat_lit 0), (nat_lit 2, nat_lit 182, nat_lit 1), (nat_lit 2, nat_lit 183, nat_lit 0), (nat_lit 2, nat_lit 183, nat_lit 1)], [(nat_lit 108, nat_lit 6)]),
  (nat_lit 108, nat_lit 7, nat_lit 0, ([ee_0, ee_1, ee_13, ee_13, ee_0, ee_14, ee_30, ee_14, ee_30], [(nat_lit 0, sv_19), (nat_lit 1, sv_1), (nat_lit 2, sv_2)], [], [(nat_lit 180, nat_lit 2, sv_6), (nat_lit 180, nat_lit 3, sv_4), (nat_lit 180, nat_lit 5, sv_9), (nat_lit 180, nat_lit 7, sv_10), (nat_lit 182, nat_lit 0, sv_11), (nat_lit 182, nat_lit 1, sv_17), (nat_lit 183, nat_lit 0, sv_18), (nat_lit 183, nat_lit 1, sv_97)]), [(nat_lit 0, nat_lit 1, nat_lit 0), (nat_lit 2, nat_lit 180, nat_lit 3), (nat_lit 2, nat_lit 180, nat_lit 5), (nat_lit 2, nat_lit 180, nat_lit 7), (nat_lit 2, nat_lit 182, nat_lit 0), (nat_lit 2, nat_lit 182, nat_lit 1), (nat_lit 2, nat_lit 183, nat_lit 0), (nat_lit 2, nat_lit 183, nat_lit 1)], [(nat_lit 108, nat_lit 7)]),
  (nat_lit 108, nat_lit 8, nat_lit 0, ([ee_0, ee_1, ee_13, ee_13, ee_0, ee_14, ee_30, ee_14, ee_30], [(nat_lit 0, sv_19), (nat_lit 1, sv_1), (nat_lit 2, sv_133)], [], [(nat_lit 180, nat_lit 2, sv_6), (nat_lit 180, nat_lit 3, sv_4), (nat_lit 180, nat_lit 5, sv_9), (nat_lit 180, nat_lit 7, sv_10), (nat_lit 182, nat_lit 0, sv_11), (nat_lit 182, nat_lit 1, sv_17), (nat_lit 183, nat_lit 0, sv_18), (nat_lit 183, nat_lit 1, sv_97)]), [(nat_lit 0, nat_lit 1, nat_lit 0), (nat_lit 2, nat_lit 180, nat_lit 3), (nat_lit 2, nat_lit 180, nat_lit 5), (nat_lit 2, nat_lit 180, nat_lit 7), (nat_lit 2, nat_lit 182, nat_lit 0), (nat_lit 2, nat_lit 182, nat_lit 1), (nat_lit 2, nat_lit 183, nat_lit 0), (nat_lit 2, nat_lit 183, nat_lit 1)], [(nat_lit 108, nat_lit 8)]),
  (nat_lit 108, nat_lit 9, nat_lit 0, ([ee_0, ee_1, ee_13, ee_13, ee_0, ee_14, ee_30, ee_14, ee_30], [(nat_lit 0, sv_19), (nat_lit 1, sv_1), (nat_lit 2, sv_134)], [], [(nat_lit 180, nat_lit 2, sv_6), (nat_lit 180, nat_lit 3, sv_4), (nat_lit 180, nat_lit 5, sv_9), (nat_lit 180, nat_lit 7, sv_10), (nat_lit 182, nat_lit 0, sv_11), (nat_lit 182, nat_lit 1, sv_17), (nat_lit 183, nat_lit 0, sv_18), (nat_lit 183, nat_lit 1, sv_97)]), [(nat_lit 0, nat_lit 1, nat_lit 0), (nat_lit 2, nat_lit 180, nat_lit 3), (nat_lit 2, nat_lit 180, nat_lit 5), (nat_lit 2, nat_lit 180, nat_lit 7), (nat_lit 2, nat_lit 182, nat_lit 0), (nat_lit 2, nat_lit 182, nat_lit 1), (nat_lit 2, nat_lit 183, nat_lit 0), (nat_lit 2, nat_lit 183, nat_lit 1)], [(nat_lit 108, nat_lit 9)]),
  (nat_lit 108, nat_lit 10, nat_lit 0, ([ee_0, ee_1, ee_13, ee_13, ee_0, ee_14, ee_30, ee_14, ee_30], [(nat_lit 0, sv_19), (nat_lit 1, sv_1), (nat_lit 2, sv_135)], [], [(nat_lit 180, nat_lit 2, sv_6), (nat_lit 180, nat_lit 3, sv_4), (nat_lit 180, nat_lit 5, sv_9), (nat_lit 180, nat_lit 7, sv_10), (nat_lit 182, nat_lit 0, sv_11), (nat_lit 182, nat_lit 1, sv_17), (nat_lit 183, nat_lit 0, sv_18), (nat_lit 183, nat_lit 1, sv_97)]), [(nat_lit 0, nat_lit 1, nat_lit 0), (nat_lit 2, nat_lit 180, nat_lit 3), (nat_lit 2, nat_lit 180, nat_lit 5), (nat_lit 2, nat_lit 180, nat_lit 7), (nat_lit 2, nat_lit 182, nat_lit 0), (nat_lit 2, nat_lit 182, nat_lit 1), (nat_lit 2, nat_lit 183, nat_lit 0), (nat_lit 2, nat_lit 183, nat_lit 1)], [(nat_lit 108, nat_lit 10)]),
  (nat_lit 108, nat_lit 11, nat_lit 0, ([ee_0, ee_1, ee_13, ee_13, ee_0, ee_14, ee_30, ee_14, ee_30], [(nat_lit 0, sv_19), (nat_lit 1, sv_1), (nat_lit 2, sv_136)], [], [(nat_lit 180, nat_lit 2, sv_6), (nat_lit 180, nat_lit 3, sv_4), (nat_lit 180, nat_lit 5, sv_9), (nat_lit 180, nat_lit 7, sv_10), (nat_lit 182, nat_lit 0, sv_11), (nat_lit 182, nat_lit 1, sv_17), (nat_lit 183, nat_lit 0, sv_18), (nat_lit 183, nat_lit 1, sv_97)]), [(nat_lit 0, nat_lit 1, nat_lit 0), (nat_lit 2, nat_lit 180, nat_lit 3), (nat_lit 2, nat_lit 180, nat_lit 5), (nat_lit 2, nat_lit 180, nat_lit 7), (nat_lit 2, nat_lit 182, nat_lit 0), (nat_lit 2, nat_lit 182, nat_lit 1), (nat_lit 2, nat_lit 183, nat_lit 0), (nat_lit 2, nat_lit 183, nat_lit 1)], [(nat_lit 108, nat_lit 11)])]
def syl_231_1 : List LB := [(nat_lit 108, nat_lit 12, nat_lit 0, ([ee_0, ee_1, ee_13, ee_13, ee_0, ee_14, ee_30, ee_14, ee_30], [(nat_lit 0, sv_19), (nat_lit 1, sv_1), (nat_lit 2, sv_137)], [], [(nat_lit 180, nat_lit 2, sv_6), (nat_lit 180, nat_lit 3, sv_4), (nat_lit 180, nat_lit 5, sv_9), (nat_lit 180, nat_lit 7, sv_10), (nat_lit 182, nat_lit 0, sv_11), (nat_lit 182, nat_lit 1, sv_17), (nat_lit 183, nat_lit 0, sv_18), (nat_lit 183, nat_lit 1, sv_97)]), [(nat_lit 0, nat_lit 1, nat_lit 0), (nat_lit 2, nat_lit 180, nat_lit 3), (nat_lit 2, nat_lit 180, nat_lit 5), (nat_lit 2, nat_lit 180, nat_lit 7), (nat_lit 2, nat_lit 182, nat_lit 0), (nat_lit 2, nat_lit 182, nat_lit 1), (nat_lit 2, nat_lit 183, nat_lit 0), (nat_lit 2, nat_lit 183, nat_lit 1)], [(nat_lit 108, nat_lit 12)]),
  (nat_lit 108, nat_lit 13, nat_lit 0, ([ee_0, ee_1, ee_13, ee_13, ee_0, ee_14, ee_30, ee_14, ee_30], [(nat_lit 0, sv_19), (nat_lit 1, sv_1), (nat_lit 2, sv_138)], [], [(nat_lit 180, nat_lit 2, sv_6), (nat_lit 180, nat_lit 3, sv_4), (nat_lit 180, nat_lit 5, sv_9), (nat_lit 180, nat_lit 7, sv_10), (nat_lit 182, nat_lit 0, sv_11), (nat_lit 182, nat_lit 1, sv_17), (nat_lit 183, nat_lit 0, sv_18), (nat_lit 183, nat_lit 1, sv_97)]), [(nat_lit 0, nat_lit 1, nat_lit 0), (nat_lit 2, nat_lit 180, nat_lit 3), (nat_lit 2, nat_lit 180, nat_lit 5), (nat_lit 2, nat_lit 180, nat_lit 7), (nat_lit 2, nat_lit 182, nat_lit 0), (nat_lit 2, nat_lit 182, nat_lit 1), (nat_lit 2, nat_lit 183, nat_lit 0), (nat_lit 2, nat_lit 183, nat_lit 1)], [(nat_lit 108, nat_lit 13)]),
  (nat_lit 108, nat_lit 14, nat_lit 0, ([ee_0, ee_1, ee_13, ee_13, ee_0, ee_14, ee_30, ee_14, ee_30], [(nat_lit 0, sv_19), (nat_lit 1, sv_1), (nat_lit 2, sv_139)], [], [(nat_lit 180, nat_lit 2, sv_6), (nat_lit 180, nat_lit 3, sv_4), (nat_lit 180, nat_lit 5, sv_9), (nat_lit 180, nat_lit 7, sv_10), (nat_lit 182, nat_lit 0, sv_11), (nat_lit 182, nat_lit 1, sv_17), (nat_lit 183, nat_lit 0, sv_18), (nat_lit 183, nat_lit 1, sv_97)]), [(nat_lit 0, nat_lit 1, nat_lit 0), (nat_lit 2, nat_lit 180, nat_lit 3), (nat_lit 2, nat_lit 180, nat_lit 5), (nat_lit 2, nat_lit 180, nat_lit 7), (nat_lit 2, nat_lit 182, nat_lit 0), (nat_lit 2, nat_lit 182, nat_lit 1), (nat_lit 2, nat_lit 183, nat_lit 0), (nat_lit 2, nat_lit 183, nat_lit 1)], [(nat_lit 108, nat_lit 14)]),
  (nat_lit 108, nat_lit 15, nat_lit 0, ([ee_0, ee_1, ee_13, ee_13, ee_0, ee_14, ee_30, ee_14, ee_30], [(nat_lit 0, sv_19), (nat_lit 1, sv_1), (nat_lit 2, sv_140)], [], [(nat_lit 180, nat_lit 2, sv_6), (nat_lit 180, nat_lit 3, sv_4), (nat_lit 180, nat_lit 5, sv_9), (nat_lit 180, nat_lit 7, sv_10), (nat_lit 182, nat_lit 0, sv_11), (nat_lit 182, nat_lit 1, sv_17), (nat_lit 183, nat_lit 0, sv_18), (nat_lit 183, nat_lit 1, sv_97)]), [(nat_lit 0, nat_lit 1, nat_lit 0), (nat_lit 2, nat_lit 180, nat_lit 3), (nat_lit 2, nat_lit 180, nat_lit 5), (nat_lit 2, nat_lit 180, nat_lit 7), (nat_lit 2, nat_lit 182, nat_lit 0), (nat_lit 2, nat_lit 182, nat_lit 1), (nat_lit 2, nat_lit 183, nat_lit 0), (nat_lit 2, nat_lit 183, nat_lit 1)], [(nat_lit 108, nat_lit 15)]),
  (nat_lit 108, nat_lit 16, nat_lit 0, ([ee_0, ee_1, ee_13, ee_13, ee_0, ee_14, ee_30, ee_14, ee_30], [(nat_lit 0, sv_19), (nat_lit 1, sv_1), (nat_lit 2, sv_141)], [], [(nat_lit 180, nat_lit 2, sv_6), (nat_lit 180, nat_lit 3, sv_4), (nat_lit 180, nat_lit 5, sv_9), (nat_lit 180, nat_lit 7, sv_10), (nat_lit 182, nat_lit 0, sv_11), (nat_lit 182, nat_lit 1, sv_17), (nat_lit 183, nat_lit 0, sv_18), (nat_lit 183, nat_lit 1, sv_97)]), [(nat_lit 0, nat_lit 1, nat_lit 0), (nat_lit 2, nat_lit 180, nat_lit 3), (nat_lit 2, nat_lit 180, nat_lit 5), (nat_lit 2, nat_lit 180, nat_lit 7), (nat_lit 2, nat_lit 182, nat_lit 0), (nat_lit 2, nat_lit 182, nat_lit 1), (nat_lit 2, nat_lit 183, nat_lit 0), (nat_lit 2, nat_lit 183, nat_lit 1)], [(nat_lit 134, nat_lit 16)]),
  (nat_lit 134, nat_lit 17, nat_lit 1, ([ee_0, ee_141, ee_1, ee_13, ee_13, ee_0, ee_14, ee_30, ee_14, ee_30], [(nat_lit 0, sv_19), (nat_lit 1, sv_4), (nat_lit 2, sv_1)], [], [(nat_lit 180, nat_lit 2, sv_6), (nat_lit 180, nat_lit 3, sv_9), (nat_lit 180, nat_lit 5, sv_10), (nat_lit 180, nat_lit 7, sv_11), (nat_lit 182, nat_lit 0, sv_17), (nat_lit 182, nat_lit 1, sv_18), (nat_lit 183, nat_lit 0, sv_97), (nat_lit 183, nat_lit 1, sv_142)]), [(nat_lit 0, nat_lit 2, nat_lit 0), (nat_lit 0, nat_lit 1, nat_lit 0), (nat_lit 2, nat_lit 180, nat_lit 3), (nat_lit 2, nat_lit 180, nat_lit 5), (nat_lit 2, nat_lit 180, nat_lit 7), (nat_lit 2, nat_lit 182, nat_lit 0), (nat_lit 2, nat_lit 182, nat_lit 1), (nat_lit 2, nat_lit 183, nat_lit 0), (nat_lit 2, nat_lit 183, nat_lit 1)], [(nat_lit 134, nat_lit 16)])]
def syt_231 : CO := (nat_lit 195, nat_lit 8, [ee_0], [sv_19], [], [], [(some sv_10, [ee_0, ee_13, ee_13, ee_80, ee_1], [(nat_lit 180, nat_lit 2, sv_6), (nat_lit 180, nat_lit 3, sv_1), (nat_lit 180, nat_lit 5, sv_4), (nat_lit 180, nat_lit 7, sv_9)], [(nat_lit 2, nat_lit 180, nat_lit 3), (nat_lit 2, nat_lit 180, nat_lit 5), (nat_lit 2, nat_lit 180, nat_lit 7), (nat_lit 1, nat_lit 0, nat_lit 0)])], [(nat_lit 180, nat_lit 0, nat_lit 0), (nat_lit 180, nat_lit 2, nat_lit 13), (nat_lit 180, nat_lit 24, nat_lit 24), (nat_lit 182, nat_lit 0, nat_lit 395), (nat_lit 183, nat_lit 0, nat_lit 100), (nat_lit 187, nat_lit 0, nat_lit 14), (nat_lit 188, nat_lit 0, nat_lit 14), (nat_lit 191, nat_lit 0, nat_lit 2)], (syl_231_0 ++ (syl_231_1)), [], [(nat_lit 9, nat_lit 0)])
set_option maxRecDepth 100000 in
theorem syp_231_0 : runL_f GG [syt_74, syt_226, syt_229, syt_224, syt_230] syt_231 4000 0 syl_231_0 = true := by decide +kernel
set_option maxRecDepth 100000 in
theorem syp_231_1 : runL_f GG [syt_74, syt_226, syt_229, syt_224, syt_230] syt_231 4000 11 syl_231_1 = true := by decide +kernel
set_option maxRecDepth 100000 in
theorem syc_231 : CoOk GG MM syt_231 := chk_okP (cs := [syt_74, syt_226, syt_229, syt_224, syt_230]) (F := 4000) (cs_c syc_74 <| cs_c syc_226 <| cs_c syc_229 <| cs_c syc_224 <| cs_c syc_230 cs_n) (by decide +kernel) (runL_app (runL_q syp_231_0) ((runL_q syp_231_1)))
/-- X.fault -/
def syt_232 : CO := (nat_lit 17, nat_lit 1, [ee_0], [sv_8], [(nat_lit 0, nat_lit 1, sv_12), (nat_lit 0, nat_lit 2, sv_13), (nat_lit 0, nat_lit 7, sv_14), (nat_lit 0, nat_lit 8, sv_15)], [], [(some sv_1, [ee_0, ee_1], [(nat_lit 0, nat_lit 1, sv_12), (nat_lit 0, nat_lit 2, sv_13), (nat_lit 0, nat_lit 7, sv_14), (nat_lit 0, nat_lit 8, sv_15)], [(nat_lit 1, nat_lit 0, nat_lit 0)])], [], [], [], [])
set_option maxRecDepth 100000 in
theorem syc_232 : CoOk GG MM syt_232 := chk_okF (cs := []) (F := 4000) (fun _ h => absurd h List.not_mem_nil) (by decide +kernel) (by decide +kernel)
/-- M.fault -/
def syt_233 : CO := (nat_lit 198, nat_lit 1, [ee_0], [sv_19], [], [], [(some sv_1, [ee_0, ee_1], [], [(nat_lit 1, nat_lit 0, nat_lit 0)])], [(nat_lit 180, nat_lit 0, nat_lit 0)], [], [], [])
set_option maxRecDepth 100000 in
theorem syc_233 : CoOk GG MM syt_233 := chk_okF (cs := []) (F := 4000) (fun _ h => absurd h List.not_mem_nil) (by decide +kernel) (by decide +kernel)
/-- M.isIn -/
def syt_234 : CO := (nat_lit 218, nat_lit 1, [ee_0, ee_1, ee_142], [sv_1, sv_6, sv_4], [], [(nat_lit 1, nat_lit 0, nat_lit 0), (nat_lit 1, nat_lit 2, nat_lit 0)], [(some sv_24, [ee_0, ee_27, ee_27], [], []), (some sv_6, [ee_0, ee_1, ee_142], [], [])], [], [], [], [])
set_option maxRecDepth 100000 in
theorem syc_234 : CoOk GG MM syt_234 := chk_okF (cs := []) (F := 4000) (fun _ h => absurd h List.not_mem_nil) (by decide +kernel) (by decide +kernel)
/-- M.isPerson -/
def syt_235 : CO := (nat_lit 223, nat_lit 2, [ee_0, ee_1], [sv_19, sv_1], [], [(nat_lit 1, nat_lit 1, nat_lit 0)], [(some sv_6, [ee_0, ee_1], [], []), (some sv_24, [ee_0, ee_27, ee_26], [(nat_lit 182, nat_lit 0, sv_4)], [(nat_lit 2, nat_lit 182, nat_lit 0)])], [], [], [], [])
set_option maxRecDepth 100000 in
theorem syc_235 : CoOk GG MM syt_235 := chk_okF (cs := [syt_234]) (F := 4000) (cs_c syc_234 cs_n) (by decide +kernel) (by decide +kernel)
/-- M.isJailed -/
def syt_236 : CO := (nat_lit 219, nat_lit 1, [ee_0, ee_0], [sv_19, sv_1], [], [(nat_lit 1, nat_lit 1, nat_lit 0)], [(some sv_24, [ee_0, ee_0, ee_25], [(nat_lit 182, nat_lit 118, sv_4)], [(nat_lit 2, nat_lit 182, nat_lit 118)]), (some sv_6, [ee_0, ee_0, ee_0], [(nat_lit 182, nat_lit 118, sv_4)], [(nat_lit 2, nat_lit 182, nat_lit 118)])], [], [], [], [])
set_option maxRecDepth 100000 in
theorem syc_236 : CoOk GG MM syt_236 := chk_okF (cs := []) (F := 4000) (fun _ h => absurd h List.not_mem_nil) (by decide +kernel) (by decide +kernel)
/-- M.isJailed -/
def syt_237 : CO := (nat_lit 219, nat_lit 1, [ee_0, ee_55], [sv_19, sv_1], [], [(nat_lit 1, nat_lit 1, nat_lit 0)], [(some sv_24, [ee_0, ee_55], [], []), (some sv_6, [ee_0, ee_55], [], [])], [], [], [], [])
set_option maxRecDepth 100000 in
theorem syc_237 : CoOk GG MM syt_237 := chk_okF (cs := []) (F := 4000) (fun _ h => absurd h List.not_mem_nil) (by decide +kernel) (by decide +kernel)
/-- M.isJailed -/
def syt_238 : CO := (nat_lit 219, nat_lit 1, [ee_0, ee_127], [sv_19, sv_1], [], [(nat_lit 1, nat_lit 1, nat_lit 0)], [(some sv_24, [ee_0, ee_127], [], []), (some sv_6, [ee_0, ee_127], [], [])], [], [], [], [])
set_option maxRecDepth 100000 in
theorem syc_238 : CoOk GG MM syt_238 := chk_okF (cs := []) (F := 4000) (fun _ h => absurd h List.not_mem_nil) (by decide +kernel) (by decide +kernel)
/-- M.isJailed -/
def syt_239 : CO := (nat_lit 219, nat_lit 1, [ee_0, ee_75], [sv_19, sv_1], [], [(nat_lit 1, nat_lit 1, nat_lit 0)], [(some sv_24, [ee_0, ee_75], [], []), (some sv_6, [ee_0, ee_75], [], [])], [], [], [], [])
set_option maxRecDepth 100000 in
theorem syc_239 : CoOk GG MM syt_239 := chk_okF (cs := []) (F := 4000) (fun _ h => absurd h List.not_mem_nil) (by decide +kernel) (by decide +kernel)
/-- M.isJailed -/
def syt_240 : CO := (nat_lit 219, nat_lit 1, [ee_0, ee_80], [sv_19, sv_1], [], [(nat_lit 1, nat_lit 1, nat_lit 0)], [(some sv_24, [ee_0, ee_80], [], []), (some sv_6, [ee_0, ee_80], [], [])], [], [], [], [])
set_option maxRecDepth 100000 in
theorem syc_240 : CoOk GG MM syt_240 := chk_okF (cs := []) (F := 4000) (fun _ h => absurd h List.not_mem_nil) (by decide +kernel) (by decide +kernel)
/-- M.isJailed -/
def syt_241 : CO := (nat_lit 219, nat_lit 1, [ee_0, ee_116], [sv_19, sv_1], [], [(nat_lit 1, nat_lit 1, nat_lit 0)], [(some sv_24, [ee_0, ee_116], [], []), (some sv_6, [ee_0, ee_116], [], [])], [], [], [], [])
set_option maxRecDepth 100000 in
theorem syc_241 : CoOk GG MM syt_241 := chk_okF (cs := []) (F := 4000) (fun _ h => absurd h List.not_mem_nil) (by decide +kernel) (by decide +kernel)
/-- M.isJailed -/
def syt_242 : CO := (nat_lit 219, nat_lit 1, [ee_0, ee_27], [sv_19, sv_1], [], [(nat_lit 1, nat_lit 1, nat_lit 0)], [(some sv_24, [ee_0, ee_27], [], []), (some sv_6, [ee_0, ee_27], [], [])], [], [], [], [])
set_option maxRecDepth 100000 in
theorem syc_242 : CoOk GG MM syt_242 := chk_okF (cs := []) (F := 4000) (fun _ h => absurd h List.not_mem_nil) (by decide +kernel) (by decide +kernel)
/-- M.isSeen -/
def syt_243 : CO := (nat_lit 224, nat_lit 2, [ee_0, ee_27], [sv_19, sv_1], [], [(nat_lit 1, nat_lit 1, nat_lit 0)], [(some sv_24, [ee_0, ee_27, ee_26], [(nat_lit 182, nat_lit 0, sv_4)], [(nat_lit 2, nat_lit 182, nat_lit 0)]), (some sv_6, [ee_0, ee_27], [], [])], [], [(nat_lit 2, nat_lit 1, nat_lit 1, ([ee_0, ee_27, ee_14], [(nat_lit 0, sv_19), (nat_lit 1, sv_1), (nat_lit 2, sv_4)], [], []), [(nat_lit 0, nat_lit 2, nat_lit 0)], [(nat_lit 2, nat_lit 0)])], [], [(nat_lit 2, nat_lit 0)])
set_option maxRecDepth 100000 in
theorem syc_243 : CoOk GG MM syt_243 := chk_okF (cs := [syt_197, syt_236, syt_237, syt_238, syt_239, syt_240, syt_241, syt_242]) (F := 4000) (cs_c syc_197 <| cs_c syc_236 <| cs_c syc_237 <| cs_c syc_238 <| cs_c syc_239 <| cs_c syc_240 <| cs_c syc_241 <| cs_c syc_242 cs_n) (by decide +kernel) (by decide +kernel)
/-- M.isGloved -/
def syt_244 : CO := (nat_lit 217, nat_lit 2, [ee_0, ee_27], [sv_19, sv_1], [], [(nat_lit 1, nat_lit 1, nat_lit 0)], [(some sv_6, [ee_0, ee_27], [], []), (some sv_24, [ee_0, ee_27], [], [])], [], [], [], [])
set_option maxRecDepth 100000 in
theorem syc_244 : CoOk GG MM syt_244 := chk_okF (cs := [syt_197]) (F := 4000) (cs_c syc_197 cs_n) (by decide +kernel) (by decide +kernel)
/-- M.refuse -/
def syt_245 : CO := (nat_lit 268, nat_lit 1, [ee_0], [sv_19], [], [], [(some sv_6, [ee_0], [], [])], [(nat_lit 180, nat_lit 0, nat_lit 0)], [], [], [])
set_option maxRecDepth 100000 in
theorem syc_245 : CoOk GG MM syt_245 := chk_okF (cs := []) (F := 4000) (fun _ h => absurd h List.not_mem_nil) (by decide +kernel) (by decide +kernel)
/-- M.person -/
def syt_246 : CO := (nat_lit 243, nat_lit 3, [ee_0, ee_1, ee_1], [sv_19, sv_1, sv_4], [], [(nat_lit 1, nat_lit 1, nat_lit 0), (nat_lit 1, nat_lit 2, nat_lit 0)], [(some sv_6, [ee_0, ee_1, ee_1], [], []), (some sv_24, [ee_0, ee_27, ee_133, ee_26], [(nat_lit 182, nat_lit 0, sv_9)], [(nat_lit 2, nat_lit 182, nat_lit 0)]), (some sv_10, [ee_0, ee_27, ee_27, ee_26, ee_1], [(nat_lit 182, nat_lit 0, sv_9)], [(nat_lit 2, nat_lit 182, nat_lit 0), (nat_lit 1, nat_lit 0, nat_lit 0)])], [(nat_lit 180, nat_lit 0, nat_lit 0)], [], [], [])
set_option maxRecDepth 100000 in
theorem syc_246 : CoOk GG MM syt_246 := chk_okF (cs := [syt_244, syt_235, syt_243, syt_245]) (F := 4000) (cs_c syc_244 <| cs_c syc_235 <| cs_c syc_243 <| cs_c syc_245 cs_n) (by decide +kernel) (by decide +kernel)
/-- X.isPerson -/
def syt_247 : CO := (nat_lit 28, nat_lit 1, [ee_0, ee_1], [sv_8, sv_1], [(nat_lit 0, nat_lit 1, sv_12)], [(nat_lit 1, nat_lit 1, nat_lit 0)], [(some sv_24, [ee_0, ee_27], [(nat_lit 0, nat_lit 1, sv_12)], []), (some sv_6, [ee_0, ee_1], [(nat_lit 0, nat_lit 1, sv_12)], [])], [], [], [], [])
set_option maxRecDepth 100000 in
theorem syc_247 : CoOk GG MM syt_247 := chk_okF (cs := []) (F := 4000) (fun _ h => absurd h List.not_mem_nil) (by decide +kernel) (by decide +kernel)
/-- X.isHand -/
def syt_248 : CO := (nat_lit 27, nat_lit 1, [ee_0, ee_1], [sv_1], [], [(nat_lit 1, nat_lit 0, nat_lit 0)], [(some sv_24, [ee_0, ee_127], [], []), (some sv_6, [ee_0, ee_1], [], [])], [], [], [], [])
set_option maxRecDepth 100000 in
theorem syc_248 : CoOk GG MM syt_248 := chk_okF (cs := []) (F := 4000) (fun _ h => absurd h List.not_mem_nil) (by decide +kernel) (by decide +kernel)
/-- Duchy.skillOf -/
def syt_249 : CO := (nat_lit 81, nat_lit 1, [ee_0, ee_27, ee_127], [sv_12, sv_1, sv_4], [], [(nat_lit 1, nat_lit 1, nat_lit 0), (nat_lit 1, nat_lit 2, nat_lit 0)], [(some sv_9, [ee_0, ee_27, ee_127, ee_1], [], [(nat_lit 1, nat_lit 0, nat_lit 0)])], [], [], [], [])
set_option maxRecDepth 100000 in
theorem syc_249 : CoOk GG MM syt_249 := chk_okF (cs := []) (F := 4000) (fun _ h => absurd h List.not_mem_nil) (by decide +kernel) (by decide +kernel)
/-- X.skill -/
def syt_250 : CO := (nat_lit 39, nat_lit 2, [ee_0, ee_1, ee_1], [sv_8, sv_1, sv_4], [(nat_lit 0, nat_lit 1, sv_12), (nat_lit 0, nat_lit 2, sv_13), (nat_lit 0, nat_lit 7, sv_14), (nat_lit 0, nat_lit 8, sv_15)], [(nat_lit 1, nat_lit 1, nat_lit 0), (nat_lit 1, nat_lit 2, nat_lit 0)], [(some sv_16, [ee_0, ee_1, ee_1], [(nat_lit 0, nat_lit 1, sv_12), (nat_lit 0, nat_lit 2, sv_13), (nat_lit 0, nat_lit 7, sv_14), (nat_lit 0, nat_lit 8, sv_15)], []), (some sv_9, [ee_0, ee_27, ee_127, ee_1], [(nat_lit 0, nat_lit 1, sv_12), (nat_lit 0, nat_lit 2, sv_13), (nat_lit 0, nat_lit 7, sv_14), (nat_lit 0, nat_lit 8, sv_15)], [(nat_lit 1, nat_lit 0, nat_lit 0)])], [], [], [], [])
set_option maxRecDepth 100000 in
theorem syc_250 : CoOk GG MM syt_250 := chk_okF (cs := [syt_248, syt_247, syt_249]) (F := 4000) (cs_c syc_248 <| cs_c syc_247 <| cs_c syc_249 cs_n) (by decide +kernel) (by decide +kernel)
/-- M.isIn -/
def syt_251 : CO := (nat_lit 218, nat_lit 1, [ee_0, ee_1], [sv_1, sv_6, sv_32], [], [(nat_lit 1, nat_lit 0, nat_lit 0)], [(some sv_24, [ee_0, ee_127], [], []), (some sv_6, [ee_0, ee_1], [], [])], [], [], [], [])
set_option maxRecDepth 100000 in
theorem syc_251 : CoOk GG MM syt_251 := chk_okF (cs := []) (F := 4000) (fun _ h => absurd h List.not_mem_nil) (by decide +kernel) (by decide +kernel)
/-- M.skillOf -/
def syt_252 : CO := (nat_lit 276, nat_lit 1, [ee_0, ee_27, ee_127], [sv_19, sv_1, sv_4], [], [(nat_lit 1, nat_lit 1, nat_lit 0), (nat_lit 1, nat_lit 2, nat_lit 0)], [(some sv_9, [ee_0, ee_27, ee_127, ee_1], [], [(nat_lit 1, nat_lit 0, nat_lit 0)])], [], [], [], [])
set_option maxRecDepth 100000 in
theorem syc_252 : CoOk GG MM syt_252 := chk_okF (cs := []) (F := 4000) (fun _ h => absurd h List.not_mem_nil) (by decide +kernel) (by decide +kernel)
/-- M.skill -/
def syt_253 : CO := (nat_lit 275, nat_lit 3, [ee_0, ee_1, ee_1], [sv_19, sv_1, sv_4], [], [(nat_lit 1, nat_lit 1, nat_lit 0), (nat_lit 1, nat_lit 2, nat_lit 0)], [(some sv_16, [ee_0, ee_1, ee_1], [], []), (some sv_10, [ee_0, ee_27, ee_127, ee_26, ee_1], [(nat_lit 182, nat_lit 0, sv_9)], [(nat_lit 2, nat_lit 182, nat_lit 0), (nat_lit 1, nat_lit 0, nat_lit 0)])], [(nat_lit 180, nat_lit 0, nat_lit 0)], [], [], [])
set_option maxRecDepth 100000 in
theorem syc_253 : CoOk GG MM syt_253 := chk_okF (cs := [syt_251, syt_235, syt_252]) (F := 4000) (cs_c syc_251 <| cs_c syc_235 <| cs_c syc_252 cs_n) (by decide +kernel) (by decide +kernel)
/-- X.isDeed -/
def syt_254 : CO := (nat_lit 26, nat_lit 1, [ee_0, ee_1], [sv_8, sv_1], [(nat_lit 0, nat_lit 1, sv_12)], [(nat_lit 1, nat_lit 1, nat_lit 0)], [(some sv_24, [ee_0, ee_14], [(nat_lit 0, nat_lit 1, sv_12)], []), (some sv_6, [ee_0, ee_1], [(nat_lit 0, nat_lit 1, sv_12)], [])], [], [], [], [])
set_option maxRecDepth 100000 in
theorem syc_254 : CoOk GG MM syt_254 := chk_okF (cs := []) (F := 4000) (fun _ h => absurd h List.not_mem_nil) (by decide +kernel) (by decide +kernel)
/-- Duchy.needsBoth -/
def syt_255 : CO := (nat_lit 72, nat_lit 1, [ee_0, ee_14], [sv_12, sv_1], [], [(nat_lit 1, nat_lit 1, nat_lit 0)], [(some sv_24, [ee_0, ee_14], [], []), (some sv_6, [ee_0, ee_14], [], [])], [], [], [], [])
set_option maxRecDepth 100000 in
theorem syc_255 : CoOk GG MM syt_255 := chk_okF (cs := []) (F := 4000) (fun _ h => absurd h List.not_mem_nil) (by decide +kernel) (by decide +kernel)
/-- X.deed -/
def syt_256 : CO := (nat_lit 11, nat_lit 2, [ee_0, ee_1, ee_1], [sv_8, sv_1, sv_4], [(nat_lit 0, nat_lit 1, sv_12), (nat_lit 0, nat_lit 2, sv_13), (nat_lit 0, nat_lit 7, sv_14), (nat_lit 0, nat_lit 8, sv_15)], [(nat_lit 1, nat_lit 1, nat_lit 0), (nat_lit 1, nat_lit 2, nat_lit 0)], [(some sv_16, [ee_0, ee_1, ee_1], [(nat_lit 0, nat_lit 1, sv_12), (nat_lit 0, nat_lit 2, sv_13), (nat_lit 0, nat_lit 7, sv_14), (nat_lit 0, nat_lit 8, sv_15)], []), (some sv_9, [ee_0, ee_14, ee_80, ee_1], [(nat_lit 0, nat_lit 1, sv_12), (nat_lit 0, nat_lit 2, sv_13), (nat_lit 0, nat_lit 7, sv_14), (nat_lit 0, nat_lit 8, sv_15)], [(nat_lit 1, nat_lit 0, nat_lit 0)]), (some sv_6, [ee_0, ee_14, ee_128], [(nat_lit 0, nat_lit 1, sv_12), (nat_lit 0, nat_lit 2, sv_13), (nat_lit 0, nat_lit 7, sv_14), (nat_lit 0, nat_lit 8, sv_15)], []), (some sv_24, [ee_0, ee_14, ee_128], [(nat_lit 0, nat_lit 1, sv_12), (nat_lit 0, nat_lit 2, sv_13), (nat_lit 0, nat_lit 7, sv_14), (nat_lit 0, nat_lit 8, sv_15)], [])], [], [], [], [])
set_option maxRecDepth 100000 in
theorem syc_256 : CoOk GG MM syt_256 := chk_okF (cs := [syt_254, syt_255]) (F := 4000) (cs_c syc_254 <| cs_c syc_255 cs_n) (by decide +kernel) (by decide +kernel)
/-- M.isIn -/
def syt_257 : CO := (nat_lit 218, nat_lit 1, [ee_0, ee_1, ee_143], [sv_1, sv_6, sv_4], [], [(nat_lit 1, nat_lit 0, nat_lit 0), (nat_lit 1, nat_lit 2, nat_lit 0)], [(some sv_24, [ee_0, ee_14, ee_14], [], []), (some sv_6, [ee_0, ee_1, ee_143], [], [])], [], [], [], [])
set_option maxRecDepth 100000 in
theorem syc_257 : CoOk GG MM syt_257 := chk_okF (cs := []) (F := 4000) (fun _ h => absurd h List.not_mem_nil) (by decide +kernel) (by decide +kernel)
/-- M.isDeed -/
def syt_258 : CO := (nat_lit 214, nat_lit 2, [ee_0, ee_1], [sv_19, sv_1], [], [(nat_lit 1, nat_lit 1, nat_lit 0)], [(some sv_6, [ee_0, ee_1], [], []), (some sv_24, [ee_0, ee_14, ee_31], [(nat_lit 182, nat_lit 1, sv_4)], [(nat_lit 2, nat_lit 182, nat_lit 1)])], [], [], [], [])
set_option maxRecDepth 100000 in
theorem syc_258 : CoOk GG MM syt_258 := chk_okF (cs := [syt_257]) (F := 4000) (cs_c syc_257 cs_n) (by decide +kernel) (by decide +kernel)
/-- M.deed -/
def syt_259 : CO := (nat_lit 188, nat_lit 3, [ee_0, ee_1, ee_1], [sv_19, sv_1, sv_4], [], [(nat_lit 1, nat_lit 1, nat_lit 0), (nat_lit 1, nat_lit 2, nat_lit 0)], [(some sv_10, [ee_0, ee_14, ee_80, ee_31, ee_1], [(nat_lit 182, nat_lit 1, sv_9)], [(nat_lit 2, nat_lit 182, nat_lit 1), (nat_lit 1, nat_lit 0, nat_lit 0)]), (some sv_6, [ee_0, ee_14, ee_128, ee_31], [(nat_lit 182, nat_lit 1, sv_9)], [(nat_lit 2, nat_lit 182, nat_lit 1)]), (some sv_24, [ee_0, ee_14, ee_128, ee_31], [(nat_lit 182, nat_lit 1, sv_9)], [(nat_lit 2, nat_lit 182, nat_lit 1)]), (some sv_16, [ee_0, ee_1, ee_1], [], [])], [(nat_lit 180, nat_lit 0, nat_lit 0)], [], [], [])
set_option maxRecDepth 100000 in
theorem syc_259 : CoOk GG MM syt_259 := chk_okF (cs := [syt_197, syt_258]) (F := 4000) (cs_c syc_197 <| cs_c syc_258 cs_n) (by decide +kernel) (by decide +kernel)
/-- Life.allCoins -/
def syt_260 : CO := (nat_lit 90, nat_lit 1, [ee_0], [sv_41], [], [], [(some sv_1, [ee_0, ee_1], [], [(nat_lit 1, nat_lit 0, nat_lit 0)])], [], [(nat_lit 4, nat_lit 1, nat_lit 1, ([ee_0, ee_14, ee_1], [(nat_lit 0, sv_41), (nat_lit 1, sv_4), (nat_lit 2, sv_1)], [], []), [(nat_lit 0, nat_lit 2, nat_lit 0), (nat_lit 0, nat_lit 1, nat_lit 0)], [(nat_lit 4, nat_lit 0)])], [], [(nat_lit 4, nat_lit 0)])
set_option maxRecDepth 100000 in
theorem syc_260 : CoOk GG MM syt_260 := chk_okF (cs := []) (F := 4000) (fun _ h => absurd h List.not_mem_nil) (by decide +kernel) (by decide +kernel)
/-- Life.isJailed -/
def syt_261 : CO := (nat_lit 103, nat_lit 1, [ee_0, ee_27], [sv_41, sv_1], [], [(nat_lit 1, nat_lit 1, nat_lit 0)], [(some sv_24, [ee_0, ee_27], [], []), (some sv_6, [ee_0, ee_27], [], [])], [], [], [], [])
set_option maxRecDepth 100000 in
theorem syc_261 : CoOk GG MM syt_261 := chk_okF (cs := []) (F := 4000) (fun _ h => absurd h List.not_mem_nil) (by decide +kernel) (by decide +kernel)
/-- Life.jailedBits -/
def syt_262 : CO := (nat_lit 106, nat_lit 2, [ee_0], [sv_41], [], [], [(some sv_1, [ee_0, ee_1], [], [(nat_lit 1, nat_lit 0, nat_lit 0)])], [], [(nat_lit 4, nat_lit 1, nat_lit 1, ([ee_0, ee_14, ee_1], [(nat_lit 0, sv_41), (nat_lit 1, sv_4), (nat_lit 2, sv_1)], [], []), [(nat_lit 0, nat_lit 2, nat_lit 0), (nat_lit 0, nat_lit 1, nat_lit 0)], [(nat_lit 4, nat_lit 0)])], [], [(nat_lit 4, nat_lit 0)])
set_option maxRecDepth 100000 in
theorem syc_262 : CoOk GG MM syt_262 := chk_okF (cs := [syt_261]) (F := 4000) (cs_c syc_261 cs_n) (by decide +kernel) (by decide +kernel)
/-- Life.seenBits -/
def syt_263 : CO := (nat_lit 113, nat_lit 3, [ee_0], [sv_41, sv_12], [], [], [(some sv_6, [ee_0], [], []), (some sv_1, [ee_0, ee_1], [], [(nat_lit 1, nat_lit 0, nat_lit 0)])], [], [(nat_lit 12, nat_lit 1, nat_lit 1, ([ee_0, ee_14, ee_1, ee_1], [(nat_lit 1, sv_12), (nat_lit 2, sv_4), (nat_lit 3, sv_9), (nat_lit 4, sv_1)], [], []), [(nat_lit 0, nat_lit 4, nat_lit 0), (nat_lit 0, nat_lit 2, nat_lit 0), (nat_lit 0, nat_lit 3, nat_lit 0)], [(nat_lit 12, nat_lit 0)])], [], [(nat_lit 12, nat_lit 0)])
set_option maxRecDepth 100000 in
theorem syc_263 : CoOk GG MM syt_263 := chk_okF (cs := [syt_262]) (F := 4000) (cs_c syc_262 cs_n) (by decide +kernel) (by decide +kernel)
/-- Life.isWed -/
def syt_264 : CO := (nat_lit 105, nat_lit 1, [ee_0, ee_27], [sv_41, sv_1], [], [(nat_lit 1, nat_lit 1, nat_lit 0)], [(some sv_24, [ee_0, ee_27], [], []), (some sv_6, [ee_0, ee_27], [], [])], [], [], [], [])
set_option maxRecDepth 100000 in
theorem syc_264 : CoOk GG MM syt_264 := chk_okF (cs := []) (F := 4000) (fun _ h => absurd h List.not_mem_nil) (by decide +kernel) (by decide +kernel)
/-- Life.wedBits -/
def syt_265 : CO := (nat_lit 114, nat_lit 2, [ee_0], [sv_41], [], [], [(some sv_1, [ee_0, ee_1], [], [(nat_lit 1, nat_lit 0, nat_lit 0)])], [], [(nat_lit 4, nat_lit 1, nat_lit 1, ([ee_0, ee_14, ee_1], [(nat_lit 0, sv_41), (nat_lit 1, sv_4), (nat_lit 2, sv_1)], [], []), [(nat_lit 0, nat_lit 2, nat_lit 0), (nat_lit 0, nat_lit 1, nat_lit 0)], [(nat_lit 4, nat_lit 0)])], [], [(nat_lit 4, nat_lit 0)])
set_option maxRecDepth 100000 in
theorem syc_265 : CoOk GG MM syt_265 := chk_okF (cs := [syt_264]) (F := 4000) (cs_c syc_264 cs_n) (by decide +kernel) (by decide +kernel)
/-- X.now -/
def syt_266 : CO := (nat_lit 29, nat_lit 4, [ee_0, ee_1], [sv_8, sv_1], [(nat_lit 0, nat_lit 1, sv_12), (nat_lit 0, nat_lit 2, sv_13), (nat_lit 0, nat_lit 7, sv_14), (nat_lit 0, nat_lit 8, sv_15)], [(nat_lit 1, nat_lit 1, nat_lit 0)], [(some sv_4, [ee_0, ee_14, ee_1], [(nat_lit 0, nat_lit 1, sv_12), (nat_lit 0, nat_lit 2, sv_13), (nat_lit 0, nat_lit 7, sv_14), (nat_lit 0, nat_lit 8, sv_15)], [(nat_lit 1, nat_lit 0, nat_lit 0)]), (some sv_6, [ee_0, ee_144], [(nat_lit 0, nat_lit 1, sv_12), (nat_lit 0, nat_lit 2, sv_13), (nat_lit 0, nat_lit 7, sv_14), (nat_lit 0, nat_lit 8, sv_15)], []), (some sv_16, [ee_0, ee_1], [(nat_lit 0, nat_lit 1, sv_12), (nat_lit 0, nat_lit 2, sv_13), (nat_lit 0, nat_lit 7, sv_14), (nat_lit 0, nat_lit 8, sv_15)], [])], [], [], [], [])
set_option maxRecDepth 100000 in
theorem syc_266 : CoOk GG MM syt_266 := chk_okF (cs := [syt_260, syt_262, syt_263, syt_265]) (F := 4000) (cs_c syc_260 <| cs_c syc_262 <| cs_c syc_263 <| cs_c syc_265 cs_n) (by decide +kernel) (by decide +kernel)
/-- M.sum -/
def syt_267 : CO := (nat_lit 282, nat_lit 1, [ee_0], [sv_19, sv_143, sv_5], [], [], [(some sv_1, [ee_0, ee_1], [], [(nat_lit 1, nat_lit 0, nat_lit 0)])], [], [(nat_lit 5, nat_lit 1, nat_lit 1, ([ee_0, ee_30, ee_1], [(nat_lit 0, sv_19), (nat_lit 1, sv_143), (nat_lit 2, sv_5), (nat_lit 3, sv_4), (nat_lit 4, sv_1)], [], []), [(nat_lit 0, nat_lit 4, nat_lit 0), (nat_lit 0, nat_lit 3, nat_lit 0)], [(nat_lit 5, nat_lit 0)])], [], [(nat_lit 5, nat_lit 0)])
set_option maxRecDepth 100000 in
theorem syc_267 : CoOk GG MM syt_267 := chk_okF (cs := []) (F := 4000) (fun _ h => absurd h List.not_mem_nil) (by decide +kernel) (by decide +kernel)
/-- M.sum -/
def syt_268 : CO := (nat_lit 282, nat_lit 1, [ee_0], [sv_19, sv_63, sv_59], [], [], [(some sv_1, [ee_0, ee_1], [], [(nat_lit 1, nat_lit 0, nat_lit 0)])], [], [(nat_lit 5, nat_lit 1, nat_lit 1, ([ee_0, ee_14, ee_1], [(nat_lit 0, sv_19), (nat_lit 1, sv_63), (nat_lit 2, sv_59), (nat_lit 3, sv_4), (nat_lit 4, sv_1)], [], []), [(nat_lit 0, nat_lit 4, nat_lit 0), (nat_lit 0, nat_lit 3, nat_lit 0)], [(nat_lit 5, nat_lit 0)])], [], [(nat_lit 5, nat_lit 0)])
set_option maxRecDepth 100000 in
theorem syc_268 : CoOk GG MM syt_268 := chk_okF (cs := []) (F := 4000) (fun _ h => absurd h List.not_mem_nil) (by decide +kernel) (by decide +kernel)
/-- M.jailed -/
def syt_269 : CO := (nat_lit 228, nat_lit 2, [ee_0], [sv_19], [], [], [(some sv_1, [ee_0, ee_1], [], [(nat_lit 1, nat_lit 0, nat_lit 0)])], [], [(nat_lit 4, nat_lit 1, nat_lit 1, ([ee_0, ee_14, ee_1], [(nat_lit 0, sv_19), (nat_lit 1, sv_4), (nat_lit 2, sv_1)], [], []), [(nat_lit 0, nat_lit 2, nat_lit 0), (nat_lit 0, nat_lit 1, nat_lit 0)], [(nat_lit 4, nat_lit 0)])], [], [(nat_lit 4, nat_lit 0)])
set_option maxRecDepth 100000 in
theorem syc_269 : CoOk GG MM syt_269 := chk_okF (cs := [syt_236, syt_237, syt_238, syt_239, syt_240, syt_241, syt_242]) (F := 4000) (cs_c syc_236 <| cs_c syc_237 <| cs_c syc_238 <| cs_c syc_239 <| cs_c syc_240 <| cs_c syc_241 <| cs_c syc_242 cs_n) (by decide +kernel) (by decide +kernel)
/-- M.isWed -/
def syt_270 : CO := (nat_lit 226, nat_lit 1, [ee_0, ee_0], [sv_19, sv_1], [], [(nat_lit 1, nat_lit 1, nat_lit 0)], [(some sv_24, [ee_0, ee_0, ee_27], [(nat_lit 182, nat_lit 132, sv_4)], [(nat_lit 2, nat_lit 182, nat_lit 132)]), (some sv_6, [ee_0, ee_0, ee_145], [(nat_lit 182, nat_lit 132, sv_4)], [(nat_lit 2, nat_lit 182, nat_lit 132)])], [], [], [], [])
set_option maxRecDepth 100000 in
theorem syc_270 : CoOk GG MM syt_270 := chk_okF (cs := []) (F := 4000) (fun _ h => absurd h List.not_mem_nil) (by decide +kernel) (by decide +kernel)
/-- M.isWed -/
def syt_271 : CO := (nat_lit 226, nat_lit 1, [ee_0, ee_55], [sv_19, sv_1], [], [(nat_lit 1, nat_lit 1, nat_lit 0)], [(some sv_24, [ee_0, ee_146, ee_27], [(nat_lit 182, nat_lit 133, sv_4)], [(nat_lit 2, nat_lit 182, nat_lit 133)]), (some sv_6, [ee_0, ee_146, ee_145], [(nat_lit 182, nat_lit 133, sv_4)], [(nat_lit 2, nat_lit 182, nat_lit 133)]), (some sv_24, [ee_0, ee_0, ee_27], [(nat_lit 182, nat_lit 132, sv_4)], [(nat_lit 2, nat_lit 182, nat_lit 132)]), (some sv_6, [ee_0, ee_0, ee_145], [(nat_lit 182, nat_lit 132, sv_4)], [(nat_lit 2, nat_lit 182, nat_lit 132)])], [], [], [], [])
set_option maxRecDepth 100000 in
theorem syc_271 : CoOk GG MM syt_271 := chk_okF (cs := []) (F := 4000) (fun _ h => absurd h List.not_mem_nil) (by decide +kernel) (by decide +kernel)
/-- M.isWed -/
def syt_272 : CO := (nat_lit 226, nat_lit 1, [ee_0, ee_127], [sv_19, sv_1], [], [(nat_lit 1, nat_lit 1, nat_lit 0)], [(some sv_24, [ee_0, ee_78, ee_27], [(nat_lit 182, nat_lit 134, sv_4)], [(nat_lit 2, nat_lit 182, nat_lit 134)]), (some sv_6, [ee_0, ee_78, ee_145], [(nat_lit 182, nat_lit 134, sv_4)], [(nat_lit 2, nat_lit 182, nat_lit 134)]), (some sv_24, [ee_0, ee_146, ee_27], [(nat_lit 182, nat_lit 133, sv_4)], [(nat_lit 2, nat_lit 182, nat_lit 133)]), (some sv_6, [ee_0, ee_146, ee_145], [(nat_lit 182, nat_lit 133, sv_4)], [(nat_lit 2, nat_lit 182, nat_lit 133)]), (some sv_24, [ee_0, ee_0, ee_27], [(nat_lit 182, nat_lit 132, sv_4)], [(nat_lit 2, nat_lit 182, nat_lit 132)]), (some sv_6, [ee_0, ee_0, ee_145], [(nat_lit 182, nat_lit 132, sv_4)], [(nat_lit 2, nat_lit 182, nat_lit 132)])], [], [], [], [])
set_option maxRecDepth 100000 in
theorem syc_272 : CoOk GG MM syt_272 := chk_okF (cs := []) (F := 4000) (fun _ h => absurd h List.not_mem_nil) (by decide +kernel) (by decide +kernel)
/-- M.isWed -/
def syt_273 : CO := (nat_lit 226, nat_lit 1, [ee_0, ee_75], [sv_19, sv_1], [], [(nat_lit 1, nat_lit 1, nat_lit 0)], [(some sv_24, [ee_0, ee_128, ee_27], [(nat_lit 182, nat_lit 135, sv_4)], [(nat_lit 2, nat_lit 182, nat_lit 135)]), (some sv_6, [ee_0, ee_128, ee_145], [(nat_lit 182, nat_lit 135, sv_4)], [(nat_lit 2, nat_lit 182, nat_lit 135)]), (some sv_24, [ee_0, ee_78, ee_27], [(nat_lit 182, nat_lit 134, sv_4)], [(nat_lit 2, nat_lit 182, nat_lit 134)]), (some sv_6, [ee_0, ee_78, ee_145], [(nat_lit 182, nat_lit 134, sv_4)], [(nat_lit 2, nat_lit 182, nat_lit 134)]), (some sv_24, [ee_0, ee_146, ee_27], [(nat_lit 182, nat_lit 133, sv_4)], [(nat_lit 2, nat_lit 182, nat_lit 133)]), (some sv_6, [ee_0, ee_146, ee_145], [(nat_lit 182, nat_lit 133, sv_4)], [(nat_lit 2, nat_lit 182, nat_lit 133)]), (some sv_24, [ee_0, ee_0, ee_27], [(nat_lit 182, nat_lit 132, sv_4)], [(nat_lit 2, nat_lit 182, nat_lit 132)]), (some sv_6, [ee_0, ee_0, ee_145], [(nat_lit 182, nat_lit 132, sv_4)], [(nat_lit 2, nat_lit 182, nat_lit 132)])], [], [], [], [])
set_option maxRecDepth 100000 in
theorem syc_273 : CoOk GG MM syt_273 := chk_okF (cs := []) (F := 4000) (fun _ h => absurd h List.not_mem_nil) (by decide +kernel) (by decide +kernel)
/-- M.isWed -/
def syt_274 : CO := (nat_lit 226, nat_lit 1, [ee_0, ee_80], [sv_19, sv_1], [], [(nat_lit 1, nat_lit 1, nat_lit 0)], [(some sv_24, [ee_0, ee_144, ee_27], [(nat_lit 182, nat_lit 136, sv_4)], [(nat_lit 2, nat_lit 182, nat_lit 136)]), (some sv_6, [ee_0, ee_144, ee_145], [(nat_lit 182, nat_lit 136, sv_4)], [(nat_lit 2, nat_lit 182, nat_lit 136)]), (some sv_24, [ee_0, ee_128, ee_27], [(nat_lit 182, nat_lit 135, sv_4)], [(nat_lit 2, nat_lit 182, nat_lit 135)]), (some sv_6, [ee_0, ee_128, ee_145], [(nat_lit 182, nat_lit 135, sv_4)], [(nat_lit 2, nat_lit 182, nat_lit 135)]), (some sv_24, [ee_0, ee_78, ee_27], [(nat_lit 182, nat_lit 134, sv_4)], [(nat_lit 2, nat_lit 182, nat_lit 134)]), (some sv_6, [ee_0, ee_78, ee_145], [(nat_lit 182, nat_lit 134, sv_4)], [(nat_lit 2, nat_lit 182, nat_lit 134)]), (some sv_24, [ee_0, ee_146, ee_27], [(nat_lit 182, nat_lit 133, sv_4)], [(nat_lit 2, nat_lit 182, nat_lit 133)]), (some sv_6, [ee_0, ee_146, ee_145], [(nat_lit 182, nat_lit 133, sv_4)], [(nat_lit 2, nat_lit 182, nat_lit 133)]), (some sv_24, [ee_0, ee_0, ee_27], [(nat_lit 182, nat_lit 132, sv_4)], [(nat_lit 2, nat_lit 182, nat_lit 132)]), (some sv_6, [ee_0, ee_0, ee_145], [(nat_lit 182, nat_lit 132, sv_4)], [(nat_lit 2, nat_lit 182, nat_lit 132)])], [], [], [], [])
set_option maxRecDepth 100000 in
theorem syc_274 : CoOk GG MM syt_274 := chk_okF (cs := []) (F := 4000) (fun _ h => absurd h List.not_mem_nil) (by decide +kernel) (by decide +kernel)
/-- M.isWed -/
def syt_275 : CO := (nat_lit 226, nat_lit 1, [ee_0, ee_116], [sv_19, sv_1], [], [(nat_lit 1, nat_lit 1, nat_lit 0)], [(some sv_24, [ee_0, ee_147, ee_27], [(nat_lit 182, nat_lit 137, sv_4)], [(nat_lit 2, nat_lit 182, nat_lit 137)]), (some sv_6, [ee_0, ee_147, ee_145], [(nat_lit 182, nat_lit 137, sv_4)], [(nat_lit 2, nat_lit 182, nat_lit 137)]), (some sv_24, [ee_0, ee_144, ee_27], [(nat_lit 182, nat_lit 136, sv_4)], [(nat_lit 2, nat_lit 182, nat_lit 136)]), (some sv_6, [ee_0, ee_144, ee_145], [(nat_lit 182, nat_lit 136, sv_4)], [(nat_lit 2, nat_lit 182, nat_lit 136)]), (some sv_24, [ee_0, ee_128, ee_27], [(nat_lit 182, nat_lit 135, sv_4)], [(nat_lit 2, nat_lit 182, nat_lit 135)]), (some sv_6, [ee_0, ee_128, ee_145], [(nat_lit 182, nat_lit 135, sv_4)], [(nat_lit 2, nat_lit 182, nat_lit 135)]), (some sv_24, [ee_0, ee_78, ee_27], [(nat_lit 182, nat_lit 134, sv_4)], [(nat_lit 2, nat_lit 182, nat_lit 134)]), (some sv_6, [ee_0, ee_78, ee_145], [(nat_lit 182, nat_lit 134, sv_4)], [(nat_lit 2, nat_lit 182, nat_lit 134)]), (some sv_24, [ee_0, ee_146, ee_27], [(nat_lit 182, nat_lit 133, sv_4)], [(nat_lit 2, nat_lit 182, nat_lit 133)]), (some sv_6, [ee_0, ee_146, ee_145], [(nat_lit 182, nat_lit 133, sv_4)], [(nat_lit 2, nat_lit 182, nat_lit 133)]), (some sv_24, [ee_0, ee_0, ee_27], [(nat_lit 182, nat_lit 132, sv_4)], [(nat_lit 2, nat_lit 182, nat_lit 132)]), (some sv_6, [ee_0, ee_0, ee_145], [(nat_lit 182, nat_lit 132, sv_4)], [(nat_lit 2, nat_lit 182, nat_lit 132)])], [], [], [], [])
set_option maxRecDepth 100000 in
theorem syc_275 : CoOk GG MM syt_275 := chk_okF (cs := []) (F := 4000) (fun _ h => absurd h List.not_mem_nil) (by decide +kernel) (by decide +kernel)
/-- M.isWed -/
def syt_276 : CO := (nat_lit 226, nat_lit 1, [ee_0, ee_27], [sv_19, sv_1], [], [(nat_lit 1, nat_lit 1, nat_lit 0)], [(some sv_24, [ee_0, ee_115, ee_27], [(nat_lit 182, nat_lit 138, sv_4)], [(nat_lit 2, nat_lit 182, nat_lit 138)]), (some sv_6, [ee_0, ee_115, ee_145], [(nat_lit 182, nat_lit 138, sv_4)], [(nat_lit 2, nat_lit 182, nat_lit 138)]), (some sv_24, [ee_0, ee_147, ee_27], [(nat_lit 182, nat_lit 137, sv_4)], [(nat_lit 2, nat_lit 182, nat_lit 137)]), (some sv_6, [ee_0, ee_147, ee_145], [(nat_lit 182, nat_lit 137, sv_4)], [(nat_lit 2, nat_lit 182, nat_lit 137)]), (some sv_24, [ee_0, ee_144, ee_27], [(nat_lit 182, nat_lit 136, sv_4)], [(nat_lit 2, nat_lit 182, nat_lit 136)]), (some sv_6, [ee_0, ee_144, ee_145], [(nat_lit 182, nat_lit 136, sv_4)], [(nat_lit 2, nat_lit 182, nat_lit 136)]), (some sv_24, [ee_0, ee_128, ee_27], [(nat_lit 182, nat_lit 135, sv_4)], [(nat_lit 2, nat_lit 182, nat_lit 135)]), (some sv_6, [ee_0, ee_128, ee_145], [(nat_lit 182, nat_lit 135, sv_4)], [(nat_lit 2, nat_lit 182, nat_lit 135)]), (some sv_24, [ee_0, ee_78, ee_27], [(nat_lit 182, nat_lit 134, sv_4)], [(nat_lit 2, nat_lit 182, nat_lit 134)]), (some sv_6, [ee_0, ee_78, ee_145], [(nat_lit 182, nat_lit 134, sv_4)], [(nat_lit 2, nat_lit 182, nat_lit 134)]), (some sv_24, [ee_0, ee_146, ee_27], [(nat_lit 182, nat_lit 133, sv_4)], [(nat_lit 2, nat_lit 182, nat_lit 133)]), (some sv_6, [ee_0, ee_146, ee_145], [(nat_lit 182, nat_lit 133, sv_4)], [(nat_lit 2, nat_lit 182, nat_lit 133)]), (some sv_24, [ee_0, ee_0, ee_27], [(nat_lit 182, nat_lit 132, sv_4)], [(nat_lit 2, nat_lit 182, nat_lit 132)]), (some sv_6, [ee_0, ee_0, ee_145], [(nat_lit 182, nat_lit 132, sv_4)], [(nat_lit 2, nat_lit 182, nat_lit 132)])], [], [], [], [])
set_option maxRecDepth 100000 in
theorem syc_276 : CoOk GG MM syt_276 := chk_okF (cs := []) (F := 4000) (fun _ h => absurd h List.not_mem_nil) (by decide +kernel) (by decide +kernel)
/-- M.now -/
def syt_277 : CO := (nat_lit 233, nat_lit 3, [ee_0, ee_1], [sv_19, sv_1], [], [(nat_lit 1, nat_lit 1, nat_lit 0)], [(some sv_4, [ee_0, ee_14, ee_1], [], [(nat_lit 1, nat_lit 0, nat_lit 0)]), (some sv_16, [ee_0, ee_1], [], []), (some sv_6, [ee_0, ee_144, ee_0], [(nat_lit 182, nat_lit 0, sv_4)], [(nat_lit 2, nat_lit 182, nat_lit 0)])], [(nat_lit 180, nat_lit 0, nat_lit 0)], [(nat_lit 79, nat_lit 1, nat_lit 1, ([ee_0, ee_128, ee_14, ee_1], [(nat_lit 0, sv_19), (nat_lit 2, sv_9), (nat_lit 3, sv_4)], [], []), [(nat_lit 0, nat_lit 3, nat_lit 0), (nat_lit 0, nat_lit 2, nat_lit 0)], [(nat_lit 79, nat_lit 0)]),
  (nat_lit 109, nat_lit 2, nat_lit 1, ([ee_0, ee_144, ee_14, ee_1], [(nat_lit 0, sv_19), (nat_lit 2, sv_9), (nat_lit 3, sv_4)], [], []), [(nat_lit 0, nat_lit 3, nat_lit 0), (nat_lit 0, nat_lit 2, nat_lit 0)], [(nat_lit 109, nat_lit 1)])], [], [(nat_lit 79, nat_lit 0), (nat_lit 109, nat_lit 1)])
set_option maxRecDepth 100000 in
theorem syc_277 : CoOk GG MM syt_277 := chk_okF (cs := [syt_243, syt_270, syt_271, syt_272, syt_273, syt_274, syt_275, syt_276, syt_269, syt_267, syt_268]) (F := 4000) (cs_c syc_243 <| cs_c syc_270 <| cs_c syc_271 <| cs_c syc_272 <| cs_c syc_273 <| cs_c syc_274 <| cs_c syc_275 <| cs_c syc_276 <| cs_c syc_269 <| cs_c syc_267 <| cs_c syc_268 cs_n) (by decide +kernel) (by decide +kernel)
/-- Life.handBits -/
def syt_278 : CO := (nat_lit 100, nat_lit 1, [ee_0, ee_127], [sv_1], [], [(nat_lit 1, nat_lit 0, nat_lit 0)], [(some sv_25, [ee_0, ee_127], [], [])], [], [], [], [])
set_option maxRecDepth 100000 in
theorem syc_278 : CoOk GG MM syt_278 := chk_okF (cs := []) (F := 4000) (fun _ h => absurd h List.not_mem_nil) (by decide +kernel) (by decide +kernel)
/-- Duchy.handsAreRight -/
def syt_279 : CO := (nat_lit 68, nat_lit 2, [ee_0, ee_14, ee_127], [sv_12, sv_1, sv_4], [], [(nat_lit 1, nat_lit 1, nat_lit 0), (nat_lit 1, nat_lit 2, nat_lit 0)], [(some sv_6, [ee_0, ee_14, ee_127], [], []), (some sv_24, [ee_0, ee_14, ee_127], [], [])], [], [], [], [])
set_option maxRecDepth 100000 in
theorem syc_279 : CoOk GG MM syt_279 := chk_okF (cs := [syt_255]) (F := 4000) (cs_c syc_255 cs_n) (by decide +kernel) (by decide +kernel)
/-- Life.isGloved -/
def syt_280 : CO := (nat_lit 102, nat_lit 1, [ee_0, ee_27], [sv_41, sv_1], [], [(nat_lit 1, nat_lit 1, nat_lit 0)], [(some sv_24, [ee_0, ee_27], [], []), (some sv_6, [ee_0, ee_27], [], [])], [], [], [], [])
set_option maxRecDepth 100000 in
theorem syc_280 : CoOk GG MM syt_280 := chk_okF (cs := []) (F := 4000) (fun _ h => absurd h List.not_mem_nil) (by decide +kernel) (by decide +kernel)
/-- Life.whyNotDo -/
def syt_281 : CO := (nat_lit 117, nat_lit 3, [ee_0, ee_27, ee_14, ee_127], [sv_41, sv_12, sv_1, sv_4, sv_9], [], [(nat_lit 1, nat_lit 2, nat_lit 0), (nat_lit 1, nat_lit 3, nat_lit 0), (nat_lit 1, nat_lit 4, nat_lit 0)], [(some sv_10, [ee_0, ee_27, ee_14, ee_127, ee_148], [], [(nat_lit 1, nat_lit 0, nat_lit 0)]), (some sv_6, [ee_0, ee_27, ee_14, ee_127], [], []), (some sv_24, [ee_0, ee_27, ee_14, ee_127], [], [])], [], [], [], [])
set_option maxRecDepth 100000 in
theorem syc_281 : CoOk GG MM syt_281 := chk_okF (cs := [syt_279, syt_249, syt_278, syt_280, syt_261]) (F := 4000) (cs_c syc_279 <| cs_c syc_249 <| cs_c syc_278 <| cs_c syc_280 <| cs_c syc_261 cs_n) (by decide +kernel) (by decide +kernel)
/-- Life.whyNot -/
def syt_282 : CO := (nat_lit 116, nat_lit 4, [ee_0, ee_27, ee_14, ee_127], [sv_41, sv_12, sv_6, sv_1, sv_4, sv_9], [], [(nat_lit 1, nat_lit 3, nat_lit 0), (nat_lit 1, nat_lit 4, nat_lit 0), (nat_lit 1, nat_lit 5, nat_lit 0)], [(some sv_24, [ee_0, ee_27, ee_14, ee_127], [], []), (some sv_6, [ee_0, ee_27, ee_14, ee_127], [], []), (some sv_10, [ee_0, ee_27, ee_14, ee_127, ee_148], [], [(nat_lit 1, nat_lit 0, nat_lit 0)])], [], [], [], [])
set_option maxRecDepth 100000 in
theorem syc_282 : CoOk GG MM syt_282 := chk_okF (cs := [syt_281]) (F := 4000) (cs_c syc_281 cs_n) (by decide +kernel) (by decide +kernel)
/-- Life.copyFrom -/
def syt_283 : CO := (nat_lit 94, nat_lit 1, [ee_0], [sv_144, sv_41], [], [], [(none, [ee_0], [], [])], [(nat_lit 97, nat_lit 0, nat_lit 3), (nat_lit 98, nat_lit 0, nat_lit 7), (nat_lit 99, nat_lit 0, nat_lit 7), (nat_lit 100, nat_lit 0, nat_lit 7), (nat_lit 101, nat_lit 0, nat_lit 7), (nat_lit 102, nat_lit 0, nat_lit 7), (nat_lit 103, nat_lit 0, nat_lit 7), (nat_lit 104, nat_lit 0, nat_lit 8)], [], [], [])
set_option maxRecDepth 100000 in
theorem syc_283 : CoOk GG MM syt_283 := chk_okF (cs := []) (F := 4000) (fun _ h => absurd h List.not_mem_nil) (by decide +kernel) (by decide +kernel)
/-- Life.copyFrom -/
def syt_284 : CO := (nat_lit 94, nat_lit 1, [ee_0], [sv_145, sv_41], [], [], [(none, [ee_0], [], [])], [(nat_lit 89, nat_lit 0, nat_lit 3), (nat_lit 90, nat_lit 0, nat_lit 7), (nat_lit 91, nat_lit 0, nat_lit 7), (nat_lit 92, nat_lit 0, nat_lit 7), (nat_lit 93, nat_lit 0, nat_lit 7), (nat_lit 94, nat_lit 0, nat_lit 7), (nat_lit 95, nat_lit 0, nat_lit 7), (nat_lit 96, nat_lit 0, nat_lit 8)], [], [], [])
set_option maxRecDepth 100000 in
theorem syc_284 : CoOk GG MM syt_284 := chk_okF (cs := []) (F := 4000) (fun _ h => absurd h List.not_mem_nil) (by decide +kernel) (by decide +kernel)
/-- Life.copyFrom -/
def syt_285 : CO := (nat_lit 94, nat_lit 1, [ee_0], [sv_146, sv_41], [], [], [(none, [ee_0], [], [])], [(nat_lit 81, nat_lit 0, nat_lit 3), (nat_lit 82, nat_lit 0, nat_lit 7), (nat_lit 83, nat_lit 0, nat_lit 7), (nat_lit 84, nat_lit 0, nat_lit 7), (nat_lit 85, nat_lit 0, nat_lit 7), (nat_lit 86, nat_lit 0, nat_lit 7), (nat_lit 87, nat_lit 0, nat_lit 7), (nat_lit 88, nat_lit 0, nat_lit 8)], [], [], [])
set_option maxRecDepth 100000 in
theorem syc_285 : CoOk GG MM syt_285 := chk_okF (cs := []) (F := 4000) (fun _ h => absurd h List.not_mem_nil) (by decide +kernel) (by decide +kernel)
/-- Life.copyFrom -/
def syt_286 : CO := (nat_lit 94, nat_lit 1, [ee_0], [sv_147, sv_41], [], [], [(none, [ee_0], [], [])], [(nat_lit 73, nat_lit 0, nat_lit 3), (nat_lit 74, nat_lit 0, nat_lit 7), (nat_lit 75, nat_lit 0, nat_lit 7), (nat_lit 76, nat_lit 0, nat_lit 7), (nat_lit 77, nat_lit 0, nat_lit 7), (nat_lit 78, nat_lit 0, nat_lit 7), (nat_lit 79, nat_lit 0, nat_lit 7), (nat_lit 80, nat_lit 0, nat_lit 8)], [], [], [])
set_option maxRecDepth 100000 in
theorem syc_286 : CoOk GG MM syt_286 := chk_okF (cs := []) (F := 4000) (fun _ h => absurd h List.not_mem_nil) (by decide +kernel) (by decide +kernel)
/-- Life.copyFrom -/
def syt_287 : CO := (nat_lit 94, nat_lit 1, [ee_0], [sv_148, sv_41], [], [], [(none, [ee_0], [], [])], [(nat_lit 65, nat_lit 0, nat_lit 3), (nat_lit 66, nat_lit 0, nat_lit 7), (nat_lit 67, nat_lit 0, nat_lit 7), (nat_lit 68, nat_lit 0, nat_lit 7), (nat_lit 69, nat_lit 0, nat_lit 7), (nat_lit 70, nat_lit 0, nat_lit 7), (nat_lit 71, nat_lit 0, nat_lit 7), (nat_lit 72, nat_lit 0, nat_lit 8)], [], [], [])
set_option maxRecDepth 100000 in
theorem syc_287 : CoOk GG MM syt_287 := chk_okF (cs := []) (F := 4000) (fun _ h => absurd h List.not_mem_nil) (by decide +kernel) (by decide +kernel)
/-- Life.copyFrom -/
def syt_288 : CO := (nat_lit 94, nat_lit 1, [ee_0], [sv_149, sv_41], [], [], [(none, [ee_0], [], [])], [(nat_lit 57, nat_lit 0, nat_lit 3), (nat_lit 58, nat_lit 0, nat_lit 7), (nat_lit 59, nat_lit 0, nat_lit 7), (nat_lit 60, nat_lit 0, nat_lit 7), (nat_lit 61, nat_lit 0, nat_lit 7), (nat_lit 62, nat_lit 0, nat_lit 7), (nat_lit 63, nat_lit 0, nat_lit 7), (nat_lit 64, nat_lit 0, nat_lit 8)], [], [], [])
set_option maxRecDepth 100000 in
theorem syc_288 : CoOk GG MM syt_288 := chk_okF (cs := []) (F := 4000) (fun _ h => absurd h List.not_mem_nil) (by decide +kernel) (by decide +kernel)
/-- Life.copyFrom -/
def syt_289 : CO := (nat_lit 94, nat_lit 1, [ee_0], [sv_150, sv_41], [], [], [(none, [ee_0], [], [])], [(nat_lit 49, nat_lit 0, nat_lit 3), (nat_lit 50, nat_lit 0, nat_lit 7), (nat_lit 51, nat_lit 0, nat_lit 7), (nat_lit 52, nat_lit 0, nat_lit 7), (nat_lit 53, nat_lit 0, nat_lit 7), (nat_lit 54, nat_lit 0, nat_lit 7), (nat_lit 55, nat_lit 0, nat_lit 7), (nat_lit 56, nat_lit 0, nat_lit 8)], [], [], [])
set_option maxRecDepth 100000 in
theorem syc_289 : CoOk GG MM syt_289 := chk_okF (cs := []) (F := 4000) (fun _ h => absurd h List.not_mem_nil) (by decide +kernel) (by decide +kernel)
/-- Life.copyFrom -/
def syt_290 : CO := (nat_lit 94, nat_lit 1, [ee_0], [sv_151, sv_41], [], [], [(none, [ee_0], [], [])], [(nat_lit 41, nat_lit 0, nat_lit 3), (nat_lit 42, nat_lit 0, nat_lit 7), (nat_lit 43, nat_lit 0, nat_lit 7), (nat_lit 44, nat_lit 0, nat_lit 7), (nat_lit 45, nat_lit 0, nat_lit 7), (nat_lit 46, nat_lit 0, nat_lit 7), (nat_lit 47, nat_lit 0, nat_lit 7), (nat_lit 48, nat_lit 0, nat_lit 8)], [], [], [])
set_option maxRecDepth 100000 in
theorem syc_290 : CoOk GG MM syt_290 := chk_okF (cs := []) (F := 4000) (fun _ h => absurd h List.not_mem_nil) (by decide +kernel) (by decide +kernel)
/-- Past.keep -/
def syt_291 : CO := (nat_lit 130, nat_lit 2, [ee_0], [sv_42, sv_41], [], [], [(none, [ee_0], [], [])], [(nat_lit 39, nat_lit 1, nat_lit 2), (nat_lit 41, nat_lit 0, nat_lit 3), (nat_lit 42, nat_lit 0, nat_lit 7), (nat_lit 43, nat_lit 0, nat_lit 7), (nat_lit 44, nat_lit 0, nat_lit 7), (nat_lit 45, nat_lit 0, nat_lit 7), (nat_lit 46, nat_lit 0, nat_lit 7), (nat_lit 47, nat_lit 0, nat_lit 7), (nat_lit 48, nat_lit 0, nat_lit 8), (nat_lit 49, nat_lit 0, nat_lit 3), (nat_lit 50, nat_lit 0, nat_lit 7), (nat_lit 51, nat_lit 0, nat_lit 7), (nat_lit 52, nat_lit 0, nat_lit 7), (nat_lit 53, nat_lit 0, nat_lit 7), (nat_lit 54, nat_lit 0, nat_lit 7), (nat_lit 55, nat_lit 0, nat_lit 7), (nat_lit 56, nat_lit 0, nat_lit 8), (nat_lit 57, nat_lit 0, nat_lit 3), (nat_lit 58, nat_lit 0, nat_lit 7), (nat_lit 59, nat_lit 0, nat_lit 7), (nat_lit 60, nat_lit 0, nat_lit 7), (nat_lit 61, nat_lit 0, nat_lit 7), (nat_lit 62, nat_lit 0, nat_lit 7), (nat_lit 63, nat_lit 0, nat_lit 7), (nat_lit 64, nat_lit 0, nat_lit 8), (nat_lit 65, nat_lit 0, nat_lit 3), (nat_lit 66, nat_lit 0, nat_lit 7), (nat_lit 67, nat_lit 0, nat_lit 7), (nat_lit 68, nat_lit 0, nat_lit 7), (nat_lit 69, nat_lit 0, nat_lit 7), (nat_lit 70, nat_lit 0, nat_lit 7), (nat_lit 71, nat_lit 0, nat_lit 7), (nat_lit 72, nat_lit 0, nat_lit 8), (nat_lit 73, nat_lit 0, nat_lit 3), (nat_lit 74, nat_lit 0, nat_lit 7), (nat_lit 75, nat_lit 0, nat_lit 7), (nat_lit 76, nat_lit 0, nat_lit 7), (nat_lit 77, nat_lit 0, nat_lit 7), (nat_lit 78, nat_lit 0, nat_lit 7), (nat_lit 79, nat_lit 0, nat_lit 7), (nat_lit 80, nat_lit 0, nat_lit 8), (nat_lit 81, nat_lit 0, nat_lit 3), (nat_lit 82, nat_lit 0, nat_lit 7), (nat_lit 83, nat_lit 0, nat_lit 7), (nat_lit 84, nat_lit 0, nat_lit 7), (nat_lit 85, nat_lit 0, nat_lit 7), (nat_lit 86, nat_lit 0, nat_lit 7), (nat_lit 87, nat_lit 0, nat_lit 7), (nat_lit 88, nat_lit 0, nat_lit 8), (nat_lit 89, nat_lit 0, nat_lit 3), (nat_lit 90, nat_lit 0, nat_lit 7), (nat_lit 91, nat_lit 0, nat_lit 7), (nat_lit 92, nat_lit 0, nat_lit 7), (nat_lit 93, nat_lit 0, nat_lit 7), (nat_lit 94, nat_lit 0, nat_lit 7), (nat_lit 95, nat_lit 0, nat_lit 7), (nat_lit 96, nat_lit 0, nat_lit 8), (nat_lit 97, nat_lit 0, nat_lit 3), (nat_lit 98, nat_lit 0, nat_lit 7), (nat_lit 99, nat_lit 0, nat_lit 7), (nat_lit 100, nat_lit 0, nat_lit 7), (nat_lit 101, nat_lit 0, nat_lit 7), (nat_lit 102, nat_lit 0, nat_lit 7), (nat_lit 103, nat_lit 0, nat_lit 7), (nat_lit 104, nat_lit 0, nat_lit 8)], [], [], [])
set_option maxRecDepth 100000 in
theorem syc_291 : CoOk GG MM syt_291 := chk_okF (cs := [syt_283, syt_284, syt_285, syt_286, syt_287, syt_288, syt_289, syt_290]) (F := 4000) (cs_c syc_283 <| cs_c syc_284 <| cs_c syc_285 <| cs_c syc_286 <| cs_c syc_287 <| cs_c syc_288 <| cs_c syc_289 <| cs_c syc_290 cs_n) (by decide +kernel) (by decide +kernel)
/-- Life.isSeen -/
def syt_292 : CO := (nat_lit 104, nat_lit 3, [ee_0, ee_27], [sv_41, sv_12, sv_1], [], [(nat_lit 1, nat_lit 2, nat_lit 0)], [(some sv_24, [ee_0, ee_27], [], []), (some sv_6, [ee_0, ee_27], [], [])], [], [], [], [])
set_option maxRecDepth 100000 in
theorem syc_292 : CoOk GG MM syt_292 := chk_okF (cs := [syt_262]) (F := 4000) (cs_c syc_262 cs_n) (by decide +kernel) (by decide +kernel)
/-- Life.addBlame -/
def syt_293 : CO := (nat_lit 89, nat_lit 1, [ee_0, ee_27, ee_1], [sv_41, sv_12, sv_1, sv_4], [], [(nat_lit 1, nat_lit 2, nat_lit 0), (nat_lit 1, nat_lit 3, nat_lit 0)], [(none, [ee_0, ee_27, ee_1], [], [])], [(nat_lit 23, nat_lit 1, nat_lit 1), (nat_lit 25, nat_lit 0, nat_lit 6), (nat_lit 26, nat_lit 0, nat_lit 6)], [], [], [])
set_option maxRecDepth 100000 in
theorem syc_293 : CoOk GG MM syt_293 := chk_okF (cs := []) (F := 4000) (fun _ h => absurd h List.not_mem_nil) (by decide +kernel) (by decide +kernel)
/-- Life.doDeed -/
def syt_294 : CO := (nat_lit 96, nat_lit 4, [ee_0, ee_27, ee_14, ee_127], [sv_41, sv_12, sv_1, sv_4, sv_9], [], [(nat_lit 1, nat_lit 2, nat_lit 0), (nat_lit 1, nat_lit 3, nat_lit 0), (nat_lit 1, nat_lit 4, nat_lit 0)], [(none, [ee_0, ee_27, ee_14, ee_127], [], [])], [(nat_lit 23, nat_lit 1, nat_lit 2), (nat_lit 24, nat_lit 0, nat_lit 6), (nat_lit 25, nat_lit 0, nat_lit 6), (nat_lit 26, nat_lit 0, nat_lit 6), (nat_lit 27, nat_lit 0, nat_lit 6), (nat_lit 29, nat_lit 0, nat_lit 6), (nat_lit 30, nat_lit 0, nat_lit 7)], [], [], [])
set_option maxRecDepth 100000 in
theorem syc_294 : CoOk GG MM syt_294 := chk_okF (cs := [syt_293, syt_278, syt_292]) (F := 4000) (cs_c syc_293 <| cs_c syc_278 <| cs_c syc_292 cs_n) (by decide +kernel) (by decide +kernel)
/-- Life.perform -/
def syt_295 : CO := (nat_lit 112, nat_lit 5, [ee_0, ee_27, ee_14, ee_127], [sv_41, sv_12, sv_6, sv_1, sv_4, sv_9], [], [(nat_lit 1, nat_lit 3, nat_lit 0), (nat_lit 1, nat_lit 4, nat_lit 0), (nat_lit 1, nat_lit 5, nat_lit 0)], [(none, [ee_0, ee_27, ee_14, ee_127], [], [])], [(nat_lit 23, nat_lit 1, nat_lit 2), (nat_lit 24, nat_lit 0, nat_lit 6), (nat_lit 25, nat_lit 0, nat_lit 6), (nat_lit 26, nat_lit 0, nat_lit 6), (nat_lit 27, nat_lit 0, nat_lit 6), (nat_lit 29, nat_lit 0, nat_lit 6), (nat_lit 30, nat_lit 0, nat_lit 7)], [], [], [])
set_option maxRecDepth 100000 in
theorem syc_295 : CoOk GG MM syt_295 := chk_okF (cs := [syt_294]) (F := 4000) (cs_c syc_294 cs_n) (by decide +kernel) (by decide +kernel)
/-- X.act -/
def syt_296 : CO := (nat_lit 2, nat_lit 6, [ee_0, ee_27, ee_14, ee_127], [sv_8, sv_6, sv_1, sv_4, sv_9], [(nat_lit 0, nat_lit 1, sv_12)], [(nat_lit 1, nat_lit 2, nat_lit 0), (nat_lit 1, nat_lit 3, nat_lit 0), (nat_lit 1, nat_lit 4, nat_lit 0)], [(some sv_10, [ee_0, ee_27, ee_14, ee_127, ee_148], [(nat_lit 0, nat_lit 1, sv_12)], [(nat_lit 1, nat_lit 0, nat_lit 0)]), (some sv_6, [ee_0, ee_27, ee_14, ee_127], [(nat_lit 0, nat_lit 1, sv_12)], []), (some sv_24, [ee_0, ee_27, ee_14, ee_127], [(nat_lit 0, nat_lit 1, sv_12)], [])], [(nat_lit 23, nat_lit 1, nat_lit 2), (nat_lit 24, nat_lit 0, nat_lit 6), (nat_lit 25, nat_lit 0, nat_lit 6), (nat_lit 26, nat_lit 0, nat_lit 6), (nat_lit 27, nat_lit 0, nat_lit 6), (nat_lit 29, nat_lit 0, nat_lit 6), (nat_lit 30, nat_lit 0, nat_lit 7), (nat_lit 39, nat_lit 1, nat_lit 2), (nat_lit 41, nat_lit 0, nat_lit 3), (nat_lit 42, nat_lit 0, nat_lit 7), (nat_lit 43, nat_lit 0, nat_lit 7), (nat_lit 44, nat_lit 0, nat_lit 7), (nat_lit 45, nat_lit 0, nat_lit 7), (nat_lit 46, nat_lit 0, nat_lit 7), (nat_lit 47, nat_lit 0, nat_lit 7), (nat_lit 48, nat_lit 0, nat_lit 8), (nat_lit 49, nat_lit 0, nat_lit 3), (nat_lit 50, nat_lit 0, nat_lit 7), (nat_lit 51, nat_lit 0, nat_lit 7), (nat_lit 52, nat_lit 0, nat_lit 7), (nat_lit 53, nat_lit 0, nat_lit 7), (nat_lit 54, nat_lit 0, nat_lit 7), (nat_lit 55, nat_lit 0, nat_lit 7), (nat_lit 56, nat_lit 0, nat_lit 8), (nat_lit 57, nat_lit 0, nat_lit 3), (nat_lit 58, nat_lit 0, nat_lit 7), (nat_lit 59, nat_lit 0, nat_lit 7), (nat_lit 60, nat_lit 0, nat_lit 7), (nat_lit 61, nat_lit 0, nat_lit 7), (nat_lit 62, nat_lit 0, nat_lit 7), (nat_lit 63, nat_lit 0, nat_lit 7), (nat_lit 64, nat_lit 0, nat_lit 8), (nat_lit 65, nat_lit 0, nat_lit 3), (nat_lit 66, nat_lit 0, nat_lit 7), (nat_lit 67, nat_lit 0, nat_lit 7), (nat_lit 68, nat_lit 0, nat_lit 7), (nat_lit 69, nat_lit 0, nat_lit 7), (nat_lit 70, nat_lit 0, nat_lit 7), (nat_lit 71, nat_lit 0, nat_lit 7), (nat_lit 72, nat_lit 0, nat_lit 8), (nat_lit 73, nat_lit 0, nat_lit 3), (nat_lit 74, nat_lit 0, nat_lit 7), (nat_lit 75, nat_lit 0, nat_lit 7), (nat_lit 76, nat_lit 0, nat_lit 7), (nat_lit 77, nat_lit 0, nat_lit 7), (nat_lit 78, nat_lit 0, nat_lit 7), (nat_lit 79, nat_lit 0, nat_lit 7), (nat_lit 80, nat_lit 0, nat_lit 8), (nat_lit 81, nat_lit 0, nat_lit 3), (nat_lit 82, nat_lit 0, nat_lit 7), (nat_lit 83, nat_lit 0, nat_lit 7), (nat_lit 84, nat_lit 0, nat_lit 7), (nat_lit 85, nat_lit 0, nat_lit 7), (nat_lit 86, nat_lit 0, nat_lit 7), (nat_lit 87, nat_lit 0, nat_lit 7), (nat_lit 88, nat_lit 0, nat_lit 8), (nat_lit 89, nat_lit 0, nat_lit 3), (nat_lit 90, nat_lit 0, nat_lit 7), (nat_lit 91, nat_lit 0, nat_lit 7), (nat_lit 92, nat_lit 0, nat_lit 7), (nat_lit 93, nat_lit 0, nat_lit 7), (nat_lit 94, nat_lit 0, nat_lit 7), (nat_lit 95, nat_lit 0, nat_lit 7), (nat_lit 96, nat_lit 0, nat_lit 8), (nat_lit 97, nat_lit 0, nat_lit 3), (nat_lit 98, nat_lit 0, nat_lit 7), (nat_lit 99, nat_lit 0, nat_lit 7), (nat_lit 100, nat_lit 0, nat_lit 7), (nat_lit 101, nat_lit 0, nat_lit 7), (nat_lit 102, nat_lit 0, nat_lit 7), (nat_lit 103, nat_lit 0, nat_lit 7), (nat_lit 104, nat_lit 0, nat_lit 8)], [], [], [])
set_option maxRecDepth 100000 in
theorem syc_296 : CoOk GG MM syt_296 := chk_okF (cs := [syt_295, syt_282, syt_291]) (F := 4000) (cs_c syc_295 <| cs_c syc_282 <| cs_c syc_291 cs_n) (by decide +kernel) (by decide +kernel)
/-- X.does -/
def syt_297 : CO := (nat_lit 12, nat_lit 7, [ee_0, ee_1, ee_1, ee_1], [sv_8, sv_1, sv_4, sv_9], [(nat_lit 0, nat_lit 1, sv_12), (nat_lit 0, nat_lit 2, sv_13), (nat_lit 0, nat_lit 7, sv_14), (nat_lit 0, nat_lit 8, sv_15)], [(nat_lit 1, nat_lit 1, nat_lit 0), (nat_lit 1, nat_lit 2, nat_lit 0), (nat_lit 1, nat_lit 3, nat_lit 0)], [(some sv_16, [ee_0, ee_1, ee_1, ee_1], [(nat_lit 0, nat_lit 1, sv_12), (nat_lit 0, nat_lit 2, sv_13), (nat_lit 0, nat_lit 7, sv_14), (nat_lit 0, nat_lit 8, sv_15)], []), (some sv_24, [ee_0, ee_27, ee_14, ee_127], [(nat_lit 0, nat_lit 1, sv_12), (nat_lit 0, nat_lit 2, sv_13), (nat_lit 0, nat_lit 7, sv_14), (nat_lit 0, nat_lit 8, sv_15)], []), (some sv_6, [ee_0, ee_27, ee_14, ee_127], [(nat_lit 0, nat_lit 1, sv_12), (nat_lit 0, nat_lit 2, sv_13), (nat_lit 0, nat_lit 7, sv_14), (nat_lit 0, nat_lit 8, sv_15)], []), (some sv_10, [ee_0, ee_27, ee_14, ee_127, ee_148], [(nat_lit 0, nat_lit 1, sv_12), (nat_lit 0, nat_lit 2, sv_13), (nat_lit 0, nat_lit 7, sv_14), (nat_lit 0, nat_lit 8, sv_15)], [(nat_lit 1, nat_lit 0, nat_lit 0)])], [(nat_lit 23, nat_lit 1, nat_lit 2), (nat_lit 24, nat_lit 0, nat_lit 6), (nat_lit 25, nat_lit 0, nat_lit 6), (nat_lit 26, nat_lit 0, nat_lit 6), (nat_lit 27, nat_lit 0, nat_lit 6), (nat_lit 29, nat_lit 0, nat_lit 6), (nat_lit 30, nat_lit 0, nat_lit 7), (nat_lit 39, nat_lit 1, nat_lit 2), (nat_lit 41, nat_lit 0, nat_lit 3), (nat_lit 42, nat_lit 0, nat_lit 7), (nat_lit 43, nat_lit 0, nat_lit 7), (nat_lit 44, nat_lit 0, nat_lit 7), (nat_lit 45, nat_lit 0, nat_lit 7), (nat_lit 46, nat_lit 0, nat_lit 7), (nat_lit 47, nat_lit 0, nat_lit 7), (nat_lit 48, nat_lit 0, nat_lit 8), (nat_lit 49, nat_lit 0, nat_lit 3), (nat_lit 50, nat_lit 0, nat_lit 7), (nat_lit 51, nat_lit 0, nat_lit 7), (nat_lit 52, nat_lit 0, nat_lit 7), (nat_lit 53, nat_lit 0, nat_lit 7), (nat_lit 54, nat_lit 0, nat_lit 7), (nat_lit 55, nat_lit 0, nat_lit 7), (nat_lit 56, nat_lit 0, nat_lit 8), (nat_lit 57, nat_lit 0, nat_lit 3), (nat_lit 58, nat_lit 0, nat_lit 7), (nat_lit 59, nat_lit 0, nat_lit 7), (nat_lit 60, nat_lit 0, nat_lit 7), (nat_lit 61, nat_lit 0, nat_lit 7), (nat_lit 62, nat_lit 0, nat_lit 7), (nat_lit 63, nat_lit 0, nat_lit 7), (nat_lit 64, nat_lit 0, nat_lit 8), (nat_lit 65, nat_lit 0, nat_lit 3), (nat_lit 66, nat_lit 0, nat_lit 7), (nat_lit 67, nat_lit 0, nat_lit 7), (nat_lit 68, nat_lit 0, nat_lit 7), (nat_lit 69, nat_lit 0, nat_lit 7), (nat_lit 70, nat_lit 0, nat_lit 7), (nat_lit 71, nat_lit 0, nat_lit 7), (nat_lit 72, nat_lit 0, nat_lit 8), (nat_lit 73, nat_lit 0, nat_lit 3), (nat_lit 74, nat_lit 0, nat_lit 7), (nat_lit 75, nat_lit 0, nat_lit 7), (nat_lit 76, nat_lit 0, nat_lit 7), (nat_lit 77, nat_lit 0, nat_lit 7), (nat_lit 78, nat_lit 0, nat_lit 7), (nat_lit 79, nat_lit 0, nat_lit 7), (nat_lit 80, nat_lit 0, nat_lit 8), (nat_lit 81, nat_lit 0, nat_lit 3), (nat_lit 82, nat_lit 0, nat_lit 7), (nat_lit 83, nat_lit 0, nat_lit 7), (nat_lit 84, nat_lit 0, nat_lit 7), (nat_lit 85, nat_lit 0, nat_lit 7), (nat_lit 86, nat_lit 0, nat_lit 7), (nat_lit 87, nat_lit 0, nat_lit 7), (nat_lit 88, nat_lit 0, nat_lit 8), (nat_lit 89, nat_lit 0, nat_lit 3), (nat_lit 90, nat_lit 0, nat_lit 7), (nat_lit 91, nat_lit 0, nat_lit 7), (nat_lit 92, nat_lit 0, nat_lit 7), (nat_lit 93, nat_lit 0, nat_lit 7), (nat_lit 94, nat_lit 0, nat_lit 7), (nat_lit 95, nat_lit 0, nat_lit 7), (nat_lit 96, nat_lit 0, nat_lit 8), (nat_lit 97, nat_lit 0, nat_lit 3), (nat_lit 98, nat_lit 0, nat_lit 7), (nat_lit 99, nat_lit 0, nat_lit 7), (nat_lit 100, nat_lit 0, nat_lit 7), (nat_lit 101, nat_lit 0, nat_lit 7), (nat_lit 102, nat_lit 0, nat_lit 7), (nat_lit 103, nat_lit 0, nat_lit 7), (nat_lit 104, nat_lit 0, nat_lit 8)], [], [], [])
set_option maxRecDepth 100000 in
theorem syc_297 : CoOk GG MM syt_297 := chk_okF (cs := [syt_296, syt_254, syt_248, syt_247]) (F := 4000) (cs_c syc_296 <| cs_c syc_254 <| cs_c syc_248 <| cs_c syc_247 cs_n) (by decide +kernel) (by decide +kernel)
/-- M.act -/
def syt_298 : CO := (nat_lit 173, nat_lit 1, [ee_0, ee_27, ee_14, ee_1], [sv_19, sv_6, sv_1, sv_4, sv_9, sv_6], [], [(nat_lit 1, nat_lit 2, nat_lit 0), (nat_lit 1, nat_lit 3, nat_lit 0), (nat_lit 1, nat_lit 4, nat_lit 0)], [(some sv_16, [ee_0, ee_27, ee_14, ee_1], [], [])], [], [], [], [])
set_option maxRecDepth 100000 in
theorem syc_298 : CoOk GG MM syt_298 := chk_okF (cs := []) (F := 4000) (fun _ h => absurd h List.not_mem_nil) (by decide +kernel) (by decide +kernel)
/-- M.bitsOf -/
def syt_299 : CO := (nat_lit 180, nat_lit 1, [ee_0, ee_127], [sv_1], [], [(nat_lit 1, nat_lit 0, nat_lit 0)], [(some sv_25, [ee_0, ee_127], [], [])], [], [], [], [])
set_option maxRecDepth 100000 in
theorem syc_299 : CoOk GG MM syt_299 := chk_okF (cs := []) (F := 4000) (fun _ h => absurd h List.not_mem_nil) (by decide +kernel) (by decide +kernel)
/-- M.whyDo -/
def syt_300 : CO := (nat_lit 292, nat_lit 3, [ee_0, ee_27, ee_17, ee_127], [sv_19, sv_1, sv_4, sv_9], [], [(nat_lit 1, nat_lit 1, nat_lit 0), (nat_lit 1, nat_lit 2, nat_lit 0), (nat_lit 1, nat_lit 3, nat_lit 0)], [(some sv_10, [ee_0, ee_27, ee_17, ee_127, ee_148], [], [(nat_lit 1, nat_lit 0, nat_lit 0)]), (some sv_6, [ee_0, ee_27, ee_17, ee_127], [], []), (some sv_24, [ee_0, ee_27, ee_17, ee_127], [], [])], [], [], [], [])
set_option maxRecDepth 100000 in
theorem syc_300 : CoOk GG MM syt_300 := chk_okF (cs := [syt_299, syt_197, syt_244, syt_242, syt_252]) (F := 4000) (cs_c syc_299 <| cs_c syc_197 <| cs_c syc_244 <| cs_c syc_242 <| cs_c syc_252 cs_n) (by decide +kernel) (by decide +kernel)
/-- M.why -/
def syt_301 : CO := (nat_lit 291, nat_lit 4, [ee_0, ee_27, ee_14, ee_127], [sv_19, sv_6, sv_1, sv_4, sv_9], [], [(nat_lit 1, nat_lit 2, nat_lit 0), (nat_lit 1, nat_lit 3, nat_lit 0), (nat_lit 1, nat_lit 4, nat_lit 0)], [(some sv_24, [ee_0, ee_27, ee_14, ee_127], [], []), (some sv_6, [ee_0, ee_27, ee_14, ee_127], [], []), (some sv_10, [ee_0, ee_27, ee_14, ee_127, ee_148], [], [(nat_lit 1, nat_lit 0, nat_lit 0)])], [], [], [], [])
set_option maxRecDepth 100000 in
theorem syc_301 : CoOk GG MM syt_301 := chk_okF (cs := [syt_300]) (F := 4000) (cs_c syc_300 cs_n) (by decide +kernel) (by decide +kernel)
/-- M.snap -/
def syl_302_0 : List LB := [(nat_lit 51, nat_lit 1, nat_lit 0, ([ee_0], [(nat_lit 0, sv_19), (nat_lit 1, sv_6)], [], [(nat_lit 180, nat_lit 24, sv_70)]), [], [(nat_lit 51, nat_lit 1)]),
  (nat_lit 51, nat_lit 2, nat_lit 0, ([ee_0], [(nat_lit 0, sv_19), (nat_lit 1, sv_5)], [], [(nat_lit 180, nat_lit 24, sv_70)]), [], [(nat_lit 51, nat_lit 2)]),
  (nat_lit 51, nat_lit 3, nat_lit 0, ([ee_0], [(nat_lit 0, sv_19), (nat_lit 1, sv_3)], [], [(nat_lit 180, nat_lit 24, sv_70)]), [], [(nat_lit 51, nat_lit 3)]),
  (nat_lit 51, nat_lit 4, nat_lit 0, ([ee_0], [(nat_lit 0, sv_19), (nat_lit 1, sv_2)], [], [(nat_lit 180, nat_lit 24, sv_70)]), [], [(nat_lit 51, nat_lit 4)]),
  (nat_lit 51, nat_lit 5, nat_lit 0, ([ee_0], [(nat_lit 0, sv_19), (nat_lit 1, sv_133)], [], [(nat_lit 180, nat_lit 24, sv_70)]), [], [(nat_lit 51, nat_lit 5)]),
  (nat_lit 51, nat_lit 6, nat_lit 0, ([ee_0], [(nat_lit 0, sv_19), (nat_lit 1, sv_134)], [], [(nat_lit 180, nat_lit 24, sv_70)]), [], [(nat_lit 51, nat_lit 6)])]
def syl_302_1 : List LB := [(nat_lit 51, nat_lit 7, nat_lit 0, ([ee_0], [(nat_lit 0, sv_19), (nat_lit 1, sv_135)], [], [(nat_lit 180, nat_lit 24, sv_70)]), [], []),
  (nat_lit 51, nat_lit 8, nat_lit 0, ([ee_0], [(nat_lit 0, sv_19), (nat_lit 1, sv_6)], [], [(nat_lit 180, nat_lit 24, sv_68)]), [], [(nat_lit 51, nat_lit 8)]),
  (nat_lit 51, nat_lit 9, nat_lit 0, ([ee_0], [(nat_lit 0, sv_19), (nat_lit 1, sv_5)], [], [(nat_lit 180, nat_lit 24, sv_68)]), [], [(nat_lit 51, nat_lit 9)]),
  (nat_lit 51, nat_lit 10, nat_lit 0, ([ee_0], [(nat_lit 0, sv_19), (nat_lit 1, sv_3)], [], [(nat_lit 180, nat_lit 24, sv_68)]), [], [(nat_lit 51, nat_lit 10)]),
  (nat_lit 51, nat_lit 11, nat_lit 0, ([ee_0], [(nat_lit 0, sv_19), (nat_lit 1, sv_2)], [], [(nat_lit 180, nat_lit 24, sv_68)]), [], [(nat_lit 51, nat_lit 11)]),
  (nat_lit 51, nat_lit 12, nat_lit 0, ([ee_0], [(nat_lit 0, sv_19), (nat_lit 1, sv_133)], [], [(nat_lit 180, nat_lit 24, sv_68)]), [], [(nat_lit 51, nat_lit 12)])]
def syl_302_2 : List LB := [(nat_lit 51, nat_lit 13, nat_lit 0, ([ee_0], [(nat_lit 0, sv_19), (nat_lit 1, sv_134)], [], [(nat_lit 180, nat_lit 24, sv_68)]), [], [(nat_lit 51, nat_lit 13)]),
  (nat_lit 51, nat_lit 14, nat_lit 0, ([ee_0], [(nat_lit 0, sv_19), (nat_lit 1, sv_135)], [], [(nat_lit 180, nat_lit 24, sv_68)]), [], []),
  (nat_lit 51, nat_lit 15, nat_lit 0, ([ee_0], [(nat_lit 0, sv_19), (nat_lit 1, sv_6)], [], [(nat_lit 180, nat_lit 24, sv_38)]), [], [(nat_lit 51, nat_lit 15)]),
  (nat_lit 51, nat_lit 16, nat_lit 0, ([ee_0], [(nat_lit 0, sv_19), (nat_lit 1, sv_5)], [], [(nat_lit 180, nat_lit 24, sv_38)]), [], [(nat_lit 51, nat_lit 16)]),
  (nat_lit 51, nat_lit 17, nat_lit 0, ([ee_0], [(nat_lit 0, sv_19), (nat_lit 1, sv_3)], [], [(nat_lit 180, nat_lit 24, sv_38)]), [], [(nat_lit 51, nat_lit 17)]),
  (nat_lit 51, nat_lit 18, nat_lit 0, ([ee_0], [(nat_lit 0, sv_19), (nat_lit 1, sv_2)], [], [(nat_lit 180, nat_lit 24, sv_38)]), [], [(nat_lit 51, nat_lit 18)])]
def syl_302_3 : List LB := [(nat_lit 51, nat_lit 19, nat_lit 0, ([ee_0], [(nat_lit 0, sv_19), (nat_lit 1, sv_133)], [], [(nat_lit 180, nat_lit 24, sv_38)]), [], [(nat_lit 51, nat_lit 19)]),
  (nat_lit 51, nat_lit 20, nat_lit 0, ([ee_0], [(nat_lit 0, sv_19), (nat_lit 1, sv_134)], [], [(nat_lit 180, nat_lit 24, sv_38)]), [], [(nat_lit 51, nat_lit 20)]),
  (nat_lit 51, nat_lit 21, nat_lit 0, ([ee_0], [(nat_lit 0, sv_19), (nat_lit 1, sv_135)], [], [(nat_lit 180, nat_lit 24, sv_38)]), [], []),
  (nat_lit 51, nat_lit 22, nat_lit 0, ([ee_0], [(nat_lit 0, sv_19), (nat_lit 1, sv_6)], [], [(nat_lit 180, nat_lit 24, sv_31)]), [], [(nat_lit 51, nat_lit 22)]),
  (nat_lit 51, nat_lit 23, nat_lit 0, ([ee_0], [(nat_lit 0, sv_19), (nat_lit 1, sv_5)], [], [(nat_lit 180, nat_lit 24, sv_31)]), [], [(nat_lit 51, nat_lit 23)]),
  (nat_lit 51, nat_lit 24, nat_lit 0, ([ee_0], [(nat_lit 0, sv_19), (nat_lit 1, sv_3)], [], [(nat_lit 180, nat_lit 24, sv_31)]), [], [(nat_lit 51, nat_lit 24)])]
def syl_302_4 : List LB := [(nat_lit 51, nat_lit 25, nat_lit 0, ([ee_0], [(nat_lit 0, sv_19), (nat_lit 1, sv_2)], [], [(nat_lit 180, nat_lit 24, sv_31)]), [], [(nat_lit 51, nat_lit 25)]),
  (nat_lit 51, nat_lit 26, nat_lit 0, ([ee_0], [(nat_lit 0, sv_19), (nat_lit 1, sv_133)], [], [(nat_lit 180, nat_lit 24, sv_31)]), [], [(nat_lit 51, nat_lit 26)]),
  (nat_lit 51, nat_lit 27, nat_lit 0, ([ee_0], [(nat_lit 0, sv_19), (nat_lit 1, sv_134)], [], [(nat_lit 180, nat_lit 24, sv_31)]), [], [(nat_lit 51, nat_lit 27)]),
  (nat_lit 51, nat_lit 28, nat_lit 0, ([ee_0], [(nat_lit 0, sv_19), (nat_lit 1, sv_135)], [], [(nat_lit 180, nat_lit 24, sv_31)]), [], []),
  (nat_lit 51, nat_lit 29, nat_lit 0, ([ee_0], [(nat_lit 0, sv_19), (nat_lit 1, sv_6)], [], [(nat_lit 180, nat_lit 24, sv_32)]), [], [(nat_lit 51, nat_lit 29)]),
  (nat_lit 51, nat_lit 30, nat_lit 0, ([ee_0], [(nat_lit 0, sv_19), (nat_lit 1, sv_5)], [], [(nat_lit 180, nat_lit 24, sv_32)]), [], [(nat_lit 51, nat_lit 30)])]
def syl_302_5 : List LB := [(nat_lit 51, nat_lit 31, nat_lit 0, ([ee_0], [(nat_lit 0, sv_19), (nat_lit 1, sv_3)], [], [(nat_lit 180, nat_lit 24, sv_32)]), [], [(nat_lit 51, nat_lit 31)]),
  (nat_lit 51, nat_lit 32, nat_lit 0, ([ee_0], [(nat_lit 0, sv_19), (nat_lit 1, sv_2)], [], [(nat_lit 180, nat_lit 24, sv_32)]), [], [(nat_lit 51, nat_lit 32)]),
  (nat_lit 51, nat_lit 33, nat_lit 0, ([ee_0], [(nat_lit 0, sv_19), (nat_lit 1, sv_133)], [], [(nat_lit 180, nat_lit 24, sv_32)]), [], [(nat_lit 51, nat_lit 33)]),
  (nat_lit 51, nat_lit 34, nat_lit 0, ([ee_0], [(nat_lit 0, sv_19), (nat_lit 1, sv_134)], [], [(nat_lit 180, nat_lit 24, sv_32)]), [], [(nat_lit 51, nat_lit 34)]),
  (nat_lit 51, nat_lit 35, nat_lit 0, ([ee_0], [(nat_lit 0, sv_19), (nat_lit 1, sv_135)], [], [(nat_lit 180, nat_lit 24, sv_32)]), [], []),
  (nat_lit 51, nat_lit 36, nat_lit 0, ([ee_0], [(nat_lit 0, sv_19), (nat_lit 1, sv_6)], [], [(nat_lit 180, nat_lit 24, sv_24)]), [], [(nat_lit 51, nat_lit 36)])]
def syl_302_6 : List LB := [(nat_lit 51, nat_lit 37, nat_lit 0, ([ee_0], [(nat_lit 0, sv_19), (nat_lit 1, sv_5)], [], [(nat_lit 180, nat_lit 24, sv_24)]), [], [(nat_lit 51, nat_lit 37)]),
  (nat_lit 51, nat_lit 38, nat_lit 0, ([ee_0], [(nat_lit 0, sv_19), (nat_lit 1, sv_3)], [], [(nat_lit 180, nat_lit 24, sv_24)]), [], [(nat_lit 51, nat_lit 38)]),
  (nat_lit 51, nat_lit 39, nat_lit 0, ([ee_0], [(nat_lit 0, sv_19), (nat_lit 1, sv_2)], [], [(nat_lit 180, nat_lit 24, sv_24)]), [], [(nat_lit 51, nat_lit 39)]),
  (nat_lit 51, nat_lit 40, nat_lit 0, ([ee_0], [(nat_lit 0, sv_19), (nat_lit 1, sv_133)], [], [(nat_lit 180, nat_lit 24, sv_24)]), [], [(nat_lit 51, nat_lit 40)]),
  (nat_lit 51, nat_lit 41, nat_lit 0, ([ee_0], [(nat_lit 0, sv_19), (nat_lit 1, sv_134)], [], [(nat_lit 180, nat_lit 24, sv_24)]), [], [(nat_lit 51, nat_lit 41)]),
  (nat_lit 51, nat_lit 42, nat_lit 0, ([ee_0], [(nat_lit 0, sv_19), (nat_lit 1, sv_135)], [], [(nat_lit 180, nat_lit 24, sv_24)]), [], [])]
def syl_302_7 : List LB := [(nat_lit 51, nat_lit 43, nat_lit 0, ([ee_0], [(nat_lit 0, sv_19), (nat_lit 1, sv_6)], [], [(nat_lit 180, nat_lit 24, sv_6)]), [], [(nat_lit 51, nat_lit 43)]),
  (nat_lit 51, nat_lit 44, nat_lit 0, ([ee_0], [(nat_lit 0, sv_19), (nat_lit 1, sv_5)], [], [(nat_lit 180, nat_lit 24, sv_6)]), [], [(nat_lit 51, nat_lit 44)]),
  (nat_lit 51, nat_lit 45, nat_lit 0, ([ee_0], [(nat_lit 0, sv_19), (nat_lit 1, sv_3)], [], [(nat_lit 180, nat_lit 24, sv_6)]), [], [(nat_lit 51, nat_lit 45)]),
  (nat_lit 51, nat_lit 46, nat_lit 0, ([ee_0], [(nat_lit 0, sv_19), (nat_lit 1, sv_2)], [], [(nat_lit 180, nat_lit 24, sv_6)]), [], [(nat_lit 51, nat_lit 46)]),
  (nat_lit 51, nat_lit 47, nat_lit 0, ([ee_0], [(nat_lit 0, sv_19), (nat_lit 1, sv_133)], [], [(nat_lit 180, nat_lit 24, sv_6)]), [], [(nat_lit 51, nat_lit 47)]),
  (nat_lit 51, nat_lit 48, nat_lit 0, ([ee_0], [(nat_lit 0, sv_19), (nat_lit 1, sv_134)], [], [(nat_lit 180, nat_lit 24, sv_6)]), [], [(nat_lit 51, nat_lit 48)])]
def syl_302_8 : List LB := [(nat_lit 51, nat_lit 49, nat_lit 0, ([ee_0], [(nat_lit 0, sv_19), (nat_lit 1, sv_135)], [], [(nat_lit 180, nat_lit 24, sv_6)]), [], []),
  (nat_lit 11, nat_lit 50, nat_lit 0, ([ee_0], [(nat_lit 0, sv_19), (nat_lit 1, sv_6)], [], [(nat_lit 180, nat_lit 24, sv_5)]), [], [(nat_lit 11, nat_lit 50)]),
  (nat_lit 11, nat_lit 51, nat_lit 0, ([ee_0], [(nat_lit 0, sv_19), (nat_lit 1, sv_5)], [], [(nat_lit 180, nat_lit 24, sv_5)]), [], [(nat_lit 11, nat_lit 51)]),
  (nat_lit 11, nat_lit 52, nat_lit 0, ([ee_0], [(nat_lit 0, sv_19), (nat_lit 1, sv_3)], [], [(nat_lit 180, nat_lit 24, sv_5)]), [], [(nat_lit 11, nat_lit 52)]),
  (nat_lit 11, nat_lit 53, nat_lit 0, ([ee_0], [(nat_lit 0, sv_19), (nat_lit 1, sv_2)], [], [(nat_lit 180, nat_lit 24, sv_5)]), [], [(nat_lit 11, nat_lit 53)]),
  (nat_lit 11, nat_lit 54, nat_lit 0, ([ee_0], [(nat_lit 0, sv_19), (nat_lit 1, sv_133)], [], [(nat_lit 180, nat_lit 24, sv_5)]), [], [(nat_lit 11, nat_lit 54)]),
  (nat_lit 11, nat_lit 55, nat_lit 0, ([ee_0], [(nat_lit 0, sv_19), (nat_lit 1, sv_134)], [], [(nat_lit 180, nat_lit 24, sv_5)]), [], [(nat_lit 11, nat_lit 55)]),
  (nat_lit 11, nat_lit 56, nat_lit 0, ([ee_0], [(nat_lit 0, sv_19), (nat_lit 1, sv_135)], [], [(nat_lit 180, nat_lit 24, sv_5)]), [], [(nat_lit 11, nat_lit 56)])]
def syl_302_9 : List LB := [(nat_lit 11, nat_lit 57, nat_lit 0, ([ee_0], [(nat_lit 0, sv_19), (nat_lit 1, sv_136)], [], [(nat_lit 180, nat_lit 24, sv_5)]), [], [(nat_lit 11, nat_lit 57)]),
  (nat_lit 11, nat_lit 58, nat_lit 0, ([ee_0], [(nat_lit 0, sv_19), (nat_lit 1, sv_137)], [], [(nat_lit 180, nat_lit 24, sv_5)]), [], [(nat_lit 11, nat_lit 58)]),
  (nat_lit 11, nat_lit 59, nat_lit 0, ([ee_0], [(nat_lit 0, sv_19), (nat_lit 1, sv_138)], [], [(nat_lit 180, nat_lit 24, sv_5)]), [], [(nat_lit 11, nat_lit 59)]),
  (nat_lit 11, nat_lit 60, nat_lit 0, ([ee_0], [(nat_lit 0, sv_19), (nat_lit 1, sv_139)], [], [(nat_lit 180, nat_lit 24, sv_5)]), [], [(nat_lit 11, nat_lit 60)]),
  (nat_lit 11, nat_lit 61, nat_lit 0, ([ee_0], [(nat_lit 0, sv_19), (nat_lit 1, sv_140)], [], [(nat_lit 180, nat_lit 24, sv_5)]), [], [(nat_lit 11, nat_lit 61)]),
  (nat_lit 11, nat_lit 62, nat_lit 0, ([ee_0], [(nat_lit 0, sv_19), (nat_lit 1, sv_141)], [], [(nat_lit 180, nat_lit 24, sv_5)]), [], [(nat_lit 11, nat_lit 62)]),
  (nat_lit 11, nat_lit 63, nat_lit 0, ([ee_0], [(nat_lit 0, sv_19), (nat_lit 1, sv_63)], [], [(nat_lit 180, nat_lit 24, sv_5)]), [], [(nat_lit 11, nat_lit 63)]),
  (nat_lit 11, nat_lit 64, nat_lit 0, ([ee_0], [(nat_lit 0, sv_19), (nat_lit 1, sv_53)], [], [(nat_lit 180, nat_lit 24, sv_5)]), [], [(nat_lit 11, nat_lit 64)])]
def syl_302_10 : List LB := [(nat_lit 11, nat_lit 65, nat_lit 0, ([ee_0], [(nat_lit 0, sv_19), (nat_lit 1, sv_98)], [], [(nat_lit 180, nat_lit 24, sv_5)]), [], [(nat_lit 11, nat_lit 65)]),
  (nat_lit 11, nat_lit 66, nat_lit 0, ([ee_0], [(nat_lit 0, sv_19), (nat_lit 1, sv_99)], [], [(nat_lit 180, nat_lit 24, sv_5)]), [], [(nat_lit 11, nat_lit 66)]),
  (nat_lit 11, nat_lit 67, nat_lit 0, ([ee_0], [(nat_lit 0, sv_19), (nat_lit 1, sv_100)], [], [(nat_lit 180, nat_lit 24, sv_5)]), [], [(nat_lit 11, nat_lit 67)]),
  (nat_lit 11, nat_lit 68, nat_lit 0, ([ee_0], [(nat_lit 0, sv_19), (nat_lit 1, sv_101)], [], [(nat_lit 180, nat_lit 24, sv_5)]), [], [(nat_lit 11, nat_lit 68)]),
  (nat_lit 11, nat_lit 69, nat_lit 0, ([ee_0], [(nat_lit 0, sv_19), (nat_lit 1, sv_102)], [], [(nat_lit 180, nat_lit 24, sv_5)]), [], [(nat_lit 11, nat_lit 69)]),
  (nat_lit 11, nat_lit 70, nat_lit 0, ([ee_0], [(nat_lit 0, sv_19), (nat_lit 1, sv_103)], [], [(nat_lit 180, nat_lit 24, sv_5)]), [], [(nat_lit 11, nat_lit 70)]),
  (nat_lit 11, nat_lit 71, nat_lit 0, ([ee_0], [(nat_lit 0, sv_19), (nat_lit 1, sv_104)], [], [(nat_lit 180, nat_lit 24, sv_5)]), [], [(nat_lit 11, nat_lit 71)]),
  (nat_lit 11, nat_lit 72, nat_lit 0, ([ee_0], [(nat_lit 0, sv_19), (nat_lit 1, sv_105)], [], [(nat_lit 180, nat_lit 24, sv_5)]), [], [(nat_lit 11, nat_lit 72)])]
def syl_302_11 : List LB := [(nat_lit 11, nat_lit 73, nat_lit 0, ([ee_0], [(nat_lit 0, sv_19), (nat_lit 1, sv_106)], [], [(nat_lit 180, nat_lit 24, sv_5)]), [], [(nat_lit 11, nat_lit 73)]),
  (nat_lit 11, nat_lit 74, nat_lit 0, ([ee_0], [(nat_lit 0, sv_19), (nat_lit 1, sv_107)], [], [(nat_lit 180, nat_lit 24, sv_5)]), [], [(nat_lit 11, nat_lit 74)]),
  (nat_lit 11, nat_lit 75, nat_lit 0, ([ee_0], [(nat_lit 0, sv_19), (nat_lit 1, sv_108)], [], [(nat_lit 180, nat_lit 24, sv_5)]), [], [(nat_lit 11, nat_lit 75)]),
  (nat_lit 11, nat_lit 76, nat_lit 0, ([ee_0], [(nat_lit 0, sv_19), (nat_lit 1, sv_109)], [], [(nat_lit 180, nat_lit 24, sv_5)]), [], [(nat_lit 11, nat_lit 76)]),
  (nat_lit 11, nat_lit 77, nat_lit 0, ([ee_0], [(nat_lit 0, sv_19), (nat_lit 1, sv_110)], [], [(nat_lit 180, nat_lit 24, sv_5)]), [], [(nat_lit 11, nat_lit 77)]),
  (nat_lit 11, nat_lit 78, nat_lit 0, ([ee_0], [(nat_lit 0, sv_19), (nat_lit 1, sv_111)], [], [(nat_lit 180, nat_lit 24, sv_5)]), [], [(nat_lit 11, nat_lit 78)]),
  (nat_lit 11, nat_lit 79, nat_lit 0, ([ee_0], [(nat_lit 0, sv_19), (nat_lit 1, sv_112)], [], [(nat_lit 180, nat_lit 24, sv_5)]), [], [(nat_lit 11, nat_lit 79)]),
  (nat_lit 11, nat_lit 80, nat_lit 0, ([ee_0], [(nat_lit 0, sv_19), (nat_lit 1, sv_113)], [], [(nat_lit 180, nat_lit 24, sv_5)]), [], [(nat_lit 11, nat_lit 80)])]
def syl_302_12 : List LB := [(nat_lit 11, nat_lit 81, nat_lit 0, ([ee_0], [(nat_lit 0, sv_19), (nat_lit 1, sv_114)], [], [(nat_lit 180, nat_lit 24, sv_5)]), [], [(nat_lit 11, nat_lit 81)]),
  (nat_lit 11, nat_lit 82, nat_lit 0, ([ee_0], [(nat_lit 0, sv_19), (nat_lit 1, sv_115)], [], [(nat_lit 180, nat_lit 24, sv_5)]), [], [(nat_lit 11, nat_lit 82)]),
  (nat_lit 11, nat_lit 83, nat_lit 0, ([ee_0], [(nat_lit 0, sv_19), (nat_lit 1, sv_116)], [], [(nat_lit 180, nat_lit 24, sv_5)]), [], [(nat_lit 11, nat_lit 83)]),
  (nat_lit 11, nat_lit 84, nat_lit 0, ([ee_0], [(nat_lit 0, sv_19), (nat_lit 1, sv_117)], [], [(nat_lit 180, nat_lit 24, sv_5)]), [], [(nat_lit 11, nat_lit 84)]),
  (nat_lit 11, nat_lit 85, nat_lit 0, ([ee_0], [(nat_lit 0, sv_19), (nat_lit 1, sv_118)], [], [(nat_lit 180, nat_lit 24, sv_5)]), [], [(nat_lit 11, nat_lit 85)]),
  (nat_lit 11, nat_lit 86, nat_lit 0, ([ee_0], [(nat_lit 0, sv_19), (nat_lit 1, sv_119)], [], [(nat_lit 180, nat_lit 24, sv_5)]), [], [(nat_lit 11, nat_lit 86)]),
  (nat_lit 11, nat_lit 87, nat_lit 0, ([ee_0], [(nat_lit 0, sv_19), (nat_lit 1, sv_120)], [], [(nat_lit 180, nat_lit 24, sv_5)]), [], [(nat_lit 11, nat_lit 87)]),
  (nat_lit 11, nat_lit 88, nat_lit 0, ([ee_0], [(nat_lit 0, sv_19), (nat_lit 1, sv_121)], [], [(nat_lit 180, nat_lit 24, sv_5)]), [], [(nat_lit 11, nat_lit 88)])]
def syl_302_13 : List LB := [(nat_lit 11, nat_lit 89, nat_lit 0, ([ee_0], [(nat_lit 0, sv_19), (nat_lit 1, sv_122)], [], [(nat_lit 180, nat_lit 24, sv_5)]), [], [(nat_lit 11, nat_lit 89)]),
  (nat_lit 11, nat_lit 90, nat_lit 0, ([ee_0], [(nat_lit 0, sv_19), (nat_lit 1, sv_123)], [], [(nat_lit 180, nat_lit 24, sv_5)]), [], [(nat_lit 11, nat_lit 90)]),
  (nat_lit 11, nat_lit 91, nat_lit 0, ([ee_0], [(nat_lit 0, sv_19), (nat_lit 1, sv_124)], [], [(nat_lit 180, nat_lit 24, sv_5)]), [], [(nat_lit 11, nat_lit 91)]),
  (nat_lit 11, nat_lit 92, nat_lit 0, ([ee_0], [(nat_lit 0, sv_19), (nat_lit 1, sv_125)], [], [(nat_lit 180, nat_lit 24, sv_5)]), [], [(nat_lit 11, nat_lit 92)]),
  (nat_lit 11, nat_lit 93, nat_lit 0, ([ee_0], [(nat_lit 0, sv_19), (nat_lit 1, sv_126)], [], [(nat_lit 180, nat_lit 24, sv_5)]), [], [(nat_lit 11, nat_lit 93)]),
  (nat_lit 11, nat_lit 94, nat_lit 0, ([ee_0], [(nat_lit 0, sv_19), (nat_lit 1, sv_127)], [], [(nat_lit 180, nat_lit 24, sv_5)]), [], [(nat_lit 11, nat_lit 94)]),
  (nat_lit 11, nat_lit 95, nat_lit 0, ([ee_0], [(nat_lit 0, sv_19), (nat_lit 1, sv_128)], [], [(nat_lit 180, nat_lit 24, sv_5)]), [], [(nat_lit 11, nat_lit 95)]),
  (nat_lit 11, nat_lit 96, nat_lit 0, ([ee_0], [(nat_lit 0, sv_19), (nat_lit 1, sv_129)], [], [(nat_lit 180, nat_lit 24, sv_5)]), [], [(nat_lit 51, nat_lit 96)])]
def syl_302_14 : List LB := [(nat_lit 51, nat_lit 97, nat_lit 0, ([ee_0], [(nat_lit 0, sv_19), (nat_lit 1, sv_6)], [], [(nat_lit 180, nat_lit 24, sv_59)]), [], [(nat_lit 51, nat_lit 97)]),
  (nat_lit 51, nat_lit 98, nat_lit 0, ([ee_0], [(nat_lit 0, sv_19), (nat_lit 1, sv_5)], [], [(nat_lit 180, nat_lit 24, sv_59)]), [], [(nat_lit 51, nat_lit 98)]),
  (nat_lit 51, nat_lit 99, nat_lit 0, ([ee_0], [(nat_lit 0, sv_19), (nat_lit 1, sv_3)], [], [(nat_lit 180, nat_lit 24, sv_59)]), [], [(nat_lit 51, nat_lit 99)]),
  (nat_lit 51, nat_lit 100, nat_lit 0, ([ee_0], [(nat_lit 0, sv_19), (nat_lit 1, sv_2)], [], [(nat_lit 180, nat_lit 24, sv_59)]), [], [(nat_lit 51, nat_lit 100)]),
  (nat_lit 51, nat_lit 101, nat_lit 0, ([ee_0], [(nat_lit 0, sv_19), (nat_lit 1, sv_133)], [], [(nat_lit 180, nat_lit 24, sv_59)]), [], [(nat_lit 51, nat_lit 101)]),
  (nat_lit 51, nat_lit 102, nat_lit 0, ([ee_0], [(nat_lit 0, sv_19), (nat_lit 1, sv_134)], [], [(nat_lit 180, nat_lit 24, sv_59)]), [], [(nat_lit 51, nat_lit 102)])]
def syl_302_15 : List LB := [(nat_lit 51, nat_lit 103, nat_lit 0, ([ee_0], [(nat_lit 0, sv_19), (nat_lit 1, sv_135)], [], [(nat_lit 180, nat_lit 24, sv_59)]), [], [])]
def syt_302 : CO := (nat_lit 278, nat_lit 1, [ee_0], [sv_19], [], [], [(none, [ee_0, ee_31], [(nat_lit 180, nat_lit 24, sv_1)], [(nat_lit 2, nat_lit 180, nat_lit 24)])], [(nat_lit 180, nat_lit 24, nat_lit 24), (nat_lit 185, nat_lit 0, nat_lit 423)], (syl_302_0 ++ (syl_302_1 ++ (syl_302_2 ++ (syl_302_3 ++ (syl_302_4 ++ (syl_302_5 ++ (syl_302_6 ++ (syl_302_7 ++ (syl_302_8 ++ (syl_302_9 ++ (syl_302_10 ++ (syl_302_11 ++ (syl_302_12 ++ (syl_302_13 ++ (syl_302_14 ++ (syl_302_15)))))))))))))))), [(nat_lit 180, nat_lit 24, nat_lit 1)], [(nat_lit 11, nat_lit 49), (nat_lit 51, nat_lit 0), (nat_lit 51, nat_lit 7), (nat_lit 51, nat_lit 14), (nat_lit 51, nat_lit 21), (nat_lit 51, nat_lit 28), (nat_lit 51, nat_lit 35), (nat_lit 51, nat_lit 42), (nat_lit 51, nat_lit 96)])
set_option maxRecDepth 100000 in
theorem syp_302_0 : runL_f GG [] syt_302 4000 0 syl_302_0 = true := by decide +kernel
set_option maxRecDepth 100000 in
theorem syp_302_1 : runL_f GG [] syt_302 4000 6 syl_302_1 = true := by decide +kernel
set_option maxRecDepth 100000 in
theorem syp_302_2 : runL_f GG [] syt_302 4000 12 syl_302_2 = true := by decide +kernel
set_option maxRecDepth 100000 in
theorem syp_302_3 : runL_f GG [] syt_302 4000 18 syl_302_3 = true := by decide +kernel
set_option maxRecDepth 100000 in
theorem syp_302_4 : runL_f GG [] syt_302 4000 24 syl_302_4 = true := by decide +kernel
set_option maxRecDepth 100000 in
theorem syp_302_5 : runL_f GG [] syt_302 4000 30 syl_302_5 = true := by decide +kernel
set_option maxRecDepth 100000 in
theorem syp_302_6 : runL_f GG [] syt_302 4000 36 syl_302_6 = true := by decide +kernel
set_option maxRecDepth 100000 in
theorem syp_302_7 : runL_f GG [] syt_302 4000 42 syl_302_7 = true := by decide +kernel
set_option maxRecDepth 100000 in
theorem syp_302_8 : runL_f GG [] syt_302 4000 48 syl_302_8 = true := by decide +kernel
set_option maxRecDepth 100000 in
theorem syp_302_9 : runL_f GG [] syt_302 4000 56 syl_302_9 = true := by decide +kernel
set_option maxRecDepth 100000 in
theorem syp_302_10 : runL_f GG [] syt_302 4000 64 syl_302_10 = true := by decide +kernel
set_option maxRecDepth 100000 in
theorem syp_302_11 : runL_f GG [] syt_302 4000 72 syl_302_11 = true := by decide +kernel
set_option maxRecDepth 100000 in
theorem syp_302_12 : runL_f GG [] syt_302 4000 80 syl_302_12 = true := by decide +kernel
set_option maxRecDepth 100000 in
theorem syp_302_13 : runL_f GG [] syt_302 4000 88 syl_302_13 = true := by decide +kernel
set_option maxRecDepth 100000 in
theorem syp_302_14 : runL_f GG [] syt_302 4000 96 syl_302_14 = true := by decide +kernel
set_option maxRecDepth 100000 in
theorem syp_302_15 : runL_f GG [] syt_302 4000 102 syl_302_15 = true := by decide +kernel
set_option maxRecDepth 100000 in
theorem syc_302 : CoOk GG MM syt_302 := chk_okP (cs := []) (F := 4000) (fun _ h => absurd h List.not_mem_nil) (by decide +kernel) (runL_app (runL_q syp_302_0) (runL_app (runL_q syp_302_1) (runL_app (runL_q syp_302_2) (runL_app (runL_q syp_302_3) (runL_app (runL_q syp_302_4) (runL_app (runL_q syp_302_5) (runL_app (runL_q syp_302_6) (runL_app (runL_q syp_302_7) (runL_app (runL_q syp_302_8) (runL_app (runL_q syp_302_9) (runL_app (runL_q syp_302_10) (runL_app (runL_q syp_302_11) (runL_app (runL_q syp_302_12) (runL_app (runL_q syp_302_13) (runL_app (runL_q syp_302_14) ((runL_q syp_302_15)))))))))))))))))
end
section
/-! ===== contracts, inferred and printed by my program, checked here ===== -/
/-- M.least -/
def syt_303 : CO := (nat_lit 231, nat_lit 1, [ee_0, ee_149], [sv_152, sv_1], [], [(nat_lit 1, nat_lit 1, nat_lit 0)], [(some sv_4, [ee_0, ee_149, ee_150], [], [(nat_lit 1, nat_lit 0, nat_lit 0)])], [], [], [], [])
set_option maxRecDepth 100000 in
theorem syc_303 : CoOk GG MM syt_303 := chk_okF (cs := []) (F := 4000) (fun _ h => absurd h List.not_mem_nil) (by decide +kernel) (by decide +kernel)
/-- M.least -/
def syt_304 : CO := (nat_lit 231, nat_lit 1, [ee_0, ee_1], [sv_69, sv_1], [], [(nat_lit 1, nat_lit 1, nat_lit 0)], [(some sv_4, [ee_0, ee_1, ee_151], [], [(nat_lit 1, nat_lit 0, nat_lit 0)])], [], [], [], [])
set_option maxRecDepth 100000 in
theorem syc_304 : CoOk GG MM syt_304 := chk_okF (cs := []) (F := 4000) (fun _ h => absurd h List.not_mem_nil) (by decide +kernel) (by decide +kernel)
/-- M.doDeed -/
def syt_305 : CO := (nat_lit 189, nat_lit 3, [ee_0, ee_27, ee_14, ee_127], [sv_19, sv_1, sv_4, sv_9], [], [(nat_lit 1, nat_lit 1, nat_lit 0), (nat_lit 1, nat_lit 2, nat_lit 0), (nat_lit 1, nat_lit 3, nat_lit 0)], [(none, [ee_0, ee_27, ee_14, ee_127], [], [])], [(nat_lit 182, nat_lit 103, nat_lit 131), (nat_lit 182, nat_lit 139, nat_lit 153)], [], [], [])
set_option maxRecDepth 100000 in
theorem syc_305 : CoOk GG MM syt_305 := chk_okF (cs := [syt_299, syt_243, syt_303, syt_304]) (F := 4000) (cs_c syc_299 <| cs_c syc_243 <| cs_c syc_303 <| cs_c syc_304 cs_n) (by decide +kernel) (by decide +kernel)
/-- M.live -/
def syt_306 : CO := (nat_lit 232, nat_lit 4, [ee_0, ee_27, ee_14, ee_127], [sv_19, sv_6, sv_1, sv_4, sv_9], [], [(nat_lit 1, nat_lit 2, nat_lit 0), (nat_lit 1, nat_lit 3, nat_lit 0), (nat_lit 1, nat_lit 4, nat_lit 0)], [(none, [ee_0, ee_27, ee_14, ee_127], [], [])], [(nat_lit 182, nat_lit 103, nat_lit 131), (nat_lit 182, nat_lit 139, nat_lit 153)], [], [], [])
set_option maxRecDepth 100000 in
theorem syc_306 : CoOk GG MM syt_306 := chk_okF (cs := [syt_305]) (F := 4000) (cs_c syc_305 cs_n) (by decide +kernel) (by decide +kernel)
/-- M.act -/
def syt_307 : CO := (nat_lit 173, nat_lit 5, [ee_0, ee_27, ee_14, ee_127], [sv_19, sv_6, sv_1, sv_4, sv_9, sv_24], [], [(nat_lit 1, nat_lit 2, nat_lit 0), (nat_lit 1, nat_lit 3, nat_lit 0), (nat_lit 1, nat_lit 4, nat_lit 0)], [(some sv_10, [ee_0, ee_27, ee_14, ee_127, ee_148], [], [(nat_lit 1, nat_lit 0, nat_lit 0)]), (some sv_6, [ee_0, ee_27, ee_14, ee_127], [], []), (some sv_24, [ee_0, ee_27, ee_14, ee_127], [], [])], [(nat_lit 180, nat_lit 24, nat_lit 24), (nat_lit 182, nat_lit 103, nat_lit 131), (nat_lit 182, nat_lit 139, nat_lit 153), (nat_lit 185, nat_lit 0, nat_lit 423)], [], [], [])
set_option maxRecDepth 100000 in
theorem syc_307 : CoOk GG MM syt_307 := chk_okF (cs := [syt_306, syt_302, syt_301]) (F := 4000) (cs_c syc_306 <| cs_c syc_302 <| cs_c syc_301 cs_n) (by decide +kernel) (by decide +kernel)
/-- M.act -/
def syt_308 : CO := (nat_lit 173, nat_lit 1, [ee_0, ee_27, ee_1, ee_1], [sv_19, sv_6, sv_1, sv_4, sv_9, sv_6], [], [(nat_lit 1, nat_lit 2, nat_lit 0), (nat_lit 1, nat_lit 3, nat_lit 0), (nat_lit 1, nat_lit 4, nat_lit 0)], [(some sv_16, [ee_0, ee_27, ee_1, ee_1], [], [])], [], [], [], [])
set_option maxRecDepth 100000 in
theorem syc_308 : CoOk GG MM syt_308 := chk_okF (cs := []) (F := 4000) (fun _ h => absurd h List.not_mem_nil) (by decide +kernel) (by decide +kernel)
/-- M.act -/
def syt_309 : CO := (nat_lit 173, nat_lit 1, [ee_0, ee_1, ee_1, ee_1], [sv_19, sv_6, sv_1, sv_4, sv_9, sv_6], [], [(nat_lit 1, nat_lit 2, nat_lit 0), (nat_lit 1, nat_lit 3, nat_lit 0), (nat_lit 1, nat_lit 4, nat_lit 0)], [(some sv_16, [ee_0, ee_1, ee_1, ee_1], [], [])], [], [], [], [])
set_option maxRecDepth 100000 in
theorem syc_309 : CoOk GG MM syt_309 := chk_okF (cs := []) (F := 4000) (fun _ h => absurd h List.not_mem_nil) (by decide +kernel) (by decide +kernel)
/-- M.does -/
def syt_310 : CO := (nat_lit 190, nat_lit 6, [ee_0, ee_1, ee_1, ee_1], [sv_19, sv_1, sv_4, sv_9], [], [(nat_lit 1, nat_lit 1, nat_lit 0), (nat_lit 1, nat_lit 2, nat_lit 0), (nat_lit 1, nat_lit 3, nat_lit 0)], [(some sv_16, [ee_0, ee_1, ee_1, ee_1], [], []), (some sv_24, [ee_0, ee_27, ee_14, ee_127, ee_26, ee_31], [(nat_lit 182, nat_lit 0, sv_10), (nat_lit 182, nat_lit 1, sv_11)], [(nat_lit 2, nat_lit 182, nat_lit 0), (nat_lit 2, nat_lit 182, nat_lit 1)]), (some sv_6, [ee_0, ee_27, ee_14, ee_127, ee_26, ee_31], [(nat_lit 182, nat_lit 0, sv_10), (nat_lit 182, nat_lit 1, sv_11)], [(nat_lit 2, nat_lit 182, nat_lit 0), (nat_lit 2, nat_lit 182, nat_lit 1)]), (some sv_17, [ee_0, ee_27, ee_14, ee_127, ee_26, ee_31, ee_148], [(nat_lit 182, nat_lit 0, sv_10), (nat_lit 182, nat_lit 1, sv_11)], [(nat_lit 2, nat_lit 182, nat_lit 0), (nat_lit 2, nat_lit 182, nat_lit 1), (nat_lit 1, nat_lit 0, nat_lit 0)])], [(nat_lit 180, nat_lit 0, nat_lit 0), (nat_lit 180, nat_lit 24, nat_lit 24), (nat_lit 182, nat_lit 103, nat_lit 131), (nat_lit 182, nat_lit 139, nat_lit 153), (nat_lit 185, nat_lit 0, nat_lit 423)], [], [], [])
set_option maxRecDepth 100000 in
theorem syc_310 : CoOk GG MM syt_310 := chk_okF (cs := [syt_307, syt_298, syt_308, syt_309, syt_258, syt_251, syt_235]) (F := 4000) (cs_c syc_307 <| cs_c syc_298 <| cs_c syc_308 <| cs_c syc_309 <| cs_c syc_258 <| cs_c syc_251 <| cs_c syc_235 cs_n) (by decide +kernel) (by decide +kernel)
/-- Life.whyNotWed -/
def syt_311 : CO := (nat_lit 118, nat_lit 2, [ee_0, ee_27, ee_27], [sv_41, sv_1, sv_4], [], [(nat_lit 1, nat_lit 1, nat_lit 0), (nat_lit 1, nat_lit 2, nat_lit 0)], [(some sv_24, [ee_0, ee_27, ee_27], [], []), (some sv_6, [ee_0, ee_27, ee_27], [], []), (some sv_9, [ee_0, ee_27, ee_27, ee_152], [], [(nat_lit 1, nat_lit 0, nat_lit 0)])], [], [], [], [])
set_option maxRecDepth 100000 in
theorem syc_311 : CoOk GG MM syt_311 := chk_okF (cs := [syt_280, syt_261, syt_264]) (F := 4000) (cs_c syc_280 <| cs_c syc_261 <| cs_c syc_264 cs_n) (by decide +kernel) (by decide +kernel)
/-- Life.whyNot -/
def syt_312 : CO := (nat_lit 116, nat_lit 3, [ee_0, ee_27, ee_27], [sv_41, sv_12, sv_72, sv_1, sv_4, sv_6], [], [(nat_lit 1, nat_lit 3, nat_lit 0), (nat_lit 1, nat_lit 4, nat_lit 0)], [(some sv_9, [ee_0, ee_27, ee_27, ee_152], [], [(nat_lit 1, nat_lit 0, nat_lit 0)]), (some sv_6, [ee_0, ee_27, ee_27], [], []), (some sv_24, [ee_0, ee_27, ee_27], [], [])], [], [], [], [])
set_option maxRecDepth 100000 in
theorem syc_312 : CoOk GG MM syt_312 := chk_okF (cs := [syt_311]) (F := 4000) (cs_c syc_311 cs_n) (by decide +kernel) (by decide +kernel)
/-- Life.wedTwo -/
def syt_313 : CO := (nat_lit 115, nat_lit 1, [ee_0, ee_27, ee_27], [sv_41, sv_1, sv_4], [], [(nat_lit 1, nat_lit 1, nat_lit 0), (nat_lit 1, nat_lit 2, nat_lit 0)], [(none, [ee_0, ee_27, ee_27], [], [])], [(nat_lit 28, nat_lit 0, nat_lit 6)], [], [], [])
set_option maxRecDepth 100000 in
theorem syc_313 : CoOk GG MM syt_313 := chk_okF (cs := []) (F := 4000) (fun _ h => absurd h List.not_mem_nil) (by decide +kernel) (by decide +kernel)
/-- Life.perform -/
def syt_314 : CO := (nat_lit 112, nat_lit 2, [ee_0, ee_27, ee_27], [sv_41, sv_12, sv_72, sv_1, sv_4, sv_6], [], [(nat_lit 1, nat_lit 3, nat_lit 0), (nat_lit 1, nat_lit 4, nat_lit 0)], [(none, [ee_0, ee_27, ee_27], [], [])], [(nat_lit 28, nat_lit 0, nat_lit 6)], [], [], [])
set_option maxRecDepth 100000 in
theorem syc_314 : CoOk GG MM syt_314 := chk_okF (cs := [syt_313]) (F := 4000) (cs_c syc_313 cs_n) (by decide +kernel) (by decide +kernel)
/-- X.act -/
def syt_315 : CO := (nat_lit 2, nat_lit 4, [ee_0, ee_27, ee_27], [sv_8, sv_72, sv_1, sv_4, sv_6], [(nat_lit 0, nat_lit 1, sv_12)], [(nat_lit 1, nat_lit 2, nat_lit 0), (nat_lit 1, nat_lit 3, nat_lit 0)], [(some sv_24, [ee_0, ee_27, ee_27], [(nat_lit 0, nat_lit 1, sv_12)], []), (some sv_6, [ee_0, ee_27, ee_27], [(nat_lit 0, nat_lit 1, sv_12)], []), (some sv_9, [ee_0, ee_27, ee_27, ee_152], [(nat_lit 0, nat_lit 1, sv_12)], [(nat_lit 1, nat_lit 0, nat_lit 0)])], [(nat_lit 28, nat_lit 0, nat_lit 6), (nat_lit 39, nat_lit 1, nat_lit 2), (nat_lit 41, nat_lit 0, nat_lit 3), (nat_lit 42, nat_lit 0, nat_lit 7), (nat_lit 43, nat_lit 0, nat_lit 7), (nat_lit 44, nat_lit 0, nat_lit 7), (nat_lit 45, nat_lit 0, nat_lit 7), (nat_lit 46, nat_lit 0, nat_lit 7), (nat_lit 47, nat_lit 0, nat_lit 7), (nat_lit 48, nat_lit 0, nat_lit 8), (nat_lit 49, nat_lit 0, nat_lit 3), (nat_lit 50, nat_lit 0, nat_lit 7), (nat_lit 51, nat_lit 0, nat_lit 7), (nat_lit 52, nat_lit 0, nat_lit 7), (nat_lit 53, nat_lit 0, nat_lit 7), (nat_lit 54, nat_lit 0, nat_lit 7), (nat_lit 55, nat_lit 0, nat_lit 7), (nat_lit 56, nat_lit 0, nat_lit 8), (nat_lit 57, nat_lit 0, nat_lit 3), (nat_lit 58, nat_lit 0, nat_lit 7), (nat_lit 59, nat_lit 0, nat_lit 7), (nat_lit 60, nat_lit 0, nat_lit 7), (nat_lit 61, nat_lit 0, nat_lit 7), (nat_lit 62, nat_lit 0, nat_lit 7), (nat_lit 63, nat_lit 0, nat_lit 7), (nat_lit 64, nat_lit 0, nat_lit 8), (nat_lit 65, nat_lit 0, nat_lit 3), (nat_lit 66, nat_lit 0, nat_lit 7), (nat_lit 67, nat_lit 0, nat_lit 7), (nat_lit 68, nat_lit 0, nat_lit 7), (nat_lit 69, nat_lit 0, nat_lit 7), (nat_lit 70, nat_lit 0, nat_lit 7), (nat_lit 71, nat_lit 0, nat_lit 7), (nat_lit 72, nat_lit 0, nat_lit 8), (nat_lit 73, nat_lit 0, nat_lit 3), (nat_lit 74, nat_lit 0, nat_lit 7), (nat_lit 75, nat_lit 0, nat_lit 7), (nat_lit 76, nat_lit 0, nat_lit 7), (nat_lit 77, nat_lit 0, nat_lit 7), (nat_lit 78, nat_lit 0, nat_lit 7), (nat_lit 79, nat_lit 0, nat_lit 7), (nat_lit 80, nat_lit 0, nat_lit 8), (nat_lit 81, nat_lit 0, nat_lit 3), (nat_lit 82, nat_lit 0, nat_lit 7), (nat_lit 83, nat_lit 0, nat_lit 7), (nat_lit 84, nat_lit 0, nat_lit 7), (nat_lit 85, nat_lit 0, nat_lit 7), (nat_lit 86, nat_lit 0, nat_lit 7), (nat_lit 87, nat_lit 0, nat_lit 7), (nat_lit 88, nat_lit 0, nat_lit 8), (nat_lit 89, nat_lit 0, nat_lit 3), (nat_lit 90, nat_lit 0, nat_lit 7), (nat_lit 91, nat_lit 0, nat_lit 7), (nat_lit 92, nat_lit 0, nat_lit 7), (nat_lit 93, nat_lit 0, nat_lit 7), (nat_lit 94, nat_lit 0, nat_lit 7), (nat_lit 95, nat_lit 0, nat_lit 7), (nat_lit 96, nat_lit 0, nat_lit 8), (nat_lit 97, nat_lit 0, nat_lit 3), (nat_lit 98, nat_lit 0, nat_lit 7), (nat_lit 99, nat_lit 0, nat_lit 7), (nat_lit 100, nat_lit 0, nat_lit 7), (nat_lit 101, nat_lit 0, nat_lit 7), (nat_lit 102, nat_lit 0, nat_lit 7), (nat_lit 103, nat_lit 0, nat_lit 7), (nat_lit 104, nat_lit 0, nat_lit 8)], [], [], [])
set_option maxRecDepth 100000 in
theorem syc_315 : CoOk GG MM syt_315 := chk_okF (cs := [syt_314, syt_312, syt_291]) (F := 4000) (cs_c syc_314 <| cs_c syc_312 <| cs_c syc_291 cs_n) (by decide +kernel) (by decide +kernel)
/-- X.wed -/
def syt_316 : CO := (nat_lit 47, nat_lit 5, [ee_0, ee_1, ee_1], [sv_8, sv_1, sv_4], [(nat_lit 0, nat_lit 1, sv_12), (nat_lit 0, nat_lit 2, sv_13), (nat_lit 0, nat_lit 7, sv_14), (nat_lit 0, nat_lit 8, sv_15)], [(nat_lit 1, nat_lit 1, nat_lit 0), (nat_lit 1, nat_lit 2, nat_lit 0)], [(some sv_16, [ee_0, ee_1, ee_1], [(nat_lit 0, nat_lit 1, sv_12), (nat_lit 0, nat_lit 2, sv_13), (nat_lit 0, nat_lit 7, sv_14), (nat_lit 0, nat_lit 8, sv_15)], []), (some sv_9, [ee_0, ee_27, ee_27, ee_152], [(nat_lit 0, nat_lit 1, sv_12), (nat_lit 0, nat_lit 2, sv_13), (nat_lit 0, nat_lit 7, sv_14), (nat_lit 0, nat_lit 8, sv_15)], [(nat_lit 1, nat_lit 0, nat_lit 0)]), (some sv_6, [ee_0, ee_27, ee_27], [(nat_lit 0, nat_lit 1, sv_12), (nat_lit 0, nat_lit 2, sv_13), (nat_lit 0, nat_lit 7, sv_14), (nat_lit 0, nat_lit 8, sv_15)], []), (some sv_24, [ee_0, ee_27, ee_27], [(nat_lit 0, nat_lit 1, sv_12), (nat_lit 0, nat_lit 2, sv_13), (nat_lit 0, nat_lit 7, sv_14), (nat_lit 0, nat_lit 8, sv_15)], [])], [(nat_lit 28, nat_lit 0, nat_lit 6), (nat_lit 39, nat_lit 1, nat_lit 2), (nat_lit 41, nat_lit 0, nat_lit 3), (nat_lit 42, nat_lit 0, nat_lit 7), (nat_lit 43, nat_lit 0, nat_lit 7), (nat_lit 44, nat_lit 0, nat_lit 7), (nat_lit 45, nat_lit 0, nat_lit 7), (nat_lit 46, nat_lit 0, nat_lit 7), (nat_lit 47, nat_lit 0, nat_lit 7), (nat_lit 48, nat_lit 0, nat_lit 8), (nat_lit 49, nat_lit 0, nat_lit 3), (nat_lit 50, nat_lit 0, nat_lit 7), (nat_lit 51, nat_lit 0, nat_lit 7), (nat_lit 52, nat_lit 0, nat_lit 7), (nat_lit 53, nat_lit 0, nat_lit 7), (nat_lit 54, nat_lit 0, nat_lit 7), (nat_lit 55, nat_lit 0, nat_lit 7), (nat_lit 56, nat_lit 0, nat_lit 8), (nat_lit 57, nat_lit 0, nat_lit 3), (nat_lit 58, nat_lit 0, nat_lit 7), (nat_lit 59, nat_lit 0, nat_lit 7), (nat_lit 60, nat_lit 0, nat_lit 7), (nat_lit 61, nat_lit 0, nat_lit 7), (nat_lit 62, nat_lit 0, nat_lit 7), (nat_lit 63, nat_lit 0, nat_lit 7), (nat_lit 64, nat_lit 0, nat_lit 8), (nat_lit 65, nat_lit 0, nat_lit 3), (nat_lit 66, nat_lit 0, nat_lit 7), (nat_lit 67, nat_lit 0, nat_lit 7), (nat_lit 68, nat_lit 0, nat_lit 7), (nat_lit 69, nat_lit 0, nat_lit 7), (nat_lit 70, nat_lit 0, nat_lit 7), (nat_lit 71, nat_lit 0, nat_lit 7), (nat_lit 72, nat_lit 0, nat_lit 8), (nat_lit 73, nat_lit 0, nat_lit 3), (nat_lit 74, nat_lit 0, nat_lit 7), (nat_lit 75, nat_lit 0, nat_lit 7), (nat_lit 76, nat_lit 0, nat_lit 7), (nat_lit 77, nat_lit 0, nat_lit 7), (nat_lit 78, nat_lit 0, nat_lit 7), (nat_lit 79, nat_lit 0, nat_lit 7), (nat_lit 80, nat_lit 0, nat_lit 8), (nat_lit 81, nat_lit 0, nat_lit 3), (nat_lit 82, nat_lit 0, nat_lit 7), (nat_lit 83, nat_lit 0, nat_lit 7), (nat_lit 84, nat_lit 0, nat_lit 7), (nat_lit 85, nat_lit 0, nat_lit 7), (nat_lit 86, nat_lit 0, nat_lit 7), (nat_lit 87, nat_lit 0, nat_lit 7), (nat_lit 88, nat_lit 0, nat_lit 8), (nat_lit 89, nat_lit 0, nat_lit 3), (nat_lit 90, nat_lit 0, nat_lit 7), (nat_lit 91, nat_lit 0, nat_lit 7), (nat_lit 92, nat_lit 0, nat_lit 7), (nat_lit 93, nat_lit 0, nat_lit 7), (nat_lit 94, nat_lit 0, nat_lit 7), (nat_lit 95, nat_lit 0, nat_lit 7), (nat_lit 96, nat_lit 0, nat_lit 8), (nat_lit 97, nat_lit 0, nat_lit 3), (nat_lit 98, nat_lit 0, nat_lit 7), (nat_lit 99, nat_lit 0, nat_lit 7), (nat_lit 100, nat_lit 0, nat_lit 7), (nat_lit 101, nat_lit 0, nat_lit 7), (nat_lit 102, nat_lit 0, nat_lit 7), (nat_lit 103, nat_lit 0, nat_lit 7), (nat_lit 104, nat_lit 0, nat_lit 8)], [], [], [])
set_option maxRecDepth 100000 in
theorem syc_316 : CoOk GG MM syt_316 := chk_okF (cs := [syt_315, syt_247]) (F := 4000) (cs_c syc_315 <| cs_c syc_247 cs_n) (by decide +kernel) (by decide +kernel)
/-- M.isJailed -/
def syt_317 : CO := (nat_lit 219, nat_lit 1, [ee_0, ee_146], [sv_19, sv_1], [], [(nat_lit 1, nat_lit 1, nat_lit 0)], [(some sv_24, [ee_0, ee_146, ee_25], [(nat_lit 182, nat_lit 119, sv_4)], [(nat_lit 2, nat_lit 182, nat_lit 119)]), (some sv_6, [ee_0, ee_146, ee_0], [(nat_lit 182, nat_lit 119, sv_4)], [(nat_lit 2, nat_lit 182, nat_lit 119)])], [], [], [], [])
set_option maxRecDepth 100000 in
theorem syc_317 : CoOk GG MM syt_317 := chk_okF (cs := []) (F := 4000) (fun _ h => absurd h List.not_mem_nil) (by decide +kernel) (by decide +kernel)
/-- M.isJailed -/
def syt_318 : CO := (nat_lit 219, nat_lit 1, [ee_0, ee_78], [sv_19, sv_1], [], [(nat_lit 1, nat_lit 1, nat_lit 0)], [(some sv_24, [ee_0, ee_78, ee_25], [(nat_lit 182, nat_lit 120, sv_4)], [(nat_lit 2, nat_lit 182, nat_lit 120)]), (some sv_6, [ee_0, ee_78, ee_0], [(nat_lit 182, nat_lit 120, sv_4)], [(nat_lit 2, nat_lit 182, nat_lit 120)])], [], [], [], [])
set_option maxRecDepth 100000 in
theorem syc_318 : CoOk GG MM syt_318 := chk_okF (cs := []) (F := 4000) (fun _ h => absurd h List.not_mem_nil) (by decide +kernel) (by decide +kernel)
/-- M.isJailed -/
def syt_319 : CO := (nat_lit 219, nat_lit 1, [ee_0, ee_128], [sv_19, sv_1], [], [(nat_lit 1, nat_lit 1, nat_lit 0)], [(some sv_24, [ee_0, ee_128, ee_25], [(nat_lit 182, nat_lit 121, sv_4)], [(nat_lit 2, nat_lit 182, nat_lit 121)]), (some sv_6, [ee_0, ee_128, ee_0], [(nat_lit 182, nat_lit 121, sv_4)], [(nat_lit 2, nat_lit 182, nat_lit 121)])], [], [], [], [])
set_option maxRecDepth 100000 in
theorem syc_319 : CoOk GG MM syt_319 := chk_okF (cs := []) (F := 4000) (fun _ h => absurd h List.not_mem_nil) (by decide +kernel) (by decide +kernel)
/-- M.isJailed -/
def syt_320 : CO := (nat_lit 219, nat_lit 1, [ee_0, ee_144], [sv_19, sv_1], [], [(nat_lit 1, nat_lit 1, nat_lit 0)], [(some sv_24, [ee_0, ee_144, ee_25], [(nat_lit 182, nat_lit 122, sv_4)], [(nat_lit 2, nat_lit 182, nat_lit 122)]), (some sv_6, [ee_0, ee_144, ee_0], [(nat_lit 182, nat_lit 122, sv_4)], [(nat_lit 2, nat_lit 182, nat_lit 122)])], [], [], [], [])
set_option maxRecDepth 100000 in
theorem syc_320 : CoOk GG MM syt_320 := chk_okF (cs := []) (F := 4000) (fun _ h => absurd h List.not_mem_nil) (by decide +kernel) (by decide +kernel)
/-- M.isJailed -/
def syt_321 : CO := (nat_lit 219, nat_lit 1, [ee_0, ee_147], [sv_19, sv_1], [], [(nat_lit 1, nat_lit 1, nat_lit 0)], [(some sv_24, [ee_0, ee_147, ee_25], [(nat_lit 182, nat_lit 123, sv_4)], [(nat_lit 2, nat_lit 182, nat_lit 123)]), (some sv_6, [ee_0, ee_147, ee_0], [(nat_lit 182, nat_lit 123, sv_4)], [(nat_lit 2, nat_lit 182, nat_lit 123)])], [], [], [], [])
set_option maxRecDepth 100000 in
theorem syc_321 : CoOk GG MM syt_321 := chk_okF (cs := []) (F := 4000) (fun _ h => absurd h List.not_mem_nil) (by decide +kernel) (by decide +kernel)
/-- M.isJailed -/
def syt_322 : CO := (nat_lit 219, nat_lit 1, [ee_0, ee_115], [sv_19, sv_1], [], [(nat_lit 1, nat_lit 1, nat_lit 0)], [(some sv_24, [ee_0, ee_115, ee_25], [(nat_lit 182, nat_lit 124, sv_4)], [(nat_lit 2, nat_lit 182, nat_lit 124)]), (some sv_6, [ee_0, ee_115, ee_0], [(nat_lit 182, nat_lit 124, sv_4)], [(nat_lit 2, nat_lit 182, nat_lit 124)])], [], [], [], [])
set_option maxRecDepth 100000 in
theorem syc_322 : CoOk GG MM syt_322 := chk_okF (cs := []) (F := 4000) (fun _ h => absurd h List.not_mem_nil) (by decide +kernel) (by decide +kernel)
/-- M.why -/
def syt_323 : CO := (nat_lit 291, nat_lit 3, [ee_0, ee_27, ee_27], [sv_19, sv_24, sv_1, sv_4, sv_6], [], [(nat_lit 1, nat_lit 2, nat_lit 0), (nat_lit 1, nat_lit 3, nat_lit 0)], [(some sv_24, [ee_0, ee_27, ee_27], [], []), (some sv_9, [ee_0, ee_27, ee_27, ee_152], [], [(nat_lit 1, nat_lit 0, nat_lit 0)]), (some sv_6, [ee_0, ee_27, ee_27], [], [])], [], [], [], [])
set_option maxRecDepth 100000 in
theorem syc_323 : CoOk GG MM syt_323 := chk_okF (cs := [syt_244, syt_236, syt_317, syt_318, syt_319, syt_320, syt_321, syt_322, syt_276]) (F := 4000) (cs_c syc_244 <| cs_c syc_236 <| cs_c syc_317 <| cs_c syc_318 <| cs_c syc_319 <| cs_c syc_320 <| cs_c syc_321 <| cs_c syc_322 <| cs_c syc_276 cs_n) (by decide +kernel) (by decide +kernel)
/-- M.live -/
def syt_324 : CO := (nat_lit 232, nat_lit 1, [ee_0, ee_27, ee_27], [sv_19, sv_24, sv_1, sv_4, sv_6], [], [(nat_lit 1, nat_lit 2, nat_lit 0), (nat_lit 1, nat_lit 3, nat_lit 0)], [(none, [ee_0, ee_27, ee_27], [], [])], [(nat_lit 182, nat_lit 132, nat_lit 138)], [], [], [])
set_option maxRecDepth 100000 in
theorem syc_324 : CoOk GG MM syt_324 := chk_okF (cs := []) (F := 4000) (fun _ h => absurd h List.not_mem_nil) (by decide +kernel) (by decide +kernel)
/-- M.act -/
def syt_325 : CO := (nat_lit 173, nat_lit 4, [ee_0, ee_27, ee_27], [sv_19, sv_24, sv_1, sv_4, sv_6, sv_24], [], [(nat_lit 1, nat_lit 2, nat_lit 0), (nat_lit 1, nat_lit 3, nat_lit 0)], [(some sv_6, [ee_0, ee_27, ee_27], [], []), (some sv_9, [ee_0, ee_27, ee_27, ee_152], [], [(nat_lit 1, nat_lit 0, nat_lit 0)]), (some sv_24, [ee_0, ee_27, ee_27], [], [])], [(nat_lit 180, nat_lit 24, nat_lit 24), (nat_lit 182, nat_lit 132, nat_lit 138), (nat_lit 185, nat_lit 0, nat_lit 423)], [], [], [])
set_option maxRecDepth 100000 in
theorem syc_325 : CoOk GG MM syt_325 := chk_okF (cs := [syt_324, syt_302, syt_323]) (F := 4000) (cs_c syc_324 <| cs_c syc_302 <| cs_c syc_323 cs_n) (by decide +kernel) (by decide +kernel)
/-- M.act -/
def syt_326 : CO := (nat_lit 173, nat_lit 1, [ee_0, ee_27, ee_1], [sv_19, sv_24, sv_1, sv_4, sv_6, sv_6], [], [(nat_lit 1, nat_lit 2, nat_lit 0), (nat_lit 1, nat_lit 3, nat_lit 0)], [(some sv_16, [ee_0, ee_27, ee_1], [], [])], [], [], [], [])
set_option maxRecDepth 100000 in
theorem syc_326 : CoOk GG MM syt_326 := chk_okF (cs := []) (F := 4000) (fun _ h => absurd h List.not_mem_nil) (by decide +kernel) (by decide +kernel)
/-- M.act -/
def syt_327 : CO := (nat_lit 173, nat_lit 1, [ee_0, ee_1, ee_1], [sv_19, sv_24, sv_1, sv_4, sv_6, sv_6], [], [(nat_lit 1, nat_lit 2, nat_lit 0), (nat_lit 1, nat_lit 3, nat_lit 0)], [(some sv_16, [ee_0, ee_1, ee_1], [], [])], [], [], [], [])
set_option maxRecDepth 100000 in
theorem syc_327 : CoOk GG MM syt_327 := chk_okF (cs := []) (F := 4000) (fun _ h => absurd h List.not_mem_nil) (by decide +kernel) (by decide +kernel)
/-- M.wed -/
def syt_328 : CO := (nat_lit 289, nat_lit 5, [ee_0, ee_1, ee_1], [sv_19, sv_1, sv_4], [], [(nat_lit 1, nat_lit 1, nat_lit 0), (nat_lit 1, nat_lit 2, nat_lit 0)], [(some sv_24, [ee_0, ee_27, ee_27, ee_26], [(nat_lit 182, nat_lit 0, sv_9)], [(nat_lit 2, nat_lit 182, nat_lit 0)]), (some sv_10, [ee_0, ee_27, ee_27, ee_26, ee_152], [(nat_lit 182, nat_lit 0, sv_9)], [(nat_lit 2, nat_lit 182, nat_lit 0), (nat_lit 1, nat_lit 0, nat_lit 0)]), (some sv_6, [ee_0, ee_27, ee_27, ee_26], [(nat_lit 182, nat_lit 0, sv_9)], [(nat_lit 2, nat_lit 182, nat_lit 0)]), (some sv_16, [ee_0, ee_1, ee_1], [], [])], [(nat_lit 180, nat_lit 0, nat_lit 0), (nat_lit 180, nat_lit 24, nat_lit 24), (nat_lit 182, nat_lit 132, nat_lit 138), (nat_lit 185, nat_lit 0, nat_lit 423)], [], [], [])
set_option maxRecDepth 100000 in
theorem syc_328 : CoOk GG MM syt_328 := chk_okF (cs := [syt_325, syt_326, syt_327, syt_235]) (F := 4000) (cs_c syc_325 <| cs_c syc_326 <| cs_c syc_327 <| cs_c syc_235 cs_n) (by decide +kernel) (by decide +kernel)
/-- Life.whyNot -/
def syt_329 : CO := (nat_lit 116, nat_lit 2, [ee_0, ee_27], [sv_41, sv_12, sv_84, sv_1, sv_6, sv_6], [], [(nat_lit 1, nat_lit 3, nat_lit 0)], [(some sv_24, [ee_0, ee_27], [], []), (some sv_6, [ee_0, ee_27], [], [])], [], [], [], [])
set_option maxRecDepth 100000 in
theorem syc_329 : CoOk GG MM syt_329 := chk_okF (cs := [syt_264]) (F := 4000) (cs_c syc_264 cs_n) (by decide +kernel) (by decide +kernel)
/-- Life.partFromSpouse -/
def syt_330 : CO := (nat_lit 109, nat_lit 1, [ee_0, ee_27], [sv_41, sv_1], [], [(nat_lit 1, nat_lit 1, nat_lit 0)], [(none, [ee_0, ee_27], [], [])], [(nat_lit 28, nat_lit 0, nat_lit 6)], [], [], [])
set_option maxRecDepth 100000 in
theorem syc_330 : CoOk GG MM syt_330 := chk_okF (cs := []) (F := 4000) (fun _ h => absurd h List.not_mem_nil) (by decide +kernel) (by decide +kernel)
/-- Life.perform -/
def syt_331 : CO := (nat_lit 112, nat_lit 2, [ee_0, ee_27], [sv_41, sv_12, sv_84, sv_1, sv_6, sv_6], [], [(nat_lit 1, nat_lit 3, nat_lit 0)], [(none, [ee_0, ee_27], [], [])], [(nat_lit 28, nat_lit 0, nat_lit 6)], [], [], [])
set_option maxRecDepth 100000 in
theorem syc_331 : CoOk GG MM syt_331 := chk_okF (cs := [syt_330]) (F := 4000) (cs_c syc_330 cs_n) (by decide +kernel) (by decide +kernel)
/-- X.act -/
def syt_332 : CO := (nat_lit 2, nat_lit 3, [ee_0, ee_27], [sv_8, sv_84, sv_1, sv_6, sv_6], [(nat_lit 0, nat_lit 1, sv_12)], [(nat_lit 1, nat_lit 2, nat_lit 0)], [(some sv_6, [ee_0, ee_27], [(nat_lit 0, nat_lit 1, sv_12)], []), (some sv_24, [ee_0, ee_27], [(nat_lit 0, nat_lit 1, sv_12)], [])], [(nat_lit 28, nat_lit 0, nat_lit 6), (nat_lit 39, nat_lit 1, nat_lit 2), (nat_lit 41, nat_lit 0, nat_lit 3), (nat_lit 42, nat_lit 0, nat_lit 7), (nat_lit 43, nat_lit 0, nat_lit 7), (nat_lit 44, nat_lit 0, nat_lit 7), (nat_lit 45, nat_lit 0, nat_lit 7), (nat_lit 46, nat_lit 0, nat_lit 7), (nat_lit 47, nat_lit 0, nat_lit 7), (nat_lit 48, nat_lit 0, nat_lit 8), (nat_lit 49, nat_lit 0, nat_lit 3), (nat_lit 50, nat_lit 0, nat_lit 7), (nat_lit 51, nat_lit 0, nat_lit 7), (nat_lit 52, nat_lit 0, nat_lit 7), (nat_lit 53, nat_lit 0, nat_lit 7), (nat_lit 54, nat_lit 0, nat_lit 7), (nat_lit 55, nat_lit 0, nat_lit 7), (nat_lit 56, nat_lit 0, nat_lit 8), (nat_lit 57, nat_lit 0, nat_lit 3), (nat_lit 58, nat_lit 0, nat_lit 7), (nat_lit 59, nat_lit 0, nat_lit 7), (nat_lit 60, nat_lit 0, nat_lit 7), (nat_lit 61, nat_lit 0, nat_lit 7), (nat_lit 62, nat_lit 0, nat_lit 7), (nat_lit 63, nat_lit 0, nat_lit 7), (nat_lit 64, nat_lit 0, nat_lit 8), (nat_lit 65, nat_lit 0, nat_lit 3), (nat_lit 66, nat_lit 0, nat_lit 7), (nat_lit 67, nat_lit 0, nat_lit 7), (nat_lit 68, nat_lit 0, nat_lit 7), (nat_lit 69, nat_lit 0, nat_lit 7), (nat_lit 70, nat_lit 0, nat_lit 7), (nat_lit 71, nat_lit 0, nat_lit 7), (nat_lit 72, nat_lit 0, nat_lit 8), (nat_lit 73, nat_lit 0, nat_lit 3), (nat_lit 74, nat_lit 0, nat_lit 7), (nat_lit 75, nat_lit 0, nat_lit 7), (nat_lit 76, nat_lit 0, nat_lit 7), (nat_lit 77, nat_lit 0, nat_lit 7), (nat_lit 78, nat_lit 0, nat_lit 7), (nat_lit 79, nat_lit 0, nat_lit 7), (nat_lit 80, nat_lit 0, nat_lit 8), (nat_lit 81, nat_lit 0, nat_lit 3), (nat_lit 82, nat_lit 0, nat_lit 7), (nat_lit 83, nat_lit 0, nat_lit 7), (nat_lit 84, nat_lit 0, nat_lit 7), (nat_lit 85, nat_lit 0, nat_lit 7), (nat_lit 86, nat_lit 0, nat_lit 7), (nat_lit 87, nat_lit 0, nat_lit 7), (nat_lit 88, nat_lit 0, nat_lit 8), (nat_lit 89, nat_lit 0, nat_lit 3), (nat_lit 90, nat_lit 0, nat_lit 7), (nat_lit 91, nat_lit 0, nat_lit 7), (nat_lit 92, nat_lit 0, nat_lit 7), (nat_lit 93, nat_lit 0, nat_lit 7), (nat_lit 94, nat_lit 0, nat_lit 7), (nat_lit 95, nat_lit 0, nat_lit 7), (nat_lit 96, nat_lit 0, nat_lit 8), (nat_lit 97, nat_lit 0, nat_lit 3), (nat_lit 98, nat_lit 0, nat_lit 7), (nat_lit 99, nat_lit 0, nat_lit 7), (nat_lit 100, nat_lit 0, nat_lit 7), (nat_lit 101, nat_lit 0, nat_lit 7), (nat_lit 102, nat_lit 0, nat_lit 7), (nat_lit 103, nat_lit 0, nat_lit 7), (nat_lit 104, nat_lit 0, nat_lit 8)], [], [], [])
set_option maxRecDepth 100000 in
theorem syc_332 : CoOk GG MM syt_332 := chk_okF (cs := [syt_331, syt_329, syt_291]) (F := 4000) (cs_c syc_331 <| cs_c syc_329 <| cs_c syc_291 cs_n) (by decide +kernel) (by decide +kernel)
/-- X.part -/
def syt_333 : CO := (nat_lit 31, nat_lit 4, [ee_0, ee_1], [sv_8, sv_1], [(nat_lit 0, nat_lit 1, sv_12), (nat_lit 0, nat_lit 2, sv_13), (nat_lit 0, nat_lit 7, sv_14), (nat_lit 0, nat_lit 8, sv_15)], [(nat_lit 1, nat_lit 1, nat_lit 0)], [(some sv_16, [ee_0, ee_1], [(nat_lit 0, nat_lit 1, sv_12), (nat_lit 0, nat_lit 2, sv_13), (nat_lit 0, nat_lit 7, sv_14), (nat_lit 0, nat_lit 8, sv_15)], []), (some sv_24, [ee_0, ee_27], [(nat_lit 0, nat_lit 1, sv_12), (nat_lit 0, nat_lit 2, sv_13), (nat_lit 0, nat_lit 7, sv_14), (nat_lit 0, nat_lit 8, sv_15)], []), (some sv_6, [ee_0, ee_27], [(nat_lit 0, nat_lit 1, sv_12), (nat_lit 0, nat_lit 2, sv_13), (nat_lit 0, nat_lit 7, sv_14), (nat_lit 0, nat_lit 8, sv_15)], [])], [(nat_lit 28, nat_lit 0, nat_lit 6), (nat_lit 39, nat_lit 1, nat_lit 2), (nat_lit 41, nat_lit 0, nat_lit 3), (nat_lit 42, nat_lit 0, nat_lit 7), (nat_lit 43, nat_lit 0, nat_lit 7), (nat_lit 44, nat_lit 0, nat_lit 7), (nat_lit 45, nat_lit 0, nat_lit 7), (nat_lit 46, nat_lit 0, nat_lit 7), (nat_lit 47, nat_lit 0, nat_lit 7), (nat_lit 48, nat_lit 0, nat_lit 8), (nat_lit 49, nat_lit 0, nat_lit 3), (nat_lit 50, nat_lit 0, nat_lit 7), (nat_lit 51, nat_lit 0, nat_lit 7), (nat_lit 52, nat_lit 0, nat_lit 7), (nat_lit 53, nat_lit 0, nat_lit 7), (nat_lit 54, nat_lit 0, nat_lit 7), (nat_lit 55, nat_lit 0, nat_lit 7), (nat_lit 56, nat_lit 0, nat_lit 8), (nat_lit 57, nat_lit 0, nat_lit 3), (nat_lit 58, nat_lit 0, nat_lit 7), (nat_lit 59, nat_lit 0, nat_lit 7), (nat_lit 60, nat_lit 0, nat_lit 7), (nat_lit 61, nat_lit 0, nat_lit 7), (nat_lit 62, nat_lit 0, nat_lit 7), (nat_lit 63, nat_lit 0, nat_lit 7), (nat_lit 64, nat_lit 0, nat_lit 8), (nat_lit 65, nat_lit 0, nat_lit 3), (nat_lit 66, nat_lit 0, nat_lit 7), (nat_lit 67, nat_lit 0, nat_lit 7), (nat_lit 68, nat_lit 0, nat_lit 7), (nat_lit 69, nat_lit 0, nat_lit 7), (nat_lit 70, nat_lit 0, nat_lit 7), (nat_lit 71, nat_lit 0, nat_lit 7), (nat_lit 72, nat_lit 0, nat_lit 8), (nat_lit 73, nat_lit 0, nat_lit 3), (nat_lit 74, nat_lit 0, nat_lit 7), (nat_lit 75, nat_lit 0, nat_lit 7), (nat_lit 76, nat_lit 0, nat_lit 7), (nat_lit 77, nat_lit 0, nat_lit 7), (nat_lit 78, nat_lit 0, nat_lit 7), (nat_lit 79, nat_lit 0, nat_lit 7), (nat_lit 80, nat_lit 0, nat_lit 8), (nat_lit 81, nat_lit 0, nat_lit 3), (nat_lit 82, nat_lit 0, nat_lit 7), (nat_lit 83, nat_lit 0, nat_lit 7), (nat_lit 84, nat_lit 0, nat_lit 7), (nat_lit 85, nat_lit 0, nat_lit 7), (nat_lit 86, nat_lit 0, nat_lit 7), (nat_lit 87, nat_lit 0, nat_lit 7), (nat_lit 88, nat_lit 0, nat_lit 8), (nat_lit 89, nat_lit 0, nat_lit 3), (nat_lit 90, nat_lit 0, nat_lit 7), (nat_lit 91, nat_lit 0, nat_lit 7), (nat_lit 92, nat_lit 0, nat_lit 7), (nat_lit 93, nat_lit 0, nat_lit 7), (nat_lit 94, nat_lit 0, nat_lit 7), (nat_lit 95, nat_lit 0, nat_lit 7), (nat_lit 96, nat_lit 0, nat_lit 8), (nat_lit 97, nat_lit 0, nat_lit 3), (nat_lit 98, nat_lit 0, nat_lit 7), (nat_lit 99, nat_lit 0, nat_lit 7), (nat_lit 100, nat_lit 0, nat_lit 7), (nat_lit 101, nat_lit 0, nat_lit 7), (nat_lit 102, nat_lit 0, nat_lit 7), (nat_lit 103, nat_lit 0, nat_lit 7), (nat_lit 104, nat_lit 0, nat_lit 8)], [], [], [])
set_option maxRecDepth 100000 in
theorem syc_333 : CoOk GG MM syt_333 := chk_okF (cs := [syt_332, syt_247]) (F := 4000) (cs_c syc_332 <| cs_c syc_247 cs_n) (by decide +kernel) (by decide +kernel)
/-- M.why -/
def syt_334 : CO := (nat_lit 291, nat_lit 2, [ee_0, ee_27], [sv_19, sv_32, sv_1, sv_6, sv_6], [], [(nat_lit 1, nat_lit 2, nat_lit 0)], [(some sv_24, [ee_0, ee_27], [], []), (some sv_6, [ee_0, ee_27], [], [])], [], [], [], [])
set_option maxRecDepth 100000 in
theorem syc_334 : CoOk GG MM syt_334 := chk_okF (cs := [syt_276]) (F := 4000) (cs_c syc_276 cs_n) (by decide +kernel) (by decide +kernel)
/-- M.live -/
def syt_335 : CO := (nat_lit 232, nat_lit 1, [ee_0, ee_27], [sv_19, sv_32, sv_1, sv_6, sv_6], [], [(nat_lit 1, nat_lit 2, nat_lit 0)], [(none, [ee_0, ee_27], [], [])], [(nat_lit 182, nat_lit 131, nat_lit 138)], [], [], [])
set_option maxRecDepth 100000 in
theorem syc_335 : CoOk GG MM syt_335 := chk_okF (cs := []) (F := 4000) (fun _ h => absurd h List.not_mem_nil) (by decide +kernel) (by decide +kernel)
/-- M.act -/
def syt_336 : CO := (nat_lit 173, nat_lit 3, [ee_0, ee_27], [sv_19, sv_32, sv_1, sv_6, sv_6, sv_24], [], [(nat_lit 1, nat_lit 2, nat_lit 0)], [(some sv_6, [ee_0, ee_27], [], []), (some sv_24, [ee_0, ee_27], [], [])], [(nat_lit 180, nat_lit 24, nat_lit 24), (nat_lit 182, nat_lit 131, nat_lit 138), (nat_lit 185, nat_lit 0, nat_lit 423)], [], [], [])
set_option maxRecDepth 100000 in
theorem syc_336 : CoOk GG MM syt_336 := chk_okF (cs := [syt_335, syt_302, syt_334]) (F := 4000) (cs_c syc_335 <| cs_c syc_302 <| cs_c syc_334 cs_n) (by decide +kernel) (by decide +kernel)
/-- M.act -/
def syt_337 : CO := (nat_lit 173, nat_lit 1, [ee_0, ee_1], [sv_19, sv_32, sv_1, sv_6, sv_6, sv_6], [], [(nat_lit 1, nat_lit 2, nat_lit 0)], [(some sv_16, [ee_0, ee_1], [], [])], [], [], [], [])
set_option maxRecDepth 100000 in
theorem syc_337 : CoOk GG MM syt_337 := chk_okF (cs := []) (F := 4000) (fun _ h => absurd h List.not_mem_nil) (by decide +kernel) (by decide +kernel)
/-- M.part -/
def syt_338 : CO := (nat_lit 237, nat_lit 4, [ee_0, ee_1], [sv_19, sv_1], [], [(nat_lit 1, nat_lit 1, nat_lit 0)], [(some sv_24, [ee_0, ee_27, ee_26], [(nat_lit 182, nat_lit 0, sv_4)], [(nat_lit 2, nat_lit 182, nat_lit 0)]), (some sv_6, [ee_0, ee_27, ee_26], [(nat_lit 182, nat_lit 0, sv_4)], [(nat_lit 2, nat_lit 182, nat_lit 0)]), (some sv_16, [ee_0, ee_1], [], [])], [(nat_lit 180, nat_lit 0, nat_lit 0), (nat_lit 180, nat_lit 24, nat_lit 24), (nat_lit 182, nat_lit 131, nat_lit 138), (nat_lit 185, nat_lit 0, nat_lit 423)], [], [], [])
set_option maxRecDepth 100000 in
theorem syc_338 : CoOk GG MM syt_338 := chk_okF (cs := [syt_336, syt_337, syt_235]) (F := 4000) (cs_c syc_336 <| cs_c syc_337 <| cs_c syc_235 cs_n) (by decide +kernel) (by decide +kernel)
/-- Life.whyNot -/
def syt_339 : CO := (nat_lit 116, nat_lit 2, [ee_0, ee_27], [sv_41, sv_12, sv_33, sv_1, sv_6, sv_6], [], [(nat_lit 1, nat_lit 3, nat_lit 0)], [(some sv_6, [ee_0, ee_27], [], []), (some sv_32, [ee_0, ee_27], [], []), (some sv_24, [ee_0, ee_27], [], [])], [], [], [], [])
set_option maxRecDepth 100000 in
theorem syc_339 : CoOk GG MM syt_339 := chk_okF (cs := [syt_280, syt_264]) (F := 4000) (cs_c syc_280 <| cs_c syc_264 cs_n) (by decide +kernel) (by decide +kernel)
/-- Life.perform -/
def syt_340 : CO := (nat_lit 112, nat_lit 1, [ee_0, ee_27], [sv_41, sv_12, sv_33, sv_1, sv_6, sv_6], [], [(nat_lit 1, nat_lit 3, nat_lit 0)], [(none, [ee_0, ee_27], [], [])], [(nat_lit 23, nat_lit 3, nat_lit 3)], [], [], [])
set_option maxRecDepth 100000 in
theorem syc_340 : CoOk GG MM syt_340 := chk_okF (cs := []) (F := 4000) (fun _ h => absurd h List.not_mem_nil) (by decide +kernel) (by decide +kernel)
/-- X.act -/
def syt_341 : CO := (nat_lit 2, nat_lit 3, [ee_0, ee_27], [sv_8, sv_33, sv_1, sv_6, sv_6], [(nat_lit 0, nat_lit 1, sv_12)], [(nat_lit 1, nat_lit 2, nat_lit 0)], [(some sv_24, [ee_0, ee_27], [(nat_lit 0, nat_lit 1, sv_12)], []), (some sv_32, [ee_0, ee_27], [(nat_lit 0, nat_lit 1, sv_12)], []), (some sv_6, [ee_0, ee_27], [(nat_lit 0, nat_lit 1, sv_12)], [])], [(nat_lit 23, nat_lit 3, nat_lit 3), (nat_lit 39, nat_lit 1, nat_lit 2), (nat_lit 41, nat_lit 0, nat_lit 3), (nat_lit 42, nat_lit 0, nat_lit 7), (nat_lit 43, nat_lit 0, nat_lit 7), (nat_lit 44, nat_lit 0, nat_lit 7), (nat_lit 45, nat_lit 0, nat_lit 7), (nat_lit 46, nat_lit 0, nat_lit 7), (nat_lit 47, nat_lit 0, nat_lit 7), (nat_lit 48, nat_lit 0, nat_lit 8), (nat_lit 49, nat_lit 0, nat_lit 3), (nat_lit 50, nat_lit 0, nat_lit 7), (nat_lit 51, nat_lit 0, nat_lit 7), (nat_lit 52, nat_lit 0, nat_lit 7), (nat_lit 53, nat_lit 0, nat_lit 7), (nat_lit 54, nat_lit 0, nat_lit 7), (nat_lit 55, nat_lit 0, nat_lit 7), (nat_lit 56, nat_lit 0, nat_lit 8), (nat_lit 57, nat_lit 0, nat_lit 3), (nat_lit 58, nat_lit 0, nat_lit 7), (nat_lit 59, nat_lit 0, nat_lit 7), (nat_lit 60, nat_lit 0, nat_lit 7), (nat_lit 61, nat_lit 0, nat_lit 7), (nat_lit 62, nat_lit 0, nat_lit 7), (nat_lit 63, nat_lit 0, nat_lit 7), (nat_lit 64, nat_lit 0, nat_lit 8), (nat_lit 65, nat_lit 0, nat_lit 3), (nat_lit 66, nat_lit 0, nat_lit 7), (nat_lit 67, nat_lit 0, nat_lit 7), (nat_lit 68, nat_lit 0, nat_lit 7), (nat_lit 69, nat_lit 0, nat_lit 7), (nat_lit 70, nat_lit 0, nat_lit 7), (nat_lit 71, nat_lit 0, nat_lit 7), (nat_lit 72, nat_lit 0, nat_lit 8), (nat_lit 73, nat_lit 0, nat_lit 3), (nat_lit 74, nat_lit 0, nat_lit 7), (nat_lit 75, nat_lit 0, nat_lit 7), (nat_lit 76, nat_lit 0, nat_lit 7), (nat_lit 77, nat_lit 0, nat_lit 7), (nat_lit 78, nat_lit 0, nat_lit 7), (nat_lit 79, nat_lit 0, nat_lit 7), (nat_lit 80, nat_lit 0, nat_lit 8), (nat_lit 81, nat_lit 0, nat_lit 3), (nat_lit 82, nat_lit 0, nat_lit 7), (nat_lit 83, nat_lit 0, nat_lit 7), (nat_lit 84, nat_lit 0, nat_lit 7), (nat_lit 85, nat_lit 0, nat_lit 7), (nat_lit 86, nat_lit 0, nat_lit 7), (nat_lit 87, nat_lit 0, nat_lit 7), (nat_lit 88, nat_lit 0, nat_lit 8), (nat_lit 89, nat_lit 0, nat_lit 3), (nat_lit 90, nat_lit 0, nat_lit 7), (nat_lit 91, nat_lit 0, nat_lit 7), (nat_lit 92, nat_lit 0, nat_lit 7), (nat_lit 93, nat_lit 0, nat_lit 7), (nat_lit 94, nat_lit 0, nat_lit 7), (nat_lit 95, nat_lit 0, nat_lit 7), (nat_lit 96, nat_lit 0, nat_lit 8), (nat_lit 97, nat_lit 0, nat_lit 3), (nat_lit 98, nat_lit 0, nat_lit 7), (nat_lit 99, nat_lit 0, nat_lit 7), (nat_lit 100, nat_lit 0, nat_lit 7), (nat_lit 101, nat_lit 0, nat_lit 7), (nat_lit 102, nat_lit 0, nat_lit 7), (nat_lit 103, nat_lit 0, nat_lit 7), (nat_lit 104, nat_lit 0, nat_lit 8)], [], [], [])
set_option maxRecDepth 100000 in
theorem syc_341 : CoOk GG MM syt_341 := chk_okF (cs := [syt_340, syt_339, syt_291]) (F := 4000) (cs_c syc_340 <| cs_c syc_339 <| cs_c syc_291 cs_n) (by decide +kernel) (by decide +kernel)
/-- X.glove -/
def syt_342 : CO := (nat_lit 21, nat_lit 4, [ee_0, ee_1], [sv_8, sv_1], [(nat_lit 0, nat_lit 1, sv_12), (nat_lit 0, nat_lit 2, sv_13), (nat_lit 0, nat_lit 7, sv_14), (nat_lit 0, nat_lit 8, sv_15)], [(nat_lit 1, nat_lit 1, nat_lit 0)], [(some sv_16, [ee_0, ee_1], [(nat_lit 0, nat_lit 1, sv_12), (nat_lit 0, nat_lit 2, sv_13), (nat_lit 0, nat_lit 7, sv_14), (nat_lit 0, nat_lit 8, sv_15)], []), (some sv_6, [ee_0, ee_27], [(nat_lit 0, nat_lit 1, sv_12), (nat_lit 0, nat_lit 2, sv_13), (nat_lit 0, nat_lit 7, sv_14), (nat_lit 0, nat_lit 8, sv_15)], []), (some sv_32, [ee_0, ee_27], [(nat_lit 0, nat_lit 1, sv_12), (nat_lit 0, nat_lit 2, sv_13), (nat_lit 0, nat_lit 7, sv_14), (nat_lit 0, nat_lit 8, sv_15)], []), (some sv_24, [ee_0, ee_27], [(nat_lit 0, nat_lit 1, sv_12), (nat_lit 0, nat_lit 2, sv_13), (nat_lit 0, nat_lit 7, sv_14), (nat_lit 0, nat_lit 8, sv_15)], [])], [(nat_lit 23, nat_lit 3, nat_lit 3), (nat_lit 39, nat_lit 1, nat_lit 2), (nat_lit 41, nat_lit 0, nat_lit 3), (nat_lit 42, nat_lit 0, nat_lit 7), (nat_lit 43, nat_lit 0, nat_lit 7), (nat_lit 44, nat_lit 0, nat_lit 7), (nat_lit 45, nat_lit 0, nat_lit 7), (nat_lit 46, nat_lit 0, nat_lit 7), (nat_lit 47, nat_lit 0, nat_lit 7), (nat_lit 48, nat_lit 0, nat_lit 8), (nat_lit 49, nat_lit 0, nat_lit 3), (nat_lit 50, nat_lit 0, nat_lit 7), (nat_lit 51, nat_lit 0, nat_lit 7), (nat_lit 52, nat_lit 0, nat_lit 7), (nat_lit 53, nat_lit 0, nat_lit 7), (nat_lit 54, nat_lit 0, nat_lit 7), (nat_lit 55, nat_lit 0, nat_lit 7), (nat_lit 56, nat_lit 0, nat_lit 8), (nat_lit 57, nat_lit 0, nat_lit 3), (nat_lit 58, nat_lit 0, nat_lit 7), (nat_lit 59, nat_lit 0, nat_lit 7), (nat_lit 60, nat_lit 0, nat_lit 7), (nat_lit 61, nat_lit 0, nat_lit 7), (nat_lit 62, nat_lit 0, nat_lit 7), (nat_lit 63, nat_lit 0, nat_lit 7), (nat_lit 64, nat_lit 0, nat_lit 8), (nat_lit 65, nat_lit 0, nat_lit 3), (nat_lit 66, nat_lit 0, nat_lit 7), (nat_lit 67, nat_lit 0, nat_lit 7), (nat_lit 68, nat_lit 0, nat_lit 7), (nat_lit 69, nat_lit 0, nat_lit 7), (nat_lit 70, nat_lit 0, nat_lit 7), (nat_lit 71, nat_lit 0, nat_lit 7), (nat_lit 72, nat_lit 0, nat_lit 8), (nat_lit 73, nat_lit 0, nat_lit 3), (nat_lit 74, nat_lit 0, nat_lit 7), (nat_lit 75, nat_lit 0, nat_lit 7), (nat_lit 76, nat_lit 0, nat_lit 7), (nat_lit 77, nat_lit 0, nat_lit 7), (nat_lit 78, nat_lit 0, nat_lit 7), (nat_lit 79, nat_lit 0, nat_lit 7), (nat_lit 80, nat_lit 0, nat_lit 8), (nat_lit 81, nat_lit 0, nat_lit 3), (nat_lit 82, nat_lit 0, nat_lit 7), (nat_lit 83, nat_lit 0, nat_lit 7), (nat_lit 84, nat_lit 0, nat_lit 7), (nat_lit 85, nat_lit 0, nat_lit 7), (nat_lit 86, nat_lit 0, nat_lit 7), (nat_lit 87, nat_lit 0, nat_lit 7), (nat_lit 88, nat_lit 0, nat_lit 8), (nat_lit 89, nat_lit 0, nat_lit 3), (nat_lit 90, nat_lit 0, nat_lit 7), (nat_lit 91, nat_lit 0, nat_lit 7), (nat_lit 92, nat_lit 0, nat_lit 7), (nat_lit 93, nat_lit 0, nat_lit 7), (nat_lit 94, nat_lit 0, nat_lit 7), (nat_lit 95, nat_lit 0, nat_lit 7), (nat_lit 96, nat_lit 0, nat_lit 8), (nat_lit 97, nat_lit 0, nat_lit 3), (nat_lit 98, nat_lit 0, nat_lit 7), (nat_lit 99, nat_lit 0, nat_lit 7), (nat_lit 100, nat_lit 0, nat_lit 7), (nat_lit 101, nat_lit 0, nat_lit 7), (nat_lit 102, nat_lit 0, nat_lit 7), (nat_lit 103, nat_lit 0, nat_lit 7), (nat_lit 104, nat_lit 0, nat_lit 8)], [], [], [])
set_option maxRecDepth 100000 in
theorem syc_342 : CoOk GG MM syt_342 := chk_okF (cs := [syt_341, syt_247]) (F := 4000) (cs_c syc_341 <| cs_c syc_247 cs_n) (by decide +kernel) (by decide +kernel)
/-- M.why -/
def syt_343 : CO := (nat_lit 291, nat_lit 3, [ee_0, ee_27], [sv_19, sv_31, sv_1, sv_6, sv_6], [], [(nat_lit 1, nat_lit 2, nat_lit 0)], [(some sv_24, [ee_0, ee_27], [], []), (some sv_6, [ee_0, ee_27], [], []), (some sv_32, [ee_0, ee_27], [], [])], [], [], [], [])
set_option maxRecDepth 100000 in
theorem syc_343 : CoOk GG MM syt_343 := chk_okF (cs := [syt_244, syt_276]) (F := 4000) (cs_c syc_244 <| cs_c syc_276 cs_n) (by decide +kernel) (by decide +kernel)
/-- M.live -/
def syt_344 : CO := (nat_lit 232, nat_lit 1, [ee_0, ee_27], [sv_19, sv_31, sv_1, sv_6, sv_6], [], [(nat_lit 1, nat_lit 2, nat_lit 0)], [(none, [ee_0, ee_27], [], [])], [(nat_lit 182, nat_lit 102, nat_lit 102)], [], [], [])
set_option maxRecDepth 100000 in
theorem syc_344 : CoOk GG MM syt_344 := chk_okF (cs := []) (F := 4000) (fun _ h => absurd h List.not_mem_nil) (by decide +kernel) (by decide +kernel)
/-- M.act -/
def syt_345 : CO := (nat_lit 173, nat_lit 4, [ee_0, ee_27], [sv_19, sv_31, sv_1, sv_6, sv_6, sv_24], [], [(nat_lit 1, nat_lit 2, nat_lit 0)], [(some sv_32, [ee_0, ee_27], [], []), (some sv_6, [ee_0, ee_27], [], []), (some sv_24, [ee_0, ee_27], [], [])], [(nat_lit 180, nat_lit 24, nat_lit 24), (nat_lit 182, nat_lit 102, nat_lit 102), (nat_lit 185, nat_lit 0, nat_lit 423)], [], [], [])
set_option maxRecDepth 100000 in
theorem syc_345 : CoOk GG MM syt_345 := chk_okF (cs := [syt_344, syt_302, syt_343]) (F := 4000) (cs_c syc_344 <| cs_c syc_302 <| cs_c syc_343 cs_n) (by decide +kernel) (by decide +kernel)
/-- M.act -/
def syt_346 : CO := (nat_lit 173, nat_lit 1, [ee_0, ee_1], [sv_19, sv_31, sv_1, sv_6, sv_6, sv_6], [], [(nat_lit 1, nat_lit 2, nat_lit 0)], [(some sv_16, [ee_0, ee_1], [], [])], [], [], [], [])
set_option maxRecDepth 100000 in
theorem syc_346 : CoOk GG MM syt_346 := chk_okF (cs := []) (F := 4000) (fun _ h => absurd h List.not_mem_nil) (by decide +kernel) (by decide +kernel)
/-- M.glove -/
def syt_347 : CO := (nat_lit 204, nat_lit 5, [ee_0, ee_1], [sv_19, sv_1], [], [(nat_lit 1, nat_lit 1, nat_lit 0)], [(some sv_24, [ee_0, ee_27, ee_26], [(nat_lit 182, nat_lit 0, sv_4)], [(nat_lit 2, nat_lit 182, nat_lit 0)]), (some sv_6, [ee_0, ee_27, ee_26], [(nat_lit 182, nat_lit 0, sv_4)], [(nat_lit 2, nat_lit 182, nat_lit 0)]), (some sv_32, [ee_0, ee_27, ee_26], [(nat_lit 182, nat_lit 0, sv_4)], [(nat_lit 2, nat_lit 182, nat_lit 0)]), (some sv_16, [ee_0, ee_1], [], [])], [(nat_lit 180, nat_lit 0, nat_lit 0), (nat_lit 180, nat_lit 24, nat_lit 24), (nat_lit 182, nat_lit 102, nat_lit 102), (nat_lit 185, nat_lit 0, nat_lit 423)], [], [], [])
set_option maxRecDepth 100000 in
theorem syc_347 : CoOk GG MM syt_347 := chk_okF (cs := [syt_345, syt_346, syt_235]) (F := 4000) (cs_c syc_345 <| cs_c syc_346 <| cs_c syc_235 cs_n) (by decide +kernel) (by decide +kernel)
/-- Life.whyNot -/
def syt_348 : CO := (nat_lit 116, nat_lit 2, [ee_0, ee_27], [sv_41, sv_12, sv_134, sv_1, sv_6, sv_6], [], [(nat_lit 1, nat_lit 3, nat_lit 0)], [(some sv_24, [ee_0, ee_27], [], []), (some sv_6, [ee_0, ee_27], [], [])], [], [], [], [])
set_option maxRecDepth 100000 in
theorem syc_348 : CoOk GG MM syt_348 := chk_okF (cs := [syt_280]) (F := 4000) (cs_c syc_280 cs_n) (by decide +kernel) (by decide +kernel)
/-- Life.perform -/
def syt_349 : CO := (nat_lit 112, nat_lit 1, [ee_0, ee_27], [sv_41, sv_12, sv_134, sv_1, sv_6, sv_6], [], [(nat_lit 1, nat_lit 3, nat_lit 0)], [(none, [ee_0, ee_27], [], [])], [(nat_lit 23, nat_lit 3, nat_lit 3)], [], [], [])
set_option maxRecDepth 100000 in
theorem syc_349 : CoOk GG MM syt_349 := chk_okF (cs := []) (F := 4000) (fun _ h => absurd h List.not_mem_nil) (by decide +kernel) (by decide +kernel)
/-- X.act -/
def syt_350 : CO := (nat_lit 2, nat_lit 3, [ee_0, ee_27], [sv_8, sv_134, sv_1, sv_6, sv_6], [(nat_lit 0, nat_lit 1, sv_12)], [(nat_lit 1, nat_lit 2, nat_lit 0)], [(some sv_6, [ee_0, ee_27], [(nat_lit 0, nat_lit 1, sv_12)], []), (some sv_24, [ee_0, ee_27], [(nat_lit 0, nat_lit 1, sv_12)], [])], [(nat_lit 23, nat_lit 3, nat_lit 3), (nat_lit 39, nat_lit 1, nat_lit 2), (nat_lit 41, nat_lit 0, nat_lit 3), (nat_lit 42, nat_lit 0, nat_lit 7), (nat_lit 43, nat_lit 0, nat_lit 7), (nat_lit 44, nat_lit 0, nat_lit 7), (nat_lit 45, nat_lit 0, nat_lit 7), (nat_lit 46, nat_lit 0, nat_lit 7), (nat_lit 47, nat_lit 0, nat_lit 7), (nat_lit 48, nat_lit 0, nat_lit 8), (nat_lit 49, nat_lit 0, nat_lit 3), (nat_lit 50, nat_lit 0, nat_lit 7), (nat_lit 51, nat_lit 0, nat_lit 7), (nat_lit 52, nat_lit 0, nat_lit 7), (nat_lit 53, nat_lit 0, nat_lit 7), (nat_lit 54, nat_lit 0, nat_lit 7), (nat_lit 55, nat_lit 0, nat_lit 7), (nat_lit 56, nat_lit 0, nat_lit 8), (nat_lit 57, nat_lit 0, nat_lit 3), (nat_lit 58, nat_lit 0, nat_lit 7), (nat_lit 59, nat_lit 0, nat_lit 7), (nat_lit 60, nat_lit 0, nat_lit 7), (nat_lit 61, nat_lit 0, nat_lit 7), (nat_lit 62, nat_lit 0, nat_lit 7), (nat_lit 63, nat_lit 0, nat_lit 7), (nat_lit 64, nat_lit 0, nat_lit 8), (nat_lit 65, nat_lit 0, nat_lit 3), (nat_lit 66, nat_lit 0, nat_lit 7), (nat_lit 67, nat_lit 0, nat_lit 7), (nat_lit 68, nat_lit 0, nat_lit 7), (nat_lit 69, nat_lit 0, nat_lit 7), (nat_lit 70, nat_lit 0, nat_lit 7), (nat_lit 71, nat_lit 0, nat_lit 7), (nat_lit 72, nat_lit 0, nat_lit 8), (nat_lit 73, nat_lit 0, nat_lit 3), (nat_lit 74, nat_lit 0, nat_lit 7), (nat_lit 75, nat_lit 0, nat_lit 7), (nat_lit 76, nat_lit 0, nat_lit 7), (nat_lit 77, nat_lit 0, nat_lit 7), (nat_lit 78, nat_lit 0, nat_lit 7), (nat_lit 79, nat_lit 0, nat_lit 7), (nat_lit 80, nat_lit 0, nat_lit 8), (nat_lit 81, nat_lit 0, nat_lit 3), (nat_lit 82, nat_lit 0, nat_lit 7), (nat_lit 83, nat_lit 0, nat_lit 7), (nat_lit 84, nat_lit 0, nat_lit 7), (nat_lit 85, nat_lit 0, nat_lit 7), (nat_lit 86, nat_lit 0, nat_lit 7), (nat_lit 87, nat_lit 0, nat_lit 7), (nat_lit 88, nat_lit 0, nat_lit 8), (nat_lit 89, nat_lit 0, nat_lit 3), (nat_lit 90, nat_lit 0, nat_lit 7), (nat_lit 91, nat_lit 0, nat_lit 7), (nat_lit 92, nat_lit 0, nat_lit 7), (nat_lit 93, nat_lit 0, nat_lit 7), (nat_lit 94, nat_lit 0, nat_lit 7), (nat_lit 95, nat_lit 0, nat_lit 7), (nat_lit 96, nat_lit 0, nat_lit 8), (nat_lit 97, nat_lit 0, nat_lit 3), (nat_lit 98, nat_lit 0, nat_lit 7), (nat_lit 99, nat_lit 0, nat_lit 7), (nat_lit 100, nat_lit 0, nat_lit 7), (nat_lit 101, nat_lit 0, nat_lit 7), (nat_lit 102, nat_lit 0, nat_lit 7), (nat_lit 103, nat_lit 0, nat_lit 7), (nat_lit 104, nat_lit 0, nat_lit 8)], [], [], [])
set_option maxRecDepth 100000 in
theorem syc_350 : CoOk GG MM syt_350 := chk_okF (cs := [syt_349, syt_348, syt_291]) (F := 4000) (cs_c syc_349 <| cs_c syc_348 <| cs_c syc_291 cs_n) (by decide +kernel) (by decide +kernel)
/-- X.bare -/
def syt_351 : CO := (nat_lit 3, nat_lit 4, [ee_0, ee_1], [sv_8, sv_1], [(nat_lit 0, nat_lit 1, sv_12), (nat_lit 0, nat_lit 2, sv_13), (nat_lit 0, nat_lit 7, sv_14), (nat_lit 0, nat_lit 8, sv_15)], [(nat_lit 1, nat_lit 1, nat_lit 0)], [(some sv_16, [ee_0, ee_1], [(nat_lit 0, nat_lit 1, sv_12), (nat_lit 0, nat_lit 2, sv_13), (nat_lit 0, nat_lit 7, sv_14), (nat_lit 0, nat_lit 8, sv_15)], []), (some sv_24, [ee_0, ee_27], [(nat_lit 0, nat_lit 1, sv_12), (nat_lit 0, nat_lit 2, sv_13), (nat_lit 0, nat_lit 7, sv_14), (nat_lit 0, nat_lit 8, sv_15)], []), (some sv_6, [ee_0, ee_27], [(nat_lit 0, nat_lit 1, sv_12), (nat_lit 0, nat_lit 2, sv_13), (nat_lit 0, nat_lit 7, sv_14), (nat_lit 0, nat_lit 8, sv_15)], [])], [(nat_lit 23, nat_lit 3, nat_lit 3), (nat_lit 39, nat_lit 1, nat_lit 2), (nat_lit 41, nat_lit 0, nat_lit 3), (nat_lit 42, nat_lit 0, nat_lit 7), (nat_lit 43, nat_lit 0, nat_lit 7), (nat_lit 44, nat_lit 0, nat_lit 7), (nat_lit 45, nat_lit 0, nat_lit 7), (nat_lit 46, nat_lit 0, nat_lit 7), (nat_lit 47, nat_lit 0, nat_lit 7), (nat_lit 48, nat_lit 0, nat_lit 8), (nat_lit 49, nat_lit 0, nat_lit 3), (nat_lit 50, nat_lit 0, nat_lit 7), (nat_lit 51, nat_lit 0, nat_lit 7), (nat_lit 52, nat_lit 0, nat_lit 7), (nat_lit 53, nat_lit 0, nat_lit 7), (nat_lit 54, nat_lit 0, nat_lit 7), (nat_lit 55, nat_lit 0, nat_lit 7), (nat_lit 56, nat_lit 0, nat_lit 8), (nat_lit 57, nat_lit 0, nat_lit 3), (nat_lit 58, nat_lit 0, nat_lit 7), (nat_lit 59, nat_lit 0, nat_lit 7), (nat_lit 60, nat_lit 0, nat_lit 7), (nat_lit 61, nat_lit 0, nat_lit 7), (nat_lit 62, nat_lit 0, nat_lit 7), (nat_lit 63, nat_lit 0, nat_lit 7), (nat_lit 64, nat_lit 0, nat_lit 8), (nat_lit 65, nat_lit 0, nat_lit 3), (nat_lit 66, nat_lit 0, nat_lit 7), (nat_lit 67, nat_lit 0, nat_lit 7), (nat_lit 68, nat_lit 0, nat_lit 7), (nat_lit 69, nat_lit 0, nat_lit 7), (nat_lit 70, nat_lit 0, nat_lit 7), (nat_lit 71, nat_lit 0, nat_lit 7), (nat_lit 72, nat_lit 0, nat_lit 8), (nat_lit 73, nat_lit 0, nat_lit 3), (nat_lit 74, nat_lit 0, nat_lit 7), (nat_lit 75, nat_lit 0, nat_lit 7), (nat_lit 76, nat_lit 0, nat_lit 7), (nat_lit 77, nat_lit 0, nat_lit 7), (nat_lit 78, nat_lit 0, nat_lit 7), (nat_lit 79, nat_lit 0, nat_lit 7), (nat_lit 80, nat_lit 0, nat_lit 8), (nat_lit 81, nat_lit 0, nat_lit 3), (nat_lit 82, nat_lit 0, nat_lit 7), (nat_lit 83, nat_lit 0, nat_lit 7), (nat_lit 84, nat_lit 0, nat_lit 7), (nat_lit 85, nat_lit 0, nat_lit 7), (nat_lit 86, nat_lit 0, nat_lit 7), (nat_lit 87, nat_lit 0, nat_lit 7), (nat_lit 88, nat_lit 0, nat_lit 8), (nat_lit 89, nat_lit 0, nat_lit 3), (nat_lit 90, nat_lit 0, nat_lit 7), (nat_lit 91, nat_lit 0, nat_lit 7), (nat_lit 92, nat_lit 0, nat_lit 7), (nat_lit 93, nat_lit 0, nat_lit 7), (nat_lit 94, nat_lit 0, nat_lit 7), (nat_lit 95, nat_lit 0, nat_lit 7), (nat_lit 96, nat_lit 0, nat_lit 8), (nat_lit 97, nat_lit 0, nat_lit 3), (nat_lit 98, nat_lit 0, nat_lit 7), (nat_lit 99, nat_lit 0, nat_lit 7), (nat_lit 100, nat_lit 0, nat_lit 7), (nat_lit 101, nat_lit 0, nat_lit 7), (nat_lit 102, nat_lit 0, nat_lit 7), (nat_lit 103, nat_lit 0, nat_lit 7), (nat_lit 104, nat_lit 0, nat_lit 8)], [], [], [])
set_option maxRecDepth 100000 in
theorem syc_351 : CoOk GG MM syt_351 := chk_okF (cs := [syt_350, syt_247]) (F := 4000) (cs_c syc_350 <| cs_c syc_247 cs_n) (by decide +kernel) (by decide +kernel)
/-- M.why -/
def syt_352 : CO := (nat_lit 291, nat_lit 3, [ee_0, ee_27], [sv_19, sv_38, sv_1, sv_6, sv_6], [], [(nat_lit 1, nat_lit 2, nat_lit 0)], [(some sv_6, [ee_0, ee_27], [], []), (some sv_24, [ee_0, ee_27], [], [])], [], [], [], [])
set_option maxRecDepth 100000 in
theorem syc_352 : CoOk GG MM syt_352 := chk_okF (cs := [syt_244]) (F := 4000) (cs_c syc_244 cs_n) (by decide +kernel) (by decide +kernel)
/-- M.live -/
def syt_353 : CO := (nat_lit 232, nat_lit 1, [ee_0, ee_27], [sv_19, sv_38, sv_1, sv_6, sv_6], [], [(nat_lit 1, nat_lit 2, nat_lit 0)], [(none, [ee_0, ee_27], [], [])], [(nat_lit 182, nat_lit 102, nat_lit 102)], [], [], [])
set_option maxRecDepth 100000 in
theorem syc_353 : CoOk GG MM syt_353 := chk_okF (cs := []) (F := 4000) (fun _ h => absurd h List.not_mem_nil) (by decide +kernel) (by decide +kernel)
/-- M.act -/
def syt_354 : CO := (nat_lit 173, nat_lit 4, [ee_0, ee_27], [sv_19, sv_38, sv_1, sv_6, sv_6, sv_24], [], [(nat_lit 1, nat_lit 2, nat_lit 0)], [(some sv_24, [ee_0, ee_27], [], []), (some sv_6, [ee_0, ee_27], [], [])], [(nat_lit 180, nat_lit 24, nat_lit 24), (nat_lit 182, nat_lit 102, nat_lit 102), (nat_lit 185, nat_lit 0, nat_lit 423)], [], [], [])
set_option maxRecDepth 100000 in
theorem syc_354 : CoOk GG MM syt_354 := chk_okF (cs := [syt_353, syt_302, syt_352]) (F := 4000) (cs_c syc_353 <| cs_c syc_302 <| cs_c syc_352 cs_n) (by decide +kernel) (by decide +kernel)
/-- M.act -/
def syt_355 : CO := (nat_lit 173, nat_lit 1, [ee_0, ee_1], [sv_19, sv_38, sv_1, sv_6, sv_6, sv_6], [], [(nat_lit 1, nat_lit 2, nat_lit 0)], [(some sv_16, [ee_0, ee_1], [], [])], [], [], [], [])
set_option maxRecDepth 100000 in
theorem syc_355 : CoOk GG MM syt_355 := chk_okF (cs := []) (F := 4000) (fun _ h => absurd h List.not_mem_nil) (by decide +kernel) (by decide +kernel)
/-- M.bare -/
def syt_356 : CO := (nat_lit 175, nat_lit 5, [ee_0, ee_1], [sv_19, sv_1], [], [(nat_lit 1, nat_lit 1, nat_lit 0)], [(some sv_6, [ee_0, ee_27, ee_26], [(nat_lit 182, nat_lit 0, sv_4)], [(nat_lit 2, nat_lit 182, nat_lit 0)]), (some sv_24, [ee_0, ee_27, ee_26], [(nat_lit 182, nat_lit 0, sv_4)], [(nat_lit 2, nat_lit 182, nat_lit 0)]), (some sv_16, [ee_0, ee_1], [], [])], [(nat_lit 180, nat_lit 0, nat_lit 0), (nat_lit 180, nat_lit 24, nat_lit 24), (nat_lit 182, nat_lit 102, nat_lit 102), (nat_lit 185, nat_lit 0, nat_lit 423)], [], [], [])
set_option maxRecDepth 100000 in
theorem syc_356 : CoOk GG MM syt_356 := chk_okF (cs := [syt_354, syt_355, syt_235]) (F := 4000) (cs_c syc_354 <| cs_c syc_355 <| cs_c syc_235 cs_n) (by decide +kernel) (by decide +kernel)
/-- Life.daysLeft -/
def syt_357 : CO := (nat_lit 95, nat_lit 1, [ee_0], [sv_41], [], [], [(some sv_1, [ee_0, ee_1], [], [(nat_lit 1, nat_lit 0, nat_lit 0)])], [], [], [], [])
set_option maxRecDepth 100000 in
theorem syc_357 : CoOk GG MM syt_357 := chk_okF (cs := []) (F := 4000) (fun _ h => absurd h List.not_mem_nil) (by decide +kernel) (by decide +kernel)
/-- Life.passDay -/
def syt_358 : CO := (nat_lit 110, nat_lit 2, [ee_0], [sv_41, sv_12], [], [], [(none, [ee_0], [], [])], [(nat_lit 23, nat_lit 0, nat_lit 0), (nat_lit 24, nat_lit 0, nat_lit 6), (nat_lit 26, nat_lit 0, nat_lit 6), (nat_lit 29, nat_lit 0, nat_lit 6)], [(nat_lit 2, nat_lit 1, nat_lit 1, ([ee_0, ee_14], [(nat_lit 0, sv_41), (nat_lit 1, sv_12), (nat_lit 2, sv_1)], [], []), [(nat_lit 0, nat_lit 2, nat_lit 0)], [(nat_lit 2, nat_lit 0), (nat_lit 87, nat_lit 1)]),
  (nat_lit 87, nat_lit 2, nat_lit 1, ([ee_0, ee_14], [(nat_lit 0, sv_41), (nat_lit 1, sv_12), (nat_lit 2, sv_1)], [], []), [(nat_lit 0, nat_lit 2, nat_lit 0)], [(nat_lit 87, nat_lit 1)])], [], [(nat_lit 2, nat_lit 0)])
set_option maxRecDepth 100000 in
theorem syc_358 : CoOk GG MM syt_358 := chk_okF (cs := [syt_261]) (F := 4000) (cs_c syc_261 cs_n) (by decide +kernel) (by decide +kernel)
/-- Life.passDays -/
def syt_359 : CO := (nat_lit 111, nat_lit 3, [ee_0, ee_153], [sv_41, sv_12, sv_1], [], [(nat_lit 1, nat_lit 2, nat_lit 0)], [(none, [ee_0, ee_153], [], [])], [(nat_lit 23, nat_lit 0, nat_lit 0), (nat_lit 24, nat_lit 0, nat_lit 6), (nat_lit 26, nat_lit 0, nat_lit 6), (nat_lit 29, nat_lit 0, nat_lit 6)], [(nat_lit 2, nat_lit 1, nat_lit 1, ([ee_0, ee_153, ee_154], [(nat_lit 0, sv_41), (nat_lit 1, sv_12), (nat_lit 2, sv_1), (nat_lit 3, sv_4)], [], []), [(nat_lit 0, nat_lit 3, nat_lit 0)], [(nat_lit 2, nat_lit 0)])], [], [(nat_lit 2, nat_lit 0)])
set_option maxRecDepth 100000 in
theorem syc_359 : CoOk GG MM syt_359 := chk_okF (cs := [syt_358]) (F := 4000) (cs_c syc_358 cs_n) (by decide +kernel) (by decide +kernel)
/-- X.days -/
def syt_360 : CO := (nat_lit 10, nat_lit 4, [ee_0, ee_1], [sv_8, sv_1], [(nat_lit 0, nat_lit 1, sv_12), (nat_lit 0, nat_lit 2, sv_13), (nat_lit 0, nat_lit 7, sv_14), (nat_lit 0, nat_lit 8, sv_15)], [(nat_lit 1, nat_lit 1, nat_lit 0)], [(some sv_16, [ee_0, ee_1], [(nat_lit 0, nat_lit 1, sv_12), (nat_lit 0, nat_lit 2, sv_13), (nat_lit 0, nat_lit 7, sv_14), (nat_lit 0, nat_lit 8, sv_15)], []), (some sv_4, [ee_0, ee_153, ee_155], [(nat_lit 0, nat_lit 1, sv_12), (nat_lit 0, nat_lit 2, sv_13), (nat_lit 0, nat_lit 7, sv_14), (nat_lit 0, nat_lit 8, sv_15)], [(nat_lit 1, nat_lit 0, nat_lit 0)])], [(nat_lit 23, nat_lit 0, nat_lit 0), (nat_lit 24, nat_lit 0, nat_lit 6), (nat_lit 26, nat_lit 0, nat_lit 6), (nat_lit 29, nat_lit 0, nat_lit 6), (nat_lit 39, nat_lit 1, nat_lit 2), (nat_lit 41, nat_lit 0, nat_lit 3), (nat_lit 42, nat_lit 0, nat_lit 7), (nat_lit 43, nat_lit 0, nat_lit 7), (nat_lit 44, nat_lit 0, nat_lit 7), (nat_lit 45, nat_lit 0, nat_lit 7), (nat_lit 46, nat_lit 0, nat_lit 7), (nat_lit 47, nat_lit 0, nat_lit 7), (nat_lit 48, nat_lit 0, nat_lit 8), (nat_lit 49, nat_lit 0, nat_lit 3), (nat_lit 50, nat_lit 0, nat_lit 7), (nat_lit 51, nat_lit 0, nat_lit 7), (nat_lit 52, nat_lit 0, nat_lit 7), (nat_lit 53, nat_lit 0, nat_lit 7), (nat_lit 54, nat_lit 0, nat_lit 7), (nat_lit 55, nat_lit 0, nat_lit 7), (nat_lit 56, nat_lit 0, nat_lit 8), (nat_lit 57, nat_lit 0, nat_lit 3), (nat_lit 58, nat_lit 0, nat_lit 7), (nat_lit 59, nat_lit 0, nat_lit 7), (nat_lit 60, nat_lit 0, nat_lit 7), (nat_lit 61, nat_lit 0, nat_lit 7), (nat_lit 62, nat_lit 0, nat_lit 7), (nat_lit 63, nat_lit 0, nat_lit 7), (nat_lit 64, nat_lit 0, nat_lit 8), (nat_lit 65, nat_lit 0, nat_lit 3), (nat_lit 66, nat_lit 0, nat_lit 7), (nat_lit 67, nat_lit 0, nat_lit 7), (nat_lit 68, nat_lit 0, nat_lit 7), (nat_lit 69, nat_lit 0, nat_lit 7), (nat_lit 70, nat_lit 0, nat_lit 7), (nat_lit 71, nat_lit 0, nat_lit 7), (nat_lit 72, nat_lit 0, nat_lit 8), (nat_lit 73, nat_lit 0, nat_lit 3), (nat_lit 74, nat_lit 0, nat_lit 7), (nat_lit 75, nat_lit 0, nat_lit 7), (nat_lit 76, nat_lit 0, nat_lit 7), (nat_lit 77, nat_lit 0, nat_lit 7), (nat_lit 78, nat_lit 0, nat_lit 7), (nat_lit 79, nat_lit 0, nat_lit 7), (nat_lit 80, nat_lit 0, nat_lit 8), (nat_lit 81, nat_lit 0, nat_lit 3), (nat_lit 82, nat_lit 0, nat_lit 7), (nat_lit 83, nat_lit 0, nat_lit 7), (nat_lit 84, nat_lit 0, nat_lit 7), (nat_lit 85, nat_lit 0, nat_lit 7), (nat_lit 86, nat_lit 0, nat_lit 7), (nat_lit 87, nat_lit 0, nat_lit 7), (nat_lit 88, nat_lit 0, nat_lit 8), (nat_lit 89, nat_lit 0, nat_lit 3), (nat_lit 90, nat_lit 0, nat_lit 7), (nat_lit 91, nat_lit 0, nat_lit 7), (nat_lit 92, nat_lit 0, nat_lit 7), (nat_lit 93, nat_lit 0, nat_lit 7), (nat_lit 94, nat_lit 0, nat_lit 7), (nat_lit 95, nat_lit 0, nat_lit 7), (nat_lit 96, nat_lit 0, nat_lit 8), (nat_lit 97, nat_lit 0, nat_lit 3), (nat_lit 98, nat_lit 0, nat_lit 7), (nat_lit 99, nat_lit 0, nat_lit 7), (nat_lit 100, nat_lit 0, nat_lit 7), (nat_lit 101, nat_lit 0, nat_lit 7), (nat_lit 102, nat_lit 0, nat_lit 7), (nat_lit 103, nat_lit 0, nat_lit 7), (nat_lit 104, nat_lit 0, nat_lit 8)], [], [], [])
set_option maxRecDepth 100000 in
theorem syc_360 : CoOk GG MM syt_360 := chk_okF (cs := [syt_357, syt_359, syt_291]) (F := 4000) (cs_c syc_357 <| cs_c syc_359 <| cs_c syc_291 cs_n) (by decide +kernel) (by decide +kernel)
/-- M.isIn -/
def syt_361 : CO := (nat_lit 218, nat_lit 1, [ee_0, ee_1], [sv_1, sv_24, sv_153], [], [(nat_lit 1, nat_lit 0, nat_lit 0)], [(some sv_24, [ee_0, ee_153], [], []), (some sv_6, [ee_0, ee_1], [], [])], [], [], [], [])
set_option maxRecDepth 100000 in
theorem syc_361 : CoOk GG MM syt_361 := chk_okF (cs := []) (F := 4000) (fun _ h => absurd h List.not_mem_nil) (by decide +kernel) (by decide +kernel)
/-- M.least -/
def syt_362 : CO := (nat_lit 231, nat_lit 1, [ee_0, ee_153, ee_1], [sv_1, sv_4], [], [(nat_lit 1, nat_lit 0, nat_lit 0), (nat_lit 1, nat_lit 1, nat_lit 0)], [(some sv_9, [ee_0, ee_153, ee_1, ee_155], [], [(nat_lit 1, nat_lit 0, nat_lit 0)])], [], [], [], [])
set_option maxRecDepth 100000 in
theorem syc_362 : CoOk GG MM syt_362 := chk_okF (cs := []) (F := 4000) (fun _ h => absurd h List.not_mem_nil) (by decide +kernel) (by decide +kernel)
/-- M.isWed -/
def syt_363 : CO := (nat_lit 226, nat_lit 1, [ee_0], [sv_19, sv_6], [], [], [(some sv_24, [ee_0, ee_27], [(nat_lit 182, nat_lit 132, sv_1)], [(nat_lit 2, nat_lit 182, nat_lit 132)]), (some sv_6, [ee_0, ee_145], [(nat_lit 182, nat_lit 132, sv_1)], [(nat_lit 2, nat_lit 182, nat_lit 132)])], [], [], [], [])
set_option maxRecDepth 100000 in
theorem syc_363 : CoOk GG MM syt_363 := chk_okF (cs := []) (F := 4000) (fun _ h => absurd h List.not_mem_nil) (by decide +kernel) (by decide +kernel)
/-- M.least -/
def syt_364 : CO := (nat_lit 231, nat_lit 1, [ee_0, ee_156], [sv_152, sv_1], [], [(nat_lit 1, nat_lit 1, nat_lit 0)], [(some sv_4, [ee_0, ee_156, ee_157], [], [(nat_lit 1, nat_lit 0, nat_lit 0)])], [], [], [], [])
set_option maxRecDepth 100000 in
theorem syc_364 : CoOk GG MM syt_364 := chk_okF (cs := []) (F := 4000) (fun _ h => absurd h List.not_mem_nil) (by decide +kernel) (by decide +kernel)
/-- M.isWed -/
def syt_365 : CO := (nat_lit 226, nat_lit 1, [ee_0], [sv_19, sv_24], [], [], [(some sv_24, [ee_0, ee_27], [(nat_lit 182, nat_lit 133, sv_1)], [(nat_lit 2, nat_lit 182, nat_lit 133)]), (some sv_6, [ee_0, ee_145], [(nat_lit 182, nat_lit 133, sv_1)], [(nat_lit 2, nat_lit 182, nat_lit 133)])], [], [], [], [])
set_option maxRecDepth 100000 in
theorem syc_365 : CoOk GG MM syt_365 := chk_okF (cs := []) (F := 4000) (fun _ h => absurd h List.not_mem_nil) (by decide +kernel) (by decide +kernel)
/-- M.isJailed -/
def syt_366 : CO := (nat_lit 219, nat_lit 1, [ee_0], [sv_19, sv_6], [], [], [(some sv_24, [ee_0, ee_25], [(nat_lit 182, nat_lit 118, sv_1)], [(nat_lit 2, nat_lit 182, nat_lit 118)]), (some sv_6, [ee_0, ee_0], [(nat_lit 182, nat_lit 118, sv_1)], [(nat_lit 2, nat_lit 182, nat_lit 118)])], [], [], [], [])
set_option maxRecDepth 100000 in
theorem syc_366 : CoOk GG MM syt_366 := chk_okF (cs := []) (F := 4000) (fun _ h => absurd h List.not_mem_nil) (by decide +kernel) (by decide +kernel)
/-- M.isWed -/
def syt_367 : CO := (nat_lit 226, nat_lit 1, [ee_0], [sv_19, sv_32], [], [], [(some sv_24, [ee_0, ee_27], [(nat_lit 182, nat_lit 134, sv_1)], [(nat_lit 2, nat_lit 182, nat_lit 134)]), (some sv_6, [ee_0, ee_145], [(nat_lit 182, nat_lit 134, sv_1)], [(nat_lit 2, nat_lit 182, nat_lit 134)])], [], [], [], [])
set_option maxRecDepth 100000 in
theorem syc_367 : CoOk GG MM syt_367 := chk_okF (cs := []) (F := 4000) (fun _ h => absurd h List.not_mem_nil) (by decide +kernel) (by decide +kernel)
/-- M.isJailed -/
def syt_368 : CO := (nat_lit 219, nat_lit 1, [ee_0], [sv_19, sv_24], [], [], [(some sv_24, [ee_0, ee_25], [(nat_lit 182, nat_lit 119, sv_1)], [(nat_lit 2, nat_lit 182, nat_lit 119)]), (some sv_6, [ee_0, ee_0], [(nat_lit 182, nat_lit 119, sv_1)], [(nat_lit 2, nat_lit 182, nat_lit 119)])], [], [], [], [])
set_option maxRecDepth 100000 in
theorem syc_368 : CoOk GG MM syt_368 := chk_okF (cs := []) (F := 4000) (fun _ h => absurd h List.not_mem_nil) (by decide +kernel) (by decide +kernel)
/-- M.isWed -/
def syt_369 : CO := (nat_lit 226, nat_lit 1, [ee_0], [sv_19, sv_31], [], [], [(some sv_24, [ee_0, ee_27], [(nat_lit 182, nat_lit 135, sv_1)], [(nat_lit 2, nat_lit 182, nat_lit 135)]), (some sv_6, [ee_0, ee_145], [(nat_lit 182, nat_lit 135, sv_1)], [(nat_lit 2, nat_lit 182, nat_lit 135)])], [], [], [], [])
set_option maxRecDepth 100000 in
theorem syc_369 : CoOk GG MM syt_369 := chk_okF (cs := []) (F := 4000) (fun _ h => absurd h List.not_mem_nil) (by decide +kernel) (by decide +kernel)
/-- M.isJailed -/
def syt_370 : CO := (nat_lit 219, nat_lit 1, [ee_0], [sv_19, sv_32], [], [], [(some sv_24, [ee_0, ee_25], [(nat_lit 182, nat_lit 120, sv_1)], [(nat_lit 2, nat_lit 182, nat_lit 120)]), (some sv_6, [ee_0, ee_0], [(nat_lit 182, nat_lit 120, sv_1)], [(nat_lit 2, nat_lit 182, nat_lit 120)])], [], [], [], [])
set_option maxRecDepth 100000 in
theorem syc_370 : CoOk GG MM syt_370 := chk_okF (cs := []) (F := 4000) (fun _ h => absurd h List.not_mem_nil) (by decide +kernel) (by decide +kernel)
/-- M.isWed -/
def syt_371 : CO := (nat_lit 226, nat_lit 1, [ee_0], [sv_19, sv_38], [], [], [(some sv_24, [ee_0, ee_27], [(nat_lit 182, nat_lit 136, sv_1)], [(nat_lit 2, nat_lit 182, nat_lit 136)]), (some sv_6, [ee_0, ee_145], [(nat_lit 182, nat_lit 136, sv_1)], [(nat_lit 2, nat_lit 182, nat_lit 136)])], [], [], [], [])
set_option maxRecDepth 100000 in
theorem syc_371 : CoOk GG MM syt_371 := chk_okF (cs := []) (F := 4000) (fun _ h => absurd h List.not_mem_nil) (by decide +kernel) (by decide +kernel)
/-- M.isJailed -/
def syt_372 : CO := (nat_lit 219, nat_lit 1, [ee_0], [sv_19, sv_31], [], [], [(some sv_24, [ee_0, ee_25], [(nat_lit 182, nat_lit 121, sv_1)], [(nat_lit 2, nat_lit 182, nat_lit 121)]), (some sv_6, [ee_0, ee_0], [(nat_lit 182, nat_lit 121, sv_1)], [(nat_lit 2, nat_lit 182, nat_lit 121)])], [], [], [], [])
set_option maxRecDepth 100000 in
theorem syc_372 : CoOk GG MM syt_372 := chk_okF (cs := []) (F := 4000) (fun _ h => absurd h List.not_mem_nil) (by decide +kernel) (by decide +kernel)
/-- M.isWed -/
def syt_373 : CO := (nat_lit 226, nat_lit 1, [ee_0], [sv_19, sv_68], [], [], [(some sv_24, [ee_0, ee_27], [(nat_lit 182, nat_lit 137, sv_1)], [(nat_lit 2, nat_lit 182, nat_lit 137)]), (some sv_6, [ee_0, ee_145], [(nat_lit 182, nat_lit 137, sv_1)], [(nat_lit 2, nat_lit 182, nat_lit 137)])], [], [], [], [])
set_option maxRecDepth 100000 in
theorem syc_373 : CoOk GG MM syt_373 := chk_okF (cs := []) (F := 4000) (fun _ h => absurd h List.not_mem_nil) (by decide +kernel) (by decide +kernel)
/-- M.isJailed -/
def syt_374 : CO := (nat_lit 219, nat_lit 1, [ee_0], [sv_19, sv_38], [], [], [(some sv_24, [ee_0, ee_25], [(nat_lit 182, nat_lit 122, sv_1)], [(nat_lit 2, nat_lit 182, nat_lit 122)]), (some sv_6, [ee_0, ee_0], [(nat_lit 182, nat_lit 122, sv_1)], [(nat_lit 2, nat_lit 182, nat_lit 122)])], [], [], [], [])
set_option maxRecDepth 100000 in
theorem syc_374 : CoOk GG MM syt_374 := chk_okF (cs := []) (F := 4000) (fun _ h => absurd h List.not_mem_nil) (by decide +kernel) (by decide +kernel)
/-- M.isWed -/
def syt_375 : CO := (nat_lit 226, nat_lit 1, [ee_0], [sv_19, sv_70], [], [], [(some sv_24, [ee_0, ee_27], [(nat_lit 182, nat_lit 138, sv_1)], [(nat_lit 2, nat_lit 182, nat_lit 138)]), (some sv_6, [ee_0, ee_145], [(nat_lit 182, nat_lit 138, sv_1)], [(nat_lit 2, nat_lit 182, nat_lit 138)])], [], [], [], [])
set_option maxRecDepth 100000 in
theorem syc_375 : CoOk GG MM syt_375 := chk_okF (cs := []) (F := 4000) (fun _ h => absurd h List.not_mem_nil) (by decide +kernel) (by decide +kernel)
/-- M.isJailed -/
def syt_376 : CO := (nat_lit 219, nat_lit 1, [ee_0], [sv_19, sv_68], [], [], [(some sv_24, [ee_0, ee_25], [(nat_lit 182, nat_lit 123, sv_1)], [(nat_lit 2, nat_lit 182, nat_lit 123)]), (some sv_6, [ee_0, ee_0], [(nat_lit 182, nat_lit 123, sv_1)], [(nat_lit 2, nat_lit 182, nat_lit 123)])], [], [], [], [])
set_option maxRecDepth 100000 in
theorem syc_376 : CoOk GG MM syt_376 := chk_okF (cs := []) (F := 4000) (fun _ h => absurd h List.not_mem_nil) (by decide +kernel) (by decide +kernel)
/-- M.isJailed -/
def syt_377 : CO := (nat_lit 219, nat_lit 1, [ee_0], [sv_19, sv_70], [], [], [(some sv_24, [ee_0, ee_25], [(nat_lit 182, nat_lit 124, sv_1)], [(nat_lit 2, nat_lit 182, nat_lit 124)]), (some sv_6, [ee_0, ee_0], [(nat_lit 182, nat_lit 124, sv_1)], [(nat_lit 2, nat_lit 182, nat_lit 124)])], [], [], [], [])
set_option maxRecDepth 100000 in
theorem syc_377 : CoOk GG MM syt_377 := chk_okF (cs := []) (F := 4000) (fun _ h => absurd h List.not_mem_nil) (by decide +kernel) (by decide +kernel)
/-- M.oneDay -/
def syt_378 : CO := (nat_lit 236, nat_lit 2, [ee_0], [sv_19], [], [], [(none, [ee_0, ee_158, ee_158, ee_158, ee_158, ee_158, ee_158, ee_158], [(nat_lit 182, nat_lit 118, sv_1), (nat_lit 182, nat_lit 119, sv_4), (nat_lit 182, nat_lit 120, sv_9), (nat_lit 182, nat_lit 121, sv_10), (nat_lit 182, nat_lit 122, sv_11), (nat_lit 182, nat_lit 123, sv_17), (nat_lit 182, nat_lit 124, sv_18)], [(nat_lit 2, nat_lit 182, nat_lit 118), (nat_lit 2, nat_lit 182, nat_lit 119), (nat_lit 2, nat_lit 182, nat_lit 120), (nat_lit 2, nat_lit 182, nat_lit 121), (nat_lit 2, nat_lit 182, nat_lit 122), (nat_lit 2, nat_lit 182, nat_lit 123), (nat_lit 2, nat_lit 182, nat_lit 124)])], [(nat_lit 182, nat_lit 101, nat_lit 101), (nat_lit 182, nat_lit 104, nat_lit 110), (nat_lit 182, nat_lit 118, nat_lit 124), (nat_lit 182, nat_lit 139, nat_lit 145)], [(nat_lit 2, nat_lit 1, nat_lit 0, ([ee_0], [(nat_lit 0, sv_19), (nat_lit 1, sv_6)], [], []), [], [(nat_lit 2, nat_lit 1), (nat_lit 111, nat_lit 8)]),
  (nat_lit 2, nat_lit 2, nat_lit 0, ([ee_0, ee_26], [(nat_lit 0, sv_19), (nat_lit 1, sv_24)], [], [(nat_lit 182, nat_lit 0, sv_1)]), [(nat_lit 2, nat_lit 182, nat_lit 0)], [(nat_lit 2, nat_lit 2), (nat_lit 111, nat_lit 8)]),
  (nat_lit 2, nat_lit 3, nat_lit 0, ([ee_0, ee_130], [(nat_lit 0, sv_19), (nat_lit 1, sv_32)], [], [(nat_lit 182, nat_lit 0, sv_1)]), [(nat_lit 2, nat_lit 182, nat_lit 0)], [(nat_lit 2, nat_lit 3), (nat_lit 111, nat_lit 8)]),
  (nat_lit 2, nat_lit 4, nat_lit 0, ([ee_0, ee_131], [(nat_lit 0, sv_19), (nat_lit 1, sv_31)], [], [(nat_lit 182, nat_lit 0, sv_1)]), [(nat_lit 2, nat_lit 182, nat_lit 0)], [(nat_lit 2, nat_lit 4), (nat_lit 111, nat_lit 8)]),
  (nat_lit 2, nat_lit 5, nat_lit 0, ([ee_0, ee_132], [(nat_lit 0, sv_19), (nat_lit 1, sv_38)], [], [(nat_lit 182, nat_lit 0, sv_1)]), [(nat_lit 2, nat_lit 182, nat_lit 0)], [(nat_lit 2, nat_lit 5), (nat_lit 111, nat_lit 8)]),
  (nat_lit 2, nat_lit 6, nat_lit 0, ([ee_0, ee_133], [(nat_lit 0, sv_19), (nat_lit 1, sv_68)], [], [(nat_lit 182, nat_lit 0, sv_1)]), [(nat_lit 2, nat_lit 182, nat_lit 0)], [(nat_lit 2, nat_lit 6), (nat_lit 111, nat_lit 8)]),
  (nat_lit 2, nat_lit 7, nat_lit 0, ([ee_0, ee_134], [(nat_lit 0, sv_19), (nat_lit 1, sv_70)], [], [(nat_lit 182, nat_lit 0, sv_1)]), [(nat_lit 2, nat_lit 182, nat_lit 0)], [(nat_lit 2, nat_lit 7), (nat_lit 111, nat_lit 8)]),
  (nat_lit 2, nat_lit 8, nat_lit 0, ([ee_0, ee_79], [(nat_lit 0, sv_19), (nat_lit 1, sv_59)], [], [(nat_lit 182, nat_lit 0, sv_1)]), [(nat_lit 2, nat_lit 182, nat_lit 0)], [(nat_lit 111, nat_lit 8)]),
  (nat_lit 111, nat_lit 9, nat_lit 0, ([ee_0, ee_14], [(nat_lit 0, sv_19), (nat_lit 1, sv_6)], [], [(nat_lit 182, nat_lit 0, sv_1)]), [(nat_lit 2, nat_lit 182, nat_lit 0)], [(nat_lit 111, nat_lit 9)]),
  (nat_lit 111, nat_lit 10, nat_lit 0, ([ee_0, ee_14, ee_158], [(nat_lit 0, sv_19), (nat_lit 1, sv_24)], [], [(nat_lit 182, nat_lit 0, sv_1), (nat_lit 182, nat_lit 118, sv_4)]), [(nat_lit 2, nat_lit 182, nat_lit 0), (nat_lit 2, nat_lit 182, nat_lit 118)], [(nat_lit 111, nat_lit 10)]),
  (nat_lit 111, nat_lit 11, nat_lit 0, ([ee_0, ee_14, ee_158, ee_158], [(nat_lit 0, sv_19), (nat_lit 1, sv_32)], [], [(nat_lit 182, nat_lit 0, sv_1), (nat_lit 182, nat_lit 118, sv_4), (nat_lit 182, nat_lit 119, sv_9)]), [(nat_lit 2, nat_lit 182, nat_lit 0), (nat_lit 2, nat_lit 182, nat_lit 118), (nat_lit 2, nat_lit 182, nat_lit 119)], [(nat_lit 111, nat_lit 11)]),
  (nat_lit 111, nat_lit 12, nat_lit 0, ([ee_0, ee_14, ee_158, ee_158, ee_158], [(nat_lit 0, sv_19), (nat_lit 1, sv_31)], [], [(nat_lit 182, nat_lit 0, sv_1), (nat_lit 182, nat_lit 118, sv_4), (nat_lit 182, nat_lit 119, sv_9), (nat_lit 182, nat_lit 120, sv_10)]), [(nat_lit 2, nat_lit 182, nat_lit 0), (nat_lit 2, nat_lit 182, nat_lit 118), (nat_lit 2, nat_lit 182, nat_lit 119), (nat_lit 2, nat_lit 182, nat_lit 120)], [(nat_lit 111, nat_lit 12)]),
  (nat_lit 111, nat_lit 13, nat_lit 0, ([ee_0, ee_14, ee_158, ee_158, ee_158, ee_158], [(nat_lit 0, sv_19), (nat_lit 1, sv_38)], [], [(nat_lit 182, nat_lit 0, sv_1), (nat_lit 182, nat_lit 118, sv_4), (nat_lit 182, nat_lit 119, sv_9), (nat_lit 182, nat_lit 120, sv_10), (nat_lit 182, nat_lit 121, sv_11)]), [(nat_lit 2, nat_lit 182, nat_lit 0), (nat_lit 2, nat_lit 182, nat_lit 118), (nat_lit 2, nat_lit 182, nat_lit 119), (nat_lit 2, nat_lit 182, nat_lit 120), (nat_lit 2, nat_lit 182, nat_lit 121)], [(nat_lit 111, nat_lit 13)]),
  (nat_lit 111, nat_lit 14, nat_lit 0, ([ee_0, ee_14, ee_158, ee_158, ee_158, ee_158, ee_158], [(nat_lit 0, sv_19), (nat_lit 1, sv_68)], [], [(nat_lit 182, nat_lit 0, sv_1), (nat_lit 182, nat_lit 118, sv_4), (nat_lit 182, nat_lit 119, sv_9), (nat_lit 182, nat_lit 120, sv_10), (nat_lit 182, nat_lit 121, sv_11), (nat_lit 182, nat_lit 122, sv_17)]), [(nat_lit 2, nat_lit 182, nat_lit 0), (nat_lit 2, nat_lit 182, nat_lit 118), (nat_lit 2, nat_lit 182, nat_lit 119), (nat_lit 2, nat_lit 182, nat_lit 120), (nat_lit 2, nat_lit 182, nat_lit 121), (nat_lit 2, nat_lit 182, nat_lit 122)], [(nat_lit 111, nat_lit 14)]),
  (nat_lit 111, nat_lit 15, nat_lit 0, ([ee_0, ee_14, ee_158, ee_158, ee_158, ee_158, ee_158, ee_158], [(nat_lit 0, sv_19), (nat_lit 1, sv_70)], [], [(nat_lit 182, nat_lit 0, sv_1), (nat_lit 182, nat_lit 118, sv_4), (nat_lit 182, nat_lit 119, sv_9), (nat_lit 182, nat_lit 120, sv_10), (nat_lit 182, nat_lit 121, sv_11), (nat_lit 182, nat_lit 122, sv_17), (nat_lit 182, nat_lit 123, sv_18)]), [(nat_lit 2, nat_lit 182, nat_lit 0), (nat_lit 2, nat_lit 182, nat_lit 118), (nat_lit 2, nat_lit 182, nat_lit 119), (nat_lit 2, nat_lit 182, nat_lit 120), (nat_lit 2, nat_lit 182, nat_lit 121), (nat_lit 2, nat_lit 182, nat_lit 122), (nat_lit 2, nat_lit 182, nat_lit 123)], [(nat_lit 111, nat_lit 15)]),
  (nat_lit 111, nat_lit 16, nat_lit 0, ([ee_0, ee_14, ee_158, ee_158, ee_158, ee_158, ee_158, ee_158, ee_158], [(nat_lit 0, sv_19), (nat_lit 1, sv_59)], [], [(nat_lit 182, nat_lit 0, sv_1), (nat_lit 182, nat_lit 118, sv_4), (nat_lit 182, nat_lit 119, sv_9), (nat_lit 182, nat_lit 120, sv_10), (nat_lit 182, nat_lit 121, sv_11), (nat_lit 182, nat_lit 122, sv_17), (nat_lit 182, nat_lit 123, sv_18), (nat_lit 182, nat_lit 124, sv_97)]), [(nat_lit 2, nat_lit 182, nat_lit 0), (nat_lit 2, nat_lit 182, nat_lit 118), (nat_lit 2, nat_lit 182, nat_lit 119), (nat_lit 2, nat_lit 182, nat_lit 120), (nat_lit 2, nat_lit 182, nat_lit 121), (nat_lit 2, nat_lit 182, nat_lit 122), (nat_lit 2, nat_lit 182, nat_lit 123), (nat_lit 2, nat_lit 182, nat_lit 124)], [])], [], [(nat_lit 2, nat_lit 0)])
set_option maxRecDepth 100000 in
theorem syc_378 : CoOk GG MM syt_378 := chk_okF (cs := [syt_366, syt_368, syt_370, syt_372, syt_374, syt_376, syt_377, syt_363, syt_365, syt_367, syt_369, syt_371, syt_373, syt_375, syt_364]) (F := 4000) (cs_c syc_366 <| cs_c syc_368 <| cs_c syc_370 <| cs_c syc_372 <| cs_c syc_374 <| cs_c syc_376 <| cs_c syc_377 <| cs_c syc_363 <| cs_c syc_365 <| cs_c syc_367 <| cs_c syc_369 <| cs_c syc_371 <| cs_c syc_373 <| cs_c syc_375 <| cs_c syc_364 cs_n) (by decide +kernel) (by decide +kernel)
/-- M.passDays -/
def syt_379 : CO := (nat_lit 241, nat_lit 3, [ee_0, ee_153], [sv_19, sv_1], [], [(nat_lit 1, nat_lit 1, nat_lit 0)], [(some sv_4, [ee_0, ee_153, ee_155], [], [(nat_lit 1, nat_lit 0, nat_lit 0)])], [(nat_lit 182, nat_lit 101, nat_lit 101), (nat_lit 182, nat_lit 104, nat_lit 110), (nat_lit 182, nat_lit 118, nat_lit 124), (nat_lit 182, nat_lit 139, nat_lit 145)], [(nat_lit 18, nat_lit 1, nat_lit 1, ([ee_0, ee_153, ee_154, ee_155], [(nat_lit 0, sv_19), (nat_lit 2, sv_9), (nat_lit 3, sv_4)], [], []), [(nat_lit 0, nat_lit 3, nat_lit 0), (nat_lit 0, nat_lit 2, nat_lit 0)], [(nat_lit 18, nat_lit 0)])], [], [(nat_lit 18, nat_lit 0)])
set_option maxRecDepth 100000 in
theorem syc_379 : CoOk GG MM syt_379 := chk_okF (cs := [syt_362, syt_378]) (F := 4000) (cs_c syc_362 <| cs_c syc_378 cs_n) (by decide +kernel) (by decide +kernel)
/-- M.days -/
def syt_380 : CO := (nat_lit 187, nat_lit 4, [ee_0, ee_1], [sv_19, sv_1], [], [(nat_lit 1, nat_lit 1, nat_lit 0)], [(some sv_16, [ee_0, ee_1], [], []), (some sv_6, [ee_0, ee_153], [], []), (some sv_4, [ee_0, ee_153, ee_155], [], [(nat_lit 1, nat_lit 0, nat_lit 0)])], [(nat_lit 180, nat_lit 0, nat_lit 0), (nat_lit 180, nat_lit 24, nat_lit 24), (nat_lit 182, nat_lit 101, nat_lit 101), (nat_lit 182, nat_lit 104, nat_lit 110), (nat_lit 182, nat_lit 118, nat_lit 124), (nat_lit 182, nat_lit 139, nat_lit 145), (nat_lit 185, nat_lit 0, nat_lit 423)], [], [], [])
set_option maxRecDepth 100000 in
theorem syc_380 : CoOk GG MM syt_380 := chk_okF (cs := [syt_361, syt_379, syt_302]) (F := 4000) (cs_c syc_361 <| cs_c syc_379 <| cs_c syc_302 cs_n) (by decide +kernel) (by decide +kernel)
/-- Life.copyFrom -/
def syt_381 : CO := (nat_lit 94, nat_lit 1, [ee_0], [sv_41, sv_144], [], [], [(none, [ee_0], [], [])], [(nat_lit 23, nat_lit 0, nat_lit 3), (nat_lit 24, nat_lit 0, nat_lit 7), (nat_lit 25, nat_lit 0, nat_lit 7), (nat_lit 26, nat_lit 0, nat_lit 7), (nat_lit 27, nat_lit 0, nat_lit 7), (nat_lit 28, nat_lit 0, nat_lit 7), (nat_lit 29, nat_lit 0, nat_lit 7), (nat_lit 30, nat_lit 0, nat_lit 8)], [], [], [])
set_option maxRecDepth 100000 in
theorem syc_381 : CoOk GG MM syt_381 := chk_okF (cs := []) (F := 4000) (fun _ h => absurd h List.not_mem_nil) (by decide +kernel) (by decide +kernel)
/-- Life.copyFrom -/
def syt_382 : CO := (nat_lit 94, nat_lit 1, [ee_0], [sv_41, sv_145], [], [], [(none, [ee_0], [], [])], [(nat_lit 23, nat_lit 0, nat_lit 3), (nat_lit 24, nat_lit 0, nat_lit 7), (nat_lit 25, nat_lit 0, nat_lit 7), (nat_lit 26, nat_lit 0, nat_lit 7), (nat_lit 27, nat_lit 0, nat_lit 7), (nat_lit 28, nat_lit 0, nat_lit 7), (nat_lit 29, nat_lit 0, nat_lit 7), (nat_lit 30, nat_lit 0, nat_lit 8)], [], [], [])
set_option maxRecDepth 100000 in
theorem syc_382 : CoOk GG MM syt_382 := chk_okF (cs := []) (F := 4000) (fun _ h => absurd h List.not_mem_nil) (by decide +kernel) (by decide +kernel)
/-- Life.copyFrom -/
def syt_383 : CO := (nat_lit 94, nat_lit 1, [ee_0], [sv_41, sv_146], [], [], [(none, [ee_0], [], [])], [(nat_lit 23, nat_lit 0, nat_lit 3), (nat_lit 24, nat_lit 0, nat_lit 7), (nat_lit 25, nat_lit 0, nat_lit 7), (nat_lit 26, nat_lit 0, nat_lit 7), (nat_lit 27, nat_lit 0, nat_lit 7), (nat_lit 28, nat_lit 0, nat_lit 7), (nat_lit 29, nat_lit 0, nat_lit 7), (nat_lit 30, nat_lit 0, nat_lit 8)], [], [], [])
set_option maxRecDepth 100000 in
theorem syc_383 : CoOk GG MM syt_383 := chk_okF (cs := []) (F := 4000) (fun _ h => absurd h List.not_mem_nil) (by decide +kernel) (by decide +kernel)
/-- Life.copyFrom -/
def syt_384 : CO := (nat_lit 94, nat_lit 1, [ee_0], [sv_41, sv_147], [], [], [(none, [ee_0], [], [])], [(nat_lit 23, nat_lit 0, nat_lit 3), (nat_lit 24, nat_lit 0, nat_lit 7), (nat_lit 25, nat_lit 0, nat_lit 7), (nat_lit 26, nat_lit 0, nat_lit 7), (nat_lit 27, nat_lit 0, nat_lit 7), (nat_lit 28, nat_lit 0, nat_lit 7), (nat_lit 29, nat_lit 0, nat_lit 7), (nat_lit 30, nat_lit 0, nat_lit 8)], [], [], [])
set_option maxRecDepth 100000 in
theorem syc_384 : CoOk GG MM syt_384 := chk_okF (cs := []) (F := 4000) (fun _ h => absurd h List.not_mem_nil) (by decide +kernel) (by decide +kernel)
/-- Life.copyFrom -/
def syt_385 : CO := (nat_lit 94, nat_lit 1, [ee_0], [sv_41, sv_148], [], [], [(none, [ee_0], [], [])], [(nat_lit 23, nat_lit 0, nat_lit 3), (nat_lit 24, nat_lit 0, nat_lit 7), (nat_lit 25, nat_lit 0, nat_lit 7), (nat_lit 26, nat_lit 0, nat_lit 7), (nat_lit 27, nat_lit 0, nat_lit 7), (nat_lit 28, nat_lit 0, nat_lit 7), (nat_lit 29, nat_lit 0, nat_lit 7), (nat_lit 30, nat_lit 0, nat_lit 8)], [], [], [])
set_option maxRecDepth 100000 in
theorem syc_385 : CoOk GG MM syt_385 := chk_okF (cs := []) (F := 4000) (fun _ h => absurd h List.not_mem_nil) (by decide +kernel) (by decide +kernel)
/-- Life.copyFrom -/
def syt_386 : CO := (nat_lit 94, nat_lit 1, [ee_0], [sv_41, sv_149], [], [], [(none, [ee_0], [], [])], [(nat_lit 23, nat_lit 0, nat_lit 3), (nat_lit 24, nat_lit 0, nat_lit 7), (nat_lit 25, nat_lit 0, nat_lit 7), (nat_lit 26, nat_lit 0, nat_lit 7), (nat_lit 27, nat_lit 0, nat_lit 7), (nat_lit 28, nat_lit 0, nat_lit 7), (nat_lit 29, nat_lit 0, nat_lit 7), (nat_lit 30, nat_lit 0, nat_lit 8)], [], [], [])
set_option maxRecDepth 100000 in
theorem syc_386 : CoOk GG MM syt_386 := chk_okF (cs := []) (F := 4000) (fun _ h => absurd h List.not_mem_nil) (by decide +kernel) (by decide +kernel)
/-- Life.copyFrom -/
def syt_387 : CO := (nat_lit 94, nat_lit 1, [ee_0], [sv_41, sv_150], [], [], [(none, [ee_0], [], [])], [(nat_lit 23, nat_lit 0, nat_lit 3), (nat_lit 24, nat_lit 0, nat_lit 7), (nat_lit 25, nat_lit 0, nat_lit 7), (nat_lit 26, nat_lit 0, nat_lit 7), (nat_lit 27, nat_lit 0, nat_lit 7), (nat_lit 28, nat_lit 0, nat_lit 7), (nat_lit 29, nat_lit 0, nat_lit 7), (nat_lit 30, nat_lit 0, nat_lit 8)], [], [], [])
set_option maxRecDepth 100000 in
theorem syc_387 : CoOk GG MM syt_387 := chk_okF (cs := []) (F := 4000) (fun _ h => absurd h List.not_mem_nil) (by decide +kernel) (by decide +kernel)
/-- Life.copyFrom -/
def syt_388 : CO := (nat_lit 94, nat_lit 1, [ee_0], [sv_41, sv_151], [], [], [(none, [ee_0], [], [])], [(nat_lit 23, nat_lit 0, nat_lit 3), (nat_lit 24, nat_lit 0, nat_lit 7), (nat_lit 25, nat_lit 0, nat_lit 7), (nat_lit 26, nat_lit 0, nat_lit 7), (nat_lit 27, nat_lit 0, nat_lit 7), (nat_lit 28, nat_lit 0, nat_lit 7), (nat_lit 29, nat_lit 0, nat_lit 7), (nat_lit 30, nat_lit 0, nat_lit 8)], [], [], [])
set_option maxRecDepth 100000 in
theorem syc_388 : CoOk GG MM syt_388 := chk_okF (cs := []) (F := 4000) (fun _ h => absurd h List.not_mem_nil) (by decide +kernel) (by decide +kernel)
/-- Past.takeBack -/
def syt_389 : CO := (nat_lit 131, nat_lit 2, [ee_0], [sv_42, sv_41], [], [], [(some sv_16, [ee_0], [], []), (some sv_1, [ee_0, ee_14], [], [(nat_lit 1, nat_lit 0, nat_lit 0)])], [(nat_lit 23, nat_lit 0, nat_lit 3), (nat_lit 24, nat_lit 0, nat_lit 7), (nat_lit 25, nat_lit 0, nat_lit 7), (nat_lit 26, nat_lit 0, nat_lit 7), (nat_lit 27, nat_lit 0, nat_lit 7), (nat_lit 28, nat_lit 0, nat_lit 7), (nat_lit 29, nat_lit 0, nat_lit 7), (nat_lit 30, nat_lit 0, nat_lit 8), (nat_lit 39, nat_lit 2, nat_lit 2)], [], [], [])
set_option maxRecDepth 100000 in
theorem syc_389 : CoOk GG MM syt_389 := chk_okF (cs := [syt_381, syt_382, syt_383, syt_384, syt_385, syt_386, syt_387, syt_388]) (F := 4000) (cs_c syc_381 <| cs_c syc_382 <| cs_c syc_383 <| cs_c syc_384 <| cs_c syc_385 <| cs_c syc_386 <| cs_c syc_387 <| cs_c syc_388 cs_n) (by decide +kernel) (by decide +kernel)
/-- X.undo -/
def syt_390 : CO := (nat_lit 46, nat_lit 3, [ee_0], [sv_8], [(nat_lit 0, nat_lit 1, sv_12), (nat_lit 0, nat_lit 2, sv_13), (nat_lit 0, nat_lit 7, sv_14), (nat_lit 0, nat_lit 8, sv_15)], [], [(some sv_1, [ee_0, ee_14], [(nat_lit 0, nat_lit 1, sv_12), (nat_lit 0, nat_lit 2, sv_13), (nat_lit 0, nat_lit 7, sv_14), (nat_lit 0, nat_lit 8, sv_15)], [(nat_lit 1, nat_lit 0, nat_lit 0)]), (some sv_16, [ee_0], [(nat_lit 0, nat_lit 1, sv_12), (nat_lit 0, nat_lit 2, sv_13), (nat_lit 0, nat_lit 7, sv_14), (nat_lit 0, nat_lit 8, sv_15)], [])], [(nat_lit 23, nat_lit 0, nat_lit 3), (nat_lit 24, nat_lit 0, nat_lit 7), (nat_lit 25, nat_lit 0, nat_lit 7), (nat_lit 26, nat_lit 0, nat_lit 7), (nat_lit 27, nat_lit 0, nat_lit 7), (nat_lit 28, nat_lit 0, nat_lit 7), (nat_lit 29, nat_lit 0, nat_lit 7), (nat_lit 30, nat_lit 0, nat_lit 8), (nat_lit 39, nat_lit 2, nat_lit 2)], [], [], [])
set_option maxRecDepth 100000 in
theorem syc_390 : CoOk GG MM syt_390 := chk_okF (cs := [syt_389]) (F := 4000) (cs_c syc_389 cs_n) (by decide +kernel) (by decide +kernel)
/-- M.undo -/
def syl_391_0 : List LB := [(nat_lit 26, nat_lit 1, nat_lit 0, ([ee_0], [(nat_lit 0, sv_19), (nat_lit 1, sv_6)], [], [(nat_lit 180, nat_lit 24, sv_59)]), [], [(nat_lit 26, nat_lit 1)]),
  (nat_lit 26, nat_lit 2, nat_lit 0, ([ee_0], [(nat_lit 0, sv_19), (nat_lit 1, sv_5)], [], [(nat_lit 180, nat_lit 24, sv_59)]), [], [(nat_lit 26, nat_lit 2)]),
  (nat_lit 26, nat_lit 3, nat_lit 0, ([ee_0], [(nat_lit 0, sv_19), (nat_lit 1, sv_3)], [], [(nat_lit 180, nat_lit 24, sv_59)]), [], [(nat_lit 26, nat_lit 3)]),
  (nat_lit 26, nat_lit 4, nat_lit 0, ([ee_0], [(nat_lit 0, sv_19), (nat_lit 1, sv_2)], [], [(nat_lit 180, nat_lit 24, sv_59)]), [], [(nat_lit 26, nat_lit 4)]),
  (nat_lit 26, nat_lit 5, nat_lit 0, ([ee_0], [(nat_lit 0, sv_19), (nat_lit 1, sv_133)], [], [(nat_lit 180, nat_lit 24, sv_59)]), [], [(nat_lit 26, nat_lit 5)]),
  (nat_lit 26, nat_lit 6, nat_lit 0, ([ee_0], [(nat_lit 0, sv_19), (nat_lit 1, sv_134)], [], [(nat_lit 180, nat_lit 24, sv_59)]), [], [(nat_lit 26, nat_lit 6)])]
def syl_391_1 : List LB := [(nat_lit 26, nat_lit 7, nat_lit 0, ([ee_0], [(nat_lit 0, sv_19), (nat_lit 1, sv_135)], [], [(nat_lit 180, nat_lit 24, sv_59)]), [], []),
  (nat_lit 26, nat_lit 8, nat_lit 0, ([ee_0], [(nat_lit 0, sv_19), (nat_lit 1, sv_6)], [], [(nat_lit 180, nat_lit 24, sv_70)]), [], [(nat_lit 26, nat_lit 8)]),
  (nat_lit 26, nat_lit 9, nat_lit 0, ([ee_0], [(nat_lit 0, sv_19), (nat_lit 1, sv_5)], [], [(nat_lit 180, nat_lit 24, sv_70)]), [], [(nat_lit 26, nat_lit 9)]),
  (nat_lit 26, nat_lit 10, nat_lit 0, ([ee_0], [(nat_lit 0, sv_19), (nat_lit 1, sv_3)], [], [(nat_lit 180, nat_lit 24, sv_70)]), [], [(nat_lit 26, nat_lit 10)]),
  (nat_lit 26, nat_lit 11, nat_lit 0, ([ee_0], [(nat_lit 0, sv_19), (nat_lit 1, sv_2)], [], [(nat_lit 180, nat_lit 24, sv_70)]), [], [(nat_lit 26, nat_lit 11)]),
  (nat_lit 26, nat_lit 12, nat_lit 0, ([ee_0], [(nat_lit 0, sv_19), (nat_lit 1, sv_133)], [], [(nat_lit 180, nat_lit 24, sv_70)]), [], [(nat_lit 26, nat_lit 12)])]
def syl_391_2 : List LB := [(nat_lit 26, nat_lit 13, nat_lit 0, ([ee_0], [(nat_lit 0, sv_19), (nat_lit 1, sv_134)], [], [(nat_lit 180, nat_lit 24, sv_70)]), [], [(nat_lit 26, nat_lit 13)]),
  (nat_lit 26, nat_lit 14, nat_lit 0, ([ee_0], [(nat_lit 0, sv_19), (nat_lit 1, sv_135)], [], [(nat_lit 180, nat_lit 24, sv_70)]), [], []),
  (nat_lit 26, nat_lit 15, nat_lit 0, ([ee_0], [(nat_lit 0, sv_19), (nat_lit 1, sv_6)], [], [(nat_lit 180, nat_lit 24, sv_68)]), [], [(nat_lit 26, nat_lit 15)]),
  (nat_lit 26, nat_lit 16, nat_lit 0, ([ee_0], [(nat_lit 0, sv_19), (nat_lit 1, sv_5)], [], [(nat_lit 180, nat_lit 24, sv_68)]), [], [(nat_lit 26, nat_lit 16)]),
  (nat_lit 26, nat_lit 17, nat_lit 0, ([ee_0], [(nat_lit 0, sv_19), (nat_lit 1, sv_3)], [], [(nat_lit 180, nat_lit 24, sv_68)]), [], [(nat_lit 26, nat_lit 17)]),
  (nat_lit 26, nat_lit 18, nat_lit 0, ([ee_0], [(nat_lit 0, sv_19), (nat_lit 1, sv_2)], [], [(nat_lit 180, nat_lit 24, sv_68)]), [], [(nat_lit 26, nat_lit 18)])]
def syl_391_3 : List LB := [(nat_lit 26, nat_lit 19, nat_lit 0, ([ee_0], [(nat_lit 0, sv_19), (nat_lit 1, sv_133)], [], [(nat_lit 180, nat_lit 24, sv_68)]), [], [(nat_lit 26, nat_lit 19)]),
  (nat_lit 26, nat_lit 20, nat_lit 0, ([ee_0], [(nat_lit 0, sv_19), (nat_lit 1, sv_134)], [], [(nat_lit 180, nat_lit 24, sv_68)]), [], [(nat_lit 26, nat_lit 20)]),
  (nat_lit 26, nat_lit 21, nat_lit 0, ([ee_0], [(nat_lit 0, sv_19), (nat_lit 1, sv_135)], [], [(nat_lit 180, nat_lit 24, sv_68)]), [], []),
  (nat_lit 26, nat_lit 22, nat_lit 0, ([ee_0], [(nat_lit 0, sv_19), (nat_lit 1, sv_6)], [], [(nat_lit 180, nat_lit 24, sv_38)]), [], [(nat_lit 26, nat_lit 22)]),
  (nat_lit 26, nat_lit 23, nat_lit 0, ([ee_0], [(nat_lit 0, sv_19), (nat_lit 1, sv_5)], [], [(nat_lit 180, nat_lit 24, sv_38)]), [], [(nat_lit 26, nat_lit 23)]),
  (nat_lit 26, nat_lit 24, nat_lit 0, ([ee_0], [(nat_lit 0, sv_19), (nat_lit 1, sv_3)], [], [(nat_lit 180, nat_lit 24, sv_38)]), [], [(nat_lit 26, nat_lit 24)])]
def syl_391_4 : List LB := [(nat_lit 26, nat_lit 25, nat_lit 0, ([ee_0], [(nat_lit 0, sv_19), (nat_lit 1, sv_2)], [], [(nat_lit 180, nat_lit 24, sv_38)]), [], [(nat_lit 26, nat_lit 25)]),
  (nat_lit 26, nat_lit 26, nat_lit 0, ([ee_0], [(nat_lit 0, sv_19), (nat_lit 1, sv_133)], [], [(nat_lit 180, nat_lit 24, sv_38)]), [], [(nat_lit 26, nat_lit 26)]),
  (nat_lit 26, nat_lit 27, nat_lit 0, ([ee_0], [(nat_lit 0, sv_19), (nat_lit 1, sv_134)], [], [(nat_lit 180, nat_lit 24, sv_38)]), [], [(nat_lit 26, nat_lit 27)]),
  (nat_lit 26, nat_lit 28, nat_lit 0, ([ee_0], [(nat_lit 0, sv_19), (nat_lit 1, sv_135)], [], [(nat_lit 180, nat_lit 24, sv_38)]), [], []),
  (nat_lit 26, nat_lit 29, nat_lit 0, ([ee_0], [(nat_lit 0, sv_19), (nat_lit 1, sv_6)], [], [(nat_lit 180, nat_lit 24, sv_31)]), [], [(nat_lit 26, nat_lit 29)]),
  (nat_lit 26, nat_lit 30, nat_lit 0, ([ee_0], [(nat_lit 0, sv_19), (nat_lit 1, sv_5)], [], [(nat_lit 180, nat_lit 24, sv_31)]), [], [(nat_lit 26, nat_lit 30)])]
def syl_391_5 : List LB := [(nat_lit 26, nat_lit 31, nat_lit 0, ([ee_0], [(nat_lit 0, sv_19), (nat_lit 1, sv_3)], [], [(nat_lit 180, nat_lit 24, sv_31)]), [], [(nat_lit 26, nat_lit 31)]),
  (nat_lit 26, nat_lit 32, nat_lit 0, ([ee_0], [(nat_lit 0, sv_19), (nat_lit 1, sv_2)], [], [(nat_lit 180, nat_lit 24, sv_31)]), [], [(nat_lit 26, nat_lit 32)]),
  (nat_lit 26, nat_lit 33, nat_lit 0, ([ee_0], [(nat_lit 0, sv_19), (nat_lit 1, sv_133)], [], [(nat_lit 180, nat_lit 24, sv_31)]), [], [(nat_lit 26, nat_lit 33)]),
  (nat_lit 26, nat_lit 34, nat_lit 0, ([ee_0], [(nat_lit 0, sv_19), (nat_lit 1, sv_134)], [], [(nat_lit 180, nat_lit 24, sv_31)]), [], [(nat_lit 26, nat_lit 34)]),
  (nat_lit 26, nat_lit 35, nat_lit 0, ([ee_0], [(nat_lit 0, sv_19), (nat_lit 1, sv_135)], [], [(nat_lit 180, nat_lit 24, sv_31)]), [], []),
  (nat_lit 26, nat_lit 36, nat_lit 0, ([ee_0], [(nat_lit 0, sv_19), (nat_lit 1, sv_6)], [], [(nat_lit 180, nat_lit 24, sv_32)]), [], [(nat_lit 26, nat_lit 36)])]
def syl_391_6 : List LB := [(nat_lit 26, nat_lit 37, nat_lit 0, ([ee_0], [(nat_lit 0, sv_19), (nat_lit 1, sv_5)], [], [(nat_lit 180, nat_lit 24, sv_32)]), [], [(nat_lit 26, nat_lit 37)]),
  (nat_lit 26, nat_lit 38, nat_lit 0, ([ee_0], [(nat_lit 0, sv_19), (nat_lit 1, sv_3)], [], [(nat_lit 180, nat_lit 24, sv_32)]), [], [(nat_lit 26, nat_lit 38)]),
  (nat_lit 26, nat_lit 39, nat_lit 0, ([ee_0], [(nat_lit 0, sv_19), (nat_lit 1, sv_2)], [], [(nat_lit 180, nat_lit 24, sv_32)]), [], [(nat_lit 26, nat_lit 39)]),
  (nat_lit 26, nat_lit 40, nat_lit 0, ([ee_0], [(nat_lit 0, sv_19), (nat_lit 1, sv_133)], [], [(nat_lit 180, nat_lit 24, sv_32)]), [], [(nat_lit 26, nat_lit 40)]),
  (nat_lit 26, nat_lit 41, nat_lit 0, ([ee_0], [(nat_lit 0, sv_19), (nat_lit 1, sv_134)], [], [(nat_lit 180, nat_lit 24, sv_32)]), [], [(nat_lit 26, nat_lit 41)]),
  (nat_lit 26, nat_lit 42, nat_lit 0, ([ee_0], [(nat_lit 0, sv_19), (nat_lit 1, sv_135)], [], [(nat_lit 180, nat_lit 24, sv_32)]), [], [])]
def syl_391_7 : List LB := [(nat_lit 26, nat_lit 43, nat_lit 0, ([ee_0], [(nat_lit 0, sv_19), (nat_lit 1, sv_6)], [], [(nat_lit 180, nat_lit 24, sv_24)]), [], [(nat_lit 26, nat_lit 43)]),
  (nat_lit 26, nat_lit 44, nat_lit 0, ([ee_0], [(nat_lit 0, sv_19), (nat_lit 1, sv_5)], [], [(nat_lit 180, nat_lit 24, sv_24)]), [], [(nat_lit 26, nat_lit 44)]),
  (nat_lit 26, nat_lit 45, nat_lit 0, ([ee_0], [(nat_lit 0, sv_19), (nat_lit 1, sv_3)], [], [(nat_lit 180, nat_lit 24, sv_24)]), [], [(nat_lit 26, nat_lit 45)]),
  (nat_lit 26, nat_lit 46, nat_lit 0, ([ee_0], [(nat_lit 0, sv_19), (nat_lit 1, sv_2)], [], [(nat_lit 180, nat_lit 24, sv_24)]), [], [(nat_lit 26, nat_lit 46)]),
  (nat_lit 26, nat_lit 47, nat_lit 0, ([ee_0], [(nat_lit 0, sv_19), (nat_lit 1, sv_133)], [], [(nat_lit 180, nat_lit 24, sv_24)]), [], [(nat_lit 26, nat_lit 47)]),
  (nat_lit 26, nat_lit 48, nat_lit 0, ([ee_0], [(nat_lit 0, sv_19), (nat_lit 1, sv_134)], [], [(nat_lit 180, nat_lit 24, sv_24)]), [], [(nat_lit 26, nat_lit 48)])]
def syl_391_8 : List LB := [(nat_lit 26, nat_lit 49, nat_lit 0, ([ee_0], [(nat_lit 0, sv_19), (nat_lit 1, sv_135)], [], [(nat_lit 180, nat_lit 24, sv_24)]), [], []),
  (nat_lit 26, nat_lit 50, nat_lit 0, ([ee_0], [(nat_lit 0, sv_19), (nat_lit 1, sv_6)], [], [(nat_lit 180, nat_lit 24, sv_6)]), [], [(nat_lit 26, nat_lit 50)]),
  (nat_lit 26, nat_lit 51, nat_lit 0, ([ee_0], [(nat_lit 0, sv_19), (nat_lit 1, sv_5)], [], [(nat_lit 180, nat_lit 24, sv_6)]), [], [(nat_lit 26, nat_lit 51)]),
  (nat_lit 26, nat_lit 52, nat_lit 0, ([ee_0], [(nat_lit 0, sv_19), (nat_lit 1, sv_3)], [], [(nat_lit 180, nat_lit 24, sv_6)]), [], [(nat_lit 26, nat_lit 52)]),
  (nat_lit 26, nat_lit 53, nat_lit 0, ([ee_0], [(nat_lit 0, sv_19), (nat_lit 1, sv_2)], [], [(nat_lit 180, nat_lit 24, sv_6)]), [], [(nat_lit 26, nat_lit 53)]),
  (nat_lit 26, nat_lit 54, nat_lit 0, ([ee_0], [(nat_lit 0, sv_19), (nat_lit 1, sv_133)], [], [(nat_lit 180, nat_lit 24, sv_6)]), [], [(nat_lit 26, nat_lit 54)])]
def syl_391_9 : List LB := [(nat_lit 26, nat_lit 55, nat_lit 0, ([ee_0], [(nat_lit 0, sv_19), (nat_lit 1, sv_134)], [], [(nat_lit 180, nat_lit 24, sv_6)]), [], [(nat_lit 26, nat_lit 55)]),
  (nat_lit 26, nat_lit 56, nat_lit 0, ([ee_0], [(nat_lit 0, sv_19), (nat_lit 1, sv_135)], [], [(nat_lit 180, nat_lit 24, sv_6)]), [], [])]
def syt_391 : CO := (nat_lit 288, nat_lit 1, [ee_0], [sv_19], [], [], [(some sv_16, [ee_0], [(nat_lit 180, nat_lit 24, sv_6)], []), (some sv_6, [ee_0], [(nat_lit 180, nat_lit 24, sv_6)], []), (some sv_24, [ee_0], [(nat_lit 180, nat_lit 24, sv_24)], []), (some sv_4, [ee_0, ee_130, ee_130], [(nat_lit 180, nat_lit 24, sv_1)], [(nat_lit 2, nat_lit 180, nat_lit 24), (nat_lit 1, nat_lit 0, nat_lit 0)])], [(nat_lit 180, nat_lit 0, nat_lit 0), (nat_lit 180, nat_lit 24, nat_lit 24), (nat_lit 182, nat_lit 101, nat_lit 153)], (syl_391_0 ++ (syl_391_1 ++ (syl_391_2 ++ (syl_391_3 ++ (syl_391_4 ++ (syl_391_5 ++ (syl_391_6 ++ (syl_391_7 ++ (syl_391_8 ++ (syl_391_9)))))))))), [(nat_lit 180, nat_lit 24, nat_lit 1)], [(nat_lit 26, nat_lit 0), (nat_lit 26, nat_lit 7), (nat_lit 26, nat_lit 14), (nat_lit 26, nat_lit 21), (nat_lit 26, nat_lit 28), (nat_lit 26, nat_lit 35), (nat_lit 26, nat_lit 42), (nat_lit 26, nat_lit 49)])
set_option maxRecDepth 100000 in
theorem syp_391_0 : runL_f GG [] syt_391 4000 0 syl_391_0 = true := by decide +kernel
set_option maxRecDepth 100000 in
theorem syp_391_1 : runL_f GG [] syt_391 4000 6 syl_391_1 = true := by decide +kernel
set_option maxRecDepth 100000 in
theorem syp_391_2 : runL_f GG [] syt_391 4000 12 syl_391_2 = true := by decide +kernel
set_option maxRecDepth 100000 in
theorem syp_391_3 : runL_f GG [] syt_391 4000 18 syl_391_3 = true := by decide +kernel
set_option maxRecDepth 100000 in
theorem syp_391_4 : runL_f GG [] syt_391 4000 24 syl_391_4 = true := by decide +kernel
set_option maxRecDepth 100000 in
theorem syp_391_5 : runL_f GG [] syt_391 4000 30 syl_391_5 = true := by decide +kernel
set_option maxRecDepth 100000 in
theorem syp_391_6 : runL_f GG [] syt_391 4000 36 syl_391_6 = true := by decide +kernel
set_option maxRecDepth 100000 in
theorem syp_391_7 : runL_f GG [] syt_391 4000 42 syl_391_7 = true := by decide +kernel
set_option maxRecDepth 100000 in
theorem syp_391_8 : runL_f GG [] syt_391 4000 48 syl_391_8 = true := by decide +kernel
set_option maxRecDepth 100000 in
theorem syp_391_9 : runL_f GG [] syt_391 4000 54 syl_391_9 = true := by decide +kernel
set_option maxRecDepth 100000 in
theorem syc_391 : CoOk GG MM syt_391 := chk_okP (cs := []) (F := 4000) (fun _ h => absurd h List.not_mem_nil) (by decide +kernel) (runL_app (runL_q syp_391_0) (runL_app (runL_q syp_391_1) (runL_app (runL_q syp_391_2) (runL_app (runL_q syp_391_3) (runL_app (runL_q syp_391_4) (runL_app (runL_q syp_391_5) (runL_app (runL_q syp_391_6) (runL_app (runL_q syp_391_7) (runL_app (runL_q syp_391_8) ((runL_q syp_391_9)))))))))))
end
