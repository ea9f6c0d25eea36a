/-! ===== contracts, inferred and printed by my program, checked here ===== -/
/-- Sentence.measureBits -/
def syt_2189 : CO := (139, 2, [(0, 0, 0, 0, 0, 0), (0, 5, 0, 0, 0, 5)], [(2, 110, 0), (0, 1, 0), (2, 3, 0), (2, 23, 0)], [], [(1, 1, 0)], [(some (0, 0, 0), [(0, 0, 0, 0, 0, 0), (0, 5, 0, 0, 0, 5)], [], []), (some (0, 2, 0), [(0, 0, 0, 0, 0, 0), (0, 5, 0, 0, 0, 5), ((-2147483648), 2147483647, 0, (-2147483648), 0, 2147483647)], [], [(1, 0, 0)])], [], [(6, 1, 1, ([(0, 0, 0, 0, 0, 0), (0, 5, 0, 0, 0, 5), (0, 7, 0, 0, 0, 7), ((-2147483648), 2147483647, 0, (-2147483648), 0, 2147483647)], [(0, (2, 110, 0)), (1, (0, 1, 0)), (2, (2, 3, 0)), (3, (2, 23, 0)), (4, (0, 3, 0)), (5, (0, 2, 0))], [], []), [(0, 5, 0), (0, 4, 0)], [(6, 0)])], [], [(6, 0)])
set_option maxRecDepth 100000 in
theorem syc_2189 : CoOk GG MM syt_2189 := chk_ok (cs := [syt_2178, syt_2177]) (F := 4000) (List.forall_mem_cons.mpr ⟨syc_2178, List.forall_mem_cons.mpr ⟨syc_2177, fun _ h => absurd h List.not_mem_nil⟩⟩) (by decide +kernel) (by decide +kernel)
/-- Sentence.bitsOf -/
def syt_2190 : CO := (135, 4, [(0, 0, 0, 0, 0, 0), (0, 5, 0, 0, 0, 5)], [(2, 110, 0), (0, 1, 0), (2, 3, 0), (2, 23, 0)], [], [(1, 1, 0)], [(some (0, 2, 0), [(0, 0, 0, 0, 0, 0), (0, 5, 0, 0, 0, 5), ((-2147483648), 2147483647, 0, (-2147483648), 0, 2147483647)], [], [(1, 0, 0)]), (some (0, 0, 0), [(0, 0, 0, 0, 0, 0), (0, 5, 0, 0, 0, 5)], [], [])], [], [], [], [])
set_option maxRecDepth 100000 in
theorem syc_2190 : CoOk GG MM syt_2190 := chk_ok (cs := [syt_2176, syt_262, syt_263, syt_265, syt_2189]) (F := 4000) (List.forall_mem_cons.mpr ⟨syc_2176, List.forall_mem_cons.mpr ⟨syc_262, List.forall_mem_cons.mpr ⟨syc_263, List.forall_mem_cons.mpr ⟨syc_265, List.forall_mem_cons.mpr ⟨syc_2189, fun _ h => absurd h List.not_mem_nil⟩⟩⟩⟩⟩) (by decide +kernel) (by decide +kernel)
/-- Sentence.measureBits -/
def syt_2191 : CO := (139, 2, [(0, 0, 0, 0, 0, 0), (0, 6, 0, 0, 0, 6)], [(2, 110, 0), (0, 1, 0), (2, 3, 0), (2, 23, 0)], [], [(1, 1, 0)], [(some (0, 0, 0), [(0, 0, 0, 0, 0, 0), (0, 6, 0, 0, 0, 6)], [], []), (some (0, 2, 0), [(0, 0, 0, 0, 0, 0), (0, 6, 0, 0, 0, 6), ((-2147483648), 2147483647, 0, (-2147483648), 0, 2147483647)], [], [(1, 0, 0)])], [], [(6, 1, 1, ([(0, 0, 0, 0, 0, 0), (0, 6, 0, 0, 0, 6), (0, 7, 0, 0, 0, 7), ((-2147483648), 2147483647, 0, (-2147483648), 0, 2147483647)], [(0, (2, 110, 0)), (1, (0, 1, 0)), (2, (2, 3, 0)), (3, (2, 23, 0)), (4, (0, 3, 0)), (5, (0, 2, 0))], [], []), [(0, 5, 0), (0, 4, 0)], [(6, 0)])], [], [(6, 0)])
set_option maxRecDepth 100000 in
theorem syc_2191 : CoOk GG MM syt_2191 := chk_ok (cs := [syt_2178, syt_2177]) (F := 4000) (List.forall_mem_cons.mpr ⟨syc_2178, List.forall_mem_cons.mpr ⟨syc_2177, fun _ h => absurd h List.not_mem_nil⟩⟩) (by decide +kernel) (by decide +kernel)
/-- Sentence.bitsOf -/
def syt_2192 : CO := (135, 4, [(0, 0, 0, 0, 0, 0), (0, 6, 0, 0, 0, 6)], [(2, 110, 0), (0, 1, 0), (2, 3, 0), (2, 23, 0)], [], [(1, 1, 0)], [(some (0, 2, 0), [(0, 0, 0, 0, 0, 0), (0, 6, 0, 0, 0, 6), ((-2147483648), 2147483647, 0, (-2147483648), 0, 2147483647)], [], [(1, 0, 0)]), (some (0, 0, 0), [(0, 0, 0, 0, 0, 0), (0, 6, 0, 0, 0, 6)], [], [])], [], [], [], [])
set_option maxRecDepth 100000 in
theorem syc_2192 : CoOk GG MM syt_2192 := chk_ok (cs := [syt_2176, syt_262, syt_263, syt_265, syt_2191]) (F := 4000) (List.forall_mem_cons.mpr ⟨syc_2176, List.forall_mem_cons.mpr ⟨syc_262, List.forall_mem_cons.mpr ⟨syc_263, List.forall_mem_cons.mpr ⟨syc_265, List.forall_mem_cons.mpr ⟨syc_2191, fun _ h => absurd h List.not_mem_nil⟩⟩⟩⟩⟩) (by decide +kernel) (by decide +kernel)
/-- Sentence.measureBits -/
def syt_2193 : CO := (139, 2, [(0, 0, 0, 0, 0, 0), (0, 7, 0, 0, 0, 7)], [(2, 110, 0), (0, 1, 0), (2, 3, 0), (2, 23, 0)], [], [(1, 1, 0)], [(some (0, 0, 0), [(0, 0, 0, 0, 0, 0), (0, 7, 0, 0, 0, 7)], [], []), (some (0, 2, 0), [(0, 0, 0, 0, 0, 0), (0, 7, 0, 0, 0, 7), ((-2147483648), 2147483647, 0, (-2147483648), 0, 2147483647)], [], [(1, 0, 0)])], [], [(6, 1, 1, ([(0, 0, 0, 0, 0, 0), (0, 7, 0, 0, 0, 7), (0, 7, 0, 0, 0, 7), ((-2147483648), 2147483647, 0, (-2147483648), 0, 2147483647)], [(0, (2, 110, 0)), (1, (0, 1, 0)), (2, (2, 3, 0)), (3, (2, 23, 0)), (4, (0, 3, 0)), (5, (0, 2, 0))], [], []), [(0, 5, 0), (0, 4, 0)], [(6, 0)])], [], [(6, 0)])
set_option maxRecDepth 100000 in
theorem syc_2193 : CoOk GG MM syt_2193 := chk_ok (cs := [syt_2178, syt_2177]) (F := 4000) (List.forall_mem_cons.mpr ⟨syc_2178, List.forall_mem_cons.mpr ⟨syc_2177, fun _ h => absurd h List.not_mem_nil⟩⟩) (by decide +kernel) (by decide +kernel)
/-- Sentence.bitsOf -/
def syt_2194 : CO := (135, 4, [(0, 0, 0, 0, 0, 0), (0, 7, 0, 0, 0, 7)], [(2, 110, 0), (0, 1, 0), (2, 3, 0), (2, 23, 0)], [], [(1, 1, 0)], [(some (0, 2, 0), [(0, 0, 0, 0, 0, 0), (0, 7, 0, 0, 0, 7), ((-2147483648), 2147483647, 0, (-2147483648), 0, 2147483647)], [], [(1, 0, 0)]), (some (0, 0, 0), [(0, 0, 0, 0, 0, 0), (0, 7, 0, 0, 0, 7)], [], [])], [], [], [], [])
set_option maxRecDepth 100000 in
theorem syc_2194 : CoOk GG MM syt_2194 := chk_ok (cs := [syt_2176, syt_262, syt_263, syt_265, syt_2193]) (F := 4000) (List.forall_mem_cons.mpr ⟨syc_2176, List.forall_mem_cons.mpr ⟨syc_262, List.forall_mem_cons.mpr ⟨syc_263, List.forall_mem_cons.mpr ⟨syc_265, List.forall_mem_cons.mpr ⟨syc_2193, fun _ h => absurd h List.not_mem_nil⟩⟩⟩⟩⟩) (by decide +kernel) (by decide +kernel)
/-- Sentence.measureBits -/
def syt_2195 : CO := (139, 2, [(0, 0, 0, 0, 0, 0), (0, 8, 0, 0, 0, 8)], [(2, 110, 0), (0, 1, 0), (2, 3, 0), (2, 23, 0)], [], [(1, 1, 0)], [(some (0, 0, 0), [(0, 0, 0, 0, 0, 0), (0, 8, 0, 0, 0, 8)], [], []), (some (0, 2, 0), [(0, 0, 0, 0, 0, 0), (0, 8, 0, 0, 0, 8), ((-2147483648), 2147483647, 0, (-2147483648), 0, 2147483647)], [], [(1, 0, 0)])], [], [(6, 1, 1, ([(0, 0, 0, 0, 0, 0), (0, 8, 0, 0, 0, 8), (0, 7, 0, 0, 0, 7), ((-2147483648), 2147483647, 0, (-2147483648), 0, 2147483647)], [(0, (2, 110, 0)), (1, (0, 1, 0)), (2, (2, 3, 0)), (3, (2, 23, 0)), (4, (0, 3, 0)), (5, (0, 2, 0))], [], []), [(0, 5, 0), (0, 4, 0)], [(6, 0)])], [], [(6, 0)])
set_option maxRecDepth 100000 in
theorem syc_2195 : CoOk GG MM syt_2195 := chk_ok (cs := [syt_2178, syt_2177]) (F := 4000) (List.forall_mem_cons.mpr ⟨syc_2178, List.forall_mem_cons.mpr ⟨syc_2177, fun _ h => absurd h List.not_mem_nil⟩⟩) (by decide +kernel) (by decide +kernel)
/-- Sentence.bitsOf -/
def syt_2196 : CO := (135, 4, [(0, 0, 0, 0, 0, 0), (0, 8, 0, 0, 0, 8)], [(2, 110, 0), (0, 1, 0), (2, 3, 0), (2, 23, 0)], [], [(1, 1, 0)], [(some (0, 2, 0), [(0, 0, 0, 0, 0, 0), (0, 8, 0, 0, 0, 8), ((-2147483648), 2147483647, 0, (-2147483648), 0, 2147483647)], [], [(1, 0, 0)]), (some (0, 0, 0), [(0, 0, 0, 0, 0, 0), (0, 8, 0, 0, 0, 8)], [], [])], [], [], [], [])
set_option maxRecDepth 100000 in
theorem syc_2196 : CoOk GG MM syt_2196 := chk_ok (cs := [syt_2176, syt_262, syt_263, syt_265, syt_2195]) (F := 4000) (List.forall_mem_cons.mpr ⟨syc_2176, List.forall_mem_cons.mpr ⟨syc_262, List.forall_mem_cons.mpr ⟨syc_263, List.forall_mem_cons.mpr ⟨syc_265, List.forall_mem_cons.mpr ⟨syc_2195, fun _ h => absurd h List.not_mem_nil⟩⟩⟩⟩⟩) (by decide +kernel) (by decide +kernel)
/-- Sentence.measureBits -/
def syt_2197 : CO := (139, 2, [(0, 0, 0, 0, 0, 0), (0, 9, 0, 0, 0, 9)], [(2, 110, 0), (0, 1, 0), (2, 3, 0), (2, 23, 0)], [], [(1, 1, 0)], [(some (0, 0, 0), [(0, 0, 0, 0, 0, 0), (0, 9, 0, 0, 0, 9)], [], []), (some (0, 2, 0), [(0, 0, 0, 0, 0, 0), (0, 9, 0, 0, 0, 9), ((-2147483648), 2147483647, 0, (-2147483648), 0, 2147483647)], [], [(1, 0, 0)])], [], [(6, 1, 1, ([(0, 0, 0, 0, 0, 0), (0, 9, 0, 0, 0, 9), (0, 7, 0, 0, 0, 7), ((-2147483648), 2147483647, 0, (-2147483648), 0, 2147483647)], [(0, (2, 110, 0)), (1, (0, 1, 0)), (2, (2, 3, 0)), (3, (2, 23, 0)), (4, (0, 3, 0)), (5, (0, 2, 0))], [], []), [(0, 5, 0), (0, 4, 0)], [(6, 0)])], [], [(6, 0)])
set_option maxRecDepth 100000 in
theorem syc_2197 : CoOk GG MM syt_2197 := chk_ok (cs := [syt_2178, syt_2177]) (F := 4000) (List.forall_mem_cons.mpr ⟨syc_2178, List.forall_mem_cons.mpr ⟨syc_2177, fun _ h => absurd h List.not_mem_nil⟩⟩) (by decide +kernel) (by decide +kernel)
/-- Sentence.bitsOf -/
def syt_2198 : CO := (135, 4, [(0, 0, 0, 0, 0, 0), (0, 9, 0, 0, 0, 9)], [(2, 110, 0), (0, 1, 0), (2, 3, 0), (2, 23, 0)], [], [(1, 1, 0)], [(some (0, 2, 0), [(0, 0, 0, 0, 0, 0), (0, 9, 0, 0, 0, 9), ((-2147483648), 2147483647, 0, (-2147483648), 0, 2147483647)], [], [(1, 0, 0)]), (some (0, 0, 0), [(0, 0, 0, 0, 0, 0), (0, 9, 0, 0, 0, 9)], [], [])], [], [], [], [])
set_option maxRecDepth 100000 in
theorem syc_2198 : CoOk GG MM syt_2198 := chk_ok (cs := [syt_2176, syt_262, syt_263, syt_265, syt_2197]) (F := 4000) (List.forall_mem_cons.mpr ⟨syc_2176, List.forall_mem_cons.mpr ⟨syc_262, List.forall_mem_cons.mpr ⟨syc_263, List.forall_mem_cons.mpr ⟨syc_265, List.forall_mem_cons.mpr ⟨syc_2197, fun _ h => absurd h List.not_mem_nil⟩⟩⟩⟩⟩) (by decide +kernel) (by decide +kernel)
/-- Sentence.measureBits -/
def syt_2199 : CO := (139, 2, [(0, 0, 0, 0, 0, 0), (0, 20, 0, 0, 0, 20)], [(2, 110, 0), (0, 1, 0), (2, 3, 0), (2, 23, 0)], [], [(1, 1, 0)], [(some (0, 0, 0), [(0, 0, 0, 0, 0, 0), (0, 20, 0, 0, 0, 20)], [], []), (some (0, 2, 0), [(0, 0, 0, 0, 0, 0), (0, 20, 0, 0, 0, 20), ((-2147483648), 2147483647, 0, (-2147483648), 0, 2147483647)], [], [(1, 0, 0)])], [], [(6, 1, 1, ([(0, 0, 0, 0, 0, 0), (0, 20, 0, 0, 0, 20), (0, 7, 0, 0, 0, 7), ((-2147483648), 2147483647, 0, (-2147483648), 0, 2147483647)], [(0, (2, 110, 0)), (1, (0, 1, 0)), (2, (2, 3, 0)), (3, (2, 23, 0)), (4, (0, 3, 0)), (5, (0, 2, 0))], [], []), [(0, 5, 0), (0, 4, 0)], [(6, 0)])], [], [(6, 0)])
set_option maxRecDepth 100000 in
theorem syc_2199 : CoOk GG MM syt_2199 := chk_ok (cs := [syt_2178, syt_2177]) (F := 4000) (List.forall_mem_cons.mpr ⟨syc_2178, List.forall_mem_cons.mpr ⟨syc_2177, fun _ h => absurd h List.not_mem_nil⟩⟩) (by decide +kernel) (by decide +kernel)
/-- Sentence.bitsOf -/
def syt_2200 : CO := (135, 4, [(0, 0, 0, 0, 0, 0), (0, 20, 0, 0, 0, 20)], [(2, 110, 0), (0, 1, 0), (2, 3, 0), (2, 23, 0)], [], [(1, 1, 0)], [(some (0, 2, 0), [(0, 0, 0, 0, 0, 0), (0, 20, 0, 0, 0, 20), ((-2147483648), 2147483647, 0, (-2147483648), 0, 2147483647)], [], [(1, 0, 0)]), (some (0, 0, 0), [(0, 0, 0, 0, 0, 0), (0, 20, 0, 0, 0, 20)], [], [])], [], [], [], [])
set_option maxRecDepth 100000 in
theorem syc_2200 : CoOk GG MM syt_2200 := chk_ok (cs := [syt_2176, syt_262, syt_263, syt_265, syt_2199]) (F := 4000) (List.forall_mem_cons.mpr ⟨syc_2176, List.forall_mem_cons.mpr ⟨syc_262, List.forall_mem_cons.mpr ⟨syc_263, List.forall_mem_cons.mpr ⟨syc_265, List.forall_mem_cons.mpr ⟨syc_2199, fun _ h => absurd h List.not_mem_nil⟩⟩⟩⟩⟩) (by decide +kernel) (by decide +kernel)
/-- Sentence.measureBits -/
def syt_2201 : CO := (139, 2, [(0, 0, 0, 0, 0, 0), (0, 21, 0, 0, 0, 21)], [(2, 110, 0), (0, 1, 0), (2, 3, 0), (2, 23, 0)], [], [(1, 1, 0)], [(some (0, 0, 0), [(0, 0, 0, 0, 0, 0), (0, 21, 0, 0, 0, 21)], [], []), (some (0, 2, 0), [(0, 0, 0, 0, 0, 0), (0, 21, 0, 0, 0, 21), ((-2147483648), 2147483647, 0, (-2147483648), 0, 2147483647)], [], [(1, 0, 0)])], [], [(6, 1, 1, ([(0, 0, 0, 0, 0, 0), (0, 21, 0, 0, 0, 21), (0, 7, 0, 0, 0, 7), ((-2147483648), 2147483647, 0, (-2147483648), 0, 2147483647)], [(0, (2, 110, 0)), (1, (0, 1, 0)), (2, (2, 3, 0)), (3, (2, 23, 0)), (4, (0, 3, 0)), (5, (0, 2, 0))], [], []), [(0, 5, 0), (0, 4, 0)], [(6, 0)])], [], [(6, 0)])
set_option maxRecDepth 100000 in
theorem syc_2201 : CoOk GG MM syt_2201 := chk_ok (cs := [syt_2178, syt_2177]) (F := 4000) (List.forall_mem_cons.mpr ⟨syc_2178, List.forall_mem_cons.mpr ⟨syc_2177, fun _ h => absurd h List.not_mem_nil⟩⟩) (by decide +kernel) (by decide +kernel)
/-- Sentence.bitsOf -/
def syt_2202 : CO := (135, 4, [(0, 0, 0, 0, 0, 0), (0, 21, 0, 0, 0, 21)], [(2, 110, 0), (0, 1, 0), (2, 3, 0), (2, 23, 0)], [], [(1, 1, 0)], [(some (0, 2, 0), [(0, 0, 0, 0, 0, 0), (0, 21, 0, 0, 0, 21), ((-2147483648), 2147483647, 0, (-2147483648), 0, 2147483647)], [], [(1, 0, 0)]), (some (0, 0, 0), [(0, 0, 0, 0, 0, 0), (0, 21, 0, 0, 0, 21)], [], [])], [], [], [], [])
set_option maxRecDepth 100000 in
theorem syc_2202 : CoOk GG MM syt_2202 := chk_ok (cs := [syt_2176, syt_262, syt_263, syt_265, syt_2201]) (F := 4000) (List.forall_mem_cons.mpr ⟨syc_2176, List.forall_mem_cons.mpr ⟨syc_262, List.forall_mem_cons.mpr ⟨syc_263, List.forall_mem_cons.mpr ⟨syc_265, List.forall_mem_cons.mpr ⟨syc_2201, fun _ h => absurd h List.not_mem_nil⟩⟩⟩⟩⟩) (by decide +kernel) (by decide +kernel)
/-- Sentence.measureBits -/
def syt_2203 : CO := (139, 2, [(0, 0, 0, 0, 0, 0), (0, 30, 0, 0, 0, 30)], [(2, 110, 0), (0, 1, 0), (2, 3, 0), (2, 23, 0)], [], [(1, 1, 0)], [(some (0, 0, 0), [(0, 0, 0, 0, 0, 0), (0, 30, 0, 0, 0, 30)], [], []), (some (0, 2, 0), [(0, 0, 0, 0, 0, 0), (0, 30, 0, 0, 0, 30), ((-2147483648), 2147483647, 0, (-2147483648), 0, 2147483647)], [], [(1, 0, 0)])], [], [(6, 1, 1, ([(0, 0, 0, 0, 0, 0), (0, 30, 0, 0, 0, 30), (0, 7, 0, 0, 0, 7), ((-2147483648), 2147483647, 0, (-2147483648), 0, 2147483647)], [(0, (2, 110, 0)), (1, (0, 1, 0)), (2, (2, 3, 0)), (3, (2, 23, 0)), (4, (0, 3, 0)), (5, (0, 2, 0))], [], []), [(0, 5, 0), (0, 4, 0)], [(6, 0)])], [], [(6, 0)])
set_option maxRecDepth 100000 in
theorem syc_2203 : CoOk GG MM syt_2203 := chk_ok (cs := [syt_2178, syt_2177]) (F := 4000) (List.forall_mem_cons.mpr ⟨syc_2178, List.forall_mem_cons.mpr ⟨syc_2177, fun _ h => absurd h List.not_mem_nil⟩⟩) (by decide +kernel) (by decide +kernel)
/-- Sentence.bitsOf -/
def syt_2204 : CO := (135, 4, [(0, 0, 0, 0, 0, 0), (0, 30, 0, 0, 0, 30)], [(2, 110, 0), (0, 1, 0), (2, 3, 0), (2, 23, 0)], [], [(1, 1, 0)], [(some (0, 2, 0), [(0, 0, 0, 0, 0, 0), (0, 30, 0, 0, 0, 30), ((-2147483648), 2147483647, 0, (-2147483648), 0, 2147483647)], [], [(1, 0, 0)]), (some (0, 0, 0), [(0, 0, 0, 0, 0, 0), (0, 30, 0, 0, 0, 30)], [], [])], [], [], [], [])
set_option maxRecDepth 100000 in
theorem syc_2204 : CoOk GG MM syt_2204 := chk_ok (cs := [syt_2176, syt_262, syt_263, syt_265, syt_2203]) (F := 4000) (List.forall_mem_cons.mpr ⟨syc_2176, List.forall_mem_cons.mpr ⟨syc_262, List.forall_mem_cons.mpr ⟨syc_263, List.forall_mem_cons.mpr ⟨syc_265, List.forall_mem_cons.mpr ⟨syc_2203, fun _ h => absurd h List.not_mem_nil⟩⟩⟩⟩⟩) (by decide +kernel) (by decide +kernel)
/-- Sentence.measureBits -/
def syt_2205 : CO := (139, 2, [(0, 0, 0, 0, 0, 0), (0, 39, 0, 0, 0, 39)], [(2, 110, 0), (0, 1, 0), (2, 3, 0), (2, 23, 0)], [], [(1, 1, 0)], [(some (0, 0, 0), [(0, 0, 0, 0, 0, 0), (0, 39, 0, 0, 0, 39)], [], []), (some (0, 2, 0), [(0, 0, 0, 0, 0, 0), (0, 39, 0, 0, 0, 39), ((-2147483648), 2147483647, 0, (-2147483648), 0, 2147483647)], [], [(1, 0, 0)])], [], [(6, 1, 1, ([(0, 0, 0, 0, 0, 0), (0, 39, 0, 0, 0, 39), (0, 7, 0, 0, 0, 7), ((-2147483648), 2147483647, 0, (-2147483648), 0, 2147483647)], [(0, (2, 110, 0)), (1, (0, 1, 0)), (2, (2, 3, 0)), (3, (2, 23, 0)), (4, (0, 3, 0)), (5, (0, 2, 0))], [], []), [(0, 5, 0), (0, 4, 0)], [(6, 0)])], [], [(6, 0)])
set_option maxRecDepth 100000 in
theorem syc_2205 : CoOk GG MM syt_2205 := chk_ok (cs := [syt_2178, syt_2177]) (F := 4000) (List.forall_mem_cons.mpr ⟨syc_2178, List.forall_mem_cons.mpr ⟨syc_2177, fun _ h => absurd h List.not_mem_nil⟩⟩) (by decide +kernel) (by decide +kernel)
/-- Sentence.bitsOf -/
def syt_2206 : CO := (135, 4, [(0, 0, 0, 0, 0, 0), (0, 39, 0, 0, 0, 39)], [(2, 110, 0), (0, 1, 0), (2, 3, 0), (2, 23, 0)], [], [(1, 1, 0)], [(some (0, 2, 0), [(0, 0, 0, 0, 0, 0), (0, 39, 0, 0, 0, 39), ((-2147483648), 2147483647, 0, (-2147483648), 0, 2147483647)], [], [(1, 0, 0)]), (some (0, 0, 0), [(0, 0, 0, 0, 0, 0), (0, 39, 0, 0, 0, 39)], [], [])], [], [], [], [])
set_option maxRecDepth 100000 in
theorem syc_2206 : CoOk GG MM syt_2206 := chk_ok (cs := [syt_2176, syt_262, syt_263, syt_265, syt_2205]) (F := 4000) (List.forall_mem_cons.mpr ⟨syc_2176, List.forall_mem_cons.mpr ⟨syc_262, List.forall_mem_cons.mpr ⟨syc_263, List.forall_mem_cons.mpr ⟨syc_265, List.forall_mem_cons.mpr ⟨syc_2205, fun _ h => absurd h List.not_mem_nil⟩⟩⟩⟩⟩) (by decide +kernel) (by decide +kernel)
/-- Sentence.trueOf -/
def syt_2207 : CO := (147, 5, [(0, 0, 0, 0, 0, 0)], [(2, 110, 0), (2, 3, 0), (2, 23, 0)], [], [], [(some (0, 0, 0), [(0, 0, 0, 0, 0, 0)], [], []), (some (0, 1, 0), [(0, 0, 0, 0, 0, 0), ((-2147483648), 2147483647, 0, (-2147483648), 0, 2147483647)], [], [(1, 0, 0)])], [(114, 0, 39)], [(11, 1, 1, ([(0, 0, 0, 0, 0, 0), (0, 40, 0, 0, 0, 40), (0, 127, 0, 0, 0, 127), (0, 40, 0, 0, 0, 40)], [(0, (2, 110, 0)), (1, (2, 3, 0)), (2, (2, 23, 0)), (3, (0, 2, 0)), (4, (0, 3, 0)), (5, (0, 1, 0))], [], []), [(0, 5, 0), (0, 3, 0), (0, 4, 0)], [(11, 0)])], [], [(11, 0)])
set_option maxRecDepth 100000 in
theorem syc_2207 : CoOk GG MM syt_2207 := chk_ok (cs := [syt_490, syt_2180, syt_2182, syt_2184, syt_2186, syt_2188, syt_2190, syt_2192, syt_2194, syt_2196, syt_2198, syt_2200, syt_2202, syt_2204, syt_2206]) (F := 4000) (List.forall_mem_cons.mpr ⟨syc_490, List.forall_mem_cons.mpr ⟨syc_2180, List.forall_mem_cons.mpr ⟨syc_2182, List.forall_mem_cons.mpr ⟨syc_2184, List.forall_mem_cons.mpr ⟨syc_2186, List.forall_mem_cons.mpr ⟨syc_2188, List.forall_mem_cons.mpr ⟨syc_2190, List.forall_mem_cons.mpr ⟨syc_2192, List.forall_mem_cons.mpr ⟨syc_2194, List.forall_mem_cons.mpr ⟨syc_2196, List.forall_mem_cons.mpr ⟨syc_2198, List.forall_mem_cons.mpr ⟨syc_2200, List.forall_mem_cons.mpr ⟨syc_2202, List.forall_mem_cons.mpr ⟨syc_2204, List.forall_mem_cons.mpr ⟨syc_2206, fun _ h => absurd h List.not_mem_nil⟩⟩⟩⟩⟩⟩⟩⟩⟩⟩⟩⟩⟩⟩⟩) (by decide +kernel) (by decide +kernel)
/-- X.bitAt -/
def syt_2208 : CO := (6, 1, [(0, 0, 0, 0, 0, 0), ((-2147483648), 2147483647, 0, (-2147483648), 0, 2147483647)], [(0, 0, 0), (0, 1, 0)], [], [(1, 1, 0)], [(some (0, 2, 0), [(0, 0, 0, 0, 0, 0), ((-2147483648), 2147483647, 0, (-2147483648), 0, 2147483647), (0, 20, 0, 0, 0, 20)], [], [(1, 0, 0)]), (some (0, 0, (-1)), [(0, 0, 0, 0, 0, 0), ((-2147483648), 2147483647, 0, (-2147483648), 0, 2147483647)], [], [])], [], [(4, 1, 1, ([(0, 0, 0, 0, 0, 0), ((-2147483648), 2147483647, 0, (-2147483648), 0, 2147483647), (0, 21, 0, 0, 0, 21), ((-2147483648), 2147483647, 0, (-2147483648), 0, 2147483647)], [(0, (0, 0, 0)), (2, (0, 3, 0)), (3, (0, 2, 0))], [], []), [(0, 3, 0), (0, 2, 0)], [(4, 0)])], [], [(4, 0)])
set_option maxRecDepth 100000 in
theorem syc_2208 : CoOk GG MM syt_2208 := chk_ok (cs := []) (F := 4000) (fun _ h => absurd h List.not_mem_nil) (by decide +kernel) (by decide +kernel)
/-- X.said -/
def syt_2209 : CO := (37, 6, [(0, 0, 0, 0, 0, 0), ((-2147483648), 2147483647, 0, (-2147483648), 0, 2147483647)], [(2, 0, 0), (0, 1, 0)], [(0, 1, (2, 3, 0)), (0, 2, (2, 13, 0)), (0, 7, (2, 110, 0)), (0, 8, (2, 115, 0))], [(1, 1, 0)], [(some (0, 0, (-1)), [(0, 0, 0, 0, 0, 0), ((-2147483648), 2147483647, 0, (-2147483648), 0, 2147483647)], [(0, 1, (2, 3, 0)), (0, 2, (2, 13, 0)), (0, 7, (2, 110, 0)), (0, 8, (2, 115, 0))], []), (some (0, 2, 0), [(0, 0, 0, 0, 0, 0), ((-2147483648), 2147483647, 0, (-2147483648), 0, 2147483647), (0, 63, 0, 0, 0, 63)], [(0, 1, (2, 3, 0)), (0, 2, (2, 13, 0)), (0, 7, (2, 110, 0)), (0, 8, (2, 115, 0))], [(1, 0, 0)])], [(114, 0, 39)], [], [], [])
set_option maxRecDepth 100000 in
theorem syc_2209 : CoOk GG MM syt_2209 := chk_ok (cs := [syt_2208, syt_480, syt_2207, syt_455]) (F := 4000) (List.forall_mem_cons.mpr ⟨syc_2208, List.forall_mem_cons.mpr ⟨syc_480, List.forall_mem_cons.mpr ⟨syc_2207, List.forall_mem_cons.mpr ⟨syc_455, fun _ h => absurd h List.not_mem_nil⟩⟩⟩⟩) (by decide +kernel) (by decide +kernel)
/-- Duchy.copyFrom -/
def syt_2210 : CO := (62, 1, [(0, 0, 0, 0, 0, 0)], [(2, 157, 0), (2, 3, 0)], [], [], [(none, [(0, 0, 0, 0, 0, 0)], [], [])], [(157, 0, 6), (158, 0, 7), (159, 0, 7), (160, 0, 7), (161, 0, 7), (162, 0, 49), (163, 0, 8), (164, 0, 8), (165, 0, 8), (166, 0, 8)], [], [], [])
set_option maxRecDepth 100000 in
theorem syc_2210 : CoOk GG MM syt_2210 := chk_ok (cs := []) (F := 4000) (fun _ h => absurd h List.not_mem_nil) (by decide +kernel) (by decide +kernel)
/-- Life.copyFrom -/
def syt_2211 : CO := (94, 1, [(0, 0, 0, 0, 0, 0)], [(2, 167, 0), (2, 23, 0)], [], [], [(none, [(0, 0, 0, 0, 0, 0)], [], [])], [(167, 0, 3), (168, 0, 7), (169, 0, 7), (170, 0, 7), (171, 0, 7), (172, 0, 7), (173, 0, 7), (174, 0, 8)], [], [], [])
set_option maxRecDepth 100000 in
theorem syc_2211 : CoOk GG MM syt_2211 := chk_ok (cs := []) (F := 4000) (fun _ h => absurd h List.not_mem_nil) (by decide +kernel) (by decide +kernel)
/-- Sentence.copyFrom -/
def syt_2212 : CO := (137, 1, [(0, 0, 0, 0, 0, 0)], [(2, 175, 0), (2, 110, 0)], [], [], [(none, [(0, 0, 0, 0, 0, 0)], [], [])], [(175, 0, 1), (176, 0, 39), (177, 0, 39), (178, 0, 39)], [(18, 1, 1, ([(0, 0, 0, 0, 0, 0), (0, 40, 0, 0, 0, 40)], [(0, (2, 175, 0)), (1, (2, 110, 0)), (2, (0, 1, 0))], [], []), [(0, 2, 0)], [(18, 0)])], [], [(18, 0)])
set_option maxRecDepth 100000 in
theorem syc_2212 : CoOk GG MM syt_2212 := chk_ok (cs := []) (F := 4000) (fun _ h => absurd h List.not_mem_nil) (by decide +kernel) (by decide +kernel)
/-- Image.keep -/
def syt_2213 : CO := (86, 2, [(0, 0, 0, 0, 0, 0)], [(2, 156, 0), (2, 3, 0), (2, 23, 0), (2, 110, 0)], [], [], [(none, [(0, 0, 0, 0, 0, 0)], [], [])], [(156, 0, 0), (157, 0, 6), (158, 0, 7), (159, 0, 7), (160, 0, 7), (161, 0, 7), (162, 0, 49), (163, 0, 8), (164, 0, 8), (165, 0, 8), (166, 0, 8), (167, 0, 3), (168, 0, 7), (169, 0, 7), (170, 0, 7), (171, 0, 7), (172, 0, 7), (173, 0, 7), (174, 0, 8), (175, 0, 1), (176, 0, 39), (177, 0, 39), (178, 0, 39)], [], [], [])
set_option maxRecDepth 100000 in
theorem syc_2213 : CoOk GG MM syt_2213 := chk_ok (cs := [syt_2210, syt_2211, syt_2212]) (F := 4000) (List.forall_mem_cons.mpr ⟨syc_2210, List.forall_mem_cons.mpr ⟨syc_2211, List.forall_mem_cons.mpr ⟨syc_2212, fun _ h => absurd h List.not_mem_nil⟩⟩⟩) (by decide +kernel) (by decide +kernel)
/-- Duchy.copyFrom -/
def syt_2214 : CO := (62, 1, [(0, 0, 0, 0, 0, 0)], [(2, 133, 0), (2, 3, 0)], [], [], [(none, [(0, 0, 0, 0, 0, 0)], [], [])], [(133, 0, 6), (134, 0, 7), (135, 0, 7), (136, 0, 7), (137, 0, 7), (138, 0, 49), (139, 0, 8), (140, 0, 8), (141, 0, 8), (142, 0, 8)], [], [], [])
set_option maxRecDepth 100000 in
theorem syc_2214 : CoOk GG MM syt_2214 := chk_ok (cs := []) (F := 4000) (fun _ h => absurd h List.not_mem_nil) (by decide +kernel) (by decide +kernel)
/-- Life.copyFrom -/
def syt_2215 : CO := (94, 1, [(0, 0, 0, 0, 0, 0)], [(2, 143, 0), (2, 23, 0)], [], [], [(none, [(0, 0, 0, 0, 0, 0)], [], [])], [(143, 0, 3), (144, 0, 7), (145, 0, 7), (146, 0, 7), (147, 0, 7), (148, 0, 7), (149, 0, 7), (150, 0, 8)], [], [], [])
set_option maxRecDepth 100000 in
theorem syc_2215 : CoOk GG MM syt_2215 := chk_ok (cs := []) (F := 4000) (fun _ h => absurd h List.not_mem_nil) (by decide +kernel) (by decide +kernel)
/-- Sentence.copyFrom -/
def syt_2216 : CO := (137, 1, [(0, 0, 0, 0, 0, 0)], [(2, 151, 0), (2, 110, 0)], [], [], [(none, [(0, 0, 0, 0, 0, 0)], [], [])], [(151, 0, 1), (152, 0, 39), (153, 0, 39), (154, 0, 39)], [(18, 1, 1, ([(0, 0, 0, 0, 0, 0), (0, 40, 0, 0, 0, 40)], [(0, (2, 151, 0)), (1, (2, 110, 0)), (2, (0, 1, 0))], [], []), [(0, 2, 0)], [(18, 0)])], [], [(18, 0)])
set_option maxRecDepth 100000 in
theorem syc_2216 : CoOk GG MM syt_2216 := chk_ok (cs := []) (F := 4000) (fun _ h => absurd h List.not_mem_nil) (by decide +kernel) (by decide +kernel)
/-- Image.keep -/
def syt_2217 : CO := (86, 2, [(0, 0, 0, 0, 0, 0)], [(2, 132, 0), (2, 3, 0), (2, 23, 0), (2, 110, 0)], [], [], [(none, [(0, 0, 0, 0, 0, 0)], [], [])], [(132, 0, 0), (133, 0, 6), (134, 0, 7), (135, 0, 7), (136, 0, 7), (137, 0, 7), (138, 0, 49), (139, 0, 8), (140, 0, 8), (141, 0, 8), (142, 0, 8), (143, 0, 3), (144, 0, 7), (145, 0, 7), (146, 0, 7), (147, 0, 7), (148, 0, 7), (149, 0, 7), (150, 0, 8), (151, 0, 1), (152, 0, 39), (153, 0, 39), (154, 0, 39)], [], [], [])
set_option maxRecDepth 100000 in
theorem syc_2217 : CoOk GG MM syt_2217 := chk_ok (cs := [syt_2214, syt_2215, syt_2216]) (F := 4000) (List.forall_mem_cons.mpr ⟨syc_2214, List.forall_mem_cons.mpr ⟨syc_2215, List.forall_mem_cons.mpr ⟨syc_2216, fun _ h => absurd h List.not_mem_nil⟩⟩⟩) (by decide +kernel) (by decide +kernel)
/-- X.image -/
def syt_2218 : CO := (25, 3, [(0, 0, 0, 0, 0, 0), ((-2147483648), 2147483647, 0, (-2147483648), 0, 2147483647)], [(2, 0, 0), (0, 1, 0)], [(0, 1, (2, 3, 0)), (0, 2, (2, 13, 0)), (0, 7, (2, 110, 0)), (0, 8, (2, 115, 0))], [(1, 1, 0)], [(some (0, 0, 0), [(0, 0, 0, 0, 0, 0), ((-2147483648), 2147483647, 0, (-2147483648), 0, 2147483647)], [(0, 1, (2, 3, 0)), (0, 2, (2, 13, 0)), (0, 7, (2, 110, 0)), (0, 8, (2, 115, 0))], []), (some (0, 0, 1), [(0, 0, 0, 0, 0, 0), (0, 1, 0, 0, 0, 1)], [(0, 1, (2, 3, 0)), (0, 2, (2, 13, 0)), (0, 7, (2, 110, 0)), (0, 8, (2, 115, 0))], [])], [(132, 0, 0), (133, 0, 6), (134, 0, 7), (135, 0, 7), (136, 0, 7), (137, 0, 7), (138, 0, 49), (139, 0, 8), (140, 0, 8), (141, 0, 8), (142, 0, 8), (143, 0, 3), (144, 0, 7), (145, 0, 7), (146, 0, 7), (147, 0, 7), (148, 0, 7), (149, 0, 7), (150, 0, 8), (151, 0, 1), (152, 0, 39), (153, 0, 39), (154, 0, 39), (156, 0, 0), (157, 0, 6), (158, 0, 7), (159, 0, 7), (160, 0, 7), (161, 0, 7), (162, 0, 49), (163, 0, 8), (164, 0, 8), (165, 0, 8), (166, 0, 8), (167, 0, 3), (168, 0, 7), (169, 0, 7), (170, 0, 7), (171, 0, 7), (172, 0, 7), (173, 0, 7), (174, 0, 8), (175, 0, 1), (176, 0, 39), (177, 0, 39), (178, 0, 39)], [], [], [])
set_option maxRecDepth 100000 in
theorem syc_2218 : CoOk GG MM syt_2218 := chk_ok (cs := [syt_2213, syt_2217]) (F := 4000) (List.forall_mem_cons.mpr ⟨syc_2213, List.forall_mem_cons.mpr ⟨syc_2217, fun _ h => absurd h List.not_mem_nil⟩⟩) (by decide +kernel) (by decide +kernel)
/-- Duchy.copyFrom -/
def syt_2219 : CO := (62, 1, [(0, 0, 0, 0, 0, 0)], [(2, 3, 0), (2, 157, 0)], [], [], [(none, [(0, 0, 0, 0, 0, 0)], [], [])], [(3, 0, 6), (4, 0, 7), (5, 0, 7), (6, 0, 7), (7, 0, 7), (8, 0, 49), (9, 0, 8), (10, 0, 8), (11, 0, 8), (12, 0, 8)], [], [], [])
set_option maxRecDepth 100000 in
theorem syc_2219 : CoOk GG MM syt_2219 := chk_ok (cs := []) (F := 4000) (fun _ h => absurd h List.not_mem_nil) (by decide +kernel) (by decide +kernel)
/-- Life.copyFrom -/
def syt_2220 : CO := (94, 1, [(0, 0, 0, 0, 0, 0)], [(2, 23, 0), (2, 167, 0)], [], [], [(none, [(0, 0, 0, 0, 0, 0)], [], [])], [(23, 0, 3), (24, 0, 7), (25, 0, 7), (26, 0, 7), (27, 0, 7), (28, 0, 7), (29, 0, 7), (30, 0, 8)], [], [], [])
set_option maxRecDepth 100000 in
theorem syc_2220 : CoOk GG MM syt_2220 := chk_ok (cs := []) (F := 4000) (fun _ h => absurd h List.not_mem_nil) (by decide +kernel) (by decide +kernel)
/-- Sentence.copyFrom -/
def syt_2221 : CO := (137, 1, [(0, 0, 0, 0, 0, 0)], [(2, 110, 0), (2, 175, 0)], [], [], [(none, [(0, 0, 0, 0, 0, 0)], [], [])], [(110, 0, 1), (111, 0, 39), (112, 0, 39), (113, 0, 39)], [(18, 1, 1, ([(0, 0, 0, 0, 0, 0), (0, 40, 0, 0, 0, 40)], [(0, (2, 110, 0)), (1, (2, 175, 0)), (2, (0, 1, 0))], [], []), [(0, 2, 0)], [(18, 0)])], [], [(18, 0)])
set_option maxRecDepth 100000 in
theorem syc_2221 : CoOk GG MM syt_2221 := chk_ok (cs := []) (F := 4000) (fun _ h => absurd h List.not_mem_nil) (by decide +kernel) (by decide +kernel)
/-- Image.giveBack -/
def syt_2222 : CO := (85, 2, [(0, 0, 0, 0, 0, 0)], [(2, 156, 0), (2, 3, 0), (2, 23, 0), (2, 110, 0)], [], [], [(none, [(0, 0, 0, 0, 0, 0)], [], [])], [(3, 0, 6), (4, 0, 7), (5, 0, 7), (6, 0, 7), (7, 0, 7), (8, 0, 49), (9, 0, 8), (10, 0, 8), (11, 0, 8), (12, 0, 8), (23, 0, 3), (24, 0, 7), (25, 0, 7), (26, 0, 7), (27, 0, 7), (28, 0, 7), (29, 0, 7), (30, 0, 8), (110, 0, 1), (111, 0, 39), (112, 0, 39), (113, 0, 39)], [], [], [])
set_option maxRecDepth 100000 in
theorem syc_2222 : CoOk GG MM syt_2222 := chk_ok (cs := [syt_2219, syt_2220, syt_2221]) (F := 4000) (List.forall_mem_cons.mpr ⟨syc_2219, List.forall_mem_cons.mpr ⟨syc_2220, List.forall_mem_cons.mpr ⟨syc_2221, fun _ h => absurd h List.not_mem_nil⟩⟩⟩) (by decide +kernel) (by decide +kernel)
/-- Duchy.copyFrom -/
def syt_2223 : CO := (62, 1, [(0, 0, 0, 0, 0, 0)], [(2, 3, 0), (2, 133, 0)], [], [], [(none, [(0, 0, 0, 0, 0, 0)], [], [])], [(3, 0, 6), (4, 0, 7), (5, 0, 7), (6, 0, 7), (7, 0, 7), (8, 0, 49), (9, 0, 8), (10, 0, 8), (11, 0, 8), (12, 0, 8)], [], [], [])
set_option maxRecDepth 100000 in
theorem syc_2223 : CoOk GG MM syt_2223 := chk_ok (cs := []) (F := 4000) (fun _ h => absurd h List.not_mem_nil) (by decide +kernel) (by decide +kernel)
/-- Life.copyFrom -/
def syt_2224 : CO := (94, 1, [(0, 0, 0, 0, 0, 0)], [(2, 23, 0), (2, 143, 0)], [], [], [(none, [(0, 0, 0, 0, 0, 0)], [], [])], [(23, 0, 3), (24, 0, 7), (25, 0, 7), (26, 0, 7), (27, 0, 7), (28, 0, 7), (29, 0, 7), (30, 0, 8)], [], [], [])
set_option maxRecDepth 100000 in
theorem syc_2224 : CoOk GG MM syt_2224 := chk_ok (cs := []) (F := 4000) (fun _ h => absurd h List.not_mem_nil) (by decide +kernel) (by decide +kernel)
/-- Sentence.copyFrom -/
def syt_2225 : CO := (137, 1, [(0, 0, 0, 0, 0, 0)], [(2, 110, 0), (2, 151, 0)], [], [], [(none, [(0, 0, 0, 0, 0, 0)], [], [])], [(110, 0, 1), (111, 0, 39), (112, 0, 39), (113, 0, 39)], [(18, 1, 1, ([(0, 0, 0, 0, 0, 0), (0, 40, 0, 0, 0, 40)], [(0, (2, 110, 0)), (1, (2, 151, 0)), (2, (0, 1, 0))], [], []), [(0, 2, 0)], [(18, 0)])], [], [(18, 0)])
set_option maxRecDepth 100000 in
theorem syc_2225 : CoOk GG MM syt_2225 := chk_ok (cs := []) (F := 4000) (fun _ h => absurd h List.not_mem_nil) (by decide +kernel) (by decide +kernel)
/-- Image.giveBack -/
def syt_2226 : CO := (85, 2, [(0, 0, 0, 0, 0, 0)], [(2, 132, 0), (2, 3, 0), (2, 23, 0), (2, 110, 0)], [], [], [(none, [(0, 0, 0, 0, 0, 0)], [], [])], [(3, 0, 6), (4, 0, 7), (5, 0, 7), (6, 0, 7), (7, 0, 7), (8, 0, 49), (9, 0, 8), (10, 0, 8), (11, 0, 8), (12, 0, 8), (23, 0, 3), (24, 0, 7), (25, 0, 7), (26, 0, 7), (27, 0, 7), (28, 0, 7), (29, 0, 7), (30, 0, 8), (110, 0, 1), (111, 0, 39), (112, 0, 39), (113, 0, 39)], [], [], [])
set_option maxRecDepth 100000 in
theorem syc_2226 : CoOk GG MM syt_2226 := chk_ok (cs := [syt_2223, syt_2224, syt_2225]) (F := 4000) (List.forall_mem_cons.mpr ⟨syc_2223, List.forall_mem_cons.mpr ⟨syc_2224, List.forall_mem_cons.mpr ⟨syc_2225, fun _ h => absurd h List.not_mem_nil⟩⟩⟩) (by decide +kernel) (by decide +kernel)
/-- X.restore -/
def syt_2227 : CO := (35, 3, [(0, 0, 0, 0, 0, 0), ((-2147483648), 2147483647, 0, (-2147483648), 0, 2147483647)], [(2, 0, 0), (0, 1, 0)], [(0, 1, (2, 3, 0)), (0, 2, (2, 13, 0)), (0, 7, (2, 110, 0)), (0, 8, (2, 115, 0))], [(1, 1, 0)], [(some (0, 0, 0), [(0, 0, 0, 0, 0, 0), ((-2147483648), 2147483647, 0, (-2147483648), 0, 2147483647)], [(0, 1, (2, 3, 0)), (0, 2, (2, 13, 0)), (0, 7, (2, 110, 0)), (0, 8, (2, 115, 0))], []), (some (0, 0, 1), [(0, 0, 0, 0, 0, 0), (0, 1, 0, 0, 0, 1)], [(0, 1, (2, 3, 0)), (0, 2, (2, 13, 0)), (0, 7, (2, 110, 0)), (0, 8, (2, 115, 0))], [])], [(3, 0, 6), (4, 0, 7), (5, 0, 7), (6, 0, 7), (7, 0, 7), (8, 0, 49), (9, 0, 8), (10, 0, 8), (11, 0, 8), (12, 0, 8), (23, 0, 3), (24, 0, 7), (25, 0, 7), (26, 0, 7), (27, 0, 7), (28, 0, 7), (29, 0, 7), (30, 0, 8), (39, 2, 2), (110, 0, 1), (111, 0, 39), (112, 0, 39), (113, 0, 39)], [], [], [])
set_option maxRecDepth 100000 in
theorem syc_2227 : CoOk GG MM syt_2227 := chk_ok (cs := [syt_2222, syt_2226, syt_49]) (F := 4000) (List.forall_mem_cons.mpr ⟨syc_2222, List.forall_mem_cons.mpr ⟨syc_2226, List.forall_mem_cons.mpr ⟨syc_49, fun _ h => absurd h List.not_mem_nil⟩⟩⟩) (by decide +kernel) (by decide +kernel)
/-- X.count -/
def syt_2228 : CO := (9, 1, [(0, 0, 0, 0, 0, 0), ((-2147483648), 2147483647, 0, (-2147483648), 0, 2147483647)], [(2, 0, 0), (0, 1, 0)], [(0, 1, (2, 3, 0)), (0, 2, (2, 13, 0)), (0, 7, (2, 110, 0)), (0, 8, (2, 115, 0))], [(1, 1, 0)], [(some (0, 2, 0), [(0, 0, 0, 0, 0, 0), (0, 5, 0, 0, 0, 5), ((-2147483648), 2147483647, 0, (-2147483648), 0, 2147483647)], [(0, 1, (2, 3, 0)), (0, 2, (2, 13, 0)), (0, 7, (2, 110, 0)), (0, 8, (2, 115, 0))], [(1, 0, 0)]), (some (0, 0, (-1)), [(0, 0, 0, 0, 0, 0), ((-2147483648), 2147483647, 0, (-2147483648), 0, 2147483647)], [(0, 1, (2, 3, 0)), (0, 2, (2, 13, 0)), (0, 7, (2, 110, 0)), (0, 8, (2, 115, 0))], [])], [], [], [], [])
set_option maxRecDepth 100000 in
theorem syc_2228 : CoOk GG MM syt_2228 := chk_ok (cs := []) (F := 4000) (fun _ h => absurd h List.not_mem_nil) (by decide +kernel) (by decide +kernel)
/-- M.count -/
def syt_2229 : CO := (186, 1, [(0, 0, 0, 0, 0, 0), ((-2147483648), 2147483647, 0, (-2147483648), 0, 2147483647)], [(2, 180, 0), (0, 1, 0)], [], [(1, 1, 0)], [(some (0, 2, 0), [(0, 0, 0, 0, 0, 0), (0, 5, 0, 0, 0, 5), (0, 940, 0, 0, 0, 940)], [], [(1, 0, 0)]), (some (0, 0, (-1)), [(0, 0, 0, 0, 0, 0), ((-2147483648), 2147483647, 0, (-2147483648), 0, 2147483647)], [], [])], [(180, 0, 0)], [], [], [])
set_option maxRecDepth 100000 in
theorem syc_2229 : CoOk GG MM syt_2229 := chk_ok (cs := []) (F := 4000) (fun _ h => absurd h List.not_mem_nil) (by decide +kernel) (by decide +kernel)
