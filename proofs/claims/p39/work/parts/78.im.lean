/-! ===== image, restore of the class: contracts, inferred and printed by my program, checked here ===== -/
/-- X.image -/
def syt_2593 : CO := (25, 1, [(0, 0, 0, 0, 0, 0), ((-2147483648), (-1), 0, (-2147483648), 0, (-1))], [(2, 0, 0), (0, 1, 0)], [], [(1, 1, 0)], [(some (0, 0, 0), [(0, 0, 0, 0, 0, 0), ((-2147483648), (-1), 0, (-2147483648), 0, (-1))], [], [])], [], [], [], [])
set_option maxRecDepth 100000 in
theorem syc_2593 : CoOk GG MM syt_2593 := chk_ok (cs := []) (F := 4000) (fun _ h => absurd h List.not_mem_nil) (by decide +kernel) (by decide +kernel)
/-- X.image -/
def syt_2594 : CO := (25, 1, [(0, 0, 0, 0, 0, 0), (2, 2147483647, 0, 2, 0, 2147483647)], [(2, 0, 0), (0, 1, 0)], [], [(1, 1, 0)], [(some (0, 0, 0), [(0, 0, 0, 0, 0, 0), (2, 2147483647, 0, 2, 0, 2147483647)], [], [])], [], [], [], [])
set_option maxRecDepth 100000 in
theorem syc_2594 : CoOk GG MM syt_2594 := chk_ok (cs := []) (F := 4000) (fun _ h => absurd h List.not_mem_nil) (by decide +kernel) (by decide +kernel)
/-- X.restore -/
def syt_2595 : CO := (35, 1, [(0, 0, 0, 0, 0, 0), ((-2147483648), (-1), 0, (-2147483648), 0, (-1))], [(2, 0, 0), (0, 1, 0)], [], [(1, 1, 0)], [(some (0, 0, 0), [(0, 0, 0, 0, 0, 0), ((-2147483648), (-1), 0, (-2147483648), 0, (-1))], [], [])], [], [], [], [])
set_option maxRecDepth 100000 in
theorem syc_2595 : CoOk GG MM syt_2595 := chk_ok (cs := []) (F := 4000) (fun _ h => absurd h List.not_mem_nil) (by decide +kernel) (by decide +kernel)
/-- X.restore -/
def syt_2596 : CO := (35, 1, [(0, 0, 0, 0, 0, 0), (2, 2147483647, 0, 2, 0, 2147483647)], [(2, 0, 0), (0, 1, 0)], [], [(1, 1, 0)], [(some (0, 0, 0), [(0, 0, 0, 0, 0, 0), (2, 2147483647, 0, 2, 0, 2147483647)], [], [])], [], [], [], [])
set_option maxRecDepth 100000 in
theorem syc_2596 : CoOk GG MM syt_2596 := chk_ok (cs := []) (F := 4000) (fun _ h => absurd h List.not_mem_nil) (by decide +kernel) (by decide +kernel)
/-- Image.keep -/
def syt_2597 : CO := (86, 2, [(0, 0, 0, 0, 0, 0)], [(2, 132, 0), (2, 13, 0), (2, 23, 0), (2, 115, 0)], [], [], [(none, [(0, 0, 0, 0, 0, 0)], [(132, 0, (0, 0, 1))], [])], [(132, 0, 0), (133, 0, 6), (134, 0, 7), (135, 0, 7), (136, 0, 7), (137, 0, 7), (138, 0, 49), (139, 0, 8), (140, 0, 8), (141, 0, 8), (142, 0, 8), (143, 0, 3), (144, 0, 7), (145, 0, 7), (146, 0, 7), (147, 0, 7), (148, 0, 7), (149, 0, 7), (150, 0, 8), (151, 0, 1), (152, 0, 39), (153, 0, 39), (154, 0, 39)], [], [], [])
set_option maxRecDepth 100000 in
theorem syc_2597 : CoOk GG MM syt_2597 := chk_ok (cs := [syt_2520, syt_2215, syt_2521]) (F := 4000) (List.forall_mem_cons.mpr ⟨syc_2520, List.forall_mem_cons.mpr ⟨syc_2215, List.forall_mem_cons.mpr ⟨syc_2521, fun _ h => absurd h List.not_mem_nil⟩⟩⟩) (by decide +kernel) (by decide +kernel)
/-- Image.keep -/
def syt_2598 : CO := (86, 2, [(0, 0, 0, 0, 0, 0)], [(2, 132, 0), (2, 13, 0), (2, 23, 0), (2, 110, 0)], [], [], [(none, [(0, 0, 0, 0, 0, 0)], [(132, 0, (0, 0, 1))], [])], [(132, 0, 0), (133, 0, 6), (134, 0, 7), (135, 0, 7), (136, 0, 7), (137, 0, 7), (138, 0, 49), (139, 0, 8), (140, 0, 8), (141, 0, 8), (142, 0, 8), (143, 0, 3), (144, 0, 7), (145, 0, 7), (146, 0, 7), (147, 0, 7), (148, 0, 7), (149, 0, 7), (150, 0, 8), (151, 0, 1), (152, 0, 39), (153, 0, 39), (154, 0, 39)], [], [], [])
set_option maxRecDepth 100000 in
theorem syc_2598 : CoOk GG MM syt_2598 := chk_ok (cs := [syt_2520, syt_2215, syt_2216]) (F := 4000) (List.forall_mem_cons.mpr ⟨syc_2520, List.forall_mem_cons.mpr ⟨syc_2215, List.forall_mem_cons.mpr ⟨syc_2216, fun _ h => absurd h List.not_mem_nil⟩⟩⟩) (by decide +kernel) (by decide +kernel)
/-- Image.keep -/
def syt_2599 : CO := (86, 2, [(0, 0, 0, 0, 0, 0)], [(2, 132, 0), (2, 3, 0), (2, 23, 0), (2, 115, 0)], [], [], [(none, [(0, 0, 0, 0, 0, 0)], [(132, 0, (0, 0, 1))], [])], [(132, 0, 0), (133, 0, 6), (134, 0, 7), (135, 0, 7), (136, 0, 7), (137, 0, 7), (138, 0, 49), (139, 0, 8), (140, 0, 8), (141, 0, 8), (142, 0, 8), (143, 0, 3), (144, 0, 7), (145, 0, 7), (146, 0, 7), (147, 0, 7), (148, 0, 7), (149, 0, 7), (150, 0, 8), (151, 0, 1), (152, 0, 39), (153, 0, 39), (154, 0, 39)], [], [], [])
set_option maxRecDepth 100000 in
theorem syc_2599 : CoOk GG MM syt_2599 := chk_ok (cs := [syt_2214, syt_2215, syt_2521]) (F := 4000) (List.forall_mem_cons.mpr ⟨syc_2214, List.forall_mem_cons.mpr ⟨syc_2215, List.forall_mem_cons.mpr ⟨syc_2521, fun _ h => absurd h List.not_mem_nil⟩⟩⟩) (by decide +kernel) (by decide +kernel)
/-- Image.keep -/
def syt_2600 : CO := (86, 2, [(0, 0, 0, 0, 0, 0)], [(2, 132, 0), (2, 3, 0), (2, 23, 0), (2, 110, 0)], [], [], [(none, [(0, 0, 0, 0, 0, 0)], [(132, 0, (0, 0, 1))], [])], [(132, 0, 0), (133, 0, 6), (134, 0, 7), (135, 0, 7), (136, 0, 7), (137, 0, 7), (138, 0, 49), (139, 0, 8), (140, 0, 8), (141, 0, 8), (142, 0, 8), (143, 0, 3), (144, 0, 7), (145, 0, 7), (146, 0, 7), (147, 0, 7), (148, 0, 7), (149, 0, 7), (150, 0, 8), (151, 0, 1), (152, 0, 39), (153, 0, 39), (154, 0, 39)], [], [], [])
set_option maxRecDepth 100000 in
theorem syc_2600 : CoOk GG MM syt_2600 := chk_ok (cs := [syt_2214, syt_2215, syt_2216]) (F := 4000) (List.forall_mem_cons.mpr ⟨syc_2214, List.forall_mem_cons.mpr ⟨syc_2215, List.forall_mem_cons.mpr ⟨syc_2216, fun _ h => absurd h List.not_mem_nil⟩⟩⟩) (by decide +kernel) (by decide +kernel)
/-- X.image -/
def syt_2601 : CO := (25, 3, [(0, 0, 0, 0, 0, 0)], [(2, 0, 0), (0, 0, 0)], [], [], [(some (0, 0, 1), [(0, 0, 0, 0, 0, 0)], [(132, 0, (0, 0, 1))], [])], [(132, 0, 0), (133, 0, 6), (134, 0, 7), (135, 0, 7), (136, 0, 7), (137, 0, 7), (138, 0, 49), (139, 0, 8), (140, 0, 8), (141, 0, 8), (142, 0, 8), (143, 0, 3), (144, 0, 7), (145, 0, 7), (146, 0, 7), (147, 0, 7), (148, 0, 7), (149, 0, 7), (150, 0, 8), (151, 0, 1), (152, 0, 39), (153, 0, 39), (154, 0, 39)], [], [], [])
set_option maxRecDepth 100000 in
theorem syc_2601 : CoOk GG MM syt_2601 := chk_ok (cs := [syt_2597, syt_2598, syt_2599, syt_2600]) (F := 4000) (List.forall_mem_cons.mpr ⟨syc_2597, List.forall_mem_cons.mpr ⟨syc_2598, List.forall_mem_cons.mpr ⟨syc_2599, List.forall_mem_cons.mpr ⟨syc_2600, fun _ h => absurd h List.not_mem_nil⟩⟩⟩⟩) (by decide +kernel) (by decide +kernel)
/-- X.restore -/
def syt_2602 : CO := (35, 1, [(0, 0, 0, 0, 0, 0)], [(2, 0, 0), (0, 0, 0)], [(132, 0, (0, 0, 0))], [], [(some (0, 0, 0), [(0, 0, 0, 0, 0, 0)], [], [])], [], [], [], [])
set_option maxRecDepth 100000 in
theorem syc_2602 : CoOk GG MM syt_2602 := chk_ok (cs := []) (F := 4000) (fun _ h => absurd h List.not_mem_nil) (by decide +kernel) (by decide +kernel)
/-- X.restore -/
def syt_2603 : CO := (35, 3, [(0, 0, 0, 0, 0, 0)], [(2, 0, 0), (0, 0, 0)], [(132, 0, (0, 0, 1))], [], [(some (0, 0, 1), [(0, 0, 0, 0, 0, 0)], [], [])], [(3, 0, 6), (4, 0, 7), (5, 0, 7), (6, 0, 7), (7, 0, 7), (8, 0, 49), (9, 0, 8), (10, 0, 8), (11, 0, 8), (12, 0, 8), (13, 0, 6), (14, 0, 7), (15, 0, 7), (16, 0, 7), (17, 0, 7), (18, 0, 49), (19, 0, 8), (20, 0, 8), (21, 0, 8), (22, 0, 8), (23, 0, 3), (24, 0, 7), (25, 0, 7), (26, 0, 7), (27, 0, 7), (28, 0, 7), (29, 0, 7), (30, 0, 8), (39, 2, 2), (110, 0, 1), (111, 0, 39), (112, 0, 39), (113, 0, 39), (115, 0, 1), (116, 0, 39), (117, 0, 39), (118, 0, 39)], [], [], [])
set_option maxRecDepth 100000 in
theorem syc_2603 : CoOk GG MM syt_2603 := chk_ok (cs := [syt_2226, syt_2533, syt_2534, syt_2535, syt_49]) (F := 4000) (List.forall_mem_cons.mpr ⟨syc_2226, List.forall_mem_cons.mpr ⟨syc_2533, List.forall_mem_cons.mpr ⟨syc_2534, List.forall_mem_cons.mpr ⟨syc_2535, List.forall_mem_cons.mpr ⟨syc_49, fun _ h => absurd h List.not_mem_nil⟩⟩⟩⟩⟩) (by decide +kernel) (by decide +kernel)
/-- Image.keep -/
def syt_2604 : CO := (86, 2, [(0, 0, 0, 0, 0, 0)], [(2, 156, 0), (2, 13, 0), (2, 23, 0), (2, 115, 0)], [], [], [(none, [(0, 0, 0, 0, 0, 0)], [(156, 0, (0, 0, 1))], [])], [(156, 0, 0), (157, 0, 6), (158, 0, 7), (159, 0, 7), (160, 0, 7), (161, 0, 7), (162, 0, 49), (163, 0, 8), (164, 0, 8), (165, 0, 8), (166, 0, 8), (167, 0, 3), (168, 0, 7), (169, 0, 7), (170, 0, 7), (171, 0, 7), (172, 0, 7), (173, 0, 7), (174, 0, 8), (175, 0, 1), (176, 0, 39), (177, 0, 39), (178, 0, 39)], [], [], [])
set_option maxRecDepth 100000 in
theorem syc_2604 : CoOk GG MM syt_2604 := chk_ok (cs := [syt_2515, syt_2211, syt_2516]) (F := 4000) (List.forall_mem_cons.mpr ⟨syc_2515, List.forall_mem_cons.mpr ⟨syc_2211, List.forall_mem_cons.mpr ⟨syc_2516, fun _ h => absurd h List.not_mem_nil⟩⟩⟩) (by decide +kernel) (by decide +kernel)
/-- Image.keep -/
def syt_2605 : CO := (86, 2, [(0, 0, 0, 0, 0, 0)], [(2, 156, 0), (2, 13, 0), (2, 23, 0), (2, 110, 0)], [], [], [(none, [(0, 0, 0, 0, 0, 0)], [(156, 0, (0, 0, 1))], [])], [(156, 0, 0), (157, 0, 6), (158, 0, 7), (159, 0, 7), (160, 0, 7), (161, 0, 7), (162, 0, 49), (163, 0, 8), (164, 0, 8), (165, 0, 8), (166, 0, 8), (167, 0, 3), (168, 0, 7), (169, 0, 7), (170, 0, 7), (171, 0, 7), (172, 0, 7), (173, 0, 7), (174, 0, 8), (175, 0, 1), (176, 0, 39), (177, 0, 39), (178, 0, 39)], [], [], [])
set_option maxRecDepth 100000 in
theorem syc_2605 : CoOk GG MM syt_2605 := chk_ok (cs := [syt_2515, syt_2211, syt_2212]) (F := 4000) (List.forall_mem_cons.mpr ⟨syc_2515, List.forall_mem_cons.mpr ⟨syc_2211, List.forall_mem_cons.mpr ⟨syc_2212, fun _ h => absurd h List.not_mem_nil⟩⟩⟩) (by decide +kernel) (by decide +kernel)
/-- Image.keep -/
def syt_2606 : CO := (86, 2, [(0, 0, 0, 0, 0, 0)], [(2, 156, 0), (2, 3, 0), (2, 23, 0), (2, 115, 0)], [], [], [(none, [(0, 0, 0, 0, 0, 0)], [(156, 0, (0, 0, 1))], [])], [(156, 0, 0), (157, 0, 6), (158, 0, 7), (159, 0, 7), (160, 0, 7), (161, 0, 7), (162, 0, 49), (163, 0, 8), (164, 0, 8), (165, 0, 8), (166, 0, 8), (167, 0, 3), (168, 0, 7), (169, 0, 7), (170, 0, 7), (171, 0, 7), (172, 0, 7), (173, 0, 7), (174, 0, 8), (175, 0, 1), (176, 0, 39), (177, 0, 39), (178, 0, 39)], [], [], [])
set_option maxRecDepth 100000 in
theorem syc_2606 : CoOk GG MM syt_2606 := chk_ok (cs := [syt_2210, syt_2211, syt_2516]) (F := 4000) (List.forall_mem_cons.mpr ⟨syc_2210, List.forall_mem_cons.mpr ⟨syc_2211, List.forall_mem_cons.mpr ⟨syc_2516, fun _ h => absurd h List.not_mem_nil⟩⟩⟩) (by decide +kernel) (by decide +kernel)
/-- Image.keep -/
def syt_2607 : CO := (86, 2, [(0, 0, 0, 0, 0, 0)], [(2, 156, 0), (2, 3, 0), (2, 23, 0), (2, 110, 0)], [], [], [(none, [(0, 0, 0, 0, 0, 0)], [(156, 0, (0, 0, 1))], [])], [(156, 0, 0), (157, 0, 6), (158, 0, 7), (159, 0, 7), (160, 0, 7), (161, 0, 7), (162, 0, 49), (163, 0, 8), (164, 0, 8), (165, 0, 8), (166, 0, 8), (167, 0, 3), (168, 0, 7), (169, 0, 7), (170, 0, 7), (171, 0, 7), (172, 0, 7), (173, 0, 7), (174, 0, 8), (175, 0, 1), (176, 0, 39), (177, 0, 39), (178, 0, 39)], [], [], [])
set_option maxRecDepth 100000 in
theorem syc_2607 : CoOk GG MM syt_2607 := chk_ok (cs := [syt_2210, syt_2211, syt_2212]) (F := 4000) (List.forall_mem_cons.mpr ⟨syc_2210, List.forall_mem_cons.mpr ⟨syc_2211, List.forall_mem_cons.mpr ⟨syc_2212, fun _ h => absurd h List.not_mem_nil⟩⟩⟩) (by decide +kernel) (by decide +kernel)
/-- X.image -/
def syt_2608 : CO := (25, 3, [(0, 0, 0, 0, 0, 0)], [(2, 0, 0), (0, 0, 1)], [], [], [(some (0, 0, 1), [(0, 0, 0, 0, 0, 0)], [(156, 0, (0, 0, 1))], [])], [(156, 0, 0), (157, 0, 6), (158, 0, 7), (159, 0, 7), (160, 0, 7), (161, 0, 7), (162, 0, 49), (163, 0, 8), (164, 0, 8), (165, 0, 8), (166, 0, 8), (167, 0, 3), (168, 0, 7), (169, 0, 7), (170, 0, 7), (171, 0, 7), (172, 0, 7), (173, 0, 7), (174, 0, 8), (175, 0, 1), (176, 0, 39), (177, 0, 39), (178, 0, 39)], [], [], [])
set_option maxRecDepth 100000 in
theorem syc_2608 : CoOk GG MM syt_2608 := chk_ok (cs := [syt_2604, syt_2605, syt_2606, syt_2607]) (F := 4000) (List.forall_mem_cons.mpr ⟨syc_2604, List.forall_mem_cons.mpr ⟨syc_2605, List.forall_mem_cons.mpr ⟨syc_2606, List.forall_mem_cons.mpr ⟨syc_2607, fun _ h => absurd h List.not_mem_nil⟩⟩⟩⟩) (by decide +kernel) (by decide +kernel)
/-- X.restore -/
def syt_2609 : CO := (35, 1, [(0, 0, 0, 0, 0, 0)], [(2, 0, 0), (0, 0, 1)], [(156, 0, (0, 0, 0))], [], [(some (0, 0, 0), [(0, 0, 0, 0, 0, 0)], [], [])], [], [], [], [])
set_option maxRecDepth 100000 in
theorem syc_2609 : CoOk GG MM syt_2609 := chk_ok (cs := []) (F := 4000) (fun _ h => absurd h List.not_mem_nil) (by decide +kernel) (by decide +kernel)
/-- X.restore -/
def syt_2610 : CO := (35, 3, [(0, 0, 0, 0, 0, 0)], [(2, 0, 0), (0, 0, 1)], [(156, 0, (0, 0, 1))], [], [(some (0, 0, 1), [(0, 0, 0, 0, 0, 0)], [], [])], [(3, 0, 6), (4, 0, 7), (5, 0, 7), (6, 0, 7), (7, 0, 7), (8, 0, 49), (9, 0, 8), (10, 0, 8), (11, 0, 8), (12, 0, 8), (13, 0, 6), (14, 0, 7), (15, 0, 7), (16, 0, 7), (17, 0, 7), (18, 0, 49), (19, 0, 8), (20, 0, 8), (21, 0, 8), (22, 0, 8), (23, 0, 3), (24, 0, 7), (25, 0, 7), (26, 0, 7), (27, 0, 7), (28, 0, 7), (29, 0, 7), (30, 0, 8), (39, 2, 2), (110, 0, 1), (111, 0, 39), (112, 0, 39), (113, 0, 39), (115, 0, 1), (116, 0, 39), (117, 0, 39), (118, 0, 39)], [], [], [])
set_option maxRecDepth 100000 in
theorem syc_2610 : CoOk GG MM syt_2610 := chk_ok (cs := [syt_2222, syt_2528, syt_2529, syt_2530, syt_49]) (F := 4000) (List.forall_mem_cons.mpr ⟨syc_2222, List.forall_mem_cons.mpr ⟨syc_2528, List.forall_mem_cons.mpr ⟨syc_2529, List.forall_mem_cons.mpr ⟨syc_2530, List.forall_mem_cons.mpr ⟨syc_49, fun _ h => absurd h List.not_mem_nil⟩⟩⟩⟩⟩) (by decide +kernel) (by decide +kernel)
