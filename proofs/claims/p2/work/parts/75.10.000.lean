/-! ===== contracts, inferred and printed by my program, checked here ===== -/
/-- M.restore -/
def syt_3890 : CO := (269, 2, [(0, 0, 0, 0, 0, 0), (2, 2147483647, 0, 2, 0, 2147483647)], [(2, 180, 0), (0, 1, 0)], [], [(1, 1, 0)], [(some (0, 0, 0), [(0, 0, 0, 0, 0, 0), (2, 2147483647, 0, 2, 0, 2147483647)], [], [])], [(180, 0, 0)], [], [], [])
set_option maxRecDepth 100000 in
theorem syc_3890 : CoOk GG MM syt_3890 := chk_ok (cs := [syt_3840]) (F := 4000) (List.forall_mem_cons.mpr ⟨syc_3840, fun _ h => absurd h List.not_mem_nil⟩) (by decide +kernel) (by decide +kernel)
