/-! ===== contracts, inferred and printed by my program, checked here ===== -/
/-- M.restore -/
def syt_3889 : CO := (269, 2, [(0, 0, 0, 0, 0, 0), ((-2147483648), (-1), 0, (-2147483648), 0, (-1))], [(2, 180, 0), (0, 1, 0)], [], [(1, 1, 0)], [(some (0, 0, 0), [(0, 0, 0, 0, 0, 0), ((-2147483648), (-1), 0, (-2147483648), 0, (-1))], [], [])], [(180, 0, 0)], [], [], [])
set_option maxRecDepth 100000 in
theorem syc_3889 : CoOk GG MM syt_3889 := chk_ok (cs := [syt_3836]) (F := 4000) (List.forall_mem_cons.mpr ⟨syc_3836, fun _ h => absurd h List.not_mem_nil⟩) (by decide +kernel) (by decide +kernel)
