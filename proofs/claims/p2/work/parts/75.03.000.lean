/-! ===== contracts, inferred and printed by my program, checked here ===== -/
/-- M.restore -/
def syt_3882 : CO := (269, 2, [(0, 0, 0, 0, 0, 0)], [(2, 180, 0), (0, 0, 0)], [(190, 0, (0, 0, 0))], [], [(some (0, 0, 0), [(0, 0, 0, 0, 0, 0)], [], [])], [(180, 0, 0)], [], [], [])
set_option maxRecDepth 100000 in
theorem syc_3882 : CoOk GG MM syt_3882 := chk_ok (cs := [syt_3879]) (F := 4000) (List.forall_mem_cons.mpr ⟨syc_3879, fun _ h => absurd h List.not_mem_nil⟩) (by decide +kernel) (by decide +kernel)
