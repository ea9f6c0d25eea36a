/-! ===== said, where nothing was said ===== -/
def syt_said_none : CO := (271, 1, [(0, 0, 0, 0, 0, 0), ((-2147483648), 2147483647, 0, (-2147483648), 0, 2147483647)], [(2, 180, 0), (0, 1, 0)], [(182, 154, (0, 0, 0))], [(1, 1, 0)], [(some (0, 0, (-1)), [(0, 0, 0, 0, 0, 0), ((-2147483648), 2147483647, 0, (-2147483648), 0, 2147483647)], [], [])], [(180, 0, 0)], [], [], [])
theorem hs_none : CoOk GG MM syt_said_none := chk_ok (cs := []) (F := 4000) (fun _ h => absurd h List.not_mem_nil) (by decide +kernel) (by decide +kernel)
