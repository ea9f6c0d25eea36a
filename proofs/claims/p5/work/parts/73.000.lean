/-! ===== said, where nothing was said ===== -/
def syt_said_none : CO := (nat_lit 271, nat_lit 1, [ee_0, ee_1], [sv_19, sv_1], [(nat_lit 182, nat_lit 154, sv_6)], [(nat_lit 1, nat_lit 1, nat_lit 0)], [(some sv_16, [ee_0, ee_1], [], [])], [(nat_lit 180, nat_lit 0, nat_lit 0)], [], [], [])
theorem hs_none : CoOk GG MM syt_said_none := chk_okF (cs := []) (F := 4000) (cs_n) (by decide +kernel) (by decide +kernel)
