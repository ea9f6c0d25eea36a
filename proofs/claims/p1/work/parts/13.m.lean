set_option maxRecDepth 100000 in
theorem me85 : ev_me MM 85 0 = true := ev_me_mk (by decide +kernel) gw7 gw5
set_option maxRecDepth 100000 in
theorem me46 : ev_me MM 46 0 = true := ev_me_mk (by decide +kernel) gw14 gw12
set_option maxRecDepth 100000 in
theorem me55 : ev_me MM 55 0 = true := ev_me_mk (by decide +kernel) gw22 gw20
set_option maxRecDepth 100000 in
theorem me72 : ev_me MM 72 0 = true := ev_me_mk (by decide +kernel) gw30 gw28
set_option maxRecDepth 100000 in
theorem me43 : ev_me MM 43 0 = true := ev_me_mk (by decide +kernel) gw37 gw35
set_option maxRecDepth 100000 in
theorem me76 : ev_me MM 76 0 = true := ev_me_mk (by decide +kernel) gw44 gw42
set_option maxRecDepth 100000 in
theorem me70 : ev_me MM 70 0 = true := ev_me_mk (by decide +kernel) gw52 gw50
set_option maxRecDepth 100000 in
theorem me67 : ev_me MM 67 0 = true := ev_me_mk (by decide +kernel) gw59 gw57
set_option maxRecDepth 100000 in
theorem me84 : ev_me MM 84 0 = true := ev_me_mk (by decide +kernel) gw66 gw64
set_option maxRecDepth 100000 in
theorem me53 : ev_me MM 53 0 = true := ev_me_mk (by decide +kernel) gw73 gw71
set_option maxRecDepth 100000 in
theorem me26 : ev_me MM 26 1 = true := ev_me_mk (by decide +kernel) gw82 gw83
set_option maxRecDepth 100000 in
theorem me69 : ev_me MM 69 2 = true := ev_me_mk (by decide +kernel) gw87 gw57
set_option maxRecDepth 100000 in
theorem me45 : ev_me MM 45 2 = true := ev_me_mk (by decide +kernel) gw91 gw35
set_option maxRecDepth 100000 in
theorem me38 : ev_me MM 38 0 = true := ev_me_mk (by decide +kernel) gw95 gw83
set_option maxRecDepth 100000 in
theorem me58 : ev_me MM 58 1 = true := ev_me_mk (by decide +kernel) gw99 gw20
set_option maxRecDepth 100000 in
theorem me44 : ev_me MM 44 2 = true := ev_me_mk (by decide +kernel) gw103 gw35
set_option maxRecDepth 100000 in
theorem me74 : ev_me MM 74 1 = true := ev_me_mk (by decide +kernel) gw107 gw28
set_option maxRecDepth 100000 in
theorem me59 : ev_me MM 59 0 = true := ev_me_mk (by decide +kernel) gw119 gw20
set_option maxRecDepth 100000 in
theorem me64 : ev_me MM 64 2 = true := ev_me_mk (by decide +kernel) gw127 gw20
set_option maxRecDepth 100000 in
theorem me25 : ev_me MM 25 1 = true := ev_me_mk (by decide +kernel) gw131 gw83
set_option maxRecDepth 100000 in
theorem me52 : ev_me MM 52 1 = true := ev_me_mk (by decide +kernel) gw135 gw12
set_option maxRecDepth 100000 in
theorem me57 : ev_me MM 57 1 = true := ev_me_mk (by decide +kernel) gw140 gw20
set_option maxRecDepth 100000 in
theorem me73 : ev_me MM 73 0 = true := ev_me_mk (by decide +kernel) gw144 gw28
set_option maxRecDepth 100000 in
theorem me78 : ev_me MM 78 0 = true := ev_me_mk (by decide +kernel) gw148 gw42
set_option maxRecDepth 100000 in
theorem me89 : ev_me MM 89 1 = true := ev_me_mk (by decide +kernel) gw152 gw5
set_option maxRecDepth 100000 in
theorem me5 : ev_me MM 5 2 = true := ev_me_mk (by decide +kernel) gw155 gw83
set_option maxRecDepth 100000 in
theorem me50 : ev_me MM 50 0 = true := ev_me_mk (by decide +kernel) gw159 gw12
set_option maxRecDepth 100000 in
theorem me160 : ev_me MM 160 1 = true := ev_me_mk (by decide +kernel) gw162 gw163
set_option maxRecDepth 100000 in
theorem me54 : ev_me MM 54 3 = true := ev_me_mk (by decide +kernel) gw167 gw71
set_option maxRecDepth 100000 in
theorem me62 : ev_me MM 62 0 = true := ev_me_mk (by decide +kernel) gw172 gw20
set_option maxRecDepth 100000 in
theorem me66 : ev_me MM 66 0 = true := ev_me_mk (by decide +kernel) gw177 gw20
set_option maxRecDepth 100000 in
theorem me65 : ev_me MM 65 1 = true := ev_me_mk (by decide +kernel) gw181 gw20
set_option maxRecDepth 100000 in
theorem me56 : ev_me MM 56 0 = true := ev_me_mk (by decide +kernel) gw185 gw20
set_option maxRecDepth 100000 in
theorem me71 : ev_me MM 71 1 = true := ev_me_mk (by decide +kernel) gw191 gw50
set_option maxRecDepth 100000 in
theorem me82 : ev_me MM 82 2 = true := ev_me_mk (by decide +kernel) gw197 gw42
set_option maxRecDepth 100000 in
theorem me75 : ev_me MM 75 1 = true := ev_me_mk (by decide +kernel) gw204 gw28
set_option maxRecDepth 100000 in
theorem me88 : ev_me MM 88 1 = true := ev_me_mk (by decide +kernel) gw223 gw5
set_option maxRecDepth 100000 in
theorem me51 : ev_me MM 51 0 = true := ev_me_mk (by decide +kernel) gw239 gw12
set_option maxRecDepth 100000 in
theorem me47 : ev_me MM 47 0 = true := ev_me_mk (by decide +kernel) gw254 gw12
set_option maxRecDepth 100000 in
theorem me48 : ev_me MM 48 0 = true := ev_me_mk (by decide +kernel) gw259 gw12
set_option maxRecDepth 100000 in
theorem me49 : ev_me MM 49 1 = true := ev_me_mk (by decide +kernel) gw275 gw12
set_option maxRecDepth 100000 in
theorem me79 : ev_me MM 79 1 = true := ev_me_mk (by decide +kernel) gw280 gw42
set_option maxRecDepth 100000 in
theorem me60 : ev_me MM 60 1 = true := ev_me_mk (by decide +kernel) gw299 gw20
set_option maxRecDepth 100000 in
theorem me63 : ev_me MM 63 1 = true := ev_me_mk (by decide +kernel) gw304 gw20
set_option maxRecDepth 100000 in
theorem me61 : ev_me MM 61 1 = true := ev_me_mk (by decide +kernel) gw309 gw20
set_option maxRecDepth 100000 in
theorem me68 : ev_me MM 68 2 = true := ev_me_mk (by decide +kernel) gw324 gw57
set_option maxRecDepth 100000 in
theorem me83 : ev_me MM 83 3 = true := ev_me_mk (by decide +kernel) gw352 gw42
set_option maxRecDepth 100000 in
theorem me80 : ev_me MM 80 3 = true := ev_me_mk (by decide +kernel) gw356 gw42
set_option maxRecDepth 100000 in
theorem me81 : ev_me MM 81 3 = true := ev_me_mk (by decide +kernel) gw362 gw42
set_option maxRecDepth 100000 in
theorem me87 : ev_me MM 87 1 = true := ev_me_mk (by decide +kernel) gw366 gw5
set_option maxRecDepth 100000 in
theorem me77 : ev_me MM 77 1 = true := ev_me_mk (by decide +kernel) gw370 gw42
set_option maxRecDepth 100000 in
theorem me90 : ev_me MM 90 1 = true := ev_me_mk (by decide +kernel) gw374 gw5
set_option maxRecDepth 100000 in
theorem me86 : ev_me MM 86 0 = true := ev_me_mk (by decide +kernel) gw395 gw5
set_option maxRecDepth 100000 in
theorem me151 : ev_me MM 151 0 = true := ev_me_mk (by decide +kernel) gw425 gw426
set_option maxRecDepth 100000 in
theorem me125 : ev_me MM 125 1 = true := ev_me_mk (by decide +kernel) gw431 gw426
set_option maxRecDepth 100000 in
theorem me93 : ev_me MM 93 5 = true := ev_me_mk (by decide +kernel) gw439 gw426
set_option maxRecDepth 100000 in
theorem me154 : ev_me MM 154 0 = true := ev_me_mk (by decide +kernel) gw443 gw426
set_option maxRecDepth 100000 in
theorem me116 : ev_me MM 116 0 = true := ev_me_mk (by decide +kernel) gw450 gw426
set_option maxRecDepth 100000 in
theorem me159 : ev_me MM 159 2 = true := ev_me_mk (by decide +kernel) gw455 gw426
set_option maxRecDepth 100000 in
theorem me123 : ev_me MM 123 3 = true := ev_me_mk (by decide +kernel) gw460 gw426
set_option maxRecDepth 100000 in
theorem me96 : ev_me MM 96 1 = true := ev_me_mk (by decide +kernel) gw464 gw426
set_option maxRecDepth 100000 in
theorem me130 : ev_me MM 130 0 = true := ev_me_mk (by decide +kernel) gw469 gw426
set_option maxRecDepth 100000 in
theorem me129 : ev_me MM 129 0 = true := ev_me_mk (by decide +kernel) gw473 gw426
set_option maxRecDepth 100000 in
theorem me152 : ev_me MM 152 1 = true := ev_me_mk (by decide +kernel) gw478 gw426
set_option maxRecDepth 100000 in
theorem me150 : ev_me MM 150 0 = true := ev_me_mk (by decide +kernel) gw484 gw426
set_option maxRecDepth 100000 in
theorem me138 : ev_me MM 138 1 = true := ev_me_mk (by decide +kernel) gw488 gw426
set_option maxRecDepth 100000 in
theorem me122 : ev_me MM 122 1 = true := ev_me_mk (by decide +kernel) gw492 gw426
set_option maxRecDepth 100000 in
theorem me102 : ev_me MM 102 1 = true := ev_me_mk (by decide +kernel) gw497 gw426
set_option maxRecDepth 100000 in
theorem me119 : ev_me MM 119 2 = true := ev_me_mk (by decide +kernel) gw501 gw426
set_option maxRecDepth 100000 in
theorem me99 : ev_me MM 99 1 = true := ev_me_mk (by decide +kernel) gw504 gw426
set_option maxRecDepth 100000 in
theorem me124 : ev_me MM 124 1 = true := ev_me_mk (by decide +kernel) gw508 gw426
set_option maxRecDepth 100000 in
theorem me127 : ev_me MM 127 1 = true := ev_me_mk (by decide +kernel) gw512 gw426
set_option maxRecDepth 100000 in
theorem me153 : ev_me MM 153 2 = true := ev_me_mk (by decide +kernel) gw516 gw426
set_option maxRecDepth 100000 in
theorem me131 : ev_me MM 131 2 = true := ev_me_mk (by decide +kernel) gw520 gw426
set_option maxRecDepth 100000 in
theorem me134 : ev_me MM 134 0 = true := ev_me_mk (by decide +kernel) gw524 gw426
set_option maxRecDepth 100000 in
theorem me143 : ev_me MM 143 0 = true := ev_me_mk (by decide +kernel) gw528 gw426
set_option maxRecDepth 100000 in
theorem me142 : ev_me MM 142 0 = true := ev_me_mk (by decide +kernel) gw532 gw426
set_option maxRecDepth 100000 in
theorem me140 : ev_me MM 140 0 = true := ev_me_mk (by decide +kernel) gw536 gw426
set_option maxRecDepth 100000 in
theorem me126 : ev_me MM 126 1 = true := ev_me_mk (by decide +kernel) gw540 gw426
set_option maxRecDepth 100000 in
theorem me128 : ev_me MM 128 1 = true := ev_me_mk (by decide +kernel) gw544 gw426
set_option maxRecDepth 100000 in
theorem me94 : ev_me MM 94 1 = true := ev_me_mk (by decide +kernel) gw548 gw426
set_option maxRecDepth 100000 in
theorem me141 : ev_me MM 141 0 = true := ev_me_mk (by decide +kernel) gw555 gw426
