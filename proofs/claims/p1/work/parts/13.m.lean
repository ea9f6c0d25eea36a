set_option maxRecDepth 100000 in
theorem me85 : ev_me MM 85 0 = true := ev_me_mk (by decide +kernel) gw7 gw5
set_option maxRecDepth 100000 in
theorem me46 : ev_me MM 46 0 = true := ev_me_mk (by decide +kernel) gw14 gw12
set_option maxRecDepth 100000 in
theorem me55 : ev_me MM 55 0 = true := ev_me_mk (by decide +kernel) gw22 gw20
set_option maxRecDepth 100000 in
theorem me72 : ev_me MM 72 0 = true := ev_me_mk (by decide +kernel) gw30 gw28
set_option maxRecDepth 100000 in
theorem me43 : ev_me MM 43 0 = true := ev_me_mk (by decide +kernel) gw37 gw35
set_option maxRecDepth 100000 in
theorem me76 : ev_me MM 76 0 = true := ev_me_mk (by decide +kernel) gw44 gw42
set_option maxRecDepth 100000 in
theorem me70 : ev_me MM 70 0 = true := ev_me_mk (by decide +kernel) gw52 gw50
set_option maxRecDepth 100000 in
theorem me67 : ev_me MM 67 0 = true := ev_me_mk (by decide +kernel) gw59 gw57
set_option maxRecDepth 100000 in
theorem me84 : ev_me MM 84 0 = true := ev_me_mk (by decide +kernel) gw66 gw64
set_option maxRecDepth 100000 in
theorem me53 : ev_me MM 53 0 = true := ev_me_mk (by decide +kernel) gw73 gw71
set_option maxRecDepth 100000 in
theorem me26 : ev_me MM 26 1 = true := ev_me_mk (by decide +kernel) gw82 gw83
set_option maxRecDepth 100000 in
theorem me69 : ev_me MM 69 2 = true := ev_me_mk (by decide +kernel) gw87 gw57
set_option maxRecDepth 100000 in
theorem me45 : ev_me MM 45 2 = true := ev_me_mk (by decide +kernel) gw91 gw35
set_option maxRecDepth 100000 in
theorem me38 : ev_me MM 38 0 = true := ev_me_mk (by decide +kernel) gw95 gw83
set_option maxRecDepth 100000 in
theorem me58 : ev_me MM 58 1 = true := ev_me_mk (by decide +kernel) gw99 gw20
set_option maxRecDepth 100000 in
theorem me44 : ev_me MM 44 2 = true := ev_me_mk (by decide +kernel) gw103 gw35
set_option maxRecDepth 100000 in
theorem me74 : ev_me MM 74 1 = true := ev_me_mk (by decide +kernel) gw107 gw28
set_option maxRecDepth 100000 in
theorem me59 : ev_me MM 59 0 = true := ev_me_mk (by decide +kernel) gw119 gw20
set_option maxRecDepth 100000 in
theorem me64 : ev_me MM 64 2 = true := ev_me_mk (by decide +kernel) gw127 gw20
set_option maxRecDepth 100000 in
theorem me25 : ev_me MM 25 1 = true := ev_me_mk (by decide +kernel) gw131 gw83
set_option maxRecDepth 100000 in
theorem me52 : ev_me MM 52 1 = true := ev_me_mk (by decide +kernel) gw135 gw12
set_option maxRecDepth 100000 in
theorem me57 : ev_me MM 57 1 = true := ev_me_mk (by decide +kernel) gw140 gw20
set_option maxRecDepth 100000 in
theorem me73 : ev_me MM 73 0 = true := ev_me_mk (by decide +kernel) gw144 gw28
set_option maxRecDepth 100000 in
theorem me78 : ev_me MM 78 0 = true := ev_me_mk (by decide +kernel) gw148 gw42
set_option maxRecDepth 100000 in
theorem me89 : ev_me MM 89 1 = true := ev_me_mk (by decide +kernel) gw152 gw5
set_option maxRecDepth 100000 in
theorem me5 : ev_me MM 5 2 = true := ev_me_mk (by decide +kernel) gw155 gw83
set_option maxRecDepth 100000 in
theorem me50 : ev_me MM 50 0 = true := ev_me_mk (by decide +kernel) gw159 gw12
set_option maxRecDepth 100000 in
theorem me160 : ev_me MM 160 1 = true := ev_me_mk (by decide +kernel) gw162 gw163
set_option maxRecDepth 100000 in
theorem me54 : ev_me MM 54 3 = true := ev_me_mk (by decide +kernel) gw167 gw71
set_option maxRecDepth 100000 in
theorem me62 : ev_me MM 62 0 = true := ev_me_mk (by decide +kernel) gw172 gw20
set_option maxRecDepth 100000 in
theorem me66 : ev_me MM 66 0 = true := ev_me_mk (by decide +kernel) gw177 gw20
set_option maxRecDepth 100000 in
theorem me65 : ev_me MM 65 1 = true := ev_me_mk (by decide +kernel) gw181 gw20
set_option maxRecDepth 100000 in
theorem me56 : ev_me MM 56 0 = true := ev_me_mk (by decide +kernel) gw185 gw20
set_option maxRecDepth 100000 in
theorem me71 : ev_me MM 71 1 = true := ev_me_mk (by decide +kernel) gw191 gw50
set_option maxRecDepth 100000 in
theorem me82 : ev_me MM 82 2 = true := ev_me_mk (by decide +kernel) gw197 gw42
set_option maxRecDepth 100000 in
theorem me75 : ev_me MM 75 1 = true := ev_me_mk (by decide +kernel) gw204 gw28
set_option maxRecDepth 100000 in
theorem me88 : ev_me MM 88 1 = true := ev_me_mk (by decide +kernel) gw223 gw5
set_option maxRecDepth 100000 in
theorem me51 : ev_me MM 51 0 = true := ev_me_mk (by decide +kernel) gw239 gw12
set_option maxRecDepth 100000 in
theorem me47 : ev_me MM 47 0 = true := ev_me_mk (by decide +kernel) gw254 gw12
set_option maxRecDepth 100000 in
theorem me48 : ev_me MM 48 0 = true := ev_me_mk (by decide +kernel) gw259 gw12
set_option maxRecDepth 100000 in
theorem me49 : ev_me MM 49 1 = true := ev_me_mk (by decide +kernel) gw275 gw12
set_option maxRecDepth 100000 in
theorem me79 : ev_me MM 79 1 = true := ev_me_mk (by decide +kernel) gw280 gw42
set_option maxRecDepth 100000 in
theorem me60 : ev_me MM 60 1 = true := ev_me_mk (by decide +kernel) gw299 gw20
set_option maxRecDepth 100000 in
theorem me63 : ev_me MM 63 1 = true := ev_me_mk (by decide +kernel) gw304 gw20
set_option maxRecDepth 100000 in
theorem me61 : ev_me MM 61 1 = true := ev_me_mk (by decide +kernel) gw309 gw20
set_option maxRecDepth 100000 in
theorem me68 : ev_me MM 68 2 = true := ev_me_mk (by decide +kernel) gw324 gw57
set_option maxRecDepth 100000 in
theorem me83 : ev_me MM 83 3 = true := ev_me_mk (by decide +kernel) gw352 gw42
set_option maxRecDepth 100000 in
theorem me80 : ev_me MM 80 3 = true := ev_me_mk (by decide +kernel) gw356 gw42
set_option maxRecDepth 100000 in
theorem me81 : ev_me MM 81 3 = true := ev_me_mk (by decide +kernel) gw362 gw42
set_option maxRecDepth 100000 in
theorem me87 : ev_me MM 87 1 = true := ev_me_mk (by decide +kernel) gw366 gw5
set_option maxRecDepth 100000 in
theorem me77 : ev_me MM 77 1 = true := ev_me_mk (by decide +kernel) gw370 gw42
set_option maxRecDepth 100000 in
theorem me90 : ev_me MM 90 1 = true := ev_me_mk (by decide +kernel) gw374 gw5
set_option maxRecDepth 100000 in
theorem me86 : ev_me MM 86 0 = true := ev_me_mk (by decide +kernel) gw395 gw5
set_option maxRecDepth 100000 in
theorem me151 : ev_me MM 151 0 = true := ev_me_mk (by decide +kernel) gw425 gw426
set_option maxRecDepth 100000 in
theorem me125 : ev_me MM 125 1 = true := ev_me_mk (by decide +kernel) gw431 gw426
set_option maxRecDepth 100000 in
theorem me93 : ev_me MM 93 5 = true := ev_me_mk (by decide +kernel) gw439 gw426
set_option maxRecDepth 100000 in
theorem me154 : ev_me MM 154 0 = true := ev_me_mk (by decide +kernel) gw443 gw426
set_option maxRecDepth 100000 in
theorem me116 : ev_me MM 116 0 = true := ev_me_mk (by decide +kernel) gw450 gw426
set_option maxRecDepth 100000 in
theorem me159 : ev_me MM 159 2 = true := ev_me_mk (by decide +kernel) gw455 gw426
set_option maxRecDepth 100000 in
theorem me123 : ev_me MM 123 3 = true := ev_me_mk (by decide +kernel) gw460 gw426
set_option maxRecDepth 100000 in
theorem me96 : ev_me MM 96 1 = true := ev_me_mk (by decide +kernel) gw464 gw426
set_option maxRecDepth 100000 in
theorem me130 : ev_me MM 130 0 = true := ev_me_mk (by decide +kernel) gw469 gw426
set_option maxRecDepth 100000 in
theorem me129 : ev_me MM 129 0 = true := ev_me_mk (by decide +kernel) gw473 gw426
set_option maxRecDepth 100000 in
theorem me152 : ev_me MM 152 1 = true := ev_me_mk (by decide +kernel) gw478 gw426
set_option maxRecDepth 100000 in
theorem me150 : ev_me MM 150 0 = true := ev_me_mk (by decide +kernel) gw484 gw426
set_option maxRecDepth 100000 in
theorem me138 : ev_me MM 138 1 = true := ev_me_mk (by decide +kernel) gw488 gw426
set_option maxRecDepth 100000 in
theorem me122 : ev_me MM 122 1 = true := ev_me_mk (by decide +kernel) gw492 gw426
set_option maxRecDepth 100000 in
theorem me102 : ev_me MM 102 1 = true := ev_me_mk (by decide +kernel) gw497 gw426
set_option maxRecDepth 100000 in
theorem me119 : ev_me MM 119 2 = true := ev_me_mk (by decide +kernel) gw501 gw426
set_option maxRecDepth 100000 in
theorem me99 : ev_me MM 99 1 = true := ev_me_mk (by decide +kernel) gw504 gw426
set_option maxRecDepth 100000 in
theorem me124 : ev_me MM 124 1 = true := ev_me_mk (by decide +kernel) gw508 gw426
set_option maxRecDepth 100000 in
theorem me127 : ev_me MM 127 1 = true := ev_me_mk (by decide +kernel) gw512 gw426
set_option maxRecDepth 100000 in
theorem me153 : ev_me MM 153 2 = true := ev_me_mk (by decide +kernel) gw516 gw426
set_option maxRecDepth 100000 in
theorem me131 : ev_me MM 131 2 = true := ev_me_mk (by decide +kernel) gw520 gw426
set_option maxRecDepth 100000 in
theorem me134 : ev_me MM 134 0 = true := ev_me_mk (by decide +kernel) gw524 gw426
set_option maxRecDepth 100000 in
theorem me143 : ev_me MM 143 0 = true := ev_me_mk (by decide +kernel) gw528 gw426
set_option maxRecDepth 100000 in
theorem me142 : ev_me MM 142 0 = true := ev_me_mk (by decide +kernel) gw532 gw426
set_option maxRecDepth 100000 in
theorem me140 : ev_me MM 140 0 = true := ev_me_mk (by decide +kernel) gw536 gw426
set_option maxRecDepth 100000 in
theorem me126 : ev_me MM 126 1 = true := ev_me_mk (by decide +kernel) gw540 gw426
set_option maxRecDepth 100000 in
theorem me128 : ev_me MM 128 1 = true := ev_me_mk (by decide +kernel) gw544 gw426
set_option maxRecDepth 100000 in
theorem me94 : ev_me MM 94 1 = true := ev_me_mk (by decide +kernel) gw548 gw426
set_option maxRecDepth 100000 in
theorem me141 : ev_me MM 141 0 = true := ev_me_mk (by decide +kernel) gw555 gw426
set_option maxRecDepth 100000 in
theorem me0 : ev_me MM 0 0 = true := ev_me_mk (by decide +kernel) gw563 gw83
set_option maxRecDepth 100000 in
theorem me91 : ev_me MM 91 0 = true := ev_me_mk (by decide +kernel) gw568 gw426
set_option maxRecDepth 100000 in
theorem me17 : ev_me MM 17 5 = true := ev_me_mk (by decide +kernel) gw572 gw83
set_option maxRecDepth 100000 in
theorem me112 : ev_me MM 112 5 = true := ev_me_mk (by decide +kernel) gw576 gw426
set_option maxRecDepth 100000 in
theorem me15 : ev_me MM 15 1 = true := ev_me_mk (by decide +kernel) gw580 gw83
set_option maxRecDepth 100000 in
theorem me110 : ev_me MM 110 1 = true := ev_me_mk (by decide +kernel) gw584 gw426
set_option maxRecDepth 100000 in
theorem me13 : ev_me MM 13 0 = true := ev_me_mk (by decide +kernel) gw588 gw83
set_option maxRecDepth 100000 in
theorem me108 : ev_me MM 108 0 = true := ev_me_mk (by decide +kernel) gw592 gw426
set_option maxRecDepth 100000 in
theorem me16 : ev_me MM 16 0 = true := ev_me_mk (by decide +kernel) gw596 gw83
set_option maxRecDepth 100000 in
theorem me111 : ev_me MM 111 0 = true := ev_me_mk (by decide +kernel) gw600 gw426
set_option maxRecDepth 100000 in
theorem me139 : ev_me MM 139 2 = true := ev_me_mk (by decide +kernel) gw604 gw426
set_option maxRecDepth 100000 in
theorem me164 : ev_me MM 164 0 = true := ev_me_mk (by decide +kernel) gw608 gw426
set_option maxRecDepth 100000 in
theorem me36 : ev_me MM 36 2 = true := ev_me_mk (by decide +kernel) gw612 gw83
set_option maxRecDepth 100000 in
theorem me148 : ev_me MM 148 2 = true := ev_me_mk (by decide +kernel) gw616 gw426
set_option maxRecDepth 100000 in
theorem me10 : ev_me MM 10 2 = true := ev_me_mk (by decide +kernel) gw620 gw83
set_option maxRecDepth 100000 in
theorem me105 : ev_me MM 105 2 = true := ev_me_mk (by decide +kernel) gw624 gw426
set_option maxRecDepth 100000 in
theorem me27 : ev_me MM 27 1 = true := ev_me_mk (by decide +kernel) gw628 gw83
set_option maxRecDepth 100000 in
theorem me132 : ev_me MM 132 1 = true := ev_me_mk (by decide +kernel) gw632 gw426
set_option maxRecDepth 100000 in
theorem me11 : ev_me MM 11 3 = true := ev_me_mk (by decide +kernel) gw636 gw83
set_option maxRecDepth 100000 in
theorem me106 : ev_me MM 106 3 = true := ev_me_mk (by decide +kernel) gw640 gw426
set_option maxRecDepth 100000 in
theorem me42 : ev_me MM 42 2 = true := ev_me_mk (by decide +kernel) gw644 gw83
set_option maxRecDepth 100000 in
theorem me158 : ev_me MM 158 2 = true := ev_me_mk (by decide +kernel) gw648 gw426
set_option maxRecDepth 100000 in
theorem me29 : ev_me MM 29 1 = true := ev_me_mk (by decide +kernel) gw652 gw83
set_option maxRecDepth 100000 in
theorem me135 : ev_me MM 135 1 = true := ev_me_mk (by decide +kernel) gw656 gw426
set_option maxRecDepth 100000 in
theorem me20 : ev_me MM 20 1 = true := ev_me_mk (by decide +kernel) gw660 gw83
set_option maxRecDepth 100000 in
theorem me115 : ev_me MM 115 1 = true := ev_me_mk (by decide +kernel) gw664 gw426
set_option maxRecDepth 100000 in
theorem me2 : ev_me MM 2 1 = true := ev_me_mk (by decide +kernel) gw668 gw83
set_option maxRecDepth 100000 in
theorem me95 : ev_me MM 95 1 = true := ev_me_mk (by decide +kernel) gw672 gw426
set_option maxRecDepth 100000 in
theorem me9 : ev_me MM 9 1 = true := ev_me_mk (by decide +kernel) gw676 gw83
set_option maxRecDepth 100000 in
theorem me104 : ev_me MM 104 1 = true := ev_me_mk (by decide +kernel) gw680 gw426
set_option maxRecDepth 100000 in
theorem me41 : ev_me MM 41 0 = true := ev_me_mk (by decide +kernel) gw684 gw83
set_option maxRecDepth 100000 in
theorem me157 : ev_me MM 157 0 = true := ev_me_mk (by decide +kernel) gw688 gw426
set_option maxRecDepth 100000 in
theorem me1 : ev_me MM 1 2 = true := ev_me_mk (by decide +kernel) gw692 gw83
set_option maxRecDepth 100000 in
theorem me92 : ev_me MM 92 2 = true := ev_me_mk (by decide +kernel) gw696 gw426
set_option maxRecDepth 100000 in
theorem me30 : ev_me MM 30 0 = true := ev_me_mk (by decide +kernel) gw700 gw83
set_option maxRecDepth 100000 in
theorem me136 : ev_me MM 136 0 = true := ev_me_mk (by decide +kernel) gw704 gw426
set_option maxRecDepth 100000 in
theorem me31 : ev_me MM 31 2 = true := ev_me_mk (by decide +kernel) gw708 gw83
set_option maxRecDepth 100000 in
theorem me137 : ev_me MM 137 2 = true := ev_me_mk (by decide +kernel) gw712 gw426
set_option maxRecDepth 100000 in
theorem me19 : ev_me MM 19 0 = true := ev_me_mk (by decide +kernel) gw716 gw83
set_option maxRecDepth 100000 in
theorem me114 : ev_me MM 114 0 = true := ev_me_mk (by decide +kernel) gw720 gw426
set_option maxRecDepth 100000 in
theorem me18 : ev_me MM 18 1 = true := ev_me_mk (by decide +kernel) gw724 gw83
set_option maxRecDepth 100000 in
theorem me113 : ev_me MM 113 1 = true := ev_me_mk (by decide +kernel) gw728 gw426
set_option maxRecDepth 100000 in
theorem me39 : ev_me MM 39 0 = true := ev_me_mk (by decide +kernel) gw732 gw83
set_option maxRecDepth 100000 in
theorem me155 : ev_me MM 155 0 = true := ev_me_mk (by decide +kernel) gw736 gw426
set_option maxRecDepth 100000 in
theorem me23 : ev_me MM 23 2 = true := ev_me_mk (by decide +kernel) gw740 gw83
set_option maxRecDepth 100000 in
theorem me120 : ev_me MM 120 2 = true := ev_me_mk (by decide +kernel) gw744 gw426
set_option maxRecDepth 100000 in
theorem me22 : ev_me MM 22 0 = true := ev_me_mk (by decide +kernel) gw748 gw83
set_option maxRecDepth 100000 in
theorem me118 : ev_me MM 118 0 = true := ev_me_mk (by decide +kernel) gw752 gw426
set_option maxRecDepth 100000 in
theorem me21 : ev_me MM 21 0 = true := ev_me_mk (by decide +kernel) gw756 gw83
set_option maxRecDepth 100000 in
theorem me117 : ev_me MM 117 0 = true := ev_me_mk (by decide +kernel) gw760 gw426
set_option maxRecDepth 100000 in
theorem me3 : ev_me MM 3 0 = true := ev_me_mk (by decide +kernel) gw764 gw83
set_option maxRecDepth 100000 in
theorem me97 : ev_me MM 97 0 = true := ev_me_mk (by decide +kernel) gw768 gw426
set_option maxRecDepth 100000 in
theorem me4 : ev_me MM 4 1 = true := ev_me_mk (by decide +kernel) gw772 gw83
set_option maxRecDepth 100000 in
theorem me98 : ev_me MM 98 1 = true := ev_me_mk (by decide +kernel) gw776 gw426
set_option maxRecDepth 100000 in
theorem me14 : ev_me MM 14 1 = true := ev_me_mk (by decide +kernel) gw780 gw83
set_option maxRecDepth 100000 in
theorem me109 : ev_me MM 109 1 = true := ev_me_mk (by decide +kernel) gw784 gw426
set_option maxRecDepth 100000 in
theorem me33 : ev_me MM 33 0 = true := ev_me_mk (by decide +kernel) gw788 gw83
set_option maxRecDepth 100000 in
theorem me145 : ev_me MM 145 0 = true := ev_me_mk (by decide +kernel) gw792 gw426
set_option maxRecDepth 100000 in
theorem me37 : ev_me MM 37 1 = true := ev_me_mk (by decide +kernel) gw796 gw83
set_option maxRecDepth 100000 in
theorem me149 : ev_me MM 149 1 = true := ev_me_mk (by decide +kernel) gw800 gw426
set_option maxRecDepth 100000 in
theorem me7 : ev_me MM 7 1 = true := ev_me_mk (by decide +kernel) gw804 gw83
set_option maxRecDepth 100000 in
theorem me101 : ev_me MM 101 1 = true := ev_me_mk (by decide +kernel) gw808 gw426
set_option maxRecDepth 100000 in
theorem me12 : ev_me MM 12 2 = true := ev_me_mk (by decide +kernel) gw812 gw83
set_option maxRecDepth 100000 in
theorem me107 : ev_me MM 107 2 = true := ev_me_mk (by decide +kernel) gw816 gw426
set_option maxRecDepth 100000 in
theorem me28 : ev_me MM 28 3 = true := ev_me_mk (by decide +kernel) gw820 gw83
set_option maxRecDepth 100000 in
theorem me133 : ev_me MM 133 3 = true := ev_me_mk (by decide +kernel) gw824 gw426
set_option maxRecDepth 100000 in
theorem me6 : ev_me MM 6 1 = true := ev_me_mk (by decide +kernel) gw828 gw83
set_option maxRecDepth 100000 in
theorem me100 : ev_me MM 100 1 = true := ev_me_mk (by decide +kernel) gw832 gw426
set_option maxRecDepth 100000 in
theorem me40 : ev_me MM 40 1 = true := ev_me_mk (by decide +kernel) gw836 gw83
set_option maxRecDepth 100000 in
theorem me156 : ev_me MM 156 1 = true := ev_me_mk (by decide +kernel) gw840 gw426
set_option maxRecDepth 100000 in
theorem me35 : ev_me MM 35 0 = true := ev_me_mk (by decide +kernel) gw844 gw83
set_option maxRecDepth 100000 in
theorem me147 : ev_me MM 147 0 = true := ev_me_mk (by decide +kernel) gw848 gw426
set_option maxRecDepth 100000 in
theorem me34 : ev_me MM 34 1 = true := ev_me_mk (by decide +kernel) gw852 gw83
set_option maxRecDepth 100000 in
theorem me146 : ev_me MM 146 1 = true := ev_me_mk (by decide +kernel) gw856 gw426
set_option maxRecDepth 100000 in
theorem me24 : ev_me MM 24 1 = true := ev_me_mk (by decide +kernel) gw860 gw83
set_option maxRecDepth 100000 in
theorem me121 : ev_me MM 121 1 = true := ev_me_mk (by decide +kernel) gw864 gw426
set_option maxRecDepth 100000 in
theorem me32 : ev_me MM 32 1 = true := ev_me_mk (by decide +kernel) gw868 gw83
set_option maxRecDepth 100000 in
theorem me144 : ev_me MM 144 1 = true := ev_me_mk (by decide +kernel) gw872 gw426
set_option maxRecDepth 100000 in
theorem me8 : ev_me MM 8 1 = true := ev_me_mk (by decide +kernel) gw876 gw83
set_option maxRecDepth 100000 in
theorem me103 : ev_me MM 103 1 = true := ev_me_mk (by decide +kernel) gw880 gw426
