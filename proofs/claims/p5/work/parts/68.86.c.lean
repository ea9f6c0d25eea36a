set_option maxRecDepth 100000 in
theorem me154 : ev_me MM 154 0 = true := ev_me_mk (by decide +kernel) gw7 gw5
set_option maxRecDepth 100000 in
theorem me56 : ev_me MM 56 0 = true := ev_me_mk (by decide +kernel) gw14 gw12
set_option maxRecDepth 100000 in
theorem me87 : ev_me MM 87 0 = true := ev_me_mk (by decide +kernel) gw22 gw20
set_option maxRecDepth 100000 in
theorem me128 : ev_me MM 128 0 = true := ev_me_mk (by decide +kernel) gw30 gw28
set_option maxRecDepth 100000 in
theorem me48 : ev_me MM 48 0 = true := ev_me_mk (by decide +kernel) gw37 gw35
set_option maxRecDepth 100000 in
theorem me132 : ev_me MM 132 0 = true := ev_me_mk (by decide +kernel) gw44 gw42
set_option maxRecDepth 100000 in
theorem me122 : ev_me MM 122 0 = true := ev_me_mk (by decide +kernel) gw52 gw50
set_option maxRecDepth 100000 in
theorem me119 : ev_me MM 119 0 = true := ev_me_mk (by decide +kernel) gw59 gw57
set_option maxRecDepth 100000 in
theorem me148 : ev_me MM 148 0 = true := ev_me_mk (by decide +kernel) gw66 gw64
set_option maxRecDepth 100000 in
theorem me84 : ev_me MM 84 0 = true := ev_me_mk (by decide +kernel) gw73 gw71
set_option maxRecDepth 100000 in
theorem me28 : ev_me MM 28 1 = true := ev_me_mk (by decide +kernel) gw82 gw83
set_option maxRecDepth 100000 in
theorem me26 : ev_me MM 26 1 = true := ev_me_mk (by decide +kernel) gw87 gw83
set_option maxRecDepth 100000 in
theorem me88 : ev_me MM 88 3 = true := ev_me_mk (by decide +kernel) gw91 gw20
set_option maxRecDepth 100000 in
theorem me116 : ev_me MM 116 5 = true := ev_me_mk (by decide +kernel) gw95 gw20
set_option maxRecDepth 100000 in
theorem me130 : ev_me MM 130 1 = true := ev_me_mk (by decide +kernel) gw99 gw28
set_option maxRecDepth 100000 in
theorem me112 : ev_me MM 112 5 = true := ev_me_mk (by decide +kernel) gw103 gw20
set_option maxRecDepth 100000 in
theorem me2 : ev_me MM 2 4 = true := ev_me_mk (by decide +kernel) gw107 gw83
set_option maxRecDepth 100000 in
theorem me121 : ev_me MM 121 2 = true := ev_me_mk (by decide +kernel) gw111 gw57
set_option maxRecDepth 100000 in
theorem me54 : ev_me MM 54 2 = true := ev_me_mk (by decide +kernel) gw116 gw35
set_option maxRecDepth 100000 in
theorem me41 : ev_me MM 41 0 = true := ev_me_mk (by decide +kernel) gw120 gw83
set_option maxRecDepth 100000 in
theorem me94 : ev_me MM 94 1 = true := ev_me_mk (by decide +kernel) gw125 gw20
set_option maxRecDepth 100000 in
theorem me50 : ev_me MM 50 2 = true := ev_me_mk (by decide +kernel) gw129 gw35
set_option maxRecDepth 100000 in
theorem me95 : ev_me MM 95 0 = true := ev_me_mk (by decide +kernel) gw142 gw20
set_option maxRecDepth 100000 in
theorem me111 : ev_me MM 111 2 = true := ev_me_mk (by decide +kernel) gw150 gw20
set_option maxRecDepth 100000 in
theorem me72 : ev_me MM 72 1 = true := ev_me_mk (by decide +kernel) gw157 gw12
set_option maxRecDepth 100000 in
theorem me27 : ev_me MM 27 1 = true := ev_me_mk (by decide +kernel) gw161 gw83
set_option maxRecDepth 100000 in
theorem me99 : ev_me MM 99 3 = true := ev_me_mk (by decide +kernel) gw165 gw20
set_option maxRecDepth 100000 in
theorem me76 : ev_me MM 76 1 = true := ev_me_mk (by decide +kernel) gw169 gw12
set_option maxRecDepth 100000 in
theorem me91 : ev_me MM 91 1 = true := ev_me_mk (by decide +kernel) gw174 gw20
set_option maxRecDepth 100000 in
theorem me129 : ev_me MM 129 0 = true := ev_me_mk (by decide +kernel) gw178 gw28
set_option maxRecDepth 100000 in
theorem me136 : ev_me MM 136 0 = true := ev_me_mk (by decide +kernel) gw182 gw42
set_option maxRecDepth 100000 in
theorem me107 : ev_me MM 107 2 = true := ev_me_mk (by decide +kernel) gw186 gw20
set_option maxRecDepth 100000 in
theorem me162 : ev_me MM 162 1 = true := ev_me_mk (by decide +kernel) gw190 gw5
set_option maxRecDepth 100000 in
theorem me6 : ev_me MM 6 2 = true := ev_me_mk (by decide +kernel) gw193 gw83
set_option maxRecDepth 100000 in
theorem me42 : ev_me MM 42 1 = true := ev_me_mk (by decide +kernel) gw197 gw83
set_option maxRecDepth 100000 in
theorem me43 : ev_me MM 43 0 = true := ev_me_mk (by decide +kernel) gw201 gw83
set_option maxRecDepth 100000 in
theorem me57 : ev_me MM 57 0 = true := ev_me_mk (by decide +kernel) gw205 gw12
set_option maxRecDepth 100000 in
theorem me166 : ev_me MM 166 1 = true := ev_me_mk (by decide +kernel) gw209 gw5
set_option maxRecDepth 100000 in
theorem me60 : ev_me MM 60 1 = true := ev_me_mk (by decide +kernel) gw213 gw12
set_option maxRecDepth 100000 in
theorem me59 : ev_me MM 59 1 = true := ev_me_mk (by decide +kernel) gw217 gw12
set_option maxRecDepth 100000 in
theorem me298 : ev_me MM 298 1 = true := ev_me_mk (by decide +kernel) gw220 gw221
set_option maxRecDepth 100000 in
theorem me64 : ev_me MM 64 0 = true := ev_me_mk (by decide +kernel) gw225 gw12
set_option maxRecDepth 100000 in
theorem me83 : ev_me MM 83 2 = true := ev_me_mk (by decide +kernel) gw229 gw12
set_option maxRecDepth 100000 in
theorem me86 : ev_me MM 86 3 = true := ev_me_mk (by decide +kernel) gw233 gw71
set_option maxRecDepth 100000 in
theorem me106 : ev_me MM 106 0 = true := ev_me_mk (by decide +kernel) gw238 gw20
set_option maxRecDepth 100000 in
theorem me114 : ev_me MM 114 0 = true := ev_me_mk (by decide +kernel) gw243 gw20
set_option maxRecDepth 100000 in
theorem me113 : ev_me MM 113 1 = true := ev_me_mk (by decide +kernel) gw247 gw20
set_option maxRecDepth 100000 in
theorem me90 : ev_me MM 90 0 = true := ev_me_mk (by decide +kernel) gw251 gw20
set_option maxRecDepth 100000 in
theorem me123 : ev_me MM 123 1 = true := ev_me_mk (by decide +kernel) gw258 gw50
set_option maxRecDepth 100000 in
theorem me92 : ev_me MM 92 2 = true := ev_me_mk (by decide +kernel) gw263 gw20
set_option maxRecDepth 100000 in
theorem me126 : ev_me MM 126 0 = true := ev_me_mk (by decide +kernel) gw267 gw50
set_option maxRecDepth 100000 in
theorem me124 : ev_me MM 124 1 = true := ev_me_mk (by decide +kernel) gw271 gw50
set_option maxRecDepth 100000 in
theorem me102 : ev_me MM 102 1 = true := ev_me_mk (by decide +kernel) gw279 gw20
set_option maxRecDepth 100000 in
theorem me104 : ev_me MM 104 2 = true := ev_me_mk (by decide +kernel) gw284 gw20
set_option maxRecDepth 100000 in
theorem me85 : ev_me MM 85 3 = true := ev_me_mk (by decide +kernel) gw289 gw71
set_option maxRecDepth 100000 in
theorem me147 : ev_me MM 147 2 = true := ev_me_mk (by decide +kernel) gw294 gw42
set_option maxRecDepth 100000 in
theorem me143 : ev_me MM 143 2 = true := ev_me_mk (by decide +kernel) gw298 gw42
set_option maxRecDepth 100000 in
theorem me81 : ev_me MM 81 2 = true := ev_me_mk (by decide +kernel) gw302 gw12
set_option maxRecDepth 100000 in
theorem me153 : ev_me MM 153 3 = true := ev_me_mk (by decide +kernel) gw306 gw64
set_option maxRecDepth 100000 in
theorem me131 : ev_me MM 131 1 = true := ev_me_mk (by decide +kernel) gw316 gw28
set_option maxRecDepth 100000 in
theorem me73 : ev_me MM 73 1 = true := ev_me_mk (by decide +kernel) gw337 gw12
set_option maxRecDepth 100000 in
theorem me165 : ev_me MM 165 1 = true := ev_me_mk (by decide +kernel) gw341 gw5
set_option maxRecDepth 100000 in
theorem me155 : ev_me MM 155 0 = true := ev_me_mk (by decide +kernel) gw345 gw5
set_option maxRecDepth 100000 in
theorem me53 : ev_me MM 53 3 = true := ev_me_mk (by decide +kernel) gw352 gw35
set_option maxRecDepth 100000 in
theorem me55 : ev_me MM 55 3 = true := ev_me_mk (by decide +kernel) gw356 gw35
set_option maxRecDepth 100000 in
theorem me49 : ev_me MM 49 4 = true := ev_me_mk (by decide +kernel) gw360 gw35
set_option maxRecDepth 100000 in
theorem me168 : ev_me MM 168 2 = true := ev_me_mk (by decide +kernel) gw364 gw5
set_option maxRecDepth 100000 in
theorem me63 : ev_me MM 63 1 = true := ev_me_mk (by decide +kernel) gw369 gw12
set_option maxRecDepth 100000 in
theorem me161 : ev_me MM 161 1 = true := ev_me_mk (by decide +kernel) gw373 gw5
set_option maxRecDepth 100000 in
theorem me52 : ev_me MM 52 1 = true := ev_me_mk (by decide +kernel) gw379 gw35
set_option maxRecDepth 100000 in
theorem me51 : ev_me MM 51 2 = true := ev_me_mk (by decide +kernel) gw383 gw35
set_option maxRecDepth 100000 in
theorem me167 : ev_me MM 167 1 = true := ev_me_mk (by decide +kernel) gw387 gw5
set_option maxRecDepth 100000 in
theorem me65 : ev_me MM 65 0 = true := ev_me_mk (by decide +kernel) gw402 gw12
set_option maxRecDepth 100000 in
theorem me69 : ev_me MM 69 3 = true := ev_me_mk (by decide +kernel) gw413 gw12
set_option maxRecDepth 100000 in
theorem me71 : ev_me MM 71 3 = true := ev_me_mk (by decide +kernel) gw425 gw12
set_option maxRecDepth 100000 in
theorem me58 : ev_me MM 58 0 = true := ev_me_mk (by decide +kernel) gw429 gw12
set_option maxRecDepth 100000 in
theorem me82 : ev_me MM 82 1 = true := ev_me_mk (by decide +kernel) gw433 gw12
set_option maxRecDepth 100000 in
theorem me68 : ev_me MM 68 2 = true := ev_me_mk (by decide +kernel) gw438 gw12
set_option maxRecDepth 100000 in
theorem me66 : ev_me MM 66 3 = true := ev_me_mk (by decide +kernel) gw446 gw12
set_option maxRecDepth 100000 in
theorem me70 : ev_me MM 70 1 = true := ev_me_mk (by decide +kernel) gw451 gw12
set_option maxRecDepth 100000 in
theorem me80 : ev_me MM 80 1 = true := ev_me_mk (by decide +kernel) gw458 gw12
set_option maxRecDepth 100000 in
theorem me61 : ev_me MM 61 0 = true := ev_me_mk (by decide +kernel) gw462 gw12
set_option maxRecDepth 100000 in
theorem me78 : ev_me MM 78 1 = true := ev_me_mk (by decide +kernel) gw470 gw12
set_option maxRecDepth 100000 in
theorem me74 : ev_me MM 74 1 = true := ev_me_mk (by decide +kernel) gw474 gw12
set_option maxRecDepth 100000 in
theorem me79 : ev_me MM 79 1 = true := ev_me_mk (by decide +kernel) gw478 gw12
set_option maxRecDepth 100000 in
theorem me75 : ev_me MM 75 1 = true := ev_me_mk (by decide +kernel) gw482 gw12
set_option maxRecDepth 100000 in
theorem me77 : ev_me MM 77 1 = true := ev_me_mk (by decide +kernel) gw486 gw12
set_option maxRecDepth 100000 in
theorem me62 : ev_me MM 62 1 = true := ev_me_mk (by decide +kernel) gw505 gw12
set_option maxRecDepth 100000 in
theorem me137 : ev_me MM 137 1 = true := ev_me_mk (by decide +kernel) gw510 gw42
set_option maxRecDepth 100000 in
theorem me117 : ev_me MM 117 4 = true := ev_me_mk (by decide +kernel) gw524 gw20
set_option maxRecDepth 100000 in
theorem me101 : ev_me MM 101 4 = true := ev_me_mk (by decide +kernel) gw535 gw20
set_option maxRecDepth 100000 in
theorem me100 : ev_me MM 100 1 = true := ev_me_mk (by decide +kernel) gw541 gw20
set_option maxRecDepth 100000 in
theorem me89 : ev_me MM 89 3 = true := ev_me_mk (by decide +kernel) gw547 gw20
set_option maxRecDepth 100000 in
theorem me97 : ev_me MM 97 1 = true := ev_me_mk (by decide +kernel) gw554 gw20
set_option maxRecDepth 100000 in
theorem me96 : ev_me MM 96 4 = true := ev_me_mk (by decide +kernel) gw558 gw20
set_option maxRecDepth 100000 in
theorem me118 : ev_me MM 118 2 = true := ev_me_mk (by decide +kernel) gw562 gw20
set_option maxRecDepth 100000 in
theorem me115 : ev_me MM 115 2 = true := ev_me_mk (by decide +kernel) gw566 gw20
set_option maxRecDepth 100000 in
theorem me109 : ev_me MM 109 1 = true := ev_me_mk (by decide +kernel) gw570 gw20
set_option maxRecDepth 100000 in
theorem me98 : ev_me MM 98 2 = true := ev_me_mk (by decide +kernel) gw574 gw20
set_option maxRecDepth 100000 in
theorem me110 : ev_me MM 110 1 = true := ev_me_mk (by decide +kernel) gw578 gw20
set_option maxRecDepth 100000 in
theorem me103 : ev_me MM 103 1 = true := ev_me_mk (by decide +kernel) gw584 gw20
set_option maxRecDepth 100000 in
theorem me108 : ev_me MM 108 3 = true := ev_me_mk (by decide +kernel) gw588 gw20
set_option maxRecDepth 100000 in
theorem me105 : ev_me MM 105 1 = true := ev_me_mk (by decide +kernel) gw599 gw20
set_option maxRecDepth 100000 in
theorem me120 : ev_me MM 120 2 = true := ev_me_mk (by decide +kernel) gw614 gw57
set_option maxRecDepth 100000 in
theorem me67 : ev_me MM 67 2 = true := ev_me_mk (by decide +kernel) gw622 gw12
set_option maxRecDepth 100000 in
theorem me127 : ev_me MM 127 1 = true := ev_me_mk (by decide +kernel) gw635 gw50
set_option maxRecDepth 100000 in
theorem me125 : ev_me MM 125 3 = true := ev_me_mk (by decide +kernel) gw639 gw50
set_option maxRecDepth 100000 in
theorem me93 : ev_me MM 93 0 = true := ev_me_mk (by decide +kernel) gw664 gw20
set_option maxRecDepth 100000 in
theorem me139 : ev_me MM 139 3 = true := ev_me_mk (by decide +kernel) gw669 gw42
set_option maxRecDepth 100000 in
theorem me140 : ev_me MM 140 3 = true := ev_me_mk (by decide +kernel) gw674 gw42
set_option maxRecDepth 100000 in
theorem me138 : ev_me MM 138 3 = true := ev_me_mk (by decide +kernel) gw677 gw42
set_option maxRecDepth 100000 in
theorem me145 : ev_me MM 145 3 = true := ev_me_mk (by decide +kernel) gw685 gw42
set_option maxRecDepth 100000 in
theorem me133 : ev_me MM 133 3 = true := ev_me_mk (by decide +kernel) gw692 gw42
set_option maxRecDepth 100000 in
theorem me141 : ev_me MM 141 3 = true := ev_me_mk (by decide +kernel) gw696 gw42
set_option maxRecDepth 100000 in
theorem me142 : ev_me MM 142 3 = true := ev_me_mk (by decide +kernel) gw703 gw42
set_option maxRecDepth 100000 in
theorem me160 : ev_me MM 160 1 = true := ev_me_mk (by decide +kernel) gw710 gw5
set_option maxRecDepth 100000 in
theorem me134 : ev_me MM 134 1 = true := ev_me_mk (by decide +kernel) gw715 gw42
set_option maxRecDepth 100000 in
theorem me146 : ev_me MM 146 2 = true := ev_me_mk (by decide +kernel) gw720 gw42
set_option maxRecDepth 100000 in
theorem me144 : ev_me MM 144 2 = true := ev_me_mk (by decide +kernel) gw724 gw42
set_option maxRecDepth 100000 in
theorem me135 : ev_me MM 135 3 = true := ev_me_mk (by decide +kernel) gw732 gw42
set_option maxRecDepth 100000 in
theorem me151 : ev_me MM 151 1 = true := ev_me_mk (by decide +kernel) gw740 gw64
set_option maxRecDepth 100000 in
theorem me149 : ev_me MM 149 1 = true := ev_me_mk (by decide +kernel) gw748 gw64
set_option maxRecDepth 100000 in
theorem me152 : ev_me MM 152 1 = true := ev_me_mk (by decide +kernel) gw752 gw64
set_option maxRecDepth 100000 in
theorem me150 : ev_me MM 150 1 = true := ev_me_mk (by decide +kernel) gw757 gw64
set_option maxRecDepth 100000 in
theorem me156 : ev_me MM 156 1 = true := ev_me_mk (by decide +kernel) gw773 gw5
set_option maxRecDepth 100000 in
theorem me158 : ev_me MM 158 1 = true := ev_me_mk (by decide +kernel) gw779 gw5
set_option maxRecDepth 100000 in
theorem me157 : ev_me MM 157 1 = true := ev_me_mk (by decide +kernel) gw782 gw5
set_option maxRecDepth 100000 in
theorem me164 : ev_me MM 164 0 = true := ev_me_mk (by decide +kernel) gw786 gw5
set_option maxRecDepth 100000 in
theorem me163 : ev_me MM 163 0 = true := ev_me_mk (by decide +kernel) gw790 gw5
set_option maxRecDepth 100000 in
theorem me159 : ev_me MM 159 1 = true := ev_me_mk (by decide +kernel) gw797 gw5
set_option maxRecDepth 100000 in
theorem me170 : ev_me MM 170 2 = true := ev_me_mk (by decide +kernel) gw800 gw801
set_option maxRecDepth 100000 in
theorem me169 : ev_me MM 169 1 = true := ev_me_mk (by decide +kernel) gw804 gw801
set_option maxRecDepth 100000 in
theorem me280 : ev_me MM 280 0 = true := ev_me_mk (by decide +kernel) gw839 gw840
set_option maxRecDepth 100000 in
theorem me223 : ev_me MM 223 1 = true := ev_me_mk (by decide +kernel) gw845 gw840
set_option maxRecDepth 100000 in
theorem me214 : ev_me MM 214 1 = true := ev_me_mk (by decide +kernel) gw849 gw840
set_option maxRecDepth 100000 in
theorem me292 : ev_me MM 292 3 = true := ev_me_mk (by decide +kernel) gw853 gw840
set_option maxRecDepth 100000 in
theorem me291 : ev_me MM 291 4 = true := ev_me_mk (by decide +kernel) gw857 gw840
set_option maxRecDepth 100000 in
theorem me278 : ev_me MM 278 0 = true := ev_me_mk (by decide +kernel) gw861 gw840
set_option maxRecDepth 100000 in
theorem me232 : ev_me MM 232 4 = true := ev_me_mk (by decide +kernel) gw865 gw840
set_option maxRecDepth 100000 in
theorem me173 : ev_me MM 173 5 = true := ev_me_mk (by decide +kernel) gw873 gw840
set_option maxRecDepth 100000 in
theorem me283 : ev_me MM 283 0 = true := ev_me_mk (by decide +kernel) gw877 gw840
set_option maxRecDepth 100000 in
theorem me205 : ev_me MM 205 0 = true := ev_me_mk (by decide +kernel) gw884 gw840
set_option maxRecDepth 100000 in
theorem me290 : ev_me MM 290 2 = true := ev_me_mk (by decide +kernel) gw889 gw840
set_option maxRecDepth 100000 in
theorem me218 : ev_me MM 218 3 = true := ev_me_mk (by decide +kernel) gw894 gw840
set_option maxRecDepth 100000 in
theorem me176 : ev_me MM 176 1 = true := ev_me_mk (by decide +kernel) gw898 gw840
set_option maxRecDepth 100000 in
theorem me246 : ev_me MM 246 0 = true := ev_me_mk (by decide +kernel) gw903 gw840
set_option maxRecDepth 100000 in
theorem me230 : ev_me MM 230 0 = true := ev_me_mk (by decide +kernel) gw907 gw840
set_option maxRecDepth 100000 in
theorem me206 : ev_me MM 206 1 = true := ev_me_mk (by decide +kernel) gw911 gw840
set_option maxRecDepth 100000 in
theorem me228 : ev_me MM 228 0 = true := ev_me_mk (by decide +kernel) gw915 gw840
set_option maxRecDepth 100000 in
theorem me281 : ev_me MM 281 1 = true := ev_me_mk (by decide +kernel) gw920 gw840
set_option maxRecDepth 100000 in
theorem me209 : ev_me MM 209 2 = true := ev_me_mk (by decide +kernel) gw924 gw840
set_option maxRecDepth 100000 in
theorem me276 : ev_me MM 276 2 = true := ev_me_mk (by decide +kernel) gw928 gw840
set_option maxRecDepth 100000 in
theorem me183 : ev_me MM 183 3 = true := ev_me_mk (by decide +kernel) gw932 gw840
set_option maxRecDepth 100000 in
theorem me241 : ev_me MM 241 1 = true := ev_me_mk (by decide +kernel) gw937 gw840
set_option maxRecDepth 100000 in
theorem me180 : ev_me MM 180 1 = true := ev_me_mk (by decide +kernel) gw940 gw840
set_option maxRecDepth 100000 in
theorem me231 : ev_me MM 231 2 = true := ev_me_mk (by decide +kernel) gw943 gw840
set_option maxRecDepth 100000 in
theorem me224 : ev_me MM 224 1 = true := ev_me_mk (by decide +kernel) gw947 gw840
set_option maxRecDepth 100000 in
theorem me194 : ev_me MM 194 1 = true := ev_me_mk (by decide +kernel) gw953 gw840
set_option maxRecDepth 100000 in
theorem me236 : ev_me MM 236 0 = true := ev_me_mk (by decide +kernel) gw957 gw840
set_option maxRecDepth 100000 in
theorem me192 : ev_me MM 192 2 = true := ev_me_mk (by decide +kernel) gw961 gw840
set_option maxRecDepth 100000 in
theorem me191 : ev_me MM 191 1 = true := ev_me_mk (by decide +kernel) gw965 gw840
set_option maxRecDepth 100000 in
theorem me189 : ev_me MM 189 3 = true := ev_me_mk (by decide +kernel) gw969 gw840
set_option maxRecDepth 100000 in
theorem me226 : ev_me MM 226 1 = true := ev_me_mk (by decide +kernel) gw973 gw840
set_option maxRecDepth 100000 in
theorem me256 : ev_me MM 256 0 = true := ev_me_mk (by decide +kernel) gw977 gw840
set_option maxRecDepth 100000 in
theorem me251 : ev_me MM 251 0 = true := ev_me_mk (by decide +kernel) gw981 gw840
set_option maxRecDepth 100000 in
theorem me242 : ev_me MM 242 2 = true := ev_me_mk (by decide +kernel) gw986 gw840
set_option maxRecDepth 100000 in
theorem me185 : ev_me MM 185 1 = true := ev_me_mk (by decide +kernel) gw990 gw840
set_option maxRecDepth 100000 in
theorem me184 : ev_me MM 184 2 = true := ev_me_mk (by decide +kernel) gw995 gw840
set_option maxRecDepth 100000 in
theorem me235 : ev_me MM 235 2 = true := ev_me_mk (by decide +kernel) gw999 gw840
set_option maxRecDepth 100000 in
theorem me220 : ev_me MM 220 1 = true := ev_me_mk (by decide +kernel) gw1002 gw840
set_option maxRecDepth 100000 in
theorem me215 : ev_me MM 215 1 = true := ev_me_mk (by decide +kernel) gw1005 gw840
set_option maxRecDepth 100000 in
theorem me285 : ev_me MM 285 1 = true := ev_me_mk (by decide +kernel) gw1012 gw840
set_option maxRecDepth 100000 in
theorem me179 : ev_me MM 179 1 = true := ev_me_mk (by decide +kernel) gw1017 gw840
set_option maxRecDepth 100000 in
theorem me211 : ev_me MM 211 2 = true := ev_me_mk (by decide +kernel) gw1021 gw840
set_option maxRecDepth 100000 in
theorem me219 : ev_me MM 219 1 = true := ev_me_mk (by decide +kernel) gw1025 gw840
set_option maxRecDepth 100000 in
theorem me217 : ev_me MM 217 1 = true := ev_me_mk (by decide +kernel) gw1029 gw840
set_option maxRecDepth 100000 in
theorem me293 : ev_me MM 293 1 = true := ev_me_mk (by decide +kernel) gw1032 gw840
set_option maxRecDepth 100000 in
theorem me221 : ev_me MM 221 0 = true := ev_me_mk (by decide +kernel) gw1036 gw840
set_option maxRecDepth 100000 in
theorem me174 : ev_me MM 174 1 = true := ev_me_mk (by decide +kernel) gw1040 gw840
set_option maxRecDepth 100000 in
theorem me200 : ev_me MM 200 4 = true := ev_me_mk (by decide +kernel) gw1043 gw840
set_option maxRecDepth 100000 in
theorem me282 : ev_me MM 282 2 = true := ev_me_mk (by decide +kernel) gw1048 gw840
set_option maxRecDepth 100000 in
theorem me284 : ev_me MM 284 0 = true := ev_me_mk (by decide +kernel) gw1052 gw840
set_option maxRecDepth 100000 in
theorem me274 : ev_me MM 274 1 = true := ev_me_mk (by decide +kernel) gw1055 gw840
set_option maxRecDepth 100000 in
theorem me213 : ev_me MM 213 3 = true := ev_me_mk (by decide +kernel) gw1060 gw840
set_option maxRecDepth 100000 in
theorem me238 : ev_me MM 238 3 = true := ev_me_mk (by decide +kernel) gw1064 gw840
set_option maxRecDepth 100000 in
theorem me268 : ev_me MM 268 0 = true := ev_me_mk (by decide +kernel) gw1069 gw840
set_option maxRecDepth 100000 in
theorem me266 : ev_me MM 266 0 = true := ev_me_mk (by decide +kernel) gw1073 gw840
set_option maxRecDepth 100000 in
theorem me227 : ev_me MM 227 1 = true := ev_me_mk (by decide +kernel) gw1078 gw840
set_option maxRecDepth 100000 in
theorem me272 : ev_me MM 272 4 = true := ev_me_mk (by decide +kernel) gw1082 gw840
set_option maxRecDepth 100000 in
theorem me260 : ev_me MM 260 2 = true := ev_me_mk (by decide +kernel) gw1086 gw840
set_option maxRecDepth 100000 in
theorem me229 : ev_me MM 229 2 = true := ev_me_mk (by decide +kernel) gw1090 gw840
set_option maxRecDepth 100000 in
theorem me250 : ev_me MM 250 1 = true := ev_me_mk (by decide +kernel) gw1094 gw840
set_option maxRecDepth 100000 in
theorem me263 : ev_me MM 263 0 = true := ev_me_mk (by decide +kernel) gw1098 gw840
set_option maxRecDepth 100000 in
theorem me225 : ev_me MM 225 1 = true := ev_me_mk (by decide +kernel) gw1102 gw840
set_option maxRecDepth 100000 in
theorem me252 : ev_me MM 252 2 = true := ev_me_mk (by decide +kernel) gw1106 gw840
set_option maxRecDepth 100000 in
theorem me258 : ev_me MM 258 1 = true := ev_me_mk (by decide +kernel) gw1110 gw840
set_option maxRecDepth 100000 in
theorem me244 : ev_me MM 244 2 = true := ev_me_mk (by decide +kernel) gw1114 gw840
set_option maxRecDepth 100000 in
theorem me253 : ev_me MM 253 3 = true := ev_me_mk (by decide +kernel) gw1118 gw840
set_option maxRecDepth 100000 in
theorem me257 : ev_me MM 257 2 = true := ev_me_mk (by decide +kernel) gw1122 gw840
set_option maxRecDepth 100000 in
theorem me255 : ev_me MM 255 0 = true := ev_me_mk (by decide +kernel) gw1126 gw840
set_option maxRecDepth 100000 in
theorem me264 : ev_me MM 264 0 = true := ev_me_mk (by decide +kernel) gw1130 gw840
set_option maxRecDepth 100000 in
theorem me265 : ev_me MM 265 0 = true := ev_me_mk (by decide +kernel) gw1134 gw840
set_option maxRecDepth 100000 in
theorem me249 : ev_me MM 249 0 = true := ev_me_mk (by decide +kernel) gw1138 gw840
set_option maxRecDepth 100000 in
theorem me267 : ev_me MM 267 0 = true := ev_me_mk (by decide +kernel) gw1142 gw840
set_option maxRecDepth 100000 in
theorem me254 : ev_me MM 254 0 = true := ev_me_mk (by decide +kernel) gw1146 gw840
set_option maxRecDepth 100000 in
theorem me262 : ev_me MM 262 1 = true := ev_me_mk (by decide +kernel) gw1150 gw840
set_option maxRecDepth 100000 in
theorem me245 : ev_me MM 245 0 = true := ev_me_mk (by decide +kernel) gw1154 gw840
set_option maxRecDepth 100000 in
theorem me222 : ev_me MM 222 0 = true := ev_me_mk (by decide +kernel) gw1158 gw840
set_option maxRecDepth 100000 in
theorem me247 : ev_me MM 247 0 = true := ev_me_mk (by decide +kernel) gw1164 gw840
set_option maxRecDepth 100000 in
theorem me259 : ev_me MM 259 0 = true := ev_me_mk (by decide +kernel) gw1168 gw840
set_option maxRecDepth 100000 in
theorem me261 : ev_me MM 261 1 = true := ev_me_mk (by decide +kernel) gw1172 gw840
set_option maxRecDepth 100000 in
theorem me248 : ev_me MM 248 1 = true := ev_me_mk (by decide +kernel) gw1176 gw840
set_option maxRecDepth 100000 in
theorem me297 : ev_me MM 297 1 = true := ev_me_mk (by decide +kernel) gw1181 gw840
set_option maxRecDepth 100000 in
theorem me295 : ev_me MM 295 1 = true := ev_me_mk (by decide +kernel) gw1185 gw840
set_option maxRecDepth 100000 in
theorem me294 : ev_me MM 294 1 = true := ev_me_mk (by decide +kernel) gw1189 gw840
set_option maxRecDepth 100000 in
theorem me296 : ev_me MM 296 1 = true := ev_me_mk (by decide +kernel) gw1193 gw840
set_option maxRecDepth 100000 in
theorem me279 : ev_me MM 279 6 = true := ev_me_mk (by decide +kernel) gw1196 gw840
set_option maxRecDepth 100000 in
theorem me216 : ev_me MM 216 1 = true := ev_me_mk (by decide +kernel) gw1200 gw840
set_option maxRecDepth 100000 in
theorem me203 : ev_me MM 203 2 = true := ev_me_mk (by decide +kernel) gw1204 gw840
set_option maxRecDepth 100000 in
theorem me0 : ev_me MM 0 0 = true := ev_me_mk (by decide +kernel) gw1212 gw83
set_option maxRecDepth 100000 in
theorem me171 : ev_me MM 171 0 = true := ev_me_mk (by decide +kernel) gw1217 gw840
set_option maxRecDepth 100000 in
theorem me18 : ev_me MM 18 5 = true := ev_me_mk (by decide +kernel) gw1221 gw83
set_option maxRecDepth 100000 in
theorem me199 : ev_me MM 199 5 = true := ev_me_mk (by decide +kernel) gw1225 gw840
set_option maxRecDepth 100000 in
theorem me16 : ev_me MM 16 1 = true := ev_me_mk (by decide +kernel) gw1229 gw83
set_option maxRecDepth 100000 in
theorem me197 : ev_me MM 197 1 = true := ev_me_mk (by decide +kernel) gw1233 gw840
set_option maxRecDepth 100000 in
theorem me14 : ev_me MM 14 0 = true := ev_me_mk (by decide +kernel) gw1237 gw83
set_option maxRecDepth 100000 in
theorem me195 : ev_me MM 195 0 = true := ev_me_mk (by decide +kernel) gw1241 gw840
set_option maxRecDepth 100000 in
theorem me17 : ev_me MM 17 0 = true := ev_me_mk (by decide +kernel) gw1245 gw83
set_option maxRecDepth 100000 in
theorem me198 : ev_me MM 198 0 = true := ev_me_mk (by decide +kernel) gw1249 gw840
set_option maxRecDepth 100000 in
theorem me243 : ev_me MM 243 2 = true := ev_me_mk (by decide +kernel) gw1253 gw840
set_option maxRecDepth 100000 in
theorem me39 : ev_me MM 39 2 = true := ev_me_mk (by decide +kernel) gw1257 gw83
set_option maxRecDepth 100000 in
theorem me275 : ev_me MM 275 2 = true := ev_me_mk (by decide +kernel) gw1261 gw840
set_option maxRecDepth 100000 in
theorem me11 : ev_me MM 11 2 = true := ev_me_mk (by decide +kernel) gw1265 gw83
set_option maxRecDepth 100000 in
theorem me188 : ev_me MM 188 2 = true := ev_me_mk (by decide +kernel) gw1269 gw840
set_option maxRecDepth 100000 in
theorem me29 : ev_me MM 29 1 = true := ev_me_mk (by decide +kernel) gw1273 gw83
set_option maxRecDepth 100000 in
theorem me233 : ev_me MM 233 1 = true := ev_me_mk (by decide +kernel) gw1277 gw840
set_option maxRecDepth 100000 in
theorem me12 : ev_me MM 12 3 = true := ev_me_mk (by decide +kernel) gw1281 gw83
set_option maxRecDepth 100000 in
theorem me190 : ev_me MM 190 3 = true := ev_me_mk (by decide +kernel) gw1285 gw840
set_option maxRecDepth 100000 in
theorem me47 : ev_me MM 47 2 = true := ev_me_mk (by decide +kernel) gw1289 gw83
set_option maxRecDepth 100000 in
theorem me289 : ev_me MM 289 2 = true := ev_me_mk (by decide +kernel) gw1293 gw840
set_option maxRecDepth 100000 in
theorem me31 : ev_me MM 31 1 = true := ev_me_mk (by decide +kernel) gw1297 gw83
set_option maxRecDepth 100000 in
theorem me237 : ev_me MM 237 1 = true := ev_me_mk (by decide +kernel) gw1301 gw840
set_option maxRecDepth 100000 in
theorem me21 : ev_me MM 21 1 = true := ev_me_mk (by decide +kernel) gw1305 gw83
set_option maxRecDepth 100000 in
theorem me204 : ev_me MM 204 1 = true := ev_me_mk (by decide +kernel) gw1309 gw840
set_option maxRecDepth 100000 in
theorem me3 : ev_me MM 3 1 = true := ev_me_mk (by decide +kernel) gw1313 gw83
set_option maxRecDepth 100000 in
theorem me175 : ev_me MM 175 1 = true := ev_me_mk (by decide +kernel) gw1317 gw840
set_option maxRecDepth 100000 in
theorem me10 : ev_me MM 10 1 = true := ev_me_mk (by decide +kernel) gw1321 gw83
set_option maxRecDepth 100000 in
theorem me187 : ev_me MM 187 1 = true := ev_me_mk (by decide +kernel) gw1325 gw840
set_option maxRecDepth 100000 in
theorem me46 : ev_me MM 46 0 = true := ev_me_mk (by decide +kernel) gw1329 gw83
set_option maxRecDepth 100000 in
theorem me288 : ev_me MM 288 0 = true := ev_me_mk (by decide +kernel) gw1333 gw840
set_option maxRecDepth 100000 in
theorem me1 : ev_me MM 1 2 = true := ev_me_mk (by decide +kernel) gw1337 gw83
set_option maxRecDepth 100000 in
theorem me172 : ev_me MM 172 2 = true := ev_me_mk (by decide +kernel) gw1341 gw840
set_option maxRecDepth 100000 in
theorem me32 : ev_me MM 32 0 = true := ev_me_mk (by decide +kernel) gw1345 gw83
set_option maxRecDepth 100000 in
theorem me239 : ev_me MM 239 0 = true := ev_me_mk (by decide +kernel) gw1349 gw840
set_option maxRecDepth 100000 in
theorem me33 : ev_me MM 33 2 = true := ev_me_mk (by decide +kernel) gw1353 gw83
set_option maxRecDepth 100000 in
theorem me240 : ev_me MM 240 2 = true := ev_me_mk (by decide +kernel) gw1357 gw840
set_option maxRecDepth 100000 in
theorem me20 : ev_me MM 20 0 = true := ev_me_mk (by decide +kernel) gw1361 gw83
set_option maxRecDepth 100000 in
theorem me202 : ev_me MM 202 0 = true := ev_me_mk (by decide +kernel) gw1365 gw840
set_option maxRecDepth 100000 in
theorem me19 : ev_me MM 19 1 = true := ev_me_mk (by decide +kernel) gw1369 gw83
set_option maxRecDepth 100000 in
theorem me201 : ev_me MM 201 1 = true := ev_me_mk (by decide +kernel) gw1373 gw840
set_option maxRecDepth 100000 in
theorem me44 : ev_me MM 44 0 = true := ev_me_mk (by decide +kernel) gw1377 gw83
set_option maxRecDepth 100000 in
theorem me286 : ev_me MM 286 0 = true := ev_me_mk (by decide +kernel) gw1381 gw840
set_option maxRecDepth 100000 in
theorem me24 : ev_me MM 24 2 = true := ev_me_mk (by decide +kernel) gw1385 gw83
set_option maxRecDepth 100000 in
theorem me210 : ev_me MM 210 2 = true := ev_me_mk (by decide +kernel) gw1389 gw840
set_option maxRecDepth 100000 in
theorem me23 : ev_me MM 23 0 = true := ev_me_mk (by decide +kernel) gw1393 gw83
set_option maxRecDepth 100000 in
theorem me208 : ev_me MM 208 0 = true := ev_me_mk (by decide +kernel) gw1397 gw840
set_option maxRecDepth 100000 in
theorem me22 : ev_me MM 22 0 = true := ev_me_mk (by decide +kernel) gw1401 gw83
set_option maxRecDepth 100000 in
theorem me207 : ev_me MM 207 0 = true := ev_me_mk (by decide +kernel) gw1405 gw840
set_option maxRecDepth 100000 in
theorem me4 : ev_me MM 4 0 = true := ev_me_mk (by decide +kernel) gw1409 gw83
set_option maxRecDepth 100000 in
theorem me177 : ev_me MM 177 0 = true := ev_me_mk (by decide +kernel) gw1413 gw840
set_option maxRecDepth 100000 in
theorem me5 : ev_me MM 5 1 = true := ev_me_mk (by decide +kernel) gw1417 gw83
set_option maxRecDepth 100000 in
theorem me178 : ev_me MM 178 1 = true := ev_me_mk (by decide +kernel) gw1421 gw840
set_option maxRecDepth 100000 in
theorem me15 : ev_me MM 15 1 = true := ev_me_mk (by decide +kernel) gw1425 gw83
set_option maxRecDepth 100000 in
theorem me196 : ev_me MM 196 1 = true := ev_me_mk (by decide +kernel) gw1429 gw840
set_option maxRecDepth 100000 in
theorem me36 : ev_me MM 36 0 = true := ev_me_mk (by decide +kernel) gw1433 gw83
set_option maxRecDepth 100000 in
theorem me270 : ev_me MM 270 0 = true := ev_me_mk (by decide +kernel) gw1437 gw840
set_option maxRecDepth 100000 in
theorem me40 : ev_me MM 40 1 = true := ev_me_mk (by decide +kernel) gw1441 gw83
set_option maxRecDepth 100000 in
theorem me277 : ev_me MM 277 1 = true := ev_me_mk (by decide +kernel) gw1445 gw840
set_option maxRecDepth 100000 in
theorem me8 : ev_me MM 8 1 = true := ev_me_mk (by decide +kernel) gw1449 gw83
set_option maxRecDepth 100000 in
theorem me182 : ev_me MM 182 1 = true := ev_me_mk (by decide +kernel) gw1453 gw840
set_option maxRecDepth 100000 in
theorem me13 : ev_me MM 13 2 = true := ev_me_mk (by decide +kernel) gw1457 gw83
set_option maxRecDepth 100000 in
theorem me193 : ev_me MM 193 2 = true := ev_me_mk (by decide +kernel) gw1461 gw840
set_option maxRecDepth 100000 in
theorem me30 : ev_me MM 30 3 = true := ev_me_mk (by decide +kernel) gw1465 gw83
set_option maxRecDepth 100000 in
theorem me234 : ev_me MM 234 3 = true := ev_me_mk (by decide +kernel) gw1469 gw840
set_option maxRecDepth 100000 in
theorem me7 : ev_me MM 7 1 = true := ev_me_mk (by decide +kernel) gw1473 gw83
set_option maxRecDepth 100000 in
theorem me181 : ev_me MM 181 1 = true := ev_me_mk (by decide +kernel) gw1477 gw840
set_option maxRecDepth 100000 in
theorem me45 : ev_me MM 45 1 = true := ev_me_mk (by decide +kernel) gw1481 gw83
set_option maxRecDepth 100000 in
theorem me287 : ev_me MM 287 1 = true := ev_me_mk (by decide +kernel) gw1485 gw840
set_option maxRecDepth 100000 in
theorem me38 : ev_me MM 38 0 = true := ev_me_mk (by decide +kernel) gw1489 gw83
set_option maxRecDepth 100000 in
theorem me273 : ev_me MM 273 0 = true := ev_me_mk (by decide +kernel) gw1493 gw840
set_option maxRecDepth 100000 in
theorem me37 : ev_me MM 37 1 = true := ev_me_mk (by decide +kernel) gw1497 gw83
set_option maxRecDepth 100000 in
theorem me271 : ev_me MM 271 1 = true := ev_me_mk (by decide +kernel) gw1501 gw840
set_option maxRecDepth 100000 in
theorem me25 : ev_me MM 25 1 = true := ev_me_mk (by decide +kernel) gw1505 gw83
set_option maxRecDepth 100000 in
theorem me212 : ev_me MM 212 1 = true := ev_me_mk (by decide +kernel) gw1509 gw840
set_option maxRecDepth 100000 in
theorem me35 : ev_me MM 35 1 = true := ev_me_mk (by decide +kernel) gw1513 gw83
set_option maxRecDepth 100000 in
theorem me269 : ev_me MM 269 1 = true := ev_me_mk (by decide +kernel) gw1517 gw840
set_option maxRecDepth 100000 in
theorem me9 : ev_me MM 9 1 = true := ev_me_mk (by decide +kernel) gw1521 gw83
set_option maxRecDepth 100000 in
theorem me186 : ev_me MM 186 1 = true := ev_me_mk (by decide +kernel) gw1525 gw840
