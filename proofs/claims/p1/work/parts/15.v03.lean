set_option maxRecDepth 100000 in
theorem ev_c120 : ev_vr MM ev_w120 = true := ev_vr_mk (l := [(.putfield 1, 11, 0), (.invokevirtual 240, 125, 1)]) (by decide +kernel) (List.forall_mem_cons.mpr ⟨lk325, List.forall_mem_cons.mpr ⟨lk326, fun _ h => absurd h List.not_mem_nil⟩⟩)
set_option maxRecDepth 100000 in
theorem ev_c121 : ev_vr MM ev_w121 = true := ev_vr_mk (l := [(.putfield 1, 11, 0), (.invokestatic 75, 123, 3), (.getfield 104, 11, 16), (.getfield 98, 11, 14), (.getfield 120, 11, 21), (.getfield 113, 11, 19), (.getfield 123, 11, 22)]) (by decide +kernel) (List.forall_mem_cons.mpr ⟨lk325, List.forall_mem_cons.mpr ⟨lk344, List.forall_mem_cons.mpr ⟨lk376, List.forall_mem_cons.mpr ⟨lk323, List.forall_mem_cons.mpr ⟨lk377, List.forall_mem_cons.mpr ⟨lk362, List.forall_mem_cons.mpr ⟨lk378, fun _ h => absurd h List.not_mem_nil⟩⟩⟩⟩⟩⟩⟩)
set_option maxRecDepth 100000 in
theorem ev_c122 : ev_vr MM ev_w122 = true := ev_vr_mk (l := [(.getfield 98, 11, 14), (.invokestatic 75, 123, 3)]) (by decide +kernel) (List.forall_mem_cons.mpr ⟨lk323, List.forall_mem_cons.mpr ⟨lk344, fun _ h => absurd h List.not_mem_nil⟩⟩)
set_option maxRecDepth 100000 in
theorem ev_c123 : ev_vr MM ev_w123 = true := ev_vr_mk (l := []) (by decide +kernel) (fun _ h => absurd h List.not_mem_nil)
set_option maxRecDepth 100000 in
theorem ev_c124 : ev_vr MM ev_w124 = true := ev_vr_mk (l := [(.getfield 98, 11, 14)]) (by decide +kernel) (List.forall_mem_cons.mpr ⟨lk323, fun _ h => absurd h List.not_mem_nil⟩)
set_option maxRecDepth 100000 in
theorem ev_c125 : ev_vr MM ev_w125 = true := ev_vr_mk (l := [(.getfield 98, 11, 14), (.invokestatic 75, 123, 3)]) (by decide +kernel) (List.forall_mem_cons.mpr ⟨lk323, List.forall_mem_cons.mpr ⟨lk344, fun _ h => absurd h List.not_mem_nil⟩⟩)
set_option maxRecDepth 100000 in
theorem ev_c126 : ev_vr MM ev_w126 = true := ev_vr_mk (l := [(.getfield 30, 11, 7)]) (by decide +kernel) (List.forall_mem_cons.mpr ⟨lk327, fun _ h => absurd h List.not_mem_nil⟩)
set_option maxRecDepth 100000 in
theorem ev_c127 : ev_vr MM ev_w127 = true := ev_vr_mk (l := [(.getfield 98, 11, 14)]) (by decide +kernel) (List.forall_mem_cons.mpr ⟨lk323, fun _ h => absurd h List.not_mem_nil⟩)
set_option maxRecDepth 100000 in
theorem ev_c128 : ev_vr MM ev_w128 = true := ev_vr_mk (l := [(.getfield 30, 11, 7)]) (by decide +kernel) (List.forall_mem_cons.mpr ⟨lk327, fun _ h => absurd h List.not_mem_nil⟩)
set_option maxRecDepth 100000 in
theorem ev_c129 : ev_vr MM ev_w129 = true := ev_vr_mk (l := [(.invokevirtual 237, 124, 1)]) (by decide +kernel) (List.forall_mem_cons.mpr ⟨lk379, fun _ h => absurd h List.not_mem_nil⟩)
set_option maxRecDepth 100000 in
theorem ev_c130 : ev_vr MM ev_w130 = true := ev_vr_mk (l := [(.getfield 110, 11, 18), (.getfield 98, 11, 14)]) (by decide +kernel) (List.forall_mem_cons.mpr ⟨lk380, List.forall_mem_cons.mpr ⟨lk323, fun _ h => absurd h List.not_mem_nil⟩⟩)
set_option maxRecDepth 100000 in
theorem ev_c131 : ev_vr MM ev_w131 = true := ev_vr_mk (l := []) (by decide +kernel) (fun _ h => absurd h List.not_mem_nil)
set_option maxRecDepth 100000 in
theorem ev_c132 : ev_vr MM ev_w132 = true := ev_vr_mk (l := [(.putfield 1, 11, 0), (.getfield 98, 11, 14), (.invokevirtual 259, 129, 0), (.invokevirtual 262, 127, 1), (.invokevirtual 265, 153, 2)]) (by decide +kernel) (List.forall_mem_cons.mpr ⟨lk325, List.forall_mem_cons.mpr ⟨lk323, List.forall_mem_cons.mpr ⟨lk350, List.forall_mem_cons.mpr ⟨lk381, List.forall_mem_cons.mpr ⟨lk382, fun _ h => absurd h List.not_mem_nil⟩⟩⟩⟩⟩)
set_option maxRecDepth 100000 in
theorem ev_c133 : ev_vr MM ev_w133 = true := ev_vr_mk (l := [(.putfield 1, 11, 0), (.invokevirtual 240, 125, 1)]) (by decide +kernel) (List.forall_mem_cons.mpr ⟨lk325, List.forall_mem_cons.mpr ⟨lk326, fun _ h => absurd h List.not_mem_nil⟩⟩)
set_option maxRecDepth 100000 in
theorem ev_c134 : ev_vr MM ev_w134 = true := ev_vr_mk (l := [(.getfield 98, 11, 14), (.invokevirtual 237, 124, 1)]) (by decide +kernel) (List.forall_mem_cons.mpr ⟨lk323, List.forall_mem_cons.mpr ⟨lk379, fun _ h => absurd h List.not_mem_nil⟩⟩)
set_option maxRecDepth 100000 in
theorem ev_c135 : ev_vr MM ev_w135 = true := ev_vr_mk (l := [(.putfield 1, 11, 0), (.invokevirtual 240, 125, 1), (.invokevirtual 292, 93, 5)]) (by decide +kernel) (List.forall_mem_cons.mpr ⟨lk325, List.forall_mem_cons.mpr ⟨lk326, List.forall_mem_cons.mpr ⟨lk331, fun _ h => absurd h List.not_mem_nil⟩⟩⟩)
set_option maxRecDepth 100000 in
theorem ev_c136 : ev_vr MM ev_w136 = true := ev_vr_mk (l := [(.putfield 1, 11, 0), (.invokevirtual 89, 154, 0), (.invokestatic 75, 123, 3)]) (by decide +kernel) (List.forall_mem_cons.mpr ⟨lk325, List.forall_mem_cons.mpr ⟨lk332, List.forall_mem_cons.mpr ⟨lk344, fun _ h => absurd h List.not_mem_nil⟩⟩⟩)
set_option maxRecDepth 100000 in
theorem ev_c137 : ev_vr MM ev_w137 = true := ev_vr_mk (l := [(.putfield 1, 11, 0), (.getfield 311, 11, 29), (.invokestatic 75, 123, 3)]) (by decide +kernel) (List.forall_mem_cons.mpr ⟨lk325, List.forall_mem_cons.mpr ⟨lk383, List.forall_mem_cons.mpr ⟨lk344, fun _ h => absurd h List.not_mem_nil⟩⟩⟩)
set_option maxRecDepth 100000 in
theorem ev_c138 : ev_vr MM ev_w138 = true := ev_vr_mk (l := [(.getfield 98, 11, 14), (.invokestatic 275, 131, 2), (.invokevirtual 296, 134, 0)]) (by decide +kernel) (List.forall_mem_cons.mpr ⟨lk323, List.forall_mem_cons.mpr ⟨lk384, List.forall_mem_cons.mpr ⟨lk385, fun _ h => absurd h List.not_mem_nil⟩⟩⟩)
set_option maxRecDepth 100000 in
theorem ev_c139 : ev_vr MM ev_w139 = true := ev_vr_mk (l := [(.putfield 1, 11, 0), (.invokevirtual 240, 125, 1), (.invokevirtual 243, 143, 0)]) (by decide +kernel) (List.forall_mem_cons.mpr ⟨lk325, List.forall_mem_cons.mpr ⟨lk326, List.forall_mem_cons.mpr ⟨lk386, fun _ h => absurd h List.not_mem_nil⟩⟩⟩)
set_option maxRecDepth 100000 in
theorem ev_c140 : ev_vr MM ev_w140 = true := ev_vr_mk (l := [(.invokevirtual 429, 142, 0)]) (by decide +kernel) (List.forall_mem_cons.mpr ⟨lk387, fun _ h => absurd h List.not_mem_nil⟩)
set_option maxRecDepth 100000 in
theorem ev_c141 : ev_vr MM ev_w141 = true := ev_vr_mk (l := [(.invokevirtual 420, 140, 0)]) (by decide +kernel) (List.forall_mem_cons.mpr ⟨lk388, fun _ h => absurd h List.not_mem_nil⟩)
set_option maxRecDepth 100000 in
theorem ev_c142 : ev_vr MM ev_w142 = true := ev_vr_mk (l := [(.invokevirtual 86, 126, 1), (.invokevirtual 180, 128, 1), (.invokevirtual 72, 94, 1)]) (by decide +kernel) (List.forall_mem_cons.mpr ⟨lk389, List.forall_mem_cons.mpr ⟨lk390, List.forall_mem_cons.mpr ⟨lk391, fun _ h => absurd h List.not_mem_nil⟩⟩⟩)
set_option maxRecDepth 100000 in
theorem ev_c143 : ev_vr MM ev_w143 = true := ev_vr_mk (l := [(.putfield 1, 11, 0)]) (by decide +kernel) (List.forall_mem_cons.mpr ⟨lk325, fun _ h => absurd h List.not_mem_nil⟩)
set_option maxRecDepth 100000 in
theorem ev_c144 : ev_vr MM ev_w144 = true := ev_vr_mk (l := [(.putfield 1, 11, 0), (.invokestatic 75, 123, 3), (.getfield 123, 11, 22)]) (by decide +kernel) (List.forall_mem_cons.mpr ⟨lk325, List.forall_mem_cons.mpr ⟨lk344, List.forall_mem_cons.mpr ⟨lk378, fun _ h => absurd h List.not_mem_nil⟩⟩⟩)
set_option maxRecDepth 100000 in
theorem ev_c145 : ev_vr MM ev_w145 = true := ev_vr_mk (l := [(.putfield 1, 11, 0), (.getfield 98, 11, 14)]) (by decide +kernel) (List.forall_mem_cons.mpr ⟨lk325, List.forall_mem_cons.mpr ⟨lk323, fun _ h => absurd h List.not_mem_nil⟩⟩)
set_option maxRecDepth 100000 in
theorem ev_c146 : ev_vr MM ev_w146 = true := ev_vr_mk (l := [(.putfield 1, 11, 0), (.getfield 98, 11, 14)]) (by decide +kernel) (List.forall_mem_cons.mpr ⟨lk325, List.forall_mem_cons.mpr ⟨lk323, fun _ h => absurd h List.not_mem_nil⟩⟩)
set_option maxRecDepth 100000 in
theorem ev_c147 : ev_vr MM ev_w147 = true := ev_vr_mk (l := [(.invokevirtual 225, 96, 1), (.putfield 417, 11, 48), (.putfield 432, 11, 49), (.putfield 435, 11, 50), (.invokevirtual 450, 141, 0), (.getfield 69, 11, 11)]) (by decide +kernel) (List.forall_mem_cons.mpr ⟨lk345, List.forall_mem_cons.mpr ⟨lk392, List.forall_mem_cons.mpr ⟨lk393, List.forall_mem_cons.mpr ⟨lk394, List.forall_mem_cons.mpr ⟨lk395, List.forall_mem_cons.mpr ⟨lk396, fun _ h => absurd h List.not_mem_nil⟩⟩⟩⟩⟩⟩)
set_option maxRecDepth 100000 in
theorem ev_c148 : ev_vr MM ev_w148 = true := ev_vr_mk (l := [(.putfield 1, 11, 0), (.invokevirtual 240, 125, 1)]) (by decide +kernel) (List.forall_mem_cons.mpr ⟨lk325, List.forall_mem_cons.mpr ⟨lk326, fun _ h => absurd h List.not_mem_nil⟩⟩)
set_option maxRecDepth 100000 in
theorem ev_c149 : ev_vr MM ev_w149 = true := ev_vr_mk (l := [(.putfield 1, 11, 0), (.invokevirtual 240, 125, 1)]) (by decide +kernel) (List.forall_mem_cons.mpr ⟨lk325, List.forall_mem_cons.mpr ⟨lk326, fun _ h => absurd h List.not_mem_nil⟩⟩)
set_option maxRecDepth 100000 in
theorem ev_c150 : ev_vr MM ev_w150 = true := ev_vr_mk (l := [(.getfield 234, 11, 24), (.getfield 107, 11, 17), (.getfield 98, 11, 14), (.putfield 234, 11, 24)]) (by decide +kernel) (List.forall_mem_cons.mpr ⟨lk397, List.forall_mem_cons.mpr ⟨lk398, List.forall_mem_cons.mpr ⟨lk323, List.forall_mem_cons.mpr ⟨lk364, fun _ h => absurd h List.not_mem_nil⟩⟩⟩⟩)
set_option maxRecDepth 100000 in
theorem ev_c151 : ev_vr MM ev_w151 = true := ev_vr_mk (l := [(.getfield 98, 11, 14)]) (by decide +kernel) (List.forall_mem_cons.mpr ⟨lk323, fun _ h => absurd h List.not_mem_nil⟩)
set_option maxRecDepth 100000 in
theorem ev_c152 : ev_vr MM ev_w152 = true := ev_vr_mk (l := [(.getfield 98, 11, 14), (.getfield 110, 11, 18)]) (by decide +kernel) (List.forall_mem_cons.mpr ⟨lk323, List.forall_mem_cons.mpr ⟨lk380, fun _ h => absurd h List.not_mem_nil⟩⟩)
set_option maxRecDepth 100000 in
theorem ev_c153 : ev_vr MM ev_w153 = true := ev_vr_mk (l := [(.getfield 98, 11, 14)]) (by decide +kernel) (List.forall_mem_cons.mpr ⟨lk323, fun _ h => absurd h List.not_mem_nil⟩)
set_option maxRecDepth 100000 in
theorem ev_c154 : ev_vr MM ev_w154 = true := ev_vr_mk (l := [(.getfield 11, 11, 2), (.putfield 11, 11, 2)]) (by decide +kernel) (List.forall_mem_cons.mpr ⟨lk355, List.forall_mem_cons.mpr ⟨lk356, fun _ h => absurd h List.not_mem_nil⟩⟩)
set_option maxRecDepth 100000 in
theorem ev_c155 : ev_vr MM ev_w155 = true := ev_vr_mk (l := [(.putfield 1, 11, 0), (.getfield 145, 11, 33)]) (by decide +kernel) (List.forall_mem_cons.mpr ⟨lk325, List.forall_mem_cons.mpr ⟨lk399, fun _ h => absurd h List.not_mem_nil⟩⟩)
set_option maxRecDepth 100000 in
theorem ev_c156 : ev_vr MM ev_w156 = true := ev_vr_mk (l := [(.putfield 1, 11, 0), (.getfield 410, 11, 46)]) (by decide +kernel) (List.forall_mem_cons.mpr ⟨lk325, List.forall_mem_cons.mpr ⟨lk400, fun _ h => absurd h List.not_mem_nil⟩⟩)
set_option maxRecDepth 100000 in
theorem ev_c157 : ev_vr MM ev_w157 = true := ev_vr_mk (l := [(.putfield 1, 11, 0), (.getfield 234, 11, 24)]) (by decide +kernel) (List.forall_mem_cons.mpr ⟨lk325, List.forall_mem_cons.mpr ⟨lk397, fun _ h => absurd h List.not_mem_nil⟩⟩)
set_option maxRecDepth 100000 in
theorem ev_c158 : ev_vr MM ev_w158 = true := ev_vr_mk (l := [(.putfield 1, 11, 0), (.invokevirtual 240, 125, 1), (.invokevirtual 292, 93, 5)]) (by decide +kernel) (List.forall_mem_cons.mpr ⟨lk325, List.forall_mem_cons.mpr ⟨lk326, List.forall_mem_cons.mpr ⟨lk331, fun _ h => absurd h List.not_mem_nil⟩⟩⟩)
set_option maxRecDepth 100000 in
theorem ev_c159 : ev_vr MM ev_w159 = true := ev_vr_mk (l := [(.getfield 98, 11, 14), (.getfield 331, 11, 37), (.putfield 331, 11, 37), (.getfield 154, 11, 36), (.getfield 151, 11, 35)]) (by decide +kernel) (List.forall_mem_cons.mpr ⟨lk323, List.forall_mem_cons.mpr ⟨lk342, List.forall_mem_cons.mpr ⟨lk338, List.forall_mem_cons.mpr ⟨lk401, List.forall_mem_cons.mpr ⟨lk337, fun _ h => absurd h List.not_mem_nil⟩⟩⟩⟩⟩)
