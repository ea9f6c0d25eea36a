set_option maxRecDepth 100000 in
theorem ev_c0 : ev_vr MM ev_w0 = true := ev_vr_mk (l := [(.invokespecial 1, 999, 0), (.new 7, 9, 0), (.invokespecial 9, 85, 0), (.putfield 10, 10, 0), (.new 16, 1, 0), (.invokespecial 18, 46, 0), (.putfield 19, 10, 1), (.putfield 23, 10, 2), (.new 26, 3, 0), (.invokespecial 28, 55, 0), (.putfield 29, 10, 3), (.putfield 33, 10, 4), (.new 36, 6, 0), (.invokespecial 38, 72, 0), (.putfield 39, 10, 5), (.new 43, 0, 0), (.invokespecial 45, 43, 0), (.putfield 46, 10, 6), (.new 50, 7, 0), (.invokespecial 52, 76, 0), (.putfield 53, 10, 7), (.putfield 57, 10, 8), (.new 60, 5, 0), (.invokespecial 62, 70, 0), (.putfield 63, 10, 9), (.new 67, 4, 0), (.invokespecial 69, 67, 0), (.putfield 70, 10, 10), (.new 74, 8, 0), (.invokespecial 76, 84, 0), (.putfield 77, 10, 11), (.anewarray 81, 6, 0), (.new 81, 2, 0), (.invokespecial 83, 53, 0), (.putfield 84, 10, 12), (.putfield 88, 10, 13), (.putfield 92, 10, 14), (.putfield 95, 10, 15), (.putfield 98, 10, 16)]) (by decide +kernel) (List.forall_mem_cons.mpr ⟨lk0, List.forall_mem_cons.mpr ⟨lk1, List.forall_mem_cons.mpr ⟨lk2, List.forall_mem_cons.mpr ⟨lk3, List.forall_mem_cons.mpr ⟨lk4, List.forall_mem_cons.mpr ⟨lk5, List.forall_mem_cons.mpr ⟨lk6, List.forall_mem_cons.mpr ⟨lk7, List.forall_mem_cons.mpr ⟨lk8, List.forall_mem_cons.mpr ⟨lk9, List.forall_mem_cons.mpr ⟨lk10, List.forall_mem_cons.mpr ⟨lk11, List.forall_mem_cons.mpr ⟨lk12, List.forall_mem_cons.mpr ⟨lk13, List.forall_mem_cons.mpr ⟨lk14, List.forall_mem_cons.mpr ⟨lk15, List.forall_mem_cons.mpr ⟨lk16, List.forall_mem_cons.mpr ⟨lk17, List.forall_mem_cons.mpr ⟨lk18, List.forall_mem_cons.mpr ⟨lk19, List.forall_mem_cons.mpr ⟨lk20, List.forall_mem_cons.mpr ⟨lk21, List.forall_mem_cons.mpr ⟨lk22, List.forall_mem_cons.mpr ⟨lk23, List.forall_mem_cons.mpr ⟨lk24, List.forall_mem_cons.mpr ⟨lk25, List.forall_mem_cons.mpr ⟨lk26, List.forall_mem_cons.mpr ⟨lk27, List.forall_mem_cons.mpr ⟨lk28, List.forall_mem_cons.mpr ⟨lk29, List.forall_mem_cons.mpr ⟨lk30, List.forall_mem_cons.mpr ⟨lk31, List.forall_mem_cons.mpr ⟨lk32, List.forall_mem_cons.mpr ⟨lk33, List.forall_mem_cons.mpr ⟨lk34, List.forall_mem_cons.mpr ⟨lk35, List.forall_mem_cons.mpr ⟨lk36, List.forall_mem_cons.mpr ⟨lk37, List.forall_mem_cons.mpr ⟨lk38, fun _ h => absurd h List.not_mem_nil⟩⟩⟩⟩⟩⟩⟩⟩⟩⟩⟩⟩⟩⟩⟩⟩⟩⟩⟩⟩⟩⟩⟩⟩⟩⟩⟩⟩⟩⟩⟩⟩⟩⟩⟩⟩⟩⟩⟩)
set_option maxRecDepth 100000 in
theorem ev_c1 : ev_vr MM ev_w1 = true := ev_vr_mk (l := [(.invokevirtual 130, 26, 1)]) (by decide +kernel) (List.forall_mem_cons.mpr ⟨lk39, fun _ h => absurd h List.not_mem_nil⟩)
set_option maxRecDepth 100000 in
theorem ev_c2 : ev_vr MM ev_w2 = true := ev_vr_mk (l := [(.invokevirtual 130, 26, 1)]) (by decide +kernel) (List.forall_mem_cons.mpr ⟨lk39, fun _ h => absurd h List.not_mem_nil⟩)
set_option maxRecDepth 100000 in
theorem ev_c3 : ev_vr MM ev_w3 = true := ev_vr_mk (l := [(.getfield 70, 10, 10), (.getfield 19, 10, 1), (.getfield 29, 10, 3), (.invokevirtual 290, 69, 2)]) (by decide +kernel) (List.forall_mem_cons.mpr ⟨lk40, List.forall_mem_cons.mpr ⟨lk41, List.forall_mem_cons.mpr ⟨lk42, List.forall_mem_cons.mpr ⟨lk43, fun _ h => absurd h List.not_mem_nil⟩⟩⟩⟩)
set_option maxRecDepth 100000 in
theorem ev_c4 : ev_vr MM ev_w4 = true := ev_vr_mk (l := [(.invokevirtual 130, 26, 1)]) (by decide +kernel) (List.forall_mem_cons.mpr ⟨lk39, fun _ h => absurd h List.not_mem_nil⟩)
set_option maxRecDepth 100000 in
theorem ev_c5 : ev_vr MM ev_w5 = true := ev_vr_mk (l := []) (by decide +kernel) (fun _ h => absurd h List.not_mem_nil)
set_option maxRecDepth 100000 in
theorem ev_c6 : ev_vr MM ev_w6 = true := ev_vr_mk (l := [(.getfield 46, 10, 6), (.getfield 10, 10, 0), (.getfield 19, 10, 1), (.invokevirtual 318, 45, 2), (.invokevirtual 112, 38, 0), (.getfield 88, 10, 13), (.getfield 33, 10, 4), (.getfield 29, 10, 3), (.invokevirtual 315, 58, 1), (.invokevirtual 321, 44, 2), (.getfield 39, 10, 5), (.invokevirtual 226, 74, 1), (.getfield 325, 0, 6)]) (by decide +kernel) (List.forall_mem_cons.mpr ⟨lk44, List.forall_mem_cons.mpr ⟨lk45, List.forall_mem_cons.mpr ⟨lk41, List.forall_mem_cons.mpr ⟨lk46, List.forall_mem_cons.mpr ⟨lk47, List.forall_mem_cons.mpr ⟨lk48, List.forall_mem_cons.mpr ⟨lk49, List.forall_mem_cons.mpr ⟨lk42, List.forall_mem_cons.mpr ⟨lk50, List.forall_mem_cons.mpr ⟨lk51, List.forall_mem_cons.mpr ⟨lk52, List.forall_mem_cons.mpr ⟨lk53, List.forall_mem_cons.mpr ⟨lk54, fun _ h => absurd h List.not_mem_nil⟩⟩⟩⟩⟩⟩⟩⟩⟩⟩⟩⟩⟩)
set_option maxRecDepth 100000 in
theorem ev_c7 : ev_vr MM ev_w7 = true := ev_vr_mk (l := [(.getfield 77, 10, 11), (.getfield 306, 8, 1)]) (by decide +kernel) (List.forall_mem_cons.mpr ⟨lk55, List.forall_mem_cons.mpr ⟨lk56, fun _ h => absurd h List.not_mem_nil⟩⟩)
set_option maxRecDepth 100000 in
theorem ev_c8 : ev_vr MM ev_w8 = true := ev_vr_mk (l := [(.getfield 19, 10, 1), (.getfield 299, 1, 0), (.getfield 360, 1, 1), (.getfield 363, 1, 2), (.getfield 366, 1, 3), (.getfield 368, 1, 4), (.getfield 10, 10, 0), (.getfield 101, 9, 1)]) (by decide +kernel) (List.forall_mem_cons.mpr ⟨lk41, List.forall_mem_cons.mpr ⟨lk57, List.forall_mem_cons.mpr ⟨lk58, List.forall_mem_cons.mpr ⟨lk59, List.forall_mem_cons.mpr ⟨lk60, List.forall_mem_cons.mpr ⟨lk61, List.forall_mem_cons.mpr ⟨lk45, List.forall_mem_cons.mpr ⟨lk62, fun _ h => absurd h List.not_mem_nil⟩⟩⟩⟩⟩⟩⟩⟩)
set_option maxRecDepth 100000 in
theorem ev_c9 : ev_vr MM ev_w9 = true := ev_vr_mk (l := [(.getfield 29, 10, 3), (.invokevirtual 218, 59, 0), (.invokestatic 221, 901, 2), (.getfield 39, 10, 5), (.invokevirtual 226, 74, 1), (.getfield 19, 10, 1), (.invokevirtual 230, 64, 2)]) (by decide +kernel) (List.forall_mem_cons.mpr ⟨lk42, List.forall_mem_cons.mpr ⟨lk63, List.forall_mem_cons.mpr ⟨lk64, List.forall_mem_cons.mpr ⟨lk52, List.forall_mem_cons.mpr ⟨lk53, List.forall_mem_cons.mpr ⟨lk41, List.forall_mem_cons.mpr ⟨lk65, fun _ h => absurd h List.not_mem_nil⟩⟩⟩⟩⟩⟩⟩)
set_option maxRecDepth 100000 in
theorem ev_c10 : ev_vr MM ev_w10 = true := ev_vr_mk (l := [(.invokevirtual 174, 25, 1)]) (by decide +kernel) (List.forall_mem_cons.mpr ⟨lk66, fun _ h => absurd h List.not_mem_nil⟩)
set_option maxRecDepth 100000 in
theorem ev_c11 : ev_vr MM ev_w11 = true := ev_vr_mk (l := [(.invokevirtual 130, 26, 1)]) (by decide +kernel) (List.forall_mem_cons.mpr ⟨lk39, fun _ h => absurd h List.not_mem_nil⟩)
set_option maxRecDepth 100000 in
theorem ev_c12 : ev_vr MM ev_w12 = true := ev_vr_mk (l := [(.getfield 19, 10, 1), (.getfield 299, 1, 0)]) (by decide +kernel) (List.forall_mem_cons.mpr ⟨lk41, List.forall_mem_cons.mpr ⟨lk57, fun _ h => absurd h List.not_mem_nil⟩⟩)
set_option maxRecDepth 100000 in
theorem ev_c13 : ev_vr MM ev_w13 = true := ev_vr_mk (l := [(.getfield 23, 10, 2), (.getfield 10, 10, 0), (.invokevirtual 108, 52, 1), (.invokevirtual 112, 38, 0), (.getfield 88, 10, 13), (.getfield 19, 10, 1), (.putfield 19, 10, 1), (.putfield 23, 10, 2), (.getfield 29, 10, 3), (.getfield 118, 1, 5), (.invokevirtual 121, 57, 1), (.getfield 39, 10, 5), (.invokevirtual 124, 73, 0), (.getfield 53, 10, 7), (.invokevirtual 127, 78, 0)]) (by decide +kernel) (List.forall_mem_cons.mpr ⟨lk67, List.forall_mem_cons.mpr ⟨lk45, List.forall_mem_cons.mpr ⟨lk68, List.forall_mem_cons.mpr ⟨lk47, List.forall_mem_cons.mpr ⟨lk48, List.forall_mem_cons.mpr ⟨lk41, List.forall_mem_cons.mpr ⟨lk6, List.forall_mem_cons.mpr ⟨lk7, List.forall_mem_cons.mpr ⟨lk42, List.forall_mem_cons.mpr ⟨lk69, List.forall_mem_cons.mpr ⟨lk70, List.forall_mem_cons.mpr ⟨lk52, List.forall_mem_cons.mpr ⟨lk71, List.forall_mem_cons.mpr ⟨lk72, List.forall_mem_cons.mpr ⟨lk73, fun _ h => absurd h List.not_mem_nil⟩⟩⟩⟩⟩⟩⟩⟩⟩⟩⟩⟩⟩⟩⟩)
set_option maxRecDepth 100000 in
theorem ev_c14 : ev_vr MM ev_w14 = true := ev_vr_mk (l := [(.invokevirtual 130, 26, 1)]) (by decide +kernel) (List.forall_mem_cons.mpr ⟨lk39, fun _ h => absurd h List.not_mem_nil⟩)
set_option maxRecDepth 100000 in
theorem ev_c15 : ev_vr MM ev_w15 = true := ev_vr_mk (l := [(.getfield 10, 10, 0), (.getfield 101, 9, 1), (.putfield 101, 9, 1)]) (by decide +kernel) (List.forall_mem_cons.mpr ⟨lk45, List.forall_mem_cons.mpr ⟨lk62, List.forall_mem_cons.mpr ⟨lk74, fun _ h => absurd h List.not_mem_nil⟩⟩⟩)
set_option maxRecDepth 100000 in
theorem ev_c16 : ev_vr MM ev_w16 = true := ev_vr_mk (l := [(.getfield 88, 10, 13)]) (by decide +kernel) (List.forall_mem_cons.mpr ⟨lk48, fun _ h => absurd h List.not_mem_nil⟩)
set_option maxRecDepth 100000 in
theorem ev_c17 : ev_vr MM ev_w17 = true := ev_vr_mk (l := [(.getfield 10, 10, 0), (.getfield 101, 9, 1), (.invokevirtual 104, 89, 1)]) (by decide +kernel) (List.forall_mem_cons.mpr ⟨lk45, List.forall_mem_cons.mpr ⟨lk62, List.forall_mem_cons.mpr ⟨lk75, fun _ h => absurd h List.not_mem_nil⟩⟩⟩)
set_option maxRecDepth 100000 in
theorem ev_c18 : ev_vr MM ev_w18 = true := ev_vr_mk (l := [(.getfield 92, 10, 14), (.invokestatic 281, 5, 2)]) (by decide +kernel) (List.forall_mem_cons.mpr ⟨lk76, List.forall_mem_cons.mpr ⟨lk77, fun _ h => absurd h List.not_mem_nil⟩⟩)
set_option maxRecDepth 100000 in
theorem ev_c19 : ev_vr MM ev_w19 = true := ev_vr_mk (l := [(.getfield 10, 10, 0), (.getfield 101, 9, 1), (.putfield 101, 9, 1)]) (by decide +kernel) (List.forall_mem_cons.mpr ⟨lk45, List.forall_mem_cons.mpr ⟨lk62, List.forall_mem_cons.mpr ⟨lk74, fun _ h => absurd h List.not_mem_nil⟩⟩⟩)
set_option maxRecDepth 100000 in
theorem ev_c20 : ev_vr MM ev_w20 = true := ev_vr_mk (l := [(.invokevirtual 130, 26, 1)]) (by decide +kernel) (List.forall_mem_cons.mpr ⟨lk39, fun _ h => absurd h List.not_mem_nil⟩)
set_option maxRecDepth 100000 in
theorem ev_c21 : ev_vr MM ev_w21 = true := ev_vr_mk (l := [(.getfield 98, 10, 16)]) (by decide +kernel) (List.forall_mem_cons.mpr ⟨lk78, fun _ h => absurd h List.not_mem_nil⟩)
set_option maxRecDepth 100000 in
theorem ev_c22 : ev_vr MM ev_w22 = true := ev_vr_mk (l := [(.getfield 19, 10, 1), (.invokevirtual 287, 50, 0), (.putfield 98, 10, 16), (.getfield 98, 10, 16), (.invokestatic 276, 160, 1)]) (by decide +kernel) (List.forall_mem_cons.mpr ⟨lk41, List.forall_mem_cons.mpr ⟨lk79, List.forall_mem_cons.mpr ⟨lk38, List.forall_mem_cons.mpr ⟨lk78, List.forall_mem_cons.mpr ⟨lk80, fun _ h => absurd h List.not_mem_nil⟩⟩⟩⟩⟩)
set_option maxRecDepth 100000 in
theorem ev_c23 : ev_vr MM ev_w23 = true := ev_vr_mk (l := [(.invokevirtual 130, 26, 1)]) (by decide +kernel) (List.forall_mem_cons.mpr ⟨lk39, fun _ h => absurd h List.not_mem_nil⟩)
set_option maxRecDepth 100000 in
theorem ev_c24 : ev_vr MM ev_w24 = true := ev_vr_mk (l := [(.getfield 84, 10, 12), (.getfield 19, 10, 1), (.getfield 29, 10, 3), (.getfield 53, 10, 7), (.invokevirtual 351, 54, 3)]) (by decide +kernel) (List.forall_mem_cons.mpr ⟨lk81, List.forall_mem_cons.mpr ⟨lk41, List.forall_mem_cons.mpr ⟨lk42, List.forall_mem_cons.mpr ⟨lk72, List.forall_mem_cons.mpr ⟨lk82, fun _ h => absurd h List.not_mem_nil⟩⟩⟩⟩⟩)
set_option maxRecDepth 100000 in
theorem ev_c25 : ev_vr MM ev_w25 = true := ev_vr_mk (l := [(.getfield 19, 10, 1), (.getfield 360, 1, 1)]) (by decide +kernel) (List.forall_mem_cons.mpr ⟨lk41, List.forall_mem_cons.mpr ⟨lk58, fun _ h => absurd h List.not_mem_nil⟩⟩)
set_option maxRecDepth 100000 in
theorem ev_c26 : ev_vr MM ev_w26 = true := ev_vr_mk (l := [(.getfield 19, 10, 1), (.getfield 299, 1, 0)]) (by decide +kernel) (List.forall_mem_cons.mpr ⟨lk41, List.forall_mem_cons.mpr ⟨lk57, fun _ h => absurd h List.not_mem_nil⟩⟩)
set_option maxRecDepth 100000 in
theorem ev_c27 : ev_vr MM ev_w27 = true := ev_vr_mk (l := [(.getfield 29, 10, 3), (.getfield 190, 3, 0), (.invokevirtual 193, 62, 0), (.getfield 197, 3, 3), (.invokevirtual 198, 66, 0), (.getfield 19, 10, 1), (.invokevirtual 201, 65, 1), (.invokevirtual 205, 56, 0), (.getfield 208, 3, 1), (.getfield 211, 3, 2)]) (by decide +kernel) (List.forall_mem_cons.mpr ⟨lk42, List.forall_mem_cons.mpr ⟨lk83, List.forall_mem_cons.mpr ⟨lk84, List.forall_mem_cons.mpr ⟨lk85, List.forall_mem_cons.mpr ⟨lk86, List.forall_mem_cons.mpr ⟨lk41, List.forall_mem_cons.mpr ⟨lk87, List.forall_mem_cons.mpr ⟨lk88, List.forall_mem_cons.mpr ⟨lk89, List.forall_mem_cons.mpr ⟨lk90, fun _ h => absurd h List.not_mem_nil⟩⟩⟩⟩⟩⟩⟩⟩⟩⟩)
set_option maxRecDepth 100000 in
theorem ev_c28 : ev_vr MM ev_w28 = true := ev_vr_mk (l := [(.invokevirtual 130, 26, 1)]) (by decide +kernel) (List.forall_mem_cons.mpr ⟨lk39, fun _ h => absurd h List.not_mem_nil⟩)
set_option maxRecDepth 100000 in
theorem ev_c29 : ev_vr MM ev_w29 = true := ev_vr_mk (l := [(.invokevirtual 130, 26, 1)]) (by decide +kernel) (List.forall_mem_cons.mpr ⟨lk39, fun _ h => absurd h List.not_mem_nil⟩)
set_option maxRecDepth 100000 in
theorem ev_c30 : ev_vr MM ev_w30 = true := ev_vr_mk (l := [(.getfield 10, 10, 0), (.getfield 101, 9, 1), (.putfield 101, 9, 1)]) (by decide +kernel) (List.forall_mem_cons.mpr ⟨lk45, List.forall_mem_cons.mpr ⟨lk62, List.forall_mem_cons.mpr ⟨lk74, fun _ h => absurd h List.not_mem_nil⟩⟩⟩)
set_option maxRecDepth 100000 in
theorem ev_c31 : ev_vr MM ev_w31 = true := ev_vr_mk (l := [(.getfield 63, 10, 9), (.invokevirtual 260, 71, 1)]) (by decide +kernel) (List.forall_mem_cons.mpr ⟨lk91, List.forall_mem_cons.mpr ⟨lk92, fun _ h => absurd h List.not_mem_nil⟩⟩)
set_option maxRecDepth 100000 in
theorem ev_c32 : ev_vr MM ev_w32 = true := ev_vr_mk (l := [(.getfield 84, 10, 12), (.getfield 354, 2, 0)]) (by decide +kernel) (List.forall_mem_cons.mpr ⟨lk81, List.forall_mem_cons.mpr ⟨lk93, fun _ h => absurd h List.not_mem_nil⟩⟩)
set_option maxRecDepth 100000 in
theorem ev_c33 : ev_vr MM ev_w33 = true := ev_vr_mk (l := [(.getfield 19, 10, 1), (.getfield 299, 1, 0)]) (by decide +kernel) (List.forall_mem_cons.mpr ⟨lk41, List.forall_mem_cons.mpr ⟨lk57, fun _ h => absurd h List.not_mem_nil⟩⟩)
set_option maxRecDepth 100000 in
theorem ev_c34 : ev_vr MM ev_w34 = true := ev_vr_mk (l := [(.getfield 53, 10, 7), (.getfield 345, 7, 0)]) (by decide +kernel) (List.forall_mem_cons.mpr ⟨lk72, List.forall_mem_cons.mpr ⟨lk94, fun _ h => absurd h List.not_mem_nil⟩⟩)
set_option maxRecDepth 100000 in
theorem ev_c35 : ev_vr MM ev_w35 = true := ev_vr_mk (l := [(.getfield 57, 10, 8), (.getfield 10, 10, 0), (.getfield 19, 10, 1), (.invokevirtual 344, 82, 2), (.invokevirtual 112, 38, 0), (.getfield 88, 10, 13), (.getfield 115, 9, 11)]) (by decide +kernel) (List.forall_mem_cons.mpr ⟨lk95, List.forall_mem_cons.mpr ⟨lk45, List.forall_mem_cons.mpr ⟨lk41, List.forall_mem_cons.mpr ⟨lk96, List.forall_mem_cons.mpr ⟨lk47, List.forall_mem_cons.mpr ⟨lk48, List.forall_mem_cons.mpr ⟨lk97, fun _ h => absurd h List.not_mem_nil⟩⟩⟩⟩⟩⟩⟩)
set_option maxRecDepth 100000 in
theorem ev_c36 : ev_vr MM ev_w36 = true := ev_vr_mk (l := [(.invokevirtual 130, 26, 1)]) (by decide +kernel) (List.forall_mem_cons.mpr ⟨lk39, fun _ h => absurd h List.not_mem_nil⟩)
set_option maxRecDepth 100000 in
theorem ev_c37 : ev_vr MM ev_w37 = true := ev_vr_mk (l := [(.invokevirtual 130, 26, 1)]) (by decide +kernel) (List.forall_mem_cons.mpr ⟨lk39, fun _ h => absurd h List.not_mem_nil⟩)
set_option maxRecDepth 100000 in
theorem ev_c38 : ev_vr MM ev_w38 = true := ev_vr_mk (l := [(.getfield 10, 10, 0), (.getfield 378, 9, 10), (.putfield 88, 10, 13), (.putfield 101, 9, 1)]) (by decide +kernel) (List.forall_mem_cons.mpr ⟨lk45, List.forall_mem_cons.mpr ⟨lk98, List.forall_mem_cons.mpr ⟨lk35, List.forall_mem_cons.mpr ⟨lk74, fun _ h => absurd h List.not_mem_nil⟩⟩⟩⟩)
set_option maxRecDepth 100000 in
theorem ev_c39 : ev_vr MM ev_w39 = true := ev_vr_mk (l := [(.getfield 95, 10, 15)]) (by decide +kernel) (List.forall_mem_cons.mpr ⟨lk99, fun _ h => absurd h List.not_mem_nil⟩)
