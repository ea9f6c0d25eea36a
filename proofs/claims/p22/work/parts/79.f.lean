/-! ===== count, skill ===== -/
theorem map_i {l l2 : List Int32} {i j : Nat} (h : (l[i]?).map Value.int = (l2[j]?).map Value.int) : l[i]? = l2[j]? := by
  cases e : l[i]? with
  | none => cases e2 : l2[j]? with
    | none => rfl
    | some y => rw [e, e2] at h; cases h
  | some x => cases e2 : l2[j]? with
    | none => rw [e, e2] at h; cases h
    | some y => rw [e, e2] at h; cases h; rfl
theorem i32_k {z : Int32} {k : Nat} (hk : k < 100) (h : z.toInt = (k : Int)) : z = Int32.ofNat k := Int32.toInt_inj.mp (by rw [n_int (by omega)]; exact h)
theorem x_cnt3_0 {H : List AE} (hlen : Nat.ble 204 H.length = true) {s se ss : Nat} {lt fb tq gb : Int32} {P Dn gl bo : Nat} {lw cl id : Int32} (h0 : H[0]? = some (.inr (10, [.ref 1, .ref 3, .ref s, .ref 23, .ref 31, .ref 39, .ref 105, .ref se, .ref ss, .ref 120, .ref 125, .ref 129, .ref 131, .int lt, .int fb, .int tq, .int gb]))) (h1 : H[3]? = some (dcl3 P Dn lw cl id gl bo)) : FR 1 9 [.ref 0, .int (Int32.ofNat 0)] H (some (.int (Int32.ofNat P)), ov H []) := by
  refine FR_ov (l := [(0, .inr (10, [.ref 1, .ref 3, .ref s, .ref 23, .ref 31, .ref 39, .ref 105, .ref se, .ref ss, .ref 120, .ref 125, .ref 129, .ref 131, .int lt, .int fb, .int tq, .int gb])), (3, dcl3 P Dn lw cl id gl bo)]) (l2 := [(0, .inr (10, [.ref 1, .ref 3, .ref s, .ref 23, .ref 31, .ref 39, .ref 105, .ref se, .ref ss, .ref 120, .ref 125, .ref 129, .ref 131, .int lt, .int fb, .int tq, .int gb])), (3, dcl3 P Dn lw cl id gl bo)]) (ov_id h0 (ov_c1 h1)) rfl (ov_id h0 (ov_c1 h1)) ?_
  refine RT_step (pc2 := 1) rfl (fun _ _ => rfl) ?_
  refine RT_step (pc2 := 40) rfl (fun _ _ => rfl) ?_
  refine RT_step (pc2 := 41) rfl (fun _ _ => rfl) ?_
  refine ow_gf rfl rfl rfl hlen rfl ?_
  refine ow_gf rfl rfl rfl hlen rfl ?_
  exact ow_irt rfl rfl rfl
theorem x_cnt3_1 {H : List AE} (hlen : Nat.ble 204 H.length = true) {s se ss : Nat} {lt fb tq gb : Int32} {P Dn gl bo : Nat} {lw cl id : Int32} (h0 : H[0]? = some (.inr (10, [.ref 1, .ref 3, .ref s, .ref 23, .ref 31, .ref 39, .ref 105, .ref se, .ref ss, .ref 120, .ref 125, .ref 129, .ref 131, .int lt, .int fb, .int tq, .int gb]))) (h1 : H[3]? = some (dcl3 P Dn lw cl id gl bo)) : FR 1 9 [.ref 0, .int (Int32.ofNat 1)] H (some (.int (Int32.ofNat Dn)), ov H []) := by
  refine FR_ov (l := [(0, .inr (10, [.ref 1, .ref 3, .ref s, .ref 23, .ref 31, .ref 39, .ref 105, .ref se, .ref ss, .ref 120, .ref 125, .ref 129, .ref 131, .int lt, .int fb, .int tq, .int gb])), (3, dcl3 P Dn lw cl id gl bo)]) (l2 := [(0, .inr (10, [.ref 1, .ref 3, .ref s, .ref 23, .ref 31, .ref 39, .ref 105, .ref se, .ref ss, .ref 120, .ref 125, .ref 129, .ref 131, .int lt, .int fb, .int tq, .int gb])), (3, dcl3 P Dn lw cl id gl bo)]) (ov_id h0 (ov_c1 h1)) rfl (ov_id h0 (ov_c1 h1)) ?_
  refine RT_step (pc2 := 1) rfl (fun _ _ => rfl) ?_
  refine RT_step (pc2 := 48) rfl (fun _ _ => rfl) ?_
  refine RT_step (pc2 := 49) rfl (fun _ _ => rfl) ?_
  refine ow_gf rfl rfl rfl hlen rfl ?_
  refine ow_gf rfl rfl rfl hlen rfl ?_
  exact ow_irt rfl rfl rfl
theorem x_cnt3_2 {H : List AE} (hlen : Nat.ble 204 H.length = true) {s se ss : Nat} {lt fb tq gb : Int32} {P Dn gl bo : Nat} {lw cl id : Int32} (h0 : H[0]? = some (.inr (10, [.ref 1, .ref 3, .ref s, .ref 23, .ref 31, .ref 39, .ref 105, .ref se, .ref ss, .ref 120, .ref 125, .ref 129, .ref 131, .int lt, .int fb, .int tq, .int gb]))) (h1 : H[3]? = some (dcl3 P Dn lw cl id gl bo)) : FR 1 9 [.ref 0, .int (Int32.ofNat 2)] H (some (.int (lw)), ov H []) := by
  refine FR_ov (l := [(0, .inr (10, [.ref 1, .ref 3, .ref s, .ref 23, .ref 31, .ref 39, .ref 105, .ref se, .ref ss, .ref 120, .ref 125, .ref 129, .ref 131, .int lt, .int fb, .int tq, .int gb])), (3, dcl3 P Dn lw cl id gl bo)]) (l2 := [(0, .inr (10, [.ref 1, .ref 3, .ref s, .ref 23, .ref 31, .ref 39, .ref 105, .ref se, .ref ss, .ref 120, .ref 125, .ref 129, .ref 131, .int lt, .int fb, .int tq, .int gb])), (3, dcl3 P Dn lw cl id gl bo)]) (ov_id h0 (ov_c1 h1)) rfl (ov_id h0 (ov_c1 h1)) ?_
  refine RT_step (pc2 := 1) rfl (fun _ _ => rfl) ?_
  refine RT_step (pc2 := 56) rfl (fun _ _ => rfl) ?_
  refine RT_step (pc2 := 57) rfl (fun _ _ => rfl) ?_
  refine ow_gf rfl rfl rfl hlen rfl ?_
  refine ow_gf rfl rfl rfl hlen rfl ?_
  exact ow_irt rfl rfl rfl
theorem x_cnt3_3 {H : List AE} (hlen : Nat.ble 204 H.length = true) {s se ss : Nat} {lt fb tq gb : Int32} {P Dn gl bo : Nat} {lw cl id : Int32} (h0 : H[0]? = some (.inr (10, [.ref 1, .ref 3, .ref s, .ref 23, .ref 31, .ref 39, .ref 105, .ref se, .ref ss, .ref 120, .ref 125, .ref 129, .ref 131, .int lt, .int fb, .int tq, .int gb]))) (h1 : H[3]? = some (dcl3 P Dn lw cl id gl bo)) : FR 1 9 [.ref 0, .int (Int32.ofNat 3)] H (some (.int (cl)), ov H []) := by
  refine FR_ov (l := [(0, .inr (10, [.ref 1, .ref 3, .ref s, .ref 23, .ref 31, .ref 39, .ref 105, .ref se, .ref ss, .ref 120, .ref 125, .ref 129, .ref 131, .int lt, .int fb, .int tq, .int gb])), (3, dcl3 P Dn lw cl id gl bo)]) (l2 := [(0, .inr (10, [.ref 1, .ref 3, .ref s, .ref 23, .ref 31, .ref 39, .ref 105, .ref se, .ref ss, .ref 120, .ref 125, .ref 129, .ref 131, .int lt, .int fb, .int tq, .int gb])), (3, dcl3 P Dn lw cl id gl bo)]) (ov_id h0 (ov_c1 h1)) rfl (ov_id h0 (ov_c1 h1)) ?_
  refine RT_step (pc2 := 1) rfl (fun _ _ => rfl) ?_
  refine RT_step (pc2 := 64) rfl (fun _ _ => rfl) ?_
  refine RT_step (pc2 := 65) rfl (fun _ _ => rfl) ?_
  refine ow_gf rfl rfl rfl hlen rfl ?_
  refine ow_gf rfl rfl rfl hlen rfl ?_
  exact ow_irt rfl rfl rfl
theorem x_cnt3_4 {H : List AE} (hlen : Nat.ble 204 H.length = true) {s se ss : Nat} {lt fb tq gb : Int32} {P Dn gl bo : Nat} {lw cl id : Int32} (h0 : H[0]? = some (.inr (10, [.ref 1, .ref 3, .ref s, .ref 23, .ref 31, .ref 39, .ref 105, .ref se, .ref ss, .ref 120, .ref 125, .ref 129, .ref 131, .int lt, .int fb, .int tq, .int gb]))) (h1 : H[3]? = some (dcl3 P Dn lw cl id gl bo)) : FR 1 9 [.ref 0, .int (Int32.ofNat 4)] H (some (.int (id)), ov H []) := by
  refine FR_ov (l := [(0, .inr (10, [.ref 1, .ref 3, .ref s, .ref 23, .ref 31, .ref 39, .ref 105, .ref se, .ref ss, .ref 120, .ref 125, .ref 129, .ref 131, .int lt, .int fb, .int tq, .int gb])), (3, dcl3 P Dn lw cl id gl bo)]) (l2 := [(0, .inr (10, [.ref 1, .ref 3, .ref s, .ref 23, .ref 31, .ref 39, .ref 105, .ref se, .ref ss, .ref 120, .ref 125, .ref 129, .ref 131, .int lt, .int fb, .int tq, .int gb])), (3, dcl3 P Dn lw cl id gl bo)]) (ov_id h0 (ov_c1 h1)) rfl (ov_id h0 (ov_c1 h1)) ?_
  refine RT_step (pc2 := 1) rfl (fun _ _ => rfl) ?_
  refine RT_step (pc2 := 72) rfl (fun _ _ => rfl) ?_
  refine RT_step (pc2 := 73) rfl (fun _ _ => rfl) ?_
  refine ow_gf rfl rfl rfl hlen rfl ?_
  refine ow_gf rfl rfl rfl hlen rfl ?_
  exact ow_irt rfl rfl rfl
theorem x_cnt13_0 {H : List AE} (hlen : Nat.ble 204 H.length = true) {s se ss : Nat} {lt fb tq gb : Int32} {P Dn gl bo : Nat} {lw cl id : Int32} (h0 : H[0]? = some (.inr (10, [.ref 1, .ref 13, .ref s, .ref 23, .ref 31, .ref 39, .ref 105, .ref se, .ref ss, .ref 120, .ref 125, .ref 129, .ref 131, .int lt, .int fb, .int tq, .int gb]))) (h1 : H[13]? = some (dcl13 P Dn lw cl id gl bo)) : FR 1 9 [.ref 0, .int (Int32.ofNat 0)] H (some (.int (Int32.ofNat P)), ov H []) := by
  refine FR_ov (l := [(0, .inr (10, [.ref 1, .ref 13, .ref s, .ref 23, .ref 31, .ref 39, .ref 105, .ref se, .ref ss, .ref 120, .ref 125, .ref 129, .ref 131, .int lt, .int fb, .int tq, .int gb])), (13, dcl13 P Dn lw cl id gl bo)]) (l2 := [(0, .inr (10, [.ref 1, .ref 13, .ref s, .ref 23, .ref 31, .ref 39, .ref 105, .ref se, .ref ss, .ref 120, .ref 125, .ref 129, .ref 131, .int lt, .int fb, .int tq, .int gb])), (13, dcl13 P Dn lw cl id gl bo)]) (ov_id h0 (ov_c1 h1)) rfl (ov_id h0 (ov_c1 h1)) ?_
  refine RT_step (pc2 := 1) rfl (fun _ _ => rfl) ?_
  refine RT_step (pc2 := 40) rfl (fun _ _ => rfl) ?_
  refine RT_step (pc2 := 41) rfl (fun _ _ => rfl) ?_
  refine ow_gf rfl rfl rfl hlen rfl ?_
  refine ow_gf rfl rfl rfl hlen rfl ?_
  exact ow_irt rfl rfl rfl
theorem x_cnt13_1 {H : List AE} (hlen : Nat.ble 204 H.length = true) {s se ss : Nat} {lt fb tq gb : Int32} {P Dn gl bo : Nat} {lw cl id : Int32} (h0 : H[0]? = some (.inr (10, [.ref 1, .ref 13, .ref s, .ref 23, .ref 31, .ref 39, .ref 105, .ref se, .ref ss, .ref 120, .ref 125, .ref 129, .ref 131, .int lt, .int fb, .int tq, .int gb]))) (h1 : H[13]? = some (dcl13 P Dn lw cl id gl bo)) : FR 1 9 [.ref 0, .int (Int32.ofNat 1)] H (some (.int (Int32.ofNat Dn)), ov H []) := by
  refine FR_ov (l := [(0, .inr (10, [.ref 1, .ref 13, .ref s, .ref 23, .ref 31, .ref 39, .ref 105, .ref se, .ref ss, .ref 120, .ref 125, .ref 129, .ref 131, .int lt, .int fb, .int tq, .int gb])), (13, dcl13 P Dn lw cl id gl bo)]) (l2 := [(0, .inr (10, [.ref 1, .ref 13, .ref s, .ref 23, .ref 31, .ref 39, .ref 105, .ref se, .ref ss, .ref 120, .ref 125, .ref 129, .ref 131, .int lt, .int fb, .int tq, .int gb])), (13, dcl13 P Dn lw cl id gl bo)]) (ov_id h0 (ov_c1 h1)) rfl (ov_id h0 (ov_c1 h1)) ?_
  refine RT_step (pc2 := 1) rfl (fun _ _ => rfl) ?_
  refine RT_step (pc2 := 48) rfl (fun _ _ => rfl) ?_
  refine RT_step (pc2 := 49) rfl (fun _ _ => rfl) ?_
  refine ow_gf rfl rfl rfl hlen rfl ?_
  refine ow_gf rfl rfl rfl hlen rfl ?_
  exact ow_irt rfl rfl rfl
theorem x_cnt13_2 {H : List AE} (hlen : Nat.ble 204 H.length = true) {s se ss : Nat} {lt fb tq gb : Int32} {P Dn gl bo : Nat} {lw cl id : Int32} (h0 : H[0]? = some (.inr (10, [.ref 1, .ref 13, .ref s, .ref 23, .ref 31, .ref 39, .ref 105, .ref se, .ref ss, .ref 120, .ref 125, .ref 129, .ref 131, .int lt, .int fb, .int tq, .int gb]))) (h1 : H[13]? = some (dcl13 P Dn lw cl id gl bo)) : FR 1 9 [.ref 0, .int (Int32.ofNat 2)] H (some (.int (lw)), ov H []) := by
  refine FR_ov (l := [(0, .inr (10, [.ref 1, .ref 13, .ref s, .ref 23, .ref 31, .ref 39, .ref 105, .ref se, .ref ss, .ref 120, .ref 125, .ref 129, .ref 131, .int lt, .int fb, .int tq, .int gb])), (13, dcl13 P Dn lw cl id gl bo)]) (l2 := [(0, .inr (10, [.ref 1, .ref 13, .ref s, .ref 23, .ref 31, .ref 39, .ref 105, .ref se, .ref ss, .ref 120, .ref 125, .ref 129, .ref 131, .int lt, .int fb, .int tq, .int gb])), (13, dcl13 P Dn lw cl id gl bo)]) (ov_id h0 (ov_c1 h1)) rfl (ov_id h0 (ov_c1 h1)) ?_
  refine RT_step (pc2 := 1) rfl (fun _ _ => rfl) ?_
  refine RT_step (pc2 := 56) rfl (fun _ _ => rfl) ?_
  refine RT_step (pc2 := 57) rfl (fun _ _ => rfl) ?_
  refine ow_gf rfl rfl rfl hlen rfl ?_
  refine ow_gf rfl rfl rfl hlen rfl ?_
  exact ow_irt rfl rfl rfl
theorem x_cnt13_3 {H : List AE} (hlen : Nat.ble 204 H.length = true) {s se ss : Nat} {lt fb tq gb : Int32} {P Dn gl bo : Nat} {lw cl id : Int32} (h0 : H[0]? = some (.inr (10, [.ref 1, .ref 13, .ref s, .ref 23, .ref 31, .ref 39, .ref 105, .ref se, .ref ss, .ref 120, .ref 125, .ref 129, .ref 131, .int lt, .int fb, .int tq, .int gb]))) (h1 : H[13]? = some (dcl13 P Dn lw cl id gl bo)) : FR 1 9 [.ref 0, .int (Int32.ofNat 3)] H (some (.int (cl)), ov H []) := by
  refine FR_ov (l := [(0, .inr (10, [.ref 1, .ref 13, .ref s, .ref 23, .ref 31, .ref 39, .ref 105, .ref se, .ref ss, .ref 120, .ref 125, .ref 129, .ref 131, .int lt, .int fb, .int tq, .int gb])), (13, dcl13 P Dn lw cl id gl bo)]) (l2 := [(0, .inr (10, [.ref 1, .ref 13, .ref s, .ref 23, .ref 31, .ref 39, .ref 105, .ref se, .ref ss, .ref 120, .ref 125, .ref 129, .ref 131, .int lt, .int fb, .int tq, .int gb])), (13, dcl13 P Dn lw cl id gl bo)]) (ov_id h0 (ov_c1 h1)) rfl (ov_id h0 (ov_c1 h1)) ?_
  refine RT_step (pc2 := 1) rfl (fun _ _ => rfl) ?_
  refine RT_step (pc2 := 64) rfl (fun _ _ => rfl) ?_
  refine RT_step (pc2 := 65) rfl (fun _ _ => rfl) ?_
  refine ow_gf rfl rfl rfl hlen rfl ?_
  refine ow_gf rfl rfl rfl hlen rfl ?_
  exact ow_irt rfl rfl rfl
theorem x_cnt13_4 {H : List AE} (hlen : Nat.ble 204 H.length = true) {s se ss : Nat} {lt fb tq gb : Int32} {P Dn gl bo : Nat} {lw cl id : Int32} (h0 : H[0]? = some (.inr (10, [.ref 1, .ref 13, .ref s, .ref 23, .ref 31, .ref 39, .ref 105, .ref se, .ref ss, .ref 120, .ref 125, .ref 129, .ref 131, .int lt, .int fb, .int tq, .int gb]))) (h1 : H[13]? = some (dcl13 P Dn lw cl id gl bo)) : FR 1 9 [.ref 0, .int (Int32.ofNat 4)] H (some (.int (id)), ov H []) := by
  refine FR_ov (l := [(0, .inr (10, [.ref 1, .ref 13, .ref s, .ref 23, .ref 31, .ref 39, .ref 105, .ref se, .ref ss, .ref 120, .ref 125, .ref 129, .ref 131, .int lt, .int fb, .int tq, .int gb])), (13, dcl13 P Dn lw cl id gl bo)]) (l2 := [(0, .inr (10, [.ref 1, .ref 13, .ref s, .ref 23, .ref 31, .ref 39, .ref 105, .ref se, .ref ss, .ref 120, .ref 125, .ref 129, .ref 131, .int lt, .int fb, .int tq, .int gb])), (13, dcl13 P Dn lw cl id gl bo)]) (ov_id h0 (ov_c1 h1)) rfl (ov_id h0 (ov_c1 h1)) ?_
  refine RT_step (pc2 := 1) rfl (fun _ _ => rfl) ?_
  refine RT_step (pc2 := 72) rfl (fun _ _ => rfl) ?_
  refine RT_step (pc2 := 73) rfl (fun _ _ => rfl) ?_
  refine ow_gf rfl rfl rfl hlen rfl ?_
  refine ow_gf rfl rfl rfl hlen rfl ?_
  exact ow_irt rfl rfl rfl
theorem x_cnt5 {H : List AE} (hlen : Nat.ble 204 H.length = true) {d : Nat} {s se ss : Nat} {lt fb tq gb : Int32} {n lim a kd pl w : Nat} {le : Int64} {nu tk fa fp : Int32} (h0 : H[0]? = some (.inr (10, [.ref 1, .ref d, .ref s, .ref 23, .ref 31, .ref 39, .ref 105, .ref se, .ref ss, .ref 120, .ref 125, .ref 129, .ref 131, .int lt, .int fb, .int tq, .int gb]))) (h1 : H[1]? = some (tcl n lim a kd pl w le nu tk fa fp)) : FR 1 9 [.ref 0, .int (Int32.ofNat 5)] H (some (.int (Int32.ofNat n)), ov H []) := by
  refine FR_ov (l := [(0, .inr (10, [.ref 1, .ref d, .ref s, .ref 23, .ref 31, .ref 39, .ref 105, .ref se, .ref ss, .ref 120, .ref 125, .ref 129, .ref 131, .int lt, .int fb, .int tq, .int gb])), (1, tcl n lim a kd pl w le nu tk fa fp)]) (l2 := [(0, .inr (10, [.ref 1, .ref d, .ref s, .ref 23, .ref 31, .ref 39, .ref 105, .ref se, .ref ss, .ref 120, .ref 125, .ref 129, .ref 131, .int lt, .int fb, .int tq, .int gb])), (1, tcl n lim a kd pl w le nu tk fa fp)]) (ov_id h0 (ov_c1 h1)) rfl (ov_id h0 (ov_c1 h1)) ?_
  refine RT_step (pc2 := 1) rfl (fun _ _ => rfl) ?_
  refine RT_step (pc2 := 80) rfl (fun _ _ => rfl) ?_
  refine RT_step (pc2 := 81) rfl (fun _ _ => rfl) ?_
  refine ow_gf rfl rfl rfl hlen rfl ?_
  refine ow_gf rfl rfl rfl hlen rfl ?_
  exact ow_irt rfl rfl rfl
theorem x_cntD {H : List AE} (hlen : Nat.ble 204 H.length = true) {d : Nat} {s se ss : Nat} {lt fb tq gb : Int32} {z : Int32} (hz : z.toInt < 0 ∨ 5 < z.toInt) (h0 : H[0]? = some (.inr (10, [.ref 1, .ref d, .ref s, .ref 23, .ref 31, .ref 39, .ref 105, .ref se, .ref ss, .ref 120, .ref 125, .ref 129, .ref 131, .int lt, .int fb, .int tq, .int gb]))) : FR 1 9 [.ref 0, .int z] H (some (.int (-1 : Int32)), ov H []) := by
  refine FR_ov (l := [(0, .inr (10, [.ref 1, .ref d, .ref s, .ref 23, .ref 31, .ref 39, .ref 105, .ref se, .ref ss, .ref 120, .ref 125, .ref 129, .ref 131, .int lt, .int fb, .int tq, .int gb]))]) (l2 := [(0, .inr (10, [.ref 1, .ref d, .ref s, .ref 23, .ref 31, .ref 39, .ref 105, .ref se, .ref ss, .ref 120, .ref 125, .ref 129, .ref 131, .int lt, .int fb, .int tq, .int gb]))]) (ov_c1 h0) rfl (ov_c1 h0) ?_
  refine RT_step (pc2 := 1) rfl (fun _ _ => rfl) ?_
  refine rt_tsD (t := 88) rfl hz rfl ?_
  refine rt_ico rfl ki_m1 ?_
  exact ow_irt rfl rfl rfl
theorem m_cnt0 {H : List AE} (hlen : Nat.ble 204 H.length = true) {p0 p2 nu sg fa pl td : Int32} {sz lim a fr kd : Nat} {wd : Int64} {pr : List Value} {nw : List Int32} {v : Int32} (h0 : H[180]? = some (mcl p0 p2 sz lim a fr kd nu sg fa pl wd td (pof pr))) (h1 : H[182]? = some (ia nw)) (hv : nw[0]? = some v) : FR 1 186 [.ref 180, .int (Int32.ofNat 0)] H (some (.int v), ov H [(180, mcl (Int32.ofNat 0) p2 sz lim a fr kd nu sg fa pl wd td (pof pr))]) := by
  refine FR_ov (l := [(180, mcl p0 p2 sz lim a fr kd nu sg fa pl wd td (pof pr)), (182, ia nw)]) (l2 := [(180, mcl (Int32.ofNat 0) p2 sz lim a fr kd nu sg fa pl wd td (pof pr)), (182, ia nw)]) (ov_id h0 (ov_c1 h1)) rfl (ov_2 h1) ?_
  refine RT_step (pc2 := 1) rfl (fun _ _ => rfl) ?_
  refine rt_ico rfl ki_0 ?_
  refine ow_pf rfl rfl rfl rfl rfl hlen rfl rfl ?_
  refine RT_step (pc2 := 6) rfl (fun _ _ => rfl) ?_
  refine RT_step (pc2 := 44) rfl (fun _ _ => rfl) ?_
  refine RT_step (pc2 := 45) rfl (fun _ _ => rfl) ?_
  refine ow_gf rfl rfl rfl hlen rfl ?_
  refine rt_ico rfl ki_0 ?_
  refine ow_ialN rfl rfl hv (by omega) hlen rfl ?_
  exact ow_irt rfl rfl rfl
theorem m_cnt1 {H : List AE} (hlen : Nat.ble 204 H.length = true) {p0 p2 nu sg fa pl td : Int32} {sz lim a fr kd : Nat} {wd : Int64} {pr : List Value} {nw : List Int32} {v : Int32} (h0 : H[180]? = some (mcl p0 p2 sz lim a fr kd nu sg fa pl wd td (pof pr))) (h1 : H[182]? = some (ia nw)) (hv : nw[1]? = some v) : FR 1 186 [.ref 180, .int (Int32.ofNat 1)] H (some (.int v), ov H [(180, mcl (Int32.ofNat 0) p2 sz lim a fr kd nu sg fa pl wd td (pof pr))]) := by
  refine FR_ov (l := [(180, mcl p0 p2 sz lim a fr kd nu sg fa pl wd td (pof pr)), (182, ia nw)]) (l2 := [(180, mcl (Int32.ofNat 0) p2 sz lim a fr kd nu sg fa pl wd td (pof pr)), (182, ia nw)]) (ov_id h0 (ov_c1 h1)) rfl (ov_2 h1) ?_
  refine RT_step (pc2 := 1) rfl (fun _ _ => rfl) ?_
  refine rt_ico rfl ki_0 ?_
  refine ow_pf rfl rfl rfl rfl rfl hlen rfl rfl ?_
  refine RT_step (pc2 := 6) rfl (fun _ _ => rfl) ?_
  refine RT_step (pc2 := 51) rfl (fun _ _ => rfl) ?_
  refine RT_step (pc2 := 52) rfl (fun _ _ => rfl) ?_
  refine ow_gf rfl rfl rfl hlen rfl ?_
  refine rt_ico rfl ki_1 ?_
  refine ow_ialN rfl rfl hv (by omega) hlen rfl ?_
  exact ow_irt rfl rfl rfl
theorem m_cnt2 {H : List AE} (hlen : Nat.ble 204 H.length = true) {p0 p2 nu sg fa pl td : Int32} {sz lim a fr kd : Nat} {wd : Int64} {pr : List Value} {nw : List Int32} {v : Int32} (h0 : H[180]? = some (mcl p0 p2 sz lim a fr kd nu sg fa pl wd td (pof pr))) (h1 : H[182]? = some (ia nw)) (hv : nw[2]? = some v) : FR 1 186 [.ref 180, .int (Int32.ofNat 2)] H (some (.int v), ov H [(180, mcl (Int32.ofNat 0) p2 sz lim a fr kd nu sg fa pl wd td (pof pr))]) := by
  refine FR_ov (l := [(180, mcl p0 p2 sz lim a fr kd nu sg fa pl wd td (pof pr)), (182, ia nw)]) (l2 := [(180, mcl (Int32.ofNat 0) p2 sz lim a fr kd nu sg fa pl wd td (pof pr)), (182, ia nw)]) (ov_id h0 (ov_c1 h1)) rfl (ov_2 h1) ?_
  refine RT_step (pc2 := 1) rfl (fun _ _ => rfl) ?_
  refine rt_ico rfl ki_0 ?_
  refine ow_pf rfl rfl rfl rfl rfl hlen rfl rfl ?_
  refine RT_step (pc2 := 6) rfl (fun _ _ => rfl) ?_
  refine RT_step (pc2 := 58) rfl (fun _ _ => rfl) ?_
  refine RT_step (pc2 := 59) rfl (fun _ _ => rfl) ?_
  refine ow_gf rfl rfl rfl hlen rfl ?_
  refine rt_ico rfl ki_2 ?_
  refine ow_ialN rfl rfl hv (by omega) hlen rfl ?_
  exact ow_irt rfl rfl rfl
theorem m_cnt3 {H : List AE} (hlen : Nat.ble 204 H.length = true) {p0 p2 nu sg fa pl td : Int32} {sz lim a fr kd : Nat} {wd : Int64} {pr : List Value} {nw : List Int32} {v : Int32} (h0 : H[180]? = some (mcl p0 p2 sz lim a fr kd nu sg fa pl wd td (pof pr))) (h1 : H[182]? = some (ia nw)) (hv : nw[3]? = some v) : FR 1 186 [.ref 180, .int (Int32.ofNat 3)] H (some (.int v), ov H [(180, mcl (Int32.ofNat 0) p2 sz lim a fr kd nu sg fa pl wd td (pof pr))]) := by
  refine FR_ov (l := [(180, mcl p0 p2 sz lim a fr kd nu sg fa pl wd td (pof pr)), (182, ia nw)]) (l2 := [(180, mcl (Int32.ofNat 0) p2 sz lim a fr kd nu sg fa pl wd td (pof pr)), (182, ia nw)]) (ov_id h0 (ov_c1 h1)) rfl (ov_2 h1) ?_
  refine RT_step (pc2 := 1) rfl (fun _ _ => rfl) ?_
  refine rt_ico rfl ki_0 ?_
  refine ow_pf rfl rfl rfl rfl rfl hlen rfl rfl ?_
  refine RT_step (pc2 := 6) rfl (fun _ _ => rfl) ?_
  refine RT_step (pc2 := 65) rfl (fun _ _ => rfl) ?_
  refine RT_step (pc2 := 66) rfl (fun _ _ => rfl) ?_
  refine ow_gf rfl rfl rfl hlen rfl ?_
  refine rt_ico rfl ki_3 ?_
  refine ow_ialN rfl rfl hv (by omega) hlen rfl ?_
  exact ow_irt rfl rfl rfl
theorem m_cnt4 {H : List AE} (hlen : Nat.ble 204 H.length = true) {p0 p2 nu sg fa pl td : Int32} {sz lim a fr kd : Nat} {wd : Int64} {pr : List Value} {nw : List Int32} {v : Int32} (h0 : H[180]? = some (mcl p0 p2 sz lim a fr kd nu sg fa pl wd td (pof pr))) (h1 : H[182]? = some (ia nw)) (hv : nw[4]? = some v) : FR 1 186 [.ref 180, .int (Int32.ofNat 4)] H (some (.int v), ov H [(180, mcl (Int32.ofNat 0) p2 sz lim a fr kd nu sg fa pl wd td (pof pr))]) := by
  refine FR_ov (l := [(180, mcl p0 p2 sz lim a fr kd nu sg fa pl wd td (pof pr)), (182, ia nw)]) (l2 := [(180, mcl (Int32.ofNat 0) p2 sz lim a fr kd nu sg fa pl wd td (pof pr)), (182, ia nw)]) (ov_id h0 (ov_c1 h1)) rfl (ov_2 h1) ?_
  refine RT_step (pc2 := 1) rfl (fun _ _ => rfl) ?_
  refine rt_ico rfl ki_0 ?_
  refine ow_pf rfl rfl rfl rfl rfl hlen rfl rfl ?_
  refine RT_step (pc2 := 6) rfl (fun _ _ => rfl) ?_
  refine RT_step (pc2 := 72) rfl (fun _ _ => rfl) ?_
  refine RT_step (pc2 := 73) rfl (fun _ _ => rfl) ?_
  refine ow_gf rfl rfl rfl hlen rfl ?_
  refine rt_ico rfl ki_4 ?_
  refine ow_ialN rfl rfl hv (by omega) hlen rfl ?_
  exact ow_irt rfl rfl rfl
theorem m_cnt5 {H : List AE} (hlen : Nat.ble 204 H.length = true) {p0 p2 nu sg fa pl td : Int32} {sz lim a fr kd : Nat} {wd : Int64} {pr : List Value} (h0 : H[180]? = some (mcl p0 p2 sz lim a fr kd nu sg fa pl wd td (pof pr))) : FR 1 186 [.ref 180, .int (Int32.ofNat 5)] H (some (.int p2), ov H [(180, mcl (Int32.ofNat 0) p2 sz lim a fr kd nu sg fa pl wd td (pof pr))]) := by
  refine FR_ov (l := [(180, mcl p0 p2 sz lim a fr kd nu sg fa pl wd td (pof pr))]) (l2 := [(180, mcl (Int32.ofNat 0) p2 sz lim a fr kd nu sg fa pl wd td (pof pr))]) (ov_c1 h0) rfl rfl ?_
  refine RT_step (pc2 := 1) rfl (fun _ _ => rfl) ?_
  refine rt_ico rfl ki_0 ?_
  refine ow_pf rfl rfl rfl rfl rfl hlen rfl rfl ?_
  refine RT_step (pc2 := 6) rfl (fun _ _ => rfl) ?_
  refine RT_step (pc2 := 79) rfl (fun _ _ => rfl) ?_
  refine RT_step (pc2 := 80) rfl (fun _ _ => rfl) ?_
  refine ow_gf rfl rfl rfl hlen rfl ?_
  exact ow_irt rfl rfl rfl
theorem m_cntD {H : List AE} (hlen : Nat.ble 204 H.length = true) {p0 p2 nu sg fa pl td : Int32} {sz lim a fr kd : Nat} {wd : Int64} {pr : List Value} {z : Int32} (hz : z.toInt < 0 ∨ 5 < z.toInt) (h0 : H[180]? = some (mcl p0 p2 sz lim a fr kd nu sg fa pl wd td (pof pr))) : FR 1 186 [.ref 180, .int z] H (some (.int (-1 : Int32)), ov H [(180, mcl (Int32.ofNat 0) p2 sz lim a fr kd nu sg fa pl wd td (pof pr))]) := by
  refine FR_ov (l := [(180, mcl p0 p2 sz lim a fr kd nu sg fa pl wd td (pof pr))]) (l2 := [(180, mcl (Int32.ofNat 0) p2 sz lim a fr kd nu sg fa pl wd td (pof pr))]) (ov_c1 h0) rfl rfl ?_
  refine RT_step (pc2 := 1) rfl (fun _ _ => rfl) ?_
  refine rt_ico rfl ki_0 ?_
  refine ow_pf rfl rfl rfl rfl rfl hlen rfl rfl ?_
  refine RT_step (pc2 := 6) rfl (fun _ _ => rfl) ?_
  refine rt_tsD (t := 84) rfl hz rfl ?_
  refine rt_ico rfl ki_m1 ?_
  exact ow_irt rfl rfl rfl
theorem cnt_eq {hp hc hd : List AE} {r r2 z1 : Int32} {k1 k2 : Nat} (G : hp_ok GG hp) (hlen : Nat.ble 204 hp.length = true) (C : CUR hp) (hz : ∃ z : Int32, hq hp 1 1 = some (.int z) ∧ hq hp 180 2 = some (.int z)) (f1 : FR k1 9 [.ref 0, .int z1] hp (some (.int r), hc)) (f2 : FR k2 186 [.ref 180, .int z1] hc (some (.int r2), hd)) : r2 = r := by
  obtain ⟨d, s, se, ss, lt, fb, tq, gb, e0, hd0, hs0, hse0, hss0⟩ := oc_0 G
  obtain ⟨n, lim, a, kd, pl, w, le, nu, tk, fa, fp, e1, hn, hw⟩ := oc_1 G
  obtain ⟨p0, n2, sz, lim2, am, fr, kd2, nu2, sg, fa2, pl2, wd, td, sm, pr, e180, hn2⟩ := oc_180 G
  obtain rfl : n = n2 := by
    obtain ⟨z, z1, z2⟩ := hz
    rw [hq_obj e1] at z1
    rw [hq_obj e180] at z2
    have y1 : some (Value.int (Int32.ofNat n)) = some (.int z) := z1
    have y2 : some (Value.int (Int32.ofNat n2)) = some (.int z) := z2
    have e := congrArg Int32.toInt (Value.int.inj (Option.some.inj (y1.trans y2.symm)))
    rw [n_int (by omega), n_int (by omega)] at e
    omega
  obtain ⟨nw, -, kw, e182⟩ := ai_of (hp := hp) (a := 182) (t := 1) (n := 396) (G.1 182 gc182 rfl).1
  by_cases c : z1.toInt < 0 ∨ 5 < z1.toInt
  · obtain ⟨q3, q4⟩ := vi_inj (FR.det f1 (x_cntD hlen c e0))
    have q4 : hc = hp := q4
    subst q4
    obtain ⟨q5, -⟩ := vi_inj (FR.det f2 (m_cntD hlen c e180))
    exact q5.trans q3.symm
  · by_cases c5 : z1.toInt = 5
    · obtain rfl := i32_k (k := 5) (by decide) c5
      obtain ⟨q3, q4⟩ := vi_inj (FR.det f1 (x_cnt5 hlen e0 e1))
      have q4 : hc = hp := q4
      subst q4
      obtain ⟨q5, -⟩ := vi_inj (FR.det f2 (m_cnt5 hlen e180))
      exact q5.trans q3.symm
    · rcases C with ⟨h0d, -, hD⟩ | ⟨h0d, -, hD⟩
      · rw [hq_obj e0] at h0d
        have h0d : some (Value.ref d) = some (.ref 3) := h0d
        obtain rfl := Value.ref.inj (Option.some.inj h0d)
        obtain ⟨P, Dn, lw, cl, id, gl, bo, pn, ri, lf, wa, fo, dn, ha, pa, bl, rd, rn, g0, -, -, -, -, -, -, -, -, -, y1, y2, df, y4, y5⟩ := hD
        have nr : ∀ j, j < 101 → nw[j]? = rd[j]? := fun j hj => map_i (by rw [← y4 j hj, Nat.zero_add, hq_int e182])
        obtain ⟨-, -, -, -, ⟨v0, v1, -⟩, -, v2, v3, v4⟩ := df
        by_cases c10 : z1.toInt = 0
        · obtain rfl := i32_k (k := 0) (by decide) c10
          obtain ⟨q3, q4⟩ := vi_inj (FR.det f1 (x_cnt3_0 hlen e0 g0))
          have q4 : hc = hp := q4
          subst q4
          obtain ⟨q5, -⟩ := vi_inj (FR.det f2 (m_cnt0 hlen e180 e182 ((nr 0 (by decide)).trans v0)))
          exact q5.trans q3.symm
        by_cases c11 : z1.toInt = 1
        · obtain rfl := i32_k (k := 1) (by decide) c11
          obtain ⟨q3, q4⟩ := vi_inj (FR.det f1 (x_cnt3_1 hlen e0 g0))
          have q4 : hc = hp := q4
          subst q4
          obtain ⟨q5, -⟩ := vi_inj (FR.det f2 (m_cnt1 hlen e180 e182 ((nr 1 (by decide)).trans v1)))
          exact q5.trans q3.symm
        by_cases c12 : z1.toInt = 2
        · obtain rfl := i32_k (k := 2) (by decide) c12
          obtain ⟨q3, q4⟩ := vi_inj (FR.det f1 (x_cnt3_2 hlen e0 g0))
          have q4 : hc = hp := q4
          subst q4
          obtain ⟨q5, -⟩ := vi_inj (FR.det f2 (m_cnt2 hlen e180 e182 ((nr 2 (by decide)).trans v2)))
          exact q5.trans q3.symm
        by_cases c13 : z1.toInt = 3
        · obtain rfl := i32_k (k := 3) (by decide) c13
          obtain ⟨q3, q4⟩ := vi_inj (FR.det f1 (x_cnt3_3 hlen e0 g0))
          have q4 : hc = hp := q4
          subst q4
          obtain ⟨q5, -⟩ := vi_inj (FR.det f2 (m_cnt3 hlen e180 e182 ((nr 3 (by decide)).trans v3)))
          exact q5.trans q3.symm
        have c14 : z1.toInt = 4 := by omega
        obtain rfl := i32_k (k := 4) (by decide) c14
        obtain ⟨q3, q4⟩ := vi_inj (FR.det f1 (x_cnt3_4 hlen e0 g0))
        have q4 : hc = hp := q4
        subst q4
        obtain ⟨q5, -⟩ := vi_inj (FR.det f2 (m_cnt4 hlen e180 e182 ((nr 4 (by decide)).trans v4)))
        exact q5.trans q3.symm
      · rw [hq_obj e0] at h0d
        have h0d : some (Value.ref d) = some (.ref 13) := h0d
        obtain rfl := Value.ref.inj (Option.some.inj h0d)
        obtain ⟨P, Dn, lw, cl, id, gl, bo, pn, ri, lf, wa, fo, dn, ha, pa, bl, rd, rn, g0, -, -, -, -, -, -, -, -, -, y1, y2, df, y4, y5⟩ := hD
        have nr : ∀ j, j < 101 → nw[j]? = rd[j]? := fun j hj => map_i (by rw [← y4 j hj, Nat.zero_add, hq_int e182])
        obtain ⟨-, -, -, -, ⟨v0, v1, -⟩, -, v2, v3, v4⟩ := df
        by_cases c10 : z1.toInt = 0
        · obtain rfl := i32_k (k := 0) (by decide) c10
          obtain ⟨q3, q4⟩ := vi_inj (FR.det f1 (x_cnt13_0 hlen e0 g0))
          have q4 : hc = hp := q4
          subst q4
          obtain ⟨q5, -⟩ := vi_inj (FR.det f2 (m_cnt0 hlen e180 e182 ((nr 0 (by decide)).trans v0)))
          exact q5.trans q3.symm
        by_cases c11 : z1.toInt = 1
        · obtain rfl := i32_k (k := 1) (by decide) c11
          obtain ⟨q3, q4⟩ := vi_inj (FR.det f1 (x_cnt13_1 hlen e0 g0))
          have q4 : hc = hp := q4
          subst q4
          obtain ⟨q5, -⟩ := vi_inj (FR.det f2 (m_cnt1 hlen e180 e182 ((nr 1 (by decide)).trans v1)))
          exact q5.trans q3.symm
        by_cases c12 : z1.toInt = 2
        · obtain rfl := i32_k (k := 2) (by decide) c12
          obtain ⟨q3, q4⟩ := vi_inj (FR.det f1 (x_cnt13_2 hlen e0 g0))
          have q4 : hc = hp := q4
          subst q4
          obtain ⟨q5, -⟩ := vi_inj (FR.det f2 (m_cnt2 hlen e180 e182 ((nr 2 (by decide)).trans v2)))
          exact q5.trans q3.symm
        by_cases c13 : z1.toInt = 3
        · obtain rfl := i32_k (k := 3) (by decide) c13
          obtain ⟨q3, q4⟩ := vi_inj (FR.det f1 (x_cnt13_3 hlen e0 g0))
          have q4 : hc = hp := q4
          subst q4
          obtain ⟨q5, -⟩ := vi_inj (FR.det f2 (m_cnt3 hlen e180 e182 ((nr 3 (by decide)).trans v3)))
          exact q5.trans q3.symm
        have c14 : z1.toInt = 4 := by omega
        obtain rfl := i32_k (k := 4) (by decide) c14
        obtain ⟨q3, q4⟩ := vi_inj (FR.det f1 (x_cnt13_4 hlen e0 g0))
        have q4 : hc = hp := q4
        subst q4
        obtain ⟨q5, -⟩ := vi_inj (FR.det f2 (m_cnt4 hlen e180 e182 ((nr 4 (by decide)).trans v4)))
        exact q5.trans q3.symm
theorem i32_nl {a b : Int32} (h : b ≤ a) : ¬ a < b := fun e => by
  have e1 := Int32.lt_iff_toInt_lt.mp e
  have e2 := Int32.le_iff_toInt_le.mp h
  omega
theorem i32_le {a b : Int32} (h : ¬ a < b) : b ≤ a := Int32.le_iff_toInt_le.mpr (by
  have e1 : ¬ a.toInt < b.toInt := fun e => h (Int32.lt_iff_toInt_lt.mpr e)
  omega)
theorem i32_two {z : Int32} {P : Nat} (hP : P ≤ 8) : (∃ p, p < P ∧ z = Int32.ofNat p) ∨ z < Int32.ofNat 0 ∨ Int32.ofNat P ≤ z := by
  by_cases h1 : z.toInt < 0
  · exact Or.inr (Or.inl (Int32.lt_iff_toInt_lt.mpr (by rw [n_int (by decide)]; omega)))
  · by_cases h2 : z.toInt < P
    · exact Or.inl ⟨z.toInt.toNat, by omega, i32_nz (by omega)⟩
    · exact Or.inr (Or.inr (Int32.le_iff_toInt_le.mpr (by rw [n_int (by omega)]; omega)))
theorem n_sub1 {P : Nat} (hP : P ≤ 8) : (Int32.ofNat P - Int32.ofNat 1).toInt = (P : Int) - 1 := by
  rw [i32_sub (by rw [n_int (by omega), n_int (by decide)]; omega) (by rw [n_int (by omega), n_int (by decide)]; omega), n_int (by omega), n_int (by decide)]
  rfl
theorem m_isIn1 {H : List AE} {a b c : Int32} (h1 : b ≤ a) (h2 : a ≤ c) : FR 1 218 [.int a, .int b, .int c] H (some (.int (Int32.ofNat 1)), ov H []) := by
  refine FR_of rfl ?_
  refine RT_step (pc2 := 1) rfl (fun _ _ => rfl) ?_
  refine RT_step (pc2 := 2) rfl (fun _ _ => rfl) ?_
  refine biF_lt rfl (i32_nl h1) ?_
  refine RT_step (pc2 := 6) rfl (fun _ _ => rfl) ?_
  refine RT_step (pc2 := 7) rfl (fun _ _ => rfl) ?_
  refine biF_gt rfl (i32_nl h2) ?_
  refine rt_ico rfl ki_1 ?_
  refine RT_step (pc2 := 15) rfl (fun _ _ => rfl) ?_
  exact ow_irt rfl rfl rfl
theorem m_isIn0 {H : List AE} {a b c : Int32} (h : a < b ∨ c < a) : FR 1 218 [.int a, .int b, .int c] H (some (.int (Int32.ofNat 0)), ov H []) := by
  refine FR_of rfl ?_
  by_cases h1 : a < b
  · refine RT_step (pc2 := 1) rfl (fun _ _ => rfl) ?_
    refine RT_step (pc2 := 2) rfl (fun _ _ => rfl) ?_
    refine biT_lt rfl h1 ?_
    refine rt_ico rfl ki_0 ?_
    exact ow_irt rfl rfl rfl
  · refine RT_step (pc2 := 1) rfl (fun _ _ => rfl) ?_
    refine RT_step (pc2 := 2) rfl (fun _ _ => rfl) ?_
    refine biF_lt rfl h1 ?_
    refine RT_step (pc2 := 6) rfl (fun _ _ => rfl) ?_
    refine RT_step (pc2 := 7) rfl (fun _ _ => rfl) ?_
    refine biT_gt rfl (h.resolve_left h1) ?_
    refine rt_ico rfl ki_0 ?_
    exact ow_irt rfl rfl rfl
theorem x_isP3_1 {H : List AE} (hlen : Nat.ble 204 H.length = true) {s se ss : Nat} {lt fb tq gb : Int32} {P Dn gl bo : Nat} {lw cl id : Int32} (h0 : H[0]? = some (.inr (10, [.ref 1, .ref 3, .ref s, .ref 23, .ref 31, .ref 39, .ref 105, .ref se, .ref ss, .ref 120, .ref 125, .ref 129, .ref 131, .int lt, .int fb, .int tq, .int gb]))) (h1 : H[3]? = some (dcl3 P Dn lw cl id gl bo)) (hP : P ≤ 8) {p : Nat} (hp : p < P) : FR 1 28 [.ref 0, .int (Int32.ofNat p)] H (some (.int (Int32.ofNat 1)), ov H []) := by
  refine FR_ov (l := [(0, .inr (10, [.ref 1, .ref 3, .ref s, .ref 23, .ref 31, .ref 39, .ref 105, .ref se, .ref ss, .ref 120, .ref 125, .ref 129, .ref 131, .int lt, .int fb, .int tq, .int gb])), (3, dcl3 P Dn lw cl id gl bo)]) (l2 := [(0, .inr (10, [.ref 1, .ref 3, .ref s, .ref 23, .ref 31, .ref 39, .ref 105, .ref se, .ref ss, .ref 120, .ref 125, .ref 129, .ref 131, .int lt, .int fb, .int tq, .int gb])), (3, dcl3 P Dn lw cl id gl bo)]) (ov_id h0 (ov_c1 h1)) rfl (ov_id h0 (ov_c1 h1)) ?_
  refine RT_step (pc2 := 1) rfl (fun _ _ => rfl) ?_
  refine bcF_lt rfl (n_ps (by omega)) ?_
  refine RT_step (pc2 := 5) rfl (fun _ _ => rfl) ?_
  refine RT_step (pc2 := 6) rfl (fun _ _ => rfl) ?_
  refine ow_gf rfl rfl rfl hlen rfl ?_
  refine ow_gf rfl rfl rfl hlen rfl ?_
  refine biF_ge rfl (n_nle (by omega) (by omega)) ?_
  refine rt_ico rfl ki_1 ?_
  refine RT_step (pc2 := 20) rfl (fun _ _ => rfl) ?_
  exact ow_irt rfl rfl rfl
theorem x_isP3_0 {H : List AE} (hlen : Nat.ble 204 H.length = true) {s se ss : Nat} {lt fb tq gb : Int32} {P Dn gl bo : Nat} {lw cl id : Int32} (h0 : H[0]? = some (.inr (10, [.ref 1, .ref 3, .ref s, .ref 23, .ref 31, .ref 39, .ref 105, .ref se, .ref ss, .ref 120, .ref 125, .ref 129, .ref 131, .int lt, .int fb, .int tq, .int gb]))) (h1 : H[3]? = some (dcl3 P Dn lw cl id gl bo)) (hP : P ≤ 8) {z : Int32} (h : z < Int32.ofNat 0 ∨ Int32.ofNat P ≤ z) : FR 1 28 [.ref 0, .int z] H (some (.int (Int32.ofNat 0)), ov H []) := by
  refine FR_ov (l := [(0, .inr (10, [.ref 1, .ref 3, .ref s, .ref 23, .ref 31, .ref 39, .ref 105, .ref se, .ref ss, .ref 120, .ref 125, .ref 129, .ref 131, .int lt, .int fb, .int tq, .int gb])), (3, dcl3 P Dn lw cl id gl bo)]) (l2 := [(0, .inr (10, [.ref 1, .ref 3, .ref s, .ref 23, .ref 31, .ref 39, .ref 105, .ref se, .ref ss, .ref 120, .ref 125, .ref 129, .ref 131, .int lt, .int fb, .int tq, .int gb])), (3, dcl3 P Dn lw cl id gl bo)]) (ov_id h0 (ov_c1 h1)) rfl (ov_id h0 (ov_c1 h1)) ?_
  by_cases c : z < Int32.ofNat 0
  · refine RT_step (pc2 := 1) rfl (fun _ _ => rfl) ?_
    refine bcT_lt rfl c ?_
    refine rt_ico rfl ki_0 ?_
    exact ow_irt rfl rfl rfl
  · refine RT_step (pc2 := 1) rfl (fun _ _ => rfl) ?_
    refine bcF_lt rfl c ?_
    refine RT_step (pc2 := 5) rfl (fun _ _ => rfl) ?_
    refine RT_step (pc2 := 6) rfl (fun _ _ => rfl) ?_
    refine ow_gf rfl rfl rfl hlen rfl ?_
    refine ow_gf rfl rfl rfl hlen rfl ?_
    refine biT_ge rfl (h.resolve_left c) ?_
    refine rt_ico rfl ki_0 ?_
    exact ow_irt rfl rfl rfl
theorem x_isP13_1 {H : List AE} (hlen : Nat.ble 204 H.length = true) {s se ss : Nat} {lt fb tq gb : Int32} {P Dn gl bo : Nat} {lw cl id : Int32} (h0 : H[0]? = some (.inr (10, [.ref 1, .ref 13, .ref s, .ref 23, .ref 31, .ref 39, .ref 105, .ref se, .ref ss, .ref 120, .ref 125, .ref 129, .ref 131, .int lt, .int fb, .int tq, .int gb]))) (h1 : H[13]? = some (dcl13 P Dn lw cl id gl bo)) (hP : P ≤ 8) {p : Nat} (hp : p < P) : FR 1 28 [.ref 0, .int (Int32.ofNat p)] H (some (.int (Int32.ofNat 1)), ov H []) := by
  refine FR_ov (l := [(0, .inr (10, [.ref 1, .ref 13, .ref s, .ref 23, .ref 31, .ref 39, .ref 105, .ref se, .ref ss, .ref 120, .ref 125, .ref 129, .ref 131, .int lt, .int fb, .int tq, .int gb])), (13, dcl13 P Dn lw cl id gl bo)]) (l2 := [(0, .inr (10, [.ref 1, .ref 13, .ref s, .ref 23, .ref 31, .ref 39, .ref 105, .ref se, .ref ss, .ref 120, .ref 125, .ref 129, .ref 131, .int lt, .int fb, .int tq, .int gb])), (13, dcl13 P Dn lw cl id gl bo)]) (ov_id h0 (ov_c1 h1)) rfl (ov_id h0 (ov_c1 h1)) ?_
  refine RT_step (pc2 := 1) rfl (fun _ _ => rfl) ?_
  refine bcF_lt rfl (n_ps (by omega)) ?_
  refine RT_step (pc2 := 5) rfl (fun _ _ => rfl) ?_
  refine RT_step (pc2 := 6) rfl (fun _ _ => rfl) ?_
  refine ow_gf rfl rfl rfl hlen rfl ?_
  refine ow_gf rfl rfl rfl hlen rfl ?_
  refine biF_ge rfl (n_nle (by omega) (by omega)) ?_
  refine rt_ico rfl ki_1 ?_
  refine RT_step (pc2 := 20) rfl (fun _ _ => rfl) ?_
  exact ow_irt rfl rfl rfl
theorem x_isP13_0 {H : List AE} (hlen : Nat.ble 204 H.length = true) {s se ss : Nat} {lt fb tq gb : Int32} {P Dn gl bo : Nat} {lw cl id : Int32} (h0 : H[0]? = some (.inr (10, [.ref 1, .ref 13, .ref s, .ref 23, .ref 31, .ref 39, .ref 105, .ref se, .ref ss, .ref 120, .ref 125, .ref 129, .ref 131, .int lt, .int fb, .int tq, .int gb]))) (h1 : H[13]? = some (dcl13 P Dn lw cl id gl bo)) (hP : P ≤ 8) {z : Int32} (h : z < Int32.ofNat 0 ∨ Int32.ofNat P ≤ z) : FR 1 28 [.ref 0, .int z] H (some (.int (Int32.ofNat 0)), ov H []) := by
  refine FR_ov (l := [(0, .inr (10, [.ref 1, .ref 13, .ref s, .ref 23, .ref 31, .ref 39, .ref 105, .ref se, .ref ss, .ref 120, .ref 125, .ref 129, .ref 131, .int lt, .int fb, .int tq, .int gb])), (13, dcl13 P Dn lw cl id gl bo)]) (l2 := [(0, .inr (10, [.ref 1, .ref 13, .ref s, .ref 23, .ref 31, .ref 39, .ref 105, .ref se, .ref ss, .ref 120, .ref 125, .ref 129, .ref 131, .int lt, .int fb, .int tq, .int gb])), (13, dcl13 P Dn lw cl id gl bo)]) (ov_id h0 (ov_c1 h1)) rfl (ov_id h0 (ov_c1 h1)) ?_
  by_cases c : z < Int32.ofNat 0
  · refine RT_step (pc2 := 1) rfl (fun _ _ => rfl) ?_
    refine bcT_lt rfl c ?_
    refine rt_ico rfl ki_0 ?_
    exact ow_irt rfl rfl rfl
  · refine RT_step (pc2 := 1) rfl (fun _ _ => rfl) ?_
    refine bcF_lt rfl c ?_
    refine RT_step (pc2 := 5) rfl (fun _ _ => rfl) ?_
    refine RT_step (pc2 := 6) rfl (fun _ _ => rfl) ?_
    refine ow_gf rfl rfl rfl hlen rfl ?_
    refine ow_gf rfl rfl rfl hlen rfl ?_
    refine biT_ge rfl (h.resolve_left c) ?_
    refine rt_ico rfl ki_0 ?_
    exact ow_irt rfl rfl rfl
theorem m_isP_1 {H : List AE} (hlen : Nat.ble 204 H.length = true) {p0 p2 nu sg fa pl td : Int32} {sz lim a fr kd : Nat} {wd : Int64} {pr : List Value} {nw : List Int32} {P : Nat} (h0 : H[180]? = some (mcl p0 p2 sz lim a fr kd nu sg fa pl wd td (pof pr))) (h1 : H[182]? = some (ia nw)) (hv : nw[0]? = some (Int32.ofNat P)) (hP : P ≤ 8) {p : Nat} (hp : p < P) : FR 2 223 [.ref 180, .int (Int32.ofNat p)] H (some (.int (Int32.ofNat 1)), ov H []) := by
  refine FR_ov (l := [(180, mcl p0 p2 sz lim a fr kd nu sg fa pl wd td (pof pr)), (182, ia nw)]) (l2 := [(180, mcl p0 p2 sz lim a fr kd nu sg fa pl wd td (pof pr)), (182, ia nw)]) (ov_id h0 (ov_c1 h1)) rfl (ov_id h0 (ov_c1 h1)) ?_
  refine RT_step (pc2 := 1) rfl (fun _ _ => rfl) ?_
  refine rt_ico rfl ki_0 ?_
  refine RT_step (pc2 := 3) rfl (fun _ _ => rfl) ?_
  refine ow_gf rfl rfl rfl hlen rfl ?_
  refine rt_ico rfl ki_0 ?_
  refine ow_ialN rfl rfl hv (by omega) hlen rfl ?_
  refine rt_ico rfl ki_1 ?_
  refine ba_isub rfl ?_
  refine ow_is1 rfl rfl rfl rfl rfl ((m_isIn1 (n_le (Nat.zero_le p) (by omega)) (Int32.le_iff_toInt_le.mpr (by rw [n_sub1 hP, n_int (by omega)]; omega))).up (by decide)) rfl ?_
  exact ow_irt rfl rfl rfl
theorem m_isP_0 {H : List AE} (hlen : Nat.ble 204 H.length = true) {p0 p2 nu sg fa pl td : Int32} {sz lim a fr kd : Nat} {wd : Int64} {pr : List Value} {nw : List Int32} {P : Nat} (h0 : H[180]? = some (mcl p0 p2 sz lim a fr kd nu sg fa pl wd td (pof pr))) (h1 : H[182]? = some (ia nw)) (hv : nw[0]? = some (Int32.ofNat P)) (hP : P ≤ 8) {z : Int32} (h : z < Int32.ofNat 0 ∨ Int32.ofNat P ≤ z) : FR 2 223 [.ref 180, .int z] H (some (.int (Int32.ofNat 0)), ov H []) := by
  refine FR_ov (l := [(180, mcl p0 p2 sz lim a fr kd nu sg fa pl wd td (pof pr)), (182, ia nw)]) (l2 := [(180, mcl p0 p2 sz lim a fr kd nu sg fa pl wd td (pof pr)), (182, ia nw)]) (ov_id h0 (ov_c1 h1)) rfl (ov_id h0 (ov_c1 h1)) ?_
  refine RT_step (pc2 := 1) rfl (fun _ _ => rfl) ?_
  refine rt_ico rfl ki_0 ?_
  refine RT_step (pc2 := 3) rfl (fun _ _ => rfl) ?_
  refine ow_gf rfl rfl rfl hlen rfl ?_
  refine rt_ico rfl ki_0 ?_
  refine ow_ialN rfl rfl hv (by omega) hlen rfl ?_
  refine rt_ico rfl ki_1 ?_
  refine ba_isub rfl ?_
  refine ow_is1 rfl rfl rfl rfl rfl ((m_isIn0 (h.imp id (fun e => Int32.lt_iff_toInt_lt.mpr (by have e := Int32.le_iff_toInt_le.mp e; rw [n_int (by omega)] at e; rw [n_sub1 hP]; omega)))).up (by decide)) rfl ?_
  exact ow_irt rfl rfl rfl
theorem x_isH_1 {H : List AE} {h : Nat} (hh : h < 3) : FR 1 27 [.int (Int32.ofNat h)] H (some (.int (Int32.ofNat 1)), ov H []) := by
  refine FR_of rfl ?_
  refine RT_step (pc2 := 1) rfl (fun _ _ => rfl) ?_
  refine bcF_lt rfl (n_ps (by omega)) ?_
  refine RT_step (pc2 := 5) rfl (fun _ _ => rfl) ?_
  refine rt_ico rfl ki_3 ?_
  refine biF_ge rfl (n_nle (by omega) (by decide)) ?_
  refine rt_ico rfl ki_1 ?_
  refine RT_step (pc2 := 14) rfl (fun _ _ => rfl) ?_
  exact ow_irt rfl rfl rfl
theorem x_isH_0 {H : List AE} {z : Int32} (h : z < Int32.ofNat 0 ∨ Int32.ofNat 3 ≤ z) : FR 1 27 [.int z] H (some (.int (Int32.ofNat 0)), ov H []) := by
  refine FR_of rfl ?_
  by_cases c : z < Int32.ofNat 0
  · refine RT_step (pc2 := 1) rfl (fun _ _ => rfl) ?_
    refine bcT_lt rfl c ?_
    refine rt_ico rfl ki_0 ?_
    exact ow_irt rfl rfl rfl
  · refine RT_step (pc2 := 1) rfl (fun _ _ => rfl) ?_
    refine bcF_lt rfl c ?_
    refine RT_step (pc2 := 5) rfl (fun _ _ => rfl) ?_
    refine rt_ico rfl ki_3 ?_
    refine biT_ge rfl (h.resolve_left c) ?_
    refine rt_ico rfl ki_0 ?_
    exact ow_irt rfl rfl rfl
def skv (x y : Int32) (h : Nat) : Int32 := if h = 2 then x + y else if h = 0 then x else y
theorem a_z0 (y : Int32) : Int32.ofNat 0 + y = y := Int32.zero_add y
theorem a_0z (y : Int32) : y + Int32.ofNat 0 = y := Int32.add_zero y
theorem x_sko3 {H : List AE} (hlen : Nat.ble 204 H.length = true) {P Dn gl bo : Nat} {lw cl id : Int32} {ri lf : List Int32} {p : Nat} {x y : Int32} (h1 : H[3]? = some (dcl3 P Dn lw cl id gl bo)) (h2 : H[5]? = some (ia ri)) (h3 : H[6]? = some (ia lf)) (hx : ri[p]? = some x) (hy : lf[p]? = some y) (hp : p < 8) {h : Nat} (hh : h < 3) : FR 1 81 [.ref 3, .int (Int32.ofNat p), .int (Int32.ofNat h)] H (some (.int (skv x y h)), ov H []) := by
  refine FR_ov (l := [(3, dcl3 P Dn lw cl id gl bo), (5, ia ri), (6, ia lf)]) (l2 := [(3, dcl3 P Dn lw cl id gl bo), (5, ia ri), (6, ia lf)]) (ov_id h1 (ov_id h2 (ov_c1 h3))) rfl (ov_id h1 (ov_id h2 (ov_c1 h3))) ?_
  match h, hh with
  | 0, _ =>
    refine RT_step (pc2 := 1) rfl (fun _ _ => rfl) ?_
    refine rt_ico rfl ki_2 ?_
    refine biF_ne rfl (by decide) ?_
    refine RT_step (pc2 := 20) rfl (fun _ _ => rfl) ?_
    refine bcT_ne rfl rfl ?_
    refine RT_step (pc2 := 24) rfl (fun _ _ => rfl) ?_
    refine ow_gf rfl rfl rfl hlen rfl ?_
    refine RT_step (pc2 := 28) rfl (fun _ _ => rfl) ?_
    refine ow_ialN rfl rfl hx (by omega) hlen rfl ?_
    refine RT_step (pc2 := 38) rfl (fun _ _ => rfl) ?_
    exact ow_irt rfl rfl rfl
  | 1, _ =>
    refine RT_step (pc2 := 1) rfl (fun _ _ => rfl) ?_
    refine rt_ico rfl ki_2 ?_
    refine biF_ne rfl (by decide) ?_
    refine RT_step (pc2 := 20) rfl (fun _ _ => rfl) ?_
    refine bcF_ne rfl (by decide) ?_
    refine RT_step (pc2 := 33) rfl (fun _ _ => rfl) ?_
    refine ow_gf rfl rfl rfl hlen rfl ?_
    refine RT_step (pc2 := 37) rfl (fun _ _ => rfl) ?_
    refine ow_ialN rfl rfl hy (by omega) hlen rfl ?_
    exact ow_irt rfl rfl rfl
  | 2, _ =>
    refine RT_step (pc2 := 1) rfl (fun _ _ => rfl) ?_
    refine rt_ico rfl ki_2 ?_
    refine biT_ne rfl rfl ?_
    refine RT_step (pc2 := 6) rfl (fun _ _ => rfl) ?_
    refine ow_gf rfl rfl rfl hlen rfl ?_
    refine RT_step (pc2 := 10) rfl (fun _ _ => rfl) ?_
    refine ow_ialN rfl rfl hx (by omega) hlen rfl ?_
    refine RT_step (pc2 := 12) rfl (fun _ _ => rfl) ?_
    refine ow_gf rfl rfl rfl hlen rfl ?_
    refine RT_step (pc2 := 16) rfl (fun _ _ => rfl) ?_
    refine ow_ialN rfl rfl hy (by omega) hlen rfl ?_
    refine ba_iadd rfl ?_
    exact ow_irt rfl rfl rfl
  | n + 3, h => exact absurd h (by omega)
theorem x_sko13 {H : List AE} (hlen : Nat.ble 204 H.length = true) {P Dn gl bo : Nat} {lw cl id : Int32} {ri lf : List Int32} {p : Nat} {x y : Int32} (h1 : H[13]? = some (dcl13 P Dn lw cl id gl bo)) (h2 : H[15]? = some (ia ri)) (h3 : H[16]? = some (ia lf)) (hx : ri[p]? = some x) (hy : lf[p]? = some y) (hp : p < 8) {h : Nat} (hh : h < 3) : FR 1 81 [.ref 13, .int (Int32.ofNat p), .int (Int32.ofNat h)] H (some (.int (skv x y h)), ov H []) := by
  refine FR_ov (l := [(13, dcl13 P Dn lw cl id gl bo), (15, ia ri), (16, ia lf)]) (l2 := [(13, dcl13 P Dn lw cl id gl bo), (15, ia ri), (16, ia lf)]) (ov_id h1 (ov_id h2 (ov_c1 h3))) rfl (ov_id h1 (ov_id h2 (ov_c1 h3))) ?_
  match h, hh with
  | 0, _ =>
    refine RT_step (pc2 := 1) rfl (fun _ _ => rfl) ?_
    refine rt_ico rfl ki_2 ?_
    refine biF_ne rfl (by decide) ?_
    refine RT_step (pc2 := 20) rfl (fun _ _ => rfl) ?_
    refine bcT_ne rfl rfl ?_
    refine RT_step (pc2 := 24) rfl (fun _ _ => rfl) ?_
    refine ow_gf rfl rfl rfl hlen rfl ?_
    refine RT_step (pc2 := 28) rfl (fun _ _ => rfl) ?_
    refine ow_ialN rfl rfl hx (by omega) hlen rfl ?_
    refine RT_step (pc2 := 38) rfl (fun _ _ => rfl) ?_
    exact ow_irt rfl rfl rfl
  | 1, _ =>
    refine RT_step (pc2 := 1) rfl (fun _ _ => rfl) ?_
    refine rt_ico rfl ki_2 ?_
    refine biF_ne rfl (by decide) ?_
    refine RT_step (pc2 := 20) rfl (fun _ _ => rfl) ?_
    refine bcF_ne rfl (by decide) ?_
    refine RT_step (pc2 := 33) rfl (fun _ _ => rfl) ?_
    refine ow_gf rfl rfl rfl hlen rfl ?_
    refine RT_step (pc2 := 37) rfl (fun _ _ => rfl) ?_
    refine ow_ialN rfl rfl hy (by omega) hlen rfl ?_
    exact ow_irt rfl rfl rfl
  | 2, _ =>
    refine RT_step (pc2 := 1) rfl (fun _ _ => rfl) ?_
    refine rt_ico rfl ki_2 ?_
    refine biT_ne rfl rfl ?_
    refine RT_step (pc2 := 6) rfl (fun _ _ => rfl) ?_
    refine ow_gf rfl rfl rfl hlen rfl ?_
    refine RT_step (pc2 := 10) rfl (fun _ _ => rfl) ?_
    refine ow_ialN rfl rfl hx (by omega) hlen rfl ?_
    refine RT_step (pc2 := 12) rfl (fun _ _ => rfl) ?_
    refine ow_gf rfl rfl rfl hlen rfl ?_
    refine RT_step (pc2 := 16) rfl (fun _ _ => rfl) ?_
    refine ow_ialN rfl rfl hy (by omega) hlen rfl ?_
    refine ba_iadd rfl ?_
    exact ow_irt rfl rfl rfl
  | n + 3, h => exact absurd h (by omega)
theorem m_sko {H : List AE} (hlen : Nat.ble 204 H.length = true) {p0 p2 nu sg fa pl td : Int32} {sz lim a fr kd : Nat} {wd : Int64} {pr : List Value} {nw : List Int32} (h0 : H[180]? = some (mcl p0 p2 sz lim a fr kd nu sg fa pl wd td (pof pr))) (h1 : H[182]? = some (ia nw)) {p : Nat} {x y : Int32} (hx : nw[5 + p]? = some x) (hy : nw[12 + p]? = some y) (hp : p < 8) {h : Nat} (hh : h < 3) : FR 1 276 [.ref 180, .int (Int32.ofNat p), .int (Int32.ofNat h)] H (some (.int (skv x y h)), ov H []) := by
  refine FR_ov (l := [(180, mcl p0 p2 sz lim a fr kd nu sg fa pl wd td (pof pr)), (182, ia nw)]) (l2 := [(180, mcl p0 p2 sz lim a fr kd nu sg fa pl wd td (pof pr)), (182, ia nw)]) (ov_id h0 (ov_c1 h1)) rfl (ov_id h0 (ov_c1 h1)) ?_
  match h, hh with
  | 0, _ =>
    refine RT_step (pc2 := 1) rfl (fun _ _ => rfl) ?_
    refine rt_ico rfl ki_1 ?_
    refine biF_ne rfl (by decide) ?_
    refine RT_step (pc2 := 10) rfl (fun _ _ => rfl) ?_
    refine ow_gf rfl rfl rfl hlen rfl ?_
    refine rt_ico rfl ki_5 ?_
    refine RT_step (pc2 := 15) rfl (fun _ _ => rfl) ?_
    refine ba_iadd rfl ?_
    rw [n_add]
    refine ow_ialN rfl rfl hx (by omega) hlen rfl ?_
    refine RT_step (pc2 := 18) rfl (fun _ _ => rfl) ?_
    refine bcT_ne rfl rfl ?_
    refine rt_ico rfl ki_0 ?_
    refine RT_step (pc2 := 34) rfl (fun _ _ => rfl) ?_
    refine ba_iadd rfl ?_
    rw [a_0z]
    exact ow_irt rfl rfl rfl
  | 1, _ =>
    refine RT_step (pc2 := 1) rfl (fun _ _ => rfl) ?_
    refine rt_ico rfl ki_1 ?_
    refine biT_ne rfl rfl ?_
    refine rt_ico rfl ki_0 ?_
    refine RT_step (pc2 := 17) rfl (fun _ _ => rfl) ?_
    refine RT_step (pc2 := 18) rfl (fun _ _ => rfl) ?_
    refine bcF_ne rfl (by decide) ?_
    refine RT_step (pc2 := 26) rfl (fun _ _ => rfl) ?_
    refine ow_gf rfl rfl rfl hlen rfl ?_
    refine rt_bip rfl k8_12 ?_
    refine RT_step (pc2 := 32) rfl (fun _ _ => rfl) ?_
    refine ba_iadd rfl ?_
    rw [n_add]
    refine ow_ialN rfl rfl hy (by omega) hlen rfl ?_
    refine ba_iadd rfl ?_
    rw [a_z0]
    exact ow_irt rfl rfl rfl
  | 2, _ =>
    refine RT_step (pc2 := 1) rfl (fun _ _ => rfl) ?_
    refine rt_ico rfl ki_1 ?_
    refine biF_ne rfl (by decide) ?_
    refine RT_step (pc2 := 10) rfl (fun _ _ => rfl) ?_
    refine ow_gf rfl rfl rfl hlen rfl ?_
    refine rt_ico rfl ki_5 ?_
    refine RT_step (pc2 := 15) rfl (fun _ _ => rfl) ?_
    refine ba_iadd rfl ?_
    rw [n_add]
    refine ow_ialN rfl rfl hx (by omega) hlen rfl ?_
    refine RT_step (pc2 := 18) rfl (fun _ _ => rfl) ?_
    refine bcF_ne rfl (by decide) ?_
    refine RT_step (pc2 := 26) rfl (fun _ _ => rfl) ?_
    refine ow_gf rfl rfl rfl hlen rfl ?_
    refine rt_bip rfl k8_12 ?_
    refine RT_step (pc2 := 32) rfl (fun _ _ => rfl) ?_
    refine ba_iadd rfl ?_
    rw [n_add]
    refine ow_ialN rfl rfl hy (by omega) hlen rfl ?_
    refine ba_iadd rfl ?_
    exact ow_irt rfl rfl rfl
  | n + 3, h => exact absurd h (by omega)
theorem x_sk3_a {H : List AE} (hlen : Nat.ble 204 H.length = true) {s se ss : Nat} {lt fb tq gb : Int32} {P Dn gl bo : Nat} {lw cl id : Int32} {ri lf : List Int32} (h0 : H[0]? = some (.inr (10, [.ref 1, .ref 3, .ref s, .ref 23, .ref 31, .ref 39, .ref 105, .ref se, .ref ss, .ref 120, .ref 125, .ref 129, .ref 131, .int lt, .int fb, .int tq, .int gb]))) (h1 : H[3]? = some (dcl3 P Dn lw cl id gl bo)) (h2 : H[5]? = some (ia ri)) (h3 : H[6]? = some (ia lf)) (hP : P ≤ 8) {z w : Int32} (h : z < Int32.ofNat 0 ∨ Int32.ofNat P ≤ z) : FR 2 39 [.ref 0, .int z, .int w] H (some (.int (-1 : Int32)), ov H []) := by
  refine FR_ov (l := [(0, .inr (10, [.ref 1, .ref 3, .ref s, .ref 23, .ref 31, .ref 39, .ref 105, .ref se, .ref ss, .ref 120, .ref 125, .ref 129, .ref 131, .int lt, .int fb, .int tq, .int gb])), (3, dcl3 P Dn lw cl id gl bo), (5, ia ri), (6, ia lf)]) (l2 := [(0, .inr (10, [.ref 1, .ref 3, .ref s, .ref 23, .ref 31, .ref 39, .ref 105, .ref se, .ref ss, .ref 120, .ref 125, .ref 129, .ref 131, .int lt, .int fb, .int tq, .int gb])), (3, dcl3 P Dn lw cl id gl bo), (5, ia ri), (6, ia lf)]) (ov_id h0 (ov_id h1 (ov_id h2 (ov_c1 h3)))) rfl (ov_id h0 (ov_id h1 (ov_id h2 (ov_c1 h3)))) ?_
  refine RT_step (pc2 := 1) rfl (fun _ _ => rfl) ?_
  refine RT_step (pc2 := 2) rfl (fun _ _ => rfl) ?_
  refine ow_iv1 rfl rfl rfl rfl hlen rfl rfl rfl ((x_isP3_0 (ov_hl hlen) (ov_at rfl (ov_lt hlen (by decide))) (ov_at rfl (ov_lt hlen (by decide))) hP h).up (by decide)) rfl ?_
  refine bcT_eq rfl rfl ?_
  refine rt_ico rfl ki_m1 ?_
  exact ow_irt rfl rfl rfl
theorem x_sk3_b {H : List AE} (hlen : Nat.ble 204 H.length = true) {s se ss : Nat} {lt fb tq gb : Int32} {P Dn gl bo : Nat} {lw cl id : Int32} {ri lf : List Int32} (h0 : H[0]? = some (.inr (10, [.ref 1, .ref 3, .ref s, .ref 23, .ref 31, .ref 39, .ref 105, .ref se, .ref ss, .ref 120, .ref 125, .ref 129, .ref 131, .int lt, .int fb, .int tq, .int gb]))) (h1 : H[3]? = some (dcl3 P Dn lw cl id gl bo)) (h2 : H[5]? = some (ia ri)) (h3 : H[6]? = some (ia lf)) (hP : P ≤ 8) {p : Nat} {w : Int32} (hp : p < P) (h : w < Int32.ofNat 0 ∨ Int32.ofNat 3 ≤ w) : FR 2 39 [.ref 0, .int (Int32.ofNat p), .int w] H (some (.int (-1 : Int32)), ov H []) := by
  refine FR_ov (l := [(0, .inr (10, [.ref 1, .ref 3, .ref s, .ref 23, .ref 31, .ref 39, .ref 105, .ref se, .ref ss, .ref 120, .ref 125, .ref 129, .ref 131, .int lt, .int fb, .int tq, .int gb])), (3, dcl3 P Dn lw cl id gl bo), (5, ia ri), (6, ia lf)]) (l2 := [(0, .inr (10, [.ref 1, .ref 3, .ref s, .ref 23, .ref 31, .ref 39, .ref 105, .ref se, .ref ss, .ref 120, .ref 125, .ref 129, .ref 131, .int lt, .int fb, .int tq, .int gb])), (3, dcl3 P Dn lw cl id gl bo), (5, ia ri), (6, ia lf)]) (ov_id h0 (ov_id h1 (ov_id h2 (ov_c1 h3)))) rfl (ov_id h0 (ov_id h1 (ov_id h2 (ov_c1 h3)))) ?_
  refine RT_step (pc2 := 1) rfl (fun _ _ => rfl) ?_
  refine RT_step (pc2 := 2) rfl (fun _ _ => rfl) ?_
  refine ow_iv1 rfl rfl rfl rfl hlen rfl rfl rfl ((x_isP3_1 (ov_hl hlen) (ov_at rfl (ov_lt hlen (by decide))) (ov_at rfl (ov_lt hlen (by decide))) hP hp).up (by decide)) rfl ?_
  refine bcF_eq rfl (by decide) ?_
  refine RT_step (pc2 := 9) rfl (fun _ _ => rfl) ?_
  refine ow_is1 (l2 := [(0, .inr (10, [.ref 1, .ref 3, .ref s, .ref 23, .ref 31, .ref 39, .ref 105, .ref se, .ref ss, .ref 120, .ref 125, .ref 129, .ref 131, .int lt, .int fb, .int tq, .int gb])), (3, dcl3 P Dn lw cl id gl bo), (5, ia ri), (6, ia lf)]) rfl rfl rfl rfl rfl ((x_isH_0 h).up (by decide)) rfl ?_
  refine bcT_ne rfl rfl ?_
  refine rt_ico rfl ki_m1 ?_
  exact ow_irt rfl rfl rfl
theorem x_sk3_c {H : List AE} (hlen : Nat.ble 204 H.length = true) {s se ss : Nat} {lt fb tq gb : Int32} {P Dn gl bo : Nat} {lw cl id : Int32} {ri lf : List Int32} (h0 : H[0]? = some (.inr (10, [.ref 1, .ref 3, .ref s, .ref 23, .ref 31, .ref 39, .ref 105, .ref se, .ref ss, .ref 120, .ref 125, .ref 129, .ref 131, .int lt, .int fb, .int tq, .int gb]))) (h1 : H[3]? = some (dcl3 P Dn lw cl id gl bo)) (h2 : H[5]? = some (ia ri)) (h3 : H[6]? = some (ia lf)) (hP : P ≤ 8) {p h : Nat} {x y : Int32} (hp : p < P) (hh : h < 3) (hx : ri[p]? = some x) (hy : lf[p]? = some y) : FR 2 39 [.ref 0, .int (Int32.ofNat p), .int (Int32.ofNat h)] H (some (.int (skv x y h)), ov H []) := by
  refine FR_ov (l := [(0, .inr (10, [.ref 1, .ref 3, .ref s, .ref 23, .ref 31, .ref 39, .ref 105, .ref se, .ref ss, .ref 120, .ref 125, .ref 129, .ref 131, .int lt, .int fb, .int tq, .int gb])), (3, dcl3 P Dn lw cl id gl bo), (5, ia ri), (6, ia lf)]) (l2 := [(0, .inr (10, [.ref 1, .ref 3, .ref s, .ref 23, .ref 31, .ref 39, .ref 105, .ref se, .ref ss, .ref 120, .ref 125, .ref 129, .ref 131, .int lt, .int fb, .int tq, .int gb])), (3, dcl3 P Dn lw cl id gl bo), (5, ia ri), (6, ia lf)]) (ov_id h0 (ov_id h1 (ov_id h2 (ov_c1 h3)))) rfl (ov_id h0 (ov_id h1 (ov_id h2 (ov_c1 h3)))) ?_
  refine RT_step (pc2 := 1) rfl (fun _ _ => rfl) ?_
  refine RT_step (pc2 := 2) rfl (fun _ _ => rfl) ?_
  refine ow_iv1 rfl rfl rfl rfl hlen rfl rfl rfl ((x_isP3_1 (ov_hl hlen) (ov_at rfl (ov_lt hlen (by decide))) (ov_at rfl (ov_lt hlen (by decide))) hP hp).up (by decide)) rfl ?_
  refine bcF_eq rfl (by decide) ?_
  refine RT_step (pc2 := 9) rfl (fun _ _ => rfl) ?_
  refine ow_is1 (l2 := [(0, .inr (10, [.ref 1, .ref 3, .ref s, .ref 23, .ref 31, .ref 39, .ref 105, .ref se, .ref ss, .ref 120, .ref 125, .ref 129, .ref 131, .int lt, .int fb, .int tq, .int gb])), (3, dcl3 P Dn lw cl id gl bo), (5, ia ri), (6, ia lf)]) rfl rfl rfl rfl rfl ((x_isH_1 hh).up (by decide)) rfl ?_
  refine bcF_ne rfl (by decide) ?_
  refine RT_step (pc2 := 18) rfl (fun _ _ => rfl) ?_
  refine ow_gf rfl rfl rfl hlen rfl ?_
  refine RT_step (pc2 := 22) rfl (fun _ _ => rfl) ?_
  refine RT_step (pc2 := 23) rfl (fun _ _ => rfl) ?_
  refine ow_iv1 rfl rfl rfl rfl hlen rfl rfl rfl ((x_sko3 (ov_hl hlen) (ov_at rfl (ov_lt hlen (by decide))) (ov_at rfl (ov_lt hlen (by decide))) (ov_at rfl (ov_lt hlen (by decide))) hx hy (by omega) hh).up (by decide)) rfl ?_
  exact ow_irt rfl rfl rfl
theorem x_sk13_a {H : List AE} (hlen : Nat.ble 204 H.length = true) {s se ss : Nat} {lt fb tq gb : Int32} {P Dn gl bo : Nat} {lw cl id : Int32} {ri lf : List Int32} (h0 : H[0]? = some (.inr (10, [.ref 1, .ref 13, .ref s, .ref 23, .ref 31, .ref 39, .ref 105, .ref se, .ref ss, .ref 120, .ref 125, .ref 129, .ref 131, .int lt, .int fb, .int tq, .int gb]))) (h1 : H[13]? = some (dcl13 P Dn lw cl id gl bo)) (h2 : H[15]? = some (ia ri)) (h3 : H[16]? = some (ia lf)) (hP : P ≤ 8) {z w : Int32} (h : z < Int32.ofNat 0 ∨ Int32.ofNat P ≤ z) : FR 2 39 [.ref 0, .int z, .int w] H (some (.int (-1 : Int32)), ov H []) := by
  refine FR_ov (l := [(0, .inr (10, [.ref 1, .ref 13, .ref s, .ref 23, .ref 31, .ref 39, .ref 105, .ref se, .ref ss, .ref 120, .ref 125, .ref 129, .ref 131, .int lt, .int fb, .int tq, .int gb])), (13, dcl13 P Dn lw cl id gl bo), (15, ia ri), (16, ia lf)]) (l2 := [(0, .inr (10, [.ref 1, .ref 13, .ref s, .ref 23, .ref 31, .ref 39, .ref 105, .ref se, .ref ss, .ref 120, .ref 125, .ref 129, .ref 131, .int lt, .int fb, .int tq, .int gb])), (13, dcl13 P Dn lw cl id gl bo), (15, ia ri), (16, ia lf)]) (ov_id h0 (ov_id h1 (ov_id h2 (ov_c1 h3)))) rfl (ov_id h0 (ov_id h1 (ov_id h2 (ov_c1 h3)))) ?_
  refine RT_step (pc2 := 1) rfl (fun _ _ => rfl) ?_
  refine RT_step (pc2 := 2) rfl (fun _ _ => rfl) ?_
  refine ow_iv1 rfl rfl rfl rfl hlen rfl rfl rfl ((x_isP13_0 (ov_hl hlen) (ov_at rfl (ov_lt hlen (by decide))) (ov_at rfl (ov_lt hlen (by decide))) hP h).up (by decide)) rfl ?_
  refine bcT_eq rfl rfl ?_
  refine rt_ico rfl ki_m1 ?_
  exact ow_irt rfl rfl rfl
theorem x_sk13_b {H : List AE} (hlen : Nat.ble 204 H.length = true) {s se ss : Nat} {lt fb tq gb : Int32} {P Dn gl bo : Nat} {lw cl id : Int32} {ri lf : List Int32} (h0 : H[0]? = some (.inr (10, [.ref 1, .ref 13, .ref s, .ref 23, .ref 31, .ref 39, .ref 105, .ref se, .ref ss, .ref 120, .ref 125, .ref 129, .ref 131, .int lt, .int fb, .int tq, .int gb]))) (h1 : H[13]? = some (dcl13 P Dn lw cl id gl bo)) (h2 : H[15]? = some (ia ri)) (h3 : H[16]? = some (ia lf)) (hP : P ≤ 8) {p : Nat} {w : Int32} (hp : p < P) (h : w < Int32.ofNat 0 ∨ Int32.ofNat 3 ≤ w) : FR 2 39 [.ref 0, .int (Int32.ofNat p), .int w] H (some (.int (-1 : Int32)), ov H []) := by
  refine FR_ov (l := [(0, .inr (10, [.ref 1, .ref 13, .ref s, .ref 23, .ref 31, .ref 39, .ref 105, .ref se, .ref ss, .ref 120, .ref 125, .ref 129, .ref 131, .int lt, .int fb, .int tq, .int gb])), (13, dcl13 P Dn lw cl id gl bo), (15, ia ri), (16, ia lf)]) (l2 := [(0, .inr (10, [.ref 1, .ref 13, .ref s, .ref 23, .ref 31, .ref 39, .ref 105, .ref se, .ref ss, .ref 120, .ref 125, .ref 129, .ref 131, .int lt, .int fb, .int tq, .int gb])), (13, dcl13 P Dn lw cl id gl bo), (15, ia ri), (16, ia lf)]) (ov_id h0 (ov_id h1 (ov_id h2 (ov_c1 h3)))) rfl (ov_id h0 (ov_id h1 (ov_id h2 (ov_c1 h3)))) ?_
  refine RT_step (pc2 := 1) rfl (fun _ _ => rfl) ?_
  refine RT_step (pc2 := 2) rfl (fun _ _ => rfl) ?_
  refine ow_iv1 rfl rfl rfl rfl hlen rfl rfl rfl ((x_isP13_1 (ov_hl hlen) (ov_at rfl (ov_lt hlen (by decide))) (ov_at rfl (ov_lt hlen (by decide))) hP hp).up (by decide)) rfl ?_
  refine bcF_eq rfl (by decide) ?_
  refine RT_step (pc2 := 9) rfl (fun _ _ => rfl) ?_
  refine ow_is1 (l2 := [(0, .inr (10, [.ref 1, .ref 13, .ref s, .ref 23, .ref 31, .ref 39, .ref 105, .ref se, .ref ss, .ref 120, .ref 125, .ref 129, .ref 131, .int lt, .int fb, .int tq, .int gb])), (13, dcl13 P Dn lw cl id gl bo), (15, ia ri), (16, ia lf)]) rfl rfl rfl rfl rfl ((x_isH_0 h).up (by decide)) rfl ?_
  refine bcT_ne rfl rfl ?_
  refine rt_ico rfl ki_m1 ?_
  exact ow_irt rfl rfl rfl
theorem x_sk13_c {H : List AE} (hlen : Nat.ble 204 H.length = true) {s se ss : Nat} {lt fb tq gb : Int32} {P Dn gl bo : Nat} {lw cl id : Int32} {ri lf : List Int32} (h0 : H[0]? = some (.inr (10, [.ref 1, .ref 13, .ref s, .ref 23, .ref 31, .ref 39, .ref 105, .ref se, .ref ss, .ref 120, .ref 125, .ref 129, .ref 131, .int lt, .int fb, .int tq, .int gb]))) (h1 : H[13]? = some (dcl13 P Dn lw cl id gl bo)) (h2 : H[15]? = some (ia ri)) (h3 : H[16]? = some (ia lf)) (hP : P ≤ 8) {p h : Nat} {x y : Int32} (hp : p < P) (hh : h < 3) (hx : ri[p]? = some x) (hy : lf[p]? = some y) : FR 2 39 [.ref 0, .int (Int32.ofNat p), .int (Int32.ofNat h)] H (some (.int (skv x y h)), ov H []) := by
  refine FR_ov (l := [(0, .inr (10, [.ref 1, .ref 13, .ref s, .ref 23, .ref 31, .ref 39, .ref 105, .ref se, .ref ss, .ref 120, .ref 125, .ref 129, .ref 131, .int lt, .int fb, .int tq, .int gb])), (13, dcl13 P Dn lw cl id gl bo), (15, ia ri), (16, ia lf)]) (l2 := [(0, .inr (10, [.ref 1, .ref 13, .ref s, .ref 23, .ref 31, .ref 39, .ref 105, .ref se, .ref ss, .ref 120, .ref 125, .ref 129, .ref 131, .int lt, .int fb, .int tq, .int gb])), (13, dcl13 P Dn lw cl id gl bo), (15, ia ri), (16, ia lf)]) (ov_id h0 (ov_id h1 (ov_id h2 (ov_c1 h3)))) rfl (ov_id h0 (ov_id h1 (ov_id h2 (ov_c1 h3)))) ?_
  refine RT_step (pc2 := 1) rfl (fun _ _ => rfl) ?_
  refine RT_step (pc2 := 2) rfl (fun _ _ => rfl) ?_
  refine ow_iv1 rfl rfl rfl rfl hlen rfl rfl rfl ((x_isP13_1 (ov_hl hlen) (ov_at rfl (ov_lt hlen (by decide))) (ov_at rfl (ov_lt hlen (by decide))) hP hp).up (by decide)) rfl ?_
  refine bcF_eq rfl (by decide) ?_
  refine RT_step (pc2 := 9) rfl (fun _ _ => rfl) ?_
  refine ow_is1 (l2 := [(0, .inr (10, [.ref 1, .ref 13, .ref s, .ref 23, .ref 31, .ref 39, .ref 105, .ref se, .ref ss, .ref 120, .ref 125, .ref 129, .ref 131, .int lt, .int fb, .int tq, .int gb])), (13, dcl13 P Dn lw cl id gl bo), (15, ia ri), (16, ia lf)]) rfl rfl rfl rfl rfl ((x_isH_1 hh).up (by decide)) rfl ?_
  refine bcF_ne rfl (by decide) ?_
  refine RT_step (pc2 := 18) rfl (fun _ _ => rfl) ?_
  refine ow_gf rfl rfl rfl hlen rfl ?_
  refine RT_step (pc2 := 22) rfl (fun _ _ => rfl) ?_
  refine RT_step (pc2 := 23) rfl (fun _ _ => rfl) ?_
  refine ow_iv1 rfl rfl rfl rfl hlen rfl rfl rfl ((x_sko13 (ov_hl hlen) (ov_at rfl (ov_lt hlen (by decide))) (ov_at rfl (ov_lt hlen (by decide))) (ov_at rfl (ov_lt hlen (by decide))) hx hy (by omega) hh).up (by decide)) rfl ?_
  exact ow_irt rfl rfl rfl
theorem m_sk_a {H : List AE} (hlen : Nat.ble 204 H.length = true) {p0 p2 nu sg fa pl td : Int32} {sz lim a fr kd : Nat} {wd : Int64} {pr : List Value} {nw : List Int32} {P : Nat} (h0 : H[180]? = some (mcl p0 p2 sz lim a fr kd nu sg fa pl wd td (pof pr))) (h1 : H[182]? = some (ia nw)) (hv : nw[0]? = some (Int32.ofNat P)) (hP : P ≤ 8) {z w : Int32} (h : z < Int32.ofNat 0 ∨ Int32.ofNat P ≤ z) : FR 3 275 [.ref 180, .int z, .int w] H (some (.int (-1 : Int32)), ov H [(180, mcl (Int32.ofNat 0) p2 sz lim a fr kd nu sg fa pl wd td (pof pr))]) := by
  refine FR_ov (l := [(180, mcl p0 p2 sz lim a fr kd nu sg fa pl wd td (pof pr)), (182, ia nw)]) (l2 := [(180, mcl (Int32.ofNat 0) p2 sz lim a fr kd nu sg fa pl wd td (pof pr)), (182, ia nw)]) (ov_id h0 (ov_c1 h1)) rfl (ov_2 h1) ?_
  refine RT_step (pc2 := 1) rfl (fun _ _ => rfl) ?_
  refine rt_ico rfl ki_0 ?_
  refine ow_pf rfl rfl rfl rfl rfl hlen rfl rfl ?_
  refine RT_step (pc2 := 6) rfl (fun _ _ => rfl) ?_
  refine RT_step (pc2 := 7) rfl (fun _ _ => rfl) ?_
  refine ow_iv1 rfl rfl rfl rfl hlen rfl rfl rfl ((m_isP_0 (ov_hl hlen) (ov_at rfl (ov_lt hlen (by decide))) (ov_at rfl (ov_lt hlen (by decide))) hv hP h).up (by decide)) rfl ?_
  refine bcT_eq rfl rfl ?_
  refine rt_ico rfl ki_m1 ?_
  exact ow_irt rfl rfl rfl
theorem m_sk_b {H : List AE} (hlen : Nat.ble 204 H.length = true) {p0 p2 nu sg fa pl td : Int32} {sz lim a fr kd : Nat} {wd : Int64} {pr : List Value} {nw : List Int32} {P : Nat} (h0 : H[180]? = some (mcl p0 p2 sz lim a fr kd nu sg fa pl wd td (pof pr))) (h1 : H[182]? = some (ia nw)) (hv : nw[0]? = some (Int32.ofNat P)) (hP : P ≤ 8) {p : Nat} {w : Int32} (hp : p < P) (h : w < Int32.ofNat 0 ∨ Int32.ofNat 3 ≤ w) : FR 3 275 [.ref 180, .int (Int32.ofNat p), .int w] H (some (.int (-1 : Int32)), ov H [(180, mcl (Int32.ofNat 0) p2 sz lim a fr kd nu sg fa pl wd td (pof pr))]) := by
  refine FR_ov (l := [(180, mcl p0 p2 sz lim a fr kd nu sg fa pl wd td (pof pr)), (182, ia nw)]) (l2 := [(180, mcl (Int32.ofNat 0) p2 sz lim a fr kd nu sg fa pl wd td (pof pr)), (182, ia nw)]) (ov_id h0 (ov_c1 h1)) rfl (ov_2 h1) ?_
  refine RT_step (pc2 := 1) rfl (fun _ _ => rfl) ?_
  refine rt_ico rfl ki_0 ?_
  refine ow_pf rfl rfl rfl rfl rfl hlen rfl rfl ?_
  refine RT_step (pc2 := 6) rfl (fun _ _ => rfl) ?_
  refine RT_step (pc2 := 7) rfl (fun _ _ => rfl) ?_
  refine ow_iv1 rfl rfl rfl rfl hlen rfl rfl rfl ((m_isP_1 (ov_hl hlen) (ov_at rfl (ov_lt hlen (by decide))) (ov_at rfl (ov_lt hlen (by decide))) hv hP hp).up (by decide)) rfl ?_
  refine bcF_eq rfl (by decide) ?_
  refine RT_step (pc2 := 14) rfl (fun _ _ => rfl) ?_
  refine rt_ico rfl ki_0 ?_
  refine rt_ico rfl ki_2 ?_
  refine ow_is1 (l2 := [(180, mcl (Int32.ofNat 0) p2 sz lim a fr kd nu sg fa pl wd td (pof pr)), (182, ia nw)]) rfl rfl rfl rfl rfl ((m_isIn0 (h.imp id (fun e => Int32.lt_iff_toInt_lt.mpr (by have e := Int32.le_iff_toInt_le.mp e; rw [n_int (by decide)] at e ⊢; omega)))).up (by decide)) rfl ?_
  refine bcT_eq rfl rfl ?_
  refine rt_ico rfl ki_m1 ?_
  exact ow_irt rfl rfl rfl
theorem m_sk_c {H : List AE} (hlen : Nat.ble 204 H.length = true) {p0 p2 nu sg fa pl td : Int32} {sz lim a fr kd : Nat} {wd : Int64} {pr : List Value} {nw : List Int32} {P : Nat} (h0 : H[180]? = some (mcl p0 p2 sz lim a fr kd nu sg fa pl wd td (pof pr))) (h1 : H[182]? = some (ia nw)) (hv : nw[0]? = some (Int32.ofNat P)) (hP : P ≤ 8) {p h : Nat} {x y : Int32} (hp : p < P) (hh : h < 3) (hx : nw[5 + p]? = some x) (hy : nw[12 + p]? = some y) : FR 3 275 [.ref 180, .int (Int32.ofNat p), .int (Int32.ofNat h)] H (some (.int (skv x y h)), ov H [(180, mcl (Int32.ofNat 0) p2 sz lim a fr kd nu sg fa pl wd td (pof pr))]) := by
  refine FR_ov (l := [(180, mcl p0 p2 sz lim a fr kd nu sg fa pl wd td (pof pr)), (182, ia nw)]) (l2 := [(180, mcl (Int32.ofNat 0) p2 sz lim a fr kd nu sg fa pl wd td (pof pr)), (182, ia nw)]) (ov_id h0 (ov_c1 h1)) rfl (ov_2 h1) ?_
  refine RT_step (pc2 := 1) rfl (fun _ _ => rfl) ?_
  refine rt_ico rfl ki_0 ?_
  refine ow_pf rfl rfl rfl rfl rfl hlen rfl rfl ?_
  refine RT_step (pc2 := 6) rfl (fun _ _ => rfl) ?_
  refine RT_step (pc2 := 7) rfl (fun _ _ => rfl) ?_
  refine ow_iv1 rfl rfl rfl rfl hlen rfl rfl rfl ((m_isP_1 (ov_hl hlen) (ov_at rfl (ov_lt hlen (by decide))) (ov_at rfl (ov_lt hlen (by decide))) hv hP hp).up (by decide)) rfl ?_
  refine bcF_eq rfl (by decide) ?_
  refine RT_step (pc2 := 14) rfl (fun _ _ => rfl) ?_
  refine rt_ico rfl ki_0 ?_
  refine rt_ico rfl ki_2 ?_
  refine ow_is1 (l2 := [(180, mcl (Int32.ofNat 0) p2 sz lim a fr kd nu sg fa pl wd td (pof pr)), (182, ia nw)]) rfl rfl rfl rfl rfl ((m_isIn1 (n_le (Nat.zero_le h) (by omega)) (n_le (by omega) (by decide))).up (by decide)) rfl ?_
  refine bcF_eq rfl (by decide) ?_
  refine RT_step (pc2 := 23) rfl (fun _ _ => rfl) ?_
  refine RT_step (pc2 := 24) rfl (fun _ _ => rfl) ?_
  refine RT_step (pc2 := 25) rfl (fun _ _ => rfl) ?_
  refine ow_iv1 (l2 := [(180, mcl (Int32.ofNat 0) p2 sz lim a fr kd nu sg fa pl wd td (pof pr)), (182, ia nw)]) rfl rfl rfl rfl hlen rfl rfl rfl ((m_sko (ov_hl hlen) (ov_at rfl (ov_lt hlen (by decide))) (ov_at rfl (ov_lt hlen (by decide))) hx hy (by omega) hh).up (by decide)) rfl ?_
  refine RT_step (pc2 := 32) rfl (fun _ _ => rfl) ?_
  exact ow_irt rfl rfl rfl
theorem sk_eq {hp hc hd : List AE} {r r2 z1 z2 : Int32} {k1 k2 : Nat} (G : hp_ok GG hp) (hlen : Nat.ble 204 hp.length = true) (C : CUR hp) (hz : ∃ z : Int32, hq hp 1 1 = some (.int z) ∧ hq hp 180 2 = some (.int z)) (f1 : FR k1 39 [.ref 0, .int z1, .int z2] hp (some (.int r), hc)) (f2 : FR k2 275 [.ref 180, .int z1, .int z2] hc (some (.int r2), hd)) : r2 = r := by
  obtain ⟨d, s, se, ss, lt, fb, tq, gb, e0, hd0, hs0, hse0, hss0⟩ := oc_0 G
  obtain ⟨n, lim, a, kd, pl, w, le, nu, tk, fa, fp, e1, hn, hw⟩ := oc_1 G
  obtain ⟨p0, n2, sz, lim2, am, fr, kd2, nu2, sg, fa2, pl2, wd, td, sm, pr, e180, hn2⟩ := oc_180 G
  obtain rfl : n = n2 := by
    obtain ⟨z, z1, z2⟩ := hz
    rw [hq_obj e1] at z1
    rw [hq_obj e180] at z2
    have y1 : some (Value.int (Int32.ofNat n)) = some (.int z) := z1
    have y2 : some (Value.int (Int32.ofNat n2)) = some (.int z) := z2
    have e := congrArg Int32.toInt (Value.int.inj (Option.some.inj (y1.trans y2.symm)))
    rw [n_int (by omega), n_int (by omega)] at e
    omega
  obtain ⟨nw, -, kw, e182⟩ := ai_of (hp := hp) (a := 182) (t := 1) (n := 396) (G.1 182 gc182 rfl).1
  rcases C with ⟨h0d, -, hD⟩ | ⟨h0d, -, hD⟩
  · rw [hq_obj e0] at h0d
    have h0d : some (Value.ref d) = some (.ref 3) := h0d
    obtain rfl := Value.ref.inj (Option.some.inj h0d)
    obtain ⟨P, Dn, lw, cl, id, gl, bo, pn, ri, lf, wa, fo, dn, ha, pa, bl, rd, rn, g0, -, g2, g3, -, -, -, -, -, -, y1, y2, df, y4, y5⟩ := hD
    have nr : ∀ j, j < 101 → nw[j]? = rd[j]? := fun j hj => map_i (by rw [← y4 j hj, Nat.zero_add, hq_int e182])
    obtain ⟨hP, -, hl, -, ⟨v0, -, -, -, -, -, vp, -⟩, -⟩ := df
    have hv := (nr 0 (by decide)).trans v0
    rcases i32_two (z := z1) (P := P) (by omega) with ⟨p, hp1, rfl⟩ | c
    · rcases i32_two (z := z2) (P := 3) (by omega) with ⟨h, hh, rfl⟩ | c
      · obtain ⟨w1, w2⟩ := vp p hp1
        have ex := gd_i (arr := ri) (i := p) (by have := hl.2.1; omega)
        have ey := gd_i (arr := lf) (i := p) (by have := hl.2.2.1; omega)
        obtain ⟨q3, q4⟩ := vi_inj (FR.det f1 (x_sk3_c hlen e0 g0 g2 g3 (by omega) hp1 hh ex ey))
        have q4 : hc = hp := q4
        subst q4
        obtain ⟨q5, -⟩ := vi_inj (FR.det f2 (m_sk_c hlen e180 e182 hv (by omega) hp1 hh ((nr _ (by omega)).trans (w1.symm.trans ex)) ((nr _ (by omega)).trans (w2.symm.trans ey))))
        exact q5.trans q3.symm
      · obtain ⟨q3, q4⟩ := vi_inj (FR.det f1 (x_sk3_b hlen e0 g0 g2 g3 (by omega) hp1 c))
        have q4 : hc = hp := q4
        subst q4
        obtain ⟨q5, -⟩ := vi_inj (FR.det f2 (m_sk_b hlen e180 e182 hv (by omega) hp1 c))
        exact q5.trans q3.symm
    · obtain ⟨q3, q4⟩ := vi_inj (FR.det f1 (x_sk3_a hlen e0 g0 g2 g3 (by omega) c))
      have q4 : hc = hp := q4
      subst q4
      obtain ⟨q5, -⟩ := vi_inj (FR.det f2 (m_sk_a hlen e180 e182 hv (by omega) c))
      exact q5.trans q3.symm
  · rw [hq_obj e0] at h0d
    have h0d : some (Value.ref d) = some (.ref 13) := h0d
    obtain rfl := Value.ref.inj (Option.some.inj h0d)
    obtain ⟨P, Dn, lw, cl, id, gl, bo, pn, ri, lf, wa, fo, dn, ha, pa, bl, rd, rn, g0, -, g2, g3, -, -, -, -, -, -, y1, y2, df, y4, y5⟩ := hD
    have nr : ∀ j, j < 101 → nw[j]? = rd[j]? := fun j hj => map_i (by rw [← y4 j hj, Nat.zero_add, hq_int e182])
    obtain ⟨hP, -, hl, -, ⟨v0, -, -, -, -, -, vp, -⟩, -⟩ := df
    have hv := (nr 0 (by decide)).trans v0
    rcases i32_two (z := z1) (P := P) (by omega) with ⟨p, hp1, rfl⟩ | c
    · rcases i32_two (z := z2) (P := 3) (by omega) with ⟨h, hh, rfl⟩ | c
      · obtain ⟨w1, w2⟩ := vp p hp1
        have ex := gd_i (arr := ri) (i := p) (by have := hl.2.1; omega)
        have ey := gd_i (arr := lf) (i := p) (by have := hl.2.2.1; omega)
        obtain ⟨q3, q4⟩ := vi_inj (FR.det f1 (x_sk13_c hlen e0 g0 g2 g3 (by omega) hp1 hh ex ey))
        have q4 : hc = hp := q4
        subst q4
        obtain ⟨q5, -⟩ := vi_inj (FR.det f2 (m_sk_c hlen e180 e182 hv (by omega) hp1 hh ((nr _ (by omega)).trans (w1.symm.trans ex)) ((nr _ (by omega)).trans (w2.symm.trans ey))))
        exact q5.trans q3.symm
      · obtain ⟨q3, q4⟩ := vi_inj (FR.det f1 (x_sk13_b hlen e0 g0 g2 g3 (by omega) hp1 c))
        have q4 : hc = hp := q4
        subst q4
        obtain ⟨q5, -⟩ := vi_inj (FR.det f2 (m_sk_b hlen e180 e182 hv (by omega) hp1 c))
        exact q5.trans q3.symm
    · obtain ⟨q3, q4⟩ := vi_inj (FR.det f1 (x_sk13_a hlen e0 g0 g2 g3 (by omega) c))
      have q4 : hc = hp := q4
      subst q4
      obtain ⟨q5, -⟩ := vi_inj (FR.det f2 (m_sk_a hlen e180 e182 hv (by omega) c))
      exact q5.trans q3.symm
