/-! ===== the readers of a SENTENCE: rules, steps, nodes ===== -/
def wrd (l : List (Option Nat)) : AE := .inl (4, .inr (.inr l))
def posn (vs : Nat → Value) (nd on wi tp : Nat) : List Value := [.ref 182, .ref 183, .ref 184, .ref 185, .ref 186, .ref 187, .ref 188, .ref 189, .ref 190, .ref 191, vs 24, vs 25, vs 26, vs 27, vs 28, vs 29, vs 30, vs 31, vs 32, vs 33, vs 34, vs 35, vs 36, vs 37, vs 38, vs 39, vs 40, vs 41, vs 42, vs 43, vs 44, vs 45, vs 46, .ref 202, .int (Int32.ofNat nd), .int (Int32.ofNat on), .int (Int32.ofNat wi), .int (Int32.ofNat tp)]
def SX (s : Nat) (ws : List (Option Nat)) (sg nb : List Int32) : Prop := s ≤ 40 ∧ ws.length = 40 ∧ sg.length = 40 ∧ nb.length = 40
section
variable {dd mi pc x y : Nat} {L : List (Nat × Value)} {st : List Value} {hp : List AE} {l l2 : List (Nat × AE)} {q : ev_R}
theorem ow_aasK {a i v : Nat} {arr : List (Option Nat)} (hf : mF MM mi pc = some (.aastore, x, y)) (hk : olk l a = some (wrd arr)) (hi : i < arr.length) (hb2 : i < 2147483648) (hv : v < 32) (ha : Nat.ble 204 hp.length = true) (hb : Nat.blt a 204 = true) (hl : oin l a (wrd (arr.set i (some v))) = l2) (h : RT MM dd mi (pc + 1) L st (ov hp l2) q) : RT MM dd mi pc L (.retAddr v :: .int (Int32.ofNat i) :: .ref a :: st) (ov hp l) q := by
  have e := ov_at hk (Nat.lt_of_lt_of_le (Nat.le_of_ble_eq_true hb) (Nat.le_of_ble_eq_true ha))
  have e : (ov hp l)[a]? = some (.inl (4, .inr (.inr arr))) := e
  have e2 : ev_ar (ov hp l) a = some (4, arr) := by unfold ev_ar; rw [e]
  refine RT_step hf (fun cf K => ?_) h
  show (ev_ar (ov hp l) a).bind (fun z => if z.1 = 4 ∧ v < 32 then (ev_rd z.2 (Int32.ofNat i)).bind fun _ => K (pc + 1) L st ((ov hp l).set a (.inl (4, .inr (.inr (z.2.set (Int32.ofNat i).toNatClampNeg (some v)))))) 0 0 else none) = _
  rw [e2]
  show (if (4 : Nat) = 4 ∧ v < 32 then (ev_rd arr (Int32.ofNat i)).bind (fun _ => K (pc + 1) L st ((ov hp l).set a (.inl (4, .inr (.inr (arr.set (Int32.ofNat i).toNatClampNeg (some v)))))) 0 0) else none) = _
  rw [if_pos ⟨rfl, hv⟩, rd_nat (gd_i hi) hb2, show (Int32.ofNat i).toNatClampNeg = i from nI_c hb2]
  show K (pc + 1) L st ((ov hp l).set a (wrd (arr.set i (some v)))) 0 0 = _
  rw [ov_set, hl]
end
theorem nmul (a b : Nat) : Int32.ofNat a * Int32.ofNat b = Int32.ofNat (a * b) := (Int32.ofNat_mul a b).symm
theorem sw_rd {w : Nat} (h : w < 32) : ev_rd ev_sw (Int32.ofNat w) = some (ev_sw.getD w 0) := rd_nat (by rw [List.getD_eq_getElem?_getD, List.getElem?_eq_getElem (show w < ev_sw.length by rw [sw_len]; exact h)]; rfl) (by omega)
theorem k16_154 : (Int16.ofInt 154).toInt32 = Int32.ofNat 154 := by decide +kernel
theorem k16_155 : (Int16.ofInt 155).toInt32 = Int32.ofNat 155 := by decide +kernel
theorem k16_156 : (Int16.ofInt 156).toInt32 = Int32.ofNat 156 := by decide +kernel
theorem k16_200 : (Int16.ofInt 200).toInt32 = Int32.ofNat 200 := by decide +kernel
theorem k16_240 : (Int16.ofInt 240).toInt32 = Int32.ofNat 240 := by decide +kernel
theorem k16_999 : (Int16.ofInt 999).toInt32 = Int32.ofNat 999 := by decide +kernel
theorem k8_17 : (Int8.ofInt 17).toInt32 = Int32.ofNat 17 := by decide +kernel
theorem k8_25 : (Int8.ofInt 25).toInt32 = Int32.ofNat 25 := by decide +kernel
theorem k8_26 : (Int8.ofInt 26).toInt32 = Int32.ofNat 26 := by decide +kernel
theorem k8_50 : (Int8.ofInt 50).toInt32 = Int32.ofNat 50 := by decide +kernel
theorem sx_add110 {s : Nat} {ws : List (Option Nat)} {sgl nbl : List Int32} (h : SX s ws sgl nbl) {w : Nat} (hw : w < 32) (g v : Int32) : ∃ (s2 : Nat) (ws2 : List (Option Nat)) (sl2 nb2 : List Int32), SX s2 ws2 sl2 nb2 ∧ ∀ (o : Nat) (H : List AE), Nat.ble 204 H.length = true → H[110]? = some (.inr (7, [.int (Int32.ofNat o), .int (Int32.ofNat s), .ref 111, .ref 112, .ref 113, .ref 114])) → H[111]? = some (wrd ws) → H[112]? = some (ia sgl) → H[113]? = some (ia nbl) → FR 1 133 [.ref 110, .retAddr w, .int g, .int v] H (none, ov H [(110, .inr (7, [.int (Int32.ofNat o), .int (Int32.ofNat s2), .ref 111, .ref 112, .ref 113, .ref 114])), (111, wrd ws2), (112, ia sl2), (113, ia nb2)]) := by
  obtain ⟨s1, w1, g1, n1⟩ := h
  by_cases c : s < 40
  · refine ⟨s + 1, ws.set s (some w), sgl.set s g, nbl.set s v, ⟨by omega, by rw [List.length_set]; exact w1, by rw [List.length_set]; exact g1, by rw [List.length_set]; exact n1⟩, fun o H hlen h0 h1 h2 h3 => ?_⟩
    refine FR_ov (l := [(110, .inr (7, [.int (Int32.ofNat o), .int (Int32.ofNat s), .ref 111, .ref 112, .ref 113, .ref 114])), (111, wrd ws), (112, ia sgl), (113, ia nbl)]) (l2 := [(110, .inr (7, [.int (Int32.ofNat o), .int (Int32.ofNat (s + 1)), .ref 111, .ref 112, .ref 113, .ref 114])), (111, wrd (ws.set s (some w))), (112, ia (sgl.set s g)), (113, ia (nbl.set s v))]) (ov_id h0 (ov_id h1 (ov_id h2 (ov_c1 h3)))) rfl rfl ?_
    refine RT_step (pc2 := 1) rfl (fun _ _ => rfl) ?_
    refine ow_gf rfl rfl rfl hlen rfl ?_
    refine rt_bip rfl k8_40 ?_
    refine biF_ge rfl (n_nle (by omega) (by omega)) ?_
    refine RT_step (pc2 := 10) rfl (fun _ _ => rfl) ?_
    refine ow_gf rfl rfl rfl hlen rfl ?_
    refine RT_step (pc2 := 14) rfl (fun _ _ => rfl) ?_
    refine ow_gf rfl rfl rfl hlen rfl ?_
    refine RT_step (pc2 := 18) rfl (fun _ _ => rfl) ?_
    refine ow_aasK (l2 := [(110, .inr (7, [.int (Int32.ofNat o), .int (Int32.ofNat s), .ref 111, .ref 112, .ref 113, .ref 114])), (111, wrd (ws.set s (some w))), (112, ia sgl), (113, ia nbl)]) rfl rfl (by omega) (by omega) hw hlen rfl rfl ?_
    refine RT_step (pc2 := 20) rfl (fun _ _ => rfl) ?_
    refine ow_gf rfl rfl rfl hlen rfl ?_
    refine RT_step (pc2 := 24) rfl (fun _ _ => rfl) ?_
    refine ow_gf rfl rfl rfl hlen rfl ?_
    refine RT_step (pc2 := 28) rfl (fun _ _ => rfl) ?_
    refine ow_iasN (l2 := [(110, .inr (7, [.int (Int32.ofNat o), .int (Int32.ofNat s), .ref 111, .ref 112, .ref 113, .ref 114])), (111, wrd (ws.set s (some w))), (112, ia (sgl.set s g)), (113, ia nbl)]) rfl rfl (by omega) (by omega) hlen rfl rfl ?_
    refine RT_step (pc2 := 30) rfl (fun _ _ => rfl) ?_
    refine ow_gf rfl rfl rfl hlen rfl ?_
    refine RT_step (pc2 := 34) rfl (fun _ _ => rfl) ?_
    refine ow_gf rfl rfl rfl hlen rfl ?_
    refine RT_step (pc2 := 38) rfl (fun _ _ => rfl) ?_
    refine ow_iasN (l2 := [(110, .inr (7, [.int (Int32.ofNat o), .int (Int32.ofNat s), .ref 111, .ref 112, .ref 113, .ref 114])), (111, wrd (ws.set s (some w))), (112, ia (sgl.set s g)), (113, ia (nbl.set s v))]) rfl rfl (by omega) (by omega) hlen rfl rfl ?_
    refine RT_step (pc2 := 40) rfl (fun _ _ => rfl) ?_
    refine RT_step (pc2 := 41) rfl (fun _ _ => rfl) ?_
    refine ow_gf rfl rfl rfl hlen rfl ?_
    refine rt_ico rfl ki_1 ?_
    refine ba_iadd rfl ?_
    rw [n_add]
    refine ow_pf (l2 := [(110, .inr (7, [.int (Int32.ofNat o), .int (Int32.ofNat (s + 1)), .ref 111, .ref 112, .ref 113, .ref 114])), (111, wrd (ws.set s (some w))), (112, ia (sgl.set s g)), (113, ia (nbl.set s v))]) rfl rfl rfl rfl rfl hlen rfl rfl ?_
    exact ow_ret rfl rfl rfl
  · refine ⟨s, ws, sgl, nbl, ⟨s1, w1, g1, n1⟩, fun o H hlen h0 h1 h2 h3 => ?_⟩
    refine FR_ov (l := [(110, .inr (7, [.int (Int32.ofNat o), .int (Int32.ofNat s), .ref 111, .ref 112, .ref 113, .ref 114])), (111, wrd ws), (112, ia sgl), (113, ia nbl)]) (l2 := [(110, .inr (7, [.int (Int32.ofNat o), .int (Int32.ofNat s), .ref 111, .ref 112, .ref 113, .ref 114])), (111, wrd ws), (112, ia sgl), (113, ia nbl)]) (ov_id h0 (ov_id h1 (ov_id h2 (ov_c1 h3)))) rfl rfl ?_
    refine RT_step (pc2 := 1) rfl (fun _ _ => rfl) ?_
    refine ow_gf rfl rfl rfl hlen rfl ?_
    refine rt_bip rfl k8_40 ?_
    refine biT_ge rfl (n_le (by omega) (by omega)) ?_
    exact ow_ret rfl rfl rfl
theorem sx_add115 {s : Nat} {ws : List (Option Nat)} {sgl nbl : List Int32} (h : SX s ws sgl nbl) {w : Nat} (hw : w < 32) (g v : Int32) : ∃ (s2 : Nat) (ws2 : List (Option Nat)) (sl2 nb2 : List Int32), SX s2 ws2 sl2 nb2 ∧ ∀ (o : Nat) (H : List AE), Nat.ble 204 H.length = true → H[115]? = some (.inr (7, [.int (Int32.ofNat o), .int (Int32.ofNat s), .ref 116, .ref 117, .ref 118, .ref 119])) → H[116]? = some (wrd ws) → H[117]? = some (ia sgl) → H[118]? = some (ia nbl) → FR 1 133 [.ref 115, .retAddr w, .int g, .int v] H (none, ov H [(115, .inr (7, [.int (Int32.ofNat o), .int (Int32.ofNat s2), .ref 116, .ref 117, .ref 118, .ref 119])), (116, wrd ws2), (117, ia sl2), (118, ia nb2)]) := by
  obtain ⟨s1, w1, g1, n1⟩ := h
  by_cases c : s < 40
  · refine ⟨s + 1, ws.set s (some w), sgl.set s g, nbl.set s v, ⟨by omega, by rw [List.length_set]; exact w1, by rw [List.length_set]; exact g1, by rw [List.length_set]; exact n1⟩, fun o H hlen h0 h1 h2 h3 => ?_⟩
    refine FR_ov (l := [(115, .inr (7, [.int (Int32.ofNat o), .int (Int32.ofNat s), .ref 116, .ref 117, .ref 118, .ref 119])), (116, wrd ws), (117, ia sgl), (118, ia nbl)]) (l2 := [(115, .inr (7, [.int (Int32.ofNat o), .int (Int32.ofNat (s + 1)), .ref 116, .ref 117, .ref 118, .ref 119])), (116, wrd (ws.set s (some w))), (117, ia (sgl.set s g)), (118, ia (nbl.set s v))]) (ov_id h0 (ov_id h1 (ov_id h2 (ov_c1 h3)))) rfl rfl ?_
    refine RT_step (pc2 := 1) rfl (fun _ _ => rfl) ?_
    refine ow_gf rfl rfl rfl hlen rfl ?_
    refine rt_bip rfl k8_40 ?_
    refine biF_ge rfl (n_nle (by omega) (by omega)) ?_
    refine RT_step (pc2 := 10) rfl (fun _ _ => rfl) ?_
    refine ow_gf rfl rfl rfl hlen rfl ?_
    refine RT_step (pc2 := 14) rfl (fun _ _ => rfl) ?_
    refine ow_gf rfl rfl rfl hlen rfl ?_
    refine RT_step (pc2 := 18) rfl (fun _ _ => rfl) ?_
    refine ow_aasK (l2 := [(115, .inr (7, [.int (Int32.ofNat o), .int (Int32.ofNat s), .ref 116, .ref 117, .ref 118, .ref 119])), (116, wrd (ws.set s (some w))), (117, ia sgl), (118, ia nbl)]) rfl rfl (by omega) (by omega) hw hlen rfl rfl ?_
    refine RT_step (pc2 := 20) rfl (fun _ _ => rfl) ?_
    refine ow_gf rfl rfl rfl hlen rfl ?_
    refine RT_step (pc2 := 24) rfl (fun _ _ => rfl) ?_
    refine ow_gf rfl rfl rfl hlen rfl ?_
    refine RT_step (pc2 := 28) rfl (fun _ _ => rfl) ?_
    refine ow_iasN (l2 := [(115, .inr (7, [.int (Int32.ofNat o), .int (Int32.ofNat s), .ref 116, .ref 117, .ref 118, .ref 119])), (116, wrd (ws.set s (some w))), (117, ia (sgl.set s g)), (118, ia nbl)]) rfl rfl (by omega) (by omega) hlen rfl rfl ?_
    refine RT_step (pc2 := 30) rfl (fun _ _ => rfl) ?_
    refine ow_gf rfl rfl rfl hlen rfl ?_
    refine RT_step (pc2 := 34) rfl (fun _ _ => rfl) ?_
    refine ow_gf rfl rfl rfl hlen rfl ?_
    refine RT_step (pc2 := 38) rfl (fun _ _ => rfl) ?_
    refine ow_iasN (l2 := [(115, .inr (7, [.int (Int32.ofNat o), .int (Int32.ofNat s), .ref 116, .ref 117, .ref 118, .ref 119])), (116, wrd (ws.set s (some w))), (117, ia (sgl.set s g)), (118, ia (nbl.set s v))]) rfl rfl (by omega) (by omega) hlen rfl rfl ?_
    refine RT_step (pc2 := 40) rfl (fun _ _ => rfl) ?_
    refine RT_step (pc2 := 41) rfl (fun _ _ => rfl) ?_
    refine ow_gf rfl rfl rfl hlen rfl ?_
    refine rt_ico rfl ki_1 ?_
    refine ba_iadd rfl ?_
    rw [n_add]
    refine ow_pf (l2 := [(115, .inr (7, [.int (Int32.ofNat o), .int (Int32.ofNat (s + 1)), .ref 116, .ref 117, .ref 118, .ref 119])), (116, wrd (ws.set s (some w))), (117, ia (sgl.set s g)), (118, ia (nbl.set s v))]) rfl rfl rfl rfl rfl hlen rfl rfl ?_
    exact ow_ret rfl rfl rfl
  · refine ⟨s, ws, sgl, nbl, ⟨s1, w1, g1, n1⟩, fun o H hlen h0 h1 h2 h3 => ?_⟩
    refine FR_ov (l := [(115, .inr (7, [.int (Int32.ofNat o), .int (Int32.ofNat s), .ref 116, .ref 117, .ref 118, .ref 119])), (116, wrd ws), (117, ia sgl), (118, ia nbl)]) (l2 := [(115, .inr (7, [.int (Int32.ofNat o), .int (Int32.ofNat s), .ref 116, .ref 117, .ref 118, .ref 119])), (116, wrd ws), (117, ia sgl), (118, ia nbl)]) (ov_id h0 (ov_id h1 (ov_id h2 (ov_c1 h3)))) rfl rfl ?_
    refine RT_step (pc2 := 1) rfl (fun _ _ => rfl) ?_
    refine ow_gf rfl rfl rfl hlen rfl ?_
    refine rt_bip rfl k8_40 ?_
    refine biT_ge rfl (n_le (by omega) (by omega)) ?_
    exact ow_ret rfl rfl rfl
theorem m_says {H : List AE} (hlen : Nat.ble 204 H.length = true) {p0 p2 nu sg fa pl td : Int32} {sz lim a fr kd : Nat} {wd : Int64} {vs : Nat → Value} {nn o wi tp : Nat} {nl : List Int32} {b c d e : Int32} (h0 : H[180]? = some (mcl p0 p2 sz lim a fr kd nu sg fa pl wd td (posn vs nn o wi tp))) (h1 : H[202]? = some (ia nl)) (hn : nl.length = 240) (hd : nn < 60) : FR 1 272 [.ref 180, .int b, .int c, .int d, .int e] H (some (.int (Int32.ofNat nn)), ov H [(180, mcl p0 p2 sz lim a fr kd nu sg fa pl wd td (posn vs (nn + 1) o wi tp)), (202, ia ((((nl.set (4 * nn) b).set (4 * nn + 1) c).set (4 * nn + 2) d).set (4 * nn + 3) e))]) := by
  refine FR_ov (l := [(180, mcl p0 p2 sz lim a fr kd nu sg fa pl wd td (posn vs nn o wi tp)), (202, ia nl)]) (l2 := [(180, mcl p0 p2 sz lim a fr kd nu sg fa pl wd td (posn vs (nn + 1) o wi tp)), (202, ia ((((nl.set (4 * nn) b).set (4 * nn + 1) c).set (4 * nn + 2) d).set (4 * nn + 3) e))]) (ov_id h0 (ov_c1 h1)) rfl rfl ?_
  refine rt_ico rfl ki_4 ?_
  refine RT_step (pc2 := 2) rfl (fun _ _ => rfl) ?_
  refine ow_gf rfl rfl rfl hlen rfl ?_
  refine ba_imul rfl ?_
  rw [nmul]
  refine RT_step (pc2 := 8) rfl (fun _ _ => rfl) ?_
  refine RT_step (pc2 := 9) rfl (fun _ _ => rfl) ?_
  refine ow_gf rfl rfl rfl hlen rfl ?_
  refine RT_step (pc2 := 14) rfl (fun _ _ => rfl) ?_
  refine RT_step (pc2 := 15) rfl (fun _ _ => rfl) ?_
  refine ow_iasN (l2 := [(180, mcl p0 p2 sz lim a fr kd nu sg fa pl wd td (posn vs nn o wi tp)), (202, ia (nl.set (4 * nn) b))]) rfl rfl (by (try simp only [List.length_set]); omega) (by omega) hlen rfl rfl ?_
  refine RT_step (pc2 := 17) rfl (fun _ _ => rfl) ?_
  refine ow_gf rfl rfl rfl hlen rfl ?_
  refine RT_step (pc2 := 22) rfl (fun _ _ => rfl) ?_
  refine rt_ico rfl ki_1 ?_
  refine ba_iadd rfl ?_
  rw [n_add]
  refine RT_step (pc2 := 25) rfl (fun _ _ => rfl) ?_
  refine ow_iasN (l2 := [(180, mcl p0 p2 sz lim a fr kd nu sg fa pl wd td (posn vs nn o wi tp)), (202, ia ((nl.set (4 * nn) b).set (4 * nn + 1) c))]) rfl rfl (by (try simp only [List.length_set]); omega) (by omega) hlen rfl rfl ?_
  refine RT_step (pc2 := 27) rfl (fun _ _ => rfl) ?_
  refine ow_gf rfl rfl rfl hlen rfl ?_
  refine RT_step (pc2 := 32) rfl (fun _ _ => rfl) ?_
  refine rt_ico rfl ki_2 ?_
  refine ba_iadd rfl ?_
  rw [n_add]
  refine RT_step (pc2 := 35) rfl (fun _ _ => rfl) ?_
  refine ow_iasN (l2 := [(180, mcl p0 p2 sz lim a fr kd nu sg fa pl wd td (posn vs nn o wi tp)), (202, ia (((nl.set (4 * nn) b).set (4 * nn + 1) c).set (4 * nn + 2) d))]) rfl rfl (by (try simp only [List.length_set]); omega) (by omega) hlen rfl rfl ?_
  refine RT_step (pc2 := 37) rfl (fun _ _ => rfl) ?_
  refine ow_gf rfl rfl rfl hlen rfl ?_
  refine RT_step (pc2 := 42) rfl (fun _ _ => rfl) ?_
  refine rt_ico rfl ki_3 ?_
  refine ba_iadd rfl ?_
  rw [n_add]
  refine RT_step (pc2 := 46) rfl (fun _ _ => rfl) ?_
  refine ow_iasN (l2 := [(180, mcl p0 p2 sz lim a fr kd nu sg fa pl wd td (posn vs nn o wi tp)), (202, ia ((((nl.set (4 * nn) b).set (4 * nn + 1) c).set (4 * nn + 2) d).set (4 * nn + 3) e))]) rfl rfl (by (try simp only [List.length_set]); omega) (by omega) hlen rfl rfl ?_
  refine RT_step (pc2 := 48) rfl (fun _ _ => rfl) ?_
  refine RT_step (pc2 := 49) rfl (fun _ _ => rfl) ?_
  refine ow_gf rfl rfl rfl hlen rfl ?_
  refine rt_ico rfl ki_1 ?_
  refine ba_iadd rfl ?_
  rw [n_add]
  refine ow_pf (l2 := [(180, mcl p0 p2 sz lim a fr kd nu sg fa pl wd td (posn vs (nn + 1) o wi tp)), (202, ia ((((nl.set (4 * nn) b).set (4 * nn + 1) c).set (4 * nn + 2) d).set (4 * nn + 3) e))]) rfl rfl rfl rfl rfl hlen rfl rfl ?_
  refine RT_step (pc2 := 58) rfl (fun _ _ => rfl) ?_
  refine ow_gf rfl rfl rfl hlen rfl ?_
  refine rt_ico rfl ki_1 ?_
  refine ba_isub rfl ?_
  rw [n_sub (by omega), Nat.add_sub_cancel]
  exact ow_irt rfl rfl rfl
def wjF (kd : Nat) (wd : Int64) : Nat → Nat → Nat
  | 0, i => i
  | r + 1, i => if isW kd wd i = true then i else wjF kd wd r (i + 1)
def wjw (w : Nat) : Nat → Nat → Nat
  | 0, i => i
  | r + 1, i => if w = WX.getD i 0 then i else wjw w r (i + 1)
theorem wj_eq {k n a kd w : Nat} {le : Int64} {nu nm sg : Int32} {wd : Int64} (t : TF k n a kd w le nu nm sg wd) : ∀ (r i : Nat), i + r = 30 → wjF (km kd) wd r i = wjw w r i
  | 0, _, _ => rfl
  | r + 1, i, h => by
    show (if isW (km kd) wd i = true then i else wjF (km kd) wd r (i + 1)) = (if w = WX.getD i 0 then i else wjw w r (i + 1))
    rw [w_is t (show i < 30 by omega), wj_eq t r (i + 1) (by omega)]
    by_cases c : w = WX.getD i 0
    · rw [if_pos c, if_pos (decide_eq_true c)]
    · rw [if_neg c, if_neg (fun e => c (of_decide_eq_true e))]
/-- the words that begin a ONE; what the class's switches say of each -/
theorem wb_cases : ∀ w, w < 32 → (wjw w 11 19 = 30 ∧ ((ev_sw.getD w 0).toInt < 16 ∨ 26 < (ev_sw.getD w 0).toInt)) ∨ (wjw w 11 19 = 19 ∧ w = 22) ∨ (wjw w 11 19 = 25 ∧ w = 27) ∨ (∃ j, j < 30 ∧ 26 ≤ j ∧ wjw w 11 19 = j ∧ (w = 28 ∨ w = 29 ∨ w = 30 ∨ w = 31)) ∨ (∃ j, j < 25 ∧ 20 ≤ j ∧ wjw w 11 19 = j ∧ (w = 23 ∨ w = 3 ∨ w = 24 ∨ w = 25 ∨ w = 26)) := by decide +kernel
theorem m_wl {H : List AE} (hlen : Nat.ble 204 H.length = true) {p0 p2 nu sg fa pl td : Int32} {sz lim a fr kd : Nat} {wd : Int64} {vs : Nat → Value} {nn o wi tp : Nat} {R : List (Nat × AE)} (hk : kd < 10) {dd : Nat} {z : Int32} {q : ev_R} : ∀ (r i : Nat) (L : List (Nat × Value)), i + r = 30 → ev_g L 0 = some (.ref 180) → ev_g L 1 = some (.int z) → ev_g L 2 = some (.int (Int32.ofNat i)) → (∀ L2, ev_g L2 0 = some (.ref 180) → ev_g L2 1 = some (.int z) → ev_g L2 2 = some (.int (Int32.ofNat (wjF kd wd r i))) → RT MM (dd + 3) 266 30 L2 [] (ov H ((180, mcl p0 p2 sz lim a fr kd nu sg fa pl wd td (posn vs nn o wi tp)) :: R)) q) → RT MM (dd + 3) 266 10 L [] (ov H ((180, mcl p0 p2 sz lim a fr kd nu sg fa pl wd td (posn vs nn o wi tp)) :: R)) q := by
  intro r
  induction r with
  | zero =>
    intro i L hi l0 l1 l2 hq
    have hi : i = 30 := by omega
    subst hi
    refine rt_ild rfl l2 ?_
    refine rt_bip rfl k8_29 ?_
    refine biT_gt rfl (n_lt (by omega) (by omega)) ?_
    exact hq _ l0 l1 l2
  | succ r ih =>
    intro i L hi l0 l1 l2 hq
    cases c : isW kd wd i with
    | true =>
      rw [show wjF kd wd (r + 1) i = i from if_pos c] at hq
      refine rt_ild rfl l2 ?_
      refine rt_bip rfl k8_29 ?_
      refine biF_gt rfl (n_nlt (by omega) (by omega)) ?_
      refine rt_ald rfl l0 ?_
      refine rt_ild rfl l2 ?_
      refine ow_iv1 (l2 := ((180, mcl p0 p2 sz lim a fr kd nu sg fa pl wd td (posn vs nn o wi tp)) :: R)) rfl rfl rfl rfl hlen rfl rfl rfl ((m_isWord (k := i) (ov_hl hlen) (ov_at rfl (ov_lt hlen (by decide))) hk (by omega)).up (by omega)) rfl ?_
      refine bcF_ne rfl (b01_t c) ?_
      exact hq _ l0 l1 l2
    | false =>
      rw [show wjF kd wd (r + 1) i = wjF kd wd r (i + 1) from if_neg (by rw [c]; decide)] at hq
      refine rt_ild rfl l2 ?_
      refine rt_bip rfl k8_29 ?_
      refine biF_gt rfl (n_nlt (by omega) (by omega)) ?_
      refine rt_ald rfl l0 ?_
      refine rt_ild rfl l2 ?_
      refine ow_iv1 (l2 := ((180, mcl p0 p2 sz lim a fr kd nu sg fa pl wd td (posn vs nn o wi tp)) :: R)) rfl rfl rfl rfl hlen rfl rfl rfl ((m_isWord (k := i) (ov_hl hlen) (ov_at rfl (ov_lt hlen (by decide))) hk (by omega)).up (by omega)) rfl ?_
      refine bcT_ne rfl (b01_f c) ?_
      refine rt_inc rfl l2 (by decide +kernel) ?_
      rw [in_1]
      refine RT_step (pc2 := 10) rfl (fun _ _ => rfl) ?_
      exact ih (i + 1) _ (by omega) (gs_o rfl l0 rfl) (gs_o rfl l1 rfl) gs_n hq
theorem m_find7L {H : List AE} (hlen : Nat.ble 204 H.length = true) {arr : List Int64} {wq : Int64} {cnt : Nat} {bs0 : Nat} (hc : bs0 + cnt ≤ arr.length) (ha : arr.length ≤ 100) {dd : Nat} : ∀ (r i : Nat) (L : List (Nat × Value)), i + r = cnt → ev_g L 0 = some (.ref 187) → ev_g L 1 = some (.int (Int32.ofNat bs0)) → ev_g L 2 = some (.int (Int32.ofNat cnt)) → ev_g L 3 = some (.long wq) → ev_g L 5 = some (.int (Int32.ofNat i)) → RT MM dd 200 3 L [] (ov H [(187, lng arr)]) (some (.int (fdI (fd arr wq bs0 r i))), ov H [(187, lng arr)]) := by
  intro r
  induction r with
  | zero =>
    intro i L hi l0 l1 l2 l3 l5
    have hi : i = cnt := by omega
    subst hi
    refine rt_il2 rfl l5 ?_
    refine rt_ild rfl l2 ?_
    refine biT_ge rfl (n_le (Nat.le_refl _) (by omega)) ?_
    refine rt_ico rfl ki_m1 ?_
    exact ow_irt rfl rfl rfl
  | succ r ih =>
    intro i L hi l0 l1 l2 l3 l5
    have ez : arr.getD (bs0 + i) 0 = arr.getD (bs0 + i) 0 := rfl
    by_cases hq : arr.getD (bs0 + i) 0 = wq
    · rw [fd_0 (ez.trans hq)]
      refine rt_il2 rfl l5 ?_
      refine rt_ild rfl l2 ?_
      refine biF_ge rfl (n_nle (by omega) (by omega)) ?_
      refine rt_ald rfl l0 ?_
      refine rt_ild rfl l1 ?_
      refine rt_il2 rfl l5 ?_
      refine ba_iadd rfl ?_
      rw [n_add]
      refine ow_lalN rfl rfl (gDy (i := bs0 + i) (by omega)) (by omega) hlen rfl ?_
      refine rt_lld rfl l3 ?_
      refine ba_lcmp rfl ?_
      refine bcT_ne rfl (lg_0 hq) ?_
      refine rt_il2 rfl l5 ?_
      exact ow_irt rfl rfl rfl
    · rw [fd_1 (fun e => hq (ez.symm.trans e))]
      refine rt_il2 rfl l5 ?_
      refine rt_ild rfl l2 ?_
      refine biF_ge rfl (n_nle (by omega) (by omega)) ?_
      refine rt_ald rfl l0 ?_
      refine rt_ild rfl l1 ?_
      refine rt_il2 rfl l5 ?_
      refine ba_iadd rfl ?_
      rw [n_add]
      refine ow_lalN rfl rfl (gDy (i := bs0 + i) (by omega)) (by omega) hlen rfl ?_
      refine rt_lld rfl l3 ?_
      refine ba_lcmp rfl ?_
      refine bcF_ne rfl (lg_1 hq) ?_
      refine rt_inc rfl l5 (by decide +kernel) ?_
      rw [in_1]
      refine RT_step (pc2 := 3) rfl (fun _ _ => rfl) ?_
      exact ih (i + 1) _ (by omega) (gs_o rfl l0 rfl) (gs_o rfl l1 rfl) (gs_o rfl l2 rfl) (gs_o2 rfl rfl l3) gs_n
theorem m_find7 {H : List AE} (hlen : Nat.ble 204 H.length = true) {arr : List Int64} {wq : Int64} {cnt : Nat} {bs0 : Nat} (h1 : H[187]? = some (lng arr)) (hc : bs0 + cnt ≤ arr.length) (ha : arr.length ≤ 100) : FR 1 200 [.ref 187, .int (Int32.ofNat bs0), .int (Int32.ofNat cnt), .long wq] H (some (.int (fdI (fd arr wq bs0 cnt 0))), ov H []) := by
  refine FR_ov (l := [(187, lng arr)]) (l2 := [(187, lng arr)]) (ov_c1 h1) rfl (ov_c1 h1) ?_
  refine rt_ico rfl ki_0 ?_
  refine RT_step (pc2 := 3) rfl (fun _ _ => rfl) ?_
  exact m_find7L hlen hc ha cnt 0 _ (by omega) rfl rfl rfl rfl rfl
