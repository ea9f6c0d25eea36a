theorem k16_920 : (Int16.ofInt 920).toInt32 = Int32.ofNat 920 := by decide +kernel
theorem k8_24 : (Int8.ofInt 24).toInt32 = Int32.ofNat 24 := by decide +kernel
/-! ===== bytes that come ===== -/
def TP (bs ts : List Int32) : Prop := bs.length = 940 ∧ ts.length = 940 ∧ ∀ i, i < 940 → ∃ v : Int32, bs[i]? = some v ∧ ts[i]? = some (v &&& Int32.ofNat 255)
theorem and_255 (y : Int32) : ∃ c : Nat, c < 256 ∧ y &&& Int32.ofNat 255 = Int32.ofNat c := pk_andE y 8 (by decide +kernel)
theorem tp_B {bs ts : List Int32} (h : TP bs ts) : ∃ B : Nat → Nat, BY bs B ∧ MY ts B ∧ ∀ i, B i < 256 := by
  have key : ∀ i, ∃ c : Nat, c < 256 ∧ (i < 940 → ∃ v : Int32, bs[i]? = some v ∧ ts[i]? = some (v &&& Int32.ofNat 255) ∧ v &&& Int32.ofNat 255 = Int32.ofNat c) := fun i => by
    by_cases hi : i < 940
    · obtain ⟨v, v1, v2⟩ := h.2.2 i hi
      obtain ⟨c, c1, c2⟩ := and_255 v
      exact ⟨c, c1, fun _ => ⟨v, v1, v2, c2⟩⟩
    · exact ⟨0, by decide, fun e => absurd e hi⟩
  refine ⟨fun i => (key i).choose, fun i hi => ?_, fun i hi => ?_, fun i => (key i).choose_spec.1⟩
  · obtain ⟨v, v1, v2, v3⟩ := (key i).choose_spec.2 hi
    exact ⟨v, v1, v3, (key i).choose_spec.1⟩
  · obtain ⟨v, v1, v2, v3⟩ := (key i).choose_spec.2 hi
    exact ⟨by rw [v2, v3], (key i).choose_spec.1⟩
def yk (x : Int32) (s : Nat) : Int32 := (x.toUInt32 >>> ((Int32.ofNat s).toUInt32 &&& Int32.toUInt32 31)).toInt32
def by8 (y : Int32) : Int32 := y.toInt8.toInt32.toInt8.toInt32
theorem by8_and (y : Int32) : by8 y &&& Int32.ofNat 255 = y &&& Int32.ofNat 255 := by
  apply Int32.toBitVec_inj.mp
  show (((y.toBitVec.signExtend 8).signExtend 32).signExtend 8).signExtend 32 &&& 255#32 = y.toBitVec &&& 255#32
  apply BitVec.eq_of_getLsbD_eq
  intro i hi
  rw [BitVec.getLsbD_and, BitVec.getLsbD_and]
  by_cases h : i < 8
  · simp only [BitVec.getLsbD_signExtend, h, hi, decide_true, Bool.true_and, if_true]
  · have e : (255#32).getLsbD i = false := by
      have : ∀ j, j < 32 → ¬ j < 8 → (255#32).getLsbD j = false := by decide
      exact this i hi h
    rw [e, Bool.and_false, Bool.and_false]
theorem tp_set {bs ts : List Int32} {i : Nat} {y : Int32} (h : TP bs ts) : TP (bs.set i (by8 y)) (ts.set i (y &&& Int32.ofNat 255)) := by
  refine ⟨by rw [List.length_set]; exact h.1, by rw [List.length_set]; exact h.2.1, fun j hj => ?_⟩
  by_cases c : i = j
  · subst c
    exact ⟨by8 y, List.getElem?_set_self (by have := h.1; omega), by rw [List.getElem?_set_self (by have := h.2.1; omega), by8_and]⟩
  · rw [List.getElem?_set_ne c, List.getElem?_set_ne c]
    exact h.2.2 j hj
def pt (bs : List Int32) (n : Nat) (x : Int32) : List Int32 := (((bs.set n (by8 (yk x 24))).set (n + 1) (by8 (yk x 16))).set (n + 1 + 1) (by8 (yk x 8))).set (n + 1 + 1 + 1) (by8 (yk x 0))
def qt (ts : List Int32) (n : Nat) (x : Int32) : List Int32 := (((ts.set n (yk x 24 &&& Int32.ofNat 255)).set (n + 1) (yk x 16 &&& Int32.ofNat 255)).set (n + 1 + 1) (yk x 8 &&& Int32.ofNat 255)).set (n + 1 + 1 + 1) (yk x 0 &&& Int32.ofNat 255)
theorem tp_pt {bs ts : List Int32} {n : Nat} {x : Int32} (h : TP bs ts) : TP (pt bs n x) (qt ts n x) := tp_set (tp_set (tp_set (tp_set h)))
theorem pt_len {bs : List Int32} {n : Nat} {x : Int32} : (pt bs n x).length = bs.length := by unfold pt; simp only [List.length_set]
theorem qt_len {bs : List Int32} {n : Nat} {x : Int32} : (qt bs n x).length = bs.length := by unfold qt; simp only [List.length_set]
theorem sh_1 : Int32.ofNat 24 + Int32.ofInt (-8) = Int32.ofNat 16 := by decide
theorem sh_2 : Int32.ofNat 16 + Int32.ofInt (-8) = Int32.ofNat 8 := by decide
theorem sh_3 : Int32.ofNat 8 + Int32.ofInt (-8) = Int32.ofNat 0 := by decide
theorem sh_4 : Int32.ofNat 0 + Int32.ofInt (-8) = (-8 : Int32) := by decide
theorem ow_basN {dd mi pc x y : Nat} {L : List (Nat × Value)} {st : List Value} {hp : List AE} {l l2 : List (Nat × AE)} {q : ev_R} {a i : Nat} {arr : List Int32} {v : Int32} (hf : mF MM mi pc = some (.bastore, x, y)) (hk : olk l a = some (.inl (0, .inl arr))) (hi : i < arr.length) (hb2 : i < 2147483648) (ha : Nat.ble 204 hp.length = true) (hb : Nat.blt a 204 = true) (hl : oin l a (.inl (0, .inl (arr.set i v.toInt8.toInt32))) = l2) (h : RT MM dd mi (pc + 1) L st (ov hp l2) q) : RT MM dd mi pc L (.int v :: .int (Int32.ofNat i) :: .ref a :: st) (ov hp l) q := by
  have e := ov_at hk (Nat.lt_of_lt_of_le (Nat.le_of_ble_eq_true hb) (Nat.le_of_ble_eq_true ha))
  have e2 : ev_ai (ov hp l) a = some (0, arr) := by unfold ev_ai; rw [e]
  refine RT_step hf (fun cf K => ?_) h
  show (ev_ai (ov hp l) a).bind _ = _
  rw [e2]
  show (ev_rd arr (Int32.ofNat i)).bind (fun _ => if (0 : Nat) = 0 then K (pc + 1) L st ((ov hp l).set a (.inl (0, .inl (arr.set (Int32.ofNat i).toNatClampNeg v.toInt8.toInt32)))) 0 0 else _) = _
  rw [rd_nat (gd_i hi) hb2, show (Int32.ofNat i).toNatClampNeg = i from nI_c hb2, ov_set, hl]
  rfl
theorem x_put {H : List AE} (hlen : Nat.ble 204 H.length = true) {n : Nat} {lim a kd pl w : Nat} {le : Int64} {nu tk fa fp : Int32} {bs : List Int32} {x : Int32} (h1 : H[1]? = some (tcl n lim a kd pl w le nu tk fa fp)) (h2 : H[2]? = some (bcl bs)) (lb : bs.length = 940) (hn : n + 4 ≤ 940) : FR 1 162 [.ref 1, .int x] H (none, ov H [(1, tcl (n + 1 + 1 + 1 + 1) lim a kd pl w le nu tk fa fp), (2, bcl (pt bs n x))]) := by
  refine FR_ov (l := [(1, tcl n lim a kd pl w le nu tk fa fp), (2, bcl bs)]) (l2 := [(1, tcl (n + 1 + 1 + 1 + 1) lim a kd pl w le nu tk fa fp), (2, bcl (pt bs n x))]) (ov_id h1 (ov_c1 h2)) rfl rfl ?_
  refine rt_bip rfl k8_24 ?_
  refine RT_step (pc2 := 3) rfl (fun _ _ => rfl) ?_
  refine RT_step (pc2 := 4) rfl (fun _ _ => rfl) ?_
  refine bcF_lt rfl (by decide) ?_
  refine RT_step (pc2 := 8) rfl (fun _ _ => rfl) ?_
  refine ow_gf rfl rfl rfl hlen rfl ?_
  refine bcF_lt rfl (n_ps (by omega)) ?_
  refine RT_step (pc2 := 15) rfl (fun _ _ => rfl) ?_
  refine ow_gf rfl rfl rfl hlen rfl ?_
  refine rt_sip rfl k16_940 ?_
  refine biF_ge rfl (n_nle (by omega) (by decide)) ?_
  refine RT_step (pc2 := 25) rfl (fun _ _ => rfl) ?_
  refine ow_gf rfl rfl rfl hlen rfl ?_
  refine RT_step (pc2 := 29) rfl (fun _ _ => rfl) ?_
  refine ow_gf rfl rfl rfl hlen rfl ?_
  refine RT_step (pc2 := 33) rfl (fun _ _ => rfl) ?_
  refine RT_step (pc2 := 34) rfl (fun _ _ => rfl) ?_
  refine ba_iushr rfl ?_
  refine RT_step (pc2 := 36) rfl (fun _ _ => rfl) ?_
  refine ow_basN rfl rfl (by first | omega | (simp only [List.length_set]; omega)) (by omega) hlen rfl rfl ?_
  refine RT_step (pc2 := 38) rfl (fun _ _ => rfl) ?_
  refine RT_step (pc2 := 39) rfl (fun _ _ => rfl) ?_
  refine ow_gf rfl rfl rfl hlen rfl ?_
  refine rt_ico rfl ki_1 ?_
  refine ba_iadd rfl ?_
  rw [n_add]
  refine ow_pf rfl rfl rfl rfl rfl hlen rfl rfl ?_
  refine RT_step (pc2 := 50) rfl (fun _ _ => rfl) ?_
  first | rw [sh_1] | rw [sh_2] | rw [sh_3] | rw [sh_4]
  refine RT_step (pc2 := 3) rfl (fun _ _ => rfl) ?_
  refine RT_step (pc2 := 4) rfl (fun _ _ => rfl) ?_
  refine bcF_lt rfl (by decide) ?_
  refine RT_step (pc2 := 8) rfl (fun _ _ => rfl) ?_
  refine ow_gf rfl rfl rfl hlen rfl ?_
  refine bcF_lt rfl (n_ps (by omega)) ?_
  refine RT_step (pc2 := 15) rfl (fun _ _ => rfl) ?_
  refine ow_gf rfl rfl rfl hlen rfl ?_
  refine rt_sip rfl k16_940 ?_
  refine biF_ge rfl (n_nle (by omega) (by decide)) ?_
  refine RT_step (pc2 := 25) rfl (fun _ _ => rfl) ?_
  refine ow_gf rfl rfl rfl hlen rfl ?_
  refine RT_step (pc2 := 29) rfl (fun _ _ => rfl) ?_
  refine ow_gf rfl rfl rfl hlen rfl ?_
  refine RT_step (pc2 := 33) rfl (fun _ _ => rfl) ?_
  refine RT_step (pc2 := 34) rfl (fun _ _ => rfl) ?_
  refine ba_iushr rfl ?_
  refine RT_step (pc2 := 36) rfl (fun _ _ => rfl) ?_
  refine ow_basN rfl rfl (by first | omega | (simp only [List.length_set]; omega)) (by omega) hlen rfl rfl ?_
  refine RT_step (pc2 := 38) rfl (fun _ _ => rfl) ?_
  refine RT_step (pc2 := 39) rfl (fun _ _ => rfl) ?_
  refine ow_gf rfl rfl rfl hlen rfl ?_
  refine rt_ico rfl ki_1 ?_
  refine ba_iadd rfl ?_
  rw [n_add]
  refine ow_pf rfl rfl rfl rfl rfl hlen rfl rfl ?_
  refine RT_step (pc2 := 50) rfl (fun _ _ => rfl) ?_
  first | rw [sh_1] | rw [sh_2] | rw [sh_3] | rw [sh_4]
  refine RT_step (pc2 := 3) rfl (fun _ _ => rfl) ?_
  refine RT_step (pc2 := 4) rfl (fun _ _ => rfl) ?_
  refine bcF_lt rfl (by decide) ?_
  refine RT_step (pc2 := 8) rfl (fun _ _ => rfl) ?_
  refine ow_gf rfl rfl rfl hlen rfl ?_
  refine bcF_lt rfl (n_ps (by omega)) ?_
  refine RT_step (pc2 := 15) rfl (fun _ _ => rfl) ?_
  refine ow_gf rfl rfl rfl hlen rfl ?_
  refine rt_sip rfl k16_940 ?_
  refine biF_ge rfl (n_nle (by omega) (by decide)) ?_
  refine RT_step (pc2 := 25) rfl (fun _ _ => rfl) ?_
  refine ow_gf rfl rfl rfl hlen rfl ?_
  refine RT_step (pc2 := 29) rfl (fun _ _ => rfl) ?_
  refine ow_gf rfl rfl rfl hlen rfl ?_
  refine RT_step (pc2 := 33) rfl (fun _ _ => rfl) ?_
  refine RT_step (pc2 := 34) rfl (fun _ _ => rfl) ?_
  refine ba_iushr rfl ?_
  refine RT_step (pc2 := 36) rfl (fun _ _ => rfl) ?_
  refine ow_basN rfl rfl (by first | omega | (simp only [List.length_set]; omega)) (by omega) hlen rfl rfl ?_
  refine RT_step (pc2 := 38) rfl (fun _ _ => rfl) ?_
  refine RT_step (pc2 := 39) rfl (fun _ _ => rfl) ?_
  refine ow_gf rfl rfl rfl hlen rfl ?_
  refine rt_ico rfl ki_1 ?_
  refine ba_iadd rfl ?_
  rw [n_add]
  refine ow_pf rfl rfl rfl rfl rfl hlen rfl rfl ?_
  refine RT_step (pc2 := 50) rfl (fun _ _ => rfl) ?_
  first | rw [sh_1] | rw [sh_2] | rw [sh_3] | rw [sh_4]
  refine RT_step (pc2 := 3) rfl (fun _ _ => rfl) ?_
  refine RT_step (pc2 := 4) rfl (fun _ _ => rfl) ?_
  refine bcF_lt rfl (by decide) ?_
  refine RT_step (pc2 := 8) rfl (fun _ _ => rfl) ?_
  refine ow_gf rfl rfl rfl hlen rfl ?_
  refine bcF_lt rfl (n_ps (by omega)) ?_
  refine RT_step (pc2 := 15) rfl (fun _ _ => rfl) ?_
  refine ow_gf rfl rfl rfl hlen rfl ?_
  refine rt_sip rfl k16_940 ?_
  refine biF_ge rfl (n_nle (by omega) (by decide)) ?_
  refine RT_step (pc2 := 25) rfl (fun _ _ => rfl) ?_
  refine ow_gf rfl rfl rfl hlen rfl ?_
  refine RT_step (pc2 := 29) rfl (fun _ _ => rfl) ?_
  refine ow_gf rfl rfl rfl hlen rfl ?_
  refine RT_step (pc2 := 33) rfl (fun _ _ => rfl) ?_
  refine RT_step (pc2 := 34) rfl (fun _ _ => rfl) ?_
  refine ba_iushr rfl ?_
  refine RT_step (pc2 := 36) rfl (fun _ _ => rfl) ?_
  refine ow_basN rfl rfl (by first | omega | (simp only [List.length_set]; omega)) (by omega) hlen rfl rfl ?_
  refine RT_step (pc2 := 38) rfl (fun _ _ => rfl) ?_
  refine RT_step (pc2 := 39) rfl (fun _ _ => rfl) ?_
  refine ow_gf rfl rfl rfl hlen rfl ?_
  refine rt_ico rfl ki_1 ?_
  refine ba_iadd rfl ?_
  rw [n_add]
  refine ow_pf rfl rfl rfl rfl rfl hlen rfl rfl ?_
  refine RT_step (pc2 := 50) rfl (fun _ _ => rfl) ?_
  first | rw [sh_1] | rw [sh_2] | rw [sh_3] | rw [sh_4]
  refine RT_step (pc2 := 3) rfl (fun _ _ => rfl) ?_
  refine RT_step (pc2 := 4) rfl (fun _ _ => rfl) ?_
  refine bcT_lt rfl (by decide) ?_
  exact ow_ret rfl rfl rfl
theorem m_come {H : List AE} (hlen : Nat.ble 204 H.length = true) {n : Nat} {p0 nu sg fa pl td : Int32} {sz lim a fr kd : Nat} {wd : Int64} {po : List Value} {ts : List Int32} {x : Int32} (h1 : H[180]? = some (mcl p0 (Int32.ofNat n) sz lim a fr kd nu sg fa pl wd td po)) (h2 : H[181]? = some (mtl ts)) (lb : ts.length = 940) (hn : n + 4 ≤ 940) : FR 1 185 [.ref 180, .int x] H (none, ov H [(180, mcl p0 (Int32.ofNat (n + 1 + 1 + 1 + 1)) sz lim a fr kd nu sg fa pl wd td po), (181, mtl (qt ts n x))]) := by
  refine FR_ov (l := [(180, mcl p0 (Int32.ofNat n) sz lim a fr kd nu sg fa pl wd td po), (181, mtl ts)]) (l2 := [(180, mcl p0 (Int32.ofNat (n + 1 + 1 + 1 + 1)) sz lim a fr kd nu sg fa pl wd td po), (181, mtl (qt ts n x))]) (ov_id h1 (ov_c1 h2)) rfl rfl ?_
  refine rt_bip rfl k8_24 ?_
  refine RT_step (pc2 := 3) rfl (fun _ _ => rfl) ?_
  refine RT_step (pc2 := 4) rfl (fun _ _ => rfl) ?_
  refine bcF_lt rfl (by decide) ?_
  refine RT_step (pc2 := 8) rfl (fun _ _ => rfl) ?_
  refine ow_gf rfl rfl rfl hlen rfl ?_
  refine RT_step (pc2 := 12) rfl (fun _ _ => rfl) ?_
  refine ow_gf rfl rfl rfl hlen rfl ?_
  refine RT_step (pc2 := 16) rfl (fun _ _ => rfl) ?_
  refine RT_step (pc2 := 17) rfl (fun _ _ => rfl) ?_
  refine ba_iushr rfl ?_
  refine rt_sip rfl k16_255 ?_
  refine ba_iand rfl ?_
  refine ow_iasN rfl rfl (by first | omega | (simp only [List.length_set]; omega)) (by omega) hlen rfl rfl ?_
  refine RT_step (pc2 := 24) rfl (fun _ _ => rfl) ?_
  refine RT_step (pc2 := 25) rfl (fun _ _ => rfl) ?_
  refine ow_gf rfl rfl rfl hlen rfl ?_
  refine rt_ico rfl ki_1 ?_
  refine ba_iadd rfl ?_
  rw [n_add]
  refine ow_pf rfl rfl rfl rfl rfl hlen rfl rfl ?_
  refine RT_step (pc2 := 36) rfl (fun _ _ => rfl) ?_
  first | rw [sh_1] | rw [sh_2] | rw [sh_3] | rw [sh_4]
  refine RT_step (pc2 := 3) rfl (fun _ _ => rfl) ?_
  refine RT_step (pc2 := 4) rfl (fun _ _ => rfl) ?_
  refine bcF_lt rfl (by decide) ?_
  refine RT_step (pc2 := 8) rfl (fun _ _ => rfl) ?_
  refine ow_gf rfl rfl rfl hlen rfl ?_
  refine RT_step (pc2 := 12) rfl (fun _ _ => rfl) ?_
  refine ow_gf rfl rfl rfl hlen rfl ?_
  refine RT_step (pc2 := 16) rfl (fun _ _ => rfl) ?_
  refine RT_step (pc2 := 17) rfl (fun _ _ => rfl) ?_
  refine ba_iushr rfl ?_
  refine rt_sip rfl k16_255 ?_
  refine ba_iand rfl ?_
  refine ow_iasN rfl rfl (by first | omega | (simp only [List.length_set]; omega)) (by omega) hlen rfl rfl ?_
  refine RT_step (pc2 := 24) rfl (fun _ _ => rfl) ?_
  refine RT_step (pc2 := 25) rfl (fun _ _ => rfl) ?_
  refine ow_gf rfl rfl rfl hlen rfl ?_
  refine rt_ico rfl ki_1 ?_
  refine ba_iadd rfl ?_
  rw [n_add]
  refine ow_pf rfl rfl rfl rfl rfl hlen rfl rfl ?_
  refine RT_step (pc2 := 36) rfl (fun _ _ => rfl) ?_
  first | rw [sh_1] | rw [sh_2] | rw [sh_3] | rw [sh_4]
  refine RT_step (pc2 := 3) rfl (fun _ _ => rfl) ?_
  refine RT_step (pc2 := 4) rfl (fun _ _ => rfl) ?_
  refine bcF_lt rfl (by decide) ?_
  refine RT_step (pc2 := 8) rfl (fun _ _ => rfl) ?_
  refine ow_gf rfl rfl rfl hlen rfl ?_
  refine RT_step (pc2 := 12) rfl (fun _ _ => rfl) ?_
  refine ow_gf rfl rfl rfl hlen rfl ?_
  refine RT_step (pc2 := 16) rfl (fun _ _ => rfl) ?_
  refine RT_step (pc2 := 17) rfl (fun _ _ => rfl) ?_
  refine ba_iushr rfl ?_
  refine rt_sip rfl k16_255 ?_
  refine ba_iand rfl ?_
  refine ow_iasN rfl rfl (by first | omega | (simp only [List.length_set]; omega)) (by omega) hlen rfl rfl ?_
  refine RT_step (pc2 := 24) rfl (fun _ _ => rfl) ?_
  refine RT_step (pc2 := 25) rfl (fun _ _ => rfl) ?_
  refine ow_gf rfl rfl rfl hlen rfl ?_
  refine rt_ico rfl ki_1 ?_
  refine ba_iadd rfl ?_
  rw [n_add]
  refine ow_pf rfl rfl rfl rfl rfl hlen rfl rfl ?_
  refine RT_step (pc2 := 36) rfl (fun _ _ => rfl) ?_
  first | rw [sh_1] | rw [sh_2] | rw [sh_3] | rw [sh_4]
  refine RT_step (pc2 := 3) rfl (fun _ _ => rfl) ?_
  refine RT_step (pc2 := 4) rfl (fun _ _ => rfl) ?_
  refine bcF_lt rfl (by decide) ?_
  refine RT_step (pc2 := 8) rfl (fun _ _ => rfl) ?_
  refine ow_gf rfl rfl rfl hlen rfl ?_
  refine RT_step (pc2 := 12) rfl (fun _ _ => rfl) ?_
  refine ow_gf rfl rfl rfl hlen rfl ?_
  refine RT_step (pc2 := 16) rfl (fun _ _ => rfl) ?_
  refine RT_step (pc2 := 17) rfl (fun _ _ => rfl) ?_
  refine ba_iushr rfl ?_
  refine rt_sip rfl k16_255 ?_
  refine ba_iand rfl ?_
  refine ow_iasN rfl rfl (by first | omega | (simp only [List.length_set]; omega)) (by omega) hlen rfl rfl ?_
  refine RT_step (pc2 := 24) rfl (fun _ _ => rfl) ?_
  refine RT_step (pc2 := 25) rfl (fun _ _ => rfl) ?_
  refine ow_gf rfl rfl rfl hlen rfl ?_
  refine rt_ico rfl ki_1 ?_
  refine ba_iadd rfl ?_
  rw [n_add]
  refine ow_pf rfl rfl rfl rfl rfl hlen rfl rfl ?_
  refine RT_step (pc2 := 36) rfl (fun _ _ => rfl) ?_
  first | rw [sh_1] | rw [sh_2] | rw [sh_3] | rw [sh_4]
  refine RT_step (pc2 := 3) rfl (fun _ _ => rfl) ?_
  refine RT_step (pc2 := 4) rfl (fun _ _ => rfl) ?_
  refine bcT_lt rfl (by decide) ?_
  exact ow_ret rfl rfl rfl
theorem x_feed {H : List AE} (hlen : Nat.ble 204 H.length = true) {d s se ss n : Nat} {lt fb tq gb : Int32} {lim a kd pl w : Nat} {le : Int64} {nu tk fa fp : Int32} {bs : List Int32} {x1 x2 x3 x4 x5 : Int32} (h0 : H[0]? = some (.inr (10, [.ref 1, .ref d, .ref s, .ref 23, .ref 31, .ref 39, .ref 105, .ref se, .ref ss, .ref 120, .ref 125, .ref 129, .ref 131, .int lt, .int fb, .int tq, .int gb]))) (h1 : H[1]? = some (tcl n lim a kd pl w le nu tk fa fp)) (h2 : H[2]? = some (bcl bs)) (lb : bs.length = 940) (hn : n + 20 ≤ 940) : FR 2 18 [.ref 0, .int x1, .int x2, .int x3, .int x4, .int x5] H (some (.int (Int32.ofNat (((((n + 1 + 1 + 1 + 1) + 1 + 1 + 1 + 1) + 1 + 1 + 1 + 1) + 1 + 1 + 1 + 1) + 1 + 1 + 1 + 1))), ov H [(0, .inr (10, [.ref 1, .ref d, .ref s, .ref 23, .ref 31, .ref 39, .ref 105, .ref se, .ref ss, .ref 120, .ref 125, .ref 129, .ref 131, .int lt, .int fb, .int tq, .int gb])), (1, tcl (((((n + 1 + 1 + 1 + 1) + 1 + 1 + 1 + 1) + 1 + 1 + 1 + 1) + 1 + 1 + 1 + 1) + 1 + 1 + 1 + 1) lim a kd pl w le nu tk fa fp), (2, bcl (pt (pt (pt (pt (pt bs n x1) (n + 1 + 1 + 1 + 1) x2) ((n + 1 + 1 + 1 + 1) + 1 + 1 + 1 + 1) x3) (((n + 1 + 1 + 1 + 1) + 1 + 1 + 1 + 1) + 1 + 1 + 1 + 1) x4) ((((n + 1 + 1 + 1 + 1) + 1 + 1 + 1 + 1) + 1 + 1 + 1 + 1) + 1 + 1 + 1 + 1) x5))]) := by
  refine FR_ov (l := [(0, .inr (10, [.ref 1, .ref d, .ref s, .ref 23, .ref 31, .ref 39, .ref 105, .ref se, .ref ss, .ref 120, .ref 125, .ref 129, .ref 131, .int lt, .int fb, .int tq, .int gb])), (1, tcl n lim a kd pl w le nu tk fa fp), (2, bcl bs)]) (l2 := [(0, .inr (10, [.ref 1, .ref d, .ref s, .ref 23, .ref 31, .ref 39, .ref 105, .ref se, .ref ss, .ref 120, .ref 125, .ref 129, .ref 131, .int lt, .int fb, .int tq, .int gb])), (1, tcl (((((n + 1 + 1 + 1 + 1) + 1 + 1 + 1 + 1) + 1 + 1 + 1 + 1) + 1 + 1 + 1 + 1) + 1 + 1 + 1 + 1) lim a kd pl w le nu tk fa fp), (2, bcl (pt (pt (pt (pt (pt bs n x1) (n + 1 + 1 + 1 + 1) x2) ((n + 1 + 1 + 1 + 1) + 1 + 1 + 1 + 1) x3) (((n + 1 + 1 + 1 + 1) + 1 + 1 + 1 + 1) + 1 + 1 + 1 + 1) x4) ((((n + 1 + 1 + 1 + 1) + 1 + 1 + 1 + 1) + 1 + 1 + 1 + 1) + 1 + 1 + 1 + 1) x5))]) (ov_id h0 (ov_id h1 (ov_c1 h2))) rfl rfl ?_
  refine RT_step (pc2 := 1) rfl (fun _ _ => rfl) ?_
  refine ow_gf rfl rfl rfl hlen rfl ?_
  refine ow_gf rfl rfl rfl hlen rfl ?_
  refine rt_sip rfl k16_920 ?_
  refine biT_le rfl (n_le (by omega) (by decide)) ?_
  refine RT_step (pc2 := 16) rfl (fun _ _ => rfl) ?_
  refine ow_gf rfl rfl rfl hlen rfl ?_
  refine RT_step (pc2 := 20) rfl (fun _ _ => rfl) ?_
  refine ow_iv0 (l2 := [(0, .inr (10, [.ref 1, .ref d, .ref s, .ref 23, .ref 31, .ref 39, .ref 105, .ref se, .ref ss, .ref 120, .ref 125, .ref 129, .ref 131, .int lt, .int fb, .int tq, .int gb])), (1, tcl (n + 1 + 1 + 1 + 1) lim a kd pl w le nu tk fa fp), (2, bcl (pt bs n x1))]) rfl rfl rfl rfl hlen rfl rfl rfl ((x_put (ov_hl hlen) (ov_at rfl (ov_lt hlen (by decide))) (ov_at rfl (ov_lt hlen (by decide))) (by first | exact lb | (simp only [pt_len]; exact lb)) (by omega)).up (by decide)) rfl ?_
  refine RT_step (pc2 := 24) rfl (fun _ _ => rfl) ?_
  refine ow_gf rfl rfl rfl hlen rfl ?_
  refine RT_step (pc2 := 28) rfl (fun _ _ => rfl) ?_
  refine ow_iv0 (l2 := [(0, .inr (10, [.ref 1, .ref d, .ref s, .ref 23, .ref 31, .ref 39, .ref 105, .ref se, .ref ss, .ref 120, .ref 125, .ref 129, .ref 131, .int lt, .int fb, .int tq, .int gb])), (1, tcl ((n + 1 + 1 + 1 + 1) + 1 + 1 + 1 + 1) lim a kd pl w le nu tk fa fp), (2, bcl (pt (pt bs n x1) (n + 1 + 1 + 1 + 1) x2))]) rfl rfl rfl rfl hlen rfl rfl rfl ((x_put (ov_hl hlen) (ov_at rfl (ov_lt hlen (by decide))) (ov_at rfl (ov_lt hlen (by decide))) (by first | exact lb | (simp only [pt_len]; exact lb)) (by omega)).up (by decide)) rfl ?_
  refine RT_step (pc2 := 32) rfl (fun _ _ => rfl) ?_
  refine ow_gf rfl rfl rfl hlen rfl ?_
  refine RT_step (pc2 := 36) rfl (fun _ _ => rfl) ?_
  refine ow_iv0 (l2 := [(0, .inr (10, [.ref 1, .ref d, .ref s, .ref 23, .ref 31, .ref 39, .ref 105, .ref se, .ref ss, .ref 120, .ref 125, .ref 129, .ref 131, .int lt, .int fb, .int tq, .int gb])), (1, tcl (((n + 1 + 1 + 1 + 1) + 1 + 1 + 1 + 1) + 1 + 1 + 1 + 1) lim a kd pl w le nu tk fa fp), (2, bcl (pt (pt (pt bs n x1) (n + 1 + 1 + 1 + 1) x2) ((n + 1 + 1 + 1 + 1) + 1 + 1 + 1 + 1) x3))]) rfl rfl rfl rfl hlen rfl rfl rfl ((x_put (ov_hl hlen) (ov_at rfl (ov_lt hlen (by decide))) (ov_at rfl (ov_lt hlen (by decide))) (by first | exact lb | (simp only [pt_len]; exact lb)) (by omega)).up (by decide)) rfl ?_
  refine RT_step (pc2 := 40) rfl (fun _ _ => rfl) ?_
  refine ow_gf rfl rfl rfl hlen rfl ?_
  refine RT_step (pc2 := 45) rfl (fun _ _ => rfl) ?_
  refine ow_iv0 (l2 := [(0, .inr (10, [.ref 1, .ref d, .ref s, .ref 23, .ref 31, .ref 39, .ref 105, .ref se, .ref ss, .ref 120, .ref 125, .ref 129, .ref 131, .int lt, .int fb, .int tq, .int gb])), (1, tcl ((((n + 1 + 1 + 1 + 1) + 1 + 1 + 1 + 1) + 1 + 1 + 1 + 1) + 1 + 1 + 1 + 1) lim a kd pl w le nu tk fa fp), (2, bcl (pt (pt (pt (pt bs n x1) (n + 1 + 1 + 1 + 1) x2) ((n + 1 + 1 + 1 + 1) + 1 + 1 + 1 + 1) x3) (((n + 1 + 1 + 1 + 1) + 1 + 1 + 1 + 1) + 1 + 1 + 1 + 1) x4))]) rfl rfl rfl rfl hlen rfl rfl rfl ((x_put (ov_hl hlen) (ov_at rfl (ov_lt hlen (by decide))) (ov_at rfl (ov_lt hlen (by decide))) (by first | exact lb | (simp only [pt_len]; exact lb)) (by omega)).up (by decide)) rfl ?_
  refine RT_step (pc2 := 49) rfl (fun _ _ => rfl) ?_
  refine ow_gf rfl rfl rfl hlen rfl ?_
  refine RT_step (pc2 := 54) rfl (fun _ _ => rfl) ?_
  refine ow_iv0 (l2 := [(0, .inr (10, [.ref 1, .ref d, .ref s, .ref 23, .ref 31, .ref 39, .ref 105, .ref se, .ref ss, .ref 120, .ref 125, .ref 129, .ref 131, .int lt, .int fb, .int tq, .int gb])), (1, tcl (((((n + 1 + 1 + 1 + 1) + 1 + 1 + 1 + 1) + 1 + 1 + 1 + 1) + 1 + 1 + 1 + 1) + 1 + 1 + 1 + 1) lim a kd pl w le nu tk fa fp), (2, bcl (pt (pt (pt (pt (pt bs n x1) (n + 1 + 1 + 1 + 1) x2) ((n + 1 + 1 + 1 + 1) + 1 + 1 + 1 + 1) x3) (((n + 1 + 1 + 1 + 1) + 1 + 1 + 1 + 1) + 1 + 1 + 1 + 1) x4) ((((n + 1 + 1 + 1 + 1) + 1 + 1 + 1 + 1) + 1 + 1 + 1 + 1) + 1 + 1 + 1 + 1) x5))]) rfl rfl rfl rfl hlen rfl rfl rfl ((x_put (ov_hl hlen) (ov_at rfl (ov_lt hlen (by decide))) (ov_at rfl (ov_lt hlen (by decide))) (by first | exact lb | (simp only [pt_len]; exact lb)) (by omega)).up (by decide)) rfl ?_
  refine RT_step (pc2 := 58) rfl (fun _ _ => rfl) ?_
  refine ow_gf rfl rfl rfl hlen rfl ?_
  refine ow_gf rfl rfl rfl hlen rfl ?_
  exact ow_irt rfl rfl rfl
theorem x_feed0 {H : List AE} (hlen : Nat.ble 204 H.length = true) {d s se ss n : Nat} {lt fb tq gb : Int32} {lim a kd pl w : Nat} {le : Int64} {nu tk fa fp : Int32} {x1 x2 x3 x4 x5 : Int32} (h0 : H[0]? = some (.inr (10, [.ref 1, .ref d, .ref s, .ref 23, .ref 31, .ref 39, .ref 105, .ref se, .ref ss, .ref 120, .ref 125, .ref 129, .ref 131, .int lt, .int fb, .int tq, .int gb]))) (h1 : H[1]? = some (tcl n lim a kd pl w le nu tk fa fp)) (hn : 920 < n) (hn2 : n ≤ 940) : FR 2 18 [.ref 0, .int x1, .int x2, .int x3, .int x4, .int x5] H (some (.int (-1 : Int32)), ov H []) := by
  refine FR_ov (l := [(0, .inr (10, [.ref 1, .ref d, .ref s, .ref 23, .ref 31, .ref 39, .ref 105, .ref se, .ref ss, .ref 120, .ref 125, .ref 129, .ref 131, .int lt, .int fb, .int tq, .int gb])), (1, tcl n lim a kd pl w le nu tk fa fp)]) (l2 := [(0, .inr (10, [.ref 1, .ref d, .ref s, .ref 23, .ref 31, .ref 39, .ref 105, .ref se, .ref ss, .ref 120, .ref 125, .ref 129, .ref 131, .int lt, .int fb, .int tq, .int gb])), (1, tcl n lim a kd pl w le nu tk fa fp)]) (ov_id h0 (ov_c1 h1)) rfl (ov_id h0 (ov_c1 h1)) ?_
  refine RT_step (pc2 := 1) rfl (fun _ _ => rfl) ?_
  refine ow_gf rfl rfl rfl hlen rfl ?_
  refine ow_gf rfl rfl rfl hlen rfl ?_
  refine rt_sip rfl k16_920 ?_
  refine biF_le rfl (n_nle (by omega) (by omega)) ?_
  refine rt_ico rfl ki_m1 ?_
  exact ow_irt rfl rfl rfl
theorem m_feed {H : List AE} (hlen : Nat.ble 204 H.length = true) {n : Nat} {p0 nu sg fa pl td : Int32} {sz lim a fr kd : Nat} {wd : Int64} {po : List Value} {ts : List Int32} {x1 x2 x3 x4 x5 : Int32} (h1 : H[180]? = some (mcl p0 (Int32.ofNat n) sz lim a fr kd nu sg fa pl wd td po)) (h2 : H[181]? = some (mtl ts)) (lb : ts.length = 940) (hn : n + 20 ≤ 940) : FR 2 199 [.ref 180, .int x1, .int x2, .int x3, .int x4, .int x5] H (some (.int (Int32.ofNat (((((n + 1 + 1 + 1 + 1) + 1 + 1 + 1 + 1) + 1 + 1 + 1 + 1) + 1 + 1 + 1 + 1) + 1 + 1 + 1 + 1))), ov H [(180, mcl (Int32.ofNat 0) (Int32.ofNat (((((n + 1 + 1 + 1 + 1) + 1 + 1 + 1 + 1) + 1 + 1 + 1 + 1) + 1 + 1 + 1 + 1) + 1 + 1 + 1 + 1)) sz lim a fr kd nu sg fa pl wd td po), (181, mtl (qt (qt (qt (qt (qt ts n x1) (n + 1 + 1 + 1 + 1) x2) ((n + 1 + 1 + 1 + 1) + 1 + 1 + 1 + 1) x3) (((n + 1 + 1 + 1 + 1) + 1 + 1 + 1 + 1) + 1 + 1 + 1 + 1) x4) ((((n + 1 + 1 + 1 + 1) + 1 + 1 + 1 + 1) + 1 + 1 + 1 + 1) + 1 + 1 + 1 + 1) x5))]) := by
  refine FR_ov (l := [(180, mcl p0 (Int32.ofNat n) sz lim a fr kd nu sg fa pl wd td po), (181, mtl ts)]) (l2 := [(180, mcl (Int32.ofNat 0) (Int32.ofNat (((((n + 1 + 1 + 1 + 1) + 1 + 1 + 1 + 1) + 1 + 1 + 1 + 1) + 1 + 1 + 1 + 1) + 1 + 1 + 1 + 1)) sz lim a fr kd nu sg fa pl wd td po), (181, mtl (qt (qt (qt (qt (qt ts n x1) (n + 1 + 1 + 1 + 1) x2) ((n + 1 + 1 + 1 + 1) + 1 + 1 + 1 + 1) x3) (((n + 1 + 1 + 1 + 1) + 1 + 1 + 1 + 1) + 1 + 1 + 1 + 1) x4) ((((n + 1 + 1 + 1 + 1) + 1 + 1 + 1 + 1) + 1 + 1 + 1 + 1) + 1 + 1 + 1 + 1) x5))]) (ov_id h1 (ov_c1 h2)) rfl rfl ?_
  refine RT_step (pc2 := 1) rfl (fun _ _ => rfl) ?_
  refine rt_ico rfl ki_0 ?_
  refine ow_pf rfl rfl rfl rfl rfl hlen rfl rfl ?_
  refine RT_step (pc2 := 6) rfl (fun _ _ => rfl) ?_
  refine ow_gf rfl rfl rfl hlen rfl ?_
  refine rt_bip rfl k8_20 ?_
  refine ba_iadd rfl ?_
  rw [n_add]
  refine rt_sip rfl k16_940 ?_
  refine biT_le rfl (n_le (by omega) (by decide)) ?_
  refine RT_step (pc2 := 21) rfl (fun _ _ => rfl) ?_
  refine RT_step (pc2 := 22) rfl (fun _ _ => rfl) ?_
  refine ow_iv0 (l2 := [(180, mcl (Int32.ofNat 0) (Int32.ofNat (n + 1 + 1 + 1 + 1)) sz lim a fr kd nu sg fa pl wd td po), (181, mtl (qt ts n x1))]) rfl rfl rfl rfl hlen rfl rfl rfl ((m_come (ov_hl hlen) (ov_at rfl (ov_lt hlen (by decide))) (ov_at rfl (ov_lt hlen (by decide))) (by first | exact lb | (simp only [qt_len]; exact lb)) (by omega)).up (by decide)) rfl ?_
  refine RT_step (pc2 := 26) rfl (fun _ _ => rfl) ?_
  refine RT_step (pc2 := 27) rfl (fun _ _ => rfl) ?_
  refine ow_iv0 (l2 := [(180, mcl (Int32.ofNat 0) (Int32.ofNat ((n + 1 + 1 + 1 + 1) + 1 + 1 + 1 + 1)) sz lim a fr kd nu sg fa pl wd td po), (181, mtl (qt (qt ts n x1) (n + 1 + 1 + 1 + 1) x2))]) rfl rfl rfl rfl hlen rfl rfl rfl ((m_come (ov_hl hlen) (ov_at rfl (ov_lt hlen (by decide))) (ov_at rfl (ov_lt hlen (by decide))) (by first | exact lb | (simp only [qt_len]; exact lb)) (by omega)).up (by decide)) rfl ?_
  refine RT_step (pc2 := 31) rfl (fun _ _ => rfl) ?_
  refine RT_step (pc2 := 32) rfl (fun _ _ => rfl) ?_
  refine ow_iv0 (l2 := [(180, mcl (Int32.ofNat 0) (Int32.ofNat (((n + 1 + 1 + 1 + 1) + 1 + 1 + 1 + 1) + 1 + 1 + 1 + 1)) sz lim a fr kd nu sg fa pl wd td po), (181, mtl (qt (qt (qt ts n x1) (n + 1 + 1 + 1 + 1) x2) ((n + 1 + 1 + 1 + 1) + 1 + 1 + 1 + 1) x3))]) rfl rfl rfl rfl hlen rfl rfl rfl ((m_come (ov_hl hlen) (ov_at rfl (ov_lt hlen (by decide))) (ov_at rfl (ov_lt hlen (by decide))) (by first | exact lb | (simp only [qt_len]; exact lb)) (by omega)).up (by decide)) rfl ?_
  refine RT_step (pc2 := 36) rfl (fun _ _ => rfl) ?_
  refine RT_step (pc2 := 38) rfl (fun _ _ => rfl) ?_
  refine ow_iv0 (l2 := [(180, mcl (Int32.ofNat 0) (Int32.ofNat ((((n + 1 + 1 + 1 + 1) + 1 + 1 + 1 + 1) + 1 + 1 + 1 + 1) + 1 + 1 + 1 + 1)) sz lim a fr kd nu sg fa pl wd td po), (181, mtl (qt (qt (qt (qt ts n x1) (n + 1 + 1 + 1 + 1) x2) ((n + 1 + 1 + 1 + 1) + 1 + 1 + 1 + 1) x3) (((n + 1 + 1 + 1 + 1) + 1 + 1 + 1 + 1) + 1 + 1 + 1 + 1) x4))]) rfl rfl rfl rfl hlen rfl rfl rfl ((m_come (ov_hl hlen) (ov_at rfl (ov_lt hlen (by decide))) (ov_at rfl (ov_lt hlen (by decide))) (by first | exact lb | (simp only [qt_len]; exact lb)) (by omega)).up (by decide)) rfl ?_
  refine RT_step (pc2 := 42) rfl (fun _ _ => rfl) ?_
  refine RT_step (pc2 := 44) rfl (fun _ _ => rfl) ?_
  refine ow_iv0 (l2 := [(180, mcl (Int32.ofNat 0) (Int32.ofNat (((((n + 1 + 1 + 1 + 1) + 1 + 1 + 1 + 1) + 1 + 1 + 1 + 1) + 1 + 1 + 1 + 1) + 1 + 1 + 1 + 1)) sz lim a fr kd nu sg fa pl wd td po), (181, mtl (qt (qt (qt (qt (qt ts n x1) (n + 1 + 1 + 1 + 1) x2) ((n + 1 + 1 + 1 + 1) + 1 + 1 + 1 + 1) x3) (((n + 1 + 1 + 1 + 1) + 1 + 1 + 1 + 1) + 1 + 1 + 1 + 1) x4) ((((n + 1 + 1 + 1 + 1) + 1 + 1 + 1 + 1) + 1 + 1 + 1 + 1) + 1 + 1 + 1 + 1) x5))]) rfl rfl rfl rfl hlen rfl rfl rfl ((m_come (ov_hl hlen) (ov_at rfl (ov_lt hlen (by decide))) (ov_at rfl (ov_lt hlen (by decide))) (by first | exact lb | (simp only [qt_len]; exact lb)) (by omega)).up (by decide)) rfl ?_
  refine RT_step (pc2 := 48) rfl (fun _ _ => rfl) ?_
  refine ow_gf rfl rfl rfl hlen rfl ?_
  exact ow_irt rfl rfl rfl
theorem m_feed0 {H : List AE} (hlen : Nat.ble 204 H.length = true) {n : Nat} {p0 nu sg fa pl td : Int32} {sz lim a fr kd : Nat} {wd : Int64} {po : List Value} {x1 x2 x3 x4 x5 : Int32} (h1 : H[180]? = some (mcl p0 (Int32.ofNat n) sz lim a fr kd nu sg fa pl wd td po)) (hn : 920 < n) (hn2 : n ≤ 940) : FR 2 199 [.ref 180, .int x1, .int x2, .int x3, .int x4, .int x5] H (some (.int (-1 : Int32)), ov H [(180, mcl (Int32.ofNat 0) (Int32.ofNat n) sz lim a fr kd nu sg fa pl wd td po)]) := by
  refine FR_ov (l := [(180, mcl p0 (Int32.ofNat n) sz lim a fr kd nu sg fa pl wd td po)]) (l2 := [(180, mcl (Int32.ofNat 0) (Int32.ofNat n) sz lim a fr kd nu sg fa pl wd td po)]) (ov_c1 h1) rfl rfl ?_
  refine RT_step (pc2 := 1) rfl (fun _ _ => rfl) ?_
  refine rt_ico rfl ki_0 ?_
  refine ow_pf rfl rfl rfl rfl rfl hlen rfl rfl ?_
  refine RT_step (pc2 := 6) rfl (fun _ _ => rfl) ?_
  refine ow_gf rfl rfl rfl hlen rfl ?_
  refine rt_bip rfl k8_20 ?_
  refine ba_iadd rfl ?_
  rw [n_add]
  refine rt_sip rfl k16_940 ?_
  refine biF_le rfl (n_nle (by omega) (by omega)) ?_
  refine rt_ico rfl ki_m1 ?_
  exact ow_irt rfl rfl rfl
