section
theorem k16_920 : (Int16.ofInt 920).toInt32 = Int32.ofNat 920 := by decide +kernel
theorem k8_24 : (Int8.ofInt 24).toInt32 = Int32.ofNat 24 := by decide +kernel
/-! ===== bytes that come ===== -/
def TP (bs ts : List Int32) : Prop := bs.length = 940 ∧ ts.length = 940 ∧ ∀ i, i < 940 → ∃ v : Int32, bs[i]? = some v ∧ ts[i]? = some (v &&& Int32.ofNat 255)
theorem and_255 (y : Int32) : ∃ c : Nat, c < 256 ∧ y &&& Int32.ofNat 255 = Int32.ofNat c := pk_andE y 8 (by decide +kernel)
theorem tp_B {bs ts : List Int32} (h : TP bs ts) : ∃ B : Nat → Nat, BY bs B ∧ MY ts B ∧ ∀ i, B i < 256 := by
  have key : ∀ i, ∃ c : Nat, c < 256 ∧ (i < 940 → ∃ v : Int32, bs[i]? = some v ∧ ts[i]? = some (v &&& Int32.ofNat 255) ∧ v &&& Int32.ofNat 255 = Int32.ofNat c) := fun i => by
    by_cases hi : i < 940
    · obtain ⟨v, v1, v2⟩ := h.2.2 i hi
      obtain ⟨c, c1, c2⟩ := and_255 v
      exact ⟨c, c1, fun _ => ⟨v, v1, v2, c2⟩⟩
    · exact ⟨0, by decide, fun e => absurd e hi⟩
  refine ⟨fun i => (key i).choose, fun i hi => ?_, fun i hi => ?_, fun i => (key i).choose_spec.1⟩
  · obtain ⟨v, v1, v2, v3⟩ := (key i).choose_spec.2 hi
    exact ⟨v, v1, v3, (key i).choose_spec.1⟩
  · obtain ⟨v, v1, v2, v3⟩ := (key i).choose_spec.2 hi
    exact ⟨by rw [v2, v3], (key i).choose_spec.1⟩
def yk (x : Int32) (s : Nat) : Int32 := (x.toUInt32 >>> ((Int32.ofNat s).toUInt32 &&& Int32.toUInt32 31)).toInt32
def by8 (y : Int32) : Int32 := y.toInt8.toInt32.toInt8.toInt32
theorem by8_and (y : Int32) : by8 y &&& Int32.ofNat 255 = y &&& Int32.ofNat 255 := by
  apply Int32.toBitVec_inj.mp
  show (((y.toBitVec.signExtend 8).signExtend 32).signExtend 8).signExtend 32 &&& 255#32 = y.toBitVec &&& 255#32
  apply BitVec.eq_of_getLsbD_eq
  intro i hi
  rw [BitVec.getLsbD_and, BitVec.getLsbD_and]
  by_cases h : i < 8
  · simp only [BitVec.getLsbD_signExtend, h, hi, decide_true, Bool.true_and, if_true]
  · have e : (255#32).getLsbD i = false := by
      have : ∀ j, j < 32 → ¬ j < 8 → (255#32).getLsbD j = false := by decide
      exact this i hi h
    rw [e, Bool.and_false, Bool.and_false]
theorem tp_set {bs ts : List Int32} {i : Nat} {y : Int32} (h : TP bs ts) : TP (bs.set i (by8 y)) (ts.set i (y &&& Int32.ofNat 255)) := by
  refine ⟨by rw [List.length_set]; exact h.1, by rw [List.length_set]; exact h.2.1, fun j hj => ?_⟩
  by_cases c : i = j
  · subst c
    exact ⟨by8 y, List.getElem?_set_self (by have := h.1; omega), by rw [List.getElem?_set_self (by have := h.2.1; omega), by8_and]⟩
  · rw [List.getElem?_set_ne c, List.getElem?_set_ne c]
    exact h.2.2 j hj
def pt (bs : List Int32) (n : Nat) (x : Int32) : List Int32 := (((bs.set n (by8 (yk x 24))).set (n + 1) (by8 (yk x 16))).set (n + 1 + 1) (by8 (yk x 8))).set (n + 1 + 1 + 1) (by8 (yk x 0))
def qt (ts : List Int32) (n : Nat) (x : Int32) : List Int32 := (((ts.set n (yk x 24 &&& Int32.ofNat 255)).set (n + 1) (yk x 16 &&& Int32.ofNat 255)).set (n + 1 + 1) (yk x 8 &&& Int32.ofNat 255)).set (n + 1 + 1 + 1) (yk x 0 &&& Int32.ofNat 255)
theorem tp_pt {bs ts : List Int32} {n : Nat} {x : Int32} (h : TP bs ts) : TP (pt bs n x) (qt ts n x) := tp_set (tp_set (tp_set (tp_set h)))
theorem pt_len {bs : List Int32} {n : Nat} {x : Int32} : (pt bs n x).length = bs.length := by unfold pt; simp only [List.length_set]
theorem qt_len {bs : List Int32} {n : Nat} {x : Int32} : (qt bs n x).length = bs.length := by unfold qt; simp only [List.length_set]
theorem sh_1 : Int32.ofNat 24 + Int32.ofInt (-8) = Int32.ofNat 16 := by decide
theorem sh_2 : Int32.ofNat 16 + Int32.ofInt (-8) = Int32.ofNat 8 := by decide
theorem sh_3 : Int32.ofNat 8 + Int32.ofInt (-8) = Int32.ofNat 0 := by decide
theorem sh_4 : Int32.ofNat 0 + Int32.ofInt (-8) = (-8 : Int32) := by decide
theorem ow_basN {dd mi pc x y : Nat} {L : List (Nat × Value)} {st : List Value} {hp : List AE} {l l2 : List (Nat × AE)} {q : ev_R} {a i : Nat} {arr : List Int32} {v : Int32} (hf : mF MM mi pc = some (.bastore, x, y)) (hk : olk l a = some (.inl (0, .inl arr))) (hi : i < arr.length) (hb2 : i < 2147483648) (ha : Nat.ble 204 hp.length = true) (hb : Nat.blt a 204 = true) (hl : oin l a (.inl (0, .inl (arr.set i v.toInt8.toInt32))) = l2) (h : RT MM dd mi (pc + 1) L st (ov hp l2) q) : RT MM dd mi pc L (.int v :: .int (Int32.ofNat i) :: .ref a :: st) (ov hp l) q := by
  have e := ov_at hk (Nat.lt_of_lt_of_le (Nat.le_of_ble_eq_true hb) (Nat.le_of_ble_eq_true ha))
  have e2 : ev_ai (ov hp l) a = some (0, arr) := by unfold ev_ai; rw [e]
  refine RT_step hf (fun cf K => ?_) h
  show (ev_ai (ov hp l) a).bind _ = _
  rw [e2]
  show (ev_rd arr (Int32.ofNat i)).bind (fun _ => if (0 : Nat) = 0 then K (pc + 1) L st ((ov hp l).set a (.inl (0, .inl (arr.set (Int32.ofNat i).toNatClampNeg v.toInt8.toInt32)))) 0 0 else _) = _
  rw [rd_nat (gd_i hi) hb2, show (Int32.ofNat i).toNatClampNeg = i from nI_c hb2, ov_set, hl]
  rfl
theorem x_put {H : List AE} (hlen : Nat.ble 204 H.length = true) {n : Nat} {lim a kd pl w : Nat} {le : Int64} {nu tk fa fp : Int32} {bs : List Int32} {x : Int32} (h1 : H[1]? = some (tcl n lim a kd pl w le nu tk fa fp)) (h2 : H[2]? = some (bcl bs)) (lb : bs.length = 940) (hn : n + 4 ≤ 940) : FR 1 162 [.ref 1, .int x] H (none, ov H [(1, tcl (n + 1 + 1 + 1 + 1) lim a kd pl w le nu tk fa fp), (2, bcl (pt bs n x))]) := by
  refine FR_ov (l := [(1, tcl n lim a kd pl w le nu tk fa fp), (2, bcl bs)]) (l2 := [(1, tcl (n + 1 + 1 + 1 + 1) lim a kd pl w le nu tk fa fp), (2, bcl (pt bs n x))]) (ov_id h1 (ov_c1 h2)) rfl rfl ?_
  refine rt_bip rfl k8_24 ?_
  refine RT_step (pc2 := 3) rfl (fun _ _ => rfl) ?_
  refine RT_step (pc2 := 4) rfl (fun _ _ => rfl) ?_
  refine bcF_lt rfl (by decide) ?_
  refine RT_step (pc2 := 8) rfl (fun _ _ => rfl) ?_
  refine ow_gf rfl rfl rfl hlen rfl ?_
  refine bcF_lt rfl (n_ps (by omega)) ?_
  refine RT_step (pc2 := 15) rfl (fun _ _ => rfl) ?_
  refine ow_gf rfl rfl rfl hlen rfl ?_
  refine rt_sip rfl k16_940 ?_
  refine biF_ge rfl (n_nle (by omega) (by decide)) ?_
  refine RT_step (pc2 := 25) rfl (fun _ _ => rfl) ?_
  refine ow_gf rfl rfl rfl hlen rfl ?_
  refine RT_step (pc2 := 29) rfl (fun _ _ => rfl) ?_
  refine ow_gf rfl rfl rfl hlen rfl ?_
  refine RT_step (pc2 := 33) rfl (fun _ _ => rfl) ?_
  refine RT_step (pc2 := 34) rfl (fun _ _ => rfl) ?_
  refine ba_iushr rfl ?_
  refine RT_step (pc2 := 36) rfl (fun _ _ => rfl) ?_
  refine ow_basN rfl rfl (by first | omega | (simp only [List.length_set]; omega)) (by omega) hlen rfl rfl ?_
  refine RT_step (pc2 := 38) rfl (fun _ _ => rfl) ?_
  refine RT_step (pc2 := 39) rfl (fun _ _ => rfl) ?_
  refine ow_gf rfl rfl rfl hlen rfl ?_
  refine rt_ico rfl ki_1 ?_
  refine ba_iadd rfl ?_
  rw [n_add]
  refine ow_pf rfl rfl rfl rfl rfl hlen rfl rfl ?_
  refine RT_step (pc2 := 50) rfl (fun _ _ => rfl) ?_
  first | rw [sh_1] | rw [sh_2] | rw [sh_3] | rw [sh_4]
  refine RT_step (pc2 := 3) rfl (fun _ _ => rfl) ?_
  refine RT_step (pc2 := 4) rfl (fun _ _ => rfl) ?_
  refine bcF_lt rfl (by decide) ?_
  refine RT_step (pc2 := 8) rfl (fun _ _ => rfl) ?_
  refine ow_gf rfl rfl rfl hlen rfl ?_
  refine bcF_lt rfl (n_ps (by omega)) ?_
  refine RT_step (pc2 := 15) rfl (fun _ _ => rfl) ?_
  refine ow_gf rfl rfl rfl hlen rfl ?_
  refine rt_sip rfl k16_940 ?_
  refine biF_ge rfl (n_nle (by omega) (by decide)) ?_
  refine RT_step (pc2 := 25) rfl (fun _ _ => rfl) ?_
  refine ow_gf rfl rfl rfl hlen rfl ?_
  refine RT_step (pc2 := 29) rfl (fun _ _ => rfl) ?_
  refine ow_gf rfl rfl rfl hlen rfl ?_
  refine RT_step (pc2 := 33) rfl (fun _ _ => rfl) ?_
  refine RT_step (pc2 := 34) rfl (fun _ _ => rfl) ?_
  refine ba_iushr rfl ?_
  refine RT_step (pc2 := 36) rfl (fun _ _ => rfl) ?_
  refine ow_basN rfl rfl (by first | omega | (simp only [List.length_set]; omega)) (by omega) hlen rfl rfl ?_
  refine RT_step (pc2 := 38) rfl (fun _ _ => rfl) ?_
  refine RT_step (pc2 := 39) rfl (fun _ _ => rfl) ?_
  refine ow_gf rfl rfl rfl hlen rfl ?_
  refine rt_ico rfl ki_1 ?_
  refine ba_iadd rfl ?_
  rw [n_add]
  refine ow_pf rfl rfl rfl rfl rfl hlen rfl rfl ?_
  refine RT_step (pc2 := 50) rfl (fun _ _ => rfl) ?_
  first | rw [sh_1] | rw [sh_2] | rw [sh_3] | rw [sh_4]
  refine RT_step (pc2 := 3) rfl (fun _ _ => rfl) ?_
  refine RT_step (pc2 := 4) rfl (fun _ _ => rfl) ?_
  refine bcF_lt rfl (by decide) ?_
  refine RT_step (pc2 := 8) rfl (fun _ _ => rfl) ?_
  refine ow_gf rfl rfl rfl hlen rfl ?_
  refine bcF_lt rfl (n_ps (by omega)) ?_
  refine RT_step (pc2 := 15) rfl (fun _ _ => rfl) ?_
  refine ow_gf rfl rfl rfl hlen rfl ?_
  refine rt_sip rfl k16_940 ?_
  refine biF_ge rfl (n_nle (by omega) (by decide)) ?_
  refine RT_step (pc2 := 25) rfl (fun _ _ => rfl) ?_
  refine ow_gf rfl rfl rfl hlen rfl ?_
  refine RT_step (pc2 := 29) rfl (fun _ _ => rfl) ?_
  refine ow_gf rfl rfl rfl hlen rfl ?_
  refine RT_step (pc2 := 33) rfl (fun _ _ => rfl) ?_
  refine RT_step (pc2 := 34) rfl (fun _ _ => rfl) ?_
  refine ba_iushr rfl ?_
  refine RT_step (pc2 := 36) rfl (fun _ _ => rfl) ?_
  refine ow_basN rfl rfl (by first | omega | (simp only [List.length_set]; omega)) (by omega) hlen rfl rfl ?_
  refine RT_step (pc2 := 38) rfl (fun _ _ => rfl) ?_
  refine RT_step (pc2 := 39) rfl (fun _ _ => rfl) ?_
  refine ow_gf rfl rfl rfl hlen rfl ?_
  refine rt_ico rfl ki_1 ?_
  refine ba_iadd rfl ?_
  rw [n_add]
  refine ow_pf rfl rfl rfl rfl rfl hlen rfl rfl ?_
  refine RT_step (pc2 := 50) rfl (fun _ _ => rfl) ?_
  first | rw [sh_1] | rw [sh_2] | rw [sh_3] | rw [sh_4]
  refine RT_step (pc2 := 3) rfl (fun _ _ => rfl) ?_
  refine RT_step (pc2 := 4) rfl (fun _ _ => rfl) ?_
  refine bcF_lt rfl (by decide) ?_
  refine RT_step (pc2 := 8) rfl (fun _ _ => rfl) ?_
  refine ow_gf rfl rfl rfl hlen rfl ?_
  refine bcF_lt rfl (n_ps (by omega)) ?_
  refine RT_step (pc2 := 15) rfl (fun _ _ => rfl) ?_
  refine ow_gf rfl rfl rfl hlen rfl ?_
  refine rt_sip rfl k16_940 ?_
  refine biF_ge rfl (n_nle (by omega) (by decide)) ?_
  refine RT_step (pc2 := 25) rfl (fun _ _ => rfl) ?_
  refine ow_gf rfl rfl rfl hlen rfl ?_
  refine RT_step (pc2 := 29) rfl (fun _ _ => rfl) ?_
  refine ow_gf rfl rfl rfl hlen rfl ?_
  refine RT_step (pc2 := 33) rfl (fun _ _ => rfl) ?_
  refine RT_step (pc2 := 34) rfl (fun _ _ => rfl) ?_
  refine ba_iushr rfl ?_
  refine RT_step (pc2 := 36) rfl (fun _ _ => rfl) ?_
  refine ow_basN rfl rfl (by first | omega | (simp only [List.length_set]; omega)) (by omega) hlen rfl rfl ?_
  refine RT_step (pc2 := 38) rfl (fun _ _ => rfl) ?_
  refine RT_step (pc2 := 39) rfl (fun _ _ => rfl) ?_
  refine ow_gf rfl rfl rfl hlen rfl ?_
  refine rt_ico rfl ki_1 ?_
  refine ba_iadd rfl ?_
  rw [n_add]
  refine ow_pf rfl rfl rfl rfl rfl hlen rfl rfl ?_
  refine RT_step (pc2 := 50) rfl (fun _ _ => rfl) ?_
  first | rw [sh_1] | rw [sh_2] | rw [sh_3] | rw [sh_4]
  refine RT_step (pc2 := 3) rfl (fun _ _ => rfl) ?_
  refine RT_step (pc2 := 4) rfl (fun _ _ => rfl) ?_
  refine bcT_lt rfl (by decide) ?_
  exact ow_ret rfl rfl rfl
theorem m_come {H : List AE} (hlen : Nat.ble 204 H.length = true) {n : Nat} {p0 nu sg fa pl td : Int32} {sz lim a fr kd : Nat} {wd : Int64} {po : List Value} {ts : List Int32} {x : Int32} (h1 : H[180]? = some (mcl p0 (Int32.ofNat n) sz lim a fr kd nu sg fa pl wd td po)) (h2 : H[181]? = some (mtl ts)) (lb : ts.length = 940) (hn : n + 4 ≤ 940) : FR 1 185 [.ref 180, .int x] H (none, ov H [(180, mcl p0 (Int32.ofNat (n + 1 + 1 + 1 + 1)) sz lim a fr kd nu sg fa pl wd td po), (181, mtl (qt ts n x))]) := by
  refine FR_ov (l := [(180, mcl p0 (Int32.ofNat n) sz lim a fr kd nu sg fa pl wd td po), (181, mtl ts)]) (l2 := [(180, mcl p0 (Int32.ofNat (n + 1 + 1 + 1 + 1)) sz lim a fr kd nu sg fa pl wd td po), (181, mtl (qt ts n x))]) (ov_id h1 (ov_c1 h2)) rfl rfl ?_
  refine rt_bip rfl k8_24 ?_
  refine RT_step (pc2 := 3) rfl (fun _ _ => rfl) ?_
  refine RT_step (pc2 := 4) rfl (fun _ _ => rfl) ?_
  refine bcF_lt rfl (by decide) ?_
  refine RT_step (pc2 := 8) rfl (fun _ _ => rfl) ?_
  refine ow_gf rfl rfl rfl hlen rfl ?_
  refine RT_step (pc2 := 12) rfl (fun _ _ => rfl) ?_
  refine ow_gf rfl rfl rfl hlen rfl ?_
  refine RT_step (pc2 := 16) rfl (fun _ _ => rfl) ?_
  refine RT_step (pc2 := 17) rfl (fun _ _ => rfl) ?_
  refine ba_iushr rfl ?_
  refine rt_sip rfl k16_255 ?_
  refine ba_iand rfl ?_
  refine ow_iasN rfl rfl (by first | omega | (simp only [List.length_set]; omega)) (by omega) hlen rfl rfl ?_
  refine RT_step (pc2 := 24) rfl (fun _ _ => rfl) ?_
  refine RT_step (pc2 := 25) rfl (fun _ _ => rfl) ?_
  refine ow_gf rfl rfl rfl hlen rfl ?_
  refine rt_ico rfl ki_1 ?_
  refine ba_iadd rfl ?_
  rw [n_add]
  refine ow_pf rfl rfl rfl rfl rfl hlen rfl rfl ?_
  refine RT_step (pc2 := 36) rfl (fun _ _ => rfl) ?_
  first | rw [sh_1] | rw [sh_2] | rw [sh_3] | rw [sh_4]
  refine RT_step (pc2 := 3) rfl (fun _ _ => rfl) ?_
  refine RT_step (pc2 := 4) rfl (fun _ _ => rfl) ?_
  refine bcF_lt rfl (by decide) ?_
  refine RT_step (pc2 := 8) rfl (fun _ _ => rfl) ?_
  refine ow_gf rfl rfl rfl hlen rfl ?_
  refine RT_step (pc2 := 12) rfl (fun _ _ => rfl) ?_
  refine ow_gf rfl rfl rfl hlen rfl ?_
  refine RT_step (pc2 := 16) rfl (fun _ _ => rfl) ?_
  refine RT_step (pc2 := 17) rfl (fun _ _ => rfl) ?_
  refine ba_iushr rfl ?_
  refine rt_sip rfl k16_255 ?_
  refine ba_iand rfl ?_
  refine ow_iasN rfl rfl (by first | omega | (simp only [List.length_set]; omega)) (by omega) hlen rfl rfl ?_
  refine RT_step (pc2 := 24) rfl (fun _ _ => rfl) ?_
  refine RT_step (pc2 := 25) rfl (fun _ _ => rfl) ?_
  refine ow_gf rfl rfl rfl hlen rfl ?_
  refine rt_ico rfl ki_1 ?_
  refine ba_iadd rfl ?_
  rw [n_add]
  refine ow_pf rfl rfl rfl rfl rfl hlen rfl rfl ?_
  refine RT_step (pc2 := 36) rfl (fun _ _ => rfl) ?_
  first | rw [sh_1] | rw [sh_2] | rw [sh_3] | rw [sh_4]
  refine RT_step (pc2 := 3) rfl (fun _ _ => rfl) ?_
  refine RT_step (pc2 := 4) rfl (fun _ _ => rfl) ?_
  refine bcF_lt rfl (by decide) ?_
  refine RT_step (pc2 := 8) rfl (fun _ _ => rfl) ?_
  refine ow_gf rfl rfl rfl hlen rfl ?_
  refine RT_step (pc2 := 12) rfl (fun _ _ => rfl) ?_
  refine ow_gf rfl rfl rfl hlen rfl ?_
  refine RT_step (pc2 := 16) rfl (fun _ _ => rfl) ?_
  refine RT_step (pc2 := 17) rfl (fun _ _ => rfl) ?_
  refine ba_iushr rfl ?_
  refine rt_sip rfl k16_255 ?_
  refine ba_iand rfl ?_
  refine ow_iasN rfl rfl (by first | omega | (simp only [List.length_set]; omega)) (by omega) hlen rfl rfl ?_
  refine RT_step (pc2 := 24) rfl (fun _ _ => rfl) ?_
  refine RT_step (pc2 := 25) rfl (fun _ _ => rfl) ?_
  refine ow_gf rfl rfl rfl hlen rfl ?_
  refine rt_ico rfl ki_1 ?_
  refine ba_iadd rfl ?_
  rw [n_add]
  refine ow_pf rfl rfl rfl rfl rfl hlen rfl rfl ?_
  refine RT_step (pc2 := 36) rfl (fun _ _ => rfl) ?_
  first | rw [sh_1] | rw [sh_2] | rw [sh_3] | rw [sh_4]
  refine RT_step (pc2 := 3) rfl (fun _ _ => rfl) ?_
  refine RT_step (pc2 := 4) rfl (fun _ _ => rfl) ?_
  refine bcF_lt rfl (by decide) ?_
  refine RT_step (pc2 := 8) rfl (fun _ _ => rfl) ?_
  refine ow_gf rfl rfl rfl hlen rfl ?_
  refine RT_step (pc2 := 12) rfl (fun _ _ => rfl) ?_
  refine ow_gf rfl rfl rfl hlen rfl ?_
  refine RT_step (pc2 := 16) rfl (fun _ _ => rfl) ?_
  refine RT_step (pc2 := 17) rfl (fun _ _ => rfl) ?_
  refine ba_iushr rfl ?_
  refine rt_sip rfl k16_255 ?_
  refine ba_iand rfl ?_
  refine ow_iasN rfl rfl (by first | omega | (simp only [List.length_set]; omega)) (by omega) hlen rfl rfl ?_
  refine RT_step (pc2 := 24) rfl (fun _ _ => rfl) ?_
  refine RT_step (pc2 := 25) rfl (fun _ _ => rfl) ?_
  refine ow_gf rfl rfl rfl hlen rfl ?_
  refine rt_ico rfl ki_1 ?_
  refine ba_iadd rfl ?_
  rw [n_add]
  refine ow_pf rfl rfl rfl rfl rfl hlen rfl rfl ?_
  refine RT_step (pc2 := 36) rfl (fun _ _ => rfl) ?_
  first | rw [sh_1] | rw [sh_2] | rw [sh_3] | rw [sh_4]
  refine RT_step (pc2 := 3) rfl (fun _ _ => rfl) ?_
  refine RT_step (pc2 := 4) rfl (fun _ _ => rfl) ?_
  refine bcT_lt rfl (by decide) ?_
  exact ow_ret rfl rfl rfl
theorem x_feed {H : List AE} (hlen : Nat.ble 204 H.length = true) {d s se ss n : Nat} {lt fb tq gb : Int32} {lim a kd pl w : Nat} {le : Int64} {nu tk fa fp : Int32} {bs : List Int32} {x1 x2 x3 x4 x5 : Int32} (h0 : H[0]? = some (.inr (10, [.ref 1, .ref d, .ref s, .ref 23, .ref 31, .ref 39, .ref 105, .ref se, .ref ss, .ref 120, .ref 125, .ref 129, .ref 131, .int lt, .int fb, .int tq, .int gb]))) (h1 : H[1]? = some (tcl n lim a kd pl w le nu tk fa fp)) (h2 : H[2]? = some (bcl bs)) (lb : bs.length = 940) (hn : n + 20 ≤ 940) : FR 2 18 [.ref 0, .int x1, .int x2, .int x3, .int x4, .int x5] H (some (.int (Int32.ofNat (((((n + 1 + 1 + 1 + 1) + 1 + 1 + 1 + 1) + 1 + 1 + 1 + 1) + 1 + 1 + 1 + 1) + 1 + 1 + 1 + 1))), ov H [(0, .inr (10, [.ref 1, .ref d, .ref s, .ref 23, .ref 31, .ref 39, .ref 105, .ref se, .ref ss, .ref 120, .ref 125, .ref 129, .ref 131, .int lt, .int fb, .int tq, .int gb])), (1, tcl (((((n + 1 + 1 + 1 + 1) + 1 + 1 + 1 + 1) + 1 + 1 + 1 + 1) + 1 + 1 + 1 + 1) + 1 + 1 + 1 + 1) lim a kd pl w le nu tk fa fp), (2, bcl (pt (pt (pt (pt (pt bs n x1) (n + 1 + 1 + 1 + 1) x2) ((n + 1 + 1 + 1 + 1) + 1 + 1 + 1 + 1) x3) (((n + 1 + 1 + 1 + 1) + 1 + 1 + 1 + 1) + 1 + 1 + 1 + 1) x4) ((((n + 1 + 1 + 1 + 1) + 1 + 1 + 1 + 1) + 1 + 1 + 1 + 1) + 1 + 1 + 1 + 1) x5))]) := by
  refine FR_ov (l := [(0, .inr (10, [.ref 1, .ref d, .ref s, .ref 23, .ref 31, .ref 39, .ref 105, .ref se, .ref ss, .ref 120, .ref 125, .ref 129, .ref 131, .int lt, .int fb, .int tq, .int gb])), (1, tcl n lim a kd pl w le nu tk fa fp), (2, bcl bs)]) (l2 := [(0, .inr (10, [.ref 1, .ref d, .ref s, .ref 23, .ref 31, .ref 39, .ref 105, .ref se, .ref ss, .ref 120, .ref 125, .ref 129, .ref 131, .int lt, .int fb, .int tq, .int gb])), (1, tcl (((((n + 1 + 1 + 1 + 1) + 1 + 1 + 1 + 1) + 1 + 1 + 1 + 1) + 1 + 1 + 1 + 1) + 1 + 1 + 1 + 1) lim a kd pl w le nu tk fa fp), (2, bcl (pt (pt (pt (pt (pt bs n x1) (n + 1 + 1 + 1 + 1) x2) ((n + 1 + 1 + 1 + 1) + 1 + 1 + 1 + 1) x3) (((n + 1 + 1 + 1 + 1) + 1 + 1 + 1 + 1) + 1 + 1 + 1 + 1) x4) ((((n + 1 + 1 + 1 + 1) + 1 + 1 + 1 + 1) + 1 + 1 + 1 + 1) + 1 + 1 + 1 + 1) x5))]) (ov_id h0 (ov_id h1 (ov_c1 h2))) rfl rfl ?_
  refine RT_step (pc2 := 1) rfl (fun _ _ => rfl) ?_
  refine ow_gf rfl rfl rfl hlen rfl ?_
  refine ow_gf rfl rfl rfl hlen rfl ?_
  refine rt_sip rfl k16_920 ?_
  refine biT_le rfl (n_le (by omega) (by decide)) ?_
  refine RT_step (pc2 := 16) rfl (fun _ _ => rfl) ?_
  refine ow_gf rfl rfl rfl hlen rfl ?_
  refine RT_step (pc2 := 20) rfl (fun _ _ => rfl) ?_
  refine ow_iv0 (l2 := [(0, .inr (10, [.ref 1, .ref d, .ref s, .ref 23, .ref 31, .ref 39, .ref 105, .ref se, .ref ss, .ref 120, .ref 125, .ref 129, .ref 131, .int lt, .int fb, .int tq, .int gb])), (1, tcl (n + 1 + 1 + 1 + 1) lim a kd pl w le nu tk fa fp), (2, bcl (pt bs n x1))]) rfl rfl rfl rfl hlen rfl rfl rfl ((x_put (ov_hl hlen) (ov_at rfl (ov_lt hlen (by decide))) (ov_at rfl (ov_lt hlen (by decide))) (by first | exact lb | (simp only [pt_len]; exact lb)) (by omega)).up (by decide)) rfl ?_
  refine RT_step (pc2 := 24) rfl (fun _ _ => rfl) ?_
  refine ow_gf rfl rfl rfl hlen rfl ?_
  refine RT_step (pc2 := 28) rfl (fun _ _ => rfl) ?_
  refine ow_iv0 (l2 := [(0, .inr (10, [.ref 1, .ref d, .ref s, .ref 23, .ref 31, .ref 39, .ref 105, .ref se, .ref ss, .ref 120, .ref 125, .ref 129, .ref 131, .int lt, .int fb, .int tq, .int gb])), (1, tcl ((n + 1 + 1 + 1 + 1) + 1 + 1 + 1 + 1) lim a kd pl w le nu tk fa fp), (2, bcl (pt (pt bs n x1) (n + 1 + 1 + 1 + 1) x2))]) rfl rfl rfl rfl hlen rfl rfl rfl ((x_put (ov_hl hlen) (ov_at rfl (ov_lt hlen (by decide))) (ov_at rfl (ov_lt hlen (by decide))) (by first | exact lb | (simp only [pt_len]; exact lb)) (by omega)).up (by decide)) rfl ?_
  refine RT_step (pc2 := 32) rfl (fun _ _ => rfl) ?_
  refine ow_gf rfl rfl rfl hlen rfl ?_
  refine RT_step (pc2 := 36) rfl (fun _ _ => rfl) ?_
  refine ow_iv0 (l2 := [(0, .inr (10, [.ref 1, .ref d, .ref s, .ref 23, .ref 31, .ref 39, .ref 105, .ref se, .ref ss, .ref 120, .ref 125, .ref 129, .ref 131, .int lt, .int fb, .int tq, .int gb])), (1, tcl (((n + 1 + 1 + 1 + 1) + 1 + 1 + 1 + 1) + 1 + 1 + 1 + 1) lim a kd pl w le nu tk fa fp), (2, bcl (pt (pt (pt bs n x1) (n + 1 + 1 + 1 + 1) x2) ((n + 1 + 1 + 1 + 1) + 1 + 1 + 1 + 1) x3))]) rfl rfl rfl rfl hlen rfl rfl rfl ((x_put (ov_hl hlen) (ov_at rfl (ov_lt hlen (by decide))) (ov_at rfl (ov_lt hlen (by decide))) (by first | exact lb | (simp only [pt_len]; exact lb)) (by omega)).up (by decide)) rfl ?_
  refine RT_step (pc2 := 40) rfl (fun _ _ => rfl) ?_
  refine ow_gf rfl rfl rfl hlen rfl ?_
  refine RT_step (pc2 := 45) rfl (fun _ _ => rfl) ?_
  refine ow_iv0 (l2 := [(0, .inr (10, [.ref 1, .ref d, .ref s, .ref 23, .ref 31, .ref 39, .ref 105, .ref se, .ref ss, .ref 120, .ref 125, .ref 129, .ref 131, .int lt, .int fb, .int tq, .int gb])), (1, tcl ((((n + 1 + 1 + 1 + 1) + 1 + 1 + 1 + 1) + 1 + 1 + 1 + 1) + 1 + 1 + 1 + 1) lim a kd pl w le nu tk fa fp), (2, bcl (pt (pt (pt (pt bs n x1) (n + 1 + 1 + 1 + 1) x2) ((n + 1 + 1 + 1 + 1) + 1 + 1 + 1 + 1) x3) (((n + 1 + 1 + 1 + 1) + 1 + 1 + 1 + 1) + 1 + 1 + 1 + 1) x4))]) rfl rfl rfl rfl hlen rfl rfl rfl ((x_put (ov_hl hlen) (ov_at rfl (ov_lt hlen (by decide))) (ov_at rfl (ov_lt hlen (by decide))) (by first | exact lb | (simp only [pt_len]; exact lb)) (by omega)).up (by decide)) rfl ?_
  refine RT_step (pc2 := 49) rfl (fun _ _ => rfl) ?_
  refine ow_gf rfl rfl rfl hlen rfl ?_
  refine RT_step (pc2 := 54) rfl (fun _ _ => rfl) ?_
  refine ow_iv0 (l2 := [(0, .inr (10, [.ref 1, .ref d, .ref s, .ref 23, .ref 31, .ref 39, .ref 105, .ref se, .ref ss, .ref 120, .ref 125, .ref 129, .ref 131, .int lt, .int fb, .int tq, .int gb])), (1, tcl (((((n + 1 + 1 + 1 + 1) + 1 + 1 + 1 + 1) + 1 + 1 + 1 + 1) + 1 + 1 + 1 + 1) + 1 + 1 + 1 + 1) lim a kd pl w le nu tk fa fp), (2, bcl (pt (pt (pt (pt (pt bs n x1) (n + 1 + 1 + 1 + 1) x2) ((n + 1 + 1 + 1 + 1) + 1 + 1 + 1 + 1) x3) (((n + 1 + 1 + 1 + 1) + 1 + 1 + 1 + 1) + 1 + 1 + 1 + 1) x4) ((((n + 1 + 1 + 1 + 1) + 1 + 1 + 1 + 1) + 1 + 1 + 1 + 1) + 1 + 1 + 1 + 1) x5))]) rfl rfl rfl rfl hlen rfl rfl rfl ((x_put (ov_hl hlen) (ov_at rfl (ov_lt hlen (by decide))) (ov_at rfl (ov_lt hlen (by decide))) (by first | exact lb | (simp only [pt_len]; exact lb)) (by omega)).up (by decide)) rfl ?_
  refine RT_step (pc2 := 58) rfl (fun _ _ => rfl) ?_
  refine ow_gf rfl rfl rfl hlen rfl ?_
  refine ow_gf rfl rfl rfl hlen rfl ?_
  exact ow_irt rfl rfl rfl
theorem x_feed0 {H : List AE} (hlen : Nat.ble 204 H.length = true) {d s se ss n : Nat} {lt fb tq gb : Int32} {lim a kd pl w : Nat} {le : Int64} {nu tk fa fp : Int32} {x1 x2 x3 x4 x5 : Int32} (h0 : H[0]? = some (.inr (10, [.ref 1, .ref d, .ref s, .ref 23, .ref 31, .ref 39, .ref 105, .ref se, .ref ss, .ref 120, .ref 125, .ref 129, .ref 131, .int lt, .int fb, .int tq, .int gb]))) (h1 : H[1]? = some (tcl n lim a kd pl w le nu tk fa fp)) (hn : 920 < n) (hn2 : n ≤ 940) : FR 2 18 [.ref 0, .int x1, .int x2, .int x3, .int x4, .int x5] H (some (.int (-1 : Int32)), ov H []) := by
  refine FR_ov (l := [(0, .inr (10, [.ref 1, .ref d, .ref s, .ref 23, .ref 31, .ref 39, .ref 105, .ref se, .ref ss, .ref 120, .ref 125, .ref 129, .ref 131, .int lt, .int fb, .int tq, .int gb])), (1, tcl n lim a kd pl w le nu tk fa fp)]) (l2 := [(0, .inr (10, [.ref 1, .ref d, .ref s, .ref 23, .ref 31, .ref 39, .ref 105, .ref se, .ref ss, .ref 120, .ref 125, .ref 129, .ref 131, .int lt, .int fb, .int tq, .int gb])), (1, tcl n lim a kd pl w le nu tk fa fp)]) (ov_id h0 (ov_c1 h1)) rfl (ov_id h0 (ov_c1 h1)) ?_
  refine RT_step (pc2 := 1) rfl (fun _ _ => rfl) ?_
  refine ow_gf rfl rfl rfl hlen rfl ?_
  refine ow_gf rfl rfl rfl hlen rfl ?_
  refine rt_sip rfl k16_920 ?_
  refine biF_le rfl (n_nle (by omega) (by omega)) ?_
  refine rt_ico rfl ki_m1 ?_
  exact ow_irt rfl rfl rfl
theorem m_feed {H : List AE} (hlen : Nat.ble 204 H.length = true) {n : Nat} {p0 nu sg fa pl td : Int32} {sz lim a fr kd : Nat} {wd : Int64} {po : List Value} {ts : List Int32} {x1 x2 x3 x4 x5 : Int32} (h1 : H[180]? = some (mcl p0 (Int32.ofNat n) sz lim a fr kd nu sg fa pl wd td po)) (h2 : H[181]? = some (mtl ts)) (lb : ts.length = 940) (hn : n + 20 ≤ 940) : FR 2 199 [.ref 180, .int x1, .int x2, .int x3, .int x4, .int x5] H (some (.int (Int32.ofNat (((((n + 1 + 1 + 1 + 1) + 1 + 1 + 1 + 1) + 1 + 1 + 1 + 1) + 1 + 1 + 1 + 1) + 1 + 1 + 1 + 1))), ov H [(180, mcl (Int32.ofNat 0) (Int32.ofNat (((((n + 1 + 1 + 1 + 1) + 1 + 1 + 1 + 1) + 1 + 1 + 1 + 1) + 1 + 1 + 1 + 1) + 1 + 1 + 1 + 1)) sz lim a fr kd nu sg fa pl wd td po), (181, mtl (qt (qt (qt (qt (qt ts n x1) (n + 1 + 1 + 1 + 1) x2) ((n + 1 + 1 + 1 + 1) + 1 + 1 + 1 + 1) x3) (((n + 1 + 1 + 1 + 1) + 1 + 1 + 1 + 1) + 1 + 1 + 1 + 1) x4) ((((n + 1 + 1 + 1 + 1) + 1 + 1 + 1 + 1) + 1 + 1 + 1 + 1) + 1 + 1 + 1 + 1) x5))]) := by
  refine FR_ov (l := [(180, mcl p0 (Int32.ofNat n) sz lim a fr kd nu sg fa pl wd td po), (181, mtl ts)]) (l2 := [(180, mcl (Int32.ofNat 0) (Int32.ofNat (((((n + 1 + 1 + 1 + 1) + 1 + 1 + 1 + 1) + 1 + 1 + 1 + 1) + 1 + 1 + 1 + 1) + 1 + 1 + 1 + 1)) sz lim a fr kd nu sg fa pl wd td po), (181, mtl (qt (qt (qt (qt (qt ts n x1) (n + 1 + 1 + 1 + 1) x2) ((n + 1 + 1 + 1 + 1) + 1 + 1 + 1 + 1) x3) (((n + 1 + 1 + 1 + 1) + 1 + 1 + 1 + 1) + 1 + 1 + 1 + 1) x4) ((((n + 1 + 1 + 1 + 1) + 1 + 1 + 1 + 1) + 1 + 1 + 1 + 1) + 1 + 1 + 1 + 1) x5))]) (ov_id h1 (ov_c1 h2)) rfl rfl ?_
  refine RT_step (pc2 := 1) rfl (fun _ _ => rfl) ?_
  refine rt_ico rfl ki_0 ?_
  refine ow_pf rfl rfl rfl rfl rfl hlen rfl rfl ?_
  refine RT_step (pc2 := 6) rfl (fun _ _ => rfl) ?_
  refine ow_gf rfl rfl rfl hlen rfl ?_
  refine rt_bip rfl k8_20 ?_
  refine ba_iadd rfl ?_
  rw [n_add]
  refine rt_sip rfl k16_940 ?_
  refine biT_le rfl (n_le (by omega) (by decide)) ?_
  refine RT_step (pc2 := 21) rfl (fun _ _ => rfl) ?_
  refine RT_step (pc2 := 22) rfl (fun _ _ => rfl) ?_
  refine ow_iv0 (l2 := [(180, mcl (Int32.ofNat 0) (Int32.ofNat (n + 1 + 1 + 1 + 1)) sz lim a fr kd nu sg fa pl wd td po), (181, mtl (qt ts n x1))]) rfl rfl rfl rfl hlen rfl rfl rfl ((m_come (ov_hl hlen) (ov_at rfl (ov_lt hlen (by decide))) (ov_at rfl (ov_lt hlen (by decide))) (by first | exact lb | (simp only [qt_len]; exact lb)) (by omega)).up (by decide)) rfl ?_
  refine RT_step (pc2 := 26) rfl (fun _ _ => rfl) ?_
  refine RT_step (pc2 := 27) rfl (fun _ _ => rfl) ?_
  refine ow_iv0 (l2 := [(180, mcl (Int32.ofNat 0) (Int32.ofNat ((n + 1 + 1 + 1 + 1) + 1 + 1 + 1 + 1)) sz lim a fr kd nu sg fa pl wd td po), (181, mtl (qt (qt ts n x1) (n + 1 + 1 + 1 + 1) x2))]) rfl rfl rfl rfl hlen rfl rfl rfl ((m_come (ov_hl hlen) (ov_at rfl (ov_lt hlen (by decide))) (ov_at rfl (ov_lt hlen (by decide))) (by first | exact lb | (simp only [qt_len]; exact lb)) (by omega)).up (by decide)) rfl ?_
  refine RT_step (pc2 := 31) rfl (fun _ _ => rfl) ?_
  refine RT_step (pc2 := 32) rfl (fun _ _ => rfl) ?_
  refine ow_iv0 (l2 := [(180, mcl (Int32.ofNat 0) (Int32.ofNat (((n + 1 + 1 + 1 + 1) + 1 + 1 + 1 + 1) + 1 + 1 + 1 + 1)) sz lim a fr kd nu sg fa pl wd td po), (181, mtl (qt (qt (qt ts n x1) (n + 1 + 1 + 1 + 1) x2) ((n + 1 + 1 + 1 + 1) + 1 + 1 + 1 + 1) x3))]) rfl rfl rfl rfl hlen rfl rfl rfl ((m_come (ov_hl hlen) (ov_at rfl (ov_lt hlen (by decide))) (ov_at rfl (ov_lt hlen (by decide))) (by first | exact lb | (simp only [qt_len]; exact lb)) (by omega)).up (by decide)) rfl ?_
  refine RT_step (pc2 := 36) rfl (fun _ _ => rfl) ?_
  refine RT_step (pc2 := 38) rfl (fun _ _ => rfl) ?_
  refine ow_iv0 (l2 := [(180, mcl (Int32.ofNat 0) (Int32.ofNat ((((n + 1 + 1 + 1 + 1) + 1 + 1 + 1 + 1) + 1 + 1 + 1 + 1) + 1 + 1 + 1 + 1)) sz lim a fr kd nu sg fa pl wd td po), (181, mtl (qt (qt (qt (qt ts n x1) (n + 1 + 1 + 1 + 1) x2) ((n + 1 + 1 + 1 + 1) + 1 + 1 + 1 + 1) x3) (((n + 1 + 1 + 1 + 1) + 1 + 1 + 1 + 1) + 1 + 1 + 1 + 1) x4))]) rfl rfl rfl rfl hlen rfl rfl rfl ((m_come (ov_hl hlen) (ov_at rfl (ov_lt hlen (by decide))) (ov_at rfl (ov_lt hlen (by decide))) (by first | exact lb | (simp only [qt_len]; exact lb)) (by omega)).up (by decide)) rfl ?_
  refine RT_step (pc2 := 42) rfl (fun _ _ => rfl) ?_
  refine RT_step (pc2 := 44) rfl (fun _ _ => rfl) ?_
  refine ow_iv0 (l2 := [(180, mcl (Int32.ofNat 0) (Int32.ofNat (((((n + 1 + 1 + 1 + 1) + 1 + 1 + 1 + 1) + 1 + 1 + 1 + 1) + 1 + 1 + 1 + 1) + 1 + 1 + 1 + 1)) sz lim a fr kd nu sg fa pl wd td po), (181, mtl (qt (qt (qt (qt (qt ts n x1) (n + 1 + 1 + 1 + 1) x2) ((n + 1 + 1 + 1 + 1) + 1 + 1 + 1 + 1) x3) (((n + 1 + 1 + 1 + 1) + 1 + 1 + 1 + 1) + 1 + 1 + 1 + 1) x4) ((((n + 1 + 1 + 1 + 1) + 1 + 1 + 1 + 1) + 1 + 1 + 1 + 1) + 1 + 1 + 1 + 1) x5))]) rfl rfl rfl rfl hlen rfl rfl rfl ((m_come (ov_hl hlen) (ov_at rfl (ov_lt hlen (by decide))) (ov_at rfl (ov_lt hlen (by decide))) (by first | exact lb | (simp only [qt_len]; exact lb)) (by omega)).up (by decide)) rfl ?_
  refine RT_step (pc2 := 48) rfl (fun _ _ => rfl) ?_
  refine ow_gf rfl rfl rfl hlen rfl ?_
  exact ow_irt rfl rfl rfl
theorem m_feed0 {H : List AE} (hlen : Nat.ble 204 H.length = true) {n : Nat} {p0 nu sg fa pl td : Int32} {sz lim a fr kd : Nat} {wd : Int64} {po : List Value} {x1 x2 x3 x4 x5 : Int32} (h1 : H[180]? = some (mcl p0 (Int32.ofNat n) sz lim a fr kd nu sg fa pl wd td po)) (hn : 920 < n) (hn2 : n ≤ 940) : FR 2 199 [.ref 180, .int x1, .int x2, .int x3, .int x4, .int x5] H (some (.int (-1 : Int32)), ov H [(180, mcl (Int32.ofNat 0) (Int32.ofNat n) sz lim a fr kd nu sg fa pl wd td po)]) := by
  refine FR_ov (l := [(180, mcl p0 (Int32.ofNat n) sz lim a fr kd nu sg fa pl wd td po)]) (l2 := [(180, mcl (Int32.ofNat 0) (Int32.ofNat n) sz lim a fr kd nu sg fa pl wd td po)]) (ov_c1 h1) rfl rfl ?_
  refine RT_step (pc2 := 1) rfl (fun _ _ => rfl) ?_
  refine rt_ico rfl ki_0 ?_
  refine ow_pf rfl rfl rfl rfl rfl hlen rfl rfl ?_
  refine RT_step (pc2 := 6) rfl (fun _ _ => rfl) ?_
  refine ow_gf rfl rfl rfl hlen rfl ?_
  refine rt_bip rfl k8_20 ?_
  refine ba_iadd rfl ?_
  rw [n_add]
  refine rt_sip rfl k16_940 ?_
  refine biF_le rfl (n_nle (by omega) (by omega)) ?_
  refine rt_ico rfl ki_m1 ?_
  exact ow_irt rfl rfl rfl
end
section
/-! ===== cells that stay; the relation between two calls ===== -/
def wr_not (W : WR) (a : Nat) : Bool := W.all (fun q => !(Nat.beq q.1 a))
theorem wr_not_in {W : WR} {a i : Nat} (h : wr_not W a = true) : wr_in W a i i = false := by
  cases hv : wr_in W a i i with
  | false => rfl
  | true =>
    exfalso
    obtain ⟨q, hq, he⟩ := List.any_eq_true.mp hv
    rw [Bool.and_eq_true, Bool.and_eq_true] at he
    have h3 := List.all_eq_true.mp h q hq
    rw [he.1.1] at h3
    cases h3
theorem ag_hq {W : WR} {h0 h1 : List AE} {a : Nat} (hA : Agr W h0 h1) (hw : wr_not W a = true) (i : Nat) : hq h1 a i = hq h0 a i := hA.2 a i (wr_not_in hw)
/-- both heaps have these cells alike -/
def Ceq (h0 h1 : List AE) (a : Nat) : Prop := hh h1 a = hh h0 a ∧ ∀ i, hq h1 a i = hq h0 a i
theorem ag_ce {W : WR} {h0 h1 : List AE} {a : Nat} (hA : Agr W h0 h1) (hw : wr_not W a = true) : Ceq h0 h1 a := ⟨hA.1 a, ag_hq hA hw⟩
theorem ce_same {h0 h1 : List AE} {a : Nat} (h : h1[a]? = h0[a]?) : Ceq h0 h1 a := ⟨by unfold hh; rw [h], fun i => by unfold hq; rw [h]⟩
theorem ce_int {h0 h1 : List AE} {a t : Nat} {l : List Int32} (hA : Ceq h0 h1 a) (h : h0[a]? = some (.inl (t, .inl l))) : h1[a]? = some (.inl (t, .inl l)) := by
  have e1 : hh h1 a = some (0, t, l.length) := by rw [hA.1]; unfold hh; rw [h]; rfl
  obtain ⟨l2, -, e2, e3⟩ := ai_of e1
  have e : l2 = l := List.ext_getElem? (fun i => by
    have e4 := hA.2 i
    unfold hq at e4
    rw [e3, h] at e4
    have e4 : (l2[i]?).map Value.int = (l[i]?).map Value.int := e4
    cases h2 : l2[i]? with
    | none => cases h3 : l[i]? with
      | none => rfl
      | some y => rw [h2, h3] at e4; cases e4
    | some x => cases h3 : l[i]? with
      | none => rw [h2, h3] at e4; cases e4
      | some y => rw [h2, h3] at e4; cases e4; rfl)
  rw [e3, e]
theorem ce_lng {h0 h1 : List AE} {a t : Nat} {l : List Int64} (hA : Ceq h0 h1 a) (h : h0[a]? = some (.inl (t, .inr (.inl l)))) : h1[a]? = some (.inl (t, .inr (.inl l))) := by
  have e1 : hh h1 a = some (1, t, l.length) := by rw [hA.1]; unfold hh; rw [h]; rfl
  obtain ⟨l2, -, e2, e3⟩ := al_of e1
  have e : l2 = l := List.ext_getElem? (fun i => by
    have e4 := hA.2 i
    unfold hq at e4
    rw [e3, h] at e4
    have e4 : (l2[i]?).map Value.long = (l[i]?).map Value.long := e4
    cases h2 : l2[i]? with
    | none => cases h3 : l[i]? with
      | none => rfl
      | some y => rw [h2, h3] at e4; cases e4
    | some x => cases h3 : l[i]? with
      | none => rw [h2, h3] at e4; cases e4
      | some y => rw [h2, h3] at e4; cases e4; rfl)
  rw [e3, e]
theorem ce_obj {h0 h1 : List AE} {a c : Nat} {fs : List Value} (hA : Ceq h0 h1 a) (h : h0[a]? = some (.inr (c, fs))) : h1[a]? = some (.inr (c, fs)) := by
  have e1 : hh h1 a = some (3, c, fs.length) := by rw [hA.1]; unfold hh; rw [h]; rfl
  obtain ⟨gs, e2, e3⟩ := hh_obj e1
  have e : gs = fs := List.ext_getElem? (fun i => by
    have e4 := hA.2 i
    unfold hq at e4
    rw [e2, h] at e4
    exact e4)
  rw [e2, e]
theorem hq_int {hp : List AE} {a t i : Nat} {l : List Int32} (h : hp[a]? = some (.inl (t, .inl l))) : hq hp a i = (l[i]?).map Value.int := by unfold hq; rw [h]; rfl
theorem hq_lng {hp : List AE} {a t i : Nat} {l : List Int64} (h : hp[a]? = some (.inl (t, .inr (.inl l)))) : hq hp a i = (l[i]?).map Value.long := by unfold hq; rw [h]; rfl
theorem hq_obj {hp : List AE} {a c i : Nat} {fs : List Value} (h : hp[a]? = some (.inr (c, fs))) : hq hp a i = fs[i]? := by unfold hq; rw [h]; rfl
def dcl133 (P Dn : Nat) (lw cl id : Int32) (gl bo : Nat) : AE := .inr (1, [.int (Int32.ofNat P), .int (Int32.ofNat Dn), .int lw, .int cl, .int id, .int (Int32.ofNat gl), .int (Int32.ofNat bo), .ref 134, .ref 135, .ref 136, .ref 139, .ref 140, .ref 141, .ref 142, .ref 137, .ref 138])
def dcl157 (P Dn : Nat) (lw cl id : Int32) (gl bo : Nat) : AE := .inr (1, [.int (Int32.ofNat P), .int (Int32.ofNat Dn), .int lw, .int cl, .int id, .int (Int32.ofNat gl), .int (Int32.ofNat bo), .ref 158, .ref 159, .ref 160, .ref 163, .ref 164, .ref 165, .ref 166, .ref 161, .ref 162])
def DH3 (hp : List AE) (c o e p : Nat) : Prop := ∃ (P : Nat) (Dn : Nat) (lw : Int32) (cl : Int32) (id : Int32) (gl : Nat) (bo : Nat) (pn : List Int64) (ri : List Int32) (lf : List Int32) (wa : List Int32) (fo : List Int32) (dn : List Int64) (ha : List Int32) (pa : List Int32) (bl : List Int32) (rd : List Int32) (rn : List Int64), hp[3]? = some (dcl3 P Dn lw cl id gl bo) ∧ hp[4]? = some (lng pn) ∧ hp[5]? = some (ia ri) ∧ hp[6]? = some (ia lf) ∧ hp[7]? = some (ia wa) ∧ hp[8]? = some (ia fo) ∧ hp[9]? = some (lng dn) ∧ hp[10]? = some (ia ha) ∧ hp[11]? = some (ia pa) ∧ hp[12]? = some (ia bl) ∧ rd.length = 101 ∧ rn.length = 15 ∧ DF P Dn lw cl id gl bo pn ri lf wa fo dn ha pa bl rd rn ∧ (∀ j, j < 101 → hq hp c (o + j) = (rd[j]?).map Value.int) ∧ ∀ j, j < 15 → hq hp e (p + j) = (rn[j]?).map Value.long
theorem dh3_keep {h0 h1 : List AE} {c o e p : Nat} (k : ∀ a, 3 ≤ a → a ≤ 12 → Ceq h0 h1 a) (k1 : ∀ j, j < 101 → hq h1 c (o + j) = hq h0 c (o + j)) (k2 : ∀ j, j < 15 → hq h1 e (p + j) = hq h0 e (p + j)) (h : DH3 h0 c o e p) : DH3 h1 c o e p := by
  obtain ⟨P, Dn, lw, cl, id, gl, bo, pn, ri, lf, wa, fo, dn, ha, pa, bl, rd, rn, h0, h1, h2, h3, h4, h5, h6, h7, h8, h9, z1, z2, z3, z4, z5⟩ := h
  exact ⟨P, Dn, lw, cl, id, gl, bo, pn, ri, lf, wa, fo, dn, ha, pa, bl, rd, rn, ce_obj (k 3 (by decide) (by decide)) h0, ce_lng (k 4 (by decide) (by decide)) h1, ce_int (k 5 (by decide) (by decide)) h2, ce_int (k 6 (by decide) (by decide)) h3, ce_int (k 7 (by decide) (by decide)) h4, ce_int (k 8 (by decide) (by decide)) h5, ce_lng (k 9 (by decide) (by decide)) h6, ce_int (k 10 (by decide) (by decide)) h7, ce_int (k 11 (by decide) (by decide)) h8, ce_int (k 12 (by decide) (by decide)) h9, z1, z2, z3, fun j hj => (k1 j hj).trans (z4 j hj), fun j hj => (k2 j hj).trans (z5 j hj)⟩
def DH13 (hp : List AE) (c o e p : Nat) : Prop := ∃ (P : Nat) (Dn : Nat) (lw : Int32) (cl : Int32) (id : Int32) (gl : Nat) (bo : Nat) (pn : List Int64) (ri : List Int32) (lf : List Int32) (wa : List Int32) (fo : List Int32) (dn : List Int64) (ha : List Int32) (pa : List Int32) (bl : List Int32) (rd : List Int32) (rn : List Int64), hp[13]? = some (dcl13 P Dn lw cl id gl bo) ∧ hp[14]? = some (lng pn) ∧ hp[15]? = some (ia ri) ∧ hp[16]? = some (ia lf) ∧ hp[17]? = some (ia wa) ∧ hp[18]? = some (ia fo) ∧ hp[19]? = some (lng dn) ∧ hp[20]? = some (ia ha) ∧ hp[21]? = some (ia pa) ∧ hp[22]? = some (ia bl) ∧ rd.length = 101 ∧ rn.length = 15 ∧ DF P Dn lw cl id gl bo pn ri lf wa fo dn ha pa bl rd rn ∧ (∀ j, j < 101 → hq hp c (o + j) = (rd[j]?).map Value.int) ∧ ∀ j, j < 15 → hq hp e (p + j) = (rn[j]?).map Value.long
theorem dh13_keep {h0 h1 : List AE} {c o e p : Nat} (k : ∀ a, 13 ≤ a → a ≤ 22 → Ceq h0 h1 a) (k1 : ∀ j, j < 101 → hq h1 c (o + j) = hq h0 c (o + j)) (k2 : ∀ j, j < 15 → hq h1 e (p + j) = hq h0 e (p + j)) (h : DH13 h0 c o e p) : DH13 h1 c o e p := by
  obtain ⟨P, Dn, lw, cl, id, gl, bo, pn, ri, lf, wa, fo, dn, ha, pa, bl, rd, rn, h0, h1, h2, h3, h4, h5, h6, h7, h8, h9, z1, z2, z3, z4, z5⟩ := h
  exact ⟨P, Dn, lw, cl, id, gl, bo, pn, ri, lf, wa, fo, dn, ha, pa, bl, rd, rn, ce_obj (k 13 (by decide) (by decide)) h0, ce_lng (k 14 (by decide) (by decide)) h1, ce_int (k 15 (by decide) (by decide)) h2, ce_int (k 16 (by decide) (by decide)) h3, ce_int (k 17 (by decide) (by decide)) h4, ce_int (k 18 (by decide) (by decide)) h5, ce_lng (k 19 (by decide) (by decide)) h6, ce_int (k 20 (by decide) (by decide)) h7, ce_int (k 21 (by decide) (by decide)) h8, ce_int (k 22 (by decide) (by decide)) h9, z1, z2, z3, fun j hj => (k1 j hj).trans (z4 j hj), fun j hj => (k2 j hj).trans (z5 j hj)⟩
def DH133 (hp : List AE) (c o e p : Nat) : Prop := ∃ (P : Nat) (Dn : Nat) (lw : Int32) (cl : Int32) (id : Int32) (gl : Nat) (bo : Nat) (pn : List Int64) (ri : List Int32) (lf : List Int32) (wa : List Int32) (fo : List Int32) (dn : List Int64) (ha : List Int32) (pa : List Int32) (bl : List Int32) (rd : List Int32) (rn : List Int64), hp[133]? = some (dcl133 P Dn lw cl id gl bo) ∧ hp[134]? = some (lng pn) ∧ hp[135]? = some (ia ri) ∧ hp[136]? = some (ia lf) ∧ hp[137]? = some (ia wa) ∧ hp[138]? = some (ia fo) ∧ hp[139]? = some (lng dn) ∧ hp[140]? = some (ia ha) ∧ hp[141]? = some (ia pa) ∧ hp[142]? = some (ia bl) ∧ rd.length = 101 ∧ rn.length = 15 ∧ DF P Dn lw cl id gl bo pn ri lf wa fo dn ha pa bl rd rn ∧ (∀ j, j < 101 → hq hp c (o + j) = (rd[j]?).map Value.int) ∧ ∀ j, j < 15 → hq hp e (p + j) = (rn[j]?).map Value.long
theorem dh133_keep {h0 h1 : List AE} {c o e p : Nat} (k : ∀ a, 133 ≤ a → a ≤ 142 → Ceq h0 h1 a) (k1 : ∀ j, j < 101 → hq h1 c (o + j) = hq h0 c (o + j)) (k2 : ∀ j, j < 15 → hq h1 e (p + j) = hq h0 e (p + j)) (h : DH133 h0 c o e p) : DH133 h1 c o e p := by
  obtain ⟨P, Dn, lw, cl, id, gl, bo, pn, ri, lf, wa, fo, dn, ha, pa, bl, rd, rn, h0, h1, h2, h3, h4, h5, h6, h7, h8, h9, z1, z2, z3, z4, z5⟩ := h
  exact ⟨P, Dn, lw, cl, id, gl, bo, pn, ri, lf, wa, fo, dn, ha, pa, bl, rd, rn, ce_obj (k 133 (by decide) (by decide)) h0, ce_lng (k 134 (by decide) (by decide)) h1, ce_int (k 135 (by decide) (by decide)) h2, ce_int (k 136 (by decide) (by decide)) h3, ce_int (k 137 (by decide) (by decide)) h4, ce_int (k 138 (by decide) (by decide)) h5, ce_lng (k 139 (by decide) (by decide)) h6, ce_int (k 140 (by decide) (by decide)) h7, ce_int (k 141 (by decide) (by decide)) h8, ce_int (k 142 (by decide) (by decide)) h9, z1, z2, z3, fun j hj => (k1 j hj).trans (z4 j hj), fun j hj => (k2 j hj).trans (z5 j hj)⟩
def DH157 (hp : List AE) (c o e p : Nat) : Prop := ∃ (P : Nat) (Dn : Nat) (lw : Int32) (cl : Int32) (id : Int32) (gl : Nat) (bo : Nat) (pn : List Int64) (ri : List Int32) (lf : List Int32) (wa : List Int32) (fo : List Int32) (dn : List Int64) (ha : List Int32) (pa : List Int32) (bl : List Int32) (rd : List Int32) (rn : List Int64), hp[157]? = some (dcl157 P Dn lw cl id gl bo) ∧ hp[158]? = some (lng pn) ∧ hp[159]? = some (ia ri) ∧ hp[160]? = some (ia lf) ∧ hp[161]? = some (ia wa) ∧ hp[162]? = some (ia fo) ∧ hp[163]? = some (lng dn) ∧ hp[164]? = some (ia ha) ∧ hp[165]? = some (ia pa) ∧ hp[166]? = some (ia bl) ∧ rd.length = 101 ∧ rn.length = 15 ∧ DF P Dn lw cl id gl bo pn ri lf wa fo dn ha pa bl rd rn ∧ (∀ j, j < 101 → hq hp c (o + j) = (rd[j]?).map Value.int) ∧ ∀ j, j < 15 → hq hp e (p + j) = (rn[j]?).map Value.long
theorem dh157_keep {h0 h1 : List AE} {c o e p : Nat} (k : ∀ a, 157 ≤ a → a ≤ 166 → Ceq h0 h1 a) (k1 : ∀ j, j < 101 → hq h1 c (o + j) = hq h0 c (o + j)) (k2 : ∀ j, j < 15 → hq h1 e (p + j) = hq h0 e (p + j)) (h : DH157 h0 c o e p) : DH157 h1 c o e p := by
  obtain ⟨P, Dn, lw, cl, id, gl, bo, pn, ri, lf, wa, fo, dn, ha, pa, bl, rd, rn, h0, h1, h2, h3, h4, h5, h6, h7, h8, h9, z1, z2, z3, z4, z5⟩ := h
  exact ⟨P, Dn, lw, cl, id, gl, bo, pn, ri, lf, wa, fo, dn, ha, pa, bl, rd, rn, ce_obj (k 157 (by decide) (by decide)) h0, ce_lng (k 158 (by decide) (by decide)) h1, ce_int (k 159 (by decide) (by decide)) h2, ce_int (k 160 (by decide) (by decide)) h3, ce_int (k 161 (by decide) (by decide)) h4, ce_int (k 162 (by decide) (by decide)) h5, ce_lng (k 163 (by decide) (by decide)) h6, ce_int (k 164 (by decide) (by decide)) h7, ce_int (k 165 (by decide) (by decide)) h8, ce_int (k 166 (by decide) (by decide)) h9, z1, z2, z3, fun j hj => (k1 j hj).trans (z4 j hj), fun j hj => (k2 j hj).trans (z5 j hj)⟩
def TPH (hp : List AE) : Prop := ∃ bs ts, hp[2]? = some (bcl bs) ∧ hp[181]? = some (mtl ts) ∧ TP bs ts
def CUR (hp : List AE) : Prop := (hq hp 0 1 = some (.ref 3) ∧ hq hp 0 2 = some (.ref 13) ∧ DH3 hp 182 0 187 0) ∨ (hq hp 0 1 = some (.ref 13) ∧ hq hp 0 2 = some (.ref 3) ∧ DH13 hp 182 0 187 0)
def IM0 (hp : List AE) : Prop := hq hp 132 0 = some (.int 1) → DH133 hp 184 0 189 0
def IM1 (hp : List AE) : Prop := hq hp 156 0 = some (.int 1) → DH157 hp 184 396 189 15
def DEEP (hp : List AE) : Prop := TPH hp ∧ CUR hp ∧ IM0 hp ∧ IM1 hp
def rng (W : WR) (lo n : Nat) : Bool := (List.range n).all (fun j => wr_not W (lo + j))
theorem rng_at {W : WR} {lo n a : Nat} (h : rng W lo n = true) (h1 : lo ≤ a) (h2 : a < lo + n) : wr_not W a = true := by
  have := List.all_eq_true.mp h (a - lo) (List.mem_range.mpr (by omega))
  rw [show lo + (a - lo) = a by omega] at this
  exact this
theorem tph_keep {h0 h1 : List AE} (k2 : Ceq h0 h1 2) (k181 : Ceq h0 h1 181) (h : TPH h0) : TPH h1 := by
  obtain ⟨bs, ts, e1, e2, e3⟩ := h
  exact ⟨bs, ts, ce_int k2 e1, ce_int k181 e2, e3⟩
theorem cur_keep {h0 h1 : List AE} (k : ∀ a, 3 ≤ a → a ≤ 22 → Ceq h0 h1 a) (k0 : hq h1 0 1 = hq h0 0 1) (k00 : hq h1 0 2 = hq h0 0 2) (k1 : ∀ j, j < 101 → hq h1 182 (0 + j) = hq h0 182 (0 + j)) (k2 : ∀ j, j < 15 → hq h1 187 (0 + j) = hq h0 187 (0 + j)) (h : CUR h0) : CUR h1 := by
  rcases h with ⟨e1, e2, e3⟩ | ⟨e1, e2, e3⟩
  · exact Or.inl ⟨k0.trans e1, k00.trans e2, dh3_keep (fun a x y => k a (by omega) (by omega)) k1 k2 e3⟩
  · exact Or.inr ⟨k0.trans e1, k00.trans e2, dh13_keep (fun a x y => k a (by omega) (by omega)) k1 k2 e3⟩
theorem im0_keep {h0 h1 : List AE} (k : ∀ a, 133 ≤ a → a ≤ 142 → Ceq h0 h1 a) (k0 : hq h1 132 0 = hq h0 132 0) (k1 : ∀ j, j < 101 → hq h1 184 (0 + j) = hq h0 184 (0 + j)) (k2 : ∀ j, j < 15 → hq h1 189 (0 + j) = hq h0 189 (0 + j)) (h : IM0 h0) : IM0 h1 := fun e => dh133_keep k k1 k2 (h (k0.symm.trans e))
theorem im1_keep {h0 h1 : List AE} (k : ∀ a, 157 ≤ a → a ≤ 166 → Ceq h0 h1 a) (k0 : hq h1 156 0 = hq h0 156 0) (k1 : ∀ j, j < 101 → hq h1 184 (396 + j) = hq h0 184 (396 + j)) (k2 : ∀ j, j < 15 → hq h1 189 (15 + j) = hq h0 189 (15 + j)) (h : IM1 h0) : IM1 h1 := fun e => dh157_keep k k1 k2 (h (k0.symm.trans e))
def dpW (W : WR) : Bool := (wr_not W 2 && wr_not W 181) && ((rng W 3 20 && wr_off W 0 1 2) && (wr_off W 182 0 100 && wr_not W 187)) && ((rng W 133 10 && wr_off W 132 0 0) && (rng W 157 10 && wr_off W 156 0 0) && (wr_not W 184 && wr_not W 189))
theorem deep_keep {W : WR} {h0 h1 : List AE} (hA : Agr W h0 h1) (hw : dpW W = true) (h : DEEP h0) : DEEP h1 := by
  unfold dpW at hw
  simp only [Bool.and_eq_true] at hw
  obtain ⟨⟨⟨w1, w2⟩, ⟨w3, w4⟩, w5, w6⟩, ⟨⟨w7, w8⟩, w9, w10⟩, w11, w12⟩ := hw
  obtain ⟨h1, h2, h3, h4⟩ := h
  exact ⟨tph_keep (ag_ce hA w1) (ag_ce hA w2) h1, cur_keep (fun a x y => ag_ce hA (rng_at w3 x (by omega))) (ag_off hA w4 (by decide) (by decide)) (ag_off hA w4 (by decide) (by decide)) (fun j hj => ag_off hA w5 (by omega) (by omega)) (fun j hj => ag_hq hA w6 _) h2, im0_keep (fun a x y => ag_ce hA (rng_at w7 x (by omega))) (ag_off hA w8 (by decide) (by decide)) (fun j hj => ag_hq hA w11 _) (fun j hj => ag_hq hA w12 _) h3, im1_keep (fun a x y => ag_ce hA (rng_at w9 x (by omega))) (ag_off hA w10 (by decide) (by decide)) (fun j hj => ag_hq hA w11 _) (fun j hj => ag_hq hA w12 _) h4⟩
theorem deep_ext {h0 h1 : List AE} (k : ∀ a, a < 203 → h1[a]? = h0[a]?) (h : DEEP h0) : DEEP h1 := by
  have c : ∀ a, a < 203 → Ceq h0 h1 a := fun a ha => ce_same (k a ha)
  obtain ⟨h1, h2, h3, h4⟩ := h
  exact ⟨tph_keep (c 2 (by decide)) (c 181 (by decide)) h1, cur_keep (fun a x y => c a (by omega)) ((c 0 (by decide)).2 1) ((c 0 (by decide)).2 2) (fun j hj => (c 182 (by decide)).2 _) (fun j hj => (c 187 (by decide)).2 _) h2, im0_keep (fun a x y => c a (by omega)) ((c 132 (by decide)).2 0) (fun j hj => (c 184 (by decide)).2 _) (fun j hj => (c 189 (by decide)).2 _) h3, im1_keep (fun a x y => c a (by omega)) ((c 156 (by decide)).2 0) (fun j hj => (c 184 (by decide)).2 _) (fun j hj => (c 189 (by decide)).2 _) h4⟩
/-- a contract's run, as a run that says just what comes out -/
theorem sd_runF {G : GT} {C : CO} (hC : CoOk G MM C) (l : Launch) (b : Nat) (en ac : Nat → Nat) (D : va_G) {ρ : List Int} {As : List Value} {hp : List AE} (h1 : en_ok ρ (cE C)) (h2 : ss_ok ρ (cA C) As) (h3 : sp_ok ρ (cP C) hp) (h4 : hp_ok G hp) (hd : cDep C ≤ 100) (ho : outI C = true) : ∃ (r : Int32) (hc : List AE), ev_M l b en ac D MM 100 (cMi C) As hp (some (.int r), hc) ∧ EndOk G C ρ hp (some (.int r), hc) ∧ FR (cDep C) (cMi C) As hp (some (.int r), hc) := by
  obtain ⟨⟨q1, q2⟩, ⟨N, hN⟩, he⟩ := hC.2.2 ρ As hp h1 h2 h3 h4
  unfold outI at ho
  rw [Bool.and_eq_true] at ho
  have hM := (evF_ok l b en ac D N MM_val MM_abs 100 _ _ _ _ (hN N (Nat.le_refl _) 100 hd)).1 ho.1
  have he2 := he
  obtain ⟨-, -, o, hoo, τ, -, -, t3⟩ := he2
  have h5 := List.all_eq_true.mp ho.2 o hoo
  split at h5
  · rename_i k c hs
    rw [hs] at t3
    cases q1 with
    | none => exact t3.elim
    | some v =>
      obtain ⟨x, z, e1, -, -⟩ := (show sv_ok (ρ ++ τ) (0, k, c) v from t3)
      subst e1
      exact ⟨x, q2, hM, he, N, hN⟩
  · cases h5
end
section
/-! ===== a DUCHY copied ===== -/
theorem cp_all {α : Type} (z : α) {f g : List α} (h : f.length = g.length) : ev_cp z f g 0 0 g.length = f := by
  unfold ev_cp
  apply List.ext_getElem?
  intro i
  rw [List.getElem?_map]
  by_cases hi : i < g.length
  · rw [List.getElem?_range hi]
    show some (cond (Nat.ble 0 i && Nat.blt i (0 + g.length)) (f.getD (0 + (i - 0)) z) (g.getD i z)) = _
    rw [Nat.ble_eq_true_of_le (Nat.zero_le i), show Nat.blt i (0 + g.length) = true from Nat.ble_eq_true_of_le (by omega)]
    show some (f.getD (0 + (i - 0)) z) = _
    rw [Nat.zero_add, Nat.sub_zero, List.getD_eq_getElem?_getD, List.getElem?_eq_getElem (by omega)]
    rfl
  · rw [List.getElem?_eq_none (by rw [List.length_range]; omega), List.getElem?_eq_none (by omega)]
    rfl
section
variable {dd mi pc y : Nat} {L : List (Nat × Value)} {st : List Value} {hp : List AE} {l l2 : List (Nat × AE)} {q : ev_R}
theorem ow_cyI {idx a0 a1 m : Nat} {f g : List Int32} (hf : mF MM mi pc = some (.invokestatic idx, 904, y)) (h0 : olk l a0 = some (.inl (1, .inl f))) (h1 : olk l a1 = some (.inl (1, .inl g))) (lf : f.length = m) (lg : g.length = m) (hm : m < 2147483648) (hc8 : Nat.ble ((st.map fun v => v.category).sum) 8 = true) (ha : Nat.ble 204 hp.length = true) (hb0 : Nat.blt a0 204 = true) (hb1 : Nat.blt a1 204 = true) (hl : oin l a1 (.inl (1, .inl f)) = l2) (h : RT MM dd mi (pc + 3) L st (ov hp l2) q) : RT MM dd mi pc L (.int (Int32.ofNat m) :: .int (Int32.ofNat 0) :: .ref a1 :: .int (Int32.ofNat 0) :: .ref a0 :: st) (ov hp l) q := by
  have e0 := ov_at h0 (Nat.lt_of_lt_of_le (Nat.le_of_ble_eq_true hb0) (Nat.le_of_ble_eq_true ha))
  have e1 := ov_at h1 (Nat.lt_of_lt_of_le (Nat.le_of_ble_eq_true hb1) (Nat.le_of_ble_eq_true ha))
  have k0 : (Int32.ofNat 0).toNatClampNeg = 0 := rfl
  have km : (Int32.ofNat m).toNatClampNeg = m := nI_c hm
  have e2 : ev_cy (ov hp l) (Int32.ofNat m) (Int32.ofNat 0) a1 (Int32.ofNat 0) a0 = some (ov hp l2) := by
    unfold ev_cy
    rw [if_neg (fun e => e.elim (n_ps hm) (fun e => e.elim (n_ps (by decide)) (n_ps (by decide)))), e0, e1]
    show (if (1 : Nat) = 1 ∧ (1 : Nat) = 1 ∧ (Int32.ofNat 0).toNatClampNeg + (Int32.ofNat m).toNatClampNeg ≤ f.length ∧ (Int32.ofNat 0).toNatClampNeg + (Int32.ofNat m).toNatClampNeg ≤ g.length then some ((ov hp l).set a1 (.inl (1, .inl (ev_cp 0 f g (Int32.ofNat 0).toNatClampNeg (Int32.ofNat 0).toNatClampNeg (Int32.ofNat m).toNatClampNeg)))) else none) = _
    rw [k0, km, if_pos ⟨rfl, rfl, by omega, by omega⟩, show ev_cp 0 f g 0 0 m = f from by rw [← lg]; exact cp_all 0 (by omega), ov_set, hl]
  refine RT_step hf (fun cf K => ?_) h
  show (if (st.map fun v => v.category).sum ≤ 8 then (ev_cy (ov hp l) (Int32.ofNat m) (Int32.ofNat 0) a1 (Int32.ofNat 0) a0).bind (fun h1 => K (pc + 3) L st h1 0 0) else none) = _
  rw [if_pos (Nat.le_of_ble_eq_true hc8), e2]
  rfl
theorem ow_cyL {idx a0 a1 m : Nat} {f g : List Int64} (hf : mF MM mi pc = some (.invokestatic idx, 904, y)) (h0 : olk l a0 = some (.inl (2, .inr (.inl f)))) (h1 : olk l a1 = some (.inl (2, .inr (.inl g)))) (lf : f.length = m) (lg : g.length = m) (hm : m < 2147483648) (hc8 : Nat.ble ((st.map fun v => v.category).sum) 8 = true) (ha : Nat.ble 204 hp.length = true) (hb0 : Nat.blt a0 204 = true) (hb1 : Nat.blt a1 204 = true) (hl : oin l a1 (.inl (2, .inr (.inl f))) = l2) (h : RT MM dd mi (pc + 3) L st (ov hp l2) q) : RT MM dd mi pc L (.int (Int32.ofNat m) :: .int (Int32.ofNat 0) :: .ref a1 :: .int (Int32.ofNat 0) :: .ref a0 :: st) (ov hp l) q := by
  have e0 := ov_at h0 (Nat.lt_of_lt_of_le (Nat.le_of_ble_eq_true hb0) (Nat.le_of_ble_eq_true ha))
  have e1 := ov_at h1 (Nat.lt_of_lt_of_le (Nat.le_of_ble_eq_true hb1) (Nat.le_of_ble_eq_true ha))
  have k0 : (Int32.ofNat 0).toNatClampNeg = 0 := rfl
  have km : (Int32.ofNat m).toNatClampNeg = m := nI_c hm
  have e2 : ev_cy (ov hp l) (Int32.ofNat m) (Int32.ofNat 0) a1 (Int32.ofNat 0) a0 = some (ov hp l2) := by
    unfold ev_cy
    rw [if_neg (fun e => e.elim (n_ps hm) (fun e => e.elim (n_ps (by decide)) (n_ps (by decide)))), e0, e1]
    show (if (2 : Nat) = 2 ∧ (2 : Nat) = 2 ∧ (Int32.ofNat 0).toNatClampNeg + (Int32.ofNat m).toNatClampNeg ≤ f.length ∧ (Int32.ofNat 0).toNatClampNeg + (Int32.ofNat m).toNatClampNeg ≤ g.length then some ((ov hp l).set a1 (.inl (2, .inr (.inl (ev_cp 0 f g (Int32.ofNat 0).toNatClampNeg (Int32.ofNat 0).toNatClampNeg (Int32.ofNat m).toNatClampNeg))))) else none) = _
    rw [k0, km, if_pos ⟨rfl, rfl, by omega, by omega⟩, show ev_cp 0 f g 0 0 m = f from by rw [← lg]; exact cp_all 0 (by omega), ov_set, hl]
  refine RT_step hf (fun cf K => ?_) h
  show (if (st.map fun v => v.category).sum ≤ 8 then (ev_cy (ov hp l) (Int32.ofNat m) (Int32.ofNat 0) a1 (Int32.ofNat 0) a0).bind (fun h1 => K (pc + 3) L st h1 0 0) else none) = _
  rw [if_pos (Nat.le_of_ble_eq_true hc8), e2]
  rfl
/-- a call after which the heap is whatever the contract says -/
theorem ow_ivH {x idx a : Nat} {fs : List Value} {As rest : List Value} {v : Option Value} {h2 : List AE} (hf : mF MM mi pc = some (.invokevirtual idx, x, y)) (hx : Nat.blt x 900 = true) (hp0 : ev_pop y st = some (As, .ref a :: rest)) (hk : olk l a = some (.inr (mK MM x, fs))) (ha : Nat.ble 204 hp.length = true) (hb : Nat.blt a 204 = true) (hz : (Nat.beq (mC MM x) 0 && Nat.beq (mS MM x) 0) = true) (hc8 : Nat.ble ((rest.map fun v => v.category).sum) 8 = true) (hc : FR dd x (.ref a :: As) (ov hp l) (v, h2)) (h : RT MM dd mi (pc + 3) L (v.toList ++ rest) h2 q) : RT MM dd mi pc L st (ov hp l) q := by
  have e := ov_at hk (Nat.lt_of_lt_of_le (Nat.le_of_ble_eq_true hb) (Nat.le_of_ble_eq_true ha))
  rw [Bool.and_eq_true] at hz
  have z1 := Nat.eq_of_beq_eq_true hz.1
  have z2 := Nat.eq_of_beq_eq_true hz.2
  have hx2 : x < 900 := Nat.le_of_ble_eq_true hx
  refine RT_call (cx := x) (As := .ref a :: As) (rest := rest) (r := (v, h2)) hf (fun cf K hcf => ?_) hc h
  show (if x < 900 then ev_iv MM cf mi x y st (ov hp l) 0 0 (K (pc + 3) L) else _) = _
  rw [if_pos hx2]
  unfold ev_iv
  rw [hp0]
  show (ev_ob (ov hp l) a (mK MM x)).bind (fun _ => if x < 900 then ev_cf MM cf mi x (.ref a :: As) rest (ov hp l) 0 0 (K (pc + 3) L) else none) = _
  have e3 : ev_ob (ov hp l) a (mK MM x) = some fs := by
    unfold ev_ob
    rw [e]
    show cond (Nat.beq (mK MM x) (mK MM x)) (some fs) none = some fs
    rw [Nat.beq_refl]
    rfl
  rw [e3]
  show (if x < 900 then ev_cf MM cf mi x (.ref a :: As) rest (ov hp l) 0 0 (K (pc + 3) L) else none) = _
  rw [if_pos hx2]
  unfold ev_cf
  rw [if_pos (Nat.le_of_ble_eq_true hc8), z1, z2, if_pos ⟨Nat.zero_le _, Nat.zero_le _⟩, hcf]
  rfl
end
theorem x_copy133_3 {H : List AE} (hlen : Nat.ble 204 H.length = true) {P : Nat} {Dn : Nat} {lw : Int32} {cl : Int32} {id : Int32} {gl : Nat} {bo : Nat} {pn : List Int64} {ri : List Int32} {lf : List Int32} {wa : List Int32} {fo : List Int32} {dn : List Int64} {ha : List Int32} {pa : List Int32} {bl : List Int32} {P2 : Nat} {Dn2 : Nat} {lw2 : Int32} {cl2 : Int32} {id2 : Int32} {gl2 : Nat} {bo2 : Nat} {pn2 : List Int64} {ri2 : List Int32} {lf2 : List Int32} {wa2 : List Int32} {fo2 : List Int32} {dn2 : List Int64} {ha2 : List Int32} {pa2 : List Int32} {bl2 : List Int32} (l : DL pn ri lf wa fo dn ha pa bl) (m : DL pn2 ri2 lf2 wa2 fo2 dn2 ha2 pa2 bl2) : FR 1 62 [.ref 133, .ref 3] (ov H [(133, dcl133 P2 Dn2 lw2 cl2 id2 gl2 bo2), (134, lng pn2), (135, ia ri2), (136, ia lf2), (137, ia wa2), (138, ia fo2), (139, lng dn2), (140, ia ha2), (141, ia pa2), (142, ia bl2), (3, dcl3 P Dn lw cl id gl bo), (4, lng pn), (5, ia ri), (6, ia lf), (7, ia wa), (8, ia fo), (9, lng dn), (10, ia ha), (11, ia pa), (12, ia bl)]) (none, ov (ov H [(133, dcl133 P2 Dn2 lw2 cl2 id2 gl2 bo2), (134, lng pn2), (135, ia ri2), (136, ia lf2), (137, ia wa2), (138, ia fo2), (139, lng dn2), (140, ia ha2), (141, ia pa2), (142, ia bl2), (3, dcl3 P Dn lw cl id gl bo), (4, lng pn), (5, ia ri), (6, ia lf), (7, ia wa), (8, ia fo), (9, lng dn), (10, ia ha), (11, ia pa), (12, ia bl)]) [(133, dcl133 P Dn lw cl id gl bo), (134, lng pn), (135, ia ri), (136, ia lf), (137, ia wa), (138, ia fo), (139, lng dn), (140, ia ha), (141, ia pa), (142, ia bl), (3, dcl3 P Dn lw cl id gl bo), (4, lng pn), (5, ia ri), (6, ia lf), (7, ia wa), (8, ia fo), (9, lng dn), (10, ia ha), (11, ia pa), (12, ia bl)]) := by
  obtain ⟨l1, l2, l3, l4, l5, l6, l7, l8, l9⟩ := l
  obtain ⟨m1, m2, m3, m4, m5, m6, m7, m8, m9⟩ := m
  refine FR_st3 (l2 := [(133, dcl133 P Dn lw cl id gl bo), (134, lng pn), (135, ia ri), (136, ia lf), (137, ia wa), (138, ia fo), (139, lng dn), (140, ia ha), (141, ia pa), (142, ia bl), (3, dcl3 P Dn lw cl id gl bo), (4, lng pn), (5, ia ri), (6, ia lf), (7, ia wa), (8, ia fo), (9, lng dn), (10, ia ha), (11, ia pa), (12, ia bl)]) rfl rfl rfl ?_
  refine RT_step (pc2 := 1) rfl (fun _ _ => rfl) ?_
  refine RT_step (pc2 := 2) rfl (fun _ _ => rfl) ?_
  refine ow_gf rfl rfl rfl hlen rfl ?_
  refine ow_pf (l2 := [(133, dcl133 P Dn2 lw2 cl2 id2 gl2 bo2), (134, lng pn2), (135, ia ri2), (136, ia lf2), (137, ia wa2), (138, ia fo2), (139, lng dn2), (140, ia ha2), (141, ia pa2), (142, ia bl2), (3, dcl3 P Dn lw cl id gl bo), (4, lng pn), (5, ia ri), (6, ia lf), (7, ia wa), (8, ia fo), (9, lng dn), (10, ia ha), (11, ia pa), (12, ia bl)]) rfl rfl rfl rfl rfl hlen rfl rfl ?_
  refine RT_step (pc2 := 9) rfl (fun _ _ => rfl) ?_
  refine RT_step (pc2 := 10) rfl (fun _ _ => rfl) ?_
  refine ow_gf rfl rfl rfl hlen rfl ?_
  refine ow_pf (l2 := [(133, dcl133 P Dn lw2 cl2 id2 gl2 bo2), (134, lng pn2), (135, ia ri2), (136, ia lf2), (137, ia wa2), (138, ia fo2), (139, lng dn2), (140, ia ha2), (141, ia pa2), (142, ia bl2), (3, dcl3 P Dn lw cl id gl bo), (4, lng pn), (5, ia ri), (6, ia lf), (7, ia wa), (8, ia fo), (9, lng dn), (10, ia ha), (11, ia pa), (12, ia bl)]) rfl rfl rfl rfl rfl hlen rfl rfl ?_
  refine RT_step (pc2 := 17) rfl (fun _ _ => rfl) ?_
  refine RT_step (pc2 := 18) rfl (fun _ _ => rfl) ?_
  refine ow_gf rfl rfl rfl hlen rfl ?_
  refine ow_pf (l2 := [(133, dcl133 P Dn lw cl2 id2 gl2 bo2), (134, lng pn2), (135, ia ri2), (136, ia lf2), (137, ia wa2), (138, ia fo2), (139, lng dn2), (140, ia ha2), (141, ia pa2), (142, ia bl2), (3, dcl3 P Dn lw cl id gl bo), (4, lng pn), (5, ia ri), (6, ia lf), (7, ia wa), (8, ia fo), (9, lng dn), (10, ia ha), (11, ia pa), (12, ia bl)]) rfl rfl rfl rfl rfl hlen rfl rfl ?_
  refine RT_step (pc2 := 25) rfl (fun _ _ => rfl) ?_
  refine RT_step (pc2 := 26) rfl (fun _ _ => rfl) ?_
  refine ow_gf rfl rfl rfl hlen rfl ?_
  refine ow_pf (l2 := [(133, dcl133 P Dn lw cl id2 gl2 bo2), (134, lng pn2), (135, ia ri2), (136, ia lf2), (137, ia wa2), (138, ia fo2), (139, lng dn2), (140, ia ha2), (141, ia pa2), (142, ia bl2), (3, dcl3 P Dn lw cl id gl bo), (4, lng pn), (5, ia ri), (6, ia lf), (7, ia wa), (8, ia fo), (9, lng dn), (10, ia ha), (11, ia pa), (12, ia bl)]) rfl rfl rfl rfl rfl hlen rfl rfl ?_
  refine RT_step (pc2 := 33) rfl (fun _ _ => rfl) ?_
  refine RT_step (pc2 := 34) rfl (fun _ _ => rfl) ?_
  refine ow_gf rfl rfl rfl hlen rfl ?_
  refine ow_pf (l2 := [(133, dcl133 P Dn lw cl id gl2 bo2), (134, lng pn2), (135, ia ri2), (136, ia lf2), (137, ia wa2), (138, ia fo2), (139, lng dn2), (140, ia ha2), (141, ia pa2), (142, ia bl2), (3, dcl3 P Dn lw cl id gl bo), (4, lng pn), (5, ia ri), (6, ia lf), (7, ia wa), (8, ia fo), (9, lng dn), (10, ia ha), (11, ia pa), (12, ia bl)]) rfl rfl rfl rfl rfl hlen rfl rfl ?_
  refine RT_step (pc2 := 41) rfl (fun _ _ => rfl) ?_
  refine RT_step (pc2 := 42) rfl (fun _ _ => rfl) ?_
  refine ow_gf rfl rfl rfl hlen rfl ?_
  refine ow_pf (l2 := [(133, dcl133 P Dn lw cl id gl bo2), (134, lng pn2), (135, ia ri2), (136, ia lf2), (137, ia wa2), (138, ia fo2), (139, lng dn2), (140, ia ha2), (141, ia pa2), (142, ia bl2), (3, dcl3 P Dn lw cl id gl bo), (4, lng pn), (5, ia ri), (6, ia lf), (7, ia wa), (8, ia fo), (9, lng dn), (10, ia ha), (11, ia pa), (12, ia bl)]) rfl rfl rfl rfl rfl hlen rfl rfl ?_
  refine RT_step (pc2 := 49) rfl (fun _ _ => rfl) ?_
  refine RT_step (pc2 := 50) rfl (fun _ _ => rfl) ?_
  refine ow_gf rfl rfl rfl hlen rfl ?_
  refine ow_pf (l2 := [(133, dcl133 P Dn lw cl id gl bo), (134, lng pn2), (135, ia ri2), (136, ia lf2), (137, ia wa2), (138, ia fo2), (139, lng dn2), (140, ia ha2), (141, ia pa2), (142, ia bl2), (3, dcl3 P Dn lw cl id gl bo), (4, lng pn), (5, ia ri), (6, ia lf), (7, ia wa), (8, ia fo), (9, lng dn), (10, ia ha), (11, ia pa), (12, ia bl)]) rfl rfl rfl rfl rfl hlen rfl rfl ?_
  refine RT_step (pc2 := 57) rfl (fun _ _ => rfl) ?_
  refine ow_gf rfl rfl rfl hlen rfl ?_
  refine rt_ico rfl ki_0 ?_
  refine RT_step (pc2 := 62) rfl (fun _ _ => rfl) ?_
  refine ow_gf rfl rfl rfl hlen rfl ?_
  refine rt_ico rfl ki_0 ?_
  refine rt_bip rfl k8_7 ?_
  refine ow_cyL (m := 7) (l2 := [(133, dcl133 P Dn lw cl id gl bo), (134, lng pn), (135, ia ri2), (136, ia lf2), (137, ia wa2), (138, ia fo2), (139, lng dn2), (140, ia ha2), (141, ia pa2), (142, ia bl2), (3, dcl3 P Dn lw cl id gl bo), (4, lng pn), (5, ia ri), (6, ia lf), (7, ia wa), (8, ia fo), (9, lng dn), (10, ia ha), (11, ia pa), (12, ia bl)]) rfl rfl rfl l1 m1 (by decide) rfl hlen rfl rfl rfl ?_
  refine RT_step (pc2 := 72) rfl (fun _ _ => rfl) ?_
  refine ow_gf rfl rfl rfl hlen rfl ?_
  refine rt_ico rfl ki_0 ?_
  refine RT_step (pc2 := 77) rfl (fun _ _ => rfl) ?_
  refine ow_gf rfl rfl rfl hlen rfl ?_
  refine rt_ico rfl ki_0 ?_
  refine rt_bip rfl k8_7 ?_
  refine ow_cyI (m := 7) (l2 := [(133, dcl133 P Dn lw cl id gl bo), (134, lng pn), (135, ia ri), (136, ia lf2), (137, ia wa2), (138, ia fo2), (139, lng dn2), (140, ia ha2), (141, ia pa2), (142, ia bl2), (3, dcl3 P Dn lw cl id gl bo), (4, lng pn), (5, ia ri), (6, ia lf), (7, ia wa), (8, ia fo), (9, lng dn), (10, ia ha), (11, ia pa), (12, ia bl)]) rfl rfl rfl l2 m2 (by decide) rfl hlen rfl rfl rfl ?_
  refine RT_step (pc2 := 87) rfl (fun _ _ => rfl) ?_
  refine ow_gf rfl rfl rfl hlen rfl ?_
  refine rt_ico rfl ki_0 ?_
  refine RT_step (pc2 := 92) rfl (fun _ _ => rfl) ?_
  refine ow_gf rfl rfl rfl hlen rfl ?_
  refine rt_ico rfl ki_0 ?_
  refine rt_bip rfl k8_7 ?_
  refine ow_cyI (m := 7) (l2 := [(133, dcl133 P Dn lw cl id gl bo), (134, lng pn), (135, ia ri), (136, ia lf), (137, ia wa2), (138, ia fo2), (139, lng dn2), (140, ia ha2), (141, ia pa2), (142, ia bl2), (3, dcl3 P Dn lw cl id gl bo), (4, lng pn), (5, ia ri), (6, ia lf), (7, ia wa), (8, ia fo), (9, lng dn), (10, ia ha), (11, ia pa), (12, ia bl)]) rfl rfl rfl l3 m3 (by decide) rfl hlen rfl rfl rfl ?_
  refine RT_step (pc2 := 102) rfl (fun _ _ => rfl) ?_
  refine ow_gf rfl rfl rfl hlen rfl ?_
  refine rt_ico rfl ki_0 ?_
  refine RT_step (pc2 := 107) rfl (fun _ _ => rfl) ?_
  refine ow_gf rfl rfl rfl hlen rfl ?_
  refine rt_ico rfl ki_0 ?_
  refine rt_bip rfl k8_7 ?_
  refine ow_cyI (m := 7) (l2 := [(133, dcl133 P Dn lw cl id gl bo), (134, lng pn), (135, ia ri), (136, ia lf), (137, ia wa), (138, ia fo2), (139, lng dn2), (140, ia ha2), (141, ia pa2), (142, ia bl2), (3, dcl3 P Dn lw cl id gl bo), (4, lng pn), (5, ia ri), (6, ia lf), (7, ia wa), (8, ia fo), (9, lng dn), (10, ia ha), (11, ia pa), (12, ia bl)]) rfl rfl rfl l4 m4 (by decide) rfl hlen rfl rfl rfl ?_
  refine RT_step (pc2 := 117) rfl (fun _ _ => rfl) ?_
  refine ow_gf rfl rfl rfl hlen rfl ?_
  refine rt_ico rfl ki_0 ?_
  refine RT_step (pc2 := 122) rfl (fun _ _ => rfl) ?_
  refine ow_gf rfl rfl rfl hlen rfl ?_
  refine rt_ico rfl ki_0 ?_
  refine rt_bip rfl k8_49 ?_
  refine ow_cyI (m := 49) (l2 := [(133, dcl133 P Dn lw cl id gl bo), (134, lng pn), (135, ia ri), (136, ia lf), (137, ia wa), (138, ia fo), (139, lng dn2), (140, ia ha2), (141, ia pa2), (142, ia bl2), (3, dcl3 P Dn lw cl id gl bo), (4, lng pn), (5, ia ri), (6, ia lf), (7, ia wa), (8, ia fo), (9, lng dn), (10, ia ha), (11, ia pa), (12, ia bl)]) rfl rfl rfl l5 m5 (by decide) rfl hlen rfl rfl rfl ?_
  refine RT_step (pc2 := 132) rfl (fun _ _ => rfl) ?_
  refine ow_gf rfl rfl rfl hlen rfl ?_
  refine rt_ico rfl ki_0 ?_
  refine RT_step (pc2 := 137) rfl (fun _ _ => rfl) ?_
  refine ow_gf rfl rfl rfl hlen rfl ?_
  refine rt_ico rfl ki_0 ?_
  refine rt_bip rfl k8_8 ?_
  refine ow_cyL (m := 8) (l2 := [(133, dcl133 P Dn lw cl id gl bo), (134, lng pn), (135, ia ri), (136, ia lf), (137, ia wa), (138, ia fo), (139, lng dn), (140, ia ha2), (141, ia pa2), (142, ia bl2), (3, dcl3 P Dn lw cl id gl bo), (4, lng pn), (5, ia ri), (6, ia lf), (7, ia wa), (8, ia fo), (9, lng dn), (10, ia ha), (11, ia pa), (12, ia bl)]) rfl rfl rfl l6 m6 (by decide) rfl hlen rfl rfl rfl ?_
  refine RT_step (pc2 := 147) rfl (fun _ _ => rfl) ?_
  refine ow_gf rfl rfl rfl hlen rfl ?_
  refine rt_ico rfl ki_0 ?_
  refine RT_step (pc2 := 152) rfl (fun _ _ => rfl) ?_
  refine ow_gf rfl rfl rfl hlen rfl ?_
  refine rt_ico rfl ki_0 ?_
  refine rt_bip rfl k8_8 ?_
  refine ow_cyI (m := 8) (l2 := [(133, dcl133 P Dn lw cl id gl bo), (134, lng pn), (135, ia ri), (136, ia lf), (137, ia wa), (138, ia fo), (139, lng dn), (140, ia ha), (141, ia pa2), (142, ia bl2), (3, dcl3 P Dn lw cl id gl bo), (4, lng pn), (5, ia ri), (6, ia lf), (7, ia wa), (8, ia fo), (9, lng dn), (10, ia ha), (11, ia pa), (12, ia bl)]) rfl rfl rfl l7 m7 (by decide) rfl hlen rfl rfl rfl ?_
  refine RT_step (pc2 := 162) rfl (fun _ _ => rfl) ?_
  refine ow_gf rfl rfl rfl hlen rfl ?_
  refine rt_ico rfl ki_0 ?_
  refine RT_step (pc2 := 167) rfl (fun _ _ => rfl) ?_
  refine ow_gf rfl rfl rfl hlen rfl ?_
  refine rt_ico rfl ki_0 ?_
  refine rt_bip rfl k8_8 ?_
  refine ow_cyI (m := 8) (l2 := [(133, dcl133 P Dn lw cl id gl bo), (134, lng pn), (135, ia ri), (136, ia lf), (137, ia wa), (138, ia fo), (139, lng dn), (140, ia ha), (141, ia pa), (142, ia bl2), (3, dcl3 P Dn lw cl id gl bo), (4, lng pn), (5, ia ri), (6, ia lf), (7, ia wa), (8, ia fo), (9, lng dn), (10, ia ha), (11, ia pa), (12, ia bl)]) rfl rfl rfl l8 m8 (by decide) rfl hlen rfl rfl rfl ?_
  refine RT_step (pc2 := 177) rfl (fun _ _ => rfl) ?_
  refine ow_gf rfl rfl rfl hlen rfl ?_
  refine rt_ico rfl ki_0 ?_
  refine RT_step (pc2 := 182) rfl (fun _ _ => rfl) ?_
  refine ow_gf rfl rfl rfl hlen rfl ?_
  refine rt_ico rfl ki_0 ?_
  refine rt_bip rfl k8_8 ?_
  refine ow_cyI (m := 8) (l2 := [(133, dcl133 P Dn lw cl id gl bo), (134, lng pn), (135, ia ri), (136, ia lf), (137, ia wa), (138, ia fo), (139, lng dn), (140, ia ha), (141, ia pa), (142, ia bl), (3, dcl3 P Dn lw cl id gl bo), (4, lng pn), (5, ia ri), (6, ia lf), (7, ia wa), (8, ia fo), (9, lng dn), (10, ia ha), (11, ia pa), (12, ia bl)]) rfl rfl rfl l9 m9 (by decide) rfl hlen rfl rfl rfl ?_
  exact ow_ret rfl rfl rfl
theorem x_copy133_13 {H : List AE} (hlen : Nat.ble 204 H.length = true) {P : Nat} {Dn : Nat} {lw : Int32} {cl : Int32} {id : Int32} {gl : Nat} {bo : Nat} {pn : List Int64} {ri : List Int32} {lf : List Int32} {wa : List Int32} {fo : List Int32} {dn : List Int64} {ha : List Int32} {pa : List Int32} {bl : List Int32} {P2 : Nat} {Dn2 : Nat} {lw2 : Int32} {cl2 : Int32} {id2 : Int32} {gl2 : Nat} {bo2 : Nat} {pn2 : List Int64} {ri2 : List Int32} {lf2 : List Int32} {wa2 : List Int32} {fo2 : List Int32} {dn2 : List Int64} {ha2 : List Int32} {pa2 : List Int32} {bl2 : List Int32} (l : DL pn ri lf wa fo dn ha pa bl) (m : DL pn2 ri2 lf2 wa2 fo2 dn2 ha2 pa2 bl2) : FR 1 62 [.ref 133, .ref 13] (ov H [(133, dcl133 P2 Dn2 lw2 cl2 id2 gl2 bo2), (134, lng pn2), (135, ia ri2), (136, ia lf2), (137, ia wa2), (138, ia fo2), (139, lng dn2), (140, ia ha2), (141, ia pa2), (142, ia bl2), (13, dcl13 P Dn lw cl id gl bo), (14, lng pn), (15, ia ri), (16, ia lf), (17, ia wa), (18, ia fo), (19, lng dn), (20, ia ha), (21, ia pa), (22, ia bl)]) (none, ov (ov H [(133, dcl133 P2 Dn2 lw2 cl2 id2 gl2 bo2), (134, lng pn2), (135, ia ri2), (136, ia lf2), (137, ia wa2), (138, ia fo2), (139, lng dn2), (140, ia ha2), (141, ia pa2), (142, ia bl2), (13, dcl13 P Dn lw cl id gl bo), (14, lng pn), (15, ia ri), (16, ia lf), (17, ia wa), (18, ia fo), (19, lng dn), (20, ia ha), (21, ia pa), (22, ia bl)]) [(133, dcl133 P Dn lw cl id gl bo), (134, lng pn), (135, ia ri), (136, ia lf), (137, ia wa), (138, ia fo), (139, lng dn), (140, ia ha), (141, ia pa), (142, ia bl), (13, dcl13 P Dn lw cl id gl bo), (14, lng pn), (15, ia ri), (16, ia lf), (17, ia wa), (18, ia fo), (19, lng dn), (20, ia ha), (21, ia pa), (22, ia bl)]) := by
  obtain ⟨l1, l2, l3, l4, l5, l6, l7, l8, l9⟩ := l
  obtain ⟨m1, m2, m3, m4, m5, m6, m7, m8, m9⟩ := m
  refine FR_st3 (l2 := [(133, dcl133 P Dn lw cl id gl bo), (134, lng pn), (135, ia ri), (136, ia lf), (137, ia wa), (138, ia fo), (139, lng dn), (140, ia ha), (141, ia pa), (142, ia bl), (13, dcl13 P Dn lw cl id gl bo), (14, lng pn), (15, ia ri), (16, ia lf), (17, ia wa), (18, ia fo), (19, lng dn), (20, ia ha), (21, ia pa), (22, ia bl)]) rfl rfl rfl ?_
  refine RT_step (pc2 := 1) rfl (fun _ _ => rfl) ?_
  refine RT_step (pc2 := 2) rfl (fun _ _ => rfl) ?_
  refine ow_gf rfl rfl rfl hlen rfl ?_
  refine ow_pf (l2 := [(133, dcl133 P Dn2 lw2 cl2 id2 gl2 bo2), (134, lng pn2), (135, ia ri2), (136, ia lf2), (137, ia wa2), (138, ia fo2), (139, lng dn2), (140, ia ha2), (141, ia pa2), (142, ia bl2), (13, dcl13 P Dn lw cl id gl bo), (14, lng pn), (15, ia ri), (16, ia lf), (17, ia wa), (18, ia fo), (19, lng dn), (20, ia ha), (21, ia pa), (22, ia bl)]) rfl rfl rfl rfl rfl hlen rfl rfl ?_
  refine RT_step (pc2 := 9) rfl (fun _ _ => rfl) ?_
  refine RT_step (pc2 := 10) rfl (fun _ _ => rfl) ?_
  refine ow_gf rfl rfl rfl hlen rfl ?_
  refine ow_pf (l2 := [(133, dcl133 P Dn lw2 cl2 id2 gl2 bo2), (134, lng pn2), (135, ia ri2), (136, ia lf2), (137, ia wa2), (138, ia fo2), (139, lng dn2), (140, ia ha2), (141, ia pa2), (142, ia bl2), (13, dcl13 P Dn lw cl id gl bo), (14, lng pn), (15, ia ri), (16, ia lf), (17, ia wa), (18, ia fo), (19, lng dn), (20, ia ha), (21, ia pa), (22, ia bl)]) rfl rfl rfl rfl rfl hlen rfl rfl ?_
  refine RT_step (pc2 := 17) rfl (fun _ _ => rfl) ?_
  refine RT_step (pc2 := 18) rfl (fun _ _ => rfl) ?_
  refine ow_gf rfl rfl rfl hlen rfl ?_
  refine ow_pf (l2 := [(133, dcl133 P Dn lw cl2 id2 gl2 bo2), (134, lng pn2), (135, ia ri2), (136, ia lf2), (137, ia wa2), (138, ia fo2), (139, lng dn2), (140, ia ha2), (141, ia pa2), (142, ia bl2), (13, dcl13 P Dn lw cl id gl bo), (14, lng pn), (15, ia ri), (16, ia lf), (17, ia wa), (18, ia fo), (19, lng dn), (20, ia ha), (21, ia pa), (22, ia bl)]) rfl rfl rfl rfl rfl hlen rfl rfl ?_
  refine RT_step (pc2 := 25) rfl (fun _ _ => rfl) ?_
  refine RT_step (pc2 := 26) rfl (fun _ _ => rfl) ?_
  refine ow_gf rfl rfl rfl hlen rfl ?_
  refine ow_pf (l2 := [(133, dcl133 P Dn lw cl id2 gl2 bo2), (134, lng pn2), (135, ia ri2), (136, ia lf2), (137, ia wa2), (138, ia fo2), (139, lng dn2), (140, ia ha2), (141, ia pa2), (142, ia bl2), (13, dcl13 P Dn lw cl id gl bo), (14, lng pn), (15, ia ri), (16, ia lf), (17, ia wa), (18, ia fo), (19, lng dn), (20, ia ha), (21, ia pa), (22, ia bl)]) rfl rfl rfl rfl rfl hlen rfl rfl ?_
  refine RT_step (pc2 := 33) rfl (fun _ _ => rfl) ?_
  refine RT_step (pc2 := 34) rfl (fun _ _ => rfl) ?_
  refine ow_gf rfl rfl rfl hlen rfl ?_
  refine ow_pf (l2 := [(133, dcl133 P Dn lw cl id gl2 bo2), (134, lng pn2), (135, ia ri2), (136, ia lf2), (137, ia wa2), (138, ia fo2), (139, lng dn2), (140, ia ha2), (141, ia pa2), (142, ia bl2), (13, dcl13 P Dn lw cl id gl bo), (14, lng pn), (15, ia ri), (16, ia lf), (17, ia wa), (18, ia fo), (19, lng dn), (20, ia ha), (21, ia pa), (22, ia bl)]) rfl rfl rfl rfl rfl hlen rfl rfl ?_
  refine RT_step (pc2 := 41) rfl (fun _ _ => rfl) ?_
  refine RT_step (pc2 := 42) rfl (fun _ _ => rfl) ?_
  refine ow_gf rfl rfl rfl hlen rfl ?_
  refine ow_pf (l2 := [(133, dcl133 P Dn lw cl id gl bo2), (134, lng pn2), (135, ia ri2), (136, ia lf2), (137, ia wa2), (138, ia fo2), (139, lng dn2), (140, ia ha2), (141, ia pa2), (142, ia bl2), (13, dcl13 P Dn lw cl id gl bo), (14, lng pn), (15, ia ri), (16, ia lf), (17, ia wa), (18, ia fo), (19, lng dn), (20, ia ha), (21, ia pa), (22, ia bl)]) rfl rfl rfl rfl rfl hlen rfl rfl ?_
  refine RT_step (pc2 := 49) rfl (fun _ _ => rfl) ?_
  refine RT_step (pc2 := 50) rfl (fun _ _ => rfl) ?_
  refine ow_gf rfl rfl rfl hlen rfl ?_
  refine ow_pf (l2 := [(133, dcl133 P Dn lw cl id gl bo), (134, lng pn2), (135, ia ri2), (136, ia lf2), (137, ia wa2), (138, ia fo2), (139, lng dn2), (140, ia ha2), (141, ia pa2), (142, ia bl2), (13, dcl13 P Dn lw cl id gl bo), (14, lng pn), (15, ia ri), (16, ia lf), (17, ia wa), (18, ia fo), (19, lng dn), (20, ia ha), (21, ia pa), (22, ia bl)]) rfl rfl rfl rfl rfl hlen rfl rfl ?_
  refine RT_step (pc2 := 57) rfl (fun _ _ => rfl) ?_
  refine ow_gf rfl rfl rfl hlen rfl ?_
  refine rt_ico rfl ki_0 ?_
  refine RT_step (pc2 := 62) rfl (fun _ _ => rfl) ?_
  refine ow_gf rfl rfl rfl hlen rfl ?_
  refine rt_ico rfl ki_0 ?_
  refine rt_bip rfl k8_7 ?_
  refine ow_cyL (m := 7) (l2 := [(133, dcl133 P Dn lw cl id gl bo), (134, lng pn), (135, ia ri2), (136, ia lf2), (137, ia wa2), (138, ia fo2), (139, lng dn2), (140, ia ha2), (141, ia pa2), (142, ia bl2), (13, dcl13 P Dn lw cl id gl bo), (14, lng pn), (15, ia ri), (16, ia lf), (17, ia wa), (18, ia fo), (19, lng dn), (20, ia ha), (21, ia pa), (22, ia bl)]) rfl rfl rfl l1 m1 (by decide) rfl hlen rfl rfl rfl ?_
  refine RT_step (pc2 := 72) rfl (fun _ _ => rfl) ?_
  refine ow_gf rfl rfl rfl hlen rfl ?_
  refine rt_ico rfl ki_0 ?_
  refine RT_step (pc2 := 77) rfl (fun _ _ => rfl) ?_
  refine ow_gf rfl rfl rfl hlen rfl ?_
  refine rt_ico rfl ki_0 ?_
  refine rt_bip rfl k8_7 ?_
  refine ow_cyI (m := 7) (l2 := [(133, dcl133 P Dn lw cl id gl bo), (134, lng pn), (135, ia ri), (136, ia lf2), (137, ia wa2), (138, ia fo2), (139, lng dn2), (140, ia ha2), (141, ia pa2), (142, ia bl2), (13, dcl13 P Dn lw cl id gl bo), (14, lng pn), (15, ia ri), (16, ia lf), (17, ia wa), (18, ia fo), (19, lng dn), (20, ia ha), (21, ia pa), (22, ia bl)]) rfl rfl rfl l2 m2 (by decide) rfl hlen rfl rfl rfl ?_
  refine RT_step (pc2 := 87) rfl (fun _ _ => rfl) ?_
  refine ow_gf rfl rfl rfl hlen rfl ?_
  refine rt_ico rfl ki_0 ?_
  refine RT_step (pc2 := 92) rfl (fun _ _ => rfl) ?_
  refine ow_gf rfl rfl rfl hlen rfl ?_
  refine rt_ico rfl ki_0 ?_
  refine rt_bip rfl k8_7 ?_
  refine ow_cyI (m := 7) (l2 := [(133, dcl133 P Dn lw cl id gl bo), (134, lng pn), (135, ia ri), (136, ia lf), (137, ia wa2), (138, ia fo2), (139, lng dn2), (140, ia ha2), (141, ia pa2), (142, ia bl2), (13, dcl13 P Dn lw cl id gl bo), (14, lng pn), (15, ia ri), (16, ia lf), (17, ia wa), (18, ia fo), (19, lng dn), (20, ia ha), (21, ia pa), (22, ia bl)]) rfl rfl rfl l3 m3 (by decide) rfl hlen rfl rfl rfl ?_
  refine RT_step (pc2 := 102) rfl (fun _ _ => rfl) ?_
  refine ow_gf rfl rfl rfl hlen rfl ?_
  refine rt_ico rfl ki_0 ?_
  refine RT_step (pc2 := 107) rfl (fun _ _ => rfl) ?_
  refine ow_gf rfl rfl rfl hlen rfl ?_
  refine rt_ico rfl ki_0 ?_
  refine rt_bip rfl k8_7 ?_
  refine ow_cyI (m := 7) (l2 := [(133, dcl133 P Dn lw cl id gl bo), (134, lng pn), (135, ia ri), (136, ia lf), (137, ia wa), (138, ia fo2), (139, lng dn2), (140, ia ha2), (141, ia pa2), (142, ia bl2), (13, dcl13 P Dn lw cl id gl bo), (14, lng pn), (15, ia ri), (16, ia lf), (17, ia wa), (18, ia fo), (19, lng dn), (20, ia ha), (21, ia pa), (22, ia bl)]) rfl rfl rfl l4 m4 (by decide) rfl hlen rfl rfl rfl ?_
  refine RT_step (pc2 := 117) rfl (fun _ _ => rfl) ?_
  refine ow_gf rfl rfl rfl hlen rfl ?_
  refine rt_ico rfl ki_0 ?_
  refine RT_step (pc2 := 122) rfl (fun _ _ => rfl) ?_
  refine ow_gf rfl rfl rfl hlen rfl ?_
  refine rt_ico rfl ki_0 ?_
  refine rt_bip rfl k8_49 ?_
  refine ow_cyI (m := 49) (l2 := [(133, dcl133 P Dn lw cl id gl bo), (134, lng pn), (135, ia ri), (136, ia lf), (137, ia wa), (138, ia fo), (139, lng dn2), (140, ia ha2), (141, ia pa2), (142, ia bl2), (13, dcl13 P Dn lw cl id gl bo), (14, lng pn), (15, ia ri), (16, ia lf), (17, ia wa), (18, ia fo), (19, lng dn), (20, ia ha), (21, ia pa), (22, ia bl)]) rfl rfl rfl l5 m5 (by decide) rfl hlen rfl rfl rfl ?_
  refine RT_step (pc2 := 132) rfl (fun _ _ => rfl) ?_
  refine ow_gf rfl rfl rfl hlen rfl ?_
  refine rt_ico rfl ki_0 ?_
  refine RT_step (pc2 := 137) rfl (fun _ _ => rfl) ?_
  refine ow_gf rfl rfl rfl hlen rfl ?_
  refine rt_ico rfl ki_0 ?_
  refine rt_bip rfl k8_8 ?_
  refine ow_cyL (m := 8) (l2 := [(133, dcl133 P Dn lw cl id gl bo), (134, lng pn), (135, ia ri), (136, ia lf), (137, ia wa), (138, ia fo), (139, lng dn), (140, ia ha2), (141, ia pa2), (142, ia bl2), (13, dcl13 P Dn lw cl id gl bo), (14, lng pn), (15, ia ri), (16, ia lf), (17, ia wa), (18, ia fo), (19, lng dn), (20, ia ha), (21, ia pa), (22, ia bl)]) rfl rfl rfl l6 m6 (by decide) rfl hlen rfl rfl rfl ?_
  refine RT_step (pc2 := 147) rfl (fun _ _ => rfl) ?_
  refine ow_gf rfl rfl rfl hlen rfl ?_
  refine rt_ico rfl ki_0 ?_
  refine RT_step (pc2 := 152) rfl (fun _ _ => rfl) ?_
  refine ow_gf rfl rfl rfl hlen rfl ?_
  refine rt_ico rfl ki_0 ?_
  refine rt_bip rfl k8_8 ?_
  refine ow_cyI (m := 8) (l2 := [(133, dcl133 P Dn lw cl id gl bo), (134, lng pn), (135, ia ri), (136, ia lf), (137, ia wa), (138, ia fo), (139, lng dn), (140, ia ha), (141, ia pa2), (142, ia bl2), (13, dcl13 P Dn lw cl id gl bo), (14, lng pn), (15, ia ri), (16, ia lf), (17, ia wa), (18, ia fo), (19, lng dn), (20, ia ha), (21, ia pa), (22, ia bl)]) rfl rfl rfl l7 m7 (by decide) rfl hlen rfl rfl rfl ?_
  refine RT_step (pc2 := 162) rfl (fun _ _ => rfl) ?_
  refine ow_gf rfl rfl rfl hlen rfl ?_
  refine rt_ico rfl ki_0 ?_
  refine RT_step (pc2 := 167) rfl (fun _ _ => rfl) ?_
  refine ow_gf rfl rfl rfl hlen rfl ?_
  refine rt_ico rfl ki_0 ?_
  refine rt_bip rfl k8_8 ?_
  refine ow_cyI (m := 8) (l2 := [(133, dcl133 P Dn lw cl id gl bo), (134, lng pn), (135, ia ri), (136, ia lf), (137, ia wa), (138, ia fo), (139, lng dn), (140, ia ha), (141, ia pa), (142, ia bl2), (13, dcl13 P Dn lw cl id gl bo), (14, lng pn), (15, ia ri), (16, ia lf), (17, ia wa), (18, ia fo), (19, lng dn), (20, ia ha), (21, ia pa), (22, ia bl)]) rfl rfl rfl l8 m8 (by decide) rfl hlen rfl rfl rfl ?_
  refine RT_step (pc2 := 177) rfl (fun _ _ => rfl) ?_
  refine ow_gf rfl rfl rfl hlen rfl ?_
  refine rt_ico rfl ki_0 ?_
  refine RT_step (pc2 := 182) rfl (fun _ _ => rfl) ?_
  refine ow_gf rfl rfl rfl hlen rfl ?_
  refine rt_ico rfl ki_0 ?_
  refine rt_bip rfl k8_8 ?_
  refine ow_cyI (m := 8) (l2 := [(133, dcl133 P Dn lw cl id gl bo), (134, lng pn), (135, ia ri), (136, ia lf), (137, ia wa), (138, ia fo), (139, lng dn), (140, ia ha), (141, ia pa), (142, ia bl), (13, dcl13 P Dn lw cl id gl bo), (14, lng pn), (15, ia ri), (16, ia lf), (17, ia wa), (18, ia fo), (19, lng dn), (20, ia ha), (21, ia pa), (22, ia bl)]) rfl rfl rfl l9 m9 (by decide) rfl hlen rfl rfl rfl ?_
  exact ow_ret rfl rfl rfl
theorem x_copy157_3 {H : List AE} (hlen : Nat.ble 204 H.length = true) {P : Nat} {Dn : Nat} {lw : Int32} {cl : Int32} {id : Int32} {gl : Nat} {bo : Nat} {pn : List Int64} {ri : List Int32} {lf : List Int32} {wa : List Int32} {fo : List Int32} {dn : List Int64} {ha : List Int32} {pa : List Int32} {bl : List Int32} {P2 : Nat} {Dn2 : Nat} {lw2 : Int32} {cl2 : Int32} {id2 : Int32} {gl2 : Nat} {bo2 : Nat} {pn2 : List Int64} {ri2 : List Int32} {lf2 : List Int32} {wa2 : List Int32} {fo2 : List Int32} {dn2 : List Int64} {ha2 : List Int32} {pa2 : List Int32} {bl2 : List Int32} (l : DL pn ri lf wa fo dn ha pa bl) (m : DL pn2 ri2 lf2 wa2 fo2 dn2 ha2 pa2 bl2) : FR 1 62 [.ref 157, .ref 3] (ov H [(157, dcl157 P2 Dn2 lw2 cl2 id2 gl2 bo2), (158, lng pn2), (159, ia ri2), (160, ia lf2), (161, ia wa2), (162, ia fo2), (163, lng dn2), (164, ia ha2), (165, ia pa2), (166, ia bl2), (3, dcl3 P Dn lw cl id gl bo), (4, lng pn), (5, ia ri), (6, ia lf), (7, ia wa), (8, ia fo), (9, lng dn), (10, ia ha), (11, ia pa), (12, ia bl)]) (none, ov (ov H [(157, dcl157 P2 Dn2 lw2 cl2 id2 gl2 bo2), (158, lng pn2), (159, ia ri2), (160, ia lf2), (161, ia wa2), (162, ia fo2), (163, lng dn2), (164, ia ha2), (165, ia pa2), (166, ia bl2), (3, dcl3 P Dn lw cl id gl bo), (4, lng pn), (5, ia ri), (6, ia lf), (7, ia wa), (8, ia fo), (9, lng dn), (10, ia ha), (11, ia pa), (12, ia bl)]) [(157, dcl157 P Dn lw cl id gl bo), (158, lng pn), (159, ia ri), (160, ia lf), (161, ia wa), (162, ia fo), (163, lng dn), (164, ia ha), (165, ia pa), (166, ia bl), (3, dcl3 P Dn lw cl id gl bo), (4, lng pn), (5, ia ri), (6, ia lf), (7, ia wa), (8, ia fo), (9, lng dn), (10, ia ha), (11, ia pa), (12, ia bl)]) := by
  obtain ⟨l1, l2, l3, l4, l5, l6, l7, l8, l9⟩ := l
  obtain ⟨m1, m2, m3, m4, m5, m6, m7, m8, m9⟩ := m
  refine FR_st3 (l2 := [(157, dcl157 P Dn lw cl id gl bo), (158, lng pn), (159, ia ri), (160, ia lf), (161, ia wa), (162, ia fo), (163, lng dn), (164, ia ha), (165, ia pa), (166, ia bl), (3, dcl3 P Dn lw cl id gl bo), (4, lng pn), (5, ia ri), (6, ia lf), (7, ia wa), (8, ia fo), (9, lng dn), (10, ia ha), (11, ia pa), (12, ia bl)]) rfl rfl rfl ?_
  refine RT_step (pc2 := 1) rfl (fun _ _ => rfl) ?_
  refine RT_step (pc2 := 2) rfl (fun _ _ => rfl) ?_
  refine ow_gf rfl rfl rfl hlen rfl ?_
  refine ow_pf (l2 := [(157, dcl157 P Dn2 lw2 cl2 id2 gl2 bo2), (158, lng pn2), (159, ia ri2), (160, ia lf2), (161, ia wa2), (162, ia fo2), (163, lng dn2), (164, ia ha2), (165, ia pa2), (166, ia bl2), (3, dcl3 P Dn lw cl id gl bo), (4, lng pn), (5, ia ri), (6, ia lf), (7, ia wa), (8, ia fo), (9, lng dn), (10, ia ha), (11, ia pa), (12, ia bl)]) rfl rfl rfl rfl rfl hlen rfl rfl ?_
  refine RT_step (pc2 := 9) rfl (fun _ _ => rfl) ?_
  refine RT_step (pc2 := 10) rfl (fun _ _ => rfl) ?_
  refine ow_gf rfl rfl rfl hlen rfl ?_
  refine ow_pf (l2 := [(157, dcl157 P Dn lw2 cl2 id2 gl2 bo2), (158, lng pn2), (159, ia ri2), (160, ia lf2), (161, ia wa2), (162, ia fo2), (163, lng dn2), (164, ia ha2), (165, ia pa2), (166, ia bl2), (3, dcl3 P Dn lw cl id gl bo), (4, lng pn), (5, ia ri), (6, ia lf), (7, ia wa), (8, ia fo), (9, lng dn), (10, ia ha), (11, ia pa), (12, ia bl)]) rfl rfl rfl rfl rfl hlen rfl rfl ?_
  refine RT_step (pc2 := 17) rfl (fun _ _ => rfl) ?_
  refine RT_step (pc2 := 18) rfl (fun _ _ => rfl) ?_
  refine ow_gf rfl rfl rfl hlen rfl ?_
  refine ow_pf (l2 := [(157, dcl157 P Dn lw cl2 id2 gl2 bo2), (158, lng pn2), (159, ia ri2), (160, ia lf2), (161, ia wa2), (162, ia fo2), (163, lng dn2), (164, ia ha2), (165, ia pa2), (166, ia bl2), (3, dcl3 P Dn lw cl id gl bo), (4, lng pn), (5, ia ri), (6, ia lf), (7, ia wa), (8, ia fo), (9, lng dn), (10, ia ha), (11, ia pa), (12, ia bl)]) rfl rfl rfl rfl rfl hlen rfl rfl ?_
  refine RT_step (pc2 := 25) rfl (fun _ _ => rfl) ?_
  refine RT_step (pc2 := 26) rfl (fun _ _ => rfl) ?_
  refine ow_gf rfl rfl rfl hlen rfl ?_
  refine ow_pf (l2 := [(157, dcl157 P Dn lw cl id2 gl2 bo2), (158, lng pn2), (159, ia ri2), (160, ia lf2), (161, ia wa2), (162, ia fo2), (163, lng dn2), (164, ia ha2), (165, ia pa2), (166, ia bl2), (3, dcl3 P Dn lw cl id gl bo), (4, lng pn), (5, ia ri), (6, ia lf), (7, ia wa), (8, ia fo), (9, lng dn), (10, ia ha), (11, ia pa), (12, ia bl)]) rfl rfl rfl rfl rfl hlen rfl rfl ?_
  refine RT_step (pc2 := 33) rfl (fun _ _ => rfl) ?_
  refine RT_step (pc2 := 34) rfl (fun _ _ => rfl) ?_
  refine ow_gf rfl rfl rfl hlen rfl ?_
  refine ow_pf (l2 := [(157, dcl157 P Dn lw cl id gl2 bo2), (158, lng pn2), (159, ia ri2), (160, ia lf2), (161, ia wa2), (162, ia fo2), (163, lng dn2), (164, ia ha2), (165, ia pa2), (166, ia bl2), (3, dcl3 P Dn lw cl id gl bo), (4, lng pn), (5, ia ri), (6, ia lf), (7, ia wa), (8, ia fo), (9, lng dn), (10, ia ha), (11, ia pa), (12, ia bl)]) rfl rfl rfl rfl rfl hlen rfl rfl ?_
  refine RT_step (pc2 := 41) rfl (fun _ _ => rfl) ?_
  refine RT_step (pc2 := 42) rfl (fun _ _ => rfl) ?_
  refine ow_gf rfl rfl rfl hlen rfl ?_
  refine ow_pf (l2 := [(157, dcl157 P Dn lw cl id gl bo2), (158, lng pn2), (159, ia ri2), (160, ia lf2), (161, ia wa2), (162, ia fo2), (163, lng dn2), (164, ia ha2), (165, ia pa2), (166, ia bl2), (3, dcl3 P Dn lw cl id gl bo), (4, lng pn), (5, ia ri), (6, ia lf), (7, ia wa), (8, ia fo), (9, lng dn), (10, ia ha), (11, ia pa), (12, ia bl)]) rfl rfl rfl rfl rfl hlen rfl rfl ?_
  refine RT_step (pc2 := 49) rfl (fun _ _ => rfl) ?_
  refine RT_step (pc2 := 50) rfl (fun _ _ => rfl) ?_
  refine ow_gf rfl rfl rfl hlen rfl ?_
  refine ow_pf (l2 := [(157, dcl157 P Dn lw cl id gl bo), (158, lng pn2), (159, ia ri2), (160, ia lf2), (161, ia wa2), (162, ia fo2), (163, lng dn2), (164, ia ha2), (165, ia pa2), (166, ia bl2), (3, dcl3 P Dn lw cl id gl bo), (4, lng pn), (5, ia ri), (6, ia lf), (7, ia wa), (8, ia fo), (9, lng dn), (10, ia ha), (11, ia pa), (12, ia bl)]) rfl rfl rfl rfl rfl hlen rfl rfl ?_
  refine RT_step (pc2 := 57) rfl (fun _ _ => rfl) ?_
  refine ow_gf rfl rfl rfl hlen rfl ?_
  refine rt_ico rfl ki_0 ?_
  refine RT_step (pc2 := 62) rfl (fun _ _ => rfl) ?_
  refine ow_gf rfl rfl rfl hlen rfl ?_
  refine rt_ico rfl ki_0 ?_
  refine rt_bip rfl k8_7 ?_
  refine ow_cyL (m := 7) (l2 := [(157, dcl157 P Dn lw cl id gl bo), (158, lng pn), (159, ia ri2), (160, ia lf2), (161, ia wa2), (162, ia fo2), (163, lng dn2), (164, ia ha2), (165, ia pa2), (166, ia bl2), (3, dcl3 P Dn lw cl id gl bo), (4, lng pn), (5, ia ri), (6, ia lf), (7, ia wa), (8, ia fo), (9, lng dn), (10, ia ha), (11, ia pa), (12, ia bl)]) rfl rfl rfl l1 m1 (by decide) rfl hlen rfl rfl rfl ?_
  refine RT_step (pc2 := 72) rfl (fun _ _ => rfl) ?_
  refine ow_gf rfl rfl rfl hlen rfl ?_
  refine rt_ico rfl ki_0 ?_
  refine RT_step (pc2 := 77) rfl (fun _ _ => rfl) ?_
  refine ow_gf rfl rfl rfl hlen rfl ?_
  refine rt_ico rfl ki_0 ?_
  refine rt_bip rfl k8_7 ?_
  refine ow_cyI (m := 7) (l2 := [(157, dcl157 P Dn lw cl id gl bo), (158, lng pn), (159, ia ri), (160, ia lf2), (161, ia wa2), (162, ia fo2), (163, lng dn2), (164, ia ha2), (165, ia pa2), (166, ia bl2), (3, dcl3 P Dn lw cl id gl bo), (4, lng pn), (5, ia ri), (6, ia lf), (7, ia wa), (8, ia fo), (9, lng dn), (10, ia ha), (11, ia pa), (12, ia bl)]) rfl rfl rfl l2 m2 (by decide) rfl hlen rfl rfl rfl ?_
  refine RT_step (pc2 := 87) rfl (fun _ _ => rfl) ?_
  refine ow_gf rfl rfl rfl hlen rfl ?_
  refine rt_ico rfl ki_0 ?_
  refine RT_step (pc2 := 92) rfl (fun _ _ => rfl) ?_
  refine ow_gf rfl rfl rfl hlen rfl ?_
  refine rt_ico rfl ki_0 ?_
  refine rt_bip rfl k8_7 ?_
  refine ow_cyI (m := 7) (l2 := [(157, dcl157 P Dn lw cl id gl bo), (158, lng pn), (159, ia ri), (160, ia lf), (161, ia wa2), (162, ia fo2), (163, lng dn2), (164, ia ha2), (165, ia pa2), (166, ia bl2), (3, dcl3 P Dn lw cl id gl bo), (4, lng pn), (5, ia ri), (6, ia lf), (7, ia wa), (8, ia fo), (9, lng dn), (10, ia ha), (11, ia pa), (12, ia bl)]) rfl rfl rfl l3 m3 (by decide) rfl hlen rfl rfl rfl ?_
  refine RT_step (pc2 := 102) rfl (fun _ _ => rfl) ?_
  refine ow_gf rfl rfl rfl hlen rfl ?_
  refine rt_ico rfl ki_0 ?_
  refine RT_step (pc2 := 107) rfl (fun _ _ => rfl) ?_
  refine ow_gf rfl rfl rfl hlen rfl ?_
  refine rt_ico rfl ki_0 ?_
  refine rt_bip rfl k8_7 ?_
  refine ow_cyI (m := 7) (l2 := [(157, dcl157 P Dn lw cl id gl bo), (158, lng pn), (159, ia ri), (160, ia lf), (161, ia wa), (162, ia fo2), (163, lng dn2), (164, ia ha2), (165, ia pa2), (166, ia bl2), (3, dcl3 P Dn lw cl id gl bo), (4, lng pn), (5, ia ri), (6, ia lf), (7, ia wa), (8, ia fo), (9, lng dn), (10, ia ha), (11, ia pa), (12, ia bl)]) rfl rfl rfl l4 m4 (by decide) rfl hlen rfl rfl rfl ?_
  refine RT_step (pc2 := 117) rfl (fun _ _ => rfl) ?_
  refine ow_gf rfl rfl rfl hlen rfl ?_
  refine rt_ico rfl ki_0 ?_
  refine RT_step (pc2 := 122) rfl (fun _ _ => rfl) ?_
  refine ow_gf rfl rfl rfl hlen rfl ?_
  refine rt_ico rfl ki_0 ?_
  refine rt_bip rfl k8_49 ?_
  refine ow_cyI (m := 49) (l2 := [(157, dcl157 P Dn lw cl id gl bo), (158, lng pn), (159, ia ri), (160, ia lf), (161, ia wa), (162, ia fo), (163, lng dn2), (164, ia ha2), (165, ia pa2), (166, ia bl2), (3, dcl3 P Dn lw cl id gl bo), (4, lng pn), (5, ia ri), (6, ia lf), (7, ia wa), (8, ia fo), (9, lng dn), (10, ia ha), (11, ia pa), (12, ia bl)]) rfl rfl rfl l5 m5 (by decide) rfl hlen rfl rfl rfl ?_
  refine RT_step (pc2 := 132) rfl (fun _ _ => rfl) ?_
  refine ow_gf rfl rfl rfl hlen rfl ?_
  refine rt_ico rfl ki_0 ?_
  refine RT_step (pc2 := 137) rfl (fun _ _ => rfl) ?_
  refine ow_gf rfl rfl rfl hlen rfl ?_
  refine rt_ico rfl ki_0 ?_
  refine rt_bip rfl k8_8 ?_
  refine ow_cyL (m := 8) (l2 := [(157, dcl157 P Dn lw cl id gl bo), (158, lng pn), (159, ia ri), (160, ia lf), (161, ia wa), (162, ia fo), (163, lng dn), (164, ia ha2), (165, ia pa2), (166, ia bl2), (3, dcl3 P Dn lw cl id gl bo), (4, lng pn), (5, ia ri), (6, ia lf), (7, ia wa), (8, ia fo), (9, lng dn), (10, ia ha), (11, ia pa), (12, ia bl)]) rfl rfl rfl l6 m6 (by decide) rfl hlen rfl rfl rfl ?_
  refine RT_step (pc2 := 147) rfl (fun _ _ => rfl) ?_
  refine ow_gf rfl rfl rfl hlen rfl ?_
  refine rt_ico rfl ki_0 ?_
  refine RT_step (pc2 := 152) rfl (fun _ _ => rfl) ?_
  refine ow_gf rfl rfl rfl hlen rfl ?_
  refine rt_ico rfl ki_0 ?_
  refine rt_bip rfl k8_8 ?_
  refine ow_cyI (m := 8) (l2 := [(157, dcl157 P Dn lw cl id gl bo), (158, lng pn), (159, ia ri), (160, ia lf), (161, ia wa), (162, ia fo), (163, lng dn), (164, ia ha), (165, ia pa2), (166, ia bl2), (3, dcl3 P Dn lw cl id gl bo), (4, lng pn), (5, ia ri), (6, ia lf), (7, ia wa), (8, ia fo), (9, lng dn), (10, ia ha), (11, ia pa), (12, ia bl)]) rfl rfl rfl l7 m7 (by decide) rfl hlen rfl rfl rfl ?_
  refine RT_step (pc2 := 162) rfl (fun _ _ => rfl) ?_
  refine ow_gf rfl rfl rfl hlen rfl ?_
  refine rt_ico rfl ki_0 ?_
  refine RT_step (pc2 := 167) rfl (fun _ _ => rfl) ?_
  refine ow_gf rfl rfl rfl hlen rfl ?_
  refine rt_ico rfl ki_0 ?_
  refine rt_bip rfl k8_8 ?_
  refine ow_cyI (m := 8) (l2 := [(157, dcl157 P Dn lw cl id gl bo), (158, lng pn), (159, ia ri), (160, ia lf), (161, ia wa), (162, ia fo), (163, lng dn), (164, ia ha), (165, ia pa), (166, ia bl2), (3, dcl3 P Dn lw cl id gl bo), (4, lng pn), (5, ia ri), (6, ia lf), (7, ia wa), (8, ia fo), (9, lng dn), (10, ia ha), (11, ia pa), (12, ia bl)]) rfl rfl rfl l8 m8 (by decide) rfl hlen rfl rfl rfl ?_
  refine RT_step (pc2 := 177) rfl (fun _ _ => rfl) ?_
  refine ow_gf rfl rfl rfl hlen rfl ?_
  refine rt_ico rfl ki_0 ?_
  refine RT_step (pc2 := 182) rfl (fun _ _ => rfl) ?_
  refine ow_gf rfl rfl rfl hlen rfl ?_
  refine rt_ico rfl ki_0 ?_
  refine rt_bip rfl k8_8 ?_
  refine ow_cyI (m := 8) (l2 := [(157, dcl157 P Dn lw cl id gl bo), (158, lng pn), (159, ia ri), (160, ia lf), (161, ia wa), (162, ia fo), (163, lng dn), (164, ia ha), (165, ia pa), (166, ia bl), (3, dcl3 P Dn lw cl id gl bo), (4, lng pn), (5, ia ri), (6, ia lf), (7, ia wa), (8, ia fo), (9, lng dn), (10, ia ha), (11, ia pa), (12, ia bl)]) rfl rfl rfl l9 m9 (by decide) rfl hlen rfl rfl rfl ?_
  exact ow_ret rfl rfl rfl
theorem x_copy157_13 {H : List AE} (hlen : Nat.ble 204 H.length = true) {P : Nat} {Dn : Nat} {lw : Int32} {cl : Int32} {id : Int32} {gl : Nat} {bo : Nat} {pn : List Int64} {ri : List Int32} {lf : List Int32} {wa : List Int32} {fo : List Int32} {dn : List Int64} {ha : List Int32} {pa : List Int32} {bl : List Int32} {P2 : Nat} {Dn2 : Nat} {lw2 : Int32} {cl2 : Int32} {id2 : Int32} {gl2 : Nat} {bo2 : Nat} {pn2 : List Int64} {ri2 : List Int32} {lf2 : List Int32} {wa2 : List Int32} {fo2 : List Int32} {dn2 : List Int64} {ha2 : List Int32} {pa2 : List Int32} {bl2 : List Int32} (l : DL pn ri lf wa fo dn ha pa bl) (m : DL pn2 ri2 lf2 wa2 fo2 dn2 ha2 pa2 bl2) : FR 1 62 [.ref 157, .ref 13] (ov H [(157, dcl157 P2 Dn2 lw2 cl2 id2 gl2 bo2), (158, lng pn2), (159, ia ri2), (160, ia lf2), (161, ia wa2), (162, ia fo2), (163, lng dn2), (164, ia ha2), (165, ia pa2), (166, ia bl2), (13, dcl13 P Dn lw cl id gl bo), (14, lng pn), (15, ia ri), (16, ia lf), (17, ia wa), (18, ia fo), (19, lng dn), (20, ia ha), (21, ia pa), (22, ia bl)]) (none, ov (ov H [(157, dcl157 P2 Dn2 lw2 cl2 id2 gl2 bo2), (158, lng pn2), (159, ia ri2), (160, ia lf2), (161, ia wa2), (162, ia fo2), (163, lng dn2), (164, ia ha2), (165, ia pa2), (166, ia bl2), (13, dcl13 P Dn lw cl id gl bo), (14, lng pn), (15, ia ri), (16, ia lf), (17, ia wa), (18, ia fo), (19, lng dn), (20, ia ha), (21, ia pa), (22, ia bl)]) [(157, dcl157 P Dn lw cl id gl bo), (158, lng pn), (159, ia ri), (160, ia lf), (161, ia wa), (162, ia fo), (163, lng dn), (164, ia ha), (165, ia pa), (166, ia bl), (13, dcl13 P Dn lw cl id gl bo), (14, lng pn), (15, ia ri), (16, ia lf), (17, ia wa), (18, ia fo), (19, lng dn), (20, ia ha), (21, ia pa), (22, ia bl)]) := by
  obtain ⟨l1, l2, l3, l4, l5, l6, l7, l8, l9⟩ := l
  obtain ⟨m1, m2, m3, m4, m5, m6, m7, m8, m9⟩ := m
  refine FR_st3 (l2 := [(157, dcl157 P Dn lw cl id gl bo), (158, lng pn), (159, ia ri), (160, ia lf), (161, ia wa), (162, ia fo), (163, lng dn), (164, ia ha), (165, ia pa), (166, ia bl), (13, dcl13 P Dn lw cl id gl bo), (14, lng pn), (15, ia ri), (16, ia lf), (17, ia wa), (18, ia fo), (19, lng dn), (20, ia ha), (21, ia pa), (22, ia bl)]) rfl rfl rfl ?_
  refine RT_step (pc2 := 1) rfl (fun _ _ => rfl) ?_
  refine RT_step (pc2 := 2) rfl (fun _ _ => rfl) ?_
  refine ow_gf rfl rfl rfl hlen rfl ?_
  refine ow_pf (l2 := [(157, dcl157 P Dn2 lw2 cl2 id2 gl2 bo2), (158, lng pn2), (159, ia ri2), (160, ia lf2), (161, ia wa2), (162, ia fo2), (163, lng dn2), (164, ia ha2), (165, ia pa2), (166, ia bl2), (13, dcl13 P Dn lw cl id gl bo), (14, lng pn), (15, ia ri), (16, ia lf), (17, ia wa), (18, ia fo), (19, lng dn), (20, ia ha), (21, ia pa), (22, ia bl)]) rfl rfl rfl rfl rfl hlen rfl rfl ?_
  refine RT_step (pc2 := 9) rfl (fun _ _ => rfl) ?_
  refine RT_step (pc2 := 10) rfl (fun _ _ => rfl) ?_
  refine ow_gf rfl rfl rfl hlen rfl ?_
  refine ow_pf (l2 := [(157, dcl157 P Dn lw2 cl2 id2 gl2 bo2), (158, lng pn2), (159, ia ri2), (160, ia lf2), (161, ia wa2), (162, ia fo2), (163, lng dn2), (164, ia ha2), (165, ia pa2), (166, ia bl2), (13, dcl13 P Dn lw cl id gl bo), (14, lng pn), (15, ia ri), (16, ia lf), (17, ia wa), (18, ia fo), (19, lng dn), (20, ia ha), (21, ia pa), (22, ia bl)]) rfl rfl rfl rfl rfl hlen rfl rfl ?_
  refine RT_step (pc2 := 17) rfl (fun _ _ => rfl) ?_
  refine RT_step (pc2 := 18) rfl (fun _ _ => rfl) ?_
  refine ow_gf rfl rfl rfl hlen rfl ?_
  refine ow_pf (l2 := [(157, dcl157 P Dn lw cl2 id2 gl2 bo2), (158, lng pn2), (159, ia ri2), (160, ia lf2), (161, ia wa2), (162, ia fo2), (163, lng dn2), (164, ia ha2), (165, ia pa2), (166, ia bl2), (13, dcl13 P Dn lw cl id gl bo), (14, lng pn), (15, ia ri), (16, ia lf), (17, ia wa), (18, ia fo), (19, lng dn), (20, ia ha), (21, ia pa), (22, ia bl)]) rfl rfl rfl rfl rfl hlen rfl rfl ?_
  refine RT_step (pc2 := 25) rfl (fun _ _ => rfl) ?_
  refine RT_step (pc2 := 26) rfl (fun _ _ => rfl) ?_
  refine ow_gf rfl rfl rfl hlen rfl ?_
  refine ow_pf (l2 := [(157, dcl157 P Dn lw cl id2 gl2 bo2), (158, lng pn2), (159, ia ri2), (160, ia lf2), (161, ia wa2), (162, ia fo2), (163, lng dn2), (164, ia ha2), (165, ia pa2), (166, ia bl2), (13, dcl13 P Dn lw cl id gl bo), (14, lng pn), (15, ia ri), (16, ia lf), (17, ia wa), (18, ia fo), (19, lng dn), (20, ia ha), (21, ia pa), (22, ia bl)]) rfl rfl rfl rfl rfl hlen rfl rfl ?_
  refine RT_step (pc2 := 33) rfl (fun _ _ => rfl) ?_
  refine RT_step (pc2 := 34) rfl (fun _ _ => rfl) ?_
  refine ow_gf rfl rfl rfl hlen rfl ?_
  refine ow_pf (l2 := [(157, dcl157 P Dn lw cl id gl2 bo2), (158, lng pn2), (159, ia ri2), (160, ia lf2), (161, ia wa2), (162, ia fo2), (163, lng dn2), (164, ia ha2), (165, ia pa2), (166, ia bl2), (13, dcl13 P Dn lw cl id gl bo), (14, lng pn), (15, ia ri), (16, ia lf), (17, ia wa), (18, ia fo), (19, lng dn), (20, ia ha), (21, ia pa), (22, ia bl)]) rfl rfl rfl rfl rfl hlen rfl rfl ?_
  refine RT_step (pc2 := 41) rfl (fun _ _ => rfl) ?_
  refine RT_step (pc2 := 42) rfl (fun _ _ => rfl) ?_
  refine ow_gf rfl rfl rfl hlen rfl ?_
  refine ow_pf (l2 := [(157, dcl157 P Dn lw cl id gl bo2), (158, lng pn2), (159, ia ri2), (160, ia lf2), (161, ia wa2), (162, ia fo2), (163, lng dn2), (164, ia ha2), (165, ia pa2), (166, ia bl2), (13, dcl13 P Dn lw cl id gl bo), (14, lng pn), (15, ia ri), (16, ia lf), (17, ia wa), (18, ia fo), (19, lng dn), (20, ia ha), (21, ia pa), (22, ia bl)]) rfl rfl rfl rfl rfl hlen rfl rfl ?_
  refine RT_step (pc2 := 49) rfl (fun _ _ => rfl) ?_
  refine RT_step (pc2 := 50) rfl (fun _ _ => rfl) ?_
  refine ow_gf rfl rfl rfl hlen rfl ?_
  refine ow_pf (l2 := [(157, dcl157 P Dn lw cl id gl bo), (158, lng pn2), (159, ia ri2), (160, ia lf2), (161, ia wa2), (162, ia fo2), (163, lng dn2), (164, ia ha2), (165, ia pa2), (166, ia bl2), (13, dcl13 P Dn lw cl id gl bo), (14, lng pn), (15, ia ri), (16, ia lf), (17, ia wa), (18, ia fo), (19, lng dn), (20, ia ha), (21, ia pa), (22, ia bl)]) rfl rfl rfl rfl rfl hlen rfl rfl ?_
  refine RT_step (pc2 := 57) rfl (fun _ _ => rfl) ?_
  refine ow_gf rfl rfl rfl hlen rfl ?_
  refine rt_ico rfl ki_0 ?_
  refine RT_step (pc2 := 62) rfl (fun _ _ => rfl) ?_
  refine ow_gf rfl rfl rfl hlen rfl ?_
  refine rt_ico rfl ki_0 ?_
  refine rt_bip rfl k8_7 ?_
  refine ow_cyL (m := 7) (l2 := [(157, dcl157 P Dn lw cl id gl bo), (158, lng pn), (159, ia ri2), (160, ia lf2), (161, ia wa2), (162, ia fo2), (163, lng dn2), (164, ia ha2), (165, ia pa2), (166, ia bl2), (13, dcl13 P Dn lw cl id gl bo), (14, lng pn), (15, ia ri), (16, ia lf), (17, ia wa), (18, ia fo), (19, lng dn), (20, ia ha), (21, ia pa), (22, ia bl)]) rfl rfl rfl l1 m1 (by decide) rfl hlen rfl rfl rfl ?_
  refine RT_step (pc2 := 72) rfl (fun _ _ => rfl) ?_
  refine ow_gf rfl rfl rfl hlen rfl ?_
  refine rt_ico rfl ki_0 ?_
  refine RT_step (pc2 := 77) rfl (fun _ _ => rfl) ?_
  refine ow_gf rfl rfl rfl hlen rfl ?_
  refine rt_ico rfl ki_0 ?_
  refine rt_bip rfl k8_7 ?_
  refine ow_cyI (m := 7) (l2 := [(157, dcl157 P Dn lw cl id gl bo), (158, lng pn), (159, ia ri), (160, ia lf2), (161, ia wa2), (162, ia fo2), (163, lng dn2), (164, ia ha2), (165, ia pa2), (166, ia bl2), (13, dcl13 P Dn lw cl id gl bo), (14, lng pn), (15, ia ri), (16, ia lf), (17, ia wa), (18, ia fo), (19, lng dn), (20, ia ha), (21, ia pa), (22, ia bl)]) rfl rfl rfl l2 m2 (by decide) rfl hlen rfl rfl rfl ?_
  refine RT_step (pc2 := 87) rfl (fun _ _ => rfl) ?_
  refine ow_gf rfl rfl rfl hlen rfl ?_
  refine rt_ico rfl ki_0 ?_
  refine RT_step (pc2 := 92) rfl (fun _ _ => rfl) ?_
  refine ow_gf rfl rfl rfl hlen rfl ?_
  refine rt_ico rfl ki_0 ?_
  refine rt_bip rfl k8_7 ?_
  refine ow_cyI (m := 7) (l2 := [(157, dcl157 P Dn lw cl id gl bo), (158, lng pn), (159, ia ri), (160, ia lf), (161, ia wa2), (162, ia fo2), (163, lng dn2), (164, ia ha2), (165, ia pa2), (166, ia bl2), (13, dcl13 P Dn lw cl id gl bo), (14, lng pn), (15, ia ri), (16, ia lf), (17, ia wa), (18, ia fo), (19, lng dn), (20, ia ha), (21, ia pa), (22, ia bl)]) rfl rfl rfl l3 m3 (by decide) rfl hlen rfl rfl rfl ?_
  refine RT_step (pc2 := 102) rfl (fun _ _ => rfl) ?_
  refine ow_gf rfl rfl rfl hlen rfl ?_
  refine rt_ico rfl ki_0 ?_
  refine RT_step (pc2 := 107) rfl (fun _ _ => rfl) ?_
  refine ow_gf rfl rfl rfl hlen rfl ?_
  refine rt_ico rfl ki_0 ?_
  refine rt_bip rfl k8_7 ?_
  refine ow_cyI (m := 7) (l2 := [(157, dcl157 P Dn lw cl id gl bo), (158, lng pn), (159, ia ri), (160, ia lf), (161, ia wa), (162, ia fo2), (163, lng dn2), (164, ia ha2), (165, ia pa2), (166, ia bl2), (13, dcl13 P Dn lw cl id gl bo), (14, lng pn), (15, ia ri), (16, ia lf), (17, ia wa), (18, ia fo), (19, lng dn), (20, ia ha), (21, ia pa), (22, ia bl)]) rfl rfl rfl l4 m4 (by decide) rfl hlen rfl rfl rfl ?_
  refine RT_step (pc2 := 117) rfl (fun _ _ => rfl) ?_
  refine ow_gf rfl rfl rfl hlen rfl ?_
  refine rt_ico rfl ki_0 ?_
  refine RT_step (pc2 := 122) rfl (fun _ _ => rfl) ?_
  refine ow_gf rfl rfl rfl hlen rfl ?_
  refine rt_ico rfl ki_0 ?_
  refine rt_bip rfl k8_49 ?_
  refine ow_cyI (m := 49) (l2 := [(157, dcl157 P Dn lw cl id gl bo), (158, lng pn), (159, ia ri), (160, ia lf), (161, ia wa), (162, ia fo), (163, lng dn2), (164, ia ha2), (165, ia pa2), (166, ia bl2), (13, dcl13 P Dn lw cl id gl bo), (14, lng pn), (15, ia ri), (16, ia lf), (17, ia wa), (18, ia fo), (19, lng dn), (20, ia ha), (21, ia pa), (22, ia bl)]) rfl rfl rfl l5 m5 (by decide) rfl hlen rfl rfl rfl ?_
  refine RT_step (pc2 := 132) rfl (fun _ _ => rfl) ?_
  refine ow_gf rfl rfl rfl hlen rfl ?_
  refine rt_ico rfl ki_0 ?_
  refine RT_step (pc2 := 137) rfl (fun _ _ => rfl) ?_
  refine ow_gf rfl rfl rfl hlen rfl ?_
  refine rt_ico rfl ki_0 ?_
  refine rt_bip rfl k8_8 ?_
  refine ow_cyL (m := 8) (l2 := [(157, dcl157 P Dn lw cl id gl bo), (158, lng pn), (159, ia ri), (160, ia lf), (161, ia wa), (162, ia fo), (163, lng dn), (164, ia ha2), (165, ia pa2), (166, ia bl2), (13, dcl13 P Dn lw cl id gl bo), (14, lng pn), (15, ia ri), (16, ia lf), (17, ia wa), (18, ia fo), (19, lng dn), (20, ia ha), (21, ia pa), (22, ia bl)]) rfl rfl rfl l6 m6 (by decide) rfl hlen rfl rfl rfl ?_
  refine RT_step (pc2 := 147) rfl (fun _ _ => rfl) ?_
  refine ow_gf rfl rfl rfl hlen rfl ?_
  refine rt_ico rfl ki_0 ?_
  refine RT_step (pc2 := 152) rfl (fun _ _ => rfl) ?_
  refine ow_gf rfl rfl rfl hlen rfl ?_
  refine rt_ico rfl ki_0 ?_
  refine rt_bip rfl k8_8 ?_
  refine ow_cyI (m := 8) (l2 := [(157, dcl157 P Dn lw cl id gl bo), (158, lng pn), (159, ia ri), (160, ia lf), (161, ia wa), (162, ia fo), (163, lng dn), (164, ia ha), (165, ia pa2), (166, ia bl2), (13, dcl13 P Dn lw cl id gl bo), (14, lng pn), (15, ia ri), (16, ia lf), (17, ia wa), (18, ia fo), (19, lng dn), (20, ia ha), (21, ia pa), (22, ia bl)]) rfl rfl rfl l7 m7 (by decide) rfl hlen rfl rfl rfl ?_
  refine RT_step (pc2 := 162) rfl (fun _ _ => rfl) ?_
  refine ow_gf rfl rfl rfl hlen rfl ?_
  refine rt_ico rfl ki_0 ?_
  refine RT_step (pc2 := 167) rfl (fun _ _ => rfl) ?_
  refine ow_gf rfl rfl rfl hlen rfl ?_
  refine rt_ico rfl ki_0 ?_
  refine rt_bip rfl k8_8 ?_
  refine ow_cyI (m := 8) (l2 := [(157, dcl157 P Dn lw cl id gl bo), (158, lng pn), (159, ia ri), (160, ia lf), (161, ia wa), (162, ia fo), (163, lng dn), (164, ia ha), (165, ia pa), (166, ia bl2), (13, dcl13 P Dn lw cl id gl bo), (14, lng pn), (15, ia ri), (16, ia lf), (17, ia wa), (18, ia fo), (19, lng dn), (20, ia ha), (21, ia pa), (22, ia bl)]) rfl rfl rfl l8 m8 (by decide) rfl hlen rfl rfl rfl ?_
  refine RT_step (pc2 := 177) rfl (fun _ _ => rfl) ?_
  refine ow_gf rfl rfl rfl hlen rfl ?_
  refine rt_ico rfl ki_0 ?_
  refine RT_step (pc2 := 182) rfl (fun _ _ => rfl) ?_
  refine ow_gf rfl rfl rfl hlen rfl ?_
  refine rt_ico rfl ki_0 ?_
  refine rt_bip rfl k8_8 ?_
  refine ow_cyI (m := 8) (l2 := [(157, dcl157 P Dn lw cl id gl bo), (158, lng pn), (159, ia ri), (160, ia lf), (161, ia wa), (162, ia fo), (163, lng dn), (164, ia ha), (165, ia pa), (166, ia bl), (13, dcl13 P Dn lw cl id gl bo), (14, lng pn), (15, ia ri), (16, ia lf), (17, ia wa), (18, ia fo), (19, lng dn), (20, ia ha), (21, ia pa), (22, ia bl)]) rfl rfl rfl l9 m9 (by decide) rfl hlen rfl rfl rfl ?_
  exact ow_ret rfl rfl rfl
theorem x_copy3_133 {H : List AE} (hlen : Nat.ble 204 H.length = true) {P : Nat} {Dn : Nat} {lw : Int32} {cl : Int32} {id : Int32} {gl : Nat} {bo : Nat} {pn : List Int64} {ri : List Int32} {lf : List Int32} {wa : List Int32} {fo : List Int32} {dn : List Int64} {ha : List Int32} {pa : List Int32} {bl : List Int32} {P2 : Nat} {Dn2 : Nat} {lw2 : Int32} {cl2 : Int32} {id2 : Int32} {gl2 : Nat} {bo2 : Nat} {pn2 : List Int64} {ri2 : List Int32} {lf2 : List Int32} {wa2 : List Int32} {fo2 : List Int32} {dn2 : List Int64} {ha2 : List Int32} {pa2 : List Int32} {bl2 : List Int32} (l : DL pn ri lf wa fo dn ha pa bl) (m : DL pn2 ri2 lf2 wa2 fo2 dn2 ha2 pa2 bl2) : FR 1 62 [.ref 3, .ref 133] (ov H [(3, dcl3 P2 Dn2 lw2 cl2 id2 gl2 bo2), (4, lng pn2), (5, ia ri2), (6, ia lf2), (7, ia wa2), (8, ia fo2), (9, lng dn2), (10, ia ha2), (11, ia pa2), (12, ia bl2), (133, dcl133 P Dn lw cl id gl bo), (134, lng pn), (135, ia ri), (136, ia lf), (137, ia wa), (138, ia fo), (139, lng dn), (140, ia ha), (141, ia pa), (142, ia bl)]) (none, ov (ov H [(3, dcl3 P2 Dn2 lw2 cl2 id2 gl2 bo2), (4, lng pn2), (5, ia ri2), (6, ia lf2), (7, ia wa2), (8, ia fo2), (9, lng dn2), (10, ia ha2), (11, ia pa2), (12, ia bl2), (133, dcl133 P Dn lw cl id gl bo), (134, lng pn), (135, ia ri), (136, ia lf), (137, ia wa), (138, ia fo), (139, lng dn), (140, ia ha), (141, ia pa), (142, ia bl)]) [(3, dcl3 P Dn lw cl id gl bo), (4, lng pn), (5, ia ri), (6, ia lf), (7, ia wa), (8, ia fo), (9, lng dn), (10, ia ha), (11, ia pa), (12, ia bl), (133, dcl133 P Dn lw cl id gl bo), (134, lng pn), (135, ia ri), (136, ia lf), (137, ia wa), (138, ia fo), (139, lng dn), (140, ia ha), (141, ia pa), (142, ia bl)]) := by
  obtain ⟨l1, l2, l3, l4, l5, l6, l7, l8, l9⟩ := l
  obtain ⟨m1, m2, m3, m4, m5, m6, m7, m8, m9⟩ := m
  refine FR_st3 (l2 := [(3, dcl3 P Dn lw cl id gl bo), (4, lng pn), (5, ia ri), (6, ia lf), (7, ia wa), (8, ia fo), (9, lng dn), (10, ia ha), (11, ia pa), (12, ia bl), (133, dcl133 P Dn lw cl id gl bo), (134, lng pn), (135, ia ri), (136, ia lf), (137, ia wa), (138, ia fo), (139, lng dn), (140, ia ha), (141, ia pa), (142, ia bl)]) rfl rfl rfl ?_
  refine RT_step (pc2 := 1) rfl (fun _ _ => rfl) ?_
  refine RT_step (pc2 := 2) rfl (fun _ _ => rfl) ?_
  refine ow_gf rfl rfl rfl hlen rfl ?_
  refine ow_pf (l2 := [(3, dcl3 P Dn2 lw2 cl2 id2 gl2 bo2), (4, lng pn2), (5, ia ri2), (6, ia lf2), (7, ia wa2), (8, ia fo2), (9, lng dn2), (10, ia ha2), (11, ia pa2), (12, ia bl2), (133, dcl133 P Dn lw cl id gl bo), (134, lng pn), (135, ia ri), (136, ia lf), (137, ia wa), (138, ia fo), (139, lng dn), (140, ia ha), (141, ia pa), (142, ia bl)]) rfl rfl rfl rfl rfl hlen rfl rfl ?_
  refine RT_step (pc2 := 9) rfl (fun _ _ => rfl) ?_
  refine RT_step (pc2 := 10) rfl (fun _ _ => rfl) ?_
  refine ow_gf rfl rfl rfl hlen rfl ?_
  refine ow_pf (l2 := [(3, dcl3 P Dn lw2 cl2 id2 gl2 bo2), (4, lng pn2), (5, ia ri2), (6, ia lf2), (7, ia wa2), (8, ia fo2), (9, lng dn2), (10, ia ha2), (11, ia pa2), (12, ia bl2), (133, dcl133 P Dn lw cl id gl bo), (134, lng pn), (135, ia ri), (136, ia lf), (137, ia wa), (138, ia fo), (139, lng dn), (140, ia ha), (141, ia pa), (142, ia bl)]) rfl rfl rfl rfl rfl hlen rfl rfl ?_
  refine RT_step (pc2 := 17) rfl (fun _ _ => rfl) ?_
  refine RT_step (pc2 := 18) rfl (fun _ _ => rfl) ?_
  refine ow_gf rfl rfl rfl hlen rfl ?_
  refine ow_pf (l2 := [(3, dcl3 P Dn lw cl2 id2 gl2 bo2), (4, lng pn2), (5, ia ri2), (6, ia lf2), (7, ia wa2), (8, ia fo2), (9, lng dn2), (10, ia ha2), (11, ia pa2), (12, ia bl2), (133, dcl133 P Dn lw cl id gl bo), (134, lng pn), (135, ia ri), (136, ia lf), (137, ia wa), (138, ia fo), (139, lng dn), (140, ia ha), (141, ia pa), (142, ia bl)]) rfl rfl rfl rfl rfl hlen rfl rfl ?_
  refine RT_step (pc2 := 25) rfl (fun _ _ => rfl) ?_
  refine RT_step (pc2 := 26) rfl (fun _ _ => rfl) ?_
  refine ow_gf rfl rfl rfl hlen rfl ?_
  refine ow_pf (l2 := [(3, dcl3 P Dn lw cl id2 gl2 bo2), (4, lng pn2), (5, ia ri2), (6, ia lf2), (7, ia wa2), (8, ia fo2), (9, lng dn2), (10, ia ha2), (11, ia pa2), (12, ia bl2), (133, dcl133 P Dn lw cl id gl bo), (134, lng pn), (135, ia ri), (136, ia lf), (137, ia wa), (138, ia fo), (139, lng dn), (140, ia ha), (141, ia pa), (142, ia bl)]) rfl rfl rfl rfl rfl hlen rfl rfl ?_
  refine RT_step (pc2 := 33) rfl (fun _ _ => rfl) ?_
  refine RT_step (pc2 := 34) rfl (fun _ _ => rfl) ?_
  refine ow_gf rfl rfl rfl hlen rfl ?_
  refine ow_pf (l2 := [(3, dcl3 P Dn lw cl id gl2 bo2), (4, lng pn2), (5, ia ri2), (6, ia lf2), (7, ia wa2), (8, ia fo2), (9, lng dn2), (10, ia ha2), (11, ia pa2), (12, ia bl2), (133, dcl133 P Dn lw cl id gl bo), (134, lng pn), (135, ia ri), (136, ia lf), (137, ia wa), (138, ia fo), (139, lng dn), (140, ia ha), (141, ia pa), (142, ia bl)]) rfl rfl rfl rfl rfl hlen rfl rfl ?_
  refine RT_step (pc2 := 41) rfl (fun _ _ => rfl) ?_
  refine RT_step (pc2 := 42) rfl (fun _ _ => rfl) ?_
  refine ow_gf rfl rfl rfl hlen rfl ?_
  refine ow_pf (l2 := [(3, dcl3 P Dn lw cl id gl bo2), (4, lng pn2), (5, ia ri2), (6, ia lf2), (7, ia wa2), (8, ia fo2), (9, lng dn2), (10, ia ha2), (11, ia pa2), (12, ia bl2), (133, dcl133 P Dn lw cl id gl bo), (134, lng pn), (135, ia ri), (136, ia lf), (137, ia wa), (138, ia fo), (139, lng dn), (140, ia ha), (141, ia pa), (142, ia bl)]) rfl rfl rfl rfl rfl hlen rfl rfl ?_
  refine RT_step (pc2 := 49) rfl (fun _ _ => rfl) ?_
  refine RT_step (pc2 := 50) rfl (fun _ _ => rfl) ?_
  refine ow_gf rfl rfl rfl hlen rfl ?_
  refine ow_pf (l2 := [(3, dcl3 P Dn lw cl id gl bo), (4, lng pn2), (5, ia ri2), (6, ia lf2), (7, ia wa2), (8, ia fo2), (9, lng dn2), (10, ia ha2), (11, ia pa2), (12, ia bl2), (133, dcl133 P Dn lw cl id gl bo), (134, lng pn), (135, ia ri), (136, ia lf), (137, ia wa), (138, ia fo), (139, lng dn), (140, ia ha), (141, ia pa), (142, ia bl)]) rfl rfl rfl rfl rfl hlen rfl rfl ?_
  refine RT_step (pc2 := 57) rfl (fun _ _ => rfl) ?_
  refine ow_gf rfl rfl rfl hlen rfl ?_
  refine rt_ico rfl ki_0 ?_
  refine RT_step (pc2 := 62) rfl (fun _ _ => rfl) ?_
  refine ow_gf rfl rfl rfl hlen rfl ?_
  refine rt_ico rfl ki_0 ?_
  refine rt_bip rfl k8_7 ?_
  refine ow_cyL (m := 7) (l2 := [(3, dcl3 P Dn lw cl id gl bo), (4, lng pn), (5, ia ri2), (6, ia lf2), (7, ia wa2), (8, ia fo2), (9, lng dn2), (10, ia ha2), (11, ia pa2), (12, ia bl2), (133, dcl133 P Dn lw cl id gl bo), (134, lng pn), (135, ia ri), (136, ia lf), (137, ia wa), (138, ia fo), (139, lng dn), (140, ia ha), (141, ia pa), (142, ia bl)]) rfl rfl rfl l1 m1 (by decide) rfl hlen rfl rfl rfl ?_
  refine RT_step (pc2 := 72) rfl (fun _ _ => rfl) ?_
  refine ow_gf rfl rfl rfl hlen rfl ?_
  refine rt_ico rfl ki_0 ?_
  refine RT_step (pc2 := 77) rfl (fun _ _ => rfl) ?_
  refine ow_gf rfl rfl rfl hlen rfl ?_
  refine rt_ico rfl ki_0 ?_
  refine rt_bip rfl k8_7 ?_
  refine ow_cyI (m := 7) (l2 := [(3, dcl3 P Dn lw cl id gl bo), (4, lng pn), (5, ia ri), (6, ia lf2), (7, ia wa2), (8, ia fo2), (9, lng dn2), (10, ia ha2), (11, ia pa2), (12, ia bl2), (133, dcl133 P Dn lw cl id gl bo), (134, lng pn), (135, ia ri), (136, ia lf), (137, ia wa), (138, ia fo), (139, lng dn), (140, ia ha), (141, ia pa), (142, ia bl)]) rfl rfl rfl l2 m2 (by decide) rfl hlen rfl rfl rfl ?_
  refine RT_step (pc2 := 87) rfl (fun _ _ => rfl) ?_
  refine ow_gf rfl rfl rfl hlen rfl ?_
  refine rt_ico rfl ki_0 ?_
  refine RT_step (pc2 := 92) rfl (fun _ _ => rfl) ?_
  refine ow_gf rfl rfl rfl hlen rfl ?_
  refine rt_ico rfl ki_0 ?_
  refine rt_bip rfl k8_7 ?_
  refine ow_cyI (m := 7) (l2 := [(3, dcl3 P Dn lw cl id gl bo), (4, lng pn), (5, ia ri), (6, ia lf), (7, ia wa2), (8, ia fo2), (9, lng dn2), (10, ia ha2), (11, ia pa2), (12, ia bl2), (133, dcl133 P Dn lw cl id gl bo), (134, lng pn), (135, ia ri), (136, ia lf), (137, ia wa), (138, ia fo), (139, lng dn), (140, ia ha), (141, ia pa), (142, ia bl)]) rfl rfl rfl l3 m3 (by decide) rfl hlen rfl rfl rfl ?_
  refine RT_step (pc2 := 102) rfl (fun _ _ => rfl) ?_
  refine ow_gf rfl rfl rfl hlen rfl ?_
  refine rt_ico rfl ki_0 ?_
  refine RT_step (pc2 := 107) rfl (fun _ _ => rfl) ?_
  refine ow_gf rfl rfl rfl hlen rfl ?_
  refine rt_ico rfl ki_0 ?_
  refine rt_bip rfl k8_7 ?_
  refine ow_cyI (m := 7) (l2 := [(3, dcl3 P Dn lw cl id gl bo), (4, lng pn), (5, ia ri), (6, ia lf), (7, ia wa), (8, ia fo2), (9, lng dn2), (10, ia ha2), (11, ia pa2), (12, ia bl2), (133, dcl133 P Dn lw cl id gl bo), (134, lng pn), (135, ia ri), (136, ia lf), (137, ia wa), (138, ia fo), (139, lng dn), (140, ia ha), (141, ia pa), (142, ia bl)]) rfl rfl rfl l4 m4 (by decide) rfl hlen rfl rfl rfl ?_
  refine RT_step (pc2 := 117) rfl (fun _ _ => rfl) ?_
  refine ow_gf rfl rfl rfl hlen rfl ?_
  refine rt_ico rfl ki_0 ?_
  refine RT_step (pc2 := 122) rfl (fun _ _ => rfl) ?_
  refine ow_gf rfl rfl rfl hlen rfl ?_
  refine rt_ico rfl ki_0 ?_
  refine rt_bip rfl k8_49 ?_
  refine ow_cyI (m := 49) (l2 := [(3, dcl3 P Dn lw cl id gl bo), (4, lng pn), (5, ia ri), (6, ia lf), (7, ia wa), (8, ia fo), (9, lng dn2), (10, ia ha2), (11, ia pa2), (12, ia bl2), (133, dcl133 P Dn lw cl id gl bo), (134, lng pn), (135, ia ri), (136, ia lf), (137, ia wa), (138, ia fo), (139, lng dn), (140, ia ha), (141, ia pa), (142, ia bl)]) rfl rfl rfl l5 m5 (by decide) rfl hlen rfl rfl rfl ?_
  refine RT_step (pc2 := 132) rfl (fun _ _ => rfl) ?_
  refine ow_gf rfl rfl rfl hlen rfl ?_
  refine rt_ico rfl ki_0 ?_
  refine RT_step (pc2 := 137) rfl (fun _ _ => rfl) ?_
  refine ow_gf rfl rfl rfl hlen rfl ?_
  refine rt_ico rfl ki_0 ?_
  refine rt_bip rfl k8_8 ?_
  refine ow_cyL (m := 8) (l2 := [(3, dcl3 P Dn lw cl id gl bo), (4, lng pn), (5, ia ri), (6, ia lf), (7, ia wa), (8, ia fo), (9, lng dn), (10, ia ha2), (11, ia pa2), (12, ia bl2), (133, dcl133 P Dn lw cl id gl bo), (134, lng pn), (135, ia ri), (136, ia lf), (137, ia wa), (138, ia fo), (139, lng dn), (140, ia ha), (141, ia pa), (142, ia bl)]) rfl rfl rfl l6 m6 (by decide) rfl hlen rfl rfl rfl ?_
  refine RT_step (pc2 := 147) rfl (fun _ _ => rfl) ?_
  refine ow_gf rfl rfl rfl hlen rfl ?_
  refine rt_ico rfl ki_0 ?_
  refine RT_step (pc2 := 152) rfl (fun _ _ => rfl) ?_
  refine ow_gf rfl rfl rfl hlen rfl ?_
  refine rt_ico rfl ki_0 ?_
  refine rt_bip rfl k8_8 ?_
  refine ow_cyI (m := 8) (l2 := [(3, dcl3 P Dn lw cl id gl bo), (4, lng pn), (5, ia ri), (6, ia lf), (7, ia wa), (8, ia fo), (9, lng dn), (10, ia ha), (11, ia pa2), (12, ia bl2), (133, dcl133 P Dn lw cl id gl bo), (134, lng pn), (135, ia ri), (136, ia lf), (137, ia wa), (138, ia fo), (139, lng dn), (140, ia ha), (141, ia pa), (142, ia bl)]) rfl rfl rfl l7 m7 (by decide) rfl hlen rfl rfl rfl ?_
  refine RT_step (pc2 := 162) rfl (fun _ _ => rfl) ?_
  refine ow_gf rfl rfl rfl hlen rfl ?_
  refine rt_ico rfl ki_0 ?_
  refine RT_step (pc2 := 167) rfl (fun _ _ => rfl) ?_
  refine ow_gf rfl rfl rfl hlen rfl ?_
  refine rt_ico rfl ki_0 ?_
  refine rt_bip rfl k8_8 ?_
  refine ow_cyI (m := 8) (l2 := [(3, dcl3 P Dn lw cl id gl bo), (4, lng pn), (5, ia ri), (6, ia lf), (7, ia wa), (8, ia fo), (9, lng dn), (10, ia ha), (11, ia pa), (12, ia bl2), (133, dcl133 P Dn lw cl id gl bo), (134, lng pn), (135, ia ri), (136, ia lf), (137, ia wa), (138, ia fo), (139, lng dn), (140, ia ha), (141, ia pa), (142, ia bl)]) rfl rfl rfl l8 m8 (by decide) rfl hlen rfl rfl rfl ?_
  refine RT_step (pc2 := 177) rfl (fun _ _ => rfl) ?_
  refine ow_gf rfl rfl rfl hlen rfl ?_
  refine rt_ico rfl ki_0 ?_
  refine RT_step (pc2 := 182) rfl (fun _ _ => rfl) ?_
  refine ow_gf rfl rfl rfl hlen rfl ?_
  refine rt_ico rfl ki_0 ?_
  refine rt_bip rfl k8_8 ?_
  refine ow_cyI (m := 8) (l2 := [(3, dcl3 P Dn lw cl id gl bo), (4, lng pn), (5, ia ri), (6, ia lf), (7, ia wa), (8, ia fo), (9, lng dn), (10, ia ha), (11, ia pa), (12, ia bl), (133, dcl133 P Dn lw cl id gl bo), (134, lng pn), (135, ia ri), (136, ia lf), (137, ia wa), (138, ia fo), (139, lng dn), (140, ia ha), (141, ia pa), (142, ia bl)]) rfl rfl rfl l9 m9 (by decide) rfl hlen rfl rfl rfl ?_
  exact ow_ret rfl rfl rfl
theorem x_copy3_157 {H : List AE} (hlen : Nat.ble 204 H.length = true) {P : Nat} {Dn : Nat} {lw : Int32} {cl : Int32} {id : Int32} {gl : Nat} {bo : Nat} {pn : List Int64} {ri : List Int32} {lf : List Int32} {wa : List Int32} {fo : List Int32} {dn : List Int64} {ha : List Int32} {pa : List Int32} {bl : List Int32} {P2 : Nat} {Dn2 : Nat} {lw2 : Int32} {cl2 : Int32} {id2 : Int32} {gl2 : Nat} {bo2 : Nat} {pn2 : List Int64} {ri2 : List Int32} {lf2 : List Int32} {wa2 : List Int32} {fo2 : List Int32} {dn2 : List Int64} {ha2 : List Int32} {pa2 : List Int32} {bl2 : List Int32} (l : DL pn ri lf wa fo dn ha pa bl) (m : DL pn2 ri2 lf2 wa2 fo2 dn2 ha2 pa2 bl2) : FR 1 62 [.ref 3, .ref 157] (ov H [(3, dcl3 P2 Dn2 lw2 cl2 id2 gl2 bo2), (4, lng pn2), (5, ia ri2), (6, ia lf2), (7, ia wa2), (8, ia fo2), (9, lng dn2), (10, ia ha2), (11, ia pa2), (12, ia bl2), (157, dcl157 P Dn lw cl id gl bo), (158, lng pn), (159, ia ri), (160, ia lf), (161, ia wa), (162, ia fo), (163, lng dn), (164, ia ha), (165, ia pa), (166, ia bl)]) (none, ov (ov H [(3, dcl3 P2 Dn2 lw2 cl2 id2 gl2 bo2), (4, lng pn2), (5, ia ri2), (6, ia lf2), (7, ia wa2), (8, ia fo2), (9, lng dn2), (10, ia ha2), (11, ia pa2), (12, ia bl2), (157, dcl157 P Dn lw cl id gl bo), (158, lng pn), (159, ia ri), (160, ia lf), (161, ia wa), (162, ia fo), (163, lng dn), (164, ia ha), (165, ia pa), (166, ia bl)]) [(3, dcl3 P Dn lw cl id gl bo), (4, lng pn), (5, ia ri), (6, ia lf), (7, ia wa), (8, ia fo), (9, lng dn), (10, ia ha), (11, ia pa), (12, ia bl), (157, dcl157 P Dn lw cl id gl bo), (158, lng pn), (159, ia ri), (160, ia lf), (161, ia wa), (162, ia fo), (163, lng dn), (164, ia ha), (165, ia pa), (166, ia bl)]) := by
  obtain ⟨l1, l2, l3, l4, l5, l6, l7, l8, l9⟩ := l
  obtain ⟨m1, m2, m3, m4, m5, m6, m7, m8, m9⟩ := m
  refine FR_st3 (l2 := [(3, dcl3 P Dn lw cl id gl bo), (4, lng pn), (5, ia ri), (6, ia lf), (7, ia wa), (8, ia fo), (9, lng dn), (10, ia ha), (11, ia pa), (12, ia bl), (157, dcl157 P Dn lw cl id gl bo), (158, lng pn), (159, ia ri), (160, ia lf), (161, ia wa), (162, ia fo), (163, lng dn), (164, ia ha), (165, ia pa), (166, ia bl)]) rfl rfl rfl ?_
  refine RT_step (pc2 := 1) rfl (fun _ _ => rfl) ?_
  refine RT_step (pc2 := 2) rfl (fun _ _ => rfl) ?_
  refine ow_gf rfl rfl rfl hlen rfl ?_
  refine ow_pf (l2 := [(3, dcl3 P Dn2 lw2 cl2 id2 gl2 bo2), (4, lng pn2), (5, ia ri2), (6, ia lf2), (7, ia wa2), (8, ia fo2), (9, lng dn2), (10, ia ha2), (11, ia pa2), (12, ia bl2), (157, dcl157 P Dn lw cl id gl bo), (158, lng pn), (159, ia ri), (160, ia lf), (161, ia wa), (162, ia fo), (163, lng dn), (164, ia ha), (165, ia pa), (166, ia bl)]) rfl rfl rfl rfl rfl hlen rfl rfl ?_
  refine RT_step (pc2 := 9) rfl (fun _ _ => rfl) ?_
  refine RT_step (pc2 := 10) rfl (fun _ _ => rfl) ?_
  refine ow_gf rfl rfl rfl hlen rfl ?_
  refine ow_pf (l2 := [(3, dcl3 P Dn lw2 cl2 id2 gl2 bo2), (4, lng pn2), (5, ia ri2), (6, ia lf2), (7, ia wa2), (8, ia fo2), (9, lng dn2), (10, ia ha2), (11, ia pa2), (12, ia bl2), (157, dcl157 P Dn lw cl id gl bo), (158, lng pn), (159, ia ri), (160, ia lf), (161, ia wa), (162, ia fo), (163, lng dn), (164, ia ha), (165, ia pa), (166, ia bl)]) rfl rfl rfl rfl rfl hlen rfl rfl ?_
  refine RT_step (pc2 := 17) rfl (fun _ _ => rfl) ?_
  refine RT_step (pc2 := 18) rfl (fun _ _ => rfl) ?_
  refine ow_gf rfl rfl rfl hlen rfl ?_
  refine ow_pf (l2 := [(3, dcl3 P Dn lw cl2 id2 gl2 bo2), (4, lng pn2), (5, ia ri2), (6, ia lf2), (7, ia wa2), (8, ia fo2), (9, lng dn2), (10, ia ha2), (11, ia pa2), (12, ia bl2), (157, dcl157 P Dn lw cl id gl bo), (158, lng pn), (159, ia ri), (160, ia lf), (161, ia wa), (162, ia fo), (163, lng dn), (164, ia ha), (165, ia pa), (166, ia bl)]) rfl rfl rfl rfl rfl hlen rfl rfl ?_
  refine RT_step (pc2 := 25) rfl (fun _ _ => rfl) ?_
  refine RT_step (pc2 := 26) rfl (fun _ _ => rfl) ?_
  refine ow_gf rfl rfl rfl hlen rfl ?_
  refine ow_pf (l2 := [(3, dcl3 P Dn lw cl id2 gl2 bo2), (4, lng pn2), (5, ia ri2), (6, ia lf2), (7, ia wa2), (8, ia fo2), (9, lng dn2), (10, ia ha2), (11, ia pa2), (12, ia bl2), (157, dcl157 P Dn lw cl id gl bo), (158, lng pn), (159, ia ri), (160, ia lf), (161, ia wa), (162, ia fo), (163, lng dn), (164, ia ha), (165, ia pa), (166, ia bl)]) rfl rfl rfl rfl rfl hlen rfl rfl ?_
  refine RT_step (pc2 := 33) rfl (fun _ _ => rfl) ?_
  refine RT_step (pc2 := 34) rfl (fun _ _ => rfl) ?_
  refine ow_gf rfl rfl rfl hlen rfl ?_
  refine ow_pf (l2 := [(3, dcl3 P Dn lw cl id gl2 bo2), (4, lng pn2), (5, ia ri2), (6, ia lf2), (7, ia wa2), (8, ia fo2), (9, lng dn2), (10, ia ha2), (11, ia pa2), (12, ia bl2), (157, dcl157 P Dn lw cl id gl bo), (158, lng pn), (159, ia ri), (160, ia lf), (161, ia wa), (162, ia fo), (163, lng dn), (164, ia ha), (165, ia pa), (166, ia bl)]) rfl rfl rfl rfl rfl hlen rfl rfl ?_
  refine RT_step (pc2 := 41) rfl (fun _ _ => rfl) ?_
  refine RT_step (pc2 := 42) rfl (fun _ _ => rfl) ?_
  refine ow_gf rfl rfl rfl hlen rfl ?_
  refine ow_pf (l2 := [(3, dcl3 P Dn lw cl id gl bo2), (4, lng pn2), (5, ia ri2), (6, ia lf2), (7, ia wa2), (8, ia fo2), (9, lng dn2), (10, ia ha2), (11, ia pa2), (12, ia bl2), (157, dcl157 P Dn lw cl id gl bo), (158, lng pn), (159, ia ri), (160, ia lf), (161, ia wa), (162, ia fo), (163, lng dn), (164, ia ha), (165, ia pa), (166, ia bl)]) rfl rfl rfl rfl rfl hlen rfl rfl ?_
  refine RT_step (pc2 := 49) rfl (fun _ _ => rfl) ?_
  refine RT_step (pc2 := 50) rfl (fun _ _ => rfl) ?_
  refine ow_gf rfl rfl rfl hlen rfl ?_
  refine ow_pf (l2 := [(3, dcl3 P Dn lw cl id gl bo), (4, lng pn2), (5, ia ri2), (6, ia lf2), (7, ia wa2), (8, ia fo2), (9, lng dn2), (10, ia ha2), (11, ia pa2), (12, ia bl2), (157, dcl157 P Dn lw cl id gl bo), (158, lng pn), (159, ia ri), (160, ia lf), (161, ia wa), (162, ia fo), (163, lng dn), (164, ia ha), (165, ia pa), (166, ia bl)]) rfl rfl rfl rfl rfl hlen rfl rfl ?_
  refine RT_step (pc2 := 57) rfl (fun _ _ => rfl) ?_
  refine ow_gf rfl rfl rfl hlen rfl ?_
  refine rt_ico rfl ki_0 ?_
  refine RT_step (pc2 := 62) rfl (fun _ _ => rfl) ?_
  refine ow_gf rfl rfl rfl hlen rfl ?_
  refine rt_ico rfl ki_0 ?_
  refine rt_bip rfl k8_7 ?_
  refine ow_cyL (m := 7) (l2 := [(3, dcl3 P Dn lw cl id gl bo), (4, lng pn), (5, ia ri2), (6, ia lf2), (7, ia wa2), (8, ia fo2), (9, lng dn2), (10, ia ha2), (11, ia pa2), (12, ia bl2), (157, dcl157 P Dn lw cl id gl bo), (158, lng pn), (159, ia ri), (160, ia lf), (161, ia wa), (162, ia fo), (163, lng dn), (164, ia ha), (165, ia pa), (166, ia bl)]) rfl rfl rfl l1 m1 (by decide) rfl hlen rfl rfl rfl ?_
  refine RT_step (pc2 := 72) rfl (fun _ _ => rfl) ?_
  refine ow_gf rfl rfl rfl hlen rfl ?_
  refine rt_ico rfl ki_0 ?_
  refine RT_step (pc2 := 77) rfl (fun _ _ => rfl) ?_
  refine ow_gf rfl rfl rfl hlen rfl ?_
  refine rt_ico rfl ki_0 ?_
  refine rt_bip rfl k8_7 ?_
  refine ow_cyI (m := 7) (l2 := [(3, dcl3 P Dn lw cl id gl bo), (4, lng pn), (5, ia ri), (6, ia lf2), (7, ia wa2), (8, ia fo2), (9, lng dn2), (10, ia ha2), (11, ia pa2), (12, ia bl2), (157, dcl157 P Dn lw cl id gl bo), (158, lng pn), (159, ia ri), (160, ia lf), (161, ia wa), (162, ia fo), (163, lng dn), (164, ia ha), (165, ia pa), (166, ia bl)]) rfl rfl rfl l2 m2 (by decide) rfl hlen rfl rfl rfl ?_
  refine RT_step (pc2 := 87) rfl (fun _ _ => rfl) ?_
  refine ow_gf rfl rfl rfl hlen rfl ?_
  refine rt_ico rfl ki_0 ?_
  refine RT_step (pc2 := 92) rfl (fun _ _ => rfl) ?_
  refine ow_gf rfl rfl rfl hlen rfl ?_
  refine rt_ico rfl ki_0 ?_
  refine rt_bip rfl k8_7 ?_
  refine ow_cyI (m := 7) (l2 := [(3, dcl3 P Dn lw cl id gl bo), (4, lng pn), (5, ia ri), (6, ia lf), (7, ia wa2), (8, ia fo2), (9, lng dn2), (10, ia ha2), (11, ia pa2), (12, ia bl2), (157, dcl157 P Dn lw cl id gl bo), (158, lng pn), (159, ia ri), (160, ia lf), (161, ia wa), (162, ia fo), (163, lng dn), (164, ia ha), (165, ia pa), (166, ia bl)]) rfl rfl rfl l3 m3 (by decide) rfl hlen rfl rfl rfl ?_
  refine RT_step (pc2 := 102) rfl (fun _ _ => rfl) ?_
  refine ow_gf rfl rfl rfl hlen rfl ?_
  refine rt_ico rfl ki_0 ?_
  refine RT_step (pc2 := 107) rfl (fun _ _ => rfl) ?_
  refine ow_gf rfl rfl rfl hlen rfl ?_
  refine rt_ico rfl ki_0 ?_
  refine rt_bip rfl k8_7 ?_
  refine ow_cyI (m := 7) (l2 := [(3, dcl3 P Dn lw cl id gl bo), (4, lng pn), (5, ia ri), (6, ia lf), (7, ia wa), (8, ia fo2), (9, lng dn2), (10, ia ha2), (11, ia pa2), (12, ia bl2), (157, dcl157 P Dn lw cl id gl bo), (158, lng pn), (159, ia ri), (160, ia lf), (161, ia wa), (162, ia fo), (163, lng dn), (164, ia ha), (165, ia pa), (166, ia bl)]) rfl rfl rfl l4 m4 (by decide) rfl hlen rfl rfl rfl ?_
  refine RT_step (pc2 := 117) rfl (fun _ _ => rfl) ?_
  refine ow_gf rfl rfl rfl hlen rfl ?_
  refine rt_ico rfl ki_0 ?_
  refine RT_step (pc2 := 122) rfl (fun _ _ => rfl) ?_
  refine ow_gf rfl rfl rfl hlen rfl ?_
  refine rt_ico rfl ki_0 ?_
  refine rt_bip rfl k8_49 ?_
  refine ow_cyI (m := 49) (l2 := [(3, dcl3 P Dn lw cl id gl bo), (4, lng pn), (5, ia ri), (6, ia lf), (7, ia wa), (8, ia fo), (9, lng dn2), (10, ia ha2), (11, ia pa2), (12, ia bl2), (157, dcl157 P Dn lw cl id gl bo), (158, lng pn), (159, ia ri), (160, ia lf), (161, ia wa), (162, ia fo), (163, lng dn), (164, ia ha), (165, ia pa), (166, ia bl)]) rfl rfl rfl l5 m5 (by decide) rfl hlen rfl rfl rfl ?_
  refine RT_step (pc2 := 132) rfl (fun _ _ => rfl) ?_
  refine ow_gf rfl rfl rfl hlen rfl ?_
  refine rt_ico rfl ki_0 ?_
  refine RT_step (pc2 := 137) rfl (fun _ _ => rfl) ?_
  refine ow_gf rfl rfl rfl hlen rfl ?_
  refine rt_ico rfl ki_0 ?_
  refine rt_bip rfl k8_8 ?_
  refine ow_cyL (m := 8) (l2 := [(3, dcl3 P Dn lw cl id gl bo), (4, lng pn), (5, ia ri), (6, ia lf), (7, ia wa), (8, ia fo), (9, lng dn), (10, ia ha2), (11, ia pa2), (12, ia bl2), (157, dcl157 P Dn lw cl id gl bo), (158, lng pn), (159, ia ri), (160, ia lf), (161, ia wa), (162, ia fo), (163, lng dn), (164, ia ha), (165, ia pa), (166, ia bl)]) rfl rfl rfl l6 m6 (by decide) rfl hlen rfl rfl rfl ?_
  refine RT_step (pc2 := 147) rfl (fun _ _ => rfl) ?_
  refine ow_gf rfl rfl rfl hlen rfl ?_
  refine rt_ico rfl ki_0 ?_
  refine RT_step (pc2 := 152) rfl (fun _ _ => rfl) ?_
  refine ow_gf rfl rfl rfl hlen rfl ?_
  refine rt_ico rfl ki_0 ?_
  refine rt_bip rfl k8_8 ?_
  refine ow_cyI (m := 8) (l2 := [(3, dcl3 P Dn lw cl id gl bo), (4, lng pn), (5, ia ri), (6, ia lf), (7, ia wa), (8, ia fo), (9, lng dn), (10, ia ha), (11, ia pa2), (12, ia bl2), (157, dcl157 P Dn lw cl id gl bo), (158, lng pn), (159, ia ri), (160, ia lf), (161, ia wa), (162, ia fo), (163, lng dn), (164, ia ha), (165, ia pa), (166, ia bl)]) rfl rfl rfl l7 m7 (by decide) rfl hlen rfl rfl rfl ?_
  refine RT_step (pc2 := 162) rfl (fun _ _ => rfl) ?_
  refine ow_gf rfl rfl rfl hlen rfl ?_
  refine rt_ico rfl ki_0 ?_
  refine RT_step (pc2 := 167) rfl (fun _ _ => rfl) ?_
  refine ow_gf rfl rfl rfl hlen rfl ?_
  refine rt_ico rfl ki_0 ?_
  refine rt_bip rfl k8_8 ?_
  refine ow_cyI (m := 8) (l2 := [(3, dcl3 P Dn lw cl id gl bo), (4, lng pn), (5, ia ri), (6, ia lf), (7, ia wa), (8, ia fo), (9, lng dn), (10, ia ha), (11, ia pa), (12, ia bl2), (157, dcl157 P Dn lw cl id gl bo), (158, lng pn), (159, ia ri), (160, ia lf), (161, ia wa), (162, ia fo), (163, lng dn), (164, ia ha), (165, ia pa), (166, ia bl)]) rfl rfl rfl l8 m8 (by decide) rfl hlen rfl rfl rfl ?_
  refine RT_step (pc2 := 177) rfl (fun _ _ => rfl) ?_
  refine ow_gf rfl rfl rfl hlen rfl ?_
  refine rt_ico rfl ki_0 ?_
  refine RT_step (pc2 := 182) rfl (fun _ _ => rfl) ?_
  refine ow_gf rfl rfl rfl hlen rfl ?_
  refine rt_ico rfl ki_0 ?_
  refine rt_bip rfl k8_8 ?_
  refine ow_cyI (m := 8) (l2 := [(3, dcl3 P Dn lw cl id gl bo), (4, lng pn), (5, ia ri), (6, ia lf), (7, ia wa), (8, ia fo), (9, lng dn), (10, ia ha), (11, ia pa), (12, ia bl), (157, dcl157 P Dn lw cl id gl bo), (158, lng pn), (159, ia ri), (160, ia lf), (161, ia wa), (162, ia fo), (163, lng dn), (164, ia ha), (165, ia pa), (166, ia bl)]) rfl rfl rfl l9 m9 (by decide) rfl hlen rfl rfl rfl ?_
  exact ow_ret rfl rfl rfl
theorem x_copy13_133 {H : List AE} (hlen : Nat.ble 204 H.length = true) {P : Nat} {Dn : Nat} {lw : Int32} {cl : Int32} {id : Int32} {gl : Nat} {bo : Nat} {pn : List Int64} {ri : List Int32} {lf : List Int32} {wa : List Int32} {fo : List Int32} {dn : List Int64} {ha : List Int32} {pa : List Int32} {bl : List Int32} {P2 : Nat} {Dn2 : Nat} {lw2 : Int32} {cl2 : Int32} {id2 : Int32} {gl2 : Nat} {bo2 : Nat} {pn2 : List Int64} {ri2 : List Int32} {lf2 : List Int32} {wa2 : List Int32} {fo2 : List Int32} {dn2 : List Int64} {ha2 : List Int32} {pa2 : List Int32} {bl2 : List Int32} (l : DL pn ri lf wa fo dn ha pa bl) (m : DL pn2 ri2 lf2 wa2 fo2 dn2 ha2 pa2 bl2) : FR 1 62 [.ref 13, .ref 133] (ov H [(13, dcl13 P2 Dn2 lw2 cl2 id2 gl2 bo2), (14, lng pn2), (15, ia ri2), (16, ia lf2), (17, ia wa2), (18, ia fo2), (19, lng dn2), (20, ia ha2), (21, ia pa2), (22, ia bl2), (133, dcl133 P Dn lw cl id gl bo), (134, lng pn), (135, ia ri), (136, ia lf), (137, ia wa), (138, ia fo), (139, lng dn), (140, ia ha), (141, ia pa), (142, ia bl)]) (none, ov (ov H [(13, dcl13 P2 Dn2 lw2 cl2 id2 gl2 bo2), (14, lng pn2), (15, ia ri2), (16, ia lf2), (17, ia wa2), (18, ia fo2), (19, lng dn2), (20, ia ha2), (21, ia pa2), (22, ia bl2), (133, dcl133 P Dn lw cl id gl bo), (134, lng pn), (135, ia ri), (136, ia lf), (137, ia wa), (138, ia fo), (139, lng dn), (140, ia ha), (141, ia pa), (142, ia bl)]) [(13, dcl13 P Dn lw cl id gl bo), (14, lng pn), (15, ia ri), (16, ia lf), (17, ia wa), (18, ia fo), (19, lng dn), (20, ia ha), (21, ia pa), (22, ia bl), (133, dcl133 P Dn lw cl id gl bo), (134, lng pn), (135, ia ri), (136, ia lf), (137, ia wa), (138, ia fo), (139, lng dn), (140, ia ha), (141, ia pa), (142, ia bl)]) := by
  obtain ⟨l1, l2, l3, l4, l5, l6, l7, l8, l9⟩ := l
  obtain ⟨m1, m2, m3, m4, m5, m6, m7, m8, m9⟩ := m
  refine FR_st3 (l2 := [(13, dcl13 P Dn lw cl id gl bo), (14, lng pn), (15, ia ri), (16, ia lf), (17, ia wa), (18, ia fo), (19, lng dn), (20, ia ha), (21, ia pa), (22, ia bl), (133, dcl133 P Dn lw cl id gl bo), (134, lng pn), (135, ia ri), (136, ia lf), (137, ia wa), (138, ia fo), (139, lng dn), (140, ia ha), (141, ia pa), (142, ia bl)]) rfl rfl rfl ?_
  refine RT_step (pc2 := 1) rfl (fun _ _ => rfl) ?_
  refine RT_step (pc2 := 2) rfl (fun _ _ => rfl) ?_
  refine ow_gf rfl rfl rfl hlen rfl ?_
  refine ow_pf (l2 := [(13, dcl13 P Dn2 lw2 cl2 id2 gl2 bo2), (14, lng pn2), (15, ia ri2), (16, ia lf2), (17, ia wa2), (18, ia fo2), (19, lng dn2), (20, ia ha2), (21, ia pa2), (22, ia bl2), (133, dcl133 P Dn lw cl id gl bo), (134, lng pn), (135, ia ri), (136, ia lf), (137, ia wa), (138, ia fo), (139, lng dn), (140, ia ha), (141, ia pa), (142, ia bl)]) rfl rfl rfl rfl rfl hlen rfl rfl ?_
  refine RT_step (pc2 := 9) rfl (fun _ _ => rfl) ?_
  refine RT_step (pc2 := 10) rfl (fun _ _ => rfl) ?_
  refine ow_gf rfl rfl rfl hlen rfl ?_
  refine ow_pf (l2 := [(13, dcl13 P Dn lw2 cl2 id2 gl2 bo2), (14, lng pn2), (15, ia ri2), (16, ia lf2), (17, ia wa2), (18, ia fo2), (19, lng dn2), (20, ia ha2), (21, ia pa2), (22, ia bl2), (133, dcl133 P Dn lw cl id gl bo), (134, lng pn), (135, ia ri), (136, ia lf), (137, ia wa), (138, ia fo), (139, lng dn), (140, ia ha), (141, ia pa), (142, ia bl)]) rfl rfl rfl rfl rfl hlen rfl rfl ?_
  refine RT_step (pc2 := 17) rfl (fun _ _ => rfl) ?_
  refine RT_step (pc2 := 18) rfl (fun _ _ => rfl) ?_
  refine ow_gf rfl rfl rfl hlen rfl ?_
  refine ow_pf (l2 := [(13, dcl13 P Dn lw cl2 id2 gl2 bo2), (14, lng pn2), (15, ia ri2), (16, ia lf2), (17, ia wa2), (18, ia fo2), (19, lng dn2), (20, ia ha2), (21, ia pa2), (22, ia bl2), (133, dcl133 P Dn lw cl id gl bo), (134, lng pn), (135, ia ri), (136, ia lf), (137, ia wa), (138, ia fo), (139, lng dn), (140, ia ha), (141, ia pa), (142, ia bl)]) rfl rfl rfl rfl rfl hlen rfl rfl ?_
  refine RT_step (pc2 := 25) rfl (fun _ _ => rfl) ?_
  refine RT_step (pc2 := 26) rfl (fun _ _ => rfl) ?_
  refine ow_gf rfl rfl rfl hlen rfl ?_
  refine ow_pf (l2 := [(13, dcl13 P Dn lw cl id2 gl2 bo2), (14, lng pn2), (15, ia ri2), (16, ia lf2), (17, ia wa2), (18, ia fo2), (19, lng dn2), (20, ia ha2), (21, ia pa2), (22, ia bl2), (133, dcl133 P Dn lw cl id gl bo), (134, lng pn), (135, ia ri), (136, ia lf), (137, ia wa), (138, ia fo), (139, lng dn), (140, ia ha), (141, ia pa), (142, ia bl)]) rfl rfl rfl rfl rfl hlen rfl rfl ?_
  refine RT_step (pc2 := 33) rfl (fun _ _ => rfl) ?_
  refine RT_step (pc2 := 34) rfl (fun _ _ => rfl) ?_
  refine ow_gf rfl rfl rfl hlen rfl ?_
  refine ow_pf (l2 := [(13, dcl13 P Dn lw cl id gl2 bo2), (14, lng pn2), (15, ia ri2), (16, ia lf2), (17, ia wa2), (18, ia fo2), (19, lng dn2), (20, ia ha2), (21, ia pa2), (22, ia bl2), (133, dcl133 P Dn lw cl id gl bo), (134, lng pn), (135, ia ri), (136, ia lf), (137, ia wa), (138, ia fo), (139, lng dn), (140, ia ha), (141, ia pa), (142, ia bl)]) rfl rfl rfl rfl rfl hlen rfl rfl ?_
  refine RT_step (pc2 := 41) rfl (fun _ _ => rfl) ?_
  refine RT_step (pc2 := 42) rfl (fun _ _ => rfl) ?_
  refine ow_gf rfl rfl rfl hlen rfl ?_
  refine ow_pf (l2 := [(13, dcl13 P Dn lw cl id gl bo2), (14, lng pn2), (15, ia ri2), (16, ia lf2), (17, ia wa2), (18, ia fo2), (19, lng dn2), (20, ia ha2), (21, ia pa2), (22, ia bl2), (133, dcl133 P Dn lw cl id gl bo), (134, lng pn), (135, ia ri), (136, ia lf), (137, ia wa), (138, ia fo), (139, lng dn), (140, ia ha), (141, ia pa), (142, ia bl)]) rfl rfl rfl rfl rfl hlen rfl rfl ?_
  refine RT_step (pc2 := 49) rfl (fun _ _ => rfl) ?_
  refine RT_step (pc2 := 50) rfl (fun _ _ => rfl) ?_
  refine ow_gf rfl rfl rfl hlen rfl ?_
  refine ow_pf (l2 := [(13, dcl13 P Dn lw cl id gl bo), (14, lng pn2), (15, ia ri2), (16, ia lf2), (17, ia wa2), (18, ia fo2), (19, lng dn2), (20, ia ha2), (21, ia pa2), (22, ia bl2), (133, dcl133 P Dn lw cl id gl bo), (134, lng pn), (135, ia ri), (136, ia lf), (137, ia wa), (138, ia fo), (139, lng dn), (140, ia ha), (141, ia pa), (142, ia bl)]) rfl rfl rfl rfl rfl hlen rfl rfl ?_
  refine RT_step (pc2 := 57) rfl (fun _ _ => rfl) ?_
  refine ow_gf rfl rfl rfl hlen rfl ?_
  refine rt_ico rfl ki_0 ?_
  refine RT_step (pc2 := 62) rfl (fun _ _ => rfl) ?_
  refine ow_gf rfl rfl rfl hlen rfl ?_
  refine rt_ico rfl ki_0 ?_
  refine rt_bip rfl k8_7 ?_
  refine ow_cyL (m := 7) (l2 := [(13, dcl13 P Dn lw cl id gl bo), (14, lng pn), (15, ia ri2), (16, ia lf2), (17, ia wa2), (18, ia fo2), (19, lng dn2), (20, ia ha2), (21, ia pa2), (22, ia bl2), (133, dcl133 P Dn lw cl id gl bo), (134, lng pn), (135, ia ri), (136, ia lf), (137, ia wa), (138, ia fo), (139, lng dn), (140, ia ha), (141, ia pa), (142, ia bl)]) rfl rfl rfl l1 m1 (by decide) rfl hlen rfl rfl rfl ?_
  refine RT_step (pc2 := 72) rfl (fun _ _ => rfl) ?_
  refine ow_gf rfl rfl rfl hlen rfl ?_
  refine rt_ico rfl ki_0 ?_
  refine RT_step (pc2 := 77) rfl (fun _ _ => rfl) ?_
  refine ow_gf rfl rfl rfl hlen rfl ?_
  refine rt_ico rfl ki_0 ?_
  refine rt_bip rfl k8_7 ?_
  refine ow_cyI (m := 7) (l2 := [(13, dcl13 P Dn lw cl id gl bo), (14, lng pn), (15, ia ri), (16, ia lf2), (17, ia wa2), (18, ia fo2), (19, lng dn2), (20, ia ha2), (21, ia pa2), (22, ia bl2), (133, dcl133 P Dn lw cl id gl bo), (134, lng pn), (135, ia ri), (136, ia lf), (137, ia wa), (138, ia fo), (139, lng dn), (140, ia ha), (141, ia pa), (142, ia bl)]) rfl rfl rfl l2 m2 (by decide) rfl hlen rfl rfl rfl ?_
  refine RT_step (pc2 := 87) rfl (fun _ _ => rfl) ?_
  refine ow_gf rfl rfl rfl hlen rfl ?_
  refine rt_ico rfl ki_0 ?_
  refine RT_step (pc2 := 92) rfl (fun _ _ => rfl) ?_
  refine ow_gf rfl rfl rfl hlen rfl ?_
  refine rt_ico rfl ki_0 ?_
  refine rt_bip rfl k8_7 ?_
  refine ow_cyI (m := 7) (l2 := [(13, dcl13 P Dn lw cl id gl bo), (14, lng pn), (15, ia ri), (16, ia lf), (17, ia wa2), (18, ia fo2), (19, lng dn2), (20, ia ha2), (21, ia pa2), (22, ia bl2), (133, dcl133 P Dn lw cl id gl bo), (134, lng pn), (135, ia ri), (136, ia lf), (137, ia wa), (138, ia fo), (139, lng dn), (140, ia ha), (141, ia pa), (142, ia bl)]) rfl rfl rfl l3 m3 (by decide) rfl hlen rfl rfl rfl ?_
  refine RT_step (pc2 := 102) rfl (fun _ _ => rfl) ?_
  refine ow_gf rfl rfl rfl hlen rfl ?_
  refine rt_ico rfl ki_0 ?_
  refine RT_step (pc2 := 107) rfl (fun _ _ => rfl) ?_
  refine ow_gf rfl rfl rfl hlen rfl ?_
  refine rt_ico rfl ki_0 ?_
  refine rt_bip rfl k8_7 ?_
  refine ow_cyI (m := 7) (l2 := [(13, dcl13 P Dn lw cl id gl bo), (14, lng pn), (15, ia ri), (16, ia lf), (17, ia wa), (18, ia fo2), (19, lng dn2), (20, ia ha2), (21, ia pa2), (22, ia bl2), (133, dcl133 P Dn lw cl id gl bo), (134, lng pn), (135, ia ri), (136, ia lf), (137, ia wa), (138, ia fo), (139, lng dn), (140, ia ha), (141, ia pa), (142, ia bl)]) rfl rfl rfl l4 m4 (by decide) rfl hlen rfl rfl rfl ?_
  refine RT_step (pc2 := 117) rfl (fun _ _ => rfl) ?_
  refine ow_gf rfl rfl rfl hlen rfl ?_
  refine rt_ico rfl ki_0 ?_
  refine RT_step (pc2 := 122) rfl (fun _ _ => rfl) ?_
  refine ow_gf rfl rfl rfl hlen rfl ?_
  refine rt_ico rfl ki_0 ?_
  refine rt_bip rfl k8_49 ?_
  refine ow_cyI (m := 49) (l2 := [(13, dcl13 P Dn lw cl id gl bo), (14, lng pn), (15, ia ri), (16, ia lf), (17, ia wa), (18, ia fo), (19, lng dn2), (20, ia ha2), (21, ia pa2), (22, ia bl2), (133, dcl133 P Dn lw cl id gl bo), (134, lng pn), (135, ia ri), (136, ia lf), (137, ia wa), (138, ia fo), (139, lng dn), (140, ia ha), (141, ia pa), (142, ia bl)]) rfl rfl rfl l5 m5 (by decide) rfl hlen rfl rfl rfl ?_
  refine RT_step (pc2 := 132) rfl (fun _ _ => rfl) ?_
  refine ow_gf rfl rfl rfl hlen rfl ?_
  refine rt_ico rfl ki_0 ?_
  refine RT_step (pc2 := 137) rfl (fun _ _ => rfl) ?_
  refine ow_gf rfl rfl rfl hlen rfl ?_
  refine rt_ico rfl ki_0 ?_
  refine rt_bip rfl k8_8 ?_
  refine ow_cyL (m := 8) (l2 := [(13, dcl13 P Dn lw cl id gl bo), (14, lng pn), (15, ia ri), (16, ia lf), (17, ia wa), (18, ia fo), (19, lng dn), (20, ia ha2), (21, ia pa2), (22, ia bl2), (133, dcl133 P Dn lw cl id gl bo), (134, lng pn), (135, ia ri), (136, ia lf), (137, ia wa), (138, ia fo), (139, lng dn), (140, ia ha), (141, ia pa), (142, ia bl)]) rfl rfl rfl l6 m6 (by decide) rfl hlen rfl rfl rfl ?_
  refine RT_step (pc2 := 147) rfl (fun _ _ => rfl) ?_
  refine ow_gf rfl rfl rfl hlen rfl ?_
  refine rt_ico rfl ki_0 ?_
  refine RT_step (pc2 := 152) rfl (fun _ _ => rfl) ?_
  refine ow_gf rfl rfl rfl hlen rfl ?_
  refine rt_ico rfl ki_0 ?_
  refine rt_bip rfl k8_8 ?_
  refine ow_cyI (m := 8) (l2 := [(13, dcl13 P Dn lw cl id gl bo), (14, lng pn), (15, ia ri), (16, ia lf), (17, ia wa), (18, ia fo), (19, lng dn), (20, ia ha), (21, ia pa2), (22, ia bl2), (133, dcl133 P Dn lw cl id gl bo), (134, lng pn), (135, ia ri), (136, ia lf), (137, ia wa), (138, ia fo), (139, lng dn), (140, ia ha), (141, ia pa), (142, ia bl)]) rfl rfl rfl l7 m7 (by decide) rfl hlen rfl rfl rfl ?_
  refine RT_step (pc2 := 162) rfl (fun _ _ => rfl) ?_
  refine ow_gf rfl rfl rfl hlen rfl ?_
  refine rt_ico rfl ki_0 ?_
  refine RT_step (pc2 := 167) rfl (fun _ _ => rfl) ?_
  refine ow_gf rfl rfl rfl hlen rfl ?_
  refine rt_ico rfl ki_0 ?_
  refine rt_bip rfl k8_8 ?_
  refine ow_cyI (m := 8) (l2 := [(13, dcl13 P Dn lw cl id gl bo), (14, lng pn), (15, ia ri), (16, ia lf), (17, ia wa), (18, ia fo), (19, lng dn), (20, ia ha), (21, ia pa), (22, ia bl2), (133, dcl133 P Dn lw cl id gl bo), (134, lng pn), (135, ia ri), (136, ia lf), (137, ia wa), (138, ia fo), (139, lng dn), (140, ia ha), (141, ia pa), (142, ia bl)]) rfl rfl rfl l8 m8 (by decide) rfl hlen rfl rfl rfl ?_
  refine RT_step (pc2 := 177) rfl (fun _ _ => rfl) ?_
  refine ow_gf rfl rfl rfl hlen rfl ?_
  refine rt_ico rfl ki_0 ?_
  refine RT_step (pc2 := 182) rfl (fun _ _ => rfl) ?_
  refine ow_gf rfl rfl rfl hlen rfl ?_
  refine rt_ico rfl ki_0 ?_
  refine rt_bip rfl k8_8 ?_
  refine ow_cyI (m := 8) (l2 := [(13, dcl13 P Dn lw cl id gl bo), (14, lng pn), (15, ia ri), (16, ia lf), (17, ia wa), (18, ia fo), (19, lng dn), (20, ia ha), (21, ia pa), (22, ia bl), (133, dcl133 P Dn lw cl id gl bo), (134, lng pn), (135, ia ri), (136, ia lf), (137, ia wa), (138, ia fo), (139, lng dn), (140, ia ha), (141, ia pa), (142, ia bl)]) rfl rfl rfl l9 m9 (by decide) rfl hlen rfl rfl rfl ?_
  exact ow_ret rfl rfl rfl
theorem x_copy13_157 {H : List AE} (hlen : Nat.ble 204 H.length = true) {P : Nat} {Dn : Nat} {lw : Int32} {cl : Int32} {id : Int32} {gl : Nat} {bo : Nat} {pn : List Int64} {ri : List Int32} {lf : List Int32} {wa : List Int32} {fo : List Int32} {dn : List Int64} {ha : List Int32} {pa : List Int32} {bl : List Int32} {P2 : Nat} {Dn2 : Nat} {lw2 : Int32} {cl2 : Int32} {id2 : Int32} {gl2 : Nat} {bo2 : Nat} {pn2 : List Int64} {ri2 : List Int32} {lf2 : List Int32} {wa2 : List Int32} {fo2 : List Int32} {dn2 : List Int64} {ha2 : List Int32} {pa2 : List Int32} {bl2 : List Int32} (l : DL pn ri lf wa fo dn ha pa bl) (m : DL pn2 ri2 lf2 wa2 fo2 dn2 ha2 pa2 bl2) : FR 1 62 [.ref 13, .ref 157] (ov H [(13, dcl13 P2 Dn2 lw2 cl2 id2 gl2 bo2), (14, lng pn2), (15, ia ri2), (16, ia lf2), (17, ia wa2), (18, ia fo2), (19, lng dn2), (20, ia ha2), (21, ia pa2), (22, ia bl2), (157, dcl157 P Dn lw cl id gl bo), (158, lng pn), (159, ia ri), (160, ia lf), (161, ia wa), (162, ia fo), (163, lng dn), (164, ia ha), (165, ia pa), (166, ia bl)]) (none, ov (ov H [(13, dcl13 P2 Dn2 lw2 cl2 id2 gl2 bo2), (14, lng pn2), (15, ia ri2), (16, ia lf2), (17, ia wa2), (18, ia fo2), (19, lng dn2), (20, ia ha2), (21, ia pa2), (22, ia bl2), (157, dcl157 P Dn lw cl id gl bo), (158, lng pn), (159, ia ri), (160, ia lf), (161, ia wa), (162, ia fo), (163, lng dn), (164, ia ha), (165, ia pa), (166, ia bl)]) [(13, dcl13 P Dn lw cl id gl bo), (14, lng pn), (15, ia ri), (16, ia lf), (17, ia wa), (18, ia fo), (19, lng dn), (20, ia ha), (21, ia pa), (22, ia bl), (157, dcl157 P Dn lw cl id gl bo), (158, lng pn), (159, ia ri), (160, ia lf), (161, ia wa), (162, ia fo), (163, lng dn), (164, ia ha), (165, ia pa), (166, ia bl)]) := by
  obtain ⟨l1, l2, l3, l4, l5, l6, l7, l8, l9⟩ := l
  obtain ⟨m1, m2, m3, m4, m5, m6, m7, m8, m9⟩ := m
  refine FR_st3 (l2 := [(13, dcl13 P Dn lw cl id gl bo), (14, lng pn), (15, ia ri), (16, ia lf), (17, ia wa), (18, ia fo), (19, lng dn), (20, ia ha), (21, ia pa), (22, ia bl), (157, dcl157 P Dn lw cl id gl bo), (158, lng pn), (159, ia ri), (160, ia lf), (161, ia wa), (162, ia fo), (163, lng dn), (164, ia ha), (165, ia pa), (166, ia bl)]) rfl rfl rfl ?_
  refine RT_step (pc2 := 1) rfl (fun _ _ => rfl) ?_
  refine RT_step (pc2 := 2) rfl (fun _ _ => rfl) ?_
  refine ow_gf rfl rfl rfl hlen rfl ?_
  refine ow_pf (l2 := [(13, dcl13 P Dn2 lw2 cl2 id2 gl2 bo2), (14, lng pn2), (15, ia ri2), (16, ia lf2), (17, ia wa2), (18, ia fo2), (19, lng dn2), (20, ia ha2), (21, ia pa2), (22, ia bl2), (157, dcl157 P Dn lw cl id gl bo), (158, lng pn), (159, ia ri), (160, ia lf), (161, ia wa), (162, ia fo), (163, lng dn), (164, ia ha), (165, ia pa), (166, ia bl)]) rfl rfl rfl rfl rfl hlen rfl rfl ?_
  refine RT_step (pc2 := 9) rfl (fun _ _ => rfl) ?_
  refine RT_step (pc2 := 10) rfl (fun _ _ => rfl) ?_
  refine ow_gf rfl rfl rfl hlen rfl ?_
  refine ow_pf (l2 := [(13, dcl13 P Dn lw2 cl2 id2 gl2 bo2), (14, lng pn2), (15, ia ri2), (16, ia lf2), (17, ia wa2), (18, ia fo2), (19, lng dn2), (20, ia ha2), (21, ia pa2), (22, ia bl2), (157, dcl157 P Dn lw cl id gl bo), (158, lng pn), (159, ia ri), (160, ia lf), (161, ia wa), (162, ia fo), (163, lng dn), (164, ia ha), (165, ia pa), (166, ia bl)]) rfl rfl rfl rfl rfl hlen rfl rfl ?_
  refine RT_step (pc2 := 17) rfl (fun _ _ => rfl) ?_
  refine RT_step (pc2 := 18) rfl (fun _ _ => rfl) ?_
  refine ow_gf rfl rfl rfl hlen rfl ?_
  refine ow_pf (l2 := [(13, dcl13 P Dn lw cl2 id2 gl2 bo2), (14, lng pn2), (15, ia ri2), (16, ia lf2), (17, ia wa2), (18, ia fo2), (19, lng dn2), (20, ia ha2), (21, ia pa2), (22, ia bl2), (157, dcl157 P Dn lw cl id gl bo), (158, lng pn), (159, ia ri), (160, ia lf), (161, ia wa), (162, ia fo), (163, lng dn), (164, ia ha), (165, ia pa), (166, ia bl)]) rfl rfl rfl rfl rfl hlen rfl rfl ?_
  refine RT_step (pc2 := 25) rfl (fun _ _ => rfl) ?_
  refine RT_step (pc2 := 26) rfl (fun _ _ => rfl) ?_
  refine ow_gf rfl rfl rfl hlen rfl ?_
  refine ow_pf (l2 := [(13, dcl13 P Dn lw cl id2 gl2 bo2), (14, lng pn2), (15, ia ri2), (16, ia lf2), (17, ia wa2), (18, ia fo2), (19, lng dn2), (20, ia ha2), (21, ia pa2), (22, ia bl2), (157, dcl157 P Dn lw cl id gl bo), (158, lng pn), (159, ia ri), (160, ia lf), (161, ia wa), (162, ia fo), (163, lng dn), (164, ia ha), (165, ia pa), (166, ia bl)]) rfl rfl rfl rfl rfl hlen rfl rfl ?_
  refine RT_step (pc2 := 33) rfl (fun _ _ => rfl) ?_
  refine RT_step (pc2 := 34) rfl (fun _ _ => rfl) ?_
  refine ow_gf rfl rfl rfl hlen rfl ?_
  refine ow_pf (l2 := [(13, dcl13 P Dn lw cl id gl2 bo2), (14, lng pn2), (15, ia ri2), (16, ia lf2), (17, ia wa2), (18, ia fo2), (19, lng dn2), (20, ia ha2), (21, ia pa2), (22, ia bl2), (157, dcl157 P Dn lw cl id gl bo), (158, lng pn), (159, ia ri), (160, ia lf), (161, ia wa), (162, ia fo), (163, lng dn), (164, ia ha), (165, ia pa), (166, ia bl)]) rfl rfl rfl rfl rfl hlen rfl rfl ?_
  refine RT_step (pc2 := 41) rfl (fun _ _ => rfl) ?_
  refine RT_step (pc2 := 42) rfl (fun _ _ => rfl) ?_
  refine ow_gf rfl rfl rfl hlen rfl ?_
  refine ow_pf (l2 := [(13, dcl13 P Dn lw cl id gl bo2), (14, lng pn2), (15, ia ri2), (16, ia lf2), (17, ia wa2), (18, ia fo2), (19, lng dn2), (20, ia ha2), (21, ia pa2), (22, ia bl2), (157, dcl157 P Dn lw cl id gl bo), (158, lng pn), (159, ia ri), (160, ia lf), (161, ia wa), (162, ia fo), (163, lng dn), (164, ia ha), (165, ia pa), (166, ia bl)]) rfl rfl rfl rfl rfl hlen rfl rfl ?_
  refine RT_step (pc2 := 49) rfl (fun _ _ => rfl) ?_
  refine RT_step (pc2 := 50) rfl (fun _ _ => rfl) ?_
  refine ow_gf rfl rfl rfl hlen rfl ?_
  refine ow_pf (l2 := [(13, dcl13 P Dn lw cl id gl bo), (14, lng pn2), (15, ia ri2), (16, ia lf2), (17, ia wa2), (18, ia fo2), (19, lng dn2), (20, ia ha2), (21, ia pa2), (22, ia bl2), (157, dcl157 P Dn lw cl id gl bo), (158, lng pn), (159, ia ri), (160, ia lf), (161, ia wa), (162, ia fo), (163, lng dn), (164, ia ha), (165, ia pa), (166, ia bl)]) rfl rfl rfl rfl rfl hlen rfl rfl ?_
  refine RT_step (pc2 := 57) rfl (fun _ _ => rfl) ?_
  refine ow_gf rfl rfl rfl hlen rfl ?_
  refine rt_ico rfl ki_0 ?_
  refine RT_step (pc2 := 62) rfl (fun _ _ => rfl) ?_
  refine ow_gf rfl rfl rfl hlen rfl ?_
  refine rt_ico rfl ki_0 ?_
  refine rt_bip rfl k8_7 ?_
  refine ow_cyL (m := 7) (l2 := [(13, dcl13 P Dn lw cl id gl bo), (14, lng pn), (15, ia ri2), (16, ia lf2), (17, ia wa2), (18, ia fo2), (19, lng dn2), (20, ia ha2), (21, ia pa2), (22, ia bl2), (157, dcl157 P Dn lw cl id gl bo), (158, lng pn), (159, ia ri), (160, ia lf), (161, ia wa), (162, ia fo), (163, lng dn), (164, ia ha), (165, ia pa), (166, ia bl)]) rfl rfl rfl l1 m1 (by decide) rfl hlen rfl rfl rfl ?_
  refine RT_step (pc2 := 72) rfl (fun _ _ => rfl) ?_
  refine ow_gf rfl rfl rfl hlen rfl ?_
  refine rt_ico rfl ki_0 ?_
  refine RT_step (pc2 := 77) rfl (fun _ _ => rfl) ?_
  refine ow_gf rfl rfl rfl hlen rfl ?_
  refine rt_ico rfl ki_0 ?_
  refine rt_bip rfl k8_7 ?_
  refine ow_cyI (m := 7) (l2 := [(13, dcl13 P Dn lw cl id gl bo), (14, lng pn), (15, ia ri), (16, ia lf2), (17, ia wa2), (18, ia fo2), (19, lng dn2), (20, ia ha2), (21, ia pa2), (22, ia bl2), (157, dcl157 P Dn lw cl id gl bo), (158, lng pn), (159, ia ri), (160, ia lf), (161, ia wa), (162, ia fo), (163, lng dn), (164, ia ha), (165, ia pa), (166, ia bl)]) rfl rfl rfl l2 m2 (by decide) rfl hlen rfl rfl rfl ?_
  refine RT_step (pc2 := 87) rfl (fun _ _ => rfl) ?_
  refine ow_gf rfl rfl rfl hlen rfl ?_
  refine rt_ico rfl ki_0 ?_
  refine RT_step (pc2 := 92) rfl (fun _ _ => rfl) ?_
  refine ow_gf rfl rfl rfl hlen rfl ?_
  refine rt_ico rfl ki_0 ?_
  refine rt_bip rfl k8_7 ?_
  refine ow_cyI (m := 7) (l2 := [(13, dcl13 P Dn lw cl id gl bo), (14, lng pn), (15, ia ri), (16, ia lf), (17, ia wa2), (18, ia fo2), (19, lng dn2), (20, ia ha2), (21, ia pa2), (22, ia bl2), (157, dcl157 P Dn lw cl id gl bo), (158, lng pn), (159, ia ri), (160, ia lf), (161, ia wa), (162, ia fo), (163, lng dn), (164, ia ha), (165, ia pa), (166, ia bl)]) rfl rfl rfl l3 m3 (by decide) rfl hlen rfl rfl rfl ?_
  refine RT_step (pc2 := 102) rfl (fun _ _ => rfl) ?_
  refine ow_gf rfl rfl rfl hlen rfl ?_
  refine rt_ico rfl ki_0 ?_
  refine RT_step (pc2 := 107) rfl (fun _ _ => rfl) ?_
  refine ow_gf rfl rfl rfl hlen rfl ?_
  refine rt_ico rfl ki_0 ?_
  refine rt_bip rfl k8_7 ?_
  refine ow_cyI (m := 7) (l2 := [(13, dcl13 P Dn lw cl id gl bo), (14, lng pn), (15, ia ri), (16, ia lf), (17, ia wa), (18, ia fo2), (19, lng dn2), (20, ia ha2), (21, ia pa2), (22, ia bl2), (157, dcl157 P Dn lw cl id gl bo), (158, lng pn), (159, ia ri), (160, ia lf), (161, ia wa), (162, ia fo), (163, lng dn), (164, ia ha), (165, ia pa), (166, ia bl)]) rfl rfl rfl l4 m4 (by decide) rfl hlen rfl rfl rfl ?_
  refine RT_step (pc2 := 117) rfl (fun _ _ => rfl) ?_
  refine ow_gf rfl rfl rfl hlen rfl ?_
  refine rt_ico rfl ki_0 ?_
  refine RT_step (pc2 := 122) rfl (fun _ _ => rfl) ?_
  refine ow_gf rfl rfl rfl hlen rfl ?_
  refine rt_ico rfl ki_0 ?_
  refine rt_bip rfl k8_49 ?_
  refine ow_cyI (m := 49) (l2 := [(13, dcl13 P Dn lw cl id gl bo), (14, lng pn), (15, ia ri), (16, ia lf), (17, ia wa), (18, ia fo), (19, lng dn2), (20, ia ha2), (21, ia pa2), (22, ia bl2), (157, dcl157 P Dn lw cl id gl bo), (158, lng pn), (159, ia ri), (160, ia lf), (161, ia wa), (162, ia fo), (163, lng dn), (164, ia ha), (165, ia pa), (166, ia bl)]) rfl rfl rfl l5 m5 (by decide) rfl hlen rfl rfl rfl ?_
  refine RT_step (pc2 := 132) rfl (fun _ _ => rfl) ?_
  refine ow_gf rfl rfl rfl hlen rfl ?_
  refine rt_ico rfl ki_0 ?_
  refine RT_step (pc2 := 137) rfl (fun _ _ => rfl) ?_
  refine ow_gf rfl rfl rfl hlen rfl ?_
  refine rt_ico rfl ki_0 ?_
  refine rt_bip rfl k8_8 ?_
  refine ow_cyL (m := 8) (l2 := [(13, dcl13 P Dn lw cl id gl bo), (14, lng pn), (15, ia ri), (16, ia lf), (17, ia wa), (18, ia fo), (19, lng dn), (20, ia ha2), (21, ia pa2), (22, ia bl2), (157, dcl157 P Dn lw cl id gl bo), (158, lng pn), (159, ia ri), (160, ia lf), (161, ia wa), (162, ia fo), (163, lng dn), (164, ia ha), (165, ia pa), (166, ia bl)]) rfl rfl rfl l6 m6 (by decide) rfl hlen rfl rfl rfl ?_
  refine RT_step (pc2 := 147) rfl (fun _ _ => rfl) ?_
  refine ow_gf rfl rfl rfl hlen rfl ?_
  refine rt_ico rfl ki_0 ?_
  refine RT_step (pc2 := 152) rfl (fun _ _ => rfl) ?_
  refine ow_gf rfl rfl rfl hlen rfl ?_
  refine rt_ico rfl ki_0 ?_
  refine rt_bip rfl k8_8 ?_
  refine ow_cyI (m := 8) (l2 := [(13, dcl13 P Dn lw cl id gl bo), (14, lng pn), (15, ia ri), (16, ia lf), (17, ia wa), (18, ia fo), (19, lng dn), (20, ia ha), (21, ia pa2), (22, ia bl2), (157, dcl157 P Dn lw cl id gl bo), (158, lng pn), (159, ia ri), (160, ia lf), (161, ia wa), (162, ia fo), (163, lng dn), (164, ia ha), (165, ia pa), (166, ia bl)]) rfl rfl rfl l7 m7 (by decide) rfl hlen rfl rfl rfl ?_
  refine RT_step (pc2 := 162) rfl (fun _ _ => rfl) ?_
  refine ow_gf rfl rfl rfl hlen rfl ?_
  refine rt_ico rfl ki_0 ?_
  refine RT_step (pc2 := 167) rfl (fun _ _ => rfl) ?_
  refine ow_gf rfl rfl rfl hlen rfl ?_
  refine rt_ico rfl ki_0 ?_
  refine rt_bip rfl k8_8 ?_
  refine ow_cyI (m := 8) (l2 := [(13, dcl13 P Dn lw cl id gl bo), (14, lng pn), (15, ia ri), (16, ia lf), (17, ia wa), (18, ia fo), (19, lng dn), (20, ia ha), (21, ia pa), (22, ia bl2), (157, dcl157 P Dn lw cl id gl bo), (158, lng pn), (159, ia ri), (160, ia lf), (161, ia wa), (162, ia fo), (163, lng dn), (164, ia ha), (165, ia pa), (166, ia bl)]) rfl rfl rfl l8 m8 (by decide) rfl hlen rfl rfl rfl ?_
  refine RT_step (pc2 := 177) rfl (fun _ _ => rfl) ?_
  refine ow_gf rfl rfl rfl hlen rfl ?_
  refine rt_ico rfl ki_0 ?_
  refine RT_step (pc2 := 182) rfl (fun _ _ => rfl) ?_
  refine ow_gf rfl rfl rfl hlen rfl ?_
  refine rt_ico rfl ki_0 ?_
  refine rt_bip rfl k8_8 ?_
  refine ow_cyI (m := 8) (l2 := [(13, dcl13 P Dn lw cl id gl bo), (14, lng pn), (15, ia ri), (16, ia lf), (17, ia wa), (18, ia fo), (19, lng dn), (20, ia ha), (21, ia pa), (22, ia bl), (157, dcl157 P Dn lw cl id gl bo), (158, lng pn), (159, ia ri), (160, ia lf), (161, ia wa), (162, ia fo), (163, lng dn), (164, ia ha), (165, ia pa), (166, ia bl)]) rfl rfl rfl l9 m9 (by decide) rfl hlen rfl rfl rfl ?_
  exact ow_ret rfl rfl rfl
end
section
/-! ===== what else holds between two calls: an image is kept on both sides or on none ===== -/
def XXS0 : List (Nat × Nat × Nat) := [(132, 0, 0), (156, 0, 0), (190, 0, 1)]
def XX0 (hp : List AE) : Prop := (∃ z : Int32, hq hp 132 0 = some (.int z) ∧ hq hp 190 0 = some (.int z)) ∧ ∃ z : Int32, hq hp 156 0 = some (.int z) ∧ hq hp 190 1 = some (.int z)
def xxW0 (W : WR) : Bool := wr_off W 132 0 0 && wr_off W 156 0 0 && wr_off W 190 0 1
theorem xx0_keep {W : WR} {h0 h1 : List AE} (hA : Agr W h0 h1) (hw : xxW0 W = true) (X : XX0 h0) : XX0 h1 := by
  unfold xxW0 at hw
  rw [Bool.and_eq_true, Bool.and_eq_true] at hw
  obtain ⟨⟨z, a1, a2⟩, y, b1, b2⟩ := X
  refine ⟨⟨z, ?_, ?_⟩, y, ?_, ?_⟩
  · rw [ag_off hA hw.1.1 (Nat.le_refl 0) (Nat.le_refl 0)]; exact a1
  · rw [ag_off hA hw.2 (Nat.le_refl 0) (Nat.zero_le 1)]; exact a2
  · rw [ag_off hA hw.1.2 (Nat.le_refl 0) (Nat.le_refl 0)]; exact b1
  · rw [ag_off hA hw.2 (Nat.zero_le 1) (Nat.le_refl 1)]; exact b2
theorem xx0_ext {h0 h1 : List AE} (k1 : ∀ a i, a < 203 → hq h1 a i = hq h0 a i) (X : XX0 h0) : XX0 h1 := by
  obtain ⟨⟨z, a1, a2⟩, y, b1, b2⟩ := X
  exact ⟨⟨z, by rw [k1 _ _ (by decide)]; exact a1, by rw [k1 _ _ (by decide)]; exact a2⟩, y, by rw [k1 _ _ (by decide)]; exact b1, by rw [k1 _ _ (by decide)]; exact b2⟩
theorem hh_ln {hp : List AE} {a : Nat} {x : Nat × Nat × Nat} (h : hh hp a = some x) : a < hp.length := by
  unfold hh at h
  cases e : hp[a]? with
  | none => rw [e] at h; cases h
  | some y => exact (List.getElem?_eq_some_iff.mp e).1
theorem li_len {hp : List AE} (I : LInv hp) : Nat.ble 204 hp.length = true := Nat.ble_eq_true_of_le (hh_ln I.2.2.2)
/-- what else hangs on the DUCHY: the latest FAULT -/
def EXT (hp : List AE) : Prop := ∃ z : Int32, hq hp 0 13 = some (.int z) ∧ hq hp 180 10 = some (.int z)
def extW (W : WR) : Bool := wr_off W 0 13 13 && wr_off W 180 10 10
theorem ext_keep {W : WR} {h0 h1 : List AE} (hA : Agr W h0 h1) (hw : extW W = true) (h : EXT h0) : EXT h1 := by
  unfold extW at hw
  rw [Bool.and_eq_true] at hw
  obtain ⟨z, a, b⟩ := h
  exact ⟨z, (ag_off hA hw.1 (Nat.le_refl 13) (Nat.le_refl 13)).trans a, (ag_off hA hw.2 (Nat.le_refl 10) (Nat.le_refl 10)).trans b⟩
theorem ext_ext {h0 h1 : List AE} (k : ∀ a, a < 203 → Ceq h0 h1 a) (h : EXT h0) : EXT h1 := by
  obtain ⟨z, a, b⟩ := h
  exact ⟨z, ((k 0 (by decide)).2 13).trans a, ((k 180 (by decide)).2 10).trans b⟩
def XX (hp : List AE) : Prop := XX0 hp ∧ DEEP hp ∧ EXT hp
def xxW (W : WR) : Bool := xxW0 W && dpW W && extW W
theorem xx_keep {W : WR} {h0 h1 : List AE} (hA : Agr W h0 h1) (hw : xxW W = true) (X : XX h0) : XX h1 := by
  unfold xxW at hw
  rw [Bool.and_eq_true, Bool.and_eq_true] at hw
  exact ⟨xx0_keep hA hw.1.1 X.1, deep_keep hA hw.1.2 X.2.1, ext_keep hA hw.2 X.2.2⟩
theorem xx_two {V W : WR} {h0 h1 h2 : List AE} (hA : Agr V h0 h1) (hv : xxW V = true) (hB : Agr W h1 h2) (hw : xxW W = true) : XX h0 → XX h2 := fun X => xx_keep hB hw (xx_keep hA hv X)
theorem xx_same {h0 h1 : List AE} (k : ∀ a, a < 203 → h1[a]? = h0[a]?) (X : XX h0) : XX h1 := ⟨xx0_ext (fun a i ha => (ce_same (k a ha)).2 i) X.1, deep_ext k X.2.1, ext_ext (fun a ha => ce_same (k a ha)) X.2.2⟩
def LIX (hp : List AE) : Prop := LInv hp ∧ XX hp
theorem hB_r : (∀ i, i < 49 → (List.replicate 49 (0 : Int32))[i]? = (([0, 0, 10, 3, 5] ++ List.replicate 96 0) : List Int32)[52 + i]?) ∧ (∀ j, j < 101 → hq ev_hB 182 (0 + j) = ((([0, 0, 10, 3, 5] ++ List.replicate 96 0) : List Int32)[j]?).map Value.int) ∧ (∀ j, j < 15 → hq ev_hB 187 (0 + j) = ((List.replicate 15 (0 : Int64))[j]?).map Value.long) ∧ (∀ q, q < 7 → ([0, 0, 0, 0, 0, 0, 0] : List Int32)[q]? = some (Int32.ofNat 0) ∧ (([0, 0, 10, 3, 5] ++ List.replicate 96 0) : List Int32)[45 + q]? = some (Int32.ofNat 0)) := by decide +kernel
theorem hB_t : ∀ i, i < 940 → ∃ v : Int32, (List.replicate 940 (0 : Int32))[i]? = some v ∧ (List.replicate 940 (0 : Int32))[i]? = some (v &&& Int32.ofNat 255) := fun i hi => ⟨0, by rw [List.getElem?_replicate, if_pos hi], by rw [List.getElem?_replicate, if_pos hi]; rfl⟩
set_option maxRecDepth 100000 in
theorem hB_lix : LIX ev_hB := by
  refine ⟨hB_ok, ⟨⟨0, rfl, rfl⟩, 0, rfl, rfl⟩, ⟨⟨_, _, rfl, rfl, rfl, rfl, hB_t⟩, Or.inl ⟨rfl, rfl, ?_⟩, (fun e => (by cases e)), (fun e => (by cases e))⟩, ⟨0, rfl, rfl⟩⟩
  obtain ⟨r1, r2, r3, r4⟩ := hB_r
  refine ⟨0, 0, 10, 3, 5, 0, 0, [0, 0, 0, 0, 0, 0, 0], [0, 0, 0, 0, 0, 0, 0], [0, 0, 0, 0, 0, 0, 0], [0, 0, 0, 0, 0, 0, 0], (List.replicate 49 0), (List.replicate 8 0), (List.replicate 8 0), (List.replicate 8 0), (List.replicate 8 0), ([0, 0, 10, 3, 5] ++ List.replicate 96 0), (List.replicate 15 0), rfl, rfl, rfl, rfl, rfl, rfl, rfl, rfl, rfl, rfl, rfl, rfl, ?_, r2, r3⟩
  exact ⟨by decide, by decide, ⟨rfl, rfl, rfl, rfl, rfl, rfl, rfl, rfl, rfl⟩, ⟨fun i hi => absurd hi (Nat.not_lt_zero i), fun i hi => absurd hi (Nat.not_lt_zero i)⟩, ⟨rfl, rfl, rfl, by decide, rfl, by decide, fun i hi => absurd hi (Nat.not_lt_zero i), fun i hi => absurd hi (Nat.not_lt_zero i), r1⟩, ⟨fun _ => 0, fun _ => 0, fun q hq => ⟨(r4 q hq).1, (show (0 : Nat) < 128 by decide), (r4 q hq).2, (show (0 : Nat) < 2 ^ 0 by decide)⟩, fun p q _ _ => (Nat.zero_testBit p).trans (Nat.zero_testBit q).symm⟩, rfl, rfl, rfl⟩
def OpR (l : Launch) (b : Nat) (en ac : Nat → Nat) (D : va_G) (x m : Nat) (As : List Value) (hp : List AE) : Prop := ∃ (r r2 : Int32) (hc hd : List AE) (fs gs : List Value), ev_M l b en ac D MM 100 x (.ref 0 :: As) hp (some (.int r), hc) ∧ ev_M l b en ac D MM 100 m (.ref 180 :: As) hc (some (.int r2), hd) ∧ LInv hd ∧ hp[0]? = some (.inr (10, fs)) ∧ hc[180]? = some (.inr (11, gs)) ∧ (XX hp → XX hd)
theorem op_mk {l : Launch} {b : Nat} {en ac : Nat → Nat} {D : va_G} {x m : Nat} {As : List Value} {hp hc hd : List AE} {r r2 : Int32} {V W : WR} (h1 : ev_M l b en ac D MM 100 x (.ref 0 :: As) hp (some (.int r), hc)) (h2 : ev_M l b en ac D MM 100 m (.ref 180 :: As) hc (some (.int r2), hd)) (I : LInv hd) (g1 : hp_ok GG hp) (g2 : hp_ok GG hc) (a1 : Agr V hp hc) (v1 : xxW V = true) (a2 : Agr W hc hd) (v2 : xxW W = true) : OpR l b en ac D x m As hp := by
  obtain ⟨fs, f1⟩ := hp_x g1
  obtain ⟨gs, f2⟩ := hp_m g2
  exact ⟨r, r2, hc, hd, fs, gs, h1, h2, I, f1, f2, xx_two a1 v1 a2 v2⟩
/-- both answer the same -/
def OpE (l : Launch) (b : Nat) (en ac : Nat → Nat) (D : va_G) (x m : Nat) (As : List Value) (hp : List AE) : Prop := ∃ (r : Int32) (hc hd : List AE) (fs gs : List Value), ev_M l b en ac D MM 100 x (.ref 0 :: As) hp (some (.int r), hc) ∧ ev_M l b en ac D MM 100 m (.ref 180 :: As) hc (some (.int r), hd) ∧ LInv hd ∧ hp[0]? = some (.inr (10, fs)) ∧ hc[180]? = some (.inr (11, gs)) ∧ (XX hp → XX hd)
theorem op_mkE {l : Launch} {b : Nat} {en ac : Nat → Nat} {D : va_G} {x m : Nat} {As : List Value} {hp hc hd : List AE} {r r2 : Int32} (h1 : ev_M l b en ac D MM 100 x (.ref 0 :: As) hp (some (.int r), hc)) (h2 : ev_M l b en ac D MM 100 m (.ref 180 :: As) hc (some (.int r2), hd)) (v1 : r2.toInt = r.toInt) (I : LInv hd) (g1 : hp_ok GG hp) (g2 : hp_ok GG hc) (X : XX hp → XX hd) : OpE l b en ac D x m As hp := by
  obtain ⟨fs, f1⟩ := hp_x g1
  obtain ⟨gs, f2⟩ := hp_m g2
  have e := Int32.toInt_inj.mp v1
  subst e
  exact ⟨r2, hc, hd, fs, gs, h1, h2, I, f1, f2, X⟩
/-- the latest FAULT, on both sides -/
def FLT (hp : List AE) : Prop := ∃ z : Int32, hq hp 0 13 = some (.int z) ∧ hq hp 180 10 = some (.int z)
def REST (hp : List AE) : Prop := CUR hp ∧ IM0 hp ∧ IM1 hp
def rsW (W : WR) : Bool := ((rng W 3 20 && wr_off W 0 1 2) && (wr_off W 182 0 100 && wr_not W 187)) && ((rng W 133 10 && wr_off W 132 0 0) && (rng W 157 10 && wr_off W 156 0 0) && (wr_not W 184 && wr_not W 189))
theorem rest_keep {W : WR} {h0 h1 : List AE} (hA : Agr W h0 h1) (hw : rsW W = true) (h : REST h0) : REST h1 := by
  unfold rsW at hw
  simp only [Bool.and_eq_true] at hw
  obtain ⟨⟨⟨w3, w4⟩, w5, w6⟩, ⟨⟨w7, w8⟩, w9, w10⟩, w11, w12⟩ := hw
  obtain ⟨h2, h3, h4⟩ := h
  exact ⟨cur_keep (fun a x y => ag_ce hA (rng_at w3 x (by omega))) (ag_off hA w4 (by decide) (by decide)) (ag_off hA w4 (by decide) (by decide)) (fun j hj => ag_off hA w5 (by omega) (by omega)) (fun j hj => ag_hq hA w6 _) h2, im0_keep (fun a x y => ag_ce hA (rng_at w7 x (by omega))) (ag_off hA w8 (by decide) (by decide)) (fun j hj => ag_hq hA w11 _) (fun j hj => ag_hq hA w12 _) h3, im1_keep (fun a x y => ag_ce hA (rng_at w9 x (by omega))) (ag_off hA w10 (by decide) (by decide)) (fun j hj => ag_hq hA w11 _) (fun j hj => ag_hq hA w12 _) h4⟩
def imW (W : WR) : Bool := (rng W 133 10 && wr_off W 132 0 0) && (rng W 157 10 && wr_off W 156 0 0) && (wr_not W 184 && wr_not W 189)
theorem ims_keep {W : WR} {h0 h1 : List AE} (hA : Agr W h0 h1) (hw : imW W = true) (h : IM0 h0 ∧ IM1 h0) : IM0 h1 ∧ IM1 h1 := by
  unfold imW at hw
  simp only [Bool.and_eq_true] at hw
  obtain ⟨⟨⟨w7, w8⟩, w9, w10⟩, w11, w12⟩ := hw
  exact ⟨im0_keep (fun a x y => ag_ce hA (rng_at w7 x (by omega))) (ag_off hA w8 (by decide) (by decide)) (fun j hj => ag_hq hA w11 _) (fun j hj => ag_hq hA w12 _) h.1, im1_keep (fun a x y => ag_ce hA (rng_at w9 x (by omega))) (ag_off hA w10 (by decide) (by decide)) (fun j hj => ag_hq hA w11 _) (fun j hj => ag_hq hA w12 _) h.2⟩
end
