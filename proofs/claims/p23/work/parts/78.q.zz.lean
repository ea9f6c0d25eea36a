/-! ===== a DUCHY copied ===== -/
theorem cp_all {α : Type} (z : α) {f g : List α} (h : f.length = g.length) : ev_cp z f g 0 0 g.length = f := by
  unfold ev_cp
  apply List.ext_getElem?
  intro i
  rw [List.getElem?_map]
  by_cases hi : i < g.length
  · rw [List.getElem?_range hi]
    show some (cond (Nat.ble 0 i && Nat.blt i (0 + g.length)) (f.getD (0 + (i - 0)) z) (g.getD i z)) = _
    rw [Nat.ble_eq_true_of_le (Nat.zero_le i), show Nat.blt i (0 + g.length) = true from Nat.ble_eq_true_of_le (by omega)]
    show some (f.getD (0 + (i - 0)) z) = _
    rw [Nat.zero_add, Nat.sub_zero, List.getD_eq_getElem?_getD, List.getElem?_eq_getElem (by omega)]
    rfl
  · rw [List.getElem?_eq_none (by rw [List.length_range]; omega), List.getElem?_eq_none (by omega)]
    rfl
section
variable {dd mi pc y : Nat} {L : List (Nat × Value)} {st : List Value} {hp : List AE} {l l2 : List (Nat × AE)} {q : ev_R}
theorem ow_cyI {idx a0 a1 m : Nat} {f g : List Int32} (hf : mF MM mi pc = some (.invokestatic idx, 904, y)) (h0 : olk l a0 = some (.inl (1, .inl f))) (h1 : olk l a1 = some (.inl (1, .inl g))) (lf : f.length = m) (lg : g.length = m) (hm : m < 2147483648) (hc8 : Nat.ble ((st.map fun v => v.category).sum) 8 = true) (ha : Nat.ble 204 hp.length = true) (hb0 : Nat.blt a0 204 = true) (hb1 : Nat.blt a1 204 = true) (hl : oin l a1 (.inl (1, .inl f)) = l2) (h : RT MM dd mi (pc + 3) L st (ov hp l2) q) : RT MM dd mi pc L (.int (Int32.ofNat m) :: .int (Int32.ofNat 0) :: .ref a1 :: .int (Int32.ofNat 0) :: .ref a0 :: st) (ov hp l) q := by
  have e0 := ov_at h0 (Nat.lt_of_lt_of_le (Nat.le_of_ble_eq_true hb0) (Nat.le_of_ble_eq_true ha))
  have e1 := ov_at h1 (Nat.lt_of_lt_of_le (Nat.le_of_ble_eq_true hb1) (Nat.le_of_ble_eq_true ha))
  have k0 : (Int32.ofNat 0).toNatClampNeg = 0 := rfl
  have km : (Int32.ofNat m).toNatClampNeg = m := nI_c hm
  have e2 : ev_cy (ov hp l) (Int32.ofNat m) (Int32.ofNat 0) a1 (Int32.ofNat 0) a0 = some (ov hp l2) := by
    unfold ev_cy
    rw [if_neg (fun e => e.elim (n_ps hm) (fun e => e.elim (n_ps (by decide)) (n_ps (by decide)))), e0, e1]
    show (if (1 : Nat) = 1 ∧ (1 : Nat) = 1 ∧ (Int32.ofNat 0).toNatClampNeg + (Int32.ofNat m).toNatClampNeg ≤ f.length ∧ (Int32.ofNat 0).toNatClampNeg + (Int32.ofNat m).toNatClampNeg ≤ g.length then some ((ov hp l).set a1 (.inl (1, .inl (ev_cp 0 f g (Int32.ofNat 0).toNatClampNeg (Int32.ofNat 0).toNatClampNeg (Int32.ofNat m).toNatClampNeg)))) else none) = _
    rw [k0, km, if_pos ⟨rfl, rfl, by omega, by omega⟩, show ev_cp 0 f g 0 0 m = f from by rw [← lg]; exact cp_all 0 (by omega), ov_set, hl]
  refine RT_step hf (fun cf K => ?_) h
  show (if (st.map fun v => v.category).sum ≤ 8 then (ev_cy (ov hp l) (Int32.ofNat m) (Int32.ofNat 0) a1 (Int32.ofNat 0) a0).bind (fun h1 => K (pc + 3) L st h1 0 0) else none) = _
  rw [if_pos (Nat.le_of_ble_eq_true hc8), e2]
  rfl
theorem ow_cyL {idx a0 a1 m : Nat} {f g : List Int64} (hf : mF MM mi pc = some (.invokestatic idx, 904, y)) (h0 : olk l a0 = some (.inl (2, .inr (.inl f)))) (h1 : olk l a1 = some (.inl (2, .inr (.inl g)))) (lf : f.length = m) (lg : g.length = m) (hm : m < 2147483648) (hc8 : Nat.ble ((st.map fun v => v.category).sum) 8 = true) (ha : Nat.ble 204 hp.length = true) (hb0 : Nat.blt a0 204 = true) (hb1 : Nat.blt a1 204 = true) (hl : oin l a1 (.inl (2, .inr (.inl f))) = l2) (h : RT MM dd mi (pc + 3) L st (ov hp l2) q) : RT MM dd mi pc L (.int (Int32.ofNat m) :: .int (Int32.ofNat 0) :: .ref a1 :: .int (Int32.ofNat 0) :: .ref a0 :: st) (ov hp l) q := by
  have e0 := ov_at h0 (Nat.lt_of_lt_of_le (Nat.le_of_ble_eq_true hb0) (Nat.le_of_ble_eq_true ha))
  have e1 := ov_at h1 (Nat.lt_of_lt_of_le (Nat.le_of_ble_eq_true hb1) (Nat.le_of_ble_eq_true ha))
  have k0 : (Int32.ofNat 0).toNatClampNeg = 0 := rfl
  have km : (Int32.ofNat m).toNatClampNeg = m := nI_c hm
  have e2 : ev_cy (ov hp l) (Int32.ofNat m) (Int32.ofNat 0) a1 (Int32.ofNat 0) a0 = some (ov hp l2) := by
    unfold ev_cy
    rw [if_neg (fun e => e.elim (n_ps hm) (fun e => e.elim (n_ps (by decide)) (n_ps (by decide)))), e0, e1]
    show (if (2 : Nat) = 2 ∧ (2 : Nat) = 2 ∧ (Int32.ofNat 0).toNatClampNeg + (Int32.ofNat m).toNatClampNeg ≤ f.length ∧ (Int32.ofNat 0).toNatClampNeg + (Int32.ofNat m).toNatClampNeg ≤ g.length then some ((ov hp l).set a1 (.inl (2, .inr (.inl (ev_cp 0 f g (Int32.ofNat 0).toNatClampNeg (Int32.ofNat 0).toNatClampNeg (Int32.ofNat m).toNatClampNeg))))) else none) = _
    rw [k0, km, if_pos ⟨rfl, rfl, by omega, by omega⟩, show ev_cp 0 f g 0 0 m = f from by rw [← lg]; exact cp_all 0 (by omega), ov_set, hl]
  refine RT_step hf (fun cf K => ?_) h
  show (if (st.map fun v => v.category).sum ≤ 8 then (ev_cy (ov hp l) (Int32.ofNat m) (Int32.ofNat 0) a1 (Int32.ofNat 0) a0).bind (fun h1 => K (pc + 3) L st h1 0 0) else none) = _
  rw [if_pos (Nat.le_of_ble_eq_true hc8), e2]
  rfl
/-- a call after which the heap is whatever the contract says -/
theorem ow_ivH {x idx a : Nat} {fs : List Value} {As rest : List Value} {v : Option Value} {h2 : List AE} (hf : mF MM mi pc = some (.invokevirtual idx, x, y)) (hx : Nat.blt x 900 = true) (hp0 : ev_pop y st = some (As, .ref a :: rest)) (hk : olk l a = some (.inr (mK MM x, fs))) (ha : Nat.ble 204 hp.length = true) (hb : Nat.blt a 204 = true) (hz : (Nat.beq (mC MM x) 0 && Nat.beq (mS MM x) 0) = true) (hc8 : Nat.ble ((rest.map fun v => v.category).sum) 8 = true) (hc : FR dd x (.ref a :: As) (ov hp l) (v, h2)) (h : RT MM dd mi (pc + 3) L (v.toList ++ rest) h2 q) : RT MM dd mi pc L st (ov hp l) q := by
  have e := ov_at hk (Nat.lt_of_lt_of_le (Nat.le_of_ble_eq_true hb) (Nat.le_of_ble_eq_true ha))
  rw [Bool.and_eq_true] at hz
  have z1 := Nat.eq_of_beq_eq_true hz.1
  have z2 := Nat.eq_of_beq_eq_true hz.2
  have hx2 : x < 900 := Nat.le_of_ble_eq_true hx
  refine RT_call (cx := x) (As := .ref a :: As) (rest := rest) (r := (v, h2)) hf (fun cf K hcf => ?_) hc h
  show (if x < 900 then ev_iv MM cf mi x y st (ov hp l) 0 0 (K (pc + 3) L) else _) = _
  rw [if_pos hx2]
  unfold ev_iv
  rw [hp0]
  show (ev_ob (ov hp l) a (mK MM x)).bind (fun _ => if x < 900 then ev_cf MM cf mi x (.ref a :: As) rest (ov hp l) 0 0 (K (pc + 3) L) else none) = _
  have e3 : ev_ob (ov hp l) a (mK MM x) = some fs := by
    unfold ev_ob
    rw [e]
    show cond (Nat.beq (mK MM x) (mK MM x)) (some fs) none = some fs
    rw [Nat.beq_refl]
    rfl
  rw [e3]
  show (if x < 900 then ev_cf MM cf mi x (.ref a :: As) rest (ov hp l) 0 0 (K (pc + 3) L) else none) = _
  rw [if_pos hx2]
  unfold ev_cf
  rw [if_pos (Nat.le_of_ble_eq_true hc8), z1, z2, if_pos ⟨Nat.zero_le _, Nat.zero_le _⟩, hcf]
  rfl
end
theorem x_copy133_3 {H : List AE} (hlen : Nat.ble 204 H.length = true) {P : Nat} {Dn : Nat} {lw : Int32} {cl : Int32} {id : Int32} {gl : Nat} {bo : Nat} {pn : List Int64} {ri : List Int32} {lf : List Int32} {wa : List Int32} {fo : List Int32} {dn : List Int64} {ha : List Int32} {pa : List Int32} {bl : List Int32} {P2 : Nat} {Dn2 : Nat} {lw2 : Int32} {cl2 : Int32} {id2 : Int32} {gl2 : Nat} {bo2 : Nat} {pn2 : List Int64} {ri2 : List Int32} {lf2 : List Int32} {wa2 : List Int32} {fo2 : List Int32} {dn2 : List Int64} {ha2 : List Int32} {pa2 : List Int32} {bl2 : List Int32} (l : DL pn ri lf wa fo dn ha pa bl) (m : DL pn2 ri2 lf2 wa2 fo2 dn2 ha2 pa2 bl2) : FR 1 62 [.ref 133, .ref 3] (ov H [(133, dcl133 P2 Dn2 lw2 cl2 id2 gl2 bo2), (134, lng pn2), (135, ia ri2), (136, ia lf2), (137, ia wa2), (138, ia fo2), (139, lng dn2), (140, ia ha2), (141, ia pa2), (142, ia bl2), (3, dcl3 P Dn lw cl id gl bo), (4, lng pn), (5, ia ri), (6, ia lf), (7, ia wa), (8, ia fo), (9, lng dn), (10, ia ha), (11, ia pa), (12, ia bl)]) (none, ov (ov H [(133, dcl133 P2 Dn2 lw2 cl2 id2 gl2 bo2), (134, lng pn2), (135, ia ri2), (136, ia lf2), (137, ia wa2), (138, ia fo2), (139, lng dn2), (140, ia ha2), (141, ia pa2), (142, ia bl2), (3, dcl3 P Dn lw cl id gl bo), (4, lng pn), (5, ia ri), (6, ia lf), (7, ia wa), (8, ia fo), (9, lng dn), (10, ia ha), (11, ia pa), (12, ia bl)]) [(133, dcl133 P Dn lw cl id gl bo), (134, lng pn), (135, ia ri), (136, ia lf), (137, ia wa), (138, ia fo), (139, lng dn), (140, ia ha), (141, ia pa), (142, ia bl), (3, dcl3 P Dn lw cl id gl bo), (4, lng pn), (5, ia ri), (6, ia lf), (7, ia wa), (8, ia fo), (9, lng dn), (10, ia ha), (11, ia pa), (12, ia bl)]) := by
  obtain ⟨l1, l2, l3, l4, l5, l6, l7, l8, l9⟩ := l
  obtain ⟨m1, m2, m3, m4, m5, m6, m7, m8, m9⟩ := m
  refine FR_st3 (l2 := [(133, dcl133 P Dn lw cl id gl bo), (134, lng pn), (135, ia ri), (136, ia lf), (137, ia wa), (138, ia fo), (139, lng dn), (140, ia ha), (141, ia pa), (142, ia bl), (3, dcl3 P Dn lw cl id gl bo), (4, lng pn), (5, ia ri), (6, ia lf), (7, ia wa), (8, ia fo), (9, lng dn), (10, ia ha), (11, ia pa), (12, ia bl)]) rfl rfl rfl ?_
  refine RT_step (pc2 := 1) rfl (fun _ _ => rfl) ?_
  refine RT_step (pc2 := 2) rfl (fun _ _ => rfl) ?_
  refine ow_gf rfl rfl rfl hlen rfl ?_
  refine ow_pf (l2 := [(133, dcl133 P Dn2 lw2 cl2 id2 gl2 bo2), (134, lng pn2), (135, ia ri2), (136, ia lf2), (137, ia wa2), (138, ia fo2), (139, lng dn2), (140, ia ha2), (141, ia pa2), (142, ia bl2), (3, dcl3 P Dn lw cl id gl bo), (4, lng pn), (5, ia ri), (6, ia lf), (7, ia wa), (8, ia fo), (9, lng dn), (10, ia ha), (11, ia pa), (12, ia bl)]) rfl rfl rfl rfl rfl hlen rfl rfl ?_
  refine RT_step (pc2 := 9) rfl (fun _ _ => rfl) ?_
  refine RT_step (pc2 := 10) rfl (fun _ _ => rfl) ?_
  refine ow_gf rfl rfl rfl hlen rfl ?_
  refine ow_pf (l2 := [(133, dcl133 P Dn lw2 cl2 id2 gl2 bo2), (134, lng pn2), (135, ia ri2), (136, ia lf2), (137, ia wa2), (138, ia fo2), (139, lng dn2), (140, ia ha2), (141, ia pa2), (142, ia bl2), (3, dcl3 P Dn lw cl id gl bo), (4, lng pn), (5, ia ri), (6, ia lf), (7, ia wa), (8, ia fo), (9, lng dn), (10, ia ha), (11, ia pa), (12, ia bl)]) rfl rfl rfl rfl rfl hlen rfl rfl ?_
  refine RT_step (pc2 := 17) rfl (fun _ _ => rfl) ?_
  refine RT_step (pc2 := 18) rfl (fun _ _ => rfl) ?_
  refine ow_gf rfl rfl rfl hlen rfl ?_
  refine ow_pf (l2 := [(133, dcl133 P Dn lw cl2 id2 gl2 bo2), (134, lng pn2), (135, ia ri2), (136, ia lf2), (137, ia wa2), (138, ia fo2), (139, lng dn2), (140, ia ha2), (141, ia pa2), (142, ia bl2), (3, dcl3 P Dn lw cl id gl bo), (4, lng pn), (5, ia ri), (6, ia lf), (7, ia wa), (8, ia fo), (9, lng dn), (10, ia ha), (11, ia pa), (12, ia bl)]) rfl rfl rfl rfl rfl hlen rfl rfl ?_
  refine RT_step (pc2 := 25) rfl (fun _ _ => rfl) ?_
  refine RT_step (pc2 := 26) rfl (fun _ _ => rfl) ?_
  refine ow_gf rfl rfl rfl hlen rfl ?_
  refine ow_pf (l2 := [(133, dcl133 P Dn lw cl id2 gl2 bo2), (134, lng pn2), (135, ia ri2), (136, ia lf2), (137, ia wa2), (138, ia fo2), (139, lng dn2), (140, ia ha2), (141, ia pa2), (142, ia bl2), (3, dcl3 P Dn lw cl id gl bo), (4, lng pn), (5, ia ri), (6, ia lf), (7, ia wa), (8, ia fo), (9, lng dn), (10, ia ha), (11, ia pa), (12, ia bl)]) rfl rfl rfl rfl rfl hlen rfl rfl ?_
  refine RT_step (pc2 := 33) rfl (fun _ _ => rfl) ?_
  refine RT_step (pc2 := 34) rfl (fun _ _ => rfl) ?_
  refine ow_gf rfl rfl rfl hlen rfl ?_
  refine ow_pf (l2 := [(133, dcl133 P Dn lw cl id gl2 bo2), (134, lng pn2), (135, ia ri2), (136, ia lf2), (137, ia wa2), (138, ia fo2), (139, lng dn2), (140, ia ha2), (141, ia pa2), (142, ia bl2), (3, dcl3 P Dn lw cl id gl bo), (4, lng pn), (5, ia ri), (6, ia lf), (7, ia wa), (8, ia fo), (9, lng dn), (10, ia ha), (11, ia pa), (12, ia bl)]) rfl rfl rfl rfl rfl hlen rfl rfl ?_
  refine RT_step (pc2 := 41) rfl (fun _ _ => rfl) ?_
  refine RT_step (pc2 := 42) rfl (fun _ _ => rfl) ?_
  refine ow_gf rfl rfl rfl hlen rfl ?_
  refine ow_pf (l2 := [(133, dcl133 P Dn lw cl id gl bo2), (134, lng pn2), (135, ia ri2), (136, ia lf2), (137, ia wa2), (138, ia fo2), (139, lng dn2), (140, ia ha2), (141, ia pa2), (142, ia bl2), (3, dcl3 P Dn lw cl id gl bo), (4, lng pn), (5, ia ri), (6, ia lf), (7, ia wa), (8, ia fo), (9, lng dn), (10, ia ha), (11, ia pa), (12, ia bl)]) rfl rfl rfl rfl rfl hlen rfl rfl ?_
  refine RT_step (pc2 := 49) rfl (fun _ _ => rfl) ?_
  refine RT_step (pc2 := 50) rfl (fun _ _ => rfl) ?_
  refine ow_gf rfl rfl rfl hlen rfl ?_
  refine ow_pf (l2 := [(133, dcl133 P Dn lw cl id gl bo), (134, lng pn2), (135, ia ri2), (136, ia lf2), (137, ia wa2), (138, ia fo2), (139, lng dn2), (140, ia ha2), (141, ia pa2), (142, ia bl2), (3, dcl3 P Dn lw cl id gl bo), (4, lng pn), (5, ia ri), (6, ia lf), (7, ia wa), (8, ia fo), (9, lng dn), (10, ia ha), (11, ia pa), (12, ia bl)]) rfl rfl rfl rfl rfl hlen rfl rfl ?_
  refine RT_step (pc2 := 57) rfl (fun _ _ => rfl) ?_
  refine ow_gf rfl rfl rfl hlen rfl ?_
  refine rt_ico rfl ki_0 ?_
  refine RT_step (pc2 := 62) rfl (fun _ _ => rfl) ?_
  refine ow_gf rfl rfl rfl hlen rfl ?_
  refine rt_ico rfl ki_0 ?_
  refine rt_bip rfl k8_7 ?_
  refine ow_cyL (m := 7) (l2 := [(133, dcl133 P Dn lw cl id gl bo), (134, lng pn), (135, ia ri2), (136, ia lf2), (137, ia wa2), (138, ia fo2), (139, lng dn2), (140, ia ha2), (141, ia pa2), (142, ia bl2), (3, dcl3 P Dn lw cl id gl bo), (4, lng pn), (5, ia ri), (6, ia lf), (7, ia wa), (8, ia fo), (9, lng dn), (10, ia ha), (11, ia pa), (12, ia bl)]) rfl rfl rfl l1 m1 (by decide) rfl hlen rfl rfl rfl ?_
  refine RT_step (pc2 := 72) rfl (fun _ _ => rfl) ?_
  refine ow_gf rfl rfl rfl hlen rfl ?_
  refine rt_ico rfl ki_0 ?_
  refine RT_step (pc2 := 77) rfl (fun _ _ => rfl) ?_
  refine ow_gf rfl rfl rfl hlen rfl ?_
  refine rt_ico rfl ki_0 ?_
  refine rt_bip rfl k8_7 ?_
  refine ow_cyI (m := 7) (l2 := [(133, dcl133 P Dn lw cl id gl bo), (134, lng pn), (135, ia ri), (136, ia lf2), (137, ia wa2), (138, ia fo2), (139, lng dn2), (140, ia ha2), (141, ia pa2), (142, ia bl2), (3, dcl3 P Dn lw cl id gl bo), (4, lng pn), (5, ia ri), (6, ia lf), (7, ia wa), (8, ia fo), (9, lng dn), (10, ia ha), (11, ia pa), (12, ia bl)]) rfl rfl rfl l2 m2 (by decide) rfl hlen rfl rfl rfl ?_
  refine RT_step (pc2 := 87) rfl (fun _ _ => rfl) ?_
  refine ow_gf rfl rfl rfl hlen rfl ?_
  refine rt_ico rfl ki_0 ?_
  refine RT_step (pc2 := 92) rfl (fun _ _ => rfl) ?_
  refine ow_gf rfl rfl rfl hlen rfl ?_
  refine rt_ico rfl ki_0 ?_
  refine rt_bip rfl k8_7 ?_
  refine ow_cyI (m := 7) (l2 := [(133, dcl133 P Dn lw cl id gl bo), (134, lng pn), (135, ia ri), (136, ia lf), (137, ia wa2), (138, ia fo2), (139, lng dn2), (140, ia ha2), (141, ia pa2), (142, ia bl2), (3, dcl3 P Dn lw cl id gl bo), (4, lng pn), (5, ia ri), (6, ia lf), (7, ia wa), (8, ia fo), (9, lng dn), (10, ia ha), (11, ia pa), (12, ia bl)]) rfl rfl rfl l3 m3 (by decide) rfl hlen rfl rfl rfl ?_
  refine RT_step (pc2 := 102) rfl (fun _ _ => rfl) ?_
  refine ow_gf rfl rfl rfl hlen rfl ?_
  refine rt_ico rfl ki_0 ?_
  refine RT_step (pc2 := 107) rfl (fun _ _ => rfl) ?_
  refine ow_gf rfl rfl rfl hlen rfl ?_
  refine rt_ico rfl ki_0 ?_
  refine rt_bip rfl k8_7 ?_
  refine ow_cyI (m := 7) (l2 := [(133, dcl133 P Dn lw cl id gl bo), (134, lng pn), (135, ia ri), (136, ia lf), (137, ia wa), (138, ia fo2), (139, lng dn2), (140, ia ha2), (141, ia pa2), (142, ia bl2), (3, dcl3 P Dn lw cl id gl bo), (4, lng pn), (5, ia ri), (6, ia lf), (7, ia wa), (8, ia fo), (9, lng dn), (10, ia ha), (11, ia pa), (12, ia bl)]) rfl rfl rfl l4 m4 (by decide) rfl hlen rfl rfl rfl ?_
  refine RT_step (pc2 := 117) rfl (fun _ _ => rfl) ?_
  refine ow_gf rfl rfl rfl hlen rfl ?_
  refine rt_ico rfl ki_0 ?_
  refine RT_step (pc2 := 122) rfl (fun _ _ => rfl) ?_
  refine ow_gf rfl rfl rfl hlen rfl ?_
  refine rt_ico rfl ki_0 ?_
  refine rt_bip rfl k8_49 ?_
  refine ow_cyI (m := 49) (l2 := [(133, dcl133 P Dn lw cl id gl bo), (134, lng pn), (135, ia ri), (136, ia lf), (137, ia wa), (138, ia fo), (139, lng dn2), (140, ia ha2), (141, ia pa2), (142, ia bl2), (3, dcl3 P Dn lw cl id gl bo), (4, lng pn), (5, ia ri), (6, ia lf), (7, ia wa), (8, ia fo), (9, lng dn), (10, ia ha), (11, ia pa), (12, ia bl)]) rfl rfl rfl l5 m5 (by decide) rfl hlen rfl rfl rfl ?_
  refine RT_step (pc2 := 132) rfl (fun _ _ => rfl) ?_
  refine ow_gf rfl rfl rfl hlen rfl ?_
  refine rt_ico rfl ki_0 ?_
  refine RT_step (pc2 := 137) rfl (fun _ _ => rfl) ?_
  refine ow_gf rfl rfl rfl hlen rfl ?_
  refine rt_ico rfl ki_0 ?_
  refine rt_bip rfl k8_8 ?_
  refine ow_cyL (m := 8) (l2 := [(133, dcl133 P Dn lw cl id gl bo), (134, lng pn), (135, ia ri), (136, ia lf), (137, ia wa), (138, ia fo), (139, lng dn), (140, ia ha2), (141, ia pa2), (142, ia bl2), (3, dcl3 P Dn lw cl id gl bo), (4, lng pn), (5, ia ri), (6, ia lf), (7, ia wa), (8, ia fo), (9, lng dn), (10, ia ha), (11, ia pa), (12, ia bl)]) rfl rfl rfl l6 m6 (by decide) rfl hlen rfl rfl rfl ?_
  refine RT_step (pc2 := 147) rfl (fun _ _ => rfl) ?_
  refine ow_gf rfl rfl rfl hlen rfl ?_
  refine rt_ico rfl ki_0 ?_
  refine RT_step (pc2 := 152) rfl (fun _ _ => rfl) ?_
  refine ow_gf rfl rfl rfl hlen rfl ?_
  refine rt_ico rfl ki_0 ?_
  refine rt_bip rfl k8_8 ?_
  refine ow_cyI (m := 8) (l2 := [(133, dcl133 P Dn lw cl id gl bo), (134, lng pn), (135, ia ri), (136, ia lf), (137, ia wa), (138, ia fo), (139, lng dn), (140, ia ha), (141, ia pa2), (142, ia bl2), (3, dcl3 P Dn lw cl id gl bo), (4, lng pn), (5, ia ri), (6, ia lf), (7, ia wa), (8, ia fo), (9, lng dn), (10, ia ha), (11, ia pa), (12, ia bl)]) rfl rfl rfl l7 m7 (by decide) rfl hlen rfl rfl rfl ?_
  refine RT_step (pc2 := 162) rfl (fun _ _ => rfl) ?_
  refine ow_gf rfl rfl rfl hlen rfl ?_
  refine rt_ico rfl ki_0 ?_
  refine RT_step (pc2 := 167) rfl (fun _ _ => rfl) ?_
  refine ow_gf rfl rfl rfl hlen rfl ?_
  refine rt_ico rfl ki_0 ?_
  refine rt_bip rfl k8_8 ?_
  refine ow_cyI (m := 8) (l2 := [(133, dcl133 P Dn lw cl id gl bo), (134, lng pn), (135, ia ri), (136, ia lf), (137, ia wa), (138, ia fo), (139, lng dn), (140, ia ha), (141, ia pa), (142, ia bl2), (3, dcl3 P Dn lw cl id gl bo), (4, lng pn), (5, ia ri), (6, ia lf), (7, ia wa), (8, ia fo), (9, lng dn), (10, ia ha), (11, ia pa), (12, ia bl)]) rfl rfl rfl l8 m8 (by decide) rfl hlen rfl rfl rfl ?_
  refine RT_step (pc2 := 177) rfl (fun _ _ => rfl) ?_
  refine ow_gf rfl rfl rfl hlen rfl ?_
  refine rt_ico rfl ki_0 ?_
  refine RT_step (pc2 := 182) rfl (fun _ _ => rfl) ?_
  refine ow_gf rfl rfl rfl hlen rfl ?_
  refine rt_ico rfl ki_0 ?_
  refine rt_bip rfl k8_8 ?_
  refine ow_cyI (m := 8) (l2 := [(133, dcl133 P Dn lw cl id gl bo), (134, lng pn), (135, ia ri), (136, ia lf), (137, ia wa), (138, ia fo), (139, lng dn), (140, ia ha), (141, ia pa), (142, ia bl), (3, dcl3 P Dn lw cl id gl bo), (4, lng pn), (5, ia ri), (6, ia lf), (7, ia wa), (8, ia fo), (9, lng dn), (10, ia ha), (11, ia pa), (12, ia bl)]) rfl rfl rfl l9 m9 (by decide) rfl hlen rfl rfl rfl ?_
  exact ow_ret rfl rfl rfl
theorem x_copy133_13 {H : List AE} (hlen : Nat.ble 204 H.length = true) {P : Nat} {Dn : Nat} {lw : Int32} {cl : Int32} {id : Int32} {gl : Nat} {bo : Nat} {pn : List Int64} {ri : List Int32} {lf : List Int32} {wa : List Int32} {fo : List Int32} {dn : List Int64} {ha : List Int32} {pa : List Int32} {bl : List Int32} {P2 : Nat} {Dn2 : Nat} {lw2 : Int32} {cl2 : Int32} {id2 : Int32} {gl2 : Nat} {bo2 : Nat} {pn2 : List Int64} {ri2 : List Int32} {lf2 : List Int32} {wa2 : List Int32} {fo2 : List Int32} {dn2 : List Int64} {ha2 : List Int32} {pa2 : List Int32} {bl2 : List Int32} (l : DL pn ri lf wa fo dn ha pa bl) (m : DL pn2 ri2 lf2 wa2 fo2 dn2 ha2 pa2 bl2) : FR 1 62 [.ref 133, .ref 13] (ov H [(133, dcl133 P2 Dn2 lw2 cl2 id2 gl2 bo2), (134, lng pn2), (135, ia ri2), (136, ia lf2), (137, ia wa2), (138, ia fo2), (139, lng dn2), (140, ia ha2), (141, ia pa2), (142, ia bl2), (13, dcl13 P Dn lw cl id gl bo), (14, lng pn), (15, ia ri), (16, ia lf), (17, ia wa), (18, ia fo), (19, lng dn), (20, ia ha), (21, ia pa), (22, ia bl)]) (none, ov (ov H [(133, dcl133 P2 Dn2 lw2 cl2 id2 gl2 bo2), (134, lng pn2), (135, ia ri2), (136, ia lf2), (137, ia wa2), (138, ia fo2), (139, lng dn2), (140, ia ha2), (141, ia pa2), (142, ia bl2), (13, dcl13 P Dn lw cl id gl bo), (14, lng pn), (15, ia ri), (16, ia lf), (17, ia wa), (18, ia fo), (19, lng dn), (20, ia ha), (21, ia pa), (22, ia bl)]) [(133, dcl133 P Dn lw cl id gl bo), (134, lng pn), (135, ia ri), (136, ia lf), (137, ia wa), (138, ia fo), (139, lng dn), (140, ia ha), (141, ia pa), (142, ia bl), (13, dcl13 P Dn lw cl id gl bo), (14, lng pn), (15, ia ri), (16, ia lf), (17, ia wa), (18, ia fo), (19, lng dn), (20, ia ha), (21, ia pa), (22, ia bl)]) := by
  obtain ⟨l1, l2, l3, l4, l5, l6, l7, l8, l9⟩ := l
  obtain ⟨m1, m2, m3, m4, m5, m6, m7, m8, m9⟩ := m
  refine FR_st3 (l2 := [(133, dcl133 P Dn lw cl id gl bo), (134, lng pn), (135, ia ri), (136, ia lf), (137, ia wa), (138, ia fo), (139, lng dn), (140, ia ha), (141, ia pa), (142, ia bl), (13, dcl13 P Dn lw cl id gl bo), (14, lng pn), (15, ia ri), (16, ia lf), (17, ia wa), (18, ia fo), (19, lng dn), (20, ia ha), (21, ia pa), (22, ia bl)]) rfl rfl rfl ?_
  refine RT_step (pc2 := 1) rfl (fun _ _ => rfl) ?_
  refine RT_step (pc2 := 2) rfl (fun _ _ => rfl) ?_
  refine ow_gf rfl rfl rfl hlen rfl ?_
  refine ow_pf (l2 := [(133, dcl133 P Dn2 lw2 cl2 id2 gl2 bo2), (134, lng pn2), (135, ia ri2), (136, ia lf2), (137, ia wa2), (138, ia fo2), (139, lng dn2), (140, ia ha2), (141, ia pa2), (142, ia bl2), (13, dcl13 P Dn lw cl id gl bo), (14, lng pn), (15, ia ri), (16, ia lf), (17, ia wa), (18, ia fo), (19, lng dn), (20, ia ha), (21, ia pa), (22, ia bl)]) rfl rfl rfl rfl rfl hlen rfl rfl ?_
  refine RT_step (pc2 := 9) rfl (fun _ _ => rfl) ?_
  refine RT_step (pc2 := 10) rfl (fun _ _ => rfl) ?_
  refine ow_gf rfl rfl rfl hlen rfl ?_
  refine ow_pf (l2 := [(133, dcl133 P Dn lw2 cl2 id2 gl2 bo2), (134, lng pn2), (135, ia ri2), (136, ia lf2), (137, ia wa2), (138, ia fo2), (139, lng dn2), (140, ia ha2), (141, ia pa2), (142, ia bl2), (13, dcl13 P Dn lw cl id gl bo), (14, lng pn), (15, ia ri), (16, ia lf), (17, ia wa), (18, ia fo), (19, lng dn), (20, ia ha), (21, ia pa), (22, ia bl)]) rfl rfl rfl rfl rfl hlen rfl rfl ?_
  refine RT_step (pc2 := 17) rfl (fun _ _ => rfl) ?_
  refine RT_step (pc2 := 18) rfl (fun _ _ => rfl) ?_
  refine ow_gf rfl rfl rfl hlen rfl ?_
  refine ow_pf (l2 := [(133, dcl133 P Dn lw cl2 id2 gl2 bo2), (134, lng pn2), (135, ia ri2), (136, ia lf2), (137, ia wa2), (138, ia fo2), (139, lng dn2), (140, ia ha2), (141, ia pa2), (142, ia bl2), (13, dcl13 P Dn lw cl id gl bo), (14, lng pn), (15, ia ri), (16, ia lf), (17, ia wa), (18, ia fo), (19, lng dn), (20, ia ha), (21, ia pa), (22, ia bl)]) rfl rfl rfl rfl rfl hlen rfl rfl ?_
  refine RT_step (pc2 := 25) rfl (fun _ _ => rfl) ?_
  refine RT_step (pc2 := 26) rfl (fun _ _ => rfl) ?_
  refine ow_gf rfl rfl rfl hlen rfl ?_
  refine ow_pf (l2 := [(133, dcl133 P Dn lw cl id2 gl2 bo2), (134, lng pn2), (135, ia ri2), (136, ia lf2), (137, ia wa2), (138, ia fo2), (139, lng dn2), (140, ia ha2), (141, ia pa2), (142, ia bl2), (13, dcl13 P Dn lw cl id gl bo), (14, lng pn), (15, ia ri), (16, ia lf), (17, ia wa), (18, ia fo), (19, lng dn), (20, ia ha), (21, ia pa), (22, ia bl)]) rfl rfl rfl rfl rfl hlen rfl rfl ?_
  refine RT_step (pc2 := 33) rfl (fun _ _ => rfl) ?_
  refine RT_step (pc2 := 34) rfl (fun _ _ => rfl) ?_
  refine ow_gf rfl rfl rfl hlen rfl ?_
  refine ow_pf (l2 := [(133, dcl133 P Dn lw cl id gl2 bo2), (134, lng pn2), (135, ia ri2), (136, ia lf2), (137, ia wa2), (138, ia fo2), (139, lng dn2), (140, ia ha2), (141, ia pa2), (142, ia bl2), (13, dcl13 P Dn lw cl id gl bo), (14, lng pn), (15, ia ri), (16, ia lf), (17, ia wa), (18, ia fo), (19, lng dn), (20, ia ha), (21, ia pa), (22, ia bl)]) rfl rfl rfl rfl rfl hlen rfl rfl ?_
  refine RT_step (pc2 := 41) rfl (fun _ _ => rfl) ?_
  refine RT_step (pc2 := 42) rfl (fun _ _ => rfl) ?_
  refine ow_gf rfl rfl rfl hlen rfl ?_
  refine ow_pf (l2 := [(133, dcl133 P Dn lw cl id gl bo2), (134, lng pn2), (135, ia ri2), (136, ia lf2), (137, ia wa2), (138, ia fo2), (139, lng dn2), (140, ia ha2), (141, ia pa2), (142, ia bl2), (13, dcl13 P Dn lw cl id gl bo), (14, lng pn), (15, ia ri), (16, ia lf), (17, ia wa), (18, ia fo), (19, lng dn), (20, ia ha), (21, ia pa), (22, ia bl)]) rfl rfl rfl rfl rfl hlen rfl rfl ?_
  refine RT_step (pc2 := 49) rfl (fun _ _ => rfl) ?_
  refine RT_step (pc2 := 50) rfl (fun _ _ => rfl) ?_
  refine ow_gf rfl rfl rfl hlen rfl ?_
  refine ow_pf (l2 := [(133, dcl133 P Dn lw cl id gl bo), (134, lng pn2), (135, ia ri2), (136, ia lf2), (137, ia wa2), (138, ia fo2), (139, lng dn2), (140, ia ha2), (141, ia pa2), (142, ia bl2), (13, dcl13 P Dn lw cl id gl bo), (14, lng pn), (15, ia ri), (16, ia lf), (17, ia wa), (18, ia fo), (19, lng dn), (20, ia ha), (21, ia pa), (22, ia bl)]) rfl rfl rfl rfl rfl hlen rfl rfl ?_
  refine RT_step (pc2 := 57) rfl (fun _ _ => rfl) ?_
  refine ow_gf rfl rfl rfl hlen rfl ?_
  refine rt_ico rfl ki_0 ?_
  refine RT_step (pc2 := 62) rfl (fun _ _ => rfl) ?_
  refine ow_gf rfl rfl rfl hlen rfl ?_
  refine rt_ico rfl ki_0 ?_
  refine rt_bip rfl k8_7 ?_
  refine ow_cyL (m := 7) (l2 := [(133, dcl133 P Dn lw cl id gl bo), (134, lng pn), (135, ia ri2), (136, ia lf2), (137, ia wa2), (138, ia fo2), (139, lng dn2), (140, ia ha2), (141, ia pa2), (142, ia bl2), (13, dcl13 P Dn lw cl id gl bo), (14, lng pn), (15, ia ri), (16, ia lf), (17, ia wa), (18, ia fo), (19, lng dn), (20, ia ha), (21, ia pa), (22, ia bl)]) rfl rfl rfl l1 m1 (by decide) rfl hlen rfl rfl rfl ?_
  refine RT_step (pc2 := 72) rfl (fun _ _ => rfl) ?_
  refine ow_gf rfl rfl rfl hlen rfl ?_
  refine rt_ico rfl ki_0 ?_
  refine RT_step (pc2 := 77) rfl (fun _ _ => rfl) ?_
  refine ow_gf rfl rfl rfl hlen rfl ?_
  refine rt_ico rfl ki_0 ?_
  refine rt_bip rfl k8_7 ?_
  refine ow_cyI (m := 7) (l2 := [(133, dcl133 P Dn lw cl id gl bo), (134, lng pn), (135, ia ri), (136, ia lf2), (137, ia wa2), (138, ia fo2), (139, lng dn2), (140, ia ha2), (141, ia pa2), (142, ia bl2), (13, dcl13 P Dn lw cl id gl bo), (14, lng pn), (15, ia ri), (16, ia lf), (17, ia wa), (18, ia fo), (19, lng dn), (20, ia ha), (21, ia pa), (22, ia bl)]) rfl rfl rfl l2 m2 (by decide) rfl hlen rfl rfl rfl ?_
  refine RT_step (pc2 := 87) rfl (fun _ _ => rfl) ?_
  refine ow_gf rfl rfl rfl hlen rfl ?_
  refine rt_ico rfl ki_0 ?_
  refine RT_step (pc2 := 92) rfl (fun _ _ => rfl) ?_
  refine ow_gf rfl rfl rfl hlen rfl ?_
  refine rt_ico rfl ki_0 ?_
  refine rt_bip rfl k8_7 ?_
  refine ow_cyI (m := 7) (l2 := [(133, dcl133 P Dn lw cl id gl bo), (134, lng pn), (135, ia ri), (136, ia lf), (137, ia wa2), (138, ia fo2), (139, lng dn2), (140, ia ha2), (141, ia pa2), (142, ia bl2), (13, dcl13 P Dn lw cl id gl bo), (14, lng pn), (15, ia ri), (16, ia lf), (17, ia wa), (18, ia fo), (19, lng dn), (20, ia ha), (21, ia pa), (22, ia bl)]) rfl rfl rfl l3 m3 (by decide) rfl hlen rfl rfl rfl ?_
  refine RT_step (pc2 := 102) rfl (fun _ _ => rfl) ?_
  refine ow_gf rfl rfl rfl hlen rfl ?_
  refine rt_ico rfl ki_0 ?_
  refine RT_step (pc2 := 107) rfl (fun _ _ => rfl) ?_
  refine ow_gf rfl rfl rfl hlen rfl ?_
  refine rt_ico rfl ki_0 ?_
  refine rt_bip rfl k8_7 ?_
  refine ow_cyI (m := 7) (l2 := [(133, dcl133 P Dn lw cl id gl bo), (134, lng pn), (135, ia ri), (136, ia lf), (137, ia wa), (138, ia fo2), (139, lng dn2), (140, ia ha2), (141, ia pa2), (142, ia bl2), (13, dcl13 P Dn lw cl id gl bo), (14, lng pn), (15, ia ri), (16, ia lf), (17, ia wa), (18, ia fo), (19, lng dn), (20, ia ha), (21, ia pa), (22, ia bl)]) rfl rfl rfl l4 m4 (by decide) rfl hlen rfl rfl rfl ?_
  refine RT_step (pc2 := 117) rfl (fun _ _ => rfl) ?_
  refine ow_gf rfl rfl rfl hlen rfl ?_
  refine rt_ico rfl ki_0 ?_
  refine RT_step (pc2 := 122) rfl (fun _ _ => rfl) ?_
  refine ow_gf rfl rfl rfl hlen rfl ?_
  refine rt_ico rfl ki_0 ?_
  refine rt_bip rfl k8_49 ?_
  refine ow_cyI (m := 49) (l2 := [(133, dcl133 P Dn lw cl id gl bo), (134, lng pn), (135, ia ri), (136, ia lf), (137, ia wa), (138, ia fo), (139, lng dn2), (140, ia ha2), (141, ia pa2), (142, ia bl2), (13, dcl13 P Dn lw cl id gl bo), (14, lng pn), (15, ia ri), (16, ia lf), (17, ia wa), (18, ia fo), (19, lng dn), (20, ia ha), (21, ia pa), (22, ia bl)]) rfl rfl rfl l5 m5 (by decide) rfl hlen rfl rfl rfl ?_
  refine RT_step (pc2 := 132) rfl (fun _ _ => rfl) ?_
  refine ow_gf rfl rfl rfl hlen rfl ?_
  refine rt_ico rfl ki_0 ?_
  refine RT_step (pc2 := 137) rfl (fun _ _ => rfl) ?_
  refine ow_gf rfl rfl rfl hlen rfl ?_
  refine rt_ico rfl ki_0 ?_
  refine rt_bip rfl k8_8 ?_
  refine ow_cyL (m := 8) (l2 := [(133, dcl133 P Dn lw cl id gl bo), (134, lng pn), (135, ia ri), (136, ia lf), (137, ia wa), (138, ia fo), (139, lng dn), (140, ia ha2), (141, ia pa2), (142, ia bl2), (13, dcl13 P Dn lw cl id gl bo), (14, lng pn), (15, ia ri), (16, ia lf), (17, ia wa), (18, ia fo), (19, lng dn), (20, ia ha), (21, ia pa), (22, ia bl)]) rfl rfl rfl l6 m6 (by decide) rfl hlen rfl rfl rfl ?_
  refine RT_step (pc2 := 147) rfl (fun _ _ => rfl) ?_
  refine ow_gf rfl rfl rfl hlen rfl ?_
  refine rt_ico rfl ki_0 ?_
  refine RT_step (pc2 := 152) rfl (fun _ _ => rfl) ?_
  refine ow_gf rfl rfl rfl hlen rfl ?_
  refine rt_ico rfl ki_0 ?_
  refine rt_bip rfl k8_8 ?_
  refine ow_cyI (m := 8) (l2 := [(133, dcl133 P Dn lw cl id gl bo), (134, lng pn), (135, ia ri), (136, ia lf), (137, ia wa), (138, ia fo), (139, lng dn), (140, ia ha), (141, ia pa2), (142, ia bl2), (13, dcl13 P Dn lw cl id gl bo), (14, lng pn), (15, ia ri), (16, ia lf), (17, ia wa), (18, ia fo), (19, lng dn), (20, ia ha), (21, ia pa), (22, ia bl)]) rfl rfl rfl l7 m7 (by decide) rfl hlen rfl rfl rfl ?_
  refine RT_step (pc2 := 162) rfl (fun _ _ => rfl) ?_
  refine ow_gf rfl rfl rfl hlen rfl ?_
  refine rt_ico rfl ki_0 ?_
  refine RT_step (pc2 := 167) rfl (fun _ _ => rfl) ?_
  refine ow_gf rfl rfl rfl hlen rfl ?_
  refine rt_ico rfl ki_0 ?_
  refine rt_bip rfl k8_8 ?_
  refine ow_cyI (m := 8) (l2 := [(133, dcl133 P Dn lw cl id gl bo), (134, lng pn), (135, ia ri), (136, ia lf), (137, ia wa), (138, ia fo), (139, lng dn), (140, ia ha), (141, ia pa), (142, ia bl2), (13, dcl13 P Dn lw cl id gl bo), (14, lng pn), (15, ia ri), (16, ia lf), (17, ia wa), (18, ia fo), (19, lng dn), (20, ia ha), (21, ia pa), (22, ia bl)]) rfl rfl rfl l8 m8 (by decide) rfl hlen rfl rfl rfl ?_
  refine RT_step (pc2 := 177) rfl (fun _ _ => rfl) ?_
  refine ow_gf rfl rfl rfl hlen rfl ?_
  refine rt_ico rfl ki_0 ?_
  refine RT_step (pc2 := 182) rfl (fun _ _ => rfl) ?_
  refine ow_gf rfl rfl rfl hlen rfl ?_
  refine rt_ico rfl ki_0 ?_
  refine rt_bip rfl k8_8 ?_
  refine ow_cyI (m := 8) (l2 := [(133, dcl133 P Dn lw cl id gl bo), (134, lng pn), (135, ia ri), (136, ia lf), (137, ia wa), (138, ia fo), (139, lng dn), (140, ia ha), (141, ia pa), (142, ia bl), (13, dcl13 P Dn lw cl id gl bo), (14, lng pn), (15, ia ri), (16, ia lf), (17, ia wa), (18, ia fo), (19, lng dn), (20, ia ha), (21, ia pa), (22, ia bl)]) rfl rfl rfl l9 m9 (by decide) rfl hlen rfl rfl rfl ?_
  exact ow_ret rfl rfl rfl
theorem x_copy157_3 {H : List AE} (hlen : Nat.ble 204 H.length = true) {P : Nat} {Dn : Nat} {lw : Int32} {cl : Int32} {id : Int32} {gl : Nat} {bo : Nat} {pn : List Int64} {ri : List Int32} {lf : List Int32} {wa : List Int32} {fo : List Int32} {dn : List Int64} {ha : List Int32} {pa : List Int32} {bl : List Int32} {P2 : Nat} {Dn2 : Nat} {lw2 : Int32} {cl2 : Int32} {id2 : Int32} {gl2 : Nat} {bo2 : Nat} {pn2 : List Int64} {ri2 : List Int32} {lf2 : List Int32} {wa2 : List Int32} {fo2 : List Int32} {dn2 : List Int64} {ha2 : List Int32} {pa2 : List Int32} {bl2 : List Int32} (l : DL pn ri lf wa fo dn ha pa bl) (m : DL pn2 ri2 lf2 wa2 fo2 dn2 ha2 pa2 bl2) : FR 1 62 [.ref 157, .ref 3] (ov H [(157, dcl157 P2 Dn2 lw2 cl2 id2 gl2 bo2), (158, lng pn2), (159, ia ri2), (160, ia lf2), (161, ia wa2), (162, ia fo2), (163, lng dn2), (164, ia ha2), (165, ia pa2), (166, ia bl2), (3, dcl3 P Dn lw cl id gl bo), (4, lng pn), (5, ia ri), (6, ia lf), (7, ia wa), (8, ia fo), (9, lng dn), (10, ia ha), (11, ia pa), (12, ia bl)]) (none, ov (ov H [(157, dcl157 P2 Dn2 lw2 cl2 id2 gl2 bo2), (158, lng pn2), (159, ia ri2), (160, ia lf2), (161, ia wa2), (162, ia fo2), (163, lng dn2), (164, ia ha2), (165, ia pa2), (166, ia bl2), (3, dcl3 P Dn lw cl id gl bo), (4, lng pn), (5, ia ri), (6, ia lf), (7, ia wa), (8, ia fo), (9, lng dn), (10, ia ha), (11, ia pa), (12, ia bl)]) [(157, dcl157 P Dn lw cl id gl bo), (158, lng pn), (159, ia ri), (160, ia lf), (161, ia wa), (162, ia fo), (163, lng dn), (164, ia ha), (165, ia pa), (166, ia bl), (3, dcl3 P Dn lw cl id gl bo), (4, lng pn), (5, ia ri), (6, ia lf), (7, ia wa), (8, ia fo), (9, lng dn), (10, ia ha), (11, ia pa), (12, ia bl)]) := by
  obtain ⟨l1, l2, l3, l4, l5, l6, l7, l8, l9⟩ := l
  obtain ⟨m1, m2, m3, m4, m5, m6, m7, m8, m9⟩ := m
  refine FR_st3 (l2 := [(157, dcl157 P Dn lw cl id gl bo), (158, lng pn), (159, ia ri), (160, ia lf), (161, ia wa), (162, ia fo), (163, lng dn), (164, ia ha), (165, ia pa), (166, ia bl), (3, dcl3 P Dn lw cl id gl bo), (4, lng pn), (5, ia ri), (6, ia lf), (7, ia wa), (8, ia fo), (9, lng dn), (10, ia ha), (11, ia pa), (12, ia bl)]) rfl rfl rfl ?_
  refine RT_step (pc2 := 1) rfl (fun _ _ => rfl) ?_
  refine RT_step (pc2 := 2) rfl (fun _ _ => rfl) ?_
  refine ow_gf rfl rfl rfl hlen rfl ?_
  refine ow_pf (l2 := [(157, dcl157 P Dn2 lw2 cl2 id2 gl2 bo2), (158, lng pn2), (159, ia ri2), (160, ia lf2), (161, ia wa2), (162, ia fo2), (163, lng dn2), (164, ia ha2), (165, ia pa2), (166, ia bl2), (3, dcl3 P Dn lw cl id gl bo), (4, lng pn), (5, ia ri), (6, ia lf), (7, ia wa), (8, ia fo), (9, lng dn), (10, ia ha), (11, ia pa), (12, ia bl)]) rfl rfl rfl rfl rfl hlen rfl rfl ?_
  refine RT_step (pc2 := 9) rfl (fun _ _ => rfl) ?_
  refine RT_step (pc2 := 10) rfl (fun _ _ => rfl) ?_
  refine ow_gf rfl rfl rfl hlen rfl ?_
  refine ow_pf (l2 := [(157, dcl157 P Dn lw2 cl2 id2 gl2 bo2), (158, lng pn2), (159, ia ri2), (160, ia lf2), (161, ia wa2), (162, ia fo2), (163, lng dn2), (164, ia ha2), (165, ia pa2), (166, ia bl2), (3, dcl3 P Dn lw cl id gl bo), (4, lng pn), (5, ia ri), (6, ia lf), (7, ia wa), (8, ia fo), (9, lng dn), (10, ia ha), (11, ia pa), (12, ia bl)]) rfl rfl rfl rfl rfl hlen rfl rfl ?_
  refine RT_step (pc2 := 17) rfl (fun _ _ => rfl) ?_
  refine RT_step (pc2 := 18) rfl (fun _ _ => rfl) ?_
  refine ow_gf rfl rfl rfl hlen rfl ?_
  refine ow_pf (l2 := [(157, dcl157 P Dn lw cl2 id2 gl2 bo2), (158, lng pn2), (159, ia ri2), (160, ia lf2), (161, ia wa2), (162, ia fo2), (163, lng dn2), (164, ia ha2), (165, ia pa2), (166, ia bl2), (3, dcl3 P Dn lw cl id gl bo), (4, lng pn), (5, ia ri), (6, ia lf), (7, ia wa), (8, ia fo), (9, lng dn), (10, ia ha), (11, ia pa), (12, ia bl)]) rfl rfl rfl rfl rfl hlen rfl rfl ?_
  refine RT_step (pc2 := 25) rfl (fun _ _ => rfl) ?_
  refine RT_step (pc2 := 26) rfl (fun _ _ => rfl) ?_
  refine ow_gf rfl rfl rfl hlen rfl ?_
  refine ow_pf (l2 := [(157, dcl157 P Dn lw cl id2 gl2 bo2), (158, lng pn2), (159, ia ri2), (160, ia lf2), (161, ia wa2), (162, ia fo2), (163, lng dn2), (164, ia ha2), (165, ia pa2), (166, ia bl2), (3, dcl3 P Dn lw cl id gl bo), (4, lng pn), (5, ia ri), (6, ia lf), (7, ia wa), (8, ia fo), (9, lng dn), (10, ia ha), (11, ia pa), (12, ia bl)]) rfl rfl rfl rfl rfl hlen rfl rfl ?_
  refine RT_step (pc2 := 33) rfl (fun _ _ => rfl) ?_
  refine RT_step (pc2 := 34) rfl (fun _ _ => rfl) ?_
  refine ow_gf rfl rfl rfl hlen rfl ?_
  refine ow_pf (l2 := [(157, dcl157 P Dn lw cl id gl2 bo2), (158, lng pn2), (159, ia ri2), (160, ia lf2), (161, ia wa2), (162, ia fo2), (163, lng dn2), (164, ia ha2), (165, ia pa2), (166, ia bl2), (3, dcl3 P Dn lw cl id gl bo), (4, lng pn), (5, ia ri), (6, ia lf), (7, ia wa), (8, ia fo), (9, lng dn), (10, ia ha), (11, ia pa), (12, ia bl)]) rfl rfl rfl rfl rfl hlen rfl rfl ?_
  refine RT_step (pc2 := 41) rfl (fun _ _ => rfl) ?_
  refine RT_step (pc2 := 42) rfl (fun _ _ => rfl) ?_
  refine ow_gf rfl rfl rfl hlen rfl ?_
  refine ow_pf (l2 := [(157, dcl157 P Dn lw cl id gl bo2), (158, lng pn2), (159, ia ri2), (160, ia lf2), (161, ia wa2), (162, ia fo2), (163, lng dn2), (164, ia ha2), (165, ia pa2), (166, ia bl2), (3, dcl3 P Dn lw cl id gl bo), (4, lng pn), (5, ia ri), (6, ia lf), (7, ia wa), (8, ia fo), (9, lng dn), (10, ia ha), (11, ia pa), (12, ia bl)]) rfl rfl rfl rfl rfl hlen rfl rfl ?_
  refine RT_step (pc2 := 49) rfl (fun _ _ => rfl) ?_
  refine RT_step (pc2 := 50) rfl (fun _ _ => rfl) ?_
  refine ow_gf rfl rfl rfl hlen rfl ?_
  refine ow_pf (l2 := [(157, dcl157 P Dn lw cl id gl bo), (158, lng pn2), (159, ia ri2), (160, ia lf2), (161, ia wa2), (162, ia fo2), (163, lng dn2), (164, ia ha2), (165, ia pa2), (166, ia bl2), (3, dcl3 P Dn lw cl id gl bo), (4, lng pn), (5, ia ri), (6, ia lf), (7, ia wa), (8, ia fo), (9, lng dn), (10, ia ha), (11, ia pa), (12, ia bl)]) rfl rfl rfl rfl rfl hlen rfl rfl ?_
  refine RT_step (pc2 := 57) rfl (fun _ _ => rfl) ?_
  refine ow_gf rfl rfl rfl hlen rfl ?_
  refine rt_ico rfl ki_0 ?_
  refine RT_step (pc2 := 62) rfl (fun _ _ => rfl) ?_
  refine ow_gf rfl rfl rfl hlen rfl ?_
  refine rt_ico rfl ki_0 ?_
  refine rt_bip rfl k8_7 ?_
  refine ow_cyL (m := 7) (l2 := [(157, dcl157 P Dn lw cl id gl bo), (158, lng pn), (159, ia ri2), (160, ia lf2), (161, ia wa2), (162, ia fo2), (163, lng dn2), (164, ia ha2), (165, ia pa2), (166, ia bl2), (3, dcl3 P Dn lw cl id gl bo), (4, lng pn), (5, ia ri), (6, ia lf), (7, ia wa), (8, ia fo), (9, lng dn), (10, ia ha), (11, ia pa), (12, ia bl)]) rfl rfl rfl l1 m1 (by decide) rfl hlen rfl rfl rfl ?_
  refine RT_step (pc2 := 72) rfl (fun _ _ => rfl) ?_
  refine ow_gf rfl rfl rfl hlen rfl ?_
  refine rt_ico rfl ki_0 ?_
  refine RT_step (pc2 := 77) rfl (fun _ _ => rfl) ?_
  refine ow_gf rfl rfl rfl hlen rfl ?_
  refine rt_ico rfl ki_0 ?_
  refine rt_bip rfl k8_7 ?_
  refine ow_cyI (m := 7) (l2 := [(157, dcl157 P Dn lw cl id gl bo), (158, lng pn), (159, ia ri), (160, ia lf2), (161, ia wa2), (162, ia fo2), (163, lng dn2), (164, ia ha2), (165, ia pa2), (166, ia bl2), (3, dcl3 P Dn lw cl id gl bo), (4, lng pn), (5, ia ri), (6, ia lf), (7, ia wa), (8, ia fo), (9, lng dn), (10, ia ha), (11, ia pa), (12, ia bl)]) rfl rfl rfl l2 m2 (by decide) rfl hlen rfl rfl rfl ?_
  refine RT_step (pc2 := 87) rfl (fun _ _ => rfl) ?_
  refine ow_gf rfl rfl rfl hlen rfl ?_
  refine rt_ico rfl ki_0 ?_
  refine RT_step (pc2 := 92) rfl (fun _ _ => rfl) ?_
  refine ow_gf rfl rfl rfl hlen rfl ?_
  refine rt_ico rfl ki_0 ?_
  refine rt_bip rfl k8_7 ?_
  refine ow_cyI (m := 7) (l2 := [(157, dcl157 P Dn lw cl id gl bo), (158, lng pn), (159, ia ri), (160, ia lf), (161, ia wa2), (162, ia fo2), (163, lng dn2), (164, ia ha2), (165, ia pa2), (166, ia bl2), (3, dcl3 P Dn lw cl id gl bo), (4, lng pn), (5, ia ri), (6, ia lf), (7, ia wa), (8, ia fo), (9, lng dn), (10, ia ha), (11, ia pa), (12, ia bl)]) rfl rfl rfl l3 m3 (by decide) rfl hlen rfl rfl rfl ?_
  refine RT_step (pc2 := 102) rfl (fun _ _ => rfl) ?_
  refine ow_gf rfl rfl rfl hlen rfl ?_
  refine rt_ico rfl ki_0 ?_
  refine RT_step (pc2 := 107) rfl (fun _ _ => rfl) ?_
  refine ow_gf rfl rfl rfl hlen rfl ?_
  refine rt_ico rfl ki_0 ?_
  refine rt_bip rfl k8_7 ?_
  refine ow_cyI (m := 7) (l2 := [(157, dcl157 P Dn lw cl id gl bo), (158, lng pn), (159, ia ri), (160, ia lf), (161, ia wa), (162, ia fo2), (163, lng dn2), (164, ia ha2), (165, ia pa2), (166, ia bl2), (3, dcl3 P Dn lw cl id gl bo), (4, lng pn), (5, ia ri), (6, ia lf), (7, ia wa), (8, ia fo), (9, lng dn), (10, ia ha), (11, ia pa), (12, ia bl)]) rfl rfl rfl l4 m4 (by decide) rfl hlen rfl rfl rfl ?_
  refine RT_step (pc2 := 117) rfl (fun _ _ => rfl) ?_
  refine ow_gf rfl rfl rfl hlen rfl ?_
  refine rt_ico rfl ki_0 ?_
  refine RT_step (pc2 := 122) rfl (fun _ _ => rfl) ?_
  refine ow_gf rfl rfl rfl hlen rfl ?_
  refine rt_ico rfl ki_0 ?_
  refine rt_bip rfl k8_49 ?_
  refine ow_cyI (m := 49) (l2 := [(157, dcl157 P Dn lw cl id gl bo), (158, lng pn), (159, ia ri), (160, ia lf), (161, ia wa), (162, ia fo), (163, lng dn2), (164, ia ha2), (165, ia pa2), (166, ia bl2), (3, dcl3 P Dn lw cl id gl bo), (4, lng pn), (5, ia ri), (6, ia lf), (7, ia wa), (8, ia fo), (9, lng dn), (10, ia ha), (11, ia pa), (12, ia bl)]) rfl rfl rfl l5 m5 (by decide) rfl hlen rfl rfl rfl ?_
  refine RT_step (pc2 := 132) rfl (fun _ _ => rfl) ?_
  refine ow_gf rfl rfl rfl hlen rfl ?_
  refine rt_ico rfl ki_0 ?_
  refine RT_step (pc2 := 137) rfl (fun _ _ => rfl) ?_
  refine ow_gf rfl rfl rfl hlen rfl ?_
  refine rt_ico rfl ki_0 ?_
  refine rt_bip rfl k8_8 ?_
  refine ow_cyL (m := 8) (l2 := [(157, dcl157 P Dn lw cl id gl bo), (158, lng pn), (159, ia ri), (160, ia lf), (161, ia wa), (162, ia fo), (163, lng dn), (164, ia ha2), (165, ia pa2), (166, ia bl2), (3, dcl3 P Dn lw cl id gl bo), (4, lng pn), (5, ia ri), (6, ia lf), (7, ia wa), (8, ia fo), (9, lng dn), (10, ia ha), (11, ia pa), (12, ia bl)]) rfl rfl rfl l6 m6 (by decide) rfl hlen rfl rfl rfl ?_
  refine RT_step (pc2 := 147) rfl (fun _ _ => rfl) ?_
  refine ow_gf rfl rfl rfl hlen rfl ?_
  refine rt_ico rfl ki_0 ?_
  refine RT_step (pc2 := 152) rfl (fun _ _ => rfl) ?_
  refine ow_gf rfl rfl rfl hlen rfl ?_
  refine rt_ico rfl ki_0 ?_
  refine rt_bip rfl k8_8 ?_
  refine ow_cyI (m := 8) (l2 := [(157, dcl157 P Dn lw cl id gl bo), (158, lng pn), (159, ia ri), (160, ia lf), (161, ia wa), (162, ia fo), (163, lng dn), (164, ia ha), (165, ia pa2), (166, ia bl2), (3, dcl3 P Dn lw cl id gl bo), (4, lng pn), (5, ia ri), (6, ia lf), (7, ia wa), (8, ia fo), (9, lng dn), (10, ia ha), (11, ia pa), (12, ia bl)]) rfl rfl rfl l7 m7 (by decide) rfl hlen rfl rfl rfl ?_
  refine RT_step (pc2 := 162) rfl (fun _ _ => rfl) ?_
  refine ow_gf rfl rfl rfl hlen rfl ?_
  refine rt_ico rfl ki_0 ?_
  refine RT_step (pc2 := 167) rfl (fun _ _ => rfl) ?_
  refine ow_gf rfl rfl rfl hlen rfl ?_
  refine rt_ico rfl ki_0 ?_
  refine rt_bip rfl k8_8 ?_
  refine ow_cyI (m := 8) (l2 := [(157, dcl157 P Dn lw cl id gl bo), (158, lng pn), (159, ia ri), (160, ia lf), (161, ia wa), (162, ia fo), (163, lng dn), (164, ia ha), (165, ia pa), (166, ia bl2), (3, dcl3 P Dn lw cl id gl bo), (4, lng pn), (5, ia ri), (6, ia lf), (7, ia wa), (8, ia fo), (9, lng dn), (10, ia ha), (11, ia pa), (12, ia bl)]) rfl rfl rfl l8 m8 (by decide) rfl hlen rfl rfl rfl ?_
  refine RT_step (pc2 := 177) rfl (fun _ _ => rfl) ?_
  refine ow_gf rfl rfl rfl hlen rfl ?_
  refine rt_ico rfl ki_0 ?_
  refine RT_step (pc2 := 182) rfl (fun _ _ => rfl) ?_
  refine ow_gf rfl rfl rfl hlen rfl ?_
  refine rt_ico rfl ki_0 ?_
  refine rt_bip rfl k8_8 ?_
  refine ow_cyI (m := 8) (l2 := [(157, dcl157 P Dn lw cl id gl bo), (158, lng pn), (159, ia ri), (160, ia lf), (161, ia wa), (162, ia fo), (163, lng dn), (164, ia ha), (165, ia pa), (166, ia bl), (3, dcl3 P Dn lw cl id gl bo), (4, lng pn), (5, ia ri), (6, ia lf), (7, ia wa), (8, ia fo), (9, lng dn), (10, ia ha), (11, ia pa), (12, ia bl)]) rfl rfl rfl l9 m9 (by decide) rfl hlen rfl rfl rfl ?_
  exact ow_ret rfl rfl rfl
theorem x_copy157_13 {H : List AE} (hlen : Nat.ble 204 H.length = true) {P : Nat} {Dn : Nat} {lw : Int32} {cl : Int32} {id : Int32} {gl : Nat} {bo : Nat} {pn : List Int64} {ri : List Int32} {lf : List Int32} {wa : List Int32} {fo : List Int32} {dn : List Int64} {ha : List Int32} {pa : List Int32} {bl : List Int32} {P2 : Nat} {Dn2 : Nat} {lw2 : Int32} {cl2 : Int32} {id2 : Int32} {gl2 : Nat} {bo2 : Nat} {pn2 : List Int64} {ri2 : List Int32} {lf2 : List Int32} {wa2 : List Int32} {fo2 : List Int32} {dn2 : List Int64} {ha2 : List Int32} {pa2 : List Int32} {bl2 : List Int32} (l : DL pn ri lf wa fo dn ha pa bl) (m : DL pn2 ri2 lf2 wa2 fo2 dn2 ha2 pa2 bl2) : FR 1 62 [.ref 157, .ref 13] (ov H [(157, dcl157 P2 Dn2 lw2 cl2 id2 gl2 bo2), (158, lng pn2), (159, ia ri2), (160, ia lf2), (161, ia wa2), (162, ia fo2), (163, lng dn2), (164, ia ha2), (165, ia pa2), (166, ia bl2), (13, dcl13 P Dn lw cl id gl bo), (14, lng pn), (15, ia ri), (16, ia lf), (17, ia wa), (18, ia fo), (19, lng dn), (20, ia ha), (21, ia pa), (22, ia bl)]) (none, ov (ov H [(157, dcl157 P2 Dn2 lw2 cl2 id2 gl2 bo2), (158, lng pn2), (159, ia ri2), (160, ia lf2), (161, ia wa2), (162, ia fo2), (163, lng dn2), (164, ia ha2), (165, ia pa2), (166, ia bl2), (13, dcl13 P Dn lw cl id gl bo), (14, lng pn), (15, ia ri), (16, ia lf), (17, ia wa), (18, ia fo), (19, lng dn), (20, ia ha), (21, ia pa), (22, ia bl)]) [(157, dcl157 P Dn lw cl id gl bo), (158, lng pn), (159, ia ri), (160, ia lf), (161, ia wa), (162, ia fo), (163, lng dn), (164, ia ha), (165, ia pa), (166, ia bl), (13, dcl13 P Dn lw cl id gl bo), (14, lng pn), (15, ia ri), (16, ia lf), (17, ia wa), (18, ia fo), (19, lng dn), (20, ia ha), (21, ia pa), (22, ia bl)]) := by
  obtain ⟨l1, l2, l3, l4, l5, l6, l7, l8, l9⟩ := l
  obtain ⟨m1, m2, m3, m4, m5, m6, m7, m8, m9⟩ := m
  refine FR_st3 (l2 := [(157, dcl157 P Dn lw cl id gl bo), (158, lng pn), (159, ia ri), (160, ia lf), (161, ia wa), (162, ia fo), (163, lng dn), (164, ia ha), (165, ia pa), (166, ia bl), (13, dcl13 P Dn lw cl id gl bo), (14, lng pn), (15, ia ri), (16, ia lf), (17, ia wa), (18, ia fo), (19, lng dn), (20, ia ha), (21, ia pa), (22, ia bl)]) rfl rfl rfl ?_
  refine RT_step (pc2 := 1) rfl (fun _ _ => rfl) ?_
  refine RT_step (pc2 := 2) rfl (fun _ _ => rfl) ?_
  refine ow_gf rfl rfl rfl hlen rfl ?_
  refine ow_pf (l2 := [(157, dcl157 P Dn2 lw2 cl2 id2 gl2 bo2), (158, lng pn2), (159, ia ri2), (160, ia lf2), (161, ia wa2), (162, ia fo2), (163, lng dn2), (164, ia ha2), (165, ia pa2), (166, ia bl2), (13, dcl13 P Dn lw cl id gl bo), (14, lng pn), (15, ia ri), (16, ia lf), (17, ia wa), (18, ia fo), (19, lng dn), (20, ia ha), (21, ia pa), (22, ia bl)]) rfl rfl rfl rfl rfl hlen rfl rfl ?_
  refine RT_step (pc2 := 9) rfl (fun _ _ => rfl) ?_
  refine RT_step (pc2 := 10) rfl (fun _ _ => rfl) ?_
  refine ow_gf rfl rfl rfl hlen rfl ?_
  refine ow_pf (l2 := [(157, dcl157 P Dn lw2 cl2 id2 gl2 bo2), (158, lng pn2), (159, ia ri2), (160, ia lf2), (161, ia wa2), (162, ia fo2), (163, lng dn2), (164, ia ha2), (165, ia pa2), (166, ia bl2), (13, dcl13 P Dn lw cl id gl bo), (14, lng pn), (15, ia ri), (16, ia lf), (17, ia wa), (18, ia fo), (19, lng dn), (20, ia ha), (21, ia pa), (22, ia bl)]) rfl rfl rfl rfl rfl hlen rfl rfl ?_
  refine RT_step (pc2 := 17) rfl (fun _ _ => rfl) ?_
  refine RT_step (pc2 := 18) rfl (fun _ _ => rfl) ?_
  refine ow_gf rfl rfl rfl hlen rfl ?_
  refine ow_pf (l2 := [(157, dcl157 P Dn lw cl2 id2 gl2 bo2), (158, lng pn2), (159, ia ri2), (160, ia lf2), (161, ia wa2), (162, ia fo2), (163, lng dn2), (164, ia ha2), (165, ia pa2), (166, ia bl2), (13, dcl13 P Dn lw cl id gl bo), (14, lng pn), (15, ia ri), (16, ia lf), (17, ia wa), (18, ia fo), (19, lng dn), (20, ia ha), (21, ia pa), (22, ia bl)]) rfl rfl rfl rfl rfl hlen rfl rfl ?_
  refine RT_step (pc2 := 25) rfl (fun _ _ => rfl) ?_
  refine RT_step (pc2 := 26) rfl (fun _ _ => rfl) ?_
  refine ow_gf rfl rfl rfl hlen rfl ?_
  refine ow_pf (l2 := [(157, dcl157 P Dn lw cl id2 gl2 bo2), (158, lng pn2), (159, ia ri2), (160, ia lf2), (161, ia wa2), (162, ia fo2), (163, lng dn2), (164, ia ha2), (165, ia pa2), (166, ia bl2), (13, dcl13 P Dn lw cl id gl bo), (14, lng pn), (15, ia ri), (16, ia lf), (17, ia wa), (18, ia fo), (19, lng dn), (20, ia ha), (21, ia pa), (22, ia bl)]) rfl rfl rfl rfl rfl hlen rfl rfl ?_
  refine RT_step (pc2 := 33) rfl (fun _ _ => rfl) ?_
  refine RT_step (pc2 := 34) rfl (fun _ _ => rfl) ?_
  refine ow_gf rfl rfl rfl hlen rfl ?_
  refine ow_pf (l2 := [(157, dcl157 P Dn lw cl id gl2 bo2), (158, lng pn2), (159, ia ri2), (160, ia lf2), (161, ia wa2), (162, ia fo2), (163, lng dn2), (164, ia ha2), (165, ia pa2), (166, ia bl2), (13, dcl13 P Dn lw cl id gl bo), (14, lng pn), (15, ia ri), (16, ia lf), (17, ia wa), (18, ia fo), (19, lng dn), (20, ia ha), (21, ia pa), (22, ia bl)]) rfl rfl rfl rfl rfl hlen rfl rfl ?_
  refine RT_step (pc2 := 41) rfl (fun _ _ => rfl) ?_
  refine RT_step (pc2 := 42) rfl (fun _ _ => rfl) ?_
  refine ow_gf rfl rfl rfl hlen rfl ?_
  refine ow_pf (l2 := [(157, dcl157 P Dn lw cl id gl bo2), (158, lng pn2), (159, ia ri2), (160, ia lf2), (161, ia wa2), (162, ia fo2), (163, lng dn2), (164, ia ha2), (165, ia pa2), (166, ia bl2), (13, dcl13 P Dn lw cl id gl bo), (14, lng pn), (15, ia ri), (16, ia lf), (17, ia wa), (18, ia fo), (19, lng dn), (20, ia ha), (21, ia pa), (22, ia bl)]) rfl rfl rfl rfl rfl hlen rfl rfl ?_
  refine RT_step (pc2 := 49) rfl (fun _ _ => rfl) ?_
  refine RT_step (pc2 := 50) rfl (fun _ _ => rfl) ?_
  refine ow_gf rfl rfl rfl hlen rfl ?_
  refine ow_pf (l2 := [(157, dcl157 P Dn lw cl id gl bo), (158, lng pn2), (159, ia ri2), (160, ia lf2), (161, ia wa2), (162, ia fo2), (163, lng dn2), (164, ia ha2), (165, ia pa2), (166, ia bl2), (13, dcl13 P Dn lw cl id gl bo), (14, lng pn), (15, ia ri), (16, ia lf), (17, ia wa), (18, ia fo), (19, lng dn), (20, ia ha), (21, ia pa), (22, ia bl)]) rfl rfl rfl rfl rfl hlen rfl rfl ?_
  refine RT_step (pc2 := 57) rfl (fun _ _ => rfl) ?_
  refine ow_gf rfl rfl rfl hlen rfl ?_
  refine rt_ico rfl ki_0 ?_
  refine RT_step (pc2 := 62) rfl (fun _ _ => rfl) ?_
  refine ow_gf rfl rfl rfl hlen rfl ?_
  refine rt_ico rfl ki_0 ?_
  refine rt_bip rfl k8_7 ?_
  refine ow_cyL (m := 7) (l2 := [(157, dcl157 P Dn lw cl id gl bo), (158, lng pn), (159, ia ri2), (160, ia lf2), (161, ia wa2), (162, ia fo2), (163, lng dn2), (164, ia ha2), (165, ia pa2), (166, ia bl2), (13, dcl13 P Dn lw cl id gl bo), (14, lng pn), (15, ia ri), (16, ia lf), (17, ia wa), (18, ia fo), (19, lng dn), (20, ia ha), (21, ia pa), (22, ia bl)]) rfl rfl rfl l1 m1 (by decide) rfl hlen rfl rfl rfl ?_
  refine RT_step (pc2 := 72) rfl (fun _ _ => rfl) ?_
  refine ow_gf rfl rfl rfl hlen rfl ?_
  refine rt_ico rfl ki_0 ?_
  refine RT_step (pc2 := 77) rfl (fun _ _ => rfl) ?_
  refine ow_gf rfl rfl rfl hlen rfl ?_
  refine rt_ico rfl ki_0 ?_
  refine rt_bip rfl k8_7 ?_
  refine ow_cyI (m := 7) (l2 := [(157, dcl157 P Dn lw cl id gl bo), (158, lng pn), (159, ia ri), (160, ia lf2), (161, ia wa2), (162, ia fo2), (163, lng dn2), (164, ia ha2), (165, ia pa2), (166, ia bl2), (13, dcl13 P Dn lw cl id gl bo), (14, lng pn), (15, ia ri), (16, ia lf), (17, ia wa), (18, ia fo), (19, lng dn), (20, ia ha), (21, ia pa), (22, ia bl)]) rfl rfl rfl l2 m2 (by decide) rfl hlen rfl rfl rfl ?_
  refine RT_step (pc2 := 87) rfl (fun _ _ => rfl) ?_
  refine ow_gf rfl rfl rfl hlen rfl ?_
  refine rt_ico rfl ki_0 ?_
  refine RT_step (pc2 := 92) rfl (fun _ _ => rfl) ?_
  refine ow_gf rfl rfl rfl hlen rfl ?_
  refine rt_ico rfl ki_0 ?_
  refine rt_bip rfl k8_7 ?_
  refine ow_cyI (m := 7) (l2 := [(157, dcl157 P Dn lw cl id gl bo), (158, lng pn), (159, ia ri), (160, ia lf), (161, ia wa2), (162, ia fo2), (163, lng dn2), (164, ia ha2), (165, ia pa2), (166, ia bl2), (13, dcl13 P Dn lw cl id gl bo), (14, lng pn), (15, ia ri), (16, ia lf), (17, ia wa), (18, ia fo), (19, lng dn), (20, ia ha), (21, ia pa), (22, ia bl)]) rfl rfl rfl l3 m3 (by decide) rfl hlen rfl rfl rfl ?_
  refine RT_step (pc2 := 102) rfl (fun _ _ => rfl) ?_
  refine ow_gf rfl rfl rfl hlen rfl ?_
  refine rt_ico rfl ki_0 ?_
  refine RT_step (pc2 := 107) rfl (fun _ _ => rfl) ?_
  refine ow_gf rfl rfl rfl hlen rfl ?_
  refine rt_ico rfl ki_0 ?_
  refine rt_bip rfl k8_7 ?_
  refine ow_cyI (m := 7) (l2 := [(157, dcl157 P Dn lw cl id gl bo), (158, lng pn), (159, ia ri), (160, ia lf), (161, ia wa), (162, ia fo2), (163, lng dn2), (164, ia ha2), (165, ia pa2), (166, ia bl2), (13, dcl13 P Dn lw cl id gl bo), (14, lng pn), (15, ia ri), (16, ia lf), (17, ia wa), (18, ia fo), (19, lng dn), (20, ia ha), (21, ia pa), (22, ia bl)]) rfl rfl rfl l4 m4 (by decide) rfl hlen rfl rfl rfl ?_
  refine RT_step (pc2 := 117) rfl (fun _ _ => rfl) ?_
  refine ow_gf rfl rfl rfl hlen rfl ?_
  refine rt_ico rfl ki_0 ?_
  refine RT_step (pc2 := 122) rfl (fun _ _ => rfl) ?_
  refine ow_gf rfl rfl rfl hlen rfl ?_
  refine rt_ico rfl ki_0 ?_
  refine rt_bip rfl k8_49 ?_
  refine ow_cyI (m := 49) (l2 := [(157, dcl157 P Dn lw cl id gl bo), (158, lng pn), (159, ia ri), (160, ia lf), (161, ia wa), (162, ia fo), (163, lng dn2), (164, ia ha2), (165, ia pa2), (166, ia bl2), (13, dcl13 P Dn lw cl id gl bo), (14, lng pn), (15, ia ri), (16, ia lf), (17, ia wa), (18, ia fo), (19, lng dn), (20, ia ha), (21, ia pa), (22, ia bl)]) rfl rfl rfl l5 m5 (by decide) rfl hlen rfl rfl rfl ?_
  refine RT_step (pc2 := 132) rfl (fun _ _ => rfl) ?_
  refine ow_gf rfl rfl rfl hlen rfl ?_
  refine rt_ico rfl ki_0 ?_
  refine RT_step (pc2 := 137) rfl (fun _ _ => rfl) ?_
  refine ow_gf rfl rfl rfl hlen rfl ?_
  refine rt_ico rfl ki_0 ?_
  refine rt_bip rfl k8_8 ?_
  refine ow_cyL (m := 8) (l2 := [(157, dcl157 P Dn lw cl id gl bo), (158, lng pn), (159, ia ri), (160, ia lf), (161, ia wa), (162, ia fo), (163, lng dn), (164, ia ha2), (165, ia pa2), (166, ia bl2), (13, dcl13 P Dn lw cl id gl bo), (14, lng pn), (15, ia ri), (16, ia lf), (17, ia wa), (18, ia fo), (19, lng dn), (20, ia ha), (21, ia pa), (22, ia bl)]) rfl rfl rfl l6 m6 (by decide) rfl hlen rfl rfl rfl ?_
  refine RT_step (pc2 := 147) rfl (fun _ _ => rfl) ?_
  refine ow_gf rfl rfl rfl hlen rfl ?_
  refine rt_ico rfl ki_0 ?_
  refine RT_step (pc2 := 152) rfl (fun _ _ => rfl) ?_
  refine ow_gf rfl rfl rfl hlen rfl ?_
  refine rt_ico rfl ki_0 ?_
  refine rt_bip rfl k8_8 ?_
  refine ow_cyI (m := 8) (l2 := [(157, dcl157 P Dn lw cl id gl bo), (158, lng pn), (159, ia ri), (160, ia lf), (161, ia wa), (162, ia fo), (163, lng dn), (164, ia ha), (165, ia pa2), (166, ia bl2), (13, dcl13 P Dn lw cl id gl bo), (14, lng pn), (15, ia ri), (16, ia lf), (17, ia wa), (18, ia fo), (19, lng dn), (20, ia ha), (21, ia pa), (22, ia bl)]) rfl rfl rfl l7 m7 (by decide) rfl hlen rfl rfl rfl ?_
  refine RT_step (pc2 := 162) rfl (fun _ _ => rfl) ?_
  refine ow_gf rfl rfl rfl hlen rfl ?_
  refine rt_ico rfl ki_0 ?_
  refine RT_step (pc2 := 167) rfl (fun _ _ => rfl) ?_
  refine ow_gf rfl rfl rfl hlen rfl ?_
  refine rt_ico rfl ki_0 ?_
  refine rt_bip rfl k8_8 ?_
  refine ow_cyI (m := 8) (l2 := [(157, dcl157 P Dn lw cl id gl bo), (158, lng pn), (159, ia ri), (160, ia lf), (161, ia wa), (162, ia fo), (163, lng dn), (164, ia ha), (165, ia pa), (166, ia bl2), (13, dcl13 P Dn lw cl id gl bo), (14, lng pn), (15, ia ri), (16, ia lf), (17, ia wa), (18, ia fo), (19, lng dn), (20, ia ha), (21, ia pa), (22, ia bl)]) rfl rfl rfl l8 m8 (by decide) rfl hlen rfl rfl rfl ?_
  refine RT_step (pc2 := 177) rfl (fun _ _ => rfl) ?_
  refine ow_gf rfl rfl rfl hlen rfl ?_
  refine rt_ico rfl ki_0 ?_
  refine RT_step (pc2 := 182) rfl (fun _ _ => rfl) ?_
  refine ow_gf rfl rfl rfl hlen rfl ?_
  refine rt_ico rfl ki_0 ?_
  refine rt_bip rfl k8_8 ?_
  refine ow_cyI (m := 8) (l2 := [(157, dcl157 P Dn lw cl id gl bo), (158, lng pn), (159, ia ri), (160, ia lf), (161, ia wa), (162, ia fo), (163, lng dn), (164, ia ha), (165, ia pa), (166, ia bl), (13, dcl13 P Dn lw cl id gl bo), (14, lng pn), (15, ia ri), (16, ia lf), (17, ia wa), (18, ia fo), (19, lng dn), (20, ia ha), (21, ia pa), (22, ia bl)]) rfl rfl rfl l9 m9 (by decide) rfl hlen rfl rfl rfl ?_
  exact ow_ret rfl rfl rfl
theorem x_copy3_133 {H : List AE} (hlen : Nat.ble 204 H.length = true) {P : Nat} {Dn : Nat} {lw : Int32} {cl : Int32} {id : Int32} {gl : Nat} {bo : Nat} {pn : List Int64} {ri : List Int32} {lf : List Int32} {wa : List Int32} {fo : List Int32} {dn : List Int64} {ha : List Int32} {pa : List Int32} {bl : List Int32} {P2 : Nat} {Dn2 : Nat} {lw2 : Int32} {cl2 : Int32} {id2 : Int32} {gl2 : Nat} {bo2 : Nat} {pn2 : List Int64} {ri2 : List Int32} {lf2 : List Int32} {wa2 : List Int32} {fo2 : List Int32} {dn2 : List Int64} {ha2 : List Int32} {pa2 : List Int32} {bl2 : List Int32} (l : DL pn ri lf wa fo dn ha pa bl) (m : DL pn2 ri2 lf2 wa2 fo2 dn2 ha2 pa2 bl2) : FR 1 62 [.ref 3, .ref 133] (ov H [(3, dcl3 P2 Dn2 lw2 cl2 id2 gl2 bo2), (4, lng pn2), (5, ia ri2), (6, ia lf2), (7, ia wa2), (8, ia fo2), (9, lng dn2), (10, ia ha2), (11, ia pa2), (12, ia bl2), (133, dcl133 P Dn lw cl id gl bo), (134, lng pn), (135, ia ri), (136, ia lf), (137, ia wa), (138, ia fo), (139, lng dn), (140, ia ha), (141, ia pa), (142, ia bl)]) (none, ov (ov H [(3, dcl3 P2 Dn2 lw2 cl2 id2 gl2 bo2), (4, lng pn2), (5, ia ri2), (6, ia lf2), (7, ia wa2), (8, ia fo2), (9, lng dn2), (10, ia ha2), (11, ia pa2), (12, ia bl2), (133, dcl133 P Dn lw cl id gl bo), (134, lng pn), (135, ia ri), (136, ia lf), (137, ia wa), (138, ia fo), (139, lng dn), (140, ia ha), (141, ia pa), (142, ia bl)]) [(3, dcl3 P Dn lw cl id gl bo), (4, lng pn), (5, ia ri), (6, ia lf), (7, ia wa), (8, ia fo), (9, lng dn), (10, ia ha), (11, ia pa), (12, ia bl), (133, dcl133 P Dn lw cl id gl bo), (134, lng pn), (135, ia ri), (136, ia lf), (137, ia wa), (138, ia fo), (139, lng dn), (140, ia ha), (141, ia pa), (142, ia bl)]) := by
  obtain ⟨l1, l2, l3, l4, l5, l6, l7, l8, l9⟩ := l
  obtain ⟨m1, m2, m3, m4, m5, m6, m7, m8, m9⟩ := m
  refine FR_st3 (l2 := [(3, dcl3 P Dn lw cl id gl bo), (4, lng pn), (5, ia ri), (6, ia lf), (7, ia wa), (8, ia fo), (9, lng dn), (10, ia ha), (11, ia pa), (12, ia bl), (133, dcl133 P Dn lw cl id gl bo), (134, lng pn), (135, ia ri), (136, ia lf), (137, ia wa), (138, ia fo), (139, lng dn), (140, ia ha), (141, ia pa), (142, ia bl)]) rfl rfl rfl ?_
  refine RT_step (pc2 := 1) rfl (fun _ _ => rfl) ?_
  refine RT_step (pc2 := 2) rfl (fun _ _ => rfl) ?_
  refine ow_gf rfl rfl rfl hlen rfl ?_
  refine ow_pf (l2 := [(3, dcl3 P Dn2 lw2 cl2 id2 gl2 bo2), (4, lng pn2), (5, ia ri2), (6, ia lf2), (7, ia wa2), (8, ia fo2), (9, lng dn2), (10, ia ha2), (11, ia pa2), (12, ia bl2), (133, dcl133 P Dn lw cl id gl bo), (134, lng pn), (135, ia ri), (136, ia lf), (137, ia wa), (138, ia fo), (139, lng dn), (140, ia ha), (141, ia pa), (142, ia bl)]) rfl rfl rfl rfl rfl hlen rfl rfl ?_
  refine RT_step (pc2 := 9) rfl (fun _ _ => rfl) ?_
  refine RT_step (pc2 := 10) rfl (fun _ _ => rfl) ?_
  refine ow_gf rfl rfl rfl hlen rfl ?_
  refine ow_pf (l2 := [(3, dcl3 P Dn lw2 cl2 id2 gl2 bo2), (4, lng pn2), (5, ia ri2), (6, ia lf2), (7, ia wa2), (8, ia fo2), (9, lng dn2), (10, ia ha2), (11, ia pa2), (12, ia bl2), (133, dcl133 P Dn lw cl id gl bo), (134, lng pn), (135, ia ri), (136, ia lf), (137, ia wa), (138, ia fo), (139, lng dn), (140, ia ha), (141, ia pa), (142, ia bl)]) rfl rfl rfl rfl rfl hlen rfl rfl ?_
  refine RT_step (pc2 := 17) rfl (fun _ _ => rfl) ?_
  refine RT_step (pc2 := 18) rfl (fun _ _ => rfl) ?_
  refine ow_gf rfl rfl rfl hlen rfl ?_
  refine ow_pf (l2 := [(3, dcl3 P Dn lw cl2 id2 gl2 bo2), (4, lng pn2), (5, ia ri2), (6, ia lf2), (7, ia wa2), (8, ia fo2), (9, lng dn2), (10, ia ha2), (11, ia pa2), (12, ia bl2), (133, dcl133 P Dn lw cl id gl bo), (134, lng pn), (135, ia ri), (136, ia lf), (137, ia wa), (138, ia fo), (139, lng dn), (140, ia ha), (141, ia pa), (142, ia bl)]) rfl rfl rfl rfl rfl hlen rfl rfl ?_
  refine RT_step (pc2 := 25) rfl (fun _ _ => rfl) ?_
  refine RT_step (pc2 := 26) rfl (fun _ _ => rfl) ?_
  refine ow_gf rfl rfl rfl hlen rfl ?_
  refine ow_pf (l2 := [(3, dcl3 P Dn lw cl id2 gl2 bo2), (4, lng pn2), (5, ia ri2), (6, ia lf2), (7, ia wa2), (8, ia fo2), (9, lng dn2), (10, ia ha2), (11, ia pa2), (12, ia bl2), (133, dcl133 P Dn lw cl id gl bo), (134, lng pn), (135, ia ri), (136, ia lf), (137, ia wa), (138, ia fo), (139, lng dn), (140, ia ha), (141, ia pa), (142, ia bl)]) rfl rfl rfl rfl rfl hlen rfl rfl ?_
  refine RT_step (pc2 := 33) rfl (fun _ _ => rfl) ?_
  refine RT_step (pc2 := 34) rfl (fun _ _ => rfl) ?_
  refine ow_gf rfl rfl rfl hlen rfl ?_
  refine ow_pf (l2 := [(3, dcl3 P Dn lw cl id gl2 bo2), (4, lng pn2), (5, ia ri2), (6, ia lf2), (7, ia wa2), (8, ia fo2), (9, lng dn2), (10, ia ha2), (11, ia pa2), (12, ia bl2), (133, dcl133 P Dn lw cl id gl bo), (134, lng pn), (135, ia ri), (136, ia lf), (137, ia wa), (138, ia fo), (139, lng dn), (140, ia ha), (141, ia pa), (142, ia bl)]) rfl rfl rfl rfl rfl hlen rfl rfl ?_
  refine RT_step (pc2 := 41) rfl (fun _ _ => rfl) ?_
  refine RT_step (pc2 := 42) rfl (fun _ _ => rfl) ?_
  refine ow_gf rfl rfl rfl hlen rfl ?_
  refine ow_pf (l2 := [(3, dcl3 P Dn lw cl id gl bo2), (4, lng pn2), (5, ia ri2), (6, ia lf2), (7, ia wa2), (8, ia fo2), (9, lng dn2), (10, ia ha2), (11, ia pa2), (12, ia bl2), (133, dcl133 P Dn lw cl id gl bo), (134, lng pn), (135, ia ri), (136, ia lf), (137, ia wa), (138, ia fo), (139, lng dn), (140, ia ha), (141, ia pa), (142, ia bl)]) rfl rfl rfl rfl rfl hlen rfl rfl ?_
  refine RT_step (pc2 := 49) rfl (fun _ _ => rfl) ?_
  refine RT_step (pc2 := 50) rfl (fun _ _ => rfl) ?_
  refine ow_gf rfl rfl rfl hlen rfl ?_
  refine ow_pf (l2 := [(3, dcl3 P Dn lw cl id gl bo), (4, lng pn2), (5, ia ri2), (6, ia lf2), (7, ia wa2), (8, ia fo2), (9, lng dn2), (10, ia ha2), (11, ia pa2), (12, ia bl2), (133, dcl133 P Dn lw cl id gl bo), (134, lng pn), (135, ia ri), (136, ia lf), (137, ia wa), (138, ia fo), (139, lng dn), (140, ia ha), (141, ia pa), (142, ia bl)]) rfl rfl rfl rfl rfl hlen rfl rfl ?_
  refine RT_step (pc2 := 57) rfl (fun _ _ => rfl) ?_
  refine ow_gf rfl rfl rfl hlen rfl ?_
  refine rt_ico rfl ki_0 ?_
  refine RT_step (pc2 := 62) rfl (fun _ _ => rfl) ?_
  refine ow_gf rfl rfl rfl hlen rfl ?_
  refine rt_ico rfl ki_0 ?_
  refine rt_bip rfl k8_7 ?_
  refine ow_cyL (m := 7) (l2 := [(3, dcl3 P Dn lw cl id gl bo), (4, lng pn), (5, ia ri2), (6, ia lf2), (7, ia wa2), (8, ia fo2), (9, lng dn2), (10, ia ha2), (11, ia pa2), (12, ia bl2), (133, dcl133 P Dn lw cl id gl bo), (134, lng pn), (135, ia ri), (136, ia lf), (137, ia wa), (138, ia fo), (139, lng dn), (140, ia ha), (141, ia pa), (142, ia bl)]) rfl rfl rfl l1 m1 (by decide) rfl hlen rfl rfl rfl ?_
  refine RT_step (pc2 := 72) rfl (fun _ _ => rfl) ?_
  refine ow_gf rfl rfl rfl hlen rfl ?_
  refine rt_ico rfl ki_0 ?_
  refine RT_step (pc2 := 77) rfl (fun _ _ => rfl) ?_
  refine ow_gf rfl rfl rfl hlen rfl ?_
  refine rt_ico rfl ki_0 ?_
  refine rt_bip rfl k8_7 ?_
  refine ow_cyI (m := 7) (l2 := [(3, dcl3 P Dn lw cl id gl bo), (4, lng pn), (5, ia ri), (6, ia lf2), (7, ia wa2), (8, ia fo2), (9, lng dn2), (10, ia ha2), (11, ia pa2), (12, ia bl2), (133, dcl133 P Dn lw cl id gl bo), (134, lng pn), (135, ia ri), (136, ia lf), (137, ia wa), (138, ia fo), (139, lng dn), (140, ia ha), (141, ia pa), (142, ia bl)]) rfl rfl rfl l2 m2 (by decide) rfl hlen rfl rfl rfl ?_
  refine RT_step (pc2 := 87) rfl (fun _ _ => rfl) ?_
  refine ow_gf rfl rfl rfl hlen rfl ?_
  refine rt_ico rfl ki_0 ?_
  refine RT_step (pc2 := 92) rfl (fun _ _ => rfl) ?_
  refine ow_gf rfl rfl rfl hlen rfl ?_
  refine rt_ico rfl ki_0 ?_
  refine rt_bip rfl k8_7 ?_
  refine ow_cyI (m := 7) (l2 := [(3, dcl3 P Dn lw cl id gl bo), (4, lng pn), (5, ia ri), (6, ia lf), (7, ia wa2), (8, ia fo2), (9, lng dn2), (10, ia ha2), (11, ia pa2), (12, ia bl2), (133, dcl133 P Dn lw cl id gl bo), (134, lng pn), (135, ia ri), (136, ia lf), (137, ia wa), (138, ia fo), (139, lng dn), (140, ia ha), (141, ia pa), (142, ia bl)]) rfl rfl rfl l3 m3 (by decide) rfl hlen rfl rfl rfl ?_
  refine RT_step (pc2 := 102) rfl (fun _ _ => rfl) ?_
  refine ow_gf rfl rfl rfl hlen rfl ?_
  refine rt_ico rfl ki_0 ?_
  refine RT_step (pc2 := 107) rfl (fun _ _ => rfl) ?_
  refine ow_gf rfl rfl rfl hlen rfl ?_
  refine rt_ico rfl ki_0 ?_
  refine rt_bip rfl k8_7 ?_
  refine ow_cyI (m := 7) (l2 := [(3, dcl3 P Dn lw cl id gl bo), (4, lng pn), (5, ia ri), (6, ia lf), (7, ia wa), (8, ia fo2), (9, lng dn2), (10, ia ha2), (11, ia pa2), (12, ia bl2), (133, dcl133 P Dn lw cl id gl bo), (134, lng pn), (135, ia ri), (136, ia lf), (137, ia wa), (138, ia fo), (139, lng dn), (140, ia ha), (141, ia pa), (142, ia bl)]) rfl rfl rfl l4 m4 (by decide) rfl hlen rfl rfl rfl ?_
  refine RT_step (pc2 := 117) rfl (fun _ _ => rfl) ?_
  refine ow_gf rfl rfl rfl hlen rfl ?_
  refine rt_ico rfl ki_0 ?_
  refine RT_step (pc2 := 122) rfl (fun _ _ => rfl) ?_
  refine ow_gf rfl rfl rfl hlen rfl ?_
  refine rt_ico rfl ki_0 ?_
  refine rt_bip rfl k8_49 ?_
  refine ow_cyI (m := 49) (l2 := [(3, dcl3 P Dn lw cl id gl bo), (4, lng pn), (5, ia ri), (6, ia lf), (7, ia wa), (8, ia fo), (9, lng dn2), (10, ia ha2), (11, ia pa2), (12, ia bl2), (133, dcl133 P Dn lw cl id gl bo), (134, lng pn), (135, ia ri), (136, ia lf), (137, ia wa), (138, ia fo), (139, lng dn), (140, ia ha), (141, ia pa), (142, ia bl)]) rfl rfl rfl l5 m5 (by decide) rfl hlen rfl rfl rfl ?_
  refine RT_step (pc2 := 132) rfl (fun _ _ => rfl) ?_
  refine ow_gf rfl rfl rfl hlen rfl ?_
  refine rt_ico rfl ki_0 ?_
  refine RT_step (pc2 := 137) rfl (fun _ _ => rfl) ?_
  refine ow_gf rfl rfl rfl hlen rfl ?_
  refine rt_ico rfl ki_0 ?_
  refine rt_bip rfl k8_8 ?_
  refine ow_cyL (m := 8) (l2 := [(3, dcl3 P Dn lw cl id gl bo), (4, lng pn), (5, ia ri), (6, ia lf), (7, ia wa), (8, ia fo), (9, lng dn), (10, ia ha2), (11, ia pa2), (12, ia bl2), (133, dcl133 P Dn lw cl id gl bo), (134, lng pn), (135, ia ri), (136, ia lf), (137, ia wa), (138, ia fo), (139, lng dn), (140, ia ha), (141, ia pa), (142, ia bl)]) rfl rfl rfl l6 m6 (by decide) rfl hlen rfl rfl rfl ?_
  refine RT_step (pc2 := 147) rfl (fun _ _ => rfl) ?_
  refine ow_gf rfl rfl rfl hlen rfl ?_
  refine rt_ico rfl ki_0 ?_
  refine RT_step (pc2 := 152) rfl (fun _ _ => rfl) ?_
  refine ow_gf rfl rfl rfl hlen rfl ?_
  refine rt_ico rfl ki_0 ?_
  refine rt_bip rfl k8_8 ?_
  refine ow_cyI (m := 8) (l2 := [(3, dcl3 P Dn lw cl id gl bo), (4, lng pn), (5, ia ri), (6, ia lf), (7, ia wa), (8, ia fo), (9, lng dn), (10, ia ha), (11, ia pa2), (12, ia bl2), (133, dcl133 P Dn lw cl id gl bo), (134, lng pn), (135, ia ri), (136, ia lf), (137, ia wa), (138, ia fo), (139, lng dn), (140, ia ha), (141, ia pa), (142, ia bl)]) rfl rfl rfl l7 m7 (by decide) rfl hlen rfl rfl rfl ?_
  refine RT_step (pc2 := 162) rfl (fun _ _ => rfl) ?_
  refine ow_gf rfl rfl rfl hlen rfl ?_
  refine rt_ico rfl ki_0 ?_
  refine RT_step (pc2 := 167) rfl (fun _ _ => rfl) ?_
  refine ow_gf rfl rfl rfl hlen rfl ?_
  refine rt_ico rfl ki_0 ?_
  refine rt_bip rfl k8_8 ?_
  refine ow_cyI (m := 8) (l2 := [(3, dcl3 P Dn lw cl id gl bo), (4, lng pn), (5, ia ri), (6, ia lf), (7, ia wa), (8, ia fo), (9, lng dn), (10, ia ha), (11, ia pa), (12, ia bl2), (133, dcl133 P Dn lw cl id gl bo), (134, lng pn), (135, ia ri), (136, ia lf), (137, ia wa), (138, ia fo), (139, lng dn), (140, ia ha), (141, ia pa), (142, ia bl)]) rfl rfl rfl l8 m8 (by decide) rfl hlen rfl rfl rfl ?_
  refine RT_step (pc2 := 177) rfl (fun _ _ => rfl) ?_
  refine ow_gf rfl rfl rfl hlen rfl ?_
  refine rt_ico rfl ki_0 ?_
  refine RT_step (pc2 := 182) rfl (fun _ _ => rfl) ?_
  refine ow_gf rfl rfl rfl hlen rfl ?_
  refine rt_ico rfl ki_0 ?_
  refine rt_bip rfl k8_8 ?_
  refine ow_cyI (m := 8) (l2 := [(3, dcl3 P Dn lw cl id gl bo), (4, lng pn), (5, ia ri), (6, ia lf), (7, ia wa), (8, ia fo), (9, lng dn), (10, ia ha), (11, ia pa), (12, ia bl), (133, dcl133 P Dn lw cl id gl bo), (134, lng pn), (135, ia ri), (136, ia lf), (137, ia wa), (138, ia fo), (139, lng dn), (140, ia ha), (141, ia pa), (142, ia bl)]) rfl rfl rfl l9 m9 (by decide) rfl hlen rfl rfl rfl ?_
  exact ow_ret rfl rfl rfl
theorem x_copy3_157 {H : List AE} (hlen : Nat.ble 204 H.length = true) {P : Nat} {Dn : Nat} {lw : Int32} {cl : Int32} {id : Int32} {gl : Nat} {bo : Nat} {pn : List Int64} {ri : List Int32} {lf : List Int32} {wa : List Int32} {fo : List Int32} {dn : List Int64} {ha : List Int32} {pa : List Int32} {bl : List Int32} {P2 : Nat} {Dn2 : Nat} {lw2 : Int32} {cl2 : Int32} {id2 : Int32} {gl2 : Nat} {bo2 : Nat} {pn2 : List Int64} {ri2 : List Int32} {lf2 : List Int32} {wa2 : List Int32} {fo2 : List Int32} {dn2 : List Int64} {ha2 : List Int32} {pa2 : List Int32} {bl2 : List Int32} (l : DL pn ri lf wa fo dn ha pa bl) (m : DL pn2 ri2 lf2 wa2 fo2 dn2 ha2 pa2 bl2) : FR 1 62 [.ref 3, .ref 157] (ov H [(3, dcl3 P2 Dn2 lw2 cl2 id2 gl2 bo2), (4, lng pn2), (5, ia ri2), (6, ia lf2), (7, ia wa2), (8, ia fo2), (9, lng dn2), (10, ia ha2), (11, ia pa2), (12, ia bl2), (157, dcl157 P Dn lw cl id gl bo), (158, lng pn), (159, ia ri), (160, ia lf), (161, ia wa), (162, ia fo), (163, lng dn), (164, ia ha), (165, ia pa), (166, ia bl)]) (none, ov (ov H [(3, dcl3 P2 Dn2 lw2 cl2 id2 gl2 bo2), (4, lng pn2), (5, ia ri2), (6, ia lf2), (7, ia wa2), (8, ia fo2), (9, lng dn2), (10, ia ha2), (11, ia pa2), (12, ia bl2), (157, dcl157 P Dn lw cl id gl bo), (158, lng pn), (159, ia ri), (160, ia lf), (161, ia wa), (162, ia fo), (163, lng dn), (164, ia ha), (165, ia pa), (166, ia bl)]) [(3, dcl3 P Dn lw cl id gl bo), (4, lng pn), (5, ia ri), (6, ia lf), (7, ia wa), (8, ia fo), (9, lng dn), (10, ia ha), (11, ia pa), (12, ia bl), (157, dcl157 P Dn lw cl id gl bo), (158, lng pn), (159, ia ri), (160, ia lf), (161, ia wa), (162, ia fo), (163, lng dn), (164, ia ha), (165, ia pa), (166, ia bl)]) := by
  obtain ⟨l1, l2, l3, l4, l5, l6, l7, l8, l9⟩ := l
  obtain ⟨m1, m2, m3, m4, m5, m6, m7, m8, m9⟩ := m
  refine FR_st3 (l2 := [(3, dcl3 P Dn lw cl id gl bo), (4, lng pn), (5, ia ri), (6, ia lf), (7, ia wa), (8, ia fo), (9, lng dn), (10, ia ha), (11, ia pa), (12, ia bl), (157, dcl157 P Dn lw cl id gl bo), (158, lng pn), (159, ia ri), (160, ia lf), (161, ia wa), (162, ia fo), (163, lng dn), (164, ia ha), (165, ia pa), (166, ia bl)]) rfl rfl rfl ?_
  refine RT_step (pc2 := 1) rfl (fun _ _ => rfl) ?_
  refine RT_step (pc2 := 2) rfl (fun _ _ => rfl) ?_
  refine ow_gf rfl rfl rfl hlen rfl ?_
  refine ow_pf (l2 := [(3, dcl3 P Dn2 lw2 cl2 id2 gl2 bo2), (4, lng pn2), (5, ia ri2), (6, ia lf2), (7, ia wa2), (8, ia fo2), (9, lng dn2), (10, ia ha2), (11, ia pa2), (12, ia bl2), (157, dcl157 P Dn lw cl id gl bo), (158, lng pn), (159, ia ri), (160, ia lf), (161, ia wa), (162, ia fo), (163, lng dn), (164, ia ha), (165, ia pa), (166, ia bl)]) rfl rfl rfl rfl rfl hlen rfl rfl ?_
  refine RT_step (pc2 := 9) rfl (fun _ _ => rfl) ?_
  refine RT_step (pc2 := 10) rfl (fun _ _ => rfl) ?_
  refine ow_gf rfl rfl rfl hlen rfl ?_
  refine ow_pf (l2 := [(3, dcl3 P Dn lw2 cl2 id2 gl2 bo2), (4, lng pn2), (5, ia ri2), (6, ia lf2), (7, ia wa2), (8, ia fo2), (9, lng dn2), (10, ia ha2), (11, ia pa2), (12, ia bl2), (157, dcl157 P Dn lw cl id gl bo), (158, lng pn), (159, ia ri), (160, ia lf), (161, ia wa), (162, ia fo), (163, lng dn), (164, ia ha), (165, ia pa), (166, ia bl)]) rfl rfl rfl rfl rfl hlen rfl rfl ?_
  refine RT_step (pc2 := 17) rfl (fun _ _ => rfl) ?_
  refine RT_step (pc2 := 18) rfl (fun _ _ => rfl) ?_
  refine ow_gf rfl rfl rfl hlen rfl ?_
  refine ow_pf (l2 := [(3, dcl3 P Dn lw cl2 id2 gl2 bo2), (4, lng pn2), (5, ia ri2), (6, ia lf2), (7, ia wa2), (8, ia fo2), (9, lng dn2), (10, ia ha2), (11, ia pa2), (12, ia bl2), (157, dcl157 P Dn lw cl id gl bo), (158, lng pn), (159, ia ri), (160, ia lf), (161, ia wa), (162, ia fo), (163, lng dn), (164, ia ha), (165, ia pa), (166, ia bl)]) rfl rfl rfl rfl rfl hlen rfl rfl ?_
  refine RT_step (pc2 := 25) rfl (fun _ _ => rfl) ?_
  refine RT_step (pc2 := 26) rfl (fun _ _ => rfl) ?_
  refine ow_gf rfl rfl rfl hlen rfl ?_
  refine ow_pf (l2 := [(3, dcl3 P Dn lw cl id2 gl2 bo2), (4, lng pn2), (5, ia ri2), (6, ia lf2), (7, ia wa2), (8, ia fo2), (9, lng dn2), (10, ia ha2), (11, ia pa2), (12, ia bl2), (157, dcl157 P Dn lw cl id gl bo), (158, lng pn), (159, ia ri), (160, ia lf), (161, ia wa), (162, ia fo), (163, lng dn), (164, ia ha), (165, ia pa), (166, ia bl)]) rfl rfl rfl rfl rfl hlen rfl rfl ?_
  refine RT_step (pc2 := 33) rfl (fun _ _ => rfl) ?_
  refine RT_step (pc2 := 34) rfl (fun _ _ => rfl) ?_
  refine ow_gf rfl rfl rfl hlen rfl ?_
  refine ow_pf (l2 := [(3, dcl3 P Dn lw cl id gl2 bo2), (4, lng pn2), (5, ia ri2), (6, ia lf2), (7, ia wa2), (8, ia fo2), (9, lng dn2), (10, ia ha2), (11, ia pa2), (12, ia bl2), (157, dcl157 P Dn lw cl id gl bo), (158, lng pn), (159, ia ri), (160, ia lf), (161, ia wa), (162, ia fo), (163, lng dn), (164, ia ha), (165, ia pa), (166, ia bl)]) rfl rfl rfl rfl rfl hlen rfl rfl ?_
  refine RT_step (pc2 := 41) rfl (fun _ _ => rfl) ?_
  refine RT_step (pc2 := 42) rfl (fun _ _ => rfl) ?_
  refine ow_gf rfl rfl rfl hlen rfl ?_
  refine ow_pf (l2 := [(3, dcl3 P Dn lw cl id gl bo2), (4, lng pn2), (5, ia ri2), (6, ia lf2), (7, ia wa2), (8, ia fo2), (9, lng dn2), (10, ia ha2), (11, ia pa2), (12, ia bl2), (157, dcl157 P Dn lw cl id gl bo), (158, lng pn), (159, ia ri), (160, ia lf), (161, ia wa), (162, ia fo), (163, lng dn), (164, ia ha), (165, ia pa), (166, ia bl)]) rfl rfl rfl rfl rfl hlen rfl rfl ?_
  refine RT_step (pc2 := 49) rfl (fun _ _ => rfl) ?_
  refine RT_step (pc2 := 50) rfl (fun _ _ => rfl) ?_
  refine ow_gf rfl rfl rfl hlen rfl ?_
  refine ow_pf (l2 := [(3, dcl3 P Dn lw cl id gl bo), (4, lng pn2), (5, ia ri2), (6, ia lf2), (7, ia wa2), (8, ia fo2), (9, lng dn2), (10, ia ha2), (11, ia pa2), (12, ia bl2), (157, dcl157 P Dn lw cl id gl bo), (158, lng pn), (159, ia ri), (160, ia lf), (161, ia wa), (162, ia fo), (163, lng dn), (164, ia ha), (165, ia pa), (166, ia bl)]) rfl rfl rfl rfl rfl hlen rfl rfl ?_
  refine RT_step (pc2 := 57) rfl (fun _ _ => rfl) ?_
  refine ow_gf rfl rfl rfl hlen rfl ?_
  refine rt_ico rfl ki_0 ?_
  refine RT_step (pc2 := 62) rfl (fun _ _ => rfl) ?_
  refine ow_gf rfl rfl rfl hlen rfl ?_
  refine rt_ico rfl ki_0 ?_
  refine rt_bip rfl k8_7 ?_
  refine ow_cyL (m := 7) (l2 := [(3, dcl3 P Dn lw cl id gl bo), (4, lng pn), (5, ia ri2), (6, ia lf2), (7, ia wa2), (8, ia fo2), (9, lng dn2), (10, ia ha2), (11, ia pa2), (12, ia bl2), (157, dcl157 P Dn lw cl id gl bo), (158, lng pn), (159, ia ri), (160, ia lf), (161, ia wa), (162, ia fo), (163, lng dn), (164, ia ha), (165, ia pa), (166, ia bl)]) rfl rfl rfl l1 m1 (by decide) rfl hlen rfl rfl rfl ?_
  refine RT_step (pc2 := 72) rfl (fun _ _ => rfl) ?_
  refine ow_gf rfl rfl rfl hlen rfl ?_
  refine rt_ico rfl ki_0 ?_
  refine RT_step (pc2 := 77) rfl (fun _ _ => rfl) ?_
  refine ow_gf rfl rfl rfl hlen rfl ?_
  refine rt_ico rfl ki_0 ?_
  refine rt_bip rfl k8_7 ?_
  refine ow_cyI (m := 7) (l2 := [(3, dcl3 P Dn lw cl id gl bo), (4, lng pn), (5, ia ri), (6, ia lf2), (7, ia wa2), (8, ia fo2), (9, lng dn2), (10, ia ha2), (11, ia pa2), (12, ia bl2), (157, dcl157 P Dn lw cl id gl bo), (158, lng pn), (159, ia ri), (160, ia lf), (161, ia wa), (162, ia fo), (163, lng dn), (164, ia ha), (165, ia pa), (166, ia bl)]) rfl rfl rfl l2 m2 (by decide) rfl hlen rfl rfl rfl ?_
  refine RT_step (pc2 := 87) rfl (fun _ _ => rfl) ?_
  refine ow_gf rfl rfl rfl hlen rfl ?_
  refine rt_ico rfl ki_0 ?_
  refine RT_step (pc2 := 92) rfl (fun _ _ => rfl) ?_
  refine ow_gf rfl rfl rfl hlen rfl ?_
  refine rt_ico rfl ki_0 ?_
  refine rt_bip rfl k8_7 ?_
  refine ow_cyI (m := 7) (l2 := [(3, dcl3 P Dn lw cl id gl bo), (4, lng pn), (5, ia ri), (6, ia lf), (7, ia wa2), (8, ia fo2), (9, lng dn2), (10, ia ha2), (11, ia pa2), (12, ia bl2), (157, dcl157 P Dn lw cl id gl bo), (158, lng pn), (159, ia ri), (160, ia lf), (161, ia wa), (162, ia fo), (163, lng dn), (164, ia ha), (165, ia pa), (166, ia bl)]) rfl rfl rfl l3 m3 (by decide) rfl hlen rfl rfl rfl ?_
  refine RT_step (pc2 := 102) rfl (fun _ _ => rfl) ?_
  refine ow_gf rfl rfl rfl hlen rfl ?_
  refine rt_ico rfl ki_0 ?_
  refine RT_step (pc2 := 107) rfl (fun _ _ => rfl) ?_
  refine ow_gf rfl rfl rfl hlen rfl ?_
  refine rt_ico rfl ki_0 ?_
  refine rt_bip rfl k8_7 ?_
  refine ow_cyI (m := 7) (l2 := [(3, dcl3 P Dn lw cl id gl bo), (4, lng pn), (5, ia ri), (6, ia lf), (7, ia wa), (8, ia fo2), (9, lng dn2), (10, ia ha2), (11, ia pa2), (12, ia bl2), (157, dcl157 P Dn lw cl id gl bo), (158, lng pn), (159, ia ri), (160, ia lf), (161, ia wa), (162, ia fo), (163, lng dn), (164, ia ha), (165, ia pa), (166, ia bl)]) rfl rfl rfl l4 m4 (by decide) rfl hlen rfl rfl rfl ?_
  refine RT_step (pc2 := 117) rfl (fun _ _ => rfl) ?_
  refine ow_gf rfl rfl rfl hlen rfl ?_
  refine rt_ico rfl ki_0 ?_
  refine RT_step (pc2 := 122) rfl (fun _ _ => rfl) ?_
  refine ow_gf rfl rfl rfl hlen rfl ?_
  refine rt_ico rfl ki_0 ?_
  refine rt_bip rfl k8_49 ?_
  refine ow_cyI (m := 49) (l2 := [(3, dcl3 P Dn lw cl id gl bo), (4, lng pn), (5, ia ri), (6, ia lf), (7, ia wa), (8, ia fo), (9, lng dn2), (10, ia ha2), (11, ia pa2), (12, ia bl2), (157, dcl157 P Dn lw cl id gl bo), (158, lng pn), (159, ia ri), (160, ia lf), (161, ia wa), (162, ia fo), (163, lng dn), (164, ia ha), (165, ia pa), (166, ia bl)]) rfl rfl rfl l5 m5 (by decide) rfl hlen rfl rfl rfl ?_
  refine RT_step (pc2 := 132) rfl (fun _ _ => rfl) ?_
  refine ow_gf rfl rfl rfl hlen rfl ?_
  refine rt_ico rfl ki_0 ?_
  refine RT_step (pc2 := 137) rfl (fun _ _ => rfl) ?_
  refine ow_gf rfl rfl rfl hlen rfl ?_
  refine rt_ico rfl ki_0 ?_
  refine rt_bip rfl k8_8 ?_
  refine ow_cyL (m := 8) (l2 := [(3, dcl3 P Dn lw cl id gl bo), (4, lng pn), (5, ia ri), (6, ia lf), (7, ia wa), (8, ia fo), (9, lng dn), (10, ia ha2), (11, ia pa2), (12, ia bl2), (157, dcl157 P Dn lw cl id gl bo), (158, lng pn), (159, ia ri), (160, ia lf), (161, ia wa), (162, ia fo), (163, lng dn), (164, ia ha), (165, ia pa), (166, ia bl)]) rfl rfl rfl l6 m6 (by decide) rfl hlen rfl rfl rfl ?_
  refine RT_step (pc2 := 147) rfl (fun _ _ => rfl) ?_
  refine ow_gf rfl rfl rfl hlen rfl ?_
  refine rt_ico rfl ki_0 ?_
  refine RT_step (pc2 := 152) rfl (fun _ _ => rfl) ?_
  refine ow_gf rfl rfl rfl hlen rfl ?_
  refine rt_ico rfl ki_0 ?_
  refine rt_bip rfl k8_8 ?_
  refine ow_cyI (m := 8) (l2 := [(3, dcl3 P Dn lw cl id gl bo), (4, lng pn), (5, ia ri), (6, ia lf), (7, ia wa), (8, ia fo), (9, lng dn), (10, ia ha), (11, ia pa2), (12, ia bl2), (157, dcl157 P Dn lw cl id gl bo), (158, lng pn), (159, ia ri), (160, ia lf), (161, ia wa), (162, ia fo), (163, lng dn), (164, ia ha), (165, ia pa), (166, ia bl)]) rfl rfl rfl l7 m7 (by decide) rfl hlen rfl rfl rfl ?_
  refine RT_step (pc2 := 162) rfl (fun _ _ => rfl) ?_
  refine ow_gf rfl rfl rfl hlen rfl ?_
  refine rt_ico rfl ki_0 ?_
  refine RT_step (pc2 := 167) rfl (fun _ _ => rfl) ?_
  refine ow_gf rfl rfl rfl hlen rfl ?_
  refine rt_ico rfl ki_0 ?_
  refine rt_bip rfl k8_8 ?_
  refine ow_cyI (m := 8) (l2 := [(3, dcl3 P Dn lw cl id gl bo), (4, lng pn), (5, ia ri), (6, ia lf), (7, ia wa), (8, ia fo), (9, lng dn), (10, ia ha), (11, ia pa), (12, ia bl2), (157, dcl157 P Dn lw cl id gl bo), (158, lng pn), (159, ia ri), (160, ia lf), (161, ia wa), (162, ia fo), (163, lng dn), (164, ia ha), (165, ia pa), (166, ia bl)]) rfl rfl rfl l8 m8 (by decide) rfl hlen rfl rfl rfl ?_
  refine RT_step (pc2 := 177) rfl (fun _ _ => rfl) ?_
  refine ow_gf rfl rfl rfl hlen rfl ?_
  refine rt_ico rfl ki_0 ?_
  refine RT_step (pc2 := 182) rfl (fun _ _ => rfl) ?_
  refine ow_gf rfl rfl rfl hlen rfl ?_
  refine rt_ico rfl ki_0 ?_
  refine rt_bip rfl k8_8 ?_
  refine ow_cyI (m := 8) (l2 := [(3, dcl3 P Dn lw cl id gl bo), (4, lng pn), (5, ia ri), (6, ia lf), (7, ia wa), (8, ia fo), (9, lng dn), (10, ia ha), (11, ia pa), (12, ia bl), (157, dcl157 P Dn lw cl id gl bo), (158, lng pn), (159, ia ri), (160, ia lf), (161, ia wa), (162, ia fo), (163, lng dn), (164, ia ha), (165, ia pa), (166, ia bl)]) rfl rfl rfl l9 m9 (by decide) rfl hlen rfl rfl rfl ?_
  exact ow_ret rfl rfl rfl
theorem x_copy13_133 {H : List AE} (hlen : Nat.ble 204 H.length = true) {P : Nat} {Dn : Nat} {lw : Int32} {cl : Int32} {id : Int32} {gl : Nat} {bo : Nat} {pn : List Int64} {ri : List Int32} {lf : List Int32} {wa : List Int32} {fo : List Int32} {dn : List Int64} {ha : List Int32} {pa : List Int32} {bl : List Int32} {P2 : Nat} {Dn2 : Nat} {lw2 : Int32} {cl2 : Int32} {id2 : Int32} {gl2 : Nat} {bo2 : Nat} {pn2 : List Int64} {ri2 : List Int32} {lf2 : List Int32} {wa2 : List Int32} {fo2 : List Int32} {dn2 : List Int64} {ha2 : List Int32} {pa2 : List Int32} {bl2 : List Int32} (l : DL pn ri lf wa fo dn ha pa bl) (m : DL pn2 ri2 lf2 wa2 fo2 dn2 ha2 pa2 bl2) : FR 1 62 [.ref 13, .ref 133] (ov H [(13, dcl13 P2 Dn2 lw2 cl2 id2 gl2 bo2), (14, lng pn2), (15, ia ri2), (16, ia lf2), (17, ia wa2), (18, ia fo2), (19, lng dn2), (20, ia ha2), (21, ia pa2), (22, ia bl2), (133, dcl133 P Dn lw cl id gl bo), (134, lng pn), (135, ia ri), (136, ia lf), (137, ia wa), (138, ia fo), (139, lng dn), (140, ia ha), (141, ia pa), (142, ia bl)]) (none, ov (ov H [(13, dcl13 P2 Dn2 lw2 cl2 id2 gl2 bo2), (14, lng pn2), (15, ia ri2), (16, ia lf2), (17, ia wa2), (18, ia fo2), (19, lng dn2), (20, ia ha2), (21, ia pa2), (22, ia bl2), (133, dcl133 P Dn lw cl id gl bo), (134, lng pn), (135, ia ri), (136, ia lf), (137, ia wa), (138, ia fo), (139, lng dn), (140, ia ha), (141, ia pa), (142, ia bl)]) [(13, dcl13 P Dn lw cl id gl bo), (14, lng pn), (15, ia ri), (16, ia lf), (17, ia wa), (18, ia fo), (19, lng dn), (20, ia ha), (21, ia pa), (22, ia bl), (133, dcl133 P Dn lw cl id gl bo), (134, lng pn), (135, ia ri), (136, ia lf), (137, ia wa), (138, ia fo), (139, lng dn), (140, ia ha), (141, ia pa), (142, ia bl)]) := by
  obtain ⟨l1, l2, l3, l4, l5, l6, l7, l8, l9⟩ := l
  obtain ⟨m1, m2, m3, m4, m5, m6, m7, m8, m9⟩ := m
  refine FR_st3 (l2 := [(13, dcl13 P Dn lw cl id gl bo), (14, lng pn), (15, ia ri), (16, ia lf), (17, ia wa), (18, ia fo), (19, lng dn), (20, ia ha), (21, ia pa), (22, ia bl), (133, dcl133 P Dn lw cl id gl bo), (134, lng pn), (135, ia ri), (136, ia lf), (137, ia wa), (138, ia fo), (139, lng dn), (140, ia ha), (141, ia pa), (142, ia bl)]) rfl rfl rfl ?_
  refine RT_step (pc2 := 1) rfl (fun _ _ => rfl) ?_
  refine RT_step (pc2 := 2) rfl (fun _ _ => rfl) ?_
  refine ow_gf rfl rfl rfl hlen rfl ?_
  refine ow_pf (l2 := [(13, dcl13 P Dn2 lw2 cl2 id2 gl2 bo2), (14, lng pn2), (15, ia ri2), (16, ia lf2), (17, ia wa2), (18, ia fo2), (19, lng dn2), (20, ia ha2), (21, ia pa2), (22, ia bl2), (133, dcl133 P Dn lw cl id gl bo), (134, lng pn), (135, ia ri), (136, ia lf), (137, ia wa), (138, ia fo), (139, lng dn), (140, ia ha), (141, ia pa), (142, ia bl)]) rfl rfl rfl rfl rfl hlen rfl rfl ?_
  refine RT_step (pc2 := 9) rfl (fun _ _ => rfl) ?_
  refine RT_step (pc2 := 10) rfl (fun _ _ => rfl) ?_
  refine ow_gf rfl rfl rfl hlen rfl ?_
  refine ow_pf (l2 := [(13, dcl13 P Dn lw2 cl2 id2 gl2 bo2), (14, lng pn2), (15, ia ri2), (16, ia lf2), (17, ia wa2), (18, ia fo2), (19, lng dn2), (20, ia ha2), (21, ia pa2), (22, ia bl2), (133, dcl133 P Dn lw cl id gl bo), (134, lng pn), (135, ia ri), (136, ia lf), (137, ia wa), (138, ia fo), (139, lng dn), (140, ia ha), (141, ia pa), (142, ia bl)]) rfl rfl rfl rfl rfl hlen rfl rfl ?_
  refine RT_step (pc2 := 17) rfl (fun _ _ => rfl) ?_
  refine RT_step (pc2 := 18) rfl (fun _ _ => rfl) ?_
  refine ow_gf rfl rfl rfl hlen rfl ?_
  refine ow_pf (l2 := [(13, dcl13 P Dn lw cl2 id2 gl2 bo2), (14, lng pn2), (15, ia ri2), (16, ia lf2), (17, ia wa2), (18, ia fo2), (19, lng dn2), (20, ia ha2), (21, ia pa2), (22, ia bl2), (133, dcl133 P Dn lw cl id gl bo), (134, lng pn), (135, ia ri), (136, ia lf), (137, ia wa), (138, ia fo), (139, lng dn), (140, ia ha), (141, ia pa), (142, ia bl)]) rfl rfl rfl rfl rfl hlen rfl rfl ?_
  refine RT_step (pc2 := 25) rfl (fun _ _ => rfl) ?_
  refine RT_step (pc2 := 26) rfl (fun _ _ => rfl) ?_
  refine ow_gf rfl rfl rfl hlen rfl ?_
  refine ow_pf (l2 := [(13, dcl13 P Dn lw cl id2 gl2 bo2), (14, lng pn2), (15, ia ri2), (16, ia lf2), (17, ia wa2), (18, ia fo2), (19, lng dn2), (20, ia ha2), (21, ia pa2), (22, ia bl2), (133, dcl133 P Dn lw cl id gl bo), (134, lng pn), (135, ia ri), (136, ia lf), (137, ia wa), (138, ia fo), (139, lng dn), (140, ia ha), (141, ia pa), (142, ia bl)]) rfl rfl rfl rfl rfl hlen rfl rfl ?_
  refine RT_step (pc2 := 33) rfl (fun _ _ => rfl) ?_
  refine RT_step (pc2 := 34) rfl (fun _ _ => rfl) ?_
  refine ow_gf rfl rfl rfl hlen rfl ?_
  refine ow_pf (l2 := [(13, dcl13 P Dn lw cl id gl2 bo2), (14, lng pn2), (15, ia ri2), (16, ia lf2), (17, ia wa2), (18, ia fo2), (19, lng dn2), (20, ia ha2), (21, ia pa2), (22, ia bl2), (133, dcl133 P Dn lw cl id gl bo), (134, lng pn), (135, ia ri), (136, ia lf), (137, ia wa), (138, ia fo), (139, lng dn), (140, ia ha), (141, ia pa), (142, ia bl)]) rfl rfl rfl rfl rfl hlen rfl rfl ?_
  refine RT_step (pc2 := 41) rfl (fun _ _ => rfl) ?_
  refine RT_step (pc2 := 42) rfl (fun _ _ => rfl) ?_
  refine ow_gf rfl rfl rfl hlen rfl ?_
  refine ow_pf (l2 := [(13, dcl13 P Dn lw cl id gl bo2), (14, lng pn2), (15, ia ri2), (16, ia lf2), (17, ia wa2), (18, ia fo2), (19, lng dn2), (20, ia ha2), (21, ia pa2), (22, ia bl2), (133, dcl133 P Dn lw cl id gl bo), (134, lng pn), (135, ia ri), (136, ia lf), (137, ia wa), (138, ia fo), (139, lng dn), (140, ia ha), (141, ia pa), (142, ia bl)]) rfl rfl rfl rfl rfl hlen rfl rfl ?_
  refine RT_step (pc2 := 49) rfl (fun _ _ => rfl) ?_
  refine RT_step (pc2 := 50) rfl (fun _ _ => rfl) ?_
  refine ow_gf rfl rfl rfl hlen rfl ?_
  refine ow_pf (l2 := [(13, dcl13 P Dn lw cl id gl bo), (14, lng pn2), (15, ia ri2), (16, ia lf2), (17, ia wa2), (18, ia fo2), (19, lng dn2), (20, ia ha2), (21, ia pa2), (22, ia bl2), (133, dcl133 P Dn lw cl id gl bo), (134, lng pn), (135, ia ri), (136, ia lf), (137, ia wa), (138, ia fo), (139, lng dn), (140, ia ha), (141, ia pa), (142, ia bl)]) rfl rfl rfl rfl rfl hlen rfl rfl ?_
  refine RT_step (pc2 := 57) rfl (fun _ _ => rfl) ?_
  refine ow_gf rfl rfl rfl hlen rfl ?_
  refine rt_ico rfl ki_0 ?_
  refine RT_step (pc2 := 62) rfl (fun _ _ => rfl) ?_
  refine ow_gf rfl rfl rfl hlen rfl ?_
  refine rt_ico rfl ki_0 ?_
  refine rt_bip rfl k8_7 ?_
  refine ow_cyL (m := 7) (l2 := [(13, dcl13 P Dn lw cl id gl bo), (14, lng pn), (15, ia ri2), (16, ia lf2), (17, ia wa2), (18, ia fo2), (19, lng dn2), (20, ia ha2), (21, ia pa2), (22, ia bl2), (133, dcl133 P Dn lw cl id gl bo), (134, lng pn), (135, ia ri), (136, ia lf), (137, ia wa), (138, ia fo), (139, lng dn), (140, ia ha), (141, ia pa), (142, ia bl)]) rfl rfl rfl l1 m1 (by decide) rfl hlen rfl rfl rfl ?_
  refine RT_step (pc2 := 72) rfl (fun _ _ => rfl) ?_
  refine ow_gf rfl rfl rfl hlen rfl ?_
  refine rt_ico rfl ki_0 ?_
  refine RT_step (pc2 := 77) rfl (fun _ _ => rfl) ?_
  refine ow_gf rfl rfl rfl hlen rfl ?_
  refine rt_ico rfl ki_0 ?_
  refine rt_bip rfl k8_7 ?_
  refine ow_cyI (m := 7) (l2 := [(13, dcl13 P Dn lw cl id gl bo), (14, lng pn), (15, ia ri), (16, ia lf2), (17, ia wa2), (18, ia fo2), (19, lng dn2), (20, ia ha2), (21, ia pa2), (22, ia bl2), (133, dcl133 P Dn lw cl id gl bo), (134, lng pn), (135, ia ri), (136, ia lf), (137, ia wa), (138, ia fo), (139, lng dn), (140, ia ha), (141, ia pa), (142, ia bl)]) rfl rfl rfl l2 m2 (by decide) rfl hlen rfl rfl rfl ?_
  refine RT_step (pc2 := 87) rfl (fun _ _ => rfl) ?_
  refine ow_gf rfl rfl rfl hlen rfl ?_
  refine rt_ico rfl ki_0 ?_
  refine RT_step (pc2 := 92) rfl (fun _ _ => rfl) ?_
  refine ow_gf rfl rfl rfl hlen rfl ?_
  refine rt_ico rfl ki_0 ?_
  refine rt_bip rfl k8_7 ?_
  refine ow_cyI (m := 7) (l2 := [(13, dcl13 P Dn lw cl id gl bo), (14, lng pn), (15, ia ri), (16, ia lf), (17, ia wa2), (18, ia fo2), (19, lng dn2), (20, ia ha2), (21, ia pa2), (22, ia bl2), (133, dcl133 P Dn lw cl id gl bo), (134, lng pn), (135, ia ri), (136, ia lf), (137, ia wa), (138, ia fo), (139, lng dn), (140, ia ha), (141, ia pa), (142, ia bl)]) rfl rfl rfl l3 m3 (by decide) rfl hlen rfl rfl rfl ?_
  refine RT_step (pc2 := 102) rfl (fun _ _ => rfl) ?_
  refine ow_gf rfl rfl rfl hlen rfl ?_
  refine rt_ico rfl ki_0 ?_
  refine RT_step (pc2 := 107) rfl (fun _ _ => rfl) ?_
  refine ow_gf rfl rfl rfl hlen rfl ?_
  refine rt_ico rfl ki_0 ?_
  refine rt_bip rfl k8_7 ?_
  refine ow_cyI (m := 7) (l2 := [(13, dcl13 P Dn lw cl id gl bo), (14, lng pn), (15, ia ri), (16, ia lf), (17, ia wa), (18, ia fo2), (19, lng dn2), (20, ia ha2), (21, ia pa2), (22, ia bl2), (133, dcl133 P Dn lw cl id gl bo), (134, lng pn), (135, ia ri), (136, ia lf), (137, ia wa), (138, ia fo), (139, lng dn), (140, ia ha), (141, ia pa), (142, ia bl)]) rfl rfl rfl l4 m4 (by decide) rfl hlen rfl rfl rfl ?_
  refine RT_step (pc2 := 117) rfl (fun _ _ => rfl) ?_
  refine ow_gf rfl rfl rfl hlen rfl ?_
  refine rt_ico rfl ki_0 ?_
  refine RT_step (pc2 := 122) rfl (fun _ _ => rfl) ?_
  refine ow_gf rfl rfl rfl hlen rfl ?_
  refine rt_ico rfl ki_0 ?_
  refine rt_bip rfl k8_49 ?_
  refine ow_cyI (m := 49) (l2 := [(13, dcl13 P Dn lw cl id gl bo), (14, lng pn), (15, ia ri), (16, ia lf), (17, ia wa), (18, ia fo), (19, lng dn2), (20, ia ha2), (21, ia pa2), (22, ia bl2), (133, dcl133 P Dn lw cl id gl bo), (134, lng pn), (135, ia ri), (136, ia lf), (137, ia wa), (138, ia fo), (139, lng dn), (140, ia ha), (141, ia pa), (142, ia bl)]) rfl rfl rfl l5 m5 (by decide) rfl hlen rfl rfl rfl ?_
  refine RT_step (pc2 := 132) rfl (fun _ _ => rfl) ?_
  refine ow_gf rfl rfl rfl hlen rfl ?_
  refine rt_ico rfl ki_0 ?_
  refine RT_step (pc2 := 137) rfl (fun _ _ => rfl) ?_
  refine ow_gf rfl rfl rfl hlen rfl ?_
  refine rt_ico rfl ki_0 ?_
  refine rt_bip rfl k8_8 ?_
  refine ow_cyL (m := 8) (l2 := [(13, dcl13 P Dn lw cl id gl bo), (14, lng pn), (15, ia ri), (16, ia lf), (17, ia wa), (18, ia fo), (19, lng dn), (20, ia ha2), (21, ia pa2), (22, ia bl2), (133, dcl133 P Dn lw cl id gl bo), (134, lng pn), (135, ia ri), (136, ia lf), (137, ia wa), (138, ia fo), (139, lng dn), (140, ia ha), (141, ia pa), (142, ia bl)]) rfl rfl rfl l6 m6 (by decide) rfl hlen rfl rfl rfl ?_
  refine RT_step (pc2 := 147) rfl (fun _ _ => rfl) ?_
  refine ow_gf rfl rfl rfl hlen rfl ?_
  refine rt_ico rfl ki_0 ?_
  refine RT_step (pc2 := 152) rfl (fun _ _ => rfl) ?_
  refine ow_gf rfl rfl rfl hlen rfl ?_
  refine rt_ico rfl ki_0 ?_
  refine rt_bip rfl k8_8 ?_
  refine ow_cyI (m := 8) (l2 := [(13, dcl13 P Dn lw cl id gl bo), (14, lng pn), (15, ia ri), (16, ia lf), (17, ia wa), (18, ia fo), (19, lng dn), (20, ia ha), (21, ia pa2), (22, ia bl2), (133, dcl133 P Dn lw cl id gl bo), (134, lng pn), (135, ia ri), (136, ia lf), (137, ia wa), (138, ia fo), (139, lng dn), (140, ia ha), (141, ia pa), (142, ia bl)]) rfl rfl rfl l7 m7 (by decide) rfl hlen rfl rfl rfl ?_
  refine RT_step (pc2 := 162) rfl (fun _ _ => rfl) ?_
  refine ow_gf rfl rfl rfl hlen rfl ?_
  refine rt_ico rfl ki_0 ?_
  refine RT_step (pc2 := 167) rfl (fun _ _ => rfl) ?_
  refine ow_gf rfl rfl rfl hlen rfl ?_
  refine rt_ico rfl ki_0 ?_
  refine rt_bip rfl k8_8 ?_
  refine ow_cyI (m := 8) (l2 := [(13, dcl13 P Dn lw cl id gl bo), (14, lng pn), (15, ia ri), (16, ia lf), (17, ia wa), (18, ia fo), (19, lng dn), (20, ia ha), (21, ia pa), (22, ia bl2), (133, dcl133 P Dn lw cl id gl bo), (134, lng pn), (135, ia ri), (136, ia lf), (137, ia wa), (138, ia fo), (139, lng dn), (140, ia ha), (141, ia pa), (142, ia bl)]) rfl rfl rfl l8 m8 (by decide) rfl hlen rfl rfl rfl ?_
  refine RT_step (pc2 := 177) rfl (fun _ _ => rfl) ?_
  refine ow_gf rfl rfl rfl hlen rfl ?_
  refine rt_ico rfl ki_0 ?_
  refine RT_step (pc2 := 182) rfl (fun _ _ => rfl) ?_
  refine ow_gf rfl rfl rfl hlen rfl ?_
  refine rt_ico rfl ki_0 ?_
  refine rt_bip rfl k8_8 ?_
  refine ow_cyI (m := 8) (l2 := [(13, dcl13 P Dn lw cl id gl bo), (14, lng pn), (15, ia ri), (16, ia lf), (17, ia wa), (18, ia fo), (19, lng dn), (20, ia ha), (21, ia pa), (22, ia bl), (133, dcl133 P Dn lw cl id gl bo), (134, lng pn), (135, ia ri), (136, ia lf), (137, ia wa), (138, ia fo), (139, lng dn), (140, ia ha), (141, ia pa), (142, ia bl)]) rfl rfl rfl l9 m9 (by decide) rfl hlen rfl rfl rfl ?_
  exact ow_ret rfl rfl rfl
theorem x_copy13_157 {H : List AE} (hlen : Nat.ble 204 H.length = true) {P : Nat} {Dn : Nat} {lw : Int32} {cl : Int32} {id : Int32} {gl : Nat} {bo : Nat} {pn : List Int64} {ri : List Int32} {lf : List Int32} {wa : List Int32} {fo : List Int32} {dn : List Int64} {ha : List Int32} {pa : List Int32} {bl : List Int32} {P2 : Nat} {Dn2 : Nat} {lw2 : Int32} {cl2 : Int32} {id2 : Int32} {gl2 : Nat} {bo2 : Nat} {pn2 : List Int64} {ri2 : List Int32} {lf2 : List Int32} {wa2 : List Int32} {fo2 : List Int32} {dn2 : List Int64} {ha2 : List Int32} {pa2 : List Int32} {bl2 : List Int32} (l : DL pn ri lf wa fo dn ha pa bl) (m : DL pn2 ri2 lf2 wa2 fo2 dn2 ha2 pa2 bl2) : FR 1 62 [.ref 13, .ref 157] (ov H [(13, dcl13 P2 Dn2 lw2 cl2 id2 gl2 bo2), (14, lng pn2), (15, ia ri2), (16, ia lf2), (17, ia wa2), (18, ia fo2), (19, lng dn2), (20, ia ha2), (21, ia pa2), (22, ia bl2), (157, dcl157 P Dn lw cl id gl bo), (158, lng pn), (159, ia ri), (160, ia lf), (161, ia wa), (162, ia fo), (163, lng dn), (164, ia ha), (165, ia pa), (166, ia bl)]) (none, ov (ov H [(13, dcl13 P2 Dn2 lw2 cl2 id2 gl2 bo2), (14, lng pn2), (15, ia ri2), (16, ia lf2), (17, ia wa2), (18, ia fo2), (19, lng dn2), (20, ia ha2), (21, ia pa2), (22, ia bl2), (157, dcl157 P Dn lw cl id gl bo), (158, lng pn), (159, ia ri), (160, ia lf), (161, ia wa), (162, ia fo), (163, lng dn), (164, ia ha), (165, ia pa), (166, ia bl)]) [(13, dcl13 P Dn lw cl id gl bo), (14, lng pn), (15, ia ri), (16, ia lf), (17, ia wa), (18, ia fo), (19, lng dn), (20, ia ha), (21, ia pa), (22, ia bl), (157, dcl157 P Dn lw cl id gl bo), (158, lng pn), (159, ia ri), (160, ia lf), (161, ia wa), (162, ia fo), (163, lng dn), (164, ia ha), (165, ia pa), (166, ia bl)]) := by
  obtain ⟨l1, l2, l3, l4, l5, l6, l7, l8, l9⟩ := l
  obtain ⟨m1, m2, m3, m4, m5, m6, m7, m8, m9⟩ := m
  refine FR_st3 (l2 := [(13, dcl13 P Dn lw cl id gl bo), (14, lng pn), (15, ia ri), (16, ia lf), (17, ia wa), (18, ia fo), (19, lng dn), (20, ia ha), (21, ia pa), (22, ia bl), (157, dcl157 P Dn lw cl id gl bo), (158, lng pn), (159, ia ri), (160, ia lf), (161, ia wa), (162, ia fo), (163, lng dn), (164, ia ha), (165, ia pa), (166, ia bl)]) rfl rfl rfl ?_
  refine RT_step (pc2 := 1) rfl (fun _ _ => rfl) ?_
  refine RT_step (pc2 := 2) rfl (fun _ _ => rfl) ?_
  refine ow_gf rfl rfl rfl hlen rfl ?_
  refine ow_pf (l2 := [(13, dcl13 P Dn2 lw2 cl2 id2 gl2 bo2), (14, lng pn2), (15, ia ri2), (16, ia lf2), (17, ia wa2), (18, ia fo2), (19, lng dn2), (20, ia ha2), (21, ia pa2), (22, ia bl2), (157, dcl157 P Dn lw cl id gl bo), (158, lng pn), (159, ia ri), (160, ia lf), (161, ia wa), (162, ia fo), (163, lng dn), (164, ia ha), (165, ia pa), (166, ia bl)]) rfl rfl rfl rfl rfl hlen rfl rfl ?_
  refine RT_step (pc2 := 9) rfl (fun _ _ => rfl) ?_
  refine RT_step (pc2 := 10) rfl (fun _ _ => rfl) ?_
  refine ow_gf rfl rfl rfl hlen rfl ?_
  refine ow_pf (l2 := [(13, dcl13 P Dn lw2 cl2 id2 gl2 bo2), (14, lng pn2), (15, ia ri2), (16, ia lf2), (17, ia wa2), (18, ia fo2), (19, lng dn2), (20, ia ha2), (21, ia pa2), (22, ia bl2), (157, dcl157 P Dn lw cl id gl bo), (158, lng pn), (159, ia ri), (160, ia lf), (161, ia wa), (162, ia fo), (163, lng dn), (164, ia ha), (165, ia pa), (166, ia bl)]) rfl rfl rfl rfl rfl hlen rfl rfl ?_
  refine RT_step (pc2 := 17) rfl (fun _ _ => rfl) ?_
  refine RT_step (pc2 := 18) rfl (fun _ _ => rfl) ?_
  refine ow_gf rfl rfl rfl hlen rfl ?_
  refine ow_pf (l2 := [(13, dcl13 P Dn lw cl2 id2 gl2 bo2), (14, lng pn2), (15, ia ri2), (16, ia lf2), (17, ia wa2), (18, ia fo2), (19, lng dn2), (20, ia ha2), (21, ia pa2), (22, ia bl2), (157, dcl157 P Dn lw cl id gl bo), (158, lng pn), (159, ia ri), (160, ia lf), (161, ia wa), (162, ia fo), (163, lng dn), (164, ia ha), (165, ia pa), (166, ia bl)]) rfl rfl rfl rfl rfl hlen rfl rfl ?_
  refine RT_step (pc2 := 25) rfl (fun _ _ => rfl) ?_
  refine RT_step (pc2 := 26) rfl (fun _ _ => rfl) ?_
  refine ow_gf rfl rfl rfl hlen rfl ?_
  refine ow_pf (l2 := [(13, dcl13 P Dn lw cl id2 gl2 bo2), (14, lng pn2), (15, ia ri2), (16, ia lf2), (17, ia wa2), (18, ia fo2), (19, lng dn2), (20, ia ha2), (21, ia pa2), (22, ia bl2), (157, dcl157 P Dn lw cl id gl bo), (158, lng pn), (159, ia ri), (160, ia lf), (161, ia wa), (162, ia fo), (163, lng dn), (164, ia ha), (165, ia pa), (166, ia bl)]) rfl rfl rfl rfl rfl hlen rfl rfl ?_
  refine RT_step (pc2 := 33) rfl (fun _ _ => rfl) ?_
  refine RT_step (pc2 := 34) rfl (fun _ _ => rfl) ?_
  refine ow_gf rfl rfl rfl hlen rfl ?_
  refine ow_pf (l2 := [(13, dcl13 P Dn lw cl id gl2 bo2), (14, lng pn2), (15, ia ri2), (16, ia lf2), (17, ia wa2), (18, ia fo2), (19, lng dn2), (20, ia ha2), (21, ia pa2), (22, ia bl2), (157, dcl157 P Dn lw cl id gl bo), (158, lng pn), (159, ia ri), (160, ia lf), (161, ia wa), (162, ia fo), (163, lng dn), (164, ia ha), (165, ia pa), (166, ia bl)]) rfl rfl rfl rfl rfl hlen rfl rfl ?_
  refine RT_step (pc2 := 41) rfl (fun _ _ => rfl) ?_
  refine RT_step (pc2 := 42) rfl (fun _ _ => rfl) ?_
  refine ow_gf rfl rfl rfl hlen rfl ?_
  refine ow_pf (l2 := [(13, dcl13 P Dn lw cl id gl bo2), (14, lng pn2), (15, ia ri2), (16, ia lf2), (17, ia wa2), (18, ia fo2), (19, lng dn2), (20, ia ha2), (21, ia pa2), (22, ia bl2), (157, dcl157 P Dn lw cl id gl bo), (158, lng pn), (159, ia ri), (160, ia lf), (161, ia wa), (162, ia fo), (163, lng dn), (164, ia ha), (165, ia pa), (166, ia bl)]) rfl rfl rfl rfl rfl hlen rfl rfl ?_
  refine RT_step (pc2 := 49) rfl (fun _ _ => rfl) ?_
  refine RT_step (pc2 := 50) rfl (fun _ _ => rfl) ?_
  refine ow_gf rfl rfl rfl hlen rfl ?_
  refine ow_pf (l2 := [(13, dcl13 P Dn lw cl id gl bo), (14, lng pn2), (15, ia ri2), (16, ia lf2), (17, ia wa2), (18, ia fo2), (19, lng dn2), (20, ia ha2), (21, ia pa2), (22, ia bl2), (157, dcl157 P Dn lw cl id gl bo), (158, lng pn), (159, ia ri), (160, ia lf), (161, ia wa), (162, ia fo), (163, lng dn), (164, ia ha), (165, ia pa), (166, ia bl)]) rfl rfl rfl rfl rfl hlen rfl rfl ?_
  refine RT_step (pc2 := 57) rfl (fun _ _ => rfl) ?_
  refine ow_gf rfl rfl rfl hlen rfl ?_
  refine rt_ico rfl ki_0 ?_
  refine RT_step (pc2 := 62) rfl (fun _ _ => rfl) ?_
  refine ow_gf rfl rfl rfl hlen rfl ?_
  refine rt_ico rfl ki_0 ?_
  refine rt_bip rfl k8_7 ?_
  refine ow_cyL (m := 7) (l2 := [(13, dcl13 P Dn lw cl id gl bo), (14, lng pn), (15, ia ri2), (16, ia lf2), (17, ia wa2), (18, ia fo2), (19, lng dn2), (20, ia ha2), (21, ia pa2), (22, ia bl2), (157, dcl157 P Dn lw cl id gl bo), (158, lng pn), (159, ia ri), (160, ia lf), (161, ia wa), (162, ia fo), (163, lng dn), (164, ia ha), (165, ia pa), (166, ia bl)]) rfl rfl rfl l1 m1 (by decide) rfl hlen rfl rfl rfl ?_
  refine RT_step (pc2 := 72) rfl (fun _ _ => rfl) ?_
  refine ow_gf rfl rfl rfl hlen rfl ?_
  refine rt_ico rfl ki_0 ?_
  refine RT_step (pc2 := 77) rfl (fun _ _ => rfl) ?_
  refine ow_gf rfl rfl rfl hlen rfl ?_
  refine rt_ico rfl ki_0 ?_
  refine rt_bip rfl k8_7 ?_
  refine ow_cyI (m := 7) (l2 := [(13, dcl13 P Dn lw cl id gl bo), (14, lng pn), (15, ia ri), (16, ia lf2), (17, ia wa2), (18, ia fo2), (19, lng dn2), (20, ia ha2), (21, ia pa2), (22, ia bl2), (157, dcl157 P Dn lw cl id gl bo), (158, lng pn), (159, ia ri), (160, ia lf), (161, ia wa), (162, ia fo), (163, lng dn), (164, ia ha), (165, ia pa), (166, ia bl)]) rfl rfl rfl l2 m2 (by decide) rfl hlen rfl rfl rfl ?_
  refine RT_step (pc2 := 87) rfl (fun _ _ => rfl) ?_
  refine ow_gf rfl rfl rfl hlen rfl ?_
  refine rt_ico rfl ki_0 ?_
  refine RT_step (pc2 := 92) rfl (fun _ _ => rfl) ?_
  refine ow_gf rfl rfl rfl hlen rfl ?_
  refine rt_ico rfl ki_0 ?_
  refine rt_bip rfl k8_7 ?_
  refine ow_cyI (m := 7) (l2 := [(13, dcl13 P Dn lw cl id gl bo), (14, lng pn), (15, ia ri), (16, ia lf), (17, ia wa2), (18, ia fo2), (19, lng dn2), (20, ia ha2), (21, ia pa2), (22, ia bl2), (157, dcl157 P Dn lw cl id gl bo), (158, lng pn), (159, ia ri), (160, ia lf), (161, ia wa), (162, ia fo), (163, lng dn), (164, ia ha), (165, ia pa), (166, ia bl)]) rfl rfl rfl l3 m3 (by decide) rfl hlen rfl rfl rfl ?_
  refine RT_step (pc2 := 102) rfl (fun _ _ => rfl) ?_
  refine ow_gf rfl rfl rfl hlen rfl ?_
  refine rt_ico rfl ki_0 ?_
  refine RT_step (pc2 := 107) rfl (fun _ _ => rfl) ?_
  refine ow_gf rfl rfl rfl hlen rfl ?_
  refine rt_ico rfl ki_0 ?_
  refine rt_bip rfl k8_7 ?_
  refine ow_cyI (m := 7) (l2 := [(13, dcl13 P Dn lw cl id gl bo), (14, lng pn), (15, ia ri), (16, ia lf), (17, ia wa), (18, ia fo2), (19, lng dn2), (20, ia ha2), (21, ia pa2), (22, ia bl2), (157, dcl157 P Dn lw cl id gl bo), (158, lng pn), (159, ia ri), (160, ia lf), (161, ia wa), (162, ia fo), (163, lng dn), (164, ia ha), (165, ia pa), (166, ia bl)]) rfl rfl rfl l4 m4 (by decide) rfl hlen rfl rfl rfl ?_
  refine RT_step (pc2 := 117) rfl (fun _ _ => rfl) ?_
  refine ow_gf rfl rfl rfl hlen rfl ?_
  refine rt_ico rfl ki_0 ?_
  refine RT_step (pc2 := 122) rfl (fun _ _ => rfl) ?_
  refine ow_gf rfl rfl rfl hlen rfl ?_
  refine rt_ico rfl ki_0 ?_
  refine rt_bip rfl k8_49 ?_
  refine ow_cyI (m := 49) (l2 := [(13, dcl13 P Dn lw cl id gl bo), (14, lng pn), (15, ia ri), (16, ia lf), (17, ia wa), (18, ia fo), (19, lng dn2), (20, ia ha2), (21, ia pa2), (22, ia bl2), (157, dcl157 P Dn lw cl id gl bo), (158, lng pn), (159, ia ri), (160, ia lf), (161, ia wa), (162, ia fo), (163, lng dn), (164, ia ha), (165, ia pa), (166, ia bl)]) rfl rfl rfl l5 m5 (by decide) rfl hlen rfl rfl rfl ?_
  refine RT_step (pc2 := 132) rfl (fun _ _ => rfl) ?_
  refine ow_gf rfl rfl rfl hlen rfl ?_
  refine rt_ico rfl ki_0 ?_
  refine RT_step (pc2 := 137) rfl (fun _ _ => rfl) ?_
  refine ow_gf rfl rfl rfl hlen rfl ?_
  refine rt_ico rfl ki_0 ?_
  refine rt_bip rfl k8_8 ?_
  refine ow_cyL (m := 8) (l2 := [(13, dcl13 P Dn lw cl id gl bo), (14, lng pn), (15, ia ri), (16, ia lf), (17, ia wa), (18, ia fo), (19, lng dn), (20, ia ha2), (21, ia pa2), (22, ia bl2), (157, dcl157 P Dn lw cl id gl bo), (158, lng pn), (159, ia ri), (160, ia lf), (161, ia wa), (162, ia fo), (163, lng dn), (164, ia ha), (165, ia pa), (166, ia bl)]) rfl rfl rfl l6 m6 (by decide) rfl hlen rfl rfl rfl ?_
  refine RT_step (pc2 := 147) rfl (fun _ _ => rfl) ?_
  refine ow_gf rfl rfl rfl hlen rfl ?_
  refine rt_ico rfl ki_0 ?_
  refine RT_step (pc2 := 152) rfl (fun _ _ => rfl) ?_
  refine ow_gf rfl rfl rfl hlen rfl ?_
  refine rt_ico rfl ki_0 ?_
  refine rt_bip rfl k8_8 ?_
  refine ow_cyI (m := 8) (l2 := [(13, dcl13 P Dn lw cl id gl bo), (14, lng pn), (15, ia ri), (16, ia lf), (17, ia wa), (18, ia fo), (19, lng dn), (20, ia ha), (21, ia pa2), (22, ia bl2), (157, dcl157 P Dn lw cl id gl bo), (158, lng pn), (159, ia ri), (160, ia lf), (161, ia wa), (162, ia fo), (163, lng dn), (164, ia ha), (165, ia pa), (166, ia bl)]) rfl rfl rfl l7 m7 (by decide) rfl hlen rfl rfl rfl ?_
  refine RT_step (pc2 := 162) rfl (fun _ _ => rfl) ?_
  refine ow_gf rfl rfl rfl hlen rfl ?_
  refine rt_ico rfl ki_0 ?_
  refine RT_step (pc2 := 167) rfl (fun _ _ => rfl) ?_
  refine ow_gf rfl rfl rfl hlen rfl ?_
  refine rt_ico rfl ki_0 ?_
  refine rt_bip rfl k8_8 ?_
  refine ow_cyI (m := 8) (l2 := [(13, dcl13 P Dn lw cl id gl bo), (14, lng pn), (15, ia ri), (16, ia lf), (17, ia wa), (18, ia fo), (19, lng dn), (20, ia ha), (21, ia pa), (22, ia bl2), (157, dcl157 P Dn lw cl id gl bo), (158, lng pn), (159, ia ri), (160, ia lf), (161, ia wa), (162, ia fo), (163, lng dn), (164, ia ha), (165, ia pa), (166, ia bl)]) rfl rfl rfl l8 m8 (by decide) rfl hlen rfl rfl rfl ?_
  refine RT_step (pc2 := 177) rfl (fun _ _ => rfl) ?_
  refine ow_gf rfl rfl rfl hlen rfl ?_
  refine rt_ico rfl ki_0 ?_
  refine RT_step (pc2 := 182) rfl (fun _ _ => rfl) ?_
  refine ow_gf rfl rfl rfl hlen rfl ?_
  refine rt_ico rfl ki_0 ?_
  refine rt_bip rfl k8_8 ?_
  refine ow_cyI (m := 8) (l2 := [(13, dcl13 P Dn lw cl id gl bo), (14, lng pn), (15, ia ri), (16, ia lf), (17, ia wa), (18, ia fo), (19, lng dn), (20, ia ha), (21, ia pa), (22, ia bl), (157, dcl157 P Dn lw cl id gl bo), (158, lng pn), (159, ia ri), (160, ia lf), (161, ia wa), (162, ia fo), (163, lng dn), (164, ia ha), (165, ia pa), (166, ia bl)]) rfl rfl rfl l9 m9 (by decide) rfl hlen rfl rfl rfl ?_
  exact ow_ret rfl rfl rfl
