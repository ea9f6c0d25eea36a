/-! ===== what else holds between two calls: an image is kept on both sides or on none ===== -/
def XXS0 : List (Nat × Nat × Nat) := [(132, 0, 0), (156, 0, 0), (190, 0, 1)]
def XX0 (hp : List AE) : Prop := (∃ z : Int32, hq hp 132 0 = some (.int z) ∧ hq hp 190 0 = some (.int z)) ∧ ∃ z : Int32, hq hp 156 0 = some (.int z) ∧ hq hp 190 1 = some (.int z)
def xxW0 (W : WR) : Bool := wr_off W 132 0 0 && wr_off W 156 0 0 && wr_off W 190 0 1
theorem xx0_keep {W : WR} {h0 h1 : List AE} (hA : Agr W h0 h1) (hw : xxW0 W = true) (X : XX0 h0) : XX0 h1 := by
  unfold xxW0 at hw
  rw [Bool.and_eq_true, Bool.and_eq_true] at hw
  obtain ⟨⟨z, a1, a2⟩, y, b1, b2⟩ := X
  refine ⟨⟨z, ?_, ?_⟩, y, ?_, ?_⟩
  · rw [ag_off hA hw.1.1 (Nat.le_refl 0) (Nat.le_refl 0)]; exact a1
  · rw [ag_off hA hw.2 (Nat.le_refl 0) (Nat.zero_le 1)]; exact a2
  · rw [ag_off hA hw.1.2 (Nat.le_refl 0) (Nat.le_refl 0)]; exact b1
  · rw [ag_off hA hw.2 (Nat.zero_le 1) (Nat.le_refl 1)]; exact b2
theorem xx0_ext {h0 h1 : List AE} (k1 : ∀ a i, a < 203 → hq h1 a i = hq h0 a i) (X : XX0 h0) : XX0 h1 := by
  obtain ⟨⟨z, a1, a2⟩, y, b1, b2⟩ := X
  exact ⟨⟨z, by rw [k1 _ _ (by decide)]; exact a1, by rw [k1 _ _ (by decide)]; exact a2⟩, y, by rw [k1 _ _ (by decide)]; exact b1, by rw [k1 _ _ (by decide)]; exact b2⟩
theorem hh_ln {hp : List AE} {a : Nat} {x : Nat × Nat × Nat} (h : hh hp a = some x) : a < hp.length := by
  unfold hh at h
  cases e : hp[a]? with
  | none => rw [e] at h; cases h
  | some y => exact (List.getElem?_eq_some_iff.mp e).1
theorem li_len {hp : List AE} (I : LInv hp) : Nat.ble 204 hp.length = true := Nat.ble_eq_true_of_le (hh_ln I.2.2.2)
def EXT (_ : List AE) : Prop := True
def extW (_ : WR) : Bool := true
theorem ext_keep {W : WR} {h0 h1 : List AE} (_ : Agr W h0 h1) (_ : extW W = true) (_ : EXT h0) : EXT h1 := trivial
theorem ext_ext {h0 h1 : List AE} (_ : ∀ a, a < 203 → Ceq h0 h1 a) (_ : EXT h0) : EXT h1 := trivial
def XX (hp : List AE) : Prop := XX0 hp ∧ DEEP hp ∧ EXT hp
def xxW (W : WR) : Bool := xxW0 W && dpW W && extW W
theorem xx_keep {W : WR} {h0 h1 : List AE} (hA : Agr W h0 h1) (hw : xxW W = true) (X : XX h0) : XX h1 := by
  unfold xxW at hw
  rw [Bool.and_eq_true, Bool.and_eq_true] at hw
  exact ⟨xx0_keep hA hw.1.1 X.1, deep_keep hA hw.1.2 X.2.1, ext_keep hA hw.2 X.2.2⟩
theorem xx_two {V W : WR} {h0 h1 h2 : List AE} (hA : Agr V h0 h1) (hv : xxW V = true) (hB : Agr W h1 h2) (hw : xxW W = true) : XX h0 → XX h2 := fun X => xx_keep hB hw (xx_keep hA hv X)
theorem xx_same {h0 h1 : List AE} (k : ∀ a, a < 203 → h1[a]? = h0[a]?) (X : XX h0) : XX h1 := ⟨xx0_ext (fun a i ha => (ce_same (k a ha)).2 i) X.1, deep_ext k X.2.1, ext_ext (fun a ha => ce_same (k a ha)) X.2.2⟩
def LIX (hp : List AE) : Prop := LInv hp ∧ XX hp
theorem hB_r : (∀ i, i < 49 → (List.replicate 49 (0 : Int32))[i]? = (([0, 0, 10, 3, 5] ++ List.replicate 96 0) : List Int32)[52 + i]?) ∧ (∀ j, j < 101 → hq ev_hB 182 (0 + j) = ((([0, 0, 10, 3, 5] ++ List.replicate 96 0) : List Int32)[j]?).map Value.int) ∧ (∀ j, j < 15 → hq ev_hB 187 (0 + j) = ((List.replicate 15 (0 : Int64))[j]?).map Value.long) ∧ (∀ q, q < 7 → ([0, 0, 0, 0, 0, 0, 0] : List Int32)[q]? = some (Int32.ofNat 0) ∧ (([0, 0, 10, 3, 5] ++ List.replicate 96 0) : List Int32)[45 + q]? = some (Int32.ofNat 0)) := by decide +kernel
theorem hB_t : ∀ i, i < 940 → ∃ v : Int32, (List.replicate 940 (0 : Int32))[i]? = some v ∧ (List.replicate 940 (0 : Int32))[i]? = some (v &&& Int32.ofNat 255) := fun i hi => ⟨0, by rw [List.getElem?_replicate, if_pos hi], by rw [List.getElem?_replicate, if_pos hi]; rfl⟩
set_option maxRecDepth 100000 in
theorem hB_lix : LIX ev_hB := by
  refine ⟨hB_ok, ⟨⟨0, rfl, rfl⟩, 0, rfl, rfl⟩, ⟨⟨_, _, rfl, rfl, rfl, rfl, hB_t⟩, Or.inl ⟨rfl, rfl, ?_⟩, (fun e => (by cases e)), (fun e => (by cases e))⟩, trivial⟩
  obtain ⟨r1, r2, r3, r4⟩ := hB_r
  refine ⟨0, 0, 10, 3, 5, 0, 0, [0, 0, 0, 0, 0, 0, 0], [0, 0, 0, 0, 0, 0, 0], [0, 0, 0, 0, 0, 0, 0], [0, 0, 0, 0, 0, 0, 0], (List.replicate 49 0), (List.replicate 8 0), (List.replicate 8 0), (List.replicate 8 0), (List.replicate 8 0), ([0, 0, 10, 3, 5] ++ List.replicate 96 0), (List.replicate 15 0), rfl, rfl, rfl, rfl, rfl, rfl, rfl, rfl, rfl, rfl, rfl, rfl, ?_, r2, r3⟩
  exact ⟨by decide, by decide, ⟨rfl, rfl, rfl, rfl, rfl, rfl, rfl, rfl, rfl⟩, ⟨fun i hi => absurd hi (Nat.not_lt_zero i), fun i hi => absurd hi (Nat.not_lt_zero i)⟩, ⟨rfl, rfl, rfl, by decide, rfl, by decide, fun i hi => absurd hi (Nat.not_lt_zero i), fun i hi => absurd hi (Nat.not_lt_zero i), r1⟩, ⟨fun _ => 0, fun _ => 0, fun q hq => ⟨(r4 q hq).1, (show (0 : Nat) < 128 by decide), (r4 q hq).2, (show (0 : Nat) < 2 ^ 0 by decide)⟩, fun p q _ _ => (Nat.zero_testBit p).trans (Nat.zero_testBit q).symm⟩, rfl, rfl, rfl⟩
def OpR (l : Launch) (b : Nat) (en ac : Nat → Nat) (D : va_G) (x m : Nat) (As : List Value) (hp : List AE) : Prop := ∃ (r r2 : Int32) (hc hd : List AE) (fs gs : List Value), ev_M l b en ac D MM 100 x (.ref 0 :: As) hp (some (.int r), hc) ∧ ev_M l b en ac D MM 100 m (.ref 180 :: As) hc (some (.int r2), hd) ∧ LInv hd ∧ hp[0]? = some (.inr (10, fs)) ∧ hc[180]? = some (.inr (11, gs)) ∧ (XX hp → XX hd)
theorem op_mk {l : Launch} {b : Nat} {en ac : Nat → Nat} {D : va_G} {x m : Nat} {As : List Value} {hp hc hd : List AE} {r r2 : Int32} {V W : WR} (h1 : ev_M l b en ac D MM 100 x (.ref 0 :: As) hp (some (.int r), hc)) (h2 : ev_M l b en ac D MM 100 m (.ref 180 :: As) hc (some (.int r2), hd)) (I : LInv hd) (g1 : hp_ok GG hp) (g2 : hp_ok GG hc) (a1 : Agr V hp hc) (v1 : xxW V = true) (a2 : Agr W hc hd) (v2 : xxW W = true) : OpR l b en ac D x m As hp := by
  obtain ⟨fs, f1⟩ := hp_x g1
  obtain ⟨gs, f2⟩ := hp_m g2
  exact ⟨r, r2, hc, hd, fs, gs, h1, h2, I, f1, f2, xx_two a1 v1 a2 v2⟩
/-- both answer the same -/
def OpE (l : Launch) (b : Nat) (en ac : Nat → Nat) (D : va_G) (x m : Nat) (As : List Value) (hp : List AE) : Prop := ∃ (r : Int32) (hc hd : List AE) (fs gs : List Value), ev_M l b en ac D MM 100 x (.ref 0 :: As) hp (some (.int r), hc) ∧ ev_M l b en ac D MM 100 m (.ref 180 :: As) hc (some (.int r), hd) ∧ LInv hd ∧ hp[0]? = some (.inr (10, fs)) ∧ hc[180]? = some (.inr (11, gs)) ∧ (XX hp → XX hd)
theorem op_mkE {l : Launch} {b : Nat} {en ac : Nat → Nat} {D : va_G} {x m : Nat} {As : List Value} {hp hc hd : List AE} {r r2 : Int32} (h1 : ev_M l b en ac D MM 100 x (.ref 0 :: As) hp (some (.int r), hc)) (h2 : ev_M l b en ac D MM 100 m (.ref 180 :: As) hc (some (.int r2), hd)) (v1 : r2.toInt = r.toInt) (I : LInv hd) (g1 : hp_ok GG hp) (g2 : hp_ok GG hc) (X : XX hp → XX hd) : OpE l b en ac D x m As hp := by
  obtain ⟨fs, f1⟩ := hp_x g1
  obtain ⟨gs, f2⟩ := hp_m g2
  have e := Int32.toInt_inj.mp v1
  subst e
  exact ⟨r2, hc, hd, fs, gs, h1, h2, I, f1, f2, X⟩
/-- the latest FAULT, on both sides -/
def FLT (hp : List AE) : Prop := ∃ z : Int32, hq hp 0 13 = some (.int z) ∧ hq hp 180 10 = some (.int z)
def REST (hp : List AE) : Prop := CUR hp ∧ IM0 hp ∧ IM1 hp
def rsW (W : WR) : Bool := ((rng W 3 20 && wr_off W 0 1 2) && (wr_off W 182 0 100 && wr_not W 187)) && ((rng W 133 10 && wr_off W 132 0 0) && (rng W 157 10 && wr_off W 156 0 0) && (wr_not W 184 && wr_not W 189))
theorem rest_keep {W : WR} {h0 h1 : List AE} (hA : Agr W h0 h1) (hw : rsW W = true) (h : REST h0) : REST h1 := by
  unfold rsW at hw
  simp only [Bool.and_eq_true] at hw
  obtain ⟨⟨⟨w3, w4⟩, w5, w6⟩, ⟨⟨w7, w8⟩, w9, w10⟩, w11, w12⟩ := hw
  obtain ⟨h2, h3, h4⟩ := h
  exact ⟨cur_keep (fun a x y => ag_ce hA (rng_at w3 x (by omega))) (ag_off hA w4 (by decide) (by decide)) (ag_off hA w4 (by decide) (by decide)) (fun j hj => ag_off hA w5 (by omega) (by omega)) (fun j hj => ag_hq hA w6 _) h2, im0_keep (fun a x y => ag_ce hA (rng_at w7 x (by omega))) (ag_off hA w8 (by decide) (by decide)) (fun j hj => ag_hq hA w11 _) (fun j hj => ag_hq hA w12 _) h3, im1_keep (fun a x y => ag_ce hA (rng_at w9 x (by omega))) (ag_off hA w10 (by decide) (by decide)) (fun j hj => ag_hq hA w11 _) (fun j hj => ag_hq hA w12 _) h4⟩
def imW (W : WR) : Bool := (rng W 133 10 && wr_off W 132 0 0) && (rng W 157 10 && wr_off W 156 0 0) && (wr_not W 184 && wr_not W 189)
theorem ims_keep {W : WR} {h0 h1 : List AE} (hA : Agr W h0 h1) (hw : imW W = true) (h : IM0 h0 ∧ IM1 h0) : IM0 h1 ∧ IM1 h1 := by
  unfold imW at hw
  simp only [Bool.and_eq_true] at hw
  obtain ⟨⟨⟨w7, w8⟩, w9, w10⟩, w11, w12⟩ := hw
  exact ⟨im0_keep (fun a x y => ag_ce hA (rng_at w7 x (by omega))) (ag_off hA w8 (by decide) (by decide)) (fun j hj => ag_hq hA w11 _) (fun j hj => ag_hq hA w12 _) h.1, im1_keep (fun a x y => ag_ce hA (rng_at w9 x (by omega))) (ag_off hA w10 (by decide) (by decide)) (fun j hj => ag_hq hA w11 _) (fun j hj => ag_hq hA w12 _) h.2⟩
