/-! ===== cells that stay; the relation between two calls ===== -/
def wr_not (W : WR) (a : Nat) : Bool := W.all (fun q => !(Nat.beq q.1 a))
theorem wr_not_in {W : WR} {a i : Nat} (h : wr_not W a = true) : wr_in W a i i = false := by
  cases hv : wr_in W a i i with
  | false => rfl
  | true =>
    exfalso
    obtain ⟨q, hq, he⟩ := List.any_eq_true.mp hv
    rw [Bool.and_eq_true, Bool.and_eq_true] at he
    have h3 := List.all_eq_true.mp h q hq
    rw [he.1.1] at h3
    cases h3
theorem ag_hq {W : WR} {h0 h1 : List AE} {a : Nat} (hA : Agr W h0 h1) (hw : wr_not W a = true) (i : Nat) : hq h1 a i = hq h0 a i := hA.2 a i (wr_not_in hw)
/-- both heaps have these cells alike -/
def Ceq (h0 h1 : List AE) (a : Nat) : Prop := hh h1 a = hh h0 a ∧ ∀ i, hq h1 a i = hq h0 a i
theorem ag_ce {W : WR} {h0 h1 : List AE} {a : Nat} (hA : Agr W h0 h1) (hw : wr_not W a = true) : Ceq h0 h1 a := ⟨hA.1 a, ag_hq hA hw⟩
theorem ce_same {h0 h1 : List AE} {a : Nat} (h : h1[a]? = h0[a]?) : Ceq h0 h1 a := ⟨by unfold hh; rw [h], fun i => by unfold hq; rw [h]⟩
theorem ce_int {h0 h1 : List AE} {a t : Nat} {l : List Int32} (hA : Ceq h0 h1 a) (h : h0[a]? = some (.inl (t, .inl l))) : h1[a]? = some (.inl (t, .inl l)) := by
  have e1 : hh h1 a = some (0, t, l.length) := by rw [hA.1]; unfold hh; rw [h]; rfl
  obtain ⟨l2, -, e2, e3⟩ := ai_of e1
  have e : l2 = l := List.ext_getElem? (fun i => by
    have e4 := hA.2 i
    unfold hq at e4
    rw [e3, h] at e4
    have e4 : (l2[i]?).map Value.int = (l[i]?).map Value.int := e4
    cases h2 : l2[i]? with
    | none => cases h3 : l[i]? with
      | none => rfl
      | some y => rw [h2, h3] at e4; cases e4
    | some x => cases h3 : l[i]? with
      | none => rw [h2, h3] at e4; cases e4
      | some y => rw [h2, h3] at e4; cases e4; rfl)
  rw [e3, e]
theorem ce_lng {h0 h1 : List AE} {a t : Nat} {l : List Int64} (hA : Ceq h0 h1 a) (h : h0[a]? = some (.inl (t, .inr (.inl l)))) : h1[a]? = some (.inl (t, .inr (.inl l))) := by
  have e1 : hh h1 a = some (1, t, l.length) := by rw [hA.1]; unfold hh; rw [h]; rfl
  obtain ⟨l2, -, e2, e3⟩ := al_of e1
  have e : l2 = l := List.ext_getElem? (fun i => by
    have e4 := hA.2 i
    unfold hq at e4
    rw [e3, h] at e4
    have e4 : (l2[i]?).map Value.long = (l[i]?).map Value.long := e4
    cases h2 : l2[i]? with
    | none => cases h3 : l[i]? with
      | none => rfl
      | some y => rw [h2, h3] at e4; cases e4
    | some x => cases h3 : l[i]? with
      | none => rw [h2, h3] at e4; cases e4
      | some y => rw [h2, h3] at e4; cases e4; rfl)
  rw [e3, e]
theorem ce_obj {h0 h1 : List AE} {a c : Nat} {fs : List Value} (hA : Ceq h0 h1 a) (h : h0[a]? = some (.inr (c, fs))) : h1[a]? = some (.inr (c, fs)) := by
  have e1 : hh h1 a = some (3, c, fs.length) := by rw [hA.1]; unfold hh; rw [h]; rfl
  obtain ⟨gs, e2, e3⟩ := hh_obj e1
  have e : gs = fs := List.ext_getElem? (fun i => by
    have e4 := hA.2 i
    unfold hq at e4
    rw [e2, h] at e4
    exact e4)
  rw [e2, e]
theorem hq_int {hp : List AE} {a t i : Nat} {l : List Int32} (h : hp[a]? = some (.inl (t, .inl l))) : hq hp a i = (l[i]?).map Value.int := by unfold hq; rw [h]; rfl
theorem hq_lng {hp : List AE} {a t i : Nat} {l : List Int64} (h : hp[a]? = some (.inl (t, .inr (.inl l)))) : hq hp a i = (l[i]?).map Value.long := by unfold hq; rw [h]; rfl
theorem hq_obj {hp : List AE} {a c i : Nat} {fs : List Value} (h : hp[a]? = some (.inr (c, fs))) : hq hp a i = fs[i]? := by unfold hq; rw [h]; rfl
def dcl133 (P Dn : Nat) (lw cl id : Int32) (gl bo : Nat) : AE := .inr (1, [.int (Int32.ofNat P), .int (Int32.ofNat Dn), .int lw, .int cl, .int id, .int (Int32.ofNat gl), .int (Int32.ofNat bo), .ref 134, .ref 135, .ref 136, .ref 139, .ref 140, .ref 141, .ref 142, .ref 137, .ref 138])
def dcl157 (P Dn : Nat) (lw cl id : Int32) (gl bo : Nat) : AE := .inr (1, [.int (Int32.ofNat P), .int (Int32.ofNat Dn), .int lw, .int cl, .int id, .int (Int32.ofNat gl), .int (Int32.ofNat bo), .ref 158, .ref 159, .ref 160, .ref 163, .ref 164, .ref 165, .ref 166, .ref 161, .ref 162])
def DH3 (hp : List AE) (c o e p : Nat) : Prop := ∃ (P : Nat) (Dn : Nat) (lw : Int32) (cl : Int32) (id : Int32) (gl : Nat) (bo : Nat) (pn : List Int64) (ri : List Int32) (lf : List Int32) (wa : List Int32) (fo : List Int32) (dn : List Int64) (ha : List Int32) (pa : List Int32) (bl : List Int32) (rd : List Int32) (rn : List Int64), hp[3]? = some (dcl3 P Dn lw cl id gl bo) ∧ hp[4]? = some (lng pn) ∧ hp[5]? = some (ia ri) ∧ hp[6]? = some (ia lf) ∧ hp[7]? = some (ia wa) ∧ hp[8]? = some (ia fo) ∧ hp[9]? = some (lng dn) ∧ hp[10]? = some (ia ha) ∧ hp[11]? = some (ia pa) ∧ hp[12]? = some (ia bl) ∧ rd.length = 101 ∧ rn.length = 15 ∧ DF P Dn lw cl id gl bo pn ri lf wa fo dn ha pa bl rd rn ∧ (∀ j, j < 101 → hq hp c (o + j) = (rd[j]?).map Value.int) ∧ ∀ j, j < 15 → hq hp e (p + j) = (rn[j]?).map Value.long
theorem dh3_keep {h0 h1 : List AE} {c o e p : Nat} (k : ∀ a, 3 ≤ a → a ≤ 12 → Ceq h0 h1 a) (k1 : ∀ j, j < 101 → hq h1 c (o + j) = hq h0 c (o + j)) (k2 : ∀ j, j < 15 → hq h1 e (p + j) = hq h0 e (p + j)) (h : DH3 h0 c o e p) : DH3 h1 c o e p := by
  obtain ⟨P, Dn, lw, cl, id, gl, bo, pn, ri, lf, wa, fo, dn, ha, pa, bl, rd, rn, h0, h1, h2, h3, h4, h5, h6, h7, h8, h9, z1, z2, z3, z4, z5⟩ := h
  exact ⟨P, Dn, lw, cl, id, gl, bo, pn, ri, lf, wa, fo, dn, ha, pa, bl, rd, rn, ce_obj (k 3 (by decide) (by decide)) h0, ce_lng (k 4 (by decide) (by decide)) h1, ce_int (k 5 (by decide) (by decide)) h2, ce_int (k 6 (by decide) (by decide)) h3, ce_int (k 7 (by decide) (by decide)) h4, ce_int (k 8 (by decide) (by decide)) h5, ce_lng (k 9 (by decide) (by decide)) h6, ce_int (k 10 (by decide) (by decide)) h7, ce_int (k 11 (by decide) (by decide)) h8, ce_int (k 12 (by decide) (by decide)) h9, z1, z2, z3, fun j hj => (k1 j hj).trans (z4 j hj), fun j hj => (k2 j hj).trans (z5 j hj)⟩
def DH13 (hp : List AE) (c o e p : Nat) : Prop := ∃ (P : Nat) (Dn : Nat) (lw : Int32) (cl : Int32) (id : Int32) (gl : Nat) (bo : Nat) (pn : List Int64) (ri : List Int32) (lf : List Int32) (wa : List Int32) (fo : List Int32) (dn : List Int64) (ha : List Int32) (pa : List Int32) (bl : List Int32) (rd : List Int32) (rn : List Int64), hp[13]? = some (dcl13 P Dn lw cl id gl bo) ∧ hp[14]? = some (lng pn) ∧ hp[15]? = some (ia ri) ∧ hp[16]? = some (ia lf) ∧ hp[17]? = some (ia wa) ∧ hp[18]? = some (ia fo) ∧ hp[19]? = some (lng dn) ∧ hp[20]? = some (ia ha) ∧ hp[21]? = some (ia pa) ∧ hp[22]? = some (ia bl) ∧ rd.length = 101 ∧ rn.length = 15 ∧ DF P Dn lw cl id gl bo pn ri lf wa fo dn ha pa bl rd rn ∧ (∀ j, j < 101 → hq hp c (o + j) = (rd[j]?).map Value.int) ∧ ∀ j, j < 15 → hq hp e (p + j) = (rn[j]?).map Value.long
theorem dh13_keep {h0 h1 : List AE} {c o e p : Nat} (k : ∀ a, 13 ≤ a → a ≤ 22 → Ceq h0 h1 a) (k1 : ∀ j, j < 101 → hq h1 c (o + j) = hq h0 c (o + j)) (k2 : ∀ j, j < 15 → hq h1 e (p + j) = hq h0 e (p + j)) (h : DH13 h0 c o e p) : DH13 h1 c o e p := by
  obtain ⟨P, Dn, lw, cl, id, gl, bo, pn, ri, lf, wa, fo, dn, ha, pa, bl, rd, rn, h0, h1, h2, h3, h4, h5, h6, h7, h8, h9, z1, z2, z3, z4, z5⟩ := h
  exact ⟨P, Dn, lw, cl, id, gl, bo, pn, ri, lf, wa, fo, dn, ha, pa, bl, rd, rn, ce_obj (k 13 (by decide) (by decide)) h0, ce_lng (k 14 (by decide) (by decide)) h1, ce_int (k 15 (by decide) (by decide)) h2, ce_int (k 16 (by decide) (by decide)) h3, ce_int (k 17 (by decide) (by decide)) h4, ce_int (k 18 (by decide) (by decide)) h5, ce_lng (k 19 (by decide) (by decide)) h6, ce_int (k 20 (by decide) (by decide)) h7, ce_int (k 21 (by decide) (by decide)) h8, ce_int (k 22 (by decide) (by decide)) h9, z1, z2, z3, fun j hj => (k1 j hj).trans (z4 j hj), fun j hj => (k2 j hj).trans (z5 j hj)⟩
def DH133 (hp : List AE) (c o e p : Nat) : Prop := ∃ (P : Nat) (Dn : Nat) (lw : Int32) (cl : Int32) (id : Int32) (gl : Nat) (bo : Nat) (pn : List Int64) (ri : List Int32) (lf : List Int32) (wa : List Int32) (fo : List Int32) (dn : List Int64) (ha : List Int32) (pa : List Int32) (bl : List Int32) (rd : List Int32) (rn : List Int64), hp[133]? = some (dcl133 P Dn lw cl id gl bo) ∧ hp[134]? = some (lng pn) ∧ hp[135]? = some (ia ri) ∧ hp[136]? = some (ia lf) ∧ hp[137]? = some (ia wa) ∧ hp[138]? = some (ia fo) ∧ hp[139]? = some (lng dn) ∧ hp[140]? = some (ia ha) ∧ hp[141]? = some (ia pa) ∧ hp[142]? = some (ia bl) ∧ rd.length = 101 ∧ rn.length = 15 ∧ DF P Dn lw cl id gl bo pn ri lf wa fo dn ha pa bl rd rn ∧ (∀ j, j < 101 → hq hp c (o + j) = (rd[j]?).map Value.int) ∧ ∀ j, j < 15 → hq hp e (p + j) = (rn[j]?).map Value.long
theorem dh133_keep {h0 h1 : List AE} {c o e p : Nat} (k : ∀ a, 133 ≤ a → a ≤ 142 → Ceq h0 h1 a) (k1 : ∀ j, j < 101 → hq h1 c (o + j) = hq h0 c (o + j)) (k2 : ∀ j, j < 15 → hq h1 e (p + j) = hq h0 e (p + j)) (h : DH133 h0 c o e p) : DH133 h1 c o e p := by
  obtain ⟨P, Dn, lw, cl, id, gl, bo, pn, ri, lf, wa, fo, dn, ha, pa, bl, rd, rn, h0, h1, h2, h3, h4, h5, h6, h7, h8, h9, z1, z2, z3, z4, z5⟩ := h
  exact ⟨P, Dn, lw, cl, id, gl, bo, pn, ri, lf, wa, fo, dn, ha, pa, bl, rd, rn, ce_obj (k 133 (by decide) (by decide)) h0, ce_lng (k 134 (by decide) (by decide)) h1, ce_int (k 135 (by decide) (by decide)) h2, ce_int (k 136 (by decide) (by decide)) h3, ce_int (k 137 (by decide) (by decide)) h4, ce_int (k 138 (by decide) (by decide)) h5, ce_lng (k 139 (by decide) (by decide)) h6, ce_int (k 140 (by decide) (by decide)) h7, ce_int (k 141 (by decide) (by decide)) h8, ce_int (k 142 (by decide) (by decide)) h9, z1, z2, z3, fun j hj => (k1 j hj).trans (z4 j hj), fun j hj => (k2 j hj).trans (z5 j hj)⟩
def DH157 (hp : List AE) (c o e p : Nat) : Prop := ∃ (P : Nat) (Dn : Nat) (lw : Int32) (cl : Int32) (id : Int32) (gl : Nat) (bo : Nat) (pn : List Int64) (ri : List Int32) (lf : List Int32) (wa : List Int32) (fo : List Int32) (dn : List Int64) (ha : List Int32) (pa : List Int32) (bl : List Int32) (rd : List Int32) (rn : List Int64), hp[157]? = some (dcl157 P Dn lw cl id gl bo) ∧ hp[158]? = some (lng pn) ∧ hp[159]? = some (ia ri) ∧ hp[160]? = some (ia lf) ∧ hp[161]? = some (ia wa) ∧ hp[162]? = some (ia fo) ∧ hp[163]? = some (lng dn) ∧ hp[164]? = some (ia ha) ∧ hp[165]? = some (ia pa) ∧ hp[166]? = some (ia bl) ∧ rd.length = 101 ∧ rn.length = 15 ∧ DF P Dn lw cl id gl bo pn ri lf wa fo dn ha pa bl rd rn ∧ (∀ j, j < 101 → hq hp c (o + j) = (rd[j]?).map Value.int) ∧ ∀ j, j < 15 → hq hp e (p + j) = (rn[j]?).map Value.long
theorem dh157_keep {h0 h1 : List AE} {c o e p : Nat} (k : ∀ a, 157 ≤ a → a ≤ 166 → Ceq h0 h1 a) (k1 : ∀ j, j < 101 → hq h1 c (o + j) = hq h0 c (o + j)) (k2 : ∀ j, j < 15 → hq h1 e (p + j) = hq h0 e (p + j)) (h : DH157 h0 c o e p) : DH157 h1 c o e p := by
  obtain ⟨P, Dn, lw, cl, id, gl, bo, pn, ri, lf, wa, fo, dn, ha, pa, bl, rd, rn, h0, h1, h2, h3, h4, h5, h6, h7, h8, h9, z1, z2, z3, z4, z5⟩ := h
  exact ⟨P, Dn, lw, cl, id, gl, bo, pn, ri, lf, wa, fo, dn, ha, pa, bl, rd, rn, ce_obj (k 157 (by decide) (by decide)) h0, ce_lng (k 158 (by decide) (by decide)) h1, ce_int (k 159 (by decide) (by decide)) h2, ce_int (k 160 (by decide) (by decide)) h3, ce_int (k 161 (by decide) (by decide)) h4, ce_int (k 162 (by decide) (by decide)) h5, ce_lng (k 163 (by decide) (by decide)) h6, ce_int (k 164 (by decide) (by decide)) h7, ce_int (k 165 (by decide) (by decide)) h8, ce_int (k 166 (by decide) (by decide)) h9, z1, z2, z3, fun j hj => (k1 j hj).trans (z4 j hj), fun j hj => (k2 j hj).trans (z5 j hj)⟩
def TPH (hp : List AE) : Prop := ∃ bs ts, hp[2]? = some (bcl bs) ∧ hp[181]? = some (mtl ts) ∧ TP bs ts
def CUR (hp : List AE) : Prop := (hq hp 0 1 = some (.ref 3) ∧ hq hp 0 2 = some (.ref 13) ∧ DH3 hp 182 0 187 0) ∨ (hq hp 0 1 = some (.ref 13) ∧ hq hp 0 2 = some (.ref 3) ∧ DH13 hp 182 0 187 0)
def IM0 (hp : List AE) : Prop := hq hp 132 0 = some (.int 1) → DH133 hp 184 0 189 0
def IM1 (hp : List AE) : Prop := hq hp 156 0 = some (.int 1) → DH157 hp 184 396 189 15
def DEEP (hp : List AE) : Prop := TPH hp ∧ CUR hp ∧ IM0 hp ∧ IM1 hp
def rng (W : WR) (lo n : Nat) : Bool := (List.range n).all (fun j => wr_not W (lo + j))
theorem rng_at {W : WR} {lo n a : Nat} (h : rng W lo n = true) (h1 : lo ≤ a) (h2 : a < lo + n) : wr_not W a = true := by
  have := List.all_eq_true.mp h (a - lo) (List.mem_range.mpr (by omega))
  rw [show lo + (a - lo) = a by omega] at this
  exact this
theorem tph_keep {h0 h1 : List AE} (k2 : Ceq h0 h1 2) (k181 : Ceq h0 h1 181) (h : TPH h0) : TPH h1 := by
  obtain ⟨bs, ts, e1, e2, e3⟩ := h
  exact ⟨bs, ts, ce_int k2 e1, ce_int k181 e2, e3⟩
theorem cur_keep {h0 h1 : List AE} (k : ∀ a, 3 ≤ a → a ≤ 22 → Ceq h0 h1 a) (k0 : hq h1 0 1 = hq h0 0 1) (k00 : hq h1 0 2 = hq h0 0 2) (k1 : ∀ j, j < 101 → hq h1 182 (0 + j) = hq h0 182 (0 + j)) (k2 : ∀ j, j < 15 → hq h1 187 (0 + j) = hq h0 187 (0 + j)) (h : CUR h0) : CUR h1 := by
  rcases h with ⟨e1, e2, e3⟩ | ⟨e1, e2, e3⟩
  · exact Or.inl ⟨k0.trans e1, k00.trans e2, dh3_keep (fun a x y => k a (by omega) (by omega)) k1 k2 e3⟩
  · exact Or.inr ⟨k0.trans e1, k00.trans e2, dh13_keep (fun a x y => k a (by omega) (by omega)) k1 k2 e3⟩
theorem im0_keep {h0 h1 : List AE} (k : ∀ a, 133 ≤ a → a ≤ 142 → Ceq h0 h1 a) (k0 : hq h1 132 0 = hq h0 132 0) (k1 : ∀ j, j < 101 → hq h1 184 (0 + j) = hq h0 184 (0 + j)) (k2 : ∀ j, j < 15 → hq h1 189 (0 + j) = hq h0 189 (0 + j)) (h : IM0 h0) : IM0 h1 := fun e => dh133_keep k k1 k2 (h (k0.symm.trans e))
theorem im1_keep {h0 h1 : List AE} (k : ∀ a, 157 ≤ a → a ≤ 166 → Ceq h0 h1 a) (k0 : hq h1 156 0 = hq h0 156 0) (k1 : ∀ j, j < 101 → hq h1 184 (396 + j) = hq h0 184 (396 + j)) (k2 : ∀ j, j < 15 → hq h1 189 (15 + j) = hq h0 189 (15 + j)) (h : IM1 h0) : IM1 h1 := fun e => dh157_keep k k1 k2 (h (k0.symm.trans e))
def dpW (W : WR) : Bool := (wr_not W 2 && wr_not W 181) && ((rng W 3 20 && wr_off W 0 1 2) && (wr_off W 182 0 100 && wr_not W 187)) && ((rng W 133 10 && wr_off W 132 0 0) && (rng W 157 10 && wr_off W 156 0 0) && (wr_not W 184 && wr_not W 189))
theorem deep_keep {W : WR} {h0 h1 : List AE} (hA : Agr W h0 h1) (hw : dpW W = true) (h : DEEP h0) : DEEP h1 := by
  unfold dpW at hw
  simp only [Bool.and_eq_true] at hw
  obtain ⟨⟨⟨w1, w2⟩, ⟨w3, w4⟩, w5, w6⟩, ⟨⟨w7, w8⟩, w9, w10⟩, w11, w12⟩ := hw
  obtain ⟨h1, h2, h3, h4⟩ := h
  exact ⟨tph_keep (ag_ce hA w1) (ag_ce hA w2) h1, cur_keep (fun a x y => ag_ce hA (rng_at w3 x (by omega))) (ag_off hA w4 (by decide) (by decide)) (ag_off hA w4 (by decide) (by decide)) (fun j hj => ag_off hA w5 (by omega) (by omega)) (fun j hj => ag_hq hA w6 _) h2, im0_keep (fun a x y => ag_ce hA (rng_at w7 x (by omega))) (ag_off hA w8 (by decide) (by decide)) (fun j hj => ag_hq hA w11 _) (fun j hj => ag_hq hA w12 _) h3, im1_keep (fun a x y => ag_ce hA (rng_at w9 x (by omega))) (ag_off hA w10 (by decide) (by decide)) (fun j hj => ag_hq hA w11 _) (fun j hj => ag_hq hA w12 _) h4⟩
theorem deep_ext {h0 h1 : List AE} (k : ∀ a, a < 203 → h1[a]? = h0[a]?) (h : DEEP h0) : DEEP h1 := by
  have c : ∀ a, a < 203 → Ceq h0 h1 a := fun a ha => ce_same (k a ha)
  obtain ⟨h1, h2, h3, h4⟩ := h
  exact ⟨tph_keep (c 2 (by decide)) (c 181 (by decide)) h1, cur_keep (fun a x y => c a (by omega)) ((c 0 (by decide)).2 1) ((c 0 (by decide)).2 2) (fun j hj => (c 182 (by decide)).2 _) (fun j hj => (c 187 (by decide)).2 _) h2, im0_keep (fun a x y => c a (by omega)) ((c 132 (by decide)).2 0) (fun j hj => (c 184 (by decide)).2 _) (fun j hj => (c 189 (by decide)).2 _) h3, im1_keep (fun a x y => c a (by omega)) ((c 156 (by decide)).2 0) (fun j hj => (c 184 (by decide)).2 _) (fun j hj => (c 189 (by decide)).2 _) h4⟩
/-- a contract's run, as a run that says just what comes out -/
theorem sd_runF {G : GT} {C : CO} (hC : CoOk G MM C) (l : Launch) (b : Nat) (en ac : Nat → Nat) (D : va_G) {ρ : List Int} {As : List Value} {hp : List AE} (h1 : en_ok ρ (cE C)) (h2 : ss_ok ρ (cA C) As) (h3 : sp_ok ρ (cP C) hp) (h4 : hp_ok G hp) (hd : cDep C ≤ 100) (ho : outI C = true) : ∃ (r : Int32) (hc : List AE), ev_M l b en ac D MM 100 (cMi C) As hp (some (.int r), hc) ∧ EndOk G C ρ hp (some (.int r), hc) ∧ FR (cDep C) (cMi C) As hp (some (.int r), hc) := by
  obtain ⟨⟨q1, q2⟩, ⟨N, hN⟩, he⟩ := hC.2.2 ρ As hp h1 h2 h3 h4
  unfold outI at ho
  rw [Bool.and_eq_true] at ho
  have hM := (evF_ok l b en ac D N MM_val MM_abs 100 _ _ _ _ (hN N (Nat.le_refl _) 100 hd)).1 ho.1
  have he2 := he
  obtain ⟨-, -, o, hoo, τ, -, -, t3⟩ := he2
  have h5 := List.all_eq_true.mp ho.2 o hoo
  split at h5
  · rename_i k c hs
    rw [hs] at t3
    cases q1 with
    | none => exact t3.elim
    | some v =>
      obtain ⟨x, z, e1, -, -⟩ := (show sv_ok (ρ ++ τ) (0, k, c) v from t3)
      subst e1
      exact ⟨x, q2, hM, he, N, hN⟩
  · cases h5
