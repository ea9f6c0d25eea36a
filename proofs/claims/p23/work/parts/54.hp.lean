/-! ===== cells ===== -/
theorem hh_obj {hp : List AE} {a x n : Nat} (h : hh hp a = some (3, x, n)) : ∃ fs, hp[a]? = some (.inr (x, fs)) ∧ fs.length = n := by
  unfold hh at h
  cases hq : hp[a]? with
  | none => rw [hq] at h; cases h
  | some e =>
    rw [hq] at h
    match e, h with
    | .inl (t, .inl l), h => cases h
    | .inl (t, .inr (.inl l)), h => cases h
    | .inl (t, .inr (.inr l)), h => cases h
    | .inr (c, fs), h => cases h; exact ⟨fs, rfl, rfl⟩
theorem hh_ai {hp : List AE} {a t n : Nat} (h : hh hp a = some (0, t, n)) : ∃ l, hp[a]? = some (.inl (t, .inl l)) ∧ l.length = n := by
  unfold hh at h
  cases hq : hp[a]? with
  | none => rw [hq] at h; cases h
  | some e =>
    rw [hq] at h
    match e, h with
    | .inl (t, .inl l), h => cases h; exact ⟨l, rfl, rfl⟩
    | .inl (t, .inr (.inl l)), h => cases h
    | .inl (t, .inr (.inr l)), h => cases h
    | .inr (c, fs), h => cases h
theorem hh_al {hp : List AE} {a t n : Nat} (h : hh hp a = some (1, t, n)) : ∃ l, hp[a]? = some (.inl (t, .inr (.inl l))) ∧ l.length = n := by
  unfold hh at h
  cases hq : hp[a]? with
  | none => rw [hq] at h; cases h
  | some e =>
    rw [hq] at h
    match e, h with
    | .inl (t, .inl l), h => cases h
    | .inl (t, .inr (.inl l)), h => cases h; exact ⟨l, rfl, rfl⟩
    | .inl (t, .inr (.inr l)), h => cases h
    | .inr (c, fs), h => cases h
theorem hh_ar {hp : List AE} {a t n : Nat} (h : hh hp a = some (2, t, n)) : ∃ l, hp[a]? = some (.inl (t, .inr (.inr l))) ∧ l.length = n := by
  unfold hh at h
  cases hq : hp[a]? with
  | none => rw [hq] at h; cases h
  | some e =>
    rw [hq] at h
    match e, h with
    | .inl (t, .inl l), h => cases h
    | .inl (t, .inr (.inl l)), h => cases h
    | .inl (t, .inr (.inr l)), h => cases h; exact ⟨l, rfl, rfl⟩
    | .inr (c, fs), h => cases h
theorem hq_at {hp : List AE} {a i : Nat} {e : AE} (h : hp[a]? = some e) : hq hp a i = ce_at e i := by unfold hq; rw [h]; rfl
/-- one place has changed -/
def Upd (hp hp2 : List AE) (a i : Nat) (v : Value) : Prop := (∀ b, hh hp2 b = hh hp b) ∧ (∀ b j, (b = a ∧ j = i) ∨ hq hp2 b j = hq hp b j) ∧ hq hp2 a i = some v
theorem upd_of {hp : List AE} {a i : Nat} {e e2 : AE} {v : Value} (he : hp[a]? = some e) (h1 : ce_hd e2 = ce_hd e) (h2 : ∀ j, j ≠ i → ce_at e2 j = ce_at e j) (h3 : ce_at e2 i = some v) : Upd hp (hp.set a e2) a i v := by
  have hl : a < hp.length := (List.getElem?_eq_some_iff.mp he).1
  have hs : (hp.set a e2)[a]? = some e2 := by rw [List.getElem?_set, if_pos rfl, if_pos hl]
  refine ⟨fun b => ?_, fun b j => ?_, ?_⟩
  · by_cases hb : a = b
    · subst hb; unfold hh; rw [hs, he]; show some (ce_hd e2) = some (ce_hd e); rw [h1]
    · unfold hh; rw [List.getElem?_set, if_neg hb]
  · by_cases hb : a = b
    · subst hb
      by_cases hj : j = i
      · exact Or.inl ⟨rfl, hj⟩
      · exact Or.inr (by rw [hq_at hs, hq_at he]; exact h2 j hj)
    · exact Or.inr (by unfold hq; rw [List.getElem?_set, if_neg hb])
  · rw [hq_at hs]; exact h3
theorem upd_f {hp : List AE} {a x y : Nat} {fs : List Value} {v : Value} (he : hp[a]? = some (.inr (x, fs))) (hy : y < fs.length) : Upd hp (hp.set a (.inr (x, fs.set y v))) a y v :=
  upd_of he (by show (3, x, (fs.set y v).length) = _; rw [List.length_set]; rfl) (fun j hj => by show (fs.set y v)[j]? = fs[j]?; rw [List.getElem?_set, if_neg (fun q => hj q.symm)]) (by show (fs.set y v)[y]? = _; rw [List.getElem?_set, if_pos rfl, if_pos hy])
theorem upd_i {hp : List AE} {a t y : Nat} {l : List Int32} {v : Int32} (he : hp[a]? = some (.inl (t, .inl l))) (hy : y < l.length) : Upd hp (hp.set a (.inl (t, .inl (l.set y v)))) a y (.int v) :=
  upd_of he (by show (0, t, (l.set y v).length) = _; rw [List.length_set]; rfl) (fun j hj => by show ((l.set y v)[j]?).map _ = (l[j]?).map _; rw [List.getElem?_set, if_neg (fun q => hj q.symm)]) (by show ((l.set y v)[y]?).map _ = _; rw [List.getElem?_set, if_pos rfl, if_pos hy]; rfl)
theorem upd_l {hp : List AE} {a t y : Nat} {l : List Int64} {v : Int64} (he : hp[a]? = some (.inl (t, .inr (.inl l)))) (hy : y < l.length) : Upd hp (hp.set a (.inl (t, .inr (.inl (l.set y v))))) a y (.long v) :=
  upd_of he (by show (1, t, (l.set y v).length) = _; rw [List.length_set]; rfl) (fun j hj => by show ((l.set y v)[j]?).map _ = (l[j]?).map _; rw [List.getElem?_set, if_neg (fun q => hj q.symm)]) (by show ((l.set y v)[y]?).map _ = _; rw [List.getElem?_set, if_pos rfl, if_pos hy]; rfl)
theorem upd_r {hp : List AE} {a t y : Nat} {l : List (Option Nat)} {v : Option Nat} (he : hp[a]? = some (.inl (t, .inr (.inr l)))) (hy : y < l.length) : Upd hp (hp.set a (.inl (t, .inr (.inr (l.set y v))))) a y (ev_ro t v) :=
  upd_of he (by show (2, t, (l.set y v).length) = _; rw [List.length_set]; rfl) (fun j hj => by show ((l.set y v)[j]?).map _ = (l[j]?).map _; rw [List.getElem?_set, if_neg (fun q => hj q.symm)]) (by show ((l.set y v)[y]?).map _ = _; rw [List.getElem?_set, if_pos rfl, if_pos hy]; rfl)
/-! what is known of places -/
def spg : SP → Nat → Nat → Option SV
  | [], _, _ => none
  | q :: P, a, i => cond (Nat.beq q.1 a && Nat.beq q.2.1 i) (some q.2.2) (spg P a i)
theorem spg_mem {P : SP} {a i : Nat} {v : SV} (h : spg P a i = some v) : (a, i, v) ∈ P := by
  induction P with
  | nil => cases h
  | cons q P ih =>
    unfold spg at h
    cases hc : (Nat.beq q.1 a && Nat.beq q.2.1 i) with
    | true =>
      rw [hc] at h
      cases h
      rw [Bool.and_eq_true] at hc
      rw [← Nat.eq_of_beq_eq_true hc.1, ← Nat.eq_of_beq_eq_true hc.2]
      exact List.mem_cons_self
    | false => rw [hc] at h; exact List.mem_cons_of_mem _ (ih h)
def spd (P : SP) (a lo hi : Nat) : SP := P.filter (fun q => !(Nat.beq q.1 a && Nat.ble lo q.2.1 && Nat.ble q.2.1 hi))
theorem spd_out {P : SP} {a lo hi : Nat} {q : Nat × Nat × SV} (h : q ∈ spd P a lo hi) : q ∈ P ∧ ¬ (q.1 = a ∧ lo ≤ q.2.1 ∧ q.2.1 ≤ hi) := by
  obtain ⟨h1, h2⟩ := List.mem_filter.mp h
  refine ⟨h1, fun ⟨e1, e2, e3⟩ => ?_⟩
  rw [e1, Nat.beq_refl, Nat.ble_eq_true_of_le e2, Nat.ble_eq_true_of_le e3] at h2
  cases h2
/-- a value fits what a place may hold -/
def sft (E : EN) : SV → FT → Bool
  | (0, k, c), (0, lo, hi) => decide (lo ≤ (eg E k).1 + c) && decide ((eg E k).2.1 + c ≤ hi) || (decide (lo = -2147483648) && decide (hi = 2147483647))
  | (1, k, c), (1, lo, hi) => decide (lo ≤ (eg E k).1 + c) && decide ((eg E k).2.1 + c ≤ hi) || (decide (lo = -9223372036854775808) && decide (hi = 9223372036854775807))
  | (2, k, _), (2, lo, _) => Nat.beq k lo.toNat
  | (2, k, _), (6, lo, hi) => Nat.beq k lo.toNat || Nat.beq k hi.toNat
  | (3, _, _), (3, _, _) => true
  | _, (9, _, _) => true
  | _, _ => false
theorem sft_ok {ρ : List Int} {E : EN} {a : SV} {ft : FT} {v : Value} (hE : en_ok ρ E) (h : sv_ok ρ a v) (hs : sft E a ft = true) : ft_ok ft v := by
  unfold sft at hs
  split at hs
  · obtain ⟨x, z, rfl, h2, h3⟩ := h
    obtain ⟨a1, a2, -⟩ := eg_ok hE h2
    rw [Bool.or_eq_true, Bool.and_eq_true, Bool.and_eq_true] at hs
    rcases hs with hs | hs
    · have q1 := of_decide_eq_true hs.1
      have q2 := of_decide_eq_true hs.2
      exact ⟨x, rfl, by omega, by omega⟩
    · have q1 := of_decide_eq_true hs.1
      have q2 := of_decide_eq_true hs.2
      exact ⟨x, rfl, by have := i32_lo x; omega, by have := i32_hi x; omega⟩
  · obtain ⟨x, z, rfl, h2, h3⟩ := h
    obtain ⟨a1, a2, -⟩ := eg_ok hE h2
    rw [Bool.or_eq_true, Bool.and_eq_true, Bool.and_eq_true] at hs
    rcases hs with hs | hs
    · have q1 := of_decide_eq_true hs.1
      have q2 := of_decide_eq_true hs.2
      exact ⟨x, rfl, by omega, by omega⟩
    · have q1 := of_decide_eq_true hs.1
      have q2 := of_decide_eq_true hs.2
      exact ⟨x, rfl, by have := i64_lo x; omega, by have := i64_hi x; omega⟩
  · rw [show v = _ from h, Nat.eq_of_beq_eq_true hs]; rfl
  · rw [Bool.or_eq_true] at hs
    rcases hs with hs | hs
    · rw [show v = _ from h, Nat.eq_of_beq_eq_true hs]; exact Or.inl rfl
    · rw [show v = _ from h, Nat.eq_of_beq_eq_true hs]; exact Or.inr rfl
  · obtain ⟨n, z, h1, h2, -⟩ := h
    exact ⟨n, h1, h2⟩
  · trivial
  · cases hs
/-- what comes out of a place -/
def ldf (E : EN) : FT → Option (List (EN × SV))
  | (0, lo, hi) => some [fI E lo hi]
  | (1, lo, hi) => some [gI64 E lo hi]
  | (2, lo, _) => some [(E, (2, lo.toNat, 0))]
  | (3, _, _) => some [(ef E 0 31, (3, E.length, 0))]
  | (6, lo, hi) => some [(E, (2, lo.toNat, 0)), (E, (2, hi.toNat, 0))]
  | _ => none
theorem ldf_ok {ρ : List Int} {E : EN} {ft : FT} {v : Value} {l : List (EN × SV)} (hE : en_ok ρ E) (hv : ft_ok ft v) (hl : ldf E ft = some l) : ∃ q ∈ l, Res ρ q v := by
  unfold ldf at hl
  split at hl
  · cases hl
    obtain ⟨x, rfl, h1, h2⟩ := hv
    exact ⟨_, List.mem_singleton.mpr rfl, fI_ok hE h1 h2⟩
  · cases hl
    obtain ⟨x, rfl, h1, h2⟩ := hv
    exact ⟨_, List.mem_singleton.mpr rfl, gI_ok hE h1 h2⟩
  · cases hl
    exact ⟨_, List.mem_singleton.mpr rfl, [], by rw [List.append_nil]; exact hE, hv⟩
  · cases hl
    obtain ⟨n, rfl, h1⟩ := hv
    have h2 := ef_ok (z := (n : Int)) (lo := 0) (hi := 31) hE (by omega) (by omega)
    exact ⟨_, List.mem_singleton.mpr rfl, [(n : Int)], h2.1, n, n, rfl, h1, h2.2, by omega⟩
  · cases hl
    rcases hv with hv | hv
    · exact ⟨_, List.mem_cons_self, [], by rw [List.append_nil]; exact hE, hv⟩
    · exact ⟨_, List.mem_cons_of_mem _ (List.mem_singleton.mpr rfl), [], by rw [List.append_nil]; exact hE, hv⟩
  · cases hl
section
variable {G : GT} {W : WR} {M : MT} {dd mi pc x y : Nat} {ρ : List Int} {S : SS} {L : List (Nat × Value)} {st : List Value} {hp : List AE} {l : List (Nat × SS)} {i : Instr}
/-- the value at a known place, n from the next instruction -/
def rdP (G : GT) (a j pc : Nat) (S : SS) (r : List SV) (ct : CT) : Option (List (Nat × SS)) := match spg S.2.2.2 a j with
  | some v => some [(pc, (S.1, S.2.1, v :: r, S.2.2.2))]
  | none => (ldf S.1 ((lkp ct.2.2 j).getD ct.2.1)).map (fun q => q.map (fun e => (pc, (e.1, S.2.1, e.2 :: r, (a, j, e.2) :: S.2.2.2))))
theorem rdP_ok {a j pc2 : Nat} {A : List SV} {r : List Value} {ct : CT} {v : Value} (hf : mF M mi pc = some (i, x, y)) (h : st_ok G ρ S L st hp) (hA : ss_ok ρ A r) (hct : G.1 a = some ct) (hv : hq hp a j = some v) (hr : rdP G a j pc2 S A ct = some l) (hs : ∀ cf K, ev_s M cf mi pc i x y L st hp 0 0 K = K pc2 L (v :: r) hp 0 0) : SOk G W M dd mi pc ρ L st hp l := by
  unfold rdP at hr
  split at hr
  · rename_i u hu
    cases hr
    obtain ⟨w, h1, h2⟩ := h.2.2.2.1 _ (spg_mem hu)
    have h1 : hq hp a j = some w := h1
    rw [hv] at h1
    cases h1
    refine so_mk hf (List.mem_singleton.mpr rfl) (τ := []) (L2 := L) (st2 := v :: r) (hp2 := hp) ?_ Agr.rf hs
    rw [List.append_nil]
    exact ⟨h.1, h.2.1, ⟨h2, hA⟩, h.2.2.2⟩
  · cases hl : ldf S.1 ((lkp ct.2.2 j).getD ct.2.1) with
    | none => rw [hl] at hr; cases hr
    | some q =>
      rw [hl] at hr
      cases hr
      have hty := (h.2.2.2.2.1 a ct hct).2 j v hv
      have hft : ft_ok ((lkp ct.2.2 j).getD ct.2.1) v := by
        cases hk : lkp ct.2.2 j with
        | none => exact hty.1
        | some ft => exact hty.2 ft hk
      obtain ⟨e, he, τ, e1, e2⟩ := ldf_ok h.1 hft hl
      refine so_mk hf (List.mem_map.mpr ⟨e, he, rfl⟩) (τ := τ) (L2 := L) (st2 := v :: r) (hp2 := hp) ⟨e1, sl_ext h.2.1, ⟨e2, ss_ext hA⟩, ?_, h.2.2.2.2⟩ Agr.rf hs
      intro p hp1
      rcases List.mem_cons.mp hp1 with rfl | hp1
      · exact ⟨v, hv, e2⟩
      · exact sp_ext h.2.2.2.1 p hp1
/-- a value laid at a place between two -/
def exIn (lo hi : Nat) (E : EN) (v : SV) (l : List (Nat × FT)) : Bool := l.all (fun q => !(Nat.ble lo q.1 && Nat.ble q.1 hi) || sft E v q.2)
def wrT (W : WR) (E : EN) (a lo hi : Nat) (ct : CT) (v : SV) : Bool := wr_in W a lo hi && sft E v ct.2.1 && exIn lo hi E v ct.2.2
theorem lkp_mem {l : List (Nat × FT)} {j : Nat} {ft : FT} (h : lkp l j = some ft) : (j, ft) ∈ l := by
  induction l with
  | nil => cases h
  | cons q l ih =>
    unfold lkp at h
    cases hc : Nat.beq q.1 j with
    | true => rw [hc] at h; cases h; rw [← Nat.eq_of_beq_eq_true hc]; exact List.mem_cons_self
    | false => rw [hc] at h; exact List.mem_cons_of_mem _ (ih h)
/-- an int as far as it is known to lie between two -/
def isB (E : EN) (v : SV) (lo hi : Int) : Bool := Nat.beq v.1 0 && decide (lo ≤ (eg E v.2.1).1 + v.2.2) && decide ((eg E v.2.1).2.1 + v.2.2 ≤ hi)
theorem isB_ok {E : EN} {v : SV} {lo hi : Int} {x : Value} (hE : en_ok ρ E) (hv : sv_ok ρ v x) (h : isB E v lo hi = true) : ∃ y : Int32, x = .int y ∧ lo ≤ y.toInt ∧ y.toInt ≤ hi := by
  unfold isB at h
  rw [Bool.and_eq_true, Bool.and_eq_true] at h
  obtain ⟨t, k, c⟩ := v
  have e : t = 0 := Nat.eq_of_beq_eq_true h.1.1
  subst e
  obtain ⟨y, z, e1, e2, e3⟩ := hv
  obtain ⟨a1, a2, -⟩ := eg_ok hE e2
  have q1 := of_decide_eq_true h.1.2
  have q2 := of_decide_eq_true h.2
  exact ⟨y, e1, by simp only at q1; omega, by simp only at q2; omega⟩
/-- a write that keeps a table of rows: elsewhere; at a column behind all rows; fewer rows; one more row, which is known to be good -/
def grd1 (E : EN) (P : SP) (a lo hi : Nat) (v : SV) (t : RTB) : Bool :=
  ((!(Nat.beq a t.1) || Nat.blt hi t.2.2.1) && (!(Nat.beq a t.2.2.2.1) || Nat.blt hi t.2.2.2.2.2.1) && (!(Nat.beq a t.2.2.2.2.2.2.1) || !(Nat.ble lo t.2.2.2.2.2.2.2.1 && Nat.ble t.2.2.2.2.2.2.2.1 hi)))
  || (!(Nat.beq t.2.2.2.2.2.2.1 t.1) && !(Nat.beq t.2.2.2.2.2.2.1 t.2.2.2.1) && Nat.beq a t.2.2.2.2.2.2.1
      && (!(Nat.ble lo t.2.2.2.2.2.2.2.1 && Nat.ble t.2.2.2.2.2.2.2.1 hi) || isB E v (-2147483648) 0
        || (match spg P t.2.2.2.2.2.2.1 t.2.2.2.2.2.2.2.1 with
          | some n => isB E n ((eg E n.2.1).1 + n.2.2) ((eg E n.2.1).1 + n.2.2) && isB E v ((eg E n.2.1).1 + n.2.2 + 1) ((eg E n.2.1).1 + n.2.2 + 1) && decide (0 ≤ (eg E n.2.1).1 + n.2.2)
            && (match spg P t.2.2.2.1 (t.2.2.2.2.1 * ((eg E n.2.1).1 + n.2.2).toNat + t.2.2.2.2.2.1) with
              | some g => (match spg P t.1 (t.2.1 * ((eg E n.2.1).1 + n.2.2).toNat + t.2.2.1) with
                | some u => t.2.2.2.2.2.2.2.2.any (fun b => isB E g b.1 b.2.1 && isB E u b.2.2.1 (uh b.2.2.2 ((eg E n.2.1).1 + n.2.2).toNat))
                | none => false)
              | none => false)
          | none => false)))
  || (!(Nat.beq t.2.2.2.2.2.2.1 t.1) && !(Nat.beq t.2.2.2.2.2.2.1 t.2.2.2.1) && !(Nat.beq a t.2.2.2.2.2.2.1) && Nat.blt t.2.2.1 t.2.1 && Nat.blt t.2.2.2.2.2.1 t.2.2.2.2.1
      && (match spg P t.2.2.2.2.2.2.1 t.2.2.2.2.2.2.2.1 with
        | some n => isB E n (-2147483648) ((eg E n.2.1).2.1 + n.2.2) && decide (((t.2.1 : Int) * ((eg E n.2.1).2.1 + n.2.2)) ≤ (lo : Int)) && decide (((t.2.2.2.2.1 : Int) * ((eg E n.2.1).2.1 + n.2.2)) ≤ (lo : Int))
        | none => false))
def grd (T : List RTB) (E : EN) (P : SP) (a lo hi : Nat) (v : SV) : Bool := T.all (grd1 E P a lo hi v)
theorem nbq {a b : Nat} (h : (!(Nat.beq a b)) = true) : a ≠ b := fun e => by rw [e, Nat.beq_refl] at h; cases h
theorem grd1_ok {E : EN} {P : SP} {a lo hi j : Nat} {u : SV} {v : Value} {t : RTB} {hp2 : List AE} (hE : en_ok ρ E) (hv : sv_ok ρ u v) (hP : sp_ok ρ P hp) (hT : RB1 t hp) (h1 : lo ≤ j) (h2 : j ≤ hi) (hU : Upd hp hp2 a j v) (hg : grd1 E P a lo hi u t = true) : RB1 t hp2 := by
  obtain ⟨tc, ts, to, gc, gs, go, cc, ci, bx⟩ := t
  have keep : ∀ b k, b ≠ a ∨ k ≠ j → hq hp2 b k = hq hp b k := fun b k hbk => by
    rcases hU.2.1 b k with ⟨e1, e2⟩ | e
    · rcases hbk with q | q
      · exact absurd e1 q
      · exact absurd e2 q
    · exact e
  unfold grd1 at hg
  simp only at hg
  rw [Bool.or_eq_true, Bool.or_eq_true] at hg
  rcases hg with (hg | hg) | hg
  · rw [Bool.and_eq_true, Bool.and_eq_true] at hg
    intro i n g w q1 q2 q3 q4
    simp only at q1 q3 q4
    have far : ∀ {b o k : Nat}, (!(Nat.beq a b) || Nat.blt hi o) = true → o ≤ k → b ≠ a ∨ k ≠ j := fun {b o k} hb ho => by
      rcases (Bool.or_eq_true _ _).mp hb with hb | hb
      · exact Or.inl (nbq hb).symm
      · have hb : hi < o := Nat.le_of_ble_eq_true hb
        exact Or.inr (by omega)
    have off : cc ≠ a ∨ ci ≠ j := by
      rcases (Bool.or_eq_true _ _).mp hg.2 with hb | hb
      · exact Or.inl (nbq hb).symm
      · refine Or.inr (fun e => ?_)
        subst e
        rw [Nat.ble_eq_true_of_le h1, Nat.ble_eq_true_of_le h2] at hb
        cases hb
    rw [keep _ _ off] at q1
    rw [keep _ _ (far hg.1.2 (Nat.le_add_left _ _))] at q3
    rw [keep _ _ (far hg.1.1 (Nat.le_add_left _ _))] at q4
    exact hT i n g w q1 q2 q3 q4
  · rw [Bool.and_eq_true, Bool.and_eq_true, Bool.and_eq_true] at hg
    obtain ⟨⟨⟨n1, n2⟩, n3⟩, hg⟩ := hg
    have e3 := Nat.eq_of_beq_eq_true n3
    have m1 : tc ≠ a := fun e => nbq n1 (by rw [e, e3])
    have m2 : gc ≠ a := fun e => nbq n2 (by rw [e, e3])
    intro i n g w q1 q2 q3 q4
    simp only at q1 q3 q4
    rw [keep _ _ (Or.inl m2)] at q3
    rw [keep _ _ (Or.inl m1)] at q4
    by_cases hj : ci = j
    · subst hj
      rw [← e3, hU.2.2] at q1
      cases q1
      rw [Bool.or_eq_true, Bool.or_eq_true] at hg
      rcases hg with (hg | hg) | hg
      · rw [Nat.ble_eq_true_of_le h1, Nat.ble_eq_true_of_le h2] at hg
        cases hg
      · obtain ⟨y, e4, e5, e6⟩ := isB_ok hE hv hg
        cases e4
        omega
      · cases hn : spg P cc ci with
        | none => rw [hn] at hg; cases hg
        | some nn =>
          rw [hn] at hg
          simp only [Bool.and_eq_true] at hg
          obtain ⟨⟨⟨k1, k2⟩, k3⟩, k4⟩ := hg
          obtain ⟨vn, f1, f2⟩ := hP _ (spg_mem hn)
          obtain ⟨y, e4, e5, e6⟩ := isB_ok hE f2 k1
          obtain ⟨y2, e7, e8, e9⟩ := isB_ok hE hv k2
          have k3 := of_decide_eq_true k3
          cases e7
          subst e4
          have f1 : hq hp cc ci = some (.int y) := f1
          by_cases hi : (i : Int) < y.toInt
          · exact hT i y g w f1 hi q3 q4
          · have ei : i = ((eg E nn.2.1).1 + nn.2.2).toNat := by omega
            rw [← ei] at k4
            cases hgp : spg P gc (gs * i + go) with
            | none => rw [hgp] at k4; cases k4
            | some gg =>
              rw [hgp] at k4
              cases hup : spg P tc (ts * i + to) with
              | none => rw [hup] at k4; cases k4
              | some uu =>
                rw [hup] at k4
                obtain ⟨b, hb, hb2⟩ := List.any_eq_true.mp k4
                rw [Bool.and_eq_true] at hb2
                obtain ⟨vg, p1, p2⟩ := hP _ (spg_mem hgp)
                obtain ⟨vu, p3, p4⟩ := hP _ (spg_mem hup)
                have p1 : hq hp gc (gs * i + go) = some vg := p1
                have p3 : hq hp tc (ts * i + to) = some vu := p3
                obtain ⟨yg, r1, r2, r3⟩ := isB_ok hE p2 hb2.1
                obtain ⟨yu, r4, r5, r6⟩ := isB_ok hE p4 hb2.2
                rw [q3] at p1
                rw [q4] at p3
                cases p1
                cases p3
                cases r1
                cases r4
                exact ⟨b, hb, r2, r3, r5, r6⟩
    · rw [keep _ _ (Or.inr hj)] at q1
      exact hT i n g w q1 q2 q3 q4
  · simp only [Bool.and_eq_true] at hg
    obtain ⟨⟨⟨⟨⟨n1, n2⟩, n3⟩, n4⟩, n5⟩, hg⟩ := hg
    have n4 : to < ts := Nat.le_of_ble_eq_true n4
    have n5 : go < gs := Nat.le_of_ble_eq_true n5
    intro i n g w q1 q2 q3 q4
    simp only at q1 q3 q4
    rw [keep _ _ (Or.inl (nbq n3).symm)] at q1
    cases hn : spg P cc ci with
    | none => rw [hn] at hg; cases hg
    | some nn =>
      rw [hn] at hg
      simp only [Bool.and_eq_true] at hg
      obtain ⟨⟨k1, k2⟩, k3⟩ := hg
      have k2 := of_decide_eq_true k2
      have k3 := of_decide_eq_true k3
      obtain ⟨vn, f1, f2⟩ := hP _ (spg_mem hn)
      obtain ⟨y, e4, e5, e6⟩ := isB_ok hE f2 k1
      have f1 : hq hp cc ci = some vn := f1
      rw [q1] at f1
      cases f1
      cases e4
      have hlt : ∀ (s o : Nat), o < s → (s : Int) * ((eg E nn.2.1).2.1 + nn.2.2) ≤ (lo : Int) → s * i + o ≠ j := fun s o ho hs e => by
        have h3 : (i : Int) + 1 ≤ (eg E nn.2.1).2.1 + nn.2.2 := by omega
        have h4 : (s : Int) * ((i : Int) + 1) ≤ (s : Int) * ((eg E nn.2.1).2.1 + nn.2.2) := Int.mul_le_mul_of_nonneg_left h3 (by omega)
        rw [Int.mul_add, Int.mul_one] at h4
        have h5 : ((s * i : Nat) : Int) = (s : Int) * (i : Int) := by push_cast; rfl
        omega
      rw [keep _ _ (Or.inr (hlt gs go n5 k3))] at q3
      rw [keep _ _ (Or.inr (hlt ts to n4 k2))] at q4
      exact hT i n g w q1 q2 q3 q4
theorem wr_ok {a lo hi j : Nat} {ct : CT} {u : SV} {v : Value} {E : EN} {P : SP} {hp2 : List AE} (hE : en_ok ρ E) (hv : sv_ok ρ u v) (hP : sp_ok ρ P hp) (hG : hp_ok G hp) (hct : G.1 a = some ct) (hw : wrT W E a lo hi ct u = true) (hgr : grd G.2 E P a lo hi u = true) (h1 : lo ≤ j) (h2 : j ≤ hi) (hU : Upd hp hp2 a j v) : hp_ok G hp2 ∧ Agr W hp hp2 := by
  unfold wrT at hw
  rw [Bool.and_eq_true, Bool.and_eq_true] at hw
  refine ⟨⟨fun b cb hb => ⟨by rw [hU.1 b]; exact (hG.1 b cb hb).1, fun k w hk => ?_⟩, fun t ht => grd1_ok hE hv hP (hG.2 t ht) h1 h2 hU (List.all_eq_true.mp hgr t ht)⟩, fun b => hU.1 b, fun b k hbk => ?_⟩
  · rcases hU.2.1 b k with ⟨rfl, rfl⟩ | e
    · rw [hU.2.2] at hk
      cases hk
      rw [hct] at hb
      cases hb
      refine ⟨sft_ok hE hv hw.1.2, fun ft hft => ?_⟩
      have := List.all_eq_true.mp hw.2 _ (lkp_mem hft)
      rw [Nat.ble_eq_true_of_le h1, Nat.ble_eq_true_of_le h2] at this
      exact sft_ok hE hv (by simpa using this)
    · rw [e] at hk
      exact (hG.1 b cb hb).2 k w hk
  · rcases hU.2.1 b k with ⟨rfl, rfl⟩ | e
    · rw [wr_sub hw.1.1 h1 h2] at hbk
      cases hbk
    · exact e
theorem sp_upd {a j lo hi : Nat} {v : Value} {hp2 : List AE} {P : SP} (hP : sp_ok ρ P hp) (h1 : lo ≤ j) (h2 : j ≤ hi) (hU : Upd hp hp2 a j v) : sp_ok ρ (spd P a lo hi) hp2 := by
  intro q hq
  obtain ⟨hm, hn⟩ := spd_out hq
  obtain ⟨w, e1, e2⟩ := hP q hm
  rcases hU.2.1 q.1 q.2.1 with ⟨e3, e4⟩ | e
  · exact absurd ⟨e3, by omega, by omega⟩ hn
  · exact ⟨w, by rw [e]; exact e1, e2⟩
end
