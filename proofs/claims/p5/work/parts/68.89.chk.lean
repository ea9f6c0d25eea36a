/-! ===== the objects as they are made hold what they may ===== -/
def ftB : FT → Value → Bool
  | (0, lo, hi), .int x => decide (lo ≤ x.toInt) && decide (x.toInt ≤ hi)
  | (1, lo, hi), .long x => decide (lo ≤ x.toInt) && decide (x.toInt ≤ hi)
  | (2, lo, _), .ref k => Nat.beq k lo.toNat
  | (3, _, _), .retAddr n => Nat.blt n 32
  | (6, lo, hi), .ref k => Nat.beq k lo.toNat || Nat.beq k hi.toNat
  | (9, _, _), _ => true
  | _, _ => false
theorem ftB_ok {f : FT} {v : Value} (h : ftB f v = true) : ft_ok f v := by
  unfold ftB at h
  split at h
  · rw [Bool.and_eq_true] at h; exact ⟨_, rfl, of_decide_eq_true h.1, of_decide_eq_true h.2⟩
  · rw [Bool.and_eq_true] at h; exact ⟨_, rfl, of_decide_eq_true h.1, of_decide_eq_true h.2⟩
  · exact congrArg Value.ref (Nat.eq_of_beq_eq_true h)
  · exact ⟨_, rfl, Nat.le_of_ble_eq_true h⟩
  · rw [Bool.or_eq_true] at h
    rcases h with h | h
    · exact Or.inl (congrArg Value.ref (Nat.eq_of_beq_eq_true h))
    · exact Or.inr (congrArg Value.ref (Nat.eq_of_beq_eq_true h))
  · exact trivial
  · cases h
def celB (ct : CT) (x : AE) : Bool := decide (ce_hd x = ct.1) && (List.range ct.1.2.2).all (fun i => match ce_at x i with
  | some v => ftB ct.2.1 v && (match lkp ct.2.2 i with
    | some f => ftB f v
    | none => true)
  | none => true)
theorem ce_lt {x : AE} {i : Nat} {v : Value} (h : ce_at x i = some v) : i < (ce_hd x).2.2 := by
  match x, h with
  | .inl (t, .inl l), h => obtain ⟨y, hy, -⟩ := Option.map_eq_some_iff.mp (show (l[i]?).map Value.int = some v from h); exact (List.getElem?_eq_some_iff.mp hy).1
  | .inl (t, .inr (.inl l)), h => obtain ⟨y, hy, -⟩ := Option.map_eq_some_iff.mp (show (l[i]?).map Value.long = some v from h); exact (List.getElem?_eq_some_iff.mp hy).1
  | .inl (t, .inr (.inr l)), h => obtain ⟨y, hy, -⟩ := Option.map_eq_some_iff.mp (show (l[i]?).map (ev_ro t) = some v from h); exact (List.getElem?_eq_some_iff.mp hy).1
  | .inr (c, fs), h => exact (List.getElem?_eq_some_iff.mp (show fs[i]? = some v from h)).1
theorem celB_ok {ct : CT} {x : AE} (h : celB ct x = true) : ce_hd x = ct.1 ∧ ∀ i v, ce_at x i = some v → ft_ok ct.2.1 v ∧ ∀ f, lkp ct.2.2 i = some f → ft_ok f v := by
  unfold celB at h
  rw [Bool.and_eq_true] at h
  have h1 := of_decide_eq_true h.1
  refine ⟨h1, fun i v hv => ?_⟩
  have h2 := List.all_eq_true.mp h.2 i (List.mem_range.mpr (by rw [← h1]; exact ce_lt hv))
  rw [hv] at h2
  simp only [Bool.and_eq_true] at h2
  refine ⟨ftB_ok h2.1, fun f hf => ?_⟩
  have h3 := h2.2
  rw [hf] at h3
  exact ftB_ok h3
def hpB (hp : List AE) (a : Nat) : Bool := match GG.1 a with
  | some ct => (match hp[a]? with
    | some x => celB ct x
    | none => false)
  | none => true
theorem gg_lt {a : Nat} {ct : CT} (h : GG.1 a = some ct) : a < 208 := by
  obtain ⟨l, h1, -⟩ := Option.bind_eq_some_iff.mp (show (gctb[a / 16]?).bind (fun l => l[a % 16]?) = some ct from h)
  have h2 := (List.getElem?_eq_some_iff.mp h1).1
  have h3 : gctb.length = 13 := rfl
  omega
theorem hpB_ok {hp : List AE} (h : (List.range 208).all (hpB hp) = true) (ht : GG.2.all (fun t => decide (hq hp t.2.2.2.2.2.2.1 t.2.2.2.2.2.2.2.1 = some (.int 0))) = true) : hp_ok GG hp := by
  refine ⟨fun a ct hc => ?_, fun t htm i n g v e1 e2 => ?_⟩
  · have h1 := List.all_eq_true.mp h a (List.mem_range.mpr (gg_lt hc))
    unfold hpB at h1
    rw [hc] at h1
    simp only at h1
    cases hx : hp[a]? with
    | none => rw [hx] at h1; cases h1
    | some x =>
      rw [hx] at h1
      obtain ⟨h2, h3⟩ := celB_ok h1
      refine ⟨by unfold hh; rw [hx]; exact congrArg some h2, fun i v hv => ?_⟩
      rw [hq_at hx] at hv
      exact h3 i v hv
  · have h1 := of_decide_eq_true (List.all_eq_true.mp ht t htm)
    rw [h1] at e1
    cases e1
    exact absurd e2 (by show ¬ (i : Int) < (0 : Int32).toInt; rw [show (0 : Int32).toInt = 0 from rfl]; omega)
def goI (d : FT) (ts : List (Nat × FT)) : List Int32 → Nat → Bool
  | [], _ => true
  | z :: l, i => (ftB d (.int z) && (match lkp ts i with
    | some f => ftB f (.int z)
    | none => true)) && goI d ts l (i + 1)
theorem goI_ok {d : FT} {ts : List (Nat × FT)} : ∀ (l : List Int32) (i : Nat), goI d ts l i = true → ∀ j z, l[j]? = some z → (ftB d (.int z) && (match lkp ts (i + j) with
    | some f => ftB f (.int z)
    | none => true)) = true
  | [], _, _, j, z, h => by cases h
  | y :: l, i, g, 0, z, h => by
    cases h
    have g : ((ftB d (.int y) && (match lkp ts i with
      | some f => ftB f (.int y)
      | none => true)) && goI d ts l (i + 1)) = true := g
    rw [Bool.and_eq_true] at g
    exact g.1
  | y :: l, i, g, j + 1, z, h => by
    have g : ((ftB d (.int y) && (match lkp ts i with
      | some f => ftB f (.int y)
      | none => true)) && goI d ts l (i + 1)) = true := g
    rw [Bool.and_eq_true] at g
    have k := goI_ok l (i + 1) g.2 j z h
    rw [show i + 1 + j = i + (j + 1) by omega] at k
    exact k
def celF (ct : CT) : AE → Bool
  | .inl (t, .inl l) => decide (ce_hd (.inl (t, .inl l)) = ct.1) && goI ct.2.1 ct.2.2 l 0
  | x => celB ct x
theorem celF_ok {ct : CT} : ∀ {x : AE}, celF ct x = true → celB ct x = true
  | .inl (t, .inl l), h => by
    have h : (decide (ce_hd (.inl (t, .inl l)) = ct.1) && goI ct.2.1 ct.2.2 l 0) = true := h
    rw [Bool.and_eq_true] at h
    unfold celB
    rw [h.1, Bool.true_and]
    refine List.all_eq_true.mpr (fun i _ => ?_)
    show (match (l[i]?).map Value.int with
      | some v => ftB ct.2.1 v && (match lkp ct.2.2 i with
        | some f => ftB f v
        | none => true)
      | none => true) = true
    cases e : l[i]? with
    | none => rfl
    | some z =>
      have k := goI_ok l 0 h.2 i z e
      rw [Nat.zero_add] at k
      exact k
  | .inl (_, .inr (.inl _)), h => h
  | .inl (_, .inr (.inr _)), h => h
  | .inr _, h => h
def hpF (hp : List AE) (a : Nat) : Bool := match GG.1 a with
  | some ct => (match hp[a]? with
    | some x => celF ct x
    | none => false)
  | none => true
theorem hpF_ok {hp : List AE} {a : Nat} (h : hpF hp a = true) : hpB hp a = true := by
  unfold hpF at h
  unfold hpB
  cases e : GG.1 a with
  | none => rfl
  | some ct =>
    rw [e] at h
    have h : (match hp[a]? with
      | some x => celF ct x
      | none => false) = true := h
    show (match hp[a]? with
      | some x => celB ct x
      | none => false) = true
    cases e2 : hp[a]? with
    | none => rw [e2] at h; cases h
    | some x => rw [e2] at h; exact celF_ok h
set_option maxRecDepth 1000000 in
theorem hB_0 : (List.range 208).all (hpF ev_hB) = true := by decide +kernel
theorem hB_1 : (List.range 208).all (hpB ev_hB) = true := List.all_eq_true.mpr (fun a ha => hpF_ok (List.all_eq_true.mp hB_0 a ha))
set_option maxRecDepth 1000000 in
theorem hB_2 : GG.2.all (fun t => decide (hq ev_hB t.2.2.2.2.2.2.1 t.2.2.2.2.2.2.2.1 = some (.int 0))) = true := by decide +kernel
set_option maxRecDepth 1000000 in
theorem hB_3 : hq ev_hB 1 1 = some (.int 0) ∧ hq ev_hB 180 2 = some (.int 0) ∧ hq ev_hB 182 154 = some (.int 0) ∧ hq ev_hB 182 155 = some (.int 0) ∧ hq ev_hB 184 154 = some (.int 0) ∧ hq ev_hB 184 155 = some (.int 0) ∧ hq ev_hB 184 550 = some (.int 0) ∧ hq ev_hB 184 551 = some (.int 0) ∧ hh ev_hB 203 = some (1, 2, 1) := by decide +kernel
theorem hB_ok : LInv ev_hB := by
  obtain ⟨e1, e2, e3, e4, e5, e6, e7, e8, e9⟩ := hB_3
  exact ⟨hpB_ok hB_1 hB_2, ⟨0, e1, e2⟩, ⟨⟨0, 0, e3, e4, Or.inl rfl⟩, ⟨0, 0, e5, e6, Or.inl rfl⟩, ⟨0, 0, e7, e8, Or.inl rfl⟩⟩, e9⟩
