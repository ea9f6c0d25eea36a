/-! ===== symbolic runs of the small machine: a value is a variable and an offset, a variable lies between bounds ===== -/
/-- tag (0 int, 1 long, 2 cell, 3 constant of Word, 4 another constant), variable (cell, constant), offset -/
abbrev SV : Type := Nat × Nat × Int
/-- of each variable: from, to, another one, by how much at least it is above that; another one, by how much at most it is above twice that -/
abbrev EE : Type := Int × Int × Nat × Int × Nat × Int
abbrev EN : Type := List EE
abbrev SL : Type := List (Nat × SV)
abbrev SP : Type := List (Nat × Nat × SV)
abbrev SS : Type := EN × SL × List SV × SP
/-- what a place may hold: 0 int, 1 long from .. to, 2 this cell, 3 a constant of Word, 6 one of two cells, else anything -/
abbrev FT : Type := Nat × Int × Int
/-- a cell: sort, kind or class, length; what every place may hold, what single places may hold -/
abbrev CT : Type := (Nat × Nat × Nat) × FT × List (Nat × FT)
def sv_ok (ρ : List Int) : SV → Value → Prop
  | (0, k, c), v => ∃ (x : Int32) (z : Int), v = .int x ∧ ρ[k]? = some z ∧ x.toInt = z + c
  | (1, k, c), v => ∃ (x : Int64) (z : Int), v = .long x ∧ ρ[k]? = some z ∧ x.toInt = z + c
  | (2, k, _), v => v = .ref k
  | (3, k, c), v => ∃ (n : Nat) (z : Int), v = .retAddr n ∧ n < 32 ∧ ρ[k]? = some z ∧ (n : Int) = z + c
  | (_, k, _), v => v = .retAddr k
def ss_ok (ρ : List Int) : List SV → List Value → Prop
  | [], [] => True
  | a :: A, v :: st => sv_ok ρ a v ∧ ss_ok ρ A st
  | _, _ => False
def sl_ok (ρ : List Int) (A : SL) (L : List (Nat × Value)) : Prop := ∀ q ∈ A, ∃ v, ev_g L q.1 = some v ∧ sv_ok ρ q.2 v
def en_ok (ρ : List Int) (E : EN) : Prop := ρ.length = E.length ∧ ρ[0]? = some 0 ∧ ∀ (k : Nat) (e : EE), E[k]? = some e → ∃ z w u, ρ[k]? = some z ∧ e.1 ≤ z ∧ z ≤ e.2.1 ∧ ρ[e.2.2.1]? = some w ∧ w + e.2.2.2.1 ≤ z ∧ ρ[e.2.2.2.2.1]? = some u ∧ z ≤ 2 * u + e.2.2.2.2.2
/-- what lies at a place of a cell; a cell's sort, kind or class, length -/
def ce_at : AE → Nat → Option Value
  | .inl (_, .inl l), i => (l[i]?).map Value.int
  | .inl (_, .inr (.inl l)), i => (l[i]?).map Value.long
  | .inl (t, .inr (.inr l)), i => (l[i]?).map (ev_ro t)
  | .inr (_, fs), i => fs[i]?
def ce_hd : AE → Nat × Nat × Nat
  | .inl (t, .inl l) => (0, t, l.length)
  | .inl (t, .inr (.inl l)) => (1, t, l.length)
  | .inl (t, .inr (.inr l)) => (2, t, l.length)
  | .inr (c, fs) => (3, c, fs.length)
def hq (hp : List AE) (a i : Nat) : Option Value := (hp[a]?).bind (fun x => ce_at x i)
def hh (hp : List AE) (a : Nat) : Option (Nat × Nat × Nat) := (hp[a]?).map ce_hd
def ft_ok : FT → Value → Prop
  | (0, lo, hi), v => ∃ x : Int32, v = .int x ∧ lo ≤ x.toInt ∧ x.toInt ≤ hi
  | (1, lo, hi), v => ∃ x : Int64, v = .long x ∧ lo ≤ x.toInt ∧ x.toInt ≤ hi
  | (2, lo, _), v => v = .ref lo.toNat
  | (3, _, _), v => ∃ n, v = .retAddr n ∧ n < 32
  | (6, lo, hi), v => v = .ref lo.toNat ∨ v = .ref hi.toNat
  | _, _ => True
def lkp : List (Nat × FT) → Nat → Option FT
  | [], _ => none
  | q :: l, i => cond (Nat.beq q.1 i) (some q.2) (lkp l i)
/-- rows: a column (cell, stride, offset), the column that tells (cell, stride, offset), how many rows there are (cell, place), what may stand together -/
abbrev RTB : Type := Nat × Nat × Nat × Nat × Nat × Nat × Nat × Nat × List (Int × Int × Int × Int)
abbrev GT : Type := (Nat → Option CT) × List RTB
/-- a bound, or (from 2^40 on, 2^41 more) a bound that grows with the row -/
def uh (h : Int) (i : Nat) : Int := cond (decide (h < 1099511627776)) h (h - 2199023255552 + (i : Int))
def RB1 (t : RTB) (hp : List AE) : Prop := ∀ (i : Nat) (n g v : Int32), hq hp t.2.2.2.2.2.2.1 t.2.2.2.2.2.2.2.1 = some (.int n) → (i : Int) < n.toInt → hq hp t.2.2.2.1 (t.2.2.2.2.1 * i + t.2.2.2.2.2.1) = some (.int g) → hq hp t.1 (t.2.1 * i + t.2.2.1) = some (.int v) → ∃ b ∈ t.2.2.2.2.2.2.2.2, b.1 ≤ g.toInt ∧ g.toInt ≤ b.2.1 ∧ b.2.2.1 ≤ v.toInt ∧ v.toInt ≤ uh b.2.2.2 i
def hp_ok (G : GT) (hp : List AE) : Prop := (∀ a ct, G.1 a = some ct → hh hp a = some ct.1 ∧ ∀ i v, hq hp a i = some v → ft_ok ct.2.1 v ∧ ∀ ft, lkp ct.2.2 i = some ft → ft_ok ft v) ∧ ∀ t ∈ G.2, RB1 t hp
def sp_ok (ρ : List Int) (P : SP) (hp : List AE) : Prop := ∀ q ∈ P, ∃ v, hq hp q.1 q.2.1 = some v ∧ sv_ok ρ q.2.2 v
def st_ok (G : GT) (ρ : List Int) (S : SS) (L : List (Nat × Value)) (st : List Value) (hp : List AE) : Prop := en_ok ρ S.1 ∧ sl_ok ρ S.2.1 L ∧ ss_ok ρ S.2.2.1 st ∧ sp_ok ρ S.2.2.2 hp ∧ hp_ok G hp
/-- nothing has changed but what lies within these places -/
abbrev WR : Type := List (Nat × Nat × Nat)
def wr_in (W : WR) (a lo hi : Nat) : Bool := W.any (fun q => Nat.beq q.1 a && Nat.ble q.2.1 lo && Nat.ble hi q.2.2)
def Agr (W : WR) (h0 h1 : List AE) : Prop := (∀ a, hh h1 a = hh h0 a) ∧ ∀ a i, wr_in W a i i = false → hq h1 a i = hq h0 a i
theorem Agr.rf {W : WR} {h : List AE} : Agr W h h := ⟨fun _ => rfl, fun _ _ _ => rfl⟩
theorem Agr.tr {W : WR} {h0 h1 h2 : List AE} (p : Agr W h0 h1) (q : Agr W h1 h2) : Agr W h0 h2 := ⟨fun a => (q.1 a).trans (p.1 a), fun a i h => (q.2 a i h).trans (p.2 a i h)⟩
theorem wr_sub {W : WR} {a lo hi i : Nat} (h : wr_in W a lo hi = true) (h1 : lo ≤ i) (h2 : i ≤ hi) : wr_in W a i i = true := by
  unfold wr_in at *
  obtain ⟨q, hq, he⟩ := List.any_eq_true.mp h
  rw [Bool.and_eq_true, Bool.and_eq_true] at he
  refine List.any_eq_true.mpr ⟨q, hq, ?_⟩
  rw [Bool.and_eq_true, Bool.and_eq_true]
  exact ⟨⟨he.1.1, Nat.ble_eq_true_of_le (Nat.le_trans (Nat.le_of_ble_eq_true he.1.2) h1)⟩, Nat.ble_eq_true_of_le (Nat.le_trans h2 (Nat.le_of_ble_eq_true he.2))⟩
def wr_le (V W : WR) : Bool := V.all (fun q => wr_in W q.1 q.2.1 q.2.2)
theorem Agr.mono {V W : WR} {h0 h1 : List AE} (hs : wr_le V W = true) (p : Agr V h0 h1) : Agr W h0 h1 := by
  refine ⟨p.1, fun a i h => p.2 a i ?_⟩
  cases hv : wr_in V a i i with
  | false => rfl
  | true =>
    exfalso
    obtain ⟨q, hq, he⟩ := List.any_eq_true.mp hv
    rw [Bool.and_eq_true, Bool.and_eq_true] at he
    have h2 := List.all_eq_true.mp hs q hq
    rw [Nat.eq_of_beq_eq_true he.1.1] at h2
    rw [wr_sub h2 (Nat.le_of_ble_eq_true he.1.2) (Nat.le_of_ble_eq_true he.2)] at h
    cases h
/-! more variables -/
theorem ga {α : Type} {l t : List α} {k : Nat} {z : α} (h : l[k]? = some z) : (l ++ t)[k]? = some z := by
  rw [List.getElem?_append_left (List.getElem?_eq_some_iff.mp h).1]; exact h
theorem sv_ext {ρ τ : List Int} {a : SV} {v : Value} (h : sv_ok ρ a v) : sv_ok (ρ ++ τ) a v := by
  match a, h with
  | (0, k, c), ⟨x, z, h1, h2, h3⟩ => exact ⟨x, z, h1, ga h2, h3⟩
  | (1, k, c), ⟨x, z, h1, h2, h3⟩ => exact ⟨x, z, h1, ga h2, h3⟩
  | (2, k, c), h => exact h
  | (3, k, c), ⟨n, z, h1, h2, h3, h4⟩ => exact ⟨n, z, h1, h2, ga h3, h4⟩
  | (n + 4, k, c), h => exact h
theorem ss_ext {ρ τ : List Int} : ∀ {A : List SV} {st : List Value}, ss_ok ρ A st → ss_ok (ρ ++ τ) A st
  | [], [], _ => trivial
  | _ :: _, _ :: _, h => ⟨sv_ext h.1, ss_ext h.2⟩
  | [], _ :: _, h => h.elim
  | _ :: _, [], h => h.elim
theorem sl_ext {ρ τ : List Int} {A : SL} {L : List (Nat × Value)} (h : sl_ok ρ A L) : sl_ok (ρ ++ τ) A L := fun q hq => by
  obtain ⟨v, h1, h2⟩ := h q hq
  exact ⟨v, h1, sv_ext h2⟩
theorem sp_ext {ρ τ : List Int} {P : SP} {hp : List AE} (h : sp_ok ρ P hp) : sp_ok (ρ ++ τ) P hp := fun q hq => by
  obtain ⟨v, h1, h2⟩ := h q hq
  exact ⟨v, h1, sv_ext h2⟩
theorem ss_0 {ρ : List Int} {st : List Value} (h : ss_ok ρ [] st) : st = [] := by
  cases st with
  | nil => rfl
  | cons v st => exact h.elim
theorem ss_c {ρ : List Int} {a : SV} {A : List SV} {st : List Value} (h : ss_ok ρ (a :: A) st) : ∃ v r, st = v :: r ∧ sv_ok ρ a v ∧ ss_ok ρ A r := by
  cases st with
  | nil => exact h.elim
  | cons v r => exact ⟨v, r, rfl, h.1, h.2⟩
/-! bounds -/
def eg (E : EN) (k : Nat) : EE := (E[k]?).getD (0, 0, 0, 0, 0, 0)
theorem eg_ok {ρ : List Int} {E : EN} {k : Nat} {z : Int} (h : en_ok ρ E) (hz : ρ[k]? = some z) : (eg E k).1 ≤ z ∧ z ≤ (eg E k).2.1 ∧ ∃ w, ρ[(eg E k).2.2.1]? = some w ∧ w + (eg E k).2.2.2.1 ≤ z := by
  obtain ⟨h1, -, h3⟩ := h
  have hk : k < E.length := by rw [← h1]; exact (List.getElem?_eq_some_iff.mp hz).1
  obtain ⟨z', w, u, a1, a2, a3, a4, a5, a6, a7⟩ := h3 k _ (List.getElem?_eq_getElem hk)
  rw [hz] at a1
  cases a1
  unfold eg
  rw [List.getElem?_eq_getElem hk]
  exact ⟨a2, a3, w, a4, a5⟩
theorem eg_ok2 {ρ : List Int} {E : EN} {k : Nat} {z : Int} (h : en_ok ρ E) (hz : ρ[k]? = some z) : ∃ u, ρ[(eg E k).2.2.2.2.1]? = some u ∧ z ≤ 2 * u + (eg E k).2.2.2.2.2 := by
  obtain ⟨h1, -, h3⟩ := h
  have hk : k < E.length := by rw [← h1]; exact (List.getElem?_eq_some_iff.mp hz).1
  obtain ⟨z', w, u, a1, a2, a3, a4, a5, a6, a7⟩ := h3 k _ (List.getElem?_eq_getElem hk)
  rw [hz] at a1
  cases a1
  unfold eg
  rw [List.getElem?_eq_getElem hk]
  exact ⟨u, a6, a7⟩
/-- a new variable -/
def ef (E : EN) (lo hi : Int) : EN := E ++ [(lo, hi, 0, lo, 0, hi)]
theorem ef_ok {ρ : List Int} {E : EN} {lo hi z : Int} (h : en_ok ρ E) (h1 : lo ≤ z) (h2 : z ≤ hi) : en_ok (ρ ++ [z]) (ef E lo hi) ∧ (ρ ++ [z])[E.length]? = some z := by
  have hz : (ρ ++ [z])[E.length]? = some z := by
    rw [← h.1, List.getElem?_append_right (Nat.le_refl _), Nat.sub_self]; rfl
  refine ⟨⟨?_, ga h.2.1, fun k e he => ?_⟩, hz⟩
  · unfold ef; rw [List.length_append, List.length_append, h.1]; rfl
  · unfold ef at he
    by_cases hk : k < E.length
    · rw [List.getElem?_append_left hk] at he
      obtain ⟨z', w, u, a1, a2, a3, a4, a5, a6, a7⟩ := h.2.2 k e he
      exact ⟨z', w, u, ga a1, a2, a3, ga a4, a5, ga a6, a7⟩
    · rw [List.getElem?_append_right (Nat.not_lt.mp hk)] at he
      have hk2 : k - E.length = 0 := by
        have := (List.getElem?_eq_some_iff.mp he).1
        simp at this
        omega
      rw [hk2] at he
      cases he
      have hk3 : k = E.length := by omega
      subst hk3
      exact ⟨z, 0, 0, hz, h1, h2, ga h.2.1, by simpa using h1, ga h.2.1, by simpa using h2⟩
/-- narrower bounds -/
def er (E : EN) (k : Nat) (lo hi : Int) : EN := E.set k (max (eg E k).1 lo, min (eg E k).2.1 hi, (eg E k).2.2)
theorem er_ok {ρ : List Int} {E : EN} {k : Nat} {lo hi z : Int} (h : en_ok ρ E) (hz : ρ[k]? = some z) (h1 : lo ≤ z) (h2 : z ≤ hi) : en_ok ρ (er E k lo hi) := by
  obtain ⟨a1, a2, w, a3, a4⟩ := eg_ok h hz
  obtain ⟨u, a5, a6⟩ := eg_ok2 h hz
  refine ⟨by unfold er; rw [List.length_set]; exact h.1, h.2.1, fun j e he => ?_⟩
  unfold er at he
  rw [List.getElem?_set] at he
  by_cases hj : k = j
  · subst hj
    rw [if_pos rfl] at he
    split at he
    · cases he
      exact ⟨z, w, u, hz, Int.max_le.mpr ⟨a1, h1⟩, Int.le_min.mpr ⟨a2, h2⟩, a3, a4, a5, a6⟩
    · cases he
  · rw [if_neg hj] at he
    exact h.2.2 j e he
def ifz (E : EN) (k : Nat) : Bool := decide ((eg E k).1 ≤ (eg E k).2.1)
theorem ifz_ok {ρ : List Int} {E : EN} {k : Nat} {z : Int} (h : en_ok ρ E) (hz : ρ[k]? = some z) : ifz E k = true := by
  obtain ⟨a1, a2, -⟩ := eg_ok h hz
  exact decide_eq_true (Int.le_trans a1 a2)
/-- how much a value is above another, at least -/
def dlo (E : EN) : Nat → Nat → Int → Nat → Int → Int
  | 0, k1, c1, k2, c2 => ((eg E k1).1 + c1) - ((eg E k2).2.1 + c2)
  | n + 1, k1, c1, k2, c2 => cond (Nat.beq k1 k2) (c1 - c2) (cond (Nat.beq (eg E k1).2.2.1 0) (((eg E k1).1 + c1) - ((eg E k2).2.1 + c2)) (max (((eg E k1).1 + c1) - ((eg E k2).2.1 + c2)) (dlo E n (eg E k1).2.2.1 (c1 + (eg E k1).2.2.2.1) k2 c2)))
theorem dlo_ok {ρ : List Int} {E : EN} (h : en_ok ρ E) : ∀ (n k1 : Nat) (c1 : Int) (k2 : Nat) (c2 z1 z2 : Int), ρ[k1]? = some z1 → ρ[k2]? = some z2 → dlo E n k1 c1 k2 c2 ≤ (z1 + c1) - (z2 + c2) := by
  intro n
  induction n with
  | zero =>
    intro k1 c1 k2 c2 z1 z2 h1 h2
    obtain ⟨a1, a2, -⟩ := eg_ok h h1
    obtain ⟨b1, b2, -⟩ := eg_ok h h2
    unfold dlo
    omega
  | succ n ih =>
    intro k1 c1 k2 c2 z1 z2 h1 h2
    obtain ⟨a1, a2, w, a3, a4⟩ := eg_ok h h1
    obtain ⟨b1, b2, -⟩ := eg_ok h h2
    unfold dlo
    cases hc : Nat.beq k1 k2 with
    | true =>
      have e := Nat.eq_of_beq_eq_true hc
      subst e
      rw [h1] at h2
      cases h2
      simp only [cond_true]
      omega
    | false =>
      simp only [cond_false]
      cases hd : Nat.beq (eg E k1).2.2.1 0 with
      | true => simp only [cond_true]; omega
      | false =>
        simp only [cond_false]
        have := ih (eg E k1).2.2.1 (c1 + (eg E k1).2.2.2.1) k2 c2 w z2 a3 h2
        exact Int.max_le.mpr ⟨by omega, by omega⟩
/-! the machine without its fuel -/
def RT (M : MT) (dd mi pc : Nat) (L : List (Nat × Value)) (st : List Value) (hp : List AE) (q : ev_R) : Prop := ∃ N, ∀ n, N ≤ n → ∀ F, N ≤ F → ∀ d, dd ≤ d → ev_r M (evF F M d) mi n pc L st hp 0 0 = some q
theorem RT_step {M : MT} {dd mi pc pc2 x y : Nat} {i : Instr} {L L2 : List (Nat × Value)} {st st2 : List Value} {hp hp2 : List AE} {q : ev_R} (hf : mF M mi pc = some (i, x, y)) (hs : ∀ cf K, ev_s M cf mi pc i x y L st hp 0 0 K = K pc2 L2 st2 hp2 0 0) (h : RT M dd mi pc2 L2 st2 hp2 q) : RT M dd mi pc L st hp q := by
  obtain ⟨N, hN⟩ := h
  refine ⟨N + 1, fun n hn F hF d hd => ?_⟩
  cases n with
  | zero => omega
  | succ n =>
    show (mF M mi pc).bind _ = _
    rw [hf]
    show ev_s M _ mi pc i x y L st hp 0 0 _ = _
    rw [hs]
    exact hN n (by omega) F (by omega) d hd
theorem RT_call {M : MT} {dd mi pc pc2 x y : Nat} {i : Instr} {L : List (Nat × Value)} {st As rest : List Value} {hp : List AE} {r q : ev_R} {cx : Nat} (hf : mF M mi pc = some (i, x, y)) (hs : ∀ cf K, cf cx As hp = some r → ev_s M cf mi pc i x y L st hp 0 0 K = K pc2 L (r.1.toList ++ rest) r.2 0 0) (hc : ∃ N, ∀ F, N ≤ F → ∀ d, dd ≤ d → evF F M d cx As hp = some r) (h : RT M dd mi pc2 L (r.1.toList ++ rest) r.2 q) : RT M dd mi pc L st hp q := by
  obtain ⟨N, hN⟩ := h
  obtain ⟨N2, hN2⟩ := hc
  refine ⟨N + N2 + 1, fun n hn F hF d hd => ?_⟩
  cases n with
  | zero => omega
  | succ n =>
    show (mF M mi pc).bind _ = _
    rw [hf]
    show ev_s M _ mi pc i x y L st hp 0 0 _ = _
    rw [hs _ _ (hN2 F (by omega) d hd)]
    exact hN n (by omega) F (by omega) d hd
theorem RT_ret {M : MT} {dd mi pc x y : Nat} {i : Instr} {L : List (Nat × Value)} {st : List Value} {hp : List AE} {q : ev_R} (hf : mF M mi pc = some (i, x, y)) (hs : ∀ cf K, ev_s M cf mi pc i x y L st hp 0 0 K = some q) : RT M dd mi pc L st hp q := by
  refine ⟨1, fun n hn F _ d _ => ?_⟩
  cases n with
  | zero => omega
  | succ n =>
    show (mF M mi pc).bind _ = _
    rw [hf]
    exact hs _ _
/-- one instruction comes to one of these -/
def SOk (G : GT) (W : WR) (M : MT) (dd mi pc : Nat) (ρ : List Int) (L : List (Nat × Value)) (st : List Value) (hp : List AE) (l : List (Nat × SS)) : Prop :=
  ∃ s ∈ l, ∃ τ L2 st2 hp2, st_ok G (ρ ++ τ) s.2 L2 st2 hp2 ∧ Agr W hp hp2 ∧ ∀ q, RT M dd mi s.1 L2 st2 hp2 q → RT M dd mi pc L st hp q
