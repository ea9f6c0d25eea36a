/-! ===== contracts and calls ===== -/
/-- an end: what is answered, the variables (those of the entry first), what is known of places, where the new variables are taken from -/
abbrev OUT : Type := Option SV × EN × SP × SR
/-- a place in the code: where, its phase, what it is (0 plain, 1 head of a loop whose first own variable grows, 2 .. falls, 3 within such a loop), the state, where its variables are taken from -/
abbrev LB : Type := Nat × Nat × Nat × SS × SR × List (Nat × Nat)
/-- a contract: the method, how deep, variables, arguments, places, where a caller takes the variables from, the ends, what may change, the places in the code -/
abbrev CO : Type := Nat × Nat × EN × List SV × SP × SR × List OUT × WR × List LB × List (Nat × Nat × Nat) × List (Nat × Nat)
abbrev cMi (C : CO) : Nat := C.1
abbrev cDep (C : CO) : Nat := C.2.1
abbrev cE (C : CO) : EN := C.2.2.1
abbrev cA (C : CO) : List SV := C.2.2.2.1
abbrev cP (C : CO) : SP := C.2.2.2.2.1
abbrev cR (C : CO) : SR := C.2.2.2.2.2.1
abbrev cO (C : CO) : List OUT := C.2.2.2.2.2.2.1
abbrev cW (C : CO) : WR := C.2.2.2.2.2.2.2.1
abbrev cL (C : CO) : List LB := C.2.2.2.2.2.2.2.2.1
/-- places that are looked at first of all -/
abbrev cX (C : CO) : List (Nat × Nat × Nat) := C.2.2.2.2.2.2.2.2.2.1
/-- where one goes from the entry -/
abbrev cH (C : CO) : List (Nat × Nat) := C.2.2.2.2.2.2.2.2.2.2
def rt_ok (ρ : List Int) : Option SV → Option Value → Prop
  | none, none => True
  | some a, some v => sv_ok ρ a v
  | _, _ => False
def EndOk (G : GT) (C : CO) (ρ : List Int) (hp : List AE) (q : ev_R) : Prop := Agr (cW C) hp q.2 ∧ hp_ok G q.2 ∧ ∃ o ∈ cO C, ∃ τ, en_ok (ρ ++ τ) o.2.1 ∧ sp_ok (ρ ++ τ) o.2.2.1 q.2 ∧ rt_ok (ρ ++ τ) o.1 q.1
def CoOk (G : GT) (M : MT) (C : CO) : Prop := mC M (cMi C) = 0 ∧ mS M (cMi C) = 0 ∧ ∀ ρ As hp, en_ok ρ (cE C) → ss_ok ρ (cA C) As → sp_ok ρ (cP C) hp → hp_ok G hp → ∃ q : ev_R, (∃ N, ∀ F, N ≤ F → ∀ d, cDep C ≤ d → evF F M d (cMi C) As hp = some q) ∧ EndOk G C ρ hp q
/-- bounds narrowed by what an end says of the entry's variables -/
def rfE : List ((Nat × Int) × EE) → EN → EN
  | [], E => E
  | q :: l, E => rfE l (er E q.1.1 (q.2.1 - q.1.2) (q.2.2.1 - q.1.2))
theorem rfE_ok {ρ : List Int} : ∀ (l : List ((Nat × Int) × EE)) (E : EN), en_ok ρ E → (∀ q ∈ l, ∃ z, ρ[q.1.1]? = some z ∧ q.2.1 ≤ z + q.1.2 ∧ z + q.1.2 ≤ q.2.2.1) → en_ok ρ (rfE l E)
  | [], E, h, _ => h
  | q :: l, E, h, hq => by
    obtain ⟨z, h1, h2, h3⟩ := hq q List.mem_cons_self
    exact rfE_ok l _ (er_ok h h1 (by omega) (by omega)) (fun p hp => hq p (List.mem_cons_of_mem _ hp))
theorem rfE_len : ∀ (l : List ((Nat × Int) × EE)) (E : EN), (rfE l E).length = E.length
  | [], _ => rfl
  | q :: l, E => by
    unfold rfE
    rw [rfE_len l]
    unfold er
    exact List.length_set ..
/-- new variables, as the caller sees them -/
def nwE (σ : List (Nat × Int)) : EN → Option EN
  | [] => some []
  | e :: l => match σ[e.2.2.1]? with
    | none => none
    | some s => match σ[e.2.2.2.2.1]? with
      | none => none
      | some s2 => match nwE σ l with
        | none => none
        | some l2 => some ((e.1, e.2.1, s.1, e.2.2.2.1 + s.2, s2.1, e.2.2.2.2.2 + 2 * s2.2) :: l2)
theorem nwE_at {σ : List (Nat × Int)} : ∀ {l l2 : EN}, nwE σ l = some l2 → l2.length = l.length ∧ ∀ (k : Nat) (f : EE), l2[k]? = some f → ∃ e s s2, l[k]? = some e ∧ σ[e.2.2.1]? = some s ∧ σ[e.2.2.2.2.1]? = some s2 ∧ f = (e.1, e.2.1, s.1, e.2.2.2.1 + s.2, s2.1, e.2.2.2.2.2 + 2 * s2.2)
  | [], l2, h => by cases h; exact ⟨rfl, fun k f hf => by cases hf⟩
  | e :: l, l2, h => by
    unfold nwE at h
    split at h
    · cases h
    · rename_i s hs
      split at h
      · cases h
      · rename_i s2 hs2
        split at h
        · cases h
        · rename_i l3 h3
          cases h
          obtain ⟨a1, a2⟩ := nwE_at h3
          refine ⟨by rw [List.length_cons, List.length_cons, a1], fun k f hf => ?_⟩
          cases k with
          | zero => cases hf; exact ⟨e, s, s2, rfl, hs, hs2, rfl⟩
          | succ k => exact a2 k f hf
def fzs (E : EN) : Bool := E.all (fun e => decide (e.1 ≤ e.2.1))
def mapP (σ : List (Nat × Int)) : SP → Option SP
  | [] => some []
  | q :: l => match svm σ q.2.2 with
    | none => none
    | some a => match mapP σ l with
      | none => none
      | some l2 => some ((q.1, q.2.1, a) :: l2)
theorem mapP_ok {ρ ρ2 : List Int} {σ : List (Nat × Int)} {hp : List AE} (h : Im ρ σ ρ2) : ∀ {l l2 : SP}, mapP σ l = some l2 → sp_ok ρ2 l hp → sp_ok ρ l2 hp
  | [], l2, hm, _ => by cases hm; intro q hq; cases hq
  | q :: l, l2, hm, hl => by
    unfold mapP at hm
    split at hm
    · cases hm
    · rename_i a ha
      split at hm
      · cases hm
      · rename_i l3 h3
        cases hm
        intro p hp1
        rcases List.mem_cons.mp hp1 with rfl | hp1
        · obtain ⟨v, e1, e2⟩ := hl q List.mem_cons_self
          exact ⟨v, e1, (svm_ok h ha).mp e2⟩
        · exact mapP_ok h h3 (fun x hx => hl x (List.mem_cons_of_mem _ hx)) p hp1
def mapR (σ : List (Nat × Int)) (r : List SV) : Option SV → Option (List SV)
  | none => some r
  | some a => match svm σ a with
    | none => none
    | some b => some (b :: r)
/-- what stays known over a call -/
def keepP (W : WR) (P : SP) : SP := P.filter (fun q => !(wr_in W q.1 q.2.1 q.2.1))
theorem keepP_ok {ρ : List Int} {W : WR} {P : SP} {hp hp2 : List AE} (h : sp_ok ρ P hp) (ha : Agr W hp hp2) : sp_ok ρ (keepP W P) hp2 := by
  intro q hq
  obtain ⟨h1, h2⟩ := List.mem_filter.mp hq
  obtain ⟨v, e1, e2⟩ := h q h1
  refine ⟨v, ?_, e2⟩
  rw [ha.2 q.1 q.2.1 (by simpa using h2)]
  exact e1
/-- the state behind a call that came to this end; none: it can't be written down; [] : it can't come to it -/
def aftr (S : SS) (rest : List SV) (C : CO) (σ : List (Nat × Int)) (pc : Nat) (o : OUT) : Option (List (Nat × SS)) :=
  let m := (cE C).length
  let E1 := rfE (σ.zip (o.2.1.take m)) S.1
  cond (fzs E1) (
    let σ2 := σ ++ (List.range (o.2.1.length - m)).map (fun i => (S.1.length + i, 0))
    match nwE σ2 (o.2.1.drop m) with
    | none => none
    | some E2 => match mapP σ2 o.2.2.1 with
      | none => none
      | some P2 => match mapR σ2 rest o.1 with
        | none => none
        | some r2 => some [(pc, (E1 ++ E2, S.2.1, r2, P2 ++ keepP (cW C) S.2.2.2))]) (some [])
def aftrs (S : SS) (rest : List SV) (C : CO) (σ : List (Nat × Int)) (pc : Nat) : List OUT → Option (List (Nat × SS))
  | [] => some []
  | o :: os => match aftr S rest C σ pc o with
    | none => none
    | some l1 => match aftrs S rest C σ pc os with
      | none => none
      | some l2 => some (l1 ++ l2)
theorem aftrs_mem {S : SS} {rest : List SV} {C : CO} {σ : List (Nat × Int)} {pc : Nat} : ∀ {os : List OUT} {l : List (Nat × SS)} {o : OUT}, aftrs S rest C σ pc os = some l → o ∈ os → ∃ l1, aftr S rest C σ pc o = some l1 ∧ ∀ s ∈ l1, s ∈ l
  | [], _, _, _, ho => by cases ho
  | o1 :: os, l, o, h, ho => by
    unfold aftrs at h
    split at h
    · cases h
    · rename_i l1 h1
      split at h
      · cases h
      · rename_i l2 h2
        cases h
        rcases List.mem_cons.mp ho with rfl | ho
        · exact ⟨l1, h1, fun s hs => List.mem_append_left _ hs⟩
        · obtain ⟨l3, e1, e2⟩ := aftrs_mem h2 ho
          exact ⟨l3, e1, fun s hs => List.mem_append_right _ (e2 s hs)⟩
theorem im_ext {ρ ρ2 τ : List Int} {σ : List (Nat × Int)} {n : Nat} (h : Im ρ σ ρ2) (hn : τ.length = n) : Im (ρ ++ τ) (σ ++ (List.range n).map (fun i => (ρ.length + i, 0))) (ρ2 ++ τ) := by
  refine ⟨by rw [List.length_append, List.length_append, List.length_map, List.length_range, h.1, hn], fun k s hs => ?_⟩
  by_cases hk : k < σ.length
  · rw [List.getElem?_append_left hk] at hs
    obtain ⟨z, e1, e2⟩ := h.2 k s hs
    exact ⟨z, ga e1, ga e2⟩
  · rw [List.getElem?_append_right (Nat.not_lt.mp hk), List.getElem?_map] at hs
    have hk2 : k - σ.length < n := by
      cases hr : (List.range n)[k - σ.length]? with
      | none => rw [hr] at hs; cases hs
      | some j => have := (List.getElem?_eq_some_iff.mp hr).1; rwa [List.length_range] at this
    rw [List.getElem?_range hk2] at hs
    cases hs
    refine ⟨τ[k - σ.length]'(by omega), ?_, ?_⟩
    · show (ρ ++ τ)[ρ.length + (k - σ.length)]? = _
      rw [List.getElem?_append_right (by omega), show ρ.length + (k - σ.length) - ρ.length = k - σ.length by omega, List.getElem?_eq_getElem]
    · rw [List.getElem?_append_right (by rw [h.1]; omega), h.1, List.getElem?_eq_getElem (by omega)]
      simp
theorem im_back {ρ ρ2 : List Int} {σ : List (Nat × Int)} (h : Im ρ σ ρ2) {k : Nat} {s : Nat × Int} {w : Int} (hs : σ[k]? = some s) (hw : ρ2[k]? = some w) : ∃ z, ρ[s.1]? = some z ∧ w = z + s.2 := by
  obtain ⟨z, e1, e2⟩ := h.2 k s hs
  rw [hw] at e2
  cases e2
  exact ⟨z, e1, rfl⟩
theorem aftr_ok {G : GT} {ρ : List Int} {S : SS} {rest : List SV} {C : CO} {σ : List (Nat × Int)} {pc : Nat} {o : OUT} {L : List (Nat × Value)} {st rs : List Value} {hp : List AE} {q : ev_R} {τ : List Int} {l : List (Nat × SS)} (h : st_ok G ρ S L st hp) (hr : ss_ok ρ rest rs) (him : Im ρ σ (sImg ρ σ)) (hσ : σ.length = (cE C).length) (ha : Agr (cW C) hp q.2) (hg : hp_ok G q.2) (he : en_ok (sImg ρ σ ++ τ) o.2.1) (hp2 : sp_ok (sImg ρ σ ++ τ) o.2.2.1 q.2) (hrt : rt_ok (sImg ρ σ ++ τ) o.1 q.1) (hl : aftr S rest C σ pc o = some l) : ∃ s ∈ l, s.1 = pc ∧ st_ok G (ρ ++ τ) s.2 L (q.1.toList ++ rs) q.2 := by
  unfold aftr at hl
  have hlen : τ.length = o.2.1.length - (cE C).length := by
    have := he.1
    rw [List.length_append, him.1, hσ] at this
    omega
  have hge : (cE C).length ≤ o.2.1.length := by
    have := he.1
    rw [List.length_append, him.1, hσ] at this
    omega
  have hE1 : en_ok ρ (rfE (σ.zip (o.2.1.take (cE C).length)) S.1) := by
    refine rfE_ok _ _ h.1 (fun p hp => ?_)
    obtain ⟨k, hk, e⟩ := List.mem_iff_getElem.mp hp
    have hz := List.getElem?_eq_getElem hk
    rw [e, List.getElem?_zip_eq_some] at hz
    obtain ⟨z1, z2⟩ := hz
    have hk2 : k < (cE C).length := by
      have := (List.getElem?_eq_some_iff.mp z1).1
      omega
    rw [List.getElem?_take_of_lt hk2] at z2
    obtain ⟨z, w, u, a1, a2, a3, -⟩ := he.2.2 k _ z2
    obtain ⟨z', e1, e2⟩ := him.2 k _ z1
    rw [ga e2] at a1
    cases a1
    exact ⟨z', e1, a2, a3⟩
  have him2 : Im (ρ ++ τ) (σ ++ (List.range (o.2.1.length - (cE C).length)).map (fun i => (S.1.length + i, 0))) (sImg ρ σ ++ τ) := by
    rw [← h.1.1]
    exact im_ext him hlen
  cases hf : fzs (rfE (σ.zip (o.2.1.take (cE C).length)) S.1) with
  | false =>
    exfalso
    have : fzs (rfE (σ.zip (o.2.1.take (cE C).length)) S.1) = true := by
      refine List.all_eq_true.mpr (fun e he => ?_)
      obtain ⟨k, hk, e2⟩ := List.mem_iff_getElem.mp he
      obtain ⟨z, w, u, a1, a2, a3, -⟩ := hE1.2.2 k e (by rw [List.getElem?_eq_getElem hk, e2])
      exact decide_eq_true (Int.le_trans a2 a3)
    rw [this] at hf
    cases hf
  | true =>
    simp only [hf, cond_true] at hl
    split at hl
    · cases hl
    · rename_i E2 hE2
      split at hl
      · cases hl
      · rename_i P2 hP2
        split at hl
        · cases hl
        · rename_i r2 hr2
          cases hl
          refine ⟨_, List.mem_singleton.mpr rfl, rfl, ?_, sl_ext h.2.1, ?_, ?_, hg⟩
          · -- the variables
            obtain ⟨b1, b2⟩ := nwE_at hE2
            show en_ok (ρ ++ τ) (rfE (σ.zip (o.2.1.take (cE C).length)) S.1 ++ E2)
            refine ⟨?_, ga h.1.2.1, fun k e hk => ?_⟩
            · rw [List.length_append, List.length_append, b1, hE1.1, List.length_drop, hlen]
            · by_cases hk2 : k < (rfE (σ.zip (o.2.1.take (cE C).length)) S.1).length
              · rw [List.getElem?_append_left hk2] at hk
                obtain ⟨z, w, u, a1, a2, a3, a4, a5, a6, a7⟩ := hE1.2.2 k e hk
                exact ⟨z, w, u, ga a1, a2, a3, ga a4, a5, ga a6, a7⟩
              · rw [List.getElem?_append_right (Nat.not_lt.mp hk2)] at hk
                obtain ⟨e0, s, s2, c1, c2, c4, c3⟩ := b2 _ e hk
                rw [List.getElem?_drop] at c1
                obtain ⟨z, w, u, a1, a2, a3, a4, a5, a6, a7⟩ := he.2.2 _ e0 c1
                obtain ⟨w2, d1, d2⟩ := im_back him2 c2 a4
                obtain ⟨u2, d3, d4⟩ := im_back him2 c4 a6
                have hlenE : (rfE (σ.zip (o.2.1.take (cE C).length)) S.1).length = ρ.length := hE1.1.symm
                have hz : (ρ ++ τ)[k]? = some z := by
                  have hj : (sImg ρ σ ++ τ)[(cE C).length + (k - ρ.length)]? = some z := by rw [← hlenE]; exact a1
                  rw [List.getElem?_append_right (by rw [him.1, hσ]; omega), him.1, hσ] at hj
                  rw [List.getElem?_append_right (by omega)]
                  rw [show (cE C).length + (k - ρ.length) - (cE C).length = k - ρ.length by omega] at hj
                  exact hj
                rw [c3]
                exact ⟨z, w2, u2, hz, a2, a3, d1, by simp only; omega, d3, by simp only; omega⟩
          · -- the stack
            show ss_ok (ρ ++ τ) r2 (q.1.toList ++ rs)
            match o.1, q.1, hrt, hr2 with
            | none, none, _, hr2 => cases hr2; exact ss_ext hr
            | some a, some v, hrt, hr2 =>
              have hr2 : (match svm (σ ++ (List.range (o.2.1.length - (cE C).length)).map (fun i => (S.1.length + i, 0))) a with
                | none => none
                | some b => some (b :: rest)) = some r2 := hr2
              split at hr2
              · cases hr2
              · rename_i b hb
                cases hr2
                exact ⟨(svm_ok him2 hb).mp hrt, ss_ext hr⟩
          · -- the places
            show sp_ok (ρ ++ τ) (P2 ++ keepP (cW C) S.2.2.2) q.2
            intro p hp3
            rcases List.mem_append.mp hp3 with hp3 | hp3
            · exact mapP_ok him2 hP2 hp2 p hp3
            · exact sp_ext (keepP_ok h.2.2.2.1 ha) p hp3
