/-! ===== variables of one state out of those of another; contracts; calls ===== -/
def Im (ρ : List Int) (σ : List (Nat × Int)) (ρ2 : List Int) : Prop := ρ2.length = σ.length ∧ ∀ (k : Nat) (s : Nat × Int), σ[k]? = some s → ∃ z, ρ[s.1]? = some z ∧ ρ2[k]? = some (z + s.2)
def svm (σ : List (Nat × Int)) : SV → Option SV
  | (0, k, c) => match σ[k]? with
    | some s => some (0, s.1, s.2 + c)
    | none => none
  | (1, k, c) => match σ[k]? with
    | some s => some (1, s.1, s.2 + c)
    | none => none
  | (3, k, c) => match σ[k]? with
    | some s => some (3, s.1, s.2 + c)
    | none => none
  | (t, k, c) => some (t, k, c)
theorem svm_ok {ρ ρ2 : List Int} {σ : List (Nat × Int)} {a b : SV} {v : Value} (h : Im ρ σ ρ2) (hm : svm σ a = some b) : sv_ok ρ2 a v ↔ sv_ok ρ b v := by
  unfold svm at hm
  split at hm
  · rename_i k c
    split at hm
    · rename_i s hs
      cases hm
      obtain ⟨z, h1, h2⟩ := h.2 k s hs
      constructor
      · rintro ⟨x, z2, rfl, e1, e2⟩
        rw [h2] at e1
        cases e1
        exact ⟨x, z, rfl, h1, by omega⟩
      · rintro ⟨x, z2, rfl, e1, e2⟩
        rw [h1] at e1
        cases e1
        exact ⟨x, z + s.2, rfl, h2, by omega⟩
    · cases hm
  · rename_i k c
    split at hm
    · rename_i s hs
      cases hm
      obtain ⟨z, h1, h2⟩ := h.2 k s hs
      constructor
      · rintro ⟨x, z2, rfl, e1, e2⟩
        rw [h2] at e1
        cases e1
        exact ⟨x, z, rfl, h1, by omega⟩
      · rintro ⟨x, z2, rfl, e1, e2⟩
        rw [h1] at e1
        cases e1
        exact ⟨x, z + s.2, rfl, h2, by omega⟩
    · cases hm
  · rename_i k c
    split at hm
    · rename_i s hs
      cases hm
      obtain ⟨z, h1, h2⟩ := h.2 k s hs
      constructor
      · rintro ⟨x, z2, rfl, e0, e1, e2⟩
        rw [h2] at e1
        cases e1
        exact ⟨x, z, rfl, e0, h1, by omega⟩
      · rintro ⟨x, z2, rfl, e0, e1, e2⟩
        rw [h1] at e1
        cases e1
        exact ⟨x, z + s.2, rfl, e0, h2, by omega⟩
    · cases hm
  · rename_i t k c n0 n1 n3
    cases hm
    match t, n0, n1, n3 with
    | 0, n0, _, _ => exact (n0 rfl).elim
    | 1, _, n1, _ => exact (n1 rfl).elim
    | 2, _, _, _ => exact Iff.rfl
    | 3, _, _, n3 => exact (n3 rfl).elim
    | t + 4, _, _, _ => exact Iff.rfl
def sve (a b : SV) : Bool := Nat.beq a.1 b.1 && Nat.beq a.2.1 b.2.1 && (Nat.beq a.1 2 || Nat.ble 4 a.1 || decide (a.2.2 = b.2.2))
theorem sve_ok {ρ : List Int} {a b : SV} {v : Value} (h : sve a b = true) (hb : sv_ok ρ b v) : sv_ok ρ a v := by
  obtain ⟨t, k, c⟩ := a
  obtain ⟨t2, k2, c2⟩ := b
  unfold sve at h
  rw [Bool.and_eq_true, Bool.and_eq_true] at h
  have e1 : t = t2 := Nat.eq_of_beq_eq_true h.1.1
  have e2 : k = k2 := Nat.eq_of_beq_eq_true h.1.2
  subst e1 e2
  have h3 : (Nat.beq t 2 || Nat.ble 4 t || decide (c = c2)) = true := h.2
  match t, hb, h3 with
  | 0, hb, h3 => have e : c = c2 := of_decide_eq_true (by simpa using h3); rw [e]; exact hb
  | 1, hb, h3 => have e : c = c2 := of_decide_eq_true (by simpa using h3); rw [e]; exact hb
  | 2, hb, _ => exact hb
  | 3, hb, h3 => have e : c = c2 := of_decide_eq_true (by simpa using h3); rw [e]; exact hb
  | t + 4, hb, _ => exact hb
/-- a variable's upper bound, by itself or by twice another -/
def ehi (E : EN) (k : Nat) : Int := min (eg E k).2.1 (2 * (eg E (eg E k).2.2.2.2.1).2.1 + (eg E k).2.2.2.2.2)
theorem ehi_ok {ρ : List Int} {E : EN} {k : Nat} {z : Int} (h : en_ok ρ E) (hz : ρ[k]? = some z) : z ≤ ehi E k := by
  obtain ⟨a1, a2, -⟩ := eg_ok h hz
  obtain ⟨u, b1, b2⟩ := eg_ok2 h hz
  obtain ⟨c1, c2, -⟩ := eg_ok h b1
  unfold ehi
  omega
/-- a variable of the other state within its bounds -/
def chV (E : EN) (σ : List (Nat × Int)) (q : (Nat × Int) × EE) : Bool :=
  Nat.blt q.1.1 E.length && decide (q.2.1 ≤ (eg E q.1.1).1 + q.1.2) && decide (ehi E q.1.1 + q.1.2 ≤ q.2.2.1)
    && cond (Nat.beq q.2.2.2.1 0) (decide (q.2.2.2.2.1 ≤ (eg E q.1.1).1 + q.1.2))
      (match σ[q.2.2.2.1]? with
      | some s => decide (q.2.2.2.2.1 ≤ dlo E 12 q.1.1 q.1.2 s.1 s.2)
      | none => false)
    && (match σ[q.2.2.2.2.2.1]? with
      | some s => (Nat.beq (eg E q.1.1).2.2.2.2.1 s.1 && decide ((eg E q.1.1).2.2.2.2.2 + q.1.2 ≤ 2 * s.2 + q.2.2.2.2.2.2)) || decide (ehi E q.1.1 + q.1.2 ≤ 2 * ((eg E s.1).1 + s.2) + q.2.2.2.2.2.2)
      | none => false)
def sImg (ρ : List Int) (σ : List (Nat × Int)) : List Int := σ.map (fun s => ρ.getD s.1 0 + s.2)
theorem sImg_ok {ρ : List Int} {E : EN} {σ : List (Nat × Int)} (hE : en_ok ρ E) (h : σ.all (fun s => Nat.blt s.1 E.length) = true) : Im ρ σ (sImg ρ σ) := by
  refine ⟨List.length_map .., fun k s hs => ?_⟩
  have h1 : s.1 < E.length := Nat.le_of_ble_eq_true (List.all_eq_true.mp h s (List.mem_of_getElem? hs))
  rw [← hE.1] at h1
  refine ⟨ρ[s.1], List.getElem?_eq_getElem h1, ?_⟩
  unfold sImg
  rw [List.getElem?_map, hs]
  show some (ρ.getD s.1 0 + s.2) = _
  rw [List.getD_eq_getElem?_getD, List.getElem?_eq_getElem h1]
  rfl
def enM (E : EN) (σ : List (Nat × Int)) (F : EN) : Bool := Nat.beq σ.length F.length && (match σ with
  | s :: _ => Nat.beq s.1 0 && decide (s.2 = 0)
  | [] => false) && (σ.zip F).all (chV E σ)
theorem enM_ok {ρ : List Int} {E F : EN} {σ : List (Nat × Int)} (hE : en_ok ρ E) (h : enM E σ F = true) : Im ρ σ (sImg ρ σ) ∧ en_ok (sImg ρ σ) F := by
  unfold enM at h
  rw [Bool.and_eq_true, Bool.and_eq_true] at h
  obtain ⟨⟨h1, h2⟩, h3⟩ := h
  have hl := Nat.eq_of_beq_eq_true h1
  have hz : ∀ (k : Nat) s e, σ[k]? = some s → F[k]? = some e → chV E σ (s, e) = true := fun k s e a b => by
    refine List.all_eq_true.mp h3 (s, e) (List.mem_of_getElem? (i := k) ?_)
    rw [List.getElem?_zip_eq_some]
    exact ⟨a, b⟩
  have him : Im ρ σ (sImg ρ σ) := by
    refine sImg_ok hE (List.all_eq_true.mpr fun s hs => ?_)
    obtain ⟨k, hk, he⟩ := List.mem_iff_getElem.mp hs
    have hkF : k < F.length := by omega
    have := hz k s _ (by rw [List.getElem?_eq_getElem hk, he]) (List.getElem?_eq_getElem hkF)
    unfold chV at this
    rw [Bool.and_eq_true, Bool.and_eq_true, Bool.and_eq_true, Bool.and_eq_true] at this
    exact this.1.1.1.1
  refine ⟨him, by rw [him.1, hl], ?_, fun k e he => ?_⟩
  · match σ, h2, him with
    | s :: σ, h2, him =>
      have h2 : (Nat.beq s.1 0 && decide (s.2 = 0)) = true := h2
      rw [Bool.and_eq_true] at h2
      obtain ⟨z, e1, e2⟩ := him.2 0 s rfl
      rw [Nat.eq_of_beq_eq_true h2.1, hE.2.1] at e1
      cases e1
      rw [e2, of_decide_eq_true h2.2]
      rfl
  · have hk : k < σ.length := by rw [hl]; exact (List.getElem?_eq_some_iff.mp he).1
    have hs := List.getElem?_eq_getElem hk
    have hc := hz k _ e hs he
    obtain ⟨z, e1, e2⟩ := him.2 k _ hs
    obtain ⟨a1, -, -⟩ := eg_ok hE e1
    have a2 := ehi_ok hE e1
    unfold chV at hc
    rw [Bool.and_eq_true, Bool.and_eq_true, Bool.and_eq_true, Bool.and_eq_true] at hc
    obtain ⟨⟨⟨⟨-, c1⟩, c2⟩, c3⟩, c4⟩ := hc
    have c1 := of_decide_eq_true c1
    have c2 := of_decide_eq_true c2
    have h2x : ∃ u, (sImg ρ σ)[e.2.2.2.2.1]? = some u ∧ z + σ[k].2 ≤ 2 * u + e.2.2.2.2.2 := by
      cases hj : σ[e.2.2.2.2.1]? with
      | none => rw [show ((σ[k], e) : (Nat × Int) × EE).2.2.2.2.2.1 = e.2.2.2.2.1 from rfl, hj] at c4; cases c4
      | some s =>
        rw [show ((σ[k], e) : (Nat × Int) × EE).2.2.2.2.2.1 = e.2.2.2.2.1 from rfl, hj] at c4
        obtain ⟨w, f1, f2⟩ := him.2 _ s hj
        refine ⟨w + s.2, f2, ?_⟩
        have c4 : ((Nat.beq (eg E σ[k].1).2.2.2.2.1 s.1 && decide ((eg E σ[k].1).2.2.2.2.2 + σ[k].2 ≤ 2 * s.2 + e.2.2.2.2.2)) || decide (ehi E σ[k].1 + σ[k].2 ≤ 2 * ((eg E s.1).1 + s.2) + e.2.2.2.2.2)) = true := c4
        rw [Bool.or_eq_true, Bool.and_eq_true] at c4
        rcases c4 with c4 | c4
        · obtain ⟨u, g1, g2⟩ := eg_ok2 hE e1
          rw [Nat.eq_of_beq_eq_true c4.1, f1] at g1
          cases g1
          have := of_decide_eq_true c4.2
          omega
        · have := of_decide_eq_true c4
          obtain ⟨b1, b2, -⟩ := eg_ok hE f1
          omega
    obtain ⟨u2, x1, x2⟩ := h2x
    cases hp : Nat.beq e.2.2.1 0 with
    | true =>
      rw [show ((σ[k], e) : (Nat × Int) × EE).2.2.2.1 = e.2.2.1 from rfl, hp] at c3
      have c3 : (e.2.2.2.1 ≤ (eg E σ[k].1).1 + σ[k].2) := of_decide_eq_true c3
      have h0 : (sImg ρ σ)[0]? = some 0 := by
        match σ, h2, him with
        | s :: σ, h2, him =>
          have h2 : (Nat.beq s.1 0 && decide (s.2 = 0)) = true := h2
          rw [Bool.and_eq_true] at h2
          obtain ⟨z, e1, e2⟩ := him.2 0 s rfl
          rw [Nat.eq_of_beq_eq_true h2.1, hE.2.1] at e1
          cases e1
          rw [e2, of_decide_eq_true h2.2]
          rfl
      exact ⟨z + σ[k].2, 0, u2, e2, by simp only at c1; omega, by simp only at c2; omega, by rw [Nat.eq_of_beq_eq_true hp]; exact h0, by omega, x1, x2⟩
    | false =>
      rw [show ((σ[k], e) : (Nat × Int) × EE).2.2.2.1 = e.2.2.1 from rfl, hp] at c3
      simp only [cond_false] at c3
      cases hj : σ[e.2.2.1]? with
      | none => rw [hj] at c3; cases c3
      | some sj =>
        rw [hj] at c3
        have c3 := of_decide_eq_true c3
        obtain ⟨w, f1, f2⟩ := him.2 _ sj hj
        have hd := dlo_ok hE 12 σ[k].1 σ[k].2 sj.1 sj.2 z w e1 f1
        exact ⟨z + σ[k].2, w + sj.2, u2, e2, by simp only at c1; omega, by simp only at c2; omega, f2, by omega, x1, x2⟩
def slM (σ : List (Nat × Int)) (A T : SL) : Bool := T.all (fun q => match slg A q.1 with
  | some b => (match svm σ q.2 with
    | some a => sve a b
    | none => false)
  | none => false)
def ssM (σ : List (Nat × Int)) : List SV → List SV → Bool
  | [], [] => true
  | b :: A, t :: T => (match svm σ t with
    | some a => sve a b
    | none => false) && ssM σ A T
  | _, _ => false
def spM (σ : List (Nat × Int)) (P T : SP) : Bool := T.all (fun q => match spg P q.1 q.2.1 with
  | some b => (match svm σ q.2.2 with
    | some a => sve a b
    | none => false)
  | none => false)
theorem svM_ok {ρ ρ2 : List Int} {σ : List (Nat × Int)} {t b : SV} {v : Value} (h : Im ρ σ ρ2) (hm : (match svm σ t with
    | some a => sve a b
    | none => false) = true) (hb : sv_ok ρ b v) : sv_ok ρ2 t v := by
  cases hs : svm σ t with
  | none => rw [hs] at hm; cases hm
  | some a => rw [hs] at hm; exact (svm_ok h hs).mpr (sve_ok hm hb)
theorem slM_ok {ρ ρ2 : List Int} {σ : List (Nat × Int)} {A T : SL} {L : List (Nat × Value)} (h : Im ρ σ ρ2) (hm : slM σ A T = true) (hA : sl_ok ρ A L) : sl_ok ρ2 T L := by
  intro q hq
  have h1 := List.all_eq_true.mp hm q hq
  cases hg : slg A q.1 with
  | none => rw [hg] at h1; cases h1
  | some b =>
    rw [hg] at h1
    obtain ⟨v, e1, e2⟩ := hA _ (slg_mem hg)
    exact ⟨v, e1, svM_ok h h1 e2⟩
theorem ssM_ok {ρ ρ2 : List Int} {σ : List (Nat × Int)} (h : Im ρ σ ρ2) : ∀ {A T : List SV} {st : List Value}, ssM σ A T = true → ss_ok ρ A st → ss_ok ρ2 T st
  | [], [], [], _, _ => trivial
  | b :: A, t :: T, v :: st, hm, hA => by
    unfold ssM at hm
    rw [Bool.and_eq_true] at hm
    exact ⟨svM_ok h hm.1 hA.1, ssM_ok h hm.2 hA.2⟩
  | [], [], _ :: _, _, hA => hA.elim
  | _ :: _, _ :: _, [], _, hA => hA.elim
  | [], _ :: _, _, hm, _ => by cases hm
  | _ :: _, [], _, hm, _ => by cases hm
theorem spM_ok {ρ ρ2 : List Int} {σ : List (Nat × Int)} {P T : SP} {hp : List AE} (h : Im ρ σ ρ2) (hm : spM σ P T = true) (hA : sp_ok ρ P hp) : sp_ok ρ2 T hp := by
  intro q hq
  have h1 := List.all_eq_true.mp hm q hq
  cases hg : spg P q.1 q.2.1 with
  | none => rw [hg] at h1; cases h1
  | some b =>
    rw [hg] at h1
    obtain ⟨v, e1, e2⟩ := hA _ (spg_mem hg)
    exact ⟨v, e1, svM_ok h h1 e2⟩
/-- where a variable is taken from: 0 a local, 1 the stack, 2 a place -/
abbrev SR : Type := List (Nat × Nat × Nat)
def sg (S : SS) (p : Nat × Nat × Nat) : Nat × Int := ((match p.1 with
  | 0 => slg S.2.1 p.2.1
  | 1 => S.2.2.1[p.2.1]?
  | _ => spg S.2.2.2 p.2.1 p.2.2).getD (0, 0, 0)).2
def idn (m : Nat) : List (Nat × Int) := (List.range m).map (fun k => (k, 0))
def sgm (S : SS) (m : Nat) (R : SR) : List (Nat × Int) := idn m ++ R.map (sg S)
/-- this state says what that one says -/
def ent (S : SS) (σ : List (Nat × Int)) (T : SS) : Bool := slM σ S.2.1 T.2.1 && ssM σ S.2.2.1 T.2.2.1 && spM σ S.2.2.2 T.2.2.2 && enM S.1 σ T.1
theorem ent_ok {G : GT} {ρ : List Int} {S T : SS} {σ : List (Nat × Int)} {L : List (Nat × Value)} {st : List Value} {hp : List AE} (h : st_ok G ρ S L st hp) (he : ent S σ T = true) : Im ρ σ (sImg ρ σ) ∧ st_ok G (sImg ρ σ) T L st hp := by
  unfold ent at he
  rw [Bool.and_eq_true, Bool.and_eq_true, Bool.and_eq_true] at he
  obtain ⟨⟨⟨h2, h3⟩, h4⟩, h1⟩ := he
  obtain ⟨him, hE⟩ := enM_ok h.1 h1
  exact ⟨him, hE, slM_ok him h2 h.2.1, ssM_ok him h3 h.2.2.1, spM_ok him h4 h.2.2.2.1, h.2.2.2.2⟩
