/-! ===== the check of a contract ===== -/
/-- a contract that fits here: what comes behind the call -/
def tryC (S : SS) (args rest : List SV) (W : WR) (dep pc : Nat) (C : CO) : Option (List (Nat × SS)) :=
  cond (Nat.blt (cDep C) dep && ent (S.1, [], args, S.2.2.2) (sgm (S.1, [], args, S.2.2.2) 1 (cR C)) (cE C, [], cA C, cP C) && wr_le (cW C) W)
    (aftrs S rest C (sgm (S.1, [], args, S.2.2.2) 1 (cR C)) pc (cO C)) none
def tryCs (S : SS) (args rest : List SV) (W : WR) (dep pc x : Nat) : List CO → Option (List (Nat × SS))
  | [] => none
  | C :: cs => cond (Nat.beq (cMi C) x) (match tryC S args rest W dep pc C with
    | some l => some l
    | none => tryCs S args rest W dep pc x cs) (tryCs S args rest W dep pc x cs)
theorem tryCs_ok {S : SS} {args rest : List SV} {W : WR} {dep pc x : Nat} : ∀ {cs : List CO} {l : List (Nat × SS)}, tryCs S args rest W dep pc x cs = some l → ∃ C ∈ cs, cMi C = x ∧ tryC S args rest W dep pc C = some l
  | [], _, h => by cases h
  | C :: cs, l, h => by
    unfold tryCs at h
    cases hc : Nat.beq (cMi C) x with
    | true =>
      rw [hc] at h
      simp only [cond_true] at h
      split at h
      · rename_i l2 hl
        cases h
        exact ⟨C, List.mem_cons_self, Nat.eq_of_beq_eq_true hc, hl⟩
      · obtain ⟨C2, h1, h2⟩ := tryCs_ok h
        exact ⟨C2, List.mem_cons_of_mem _ h1, h2⟩
    | false =>
      rw [hc] at h
      simp only [cond_false] at h
      obtain ⟨C2, h1, h2⟩ := tryCs_ok h
      exact ⟨C2, List.mem_cons_of_mem _ h1, h2⟩
theorem ss_take {ρ : List Int} : ∀ (n : Nat) {A : List SV} {st : List Value}, ss_ok ρ A st → ss_ok ρ (A.take n) (st.take n) ∧ ss_ok ρ (A.drop n) (st.drop n)
  | 0, A, st, h => ⟨trivial, h⟩
  | n + 1, [], [], _ => ⟨trivial, trivial⟩
  | n + 1, a :: A, v :: st, h => by
    obtain ⟨h1, h2⟩ := ss_take n h.2
    exact ⟨⟨h.1, h1⟩, h2⟩
  | _ + 1, [], _ :: _, h => h.elim
  | _ + 1, _ :: _, [], h => h.elim
theorem ss_app {ρ : List Int} : ∀ {A B : List SV} {s t : List Value}, ss_ok ρ A s → ss_ok ρ B t → ss_ok ρ (A ++ B) (s ++ t)
  | [], _, [], _, _, h => h
  | _ :: _, _, _ :: _, _, h1, h2 => ⟨h1.1, ss_app h1.2 h2⟩
  | [], _, _ :: _, _, h, _ => h.elim
  | _ :: _, _, [], _, h, _ => h.elim
theorem ss_rev {ρ : List Int} : ∀ {A : List SV} {s : List Value}, ss_ok ρ A s → ss_ok ρ A.reverse s.reverse
  | [], [], _ => trivial
  | a :: A, v :: s, h => by
    rw [List.reverse_cons, List.reverse_cons]
    exact ss_app (ss_rev h.2) ⟨h.1, trivial⟩
  | [], _ :: _, h => h.elim
  | _ :: _, [], h => h.elim
theorem ss_len {ρ : List Int} : ∀ {A : List SV} {s : List Value}, ss_ok ρ A s → s.length = A.length
  | [], [], _ => rfl
  | a :: A, v :: s, h => by rw [List.length_cons, List.length_cons, ss_len h.2]
  | [], _ :: _, h => h.elim
  | _ :: _, [], h => h.elim
section
variable {G : GT} {W : WR} {M : MT} {dd mi pc x y : Nat} {ρ : List Int} {S : SS} {L : List (Nat × Value)} {st : List Value} {hp : List AE} {l : List (Nat × SS)} {i : Instr} {cs : List CO} {dep : Nat}
theorem tryC_ok {C : CO} {args rest : List SV} {As rs : List Value} {pc2 : Nat} (hC : CoOk G M C) (hdd : dep = dd + 1) (h : st_ok G ρ S L st hp) (ha : ss_ok ρ args As) (hr : ss_ok ρ rest rs) (hl : tryC S args rest W dep pc2 C = some l) (hf : mF M mi pc = some (i, x, y)) (hs : ∀ (r : ev_R) cf K, cf (cMi C) As hp = some r → ev_s M cf mi pc i x y L st hp 0 0 K = K pc2 L (r.1.toList ++ rs) r.2 0 0) : SOk G W M dd mi pc ρ L st hp l := by
  unfold tryC at hl
  cases hc : (Nat.blt (cDep C) dep && ent (S.1, [], args, S.2.2.2) (sgm (S.1, [], args, S.2.2.2) 1 (cR C)) (cE C, [], cA C, cP C) && wr_le (cW C) W) with
  | false => rw [hc] at hl; cases hl
  | true =>
    rw [hc] at hl
    simp only [cond_true] at hl
    rw [Bool.and_eq_true, Bool.and_eq_true] at hc
    obtain ⟨⟨c1, c2⟩, c3⟩ := hc
    have c1 : cDep C < dep := Nat.le_of_ble_eq_true c1
    obtain ⟨him, e1, -, e3, e4, e5⟩ := ent_ok (G := G) (S := (S.1, [], args, S.2.2.2)) (T := (cE C, [], cA C, cP C)) (L := []) (st := As) (hp := hp) ⟨h.1, (fun q hq => by cases hq), ha, h.2.2.2.1, h.2.2.2.2⟩ c2
    obtain ⟨q, hN, hA, hG, o, ho, τ, f1, f2, f3⟩ := hC.2.2 _ As hp e1 e3 e4 e5
    obtain ⟨l1, g1, g2⟩ := aftrs_mem hl ho
    have hσ : (sgm (S.1, [], args, S.2.2.2) 1 (cR C)).length = (cE C).length := by
      rw [← him.1]
      exact e1.1
    obtain ⟨s, k1, k2, k3⟩ := aftr_ok h hr him hσ hA hG f1 f2 f3 g1
    refine ⟨s, g2 s k1, τ, L, _, _, k3, Agr.mono c3 hA, fun r hr => ?_⟩
    rw [k2] at hr
    exact RT_call (cx := cMi C) (As := As) (rest := rs) (r := q) hf (fun cf K hcf => hs q cf K hcf) (by
      obtain ⟨N, hN⟩ := hN
      exact ⟨N, fun F hF d hd => hN F hF d (by omega)⟩) hr
/-- a call: its arguments (with the object), what lies below -/
def sy_call (M : MT) (G : GT) (W : WR) (cs : List CO) (dep : Nat) (vr : Bool) (x n pc : Nat) (S : SS) : Option (List (Nat × SS)) :=
  cond (Nat.blt x 900 && Nat.ble n S.2.2.1.length && Nat.ble (scat (S.2.2.1.drop n)) 8 && (cond vr (match (S.2.2.1.take n).reverse with
    | (2, a, _) :: _ => (match G.1 a with
      | some ct => Nat.beq ct.1.1 3 && Nat.beq ct.1.2.1 (mK M x)
      | none => false)
    | _ => false) true))
    (tryCs S (S.2.2.1.take n).reverse (S.2.2.1.drop n) W dep (pc + 3) x cs) none
theorem take_succ_rev {α : Type} (n : Nat) (l : List α) (v : α) (r : List α) (h : l.drop n = v :: r) : (l.take (n + 1)).reverse = v :: (l.take n).reverse ∧ l.drop (n + 1) = r := by
  have hn : n < l.length := by
    have := congrArg List.length h
    rw [List.length_drop] at this
    simp at this
    omega
  have e : l[n] = v := by
    have h1 : (l.drop n)[0]? = l[n]? := by rw [List.getElem?_drop]; rfl
    rw [h, List.getElem?_eq_getElem hn] at h1
    injection h1 with h1
    exact h1.symm
  constructor
  · rw [List.take_succ_eq_append_getElem hn, List.reverse_append, e]
    rfl
  · rw [← List.drop_drop, h]
    rfl
theorem sy_callS_ok {idx : Nat} (hcs : ∀ C ∈ cs, CoOk G M C) (hdd : dep = dd + 1) (hf : mF M mi pc = some (.invokestatic idx, x, y)) (hm : mC M mi = 0 ∧ mS M mi = 0) (h : st_ok G ρ S L st hp) (hr : sy_call M G W cs dep false x y pc S = some l) : SOk G W M dd mi pc ρ L st hp l := by
  unfold sy_call at hr
  cases hc : (Nat.blt x 900 && Nat.ble y S.2.2.1.length && Nat.ble (scat (S.2.2.1.drop y)) 8 && (cond false (match (S.2.2.1.take y).reverse with
    | (2, a, _) :: _ => (match G.1 a with
      | some ct => Nat.beq ct.1.1 3 && Nat.beq ct.1.2.1 (mK M x)
      | none => false)
    | _ => false) true)) with
  | false => rw [hc] at hr; cases hr
  | true =>
    rw [hc] at hr
    simp only [cond_true] at hr
    rw [Bool.and_eq_true, Bool.and_eq_true, Bool.and_eq_true] at hc
    obtain ⟨⟨⟨c1, c2⟩, c3⟩, -⟩ := hc
    have c1 : x < 900 := Nat.le_of_ble_eq_true c1
    have c2 := Nat.le_of_ble_eq_true c2
    have c3 := Nat.le_of_ble_eq_true c3
    obtain ⟨C, k1, k2, k3⟩ := tryCs_ok hr
    have hC := hcs C k1
    obtain ⟨t1, t2⟩ := ss_take y h.2.2.1
    refine tryC_ok hC hdd h (ss_rev t1) t2 k3 hf (fun r cf K hcf => ?_)
    rw [k2] at hcf
    have hl := ss_len h.2.2.1
    show (if x < 900 then (ev_pop y st).bind (fun q => ev_cf M cf mi x q.1 q.2 hp 0 0 (K (pc + 3) L)) else _) = _
    rw [if_pos c1]
    have e1 : ev_pop y st = some ((st.take y).reverse, st.drop y) := by
      unfold ev_pop
      rw [if_pos (by omega)]
    rw [e1]
    show ev_cf M cf mi x (st.take y).reverse (st.drop y) hp 0 0 (K (pc + 3) L) = _
    unfold ev_cf
    have z1 := hC.1
    have z2 := hC.2.1
    rw [k2] at z1 z2
    rw [if_pos (by rw [scat_ok t2]; exact c3), z1, z2, hm.1, hm.2, if_pos ⟨Nat.le_refl _, Nat.le_refl _⟩, hcf]
    rfl
theorem sy_callV_ok {idx : Nat} (hcs : ∀ C ∈ cs, CoOk G M C) (hdd : dep = dd + 1) (hf : mF M mi pc = some (.invokevirtual idx, x, y)) (hm : mC M mi = 0 ∧ mS M mi = 0) (h : st_ok G ρ S L st hp) (hr : sy_call M G W cs dep true x (y + 1) pc S = some l) : SOk G W M dd mi pc ρ L st hp l := by
  unfold sy_call at hr
  cases hc : (Nat.blt x 900 && Nat.ble (y + 1) S.2.2.1.length && Nat.ble (scat (S.2.2.1.drop (y + 1))) 8 && (cond true (match (S.2.2.1.take (y + 1)).reverse with
    | (2, a, _) :: _ => (match G.1 a with
      | some ct => Nat.beq ct.1.1 3 && Nat.beq ct.1.2.1 (mK M x)
      | none => false)
    | _ => false) true)) with
  | false => rw [hc] at hr; cases hr
  | true =>
    rw [hc] at hr
    simp only [cond_true] at hr
    rw [Bool.and_eq_true, Bool.and_eq_true, Bool.and_eq_true] at hc
    obtain ⟨⟨⟨c1, c2⟩, c3⟩, c4⟩ := hc
    have c1 : x < 900 := Nat.le_of_ble_eq_true c1
    have c2 := Nat.le_of_ble_eq_true c2
    have c3 := Nat.le_of_ble_eq_true c3
    simp only [cond_true] at c4
    obtain ⟨C, k1, k2, k3⟩ := tryCs_ok hr
    have hC := hcs C k1
    obtain ⟨t1, t2⟩ := ss_take (y + 1) h.2.2.1
    have hl := ss_len h.2.2.1
    -- the object
    split at c4
    · rename_i a c r hS
      split at c4
      · rename_i ct hct
        have ha := ss_rev t1
        rw [hS] at ha
        obtain ⟨v, rr, e, hv, -⟩ := ss_c ha
        have hv : v = .ref a := hv
        subst hv
        have hn : y < st.length := by omega
        have hd : st.drop y = st[y] :: st.drop (y + 1) := (List.drop_eq_getElem_cons hn)
        obtain ⟨d1, d2⟩ := take_succ_rev y st _ _ hd
        rw [d1] at e
        injection e with e e2
        have hh1 := (h.2.2.2.2.1 a ct hct).1
        rw [hd3 c4] at hh1
        obtain ⟨fs, g1, g2⟩ := hh_obj hh1
        refine tryC_ok hC hdd h (ss_rev t1) t2 k3 hf (fun r cf K hcf => ?_)
        rw [k2, d1, e] at hcf
        show (if x < 900 then ev_iv M cf mi x y st hp 0 0 (K (pc + 3) L) else _) = _
        rw [if_pos c1]
        unfold ev_iv
        have e1 : ev_pop y st = some ((st.take y).reverse, st.drop y) := by
          unfold ev_pop
          rw [if_pos (by omega)]
        rw [e1]
        show (ev_a (st.drop y)).bind _ = _
        rw [hd, e]
        show (ev_ob hp a (mK M x)).bind _ = _
        have e3 : ev_ob hp a (mK M x) = some fs := by
          unfold ev_ob
          rw [g1]
          show cond (Nat.beq (mK M x) (mK M x)) (some fs) none = _
          rw [Nat.beq_refl]
          rfl
        rw [e3]
        show (if x < 900 then ev_cf M cf mi x (.ref a :: (st.take y).reverse) (st.drop (y + 1)) hp 0 0 (K (pc + 3) L) else none) = _
        rw [if_pos c1]
        unfold ev_cf
        have z1 := hC.1
        have z2 := hC.2.1
        rw [k2] at z1 z2
        rw [if_pos (by rw [scat_ok t2]; exact c3), z1, z2, hm.1, hm.2, if_pos ⟨Nat.le_refl _, Nat.le_refl _⟩, hcf]
        rfl
      · cases c4
    · cases c4
end
