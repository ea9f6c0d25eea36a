/-! ===== the run of a contract; what is checked holds ===== -/
def isR : Instr → Bool
  | .ireturn => true
  | .lreturn => true
  | .areturn => true
  | .return_ => true
  | _ => false
def retV (R : Option FieldType) (i : Instr) (S : SS) : Option (List SV) :=
  match i with
  | .ireturn => match S.2.2.1 with
    | [(0, k, c)] => (match R with
      | some .int => some [(0, k, c)]
      | some .boolean => cond (decide (0 ≤ (eg S.1 k).1 + c) && decide ((eg S.1 k).2.1 + c ≤ 1)) (some [(0, k, c)]) none
      | _ => none)
    | _ => none
  | .lreturn => match S.2.2.1 with
    | [(1, k, c)] => (match R with
      | some .long => some [(1, k, c)]
      | _ => none)
    | _ => none
  | .areturn => match S.2.2.1 with
    | [(3, k, c)] => (match R with
      | some (.object s) => cond (decide (s = "LeftAnswers$Word")) (some [(3, k, c)]) none
      | _ => none)
    | _ => none
  | .return_ => match S.2.2.1 with
    | [] => (match R with
      | none => some []
      | _ => none)
    | _ => none
  | _ => none
def endM (C : CO) (S : SS) (ans : List SV) : Bool := (cO C).any (fun o => ent (S.1, [], ans, S.2.2.2) (sgm (S.1, [], ans, S.2.2.2) (cE C).length o.2.2.2) (o.2.1, [], o.1.toList, o.2.2.1))
def rkB (m : Nat) (lb : LB) : Bool := Nat.blt m lb.2.2.2.1.1.length && decide (-1099511627776 ≤ (eg lb.2.2.2.1.1 m).1) && decide ((eg lb.2.2.2.1.1 m).2.1 ≤ 1099511627776)
def goUp (S : SS) (m : Nat) (σ : List (Nat × Int)) : Bool := match σ[m]? with
  | some s => decide (1 ≤ dlo S.1 12 s.1 s.2 m 0)
  | none => false
def goDn (S : SS) (m : Nat) (σ : List (Nat × Int)) : Bool := match σ[m]? with
  | some s => decide (1 ≤ dlo S.1 12 m 0 s.1 s.2)
  | none => false
/-- may one go from (ph, kd, ix) to this place in the code -/
def lbG (m ph kd ix j : Nat) (S : SS) (lb : LB) : Bool := match lb.2.2.1 with
  | 0 => Nat.blt ph lb.2.1
  | 1 => Nat.blt ph lb.2.1 || (Nat.beq ph lb.2.1 && (Nat.beq kd 1 || Nat.beq kd 3) && goUp S m (sgm S m lb.2.2.2.2.1))
  | 2 => Nat.blt ph lb.2.1 || (Nat.beq ph lb.2.1 && (Nat.beq kd 2 || Nat.beq kd 4) && goDn S m (sgm S m lb.2.2.2.2.1))
  | 3 => Nat.beq ph lb.2.1 && (Nat.beq kd 1 || Nat.beq kd 3) && Nat.blt ix j
  | 4 => Nat.beq ph lb.2.1 && (Nat.beq kd 2 || Nat.beq kd 4) && Nat.blt ix j
  | _ => false
def lbT (C : CO) (ph kd ix : Nat) (S : SS) (pc j : Nat) (lb : LB) : Bool :=
  Nat.beq lb.1 pc && lbG (cE C).length ph kd ix j S lb && ent S (sgm S (cond (Nat.ble 3 lb.2.2.1) ((cE C).length + 1) (cE C).length) lb.2.2.2.2.1) lb.2.2.2.1
/-- one of these places (where in the code, its number) -/
def lbs (C : CO) (ph kd ix : Nat) (S : SS) (pc : Nat) : List (Nat × Nat) → Bool
  | [] => false
  | h :: l => (Nat.beq h.1 pc && (match (cL C)[h.2]? with
    | some lb => lbT C ph kd ix S pc h.2 lb
    | none => false)) || lbs C ph kd ix S pc l
theorem lbs_ok {C : CO} {ph kd ix : Nat} {S : SS} {pc : Nat} : ∀ {l : List (Nat × Nat)}, lbs C ph kd ix S pc l = true → ∃ n lb, (cL C)[n]? = some lb ∧ lbT C ph kd ix S pc n lb = true
  | [], h => by cases h
  | q :: l, h => by
    unfold lbs at h
    rw [Bool.or_eq_true, Bool.and_eq_true] at h
    rcases h with h | h
    · have h2 := h.2
      split at h2
      · rename_i lb hlb
        exact ⟨q.2, lb, hlb, h2⟩
      · cases h2
    · exact lbs_ok h
def sy_run (M : MT) (G : GT) (cs : List CO) (C : CO) (hs : List (Nat × Nat)) (ph kd ix : Nat) : Nat → Nat → SS → Bool
  | 0, _, _ => false
  | n + 1, pc, S => match mF M (cMi C) pc with
    | none => false
    | some (i, x, y) => cond (isR i) (match retV (mR M (cMi C)) i S with
      | some a => endM C S a
      | none => false)
      (match sy_step M G (cW C) cs (cDep C) (cMi C) pc i x y S with
      | none => false
      | some l => l.all (fun s => lbs C ph kd ix s.2 s.1 hs || sy_run M G cs C hs ph kd ix n s.1 s.2))
def sla : Nat → List SV → SL
  | _, [] => []
  | i, a :: A => (i, a) :: sla (cond (Nat.beq a.1 1) (i + 2) (i + 1)) A
def runL (M : MT) (G : GT) (cs : List CO) (C : CO) (F : Nat) : Nat → List LB → Bool
  | _, [] => true
  | j, lb :: l => cond (Nat.beq lb.2.2.1 0) true (rkB (cE C).length lb) && Nat.ble lb.2.1 1000000 && sy_run M G cs C lb.2.2.2.2.2 lb.2.1 lb.2.2.1 j F lb.1 lb.2.2.2.1 && runL M G cs C F (j + 1) l
theorem runL_ok {M : MT} {G : GT} {cs : List CO} {C : CO} {F : Nat} : ∀ {l : List LB} {j n : Nat} {lb : LB}, runL M G cs C F j l = true → l[n]? = some lb → (cond (Nat.beq lb.2.2.1 0) true (rkB (cE C).length lb)) = true ∧ lb.2.1 ≤ 1000000 ∧ sy_run M G cs C lb.2.2.2.2.2 lb.2.1 lb.2.2.1 (j + n) F lb.1 lb.2.2.2.1 = true
  | [], _, _, _, _, h => by cases h
  | lb1 :: l, j, n, lb, hr, h => by
    unfold runL at hr
    rw [Bool.and_eq_true, Bool.and_eq_true, Bool.and_eq_true] at hr
    cases n with
    | zero => cases h; exact ⟨hr.1.1.1, Nat.le_of_ble_eq_true hr.1.1.2, hr.1.2⟩
    | succ n =>
      have := runL_ok hr.2 (n := n) h
      rwa [show j + 1 + n = j + (n + 1) by omega] at this
/-- the ints from lo on, n of them, as states -/
def spS (a i : Nat) (S : SS) : Nat → Int → List SS
  | 0, _ => []
  | n + 1, v => (S.1, S.2.1, S.2.2.1, (a, i, (0, 0, v)) :: S.2.2.2) :: spS a i S n (v + 1)
/-- what lies at a place, too: 0 as a variable, 1 each value by itself, 2 each value of what is known there -/
def pdn : Nat → EN → Nat → EN
  | 0, E, _ => E
  | n + 1, E, k => cond (Nat.beq (eg E k).2.2.1 0) E (pdn n (er E (eg E k).2.2.1 (eg E (eg E k).2.2.1).1 ((eg E k).2.1 - (eg E k).2.2.2.1)) (eg E k).2.2.1)
theorem pdn_ok {ρ : List Int} : ∀ (n : Nat) (E : EN) (k : Nat) (z : Int), en_ok ρ E → ρ[k]? = some z → en_ok ρ (pdn n E k)
  | 0, E, _, _, h, _ => h
  | n + 1, E, k, z, h, hz => by
    unfold pdn
    cases hc : Nat.beq (eg E k).2.2.1 0 with
    | true => exact h
    | false =>
      obtain ⟨a1, a2, w, a3, a4⟩ := eg_ok h hz
      obtain ⟨b1, b2, -⟩ := eg_ok h a3
      exact pdn_ok n _ _ w (er_ok h a3 b1 (by omega)) a3
/-- a variable's values, n of them from v on, as states -/
def spW (k : Nat) (S : SS) : Nat → Int → List SS
  | 0, _ => []
  | n + 1, v => (pdn 3 (er S.1 k v v) k, S.2) :: spW k S n (v + 1)
theorem spW_mem {k : Nat} {S : SS} : ∀ {n j : Nat} {v : Int}, j < n → (pdn 3 (er S.1 k (v + (j : Int)) (v + (j : Int))) k, S.2) ∈ spW k S n v
  | 0, _, _, h => by omega
  | n + 1, 0, v, _ => by
    unfold spW
    rw [show v + ((0 : Nat) : Int) = v by omega]
    exact List.mem_cons_self
  | n + 1, j + 1, v, h => by
    unfold spW
    rw [show v + ((j + 1 : Nat) : Int) = v + 1 + (j : Int) by omega]
    exact List.mem_cons_of_mem _ (spW_mem (by omega))
def mat1 (G : GT) (q : Nat × Nat × Nat) (S : SS) : List SS := match spg S.2.2.2 q.1 q.2.1 with
  | some (0, k, c) => cond (Nat.beq q.2.2 2) (spW k S (ehi S.1 k - (eg S.1 k).1 + 1).toNat (eg S.1 k).1) [S]
  | some _ => [S]
  | none => match G.1 q.1 with
    | none => [S]
    | some ct => cond (Nat.blt q.2.1 ct.1.2.2) (match (lkp ct.2.2 q.2.1).getD ct.2.1 with
      | (0, lo, hi) => cond (Nat.beq q.2.2 1) (spS q.1 q.2.1 S (hi - lo + 1).toNat lo) [(ef S.1 lo hi, S.2.1, S.2.2.1, (q.1, q.2.1, (0, S.1.length, 0)) :: S.2.2.2)]
      | _ => [S]) [S]
def matS (G : GT) : List (Nat × Nat × Nat) → List SS → List SS
  | [], l => l
  | q :: qs, l => matS G qs (l.flatMap (mat1 G q))
theorem hq_some {hp : List AE} {a i s t n : Nat} (h : hh hp a = some (s, t, n)) (hi : i < n) : ∃ v, hq hp a i = some v := by
  unfold hh at h
  cases he : hp[a]? with
  | none => rw [he] at h; cases h
  | some e =>
    rw [he] at h
    rw [hq_at he]
    match e, h with
    | .inl (t, .inl l), h => cases h; exact ⟨_, by show (l[i]?).map _ = _; rw [List.getElem?_eq_getElem hi]; rfl⟩
    | .inl (t, .inr (.inl l)), h => cases h; exact ⟨_, by show (l[i]?).map _ = _; rw [List.getElem?_eq_getElem hi]; rfl⟩
    | .inl (t, .inr (.inr l)), h => cases h; exact ⟨_, by show (l[i]?).map _ = _; rw [List.getElem?_eq_getElem hi]; rfl⟩
    | .inr (c, fs), h => cases h; exact ⟨_, List.getElem?_eq_getElem hi⟩
theorem spS_mem {a i : Nat} {S : SS} : ∀ {n j : Nat} {v : Int}, j < n → (S.1, S.2.1, S.2.2.1, (a, i, (0, 0, v + (j : Int))) :: S.2.2.2) ∈ spS a i S n v
  | 0, _, _, h => by omega
  | n + 1, 0, v, _ => by
    unfold spS
    rw [show v + ((0 : Nat) : Int) = v by omega]
    exact List.mem_cons_self
  | n + 1, j + 1, v, h => by
    unfold spS
    rw [show v + ((j + 1 : Nat) : Int) = v + 1 + (j : Int) by omega]
    exact List.mem_cons_of_mem _ (spS_mem (by omega))
theorem mat1_ok {G : GT} {L : List (Nat × Value)} {st : List Value} {hp : List AE} {S : SS} {ρ : List Int} (q : Nat × Nat × Nat) (h : st_ok G ρ S L st hp) : ∃ S2 ∈ mat1 G q S, ∃ τ, st_ok G (ρ ++ τ) S2 L st hp := by
  have triv : ∃ S2 ∈ [S], ∃ τ, st_ok G (ρ ++ τ) S2 L st hp := ⟨S, List.mem_singleton.mpr rfl, [], by rw [List.append_nil]; exact h⟩
  unfold mat1
  split
  · rename_i k c hk
    cases hq2 : Nat.beq q.2.2 2 with
    | false => exact triv
    | true =>
      simp only [cond_true]
      obtain ⟨v, hv, x, z, e0, e1, e2⟩ := h.2.2.2.1 _ (spg_mem hk)
      obtain ⟨b1, b2, -⟩ := eg_ok h.1 e1
      have b3 := ehi_ok h.1 e1
      have hj : (z - (eg S.1 k).1).toNat < (ehi S.1 k - (eg S.1 k).1 + 1).toNat := by omega
      have hz : (eg S.1 k).1 + (((z - (eg S.1 k).1).toNat : Nat) : Int) = z := by omega
      refine ⟨_, spW_mem hj, [], ?_⟩
      rw [List.append_nil, hz]
      exact ⟨pdn_ok 3 _ _ z (er_ok h.1 e1 (Int.le_refl _) (Int.le_refl _)) e1, h.2.1, h.2.2.1, h.2.2.2.1, h.2.2.2.2⟩
  · exact triv
  · split
    · exact triv
    · rename_i ct hct
      cases hc : Nat.blt q.2.1 ct.1.2.2 with
      | false => exact triv
      | true =>
        simp only [cond_true]
        obtain ⟨v, hv⟩ := hq_some (hp := hp) (a := q.1) (i := q.2.1) (s := ct.1.1) (t := ct.1.2.1) (n := ct.1.2.2) (h.2.2.2.2.1 q.1 ct hct).1 (Nat.le_of_ble_eq_true hc)
        have hty := (h.2.2.2.2.1 q.1 ct hct).2 q.2.1 v hv
        have hft : ft_ok ((lkp ct.2.2 q.2.1).getD ct.2.1) v := by
          cases hk : lkp ct.2.2 q.2.1 with
          | none => exact hty.1
          | some ft => exact hty.2 ft hk
        split
        · rename_i lo hi hf
          rw [hf] at hft
          obtain ⟨x, e0, e1, e2⟩ := hft
          subst e0
          cases hs : Nat.beq q.2.2 1 with
          | true =>
            simp only [cond_true]
            have hj : (x.toInt - lo).toNat < (hi - lo + 1).toNat := by omega
            refine ⟨_, spS_mem hj, [], ?_⟩
            rw [List.append_nil]
            refine ⟨h.1, h.2.1, h.2.2.1, (fun p hp1 => ?_), h.2.2.2.2⟩
            rcases List.mem_cons.mp hp1 with rfl | hp1
            · exact ⟨.int x, hv, x, 0, rfl, h.1.2.1, by omega⟩
            · exact h.2.2.2.1 p hp1
          | false =>
            simp only [cond_false]
            have he := ef_ok h.1 e1 e2
            refine ⟨_, List.mem_singleton.mpr rfl, [x.toInt], he.1, sl_ext h.2.1, ss_ext h.2.2.1, (fun p hp1 => ?_), h.2.2.2.2⟩
            rcases List.mem_cons.mp hp1 with rfl | hp1
            · exact ⟨.int x, hv, x, x.toInt, rfl, he.2, by omega⟩
            · exact sp_ext h.2.2.2.1 p hp1
        · exact triv
theorem matS_ok {G : GT} {L : List (Nat × Value)} {st : List Value} {hp : List AE} : ∀ (qs : List (Nat × Nat × Nat)) (l : List SS) (ρ : List Int), (∃ S ∈ l, st_ok G ρ S L st hp) → ∃ S2 ∈ matS G qs l, ∃ τ, st_ok G (ρ ++ τ) S2 L st hp
  | [], l, ρ, ⟨S, h1, h2⟩ => ⟨S, h1, [], by rw [List.append_nil]; exact h2⟩
  | q :: qs, l, ρ, ⟨S, h1, h2⟩ => by
    unfold matS
    obtain ⟨S2, k1, τ, k2⟩ := mat1_ok q h2
    obtain ⟨S3, j1, τ2, j2⟩ := matS_ok qs (l.flatMap (mat1 G q)) (ρ ++ τ) ⟨S2, List.mem_flatMap.mpr ⟨S, h1, k1⟩, k2⟩
    exact ⟨S3, j1, τ ++ τ2, by rw [← List.append_assoc]; exact j2⟩
/-- the check -/
def chk (M : MT) (G : GT) (cs : List CO) (C : CO) (F : Nat) : Bool :=
  Nat.beq (mC M (cMi C)) 0 && Nat.beq (mS M (cMi C)) 0 && Nat.ble (scat (cA C)) (mL M (cMi C)) && Nat.ble (mL M (cMi C)) 40 && Nat.ble 1 (cDep C) && Nat.blt (cL C).length 524288
    && (matS G (cX C) [(cE C, sla 0 (cA C), [], cP C)]).all (fun S => sy_run M G cs C (cH C) 0 0 0 F 0 S)
theorem runL_app {M : MT} {G : GT} {cs : List CO} {C : CO} {F : Nat} : ∀ {l1 l2 : List LB} {j : Nat}, runL M G cs C F j l1 = true → runL M G cs C F (j + l1.length) l2 = true → runL M G cs C F j (l1 ++ l2) = true
  | [], _, j, _, h => by simpa using h
  | lb :: l1, l2, j, h1, h2 => by
    unfold runL at h1
    rw [Bool.and_eq_true] at h1
    show runL M G cs C F j (lb :: (l1 ++ l2)) = true
    unfold runL
    rw [Bool.and_eq_true]
    refine ⟨h1.1, runL_app h1.2 ?_⟩
    rw [List.length_cons] at h2
    rwa [show j + 1 + l1.length = j + (l1.length + 1) by omega]
/-- how far it is to the end -/
def rk (kd : Nat) (z : Int) : Nat := match kd with
  | 1 => (1099511627776 - z).toNat
  | 3 => (1099511627776 - z).toNat
  | 2 => (z + 1099511627776).toNat
  | 4 => (z + 1099511627776).toNat
  | _ => 0
def Done (G : GT) (M : MT) (C : CO) (dd : Nat) (ρ0 : List Int) (hp0 : List AE) (pc : Nat) (L : List (Nat × Value)) (st : List Value) (hp : List AE) : Prop := ∃ q, RT M dd (cMi C) pc L st hp q ∧ EndOk G C ρ0 hp0 q
section
variable {G : GT} {M : MT} {cs : List CO} {C : CO} {dd : Nat} {ρ0 : List Int} {hp0 : List AE}
theorem sImg_app (ρ : List Int) (σ1 σ2 : List (Nat × Int)) : sImg ρ (σ1 ++ σ2) = sImg ρ σ1 ++ sImg ρ σ2 := List.map_append
theorem sImg_idn {ρ : List Int} {m : Nat} (h : m ≤ ρ.length) : sImg ρ (idn m) = ρ.take m := by
  apply List.ext_getElem?
  intro k
  unfold sImg idn
  rw [List.map_map, List.getElem?_map]
  by_cases hk : k < m
  · rw [List.getElem?_range hk, List.getElem?_take_of_lt hk]
    show some (ρ.getD k 0 + 0) = _
    rw [List.getD_eq_getElem?_getD, List.getElem?_eq_getElem (by omega)]
    simp
  · rw [List.getElem?_eq_none (by rw [List.length_range]; omega), List.getElem?_eq_none (by rw [List.length_take]; omega)]
    rfl
theorem ret_ok {i : Instr} {S : SS} {ans : List SV} {ρ : List Int} {pc x y : Nat} {L : List (Nat × Value)} {st : List Value} {hp : List AE} (hm : mC M (cMi C) = 0 ∧ mS M (cMi C) = 0) (h : st_ok G ρ S L st hp) (hr : retV (mR M (cMi C)) i S = some ans) : ∃ v : Option Value, ss_ok ρ ans v.toList ∧ ∀ cf K, ev_s M cf (cMi C) pc i x y L st hp 0 0 K = some (v, hp) := by
  have hA := h.2.2.1
  have hend : ∀ v, ev_end M (cMi C) v [] hp 0 0 = some (v, hp) := fun v => by
    unfold ev_end
    rw [hm.1, hm.2]
    rfl
  unfold retV at hr
  split at hr
  · split at hr
    · rename_i k c hS
      rw [hS] at hA
      obtain ⟨v, r1, e, hv, hA1⟩ := ss_c hA
      have := ss_0 hA1
      subst this
      have hv0 := hv
      obtain ⟨b, z, e1, e2, e3⟩ := hv
      subst e1 e
      split at hr
      · rename_i hR
        cases hr
        refine ⟨some (.int b), ⟨hv0, trivial⟩, fun cf K => ?_⟩
        show (if ev_rt (mR M (cMi C)) b = true then ev_end M (cMi C) (some (.int b)) [] hp 0 0 else none) = _
        rw [hR, if_pos (show ev_rt (some FieldType.int) b = true from rfl), hend]
      · rename_i hR
        cases hc : (decide (0 ≤ (eg S.1 k).1 + c) && decide ((eg S.1 k).2.1 + c ≤ 1)) with
        | false => rw [hc] at hr; cases hr
        | true =>
          rw [hc] at hr
          cases hr
          rw [Bool.and_eq_true] at hc
          have q1 := of_decide_eq_true hc.1
          have q2 := of_decide_eq_true hc.2
          obtain ⟨a1, a2, -⟩ := eg_ok h.1 e2
          refine ⟨some (.int b), ⟨hv0, trivial⟩, fun cf K => ?_⟩
          show (if ev_rt (mR M (cMi C)) b = true then ev_end M (cMi C) (some (.int b)) [] hp 0 0 else none) = _
          rw [hR, if_pos (by rcases i01 (x := b) (by omega) (by omega) with rfl | rfl <;> rfl), hend]
      · cases hr
    · cases hr
  · split at hr
    · rename_i k c hS
      rw [hS] at hA
      obtain ⟨v, r1, e, hv, hA1⟩ := ss_c hA
      have := ss_0 hA1
      subst this
      have hv0 := hv
      obtain ⟨b, z, e1, e2, e3⟩ := hv
      subst e1 e
      split at hr
      · rename_i hR
        cases hr
        refine ⟨some (.long b), ⟨hv0, trivial⟩, fun cf K => ?_⟩
        show (if mR M (cMi C) = some .long then ev_end M (cMi C) (some (.long b)) [] hp 0 0 else none) = _
        rw [if_pos hR, hend]
      · cases hr
    · cases hr
  · split at hr
    · rename_i k c hS
      rw [hS] at hA
      obtain ⟨v, r1, e, hv, hA1⟩ := ss_c hA
      have := ss_0 hA1
      subst this
      have hv0 := hv
      obtain ⟨b, z, e1, e2, e3⟩ := hv
      subst e1 e
      split at hr
      · rename_i s hR
        cases hc : decide (s = "LeftAnswers$Word") with
        | false => rw [hc] at hr; cases hr
        | true =>
          rw [hc] at hr
          cases hr
          have hs := of_decide_eq_true hc
          subst hs
          refine ⟨some (.retAddr b), ⟨hv0, trivial⟩, fun cf K => ?_⟩
          show (if mR M (cMi C) = some (.object "LeftAnswers$Word") then ev_end M (cMi C) (some (.retAddr b)) [] hp 0 0 else none) = _
          rw [if_pos hR, hend]
      · cases hr
    · cases hr
  · split at hr
    · rename_i hS
      rw [hS] at hA
      have := ss_0 hA
      subst this
      split at hr
      · rename_i hR
        cases hr
        refine ⟨none, trivial, fun cf K => ?_⟩
        show (if mR M (cMi C) = none then ev_end M (cMi C) none [] hp 0 0 else none) = _
        rw [if_pos hR, hend]
      · cases hr
    · cases hr
  · cases hr
theorem pref {ρ0 τ : List Int} {m : Nat} (hm : ρ0.length = m) : (ρ0 ++ τ).take m = ρ0 := by rw [← hm]; simp
theorem end_ok {S : SS} {ans : List SV} {ρ : List Int} {v : Option Value} {L : List (Nat × Value)} {st : List Value} {hp : List AE} (h0 : ρ0.length = (cE C).length) (hρ : ∃ τ, ρ = ρ0 ++ τ) (h : st_ok G ρ S L st hp) (ha : ss_ok ρ ans v.toList) (hg : Agr (cW C) hp0 hp) (he : endM C S ans = true) : EndOk G C ρ0 hp0 (v, hp) := by
  unfold endM at he
  obtain ⟨o, ho, he⟩ := List.any_eq_true.mp he
  obtain ⟨him, e1, -, e3, e4, e5⟩ := ent_ok (G := G) (S := (S.1, [], ans, S.2.2.2)) (T := (o.2.1, [], o.1.toList, o.2.2.1)) (L := []) (st := v.toList) (hp := hp) ⟨h.1, (fun q hq => by cases hq), ha, h.2.2.2.1, h.2.2.2.2⟩ he
  obtain ⟨τ, rfl⟩ := hρ
  have hs : sImg (ρ0 ++ τ) (sgm (S.1, [], ans, S.2.2.2) (cE C).length o.2.2.2) = ρ0 ++ sImg (ρ0 ++ τ) (o.2.2.2.map (sg (S.1, [], ans, S.2.2.2))) := by
    unfold sgm
    rw [sImg_app, sImg_idn (by rw [List.length_append, h0]; omega), pref h0]
  rw [hs] at e1 e3 e4
  refine ⟨hg, h.2.2.2.2, o, ho, _, e1, e4, ?_⟩
  match o.1, v, e3 with
  | none, none, _ => trivial
  | some a, some w, e3 => exact e3.1
  | none, some w, e3 => exact e3.elim
  | some a, none, e3 => exact e3.elim
theorem run_okQ {Q : ev_R → Prop} (hQ : ∀ q, EndOk G C ρ0 hp0 q → Q q) {hs : List (Nat × Nat)} {ph kd ix : Nat} {zs : Int} {ρs : List Int} (hcs : ∀ C ∈ cs, CoOk G M C) (hdd : cDep C = dd + 1) (hm : mC M (cMi C) = 0 ∧ mS M (cMi C) = 0) (h0 : ρ0.length = (cE C).length) (hs0 : ∃ τ, ρs = ρ0 ++ τ) (hzs : kd ≠ 0 → ρs[(cE C).length]? = some zs)
    (IH : ∀ (n : Nat) (lb : LB), (cL C)[n]? = some lb → ∀ ρ L st hp, st_ok G ρ lb.2.2.2.1 L st hp → (∃ τ, ρ = ρ0 ++ τ) → Agr (cW C) hp0 hp → (∀ z, (lb.2.2.1 ≠ 0 → ρ[(cE C).length]? = some z) → (ph < lb.2.1 ∨ (ph = lb.2.1 ∧ kd ≠ 0 ∧ lb.2.2.1 ≠ 0 ∧ rk lb.2.2.1 z * 1048576 + (524288 - n) < rk kd zs * 1048576 + (524288 - ix)))) → ∃ q, RT M dd (cMi C) lb.1 L st hp q ∧ Q q)
    (hix : ix < 524288) (hLl : (cL C).length < 524288) (hrk : ∀ (n : Nat) (lb : LB), (cL C)[n]? = some lb → lb.2.2.1 ≠ 0 → rkB (cE C).length lb = true) (hzb : kd ≠ 0 → -1099511627776 ≤ zs ∧ zs ≤ 1099511627776) :
    ∀ (n pc : Nat) (S : SS) (ρ : List Int) (L : List (Nat × Value)) (st : List Value) (hp : List AE), sy_run M G cs C hs ph kd ix n pc S = true → st_ok G ρ S L st hp → (∃ τ, ρ = ρs ++ τ) → Agr (cW C) hp0 hp → ∃ q, RT M dd (cMi C) pc L st hp q ∧ Q q := by
  intro n
  induction n with
  | zero => intro pc S ρ L st hp h; cases h
  | succ n ih =>
    intro pc S ρ L st hp hr h hρ hg
    have hρ0 : ∃ τ, ρ = ρ0 ++ τ := by
      obtain ⟨τ1, e1⟩ := hs0
      obtain ⟨τ2, e2⟩ := hρ
      exact ⟨τ1 ++ τ2, by rw [e2, e1, List.append_assoc]⟩
    unfold sy_run at hr
    split at hr
    · cases hr
    · rename_i i x y hf
      cases hi : isR i with
      | true =>
        rw [hi] at hr
        simp only [cond_true] at hr
        split at hr
        · rename_i a ha
          obtain ⟨v, h1, h2⟩ := ret_ok (pc := pc) (x := x) (y := y) hm h ha
          exact ⟨(v, hp), RT_ret hf h2, hQ _ (end_ok h0 hρ0 h h1 hg hr)⟩
        · cases hr
      | false =>
        rw [hi] at hr
        simp only [cond_false] at hr
        split at hr
        · cases hr
        · rename_i l hl
          obtain ⟨s, hsm, τ, L2, st2, hp2, k1, k2, k3⟩ := sy_step_ok hcs hdd hm hf h hl
          have hall := List.all_eq_true.mp hr s hsm
          have hρ2 : ∃ τ2, ρ ++ τ = ρs ++ τ2 := by
            obtain ⟨τ1, e1⟩ := hρ
            exact ⟨τ1 ++ τ, by rw [e1, List.append_assoc]⟩
          have hg2 : Agr (cW C) hp0 hp2 := Agr.tr hg k2
          rw [Bool.or_eq_true] at hall
          suffices hd : ∃ q, RT M dd (cMi C) s.1 L2 st2 hp2 q ∧ Q q by
            obtain ⟨q, q1, q2⟩ := hd
            exact ⟨q, k3 q q1, q2⟩
          rcases hall with hall | hall
          · obtain ⟨j, lb, j1, j2⟩ := lbs_ok hall
            unfold lbT at j2
            rw [Bool.and_eq_true, Bool.and_eq_true] at j2
            obtain ⟨⟨j2, j3⟩, j4⟩ := j2
            have epc := Nat.eq_of_beq_eq_true j2
            obtain ⟨him, e1⟩ := ent_ok k1 j4
            have hlen : (cE C).length ≤ (ρ ++ τ).length := by
              obtain ⟨τ1, e⟩ := hρ0
              rw [e, List.length_append, List.length_append, h0]
              omega
            have hpre : ∃ τ3, sImg (ρ ++ τ) (sgm s.2 (cond (Nat.ble 3 lb.2.2.1) ((cE C).length + 1) (cE C).length) lb.2.2.2.2.1) = ρ0 ++ τ3 := by
              obtain ⟨τ1, e⟩ := hρ0
              have hid : ∃ t, sImg (ρ ++ τ) (idn (cond (Nat.ble 3 lb.2.2.1) ((cE C).length + 1) (cE C).length)) = ρ0 ++ t := by
                have hbase : sImg (ρ ++ τ) (idn (cE C).length) = ρ0 := by
                  rw [sImg_idn hlen, e, List.append_assoc, pref h0]
                cases Nat.ble 3 lb.2.2.1 with
                | false => exact ⟨[], by rw [List.append_nil]; exact hbase⟩
                | true =>
                  refine ⟨sImg (ρ ++ τ) [((cE C).length, 0)], ?_⟩
                  show sImg (ρ ++ τ) (idn ((cE C).length + 1)) = _
                  have : idn ((cE C).length + 1) = idn (cE C).length ++ [((cE C).length, 0)] := by
                    unfold idn
                    rw [List.range_succ, List.map_append]
                    rfl
                  rw [this, sImg_app, hbase]
              obtain ⟨t, ht⟩ := hid
              refine ⟨t ++ sImg (ρ ++ τ) (lb.2.2.2.2.1.map (sg s.2)), ?_⟩
              unfold sgm
              rw [sImg_app, ht, List.append_assoc]
            rw [← epc]
            refine IH j lb j1 _ L2 st2 hp2 e1 hpre hg2 (fun z hz => ?_)
            have hzρ : kd ≠ 0 → (ρ ++ τ)[(cE C).length]? = some zs := fun hk => by
              obtain ⟨τ1, e⟩ := hρ
              rw [e]
              exact ga (ga (hzs hk))
            have hj : j < (cL C).length := (List.getElem?_eq_some_iff.mp j1).1
            have hσ : ∀ (k : Nat) (s' : Nat × Int), (sgm s.2 (cond (Nat.ble 3 lb.2.2.1) ((cE C).length + 1) (cE C).length) lb.2.2.2.2.1)[k]? = some s' → ∃ w, (ρ ++ τ)[s'.1]? = some w ∧ (sImg (ρ ++ τ) (sgm s.2 (cond (Nat.ble 3 lb.2.2.1) ((cE C).length + 1) (cE C).length) lb.2.2.2.2.1))[k]? = some (w + s'.2) := him.2
            unfold lbG at j3
            split at j3
            · exact Or.inl (Nat.le_of_ble_eq_true j3)
            · rename_i hk1
              rw [Bool.or_eq_true] at j3
              rcases j3 with j3 | j3
              · exact Or.inl (Nat.le_of_ble_eq_true j3)
              · rw [Bool.and_eq_true, Bool.and_eq_true, Bool.or_eq_true] at j3
                obtain ⟨⟨g1, g2⟩, g3⟩ := j3
                have hkd : kd = 1 ∨ kd = 3 := g2.imp Nat.eq_of_beq_eq_true Nat.eq_of_beq_eq_true
                have hkd0 : kd ≠ 0 := by omega
                refine Or.inr ⟨Nat.eq_of_beq_eq_true g1, hkd0, by omega, ?_⟩
                have hb := hrk j lb j1 (by omega)
                rw [hk1] at hz hσ
                have hz := hz (by omega)
                unfold goUp at g3
                split at g3
                · rename_i s' hs'
                  obtain ⟨w, w1, w2⟩ := hσ _ s' hs'
                  have g3 := of_decide_eq_true g3
                  have hd := dlo_ok k1.1 12 s'.1 s'.2 (cE C).length 0 w zs w1 (hzρ hkd0)
                  have hz2 : z = w + s'.2 := by
                    have h5 : (sImg (ρ ++ τ) (sgm s.2 (cE C).length lb.2.2.2.2.1))[(cE C).length]? = some z := hz
                    have h6 : (sImg (ρ ++ τ) (sgm s.2 (cE C).length lb.2.2.2.2.1))[(cE C).length]? = some (w + s'.2) := w2
                    rw [h5] at h6
                    injection h6
                  unfold rkB at hb
                  rw [Bool.and_eq_true, Bool.and_eq_true] at hb
                  have b1 := of_decide_eq_true hb.1.2
                  have b2 := of_decide_eq_true hb.2
                  have hzin := eg_ok e1.1 (k := (cE C).length) (z := z) (by rw [hk1] ; exact hz)
                  obtain ⟨y1, y2, -⟩ := hzin
                  obtain ⟨x1, x2⟩ := hzb hkd0
                  have er1 : rk lb.2.2.1 z = (1099511627776 - z).toNat := by rw [hk1]; rfl
                  have er2 : rk kd zs = (1099511627776 - zs).toNat := by rcases hkd with e | e <;> rw [e] <;> rfl
                  rw [er1, er2]
                  omega
                · cases g3
            · rename_i hk1
              rw [Bool.or_eq_true] at j3
              rcases j3 with j3 | j3
              · exact Or.inl (Nat.le_of_ble_eq_true j3)
              · rw [Bool.and_eq_true, Bool.and_eq_true, Bool.or_eq_true] at j3
                obtain ⟨⟨g1, g2⟩, g3⟩ := j3
                have hkd : kd = 2 ∨ kd = 4 := g2.imp Nat.eq_of_beq_eq_true Nat.eq_of_beq_eq_true
                have hkd0 : kd ≠ 0 := by omega
                refine Or.inr ⟨Nat.eq_of_beq_eq_true g1, hkd0, by omega, ?_⟩
                have hb := hrk j lb j1 (by omega)
                rw [hk1] at hz hσ
                have hz := hz (by omega)
                unfold goDn at g3
                split at g3
                · rename_i s' hs'
                  obtain ⟨w, w1, w2⟩ := hσ _ s' hs'
                  have g3 := of_decide_eq_true g3
                  have hd := dlo_ok k1.1 12 (cE C).length 0 s'.1 s'.2 zs w (hzρ hkd0) w1
                  have hz2 : z = w + s'.2 := by
                    have h5 : (sImg (ρ ++ τ) (sgm s.2 (cE C).length lb.2.2.2.2.1))[(cE C).length]? = some z := hz
                    have h6 : (sImg (ρ ++ τ) (sgm s.2 (cE C).length lb.2.2.2.2.1))[(cE C).length]? = some (w + s'.2) := w2
                    rw [h5] at h6
                    injection h6
                  unfold rkB at hb
                  rw [Bool.and_eq_true, Bool.and_eq_true] at hb
                  have b1 := of_decide_eq_true hb.1.2
                  have b2 := of_decide_eq_true hb.2
                  have hzin := eg_ok e1.1 (k := (cE C).length) (z := z) (by rw [hk1] ; exact hz)
                  obtain ⟨y1, y2, -⟩ := hzin
                  obtain ⟨x1, x2⟩ := hzb hkd0
                  have er1 : rk lb.2.2.1 z = (z + 1099511627776).toNat := by rw [hk1]; rfl
                  have er2 : rk kd zs = (zs + 1099511627776).toNat := by rcases hkd with e | e <;> rw [e] <;> rfl
                  rw [er1, er2]
                  omega
                · cases g3
            · rename_i hk1
              rw [Bool.and_eq_true, Bool.and_eq_true, Bool.or_eq_true] at j3
              obtain ⟨⟨g1, g2⟩, g3⟩ := j3
              have hkd : kd = 1 ∨ kd = 3 := g2.imp Nat.eq_of_beq_eq_true Nat.eq_of_beq_eq_true
              have hkd0 : kd ≠ 0 := by omega
              refine Or.inr ⟨Nat.eq_of_beq_eq_true g1, hkd0, by omega, ?_⟩
              have hz := hz (by omega)
              rw [hk1] at hz hσ
              have hid : (sgm s.2 ((cE C).length + 1) lb.2.2.2.2.1)[(cE C).length]? = some ((cE C).length, 0) := by
                unfold sgm idn
                rw [List.getElem?_append_left (by rw [List.length_map, List.length_range]; omega), List.getElem?_map, List.getElem?_range (by omega)]
                rfl
              obtain ⟨w, w1, w2⟩ := hσ _ _ hid
              have w1 : (ρ ++ τ)[(cE C).length]? = some w := w1
              rw [hzρ hkd0] at w1
              cases w1
              have hz2 : z = zs := by
                have h5 : (sImg (ρ ++ τ) (sgm s.2 ((cE C).length + 1) lb.2.2.2.2.1))[(cE C).length]? = some z := hz
                have h6 : (sImg (ρ ++ τ) (sgm s.2 ((cE C).length + 1) lb.2.2.2.2.1))[(cE C).length]? = some (zs + 0) := w2
                rw [h5] at h6
                injection h6 with h6
                omega
              have er1 : rk lb.2.2.1 z = (1099511627776 - z).toNat := by rw [hk1]; rfl
              have er2 : rk kd zs = (1099511627776 - zs).toNat := by rcases hkd with e | e <;> rw [e] <;> rfl
              have g3 : ix < j := Nat.le_of_ble_eq_true g3
              rw [er1, er2, hz2]
              omega
            · rename_i hk1
              rw [Bool.and_eq_true, Bool.and_eq_true, Bool.or_eq_true] at j3
              obtain ⟨⟨g1, g2⟩, g3⟩ := j3
              have hkd : kd = 2 ∨ kd = 4 := g2.imp Nat.eq_of_beq_eq_true Nat.eq_of_beq_eq_true
              have hkd0 : kd ≠ 0 := by omega
              refine Or.inr ⟨Nat.eq_of_beq_eq_true g1, hkd0, by omega, ?_⟩
              have hz := hz (by omega)
              rw [hk1] at hz hσ
              have hid : (sgm s.2 ((cE C).length + 1) lb.2.2.2.2.1)[(cE C).length]? = some ((cE C).length, 0) := by
                unfold sgm idn
                rw [List.getElem?_append_left (by rw [List.length_map, List.length_range]; omega), List.getElem?_map, List.getElem?_range (by omega)]
                rfl
              obtain ⟨w, w1, w2⟩ := hσ _ _ hid
              have w1 : (ρ ++ τ)[(cE C).length]? = some w := w1
              rw [hzρ hkd0] at w1
              cases w1
              have hz2 : z = zs := by
                have h5 : (sImg (ρ ++ τ) (sgm s.2 ((cE C).length + 1) lb.2.2.2.2.1))[(cE C).length]? = some z := hz
                have h6 : (sImg (ρ ++ τ) (sgm s.2 ((cE C).length + 1) lb.2.2.2.2.1))[(cE C).length]? = some (zs + 0) := w2
                rw [h5] at h6
                injection h6 with h6
                omega
              have er1 : rk lb.2.2.1 z = (z + 1099511627776).toNat := by rw [hk1]; rfl
              have er2 : rk kd zs = (zs + 1099511627776).toNat := by rcases hkd with e | e <;> rw [e] <;> rfl
              have g3 : ix < j := Nat.le_of_ble_eq_true g3
              rw [er1, er2, hz2]
              omega
            · cases j3
          · exact ih _ _ _ _ _ _ hall k1 hρ2 hg2
theorem run_ok {hs : List (Nat × Nat)} {ph kd ix : Nat} {zs : Int} {ρs : List Int} (hcs : ∀ C ∈ cs, CoOk G M C) (hdd : cDep C = dd + 1) (hm : mC M (cMi C) = 0 ∧ mS M (cMi C) = 0) (h0 : ρ0.length = (cE C).length) (hs0 : ∃ τ, ρs = ρ0 ++ τ) (hzs : kd ≠ 0 → ρs[(cE C).length]? = some zs)
    (IH : ∀ (n : Nat) (lb : LB), (cL C)[n]? = some lb → ∀ ρ L st hp, st_ok G ρ lb.2.2.2.1 L st hp → (∃ τ, ρ = ρ0 ++ τ) → Agr (cW C) hp0 hp → (∀ z, (lb.2.2.1 ≠ 0 → ρ[(cE C).length]? = some z) → (ph < lb.2.1 ∨ (ph = lb.2.1 ∧ kd ≠ 0 ∧ lb.2.2.1 ≠ 0 ∧ rk lb.2.2.1 z * 1048576 + (524288 - n) < rk kd zs * 1048576 + (524288 - ix)))) → Done G M C dd ρ0 hp0 lb.1 L st hp)
    (hix : ix < 524288) (hLl : (cL C).length < 524288) (hrk : ∀ (n : Nat) (lb : LB), (cL C)[n]? = some lb → lb.2.2.1 ≠ 0 → rkB (cE C).length lb = true) (hzb : kd ≠ 0 → -1099511627776 ≤ zs ∧ zs ≤ 1099511627776) :
    ∀ (n pc : Nat) (S : SS) (ρ : List Int) (L : List (Nat × Value)) (st : List Value) (hp : List AE), sy_run M G cs C hs ph kd ix n pc S = true → st_ok G ρ S L st hp → (∃ τ, ρ = ρs ++ τ) → Agr (cW C) hp0 hp → Done G M C dd ρ0 hp0 pc L st hp :=
  run_okQ (Q := EndOk G C ρ0 hp0) (fun _ h => h) hcs hdd hm h0 hs0 hzs IH hix hLl hrk hzb
end
