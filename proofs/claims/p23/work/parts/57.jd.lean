/-! ===== switches; what the JDK does ===== -/
section
variable {G : GT} {W : WR} {M : MT} {dd mi pc x y : Nat} {ρ : List Int} {S : SS} {L : List (Nat × Value)} {st : List Value} {hp : List AE} {l : List (Nat × SS)} {i : Instr}
def tsG (pc : Nat) (S : SS) (k : Nat) (c : Int) (r : List SV) : List Int → Int → Option (List (Nat × SS))
  | [], _ => some []
  | o :: os, v => match cmpR 0 S.1 k c 0 v with
    | none => tsG pc S k c r os (v + 1)
    | some E => (ev_tg pc o).bind fun t => (tsG pc S k c r os (v + 1)).bind fun l2 => some ((t, (E, S.2.1, r, S.2.2.2)) :: l2)
theorem tsG_ok {k : Nat} {c z : Int} {A : List SV} (hE : en_ok ρ S.1) (hz : ρ[k]? = some z) : ∀ (os : List Int) (v : Int) (l : List (Nat × SS)) (j : Nat) (o : Int), tsG pc S k c A os v = some l → os[j]? = some o → z + c = v + (j : Int) → ∃ E t, ev_tg pc o = some t ∧ (t, (E, S.2.1, A, S.2.2.2)) ∈ l ∧ en_ok ρ E := by
  intro os
  induction os with
  | nil => intro v l j o _ h2; cases h2
  | cons o1 os ih =>
    intro v l j o h1 h2 h3
    unfold tsG at h1
    split at h1
    · rename_i hn
      cases j with
      | zero =>
        obtain ⟨E2, e1, -⟩ := cmpR_ok (c := 0) (c1 := c) (c2 := v) hE hz hE.2.1 (show z + c = 0 + v by omega)
        rw [e1] at hn
        cases hn
      | succ j => exact ih (v + 1) l j o h1 h2 (by omega)
    · rename_i E hE2
      cases h4 : ev_tg pc o1 with
      | none => rw [h4] at h1; cases h1
      | some t =>
        rw [h4] at h1
        cases h5 : tsG pc S k c A os (v + 1) with
        | none => rw [h5] at h1; cases h1
        | some l2 =>
          rw [h5] at h1
          cases h1
          cases j with
          | zero =>
            cases h2
            obtain ⟨E2, e1, e2⟩ := cmpR_ok (c := 0) (c1 := c) (c2 := v) hE hz hE.2.1 (show z + c = 0 + v by omega)
            rw [e1] at hE2
            cases hE2
            exact ⟨E, t, h4, List.mem_cons_self, e2⟩
          | succ j =>
            obtain ⟨E2, t2, f1, f2, f3⟩ := ih (v + 1) l2 j o h5 h2 (by omega)
            exact ⟨E2, t2, f1, List.mem_cons_of_mem _ f2, f3⟩
def sy_ts (dflt lo hi : Int) (offs : Array Int) (pc : Nat) (S : SS) : Option (List (Nat × SS)) := match S.2.2.1 with
  | (0, k, c) :: r => cond (decide ((offs.toList.length : Int) = hi - lo + 1))
      ((tsG pc S k c r offs.toList lo).bind fun l1 => cond (decide (lo ≤ (eg S.1 k).1 + c) && decide ((eg S.1 k).2.1 + c ≤ hi)) (some l1) ((ev_tg pc dflt).bind fun t => some ((t, (S.1, S.2.1, r, S.2.2.2)) :: l1))) none
  | _ => none
theorem sy_ts_ok {dflt lo hi : Int} {offs : Array Int} (hf : mF M mi pc = some (.tableswitch dflt lo hi offs, x, y)) (h : st_ok G ρ S L st hp) (hr : sy_ts dflt lo hi offs pc S = some l) : SOk G W M dd mi pc ρ L st hp l := by
  unfold sy_ts at hr
  split at hr
  · rename_i k c r hS
    cases hc : decide ((offs.toList.length : Int) = hi - lo + 1) with
    | false => rw [hc] at hr; cases hr
    | true =>
      rw [hc] at hr
      simp only [cond_true] at hr
      have hc := of_decide_eq_true hc
      cases h1 : tsG pc S k c r offs.toList lo with
      | none => rw [h1] at hr; cases hr
      | some l1 =>
        rw [h1] at hr
        have hr : cond (decide (lo ≤ (eg S.1 k).1 + c) && decide ((eg S.1 k).2.1 + c ≤ hi)) (some l1) ((ev_tg pc dflt).bind fun t => some ((t, (S.1, S.2.1, r, S.2.2.2)) :: l1)) = some l := hr
        have hA := h.2.2.1
        rw [hS] at hA
        obtain ⟨v, r1, e, hv, hA1⟩ := ss_c hA
        obtain ⟨b, z, e1, e2, e3⟩ := hv
        subst e1 e
        obtain ⟨a1, a2, -⟩ := eg_ok h.1 e2
        by_cases hd : b.toInt < lo ∨ hi < b.toInt
        · cases hq : (decide (lo ≤ (eg S.1 k).1 + c) && decide ((eg S.1 k).2.1 + c ≤ hi)) with
          | true =>
            rw [Bool.and_eq_true] at hq
            have p1 := of_decide_eq_true hq.1
            have p2 := of_decide_eq_true hq.2
            omega
          | false =>
            rw [hq] at hr
            simp only [cond_false] at hr
            cases h2 : ev_tg pc dflt with
            | none => rw [h2] at hr; cases hr
            | some t =>
              rw [h2] at hr
              cases hr
              refine so_mk hf List.mem_cons_self (τ := []) (L2 := L) (st2 := r1) (hp2 := hp) ?_ Agr.rf (fun cf K => ?_)
              · rw [List.append_nil]
                exact ⟨h.1, h.2.1, hA1, h.2.2.2⟩
              · show (if b.toInt < lo ∨ hi < b.toInt then (ev_tg pc dflt).bind (fun t => K t L r1 hp 0 0) else _) = _
                rw [if_pos hd, h2]
                rfl
        · have hj : (b.toInt - lo).toNat < offs.toList.length := by omega
          obtain ⟨E, t, f1, f2, f3⟩ := tsG_ok h.1 e2 offs.toList lo l1 (b.toInt - lo).toNat _ h1 (List.getElem?_eq_getElem hj) (by omega)
          have hl : ∀ s ∈ l1, s ∈ l := by
            intro s hs
            cases hq : (decide (lo ≤ (eg S.1 k).1 + c) && decide ((eg S.1 k).2.1 + c ≤ hi)) with
            | true => rw [hq] at hr; cases hr; exact hs
            | false =>
              rw [hq] at hr
              simp only [cond_false] at hr
              cases h2 : ev_tg pc dflt with
              | none => rw [h2] at hr; cases hr
              | some t => rw [h2] at hr; cases hr; exact List.mem_cons_of_mem _ hs
          refine so_mk hf (hl _ f2) (τ := []) (L2 := L) (st2 := r1) (hp2 := hp) ?_ Agr.rf (fun cf K => ?_)
          · rw [List.append_nil]
            exact ⟨f3, h.2.1, hA1, h.2.2.2⟩
          · show (if b.toInt < lo ∨ hi < b.toInt then _ else (offs[(b.toInt - lo).toNat]?).bind (fun off => (ev_tg pc off).bind (fun t => K t L r1 hp 0 0))) = _
            rw [if_neg hd, ← Array.getElem?_toList, List.getElem?_eq_getElem hj]
            show (ev_tg pc _).bind _ = _
            rw [f1]
            rfl
  · cases hr
def lsG (pc : Nat) (S : SS) (k : Nat) (c : Int) (r : List SV) (dflt : Int) : List (Int × Int) → EN → Option (List (Nat × SS))
  | [], E => (ev_tg pc dflt).bind fun t => some [(t, (E, S.2.1, r, S.2.2.2))]
  | q :: os, E =>
    (match cmpR 0 E k c 0 q.1 with
    | none => some []
    | some E1 => (ev_tg pc q.2).bind fun t => some [(t, (E1, S.2.1, r, S.2.2.2))]).bind fun l1 =>
    (match cmpR 1 E k c 0 q.1 with
    | none => some []
    | some E2 => lsG pc S k c r dflt os E2).bind fun l2 => some (l1 ++ l2)
theorem lsG_ok {k : Nat} {c z : Int} {A : List SV} {dflt : Int} (hz : ρ[k]? = some z) : ∀ (os : List (Int × Int)) (E : EN) (l : List (Nat × SS)), en_ok ρ E → lsG pc S k c A dflt os E = some l → ∃ E2 t, ev_tg pc (Op.lookupswitch.offset os dflt (z + c)) = some t ∧ (t, (E2, S.2.1, A, S.2.2.2)) ∈ l ∧ en_ok ρ E2 := by
  intro os
  induction os with
  | nil =>
    intro E l hE h1
    unfold lsG at h1
    cases h4 : ev_tg pc dflt with
    | none => rw [h4] at h1; cases h1
    | some t => rw [h4] at h1; cases h1; exact ⟨E, t, h4, List.mem_singleton.mpr rfl, hE⟩
  | cons q os ih =>
    intro E l hE h1
    unfold lsG at h1
    cases ha : (match cmpR 0 E k c 0 q.1 with
      | none => some []
      | some E1 => (ev_tg pc q.2).bind fun t => some [(t, (E1, S.2.1, A, S.2.2.2))]) with
    | none => rw [ha] at h1; cases h1
    | some l1 =>
      rw [ha] at h1
      cases hb : (match cmpR 1 E k c 0 q.1 with
        | none => some []
        | some E2 => lsG pc S k c A dflt os E2) with
      | none => rw [show (some l1 : Option (List (Nat × SS))).bind _ = Option.bind _ _ from rfl, hb] at h1; cases h1
      | some l2 =>
        rw [show (some l1 : Option (List (Nat × SS))).bind _ = Option.bind _ _ from rfl, hb] at h1
        cases h1
        obtain ⟨qa, qo⟩ := q
        by_cases e : qa = z + c
        · obtain ⟨E2, e1, e2⟩ := cmpR_ok (c := 0) (c1 := c) (c2 := qa) hE hz hE.2.1 (show z + c = 0 + qa by omega)
          rw [e1] at ha
          have ha : (ev_tg pc qo).bind (fun t => some [(t, (E2, S.2.1, A, S.2.2.2))]) = some l1 := ha
          cases h4 : ev_tg pc qo with
          | none => rw [h4] at ha; cases ha
          | some t =>
            rw [h4] at ha
            cases ha
            refine ⟨E2, t, ?_, List.mem_append_left _ (List.mem_singleton.mpr rfl), e2⟩
            rw [Op.lookupswitch.offset_cons, if_pos e]
            exact h4
        · obtain ⟨E2, e1, e2⟩ := cmpR_ok (c := 1) (c1 := c) (c2 := qa) hE hz hE.2.1 (show z + c ≠ 0 + qa by omega)
          rw [e1] at hb
          obtain ⟨E3, t, f1, f2, f3⟩ := ih E2 l2 e2 hb
          refine ⟨E3, t, ?_, List.mem_append_right _ f2, f3⟩
          rw [Op.lookupswitch.offset_cons, if_neg e]
          exact f1
def sy_ls (dflt : Int) (ps : Array (Int × Int)) (pc : Nat) (S : SS) : Option (List (Nat × SS)) := match S.2.2.1 with
  | (0, k, c) :: r => lsG pc S k c r dflt ps.toList S.1
  | _ => none
theorem sy_ls_ok {dflt : Int} {ps : Array (Int × Int)} (hf : mF M mi pc = some (.lookupswitch dflt ps, x, y)) (h : st_ok G ρ S L st hp) (hr : sy_ls dflt ps pc S = some l) : SOk G W M dd mi pc ρ L st hp l := by
  unfold sy_ls at hr
  split at hr
  · rename_i k c r hS
    have hA := h.2.2.1
    rw [hS] at hA
    obtain ⟨v, r1, e, hv, hA1⟩ := ss_c hA
    obtain ⟨b, z, e1, e2, e3⟩ := hv
    subst e1 e
    obtain ⟨E2, t, f1, f2, f3⟩ := lsG_ok e2 _ _ _ h.1 hr
    refine so_mk hf f2 (τ := []) (L2 := L) (st2 := r1) (hp2 := hp) ?_ Agr.rf (fun cf K => ?_)
    · rw [List.append_nil]
      exact ⟨f3, h.2.1, hA1, h.2.2.2⟩
    · show (ev_tg pc (Op.lookupswitch.offset ps.toList dflt b.toInt)).bind (fun t => K t L r1 hp 0 0) = _
      rw [e3, f1]
      rfl
  · cases hr
/-- ordinal(), length(), charAt() -/
def sy_jv (x pc : Nat) (S : SS) : Option (List (Nat × SS)) := match S.2.2.1 with
  | (3, k, c) :: r => cond (Nat.beq x 900 && Nat.ble (scat r) 8) (some [(pc + 3, (S.1, S.2.1, (0, k, c) :: r, S.2.2.2))]) none
  | (4, v, _) :: r => cond (Nat.beq x 905 && Nat.ble 300 v && Nat.blt v 304 && Nat.ble (scat r) 8) (some [(pc + 3, (S.1, S.2.1, (0, 0, ((ev_tx v).length : Int)) :: r, S.2.2.2))]) none
  | (0, k, c) :: (4, v, _) :: r => cond (Nat.beq x 906 && Nat.ble 300 v && Nat.blt v 304 && ixB S.1 k c (ev_tx v).length && Nat.ble (scat r) 8) (some [(pc + 3, ((fF S.1).1, S.2.1, (fF S.1).2 :: r, S.2.2.2))]) none
  | _ => none
theorem tx_len : ∀ v, v < 304 → (ev_tx v).length < 20 := by decide +kernel
theorem sy_jv_ok {idx : Nat} (hf : mF M mi pc = some (.invokevirtual idx, x, y)) (h : st_ok G ρ S L st hp) (hr : sy_jv x pc S = some l) : SOk G W M dd mi pc ρ L st hp l := by
  have z1 : 0 ≤ mC M mi := Nat.zero_le _
  have z2 : 0 ≤ mS M mi := Nat.zero_le _
  unfold sy_jv at hr
  split at hr
  · rename_i k c r hS
    cases hc : (Nat.beq x 900 && Nat.ble (scat r) 8) with
    | false => rw [hc] at hr; cases hr
    | true =>
      rw [hc] at hr
      cases hr
      rw [Bool.and_eq_true] at hc
      have hx := Nat.eq_of_beq_eq_true hc.1
      subst hx
      have hA := h.2.2.1
      rw [hS] at hA
      obtain ⟨v, r1, e, hv, hA1⟩ := ss_c hA
      obtain ⟨n, z, e1, e2, e3, e4⟩ := hv
      subst e1 e
      refine so_mk hf (List.mem_singleton.mpr rfl) (τ := []) (L2 := L) (st2 := .int (Int32.ofNat n) :: r1) (hp2 := hp) ?_ Agr.rf (fun cf K => ?_)
      · rw [List.append_nil]
        exact ⟨h.1, h.2.1, ⟨⟨_, z, rfl, e3, by rw [Int32.toInt_ofNat_of_lt (by omega)]; exact e4⟩, hA1⟩, h.2.2.2⟩
      · show (if 900 = 900 ∧ n < 32 ∧ 0 ≤ mC M mi ∧ 0 ≤ mS M mi then (if (r1.map fun v => v.category).sum ≤ 8 then K (pc + 3) L (.int (Int32.ofNat n) :: r1) hp 0 0 else none) else _) = _
        rw [if_pos ⟨rfl, e2, z1, z2⟩, if_pos (by rw [scat_ok hA1]; exact Nat.le_of_ble_eq_true hc.2)]
  · rename_i v0 c r hS
    cases hc : (Nat.beq x 905 && Nat.ble 300 v0 && Nat.blt v0 304 && Nat.ble (scat r) 8) with
    | false => rw [hc] at hr; cases hr
    | true =>
      rw [hc] at hr
      cases hr
      rw [Bool.and_eq_true, Bool.and_eq_true, Bool.and_eq_true] at hc
      obtain ⟨⟨⟨d1, d2⟩, d3⟩, d4⟩ := hc
      have hx := Nat.eq_of_beq_eq_true d1
      subst hx
      have d2 := Nat.le_of_ble_eq_true d2
      have d3 : v0 < 304 := Nat.le_of_ble_eq_true d3
      have hA := h.2.2.1
      rw [hS] at hA
      obtain ⟨v, r1, e, hv, hA1⟩ := ss_c hA
      have hv : v = .retAddr v0 := hv
      subst hv e
      have hl := tx_len v0 d3
      refine so_mk hf (List.mem_singleton.mpr rfl) (τ := []) (L2 := L) (st2 := .int (Int32.ofNat (ev_tx v0).length) :: r1) (hp2 := hp) ?_ Agr.rf (fun cf K => ?_)
      · rw [List.append_nil]
        exact ⟨h.1, h.2.1, ⟨⟨_, 0, rfl, h.1.2.1, by rw [Int32.toInt_ofNat_of_lt (by omega)]; omega⟩, hA1⟩, h.2.2.2⟩
      · show (if 905 = 900 ∧ v0 < 32 ∧ 0 ≤ mC M mi ∧ 0 ≤ mS M mi then (if (r1.map fun v => v.category).sum ≤ 8 then K (pc + 3) L (.int (Int32.ofNat v0) :: r1) hp 0 0 else none) else if 905 = 905 ∧ 300 ≤ v0 ∧ v0 < 304 ∧ 0 ≤ mC M mi ∧ 0 ≤ mS M mi then (if (r1.map fun v => v.category).sum ≤ 8 then K (pc + 3) L (.int (Int32.ofNat (ev_tx v0).length) :: r1) hp 0 0 else none) else none) = _
        rw [if_neg (fun q => by have := q.1; omega), if_pos ⟨rfl, d2, d3, z1, z2⟩, if_pos (by rw [scat_ok hA1]; exact Nat.le_of_ble_eq_true d4)]
  · rename_i k c v0 c2 r hS
    cases hc : (Nat.beq x 906 && Nat.ble 300 v0 && Nat.blt v0 304 && ixB S.1 k c (ev_tx v0).length && Nat.ble (scat r) 8) with
    | false => rw [hc] at hr; cases hr
    | true =>
      rw [hc] at hr
      cases hr
      rw [Bool.and_eq_true, Bool.and_eq_true, Bool.and_eq_true, Bool.and_eq_true] at hc
      obtain ⟨⟨⟨⟨d1, d2⟩, d3⟩, d5⟩, d4⟩ := hc
      have hx := Nat.eq_of_beq_eq_true d1
      subst hx
      have d2 := Nat.le_of_ble_eq_true d2
      have d3 : v0 < 304 := Nat.le_of_ble_eq_true d3
      have hA := h.2.2.1
      rw [hS] at hA
      obtain ⟨v, r1, e, hv, hA1⟩ := ss_c hA
      obtain ⟨w, r2, f, hw, hA2⟩ := ss_c hA1
      have hw : w = .retAddr v0 := hw
      obtain ⟨b, z, e1, e2, e3⟩ := hv
      subst hw e1 f e
      obtain ⟨q1, q2, q3, q4, q5, q6⟩ := ix_ok h.1 e2 e3 d5
      obtain ⟨τ, f1, f2⟩ := fF_ok (x := (ev_tx v0)[b.toNatClampNeg]) h.1
      refine so_mk hf (List.mem_singleton.mpr rfl) (τ := τ) (L2 := L) (st2 := .int (ev_tx v0)[b.toNatClampNeg] :: r2) (hp2 := hp) ⟨f1, sl_ext h.2.1, ⟨f2, ss_ext hA2⟩, sp_ext h.2.2.2.1, h.2.2.2.2⟩ Agr.rf (fun cf K => ?_)
      show (if 906 = 906 ∧ 300 ≤ v0 ∧ v0 < 304 ∧ 0 ≤ mC M mi ∧ 0 ≤ mS M mi then (if (r2.map fun v => v.category).sum ≤ 8 then (ev_rd (ev_tx v0) b).bind (fun c => K (pc + 3) L (.int c :: r2) hp 0 0) else none) else none) = _
      rw [if_pos ⟨rfl, d2, d3, z1, z2⟩, if_pos (by rw [scat_ok hA2]; exact Nat.le_of_ble_eq_true d4), rd_ok q1 q2]
      rfl
  · cases hr
/-- Math.min, Math.max, System.arraycopy -/
def sy_mm (x pc : Nat) (S : SS) : Option (List (Nat × SS)) := match S.2.2.1 with
  | (0, k2, c2) :: (0, k1, c1) :: r => cond (Nat.ble (scat r) 8)
      (cond (Nat.beq x 901) (some [(pc + 3, ((fI S.1 (min ((eg S.1 k1).1 + c1) ((eg S.1 k2).1 + c2)) (min ((eg S.1 k1).2.1 + c1) ((eg S.1 k2).2.1 + c2))).1, S.2.1, (fI S.1 (min ((eg S.1 k1).1 + c1) ((eg S.1 k2).1 + c2)) (min ((eg S.1 k1).2.1 + c1) ((eg S.1 k2).2.1 + c2))).2 :: r, S.2.2.2))])
        (cond (Nat.beq x 902) (some [(pc + 3, ((fI S.1 (max ((eg S.1 k1).1 + c1) ((eg S.1 k2).1 + c2)) (max ((eg S.1 k1).2.1 + c1) ((eg S.1 k2).2.1 + c2))).1, S.2.1, (fI S.1 (max ((eg S.1 k1).1 + c1) ((eg S.1 k2).1 + c2)) (max ((eg S.1 k1).2.1 + c1) ((eg S.1 k2).2.1 + c2))).2 :: r, S.2.2.2))]) none)) none
  | _ => none
theorem sy_mm_ok {idx : Nat} (hf : mF M mi pc = some (.invokestatic idx, x, y)) (h : st_ok G ρ S L st hp) (hr : sy_mm x pc S = some l) : SOk G W M dd mi pc ρ L st hp l := by
  unfold sy_mm at hr
  split at hr
  · rename_i k2 c2 k1 c1 r hS
    cases hc : Nat.ble (scat r) 8 with
    | false => rw [hc] at hr; cases hr
    | true =>
      rw [hc] at hr
      simp only [cond_true] at hr
      have hA := h.2.2.1
      rw [hS] at hA
      obtain ⟨v, r1, e, hv, hA1⟩ := ss_c hA
      obtain ⟨w, r2, f, hw, hA2⟩ := ss_c hA1
      obtain ⟨b, z2, e1, e2, e3⟩ := hv
      obtain ⟨a, z1, f1, f2, f3⟩ := hw
      subst f1 e1 f e
      obtain ⟨a1, a2, -⟩ := eg_ok h.1 f2
      obtain ⟨b1, b2, -⟩ := eg_ok h.1 e2
      have hcat : (r2.map fun v => v.category).sum ≤ 8 ∧ 0 ≤ mC M mi ∧ 0 ≤ mS M mi := ⟨by rw [scat_ok hA2]; exact Nat.le_of_ble_eq_true hc, Nat.zero_le _, Nat.zero_le _⟩
      cases hx : Nat.beq x 901 with
      | true =>
        rw [hx] at hr
        cases hr
        have hx := Nat.eq_of_beq_eq_true hx
        subst hx
        have hm : (if b < a then b else a).toInt = min a.toInt b.toInt := by
          by_cases q : b < a
          · rw [if_pos q]; have := Int32.lt_iff_toInt_lt.mp q; omega
          · rw [if_neg q]; have := Int.not_lt.mp (fun p => q (Int32.lt_iff_toInt_lt.mpr p)); omega
        obtain ⟨τ, g1, g2⟩ := fI_ok (x := if b < a then b else a) (lo := min ((eg S.1 k1).1 + c1) ((eg S.1 k2).1 + c2)) (hi := min ((eg S.1 k1).2.1 + c1) ((eg S.1 k2).2.1 + c2)) h.1 (by rw [hm]; omega) (by rw [hm]; omega)
        refine so_mk hf (List.mem_singleton.mpr rfl) (τ := τ) (L2 := L) (st2 := .int (if b < a then b else a) :: r2) (hp2 := hp) ⟨g1, sl_ext h.2.1, ⟨g2, ss_ext hA2⟩, sp_ext h.2.2.2.1, h.2.2.2.2⟩ Agr.rf (fun cf K => ?_)
        show (if (r2.map fun v => v.category).sum ≤ 8 ∧ 0 ≤ mC M mi ∧ 0 ≤ mS M mi then K (pc + 3) L (.int (if b < a then b else a) :: r2) hp 0 0 else none) = _
        rw [if_pos hcat]
      | false =>
        rw [hx] at hr
        simp only [cond_false] at hr
        cases hx2 : Nat.beq x 902 with
        | false => rw [hx2] at hr; cases hr
        | true =>
          rw [hx2] at hr
          cases hr
          have hx := Nat.eq_of_beq_eq_true hx2
          subst hx
          have hm : (if a < b then b else a).toInt = max a.toInt b.toInt := by
            by_cases q : a < b
            · rw [if_pos q]; have := Int32.lt_iff_toInt_lt.mp q; omega
            · rw [if_neg q]; have := Int.not_lt.mp (fun p => q (Int32.lt_iff_toInt_lt.mpr p)); omega
          obtain ⟨τ, g1, g2⟩ := fI_ok (x := if a < b then b else a) (lo := max ((eg S.1 k1).1 + c1) ((eg S.1 k2).1 + c2)) (hi := max ((eg S.1 k1).2.1 + c1) ((eg S.1 k2).2.1 + c2)) h.1 (by rw [hm]; omega) (by rw [hm]; omega)
          refine so_mk hf (List.mem_singleton.mpr rfl) (τ := τ) (L2 := L) (st2 := .int (if a < b then b else a) :: r2) (hp2 := hp) ⟨g1, sl_ext h.2.1, ⟨g2, ss_ext hA2⟩, sp_ext h.2.2.2.1, h.2.2.2.2⟩ Agr.rf (fun cf K => ?_)
          show (if (r2.map fun v => v.category).sum ≤ 8 ∧ 0 ≤ mC M mi ∧ 0 ≤ mS M mi then K (pc + 3) L (.int (if a < b then b else a) :: r2) hp 0 0 else none) = _
          rw [if_pos hcat]
  · cases hr
/-- what is known to hold the one holds the other -/
def unP (k1 : Nat) (c1 : Int) (k2 : Nat) (c2 : Int) (P : SP) : SP := P.map (fun q => cond (Nat.beq q.2.2.1 1 && Nat.beq q.2.2.2.1 k1 && decide (q.2.2.2.2 = c1)) (q.1, q.2.1, (1, k2, c2)) q)
theorem unP_ok {P : SP} {k1 k2 : Nat} {c1 c2 z1 z2 : Int} (h1 : ρ[k1]? = some z1) (h2 : ρ[k2]? = some z2) (he : z1 + c1 = z2 + c2) (h : sp_ok ρ P hp) : sp_ok ρ (unP k1 c1 k2 c2 P) hp := by
  intro q hq
  obtain ⟨p, hp1, e⟩ := List.mem_map.mp hq
  obtain ⟨v, e1, e2⟩ := h p hp1
  cases hc : (Nat.beq p.2.2.1 1 && Nat.beq p.2.2.2.1 k1 && decide (p.2.2.2.2 = c1)) with
  | false => rw [hc] at e; rw [← e]; exact ⟨v, e1, e2⟩
  | true =>
    rw [hc] at e
    rw [← e]
    rw [Bool.and_eq_true, Bool.and_eq_true] at hc
    obtain ⟨a, i, t, k, c⟩ := p
    have d1 : t = 1 := Nat.eq_of_beq_eq_true hc.1.1
    have d2 : k = k1 := Nat.eq_of_beq_eq_true hc.1.2
    have d3 : c = c1 := of_decide_eq_true hc.2
    subst d1 d2 d3
    obtain ⟨x, z, f1, f2, f3⟩ := e2
    rw [h1] at f2
    cases f2
    exact ⟨v, e1, x, z2, f1, h2, by omega⟩
/-- two longs compared: three ways -/
def sy_lc (pc : Nat) (S : SS) : Option (List (Nat × SS)) := match S.2.2.1 with
  | (1, k2, c2) :: (1, k1, c1) :: r => some (oL (pc + 1) S ((0, 0, -1) :: r) (cmpR 2 S.1 k1 c1 k2 c2) ++ (oL (pc + 1) (S.1, S.2.1, S.2.2.1, unP k1 c1 k2 c2 S.2.2.2) ((0, 0, 0) :: r) (cmpR 0 S.1 k1 c1 k2 c2) ++ oL (pc + 1) S ((0, 0, 1) :: r) (cmpR 4 S.1 k1 c1 k2 c2)))
  | _ => none
theorem lgc (a b : Int64) : (a.toInt < b.toInt ∧ lg_cmp a b = -1) ∨ (a.toInt = b.toInt ∧ lg_cmp a b = 0) ∨ (b.toInt < a.toInt ∧ lg_cmp a b = 1) := by
  unfold lg_cmp
  by_cases h2 : a = b
  · subst h2
    exact Or.inr (Or.inl ⟨rfl, by simp⟩)
  · have h4 : a.toInt ≠ b.toInt := fun q => h2 (Int64.toInt_inj.mp q)
    by_cases h1 : b.toInt < a.toInt
    · have h6 : b < a := Int64.lt_iff_toInt_lt.mpr h1
      have h7 : ¬ a < b := fun q => by have := Int64.lt_iff_toInt_lt.mp q; omega
      exact Or.inr (Or.inr ⟨h1, by simp [h6, h7, h2]⟩)
    · have h5 : a.toInt < b.toInt := by omega
      have h6 : a < b := Int64.lt_iff_toInt_lt.mpr h5
      have h7 : ¬ b < a := fun q => h1 (Int64.lt_iff_toInt_lt.mp q)
      exact Or.inl ⟨h5, by simp [h6, h7, h2]⟩
theorem sy_lc_ok (hf : mF M mi pc = some (.lcmp, x, y)) (h : st_ok G ρ S L st hp) (hr : sy_lc pc S = some l) : SOk G W M dd mi pc ρ L st hp l := by
  unfold sy_lc at hr
  split at hr
  · rename_i k2 c2 k1 c1 r hS
    cases hr
    have hA := h.2.2.1
    rw [hS] at hA
    obtain ⟨v, r1, e, hv, hA1⟩ := ss_c hA
    obtain ⟨w, r2, f, hw, hA2⟩ := ss_c hA1
    obtain ⟨b, z2, e1, e2, e3⟩ := hv
    obtain ⟨a, z1, f1, f2, f3⟩ := hw
    subst f1 e1 f e
    have hc : ∀ (q : Int32) (n : Int), lg_cmp a b = q → q.toInt = n → ∀ E2, en_ok ρ E2 → st_ok G (ρ ++ []) (E2, S.2.1, (0, 0, n) :: r, S.2.2.2) L (.int (lg_cmp a b) :: r2) hp := fun q n hq hn E2 hE2 => by
      rw [List.append_nil, hq]
      exact ⟨hE2, h.2.1, ⟨⟨q, 0, rfl, hE2.2.1, by omega⟩, hA2⟩, h.2.2.2⟩
    rcases lgc a b with ⟨h1, h2⟩ | ⟨h1, h2⟩ | ⟨h1, h2⟩
    · obtain ⟨E2, g1, g2⟩ := cmpR_ok (c := 2) (c1 := c1) (c2 := c2) h.1 f2 e2 (show z1 + c1 < z2 + c2 by omega)
      refine so_mk hf ?_ (s := (pc + 1, (E2, S.2.1, (0, 0, -1) :: r, S.2.2.2))) (τ := []) (L2 := L) (st2 := .int (lg_cmp a b) :: r2) (hp2 := hp) (hc _ _ h2 (by decide) E2 g2) Agr.rf (fun cf K => rfl)
      rw [g1]
      exact List.mem_append_left _ (List.mem_singleton.mpr rfl)
    · obtain ⟨E2, g1, g2⟩ := cmpR_ok (c := 0) (c1 := c1) (c2 := c2) h.1 f2 e2 (show z1 + c1 = z2 + c2 by omega)
      have hcc := hc 0 0 h2 (by decide) E2 g2
      rw [List.append_nil] at hcc
      refine so_mk hf ?_ (s := (pc + 1, (E2, S.2.1, (0, 0, 0) :: r, unP k1 c1 k2 c2 S.2.2.2))) (τ := []) (L2 := L) (st2 := .int (lg_cmp a b) :: r2) (hp2 := hp) ?_ Agr.rf (fun cf K => rfl)
      · rw [g1]
        exact List.mem_append_right _ (List.mem_append_left _ (List.mem_singleton.mpr rfl))
      · rw [List.append_nil]
        exact ⟨hcc.1, hcc.2.1, hcc.2.2.1, unP_ok f2 e2 (by omega) hcc.2.2.2.1, hcc.2.2.2.2⟩
    · obtain ⟨E2, g1, g2⟩ := cmpR_ok (c := 4) (c1 := c1) (c2 := c2) h.1 f2 e2 (show z2 + c2 < z1 + c1 by omega)
      refine so_mk hf ?_ (s := (pc + 1, (E2, S.2.1, (0, 0, 1) :: r, S.2.2.2))) (τ := []) (L2 := L) (st2 := .int (lg_cmp a b) :: r2) (hp2 := hp) (hc _ _ h2 (by decide) E2 g2) Agr.rf (fun cf K => rfl)
      rw [g1]
      exact List.mem_append_right _ (List.mem_append_right _ (List.mem_singleton.mpr rfl))
  · cases hr
/-- a byte and 255 -/
def sy_an (pc : Nat) (S : SS) : Option (List (Nat × SS)) := match S.2.2.1 with
  | (0, 0, 255) :: (0, k, c) :: r => cond (decide (-128 ≤ (eg S.1 k).1 + c) && decide ((eg S.1 k).2.1 + c ≤ 127)) (some (oL (pc + 1) S ((0, k, c) :: r) (cmpR 3 S.1 k c 0 0) ++ oL (pc + 1) S ((0, k, c + 256) :: r) (cmpR 2 S.1 k c 0 0))) none
  | _ => none
theorem an_all : ∀ n : Nat, n < 256 → (Int32.ofInt ((n : Int) - 128) &&& 255).toInt = if n < 128 then (n : Int) + 128 else (n : Int) - 128 := by decide +kernel
theorem an_val {b : Int32} (h1 : -128 ≤ b.toInt) (h2 : b.toInt ≤ 127) : (b &&& 255).toInt = if b.toInt < 0 then b.toInt + 256 else b.toInt := by
  have e : b = Int32.ofInt (((b.toInt + 128).toNat : Int) - 128) := by
    apply Int32.toInt_inj.mp
    rw [Int32.toInt_ofInt_of_le (by omega) (by omega)]
    omega
  have h := an_all (b.toInt + 128).toNat (by omega)
  rw [← e] at h
  rw [h]
  split <;> split <;> omega
theorem sy_an_ok (hf : mF M mi pc = some (.iand, x, y)) (h : st_ok G ρ S L st hp) (hr : sy_an pc S = some l) : SOk G W M dd mi pc ρ L st hp l := by
  unfold sy_an at hr
  split at hr
  · rename_i k c r hS
    cases hc : (decide (-128 ≤ (eg S.1 k).1 + c) && decide ((eg S.1 k).2.1 + c ≤ 127)) with
    | false => rw [hc] at hr; cases hr
    | true =>
      rw [hc] at hr
      cases hr
      rw [Bool.and_eq_true] at hc
      have q1 := of_decide_eq_true hc.1
      have q2 := of_decide_eq_true hc.2
      have hA := h.2.2.1
      rw [hS] at hA
      obtain ⟨v, r1, e, hv, hA1⟩ := ss_c hA
      obtain ⟨w, r2, f, hw, hA2⟩ := ss_c hA1
      obtain ⟨b, z2, e1, e2, e3⟩ := hv
      obtain ⟨a, z1, f1, f2, f3⟩ := hw
      subst f1 e1 f e
      rw [h.1.2.1] at e2
      cases e2
      have eb : b = 255 := i32_ofn (n := 255) (by omega)
      subst eb
      obtain ⟨a1, a2, -⟩ := eg_ok h.1 f2
      have hv := an_val (b := a) (by omega) (by omega)
      by_cases hn : a.toInt < 0
      · rw [if_pos hn] at hv
        obtain ⟨E2, g1, g2⟩ := cmpR_ok (c := 2) (c1 := c) (c2 := 0) h.1 f2 h.1.2.1 (show z1 + c < 0 + 0 by omega)
        refine so_mk hf ?_ (s := (pc + 1, (E2, S.2.1, (0, k, c + 256) :: r, S.2.2.2))) (τ := []) (L2 := L) (st2 := .int (a &&& 255) :: r2) (hp2 := hp) ?_ Agr.rf (fun cf K => rfl)
        · rw [g1]; exact List.mem_append_right _ (List.mem_singleton.mpr rfl)
        · rw [List.append_nil]; exact ⟨g2, h.2.1, ⟨⟨_, z1, rfl, f2, by omega⟩, hA2⟩, h.2.2.2⟩
      · rw [if_neg hn] at hv
        obtain ⟨E2, g1, g2⟩ := cmpR_ok (c := 3) (c1 := c) (c2 := 0) h.1 f2 h.1.2.1 (show 0 + 0 ≤ z1 + c by omega)
        refine so_mk hf ?_ (s := (pc + 1, (E2, S.2.1, (0, k, c) :: r, S.2.2.2))) (τ := []) (L2 := L) (st2 := .int (a &&& 255) :: r2) (hp2 := hp) ?_ Agr.rf (fun cf K => rfl)
        · rw [g1]; exact List.mem_append_left _ (List.mem_singleton.mpr rfl)
        · rw [List.append_nil]; exact ⟨g2, h.2.1, ⟨⟨_, z1, rfl, f2, by omega⟩, hA2⟩, h.2.2.2⟩
  · cases hr
/-- one value after another: what a constant n makes of it -/
def spV (f : Int → Int) (k : Nat) (c : Int) (pc : Nat) (S : SS) (r : List SV) : Nat → Int → List (Nat × SS)
  | 0, _ => []
  | n + 1, v => oL pc S ((0, 0, f v) :: r) (cmpR 0 S.1 k c 0 v) ++ spV f k c pc S r n (v + 1)
theorem spV_mem {f : Int → Int} {k pc : Nat} {c z : Int} {r : List SV} (hE : en_ok ρ S.1) (hz : ρ[k]? = some z) : ∀ {n j : Nat} {v : Int}, j < n → z + c = v + (j : Int) → ∃ E2, en_ok ρ E2 ∧ (pc, (E2, S.2.1, (0, 0, f (z + c)) :: r, S.2.2.2)) ∈ spV f k c pc S r n v
  | 0, _, _, h, _ => by omega
  | n + 1, 0, v, _, e => by
    obtain ⟨E2, e1, e2⟩ := cmpR_ok (c := 0) (c1 := c) (c2 := v) hE hz hE.2.1 (show z + c = 0 + v by omega)
    refine ⟨E2, e2, ?_⟩
    unfold spV
    rw [e1, show z + c = v by omega]
    exact List.mem_append_left _ (List.mem_singleton.mpr rfl)
  | n + 1, j + 1, v, h, e => by
    obtain ⟨E2, e1, e2⟩ := spV_mem (f := f) (c := c) (r := r) hE hz (n := n) (j := j) (v := v + 1) (by omega) (by omega)
    refine ⟨E2, e1, ?_⟩
    unfold spV
    exact List.mem_append_right _ e2
/-- a large constant times one of few -/
def sy_ml (pc : Nat) (S : SS) : Option (List (Nat × SS)) := match S.2.2.1 with
  | (0, k, c) :: (0, 0, n) :: r => cond (decide (50 ≤ n) && decide (n ≤ 1000) && decide (0 ≤ (eg S.1 k).1 + c) && decide ((eg S.1 k).2.1 + c ≤ 8)) (some (spV (fun v => n * v) k c (pc + 1) S r 9 0)) none
  | _ => none
theorem sy_ml_ok (hf : mF M mi pc = some (.imul, x, y)) (h : st_ok G ρ S L st hp) (hr : sy_ml pc S = some l) : SOk G W M dd mi pc ρ L st hp l := by
  unfold sy_ml at hr
  split at hr
  · rename_i k c n r hS
    cases hc : (decide (50 ≤ n) && decide (n ≤ 1000) && decide (0 ≤ (eg S.1 k).1 + c) && decide ((eg S.1 k).2.1 + c ≤ 8)) with
    | false => rw [hc] at hr; cases hr
    | true =>
      rw [hc] at hr
      cases hr
      rw [Bool.and_eq_true, Bool.and_eq_true, Bool.and_eq_true] at hc
      have q1 := of_decide_eq_true hc.1.1.1
      have q2 := of_decide_eq_true hc.1.1.2
      have q3 := of_decide_eq_true hc.1.2
      have q4 := of_decide_eq_true hc.2
      have hA := h.2.2.1
      rw [hS] at hA
      obtain ⟨v, r1, e, hv, hA1⟩ := ss_c hA
      obtain ⟨w, r2, f, hw, hA2⟩ := ss_c hA1
      obtain ⟨b, z2, e1, e2, e3⟩ := hv
      obtain ⟨a, z1, f1, f2, f3⟩ := hw
      subst f1 e1 f e
      rw [h.1.2.1] at f2
      cases f2
      obtain ⟨b1, b2, -⟩ := eg_ok h.1 e2
      obtain ⟨E2, g1, g2⟩ := spV_mem (f := fun v => n * v) (k := k) (pc := pc + 1) (c := c) (r := r) h.1 e2 (n := 9) (j := (z2 + c).toNat) (v := 0) (by omega) (by omega)
      refine so_mk hf g2 (τ := []) (L2 := L) (st2 := .int (a * b) :: r2) (hp2 := hp) ?_ Agr.rf (fun cf K => rfl)
      rw [List.append_nil]
      have ea : a.toInt = n := by omega
      have p1 : 0 ≤ n * (z2 + c) := Int.mul_nonneg (by omega) (by omega)
      have p2 : n * (z2 + c) ≤ 1000 * 8 := Int.mul_le_mul (by omega) (by omega) (by omega) (by omega)
      have hm : (a * b).toInt = n * (z2 + c) := by
        rw [i32_mul (by rw [ea, e3]; omega) (by rw [ea, e3]; omega), ea, e3]
      exact ⟨g1, h.2.1, ⟨⟨_, 0, rfl, g1.2.1, by rw [hm]; simp⟩, hA2⟩, h.2.2.2⟩
  · cases hr
/-- half of it: 0 to 6 one by one, or more -/
def sy_d2 (pc : Nat) (S : SS) : Option (List (Nat × SS)) := match S.2.2.1 with
  | (0, 0, 2) :: (0, k, c) :: r => cond (decide (0 ≤ (eg S.1 k).1 + c)) (some (spV (fun v => v / 2) k c (pc + 1) S r 14 0 ++ oL (pc + 1) ((fI S.1 7 1073741823).1, S.2) ((fI S.1 7 1073741823).2 :: r) (cmpR 3 (fI S.1 7 1073741823).1 k c 0 14))) none
  | _ => none
theorem sy_d2_ok (hf : mF M mi pc = some (.idiv, x, y)) (h : st_ok G ρ S L st hp) (hr : sy_d2 pc S = some l) : SOk G W M dd mi pc ρ L st hp l := by
  unfold sy_d2 at hr
  split at hr
  · rename_i k c r hS
    cases hc : decide (0 ≤ (eg S.1 k).1 + c) with
    | false => rw [hc] at hr; cases hr
    | true =>
      rw [hc] at hr
      cases hr
      have q1 := of_decide_eq_true hc
      have hA := h.2.2.1
      rw [hS] at hA
      obtain ⟨v, r1, e, hv, hA1⟩ := ss_c hA
      obtain ⟨w, r2, f, hw, hA2⟩ := ss_c hA1
      obtain ⟨b, z2, e1, e2, e3⟩ := hv
      obtain ⟨a, z1, f1, f2, f3⟩ := hw
      subst f1 e1 f e
      rw [h.1.2.1] at e2
      cases e2
      obtain ⟨b1, b2, -⟩ := eg_ok h.1 f2
      have eb : b.toInt = 2 := by omega
      have hs : ∀ cf K, ev_s M cf mi pc .idiv x y L (.int b :: .int a :: r2) hp 0 0 K = K (pc + 1) L (.int (a / b) :: r2) hp 0 0 := fun cf K => by
        show (if b = 0 then none else K (pc + 1) L (.int (a / b) :: r2) hp 0 0) = _
        rw [if_neg (i32_ne (by omega))]
      have hdv : (a / b).toInt = a.toInt / 2 := by rw [i32_div (by omega) (by omega), eb]
      by_cases hlt : z1 + c < 14
      · obtain ⟨E2, g1, g2⟩ := spV_mem (f := fun v => v / 2) (k := k) (pc := pc + 1) (c := c) (r := r) h.1 f2 (n := 14) (j := (z1 + c).toNat) (v := 0) (by omega) (by omega)
        refine so_mk hf (List.mem_append_left _ g2) (τ := []) (L2 := L) (st2 := .int (a / b) :: r2) (hp2 := hp) ?_ Agr.rf hs
        rw [List.append_nil]
        exact ⟨g1, h.2.1, ⟨⟨_, 0, rfl, g1.2.1, by rw [hdv, f3]; simp⟩, hA2⟩, h.2.2.2⟩
      · have hi := i32_hi a
        obtain ⟨τ, g1, g2⟩ := fI_ok (x := a / b) (lo := 7) (hi := 1073741823) h.1 (by rw [hdv]; omega) (by rw [hdv]; omega)
        obtain ⟨E2, k1, k2⟩ := cmpR_ok (c := 3) (c1 := c) (c2 := 14) g1 (ga f2) g1.2.1 (show 0 + 14 ≤ z1 + c by omega)
        refine so_mk hf (List.mem_append_right _ ?_) (s := (pc + 1, (E2, S.2.1, (fI S.1 7 1073741823).2 :: r, S.2.2.2))) (τ := τ) (L2 := L) (st2 := .int (a / b) :: r2) (hp2 := hp) ⟨k2, sl_ext h.2.1, ⟨g2, ss_ext hA2⟩, sp_ext h.2.2.2.1, h.2.2.2.2⟩ Agr.rf hs
        rw [k1]
        exact List.mem_singleton.mpr rfl
  · cases hr
/-- four times something that is at most twice another -/
def sy_m4 (pc : Nat) (S : SS) : Option (List (Nat × SS)) := match S.2.2.1 with
  | (0, k, c) :: (0, 0, 4) :: r => cond (Nat.beq (eg S.1 k).2.2.2.2.1 0) none (
      let E := er S.1 k (eg S.1 k).1 (2 * (eg S.1 (eg S.1 k).2.2.2.2.1).2.1 + (eg S.1 k).2.2.2.2.2)
      some [(pc + 1, ((f_mul E 0 4 k c).1, S.2.1, (f_mul E 0 4 k c).2 :: r, S.2.2.2))])
  | _ => none
theorem sy_m4_ok (hf : mF M mi pc = some (.imul, x, y)) (h : st_ok G ρ S L st hp) (hr : sy_m4 pc S = some l) : SOk G W M dd mi pc ρ L st hp l := by
  unfold sy_m4 at hr
  split at hr
  · rename_i k c r hS
    cases hc : Nat.beq (eg S.1 k).2.2.2.2.1 0 with
    | true => rw [hc] at hr; cases hr
    | false =>
      rw [hc] at hr
      cases hr
      have hA := h.2.2.1
      rw [hS] at hA
      obtain ⟨v, r1, e, hv, hA1⟩ := ss_c hA
      obtain ⟨w, r2, f, hw, hA2⟩ := ss_c hA1
      obtain ⟨b, z2, e1, e2, e3⟩ := hv
      obtain ⟨a, z1, f1, f2, f3⟩ := hw
      subst f1 e1 f e
      obtain ⟨a1, a2, -⟩ := eg_ok h.1 e2
      obtain ⟨u, u1, u2⟩ := eg_ok2 h.1 e2
      obtain ⟨b1, b2, -⟩ := eg_ok h.1 u1
      have hE := er_ok (lo := (eg S.1 k).1) (hi := 2 * (eg S.1 (eg S.1 k).2.2.2.2.1).2.1 + (eg S.1 k).2.2.2.2.2) h.1 e2 a1 (by omega)
      obtain ⟨τ, g1, g2⟩ := f_mul_ok ρ _ 0 4 k c a b z1 z2 hE f2 f3 e2 e3
      exact so_mk hf (List.mem_singleton.mpr rfl) (τ := τ) (L2 := L) (st2 := .int (a * b) :: r2) (hp2 := hp) ⟨g1, sl_ext h.2.1, ⟨g2, ss_ext hA2⟩, sp_ext h.2.2.2.1, h.2.2.2.2⟩ Agr.rf (fun cf K => rfl)
  · cases hr
end
