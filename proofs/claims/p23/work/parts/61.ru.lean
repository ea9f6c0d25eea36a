/-! ===== one instruction, symbolically; the run; a contract that is checked holds ===== -/
section
variable {G : GT} {W : WR} {M : MT} {dd mi pc x y : Nat} {ρ : List Int} {S : SS} {L : List (Nat × Value)} {st : List Value} {hp : List AE} {l : List (Nat × SS)} {i : Instr} {cs : List CO} {dep : Nat}
/-- System.arraycopy -/
def sy_cy (G : GT) (W : WR) (pc : Nat) (S : SS) : Option (List (Nat × SS)) := match S.2.2.1 with
  | (0, kn, cn) :: (0, kd, cd) :: (2, a1, _) :: (0, ks, cs) :: (2, a0, _) :: r => match G.1 a0 with
    | none => none
    | some c0 => match G.1 a1 with
      | none => none
      | some c1 => cond (Nat.beq c0.1.1 c1.1.1 && Nat.beq c0.1.2.1 c1.1.2.1 && (Nat.beq c1.1.1 0 && Nat.beq c1.1.2.1 1 || Nat.beq c1.1.1 1 && Nat.beq c1.1.2.1 2)
          && decide (0 ≤ (eg S.1 kn).1 + cn) && decide (0 ≤ (eg S.1 kd).1 + cd) && decide (0 ≤ (eg S.1 ks).1 + cs)
          && decide ((eg S.1 ks).2.1 + cs + ((eg S.1 kn).2.1 + cn) ≤ (c0.1.2.2 : Int)) && decide ((eg S.1 kd).2.1 + cd + ((eg S.1 kn).2.1 + cn) ≤ (c1.1.2.2 : Int))
          && c1.2.2.isEmpty && decide (c0.2.1 = c1.2.1) && wr_in W a1 0 c1.1.2.2 && Nat.ble (scat r) 8 && G.2.all (fun t => !(Nat.beq a1 t.1) && !(Nat.beq a1 t.2.2.2.1) && !(Nat.beq a1 t.2.2.2.2.2.2.1))) (some [(pc + 3, (S.1, S.2.1, r, spd S.2.2.2 a1 0 c1.1.2.2))]) none
  | _ => none
theorem cp_at {α : Type} (z : α) (f g : List α) (sp dp n k : Nat) (h : sp + n ≤ f.length) {v : α} (hv : (ev_cp z f g sp dp n)[k]? = some v) : k < g.length ∧ ((∃ j : Nat, f[j]? = some v) ∨ g[k]? = some v) := by
  have hk : k < g.length := by
    have := (List.getElem?_eq_some_iff.mp hv).1
    rwa [ev_cp_len] at this
  refine ⟨hk, ?_⟩
  unfold ev_cp at hv
  rw [List.getElem?_map, List.getElem?_range hk] at hv
  have hv : cond (Nat.ble dp k && Nat.blt k (dp + n)) (f.getD (sp + (k - dp)) z) (g.getD k z) = v := by injection hv
  cases hc : (Nat.ble dp k && Nat.blt k (dp + n)) with
  | true =>
    rw [hc] at hv
    rw [Bool.and_eq_true] at hc
    have h1 := Nat.le_of_ble_eq_true hc.1
    have h2 : k < dp + n := Nat.le_of_ble_eq_true hc.2
    have hj : sp + (k - dp) < f.length := by omega
    refine Or.inl ⟨sp + (k - dp), ?_⟩
    have hv : f.getD (sp + (k - dp)) z = v := hv
    rw [List.getD_eq_getElem?_getD, List.getElem?_eq_getElem hj] at hv
    rw [List.getElem?_eq_getElem hj]
    exact congrArg some hv
  | false =>
    rw [hc] at hv
    refine Or.inr ?_
    have hv : g.getD k z = v := hv
    rw [List.getD_eq_getElem?_getD, List.getElem?_eq_getElem hk] at hv
    rw [List.getElem?_eq_getElem hk]
    exact congrArg some hv
theorem whole_ok {a1 : Nat} {c1 : CT} {e e2 : AE} (h : hp_ok G hp) (hct : G.1 a1 = some c1) (he : hp[a1]? = some e) (h1 : ce_hd e2 = ce_hd e) (h2 : c1.2.2.isEmpty = true) (hv : ∀ k v, ce_at e2 k = some v → ft_ok c1.2.1 v) (hw : wr_in W a1 0 c1.1.2.2 = true) (hk : ∀ k v, ce_at e k = some v → k ≤ c1.1.2.2) (hk2 : ∀ k v, ce_at e2 k = some v → k ≤ c1.1.2.2) (hall : G.2.all (fun t => !(Nat.beq a1 t.1) && !(Nat.beq a1 t.2.2.2.1) && !(Nat.beq a1 t.2.2.2.2.2.2.1)) = true) : hp_ok G (hp.set a1 e2) ∧ Agr W hp (hp.set a1 e2) ∧ ∀ P, sp_ok ρ P hp → sp_ok ρ (spd P a1 0 c1.1.2.2) (hp.set a1 e2) := by
  have hl : a1 < hp.length := (List.getElem?_eq_some_iff.mp he).1
  have hs : (hp.set a1 e2)[a1]? = some e2 := by rw [List.getElem?_set, if_pos rfl, if_pos hl]
  have hn : ∀ b, b ≠ a1 → (hp.set a1 e2)[b]? = hp[b]? := fun b hb => by rw [List.getElem?_set, if_neg (fun q => hb q.symm)]
  have hh2 : ∀ b, hh (hp.set a1 e2) b = hh hp b := fun b => by
    by_cases hb : b = a1
    · subst hb; unfold hh; rw [hs, he]; show some (ce_hd e2) = some (ce_hd e); rw [h1]
    · unfold hh; rw [hn b hb]
  have hq2 : ∀ b j, b ≠ a1 → hq (hp.set a1 e2) b j = hq hp b j := fun b j hb => by unfold hq; rw [hn b hb]
  have hRB : ∀ t ∈ G.2, RB1 t (hp.set a1 e2) := fun t ht => by
    have h3 := List.all_eq_true.mp hall t ht
    rw [Bool.and_eq_true, Bool.and_eq_true] at h3
    intro i n g w q1 q2 q3 q4
    rw [hq2 _ _ (nbq h3.2).symm] at q1
    rw [hq2 _ _ (nbq h3.1.2).symm] at q3
    rw [hq2 _ _ (nbq h3.1.1).symm] at q4
    exact h.2 t ht i n g w q1 q2 q3 q4
  refine ⟨⟨fun b cb hb => ⟨by rw [hh2]; exact (h.1 b cb hb).1, fun k v hkv => ?_⟩, hRB⟩, ⟨hh2, fun b k hbk => ?_⟩, fun P hP q hq3 => ?_⟩
  · by_cases hba : b = a1
    · subst hba
      rw [hct] at hb
      cases hb
      rw [hq_at hs] at hkv
      refine ⟨hv k v hkv, fun ft hft => ?_⟩
      rw [List.isEmpty_iff.mp h2] at hft
      cases hft
    · rw [hq2 b k hba] at hkv
      exact (h.1 b cb hb).2 k v hkv
  · by_cases hba : b = a1
    · subst hba
      rw [hq_at hs, hq_at he]
      by_cases hk3 : k ≤ c1.1.2.2
      · rw [wr_sub hw (Nat.zero_le _) hk3] at hbk; cases hbk
      · have a1 : ce_at e2 k = none := by
          cases hx : ce_at e2 k with
          | none => rfl
          | some v => exact absurd (hk2 k v hx) hk3
        have a2 : ce_at e k = none := by
          cases hx : ce_at e k with
          | none => rfl
          | some v => exact absurd (hk k v hx) hk3
        rw [a1, a2]
    · exact hq2 b k hba
  · obtain ⟨hm, hno⟩ := spd_out hq3
    obtain ⟨v, e1, e3⟩ := hP q hm
    refine ⟨v, ?_, e3⟩
    by_cases hba : q.1 = a1
    · exfalso
      rw [hba, hq_at he] at e1
      exact hno ⟨hba, Nat.zero_le _, hk _ _ e1⟩
    · rw [hq2 _ _ hba]; exact e1
theorem clampI {x : Int32} (h : 0 ≤ x.toInt) : ¬ x < 0 ∧ (x.toNatClampNeg : Int) = x.toInt := by
  have e : x.toNatClampNeg = x.toInt.toNat := rfl
  refine ⟨fun q => ?_, by omega⟩
  have := Int32.lt_iff_toInt_lt.mp q
  rw [show (0 : Int32).toInt = 0 from rfl] at this
  omega
theorem sy_cy_ok {idx : Nat} (hf : mF M mi pc = some (.invokestatic idx, 904, y)) (h : st_ok G ρ S L st hp) (hr : sy_cy G W pc S = some l) : SOk G W M dd mi pc ρ L st hp l := by
  unfold sy_cy at hr
  split at hr
  · rename_i kn cn kd cd a1 o1 ks cs a0 o0 r hS
    split at hr
    · cases hr
    · rename_i c0 hc0
      split at hr
      · cases hr
      · rename_i c1 hc1
        cases hc : (Nat.beq c0.1.1 c1.1.1 && Nat.beq c0.1.2.1 c1.1.2.1 && (Nat.beq c1.1.1 0 && Nat.beq c1.1.2.1 1 || Nat.beq c1.1.1 1 && Nat.beq c1.1.2.1 2)
          && decide (0 ≤ (eg S.1 kn).1 + cn) && decide (0 ≤ (eg S.1 kd).1 + cd) && decide (0 ≤ (eg S.1 ks).1 + cs)
          && decide ((eg S.1 ks).2.1 + cs + ((eg S.1 kn).2.1 + cn) ≤ (c0.1.2.2 : Int)) && decide ((eg S.1 kd).2.1 + cd + ((eg S.1 kn).2.1 + cn) ≤ (c1.1.2.2 : Int))
          && c1.2.2.isEmpty && decide (c0.2.1 = c1.2.1) && wr_in W a1 0 c1.1.2.2 && Nat.ble (scat r) 8 && G.2.all (fun t => !(Nat.beq a1 t.1) && !(Nat.beq a1 t.2.2.2.1) && !(Nat.beq a1 t.2.2.2.2.2.2.1))) with
        | false => rw [hc] at hr; cases hr
        | true =>
          rw [hc] at hr
          cases hr
          rw [Bool.and_eq_true, Bool.and_eq_true, Bool.and_eq_true, Bool.and_eq_true, Bool.and_eq_true, Bool.and_eq_true, Bool.and_eq_true, Bool.and_eq_true, Bool.and_eq_true, Bool.and_eq_true, Bool.and_eq_true, Bool.and_eq_true] at hc
          obtain ⟨⟨⟨⟨⟨⟨⟨⟨⟨⟨⟨⟨d1, d2⟩, d3⟩, d4⟩, d5⟩, d6⟩, d7⟩, d8⟩, d9⟩, d10⟩, d11⟩, d12⟩, d13⟩ := hc
          have d4 := of_decide_eq_true d4
          have d5 := of_decide_eq_true d5
          have d6 := of_decide_eq_true d6
          have d7 := of_decide_eq_true d7
          have d8 := of_decide_eq_true d8
          have d10 := of_decide_eq_true d10
          have hA := h.2.2.1
          rw [hS] at hA
          obtain ⟨v1, r1, e1, hv1, hA1⟩ := ss_c hA
          obtain ⟨v2, r2, e2, hv2, hA2⟩ := ss_c hA1
          obtain ⟨v3, r3, e3, hv3, hA3⟩ := ss_c hA2
          obtain ⟨v4, r4, e4, hv4, hA4⟩ := ss_c hA3
          obtain ⟨v5, r5, e5, hv5, hA5⟩ := ss_c hA4
          obtain ⟨n, zn, f1, f2, f3⟩ := hv1
          obtain ⟨dp, zd, g1, g2, g3⟩ := hv2
          have hv3 : v3 = .ref a1 := hv3
          obtain ⟨sp, zs, k1, k2, k3⟩ := hv4
          have hv5 : v5 = .ref a0 := hv5
          subst hv5 k1 hv3 g1 f1 e5 e4 e3 e2 e1
          obtain ⟨m1, m2, -⟩ := eg_ok h.1 f2
          obtain ⟨m3, m4, -⟩ := eg_ok h.1 g2
          obtain ⟨m5, m6, -⟩ := eg_ok h.1 k2
          obtain ⟨p1, p2⟩ := clampI (x := n) (by omega)
          obtain ⟨p3, p4⟩ := clampI (x := dp) (by omega)
          obtain ⟨p5, p6⟩ := clampI (x := sp) (by omega)
          have hcat : (r5.map fun v => v.category).sum ≤ 8 := by rw [scat_ok hA5]; exact Nat.le_of_ble_eq_true d12
          have h0 := (h.2.2.2.2.1 a0 c0 hc0)
          have h1 := (h.2.2.2.2.1 a1 c1 hc1)
          rw [Bool.or_eq_true, Bool.and_eq_true, Bool.and_eq_true] at d3
          rcases d3 with d3 | d3
          · have hh0 := h0.1
            have hh1 := h1.1
            rw [hd3 (s := 0) (x := 1) (by rw [Nat.eq_of_beq_eq_true d1, Nat.eq_of_beq_eq_true d2, d3.1, d3.2]; rfl)] at hh0
            rw [hd3 (s := 0) (x := 1) (by rw [d3.1, d3.2]; rfl)] at hh1
            obtain ⟨f, b1, b2⟩ := hh_ai hh0
            obtain ⟨g, b3, b4⟩ := hh_ai hh1
            have hfl : sp.toNatClampNeg + n.toNatClampNeg ≤ f.length := by omega
            have hgl : dp.toNatClampNeg + n.toNatClampNeg ≤ g.length := by omega
            have hcy : ev_cy hp n dp a1 sp a0 = some (hp.set a1 (.inl (1, .inl (ev_cp 0 f g sp.toNatClampNeg dp.toNatClampNeg n.toNatClampNeg)))) := by
              unfold ev_cy
              rw [if_neg (fun q => by rcases q with q | q | q; exact p1 q; exact p3 q; exact p5 q), b1, b3]
              show (if (1 : Nat) = 1 ∧ (1 : Nat) = 1 ∧ sp.toNatClampNeg + n.toNatClampNeg ≤ f.length ∧ dp.toNatClampNeg + n.toNatClampNeg ≤ g.length then _ else none) = _
              rw [if_pos ⟨rfl, rfl, hfl, hgl⟩]
            obtain ⟨w1, w2, w3⟩ := whole_ok (ρ := ρ) (W := W) (e2 := .inl (1, .inl (ev_cp 0 f g sp.toNatClampNeg dp.toNatClampNeg n.toNatClampNeg))) h.2.2.2.2 hc1 b3 (by show (0, 1, _) = (0, 1, _); rw [ev_cp_len]) d9 (fun k v hkv => by
                have hkv : ((ev_cp 0 f g sp.toNatClampNeg dp.toNatClampNeg n.toNatClampNeg)[k]?).map Value.int = some v := hkv
                cases hx : (ev_cp 0 f g sp.toNatClampNeg dp.toNatClampNeg n.toNatClampNeg)[k]? with
                | none => rw [hx] at hkv; cases hkv
                | some w =>
                  rw [hx] at hkv
                  cases hkv
                  rcases (cp_at 0 f g _ _ _ k hfl hx).2 with ⟨j, hj⟩ | hj
                  · rw [← d10]; exact (h0.2 j (.int w) (by rw [hq_at b1]; show (f[j]?).map _ = _; rw [hj]; rfl)).1
                  · exact (h1.2 k (.int w) (by rw [hq_at b3]; show (g[k]?).map _ = _; rw [hj]; rfl)).1) d11 (fun k v hkv => by
                have hkv : (g[k]?).map Value.int = some v := hkv
                cases hx : g[k]? with
                | none => rw [hx] at hkv; cases hkv
                | some w => have := (List.getElem?_eq_some_iff.mp hx).1; omega) (fun k v hkv => by
                have hkv : ((ev_cp 0 f g sp.toNatClampNeg dp.toNatClampNeg n.toNatClampNeg)[k]?).map Value.int = some v := hkv
                cases hx : (ev_cp 0 f g sp.toNatClampNeg dp.toNatClampNeg n.toNatClampNeg)[k]? with
                | none => rw [hx] at hkv; cases hkv
                | some w => have := (cp_at 0 f g _ _ _ k hfl hx).1; omega) d13
            refine so_mk hf (List.mem_singleton.mpr rfl) (τ := []) (L2 := L) (st2 := r5) (hp2 := _) ?_ w2 (fun cf K => ?_)
            · rw [List.append_nil]
              exact ⟨h.1, h.2.1, hA5, w3 _ h.2.2.2.1, w1⟩
            · show (if (r5.map fun v => v.category).sum ≤ 8 then (ev_cy hp n dp a1 sp a0).bind (fun h1 => K (pc + 3) L r5 h1 0 0) else none) = _
              rw [if_pos hcat, hcy]
              rfl
          · have hh0 := h0.1
            have hh1 := h1.1
            rw [hd3 (s := 1) (x := 2) (by rw [Nat.eq_of_beq_eq_true d1, Nat.eq_of_beq_eq_true d2, d3.1, d3.2]; rfl)] at hh0
            rw [hd3 (s := 1) (x := 2) (by rw [d3.1, d3.2]; rfl)] at hh1
            obtain ⟨f, b1, b2⟩ := hh_al hh0
            obtain ⟨g, b3, b4⟩ := hh_al hh1
            have hfl : sp.toNatClampNeg + n.toNatClampNeg ≤ f.length := by omega
            have hgl : dp.toNatClampNeg + n.toNatClampNeg ≤ g.length := by omega
            have hcy : ev_cy hp n dp a1 sp a0 = some (hp.set a1 (.inl (2, .inr (.inl (ev_cp 0 f g sp.toNatClampNeg dp.toNatClampNeg n.toNatClampNeg))))) := by
              unfold ev_cy
              rw [if_neg (fun q => by rcases q with q | q | q; exact p1 q; exact p3 q; exact p5 q), b1, b3]
              show (if (2 : Nat) = 2 ∧ (2 : Nat) = 2 ∧ sp.toNatClampNeg + n.toNatClampNeg ≤ f.length ∧ dp.toNatClampNeg + n.toNatClampNeg ≤ g.length then _ else none) = _
              rw [if_pos ⟨rfl, rfl, hfl, hgl⟩]
            obtain ⟨w1, w2, w3⟩ := whole_ok (ρ := ρ) (W := W) (e2 := .inl (2, .inr (.inl (ev_cp 0 f g sp.toNatClampNeg dp.toNatClampNeg n.toNatClampNeg)))) h.2.2.2.2 hc1 b3 (by show (1, 2, _) = (1, 2, _); rw [ev_cp_len]) d9 (fun k v hkv => by
                have hkv : ((ev_cp 0 f g sp.toNatClampNeg dp.toNatClampNeg n.toNatClampNeg)[k]?).map Value.long = some v := hkv
                cases hx : (ev_cp 0 f g sp.toNatClampNeg dp.toNatClampNeg n.toNatClampNeg)[k]? with
                | none => rw [hx] at hkv; cases hkv
                | some w =>
                  rw [hx] at hkv
                  cases hkv
                  rcases (cp_at 0 f g _ _ _ k hfl hx).2 with ⟨j, hj⟩ | hj
                  · rw [← d10]; exact (h0.2 j (.long w) (by rw [hq_at b1]; show (f[j]?).map _ = _; rw [hj]; rfl)).1
                  · exact (h1.2 k (.long w) (by rw [hq_at b3]; show (g[k]?).map _ = _; rw [hj]; rfl)).1) d11 (fun k v hkv => by
                have hkv : (g[k]?).map Value.long = some v := hkv
                cases hx : g[k]? with
                | none => rw [hx] at hkv; cases hkv
                | some w => have := (List.getElem?_eq_some_iff.mp hx).1; omega) (fun k v hkv => by
                have hkv : ((ev_cp 0 f g sp.toNatClampNeg dp.toNatClampNeg n.toNatClampNeg)[k]?).map Value.long = some v := hkv
                cases hx : (ev_cp 0 f g sp.toNatClampNeg dp.toNatClampNeg n.toNatClampNeg)[k]? with
                | none => rw [hx] at hkv; cases hkv
                | some w => have := (cp_at 0 f g _ _ _ k hfl hx).1; omega) d13
            refine so_mk hf (List.mem_singleton.mpr rfl) (τ := []) (L2 := L) (st2 := r5) (hp2 := _) ?_ w2 (fun cf K => ?_)
            · rw [List.append_nil]
              exact ⟨h.1, h.2.1, hA5, w3 _ h.2.2.2.1, w1⟩
            · show (if (r5.map fun v => v.category).sum ≤ 8 then (ev_cy hp n dp a1 sp a0).bind (fun h1 => K (pc + 3) L r5 h1 0 0) else none) = _
              rw [if_pos hcat, hcy]
              rfl
  · cases hr
end
