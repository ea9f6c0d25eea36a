/-! ===== stores, lengths, constants, switches, what the JDK does ===== -/
def scat (A : List SV) : Nat := (A.map (fun a => cond (Nat.beq a.1 1) 2 1)).sum
theorem scat_ok {ρ : List Int} : ∀ {A : List SV} {st : List Value}, ss_ok ρ A st → (st.map fun v => v.category).sum = scat A
  | [], [], _ => rfl
  | a :: A, v :: st, h => by
    have := scat_ok h.2
    unfold scat at *
    rw [List.map_cons, List.map_cons, List.sum_cons, List.sum_cons, sv_cat h.1, this]
  | [], _ :: _, h => h.elim
  | _ :: _, [], h => h.elim
section
variable {G : GT} {W : WR} {M : MT} {dd mi pc x y : Nat} {ρ : List Int} {S : SS} {L : List (Nat × Value)} {st : List Value} {hp : List AE} {l : List (Nat × SS)} {i : Instr}
/-- what is known behind a store of u -/
def stP (S : SS) (a k : Nat) (c : Int) (u : SV) : SP := cond (sing S.1 k) ((a, ixL S.1 k c, u) :: spd S.2.2.2 a (ixL S.1 k c) (ixL S.1 k c)) (spd S.2.2.2 a (ixL S.1 k c) (ixH S.1 k c))
theorem stA_ok {a k pc2 n : Nat} {c z : Int} {b : Int32} {A : List SV} {r : List Value} {ct : CT} {u : SV} {v : Value} {E2 : EN} {τ : List Int} {hp2 : List AE} (hf : mF M mi pc = some (i, x, y)) (h : st_ok G ρ S L st hp) (hA : ss_ok ρ A r) (hct : G.1 a = some ct) (hz : ρ[k]? = some z) (hx : b.toInt = z + c) (hb : ixB S.1 k c n = true) (hE : en_ok (ρ ++ τ) E2) (hv : sv_ok (ρ ++ τ) u v) (hw : wrT W E2 a (ixL S.1 k c) (ixH S.1 k c) ct u = true) (hgr : grd G.2 E2 S.2.2.2 a (ixL S.1 k c) (ixH S.1 k c) u = true) (hU : Upd hp hp2 a b.toNatClampNeg v) (hs : ∀ cf K, ev_s M cf mi pc i x y L st hp 0 0 K = K pc2 L r hp2 0 0) : SOk G W M dd mi pc ρ L st hp [(pc2, (E2, S.2.1, A, stP S a k c u))] := by
  obtain ⟨q1, q2, q3, q4, q5, q6⟩ := ix_ok h.1 hz hx hb
  obtain ⟨g1, g2⟩ := wr_ok hE hv (sp_ext h.2.2.2.1) h.2.2.2.2 hct hw hgr q3 q4 hU
  refine so_mk hf (List.mem_singleton.mpr rfl) (τ := τ) (L2 := L) (st2 := r) (hp2 := hp2) ⟨hE, sl_ext h.2.1, ss_ext hA, ?_, g1⟩ g2 hs
  show sp_ok (ρ ++ τ) (stP S a k c u) hp2
  unfold stP
  cases hc : sing S.1 k with
  | true =>
    have e := q5 hc
    intro q hq
    rcases List.mem_cons.mp hq with rfl | hq
    · exact ⟨v, by rw [← e]; exact hU.2.2, hv⟩
    · exact sp_upd (sp_ext h.2.2.2.1) (by omega) (by omega) hU q hq
  | false => exact sp_upd (sp_ext h.2.2.2.1) q3 q4 hU
def sy_ias (G : GT) (W : WR) (pc : Nat) (S : SS) : Option (List (Nat × SS)) := match S.2.2.1 with
  | (0, k1, c1) :: (0, k, c) :: (2, a, _) :: r => match G.1 a with
    | some ct => cond (Nat.beq ct.1.1 0 && Nat.beq ct.1.2.1 1 && ixB S.1 k c ct.1.2.2 && wrT W S.1 a (ixL S.1 k c) (ixH S.1 k c) ct (0, k1, c1) && grd G.2 S.1 S.2.2.2 a (ixL S.1 k c) (ixH S.1 k c) (0, k1, c1)) (some [(pc + 1, (S.1, S.2.1, r, stP S a k c (0, k1, c1)))]) none
    | none => none
  | _ => none
theorem sy_ias_ok (hf : mF M mi pc = some (.iastore, x, y)) (h : st_ok G ρ S L st hp) (hr : sy_ias G W pc S = some l) : SOk G W M dd mi pc ρ L st hp l := by
  unfold sy_ias at hr
  split at hr
  · rename_i k1 c1 k c a c2 r hS
    split at hr
    · rename_i ct hct
      cases hc : (Nat.beq ct.1.1 0 && Nat.beq ct.1.2.1 1 && ixB S.1 k c ct.1.2.2 && wrT W S.1 a (ixL S.1 k c) (ixH S.1 k c) ct (0, k1, c1) && grd G.2 S.1 S.2.2.2 a (ixL S.1 k c) (ixH S.1 k c) (0, k1, c1)) with
      | false => rw [hc] at hr; cases hr
      | true =>
        rw [hc] at hr
        cases hr
        rw [Bool.and_eq_true, Bool.and_eq_true, Bool.and_eq_true] at hc
        obtain ⟨⟨⟨d1, d2⟩, d3⟩, d4⟩ := hc
        have hA := h.2.2.1
        rw [hS] at hA
        obtain ⟨v, r1, e, hv, hA1⟩ := ss_c hA
        obtain ⟨w, r2, f, hw, hA2⟩ := ss_c hA1
        obtain ⟨u, r3, g, hu, hA3⟩ := ss_c hA2
        have hu : u = .ref a := hu
        have hv0 := hv
        obtain ⟨b, z, e1, e2, e3⟩ := hw
        obtain ⟨vv, z2, f1, f2, f3⟩ := hv
        subst hu e1 f1 g f e
        have hh1 := (h.2.2.2.2.1 a ct hct).1
        rw [hd3 d1] at hh1
        obtain ⟨li, g1, g2⟩ := hh_ai hh1
        obtain ⟨q1, q2, q3, q4, q5, q6⟩ := ix_ok h.1 e2 e3 d2
        have hl : b.toNatClampNeg < li.length := by rw [g2]; exact q2
        refine stA_ok (τ := []) hf h hA3 hct e2 e3 d2 (by rw [List.append_nil]; exact h.1) (by rw [List.append_nil]; exact hv0) d3 d4 (upd_i (v := vv) g1 hl) (fun cf K => ?_)
        show (ev_ai hp a).bind _ = _
        have e4 : ev_ai hp a = some (1, li) := by unfold ev_ai; rw [g1]
        rw [e4]
        show (if (1 : Nat) = 1 then (ev_rd li b).bind (fun _ => K (pc + 1) L r3 (hp.set a (.inl (1, .inl (li.set b.toNatClampNeg vv)))) 0 0) else none) = _
        rw [if_pos rfl, rd_ok q1 hl]
        rfl
    · cases hr
  · cases hr
def sy_las (G : GT) (W : WR) (pc : Nat) (S : SS) : Option (List (Nat × SS)) := match S.2.2.1 with
  | (1, k1, c1) :: (0, k, c) :: (2, a, _) :: r => match G.1 a with
    | some ct => cond (Nat.beq ct.1.1 1 && Nat.beq ct.1.2.1 2 && ixB S.1 k c ct.1.2.2 && wrT W S.1 a (ixL S.1 k c) (ixH S.1 k c) ct (1, k1, c1) && grd G.2 S.1 S.2.2.2 a (ixL S.1 k c) (ixH S.1 k c) (1, k1, c1)) (some [(pc + 1, (S.1, S.2.1, r, stP S a k c (1, k1, c1)))]) none
    | none => none
  | _ => none
theorem sy_las_ok (hf : mF M mi pc = some (.lastore, x, y)) (h : st_ok G ρ S L st hp) (hr : sy_las G W pc S = some l) : SOk G W M dd mi pc ρ L st hp l := by
  unfold sy_las at hr
  split at hr
  · rename_i k1 c1 k c a c2 r hS
    split at hr
    · rename_i ct hct
      cases hc : (Nat.beq ct.1.1 1 && Nat.beq ct.1.2.1 2 && ixB S.1 k c ct.1.2.2 && wrT W S.1 a (ixL S.1 k c) (ixH S.1 k c) ct (1, k1, c1) && grd G.2 S.1 S.2.2.2 a (ixL S.1 k c) (ixH S.1 k c) (1, k1, c1)) with
      | false => rw [hc] at hr; cases hr
      | true =>
        rw [hc] at hr
        cases hr
        rw [Bool.and_eq_true, Bool.and_eq_true, Bool.and_eq_true] at hc
        obtain ⟨⟨⟨d1, d2⟩, d3⟩, d4⟩ := hc
        have hA := h.2.2.1
        rw [hS] at hA
        obtain ⟨v, r1, e, hv, hA1⟩ := ss_c hA
        obtain ⟨w, r2, f, hw, hA2⟩ := ss_c hA1
        obtain ⟨u, r3, g, hu, hA3⟩ := ss_c hA2
        have hu : u = .ref a := hu
        have hv0 := hv
        obtain ⟨b, z, e1, e2, e3⟩ := hw
        obtain ⟨vv, z2, f1, f2, f3⟩ := hv
        subst hu e1 f1 g f e
        have hh1 := (h.2.2.2.2.1 a ct hct).1
        rw [hd3 d1] at hh1
        obtain ⟨li, g1, g2⟩ := hh_al hh1
        obtain ⟨q1, q2, q3, q4, q5, q6⟩ := ix_ok h.1 e2 e3 d2
        have hl : b.toNatClampNeg < li.length := by rw [g2]; exact q2
        refine stA_ok (τ := []) hf h hA3 hct e2 e3 d2 (by rw [List.append_nil]; exact h.1) (by rw [List.append_nil]; exact hv0) d3 d4 (upd_l (v := vv) g1 hl) (fun cf K => ?_)
        show (ev_al hp a).bind _ = _
        have e4 : ev_al hp a = some (2, li) := by unfold ev_al; rw [g1]
        rw [e4]
        show (if (2 : Nat) = 2 then (ev_rd li b).bind (fun _ => K (pc + 1) L r3 (hp.set a (.inl (2, .inr (.inl (li.set b.toNatClampNeg vv))))) 0 0) else none) = _
        rw [if_pos rfl, rd_ok q1 hl]
        rfl
    · cases hr
  · cases hr
/-- bytes (cut), booleans (0 or 1) -/
def sy_bas (G : GT) (W : WR) (pc : Nat) (S : SS) : Option (List (Nat × SS)) := match S.2.2.1 with
  | (0, k1, c1) :: (0, k, c) :: (2, a, _) :: r => match G.1 a with
    | some ct => cond (Nat.beq ct.1.1 0 && ixB S.1 k c ct.1.2.2)
        (cond (Nat.beq ct.1.2.1 0) (cond (wrT W (ef S.1 (-128) 127) a (ixL S.1 k c) (ixH S.1 k c) ct (0, S.1.length, 0) && grd G.2 (ef S.1 (-128) 127) S.2.2.2 a (ixL S.1 k c) (ixH S.1 k c) (0, S.1.length, 0)) (some [(pc + 1, (ef S.1 (-128) 127, S.2.1, r, stP S a k c (0, S.1.length, 0)))]) none)
          (cond (Nat.beq ct.1.2.1 3 && decide (0 ≤ (eg S.1 k1).1 + c1) && decide ((eg S.1 k1).2.1 + c1 ≤ 1) && wrT W S.1 a (ixL S.1 k c) (ixH S.1 k c) ct (0, k1, c1) && grd G.2 S.1 S.2.2.2 a (ixL S.1 k c) (ixH S.1 k c) (0, k1, c1)) (some [(pc + 1, (S.1, S.2.1, r, stP S a k c (0, k1, c1)))]) none)) none
    | none => none
  | _ => none
theorem sy_bas_ok (hf : mF M mi pc = some (.bastore, x, y)) (h : st_ok G ρ S L st hp) (hr : sy_bas G W pc S = some l) : SOk G W M dd mi pc ρ L st hp l := by
  unfold sy_bas at hr
  split at hr
  · rename_i k1 c1 k c a c2 r hS
    split at hr
    · rename_i ct hct
      cases hc : (Nat.beq ct.1.1 0 && ixB S.1 k c ct.1.2.2) with
      | false => rw [hc] at hr; cases hr
      | true =>
        rw [hc] at hr
        simp only [cond_true] at hr
        rw [Bool.and_eq_true] at hc
        obtain ⟨d1, d2⟩ := hc
        have hA := h.2.2.1
        rw [hS] at hA
        obtain ⟨v, r1, e, hv, hA1⟩ := ss_c hA
        obtain ⟨w, r2, f, hw, hA2⟩ := ss_c hA1
        obtain ⟨u, r3, g, hu, hA3⟩ := ss_c hA2
        have hu : u = .ref a := hu
        have hv0 := hv
        obtain ⟨b, z, e1, e2, e3⟩ := hw
        obtain ⟨vv, z2, f1, f2, f3⟩ := hv
        subst hu e1 f1 g f e
        have hh1 := (h.2.2.2.2.1 a ct hct).1
        rw [hd3 (s := 0) (x := ct.1.2.1) (by rw [d1, Nat.beq_refl]; rfl)] at hh1
        obtain ⟨li, g1, g2⟩ := hh_ai hh1
        obtain ⟨q1, q2, q3, q4, q5, q6⟩ := ix_ok h.1 e2 e3 d2
        have hl : b.toNatClampNeg < li.length := by rw [g2]; exact q2
        have e4 : ev_ai hp a = some (ct.1.2.1, li) := by unfold ev_ai; rw [g1]
        cases ht : Nat.beq ct.1.2.1 0 with
        | true =>
          have et := Nat.eq_of_beq_eq_true ht
          rw [ht] at hr
          simp only [cond_true] at hr
          cases hw3 : (wrT W (ef S.1 (-128) 127) a (ixL S.1 k c) (ixH S.1 k c) ct (0, S.1.length, 0) && grd G.2 (ef S.1 (-128) 127) S.2.2.2 a (ixL S.1 k c) (ixH S.1 k c) (0, S.1.length, 0)) with
          | false => rw [hw3] at hr; cases hr
          | true =>
            rw [hw3] at hr
            cases hr
            rw [Bool.and_eq_true] at hw3
            have hb1 : (-128 : Int) ≤ vv.toInt8.toInt32.toInt := by rw [Int8.toInt_toInt32]; exact Int8.le_toInt _
            have hb2 : vv.toInt8.toInt32.toInt ≤ 127 := by rw [Int8.toInt_toInt32]; have := Int8.toInt_lt vv.toInt8; omega
            have hef := ef_ok h.1 hb1 hb2
            rw [et] at g1
            refine stA_ok (τ := [vv.toInt8.toInt32.toInt]) hf h hA3 hct e2 e3 d2 hef.1 ⟨vv.toInt8.toInt32, _, rfl, hef.2, by omega⟩ hw3.1 hw3.2 (upd_i (v := vv.toInt8.toInt32) g1 hl) (fun cf K => ?_)
            show (ev_ai hp a).bind _ = _
            rw [e4]
            show (ev_rd li b).bind (fun _ => if ct.1.2.1 = 0 then K (pc + 1) L r3 (hp.set a (.inl (0, .inl (li.set b.toNatClampNeg vv.toInt8.toInt32)))) 0 0 else if ct.1.2.1 = 3 ∧ (vv = 0 ∨ vv = 1) then K (pc + 1) L r3 (hp.set a (.inl (3, .inl (li.set b.toNatClampNeg vv)))) 0 0 else none) = _
            rw [rd_ok q1 hl]
            show (if ct.1.2.1 = 0 then _ else _) = _
            rw [if_pos et]
        | false =>
          rw [ht] at hr
          simp only [cond_false] at hr
          cases hw3 : (Nat.beq ct.1.2.1 3 && decide (0 ≤ (eg S.1 k1).1 + c1) && decide ((eg S.1 k1).2.1 + c1 ≤ 1) && wrT W S.1 a (ixL S.1 k c) (ixH S.1 k c) ct (0, k1, c1) && grd G.2 S.1 S.2.2.2 a (ixL S.1 k c) (ixH S.1 k c) (0, k1, c1)) with
          | false => rw [hw3] at hr; cases hr
          | true =>
            rw [hw3] at hr
            cases hr
            rw [Bool.and_eq_true, Bool.and_eq_true, Bool.and_eq_true, Bool.and_eq_true] at hw3
            obtain ⟨⟨⟨⟨w1, w2⟩, w3⟩, w4⟩, w5⟩ := hw3
            have et := Nat.eq_of_beq_eq_true w1
            have w2 := of_decide_eq_true w2
            have w3 := of_decide_eq_true w3
            obtain ⟨a1, a2, -⟩ := eg_ok h.1 f2
            have h01 : vv = 0 ∨ vv = 1 := i01 (by omega) (by omega)
            rw [et] at g1
            refine stA_ok (τ := []) hf h hA3 hct e2 e3 d2 (by rw [List.append_nil]; exact h.1) (by rw [List.append_nil]; exact hv0) w4 w5 (upd_i (v := vv) g1 hl) (fun cf K => ?_)
            show (ev_ai hp a).bind _ = _
            rw [e4]
            show (ev_rd li b).bind (fun _ => if ct.1.2.1 = 0 then K (pc + 1) L r3 (hp.set a (.inl (0, .inl (li.set b.toNatClampNeg vv.toInt8.toInt32)))) 0 0 else if ct.1.2.1 = 3 ∧ (vv = 0 ∨ vv = 1) then K (pc + 1) L r3 (hp.set a (.inl (3, .inl (li.set b.toNatClampNeg vv)))) 0 0 else none) = _
            rw [rd_ok q1 hl]
            show (if ct.1.2.1 = 0 then _ else _) = _
            rw [if_neg (by omega), if_pos ⟨et, h01⟩]
    · cases hr
  · cases hr
/-- constants of Word into an array -/
def sy_aas (G : GT) (W : WR) (pc : Nat) (S : SS) : Option (List (Nat × SS)) := match S.2.2.1 with
  | (3, k1, c1) :: (0, k, c) :: (2, a, _) :: r => match G.1 a with
    | some ct => cond (Nat.beq ct.1.1 2 && Nat.beq ct.1.2.1 4 && ixB S.1 k c ct.1.2.2 && wrT W S.1 a (ixL S.1 k c) (ixH S.1 k c) ct (3, k1, c1) && grd G.2 S.1 S.2.2.2 a (ixL S.1 k c) (ixH S.1 k c) (3, k1, c1)) (some [(pc + 1, (S.1, S.2.1, r, stP S a k c (3, k1, c1)))]) none
    | none => none
  | _ => none
theorem sy_aas_ok (hf : mF M mi pc = some (.aastore, x, y)) (h : st_ok G ρ S L st hp) (hr : sy_aas G W pc S = some l) : SOk G W M dd mi pc ρ L st hp l := by
  unfold sy_aas at hr
  split at hr
  · rename_i k1 c1 k c a c2 r hS
    split at hr
    · rename_i ct hct
      cases hc : (Nat.beq ct.1.1 2 && Nat.beq ct.1.2.1 4 && ixB S.1 k c ct.1.2.2 && wrT W S.1 a (ixL S.1 k c) (ixH S.1 k c) ct (3, k1, c1) && grd G.2 S.1 S.2.2.2 a (ixL S.1 k c) (ixH S.1 k c) (3, k1, c1)) with
      | false => rw [hc] at hr; cases hr
      | true =>
        rw [hc] at hr
        cases hr
        rw [Bool.and_eq_true, Bool.and_eq_true, Bool.and_eq_true] at hc
        obtain ⟨⟨⟨d1, d2⟩, d3⟩, d4⟩ := hc
        have hA := h.2.2.1
        rw [hS] at hA
        obtain ⟨v, r1, e, hv, hA1⟩ := ss_c hA
        obtain ⟨w, r2, f, hw, hA2⟩ := ss_c hA1
        obtain ⟨u, r3, g, hu, hA3⟩ := ss_c hA2
        have hu : u = .ref a := hu
        have hv0 := hv
        obtain ⟨b, z, e1, e2, e3⟩ := hw
        obtain ⟨vv, z2, f1, f4, f2, f3⟩ := hv
        subst hu e1 f1 g f e
        have hh1 := (h.2.2.2.2.1 a ct hct).1
        rw [hd3 d1] at hh1
        obtain ⟨li, g1, g2⟩ := hh_ar hh1
        obtain ⟨q1, q2, q3, q4, q5, q6⟩ := ix_ok h.1 e2 e3 d2
        have hl : b.toNatClampNeg < li.length := by rw [g2]; exact q2
        refine stA_ok (τ := []) hf h hA3 hct e2 e3 d2 (by rw [List.append_nil]; exact h.1) (by rw [List.append_nil]; exact hv0) d3 d4 (upd_r (t := 4) (v := some vv) g1 hl) (fun cf K => ?_)
        show (ev_ar hp a).bind _ = _
        have e4 : ev_ar hp a = some (4, li) := by unfold ev_ar; rw [g1]
        rw [e4]
        show (if (4 : Nat) = 4 ∧ vv < 32 then (ev_rd li b).bind (fun _ => K (pc + 1) L r3 (hp.set a (.inl (4, .inr (.inr (li.set b.toNatClampNeg (some vv)))))) 0 0) else none) = _
        rw [if_pos ⟨rfl, f4⟩, rd_ok q1 hl]
        rfl
    · cases hr
  · cases hr
def sy_len (G : GT) (pc : Nat) (S : SS) : Option (List (Nat × SS)) := match S.2.2.1 with
  | (2, a, _) :: r => match G.1 a with
    | some ct => cond (Nat.blt ct.1.1 3 && Nat.blt ct.1.2.1 7 && Nat.blt ct.1.2.2 65536) (some [(pc + 1, (S.1, S.2.1, (0, 0, (ct.1.2.2 : Int)) :: r, S.2.2.2))]) none
    | none => none
  | (4, z, _) :: r => cond (Nat.beq z 101) (some [(pc + 1, (S.1, S.2.1, (0, 0, 32) :: r, S.2.2.2))]) none
  | _ => none
theorem hh_an {hp : List AE} {a s t n : Nat} (h : hh hp a = some (s, t, n)) (hs : s < 3) : ev_an hp a = some (t, n) := by
  unfold hh at h
  unfold ev_an
  cases hq : hp[a]? with
  | none => rw [hq] at h; cases h
  | some e =>
    rw [hq] at h
    match e, h with
    | .inl (t, .inl l), h => cases h; rfl
    | .inl (t, .inr (.inl l)), h => cases h; rfl
    | .inl (t, .inr (.inr l)), h => cases h; rfl
    | .inr (c, fs), h => cases h; omega
theorem sy_len_ok (hf : mF M mi pc = some (.arraylength, x, y)) (h : st_ok G ρ S L st hp) (hr : sy_len G pc S = some l) : SOk G W M dd mi pc ρ L st hp l := by
  unfold sy_len at hr
  split at hr
  · rename_i a c r hS
    split at hr
    · rename_i ct hct
      cases hc : (Nat.blt ct.1.1 3 && Nat.blt ct.1.2.1 7 && Nat.blt ct.1.2.2 65536) with
      | false => rw [hc] at hr; cases hr
      | true =>
        rw [hc] at hr
        cases hr
        rw [Bool.and_eq_true, Bool.and_eq_true] at hc
        have hA := h.2.2.1
        rw [hS] at hA
        obtain ⟨v, r1, e, hv, hA1⟩ := ss_c hA
        have hv : v = .ref a := hv
        subst hv e
        have d1 : ct.1.1 < 3 := Nat.le_of_ble_eq_true hc.1.1
        have d2 : ct.1.2.1 < 7 := Nat.le_of_ble_eq_true hc.1.2
        have d3 : ct.1.2.2 < 65536 := Nat.le_of_ble_eq_true hc.2
        have h2 := hh_an (h.2.2.2.2.1 a ct hct).1 d1
        refine so_mk hf (List.mem_singleton.mpr rfl) (τ := []) (L2 := L) (st2 := .int (Int32.ofNat ct.1.2.2) :: r1) (hp2 := hp) ?_ Agr.rf (fun cf K => ?_)
        · rw [List.append_nil]
          exact ⟨h.1, h.2.1, ⟨⟨_, 0, rfl, h.1.2.1, by rw [Int32.toInt_ofNat_of_lt (by omega)]; omega⟩, hA1⟩, h.2.2.2⟩
        · show (ev_an hp a).bind _ = _
          rw [h2]
          show (if ct.1.2.1 < 7 then K (pc + 1) L (.int (Int32.ofNat ct.1.2.2) :: r1) hp 0 0 else none) = _
          rw [if_pos d2]
    · cases hr
  · rename_i z c r hS
    cases hc : Nat.beq z 101 with
    | false => rw [hc] at hr; cases hr
    | true =>
      rw [hc] at hr
      cases hr
      have hz := Nat.eq_of_beq_eq_true hc
      subst hz
      have hA := h.2.2.1
      rw [hS] at hA
      obtain ⟨v, r1, e, hv, hA1⟩ := ss_c hA
      have hv : v = .retAddr 101 := hv
      subst hv e
      refine so_mk hf (List.mem_singleton.mpr rfl) (τ := []) (L2 := L) (st2 := .int 32 :: r1) (hp2 := hp) ?_ Agr.rf (fun cf K => rfl)
      rw [List.append_nil]
      exact ⟨h.1, h.2.1, ⟨⟨_, 0, rfl, h.1.2.1, rfl⟩, hA1⟩, h.2.2.2⟩
  · cases hr
def sy_gs (x pc : Nat) (S : SS) : Option (List (Nat × SS)) := cond (Nat.blt x 32) (some [(pc + 3, (S.1, S.2.1, (3, 0, (x : Int)) :: S.2.2.1, S.2.2.2))]) (some [(pc + 3, (S.1, S.2.1, (4, x, 0) :: S.2.2.1, S.2.2.2))])
theorem sy_gs_ok {idx : Nat} (hf : mF M mi pc = some (.getstatic idx, x, y)) (h : st_ok G ρ S L st hp) (hr : sy_gs x pc S = some l) : SOk G W M dd mi pc ρ L st hp l := by
  unfold sy_gs at hr
  cases hc : Nat.blt x 32 with
  | true =>
    rw [hc] at hr
    cases hr
    refine so_mk hf (List.mem_singleton.mpr rfl) (τ := []) (L2 := L) (st2 := .retAddr x :: st) (hp2 := hp) ?_ Agr.rf (fun cf K => rfl)
    rw [List.append_nil]
    exact ⟨h.1, h.2.1, ⟨⟨x, 0, rfl, Nat.le_of_ble_eq_true hc, h.1.2.1, by omega⟩, h.2.2.1⟩, h.2.2.2⟩
  | false =>
    rw [hc] at hr
    cases hr
    refine so_mk hf (List.mem_singleton.mpr rfl) (τ := []) (L2 := L) (st2 := .retAddr x :: st) (hp2 := hp) ?_ Agr.rf (fun cf K => rfl)
    rw [List.append_nil]
    exact ⟨h.1, h.2.1, ⟨rfl, h.2.2.1⟩, h.2.2.2⟩
end
