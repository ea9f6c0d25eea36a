/-! ===== instructions on cells ===== -/
def sing (E : EN) (k : Nat) : Bool := decide ((eg E k).1 = (eg E k).2.1)
/-- a place of an array, between two bounds -/
def ixB (E : EN) (k : Nat) (c : Int) (n : Nat) : Bool := decide (0 ≤ (eg E k).1 + c) && decide ((eg E k).2.1 + c < (n : Int))
def ixL (E : EN) (k : Nat) (c : Int) : Nat := ((eg E k).1 + c).toNat
def ixH (E : EN) (k : Nat) (c : Int) : Nat := ((eg E k).2.1 + c).toNat
theorem ix_ok {ρ : List Int} {E : EN} {k n : Nat} {c z : Int} {x : Int32} (hE : en_ok ρ E) (hz : ρ[k]? = some z) (hx : x.toInt = z + c) (hb : ixB E k c n = true) : ¬ x < 0 ∧ x.toNatClampNeg < n ∧ ixL E k c ≤ x.toNatClampNeg ∧ x.toNatClampNeg ≤ ixH E k c ∧ (sing E k = true → x.toNatClampNeg = ixL E k c) ∧ (x.toNatClampNeg : Int) = z + c := by
  obtain ⟨a1, a2, -⟩ := eg_ok hE hz
  unfold ixB at hb
  rw [Bool.and_eq_true] at hb
  have q1 := of_decide_eq_true hb.1
  have q2 := of_decide_eq_true hb.2
  have e : x.toNatClampNeg = x.toInt.toNat := rfl
  have hn : ¬ x < 0 := fun q => by
    have := Int32.lt_iff_toInt_lt.mp q
    rw [show (0 : Int32).toInt = 0 from rfl] at this
    omega
  unfold ixL ixH sing
  refine ⟨hn, by omega, by omega, by omega, fun q => ?_, by omega⟩
  have := of_decide_eq_true q
  omega
theorem rd_ok {α : Type} {l : List α} {i : Int32} (h1 : ¬ i < 0) (h2 : i.toNatClampNeg < l.length) : ev_rd l i = some l[i.toNatClampNeg] := by
  unfold ev_rd
  rw [if_neg h1, List.getElem?_eq_getElem h2]
section
variable {G : GT} {W : WR} {M : MT} {dd mi pc x y : Nat} {ρ : List Int} {S : SS} {L : List (Nat × Value)} {st : List Value} {hp : List AE} {l : List (Nat × SS)} {i : Instr}
def sy_gf (G : GT) (x y pc : Nat) (S : SS) : Option (List (Nat × SS)) := match S.2.2.1 with
  | (2, a, _) :: r => match G.1 a with
    | some ct => cond (Nat.beq ct.1.1 3 && Nat.beq ct.1.2.1 x && Nat.blt y ct.1.2.2) (rdP G a y (pc + 3) S r ct) none
    | none => none
  | (3, _, _) :: r => cond (Nat.beq x 200) (some [(pc + 3, ((gF64 S.1).1, S.2.1, (gF64 S.1).2 :: r, S.2.2.2))]) none
  | _ => none
theorem hd3 {ct : CT} {s x : Nat} (h : (Nat.beq ct.1.1 s && Nat.beq ct.1.2.1 x) = true) : ct.1 = (s, x, ct.1.2.2) := by
  rw [Bool.and_eq_true] at h
  have e1 := Nat.eq_of_beq_eq_true h.1
  have e2 := Nat.eq_of_beq_eq_true h.2
  rw [← e1, ← e2]
theorem sy_gf_ok {idx : Nat} (hf : mF M mi pc = some (.getfield idx, x, y)) (h : st_ok G ρ S L st hp) (hr : sy_gf G x y pc S = some l) : SOk G W M dd mi pc ρ L st hp l := by
  unfold sy_gf at hr
  split at hr
  · rename_i a c r hS
    split at hr
    · rename_i ct hct
      cases hc : (Nat.beq ct.1.1 3 && Nat.beq ct.1.2.1 x && Nat.blt y ct.1.2.2) with
      | false => rw [hc] at hr; cases hr
      | true =>
        rw [hc] at hr
        rw [Bool.and_eq_true] at hc
        have hA := h.2.2.1
        rw [hS] at hA
        obtain ⟨v, r1, e, hv, hA1⟩ := ss_c hA
        have hv : v = .ref a := hv
        subst hv e
        have hh1 := (h.2.2.2.2.1 a ct hct).1
        rw [hd3 hc.1] at hh1
        obtain ⟨fs, e1, e2⟩ := hh_obj hh1
        have hy : y < fs.length := by rw [e2]; exact Nat.le_of_ble_eq_true hc.2
        refine rdP_ok (v := fs[y]) hf h hA1 hct (by rw [hq_at e1]; exact List.getElem?_eq_getElem hy) hr (fun cf K => ?_)
        show (ev_gf hp a x y).bind _ = _
        have e3 : ev_gf hp a x y = some fs[y] := by
          unfold ev_gf
          rw [e1]
          show cond (Nat.beq x x) (fs[y]?) none = _
          rw [Nat.beq_refl, List.getElem?_eq_getElem hy]
          rfl
        rw [e3]
        rfl
    · cases hr
  · rename_i k c r hS
    cases hc : Nat.beq x 200 with
    | false => rw [hc] at hr; cases hr
    | true =>
      rw [hc] at hr
      cases hr
      have hA := h.2.2.1
      rw [hS] at hA
      obtain ⟨v, r1, e, hv, hA1⟩ := ss_c hA
      obtain ⟨n, z, e1, e2, e3, e4⟩ := hv
      subst e1 e
      have hx := Nat.eq_of_beq_eq_true hc
      subst hx
      obtain ⟨τ, f1, f2⟩ := gF_ok (x := ev_lt.getD n 0) h.1
      refine so_mk hf (List.mem_singleton.mpr rfl) (τ := τ) (L2 := L) (st2 := .long (ev_lt.getD n 0) :: r1) (hp2 := hp) ⟨f1, sl_ext h.2.1, ⟨f2, ss_ext hA1⟩, sp_ext h.2.2.2.1, h.2.2.2.2⟩ Agr.rf (fun cf K => ?_)
      show (if 200 = 200 ∧ n < 32 then K (pc + 3) L (.long (ev_lt.getD n 0) :: r1) hp 0 0 else none) = _
      rw [if_pos ⟨rfl, e2⟩]
  · cases hr
/-- a value that a field of this type takes -/
def evS : FieldType → EN → SV → Bool
  | .int, _, (0, _, _) => true
  | .long, _, (1, _, _) => true
  | .boolean, E, (0, k, c) => decide (0 ≤ (eg E k).1 + c) && decide ((eg E k).2.1 + c ≤ 1)
  | .object _, _, (t + 2, _, _) => true
  | .array _, _, (2, _, _) => true
  | _, _, _ => false
theorem i01 {x : Int32} (h1 : 0 ≤ x.toInt) (h2 : x.toInt ≤ 1) : x = 0 ∨ x = 1 := by
  by_cases h : x.toInt = 0
  · exact Or.inl (i32_ofn (n := 0) (by omega))
  · exact Or.inr (i32_ofn (n := 1) (by omega))
theorem evS_ok {ty : FieldType} {E : EN} {a : SV} {v : Value} (hE : en_ok ρ E) (hv : sv_ok ρ a v) (h : evS ty E a = true) : ev_f ty v = true := by
  unfold evS at h
  split at h
  · obtain ⟨x, z, rfl, -, -⟩ := hv; rfl
  · obtain ⟨x, z, rfl, -, -⟩ := hv; rfl
  · obtain ⟨x, z, rfl, e1, e2⟩ := hv
    obtain ⟨a1, a2, -⟩ := eg_ok hE e1
    rw [Bool.and_eq_true] at h
    have q1 := of_decide_eq_true h.1
    have q2 := of_decide_eq_true h.2
    rcases i01 (x := x) (by omega) (by omega) with rfl | rfl <;> rfl
  · rename_i t k c
    match t, hv with
    | 0, hv => rw [show v = _ from hv]; rfl
    | 1, ⟨n, z, e1, _⟩ => rw [e1]; rfl
    | t + 2, hv => rw [show v = _ from hv]; rfl
  · rw [show v = _ from hv]; rfl
  · cases h
def sy_pf (G : GT) (W : WR) (x y pc : Nat) (S : SS) : Option (List (Nat × SS)) := match S.2.2.1 with
  | v :: (2, a, _) :: r => match G.1 a with
    | some ct => cond (Nat.beq ct.1.1 3 && Nat.beq ct.1.2.1 x && Nat.blt y ct.1.2.2 && evS (TY x y) S.1 v && !(FN x y) && wrT W S.1 a y y ct v && grd G.2 S.1 S.2.2.2 a y y v) (some [(pc + 3, (S.1, S.2.1, r, (a, y, v) :: spd S.2.2.2 a y y))]) none
    | none => none
  | _ => none
theorem sy_pf_ok {idx : Nat} (hf : mF M mi pc = some (.putfield idx, x, y)) (h : st_ok G ρ S L st hp) (hr : sy_pf G W x y pc S = some l) : SOk G W M dd mi pc ρ L st hp l := by
  unfold sy_pf at hr
  split at hr
  · rename_i u a c r hS
    split at hr
    · rename_i ct hct
      cases hc : (Nat.beq ct.1.1 3 && Nat.beq ct.1.2.1 x && Nat.blt y ct.1.2.2 && evS (TY x y) S.1 u && !(FN x y) && wrT W S.1 a y y ct u && grd G.2 S.1 S.2.2.2 a y y u) with
      | false => rw [hc] at hr; cases hr
      | true =>
        rw [hc] at hr
        cases hr
        rw [Bool.and_eq_true, Bool.and_eq_true, Bool.and_eq_true, Bool.and_eq_true, Bool.and_eq_true] at hc
        obtain ⟨⟨⟨⟨⟨c1, c2⟩, c3⟩, c4⟩, c5⟩, c6⟩ := hc
        have hA := h.2.2.1
        rw [hS] at hA
        obtain ⟨v, r1, e, hv, hA1⟩ := ss_c hA
        obtain ⟨w, r2, f, hw, hA2⟩ := ss_c hA1
        have hw : w = .ref a := hw
        subst hw f e
        have hh1 := (h.2.2.2.2.1 a ct hct).1
        rw [hd3 c1] at hh1
        obtain ⟨fs, e1, e2⟩ := hh_obj hh1
        have hy : y < fs.length := by rw [e2]; exact Nat.le_of_ble_eq_true c2
        have hU := upd_f (v := v) e1 hy
        obtain ⟨g1, g2⟩ := wr_ok h.1 hv h.2.2.2.1 h.2.2.2.2 hct c5 c6 (Nat.le_refl _) (Nat.le_refl _) hU
        refine so_mk hf (List.mem_singleton.mpr rfl) (τ := []) (L2 := L) (st2 := r2) (hp2 := hp.set a (.inr (x, fs.set y v))) ?_ g2 (fun cf K => ?_)
        · rw [List.append_nil]
          refine ⟨h.1, h.2.1, hA2, ?_, g1⟩
          intro q hq
          rcases List.mem_cons.mp hq with rfl | hq
          · exact ⟨v, hU.2.2, hv⟩
          · exact sp_upd h.2.2.2.1 (Nat.le_refl _) (Nat.le_refl _) hU q hq
        · show (ev_ob hp a x).bind _ = _
          have e3 : ev_ob hp a x = some fs := by
            unfold ev_ob
            rw [e1]
            show cond (Nat.beq x x) (some fs) none = _
            rw [Nat.beq_refl]
            rfl
          rw [e3]
          show (if ev_f (TY x y) v = true ∧ y < fs.length ∧ (FN x y = true → (mY M mi).name = "<init>") then K (pc + 3) L r2 (hp.set a (.inr (x, fs.set y v))) 0 0 else none) = _
          rw [if_pos ⟨evS_ok h.1 hv c3, hy, fun q => by rw [q] at c4; cases c4⟩]
    · cases hr
  · cases hr
/-- what all places from j on, n of them, may hold -/
def allE (l : List (Nat × FT)) (ft : FT) : Nat → Nat → Bool
  | 0, _ => true
  | n + 1, j => (match lkp l j with
    | some f => decide (f = ft)
    | none => false) && allE l ft n (j + 1)
theorem allE_ok {l : List (Nat × FT)} {ft : FT} : ∀ {n j k : Nat}, allE l ft n j = true → j ≤ k → k < j + n → lkp l k = some ft
  | 0, j, k, _, h1, h2 => by omega
  | n + 1, j, k, h, h1, h2 => by
    unfold allE at h
    rw [Bool.and_eq_true] at h
    by_cases e : j = k
    · subst e
      cases hl : lkp l j with
      | none => rw [hl] at h; cases h.1
      | some f => rw [hl] at h; rw [of_decide_eq_true h.1]
    · exact allE_ok h.2 (by omega) (by omega)
def exT (ct : CT) (lo hi : Nat) : FT := match lkp ct.2.2 lo with
  | some ft => cond (allE ct.2.2 ft (hi - lo) (lo + 1)) ft ct.2.1
  | none => ct.2.1
theorem exT_ok {ct : CT} {lo hi k : Nat} {v : Value} (h1 : lo ≤ k) (h2 : k ≤ hi) (hd : ft_ok ct.2.1 v) (he : ∀ ft, lkp ct.2.2 k = some ft → ft_ok ft v) : ft_ok (exT ct lo hi) v := by
  unfold exT
  split
  · rename_i ft hl
    cases ha : allE ct.2.2 ft (hi - lo) (lo + 1) with
    | false => exact hd
    | true =>
      refine he ft ?_
      by_cases e : k = lo
      · rw [e]; exact hl
      · exact allE_ok ha (by omega) (by omega)
  · exact hd
/-- reading at a place of an array: one place, or what any of these places may hold -/
def rdA (G : GT) (a k : Nat) (c : Int) (pc : Nat) (S : SS) (r : List SV) (ct : CT) : Option (List (Nat × SS)) :=
  cond (sing S.1 k) (rdP G a (ixL S.1 k c) pc S r ct) ((ldf S.1 (exT ct (ixL S.1 k c) (ixH S.1 k c))).map (fun q => q.map (fun e => (pc, (e.1, S.2.1, e.2 :: r, S.2.2.2)))))
theorem rdA_ok {a k pc2 n : Nat} {c z : Int} {b : Int32} {A : List SV} {r : List Value} {ct : CT} {v : Value} (hf : mF M mi pc = some (i, x, y)) (h : st_ok G ρ S L st hp) (hA : ss_ok ρ A r) (hct : G.1 a = some ct) (hz : ρ[k]? = some z) (hx : b.toInt = z + c) (hb : ixB S.1 k c n = true) (hv : hq hp a b.toNatClampNeg = some v) (hr : rdA G a k c pc2 S A ct = some l) (hs : ∀ cf K, ev_s M cf mi pc i x y L st hp 0 0 K = K pc2 L (v :: r) hp 0 0) : SOk G W M dd mi pc ρ L st hp l := by
  obtain ⟨q1, q2, q3, q4, q5, q6⟩ := ix_ok h.1 hz hx hb
  unfold rdA at hr
  cases hc : sing S.1 k with
  | true =>
    rw [hc] at hr
    rw [q5 hc] at hv
    exact rdP_ok hf h hA hct hv hr hs
  | false =>
    rw [hc] at hr
    simp only [cond_false] at hr
    cases hl : ldf S.1 (exT ct (ixL S.1 k c) (ixH S.1 k c)) with
    | none => rw [hl] at hr; cases hr
    | some q =>
      rw [hl] at hr
      cases hr
      have hty := (h.2.2.2.2.1 a ct hct).2 _ v hv
      obtain ⟨e, he, τ, e1, e2⟩ := ldf_ok h.1 (exT_ok q3 q4 hty.1 hty.2) hl
      exact so_mk hf (List.mem_map.mpr ⟨e, he, rfl⟩) (τ := τ) (L2 := L) (st2 := v :: r) (hp2 := hp) ⟨e1, sl_ext h.2.1, ⟨e2, ss_ext hA⟩, sp_ext h.2.2.2.1, h.2.2.2.2⟩ Agr.rf hs
theorem SOk.mono {l l2 : List (Nat × SS)} (h : SOk G W M dd mi pc ρ L st hp l) (hl : ∀ s ∈ l, s ∈ l2) : SOk G W M dd mi pc ρ L st hp l2 := by
  obtain ⟨s, h1, h2⟩ := h
  exact ⟨s, hl s h1, h2⟩
/-- reading a row's column, where the column that tells is known and the row is there: what may stand together -/
def rwB (ro a j pc : Nat) (S : SS) (r : List SV) (kg : Nat) (cg : Int) : List (Int × Int × Int × Int) → List (Nat × SS)
  | [] => []
  | b :: l => (match cmpR 3 S.1 kg cg 0 b.1 with
    | none => []
    | some E1 => match cmpR 5 E1 kg cg 0 b.2.1 with
      | none => []
      | some E2 => [(pc, (ef E2 b.2.2.1 (uh b.2.2.2 ro), S.2.1, (0, E2.length, 0) :: r, (a, j, (0, E2.length, 0)) :: S.2.2.2))]) ++ rwB ro a j pc S r kg cg l
def rw1 (a j pc : Nat) (S : SS) (r : List SV) (t : RTB) : Option (List (Nat × SS)) :=
  cond (Nat.beq t.1 a && Nat.blt t.2.2.1 t.2.1 && Nat.beq (j % t.2.1) t.2.2.1) (match spg S.2.2.2 t.2.2.2.2.2.2.1 t.2.2.2.2.2.2.2.1 with
    | some n => cond (isB S.1 n ((j / t.2.1 : Nat) + 1) 2147483647) (match spg S.2.2.2 t.2.2.2.1 (t.2.2.2.2.1 * (j / t.2.1) + t.2.2.2.2.2.1) with
      | some (0, kg, cg) => some (rwB (j / t.2.1) a j pc S r kg cg t.2.2.2.2.2.2.2.2)
      | _ => none) none
    | none => none) none
def rws (a j pc : Nat) (S : SS) (r : List SV) : List RTB → Option (List (Nat × SS))
  | [] => none
  | t :: l => match rw1 a j pc S r t with
    | some q => some q
    | none => rws a j pc S r l
def sy_rw (G : GT) (pc : Nat) (S : SS) : Option (List (Nat × SS)) := match S.2.2.1 with
  | (0, k, c) :: (2, a, _) :: r => match G.1 a with
    | some ct => cond (Nat.beq ct.1.1 0 && Nat.beq ct.1.2.1 1 && ixB S.1 k c ct.1.2.2 && sing S.1 k && (match spg S.2.2.2 a (ixL S.1 k c) with
      | some _ => false
      | none => true)) (rws a (ixL S.1 k c) (pc + 1) S r G.2) none
    | none => none
  | _ => none
theorem rwB_ok {ro a j pc2 kg : Nat} {cg zg : Int} {A : List SV} {r : List Value} {v g : Int32} (hf : mF M mi pc = some (i, x, y)) (h : st_ok G ρ S L st hp) (hA : ss_ok ρ A r) (hv : hq hp a j = some (.int v)) (hzg : ρ[kg]? = some zg) (hg : g.toInt = zg + cg) (hs : ∀ cf K, ev_s M cf mi pc i x y L st hp 0 0 K = K pc2 L (.int v :: r) hp 0 0) : ∀ (bs : List (Int × Int × Int × Int)), (∃ b ∈ bs, b.1 ≤ g.toInt ∧ g.toInt ≤ b.2.1 ∧ b.2.2.1 ≤ v.toInt ∧ v.toInt ≤ uh b.2.2.2 ro) → SOk G W M dd mi pc ρ L st hp (rwB ro a j pc2 S A kg cg bs)
  | [], ⟨b, hb, _⟩ => by cases hb
  | b0 :: bs, ⟨b, hb, h1, h2, h3, h4⟩ => by
    unfold rwB
    rcases List.mem_cons.mp hb with rfl | hb
    · obtain ⟨E1, e1, e2⟩ := cmpR_ok (c := 3) (c1 := cg) (c2 := b.1) h.1 hzg h.1.2.1 (show 0 + b.1 ≤ zg + cg by omega)
      obtain ⟨E2, e3, e4⟩ := cmpR_ok (c := 5) (c1 := cg) (c2 := b.2.1) e2 hzg e2.2.1 (show zg + cg ≤ 0 + b.2.1 by omega)
      rw [e1]
      simp only
      rw [e3]
      simp only
      have he := ef_ok e4 h3 h4
      refine so_mk hf (List.mem_append_left _ (List.mem_singleton.mpr rfl)) (τ := [v.toInt]) (L2 := L) (st2 := .int v :: r) (hp2 := hp) ⟨he.1, sl_ext h.2.1, ⟨⟨v, v.toInt, rfl, he.2, by omega⟩, ss_ext hA⟩, (fun p hp1 => ?_), h.2.2.2.2⟩ Agr.rf hs
      rcases List.mem_cons.mp hp1 with rfl | hp1
      · exact ⟨.int v, hv, v, v.toInt, rfl, he.2, by omega⟩
      · exact sp_ext h.2.2.2.1 p hp1
    · exact SOk.mono (rwB_ok hf h hA hv hzg hg hs bs ⟨b, hb, h1, h2, h3, h4⟩) (fun s hs => List.mem_append_right _ hs)
theorem rws_ok {a j pc2 : Nat} {A : List SV} {r : List Value} {v : Int32} (hf : mF M mi pc = some (i, x, y)) (h : st_ok G ρ S L st hp) (hA : ss_ok ρ A r) (hv : hq hp a j = some (.int v)) (hs : ∀ cf K, ev_s M cf mi pc i x y L st hp 0 0 K = K pc2 L (.int v :: r) hp 0 0) : ∀ (ts : List RTB) (l : List (Nat × SS)), (∀ t ∈ ts, t ∈ G.2) → rws a j pc2 S A ts = some l → SOk G W M dd mi pc ρ L st hp l
  | [], l, _, hr => by cases hr
  | t :: ts, l, ht, hr => by
    unfold rws at hr
    split at hr
    · rename_i q hq1
      cases hr
      have hT := h.2.2.2.2.2 t (ht t List.mem_cons_self)
      obtain ⟨tc, s, o, gc, gs, go, cc, ci, bx⟩ := t
      unfold rw1 at hq1
      simp only at hq1
      cases hc : (Nat.beq tc a && Nat.blt o s && Nat.beq (j % s) o) with
      | false => rw [hc] at hq1; cases hq1
      | true =>
        rw [hc] at hq1
        simp only [cond_true] at hq1
        rw [Bool.and_eq_true, Bool.and_eq_true] at hc
        have m1 := Nat.eq_of_beq_eq_true hc.1.1
        have m2 := Nat.eq_of_beq_eq_true hc.2
        split at hq1
        · rename_i n hn
          cases hb : isB S.1 n ((j / s : Nat) + 1) 2147483647 with
          | false => rw [hb] at hq1; cases hq1
          | true =>
            rw [hb] at hq1
            simp only [cond_true] at hq1
            split at hq1
            · rename_i kg cg hgp
              cases hq1
              obtain ⟨vn, f1, f2⟩ := h.2.2.2.1 _ (spg_mem hn)
              obtain ⟨yn, e1, e2, e3⟩ := isB_ok h.1 f2 hb
              subst e1
              obtain ⟨vg, f3, g, zg, e4, e5, e6⟩ := h.2.2.2.1 _ (spg_mem hgp)
              subst e4
              have hj : s * (j / s) + o = j := by rw [← m2]; exact Nat.div_add_mod j s
              subst m1
              exact rwB_ok hf h hA hv e5 e6 hs bx (hT (j / s) yn g v f1 (by omega) f3 (by simp only; rw [hj]; exact hv))
            · cases hq1
        · cases hq1
    · exact rws_ok hf h hA hv hs ts l (fun t2 h2 => ht t2 (List.mem_cons_of_mem _ h2)) hr
/-- ints (t 1), bytes (0), booleans (3) -/
def sy_ial (G : GT) (ts : List Nat) (pc : Nat) (S : SS) : Option (List (Nat × SS)) := match S.2.2.1 with
  | (0, k, c) :: (2, a, _) :: r => match G.1 a with
    | some ct => cond (Nat.beq ct.1.1 0 && ts.any (fun t => Nat.beq ct.1.2.1 t) && ixB S.1 k c ct.1.2.2) (rdA G a k c (pc + 1) S r ct) none
    | none => none
  | (0, k, c) :: (4, z, _) :: r => cond (Nat.beq z 100 && ts.any (fun t => Nat.beq 1 t) && ixB S.1 k c 32) (cond (sing S.1 k) (some [(pc + 1, (S.1, S.2.1, (0, 0, (ev_sw.getD (ixL S.1 k c) 0).toInt) :: r, S.2.2.2))]) (some [(pc + 1, ((fI S.1 0 26).1, S.2.1, (fI S.1 0 26).2 :: r, S.2.2.2))])) none
  | _ => none
theorem sw_all : ∀ n, n < 32 → 0 ≤ (ev_sw.getD n 0).toInt ∧ (ev_sw.getD n 0).toInt ≤ 26 := by decide +kernel
theorem sw_len : ev_sw.length = 32 := by decide
theorem sy_ial_ok {ts : List Nat} (hts : ∀ (t a : Nat) (b : Int32) (li : List Int32) r cf K, t ∈ ts → hp[a]? = some (.inl (t, .inl li)) → ¬ b < 0 → (hl : b.toNatClampNeg < li.length) → ev_s M cf mi pc i x y L (.int b :: .ref a :: r) hp 0 0 K = K (pc + 1) L (.int li[b.toNatClampNeg] :: r) hp 0 0) (hsw : ∀ (b : Int32) r cf K, 1 ∈ ts → ¬ b < 0 → b.toNatClampNeg < 32 → ev_s M cf mi pc i x y L (.int b :: .retAddr 100 :: r) hp 0 0 K = K (pc + 1) L (.int (ev_sw.getD b.toNatClampNeg 0) :: r) hp 0 0) (hf : mF M mi pc = some (i, x, y)) (h : st_ok G ρ S L st hp) (hr : sy_ial G ts pc S = some l) : SOk G W M dd mi pc ρ L st hp l := by
  unfold sy_ial at hr
  split at hr
  · rename_i k c a c2 r hS
    split at hr
    · rename_i ct hct
      cases hc : (Nat.beq ct.1.1 0 && ts.any (fun t => Nat.beq ct.1.2.1 t) && ixB S.1 k c ct.1.2.2) with
      | false => rw [hc] at hr; cases hr
      | true =>
        rw [hc] at hr
        rw [Bool.and_eq_true, Bool.and_eq_true] at hc
        obtain ⟨⟨c1, c3⟩, c4⟩ := hc
        obtain ⟨t, ht, et⟩ := List.any_eq_true.mp c3
        have hA := h.2.2.1
        rw [hS] at hA
        obtain ⟨v, r1, e, hv, hA1⟩ := ss_c hA
        obtain ⟨w, r2, f, hw, hA2⟩ := ss_c hA1
        have hw : w = .ref a := hw
        obtain ⟨b, z, e1, e2, e3⟩ := hv
        subst hw e1 f e
        have hh1 := (h.2.2.2.2.1 a ct hct).1
        rw [hd3 (s := 0) (x := t) (by rw [c1, et]; rfl)] at hh1
        obtain ⟨li, g1, g2⟩ := hh_ai hh1
        obtain ⟨q1, q2, q3, q4, q5, q6⟩ := ix_ok h.1 e2 e3 c4
        have hl : b.toNatClampNeg < li.length := by rw [g2]; exact q2
        refine rdA_ok (v := .int li[b.toNatClampNeg]) hf h hA2 hct e2 e3 c4 ?_ hr (fun cf K => hts t a b li r2 cf K ht g1 q1 hl)
        rw [hq_at g1]
        show (li[b.toNatClampNeg]?).map _ = _
        rw [List.getElem?_eq_getElem hl]
        rfl
    · cases hr
  · rename_i k c z0 c2 r hS
    cases hc : (Nat.beq z0 100 && ts.any (fun t => Nat.beq 1 t) && ixB S.1 k c 32) with
    | false => rw [hc] at hr; cases hr
    | true =>
      rw [hc] at hr
      simp only [cond_true] at hr
      rw [Bool.and_eq_true, Bool.and_eq_true] at hc
      obtain ⟨⟨c1, c3⟩, c4⟩ := hc
      obtain ⟨t, ht, et⟩ := List.any_eq_true.mp c3
      have et := Nat.eq_of_beq_eq_true et
      subst et
      have hz := Nat.eq_of_beq_eq_true c1
      subst hz
      have hA := h.2.2.1
      rw [hS] at hA
      obtain ⟨v, r1, e, hv, hA1⟩ := ss_c hA
      obtain ⟨w, r2, f, hw, hA2⟩ := ss_c hA1
      have hw : w = .retAddr 100 := hw
      obtain ⟨b, z, e1, e2, e3⟩ := hv
      subst hw e1 f e
      obtain ⟨q1, q2, q3, q4, q5, q6⟩ := ix_ok h.1 e2 e3 c4
      cases hg : sing S.1 k with
      | true =>
        rw [hg] at hr
        cases hr
        refine so_mk hf (List.mem_singleton.mpr rfl) (τ := []) (L2 := L) (st2 := .int (ev_sw.getD b.toNatClampNeg 0) :: r2) (hp2 := hp) ?_ Agr.rf (fun cf K => hsw b r2 cf K ht q1 q2)
        rw [List.append_nil]
        refine ⟨h.1, h.2.1, ⟨⟨_, 0, rfl, h.1.2.1, ?_⟩, hA2⟩, h.2.2.2⟩
        rw [q5 hg]
        show _ = 0 + (ev_sw.getD (ixL S.1 k c) 0).toInt
        omega
      | false =>
        rw [hg] at hr
        cases hr
        obtain ⟨τ, f1, f2⟩ := fI_ok (x := ev_sw.getD b.toNatClampNeg 0) h.1 (sw_all _ q2).1 (sw_all _ q2).2
        exact so_mk hf (List.mem_singleton.mpr rfl) (τ := τ) (L2 := L) (st2 := .int (ev_sw.getD b.toNatClampNeg 0) :: r2) (hp2 := hp) ⟨f1, sl_ext h.2.1, ⟨f2, ss_ext hA2⟩, sp_ext h.2.2.2.1, h.2.2.2.2⟩ Agr.rf (fun cf K => hsw b r2 cf K ht q1 q2)
  · cases hr
def sy_lal (G : GT) (pc : Nat) (S : SS) : Option (List (Nat × SS)) := match S.2.2.1 with
  | (0, k, c) :: (2, a, _) :: r => match G.1 a with
    | some ct => cond (Nat.beq ct.1.1 1 && Nat.beq ct.1.2.1 2 && ixB S.1 k c ct.1.2.2) (rdA G a k c (pc + 1) S r ct) none
    | none => none
  | _ => none
theorem sy_lal_ok (hf : mF M mi pc = some (.laload, x, y)) (h : st_ok G ρ S L st hp) (hr : sy_lal G pc S = some l) : SOk G W M dd mi pc ρ L st hp l := by
  unfold sy_lal at hr
  split at hr
  · rename_i k c a c2 r hS
    split at hr
    · rename_i ct hct
      cases hc : (Nat.beq ct.1.1 1 && Nat.beq ct.1.2.1 2 && ixB S.1 k c ct.1.2.2) with
      | false => rw [hc] at hr; cases hr
      | true =>
        rw [hc] at hr
        rw [Bool.and_eq_true] at hc
        obtain ⟨c1, c4⟩ := hc
        have hA := h.2.2.1
        rw [hS] at hA
        obtain ⟨v, r1, e, hv, hA1⟩ := ss_c hA
        obtain ⟨w, r2, f, hw, hA2⟩ := ss_c hA1
        have hw : w = .ref a := hw
        obtain ⟨b, z, e1, e2, e3⟩ := hv
        subst hw e1 f e
        have hh1 := (h.2.2.2.2.1 a ct hct).1
        rw [hd3 c1] at hh1
        obtain ⟨li, g1, g2⟩ := hh_al hh1
        obtain ⟨q1, q2, q3, q4, q5, q6⟩ := ix_ok h.1 e2 e3 c4
        have hl : b.toNatClampNeg < li.length := by rw [g2]; exact q2
        refine rdA_ok (v := .long li[b.toNatClampNeg]) hf h hA2 hct e2 e3 c4 ?_ hr (fun cf K => ?_)
        · rw [hq_at g1]
          show (li[b.toNatClampNeg]?).map _ = _
          rw [List.getElem?_eq_getElem hl]
          rfl
        · show (ev_al hp a).bind _ = _
          have e4 : ev_al hp a = some (2, li) := by unfold ev_al; rw [g1]
          rw [e4]
          show (if (2 : Nat) = 2 then (ev_rd li b).bind (fun v => K (pc + 1) L (.long v :: r2) hp 0 0) else none) = _
          rw [if_pos rfl, rd_ok q1 hl]
          rfl
    · cases hr
  · cases hr
/-- references: one place, each place by itself, or any of a kind -/
def splG (G : GT) (a k : Nat) (c : Int) (pc : Nat) (S : SS) (r : List SV) (ct : CT) : Nat → Nat → Option (List (Nat × SS))
  | 0, _ => some []
  | m + 1, j => match cmpR 0 S.1 k c 0 (j : Int) with
    | none => splG G a k c pc S r ct m (j + 1)
    | some E => (rdP G a j pc (E, S.2) r ct).bind fun l1 => (splG G a k c pc S r ct m (j + 1)).bind fun l2 => some (l1 ++ l2)
theorem splG_ok {a k pc2 : Nat} {c z : Int} {n : Nat} {A : List SV} {r : List Value} {ct : CT} {v : Value} (hf : mF M mi pc = some (i, x, y)) (h : st_ok G ρ S L st hp) (hA : ss_ok ρ A r) (hct : G.1 a = some ct) (hz : ρ[k]? = some z) (hx : (n : Int) = z + c) (hv : hq hp a n = some v) (hs : ∀ cf K, ev_s M cf mi pc i x y L st hp 0 0 K = K pc2 L (v :: r) hp 0 0) : ∀ (m j : Nat) (l : List (Nat × SS)), j ≤ n → n < j + m → splG G a k c pc2 S A ct m j = some l → SOk G W M dd mi pc ρ L st hp l := by
  intro m
  induction m with
  | zero => intro j l h1 h2; omega
  | succ m ih =>
    intro j l h1 h2 hr
    unfold splG at hr
    split at hr
    · rename_i hn
      by_cases e : j = n
      · subst e
        obtain ⟨E2, e1, -⟩ := cmpR_ok (c := 0) (c1 := c) (c2 := (j : Int)) h.1 hz h.1.2.1 (show z + c = 0 + (j : Int) by omega)
        rw [e1] at hn
        cases hn
      · exact ih (j + 1) l (by omega) (by omega) hr
    · rename_i E hE
      cases h3 : rdP G a j pc2 (E, S.2) A ct with
      | none => rw [h3] at hr; cases hr
      | some l1 =>
        rw [h3] at hr
        cases h4 : splG G a k c pc2 S A ct m (j + 1) with
        | none => rw [h4] at hr; cases hr
        | some l2 =>
          rw [h4] at hr
          cases hr
          by_cases e : j = n
          · subst e
            obtain ⟨E2, e1, e2⟩ := cmpR_ok (c := 0) (c1 := c) (c2 := (j : Int)) h.1 hz h.1.2.1 (show z + c = 0 + (j : Int) by omega)
            rw [e1] at hE
            cases hE
            exact SOk.mono (rdP_ok (S := (E, S.2)) hf ⟨e2, h.2⟩ hA hct hv h3 hs) (fun s hs => List.mem_append_left _ hs)
          · exact SOk.mono (ih (j + 1) l2 (by omega) (by omega) h4) (fun s hs => List.mem_append_right _ hs)
def sy_aal (G : GT) (pc : Nat) (S : SS) : Option (List (Nat × SS)) := match S.2.2.1 with
  | (0, k, c) :: (2, a, _) :: r => match G.1 a with
    | some ct => cond (Nat.beq ct.1.1 2 && Nat.ble 4 ct.1.2.1 && Nat.blt ct.1.2.1 7 && ixB S.1 k c ct.1.2.2) (cond (Nat.beq ct.1.2.1 4) (rdA G a k c (pc + 1) S r ct) (splG G a k c (pc + 1) S r ct ct.1.2.2 0)) none
    | none => none
  | (0, k, c) :: (4, z, _) :: r => cond (Nat.beq z 101 && ixB S.1 k c 32) (some [(pc + 1, (S.1, S.2.1, (3, k, c) :: r, S.2.2.2))]) none
  | _ => none
theorem sy_aal_ok (hf : mF M mi pc = some (.aaload, x, y)) (h : st_ok G ρ S L st hp) (hr : sy_aal G pc S = some l) : SOk G W M dd mi pc ρ L st hp l := by
  unfold sy_aal at hr
  split at hr
  · rename_i k c a c2 r hS
    split at hr
    · rename_i ct hct
      cases hc : (Nat.beq ct.1.1 2 && Nat.ble 4 ct.1.2.1 && Nat.blt ct.1.2.1 7 && ixB S.1 k c ct.1.2.2) with
      | false => rw [hc] at hr; cases hr
      | true =>
        rw [hc] at hr
        simp only [cond_true] at hr
        rw [Bool.and_eq_true, Bool.and_eq_true, Bool.and_eq_true] at hc
        obtain ⟨⟨⟨c1, c2⟩, c3⟩, c4⟩ := hc
        have hA := h.2.2.1
        rw [hS] at hA
        obtain ⟨v, r1, e, hv, hA1⟩ := ss_c hA
        obtain ⟨w, r2, f, hw, hA2⟩ := ss_c hA1
        have hw : w = .ref a := hw
        obtain ⟨b, z, e1, e2, e3⟩ := hv
        subst hw e1 f e
        have hh1 := (h.2.2.2.2.1 a ct hct).1
        rw [hd3 (s := 2) (x := ct.1.2.1) (by rw [c1, Nat.beq_refl]; rfl)] at hh1
        obtain ⟨li, g1, g2⟩ := hh_ar hh1
        obtain ⟨q1, q2, q3, q4, q5, q6⟩ := ix_ok h.1 e2 e3 c4
        have hl : b.toNatClampNeg < li.length := by rw [g2]; exact q2
        have hv : hq hp a b.toNatClampNeg = some (ev_ro ct.1.2.1 li[b.toNatClampNeg]) := by
          rw [hq_at g1]
          show (li[b.toNatClampNeg]?).map _ = _
          rw [List.getElem?_eq_getElem hl]
          rfl
        have hs : ∀ cf K, ev_s M cf mi pc .aaload x y L (.int b :: .ref a :: r2) hp 0 0 K = K (pc + 1) L (ev_ro ct.1.2.1 li[b.toNatClampNeg] :: r2) hp 0 0 := fun cf K => by
          show (ev_ar hp a).bind _ = _
          have e4 : ev_ar hp a = some (ct.1.2.1, li) := by unfold ev_ar; rw [g1]
          rw [e4]
          show (if 4 ≤ ct.1.2.1 ∧ ct.1.2.1 < 7 then (ev_rd li b).bind (fun v => K (pc + 1) L (ev_ro ct.1.2.1 v :: r2) hp 0 0) else none) = _
          rw [if_pos ⟨Nat.le_of_ble_eq_true c2, Nat.le_of_ble_eq_true c3⟩, rd_ok q1 hl]
          rfl
        cases ht : Nat.beq ct.1.2.1 4 with
        | true => rw [ht] at hr; exact rdA_ok hf h hA2 hct e2 e3 c4 hv hr hs
        | false => rw [ht] at hr; exact splG_ok hf h hA2 hct e2 q6 hv hs _ 0 l (by omega) (by omega) hr
    · cases hr
  · rename_i k c z0 c2 r hS
    cases hc : (Nat.beq z0 101 && ixB S.1 k c 32) with
    | false => rw [hc] at hr; cases hr
    | true =>
      rw [hc] at hr
      cases hr
      rw [Bool.and_eq_true] at hc
      have hz := Nat.eq_of_beq_eq_true hc.1
      subst hz
      have hA := h.2.2.1
      rw [hS] at hA
      obtain ⟨v, r1, e, hv, hA1⟩ := ss_c hA
      obtain ⟨w, r2, f, hw, hA2⟩ := ss_c hA1
      have hw : w = .retAddr 101 := hw
      obtain ⟨b, z, e1, e2, e3⟩ := hv
      subst hw e1 f e
      obtain ⟨q1, q2, q3, q4, q5, q6⟩ := ix_ok h.1 e2 e3 hc.2
      refine so_mk hf (List.mem_singleton.mpr rfl) (τ := []) (L2 := L) (st2 := .retAddr b.toNatClampNeg :: r2) (hp2 := hp) ?_ Agr.rf (fun cf K => ?_)
      · rw [List.append_nil]
        exact ⟨h.1, h.2.1, ⟨⟨_, z, rfl, q2, e2, q6⟩, hA2⟩, h.2.2.2⟩
      · show (if 101 = 101 then (ev_ix b 32).bind (fun n => K (pc + 1) L (.retAddr n :: r2) hp 0 0) else none) = _
        rw [if_pos rfl]
        have e4 : ev_ix b 32 = some b.toNatClampNeg := by
          unfold ev_ix
          rw [if_neg (fun q => by rcases q with q | q; exact q1 q; omega)]
        rw [e4]
        rfl
  · cases hr
theorem sy_rw_ok (hf : mF M mi pc = some (.iaload, x, y)) (h : st_ok G ρ S L st hp) (hr : sy_rw G pc S = some l) : SOk G W M dd mi pc ρ L st hp l := by
  unfold sy_rw at hr
  split at hr
  · rename_i k c a c2 r hS
    split at hr
    · rename_i ct hct
      cases hc : (Nat.beq ct.1.1 0 && Nat.beq ct.1.2.1 1 && ixB S.1 k c ct.1.2.2 && sing S.1 k && (match spg S.2.2.2 a (ixL S.1 k c) with
        | some _ => false
        | none => true)) with
      | false => rw [hc] at hr; cases hr
      | true =>
        rw [hc] at hr
        simp only [cond_true] at hr
        simp only [Bool.and_eq_true] at hc
        obtain ⟨⟨⟨⟨c1, c3⟩, c4⟩, c5⟩, -⟩ := hc
        have hA := h.2.2.1
        rw [hS] at hA
        obtain ⟨v, r1, e, hv, hA1⟩ := ss_c hA
        obtain ⟨w, r2, f, hw, hA2⟩ := ss_c hA1
        have hw : w = .ref a := hw
        obtain ⟨b, z, e1, e2, e3⟩ := hv
        subst hw e1 f e
        have hh1 := (h.2.2.2.2.1 a ct hct).1
        rw [hd3 (s := 0) (x := 1) (by rw [c1, c3]; rfl)] at hh1
        obtain ⟨li, g1, g2⟩ := hh_ai hh1
        obtain ⟨q1, q2, q3, q4, q5, q6⟩ := ix_ok h.1 e2 e3 c4
        have hl : b.toNatClampNeg < li.length := by rw [g2]; exact q2
        have ej := q5 c5
        refine rws_ok (v := li[b.toNatClampNeg]) hf h hA2 ?_ (fun cf K => ?_) G.2 l (fun _ ht => ht) hr
        · rw [← ej, hq_at g1]
          show (li[b.toNatClampNeg]?).map _ = _
          rw [List.getElem?_eq_getElem hl]
          rfl
        · show (ev_ai hp a).bind _ = _
          have e4 : ev_ai hp a = some (1, li) := by unfold ev_ai; rw [g1]
          rw [e4]
          show (if (1 : Nat) = 1 then (ev_rd li b).bind (fun v => K (pc + 1) L (.int v :: r2) hp 0 0) else none) = _
          rw [if_pos rfl, rd_ok q1 hl]
          rfl
    · cases hr
  · cases hr
/-- whom one is wed to: place by place -/
def sy_wd (G : GT) (pc : Nat) (S : SS) : Option (List (Nat × SS)) := match S.2.2.1 with
  | (0, k, c) :: (2, a, _) :: r => match G.1 a with
    | some ct => cond (Nat.beq ct.1.1 0 && Nat.beq ct.1.2.1 1 && ixB S.1 k c ct.1.2.2 && !(sing S.1 k) && decide (exT ct (ixL S.1 k c) (ixH S.1 k c) = (0, -1, 6))) (splG G a k c (pc + 1) S r ct (ixH S.1 k c + 1 - ixL S.1 k c) (ixL S.1 k c)) none
    | none => none
  | _ => none
theorem sy_wd_ok (hf : mF M mi pc = some (.iaload, x, y)) (h : st_ok G ρ S L st hp) (hr : sy_wd G pc S = some l) : SOk G W M dd mi pc ρ L st hp l := by
  unfold sy_wd at hr
  split at hr
  · rename_i k c a c2 r hS
    split at hr
    · rename_i ct hct
      cases hc : (Nat.beq ct.1.1 0 && Nat.beq ct.1.2.1 1 && ixB S.1 k c ct.1.2.2 && !(sing S.1 k) && decide (exT ct (ixL S.1 k c) (ixH S.1 k c) = (0, -1, 6))) with
      | false => rw [hc] at hr; cases hr
      | true =>
        rw [hc] at hr
        simp only [cond_true] at hr
        simp only [Bool.and_eq_true] at hc
        obtain ⟨⟨⟨⟨c1, c3⟩, c4⟩, -⟩, -⟩ := hc
        have hA := h.2.2.1
        rw [hS] at hA
        obtain ⟨v, r1, e, hv, hA1⟩ := ss_c hA
        obtain ⟨w, r2, f, hw, hA2⟩ := ss_c hA1
        have hw : w = .ref a := hw
        obtain ⟨b, z, e1, e2, e3⟩ := hv
        subst hw e1 f e
        have hh1 := (h.2.2.2.2.1 a ct hct).1
        rw [hd3 (s := 0) (x := 1) (by rw [c1, c3]; rfl)] at hh1
        obtain ⟨li, g1, g2⟩ := hh_ai hh1
        obtain ⟨q1, q2, q3, q4, q5, q6⟩ := ix_ok h.1 e2 e3 c4
        have hl : b.toNatClampNeg < li.length := by rw [g2]; exact q2
        refine splG_ok (v := .int li[b.toNatClampNeg]) hf h hA2 hct e2 q6 ?_ (fun cf K => ?_) _ _ l q3 (by omega) hr
        · rw [hq_at g1]
          show (li[b.toNatClampNeg]?).map _ = _
          rw [List.getElem?_eq_getElem hl]
          rfl
        · show (ev_ai hp a).bind _ = _
          have e4 : ev_ai hp a = some (1, li) := by unfold ev_ai; rw [g1]
          rw [e4]
          show (if (1 : Nat) = 1 then (ev_rd li b).bind (fun v => K (pc + 1) L (.int v :: r2) hp 0 0) else none) = _
          rw [if_pos rfl, rd_ok q1 hl]
          rfl
    · cases hr
  · cases hr
end
