section
/-! ===== what the calls' ends say, in general ===== -/
theorem sv_i {ρ : List Int} {k : Nat} {z : Int32} (h : ρ[k]? = some z.toInt) : sv_ok ρ (0, k, 0) (.int z) := ⟨z, _, rfl, h, (Int.add_zero _).symm⟩
/-- an answer that is one constant -/
theorem end_k {G : GT} {C : CO} {ρ : List Int} {hp : List AE} {r : Int32} {hc : List AE} {v : Int} (h : (cO C).all (fun o => match o.1 with
  | some (0, 0, c) => decide (c = v)
  | _ => false) = true) (he : EndOk G C ρ hp (some (.int r), hc)) : r.toInt = v := by
  obtain ⟨-, -, o, ho, τ, t1, -, t3⟩ := he
  have h2 := List.all_eq_true.mp h o ho
  split at h2
  · rename_i c hs
    rw [hs] at t3
    obtain ⟨x, z, e1, e2, e3⟩ := (show sv_ok (ρ ++ τ) (0, 0, c) (.int r) from t3)
    cases e1
    rw [t1.2.1] at e2
    cases e2
    have := of_decide_eq_true h2
    omega
  · cases h2
/-- a place that an end says to hold one constant -/
def outV (C : CO) (a i : Nat) (v : Int) : Bool := (cO C).all (fun o => match spg o.2.2.1 a i with
  | some (0, 0, c) => decide (c = v)
  | _ => false)
theorem outV_ok {G : GT} {C : CO} {ρ : List Int} {hp : List AE} {q : ev_R} {a i : Nat} {v : Int} (h : outV C a i v = true) (he : EndOk G C ρ hp q) : ∃ x : Int32, hq q.2 a i = some (.int x) ∧ x.toInt = v := by
  obtain ⟨-, -, o, ho, τ, t1, t2, -⟩ := he
  have h2 := List.all_eq_true.mp h o ho
  split at h2
  · rename_i c hs
    have hc := of_decide_eq_true h2
    subst hc
    exact sp_cst hs t2 t1.2.1
  · cases h2
theorem hp_tl {hp : List AE} {z : Int32} (h : hp_ok GG hp) (hz : hq hp 1 1 = some (.int z)) : 0 ≤ z.toInt ∧ z.toInt ≤ 940 := by
  obtain ⟨y, e1, e2, e3⟩ := (show ft_ok (0, 0, 940) (.int z) from ((h.1 1 gc1 rfl).2 1 _ hz).2 (0, 0, 940) (by decide +kernel))
  cases e1
  exact ⟨e2, e3⟩
/-- entries: any ints, and one more variable -/
theorem en_more (zs : List Int32) {z lo hi : Int} (h1 : lo ≤ z) (h2 : z ≤ hi) : en_ok ((0 :: zs.map (fun z => z.toInt)) ++ [z]) (ef ((0, 0, 0, 0, 0, 0) :: List.replicate zs.length (-2147483648, 2147483647, 0, -2147483648, 0, 2147483647)) lo hi) := (ef_ok (en_full zs) h1 h2).1
theorem en_one {z lo hi : Int} (h1 : lo ≤ z) (h2 : z ≤ hi) : en_ok [0, z] [(0, 0, 0, 0, 0, 0), (lo, hi, 0, lo, 0, hi)] := (ef_ok (en_full []) h1 h2).1
theorem en_two {z w lo hi lo2 hi2 : Int} {p d q f : Int} {i j : Nat} (h1 : lo ≤ z) (h2 : z ≤ hi) (h3 : lo2 ≤ w) (h4 : w ≤ hi2) (hi0 : [0, z, w][i]? = some p) (hj : [0, z, w][j]? = some q) (hp : p + d ≤ z) (hf : q + f ≤ w) : en_ok [0, z, w] [(0, 0, 0, 0, 0, 0), (lo, hi, i, d, 0, hi), (lo2, hi2, j, f, 0, hi2)] := by
  refine ⟨rfl, rfl, fun k e he => ?_⟩
  match k, he with
  | 0, he => cases he; exact ⟨0, 0, 0, rfl, by decide, by decide, rfl, by decide, rfl, by decide⟩
  | 1, he => cases he; exact ⟨z, p, 0, rfl, h1, h2, hi0, hp, rfl, by simp only; omega⟩
  | 2, he => cases he; exact ⟨w, q, 0, rfl, h3, h4, hj, hf, rfl, by simp only; omega⟩
  | k + 3, he => cases he
/-- the value of an int's place -/
def gtI (hp : List AE) (a i : Nat) : Int := match hq hp a i with
  | some (.int x) => x.toInt
  | _ => 0
theorem gtI_ok {hp : List AE} {a i : Nat} {x : Int32} (h : hq hp a i = some (.int x)) : gtI hp a i = x.toInt := by unfold gtI; rw [h]
def rwR (hp : List AE) : List Int := 0 :: (List.range 242).map (fun j => gtI hp 182 (154 + j))
theorem rwR_at {hp : List AE} {j : Nat} (hj : j < 242) : (rwR hp)[j + 1]? = some (gtI hp 182 (154 + j)) := by
  unfold rwR
  rw [List.getElem?_cons_succ, List.getElem?_map, List.getElem?_range hj]
  rfl
def rwE : EN := (0, 0, 0, 0, 0, 0) :: (List.range 242).map (fun j => if j = 1 then ((0, 59, 0, 0, 0, 59) : EE) else (-2147483648, 2147483647, 0, -2147483648, 0, 2147483647))
def rwP : SP := (List.range 242).map (fun j => (182, 154 + j, (0, j + 1, 0)))
theorem rw_x {hp : List AE} (h : hp_ok GG hp) {j : Nat} (hj : j < 242) : ∃ x : Int32, hq hp 182 (154 + j) = some (.int x) := by
  obtain ⟨x, hx, -⟩ := hp_i (a := 182) (i := 154 + j) (ct := gc182) h rfl rfl (by omega) rfl
  exact ⟨x, hx⟩
theorem rw_en {hp : List AE} (h : hp_ok GG hp) : en_ok (rwR hp) rwE := by
  refine ⟨by unfold rwR rwE; simp, rfl, fun k e he => ?_⟩
  cases k with
  | zero => cases he; exact ⟨0, 0, 0, rfl, by decide, by decide, rfl, by decide, rfl, by decide⟩
  | succ k =>
    have hk : k < 242 := by
      have := (List.getElem?_eq_some_iff.mp he).1
      unfold rwE at this
      simp at this
      omega
    obtain ⟨x, hx⟩ := rw_x h hk
    have hz := rwR_at (hp := hp) hk
    rw [gtI_ok hx] at hz
    unfold rwE at he
    rw [List.getElem?_cons_succ, List.getElem?_map, List.getElem?_range hk] at he
    have a1 := i32_lo x
    have a2 := i32_hi x
    by_cases h1 : k = 1
    · subst h1
      cases he
      obtain ⟨y, y1, y2, y3⟩ := hp_155 h
      rw [hx] at y1
      cases y1
      exact ⟨x.toInt, 0, 0, hz, y2, y3, rfl, by simp only [if_true]; omega, rfl, by simp only [if_true]; omega⟩
    · have he : some (if k = 1 then ((0, 59, 0, 0, 0, 59) : EE) else (-2147483648, 2147483647, 0, -2147483648, 0, 2147483647)) = some e := he
      rw [if_neg h1] at he
      cases he
      exact ⟨x.toInt, 0, 0, hz, a1, a2, rfl, by simp only; omega, rfl, by simp only; omega⟩
theorem rw_sp {hp : List AE} (h : hp_ok GG hp) : sp_ok (rwR hp) rwP hp := by
  intro q hq
  unfold rwP at hq
  obtain ⟨j, hj, rfl⟩ := List.mem_map.mp hq
  have hj := List.mem_range.mp hj
  obtain ⟨x, hx⟩ := rw_x h hj
  exact ⟨.int x, hx, sv_i (by rw [rwR_at hj, gtI_ok hx])⟩
theorem sp_ext2 {ρ τ : List Int} {P : SP} {hp : List AE} (h : sp_ok ρ P hp) : sp_ok (ρ ++ τ) P hp := sp_ext h
/-- an end that leaves the rows as they were at the entry -/
theorem rr_same {C : CO} {o : OUT} {ρ τ : List Int} {h0 h1 : List AE} (hP : sp_ok ρ (cP C) h0) (hQ : sp_ok (ρ ++ τ) o.2.2.1 h1) (h : sp_eqs o.2.2.1 (cP C) 182 0 182 0 154 242 = true) (R : RR h0 182 0) : RR h1 182 0 :=
  rr_cp (fun i e1 e2 => sp_eqs_ok h hQ (sp_ext hP) i e1 (by omega)) R
/-- an end that says that there is no sentence -/
def no154 (o : OUT) : Bool := match spg o.2.2.1 182 154 with
  | some (0, 0, c) => decide (c = 0)
  | _ => false
theorem rr_no {o : OUT} {ρ : List Int} {h1 : List AE} (hG : hp_ok GG h1) (hQ : sp_ok ρ o.2.2.1 h1) (h0 : ρ[0]? = some 0) (h : no154 o = true) : RR h1 182 0 := by
  unfold no154 at h
  split at h
  · rename_i c hs
    have hc := of_decide_eq_true h
    subst hc
    obtain ⟨x, x1, x2⟩ := sp_cst hs hQ h0
    obtain ⟨t, t1, -⟩ := hp_155 hG
    exact ⟨x, t, x1, t1, Or.inl x2⟩
  · cases h
/-- an end that has taken a sentence over -/
def senB (o : OUT) : Bool := (match spg o.2.2.1 182 154 with
  | some (0, 0, c) => decide (c = 1)
  | _ => false) && (match (spg o.2.2.1 182 155).bind isV0, (spg o.2.2.1 180 48).bind isV0 with
  | some u, some v => decide (u.2 = 0) && decide (v.2 = 0) && (match o.2.1[v.1]? with
    | some e => Nat.beq e.2.2.1 u.1 && decide (1 ≤ e.2.2.2.1)
    | none => false)
  | _, _ => false) && (List.range 240).all (fun j => sp_eqB o.2.2.1 o.2.2.1 182 202 (156 + j) j)
theorem rr_sen {o : OUT} {ρ : List Int} {h1 : List AE} (hG : hp_ok GG h1) (hE : en_ok ρ o.2.1) (hQ : sp_ok ρ o.2.2.1 h1) (h : senB o = true) : RR h1 182 0 := by
  unfold senB at h
  rw [Bool.and_eq_true, Bool.and_eq_true] at h
  obtain ⟨⟨ha, hb⟩, hc⟩ := h
  split at ha
  · rename_i c hs
    have hc1 := of_decide_eq_true ha
    subst hc1
    obtain ⟨x, x1, x2⟩ := sp_cst hs hQ hE.2.1
    split at hb
    · rename_i u v hu hv
      rw [Bool.and_eq_true, Bool.and_eq_true] at hb
      obtain ⟨⟨b1, b2⟩, b3⟩ := hb
      have b1 := of_decide_eq_true b1
      have b2 := of_decide_eq_true b2
      split at b3
      · rename_i e he
        rw [Bool.and_eq_true] at b3
        have c1 := Nat.eq_of_beq_eq_true b3.1
        have c2 := of_decide_eq_true b3.2
        obtain ⟨p, p1, p2⟩ := Option.bind_eq_some_iff.mp hu
        obtain ⟨q, q1, q2⟩ := Option.bind_eq_some_iff.mp hv
        obtain ⟨tv, t1, t2⟩ := hQ _ (spg_mem p1)
        obtain ⟨nv, n1, n2⟩ := hQ _ (spg_mem q1)
        have t2 : sv_ok ρ p tv := t2
        have n2 : sv_ok ρ q nv := n2
        rw [isV0_ok p2, b1] at t2
        rw [isV0_ok q2, b2] at n2
        obtain ⟨t, tz, r1, r2, r3⟩ := t2
        obtain ⟨n, nz, s1, s2, s3⟩ := n2
        obtain ⟨z', w, -, a1, -, -, a4, a5, -⟩ := hE.2.2 v.1 e he
        rw [s2] at a1
        cases a1
        rw [c1, r2] at a4
        cases a4
        have hlt : t.toInt < n.toInt := by omega
        refine ⟨x, t, x1, by rw [← r1]; exact t1, Or.inr ⟨x2, fun r hr ht g xx y g1 g2 g3 => ?_⟩⟩
        have row : ∀ j, j < 240 → hq h1 182 (156 + j) = hq h1 202 j := fun j hj => sp_eqB_ok (List.all_eq_true.mp hc j (List.mem_range.mpr hj)) hQ hQ
        rw [Nat.zero_add, row (4 * r) (by omega)] at g1
        rw [Nat.zero_add, show 157 + 4 * r = 156 + (4 * r + 1) by omega, row (4 * r + 1) (by omega)] at g2
        rw [Nat.zero_add, show 158 + 4 * r = 156 + (4 * r + 2) by omega, row (4 * r + 2) (by omega)] at g3
        have n1 : hq h1 180 48 = some (.int n) := by rw [← s1]; exact n1
        have tb1 := hG.2 _ (List.mem_of_getElem? (l := GG.2) (i := 3) rfl) r n g xx n1 (by omega) g1 g2
        have tb2 := hG.2 _ (List.mem_of_getElem? (l := GG.2) (i := 4) rfl) r n g y n1 (by omega) g1 g3
        have hu2 : uh 2199023255551 r = (r : Int) - 1 := by
          unfold uh
          rw [show decide ((2199023255551 : Int) < 1099511627776) = false from by decide]
          show (2199023255551 : Int) - 2199023255552 + (r : Int) = _
          omega
        refine ⟨fun k1 k2 => ?_, fun k1 k2 => ?_⟩
        · obtain ⟨bb, hbb, m1, m2, m3, m4⟩ := tb1
          rcases List.mem_cons.mp hbb with rfl | hbb
          · have m3 : 0 ≤ xx.toInt := m3
            have m4 : xx.toInt ≤ uh 2199023255551 r := m4
            rw [hu2] at m4
            exact ⟨m3, by omega⟩
          · rcases List.mem_cons.mp hbb with rfl | hbb
            · have m2 : g.toInt ≤ 0 := m2
              omega
            · rcases List.mem_cons.mp hbb with rfl | hbb
              · have m1 : 4 ≤ g.toInt := m1
                omega
              · cases hbb
        · obtain ⟨bb, hbb, m1, m2, m3, m4⟩ := tb2
          rcases List.mem_cons.mp hbb with rfl | hbb
          · have m3 : 0 ≤ y.toInt := m3
            have m4 : y.toInt ≤ uh 2199023255551 r := m4
            rw [hu2] at m4
            exact ⟨m3, by omega⟩
          · rcases List.mem_cons.mp hbb with rfl | hbb
            · have m2 : g.toInt ≤ 1 := m2
              omega
            · rcases List.mem_cons.mp hbb with rfl | hbb
              · have m1 : 4 ≤ g.toInt := m1
                omega
              · cases hbb
      · cases b3
    · cases hb
  · cases ha
theorem gk_to {T : Nat} {hp : List AE} (h : hp_ok (GK T) hp) : hp_ok GG hp := ⟨h.1, fun t ht => h.2 t (gk_gg t ht)⟩
theorem hp_kept {hp : List AE} (h : hp_ok GG hp) {k : Nat} (hk : k < 2) : ∃ x : Int32, hq hp 190 k = some (.int x) ∧ (x.toInt = 0 ∨ x.toInt = 1) := by
  obtain ⟨x, hx, h1, h2, -⟩ := hp_i (a := 190) (i := k) (ct := gc190) h rfl rfl hk rfl
  exact ⟨x, hx, by omega⟩
end
section
/-! ===== runs of the small machine by hand: a row an instruction; copies of arrays ===== -/
section
variable {M : MT} {dd mi pc x y : Nat} {L : List (Nat × Value)} {st : List Value} {hp : List AE} {q : ev_R}
theorem rt_ild {n : Fin 4} {z : Int32} (hf : mF M mi pc = some (.iload_n n, x, y)) (hg : ev_g L n = some (.int z)) (h : RT M dd mi (pc + 1) L (.int z :: st) hp q) : RT M dd mi pc L st hp q :=
  RT_step hf (fun cf K => by show (ev_g L n).bind _ = _; rw [hg]; rfl) h
theorem rt_ald {n : Fin 4} {a : Nat} (hf : mF M mi pc = some (.aload_n n, x, y)) (hg : ev_g L n = some (.ref a)) (h : RT M dd mi (pc + 1) L (.ref a :: st) hp q) : RT M dd mi pc L st hp q :=
  RT_step hf (fun cf K => by show (ev_g L n).bind _ = _; rw [hg]; rfl) h
theorem rt_ist {n : Fin 4} {z : Int32} (hf : mF M mi pc = some (.istore_n n, x, y)) (hn : (n : Nat) < mL M mi) (h : RT M dd mi (pc + 1) (ev_s1 L n (.int z)) st hp q) : RT M dd mi pc L (.int z :: st) hp q :=
  RT_step hf (fun cf K => by show (if (n : Nat) < mL M mi then _ else none) = _; rw [if_pos hn]) h
theorem rt_inc {n : Nat} {d : Int} {z : Int32} (hf : mF M mi pc = some (.iinc n d, x, y)) (hg : ev_g L n = some (.int z)) (hn : n < mL M mi) (h : RT M dd mi (pc + 3) (ev_s1 L n (.int (z + Int32.ofInt d))) st hp q) : RT M dd mi pc L st hp q :=
  RT_step hf (fun cf K => by
    show (ev_g L n).bind _ = _
    rw [hg]
    show (if n < mL M mi then _ else none) = _
    rw [if_pos hn]) h
theorem rt_gf {idx a : Nat} {v : Value} (hf : mF M mi pc = some (.getfield idx, x, y)) (hg : ev_gf hp a x y = some v) (h : RT M dd mi (pc + 3) L (v :: st) hp q) : RT M dd mi pc L (.ref a :: st) hp q :=
  RT_step hf (fun cf K => by show (ev_gf hp a x y).bind _ = _; rw [hg]; rfl) h
theorem nI_c {i : Nat} (hb : i < 2147483648) : (Int32.ofNat i).toNatClampNeg = i := nI_clamp (n := i) hb
theorem rd_nat {α : Type} {l : List α} {i : Nat} {v : α} (hi : l[i]? = some v) (hb : i < 2147483648) : ev_rd l (Int32.ofNat i) = some v := by
  unfold ev_rd
  rw [if_neg (show ¬ Int32.ofNat i < 0 from nI_pos (n := i) hb), nI_c hb]
  exact hi
theorem rt_iald {i a : Nat} {l : List Int32} {v : Int32} (hf : mF M mi pc = some (.iaload, x, y)) (ha : ev_ai hp a = some (1, l)) (hi : l[i]? = some v) (hb : i < 2147483648) (h : RT M dd mi (pc + 1) L (.int v :: st) hp q) : RT M dd mi pc L (.int (Int32.ofNat i) :: .ref a :: st) hp q :=
  RT_step hf (fun cf K => by
    show (ev_ai hp a).bind _ = _
    rw [ha]
    show (ev_rd l (Int32.ofNat i)).bind _ = _
    rw [rd_nat hi hb]
    rfl) h
theorem rt_iast {i a : Nat} {l : List Int32} {v : Int32} (hf : mF M mi pc = some (.iastore, x, y)) (ha : ev_ai hp a = some (1, l)) (hi : i < l.length) (hb : i < 2147483648) (h : RT M dd mi (pc + 1) L st (hp.set a (.inl (1, .inl (l.set i v)))) q) : RT M dd mi pc L (.int v :: .int (Int32.ofNat i) :: .ref a :: st) hp q :=
  RT_step hf (fun cf K => by
    show (ev_ai hp a).bind _ = _
    rw [ha]
    show (ev_rd l (Int32.ofNat i)).bind (fun _ => K (pc + 1) L st (hp.set a (.inl (1, .inl (l.set (Int32.ofNat i).toNatClampNeg v)))) 0 0) = _
    rw [rd_nat (List.getElem?_eq_getElem hi) hb, nI_c hb]
    rfl) h
theorem rt_lald {i a : Nat} {l : List Int64} {v : Int64} (hf : mF M mi pc = some (.laload, x, y)) (ha : ev_al hp a = some (2, l)) (hi : l[i]? = some v) (hb : i < 2147483648) (h : RT M dd mi (pc + 1) L (.long v :: st) hp q) : RT M dd mi pc L (.int (Int32.ofNat i) :: .ref a :: st) hp q :=
  RT_step hf (fun cf K => by
    show (ev_al hp a).bind _ = _
    rw [ha]
    show (ev_rd l (Int32.ofNat i)).bind _ = _
    rw [rd_nat hi hb]
    rfl) h
theorem rt_last {i a : Nat} {l : List Int64} {v : Int64} (hf : mF M mi pc = some (.lastore, x, y)) (ha : ev_al hp a = some (2, l)) (hi : i < l.length) (hb : i < 2147483648) (h : RT M dd mi (pc + 1) L st (hp.set a (.inl (2, .inr (.inl (l.set i v))))) q) : RT M dd mi pc L (.long v :: .int (Int32.ofNat i) :: .ref a :: st) hp q :=
  RT_step hf (fun cf K => by
    show (ev_al hp a).bind _ = _
    rw [ha]
    show (ev_rd l (Int32.ofNat i)).bind (fun _ => K (pc + 1) L st (hp.set a (.inl (2, .inr (.inl (l.set (Int32.ofNat i).toNatClampNeg v))))) 0 0) = _
    rw [rd_nat (List.getElem?_eq_getElem hi) hb, nI_c hb]
    rfl) h
theorem rt_zast {i a : Nat} {l : List Int32} (hf : mF M mi pc = some (.bastore, x, y)) (ha : ev_ai hp a = some (3, l)) (hi : i < l.length) (hb : i < 2147483648) (h : RT M dd mi (pc + 1) L st (hp.set a (.inl (3, .inl (l.set i 1)))) q) : RT M dd mi pc L (.int 1 :: .int (Int32.ofNat i) :: .ref a :: st) hp q :=
  RT_step hf (fun cf K => by
    show (ev_ai hp a).bind _ = _
    rw [ha]
    show (ev_rd l (Int32.ofNat i)).bind (fun _ => K (pc + 1) L st (hp.set a (.inl (3, .inl (l.set (Int32.ofNat i).toNatClampNeg 1)))) 0 0) = _
    rw [rd_nat (List.getElem?_eq_getElem hi) hb, nI_c hb]
    rfl) h
theorem rt_geT {off : Int} {a b : Int32} (hf : mF M mi pc = some (.if_icmp .ge off, x, y)) (hc : b ≤ a) (h : RT M dd mi x L st hp q) : RT M dd mi pc L (.int b :: .int a :: st) hp q :=
  RT_step hf (fun cf K => by show K (if b ≤ a then x else pc + 3) L st hp 0 0 = _; rw [if_pos hc]) h
theorem rt_geF {off : Int} {a b : Int32} (hf : mF M mi pc = some (.if_icmp .ge off, x, y)) (hc : ¬ b ≤ a) (h : RT M dd mi (pc + 3) L st hp q) : RT M dd mi pc L (.int b :: .int a :: st) hp q :=
  RT_step hf (fun cf K => by show K (if b ≤ a then x else pc + 3) L st hp 0 0 = _; rw [if_neg hc]) h
theorem rt_put {idx a : Nat} {fs : List Value} {v : Value} (hf : mF M mi pc = some (.putfield idx, x, y)) (ha : hp[a]? = some (.inr (x, fs))) (hv : ev_f (TY x y) v = true) (hy : y < fs.length) (hn : FN x y = false) (h : RT M dd mi (pc + 3) L st (hp.set a (.inr (x, fs.set y v))) q) : RT M dd mi pc L (v :: .ref a :: st) hp q :=
  RT_step hf (fun cf K => by
    show (ev_ob hp a x).bind (fun fs => if ev_f (TY x y) v = true ∧ y < fs.length ∧ (FN x y = true → (mY M mi).name = "<init>") then K (pc + 3) L st (hp.set a (.inr (x, fs.set y v))) 0 0 else none) = _
    have ho : ev_ob hp a x = some fs := by
      unfold ev_ob
      rw [ha]
      show cond (Nat.beq x x) (some fs) none = some fs
      rw [Nat.beq_refl]
      rfl
    rw [ho]
    show (if ev_f (TY x y) v = true ∧ y < fs.length ∧ (FN x y = true → (mY M mi).name = "<init>") then K (pc + 3) L st (hp.set a (.inr (x, fs.set y v))) 0 0 else none) = _
    rw [if_pos ⟨hv, hy, fun e => by rw [hn] at e; cases e⟩]) h
theorem rt_irt {z : Int32} (hf : mF M mi pc = some (.ireturn, x, y)) (hr : ev_rt (mR M mi) z = true) (hm : mC M mi = 0 ∧ mS M mi = 0) : RT M dd mi pc L [.int z] hp (some (.int z), hp) :=
  RT_ret hf (fun cf K => by
    show (if ev_rt (mR M mi) z = true then ev_end M mi (some (.int z)) [] hp 0 0 else none) = _
    rw [if_pos hr]
    unfold ev_end
    rw [hm.1, hm.2]
    rfl)
end
theorem gs_o {L : List (Nat × Value)} {n j : Nat} {v w : Value} (hj : Nat.beq n j = false) (hw : ev_g L j = some w) (hc : w.category = 1) : ev_g (ev_s1 L n v) j = some w := by
  refine ev_g_tl hj (ev_g_fl hw ?_)
  have hne : j ≠ n := fun e => by rw [e, Nat.beq_refl] at hj; cases hj
  show (!(j == n) && !(j + 1 == n && w.category == 2)) = true
  rw [hc, show (j == n) = false from beq_eq_false_iff_ne.mpr hne]
  simp
theorem gs_n {L : List (Nat × Value)} {n : Nat} {v : Value} : ev_g (ev_s1 L n v) n = some v := ev_g_hd
theorem gf_of {hp : List AE} {a c y n : Nat} {v : Value} (h1 : hh hp a = some (3, c, n)) (h2 : hq hp a y = some v) : ev_gf hp a c y = some v := by
  obtain ⟨fs, e1, -⟩ := hh_obj h1
  rw [hq_at e1] at h2
  unfold ev_gf
  rw [e1]
  show cond (Nat.beq c c) (fs[y]?) none = some v
  rw [Nat.beq_refl]
  exact h2
theorem ai_of {hp : List AE} {a t n : Nat} (h1 : hh hp a = some (0, t, n)) : ∃ l, ev_ai hp a = some (t, l) ∧ l.length = n ∧ hp[a]? = some (.inl (t, .inl l)) := by
  obtain ⟨l, e1, e2⟩ := hh_ai h1
  exact ⟨l, by unfold ev_ai; rw [e1], e2, e1⟩
theorem al_of {hp : List AE} {a t n : Nat} (h1 : hh hp a = some (1, t, n)) : ∃ l, ev_al hp a = some (t, l) ∧ l.length = n ∧ hp[a]? = some (.inl (t, .inr (.inl l))) := by
  obtain ⟨l, e1, e2⟩ := hh_al h1
  exact ⟨l, by unfold ev_al; rw [e1], e2, e1⟩
/-- i places are copied, nothing else has changed -/
def Cp (h0 hp : List AE) (dst d0 src s0 n i : Nat) : Prop := (∀ a, hh hp a = hh h0 a) ∧ (∀ a j, ¬ (a = dst ∧ d0 ≤ j ∧ j < d0 + n) → hq hp a j = hq h0 a j) ∧ ∀ j, j < i → hq hp dst (d0 + j) = hq h0 src (s0 + j)
theorem cp_0 {h0 : List AE} {dst d0 src s0 n : Nat} : Cp h0 h0 dst d0 src s0 n 0 := ⟨fun _ => rfl, fun _ _ _ => rfl, fun j h => absurd h (Nat.not_lt_zero j)⟩
theorem cp_s {h0 hp hp2 : List AE} {dst d0 src s0 n i : Nat} {v : Value} (c : Cp h0 hp dst d0 src s0 n i) (hi : i < n) (hv : hq h0 src (s0 + i) = some v) (u : Upd hp hp2 dst (d0 + i) v) : Cp h0 hp2 dst d0 src s0 n (i + 1) := by
  obtain ⟨u1, u2, u3⟩ := u
  obtain ⟨c1, c2, c3⟩ := c
  refine ⟨fun a => (u1 a).trans (c1 a), fun a j h => ?_, fun j hj => ?_⟩
  · rcases u2 a j with e | e
    · exact absurd ⟨e.1, by omega, by omega⟩ h
    · exact e.trans (c2 a j h)
  · by_cases e : j = i
    · subst e; rw [u3, hv]
    · rcases u2 dst (d0 + j) with e2 | e2
      · exact absurd e2.2 (by omega)
      · rw [e2]; exact c3 j (by omega)
theorem ge_T {n : Nat} : Int32.ofNat n ≤ Int32.ofNat n := Int32.le_refl _
theorem ge_F {i n : Nat} (h : i < n) (hn : n < 2147483648) : ¬ Int32.ofNat n ≤ Int32.ofNat i := fun e => by
  have e1 := Int32.le_iff_toInt_le.mp e
  rw [show (Int32.ofNat n).toInt = (n : Int) from nI_toInt (n := n) hn, show (Int32.ofNat i).toInt = (i : Int) from nI_toInt (n := i) (by omega)] at e1
  omega
theorem in_1 (i : Nat) : Int32.ofNat i + Int32.ofInt 1 = Int32.ofNat (i + 1) := by
  rw [show Int32.ofInt 1 = Int32.ofNat 1 from rfl, ← Int32.ofNat_add]
theorem ix_k (m k i : Nat) : Int32.ofNat m * Int32.ofNat k + Int32.ofNat i = Int32.ofNat (m * k + i) := by
  rw [Int32.ofNat_add, Int32.ofNat_mul]
theorem ix_a (m i : Nat) : Int32.ofNat m + Int32.ofNat i = Int32.ofNat (m + i) := by
  rw [Int32.ofNat_add]
section
variable {M : MT} {dd mi pc x y : Nat} {L : List (Nat × Value)} {st : List Value} {hp : List AE} {q : ev_R}
theorem rt_mul {a b : Int32} (hf : mF M mi pc = some (.imul, x, y)) (h : RT M dd mi (pc + 1) L (.int (a * b) :: st) hp q) : RT M dd mi pc L (.int b :: .int a :: st) hp q := RT_step hf (fun _ _ => rfl) h
theorem rt_add {a b : Int32} (hf : mF M mi pc = some (.iadd, x, y)) (h : RT M dd mi (pc + 1) L (.int (a + b) :: st) hp q) : RT M dd mi pc L (.int b :: .int a :: st) hp q := RT_step hf (fun _ _ => rfl) h
theorem rt_sip {n : Int} {v : Int32} (hf : mF M mi pc = some (.sipush n, x, y)) (hv : (Int16.ofInt n).toInt32 = v) (h : RT M dd mi (pc + 3) L (.int v :: st) hp q) : RT M dd mi pc L st hp q := RT_step hf (fun _ _ => by subst hv; rfl) h
theorem rt_bip {n : Int} {v : Int32} (hf : mF M mi pc = some (.bipush n, x, y)) (hv : (Int8.ofInt n).toInt32 = v) (h : RT M dd mi (pc + 2) L (.int v :: st) hp q) : RT M dd mi pc L st hp q := RT_step hf (fun _ _ => by subst hv; rfl) h
theorem rt_ico {n : Int} {v : Int32} (hf : mF M mi pc = some (.iconst n, x, y)) (hv : Int32.ofInt n = v) (h : RT M dd mi (pc + 1) L (.int v :: st) hp q) : RT M dd mi pc L st hp q := RT_step hf (fun _ _ => by subst hv; rfl) h
theorem rt_go {off : Int} (hf : mF M mi pc = some (.goto off, x, y)) (h : RT M dd mi x L st hp q) : RT M dd mi pc L st hp q := RT_step hf (fun _ _ => rfl) h
end
theorem e_396 : (Int16.ofInt 396).toInt32 = Int32.ofNat 396 := by decide +kernel
theorem e_240 : (Int16.ofInt 240).toInt32 = Int32.ofNat 240 := by decide +kernel
theorem e_156 : (Int16.ofInt 156).toInt32 = Int32.ofNat 156 := by decide +kernel
theorem e_15 : (Int8.ofInt 15).toInt32 = Int32.ofNat 15 := by decide +kernel
/-- a field that holds this cell -/
theorem fr_m {hp : List AE} {y r : Nat} (g : hp_ok GG hp) (hy : y < 52) (hl : lkp gc180.2.2 y = some (2, (r : Int), 0)) : hq hp 180 y = some (.ref r) := by
  obtain ⟨h1, h2⟩ := g.1 180 gc180 rfl
  obtain ⟨v, hv⟩ := hq_some h1 (show y < 52 from hy)
  have h3 : ft_ok (2, (r : Int), 0) v := (h2 y v hv).2 _ hl
  have h4 : v = .ref (r : Int).toNat := h3
  rw [hv, h4]
  rfl
theorem ce_i {t i : Nat} {l : List Int32} {v : Int32} (h : ce_at (.inl (t, .inl l)) i = some (.int v)) : l[i]? = some v := by
  obtain ⟨y, hy, e⟩ := Option.map_eq_some_iff.mp (show (l[i]?).map Value.int = some (.int v) from h)
  cases e
  exact hy
theorem ce_l {t i : Nat} {l : List Int64} {v : Int64} (h : ce_at (.inl (t, .inr (.inl l))) i = some (.long v)) : l[i]? = some v := by
  obtain ⟨y, hy, e⟩ := Option.map_eq_some_iff.mp (show (l[i]?).map Value.long = some (.long v) from h)
  cases e
  exact hy
theorem hp_l {hp : List AE} {a i t n : Nat} {ct : CT} {lo hi : Int} (h : hp_ok GG hp) (hc : GG.1 a = some ct) (hd : ct.1 = (1, t, n)) (hi0 : i < n) (hf : ct.2.1 = (1, lo, hi)) : ∃ x : Int64, hq hp a i = some (.long x) ∧ lo ≤ x.toInt ∧ x.toInt ≤ hi := by
  obtain ⟨h1, h2⟩ := h.1 a ct hc
  rw [hd] at h1
  obtain ⟨v, hv⟩ := hq_some h1 hi0
  obtain ⟨h3, -⟩ := h2 i v hv
  rw [hf] at h3
  obtain ⟨x, rfl, h5, h6⟩ := h3
  exact ⟨x, hv, h5, h6⟩
end
section
/-! ===== the copies that image, restore and sentence make ===== -/
set_option maxRecDepth 100000 in
theorem im1_loop {dd : Nat} {k : Nat} (hk : k < 2) {h0 : List AE} (g : hp_ok GG h0) {Q : ev_R → Prop} (fin : ∀ L hp, ev_g L 0 = some (.ref 180) → ev_g L 1 = some (.int (Int32.ofNat k)) → Cp h0 hp 184 (396 * k) 182 (0) 396 396 → ∃ q, RT MM dd 212 49 L [] hp q ∧ Q q) : ∀ (r i : Nat) (L : List (Nat × Value)) (hp : List AE), i + r = 396 → ev_g L 0 = some (.ref 180) → ev_g L 1 = some (.int (Int32.ofNat k)) → ev_g L 2 = some (.int (Int32.ofNat i)) → Cp h0 hp 184 (396 * k) 182 (0) 396 i → ∃ q, RT MM dd 212 18 L [] hp q ∧ Q q := by
  intro r
  induction r with
  | zero =>
    intro i L hp hi l0 l1 l2 c
    have hi : i = 396 := by omega
    subst hi
    obtain ⟨q, hr, hQ⟩ := fin L hp l0 l1 c
    refine ⟨q, ?_, hQ⟩
    refine rt_ild rfl l2 ?_
    refine rt_sip rfl e_396 ?_
    refine rt_geT rfl ge_T ?_
    exact hr
  | succ r ih =>
    intro i L hp hi l0 l1 l2 c
    have hi2 : i < 396 := by omega
    obtain ⟨v, hv, -⟩ := hp_i (a := 182) (i := 0 + i) (ct := gc182) g rfl rfl (by omega) rfl
    have hw : hq hp 182 (0 + i) = some (.int v) := by rw [c.2.1 182 (0 + i) (fun e => absurd e.1 (by decide))]; exact hv
    obtain ⟨ld, a1, a2, a3⟩ := ai_of (hp := hp) (a := 184) (t := 1) (n := 792) (by rw [c.1]; exact (g.1 184 gc184 rfl).1)
    obtain ⟨lw, b1, b2, b3⟩ := ai_of (hp := hp) (a := 182) (t := 1) (n := 396) (by rw [c.1]; exact (g.1 182 gc182 rfl).1)
    rw [hq_at b3] at hw
    have hw := ce_i hw
    have fd : ev_gf hp 180 11 16 = some (.ref 184) := gf_of (n := 52) (by rw [c.1]; exact (g.1 180 gc180 rfl).1) (by rw [c.2.1 180 16 (fun e => absurd e.1 (by decide))]; exact fr_m g (by decide) (by decide +kernel))
    have fs : ev_gf hp 180 11 14 = some (.ref 182) := gf_of (n := 52) (by rw [c.1]; exact (g.1 180 gc180 rfl).1) (by rw [c.2.1 180 14 (fun e => absurd e.1 (by decide))]; exact fr_m g (by decide) (by decide +kernel))
    obtain ⟨q, hr, hQ⟩ := ih (i + 1) (ev_s1 L 2 (.int (Int32.ofNat (i + 1)))) (hp.set 184 (.inl (1, .inl (ld.set (396 * k + i) v)))) (by omega) (gs_o rfl l0 rfl) (gs_o rfl l1 rfl) gs_n (cp_s c hi2 hv (upd_i a3 (by omega)))
    refine ⟨q, ?_, hQ⟩
    refine rt_ild rfl l2 ?_
    refine rt_sip rfl e_396 ?_
    refine rt_geF rfl (ge_F hi2 (by decide)) ?_
    refine rt_ald rfl l0 ?_
    refine rt_gf rfl fd ?_
    refine rt_sip rfl e_396 ?_
    refine rt_ild rfl l1 ?_
    refine rt_mul rfl ?_
    refine rt_ild rfl l2 ?_
    refine rt_add rfl ?_
    rw [ix_k]
    refine rt_ald rfl l0 ?_
    refine rt_gf rfl fs ?_
    refine rt_ild rfl l2 ?_
    refine rt_iald rfl b1 (by rw [Nat.zero_add] at hw; exact hw) (by omega) ?_
    refine rt_iast rfl a1 (by omega) (by omega) ?_
    refine rt_inc rfl l2 (by decide +kernel) ?_
    rw [in_1]
    refine rt_go rfl ?_
    exact hr
set_option maxRecDepth 100000 in
theorem im2_loop {dd : Nat} {k : Nat} (hk : k < 2) {h0 : List AE} (g : hp_ok GG h0) {Q : ev_R → Prop} (fin : ∀ L hp, ev_g L 0 = some (.ref 180) → ev_g L 1 = some (.int (Int32.ofNat k)) → Cp h0 hp 189 (15 * k) 187 (0) 15 15 → ∃ q, RT MM dd 212 80 L [] hp q ∧ Q q) : ∀ (r i : Nat) (L : List (Nat × Value)) (hp : List AE), i + r = 15 → ev_g L 0 = some (.ref 180) → ev_g L 1 = some (.int (Int32.ofNat k)) → ev_g L 2 = some (.int (Int32.ofNat i)) → Cp h0 hp 189 (15 * k) 187 (0) 15 i → ∃ q, RT MM dd 212 51 L [] hp q ∧ Q q := by
  intro r
  induction r with
  | zero =>
    intro i L hp hi l0 l1 l2 c
    have hi : i = 15 := by omega
    subst hi
    obtain ⟨q, hr, hQ⟩ := fin L hp l0 l1 c
    refine ⟨q, ?_, hQ⟩
    refine rt_ild rfl l2 ?_
    refine rt_bip rfl e_15 ?_
    refine rt_geT rfl ge_T ?_
    exact hr
  | succ r ih =>
    intro i L hp hi l0 l1 l2 c
    have hi2 : i < 15 := by omega
    obtain ⟨v, hv, -⟩ := hp_l (a := 187) (i := 0 + i) (ct := gc187) g rfl rfl (by omega) rfl
    have hw : hq hp 187 (0 + i) = some (.long v) := by rw [c.2.1 187 (0 + i) (fun e => absurd e.1 (by decide))]; exact hv
    obtain ⟨ld, a1, a2, a3⟩ := al_of (hp := hp) (a := 189) (t := 2) (n := 30) (by rw [c.1]; exact (g.1 189 gc189 rfl).1)
    obtain ⟨lw, b1, b2, b3⟩ := al_of (hp := hp) (a := 187) (t := 2) (n := 15) (by rw [c.1]; exact (g.1 187 gc187 rfl).1)
    rw [hq_at b3] at hw
    have hw := ce_l hw
    have fd : ev_gf hp 180 11 21 = some (.ref 189) := gf_of (n := 52) (by rw [c.1]; exact (g.1 180 gc180 rfl).1) (by rw [c.2.1 180 21 (fun e => absurd e.1 (by decide))]; exact fr_m g (by decide) (by decide +kernel))
    have fs : ev_gf hp 180 11 19 = some (.ref 187) := gf_of (n := 52) (by rw [c.1]; exact (g.1 180 gc180 rfl).1) (by rw [c.2.1 180 19 (fun e => absurd e.1 (by decide))]; exact fr_m g (by decide) (by decide +kernel))
    obtain ⟨q, hr, hQ⟩ := ih (i + 1) (ev_s1 L 2 (.int (Int32.ofNat (i + 1)))) (hp.set 189 (.inl (2, .inr (.inl (ld.set (15 * k + i) v))))) (by omega) (gs_o rfl l0 rfl) (gs_o rfl l1 rfl) gs_n (cp_s c hi2 hv (upd_l a3 (by omega)))
    refine ⟨q, ?_, hQ⟩
    refine rt_ild rfl l2 ?_
    refine rt_bip rfl e_15 ?_
    refine rt_geF rfl (ge_F hi2 (by decide)) ?_
    refine rt_ald rfl l0 ?_
    refine rt_gf rfl fd ?_
    refine rt_bip rfl e_15 ?_
    refine rt_ild rfl l1 ?_
    refine rt_mul rfl ?_
    refine rt_ild rfl l2 ?_
    refine rt_add rfl ?_
    rw [ix_k]
    refine rt_ald rfl l0 ?_
    refine rt_gf rfl fs ?_
    refine rt_ild rfl l2 ?_
    refine rt_lald rfl b1 (by rw [Nat.zero_add] at hw; exact hw) (by omega) ?_
    refine rt_last rfl a1 (by omega) (by omega) ?_
    refine rt_inc rfl l2 (by decide +kernel) ?_
    rw [in_1]
    refine rt_go rfl ?_
    exact hr
set_option maxRecDepth 100000 in
theorem re1_loop {dd : Nat} {k : Nat} (hk : k < 2) {h0 : List AE} (g : hp_ok GG h0) {Q : ev_R → Prop} (fin : ∀ L hp, ev_g L 0 = some (.ref 180) → ev_g L 1 = some (.int (Int32.ofNat k)) → Cp h0 hp 182 (0) 184 (396 * k) 396 396 → ∃ q, RT MM dd 269 58 L [] hp q ∧ Q q) : ∀ (r i : Nat) (L : List (Nat × Value)) (hp : List AE), i + r = 396 → ev_g L 0 = some (.ref 180) → ev_g L 1 = some (.int (Int32.ofNat k)) → ev_g L 2 = some (.int (Int32.ofNat i)) → Cp h0 hp 182 (0) 184 (396 * k) 396 i → ∃ q, RT MM dd 269 27 L [] hp q ∧ Q q := by
  intro r
  induction r with
  | zero =>
    intro i L hp hi l0 l1 l2 c
    have hi : i = 396 := by omega
    subst hi
    obtain ⟨q, hr, hQ⟩ := fin L hp l0 l1 c
    refine ⟨q, ?_, hQ⟩
    refine rt_ild rfl l2 ?_
    refine rt_sip rfl e_396 ?_
    refine rt_geT rfl ge_T ?_
    exact hr
  | succ r ih =>
    intro i L hp hi l0 l1 l2 c
    have hi2 : i < 396 := by omega
    obtain ⟨v, hv, -⟩ := hp_i (a := 184) (i := 396 * k + i) (ct := gc184) g rfl rfl (by omega) rfl
    have hw : hq hp 184 (396 * k + i) = some (.int v) := by rw [c.2.1 184 (396 * k + i) (fun e => absurd e.1 (by decide))]; exact hv
    obtain ⟨ld, a1, a2, a3⟩ := ai_of (hp := hp) (a := 182) (t := 1) (n := 396) (by rw [c.1]; exact (g.1 182 gc182 rfl).1)
    obtain ⟨lw, b1, b2, b3⟩ := ai_of (hp := hp) (a := 184) (t := 1) (n := 792) (by rw [c.1]; exact (g.1 184 gc184 rfl).1)
    rw [hq_at b3] at hw
    have hw := ce_i hw
    have fd : ev_gf hp 180 11 14 = some (.ref 182) := gf_of (n := 52) (by rw [c.1]; exact (g.1 180 gc180 rfl).1) (by rw [c.2.1 180 14 (fun e => absurd e.1 (by decide))]; exact fr_m g (by decide) (by decide +kernel))
    have fs : ev_gf hp 180 11 16 = some (.ref 184) := gf_of (n := 52) (by rw [c.1]; exact (g.1 180 gc180 rfl).1) (by rw [c.2.1 180 16 (fun e => absurd e.1 (by decide))]; exact fr_m g (by decide) (by decide +kernel))
    obtain ⟨q, hr, hQ⟩ := ih (i + 1) (ev_s1 L 2 (.int (Int32.ofNat (i + 1)))) (hp.set 182 (.inl (1, .inl (ld.set (0 + i) v)))) (by omega) (gs_o rfl l0 rfl) (gs_o rfl l1 rfl) gs_n (cp_s c hi2 hv (upd_i a3 (by omega)))
    refine ⟨q, ?_, hQ⟩
    refine rt_ild rfl l2 ?_
    refine rt_sip rfl e_396 ?_
    refine rt_geF rfl (ge_F hi2 (by decide)) ?_
    refine rt_ald rfl l0 ?_
    refine rt_gf rfl fd ?_
    refine rt_ild rfl l2 ?_
    refine rt_ald rfl l0 ?_
    refine rt_gf rfl fs ?_
    refine rt_sip rfl e_396 ?_
    refine rt_ild rfl l1 ?_
    refine rt_mul rfl ?_
    refine rt_ild rfl l2 ?_
    refine rt_add rfl ?_
    rw [ix_k]
    refine rt_iald rfl b1 hw (by omega) ?_
    rw [show ld.set (0 + i) v = ld.set i v by rw [Nat.zero_add]] at hr
    refine rt_iast rfl a1 (by omega) (by omega) ?_
    refine rt_inc rfl l2 (by decide +kernel) ?_
    rw [in_1]
    refine rt_go rfl ?_
    exact hr
set_option maxRecDepth 100000 in
theorem re2_loop {dd : Nat} {k : Nat} (hk : k < 2) {h0 : List AE} (g : hp_ok GG h0) {Q : ev_R → Prop} (fin : ∀ L hp, ev_g L 0 = some (.ref 180) → ev_g L 1 = some (.int (Int32.ofNat k)) → Cp h0 hp 187 (0) 189 (15 * k) 15 15 → ∃ q, RT MM dd 269 89 L [] hp q ∧ Q q) : ∀ (r i : Nat) (L : List (Nat × Value)) (hp : List AE), i + r = 15 → ev_g L 0 = some (.ref 180) → ev_g L 1 = some (.int (Int32.ofNat k)) → ev_g L 2 = some (.int (Int32.ofNat i)) → Cp h0 hp 187 (0) 189 (15 * k) 15 i → ∃ q, RT MM dd 269 60 L [] hp q ∧ Q q := by
  intro r
  induction r with
  | zero =>
    intro i L hp hi l0 l1 l2 c
    have hi : i = 15 := by omega
    subst hi
    obtain ⟨q, hr, hQ⟩ := fin L hp l0 l1 c
    refine ⟨q, ?_, hQ⟩
    refine rt_ild rfl l2 ?_
    refine rt_bip rfl e_15 ?_
    refine rt_geT rfl ge_T ?_
    exact hr
  | succ r ih =>
    intro i L hp hi l0 l1 l2 c
    have hi2 : i < 15 := by omega
    obtain ⟨v, hv, -⟩ := hp_l (a := 189) (i := 15 * k + i) (ct := gc189) g rfl rfl (by omega) rfl
    have hw : hq hp 189 (15 * k + i) = some (.long v) := by rw [c.2.1 189 (15 * k + i) (fun e => absurd e.1 (by decide))]; exact hv
    obtain ⟨ld, a1, a2, a3⟩ := al_of (hp := hp) (a := 187) (t := 2) (n := 15) (by rw [c.1]; exact (g.1 187 gc187 rfl).1)
    obtain ⟨lw, b1, b2, b3⟩ := al_of (hp := hp) (a := 189) (t := 2) (n := 30) (by rw [c.1]; exact (g.1 189 gc189 rfl).1)
    rw [hq_at b3] at hw
    have hw := ce_l hw
    have fd : ev_gf hp 180 11 19 = some (.ref 187) := gf_of (n := 52) (by rw [c.1]; exact (g.1 180 gc180 rfl).1) (by rw [c.2.1 180 19 (fun e => absurd e.1 (by decide))]; exact fr_m g (by decide) (by decide +kernel))
    have fs : ev_gf hp 180 11 21 = some (.ref 189) := gf_of (n := 52) (by rw [c.1]; exact (g.1 180 gc180 rfl).1) (by rw [c.2.1 180 21 (fun e => absurd e.1 (by decide))]; exact fr_m g (by decide) (by decide +kernel))
    obtain ⟨q, hr, hQ⟩ := ih (i + 1) (ev_s1 L 2 (.int (Int32.ofNat (i + 1)))) (hp.set 187 (.inl (2, .inr (.inl (ld.set (0 + i) v))))) (by omega) (gs_o rfl l0 rfl) (gs_o rfl l1 rfl) gs_n (cp_s c hi2 hv (upd_l a3 (by omega)))
    refine ⟨q, ?_, hQ⟩
    refine rt_ild rfl l2 ?_
    refine rt_bip rfl e_15 ?_
    refine rt_geF rfl (ge_F hi2 (by decide)) ?_
    refine rt_ald rfl l0 ?_
    refine rt_gf rfl fd ?_
    refine rt_ild rfl l2 ?_
    refine rt_ald rfl l0 ?_
    refine rt_gf rfl fs ?_
    refine rt_bip rfl e_15 ?_
    refine rt_ild rfl l1 ?_
    refine rt_mul rfl ?_
    refine rt_ild rfl l2 ?_
    refine rt_add rfl ?_
    rw [ix_k]
    refine rt_lald rfl b1 hw (by omega) ?_
    rw [show ld.set (0 + i) v = ld.set i v by rw [Nat.zero_add]] at hr
    refine rt_last rfl a1 (by omega) (by omega) ?_
    refine rt_inc rfl l2 (by decide +kernel) ?_
    rw [in_1]
    refine rt_go rfl ?_
    exact hr
set_option maxRecDepth 100000 in
theorem se1_loop {dd : Nat} {h0 : List AE} (g : hp_ok GG h0) {Q : ev_R → Prop} (fin : ∀ L hp, ev_g L 0 = some (.ref 180) → Cp h0 hp 182 (156) 202 (0) 240 240 → ∃ q, RT MM dd 273 108 L [] hp q ∧ Q q) : ∀ (r i : Nat) (L : List (Nat × Value)) (hp : List AE), i + r = 240 → ev_g L 0 = some (.ref 180) → ev_g L 1 = some (.int (Int32.ofNat i)) → Cp h0 hp 182 (156) 202 (0) 240 i → ∃ q, RT MM dd 273 79 L [] hp q ∧ Q q := by
  intro r
  induction r with
  | zero =>
    intro i L hp hi l0 l2 c
    have hi : i = 240 := by omega
    subst hi
    obtain ⟨q, hr, hQ⟩ := fin L hp l0 c
    refine ⟨q, ?_, hQ⟩
    refine rt_ild rfl l2 ?_
    refine rt_sip rfl e_240 ?_
    refine rt_geT rfl ge_T ?_
    exact hr
  | succ r ih =>
    intro i L hp hi l0 l2 c
    have hi2 : i < 240 := by omega
    obtain ⟨v, hv, -⟩ := hp_i (a := 202) (i := 0 + i) (ct := gc202) g rfl rfl (by omega) rfl
    have hw : hq hp 202 (0 + i) = some (.int v) := by rw [c.2.1 202 (0 + i) (fun e => absurd e.1 (by decide))]; exact hv
    obtain ⟨ld, a1, a2, a3⟩ := ai_of (hp := hp) (a := 182) (t := 1) (n := 396) (by rw [c.1]; exact (g.1 182 gc182 rfl).1)
    obtain ⟨lw, b1, b2, b3⟩ := ai_of (hp := hp) (a := 202) (t := 1) (n := 240) (by rw [c.1]; exact (g.1 202 gc202 rfl).1)
    rw [hq_at b3] at hw
    have hw := ce_i hw
    have fd : ev_gf hp 180 11 14 = some (.ref 182) := gf_of (n := 52) (by rw [c.1]; exact (g.1 180 gc180 rfl).1) (by rw [c.2.1 180 14 (fun e => absurd e.1 (by decide))]; exact fr_m g (by decide) (by decide +kernel))
    have fs : ev_gf hp 180 11 47 = some (.ref 202) := gf_of (n := 52) (by rw [c.1]; exact (g.1 180 gc180 rfl).1) (by rw [c.2.1 180 47 (fun e => absurd e.1 (by decide))]; exact fr_m g (by decide) (by decide +kernel))
    obtain ⟨q, hr, hQ⟩ := ih (i + 1) (ev_s1 L 1 (.int (Int32.ofNat (i + 1)))) (hp.set 182 (.inl (1, .inl (ld.set (156 + i) v)))) (by omega) (gs_o rfl l0 rfl) gs_n (cp_s c hi2 hv (upd_i a3 (by omega)))
    refine ⟨q, ?_, hQ⟩
    refine rt_ild rfl l2 ?_
    refine rt_sip rfl e_240 ?_
    refine rt_geF rfl (ge_F hi2 (by decide)) ?_
    refine rt_ald rfl l0 ?_
    refine rt_gf rfl fd ?_
    refine rt_sip rfl e_156 ?_
    refine rt_ild rfl l2 ?_
    refine rt_add rfl ?_
    rw [ix_a]
    refine rt_ald rfl l0 ?_
    refine rt_gf rfl fs ?_
    refine rt_ild rfl l2 ?_
    refine rt_iald rfl b1 (by rw [Nat.zero_add] at hw; exact hw) (by omega) ?_
    refine rt_iast rfl a1 (by omega) (by omega) ?_
    refine rt_inc rfl l2 (by decide +kernel) ?_
    rw [in_1]
    refine rt_go rfl ?_
    exact hr
end
section
/-! ===== a copy keeps what the cells may hold ===== -/
def noPl (a i : Nat) : Bool := GG.2.all (fun t => !(Nat.beq t.1 a) && !(Nat.beq t.2.2.2.1 a) && (!(Nat.beq t.2.2.2.2.2.2.1 a) || !(Nat.beq t.2.2.2.2.2.2.2.1 i)))
def noTb (a : Nat) : Bool := GG.2.all (fun t => !(Nat.beq t.1 a) && !(Nat.beq t.2.2.2.1 a) && !(Nat.beq t.2.2.2.2.2.2.1 a))
theorem rb_pl {h0 h1 : List AE} {a i : Nat} (hn : noPl a i = true) (h : ∀ b j, ¬ (b = a ∧ j = i) → hq h1 b j = hq h0 b j) (g : ∀ t ∈ GG.2, RB1 t h0) : ∀ t ∈ GG.2, RB1 t h1 := by
  intro t ht k n gg v q1 q2 q3 q4
  have hb := List.all_eq_true.mp hn t ht
  rw [Bool.and_eq_true, Bool.and_eq_true, Bool.or_eq_true] at hb
  rw [h _ _ (fun e => hb.2.elim (fun x => nbq x e.1) (fun x => nbq x e.2))] at q1
  rw [h _ _ (fun e => nbq hb.1.2 e.1)] at q3
  rw [h _ _ (fun e => nbq hb.1.1 e.1)] at q4
  exact g t ht k n gg v q1 q2 q3 q4
theorem rb_keep {h0 h1 : List AE} {a : Nat} (hn : noTb a = true) (h : ∀ b j, b ≠ a → hq h1 b j = hq h0 b j) (g : ∀ t ∈ GG.2, RB1 t h0) : ∀ t ∈ GG.2, RB1 t h1 := by
  intro t ht i n gg v q1 q2 q3 q4
  have hb := List.all_eq_true.mp hn t ht
  rw [Bool.and_eq_true, Bool.and_eq_true] at hb
  rw [h _ _ (nbq hb.2)] at q1
  rw [h _ _ (nbq hb.1.2)] at q3
  rw [h _ _ (nbq hb.1.1)] at q4
  exact g t ht i n gg v q1 q2 q3 q4
theorem hp_cp {h0 hp : List AE} {dst d0 src s0 n : Nat} {cd cs : CT} (g : hp_ok GG h0) (c : Cp h0 hp dst d0 src s0 n n) (hd : GG.1 dst = some cd) (hs : GG.1 src = some cs) (ht : cd.2.1 = cs.2.1) (hl : ∀ j, j < n → lkp cd.2.2 (d0 + j) = lkp cs.2.2 (s0 + j)) (hn : noTb dst = true) : hp_ok GG hp := by
  refine ⟨fun a ct hc => ⟨by rw [c.1]; exact (g.1 a ct hc).1, fun i v hv => ?_⟩, rb_keep hn (fun b j hb => c.2.1 b j (fun e => hb e.1)) g.2⟩
  by_cases e : a = dst ∧ d0 ≤ i ∧ i < d0 + n
  · obtain ⟨rfl, e2, e3⟩ := e
    rw [hd] at hc
    cases hc
    have e4 := c.2.2 (i - d0) (by omega)
    rw [show d0 + (i - d0) = i by omega] at e4
    rw [e4] at hv
    obtain ⟨f1, f2⟩ := (g.1 src cs hs).2 _ v hv
    have e5 := hl (i - d0) (by omega)
    rw [show d0 + (i - d0) = i by omega] at e5
    exact ⟨by rw [ht]; exact f1, fun f hf => f2 f (by rw [← e5]; exact hf)⟩
  · rw [c.2.1 a i e] at hv
    exact (g.1 a ct hc).2 i v hv
theorem hp_ud {h0 hp : List AE} {a i : Nat} {v : Value} {ct : CT} (g : hp_ok GG h0) (u : Upd h0 hp a i v) (hc : GG.1 a = some ct) (h1 : ft_ok ct.2.1 v) (h2 : ∀ f, lkp ct.2.2 i = some f → ft_ok f v) (hn : noPl a i = true) : hp_ok GG hp := by
  refine ⟨fun b cb hb => ⟨by rw [u.1]; exact (g.1 b cb hb).1, fun j w hw => ?_⟩, rb_pl hn (fun b j e => (u.2.1 b j).resolve_left e) g.2⟩
  rcases u.2.1 b j with ⟨rfl, rfl⟩ | e
  · rw [hc] at hb
    cases hb
    rw [u.2.2] at hw
    cases hw
    exact ⟨h1, h2⟩
  · rw [e] at hw
    exact (g.1 b cb hb).2 j w hw
theorem ag_cp {W : WR} {h0 hp : List AE} {dst d0 src s0 n i : Nat} (c : Cp h0 hp dst d0 src s0 n i) (hn : 0 < n) (hw : wr_in W dst d0 (d0 + n - 1) = true) : Agr W h0 hp :=
  ⟨c.1, fun a j h => c.2.1 a j (fun e => by
    obtain ⟨rfl, e2, e3⟩ := e
    rw [wr_sub hw e2 (by omega)] at h
    cases h)⟩
theorem ag_ud {W : WR} {h0 hp : List AE} {a i : Nat} {v : Value} (u : Upd h0 hp a i v) (hw : wr_in W a i i = true) : Agr W h0 hp :=
  ⟨u.1, fun b j h => by
    rcases u.2.1 b j with ⟨rfl, rfl⟩ | e
    · rw [hw] at h; cases h
    · exact e⟩
/-- a local that holds a constant -/
theorem sl_c {ρ : List Int} {A : SL} {L : List (Nat × Value)} {n k : Nat} (h0 : ρ[0]? = some 0) (h : sl_ok ρ A L) (hm : (n, ((0, 0, (k : Int)) : SV)) ∈ A) (hk : k < 2147483648) : ev_g L n = some (.int (Int32.ofNat k)) := by
  obtain ⟨v, h1, x, z, h2, h3, h4⟩ := h _ hm
  rw [h0] at h3
  cases h3
  have h1 : ev_g L n = some v := h1
  rw [h1, h2, Int32.toInt_inj.mp (show x.toInt = (Int32.ofNat k).toInt by rw [show (Int32.ofNat k).toInt = (k : Int) from nI_toInt (n := k) hk]; omega)]
theorem sl_r {ρ : List Int} {A : SL} {L : List (Nat × Value)} {n a : Nat} (h : sl_ok ρ A L) (hm : (n, ((2, a, 0) : SV)) ∈ A) : ev_g L n = some (.ref a) := by
  obtain ⟨v, h1, h2⟩ := h _ hm
  have h2 : v = .ref a := h2
  rw [← h2]; exact h1
theorem ty_kn : ∀ k, k < 2 → ∀ j, j < 396 → lkp gc184.2.2 (396 * k + j) = lkp gc182.2.2 (0 + j) := by decide +kernel
theorem ty_no : noTb 184 = true ∧ noTb 182 = true ∧ noTb 187 = true ∧ noTb 189 = true ∧ noTb 190 = true := by decide +kernel
theorem ty_pl : noPl 190 0 = true ∧ noPl 190 1 = true ∧ noPl 180 24 = true ∧ noPl 182 154 = true ∧ noPl 182 155 = true := by decide +kernel
theorem pl_190 : ∀ k, k < 2 → noPl 190 k = true := by decide +kernel
end
