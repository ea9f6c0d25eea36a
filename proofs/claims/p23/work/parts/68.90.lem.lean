/-! ===== what the calls' ends say, in general ===== -/
theorem sv_i {ρ : List Int} {k : Nat} {z : Int32} (h : ρ[k]? = some z.toInt) : sv_ok ρ (0, k, 0) (.int z) := ⟨z, _, rfl, h, (Int.add_zero _).symm⟩
/-- an answer that is one constant -/
theorem end_k {G : GT} {C : CO} {ρ : List Int} {hp : List AE} {r : Int32} {hc : List AE} {v : Int} (h : (cO C).all (fun o => match o.1 with
  | some (0, 0, c) => decide (c = v)
  | _ => false) = true) (he : EndOk G C ρ hp (some (.int r), hc)) : r.toInt = v := by
  obtain ⟨-, -, o, ho, τ, t1, -, t3⟩ := he
  have h2 := List.all_eq_true.mp h o ho
  split at h2
  · rename_i c hs
    rw [hs] at t3
    obtain ⟨x, z, e1, e2, e3⟩ := (show sv_ok (ρ ++ τ) (0, 0, c) (.int r) from t3)
    cases e1
    rw [t1.2.1] at e2
    cases e2
    have := of_decide_eq_true h2
    omega
  · cases h2
/-- a place that an end says to hold one constant -/
def outV (C : CO) (a i : Nat) (v : Int) : Bool := (cO C).all (fun o => match spg o.2.2.1 a i with
  | some (0, 0, c) => decide (c = v)
  | _ => false)
theorem outV_ok {G : GT} {C : CO} {ρ : List Int} {hp : List AE} {q : ev_R} {a i : Nat} {v : Int} (h : outV C a i v = true) (he : EndOk G C ρ hp q) : ∃ x : Int32, hq q.2 a i = some (.int x) ∧ x.toInt = v := by
  obtain ⟨-, -, o, ho, τ, t1, t2, -⟩ := he
  have h2 := List.all_eq_true.mp h o ho
  split at h2
  · rename_i c hs
    have hc := of_decide_eq_true h2
    subst hc
    exact sp_cst hs t2 t1.2.1
  · cases h2
theorem hp_tl {hp : List AE} {z : Int32} (h : hp_ok GG hp) (hz : hq hp 1 1 = some (.int z)) : 0 ≤ z.toInt ∧ z.toInt ≤ 940 := by
  obtain ⟨y, e1, e2, e3⟩ := (show ft_ok (0, 0, 940) (.int z) from ((h.1 1 gc1 rfl).2 1 _ hz).2 (0, 0, 940) (by decide +kernel))
  cases e1
  exact ⟨e2, e3⟩
/-- entries: any ints, and one more variable -/
theorem en_more (zs : List Int32) {z lo hi : Int} (h1 : lo ≤ z) (h2 : z ≤ hi) : en_ok ((0 :: zs.map (fun z => z.toInt)) ++ [z]) (ef ((0, 0, 0, 0, 0, 0) :: List.replicate zs.length (-2147483648, 2147483647, 0, -2147483648, 0, 2147483647)) lo hi) := (ef_ok (en_full zs) h1 h2).1
theorem en_one {z lo hi : Int} (h1 : lo ≤ z) (h2 : z ≤ hi) : en_ok [0, z] [(0, 0, 0, 0, 0, 0), (lo, hi, 0, lo, 0, hi)] := (ef_ok (en_full []) h1 h2).1
theorem en_two {z w lo hi lo2 hi2 : Int} {p d q f : Int} {i j : Nat} (h1 : lo ≤ z) (h2 : z ≤ hi) (h3 : lo2 ≤ w) (h4 : w ≤ hi2) (hi0 : [0, z, w][i]? = some p) (hj : [0, z, w][j]? = some q) (hp : p + d ≤ z) (hf : q + f ≤ w) : en_ok [0, z, w] [(0, 0, 0, 0, 0, 0), (lo, hi, i, d, 0, hi), (lo2, hi2, j, f, 0, hi2)] := by
  refine ⟨rfl, rfl, fun k e he => ?_⟩
  match k, he with
  | 0, he => cases he; exact ⟨0, 0, 0, rfl, by decide, by decide, rfl, by decide, rfl, by decide⟩
  | 1, he => cases he; exact ⟨z, p, 0, rfl, h1, h2, hi0, hp, rfl, by simp only; omega⟩
  | 2, he => cases he; exact ⟨w, q, 0, rfl, h3, h4, hj, hf, rfl, by simp only; omega⟩
  | k + 3, he => cases he
/-- the value of an int's place -/
def gtI (hp : List AE) (a i : Nat) : Int := match hq hp a i with
  | some (.int x) => x.toInt
  | _ => 0
theorem gtI_ok {hp : List AE} {a i : Nat} {x : Int32} (h : hq hp a i = some (.int x)) : gtI hp a i = x.toInt := by unfold gtI; rw [h]
def rwR (hp : List AE) : List Int := 0 :: (List.range 242).map (fun j => gtI hp 182 (154 + j))
theorem rwR_at {hp : List AE} {j : Nat} (hj : j < 242) : (rwR hp)[j + 1]? = some (gtI hp 182 (154 + j)) := by
  unfold rwR
  rw [List.getElem?_cons_succ, List.getElem?_map, List.getElem?_range hj]
  rfl
def rwE : EN := (0, 0, 0, 0, 0, 0) :: (List.range 242).map (fun j => if j = 1 then ((0, 59, 0, 0, 0, 59) : EE) else (-2147483648, 2147483647, 0, -2147483648, 0, 2147483647))
def rwP : SP := (List.range 242).map (fun j => (182, 154 + j, (0, j + 1, 0)))
theorem rw_x {hp : List AE} (h : hp_ok GG hp) {j : Nat} (hj : j < 242) : ∃ x : Int32, hq hp 182 (154 + j) = some (.int x) := by
  obtain ⟨x, hx, -⟩ := hp_i (a := 182) (i := 154 + j) (ct := gc182) h rfl rfl (by omega) rfl
  exact ⟨x, hx⟩
theorem rw_en {hp : List AE} (h : hp_ok GG hp) : en_ok (rwR hp) rwE := by
  refine ⟨by unfold rwR rwE; simp, rfl, fun k e he => ?_⟩
  cases k with
  | zero => cases he; exact ⟨0, 0, 0, rfl, by decide, by decide, rfl, by decide, rfl, by decide⟩
  | succ k =>
    have hk : k < 242 := by
      have := (List.getElem?_eq_some_iff.mp he).1
      unfold rwE at this
      simp at this
      omega
    obtain ⟨x, hx⟩ := rw_x h hk
    have hz := rwR_at (hp := hp) hk
    rw [gtI_ok hx] at hz
    unfold rwE at he
    rw [List.getElem?_cons_succ, List.getElem?_map, List.getElem?_range hk] at he
    have a1 := i32_lo x
    have a2 := i32_hi x
    by_cases h1 : k = 1
    · subst h1
      cases he
      obtain ⟨y, y1, y2, y3⟩ := hp_155 h
      rw [hx] at y1
      cases y1
      exact ⟨x.toInt, 0, 0, hz, y2, y3, rfl, by simp only [if_true]; omega, rfl, by simp only [if_true]; omega⟩
    · have he : some (if k = 1 then ((0, 59, 0, 0, 0, 59) : EE) else (-2147483648, 2147483647, 0, -2147483648, 0, 2147483647)) = some e := he
      rw [if_neg h1] at he
      cases he
      exact ⟨x.toInt, 0, 0, hz, a1, a2, rfl, by simp only; omega, rfl, by simp only; omega⟩
theorem rw_sp {hp : List AE} (h : hp_ok GG hp) : sp_ok (rwR hp) rwP hp := by
  intro q hq
  unfold rwP at hq
  obtain ⟨j, hj, rfl⟩ := List.mem_map.mp hq
  have hj := List.mem_range.mp hj
  obtain ⟨x, hx⟩ := rw_x h hj
  exact ⟨.int x, hx, sv_i (by rw [rwR_at hj, gtI_ok hx])⟩
theorem sp_ext2 {ρ τ : List Int} {P : SP} {hp : List AE} (h : sp_ok ρ P hp) : sp_ok (ρ ++ τ) P hp := sp_ext h
/-- an end that leaves the rows as they were at the entry -/
theorem rr_same {C : CO} {o : OUT} {ρ τ : List Int} {h0 h1 : List AE} (hP : sp_ok ρ (cP C) h0) (hQ : sp_ok (ρ ++ τ) o.2.2.1 h1) (h : sp_eqs o.2.2.1 (cP C) 182 0 182 0 154 242 = true) (R : RR h0 182 0) : RR h1 182 0 :=
  rr_cp (fun i e1 e2 => sp_eqs_ok h hQ (sp_ext hP) i e1 (by omega)) R
/-- an end that says that there is no sentence -/
def no154 (o : OUT) : Bool := match spg o.2.2.1 182 154 with
  | some (0, 0, c) => decide (c = 0)
  | _ => false
theorem rr_no {o : OUT} {ρ : List Int} {h1 : List AE} (hG : hp_ok GG h1) (hQ : sp_ok ρ o.2.2.1 h1) (h0 : ρ[0]? = some 0) (h : no154 o = true) : RR h1 182 0 := by
  unfold no154 at h
  split at h
  · rename_i c hs
    have hc := of_decide_eq_true h
    subst hc
    obtain ⟨x, x1, x2⟩ := sp_cst hs hQ h0
    obtain ⟨t, t1, -⟩ := hp_155 hG
    exact ⟨x, t, x1, t1, Or.inl x2⟩
  · cases h
/-- an end that has taken a sentence over -/
def senB (o : OUT) : Bool := (match spg o.2.2.1 182 154 with
  | some (0, 0, c) => decide (c = 1)
  | _ => false) && (match (spg o.2.2.1 182 155).bind isV0, (spg o.2.2.1 180 48).bind isV0 with
  | some u, some v => decide (u.2 = 0) && decide (v.2 = 0) && (match o.2.1[v.1]? with
    | some e => Nat.beq e.2.2.1 u.1 && decide (1 ≤ e.2.2.2.1)
    | none => false)
  | _, _ => false) && (List.range 240).all (fun j => sp_eqB o.2.2.1 o.2.2.1 182 202 (156 + j) j)
theorem rr_sen {o : OUT} {ρ : List Int} {h1 : List AE} (hG : hp_ok GG h1) (hE : en_ok ρ o.2.1) (hQ : sp_ok ρ o.2.2.1 h1) (h : senB o = true) : RR h1 182 0 := by
  unfold senB at h
  rw [Bool.and_eq_true, Bool.and_eq_true] at h
  obtain ⟨⟨ha, hb⟩, hc⟩ := h
  split at ha
  · rename_i c hs
    have hc1 := of_decide_eq_true ha
    subst hc1
    obtain ⟨x, x1, x2⟩ := sp_cst hs hQ hE.2.1
    split at hb
    · rename_i u v hu hv
      rw [Bool.and_eq_true, Bool.and_eq_true] at hb
      obtain ⟨⟨b1, b2⟩, b3⟩ := hb
      have b1 := of_decide_eq_true b1
      have b2 := of_decide_eq_true b2
      split at b3
      · rename_i e he
        rw [Bool.and_eq_true] at b3
        have c1 := Nat.eq_of_beq_eq_true b3.1
        have c2 := of_decide_eq_true b3.2
        obtain ⟨p, p1, p2⟩ := Option.bind_eq_some_iff.mp hu
        obtain ⟨q, q1, q2⟩ := Option.bind_eq_some_iff.mp hv
        obtain ⟨tv, t1, t2⟩ := hQ _ (spg_mem p1)
        obtain ⟨nv, n1, n2⟩ := hQ _ (spg_mem q1)
        have t2 : sv_ok ρ p tv := t2
        have n2 : sv_ok ρ q nv := n2
        rw [isV0_ok p2, b1] at t2
        rw [isV0_ok q2, b2] at n2
        obtain ⟨t, tz, r1, r2, r3⟩ := t2
        obtain ⟨n, nz, s1, s2, s3⟩ := n2
        obtain ⟨z', w, -, a1, -, -, a4, a5, -⟩ := hE.2.2 v.1 e he
        rw [s2] at a1
        cases a1
        rw [c1, r2] at a4
        cases a4
        have hlt : t.toInt < n.toInt := by omega
        refine ⟨x, t, x1, by rw [← r1]; exact t1, Or.inr ⟨x2, fun r hr ht g xx y g1 g2 g3 => ?_⟩⟩
        have row : ∀ j, j < 240 → hq h1 182 (156 + j) = hq h1 202 j := fun j hj => sp_eqB_ok (List.all_eq_true.mp hc j (List.mem_range.mpr hj)) hQ hQ
        rw [Nat.zero_add, row (4 * r) (by omega)] at g1
        rw [Nat.zero_add, show 157 + 4 * r = 156 + (4 * r + 1) by omega, row (4 * r + 1) (by omega)] at g2
        rw [Nat.zero_add, show 158 + 4 * r = 156 + (4 * r + 2) by omega, row (4 * r + 2) (by omega)] at g3
        have n1 : hq h1 180 48 = some (.int n) := by rw [← s1]; exact n1
        have tb1 := hG.2 _ (List.mem_of_getElem? (l := GG.2) (i := 3) rfl) r n g xx n1 (by omega) g1 g2
        have tb2 := hG.2 _ (List.mem_of_getElem? (l := GG.2) (i := 4) rfl) r n g y n1 (by omega) g1 g3
        have hu2 : uh 2199023255551 r = (r : Int) - 1 := by
          unfold uh
          rw [show decide ((2199023255551 : Int) < 1099511627776) = false from by decide]
          show (2199023255551 : Int) - 2199023255552 + (r : Int) = _
          omega
        refine ⟨fun k1 k2 => ?_, fun k1 k2 => ?_⟩
        · obtain ⟨bb, hbb, m1, m2, m3, m4⟩ := tb1
          rcases List.mem_cons.mp hbb with rfl | hbb
          · have m3 : 0 ≤ xx.toInt := m3
            have m4 : xx.toInt ≤ uh 2199023255551 r := m4
            rw [hu2] at m4
            exact ⟨m3, by omega⟩
          · rcases List.mem_cons.mp hbb with rfl | hbb
            · have m2 : g.toInt ≤ 0 := m2
              omega
            · rcases List.mem_cons.mp hbb with rfl | hbb
              · have m1 : 4 ≤ g.toInt := m1
                omega
              · cases hbb
        · obtain ⟨bb, hbb, m1, m2, m3, m4⟩ := tb2
          rcases List.mem_cons.mp hbb with rfl | hbb
          · have m3 : 0 ≤ y.toInt := m3
            have m4 : y.toInt ≤ uh 2199023255551 r := m4
            rw [hu2] at m4
            exact ⟨m3, by omega⟩
          · rcases List.mem_cons.mp hbb with rfl | hbb
            · have m2 : g.toInt ≤ 1 := m2
              omega
            · rcases List.mem_cons.mp hbb with rfl | hbb
              · have m1 : 4 ≤ g.toInt := m1
                omega
              · cases hbb
      · cases b3
    · cases hb
  · cases ha
theorem gk_to {T : Nat} {hp : List AE} (h : hp_ok (GK T) hp) : hp_ok GG hp := ⟨h.1, fun t ht => h.2 t (gk_gg t ht)⟩
theorem hp_kept {hp : List AE} (h : hp_ok GG hp) {k : Nat} (hk : k < 2) : ∃ x : Int32, hq hp 190 k = some (.int x) ∧ (x.toInt = 0 ∨ x.toInt = 1) := by
  obtain ⟨x, hx, h1, h2, -⟩ := hp_i (a := 190) (i := k) (ct := gc190) h rfl rfl hk rfl
  exact ⟨x, hx, by omega⟩
