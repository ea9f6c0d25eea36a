/-! ===== sentence and duchy: what is shown by hand ===== -/
theorem rr_row {h1 : List AE} {x t n : Int32} (hG : hp_ok GG h1) (x1 : hq h1 182 154 = some (.int x)) (x2 : x.toInt = 1) (t1 : hq h1 182 155 = some (.int t)) (n1 : hq h1 180 48 = some (.int n)) (hlt : t.toInt < n.toInt) (row : ∀ j, j < 240 → hq h1 182 (156 + j) = hq h1 202 (0 + j)) : RR h1 182 0 := by
  refine ⟨x, t, x1, t1, Or.inr ⟨x2, fun r hr ht g xx y g1 g2 g3 => ?_⟩⟩
  rw [Nat.zero_add, row (4 * r) (by omega), Nat.zero_add] at g1
  rw [Nat.zero_add, show 157 + 4 * r = 156 + (4 * r + 1) by omega, row (4 * r + 1) (by omega), Nat.zero_add] at g2
  rw [Nat.zero_add, show 158 + 4 * r = 156 + (4 * r + 2) by omega, row (4 * r + 2) (by omega), Nat.zero_add] at g3
  have tb1 := hG.2 _ (List.mem_of_getElem? (l := GG.2) (i := 3) rfl) r n g xx n1 (by omega) g1 g2
  have tb2 := hG.2 _ (List.mem_of_getElem? (l := GG.2) (i := 4) rfl) r n g y n1 (by omega) g1 g3
  have hu2 : uh 2199023255551 r = (r : Int) - 1 := by
    unfold uh
    rw [show decide ((2199023255551 : Int) < 1099511627776) = false from by decide]
    show (2199023255551 : Int) - 2199023255552 + (r : Int) = _
    omega
  refine ⟨fun k1 k2 => ?_, fun k1 k2 => ?_⟩
  · obtain ⟨bb, hbb, m1, m2, m3, m4⟩ := tb1
    rcases List.mem_cons.mp hbb with rfl | hbb
    · have m3 : 0 ≤ xx.toInt := m3
      have m4 : xx.toInt ≤ uh 2199023255551 r := m4
      rw [hu2] at m4
      exact ⟨m3, by omega⟩
    · rcases List.mem_cons.mp hbb with rfl | hbb
      · have m2 : g.toInt ≤ 0 := m2
        omega
      · rcases List.mem_cons.mp hbb with rfl | hbb
        · have m1 : 4 ≤ g.toInt := m1
          omega
        · cases hbb
  · obtain ⟨bb, hbb, m1, m2, m3, m4⟩ := tb2
    rcases List.mem_cons.mp hbb with rfl | hbb
    · have m3 : 0 ≤ y.toInt := m3
      have m4 : y.toInt ≤ uh 2199023255551 r := m4
      rw [hu2] at m4
      exact ⟨m3, by omega⟩
    · rcases List.mem_cons.mp hbb with rfl | hbb
      · have m2 : g.toInt ≤ 1 := m2
        omega
      · rcases List.mem_cons.mp hbb with rfl | hbb
        · have m1 : 4 ≤ g.toInt := m1
          omega
        · cases hbb
def oInt (C : CO) : Bool := (cO C).all (fun o => match o.1 with
  | some (0, _, _) => true
  | _ => false)
theorem end_int {G : GT} {C : CO} {ρ : List Int} {hp : List AE} {q : ev_R} (ho : oInt C = true) (he : EndOk G C ρ hp q) : ∃ r : Int32, q.1 = some (.int r) := by
  obtain ⟨-, -, o, hoo, τ, -, -, t3⟩ := he
  have h5 := List.all_eq_true.mp ho o hoo
  split at h5
  · rename_i k c hs
    rw [hs] at t3
    obtain ⟨q1, q2⟩ := q
    cases q1 with
    | none => exact t3.elim
    | some v =>
      obtain ⟨x, z, e1, -, -⟩ := (show sv_ok (ρ ++ τ) (0, k, c) v from t3)
      subst e1
      exact ⟨x, rfl⟩
  · cases h5
/-- what a call that takes the tape leaves -/
def TkQ (W : WR) (hp0 : List AE) (q : ev_R) : Prop := (∃ r : Int32, q.1 = some (.int r)) ∧ Agr W hp0 q.2 ∧ hp_ok GG q.2 ∧ hq q.2 180 2 = some (.int 0) ∧ (RR hp0 182 0 → RR q.2 182 0)
theorem e_154 : (Int16.ofInt 154).toInt32 = Int32.ofNat 154 := by decide +kernel
theorem e_155 : (Int16.ofInt 155).toInt32 = Int32.ofNat 155 := by decide +kernel
theorem ty_nd : ∀ j, j < 240 → lkp gc182.2.2 (156 + j) = lkp gc202.2.2 (0 + j) := by decide +kernel
theorem ty_15 : lkp gc182.2.2 154 = none ∧ lkp gc182.2.2 155 = some (0, 0, 59) := by decide +kernel
def W_se : WR := (182, 154, 395) :: cW syh_se
theorem w_se : wr_le (cW syh_se) W_se = true ∧ wr_off (cW syh_se) 182 154 395 = true ∧ oInt syh_se = true ∧ out0 syh_se 180 2 = true ∧ wr_in W_se 182 154 154 = true ∧ wr_in W_se 182 155 155 = true ∧ wr_in W_se 182 156 (156 + 240 - 1) = true := by decide +kernel
theorem se_fail {ρ : List Int} {hp : List AE} {q : ev_R} (e : EndOk GG syh_se ρ hp q) : TkQ W_se hp q :=
  ⟨end_int w_se.2.2.1 e, e.1.mono w_se.1, e.2.1, out0_ok w_se.2.2.2.1 e, fun R => rr_cp (fun i a1 a2 => ag_off e.1 w_se.2.1 (by omega) (by omega)) R⟩
set_option maxRecDepth 100000 in
theorem se_done {dd : Nat} {hp0 : List AE} {ρ : List Int} {L : List (Nat × Value)} {st : List Value} {hp : List AE} (h : st_ok GG ρ lh_se.2.2.2.1 L st hp) (hA : Agr (cW syh_se) hp0 hp) : ∃ q, RT MM dd 273 56 L st hp q ∧ TkQ W_se hp0 q := by
  obtain ⟨hE, hL, hS, hP, g⟩ := h
  have hst := ss_0 hS
  subst hst
  have z0 := hE.2.1
  have l0 := sl_r hL (n := 0) (a := 180) List.mem_cons_self
  obtain ⟨x2, p2, p2z⟩ := sp_cst (show spg lh_se.2.2.2.1.2.2.2 180 2 = some (0, 0, 0) from rfl) hP z0
  obtain ⟨nv, n1, n, nz, n2, n3, n4⟩ := hP _ (spg_mem (show spg lh_se.2.2.2.1.2.2.2 180 48 = some (0, 4, 0) from rfl))
  obtain ⟨tv, t1, t, tz, t2, t3, t4⟩ := hP _ (spg_mem (show spg lh_se.2.2.2.1.2.2.2 180 51 = some (0, 6, 0) from rfl))
  obtain ⟨mv, m1, m, mz, m2, m3, m4⟩ := hP _ (spg_mem (show spg lh_se.2.2.2.1.2.2.2 180 49 = some (0, 5, 0) from rfl))
  subst n2 t2 m2
  have n1 : hq hp 180 48 = some (.int n) := n1
  have t1 : hq hp 180 51 = some (.int t) := t1
  have m1 : hq hp 180 49 = some (.int m) := m1
  have x2e : x2 = 0 := Int32.toInt_inj.mp (p2z.trans (show (0 : Int) = (0 : Int32).toInt from rfl))
  subst x2e
  obtain ⟨zn, w, -, a1, -, -, a4, a5, -⟩ := hE.2.2 4 (1, 60, 6, 1, 5, 17) rfl
  obtain ⟨zt, -, -, b1, b2, b3, -⟩ := hE.2.2 6 (0, 59, 0, 0, 0, 59) rfl
  rw [n3] at a1
  cases a1
  have a4 : ρ[6]? = some w := a4
  rw [t3] at a4 b1
  cases a4
  cases b1
  have a5 : tz + 1 ≤ nz := a5
  have b2 : 0 ≤ tz := b2
  have b3 : tz ≤ 59 := b3
  obtain ⟨l1, c1, c2, c3⟩ := ai_of (hp := hp) (a := 182) (t := 1) (n := 396) (g.1 182 gc182 rfl).1
  have u1 := upd_i (v := 1) c3 (show 154 < l1.length by omega)
  have g1 : hp_ok GG (hp.set 182 (.inl (1, .inl (l1.set 154 1)))) := hp_ud (ct := gc182) g u1 rfl ⟨1, rfl, by decide, by decide⟩ (fun f hf => by rw [ty_15.1] at hf; cases hf) ty_pl.2.2.2.1
  generalize hh1 : hp.set 182 (.inl (1, .inl (l1.set 154 1))) = h1 at u1 g1
  obtain ⟨l2, d1, d2, d3⟩ := ai_of (hp := h1) (a := 182) (t := 1) (n := 396) (g1.1 182 gc182 rfl).1
  have u2 := upd_i (v := t) d3 (show 155 < l2.length by omega)
  have g2 : hp_ok GG (h1.set 182 (.inl (1, .inl (l2.set 155 t)))) := hp_ud (ct := gc182) g1 u2 rfl ⟨t, rfl, i32_lo t, i32_hi t⟩ (fun f hf => by rw [ty_15.2] at hf; cases hf; exact ⟨t, rfl, by omega, by omega⟩) ty_pl.2.2.2.2
  generalize hh2 : h1.set 182 (.inl (1, .inl (l2.set 155 t))) = h2 at u2 g2
  have o1 : ∀ b j, b ≠ 182 → hq h1 b j = hq hp b j := fun b j hb => (u1.2.1 b j).resolve_left (fun e => hb e.1)
  have o2 : ∀ b j, b ≠ 182 → hq h2 b j = hq h1 b j := fun b j hb => (u2.2.1 b j).resolve_left (fun e => hb e.1)
  have key : ∃ q, RT MM dd 273 79 (ev_s1 L 1 (.int (Int32.ofNat 0))) [] h2 q ∧ TkQ W_se hp0 q := by
    refine se1_loop g2 ?_ 240 0 _ h2 rfl (gs_o rfl l0 rfl) gs_n cp_0
    intro L3 h3 n0 k3
    have g3 : hp_ok GG h3 := hp_cp (cd := gc182) (cs := gc202) g2 k3 rfl rfl rfl ty_nd ty_no.2.1
    have o3 : ∀ b j, b ≠ 182 → hq h3 b j = hq hp b j := fun b j hb => by rw [k3.2.1 b j (fun e => hb e.1), o2 b j hb, o1 b j hb]
    refine ⟨(some (.int m), h3), ?_, ⟨m, rfl⟩, (((hA.mono w_se.1).tr (ag_ud u1 w_se.2.2.2.2.1)).tr (ag_ud u2 w_se.2.2.2.2.2.1)).tr (ag_cp k3 (by decide) w_se.2.2.2.2.2.2), g3, ?_, fun _ => ?_⟩
    · refine rt_ald rfl n0 ?_
      refine rt_gf rfl (gf_of (n := 52) (g3.1 180 gc180 rfl).1 (by rw [o3 _ _ (by decide)]; exact m1)) ?_
      exact rt_irt rfl rfl ⟨rfl, rfl⟩
    · show hq h3 180 2 = _
      rw [o3 _ _ (by decide)]
      exact p2
    · refine rr_row (x := 1) (t := t) (n := n) g3 ?_ rfl ?_ ?_ (by omega) (fun j hj => ?_)
      · rw [k3.2.1 182 154 (fun e => absurd e.2.1 (by decide)), (u2.2.1 182 154).resolve_left (fun e => absurd e.2 (by decide))]
        exact u1.2.2
      · rw [k3.2.1 182 155 (fun e => absurd e.2.1 (by decide))]
        exact u2.2.2
      · show hq h3 180 48 = _
        rw [o3 _ _ (by decide)]
        exact n1
      · rw [k3.2.2 j hj, k3.2.1 202 (0 + j) (fun e => absurd e.1 (by decide))]
  obtain ⟨q, hr, hQ⟩ := key
  refine ⟨q, ?_, hQ⟩
  refine rt_ald rfl l0 ?_
  refine rt_gf rfl (gf_of (n := 52) (g.1 180 gc180 rfl).1 (fr_m g (r := 182) (by decide) (by decide +kernel))) ?_
  refine rt_sip rfl e_154 ?_
  refine rt_ico rfl (show Int32.ofInt 1 = 1 from rfl) ?_
  refine rt_iast rfl c1 (by omega) (by decide) ?_
  rw [hh1]
  refine rt_ald rfl l0 ?_
  refine rt_gf rfl (gf_of (n := 52) (g1.1 180 gc180 rfl).1 (fr_m g1 (r := 182) (by decide) (by decide +kernel))) ?_
  refine rt_sip rfl e_155 ?_
  refine rt_ald rfl l0 ?_
  refine rt_gf rfl (gf_of (n := 52) (v := .int t) (g1.1 180 gc180 rfl).1 (by rw [o1 _ _ (by decide)]; exact t1)) ?_
  refine rt_iast rfl d1 (by omega) (by decide) ?_
  rw [hh2]
  refine rt_ico rfl (show Int32.ofInt 0 = Int32.ofNat 0 from rfl) ?_
  refine rt_ist rfl (by decide +kernel) ?_
  exact hr
theorem se_run {hp : List AE} (hG : hp_ok GG hp) : ∃ q : ev_R, (∃ N, ∀ F, N ≤ F → ∀ d, 39 ≤ d → evF F MM d 273 [.ref 180] hp = some q) ∧ TkQ W_se hp q :=
  chk_okQ (C := syh_se) (cs := cs_se) (F := 4000) (Lp := lp_se) (Lh := [lh_se]) (ρ := [0]) (As := [.ref 180]) cs_se_ok ck_se rfl rfl
    (fun lb h => by rw [List.mem_singleton.mp h]; rfl) (en_full []) ⟨rfl, trivial⟩ (fun q hq => absurd hq List.not_mem_nil) hG
    (fun q e => se_fail e)
    (fun dd _ lb hl ρ2 L st hp2 h2 _ hA => by
      have e := List.mem_singleton.mp hl
      subst e
      exact se_done h2 hA)
/-! ===== duchy ===== -/
def W_du : WR := cW syh_d1 ++ cW syh_d2
theorem w_du : wr_le (cW syh_d1) W_du = true ∧ wr_le (cW syh_d2) W_du = true ∧ wr_off (cW syh_d1) 182 154 395 = true ∧ oInt syh_d1 = true ∧ oInt syh_d2 = true ∧ out0 syh_d1 180 2 = true ∧ out0 syh_d2 180 2 = true ∧ (cO syh_d2).all no154 = true := by decide +kernel
theorem du_run {hp : List AE} (hG : hp_ok GG hp) : ∃ q : ev_R, (∃ N, ∀ F, N ≤ F → ∀ d, 8 ≤ d → evF F MM d 195 [.ref 180] hp = some q) ∧ TkQ W_du hp q :=
  chk_okQ (C := syh_d1) (cs := cs_d1) (F := 4000) (Lp := lp_d1) (Lh := [lh_d1]) (ρ := [0]) (As := [.ref 180]) cs_d1_ok ck_d1 rfl rl_d1
    (fun lb h => by rw [List.mem_singleton.mp h]; rfl) (en_full []) ⟨rfl, trivial⟩ (fun q hq => absurd hq List.not_mem_nil) hG
    (fun q e => ⟨end_int w_du.2.2.2.1 e, e.1.mono w_du.1, e.2.1, out0_ok w_du.2.2.2.2.2.1 e, fun R => rr_cp (fun i a1 a2 => ag_off e.1 w_du.2.2.1 (by omega) (by omega)) R⟩)
    (fun dd hdd lb hl ρ2 L st hp2 h2 hρ hA => by
      have e := List.mem_singleton.mp hl
      subst e
      obtain ⟨q, hr, e⟩ : Done GG MM syh_d2 dd [0] hp2 108 L st hp2 := lab_ok (C := syh_d2) (cs := cs_d2) (F := 4000) (ρ0 := [0]) cs_d2_ok hdd ⟨rfl, rfl⟩ rfl (by decide +kernel) rl_d2 _ _ 0 _ rfl rfl ρ2 L st hp2 h2 hρ Agr.rf 0 (fun q => absurd rfl q) rfl
      refine ⟨q, hr, end_int w_du.2.2.2.2.1 e, (hA.mono w_du.1).tr (e.1.mono w_du.2.1), e.2.1, out0_ok w_du.2.2.2.2.2.2.1 e, fun _ => ?_⟩
      obtain ⟨-, -, o, ho, τ, t1, t2, -⟩ := id e
      exact rr_no e.2.1 t2 t1.2.1 (List.all_eq_true.mp w_du.2.2.2.2.2.2.2 o ho))
