/-! ===== image(k), restore(k) ===== -/
def isinC (k : Nat) : CO := (218, 1, [(0, 0, 0, 0, 0, 0)], [(0, 0, (k : Int)), (0, 0, 0), (0, 0, 1)], [], [], [(some (0, 0, 1), [(0, 0, 0, 0, 0, 0)], [], [])], [], [], [], [])
set_option maxRecDepth 100000 in
theorem isin_chk : ∀ k, k < 2 → chk MM GG [] (isinC k) 4000 = true ∧ runL MM GG [] (isinC k) 4000 0 (cL (isinC k)) = true := by decide +kernel
theorem isin_ok {k : Nat} (hk : k < 2) : CoOk GG MM (isinC k) := chk_ok (cs := []) (F := 4000) (fun _ h => absurd h List.not_mem_nil) (isin_chk k hk).1 (isin_chk k hk).2
def lb_im (k : Nat) : LB := (18, 1, 0, ([(0, 0, 0, 0, 0, 0)], [(0, (2, 180, 0)), (1, (0, 0, (k : Int))), (2, (0, 0, 0))], [], []), [], [])
def syt_im (k : Nat) : CO := (212, 2, [(0, 0, 0, 0, 0, 0)], [(2, 180, 0), (0, 0, (k : Int))], [], [], [], [(180, 0, 0), (184, 396 * k, 396 * k + 395), (189, 15 * k, 15 * k + 14), (190, k, k)], [lb_im k], [], [(18, 0)])
set_option maxRecDepth 100000 in
theorem im_chk : ∀ k, k < 2 → chk MM GG [isinC k] (syt_im k) 4000 = true := by decide +kernel
theorem wr_im : ∀ k, k < 2 → wr_in (cW (syt_im k)) 184 (396 * k) (396 * k + 396 - 1) = true ∧ wr_in (cW (syt_im k)) 189 (15 * k) (15 * k + 15 - 1) = true ∧ wr_in (cW (syt_im k)) 190 k k = true := by decide +kernel
def ImQ (k : Nat) (hp : List AE) (q : ev_R) : Prop := q.1 = some (.int 1) ∧ Agr (cW (syt_im k)) hp q.2 ∧ hp_ok GG q.2 ∧ (∀ j, j < 396 → hq q.2 184 (396 * k + j) = hq q.2 182 (0 + j)) ∧ hq q.2 190 k = some (.int 1) ∧ ∀ j, j < 15 → hq q.2 189 (15 * k + j) = hq q.2 187 (0 + j)
set_option maxRecDepth 100000 in
theorem im_done {k : Nat} (hk : k < 2) {dd : Nat} {hp0 : List AE} {ρ : List Int} {L : List (Nat × Value)} {st : List Value} {hp : List AE} (h : st_ok GG ρ (lb_im k).2.2.2.1 L st hp) (hA : Agr (cW (syt_im k)) hp0 hp) : ∃ q, RT MM dd 212 18 L st hp q ∧ ImQ k hp0 q := by
  obtain ⟨hE, hL, hS, -, g⟩ := h
  have hst := ss_0 hS
  subst hst
  have z0 := hE.2.1
  have l0 := sl_r hL (n := 0) (a := 180) List.mem_cons_self
  have l1 := sl_c z0 hL (n := 1) (k := k) (List.mem_cons_of_mem _ List.mem_cons_self) (by omega)
  have l2 := sl_c z0 hL (n := 2) (k := 0) (List.mem_cons_of_mem _ (List.mem_cons_of_mem _ List.mem_cons_self)) (by decide)
  obtain ⟨w1, w2, w3⟩ := wr_im k hk
  refine im1_loop hk g (Q := ImQ k hp0) ?_ 396 0 L hp rfl l0 l1 l2 cp_0
  intro L1 h1 m0 m1 c1
  have g1 : hp_ok GG h1 := hp_cp (cd := gc184) (cs := gc182) g c1 rfl rfl rfl (ty_kn k hk) ty_no.1
  have key : ∃ q, RT MM dd 212 51 (ev_s1 L1 2 (.int (Int32.ofNat 0))) [] h1 q ∧ ImQ k hp0 q := by
    refine im2_loop hk g1 ?_ 15 0 _ h1 rfl (gs_o rfl m0 rfl) (gs_o rfl m1 rfl) gs_n cp_0
    intro L2 h2 n0 n1 c2
    have g2 : hp_ok GG h2 := hp_cp (cd := gc189) (cs := gc187) g1 c2 rfl rfl rfl (fun j hj => rfl) ty_no.2.2.2.1
    obtain ⟨lz, a1, a2, a3⟩ := ai_of (hp := h2) (a := 190) (t := 3) (n := 2) (g2.1 190 gc190 rfl).1
    have u := upd_i (v := 1) a3 (show k < lz.length by omega)
    have g3 : hp_ok GG (h2.set 190 (.inl (3, .inl (lz.set k 1)))) := hp_ud (ct := gc190) g2 u rfl ⟨1, rfl, by decide, by decide⟩ (fun f hf => by cases hf) (pl_190 k hk)
    refine ⟨(some (.int 1), h2.set 190 (.inl (3, .inl (lz.set k 1)))), ?_, ?_⟩
    · refine rt_ald rfl n0 ?_
      refine rt_gf rfl (gf_of (n := 52) (g2.1 180 gc180 rfl).1 (fr_m g2 (r := 190) (by decide) (by decide +kernel))) ?_
      refine rt_ild rfl n1 ?_
      refine rt_ico rfl (show Int32.ofInt 1 = 1 from rfl) ?_
      refine rt_zast rfl a1 (by omega) (by omega) ?_
      refine rt_ico rfl (show Int32.ofInt 1 = 1 from rfl) ?_
      exact rt_irt rfl rfl ⟨rfl, rfl⟩
    · have f3 : ∀ b j, b ≠ 190 → hq (h2.set 190 (.inl (3, .inl (lz.set k 1)))) b j = hq h2 b j := fun b j hb => (u.2.1 b j).resolve_left (fun e => hb e.1)
      refine ⟨rfl, ((hA.tr (ag_cp c1 (by decide) w1)).tr (ag_cp c2 (by decide) w2)).tr (ag_ud u w3), g3, fun j hj => ?_, u.2.2, fun j hj => ?_⟩
      show hq (h2.set 190 (.inl (3, .inl (lz.set k 1)))) 184 (396 * k + j) = hq (h2.set 190 (.inl (3, .inl (lz.set k 1)))) 182 (0 + j)
      rw [f3 _ _ (by decide), f3 _ _ (by decide), c2.2.1 _ _ (fun e => absurd e.1 (by decide)), c2.2.1 _ _ (fun e => absurd e.1 (by decide)), c1.2.2 j hj, c1.2.1 182 _ (fun e => absurd e.1 (by decide))]
      show hq (h2.set 190 (.inl (3, .inl (lz.set k 1)))) 189 (15 * k + j) = hq (h2.set 190 (.inl (3, .inl (lz.set k 1)))) 187 (0 + j)
      rw [f3 _ _ (by decide), f3 _ _ (by decide), c2.2.2 j hj, c2.2.1 187 _ (fun e => absurd e.1 (by decide))]
  obtain ⟨q, hr, hQ⟩ := key
  refine ⟨q, ?_, hQ⟩
  refine rt_ico rfl (show Int32.ofInt 0 = Int32.ofNat 0 from rfl) ?_
  refine rt_ist rfl (by decide +kernel) ?_
  exact hr
theorem im_run {k : Nat} (hk : k < 2) {hp : List AE} (hG : hp_ok GG hp) {z1 : Int32} (hz : z1.toInt = (k : Int)) : ∃ q : ev_R, (∃ N, ∀ F, N ≤ F → ∀ d, 2 ≤ d → evF F MM d 212 [.ref 180, .int z1] hp = some q) ∧ ImQ k hp q :=
  chk_okQ (C := syt_im k) (cs := [isinC k]) (F := 4000) (Lp := []) (Lh := [lb_im k]) (ρ := [0]) (As := [.ref 180, .int z1]) (List.forall_mem_cons.mpr ⟨isin_ok hk, fun _ h => absurd h List.not_mem_nil⟩) (im_chk k hk) rfl rfl
    (fun lb h => by rw [List.mem_singleton.mp h]; rfl) (en_full []) ⟨rfl, ⟨z1, 0, rfl, rfl, by omega⟩, trivial⟩ (fun q hq => absurd hq List.not_mem_nil) hG
    (fun q e => by obtain ⟨-, -, o, ho, -⟩ := e; exact absurd ho List.not_mem_nil)
    (fun dd _ lb hl ρ2 L st hp2 h2 _ hA => by
      have e := List.mem_singleton.mp hl
      subst e
      exact im_done hk h2 hA)
/-! ===== restore(k) ===== -/
def lb_re (k : Nat) : LB := (27, 1, 0, ([(0, 0, 0, 0, 0, 0)], [(0, (2, 180, 0)), (1, (0, 0, (k : Int))), (2, (0, 0, 0))], [], []), [], [])
def syt_re (k : Nat) : CO := (269, 2, [(0, 0, 0, 0, 0, 0)], [(2, 180, 0), (0, 0, (k : Int))], [(190, k, (0, 0, 1))], [], [], [(180, 0, 0), (180, 24, 24), (182, 0, 395), (187, 0, 14)], [lb_re k], [], [(27, 0)])
def syt_r0 (k : Nat) : CO := (269, 2, [(0, 0, 0, 0, 0, 0)], [(2, 180, 0), (0, 0, (k : Int))], [(190, k, (0, 0, 0))], [], [(some (0, 0, 0), [(0, 0, 0, 0, 0, 0)], [], [])], [(180, 0, 0)], [], [], [])
set_option maxRecDepth 100000 in
theorem re_chk : ∀ k, k < 2 → chk MM GG [isinC k] (syt_re k) 4000 = true := by decide +kernel
set_option maxRecDepth 100000 in
theorem r0_chk : ∀ k, k < 2 → chk MM GG [isinC k] (syt_r0 k) 4000 = true := by decide +kernel
theorem r0_ok {k : Nat} (hk : k < 2) : CoOk GG MM (syt_r0 k) := chk_ok (cs := [isinC k]) (F := 4000) (List.forall_mem_cons.mpr ⟨isin_ok hk, fun _ h => absurd h List.not_mem_nil⟩) (r0_chk k hk) rfl
theorem sn_24 : lkp gc180.2.2 24 = some (0, 0, 8) := by decide +kernel
def ReQ (k : Nat) (hp : List AE) (q : ev_R) : Prop := q.1 = some (.int 1) ∧ Agr (cW (syt_re k)) hp q.2 ∧ hp_ok GG q.2 ∧ (∀ j, j < 396 → hq q.2 182 (0 + j) = hq q.2 184 (396 * k + j)) ∧ ∀ j, j < 15 → hq q.2 187 (0 + j) = hq q.2 189 (15 * k + j)
set_option maxRecDepth 100000 in
theorem re_done {k : Nat} (hk : k < 2) {dd : Nat} {hp0 : List AE} {ρ : List Int} {L : List (Nat × Value)} {st : List Value} {hp : List AE} (h : st_ok GG ρ (lb_re k).2.2.2.1 L st hp) (hA : Agr (cW (syt_re k)) hp0 hp) : ∃ q, RT MM dd 269 27 L st hp q ∧ ReQ k hp0 q := by
  obtain ⟨hE, hL, hS, -, g⟩ := h
  have hst := ss_0 hS
  subst hst
  have z0 := hE.2.1
  have l0 := sl_r hL (n := 0) (a := 180) List.mem_cons_self
  have l1 := sl_c z0 hL (n := 1) (k := k) (List.mem_cons_of_mem _ List.mem_cons_self) (by omega)
  have l2 := sl_c z0 hL (n := 2) (k := 0) (List.mem_cons_of_mem _ (List.mem_cons_of_mem _ List.mem_cons_self)) (by decide)
  refine re1_loop hk g (Q := ReQ k hp0) ?_ 396 0 L hp rfl l0 l1 l2 cp_0
  intro L1 h1 m0 m1 c1
  have g1 : hp_ok GG h1 := hp_cp (cd := gc182) (cs := gc184) g c1 rfl rfl rfl (fun j hj => (ty_kn k hk j hj).symm) ty_no.2.1
  have key : ∃ q, RT MM dd 269 60 (ev_s1 L1 2 (.int (Int32.ofNat 0))) [] h1 q ∧ ReQ k hp0 q := by
    refine re2_loop hk g1 ?_ 15 0 _ h1 rfl (gs_o rfl m0 rfl) (gs_o rfl m1 rfl) gs_n cp_0
    intro L2 h2 n0 n1 c2
    have g2 : hp_ok GG h2 := hp_cp (cd := gc187) (cs := gc189) g1 c2 rfl rfl rfl (fun j hj => rfl) ty_no.2.2.1
    obtain ⟨fs, a1, a2⟩ := hh_obj (g2.1 180 gc180 rfl).1
    have u := upd_f (v := .int 0) a1 (show 24 < fs.length by omega)
    have g3 : hp_ok GG (h2.set 180 (.inr (11, fs.set 24 (.int 0)))) := hp_ud (ct := gc180) g2 u rfl trivial (fun f hf => by rw [sn_24] at hf; cases hf; exact ⟨0, rfl, by decide, by decide⟩) ty_pl.2.2.1
    refine ⟨(some (.int 1), h2.set 180 (.inr (11, fs.set 24 (.int 0)))), ?_, ?_⟩
    · refine rt_ald rfl n0 ?_
      refine rt_ico rfl (show Int32.ofInt 0 = 0 from rfl) ?_
      refine rt_put rfl a1 rfl (by omega) (by decide +kernel) ?_
      refine rt_ico rfl (show Int32.ofInt 1 = 1 from rfl) ?_
      exact rt_irt rfl rfl ⟨rfl, rfl⟩
    · have f3 : ∀ b j, b ≠ 180 → hq (h2.set 180 (.inr (11, fs.set 24 (.int 0)))) b j = hq h2 b j := fun b j hb => (u.2.1 b j).resolve_left (fun e => hb e.1)
      refine ⟨rfl, ((hA.tr (ag_cp c1 (by decide) rfl)).tr (ag_cp c2 (by decide) rfl)).tr (ag_ud u rfl), g3, fun j hj => ?_, fun j hj => ?_⟩
      show hq (h2.set 180 (.inr (11, fs.set 24 (.int 0)))) 182 (0 + j) = hq (h2.set 180 (.inr (11, fs.set 24 (.int 0)))) 184 (396 * k + j)
      rw [f3 _ _ (by decide), f3 _ _ (by decide), c2.2.1 _ _ (fun e => absurd e.1 (by decide)), c2.2.1 _ _ (fun e => absurd e.1 (by decide)), c1.2.2 j hj, c1.2.1 184 _ (fun e => absurd e.1 (by decide))]
      show hq (h2.set 180 (.inr (11, fs.set 24 (.int 0)))) 187 (0 + j) = hq (h2.set 180 (.inr (11, fs.set 24 (.int 0)))) 189 (15 * k + j)
      rw [f3 _ _ (by decide), f3 _ _ (by decide), c2.2.2 j hj, c2.2.1 189 _ (fun e => absurd e.1 (by decide))]
  obtain ⟨q, hr, hQ⟩ := key
  refine ⟨q, ?_, hQ⟩
  refine rt_ico rfl (show Int32.ofInt 0 = Int32.ofNat 0 from rfl) ?_
  refine rt_ist rfl (by decide +kernel) ?_
  exact hr
theorem re_run {k : Nat} (hk : k < 2) {hp : List AE} (hG : hp_ok GG hp) {z1 x : Int32} (hz : z1.toInt = (k : Int)) (hx : hq hp 190 k = some (.int x)) (hx1 : x.toInt = 1) : ∃ q : ev_R, (∃ N, ∀ F, N ≤ F → ∀ d, 2 ≤ d → evF F MM d 269 [.ref 180, .int z1] hp = some q) ∧ ReQ k hp q :=
  chk_okQ (C := syt_re k) (cs := [isinC k]) (F := 4000) (Lp := []) (Lh := [lb_re k]) (ρ := [0]) (As := [.ref 180, .int z1]) (List.forall_mem_cons.mpr ⟨isin_ok hk, fun _ h => absurd h List.not_mem_nil⟩) (re_chk k hk) rfl rfl
    (fun lb h => by rw [List.mem_singleton.mp h]; rfl) (en_full []) ⟨rfl, ⟨z1, 0, rfl, rfl, by omega⟩, trivial⟩ (fun q hq => by rw [List.mem_singleton.mp hq]; exact ⟨.int x, hx, x, 0, rfl, rfl, by omega⟩) hG
    (fun q e => by obtain ⟨-, -, o, ho, -⟩ := e; exact absurd ho List.not_mem_nil)
    (fun dd _ lb hl ρ2 L st hp2 h2 _ hA => by
      have e := List.mem_singleton.mp hl
      subst e
      exact re_done hk h2 hA)
/-- a run as the law's walk takes it -/
theorem sd_runQ {mi k : Nat} {As : List Value} {hp : List AE} {Q : ev_R → Prop} (h : ∃ q : ev_R, (∃ N, ∀ F, N ≤ F → ∀ d, k ≤ d → evF F MM d mi As hp = some q) ∧ Q q) (l : Launch) (b : Nat) (en ac : Nat → Nat) (D : va_G) (hd : k ≤ 100) (ho : plainName (mY MM mi).cls = true) : ∃ q : ev_R, ev_M l b en ac D MM 100 mi As hp q ∧ Q q := by
  obtain ⟨q, ⟨N, hN⟩, hQ⟩ := h
  exact ⟨q, (evF_ok l b en ac D N MM_val MM_abs 100 _ _ _ _ (hN N (Nat.le_refl _) 100 hd)).1 ho, hQ⟩
