/-! ===== what holds between two calls of the law ===== -/
/-- a row of a sentence leads downwards -/
def row_ok (hp : List AE) (a o r : Nat) : Prop := ∀ g x y : Int32, hq hp a (o + (156 + 4 * r)) = some (.int g) → hq hp a (o + (157 + 4 * r)) = some (.int x) → hq hp a (o + (158 + 4 * r)) = some (.int y) → (1 ≤ g.toInt → g.toInt ≤ 3 → 0 ≤ x.toInt ∧ x.toInt < (r : Int)) ∧ (2 ≤ g.toInt → g.toInt ≤ 3 → 0 ≤ y.toInt ∧ y.toInt < (r : Int))
def RR (hp : List AE) (a o : Nat) : Prop := ∃ n t : Int32, hq hp a (o + 154) = some (.int n) ∧ hq hp a (o + 155) = some (.int t) ∧ (n.toInt = 0 ∨ (n.toInt = 1 ∧ ∀ r : Nat, r ≤ 59 → (r : Int) ≤ t.toInt → row_ok hp a o r))
def RT3 (hp : List AE) : Prop := RR hp 182 0 ∧ RR hp 184 0 ∧ RR hp 184 396
def LInv (hp : List AE) : Prop := hp_ok GG hp ∧ (∃ z : Int32, hq hp 1 1 = some (.int z) ∧ hq hp 180 2 = some (.int z)) ∧ RT3 hp ∧ hh hp 203 = some (1, 2, 1)
theorem rr_cp {h0 h1 : List AE} {a0 o0 a1 o1 : Nat} (h : ∀ i, 154 ≤ i → i ≤ 395 → hq h1 a1 (o1 + i) = hq h0 a0 (o0 + i)) (R : RR h0 a0 o0) : RR h1 a1 o1 := by
  obtain ⟨n, t, e1, e2, e3⟩ := R
  refine ⟨n, t, by rw [h 154 (by omega) (by omega)]; exact e1, by rw [h 155 (by omega) (by omega)]; exact e2, ?_⟩
  rcases e3 with e3 | ⟨e3, e4⟩
  · exact Or.inl e3
  · refine Or.inr ⟨e3, fun r hr ht g x y q1 q2 q3 => ?_⟩
    rw [h _ (by omega) (by omega)] at q1 q2 q3
    exact e4 r hr ht g x y q1 q2 q3
def wr_off (W : WR) (a lo hi : Nat) : Bool := W.all (fun q => !(Nat.beq q.1 a) || Nat.blt q.2.2 lo || Nat.blt hi q.2.1)
theorem wr_off_ok {W : WR} {a lo hi i : Nat} (hw : wr_off W a lo hi = true) (h1 : lo ≤ i) (h2 : i ≤ hi) : wr_in W a i i = false := by
  cases hv : wr_in W a i i with
  | false => rfl
  | true =>
    exfalso
    obtain ⟨q, hq, he⟩ := List.any_eq_true.mp hv
    rw [Bool.and_eq_true, Bool.and_eq_true] at he
    have h3 := List.all_eq_true.mp hw q hq
    rw [Bool.or_eq_true, Bool.or_eq_true] at h3
    have e2 := Nat.le_of_ble_eq_true he.1.2
    have e3 := Nat.le_of_ble_eq_true he.2
    rcases h3 with (h3 | h3) | h3
    · rw [he.1.1] at h3; cases h3
    · have : q.2.2 < lo := Nat.le_of_ble_eq_true h3; omega
    · have : hi < q.2.1 := Nat.le_of_ble_eq_true h3; omega
theorem ag_off {W : WR} {h0 h1 : List AE} {a lo hi i : Nat} (hA : Agr W h0 h1) (hw : wr_off W a lo hi = true) (e1 : lo ≤ i) (e2 : i ≤ hi) : hq h1 a i = hq h0 a i := hA.2 a i (wr_off_ok hw e1 e2)
theorem rt_quiet {W : WR} {h0 h1 : List AE} (hA : Agr W h0 h1) (hw : (wr_off W 182 154 395 && wr_off W 184 0 791) = true) (R : RT3 h0) : RT3 h1 := by
  rw [Bool.and_eq_true] at hw
  exact ⟨rr_cp (fun i e1 e2 => ag_off hA hw.1 (by omega) (by omega)) R.1, rr_cp (fun i e1 e2 => ag_off hA hw.2 (by omega) (by omega)) R.2.1, rr_cp (fun i e1 e2 => ag_off hA hw.2 (by omega) (by omega)) R.2.2⟩
def quW (W : WR) : Bool := (wr_off W 182 154 395 && wr_off W 184 0 791) && (wr_off W 1 1 1 && wr_off W 180 2 2)
theorem li_quiet {W : WR} {h0 h1 : List AE} (I : LInv h0) (hA : Agr W h0 h1) (hG : hp_ok GG h1) (hw : quW W = true) : LInv h1 := by
  unfold quW at hw
  rw [Bool.and_eq_true] at hw
  have hw2 := hw.2
  rw [Bool.and_eq_true] at hw2
  obtain ⟨z, e1, e2⟩ := I.2.1
  exact ⟨hG, ⟨z, by rw [ag_off hA hw2.1 (Nat.le_refl 1) (Nat.le_refl 1)]; exact e1, by rw [ag_off hA hw2.2 (Nat.le_refl 2) (Nat.le_refl 2)]; exact e2⟩, rt_quiet hA hw.1 I.2.2.1, by rw [hA.1]; exact I.2.2.2⟩
/-- one value for one symbol -/
theorem sv_uniq {ρ : List Int} {k : Nat} {c : Int} {v w : Value} (h1 : sv_ok ρ (0, k, c) v) (h2 : sv_ok ρ (0, k, c) w) : v = w := by
  obtain ⟨x, z, e1, e2, e3⟩ := h1
  obtain ⟨y, z2, f1, f2, f3⟩ := h2
  rw [e2] at f2
  cases f2
  rw [e1, f1, Int32.toInt_inj.mp (e3.trans f3.symm)]
def isV0 : SV → Option (Nat × Int)
  | (0, k, c) => some (k, c)
  | _ => none
theorem isV0_ok {u : SV} {q : Nat × Int} (h : isV0 u = some q) : u = (0, q.1, q.2) := by
  match u, h with
  | (0, k, c), h => cases h; rfl
/-- two places that hold one symbol -/
def sp_eqB (P Q : SP) (a b i j : Nat) : Bool := match (spg P a i).bind isV0, (spg Q b j).bind isV0 with
  | some u, some v => Nat.beq u.1 v.1 && decide (u.2 = v.2)
  | _, _ => false
theorem sp_eqB_ok {P Q : SP} {a b i j : Nat} (h : sp_eqB P Q a b i j = true) {ρ : List Int} {h0 h1 : List AE} (hP : sp_ok ρ P h0) (hQ : sp_ok ρ Q h1) : hq h0 a i = hq h1 b j := by
  unfold sp_eqB at h
  split at h
  · rename_i u v hu hv
    obtain ⟨p, p1, p2⟩ := Option.bind_eq_some_iff.mp hu
    obtain ⟨q, q1, q2⟩ := Option.bind_eq_some_iff.mp hv
    rw [Bool.and_eq_true] at h
    have e1 := Nat.eq_of_beq_eq_true h.1
    have e2 := of_decide_eq_true h.2
    obtain ⟨x, x1, x2⟩ := hP _ (spg_mem p1)
    obtain ⟨y, y1, y2⟩ := hQ _ (spg_mem q1)
    have x2 : sv_ok ρ p x := x2
    have y2 : sv_ok ρ q y := y2
    have x1 : hq h0 a i = some x := x1
    have y1 : hq h1 b j = some y := y1
    rw [isV0_ok p2] at x2
    rw [isV0_ok q2, ← e1, ← e2] at y2
    rw [x1, y1, sv_uniq x2 y2]
  · cases h
def sp_eqs (P Q : SP) (a oa b ob lo n : Nat) : Bool := (List.range n).all (fun j => sp_eqB P Q a b (oa + (lo + j)) (ob + (lo + j)))
theorem sp_eqs_ok {P Q : SP} {a oa b ob lo n : Nat} (h : sp_eqs P Q a oa b ob lo n = true) {ρ : List Int} {h0 h1 : List AE} (hP : sp_ok ρ P h0) (hQ : sp_ok ρ Q h1) : ∀ i, lo ≤ i → i < lo + n → hq h0 a (oa + i) = hq h1 b (ob + i) := by
  intro i e1 e2
  have h2 := List.all_eq_true.mp h (i - lo) (List.mem_range.mpr (by omega))
  have h3 := sp_eqB_ok h2 hP hQ
  rw [show lo + (i - lo) = i by omega] at h3
  exact h3
/-- a place that holds a constant -/
theorem sp_cst {P : SP} {a i : Nat} {c : Int} {ρ : List Int} {hp : List AE} (h : spg P a i = some (0, 0, c)) (hP : sp_ok ρ P hp) (h0 : ρ[0]? = some 0) : ∃ x : Int32, hq hp a i = some (.int x) ∧ x.toInt = c := by
  obtain ⟨v, v1, v2⟩ := hP _ (spg_mem h)
  obtain ⟨x, z, e1, e2, e3⟩ := (show sv_ok ρ (0, 0, c) v from v2)
  rw [h0] at e2
  cases e2
  exact ⟨x, by rw [← e1]; exact v1, by omega⟩
def out0 (C : CO) (a i : Nat) : Bool := (cO C).all (fun o => match spg o.2.2.1 a i with
  | some (0, 0, c) => decide (c = 0)
  | _ => false)
theorem out0_ok {G : GT} {C : CO} {ρ : List Int} {hp : List AE} {q : ev_R} {a i : Nat} (h : out0 C a i = true) (he : EndOk G C ρ hp q) : hq q.2 a i = some (.int 0) := by
  obtain ⟨-, -, o, ho, τ, t1, t2, -⟩ := he
  have h2 := List.all_eq_true.mp h o ho
  split at h2
  · rename_i c hs
    have hc := of_decide_eq_true h2
    subst hc
    obtain ⟨x, x1, x2⟩ := sp_cst hs t2 t1.2.1
    rw [x1, Int32.toInt_inj.mp (x2.trans (show (0 : Int) = (0 : Int32).toInt from rfl))]
  · cases h2
def outI (C : CO) : Bool := plainName (mY MM (cMi C)).cls && (cO C).all (fun o => match o.1 with
  | some (0, _, _) => true
  | _ => false)
/-- a contract as the law's walk takes it -/
theorem sd_run {G : GT} {C : CO} (hC : CoOk G MM C) (l : Launch) (b : Nat) (en ac : Nat → Nat) (D : va_G) {ρ : List Int} {As : List Value} {hp : List AE} (h1 : en_ok ρ (cE C)) (h2 : ss_ok ρ (cA C) As) (h3 : sp_ok ρ (cP C) hp) (h4 : hp_ok G hp) (hd : cDep C ≤ 100) (ho : outI C = true) : ∃ (r : Int32) (hc : List AE), ev_M l b en ac D MM 100 (cMi C) As hp (some (.int r), hc) ∧ EndOk G C ρ hp (some (.int r), hc) := by
  obtain ⟨⟨q1, q2⟩, ⟨N, hN⟩, he⟩ := hC.2.2 ρ As hp h1 h2 h3 h4
  unfold outI at ho
  rw [Bool.and_eq_true] at ho
  have hM := (evF_ok l b en ac D N MM_val MM_abs 100 _ _ _ _ (hN N (Nat.le_refl _) 100 hd)).1 ho.1
  have he2 := he
  obtain ⟨-, -, o, hoo, τ, -, -, t3⟩ := he2
  have h5 := List.all_eq_true.mp ho.2 o hoo
  split at h5
  · rename_i k c hs
    rw [hs] at t3
    cases q1 with
    | none => exact t3.elim
    | some v =>
      obtain ⟨x, z, e1, -, -⟩ := (show sv_ok (ρ ++ τ) (0, k, c) v from t3)
      subst e1
      exact ⟨x, q2, hM, he⟩
  · cases h5
theorem en_full (zs : List Int32) : en_ok (0 :: zs.map (fun z => z.toInt)) ((0, 0, 0, 0, 0, 0) :: List.replicate zs.length (-2147483648, 2147483647, 0, -2147483648, 0, 2147483647)) := by
  refine ⟨by rw [List.length_cons, List.length_cons, List.length_map, List.length_replicate], rfl, fun k e he => ?_⟩
  cases k with
  | zero => cases he; exact ⟨0, 0, 0, rfl, by decide, by decide, rfl, by decide, rfl, by decide⟩
  | succ k =>
    have he : (List.replicate zs.length ((-2147483648, 2147483647, 0, -2147483648, 0, 2147483647) : EE))[k]? = some e := he
    rw [List.getElem?_replicate] at he
    split at he
    · rename_i hk
      cases he
      have hz : (0 :: zs.map (fun z => z.toInt))[k + 1]? = some ((zs[k]).toInt) := by
        rw [List.getElem?_cons_succ, List.getElem?_map, List.getElem?_eq_getElem hk]; rfl
      have a1 := i32_lo zs[k]
      have a2 := i32_hi zs[k]
      exact ⟨_, 0, 0, hz, a1, a2, rfl, by simp only; omega, rfl, by simp only; omega⟩
    · cases he
theorem hp_x {hp : List AE} (h : hp_ok GG hp) : ∃ fs, hp[0]? = some (.inr (10, fs)) := by
  obtain ⟨fs, h1, -⟩ := hh_obj (h.1 0 gc0 rfl).1
  exact ⟨fs, h1⟩
theorem hp_m {hp : List AE} (h : hp_ok GG hp) : ∃ fs, hp[180]? = some (.inr (11, fs)) := by
  obtain ⟨fs, h1, -⟩ := hh_obj (h.1 180 gc180 rfl).1
  exact ⟨fs, h1⟩
/-- an int's place -/
theorem hp_i {hp : List AE} {a i t n : Nat} {ct : CT} {lo hi : Int} (h : hp_ok GG hp) (hc : GG.1 a = some ct) (hd : ct.1 = (0, t, n)) (hi0 : i < n) (hf : ct.2.1 = (0, lo, hi)) : ∃ x : Int32, hq hp a i = some (.int x) ∧ lo ≤ x.toInt ∧ x.toInt ≤ hi ∧ ∀ f, lkp ct.2.2 i = some f → ft_ok f (.int x) := by
  obtain ⟨h1, h2⟩ := h.1 a ct hc
  rw [hd] at h1
  obtain ⟨v, hv⟩ := hq_some h1 hi0
  obtain ⟨h3, h4⟩ := h2 i v hv
  rw [hf] at h3
  obtain ⟨x, rfl, h5, h6⟩ := h3
  exact ⟨x, hv, h5, h6, h4⟩
theorem hp_155 {hp : List AE} (h : hp_ok GG hp) : ∃ x : Int32, hq hp 182 155 = some (.int x) ∧ 0 ≤ x.toInt ∧ x.toInt ≤ 59 := by
  obtain ⟨x, h1, -, -, h2⟩ := hp_i (a := 182) (i := 155) (ct := gc182) h rfl rfl (by decide) rfl
  obtain ⟨y, e1, e2, e3⟩ := (show ft_ok (0, 0, 59) (.int x) from h2 (0, 0, 59) (by decide +kernel))
  cases e1
  exact ⟨x, h1, e2, e3⟩
theorem li_take {WX WM : WR} {hp hc hd : List AE} (I : LInv hp) (AX : Agr WX hp hc) (qx : (wr_off WX 182 154 395 && wr_off WX 184 0 791) = true) (AM : Agr WM hc hd) (GM : hp_ok GG hd) (RM : RT3 hc → RT3 hd) (qm : wr_off WM 1 1 1 = true) (z1 : hq hc 1 1 = some (.int 0)) (z2 : hq hd 180 2 = some (.int 0)) : LInv hd :=
  ⟨GM, ⟨0, by rw [ag_off AM qm (Nat.le_refl 1) (Nat.le_refl 1)]; exact z1, z2⟩, RM (rt_quiet AX qx I.2.2.1), by rw [AM.1, AX.1]; exact I.2.2.2⟩
/-- the tables of a kept sentence -/
theorem gk_ok {hp : List AE} {n t : Int32} (h : hp_ok GG hp) (h1 : hq hp 182 154 = some (.int n)) (hn : n.toInt = 1) (T : Nat) (hT : T ≤ 59) (hR : ∀ r : Nat, r ≤ T → row_ok hp 182 0 r) : hp_ok (GK T) hp := by
  refine ⟨h.1, fun tb htb => ?_⟩
  rcases List.mem_append.mp htb with q | q
  · exact h.2 tb q
  · have key : ∀ r : Nat, r ≤ T → ∀ tb ∈ rt2 r, RB1 tb hp := by
      intro r hr tb htb i n2 g v e1 e2 e3 e4
      have hrow : hq hp 182 (156 + 4 * r) = some (.int g) ∧ True := by
        rcases List.mem_cons.mp htb with rfl | htb
        · have e1 : hq hp 182 154 = some (.int n2) := e1
          rw [h1] at e1
          cases e1
          have hi : i = 0 := by rw [hn] at e2; omega
          subst hi
          exact ⟨by have := e3; simpa using this, trivial⟩
        · rcases List.mem_cons.mp htb with rfl | htb
          · have e1 : hq hp 182 154 = some (.int n2) := e1
            rw [h1] at e1
            cases e1
            have hi : i = 0 := by rw [hn] at e2; omega
            subst hi
            exact ⟨by have := e3; simpa using this, trivial⟩
          · cases htb
      obtain ⟨x, hx, -⟩ := hp_i (a := 182) (i := 157 + 4 * r) (ct := gc182) h rfl rfl (by omega) rfl
      obtain ⟨y, hy, -⟩ := hp_i (a := 182) (i := 158 + 4 * r) (ct := gc182) h rfl rfl (by omega) rfl
      have hz := hR r hr g x y (by rw [Nat.zero_add]; exact hrow.1) (by rw [Nat.zero_add]; exact hx) (by rw [Nat.zero_add]; exact hy)
      have glo := i32_lo g
      have ghi := i32_hi g
      have vlo := i32_lo v
      have vhi := i32_hi v
      have hi : i = 0 := by
        rcases List.mem_cons.mp htb with rfl | htb
        · have e1 : hq hp 182 154 = some (.int n2) := e1
          rw [h1] at e1
          cases e1
          rw [hn] at e2; omega
        · rcases List.mem_cons.mp htb with rfl | htb
          · have e1 : hq hp 182 154 = some (.int n2) := e1
            rw [h1] at e1
            cases e1
            rw [hn] at e2; omega
          · cases htb
      subst hi
      have rb : ∀ (gl : Int), (gl = 1 ∨ gl = 2) → ((gl ≤ g.toInt → g.toInt ≤ 3 → 0 ≤ v.toInt ∧ v.toInt < (r : Int))) → ∃ bb ∈ rbx r gl, bb.1 ≤ g.toInt ∧ g.toInt ≤ bb.2.1 ∧ bb.2.2.1 ≤ v.toInt ∧ v.toInt ≤ uh bb.2.2.2 0 := by
        intro gl hgl hv
        by_cases c1 : g.toInt ≤ gl - 1
        · exact ⟨(-2147483648, gl - 1, -2147483648, 2147483647), List.mem_append_right _ List.mem_cons_self, glo, c1, vlo, vhi⟩
        · by_cases c2 : 4 ≤ g.toInt
          · exact ⟨(4, 2147483647, -2147483648, 2147483647), List.mem_append_right _ (List.mem_cons_of_mem _ List.mem_cons_self), c2, ghi, vlo, vhi⟩
          · obtain ⟨v1, v2⟩ := hv (by omega) (by omega)
            cases r with
            | zero => exfalso; simp only [Int.ofNat_zero] at v2; omega
            | succ r =>
              refine ⟨(gl, 3, 0, (r : Int)), List.mem_append_left _ List.mem_cons_self, by show gl ≤ _; omega, by show _ ≤ (3 : Int); omega, v1, ?_⟩
              have hu : uh (r : Int) 0 = (r : Int) := by
                unfold uh
                rw [show decide ((r : Int) < 1099511627776) = true from decide_eq_true (by omega)]
                rfl
              show v.toInt ≤ uh (r : Int) 0
              rw [hu]
              have v3 : v.toInt < ((r + 1 : Nat) : Int) := v2
              omega
      rcases List.mem_cons.mp htb with rfl | htb
      · have e4 : hq hp 182 (157 + 4 * r) = some (.int v) := by have := e4; simpa using this
        rw [hx] at e4
        cases e4
        exact rb 1 (Or.inl rfl) hz.1
      · rcases List.mem_cons.mp htb with rfl | htb
        · have e4 : hq hp 182 (158 + 4 * r) = some (.int v) := by have := e4; simpa using this
          rw [hy] at e4
          cases e4
          exact rb 2 (Or.inr rfl) hz.2
        · cases htb
    have all : ∀ k : Nat, k ≤ T → ∀ tb ∈ rts k, RB1 tb hp := by
      intro k
      induction k with
      | zero => intro hk tb htb; exact key 0 hk tb htb
      | succ k ih =>
        intro hk tb htb
        rcases List.mem_append.mp htb with q | q
        · exact key (k + 1) hk tb q
        · exact ih (by omega) tb q
    exact all T (Nat.le_refl _) tb q
