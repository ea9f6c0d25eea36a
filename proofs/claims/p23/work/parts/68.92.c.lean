/-! ===== a copy keeps what the cells may hold ===== -/
def noPl (a i : Nat) : Bool := GG.2.all (fun t => !(Nat.beq t.1 a) && !(Nat.beq t.2.2.2.1 a) && (!(Nat.beq t.2.2.2.2.2.2.1 a) || !(Nat.beq t.2.2.2.2.2.2.2.1 i)))
def noTb (a : Nat) : Bool := GG.2.all (fun t => !(Nat.beq t.1 a) && !(Nat.beq t.2.2.2.1 a) && !(Nat.beq t.2.2.2.2.2.2.1 a))
theorem rb_pl {h0 h1 : List AE} {a i : Nat} (hn : noPl a i = true) (h : ∀ b j, ¬ (b = a ∧ j = i) → hq h1 b j = hq h0 b j) (g : ∀ t ∈ GG.2, RB1 t h0) : ∀ t ∈ GG.2, RB1 t h1 := by
  intro t ht k n gg v q1 q2 q3 q4
  have hb := List.all_eq_true.mp hn t ht
  rw [Bool.and_eq_true, Bool.and_eq_true, Bool.or_eq_true] at hb
  rw [h _ _ (fun e => hb.2.elim (fun x => nbq x e.1) (fun x => nbq x e.2))] at q1
  rw [h _ _ (fun e => nbq hb.1.2 e.1)] at q3
  rw [h _ _ (fun e => nbq hb.1.1 e.1)] at q4
  exact g t ht k n gg v q1 q2 q3 q4
theorem rb_keep {h0 h1 : List AE} {a : Nat} (hn : noTb a = true) (h : ∀ b j, b ≠ a → hq h1 b j = hq h0 b j) (g : ∀ t ∈ GG.2, RB1 t h0) : ∀ t ∈ GG.2, RB1 t h1 := by
  intro t ht i n gg v q1 q2 q3 q4
  have hb := List.all_eq_true.mp hn t ht
  rw [Bool.and_eq_true, Bool.and_eq_true] at hb
  rw [h _ _ (nbq hb.2)] at q1
  rw [h _ _ (nbq hb.1.2)] at q3
  rw [h _ _ (nbq hb.1.1)] at q4
  exact g t ht i n gg v q1 q2 q3 q4
theorem hp_cp {h0 hp : List AE} {dst d0 src s0 n : Nat} {cd cs : CT} (g : hp_ok GG h0) (c : Cp h0 hp dst d0 src s0 n n) (hd : GG.1 dst = some cd) (hs : GG.1 src = some cs) (ht : cd.2.1 = cs.2.1) (hl : ∀ j, j < n → lkp cd.2.2 (d0 + j) = lkp cs.2.2 (s0 + j)) (hn : noTb dst = true) : hp_ok GG hp := by
  refine ⟨fun a ct hc => ⟨by rw [c.1]; exact (g.1 a ct hc).1, fun i v hv => ?_⟩, rb_keep hn (fun b j hb => c.2.1 b j (fun e => hb e.1)) g.2⟩
  by_cases e : a = dst ∧ d0 ≤ i ∧ i < d0 + n
  · obtain ⟨rfl, e2, e3⟩ := e
    rw [hd] at hc
    cases hc
    have e4 := c.2.2 (i - d0) (by omega)
    rw [show d0 + (i - d0) = i by omega] at e4
    rw [e4] at hv
    obtain ⟨f1, f2⟩ := (g.1 src cs hs).2 _ v hv
    have e5 := hl (i - d0) (by omega)
    rw [show d0 + (i - d0) = i by omega] at e5
    exact ⟨by rw [ht]; exact f1, fun f hf => f2 f (by rw [← e5]; exact hf)⟩
  · rw [c.2.1 a i e] at hv
    exact (g.1 a ct hc).2 i v hv
theorem hp_ud {h0 hp : List AE} {a i : Nat} {v : Value} {ct : CT} (g : hp_ok GG h0) (u : Upd h0 hp a i v) (hc : GG.1 a = some ct) (h1 : ft_ok ct.2.1 v) (h2 : ∀ f, lkp ct.2.2 i = some f → ft_ok f v) (hn : noPl a i = true) : hp_ok GG hp := by
  refine ⟨fun b cb hb => ⟨by rw [u.1]; exact (g.1 b cb hb).1, fun j w hw => ?_⟩, rb_pl hn (fun b j e => (u.2.1 b j).resolve_left e) g.2⟩
  rcases u.2.1 b j with ⟨rfl, rfl⟩ | e
  · rw [hc] at hb
    cases hb
    rw [u.2.2] at hw
    cases hw
    exact ⟨h1, h2⟩
  · rw [e] at hw
    exact (g.1 b cb hb).2 j w hw
theorem ag_cp {W : WR} {h0 hp : List AE} {dst d0 src s0 n i : Nat} (c : Cp h0 hp dst d0 src s0 n i) (hn : 0 < n) (hw : wr_in W dst d0 (d0 + n - 1) = true) : Agr W h0 hp :=
  ⟨c.1, fun a j h => c.2.1 a j (fun e => by
    obtain ⟨rfl, e2, e3⟩ := e
    rw [wr_sub hw e2 (by omega)] at h
    cases h)⟩
theorem ag_ud {W : WR} {h0 hp : List AE} {a i : Nat} {v : Value} (u : Upd h0 hp a i v) (hw : wr_in W a i i = true) : Agr W h0 hp :=
  ⟨u.1, fun b j h => by
    rcases u.2.1 b j with ⟨rfl, rfl⟩ | e
    · rw [hw] at h; cases h
    · exact e⟩
/-- a local that holds a constant -/
theorem sl_c {ρ : List Int} {A : SL} {L : List (Nat × Value)} {n k : Nat} (h0 : ρ[0]? = some 0) (h : sl_ok ρ A L) (hm : (n, ((0, 0, (k : Int)) : SV)) ∈ A) (hk : k < 2147483648) : ev_g L n = some (.int (Int32.ofNat k)) := by
  obtain ⟨v, h1, x, z, h2, h3, h4⟩ := h _ hm
  rw [h0] at h3
  cases h3
  have h1 : ev_g L n = some v := h1
  rw [h1, h2, Int32.toInt_inj.mp (show x.toInt = (Int32.ofNat k).toInt by rw [show (Int32.ofNat k).toInt = (k : Int) from nI_toInt (n := k) hk]; omega)]
theorem sl_r {ρ : List Int} {A : SL} {L : List (Nat × Value)} {n a : Nat} (h : sl_ok ρ A L) (hm : (n, ((2, a, 0) : SV)) ∈ A) : ev_g L n = some (.ref a) := by
  obtain ⟨v, h1, h2⟩ := h _ hm
  have h2 : v = .ref a := h2
  rw [← h2]; exact h1
theorem ty_kn : ∀ k, k < 2 → ∀ j, j < 396 → lkp gc184.2.2 (396 * k + j) = lkp gc182.2.2 (0 + j) := by decide +kernel
theorem ty_no : noTb 184 = true ∧ noTb 182 = true ∧ noTb 187 = true ∧ noTb 189 = true ∧ noTb 190 = true := by decide +kernel
theorem ty_pl : noPl 190 0 = true ∧ noPl 190 1 = true ∧ noPl 180 24 = true ∧ noPl 182 154 = true ∧ noPl 182 155 = true := by decide +kernel
theorem pl_190 : ∀ k, k < 2 → noPl 190 k = true := by decide +kernel
