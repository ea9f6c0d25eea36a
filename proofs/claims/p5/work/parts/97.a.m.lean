section
/-! ===== person's two roads; cells beside ===== -/
theorem agr_len {W : WR} {h0 h1 : List AE} (h : Agr W h0 h1) : h1.length = h0.length := by
  have k1 : ∀ a, a < h1.length ↔ a < h0.length := fun a => by
    have h2 := h.1 a
    unfold hh at h2
    constructor
    · intro q
      rw [List.getElem?_eq_getElem q] at h2
      cases h3 : h0[a]? with
      | none => rw [h3] at h2; cases h2
      | some x => exact (List.getElem?_eq_some_iff.mp h3).1
    · intro q
      rw [List.getElem?_eq_getElem q] at h2
      cases h3 : h1[a]? with
      | none => rw [h3] at h2; cases h2
      | some x => exact (List.getElem?_eq_some_iff.mp h3).1
  have a1 := k1 h1.length
  have a2 := k1 h0.length
  omega
theorem gg_203 {a : Nat} {ct : CT} (h : GG.1 a = some ct) : a < 203 := by
  have h1 := gg_lt h
  by_cases h2 : a < 203
  · exact h2
  · exfalso
    have h3 : a = 203 ∨ a = 204 ∨ a = 205 ∨ a = 206 ∨ a = 207 := by omega
    rcases h3 with rfl | rfl | rfl | rfl | rfl <;> cases h
theorem gg_tb : GG.2.all (fun t => decide (t.1 < 203) && decide (t.2.2.2.1 < 203) && decide (t.2.2.2.2.2.2.1 < 203)) = true := by decide +kernel
theorem li_ext {h0 h1 : List AE} (k1 : ∀ a i, a < 203 → hq h1 a i = hq h0 a i) (k2 : ∀ a, a < 203 → hh h1 a = hh h0 a) (k3 : hh h1 203 = some (1, 2, 1)) (I : LInv h0) : LInv h1 := by
  obtain ⟨hG, ⟨z, z1, z2⟩, ⟨r1, r2, r3⟩, -⟩ := I
  refine ⟨⟨fun a ct hc => ?_, fun t ht => ?_⟩, ⟨z, by rw [k1 _ _ (by decide)]; exact z1, by rw [k1 _ _ (by decide)]; exact z2⟩, ⟨rr_cp (fun i _ _ => k1 _ _ (by decide)) r1, rr_cp (fun i _ _ => k1 _ _ (by decide)) r2, rr_cp (fun i _ _ => k1 _ _ (by decide)) r3⟩, k3⟩
  · have ha := gg_203 hc
    obtain ⟨q1, q2⟩ := hG.1 a ct hc
    exact ⟨by rw [k2 a ha]; exact q1, fun i v hv => q2 i v (by rw [← k1 a i ha]; exact hv)⟩
  · have hb := List.all_eq_true.mp gg_tb t ht
    rw [Bool.and_eq_true, Bool.and_eq_true] at hb
    have b1 := of_decide_eq_true hb.1.1
    have b2 := of_decide_eq_true hb.1.2
    have b3 := of_decide_eq_true hb.2
    intro i n g v q1 q2 q3 q4
    rw [k1 _ _ b3] at q1
    rw [k1 _ _ b2] at q3
    rw [k1 _ _ b1] at q4
    exact hG.2 t ht i n g v q1 q2 q3 q4
theorem hh_lt {hp : List AE} {a : Nat} {q : Nat × Nat × Nat} (h : hh hp a = some q) : a < hp.length := by
  unfold hh at h
  cases h3 : hp[a]? with
  | none => rw [h3] at h; cases h
  | some x => exact (List.getElem?_eq_some_iff.mp h3).1
theorem li_push {hp : List AE} (I : LInv hp) : LInv (pe_h hp) := by
  have hl := hh_lt I.2.2.2
  have e : ∀ a, a ≤ 203 → (pe_h hp)[a]? = hp[a]? := fun a ha => List.getElem?_append_left (by omega)
  refine li_ext (fun a i ha => ?_) (fun a ha => ?_) ?_ I
  · unfold hq; rw [e a (by omega)]
  · unfold hh; rw [e a (by omega)]
  · have := I.2.2.2
    unfold hh at *
    rw [e 203 (by omega)]; exact this
theorem li_set {hp : List AE} (I : LInv hp) (v : Int64) : LInv (hp.set 203 (.inl (2, .inr (.inl [v])))) := by
  have hl := hh_lt I.2.2.2
  refine li_ext (fun a i ha => ?_) (fun a ha => ?_) ?_ I
  · unfold hq; rw [List.getElem?_set_ne (by omega)]
  · unfold hh; rw [List.getElem?_set_ne (by omega)]
  · unfold hh; rw [List.getElem?_set_self hl]; rfl
theorem lix_push {hp : List AE} (I : LIX hp) : LIX (pe_h hp) := by
  have hl := hh_lt I.1.2.2.2
  exact ⟨li_push I.1, xx_same (fun a ha => List.getElem?_append_left (by omega)) I.2⟩
theorem lix_set {hp : List AE} (I : LIX hp) (v : Int64) : LIX (hp.set 203 (.inl (2, .inr (.inl [v])))) := by
  exact ⟨li_set I.1 v, xx_same (fun a ha => List.getElem?_set_ne (by omega)) I.2⟩
theorem li_al {hp : List AE} (I : LInv hp) : ∃ w0, ev_al hp 203 = some (2, [w0]) := by
  obtain ⟨l, h1, h2⟩ := hh_al I.2.2.2
  match l, h2 with
  | [w0], _ => exact ⟨w0, by unfold ev_al; rw [h1]⟩
theorem sd_runD {G : GT} {C : CO} (hC : CoOk G MM C) (l : Launch) (b : Nat) (en ac : Nat → Nat) (D : va_G) (d : Nat) {ρ : List Int} {As : List Value} {hp : List AE} (h1 : en_ok ρ (cE C)) (h2 : ss_ok ρ (cA C) As) (h3 : sp_ok ρ (cP C) hp) (h4 : hp_ok G hp) (hd : cDep C ≤ d) (ho : outI C = true) : ∃ (r : Int32) (hc : List AE), ev_M l b en ac D MM d (cMi C) As hp (some (.int r), hc) ∧ EndOk G C ρ hp (some (.int r), hc) := by
  obtain ⟨⟨q1, q2⟩, ⟨N, hN⟩, he⟩ := hC.2.2 ρ As hp h1 h2 h3 h4
  unfold outI at ho
  rw [Bool.and_eq_true] at ho
  have hM := (evF_ok l b en ac D N MM_val MM_abs d _ _ _ _ (hN N (Nat.le_refl _) d hd)).1 ho.1
  have he2 := he
  obtain ⟨-, -, o, hoo, τ, -, -, t3⟩ := he2
  have h5 := List.all_eq_true.mp ho.2 o hoo
  split at h5
  · rename_i k c hs
    rw [hs] at t3
    cases q1 with
    | none => exact t3.elim
    | some v =>
      obtain ⟨x, z, e1, -, -⟩ := (show sv_ok (ρ ++ τ) (0, k, c) v from t3)
      subst e1
      exact ⟨x, q2, hM, he⟩
  · cases h5
theorem en_three {z w u lo hi lo2 hi2 lo3 hi3 f : Int} (h1 : lo ≤ z) (h2 : z ≤ hi) (h3 : lo2 ≤ w) (h4 : w ≤ hi2) (h5 : lo3 ≤ u) (h6 : u ≤ hi3) (hf : z + f ≤ u) : en_ok [0, z, w, u] [(0, 0, 0, 0, 0, 0), (lo, hi, 0, lo, 0, hi), (lo2, hi2, 0, lo2, 0, hi2), (lo3, hi3, 1, f, 0, hi3)] := by
  refine ⟨rfl, rfl, fun k e he => ?_⟩
  match k, he with
  | 0, he => cases he; exact ⟨0, 0, 0, rfl, by decide, by decide, rfl, by decide, rfl, by decide⟩
  | 1, he => cases he; exact ⟨z, 0, 0, rfl, h1, h2, rfl, by simp only; omega, rfl, by simp only; omega⟩
  | 2, he => cases he; exact ⟨w, 0, 0, rfl, h3, h4, rfl, by simp only; omega, rfl, by simp only; omega⟩
  | 3, he => cases he; exact ⟨u, z, 0, rfl, h5, h6, rfl, hf, rfl, by simp only; omega⟩
  | k + 4, he => cases he
set_option maxRecDepth 100000 in
theorem pe_two (l : Launch) (b : Nat) (en ac : Nat → Nat) (D : va_G) {hp : List AE} (I : LInv hp) (z z2 : Int32) : (∃ (r : Int32) (hc : List AE), ev_M l b en ac D MM 99 34 [.ref 0, .int z, .int z2] hp (some (.int r), hc) ∧ LInv hc ∧ (XX hp → XX hc)) ∨ (∃ (r : Int32) (hc : List AE), ev_M l b en ac D MM 98 28 [.ref 0, .int z] hp (some (.int r), hc) ∧ (LInv hc ∧ (XX hp → XX hc)) ∧ hc.length = hp.length ∧ (r = 0 ∨ (r = 1 ∧ (z2 < 0 ∨ 7 < z2)))) := by
  have a1 := i32_lo z
  have a2 := i32_hi z
  have hr0 : ∀ {r : Int32}, r.toInt = 0 → r = 0 := fun h => Int32.toInt_inj.mp (h.trans (show (0 : Int) = (0 : Int32).toInt from rfl))
  have hr1 : ∀ {r : Int32}, r.toInt = 1 → r = 1 := fun h => Int32.toInt_inj.mp (h.trans (show (1 : Int) = (1 : Int32).toInt from rfl))
  by_cases h1 : z.toInt < 0
  · obtain ⟨r, hc, m1, e1⟩ := sd_runD sypc_2578 l b en ac D 98 (ρ := [0, z.toInt]) (As := [.ref 0, .int z]) (en_one (by omega) (by omega)) ⟨rfl, sv_i rfl, trivial⟩ (fun q hq => absurd hq List.not_mem_nil) I.1 (Nat.le_of_ble_eq_true rfl) (by decide +kernel)
    exact Or.inr ⟨r, hc, m1, ⟨li_quiet I e1.1 e1.2.1 (by decide +kernel), xx_keep e1.1 (by decide +kernel)⟩, agr_len e1.1, Or.inl (hr0 (end_k (v := 0) (by decide +kernel) e1))⟩
  · obtain ⟨dv, hdv⟩ := hq_some (I.1.1 0 gc0 rfl).1 (show 1 < 17 by decide)
    have hd2 : dv = .ref 3 ∨ dv = .ref 13 := ((I.1.1 0 gc0 rfl).2 1 _ hdv).2 (6, 3, 13) (by decide +kernel)
    rcases hd2 with hd2 | hd2
    · obtain ⟨nv, hn⟩ := hq_some (I.1.1 3 gc3 rfl).1 (show 0 < 16 by decide)
      obtain ⟨n, rfl, n1, n2⟩ := (show ft_ok (0, 0, 7) nv from ((I.1.1 3 gc3 rfl).2 0 _ hn).2 (0, 0, 7) (by decide +kernel))
      by_cases h2 : z.toInt < n.toInt
      · by_cases h3 : 0 ≤ z2.toInt ∧ z2.toInt ≤ 7
        · obtain ⟨r, hc, m1, e1⟩ := sd_runD sypc_2581 l b en ac D 99 (ρ := [0, z.toInt, z2.toInt, n.toInt]) (As := [.ref 0, .int z, .int z2]) (en_three (by omega) (by omega) (by omega) (by omega) (by omega) (by omega) (by omega)) ⟨rfl, sv_i rfl, sv_i rfl, trivial⟩ (fun q hq => by
        rcases List.mem_cons.mp hq with rfl | hq
        · exact ⟨_, hdv, hd2⟩
        · rw [List.mem_singleton.mp hq]; exact ⟨.int n, hn, sv_i rfl⟩) I.1 (Nat.le_of_ble_eq_true rfl) (by decide +kernel)
          exact Or.inl ⟨r, hc, m1, li_quiet I e1.1 e1.2.1 (by decide +kernel), xx_keep e1.1 (by decide +kernel)⟩
        · obtain ⟨r, hc, m1, e1⟩ := sd_runD sypc_2579 l b en ac D 98 (ρ := [0, z.toInt, n.toInt]) (As := [.ref 0, .int z]) (en_two (i := 0) (j := 1) (p := 0) (q := z.toInt) (by omega) (by omega) (by omega) (by omega) rfl rfl (by omega) (by omega)) ⟨rfl, sv_i rfl, trivial⟩ (fun q hq => by
        rcases List.mem_cons.mp hq with rfl | hq
        · exact ⟨_, hdv, hd2⟩
        · rw [List.mem_singleton.mp hq]; exact ⟨.int n, hn, sv_i rfl⟩) I.1 (Nat.le_of_ble_eq_true rfl) (by decide +kernel)
          refine Or.inr ⟨r, hc, m1, ⟨li_quiet I e1.1 e1.2.1 (by decide +kernel), xx_keep e1.1 (by decide +kernel)⟩, agr_len e1.1, Or.inr ⟨hr1 (end_k (v := 1) (by decide +kernel) e1), ?_⟩⟩
          by_cases h4 : z2.toInt < 0
          · exact Or.inl (Int32.lt_iff_toInt_lt.mpr (by rw [show (0 : Int32).toInt = 0 from rfl]; exact h4))
          · exact Or.inr (Int32.lt_iff_toInt_lt.mpr (by rw [show (7 : Int32).toInt = 7 from rfl]; omega))
      · obtain ⟨r, hc, m1, e1⟩ := sd_runD sypc_2580 l b en ac D 98 (ρ := [0, z.toInt, n.toInt]) (As := [.ref 0, .int z]) (en_two (i := 2) (j := 0) (p := n.toInt) (q := 0) (by omega) (by omega) (by omega) (by omega) rfl rfl (by omega) (by omega)) ⟨rfl, sv_i rfl, trivial⟩ (fun q hq => by
        rcases List.mem_cons.mp hq with rfl | hq
        · exact ⟨_, hdv, hd2⟩
        · rw [List.mem_singleton.mp hq]; exact ⟨.int n, hn, sv_i rfl⟩) I.1 (Nat.le_of_ble_eq_true rfl) (by decide +kernel)
        exact Or.inr ⟨r, hc, m1, ⟨li_quiet I e1.1 e1.2.1 (by decide +kernel), xx_keep e1.1 (by decide +kernel)⟩, agr_len e1.1, Or.inl (hr0 (end_k (v := 0) (by decide +kernel) e1))⟩
    · obtain ⟨nv, hn⟩ := hq_some (I.1.1 13 gc13 rfl).1 (show 0 < 16 by decide)
      obtain ⟨n, rfl, n1, n2⟩ := (show ft_ok (0, 0, 7) nv from ((I.1.1 13 gc13 rfl).2 0 _ hn).2 (0, 0, 7) (by decide +kernel))
      by_cases h2 : z.toInt < n.toInt
      · by_cases h3 : 0 ≤ z2.toInt ∧ z2.toInt ≤ 7
        · obtain ⟨r, hc, m1, e1⟩ := sd_runD sypc_2584 l b en ac D 99 (ρ := [0, z.toInt, z2.toInt, n.toInt]) (As := [.ref 0, .int z, .int z2]) (en_three (by omega) (by omega) (by omega) (by omega) (by omega) (by omega) (by omega)) ⟨rfl, sv_i rfl, sv_i rfl, trivial⟩ (fun q hq => by
        rcases List.mem_cons.mp hq with rfl | hq
        · exact ⟨_, hdv, hd2⟩
        · rw [List.mem_singleton.mp hq]; exact ⟨.int n, hn, sv_i rfl⟩) I.1 (Nat.le_of_ble_eq_true rfl) (by decide +kernel)
          exact Or.inl ⟨r, hc, m1, li_quiet I e1.1 e1.2.1 (by decide +kernel), xx_keep e1.1 (by decide +kernel)⟩
        · obtain ⟨r, hc, m1, e1⟩ := sd_runD sypc_2582 l b en ac D 98 (ρ := [0, z.toInt, n.toInt]) (As := [.ref 0, .int z]) (en_two (i := 0) (j := 1) (p := 0) (q := z.toInt) (by omega) (by omega) (by omega) (by omega) rfl rfl (by omega) (by omega)) ⟨rfl, sv_i rfl, trivial⟩ (fun q hq => by
        rcases List.mem_cons.mp hq with rfl | hq
        · exact ⟨_, hdv, hd2⟩
        · rw [List.mem_singleton.mp hq]; exact ⟨.int n, hn, sv_i rfl⟩) I.1 (Nat.le_of_ble_eq_true rfl) (by decide +kernel)
          refine Or.inr ⟨r, hc, m1, ⟨li_quiet I e1.1 e1.2.1 (by decide +kernel), xx_keep e1.1 (by decide +kernel)⟩, agr_len e1.1, Or.inr ⟨hr1 (end_k (v := 1) (by decide +kernel) e1), ?_⟩⟩
          by_cases h4 : z2.toInt < 0
          · exact Or.inl (Int32.lt_iff_toInt_lt.mpr (by rw [show (0 : Int32).toInt = 0 from rfl]; exact h4))
          · exact Or.inr (Int32.lt_iff_toInt_lt.mpr (by rw [show (7 : Int32).toInt = 7 from rfl]; omega))
      · obtain ⟨r, hc, m1, e1⟩ := sd_runD sypc_2583 l b en ac D 98 (ρ := [0, z.toInt, n.toInt]) (As := [.ref 0, .int z]) (en_two (i := 2) (j := 0) (p := n.toInt) (q := 0) (by omega) (by omega) (by omega) (by omega) rfl rfl (by omega) (by omega)) ⟨rfl, sv_i rfl, trivial⟩ (fun q hq => by
        rcases List.mem_cons.mp hq with rfl | hq
        · exact ⟨_, hdv, hd2⟩
        · rw [List.mem_singleton.mp hq]; exact ⟨.int n, hn, sv_i rfl⟩) I.1 (Nat.le_of_ble_eq_true rfl) (by decide +kernel)
        exact Or.inr ⟨r, hc, m1, ⟨li_quiet I e1.1 e1.2.1 (by decide +kernel), xx_keep e1.1 (by decide +kernel)⟩, agr_len e1.1, Or.inl (hr0 (end_k (v := 0) (by decide +kernel) e1))⟩
set_option maxRecDepth 100000 in
theorem op_mp (l : Launch) (b : Nat) (en ac : Nat → Nat) (D : va_G) {hp : List AE} (I : LInv hp) (z1 z2 : Int32) : ∃ (r2 : Int32) (hd : List AE) (gs : List Value), ev_M l b en ac D MM 100 243 [.ref 180, .int z1, .int z2] hp (some (.int r2), hd) ∧ (LInv hd ∧ (XX hp → XX hd)) ∧ hp[180]? = some (.inr (11, gs)) := by
  obtain ⟨r2, hd, m2, e2⟩ := sd_run sypc_246 l b en ac D (ρ := [0, z1.toInt, z2.toInt]) (As := [.ref 180, .int z1, .int z2]) (en_full [z1, z2]) ⟨rfl, sv_i rfl, sv_i rfl, trivial⟩ (fun q hq => absurd hq List.not_mem_nil) I.1 (Nat.le_of_ble_eq_true rfl) (by decide +kernel)
  obtain ⟨gs, g1⟩ := hp_m I.1
  exact ⟨r2, hd, gs, m2, ⟨li_quiet I e2.1 e2.2.1 (by decide +kernel), xx_keep e2.1 (by decide +kernel)⟩, g1⟩
end
section
/-! ===== rows of the law ===== -/
abbrev LK (p : Program) (l : Launch) (e : Env) (s : State) (m : MethodId) (below : List Frame) (meth : Method) (c : Code) (en ac : Nat → Nat) (D : va_G) (b0 : Nat) : Nat → List (Nat × Value) → List Value → List AE → Nat → Nat → Prop := Wk p l e room_1 s m #[Value.ref b0] below meth c s.heap.size en ac D MM 300 (lw_Z below #[Value.ref b0] s)
theorem lw_hR : 100 + 4 ≤ room_1.frames ∧ 64 * (100 + 1) + 256 ≤ room_1.locals ∧ mC MM 300 ≤ room_1.cells ∧ mS MM 300 ≤ room_1.slots := by decide +kernel
theorem wk_L {p : Program} {l : Launch} {e : Env} {R : Room} {s : State} {m : MethodId} {args : Array Value} {below : List Frame} {meth : Method} {c : Code} {Q : State → Prop} {b : Nat} {en ac : Nat → Nat} {D : va_G} {M : MT} {mi pc k ks : Nat} {L : List (Nat × Value)} {st : List Value} {hp : List AE} (L' : List (Nat × Value)) (h : L'.all (fun q => L.any (fun r => decide (r = q))) = true) (w : Wk p l e R s m args below meth c b en ac D M mi Q pc L' st hp k ks) : Wk p l e R s m args below meth c b en ac D M mi Q pc L st hp k ks := by
  intro H locs ls w0 hl
  refine w H locs ls w0 ⟨hl.1, hl.2.1, fun q hq => ?_⟩
  obtain ⟨q0, hq0, rfl⟩ := List.mem_map.mp hq
  obtain ⟨r, hr, he⟩ := List.any_eq_true.mp (List.all_eq_true.mp h q0 hq0)
  have he2 := of_decide_eq_true he
  subst he2
  exact hl.2.2 _ (List.mem_map.mpr ⟨r, hr, rfl⟩)
theorem lw_sl {p : Program} {l : Launch} {e : Env} {s : State} {m : MethodId} {below : List Frame} {meth : Method} {c : Code} {en ac : Nat → Nat} {D : va_G} {b0 : Nat} {Ln pc x y k ks : Nat} {xs : Nat → Int32} {i : Int32} {L : List (Nat × Value)} {st : List Value} {hp : List AE} (hC : ex_C p s m #[Value.ref b0] meth c s.heap.size en ac D MM 300) (hX : va_X b0 Ln xs s s.heap) (hbl : b0 < s.heap.size) (hen : en 200 = b0) (hf : mF MM 300 pc = some (.iaload, x, y)) (hin : vp_in i Ln) (w : LK p l e s m below meth c en ac D b0 (pc + 1) L (.int (xs i.toNatClampNeg) :: st) hp k ks) : LK p l e s m below meth c en ac D b0 pc L (.int i :: .retAddr 200 :: st) hp k ks := by
  intro H locs ls w0 hl
  subst hen
  exact va_sld hC.1 hC.2.1 hX hbl (Nat.not_le.mpr hbl) w0.2.1 hin (MM_val 300 pc _ x y hf).1 (w _ _ _ w0 hl)
theorem lw_sn {p : Program} {l : Launch} {e : Env} {s : State} {m : MethodId} {below : List Frame} {meth : Method} {c : Code} {en ac : Nat → Nat} {D : va_G} {b0 : Nat} {Ln pc x y k ks : Nat} {xs : Nat → Int32} {L : List (Nat × Value)} {st : List Value} {hp : List AE} (hC : ex_C p s m #[Value.ref b0] meth c s.heap.size en ac D MM 300) (hX : va_X b0 Ln xs s s.heap) (hbl : b0 < s.heap.size) (hen : en 200 = b0) (hf : mF MM 300 pc = some (.arraylength, x, y)) (w : LK p l e s m below meth c en ac D b0 (pc + 1) L (.int (Int32.ofNat Ln) :: st) hp k ks) : LK p l e s m below meth c en ac D b0 pc L (.retAddr 200 :: st) hp k ks := by
  intro H locs ls w0 hl
  subst hen
  exact va_slen hC.1 hC.2.1 hX hbl (Nat.not_le.mpr hbl) w0.2.1 (MM_val 300 pc _ x y hf).1 (w _ _ _ w0 hl)
theorem lw_rt {p : Program} {l : Launch} {e : Env} {s : State} {m : MethodId} {below : List Frame} {meth : Method} {c : Code} {en ac : Nat → Nat} {D : va_G} {b0 : Nat} {pc x y k ks : Nat} {L : List (Nat × Value)} {hp : List AE} (hC : ex_C p s m #[Value.ref b0] meth c s.heap.size en ac D MM 300) (hf : mF MM 300 pc = some (.ireturn, x, y)) (hk : k ≤ 601024) (hks : ks ≤ 7293034) : LK p l e s m below meth c en ac D b0 pc L [.int 1] hp k ks := by
  intro H locs ls w0 hl
  refine va_forget (fun q hq => w0.2.1.2.2 q hq) ?_
  refine W.widen (k := 601024) (n := 7293034) hk hks ?_
  exact lw_ret hC.1 hC.2.1 hC.2.2.2.2.2.2.2.2.2.1 hC.2.2.2.2.2.2.2.2.1 (MM_val 300 pc _ x y hf).1
set_option maxRecDepth 100000 in
set_option maxHeartbeats 4000000 in
theorem lw_ex {p : Program} {l : Launch} {e : Env} {s : State} {m : MethodId} {below : List Frame} {meth : Method} {c : Code} {en ac : Nat → Nat} {D : va_G} {b0 : Nat} {Ln k ks : Nat} {xs : Nat → Int32} {i : Int32} {hp : List AE} (hC : ex_C p s m #[Value.ref b0] meth c s.heap.size en ac D MM 300) (hX : va_X b0 Ln xs s s.heap) (hbl : b0 < s.heap.size) (hen : en 200 = b0) (hi : Int32.ofNat Ln - 6 < i) (hk : k ≤ 601024) (hks : ks ≤ 7293034) : LK p l e s m below meth c en ac D b0 23 [(4, .int i), (3, .ref 203), (2, .ref 180), (1, .ref 0), (0, .retAddr 200)] [] hp k ks := by
  have hR := lw_hR
  repeat (refine wk_s hR hC MM_val rfl rfl (KW_ok ?_); try dsimp only)
  refine lw_sn hC hX hbl hen rfl ?_
  repeat (refine wk_s hR hC MM_val rfl rfl (KW_ok ?_); try dsimp only)
  refine wk_cT hi ?_
  repeat (refine wk_s hR hC MM_val rfl rfl (KW_ok ?_); try dsimp only)
  exact lw_rt hC rfl hk hks
theorem wk_tsO {p : Program} {l : Launch} {e : Env} {R : Room} {s : State} {m : MethodId} {args : Array Value} {below : List Frame} {meth : Method} {c : Code} {Q : State → Prop} {b : Nat} {en ac : Nat → Nat} {D : va_G} {M : MT} {mi d pc k ks x y t : Nat} {L : List (Nat × Value)} {st : List Value} {hp : List AE} {dflt lo hi : Int} {offs : Array Int} {v : Int32} (hR : d + 4 ≤ R.frames ∧ 64 * (d + 1) + 256 ≤ R.locals ∧ mC M mi ≤ R.cells ∧ mS M mi ≤ R.slots) (hC : ex_C p s m args meth c b en ac D M mi) (hval : ev_val M) (hf : mF M mi pc = some (.tableswitch dflt lo hi offs, x, y)) (hh : v.toInt < lo ∨ hi < v.toInt) (ht : ev_tg pc dflt = some t) (w : Wk p l e R s m args below meth c b en ac D M mi Q t L st hp k ks) : Wk p l e R s m args below meth c b en ac D M mi Q pc L (.int v :: st) hp k ks := by
  refine wk_s hR hC hval hf rfl ?_
  show (if v.toInt < lo ∨ hi < v.toInt then (ev_tg pc dflt).bind (fun t => KW _ _ t L st hp k ks) else _) = _
  rw [if_pos hh, ht]
  exact KW_ok w
theorem wk_st {p : Program} {l : Launch} {e : Env} {R : Room} {s : State} {m : MethodId} {args : Array Value} {below : List Frame} {meth : Method} {c : Code} {Q : State → Prop} {b : Nat} {en ac : Nat → Nat} {D : va_G} {M : MT} {mi pc k ks : Nat} {L : List (Nat × Value)} {st : List Value} {hp : List AE} (st' : List Value) (h : st = st') (w : Wk p l e R s m args below meth c b en ac D M mi Q pc L st' hp k ks) : Wk p l e R s m args below meth c b en ac D M mi Q pc L st hp k ks := by
  rw [h]; exact w
theorem lw_a1 (n : Nat) : Int32.ofNat n + Int32.ofInt 1 = nI (n + 1) := by
  rw [show Int32.ofInt 1 = Int32.ofNat 1 from rfl, ← Int32.ofNat_add]; rfl
theorem lw_b1 {n Ln : Nat} (h : n + 6 ≤ Ln) : n + 1 < Ln := by omega
theorem lw_a2 (n : Nat) : Int32.ofNat n + Int32.ofInt 2 = nI (n + 2) := by
  rw [show Int32.ofInt 2 = Int32.ofNat 2 from rfl, ← Int32.ofNat_add]; rfl
theorem lw_b2 {n Ln : Nat} (h : n + 6 ≤ Ln) : n + 2 < Ln := by omega
theorem lw_a3 (n : Nat) : Int32.ofNat n + Int32.ofInt 3 = nI (n + 3) := by
  rw [show Int32.ofInt 3 = Int32.ofNat 3 from rfl, ← Int32.ofNat_add]; rfl
theorem lw_b3 {n Ln : Nat} (h : n + 6 ≤ Ln) : n + 3 < Ln := by omega
theorem lw_a4 (n : Nat) : Int32.ofNat n + Int32.ofInt 4 = nI (n + 4) := by
  rw [show Int32.ofInt 4 = Int32.ofNat 4 from rfl, ← Int32.ofNat_add]; rfl
theorem lw_b4 {n Ln : Nat} (h : n + 6 ≤ Ln) : n + 4 < Ln := by omega
theorem lw_a5 (n : Nat) : Int32.ofNat n + Int32.ofInt 5 = nI (n + 5) := by
  rw [show Int32.ofInt 5 = Int32.ofNat 5 from rfl, ← Int32.ofNat_add]; rfl
theorem lw_b5 {n Ln : Nat} (h : n + 6 ≤ Ln) : n + 5 < Ln := by omega
theorem lw_b0 {n Ln : Nat} (h : n + 6 ≤ Ln) : n < Ln := by omega
theorem lw_a6 (n : Nat) : Int32.ofNat n + Int32.ofInt 6 = Int32.ofNat (n + 6) := by
  rw [show Int32.ofInt 6 = Int32.ofNat 6 from rfl, ← Int32.ofNat_add]
theorem lw_mem (v w x y z : Value) : ([(4, v), (3, w), (2, x), (1, y), (0, z)] : List (Nat × Value)).all (fun q => ((4, v) :: ([(3, w), (2, x), (1, y), (0, z)] : List (Nat × Value))).any (fun r => decide (r = q))) = true := by
  simp
theorem lw_sl2 {p : Program} {l : Launch} {e : Env} {s : State} {m : MethodId} {below : List Frame} {meth : Method} {c : Code} {en ac : Nat → Nat} {D : va_G} {b0 : Nat} {Ln pc x y k ks : Nat} {xs : Nat → Int32} {i : Int32} {L : List (Nat × Value)} {st : List Value} {hp : List AE} (hC : ex_C p s m #[Value.ref b0] meth c s.heap.size en ac D MM 300) (hX : va_X b0 Ln xs s s.heap) (hbl : b0 < s.heap.size) (hen : en 200 = b0) (hf : mF MM 300 pc = some (.iaload, x, y)) {j : Nat} (hi : i = nI j) (hj : j < Ln) (hL : Ln ≤ 3072) (w : LK p l e s m below meth c en ac D b0 (pc + 1) L (.int (xs j) :: st) hp k ks) : LK p l e s m below meth c en ac D b0 pc L (.int i :: .retAddr 200 :: st) hp k ks := by
  subst hi
  have hc : (nI j).toNatClampNeg = j := nI_clamp (Nat.lt_of_lt_of_le hj (Nat.le_trans hL (by decide)))
  refine lw_sl hC hX hbl hen hf ?_ (by rw [hc]; exact w)
  unfold vp_in
  rw [hc]
  exact fun h => h.elim (nI_pos (Nat.lt_of_lt_of_le hj (Nat.le_trans hL (by decide)))) (fun h => Nat.lt_irrefl _ (Nat.lt_of_lt_of_le hj h))
set_option maxRecDepth 100000 in
set_option maxHeartbeats 4000000 in
theorem lw_inc {p : Program} {l : Launch} {e : Env} {s : State} {m : MethodId} {below : List Frame} {meth : Method} {c : Code} {en ac : Nat → Nat} {D : va_G} {b0 : Nat} {n k ks : Nat} {hp : List AE} (hC : ex_C p s m #[Value.ref b0] meth c s.heap.size en ac D MM 300) (w : LK p l e s m below meth c en ac D b0 23 [(4, .int (Int32.ofNat (n + 6))), (3, .ref 203), (2, .ref 180), (1, .ref 0), (0, .retAddr 200)] [] hp k ks) : LK p l e s m below meth c en ac D b0 1250 [(4, .int (Int32.ofNat n)), (3, .ref 203), (2, .ref 180), (1, .ref 0), (0, .retAddr 200)] [] hp k ks := by
  have hR := lw_hR
  refine wk_s hR hC MM_val rfl rfl (KW_ok ?_)
  refine wk_s hR hC MM_val rfl rfl (KW_ok ?_)
  rw [lw_a6 n]
  exact wk_L [(4, .int (Int32.ofNat (n + 6))), (3, .ref 203), (2, .ref 180), (1, .ref 0), (0, .retAddr 200)] (lw_mem _ _ _ _ _) w
end
