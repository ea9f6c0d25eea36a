/-! ===== rules for lengths, switches, quotients, places as numbers ===== -/
section
variable {dd mi pc x y : Nat} {L : List (Nat × Value)} {st : List Value} {hp : List AE} {l l2 : List (Nat × AE)} {q : ev_R}
theorem ow_aln {a : Nat} {arr : List Int64} (hf : mF MM mi pc = some (.arraylength, x, y)) (hk : olk l a = some (.inl (2, .inr (.inl arr)))) (ha : Nat.ble 204 hp.length = true) (hb : Nat.blt a 204 = true) (h : RT MM dd mi (pc + 1) L (.int (Int32.ofNat arr.length) :: st) (ov hp l) q) : RT MM dd mi pc L (.ref a :: st) (ov hp l) q := by
  have e := ov_at hk (Nat.lt_of_lt_of_le (Nat.le_of_ble_eq_true hb) (Nat.le_of_ble_eq_true ha))
  have e2 : ev_an (ov hp l) a = some (2, arr.length) := by unfold ev_an; rw [e]
  refine RT_step hf (fun cf K => ?_) h
  show (ev_an (ov hp l) a).bind (fun z => if z.1 < 7 then K (pc + 1) L (.int (Int32.ofNat z.2) :: st) (ov hp l) 0 0 else none) = _
  rw [e2]
  rfl
theorem rt_ord {idx v : Nat} (hf : mF MM mi pc = some (.invokevirtual idx, 900, y)) (hv : v < 32) (hc8 : Nat.ble ((st.map fun v => v.category).sum) 8 = true) (h : RT MM dd mi (pc + 3) L (.int (Int32.ofNat v) :: st) hp q) : RT MM dd mi pc L (.retAddr v :: st) hp q :=
  RT_step hf (fun cf K => by
    show (if (900 : Nat) = 900 ∧ v < 32 ∧ 0 ≤ mC MM mi ∧ 0 ≤ mS MM mi then (if (st.map fun v => v.category).sum ≤ 8 then K (pc + 3) L (.int (Int32.ofNat v) :: st) hp 0 0 else none) else _) = _
    rw [if_pos ⟨rfl, hv, Nat.zero_le _, Nat.zero_le _⟩, if_pos (Nat.le_of_ble_eq_true hc8)]) h
theorem rt_isw {i v : Int32} (hf : mF MM mi pc = some (.iaload, x, y)) (hi : ev_rd ev_sw i = some v) (h : RT MM dd mi (pc + 1) L (.int v :: st) hp q) : RT MM dd mi pc L (.int i :: .retAddr 100 :: st) hp q :=
  RT_step hf (fun cf K => by
    show (if (100 : Nat) = 100 then (ev_rd ev_sw i).bind (fun v => K (pc + 1) L (.int v :: st) hp 0 0) else none) = _
    rw [if_pos rfl, hi]
    rfl) h
theorem rt_tsD {d lo hi : Int} {offs : Array Int} {v : Int32} {t : Nat} (hf : mF MM mi pc = some (.tableswitch d lo hi offs, x, y)) (hv : v.toInt < lo ∨ hi < v.toInt) (ht : ev_tg pc d = some t) (h : RT MM dd mi t L st hp q) : RT MM dd mi pc L (.int v :: st) hp q :=
  RT_step hf (fun cf K => by
    show (if v.toInt < lo ∨ hi < v.toInt then (ev_tg pc d).bind (fun t => K t L st hp 0 0) else _) = _
    rw [if_pos hv, ht]
    rfl) h
theorem rt_div {a b c : Int32} (hf : mF MM mi pc = some (.idiv, x, y)) (hb : ¬ b = 0) (hc : a / b = c) (h : RT MM dd mi (pc + 1) L (.int c :: st) hp q) : RT MM dd mi pc L (.int b :: .int a :: st) hp q :=
  RT_step hf (fun cf K => by
    show (if b = 0 then none else K (pc + 1) L (.int (a / b) :: st) hp 0 0) = _
    rw [if_neg hb, hc]) h
theorem rt_rem {a b c : Int32} (hf : mF MM mi pc = some (.irem, x, y)) (hb : ¬ b = 0) (hc : a - a / b * b = c) (h : RT MM dd mi (pc + 1) L (.int c :: st) hp q) : RT MM dd mi pc L (.int b :: .int a :: st) hp q :=
  RT_step hf (fun cf K => by
    show (if b = 0 then none else K (pc + 1) L (.int (a - a / b * b) :: st) hp 0 0) = _
    rw [if_neg hb, hc]) h
theorem rt_mulE {a b c : Int32} (hf : mF MM mi pc = some (.imul, x, y)) (hc : a * b = c) (h : RT MM dd mi (pc + 1) L (.int c :: st) hp q) : RT MM dd mi pc L (.int b :: .int a :: st) hp q := RT_step hf (fun _ _ => by subst hc; rfl) h
theorem rt_addE {a b c : Int32} (hf : mF MM mi pc = some (.iadd, x, y)) (hc : a + b = c) (h : RT MM dd mi (pc + 1) L (.int c :: st) hp q) : RT MM dd mi pc L (.int b :: .int a :: st) hp q := RT_step hf (fun _ _ => by subst hc; rfl) h
theorem rt_iorE {a b c : Int32} (hf : mF MM mi pc = some (.ior, x, y)) (hc : a ||| b = c) (h : RT MM dd mi (pc + 1) L (.int c :: st) hp q) : RT MM dd mi pc L (.int b :: .int a :: st) hp q := RT_step hf (fun _ _ => by subst hc; rfl) h
theorem rt_iandE {a b c : Int32} (hf : mF MM mi pc = some (.iand, x, y)) (hc : a &&& b = c) (h : RT MM dd mi (pc + 1) L (.int c :: st) hp q) : RT MM dd mi pc L (.int b :: .int a :: st) hp q := RT_step hf (fun _ _ => by subst hc; rfl) h
theorem ow_ialN {a i : Nat} {arr : List Int32} {v : Int32} (hf : mF MM mi pc = some (.iaload, x, y)) (hk : olk l a = some (.inl (1, .inl arr))) (hi : arr[i]? = some v) (hb2 : i < 2147483648) (ha : Nat.ble 204 hp.length = true) (hb : Nat.blt a 204 = true) (h : RT MM dd mi (pc + 1) L (.int v :: st) (ov hp l) q) : RT MM dd mi pc L (.int (Int32.ofNat i) :: .ref a :: st) (ov hp l) q := ow_ial hf hk (rd_nat hi hb2) ha hb h
theorem ow_lalN {a i : Nat} {arr : List Int64} {v : Int64} (hf : mF MM mi pc = some (.laload, x, y)) (hk : olk l a = some (.inl (2, .inr (.inl arr)))) (hi : arr[i]? = some v) (hb2 : i < 2147483648) (ha : Nat.ble 204 hp.length = true) (hb : Nat.blt a 204 = true) (h : RT MM dd mi (pc + 1) L (.long v :: st) (ov hp l) q) : RT MM dd mi pc L (.int (Int32.ofNat i) :: .ref a :: st) (ov hp l) q := ow_lal hf hk (rd_nat hi hb2) ha hb h
theorem ow_balN {a t i : Nat} {arr : List Int32} {v : Int32} (hf : mF MM mi pc = some (.baload, x, y)) (hk : olk l a = some (.inl (t, .inl arr))) (ht : t = 0 ∨ t = 3) (hi : arr[i]? = some v) (hb2 : i < 2147483648) (ha : Nat.ble 204 hp.length = true) (hb : Nat.blt a 204 = true) (h : RT MM dd mi (pc + 1) L (.int v :: st) (ov hp l) q) : RT MM dd mi pc L (.int (Int32.ofNat i) :: .ref a :: st) (ov hp l) q := ow_bal hf hk ht (rd_nat hi hb2) ha hb h
theorem gd_i {α : Type} {arr : List α} {i : Nat} (h : i < arr.length) : arr[i]? = some (arr[i]) := List.getElem?_eq_getElem h
theorem ow_iasN {a i : Nat} {arr : List Int32} {v : Int32} (hf : mF MM mi pc = some (.iastore, x, y)) (hk : olk l a = some (.inl (1, .inl arr))) (hi : i < arr.length) (hb2 : i < 2147483648) (ha : Nat.ble 204 hp.length = true) (hb : Nat.blt a 204 = true) (hl : oin l a (.inl (1, .inl (arr.set i v))) = l2) (h : RT MM dd mi (pc + 1) L st (ov hp l2) q) : RT MM dd mi pc L (.int v :: .int (Int32.ofNat i) :: .ref a :: st) (ov hp l) q :=
  ow_ias hf hk (rd_nat (gd_i hi) hb2) ha hb (by rw [show (Int32.ofNat i).toNatClampNeg = i from nI_c hb2]; exact hl) h
theorem ow_lasN {a i : Nat} {arr : List Int64} {v : Int64} (hf : mF MM mi pc = some (.lastore, x, y)) (hk : olk l a = some (.inl (2, .inr (.inl arr)))) (hi : i < arr.length) (hb2 : i < 2147483648) (ha : Nat.ble 204 hp.length = true) (hb : Nat.blt a 204 = true) (hl : oin l a (.inl (2, .inr (.inl (arr.set i v)))) = l2) (h : RT MM dd mi (pc + 1) L st (ov hp l2) q) : RT MM dd mi pc L (.long v :: .int (Int32.ofNat i) :: .ref a :: st) (ov hp l) q :=
  ow_las hf hk (rd_nat (gd_i hi) hb2) ha hb (by rw [show (Int32.ofNat i).toNatClampNeg = i from nI_c hb2]; exact hl) h
theorem ow_zasN {a i : Nat} {arr : List Int32} {v : Int32} (hf : mF MM mi pc = some (.bastore, x, y)) (hk : olk l a = some (.inl (3, .inl arr))) (hi : i < arr.length) (hb2 : i < 2147483648) (hv : v = 0 ∨ v = 1) (ha : Nat.ble 204 hp.length = true) (hb : Nat.blt a 204 = true) (hl : oin l a (.inl (3, .inl (arr.set i v))) = l2) (h : RT MM dd mi (pc + 1) L st (ov hp l2) q) : RT MM dd mi pc L (.int v :: .int (Int32.ofNat i) :: .ref a :: st) (ov hp l) q :=
  ow_zas hf hk (rd_nat (gd_i hi) hb2) hv ha hb (by rw [show (Int32.ofNat i).toNatClampNeg = i from nI_c hb2]; exact hl) h
end
theorem FR_st {k mi : Nat} {As : List Value} {H : List AE} {v : Option Value} {l l2 : List (Nat × AE)} (hl : (Nat.ble (lg_sl As).length (mL MM mi) && Nat.ble (mL MM mi) 40) = true) (e : oil l l2 = l2) (h : RT MM k mi 0 (lv_args 0 As) [] (ov H l) (v, ov H l2)) : FR (k + 1) mi As (ov H l) (v, ov (ov H l) l2) := by
  rw [ov_ov, e]
  exact FR_of hl h
/-! ===== one TOKEN for both, as a state ===== -/
def TF (k n a kd w : Nat) (le : Int64) (nu nuM sg : Int32) (wd : Int64) : Prop :=
  a ≤ n ∧ k ≤ a ∧ (kd ≠ 0 → kd ≠ 4 → k + 1 ≤ a) ∧ kd < 5 ∧ w < 32 ∧
  (kd = 1 → ∃ rs : List Nat, vl rs = true ∧ 1 ≤ rs.length ∧ rs.length ≤ 7 ∧ le = p5 rs ∧ wd = p27 rs ∧ w = wix (p5 rs) 32 0) ∧ (kd ≠ 1 → w = 0) ∧
  (kd = 2 → ∃ v : Nat, v < 1000 ∧ nu = Int32.ofNat v ∧ nuM = Int32.ofNat v) ∧ (kd = 3 → ∃ c : Nat, c < 256 ∧ nu = Int32.ofNat c ∧ sg = Int32.ofNat c)
def TC (n lim : Nat) (po : List Value) (k : Nat) (tk td : Int32) (T M : AE) : Prop := ∃ (a kd pl w : Nat) (le : Int64) (nu fp nuM sg plM : Int32) (wd : Int64), T = tcl n lim a kd pl w le nu tk (Int32.ofNat 0) fp ∧ M = mcl (Int32.ofNat 0) (Int32.ofNat 0) n lim a pl (km kd) nuM sg (Int32.ofNat 0) plM wd td po ∧ TF k n a kd w le nu nuM sg wd
/-- both have refused, alike -/
def FC (n lim : Nat) (po : List Value) (T M : AE) : Prop := ∃ (a kd pl w : Nat) (le : Int64) (nu tk : Int32) (kk am fm kM : Nat) (nuM sg fa qm : Int32) (wd : Int64) (td : Int32), T = tcl n lim a kd pl w le nu tk (Int32.ofNat kk) (Int32.ofNat pl) ∧ M = mcl (Int32.ofNat 0) (Int32.ofNat 0) n lim am fm kM nuM sg fa qm wd td po ∧ fa = Int32.ofNat kk ∧ qm = Int32.ofNat pl ∧ 1 ≤ kk ∧ kk ≤ 4
def XQt (bs : List Int32) (k mi : Nat) (As : List Value) (T : AE) (r : Option Value) (T2 : AE) : Prop := ∀ H : List AE, Nat.ble 204 H.length = true → H[1]? = some T → H[2]? = some (bcl bs) → FR k mi As H (r, ov H [(1, T2)])
def MQt (ts : List Int32) (k mi : Nat) (As : List Value) (M : AE) (r : Option Value) (M2 : AE) : Prop := ∀ H : List AE, Nat.ble 204 H.length = true → H[180]? = some M → H[181]? = some (mtl ts) → FR k mi As H (r, ov H [(180, M2)])
theorem km_is : ∀ kd, kd < 5 → (km kd = 3 ↔ kd = 2) ∧ (km kd = 1 ↔ kd = 0) ∧ (km kd = 2 ↔ kd = 1) ∧ (km kd = 4 ↔ kd = 3) ∧ (km kd = 0 ↔ kd = 4) ∧ km kd < 10 := by decide
theorem adv_a (B : Nat → Nat) {n lim a : Nat} (ha : a ≤ n) : a ≤ (advV B n lim a).1 ∧ (advV B n lim a).1 ≤ n ∧ ((advV B n lim a).2.1 ≠ 0 → (advV B n lim a).2.1 ≠ 4 → a + 1 ≤ (advV B n lim a).1) := by
  have hs := skp_le B (n - a) a
  unfold advV
  generalize skp B (n - a) a = s at hs ⊢
  by_cases c1 : lim ≤ s ∧ lim < n
  · rw [if_pos c1]
    exact ⟨hs.1, by show s ≤ n; omega, fun e => absurd rfl e⟩
  · rw [if_neg c1]
    by_cases c2 : n ≤ s
    · rw [if_pos c2]
      exact ⟨hs.1, by show s ≤ n; omega, fun _ e => absurd rfl e⟩
    · rw [if_neg c2]
      by_cases c3 : isLt (B s) = true ∨ isDg (B s) = true
      · rw [if_pos c3]
        obtain ⟨ds, e1, -, -, -, e5⟩ := both_run B true s (n - s) s [] rfl
        have hm := e5 (by omega) c3
        rw [List.append_nil] at e1
        have e2 : (xrun B (n - s) s 0 0 0 0).1 = s + ds.length := congrArg Prod.fst e1
        have hle := (xrun_le B (n - s) s 0 0 0 0).1
        have hpos : 1 ≤ ds.length := by
          cases ds with
          | nil => exact absurd hm List.not_mem_nil
          | cons d ds => rw [List.length_cons]; omega
        exact ⟨by show a ≤ (xrun B (n - s) s 0 0 0 0).1; omega, by show (xrun B (n - s) s 0 0 0 0).1 ≤ n; omega, fun _ _ => by show a + 1 ≤ (xrun B (n - s) s 0 0 0 0).1; omega⟩
      · rw [if_neg c3]
        exact ⟨by show a ≤ s + 1; omega, by show s + 1 ≤ n; omega, fun _ _ => by show a + 1 ≤ s + 1; omega⟩
section
variable {B : Nat → Nat} {bs ts : List Int32} {n lim : Nat} {po : List Value} {k a kd pl w : Nat} {le : Int64} {nu tk td fp nuM sg plM : Int32} {wd : Int64}
theorem tc_begin (hb : ∀ i, B i < 256) (ha : a ≤ n) (hk : k ≤ a) : TC n lim po k tk td (advC B n lim a tk (Int32.ofNat 0) fp) (mcl (Int32.ofNat 0) (Int32.ofNat 0) n lim (goV B n lim a nuM sg wd).1 (goV B n lim a nuM sg wd).2.1 (goV B n lim a nuM sg wd).2.2.1 (goV B n lim a nuM sg wd).2.2.2.1 (goV B n lim a nuM sg wd).2.2.2.2.1 (Int32.ofNat 0) plM (goV B n lim a nuM sg wd).2.2.2.2.2 td po) := by
  obtain ⟨r1, r2, r3, r4, r5, r6, r7, r8⟩ := tok_rel B hb n lim a ha nuM sg wd
  obtain ⟨q1, q2, q3⟩ := adv_a B (lim := lim) ha
  refine ⟨(advV B n lim a).1, (advV B n lim a).2.1, (advV B n lim a).2.2.1, (advV B n lim a).2.2.2.1, (advV B n lim a).2.2.2.2.1, (advV B n lim a).2.2.2.2.2, fp, (goV B n lim a nuM sg wd).2.2.2.1, (goV B n lim a nuM sg wd).2.2.2.2.1, plM, (goV B n lim a nuM sg wd).2.2.2.2.2, rfl, by rw [r1, r2, ← r4], q2, by omega, fun e1 e2 => by have := q3 e1 e2; omega, by omega, ?_, r5, r6, r7, r8⟩
  by_cases c : (advV B n lim a).2.1 = 1
  · obtain ⟨rs, -, -, -, -, -, e⟩ := r5 c
    rw [e]
    exact wix_lt _ 32 0 rfl
  · rw [r6 c]; decide
theorem tc_adv (hb : ∀ i, B i < 256) (t : TF k n a kd w le nu nuM sg wd) (h0 : kd ≠ 0) (h4 : kd ≠ 4) : TC n lim po (k + 1) tk td (advC B n lim a tk (Int32.ofNat 0) fp) (mcl (Int32.ofNat 0) (Int32.ofNat 0) n lim (goV B n lim a nuM sg wd).1 (goV B n lim a nuM sg wd).2.1 (goV B n lim a nuM sg wd).2.2.1 (goV B n lim a nuM sg wd).2.2.2.1 (goV B n lim a nuM sg wd).2.2.2.2.1 (Int32.ofNat 0) plM (goV B n lim a nuM sg wd).2.2.2.2.2 td po) :=
  tc_begin hb t.1 (t.2.2.1 h0 h4)
theorem s_adv (hB : BY bs B) (hM : MY ts B) (hb : ∀ i, B i < 256) (hn : n ≤ 940) (hl : lim ≤ 940) (t : TF k n a kd w le nu nuM sg wd) (h0 : kd ≠ 0) (h4 : kd ≠ 4) : ∃ T M, TC n lim po (k + 1) tk td T M ∧ XQt bs 3 155 [.ref 1] (tcl n lim a kd pl w le nu tk (Int32.ofNat 0) fp) none T ∧ MQt ts 2 205 [.ref 180] (mcl (Int32.ofNat 0) (Int32.ofNat 0) n lim a pl (km kd) nuM sg (Int32.ofNat 0) plM wd td po) none M :=
  ⟨_, _, tc_adv hb t h0 h4, fun H hlen h1 h2 => x_adv hB hlen h1 h2 t.1 hn hl, fun H hlen h1 h2 => m_go hM hlen h1 h2 t.1 hn hl⟩
/-- both refuse at this TOKEN -/
theorem s_ref (t : TF k n a kd w le nu nuM sg wd) {kk : Nat} (hk1 : 1 ≤ kk) (hk4 : kk ≤ 4) (h : kd ≠ 0 ∨ kk = 1) : ∃ T M, FC n lim po T M ∧ XQt bs 1 165 [.ref 1, .int (Int32.ofNat kk)] (tcl n lim a kd pl w le nu tk (Int32.ofNat 0) fp) (some (.int (Int32.ofNat 0))) T ∧ MQt ts 1 174 [.ref 180, .int (Int32.ofNat kk)] (mcl (Int32.ofNat 0) (Int32.ofNat 0) n lim a pl (km kd) nuM sg (Int32.ofNat 0) plM wd td po) (some (.int (Int32.ofNat 0))) M := by
  obtain ⟨-, e1, -, -, -, e6⟩ := km_is kd t.2.2.2.1
  refine ⟨_, _, ⟨a, kd, pl, w, le, nu, tk, kk, a, pl, km kd, nuM, sg, (if km kd = 1 then Int32.ofNat 1 else Int32.ofNat kk), Int32.ofNat pl, wd, td, rfl, rfl, ?_, rfl, hk1, hk4⟩, fun H hlen h1 h2 => x_refuse hlen h1, fun H hlen h1 h2 => m_bad hlen h1 e6⟩
  by_cases c : km kd = 1
  · rw [if_pos c]
    rcases h with h | h
    · exact absurd (e1.mp c) h
    · rw [h]
  · rw [if_neg c]
theorem s_num (hB : BY bs B) (hM : MY ts B) (hb : ∀ i, B i < 256) (hn : n ≤ 940) (hl : lim ≤ 940) (t : TF k n a kd w le nu nuM sg wd) {lo hi : Nat} (hlo : lo < 2000) (hhi : hi < 2000) : (∃ T M, FC n lim po T M ∧ XQt bs 4 168 [.ref 1, .int (Int32.ofNat lo), .int (Int32.ofNat hi)] (tcl n lim a kd pl w le nu tk (Int32.ofNat 0) fp) (some (.int (Int32.ofNat 0))) T ∧ MQt ts 3 260 [.ref 180, .int (Int32.ofNat lo), .int (Int32.ofNat hi)] (mcl (Int32.ofNat 0) (Int32.ofNat 0) n lim a pl (km kd) nuM sg (Int32.ofNat 0) plM wd td po) (some (.int (Int32.ofNat 0))) M) ∨ (∃ v T M, lo ≤ v ∧ v ≤ hi ∧ TC n lim po (k + 1) (Int32.ofNat v) (Int32.ofNat v) T M ∧ XQt bs 4 168 [.ref 1, .int (Int32.ofNat lo), .int (Int32.ofNat hi)] (tcl n lim a kd pl w le nu tk (Int32.ofNat 0) fp) (some (.int (Int32.ofNat 1))) T ∧ MQt ts 3 260 [.ref 180, .int (Int32.ofNat lo), .int (Int32.ofNat hi)] (mcl (Int32.ofNat 0) (Int32.ofNat 0) n lim a pl (km kd) nuM sg (Int32.ofNat 0) plM wd td po) (some (.int (Int32.ofNat 1))) M) := by
  obtain ⟨e3, e1, -, -, -, e6⟩ := km_is kd t.2.2.2.1
  have hk : kd < 10 := by have := t.2.2.2.1; omega
  by_cases c1 : kd = 2
  · obtain ⟨v, v1, v2, v3⟩ := t.2.2.2.2.2.2.2.1 c1
    subst v2 v3
    by_cases c2 : lo ≤ v ∧ v ≤ hi
    · have c3 : (Nat.ble lo v && Nat.ble v hi) = true := by rw [Nat.ble_eq_true_of_le c2.1, Nat.ble_eq_true_of_le c2.2]; rfl
      exact Or.inr ⟨v, _, _, c2.1, c2.2, tc_adv hb t (by omega) (by omega), fun H hlen h1 h2 => x_takesNumber_t hB hlen h1 h2 t.1 hn hl hk hlo hhi (by omega) c1 rfl c2.1 c2.2, fun H hlen h1 h2 => m_readNumber_t hM hlen h1 h2 t.1 hn hl e6 hlo hhi (by omega) (e3.mpr c1) rfl c3⟩
    · have c3 : (Nat.ble lo v && Nat.ble v hi) = false := by
        by_cases c4 : lo ≤ v
        · rw [ble_f (show hi < v by omega), Bool.and_false]
        · rw [ble_f (show v < lo by omega)]; rfl
      refine Or.inl ⟨_, _, ⟨a, kd, pl, w, le, Int32.ofNat v, tk, 2, a, pl, km kd, Int32.ofNat v, sg, (if km kd = 1 then Int32.ofNat 1 else Int32.ofNat 2), Int32.ofNat pl, wd, td, rfl, rfl, ?_, rfl, by decide, by decide⟩, fun H hlen h1 h2 => x_takesNumber_2 hB hlen h1 h2 t.1 hn hl hk hlo hhi (by omega) c1 rfl (by omega), fun H hlen h1 h2 => m_readNumber_2 hM hlen h1 h2 t.1 hn hl e6 hlo hhi (by omega) (e3.mpr c1) rfl c3⟩
      rw [if_neg (fun e => by have := e1.mp e; omega)]
  · refine Or.inl ⟨_, _, ⟨a, kd, pl, w, le, nu, tk, 1, a, pl, km kd, nuM, sg, (if km kd = 1 then Int32.ofNat 1 else Int32.ofNat 1), Int32.ofNat pl, wd, td, rfl, rfl, ?_, rfl, by decide, by decide⟩, fun H hlen h1 h2 => x_takesNumber_1 hB hlen h1 h2 t.1 hn hl hk c1, fun H hlen h1 h2 => m_readNumber_1 hM hlen h1 h2 t.1 hn hl e6 (fun e => c1 (e3.mp e))⟩
    split <;> rfl
/-- the sign that ends a LINE -/
theorem s_end (hB : BY bs B) (hM : MY ts B) (hb : ∀ i, B i < 256) (hn : n ≤ 940) (hl : lim ≤ 940) (t : TF k n a kd w le nu nuM sg wd) : (∃ T M, FC n lim po T M ∧ XQt bs 4 167 [.ref 1, .int (Int32.ofNat 59)] (tcl n lim a kd pl w le nu tk (Int32.ofNat 0) fp) (some (.int (Int32.ofNat 0))) T ∧ MQt ts 3 251 [.ref 180] (mcl (Int32.ofNat 0) (Int32.ofNat 0) n lim a pl (km kd) nuM sg (Int32.ofNat 0) plM wd td po) (some (.int (Int32.ofNat 0))) M) ∨ (∃ T M, TC n lim po (k + 1) tk td T M ∧ XQt bs 4 167 [.ref 1, .int (Int32.ofNat 59)] (tcl n lim a kd pl w le nu tk (Int32.ofNat 0) fp) (some (.int (Int32.ofNat 1))) T ∧ MQt ts 3 251 [.ref 180] (mcl (Int32.ofNat 0) (Int32.ofNat 0) n lim a pl (km kd) nuM sg (Int32.ofNat 0) plM wd td po) (some (.int (Int32.ofNat 1))) M) := by
  obtain ⟨-, e1, -, e4, -, e6⟩ := km_is kd t.2.2.2.1
  have hk : kd < 10 := by have := t.2.2.2.1; omega
  have hs : ∃ c : Nat, c < 256 ∧ (kd = 3 → nu = Int32.ofNat c ∧ sg = Int32.ofNat c) := by
    by_cases c1 : kd = 3
    · obtain ⟨c, q1, q2, q3⟩ := t.2.2.2.2.2.2.2.2 c1
      exact ⟨c, q1, fun _ => ⟨q2, q3⟩⟩
    · exact ⟨0, by decide, fun e => absurd e c1⟩
  obtain ⟨c, q1, q2⟩ := hs
  by_cases c1 : kd = 3 ∧ c = 59
  · have f1 : (Nat.beq kd 3 && Nat.beq c 59) = true := by rw [c1.1, c1.2]; rfl
    have f2 : (Nat.beq (km kd) 4 && Nat.beq c 59) = true := by rw [c1.1, c1.2]; rfl
    exact Or.inr ⟨_, _, tc_adv hb t (by omega) (by omega), fun H hlen h1 h2 => x_takesMark_t hB hlen h1 h2 t.1 hn hl hk (by decide) q1 (fun e => (q2 e).1) f1, fun H hlen h1 h2 => m_readEnd_t hM hlen h1 h2 t.1 hn hl e6 q1 (fun e => (q2 (e4.mp e)).2) f2⟩
  · have f0 : ∀ x y : Nat, (x = y → kd = 3) → (Nat.beq x y && Nat.beq c 59) = false := fun x y hxy => by
      by_cases d1 : x = y
      · rw [nbqf (a := c) (b := 59) (fun e => c1 ⟨hxy d1, e⟩), Bool.and_false]
      · rw [nbqf d1]; rfl
    refine Or.inl ⟨_, _, ⟨a, kd, pl, w, le, nu, tk, 1, a, pl, km kd, nuM, sg, (if km kd = 1 then Int32.ofNat 1 else Int32.ofNat 1), Int32.ofNat pl, wd, td, rfl, rfl, ?_, rfl, by decide, by decide⟩, fun H hlen h1 h2 => x_takesMark_f hB hlen h1 h2 t.1 hn hl hk (by decide) q1 (fun e => (q2 e).1) (f0 kd 3 (fun e => e)), fun H hlen h1 h2 => m_readEnd_f hM hlen h1 h2 t.1 hn hl e6 q1 (fun e => (q2 (e4.mp e)).2) (f0 (km kd) 4 (fun e => e4.mp e))⟩
    split <;> rfl
theorem w_is (t : TF k n a kd w le nu nuM sg wd) {j : Nat} (hj : j < 30) : isW (km kd) wd j = decide (w = WX.getD j 0) := by
  obtain ⟨-, -, e2, -, -, -⟩ := km_is kd t.2.2.2.1
  by_cases c : kd = 1
  · obtain ⟨rs, r1, r2, r3, r4, r5, r6⟩ := t.2.2.2.2.2.1 c
    have hi := word_iff r1 r3 hj
    unfold isW
    rw [e2.mpr c, r5, r6]
    show (true && decide (p27 rs = wo j)) = _
    rw [Bool.true_and]
    exact decide_eq_decide.mpr hi
  · rw [t.2.2.2.2.2.2.1 c]
    unfold isW
    rw [nbqf (fun e => c (e2.mp e))]
    have := (wt_ok j hj).2.2.2.2
    exact (decide_eq_false (by omega)).symm
theorem w_nm (t : TF k n a kd w le nu nuM sg wd) : (Nat.beq (km kd) 2 && nmB wd 30 0) = decide (w = 1) := by
  obtain ⟨-, -, e2, -, -, -⟩ := km_is kd t.2.2.2.1
  by_cases c : kd = 1
  · obtain ⟨rs, r1, r2, r3, r4, r5, r6⟩ := t.2.2.2.2.2.1 c
    have hi := name_iff r1 r2 r3
    rw [e2.mpr c, r5, r6]
    show (true && nmB (p27 rs) 30 0) = _
    rw [Bool.true_and]
    by_cases c2 : wix (p5 rs) 32 0 = 1
    · rw [hi.mpr c2, decide_eq_true c2]
    · rw [decide_eq_false c2]
      cases e : nmB (p27 rs) 30 0 with
      | false => rfl
      | true => exact absurd (hi.mp e) c2
  · rw [t.2.2.2.2.2.2.1 c, nbqf (fun e => c (e2.mp e))]
    rfl
theorem w_k1 (t : TF k n a kd w le nu nuM sg wd) (h : w ≠ 0) : kd = 1 := by
  by_cases c : kd = 1
  · exact c
  · exact absurd (t.2.2.2.2.2.2.1 c) h
end
