/-! ===== runs of the small machine by hand: a row an instruction; copies of arrays ===== -/
section
variable {M : MT} {dd mi pc x y : Nat} {L : List (Nat × Value)} {st : List Value} {hp : List AE} {q : ev_R}
theorem rt_ild {n : Fin 4} {z : Int32} (hf : mF M mi pc = some (.iload_n n, x, y)) (hg : ev_g L n = some (.int z)) (h : RT M dd mi (pc + 1) L (.int z :: st) hp q) : RT M dd mi pc L st hp q :=
  RT_step hf (fun cf K => by show (ev_g L n).bind _ = _; rw [hg]; rfl) h
theorem rt_ald {n : Fin 4} {a : Nat} (hf : mF M mi pc = some (.aload_n n, x, y)) (hg : ev_g L n = some (.ref a)) (h : RT M dd mi (pc + 1) L (.ref a :: st) hp q) : RT M dd mi pc L st hp q :=
  RT_step hf (fun cf K => by show (ev_g L n).bind _ = _; rw [hg]; rfl) h
theorem rt_ist {n : Fin 4} {z : Int32} (hf : mF M mi pc = some (.istore_n n, x, y)) (hn : (n : Nat) < mL M mi) (h : RT M dd mi (pc + 1) (ev_s1 L n (.int z)) st hp q) : RT M dd mi pc L (.int z :: st) hp q :=
  RT_step hf (fun cf K => by show (if (n : Nat) < mL M mi then _ else none) = _; rw [if_pos hn]) h
theorem rt_inc {n : Nat} {d : Int} {z : Int32} (hf : mF M mi pc = some (.iinc n d, x, y)) (hg : ev_g L n = some (.int z)) (hn : n < mL M mi) (h : RT M dd mi (pc + 3) (ev_s1 L n (.int (z + Int32.ofInt d))) st hp q) : RT M dd mi pc L st hp q :=
  RT_step hf (fun cf K => by
    show (ev_g L n).bind _ = _
    rw [hg]
    show (if n < mL M mi then _ else none) = _
    rw [if_pos hn]) h
theorem rt_gf {idx a : Nat} {v : Value} (hf : mF M mi pc = some (.getfield idx, x, y)) (hg : ev_gf hp a x y = some v) (h : RT M dd mi (pc + 3) L (v :: st) hp q) : RT M dd mi pc L (.ref a :: st) hp q :=
  RT_step hf (fun cf K => by show (ev_gf hp a x y).bind _ = _; rw [hg]; rfl) h
theorem nI_c {i : Nat} (hb : i < 2147483648) : (Int32.ofNat i).toNatClampNeg = i := nI_clamp (n := i) hb
theorem rd_nat {α : Type} {l : List α} {i : Nat} {v : α} (hi : l[i]? = some v) (hb : i < 2147483648) : ev_rd l (Int32.ofNat i) = some v := by
  unfold ev_rd
  rw [if_neg (show ¬ Int32.ofNat i < 0 from nI_pos (n := i) hb), nI_c hb]
  exact hi
theorem rt_iald {i a : Nat} {l : List Int32} {v : Int32} (hf : mF M mi pc = some (.iaload, x, y)) (ha : ev_ai hp a = some (1, l)) (hi : l[i]? = some v) (hb : i < 2147483648) (h : RT M dd mi (pc + 1) L (.int v :: st) hp q) : RT M dd mi pc L (.int (Int32.ofNat i) :: .ref a :: st) hp q :=
  RT_step hf (fun cf K => by
    show (ev_ai hp a).bind _ = _
    rw [ha]
    show (ev_rd l (Int32.ofNat i)).bind _ = _
    rw [rd_nat hi hb]
    rfl) h
theorem rt_iast {i a : Nat} {l : List Int32} {v : Int32} (hf : mF M mi pc = some (.iastore, x, y)) (ha : ev_ai hp a = some (1, l)) (hi : i < l.length) (hb : i < 2147483648) (h : RT M dd mi (pc + 1) L st (hp.set a (.inl (1, .inl (l.set i v)))) q) : RT M dd mi pc L (.int v :: .int (Int32.ofNat i) :: .ref a :: st) hp q :=
  RT_step hf (fun cf K => by
    show (ev_ai hp a).bind _ = _
    rw [ha]
    show (ev_rd l (Int32.ofNat i)).bind (fun _ => K (pc + 1) L st (hp.set a (.inl (1, .inl (l.set (Int32.ofNat i).toNatClampNeg v)))) 0 0) = _
    rw [rd_nat (List.getElem?_eq_getElem hi) hb, nI_c hb]
    rfl) h
theorem rt_lald {i a : Nat} {l : List Int64} {v : Int64} (hf : mF M mi pc = some (.laload, x, y)) (ha : ev_al hp a = some (2, l)) (hi : l[i]? = some v) (hb : i < 2147483648) (h : RT M dd mi (pc + 1) L (.long v :: st) hp q) : RT M dd mi pc L (.int (Int32.ofNat i) :: .ref a :: st) hp q :=
  RT_step hf (fun cf K => by
    show (ev_al hp a).bind _ = _
    rw [ha]
    show (ev_rd l (Int32.ofNat i)).bind _ = _
    rw [rd_nat hi hb]
    rfl) h
theorem rt_last {i a : Nat} {l : List Int64} {v : Int64} (hf : mF M mi pc = some (.lastore, x, y)) (ha : ev_al hp a = some (2, l)) (hi : i < l.length) (hb : i < 2147483648) (h : RT M dd mi (pc + 1) L st (hp.set a (.inl (2, .inr (.inl (l.set i v))))) q) : RT M dd mi pc L (.long v :: .int (Int32.ofNat i) :: .ref a :: st) hp q :=
  RT_step hf (fun cf K => by
    show (ev_al hp a).bind _ = _
    rw [ha]
    show (ev_rd l (Int32.ofNat i)).bind (fun _ => K (pc + 1) L st (hp.set a (.inl (2, .inr (.inl (l.set (Int32.ofNat i).toNatClampNeg v))))) 0 0) = _
    rw [rd_nat (List.getElem?_eq_getElem hi) hb, nI_c hb]
    rfl) h
theorem rt_zast {i a : Nat} {l : List Int32} (hf : mF M mi pc = some (.bastore, x, y)) (ha : ev_ai hp a = some (3, l)) (hi : i < l.length) (hb : i < 2147483648) (h : RT M dd mi (pc + 1) L st (hp.set a (.inl (3, .inl (l.set i 1)))) q) : RT M dd mi pc L (.int 1 :: .int (Int32.ofNat i) :: .ref a :: st) hp q :=
  RT_step hf (fun cf K => by
    show (ev_ai hp a).bind _ = _
    rw [ha]
    show (ev_rd l (Int32.ofNat i)).bind (fun _ => K (pc + 1) L st (hp.set a (.inl (3, .inl (l.set (Int32.ofNat i).toNatClampNeg 1)))) 0 0) = _
    rw [rd_nat (List.getElem?_eq_getElem hi) hb, nI_c hb]
    rfl) h
theorem rt_geT {off : Int} {a b : Int32} (hf : mF M mi pc = some (.if_icmp .ge off, x, y)) (hc : b ≤ a) (h : RT M dd mi x L st hp q) : RT M dd mi pc L (.int b :: .int a :: st) hp q :=
  RT_step hf (fun cf K => by show K (if b ≤ a then x else pc + 3) L st hp 0 0 = _; rw [if_pos hc]) h
theorem rt_geF {off : Int} {a b : Int32} (hf : mF M mi pc = some (.if_icmp .ge off, x, y)) (hc : ¬ b ≤ a) (h : RT M dd mi (pc + 3) L st hp q) : RT M dd mi pc L (.int b :: .int a :: st) hp q :=
  RT_step hf (fun cf K => by show K (if b ≤ a then x else pc + 3) L st hp 0 0 = _; rw [if_neg hc]) h
theorem rt_put {idx a : Nat} {fs : List Value} {v : Value} (hf : mF M mi pc = some (.putfield idx, x, y)) (ha : hp[a]? = some (.inr (x, fs))) (hv : ev_f (TY x y) v = true) (hy : y < fs.length) (hn : FN x y = false) (h : RT M dd mi (pc + 3) L st (hp.set a (.inr (x, fs.set y v))) q) : RT M dd mi pc L (v :: .ref a :: st) hp q :=
  RT_step hf (fun cf K => by
    show (ev_ob hp a x).bind (fun fs => if ev_f (TY x y) v = true ∧ y < fs.length ∧ (FN x y = true → (mY M mi).name = "<init>") then K (pc + 3) L st (hp.set a (.inr (x, fs.set y v))) 0 0 else none) = _
    have ho : ev_ob hp a x = some fs := by
      unfold ev_ob
      rw [ha]
      show cond (Nat.beq x x) (some fs) none = some fs
      rw [Nat.beq_refl]
      rfl
    rw [ho]
    show (if ev_f (TY x y) v = true ∧ y < fs.length ∧ (FN x y = true → (mY M mi).name = "<init>") then K (pc + 3) L st (hp.set a (.inr (x, fs.set y v))) 0 0 else none) = _
    rw [if_pos ⟨hv, hy, fun e => by rw [hn] at e; cases e⟩]) h
theorem rt_irt {z : Int32} (hf : mF M mi pc = some (.ireturn, x, y)) (hr : ev_rt (mR M mi) z = true) (hm : mC M mi = 0 ∧ mS M mi = 0) : RT M dd mi pc L [.int z] hp (some (.int z), hp) :=
  RT_ret hf (fun cf K => by
    show (if ev_rt (mR M mi) z = true then ev_end M mi (some (.int z)) [] hp 0 0 else none) = _
    rw [if_pos hr]
    unfold ev_end
    rw [hm.1, hm.2]
    rfl)
end
theorem gs_o {L : List (Nat × Value)} {n j : Nat} {v w : Value} (hj : Nat.beq n j = false) (hw : ev_g L j = some w) (hc : w.category = 1) : ev_g (ev_s1 L n v) j = some w := by
  refine ev_g_tl hj (ev_g_fl hw ?_)
  have hne : j ≠ n := fun e => by rw [e, Nat.beq_refl] at hj; cases hj
  show (!(j == n) && !(j + 1 == n && w.category == 2)) = true
  rw [hc, show (j == n) = false from beq_eq_false_iff_ne.mpr hne]
  simp
theorem gs_n {L : List (Nat × Value)} {n : Nat} {v : Value} : ev_g (ev_s1 L n v) n = some v := ev_g_hd
theorem gf_of {hp : List AE} {a c y n : Nat} {v : Value} (h1 : hh hp a = some (3, c, n)) (h2 : hq hp a y = some v) : ev_gf hp a c y = some v := by
  obtain ⟨fs, e1, -⟩ := hh_obj h1
  rw [hq_at e1] at h2
  unfold ev_gf
  rw [e1]
  show cond (Nat.beq c c) (fs[y]?) none = some v
  rw [Nat.beq_refl]
  exact h2
theorem ai_of {hp : List AE} {a t n : Nat} (h1 : hh hp a = some (0, t, n)) : ∃ l, ev_ai hp a = some (t, l) ∧ l.length = n ∧ hp[a]? = some (.inl (t, .inl l)) := by
  obtain ⟨l, e1, e2⟩ := hh_ai h1
  exact ⟨l, by unfold ev_ai; rw [e1], e2, e1⟩
theorem al_of {hp : List AE} {a t n : Nat} (h1 : hh hp a = some (1, t, n)) : ∃ l, ev_al hp a = some (t, l) ∧ l.length = n ∧ hp[a]? = some (.inl (t, .inr (.inl l))) := by
  obtain ⟨l, e1, e2⟩ := hh_al h1
  exact ⟨l, by unfold ev_al; rw [e1], e2, e1⟩
/-- i places are copied, nothing else has changed -/
def Cp (h0 hp : List AE) (dst d0 src s0 n i : Nat) : Prop := (∀ a, hh hp a = hh h0 a) ∧ (∀ a j, ¬ (a = dst ∧ d0 ≤ j ∧ j < d0 + n) → hq hp a j = hq h0 a j) ∧ ∀ j, j < i → hq hp dst (d0 + j) = hq h0 src (s0 + j)
theorem cp_0 {h0 : List AE} {dst d0 src s0 n : Nat} : Cp h0 h0 dst d0 src s0 n 0 := ⟨fun _ => rfl, fun _ _ _ => rfl, fun j h => absurd h (Nat.not_lt_zero j)⟩
theorem cp_s {h0 hp hp2 : List AE} {dst d0 src s0 n i : Nat} {v : Value} (c : Cp h0 hp dst d0 src s0 n i) (hi : i < n) (hv : hq h0 src (s0 + i) = some v) (u : Upd hp hp2 dst (d0 + i) v) : Cp h0 hp2 dst d0 src s0 n (i + 1) := by
  obtain ⟨u1, u2, u3⟩ := u
  obtain ⟨c1, c2, c3⟩ := c
  refine ⟨fun a => (u1 a).trans (c1 a), fun a j h => ?_, fun j hj => ?_⟩
  · rcases u2 a j with e | e
    · exact absurd ⟨e.1, by omega, by omega⟩ h
    · exact e.trans (c2 a j h)
  · by_cases e : j = i
    · subst e; rw [u3, hv]
    · rcases u2 dst (d0 + j) with e2 | e2
      · exact absurd e2.2 (by omega)
      · rw [e2]; exact c3 j (by omega)
theorem ge_T {n : Nat} : Int32.ofNat n ≤ Int32.ofNat n := Int32.le_refl _
theorem ge_F {i n : Nat} (h : i < n) (hn : n < 2147483648) : ¬ Int32.ofNat n ≤ Int32.ofNat i := fun e => by
  have e1 := Int32.le_iff_toInt_le.mp e
  rw [show (Int32.ofNat n).toInt = (n : Int) from nI_toInt (n := n) hn, show (Int32.ofNat i).toInt = (i : Int) from nI_toInt (n := i) (by omega)] at e1
  omega
theorem in_1 (i : Nat) : Int32.ofNat i + Int32.ofInt 1 = Int32.ofNat (i + 1) := by
  rw [show Int32.ofInt 1 = Int32.ofNat 1 from rfl, ← Int32.ofNat_add]
theorem ix_k (m k i : Nat) : Int32.ofNat m * Int32.ofNat k + Int32.ofNat i = Int32.ofNat (m * k + i) := by
  rw [Int32.ofNat_add, Int32.ofNat_mul]
theorem ix_a (m i : Nat) : Int32.ofNat m + Int32.ofNat i = Int32.ofNat (m + i) := by
  rw [Int32.ofNat_add]
section
variable {M : MT} {dd mi pc x y : Nat} {L : List (Nat × Value)} {st : List Value} {hp : List AE} {q : ev_R}
theorem rt_mul {a b : Int32} (hf : mF M mi pc = some (.imul, x, y)) (h : RT M dd mi (pc + 1) L (.int (a * b) :: st) hp q) : RT M dd mi pc L (.int b :: .int a :: st) hp q := RT_step hf (fun _ _ => rfl) h
theorem rt_add {a b : Int32} (hf : mF M mi pc = some (.iadd, x, y)) (h : RT M dd mi (pc + 1) L (.int (a + b) :: st) hp q) : RT M dd mi pc L (.int b :: .int a :: st) hp q := RT_step hf (fun _ _ => rfl) h
theorem rt_sip {n : Int} {v : Int32} (hf : mF M mi pc = some (.sipush n, x, y)) (hv : (Int16.ofInt n).toInt32 = v) (h : RT M dd mi (pc + 3) L (.int v :: st) hp q) : RT M dd mi pc L st hp q := RT_step hf (fun _ _ => by subst hv; rfl) h
theorem rt_bip {n : Int} {v : Int32} (hf : mF M mi pc = some (.bipush n, x, y)) (hv : (Int8.ofInt n).toInt32 = v) (h : RT M dd mi (pc + 2) L (.int v :: st) hp q) : RT M dd mi pc L st hp q := RT_step hf (fun _ _ => by subst hv; rfl) h
theorem rt_ico {n : Int} {v : Int32} (hf : mF M mi pc = some (.iconst n, x, y)) (hv : Int32.ofInt n = v) (h : RT M dd mi (pc + 1) L (.int v :: st) hp q) : RT M dd mi pc L st hp q := RT_step hf (fun _ _ => by subst hv; rfl) h
theorem rt_go {off : Int} (hf : mF M mi pc = some (.goto off, x, y)) (h : RT M dd mi x L st hp q) : RT M dd mi pc L st hp q := RT_step hf (fun _ _ => rfl) h
end
theorem e_396 : (Int16.ofInt 396).toInt32 = Int32.ofNat 396 := by decide +kernel
theorem e_240 : (Int16.ofInt 240).toInt32 = Int32.ofNat 240 := by decide +kernel
theorem e_156 : (Int16.ofInt 156).toInt32 = Int32.ofNat 156 := by decide +kernel
theorem e_15 : (Int8.ofInt 15).toInt32 = Int32.ofNat 15 := by decide +kernel
/-- a field that holds this cell -/
theorem fr_m {hp : List AE} {y r : Nat} (g : hp_ok GG hp) (hy : y < 52) (hl : lkp gc180.2.2 y = some (2, (r : Int), 0)) : hq hp 180 y = some (.ref r) := by
  obtain ⟨h1, h2⟩ := g.1 180 gc180 rfl
  obtain ⟨v, hv⟩ := hq_some h1 (show y < 52 from hy)
  have h3 : ft_ok (2, (r : Int), 0) v := (h2 y v hv).2 _ hl
  have h4 : v = .ref (r : Int).toNat := h3
  rw [hv, h4]
  rfl
theorem ce_i {t i : Nat} {l : List Int32} {v : Int32} (h : ce_at (.inl (t, .inl l)) i = some (.int v)) : l[i]? = some v := by
  obtain ⟨y, hy, e⟩ := Option.map_eq_some_iff.mp (show (l[i]?).map Value.int = some (.int v) from h)
  cases e
  exact hy
theorem ce_l {t i : Nat} {l : List Int64} {v : Int64} (h : ce_at (.inl (t, .inr (.inl l))) i = some (.long v)) : l[i]? = some v := by
  obtain ⟨y, hy, e⟩ := Option.map_eq_some_iff.mp (show (l[i]?).map Value.long = some (.long v) from h)
  cases e
  exact hy
theorem hp_l {hp : List AE} {a i t n : Nat} {ct : CT} {lo hi : Int} (h : hp_ok GG hp) (hc : GG.1 a = some ct) (hd : ct.1 = (1, t, n)) (hi0 : i < n) (hf : ct.2.1 = (1, lo, hi)) : ∃ x : Int64, hq hp a i = some (.long x) ∧ lo ≤ x.toInt ∧ x.toInt ≤ hi := by
  obtain ⟨h1, h2⟩ := h.1 a ct hc
  rw [hd] at h1
  obtain ⟨v, hv⟩ := hq_some h1 hi0
  obtain ⟨h3, -⟩ := h2 i v hv
  rw [hf] at h3
  obtain ⟨x, rfl, h5, h6⟩ := h3
  exact ⟨x, hv, h5, h6⟩
