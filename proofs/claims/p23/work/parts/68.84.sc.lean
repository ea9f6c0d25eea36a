/-! ===== the small machine is right ===== -/
def ev_val (M : MT) : Prop := ∀ mi pc i x y, mF M mi pc = some (i, x, y) → decode (mB M mi) pc = .ok (i, ev_ln i y) ∧ ev_kb M (mY M mi).cls pc i x y = true ∧ True
theorem ev_r_ok {p : Program} {l : Launch} {e : Env} {R : Room} {s : State} {m : MethodId} {args : Array Value} {below : List Frame} {meth : Method} {c : Code} {b : Nat} {en ac : Nat → Nat} {D : va_G} {M : MT} {mi d : Nat} {res : ev_R} {cf : Nat → List Value → List AE → Option ev_R} {Q : State → Prop} (hval : ev_val M)
    (hR : d + 4 ≤ R.frames ∧ 64 * (d + 1) + 256 ≤ R.locals ∧ mC M mi ≤ R.cells ∧ mS M mi ≤ R.slots) (hcf : ∀ x As hp q, cf x As hp = some q → ev_MX l b en ac D M d x As hp q) (hC : ex_C p s m args meth c b en ac D M mi) (hQ : Q = MQ below (ev_Q b en ac D (mC M mi) res) args s (mC M mi) (mS M mi) (ev_A b)) :
    ∀ (n pc : Nat) (L : List (Nat × Value)) (st : List Value) (hp : List AE) (k ks : Nat), ev_r M cf mi n pc L st hp k ks = some res → ∀ H locs ls, ev_W b en ac D s hp H locs k → lv_has ls (mL M mi) (ev_L b en L) → W p l e R s m args below meth c H locs k ks Q (F0 m pc ls (st.map (ev_v b en))) := by
  intro n
  induction n with
  | zero => intro pc L st hp k ks h; cases h
  | succ n ih =>
    intro pc L st hp k ks h H locs ls w hl
    obtain ⟨⟨i, x, y⟩, h1, h2⟩ := ev_bd h
    obtain ⟨hv, hk, -⟩ := hval mi pc i x y h1
    exact ev_s_ok hR hcf hC (fun _ => hQ) ih hv hk h2 w hl
def ev_abs (M : MT) : Prop := ∀ mi, mY M mi = Lib.Math.abs.name → ∀ F d As hp q, evF F M (d + 1) mi As hp = some q → ev_ab As hp q
theorem evF_ok (l : Launch) (b : Nat) (en ac : Nat → Nat) (D : va_G) {M : MT} (F : Nat) (hval : ev_val M) (hab : ev_abs M) : ∀ (d mi : Nat) (As : List Value) (hp : List AE) (q : ev_R), evF F M d mi As hp = some q → ev_MX l b en ac D M d mi As hp q := by
  intro d
  induction d with
  | zero => intro mi As hp q h; cases h
  | succ d ih =>
    intro mi As hp q h
    refine ⟨fun hpl => ?_, fun hn => hab mi hn F d As hp q h⟩
    obtain ⟨⟨h1, h2⟩, h3⟩ := ev_if h
    obtain ⟨i, x, y, h4⟩ : ∃ i x y, mF M mi 0 = some (i, x, y) := by
      cases F with
      | zero => cases h3
      | succ n => obtain ⟨⟨i, x, y⟩, h4, -⟩ := ev_bd h3; exact ⟨i, x, y, h4⟩
    refine Met.ofW (cc := mB M mi) (maxL := mL M mi) (ret := mR M mi) hpl rfl ?_
    intro p e s m args below meth c s₁ B hml hq
    obtain ⟨rfl, hz, hP, hK, hE⟩ := hq
    have hts := atoms_spec (ws := .code (mY M mi) (mB M mi) (mL M mi) (mR M mi) :: gtb) B.pre
    have hC : ex_C p s m (As.map (ev_v b en)).toArray meth c b en ac D M mi := ⟨B.exec, B.bytes, hml, findClass_of_methodNamed B.named, fun w hw => hts w (List.mem_cons_of_mem _ hw), hK, hE, by rw [hz]; exact Nat.le_add_right _ _, B.notSynchronized, B.returns, fun h => (name_of_methodNamed B.named B.method).1.trans h⟩
    have hl := lv_entry (As.map (ev_v b en)) (n := mL M mi) (by rw [ev_sl]; exact h1)
    rw [lg_entry_eq]
    rw [ev_La] at hl
    exact ev_r_ok hval ⟨Nat.le_refl _, Nat.le_refl _, Nat.le_refl _, Nat.le_refl _⟩ ih hC rfl _ _ _ _ _ _ _ h3 _ _ _ ⟨hP, va_S.rf, hz⟩ hl
theorem ev_ok (l : Launch) (b : Nat) (en ac : Nat → Nat) (D : va_G) {M : MT} (hval : ev_val M) (hab : ev_abs M) (d mi : Nat) (As : List Value) (hp : List AE) (q : ev_R) (hpl : plainName (mY M mi).cls = true) (h : ev M d mi As hp = some q) : ev_M l b en ac D M d mi As hp q := (evF_ok l b en ac D 100000 hval hab d mi As hp q h).1 hpl
