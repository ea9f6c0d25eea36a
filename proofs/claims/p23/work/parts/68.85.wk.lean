/-! ===== walks over the small machine's states, a row an instruction, calls by contract ===== -/
def Wk (p : Program) (l : Launch) (e : Env) (R : Room) (s : State) (m : MethodId) (args : Array Value) (below : List Frame) (meth : Method) (c : Code) (b : Nat) (en ac : Nat → Nat) (D : va_G) (M : MT) (mi : Nat) (Q : State → Prop) (pc : Nat) (L : List (Nat × Value)) (st : List Value) (hp : List AE) (k ks : Nat) : Prop :=
  ∀ H locs ls, ev_W b en ac D s hp H locs k → lv_has ls (mL M mi) (ev_L b en L) → W p l e R s m args below meth c H locs k ks Q (F0 m pc ls (st.map (ev_v b en)))
noncomputable def KW (P : Nat → List (Nat × Value) → List Value → List AE → Nat → Nat → Prop) (res : ev_R) : Nat → List (Nat × Value) → List Value → List AE → Nat → Nat → Option ev_R := fun pc L st hp k ks => @ite _ (P pc L st hp k ks) (Classical.propDecidable _) (some res) none
theorem KW_ok {P : Nat → List (Nat × Value) → List Value → List AE → Nat → Nat → Prop} {res : ev_R} {pc : Nat} {L : List (Nat × Value)} {st : List Value} {hp : List AE} {k ks : Nat} (h : P pc L st hp k ks) : KW P res pc L st hp k ks = some res := by
  unfold KW
  exact if_pos h
theorem KW_of {P : Nat → List (Nat × Value) → List Value → List AE → Nat → Nat → Prop} {res : ev_R} {pc : Nat} {L : List (Nat × Value)} {st : List Value} {hp : List AE} {k ks : Nat} (h : KW P res pc L st hp k ks = some res) : P pc L st hp k ks := by
  unfold KW at h
  exact (ev_if h).1
section
variable {p : Program} {l : Launch} {e : Env} {R : Room} {s : State} {m : MethodId} {args : Array Value} {below : List Frame} {meth : Method} {c : Code} {Q : State → Prop} {b : Nat} {en ac : Nat → Nat} {D : va_G} {M : MT} {mi d : Nat}
theorem wk_s {pc x y k ks : Nat} {i : Instr} {L : List (Nat × Value)} {st : List Value} {hp : List AE} (hR : d + 4 ≤ R.frames ∧ 64 * (d + 1) + 256 ≤ R.locals ∧ mC M mi ≤ R.cells ∧ mS M mi ≤ R.slots) (hC : ex_C p s m args meth c b en ac D M mi) (hval : ev_val M) (hf : mF M mi pc = some (i, x, y)) (hi : ev_isr i = false)
    (h : ev_s M (fun _ _ _ => none) mi pc i x y L st hp k ks (KW (Wk p l e R s m args below meth c b en ac D M mi Q) (none, [])) = some (none, [])) : Wk p l e R s m args below meth c b en ac D M mi Q pc L st hp k ks :=
  fun _ _ _ w hl => ev_s_ok hR (fun _ _ _ _ h => by cases h) hC (fun h => by rw [hi] at h; cases h) (fun _ _ _ _ _ _ h => KW_of h) (hval mi pc i x y hf).1 (hval mi pc i x y hf).2.1 h w hl
theorem wk_s1 {pc x y k ks : Nat} {i : Instr} {L : List (Nat × Value)} {st : List Value} {hp : List AE} (hR : d + 4 ≤ R.frames ∧ 64 * (d + 1) + 256 ≤ R.locals ∧ mC M mi ≤ R.cells ∧ mS M mi ≤ R.slots) (hC : ex_C p s m args meth c b en ac D M mi) (hd : decode (mB M mi) pc = .ok (i, ev_ln i y)) (hkb : ev_kb M (mY M mi).cls pc i x y = true) (hi : ev_isr i = false)
    (h : ev_s M (fun _ _ _ => none) mi pc i x y L st hp k ks (KW (Wk p l e R s m args below meth c b en ac D M mi Q) (none, [])) = some (none, [])) : Wk p l e R s m args below meth c b en ac D M mi Q pc L st hp k ks :=
  fun _ _ _ w hl => ev_s_ok hR (fun _ _ _ _ h => by cases h) hC (fun h => by rw [hi] at h; cases h) (fun _ _ _ _ _ _ h => KW_of h) hd hkb h w hl
theorem wk_r1 {pc x y k ks : Nat} {i : Instr} {L : List (Nat × Value)} {st : List Value} {hp : List AE} {res : ev_R} (hR : d + 4 ≤ R.frames ∧ 64 * (d + 1) + 256 ≤ R.locals ∧ mC M mi ≤ R.cells ∧ mS M mi ≤ R.slots) (hC : ex_C p s m args meth c b en ac D M mi) (hd : decode (mB M mi) pc = .ok (i, ev_ln i y)) (hkb : ev_kb M (mY M mi).cls pc i x y = true) (hQ : Q = MQ below (ev_Q b en ac D (mC M mi) res) args s (mC M mi) (mS M mi) (ev_A b))
    (h : ev_s M (fun _ _ _ => none) mi pc i x y L st hp k ks (fun _ _ _ _ _ _ => none) = some res) : Wk p l e R s m args below meth c b en ac D M mi Q pc L st hp k ks :=
  fun _ _ _ w hl => ev_s_ok hR (fun _ _ _ _ h => by cases h) hC (fun _ => hQ) (fun _ _ _ _ _ _ h => by cases h) hd hkb h w hl
theorem wk_r {pc x y k ks : Nat} {i : Instr} {L : List (Nat × Value)} {st : List Value} {hp : List AE} {res : ev_R} (hR : d + 4 ≤ R.frames ∧ 64 * (d + 1) + 256 ≤ R.locals ∧ mC M mi ≤ R.cells ∧ mS M mi ≤ R.slots) (hC : ex_C p s m args meth c b en ac D M mi) (hval : ev_val M) (hf : mF M mi pc = some (i, x, y)) (hQ : Q = MQ below (ev_Q b en ac D (mC M mi) res) args s (mC M mi) (mS M mi) (ev_A b))
    (h : ev_s M (fun _ _ _ => none) mi pc i x y L st hp k ks (fun _ _ _ _ _ _ => none) = some res) : Wk p l e R s m args below meth c b en ac D M mi Q pc L st hp k ks :=
  fun _ _ _ w hl => ev_s_ok hR (fun _ _ _ _ h => by cases h) hC (fun _ => hQ) (fun _ _ _ _ _ _ h => by cases h) (hval mi pc i x y hf).1 (hval mi pc i x y hf).2.1 h w hl
theorem wk_V {pc x y idx z k ks : Nat} {L : List (Nat × Value)} {st As rest : List Value} {hp : List AE} {q : ev_R} {fs : List Value} (hR : d + 4 ≤ R.frames ∧ 64 * (d + 1) + 256 ≤ R.locals ∧ mC M mi ≤ R.cells ∧ mS M mi ≤ R.slots) (hC : ex_C p s m args meth c b en ac D M mi) (hval : ev_val M) (hf : mF M mi pc = some (.invokevirtual idx, x, y)) (hx9 : x < 900)
    (hM : ev_M l b en ac D M d x (.ref z :: As) hp q) (hob : hp[z]? = some (.inr (mK M x, fs))) (hn : As.length = y) (hst : st = As.reverse ++ .ref z :: rest) (hroom : (rest.map fun v => v.category).sum ≤ 8) (hfit : k + mC M x ≤ mC M mi ∧ ks + mS M x ≤ mS M mi)
    (h2 : Wk p l e R s m args below meth c b en ac D M mi Q (pc + 3) L (q.1.toList ++ rest) q.2 (k + mC M x) (ks + mS M x)) : Wk p l e R s m args below meth c b en ac D M mi Q pc L st hp k ks := by
  intro H locs ls w hl
  obtain ⟨hv, hk, -⟩ := hval mi pc _ x y hf
  have hk2 : ((decide (x = 900) && ev_all [.methodLink (mY M mi).cls idx ⟨"LeftAnswers$Word", "ordinal", "()I"⟩]) || (decide (x = 905) && ev_all [.methodLink (mY M mi).cls idx ⟨"java/lang/String", "length", "()I"⟩]) || (decide (x = 906) && ev_all [.methodLink (mY M mi).cls idx ⟨"java/lang/String", "charAt", "(I)C"⟩]) || (decide (x < 900) && ev_me M x y && decide (mK M x < 12) && decide ((mY M x).cls = CN (mK M x)) && ev_all [.methodLink (mY M mi).cls idx (mY M x), .instanceMethod (mY M x), .selects (mY M x).cls (mY M x) (mY M x)])) = true := hk
  simp only [Bool.or_eq_true, Bool.and_eq_true, decide_eq_true_eq] at hk2
  rcases hk2 with ((⟨h11, -⟩ | ⟨h11, -⟩) | ⟨h11, -⟩) | ⟨⟨⟨⟨h11, hme⟩, hk12⟩, hcls⟩, hlk⟩
  · exact absurd hx9 (by omega)
  · exact absurd hx9 (by omega)
  · exact absurd hx9 (by omega)
  · subst hst
    exact ev_call_V (res := (none, [])) (K := KW (Wk p l e R s m args below meth c b en ac D M mi Q) (none, [])) hR hC (fun _ _ _ _ _ _ h => KW_of h) hM hme hk12 hcls hlk hob hn hroom hfit hv w (KW_ok h2) hl
theorem wk_I {pc x y idx z k ks : Nat} {L : List (Nat × Value)} {st As rest : List Value} {hp : List AE} {q : ev_R} (hR : d + 4 ≤ R.frames ∧ 64 * (d + 1) + 256 ≤ R.locals ∧ mC M mi ≤ R.cells ∧ mS M mi ≤ R.slots) (hC : ex_C p s m args meth c b en ac D M mi) (hval : ev_val M) (hf : mF M mi pc = some (.invokespecial idx, x, y)) (hx9 : x < 900)
    (hM : ev_M l b en ac D M d x (.ref z :: As) hp q) (hn : As.length = y) (hst : st = As.reverse ++ .ref z :: rest) (hroom : (rest.map fun v => v.category).sum ≤ 8) (hfit : k + mC M x ≤ mC M mi ∧ ks + mS M x ≤ mS M mi)
    (h2 : Wk p l e R s m args below meth c b en ac D M mi Q (pc + 3) L (q.1.toList ++ rest) q.2 (k + mC M x) (ks + mS M x)) : Wk p l e R s m args below meth c b en ac D M mi Q pc L st hp k ks := by
  intro H locs ls w hl
  obtain ⟨hv, hk, -⟩ := hval mi pc _ x y hf
  have hk2 : ((decide (x = 999) && ev_all [.methodLink (mY M mi).cls idx objectInit, .instanceMethod objectInit, .code objectInit ⟨#[0xb1]⟩ 1 none]) || (decide (x < 900) && ev_me M x y && decide (mR M x = none) && decide ((mY M x).name = "<init>") && ev_all [.methodLink (mY M mi).cls idx (mY M x), .instanceMethod (mY M x)])) = true := hk
  simp only [Bool.or_eq_true, Bool.and_eq_true, decide_eq_true_eq] at hk2
  rcases hk2 with ⟨h11, -⟩ | ⟨⟨⟨⟨h11, hme⟩, hrn⟩, hin⟩, hlk⟩
  · exact absurd hx9 (by omega)
  · subst hst
    exact ev_call_I (res := (none, [])) (K := KW (Wk p l e R s m args below meth c b en ac D M mi Q) (none, [])) hR hC (fun _ _ _ _ _ _ h => KW_of h) hM hme hrn hin hlk hn hroom hfit hv w (KW_ok h2) hl
theorem wk_S {pc x y idx k ks : Nat} {L : List (Nat × Value)} {st As rest : List Value} {hp : List AE} {q : ev_R} (hR : d + 4 ≤ R.frames ∧ 64 * (d + 1) + 256 ≤ R.locals ∧ mC M mi ≤ R.cells ∧ mS M mi ≤ R.slots) (hC : ex_C p s m args meth c b en ac D M mi) (hval : ev_val M) (hf : mF M mi pc = some (.invokestatic idx, x, y)) (hx9 : x < 900) (hna : mY M x ≠ Lib.Math.abs.name)
    (hM : ev_M l b en ac D M d x As hp q) (hn : As.length = y) (hst : st = As.reverse ++ rest) (hroom : (rest.map fun v => v.category).sum ≤ 8) (hfit : k + mC M x ≤ mC M mi ∧ ks + mS M x ≤ mS M mi)
    (h2 : Wk p l e R s m args below meth c b en ac D M mi Q (pc + 3) L (q.1.toList ++ rest) q.2 (k + mC M x) (ks + mS M x)) : Wk p l e R s m args below meth c b en ac D M mi Q pc L st hp k ks := by
  intro H locs ls w hl
  obtain ⟨hv, hk, -⟩ := hval mi pc _ x y hf
  have hk2 : ((decide (x < 900) && decide (mY M x = Lib.Math.abs.name) && decide (mC M x = 0) && decide (mS M x = 0) && decide (y = 1) && ev_all [.methodLink (mY M mi).cls idx Lib.Math.abs.name, .static Lib.Math.abs.name, .initialized "java/lang/Math", .code Lib.Math.abs.name Lib.Math.abs.code 1 (some .int)])
      || (decide (x < 900) && ev_me M x y && ev_all [.methodLink (mY M mi).cls idx (mY M x), .static (mY M x)])
      || (decide (x = 901) && ev_all [.methodLink (mY M mi).cls idx Lib.Math.min.name, .static Lib.Math.min.name, .initialized "java/lang/Math", .code Lib.Math.min.name Lib.Math.min.code 2 (some .int)])
      || (decide (x = 902) && ev_all [.methodLink (mY M mi).cls idx Lib.Math.max.name, .static Lib.Math.max.name, .initialized "java/lang/Math", .code Lib.Math.max.name Lib.Math.max.code 2 (some .int)])
      || (decide (x = 904) && ev_all [.methodLink (mY M mi).cls idx arraycopyName, .native arraycopyName, .static arraycopyName, .initialized "java/lang/System"])) = true := hk
  simp only [Bool.or_eq_true, Bool.and_eq_true, decide_eq_true_eq] at hk2
  rcases hk2 with (((⟨⟨⟨⟨⟨h11, hab⟩, hc0⟩, hs0⟩, hy1⟩, hlk⟩ | ⟨⟨h11, hme⟩, hlk⟩) | ⟨h11, hlk⟩) | ⟨h11, hlk⟩) | ⟨h11, hlk⟩
  · exact absurd hab hna
  · subst hst
    exact ev_call_S (res := (none, [])) (K := KW (Wk p l e R s m args below meth c b en ac D M mi Q) (none, [])) hR hC (fun _ _ _ _ _ _ h => KW_of h) hM hme hlk hn hroom hfit hv w (KW_ok h2) hl
  · exact absurd hx9 (by omega)
  · exact absurd hx9 (by omega)
  · exact absurd hx9 (by omega)
theorem wk_pT {P : Prop} {hd : Decidable P} {t f k ks : Nat} {L : List (Nat × Value)} {st : List Value} {hp : List AE} (h : @decide P hd = true) (w : Wk p l e R s m args below meth c b en ac D M mi Q t L st hp k ks) : Wk p l e R s m args below meth c b en ac D M mi Q (@ite Nat P hd t f) L st hp k ks := by
  rw [if_pos (of_decide_eq_true h)]; exact w
theorem wk_pF {P : Prop} {hd : Decidable P} {t f k ks : Nat} {L : List (Nat × Value)} {st : List Value} {hp : List AE} (h : @decide P hd = false) (w : Wk p l e R s m args below meth c b en ac D M mi Q f L st hp k ks) : Wk p l e R s m args below meth c b en ac D M mi Q (@ite Nat P hd t f) L st hp k ks := by
  rw [if_neg (of_decide_eq_false h)]; exact w
end
/-- a contract out of a walk -/
theorem ev_mk {l : Launch} {b : Nat} {en ac : Nat → Nat} {D : va_G} {M : MT} {mi d : Nat} {As : List Value} {hp : List AE} {q : ev_R} (hplain : plainName (mY M mi).cls = true) (hlen : (lg_sl As).length ≤ mL M mi)
    (body : ∀ (p : Program) (e : Env) (s : State) (m : MethodId) (args : Array Value) (below : List Frame) (meth : Method) (c : Code), ex_C p s m args meth c b en ac D M mi → Wk p l e (ev_rm M (d + 1) mi) s m args below meth c b en ac D M mi (MQ below (ev_Q b en ac D (mC M mi) q) args s (mC M mi) (mS M mi) (ev_A b)) 0 (lv_args 0 As) [] hp 0 0) : ev_M l b en ac D M (d + 1) mi As hp q := by
  refine Met.ofW (cc := mB M mi) (maxL := mL M mi) (ret := mR M mi) hplain rfl ?_
  intro p e s m args below meth c s₁ B hml hq
  obtain ⟨rfl, hz, hP, hK, hE⟩ := hq
  have hts := atoms_spec (ws := .code (mY M mi) (mB M mi) (mL M mi) (mR M mi) :: gtb) B.pre
  have hC : ex_C p s m (As.map (ev_v b en)).toArray meth c b en ac D M mi := ⟨B.exec, B.bytes, hml, findClass_of_methodNamed B.named, fun w hw => hts w (List.mem_cons_of_mem _ hw), hK, hE, by rw [hz]; exact Nat.le_add_right _ _, B.notSynchronized, B.returns, fun h => (name_of_methodNamed B.named B.method).1.trans h⟩
  have hl := lv_entry (As.map (ev_v b en)) (n := mL M mi) (by rw [ev_sl]; exact hlen)
  rw [lg_entry_eq]
  rw [ev_La] at hl
  exact body p e s m _ below meth c hC _ _ _ ⟨hP, va_S.rf, hz⟩ hl
theorem ev_rmR (M : MT) (d mi : Nat) : d + 4 ≤ (ev_rm M (d + 1) mi).frames ∧ 64 * (d + 1) + 256 ≤ (ev_rm M (d + 1) mi).locals ∧ mC M mi ≤ (ev_rm M (d + 1) mi).cells ∧ mS M mi ≤ (ev_rm M (d + 1) mi).slots := ⟨Nat.le_refl _, Nat.le_refl _, Nat.le_refl _, Nat.le_refl _⟩
