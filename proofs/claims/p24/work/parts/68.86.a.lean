/-! ===== words, links and methods of the program ===== -/
def ev_ve (M : MT) (r : MRow) (e : Nat × Instr × Nat × Nat) : Bool := decide (decode r.2.1 e.1 = .ok (e.2.1, ev_ln e.2.1 e.2.2.2)) && ev_kb M r.1.cls e.1 e.2.1 e.2.2.1 e.2.2.2
def ev_vr (M : MT) (r : MRow) : Bool := true && r.2.2.2.2.2.2.1.all (fun ch => ch.all (ev_ve M r))
theorem gtb_in {w : Cond} {i : Nat} (h : lw_tbl[i]? = some w) (hg : goodWord w = true) : w ∈ gtb := List.mem_filter.mpr ⟨List.mem_of_getElem? h, hg⟩
theorem ev_all_mk {l : List Cond} (h : ∀ w ∈ l, w ∈ gtb) : ev_all l = true := List.all_eq_true.mpr (fun w hw => decide_eq_true (h w hw))
theorem all1 {w : Cond} (h : w ∈ gtb) : ev_all [w] = true := ev_all_mk (fun _ hw => (List.mem_singleton.mp hw) ▸ h)
theorem all2 {w1 w2 : Cond} (h1 : w1 ∈ gtb) (h2 : w2 ∈ gtb) : ev_all [w1, w2] = true := ev_all_mk (List.forall_mem_cons.mpr ⟨h1, List.forall_mem_cons.mpr ⟨h2, fun _ h => absurd h List.not_mem_nil⟩⟩)
theorem all3 {w1 w2 w3 : Cond} (h1 : w1 ∈ gtb) (h2 : w2 ∈ gtb) (h3 : w3 ∈ gtb) : ev_all [w1, w2, w3] = true := ev_all_mk (List.forall_mem_cons.mpr ⟨h1, List.forall_mem_cons.mpr ⟨h2, List.forall_mem_cons.mpr ⟨h3, fun _ h => absurd h List.not_mem_nil⟩⟩⟩)
theorem all4 {w1 w2 w3 w4 : Cond} (h1 : w1 ∈ gtb) (h2 : w2 ∈ gtb) (h3 : w3 ∈ gtb) (h4 : w4 ∈ gtb) : ev_all [w1, w2, w3, w4] = true := ev_all_mk (List.forall_mem_cons.mpr ⟨h1, List.forall_mem_cons.mpr ⟨h2, List.forall_mem_cons.mpr ⟨h3, List.forall_mem_cons.mpr ⟨h4, fun _ h => absurd h List.not_mem_nil⟩⟩⟩⟩)
theorem ev_me_mk {M : MT} {x y : Nat} (h : (decide (mL M x ≤ 40) && decide ((mY M x).cls ≠ "java/lang/invoke/MethodHandle") && decide ((mY M x).cls ≠ "java/lang/invoke/VarHandle") && decide (((parseMethodDescriptor (mY M x).desc).map (fun d => d.parameters.length)) = some y) && plainName (mY M x).cls) = true) (h1 : .code (mY M x) (mB M x) (mL M x) (mR M x) ∈ gtb) (h2 : .initialized (mY M x).cls ∈ gtb) : ev_me M x y = true := by
  simp only [Bool.and_eq_true] at h
  unfold ev_me
  simp only [Bool.and_eq_true]
  exact ⟨⟨⟨⟨⟨h.1.1.1.1, all2 h1 h2⟩, h.1.1.1.2⟩, h.1.1.2⟩, h.1.2⟩, h.2⟩
theorem kb_getf {M : MT} {own : String} {idx x y : Nat} (h : (decide (x < 12) && decide (y < NN x)) = true) (w : .fieldLink own idx (TT x y).1 (TT x y).2.1 (TT x y).2.2.1 ∈ gtb) (pc : Nat) : ev_kb M own pc (.getfield idx) x y = true := by
  show ((decide (x = 200) && ev_all _) || (decide (x < 12) && decide (y < NN x) && ev_all _)) = true
  rw [h, all1 w, Bool.or_eq_true]
  exact Or.inr rfl
theorem kb_getl {M : MT} {own : String} {idx x y : Nat} (h : x = 200) (w : .fieldLink own idx "LeftAnswers$Word" "letters" "J" ∈ gtb) (pc : Nat) : ev_kb M own pc (.getfield idx) x y = true := by
  show ((decide (x = 200) && ev_all _) || _) = true
  rw [all1 w, decide_eq_true h]; rfl
theorem kb_putf {M : MT} {own : String} {idx x y : Nat} (h : (decide (x < 12) && decide (y < NN x) && (!(TT x y).2.2.2 || decide ((TT x y).1 = own))) = true) (w : .fieldLink own idx (TT x y).1 (TT x y).2.1 (TT x y).2.2.1 ∈ gtb) (pc : Nat) : ev_kb M own pc (.putfield idx) x y = true := by
  show (decide (x < 12) && decide (y < NN x) && ev_all _ && (!(TT x y).2.2.2 || decide ((TT x y).1 = own))) = true
  rw [Bool.and_eq_true] at h
  rw [h.1, all1 w, h.2]; rfl
theorem kb_gets {M : MT} {own : String} {idx x y : Nat} (h : x < 32) (w : .fieldLink own idx "LeftAnswers$Word" (ev_nm.getD x "") "LLeftAnswers$Word;" ∈ gtb) (pc : Nat) : ev_kb M own pc (.getstatic idx) x y = true := by
  show (((decide (x < 32) && ev_all _) || _) || _) = true
  rw [decide_eq_true h, all1 w]; rfl
theorem kb_getw {M : MT} {own : String} {idx x y : Nat} (h : x = 100) (w : .fieldLink own idx "LeftAnswers$1" "$SwitchMap$LeftAnswers$Word" "[I" ∈ gtb) (pc : Nat) : ev_kb M own pc (.getstatic idx) x y = true := by
  show ((_ || (decide (x = 100) && ev_all _)) || _) = true
  rw [all1 w, Bool.or_eq_true, Bool.or_eq_true, decide_eq_true h]
  exact Or.inl (Or.inr rfl)
theorem kb_geta {M : MT} {own : String} {idx x y : Nat} (h : x = 101) (w : .fieldLink own idx "LeftAnswers$Word" "ALL" "[LLeftAnswers$Word;" ∈ gtb) (pc : Nat) : ev_kb M own pc (.getstatic idx) x y = true := by
  show (_ || (decide (x = 101) && ev_all _)) = true
  rw [all1 w, Bool.or_eq_true, decide_eq_true h]
  exact Or.inr rfl
theorem kb_new {M : MT} {own : String} {idx x y : Nat} (h : x < 12) (w1 : .classLink own idx (CN x) ∈ gtb) (w2 : .instantiable (CN x) (NN x) ∈ gtb) (w3 : .initialized (CN x) ∈ gtb) (pc : Nat) : ev_kb M own pc (.new idx) x y = true := by
  show (decide (x < 12) && ev_all _) = true
  rw [decide_eq_true h, all3 w1 w2 w3]; rfl
theorem kb_newa {M : MT} {own : String} {a : ArrayType} {x y : Nat} (w : .arrayClass (newarray.typeOf a) ∈ gtb) (pc : Nat) : ev_kb M own pc (.newarray a) x y = true := all1 w
theorem kb_anew {M : MT} {own : String} {idx x y : Nat} (h : 4 ≤ x ∧ x < 7) (w : .classLink own idx (ev_ac x) ∈ gtb) (pc : Nat) : ev_kb M own pc (.anewarray idx) x y = true := by
  show (decide (4 ≤ x) && decide (x < 7) && ev_all _) = true
  rw [decide_eq_true h.1, decide_eq_true h.2, all1 w]; rfl
theorem kb_ldc {M : MT} {own : String} {idx x y : Nat} (h : y ≠ 1) (w : .constant own idx (Int32.ofNat x) ∈ gtb) (pc : Nat) : ev_kb M own pc (.ldc idx) x y = true := by
  show (_ || (decide (y ≠ 1) && ev_all _)) = true
  rw [all1 w, Bool.or_eq_true, decide_eq_true h]
  exact Or.inr rfl
theorem kb_ldcs {M : MT} {own : String} {idx x y : Nat} (h : (decide (y = 1) && decide (300 ≤ x) && decide (x < 304) && decide (own = "LeftAnswers$Slip") && decide (idx = sx_ix.getD (x - 300) 0)) = true) (pc : Nat) : ev_kb M own pc (.ldc idx) x y = true := by
  show ((decide (y = 1) && decide (300 ≤ x) && decide (x < 304) && decide (own = "LeftAnswers$Slip") && decide (idx = sx_ix.getD (x - 300) 0)) || _) = true
  rw [h]; rfl
theorem kb_ldcw {M : MT} {own : String} {idx x y : Nat} (w : .constant own idx (Int32.ofNat x) ∈ gtb) (pc : Nat) : ev_kb M own pc (.ldc_w idx) x y = true := all1 w
theorem kb_ldc2 {M : MT} {own : String} {idx x y : Nat} (w : .constantLong own idx (Int64.ofNat x) ∈ gtb) (pc : Nat) : ev_kb M own pc (.ldc2_w idx) x y = true := all1 w
theorem kb_ord {M : MT} {own : String} {idx y : Nat} (w : .methodLink own idx ⟨"LeftAnswers$Word", "ordinal", "()I"⟩ ∈ gtb) (pc : Nat) : ev_kb M own pc (.invokevirtual idx) 900 y = true := by
  show ((((decide (900 = 900) && ev_all _) || _) || _) || _) = true
  rw [all1 w]; rfl
theorem kb_len {M : MT} {own : String} {idx y : Nat} (w : .methodLink own idx ⟨"java/lang/String", "length", "()I"⟩ ∈ gtb) (pc : Nat) : ev_kb M own pc (.invokevirtual idx) 905 y = true := by
  show (((_ || (decide (905 = 905) && ev_all _)) || _) || _) = true
  rw [all1 w, Bool.or_eq_true, Bool.or_eq_true, Bool.or_eq_true]
  exact Or.inl (Or.inl (Or.inr rfl))
theorem kb_cha {M : MT} {own : String} {idx y : Nat} (w : .methodLink own idx ⟨"java/lang/String", "charAt", "(I)C"⟩ ∈ gtb) (pc : Nat) : ev_kb M own pc (.invokevirtual idx) 906 y = true := by
  show ((_ || (decide (906 = 906) && ev_all _)) || _) = true
  rw [all1 w, Bool.or_eq_true, Bool.or_eq_true]
  exact Or.inl (Or.inr rfl)
theorem kb_obj {M : MT} {own : String} {idx y : Nat} (w1 : .methodLink own idx objectInit ∈ gtb) (w2 : .instanceMethod objectInit ∈ gtb) (w3 : .code objectInit ⟨#[0xb1]⟩ 1 none ∈ gtb) (pc : Nat) : ev_kb M own pc (.invokespecial idx) 999 y = true := by
  show ((decide (999 = 999) && ev_all _) || _) = true
  rw [all3 w1 w2 w3]; rfl
theorem kb_min {M : MT} {own : String} {idx y : Nat} (w1 : .methodLink own idx Lib.Math.min.name ∈ gtb) (w2 : .static Lib.Math.min.name ∈ gtb) (w3 : .initialized "java/lang/Math" ∈ gtb) (w4 : .code Lib.Math.min.name Lib.Math.min.code 2 (some .int) ∈ gtb) (pc : Nat) : ev_kb M own pc (.invokestatic idx) 901 y = true := by
  show ((((_ || _) || (decide (901 = 901) && ev_all _)) || _) || _) = true
  rw [all4 w1 w2 w3 w4, Bool.or_eq_true, Bool.or_eq_true, Bool.or_eq_true]
  exact Or.inl (Or.inl (Or.inr rfl))
theorem kb_max {M : MT} {own : String} {idx y : Nat} (w1 : .methodLink own idx Lib.Math.max.name ∈ gtb) (w2 : .static Lib.Math.max.name ∈ gtb) (w3 : .initialized "java/lang/Math" ∈ gtb) (w4 : .code Lib.Math.max.name Lib.Math.max.code 2 (some .int) ∈ gtb) (pc : Nat) : ev_kb M own pc (.invokestatic idx) 902 y = true := by
  show ((_ || (decide (902 = 902) && ev_all _)) || _) = true
  rw [all4 w1 w2 w3 w4, Bool.or_eq_true, Bool.or_eq_true]
  exact Or.inl (Or.inr rfl)
theorem kb_cpy {M : MT} {own : String} {idx x y : Nat} (h : x = 904) (w1 : .methodLink own idx arraycopyName ∈ gtb) (w2 : .native arraycopyName ∈ gtb) (w3 : .static arraycopyName ∈ gtb) (w4 : .initialized "java/lang/System" ∈ gtb) (pc : Nat) : ev_kb M own pc (.invokestatic idx) x y = true := by
  show (_ || (decide (x = 904) && ev_all _)) = true
  rw [all4 w1 w2 w3 w4, Bool.or_eq_true, decide_eq_true h]
  exact Or.inr rfl
theorem kb_abs {M : MT} {own : String} {idx x y : Nat} (h : (decide (x < 900) && decide (mY M x = Lib.Math.abs.name) && decide (mC M x = 0) && decide (mS M x = 0) && decide (y = 1)) = true) (w1 : .methodLink own idx Lib.Math.abs.name ∈ gtb) (w2 : .static Lib.Math.abs.name ∈ gtb) (w3 : .initialized "java/lang/Math" ∈ gtb) (w4 : .code Lib.Math.abs.name Lib.Math.abs.code 1 (some .int) ∈ gtb) (pc : Nat) : ev_kb M own pc (.invokestatic idx) x y = true := by
  show (((((decide (x < 900) && decide (mY M x = Lib.Math.abs.name) && decide (mC M x = 0) && decide (mS M x = 0) && decide (y = 1)) && ev_all _) || _) || _) || _ || _) = true
  rw [h, all4 w1 w2 w3 w4]; rfl
theorem kb_st {M : MT} {own : String} {idx x y : Nat} (h : x < 900) (hm : ev_me M x y = true) (w1 : .methodLink own idx (mY M x) ∈ gtb) (w2 : .static (mY M x) ∈ gtb) (pc : Nat) : ev_kb M own pc (.invokestatic idx) x y = true := by
  show ((((_ || (decide (x < 900) && ev_me M x y && ev_all _)) || _) || _) || _) = true
  rw [hm, all2 w1 w2, Bool.or_eq_true, Bool.or_eq_true, Bool.or_eq_true, Bool.or_eq_true, decide_eq_true h]
  exact Or.inl (Or.inl (Or.inl (Or.inr rfl)))
theorem kb_sp {M : MT} {own : String} {idx x y : Nat} (h : x < 900) (hm : ev_me M x y = true) (h2 : (decide (mR M x = none) && decide ((mY M x).name = "<init>")) = true) (w1 : .methodLink own idx (mY M x) ∈ gtb) (w2 : .instanceMethod (mY M x) ∈ gtb) (pc : Nat) : ev_kb M own pc (.invokespecial idx) x y = true := by
  show (_ || (decide (x < 900) && ev_me M x y && decide (mR M x = none) && decide ((mY M x).name = "<init>") && ev_all _)) = true
  rw [Bool.and_eq_true] at h2
  rw [decide_eq_true h, hm, h2.1, h2.2, all2 w1 w2, Bool.or_eq_true]
  exact Or.inr rfl
theorem kb_vi {M : MT} {own : String} {idx x y : Nat} (h : x < 900) (hm : ev_me M x y = true) (h2 : (decide (mK M x < 12) && decide ((mY M x).cls = CN (mK M x))) = true) (w1 : .methodLink own idx (mY M x) ∈ gtb) (w2 : .instanceMethod (mY M x) ∈ gtb) (w3 : .selects (mY M x).cls (mY M x) (mY M x) ∈ gtb) (pc : Nat) : ev_kb M own pc (.invokevirtual idx) x y = true := by
  show (_ || (decide (x < 900) && ev_me M x y && decide (mK M x < 12) && decide ((mY M x).cls = CN (mK M x)) && ev_all _)) = true
  rw [Bool.and_eq_true] at h2
  rw [decide_eq_true h, hm, h2.1, h2.2, all3 w1 w2 w3, Bool.or_eq_true]
  exact Or.inr rfl
noncomputable def ev_key (i : Instr) : Nat := Instr.rec (motive := fun _ => Nat) 0 0 0 (fun _ => 0) (fun _ => 0) (fun a => Nat.add (Nat.mul 16 a) 6) 0 0 (fun _ => 0) (fun _ => 0) 0 0 0 (fun _ => 0) 0 0 (fun _ => 0) 0 0 0 0 0 0 (fun _ => 0) (fun _ => 0) 0 (fun _ => 0) (fun _ => 0) 0 0 0 0 (fun _ => 0) (fun _ => 0) 0 0 0 0 0 0 0 0 0 0 0 0 0 (fun _ => 0) (fun _ => 0) 0 (fun _ => 0) (fun _ => 0) 0 0 0 0 (fun _ => 0) (fun _ => 0) 0 (fun a => Nat.add (Nat.mul 16 a) 1) (fun a => Nat.add (Nat.mul 16 a) 3) (fun _ => 0) (fun _ => 0) 0 0 0 0 0 0 0 0 0 0 (fun _ => 0) 0 (fun _ _ => 0) (fun _ _ => 0) (fun _ _ => 0) (fun _ => 0) (fun _ => 0) (fun _ _ => 0) (fun _ => 0) (fun _ => 0) 0 0 (fun _ => 0) (fun _ => 0) (fun _ _ => 0) (fun a => Nat.add (Nat.mul 16 a) 11) (fun a => Nat.add (Nat.mul 16 a) 12) (fun a => Nat.add (Nat.mul 16 a) 10) 0 0 0 0 0 (fun _ => 0) (fun _ => 0) 0 0 0 (fun _ => 0) (fun _ => 0) 0 0 0 0 0 0 0 0 (fun _ => 0) (fun a => Nat.add (Nat.mul 16 a) 7) (fun a => Nat.add (Nat.mul 16 a) 8) (fun a => Nat.add (Nat.mul 16 a) 9) 0 (fun _ => 0) (fun _ => 0) 0 0 (fun _ _ => 0) 0 0 0 0 0 (fun _ => 0) (fun _ => 0) 0 0 0 0 0 (fun _ _ => 0) (fun a => Nat.add (Nat.mul 16 a) 4) (fun a => Nat.add (Nat.mul 16 (Jvm.ClassFile.ArrayType.rec (motive := fun _ => Nat) 0 1 2 3 4 5 6 7 a)) 5) 0 0 0 (fun a => Nat.add (Nat.mul 16 a) 2) (fun _ => 0) (fun _ => 0) 0 0 0 (fun _ => 0) 0 (fun _ _ _ _ => 0) i
noncomputable def ev_isl (i : Instr) : Bool := Nat.blt 0 (ev_key i)
def ev_dka : Nat → ArrayType
  | 0 => .boolean
  | 1 => .char
  | 2 => .float
  | 3 => .double
  | 4 => .byte
  | 5 => .short
  | 6 => .int
  | _ => .long
def ev_dk2 : Nat → Nat → Instr
  | 1, n => .getfield n
  | 2, n => .putfield n
  | 3, n => .getstatic n
  | 4, n => .new n
  | 5, n => .newarray (ev_dka n)
  | 6, n => .anewarray n
  | 7, n => .ldc n
  | 8, n => .ldc_w n
  | 9, n => .ldc2_w n
  | 10, n => .invokevirtual n
  | 11, n => .invokespecial n
  | 12, n => .invokestatic n
  | _, _ => .nop
def ev_dk (k : Nat) : Instr := ev_dk2 (k % 16) (k / 16)
theorem ev_dk_ok (i : Instr) (h : ev_isl i = true) : ev_dk (ev_key i) = i := by
  cases i with
  | getfield n => show ev_dk2 ((16 * n + 1) % 16) ((16 * n + 1) / 16) = _; rw [show (16 * n + 1) % 16 = 1 by omega, show (16 * n + 1) / 16 = n by omega]; rfl
  | putfield n => show ev_dk2 ((16 * n + 2) % 16) ((16 * n + 2) / 16) = _; rw [show (16 * n + 2) % 16 = 2 by omega, show (16 * n + 2) / 16 = n by omega]; rfl
  | getstatic n => show ev_dk2 ((16 * n + 3) % 16) ((16 * n + 3) / 16) = _; rw [show (16 * n + 3) % 16 = 3 by omega, show (16 * n + 3) / 16 = n by omega]; rfl
  | new n => show ev_dk2 ((16 * n + 4) % 16) ((16 * n + 4) / 16) = _; rw [show (16 * n + 4) % 16 = 4 by omega, show (16 * n + 4) / 16 = n by omega]; rfl
  | newarray a => cases a <;> rfl
  | anewarray n => show ev_dk2 ((16 * n + 6) % 16) ((16 * n + 6) / 16) = _; rw [show (16 * n + 6) % 16 = 6 by omega, show (16 * n + 6) / 16 = n by omega]; rfl
  | ldc n => show ev_dk2 ((16 * n + 7) % 16) ((16 * n + 7) / 16) = _; rw [show (16 * n + 7) % 16 = 7 by omega, show (16 * n + 7) / 16 = n by omega]; rfl
  | ldc_w n => show ev_dk2 ((16 * n + 8) % 16) ((16 * n + 8) / 16) = _; rw [show (16 * n + 8) % 16 = 8 by omega, show (16 * n + 8) / 16 = n by omega]; rfl
  | ldc2_w n => show ev_dk2 ((16 * n + 9) % 16) ((16 * n + 9) / 16) = _; rw [show (16 * n + 9) % 16 = 9 by omega, show (16 * n + 9) / 16 = n by omega]; rfl
  | invokevirtual n => show ev_dk2 ((16 * n + 10) % 16) ((16 * n + 10) / 16) = _; rw [show (16 * n + 10) % 16 = 10 by omega, show (16 * n + 10) / 16 = n by omega]; rfl
  | invokespecial n => show ev_dk2 ((16 * n + 11) % 16) ((16 * n + 11) / 16) = _; rw [show (16 * n + 11) % 16 = 11 by omega, show (16 * n + 11) / 16 = n by omega]; rfl
  | invokestatic n => show ev_dk2 ((16 * n + 12) % 16) ((16 * n + 12) / 16) = _; rw [show (16 * n + 12) % 16 = 12 by omega, show (16 * n + 12) / 16 = n by omega]; rfl
  | _ => exact absurd (show false = true from h) (by decide)
noncomputable def ev_lan {α : Type} (l : List α) (p : α → Bool) : Bool := List.rec (motive := fun _ => Bool) false (fun a _ ih => Bool.rec (motive := fun _ => Bool) ih true (p a)) l
theorem ev_lan_ok {α : Type} {l : List α} {p : α → Bool} (h : ev_lan l p = true) : ∃ q ∈ l, p q = true := by
  induction l with
  | nil => cases h
  | cons a t ih =>
    have h : Bool.rec (motive := fun _ => Bool) (ev_lan t p) true (p a) = true := h
    cases hp : p a with
    | true => exact ⟨a, List.mem_cons_self, hp⟩
    | false =>
      rw [hp] at h
      obtain ⟨q, h1, h2⟩ := ih h
      exact ⟨q, List.mem_cons_of_mem _ h1, h2⟩
noncomputable def ev_vq (M : MT) (l : List (Instr × Nat × Nat)) (r : MRow) (e : Nat × Instr × Nat × Nat) : Bool := decide (decode r.2.1 e.1 = .ok (e.2.1, ev_ln e.2.1 e.2.2.2)) && cond (ev_isl e.2.1) (ev_lan l (fun q => Nat.beq (ev_key q.1) (ev_key e.2.1) && (Nat.beq q.2.1 e.2.2.1 && (Nat.beq q.2.2 e.2.2.2 && ev_isl q.1)))) (ev_kb M r.1.cls e.1 e.2.1 e.2.2.1 e.2.2.2)
noncomputable def ev_vf (M : MT) (l : List (Instr × Nat × Nat)) (r : MRow) : Bool := true && r.2.2.2.2.2.2.1.all (fun ch => ch.all (ev_vq M l r))
theorem ev_vr_mk {M : MT} {l : List (Instr × Nat × Nat)} {r : MRow} (h : ev_vf M l r = true) (hl : ∀ q ∈ l, ∀ pc, ev_kb M r.1.cls pc q.1 q.2.1 q.2.2 = true) : ev_vr M r = true := by
  unfold ev_vf at h
  unfold ev_vr
  rw [Bool.and_eq_true] at h ⊢
  refine ⟨h.1, List.all_eq_true.mpr (fun ch hch => List.all_eq_true.mpr (fun e he => ?_))⟩
  have h1 := List.all_eq_true.mp (List.all_eq_true.mp h.2 ch hch) e he
  unfold ev_vq at h1
  unfold ev_ve
  rw [Bool.and_eq_true] at h1 ⊢
  refine ⟨h1.1, ?_⟩
  cases hi : ev_isl e.2.1 with
  | true =>
    have h2 := h1.2
    rw [hi] at h2
    obtain ⟨q, hq, he2⟩ := ev_lan_ok h2
    rw [Bool.and_eq_true, Bool.and_eq_true, Bool.and_eq_true] at he2
    obtain ⟨k1, k2, k3, k4⟩ := he2
    have he3 : q = e.2 := by
      obtain ⟨qi, qx, qy⟩ := q
      obtain ⟨pc, ei, ex, ey⟩ := e
      have e1 : qi = ei := by
        have a1 := ev_dk_ok qi k4
        have a2 := ev_dk_ok ei hi
        rw [← a1, ← a2]
        exact congrArg ev_dk (Nat.eq_of_beq_eq_true k1)
      have e2 : qx = ex := Nat.eq_of_beq_eq_true k2
      have e3 : qy = ey := Nat.eq_of_beq_eq_true k3
      rw [e1, e2, e3]
    rw [he3] at hq
    exact hl _ hq e.1
  | false =>
    have h2 := h1.2
    rw [hi] at h2
    exact h2
theorem gtb_t1 {w : Cond} {i : Nat} (h : tables_1_1[i]? = some w) (hg : goodWord w = true) : w ∈ gtb := by
  refine List.mem_filter.mpr ⟨?_, hg⟩
  unfold lw_tbl
  refine List.mem_append_right _ ?_
  unfold tables_1
  exact List.mem_append_left _ (List.mem_of_getElem? h)
theorem gtb_t2 {w : Cond} {i : Nat} (h : tables_1_2[i]? = some w) (hg : goodWord w = true) : w ∈ gtb := by
  refine List.mem_filter.mpr ⟨?_, hg⟩
  unfold lw_tbl
  refine List.mem_append_right _ ?_
  unfold tables_1
  exact List.mem_append_right _ (List.mem_append_left _ (List.mem_of_getElem? h))
theorem gtb_t3 {w : Cond} {i : Nat} (h : tables_1_3[i]? = some w) (hg : goodWord w = true) : w ∈ gtb := by
  refine List.mem_filter.mpr ⟨?_, hg⟩
  unfold lw_tbl
  refine List.mem_append_right _ ?_
  unfold tables_1
  exact List.mem_append_right _ (List.mem_append_right _ (List.mem_append_left _ (List.mem_of_getElem? h)))
theorem gtb_t4 {w : Cond} {i : Nat} (h : tables_1_4[i]? = some w) (hg : goodWord w = true) : w ∈ gtb := by
  refine List.mem_filter.mpr ⟨?_, hg⟩
  unfold lw_tbl
  refine List.mem_append_right _ ?_
  unfold tables_1
  exact List.mem_append_right _ (List.mem_append_right _ (List.mem_append_right _ (List.mem_append_left _ (List.mem_of_getElem? h))))
theorem gtb_t5 {w : Cond} {i : Nat} (h : tables_1_5[i]? = some w) (hg : goodWord w = true) : w ∈ gtb := by
  refine List.mem_filter.mpr ⟨?_, hg⟩
  unfold lw_tbl
  refine List.mem_append_right _ ?_
  unfold tables_1
  exact List.mem_append_right _ (List.mem_append_right _ (List.mem_append_right _ (List.mem_append_right _ (List.mem_append_left _ (List.mem_of_getElem? h)))))
theorem gtb_t6 {w : Cond} {i : Nat} (h : tables_1_6[i]? = some w) (hg : goodWord w = true) : w ∈ gtb := by
  refine List.mem_filter.mpr ⟨?_, hg⟩
  unfold lw_tbl
  refine List.mem_append_right _ ?_
  unfold tables_1
  exact List.mem_append_right _ (List.mem_append_right _ (List.mem_append_right _ (List.mem_append_right _ (List.mem_append_right _ (List.mem_append_left _ (List.mem_of_getElem? h))))))
theorem gtb_t7 {w : Cond} {i : Nat} (h : tables_1_7[i]? = some w) (hg : goodWord w = true) : w ∈ gtb := by
  refine List.mem_filter.mpr ⟨?_, hg⟩
  unfold lw_tbl
  refine List.mem_append_right _ ?_
  unfold tables_1
  exact List.mem_append_right _ (List.mem_append_right _ (List.mem_append_right _ (List.mem_append_right _ (List.mem_append_right _ (List.mem_append_right _ (List.mem_append_left _ (List.mem_of_getElem? h)))))))
theorem gtb_t8 {w : Cond} {i : Nat} (h : tables_1_8[i]? = some w) (hg : goodWord w = true) : w ∈ gtb := by
  refine List.mem_filter.mpr ⟨?_, hg⟩
  unfold lw_tbl
  refine List.mem_append_right _ ?_
  unfold tables_1
  exact List.mem_append_right _ (List.mem_append_right _ (List.mem_append_right _ (List.mem_append_right _ (List.mem_append_right _ (List.mem_append_right _ (List.mem_append_right _ (List.mem_append_left _ (List.mem_of_getElem? h))))))))
theorem gtb_t9 {w : Cond} {i : Nat} (h : tables_1_9[i]? = some w) (hg : goodWord w = true) : w ∈ gtb := by
  refine List.mem_filter.mpr ⟨?_, hg⟩
  unfold lw_tbl
  refine List.mem_append_right _ ?_
  unfold tables_1
  exact List.mem_append_right _ (List.mem_append_right _ (List.mem_append_right _ (List.mem_append_right _ (List.mem_append_right _ (List.mem_append_right _ (List.mem_append_right _ (List.mem_append_right _ (List.mem_of_getElem? h))))))))
