/-! ===== words, links and methods of the program ===== -/
def ev_ve (M : MT) (r : MRow) (e : Nat × Instr × Nat × Nat) : Bool := decide (decode r.2.1 e.1 = .ok (e.2.1, ev_ln e.2.1 e.2.2.2)) && ev_kb M r.1.cls e.1 e.2.1 e.2.2.1 e.2.2.2
def ev_vr (M : MT) (r : MRow) : Bool := true && r.2.2.2.2.2.2.1.all (fun ch => ch.all (ev_ve M r))
theorem gtb_in {w : Cond} {i : Nat} (h : lw_tbl[i]? = some w) (hg : goodWord w = true) : w ∈ gtb := List.mem_filter.mpr ⟨List.mem_of_getElem? h, hg⟩
theorem ev_all_mk {l : List Cond} (h : ∀ w ∈ l, w ∈ gtb) : ev_all l = true := List.all_eq_true.mpr (fun w hw => decide_eq_true (h w hw))
theorem all1 {w : Cond} (h : w ∈ gtb) : ev_all [w] = true := ev_all_mk (fun _ hw => (List.mem_singleton.mp hw) ▸ h)
theorem all2 {w1 w2 : Cond} (h1 : w1 ∈ gtb) (h2 : w2 ∈ gtb) : ev_all [w1, w2] = true := ev_all_mk (List.forall_mem_cons.mpr ⟨h1, List.forall_mem_cons.mpr ⟨h2, fun _ h => absurd h List.not_mem_nil⟩⟩)
theorem all3 {w1 w2 w3 : Cond} (h1 : w1 ∈ gtb) (h2 : w2 ∈ gtb) (h3 : w3 ∈ gtb) : ev_all [w1, w2, w3] = true := ev_all_mk (List.forall_mem_cons.mpr ⟨h1, List.forall_mem_cons.mpr ⟨h2, List.forall_mem_cons.mpr ⟨h3, fun _ h => absurd h List.not_mem_nil⟩⟩⟩)
theorem all4 {w1 w2 w3 w4 : Cond} (h1 : w1 ∈ gtb) (h2 : w2 ∈ gtb) (h3 : w3 ∈ gtb) (h4 : w4 ∈ gtb) : ev_all [w1, w2, w3, w4] = true := ev_all_mk (List.forall_mem_cons.mpr ⟨h1, List.forall_mem_cons.mpr ⟨h2, List.forall_mem_cons.mpr ⟨h3, List.forall_mem_cons.mpr ⟨h4, fun _ h => absurd h List.not_mem_nil⟩⟩⟩⟩)
theorem ev_me_mk {M : MT} {x y : Nat} (h : (decide (mL M x ≤ 40) && decide ((mY M x).cls ≠ "java/lang/invoke/MethodHandle") && decide ((mY M x).cls ≠ "java/lang/invoke/VarHandle") && decide (((parseMethodDescriptor (mY M x).desc).map (fun d => d.parameters.length)) = some y) && plainName (mY M x).cls) = true) (h1 : .code (mY M x) (mB M x) (mL M x) (mR M x) ∈ gtb) (h2 : .initialized (mY M x).cls ∈ gtb) : ev_me M x y = true := by
  simp only [Bool.and_eq_true] at h
  unfold ev_me
  simp only [Bool.and_eq_true]
  exact ⟨⟨⟨⟨⟨h.1.1.1.1, all2 h1 h2⟩, h.1.1.1.2⟩, h.1.1.2⟩, h.1.2⟩, h.2⟩
theorem kb_getf {M : MT} {own : String} {idx x y : Nat} (h : (decide (x < 12) && decide (y < NN x)) = true) (w : .fieldLink own idx (TT x y).1 (TT x y).2.1 (TT x y).2.2.1 ∈ gtb) (pc : Nat) : ev_kb M own pc (.getfield idx) x y = true := by
  show ((decide (x = 200) && ev_all _) || (decide (x < 12) && decide (y < NN x) && ev_all _)) = true
  rw [h, all1 w, Bool.or_eq_true]
  exact Or.inr rfl
theorem kb_getl {M : MT} {own : String} {idx x y : Nat} (h : x = 200) (w : .fieldLink own idx "LeftAnswers$Word" "letters" "J" ∈ gtb) (pc : Nat) : ev_kb M own pc (.getfield idx) x y = true := by
  show ((decide (x = 200) && ev_all _) || _) = true
  rw [all1 w, decide_eq_true h]; rfl
theorem kb_putf {M : MT} {own : String} {idx x y : Nat} (h : (decide (x < 12) && decide (y < NN x) && (!(TT x y).2.2.2 || decide ((TT x y).1 = own))) = true) (w : .fieldLink own idx (TT x y).1 (TT x y).2.1 (TT x y).2.2.1 ∈ gtb) (pc : Nat) : ev_kb M own pc (.putfield idx) x y = true := by
  show (decide (x < 12) && decide (y < NN x) && ev_all _ && (!(TT x y).2.2.2 || decide ((TT x y).1 = own))) = true
  rw [Bool.and_eq_true] at h
  rw [h.1, all1 w, h.2]; rfl
theorem kb_gets {M : MT} {own : String} {idx x y : Nat} (h : x < 32) (w : .fieldLink own idx "LeftAnswers$Word" (ev_nm.getD x "") "LLeftAnswers$Word;" ∈ gtb) (pc : Nat) : ev_kb M own pc (.getstatic idx) x y = true := by
  show (((decide (x < 32) && ev_all _) || _) || _) = true
  rw [decide_eq_true h, all1 w]; rfl
theorem kb_getw {M : MT} {own : String} {idx x y : Nat} (h : x = 100) (w : .fieldLink own idx "LeftAnswers$1" "$SwitchMap$LeftAnswers$Word" "[I" ∈ gtb) (pc : Nat) : ev_kb M own pc (.getstatic idx) x y = true := by
  show ((_ || (decide (x = 100) && ev_all _)) || _) = true
  rw [all1 w, Bool.or_eq_true, Bool.or_eq_true, decide_eq_true h]
  exact Or.inl (Or.inr rfl)
theorem kb_geta {M : MT} {own : String} {idx x y : Nat} (h : x = 101) (w : .fieldLink own idx "LeftAnswers$Word" "ALL" "[LLeftAnswers$Word;" ∈ gtb) (pc : Nat) : ev_kb M own pc (.getstatic idx) x y = true := by
  show (_ || (decide (x = 101) && ev_all _)) = true
  rw [all1 w, Bool.or_eq_true, decide_eq_true h]
  exact Or.inr rfl
theorem kb_new {M : MT} {own : String} {idx x y : Nat} (h : x < 12) (w1 : .classLink own idx (CN x) ∈ gtb) (w2 : .instantiable (CN x) (NN x) ∈ gtb) (w3 : .initialized (CN x) ∈ gtb) (pc : Nat) : ev_kb M own pc (.new idx) x y = true := by
  show (decide (x < 12) && ev_all _) = true
  rw [decide_eq_true h, all3 w1 w2 w3]; rfl
theorem kb_newa {M : MT} {own : String} {a : ArrayType} {x y : Nat} (w : .arrayClass (newarray.typeOf a) ∈ gtb) (pc : Nat) : ev_kb M own pc (.newarray a) x y = true := all1 w
theorem kb_anew {M : MT} {own : String} {idx x y : Nat} (h : 4 ≤ x ∧ x < 7) (w : .classLink own idx (ev_ac x) ∈ gtb) (pc : Nat) : ev_kb M own pc (.anewarray idx) x y = true := by
  show (decide (4 ≤ x) && decide (x < 7) && ev_all _) = true
  rw [decide_eq_true h.1, decide_eq_true h.2, all1 w]; rfl
theorem kb_ldc {M : MT} {own : String} {idx x y : Nat} (h : y ≠ 1) (w : .constant own idx (Int32.ofNat x) ∈ gtb) (pc : Nat) : ev_kb M own pc (.ldc idx) x y = true := by
  show (_ || (decide (y ≠ 1) && ev_all _)) = true
  rw [all1 w, Bool.or_eq_true, decide_eq_true h]
  exact Or.inr rfl
theorem kb_ldcs {M : MT} {own : String} {idx x y : Nat} (h : (decide (y = 1) && decide (300 ≤ x) && decide (x < 304) && decide (own = "LeftAnswers$Slip") && decide (idx = sx_ix.getD (x - 300) 0)) = true) (pc : Nat) : ev_kb M own pc (.ldc idx) x y = true := by
  show ((decide (y = 1) && decide (300 ≤ x) && decide (x < 304) && decide (own = "LeftAnswers$Slip") && decide (idx = sx_ix.getD (x - 300) 0)) || _) = true
  rw [h]; rfl
theorem kb_ldcw {M : MT} {own : String} {idx x y : Nat} (w : .constant own idx (Int32.ofNat x) ∈ gtb) (pc : Nat) : ev_kb M own pc (.ldc_w idx) x y = true := all1 w
theorem kb_ldc2 {M : MT} {own : String} {idx x y : Nat} (w : .constantLong own idx (Int64.ofNat x) ∈ gtb) (pc : Nat) : ev_kb M own pc (.ldc2_w idx) x y = true := all1 w
theorem kb_ord {M : MT} {own : String} {idx y : Nat} (w : .methodLink own idx ⟨"LeftAnswers$Word", "ordinal", "()I"⟩ ∈ gtb) (pc : Nat) : ev_kb M own pc (.invokevirtual idx) 900 y = true := by
  show ((((decide (900 = 900) && ev_all _) || _) || _) || _) = true
  rw [all1 w]; rfl
theorem kb_len {M : MT} {own : String} {idx y : Nat} (w : .methodLink own idx ⟨"java/lang/String", "length", "()I"⟩ ∈ gtb) (pc : Nat) : ev_kb M own pc (.invokevirtual idx) 905 y = true := by
  show (((_ || (decide (905 = 905) && ev_all _)) || _) || _) = true
  rw [all1 w, Bool.or_eq_true, Bool.or_eq_true, Bool.or_eq_true]
  exact Or.inl (Or.inl (Or.inr rfl))
theorem kb_cha {M : MT} {own : String} {idx y : Nat} (w : .methodLink own idx ⟨"java/lang/String", "charAt", "(I)C"⟩ ∈ gtb) (pc : Nat) : ev_kb M own pc (.invokevirtual idx) 906 y = true := by
  show ((_ || (decide (906 = 906) && ev_all _)) || _) = true
  rw [all1 w, Bool.or_eq_true, Bool.or_eq_true]
  exact Or.inl (Or.inr rfl)
theorem kb_obj {M : MT} {own : String} {idx y : Nat} (w1 : .methodLink own idx objectInit ∈ gtb) (w2 : .instanceMethod objectInit ∈ gtb) (w3 : .code objectInit ⟨#[0xb1]⟩ 1 none ∈ gtb) (pc : Nat) : ev_kb M own pc (.invokespecial idx) 999 y = true := by
  show ((decide (999 = 999) && ev_all _) || _) = true
  rw [all3 w1 w2 w3]; rfl
theorem kb_min {M : MT} {own : String} {idx y : Nat} (w1 : .methodLink own idx Lib.Math.min.name ∈ gtb) (w2 : .static Lib.Math.min.name ∈ gtb) (w3 : .initialized "java/lang/Math" ∈ gtb) (w4 : .code Lib.Math.min.name Lib.Math.min.code 2 (some .int) ∈ gtb) (pc : Nat) : ev_kb M own pc (.invokestatic idx) 901 y = true := by
  show ((((_ || _) || (decide (901 = 901) && ev_all _)) || _) || _) = true
  rw [all4 w1 w2 w3 w4, Bool.or_eq_true, Bool.or_eq_true, Bool.or_eq_true]
  exact Or.inl (Or.inl (Or.inr rfl))
theorem kb_max {M : MT} {own : String} {idx y : Nat} (w1 : .methodLink own idx Lib.Math.max.name ∈ gtb) (w2 : .static Lib.Math.max.name ∈ gtb) (w3 : .initialized "java/lang/Math" ∈ gtb) (w4 : .code Lib.Math.max.name Lib.Math.max.code 2 (some .int) ∈ gtb) (pc : Nat) : ev_kb M own pc (.invokestatic idx) 902 y = true := by
  show ((_ || (decide (902 = 902) && ev_all _)) || _) = true
  rw [all4 w1 w2 w3 w4, Bool.or_eq_true, Bool.or_eq_true]
  exact Or.inl (Or.inr rfl)
theorem kb_cpy {M : MT} {own : String} {idx x y : Nat} (h : x = 904) (w1 : .methodLink own idx arraycopyName ∈ gtb) (w2 : .native arraycopyName ∈ gtb) (w3 : .static arraycopyName ∈ gtb) (w4 : .initialized "java/lang/System" ∈ gtb) (pc : Nat) : ev_kb M own pc (.invokestatic idx) x y = true := by
  show (_ || (decide (x = 904) && ev_all _)) = true
  rw [all4 w1 w2 w3 w4, Bool.or_eq_true, decide_eq_true h]
  exact Or.inr rfl
theorem kb_abs {M : MT} {own : String} {idx x y : Nat} (h : (decide (x < 900) && decide (mY M x = Lib.Math.abs.name) && decide (mC M x = 0) && decide (mS M x = 0) && decide (y = 1)) = true) (w1 : .methodLink own idx Lib.Math.abs.name ∈ gtb) (w2 : .static Lib.Math.abs.name ∈ gtb) (w3 : .initialized "java/lang/Math" ∈ gtb) (w4 : .code Lib.Math.abs.name Lib.Math.abs.code 1 (some .int) ∈ gtb) (pc : Nat) : ev_kb M own pc (.invokestatic idx) x y = true := by
  show (((((decide (x < 900) && decide (mY M x = Lib.Math.abs.name) && decide (mC M x = 0) && decide (mS M x = 0) && decide (y = 1)) && ev_all _) || _) || _) || _ || _) = true
  rw [h, all4 w1 w2 w3 w4]; rfl
theorem kb_st {M : MT} {own : String} {idx x y : Nat} (h : x < 900) (hm : ev_me M x y = true) (w1 : .methodLink own idx (mY M x) ∈ gtb) (w2 : .static (mY M x) ∈ gtb) (pc : Nat) : ev_kb M own pc (.invokestatic idx) x y = true := by
  show ((((_ || (decide (x < 900) && ev_me M x y && ev_all _)) || _) || _) || _) = true
  rw [hm, all2 w1 w2, Bool.or_eq_true, Bool.or_eq_true, Bool.or_eq_true, Bool.or_eq_true, decide_eq_true h]
  exact Or.inl (Or.inl (Or.inl (Or.inr rfl)))
theorem kb_sp {M : MT} {own : String} {idx x y : Nat} (h : x < 900) (hm : ev_me M x y = true) (h2 : (decide (mR M x = none) && decide ((mY M x).name = "<init>")) = true) (w1 : .methodLink own idx (mY M x) ∈ gtb) (w2 : .instanceMethod (mY M x) ∈ gtb) (pc : Nat) : ev_kb M own pc (.invokespecial idx) x y = true := by
  show (_ || (decide (x < 900) && ev_me M x y && decide (mR M x = none) && decide ((mY M x).name = "<init>") && ev_all _)) = true
  rw [Bool.and_eq_true] at h2
  rw [decide_eq_true h, hm, h2.1, h2.2, all2 w1 w2, Bool.or_eq_true]
  exact Or.inr rfl
theorem kb_vi {M : MT} {own : String} {idx x y : Nat} (h : x < 900) (hm : ev_me M x y = true) (h2 : (decide (mK M x < 12) && decide ((mY M x).cls = CN (mK M x))) = true) (w1 : .methodLink own idx (mY M x) ∈ gtb) (w2 : .instanceMethod (mY M x) ∈ gtb) (w3 : .selects (mY M x).cls (mY M x) (mY M x) ∈ gtb) (pc : Nat) : ev_kb M own pc (.invokevirtual idx) x y = true := by
  show (_ || (decide (x < 900) && ev_me M x y && decide (mK M x < 12) && decide ((mY M x).cls = CN (mK M x)) && ev_all _)) = true
  rw [Bool.and_eq_true] at h2
  rw [decide_eq_true h, hm, h2.1, h2.2, all3 w1 w2 w3, Bool.or_eq_true]
  exact Or.inr rfl
noncomputable def ev_key (i : Instr) : Nat := Instr.rec (motive := fun _ => Nat) 0 0 0 (fun _ => 0) (fun _ => 0) (fun a => Nat.add (Nat.mul 16 a) 6) 0 0 (fun _ => 0) (fun _ => 0) 0 0 0 (fun _ => 0) 0 0 (fun _ => 0) 0 0 0 0 0 0 (fun _ => 0) (fun _ => 0) 0 (fun _ => 0) (fun _ => 0) 0 0 0 0 (fun _ => 0) (fun _ => 0) 0 0 0 0 0 0 0 0 0 0 0 0 0 (fun _ => 0) (fun _ => 0) 0 (fun _ => 0) (fun _ => 0) 0 0 0 0 (fun _ => 0) (fun _ => 0) 0 (fun a => Nat.add (Nat.mul 16 a) 1) (fun a => Nat.add (Nat.mul 16 a) 3) (fun _ => 0) (fun _ => 0) 0 0 0 0 0 0 0 0 0 0 (fun _ => 0) 0 (fun _ _ => 0) (fun _ _ => 0) (fun _ _ => 0) (fun _ => 0) (fun _ => 0) (fun _ _ => 0) (fun _ => 0) (fun _ => 0) 0 0 (fun _ => 0) (fun _ => 0) (fun _ _ => 0) (fun a => Nat.add (Nat.mul 16 a) 11) (fun a => Nat.add (Nat.mul 16 a) 12) (fun a => Nat.add (Nat.mul 16 a) 10) 0 0 0 0 0 (fun _ => 0) (fun _ => 0) 0 0 0 (fun _ => 0) (fun _ => 0) 0 0 0 0 0 0 0 0 (fun _ => 0) (fun a => Nat.add (Nat.mul 16 a) 7) (fun a => Nat.add (Nat.mul 16 a) 8) (fun a => Nat.add (Nat.mul 16 a) 9) 0 (fun _ => 0) (fun _ => 0) 0 0 (fun _ _ => 0) 0 0 0 0 0 (fun _ => 0) (fun _ => 0) 0 0 0 0 0 (fun _ _ => 0) (fun a => Nat.add (Nat.mul 16 a) 4) (fun a => Nat.add (Nat.mul 16 (Jvm.ClassFile.ArrayType.rec (motive := fun _ => Nat) 0 1 2 3 4 5 6 7 a)) 5) 0 0 0 (fun a => Nat.add (Nat.mul 16 a) 2) (fun _ => 0) (fun _ => 0) 0 0 0 (fun _ => 0) 0 (fun _ _ _ _ => 0) i
noncomputable def ev_isl (i : Instr) : Bool := Nat.blt 0 (ev_key i)
def ev_dka : Nat → ArrayType
  | 0 => .boolean
  | 1 => .char
  | 2 => .float
  | 3 => .double
  | 4 => .byte
  | 5 => .short
  | 6 => .int
  | _ => .long
def ev_dk2 : Nat → Nat → Instr
  | 1, n => .getfield n
  | 2, n => .putfield n
  | 3, n => .getstatic n
  | 4, n => .new n
  | 5, n => .newarray (ev_dka n)
  | 6, n => .anewarray n
  | 7, n => .ldc n
  | 8, n => .ldc_w n
  | 9, n => .ldc2_w n
  | 10, n => .invokevirtual n
  | 11, n => .invokespecial n
  | 12, n => .invokestatic n
  | _, _ => .nop
def ev_dk (k : Nat) : Instr := ev_dk2 (k % 16) (k / 16)
theorem ev_dk_ok (i : Instr) (h : ev_isl i = true) : ev_dk (ev_key i) = i := by
  cases i with
  | getfield n => show ev_dk2 ((16 * n + 1) % 16) ((16 * n + 1) / 16) = _; rw [show (16 * n + 1) % 16 = 1 by omega, show (16 * n + 1) / 16 = n by omega]; rfl
  | putfield n => show ev_dk2 ((16 * n + 2) % 16) ((16 * n + 2) / 16) = _; rw [show (16 * n + 2) % 16 = 2 by omega, show (16 * n + 2) / 16 = n by omega]; rfl
  | getstatic n => show ev_dk2 ((16 * n + 3) % 16) ((16 * n + 3) / 16) = _; rw [show (16 * n + 3) % 16 = 3 by omega, show (16 * n + 3) / 16 = n by omega]; rfl
  | new n => show ev_dk2 ((16 * n + 4) % 16) ((16 * n + 4) / 16) = _; rw [show (16 * n + 4) % 16 = 4 by omega, show (16 * n + 4) / 16 = n by omega]; rfl
  | newarray a => cases a <;> rfl
  | anewarray n => show ev_dk2 ((16 * n + 6) % 16) ((16 * n + 6) / 16) = _; rw [show (16 * n + 6) % 16 = 6 by omega, show (16 * n + 6) / 16 = n by omega]; rfl
  | ldc n => show ev_dk2 ((16 * n + 7) % 16) ((16 * n + 7) / 16) = _; rw [show (16 * n + 7) % 16 = 7 by omega, show (16 * n + 7) / 16 = n by omega]; rfl
  | ldc_w n => show ev_dk2 ((16 * n + 8) % 16) ((16 * n + 8) / 16) = _; rw [show (16 * n + 8) % 16 = 8 by omega, show (16 * n + 8) / 16 = n by omega]; rfl
  | ldc2_w n => show ev_dk2 ((16 * n + 9) % 16) ((16 * n + 9) / 16) = _; rw [show (16 * n + 9) % 16 = 9 by omega, show (16 * n + 9) / 16 = n by omega]; rfl
  | invokevirtual n => show ev_dk2 ((16 * n + 10) % 16) ((16 * n + 10) / 16) = _; rw [show (16 * n + 10) % 16 = 10 by omega, show (16 * n + 10) / 16 = n by omega]; rfl
  | invokespecial n => show ev_dk2 ((16 * n + 11) % 16) ((16 * n + 11) / 16) = _; rw [show (16 * n + 11) % 16 = 11 by omega, show (16 * n + 11) / 16 = n by omega]; rfl
  | invokestatic n => show ev_dk2 ((16 * n + 12) % 16) ((16 * n + 12) / 16) = _; rw [show (16 * n + 12) % 16 = 12 by omega, show (16 * n + 12) / 16 = n by omega]; rfl
  | _ => exact absurd (show false = true from h) (by decide)
noncomputable def ev_lan {α : Type} (l : List α) (p : α → Bool) : Bool := List.rec (motive := fun _ => Bool) false (fun a _ ih => Bool.rec (motive := fun _ => Bool) ih true (p a)) l
theorem ev_lan_ok {α : Type} {l : List α} {p : α → Bool} (h : ev_lan l p = true) : ∃ q ∈ l, p q = true := by
  induction l with
  | nil => cases h
  | cons a t ih =>
    have h : Bool.rec (motive := fun _ => Bool) (ev_lan t p) true (p a) = true := h
    cases hp : p a with
    | true => exact ⟨a, List.mem_cons_self, hp⟩
    | false =>
      rw [hp] at h
      obtain ⟨q, h1, h2⟩ := ih h
      exact ⟨q, List.mem_cons_of_mem _ h1, h2⟩
noncomputable def ev_vq (M : MT) (l : List (Instr × Nat × Nat)) (r : MRow) (e : Nat × Instr × Nat × Nat) : Bool := decide (decode r.2.1 e.1 = .ok (e.2.1, ev_ln e.2.1 e.2.2.2)) && cond (ev_isl e.2.1) (ev_lan l (fun q => Nat.beq (ev_key q.1) (ev_key e.2.1) && (Nat.beq q.2.1 e.2.2.1 && (Nat.beq q.2.2 e.2.2.2 && ev_isl q.1)))) (ev_kb M r.1.cls e.1 e.2.1 e.2.2.1 e.2.2.2)
noncomputable def ev_vf (M : MT) (l : List (Instr × Nat × Nat)) (r : MRow) : Bool := true && r.2.2.2.2.2.2.1.all (fun ch => ch.all (ev_vq M l r))
theorem ev_vr_mk {M : MT} {l : List (Instr × Nat × Nat)} {r : MRow} (h : ev_vf M l r = true) (hl : ∀ q ∈ l, ∀ pc, ev_kb M r.1.cls pc q.1 q.2.1 q.2.2 = true) : ev_vr M r = true := by
  unfold ev_vf at h
  unfold ev_vr
  rw [Bool.and_eq_true] at h ⊢
  refine ⟨h.1, List.all_eq_true.mpr (fun ch hch => List.all_eq_true.mpr (fun e he => ?_))⟩
  have h1 := List.all_eq_true.mp (List.all_eq_true.mp h.2 ch hch) e he
  unfold ev_vq at h1
  unfold ev_ve
  rw [Bool.and_eq_true] at h1 ⊢
  refine ⟨h1.1, ?_⟩
  cases hi : ev_isl e.2.1 with
  | true =>
    have h2 := h1.2
    rw [hi] at h2
    obtain ⟨q, hq, he2⟩ := ev_lan_ok h2
    rw [Bool.and_eq_true, Bool.and_eq_true, Bool.and_eq_true] at he2
    obtain ⟨k1, k2, k3, k4⟩ := he2
    have he3 : q = e.2 := by
      obtain ⟨qi, qx, qy⟩ := q
      obtain ⟨pc, ei, ex, ey⟩ := e
      have e1 : qi = ei := by
        have a1 := ev_dk_ok qi k4
        have a2 := ev_dk_ok ei hi
        rw [← a1, ← a2]
        exact congrArg ev_dk (Nat.eq_of_beq_eq_true k1)
      have e2 : qx = ex := Nat.eq_of_beq_eq_true k2
      have e3 : qy = ey := Nat.eq_of_beq_eq_true k3
      rw [e1, e2, e3]
    rw [he3] at hq
    exact hl _ hq e.1
  | false =>
    have h2 := h1.2
    rw [hi] at h2
    exact h2
theorem gtb_t1 {w : Cond} {i : Nat} (h : tables_1_1[i]? = some w) (hg : goodWord w = true) : w ∈ gtb := by
  refine List.mem_filter.mpr ⟨?_, hg⟩
  unfold lw_tbl
  refine List.mem_append_right _ ?_
  unfold tables_1
  exact List.mem_append_left _ (List.mem_of_getElem? h)
theorem gtb_t2 {w : Cond} {i : Nat} (h : tables_1_2[i]? = some w) (hg : goodWord w = true) : w ∈ gtb := by
  refine List.mem_filter.mpr ⟨?_, hg⟩
  unfold lw_tbl
  refine List.mem_append_right _ ?_
  unfold tables_1
  exact List.mem_append_right _ (List.mem_append_left _ (List.mem_of_getElem? h))
theorem gtb_t3 {w : Cond} {i : Nat} (h : tables_1_3[i]? = some w) (hg : goodWord w = true) : w ∈ gtb := by
  refine List.mem_filter.mpr ⟨?_, hg⟩
  unfold lw_tbl
  refine List.mem_append_right _ ?_
  unfold tables_1
  exact List.mem_append_right _ (List.mem_append_right _ (List.mem_append_left _ (List.mem_of_getElem? h)))
theorem gtb_t4 {w : Cond} {i : Nat} (h : tables_1_4[i]? = some w) (hg : goodWord w = true) : w ∈ gtb := by
  refine List.mem_filter.mpr ⟨?_, hg⟩
  unfold lw_tbl
  refine List.mem_append_right _ ?_
  unfold tables_1
  exact List.mem_append_right _ (List.mem_append_right _ (List.mem_append_right _ (List.mem_append_left _ (List.mem_of_getElem? h))))
theorem gtb_t5 {w : Cond} {i : Nat} (h : tables_1_5[i]? = some w) (hg : goodWord w = true) : w ∈ gtb := by
  refine List.mem_filter.mpr ⟨?_, hg⟩
  unfold lw_tbl
  refine List.mem_append_right _ ?_
  unfold tables_1
  exact List.mem_append_right _ (List.mem_append_right _ (List.mem_append_right _ (List.mem_append_right _ (List.mem_append_left _ (List.mem_of_getElem? h)))))
theorem gtb_t6 {w : Cond} {i : Nat} (h : tables_1_6[i]? = some w) (hg : goodWord w = true) : w ∈ gtb := by
  refine List.mem_filter.mpr ⟨?_, hg⟩
  unfold lw_tbl
  refine List.mem_append_right _ ?_
  unfold tables_1
  exact List.mem_append_right _ (List.mem_append_right _ (List.mem_append_right _ (List.mem_append_right _ (List.mem_append_right _ (List.mem_append_left _ (List.mem_of_getElem? h))))))
theorem gtb_t7 {w : Cond} {i : Nat} (h : tables_1_7[i]? = some w) (hg : goodWord w = true) : w ∈ gtb := by
  refine List.mem_filter.mpr ⟨?_, hg⟩
  unfold lw_tbl
  refine List.mem_append_right _ ?_
  unfold tables_1
  exact List.mem_append_right _ (List.mem_append_right _ (List.mem_append_right _ (List.mem_append_right _ (List.mem_append_right _ (List.mem_append_right _ (List.mem_append_left _ (List.mem_of_getElem? h)))))))
theorem gtb_t8 {w : Cond} {i : Nat} (h : tables_1_8[i]? = some w) (hg : goodWord w = true) : w ∈ gtb := by
  refine List.mem_filter.mpr ⟨?_, hg⟩
  unfold lw_tbl
  refine List.mem_append_right _ ?_
  unfold tables_1
  exact List.mem_append_right _ (List.mem_append_right _ (List.mem_append_right _ (List.mem_append_right _ (List.mem_append_right _ (List.mem_append_right _ (List.mem_append_right _ (List.mem_append_left _ (List.mem_of_getElem? h))))))))
theorem gtb_t9 {w : Cond} {i : Nat} (h : tables_1_9[i]? = some w) (hg : goodWord w = true) : w ∈ gtb := by
  refine List.mem_filter.mpr ⟨?_, hg⟩
  unfold lw_tbl
  refine List.mem_append_right _ ?_
  unfold tables_1
  exact List.mem_append_right _ (List.mem_append_right _ (List.mem_append_right _ (List.mem_append_right _ (List.mem_append_right _ (List.mem_append_right _ (List.mem_append_right _ (List.mem_append_right _ (List.mem_of_getElem? h))))))))
section
variable {α β : Type}
/-- what r reads of w it reads of c, off further -/
def SimD (c w : ByteArray) (off : Nat) (r r2 : Reader DecodeError α) : Prop := ∀ k v k2, r.runAt w k = .ok (v, k2) → r2.runAt c (off + k) = .ok (v, off + k2)
def BAg (c w : ByteArray) (off : Nat) : Prop := ∀ j (h : j < w.size), ∃ h2 : off + j < c.size, c[off + j] = w[j]
theorem sim_pure {c w off} (a : α) : SimD c w off (pure a) (pure a) := fun k v k2 h => by
  have h : (Except.ok (a, k) : Except DecodeError (α × Nat)) = .ok (v, k2) := h
  cases h
  rfl
theorem sim_throw {c w off} (e e2 : DecodeError) : SimD (α := α) c w off (throw e) (throw e2) := fun k v k2 h => by
  have h : (Except.error e : Except DecodeError (α × Nat)) = .ok (v, k2) := h
  cases h
theorem sim_bind {c w off} {r r2 : Reader DecodeError α} {f f2 : α → Reader DecodeError β} (h : SimD c w off r r2) (hf : ∀ a, SimD c w off (f a) (f2 a)) : SimD c w off (r >>= f) (r2 >>= f2) := fun k v k2 e => by
  have e : (match r.runAt w k with
    | .ok (a, q) => (f a).runAt w q
    | .error x => .error x) = (Except.ok (v, k2) : Except DecodeError (β × Nat)) := by
    rw [← e]
    show _ = Except.bind (r.runAt w k) (fun (a, q) => (f a).runAt w q)
    cases r.runAt w k with
    | ok a => rfl
    | error x => rfl
  cases hr : r.runAt w k with
  | error x => rw [hr] at e; cases e
  | ok a =>
    obtain ⟨a, q⟩ := a
    rw [hr] at e
    have e2 := hf a q v k2 e
    have e1 := h k a q hr
    show Except.bind (r2.runAt c (off + k)) (fun (a, q) => (f2 a).runAt c q) = _
    rw [e1]
    exact e2
theorem sim_u1 {c w off} (h : BAg c w off) : SimD c w off Reader.u1 Reader.u1 := fun k v k2 e => by
  have e : (if h : k < w.size then (Except.ok (w[k].toNat, k + 1) : Except DecodeError (Nat × Nat)) else .error (HasTruncated.truncated k)) = .ok (v, k2) := by
    rw [← e]
    unfold Reader.u1
    show _ = (if h : k < w.size then _ else _ : Reader DecodeError Nat).runAt w k
    split <;> rfl
  by_cases hk : k < w.size
  · rw [dif_pos hk] at e
    cases e
    obtain ⟨h2, h3⟩ := h k hk
    show (if h : off + k < c.size then _ else _ : Reader DecodeError Nat).runAt c (off + k) = _
    rw [dif_pos h2]
    show Except.ok (c[off + k].toNat, off + k + 1) = _
    rw [h3]
    rfl
  · rw [dif_neg hk] at e
    cases e
theorem sim_u2 {c w off} (h : BAg c w off) : SimD c w off Reader.u2 Reader.u2 := sim_bind (sim_u1 h) (fun _ => sim_bind (sim_u1 h) (fun _ => sim_pure _))
theorem sim_map {c w off} {r r2 : Reader DecodeError α} (f : α → β) (h : SimD c w off r r2) : SimD c w off (f <$> r) (f <$> r2) := fun k v k2 e => by
  have e : (match r.runAt w k with
    | .ok (a, q) => .ok (f a, q)
    | .error x => .error x) = (Except.ok (v, k2) : Except DecodeError (β × Nat)) := by
    rw [← e]
    show _ = (f <$> r).runAt w k
    show _ = Except.bind (r.runAt w k) (fun (a, q) => Except.ok (f a, q))
    cases r.runAt w k with
    | ok a => rfl
    | error x => rfl
  cases hr : r.runAt w k with
  | error x => rw [hr] at e; cases e
  | ok a =>
    obtain ⟨a, q⟩ := a
    rw [hr] at e
    cases e
    have e1 := h k a _ hr
    show Except.bind (r2.runAt c (off + k)) (fun (a, q) => Except.ok (f a, q)) = _
    rw [e1]
    rfl
theorem sim_u4 {c w off} (h : BAg c w off) : SimD c w off Reader.u4 Reader.u4 := sim_bind (sim_u2 h) (fun _ => sim_bind (sim_u2 h) (fun _ => sim_pure _))
theorem sim_s1 {c w off} (h : BAg c w off) : SimD c w off Reader.s1 Reader.s1 := sim_map _ (sim_u1 h)
theorem sim_s2 {c w off} (h : BAg c w off) : SimD c w off Reader.s2 Reader.s2 := sim_map _ (sim_u2 h)
theorem sim_s4 {c w off} (h : BAg c w off) : SimD c w off Reader.s4 Reader.s4 := sim_map _ (sim_u4 h)
theorem sim_unl {c w : ByteArray} {off : Nat} {p : Prop} [Decidable p] (e e2 : DecodeError) {r r2 : Reader DecodeError α} (h : SimD c w off r r2) : SimD c w off (do
    unless p do throw e
    r) (do
    unless p do throw e2
    r2) := by
  by_cases q : p
  · simp only [if_pos q]
    first
      | exact h
      | exact sim_bind (α := Unit) (sim_pure ()) (fun _ => h)
  · simp only [if_neg q]
    first
      | exact sim_throw _ _
      | exact sim_bind (α := Unit) (sim_throw _ _) (fun _ => h)
theorem sim_na {c w : ByteArray} {off pc pc2 : Nat} (h : BAg c w off) : SimD c w off (Decoder.newarray pc) (Decoder.newarray pc2) := by
  unfold Decoder.newarray
  refine sim_bind (sim_u1 h) (fun x => ?_)
  split <;> first | exact sim_pure _ | exact sim_throw _ _
theorem sim_wi {c w : ByteArray} {off pc pc2 : Nat} (h : BAg c w off) : SimD c w off (Decoder.wide pc) (Decoder.wide pc2) := by
  unfold Decoder.wide
  refine sim_bind (sim_u1 h) (fun x => ?_)
  split <;> first
    | exact sim_throw _ _
    | exact sim_bind (sim_u2 h) (fun _ => sim_pure _)
    | exact sim_bind (sim_u2 h) (fun _ => sim_bind (sim_s2 h) (fun _ => sim_pure _))
theorem sim_ii {c w : ByteArray} {off pc pc2 : Nat} (h : BAg c w off) : SimD c w off (Decoder.invokeinterface pc) (Decoder.invokeinterface pc2) := by
  unfold Decoder.invokeinterface
  exact sim_bind (sim_u2 h) (fun _ => sim_bind (sim_u1 h) (fun _ => sim_bind (sim_u1 h) (fun _ => sim_unl _ _ (sim_pure _))))
theorem sim_id {c w : ByteArray} {off pc pc2 : Nat} (h : BAg c w off) : SimD c w off (Decoder.invokedynamic pc) (Decoder.invokedynamic pc2) := by
  unfold Decoder.invokedynamic
  exact sim_bind (sim_u2 h) (fun _ => sim_bind (sim_u2 h) (fun _ => sim_unl _ _ (sim_pure _)))
theorem sim_mn {c w : ByteArray} {off pc pc2 : Nat} (h : BAg c w off) : SimD c w off (Decoder.multianewarray pc) (Decoder.multianewarray pc2) := by
  unfold Decoder.multianewarray
  exact sim_bind (sim_u2 h) (fun _ => sim_bind (sim_u1 h) (fun _ => sim_unl _ _ (sim_pure _)))
theorem sim_times_go {c w : ByteArray} {off : Nat} {r r2 : Reader DecodeError α} (h : SimD c w off r r2) : ∀ (n : Nat) (acc : Array α), SimD c w off (Reader.times.go r n acc) (Reader.times.go r2 n acc)
  | 0, _ => sim_pure _
  | n + 1, _ => sim_bind h (fun _ => sim_times_go h n _)
theorem sim_times {c w : ByteArray} {off : Nat} {r r2 : Reader DecodeError α} (h : SimD c w off r r2) (n : Nat) : SimD c w off (Reader.times n r) (Reader.times n r2) := sim_times_go h n #[]
theorem sim_pad {c w : ByteArray} {off : Nat} (h : BAg c w off) (h4 : off % 4 = 0) (hs : off + w.size ≤ c.size) : SimD c w off Decoder.padding Decoder.padding := fun k v k2 e => by
  have e : (if k + (4 - k % 4) % 4 ≤ w.size then (Except.ok ((), k + (4 - k % 4) % 4) : Except DecodeError (Unit × Nat)) else .error (HasTruncated.truncated w.size)) = .ok (v, k2) := by
    rw [← e]
    show _ = (if k + (4 - k % 4) % 4 ≤ w.size then _ else _ : Reader DecodeError ByteArray).runAt w k >>= _
    split <;> rfl
  by_cases hk : k + (4 - k % 4) % 4 ≤ w.size
  · rw [if_pos hk] at e
    cases e
    have hm : (off + k) % 4 = k % 4 := by omega
    show (if off + k + (4 - (off + k) % 4) % 4 ≤ c.size then _ else _ : Reader DecodeError ByteArray).runAt c (off + k) >>= _ = _
    rw [if_pos (by rw [hm]; omega)]
    show Except.ok ((), off + k + (4 - (off + k) % 4) % 4) = Except.ok ((), off + (k + (4 - k % 4) % 4))
    rw [hm, Nat.add_assoc]
  · rw [if_neg hk] at e
    cases e
theorem sim_ts {c w : ByteArray} {off pc pc2 : Nat} (h : BAg c w off) (h4 : off % 4 = 0) (hs : off + w.size ≤ c.size) : SimD c w off (Decoder.tableswitch pc) (Decoder.tableswitch pc2) := by
  unfold Decoder.tableswitch
  exact sim_bind (sim_pad h h4 hs) (fun _ => sim_bind (sim_s4 h) (fun _ => sim_bind (sim_s4 h) (fun _ => sim_bind (sim_s4 h) (fun _ => sim_unl _ _ (sim_bind (sim_times (sim_s4 h) _) (fun _ => sim_pure _))))))
theorem sim_ls {c w : ByteArray} {off pc pc2 : Nat} (h : BAg c w off) (h4 : off % 4 = 0) (hs : off + w.size ≤ c.size) : SimD c w off (Decoder.lookupswitch pc) (Decoder.lookupswitch pc2) := by
  unfold Decoder.lookupswitch
  exact sim_bind (sim_pad h h4 hs) (fun _ => sim_bind (sim_s4 h) (fun _ => sim_bind (sim_s4 h) (fun _ => sim_unl _ _ (sim_bind (sim_times (sim_bind (sim_s4 h) (fun _ => sim_bind (sim_s4 h) (fun _ => sim_pure _))) _) (fun _ => sim_unl _ _ (sim_pure _))))))
set_option maxHeartbeats 4000000 in
set_option maxRecDepth 10000 in
theorem sim_i {c w : ByteArray} {off pc pc2 : Nat} (h : BAg c w off) (h4 : off % 4 = 0) (hs : off + w.size ≤ c.size) : SimD c w off (Decoder.instr pc) (Decoder.instr pc2) := by
  unfold Decoder.instr
  refine sim_bind (sim_u1 h) (fun x => ?_)
  split
  case h_1 => exact sim_pure _
  case h_2 => exact sim_pure _
  case h_3 => exact sim_pure _
  case h_4 => exact sim_pure _
  case h_5 => exact sim_pure _
  case h_6 => exact sim_pure _
  case h_7 => exact sim_pure _
  case h_8 => exact sim_pure _
  case h_9 => exact sim_pure _
  case h_10 => exact sim_pure _
  case h_11 => exact sim_pure _
  case h_12 => exact sim_pure _
  case h_13 => exact sim_pure _
  case h_14 => exact sim_pure _
  case h_15 => exact sim_pure _
  case h_16 => exact sim_pure _
  case h_17 => exact sim_bind (sim_s1 h) (fun _ => sim_pure _)
  case h_18 => exact sim_bind (sim_s2 h) (fun _ => sim_pure _)
  case h_19 => exact sim_bind (sim_u1 h) (fun _ => sim_pure _)
  case h_20 => exact sim_bind (sim_u2 h) (fun _ => sim_pure _)
  case h_21 => exact sim_bind (sim_u2 h) (fun _ => sim_pure _)
  case h_22 => exact sim_bind (sim_u1 h) (fun _ => sim_pure _)
  case h_23 => exact sim_bind (sim_u1 h) (fun _ => sim_pure _)
  case h_24 => exact sim_bind (sim_u1 h) (fun _ => sim_pure _)
  case h_25 => exact sim_bind (sim_u1 h) (fun _ => sim_pure _)
  case h_26 => exact sim_bind (sim_u1 h) (fun _ => sim_pure _)
  case h_27 => exact sim_pure _
  case h_28 => exact sim_pure _
  case h_29 => exact sim_pure _
  case h_30 => exact sim_pure _
  case h_31 => exact sim_pure _
  case h_32 => exact sim_pure _
  case h_33 => exact sim_pure _
  case h_34 => exact sim_pure _
  case h_35 => exact sim_pure _
  case h_36 => exact sim_pure _
  case h_37 => exact sim_pure _
  case h_38 => exact sim_pure _
  case h_39 => exact sim_pure _
  case h_40 => exact sim_pure _
  case h_41 => exact sim_pure _
  case h_42 => exact sim_pure _
  case h_43 => exact sim_pure _
  case h_44 => exact sim_pure _
  case h_45 => exact sim_pure _
  case h_46 => exact sim_pure _
  case h_47 => exact sim_pure _
  case h_48 => exact sim_pure _
  case h_49 => exact sim_pure _
  case h_50 => exact sim_pure _
  case h_51 => exact sim_pure _
  case h_52 => exact sim_pure _
  case h_53 => exact sim_pure _
  case h_54 => exact sim_pure _
  case h_55 => exact sim_bind (sim_u1 h) (fun _ => sim_pure _)
  case h_56 => exact sim_bind (sim_u1 h) (fun _ => sim_pure _)
  case h_57 => exact sim_bind (sim_u1 h) (fun _ => sim_pure _)
  case h_58 => exact sim_bind (sim_u1 h) (fun _ => sim_pure _)
  case h_59 => exact sim_bind (sim_u1 h) (fun _ => sim_pure _)
  case h_60 => exact sim_pure _
  case h_61 => exact sim_pure _
  case h_62 => exact sim_pure _
  case h_63 => exact sim_pure _
  case h_64 => exact sim_pure _
  case h_65 => exact sim_pure _
  case h_66 => exact sim_pure _
  case h_67 => exact sim_pure _
  case h_68 => exact sim_pure _
  case h_69 => exact sim_pure _
  case h_70 => exact sim_pure _
  case h_71 => exact sim_pure _
  case h_72 => exact sim_pure _
  case h_73 => exact sim_pure _
  case h_74 => exact sim_pure _
  case h_75 => exact sim_pure _
  case h_76 => exact sim_pure _
  case h_77 => exact sim_pure _
  case h_78 => exact sim_pure _
  case h_79 => exact sim_pure _
  case h_80 => exact sim_pure _
  case h_81 => exact sim_pure _
  case h_82 => exact sim_pure _
  case h_83 => exact sim_pure _
  case h_84 => exact sim_pure _
  case h_85 => exact sim_pure _
  case h_86 => exact sim_pure _
  case h_87 => exact sim_pure _
  case h_88 => exact sim_pure _
  case h_89 => exact sim_pure _
  case h_90 => exact sim_pure _
  case h_91 => exact sim_pure _
  case h_92 => exact sim_pure _
  case h_93 => exact sim_pure _
  case h_94 => exact sim_pure _
  case h_95 => exact sim_pure _
  case h_96 => exact sim_pure _
  case h_97 => exact sim_pure _
  case h_98 => exact sim_pure _
  case h_99 => exact sim_pure _
  case h_100 => exact sim_pure _
  case h_101 => exact sim_pure _
  case h_102 => exact sim_pure _
  case h_103 => exact sim_pure _
  case h_104 => exact sim_pure _
  case h_105 => exact sim_pure _
  case h_106 => exact sim_pure _
  case h_107 => exact sim_pure _
  case h_108 => exact sim_pure _
  case h_109 => exact sim_pure _
  case h_110 => exact sim_pure _
  case h_111 => exact sim_pure _
  case h_112 => exact sim_pure _
  case h_113 => exact sim_pure _
  case h_114 => exact sim_pure _
  case h_115 => exact sim_pure _
  case h_116 => exact sim_pure _
  case h_117 => exact sim_pure _
  case h_118 => exact sim_pure _
  case h_119 => exact sim_pure _
  case h_120 => exact sim_pure _
  case h_121 => exact sim_pure _
  case h_122 => exact sim_pure _
  case h_123 => exact sim_pure _
  case h_124 => exact sim_pure _
  case h_125 => exact sim_pure _
  case h_126 => exact sim_pure _
  case h_127 => exact sim_pure _
  case h_128 => exact sim_pure _
  case h_129 => exact sim_pure _
  case h_130 => exact sim_pure _
  case h_131 => exact sim_pure _
  case h_132 => exact sim_pure _
  case h_133 => exact sim_bind (sim_u1 h) (fun _ => sim_bind (sim_s1 h) (fun _ => sim_pure _))
  case h_134 => exact sim_pure _
  case h_135 => exact sim_pure _
  case h_136 => exact sim_pure _
  case h_137 => exact sim_pure _
  case h_138 => exact sim_pure _
  case h_139 => exact sim_pure _
  case h_140 => exact sim_pure _
  case h_141 => exact sim_pure _
  case h_142 => exact sim_pure _
  case h_143 => exact sim_pure _
  case h_144 => exact sim_pure _
  case h_145 => exact sim_pure _
  case h_146 => exact sim_pure _
  case h_147 => exact sim_pure _
  case h_148 => exact sim_pure _
  case h_149 => exact sim_pure _
  case h_150 => exact sim_pure _
  case h_151 => exact sim_pure _
  case h_152 => exact sim_pure _
  case h_153 => exact sim_pure _
  case h_154 => exact sim_bind (sim_s2 h) (fun _ => sim_pure _)
  case h_155 => exact sim_bind (sim_s2 h) (fun _ => sim_pure _)
  case h_156 => exact sim_bind (sim_s2 h) (fun _ => sim_pure _)
  case h_157 => exact sim_bind (sim_s2 h) (fun _ => sim_pure _)
  case h_158 => exact sim_bind (sim_s2 h) (fun _ => sim_pure _)
  case h_159 => exact sim_bind (sim_s2 h) (fun _ => sim_pure _)
  case h_160 => exact sim_bind (sim_s2 h) (fun _ => sim_pure _)
  case h_161 => exact sim_bind (sim_s2 h) (fun _ => sim_pure _)
  case h_162 => exact sim_bind (sim_s2 h) (fun _ => sim_pure _)
  case h_163 => exact sim_bind (sim_s2 h) (fun _ => sim_pure _)
  case h_164 => exact sim_bind (sim_s2 h) (fun _ => sim_pure _)
  case h_165 => exact sim_bind (sim_s2 h) (fun _ => sim_pure _)
  case h_166 => exact sim_bind (sim_s2 h) (fun _ => sim_pure _)
  case h_167 => exact sim_bind (sim_s2 h) (fun _ => sim_pure _)
  case h_168 => exact sim_bind (sim_s2 h) (fun _ => sim_pure _)
  case h_169 => exact sim_bind (sim_s2 h) (fun _ => sim_pure _)
  case h_170 => exact sim_bind (sim_u1 h) (fun _ => sim_pure _)
  case h_171 => exact sim_ts h h4 hs
  case h_172 => exact sim_ls h h4 hs
  case h_173 => exact sim_pure _
  case h_174 => exact sim_pure _
  case h_175 => exact sim_pure _
  case h_176 => exact sim_pure _
  case h_177 => exact sim_pure _
  case h_178 => exact sim_pure _
  case h_179 => exact sim_bind (sim_u2 h) (fun _ => sim_pure _)
  case h_180 => exact sim_bind (sim_u2 h) (fun _ => sim_pure _)
  case h_181 => exact sim_bind (sim_u2 h) (fun _ => sim_pure _)
  case h_182 => exact sim_bind (sim_u2 h) (fun _ => sim_pure _)
  case h_183 => exact sim_bind (sim_u2 h) (fun _ => sim_pure _)
  case h_184 => exact sim_bind (sim_u2 h) (fun _ => sim_pure _)
  case h_185 => exact sim_bind (sim_u2 h) (fun _ => sim_pure _)
  case h_186 => exact sim_ii h
  case h_187 => exact sim_id h
  case h_188 => exact sim_bind (sim_u2 h) (fun _ => sim_pure _)
  case h_189 => exact sim_na h
  case h_190 => exact sim_bind (sim_u2 h) (fun _ => sim_pure _)
  case h_191 => exact sim_pure _
  case h_192 => exact sim_pure _
  case h_193 => exact sim_bind (sim_u2 h) (fun _ => sim_pure _)
  case h_194 => exact sim_bind (sim_u2 h) (fun _ => sim_pure _)
  case h_195 => exact sim_pure _
  case h_196 => exact sim_pure _
  case h_197 => exact sim_wi h
  case h_198 => exact sim_mn h
  case h_199 => exact sim_bind (sim_s2 h) (fun _ => sim_pure _)
  case h_200 => exact sim_bind (sim_s2 h) (fun _ => sim_pure _)
  case h_201 => exact sim_bind (sim_s4 h) (fun _ => sim_pure _)
  case h_202 => exact sim_bind (sim_s4 h) (fun _ => sim_pure _)
  case h_203 => exact sim_throw _ _
  case h_204 => exact sim_throw _ _
  case h_205 => exact sim_throw _ _
  case h_206 => exact sim_throw _ _
theorem dec_shift {c w : ByteArray} {off k : Nat} {i : Instr} {n : Nat} (h : BAg c w off) (h4 : off % 4 = 0) (hs : off + w.size ≤ c.size) (e : decode w k = .ok (i, n)) : decode c (off + k) = .ok (i, n) := by
  have hsim := sim_i (pc := k) (pc2 := off + k) h h4 hs
  have e : (match (Decoder.instr k).runAt w k with
    | .ok (a, q) => (Except.ok (a, q - k) : Except DecodeError (Instr × Nat))
    | .error x => .error x) = .ok (i, n) := by
    rw [← e]
    show _ = Except.bind ((Decoder.instr k).runAt w k) (fun (a, q) => Except.ok (a, q - k))
    cases (Decoder.instr k).runAt w k with
    | ok a => rfl
    | error x => rfl
  cases hr : (Decoder.instr k).runAt w k with
  | error x => rw [hr] at e; cases e
  | ok a =>
    obtain ⟨a, q⟩ := a
    rw [hr] at e
    cases e
    show Except.bind ((Decoder.instr (off + k)).runAt c (off + k)) (fun (a, q) => Except.ok (a, q - (off + k))) = _
    rw [hsim k _ q hr]
    exact congrArg (fun z => Except.ok (_, z)) (Nat.add_sub_add_left off q k)
end
theorem bag_of {c : ByteArray} {off : Nat} {l : List UInt8} (h : ∀ (j : Nat) (x : UInt8), l[j]? = some x → c.data.toList[off + j]? = some x) : BAg c ⟨⟨l⟩⟩ off := fun j hj => by
  have h0 : j < l.length := hj
  have h1 := h j _ (List.getElem?_eq_getElem h0)
  obtain ⟨h2, h3⟩ := List.getElem?_eq_some_iff.mp h1
  exact ⟨h2, h3⟩
theorem bag_sz {c : ByteArray} {off : Nat} {b : UInt8} {l : List UInt8} (h : ∀ (j : Nat) (x : UInt8), (b :: l)[j]? = some x → c.data.toList[off + j]? = some x) : off + (⟨⟨b :: l⟩⟩ : ByteArray).size ≤ c.size := by
  have h0 : l.length < (b :: l).length := Nat.lt_succ_self _
  have h1 := h l.length _ (List.getElem?_eq_getElem h0)
  obtain ⟨h2, -⟩ := List.getElem?_eq_some_iff.mp h1
  have h3 : off + l.length < c.size := h2
  show off + (l.length + 1) ≤ c.size
  omega
noncomputable def ev_vqs (M : MT) (l : List (Instr × Nat × Nat)) (r : MRow) (off : Nat) (w : List UInt8) (e : Nat × Instr × Nat × Nat) : Bool := ((Nat.ble off e.1 && (!w.isEmpty && decide (decode ⟨⟨w⟩⟩ (e.1 - off) = .ok (e.2.1, ev_ln e.2.1 e.2.2.2)))) || decide (decode r.2.1 e.1 = .ok (e.2.1, ev_ln e.2.1 e.2.2.2))) && cond (ev_isl e.2.1) (ev_lan l (fun q => Nat.beq (ev_key q.1) (ev_key e.2.1) && (Nat.beq q.2.1 e.2.2.1 && (Nat.beq q.2.2 e.2.2.2 && ev_isl q.1)))) (ev_kb M r.1.cls e.1 e.2.1 e.2.2.1 e.2.2.2)
theorem ev_vqs_ok {M : MT} {l : List (Instr × Nat × Nat)} {r : MRow} {off : Nat} {w : List UInt8} {e : Nat × Instr × Nat × Nat} (hw : ∀ (j : Nat) (x : UInt8), w[j]? = some x → r.2.1.data.toList[off + j]? = some x) (h4 : off % 4 = 0) (h : ev_vqs M l r off w e = true) : ev_vq M l r e = true := by
  unfold ev_vqs at h
  unfold ev_vq
  rw [Bool.and_eq_true, Bool.or_eq_true] at h
  rw [Bool.and_eq_true]
  obtain ⟨h2, h3⟩ := h
  refine ⟨decide_eq_true ?_, h3⟩
  rcases h2 with h2 | h2
  · rw [Bool.and_eq_true, Bool.and_eq_true] at h2
    obtain ⟨h1, h0, h2⟩ := h2
    cases w with
    | nil => cases h0
    | cons b w =>
      have h5 := dec_shift (bag_of hw) h4 (bag_sz hw) (of_decide_eq_true h2)
      rw [show off + (e.1 - off) = e.1 from Nat.add_sub_of_le (Nat.le_of_ble_eq_true h1)] at h5
      exact h5
  · exact of_decide_eq_true h2
def splitK {β : Type} : Nat → List UInt8 → (List UInt8 → List UInt8 → β) → β
  | 0, s, K => K [] s
  | _ + 1, [], K => K [] []
  | n + 1, b :: s, K => splitK n s (fun a t => K (b :: a) t)
theorem splitK_eq {β : Type} : ∀ (n : Nat) (s : List UInt8) (K : List UInt8 → List UInt8 → β), splitK n s K = K (s.take n) (s.drop n)
  | 0, _, _ => rfl
  | _ + 1, [], _ => rfl
  | n + 1, b :: s, K => splitK_eq n s (fun a t => K (b :: a) t)
noncomputable def scanC (M : MT) (l : List (Instr × Nat × Nat)) (r : MRow) : List (List (Nat × Instr × Nat × Nat)) → Nat → List UInt8 → Bool
  | [], _, _ => true
  | ch :: t, off, s => splitK 16 s (fun a s2 => splitK 8 s2 (fun b _ => ch.all (ev_vqs M l r off (a ++ b))) && scanC M l r t (off + 16) s2)
theorem scan_ok {M : MT} {l : List (Instr × Nat × Nat)} {r : MRow} : ∀ (q : List (List (Nat × Instr × Nat × Nat))) (off : Nat) (s : List UInt8), off % 4 = 0 → (∀ (j : Nat) (x : UInt8), s[j]? = some x → r.2.1.data.toList[off + j]? = some x) → scanC M l r q off s = true → q.all (fun ch => ch.all (ev_vq M l r)) = true
  | [], _, _, _, _, _ => rfl
  | ch :: t, off, s, h4, hS, h => by
    show (ch.all (ev_vq M l r) && t.all (fun ch => ch.all (ev_vq M l r))) = true
    have h : splitK 16 s (fun a s2 => splitK 8 s2 (fun b _ => ch.all (ev_vqs M l r off (a ++ b))) && scanC M l r t (off + 16) s2) = true := h
    rw [splitK_eq] at h
    have h : (splitK 8 (s.drop 16) (fun b _ => ch.all (ev_vqs M l r off (s.take 16 ++ b))) && scanC M l r t (off + 16) (s.drop 16)) = true := h
    rw [splitK_eq, Bool.and_eq_true] at h
    rw [Bool.and_eq_true]
    have hw : ∀ (j : Nat) (x : UInt8), (s.take 16 ++ (s.drop 16).take 8)[j]? = some x → r.2.1.data.toList[off + j]? = some x := fun j x hx => hS j x (by
      rw [← List.take_add, List.getElem?_take] at hx
      by_cases q : j < 16 + 8
      · rw [if_pos q] at hx; exact hx
      · rw [if_neg q] at hx; cases hx)
    refine ⟨List.all_eq_true.mpr (fun e he => ev_vqs_ok hw h4 (List.all_eq_true.mp h.1 e he)), scan_ok t (off + 16) (s.drop 16) (by omega) (fun j x hx => ?_) h.2⟩
    rw [List.getElem?_drop] at hx
    rw [Nat.add_assoc]
    exact hS (16 + j) x hx
theorem scan_vf {M : MT} {l : List (Instr × Nat × Nat)} {r : MRow} (h : scanC M l r r.2.2.2.2.2.2.1 0 r.2.1.data.toList = true) : ev_vf M l r = true := by
  unfold ev_vf
  rw [Bool.true_and]
  exact scan_ok _ 0 _ rfl (fun j x hx => by rw [Nat.zero_add]; exact hx) h
theorem scan_at {M : MT} {l : List (Instr × Nat × Nat)} {r : MRow} {q : List (List (Nat × Instr × Nat × Nat))} {off : Nat} (h4 : off % 4 = 0) (h : scanC M l r q off (r.2.1.data.toList.drop off) = true) : q.all (fun ch => ch.all (ev_vq M l r)) = true :=
  scan_ok q off _ h4 (fun j x hx => by rw [List.getElem?_drop] at hx; exact hx) h
