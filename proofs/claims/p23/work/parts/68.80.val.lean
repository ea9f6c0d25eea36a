/-! ===== what holds of a program's rows: each decodes as said, its links are in the tables ===== -/
def ev_ln : Instr → Nat → Nat
  | .tableswitch _ _ _ _, y => y
  | .lookupswitch _ _, y => y
  | .bipush _, _ => 2
  | .iload _, _ => 2
  | .lload _, _ => 2
  | .aload _, _ => 2
  | .istore _, _ => 2
  | .lstore _, _ => 2
  | .astore _, _ => 2
  | .ldc _, _ => 2
  | .newarray _, _ => 2
  | .sipush _, _ => 3
  | .ldc_w _, _ => 3
  | .ldc2_w _, _ => 3
  | .iinc _ _, _ => 3
  | .goto _, _ => 3
  | .ifCond _ _, _ => 3
  | .if_icmp _ _, _ => 3
  | .if_acmp _ _, _ => 3
  | .getfield _, _ => 3
  | .putfield _, _ => 3
  | .getstatic _, _ => 3
  | .new _, _ => 3
  | .anewarray _, _ => 3
  | .invokevirtual _, _ => 3
  | .invokespecial _, _ => 3
  | .invokestatic _, _ => 3
  | _, _ => 1
def ev_ac (x : Nat) : String := if x = 4 then "LeftAnswers$Word" else if x = 5 then "LeftAnswers$Life" else "LeftAnswers$Image"
def ev_all (l : List Cond) : Bool := l.all (fun w => decide (w ∈ gtb))
theorem ev_all_ok {l : List Cond} (h : ev_all l = true) : ∀ w ∈ l, w ∈ gtb := fun w hw => of_decide_eq_true (List.all_eq_true.mp h w hw)
/-- a method that can be called: its own words, its head -/
def ev_me (M : MT) (x y : Nat) : Bool := decide (mL M x ≤ 40) && ev_all [.code (mY M x) (mB M x) (mL M x) (mR M x), .initialized (mY M x).cls] && decide ((mY M x).cls ≠ "java/lang/invoke/MethodHandle") && decide ((mY M x).cls ≠ "java/lang/invoke/VarHandle") && decide (((parseMethodDescriptor (mY M x).desc).map (fun d => d.parameters.length)) = some y) && plainName (mY M x).cls
def sx_ix : List Nat := [29, 49, 57, 62]
def sx_tx : List String := [" owns ", " in cell ", " gloved", " wed to "]
/-- a text of Slip: where it lies, what it holds -/
def ex_S (b : Nat) (en : Nat → Nat) (U : State) (H : Heap) (v : Nat) : Prop := vk_R "LeftAnswers$Slip" (sx_ix.getD (v - 300) 0) (sx_tx.getD (v - 300) "") (en v) U ∧ va_O "java/lang/String" (en v) (ev_A b) U H ∧ va_OF "java/lang/String" "coder" "B" (.int 0) (en v) (ev_A b) U H ∧ va_OF "java/lang/String" "value" "[B" (.ref (en (v + 10))) (en v) (ev_A b) U H ∧ va_T .byte (en (v + 10)) (ev_tx v).length (fun j => .int ((ev_tx v).getD j 0)) (ev_A b) U H
/-- all that lies outside: the constants of Word, their letters, ALL, the switch's array, the texts -/
def ex_E (b : Nat) (en : Nat → Nat) (U : State) (H : Heap) : Prop := ev_E b en U H ∧ va_Z "LeftAnswers$Word" "ALL" "[LLeftAnswers$Word;" (.ref (en 101)) (ev_A b) U H ∧ va_T (.object "LeftAnswers$Word") (en 101) 32 (fun j => .ref (en j)) (ev_A b) U H ∧ (∀ i, i < 32 → va_OF "LeftAnswers$Word" "letters" "J" (.long (ev_lt.getD i 0)) (en i) (ev_A b) U H) ∧ va_Z "java/lang/String" "COMPACT_STRINGS" "Z" (.int 1) (ev_A b) U H ∧ (∀ v, 300 ≤ v → v < 304 → ex_S b en U H v) ∧ va_Zq "jdk/internal/util/Preconditions" "SIOOBE_FORMATTER" "Ljava/util/function/BiFunction;" (ev_A b) U H
def ex_C (p : Program) (s : State) (m : MethodId) (args : Array Value) (meth : Method) (c : Code) (b : Nat) (en ac : Nat → Nat) (D : va_G) (M : MT) (mi : Nat) : Prop :=
  p.tables.exec = Jvm.exec ∧ c.code = mB M mi ∧ c.maxLocals = mL M mi ∧ s.vm.findClass (mY M mi).cls = some m.cls ∧ (∀ w ∈ gtb, w.before args s = true) ∧ va_K D vwCl (ev_tys ac) s ∧ ex_E b en s s.heap ∧ b ≤ s.heap.size ∧ meth.locks = false ∧ meth.sig.returnType = mR M mi ∧ ((mY M mi).name = "<init>" → meth.name = "<init>")
def ev_kb (M : MT) (own : String) (pc : Nat) : Instr → Nat → Nat → Bool
  | .goto off, x, _ => decide ((pc : Int) + off = (x : Int))
  | .ifCond _ off, x, _ => decide ((pc : Int) + off = (x : Int))
  | .if_icmp _ off, x, _ => decide ((pc : Int) + off = (x : Int))
  | .if_acmp _ off, x, _ => decide ((pc : Int) + off = (x : Int))
  | .lookupswitch _ ps, _, _ => (ps.toList.zip (ps.toList.drop 1)).all (fun (a, next) => a.1 < next.1)
  | .getfield idx, x, y => (decide (x = 200) && ev_all [.fieldLink own idx "LeftAnswers$Word" "letters" "J"]) || (decide (x < 12) && decide (y < NN x) && ev_all [.fieldLink own idx (TT x y).1 (TT x y).2.1 (TT x y).2.2.1])
  | .putfield idx, x, y => decide (x < 12) && decide (y < NN x) && ev_all [.fieldLink own idx (TT x y).1 (TT x y).2.1 (TT x y).2.2.1] && (!(TT x y).2.2.2 || decide ((TT x y).1 = own))
  | .getstatic idx, x, _ => (decide (x < 32) && ev_all [.fieldLink own idx "LeftAnswers$Word" (ev_nm.getD x "") "LLeftAnswers$Word;"]) || (decide (x = 100) && ev_all [.fieldLink own idx "LeftAnswers$1" "$SwitchMap$LeftAnswers$Word" "[I"]) || (decide (x = 101) && ev_all [.fieldLink own idx "LeftAnswers$Word" "ALL" "[LLeftAnswers$Word;"])
  | .new idx, x, _ => decide (x < 12) && ev_all [.classLink own idx (CN x), .instantiable (CN x) (NN x), .initialized (CN x)]
  | .newarray a, _, _ => ev_all [.arrayClass (newarray.typeOf a)]
  | .anewarray idx, x, _ => decide (4 ≤ x) && decide (x < 7) && ev_all [.classLink own idx (ev_ac x)]
  | .ldc idx, x, y => (decide (y = 1) && decide (300 ≤ x) && decide (x < 304) && decide (own = "LeftAnswers$Slip") && decide (idx = sx_ix.getD (x - 300) 0)) || (decide (y ≠ 1) && ev_all [.constant own idx (Int32.ofNat x)])
  | .ldc_w idx, x, _ => ev_all [.constant own idx (Int32.ofNat x)]
  | .ldc2_w idx, x, _ => ev_all [.constantLong own idx (Int64.ofNat x)]
  | .invokevirtual idx, x, y => (decide (x = 900) && ev_all [.methodLink own idx ⟨"LeftAnswers$Word", "ordinal", "()I"⟩]) || (decide (x = 905) && ev_all [.methodLink own idx ⟨"java/lang/String", "length", "()I"⟩]) || (decide (x = 906) && ev_all [.methodLink own idx ⟨"java/lang/String", "charAt", "(I)C"⟩]) || (decide (x < 900) && ev_me M x y && decide (mK M x < 12) && decide ((mY M x).cls = CN (mK M x)) && ev_all [.methodLink own idx (mY M x), .instanceMethod (mY M x), .selects (mY M x).cls (mY M x) (mY M x)])
  | .invokespecial idx, x, y => (decide (x = 999) && ev_all [.methodLink own idx objectInit, .instanceMethod objectInit, .code objectInit ⟨#[0xb1]⟩ 1 none]) || (decide (x < 900) && ev_me M x y && decide (mR M x = none) && decide ((mY M x).name = "<init>") && ev_all [.methodLink own idx (mY M x), .instanceMethod (mY M x)])
  | .invokestatic idx, x, y => (decide (x < 900) && decide (mY M x = Lib.Math.abs.name) && decide (mC M x = 0) && decide (mS M x = 0) && decide (y = 1) && ev_all [.methodLink own idx Lib.Math.abs.name, .static Lib.Math.abs.name, .initialized "java/lang/Math", .code Lib.Math.abs.name Lib.Math.abs.code 1 (some .int)])
      || (decide (x < 900) && ev_me M x y && ev_all [.methodLink own idx (mY M x), .static (mY M x)])
      || (decide (x = 901) && ev_all [.methodLink own idx Lib.Math.min.name, .static Lib.Math.min.name, .initialized "java/lang/Math", .code Lib.Math.min.name Lib.Math.min.code 2 (some .int)])
      || (decide (x = 902) && ev_all [.methodLink own idx Lib.Math.max.name, .static Lib.Math.max.name, .initialized "java/lang/Math", .code Lib.Math.max.name Lib.Math.max.code 2 (some .int)])
      || (decide (x = 904) && ev_all [.methodLink own idx arraycopyName, .native arraycopyName, .static arraycopyName, .initialized "java/lang/System"])
  | _, _, _ => true
def ev_rm (M : MT) (d mi : Nat) : Room := { frames := d + 3, cells := mC M mi, slots := mS M mi, locals := 64 * d + 256 }
def ev_U (b : Nat) (en ac : Nat → Nat) (D : va_G) (hp : List AE) (U : State) : Prop := U.heap.size = b + hp.length ∧ va_P D vwCl (ev_ws b en ac hp) U.heap ∧ va_K D vwCl (ev_tys ac) U ∧ ex_E b en U U.heap
def ev_Q (b : Nat) (en ac : Nat → Nat) (D : va_G) (mc : Nat) (res : ev_R) : Array Value → State → Outcome → State → Prop := fun _ st oc t =>
  oc = .returned (res.1.map (ev_v b en)) ∧ ev_U b en ac D res.2 t ∧ va_F (ev_A b) st t ∧ st.heap.size + mc = b + res.2.length
def ev_M (l : Launch) (b : Nat) (en ac : Nat → Nat) (D : va_G) (M : MT) (d mi : Nat) (As : List Value) (hp : List AE) (res : ev_R) : Prop :=
  Met l (mY M mi) (.code (mY M mi) (mB M mi) (mL M mi) (mR M mi) :: gtb) (ev_rm M d mi) (va_Pc (As.map (ev_v b en)) (ev_U b en ac D hp)) (ev_Q b en ac D (mC M mi) res) (mC M mi) (mS M mi) (ev_A b)
theorem ev_E_moved {b : Nat} {en : Nat → Nat} {u U : State} {H : Heap} (hvm : u.vm.Alike U.vm) (h : ev_E b en u H) : ev_E b en U H := ⟨va_Ec.moved hvm h.1, va_Z.moved hvm h.2.1, va_T.moved hvm h.2.2.1, va_AO.moved hvm h.2.2.2.1, va_AO.moved hvm h.2.2.2.2.1, va_AO.moved hvm h.2.2.2.2.2⟩
theorem ev_E_kept {b : Nat} {en : Nat → Nat} {U : State} {H H1 : Heap} (h : ev_E b en U H) (hq : ∀ a : Nat, a < H.size → ¬ ev_A b a → H1[a]? = H[a]?) : ev_E b en U H1 := ⟨va_Ec.kept h.1 hq, va_Z.kept h.2.1 hq, va_T.kept h.2.2.1 hq, h.2.2.2⟩
theorem ex_S_moved {b : Nat} {en : Nat → Nat} {u U : State} {H : Heap} {v : Nat} (hW : u.WarmedH U.vm) (h : ex_S b en u H v) : ex_S b en U H v := ⟨vk_R.warm hW h.1, va_O.moved hW.alike h.2.1, va_OF.moved hW.alike h.2.2.1, va_OF.moved hW.alike h.2.2.2.1, va_T.moved hW.alike h.2.2.2.2⟩
theorem ex_E_moved {b : Nat} {en : Nat → Nat} {u U : State} {H : Heap} (hW : u.WarmedH U.vm) (h : ex_E b en u H) : ex_E b en U H := ⟨ev_E_moved hW.alike h.1, va_Z.moved hW.alike h.2.1, va_T.moved hW.alike h.2.2.1, fun i hi => va_OF.moved hW.alike (h.2.2.2.1 i hi), va_Z.moved hW.alike h.2.2.2.2.1, fun v h1 h2 => ex_S_moved hW (h.2.2.2.2.2.1 v h1 h2), va_Zq.moved hW.alike h.2.2.2.2.2.2⟩
theorem ex_E_same {b : Nat} {en : Nat → Nat} {u U : State} {H : Heap} (hv : U.vm = u.vm) (h : ex_E b en u H) : ex_E b en U H := by
  have hA : u.vm.Alike U.vm := by rw [hv]; exact Vm.Alike.refl _
  exact ⟨ev_E_moved hA h.1, va_Z.moved hA h.2.1, va_T.moved hA h.2.2.1, fun i hi => va_OF.moved hA (h.2.2.2.1 i hi), va_Z.moved hA h.2.2.2.2.1, fun v h1 h2 => ⟨vk_R.same hv (h.2.2.2.2.2.1 v h1 h2).1, va_O.moved hA (h.2.2.2.2.2.1 v h1 h2).2.1, va_OF.moved hA (h.2.2.2.2.2.1 v h1 h2).2.2.1, va_OF.moved hA (h.2.2.2.2.2.1 v h1 h2).2.2.2.1, va_T.moved hA (h.2.2.2.2.2.1 v h1 h2).2.2.2.2⟩, va_Zq.moved hA h.2.2.2.2.2.2⟩
theorem ex_S_kept {b : Nat} {en : Nat → Nat} {U : State} {H H1 : Heap} {v : Nat} (h : ex_S b en U H v) (hq : ∀ a : Nat, a < H.size → ¬ ev_A b a → H1[a]? = H[a]?) : ex_S b en U H1 v := ⟨h.1, h.2.1.kept hq, h.2.2.1.kept hq, h.2.2.2.1.kept hq, h.2.2.2.2.kept hq⟩
theorem ex_E_kept {b : Nat} {en : Nat → Nat} {U : State} {H H1 : Heap} (h : ex_E b en U H) (hq : ∀ a : Nat, a < H.size → ¬ ev_A b a → H1[a]? = H[a]?) : ex_E b en U H1 := ⟨ev_E_kept h.1 hq, h.2.1.kept hq, h.2.2.1.kept hq, fun i hi => (h.2.2.2.1 i hi).kept hq, h.2.2.2.2.1.kept hq, fun v h1 h2 => ex_S_kept (h.2.2.2.2.2.1 v h1 h2) hq, h.2.2.2.2.2.2.kept hq⟩
/-- Math.abs -/
def ev_ab (As : List Value) (hp : List AE) (q : ev_R) : Prop := ∃ a : Int32, As = [.int a] ∧ q = (some (.int (if 0 ≤ a then a else 0 - a)), hp)
def ev_MX (l : Launch) (b : Nat) (en ac : Nat → Nat) (D : va_G) (M : MT) (d mi : Nat) (As : List Value) (hp : List AE) (res : ev_R) : Prop := (plainName (mY M mi).cls = true → ev_M l b en ac D M d mi As hp res) ∧ (mY M mi = Lib.Math.abs.name → ev_ab As hp res)
theorem me_pl {M : MT} {x y : Nat} (h : ev_me M x y = true) : plainName (mY M x).cls = true := by
  unfold ev_me at h
  rw [Bool.and_eq_true] at h
  exact h.2
theorem ev_U_blind {b : Nat} {en ac : Nat → Nat} {D : va_G} {hp : List AE} {av : List Value} : FrameBlind (va_Pc av (ev_U b en ac D hp)) := fun a U g mk q => by
  obtain ⟨q0, q1, qP, qK, qE⟩ := q
  exact ⟨q0, q1, qP, va_K.moved (u := U) (U := U.calling g mk a) (Vm.Alike.refl U.vm) qK, ex_E_same (u := U) (U := U.calling g mk a) rfl qE⟩
section
variable {p : Program} {l : Launch} {e : Env} {R : Room} {s : State} {m : MethodId} {args : Array Value} {below : List Frame} {meth : Method} {c : Code} {Q : State → Prop} {H : Heap} {locs : List Loc} {cells slots : Nat}
theorem ev_sized {g : JFrame} (kk : H.size ≤ s.heap.size + cells → W p l e R s m args below meth c H locs cells slots Q g) : W p l e R s m args below meth c H locs cells slots Q g :=
  fun T hT X => kk (by have h := X.same.2.2.1; rw [← hT]; exact h) T hT X
theorem ev_callG {mc ms pc : Nat} {ls : Array Slot} {st0 rest : List Value} {free : Addr → Prop} {Qa : State → Outcome → State → Prop} (hr : va_Run p l e R s m args below meth c H locs cells slots mc ms (F0 m pc ls st0) rest Qa free)
    (kk : ∀ (v : Option Value) (st₀ t : State) (L : List Loc), st₀.heap = H → s.vm.Alike t.vm → (∀ q ∈ L, free q.base) → Qa st₀ (.returned v) t → W p l e R s m args below meth c t.heap (locs ++ L) (cells + mc) (slots + ms) Q (F0 m (pc + 3) ls (v.toList ++ rest))) :
    W p l e R s m args below meth c H locs cells slots Q (F0 m pc ls st0) := by
  intro T hT X
  obtain ⟨v, st₀, t, T', L, h0, X', hL, e1, e2, hq, st⟩ := hr T hT X
  obtain ⟨t2, a1, b1⟩ := kk v st₀ t L h0 (by rw [← e2]; exact X'.warmed.alike) hL hq T' e1 X'
  exact ⟨t2, st t2 a1, b1⟩
end
theorem ev_size {b : Nat} {en ac : Nat → Nat} {D : va_G} {s : State} {hp : List AE} {H : Heap} {locs : List Loc} {k : Nat} (w : ev_W b en ac D s hp H locs k) (hb : b ≤ s.heap.size) (hz : H.size ≤ s.heap.size + k) : H.size = b + hp.length := by
  obtain ⟨hP, hS, hk⟩ := w
  rw [hk] at hz
  refine Nat.le_antisymm hz ?_
  cases hn : hp.length with
  | zero => exact Nat.le_trans hb hS.1
  | succ n =>
    have h1 : n < hp.length := by omega
    have h2 := (hP n _ (ws_at (List.getElem?_eq_getElem h1))).lt
    show b + (n + 1) ≤ H.size
    have h3 : b + n < H.size := h2
    omega
theorem ev_fresh {b : Nat} {en ac : Nat → Nat} {D : va_G} {s : State} {hp : List AE} {H1 : Heap} {k q : Nat} {x : va_E} (hP : va_P D vwCl (ev_ws b en ac hp ++ [(q, x)]) H1) (hD : va_D (ev_A b) (ev_ws b en ac hp ++ [(q, x)])) (hk : s.heap.size + k = b + hp.length) (hz : H1.size ≤ s.heap.size + (k + 1)) : q = b + hp.length := by
  have hat : (ev_ws b en ac hp ++ [(q, x)])[hp.length]? = some (q, x) := by
    rw [List.getElem?_append_right (by rw [ws_len]; exact Nat.le_refl _), ws_len, Nat.sub_self]
    rfl
  have h1 : b ≤ q := hD.2 _ _ hat
  have h2 : q < H1.size := (hP _ _ hat).lt
  by_cases h : q < b + hp.length
  · have hi : q - b < hp.length := by omega
    have h3 : (ev_ws b en ac hp ++ [(q, x)])[q - b]? = some (b + (q - b), ev_e b en ac hp[q - b]) := by
      rw [List.getElem?_append_left (by rw [ws_len]; exact hi)]
      exact ws_at (List.getElem?_eq_getElem hi)
    have h4 := hD.1 _ _ _ _ h3 hat (by show b + (q - b) = q; omega)
    omega
  · omega
