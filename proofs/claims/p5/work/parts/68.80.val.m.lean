section
/-! ===== what holds of a program's rows: each decodes as said, its links are in the tables ===== -/
def ev_ln : Instr → Nat → Nat
  | .tableswitch _ _ _ _, y => y
  | .lookupswitch _ _, y => y
  | .bipush _, _ => 2
  | .iload _, _ => 2
  | .lload _, _ => 2
  | .aload _, _ => 2
  | .istore _, _ => 2
  | .lstore _, _ => 2
  | .astore _, _ => 2
  | .ldc _, _ => 2
  | .newarray _, _ => 2
  | .sipush _, _ => 3
  | .ldc_w _, _ => 3
  | .ldc2_w _, _ => 3
  | .iinc _ _, _ => 3
  | .goto _, _ => 3
  | .ifCond _ _, _ => 3
  | .if_icmp _ _, _ => 3
  | .if_acmp _ _, _ => 3
  | .getfield _, _ => 3
  | .putfield _, _ => 3
  | .getstatic _, _ => 3
  | .new _, _ => 3
  | .anewarray _, _ => 3
  | .invokevirtual _, _ => 3
  | .invokespecial _, _ => 3
  | .invokestatic _, _ => 3
  | _, _ => 1
def ev_ac (x : Nat) : String := if x = 4 then "LeftAnswers$Word" else if x = 5 then "LeftAnswers$Life" else "LeftAnswers$Image"
def ev_all (l : List Cond) : Bool := l.all (fun w => decide (w ∈ gtb))
theorem ev_all_ok {l : List Cond} (h : ev_all l = true) : ∀ w ∈ l, w ∈ gtb := fun w hw => of_decide_eq_true (List.all_eq_true.mp h w hw)
/-- a method that can be called: its own words, its head -/
def ev_me (M : MT) (x y : Nat) : Bool := decide (mL M x ≤ 40) && ev_all [.code (mY M x) (mB M x) (mL M x) (mR M x), .initialized (mY M x).cls] && decide ((mY M x).cls ≠ "java/lang/invoke/MethodHandle") && decide ((mY M x).cls ≠ "java/lang/invoke/VarHandle") && decide (((parseMethodDescriptor (mY M x).desc).map (fun d => d.parameters.length)) = some y) && plainName (mY M x).cls
def sx_ix : List Nat := [29, 49, 57, 62]
def sx_tx : List String := [" owns ", " in cell ", " gloved", " wed to "]
/-- a text of Slip: where it lies, what it holds -/
def ex_S (b : Nat) (en : Nat → Nat) (U : State) (H : Heap) (v : Nat) : Prop := vk_R "LeftAnswers$Slip" (sx_ix.getD (v - 300) 0) (sx_tx.getD (v - 300) "") (en v) U ∧ va_O "java/lang/String" (en v) (ev_A b) U H ∧ va_OF "java/lang/String" "coder" "B" (.int 0) (en v) (ev_A b) U H ∧ va_OF "java/lang/String" "value" "[B" (.ref (en (v + 10))) (en v) (ev_A b) U H ∧ va_T .byte (en (v + 10)) (ev_tx v).length (fun j => .int ((ev_tx v).getD j 0)) (ev_A b) U H
/-- all that lies outside: the constants of Word, their letters, ALL, the switch's array, the texts -/
def ex_E (b : Nat) (en : Nat → Nat) (U : State) (H : Heap) : Prop := ev_E b en U H ∧ va_Z "LeftAnswers$Word" "ALL" "[LLeftAnswers$Word;" (.ref (en 101)) (ev_A b) U H ∧ va_T (.object "LeftAnswers$Word") (en 101) 32 (fun j => .ref (en j)) (ev_A b) U H ∧ (∀ i, i < 32 → va_OF "LeftAnswers$Word" "letters" "J" (.long (ev_lt.getD i 0)) (en i) (ev_A b) U H) ∧ va_Z "java/lang/String" "COMPACT_STRINGS" "Z" (.int 1) (ev_A b) U H ∧ (∀ v, 300 ≤ v → v < 304 → ex_S b en U H v) ∧ va_Zq "jdk/internal/util/Preconditions" "SIOOBE_FORMATTER" "Ljava/util/function/BiFunction;" (ev_A b) U H
def ex_C (p : Program) (s : State) (m : MethodId) (args : Array Value) (meth : Method) (c : Code) (b : Nat) (en ac : Nat → Nat) (D : va_G) (M : MT) (mi : Nat) : Prop :=
  p.tables.exec = Jvm.exec ∧ c.code = mB M mi ∧ c.maxLocals = mL M mi ∧ s.vm.findClass (mY M mi).cls = some m.cls ∧ (∀ w ∈ gtb, w.before args s = true) ∧ va_K D vwCl (ev_tys ac) s ∧ ex_E b en s s.heap ∧ b ≤ s.heap.size ∧ meth.locks = false ∧ meth.sig.returnType = mR M mi ∧ ((mY M mi).name = "<init>" → meth.name = "<init>")
def ev_kb (M : MT) (own : String) (pc : Nat) : Instr → Nat → Nat → Bool
  | .goto off, x, _ => decide ((pc : Int) + off = (x : Int))
  | .ifCond _ off, x, _ => decide ((pc : Int) + off = (x : Int))
  | .if_icmp _ off, x, _ => decide ((pc : Int) + off = (x : Int))
  | .if_acmp _ off, x, _ => decide ((pc : Int) + off = (x : Int))
  | .lookupswitch _ ps, _, _ => (ps.toList.zip (ps.toList.drop 1)).all (fun (a, next) => a.1 < next.1)
  | .getfield idx, x, y => (decide (x = 200) && ev_all [.fieldLink own idx "LeftAnswers$Word" "letters" "J"]) || (decide (x < 12) && decide (y < NN x) && ev_all [.fieldLink own idx (TT x y).1 (TT x y).2.1 (TT x y).2.2.1])
  | .putfield idx, x, y => decide (x < 12) && decide (y < NN x) && ev_all [.fieldLink own idx (TT x y).1 (TT x y).2.1 (TT x y).2.2.1] && (!(TT x y).2.2.2 || decide ((TT x y).1 = own))
  | .getstatic idx, x, _ => (decide (x < 32) && ev_all [.fieldLink own idx "LeftAnswers$Word" (ev_nm.getD x "") "LLeftAnswers$Word;"]) || (decide (x = 100) && ev_all [.fieldLink own idx "LeftAnswers$1" "$SwitchMap$LeftAnswers$Word" "[I"]) || (decide (x = 101) && ev_all [.fieldLink own idx "LeftAnswers$Word" "ALL" "[LLeftAnswers$Word;"])
  | .new idx, x, _ => decide (x < 12) && ev_all [.classLink own idx (CN x), .instantiable (CN x) (NN x), .initialized (CN x)]
  | .newarray a, _, _ => ev_all [.arrayClass (newarray.typeOf a)]
  | .anewarray idx, x, _ => decide (4 ≤ x) && decide (x < 7) && ev_all [.classLink own idx (ev_ac x)]
  | .ldc idx, x, y => (decide (y = 1) && decide (300 ≤ x) && decide (x < 304) && decide (own = "LeftAnswers$Slip") && decide (idx = sx_ix.getD (x - 300) 0)) || (decide (y ≠ 1) && ev_all [.constant own idx (Int32.ofNat x)])
  | .ldc_w idx, x, _ => ev_all [.constant own idx (Int32.ofNat x)]
  | .ldc2_w idx, x, _ => ev_all [.constantLong own idx (Int64.ofNat x)]
  | .invokevirtual idx, x, y => (decide (x = 900) && ev_all [.methodLink own idx ⟨"LeftAnswers$Word", "ordinal", "()I"⟩]) || (decide (x = 905) && ev_all [.methodLink own idx ⟨"java/lang/String", "length", "()I"⟩]) || (decide (x = 906) && ev_all [.methodLink own idx ⟨"java/lang/String", "charAt", "(I)C"⟩]) || (decide (x < 900) && ev_me M x y && decide (mK M x < 12) && decide ((mY M x).cls = CN (mK M x)) && ev_all [.methodLink own idx (mY M x), .instanceMethod (mY M x), .selects (mY M x).cls (mY M x) (mY M x)])
  | .invokespecial idx, x, y => (decide (x = 999) && ev_all [.methodLink own idx objectInit, .instanceMethod objectInit, .code objectInit ⟨#[0xb1]⟩ 1 none]) || (decide (x < 900) && ev_me M x y && decide (mR M x = none) && decide ((mY M x).name = "<init>") && ev_all [.methodLink own idx (mY M x), .instanceMethod (mY M x)])
  | .invokestatic idx, x, y => (decide (x < 900) && decide (mY M x = Lib.Math.abs.name) && decide (mC M x = 0) && decide (mS M x = 0) && decide (y = 1) && ev_all [.methodLink own idx Lib.Math.abs.name, .static Lib.Math.abs.name, .initialized "java/lang/Math", .code Lib.Math.abs.name Lib.Math.abs.code 1 (some .int)])
      || (decide (x < 900) && ev_me M x y && ev_all [.methodLink own idx (mY M x), .static (mY M x)])
      || (decide (x = 901) && ev_all [.methodLink own idx Lib.Math.min.name, .static Lib.Math.min.name, .initialized "java/lang/Math", .code Lib.Math.min.name Lib.Math.min.code 2 (some .int)])
      || (decide (x = 902) && ev_all [.methodLink own idx Lib.Math.max.name, .static Lib.Math.max.name, .initialized "java/lang/Math", .code Lib.Math.max.name Lib.Math.max.code 2 (some .int)])
      || (decide (x = 904) && ev_all [.methodLink own idx arraycopyName, .native arraycopyName, .static arraycopyName, .initialized "java/lang/System"])
  | _, _, _ => true
def ev_rm (M : MT) (d mi : Nat) : Room := { frames := d + 3, cells := mC M mi, slots := mS M mi, locals := 64 * d + 256 }
def ev_U (b : Nat) (en ac : Nat → Nat) (D : va_G) (hp : List AE) (U : State) : Prop := U.heap.size = b + hp.length ∧ va_P D vwCl (ev_ws b en ac hp) U.heap ∧ va_K D vwCl (ev_tys ac) U ∧ ex_E b en U U.heap
def ev_Q (b : Nat) (en ac : Nat → Nat) (D : va_G) (mc : Nat) (res : ev_R) : Array Value → State → Outcome → State → Prop := fun _ st oc t =>
  oc = .returned (res.1.map (ev_v b en)) ∧ ev_U b en ac D res.2 t ∧ va_F (ev_A b) st t ∧ st.heap.size + mc = b + res.2.length
def ev_M (l : Launch) (b : Nat) (en ac : Nat → Nat) (D : va_G) (M : MT) (d mi : Nat) (As : List Value) (hp : List AE) (res : ev_R) : Prop :=
  Met l (mY M mi) (.code (mY M mi) (mB M mi) (mL M mi) (mR M mi) :: gtb) (ev_rm M d mi) (va_Pc (As.map (ev_v b en)) (ev_U b en ac D hp)) (ev_Q b en ac D (mC M mi) res) (mC M mi) (mS M mi) (ev_A b)
theorem ev_E_moved {b : Nat} {en : Nat → Nat} {u U : State} {H : Heap} (hvm : u.vm.Alike U.vm) (h : ev_E b en u H) : ev_E b en U H := ⟨va_Ec.moved hvm h.1, va_Z.moved hvm h.2.1, va_T.moved hvm h.2.2.1, va_AO.moved hvm h.2.2.2.1, va_AO.moved hvm h.2.2.2.2.1, va_AO.moved hvm h.2.2.2.2.2⟩
theorem ev_E_kept {b : Nat} {en : Nat → Nat} {U : State} {H H1 : Heap} (h : ev_E b en U H) (hq : ∀ a : Nat, a < H.size → ¬ ev_A b a → H1[a]? = H[a]?) : ev_E b en U H1 := ⟨va_Ec.kept h.1 hq, va_Z.kept h.2.1 hq, va_T.kept h.2.2.1 hq, h.2.2.2⟩
theorem ex_S_moved {b : Nat} {en : Nat → Nat} {u U : State} {H : Heap} {v : Nat} (hW : u.WarmedH U.vm) (h : ex_S b en u H v) : ex_S b en U H v := ⟨vk_R.warm hW h.1, va_O.moved hW.alike h.2.1, va_OF.moved hW.alike h.2.2.1, va_OF.moved hW.alike h.2.2.2.1, va_T.moved hW.alike h.2.2.2.2⟩
theorem ex_E_moved {b : Nat} {en : Nat → Nat} {u U : State} {H : Heap} (hW : u.WarmedH U.vm) (h : ex_E b en u H) : ex_E b en U H := ⟨ev_E_moved hW.alike h.1, va_Z.moved hW.alike h.2.1, va_T.moved hW.alike h.2.2.1, fun i hi => va_OF.moved hW.alike (h.2.2.2.1 i hi), va_Z.moved hW.alike h.2.2.2.2.1, fun v h1 h2 => ex_S_moved hW (h.2.2.2.2.2.1 v h1 h2), va_Zq.moved hW.alike h.2.2.2.2.2.2⟩
theorem ex_E_same {b : Nat} {en : Nat → Nat} {u U : State} {H : Heap} (hv : U.vm = u.vm) (h : ex_E b en u H) : ex_E b en U H := by
  have hA : u.vm.Alike U.vm := by rw [hv]; exact Vm.Alike.refl _
  exact ⟨ev_E_moved hA h.1, va_Z.moved hA h.2.1, va_T.moved hA h.2.2.1, fun i hi => va_OF.moved hA (h.2.2.2.1 i hi), va_Z.moved hA h.2.2.2.2.1, fun v h1 h2 => ⟨vk_R.same hv (h.2.2.2.2.2.1 v h1 h2).1, va_O.moved hA (h.2.2.2.2.2.1 v h1 h2).2.1, va_OF.moved hA (h.2.2.2.2.2.1 v h1 h2).2.2.1, va_OF.moved hA (h.2.2.2.2.2.1 v h1 h2).2.2.2.1, va_T.moved hA (h.2.2.2.2.2.1 v h1 h2).2.2.2.2⟩, va_Zq.moved hA h.2.2.2.2.2.2⟩
theorem ex_S_kept {b : Nat} {en : Nat → Nat} {U : State} {H H1 : Heap} {v : Nat} (h : ex_S b en U H v) (hq : ∀ a : Nat, a < H.size → ¬ ev_A b a → H1[a]? = H[a]?) : ex_S b en U H1 v := ⟨h.1, h.2.1.kept hq, h.2.2.1.kept hq, h.2.2.2.1.kept hq, h.2.2.2.2.kept hq⟩
theorem ex_E_kept {b : Nat} {en : Nat → Nat} {U : State} {H H1 : Heap} (h : ex_E b en U H) (hq : ∀ a : Nat, a < H.size → ¬ ev_A b a → H1[a]? = H[a]?) : ex_E b en U H1 := ⟨ev_E_kept h.1 hq, h.2.1.kept hq, h.2.2.1.kept hq, fun i hi => (h.2.2.2.1 i hi).kept hq, h.2.2.2.2.1.kept hq, fun v h1 h2 => ex_S_kept (h.2.2.2.2.2.1 v h1 h2) hq, h.2.2.2.2.2.2.kept hq⟩
/-- Math.abs -/
def ev_ab (As : List Value) (hp : List AE) (q : ev_R) : Prop := ∃ a : Int32, As = [.int a] ∧ q = (some (.int (if 0 ≤ a then a else 0 - a)), hp)
def ev_MX (l : Launch) (b : Nat) (en ac : Nat → Nat) (D : va_G) (M : MT) (d mi : Nat) (As : List Value) (hp : List AE) (res : ev_R) : Prop := (plainName (mY M mi).cls = true → ev_M l b en ac D M d mi As hp res) ∧ (mY M mi = Lib.Math.abs.name → ev_ab As hp res)
theorem me_pl {M : MT} {x y : Nat} (h : ev_me M x y = true) : plainName (mY M x).cls = true := by
  unfold ev_me at h
  rw [Bool.and_eq_true] at h
  exact h.2
theorem ev_U_blind {b : Nat} {en ac : Nat → Nat} {D : va_G} {hp : List AE} {av : List Value} : FrameBlind (va_Pc av (ev_U b en ac D hp)) := fun a U g mk q => by
  obtain ⟨q0, q1, qP, qK, qE⟩ := q
  exact ⟨q0, q1, qP, va_K.moved (u := U) (U := U.calling g mk a) (Vm.Alike.refl U.vm) qK, ex_E_same (u := U) (U := U.calling g mk a) rfl qE⟩
section
variable {p : Program} {l : Launch} {e : Env} {R : Room} {s : State} {m : MethodId} {args : Array Value} {below : List Frame} {meth : Method} {c : Code} {Q : State → Prop} {H : Heap} {locs : List Loc} {cells slots : Nat}
theorem ev_sized {g : JFrame} (kk : H.size ≤ s.heap.size + cells → W p l e R s m args below meth c H locs cells slots Q g) : W p l e R s m args below meth c H locs cells slots Q g :=
  fun T hT X => kk (by have h := X.same.2.2.1; rw [← hT]; exact h) T hT X
theorem ev_callG {mc ms pc : Nat} {ls : Array Slot} {st0 rest : List Value} {free : Addr → Prop} {Qa : State → Outcome → State → Prop} (hr : va_Run p l e R s m args below meth c H locs cells slots mc ms (F0 m pc ls st0) rest Qa free)
    (kk : ∀ (v : Option Value) (st₀ t : State) (L : List Loc), st₀.heap = H → s.vm.Alike t.vm → (∀ q ∈ L, free q.base) → Qa st₀ (.returned v) t → W p l e R s m args below meth c t.heap (locs ++ L) (cells + mc) (slots + ms) Q (F0 m (pc + 3) ls (v.toList ++ rest))) :
    W p l e R s m args below meth c H locs cells slots Q (F0 m pc ls st0) := by
  intro T hT X
  obtain ⟨v, st₀, t, T', L, h0, X', hL, e1, e2, hq, st⟩ := hr T hT X
  obtain ⟨t2, a1, b1⟩ := kk v st₀ t L h0 (by rw [← e2]; exact X'.warmed.alike) hL hq T' e1 X'
  exact ⟨t2, st t2 a1, b1⟩
end
theorem ev_size {b : Nat} {en ac : Nat → Nat} {D : va_G} {s : State} {hp : List AE} {H : Heap} {locs : List Loc} {k : Nat} (w : ev_W b en ac D s hp H locs k) (hb : b ≤ s.heap.size) (hz : H.size ≤ s.heap.size + k) : H.size = b + hp.length := by
  obtain ⟨hP, hS, hk⟩ := w
  rw [hk] at hz
  refine Nat.le_antisymm hz ?_
  cases hn : hp.length with
  | zero => exact Nat.le_trans hb hS.1
  | succ n =>
    have h1 : n < hp.length := by omega
    have h2 := (hP n _ (ws_at (List.getElem?_eq_getElem h1))).lt
    show b + (n + 1) ≤ H.size
    have h3 : b + n < H.size := h2
    omega
theorem ev_fresh {b : Nat} {en ac : Nat → Nat} {D : va_G} {s : State} {hp : List AE} {H1 : Heap} {k q : Nat} {x : va_E} (hP : va_P D vwCl (ev_ws b en ac hp ++ [(q, x)]) H1) (hD : va_D (ev_A b) (ev_ws b en ac hp ++ [(q, x)])) (hk : s.heap.size + k = b + hp.length) (hz : H1.size ≤ s.heap.size + (k + 1)) : q = b + hp.length := by
  have hat : (ev_ws b en ac hp ++ [(q, x)])[hp.length]? = some (q, x) := by
    rw [List.getElem?_append_right (by rw [ws_len]; exact Nat.le_refl _), ws_len, Nat.sub_self]
    rfl
  have h1 : b ≤ q := hD.2 _ _ hat
  have h2 : q < H1.size := (hP _ _ hat).lt
  by_cases h : q < b + hp.length
  · have hi : q - b < hp.length := by omega
    have h3 : (ev_ws b en ac hp ++ [(q, x)])[q - b]? = some (b + (q - b), ev_e b en ac hp[q - b]) := by
      rw [List.getElem?_append_left (by rw [ws_len]; exact hi)]
      exact ws_at (List.getElem?_eq_getElem hi)
    have h4 := hD.1 _ _ _ _ h3 hat (by show b + (q - b) = q; omega)
    omega
  · omega
end
section
/-! ===== one instruction is right: its helpers ===== -/
theorem lc_ok {a d n k : Nat} (h1 : a ≤ 40) (h2 : 64 * (d + 1) + k ≤ n) : 8 + (a + 11) + (64 * d + k) ≤ n := by omega
theorem lc_2 {c d n k : Nat} (h1 : c ≤ k) (h2 : 64 * (d + 1) + k ≤ n) : c ≤ n := by omega
theorem gtb_all {ws : List Cond} (h : ∀ w ∈ ws, w ∈ gtb) : GoodIn gtb ws := fun w hw => ⟨h w hw, gtb_good (h w hw)⟩
theorem ev_pop_ok {y : Nat} {st As r : List Value} (h : ev_pop y st = some (As, r)) : st = As.reverse ++ r ∧ As.length = y := by
  unfold ev_pop at h
  obtain ⟨h1, h2⟩ := ev_if h
  cases h2
  refine ⟨by rw [List.reverse_reverse, List.take_append_drop], ?_⟩
  rw [List.length_reverse, List.length_take]
  exact Nat.min_eq_left h1
theorem ev_Wset {b : Nat} {en ac : Nat → Nat} {D : va_G} {s : State} {hp : List AE} {H H1 : Heap} {locs locs1 : List Loc} {k a : Nat} {x : AE} (w : ev_W b en ac D s hp H locs k) (hP1 : va_P D vwCl ((ev_ws b en ac hp).set a (b + a, ev_e b en ac x)) H1) (hS1 : va_S (ev_A b) s.heap H1 locs1) : ev_W b en ac D s (hp.set a x) H1 locs1 k := by
  rw [ws_set] at hP1
  exact ⟨hP1, hS1, by rw [List.length_set]; exact w.2.2⟩
theorem ev_Wnew {b : Nat} {en ac : Nat → Nat} {D : va_G} {s : State} {hp : List AE} {H H1 : Heap} {locs : List Loc} {k : Nat} {x : AE} (w : ev_W b en ac D s hp H locs k) (hP1 : va_P D vwCl (ev_ws b en ac hp ++ [(b + hp.length, ev_e b en ac x)]) H1) (hS1 : va_S (ev_A b) s.heap H1 locs) : ev_W b en ac D s (hp ++ [x]) H1 locs (k + 1) := by
  rw [← ws_push] at hP1
  refine ⟨hP1, hS1, ?_⟩
  rw [List.length_append, ← Nat.add_assoc, w.2.2]
  exact Nat.add_assoc _ _ _
theorem ev_Uof {b : Nat} {en ac : Nat → Nat} {D : va_G} {s U : State} {hp : List AE} {H : Heap} {locs : List Loc} {k : Nat} (w : ev_W b en ac D s hp H locs k) (hK : va_K D vwCl (ev_tys ac) s) (hE : ex_E b en s s.heap) (hz : H.size = b + hp.length) (hU : U.heap = H) (hW : s.WarmedH U.vm) : ev_U b en ac D hp U := by
  refine ⟨by rw [hU]; exact hz, by rw [hU]; exact w.1, va_K.moved hW.alike hK, ?_⟩
  rw [hU]
  exact ex_E_kept (ex_E_moved hW hE) w.2.1.2.1
theorem ev_gr {α : Type} (z : α) (n k : Nat) : (List.replicate n z).getD k z = z := by
  rw [List.getD_eq_getElem?_getD, List.getElem?_replicate]
  by_cases h : k < n
  · rw [if_pos h]; rfl
  · rw [if_neg h]; rfl
theorem ev_rep (b : Nat) (en ac : Nat → Nat) (t n : Nat) : ev_e b en ac (.inl (t, .inl (List.replicate n 0))) = .inl (ac t, n, .inl (fun _ => 0)) := by
  show (Sum.inl (ac t, (List.replicate n (0 : Int32)).length, Sum.inl (fun k => (List.replicate n (0 : Int32)).getD k 0)) : va_E) = _
  rw [List.length_replicate, show (fun k => (List.replicate n (0 : Int32)).getD k 0) = fun _ => 0 from funext (fun k => ev_gr 0 n k)]
theorem ev_repl (b : Nat) (en ac : Nat → Nat) (t n : Nat) : ev_e b en ac (.inl (t, .inr (.inl (List.replicate n 0)))) = .inl (ac t, n, .inr (.inl (fun _ => 0))) := by
  show (Sum.inl (ac t, (List.replicate n (0 : Int64)).length, Sum.inr (Sum.inl (fun k => (List.replicate n (0 : Int64)).getD k 0))) : va_E) = _
  rw [List.length_replicate, show (fun k => (List.replicate n (0 : Int64)).getD k 0) = fun _ => 0 from funext (fun k => ev_gr 0 n k)]
theorem ev_repr (b : Nat) (en ac : Nat → Nat) (t n : Nat) : ev_e b en ac (.inl (t, .inr (.inr (List.replicate n none)))) = .inl (ac t, n, .inr (.inr (.inr (.inr (fun _ => none))))) := by
  show (Sum.inl (ac t, (List.replicate n (none : Option Nat)).length, Sum.inr (Sum.inr (Sum.inr (Sum.inr (fun k => ((List.replicate n (none : Option Nat)).getD k none).map (fun i => if t = 4 then en i else b + i)))))) : va_E) = _
  rw [List.length_replicate, show (fun k => ((List.replicate n (none : Option Nat)).getD k none).map (fun i => if t = 4 then en i else b + i)) = fun _ => none from funext (fun k => by rw [ev_gr none n k]; rfl)]
section
variable {p : Program} {l : Launch} {e : Env} {R : Room} {s : State} {m : MethodId} {args : Array Value} {below : List Frame} {meth : Method} {c : Code} {Q : State → Prop} {H : Heap} {locs : List Loc} {b : Nat} {en ac : Nat → Nat} {D : va_G} {M : MT} {mi d : Nat} {res : ev_R}
/-- behind a call -/
theorem ev_aft {x pc k ks : Nat} {ls : Array Slot} {st0 rest : List Value} {L : List (Nat × Value)} {hp : List AE} {q : ev_R} {av : Array Value} {K : Nat → List (Nat × Value) → List Value → List AE → Nat → Nat → Option ev_R}
    (kk : ∀ pc L st hp k ks, K pc L st hp k ks = some res → ∀ H locs ls, ev_W b en ac D s hp H locs k → lv_has ls (mL M mi) (ev_L b en L) → W p l e R s m args below meth c H locs k ks Q (F0 m pc ls (st.map (ev_v b en))))
    (hr : va_Run p l e R s m args below meth c H locs k ks (mC M x) (mS M x) (F0 m pc ls st0) (rest.map (ev_v b en)) (ev_Q b en ac D (mC M x) q av) (ev_A b)) (w : ev_W b en ac D s hp H locs k) (hz : H.size = b + hp.length)
    (h2 : K (pc + 3) L (q.1.toList ++ rest) q.2 (k + mC M x) (ks + mS M x) = some res) (hl : lv_has ls (mL M mi) (ev_L b en L)) : W p l e R s m args below meth c H locs k ks Q (F0 m pc ls st0) := by
  refine ev_callG hr (fun v st₀ t Lc h0 hvm hL hq => ?_)
  obtain ⟨hv, ⟨hU1, hU2, hU3, hU4⟩, hF, hmc⟩ := hq
  cases hv
  have e1 : (q.1.map (ev_v b en)).toList ++ rest.map (ev_v b en) = (q.1.toList ++ rest).map (ev_v b en) := by
    cases q.1 <;> rfl
  rw [e1]
  have hF1 : H.size ≤ t.heap.size := by have h := hF.1; rw [h0] at h; exact h
  refine kk _ _ _ _ _ _ h2 _ _ _ ⟨hU2, ⟨Nat.le_trans w.2.1.1 hF1, fun q h1 h2 => ?_, fun z hz => (List.mem_append.mp hz).elim (w.2.1.2.2 z) (hL z)⟩, ?_⟩ hl
  · have h3 := hF.2 q (by rw [h0]; exact Nat.lt_of_lt_of_le h1 w.2.1.1) h2
    rw [h3, h0]
    exact w.2.1.2.1 q h1 h2
  · have h4 := w.2.2
    rw [h0] at hmc
    omega
theorem ev_call_V (hR : d + 4 ≤ R.frames ∧ 64 * (d + 1) + 256 ≤ R.locals ∧ mC M mi ≤ R.cells ∧ mS M mi ≤ R.slots) (hC : ex_C p s m args meth c b en ac D M mi) {x y pc idx k ks : Nat} {ls : Array Slot} {As rest : List Value} {L : List (Nat × Value)} {hp : List AE} {q : ev_R} {z : Nat} {fs : List Value} {K : Nat → List (Nat × Value) → List Value → List AE → Nat → Nat → Option ev_R}
    (kk : ∀ pc L st hp k ks, K pc L st hp k ks = some res → ∀ H locs ls, ev_W b en ac D s hp H locs k → lv_has ls (mL M mi) (ev_L b en L) → W p l e R s m args below meth c H locs k ks Q (F0 m pc ls (st.map (ev_v b en))))
    (hM : ev_M l b en ac D M d x (.ref z :: As) hp q) (hme : ev_me M x y = true) (hK12 : mK M x < 12) (hcls : (mY M x).cls = CN (mK M x)) (hlk : ev_all [.methodLink (mY M mi).cls idx (mY M x), .instanceMethod (mY M x), .selects (mY M x).cls (mY M x) (mY M x)] = true)
    (hob : hp[z]? = some (.inr (mK M x, fs))) (hn : As.length = y) (hroom : (rest.map fun v => v.category).sum ≤ 8) (hfit : k + mC M x ≤ mC M mi ∧ ks + mS M x ≤ mS M mi) (hdg : decode (mB M mi) pc = .ok (.invokevirtual idx, 3))
    (w : ev_W b en ac D s hp H locs k) (h2 : K (pc + 3) L (q.1.toList ++ rest) q.2 (k + mC M x) (ks + mS M x) = some res) (hl : lv_has ls (mL M mi) (ev_L b en L)) : W p l e R s m args below meth c H locs k ks Q (F0 m pc ls ((As.reverse ++ .ref z :: rest).map (ev_v b en))) := by
  obtain ⟨hx, hb, hml, hown, hts, hK, hE, hbs, hlocks, hret, hname⟩ := hC
  refine ev_sized (fun hz0 => ?_)
  have hz := ev_size w hbs hz0
  unfold ev_me at hme
  simp only [Bool.and_eq_true, decide_eq_true_eq] at hme
  obtain ⟨⟨⟨⟨⟨hmL, hme1⟩, hmh⟩, hvh⟩, hpar⟩, hplain⟩ := hme
  have hw := ev_all_ok hlk
  have hw1 := ev_all_ok hme1
  refine ev_aft (q := q) kk (va_runV (As := As.map (ev_v b en)) (rest := rest.map (ev_v b en)) (b := b + z) (C := (mY M x).cls) (n := y) ⟨hx, hb, hml, hown, hts⟩ hM (cwV y hts (gtb_all ?_) rfl rfl rfl ⟨rfl, hmh, hvh, hpar⟩ ⟨hR.1, ?_⟩) ⟨ev_U_blind, ?_, fun U hU hW => ⟨rfl, ev_Uof w hK hE hz hU hW⟩⟩ rfl (by rw [List.length_map]; exact hn) hl.1 ?_ (lv_room (by rw [ev_cats]; exact hroom)) hdg ⟨Nat.le_trans hfit.1 hR.2.2.1, Nat.le_trans hfit.2 hR.2.2.2⟩) w hz h2 hl
  · intro u hu
    rcases List.mem_append.mp hu with hu | hu
    · rcases List.mem_cons.mp hu with rfl | hu
      · exact hw _ (by simp)
      · rcases List.mem_cons.mp hu with rfl | hu
        · exact hw _ (by simp)
        · rcases List.mem_cons.mp hu with rfl | hu
          · exact hw _ (by simp)
          · rcases List.mem_cons.mp hu with rfl | hu
            · exact hw1 _ (by simp)
            · cases hu
    · rcases List.mem_cons.mp hu with rfl | hu
      · exact hw1 _ (by simp)
      · exact hu
  · exact lc_ok hmL hR.2.1
  · have h9 := va_recv hK w.1 (cl_at hK12) (ws_at hob)
    rw [hcls]
    exact h9
  · show (As.reverse ++ .ref z :: rest).map (ev_v b en) = (As.map (ev_v b en)).reverse ++ .ref (b + z) :: rest.map (ev_v b en)
    rw [List.map_append, List.map_reverse]
    rfl
theorem ev_call_I (hR : d + 4 ≤ R.frames ∧ 64 * (d + 1) + 256 ≤ R.locals ∧ mC M mi ≤ R.cells ∧ mS M mi ≤ R.slots) (hC : ex_C p s m args meth c b en ac D M mi) {x y pc idx k ks : Nat} {ls : Array Slot} {As rest : List Value} {L : List (Nat × Value)} {hp : List AE} {q : ev_R} {z : Nat} {K : Nat → List (Nat × Value) → List Value → List AE → Nat → Nat → Option ev_R}
    (kk : ∀ pc L st hp k ks, K pc L st hp k ks = some res → ∀ H locs ls, ev_W b en ac D s hp H locs k → lv_has ls (mL M mi) (ev_L b en L) → W p l e R s m args below meth c H locs k ks Q (F0 m pc ls (st.map (ev_v b en))))
    (hM : ev_M l b en ac D M d x (.ref z :: As) hp q) (hme : ev_me M x y = true) (hRn : mR M x = none) (hin : (mY M x).name = "<init>") (hlk : ev_all [.methodLink (mY M mi).cls idx (mY M x), .instanceMethod (mY M x)] = true)
    (hn : As.length = y) (hroom : (rest.map fun v => v.category).sum ≤ 8) (hfit : k + mC M x ≤ mC M mi ∧ ks + mS M x ≤ mS M mi) (hdg : decode (mB M mi) pc = .ok (.invokespecial idx, 3))
    (w : ev_W b en ac D s hp H locs k) (h2 : K (pc + 3) L (q.1.toList ++ rest) q.2 (k + mC M x) (ks + mS M x) = some res) (hl : lv_has ls (mL M mi) (ev_L b en L)) : W p l e R s m args below meth c H locs k ks Q (F0 m pc ls ((As.reverse ++ .ref z :: rest).map (ev_v b en))) := by
  obtain ⟨hx, hb, hml, hown, hts, hK, hE, hbs, hlocks, hret, hname⟩ := hC
  refine ev_sized (fun hz0 => ?_)
  have hz := ev_size w hbs hz0
  unfold ev_me at hme
  simp only [Bool.and_eq_true, decide_eq_true_eq] at hme
  obtain ⟨⟨⟨⟨⟨hmL, hme1⟩, hmh⟩, hvh⟩, hpar⟩, hplain⟩ := hme
  have hw := ev_all_ok hlk
  have hw1 := ev_all_ok hme1
  unfold ev_M at hM
  rw [hRn] at hM hw1
  refine ev_aft (q := q) kk (va_runI (As := As.map (ev_v b en)) (rest := rest.map (ev_v b en)) (b := b + z) (n := y) ⟨hx, hb, hml, hown, hts⟩ hM (cwI y hts (gtb_goodIn (hw1 _ (by simp))) rfl rfl rfl (hts _ (hw1 _ (by simp))) (hts _ (hw _ (by simp))) (hts _ (hw _ (by simp))) hin ⟨hmh, hvh, hpar⟩ ⟨hR.1, ?_⟩) ⟨ev_U_blind, fun U hU hW => ⟨rfl, ev_Uof w hK hE hz hU hW⟩⟩ rfl (by rw [List.length_map]; exact hn) hl.1 ?_ (lv_room (by rw [ev_cats]; exact hroom)) hdg ⟨Nat.le_trans hfit.1 hR.2.2.1, Nat.le_trans hfit.2 hR.2.2.2⟩) w hz h2 hl
  · exact lc_ok hmL hR.2.1
  · show (As.reverse ++ .ref z :: rest).map (ev_v b en) = (As.map (ev_v b en)).reverse ++ .ref (b + z) :: rest.map (ev_v b en)
    rw [List.map_append, List.map_reverse]
    rfl
theorem ev_call_S (hR : d + 4 ≤ R.frames ∧ 64 * (d + 1) + 256 ≤ R.locals ∧ mC M mi ≤ R.cells ∧ mS M mi ≤ R.slots) (hC : ex_C p s m args meth c b en ac D M mi) {x y pc idx k ks : Nat} {ls : Array Slot} {As rest : List Value} {L : List (Nat × Value)} {hp : List AE} {q : ev_R} {K : Nat → List (Nat × Value) → List Value → List AE → Nat → Nat → Option ev_R}
    (kk : ∀ pc L st hp k ks, K pc L st hp k ks = some res → ∀ H locs ls, ev_W b en ac D s hp H locs k → lv_has ls (mL M mi) (ev_L b en L) → W p l e R s m args below meth c H locs k ks Q (F0 m pc ls (st.map (ev_v b en))))
    (hM : ev_M l b en ac D M d x As hp q) (hme : ev_me M x y = true) (hlk : ev_all [.methodLink (mY M mi).cls idx (mY M x), .static (mY M x)] = true)
    (hn : As.length = y) (hroom : (rest.map fun v => v.category).sum ≤ 8) (hfit : k + mC M x ≤ mC M mi ∧ ks + mS M x ≤ mS M mi) (hdg : decode (mB M mi) pc = .ok (.invokestatic idx, 3))
    (w : ev_W b en ac D s hp H locs k) (h2 : K (pc + 3) L (q.1.toList ++ rest) q.2 (k + mC M x) (ks + mS M x) = some res) (hl : lv_has ls (mL M mi) (ev_L b en L)) : W p l e R s m args below meth c H locs k ks Q (F0 m pc ls ((As.reverse ++ rest).map (ev_v b en))) := by
  obtain ⟨hx, hb, hml, hown, hts, hK, hE, hbs, hlocks, hret, hname⟩ := hC
  refine ev_sized (fun hz0 => ?_)
  have hz := ev_size w hbs hz0
  unfold ev_me at hme
  simp only [Bool.and_eq_true, decide_eq_true_eq] at hme
  obtain ⟨⟨⟨⟨⟨hmL, hme1⟩, hmh⟩, hvh⟩, hpar⟩, hplain⟩ := hme
  have hw := ev_all_ok hlk
  have hw1 := ev_all_ok hme1
  refine ev_aft (q := q) kk (va_runS (As := As.map (ev_v b en)) (rest := rest.map (ev_v b en)) (n := y) ⟨hx, hb, hml, hown, hts⟩ hM (va_cwS y hts (gtb_all ?_) rfl rfl rfl ⟨hmh, hvh, hpar⟩ ⟨hR.1, ?_⟩) ⟨ev_U_blind, fun U hU hW => ⟨rfl, ev_Uof w hK hE hz hU hW⟩⟩ rfl (by rw [List.length_map]; exact hn) hl.1 ?_ (lv_room (by rw [ev_cats]; exact hroom)) hdg ⟨Nat.le_trans hfit.1 hR.2.2.1, Nat.le_trans hfit.2 hR.2.2.2⟩) w hz h2 hl
  · intro u hu
    rcases List.mem_append.mp hu with hu | hu
    · rcases List.mem_cons.mp hu with rfl | hu
      · exact hw _ (by simp)
      · rcases List.mem_cons.mp hu with rfl | hu
        · exact hw _ (by simp)
        · rcases List.mem_cons.mp hu with rfl | hu
          · exact hw1 _ (by simp)
          · cases hu
    · rcases List.mem_cons.mp hu with rfl | hu
      · exact hw1 _ (by simp)
      · exact hu
  · exact lc_ok hmL hR.2.1
  · show (As.reverse ++ rest).map (ev_v b en) = (As.map (ev_v b en)).reverse ++ rest.map (ev_v b en)
    rw [List.map_append, List.map_reverse]
/-- Enum.ordinal() of a constant -/
theorem ev_ord (l : Launch) {hp : List AE} {v : Nat} (hv : v < 32) : Met l ⟨"java/lang/Enum", "ordinal", "()I"⟩ (.code ⟨"java/lang/Enum", "ordinal", "()I"⟩ prog_19_method_2_code 1 (some .int) :: gtb) { frames := 0, cells := 0, slots := 0, locals := 0 } (va_Pc [.ref (en v)] (ev_U b en ac D hp)) (ev_Q b en ac D 0 (some (.int (Int32.ofNat v)), hp)) 0 0 (ev_A b) := by
  refine Met.ofW (cc := prog_19_method_2_code) (maxL := 1) (ret := some .int) (by decide) rfl ?_
  intro p e s m args below meth c s₁ B hml hq
  obtain ⟨rfl, hz, hP, hK, hE⟩ := hq
  have hx := B.exec
  have hb := B.bytes
  have hr := B.returns
  have hts := atoms_spec (ws := .code ⟨"java/lang/Enum", "ordinal", "()I"⟩ prog_19_method_2_code 1 (some .int) :: gtb) B.pre
  have hown : s.vm.findClass "java/lang/Enum" = some m.cls := findClass_of_methodNamed B.named
  have hlocks := B.notSynchronized
  have hl := lv_entry ([.ref (en v)]) (n := 1) (Nat.le_of_ble_eq_true rfl)
  rw [lg_entry_eq]
  generalize (lg_sl ([.ref (en v)]) ++ List.replicate (1 - (lg_sl ([.ref (en v)])).length) Slot.unset).toArray = ls at hl ⊢
  have hl : lv_has ls 1 [(0, .ref (en v))] := hl
  have hS : va_S (ev_A b) s.heap s.heap [] := va_S.rf
  refine lv_aload_n hx hb (show decode prog_19_method_2_code 0 = .ok (.aload_n 0, 1) by decide +kernel) rfl (lv_at hl 0 rfl) ?_
  refine va_getEc hx hb hE.1.1 hv hS hown (q := ("java/lang/Enum", "ordinal", "I", ev_or)) (List.mem_singleton.mpr rfl) (hts _ (List.mem_cons_of_mem _ (show Jvm.Cond.fieldLink "java/lang/Enum" 7 "java/lang/Enum" "ordinal" "I" ∈ gtb by decide +kernel))) (fun _ h9 => h9) (show decode prog_19_method_2_code 1 = .ok (.getfield 7, 3) by decide +kernel) ?_
  have ho : ev_or.getD v 0 = Int32.ofNat v := (show ∀ v, v < 32 → ev_or.getD v 0 = Int32.ofNat v by decide +kernel) v hv
  show W _ _ _ _ _ _ _ _ _ _ _ _ _ _ _ (F0 m 4 ls [.int (ev_or.getD v 0)])
  rw [ho]
  exact W.iret hx hb hr (fun t ht hW => ⟨rfl, ⟨by rw [ht]; exact hz, by rw [ht]; exact hP, va_K.moved hW.alike hK, by rw [ht]; exact ex_E_moved hW hE⟩, ⟨by rw [ht]; exact Nat.le_refl _, fun q h1 h2 => by rw [ht]⟩, hz⟩) (fun q h => by cases h) (show decode prog_19_method_2_code 4 = .ok (.ireturn, 1) by decide +kernel) hlocks
theorem ev_ordw : ev_all [.code ⟨"java/lang/Enum", "ordinal", "()I"⟩ prog_19_method_2_code 1 (some .int), .sameMethod "LeftAnswers$Word" "java/lang/Enum" "ordinal" "()I", .selects "LeftAnswers$Word" ⟨"LeftAnswers$Word", "ordinal", "()I"⟩ ⟨"java/lang/Enum", "ordinal", "()I"⟩, .instanceMethod ⟨"java/lang/Enum", "ordinal", "()I"⟩, .initialized "java/lang/Enum"] = true := by decide +kernel
theorem ev_call_O (hR : d + 4 ≤ R.frames ∧ 64 * (d + 1) + 256 ≤ R.locals ∧ mC M mi ≤ R.cells ∧ mS M mi ≤ R.slots) (hC : ex_C p s m args meth c b en ac D M mi) {v pc idx k ks : Nat} {ls : Array Slot} {rest : List Value} {L : List (Nat × Value)} {hp : List AE} {K : Nat → List (Nat × Value) → List Value → List AE → Nat → Nat → Option ev_R}
    (kk : ∀ pc L st hp k ks, K pc L st hp k ks = some res → ∀ H locs ls, ev_W b en ac D s hp H locs k → lv_has ls (mL M mi) (ev_L b en L) → W p l e R s m args below meth c H locs k ks Q (F0 m pc ls (st.map (ev_v b en))))
    (hv : v < 32) (hfit : k ≤ mC M mi ∧ ks ≤ mS M mi) (hlk : ev_all [.methodLink (mY M mi).cls idx ⟨"LeftAnswers$Word", "ordinal", "()I"⟩] = true) (hroom : (rest.map fun v => v.category).sum ≤ 8) (hdg : decode (mB M mi) pc = .ok (.invokevirtual idx, 3))
    (w : ev_W b en ac D s hp H locs k) (h2 : K (pc + 3) L (.int (Int32.ofNat v) :: rest) hp k ks = some res) (hl : lv_has ls (mL M mi) (ev_L b en L)) : W p l e R s m args below meth c H locs k ks Q (F0 m pc ls ((.retAddr v :: rest).map (ev_v b en))) := by
  obtain ⟨hx, hb, hml, hown, hts, hK, hE, hbs, hlocks, hret, hname⟩ := hC
  refine ev_sized (fun hz0 => ?_)
  have hz := ev_size w hbs hz0
  have hw := ev_all_ok hlk
  have hw1 := ev_all_ok ev_ordw
  have hrun := va_runU (p := p) (e := e) (m := m) (below := below) (meth := meth) (c := c) (locs := locs) (cells := k) (slots := ks) (g := F0 m pc ls ((.retAddr v :: rest).map (ev_v b en))) (R := R) (As := []) (rest := rest.map (ev_v b en)) (b := en v) (C := "LeftAnswers$Word") (owner := "java/lang/Enum") (n := 0) (H := H) (own := (mY M mi).cls) (index := idx) ⟨hx, hb, hml, hown, hts⟩ (ev_ord (b := b) (en := en) (ac := ac) (D := D) l (hp := hp) hv) (va_cwU (x := ⟨"LeftAnswers$Word", "ordinal", "()I"⟩) 0 hts (gtb_all ?_) rfl rfl rfl rfl ⟨by decide, by decide, by decide +kernel⟩ ⟨Nat.le_trans (Nat.le_add_left 1 (d + 3)) hR.1, ?_⟩) ⟨ev_U_blind, va_recvEc hE.1.1 hv w.2.1, fun U hU hW => ⟨rfl, ev_Uof w hK hE hz hU hW⟩⟩ rfl rfl hl.1 rfl (lv_room (by rw [ev_cats]; exact hroom)) hdg ⟨Nat.le_trans hfit.1 hR.2.2.1, Nat.le_trans hfit.2 hR.2.2.2⟩
  · refine ev_callG hrun (fun v' st₀ t Lc h0 hvm hL hq => ?_)
    obtain ⟨hv', ⟨hU1, hU2, hU3, hU4⟩, hF, hmc⟩ := hq
    cases hv'
    have hF1 : H.size ≤ t.heap.size := by have h := hF.1; rw [h0] at h; exact h
    refine kk _ _ _ _ _ _ h2 _ _ _ ⟨hU2, ⟨Nat.le_trans w.2.1.1 hF1, fun q h1 h2 => ?_, fun z hz => (List.mem_append.mp hz).elim (w.2.1.2.2 z) (hL z)⟩, w.2.2⟩ hl
    have h3 := hF.2 q (by rw [h0]; exact Nat.lt_of_lt_of_le h1 w.2.1.1) h2
    rw [h3, h0]
    exact w.2.1.2.1 q h1 h2
  · intro u hu
    rcases List.mem_append.mp hu with hu | hu
    · rcases List.mem_cons.mp hu with rfl | hu
      · exact hw _ (by simp)
      · exact hw1 u (List.mem_cons_of_mem _ hu)
    · rcases List.mem_cons.mp hu with rfl | hu
      · exact hw1 _ List.mem_cons_self
      · exact hu
  · show 8 + (1 + 11) + 0 ≤ R.locals
    have := hR.2.1
    omega
end
end
