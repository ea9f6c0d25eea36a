/-! ===== one instruction is right: its helpers ===== -/
theorem lc_ok {a d n k : Nat} (h1 : a ≤ 40) (h2 : 64 * (d + 1) + k ≤ n) : 8 + (a + 11) + (64 * d + k) ≤ n := by omega
theorem lc_2 {c d n k : Nat} (h1 : c ≤ k) (h2 : 64 * (d + 1) + k ≤ n) : c ≤ n := by omega
theorem gtb_all {ws : List Cond} (h : ∀ w ∈ ws, w ∈ gtb) : GoodIn gtb ws := fun w hw => ⟨h w hw, gtb_good (h w hw)⟩
theorem ev_pop_ok {y : Nat} {st As r : List Value} (h : ev_pop y st = some (As, r)) : st = As.reverse ++ r ∧ As.length = y := by
  unfold ev_pop at h
  obtain ⟨h1, h2⟩ := ev_if h
  cases h2
  refine ⟨by rw [List.reverse_reverse, List.take_append_drop], ?_⟩
  rw [List.length_reverse, List.length_take]
  exact Nat.min_eq_left h1
theorem ev_Wset {b : Nat} {en ac : Nat → Nat} {D : va_G} {s : State} {hp : List AE} {H H1 : Heap} {locs locs1 : List Loc} {k a : Nat} {x : AE} (w : ev_W b en ac D s hp H locs k) (hP1 : va_P D vwCl ((ev_ws b en ac hp).set a (b + a, ev_e b en ac x)) H1) (hS1 : va_S (ev_A b) s.heap H1 locs1) : ev_W b en ac D s (hp.set a x) H1 locs1 k := by
  rw [ws_set] at hP1
  exact ⟨hP1, hS1, by rw [List.length_set]; exact w.2.2⟩
theorem ev_Wnew {b : Nat} {en ac : Nat → Nat} {D : va_G} {s : State} {hp : List AE} {H H1 : Heap} {locs : List Loc} {k : Nat} {x : AE} (w : ev_W b en ac D s hp H locs k) (hP1 : va_P D vwCl (ev_ws b en ac hp ++ [(b + hp.length, ev_e b en ac x)]) H1) (hS1 : va_S (ev_A b) s.heap H1 locs) : ev_W b en ac D s (hp ++ [x]) H1 locs (k + 1) := by
  rw [← ws_push] at hP1
  refine ⟨hP1, hS1, ?_⟩
  rw [List.length_append, ← Nat.add_assoc, w.2.2]
  exact Nat.add_assoc _ _ _
theorem ev_Uof {b : Nat} {en ac : Nat → Nat} {D : va_G} {s U : State} {hp : List AE} {H : Heap} {locs : List Loc} {k : Nat} (w : ev_W b en ac D s hp H locs k) (hK : va_K D vwCl (ev_tys ac) s) (hE : ex_E b en s s.heap) (hz : H.size = b + hp.length) (hU : U.heap = H) (hW : s.WarmedH U.vm) : ev_U b en ac D hp U := by
  refine ⟨by rw [hU]; exact hz, by rw [hU]; exact w.1, va_K.moved hW.alike hK, ?_⟩
  rw [hU]
  exact ex_E_kept (ex_E_moved hW hE) w.2.1.2.1
theorem ev_gr {α : Type} (z : α) (n k : Nat) : (List.replicate n z).getD k z = z := by
  rw [List.getD_eq_getElem?_getD, List.getElem?_replicate]
  by_cases h : k < n
  · rw [if_pos h]; rfl
  · rw [if_neg h]; rfl
theorem ev_rep (b : Nat) (en ac : Nat → Nat) (t n : Nat) : ev_e b en ac (.inl (t, .inl (List.replicate n 0))) = .inl (ac t, n, .inl (fun _ => 0)) := by
  show (Sum.inl (ac t, (List.replicate n (0 : Int32)).length, Sum.inl (fun k => (List.replicate n (0 : Int32)).getD k 0)) : va_E) = _
  rw [List.length_replicate, show (fun k => (List.replicate n (0 : Int32)).getD k 0) = fun _ => 0 from funext (fun k => ev_gr 0 n k)]
theorem ev_repl (b : Nat) (en ac : Nat → Nat) (t n : Nat) : ev_e b en ac (.inl (t, .inr (.inl (List.replicate n 0)))) = .inl (ac t, n, .inr (.inl (fun _ => 0))) := by
  show (Sum.inl (ac t, (List.replicate n (0 : Int64)).length, Sum.inr (Sum.inl (fun k => (List.replicate n (0 : Int64)).getD k 0))) : va_E) = _
  rw [List.length_replicate, show (fun k => (List.replicate n (0 : Int64)).getD k 0) = fun _ => 0 from funext (fun k => ev_gr 0 n k)]
theorem ev_repr (b : Nat) (en ac : Nat → Nat) (t n : Nat) : ev_e b en ac (.inl (t, .inr (.inr (List.replicate n none)))) = .inl (ac t, n, .inr (.inr (.inr (.inr (fun _ => none))))) := by
  show (Sum.inl (ac t, (List.replicate n (none : Option Nat)).length, Sum.inr (Sum.inr (Sum.inr (Sum.inr (fun k => ((List.replicate n (none : Option Nat)).getD k none).map (fun i => if t = 4 then en i else b + i)))))) : va_E) = _
  rw [List.length_replicate, show (fun k => ((List.replicate n (none : Option Nat)).getD k none).map (fun i => if t = 4 then en i else b + i)) = fun _ => none from funext (fun k => by rw [ev_gr none n k]; rfl)]
section
variable {p : Program} {l : Launch} {e : Env} {R : Room} {s : State} {m : MethodId} {args : Array Value} {below : List Frame} {meth : Method} {c : Code} {Q : State → Prop} {H : Heap} {locs : List Loc} {b : Nat} {en ac : Nat → Nat} {D : va_G} {M : MT} {mi d : Nat} {res : ev_R}
/-- behind a call -/
theorem ev_aft {x pc k ks : Nat} {ls : Array Slot} {st0 rest : List Value} {L : List (Nat × Value)} {hp : List AE} {q : ev_R} {av : Array Value} {K : Nat → List (Nat × Value) → List Value → List AE → Nat → Nat → Option ev_R}
    (kk : ∀ pc L st hp k ks, K pc L st hp k ks = some res → ∀ H locs ls, ev_W b en ac D s hp H locs k → lv_has ls (mL M mi) (ev_L b en L) → W p l e R s m args below meth c H locs k ks Q (F0 m pc ls (st.map (ev_v b en))))
    (hr : va_Run p l e R s m args below meth c H locs k ks (mC M x) (mS M x) (F0 m pc ls st0) (rest.map (ev_v b en)) (ev_Q b en ac D (mC M x) q av) (ev_A b)) (w : ev_W b en ac D s hp H locs k) (hz : H.size = b + hp.length)
    (h2 : K (pc + 3) L (q.1.toList ++ rest) q.2 (k + mC M x) (ks + mS M x) = some res) (hl : lv_has ls (mL M mi) (ev_L b en L)) : W p l e R s m args below meth c H locs k ks Q (F0 m pc ls st0) := by
  refine ev_callG hr (fun v st₀ t Lc h0 hvm hL hq => ?_)
  obtain ⟨hv, ⟨hU1, hU2, hU3, hU4⟩, hF, hmc⟩ := hq
  cases hv
  have e1 : (q.1.map (ev_v b en)).toList ++ rest.map (ev_v b en) = (q.1.toList ++ rest).map (ev_v b en) := by
    cases q.1 <;> rfl
  rw [e1]
  have hF1 : H.size ≤ t.heap.size := by have h := hF.1; rw [h0] at h; exact h
  refine kk _ _ _ _ _ _ h2 _ _ _ ⟨hU2, ⟨Nat.le_trans w.2.1.1 hF1, fun q h1 h2 => ?_, fun z hz => (List.mem_append.mp hz).elim (w.2.1.2.2 z) (hL z)⟩, ?_⟩ hl
  · have h3 := hF.2 q (by rw [h0]; exact Nat.lt_of_lt_of_le h1 w.2.1.1) h2
    rw [h3, h0]
    exact w.2.1.2.1 q h1 h2
  · have h4 := w.2.2
    rw [h0] at hmc
    omega
theorem ev_call_V (hR : d + 4 ≤ R.frames ∧ 64 * (d + 1) + 256 ≤ R.locals ∧ mC M mi ≤ R.cells ∧ mS M mi ≤ R.slots) (hC : ex_C p s m args meth c b en ac D M mi) {x y pc idx k ks : Nat} {ls : Array Slot} {As rest : List Value} {L : List (Nat × Value)} {hp : List AE} {q : ev_R} {z : Nat} {fs : List Value} {K : Nat → List (Nat × Value) → List Value → List AE → Nat → Nat → Option ev_R}
    (kk : ∀ pc L st hp k ks, K pc L st hp k ks = some res → ∀ H locs ls, ev_W b en ac D s hp H locs k → lv_has ls (mL M mi) (ev_L b en L) → W p l e R s m args below meth c H locs k ks Q (F0 m pc ls (st.map (ev_v b en))))
    (hM : ev_M l b en ac D M d x (.ref z :: As) hp q) (hme : ev_me M x y = true) (hK12 : mK M x < 12) (hcls : (mY M x).cls = CN (mK M x)) (hlk : ev_all [.methodLink (mY M mi).cls idx (mY M x), .instanceMethod (mY M x), .selects (mY M x).cls (mY M x) (mY M x)] = true)
    (hob : hp[z]? = some (.inr (mK M x, fs))) (hn : As.length = y) (hroom : (rest.map fun v => v.category).sum ≤ 8) (hfit : k + mC M x ≤ mC M mi ∧ ks + mS M x ≤ mS M mi) (hdg : decode (mB M mi) pc = .ok (.invokevirtual idx, 3))
    (w : ev_W b en ac D s hp H locs k) (h2 : K (pc + 3) L (q.1.toList ++ rest) q.2 (k + mC M x) (ks + mS M x) = some res) (hl : lv_has ls (mL M mi) (ev_L b en L)) : W p l e R s m args below meth c H locs k ks Q (F0 m pc ls ((As.reverse ++ .ref z :: rest).map (ev_v b en))) := by
  obtain ⟨hx, hb, hml, hown, hts, hK, hE, hbs, hlocks, hret, hname⟩ := hC
  refine ev_sized (fun hz0 => ?_)
  have hz := ev_size w hbs hz0
  unfold ev_me at hme
  simp only [Bool.and_eq_true, decide_eq_true_eq] at hme
  obtain ⟨⟨⟨⟨⟨hmL, hme1⟩, hmh⟩, hvh⟩, hpar⟩, hplain⟩ := hme
  have hw := ev_all_ok hlk
  have hw1 := ev_all_ok hme1
  refine ev_aft (q := q) kk (va_runV (As := As.map (ev_v b en)) (rest := rest.map (ev_v b en)) (b := b + z) (C := (mY M x).cls) (n := y) ⟨hx, hb, hml, hown, hts⟩ hM (cwV y hts (gtb_all ?_) rfl rfl rfl ⟨rfl, hmh, hvh, hpar⟩ ⟨hR.1, ?_⟩) ⟨ev_U_blind, ?_, fun U hU hW => ⟨rfl, ev_Uof w hK hE hz hU hW⟩⟩ rfl (by rw [List.length_map]; exact hn) hl.1 ?_ (lv_room (by rw [ev_cats]; exact hroom)) hdg ⟨Nat.le_trans hfit.1 hR.2.2.1, Nat.le_trans hfit.2 hR.2.2.2⟩) w hz h2 hl
  · intro u hu
    rcases List.mem_append.mp hu with hu | hu
    · rcases List.mem_cons.mp hu with rfl | hu
      · exact hw _ (by simp)
      · rcases List.mem_cons.mp hu with rfl | hu
        · exact hw _ (by simp)
        · rcases List.mem_cons.mp hu with rfl | hu
          · exact hw _ (by simp)
          · rcases List.mem_cons.mp hu with rfl | hu
            · exact hw1 _ (by simp)
            · cases hu
    · rcases List.mem_cons.mp hu with rfl | hu
      · exact hw1 _ (by simp)
      · exact hu
  · exact lc_ok hmL hR.2.1
  · have h9 := va_recv hK w.1 (cl_at hK12) (ws_at hob)
    rw [hcls]
    exact h9
  · show (As.reverse ++ .ref z :: rest).map (ev_v b en) = (As.map (ev_v b en)).reverse ++ .ref (b + z) :: rest.map (ev_v b en)
    rw [List.map_append, List.map_reverse]
    rfl
theorem ev_call_I (hR : d + 4 ≤ R.frames ∧ 64 * (d + 1) + 256 ≤ R.locals ∧ mC M mi ≤ R.cells ∧ mS M mi ≤ R.slots) (hC : ex_C p s m args meth c b en ac D M mi) {x y pc idx k ks : Nat} {ls : Array Slot} {As rest : List Value} {L : List (Nat × Value)} {hp : List AE} {q : ev_R} {z : Nat} {K : Nat → List (Nat × Value) → List Value → List AE → Nat → Nat → Option ev_R}
    (kk : ∀ pc L st hp k ks, K pc L st hp k ks = some res → ∀ H locs ls, ev_W b en ac D s hp H locs k → lv_has ls (mL M mi) (ev_L b en L) → W p l e R s m args below meth c H locs k ks Q (F0 m pc ls (st.map (ev_v b en))))
    (hM : ev_M l b en ac D M d x (.ref z :: As) hp q) (hme : ev_me M x y = true) (hRn : mR M x = none) (hin : (mY M x).name = "<init>") (hlk : ev_all [.methodLink (mY M mi).cls idx (mY M x), .instanceMethod (mY M x)] = true)
    (hn : As.length = y) (hroom : (rest.map fun v => v.category).sum ≤ 8) (hfit : k + mC M x ≤ mC M mi ∧ ks + mS M x ≤ mS M mi) (hdg : decode (mB M mi) pc = .ok (.invokespecial idx, 3))
    (w : ev_W b en ac D s hp H locs k) (h2 : K (pc + 3) L (q.1.toList ++ rest) q.2 (k + mC M x) (ks + mS M x) = some res) (hl : lv_has ls (mL M mi) (ev_L b en L)) : W p l e R s m args below meth c H locs k ks Q (F0 m pc ls ((As.reverse ++ .ref z :: rest).map (ev_v b en))) := by
  obtain ⟨hx, hb, hml, hown, hts, hK, hE, hbs, hlocks, hret, hname⟩ := hC
  refine ev_sized (fun hz0 => ?_)
  have hz := ev_size w hbs hz0
  unfold ev_me at hme
  simp only [Bool.and_eq_true, decide_eq_true_eq] at hme
  obtain ⟨⟨⟨⟨⟨hmL, hme1⟩, hmh⟩, hvh⟩, hpar⟩, hplain⟩ := hme
  have hw := ev_all_ok hlk
  have hw1 := ev_all_ok hme1
  unfold ev_M at hM
  rw [hRn] at hM hw1
  refine ev_aft (q := q) kk (va_runI (As := As.map (ev_v b en)) (rest := rest.map (ev_v b en)) (b := b + z) (n := y) ⟨hx, hb, hml, hown, hts⟩ hM (cwI y hts (gtb_goodIn (hw1 _ (by simp))) rfl rfl rfl (hts _ (hw1 _ (by simp))) (hts _ (hw _ (by simp))) (hts _ (hw _ (by simp))) hin ⟨hmh, hvh, hpar⟩ ⟨hR.1, ?_⟩) ⟨ev_U_blind, fun U hU hW => ⟨rfl, ev_Uof w hK hE hz hU hW⟩⟩ rfl (by rw [List.length_map]; exact hn) hl.1 ?_ (lv_room (by rw [ev_cats]; exact hroom)) hdg ⟨Nat.le_trans hfit.1 hR.2.2.1, Nat.le_trans hfit.2 hR.2.2.2⟩) w hz h2 hl
  · exact lc_ok hmL hR.2.1
  · show (As.reverse ++ .ref z :: rest).map (ev_v b en) = (As.map (ev_v b en)).reverse ++ .ref (b + z) :: rest.map (ev_v b en)
    rw [List.map_append, List.map_reverse]
    rfl
theorem ev_call_S (hR : d + 4 ≤ R.frames ∧ 64 * (d + 1) + 256 ≤ R.locals ∧ mC M mi ≤ R.cells ∧ mS M mi ≤ R.slots) (hC : ex_C p s m args meth c b en ac D M mi) {x y pc idx k ks : Nat} {ls : Array Slot} {As rest : List Value} {L : List (Nat × Value)} {hp : List AE} {q : ev_R} {K : Nat → List (Nat × Value) → List Value → List AE → Nat → Nat → Option ev_R}
    (kk : ∀ pc L st hp k ks, K pc L st hp k ks = some res → ∀ H locs ls, ev_W b en ac D s hp H locs k → lv_has ls (mL M mi) (ev_L b en L) → W p l e R s m args below meth c H locs k ks Q (F0 m pc ls (st.map (ev_v b en))))
    (hM : ev_M l b en ac D M d x As hp q) (hme : ev_me M x y = true) (hlk : ev_all [.methodLink (mY M mi).cls idx (mY M x), .static (mY M x)] = true)
    (hn : As.length = y) (hroom : (rest.map fun v => v.category).sum ≤ 8) (hfit : k + mC M x ≤ mC M mi ∧ ks + mS M x ≤ mS M mi) (hdg : decode (mB M mi) pc = .ok (.invokestatic idx, 3))
    (w : ev_W b en ac D s hp H locs k) (h2 : K (pc + 3) L (q.1.toList ++ rest) q.2 (k + mC M x) (ks + mS M x) = some res) (hl : lv_has ls (mL M mi) (ev_L b en L)) : W p l e R s m args below meth c H locs k ks Q (F0 m pc ls ((As.reverse ++ rest).map (ev_v b en))) := by
  obtain ⟨hx, hb, hml, hown, hts, hK, hE, hbs, hlocks, hret, hname⟩ := hC
  refine ev_sized (fun hz0 => ?_)
  have hz := ev_size w hbs hz0
  unfold ev_me at hme
  simp only [Bool.and_eq_true, decide_eq_true_eq] at hme
  obtain ⟨⟨⟨⟨⟨hmL, hme1⟩, hmh⟩, hvh⟩, hpar⟩, hplain⟩ := hme
  have hw := ev_all_ok hlk
  have hw1 := ev_all_ok hme1
  refine ev_aft (q := q) kk (va_runS (As := As.map (ev_v b en)) (rest := rest.map (ev_v b en)) (n := y) ⟨hx, hb, hml, hown, hts⟩ hM (va_cwS y hts (gtb_all ?_) rfl rfl rfl ⟨hmh, hvh, hpar⟩ ⟨hR.1, ?_⟩) ⟨ev_U_blind, fun U hU hW => ⟨rfl, ev_Uof w hK hE hz hU hW⟩⟩ rfl (by rw [List.length_map]; exact hn) hl.1 ?_ (lv_room (by rw [ev_cats]; exact hroom)) hdg ⟨Nat.le_trans hfit.1 hR.2.2.1, Nat.le_trans hfit.2 hR.2.2.2⟩) w hz h2 hl
  · intro u hu
    rcases List.mem_append.mp hu with hu | hu
    · rcases List.mem_cons.mp hu with rfl | hu
      · exact hw _ (by simp)
      · rcases List.mem_cons.mp hu with rfl | hu
        · exact hw _ (by simp)
        · rcases List.mem_cons.mp hu with rfl | hu
          · exact hw1 _ (by simp)
          · cases hu
    · rcases List.mem_cons.mp hu with rfl | hu
      · exact hw1 _ (by simp)
      · exact hu
  · exact lc_ok hmL hR.2.1
  · show (As.reverse ++ rest).map (ev_v b en) = (As.map (ev_v b en)).reverse ++ rest.map (ev_v b en)
    rw [List.map_append, List.map_reverse]
/-- Enum.ordinal() of a constant -/
theorem ev_ord (l : Launch) {hp : List AE} {v : Nat} (hv : v < 32) : Met l ⟨"java/lang/Enum", "ordinal", "()I"⟩ (.code ⟨"java/lang/Enum", "ordinal", "()I"⟩ prog_19_method_2_code 1 (some .int) :: gtb) { frames := 0, cells := 0, slots := 0, locals := 0 } (va_Pc [.ref (en v)] (ev_U b en ac D hp)) (ev_Q b en ac D 0 (some (.int (Int32.ofNat v)), hp)) 0 0 (ev_A b) := by
  refine Met.ofW (cc := prog_19_method_2_code) (maxL := 1) (ret := some .int) (by decide) rfl ?_
  intro p e s m args below meth c s₁ B hml hq
  obtain ⟨rfl, hz, hP, hK, hE⟩ := hq
  have hx := B.exec
  have hb := B.bytes
  have hr := B.returns
  have hts := atoms_spec (ws := .code ⟨"java/lang/Enum", "ordinal", "()I"⟩ prog_19_method_2_code 1 (some .int) :: gtb) B.pre
  have hown : s.vm.findClass "java/lang/Enum" = some m.cls := findClass_of_methodNamed B.named
  have hlocks := B.notSynchronized
  have hl := lv_entry ([.ref (en v)]) (n := 1) (Nat.le_of_ble_eq_true rfl)
  rw [lg_entry_eq]
  generalize (lg_sl ([.ref (en v)]) ++ List.replicate (1 - (lg_sl ([.ref (en v)])).length) Slot.unset).toArray = ls at hl ⊢
  have hl : lv_has ls 1 [(0, .ref (en v))] := hl
  have hS : va_S (ev_A b) s.heap s.heap [] := va_S.rf
  refine lv_aload_n hx hb (show decode prog_19_method_2_code 0 = .ok (.aload_n 0, 1) by decide +kernel) rfl (lv_at hl 0 rfl) ?_
  refine va_getEc hx hb hE.1.1 hv hS hown (q := ("java/lang/Enum", "ordinal", "I", ev_or)) (List.mem_singleton.mpr rfl) (hts _ (List.mem_cons_of_mem _ (show Jvm.Cond.fieldLink "java/lang/Enum" 7 "java/lang/Enum" "ordinal" "I" ∈ gtb by decide +kernel))) (fun _ h9 => h9) (show decode prog_19_method_2_code 1 = .ok (.getfield 7, 3) by decide +kernel) ?_
  have ho : ev_or.getD v 0 = Int32.ofNat v := (show ∀ v, v < 32 → ev_or.getD v 0 = Int32.ofNat v by decide +kernel) v hv
  show W _ _ _ _ _ _ _ _ _ _ _ _ _ _ _ (F0 m 4 ls [.int (ev_or.getD v 0)])
  rw [ho]
  exact W.iret hx hb hr (fun t ht hW => ⟨rfl, ⟨by rw [ht]; exact hz, by rw [ht]; exact hP, va_K.moved hW.alike hK, by rw [ht]; exact ex_E_moved hW hE⟩, ⟨by rw [ht]; exact Nat.le_refl _, fun q h1 h2 => by rw [ht]⟩, hz⟩) (fun q h => by cases h) (show decode prog_19_method_2_code 4 = .ok (.ireturn, 1) by decide +kernel) hlocks
theorem ev_ordw : ev_all [.code ⟨"java/lang/Enum", "ordinal", "()I"⟩ prog_19_method_2_code 1 (some .int), .sameMethod "LeftAnswers$Word" "java/lang/Enum" "ordinal" "()I", .selects "LeftAnswers$Word" ⟨"LeftAnswers$Word", "ordinal", "()I"⟩ ⟨"java/lang/Enum", "ordinal", "()I"⟩, .instanceMethod ⟨"java/lang/Enum", "ordinal", "()I"⟩, .initialized "java/lang/Enum"] = true := by decide +kernel
theorem ev_call_O (hR : d + 4 ≤ R.frames ∧ 64 * (d + 1) + 256 ≤ R.locals ∧ mC M mi ≤ R.cells ∧ mS M mi ≤ R.slots) (hC : ex_C p s m args meth c b en ac D M mi) {v pc idx k ks : Nat} {ls : Array Slot} {rest : List Value} {L : List (Nat × Value)} {hp : List AE} {K : Nat → List (Nat × Value) → List Value → List AE → Nat → Nat → Option ev_R}
    (kk : ∀ pc L st hp k ks, K pc L st hp k ks = some res → ∀ H locs ls, ev_W b en ac D s hp H locs k → lv_has ls (mL M mi) (ev_L b en L) → W p l e R s m args below meth c H locs k ks Q (F0 m pc ls (st.map (ev_v b en))))
    (hv : v < 32) (hfit : k ≤ mC M mi ∧ ks ≤ mS M mi) (hlk : ev_all [.methodLink (mY M mi).cls idx ⟨"LeftAnswers$Word", "ordinal", "()I"⟩] = true) (hroom : (rest.map fun v => v.category).sum ≤ 8) (hdg : decode (mB M mi) pc = .ok (.invokevirtual idx, 3))
    (w : ev_W b en ac D s hp H locs k) (h2 : K (pc + 3) L (.int (Int32.ofNat v) :: rest) hp k ks = some res) (hl : lv_has ls (mL M mi) (ev_L b en L)) : W p l e R s m args below meth c H locs k ks Q (F0 m pc ls ((.retAddr v :: rest).map (ev_v b en))) := by
  obtain ⟨hx, hb, hml, hown, hts, hK, hE, hbs, hlocks, hret, hname⟩ := hC
  refine ev_sized (fun hz0 => ?_)
  have hz := ev_size w hbs hz0
  have hw := ev_all_ok hlk
  have hw1 := ev_all_ok ev_ordw
  have hrun := va_runU (p := p) (e := e) (m := m) (below := below) (meth := meth) (c := c) (locs := locs) (cells := k) (slots := ks) (g := F0 m pc ls ((.retAddr v :: rest).map (ev_v b en))) (R := R) (As := []) (rest := rest.map (ev_v b en)) (b := en v) (C := "LeftAnswers$Word") (owner := "java/lang/Enum") (n := 0) (H := H) (own := (mY M mi).cls) (index := idx) ⟨hx, hb, hml, hown, hts⟩ (ev_ord (b := b) (en := en) (ac := ac) (D := D) l (hp := hp) hv) (va_cwU (x := ⟨"LeftAnswers$Word", "ordinal", "()I"⟩) 0 hts (gtb_all ?_) rfl rfl rfl rfl ⟨by decide, by decide, by decide +kernel⟩ ⟨Nat.le_trans (Nat.le_add_left 1 (d + 3)) hR.1, ?_⟩) ⟨ev_U_blind, va_recvEc hE.1.1 hv w.2.1, fun U hU hW => ⟨rfl, ev_Uof w hK hE hz hU hW⟩⟩ rfl rfl hl.1 rfl (lv_room (by rw [ev_cats]; exact hroom)) hdg ⟨Nat.le_trans hfit.1 hR.2.2.1, Nat.le_trans hfit.2 hR.2.2.2⟩
  · refine ev_callG hrun (fun v' st₀ t Lc h0 hvm hL hq => ?_)
    obtain ⟨hv', ⟨hU1, hU2, hU3, hU4⟩, hF, hmc⟩ := hq
    cases hv'
    have hF1 : H.size ≤ t.heap.size := by have h := hF.1; rw [h0] at h; exact h
    refine kk _ _ _ _ _ _ h2 _ _ _ ⟨hU2, ⟨Nat.le_trans w.2.1.1 hF1, fun q h1 h2 => ?_, fun z hz => (List.mem_append.mp hz).elim (w.2.1.2.2 z) (hL z)⟩, w.2.2⟩ hl
    have h3 := hF.2 q (by rw [h0]; exact Nat.lt_of_lt_of_le h1 w.2.1.1) h2
    rw [h3, h0]
    exact w.2.1.2.1 q h1 h2
  · intro u hu
    rcases List.mem_append.mp hu with hu | hu
    · rcases List.mem_cons.mp hu with rfl | hu
      · exact hw _ (by simp)
      · exact hw1 u (List.mem_cons_of_mem _ hu)
    · rcases List.mem_cons.mp hu with rfl | hu
      · exact hw1 _ List.mem_cons_self
      · exact hu
  · show 8 + (1 + 11) + 0 ≤ R.locals
    have := hR.2.1
    omega
end
