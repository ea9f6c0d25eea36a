/-! ===== person throws, and the law's own person catches it ===== -/
def ev_hE : List AE := ev_hB ++ [.inr (12, [])]
def pe_T (b : Nat) (U : State) (H : Heap) : Prop := vx_Zq Bundle.tN "UNASSIGNED_STACK" Bundle.steD (ev_A b) U H ∧ vx_Zq Bundle.tN "SUPPRESSED_SENTINEL" Bundle.listD (ev_A b) U H ∧ (∃ sa, vk_R "LeftAnswers" 136 "no such person or question" sa U) ∧ va_Nw (.castable peE peE) U ∧ va_Nw (.declares (Bundle.initS peR)) U ∧ va_Nw (.declares (Bundle.initS "java/lang/Exception")) U ∧ va_Nw (.declares (Bundle.initS Bundle.tN)) U
theorem pe_T.kept {b : Nat} {U : State} {H H1 : Heap} (h : pe_T b U H) (hq : ∀ a : Nat, a < H.size → ¬ ev_A b a → H1[a]? = H[a]?) : pe_T b U H1 := ⟨vx_Zq.kept h.1 hq, vx_Zq.kept h.2.1 hq, h.2.2⟩
theorem pe_T.warm {b : Nat} {u U : State} {H : Heap} (hW : u.WarmedH U.vm) (h : pe_T b u H) : pe_T b U H := by
  obtain ⟨h1, h2, ⟨sa, h3⟩, h4, h5, h6, h7⟩ := h
  exact ⟨vx_Zq.moved hW.alike h1, vx_Zq.moved hW.alike h2, ⟨sa, vk_R.warm hW h3⟩, va_Nw.warmC hW h4, va_Nw.warmD hW h5, va_Nw.warmD hW h6, va_Nw.warmD hW h7⟩
theorem pe_T.call {b : Nat} {U : State} {g : JFrame} {mk : MethodId} {a : Array Value} (h : pe_T b U U.heap) : pe_T b (U.calling g mk a) (U.calling g mk a).heap := by
  obtain ⟨h1, h2, ⟨sa, h3⟩, h4, h5, h6, h7⟩ := h
  exact ⟨vx_Zq.moved (u := U) (U := U.calling g mk a) (Vm.Alike.refl U.vm) h1, vx_Zq.moved (u := U) (U := U.calling g mk a) (Vm.Alike.refl U.vm) h2, ⟨sa, vk_R.same (u := U) (U := U.calling g mk a) rfl h3⟩, va_Nw.same (u := U) (U := U.calling g mk a) rfl rfl h4, va_Nw.same (u := U) (U := U.calling g mk a) rfl rfl h5, va_Nw.same (u := U) (U := U.calling g mk a) rfl rfl h6, va_Nw.same (u := U) (U := U.calling g mk a) rfl rfl h7⟩
def pe_U (b : Nat) (en ac : Nat → Nat) (D : va_G) (U : State) : Prop := ev_U b en ac D ev_hB U ∧ pe_T b U U.heap
theorem pe_blind {b : Nat} {en ac : Nat → Nat} {D : va_G} {av : List Value} : FrameBlind (va_Pc av (pe_U b en ac D)) := fun a U g mk q => by
  obtain ⟨q0, ⟨q1, qP, qK, qE⟩, qT⟩ := q
  exact ⟨q0, ⟨q1, qP, va_K.moved (u := U) (U := U.calling g mk a) (Vm.Alike.refl U.vm) qK, ev_E_moved (u := U) (U := U.calling g mk a) (Vm.Alike.refl U.vm) qE⟩, pe_T.call qT⟩
theorem pe_Uof {b : Nat} {en ac : Nat → Nat} {D : va_G} {s U : State} {H : Heap} {locs : List Loc} {k : Nat} (w : ev_W b en ac D s ev_hB H locs k) (hK : va_K D vwCl (ev_tys ac) s) (hE : ev_E b en s s.heap) (hT : pe_T b s s.heap) (hz : H.size = b + ev_hB.length) (hU : U.heap = H) (hW : s.WarmedH U.vm) : pe_U b en ac D U :=
  ⟨ev_Uof w hK hE hz hU hW.alike, by rw [hU]; exact pe_T.kept (pe_T.warm hW hT) w.2.1.2.1⟩
def pe_XC (b : Nat) (en ac : Nat → Nat) (D : va_G) : String → State → State → Prop := fun E st t => E = peE ∧ ev_U b en ac D ev_hE t ∧ va_F (ev_A b) st t
theorem pe_push {b : Nat} {en ac : Nat → Nat} {D : va_G} {s : State} {hp : List AE} {H H1 : Heap} {locs : List Loc} {k : Nat} {ce : Cell} (w : ev_W b en ac D s hp H locs k) (hK : va_K D vwCl (ev_tys ac) s) (hz : H.size = b + hp.length) (h1 : H1.size = H.size + 1) (h2 : ∀ q : Nat, q < H.size → H1[q]? = H[q]?) (h3 : H1[H.size]? = some ce) (h4 : ce.vm = .none) (h5 : s.vm.findClass peE = some ce.cls) : ev_W b en ac D s (hp ++ [.inr (12, [])]) H1 locs (k + 1) := by
  have hcl : vwCl[12]? = some (peE, (fun _ => ("", "", "", false)), 0) := rfl
  have hk := (hK.1 12 _ hcl).2.1
  have hc : ce.cls = D.1 12 := Option.some.inj (h5.symm.trans hk)
  refine ev_Wnew w (va_P.app (va_P.kept w.1 (fun i q hq => h2 _ ?_)) ?_) ⟨by rw [h1]; exact Nat.le_trans w.2.1.1 (Nat.le_succ _), fun q q1 q2 => ?_, w.2.1.2.2⟩
  · have h6 := ws_of hq
    rw [h6.1, hz]
    have := h6.2
    omega
  · intro i q hq
    match i, hq with
    | 0, hq =>
      cases hq
      refine ⟨_, hcl, ce, ?_, hc, h4, fun k hk => absurd hk (Nat.not_lt_zero _)⟩
      show H1[b + hp.length]? = some ce
      rw [← hz]; exact h3
    | i + 1, hq => cases hq
  · rw [h2 q (Nat.lt_of_lt_of_le q1 w.2.1.1)]
    exact w.2.1.2.1 q q1 q2
def pe_B : List Cond := [Cond.castable peE peE, Cond.declares (Bundle.initS peR), Cond.declares (Bundle.initS "java/lang/Exception"), Cond.declares (Bundle.initS Bundle.tN)]
theorem pe_w1 : ∀ w ∈ ((pe_atoms "LeftAnswers" 138).filter vx_no).filter goodWord, w ∈ gtb := by decide +kernel
theorem pe_w2 : ∀ w ∈ ((pe_atoms "LeftAnswers" 138).filter vx_no).filter (fun w => !goodWord w), w ∈ pe_B := by decide +kernel
theorem pe_w3 : ∀ w ∈ Cond.classLink "LeftAnswers" 134 peE :: Cond.initialized peE :: (pe_atoms "LeftAnswers" 138).filter vx_no, vx_ot w = true := by decide +kernel
theorem pe_w4 : Cond.classLink "LeftAnswers" 134 peE ∈ gtb ∧ Cond.initialized peE ∈ gtb ∧ Cond.classLink "LeftAnswersLaw" 13 peE ∈ gtb := by decide +kernel
theorem pe_d : decode (mB MM 162) 18 = .ok (.new 134, 3) ∧ decode (mB MM 162) 21 = .ok (.dup, 1) ∧ decode (mB MM 162) 22 = .ok (.ldc 136, 2) ∧ decode (mB MM 162) 24 = .ok (.invokespecial 138, 3) ∧ decode (mB MM 162) 27 = .ok (.athrow, 1) := by decide +kernel
set_option maxRecDepth 100000 in
set_option maxHeartbeats 4000000 in
theorem pe_x (l : Launch) (b : Nat) (en ac : Nat → Nat) (D : va_G) (hl : l.stackTraces = false) (z z2 : Int32) : vx_Met l (mY MM 162) (.code (mY MM 162) (mB MM 162) (mL MM 162) (mR MM 162) :: gtb) (ev_rm MM 8 162) (va_Pc ([.ref 0, .int z, .int z2].map (ev_v b en)) (pe_U b en ac D)) (fun _ _ _ _ => False) (pe_XC b en ac D) 1 6 (ev_A b) := by
  refine vx_ofW (cc := mB MM 162) (maxL := mL MM 162) (ret := mR MM 162) (by decide +kernel) rfl ?_
  intro p e s m args below meth c s₁ B hml hex hq
  obtain ⟨rfl, ⟨hz, hP, hK, hE⟩, hT⟩ := hq
  have hts := atoms_spec (ws := .code (mY MM 162) (mB MM 162) (mL MM 162) (mR MM 162) :: gtb) B.pre
  have hC : ev_C p s m ([.ref 0, .int z, .int z2].map (ev_v b en)).toArray meth c b en ac D MM 162 := ⟨B.exec, B.bytes, hml, findClass_of_methodNamed B.named, fun w hw => hts w (List.mem_cons_of_mem _ hw), hK, hE, by rw [hz]; exact Nat.le_add_right _ _, B.notSynchronized, B.returns, fun h => (name_of_methodNamed B.named B.method).1.trans h⟩
  have hl0 := lv_entry ([.ref 0, .int z, .int z2].map (ev_v b en)) (n := mL MM 162) (by rw [ev_sl]; exact Nat.le_of_ble_eq_true rfl)
  rw [lg_entry_eq]
  rw [ev_La] at hl0
  have hw : ∀ Q, Wk p l e (ev_rm MM 8 162) s m ([.ref 0, .int z, .int z2].map (ev_v b en)).toArray below meth c b en ac D MM 162 Q 18 [(0, .ref 0), (1, .int z), (2, .int z2)] [] ev_hB 0 0 → Wk p l e (ev_rm MM 8 162) s m ([.ref 0, .int z, .int z2].map (ev_v b en)).toArray below meth c b en ac D MM 162 Q 0 (lv_args 0 [.ref 0, .int z, .int z2]) [] ev_hB 0 0 := by
    intro Q k
    have hR := ev_rmR MM 7 162
    refine wk_s hR hC MM_val rfl rfl (KW_ok ?_)
    refine wk_s hR hC MM_val rfl rfl (KW_ok ?_)
    refine wk_V (z := 0) (As := [.int z]) (rest := []) hR hC MM_val rfl (by decide) (xp_no l b en ac D 6 z) rfl rfl rfl (Nat.le_of_ble_eq_true rfl) ⟨by decide +kernel, by decide +kernel⟩ ?_
    simp only [Option.toList, List.cons_append, List.nil_append]
    refine wk_s hR hC MM_val rfl rfl (KW_ok ?_)
    refine wk_pT rfl ?_
    exact k
  refine hw _ ?_ _ _ _ ⟨hP, va_S.rf, hz⟩ hl0
  intro H locs ls w hl9
  refine ev_sized (fun hz0 => ?_)
  have hzH := ev_size w hC.2.2.2.2.2.2.2.1 hz0
  obtain ⟨sa, hsa⟩ := hT.2.2.1
  obtain ⟨d1, d2, d3, d4, d5⟩ := pe_d
  exact pe_throwS (own := "LeftAnswers") (text := "no such person or question") (ik := 134) (is := 136) (ic := 138) (A := ev_A b) hC.1 hC.2.1 hl hC.2.2.2.1 (hC.2.2.2.2.1 _ pe_w4.1) (hC.2.2.2.2.1 _ pe_w4.2.1) hsa
    (vx_hat (fun w hw => hC.2.2.2.2.1 w (pe_w1 w hw)) pe_w2 (vx_c (va_Nw.use rfl hT.2.2.2.1) (vx_c (va_Nw.use rfl hT.2.2.2.2.1) (vx_c (va_Nw.use rfl hT.2.2.2.2.2.1) (vx_c (va_Nw.use rfl hT.2.2.2.2.2.2) vx_n))))) pe_w3 hT.1 hT.2.1 w.2.1 (hl9.1.trans hml.symm) d1 d2 d3 d4 d5 (fun x hx => (hex x hx).elim)
    (Nat.le_of_ble_eq_true rfl) (Nat.le_of_ble_eq_true rfl) (Nat.le_of_ble_eq_true rfl) (Nat.le_of_ble_eq_true rfl) hC.2.2.2.2.2.2.2.2.1
    (fun t ce ha h1 h2 h3 h4 h5 => by
      have w1 := pe_push w hK hzH h1 h2 h3 h4 h5
      refine ⟨rfl, ev_Uof w1 hK hE ?_ rfl ha, ?_, ?_⟩
      · rw [h1, hzH]; show _ = b + (ev_hB ++ [Sum.inr (12, [])]).length; rw [List.length_append]; rfl
      · rw [h1]; exact Nat.le_trans w.2.1.1 (Nat.le_succ _)
      · intro q q1 q2
        exact w1.2.1.2.1 q q1 q2)
    w.2.1.2.2 (Nat.le_refl _) (Nat.le_refl _)
theorem pe_dl : decode (mB MM 163) 5 = .ok (.invokevirtual 7, 3) ∧ decode (mB MM 163) 13 = .ok (.astore 4, 2) := by decide +kernel
theorem pe_w6 : ∀ w ∈ wsV "LeftAnswersLaw" 7 "LeftAnswers" (mY MM 162) (.code (mY MM 162) (mB MM 162) (mL MM 162) (mR MM 162) :: gtb), w ∈ gtb := by
  intro u hu
  rcases List.mem_append.mp hu with hu | hu
  · have h : ∀ w ∈ [Cond.methodLink "LeftAnswersLaw" 7 (mY MM 162), Cond.instanceMethod (mY MM 162), Cond.selects "LeftAnswers" (mY MM 162) (mY MM 162), Cond.initialized (mY MM 162).cls], w ∈ gtb := by decide +kernel
    exact h u hu
  · rcases List.mem_cons.mp hu with rfl | hu
    · have h : Cond.code (mY MM 162) (mB MM 162) (mL MM 162) (mR MM 162) ∈ gtb := by decide +kernel
      exact h
    · exact hu
theorem pe_w7 : (mY MM 162).cls ≠ "java/lang/invoke/MethodHandle" ∧ (mY MM 162).cls ≠ "java/lang/invoke/VarHandle" ∧ (parseMethodDescriptor (mY MM 162).desc).map (fun d => d.parameters.length) = some 2 := by decide +kernel
set_option maxRecDepth 100000 in
set_option maxHeartbeats 4000000 in
theorem pe_l (l : Launch) (b : Nat) (en ac : Nat → Nat) (D : va_G) (hl : l.stackTraces = false) (z z2 : Int32) : Met l (mY MM 163) (.codeWith (mY MM 163) (mB MM 163) (mL MM 163) (mR MM 163) [(0, 10, 13, 13)] :: gtb) (ev_rm MM 9 163) (va_Pc ([.ref 0, .int z, .int z2, .ref 203].map (ev_v b en)) (pe_U b en ac D)) (ev_Q b en ac D (mC MM 163) (some (.int 1), ev_hE)) (mC MM 163) (mS MM 163) (ev_A b) := by
  refine va_MetW (cc := mB MM 163) (maxL := mL MM 163) (ret := mR MM 163) (hh := [(0, 10, 13, 13)]) (by decide +kernel) rfl ?_
  intro p e s m args below meth c s₁ B hml hq
  obtain ⟨rfl, ⟨hz, hP, hK, hE⟩, hT⟩ := hq
  have hts := atoms_spec (ws := .codeWith (mY MM 163) (mB MM 163) (mL MM 163) (mR MM 163) [(0, 10, 13, 13)] :: gtb) B.pre
  have htab : c.exceptionTable.toList = [⟨0, 10, 13, 13⟩] := vx_table (x := mY MM 163) B (hts _ List.mem_cons_self)
  have hC : ev_C p s m ([.ref 0, .int z, .int z2, .ref 203].map (ev_v b en)).toArray meth c b en ac D MM 163 := ⟨B.exec, B.bytes, hml, findClass_of_methodNamed B.named, fun w hw => hts w (List.mem_cons_of_mem _ hw), hK, hE, by rw [hz]; exact Nat.le_add_right _ _, B.notSynchronized, B.returns, fun h => (name_of_methodNamed B.named B.method).1.trans h⟩
  have hl0 := lv_entry ([.ref 0, .int z, .int z2, .ref 203].map (ev_v b en)) (n := mL MM 163) (by rw [ev_sl]; exact Nat.le_of_ble_eq_true rfl)
  rw [lg_entry_eq]
  rw [ev_La] at hl0
  have hR := ev_rmR MM 8 163
  have hw : ∀ Q, Wk p l e (ev_rm MM 9 163) s m ([.ref 0, .int z, .int z2, .ref 203].map (ev_v b en)).toArray below meth c b en ac D MM 163 Q 5 [(0, .ref 0), (1, .int z), (2, .int z2), (3, .ref 203)] [.int z2, .int z, .ref 0, .int 0, .ref 203] ev_hB 0 0 → Wk p l e (ev_rm MM 9 163) s m ([.ref 0, .int z, .int z2, .ref 203].map (ev_v b en)).toArray below meth c b en ac D MM 163 Q 0 (lv_args 0 [.ref 0, .int z, .int z2, .ref 203]) [] ev_hB 0 0 := by
    intro Q k
    refine wk_s hR hC MM_val rfl rfl (KW_ok ?_)
    refine wk_s hR hC MM_val rfl rfl (KW_ok ?_)
    refine wk_s hR hC MM_val rfl rfl (KW_ok ?_)
    refine wk_s hR hC MM_val rfl rfl (KW_ok ?_)
    refine wk_s hR hC MM_val rfl rfl (KW_ok ?_)
    exact k
  have hfin : Wk p l e (ev_rm MM 9 163) s m ([.ref 0, .int z, .int z2, .ref 203].map (ev_v b en)).toArray below meth c b en ac D MM 163 (MQ below (ev_Q b en ac D (mC MM 163) (some (.int 1), ev_hE)) ([.ref 0, .int z, .int z2, .ref 203].map (ev_v b en)).toArray s (mC MM 163) (mS MM 163) (ev_A b)) 15 [] [] ev_hE 1 6 := by
    refine wk_s hR hC MM_val rfl rfl (KW_ok ?_)
    exact wk_r hR hC MM_val rfl rfl rfl
  refine hw _ ?_ _ _ _ ⟨hP, va_S.rf, hz⟩ hl0
  intro H locs ls w hl9
  refine ev_sized (fun hz0 => ?_)
  have hzH := ev_size w hC.2.2.2.2.2.2.2.1 hz0
  have hr := vx_runV (p := p) (e := e) (R := ev_rm MM 9 163) (below := below) (meth := meth) (locs := locs) (cells := 0) (slots := 0) (g := F0 m 5 ls ([.int z2, .int z, .ref 0, .int 0, .ref 203].map (ev_v b en))) (b := b + 0) (C := "LeftAnswers") (As := [.int z, .int z2].map (ev_v b en)) (rest := [.int 0, .ref 203].map (ev_v b en)) (n := 2) ⟨hC.1, hC.2.1, hC.2.2.1, hC.2.2.2.1, hC.2.2.2.2.1⟩ (pe_x l b en ac D hl z z2) (cwV 2 hC.2.2.2.2.1 (gtb_all pe_w6) rfl rfl rfl ⟨rfl, pe_w7⟩ ⟨by decide +kernel, by decide +kernel⟩)
    ⟨pe_blind, va_recv hK w.1 (cl_at (by decide : 10 < 12)) (ws_at (show ev_hB[0]? = some (.inr (10, _)) from rfl)), fun U hU hW => ⟨rfl, pe_Uof w hK hE hT hzH hU hW⟩⟩ rfl rfl hl9.1 rfl (Nat.le_of_ble_eq_true rfl) pe_dl.1 ⟨by decide +kernel, by decide +kernel⟩
  intro T hT9 X
  rcases hr T hT9 X with ⟨v, st₀, t, T', L, h0, X', hL, e1, e2, hq, st⟩ | ⟨q, st₀, t, T', L, E, ce, h0, X', hL, e1, e2, hq, hce, hcv, hcl, st⟩
  · exact hq.elim
  · obtain ⟨rfl, ⟨hU1, hU2, hU3, hU4⟩, hF⟩ := hq
    have hF1 : H.size ≤ t.heap.size := by have h := hF.1; rw [h0] at h; exact h
    have w1 : ev_W b en ac D s ev_hE t.heap (locs ++ L) 1 := by
      refine ⟨hU2, ⟨Nat.le_trans w.2.1.1 hF1, fun q h1 h2 => ?_, fun z hz => (List.mem_append.mp hz).elim (w.2.1.2.2 z) (hL z)⟩, ?_⟩
      · have h3 := hF.2 q (by rw [h0]; exact Nat.lt_of_lt_of_le h1 w.2.1.1) h2
        rw [h3, h0]
        exact w.2.1.2.1 q h1 h2
      · have h4 := w.2.2
        show s.heap.size + 1 = b + (ev_hB ++ [Sum.inr (12, [])]).length
        rw [List.length_append, ← Nat.add_assoc, ← h4]
        rfl
    obtain ⟨t2, a1, b1⟩ := pe_catch (pc := 5) (own := "LeftAnswersLaw") (name := peE) (x := ⟨0, 10, 13, 13⟩) (H := t.heap) hC.2.2.2.1 htab (by decide) (by decide) (hC.2.2.2.2.1 _ pe_w4.2.2) (va_Nw.use rfl hT.2.2.2.1) hce hcv hcl
      (lv_astore hC.1 hC.2.1 pe_dl.2 hl9 (by decide) rfl (fun ls2 hl2 => hfin _ _ _ w1 ⟨hl2.1, hl2.2.1, fun q hq => nomatch hq⟩)) T' e1 X'
    exact ⟨t2, st.trans a1, b1⟩
set_option maxRecDepth 100000 in
set_option maxHeartbeats 4000000 in
theorem me_no (l : Launch) (b : Nat) (en ac : Nat → Nat) (D : va_G) (d : Nat) (z : Int32) : ev_M l b en ac D MM (d + 2) 125 [.ref 180, .int z] ev_hE (some (.int 0), ev_hE) := by
  refine ev_mk (by decide +kernel) (Nat.le_of_ble_eq_true rfl) (fun p e s m args below meth c hC => ?_)
  have hR := ev_rmR MM (d + 1) 125
  refine wk_s hR hC MM_val rfl rfl (KW_ok ?_)
  refine wk_s hR hC MM_val rfl rfl (KW_ok ?_)
  refine wk_s hR hC MM_val rfl rfl (KW_ok ?_)
  refine wk_s hR hC MM_val rfl rfl (KW_ok ?_)
  refine wk_s hR hC MM_val rfl rfl (KW_ok ?_)
  refine wk_s hR hC MM_val rfl rfl (KW_ok ?_)
  refine wk_s hR hC MM_val rfl rfl (KW_ok ?_)
  refine wk_s hR hC MM_val rfl rfl (KW_ok ?_)
  refine wk_S (As := [.int z, .int 0, .int (-1)]) (rest := []) hR hC MM_val rfl (by decide) (mi_no l b en ac D d z 0 (-1) (i_neg z) ev_hE) rfl rfl (Nat.le_of_ble_eq_true rfl) ⟨Nat.le_refl _, Nat.le_refl _⟩ ?_
  simp only [Option.toList, List.cons_append, List.nil_append]
  exact wk_r hR hC MM_val rfl rfl rfl
set_option maxRecDepth 1000000 in
theorem me_ref : ev_is (ev MM 8 143 [.ref 180] ev_hE) (some (.int 0)) (ev_hE.set 180 (.inr (11, (fe_fs 0).set 0 (.int 1)))) = true := by decide +kernel
def ev_hF : List AE := ev_hE.set 180 (.inr (11, (fe_fs 0).set 0 (.int 1)))
set_option maxRecDepth 1000000 in
theorem me_thr : ev_is (ev MM 9 164 [.ref 180] ev_hF) (some (.int 1)) ev_hF = true := by decide +kernel
set_option maxRecDepth 100000 in
set_option maxHeartbeats 4000000 in
theorem cm_person (l : Launch) (b : Nat) (en ac : Nat → Nat) (D : va_G) (z z2 : Int32) : ev_M l b en ac D MM 9 139 [.ref 180, .int z, .int z2] ev_hE (some (.int 0), ev_hF) := by
  refine ev_mk (by decide +kernel) (Nat.le_of_ble_eq_true rfl) (fun p e s m args below meth c hC => ?_)
  have hR := ev_rmR MM 8 139
  refine wk_s hR hC MM_val rfl rfl (KW_ok ?_)
  refine wk_s hR hC MM_val rfl rfl (KW_ok ?_)
  refine wk_s hR hC MM_val rfl rfl (KW_ok ?_)
  refine wk_heap ev_hE (by decide +kernel) ?_
  refine wk_s hR hC MM_val rfl rfl (KW_ok ?_)
  refine wk_s hR hC MM_val rfl rfl (KW_ok ?_)
  refine wk_V (z := 180) (As := [.int z]) (rest := []) hR hC MM_val rfl (by decide) (me_no l b en ac D 6 z) rfl rfl rfl (Nat.le_of_ble_eq_true rfl) ⟨Nat.le_refl _, Nat.le_refl _⟩ ?_
  simp only [Option.toList, List.cons_append, List.nil_append]
  refine wk_s hR hC MM_val rfl rfl (KW_ok ?_)
  refine wk_pT rfl ?_
  refine wk_s hR hC MM_val rfl rfl (KW_ok ?_)
  refine wk_V (z := 180) (As := []) (rest := []) hR hC MM_val rfl (by decide) (ev_ok l b en ac D MM_val 8 _ _ _ _ (ev_is_ok me_ref)) rfl rfl rfl (Nat.le_of_ble_eq_true rfl) ⟨Nat.le_refl _, Nat.le_refl _⟩ ?_
  simp only [Option.toList, List.cons_append, List.nil_append]
  exact wk_r hR hC MM_val rfl rfl rfl
