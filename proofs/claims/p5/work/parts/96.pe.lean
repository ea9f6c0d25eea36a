/-! ===== person throws, and the law's own person catches it ===== -/
def pe_h (hp : List AE) : List AE := hp ++ [.inr (12, [])]
def pe_T (b : Nat) (U : State) (H : Heap) : Prop := vx_Zq Bundle.tN "UNASSIGNED_STACK" Bundle.steD (ev_A b) U H ∧ vx_Zq Bundle.tN "SUPPRESSED_SENTINEL" Bundle.listD (ev_A b) U H ∧ (∃ sa, vk_R "LeftAnswers" 136 "no such person or question" sa U) ∧ va_Nw (.castable peE peE) U ∧ va_Nw (.declares (Bundle.initS peR)) U ∧ va_Nw (.declares (Bundle.initS "java/lang/Exception")) U ∧ va_Nw (.declares (Bundle.initS Bundle.tN)) U
theorem pe_T.kept {b : Nat} {U : State} {H H1 : Heap} (h : pe_T b U H) (hq : ∀ a : Nat, a < H.size → ¬ ev_A b a → H1[a]? = H[a]?) : pe_T b U H1 := ⟨vx_Zq.kept h.1 hq, vx_Zq.kept h.2.1 hq, h.2.2⟩
theorem pe_T.warm {b : Nat} {u U : State} {H : Heap} (hW : u.WarmedH U.vm) (h : pe_T b u H) : pe_T b U H := by
  obtain ⟨h1, h2, ⟨sa, h3⟩, h4, h5, h6, h7⟩ := h
  exact ⟨vx_Zq.moved hW.alike h1, vx_Zq.moved hW.alike h2, ⟨sa, vk_R.warm hW h3⟩, va_Nw.warmC hW h4, va_Nw.warmD hW h5, va_Nw.warmD hW h6, va_Nw.warmD hW h7⟩
theorem pe_T.call {b : Nat} {U : State} {g : JFrame} {mk : MethodId} {a : Array Value} (h : pe_T b U U.heap) : pe_T b (U.calling g mk a) (U.calling g mk a).heap := by
  obtain ⟨h1, h2, ⟨sa, h3⟩, h4, h5, h6, h7⟩ := h
  exact ⟨vx_Zq.moved (u := U) (U := U.calling g mk a) (Vm.Alike.refl U.vm) h1, vx_Zq.moved (u := U) (U := U.calling g mk a) (Vm.Alike.refl U.vm) h2, ⟨sa, vk_R.same (u := U) (U := U.calling g mk a) rfl h3⟩, va_Nw.same (u := U) (U := U.calling g mk a) rfl rfl h4, va_Nw.same (u := U) (U := U.calling g mk a) rfl rfl h5, va_Nw.same (u := U) (U := U.calling g mk a) rfl rfl h6, va_Nw.same (u := U) (U := U.calling g mk a) rfl rfl h7⟩
def pe_U (b : Nat) (en ac : Nat → Nat) (D : va_G) (hp : List AE) (U : State) : Prop := ev_U b en ac D hp U ∧ pe_T b U U.heap
theorem pe_blind {b : Nat} {en ac : Nat → Nat} {D : va_G} {hp : List AE} {av : List Value} : FrameBlind (va_Pc av (pe_U b en ac D hp)) := fun a U g mk q => by
  obtain ⟨q0, ⟨q1, qP, qK, qE⟩, qT⟩ := q
  exact ⟨q0, ⟨q1, qP, va_K.moved (u := U) (U := U.calling g mk a) (Vm.Alike.refl U.vm) qK, ex_E_same (u := U) (U := U.calling g mk a) rfl qE⟩, pe_T.call qT⟩
theorem pe_Uof {b : Nat} {en ac : Nat → Nat} {D : va_G} {s U : State} {hp : List AE} {H : Heap} {locs : List Loc} {k : Nat} (w : ev_W b en ac D s hp H locs k) (hK : va_K D vwCl (ev_tys ac) s) (hE : ex_E b en s s.heap) (hT : pe_T b s s.heap) (hz : H.size = b + hp.length) (hU : U.heap = H) (hW : s.WarmedH U.vm) : pe_U b en ac D hp U :=
  ⟨ev_Uof w hK hE hz hU hW, by rw [hU]; exact pe_T.kept (pe_T.warm hW hT) w.2.1.2.1⟩
def pe_XC (b : Nat) (en ac : Nat → Nat) (D : va_G) (hc : List AE) : String → State → State → Prop := fun E st t => E = peE ∧ ev_U b en ac D (pe_h hc) t ∧ va_F (ev_A b) st t
theorem pe_push {b : Nat} {en ac : Nat → Nat} {D : va_G} {s : State} {hp : List AE} {H H1 : Heap} {locs : List Loc} {k : Nat} {ce : Cell} (w : ev_W b en ac D s hp H locs k) (hK : va_K D vwCl (ev_tys ac) s) (hz : H.size = b + hp.length) (h1 : H1.size = H.size + 1) (h2 : ∀ q : Nat, q < H.size → H1[q]? = H[q]?) (h3 : H1[H.size]? = some ce) (h4 : ce.vm = .none) (h5 : s.vm.findClass peE = some ce.cls) : ev_W b en ac D s (hp ++ [.inr (12, [])]) H1 locs (k + 1) := by
  have hcl : vwCl[12]? = some (peE, (fun _ => ("", "", "", false)), 0) := rfl
  have hk := (hK.1 12 _ hcl).2.1
  have hc : ce.cls = D.1 12 := Option.some.inj (h5.symm.trans hk)
  refine ev_Wnew w (va_P.app (va_P.kept w.1 (fun i q hq => h2 _ ?_)) ?_) ⟨by rw [h1]; exact Nat.le_trans w.2.1.1 (Nat.le_succ _), fun q q1 q2 => ?_, w.2.1.2.2⟩
  · have h6 := ws_of hq
    rw [h6.1, hz]
    have := h6.2
    omega
  · intro i q hq
    match i, hq with
    | 0, hq =>
      cases hq
      refine ⟨_, hcl, ce, ?_, hc, h4, fun k hk => absurd hk (Nat.not_lt_zero _)⟩
      show H1[b + hp.length]? = some ce
      rw [← hz]; exact h3
    | i + 1, hq => cases hq
  · rw [h2 q (Nat.lt_of_lt_of_le q1 w.2.1.1)]
    exact w.2.1.2.1 q q1 q2
def pe_B : List Cond := [Cond.castable peE peE, Cond.declares (Bundle.initS peR), Cond.declares (Bundle.initS "java/lang/Exception"), Cond.declares (Bundle.initS Bundle.tN)]
def pe_zq (T : List Cond) : List Cond → List Nat → Bool
  | [], _ => true
  | w :: l, k :: ks => decide (T[k]? = some w) && pe_zq T l ks
  | _ :: _, [] => false
theorem pe_zq_ok {T : List Cond} : ∀ (l : List Cond) (ks : List Nat), pe_zq T l ks = true → ∀ w ∈ l, w ∈ T
  | [], _, _, w, h => absurd h List.not_mem_nil
  | x :: l, k :: ks, g, w, h => by
    have g : (decide (T[k]? = some x) && pe_zq T l ks) = true := g
    rw [Bool.and_eq_true] at g
    rcases List.mem_cons.mp h with e | e
    · rw [e]; exact List.mem_of_getElem? (of_decide_eq_true g.1)
    · exact pe_zq_ok l ks g.2 w e
  | _ :: _, [], g, _, _ => by cases g
theorem pe_w0 : pe_zq lw_tbl (((pe_atoms "LeftAnswers" 138).filter vx_no).filter goodWord) [140, 1404, 1413, 1415, 1418, 1420, 1405, 1406, 157, 158, 1407, 1412, 1416, 1436, 1394, 1437, 1396, 1438, 1398, 1408, 1410, 1400, 1432, 1433, 1435, 1400, 1423, 1424, 1425, 1426, 1426, 1427, 1428, 1429, 1429, 1430, 1431, 1432, 1422, 1383, 1391, 1392, 1393, 1395, 1397, 1399, 1403, 1402, 1401] = true := by decide +kernel
theorem pe_w1 : ∀ w ∈ ((pe_atoms "LeftAnswers" 138).filter vx_no).filter goodWord, w ∈ gtb := fun w h => List.mem_filter.mpr ⟨pe_zq_ok _ _ pe_w0 w h, (List.mem_filter.mp h).2⟩
theorem pe_w2 : ∀ w ∈ ((pe_atoms "LeftAnswers" 138).filter vx_no).filter (fun w => !goodWord w), w ∈ pe_B := by decide +kernel
theorem pe_w3 : ∀ w ∈ Cond.classLink "LeftAnswers" 134 peE :: Cond.initialized peE :: (pe_atoms "LeftAnswers" 138).filter vx_no, vx_ot w = true := by decide +kernel
theorem pe_w4 : Cond.classLink "LeftAnswers" 134 peE ∈ gtb ∧ Cond.initialized peE ∈ gtb ∧ Cond.classLink "LeftAnswersLaw" 13 peE ∈ gtb := by decide +kernel
theorem pe_d : decode (mB MM 301) 18 = .ok (.new 134, 3) ∧ decode (mB MM 301) 21 = .ok (.dup, 1) ∧ decode (mB MM 301) 22 = .ok (.ldc 136, 2) ∧ decode (mB MM 301) 24 = .ok (.invokespecial 138, 3) ∧ decode (mB MM 301) 27 = .ok (.athrow, 1) := by decide +kernel
set_option maxRecDepth 100000 in
set_option maxHeartbeats 4000000 in
theorem pe_x (l : Launch) (b : Nat) (en ac : Nat → Nat) (D : va_G) (hl : l.stackTraces = false) {hp hc : List AE} {fs : List Value} {r : Int32} (z z2 : Int32) (hrec : hp[0]? = some (.inr (10, fs))) (hlen : hc.length = hp.length) (hip : ev_M l b en ac D MM 98 28 [.ref 0, .int z] hp (some (.int r), hc)) (hcs : r = 0 ∨ (r = 1 ∧ (z2 < 0 ∨ 7 < z2))) : vx_Met l (mY MM 301) (.code (mY MM 301) (mB MM 301) (mL MM 301) (mR MM 301) :: gtb) (ev_rm MM 99 301) (va_Pc ([.ref 0, .int z, .int z2].map (ev_v b en)) (pe_U b en ac D hp)) (fun _ _ _ _ => False) (pe_XC b en ac D hc) 1 6 (ev_A b) := by
  refine vx_ofW (cc := mB MM 301) (maxL := mL MM 301) (ret := mR MM 301) (by decide +kernel) rfl ?_
  intro p e s m args below meth c s₁ B hml hex hq
  obtain ⟨rfl, ⟨hz, hP, hK, hE⟩, hT⟩ := hq
  have hts := atoms_spec (ws := .code (mY MM 301) (mB MM 301) (mL MM 301) (mR MM 301) :: gtb) B.pre
  have hC : ex_C p s m ([.ref 0, .int z, .int z2].map (ev_v b en)).toArray meth c b en ac D MM 301 := ⟨B.exec, B.bytes, hml, findClass_of_methodNamed B.named, fun w hw => hts w (List.mem_cons_of_mem _ hw), hK, hE, by rw [hz]; exact Nat.le_add_right _ _, B.notSynchronized, B.returns, fun h => (name_of_methodNamed B.named B.method).1.trans h⟩
  have hl0 := lv_entry ([.ref 0, .int z, .int z2].map (ev_v b en)) (n := mL MM 301) (by rw [ev_sl]; exact Nat.le_of_ble_eq_true rfl)
  rw [lg_entry_eq]
  rw [ev_La] at hl0
  have hw : ∀ Q, Wk p l e (ev_rm MM 99 301) s m ([.ref 0, .int z, .int z2].map (ev_v b en)).toArray below meth c b en ac D MM 301 Q 18 [(0, .ref 0), (1, .int z), (2, .int z2)] [] hc 0 0 → Wk p l e (ev_rm MM 99 301) s m ([.ref 0, .int z, .int z2].map (ev_v b en)).toArray below meth c b en ac D MM 301 Q 0 (lv_args 0 [.ref 0, .int z, .int z2]) [] hp 0 0 := by
    intro Q k
    have hR := ev_rmR MM 98 301
    refine wk_s hR hC MM_val rfl rfl (KW_ok ?_)
    refine wk_s hR hC MM_val rfl rfl (KW_ok ?_)
    refine wk_V (z := 0) (As := [.int z]) (rest := []) hR hC MM_val rfl (by decide) hip hrec rfl rfl (Nat.le_of_ble_eq_true rfl) ⟨by decide +kernel, by decide +kernel⟩ ?_
    simp only [Option.toList, List.cons_append, List.nil_append]
    refine wk_s hR hC MM_val rfl rfl (KW_ok ?_)
    rcases hcs with h0 | ⟨h1, hz2⟩
    · refine wk_cT h0 ?_
      exact k
    · refine wk_cF (by rw [h1]; decide) ?_
      refine wk_s hR hC MM_val rfl rfl (KW_ok ?_)
      refine wk_s hR hC MM_val rfl rfl (KW_ok ?_)
      rcases Classical.em (z2 < 0) with hz0 | hz0
      · refine wk_cT hz0 ?_
        exact k
      · refine wk_cF hz0 ?_
        refine wk_s hR hC MM_val rfl rfl (KW_ok ?_)
        refine wk_s hR hC MM_val rfl rfl (KW_ok ?_)
        refine wk_s hR hC MM_val rfl rfl (KW_ok ?_)
        refine wk_cF (fun h9 => ?_) ?_
        · rcases hz2 with hz2 | hz2
          · exact hz0 hz2
          · exact absurd (show z2 ≤ 7 from h9) (Int32.not_le.mpr hz2)
        · exact k
  refine hw _ ?_ _ _ _ ⟨hP, va_S.rf, hz⟩ hl0
  intro H locs ls w hl9
  refine ev_sized (fun hz0 => ?_)
  have hzH := ev_size w hC.2.2.2.2.2.2.2.1 hz0
  obtain ⟨sa, hsa⟩ := hT.2.2.1
  obtain ⟨d1, d2, d3, d4, d5⟩ := pe_d
  exact pe_throwS (own := "LeftAnswers") (text := "no such person or question") (ik := 134) (is := 136) (ic := 138) (A := ev_A b) hC.1 hC.2.1 hl hC.2.2.2.1 (hC.2.2.2.2.1 _ pe_w4.1) (hC.2.2.2.2.1 _ pe_w4.2.1) hsa
    (vx_hat (fun w hw => hC.2.2.2.2.1 w (pe_w1 w hw)) pe_w2 (vx_c (va_Nw.use rfl hT.2.2.2.1) (vx_c (va_Nw.use rfl hT.2.2.2.2.1) (vx_c (va_Nw.use rfl hT.2.2.2.2.2.1) (vx_c (va_Nw.use rfl hT.2.2.2.2.2.2) vx_n))))) pe_w3 hT.1 hT.2.1 w.2.1 (hl9.1.trans hml.symm) d1 d2 d3 d4 d5 (fun x hx => (hex x hx).elim)
    (Nat.le_of_ble_eq_true rfl) (Nat.le_of_ble_eq_true rfl) (Nat.le_of_ble_eq_true rfl) (Nat.le_of_ble_eq_true rfl) hC.2.2.2.2.2.2.2.2.1
    (fun t ce ha h1 h2 h3 h4 h5 => by
      have w1 := pe_push w hK hzH h1 h2 h3 h4 h5
      refine ⟨rfl, ev_Uof w1 hK hE ?_ rfl ha, ?_, ?_⟩
      · rw [h1, hzH]; show _ = b + (hc ++ [Sum.inr (12, [])]).length; rw [List.length_append]; rfl
      · rw [h1]; exact Nat.le_trans w.2.1.1 (Nat.le_succ _)
      · intro q q1 q2
        exact w1.2.1.2.1 q q1 q2)
    w.2.1.2.2 (Nat.le_refl _) (Nat.le_refl _)
theorem pe_dl : decode (mB MM 302) 5 = .ok (.invokevirtual 7, 3) ∧ decode (mB MM 302) 13 = .ok (.astore 4, 2) := by decide +kernel
theorem pe_w6 : ∀ w ∈ wsV "LeftAnswersLaw" 7 "LeftAnswers" (mY MM 301) (.code (mY MM 301) (mB MM 301) (mL MM 301) (mR MM 301) :: gtb), w ∈ gtb := by
  intro u hu
  rcases List.mem_append.mp hu with hu | hu
  · have h : ∀ w ∈ [Cond.methodLink "LeftAnswersLaw" 7 (mY MM 301), Cond.instanceMethod (mY MM 301), Cond.selects "LeftAnswers" (mY MM 301) (mY MM 301), Cond.initialized (mY MM 301).cls], w ∈ gtb := by decide +kernel
    exact h u hu
  · rcases List.mem_cons.mp hu with rfl | hu
    · have h : Cond.code (mY MM 301) (mB MM 301) (mL MM 301) (mR MM 301) ∈ gtb := by decide +kernel
      exact h
    · exact hu
theorem pe_w7 : (mY MM 301).cls ≠ "java/lang/invoke/MethodHandle" ∧ (mY MM 301).cls ≠ "java/lang/invoke/VarHandle" ∧ (parseMethodDescriptor (mY MM 301).desc).map (fun d => d.parameters.length) = some 2 := by decide +kernel
set_option maxRecDepth 100000 in
set_option maxHeartbeats 4000000 in
theorem pe_l (l : Launch) (b : Nat) (en ac : Nat → Nat) (D : va_G) (hl : l.stackTraces = false) {hp hc : List AE} {fs : List Value} {r : Int32} (z z2 : Int32) (hrec : hp[0]? = some (.inr (10, fs))) (hlen : hc.length = hp.length) (hip : ev_M l b en ac D MM 98 28 [.ref 0, .int z] hp (some (.int r), hc)) (hcs : r = 0 ∨ (r = 1 ∧ (z2 < 0 ∨ 7 < z2))) : Met l (mY MM 302) (.codeWith (mY MM 302) (mB MM 302) (mL MM 302) (mR MM 302) [(0, 10, 13, 13)] :: gtb) (ev_rm MM 100 302) (va_Pc ([.ref 0, .int z, .int z2, .ref 203].map (ev_v b en)) (pe_U b en ac D hp)) (ev_Q b en ac D (mC MM 302) (some (.int 1), (pe_h hc))) (mC MM 302) (mS MM 302) (ev_A b) := by
  refine va_MetW (cc := mB MM 302) (maxL := mL MM 302) (ret := mR MM 302) (hh := [(0, 10, 13, 13)]) (by decide +kernel) rfl ?_
  intro p e s m args below meth c s₁ B hml hq
  obtain ⟨rfl, ⟨hz, hP, hK, hE⟩, hT⟩ := hq
  have hts := atoms_spec (ws := .codeWith (mY MM 302) (mB MM 302) (mL MM 302) (mR MM 302) [(0, 10, 13, 13)] :: gtb) B.pre
  have htab : c.exceptionTable.toList = [⟨0, 10, 13, 13⟩] := vx_table (x := mY MM 302) B (hts _ List.mem_cons_self)
  have hC : ex_C p s m ([.ref 0, .int z, .int z2, .ref 203].map (ev_v b en)).toArray meth c b en ac D MM 302 := ⟨B.exec, B.bytes, hml, findClass_of_methodNamed B.named, fun w hw => hts w (List.mem_cons_of_mem _ hw), hK, hE, by rw [hz]; exact Nat.le_add_right _ _, B.notSynchronized, B.returns, fun h => (name_of_methodNamed B.named B.method).1.trans h⟩
  have hl0 := lv_entry ([.ref 0, .int z, .int z2, .ref 203].map (ev_v b en)) (n := mL MM 302) (by rw [ev_sl]; exact Nat.le_of_ble_eq_true rfl)
  rw [lg_entry_eq]
  rw [ev_La] at hl0
  have hR := ev_rmR MM 99 302
  have hw : ∀ Q, Wk p l e (ev_rm MM 100 302) s m ([.ref 0, .int z, .int z2, .ref 203].map (ev_v b en)).toArray below meth c b en ac D MM 302 Q 5 [(0, .ref 0), (1, .int z), (2, .int z2), (3, .ref 203)] [.int z2, .int z, .ref 0, .int 0, .ref 203] hp 0 0 → Wk p l e (ev_rm MM 100 302) s m ([.ref 0, .int z, .int z2, .ref 203].map (ev_v b en)).toArray below meth c b en ac D MM 302 Q 0 (lv_args 0 [.ref 0, .int z, .int z2, .ref 203]) [] hp 0 0 := by
    intro Q k
    refine wk_s hR hC MM_val rfl rfl (KW_ok ?_)
    refine wk_s hR hC MM_val rfl rfl (KW_ok ?_)
    refine wk_s hR hC MM_val rfl rfl (KW_ok ?_)
    refine wk_s hR hC MM_val rfl rfl (KW_ok ?_)
    refine wk_s hR hC MM_val rfl rfl (KW_ok ?_)
    exact k
  have hfin : Wk p l e (ev_rm MM 100 302) s m ([.ref 0, .int z, .int z2, .ref 203].map (ev_v b en)).toArray below meth c b en ac D MM 302 (MQ below (ev_Q b en ac D (mC MM 302) (some (.int 1), (pe_h hc))) ([.ref 0, .int z, .int z2, .ref 203].map (ev_v b en)).toArray s (mC MM 302) (mS MM 302) (ev_A b)) 15 [] [] (pe_h hc) 1 6 := by
    refine wk_s hR hC MM_val rfl rfl (KW_ok ?_)
    exact wk_r hR hC MM_val rfl rfl rfl
  refine hw _ ?_ _ _ _ ⟨hP, va_S.rf, hz⟩ hl0
  intro H locs ls w hl9
  refine ev_sized (fun hz0 => ?_)
  have hzH := ev_size w hC.2.2.2.2.2.2.2.1 hz0
  have hr := vx_runV (p := p) (e := e) (R := ev_rm MM 100 302) (below := below) (meth := meth) (locs := locs) (cells := 0) (slots := 0) (g := F0 m 5 ls ([.int z2, .int z, .ref 0, .int 0, .ref 203].map (ev_v b en))) (b := b + 0) (C := "LeftAnswers") (As := [.int z, .int z2].map (ev_v b en)) (rest := [.int 0, .ref 203].map (ev_v b en)) (n := 2) ⟨hC.1, hC.2.1, hC.2.2.1, hC.2.2.2.1, hC.2.2.2.2.1⟩ (pe_x l b en ac D hl z z2 hrec hlen hip hcs) (cwV 2 hC.2.2.2.2.1 (gtb_all pe_w6) rfl rfl rfl ⟨rfl, pe_w7⟩ ⟨by decide +kernel, by decide +kernel⟩)
    ⟨pe_blind, va_recv hK w.1 (cl_at (by decide : 10 < 12)) (ws_at hrec), fun U hU hW => ⟨rfl, pe_Uof w hK hE hT hzH hU hW⟩⟩ rfl rfl hl9.1 rfl (Nat.le_of_ble_eq_true rfl) pe_dl.1 ⟨by decide +kernel, by decide +kernel⟩
  intro T hT9 X
  rcases hr T hT9 X with ⟨v, st₀, t, T', L, h0, X', hL, e1, e2, hq, st⟩ | ⟨q, st₀, t, T', L, E, ce, h0, X', hL, e1, e2, hq, hce, hcv, hcl, st⟩
  · exact hq.elim
  · obtain ⟨rfl, ⟨hU1, hU2, hU3, hU4⟩, hF⟩ := hq
    have hF1 : H.size ≤ t.heap.size := by have h := hF.1; rw [h0] at h; exact h
    have w1 : ev_W b en ac D s (pe_h hc) t.heap (locs ++ L) 1 := by
      refine ⟨hU2, ⟨Nat.le_trans w.2.1.1 hF1, fun q h1 h2 => ?_, fun z hz => (List.mem_append.mp hz).elim (w.2.1.2.2 z) (hL z)⟩, ?_⟩
      · have h3 := hF.2 q (by rw [h0]; exact Nat.lt_of_lt_of_le h1 w.2.1.1) h2
        rw [h3, h0]
        exact w.2.1.2.1 q h1 h2
      · have h4 := w.2.2
        show s.heap.size + 1 = b + (hc ++ [Sum.inr (12, [])]).length
        rw [List.length_append, hlen, ← Nat.add_assoc, ← h4]
        rfl
    obtain ⟨t2, a1, b1⟩ := pe_catch (pc := 5) (own := "LeftAnswersLaw") (name := peE) (x := ⟨0, 10, 13, 13⟩) (H := t.heap) hC.2.2.2.1 htab (by decide) (by decide) (hC.2.2.2.2.1 _ pe_w4.2.2) (va_Nw.use rfl hT.2.2.2.1) hce hcv hcl
      (lv_astore hC.1 hC.2.1 pe_dl.2 hl9 (by decide) rfl (fun ls2 hl2 => hfin _ _ _ w1 ⟨hl2.1, hl2.2.1, fun q hq => nomatch hq⟩)) T' e1 X'
    exact ⟨t2, st.trans a1, b1⟩
/-- the same program, no cells told -/
def MP : MT := (mY MM, mB MM, mL MM, mR MM, fun _ => 0, fun _ => 0, mF MM, mK MM)
theorem last_ok {M : MT} {cf : Nat → List Value → List AE → Option ev_R} {mi pc x y k ks : Nat} {L : List (Nat × Value)} {hp : List AE} {K : Nat → List (Nat × Value) → List Value → List AE → Nat → Nat → Option ev_R} {v w0 : Int64} (hal : ev_al hp 203 = some (2, [w0])) : eo_lastore M cf mi pc x y L [.long v, .int 0, .ref 203] hp k ks K = K (pc + 1) L [] (hp.set 203 (.inl (2, .inr (.inl [v])))) k ks := by
  unfold eo_lastore
  show (ev_al hp 203).bind _ = _
  rw [hal]
  rfl
theorem wk_V1 {p : Program} {l : Launch} {e : Env} {R : Room} {s : State} {m : MethodId} {args : Array Value} {below : List Frame} {meth : Method} {c : Code} {Q : State → Prop} {b : Nat} {en ac : Nat → Nat} {D : va_G} {M : MT} {mi d pc x y idx z k ks : Nat} {L : List (Nat × Value)} {st As rest : List Value} {hp : List AE} {q : ev_R} {fs : List Value} (hR : d + 4 ≤ R.frames ∧ 64 * (d + 1) + 256 ≤ R.locals ∧ mC M mi ≤ R.cells ∧ mS M mi ≤ R.slots) (hC : ex_C p s m args meth c b en ac D M mi) (hv : decode (mB M mi) pc = .ok (.invokevirtual idx, 3)) (hme : ev_me M x y = true) (hk12 : mK M x < 12) (hcls : (mY M x).cls = CN (mK M x)) (hlk : ev_all [.methodLink (mY M mi).cls idx (mY M x), .instanceMethod (mY M x), .selects (mY M x).cls (mY M x) (mY M x)] = true)
    (hM : ev_M l b en ac D M d x (.ref z :: As) hp q) (hob : hp[z]? = some (.inr (mK M x, fs))) (hn : As.length = y) (hst : st = As.reverse ++ .ref z :: rest) (hroom : (rest.map fun v => v.category).sum ≤ 8) (hfit : k + mC M x ≤ mC M mi ∧ ks + mS M x ≤ mS M mi)
    (h2 : Wk p l e R s m args below meth c b en ac D M mi Q (pc + 3) L (q.1.toList ++ rest) q.2 (k + mC M x) (ks + mS M x)) : Wk p l e R s m args below meth c b en ac D M mi Q pc L st hp k ks := by
  intro H locs ls w hl
  subst hst
  exact ev_call_V (res := (none, [])) (K := KW (Wk p l e R s m args below meth c b en ac D M mi Q) (none, [])) hR hC (fun _ _ _ _ _ _ h => KW_of h) hM hme hk12 hcls hlk hob hn hroom hfit hv w (KW_ok h2) hl
set_option maxRecDepth 100000 in
theorem pe_m1 : decode (mB MP 302) 0 = .ok (.aload_n 3, 1) ∧ decode (mB MP 302) 1 = .ok (.iconst 0, 1) ∧ decode (mB MP 302) 2 = .ok (.aload_n 0, 1) ∧ decode (mB MP 302) 3 = .ok (.iload_n 1, 1) ∧ decode (mB MP 302) 4 = .ok (.iload_n 2, 1) ∧ decode (mB MP 302) 5 = .ok (.invokevirtual 7, 3) ∧ decode (mB MP 302) 8 = .ok (.i2l, 1) ∧ decode (mB MP 302) 9 = .ok (.lastore, 1) ∧ decode (mB MP 302) 10 = .ok (.goto 7, 3) ∧ decode (mB MP 302) 17 = .ok (.iconst 0, 1) ∧ decode (mB MP 302) 18 = .ok (.ireturn, 1) := by decide +kernel
set_option maxRecDepth 100000 in
theorem pe_m2 : ev_me MP 34 2 = true ∧ mK MP 34 < 12 ∧ (mY MP 34).cls = CN (mK MP 34) ∧ ev_all [.methodLink (mY MP 302).cls 7 (mY MP 34), .instanceMethod (mY MP 34), .selects (mY MP 34).cls (mY MP 34) (mY MP 34)] = true := by decide +kernel
theorem pe_mp {l : Launch} {b : Nat} {en ac : Nat → Nat} {D : va_G} {As : List Value} {hp : List AE} {q : ev_R} (h : ev_M l b en ac D MM 99 34 As hp q) : ev_M l b en ac D MP 99 34 As hp q := h
set_option maxRecDepth 100000 in
set_option maxHeartbeats 4000000 in
theorem pe_l0 (l : Launch) (b : Nat) (en ac : Nat → Nat) (D : va_G) {hp hc : List AE} {fs : List Value} {r : Int32} {w0 : Int64} (z z2 : Int32) (hrec : hp[0]? = some (.inr (10, fs))) (hal : ev_al hc 203 = some (2, [w0])) (hip : ev_M l b en ac D MM 99 34 [.ref 0, .int z, .int z2] hp (some (.int r), hc)) : Met l (mY MM 302) (.codeWith (mY MM 302) (mB MM 302) (mL MM 302) (mR MM 302) [(0, 10, 13, 13)] :: gtb) (ev_rm MP 100 302) (va_Pc ([.ref 0, .int z, .int z2, .ref 203].map (ev_v b en)) (ev_U b en ac D hp)) (ev_Q b en ac D 0 (some (.int 0), hc.set 203 (.inl (2, .inr (.inl [r.toInt64]))))) 0 0 (ev_A b) := by
  refine va_MetW (cc := mB MM 302) (maxL := mL MM 302) (ret := mR MM 302) (hh := [(0, 10, 13, 13)]) (by decide +kernel) rfl ?_
  intro p e s m args below meth c s₁ B hml hq
  obtain ⟨rfl, hz, hP, hK, hE⟩ := hq
  have hts := atoms_spec (ws := .codeWith (mY MM 302) (mB MM 302) (mL MM 302) (mR MM 302) [(0, 10, 13, 13)] :: gtb) B.pre
  have hC : ex_C p s m ([.ref 0, .int z, .int z2, .ref 203].map (ev_v b en)).toArray meth c b en ac D MP 302 := ⟨B.exec, B.bytes, hml, findClass_of_methodNamed B.named, fun w hw => hts w (List.mem_cons_of_mem _ hw), hK, hE, by rw [hz]; exact Nat.le_add_right _ _, B.notSynchronized, B.returns, fun h => (name_of_methodNamed B.named B.method).1.trans h⟩
  have hl0 := lv_entry ([.ref 0, .int z, .int z2, .ref 203].map (ev_v b en)) (n := mL MM 302) (by rw [ev_sl]; exact Nat.le_of_ble_eq_true rfl)
  rw [lg_entry_eq]
  rw [ev_La] at hl0
  have hR := ev_rmR MP 99 302
  obtain ⟨d0, d1, d2, d3, d4, d5, d8, d9, d10, d17, d18⟩ := pe_m1
  have key : Wk p l e (ev_rm MP 100 302) s m ([.ref 0, .int z, .int z2, .ref 203].map (ev_v b en)).toArray below meth c b en ac D MP 302 (MQ below (ev_Q b en ac D (mC MP 302) (some (.int 0), hc.set 203 (.inl (2, .inr (.inl [r.toInt64]))))) ([.ref 0, .int z, .int z2, .ref 203].map (ev_v b en)).toArray s (mC MP 302) (mS MP 302) (ev_A b)) 0 (lv_args 0 [.ref 0, .int z, .int z2, .ref 203]) [] hp 0 0 := by
    refine wk_s1 (x := 0) (y := 0) hR hC d0 rfl rfl (KW_ok ?_)
    refine wk_s1 (x := 0) (y := 0) hR hC d1 rfl rfl (KW_ok ?_)
    refine wk_s1 (x := 0) (y := 0) hR hC d2 rfl rfl (KW_ok ?_)
    refine wk_s1 (x := 0) (y := 0) hR hC d3 rfl rfl (KW_ok ?_)
    refine wk_s1 (x := 0) (y := 0) hR hC d4 rfl rfl (KW_ok ?_)
    refine wk_V1 (x := 34) (z := 0) (As := [.int z, .int z2]) (rest := [.int 0, .ref 203]) hR hC d5 pe_m2.1 pe_m2.2.1 pe_m2.2.2.1 pe_m2.2.2.2 (pe_mp hip) hrec rfl rfl (Nat.le_of_ble_eq_true rfl) ⟨Nat.le_refl _, Nat.le_refl _⟩ ?_
    simp only [Option.toList, List.cons_append, List.nil_append]
    refine wk_s1 (x := 0) (y := 0) hR hC d8 rfl rfl (KW_ok ?_)
    refine wk_s1 (x := 0) (y := 0) hR hC d9 rfl rfl ((last_ok (M := MP) (cf := fun _ _ _ => none) (mi := 302) (pc := 9) (x := 0) (y := 0) hal).trans (KW_ok ?_))
    refine wk_s1 (x := 17) (y := 0) hR hC d10 rfl rfl (KW_ok ?_)
    refine wk_s1 (x := 0) (y := 0) hR hC d17 rfl rfl (KW_ok ?_)
    exact wk_r1 (x := 0) (y := 0) hR hC d18 rfl rfl rfl
  exact key _ _ _ ⟨hP, va_S.rf, hz⟩ hl0
