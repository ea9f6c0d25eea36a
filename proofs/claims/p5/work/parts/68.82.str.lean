/-! ===== the JDK's own: a text's length, its letters ===== -/
theorem jx_tx : ∀ v, v < 304 → (ev_tx v).length ≤ 100 ∧ Int32.ofNat (ev_tx v).length >>> ((0 : Int32) &&& 31) = Int32.ofNat (ev_tx v).length ∧ ∀ ch ∈ ev_tx v, ((ch &&& 255).toUInt32 % 65536).toInt32 = ch ∧ ch &&& 255 = ch := by decide +kernel
theorem jx_ch {v : Nat} {i ch : Int32} (h2 : v < 304) (hr : ev_rd (ev_tx v) i = some ch) : ((ch &&& 255).toUInt32 % 65536).toInt32 = ch ∧ narrow .char (.int ch) = .int ch := by
  obtain ⟨-, hlt, hgd⟩ := ev_rd_ok hr
  have hm : ch ∈ ev_tx v := by
    have h := hgd 0
    rw [List.getD_eq_getElem?_getD, List.getElem?_eq_getElem hlt] at h
    rw [← show (ev_tx v)[i.toNatClampNeg] = ch from h]
    exact List.getElem_mem hlt
  have hq := (jx_tx v h2).2.2 ch hm
  refine ⟨hq.1, ?_⟩
  have hn := sc_nar ch
  rw [hq.2] at hn
  exact hn
theorem jx_lt {i : Int32} {n : Nat} (h : vp_in i n) (hn : n ≤ 100) : ¬ i < 0 ∧ i < Int32.ofNat n := by
  unfold vp_in at h
  rw [not_or] at h
  obtain ⟨h1, h2⟩ := h
  refine ⟨h1, ?_⟩
  obtain ⟨k, hk, rfl⟩ := nI_of h1
  rw [nI_clamp hk] at h2
  exact nI_lt (by omega) (by omega)
section
variable {p : Program} {l : Launch} {e : Env} {R : Room} {s : State} {m : MethodId} {args : Array Value} {below : List Frame} {meth : Method} {c : Code} {Q : State → Prop} {H : Heap} {locs : List Loc} {b : Nat} {en ac : Nat → Nat} {D : va_G}
def jx_C (p : Program) (s : State) (m : MethodId) (args : Array Value) (c : Code) (b : Nat) (en ac : Nat → Nat) (D : va_G) (cc : ByteArray) (nL : Nat) (own : String) : Prop :=
  p.tables.exec = Jvm.exec ∧ c.code = cc ∧ c.maxLocals = nL ∧ s.vm.findClass own = some m.cls ∧ (∀ w ∈ gtb, w.before args s = true) ∧ va_K D vwCl (ev_tys ac) s ∧ ex_E b en s s.heap ∧ b ≤ s.heap.size
/-- behind a call that leaves the cells as they were -/
theorem jx_aft {pc k ks : Nat} {ls : Array Slot} {st0 rest : List Value} {hp : List AE} {o : Option Value} {av : Array Value} (hr : va_Run p l e R s m args below meth c H locs k ks 0 0 (F0 m pc ls st0) rest (ev_Q b en ac D 0 (o, hp) av) (ev_A b)) (w : ev_W b en ac D s hp H locs k)
    (kk : ∀ H1 locs1, ev_W b en ac D s hp H1 locs1 k → W p l e R s m args below meth c H1 locs1 k ks Q (F0 m (pc + 3) ls ((o.map (ev_v b en)).toList ++ rest))) : W p l e R s m args below meth c H locs k ks Q (F0 m pc ls st0) := by
  refine ev_callG hr (fun v' st₀ t Lc h0 hvm hL hq => ?_)
  obtain ⟨hv', ⟨hU1, hU2, hU3, hU4⟩, hF, hmc⟩ := hq
  cases hv'
  have hF1 : H.size ≤ t.heap.size := by have h := hF.1; rw [h0] at h; exact h
  refine kk _ _ ⟨hU2, ⟨Nat.le_trans w.2.1.1 hF1, fun q h1 h2 => ?_, fun z hz => (List.mem_append.mp hz).elim (w.2.1.2.2 z) (hL z)⟩, w.2.2⟩
  have h3 := hF.2 q (by rw [h0]; exact Nat.lt_of_lt_of_le h1 w.2.1.1) h2
  rw [h3, h0]
  exact w.2.1.2.1 q h1 h2
theorem jx_V {cc : ByteArray} {nL : Nat} {own : String} {y : MethodName} {byt : ByteArray} {mx n q pc idx k ks : Nat} {rt : Option FieldType} {rm : Room} {As rest : List Value} {ls : Array Slot} {hp : List AE} {o : Option Value} (hC : jx_C p s m args c b en ac D cc nL own)
    (hM : Met l y (.code y byt mx rt :: gtb) rm (va_Pc (.ref q :: As) (ev_U b en ac D hp)) (ev_Q b en ac D 0 (o, hp)) 0 0 (ev_A b)) (hme : ev_all [.code y byt mx rt, .initialized y.cls] = true) (hlk : ev_all [.methodLink own idx y, .instanceMethod y, .selects y.cls y y] = true)
    (hd : y.cls ≠ "java/lang/invoke/MethodHandle" ∧ y.cls ≠ "java/lang/invoke/VarHandle" ∧ (parseMethodDescriptor y.desc).map (fun d => d.parameters.length) = some n) (hrec : ∃ cell : Cell, H[q]? = some cell ∧ cell.vm.isStatics = false ∧ s.vm.findClass y.cls = some cell.cls)
    (hrm : rm.cells = 0 ∧ rm.slots = 0 ∧ rm.frames + 1 ≤ R.frames ∧ 8 + (mx + 11) + rm.locals ≤ R.locals) (hn : As.length = n) (hls : ls.size = nL) (hroom : (rest.map fun v => v.category).sum ≤ 8) (hk : k ≤ R.cells ∧ ks ≤ R.slots) (hdg : decode cc pc = .ok (.invokevirtual idx, 3)) (w : ev_W b en ac D s hp H locs k)
    (kk : ∀ H1 locs1, ev_W b en ac D s hp H1 locs1 k → W p l e R s m args below meth c H1 locs1 k ks Q (F0 m (pc + 3) ls ((o.map (ev_v b en)).toList ++ rest))) : W p l e R s m args below meth c H locs k ks Q (F0 m pc ls (As.reverse ++ .ref q :: rest)) := by
  obtain ⟨hx, hb, hml, hown, hts, hK, hE, hbs⟩ := hC
  refine ev_sized (fun hz0 => ?_)
  have hz := ev_size w hbs hz0
  have hw := ev_all_ok hlk
  have hw1 := ev_all_ok hme
  refine jx_aft (o := o) (va_runV (As := As) (rest := rest) (b := q) (C := y.cls) (n := n) ⟨hx, hb, hml, hown, hts⟩ hM (cwV n hts (gtb_all ?_) rfl hrm.1 hrm.2.1 ⟨rfl, hd⟩ hrm.2.2) ⟨ev_U_blind, hrec, fun U hU hW => ⟨rfl, ev_Uof w hK hE hz hU hW⟩⟩ rfl hn hls rfl (lv_room hroom) hdg ⟨hk.1, hk.2⟩) w kk
  intro u hu
  rcases List.mem_append.mp hu with hu | hu
  · rcases List.mem_cons.mp hu with rfl | hu
    · exact hw _ (by simp)
    · rcases List.mem_cons.mp hu with rfl | hu
      · exact hw _ (by simp)
      · rcases List.mem_cons.mp hu with rfl | hu
        · exact hw _ (by simp)
        · rcases List.mem_cons.mp hu with rfl | hu
          · exact hw1 _ (by simp)
          · cases hu
  · rcases List.mem_cons.mp hu with rfl | hu
    · exact hw1 _ (by simp)
    · exact hu
theorem jx_S {cc : ByteArray} {nL : Nat} {own : String} {y : MethodName} {byt : ByteArray} {mx n pc idx k ks : Nat} {rt : Option FieldType} {rm : Room} {As rest : List Value} {ls : Array Slot} {hp : List AE} {o : Option Value} (hC : jx_C p s m args c b en ac D cc nL own)
    (hM : Met l y (.code y byt mx rt :: gtb) rm (va_Pc As (ev_U b en ac D hp)) (ev_Q b en ac D 0 (o, hp)) 0 0 (ev_A b)) (hme : ev_all [.code y byt mx rt, .initialized y.cls] = true) (hlk : ev_all [.methodLink own idx y, .static y] = true)
    (hd : y.cls ≠ "java/lang/invoke/MethodHandle" ∧ y.cls ≠ "java/lang/invoke/VarHandle" ∧ (parseMethodDescriptor y.desc).map (fun d => d.parameters.length) = some n)
    (hrm : rm.cells = 0 ∧ rm.slots = 0 ∧ rm.frames + 1 ≤ R.frames ∧ 8 + (mx + 11) + rm.locals ≤ R.locals) (hn : As.length = n) (hls : ls.size = nL) (hroom : (rest.map fun v => v.category).sum ≤ 8) (hk : k ≤ R.cells ∧ ks ≤ R.slots) (hdg : decode cc pc = .ok (.invokestatic idx, 3)) (w : ev_W b en ac D s hp H locs k)
    (kk : ∀ H1 locs1, ev_W b en ac D s hp H1 locs1 k → W p l e R s m args below meth c H1 locs1 k ks Q (F0 m (pc + 3) ls ((o.map (ev_v b en)).toList ++ rest))) : W p l e R s m args below meth c H locs k ks Q (F0 m pc ls (As.reverse ++ rest)) := by
  obtain ⟨hx, hb, hml, hown, hts, hK, hE, hbs⟩ := hC
  refine ev_sized (fun hz0 => ?_)
  have hz := ev_size w hbs hz0
  have hw := ev_all_ok hlk
  have hw1 := ev_all_ok hme
  refine jx_aft (o := o) (va_runS (As := As) (rest := rest) (n := n) ⟨hx, hb, hml, hown, hts⟩ hM (va_cwS n hts (gtb_all ?_) rfl hrm.1 hrm.2.1 hd hrm.2.2) ⟨ev_U_blind, fun U hU hW => ⟨rfl, ev_Uof w hK hE hz hU hW⟩⟩ rfl hn hls rfl (lv_room hroom) hdg ⟨hk.1, hk.2⟩) w kk
  intro u hu
  rcases List.mem_append.mp hu with hu | hu
  · rcases List.mem_cons.mp hu with rfl | hu
    · exact hw _ (by simp)
    · rcases List.mem_cons.mp hu with rfl | hu
      · exact hw _ (by simp)
      · rcases List.mem_cons.mp hu with rfl | hu
        · exact hw1 _ (by simp)
        · cases hu
  · rcases List.mem_cons.mp hu with rfl | hu
    · exact hw1 _ (by simp)
    · exact hu
/-- the end: nothing has changed -/
theorem jx_Q {hp : List AE} {o : Option Value} {t : State} (hC : va_K D vwCl (ev_tys ac) s) (hE : ex_E b en s s.heap) (w : ev_W b en ac D s hp H locs 0) (hz : H.size = b + hp.length) (ht : t.heap = H) (hW : s.WarmedH t.vm) : ev_Q b en ac D 0 (o, hp) args s (.returned (o.map (ev_v b en))) t :=
  ⟨rfl, ev_Uof w hC hE hz ht hW, ⟨by rw [ht]; exact w.2.1.1, fun q h1 h2 => by rw [ht]; exact w.2.1.2.1 q h1 h2⟩, w.2.2⟩
abbrev jx_cod : MethodName := ⟨"java/lang/String", "coder", "()B"⟩
abbrev jx_lat : MethodName := ⟨"java/lang/String", "isLatin1", "()Z"⟩
abbrev jx_len : MethodName := ⟨"java/lang/String", "length", "()I"⟩
abbrev jx_cha : MethodName := ⟨"java/lang/String", "charAt", "(I)C"⟩
abbrev jx_chl : MethodName := ⟨"java/lang/StringLatin1", "charAt", "([BI)C"⟩
abbrev jx_chk : MethodName := ⟨"java/lang/String", "checkIndex", "(II)V"⟩
abbrev jx_pre : MethodName := ⟨"jdk/internal/util/Preconditions", "checkIndex", "(IILjava/util/function/BiFunction;)I"⟩
theorem jx_recv {v : Nat} (hE : ex_E b en s s.heap) (h1 : 300 ≤ v) (h2 : v < 304) (hS : va_S (ev_A b) s.heap H locs) : ∃ cell : Cell, H[en v]? = some cell ∧ cell.vm.isStatics = false ∧ s.vm.findClass "java/lang/String" = some cell.cls := by
  obtain ⟨cell, g1, g2, g3, -⟩ := (hE.2.2.2.2.2.1 v h1 h2).2.1.kept hS.2.1
  exact ⟨cell, g1, g2, g3⟩
end
section
variable {b : Nat} {en ac : Nat → Nat} {D : va_G}
theorem jx_cod_ok (l : Launch) {hp : List AE} {v : Nat} (h1 : 300 ≤ v) (h2 : v < 304) : Met l jx_cod (.code jx_cod prog_24_method_152_code 1 (some .byte) :: gtb) { frames := 0, cells := 0, slots := 0, locals := 0 } (va_Pc [.ref (en v)] (ev_U b en ac D hp)) (ev_Q b en ac D 0 (some (.int 0), hp)) 0 0 (ev_A b) := by
  refine Met.ofW (cc := prog_24_method_152_code) (maxL := 1) (ret := some .byte) (by decide) rfl ?_
  intro p e s m args below meth c s₁ B hml hq
  obtain ⟨rfl, hz, hP, hK, hE⟩ := hq
  have hx := B.exec
  have hb := B.bytes
  have hr := B.returns
  have hts := atoms_spec (ws := .code jx_cod prog_24_method_152_code 1 (some .byte) :: gtb) B.pre
  have hown : s.vm.findClass "java/lang/String" = some m.cls := findClass_of_methodNamed B.named
  have hlocks := B.notSynchronized
  have hl := lv_entry ([.ref (en v)]) (n := 1) (Nat.le_of_ble_eq_true rfl)
  rw [lg_entry_eq]
  generalize (lg_sl ([.ref (en v)]) ++ List.replicate (1 - (lg_sl ([.ref (en v)])).length) Slot.unset).toArray = ls at hl ⊢
  have hl : lv_has ls 1 [(0, .ref (en v))] := hl
  have w : ev_W b en ac D s hp s.heap [] 0 := ⟨hP, va_S.rf, hz⟩
  refine va_gets hx hb hE.2.2.2.2.1 w.2.1 hown (hts _ (List.mem_cons_of_mem _ (show Jvm.Cond.fieldLink "java/lang/String" 38 "java/lang/String" "COMPACT_STRINGS" "Z" ∈ gtb by decide +kernel))) (fun _ h9 => h9) (show decode prog_24_method_152_code 0 = .ok (.getstatic 38, 3) by decide +kernel) ?_
  refine lv_if_eq (tgt := 13) hx hb (show decode prog_24_method_152_code 3 = .ok (.ifCond .eq 10, 3) by decide +kernel) (by decide) (fun hc => absurd hc (by decide)) (fun _ => ?_)
  refine lv_aload_n hx hb (show decode prog_24_method_152_code 6 = .ok (.aload_n 0, 1) by decide +kernel) rfl (lv_at hl 0 rfl) ?_
  refine vk_getf hx hb (hE.2.2.2.2.2.1 v h1 h2).2.2.1 w.2.1 hown (hts _ (List.mem_cons_of_mem _ (show Jvm.Cond.fieldLink "java/lang/String" 15 "java/lang/String" "coder" "B" ∈ gtb by decide +kernel))) (fun _ h9 => h9) (show decode prog_24_method_152_code 7 = .ok (.getfield 15, 3) by decide +kernel) ?_
  refine lv_goto (tgt := 14) hx hb (show decode prog_24_method_152_code 10 = .ok (.goto 4, 3) by decide +kernel) (by decide) ?_
  exact W.zret hx hb hr rfl (fun t ht hW => jx_Q (o := some (.int 0)) hK hE w hz ht hW) w.2.1.2.2 (show decode prog_24_method_152_code 14 = .ok (.ireturn, 1) by decide +kernel) hlocks
theorem jx_lat_ok (l : Launch) {hp : List AE} {v : Nat} (h1 : 300 ≤ v) (h2 : v < 304) : Met l jx_lat (.code jx_lat prog_24_method_154_code 1 (some .boolean) :: gtb) { frames := 0, cells := 0, slots := 0, locals := 0 } (va_Pc [.ref (en v)] (ev_U b en ac D hp)) (ev_Q b en ac D 0 (some (.int 1), hp)) 0 0 (ev_A b) := by
  refine Met.ofW (cc := prog_24_method_154_code) (maxL := 1) (ret := some .boolean) (by decide) rfl ?_
  intro p e s m args below meth c s₁ B hml hq
  obtain ⟨rfl, hz, hP, hK, hE⟩ := hq
  have hx := B.exec
  have hb := B.bytes
  have hr := B.returns
  have hts := atoms_spec (ws := .code jx_lat prog_24_method_154_code 1 (some .boolean) :: gtb) B.pre
  have hown : s.vm.findClass "java/lang/String" = some m.cls := findClass_of_methodNamed B.named
  have hlocks := B.notSynchronized
  have hl := lv_entry ([.ref (en v)]) (n := 1) (Nat.le_of_ble_eq_true rfl)
  rw [lg_entry_eq]
  generalize (lg_sl ([.ref (en v)]) ++ List.replicate (1 - (lg_sl ([.ref (en v)])).length) Slot.unset).toArray = ls at hl ⊢
  have hl : lv_has ls 1 [(0, .ref (en v))] := hl
  have w : ev_W b en ac D s hp s.heap [] 0 := ⟨hP, va_S.rf, hz⟩
  refine va_gets hx hb hE.2.2.2.2.1 w.2.1 hown (hts _ (List.mem_cons_of_mem _ (show Jvm.Cond.fieldLink "java/lang/String" 38 "java/lang/String" "COMPACT_STRINGS" "Z" ∈ gtb by decide +kernel))) (fun _ h9 => h9) (show decode prog_24_method_154_code 0 = .ok (.getstatic 38, 3) by decide +kernel) ?_
  refine lv_if_eq (tgt := 17) hx hb (show decode prog_24_method_154_code 3 = .ok (.ifCond .eq 14, 3) by decide +kernel) (by decide) (fun hc => absurd hc (by decide)) (fun _ => ?_)
  refine lv_aload_n hx hb (show decode prog_24_method_154_code 6 = .ok (.aload_n 0, 1) by decide +kernel) rfl (lv_at hl 0 rfl) ?_
  refine vk_getf hx hb (hE.2.2.2.2.2.1 v h1 h2).2.2.1 w.2.1 hown (hts _ (List.mem_cons_of_mem _ (show Jvm.Cond.fieldLink "java/lang/String" 15 "java/lang/String" "coder" "B" ∈ gtb by decide +kernel))) (fun _ h9 => h9) (show decode prog_24_method_154_code 7 = .ok (.getfield 15, 3) by decide +kernel) ?_
  refine lv_if_ne (tgt := 17) hx hb (show decode prog_24_method_154_code 10 = .ok (.ifCond .ne 7, 3) by decide +kernel) (by decide) (fun hc => absurd rfl hc) (fun _ => ?_)
  refine lv_iconst hx hb (show decode prog_24_method_154_code 13 = .ok (.iconst 1, 1) by decide +kernel) rfl ?_
  refine lv_goto (tgt := 18) hx hb (show decode prog_24_method_154_code 14 = .ok (.goto 4, 3) by decide +kernel) (by decide) ?_
  exact W.zret hx hb hr rfl (fun t ht hW => jx_Q (o := some (.int 1)) hK hE w hz ht hW) w.2.1.2.2 (show decode prog_24_method_154_code 18 = .ok (.ireturn, 1) by decide +kernel) hlocks
theorem jx_pre_r (l : Launch) {hp : List AE} {i n : Int32} {f : Nat} (h1 : ¬ i < 0) (h2 : i < n) : Met l jx_pre (.code jx_pre prog_32_method_11_code 3 (some .int) :: gtb) { frames := 0, cells := 0, slots := 0, locals := 0 } (va_Pc [.int i, .int n, .ref f] (ev_U b en ac D hp)) (ev_Q b en ac D 0 (some (.int i), hp)) 0 0 (ev_A b) := by
  refine Met.ofW (cc := prog_32_method_11_code) (maxL := 3) (ret := some .int) (by decide) rfl ?_
  intro p e s m args below meth c s₁ B hml hq
  obtain ⟨rfl, hz, hP, hK, hE⟩ := hq
  have hx := B.exec
  have hb := B.bytes
  have hr := B.returns
  have hlocks := B.notSynchronized
  have hl := lv_entry ([.int i, .int n, .ref f]) (n := 3) (Nat.le_of_ble_eq_true rfl)
  rw [lg_entry_eq]
  generalize (lg_sl ([.int i, .int n, .ref f]) ++ List.replicate (3 - (lg_sl ([.int i, .int n, .ref f])).length) Slot.unset).toArray = ls at hl ⊢
  have hl : lv_has ls 3 [(0, .int i), (1, .int n), (2, .ref f)] := hl
  have w : ev_W b en ac D s hp s.heap [] 0 := ⟨hP, va_S.rf, hz⟩
  refine lv_iload_n hx hb (show decode prog_32_method_11_code 0 = .ok (.iload_n 0, 1) by decide +kernel) rfl (lv_at hl 0 rfl) ?_
  refine lv_if_lt (tgt := 9) hx hb (show decode prog_32_method_11_code 1 = .ok (.ifCond .lt 8, 3) by decide +kernel) (by decide) (fun hc => absurd hc h1) (fun _ => ?_)
  refine lv_iload_n hx hb (show decode prog_32_method_11_code 4 = .ok (.iload_n 0, 1) by decide +kernel) rfl (lv_at hl 0 rfl) ?_
  refine lv_iload_n hx hb (show decode prog_32_method_11_code 5 = .ok (.iload_n 1, 1) by decide +kernel) rfl (lv_at hl 1 rfl) ?_
  refine lv_icmp_lt (tgt := 16) hx hb (show decode prog_32_method_11_code 6 = .ok (.if_icmp .lt 10, 3) by decide +kernel) (by decide) (fun _ => ?_) (fun hc => absurd h2 hc)
  refine lv_iload_n hx hb (show decode prog_32_method_11_code 16 = .ok (.iload_n 0, 1) by decide +kernel) rfl (lv_at hl 0 rfl) ?_
  exact W.iret hx hb hr (fun t ht hW => jx_Q (o := some (.int i)) hK hE w hz ht hW) w.2.1.2.2 (show decode prog_32_method_11_code 17 = .ok (.ireturn, 1) by decide +kernel) hlocks
theorem jx_pre_n (l : Launch) {hp : List AE} {i n : Int32} (h1 : ¬ i < 0) (h2 : i < n) : Met l jx_pre (.code jx_pre prog_32_method_11_code 3 (some .int) :: gtb) { frames := 0, cells := 0, slots := 0, locals := 0 } (va_Pc [.int i, .int n, .null] (ev_U b en ac D hp)) (ev_Q b en ac D 0 (some (.int i), hp)) 0 0 (ev_A b) := by
  refine Met.ofW (cc := prog_32_method_11_code) (maxL := 3) (ret := some .int) (by decide) rfl ?_
  intro p e s m args below meth c s₁ B hml hq
  obtain ⟨rfl, hz, hP, hK, hE⟩ := hq
  have hx := B.exec
  have hb := B.bytes
  have hr := B.returns
  have hlocks := B.notSynchronized
  have hl := lv_entry ([.int i, .int n, .null]) (n := 3) (Nat.le_of_ble_eq_true rfl)
  rw [lg_entry_eq]
  generalize (lg_sl ([.int i, .int n, .null]) ++ List.replicate (3 - (lg_sl ([.int i, .int n, .null])).length) Slot.unset).toArray = ls at hl ⊢
  have hl : lv_has ls 3 [(0, .int i), (1, .int n), (2, .null)] := hl
  have w : ev_W b en ac D s hp s.heap [] 0 := ⟨hP, va_S.rf, hz⟩
  refine lv_iload_n hx hb (show decode prog_32_method_11_code 0 = .ok (.iload_n 0, 1) by decide +kernel) rfl (lv_at hl 0 rfl) ?_
  refine lv_if_lt (tgt := 9) hx hb (show decode prog_32_method_11_code 1 = .ok (.ifCond .lt 8, 3) by decide +kernel) (by decide) (fun hc => absurd hc h1) (fun _ => ?_)
  refine lv_iload_n hx hb (show decode prog_32_method_11_code 4 = .ok (.iload_n 0, 1) by decide +kernel) rfl (lv_at hl 0 rfl) ?_
  refine lv_iload_n hx hb (show decode prog_32_method_11_code 5 = .ok (.iload_n 1, 1) by decide +kernel) rfl (lv_at hl 1 rfl) ?_
  refine lv_icmp_lt (tgt := 16) hx hb (show decode prog_32_method_11_code 6 = .ok (.if_icmp .lt 10, 3) by decide +kernel) (by decide) (fun _ => ?_) (fun hc => absurd h2 hc)
  refine lv_iload_n hx hb (show decode prog_32_method_11_code 16 = .ok (.iload_n 0, 1) by decide +kernel) rfl (lv_at hl 0 rfl) ?_
  exact W.iret hx hb hr (fun t ht hW => jx_Q (o := some (.int i)) hK hE w hz ht hW) w.2.1.2.2 (show decode prog_32_method_11_code 17 = .ok (.ireturn, 1) by decide +kernel) hlocks
theorem jx_pre_ok (l : Launch) {hp : List AE} {i n : Int32} {fv : Value} (hf : (∃ f, fv = .ref f) ∨ fv = .null) (h1 : ¬ i < 0) (h2 : i < n) : Met l jx_pre (.code jx_pre prog_32_method_11_code 3 (some .int) :: gtb) { frames := 0, cells := 0, slots := 0, locals := 0 } (va_Pc [.int i, .int n, fv] (ev_U b en ac D hp)) (ev_Q b en ac D 0 (some (.int i), hp)) 0 0 (ev_A b) := by
  rcases hf with ⟨f, rfl⟩ | rfl
  · exact jx_pre_r l h1 h2
  · exact jx_pre_n l h1 h2
theorem jx_chk_ok (l : Launch) {hp : List AE} {i n : Int32} (h1 : ¬ i < 0) (h2 : i < n) : Met l jx_chk (.code jx_chk prog_24_method_155_code 2 none :: gtb) { frames := 1, cells := 0, slots := 0, locals := 32 } (va_Pc [.int i, .int n] (ev_U b en ac D hp)) (ev_Q b en ac D 0 (none, hp)) 0 0 (ev_A b) := by
  refine Met.ofW (cc := prog_24_method_155_code) (maxL := 2) (ret := none) (by decide) rfl ?_
  intro p e s m args below meth c s₁ B hml hq
  obtain ⟨rfl, hz, hP, hK, hE⟩ := hq
  have hx := B.exec
  have hb := B.bytes
  have hr := B.returns
  have hts := atoms_spec (ws := .code jx_chk prog_24_method_155_code 2 none :: gtb) B.pre
  have hown : s.vm.findClass "java/lang/String" = some m.cls := findClass_of_methodNamed B.named
  have hlocks := B.notSynchronized
  have hl := lv_entry ([.int i, .int n]) (n := 2) (Nat.le_of_ble_eq_true rfl)
  rw [lg_entry_eq]
  generalize (lg_sl ([.int i, .int n]) ++ List.replicate (2 - (lg_sl ([.int i, .int n])).length) Slot.unset).toArray = ls at hl ⊢
  have hl : lv_has ls 2 [(0, .int i), (1, .int n)] := hl
  have w : ev_W b en ac D s hp s.heap [] 0 := ⟨hP, va_S.rf, hz⟩
  refine lv_iload_n hx hb (show decode prog_24_method_155_code 0 = .ok (.iload_n 0, 1) by decide +kernel) rfl (lv_at hl 0 rfl) ?_
  refine lv_iload_n hx hb (show decode prog_24_method_155_code 1 = .ok (.iload_n 1, 1) by decide +kernel) rfl (lv_at hl 1 rfl) ?_
  obtain ⟨fv, hfv, hZ⟩ : ∃ fv : Value, ((∃ f, fv = .ref f) ∨ fv = .null) ∧ va_Z "jdk/internal/util/Preconditions" "SIOOBE_FORMATTER" "Ljava/util/function/BiFunction;" fv (ev_A b) s s.heap := by
    rcases hE.2.2.2.2.2.2 with h | ⟨t, h⟩
    · exact ⟨.null, Or.inr rfl, h⟩
    · exact ⟨.ref t, Or.inl ⟨t, rfl⟩, h⟩
  refine va_gets hx hb hZ w.2.1 hown (hts _ (List.mem_cons_of_mem _ (show Jvm.Cond.fieldLink "java/lang/String" 1053 "jdk/internal/util/Preconditions" "SIOOBE_FORMATTER" "Ljava/util/function/BiFunction;" ∈ gtb by decide +kernel))) (fun _ h9 => h9) (show decode prog_24_method_155_code 2 = .ok (.getstatic 1053, 3) by decide +kernel) ?_
  refine jx_S (As := [.int i, .int n, fv]) (rest := []) (n := 3) ⟨hx, hb, hml, hown, fun w hw => hts w (List.mem_cons_of_mem _ hw), hK, hE, by rw [hz]; exact Nat.le_add_right _ _⟩ (jx_pre_ok l hfv h1 h2) (by decide +kernel) (by decide +kernel) ⟨by decide, by decide, by decide +kernel⟩ ⟨rfl, rfl, Nat.le_of_ble_eq_true rfl, Nat.le_of_ble_eq_true rfl⟩ rfl hl.1 (Nat.le_of_ble_eq_true rfl) ⟨Nat.zero_le _, Nat.zero_le _⟩ (show decode prog_24_method_155_code 5 = .ok (.invokestatic 1059, 3) by decide +kernel) w (fun H1 locs1 w1 => ?_)
  refine lv_pop hx hb (show decode prog_24_method_155_code 8 = .ok (.pop, 1) by decide +kernel) rfl ?_
  refine ev_sized (fun hz0 => ?_)
  have hz1 := ev_size w1 (by rw [hz]; exact Nat.le_add_right _ _) hz0
  exact W.vret hx hb hr (fun t ht hW => jx_Q (o := none) hK hE w1 hz1 ht hW) w1.2.1.2.2 (show decode prog_24_method_155_code 9 = .ok (.return_, 1) by decide +kernel) hlocks
theorem jx_chl_ok (l : Launch) {hp : List AE} {i ch : Int32} {v : Nat} (h1 : 300 ≤ v) (h2 : v < 304) (hr0 : ev_rd (ev_tx v) i = some ch) : Met l jx_chl (.code jx_chl prog_25_method_2_code 2 (some .char) :: gtb) { frames := 2, cells := 0, slots := 0, locals := 64 } (va_Pc [.ref (en (v + 10)), .int i] (ev_U b en ac D hp)) (ev_Q b en ac D 0 (some (.int ch), hp)) 0 0 (ev_A b) := by
  obtain ⟨hin, hlt, hgd⟩ := ev_rd_ok hr0
  refine Met.ofW (cc := prog_25_method_2_code) (maxL := 2) (ret := some .char) (by decide) rfl ?_
  intro p e s m args below meth c s₁ B hml hq
  obtain ⟨rfl, hz, hP, hK, hE⟩ := hq
  have hx := B.exec
  have hb := B.bytes
  have hr := B.returns
  have hts := atoms_spec (ws := .code jx_chl prog_25_method_2_code 2 (some .char) :: gtb) B.pre
  have hown : s.vm.findClass "java/lang/StringLatin1" = some m.cls := findClass_of_methodNamed B.named
  have hlocks := B.notSynchronized
  have hl := lv_entry ([.ref (en (v + 10)), .int i]) (n := 2) (Nat.le_of_ble_eq_true rfl)
  rw [lg_entry_eq]
  generalize (lg_sl ([.ref (en (v + 10)), .int i]) ++ List.replicate (2 - (lg_sl ([.ref (en (v + 10)), .int i])).length) Slot.unset).toArray = ls at hl ⊢
  have hl : lv_has ls 2 [(0, .ref (en (v + 10))), (1, .int i)] := hl
  have w : ev_W b en ac D s hp s.heap [] 0 := ⟨hP, va_S.rf, hz⟩
  have hT := (hE.2.2.2.2.2.1 v h1 h2).2.2.2.2
  refine lv_iload_n hx hb (show decode prog_25_method_2_code 0 = .ok (.iload_n 1, 1) by decide +kernel) rfl (lv_at hl 1 rfl) ?_
  refine lv_aload_n hx hb (show decode prog_25_method_2_code 1 = .ok (.aload_n 0, 1) by decide +kernel) rfl (lv_at hl 0 rfl) ?_
  refine va_tlen hx hb hT w.2.1 rfl (show decode prog_25_method_2_code 2 = .ok (.arraylength, 1) by decide +kernel) ?_
  have hb1 : ¬ i < 0 ∧ i < Int32.ofNat (ev_tx v).length := jx_lt hin (jx_tx v h2).1
  have hch := jx_ch h2 hr0
  refine jx_S (As := [.int i, .int (Int32.ofNat (ev_tx v).length)]) (rest := []) (n := 2) ⟨hx, hb, hml, hown, fun w hw => hts w (List.mem_cons_of_mem _ hw), hK, hE, by rw [hz]; exact Nat.le_add_right _ _⟩ (jx_chk_ok l hb1.1 hb1.2) (by decide +kernel) (by decide +kernel) ⟨by decide, by decide, by decide +kernel⟩ ⟨rfl, rfl, Nat.le_of_ble_eq_true rfl, Nat.le_of_ble_eq_true rfl⟩ rfl hl.1 (Nat.le_of_ble_eq_true rfl) ⟨Nat.zero_le _, Nat.zero_le _⟩ (show decode prog_25_method_2_code 3 = .ok (.invokestatic 9, 3) by decide +kernel) w (fun H1 locs1 w1 => ?_)
  refine lv_aload_n hx hb (show decode prog_25_method_2_code 6 = .ok (.aload_n 0, 1) by decide +kernel) rfl (lv_at hl 0 rfl) ?_
  refine lv_iload_n hx hb (show decode prog_25_method_2_code 7 = .ok (.iload_n 1, 1) by decide +kernel) rfl (lv_at hl 1 rfl) ?_
  refine va_tb (v := .int ch) hx hb hT w1.2.1 hin (by show Value.int ((ev_tx v).getD i.toNatClampNeg 0) = .int ch; rw [hgd 0]) (show decode prog_25_method_2_code 8 = .ok (.baload, 1) by decide +kernel) ?_
  refine lv_sipush (v := 255) hx hb (show decode prog_25_method_2_code 9 = .ok (.sipush 255, 3) by decide +kernel) (by decide) ?_
  refine lv_iand hx hb (show decode prog_25_method_2_code 12 = .ok (.iand, 1) by decide +kernel) ?_
  refine lv_i2c (v := ch) hx hb (show decode prog_25_method_2_code 13 = .ok (.i2c, 1) by decide +kernel) hch.1 ?_
  refine ev_sized (fun hz0 => ?_)
  have hz1 := ev_size w1 (by rw [hz]; exact Nat.le_add_right _ _) hz0
  exact W.zret hx hb hr hch.2 (fun t ht hW => jx_Q (o := some (.int ch)) hK hE w1 hz1 ht hW) w1.2.1.2.2 (show decode prog_25_method_2_code 14 = .ok (.ireturn, 1) by decide +kernel) hlocks
theorem jx_len_ok (l : Launch) {hp : List AE} {v : Nat} (h1 : 300 ≤ v) (h2 : v < 304) : Met l jx_len (.code jx_len prog_24_method_54_code 1 (some .int) :: gtb) { frames := 1, cells := 0, slots := 0, locals := 32 } (va_Pc [.ref (en v)] (ev_U b en ac D hp)) (ev_Q b en ac D 0 (some (.int (Int32.ofNat (ev_tx v).length)), hp)) 0 0 (ev_A b) := by
  refine Met.ofW (cc := prog_24_method_54_code) (maxL := 1) (ret := some .int) (by decide) rfl ?_
  intro p e s m args below meth c s₁ B hml hq
  obtain ⟨rfl, hz, hP, hK, hE⟩ := hq
  have hx := B.exec
  have hb := B.bytes
  have hr := B.returns
  have hts := atoms_spec (ws := .code jx_len prog_24_method_54_code 1 (some .int) :: gtb) B.pre
  have hown : s.vm.findClass "java/lang/String" = some m.cls := findClass_of_methodNamed B.named
  have hlocks := B.notSynchronized
  have hl := lv_entry ([.ref (en v)]) (n := 1) (Nat.le_of_ble_eq_true rfl)
  rw [lg_entry_eq]
  generalize (lg_sl ([.ref (en v)]) ++ List.replicate (1 - (lg_sl ([.ref (en v)])).length) Slot.unset).toArray = ls at hl ⊢
  have hl : lv_has ls 1 [(0, .ref (en v))] := hl
  have w : ev_W b en ac D s hp s.heap [] 0 := ⟨hP, va_S.rf, hz⟩
  have hS := hE.2.2.2.2.2.1 v h1 h2
  refine lv_aload_n hx hb (show decode prog_24_method_54_code 0 = .ok (.aload_n 0, 1) by decide +kernel) rfl (lv_at hl 0 rfl) ?_
  refine vk_getf hx hb hS.2.2.2.1 w.2.1 hown (hts _ (List.mem_cons_of_mem _ (show Jvm.Cond.fieldLink "java/lang/String" 9 "java/lang/String" "value" "[B" ∈ gtb by decide +kernel))) (fun _ h9 => h9) (show decode prog_24_method_54_code 1 = .ok (.getfield 9, 3) by decide +kernel) ?_
  refine va_tlen hx hb hS.2.2.2.2 w.2.1 rfl (show decode prog_24_method_54_code 4 = .ok (.arraylength, 1) by decide +kernel) ?_
  refine lv_aload_n hx hb (show decode prog_24_method_54_code 5 = .ok (.aload_n 0, 1) by decide +kernel) rfl (lv_at hl 0 rfl) ?_
  refine jx_V (As := []) (q := en v) (rest := [.int (Int32.ofNat (ev_tx v).length)]) (n := 0) ⟨hx, hb, hml, hown, fun w hw => hts w (List.mem_cons_of_mem _ hw), hK, hE, by rw [hz]; exact Nat.le_add_right _ _⟩ (jx_cod_ok l h1 h2) (by decide +kernel) (by decide +kernel) ⟨by decide, by decide, by decide +kernel⟩ (jx_recv hE h1 h2 w.2.1) ⟨rfl, rfl, Nat.le_of_ble_eq_true rfl, Nat.le_of_ble_eq_true rfl⟩ rfl hl.1 (Nat.le_of_ble_eq_true rfl) ⟨Nat.zero_le _, Nat.zero_le _⟩ (show decode prog_24_method_54_code 6 = .ok (.invokevirtual 335, 3) by decide +kernel) w (fun H1 locs1 w1 => ?_)
  refine lv_ishr hx hb (show decode prog_24_method_54_code 9 = .ok (.ishr, 1) by decide +kernel) ?_
  refine ev_sized (fun hz0 => ?_)
  have hz1 := ev_size w1 (by rw [hz]; exact Nat.le_add_right _ _) hz0
  rw [(jx_tx v h2).2.1]
  exact W.iret hx hb hr (fun t ht hW => jx_Q (o := some (.int (Int32.ofNat (ev_tx v).length))) hK hE w1 hz1 ht hW) w1.2.1.2.2 (show decode prog_24_method_54_code 10 = .ok (.ireturn, 1) by decide +kernel) hlocks
theorem jx_cha_ok (l : Launch) {hp : List AE} {i ch : Int32} {v : Nat} (h1 : 300 ≤ v) (h2 : v < 304) (hr0 : ev_rd (ev_tx v) i = some ch) : Met l jx_cha (.code jx_cha prog_24_method_56_code 2 (some .char) :: gtb) { frames := 3, cells := 0, slots := 0, locals := 96 } (va_Pc [.ref (en v), .int i] (ev_U b en ac D hp)) (ev_Q b en ac D 0 (some (.int ch), hp)) 0 0 (ev_A b) := by
  refine Met.ofW (cc := prog_24_method_56_code) (maxL := 2) (ret := some .char) (by decide) rfl ?_
  intro p e s m args below meth c s₁ B hml hq
  obtain ⟨rfl, hz, hP, hK, hE⟩ := hq
  have hx := B.exec
  have hb := B.bytes
  have hr := B.returns
  have hts := atoms_spec (ws := .code jx_cha prog_24_method_56_code 2 (some .char) :: gtb) B.pre
  have hown : s.vm.findClass "java/lang/String" = some m.cls := findClass_of_methodNamed B.named
  have hlocks := B.notSynchronized
  have hl := lv_entry ([.ref (en v), .int i]) (n := 2) (Nat.le_of_ble_eq_true rfl)
  rw [lg_entry_eq]
  generalize (lg_sl ([.ref (en v), .int i]) ++ List.replicate (2 - (lg_sl ([.ref (en v), .int i])).length) Slot.unset).toArray = ls at hl ⊢
  have hl : lv_has ls 2 [(0, .ref (en v)), (1, .int i)] := hl
  have w : ev_W b en ac D s hp s.heap [] 0 := ⟨hP, va_S.rf, hz⟩
  have hS := hE.2.2.2.2.2.1 v h1 h2
  have hbs : b ≤ s.heap.size := by rw [hz]; exact Nat.le_add_right _ _
  have hJ : jx_C p s m [.ref (en v), .int i].toArray c b en ac D prog_24_method_56_code 2 "java/lang/String" := ⟨hx, hb, hml, hown, fun w hw => hts w (List.mem_cons_of_mem _ hw), hK, hE, hbs⟩
  refine lv_aload_n hx hb (show decode prog_24_method_56_code 0 = .ok (.aload_n 0, 1) by decide +kernel) rfl (lv_at hl 0 rfl) ?_
  refine jx_V (As := []) (q := en v) (rest := []) (n := 0) hJ (jx_lat_ok l h1 h2) (by decide +kernel) (by decide +kernel) ⟨by decide, by decide, by decide +kernel⟩ (jx_recv hE h1 h2 w.2.1) ⟨rfl, rfl, Nat.le_of_ble_eq_true rfl, Nat.le_of_ble_eq_true rfl⟩ rfl hl.1 (Nat.le_of_ble_eq_true rfl) ⟨Nat.zero_le _, Nat.zero_le _⟩ (show decode prog_24_method_56_code 1 = .ok (.invokevirtual 492, 3) by decide +kernel) w (fun H1 locs1 w1 => ?_)
  refine lv_if_eq (tgt := 16) hx hb (show decode prog_24_method_56_code 4 = .ok (.ifCond .eq 12, 3) by decide +kernel) (by decide) (fun hc => absurd hc (by decide)) (fun _ => ?_)
  refine lv_aload_n hx hb (show decode prog_24_method_56_code 7 = .ok (.aload_n 0, 1) by decide +kernel) rfl (lv_at hl 0 rfl) ?_
  refine vk_getf hx hb hS.2.2.2.1 w1.2.1 hown (hts _ (List.mem_cons_of_mem _ (show Jvm.Cond.fieldLink "java/lang/String" 9 "java/lang/String" "value" "[B" ∈ gtb by decide +kernel))) (fun _ h9 => h9) (show decode prog_24_method_56_code 8 = .ok (.getfield 9, 3) by decide +kernel) ?_
  refine lv_iload_n hx hb (show decode prog_24_method_56_code 11 = .ok (.iload_n 1, 1) by decide +kernel) rfl (lv_at hl 1 rfl) ?_
  refine jx_S (As := [.ref (en (v + 10)), .int i]) (rest := []) (n := 2) hJ (jx_chl_ok l h1 h2 hr0) (by decide +kernel) (by decide +kernel) ⟨by decide, by decide, by decide +kernel⟩ ⟨rfl, rfl, Nat.le_of_ble_eq_true rfl, Nat.le_of_ble_eq_true rfl⟩ rfl hl.1 (Nat.le_of_ble_eq_true rfl) ⟨Nat.zero_le _, Nat.zero_le _⟩ (show decode prog_24_method_56_code 12 = .ok (.invokestatic 495, 3) by decide +kernel) w1 (fun H2 locs2 w2 => ?_)
  refine ev_sized (fun hz0 => ?_)
  have hz1 := ev_size w2 hbs hz0
  exact W.zret hx hb hr (jx_ch h2 hr0).2 (fun t ht hW => jx_Q (o := some (.int ch)) hK hE w2 hz1 ht hW) w2.2.1.2.2 (show decode prog_24_method_56_code 15 = .ok (.ireturn, 1) by decide +kernel) hlocks
end
section
variable {p : Program} {l : Launch} {e : Env} {R : Room} {s : State} {m : MethodId} {args : Array Value} {below : List Frame} {meth : Method} {c : Code} {Q : State → Prop} {H : Heap} {locs : List Loc} {b : Nat} {en ac : Nat → Nat} {D : va_G} {M : MT} {mi d : Nat} {res : ev_R}
theorem jx_own (hC : ex_C p s m args meth c b en ac D M mi) : jx_C p s m args c b en ac D (mB M mi) (mL M mi) (mY M mi).cls := ⟨hC.1, hC.2.1, hC.2.2.1, hC.2.2.2.1, hC.2.2.2.2.1, hC.2.2.2.2.2.1, hC.2.2.2.2.2.2.1, hC.2.2.2.2.2.2.2.1⟩
theorem jx_lk {idx : Nat} {own : String} {y : MethodName} (h : ev_all [.methodLink own idx y] = true) (h2 : ev_all [.instanceMethod y, .selects y.cls y y] = true) : ev_all [.methodLink own idx y, .instanceMethod y, .selects y.cls y y] = true := by
  unfold ev_all at *
  rw [List.all_cons, Bool.and_eq_true] at h ⊢
  exact ⟨h.1, h2⟩
theorem ev_call_L (hR : d + 4 ≤ R.frames ∧ 64 * (d + 1) + 256 ≤ R.locals ∧ mC M mi ≤ R.cells ∧ mS M mi ≤ R.slots) (hC : ex_C p s m args meth c b en ac D M mi) {v pc idx k ks : Nat} {ls : Array Slot} {rest : List Value} {L : List (Nat × Value)} {hp : List AE} {K : Nat → List (Nat × Value) → List Value → List AE → Nat → Nat → Option ev_R}
    (kk : ∀ pc L st hp k ks, K pc L st hp k ks = some res → ∀ H locs ls, ev_W b en ac D s hp H locs k → lv_has ls (mL M mi) (ev_L b en L) → W p l e R s m args below meth c H locs k ks Q (F0 m pc ls (st.map (ev_v b en))))
    (h1 : 300 ≤ v) (h2 : v < 304) (hfit : k ≤ mC M mi ∧ ks ≤ mS M mi) (hlk : ev_all [.methodLink (mY M mi).cls idx ⟨"java/lang/String", "length", "()I"⟩] = true) (hroom : (rest.map fun v => v.category).sum ≤ 8) (hdg : decode (mB M mi) pc = .ok (.invokevirtual idx, 3))
    (w : ev_W b en ac D s hp H locs k) (h3 : K (pc + 3) L (.int (Int32.ofNat (ev_tx v).length) :: rest) hp k ks = some res) (hl : lv_has ls (mL M mi) (ev_L b en L)) : W p l e R s m args below meth c H locs k ks Q (F0 m pc ls ((.retAddr v :: rest).map (ev_v b en))) := by
  refine jx_V (As := []) (q := en v) (rest := rest.map (ev_v b en)) (n := 0) (jx_own hC) (jx_len_ok l h1 h2) (by decide +kernel) (jx_lk hlk (by decide +kernel)) ⟨by decide, by decide, by decide +kernel⟩ (jx_recv hC.2.2.2.2.2.2.1 h1 h2 w.2.1) ⟨rfl, rfl, ?_, ?_⟩ rfl hl.1 (by rw [ev_cats]; exact hroom) ⟨Nat.le_trans hfit.1 hR.2.2.1, Nat.le_trans hfit.2 hR.2.2.2⟩ hdg w (fun H1 locs1 w1 => kk _ _ _ _ _ _ h3 _ _ _ w1 hl)
  · exact Nat.le_trans (Nat.le_trans (show 1 + 1 ≤ 4 by decide) (Nat.le_add_left 4 d)) hR.1
  · exact lc_2 (show 8 + (1 + 11) + 32 ≤ 256 by decide) hR.2.1
theorem ev_call_A (hR : d + 4 ≤ R.frames ∧ 64 * (d + 1) + 256 ≤ R.locals ∧ mC M mi ≤ R.cells ∧ mS M mi ≤ R.slots) (hC : ex_C p s m args meth c b en ac D M mi) {v pc idx k ks : Nat} {i ch : Int32} {ls : Array Slot} {rest : List Value} {L : List (Nat × Value)} {hp : List AE} {K : Nat → List (Nat × Value) → List Value → List AE → Nat → Nat → Option ev_R}
    (kk : ∀ pc L st hp k ks, K pc L st hp k ks = some res → ∀ H locs ls, ev_W b en ac D s hp H locs k → lv_has ls (mL M mi) (ev_L b en L) → W p l e R s m args below meth c H locs k ks Q (F0 m pc ls (st.map (ev_v b en))))
    (h1 : 300 ≤ v) (h2 : v < 304) (hfit : k ≤ mC M mi ∧ ks ≤ mS M mi) (hlk : ev_all [.methodLink (mY M mi).cls idx ⟨"java/lang/String", "charAt", "(I)C"⟩] = true) (hroom : (rest.map fun v => v.category).sum ≤ 8) (hr0 : ev_rd (ev_tx v) i = some ch) (hdg : decode (mB M mi) pc = .ok (.invokevirtual idx, 3))
    (w : ev_W b en ac D s hp H locs k) (h3 : K (pc + 3) L (.int ch :: rest) hp k ks = some res) (hl : lv_has ls (mL M mi) (ev_L b en L)) : W p l e R s m args below meth c H locs k ks Q (F0 m pc ls ((.int i :: .retAddr v :: rest).map (ev_v b en))) := by
  refine jx_V (As := [.int i]) (q := en v) (rest := rest.map (ev_v b en)) (n := 1) (jx_own hC) (jx_cha_ok l h1 h2 hr0) (by decide +kernel) (jx_lk hlk (by decide +kernel)) ⟨by decide, by decide, by decide +kernel⟩ (jx_recv hC.2.2.2.2.2.2.1 h1 h2 w.2.1) ⟨rfl, rfl, ?_, ?_⟩ rfl hl.1 (by rw [ev_cats]; exact hroom) ⟨Nat.le_trans hfit.1 hR.2.2.1, Nat.le_trans hfit.2 hR.2.2.2⟩ hdg w (fun H1 locs1 w1 => kk _ _ _ _ _ _ h3 _ _ _ w1 hl)
  · exact Nat.le_trans (Nat.le_add_left 4 d) hR.1
  · exact lc_2 (show 8 + (2 + 11) + 96 ≤ 256 by decide) hR.2.1
end
