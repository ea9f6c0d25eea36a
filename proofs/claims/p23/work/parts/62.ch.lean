/-! ===== one instruction, symbolically ===== -/
def sy_po (i : Instr) (x y pc : Nat) (S : SS) : Option (List (Nat × SS)) := match po i x y with
  | some (n, f) => (match f S.1 S.2.2.1 with
    | some q => some [(pc + n, (q.1, S.2.1, q.2.1 :: q.2.2, S.2.2.2))]
    | none => none)
  | none => none
def orE (a b : Option (List (Nat × SS))) : Option (List (Nat × SS)) := match a with
  | some l => some l
  | none => b
def sy_step (M : MT) (G : GT) (W : WR) (cs : List CO) (dep mi pc : Nat) (i : Instr) (x y : Nat) (S : SS) : Option (List (Nat × SS)) :=
  match i with
  | .iload_n n => sy_ld 0 n 1 pc S
  | .iload n => sy_ld 0 n 2 pc S
  | .lload_n n => sy_ld 1 n 1 pc S
  | .lload n => sy_ld 1 n 2 pc S
  | .aload_n n => sy_ld 2 n 1 pc S
  | .aload n => sy_ld 2 n 2 pc S
  | .istore_n n => sy_st 0 n 1 pc (mL M mi) S
  | .istore n => sy_st 0 n 2 pc (mL M mi) S
  | .lstore_n n => sy_st 1 n 1 pc (mL M mi) S
  | .lstore n => sy_st 1 n 2 pc (mL M mi) S
  | .astore_n n => sy_st 2 n 1 pc (mL M mi) S
  | .astore n => sy_st 2 n 2 pc (mL M mi) S
  | .iinc n d => sy_inc n d pc (mL M mi) S
  | .dup => sy_dup pc S
  | .dup2 => sy_dup2 pc S
  | .pop => sy_pop pc S
  | .lcmp => sy_lc pc S
  | .goto _ => some [(x, S)]
  | .ifCond .eq _ => sy_if 0 x pc S
  | .ifCond .ne _ => sy_if 1 x pc S
  | .ifCond .lt _ => sy_if 2 x pc S
  | .ifCond .ge _ => sy_if 3 x pc S
  | .ifCond .gt _ => sy_if 4 x pc S
  | .ifCond .le _ => sy_if 5 x pc S
  | .if_icmp .eq _ => sy_ic 0 x pc S
  | .if_icmp .ne _ => sy_ic 1 x pc S
  | .if_icmp .lt _ => sy_ic 2 x pc S
  | .if_icmp .ge _ => sy_ic 3 x pc S
  | .if_icmp .gt _ => sy_ic 4 x pc S
  | .if_icmp .le _ => sy_ic 5 x pc S
  | .if_acmp .eq _ => sy_ac 0 x pc S
  | .if_acmp .ne _ => sy_ac 1 x pc S
  | .tableswitch dflt lo hi offs => sy_ts dflt lo hi offs pc S
  | .lookupswitch dflt ps => sy_ls dflt ps pc S
  | .getfield _ => sy_gf G x y pc S
  | .putfield _ => sy_pf G W x y pc S
  | .getstatic _ => sy_gs x pc S
  | .arraylength => sy_len G pc S
  | .iaload => orE (sy_rw G pc S) (orE (sy_wd G pc S) (sy_ial G [1] pc S))
  | .baload => sy_ial G [0, 3] pc S
  | .laload => sy_lal G pc S
  | .aaload => sy_aal G pc S
  | .iastore => sy_ias G W pc S
  | .bastore => sy_bas G W pc S
  | .lastore => sy_las G W pc S
  | .aastore => sy_aas G W pc S
  | .invokevirtual _ => cond (Nat.blt x 900) (sy_call M G W cs dep true x (y + 1) pc S) (sy_jv x pc S)
  | .invokestatic _ => cond (Nat.blt x 900) (sy_call M G W cs dep false x y pc S) (cond (Nat.beq x 904) (sy_cy G W pc S) (sy_mm x pc S))
  | .iand => orE (sy_an pc S) (sy_po .iand x y pc S)
  | .imul => orE (sy_m4 pc S) (orE (sy_ml pc S) (sy_po .imul x y pc S))
  | .idiv => orE (sy_d2 pc S) (sy_po .idiv x y pc S)
  | i => sy_po i x y pc S
section
variable {G : GT} {W : WR} {M : MT} {dd mi pc x y : Nat} {ρ : List Int} {S : SS} {L : List (Nat × Value)} {st : List Value} {hp : List AE} {l : List (Nat × SS)} {i : Instr} {cs : List CO} {dep : Nat}
theorem tg0 {a : SV} (h : tgo 0 a = true) (hv : ∃ v, sv_ok ρ a v) : a.1 = 0 := Nat.eq_of_beq_eq_true h
theorem tv0 {a : SV} {v : Value} (hv : sv_ok ρ a v) (h : tgo 0 a = true) : ∃ b, v = .int b := by
  have e : a.1 = 0 := Nat.eq_of_beq_eq_true h
  obtain ⟨t, k, c⟩ := a
  simp only at e
  subst e
  obtain ⟨b, z, h1, -⟩ := hv
  exact ⟨b, h1⟩
theorem tv1 {a : SV} {v : Value} (hv : sv_ok ρ a v) (h : tgo 1 a = true) : ∃ b, v = .long b := by
  have e : a.1 = 1 := Nat.eq_of_beq_eq_true h
  obtain ⟨t, k, c⟩ := a
  simp only at e
  subst e
  obtain ⟨b, z, h1, -⟩ := hv
  exact ⟨b, h1⟩
theorem tv2 {a : SV} {v : Value} (hv : sv_ok ρ a v) (h : tgo 2 a = true) : (∃ b, v = .ref b) ∨ ∃ b, v = .retAddr b := by
  have e : 2 ≤ a.1 := Nat.le_of_ble_eq_true h
  obtain ⟨t, k, c⟩ := a
  match t, e, hv with
  | 2, _, hv => exact Or.inl ⟨_, hv⟩
  | 3, _, ⟨n, z, h1, _⟩ => exact Or.inr ⟨n, h1⟩
  | t + 4, _, hv => exact Or.inr ⟨_, hv⟩
theorem ld0 {n len : Nat} (hi : ∀ cf K, ev_s M cf mi pc i x y L st hp 0 0 K = (ev_g L n).bind fun v => match v with
      | .int w => K (pc + len) L (.int w :: st) hp 0 0
      | _ => none) : ∀ v a cf K, ev_g L n = some v → sv_ok ρ a v → tgo 0 a = true → ev_s M cf mi pc i x y L st hp 0 0 K = K (pc + len) L (v :: st) hp 0 0 := fun v a cf K h1 h2 h3 => by
  obtain ⟨b, rfl⟩ := tv0 h2 h3
  rw [hi, h1]
  rfl
theorem ld1 {n len : Nat} (hi : ∀ cf K, ev_s M cf mi pc i x y L st hp 0 0 K = (ev_g L n).bind fun v => match v with
      | .long w => K (pc + len) L (.long w :: st) hp 0 0
      | _ => none) : ∀ v a cf K, ev_g L n = some v → sv_ok ρ a v → tgo 1 a = true → ev_s M cf mi pc i x y L st hp 0 0 K = K (pc + len) L (v :: st) hp 0 0 := fun v a cf K h1 h2 h3 => by
  obtain ⟨b, rfl⟩ := tv1 h2 h3
  rw [hi, h1]
  rfl
theorem ld2 {n len : Nat} (hi : ∀ cf K, ev_s M cf mi pc i x y L st hp 0 0 K = (ev_g L n).bind fun v => match v with
      | .ref w => K (pc + len) L (.ref w :: st) hp 0 0
      | .retAddr w => K (pc + len) L (.retAddr w :: st) hp 0 0
      | _ => none) : ∀ v a cf K, ev_g L n = some v → sv_ok ρ a v → tgo 2 a = true → ev_s M cf mi pc i x y L st hp 0 0 K = K (pc + len) L (v :: st) hp 0 0 := fun v a cf K h1 h2 h3 => by
  rcases tv2 h2 h3 with ⟨b, rfl⟩ | ⟨b, rfl⟩
  · rw [hi, h1]
    rfl
  · rw [hi, h1]
    rfl
theorem iflt (b : Int32) : (if decide (b < 0) = true then cmpP 2 b.toInt 0 else ¬ cmpP 2 b.toInt 0) := by
  by_cases q : b < 0
  · rw [if_pos (decide_eq_true q)]; exact Int32.lt_iff_toInt_lt.mp q
  · rw [if_neg (by simpa using q)]; exact fun p => q (Int32.lt_iff_toInt_lt.mpr p)
theorem clt (a b : Int32) : (if decide (a < b) = true then cmpP 2 a.toInt b.toInt else ¬ cmpP 2 a.toInt b.toInt) := by
  by_cases q : a < b
  · rw [if_pos (decide_eq_true q)]; exact Int32.lt_iff_toInt_lt.mp q
  · rw [if_neg (by simpa using q)]; exact fun p => q (Int32.lt_iff_toInt_lt.mpr p)
theorem cge (a b : Int32) : (if decide (b ≤ a) = true then cmpP 3 a.toInt b.toInt else ¬ cmpP 3 a.toInt b.toInt) := by
  by_cases q : b ≤ a
  · rw [if_pos (decide_eq_true q)]; exact Int32.le_iff_toInt_le.mp q
  · rw [if_neg (by simpa using q)]; exact fun p => q (Int32.le_iff_toInt_le.mpr p)
theorem cgt (a b : Int32) : (if decide (b < a) = true then cmpP 4 a.toInt b.toInt else ¬ cmpP 4 a.toInt b.toInt) := by
  by_cases q : b < a
  · rw [if_pos (decide_eq_true q)]; exact Int32.lt_iff_toInt_lt.mp q
  · rw [if_neg (by simpa using q)]; exact fun p => q (Int32.lt_iff_toInt_lt.mpr p)
theorem cle (a b : Int32) : (if decide (a ≤ b) = true then cmpP 5 a.toInt b.toInt else ¬ cmpP 5 a.toInt b.toInt) := by
  by_cases q : a ≤ b
  · rw [if_pos (decide_eq_true q)]; exact Int32.le_iff_toInt_le.mp q
  · rw [if_neg (by simpa using q)]; exact fun p => q (Int32.le_iff_toInt_le.mpr p)
theorem ceq (a b : Int32) : (if decide (a = b) = true then cmpP 0 a.toInt b.toInt else ¬ cmpP 0 a.toInt b.toInt) := by
  by_cases q : a = b
  · rw [if_pos (decide_eq_true q)]; exact congrArg _ q
  · rw [if_neg (by simpa using q)]; exact fun p => q (Int32.toInt_inj.mp p)
theorem cne (a b : Int32) : (if (!decide (a = b)) = true then cmpP 1 a.toInt b.toInt else ¬ cmpP 1 a.toInt b.toInt) := by
  by_cases q : a = b
  · rw [if_neg (by simpa using q)]; exact fun p => p (congrArg _ q)
  · rw [if_pos (by simpa using q)]; exact fun p => q (Int32.toInt_inj.mp p)
theorem sy_po_ok (hf : mF M mi pc = some (i, x, y)) (h : st_ok G ρ S L st hp) (hr : sy_po i x y pc S = some l) : SOk G W M dd mi pc ρ L st hp l := by
  unfold sy_po at hr
  split at hr
  · rename_i n f hp0
    split at hr
    · rename_i q hq
      cases hr
      exact sy_push_ok (po_ok hp0) hf h hq
    · cases hr
  · cases hr
theorem orE_ok {a b : Option (List (Nat × SS))} (h : orE a b = some l) : a = some l ∨ b = some l := by
  unfold orE at h
  split at h
  · exact Or.inl h
  · exact Or.inr h
theorem sy_step_ok (hcs : ∀ C ∈ cs, CoOk G M C) (hdd : dep = dd + 1) (hm : mC M mi = 0 ∧ mS M mi = 0) (hf : mF M mi pc = some (i, x, y)) (h : st_ok G ρ S L st hp) (hr : sy_step M G W cs dep mi pc i x y S = some l) : SOk G W M dd mi pc ρ L st hp l := by
  unfold sy_step at hr
  split at hr
  · exact sy_ld_ok (ld0 (fun _ _ => rfl)) hf h hr
  · exact sy_ld_ok (ld0 (fun _ _ => rfl)) hf h hr
  · exact sy_ld_ok (ld1 (fun _ _ => rfl)) hf h hr
  · exact sy_ld_ok (ld1 (fun _ _ => rfl)) hf h hr
  · exact sy_ld_ok (ld2 (fun _ _ => rfl)) hf h hr
  · exact sy_ld_ok (ld2 (fun _ _ => rfl)) hf h hr
  · rename_i n
    exact sy_st_ok (fun v r a cf K h2 h3 h4 => by
      obtain ⟨b, rfl⟩ := tv0 h2 h3
      show (if (n : Nat) < mL M mi then _ else none) = _
      rw [if_pos (show (n : Nat) < mL M mi from h4)]
      rfl) hf h hr
  · rename_i n
    exact sy_st_ok (fun v r a cf K h2 h3 h4 => by
      obtain ⟨b, rfl⟩ := tv0 h2 h3
      show (if n < mL M mi then _ else none) = _
      rw [if_pos (show n < mL M mi from h4)]
      rfl) hf h hr
  · rename_i n
    exact sy_st_ok (fun v r a cf K h2 h3 h4 => by
      obtain ⟨b, rfl⟩ := tv1 h2 h3
      show (if (n : Nat) + 1 < mL M mi then _ else none) = _
      rw [if_pos (show (n : Nat) + 1 < mL M mi from h4)]
      rfl) hf h hr
  · rename_i n
    exact sy_st_ok (fun v r a cf K h2 h3 h4 => by
      obtain ⟨b, rfl⟩ := tv1 h2 h3
      show (if n + 1 < mL M mi then _ else none) = _
      rw [if_pos (show n + 1 < mL M mi from h4)]
      rfl) hf h hr
  · rename_i n
    exact sy_st_ok (fun v r a cf K h2 h3 h4 => by
      rcases tv2 h2 h3 with ⟨b, rfl⟩ | ⟨b, rfl⟩
      · show (if (n : Nat) < mL M mi then _ else none) = _
        rw [if_pos (show (n : Nat) < mL M mi from h4)]
        rfl
      · show (if (n : Nat) < mL M mi then _ else none) = _
        rw [if_pos (show (n : Nat) < mL M mi from h4)]
        rfl) hf h hr
  · rename_i n
    exact sy_st_ok (fun v r a cf K h2 h3 h4 => by
      rcases tv2 h2 h3 with ⟨b, rfl⟩ | ⟨b, rfl⟩
      · show (if n < mL M mi then _ else none) = _
        rw [if_pos (show n < mL M mi from h4)]
        rfl
      · show (if n < mL M mi then _ else none) = _
        rw [if_pos (show n < mL M mi from h4)]
        rfl) hf h hr
  · exact sy_inc_ok hf h hr
  · exact sy_dup_ok hf h hr
  · exact sy_dup2_ok hf h hr
  · exact sy_pop_ok hf h hr
  · exact sy_lc_ok hf h hr
  · cases hr; exact sy_goto_ok hf h
  · exact sy_if_ok (fun b => decide (b = 0)) (fun b => ceq b 0) (fun b r cf K => by show K (if b = 0 then x else pc + 3) L r hp 0 0 = _; by_cases q : b = 0 <;> simp [q]) hf h hr
  · exact sy_if_ok (fun b => !decide (b = 0)) (fun b => cne b 0) (fun b r cf K => by show K (if b = 0 then pc + 3 else x) L r hp 0 0 = _; by_cases q : b = 0 <;> simp [q]) hf h hr
  · exact sy_if_ok (fun b => decide (b < 0)) (fun b => clt b 0) (fun b r cf K => by show K (if b < 0 then x else pc + 3) L r hp 0 0 = _; by_cases q : b < 0 <;> simp only [q, if_true, if_false, decide_true, decide_false, Bool.false_eq_true]) hf h hr
  · exact sy_if_ok (fun b => decide (0 ≤ b)) (fun b => cge b 0) (fun b r cf K => by show K (if 0 ≤ b then x else pc + 3) L r hp 0 0 = _; by_cases q : 0 ≤ b <;> simp only [q, if_true, if_false, decide_true, decide_false, Bool.false_eq_true]) hf h hr
  · exact sy_if_ok (fun b => decide (0 < b)) (fun b => cgt b 0) (fun b r cf K => by show K (if 0 < b then x else pc + 3) L r hp 0 0 = _; by_cases q : 0 < b <;> simp only [q, if_true, if_false, decide_true, decide_false, Bool.false_eq_true]) hf h hr
  · exact sy_if_ok (fun b => decide (b ≤ 0)) (fun b => cle b 0) (fun b r cf K => by show K (if b ≤ 0 then x else pc + 3) L r hp 0 0 = _; by_cases q : b ≤ 0 <;> simp only [q, if_true, if_false, decide_true, decide_false, Bool.false_eq_true]) hf h hr
  · exact sy_ic_ok (fun a b => decide (a = b)) (fun a b => ceq a b) (fun a b r cf K => by show K (if a = b then x else pc + 3) L r hp 0 0 = _; by_cases q : a = b <;> simp [q]) hf h hr
  · exact sy_ic_ok (fun a b => !decide (a = b)) (fun a b => cne a b) (fun a b r cf K => by show K (if a = b then pc + 3 else x) L r hp 0 0 = _; by_cases q : a = b <;> simp [q]) hf h hr
  · exact sy_ic_ok (fun a b => decide (a < b)) (fun a b => clt a b) (fun a b r cf K => by show K (if a < b then x else pc + 3) L r hp 0 0 = _; by_cases q : a < b <;> simp only [q, if_true, if_false, decide_true, decide_false, Bool.false_eq_true]) hf h hr
  · exact sy_ic_ok (fun a b => decide (b ≤ a)) (fun a b => cge a b) (fun a b r cf K => by show K (if b ≤ a then x else pc + 3) L r hp 0 0 = _; by_cases q : b ≤ a <;> simp only [q, if_true, if_false, decide_true, decide_false, Bool.false_eq_true]) hf h hr
  · exact sy_ic_ok (fun a b => decide (b < a)) (fun a b => cgt a b) (fun a b r cf K => by show K (if b < a then x else pc + 3) L r hp 0 0 = _; by_cases q : b < a <;> simp only [q, if_true, if_false, decide_true, decide_false, Bool.false_eq_true]) hf h hr
  · exact sy_ic_ok (fun a b => decide (a ≤ b)) (fun a b => cle a b) (fun a b r cf K => by show K (if a ≤ b then x else pc + 3) L r hp 0 0 = _; by_cases q : a ≤ b <;> simp only [q, if_true, if_false, decide_true, decide_false, Bool.false_eq_true]) hf h hr
  · exact sy_ac_ok (fun a b => decide (a = b)) (fun a b => by
      by_cases q : a = b
      · rw [if_pos (decide_eq_true q)]; exact congrArg _ q
      · rw [if_neg (by simpa using q)]; exact fun p => q (Int.ofNat_inj.mp p)) (fun a b r cf K ha hb => by
      show (if b < 32 ∧ a < 32 then K (if a = b then x else pc + 3) L r hp 0 0 else none) = _
      rw [if_pos ⟨hb, ha⟩]
      by_cases q : a = b <;> simp [q]) hf h hr
  · exact sy_ac_ok (fun a b => !decide (a = b)) (fun a b => by
      by_cases q : a = b
      · rw [if_neg (by simpa using q)]; exact fun p => p (congrArg _ q)
      · rw [if_pos (by simpa using q)]; exact fun p => q (Int.ofNat_inj.mp p)) (fun a b r cf K ha hb => by
      show (if b < 32 ∧ a < 32 then K (if a = b then pc + 3 else x) L r hp 0 0 else none) = _
      rw [if_pos ⟨hb, ha⟩]
      by_cases q : a = b <;> simp [q]) hf h hr
  · exact sy_ts_ok hf h hr
  · exact sy_ls_ok hf h hr
  · exact sy_gf_ok hf h hr
  · exact sy_pf_ok hf h hr
  · exact sy_gs_ok hf h hr
  · exact sy_len_ok hf h hr
  · rcases orE_ok hr with hr | hr
    · exact sy_rw_ok hf h hr
    rcases orE_ok hr with hr | hr
    · exact sy_wd_ok hf h hr
    refine sy_ial_ok (fun t a b li r cf K ht h1 h2 h3 => ?_) (fun b r cf K ht h2 h3 => ?_) hf h hr
    · have e := List.mem_singleton.mp ht
      subst e
      show (ev_ai hp a).bind _ = _
      have e4 : ev_ai hp a = some (1, li) := by unfold ev_ai; rw [h1]
      rw [e4]
      show (if (1 : Nat) = 1 then (ev_rd li b).bind (fun v => K (pc + 1) L (.int v :: r) hp 0 0) else none) = _
      rw [if_pos rfl, rd_ok h2 h3]
      rfl
    · show (if 100 = 100 then (ev_rd ev_sw b).bind (fun v => K (pc + 1) L (.int v :: r) hp 0 0) else none) = _
      have hl : b.toNatClampNeg < ev_sw.length := by rw [sw_len]; exact h3
      rw [if_pos rfl, rd_ok h2 hl]
      show K (pc + 1) L (.int ev_sw[b.toNatClampNeg] :: r) hp 0 0 = _
      rw [List.getD_eq_getElem?_getD, List.getElem?_eq_getElem hl]
      rfl
  · refine sy_ial_ok (fun t a b li r cf K ht h1 h2 h3 => ?_) (fun b r cf K ht h2 h3 => by simp at ht) hf h hr
    show (ev_ai hp a).bind _ = _
    have e4 : ev_ai hp a = some (t, li) := by unfold ev_ai; rw [h1]
    rw [e4]
    show (if t = 0 ∨ t = 3 then (ev_rd li b).bind (fun v => K (pc + 1) L (.int v :: r) hp 0 0) else none) = _
    rw [if_pos (by simpa using ht), rd_ok h2 h3]
    rfl
  · exact sy_lal_ok hf h hr
  · exact sy_aal_ok hf h hr
  · exact sy_ias_ok hf h hr
  · exact sy_bas_ok hf h hr
  · exact sy_las_ok hf h hr
  · exact sy_aas_ok hf h hr
  · cases hc : Nat.blt x 900 with
    | true => rw [hc] at hr; exact sy_callV_ok hcs hdd hf hm h hr
    | false => rw [hc] at hr; exact sy_jv_ok hf h hr
  · cases hc : Nat.blt x 900 with
    | true => rw [hc] at hr; exact sy_callS_ok hcs hdd hf hm h hr
    | false =>
      rw [hc] at hr
      simp only [cond_false] at hr
      cases hc2 : Nat.beq x 904 with
      | true =>
        rw [hc2] at hr
        have e := Nat.eq_of_beq_eq_true hc2
        subst e
        exact sy_cy_ok hf h hr
      | false => rw [hc2] at hr; exact sy_mm_ok hf h hr
  · rcases orE_ok hr with hr | hr
    · exact sy_an_ok hf h hr
    · exact sy_po_ok hf h hr
  · rcases orE_ok hr with hr | hr
    · exact sy_m4_ok hf h hr
    rcases orE_ok hr with hr | hr
    · exact sy_ml_ok hf h hr
    · exact sy_po_ok hf h hr
  · rcases orE_ok hr with hr | hr
    · exact sy_d2_ok hf h hr
    · exact sy_po_ok hf h hr
  · exact sy_po_ok hf h hr
end
