/-! ===== a contract that is checked holds ===== -/
section
variable {G : GT} {M : MT} {cs : List CO} {C : CO} {dd : Nat} {ρ0 : List Int} {hp0 : List AE}
theorem lab_ok {F : Nat} (hcs : ∀ C ∈ cs, CoOk G M C) (hdd : cDep C = dd + 1) (hm : mC M (cMi C) = 0 ∧ mS M (cMi C) = 0) (h0 : ρ0.length = (cE C).length) (hLl : (cL C).length < 524288) (hL : runL M G cs C F 0 (cL C) = true) :
    ∀ (a v n : Nat) (lb : LB), (cL C)[n]? = some lb → 1000000 - lb.2.1 = a → ∀ ρ L st hp, st_ok G ρ lb.2.2.2.1 L st hp → (∃ τ, ρ = ρ0 ++ τ) → Agr (cW C) hp0 hp → ∀ z, (lb.2.2.1 ≠ 0 → ρ[(cE C).length]? = some z) → rk lb.2.2.1 z * 1048576 + (524288 - n) = v → Done G M C dd ρ0 hp0 lb.1 L st hp := by
  have hrk : ∀ (n : Nat) (lb : LB), (cL C)[n]? = some lb → lb.2.2.1 ≠ 0 → rkB (cE C).length lb = true := fun n lb hn hk => by
    have h1 := (runL_ok hL hn).1
    rw [show Nat.beq lb.2.2.1 0 = false from by cases hb : Nat.beq lb.2.2.1 0 with
      | false => rfl
      | true => exact absurd (Nat.eq_of_beq_eq_true hb) hk] at h1
    exact h1
  intro a
  induction a using Nat.strongRecOn with
  | ind a iha =>
    intro v
    induction v using Nat.strongRecOn with
    | ind v ihv =>
      intro n lb hn ha ρ L st hp h hρ hg z hz hv
      obtain ⟨-, hph, hrun⟩ := runL_ok hL hn
      rw [Nat.zero_add] at hrun
      have hnl : n < (cL C).length := (List.getElem?_eq_some_iff.mp hn).1
      refine run_ok (ρs := ρ) (zs := z) hcs hdd hm h0 hρ hz ?_ (by omega) hLl hrk ?_ F lb.1 lb.2.2.2.1 ρ L st hp hrun h ⟨[], by rw [List.append_nil]⟩ hg
      · intro n2 lb2 hn2 ρ2 L2 st2 hp2 h2 hρ2 hg2 hlt
        obtain ⟨-, hph2, -⟩ := runL_ok hL hn2
        have hex : ∃ z2, lb2.2.2.1 ≠ 0 → ρ2[(cE C).length]? = some z2 := by
          by_cases hk : lb2.2.2.1 = 0
          · exact ⟨0, fun q => absurd hk q⟩
          · have hb := hrk n2 lb2 hn2 hk
            unfold rkB at hb
            rw [Bool.and_eq_true, Bool.and_eq_true] at hb
            have hlen : (cE C).length < ρ2.length := by
              rw [h2.1.1]
              exact Nat.le_of_ble_eq_true hb.1.1
            exact ⟨ρ2[(cE C).length], fun _ => List.getElem?_eq_getElem hlen⟩
        obtain ⟨z2, hz2⟩ := hex
        rcases hlt z2 hz2 with hlt | ⟨e1, e2, e3, e4⟩
        · exact iha (1000000 - lb2.2.1) (by omega) _ n2 lb2 hn2 rfl ρ2 L2 st2 hp2 h2 hρ2 hg2 z2 hz2 rfl
        · exact ihv _ (by omega) n2 lb2 hn2 (by omega) ρ2 L2 st2 hp2 h2 hρ2 hg2 z2 hz2 rfl
      · intro hk
        have hb := hrk n lb hn hk
        unfold rkB at hb
        rw [Bool.and_eq_true, Bool.and_eq_true] at hb
        have b1 := of_decide_eq_true hb.1.2
        have b2 := of_decide_eq_true hb.2
        obtain ⟨y1, y2, -⟩ := eg_ok h.1 (hz hk)
        omega
theorem sla_ok {ρ : List Int} : ∀ {A : List SV} {As : List Value} (i : Nat), ss_ok ρ A As → (∀ q ∈ sla i A, i ≤ q.1) ∧ sl_ok ρ (sla i A) (lv_args i As)
  | [], [], i, _ => ⟨fun q hq => (by cases hq), fun q hq => (by cases hq)⟩
  | a :: A, v :: As, i, h => by
    have hc : (if v.category = 2 then i + 2 else i + 1) = cond (Nat.beq a.1 1) (i + 2) (i + 1) := by
      rw [sv_cat h.1]
      cases Nat.beq a.1 1 <;> rfl
    obtain ⟨h1, h2⟩ := sla_ok (cond (Nat.beq a.1 1) (i + 2) (i + 1)) h.2
    have hge : i + 1 ≤ cond (Nat.beq a.1 1) (i + 2) (i + 1) := by cases Nat.beq a.1 1 <;> simp
    refine ⟨fun q hq => ?_, fun q hq => ?_⟩
    · rcases List.mem_cons.mp hq with rfl | hq
      · exact Nat.le_refl _
      · have := h1 q hq; omega
    · show ∃ w, ev_g ((i, v) :: lv_args (if v.category = 2 then i + 2 else i + 1) As) q.1 = some w ∧ _
      rw [hc]
      rcases List.mem_cons.mp hq with rfl | hq
      · exact ⟨v, ev_g_hd, h.1⟩
      · obtain ⟨w, e1, e2⟩ := h2 q hq
        have := h1 q hq
        refine ⟨w, ev_g_tl ?_ e1, e2⟩
        cases hb : Nat.beq i q.1 with
        | false => rfl
        | true => have := Nat.eq_of_beq_eq_true hb; omega
  | [], _ :: _, _, h => h.elim
  | _ :: _, [], _, h => h.elim
theorem sl_len {ρ : List Int} : ∀ {A : List SV} {As : List Value}, ss_ok ρ A As → (lg_sl As).length = scat A
  | [], [], _ => rfl
  | a :: A, v :: As, h => by
    have := sl_len h.2
    unfold lg_sl at *
    unfold scat at *
    rw [List.flatMap_cons, List.length_append, this, List.map_cons, List.sum_cons, sv_cat h.1]
    cases Nat.beq a.1 1 <;> rfl
  | [], _ :: _, h => h.elim
  | _ :: _, [], h => h.elim
theorem chk_ok {F : Nat} (hcs : ∀ C ∈ cs, CoOk G M C) (h : chk M G cs C F = true) (c8 : runL M G cs C F 0 (cL C) = true) : CoOk G M C := by
  unfold chk at h
  simp only [Bool.and_eq_true] at h
  obtain ⟨⟨⟨⟨⟨⟨c1, c2⟩, c3⟩, c4⟩, c5⟩, c6⟩, c7⟩ := h
  have hm : mC M (cMi C) = 0 ∧ mS M (cMi C) = 0 := ⟨Nat.eq_of_beq_eq_true c1, Nat.eq_of_beq_eq_true c2⟩
  have c3 := Nat.le_of_ble_eq_true c3
  have c4 := Nat.le_of_ble_eq_true c4
  have c5 := Nat.le_of_ble_eq_true c5
  have c6 : (cL C).length < 524288 := Nat.le_of_ble_eq_true c6
  refine ⟨hm.1, hm.2, fun ρ As hp hE hA hP hG => ?_⟩
  obtain ⟨dd, hdd⟩ : ∃ dd, cDep C = dd + 1 := ⟨cDep C - 1, by omega⟩
  have h0 : ρ.length = (cE C).length := hE.1
  have hrk : ∀ (n : Nat) (lb : LB), (cL C)[n]? = some lb → lb.2.2.1 ≠ 0 → rkB (cE C).length lb = true := fun n lb hn hk => by
    have h1 := (runL_ok c8 hn).1
    rw [show Nat.beq lb.2.2.1 0 = false from by cases hb : Nat.beq lb.2.2.1 0 with
      | false => rfl
      | true => exact absurd (Nat.eq_of_beq_eq_true hb) hk] at h1
    exact h1
  have hst : st_ok G ρ (cE C, sla 0 (cA C), [], cP C) (lv_args 0 As) [] hp := ⟨hE, (sla_ok 0 hA).2, trivial, hP, hG⟩
  obtain ⟨Sm, hSm, τm, hstm⟩ := matS_ok (cX C) [_] ρ ⟨_, List.mem_singleton.mpr rfl, hst⟩
  have c7 := List.all_eq_true.mp c7 Sm hSm
  obtain ⟨q, ⟨N, hN⟩, hq⟩ : Done G M C dd ρ hp 0 (lv_args 0 As) [] hp := by
    refine run_ok (ρs := ρ) (zs := 0) (ph := 0) (kd := 0) (ix := 0) hcs hdd hm h0 ⟨[], by rw [List.append_nil]⟩ (fun q => absurd rfl q) ?_ (by omega) c6 hrk (fun q => absurd rfl q) F 0 _ (ρ ++ τm) _ _ hp c7 hstm ⟨τm, rfl⟩ Agr.rf
    intro n2 lb2 hn2 ρ2 L2 st2 hp2 h2 hρ2 hg2 _
    have hex : ∃ z2, lb2.2.2.1 ≠ 0 → ρ2[(cE C).length]? = some z2 := by
      by_cases hk : lb2.2.2.1 = 0
      · exact ⟨0, fun q => absurd hk q⟩
      · have hb := hrk n2 lb2 hn2 hk
        unfold rkB at hb
        rw [Bool.and_eq_true, Bool.and_eq_true] at hb
        have hlen : (cE C).length < ρ2.length := by
          rw [h2.1.1]
          exact Nat.le_of_ble_eq_true hb.1.1
        exact ⟨ρ2[(cE C).length], fun _ => List.getElem?_eq_getElem hlen⟩
    obtain ⟨z2, hz2⟩ := hex
    exact lab_ok hcs hdd hm h0 c6 c8 _ _ n2 lb2 hn2 rfl ρ2 L2 st2 hp2 h2 hρ2 hg2 z2 hz2 rfl
  refine ⟨q, ⟨N, fun F' hF d hd => ?_⟩, hq⟩
  cases d with
  | zero => omega
  | succ d =>
    show (if (lg_sl As).length ≤ mL M (cMi C) ∧ mL M (cMi C) ≤ 40 then ev_r M (evF F' M d) (cMi C) F' 0 (lv_args 0 As) [] hp 0 0 else none) = _
    rw [if_pos ⟨by rw [sl_len hA]; exact c3, c4⟩]
    exact hN F' hF F' hF d (by omega)
end
