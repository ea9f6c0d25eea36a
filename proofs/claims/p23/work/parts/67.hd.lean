/-! ===== contracts some of whose places are shown by hand ===== -/
section
variable {G : GT} {M : MT} {cs : List CO} {C : CO} {dd : Nat} {ρ0 : List Int} {hp0 : List AE} {Q : ev_R → Prop}
theorem app_at {Lp Lh : List LB} {n : Nat} {lb : LB} (h : (Lp ++ Lh)[n]? = some lb) : Lp[n]? = some lb ∨ lb ∈ Lh := by
  by_cases hn : n < Lp.length
  · rw [List.getElem?_append_left hn] at h
    exact Or.inl h
  · rw [List.getElem?_append_right (by omega)] at h
    exact Or.inr (List.mem_of_getElem? h)
theorem lab_okQ {F : Nat} {Lp Lh : List LB} (hQ : ∀ q, EndOk G C ρ0 hp0 q → Q q) (hcs : ∀ C ∈ cs, CoOk G M C) (hdd : cDep C = dd + 1) (hm : mC M (cMi C) = 0 ∧ mS M (cMi C) = 0) (h0 : ρ0.length = (cE C).length) (hLl : (cL C).length < 524288) (hsp : cL C = Lp ++ Lh) (hL : runL M G cs C F 0 Lp = true)
    (hk0 : ∀ lb ∈ Lh, lb.2.2.1 = 0) (hand : ∀ lb ∈ Lh, ∀ ρ L st hp, st_ok G ρ lb.2.2.2.1 L st hp → (∃ τ, ρ = ρ0 ++ τ) → Agr (cW C) hp0 hp → ∃ q, RT M dd (cMi C) lb.1 L st hp q ∧ Q q) :
    ∀ (a v n : Nat) (lb : LB), (cL C)[n]? = some lb → 1000000 - lb.2.1 = a → ∀ ρ L st hp, st_ok G ρ lb.2.2.2.1 L st hp → (∃ τ, ρ = ρ0 ++ τ) → Agr (cW C) hp0 hp → ∀ z, (lb.2.2.1 ≠ 0 → ρ[(cE C).length]? = some z) → rk lb.2.2.1 z * 1048576 + (524288 - n) = v → ∃ q, RT M dd (cMi C) lb.1 L st hp q ∧ Q q := by
  have hrk : ∀ (n : Nat) (lb : LB), (cL C)[n]? = some lb → lb.2.2.1 ≠ 0 → rkB (cE C).length lb = true := fun n lb hn hk => by
    rw [hsp] at hn
    rcases app_at hn with hn | hn
    · have h1 := (runL_ok hL hn).1
      rw [show Nat.beq lb.2.2.1 0 = false from by cases hb : Nat.beq lb.2.2.1 0 with
        | false => rfl
        | true => exact absurd (Nat.eq_of_beq_eq_true hb) hk] at h1
      exact h1
    · exact absurd (hk0 lb hn) hk
  intro a
  induction a using Nat.strongRecOn with
  | ind a iha =>
    intro v
    induction v using Nat.strongRecOn with
    | ind v ihv =>
      intro n lb hn ha ρ L st hp h hρ hg z hz hv
      have hnl : n < (cL C).length := (List.getElem?_eq_some_iff.mp hn).1
      rcases app_at (show (Lp ++ Lh)[n]? = some lb by rw [← hsp]; exact hn) with hn1 | hn1
      · obtain ⟨-, hph, hrun⟩ := runL_ok hL hn1
        rw [Nat.zero_add] at hrun
        refine run_okQ hQ (ρs := ρ) (zs := z) hcs hdd hm h0 hρ hz ?_ (by omega) hLl hrk ?_ F lb.1 lb.2.2.2.1 ρ L st hp hrun h ⟨[], by rw [List.append_nil]⟩ hg
        · intro n2 lb2 hn2 ρ2 L2 st2 hp2 h2 hρ2 hg2 hlt
          rcases app_at (show (Lp ++ Lh)[n2]? = some lb2 by rw [← hsp]; exact hn2) with hn3 | hn3
          · obtain ⟨-, hph2, -⟩ := runL_ok hL hn3
            have hex : ∃ z2, lb2.2.2.1 ≠ 0 → ρ2[(cE C).length]? = some z2 := by
              by_cases hk : lb2.2.2.1 = 0
              · exact ⟨0, fun q => absurd hk q⟩
              · have hb := hrk n2 lb2 hn2 hk
                unfold rkB at hb
                rw [Bool.and_eq_true, Bool.and_eq_true] at hb
                have hlen : (cE C).length < ρ2.length := by
                  rw [h2.1.1]
                  exact Nat.le_of_ble_eq_true hb.1.1
                exact ⟨ρ2[(cE C).length], fun _ => List.getElem?_eq_getElem hlen⟩
            obtain ⟨z2, hz2⟩ := hex
            rcases hlt z2 hz2 with hlt | ⟨e1, e2, e3, e4⟩
            · exact iha (1000000 - lb2.2.1) (by omega) _ n2 lb2 hn2 rfl ρ2 L2 st2 hp2 h2 hρ2 hg2 z2 hz2 rfl
            · exact ihv _ (by omega) n2 lb2 hn2 (by omega) ρ2 L2 st2 hp2 h2 hρ2 hg2 z2 hz2 rfl
          · exact hand lb2 hn3 ρ2 L2 st2 hp2 h2 hρ2 hg2
        · intro hk
          have hb := hrk n lb hn hk
          unfold rkB at hb
          rw [Bool.and_eq_true, Bool.and_eq_true] at hb
          have b1 := of_decide_eq_true hb.1.2
          have b2 := of_decide_eq_true hb.2
          obtain ⟨y1, y2, -⟩ := eg_ok h.1 (hz hk)
          omega
      · exact hand lb hn1 ρ L st hp h hρ hg
end
section
variable {G : GT} {M : MT} {cs : List CO} {C : CO}
theorem chk_okQ {F : Nat} {Lp Lh : List LB} (hcs : ∀ C ∈ cs, CoOk G M C) (h : chk M G cs C F = true) (hsp : cL C = Lp ++ Lh) (hL : runL M G cs C F 0 Lp = true) (hk0 : ∀ lb ∈ Lh, lb.2.2.1 = 0)
    {ρ : List Int} {As : List Value} {hp : List AE} (hE : en_ok ρ (cE C)) (hA : ss_ok ρ (cA C) As) (hP : sp_ok ρ (cP C) hp) (hG : hp_ok G hp) {Q : ev_R → Prop} (hQ : ∀ q, EndOk G C ρ hp q → Q q)
    (hand : ∀ dd, cDep C = dd + 1 → ∀ lb ∈ Lh, ∀ ρ2 L st hp2, st_ok G ρ2 lb.2.2.2.1 L st hp2 → (∃ τ, ρ2 = ρ ++ τ) → Agr (cW C) hp hp2 → ∃ q, RT M dd (cMi C) lb.1 L st hp2 q ∧ Q q) :
    ∃ q : ev_R, (∃ N, ∀ F, N ≤ F → ∀ d, cDep C ≤ d → evF F M d (cMi C) As hp = some q) ∧ Q q := by
  unfold chk at h
  simp only [Bool.and_eq_true] at h
  obtain ⟨⟨⟨⟨⟨⟨c1, c2⟩, c3⟩, c4⟩, c5⟩, c6⟩, c7⟩ := h
  have hm : mC M (cMi C) = 0 ∧ mS M (cMi C) = 0 := ⟨Nat.eq_of_beq_eq_true c1, Nat.eq_of_beq_eq_true c2⟩
  have c3 := Nat.le_of_ble_eq_true c3
  have c4 := Nat.le_of_ble_eq_true c4
  have c5 := Nat.le_of_ble_eq_true c5
  have c6 : (cL C).length < 524288 := Nat.le_of_ble_eq_true c6
  obtain ⟨dd, hdd⟩ : ∃ dd, cDep C = dd + 1 := ⟨cDep C - 1, by omega⟩
  have h0 : ρ.length = (cE C).length := hE.1
  have hrk : ∀ (n : Nat) (lb : LB), (cL C)[n]? = some lb → lb.2.2.1 ≠ 0 → rkB (cE C).length lb = true := fun n lb hn hk => by
    rw [hsp] at hn
    rcases app_at hn with hn | hn
    · have h1 := (runL_ok hL hn).1
      rw [show Nat.beq lb.2.2.1 0 = false from by cases hb : Nat.beq lb.2.2.1 0 with
        | false => rfl
        | true => exact absurd (Nat.eq_of_beq_eq_true hb) hk] at h1
      exact h1
    · exact absurd (hk0 lb hn) hk
  have hst : st_ok G ρ (cE C, sla 0 (cA C), [], cP C) (lv_args 0 As) [] hp := ⟨hE, (sla_ok 0 hA).2, trivial, hP, hG⟩
  obtain ⟨Sm, hSm, τm, hstm⟩ := matS_ok (cX C) [_] ρ ⟨_, List.mem_singleton.mpr rfl, hst⟩
  have c7 := List.all_eq_true.mp c7 Sm hSm
  obtain ⟨q, ⟨N, hN⟩, hq⟩ : ∃ q, RT M dd (cMi C) 0 (lv_args 0 As) [] hp q ∧ Q q := by
    refine run_okQ hQ (ρs := ρ) (zs := 0) (ph := 0) (kd := 0) (ix := 0) hcs hdd hm h0 ⟨[], by rw [List.append_nil]⟩ (fun q => absurd rfl q) ?_ (by omega) c6 hrk (fun q => absurd rfl q) F 0 _ (ρ ++ τm) _ _ hp c7 hstm ⟨τm, rfl⟩ Agr.rf
    intro n2 lb2 hn2 ρ2 L2 st2 hp2 h2 hρ2 hg2 _
    have hex : ∃ z2, lb2.2.2.1 ≠ 0 → ρ2[(cE C).length]? = some z2 := by
      by_cases hk : lb2.2.2.1 = 0
      · exact ⟨0, fun q => absurd hk q⟩
      · have hb := hrk n2 lb2 hn2 hk
        unfold rkB at hb
        rw [Bool.and_eq_true, Bool.and_eq_true] at hb
        have hlen : (cE C).length < ρ2.length := by
          rw [h2.1.1]
          exact Nat.le_of_ble_eq_true hb.1.1
        exact ⟨ρ2[(cE C).length], fun _ => List.getElem?_eq_getElem hlen⟩
    obtain ⟨z2, hz2⟩ := hex
    exact lab_okQ hQ hcs hdd hm h0 c6 hsp hL hk0 (hand dd hdd) _ _ n2 lb2 hn2 rfl ρ2 L2 st2 hp2 h2 hρ2 hg2 z2 hz2 rfl
  refine ⟨q, ⟨N, fun F' hF d hd => ?_⟩, hq⟩
  cases d with
  | zero => omega
  | succ d =>
    show (if (lg_sl As).length ≤ mL M (cMi C) ∧ mL M (cMi C) ≤ 40 then ev_r M (evF F' M d) (cMi C) F' 0 (lv_args 0 As) [] hp 0 0 else none) = _
    rw [if_pos ⟨by rw [sl_len hA]; exact c3, c4⟩]
    exact hN F' hF F' hF d (by omega)
end
