/-! ===== the copies that image, restore and sentence make ===== -/
set_option maxRecDepth 100000 in
theorem im1_loop {dd : Nat} {k : Nat} (hk : k < 2) {h0 : List AE} (g : hp_ok GG h0) {Q : ev_R → Prop} (fin : ∀ L hp, ev_g L 0 = some (.ref 180) → ev_g L 1 = some (.int (Int32.ofNat k)) → Cp h0 hp 184 (396 * k) 182 (0) 396 396 → ∃ q, RT MM dd 212 49 L [] hp q ∧ Q q) : ∀ (r i : Nat) (L : List (Nat × Value)) (hp : List AE), i + r = 396 → ev_g L 0 = some (.ref 180) → ev_g L 1 = some (.int (Int32.ofNat k)) → ev_g L 2 = some (.int (Int32.ofNat i)) → Cp h0 hp 184 (396 * k) 182 (0) 396 i → ∃ q, RT MM dd 212 18 L [] hp q ∧ Q q := by
  intro r
  induction r with
  | zero =>
    intro i L hp hi l0 l1 l2 c
    have hi : i = 396 := by omega
    subst hi
    obtain ⟨q, hr, hQ⟩ := fin L hp l0 l1 c
    refine ⟨q, ?_, hQ⟩
    refine rt_ild rfl l2 ?_
    refine rt_sip rfl e_396 ?_
    refine rt_geT rfl ge_T ?_
    exact hr
  | succ r ih =>
    intro i L hp hi l0 l1 l2 c
    have hi2 : i < 396 := by omega
    obtain ⟨v, hv, -⟩ := hp_i (a := 182) (i := 0 + i) (ct := gc182) g rfl rfl (by omega) rfl
    have hw : hq hp 182 (0 + i) = some (.int v) := by rw [c.2.1 182 (0 + i) (fun e => absurd e.1 (by decide))]; exact hv
    obtain ⟨ld, a1, a2, a3⟩ := ai_of (hp := hp) (a := 184) (t := 1) (n := 792) (by rw [c.1]; exact (g.1 184 gc184 rfl).1)
    obtain ⟨lw, b1, b2, b3⟩ := ai_of (hp := hp) (a := 182) (t := 1) (n := 396) (by rw [c.1]; exact (g.1 182 gc182 rfl).1)
    rw [hq_at b3] at hw
    have hw := ce_i hw
    have fd : ev_gf hp 180 11 16 = some (.ref 184) := gf_of (n := 52) (by rw [c.1]; exact (g.1 180 gc180 rfl).1) (by rw [c.2.1 180 16 (fun e => absurd e.1 (by decide))]; exact fr_m g (by decide) (by decide +kernel))
    have fs : ev_gf hp 180 11 14 = some (.ref 182) := gf_of (n := 52) (by rw [c.1]; exact (g.1 180 gc180 rfl).1) (by rw [c.2.1 180 14 (fun e => absurd e.1 (by decide))]; exact fr_m g (by decide) (by decide +kernel))
    obtain ⟨q, hr, hQ⟩ := ih (i + 1) (ev_s1 L 2 (.int (Int32.ofNat (i + 1)))) (hp.set 184 (.inl (1, .inl (ld.set (396 * k + i) v)))) (by omega) (gs_o rfl l0 rfl) (gs_o rfl l1 rfl) gs_n (cp_s c hi2 hv (upd_i a3 (by omega)))
    refine ⟨q, ?_, hQ⟩
    refine rt_ild rfl l2 ?_
    refine rt_sip rfl e_396 ?_
    refine rt_geF rfl (ge_F hi2 (by decide)) ?_
    refine rt_ald rfl l0 ?_
    refine rt_gf rfl fd ?_
    refine rt_sip rfl e_396 ?_
    refine rt_ild rfl l1 ?_
    refine rt_mul rfl ?_
    refine rt_ild rfl l2 ?_
    refine rt_add rfl ?_
    rw [ix_k]
    refine rt_ald rfl l0 ?_
    refine rt_gf rfl fs ?_
    refine rt_ild rfl l2 ?_
    refine rt_iald rfl b1 (by rw [Nat.zero_add] at hw; exact hw) (by omega) ?_
    refine rt_iast rfl a1 (by omega) (by omega) ?_
    refine rt_inc rfl l2 (by decide +kernel) ?_
    rw [in_1]
    refine rt_go rfl ?_
    exact hr
set_option maxRecDepth 100000 in
theorem im2_loop {dd : Nat} {k : Nat} (hk : k < 2) {h0 : List AE} (g : hp_ok GG h0) {Q : ev_R → Prop} (fin : ∀ L hp, ev_g L 0 = some (.ref 180) → ev_g L 1 = some (.int (Int32.ofNat k)) → Cp h0 hp 189 (15 * k) 187 (0) 15 15 → ∃ q, RT MM dd 212 80 L [] hp q ∧ Q q) : ∀ (r i : Nat) (L : List (Nat × Value)) (hp : List AE), i + r = 15 → ev_g L 0 = some (.ref 180) → ev_g L 1 = some (.int (Int32.ofNat k)) → ev_g L 2 = some (.int (Int32.ofNat i)) → Cp h0 hp 189 (15 * k) 187 (0) 15 i → ∃ q, RT MM dd 212 51 L [] hp q ∧ Q q := by
  intro r
  induction r with
  | zero =>
    intro i L hp hi l0 l1 l2 c
    have hi : i = 15 := by omega
    subst hi
    obtain ⟨q, hr, hQ⟩ := fin L hp l0 l1 c
    refine ⟨q, ?_, hQ⟩
    refine rt_ild rfl l2 ?_
    refine rt_bip rfl e_15 ?_
    refine rt_geT rfl ge_T ?_
    exact hr
  | succ r ih =>
    intro i L hp hi l0 l1 l2 c
    have hi2 : i < 15 := by omega
    obtain ⟨v, hv, -⟩ := hp_l (a := 187) (i := 0 + i) (ct := gc187) g rfl rfl (by omega) rfl
    have hw : hq hp 187 (0 + i) = some (.long v) := by rw [c.2.1 187 (0 + i) (fun e => absurd e.1 (by decide))]; exact hv
    obtain ⟨ld, a1, a2, a3⟩ := al_of (hp := hp) (a := 189) (t := 2) (n := 30) (by rw [c.1]; exact (g.1 189 gc189 rfl).1)
    obtain ⟨lw, b1, b2, b3⟩ := al_of (hp := hp) (a := 187) (t := 2) (n := 15) (by rw [c.1]; exact (g.1 187 gc187 rfl).1)
    rw [hq_at b3] at hw
    have hw := ce_l hw
    have fd : ev_gf hp 180 11 21 = some (.ref 189) := gf_of (n := 52) (by rw [c.1]; exact (g.1 180 gc180 rfl).1) (by rw [c.2.1 180 21 (fun e => absurd e.1 (by decide))]; exact fr_m g (by decide) (by decide +kernel))
    have fs : ev_gf hp 180 11 19 = some (.ref 187) := gf_of (n := 52) (by rw [c.1]; exact (g.1 180 gc180 rfl).1) (by rw [c.2.1 180 19 (fun e => absurd e.1 (by decide))]; exact fr_m g (by decide) (by decide +kernel))
    obtain ⟨q, hr, hQ⟩ := ih (i + 1) (ev_s1 L 2 (.int (Int32.ofNat (i + 1)))) (hp.set 189 (.inl (2, .inr (.inl (ld.set (15 * k + i) v))))) (by omega) (gs_o rfl l0 rfl) (gs_o rfl l1 rfl) gs_n (cp_s c hi2 hv (upd_l a3 (by omega)))
    refine ⟨q, ?_, hQ⟩
    refine rt_ild rfl l2 ?_
    refine rt_bip rfl e_15 ?_
    refine rt_geF rfl (ge_F hi2 (by decide)) ?_
    refine rt_ald rfl l0 ?_
    refine rt_gf rfl fd ?_
    refine rt_bip rfl e_15 ?_
    refine rt_ild rfl l1 ?_
    refine rt_mul rfl ?_
    refine rt_ild rfl l2 ?_
    refine rt_add rfl ?_
    rw [ix_k]
    refine rt_ald rfl l0 ?_
    refine rt_gf rfl fs ?_
    refine rt_ild rfl l2 ?_
    refine rt_lald rfl b1 (by rw [Nat.zero_add] at hw; exact hw) (by omega) ?_
    refine rt_last rfl a1 (by omega) (by omega) ?_
    refine rt_inc rfl l2 (by decide +kernel) ?_
    rw [in_1]
    refine rt_go rfl ?_
    exact hr
set_option maxRecDepth 100000 in
theorem re1_loop {dd : Nat} {k : Nat} (hk : k < 2) {h0 : List AE} (g : hp_ok GG h0) {Q : ev_R → Prop} (fin : ∀ L hp, ev_g L 0 = some (.ref 180) → ev_g L 1 = some (.int (Int32.ofNat k)) → Cp h0 hp 182 (0) 184 (396 * k) 396 396 → ∃ q, RT MM dd 269 58 L [] hp q ∧ Q q) : ∀ (r i : Nat) (L : List (Nat × Value)) (hp : List AE), i + r = 396 → ev_g L 0 = some (.ref 180) → ev_g L 1 = some (.int (Int32.ofNat k)) → ev_g L 2 = some (.int (Int32.ofNat i)) → Cp h0 hp 182 (0) 184 (396 * k) 396 i → ∃ q, RT MM dd 269 27 L [] hp q ∧ Q q := by
  intro r
  induction r with
  | zero =>
    intro i L hp hi l0 l1 l2 c
    have hi : i = 396 := by omega
    subst hi
    obtain ⟨q, hr, hQ⟩ := fin L hp l0 l1 c
    refine ⟨q, ?_, hQ⟩
    refine rt_ild rfl l2 ?_
    refine rt_sip rfl e_396 ?_
    refine rt_geT rfl ge_T ?_
    exact hr
  | succ r ih =>
    intro i L hp hi l0 l1 l2 c
    have hi2 : i < 396 := by omega
    obtain ⟨v, hv, -⟩ := hp_i (a := 184) (i := 396 * k + i) (ct := gc184) g rfl rfl (by omega) rfl
    have hw : hq hp 184 (396 * k + i) = some (.int v) := by rw [c.2.1 184 (396 * k + i) (fun e => absurd e.1 (by decide))]; exact hv
    obtain ⟨ld, a1, a2, a3⟩ := ai_of (hp := hp) (a := 182) (t := 1) (n := 396) (by rw [c.1]; exact (g.1 182 gc182 rfl).1)
    obtain ⟨lw, b1, b2, b3⟩ := ai_of (hp := hp) (a := 184) (t := 1) (n := 792) (by rw [c.1]; exact (g.1 184 gc184 rfl).1)
    rw [hq_at b3] at hw
    have hw := ce_i hw
    have fd : ev_gf hp 180 11 14 = some (.ref 182) := gf_of (n := 52) (by rw [c.1]; exact (g.1 180 gc180 rfl).1) (by rw [c.2.1 180 14 (fun e => absurd e.1 (by decide))]; exact fr_m g (by decide) (by decide +kernel))
    have fs : ev_gf hp 180 11 16 = some (.ref 184) := gf_of (n := 52) (by rw [c.1]; exact (g.1 180 gc180 rfl).1) (by rw [c.2.1 180 16 (fun e => absurd e.1 (by decide))]; exact fr_m g (by decide) (by decide +kernel))
    obtain ⟨q, hr, hQ⟩ := ih (i + 1) (ev_s1 L 2 (.int (Int32.ofNat (i + 1)))) (hp.set 182 (.inl (1, .inl (ld.set (0 + i) v)))) (by omega) (gs_o rfl l0 rfl) (gs_o rfl l1 rfl) gs_n (cp_s c hi2 hv (upd_i a3 (by omega)))
    refine ⟨q, ?_, hQ⟩
    refine rt_ild rfl l2 ?_
    refine rt_sip rfl e_396 ?_
    refine rt_geF rfl (ge_F hi2 (by decide)) ?_
    refine rt_ald rfl l0 ?_
    refine rt_gf rfl fd ?_
    refine rt_ild rfl l2 ?_
    refine rt_ald rfl l0 ?_
    refine rt_gf rfl fs ?_
    refine rt_sip rfl e_396 ?_
    refine rt_ild rfl l1 ?_
    refine rt_mul rfl ?_
    refine rt_ild rfl l2 ?_
    refine rt_add rfl ?_
    rw [ix_k]
    refine rt_iald rfl b1 hw (by omega) ?_
    rw [show ld.set (0 + i) v = ld.set i v by rw [Nat.zero_add]] at hr
    refine rt_iast rfl a1 (by omega) (by omega) ?_
    refine rt_inc rfl l2 (by decide +kernel) ?_
    rw [in_1]
    refine rt_go rfl ?_
    exact hr
set_option maxRecDepth 100000 in
theorem re2_loop {dd : Nat} {k : Nat} (hk : k < 2) {h0 : List AE} (g : hp_ok GG h0) {Q : ev_R → Prop} (fin : ∀ L hp, ev_g L 0 = some (.ref 180) → ev_g L 1 = some (.int (Int32.ofNat k)) → Cp h0 hp 187 (0) 189 (15 * k) 15 15 → ∃ q, RT MM dd 269 89 L [] hp q ∧ Q q) : ∀ (r i : Nat) (L : List (Nat × Value)) (hp : List AE), i + r = 15 → ev_g L 0 = some (.ref 180) → ev_g L 1 = some (.int (Int32.ofNat k)) → ev_g L 2 = some (.int (Int32.ofNat i)) → Cp h0 hp 187 (0) 189 (15 * k) 15 i → ∃ q, RT MM dd 269 60 L [] hp q ∧ Q q := by
  intro r
  induction r with
  | zero =>
    intro i L hp hi l0 l1 l2 c
    have hi : i = 15 := by omega
    subst hi
    obtain ⟨q, hr, hQ⟩ := fin L hp l0 l1 c
    refine ⟨q, ?_, hQ⟩
    refine rt_ild rfl l2 ?_
    refine rt_bip rfl e_15 ?_
    refine rt_geT rfl ge_T ?_
    exact hr
  | succ r ih =>
    intro i L hp hi l0 l1 l2 c
    have hi2 : i < 15 := by omega
    obtain ⟨v, hv, -⟩ := hp_l (a := 189) (i := 15 * k + i) (ct := gc189) g rfl rfl (by omega) rfl
    have hw : hq hp 189 (15 * k + i) = some (.long v) := by rw [c.2.1 189 (15 * k + i) (fun e => absurd e.1 (by decide))]; exact hv
    obtain ⟨ld, a1, a2, a3⟩ := al_of (hp := hp) (a := 187) (t := 2) (n := 15) (by rw [c.1]; exact (g.1 187 gc187 rfl).1)
    obtain ⟨lw, b1, b2, b3⟩ := al_of (hp := hp) (a := 189) (t := 2) (n := 30) (by rw [c.1]; exact (g.1 189 gc189 rfl).1)
    rw [hq_at b3] at hw
    have hw := ce_l hw
    have fd : ev_gf hp 180 11 19 = some (.ref 187) := gf_of (n := 52) (by rw [c.1]; exact (g.1 180 gc180 rfl).1) (by rw [c.2.1 180 19 (fun e => absurd e.1 (by decide))]; exact fr_m g (by decide) (by decide +kernel))
    have fs : ev_gf hp 180 11 21 = some (.ref 189) := gf_of (n := 52) (by rw [c.1]; exact (g.1 180 gc180 rfl).1) (by rw [c.2.1 180 21 (fun e => absurd e.1 (by decide))]; exact fr_m g (by decide) (by decide +kernel))
    obtain ⟨q, hr, hQ⟩ := ih (i + 1) (ev_s1 L 2 (.int (Int32.ofNat (i + 1)))) (hp.set 187 (.inl (2, .inr (.inl (ld.set (0 + i) v))))) (by omega) (gs_o rfl l0 rfl) (gs_o rfl l1 rfl) gs_n (cp_s c hi2 hv (upd_l a3 (by omega)))
    refine ⟨q, ?_, hQ⟩
    refine rt_ild rfl l2 ?_
    refine rt_bip rfl e_15 ?_
    refine rt_geF rfl (ge_F hi2 (by decide)) ?_
    refine rt_ald rfl l0 ?_
    refine rt_gf rfl fd ?_
    refine rt_ild rfl l2 ?_
    refine rt_ald rfl l0 ?_
    refine rt_gf rfl fs ?_
    refine rt_bip rfl e_15 ?_
    refine rt_ild rfl l1 ?_
    refine rt_mul rfl ?_
    refine rt_ild rfl l2 ?_
    refine rt_add rfl ?_
    rw [ix_k]
    refine rt_lald rfl b1 hw (by omega) ?_
    rw [show ld.set (0 + i) v = ld.set i v by rw [Nat.zero_add]] at hr
    refine rt_last rfl a1 (by omega) (by omega) ?_
    refine rt_inc rfl l2 (by decide +kernel) ?_
    rw [in_1]
    refine rt_go rfl ?_
    exact hr
set_option maxRecDepth 100000 in
theorem se1_loop {dd : Nat} {h0 : List AE} (g : hp_ok GG h0) {Q : ev_R → Prop} (fin : ∀ L hp, ev_g L 0 = some (.ref 180) → Cp h0 hp 182 (156) 202 (0) 240 240 → ∃ q, RT MM dd 273 108 L [] hp q ∧ Q q) : ∀ (r i : Nat) (L : List (Nat × Value)) (hp : List AE), i + r = 240 → ev_g L 0 = some (.ref 180) → ev_g L 1 = some (.int (Int32.ofNat i)) → Cp h0 hp 182 (156) 202 (0) 240 i → ∃ q, RT MM dd 273 79 L [] hp q ∧ Q q := by
  intro r
  induction r with
  | zero =>
    intro i L hp hi l0 l2 c
    have hi : i = 240 := by omega
    subst hi
    obtain ⟨q, hr, hQ⟩ := fin L hp l0 c
    refine ⟨q, ?_, hQ⟩
    refine rt_ild rfl l2 ?_
    refine rt_sip rfl e_240 ?_
    refine rt_geT rfl ge_T ?_
    exact hr
  | succ r ih =>
    intro i L hp hi l0 l2 c
    have hi2 : i < 240 := by omega
    obtain ⟨v, hv, -⟩ := hp_i (a := 202) (i := 0 + i) (ct := gc202) g rfl rfl (by omega) rfl
    have hw : hq hp 202 (0 + i) = some (.int v) := by rw [c.2.1 202 (0 + i) (fun e => absurd e.1 (by decide))]; exact hv
    obtain ⟨ld, a1, a2, a3⟩ := ai_of (hp := hp) (a := 182) (t := 1) (n := 396) (by rw [c.1]; exact (g.1 182 gc182 rfl).1)
    obtain ⟨lw, b1, b2, b3⟩ := ai_of (hp := hp) (a := 202) (t := 1) (n := 240) (by rw [c.1]; exact (g.1 202 gc202 rfl).1)
    rw [hq_at b3] at hw
    have hw := ce_i hw
    have fd : ev_gf hp 180 11 14 = some (.ref 182) := gf_of (n := 52) (by rw [c.1]; exact (g.1 180 gc180 rfl).1) (by rw [c.2.1 180 14 (fun e => absurd e.1 (by decide))]; exact fr_m g (by decide) (by decide +kernel))
    have fs : ev_gf hp 180 11 47 = some (.ref 202) := gf_of (n := 52) (by rw [c.1]; exact (g.1 180 gc180 rfl).1) (by rw [c.2.1 180 47 (fun e => absurd e.1 (by decide))]; exact fr_m g (by decide) (by decide +kernel))
    obtain ⟨q, hr, hQ⟩ := ih (i + 1) (ev_s1 L 1 (.int (Int32.ofNat (i + 1)))) (hp.set 182 (.inl (1, .inl (ld.set (156 + i) v)))) (by omega) (gs_o rfl l0 rfl) gs_n (cp_s c hi2 hv (upd_i a3 (by omega)))
    refine ⟨q, ?_, hQ⟩
    refine rt_ild rfl l2 ?_
    refine rt_sip rfl e_240 ?_
    refine rt_geF rfl (ge_F hi2 (by decide)) ?_
    refine rt_ald rfl l0 ?_
    refine rt_gf rfl fd ?_
    refine rt_sip rfl e_156 ?_
    refine rt_ild rfl l2 ?_
    refine rt_add rfl ?_
    rw [ix_a]
    refine rt_ald rfl l0 ?_
    refine rt_gf rfl fs ?_
    refine rt_ild rfl l2 ?_
    refine rt_iald rfl b1 (by rw [Nat.zero_add] at hw; exact hw) (by omega) ?_
    refine rt_iast rfl a1 (by omega) (by omega) ?_
    refine rt_inc rfl l2 (by decide +kernel) ?_
    rw [in_1]
    refine rt_go rfl ?_
    exact hr
