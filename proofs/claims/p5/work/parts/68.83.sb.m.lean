section
/-! ===== one instruction is right ===== -/
def ev_isr : Instr → Bool
  | .ireturn => true
  | .lreturn => true
  | .areturn => true
  | .return_ => true
  | _ => false
set_option maxHeartbeats 4000000 in
set_option maxRecDepth 100000 in
theorem ev_s_ok {p : Program} {l : Launch} {e : Env} {R : Room} {s : State} {m : MethodId} {args : Array Value} {below : List Frame} {meth : Method} {c : Code} {b : Nat} {en ac : Nat → Nat} {D : va_G} {M : MT} {mi d : Nat} {res : ev_R} {cf : Nat → List Value → List AE → Option ev_R} {K : Nat → List (Nat × Value) → List Value → List AE → Nat → Nat → Option ev_R} {Q : State → Prop}
    (hR : d + 4 ≤ R.frames ∧ 64 * (d + 1) + 256 ≤ R.locals ∧ mC M mi ≤ R.cells ∧ mS M mi ≤ R.slots) (hcf : ∀ x As hp q, cf x As hp = some q → ev_MX l b en ac D M d x As hp q) (hC : ex_C p s m args meth c b en ac D M mi) {i : Instr} (hQ : ev_isr i = true → Q = MQ below (ev_Q b en ac D (mC M mi) res) args s (mC M mi) (mS M mi) (ev_A b))
    (kk : ∀ pc L st hp k ks, K pc L st hp k ks = some res → ∀ H locs ls, ev_W b en ac D s hp H locs k → lv_has ls (mL M mi) (ev_L b en L) → W p l e R s m args below meth c H locs k ks Q (F0 m pc ls (st.map (ev_v b en))))
    {pc x y : Nat} (hv : decode (mB M mi) pc = .ok (i, ev_ln i y)) (hk : ev_kb M (mY M mi).cls pc i x y = true) {L : List (Nat × Value)} {st : List Value} {hp : List AE} {k ks : Nat} (h : ev_s M cf mi pc i x y L st hp k ks K = some res)
    {H : Heap} {locs : List Loc} {ls : Array Slot} (w : ev_W b en ac D s hp H locs k) (hl : lv_has ls (mL M mi) (ev_L b en L)) : W p l e R s m args below meth c H locs k ks Q (F0 m pc ls (st.map (ev_v b en))) := by
  obtain ⟨hx, hb, hml, hown, hts, hK, hE, hbs, hlocks, hret, hname⟩ := id hC
  have hA : ∀ q : Nat, s.heap.size ≤ q → ev_A b q := fun q h => Nat.le_trans hbs h
  have hD := ws_D b en ac hp
  cases i with
  | iconst n =>
    exact lv_iconst hx hb hv rfl (kk _ _ _ _ _ _ h _ _ _ w hl)
  | bipush n =>
    exact lv_bipush hx hb hv rfl (kk _ _ _ _ _ _ h _ _ _ w hl)
  | sipush n =>
    exact lv_sipush hx hb hv rfl (kk _ _ _ _ _ _ h _ _ _ w hl)
  | lconst n =>
    exact lv_lconst hx hb hv rfl (kk _ _ _ _ _ _ h _ _ _ w hl)
  | ldc n =>
    have hk2 : ((decide (y = 1) && decide (300 ≤ x) && decide (x < 304) && decide ((mY M mi).cls = "LeftAnswers$Slip") && decide (n = sx_ix.getD (x - 300) 0)) || (decide (y ≠ 1) && ev_all [.constant (mY M mi).cls n (Int32.ofNat x)])) = true := hk
    simp only [Bool.or_eq_true, Bool.and_eq_true, decide_eq_true_eq] at hk2
    have h0 : eo_ldc M cf mi pc x y L st hp k ks K = some res := h
    unfold eo_ldc at h0
    rcases hk2 with ⟨⟨⟨⟨h1, h2⟩, h3⟩, h4⟩, h5⟩ | ⟨h1, h2⟩
    · rw [if_pos h1, if_pos ⟨h2, h3⟩] at h0
      have hz := (hE.2.2.2.2.2.1 x h2 h3).1
      rw [← h5, ← h4] at hz
      exact va_ldcS hx hb hown hz hv (kk _ _ _ _ _ _ h0 _ _ _ w hl)
    · rw [if_neg h1] at h0
      exact lv_ldc hx hb hown (hts _ (ev_all_ok h2 _ (by simp))) hv (kk _ _ _ _ _ _ h0 _ _ _ w hl)
  | ldc_w n =>
    exact lv_ldcw hx hb hown (hts _ (ev_all_ok hk _ (by simp))) hv (kk _ _ _ _ _ _ h _ _ _ w hl)
  | ldc2_w n =>
    exact lv_ldc2 hx hb hown (hts _ (ev_all_ok hk _ (by simp))) hv (kk _ _ _ _ _ _ h _ _ _ w hl)
  | iload_n n =>
    obtain ⟨v, h1, h2⟩ := ev_bd h
    cases v with
    | int z => exact lv_iload_n hx hb hv rfl (ev_lg hl h1) (kk _ _ _ _ _ _ h2 _ _ _ w hl)
    | _ => exact ev_no h2 rfl
  | iload n =>
    obtain ⟨v, h1, h2⟩ := ev_bd h
    cases v with
    | int z => exact lv_iload hx hb hv (ev_lg hl h1) (kk _ _ _ _ _ _ h2 _ _ _ w hl)
    | _ => exact ev_no h2 rfl
  | lload_n n =>
    obtain ⟨v, h1, h2⟩ := ev_bd h
    cases v with
    | long z => exact lv_lload_n hx hb hv rfl (ev_lg hl h1) (kk _ _ _ _ _ _ h2 _ _ _ w hl)
    | _ => exact ev_no h2 rfl
  | lload n =>
    obtain ⟨v, h1, h2⟩ := ev_bd h
    cases v with
    | long z => exact lv_lload hx hb hv (ev_lg hl h1) (kk _ _ _ _ _ _ h2 _ _ _ w hl)
    | _ => exact ev_no h2 rfl
  | aload_n n =>
    obtain ⟨v, h1, h2⟩ := ev_bd h
    cases v with
    | ref z => exact lv_aload_n hx hb hv rfl (ev_lg hl h1) (kk _ _ _ _ _ _ h2 _ _ _ w hl)
    | retAddr z => exact lv_aload_n hx hb hv rfl (ev_lg hl h1) (kk _ _ _ _ _ _ h2 _ _ _ w hl)
    | _ => exact ev_no h2 rfl
  | aload n =>
    obtain ⟨v, h1, h2⟩ := ev_bd h
    cases v with
    | ref z => exact lv_aload hx hb hv (ev_lg hl h1) (kk _ _ _ _ _ _ h2 _ _ _ w hl)
    | retAddr z => exact lv_aload hx hb hv (ev_lg hl h1) (kk _ _ _ _ _ _ h2 _ _ _ w hl)
    | _ => exact ev_no h2 rfl
  | istore_n n =>
    obtain ⟨⟨v, r⟩, h1, h2⟩ := ev_bd h
    obtain ⟨h3, h4⟩ := ev_if h2
    rw [ev_i_ok h1]
    exact lv_istore_n hx hb hv rfl hl h3 (ev_L1 b en L _ (.int v)) (fun ls hl => (kk _ _ _ _ _ _ h4 _ _ _ w hl))
  | istore n =>
    obtain ⟨⟨v, r⟩, h1, h2⟩ := ev_bd h
    obtain ⟨h3, h4⟩ := ev_if h2
    rw [ev_i_ok h1]
    exact lv_istore hx hb hv hl h3 (ev_L1 b en L _ (.int v)) (fun ls hl => (kk _ _ _ _ _ _ h4 _ _ _ w hl))
  | lstore_n n =>
    obtain ⟨⟨v, r⟩, h1, h2⟩ := ev_bd h
    obtain ⟨h3, h4⟩ := ev_if h2
    rw [ev_l_ok h1]
    exact lv_lstore_n hx hb hv rfl hl h3 (ev_L2 b en L _ (.long v)) (fun ls hl => (kk _ _ _ _ _ _ h4 _ _ _ w hl))
  | lstore n =>
    obtain ⟨⟨v, r⟩, h1, h2⟩ := ev_bd h
    obtain ⟨h3, h4⟩ := ev_if h2
    rw [ev_l_ok h1]
    exact lv_lstore hx hb hv hl h3 (ev_L2 b en L _ (.long v)) (fun ls hl => (kk _ _ _ _ _ _ h4 _ _ _ w hl))
  | astore_n n =>
    cases st with
    | nil => exact ev_no h rfl
    | cons v r =>
      cases v with
      | ref z =>
        obtain ⟨h3, h4⟩ := ev_if h
        exact lv_astore_n hx hb hv rfl hl h3 (ev_L1 b en L _ (.ref z)) (fun ls hl => (kk _ _ _ _ _ _ h4 _ _ _ w hl))
      | retAddr z =>
        obtain ⟨h3, h4⟩ := ev_if h
        exact lv_astore_n hx hb hv rfl hl h3 (ev_L1 b en L _ (.retAddr z)) (fun ls hl => (kk _ _ _ _ _ _ h4 _ _ _ w hl))
      | _ => exact ev_no h rfl
  | astore n =>
    cases st with
    | nil => exact ev_no h rfl
    | cons v r =>
      cases v with
      | ref z =>
        obtain ⟨h3, h4⟩ := ev_if h
        exact lv_astore hx hb hv hl h3 (ev_L1 b en L _ (.ref z)) (fun ls hl => (kk _ _ _ _ _ _ h4 _ _ _ w hl))
      | retAddr z =>
        obtain ⟨h3, h4⟩ := ev_if h
        exact lv_astore hx hb hv hl h3 (ev_L1 b en L _ (.retAddr z)) (fun ls hl => (kk _ _ _ _ _ _ h4 _ _ _ w hl))
      | _ => exact ev_no h rfl
  | iinc n dd =>
    obtain ⟨v, h1, h2⟩ := ev_bd h
    cases v with
    | int z =>
      obtain ⟨h3, h4⟩ := ev_if h2
      obtain ⟨kq, hkq⟩ := ev_lk (b := b) (en := en) h1
      exact lv_iinc hx hb hv hl hkq rfl h3 (ev_L1 b en L n (.int (z + Int32.ofInt dd))) (fun ls hl => (kk _ _ _ _ _ _ h4 _ _ _ w hl))
    | _ => exact ev_no h2 rfl
  | iadd =>
    obtain ⟨⟨z2, z1, r⟩, h1, h2⟩ := ev_bd h
    rw [ev_ii_ok h1]
    exact lv_iadd hx hb hv (kk _ _ _ _ _ _ h2 _ _ _ w hl)
  | isub =>
    obtain ⟨⟨z2, z1, r⟩, h1, h2⟩ := ev_bd h
    rw [ev_ii_ok h1]
    exact lv_isub hx hb hv (kk _ _ _ _ _ _ h2 _ _ _ w hl)
  | imul =>
    obtain ⟨⟨z2, z1, r⟩, h1, h2⟩ := ev_bd h
    rw [ev_ii_ok h1]
    exact lv_imul hx hb hv (kk _ _ _ _ _ _ h2 _ _ _ w hl)
  | iand =>
    obtain ⟨⟨z2, z1, r⟩, h1, h2⟩ := ev_bd h
    rw [ev_ii_ok h1]
    exact lv_iand hx hb hv (kk _ _ _ _ _ _ h2 _ _ _ w hl)
  | ior =>
    obtain ⟨⟨z2, z1, r⟩, h1, h2⟩ := ev_bd h
    rw [ev_ii_ok h1]
    exact lv_ior hx hb hv (kk _ _ _ _ _ _ h2 _ _ _ w hl)
  | ixor =>
    obtain ⟨⟨z2, z1, r⟩, h1, h2⟩ := ev_bd h
    rw [ev_ii_ok h1]
    exact lv_ixor hx hb hv (kk _ _ _ _ _ _ h2 _ _ _ w hl)
  | ishl =>
    obtain ⟨⟨z2, z1, r⟩, h1, h2⟩ := ev_bd h
    rw [ev_ii_ok h1]
    exact lv_ishl hx hb hv (kk _ _ _ _ _ _ h2 _ _ _ w hl)
  | ishr =>
    obtain ⟨⟨z2, z1, r⟩, h1, h2⟩ := ev_bd h
    rw [ev_ii_ok h1]
    exact lv_ishr hx hb hv (kk _ _ _ _ _ _ h2 _ _ _ w hl)
  | iushr =>
    obtain ⟨⟨z2, z1, r⟩, h1, h2⟩ := ev_bd h
    rw [ev_ii_ok h1]
    exact lv_iushr hx hb hv rfl (kk _ _ _ _ _ _ h2 _ _ _ w hl)
  | idiv =>
    obtain ⟨⟨z2, z1, r⟩, h1, h2⟩ := ev_bd h
    rw [ev_ii_ok h1]
    obtain ⟨h3, h4⟩ := ev_ifn h2
    exact lv_idiv hx hb hv h3 (kk _ _ _ _ _ _ h4 _ _ _ w hl)
  | irem =>
    obtain ⟨⟨z2, z1, r⟩, h1, h2⟩ := ev_bd h
    rw [ev_ii_ok h1]
    obtain ⟨h3, h4⟩ := ev_ifn h2
    exact lv_irem hx hb hv h3 (kk _ _ _ _ _ _ h4 _ _ _ w hl)
  | ladd =>
    obtain ⟨⟨z2, z1, r⟩, h1, h2⟩ := ev_bd h
    rw [ev_ll_ok h1]
    exact lv_ladd hx hb hv (kk _ _ _ _ _ _ h2 _ _ _ w hl)
  | lsub =>
    obtain ⟨⟨z2, z1, r⟩, h1, h2⟩ := ev_bd h
    rw [ev_ll_ok h1]
    exact lv_lsub hx hb hv (kk _ _ _ _ _ _ h2 _ _ _ w hl)
  | lmul =>
    obtain ⟨⟨z2, z1, r⟩, h1, h2⟩ := ev_bd h
    rw [ev_ll_ok h1]
    exact lv_lmul hx hb hv (kk _ _ _ _ _ _ h2 _ _ _ w hl)
  | land =>
    obtain ⟨⟨z2, z1, r⟩, h1, h2⟩ := ev_bd h
    rw [ev_ll_ok h1]
    exact lv_land hx hb hv (kk _ _ _ _ _ _ h2 _ _ _ w hl)
  | lor =>
    obtain ⟨⟨z2, z1, r⟩, h1, h2⟩ := ev_bd h
    rw [ev_ll_ok h1]
    exact lv_lor hx hb hv (kk _ _ _ _ _ _ h2 _ _ _ w hl)
  | lcmp =>
    obtain ⟨⟨z2, z1, r⟩, h1, h2⟩ := ev_bd h
    rw [ev_ll_ok h1]
    exact W.lcmp hx hb hv (kk _ _ _ _ _ _ h2 _ _ _ w hl)
  | ldiv =>
    obtain ⟨⟨z2, z1, r⟩, h1, h2⟩ := ev_bd h
    rw [ev_ll_ok h1]
    obtain ⟨h3, h4⟩ := ev_ifn h2
    exact lv_ldiv hx hb hv h3 (kk _ _ _ _ _ _ h4 _ _ _ w hl)
  | lrem =>
    obtain ⟨⟨z2, z1, r⟩, h1, h2⟩ := ev_bd h
    rw [ev_ll_ok h1]
    obtain ⟨h3, h4⟩ := ev_ifn h2
    exact lv_lrem hx hb hv h3 (kk _ _ _ _ _ _ h4 _ _ _ w hl)
  | lshl =>
    obtain ⟨⟨z2, z1, r⟩, h1, h2⟩ := ev_bd h
    rw [ev_il_ok h1]
    exact lv_lshl hx hb hv rfl (kk _ _ _ _ _ _ h2 _ _ _ w hl)
  | lushr =>
    obtain ⟨⟨z2, z1, r⟩, h1, h2⟩ := ev_bd h
    rw [ev_il_ok h1]
    exact lv_lushr hx hb hv rfl (kk _ _ _ _ _ _ h2 _ _ _ w hl)
  | ineg =>
    obtain ⟨⟨z1, r⟩, h1, h2⟩ := ev_bd h
    rw [ev_i_ok h1]
    exact lv_ineg hx hb hv (kk _ _ _ _ _ _ h2 _ _ _ w hl)
  | i2l =>
    obtain ⟨⟨z1, r⟩, h1, h2⟩ := ev_bd h
    rw [ev_i_ok h1]
    exact lv_i2l hx hb hv rfl (kk _ _ _ _ _ _ h2 _ _ _ w hl)
  | i2b =>
    obtain ⟨⟨z1, r⟩, h1, h2⟩ := ev_bd h
    rw [ev_i_ok h1]
    exact lv_i2b hx hb hv rfl (kk _ _ _ _ _ _ h2 _ _ _ w hl)
  | i2c =>
    obtain ⟨⟨z1, r⟩, h1, h2⟩ := ev_bd h
    rw [ev_i_ok h1]
    exact lv_i2c hx hb hv rfl (kk _ _ _ _ _ _ h2 _ _ _ w hl)
  | l2i =>
    obtain ⟨⟨z1, r⟩, h1, h2⟩ := ev_bd h
    rw [ev_l_ok h1]
    exact lv_l2i hx hb hv rfl (kk _ _ _ _ _ _ h2 _ _ _ w hl)
  | dup =>
    cases st with
    | nil => exact ev_no h rfl
    | cons v r =>
      obtain ⟨h3, h4⟩ := ev_if h
      exact lv_dup hx hb hv ((ev_cat b en v).trans h3) (kk _ _ _ _ _ _ h4 _ _ _ w hl)
  | pop =>
    cases st with
    | nil => exact ev_no h rfl
    | cons v r =>
      obtain ⟨h3, h4⟩ := ev_if h
      exact lv_pop hx hb hv ((ev_cat b en v).trans h3) (kk _ _ _ _ _ _ h4 _ _ _ w hl)
  | dup2 =>
    cases st with
    | nil => exact ev_no h rfl
    | cons v r =>
      cases r with
      | nil => exact ev_no h rfl
      | cons v2 r =>
        obtain ⟨h3, h4⟩ := ev_if h
        exact lv_dup2_11 hx hb hv ((ev_cat b en v).trans h3.1) ((ev_cat b en v2).trans h3.2) (kk _ _ _ _ _ _ h4 _ _ _ w hl)
  | goto off =>
    exact lv_goto hx hb hv (of_decide_eq_true hk) (kk _ _ _ _ _ _ h _ _ _ w hl)
  | ifCond cnd off =>
    have ht := of_decide_eq_true hk
    cases cnd with
    | eq =>
      obtain ⟨⟨z1, r⟩, h1, h2⟩ := ev_bd h
      rw [ev_i_ok h1]
      have q := kk _ _ _ _ _ _ h2 _ _ _ w hl
      exact lv_if_eq hx hb hv ht (fun hc => by dsimp only at q; rw [if_pos hc] at q; exact q) (fun hc => by dsimp only at q; rw [if_neg hc] at q; exact q)
    | ne =>
      obtain ⟨⟨z1, r⟩, h1, h2⟩ := ev_bd h
      rw [ev_i_ok h1]
      have q := kk _ _ _ _ _ _ h2 _ _ _ w hl
      exact lv_if_ne hx hb hv ht (fun hc => by dsimp only at q; rw [if_neg hc] at q; exact q) (fun hc => by dsimp only at q; rw [if_pos hc] at q; exact q)
    | lt =>
      obtain ⟨⟨z1, r⟩, h1, h2⟩ := ev_bd h
      rw [ev_i_ok h1]
      have q := kk _ _ _ _ _ _ h2 _ _ _ w hl
      exact lv_if_lt hx hb hv ht (fun hc => by dsimp only at q; rw [if_pos hc] at q; exact q) (fun hc => by dsimp only at q; rw [if_neg hc] at q; exact q)
    | ge =>
      obtain ⟨⟨z1, r⟩, h1, h2⟩ := ev_bd h
      rw [ev_i_ok h1]
      have q := kk _ _ _ _ _ _ h2 _ _ _ w hl
      exact lv_if_ge hx hb hv ht (fun hc => by dsimp only at q; rw [if_pos hc] at q; exact q) (fun hc => by dsimp only at q; rw [if_neg hc] at q; exact q)
    | gt =>
      obtain ⟨⟨z1, r⟩, h1, h2⟩ := ev_bd h
      rw [ev_i_ok h1]
      have q := kk _ _ _ _ _ _ h2 _ _ _ w hl
      exact lv_if_gt hx hb hv ht (fun hc => by dsimp only at q; rw [if_pos hc] at q; exact q) (fun hc => by dsimp only at q; rw [if_neg hc] at q; exact q)
    | le =>
      obtain ⟨⟨z1, r⟩, h1, h2⟩ := ev_bd h
      rw [ev_i_ok h1]
      have q := kk _ _ _ _ _ _ h2 _ _ _ w hl
      exact lv_if_le hx hb hv ht (fun hc => by dsimp only at q; rw [if_pos hc] at q; exact q) (fun hc => by dsimp only at q; rw [if_neg hc] at q; exact q)
  | if_icmp cnd off =>
    have ht := of_decide_eq_true hk
    cases cnd with
    | eq =>
      obtain ⟨⟨z2, z1, r⟩, h1, h2⟩ := ev_bd h
      rw [ev_ii_ok h1]
      have q := kk _ _ _ _ _ _ h2 _ _ _ w hl
      exact lv_icmp_eq hx hb hv ht (fun hc => by dsimp only at q; rw [if_pos hc] at q; exact q) (fun hc => by dsimp only at q; rw [if_neg hc] at q; exact q)
    | ne =>
      obtain ⟨⟨z2, z1, r⟩, h1, h2⟩ := ev_bd h
      rw [ev_ii_ok h1]
      have q := kk _ _ _ _ _ _ h2 _ _ _ w hl
      exact lv_icmp_ne hx hb hv ht (fun hc => by dsimp only at q; rw [if_neg hc] at q; exact q) (fun hc => by dsimp only at q; rw [if_pos hc] at q; exact q)
    | lt =>
      obtain ⟨⟨z2, z1, r⟩, h1, h2⟩ := ev_bd h
      rw [ev_ii_ok h1]
      have q := kk _ _ _ _ _ _ h2 _ _ _ w hl
      exact lv_icmp_lt hx hb hv ht (fun hc => by dsimp only at q; rw [if_pos hc] at q; exact q) (fun hc => by dsimp only at q; rw [if_neg hc] at q; exact q)
    | ge =>
      obtain ⟨⟨z2, z1, r⟩, h1, h2⟩ := ev_bd h
      rw [ev_ii_ok h1]
      have q := kk _ _ _ _ _ _ h2 _ _ _ w hl
      exact lv_icmp_ge hx hb hv ht (fun hc => by dsimp only at q; rw [if_pos hc] at q; exact q) (fun hc => by dsimp only at q; rw [if_neg hc] at q; exact q)
    | gt =>
      obtain ⟨⟨z2, z1, r⟩, h1, h2⟩ := ev_bd h
      rw [ev_ii_ok h1]
      have q := kk _ _ _ _ _ _ h2 _ _ _ w hl
      exact lv_icmp_gt hx hb hv ht (fun hc => by dsimp only at q; rw [if_pos hc] at q; exact q) (fun hc => by dsimp only at q; rw [if_neg hc] at q; exact q)
    | le =>
      obtain ⟨⟨z2, z1, r⟩, h1, h2⟩ := ev_bd h
      rw [ev_ii_ok h1]
      have q := kk _ _ _ _ _ _ h2 _ _ _ w hl
      exact lv_icmp_le hx hb hv ht (fun hc => by dsimp only at q; rw [if_pos hc] at q; exact q) (fun hc => by dsimp only at q; rw [if_neg hc] at q; exact q)
  | if_acmp cnd off =>
    have ht := of_decide_eq_true hk
    cases cnd with
    | eq =>
      cases st with
      | nil => exact ev_no h rfl
      | cons v r =>
        cases v with
        | retAddr v =>
          cases r with
          | nil => exact ev_no h rfl
          | cons v2 r =>
            cases v2 with
            | retAddr w2 =>
              obtain ⟨h3, h4⟩ := ev_if h
              have q := kk _ _ _ _ _ _ h4 _ _ _ w hl
              have hinj : (some (en w2) = some (en v)) ↔ w2 = v := ⟨fun z => hE.1.1.2 w2 v h3.2 h3.1 (Option.some.inj z), fun z => by rw [z]⟩
              exact lv_acmp_eq (rx := some (en w2)) (ry := some (en v)) hx hb hv ht (fun hc => by rw [if_pos (hinj.mp hc)] at q; exact q) (fun hc => by rw [if_neg (fun z => hc (hinj.mpr z))] at q; exact q)
            | _ => exact ev_no h rfl
        | _ => exact ev_no h rfl
    | ne =>
      cases st with
      | nil => exact ev_no h rfl
      | cons v r =>
        cases v with
        | retAddr v =>
          cases r with
          | nil => exact ev_no h rfl
          | cons v2 r =>
            cases v2 with
            | retAddr w2 =>
              obtain ⟨h3, h4⟩ := ev_if h
              have q := kk _ _ _ _ _ _ h4 _ _ _ w hl
              have hinj : (some (en w2) = some (en v)) ↔ w2 = v := ⟨fun z => hE.1.1.2 w2 v h3.2 h3.1 (Option.some.inj z), fun z => by rw [z]⟩
              exact lv_acmp_ne (rx := some (en w2)) (ry := some (en v)) hx hb hv ht (fun hc => by rw [if_neg (fun z => hc (hinj.mpr z))] at q; exact q) (fun hc => by rw [if_pos (hinj.mp hc)] at q; exact q)
            | _ => exact ev_no h rfl
        | _ => exact ev_no h rfl
  | tableswitch dflt lo hi offs =>
    obtain ⟨⟨z1, r⟩, h1, h2⟩ := ev_bd h
    rw [ev_i_ok h1]
    dsimp only at h2
    by_cases hc : z1.toInt < lo ∨ hi < z1.toInt
    · rw [if_pos hc] at h2
      obtain ⟨t, h3, h4⟩ := ev_bd h2
      exact lv_tableOut hx hb hv hc (ev_tg_ok h3) (kk _ _ _ _ _ _ h4 _ _ _ w hl)
    · rw [if_neg hc] at h2
      obtain ⟨off, h3, h5⟩ := ev_bd h2
      obtain ⟨t, h4, h6⟩ := ev_bd h5
      exact lv_tableIn hx hb hv (fun z => hc (Or.inl z)) (fun z => hc (Or.inr z)) h3 (ev_tg_ok h4) (kk _ _ _ _ _ _ h6 _ _ _ w hl)
  | lookupswitch dflt ps =>
    obtain ⟨⟨z1, r⟩, h1, h2⟩ := ev_bd h
    rw [ev_i_ok h1]
    obtain ⟨t, h3, h4⟩ := ev_bd h2
    exact lv_lookup hx hb hv hk rfl (ev_tg_ok h3) (kk _ _ _ _ _ _ h4 _ _ _ w hl)
  | getfield idx =>
    have hk2 : ((decide (x = 200) && ev_all [.fieldLink (mY M mi).cls idx "LeftAnswers$Word" "letters" "J"]) || (decide (x < 12) && decide (y < NN x) && ev_all [.fieldLink (mY M mi).cls idx (TT x y).1 (TT x y).2.1 (TT x y).2.2.1])) = true := hk
    simp only [Bool.or_eq_true, Bool.and_eq_true, decide_eq_true_eq] at hk2
    have hgen : ((ev_a st).bind fun q => (ev_gf hp q.1 x y).bind fun v => K (pc + 3) L (v :: q.2) hp k ks) = some res → W p l e R s m args below meth c H locs k ks Q (F0 m pc ls (st.map (ev_v b en))) := by
      intro h
      obtain ⟨⟨a, r⟩, h1, h2⟩ := ev_bd h
      obtain ⟨v, h3, h4⟩ := ev_bd h2
      obtain ⟨fs, hq, hf⟩ := ev_gf_ok h3
      rw [ev_a_ok h1]
      rcases hk2 with ⟨h5, -⟩ | ⟨⟨h5, h6⟩, h7⟩
      · exfalso
        subst h5
        obtain ⟨r0, hr0, -⟩ := w.1 a _ (ws_at hq)
        have hn : vwCl[200]? = none := rfl
        rw [hn] at hr0
        cases hr0
      · exact va_get (D := D) hx hb hts (in_at x h5) hown hK w.1 a (ws_at hq) (cl_at h5) y h6 (hts _ (ev_all_ok h7 _ (by simp))) (fun _ h9 => h9) (by rw [List.getElem?_map, hf]; rfl) hv (kk _ _ _ _ _ _ h4 _ _ _ w hl)
    cases st with
    | nil => exact hgen h
    | cons v r =>
      cases v with
      | retAddr v =>
        obtain ⟨⟨h1, h2⟩, h3⟩ := ev_if h
        rcases hk2 with ⟨-, hlk⟩ | ⟨⟨h4, -⟩, -⟩
        · exact vk_getf hx hb (hE.2.2.2.1 v h2) w.2.1 hown (hts _ (ev_all_ok hlk _ (by simp))) (fun _ h9 => h9) hv (kk _ _ _ _ _ _ h3 _ _ _ w hl)
        · omega
      | _ => exact hgen h
  | putfield idx =>
    obtain ⟨⟨v, a, r⟩, h1, h2⟩ := ev_bd h
    obtain ⟨fs, h3, h5⟩ := ev_bd h2
    obtain ⟨⟨hf, hlen, hfin⟩, h6⟩ := ev_if h5
    have hq := ev_ob_ok h3
    have hk2 : (decide (x < 12) && decide (y < NN x) && ev_all [.fieldLink (mY M mi).cls idx (TT x y).1 (TT x y).2.1 (TT x y).2.2.1] && (!(TT x y).2.2.2 || decide ((TT x y).1 = (mY M mi).cls))) = true := hk
    simp only [Bool.and_eq_true, decide_eq_true_eq] at hk2
    rw [ev_va_ok h1]
    have hfo := ev_f_ok (b := b) (en := en) hf
    cases hfi : (TT x y).2.2.2 with
    | false =>
      refine va_put (D := D) hx hb hts (in_at x hk2.1.1.1) (TY x) (ty_at x hk2.1.1.1) (nm_at x hk2.1.1.1) hown hK w.1 hD w.2.1 a (ws_at hq) (cl_at hk2.1.1.1) y hk2.1.1.2 (hts _ (ev_all_ok hk2.1.2 _ (by simp))) (fun _ h9 => h9) hfi (ty_at x hk2.1.1.1 y hk2.1.1.2) hfo.1 hfo.2 (by rw [List.length_map]; exact hlen) hv (fun H1 locs1 hP1 hD1 hS1 => kk _ _ _ _ _ _ h6 _ _ _ (ev_Wset w ?_ hS1) hl)
      rw [← List.map_set] at hP1
      exact hP1
    | true =>
      have hdecl : (TT x y).1 = (mY M mi).cls := by
        have h8 := hk2.2
        rw [hfi] at h8
        exact of_decide_eq_true h8
      refine va_putF (D := D) hx hb hts (in_at x hk2.1.1.1) (TY x) (ty_at x hk2.1.1.1) (nm_at x hk2.1.1.1) hown hK w.1 hD w.2.1 a (ws_at hq) (cl_at hk2.1.1.1) y hk2.1.1.2 (hts _ (ev_all_ok hk2.1.2 _ (by simp))) (fun _ h9 => h9) hfi (hname (hfin ((fn_at x hk2.1.1.1 y hk2.1.1.2).trans hfi))) hdecl (ty_at x hk2.1.1.1 y hk2.1.1.2) hfo.1 hfo.2 (by rw [List.length_map]; exact hlen) hv (fun H1 locs1 hP1 hD1 hS1 => kk _ _ _ _ _ _ h6 _ _ _ (ev_Wset w ?_ hS1) hl)
      rw [← List.map_set] at hP1
      exact hP1
  | getstatic idx =>
    have hk2 : ((decide (x < 32) && ev_all [.fieldLink (mY M mi).cls idx "LeftAnswers$Word" (ev_nm.getD x "") "LLeftAnswers$Word;"]) || (decide (x = 100) && ev_all [.fieldLink (mY M mi).cls idx "LeftAnswers$1" "$SwitchMap$LeftAnswers$Word" "[I"]) || (decide (x = 101) && ev_all [.fieldLink (mY M mi).cls idx "LeftAnswers$Word" "ALL" "[LLeftAnswers$Word;"])) = true := hk
    simp only [Bool.or_eq_true, Bool.and_eq_true, decide_eq_true_eq] at hk2
    rcases hk2 with (⟨h1, h2⟩ | ⟨h1, h2⟩) | ⟨h1, h2⟩
    · exact va_gets hx hb (hE.1.1.1 x h1).1 w.2.1 hown (hts _ (ev_all_ok h2 _ (by simp))) (fun _ h9 => h9) hv (kk _ _ _ _ _ _ h _ _ _ w hl)
    · subst h1
      exact va_gets hx hb hE.1.2.1 w.2.1 hown (hts _ (ev_all_ok h2 _ (by simp))) (fun _ h9 => h9) hv (kk _ _ _ _ _ _ h _ _ _ w hl)
    · subst h1
      exact va_gets hx hb hE.2.1 w.2.1 hown (hts _ (ev_all_ok h2 _ (by simp))) (fun _ h9 => h9) hv (kk _ _ _ _ _ _ h _ _ _ w hl)
  | arraylength =>
    have hgen : ((ev_a st).bind fun q => (ev_an hp q.1).bind fun z => if z.1 < 7 then K (pc + 1) L (.int (Int32.ofNat z.2) :: q.2) hp k ks else none) = some res → W p l e R s m args below meth c H locs k ks Q (F0 m pc ls (st.map (ev_v b en))) := by
      intro h
      obtain ⟨⟨a, r⟩, h1, h2⟩ := ev_bd h
      obtain ⟨⟨t, n⟩, h3, h4⟩ := ev_bd h2
      obtain ⟨h5, h6⟩ := ev_if h4
      obtain ⟨xa, x2, hq, e1, e2⟩ := ev_an_ok (b := b) (en := en) (ac := ac) h3
      rw [ev_a_ok h1]
      have hq2 := ws_at (b := b) (en := en) (ac := ac) hq
      obtain ⟨ty, hty⟩ : ∃ ty, (ev_tys ac)[t]? = some (ac t, ty) := by
        match t, h5 with
        | 0, _ => exact ⟨_, rfl⟩
        | 1, _ => exact ⟨_, rfl⟩
        | 2, _ => exact ⟨_, rfl⟩
        | 3, _ => exact ⟨_, rfl⟩
        | 4, _ => exact ⟨_, rfl⟩
        | 5, _ => exact ⟨_, rfl⟩
        | 6, _ => exact ⟨_, rfl⟩
      rw [e1] at hq2
      exact va_alen hx hb hK w.1 a t hq2 hty (by rw [e2]) hv (kk _ _ _ _ _ _ h6 _ _ _ w hl)
    cases st with
    | nil => exact hgen h
    | cons v r =>
      cases v with
      | retAddr v =>
        obtain ⟨h1, h3⟩ := ev_if h
        subst h1
        exact va_tlen hx hb hE.2.2.1 w.2.1 rfl hv (kk _ _ _ _ _ _ h3 _ _ _ w hl)
      | _ => exact hgen h
  | baload =>
    obtain ⟨⟨ix, a, r⟩, h1, h2⟩ := ev_bd h
    obtain ⟨⟨t, f⟩, h3, h4⟩ := ev_bd h2
    obtain ⟨h5, h6⟩ := ev_if h4
    obtain ⟨j, h7, h8⟩ := ev_bd h6
    obtain ⟨hin, hlt, hgd⟩ := ev_rd_ok h7
    have hq := ev_ai_ok h3
    rw [ev_ia_ok h1]
    rcases h5 with h5 | h5
    · dsimp only at h5
      subst h5
      have q := kk _ _ _ _ _ _ h8 _ _ _ w hl
      rw [← hgd 0] at q
      exact va_bald hx hb hK w.1 a 0 (ws_at hq) rfl hin hv q
    · dsimp only at h5
      subst h5
      have q := kk _ _ _ _ _ _ h8 _ _ _ w hl
      rw [← hgd 0] at q
      exact va_zald hx hb hK w.1 a 3 (ws_at hq) rfl hin hv q
  | laload =>
    obtain ⟨⟨ix, a, r⟩, h1, h2⟩ := ev_bd h
    obtain ⟨⟨t, f⟩, h3, h4⟩ := ev_bd h2
    obtain ⟨h5, h6⟩ := ev_if h4
    obtain ⟨j, h7, h8⟩ := ev_bd h6
    obtain ⟨hin, hlt, hgd⟩ := ev_rd_ok h7
    have hq := ev_al_ok h3
    rw [ev_ia_ok h1]
    dsimp only at h5
    subst h5
    have q := kk _ _ _ _ _ _ h8 _ _ _ w hl
    rw [← hgd 0] at q
    exact va_lald hx hb hK w.1 a 2 (ws_at hq) rfl hin hv q
  | aaload =>
    have hgen : ((ev_ia st).bind fun q => (ev_ar hp q.2.1).bind fun z => if 4 ≤ z.1 ∧ z.1 < 7 then (ev_rd z.2 q.1).bind fun v => K (pc + 1) L (ev_ro z.1 v :: q.2.2) hp k ks else none) = some res → W p l e R s m args below meth c H locs k ks Q (F0 m pc ls (st.map (ev_v b en))) := by
      intro h
      obtain ⟨⟨ix, a, r⟩, h1, h2⟩ := ev_bd h
      obtain ⟨⟨t, f⟩, h3, h4⟩ := ev_bd h2
      obtain ⟨h5, h6⟩ := ev_if h4
      obtain ⟨j, h7, h8⟩ := ev_bd h6
      obtain ⟨hin, hlt, hgd⟩ := ev_rd_ok h7
      have hq := ev_ar_ok h3
      rw [ev_ia_ok h1]
      have q := kk _ _ _ _ _ _ h8 _ _ _ w hl
      have hro : ∀ o : Option Nat, ev_v b en (ev_ro t o) = va_rf (o.map (fun i => if t = 4 then en i else b + i)) := by
        intro o
        cases o with
        | none => rfl
        | some i =>
          by_cases ht : t = 4
          · simp [ev_ro, ht, ev_v, va_rf]
          · simp [ev_ro, ht, ev_v, va_rf]
      rw [← hgd none, List.map_cons, hro] at q
      dsimp only at h5
      match t, h5, hq, q with
      | 4, _, hq, q => exact va_aldq hx hb hK w.1 a 4 (ws_at hq) rfl hin hv q
      | 5, _, hq, q => exact va_aldq hx hb hK w.1 a 5 (ws_at hq) rfl hin hv q
      | 6, _, hq, q => exact va_aldq hx hb hK w.1 a 6 (ws_at hq) rfl hin hv q
    cases st with
    | nil => exact hgen h
    | cons v r =>
      cases v with
      | int i0 =>
        cases r with
        | nil => exact hgen h
        | cons v2 r =>
          cases v2 with
          | retAddr v =>
            obtain ⟨h1, h3⟩ := ev_if h
            obtain ⟨n, h4, h5⟩ := ev_bd h3
            subst h1
            obtain ⟨h6, h7⟩ := ev_ix_ok h4
            subst h7
            exact vb_tq hx hb hE.2.2.1 w.2.1 h6 rfl hv (kk _ _ _ _ _ _ h5 _ _ _ w hl)
          | _ => exact hgen h
      | _ => exact hgen h
  | iastore =>
    obtain ⟨⟨v, ix, a, r⟩, h1, h2⟩ := ev_bd h
    obtain ⟨⟨t, f⟩, h3, h4⟩ := ev_bd h2
    obtain ⟨h5, h6⟩ := ev_if h4
    obtain ⟨j, h7, h8⟩ := ev_bd h6
    obtain ⟨hin, hlt, hgd⟩ := ev_rd_ok h7
    have hq := ev_ai_ok h3
    rw [ev_iia_ok h1]
    dsimp only at h5
    subst h5
    refine va_iast hx hb hK w.1 hD w.2.1 a 1 (ws_at hq) rfl hin hv (fun H1 locs1 hP1 hD1 hS1 => kk _ _ _ _ _ _ h8 _ _ _ (ev_Wset w ?_ hS1) hl)
    rw [ev_u_eq f _ _ hlt] at hP1
    have hln : (f.set ix.toNatClampNeg v).length = f.length := List.length_set
    rw [← hln] at hP1
    exact hP1
  | bastore =>
    obtain ⟨⟨v, ix, a, r⟩, h1, h2⟩ := ev_bd h
    obtain ⟨⟨t, f⟩, h3, h4⟩ := ev_bd h2
    obtain ⟨j, h7, h6⟩ := ev_bd h4
    obtain ⟨hin, hlt, hgd⟩ := ev_rd_ok h7
    have hq := ev_ai_ok h3
    rw [ev_iia_ok h1]
    dsimp only at h6
    by_cases h5 : t = 0
    · rw [if_pos h5] at h6
      subst h5
      refine va_bast hx hb hK w.1 hD w.2.1 a 0 (ws_at hq) rfl hin hv (fun H1 locs1 hP1 hD1 hS1 => kk _ _ _ _ _ _ h6 _ _ _ (ev_Wset w ?_ hS1) hl)
      rw [ev_u_eq f _ _ hlt, vp_nar_byte] at hP1
      have hln : (f.set ix.toNatClampNeg v.toInt8.toInt32).length = f.length := List.length_set
      rw [← hln] at hP1
      exact hP1
    · rw [if_neg h5] at h6
      obtain ⟨⟨h8, h9⟩, h10⟩ := ev_if h6
      subst h8
      refine va_zast hx hb hK w.1 hD w.2.1 a 3 (ws_at hq) rfl hin hv (fun H1 locs1 hP1 hD1 hS1 => kk _ _ _ _ _ _ h10 _ _ _ (ev_Wset w ?_ hS1) hl)
      have hn : vp_nar .boolean v = v := by
        rcases h9 with rfl | rfl <;> decide +kernel
      rw [ev_u_eq f _ _ hlt, hn] at hP1
      have hln : (f.set ix.toNatClampNeg v).length = f.length := List.length_set
      rw [← hln] at hP1
      exact hP1
  | lastore =>
    obtain ⟨⟨v, ix, a, r⟩, h1, h2⟩ := ev_bd h
    obtain ⟨⟨t, f⟩, h3, h4⟩ := ev_bd h2
    obtain ⟨h5, h6⟩ := ev_if h4
    obtain ⟨j, h7, h8⟩ := ev_bd h6
    obtain ⟨hin, hlt, hgd⟩ := ev_rd_ok h7
    have hq := ev_al_ok h3
    rw [ev_lia_ok h1]
    dsimp only at h5
    subst h5
    refine va_last hx hb hK w.1 hD w.2.1 a 2 (ws_at hq) rfl hin hv (fun H1 locs1 hP1 hD1 hS1 => kk _ _ _ _ _ _ h8 _ _ _ (ev_Wset w ?_ hS1) hl)
    rw [ev_ul_eq f _ _ hlt] at hP1
    have hln : (f.set ix.toNatClampNeg v).length = f.length := List.length_set
    rw [← hln] at hP1
    exact hP1
  | new idx =>
    obtain ⟨⟨h1, h2, h12⟩, h3⟩ := ev_if h
    have hk2 : (decide (x < 12) && ev_all [.classLink (mY M mi).cls idx (CN x), .instantiable (CN x) (NN x), .initialized (CN x)]) = true := hk
    simp only [Bool.and_eq_true, decide_eq_true_eq] at hk2
    have hw := ev_all_ok hk2.2
    refine va_new (D := D) (fs := (ev_new x).map (ev_v b en)) hx hb hts (in_at x h12) (TY x) (ty_at x h12) hown (hts _ (hw _ (by simp))) (hts _ (hw _ (by simp))) (hts _ (hw _ (by simp))) hK w.1 hD w.2.1 hA (cl_at h12) (fun j hj => ?_) (Nat.le_trans h1 hR.2.2.1) (Nat.le_trans h2 hR.2.2.2) hv (fun q H1 hP1 hD1 hS1 => ev_sized (fun hz => ?_))
    · rw [ev_d_ok x h12 j hj]
      show _ = ((ev_new x).map (ev_v b en)).getD j .null
      rw [List.getD_eq_getElem?_getD, List.getElem?_map]
      unfold ev_new
      rw [List.getElem?_map, List.getElem?_range hj]
      exact (ev_d_v b en _).symm
    · have hq := ev_fresh hP1 hD1 w.2.2 hz
      subst hq
      exact kk _ _ _ _ _ _ h3 _ _ _ (ev_Wnew w hP1 hS1) hl
  | newarray aty =>
    obtain ⟨⟨n0, r⟩, h1, h2⟩ := ev_bd h
    obtain ⟨⟨t, ty⟩, h3, h4⟩ := ev_bd h2
    obtain ⟨n, h5, h6⟩ := ev_bd h4
    obtain ⟨⟨h7, h8⟩, h9⟩ := ev_if h6
    obtain ⟨hin, hn⟩ := ev_ix_ok h5
    have hk2 : ev_all [.arrayClass (newarray.typeOf aty)] = true := hk
    have hw := hts _ (ev_all_ok hk2 _ (List.mem_singleton.mpr rfl))
    have hlt : n < 65536 := by rw [hn]; exact Nat.not_le.mp (fun z => hin (Or.inr z))
    rw [ev_i_ok h1]
    have key : ∀ (t0 : Nat) (ty0 : FieldType) (y0 : AE) (x0 : vp_A), newarray.typeOf aty = ty0 → (∀ cA : ClassId, vp_cell cA x0 = arrV cA n (fun _ => defaultValue ty0)) → componentBytes ty0 ≤ 8 → (∀ cA, va_RA s cA ty0 → cA = ac t0) → K (pc + 2) L (.ref hp.length :: r) (hp ++ [y0]) (k + 1) (ks + n) = some res → ev_e b en ac y0 = .inl (ac t0, x0) → W p l e R s m args below meth c H locs k ks Q (F0 m pc ls (.int n0 :: r.map (ev_v b en))) := by
      intro t0 ty0 y0 x0 e1 e2 e3 e4 e5 e6
      refine va_newa (D := D) (N' := n) hx hb hw e1 hK w.1 hD w.2.1 hA e2 (fun z => hin (Or.inl z)) hn.symm (Nat.le_trans (Nat.mul_le_mul (Nat.le_of_lt hlt) e3) (by decide)) (Nat.le_trans h7 hR.2.2.1) (Nat.le_trans h8 hR.2.2.2) hv (fun q cA H1 hK1 hP1 hD1 hS1 => ev_sized (fun hz => ?_))
      have hq := ev_fresh hP1 hD1 w.2.2 hz
      subst hq
      have hcA := e4 cA (hK1.2 7 (cA, ty0) rfl).2
      subst hcA
      rw [← e6] at hP1
      exact kk _ _ _ _ _ _ e5 _ _ _ (ev_Wnew w hP1 hS1) hl
    cases aty with
    | byte => cases h3; exact key 0 .byte (.inl (0, .inl (List.replicate n 0))) (n, .inl (fun _ => 0)) rfl (fun cA => rfl) (by decide) (fun cA hc => Option.some.inj (hc.symm.trans (hK.2 0 _ rfl).2)) h9 (ev_rep b en ac 0 n)
    | int => cases h3; exact key 1 .int (.inl (1, .inl (List.replicate n 0))) (n, .inl (fun _ => 0)) rfl (fun cA => rfl) (by decide) (fun cA hc => Option.some.inj (hc.symm.trans (hK.2 1 _ rfl).2)) h9 (ev_rep b en ac 1 n)
    | long => cases h3; exact key 2 .long (.inl (2, .inr (.inl (List.replicate n 0)))) (n, .inr (.inl (fun _ => 0))) rfl (fun cA => rfl) (by decide) (fun cA hc => Option.some.inj (hc.symm.trans (hK.2 2 _ rfl).2)) h9 (ev_repl b en ac 2 n)
    | boolean => cases h3; exact key 3 .boolean (.inl (3, .inl (List.replicate n 0))) (n, .inl (fun _ => 0)) rfl (fun cA => rfl) (by decide) (fun cA hc => Option.some.inj (hc.symm.trans (hK.2 3 _ rfl).2)) h9 (ev_rep b en ac 3 n)
    | _ => exact ev_no h3 rfl
  | anewarray idx =>
    obtain ⟨⟨n0, r⟩, h1, h2⟩ := ev_bd h
    obtain ⟨n, h5, h6⟩ := ev_bd h2
    obtain ⟨⟨h7, h8⟩, h9⟩ := ev_if h6
    obtain ⟨hin, hn⟩ := ev_ix_ok h5
    have hk2 : (decide (4 ≤ x) && decide (x < 7) && ev_all [.classLink (mY M mi).cls idx (ev_ac x)]) = true := hk
    simp only [Bool.and_eq_true, decide_eq_true_eq] at hk2
    have hw := ev_all_ok hk2.2
    have hw1 := hts _ (hw _ List.mem_cons_self)
    have hw2 : va_AO (ev_ac x) s := by
      match x, hk2.1 with
      | 4, _ => exact hE.1.2.2.2.1
      | 5, _ => exact hE.1.2.2.2.2.1
      | 6, _ => exact hE.1.2.2.2.2.2
    have hlt : n < 65536 := by rw [hn]; exact Nat.not_le.mp (fun z => hin (Or.inr z))
    rw [ev_i_ok h1]
    refine va_newq (D := D) (C := ev_ac x) (N' := n) hx hb hown hw1 hw2 hK w.1 hD w.2.1 hA (fun z => hin (Or.inl z)) hn.symm (by omega) (Nat.le_trans h7 hR.2.2.1) (Nat.le_trans h8 hR.2.2.2) hv (fun q cA H1 hK1 hP1 hD1 hS1 => ev_sized (fun hz => ?_))
    have hq := ev_fresh hP1 hD1 w.2.2 hz
    subst hq
    have hcA : cA = ac x := by
      obtain ⟨kA, comp, -, -, -, g1⟩ := (hK1.2 7 (cA, .object (ev_ac x)) rfl).2
      obtain ⟨kB, comp2, -, -, -, g2⟩ : va_RA s (ac x) (.object (ev_ac x)) := by
        match x, hk2.1 with
        | 4, _ => exact (hK.2 4 _ rfl).2
        | 5, _ => exact (hK.2 5 _ rfl).2
        | 6, _ => exact (hK.2 6 _ rfl).2
      exact Option.some.inj (g1.symm.trans g2)
    subst hcA
    rw [← ev_repr b en ac x n] at hP1
    exact kk _ _ _ _ _ _ h9 _ _ _ (ev_Wnew w hP1 hS1) hl
  | ireturn =>
    obtain ⟨⟨v, r⟩, h1, h2⟩ := ev_bd h
    obtain ⟨h3, h4⟩ := ev_if h2
    obtain ⟨h5, h6⟩ := ev_if h4
    cases h6
    rw [ev_i_ok h1]
    simp only [Bool.and_eq_true] at h5
    have hr0 : r = [] := List.isEmpty_iff.mp h5.1.1
    have hkc := Nat.eq_of_beq_eq_true h5.1.2
    have hks := Nat.le_of_ble_eq_true h5.2
    subst hr0
    refine ev_sized (fun hz0 => ?_)
    have hz := ev_size w hbs hz0
    have hQ := hQ rfl
    subst hQ
    refine W.widen (k := mC M mi) (n := mS M mi) (Nat.le_of_eq hkc) hks ?_
    have hq : ∀ t : State, t.heap = H → s.WarmedH t.vm → ev_Q b en ac D (mC M mi) (some (.int v), hp) args s (.returned (some (.int v))) t := fun t ht hW => ⟨rfl, ev_Uof w hK hE hz ht hW, ⟨by rw [ht]; exact w.2.1.1, fun q h1 h2 => by rw [ht]; exact w.2.1.2.1 q h1 h2⟩, by rw [← hkc]; exact w.2.2⟩
    rcases ev_rt_ok h3 with hrt | ⟨ty, hrt, hn⟩
    · exact W.iret hx hb (hret.trans hrt) hq w.2.1.2.2 hv hlocks
    · exact W.zret hx hb (hret.trans hrt) hn hq w.2.1.2.2 hv hlocks
  | lreturn =>
    obtain ⟨⟨v, r⟩, h1, h2⟩ := ev_bd h
    obtain ⟨h3, h4⟩ := ev_if h2
    obtain ⟨h5, h6⟩ := ev_if h4
    cases h6
    rw [ev_l_ok h1]
    simp only [Bool.and_eq_true] at h5
    have hr0 : r = [] := List.isEmpty_iff.mp h5.1.1
    have hkc := Nat.eq_of_beq_eq_true h5.1.2
    have hks := Nat.le_of_ble_eq_true h5.2
    subst hr0
    refine ev_sized (fun hz0 => ?_)
    have hz := ev_size w hbs hz0
    have hQ := hQ rfl
    subst hQ
    refine W.widen (k := mC M mi) (n := mS M mi) (Nat.le_of_eq hkc) hks ?_
    exact W.lret hx hb (hret.trans h3) (fun t ht hW => ⟨rfl, ev_Uof w hK hE hz ht hW, ⟨by rw [ht]; exact w.2.1.1, fun q h1 h2 => by rw [ht]; exact w.2.1.2.1 q h1 h2⟩, by rw [← hkc]; exact w.2.2⟩) w.2.1.2.2 hv hlocks
  | areturn =>
    cases st with
    | nil => exact ev_no h rfl
    | cons v r =>
      cases v with
      | retAddr v =>
        obtain ⟨h3, h4⟩ := ev_if h
        obtain ⟨h5, h6⟩ := ev_if h4
        cases h6
        simp only [Bool.and_eq_true] at h5
        have hr0 : r = [] := List.isEmpty_iff.mp h5.1.1
        have hkc := Nat.eq_of_beq_eq_true h5.1.2
        have hks := Nat.le_of_ble_eq_true h5.2
        subst hr0
        refine ev_sized (fun hz0 => ?_)
        have hz := ev_size w hbs hz0
        have hQ := hQ rfl
        subst hQ
        refine W.widen (k := mC M mi) (n := mS M mi) (Nat.le_of_eq hkc) hks ?_
        exact W.aret hx hb (hret.trans h3) (Or.inl ⟨_, rfl⟩) (Or.inr ⟨_, rfl⟩) (fun t ht hW => ⟨rfl, ev_Uof w hK hE hz ht hW, ⟨by rw [ht]; exact w.2.1.1, fun q h1 h2 => by rw [ht]; exact w.2.1.2.1 q h1 h2⟩, by rw [← hkc]; exact w.2.2⟩) w.2.1.2.2 hv hlocks
      | _ => exact ev_no h rfl
  | return_ =>
    obtain ⟨h3, h4⟩ := ev_if h
    obtain ⟨h5, h6⟩ := ev_if h4
    cases h6
    simp only [Bool.and_eq_true] at h5
    have hr0 : st = [] := List.isEmpty_iff.mp h5.1.1
    have hkc := Nat.eq_of_beq_eq_true h5.1.2
    have hks := Nat.le_of_ble_eq_true h5.2
    subst hr0
    refine ev_sized (fun hz0 => ?_)
    have hz := ev_size w hbs hz0
    have hQ := hQ rfl
    subst hQ
    refine W.widen (k := mC M mi) (n := mS M mi) (Nat.le_of_eq hkc) hks ?_
    exact W.vret hx hb (hret.trans h3) (fun t ht hW => ⟨rfl, ev_Uof w hK hE hz ht hW, ⟨by rw [ht]; exact w.2.1.1, fun q h1 h2 => by rw [ht]; exact w.2.1.2.1 q h1 h2⟩, by rw [← hkc]; exact w.2.2⟩) w.2.1.2.2 hv hlocks
  | iaload =>
    have hgen : ev_ld hp st (fun v r => K (pc + 1) L (v :: r) hp k ks) = some res → W p l e R s m args below meth c H locs k ks Q (F0 m pc ls (st.map (ev_v b en))) := by
      intro h
      obtain ⟨⟨ix, a, r⟩, h1, h2⟩ := ev_bd h
      obtain ⟨⟨t, f⟩, h3, h4⟩ := ev_bd h2
      obtain ⟨h5, h6⟩ := ev_if h4
      obtain ⟨j, h7, h8⟩ := ev_bd h6
      obtain ⟨hin, hlt, hgd⟩ := ev_rd_ok h7
      have hq := ev_ai_ok h3
      rw [ev_ia_ok h1]
      dsimp only at h5
      subst h5
      have q := kk _ _ _ _ _ _ h8 _ _ _ w hl
      rw [← hgd 0] at q
      exact va_iald hx hb hK w.1 a 1 (ws_at hq) rfl hin hv q
    cases st with
    | nil => exact hgen h
    | cons v r =>
      cases v with
      | int i0 =>
        cases r with
        | nil => exact hgen h
        | cons v2 r =>
          cases v2 with
          | retAddr z =>
            obtain ⟨h3, h4⟩ := ev_if h
            obtain ⟨j, h7, h8⟩ := ev_bd h4
            obtain ⟨hin, hlt, hgd⟩ := ev_rd_ok h7
            subst h3
            have q := kk _ _ _ _ _ _ h8 _ _ _ w hl
            rw [← hgd 0] at q
            exact va_ti hx hb hE.1.2.2.1 w.2.1 hin rfl hv q
          | _ => exact hgen h
      | _ => exact hgen h
  | aastore =>
    have hgen : ev_sr hp st x y (fun r h1 => K (pc + 1) L r h1 k ks) = some res → W p l e R s m args below meth c H locs k ks Q (F0 m pc ls (st.map (ev_v b en))) := by
      intro h
      obtain ⟨⟨v, ix, a, r⟩, h1, h2⟩ := ev_bd h
      obtain ⟨⟨t, f⟩, h3, h4⟩ := ev_bd h2
      obtain ⟨⟨h5, h5b⟩, h6⟩ := ev_if h4
      obtain ⟨fs, h7, h8⟩ := ev_bd h6
      obtain ⟨j, h9, h10⟩ := ev_bd h8
      obtain ⟨hin, hlt, hgd⟩ := ev_rd_ok h9
      have hq := ev_ar_ok h3
      have hob := ev_ob_ok h7
      rw [ev_aia_ok h1]
      dsimp only at h5
      subst h5
      rcases h5b with ⟨h5, h5c⟩ | ⟨h5, h5c⟩
      · subst h5; subst h5c
        refine va_astq (D := D) (r := (CN 3, TT 3, NN 3)) hx hb hK w.1 hD w.2.1 a 5 v 3 (ws_at hq) rfl (ws_at hob) (cl_at (by decide)) hin hv (fun H1 locs1 hP1 hD1 hS1 => kk _ _ _ _ _ _ h10 _ _ _ (ev_Wset w ?_ hS1) hl)
        have e2 : va_up (fun k => (f.getD k none).map (fun i => if (5 : Nat) = 4 then en i else b + i)) ix.toNatClampNeg (some (b + v)) = fun k => ((f.set ix.toNatClampNeg (some v)).getD k none).map (fun i => if (5 : Nat) = 4 then en i else b + i) := ev_ur_eq f _ v _ hlt
        have hln : (f.set ix.toNatClampNeg (some v)).length = f.length := List.length_set
        rw [e2, ← hln] at hP1
        exact hP1
      · subst h5; subst h5c
        refine va_astq (D := D) (r := (CN 2, TT 2, NN 2)) hx hb hK w.1 hD w.2.1 a 6 v 2 (ws_at hq) rfl (ws_at hob) (cl_at (by decide)) hin hv (fun H1 locs1 hP1 hD1 hS1 => kk _ _ _ _ _ _ h10 _ _ _ (ev_Wset w ?_ hS1) hl)
        have e2 : va_up (fun k => (f.getD k none).map (fun i => if (6 : Nat) = 4 then en i else b + i)) ix.toNatClampNeg (some (b + v)) = fun k => ((f.set ix.toNatClampNeg (some v)).getD k none).map (fun i => if (6 : Nat) = 4 then en i else b + i) := ev_ur_eq f _ v _ hlt
        have hln : (f.set ix.toNatClampNeg (some v)).length = f.length := List.length_set
        rw [e2, ← hln] at hP1
        exact hP1
    cases st with
    | nil => exact hgen h
    | cons v r =>
      cases v with
      | retAddr v =>
        cases r with
        | nil => exact hgen h
        | cons v2 r =>
          cases v2 with
          | int i0 =>
            cases r with
            | nil => exact hgen h
            | cons v3 r =>
              cases v3 with
              | ref a =>
                obtain ⟨⟨t, f⟩, h3, h4⟩ := ev_bd h
                obtain ⟨⟨h5, h5b⟩, h6⟩ := ev_if h4
                obtain ⟨j, h9, h10⟩ := ev_bd h6
                obtain ⟨hin, hlt, hgd⟩ := ev_rd_ok h9
                have hq := ev_ar_ok h3
                dsimp only at h5
                subst h5
                refine vb_astq (D := D) (E := "LeftAnswers$Word") (C := "LeftAnswers$Word") (v := en v) hx hb hK w.1 hD w.2.1 a 4 (ws_at hq) rfl (va_recvEc hE.1.1 h5b w.2.1) (fun _ _ => vb_asgS _ _) hin hv (fun H1 locs1 hP1 hD1 hS1 => kk _ _ _ _ _ _ h10 _ _ _ (ev_Wset w ?_ hS1) hl)
                have e2 : va_up (fun k => (f.getD k none).map (fun i => if (4 : Nat) = 4 then en i else b + i)) i0.toNatClampNeg (some (en v)) = fun k => ((f.set i0.toNatClampNeg (some v)).getD k none).map (fun i => if (4 : Nat) = 4 then en i else b + i) := ev_ur_eq f _ v _ hlt
                have hln : (f.set i0.toNatClampNeg (some v)).length = f.length := List.length_set
                rw [e2, ← hln] at hP1
                exact hP1
              | _ => exact hgen h
          | _ => exact hgen h
      | _ => exact hgen h
  | invokevirtual idx =>
    have hk2 : ((decide (x = 900) && ev_all [.methodLink (mY M mi).cls idx ⟨"LeftAnswers$Word", "ordinal", "()I"⟩]) || (decide (x = 905) && ev_all [.methodLink (mY M mi).cls idx ⟨"java/lang/String", "length", "()I"⟩]) || (decide (x = 906) && ev_all [.methodLink (mY M mi).cls idx ⟨"java/lang/String", "charAt", "(I)C"⟩]) || (decide (x < 900) && ev_me M x y && decide (mK M x < 12) && decide ((mY M x).cls = CN (mK M x)) && ev_all [.methodLink (mY M mi).cls idx (mY M x), .instanceMethod (mY M x), .selects (mY M x).cls (mY M x) (mY M x)])) = true := hk
    simp only [Bool.or_eq_true, Bool.and_eq_true, decide_eq_true_eq] at hk2
    have hgen : ev_iv M cf mi x y st hp k ks (K (pc + 3) L) = some res → W p l e R s m args below meth c H locs k ks Q (F0 m pc ls (st.map (ev_v b en))) := by
      intro h
      obtain ⟨⟨As, r0⟩, h1, h2⟩ := ev_bd h
      obtain ⟨⟨z, rest⟩, h3, h4⟩ := ev_bd h2
      obtain ⟨fs, h5, h6⟩ := ev_bd h4
      obtain ⟨hx9, h6⟩ := ev_if h6
      obtain ⟨hroom, h7⟩ := ev_if h6
      obtain ⟨hfit, h8⟩ := ev_if h7
      obtain ⟨q, h9, h10⟩ := ev_bd h8
      obtain ⟨e1, e2⟩ := ev_pop_ok h1
      have e3 := ev_a_ok h3
      dsimp only at e3 h5 hroom h9 h10
      rcases hk2 with ((⟨h11, -⟩ | ⟨h11, -⟩) | ⟨h11, -⟩) | ⟨⟨⟨⟨h11, hme⟩, hk12⟩, hcls⟩, hlk⟩
      · exact absurd hx9 (by omega)
      · exact absurd hx9 (by omega)
      · exact absurd hx9 (by omega)
      · rw [e1, e3]
        exact ev_call_V hR hC kk ((hcf _ _ _ _ h9).1 (me_pl hme)) hme hk12 hcls hlk (ev_ob_ok h5) e2 hroom hfit hv w h10 hl
    by_cases hx9 : x < 900
    · have h0 : eo_invokevirtual M cf mi pc x y L st hp k ks K = some res := h
      unfold eo_invokevirtual at h0
      rw [if_pos hx9] at h0
      exact hgen h0
    · have h0 : eo_invokevirtual M cf mi pc x y L st hp k ks K = some res := h
      unfold eo_invokevirtual at h0
      rw [if_neg hx9] at h0
      have hk3 : (x = 900 ∧ ev_all [.methodLink (mY M mi).cls idx ⟨"LeftAnswers$Word", "ordinal", "()I"⟩] = true) ∨ (x = 905 ∧ ev_all [.methodLink (mY M mi).cls idx ⟨"java/lang/String", "length", "()I"⟩] = true) ∨ (x = 906 ∧ ev_all [.methodLink (mY M mi).cls idx ⟨"java/lang/String", "charAt", "(I)C"⟩] = true) := by
        rcases hk2 with ((h11 | h11) | h11) | ⟨⟨⟨⟨h11, hme⟩, hk12⟩, hcls⟩, hlk⟩
        · exact Or.inl h11
        · exact Or.inr (Or.inl h11)
        · exact Or.inr (Or.inr h11)
        · exact absurd h11 hx9
      cases st with
      | nil => exact ev_no h0 rfl
      | cons v r =>
        cases v with
        | retAddr v =>
          rcases hk3 with ⟨h3, hlk⟩ | ⟨h3, hlk⟩ | ⟨h3, hlk⟩
          · by_cases hc : x = 900 ∧ v < 32 ∧ k ≤ mC M mi ∧ ks ≤ mS M mi
            · dsimp only at h0
              rw [if_pos hc] at h0
              obtain ⟨hroom, h6⟩ := ev_if h0
              exact ev_call_O hR hC kk hc.2.1 hc.2.2 hlk hroom hv w h6 hl
            · dsimp only at h0
              rw [if_neg hc] at h0
              obtain ⟨hd, -⟩ := ev_if h0
              omega
          · have hc : ¬ (x = 900 ∧ v < 32 ∧ k ≤ mC M mi ∧ ks ≤ mS M mi) := by omega
            dsimp only at h0
            rw [if_neg hc] at h0
            obtain ⟨hd, h5⟩ := ev_if h0
            obtain ⟨hroom, h6⟩ := ev_if h5
            exact ev_call_L hR hC kk hd.2.1 hd.2.2.1 hd.2.2.2 hlk hroom hv w h6 hl
          · have hc : ¬ (x = 900 ∧ v < 32 ∧ k ≤ mC M mi ∧ ks ≤ mS M mi) := by omega
            dsimp only at h0
            rw [if_neg hc] at h0
            obtain ⟨hd, -⟩ := ev_if h0
            omega
        | int i0 =>
          cases r with
          | nil => exact ev_no h0 rfl
          | cons v2 r =>
            cases v2 with
            | retAddr v =>
              dsimp only at h0
              obtain ⟨hd, h5⟩ := ev_if h0
              obtain ⟨hroom, h6⟩ := ev_if h5
              obtain ⟨cc, h7, h8⟩ := ev_bd h6
              rcases hk3 with ⟨h3, hlk⟩ | ⟨h3, hlk⟩ | ⟨h3, hlk⟩
              · omega
              · omega
              · exact ev_call_A hR hC kk hd.2.1 hd.2.2.1 hd.2.2.2 hlk hroom h7 hv w h8 hl
            | _ => exact ev_no h0 rfl
        | _ => exact ev_no h0 rfl
  | invokespecial idx =>
    have hk2 : ((decide (x = 999) && ev_all [.methodLink (mY M mi).cls idx objectInit, .instanceMethod objectInit, .code objectInit ⟨#[0xb1]⟩ 1 none]) || (decide (x < 900) && ev_me M x y && decide (mR M x = none) && decide ((mY M x).name = "<init>") && ev_all [.methodLink (mY M mi).cls idx (mY M x), .instanceMethod (mY M x)])) = true := hk
    simp only [Bool.or_eq_true, Bool.and_eq_true, decide_eq_true_eq] at hk2
    by_cases h9 : x = 999
    · have h' : (ev_a st).bind (fun q => (if (q.2.map fun v => v.category).sum ≤ 8 then K (pc + 3) L q.2 hp k ks else none)) = some res := by
        have h0 : eo_invokespecial M cf mi pc x y L st hp k ks K = some res := h
        unfold eo_invokespecial at h0
        rw [if_pos h9] at h0
        exact h0
      obtain ⟨⟨a, r⟩, h1, h2⟩ := ev_bd h'
      obtain ⟨hroom, h3⟩ := ev_if h2
      rcases hk2 with ⟨-, hlk⟩ | ⟨⟨⟨⟨h11, hme⟩, -⟩, -⟩, -⟩
      · have hw := ev_all_ok hlk
        rw [ev_a_ok h1]
        have hrm := lv_room (m := m) (pc := pc) (ls := ls) (rest := r.map (ev_v b en)) (st := r.map (ev_v b en)) (by rw [ev_cats]; exact hroom)
        refine W.objInit hx hb hown (hts _ (hw _ List.mem_cons_self)) (hts _ (hw _ (List.mem_cons_of_mem _ List.mem_cons_self))) (hts _ (hw _ (List.mem_cons_of_mem _ (List.mem_cons_of_mem _ List.mem_cons_self)))) rfl (hl.1.trans hml.symm) rfl hv (Nat.le_trans (Nat.le_add_left 1 (d + 3)) hR.1) ?_ ?_
        · show 2 * (F0 m pc ls _).monitorRoom + ((r.map (ev_v b en)).map fun v => v.category).sum + 12 ≤ R.locals
          have hR2 := hR.2.1
          have hrm2 : 2 * (F0 m pc ls (List.map (ev_v b en) (Value.ref a :: r))).monitorRoom + ((r.map (ev_v b en)).map fun v => v.category).sum ≤ 8 := hrm
          omega
        · exact W.eq (g2 := F0 m (pc + 3) ls (r.map (ev_v b en))) rfl (kk _ _ _ _ _ _ h3 _ _ _ w hl)
      · exact absurd h11 (by omega)
    · have h' : (if x < 900 then (ev_pop y st).bind (fun q => (ev_a q.2).bind fun z => ev_cf M cf mi x (.ref z.1 :: q.1) z.2 hp k ks (K (pc + 3) L)) else none) = some res := by
        have h0 : eo_invokespecial M cf mi pc x y L st hp k ks K = some res := h
        unfold eo_invokespecial at h0
        rw [if_neg h9] at h0
        exact h0
      obtain ⟨hx9, h0⟩ := ev_if h'
      obtain ⟨⟨As, r0⟩, h1, h2⟩ := ev_bd h0
      obtain ⟨⟨z, rest⟩, h3, h6⟩ := ev_bd h2
      obtain ⟨hroom, h7⟩ := ev_if h6
      obtain ⟨hfit, h8⟩ := ev_if h7
      obtain ⟨q, h9, h10⟩ := ev_bd h8
      obtain ⟨e1, e2⟩ := ev_pop_ok h1
      have e3 := ev_a_ok h3
      dsimp only at e3 hroom h9 h10
      rcases hk2 with ⟨h11, -⟩ | ⟨⟨⟨⟨h11, hme⟩, hrn⟩, hin⟩, hlk⟩
      · exact absurd hx9 (by omega)
      · rw [e1, e3]
        exact ev_call_I hR hC kk ((hcf _ _ _ _ h9).1 (me_pl hme)) hme hrn hin hlk e2 hroom hfit hv w h10 hl
  | invokestatic idx =>
    have hk2 : ((decide (x < 900) && decide (mY M x = Lib.Math.abs.name) && decide (mC M x = 0) && decide (mS M x = 0) && decide (y = 1) && ev_all [.methodLink (mY M mi).cls idx Lib.Math.abs.name, .static Lib.Math.abs.name, .initialized "java/lang/Math", .code Lib.Math.abs.name Lib.Math.abs.code 1 (some .int)])
      || (decide (x < 900) && ev_me M x y && ev_all [.methodLink (mY M mi).cls idx (mY M x), .static (mY M x)])
      || (decide (x = 901) && ev_all [.methodLink (mY M mi).cls idx Lib.Math.min.name, .static Lib.Math.min.name, .initialized "java/lang/Math", .code Lib.Math.min.name Lib.Math.min.code 2 (some .int)])
      || (decide (x = 902) && ev_all [.methodLink (mY M mi).cls idx Lib.Math.max.name, .static Lib.Math.max.name, .initialized "java/lang/Math", .code Lib.Math.max.name Lib.Math.max.code 2 (some .int)])
      || (decide (x = 904) && ev_all [.methodLink (mY M mi).cls idx arraycopyName, .native arraycopyName, .static arraycopyName, .initialized "java/lang/System"])) = true := hk
    simp only [Bool.or_eq_true, Bool.and_eq_true, decide_eq_true_eq] at hk2
    have h0 : eo_invokestatic M cf mi pc x y L st hp k ks K = some res := h
    unfold eo_invokestatic at h0
    rcases hk2 with (((⟨⟨⟨⟨⟨h11, hab⟩, hc0⟩, hs0⟩, hy1⟩, hlk⟩ | ⟨⟨h11, hme⟩, hlk⟩) | ⟨h11, hlk⟩) | ⟨h11, hlk⟩) | ⟨h11, hlk⟩
    · rw [if_pos h11] at h0
      obtain ⟨⟨As, rest⟩, h1, h6⟩ := ev_bd h0
      obtain ⟨hroom, h7⟩ := ev_if h6
      obtain ⟨hfit, h8⟩ := ev_if h7
      obtain ⟨q, h9, h10⟩ := ev_bd h8
      obtain ⟨e1, e2⟩ := ev_pop_ok h1
      dsimp only at hroom h9 h10
      obtain ⟨a, ha1, ha2⟩ := (hcf _ _ _ _ h9).2 hab
      subst ha1 ha2
      rw [hc0, hs0] at h10
      rw [hc0, hs0] at hfit
      rw [e1]
      have hw := ev_all_ok hlk
      refine va_mabs hx hb (hml.trans hl.1.symm) hown (hts _ (hw _ List.mem_cons_self)) (hts _ (hw _ (List.mem_cons_of_mem _ List.mem_cons_self))) (hts _ (hw _ (List.mem_cons_of_mem _ (List.mem_cons_of_mem _ List.mem_cons_self)))) (hts _ (hw _ (List.mem_cons_of_mem _ (List.mem_cons_of_mem _ (List.mem_cons_of_mem _ List.mem_cons_self))))) (Nat.le_trans (Nat.le_add_left 1 (d + 3)) hR.1) ?_ (Nat.le_trans hfit.1 hR.2.2.1) (Nat.le_trans hfit.2 hR.2.2.2) hv (kk _ _ _ _ _ _ h10 _ _ _ w hl)
      rw [ev_cats]
      exact Nat.le_trans (Nat.add_le_add_right hroom 13) (lc_2 (show 8 + 13 ≤ 256 by decide) hR.2.1)
    · rw [if_pos h11] at h0
      obtain ⟨⟨As, rest⟩, h1, h6⟩ := ev_bd h0
      obtain ⟨hroom, h7⟩ := ev_if h6
      obtain ⟨hfit, h8⟩ := ev_if h7
      obtain ⟨q, h9, h10⟩ := ev_bd h8
      obtain ⟨e1, e2⟩ := ev_pop_ok h1
      dsimp only at hroom h9 h10
      rw [e1]
      exact ev_call_S hR hC kk ((hcf _ _ _ _ h9).1 (me_pl hme)) hme hlk e2 hroom hfit hv w h10 hl
    · subst h11
      rw [if_neg (by decide), if_pos rfl] at h0
      obtain ⟨⟨z2, z1, r⟩, h1, h2⟩ := ev_bd h0
      obtain ⟨⟨hroom, hfit⟩, h3⟩ := ev_if h2
      have hw := ev_all_ok hlk
      rw [ev_ii_ok h1]
      refine va_mmin hx hb (hml.trans hl.1.symm) hown (hts _ (hw _ List.mem_cons_self)) (hts _ (hw _ (List.mem_cons_of_mem _ List.mem_cons_self))) (hts _ (hw _ (List.mem_cons_of_mem _ (List.mem_cons_of_mem _ List.mem_cons_self)))) (hts _ (hw _ (List.mem_cons_of_mem _ (List.mem_cons_of_mem _ (List.mem_cons_of_mem _ List.mem_cons_self))))) (Nat.le_trans (Nat.le_add_left 1 (d + 3)) hR.1) ?_ (Nat.le_trans hfit.1 hR.2.2.1) (Nat.le_trans hfit.2 hR.2.2.2) hv (kk _ _ _ _ _ _ h3 _ _ _ w hl)
      dsimp only at hroom
      rw [ev_cats]
      have hR2 := hR.2.1
      omega
    · subst h11
      rw [if_neg (by decide), if_neg (by decide), if_pos rfl] at h0
      obtain ⟨⟨z2, z1, r⟩, h1, h2⟩ := ev_bd h0
      obtain ⟨⟨hroom, hfit⟩, h3⟩ := ev_if h2
      have hw := ev_all_ok hlk
      rw [ev_ii_ok h1]
      refine va_mmax hx hb (hml.trans hl.1.symm) hown (hts _ (hw _ List.mem_cons_self)) (hts _ (hw _ (List.mem_cons_of_mem _ List.mem_cons_self))) (hts _ (hw _ (List.mem_cons_of_mem _ (List.mem_cons_of_mem _ List.mem_cons_self)))) (hts _ (hw _ (List.mem_cons_of_mem _ (List.mem_cons_of_mem _ (List.mem_cons_of_mem _ List.mem_cons_self))))) (Nat.le_trans (Nat.le_add_left 1 (d + 3)) hR.1) ?_ (Nat.le_trans hfit.1 hR.2.2.1) (Nat.le_trans hfit.2 hR.2.2.2) hv (kk _ _ _ _ _ _ h3 _ _ _ w hl)
      dsimp only at hroom
      rw [ev_cats]
      have hR2 := hR.2.1
      omega
    · subst h11
      rw [if_neg (by decide), if_neg (by decide), if_neg (by decide), if_pos rfl] at h0
      obtain ⟨⟨n, dp, a1, sp, a0, r⟩, h1, h2⟩ := ev_bd h0
      obtain ⟨hroom, h3⟩ := ev_if h2
      obtain ⟨hp1, h4, h5⟩ := ev_bd h3
      have hw := ev_all_ok hlk
      rw [ev_c5_ok h1]
      dsimp only at hroom h4 h5
      have hlo : ((r.map (ev_v b en)).map fun v => v.category).sum + (nativeFrameWords "java/lang/System" "arraycopy" 5 + 11) ≤ R.locals := by
        rw [ev_cats]
        have hnf : nativeFrameWords "java/lang/System" "arraycopy" 5 + 11 ≤ 56 := by decide +kernel
        have hR2 := hR.2.1
        omega
      rcases ev_cy_ok h4 with ⟨⟨e1, e2, e3⟩, ⟨f, g, g1, g2, g3, g4, rfl⟩ | ⟨f, g, g1, g2, g3, g4, rfl⟩⟩
      · refine va_copyi hx hb (hml.trans hl.1.symm) hown (hts _ (hw _ List.mem_cons_self)) (hts _ (hw _ (List.mem_cons_of_mem _ List.mem_cons_self))) (hts _ (hw _ (List.mem_cons_of_mem _ (List.mem_cons_of_mem _ List.mem_cons_self)))) (hts _ (hw _ (List.mem_cons_of_mem _ (List.mem_cons_of_mem _ (List.mem_cons_of_mem _ List.mem_cons_self))))) hK w.1 hD w.2.1 a0 a1 1 1 (ty := .int) (ws_at g1) (ws_at g2) rfl rfl rfl e3 e2 e1 g3 g4 (fun _ _ => rfl) (Nat.le_trans (Nat.le_add_left 1 (d + 3)) hR.1) hlo hv (fun H1 locs1 hP1 hD1 hS1 => kk _ _ _ _ _ _ h5 _ _ _ (ev_Wset w ?_ hS1) hl)
        rw [ev_cp_eq 0 f g _ _ _ g4, ← ev_cp_len 0 f g sp.toNatClampNeg dp.toNatClampNeg n.toNatClampNeg] at hP1
        exact hP1
      · refine va_copyl hx hb (hml.trans hl.1.symm) hown (hts _ (hw _ List.mem_cons_self)) (hts _ (hw _ (List.mem_cons_of_mem _ List.mem_cons_self))) (hts _ (hw _ (List.mem_cons_of_mem _ (List.mem_cons_of_mem _ List.mem_cons_self)))) (hts _ (hw _ (List.mem_cons_of_mem _ (List.mem_cons_of_mem _ (List.mem_cons_of_mem _ List.mem_cons_self))))) hK w.1 hD w.2.1 a0 a1 2 2 (ty := .long) (ws_at g1) (ws_at g2) rfl rfl rfl e3 e2 e1 g3 g4 (fun _ _ => rfl) (Nat.le_trans (Nat.le_add_left 1 (d + 3)) hR.1) hlo hv (fun H1 locs1 hP1 hD1 hS1 => kk _ _ _ _ _ _ h5 _ _ _ (ev_Wset w ?_ hS1) hl)
        rw [ev_cp_eq 0 f g _ _ _ g4, ← ev_cp_len 0 f g sp.toNatClampNeg dp.toNatClampNeg n.toNatClampNeg] at hP1
        exact hP1
  | _ => exact ev_no h rfl
end
section
/-! ===== the small machine is right ===== -/
def ev_val (M : MT) : Prop := ∀ mi pc i x y, mF M mi pc = some (i, x, y) → decode (mB M mi) pc = .ok (i, ev_ln i y) ∧ ev_kb M (mY M mi).cls pc i x y = true ∧ True
theorem ev_r_ok {p : Program} {l : Launch} {e : Env} {R : Room} {s : State} {m : MethodId} {args : Array Value} {below : List Frame} {meth : Method} {c : Code} {b : Nat} {en ac : Nat → Nat} {D : va_G} {M : MT} {mi d : Nat} {res : ev_R} {cf : Nat → List Value → List AE → Option ev_R} {Q : State → Prop} (hval : ev_val M)
    (hR : d + 4 ≤ R.frames ∧ 64 * (d + 1) + 256 ≤ R.locals ∧ mC M mi ≤ R.cells ∧ mS M mi ≤ R.slots) (hcf : ∀ x As hp q, cf x As hp = some q → ev_MX l b en ac D M d x As hp q) (hC : ex_C p s m args meth c b en ac D M mi) (hQ : Q = MQ below (ev_Q b en ac D (mC M mi) res) args s (mC M mi) (mS M mi) (ev_A b)) :
    ∀ (n pc : Nat) (L : List (Nat × Value)) (st : List Value) (hp : List AE) (k ks : Nat), ev_r M cf mi n pc L st hp k ks = some res → ∀ H locs ls, ev_W b en ac D s hp H locs k → lv_has ls (mL M mi) (ev_L b en L) → W p l e R s m args below meth c H locs k ks Q (F0 m pc ls (st.map (ev_v b en))) := by
  intro n
  induction n with
  | zero => intro pc L st hp k ks h; cases h
  | succ n ih =>
    intro pc L st hp k ks h H locs ls w hl
    obtain ⟨⟨i, x, y⟩, h1, h2⟩ := ev_bd h
    obtain ⟨hv, hk, -⟩ := hval mi pc i x y h1
    exact ev_s_ok hR hcf hC (fun _ => hQ) ih hv hk h2 w hl
def ev_abs (M : MT) : Prop := ∀ mi, mY M mi = Lib.Math.abs.name → ∀ F d As hp q, evF F M (d + 1) mi As hp = some q → ev_ab As hp q
theorem evF_ok (l : Launch) (b : Nat) (en ac : Nat → Nat) (D : va_G) {M : MT} (F : Nat) (hval : ev_val M) (hab : ev_abs M) : ∀ (d mi : Nat) (As : List Value) (hp : List AE) (q : ev_R), evF F M d mi As hp = some q → ev_MX l b en ac D M d mi As hp q := by
  intro d
  induction d with
  | zero => intro mi As hp q h; cases h
  | succ d ih =>
    intro mi As hp q h
    refine ⟨fun hpl => ?_, fun hn => hab mi hn F d As hp q h⟩
    obtain ⟨⟨h1, h2⟩, h3⟩ := ev_if h
    obtain ⟨i, x, y, h4⟩ : ∃ i x y, mF M mi 0 = some (i, x, y) := by
      cases F with
      | zero => cases h3
      | succ n => obtain ⟨⟨i, x, y⟩, h4, -⟩ := ev_bd h3; exact ⟨i, x, y, h4⟩
    refine Met.ofW (cc := mB M mi) (maxL := mL M mi) (ret := mR M mi) hpl rfl ?_
    intro p e s m args below meth c s₁ B hml hq
    obtain ⟨rfl, hz, hP, hK, hE⟩ := hq
    have hts := atoms_spec (ws := .code (mY M mi) (mB M mi) (mL M mi) (mR M mi) :: gtb) B.pre
    have hC : ex_C p s m (As.map (ev_v b en)).toArray meth c b en ac D M mi := ⟨B.exec, B.bytes, hml, findClass_of_methodNamed B.named, fun w hw => hts w (List.mem_cons_of_mem _ hw), hK, hE, by rw [hz]; exact Nat.le_add_right _ _, B.notSynchronized, B.returns, fun h => (name_of_methodNamed B.named B.method).1.trans h⟩
    have hl := lv_entry (As.map (ev_v b en)) (n := mL M mi) (by rw [ev_sl]; exact h1)
    rw [lg_entry_eq]
    rw [ev_La] at hl
    exact ev_r_ok hval ⟨Nat.le_refl _, Nat.le_refl _, Nat.le_refl _, Nat.le_refl _⟩ ih hC rfl _ _ _ _ _ _ _ h3 _ _ _ ⟨hP, va_S.rf, hz⟩ hl
theorem ev_ok (l : Launch) (b : Nat) (en ac : Nat → Nat) (D : va_G) {M : MT} (hval : ev_val M) (hab : ev_abs M) (d mi : Nat) (As : List Value) (hp : List AE) (q : ev_R) (hpl : plainName (mY M mi).cls = true) (h : ev M d mi As hp = some q) : ev_M l b en ac D M d mi As hp q := (evF_ok l b en ac D 100000 hval hab d mi As hp q h).1 hpl
end
section
/-! ===== walks over the small machine's states, a row an instruction, calls by contract ===== -/
def Wk (p : Program) (l : Launch) (e : Env) (R : Room) (s : State) (m : MethodId) (args : Array Value) (below : List Frame) (meth : Method) (c : Code) (b : Nat) (en ac : Nat → Nat) (D : va_G) (M : MT) (mi : Nat) (Q : State → Prop) (pc : Nat) (L : List (Nat × Value)) (st : List Value) (hp : List AE) (k ks : Nat) : Prop :=
  ∀ H locs ls, ev_W b en ac D s hp H locs k → lv_has ls (mL M mi) (ev_L b en L) → W p l e R s m args below meth c H locs k ks Q (F0 m pc ls (st.map (ev_v b en)))
noncomputable def KW (P : Nat → List (Nat × Value) → List Value → List AE → Nat → Nat → Prop) (res : ev_R) : Nat → List (Nat × Value) → List Value → List AE → Nat → Nat → Option ev_R := fun pc L st hp k ks => @ite _ (P pc L st hp k ks) (Classical.propDecidable _) (some res) none
theorem KW_ok {P : Nat → List (Nat × Value) → List Value → List AE → Nat → Nat → Prop} {res : ev_R} {pc : Nat} {L : List (Nat × Value)} {st : List Value} {hp : List AE} {k ks : Nat} (h : P pc L st hp k ks) : KW P res pc L st hp k ks = some res := by
  unfold KW
  exact if_pos h
theorem KW_of {P : Nat → List (Nat × Value) → List Value → List AE → Nat → Nat → Prop} {res : ev_R} {pc : Nat} {L : List (Nat × Value)} {st : List Value} {hp : List AE} {k ks : Nat} (h : KW P res pc L st hp k ks = some res) : P pc L st hp k ks := by
  unfold KW at h
  exact (ev_if h).1
section
variable {p : Program} {l : Launch} {e : Env} {R : Room} {s : State} {m : MethodId} {args : Array Value} {below : List Frame} {meth : Method} {c : Code} {Q : State → Prop} {b : Nat} {en ac : Nat → Nat} {D : va_G} {M : MT} {mi d : Nat}
theorem wk_s {pc x y k ks : Nat} {i : Instr} {L : List (Nat × Value)} {st : List Value} {hp : List AE} (hR : d + 4 ≤ R.frames ∧ 64 * (d + 1) + 256 ≤ R.locals ∧ mC M mi ≤ R.cells ∧ mS M mi ≤ R.slots) (hC : ex_C p s m args meth c b en ac D M mi) (hval : ev_val M) (hf : mF M mi pc = some (i, x, y)) (hi : ev_isr i = false)
    (h : ev_s M (fun _ _ _ => none) mi pc i x y L st hp k ks (KW (Wk p l e R s m args below meth c b en ac D M mi Q) (none, [])) = some (none, [])) : Wk p l e R s m args below meth c b en ac D M mi Q pc L st hp k ks :=
  fun _ _ _ w hl => ev_s_ok hR (fun _ _ _ _ h => by cases h) hC (fun h => by rw [hi] at h; cases h) (fun _ _ _ _ _ _ h => KW_of h) (hval mi pc i x y hf).1 (hval mi pc i x y hf).2.1 h w hl
theorem wk_s1 {pc x y k ks : Nat} {i : Instr} {L : List (Nat × Value)} {st : List Value} {hp : List AE} (hR : d + 4 ≤ R.frames ∧ 64 * (d + 1) + 256 ≤ R.locals ∧ mC M mi ≤ R.cells ∧ mS M mi ≤ R.slots) (hC : ex_C p s m args meth c b en ac D M mi) (hd : decode (mB M mi) pc = .ok (i, ev_ln i y)) (hkb : ev_kb M (mY M mi).cls pc i x y = true) (hi : ev_isr i = false)
    (h : ev_s M (fun _ _ _ => none) mi pc i x y L st hp k ks (KW (Wk p l e R s m args below meth c b en ac D M mi Q) (none, [])) = some (none, [])) : Wk p l e R s m args below meth c b en ac D M mi Q pc L st hp k ks :=
  fun _ _ _ w hl => ev_s_ok hR (fun _ _ _ _ h => by cases h) hC (fun h => by rw [hi] at h; cases h) (fun _ _ _ _ _ _ h => KW_of h) hd hkb h w hl
theorem wk_r1 {pc x y k ks : Nat} {i : Instr} {L : List (Nat × Value)} {st : List Value} {hp : List AE} {res : ev_R} (hR : d + 4 ≤ R.frames ∧ 64 * (d + 1) + 256 ≤ R.locals ∧ mC M mi ≤ R.cells ∧ mS M mi ≤ R.slots) (hC : ex_C p s m args meth c b en ac D M mi) (hd : decode (mB M mi) pc = .ok (i, ev_ln i y)) (hkb : ev_kb M (mY M mi).cls pc i x y = true) (hQ : Q = MQ below (ev_Q b en ac D (mC M mi) res) args s (mC M mi) (mS M mi) (ev_A b))
    (h : ev_s M (fun _ _ _ => none) mi pc i x y L st hp k ks (fun _ _ _ _ _ _ => none) = some res) : Wk p l e R s m args below meth c b en ac D M mi Q pc L st hp k ks :=
  fun _ _ _ w hl => ev_s_ok hR (fun _ _ _ _ h => by cases h) hC (fun _ => hQ) (fun _ _ _ _ _ _ h => by cases h) hd hkb h w hl
theorem wk_r {pc x y k ks : Nat} {i : Instr} {L : List (Nat × Value)} {st : List Value} {hp : List AE} {res : ev_R} (hR : d + 4 ≤ R.frames ∧ 64 * (d + 1) + 256 ≤ R.locals ∧ mC M mi ≤ R.cells ∧ mS M mi ≤ R.slots) (hC : ex_C p s m args meth c b en ac D M mi) (hval : ev_val M) (hf : mF M mi pc = some (i, x, y)) (hQ : Q = MQ below (ev_Q b en ac D (mC M mi) res) args s (mC M mi) (mS M mi) (ev_A b))
    (h : ev_s M (fun _ _ _ => none) mi pc i x y L st hp k ks (fun _ _ _ _ _ _ => none) = some res) : Wk p l e R s m args below meth c b en ac D M mi Q pc L st hp k ks :=
  fun _ _ _ w hl => ev_s_ok hR (fun _ _ _ _ h => by cases h) hC (fun _ => hQ) (fun _ _ _ _ _ _ h => by cases h) (hval mi pc i x y hf).1 (hval mi pc i x y hf).2.1 h w hl
theorem wk_V {pc x y idx z k ks : Nat} {L : List (Nat × Value)} {st As rest : List Value} {hp : List AE} {q : ev_R} {fs : List Value} (hR : d + 4 ≤ R.frames ∧ 64 * (d + 1) + 256 ≤ R.locals ∧ mC M mi ≤ R.cells ∧ mS M mi ≤ R.slots) (hC : ex_C p s m args meth c b en ac D M mi) (hval : ev_val M) (hf : mF M mi pc = some (.invokevirtual idx, x, y)) (hx9 : x < 900)
    (hM : ev_M l b en ac D M d x (.ref z :: As) hp q) (hob : hp[z]? = some (.inr (mK M x, fs))) (hn : As.length = y) (hst : st = As.reverse ++ .ref z :: rest) (hroom : (rest.map fun v => v.category).sum ≤ 8) (hfit : k + mC M x ≤ mC M mi ∧ ks + mS M x ≤ mS M mi)
    (h2 : Wk p l e R s m args below meth c b en ac D M mi Q (pc + 3) L (q.1.toList ++ rest) q.2 (k + mC M x) (ks + mS M x)) : Wk p l e R s m args below meth c b en ac D M mi Q pc L st hp k ks := by
  intro H locs ls w hl
  obtain ⟨hv, hk, -⟩ := hval mi pc _ x y hf
  have hk2 : ((decide (x = 900) && ev_all [.methodLink (mY M mi).cls idx ⟨"LeftAnswers$Word", "ordinal", "()I"⟩]) || (decide (x = 905) && ev_all [.methodLink (mY M mi).cls idx ⟨"java/lang/String", "length", "()I"⟩]) || (decide (x = 906) && ev_all [.methodLink (mY M mi).cls idx ⟨"java/lang/String", "charAt", "(I)C"⟩]) || (decide (x < 900) && ev_me M x y && decide (mK M x < 12) && decide ((mY M x).cls = CN (mK M x)) && ev_all [.methodLink (mY M mi).cls idx (mY M x), .instanceMethod (mY M x), .selects (mY M x).cls (mY M x) (mY M x)])) = true := hk
  simp only [Bool.or_eq_true, Bool.and_eq_true, decide_eq_true_eq] at hk2
  rcases hk2 with ((⟨h11, -⟩ | ⟨h11, -⟩) | ⟨h11, -⟩) | ⟨⟨⟨⟨h11, hme⟩, hk12⟩, hcls⟩, hlk⟩
  · exact absurd hx9 (by omega)
  · exact absurd hx9 (by omega)
  · exact absurd hx9 (by omega)
  · subst hst
    exact ev_call_V (res := (none, [])) (K := KW (Wk p l e R s m args below meth c b en ac D M mi Q) (none, [])) hR hC (fun _ _ _ _ _ _ h => KW_of h) hM hme hk12 hcls hlk hob hn hroom hfit hv w (KW_ok h2) hl
theorem wk_I {pc x y idx z k ks : Nat} {L : List (Nat × Value)} {st As rest : List Value} {hp : List AE} {q : ev_R} (hR : d + 4 ≤ R.frames ∧ 64 * (d + 1) + 256 ≤ R.locals ∧ mC M mi ≤ R.cells ∧ mS M mi ≤ R.slots) (hC : ex_C p s m args meth c b en ac D M mi) (hval : ev_val M) (hf : mF M mi pc = some (.invokespecial idx, x, y)) (hx9 : x < 900)
    (hM : ev_M l b en ac D M d x (.ref z :: As) hp q) (hn : As.length = y) (hst : st = As.reverse ++ .ref z :: rest) (hroom : (rest.map fun v => v.category).sum ≤ 8) (hfit : k + mC M x ≤ mC M mi ∧ ks + mS M x ≤ mS M mi)
    (h2 : Wk p l e R s m args below meth c b en ac D M mi Q (pc + 3) L (q.1.toList ++ rest) q.2 (k + mC M x) (ks + mS M x)) : Wk p l e R s m args below meth c b en ac D M mi Q pc L st hp k ks := by
  intro H locs ls w hl
  obtain ⟨hv, hk, -⟩ := hval mi pc _ x y hf
  have hk2 : ((decide (x = 999) && ev_all [.methodLink (mY M mi).cls idx objectInit, .instanceMethod objectInit, .code objectInit ⟨#[0xb1]⟩ 1 none]) || (decide (x < 900) && ev_me M x y && decide (mR M x = none) && decide ((mY M x).name = "<init>") && ev_all [.methodLink (mY M mi).cls idx (mY M x), .instanceMethod (mY M x)])) = true := hk
  simp only [Bool.or_eq_true, Bool.and_eq_true, decide_eq_true_eq] at hk2
  rcases hk2 with ⟨h11, -⟩ | ⟨⟨⟨⟨h11, hme⟩, hrn⟩, hin⟩, hlk⟩
  · exact absurd hx9 (by omega)
  · subst hst
    exact ev_call_I (res := (none, [])) (K := KW (Wk p l e R s m args below meth c b en ac D M mi Q) (none, [])) hR hC (fun _ _ _ _ _ _ h => KW_of h) hM hme hrn hin hlk hn hroom hfit hv w (KW_ok h2) hl
theorem wk_S {pc x y idx k ks : Nat} {L : List (Nat × Value)} {st As rest : List Value} {hp : List AE} {q : ev_R} (hR : d + 4 ≤ R.frames ∧ 64 * (d + 1) + 256 ≤ R.locals ∧ mC M mi ≤ R.cells ∧ mS M mi ≤ R.slots) (hC : ex_C p s m args meth c b en ac D M mi) (hval : ev_val M) (hf : mF M mi pc = some (.invokestatic idx, x, y)) (hx9 : x < 900) (hna : mY M x ≠ Lib.Math.abs.name)
    (hM : ev_M l b en ac D M d x As hp q) (hn : As.length = y) (hst : st = As.reverse ++ rest) (hroom : (rest.map fun v => v.category).sum ≤ 8) (hfit : k + mC M x ≤ mC M mi ∧ ks + mS M x ≤ mS M mi)
    (h2 : Wk p l e R s m args below meth c b en ac D M mi Q (pc + 3) L (q.1.toList ++ rest) q.2 (k + mC M x) (ks + mS M x)) : Wk p l e R s m args below meth c b en ac D M mi Q pc L st hp k ks := by
  intro H locs ls w hl
  obtain ⟨hv, hk, -⟩ := hval mi pc _ x y hf
  have hk2 : ((decide (x < 900) && decide (mY M x = Lib.Math.abs.name) && decide (mC M x = 0) && decide (mS M x = 0) && decide (y = 1) && ev_all [.methodLink (mY M mi).cls idx Lib.Math.abs.name, .static Lib.Math.abs.name, .initialized "java/lang/Math", .code Lib.Math.abs.name Lib.Math.abs.code 1 (some .int)])
      || (decide (x < 900) && ev_me M x y && ev_all [.methodLink (mY M mi).cls idx (mY M x), .static (mY M x)])
      || (decide (x = 901) && ev_all [.methodLink (mY M mi).cls idx Lib.Math.min.name, .static Lib.Math.min.name, .initialized "java/lang/Math", .code Lib.Math.min.name Lib.Math.min.code 2 (some .int)])
      || (decide (x = 902) && ev_all [.methodLink (mY M mi).cls idx Lib.Math.max.name, .static Lib.Math.max.name, .initialized "java/lang/Math", .code Lib.Math.max.name Lib.Math.max.code 2 (some .int)])
      || (decide (x = 904) && ev_all [.methodLink (mY M mi).cls idx arraycopyName, .native arraycopyName, .static arraycopyName, .initialized "java/lang/System"])) = true := hk
  simp only [Bool.or_eq_true, Bool.and_eq_true, decide_eq_true_eq] at hk2
  rcases hk2 with (((⟨⟨⟨⟨⟨h11, hab⟩, hc0⟩, hs0⟩, hy1⟩, hlk⟩ | ⟨⟨h11, hme⟩, hlk⟩) | ⟨h11, hlk⟩) | ⟨h11, hlk⟩) | ⟨h11, hlk⟩
  · exact absurd hab hna
  · subst hst
    exact ev_call_S (res := (none, [])) (K := KW (Wk p l e R s m args below meth c b en ac D M mi Q) (none, [])) hR hC (fun _ _ _ _ _ _ h => KW_of h) hM hme hlk hn hroom hfit hv w (KW_ok h2) hl
  · exact absurd hx9 (by omega)
  · exact absurd hx9 (by omega)
  · exact absurd hx9 (by omega)
theorem wk_pT {P : Prop} {hd : Decidable P} {t f k ks : Nat} {L : List (Nat × Value)} {st : List Value} {hp : List AE} (h : @decide P hd = true) (w : Wk p l e R s m args below meth c b en ac D M mi Q t L st hp k ks) : Wk p l e R s m args below meth c b en ac D M mi Q (@ite Nat P hd t f) L st hp k ks := by
  rw [if_pos (of_decide_eq_true h)]; exact w
theorem wk_pF {P : Prop} {hd : Decidable P} {t f k ks : Nat} {L : List (Nat × Value)} {st : List Value} {hp : List AE} (h : @decide P hd = false) (w : Wk p l e R s m args below meth c b en ac D M mi Q f L st hp k ks) : Wk p l e R s m args below meth c b en ac D M mi Q (@ite Nat P hd t f) L st hp k ks := by
  rw [if_neg (of_decide_eq_false h)]; exact w
end
/-- a contract out of a walk -/
theorem ev_mk {l : Launch} {b : Nat} {en ac : Nat → Nat} {D : va_G} {M : MT} {mi d : Nat} {As : List Value} {hp : List AE} {q : ev_R} (hplain : plainName (mY M mi).cls = true) (hlen : (lg_sl As).length ≤ mL M mi)
    (body : ∀ (p : Program) (e : Env) (s : State) (m : MethodId) (args : Array Value) (below : List Frame) (meth : Method) (c : Code), ex_C p s m args meth c b en ac D M mi → Wk p l e (ev_rm M (d + 1) mi) s m args below meth c b en ac D M mi (MQ below (ev_Q b en ac D (mC M mi) q) args s (mC M mi) (mS M mi) (ev_A b)) 0 (lv_args 0 As) [] hp 0 0) : ev_M l b en ac D M (d + 1) mi As hp q := by
  refine Met.ofW (cc := mB M mi) (maxL := mL M mi) (ret := mR M mi) hplain rfl ?_
  intro p e s m args below meth c s₁ B hml hq
  obtain ⟨rfl, hz, hP, hK, hE⟩ := hq
  have hts := atoms_spec (ws := .code (mY M mi) (mB M mi) (mL M mi) (mR M mi) :: gtb) B.pre
  have hC : ex_C p s m (As.map (ev_v b en)).toArray meth c b en ac D M mi := ⟨B.exec, B.bytes, hml, findClass_of_methodNamed B.named, fun w hw => hts w (List.mem_cons_of_mem _ hw), hK, hE, by rw [hz]; exact Nat.le_add_right _ _, B.notSynchronized, B.returns, fun h => (name_of_methodNamed B.named B.method).1.trans h⟩
  have hl := lv_entry (As.map (ev_v b en)) (n := mL M mi) (by rw [ev_sl]; exact hlen)
  rw [lg_entry_eq]
  rw [ev_La] at hl
  exact body p e s m _ below meth c hC _ _ _ ⟨hP, va_S.rf, hz⟩ hl
theorem ev_rmR (M : MT) (d mi : Nat) : d + 4 ≤ (ev_rm M (d + 1) mi).frames ∧ 64 * (d + 1) + 256 ≤ (ev_rm M (d + 1) mi).locals ∧ mC M mi ≤ (ev_rm M (d + 1) mi).cells ∧ mS M mi ≤ (ev_rm M (d + 1) mi).slots := ⟨Nat.le_refl _, Nat.le_refl _, Nat.le_refl _, Nat.le_refl _⟩
end
section
/-! ===== Math.abs, as the small machine runs it ===== -/
theorem abs_at {mi : Nat} (hn : mY MM mi = Lib.Math.abs.name) : mi = 299 := by
  have hs : ∀ i, i < 304 → mY MM i = Lib.Math.abs.name → i = 299 := by decide +kernel
  by_cases hi : mi < 304
  · exact hs mi hi hn
  · exfalso
    have h1 : ev_tb[mi / 16]? = none := List.getElem?_eq_none (by rw [show ev_tb.length = 19 from rfl]; omega)
    have h2 : ev_at mi = ev_d0 := by unfold ev_at; rw [h1]; rfl
    have hn2 : (ev_at mi).1 = Lib.Math.abs.name := hn
    rw [h2] at hn2
    exact absurd hn2 (by decide)
theorem MM_abs : ev_abs MM := by
  intro mi hn F d As hp q h
  have hm := abs_at hn
  subst hm
  obtain ⟨⟨h1, -⟩, h3⟩ := ev_if h
  cases As with
  | nil => cases F <;> cases h3
  | cons v r =>
    cases v with
    | int a =>
      cases r with
      | cons w r =>
        exfalso
        have hv : ∀ v : Value, 1 ≤ (if v.category = 2 then [Slot.val v, Slot.second] else [Slot.val v]).length := fun v => by split <;> simp
        have hl : mL MM 299 = 1 := by decide +kernel
        have a1 := hv (.int a)
        have a2 := hv w
        rw [hl] at h1
        unfold lg_sl at h1
        rw [List.flatMap_cons, List.flatMap_cons, List.length_append, List.length_append] at h1
        omega
      | nil =>
        refine ⟨a, rfl, ?_⟩
        match F, h3 with
        | 0, h3 => cases h3
        | 1, h3 => cases h3
        | F + 2, h3 =>
          have h3 : ev_r MM (evF (F + 2) MM d) 299 F (if 0 ≤ a then 9 else 4) [(0, .int a)] [] hp 0 0 = some q := h3
          by_cases h0 : 0 ≤ a
          · rw [if_pos h0] at h3 ⊢
            match F, h3 with
            | 0, h3 => cases h3
            | 1, h3 => cases h3
            | F + 2, h3 => cases h3; rfl
          · rw [if_neg h0] at h3 ⊢
            match F, h3 with
            | 0, h3 => cases h3
            | 1, h3 => cases h3
            | 2, h3 => cases h3
            | 3, h3 => cases h3
            | F + 4, h3 => cases h3; simp
    | _ => cases F <;> cases h3
end
