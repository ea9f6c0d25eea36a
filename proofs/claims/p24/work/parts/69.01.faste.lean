/-! ===== the primitives are what they stand for ===== -/
theorem ile_i {a b : Int} : ile a b = true ↔ a ≤ b := by
  match a, b with
  | .ofNat m, .ofNat n => exact (show Nat.ble m n = true ↔ (m : Int) ≤ (n : Int) from by rw [Nat.ble_eq]; omega)
  | .ofNat m, .negSucc n => exact ⟨fun h => absurd h (by show ¬ (false = true); decide), fun h => by have h : (m : Int) ≤ Int.negSucc n := h; rw [Int.negSucc_eq] at h; omega⟩
  | .negSucc m, .ofNat n => exact ⟨fun _ => by show Int.negSucc m ≤ (n : Int); rw [Int.negSucc_eq]; omega, fun _ => rfl⟩
  | .negSucc m, .negSucc n => exact (show Nat.ble n m = true ↔ Int.negSucc m ≤ Int.negSucc n from by rw [Nat.ble_eq, Int.negSucc_eq, Int.negSucc_eq]; omega)
theorem ilt_i {a b : Int} : ilt a b = true ↔ a < b := by
  match a, b with
  | .ofNat m, .ofNat n => exact (show Nat.ble (m + 1) n = true ↔ (m : Int) < (n : Int) from by rw [Nat.ble_eq]; omega)
  | .ofNat m, .negSucc n => exact ⟨fun h => absurd h (by show ¬ (false = true); decide), fun h => by have h : (m : Int) < Int.negSucc n := h; rw [Int.negSucc_eq] at h; omega⟩
  | .negSucc m, .ofNat n => exact ⟨fun _ => by show Int.negSucc m < (n : Int); rw [Int.negSucc_eq]; omega, fun _ => rfl⟩
  | .negSucc m, .negSucc n => exact (show Nat.ble (n + 1) m = true ↔ Int.negSucc m < Int.negSucc n from by rw [Nat.ble_eq, Int.negSucc_eq, Int.negSucc_eq]; omega)
theorem ieq_i {a b : Int} : ieq a b = true ↔ a = b := by
  match a, b with
  | .ofNat m, .ofNat n => exact (show Nat.beq m n = true ↔ (m : Int) = (n : Int) from by rw [Nat.beq_eq]; omega)
  | .ofNat m, .negSucc n => exact ⟨fun h => absurd h (by show ¬ (false = true); decide), fun h => by cases h⟩
  | .negSucc m, .ofNat n => exact ⟨fun h => absurd h (by show ¬ (false = true); decide), fun h => by cases h⟩
  | .negSucc m, .negSucc n => exact (show Nat.beq m n = true ↔ Int.negSucc m = Int.negSucc n from by rw [Nat.beq_eq, Int.negSucc_eq, Int.negSucc_eq]; omega)
theorem ile_e : ile = fun a b => decide (a ≤ b) := by
  funext a b
  rw [Bool.eq_iff_iff, decide_eq_true_iff]
  exact ile_i
theorem ilt_e : ilt = fun a b => decide (a < b) := by
  funext a b
  rw [Bool.eq_iff_iff, decide_eq_true_iff]
  exact ilt_i
theorem ieq_e : ieq = fun a b => decide (a = b) := by
  funext a b
  rw [Bool.eq_iff_iff, decide_eq_true_iff]
  exact ieq_i
theorem isn_e (m n : Nat) : isn m n = (m : Int) - (n : Int) := by
  unfold isn
  cases h : Nat.ble n m with
  | true =>
    have h := Nat.le_of_ble_eq_true h
    show ((m - n : Nat) : Int) = _
    omega
  | false =>
    have h : ¬ n ≤ m := fun e => by rw [Nat.ble_eq_true_of_le e] at h; cases h
    show Int.negSucc (n - m - 1) = _
    rw [Int.negSucc_eq]
    omega
theorem iadd_e : iadd = fun a b => a + b := by
  funext a b
  match a, b with
  | .ofNat m, .ofNat n => rfl
  | .ofNat m, .negSucc n => show isn m (n + 1) = (m : Int) + Int.negSucc n; rw [isn_e, Int.negSucc_eq]; omega
  | .negSucc m, .ofNat n => show isn n (m + 1) = Int.negSucc m + (n : Int); rw [isn_e, Int.negSucc_eq]; omega
  | .negSucc m, .negSucc n => rfl
theorem isub_e : isub = fun a b => a - b := by
  funext a b
  match a, b with
  | .ofNat m, .ofNat n => exact isn_e m n
  | .ofNat m, .negSucc n => show ((m + n + 1 : Nat) : Int) = (m : Int) - Int.negSucc n; rw [Int.negSucc_eq]; omega
  | .negSucc m, .ofNat n => show Int.negSucc (m + n) = Int.negSucc m - (n : Int); rw [Int.negSucc_eq, Int.negSucc_eq]; omega
  | .negSucc m, .negSucc n => show isn n m = Int.negSucc m - Int.negSucc n; rw [isn_e, Int.negSucc_eq, Int.negSucc_eq]; omega
theorem imul_e : imul = fun a b => a * b := by
  funext a b
  match a, b with
  | .ofNat m, .ofNat n => rfl
  | .ofNat m, .negSucc n => rfl
  | .negSucc m, b => rfl
theorem eeC_e : @eeC = fun (β : Type) (e : EE) (k : Int → Int → Nat → Int → Nat → Int → β) => k e.1 e.2.1 e.2.2.1 e.2.2.2.1 e.2.2.2.2.1 e.2.2.2.2.2 := rfl
theorem svC_e : @svC = fun (β : Type) (e : SV) (k : Nat → Nat → Int → β) => k e.1 e.2.1 e.2.2 := rfl
theorem imax_e : imax = fun a b => max a b := by
  funext a b
  show Bool.rec (motive := fun _ => Int) a b (ile a b) = max a b
  cases h : ile a b with
  | true => have h := ile_i.mp h; show b = _; omega
  | false => have h : ¬ a ≤ b := fun e => by rw [ile_i.mpr e] at h; cases h
             show a = _
             omega
theorem imin_e : imin = fun a b => min a b := by
  funext a b
  show Bool.rec (motive := fun _ => Int) b a (ile a b) = min a b
  cases h : ile a b with
  | true => have h := ile_i.mp h; show a = _; omega
  | false => have h : ¬ a ≤ b := fun e => by rw [ile_i.mpr e] at h; cases h
             show b = _
             omega
theorem cnd_e : @cnd = fun (α : Type) (c : Bool) (a b : α) => cond c a b := by
  funext α c a b
  cases c <;> rfl
theorem bnd_e : bnd = and := by
  funext a b
  cases a <;> rfl
theorem bor_e : bor = or := by
  funext a b
  cases a <;> rfl
theorem bno_e : bno = not := by
  funext a
  cases a <;> rfl
theorem gI_e : @gI = fun (α : Type) (l : List α) (k : Nat) => l[k]? := by
  funext α l
  induction l with
  | nil => funext k; rfl
  | cons e t ih =>
    funext k
    cases k with
    | zero => rfl
    | succ j => exact congrFun ih j
theorem flt_e : @flt = @List.filter := by
  funext α p l
  induction l with
  | nil => rfl
  | cons a t ih =>
    show Bool.rec (motive := fun _ => List α) (flt p t) (a :: flt p t) (p a) = _
    rw [ih, List.filter_cons]
    cases p a <;> rfl
theorem lal_e : @lal = @List.all := by
  funext α l p
  induction l with
  | nil => rfl
  | cons a t ih =>
    show Bool.rec (motive := fun _ => Bool) false (lal t p) (p a) = (p a && t.all p)
    rw [ih]
    cases p a <;> rfl
theorem lan_e : @lan = @List.any := by
  funext α l p
  induction l with
  | nil => rfl
  | cons a t ih =>
    show Bool.rec (motive := fun _ => Bool) (lan t p) true (p a) = (p a || t.any p)
    rw [ih]
    cases p a <;> rfl
theorem lap_e : @lap = fun (α : Type) (l m : List α) => l ++ m := by
  funext α l m
  induction l with
  | nil => rfl
  | cons a t ih => exact congrArg (List.cons a) ih
theorem lmp_e : @lmp = @List.map := by
  funext α β f l
  induction l with
  | nil => rfl
  | cons a t ih => exact congrArg (List.cons (f a)) ih
theorem lln_e : @lln = @List.length := by
  funext α l
  induction l with
  | nil => rfl
  | cons a t ih => exact congrArg Nat.succ ih
theorem lst_e : @lst = @List.set := by
  funext α l
  induction l with
  | nil => funext k a; cases k <;> rfl
  | cons e t ih =>
    funext k a
    cases k with
    | zero => rfl
    | succ j => exact congrArg (List.cons e) (congrFun (congrFun ih j) a)
theorem lzp_e : @lzp = @List.zip := by
  funext α β l
  induction l with
  | nil => funext m; cases m <;> rfl
  | cons a t ih =>
    funext m
    cases m with
    | nil => rfl
    | cons b r => exact congrArg (List.cons (a, b)) (congrFun ih r)
theorem fd_q_e : @fd_q = @ev_fd := by
  funext l pc
  induction l with
  | nil => rfl
  | cons e t ih =>
    show Bool.rec (motive := fun _ => Option (Instr × Nat × Nat)) (fd_q t pc) (some e.2) (Nat.beq e.1 pc) = cond (Nat.beq e.1 pc) (some e.2) (ev_fd t pc)
    rw [ih]
    cases Nat.beq e.1 pc <;> rfl
theorem mF_q_e : mF_q = mF MM := by
  funext mi pc
  show fe_q (ev_at mi).2.2.2.2.2.2.1 pc = ev_fe (ev_at mi).2.2.2.2.2.2.1 pc
  generalize (ev_at mi).2.2.2.2.2.2.1 = q
  show Option.rec (motive := fun _ => Option (Instr × Nat × Nat)) none (fun ch => fd_q ch pc) (gI q (pc / 16)) = (q[pc / 16]?).bind (fun ch => ev_fd ch pc)
  rw [fd_q_e, gI_e]
  show Option.rec (motive := fun _ => Option (Instr × Nat × Nat)) none (fun ch => ev_fd ch pc) (q[pc / 16]?) = _
  cases q[pc / 16]? <;> rfl
theorem lkp_e : @lkp_f = @lkp := by
  funext A n
  induction A with
  | nil => rfl
  | cons q t ih =>
    show Bool.rec (motive := fun _ => Option FT) (lkp_f t n) (some q.2) (Nat.beq q.1 n) = cond (Nat.beq q.1 n) (some q.2) (lkp t n)
    rw [ih]
    cases Nat.beq q.1 n <;> rfl
theorem wr_in_e : @wr_in_f = @wr_in := by
  delta wr_in_f wr_in
  rw [bnd_e, lan_e]
  try rfl
theorem wr_le_e : @wr_le_f = @wr_le := by
  delta wr_le_f wr_le
  rw [lal_e, wr_in_e]
  try rfl
theorem eg_e : @eg_f = @eg := by
  funext E
  induction E with
  | nil => funext k; rfl
  | cons e t ih =>
    funext k
    cases k with
    | zero => rfl
    | succ j => exact congrFun ih j
theorem ef_e : @ef_f = @ef := by
  delta ef_f ef
  rw [lap_e]
  try rfl
theorem er_e : @er_f = @er := by
  delta er_f er
  rw [imax_e, imin_e, lst_e, eg_e]
  try rfl
theorem ifz_e : @ifz_f = @ifz := by
  delta ifz_f ifz
  rw [ile_e, eg_e]
  try rfl
theorem dlo_e : @dlo_f = @dlo := by
  delta dlo_f dlo dlo_f._f dlo._f
  rw [cnd_e, iadd_e, isub_e, imax_e, eg_e]
  try rfl
theorem fI_e : @fI_f = @fI := by
  delta fI_f fI
  rw [lln_e, ef_e]
  try rfl
theorem fF_e : @fF_f = @fF := by
  delta fF_f fF
  rw [fI_e]
  try rfl
theorem in32_e : @in32_f = @in32 := by
  delta in32_f in32
  rw [bnd_e, ile_e]
  try rfl
theorem f_full_e : @f_full_f = @f_full := by
  delta f_full_f f_full
  rw [fF_e]
  try rfl
theorem f_add_e : @f_add_f = @f_add := by
  delta f_add_f f_add
  rw [cnd_e, iadd_e, eg_e, fI_e, fF_e, in32_e]
  try rfl
theorem f_sub_e : @f_sub_f = @f_sub := by
  delta f_sub_f f_sub
  rw [cnd_e, iadd_e, isub_e, imax_e, eg_e, dlo_e, fI_e, fF_e, in32_e]
  try rfl
theorem f_mul_e : @f_mul_f = @f_mul := by
  delta f_mul_f f_mul
  rw [cnd_e, bnd_e, ile_e, iadd_e, imul_e, eg_e, fI_e, fF_e]
  try rfl
theorem f_and_e : @f_and_f = @f_and := by
  delta f_and_f f_and
  rw [cnd_e, ile_e, iadd_e, eg_e, fI_e, fF_e]
  try rfl
theorem f_shl_e : @f_shl_f = @f_shl := by
  delta f_shl_f f_shl
  rw [cnd_e, bnd_e, ile_e, ieq_e, iadd_e, eg_e, fI_e, fF_e]
  try rfl
theorem f_ushr_e : @f_ushr_f = @f_ushr := by
  delta f_ushr_f f_ushr
  rw [cnd_e, bnd_e, ieq_e, fI_e, fF_e]
  try rfl
theorem f_div_e : @f_div_f = @f_div := by
  delta f_div_f f_div
  rw [cnd_e, bnd_e, ile_e, iadd_e, eg_e, fI_e, fF_e]
  try rfl
theorem f_rem_e : @f_rem_f = @f_rem := by
  delta f_rem_f f_rem
  rw [cnd_e, ile_e, iadd_e, eg_e, fI_e, fF_e]
  try rfl
theorem fC_e : @fC_f = @fC := by
  delta fC_f fC
  rw [cnd_e, in32_e]
  try rfl
theorem fD_e : @fD_f = @fD := by
  delta fD_f fD
  rw [cnd_e, ilt_e, iadd_e, eg_e]
  try rfl
theorem fU_e : @fU_f = @fU := by
  delta fU_f fU
  rw [fI_e]
  try rfl
theorem gI64_e : @gI64_f = @gI64 := by
  delta gI64_f gI64
  rw [lln_e, ef_e]
  try rfl
theorem gF64_e : @gF64_f = @gF64 := by
  delta gF64_f gF64
  rw [gI64_e]
  try rfl
theorem in64_e : @in64_f = @in64 := by
  delta in64_f in64
  rw [bnd_e, ile_e]
  try rfl
theorem g_full_e : @g_full_f = @g_full := by
  delta g_full_f g_full
  rw [gF64_e]
  try rfl
theorem g_add_e : @g_add_f = @g_add := by
  delta g_add_f g_add
  rw [cnd_e, eg_e, gI64_e, gF64_e, in64_e]
  try rfl
theorem g_sub_e : @g_sub_f = @g_sub := by
  delta g_sub_f g_sub
  rw [cnd_e, eg_e, gI64_e, gF64_e, in64_e]
  try rfl
theorem g_mul_e : @g_mul_f = @g_mul := by
  delta g_mul_f g_mul
  rw [cnd_e, bnd_e, ile_e, eg_e, gI64_e, gF64_e, in64_e]
  try rfl
theorem gD_e : @gD_f = @gD := by
  delta gD_f gD
  rw [cnd_e, ile_e, ilt_e, iadd_e, eg_e, gI64_e, gF64_e]
  try rfl
theorem gR_e : @gR_f = @gR := by
  delta gR_f gR
  rw [cnd_e, ilt_e, gF64_e]
  try rfl
theorem gX_e : @gX_f = @gX := by
  delta gX_f gX
  rw [cnd_e, fF_e]
  try rfl
theorem gC2_e : @gC2_f = @gC2 := by
  delta gC2_f gC2
  rw [fI_e]
  try rfl
theorem gS2_e : @gS2_f = @gS2 := by
  delta gS2_f gS2
  rw [gF64_e]
  try rfl
theorem gK_e : @gK_f = @gK := by
  delta gK_f gK
  rw [cnd_e, in64_e]
  try rfl
theorem po_e : @po_f = @po := by
  delta po_f
  rw [ile_e, f_full_e, f_add_e, f_sub_e, f_mul_e, f_and_e, f_shl_e, f_ushr_e, f_div_e, f_rem_e, fC_e, fD_e, fU_e, g_full_e, g_add_e, g_sub_e, g_mul_e, gD_e, gR_e, gX_e, gC2_e, gS2_e, gK_e]
  funext i x y
  cases i <;> rfl
theorem slg_e : @slg_f = @slg := by
  funext A n
  induction A with
  | nil => rfl
  | cons q t ih =>
    show Bool.rec (motive := fun _ => Option SV) (slg_f t n) (some q.2) (Nat.beq q.1 n) = cond (Nat.beq q.1 n) (some q.2) (slg t n)
    rw [ih]
    cases Nat.beq q.1 n <;> rfl
theorem sl1_e : @sl1_f = @sl1 := by
  delta sl1_f sl1
  rw [bnd_e, bno_e, flt_e]
  try rfl
theorem sl2_e : @sl2_f = @sl2 := by
  delta sl2_f sl2
  rw [bnd_e, bno_e, flt_e]
  try rfl
theorem ltR_e : @ltR_f = @ltR := by
  delta ltR_f ltR
  rw [cnd_e, ile_e, iadd_e, isub_e, eg_e, er_e, dlo_e]
  try rfl
theorem leR_e : @leR_f = @leR := by
  delta leR_f leR
  rw [cnd_e, ile_e, iadd_e, isub_e, eg_e, er_e, dlo_e]
  try rfl
theorem eqR_e : @eqR_f = @eqR := by
  delta eqR_f eqR
  rw [cnd_e, bor_e, ile_e, iadd_e, isub_e, eg_e, er_e, dlo_e]
  try rfl
theorem nec_e : @nec_f = @nec := by
  delta nec_f nec
  rw [cnd_e, ieq_e, eg_e, er_e]
  try rfl
theorem neR_e : @neR_f = @neR := by
  delta neR_f neR
  rw [cnd_e, ieq_e, iadd_e, isub_e, eg_e, nec_e]
  try rfl
theorem gd_e : @gd_f = @gd := by
  delta gd_f gd
  rw [cnd_e, bnd_e, ifz_e]
  try rfl
theorem cmpR_e : @cmpR_f = @cmpR := by
  delta cmpR_f cmpR
  rw [ltR_e, leR_e, eqR_e, neR_e, gd_e]
  try rfl
theorem br2_e : @br2_f = @br2 := by
  delta br2_f br2
  rw [cmpR_e]
  try rfl
theorem sy_if_e : @sy_if_f = @sy_if := by
  delta sy_if_f sy_if
  rw [br2_e]
  try rfl
theorem sy_ic_e : @sy_ic_f = @sy_ic := by
  delta sy_ic_f sy_ic
  rw [br2_e]
  try rfl
theorem sy_ac_e : @sy_ac_f = @sy_ac := by
  delta sy_ac_f sy_ac
  rw [br2_e]
  try rfl
theorem sy_ld_e : @sy_ld_f = @sy_ld := by
  delta sy_ld_f sy_ld
  rw [cnd_e, slg_e]
  try rfl
theorem sy_st_e : @sy_st_f = @sy_st := by
  delta sy_st_f sy_st
  rw [cnd_e, bnd_e, sl1_e, sl2_e]
  try rfl
theorem sy_inc_e : @sy_inc_f = @sy_inc := by
  delta sy_inc_f sy_inc
  rw [cnd_e, bnd_e, in32_e, f_add_e, slg_e, sl1_e]
  try rfl
theorem sy_dup_e : @sy_dup_f = @sy_dup := by
  delta sy_dup_f sy_dup
  rw [cnd_e]
  try rfl
theorem sy_dup2_e : @sy_dup2_f = @sy_dup2 := by
  delta sy_dup2_f sy_dup2
  rw [cnd_e, bor_e]
  try rfl
theorem sy_pop_e : @sy_pop_f = @sy_pop := by
  delta sy_pop_f sy_pop
  rw [cnd_e]
  try rfl
theorem spg_e : @spg_f = @spg := by
  funext P a i
  induction P with
  | nil => rfl
  | cons q t ih =>
    show Bool.rec (motive := fun _ => Option SV) (spg_f t a i) (Bool.rec (motive := fun _ => Option SV) (spg_f t a i) (some q.2.2) (Nat.beq q.2.1 i)) (Nat.beq q.1 a) = cond (Nat.beq q.1 a && Nat.beq q.2.1 i) (some q.2.2) (spg t a i)
    rw [ih]
    cases Nat.beq q.1 a <;> cases Nat.beq q.2.1 i <;> rfl
theorem spd_e : @spd_f = @spd := by
  delta spd_f spd
  rw [bnd_e, bno_e, flt_e]
  try rfl
theorem sft_e : @sft_f = @sft := by
  delta sft_f sft
  rw [bnd_e, bor_e, ile_e, ieq_e, iadd_e, eg_e]
  try rfl
theorem ldf_e : @ldf_f = @ldf := by
  delta ldf_f ldf
  rw [lln_e, ef_e, fI_e, gI64_e]
  try rfl
theorem rdP_e : @rdP_f = @rdP := by
  delta rdP_f rdP
  rw [lkp_e, spg_e, ldf_e]
  try rfl
theorem exIn_e : @exIn_f = @exIn := by
  funext lo hi E v l
  induction l with
  | nil => rfl
  | cons q t ih =>
    show Bool.rec (motive := fun _ => Bool) (exIn_f lo hi E v t) (Bool.rec (motive := fun _ => Bool) (exIn_f lo hi E v t) (Bool.rec (motive := fun _ => Bool) false (exIn_f lo hi E v t) (sft_f E v q.2)) (Nat.ble q.1 hi)) (Nat.ble lo q.1) = ((!(Nat.ble lo q.1 && Nat.ble q.1 hi) || sft E v q.2) && exIn lo hi E v t)
    rw [ih, sft_e]
    cases Nat.ble lo q.1 <;> cases Nat.ble q.1 hi <;> cases sft E v q.2 <;> rfl
theorem wrT_e : @wrT_f = @wrT := by
  delta wrT_f wrT
  rw [bnd_e, wr_in_e, sft_e, exIn_e]
  try rfl
theorem isB_e : @isB_f = @isB := by
  delta isB_f isB
  rw [bnd_e, ile_e, iadd_e, eg_e]
  try rfl
theorem grd1_e : @grd1_f = @grd1 := by
  delta grd1_f grd1
  rw [bnd_e, bor_e, bno_e, ile_e, iadd_e, lan_e, eg_e, spg_e, isB_e]
  try rfl
theorem grd_e : @grd_f = @grd := by
  delta grd_f grd
  rw [lal_e, grd1_e]
  try rfl
theorem sing_e : @sing_f = @sing := by
  delta sing_f sing
  rw [ieq_e, eg_e]
  try rfl
theorem ixB_e : @ixB_f = @ixB := by
  delta ixB_f ixB
  rw [bnd_e, ile_e, ilt_e, iadd_e, eg_e]
  try rfl
theorem ixL_e : @ixL_f = @ixL := by
  delta ixL_f ixL
  rw [iadd_e, eg_e]
  try rfl
theorem ixH_e : @ixH_f = @ixH := by
  delta ixH_f ixH
  rw [iadd_e, eg_e]
  try rfl
theorem sy_gf_e : @sy_gf_f = @sy_gf := by
  delta sy_gf_f sy_gf
  rw [cnd_e, bnd_e, gF64_e, rdP_e]
  try rfl
theorem evS_e : @evS_f = @evS := by
  delta evS_f evS
  rw [bnd_e, ile_e, iadd_e, eg_e]
  try rfl
theorem sy_pf_e : @sy_pf_f = @sy_pf := by
  delta sy_pf_f sy_pf
  rw [cnd_e, bnd_e, bno_e, spd_e, wrT_e, grd_e, evS_e]
  try rfl
theorem allE_e : @allE_f = @allE := by
  delta allE_f allE allE_f._f allE._f
  rw [bnd_e, lkp_e]
  try rfl
theorem exT_e : @exT_f = @exT := by
  delta exT_f exT
  rw [cnd_e, lkp_e, allE_e]
  try rfl
theorem rdA_e : @rdA_f = @rdA := by
  delta rdA_f rdA
  rw [cnd_e, ldf_e, rdP_e, sing_e, ixL_e, ixH_e, exT_e]
  try rfl
theorem rwB_e : @rwB_f = @rwB := by
  delta rwB_f rwB rwB_f._f rwB._f
  rw [ef_e, cmpR_e]
  try rfl
theorem rw1_e : @rw1_f = @rw1 := by
  delta rw1_f rw1
  rw [cnd_e, bnd_e, spg_e, isB_e, rwB_e]
  try rfl
theorem rws_e : @rws_f = @rws := by
  delta rws_f rws rws_f._f rws._f
  rw [rw1_e]
  try rfl
theorem sy_rw_e : @sy_rw_f = @sy_rw := by
  delta sy_rw_f sy_rw
  rw [cnd_e, bnd_e, spg_e, sing_e, ixB_e, ixL_e, rws_e]
  try rfl
theorem sy_ial_e : @sy_ial_f = @sy_ial := by
  delta sy_ial_f sy_ial
  rw [cnd_e, bnd_e, lan_e, fI_e, sing_e, ixB_e, ixL_e, rdA_e]
  try rfl
theorem sy_lal_e : @sy_lal_f = @sy_lal := by
  delta sy_lal_f sy_lal
  rw [cnd_e, bnd_e, ixB_e, rdA_e]
  try rfl
theorem splG_e : @splG_f = @splG := by
  delta splG_f splG splG_f._f splG._f
  rw [cmpR_e, rdP_e]
  try rfl
theorem sy_aal_e : @sy_aal_f = @sy_aal := by
  delta sy_aal_f sy_aal
  rw [cnd_e, bnd_e, ixB_e, rdA_e, splG_e]
  try rfl
theorem sy_wd_e : @sy_wd_f = @sy_wd := by
  delta sy_wd_f sy_wd
  rw [cnd_e, bnd_e, bno_e, sing_e, ixB_e, ixL_e, ixH_e, exT_e, splG_e]
  try rfl
theorem scat_e : @scat_f = @scat := by
  delta scat_f scat
  rw [cnd_e]
  try rfl
theorem stP_e : @stP_f = @stP := by
  delta stP_f stP
  rw [cnd_e, spd_e, sing_e, ixL_e, ixH_e]
  try rfl
theorem sy_ias_e : @sy_ias_f = @sy_ias := by
  delta sy_ias_f sy_ias
  rw [cnd_e, bnd_e, wrT_e, grd_e, ixB_e, ixL_e, ixH_e, stP_e]
  try rfl
theorem sy_las_e : @sy_las_f = @sy_las := by
  delta sy_las_f sy_las
  rw [cnd_e, bnd_e, wrT_e, grd_e, ixB_e, ixL_e, ixH_e, stP_e]
  try rfl
theorem sy_bas_e : @sy_bas_f = @sy_bas := by
  delta sy_bas_f sy_bas
  rw [cnd_e, bnd_e, ile_e, iadd_e, lln_e, eg_e, ef_e, wrT_e, grd_e, ixB_e, ixL_e, ixH_e, stP_e]
  try rfl
theorem sy_aas_e : @sy_aas_f = @sy_aas := by
  delta sy_aas_f sy_aas
  rw [cnd_e, bnd_e, wrT_e, grd_e, ixB_e, ixL_e, ixH_e, stP_e]
  try rfl
theorem sy_len_e : @sy_len_f = @sy_len := by
  delta sy_len_f sy_len
  rw [cnd_e, bnd_e]
  try rfl
theorem sy_gs_e : @sy_gs_f = @sy_gs := by
  delta sy_gs_f sy_gs
  rw [cnd_e]
  try rfl
theorem tsG_e : @tsG_f = @tsG := by
  delta tsG_f tsG tsG_f._f tsG._f
  rw [cmpR_e]
  try rfl
theorem sy_ts_e : @sy_ts_f = @sy_ts := by
  delta sy_ts_f sy_ts
  rw [cnd_e, bnd_e, ile_e, ieq_e, iadd_e, isub_e, eg_e, tsG_e]
  try rfl
theorem lsG_e : @lsG_f = @lsG := by
  delta lsG_f lsG lsG_f._f lsG._f
  rw [cmpR_e]
  try rfl
theorem sy_ls_e : @sy_ls_f = @sy_ls := by
  delta sy_ls_f sy_ls
  rw [lsG_e]
  try rfl
theorem sy_jv_e : @sy_jv_f = @sy_jv := by
  delta sy_jv_f sy_jv
  rw [cnd_e, bnd_e, fF_e, ixB_e, scat_e]
  try rfl
theorem sy_mm_e : @sy_mm_f = @sy_mm := by
  delta sy_mm_f sy_mm
  rw [cnd_e, eg_e, fI_e, scat_e]
  try rfl
theorem unP_e : @unP_f = @unP := by
  delta unP_f unP
  rw [cnd_e, bnd_e, ieq_e]
  try rfl
theorem sy_lc_e : @sy_lc_f = @sy_lc := by
  delta sy_lc_f sy_lc
  rw [cmpR_e, unP_e]
  try rfl
theorem sy_an_e : @sy_an_f = @sy_an := by
  delta sy_an_f sy_an
  rw [cnd_e, bnd_e, ile_e, iadd_e, eg_e, cmpR_e]
  try rfl
theorem spV_e : @spV_f = @spV := by
  delta spV_f spV spV_f._f spV._f
  rw [cmpR_e]
  try rfl
theorem sy_ml_e : @sy_ml_f = @sy_ml := by
  delta sy_ml_f sy_ml
  rw [cnd_e, bnd_e, ile_e, iadd_e, eg_e, spV_e]
  try rfl
theorem sy_d2_e : @sy_d2_f = @sy_d2 := by
  delta sy_d2_f sy_d2
  rw [cnd_e, ile_e, iadd_e, eg_e, fI_e, cmpR_e, spV_e]
  try rfl
theorem sy_m4_e : @sy_m4_f = @sy_m4 := by
  delta sy_m4_f sy_m4
  rw [cnd_e, eg_e, er_e, f_mul_e]
  try rfl
theorem svm_e : @svm_f = @svm := by
  funext σ a
  obtain ⟨t, k, c⟩ := a
  show cnd (Nat.beq t 2) (some (t, k, c)) (cnd (Nat.ble 4 t) (some (t, k, c)) (opC none (fun s => some (t, s.1, iadd s.2 c)) (gI σ k))) = _
  rw [cnd_e, iadd_e, gI_e]
  match t with
  | 0 => show opC none (fun s => some (0, s.1, s.2 + c)) (σ[k]?) = (match σ[k]? with | some s => some (0, s.1, s.2 + c) | none => none); cases σ[k]? <;> rfl
  | 1 => show opC none (fun s => some (1, s.1, s.2 + c)) (σ[k]?) = (match σ[k]? with | some s => some (1, s.1, s.2 + c) | none => none); cases σ[k]? <;> rfl
  | 2 => rfl
  | 3 => show opC none (fun s => some (3, s.1, s.2 + c)) (σ[k]?) = (match σ[k]? with | some s => some (3, s.1, s.2 + c) | none => none); cases σ[k]? <;> rfl
  | n + 4 =>
    show cond (Nat.beq (n + 4) 2) _ (cond (Nat.ble 4 (n + 4)) (some (n + 4, k, c)) _) = some (n + 4, k, c)
    rw [show Nat.beq (n + 4) 2 = false from rfl, Nat.ble_eq_true_of_le (show 4 ≤ n + 4 by omega)]
    rfl
theorem sve_e : @sve_f = @sve := by
  delta sve_f sve
  rw [bnd_e, bor_e, ieq_e]
  try rfl
theorem ehi_e : @ehi_f = @ehi := by
  delta ehi_f ehi
  rw [iadd_e, imul_e, imin_e, eg_e]
  try rfl
theorem ehi_x (E : EN) (k : Nat) : min (eg E k).2.1 (2 * (eg E (eg E k).2.2.2.2.1).2.1 + (eg E k).2.2.2.2.2) = ehi E k := rfl
theorem chV_e : @chV_f = @chV := by
  delta chV_f chV ehi
  rw [eeC_e, cnd_e, bnd_e, bor_e, ile_e, iadd_e, imul_e, imin_e, gI_e, lln_e, eg_e, dlo_e]
  try rfl
theorem enM_e : @enM_f = @enM := by
  delta enM_f enM
  rw [bnd_e, ieq_e, lal_e, lln_e, lzp_e, chV_e]
  try rfl
theorem slM_e : @slM_f = @slM := by
  delta slM_f slM
  rw [lal_e, slg_e, svm_e, sve_e]
  try rfl
theorem ssM_e : @ssM_f = @ssM := by
  delta ssM_f ssM ssM_f._f ssM._f
  rw [bnd_e, svm_e, sve_e]
  try rfl
theorem spM_e : @spM_f = @spM := by
  delta spM_f spM
  rw [lal_e, spg_e, svm_e, sve_e]
  try rfl
theorem sg_e : @sg_f = @sg := by
  delta sg_f sg
  rw [gI_e, slg_e, spg_e]
  try rfl
theorem sgm_e : @sgm_f = @sgm := by
  delta sgm_f sgm
  rw [lap_e, lmp_e, sg_e]
  try rfl
theorem ent_e : @ent_f = @ent := by
  delta ent_f ent
  rw [bnd_e, enM_e, slM_e, ssM_e, spM_e]
  try rfl
theorem rfE_e : @rfE_f = @rfE := by
  delta rfE_f rfE rfE_f._f rfE._f
  rw [isub_e, er_e]
  try rfl
theorem nwE_e : @nwE_f = @nwE := by
  delta nwE_f nwE nwE_f._f nwE._f
  rw [iadd_e, imul_e, gI_e]
  try rfl
theorem fzs_e : @fzs_f = @fzs := by
  delta fzs_f fzs
  rw [ile_e, lal_e]
  try rfl
theorem mapP_e : @mapP_f = @mapP := by
  delta mapP_f mapP mapP_f._f mapP._f
  rw [svm_e]
  try rfl
theorem mapR_e : @mapR_f = @mapR := by
  delta mapR_f mapR
  rw [svm_e]
  try rfl
theorem keepP_e : @keepP_f = @keepP := by
  delta keepP_f keepP
  rw [bno_e, flt_e, wr_in_e]
  try rfl
theorem aftr_e : @aftr_f = @aftr := by
  delta aftr_f aftr
  rw [cnd_e, lap_e, lln_e, lzp_e, rfE_e, nwE_e, fzs_e, mapP_e, mapR_e, keepP_e]
  try rfl
theorem aftrs_e : @aftrs_f = @aftrs := by
  delta aftrs_f aftrs aftrs_f._f aftrs._f
  rw [aftr_e]
  try rfl
theorem tryC_e : @tryC_f = @tryC := by
  delta tryC_f tryC
  rw [cnd_e, bnd_e, wr_le_e, sgm_e, ent_e, aftrs_e]
  try rfl
theorem tryCs_e : @tryCs_f = @tryCs := by
  delta tryCs_f tryCs tryCs_f._f tryCs._f
  rw [cnd_e, tryC_e]
  try rfl
theorem sy_call_e : @sy_call_f = @sy_call := by
  delta sy_call_f sy_call
  rw [cnd_e, bnd_e, lln_e, scat_e, tryCs_e]
  try rfl
theorem sy_cy_e : @sy_cy_f = @sy_cy := by
  delta sy_cy_f sy_cy
  rw [cnd_e, bnd_e, bor_e, bno_e, ile_e, iadd_e, lal_e, wr_in_e, eg_e, spd_e, scat_e]
  try rfl
theorem sy_po_e : @sy_po_f = @sy_po := by
  delta sy_po_f sy_po
  rw [po_e]
  try rfl
theorem sy_step_e : @sy_step_f = @sy_step := by
  funext M G W cs dep mi pc i x y S
  show sy_stp i M G W cs dep mi pc x y S = _
  delta sy_stp
  rw [sy_if_e, sy_ic_e, sy_ac_e, sy_ld_e, sy_st_e, sy_inc_e, sy_dup_e, sy_dup2_e, sy_pop_e, sy_gf_e, sy_pf_e, sy_rw_e, sy_ial_e, sy_lal_e, sy_aal_e, sy_wd_e, sy_ias_e, sy_las_e, sy_bas_e, sy_aas_e, sy_len_e, sy_gs_e, sy_ts_e, sy_ls_e, sy_jv_e, sy_mm_e, sy_lc_e, sy_an_e, sy_ml_e, sy_d2_e, sy_m4_e, sy_call_e, sy_cy_e, sy_po_e]
  cases i with
  | ifCond c o => cases c <;> rfl
  | if_icmp c o => cases c <;> rfl
  | if_acmp c o => cases c <;> rfl
  | _ => rfl
theorem isR_e : @isR_f = @isR := by
  funext i
  cases i <;> rfl
theorem retV_e : @retV_f = @retV := by
  delta retV_f retV
  rw [cnd_e, bnd_e, ile_e, iadd_e, eg_e]
  try rfl
theorem endM_e : @endM_f = @endM := by
  delta endM_f endM
  rw [lan_e, sgm_e, ent_e]
  try rfl
theorem rkB_e : @rkB_f = @rkB := by
  delta rkB_f rkB
  rw [bnd_e, ile_e, eg_e]
  try rfl
theorem goUp_e : @goUp_f = @goUp := by
  delta goUp_f goUp
  rw [ile_e, gI_e, dlo_e]
  try rfl
theorem goDn_e : @goDn_f = @goDn := by
  delta goDn_f goDn
  rw [ile_e, gI_e, dlo_e]
  try rfl
theorem lbG_e : @lbG_f = @lbG := by
  delta lbG_f lbG
  rw [bnd_e, bor_e, sgm_e, goUp_e, goDn_e]
  try rfl
theorem lbT_e : @lbT_f = @lbT := by
  delta lbT_f lbT
  rw [cnd_e, bnd_e, sgm_e, ent_e, lbG_e]
  try rfl
theorem lbs_e : @lbs_f = @lbs := by
  delta lbs_f lbs lbs_f._f lbs._f
  rw [bnd_e, bor_e, gI_e, lbT_e]
  try rfl
theorem sy_run_e : @sy_run_f = @sy_run MM := by
  delta sy_run_f sy_run sy_run_f._f sy_run._f
  rw [cnd_e, bor_e, lal_e, mF_q_e, sy_step_e, isR_e, retV_e, endM_e, lbs_e]
  try rfl
theorem sla_e : @sla_f = @sla := by
  delta sla_f sla sla_f._f sla._f
  rw [cnd_e]
  try rfl
theorem runL_e : @runL_f = @runL MM := by
  delta runL_f runL runL_f._f runL._f
  rw [cnd_e, bnd_e, rkB_e, sy_run_e]
  try rfl
theorem pdn_e : @pdn_f = @pdn := by
  delta pdn_f pdn pdn_f._f pdn._f
  rw [cnd_e, eg_e, er_e]
  try rfl
theorem spW_e : @spW_f = @spW := by
  delta spW_f spW spW_f._f spW._f
  rw [er_e, pdn_e]
  try rfl
theorem mat1_e : @mat1_f = @mat1 := by
  delta mat1_f mat1
  rw [cnd_e, lln_e, lkp_e, eg_e, ef_e, spg_e, ehi_e, spW_e]
  try rfl
theorem matS_e : @matS_f = @matS := by
  delta matS_f matS matS_f._f matS._f
  rw [mat1_e]
  try rfl
theorem chk_e : @chk_f = @chk MM := by
  delta chk_f chk
  rw [bnd_e, scat_e, sy_run_e, sla_e, matS_e]
  try rfl
theorem runL_q {cs : List CO} {G : GT} {C : CO} {F j : Nat} {l : List LB} (h : runL_f G cs C F j l = true) : runL MM G cs C F j l = true := by
  rw [runL_e] at h
  exact h
theorem cs_n {G : GT} : ∀ C ∈ ([] : List CO), CoOk G MM C := fun _ h => absurd h List.not_mem_nil
theorem cs_c {G : GT} {C : CO} {cs : List CO} (h : CoOk G MM C) (hs : ∀ D ∈ cs, CoOk G MM D) : ∀ D ∈ C :: cs, CoOk G MM D := List.forall_mem_cons.mpr ⟨h, hs⟩
theorem chk_q {cs : List CO} {G : GT} {C : CO} {F : Nat} (h : chk_f G cs C F = true) : chk MM G cs C F = true := by
  rw [chk_e] at h
  exact h
theorem chk_okF {G : GT} {C : CO} {cs : List CO} {F : Nat} (hcs : ∀ C ∈ cs, CoOk G MM C) (h : chk_f G cs C F = true) (hL : runL_f G cs C F 0 (cL C) = true) : CoOk G MM C := by
  rw [chk_e] at h
  exact chk_ok hcs h (runL_q hL)
theorem chk_okP {G : GT} {C : CO} {cs : List CO} {F : Nat} (hcs : ∀ C ∈ cs, CoOk G MM C) (h : chk_f G cs C F = true) (hL : runL MM G cs C F 0 (cL C) = true) : CoOk G MM C := by
  rw [chk_e] at h
  exact chk_ok hcs h hL
