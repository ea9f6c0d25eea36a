/-- a program: of each method, by its number, its name, bytes, locals, answer's type, the cells and the slots that it makes, its instructions (with two resolved numbers), its class's number -/
abbrev MT : Type := (Nat → MethodName) × (Nat → ByteArray) × (Nat → Nat) × (Nat → Option FieldType) × (Nat → Nat) × (Nat → Nat) × (Nat → Nat → Option (Instr × Nat × Nat)) × (Nat → Nat)
abbrev mY (M : MT) : Nat → MethodName := M.1
abbrev mB (M : MT) : Nat → ByteArray := M.2.1
abbrev mL (M : MT) : Nat → Nat := M.2.2.1
abbrev mR (M : MT) : Nat → Option FieldType := M.2.2.2.1
abbrev mC (M : MT) : Nat → Nat := M.2.2.2.2.1
abbrev mS (M : MT) : Nat → Nat := M.2.2.2.2.2.1
abbrev mF (M : MT) : Nat → Nat → Option (Instr × Nat × Nat) := M.2.2.2.2.2.2.1
abbrev mK (M : MT) : Nat → Nat := M.2.2.2.2.2.2.2
abbrev ev_R : Type := Option Value × List va_E
def ev_pop (y : Nat) (st : List Value) : Option (List Value × List Value) := if y ≤ st.length then some ((st.take y).reverse, st.drop y) else none
def ev_rt : Option FieldType → Int32 → Bool
  | some .int, _ => true
  | some .boolean, v => v == 0 || v == 1
  | _, _ => false
def ev_cf (M : MT) (cf : Nat → List Value → List va_E → Option ev_R) (mi x : Nat) (As rest : List Value) (hp : List va_E) (k ks : Nat) (K : List Value → List va_E → Nat → Nat → Option ev_R) : Option ev_R :=
  if (rest.map fun v => v.category).sum ≤ 8 then
    if k + mC M x ≤ mC M mi ∧ ks + mS M x ≤ mS M mi then (cf x As hp).bind (fun q => K (q.1.toList ++ rest) q.2 (k + mC M x) (ks + mS M x)) else none
  else none
def ev_end (M : MT) (mi : Nat) (r : Option Value) (rest : List Value) (hp : List va_E) (k ks : Nat) : Option ev_R :=
  if rest.isEmpty && Nat.beq k (mC M mi) && Nat.ble ks (mS M mi) then some (r, hp) else none
def ev_ld (hp : List va_E) (st : List Value) (K : Value → List Value → Option ev_R) : Option ev_R := (ev_ia st).bind fun q => (ev_ai hp q.2.1).bind fun z => if z.1 = 1 then (ev_ix q.1 z.2.1).bind fun j => K (.int (z.2.2 j)) q.2.2 else none
def ev_sr (hp : List va_E) (st : List Value) (x y : Nat) (K : List Value → List va_E → Option ev_R) : Option ev_R := (ev_aia st).bind fun q => (ev_ar hp q.2.2.1).bind fun z => if z.1 = x ∧ (x = 5 ∧ y = 3 ∨ x = 6 ∧ y = 2) then (ev_ob hp q.1 y).bind fun _ => (ev_ix q.2.1 z.2.1).bind fun j => K q.2.2.2 (hp.set q.2.2.1 (.inl (x, z.2.1, .inr (.inr (.inr (.inr (ev_ur z.2.2 j (some q.1)))))))) else none
def ev_iv (M : MT) (cf : Nat → List Value → List va_E → Option ev_R) (mi x y : Nat) (st : List Value) (hp : List va_E) (k ks : Nat) (K : List Value → List va_E → Nat → Nat → Option ev_R) : Option ev_R := (ev_pop y st).bind fun q => (ev_a q.2).bind fun z => (ev_ob hp z.1 (mK M x)).bind fun _ => if x < 900 then ev_cf M cf mi x (.ref z.1 :: q.1) z.2 hp k ks K else none
/-- one instruction; K goes on -/
def ev_s (M : MT) (cf : Nat → List Value → List va_E → Option ev_R) (mi pc : Nat) (i : Instr) (x y : Nat) (L : List (Nat × Value)) (st : List Value) (hp : List va_E) (k ks : Nat) (K : Nat → List (Nat × Value) → List Value → List va_E → Nat → Nat → Option ev_R) : Option ev_R :=
  match i with
  | .iconst n => K (pc + 1) L (.int (Int32.ofInt n) :: st) hp k ks
  | .bipush n => K (pc + 2) L (.int (Int8.ofInt n).toInt32 :: st) hp k ks
  | .sipush n => K (pc + 3) L (.int (Int16.ofInt n).toInt32 :: st) hp k ks
  | .lconst n => K (pc + 1) L (.long (Int64.ofNat (n : Nat)) :: st) hp k ks
  | .ldc _ => K (pc + 2) L (.int (Int32.ofNat x) :: st) hp k ks
  | .ldc_w _ => K (pc + 3) L (.int (Int32.ofNat x) :: st) hp k ks
  | .ldc2_w _ => K (pc + 3) L (.long (Int64.ofNat x) :: st) hp k ks
  | .iload_n n => (ev_g L n).bind fun v => match v with
    | .int w => K (pc + 1) L (.int w :: st) hp k ks
    | _ => none
  | .iload n => (ev_g L n).bind fun v => match v with
    | .int w => K (pc + 2) L (.int w :: st) hp k ks
    | _ => none
  | .lload_n n => (ev_g L n).bind fun v => match v with
    | .long w => K (pc + 1) L (.long w :: st) hp k ks
    | _ => none
  | .lload n => (ev_g L n).bind fun v => match v with
    | .long w => K (pc + 2) L (.long w :: st) hp k ks
    | _ => none
  | .aload_n n => (ev_g L n).bind fun v => match v with
    | .ref w => K (pc + 1) L (.ref w :: st) hp k ks
    | .retAddr w => K (pc + 1) L (.retAddr w :: st) hp k ks
    | _ => none
  | .aload n => (ev_g L n).bind fun v => match v with
    | .ref w => K (pc + 2) L (.ref w :: st) hp k ks
    | .retAddr w => K (pc + 2) L (.retAddr w :: st) hp k ks
    | _ => none
  | .istore_n n => (ev_i st).bind fun q => if (n : Nat) < mL M mi then K (pc + 1) (ev_s1 L n (.int q.1)) q.2 hp k ks else none
  | .istore n => (ev_i st).bind fun q => if n < mL M mi then K (pc + 2) (ev_s1 L n (.int q.1)) q.2 hp k ks else none
  | .lstore_n n => (ev_l st).bind fun q => if (n : Nat) + 1 < mL M mi then K (pc + 1) (ev_s2 L n (.long q.1)) q.2 hp k ks else none
  | .lstore n => (ev_l st).bind fun q => if n + 1 < mL M mi then K (pc + 2) (ev_s2 L n (.long q.1)) q.2 hp k ks else none
  | .astore_n n => match st with
    | .ref w :: r => if (n : Nat) < mL M mi then K (pc + 1) (ev_s1 L n (.ref w)) r hp k ks else none
    | .retAddr w :: r => if (n : Nat) < mL M mi then K (pc + 1) (ev_s1 L n (.retAddr w)) r hp k ks else none
    | _ => none
  | .astore n => match st with
    | .ref w :: r => if n < mL M mi then K (pc + 2) (ev_s1 L n (.ref w)) r hp k ks else none
    | .retAddr w :: r => if n < mL M mi then K (pc + 2) (ev_s1 L n (.retAddr w)) r hp k ks else none
    | _ => none
  | .iinc n d => (ev_g L n).bind fun v => match v with
    | .int w => if n < mL M mi then K (pc + 3) (ev_s1 L n (.int (w + Int32.ofInt d))) st hp k ks else none
    | _ => none
  | .iadd => (ev_ii st).bind fun q => K (pc + 1) L (.int (q.2.1 + q.1) :: q.2.2) hp k ks
  | .isub => (ev_ii st).bind fun q => K (pc + 1) L (.int (q.2.1 - q.1) :: q.2.2) hp k ks
  | .imul => (ev_ii st).bind fun q => K (pc + 1) L (.int (q.2.1 * q.1) :: q.2.2) hp k ks
  | .iand => (ev_ii st).bind fun q => K (pc + 1) L (.int (q.2.1 &&& q.1) :: q.2.2) hp k ks
  | .ior => (ev_ii st).bind fun q => K (pc + 1) L (.int (q.2.1 ||| q.1) :: q.2.2) hp k ks
  | .ixor => (ev_ii st).bind fun q => K (pc + 1) L (.int (q.2.1 ^^^ q.1) :: q.2.2) hp k ks
  | .idiv => (ev_ii st).bind fun q => if q.1 = 0 then none else K (pc + 1) L (.int (q.2.1 / q.1) :: q.2.2) hp k ks
  | .irem => (ev_ii st).bind fun q => if q.1 = 0 then none else K (pc + 1) L (.int (q.2.1 - q.2.1 / q.1 * q.1) :: q.2.2) hp k ks
  | .ishl => (ev_ii st).bind fun q => K (pc + 1) L (.int (q.2.1 <<< (q.1 &&& 31)) :: q.2.2) hp k ks
  | .ishr => (ev_ii st).bind fun q => K (pc + 1) L (.int (q.2.1 >>> (q.1 &&& 31)) :: q.2.2) hp k ks
  | .iushr => (ev_ii st).bind fun q => K (pc + 1) L (.int (q.2.1.toUInt32 >>> (q.1.toUInt32 &&& Int32.toUInt32 31)).toInt32 :: q.2.2) hp k ks
  | .ineg => (ev_i st).bind fun q => K (pc + 1) L (.int (-q.1) :: q.2) hp k ks
  | .i2l => (ev_i st).bind fun q => K (pc + 1) L (.long q.1.toInt64 :: q.2) hp k ks
  | .i2b => (ev_i st).bind fun q => K (pc + 1) L (.int q.1.toInt8.toInt32 :: q.2) hp k ks
  | .i2c => (ev_i st).bind fun q => K (pc + 1) L (.int (q.1.toUInt32 % 65536).toInt32 :: q.2) hp k ks
  | .l2i => (ev_l st).bind fun q => K (pc + 1) L (.int q.1.toInt32 :: q.2) hp k ks
  | .ladd => (ev_ll st).bind fun q => K (pc + 1) L (.long (q.2.1 + q.1) :: q.2.2) hp k ks
  | .lsub => (ev_ll st).bind fun q => K (pc + 1) L (.long (q.2.1 - q.1) :: q.2.2) hp k ks
  | .lmul => (ev_ll st).bind fun q => K (pc + 1) L (.long (q.2.1 * q.1) :: q.2.2) hp k ks
  | .land => (ev_ll st).bind fun q => K (pc + 1) L (.long (q.2.1 &&& q.1) :: q.2.2) hp k ks
  | .lor => (ev_ll st).bind fun q => K (pc + 1) L (.long (q.2.1 ||| q.1) :: q.2.2) hp k ks
  | .ldiv => (ev_ll st).bind fun q => if q.1 = 0 then none else K (pc + 1) L (.long (q.2.1 / q.1) :: q.2.2) hp k ks
  | .lrem => (ev_ll st).bind fun q => if q.1 = 0 then none else K (pc + 1) L (.long (q.2.1 - q.2.1 / q.1 * q.1) :: q.2.2) hp k ks
  | .lcmp => (ev_ll st).bind fun q => K (pc + 1) L (.int (lg_cmp q.2.1 q.1) :: q.2.2) hp k ks
  | .lshl => (ev_il st).bind fun q => K (pc + 1) L (.long (q.2.1 <<< (q.1.toInt64 &&& 63)) :: q.2.2) hp k ks
  | .lushr => (ev_il st).bind fun q => K (pc + 1) L (.long (q.2.1.toUInt64 >>> (q.1.toInt64.toUInt64 &&& Int64.toUInt64 63)).toInt64 :: q.2.2) hp k ks
  | .dup => match st with
    | v :: r => if v.category = 1 then K (pc + 1) L (v :: v :: r) hp k ks else none
    | _ => none
  | .dup2 => match st with
    | v :: w :: r => if v.category = 1 ∧ w.category = 1 then K (pc + 1) L (v :: w :: v :: w :: r) hp k ks else none
    | _ => none
  | .pop => match st with
    | v :: r => if v.category = 1 then K (pc + 1) L r hp k ks else none
    | _ => none
  | .goto _ => K x L st hp k ks
  | .ifCond .eq _ => (ev_i st).bind fun q => K (if q.1 = 0 then x else pc + 3) L q.2 hp k ks
  | .ifCond .ne _ => (ev_i st).bind fun q => K (if q.1 = 0 then pc + 3 else x) L q.2 hp k ks
  | .ifCond .lt _ => (ev_i st).bind fun q => K (if q.1 < 0 then x else pc + 3) L q.2 hp k ks
  | .ifCond .ge _ => (ev_i st).bind fun q => K (if 0 ≤ q.1 then x else pc + 3) L q.2 hp k ks
  | .ifCond .gt _ => (ev_i st).bind fun q => K (if 0 < q.1 then x else pc + 3) L q.2 hp k ks
  | .ifCond .le _ => (ev_i st).bind fun q => K (if q.1 ≤ 0 then x else pc + 3) L q.2 hp k ks
  | .if_icmp .eq _ => (ev_ii st).bind fun q => K (if q.2.1 = q.1 then x else pc + 3) L q.2.2 hp k ks
  | .if_icmp .ne _ => (ev_ii st).bind fun q => K (if q.2.1 = q.1 then pc + 3 else x) L q.2.2 hp k ks
  | .if_icmp .lt _ => (ev_ii st).bind fun q => K (if q.2.1 < q.1 then x else pc + 3) L q.2.2 hp k ks
  | .if_icmp .ge _ => (ev_ii st).bind fun q => K (if q.1 ≤ q.2.1 then x else pc + 3) L q.2.2 hp k ks
  | .if_icmp .gt _ => (ev_ii st).bind fun q => K (if q.1 < q.2.1 then x else pc + 3) L q.2.2 hp k ks
  | .if_icmp .le _ => (ev_ii st).bind fun q => K (if q.2.1 ≤ q.1 then x else pc + 3) L q.2.2 hp k ks
  | .if_acmp .eq _ => match st with
    | .retAddr v :: .retAddr w :: r => if v < 32 ∧ w < 32 then K (if w = v then x else pc + 3) L r hp k ks else none
    | _ => none
  | .if_acmp .ne _ => match st with
    | .retAddr v :: .retAddr w :: r => if v < 32 ∧ w < 32 then K (if w = v then pc + 3 else x) L r hp k ks else none
    | _ => none
  | .tableswitch dflt lo hi offs => (ev_i st).bind fun q =>
      if q.1.toInt < lo ∨ hi < q.1.toInt then (ev_tg pc dflt).bind fun t => K t L q.2 hp k ks
      else (offs[(q.1.toInt - lo).toNat]?).bind fun off => (ev_tg pc off).bind fun t => K t L q.2 hp k ks
  | .lookupswitch dflt ps => (ev_i st).bind fun q => (ev_tg pc (Op.lookupswitch.offset ps.toList dflt q.1.toInt)).bind fun t => K t L q.2 hp k ks
  | .getfield _ => (ev_a st).bind fun q => (ev_gf hp q.1 x y).bind fun v => K (pc + 3) L (v :: q.2) hp k ks
  | .putfield _ => (ev_va st).bind fun q => (ev_ob hp q.2.1 x).bind fun fs =>
      if ev_f (TY x y) q.1 = true ∧ y < fs.length ∧ ((TT x y).2.2.2 = true → (mY M mi).name = "<init>") then K (pc + 3) L q.2.2 (hp.set q.2.1 (.inr (x, fs.set y q.1))) k ks else none
  | .getstatic _ => K (pc + 3) L (.retAddr x :: st) hp k ks
  | .arraylength => (ev_a st).bind fun q => (ev_an hp q.1).bind fun z => if z.1 < 7 then K (pc + 1) L (.int (Int32.ofNat z.2) :: q.2) hp k ks else none
  | .iaload => match st with
    | .int i :: .retAddr z :: r => if z = 100 then (ev_ix i 32).bind fun j => K (pc + 1) L (.int (ev_sw.getD j 0) :: r) hp k ks else none
    | _ => ev_ld hp st (fun v r => K (pc + 1) L (v :: r) hp k ks)
  | .baload => (ev_ia st).bind fun q => (ev_ai hp q.2.1).bind fun z => if z.1 = 0 ∨ z.1 = 3 then (ev_ix q.1 z.2.1).bind fun j => K (pc + 1) L (.int (z.2.2 j) :: q.2.2) hp k ks else none
  | .laload => (ev_ia st).bind fun q => (ev_al hp q.2.1).bind fun z => if z.1 = 2 then (ev_ix q.1 z.2.1).bind fun j => K (pc + 1) L (.long (z.2.2 j) :: q.2.2) hp k ks else none
  | .aaload => (ev_ia st).bind fun q => (ev_ar hp q.2.1).bind fun z => if 4 ≤ z.1 ∧ z.1 < 7 then (ev_ix q.1 z.2.1).bind fun j => K (pc + 1) L (ev_ro z.1 (z.2.2 j) :: q.2.2) hp k ks else none
  | .iastore => (ev_iia st).bind fun q => (ev_ai hp q.2.2.1).bind fun z => if z.1 = 1 then (ev_ix q.2.1 z.2.1).bind fun j => K (pc + 1) L q.2.2.2 (hp.set q.2.2.1 (.inl (1, z.2.1, .inl (ev_u z.2.2 j q.1)))) k ks else none
  | .bastore => (ev_iia st).bind fun q => (ev_ai hp q.2.2.1).bind fun z => (ev_ix q.2.1 z.2.1).bind fun j =>
      if z.1 = 0 then K (pc + 1) L q.2.2.2 (hp.set q.2.2.1 (.inl (0, z.2.1, .inl (ev_u z.2.2 j q.1.toInt8.toInt32)))) k ks
      else if z.1 = 3 ∧ (q.1 = 0 ∨ q.1 = 1) then K (pc + 1) L q.2.2.2 (hp.set q.2.2.1 (.inl (3, z.2.1, .inl (ev_u z.2.2 j q.1)))) k ks else none
  | .lastore => (ev_lia st).bind fun q => (ev_al hp q.2.2.1).bind fun z => if z.1 = 2 then (ev_ix q.2.1 z.2.1).bind fun j => K (pc + 1) L q.2.2.2 (hp.set q.2.2.1 (.inl (2, z.2.1, .inr (.inl (ev_ul z.2.2 j q.1))))) k ks else none
  | .aastore => match st with
    | .retAddr v :: .int i :: .ref a :: r => (ev_ar hp a).bind fun z => if z.1 = 4 ∧ v < 32 then (ev_ix i z.2.1).bind fun j => K (pc + 1) L r (hp.set a (.inl (4, z.2.1, .inr (.inr (.inr (.inr (ev_ur z.2.2 j (some v)))))))) k ks else none
    | _ => ev_sr hp st x y (fun r h1 => K (pc + 1) L r h1 k ks)
  | .new _ => if k + 1 ≤ mC M mi ∧ ks + NN x ≤ mS M mi ∧ x < 12 then K (pc + 3) L (.ref hp.length :: st) (hp ++ [.inr (x, ev_new x)]) (k + 1) (ks + NN x) else none
  | .newarray a => (ev_i st).bind fun q => (ev_nt a).bind fun t => (ev_ix q.1 65536).bind fun n => if k + 1 ≤ mC M mi ∧ ks + n ≤ mS M mi then K (pc + 2) L (.ref hp.length :: q.2) (hp ++ [ev_na t.1 n]) (k + 1) (ks + n) else none
  | .anewarray _ => (ev_i st).bind fun q => (ev_ix q.1 65536).bind fun n => if k + 1 ≤ mC M mi ∧ ks + n ≤ mS M mi then K (pc + 3) L (.ref hp.length :: q.2) (hp ++ [.inl (x, n, .inr (.inr (.inr (.inr (fun _ => none)))))]) (k + 1) (ks + n) else none
  | .invokevirtual _ => match st with
    | .retAddr v :: r => if x = 900 ∧ v < 32 ∧ k ≤ mC M mi ∧ ks ≤ mS M mi then (if (r.map fun v => v.category).sum ≤ 8 then K (pc + 3) L (.int (Int32.ofNat v) :: r) hp k ks else none) else none
    | _ => ev_iv M cf mi x y st hp k ks (K (pc + 3) L)
  | .invokespecial _ => if x = 999 then (ev_a st).bind fun q => (if (q.2.map fun v => v.category).sum ≤ 8 then K (pc + 3) L q.2 hp k ks else none)
      else if x < 900 then (ev_pop y st).bind fun q => (ev_a q.2).bind fun z => ev_cf M cf mi x (.ref z.1 :: q.1) z.2 hp k ks (K (pc + 3) L) else none
  | .invokestatic _ => if x < 900 then (ev_pop y st).bind fun q => ev_cf M cf mi x q.1 q.2 hp k ks (K (pc + 3) L)
      else if x = 901 then (ev_ii st).bind fun q => (if (q.2.2.map fun v => v.category).sum ≤ 8 ∧ k ≤ mC M mi ∧ ks ≤ mS M mi then K (pc + 3) L (.int (if q.1 < q.2.1 then q.1 else q.2.1) :: q.2.2) hp k ks else none)
      else if x = 902 then (ev_ii st).bind fun q => (if (q.2.2.map fun v => v.category).sum ≤ 8 ∧ k ≤ mC M mi ∧ ks ≤ mS M mi then K (pc + 3) L (.int (if q.2.1 < q.1 then q.1 else q.2.1) :: q.2.2) hp k ks else none)
      else if x = 904 then (ev_c5 st).bind fun q => (if (q.2.2.2.2.2.map fun v => v.category).sum ≤ 8 then (ev_cy hp q.1 q.2.1 q.2.2.1 q.2.2.2.1 q.2.2.2.2.1).bind fun h1 => K (pc + 3) L q.2.2.2.2.2 h1 k ks else none)
      else none
  | .ireturn => (ev_i st).bind fun q => if ev_rt (mR M mi) q.1 = true then ev_end M mi (some (.int q.1)) q.2 hp k ks else none
  | .lreturn => (ev_l st).bind fun q => if mR M mi = some .long then ev_end M mi (some (.long q.1)) q.2 hp k ks else none
  | .areturn => match st with
    | .retAddr v :: r => if mR M mi = some (.object "LeftAnswers$Word") then ev_end M mi (some (.retAddr v)) r hp k ks else none
    | _ => none
  | .return_ => if mR M mi = none then ev_end M mi none st hp k ks else none
  | _ => none
def ev_r (M : MT) (cf : Nat → List Value → List va_E → Option ev_R) (mi : Nat) : Nat → Nat → List (Nat × Value) → List Value → List va_E → Nat → Nat → Option ev_R
  | 0, _, _, _, _, _, _ => none
  | n + 1, pc, L, st, hp, k, ks => (mF M mi pc).bind fun q => ev_s M cf mi pc q.1 q.2.1 q.2.2 L st hp k ks (ev_r M cf mi n)
/-- the method mi, calls at most d deep -/
def ev (M : MT) : Nat → Nat → List Value → List va_E → Option ev_R
  | 0, _, _, _ => none
  | d + 1, mi, As, hp => if (lg_sl As).length ≤ mL M mi ∧ mL M mi ≤ 40 then ev_r M (ev M d) mi 100000 0 (lv_args 0 As) [] hp 0 0 else none
