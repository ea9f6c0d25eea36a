/-- a program: of each method, by its number, its name, bytes, locals, answer's type, the cells and the slots that it makes, its instructions (with two resolved numbers), its class's number -/
abbrev MT : Type := (Nat → MethodName) × (Nat → ByteArray) × (Nat → Nat) × (Nat → Option FieldType) × (Nat → Nat) × (Nat → Nat) × (Nat → Nat → Option (Instr × Nat × Nat)) × (Nat → Nat)
abbrev mY (M : MT) : Nat → MethodName := M.1
abbrev mB (M : MT) : Nat → ByteArray := M.2.1
abbrev mL (M : MT) : Nat → Nat := M.2.2.1
abbrev mR (M : MT) : Nat → Option FieldType := M.2.2.2.1
abbrev mC (M : MT) : Nat → Nat := M.2.2.2.2.1
abbrev mS (M : MT) : Nat → Nat := M.2.2.2.2.2.1
abbrev mF (M : MT) : Nat → Nat → Option (Instr × Nat × Nat) := M.2.2.2.2.2.2.1
abbrev mK (M : MT) : Nat → Nat := M.2.2.2.2.2.2.2
abbrev ev_R : Type := Option Value × List AE
def ev_pop (y : Nat) (st : List Value) : Option (List Value × List Value) := if y ≤ st.length then some ((st.take y).reverse, st.drop y) else none
def ev_rt : Option FieldType → Int32 → Bool
  | some .int, _ => true
  | some .boolean, v => v == 0 || v == 1
  | _, _ => false
def ev_cf (M : MT) (cf : Nat → List Value → List AE → Option ev_R) (mi x : Nat) (As rest : List Value) (hp : List AE) (k ks : Nat) (K : List Value → List AE → Nat → Nat → Option ev_R) : Option ev_R :=
  if (rest.map fun v => v.category).sum ≤ 8 then
    if k + mC M x ≤ mC M mi ∧ ks + mS M x ≤ mS M mi then (cf x As hp).bind (fun q => K (q.1.toList ++ rest) q.2 (k + mC M x) (ks + mS M x)) else none
  else none
def ev_end (M : MT) (mi : Nat) (r : Option Value) (rest : List Value) (hp : List AE) (k ks : Nat) : Option ev_R :=
  if rest.isEmpty && Nat.beq k (mC M mi) && Nat.ble ks (mS M mi) then some (r, hp) else none
def ev_ld (hp : List AE) (st : List Value) (K : Value → List Value → Option ev_R) : Option ev_R := (ev_ia st).bind fun q => (ev_ai hp q.2.1).bind fun z => if z.1 = 1 then (ev_rd z.2 q.1).bind fun v => K (.int v) q.2.2 else none
def ev_sr (hp : List AE) (st : List Value) (x y : Nat) (K : List Value → List AE → Option ev_R) : Option ev_R := (ev_aia st).bind fun q => (ev_ar hp q.2.2.1).bind fun z => if z.1 = x ∧ (x = 5 ∧ y = 3 ∨ x = 6 ∧ y = 2) then (ev_ob hp q.1 y).bind fun _ => (ev_rd z.2 q.2.1).bind fun _ => K q.2.2.2 (hp.set q.2.2.1 (.inl (x, .inr (.inr (z.2.set q.2.1.toNatClampNeg (some q.1)))))) else none
def ev_iv (M : MT) (cf : Nat → List Value → List AE → Option ev_R) (mi x y : Nat) (st : List Value) (hp : List AE) (k ks : Nat) (K : List Value → List AE → Nat → Nat → Option ev_R) : Option ev_R := (ev_pop y st).bind fun q => (ev_a q.2).bind fun z => (ev_ob hp z.1 (mK M x)).bind fun _ => if x < 900 then ev_cf M cf mi x (.ref z.1 :: q.1) z.2 hp k ks K else none
/-- what the constants of Word hold, and the texts -/
def ev_lt : List Int64 := [0, 0, 542723566, 247978148, 136356, 81544, 627891, 212420, 12343, 103820, 9573427, 146611, 758931, 16829075, 247978163, 2148531, 4153, 19176724, 398548, 21231, 498, 1476, 14836, 336900260, 23716, 87673, 627886, 655, 515539, 2491813, 299169, 492210354]
def ev_txs : List (List Int32) := [[32, 111, 119, 110, 115, 32], [32, 105, 110, 32, 99, 101, 108, 108, 32], [32, 103, 108, 111, 118, 101, 100], [32, 119, 101, 100, 32, 116, 111, 32]]
def ev_tx (v : Nat) : List Int32 := ev_txs.getD (v - 300) []
def eo_iconst (n : Int) (M : MT) (cf : Nat → List Value → List AE → Option ev_R) (mi pc x y : Nat) (L : List (Nat × Value)) (st : List Value) (hp : List AE) (k ks : Nat) (K : Nat → List (Nat × Value) → List Value → List AE → Nat → Nat → Option ev_R) : Option ev_R :=
  K (pc + 1) L (.int (Int32.ofInt n) :: st) hp k ks
def eo_bipush (n : Int) (M : MT) (cf : Nat → List Value → List AE → Option ev_R) (mi pc x y : Nat) (L : List (Nat × Value)) (st : List Value) (hp : List AE) (k ks : Nat) (K : Nat → List (Nat × Value) → List Value → List AE → Nat → Nat → Option ev_R) : Option ev_R :=
  K (pc + 2) L (.int (Int8.ofInt n).toInt32 :: st) hp k ks
def eo_sipush (n : Int) (M : MT) (cf : Nat → List Value → List AE → Option ev_R) (mi pc x y : Nat) (L : List (Nat × Value)) (st : List Value) (hp : List AE) (k ks : Nat) (K : Nat → List (Nat × Value) → List Value → List AE → Nat → Nat → Option ev_R) : Option ev_R :=
  K (pc + 3) L (.int (Int16.ofInt n).toInt32 :: st) hp k ks
def eo_lconst (n : Fin 2) (M : MT) (cf : Nat → List Value → List AE → Option ev_R) (mi pc x y : Nat) (L : List (Nat × Value)) (st : List Value) (hp : List AE) (k ks : Nat) (K : Nat → List (Nat × Value) → List Value → List AE → Nat → Nat → Option ev_R) : Option ev_R :=
  K (pc + 1) L (.long (Int64.ofNat (n : Nat)) :: st) hp k ks
def eo_ldc (M : MT) (cf : Nat → List Value → List AE → Option ev_R) (mi pc x y : Nat) (L : List (Nat × Value)) (st : List Value) (hp : List AE) (k ks : Nat) (K : Nat → List (Nat × Value) → List Value → List AE → Nat → Nat → Option ev_R) : Option ev_R :=
  if y = 1 then (if 300 ≤ x ∧ x < 304 then K (pc + 2) L (.retAddr x :: st) hp k ks else none) else K (pc + 2) L (.int (Int32.ofNat x) :: st) hp k ks
def eo_ldc_w (M : MT) (cf : Nat → List Value → List AE → Option ev_R) (mi pc x y : Nat) (L : List (Nat × Value)) (st : List Value) (hp : List AE) (k ks : Nat) (K : Nat → List (Nat × Value) → List Value → List AE → Nat → Nat → Option ev_R) : Option ev_R :=
  K (pc + 3) L (.int (Int32.ofNat x) :: st) hp k ks
def eo_ldc2_w (M : MT) (cf : Nat → List Value → List AE → Option ev_R) (mi pc x y : Nat) (L : List (Nat × Value)) (st : List Value) (hp : List AE) (k ks : Nat) (K : Nat → List (Nat × Value) → List Value → List AE → Nat → Nat → Option ev_R) : Option ev_R :=
  K (pc + 3) L (.long (Int64.ofNat x) :: st) hp k ks
def eo_iload_n (n : Fin 4) (M : MT) (cf : Nat → List Value → List AE → Option ev_R) (mi pc x y : Nat) (L : List (Nat × Value)) (st : List Value) (hp : List AE) (k ks : Nat) (K : Nat → List (Nat × Value) → List Value → List AE → Nat → Nat → Option ev_R) : Option ev_R :=
  (ev_g L n).bind fun v => match v with
      | .int w => K (pc + 1) L (.int w :: st) hp k ks
      | _ => none
def eo_iload (n : Nat) (M : MT) (cf : Nat → List Value → List AE → Option ev_R) (mi pc x y : Nat) (L : List (Nat × Value)) (st : List Value) (hp : List AE) (k ks : Nat) (K : Nat → List (Nat × Value) → List Value → List AE → Nat → Nat → Option ev_R) : Option ev_R :=
  (ev_g L n).bind fun v => match v with
      | .int w => K (pc + 2) L (.int w :: st) hp k ks
      | _ => none
def eo_lload_n (n : Fin 4) (M : MT) (cf : Nat → List Value → List AE → Option ev_R) (mi pc x y : Nat) (L : List (Nat × Value)) (st : List Value) (hp : List AE) (k ks : Nat) (K : Nat → List (Nat × Value) → List Value → List AE → Nat → Nat → Option ev_R) : Option ev_R :=
  (ev_g L n).bind fun v => match v with
      | .long w => K (pc + 1) L (.long w :: st) hp k ks
      | _ => none
def eo_lload (n : Nat) (M : MT) (cf : Nat → List Value → List AE → Option ev_R) (mi pc x y : Nat) (L : List (Nat × Value)) (st : List Value) (hp : List AE) (k ks : Nat) (K : Nat → List (Nat × Value) → List Value → List AE → Nat → Nat → Option ev_R) : Option ev_R :=
  (ev_g L n).bind fun v => match v with
      | .long w => K (pc + 2) L (.long w :: st) hp k ks
      | _ => none
def eo_aload_n (n : Fin 4) (M : MT) (cf : Nat → List Value → List AE → Option ev_R) (mi pc x y : Nat) (L : List (Nat × Value)) (st : List Value) (hp : List AE) (k ks : Nat) (K : Nat → List (Nat × Value) → List Value → List AE → Nat → Nat → Option ev_R) : Option ev_R :=
  (ev_g L n).bind fun v => match v with
      | .ref w => K (pc + 1) L (.ref w :: st) hp k ks
      | .retAddr w => K (pc + 1) L (.retAddr w :: st) hp k ks
      | _ => none
def eo_aload (n : Nat) (M : MT) (cf : Nat → List Value → List AE → Option ev_R) (mi pc x y : Nat) (L : List (Nat × Value)) (st : List Value) (hp : List AE) (k ks : Nat) (K : Nat → List (Nat × Value) → List Value → List AE → Nat → Nat → Option ev_R) : Option ev_R :=
  (ev_g L n).bind fun v => match v with
      | .ref w => K (pc + 2) L (.ref w :: st) hp k ks
      | .retAddr w => K (pc + 2) L (.retAddr w :: st) hp k ks
      | _ => none
def eo_istore_n (n : Fin 4) (M : MT) (cf : Nat → List Value → List AE → Option ev_R) (mi pc x y : Nat) (L : List (Nat × Value)) (st : List Value) (hp : List AE) (k ks : Nat) (K : Nat → List (Nat × Value) → List Value → List AE → Nat → Nat → Option ev_R) : Option ev_R :=
  (ev_i st).bind fun q => if (n : Nat) < mL M mi then K (pc + 1) (ev_s1 L n (.int q.1)) q.2 hp k ks else none
def eo_istore (n : Nat) (M : MT) (cf : Nat → List Value → List AE → Option ev_R) (mi pc x y : Nat) (L : List (Nat × Value)) (st : List Value) (hp : List AE) (k ks : Nat) (K : Nat → List (Nat × Value) → List Value → List AE → Nat → Nat → Option ev_R) : Option ev_R :=
  (ev_i st).bind fun q => if n < mL M mi then K (pc + 2) (ev_s1 L n (.int q.1)) q.2 hp k ks else none
def eo_lstore_n (n : Fin 4) (M : MT) (cf : Nat → List Value → List AE → Option ev_R) (mi pc x y : Nat) (L : List (Nat × Value)) (st : List Value) (hp : List AE) (k ks : Nat) (K : Nat → List (Nat × Value) → List Value → List AE → Nat → Nat → Option ev_R) : Option ev_R :=
  (ev_l st).bind fun q => if (n : Nat) + 1 < mL M mi then K (pc + 1) (ev_s2 L n (.long q.1)) q.2 hp k ks else none
def eo_lstore (n : Nat) (M : MT) (cf : Nat → List Value → List AE → Option ev_R) (mi pc x y : Nat) (L : List (Nat × Value)) (st : List Value) (hp : List AE) (k ks : Nat) (K : Nat → List (Nat × Value) → List Value → List AE → Nat → Nat → Option ev_R) : Option ev_R :=
  (ev_l st).bind fun q => if n + 1 < mL M mi then K (pc + 2) (ev_s2 L n (.long q.1)) q.2 hp k ks else none
def eo_astore_n (n : Fin 4) (M : MT) (cf : Nat → List Value → List AE → Option ev_R) (mi pc x y : Nat) (L : List (Nat × Value)) (st : List Value) (hp : List AE) (k ks : Nat) (K : Nat → List (Nat × Value) → List Value → List AE → Nat → Nat → Option ev_R) : Option ev_R :=
  match st with
    | .ref w :: r => if (n : Nat) < mL M mi then K (pc + 1) (ev_s1 L n (.ref w)) r hp k ks else none
    | .retAddr w :: r => if (n : Nat) < mL M mi then K (pc + 1) (ev_s1 L n (.retAddr w)) r hp k ks else none
    | _ => none
def eo_astore (n : Nat) (M : MT) (cf : Nat → List Value → List AE → Option ev_R) (mi pc x y : Nat) (L : List (Nat × Value)) (st : List Value) (hp : List AE) (k ks : Nat) (K : Nat → List (Nat × Value) → List Value → List AE → Nat → Nat → Option ev_R) : Option ev_R :=
  match st with
    | .ref w :: r => if n < mL M mi then K (pc + 2) (ev_s1 L n (.ref w)) r hp k ks else none
    | .retAddr w :: r => if n < mL M mi then K (pc + 2) (ev_s1 L n (.retAddr w)) r hp k ks else none
    | _ => none
def eo_iinc (n : Nat) (d : Int) (M : MT) (cf : Nat → List Value → List AE → Option ev_R) (mi pc x y : Nat) (L : List (Nat × Value)) (st : List Value) (hp : List AE) (k ks : Nat) (K : Nat → List (Nat × Value) → List Value → List AE → Nat → Nat → Option ev_R) : Option ev_R :=
  (ev_g L n).bind fun v => match v with
      | .int w => if n < mL M mi then K (pc + 3) (ev_s1 L n (.int (w + Int32.ofInt d))) st hp k ks else none
      | _ => none
def eo_iadd (M : MT) (cf : Nat → List Value → List AE → Option ev_R) (mi pc x y : Nat) (L : List (Nat × Value)) (st : List Value) (hp : List AE) (k ks : Nat) (K : Nat → List (Nat × Value) → List Value → List AE → Nat → Nat → Option ev_R) : Option ev_R :=
  (ev_ii st).bind fun q => K (pc + 1) L (.int (q.2.1 + q.1) :: q.2.2) hp k ks
def eo_isub (M : MT) (cf : Nat → List Value → List AE → Option ev_R) (mi pc x y : Nat) (L : List (Nat × Value)) (st : List Value) (hp : List AE) (k ks : Nat) (K : Nat → List (Nat × Value) → List Value → List AE → Nat → Nat → Option ev_R) : Option ev_R :=
  (ev_ii st).bind fun q => K (pc + 1) L (.int (q.2.1 - q.1) :: q.2.2) hp k ks
def eo_imul (M : MT) (cf : Nat → List Value → List AE → Option ev_R) (mi pc x y : Nat) (L : List (Nat × Value)) (st : List Value) (hp : List AE) (k ks : Nat) (K : Nat → List (Nat × Value) → List Value → List AE → Nat → Nat → Option ev_R) : Option ev_R :=
  (ev_ii st).bind fun q => K (pc + 1) L (.int (q.2.1 * q.1) :: q.2.2) hp k ks
def eo_iand (M : MT) (cf : Nat → List Value → List AE → Option ev_R) (mi pc x y : Nat) (L : List (Nat × Value)) (st : List Value) (hp : List AE) (k ks : Nat) (K : Nat → List (Nat × Value) → List Value → List AE → Nat → Nat → Option ev_R) : Option ev_R :=
  (ev_ii st).bind fun q => K (pc + 1) L (.int (q.2.1 &&& q.1) :: q.2.2) hp k ks
def eo_ior (M : MT) (cf : Nat → List Value → List AE → Option ev_R) (mi pc x y : Nat) (L : List (Nat × Value)) (st : List Value) (hp : List AE) (k ks : Nat) (K : Nat → List (Nat × Value) → List Value → List AE → Nat → Nat → Option ev_R) : Option ev_R :=
  (ev_ii st).bind fun q => K (pc + 1) L (.int (q.2.1 ||| q.1) :: q.2.2) hp k ks
def eo_ixor (M : MT) (cf : Nat → List Value → List AE → Option ev_R) (mi pc x y : Nat) (L : List (Nat × Value)) (st : List Value) (hp : List AE) (k ks : Nat) (K : Nat → List (Nat × Value) → List Value → List AE → Nat → Nat → Option ev_R) : Option ev_R :=
  (ev_ii st).bind fun q => K (pc + 1) L (.int (q.2.1 ^^^ q.1) :: q.2.2) hp k ks
def eo_idiv (M : MT) (cf : Nat → List Value → List AE → Option ev_R) (mi pc x y : Nat) (L : List (Nat × Value)) (st : List Value) (hp : List AE) (k ks : Nat) (K : Nat → List (Nat × Value) → List Value → List AE → Nat → Nat → Option ev_R) : Option ev_R :=
  (ev_ii st).bind fun q => if q.1 = 0 then none else K (pc + 1) L (.int (q.2.1 / q.1) :: q.2.2) hp k ks
def eo_irem (M : MT) (cf : Nat → List Value → List AE → Option ev_R) (mi pc x y : Nat) (L : List (Nat × Value)) (st : List Value) (hp : List AE) (k ks : Nat) (K : Nat → List (Nat × Value) → List Value → List AE → Nat → Nat → Option ev_R) : Option ev_R :=
  (ev_ii st).bind fun q => if q.1 = 0 then none else K (pc + 1) L (.int (q.2.1 - q.2.1 / q.1 * q.1) :: q.2.2) hp k ks
def eo_ishl (M : MT) (cf : Nat → List Value → List AE → Option ev_R) (mi pc x y : Nat) (L : List (Nat × Value)) (st : List Value) (hp : List AE) (k ks : Nat) (K : Nat → List (Nat × Value) → List Value → List AE → Nat → Nat → Option ev_R) : Option ev_R :=
  (ev_ii st).bind fun q => K (pc + 1) L (.int (q.2.1 <<< (q.1 &&& 31)) :: q.2.2) hp k ks
def eo_ishr (M : MT) (cf : Nat → List Value → List AE → Option ev_R) (mi pc x y : Nat) (L : List (Nat × Value)) (st : List Value) (hp : List AE) (k ks : Nat) (K : Nat → List (Nat × Value) → List Value → List AE → Nat → Nat → Option ev_R) : Option ev_R :=
  (ev_ii st).bind fun q => K (pc + 1) L (.int (q.2.1 >>> (q.1 &&& 31)) :: q.2.2) hp k ks
def eo_iushr (M : MT) (cf : Nat → List Value → List AE → Option ev_R) (mi pc x y : Nat) (L : List (Nat × Value)) (st : List Value) (hp : List AE) (k ks : Nat) (K : Nat → List (Nat × Value) → List Value → List AE → Nat → Nat → Option ev_R) : Option ev_R :=
  (ev_ii st).bind fun q => K (pc + 1) L (.int (q.2.1.toUInt32 >>> (q.1.toUInt32 &&& Int32.toUInt32 31)).toInt32 :: q.2.2) hp k ks
def eo_ineg (M : MT) (cf : Nat → List Value → List AE → Option ev_R) (mi pc x y : Nat) (L : List (Nat × Value)) (st : List Value) (hp : List AE) (k ks : Nat) (K : Nat → List (Nat × Value) → List Value → List AE → Nat → Nat → Option ev_R) : Option ev_R :=
  (ev_i st).bind fun q => K (pc + 1) L (.int (-q.1) :: q.2) hp k ks
def eo_i2l (M : MT) (cf : Nat → List Value → List AE → Option ev_R) (mi pc x y : Nat) (L : List (Nat × Value)) (st : List Value) (hp : List AE) (k ks : Nat) (K : Nat → List (Nat × Value) → List Value → List AE → Nat → Nat → Option ev_R) : Option ev_R :=
  (ev_i st).bind fun q => K (pc + 1) L (.long q.1.toInt64 :: q.2) hp k ks
def eo_i2b (M : MT) (cf : Nat → List Value → List AE → Option ev_R) (mi pc x y : Nat) (L : List (Nat × Value)) (st : List Value) (hp : List AE) (k ks : Nat) (K : Nat → List (Nat × Value) → List Value → List AE → Nat → Nat → Option ev_R) : Option ev_R :=
  (ev_i st).bind fun q => K (pc + 1) L (.int q.1.toInt8.toInt32 :: q.2) hp k ks
def eo_i2c (M : MT) (cf : Nat → List Value → List AE → Option ev_R) (mi pc x y : Nat) (L : List (Nat × Value)) (st : List Value) (hp : List AE) (k ks : Nat) (K : Nat → List (Nat × Value) → List Value → List AE → Nat → Nat → Option ev_R) : Option ev_R :=
  (ev_i st).bind fun q => K (pc + 1) L (.int (q.1.toUInt32 % 65536).toInt32 :: q.2) hp k ks
def eo_l2i (M : MT) (cf : Nat → List Value → List AE → Option ev_R) (mi pc x y : Nat) (L : List (Nat × Value)) (st : List Value) (hp : List AE) (k ks : Nat) (K : Nat → List (Nat × Value) → List Value → List AE → Nat → Nat → Option ev_R) : Option ev_R :=
  (ev_l st).bind fun q => K (pc + 1) L (.int q.1.toInt32 :: q.2) hp k ks
def eo_ladd (M : MT) (cf : Nat → List Value → List AE → Option ev_R) (mi pc x y : Nat) (L : List (Nat × Value)) (st : List Value) (hp : List AE) (k ks : Nat) (K : Nat → List (Nat × Value) → List Value → List AE → Nat → Nat → Option ev_R) : Option ev_R :=
  (ev_ll st).bind fun q => K (pc + 1) L (.long (q.2.1 + q.1) :: q.2.2) hp k ks
def eo_lsub (M : MT) (cf : Nat → List Value → List AE → Option ev_R) (mi pc x y : Nat) (L : List (Nat × Value)) (st : List Value) (hp : List AE) (k ks : Nat) (K : Nat → List (Nat × Value) → List Value → List AE → Nat → Nat → Option ev_R) : Option ev_R :=
  (ev_ll st).bind fun q => K (pc + 1) L (.long (q.2.1 - q.1) :: q.2.2) hp k ks
def eo_lmul (M : MT) (cf : Nat → List Value → List AE → Option ev_R) (mi pc x y : Nat) (L : List (Nat × Value)) (st : List Value) (hp : List AE) (k ks : Nat) (K : Nat → List (Nat × Value) → List Value → List AE → Nat → Nat → Option ev_R) : Option ev_R :=
  (ev_ll st).bind fun q => K (pc + 1) L (.long (q.2.1 * q.1) :: q.2.2) hp k ks
def eo_land (M : MT) (cf : Nat → List Value → List AE → Option ev_R) (mi pc x y : Nat) (L : List (Nat × Value)) (st : List Value) (hp : List AE) (k ks : Nat) (K : Nat → List (Nat × Value) → List Value → List AE → Nat → Nat → Option ev_R) : Option ev_R :=
  (ev_ll st).bind fun q => K (pc + 1) L (.long (q.2.1 &&& q.1) :: q.2.2) hp k ks
def eo_lor (M : MT) (cf : Nat → List Value → List AE → Option ev_R) (mi pc x y : Nat) (L : List (Nat × Value)) (st : List Value) (hp : List AE) (k ks : Nat) (K : Nat → List (Nat × Value) → List Value → List AE → Nat → Nat → Option ev_R) : Option ev_R :=
  (ev_ll st).bind fun q => K (pc + 1) L (.long (q.2.1 ||| q.1) :: q.2.2) hp k ks
def eo_ldiv (M : MT) (cf : Nat → List Value → List AE → Option ev_R) (mi pc x y : Nat) (L : List (Nat × Value)) (st : List Value) (hp : List AE) (k ks : Nat) (K : Nat → List (Nat × Value) → List Value → List AE → Nat → Nat → Option ev_R) : Option ev_R :=
  (ev_ll st).bind fun q => if q.1 = 0 then none else K (pc + 1) L (.long (q.2.1 / q.1) :: q.2.2) hp k ks
def eo_lrem (M : MT) (cf : Nat → List Value → List AE → Option ev_R) (mi pc x y : Nat) (L : List (Nat × Value)) (st : List Value) (hp : List AE) (k ks : Nat) (K : Nat → List (Nat × Value) → List Value → List AE → Nat → Nat → Option ev_R) : Option ev_R :=
  (ev_ll st).bind fun q => if q.1 = 0 then none else K (pc + 1) L (.long (q.2.1 - q.2.1 / q.1 * q.1) :: q.2.2) hp k ks
def eo_lcmp (M : MT) (cf : Nat → List Value → List AE → Option ev_R) (mi pc x y : Nat) (L : List (Nat × Value)) (st : List Value) (hp : List AE) (k ks : Nat) (K : Nat → List (Nat × Value) → List Value → List AE → Nat → Nat → Option ev_R) : Option ev_R :=
  (ev_ll st).bind fun q => K (pc + 1) L (.int (lg_cmp q.2.1 q.1) :: q.2.2) hp k ks
def eo_lshl (M : MT) (cf : Nat → List Value → List AE → Option ev_R) (mi pc x y : Nat) (L : List (Nat × Value)) (st : List Value) (hp : List AE) (k ks : Nat) (K : Nat → List (Nat × Value) → List Value → List AE → Nat → Nat → Option ev_R) : Option ev_R :=
  (ev_il st).bind fun q => K (pc + 1) L (.long (q.2.1 <<< (q.1.toInt64 &&& 63)) :: q.2.2) hp k ks
def eo_lushr (M : MT) (cf : Nat → List Value → List AE → Option ev_R) (mi pc x y : Nat) (L : List (Nat × Value)) (st : List Value) (hp : List AE) (k ks : Nat) (K : Nat → List (Nat × Value) → List Value → List AE → Nat → Nat → Option ev_R) : Option ev_R :=
  (ev_il st).bind fun q => K (pc + 1) L (.long (q.2.1.toUInt64 >>> (q.1.toInt64.toUInt64 &&& Int64.toUInt64 63)).toInt64 :: q.2.2) hp k ks
def eo_dup (M : MT) (cf : Nat → List Value → List AE → Option ev_R) (mi pc x y : Nat) (L : List (Nat × Value)) (st : List Value) (hp : List AE) (k ks : Nat) (K : Nat → List (Nat × Value) → List Value → List AE → Nat → Nat → Option ev_R) : Option ev_R :=
  match st with
    | v :: r => if v.category = 1 then K (pc + 1) L (v :: v :: r) hp k ks else none
    | _ => none
def eo_dup2 (M : MT) (cf : Nat → List Value → List AE → Option ev_R) (mi pc x y : Nat) (L : List (Nat × Value)) (st : List Value) (hp : List AE) (k ks : Nat) (K : Nat → List (Nat × Value) → List Value → List AE → Nat → Nat → Option ev_R) : Option ev_R :=
  match st with
    | v :: w :: r => if v.category = 1 ∧ w.category = 1 then K (pc + 1) L (v :: w :: v :: w :: r) hp k ks else none
    | _ => none
def eo_pop (M : MT) (cf : Nat → List Value → List AE → Option ev_R) (mi pc x y : Nat) (L : List (Nat × Value)) (st : List Value) (hp : List AE) (k ks : Nat) (K : Nat → List (Nat × Value) → List Value → List AE → Nat → Nat → Option ev_R) : Option ev_R :=
  match st with
    | v :: r => if v.category = 1 then K (pc + 1) L r hp k ks else none
    | _ => none
def eo_goto (M : MT) (cf : Nat → List Value → List AE → Option ev_R) (mi pc x y : Nat) (L : List (Nat × Value)) (st : List Value) (hp : List AE) (k ks : Nat) (K : Nat → List (Nat × Value) → List Value → List AE → Nat → Nat → Option ev_R) : Option ev_R :=
  K x L st hp k ks
def eo_ifCond_eq (M : MT) (cf : Nat → List Value → List AE → Option ev_R) (mi pc x y : Nat) (L : List (Nat × Value)) (st : List Value) (hp : List AE) (k ks : Nat) (K : Nat → List (Nat × Value) → List Value → List AE → Nat → Nat → Option ev_R) : Option ev_R :=
  (ev_i st).bind fun q => K (if q.1 = 0 then x else pc + 3) L q.2 hp k ks
def eo_ifCond_ne (M : MT) (cf : Nat → List Value → List AE → Option ev_R) (mi pc x y : Nat) (L : List (Nat × Value)) (st : List Value) (hp : List AE) (k ks : Nat) (K : Nat → List (Nat × Value) → List Value → List AE → Nat → Nat → Option ev_R) : Option ev_R :=
  (ev_i st).bind fun q => K (if q.1 = 0 then pc + 3 else x) L q.2 hp k ks
def eo_ifCond_lt (M : MT) (cf : Nat → List Value → List AE → Option ev_R) (mi pc x y : Nat) (L : List (Nat × Value)) (st : List Value) (hp : List AE) (k ks : Nat) (K : Nat → List (Nat × Value) → List Value → List AE → Nat → Nat → Option ev_R) : Option ev_R :=
  (ev_i st).bind fun q => K (if q.1 < 0 then x else pc + 3) L q.2 hp k ks
def eo_ifCond_ge (M : MT) (cf : Nat → List Value → List AE → Option ev_R) (mi pc x y : Nat) (L : List (Nat × Value)) (st : List Value) (hp : List AE) (k ks : Nat) (K : Nat → List (Nat × Value) → List Value → List AE → Nat → Nat → Option ev_R) : Option ev_R :=
  (ev_i st).bind fun q => K (if 0 ≤ q.1 then x else pc + 3) L q.2 hp k ks
def eo_ifCond_gt (M : MT) (cf : Nat → List Value → List AE → Option ev_R) (mi pc x y : Nat) (L : List (Nat × Value)) (st : List Value) (hp : List AE) (k ks : Nat) (K : Nat → List (Nat × Value) → List Value → List AE → Nat → Nat → Option ev_R) : Option ev_R :=
  (ev_i st).bind fun q => K (if 0 < q.1 then x else pc + 3) L q.2 hp k ks
def eo_ifCond_le (M : MT) (cf : Nat → List Value → List AE → Option ev_R) (mi pc x y : Nat) (L : List (Nat × Value)) (st : List Value) (hp : List AE) (k ks : Nat) (K : Nat → List (Nat × Value) → List Value → List AE → Nat → Nat → Option ev_R) : Option ev_R :=
  (ev_i st).bind fun q => K (if q.1 ≤ 0 then x else pc + 3) L q.2 hp k ks
def eo_if_icmp_eq (M : MT) (cf : Nat → List Value → List AE → Option ev_R) (mi pc x y : Nat) (L : List (Nat × Value)) (st : List Value) (hp : List AE) (k ks : Nat) (K : Nat → List (Nat × Value) → List Value → List AE → Nat → Nat → Option ev_R) : Option ev_R :=
  (ev_ii st).bind fun q => K (if q.2.1 = q.1 then x else pc + 3) L q.2.2 hp k ks
def eo_if_icmp_ne (M : MT) (cf : Nat → List Value → List AE → Option ev_R) (mi pc x y : Nat) (L : List (Nat × Value)) (st : List Value) (hp : List AE) (k ks : Nat) (K : Nat → List (Nat × Value) → List Value → List AE → Nat → Nat → Option ev_R) : Option ev_R :=
  (ev_ii st).bind fun q => K (if q.2.1 = q.1 then pc + 3 else x) L q.2.2 hp k ks
def eo_if_icmp_lt (M : MT) (cf : Nat → List Value → List AE → Option ev_R) (mi pc x y : Nat) (L : List (Nat × Value)) (st : List Value) (hp : List AE) (k ks : Nat) (K : Nat → List (Nat × Value) → List Value → List AE → Nat → Nat → Option ev_R) : Option ev_R :=
  (ev_ii st).bind fun q => K (if q.2.1 < q.1 then x else pc + 3) L q.2.2 hp k ks
def eo_if_icmp_ge (M : MT) (cf : Nat → List Value → List AE → Option ev_R) (mi pc x y : Nat) (L : List (Nat × Value)) (st : List Value) (hp : List AE) (k ks : Nat) (K : Nat → List (Nat × Value) → List Value → List AE → Nat → Nat → Option ev_R) : Option ev_R :=
  (ev_ii st).bind fun q => K (if q.1 ≤ q.2.1 then x else pc + 3) L q.2.2 hp k ks
def eo_if_icmp_gt (M : MT) (cf : Nat → List Value → List AE → Option ev_R) (mi pc x y : Nat) (L : List (Nat × Value)) (st : List Value) (hp : List AE) (k ks : Nat) (K : Nat → List (Nat × Value) → List Value → List AE → Nat → Nat → Option ev_R) : Option ev_R :=
  (ev_ii st).bind fun q => K (if q.1 < q.2.1 then x else pc + 3) L q.2.2 hp k ks
def eo_if_icmp_le (M : MT) (cf : Nat → List Value → List AE → Option ev_R) (mi pc x y : Nat) (L : List (Nat × Value)) (st : List Value) (hp : List AE) (k ks : Nat) (K : Nat → List (Nat × Value) → List Value → List AE → Nat → Nat → Option ev_R) : Option ev_R :=
  (ev_ii st).bind fun q => K (if q.2.1 ≤ q.1 then x else pc + 3) L q.2.2 hp k ks
def eo_if_acmp_eq (M : MT) (cf : Nat → List Value → List AE → Option ev_R) (mi pc x y : Nat) (L : List (Nat × Value)) (st : List Value) (hp : List AE) (k ks : Nat) (K : Nat → List (Nat × Value) → List Value → List AE → Nat → Nat → Option ev_R) : Option ev_R :=
  match st with
    | .retAddr v :: .retAddr w :: r => if v < 32 ∧ w < 32 then K (if w = v then x else pc + 3) L r hp k ks else none
    | _ => none
def eo_if_acmp_ne (M : MT) (cf : Nat → List Value → List AE → Option ev_R) (mi pc x y : Nat) (L : List (Nat × Value)) (st : List Value) (hp : List AE) (k ks : Nat) (K : Nat → List (Nat × Value) → List Value → List AE → Nat → Nat → Option ev_R) : Option ev_R :=
  match st with
    | .retAddr v :: .retAddr w :: r => if v < 32 ∧ w < 32 then K (if w = v then pc + 3 else x) L r hp k ks else none
    | _ => none
def eo_tableswitch (dflt : Int) (lo : Int) (hi : Int) (offs : Array Int) (M : MT) (cf : Nat → List Value → List AE → Option ev_R) (mi pc x y : Nat) (L : List (Nat × Value)) (st : List Value) (hp : List AE) (k ks : Nat) (K : Nat → List (Nat × Value) → List Value → List AE → Nat → Nat → Option ev_R) : Option ev_R :=
  (ev_i st).bind fun q =>
        if q.1.toInt < lo ∨ hi < q.1.toInt then (ev_tg pc dflt).bind fun t => K t L q.2 hp k ks
        else (offs[(q.1.toInt - lo).toNat]?).bind fun off => (ev_tg pc off).bind fun t => K t L q.2 hp k ks
def eo_lookupswitch (dflt : Int) (ps : Array (Int × Int)) (M : MT) (cf : Nat → List Value → List AE → Option ev_R) (mi pc x y : Nat) (L : List (Nat × Value)) (st : List Value) (hp : List AE) (k ks : Nat) (K : Nat → List (Nat × Value) → List Value → List AE → Nat → Nat → Option ev_R) : Option ev_R :=
  (ev_i st).bind fun q => (ev_tg pc (Op.lookupswitch.offset ps.toList dflt q.1.toInt)).bind fun t => K t L q.2 hp k ks
def eo_getfield (M : MT) (cf : Nat → List Value → List AE → Option ev_R) (mi pc x y : Nat) (L : List (Nat × Value)) (st : List Value) (hp : List AE) (k ks : Nat) (K : Nat → List (Nat × Value) → List Value → List AE → Nat → Nat → Option ev_R) : Option ev_R :=
  match st with
    | .retAddr v :: r => if x = 200 ∧ v < 32 then K (pc + 3) L (.long (ev_lt.getD v 0) :: r) hp k ks else none
    | _ => (ev_a st).bind fun q => (ev_gf hp q.1 x y).bind fun v => K (pc + 3) L (v :: q.2) hp k ks
def eo_putfield (M : MT) (cf : Nat → List Value → List AE → Option ev_R) (mi pc x y : Nat) (L : List (Nat × Value)) (st : List Value) (hp : List AE) (k ks : Nat) (K : Nat → List (Nat × Value) → List Value → List AE → Nat → Nat → Option ev_R) : Option ev_R :=
  (ev_va st).bind fun q => (ev_ob hp q.2.1 x).bind fun fs =>
        if ev_f (TY x y) q.1 = true ∧ y < fs.length ∧ (FN x y = true → (mY M mi).name = "<init>") then K (pc + 3) L q.2.2 (hp.set q.2.1 (.inr (x, fs.set y q.1))) k ks else none
def eo_getstatic (M : MT) (cf : Nat → List Value → List AE → Option ev_R) (mi pc x y : Nat) (L : List (Nat × Value)) (st : List Value) (hp : List AE) (k ks : Nat) (K : Nat → List (Nat × Value) → List Value → List AE → Nat → Nat → Option ev_R) : Option ev_R :=
  K (pc + 3) L (.retAddr x :: st) hp k ks
def eo_arraylength (M : MT) (cf : Nat → List Value → List AE → Option ev_R) (mi pc x y : Nat) (L : List (Nat × Value)) (st : List Value) (hp : List AE) (k ks : Nat) (K : Nat → List (Nat × Value) → List Value → List AE → Nat → Nat → Option ev_R) : Option ev_R :=
  match st with
    | .retAddr v :: r => if v = 101 then K (pc + 1) L (.int 32 :: r) hp k ks else none
    | _ => (ev_a st).bind fun q => (ev_an hp q.1).bind fun z => if z.1 < 7 then K (pc + 1) L (.int (Int32.ofNat z.2) :: q.2) hp k ks else none
def eo_iaload (M : MT) (cf : Nat → List Value → List AE → Option ev_R) (mi pc x y : Nat) (L : List (Nat × Value)) (st : List Value) (hp : List AE) (k ks : Nat) (K : Nat → List (Nat × Value) → List Value → List AE → Nat → Nat → Option ev_R) : Option ev_R :=
  match st with
    | .int i :: .retAddr z :: r => if z = 100 then (ev_rd ev_sw i).bind fun v => K (pc + 1) L (.int v :: r) hp k ks else none
    | _ => ev_ld hp st (fun v r => K (pc + 1) L (v :: r) hp k ks)
def eo_baload (M : MT) (cf : Nat → List Value → List AE → Option ev_R) (mi pc x y : Nat) (L : List (Nat × Value)) (st : List Value) (hp : List AE) (k ks : Nat) (K : Nat → List (Nat × Value) → List Value → List AE → Nat → Nat → Option ev_R) : Option ev_R :=
  (ev_ia st).bind fun q => (ev_ai hp q.2.1).bind fun z => if z.1 = 0 ∨ z.1 = 3 then (ev_rd z.2 q.1).bind fun v => K (pc + 1) L (.int v :: q.2.2) hp k ks else none
def eo_laload (M : MT) (cf : Nat → List Value → List AE → Option ev_R) (mi pc x y : Nat) (L : List (Nat × Value)) (st : List Value) (hp : List AE) (k ks : Nat) (K : Nat → List (Nat × Value) → List Value → List AE → Nat → Nat → Option ev_R) : Option ev_R :=
  (ev_ia st).bind fun q => (ev_al hp q.2.1).bind fun z => if z.1 = 2 then (ev_rd z.2 q.1).bind fun v => K (pc + 1) L (.long v :: q.2.2) hp k ks else none
def eo_aaload (M : MT) (cf : Nat → List Value → List AE → Option ev_R) (mi pc x y : Nat) (L : List (Nat × Value)) (st : List Value) (hp : List AE) (k ks : Nat) (K : Nat → List (Nat × Value) → List Value → List AE → Nat → Nat → Option ev_R) : Option ev_R :=
  match st with
    | .int i :: .retAddr v :: r => if v = 101 then (ev_ix i 32).bind fun n => K (pc + 1) L (.retAddr n :: r) hp k ks else none
    | _ => (ev_ia st).bind fun q => (ev_ar hp q.2.1).bind fun z => if 4 ≤ z.1 ∧ z.1 < 7 then (ev_rd z.2 q.1).bind fun v => K (pc + 1) L (ev_ro z.1 v :: q.2.2) hp k ks else none
def eo_iastore (M : MT) (cf : Nat → List Value → List AE → Option ev_R) (mi pc x y : Nat) (L : List (Nat × Value)) (st : List Value) (hp : List AE) (k ks : Nat) (K : Nat → List (Nat × Value) → List Value → List AE → Nat → Nat → Option ev_R) : Option ev_R :=
  (ev_iia st).bind fun q => (ev_ai hp q.2.2.1).bind fun z => if z.1 = 1 then (ev_rd z.2 q.2.1).bind fun _ => K (pc + 1) L q.2.2.2 (hp.set q.2.2.1 (.inl (1, .inl (z.2.set q.2.1.toNatClampNeg q.1)))) k ks else none
def eo_bastore (M : MT) (cf : Nat → List Value → List AE → Option ev_R) (mi pc x y : Nat) (L : List (Nat × Value)) (st : List Value) (hp : List AE) (k ks : Nat) (K : Nat → List (Nat × Value) → List Value → List AE → Nat → Nat → Option ev_R) : Option ev_R :=
  (ev_iia st).bind fun q => (ev_ai hp q.2.2.1).bind fun z => (ev_rd z.2 q.2.1).bind fun _ =>
        if z.1 = 0 then K (pc + 1) L q.2.2.2 (hp.set q.2.2.1 (.inl (0, .inl (z.2.set q.2.1.toNatClampNeg q.1.toInt8.toInt32)))) k ks
        else if z.1 = 3 ∧ (q.1 = 0 ∨ q.1 = 1) then K (pc + 1) L q.2.2.2 (hp.set q.2.2.1 (.inl (3, .inl (z.2.set q.2.1.toNatClampNeg q.1)))) k ks else none
def eo_lastore (M : MT) (cf : Nat → List Value → List AE → Option ev_R) (mi pc x y : Nat) (L : List (Nat × Value)) (st : List Value) (hp : List AE) (k ks : Nat) (K : Nat → List (Nat × Value) → List Value → List AE → Nat → Nat → Option ev_R) : Option ev_R :=
  (ev_lia st).bind fun q => (ev_al hp q.2.2.1).bind fun z => if z.1 = 2 then (ev_rd z.2 q.2.1).bind fun _ => K (pc + 1) L q.2.2.2 (hp.set q.2.2.1 (.inl (2, .inr (.inl (z.2.set q.2.1.toNatClampNeg q.1))))) k ks else none
def eo_aastore (M : MT) (cf : Nat → List Value → List AE → Option ev_R) (mi pc x y : Nat) (L : List (Nat × Value)) (st : List Value) (hp : List AE) (k ks : Nat) (K : Nat → List (Nat × Value) → List Value → List AE → Nat → Nat → Option ev_R) : Option ev_R :=
  match st with
    | .retAddr v :: .int i :: .ref a :: r => (ev_ar hp a).bind fun z => if z.1 = 4 ∧ v < 32 then (ev_rd z.2 i).bind fun _ => K (pc + 1) L r (hp.set a (.inl (4, .inr (.inr (z.2.set i.toNatClampNeg (some v)))))) k ks else none
    | _ => ev_sr hp st x y (fun r h1 => K (pc + 1) L r h1 k ks)
def eo_new (M : MT) (cf : Nat → List Value → List AE → Option ev_R) (mi pc x y : Nat) (L : List (Nat × Value)) (st : List Value) (hp : List AE) (k ks : Nat) (K : Nat → List (Nat × Value) → List Value → List AE → Nat → Nat → Option ev_R) : Option ev_R :=
  if k + 1 ≤ mC M mi ∧ ks + NN x ≤ mS M mi ∧ x < 12 then K (pc + 3) L (.ref hp.length :: st) (hp ++ [.inr (x, ev_new x)]) (k + 1) (ks + NN x) else none
def eo_newarray (a : ArrayType) (M : MT) (cf : Nat → List Value → List AE → Option ev_R) (mi pc x y : Nat) (L : List (Nat × Value)) (st : List Value) (hp : List AE) (k ks : Nat) (K : Nat → List (Nat × Value) → List Value → List AE → Nat → Nat → Option ev_R) : Option ev_R :=
  (ev_i st).bind fun q => (ev_nt a).bind fun t => (ev_ix q.1 65536).bind fun n => if k + 1 ≤ mC M mi ∧ ks + n ≤ mS M mi then K (pc + 2) L (.ref hp.length :: q.2) (hp ++ [ev_na t.1 n]) (k + 1) (ks + n) else none
def eo_anewarray (M : MT) (cf : Nat → List Value → List AE → Option ev_R) (mi pc x y : Nat) (L : List (Nat × Value)) (st : List Value) (hp : List AE) (k ks : Nat) (K : Nat → List (Nat × Value) → List Value → List AE → Nat → Nat → Option ev_R) : Option ev_R :=
  (ev_i st).bind fun q => (ev_ix q.1 65536).bind fun n => if k + 1 ≤ mC M mi ∧ ks + n ≤ mS M mi then K (pc + 3) L (.ref hp.length :: q.2) (hp ++ [.inl (x, .inr (.inr (List.replicate n none)))]) (k + 1) (ks + n) else none
def eo_invokevirtual (M : MT) (cf : Nat → List Value → List AE → Option ev_R) (mi pc x y : Nat) (L : List (Nat × Value)) (st : List Value) (hp : List AE) (k ks : Nat) (K : Nat → List (Nat × Value) → List Value → List AE → Nat → Nat → Option ev_R) : Option ev_R :=
  if x < 900 then ev_iv M cf mi x y st hp k ks (K (pc + 3) L)
  else match st with
    | .retAddr v :: r => if x = 900 ∧ v < 32 ∧ k ≤ mC M mi ∧ ks ≤ mS M mi then (if (r.map fun v => v.category).sum ≤ 8 then K (pc + 3) L (.int (Int32.ofNat v) :: r) hp k ks else none)
        else if x = 905 ∧ 300 ≤ v ∧ v < 304 ∧ k ≤ mC M mi ∧ ks ≤ mS M mi then (if (r.map fun v => v.category).sum ≤ 8 then K (pc + 3) L (.int (Int32.ofNat (ev_tx v).length) :: r) hp k ks else none) else none
    | .int i :: .retAddr v :: r => if x = 906 ∧ 300 ≤ v ∧ v < 304 ∧ k ≤ mC M mi ∧ ks ≤ mS M mi then (if (r.map fun v => v.category).sum ≤ 8 then (ev_rd (ev_tx v) i).bind fun c => K (pc + 3) L (.int c :: r) hp k ks else none) else none
    | _ => none
def eo_invokespecial (M : MT) (cf : Nat → List Value → List AE → Option ev_R) (mi pc x y : Nat) (L : List (Nat × Value)) (st : List Value) (hp : List AE) (k ks : Nat) (K : Nat → List (Nat × Value) → List Value → List AE → Nat → Nat → Option ev_R) : Option ev_R :=
  if x = 999 then (ev_a st).bind fun q => (if (q.2.map fun v => v.category).sum ≤ 8 then K (pc + 3) L q.2 hp k ks else none)
        else if x < 900 then (ev_pop y st).bind fun q => (ev_a q.2).bind fun z => ev_cf M cf mi x (.ref z.1 :: q.1) z.2 hp k ks (K (pc + 3) L) else none
def eo_invokestatic (M : MT) (cf : Nat → List Value → List AE → Option ev_R) (mi pc x y : Nat) (L : List (Nat × Value)) (st : List Value) (hp : List AE) (k ks : Nat) (K : Nat → List (Nat × Value) → List Value → List AE → Nat → Nat → Option ev_R) : Option ev_R :=
  if x < 900 then (ev_pop y st).bind fun q => ev_cf M cf mi x q.1 q.2 hp k ks (K (pc + 3) L)
        else if x = 901 then (ev_ii st).bind fun q => (if (q.2.2.map fun v => v.category).sum ≤ 8 ∧ k ≤ mC M mi ∧ ks ≤ mS M mi then K (pc + 3) L (.int (if q.1 < q.2.1 then q.1 else q.2.1) :: q.2.2) hp k ks else none)
        else if x = 902 then (ev_ii st).bind fun q => (if (q.2.2.map fun v => v.category).sum ≤ 8 ∧ k ≤ mC M mi ∧ ks ≤ mS M mi then K (pc + 3) L (.int (if q.2.1 < q.1 then q.1 else q.2.1) :: q.2.2) hp k ks else none)
        else if x = 904 then (ev_c5 st).bind fun q => (if (q.2.2.2.2.2.map fun v => v.category).sum ≤ 8 then (ev_cy hp q.1 q.2.1 q.2.2.1 q.2.2.2.1 q.2.2.2.2.1).bind fun h1 => K (pc + 3) L q.2.2.2.2.2 h1 k ks else none)
        else none
def eo_ireturn (M : MT) (cf : Nat → List Value → List AE → Option ev_R) (mi pc x y : Nat) (L : List (Nat × Value)) (st : List Value) (hp : List AE) (k ks : Nat) (K : Nat → List (Nat × Value) → List Value → List AE → Nat → Nat → Option ev_R) : Option ev_R :=
  (ev_i st).bind fun q => if ev_rt (mR M mi) q.1 = true then ev_end M mi (some (.int q.1)) q.2 hp k ks else none
def eo_lreturn (M : MT) (cf : Nat → List Value → List AE → Option ev_R) (mi pc x y : Nat) (L : List (Nat × Value)) (st : List Value) (hp : List AE) (k ks : Nat) (K : Nat → List (Nat × Value) → List Value → List AE → Nat → Nat → Option ev_R) : Option ev_R :=
  (ev_l st).bind fun q => if mR M mi = some .long then ev_end M mi (some (.long q.1)) q.2 hp k ks else none
def eo_areturn (M : MT) (cf : Nat → List Value → List AE → Option ev_R) (mi pc x y : Nat) (L : List (Nat × Value)) (st : List Value) (hp : List AE) (k ks : Nat) (K : Nat → List (Nat × Value) → List Value → List AE → Nat → Nat → Option ev_R) : Option ev_R :=
  match st with
    | .retAddr v :: r => if mR M mi = some (.object "LeftAnswers$Word") then ev_end M mi (some (.retAddr v)) r hp k ks else none
    | _ => none
def eo_return (M : MT) (cf : Nat → List Value → List AE → Option ev_R) (mi pc x y : Nat) (L : List (Nat × Value)) (st : List Value) (hp : List AE) (k ks : Nat) (K : Nat → List (Nat × Value) → List Value → List AE → Nat → Nat → Option ev_R) : Option ev_R :=
  if mR M mi = none then ev_end M mi none st hp k ks else none
abbrev EOp : Type := MT → (Nat → List Value → List AE → Option ev_R) → Nat → Nat → Nat → Nat → List (Nat × Value) → List Value → List AE → Nat → Nat → (Nat → List (Nat × Value) → List Value → List AE → Nat → Nat → Option ev_R) → Option ev_R
def eo_none : EOp := fun _ _ _ _ _ _ _ _ _ _ _ _ => none
def ev_op (i : Instr) : EOp :=
  match i with
  | .iconst n => eo_iconst n
  | .bipush n => eo_bipush n
  | .sipush n => eo_sipush n
  | .lconst n => eo_lconst n
  | .ldc _ => eo_ldc
  | .ldc_w _ => eo_ldc_w
  | .ldc2_w _ => eo_ldc2_w
  | .iload_n n => eo_iload_n n
  | .iload n => eo_iload n
  | .lload_n n => eo_lload_n n
  | .lload n => eo_lload n
  | .aload_n n => eo_aload_n n
  | .aload n => eo_aload n
  | .istore_n n => eo_istore_n n
  | .istore n => eo_istore n
  | .lstore_n n => eo_lstore_n n
  | .lstore n => eo_lstore n
  | .astore_n n => eo_astore_n n
  | .astore n => eo_astore n
  | .iinc n d => eo_iinc n d
  | .iadd => eo_iadd
  | .isub => eo_isub
  | .imul => eo_imul
  | .iand => eo_iand
  | .ior => eo_ior
  | .ixor => eo_ixor
  | .idiv => eo_idiv
  | .irem => eo_irem
  | .ishl => eo_ishl
  | .ishr => eo_ishr
  | .iushr => eo_iushr
  | .ineg => eo_ineg
  | .i2l => eo_i2l
  | .i2b => eo_i2b
  | .i2c => eo_i2c
  | .l2i => eo_l2i
  | .ladd => eo_ladd
  | .lsub => eo_lsub
  | .lmul => eo_lmul
  | .land => eo_land
  | .lor => eo_lor
  | .ldiv => eo_ldiv
  | .lrem => eo_lrem
  | .lcmp => eo_lcmp
  | .lshl => eo_lshl
  | .lushr => eo_lushr
  | .dup => eo_dup
  | .dup2 => eo_dup2
  | .pop => eo_pop
  | .goto _ => eo_goto
  | .tableswitch dflt lo hi offs => eo_tableswitch dflt lo hi offs
  | .lookupswitch dflt ps => eo_lookupswitch dflt ps
  | .getfield _ => eo_getfield
  | .putfield _ => eo_putfield
  | .getstatic _ => eo_getstatic
  | .arraylength => eo_arraylength
  | .iaload => eo_iaload
  | .baload => eo_baload
  | .laload => eo_laload
  | .aaload => eo_aaload
  | .iastore => eo_iastore
  | .bastore => eo_bastore
  | .lastore => eo_lastore
  | .aastore => eo_aastore
  | .new _ => eo_new
  | .newarray a => eo_newarray a
  | .anewarray _ => eo_anewarray
  | .invokevirtual _ => eo_invokevirtual
  | .invokespecial _ => eo_invokespecial
  | .invokestatic _ => eo_invokestatic
  | .ireturn => eo_ireturn
  | .lreturn => eo_lreturn
  | .areturn => eo_areturn
  | .return_ => eo_return
  | .ifCond c _ => match c with
    | .eq => eo_ifCond_eq
    | .ne => eo_ifCond_ne
    | .lt => eo_ifCond_lt
    | .ge => eo_ifCond_ge
    | .gt => eo_ifCond_gt
    | .le => eo_ifCond_le
  | .if_icmp c _ => match c with
    | .eq => eo_if_icmp_eq
    | .ne => eo_if_icmp_ne
    | .lt => eo_if_icmp_lt
    | .ge => eo_if_icmp_ge
    | .gt => eo_if_icmp_gt
    | .le => eo_if_icmp_le
  | .if_acmp c _ => match c with
    | .eq => eo_if_acmp_eq
    | .ne => eo_if_acmp_ne
  | _ => eo_none
/-- one instruction; K goes on -/
def ev_s (M : MT) (cf : Nat → List Value → List AE → Option ev_R) (mi pc : Nat) (i : Instr) (x y : Nat) (L : List (Nat × Value)) (st : List Value) (hp : List AE) (k ks : Nat) (K : Nat → List (Nat × Value) → List Value → List AE → Nat → Nat → Option ev_R) : Option ev_R :=
  ev_op i M cf mi pc x y L st hp k ks K
def ev_r (M : MT) (cf : Nat → List Value → List AE → Option ev_R) (mi : Nat) : Nat → Nat → List (Nat × Value) → List Value → List AE → Nat → Nat → Option ev_R
  | 0, _, _, _, _, _, _ => none
  | n + 1, pc, L, st, hp, k, ks => (mF M mi pc).bind fun q => ev_s M cf mi pc q.1 q.2.1 q.2.2 L st hp k ks (ev_r M cf mi n)
/-- the method mi, calls at most d deep -/
def evF (F : Nat) (M : MT) : Nat → Nat → List Value → List AE → Option ev_R
  | 0, _, _, _ => none
  | d + 1, mi, As, hp => if (lg_sl As).length ≤ mL M mi ∧ mL M mi ≤ 40 then ev_r M (evF F M d) mi F 0 (lv_args 0 As) [] hp 0 0 else none
abbrev ev (M : MT) : Nat → Nat → List Value → List AE → Option ev_R := evF 100000 M
