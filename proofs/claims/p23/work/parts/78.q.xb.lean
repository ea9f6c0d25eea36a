/-! ===== a DUCHY as both keep it ===== -/
def lng (l : List Int64) : AE := .inl (2, .inr (.inl l))
def ia (l : List Int32) : AE := .inl (1, .inl l)
def zb (l : List Int32) : AE := .inl (3, .inl l)
def nok (rs : List Nat) : Prop := vl rs = true ∧ 1 ≤ rs.length ∧ rs.length ≤ 7
def fd (L : List Int64) (w : Int64) (o : Nat) : Nat → Nat → Option Nat
  | 0, _ => none
  | r + 1, i => if L.getD (o + i) 0 = w then some i else fd L w o r (i + 1)
def fdI : Option Nat → Int32
  | none => (-1 : Int32)
  | some i => Int32.ofNat i
theorem fd_lt {L : List Int64} {w : Int64} {o : Nat} : ∀ {r i j : Nat}, fd L w o r i = some j → i ≤ j ∧ j < i + r
  | 0, i, j, h => by cases h
  | r + 1, i, j, h => by
    have h : (if L.getD (o + i) 0 = w then some i else fd L w o r (i + 1)) = some j := h
    by_cases c : L.getD (o + i) 0 = w
    · rw [if_pos c] at h
      cases h
      omega
    · rw [if_neg c] at h
      have := fd_lt h
      omega
theorem fd_eq {L L2 : List Int64} {w w2 : Int64} {o o2 : Nat} : ∀ {r i : Nat}, (∀ j, i ≤ j → j < i + r → (L.getD (o + j) 0 = w ↔ L2.getD (o2 + j) 0 = w2)) → fd L w o r i = fd L2 w2 o2 r i
  | 0, i, _ => rfl
  | r + 1, i, h => by
    show (if L.getD (o + i) 0 = w then some i else fd L w o r (i + 1)) = (if L2.getD (o2 + i) 0 = w2 then some i else fd L2 w2 o2 r (i + 1))
    have h0 := h i (Nat.le_refl _) (by omega)
    have ih := fd_eq (L := L) (L2 := L2) (w := w) (w2 := w2) (o := o) (o2 := o2) (r := r) (i := i + 1) (fun j a b => h j (by omega) (by omega))
    by_cases c : L.getD (o + i) 0 = w
    · rw [if_pos c, if_pos (h0.mp c)]
    · rw [if_neg c, if_neg (fun e => c (h0.mpr e)), ih]
theorem fdI_n {x : Option Nat} (h : x = none) : fdI x = (-1 : Int32) := by rw [h]; rfl
theorem fdI_s {x : Option Nat} {j : Nat} (h : x = some j) (hj : j < 100) : ¬ fdI x = (-1 : Int32) := by
  rw [h]
  intro e
  have e : Int32.ofNat j = (-1 : Int32) := e
  have e := congrArg Int32.toInt e
  rw [n_int (by omega)] at e
  rw [show (-1 : Int32).toInt = -1 from rfl] at e
  omega
theorem gDx {L : List Int64} {i : Nat} {v : Int64} (h : L[i]? = some v) : L.getD i 0 = v := by
  rw [List.getD_eq_getElem?_getD, h]; rfl
theorem gDy {L : List Int64} {i : Nat} (h : i < L.length) : L[i]? = some (L.getD i 0) := by
  rw [List.getD_eq_getElem?_getD, List.getElem?_eq_getElem h]; rfl
/-- the same NAMES are found -/
theorem nm_eq {pn rn : List Int64} {o P : Nat} {rs : List Nat} (hr : nok rs) (h : ∀ i, i < P → ∃ ss, nok ss ∧ pn[i]? = some (p5 ss) ∧ rn[o + i]? = some (p27 ss)) : fd pn (p5 rs) 0 P 0 = fd rn (p27 rs) o P 0 := by
  refine fd_eq (fun j _ hj => ?_)
  obtain ⟨ss, s1, s2, s3⟩ := h j (by omega)
  rw [Nat.zero_add, gDx s2, gDx s3]
  constructor
  · intro e; rw [p5_inj s1.1 hr.1 s1.2.2 hr.2.2 e]
  · intro e; rw [p27_inj s1.1 hr.1 s1.2.2 hr.2.2 e]
def OC (lw : Int32) (d : Nat) (r : Option Int32) (o : Option Int32) : Prop := (lw = Int32.ofNat 0 ∧ r = some (Int32.ofNat d) ∧ o = some (Int32.ofNat 0)) ∨ ∃ v : Nat, 1 ≤ v ∧ v ≤ 30 ∧ lw = Int32.ofNat v ∧ r = some (Int32.ofNat v) ∧ o = some (Int32.ofNat 1)
def WA (P : Nat) (wa rd : List Int32) : Prop := ∃ X Y : Nat → Nat, (∀ q, q < 7 → wa[q]? = some (Int32.ofNat (X q)) ∧ X q < 128 ∧ rd[45 + q]? = some (Int32.ofNat (Y q)) ∧ Y q < 2 ^ P) ∧ ∀ p q, p < 7 → q < 7 → (X q).testBit p = (Y p).testBit q
def DL (pn : List Int64) (ri lf wa fo : List Int32) (dn : List Int64) (ha pa bl : List Int32) : Prop := pn.length = 7 ∧ ri.length = 7 ∧ lf.length = 7 ∧ wa.length = 7 ∧ fo.length = 49 ∧ dn.length = 8 ∧ ha.length = 8 ∧ pa.length = 8 ∧ bl.length = 8
def NR (P Dn : Nat) (pn dn rn : List Int64) : Prop := (∀ i, i < P → ∃ ss, nok ss ∧ pn[i]? = some (p5 ss) ∧ rn[0 + i]? = some (p27 ss)) ∧ ∀ i, i < Dn → ∃ ss, nok ss ∧ dn[i]? = some (p5 ss) ∧ rn[7 + i]? = some (p27 ss)
def VR (P Dn gl bo : Nat) (ri lf fo ha pa bl rd : List Int32) : Prop := rd[0]? = some (Int32.ofNat P) ∧ rd[1]? = some (Int32.ofNat Dn) ∧ rd[19]? = some (Int32.ofNat gl) ∧ gl < 128 ∧ rd[44]? = some (Int32.ofNat bo) ∧ bo < 256 ∧ (∀ i, i < P → ri[i]? = rd[5 + i]? ∧ lf[i]? = rd[12 + i]?) ∧ (∀ i, i < Dn → ha[i]? = rd[20 + i]? ∧ pa[i]? = rd[28 + i]? ∧ bl[i]? = rd[36 + i]?) ∧ ∀ i, i < 49 → fo[i]? = rd[52 + i]?
/-- what is read so far -/
def DR (P Dn : Nat) (lw cl id : Int32) (gl bo : Nat) (pn : List Int64) (ri lf wa fo : List Int32) (dn : List Int64) (ha pa bl : List Int32) (rd : List Int32) (rn : List Int64) (on : List Int32) : Prop :=
  P ≤ 7 ∧ Dn ≤ 8 ∧ DL pn ri lf wa fo dn ha pa bl ∧ rd.length = 101 ∧ rn.length = 15 ∧ on.length = 3 ∧ NR P Dn pn dn rn ∧ VR P Dn gl bo ri lf fo ha pa bl rd ∧ WA P wa rd ∧ OC lw 10 rd[2]? on[0]? ∧ OC cl 3 rd[3]? on[1]? ∧ OC id 5 rd[4]? on[2]?
theorem wa_up {P : Nat} {wa rd : List Int32} (h : WA P wa rd) : WA (P + 1) wa rd := by
  obtain ⟨X, Y, h1, h2⟩ := h
  exact ⟨X, Y, fun q hq => ⟨(h1 q hq).1, (h1 q hq).2.1, (h1 q hq).2.2.1, Nat.lt_of_lt_of_le (h1 q hq).2.2.2 (Nat.pow_le_pow_right (by decide) (Nat.le_succ P))⟩, h2⟩
theorem p7_lt {P y : Nat} (h : y < 2 ^ P) (hP : P ≤ 7) : y < 128 := Nat.lt_of_lt_of_le h (Nat.pow_le_pow_right (by decide) hP)
theorem wa_set {P : Nat} {wa rd : List Int32} {j : Nat} {v : Int32} (h : WA P wa rd) (hj : j < 45 ∨ 52 ≤ j) : WA P wa (rd.set j v) := by
  obtain ⟨X, Y, h1, h2⟩ := h
  refine ⟨X, Y, fun q hq => ?_, h2⟩
  obtain ⟨a1, a2, a3, a4⟩ := h1 q hq
  exact ⟨a1, a2, by rw [List.getElem?_set_ne (by omega)]; exact a3, a4⟩
theorem oc_set {lw : Int32} {d i j : Nat} {rd : List Int32} {v : Int32} {o : Option Int32} (h : OC lw d rd[i]? o) (hj : j ≠ i) : OC lw d (rd.set j v)[i]? o := by
  rw [List.getElem?_set_ne hj]; exact h
theorem oc_set2 {lw : Int32} {d i j i2 k : Nat} {rd on : List Int32} {v w : Int32} (h : OC lw d rd[i]? on[i2]?) (hj : j ≠ i) (hk : k ≠ i2) : OC lw d (rd.set j v)[i]? (on.set k w)[i2]? := by
  rw [List.getElem?_set_ne hj, List.getElem?_set_ne hk]; exact h
/-- bits -/
theorem or_1 : ∀ k, k < 8 → ∀ x, x < 256 → Int32.ofNat x ||| (Int32.ofNat 1 <<< (Int32.ofNat k &&& 31)) = Int32.ofNat (x ||| 2 ^ k) := by decide +kernel
theorem or_lt {x k m : Nat} (hx : x < 2 ^ m) (hk : k < m) : x ||| 2 ^ k < 2 ^ m := Nat.or_lt_two_pow hx (Nat.pow_lt_pow_right (by decide) hk)
theorem ushr_1 : ∀ k, k < 8 → ∀ x, x < 256 → ((Int32.ofNat x).toUInt32 >>> ((Int32.ofNat k).toUInt32 &&& Int32.toUInt32 31)).toInt32 &&& Int32.ofNat 1 = b01 (x.testBit k) := by decide +kernel
theorem shr_1 : ∀ k, k < 8 → ∀ x, x < 256 → (Int32.ofNat x >>> (Int32.ofNat k &&& 31)) &&& Int32.ofNat 1 = b01 (x.testBit k) := by decide +kernel
theorem b01_1 {b : Bool} (h : b = true) : b01 b = Int32.ofNat 1 := by rw [h]; rfl
theorem b01_0 {b : Bool} (h : b = false) : ¬ b01 b = Int32.ofNat 1 := by rw [h]; decide
theorem dv7 : ∀ p, p < 7 → ∀ q, q < 7 → Int32.ofNat (p * 7 + q) / Int32.ofNat 7 = Int32.ofNat p := by decide +kernel
theorem rm7 : ∀ p, p < 7 → ∀ q, q < 7 → Int32.ofNat (p * 7 + q) - Int32.ofNat (p * 7 + q) / Int32.ofNat 7 * Int32.ofNat 7 = Int32.ofNat q := by decide +kernel
theorem bit_or {x k i : Nat} : (x ||| 2 ^ k).testBit i = (x.testBit i || decide (k = i)) := by
  rw [Nat.testBit_or, Nat.testBit_two_pow]
/-- one more pair of 'sees' -/
theorem wa_sees {P : Nat} {wa rd : List Int32} (h : WA P wa rd) (hP : P ≤ 7) (hw : wa.length = 7) (hr : rd.length = 101) {p q : Nat} (hp0 : p < P) (hq0 : q < P) : ∃ x y : Nat, wa[q]? = some (Int32.ofNat x) ∧ rd[45 + p]? = some (Int32.ofNat y) ∧ x < 128 ∧ y < 128 ∧ x.testBit p = y.testBit q ∧ WA P (wa.set q (Int32.ofNat (x ||| 2 ^ p))) (rd.set (45 + p) (Int32.ofNat (y ||| 2 ^ q))) := by
  have hp : p < 7 := Nat.lt_of_lt_of_le hp0 hP
  have hq : q < 7 := Nat.lt_of_lt_of_le hq0 hP
  obtain ⟨X, Y, h1, h2⟩ := h
  refine ⟨X q, Y p, (h1 q hq).1, (h1 p hp).2.2.1, (h1 q hq).2.1, p7_lt (h1 p hp).2.2.2 hP, h2 p q hp hq, ?_⟩
  refine ⟨fun i => if i = q then X q ||| 2 ^ p else X i, fun i => if i = p then Y p ||| 2 ^ q else Y i, fun i hi => ?_, fun i j hi hj => ?_⟩
  · obtain ⟨a1, a2, a3, a4⟩ := h1 i hi
    refine ⟨?_, ?_, ?_, ?_⟩
    · by_cases c : i = q
      · subst c
        rw [List.getElem?_set_self (by omega)]
        show _ = some (Int32.ofNat (if i = i then _ else _))
        rw [if_pos rfl]
      · rw [List.getElem?_set_ne (fun e => c e.symm)]
        show _ = some (Int32.ofNat (if i = q then _ else X i))
        rw [if_neg c]; exact a1
    · show (if i = q then X q ||| 2 ^ p else X i) < 128
      by_cases c : i = q
      · rw [if_pos c]; exact or_lt (m := 7) (h1 q hq).2.1 hp
      · rw [if_neg c]; exact a2
    · by_cases c : i = p
      · subst c
        rw [List.getElem?_set_self (by omega)]
        show _ = some (Int32.ofNat (if i = i then _ else _))
        rw [if_pos rfl]
      · rw [List.getElem?_set_ne (by omega)]
        show _ = some (Int32.ofNat (if i = p then _ else Y i))
        rw [if_neg c]; exact a3
    · show (if i = p then Y p ||| 2 ^ q else Y i) < 2 ^ P
      by_cases c : i = p
      · rw [if_pos c]; exact or_lt (m := P) (h1 p hp).2.2.2 hq0
      · rw [if_neg c]; exact a4
  · show (if j = q then X q ||| 2 ^ p else X j).testBit i = (if i = p then Y p ||| 2 ^ q else Y i).testBit j
    by_cases c1 : j = q
    · subst c1
      by_cases c2 : i = p
      · subst c2
        rw [if_pos rfl, if_pos rfl, bit_or, bit_or, h2 i j hi hj]
        simp
      · rw [if_pos rfl, if_neg c2, bit_or, h2 i j hi hj, decide_eq_false (fun e => c2 e.symm), Bool.or_false]
    · by_cases c2 : i = p
      · subst c2
        rw [if_neg c1, if_pos rfl, bit_or, h2 i j hi hj, decide_eq_false (fun e => c1 e.symm), Bool.or_false]
      · rw [if_neg c1, if_neg c2]; exact h2 i j hi hj
section
variable {P Dn gl bo : Nat} {lw cl id : Int32} {pn : List Int64} {ri lf wa fo : List Int32} {dn : List Int64} {ha pa bl rd : List Int32} {rn : List Int64} {on : List Int32}
theorem nr_p {rs : List Nat} (hr : nok rs) (h : NR P Dn pn dn rn) (hP : P < 7) (l1 : pn.length = 7) (l2 : rn.length = 15) : NR (P + 1) Dn (pn.set P (p5 rs)) dn (rn.set P (p27 rs)) := by
  refine ⟨fun i hi => ?_, fun i hi => ?_⟩
  · by_cases c : i = P
    · subst c
      exact ⟨rs, hr, List.getElem?_set_self (by omega), by rw [Nat.zero_add]; exact List.getElem?_set_self (by omega)⟩
    · obtain ⟨ss, s1, s2, s3⟩ := h.1 i (by omega)
      exact ⟨ss, s1, by rw [List.getElem?_set_ne (by omega)]; exact s2, by rw [List.getElem?_set_ne (by omega)]; exact s3⟩
  · obtain ⟨ss, s1, s2, s3⟩ := h.2 i hi
    exact ⟨ss, s1, s2, by rw [List.getElem?_set_ne (by omega)]; exact s3⟩
theorem nr_d {rs : List Nat} (hr : nok rs) (h : NR P Dn pn dn rn) (hP : P ≤ 7) (hD : Dn < 8) (l1 : dn.length = 8) (l2 : rn.length = 15) : NR P (Dn + 1) pn (dn.set Dn (p5 rs)) (rn.set (7 + Dn) (p27 rs)) := by
  refine ⟨fun i hi => ?_, fun i hi => ?_⟩
  · obtain ⟨ss, s1, s2, s3⟩ := h.1 i hi
    exact ⟨ss, s1, s2, by rw [List.getElem?_set_ne (by omega)]; exact s3⟩
  · by_cases c : i = Dn
    · subst c
      exact ⟨rs, hr, List.getElem?_set_self (by omega), List.getElem?_set_self (by omega)⟩
    · obtain ⟨ss, s1, s2, s3⟩ := h.2 i (by omega)
      exact ⟨ss, s1, by rw [List.getElem?_set_ne (by omega)]; exact s2, by rw [List.getElem?_set_ne (by omega)]; exact s3⟩
/-- numbers of a PERSON -/
theorem vr_p {v1 v2 : Int32} (h : VR P Dn gl bo ri lf fo ha pa bl rd) (hP : P < 7) (hD : Dn ≤ 8) (l1 : ri.length = 7) (l2 : lf.length = 7) (l3 : rd.length = 101) : VR (P + 1) Dn gl bo (ri.set P v1) (lf.set P v2) fo ha pa bl (((rd.set (5 + P) v1).set (12 + P) v2).set 0 (Int32.ofNat (P + 1))) := by
  obtain ⟨h0, h1, h2, h3, h4, h5, h6, h7, h8⟩ := h
  have k : ∀ j, j ≠ 5 + P → j ≠ 12 + P → j ≠ 0 → (((rd.set (5 + P) v1).set (12 + P) v2).set 0 (Int32.ofNat (P + 1)))[j]? = rd[j]? := fun j e1 e2 e3 => by
    rw [List.getElem?_set_ne (fun e => e3 e.symm), List.getElem?_set_ne (fun e => e2 e.symm), List.getElem?_set_ne (fun e => e1 e.symm)]
  refine ⟨?_, ?_, ?_, h3, ?_, h5, fun i hi => ?_, fun i hi => ?_, fun i hi => ?_⟩
  · rw [List.getElem?_set_self (by rw [List.length_set, List.length_set]; omega)]
  · rw [k 1 (by omega) (by omega) (by omega)]; exact h1
  · rw [k 19 (by omega) (by omega) (by omega)]; exact h2
  · rw [k 44 (by omega) (by omega) (by omega)]; exact h4
  · by_cases c : i = P
    · subst c
      refine ⟨?_, ?_⟩
      · rw [List.getElem?_set_self (by omega), List.getElem?_set_ne (by omega), List.getElem?_set_ne (by omega), List.getElem?_set_self (by omega)]
      · rw [List.getElem?_set_self (by omega), List.getElem?_set_ne (by omega), List.getElem?_set_self (by rw [List.length_set]; omega)]
    · rw [k _ (by omega) (by omega) (by omega), k _ (by omega) (by omega) (by omega), List.getElem?_set_ne (fun e => c e.symm), List.getElem?_set_ne (fun e => c e.symm)]
      exact h6 i (by omega)
  · rw [k _ (by omega) (by omega) (by omega), k _ (by omega) (by omega) (by omega), k _ (by omega) (by omega) (by omega)]
    exact h7 i hi
  · rw [k _ (by omega) (by omega) (by omega)]; exact h8 i hi
/-- numbers of a DEED -/
theorem vr_d {v1 v2 v3 : Int32} (h : VR P Dn gl bo ri lf fo ha pa bl rd) (hP : P ≤ 7) (hD : Dn < 8) (l1 : ha.length = 8) (l2 : pa.length = 8) (l4 : bl.length = 8) (l3 : rd.length = 101) : VR P (Dn + 1) gl bo ri lf fo (ha.set Dn v1) (pa.set Dn v2) (bl.set Dn v3) ((((rd.set (20 + Dn) v1).set (28 + Dn) v2).set (36 + Dn) v3).set 1 (Int32.ofNat (Dn + 1))) := by
  obtain ⟨h0, h1, h2, h3, h4, h5, h6, h7, h8⟩ := h
  have k : ∀ j, j ≠ 20 + Dn → j ≠ 28 + Dn → j ≠ 36 + Dn → j ≠ 1 → ((((rd.set (20 + Dn) v1).set (28 + Dn) v2).set (36 + Dn) v3).set 1 (Int32.ofNat (Dn + 1)))[j]? = rd[j]? := fun j e1 e2 e3 e4 => by
    rw [List.getElem?_set_ne (fun e => e4 e.symm), List.getElem?_set_ne (fun e => e3 e.symm), List.getElem?_set_ne (fun e => e2 e.symm), List.getElem?_set_ne (fun e => e1 e.symm)]
  refine ⟨?_, ?_, ?_, h3, ?_, h5, fun i hi => ?_, fun i hi => ?_, fun i hi => ?_⟩
  · rw [k 0 (by omega) (by omega) (by omega) (by omega)]; exact h0
  · rw [List.getElem?_set_self (by rw [List.length_set, List.length_set, List.length_set]; omega)]
  · rw [k 19 (by omega) (by omega) (by omega) (by omega)]; exact h2
  · rw [k 44 (by omega) (by omega) (by omega) (by omega)]; exact h4
  · rw [k _ (by omega) (by omega) (by omega) (by omega), k _ (by omega) (by omega) (by omega) (by omega)]
    exact h6 i hi
  · by_cases c : i = Dn
    · subst c
      refine ⟨?_, ?_, ?_⟩
      · rw [List.getElem?_set_self (by omega), List.getElem?_set_ne (by omega), List.getElem?_set_ne (by omega), List.getElem?_set_ne (by omega), List.getElem?_set_self (by omega)]
      · rw [List.getElem?_set_self (by omega), List.getElem?_set_ne (by omega), List.getElem?_set_ne (by omega), List.getElem?_set_self (by rw [List.length_set]; omega)]
      · rw [List.getElem?_set_self (by omega), List.getElem?_set_ne (by omega), List.getElem?_set_self (by rw [List.length_set, List.length_set]; omega)]
    · rw [k _ (by omega) (by omega) (by omega) (by omega), k _ (by omega) (by omega) (by omega) (by omega), k _ (by omega) (by omega) (by omega) (by omega), List.getElem?_set_ne (fun e => c e.symm), List.getElem?_set_ne (fun e => c e.symm), List.getElem?_set_ne (fun e => c e.symm)]
      exact h7 i (by omega)
  · rw [k _ (by omega) (by omega) (by omega) (by omega)]; exact h8 i hi
/-- a flag of a PERSON, of a DEED -/
theorem vr_g {g2 : Nat} (h : VR P Dn gl bo ri lf fo ha pa bl rd) (hP : P ≤ 7) (hD : Dn ≤ 8) (hg : g2 < 128) (l3 : rd.length = 101) : VR P Dn g2 bo ri lf fo ha pa bl (rd.set 19 (Int32.ofNat g2)) := by
  obtain ⟨h0, h1, h2, h3, h4, h5, h6, h7, h8⟩ := h
  have k : ∀ j, j ≠ 19 → (rd.set 19 (Int32.ofNat g2))[j]? = rd[j]? := fun j e1 => List.getElem?_set_ne (fun e => e1 e.symm)
  refine ⟨by rw [k 0 (by omega)]; exact h0, by rw [k 1 (by omega)]; exact h1, List.getElem?_set_self (by omega), hg, by rw [k 44 (by omega)]; exact h4, h5, fun i hi => ?_, fun i hi => ?_, fun i hi => ?_⟩
  · rw [k _ (by omega), k _ (by omega)]; exact h6 i hi
  · rw [k _ (by omega), k _ (by omega), k _ (by omega)]; exact h7 i hi
  · rw [k _ (by omega)]; exact h8 i hi
theorem vr_b {g2 : Nat} (h : VR P Dn gl bo ri lf fo ha pa bl rd) (hP : P ≤ 7) (hD : Dn ≤ 8) (hg : g2 < 256) (l3 : rd.length = 101) : VR P Dn gl g2 ri lf fo ha pa bl (rd.set 44 (Int32.ofNat g2)) := by
  obtain ⟨h0, h1, h2, h3, h4, h5, h6, h7, h8⟩ := h
  have k : ∀ j, j ≠ 44 → (rd.set 44 (Int32.ofNat g2))[j]? = rd[j]? := fun j e1 => List.getElem?_set_ne (fun e => e1 e.symm)
  refine ⟨by rw [k 0 (by omega)]; exact h0, by rw [k 1 (by omega)]; exact h1, by rw [k 19 (by omega)]; exact h2, h3, List.getElem?_set_self (by omega), hg, fun i hi => ?_, fun i hi => ?_, fun i hi => ?_⟩
  · rw [k _ (by omega), k _ (by omega)]; exact h6 i hi
  · rw [k _ (by omega), k _ (by omega), k _ (by omega)]; exact h7 i hi
  · rw [k _ (by omega)]; exact h8 i hi
/-- what lies beside the numbers -/
theorem vr_o {j : Nat} {v : Int32} (h : VR P Dn gl bo ri lf fo ha pa bl rd) (hP : P ≤ 7) (hD : Dn ≤ 8) (hj : (2 ≤ j ∧ j ≤ 4) ∨ (45 ≤ j ∧ j < 52)) : VR P Dn gl bo ri lf fo ha pa bl (rd.set j v) := by
  obtain ⟨h0, h1, h2, h3, h4, h5, h6, h7, h8⟩ := h
  have k : ∀ i, i ≠ j → (rd.set j v)[i]? = rd[i]? := fun i e1 => List.getElem?_set_ne (fun e => e1 e.symm)
  refine ⟨by rw [k 0 (by omega)]; exact h0, by rw [k 1 (by omega)]; exact h1, by rw [k 19 (by omega)]; exact h2, h3, by rw [k 44 (by omega)]; exact h4, h5, fun i hi => ?_, fun i hi => ?_, fun i hi => ?_⟩
  · rw [k _ (by omega), k _ (by omega)]; exact h6 i hi
  · rw [k _ (by omega), k _ (by omega), k _ (by omega)]; exact h7 i hi
  · rw [k _ (by omega)]; exact h8 i hi
theorem vr_f {j : Nat} {v : Int32} (h : VR P Dn gl bo ri lf fo ha pa bl rd) (hP : P ≤ 7) (hD : Dn ≤ 8) (hj : j < 49) (l1 : fo.length = 49) (l3 : rd.length = 101) : VR P Dn gl bo ri lf (fo.set j v) ha pa bl (rd.set (52 + j) v) := by
  obtain ⟨h0, h1, h2, h3, h4, h5, h6, h7, h8⟩ := h
  have k : ∀ i, i ≠ 52 + j → (rd.set (52 + j) v)[i]? = rd[i]? := fun i e1 => List.getElem?_set_ne (fun e => e1 e.symm)
  refine ⟨by rw [k 0 (by omega)]; exact h0, by rw [k 1 (by omega)]; exact h1, by rw [k 19 (by omega)]; exact h2, h3, by rw [k 44 (by omega)]; exact h4, h5, fun i hi => ?_, fun i hi => ?_, fun i hi => ?_⟩
  · rw [k _ (by omega), k _ (by omega)]; exact h6 i hi
  · rw [k _ (by omega), k _ (by omega), k _ (by omega)]; exact h7 i hi
  · by_cases c : i = j
    · subst c
      rw [List.getElem?_set_self (by omega), List.getElem?_set_self (by omega)]
    · rw [k _ (by omega), List.getElem?_set_ne (fun e => c e.symm)]; exact h8 i hi
end
