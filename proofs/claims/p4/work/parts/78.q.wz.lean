/-! ===== rules that keep the stack in sight ===== -/
section
variable {dd mi pc x y : Nat} {L : List (Nat × Value)} {st : List Value} {hp : List AE} {q : ev_R}
theorem bcT_eq {off : Int} {a : Int32} (hf : mF MM mi pc = some (.ifCond .eq off, x, y)) (hP : a = 0) (h : RT MM dd mi (x) L st hp q) : RT MM dd mi pc L (.int a :: st) hp q := by sorry
theorem bcF_eq {off : Int} {a : Int32} (hf : mF MM mi pc = some (.ifCond .eq off, x, y)) (hP : ¬ (a = 0)) (h : RT MM dd mi (pc + 3) L st hp q) : RT MM dd mi pc L (.int a :: st) hp q := by sorry
theorem bcT_ne {off : Int} {a : Int32} (hf : mF MM mi pc = some (.ifCond .ne off, x, y)) (hP : a = 0) (h : RT MM dd mi (pc + 3) L st hp q) : RT MM dd mi pc L (.int a :: st) hp q := by sorry
theorem bcF_ne {off : Int} {a : Int32} (hf : mF MM mi pc = some (.ifCond .ne off, x, y)) (hP : ¬ (a = 0)) (h : RT MM dd mi (x) L st hp q) : RT MM dd mi pc L (.int a :: st) hp q := by sorry
theorem bcT_lt {off : Int} {a : Int32} (hf : mF MM mi pc = some (.ifCond .lt off, x, y)) (hP : a < 0) (h : RT MM dd mi (x) L st hp q) : RT MM dd mi pc L (.int a :: st) hp q := by sorry
theorem bcF_lt {off : Int} {a : Int32} (hf : mF MM mi pc = some (.ifCond .lt off, x, y)) (hP : ¬ (a < 0)) (h : RT MM dd mi (pc + 3) L st hp q) : RT MM dd mi pc L (.int a :: st) hp q := by sorry
theorem bcT_ge {off : Int} {a : Int32} (hf : mF MM mi pc = some (.ifCond .ge off, x, y)) (hP : 0 ≤ a) (h : RT MM dd mi (x) L st hp q) : RT MM dd mi pc L (.int a :: st) hp q := by sorry
theorem bcF_ge {off : Int} {a : Int32} (hf : mF MM mi pc = some (.ifCond .ge off, x, y)) (hP : ¬ (0 ≤ a)) (h : RT MM dd mi (pc + 3) L st hp q) : RT MM dd mi pc L (.int a :: st) hp q := by sorry
theorem bcT_gt {off : Int} {a : Int32} (hf : mF MM mi pc = some (.ifCond .gt off, x, y)) (hP : 0 < a) (h : RT MM dd mi (x) L st hp q) : RT MM dd mi pc L (.int a :: st) hp q := by sorry
theorem bcF_gt {off : Int} {a : Int32} (hf : mF MM mi pc = some (.ifCond .gt off, x, y)) (hP : ¬ (0 < a)) (h : RT MM dd mi (pc + 3) L st hp q) : RT MM dd mi pc L (.int a :: st) hp q := by sorry
theorem bcT_le {off : Int} {a : Int32} (hf : mF MM mi pc = some (.ifCond .le off, x, y)) (hP : a ≤ 0) (h : RT MM dd mi (x) L st hp q) : RT MM dd mi pc L (.int a :: st) hp q := by sorry
theorem bcF_le {off : Int} {a : Int32} (hf : mF MM mi pc = some (.ifCond .le off, x, y)) (hP : ¬ (a ≤ 0)) (h : RT MM dd mi (pc + 3) L st hp q) : RT MM dd mi pc L (.int a :: st) hp q := by sorry
theorem biT_eq {off : Int} {a b : Int32} (hf : mF MM mi pc = some (.if_icmp .eq off, x, y)) (hP : a = b) (h : RT MM dd mi (x) L st hp q) : RT MM dd mi pc L (.int b :: .int a :: st) hp q := by sorry
theorem biF_eq {off : Int} {a b : Int32} (hf : mF MM mi pc = some (.if_icmp .eq off, x, y)) (hP : ¬ (a = b)) (h : RT MM dd mi (pc + 3) L st hp q) : RT MM dd mi pc L (.int b :: .int a :: st) hp q := by sorry
theorem biT_ne {off : Int} {a b : Int32} (hf : mF MM mi pc = some (.if_icmp .ne off, x, y)) (hP : a = b) (h : RT MM dd mi (pc + 3) L st hp q) : RT MM dd mi pc L (.int b :: .int a :: st) hp q := by sorry
theorem biF_ne {off : Int} {a b : Int32} (hf : mF MM mi pc = some (.if_icmp .ne off, x, y)) (hP : ¬ (a = b)) (h : RT MM dd mi (x) L st hp q) : RT MM dd mi pc L (.int b :: .int a :: st) hp q := by sorry
theorem biT_lt {off : Int} {a b : Int32} (hf : mF MM mi pc = some (.if_icmp .lt off, x, y)) (hP : a < b) (h : RT MM dd mi (x) L st hp q) : RT MM dd mi pc L (.int b :: .int a :: st) hp q := by sorry
theorem biF_lt {off : Int} {a b : Int32} (hf : mF MM mi pc = some (.if_icmp .lt off, x, y)) (hP : ¬ (a < b)) (h : RT MM dd mi (pc + 3) L st hp q) : RT MM dd mi pc L (.int b :: .int a :: st) hp q := by sorry
theorem biT_ge {off : Int} {a b : Int32} (hf : mF MM mi pc = some (.if_icmp .ge off, x, y)) (hP : b ≤ a) (h : RT MM dd mi (x) L st hp q) : RT MM dd mi pc L (.int b :: .int a :: st) hp q := by sorry
theorem biF_ge {off : Int} {a b : Int32} (hf : mF MM mi pc = some (.if_icmp .ge off, x, y)) (hP : ¬ (b ≤ a)) (h : RT MM dd mi (pc + 3) L st hp q) : RT MM dd mi pc L (.int b :: .int a :: st) hp q := by sorry
theorem biT_gt {off : Int} {a b : Int32} (hf : mF MM mi pc = some (.if_icmp .gt off, x, y)) (hP : b < a) (h : RT MM dd mi (x) L st hp q) : RT MM dd mi pc L (.int b :: .int a :: st) hp q := by sorry
theorem biF_gt {off : Int} {a b : Int32} (hf : mF MM mi pc = some (.if_icmp .gt off, x, y)) (hP : ¬ (b < a)) (h : RT MM dd mi (pc + 3) L st hp q) : RT MM dd mi pc L (.int b :: .int a :: st) hp q := by sorry
theorem biT_le {off : Int} {a b : Int32} (hf : mF MM mi pc = some (.if_icmp .le off, x, y)) (hP : a ≤ b) (h : RT MM dd mi (x) L st hp q) : RT MM dd mi pc L (.int b :: .int a :: st) hp q := by sorry
theorem biF_le {off : Int} {a b : Int32} (hf : mF MM mi pc = some (.if_icmp .le off, x, y)) (hP : ¬ (a ≤ b)) (h : RT MM dd mi (pc + 3) L st hp q) : RT MM dd mi pc L (.int b :: .int a :: st) hp q := by sorry
theorem ba_iadd {a b : Int32} (hf : mF MM mi pc = some (.iadd, x, y)) (h : RT MM dd mi (pc + 1) L (.int (a + b) :: st) hp q) : RT MM dd mi pc L (.int b :: .int a :: st) hp q := by sorry
theorem ba_isub {a b : Int32} (hf : mF MM mi pc = some (.isub, x, y)) (h : RT MM dd mi (pc + 1) L (.int (a - b) :: st) hp q) : RT MM dd mi pc L (.int b :: .int a :: st) hp q := by sorry
theorem ba_imul {a b : Int32} (hf : mF MM mi pc = some (.imul, x, y)) (h : RT MM dd mi (pc + 1) L (.int (a * b) :: st) hp q) : RT MM dd mi pc L (.int b :: .int a :: st) hp q := by sorry
theorem ba_iand {a b : Int32} (hf : mF MM mi pc = some (.iand, x, y)) (h : RT MM dd mi (pc + 1) L (.int (a &&& b) :: st) hp q) : RT MM dd mi pc L (.int b :: .int a :: st) hp q := by sorry
theorem ba_ior {a b : Int32} (hf : mF MM mi pc = some (.ior, x, y)) (h : RT MM dd mi (pc + 1) L (.int (a ||| b) :: st) hp q) : RT MM dd mi pc L (.int b :: .int a :: st) hp q := by sorry
theorem ba_ixor {a b : Int32} (hf : mF MM mi pc = some (.ixor, x, y)) (h : RT MM dd mi (pc + 1) L (.int (a ^^^ b) :: st) hp q) : RT MM dd mi pc L (.int b :: .int a :: st) hp q := by sorry
theorem ba_ishl {a b : Int32} (hf : mF MM mi pc = some (.ishl, x, y)) (h : RT MM dd mi (pc + 1) L (.int (a <<< (b &&& 31)) :: st) hp q) : RT MM dd mi pc L (.int b :: .int a :: st) hp q := by sorry
theorem ba_ishr {a b : Int32} (hf : mF MM mi pc = some (.ishr, x, y)) (h : RT MM dd mi (pc + 1) L (.int (a >>> (b &&& 31)) :: st) hp q) : RT MM dd mi pc L (.int b :: .int a :: st) hp q := by sorry
theorem ba_iushr {a b : Int32} (hf : mF MM mi pc = some (.iushr, x, y)) (h : RT MM dd mi (pc + 1) L (.int ((a.toUInt32 >>> (b.toUInt32 &&& Int32.toUInt32 31)).toInt32) :: st) hp q) : RT MM dd mi pc L (.int b :: .int a :: st) hp q := by sorry
theorem ba_lcmp {a b : Int64} (hf : mF MM mi pc = some (.lcmp, x, y)) (h : RT MM dd mi (pc + 1) L (.int (lg_cmp a b) :: st) hp q) : RT MM dd mi pc L (.long b :: .long a :: st) hp q := by sorry
end
section
variable {dd mi pc x y : Nat} {L : List (Nat × Value)} {st : List Value} {hp : List AE} {l l2 : List (Nat × AE)} {q : ev_R}
theorem ow_iv0 {idx a : Nat} {fs : List Value} {As rest : List Value} {r : List (Nat × AE)} (hf : mF MM mi pc = some (.invokevirtual idx, x, y)) (hx : Nat.blt x 900 = true) (hp0 : ev_pop y st = some (As, .ref a :: rest)) (hk : olk l a = some (.inr (mK MM x, fs))) (ha : Nat.ble 204 hp.length = true) (hb : Nat.blt a 204 = true) (hz : (Nat.beq (mC MM x) 0 && Nat.beq (mS MM x) 0) = true) (hc8 : Nat.ble ((rest.map fun v => v.category).sum) 8 = true) (hc : FR dd x (.ref a :: As) (ov hp l) (none, ov (ov hp l) r)) (hl : oil l r = l2) (h : RT MM dd mi (pc + 3) L rest (ov hp l2) q) : RT MM dd mi pc L st (ov hp l) q := by sorry
theorem ow_is0 {idx : Nat} {As rest : List Value} {r : List (Nat × AE)} (hf : mF MM mi pc = some (.invokestatic idx, x, y)) (hx : Nat.blt x 900 = true) (hp0 : ev_pop y st = some (As, rest)) (hz : (Nat.beq (mC MM x) 0 && Nat.beq (mS MM x) 0) = true) (hc8 : Nat.ble ((rest.map fun v => v.category).sum) 8 = true) (hc : FR dd x As (ov hp l) (none, ov (ov hp l) r)) (hl : oil l r = l2) (h : RT MM dd mi (pc + 3) L rest (ov hp l2) q) : RT MM dd mi pc L st (ov hp l) q := by sorry
theorem ow_iv1 {w : Value} {idx a : Nat} {fs : List Value} {As rest : List Value} {r : List (Nat × AE)} (hf : mF MM mi pc = some (.invokevirtual idx, x, y)) (hx : Nat.blt x 900 = true) (hp0 : ev_pop y st = some (As, .ref a :: rest)) (hk : olk l a = some (.inr (mK MM x, fs))) (ha : Nat.ble 204 hp.length = true) (hb : Nat.blt a 204 = true) (hz : (Nat.beq (mC MM x) 0 && Nat.beq (mS MM x) 0) = true) (hc8 : Nat.ble ((rest.map fun v => v.category).sum) 8 = true) (hc : FR dd x (.ref a :: As) (ov hp l) (some w, ov (ov hp l) r)) (hl : oil l r = l2) (h : RT MM dd mi (pc + 3) L (w :: rest) (ov hp l2) q) : RT MM dd mi pc L st (ov hp l) q := by sorry
theorem ow_is1 {w : Value} {idx : Nat} {As rest : List Value} {r : List (Nat × AE)} (hf : mF MM mi pc = some (.invokestatic idx, x, y)) (hx : Nat.blt x 900 = true) (hp0 : ev_pop y st = some (As, rest)) (hz : (Nat.beq (mC MM x) 0 && Nat.beq (mS MM x) 0) = true) (hc8 : Nat.ble ((rest.map fun v => v.category).sum) 8 = true) (hc : FR dd x As (ov hp l) (some w, ov (ov hp l) r)) (hl : oil l r = l2) (h : RT MM dd mi (pc + 3) L (w :: rest) (ov hp l2) q) : RT MM dd mi pc L st (ov hp l) q := by sorry
end

