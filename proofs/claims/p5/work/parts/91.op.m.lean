section
/-! ===== each call, on both sides ===== -/
set_option maxRecDepth 100000 in
/-- skill -/
theorem op_skill (l : Launch) (b : Nat) (en ac : Nat → Nat) (D : va_G) {hp : List AE} (I : LInv hp) (z1 z2 : Int32) : OpR l b en ac D 39 275 [.int z1, .int z2] hp := by
  obtain ⟨r, hc, m1, e1⟩ := sd_run sypc_2245 l b en ac D (ρ := 0 :: ([z1, z2] : List Int32).map (fun z => z.toInt)) (As := .ref 0 :: [.int z1, .int z2]) (en_full [z1, z2]) ⟨rfl, sv_i rfl, sv_i rfl, trivial⟩ (fun q hq => absurd hq List.not_mem_nil) I.1 (Nat.le_of_ble_eq_true rfl) (by decide +kernel)
  have I1 := li_quiet I e1.1 e1.2.1 (by decide +kernel)
  obtain ⟨r2, hd, m2, e2⟩ := sd_run sypc_253 l b en ac D (ρ := 0 :: ([z1, z2] : List Int32).map (fun z => z.toInt)) (As := .ref 180 :: [.int z1, .int z2]) (en_full [z1, z2]) ⟨rfl, sv_i rfl, sv_i rfl, trivial⟩ (fun q hq => absurd hq List.not_mem_nil) I1.1 (Nat.le_of_ble_eq_true rfl) (by decide +kernel)
  exact op_mk m1 m2 (li_quiet I1 e2.1 e2.2.1 (by decide +kernel)) I.1 I1.1 e1.1 (by decide +kernel) e2.1 (by decide +kernel)
set_option maxRecDepth 100000 in
/-- deed -/
theorem op_deed (l : Launch) (b : Nat) (en ac : Nat → Nat) (D : va_G) {hp : List AE} (I : LInv hp) (z1 z2 : Int32) : OpR l b en ac D 11 188 [.int z1, .int z2] hp := by
  obtain ⟨r, hc, m1, e1⟩ := sd_run sypc_2248 l b en ac D (ρ := 0 :: ([z1, z2] : List Int32).map (fun z => z.toInt)) (As := .ref 0 :: [.int z1, .int z2]) (en_full [z1, z2]) ⟨rfl, sv_i rfl, sv_i rfl, trivial⟩ (fun q hq => absurd hq List.not_mem_nil) I.1 (Nat.le_of_ble_eq_true rfl) (by decide +kernel)
  have I1 := li_quiet I e1.1 e1.2.1 (by decide +kernel)
  obtain ⟨r2, hd, m2, e2⟩ := sd_run sypc_259 l b en ac D (ρ := 0 :: ([z1, z2] : List Int32).map (fun z => z.toInt)) (As := .ref 180 :: [.int z1, .int z2]) (en_full [z1, z2]) ⟨rfl, sv_i rfl, sv_i rfl, trivial⟩ (fun q hq => absurd hq List.not_mem_nil) I1.1 (Nat.le_of_ble_eq_true rfl) (by decide +kernel)
  exact op_mk m1 m2 (li_quiet I1 e2.1 e2.2.1 (by decide +kernel)) I.1 I1.1 e1.1 (by decide +kernel) e2.1 (by decide +kernel)
set_option maxRecDepth 100000 in
/-- now -/
theorem op_now (l : Launch) (b : Nat) (en ac : Nat → Nat) (D : va_G) {hp : List AE} (I : LInv hp) (z1 : Int32) : OpR l b en ac D 29 233 [.int z1] hp := by
  obtain ⟨r, hc, m1, e1⟩ := sd_run sypc_2250 l b en ac D (ρ := 0 :: ([z1] : List Int32).map (fun z => z.toInt)) (As := .ref 0 :: [.int z1]) (en_full [z1]) ⟨rfl, sv_i rfl, trivial⟩ (fun q hq => absurd hq List.not_mem_nil) I.1 (Nat.le_of_ble_eq_true rfl) (by decide +kernel)
  have I1 := li_quiet I e1.1 e1.2.1 (by decide +kernel)
  obtain ⟨r2, hd, m2, e2⟩ := sd_run sypc_277 l b en ac D (ρ := 0 :: ([z1] : List Int32).map (fun z => z.toInt)) (As := .ref 180 :: [.int z1]) (en_full [z1]) ⟨rfl, sv_i rfl, trivial⟩ (fun q hq => absurd hq List.not_mem_nil) I1.1 (Nat.le_of_ble_eq_true rfl) (by decide +kernel)
  exact op_mk m1 m2 (li_quiet I1 e2.1 e2.2.1 (by decide +kernel)) I.1 I1.1 e1.1 (by decide +kernel) e2.1 (by decide +kernel)
set_option maxRecDepth 100000 in
/-- does -/
theorem op_does (l : Launch) (b : Nat) (en ac : Nat → Nat) (D : va_G) {hp : List AE} (I : LInv hp) (z1 z2 z3 : Int32) : OpR l b en ac D 12 190 [.int z1, .int z2, .int z3] hp := by
  obtain ⟨r, hc, m1, e1⟩ := sd_run sypc_2259 l b en ac D (ρ := 0 :: ([z1, z2, z3] : List Int32).map (fun z => z.toInt)) (As := .ref 0 :: [.int z1, .int z2, .int z3]) (en_full [z1, z2, z3]) ⟨rfl, sv_i rfl, sv_i rfl, sv_i rfl, trivial⟩ (fun q hq => absurd hq List.not_mem_nil) I.1 (Nat.le_of_ble_eq_true rfl) (by decide +kernel)
  have I1 := li_quiet I e1.1 e1.2.1 (by decide +kernel)
  obtain ⟨r2, hd, m2, e2⟩ := sd_run sypc_310 l b en ac D (ρ := 0 :: ([z1, z2, z3] : List Int32).map (fun z => z.toInt)) (As := .ref 180 :: [.int z1, .int z2, .int z3]) (en_full [z1, z2, z3]) ⟨rfl, sv_i rfl, sv_i rfl, sv_i rfl, trivial⟩ (fun q hq => absurd hq List.not_mem_nil) I1.1 (Nat.le_of_ble_eq_true rfl) (by decide +kernel)
  exact op_mk m1 m2 (li_quiet I1 e2.1 e2.2.1 (by decide +kernel)) I.1 I1.1 e1.1 (by decide +kernel) e2.1 (by decide +kernel)
set_option maxRecDepth 100000 in
/-- wed -/
theorem op_wed (l : Launch) (b : Nat) (en ac : Nat → Nat) (D : va_G) {hp : List AE} (I : LInv hp) (z1 z2 : Int32) : OpR l b en ac D 47 289 [.int z1, .int z2] hp := by
  obtain ⟨r, hc, m1, e1⟩ := sd_run sypc_2263 l b en ac D (ρ := 0 :: ([z1, z2] : List Int32).map (fun z => z.toInt)) (As := .ref 0 :: [.int z1, .int z2]) (en_full [z1, z2]) ⟨rfl, sv_i rfl, sv_i rfl, trivial⟩ (fun q hq => absurd hq List.not_mem_nil) I.1 (Nat.le_of_ble_eq_true rfl) (by decide +kernel)
  have I1 := li_quiet I e1.1 e1.2.1 (by decide +kernel)
  obtain ⟨r2, hd, m2, e2⟩ := sd_run sypc_328 l b en ac D (ρ := 0 :: ([z1, z2] : List Int32).map (fun z => z.toInt)) (As := .ref 180 :: [.int z1, .int z2]) (en_full [z1, z2]) ⟨rfl, sv_i rfl, sv_i rfl, trivial⟩ (fun q hq => absurd hq List.not_mem_nil) I1.1 (Nat.le_of_ble_eq_true rfl) (by decide +kernel)
  exact op_mk m1 m2 (li_quiet I1 e2.1 e2.2.1 (by decide +kernel)) I.1 I1.1 e1.1 (by decide +kernel) e2.1 (by decide +kernel)
set_option maxRecDepth 100000 in
/-- part -/
theorem op_part (l : Launch) (b : Nat) (en ac : Nat → Nat) (D : va_G) {hp : List AE} (I : LInv hp) (z1 : Int32) : OpR l b en ac D 31 237 [.int z1] hp := by
  obtain ⟨r, hc, m1, e1⟩ := sd_run sypc_2267 l b en ac D (ρ := 0 :: ([z1] : List Int32).map (fun z => z.toInt)) (As := .ref 0 :: [.int z1]) (en_full [z1]) ⟨rfl, sv_i rfl, trivial⟩ (fun q hq => absurd hq List.not_mem_nil) I.1 (Nat.le_of_ble_eq_true rfl) (by decide +kernel)
  have I1 := li_quiet I e1.1 e1.2.1 (by decide +kernel)
  obtain ⟨r2, hd, m2, e2⟩ := sd_run sypc_338 l b en ac D (ρ := 0 :: ([z1] : List Int32).map (fun z => z.toInt)) (As := .ref 180 :: [.int z1]) (en_full [z1]) ⟨rfl, sv_i rfl, trivial⟩ (fun q hq => absurd hq List.not_mem_nil) I1.1 (Nat.le_of_ble_eq_true rfl) (by decide +kernel)
  exact op_mk m1 m2 (li_quiet I1 e2.1 e2.2.1 (by decide +kernel)) I.1 I1.1 e1.1 (by decide +kernel) e2.1 (by decide +kernel)
set_option maxRecDepth 100000 in
/-- glove -/
theorem op_glove (l : Launch) (b : Nat) (en ac : Nat → Nat) (D : va_G) {hp : List AE} (I : LInv hp) (z1 : Int32) : OpR l b en ac D 21 204 [.int z1] hp := by
  obtain ⟨r, hc, m1, e1⟩ := sd_run sypc_2271 l b en ac D (ρ := 0 :: ([z1] : List Int32).map (fun z => z.toInt)) (As := .ref 0 :: [.int z1]) (en_full [z1]) ⟨rfl, sv_i rfl, trivial⟩ (fun q hq => absurd hq List.not_mem_nil) I.1 (Nat.le_of_ble_eq_true rfl) (by decide +kernel)
  have I1 := li_quiet I e1.1 e1.2.1 (by decide +kernel)
  obtain ⟨r2, hd, m2, e2⟩ := sd_run sypc_347 l b en ac D (ρ := 0 :: ([z1] : List Int32).map (fun z => z.toInt)) (As := .ref 180 :: [.int z1]) (en_full [z1]) ⟨rfl, sv_i rfl, trivial⟩ (fun q hq => absurd hq List.not_mem_nil) I1.1 (Nat.le_of_ble_eq_true rfl) (by decide +kernel)
  exact op_mk m1 m2 (li_quiet I1 e2.1 e2.2.1 (by decide +kernel)) I.1 I1.1 e1.1 (by decide +kernel) e2.1 (by decide +kernel)
set_option maxRecDepth 100000 in
/-- bare -/
theorem op_bare (l : Launch) (b : Nat) (en ac : Nat → Nat) (D : va_G) {hp : List AE} (I : LInv hp) (z1 : Int32) : OpR l b en ac D 3 175 [.int z1] hp := by
  obtain ⟨r, hc, m1, e1⟩ := sd_run sypc_2275 l b en ac D (ρ := 0 :: ([z1] : List Int32).map (fun z => z.toInt)) (As := .ref 0 :: [.int z1]) (en_full [z1]) ⟨rfl, sv_i rfl, trivial⟩ (fun q hq => absurd hq List.not_mem_nil) I.1 (Nat.le_of_ble_eq_true rfl) (by decide +kernel)
  have I1 := li_quiet I e1.1 e1.2.1 (by decide +kernel)
  obtain ⟨r2, hd, m2, e2⟩ := sd_run sypc_356 l b en ac D (ρ := 0 :: ([z1] : List Int32).map (fun z => z.toInt)) (As := .ref 180 :: [.int z1]) (en_full [z1]) ⟨rfl, sv_i rfl, trivial⟩ (fun q hq => absurd hq List.not_mem_nil) I1.1 (Nat.le_of_ble_eq_true rfl) (by decide +kernel)
  exact op_mk m1 m2 (li_quiet I1 e2.1 e2.2.1 (by decide +kernel)) I.1 I1.1 e1.1 (by decide +kernel) e2.1 (by decide +kernel)
set_option maxRecDepth 100000 in
/-- days -/
theorem op_days (l : Launch) (b : Nat) (en ac : Nat → Nat) (D : va_G) {hp : List AE} (I : LInv hp) (z1 : Int32) : OpR l b en ac D 10 187 [.int z1] hp := by
  obtain ⟨r, hc, m1, e1⟩ := sd_run sypc_2278 l b en ac D (ρ := 0 :: ([z1] : List Int32).map (fun z => z.toInt)) (As := .ref 0 :: [.int z1]) (en_full [z1]) ⟨rfl, sv_i rfl, trivial⟩ (fun q hq => absurd hq List.not_mem_nil) I.1 (Nat.le_of_ble_eq_true rfl) (by decide +kernel)
  have I1 := li_quiet I e1.1 e1.2.1 (by decide +kernel)
  obtain ⟨r2, hd, m2, e2⟩ := sd_run sypc_380 l b en ac D (ρ := 0 :: ([z1] : List Int32).map (fun z => z.toInt)) (As := .ref 180 :: [.int z1]) (en_full [z1]) ⟨rfl, sv_i rfl, trivial⟩ (fun q hq => absurd hq List.not_mem_nil) I1.1 (Nat.le_of_ble_eq_true rfl) (by decide +kernel)
  exact op_mk m1 m2 (li_quiet I1 e2.1 e2.2.1 (by decide +kernel)) I.1 I1.1 e1.1 (by decide +kernel) e2.1 (by decide +kernel)
set_option maxRecDepth 100000 in
/-- undo -/
theorem op_undo (l : Launch) (b : Nat) (en ac : Nat → Nat) (D : va_G) {hp : List AE} (I : LInv hp) : OpR l b en ac D 46 288 [] hp := by
  obtain ⟨r, hc, m1, e1⟩ := sd_run sypc_2279 l b en ac D (ρ := 0 :: ([] : List Int32).map (fun z => z.toInt)) (As := .ref 0 :: []) (en_full []) ⟨rfl, trivial⟩ (fun q hq => absurd hq List.not_mem_nil) I.1 (Nat.le_of_ble_eq_true rfl) (by decide +kernel)
  have I1 := li_quiet I e1.1 e1.2.1 (by decide +kernel)
  obtain ⟨r2, hd, m2, e2⟩ := sd_run sypc_391 l b en ac D (ρ := 0 :: ([] : List Int32).map (fun z => z.toInt)) (As := .ref 180 :: []) (en_full []) ⟨rfl, trivial⟩ (fun q hq => absurd hq List.not_mem_nil) I1.1 (Nat.le_of_ble_eq_true rfl) (by decide +kernel)
  exact op_mk m1 m2 (li_quiet I1 e2.1 e2.2.1 (by decide +kernel)) I.1 I1.1 e1.1 (by decide +kernel) e2.1 (by decide +kernel)
set_option maxRecDepth 100000 in
/-- able -/
theorem op_able (l : Launch) (b : Nat) (en ac : Nat → Nat) (D : va_G) {hp : List AE} (I : LInv hp) (z1 z2 : Int32) : OpR l b en ac D 1 172 [.int z1, .int z2] hp := by
  obtain ⟨r, hc, m1, e1⟩ := sd_run sypc_2281 l b en ac D (ρ := 0 :: ([z1, z2] : List Int32).map (fun z => z.toInt)) (As := .ref 0 :: [.int z1, .int z2]) (en_full [z1, z2]) ⟨rfl, sv_i rfl, sv_i rfl, trivial⟩ (fun q hq => absurd hq List.not_mem_nil) I.1 (Nat.le_of_ble_eq_true rfl) (by decide +kernel)
  have I1 := li_quiet I e1.1 e1.2.1 (by decide +kernel)
  obtain ⟨r2, hd, m2, e2⟩ := sd_run sypc_394 l b en ac D (ρ := 0 :: ([z1, z2] : List Int32).map (fun z => z.toInt)) (As := .ref 180 :: [.int z1, .int z2]) (en_full [z1, z2]) ⟨rfl, sv_i rfl, sv_i rfl, trivial⟩ (fun q hq => absurd hq List.not_mem_nil) I1.1 (Nat.le_of_ble_eq_true rfl) (by decide +kernel)
  exact op_mk m1 m2 (li_quiet I1 e2.1 e2.2.1 (by decide +kernel)) I.1 I1.1 e1.1 (by decide +kernel) e2.1 (by decide +kernel)
set_option maxRecDepth 100000 in
/-- partedAt -/
theorem op_partedAt (l : Launch) (b : Nat) (en ac : Nat → Nat) (D : va_G) {hp : List AE} (I : LInv hp) (z1 z2 : Int32) : OpR l b en ac D 33 240 [.int z1, .int z2] hp := by
  obtain ⟨r, hc, m1, e1⟩ := sd_run sypc_2288 l b en ac D (ρ := 0 :: ([z1, z2] : List Int32).map (fun z => z.toInt)) (As := .ref 0 :: [.int z1, .int z2]) (en_full [z1, z2]) ⟨rfl, sv_i rfl, sv_i rfl, trivial⟩ (fun q hq => absurd hq List.not_mem_nil) I.1 (Nat.le_of_ble_eq_true rfl) (by decide +kernel)
  have I1 := li_quiet I e1.1 e1.2.1 (by decide +kernel)
  obtain ⟨r2, hd, m2, e2⟩ := sd_run sypc_434 l b en ac D (ρ := 0 :: ([z1, z2] : List Int32).map (fun z => z.toInt)) (As := .ref 180 :: [.int z1, .int z2]) (en_full [z1, z2]) ⟨rfl, sv_i rfl, sv_i rfl, trivial⟩ (fun q hq => absurd hq List.not_mem_nil) I1.1 (Nat.le_of_ble_eq_true rfl) (by decide +kernel)
  exact op_mk m1 m2 (li_quiet I1 e2.1 e2.2.1 (by decide +kernel)) I.1 I1.1 e1.1 (by decide +kernel) e2.1 (by decide +kernel)
set_option maxRecDepth 100000 in
/-- fitAt -/
theorem op_fitAt (l : Launch) (b : Nat) (en ac : Nat → Nat) (D : va_G) {hp : List AE} (I : LInv hp) (z1 : Int32) : OpR l b en ac D 19 201 [.int z1] hp := by
  obtain ⟨r, hc, m1, e1⟩ := sd_run sypc_2301 l b en ac D (ρ := 0 :: ([z1] : List Int32).map (fun z => z.toInt)) (As := .ref 0 :: [.int z1]) (en_full [z1]) ⟨rfl, sv_i rfl, trivial⟩ (fun q hq => absurd hq List.not_mem_nil) I.1 (Nat.le_of_ble_eq_true rfl) (by decide +kernel)
  have I1 := li_quiet I e1.1 e1.2.1 (by decide +kernel)
  obtain ⟨r2, hd, m2, e2⟩ := sd_run sypc_483 l b en ac D (ρ := 0 :: ([z1] : List Int32).map (fun z => z.toInt)) (As := .ref 180 :: [.int z1]) (en_full [z1]) ⟨rfl, sv_i rfl, trivial⟩ (fun q hq => absurd hq List.not_mem_nil) I1.1 (Nat.le_of_ble_eq_true rfl) (by decide +kernel)
  exact op_mk m1 m2 (li_quiet I1 e2.1 e2.2.1 (by decide +kernel)) I.1 I1.1 e1.1 (by decide +kernel) e2.1 (by decide +kernel)
set_option maxRecDepth 100000 in
/-- test -/
theorem op_test (l : Launch) (b : Nat) (en ac : Nat → Nat) (D : va_G) {hp : List AE} (I : LInv hp) : OpR l b en ac D 44 286 [] hp := by
  obtain ⟨r, hc, m1, e1⟩ := sd_run sypc_2302 l b en ac D (ρ := 0 :: ([] : List Int32).map (fun z => z.toInt)) (As := .ref 0 :: []) (en_full []) ⟨rfl, trivial⟩ (fun q hq => absurd hq List.not_mem_nil) I.1 (Nat.le_of_ble_eq_true rfl) (by decide +kernel)
  have I1 := li_quiet I e1.1 e1.2.1 (by decide +kernel)
  obtain ⟨r2, hd, m2, e2⟩ := sd_run sypc_485 l b en ac D (ρ := 0 :: ([] : List Int32).map (fun z => z.toInt)) (As := .ref 180 :: []) (en_full []) ⟨rfl, trivial⟩ (fun q hq => absurd hq List.not_mem_nil) I1.1 (Nat.le_of_ble_eq_true rfl) (by decide +kernel)
  exact op_mk m1 m2 (li_quiet I1 e2.1 e2.2.1 (by decide +kernel)) I.1 I1.1 e1.1 (by decide +kernel) e2.1 (by decide +kernel)
set_option maxRecDepth 100000 in
/-- hears -/
theorem op_hears (l : Launch) (b : Nat) (en ac : Nat → Nat) (D : va_G) {hp : List AE} (I : LInv hp) (z1 z2 : Int32) : OpR l b en ac D 24 210 [.int z1, .int z2] hp := by
  obtain ⟨r, hc, m1, e1⟩ := sd_run sypc_2305 l b en ac D (ρ := 0 :: ([z1, z2] : List Int32).map (fun z => z.toInt)) (As := .ref 0 :: [.int z1, .int z2]) (en_full [z1, z2]) ⟨rfl, sv_i rfl, sv_i rfl, trivial⟩ (fun q hq => absurd hq List.not_mem_nil) I.1 (Nat.le_of_ble_eq_true rfl) (by decide +kernel)
  have I1 := li_quiet I e1.1 e1.2.1 (by decide +kernel)
  obtain ⟨r2, hd, m2, e2⟩ := sd_run sypc_489 l b en ac D (ρ := 0 :: ([z1, z2] : List Int32).map (fun z => z.toInt)) (As := .ref 180 :: [.int z1, .int z2]) (en_full [z1, z2]) ⟨rfl, sv_i rfl, sv_i rfl, trivial⟩ (fun q hq => absurd hq List.not_mem_nil) I1.1 (Nat.le_of_ble_eq_true rfl) (by decide +kernel)
  exact op_mk m1 m2 (li_quiet I1 e2.1 e2.2.1 (by decide +kernel)) I.1 I1.1 e1.1 (by decide +kernel) e2.1 (by decide +kernel)
set_option maxRecDepth 100000 in
/-- guards -/
theorem op_guards (l : Launch) (b : Nat) (en ac : Nat → Nat) (D : va_G) {hp : List AE} (I : LInv hp) : OpR l b en ac D 23 208 [] hp := by
  obtain ⟨r, hc, m1, e1⟩ := sd_run sypc_2308 l b en ac D (ρ := 0 :: ([] : List Int32).map (fun z => z.toInt)) (As := .ref 0 :: []) (en_full []) ⟨rfl, trivial⟩ (fun q hq => absurd hq List.not_mem_nil) I.1 (Nat.le_of_ble_eq_true rfl) (by decide +kernel)
  have I1 := li_quiet I e1.1 e1.2.1 (by decide +kernel)
  obtain ⟨r2, hd, m2, e2⟩ := sd_run sypc_494 l b en ac D (ρ := 0 :: ([] : List Int32).map (fun z => z.toInt)) (As := .ref 180 :: []) (en_full []) ⟨rfl, trivial⟩ (fun q hq => absurd hq List.not_mem_nil) I1.1 (Nat.le_of_ble_eq_true rfl) (by decide +kernel)
  exact op_mk m1 m2 (li_quiet I1 e2.1 e2.2.1 (by decide +kernel)) I.1 I1.1 e1.1 (by decide +kernel) e2.1 (by decide +kernel)
set_option maxRecDepth 100000 in
/-- guarding -/
theorem op_guarding (l : Launch) (b : Nat) (en ac : Nat → Nat) (D : va_G) {hp : List AE} (I : LInv hp) : OpR l b en ac D 22 207 [] hp := by
  obtain ⟨r, hc, m1, e1⟩ := sd_run sypc_2309 l b en ac D (ρ := 0 :: ([] : List Int32).map (fun z => z.toInt)) (As := .ref 0 :: []) (en_full []) ⟨rfl, trivial⟩ (fun q hq => absurd hq List.not_mem_nil) I.1 (Nat.le_of_ble_eq_true rfl) (by decide +kernel)
  have I1 := li_quiet I e1.1 e1.2.1 (by decide +kernel)
  obtain ⟨r2, hd, m2, e2⟩ := sd_run sypc_496 l b en ac D (ρ := 0 :: ([] : List Int32).map (fun z => z.toInt)) (As := .ref 180 :: []) (en_full []) ⟨rfl, trivial⟩ (fun q hq => absurd hq List.not_mem_nil) I1.1 (Nat.le_of_ble_eq_true rfl) (by decide +kernel)
  exact op_mk m1 m2 (li_quiet I1 e2.1 e2.2.1 (by decide +kernel)) I.1 I1.1 e1.1 (by decide +kernel) e2.1 (by decide +kernel)
set_option maxRecDepth 100000 in
/-- best -/
theorem op_best (l : Launch) (b : Nat) (en ac : Nat → Nat) (D : va_G) {hp : List AE} (I : LInv hp) : OpR l b en ac D 4 177 [] hp := by
  obtain ⟨r, hc, m1, e1⟩ := sd_run sypc_2312 l b en ac D (ρ := 0 :: ([] : List Int32).map (fun z => z.toInt)) (As := .ref 0 :: []) (en_full []) ⟨rfl, trivial⟩ (fun q hq => absurd hq List.not_mem_nil) I.1 (Nat.le_of_ble_eq_true rfl) (by decide +kernel)
  have I1 := li_quiet I e1.1 e1.2.1 (by decide +kernel)
  obtain ⟨r2, hd, m2, e2⟩ := sd_run sypc_555 l b en ac D (ρ := 0 :: ([] : List Int32).map (fun z => z.toInt)) (As := .ref 180 :: []) (en_full []) ⟨rfl, trivial⟩ (fun q hq => absurd hq List.not_mem_nil) I1.1 (Nat.le_of_ble_eq_true rfl) (by decide +kernel)
  exact op_mk m1 m2 (li_quiet I1 e2.1 e2.2.1 (by decide +kernel)) I.1 I1.1 e1.1 (by decide +kernel) e2.1 (by decide +kernel)
set_option maxRecDepth 100000 in
/-- bestOf -/
theorem op_bestOf (l : Launch) (b : Nat) (en ac : Nat → Nat) (D : va_G) {hp : List AE} (I : LInv hp) (z1 : Int32) : OpR l b en ac D 5 178 [.int z1] hp := by
  obtain ⟨r, hc, m1, e1⟩ := sd_run sypc_2313 l b en ac D (ρ := 0 :: ([z1] : List Int32).map (fun z => z.toInt)) (As := .ref 0 :: [.int z1]) (en_full [z1]) ⟨rfl, sv_i rfl, trivial⟩ (fun q hq => absurd hq List.not_mem_nil) I.1 (Nat.le_of_ble_eq_true rfl) (by decide +kernel)
  have I1 := li_quiet I e1.1 e1.2.1 (by decide +kernel)
  obtain ⟨r2, hd, m2, e2⟩ := sd_run sypc_557 l b en ac D (ρ := 0 :: ([z1] : List Int32).map (fun z => z.toInt)) (As := .ref 180 :: [.int z1]) (en_full [z1]) ⟨rfl, sv_i rfl, trivial⟩ (fun q hq => absurd hq List.not_mem_nil) I1.1 (Nat.le_of_ble_eq_true rfl) (by decide +kernel)
  exact op_mk m1 m2 (li_quiet I1 e2.1 e2.2.1 (by decide +kernel)) I.1 I1.1 e1.1 (by decide +kernel) e2.1 (by decide +kernel)
set_option maxRecDepth 100000 in
/-- earns -/
theorem op_earns (l : Launch) (b : Nat) (en ac : Nat → Nat) (D : va_G) {hp : List AE} (I : LInv hp) (z1 : Int32) : OpR l b en ac D 15 196 [.int z1] hp := by
  obtain ⟨r, hc, m1, e1⟩ := sd_run sypc_2316 l b en ac D (ρ := 0 :: ([z1] : List Int32).map (fun z => z.toInt)) (As := .ref 0 :: [.int z1]) (en_full [z1]) ⟨rfl, sv_i rfl, trivial⟩ (fun q hq => absurd hq List.not_mem_nil) I.1 (Nat.le_of_ble_eq_true rfl) (by decide +kernel)
  have I1 := li_quiet I e1.1 e1.2.1 (by decide +kernel)
  obtain ⟨r2, hd, m2, e2⟩ := sd_run sypc_564 l b en ac D (ρ := 0 :: ([z1] : List Int32).map (fun z => z.toInt)) (As := .ref 180 :: [.int z1]) (en_full [z1]) ⟨rfl, sv_i rfl, trivial⟩ (fun q hq => absurd hq List.not_mem_nil) I1.1 (Nat.le_of_ble_eq_true rfl) (by decide +kernel)
  exact op_mk m1 m2 (li_quiet I1 e2.1 e2.2.1 (by decide +kernel)) I.1 I1.1 e1.1 (by decide +kernel) e2.1 (by decide +kernel)
set_option maxRecDepth 100000 in
/-- richest -/
theorem op_richest (l : Launch) (b : Nat) (en ac : Nat → Nat) (D : va_G) {hp : List AE} (I : LInv hp) : OpR l b en ac D 36 270 [] hp := by
  obtain ⟨r, hc, m1, e1⟩ := sd_run sypc_2317 l b en ac D (ρ := 0 :: ([] : List Int32).map (fun z => z.toInt)) (As := .ref 0 :: []) (en_full []) ⟨rfl, trivial⟩ (fun q hq => absurd hq List.not_mem_nil) I.1 (Nat.le_of_ble_eq_true rfl) (by decide +kernel)
  have I1 := li_quiet I e1.1 e1.2.1 (by decide +kernel)
  obtain ⟨r2, hd, m2, e2⟩ := sd_run sypc_566 l b en ac D (ρ := 0 :: ([] : List Int32).map (fun z => z.toInt)) (As := .ref 180 :: []) (en_full []) ⟨rfl, trivial⟩ (fun q hq => absurd hq List.not_mem_nil) I1.1 (Nat.le_of_ble_eq_true rfl) (by decide +kernel)
  exact op_mk m1 m2 (li_quiet I1 e2.1 e2.2.1 (by decide +kernel)) I.1 I1.1 e1.1 (by decide +kernel) e2.1 (by decide +kernel)
set_option maxRecDepth 100000 in
/-- slip -/
theorem op_slip (l : Launch) (b : Nat) (en ac : Nat → Nat) (D : va_G) {hp : List AE} (I : LInv hp) (z1 : Int32) : OpR l b en ac D 40 277 [.int z1] hp := by
  obtain ⟨r, hc, m1, e1⟩ := sd_run sypc_2319 l b en ac D (ρ := 0 :: ([z1] : List Int32).map (fun z => z.toInt)) (As := .ref 0 :: [.int z1]) (en_full [z1]) ⟨rfl, sv_i rfl, trivial⟩ (fun q hq => absurd hq List.not_mem_nil) I.1 (Nat.le_of_ble_eq_true rfl) (by decide +kernel)
  have I1 := li_quiet I e1.1 e1.2.1 (by decide +kernel)
  obtain ⟨r2, hd, m2, e2⟩ := sd_run sypc_760 l b en ac D (ρ := 0 :: ([z1] : List Int32).map (fun z => z.toInt)) (As := .ref 180 :: [.int z1]) (en_full [z1]) ⟨rfl, sv_i rfl, trivial⟩ (fun q hq => absurd hq List.not_mem_nil) I1.1 (Nat.le_of_ble_eq_true rfl) (by decide +kernel)
  exact op_mk m1 m2 (li_quiet I1 e2.1 e2.2.1 (by decide +kernel)) I.1 I1.1 e1.1 (by decide +kernel) e2.1 (by decide +kernel)
set_option maxRecDepth 100000 in
/-- byteAt -/
theorem op_byteAt (l : Launch) (b : Nat) (en ac : Nat → Nat) (D : va_G) {hp : List AE} (I : LInv hp) (z1 : Int32) : OpR l b en ac D 8 182 [.int z1] hp := by
  obtain ⟨r, hc, m1, e1⟩ := sd_run sypc_2320 l b en ac D (ρ := 0 :: ([z1] : List Int32).map (fun z => z.toInt)) (As := .ref 0 :: [.int z1]) (en_full [z1]) ⟨rfl, sv_i rfl, trivial⟩ (fun q hq => absurd hq List.not_mem_nil) I.1 (Nat.le_of_ble_eq_true rfl) (by decide +kernel)
  have I1 := li_quiet I e1.1 e1.2.1 (by decide +kernel)
  obtain ⟨r2, hd, m2, e2⟩ := sd_run sypc_763 l b en ac D (ρ := 0 :: ([z1] : List Int32).map (fun z => z.toInt)) (As := .ref 180 :: [.int z1]) (en_full [z1]) ⟨rfl, sv_i rfl, trivial⟩ (fun q hq => absurd hq List.not_mem_nil) I1.1 (Nat.le_of_ble_eq_true rfl) (by decide +kernel)
  exact op_mk m1 m2 (li_quiet I1 e2.1 e2.2.1 (by decide +kernel)) I.1 I1.1 e1.1 (by decide +kernel) e2.1 (by decide +kernel)
set_option maxRecDepth 100000 in
/-- drawn -/
theorem op_drawn (l : Launch) (b : Nat) (en ac : Nat → Nat) (D : va_G) {hp : List AE} (I : LInv hp) (z1 z2 : Int32) : OpR l b en ac D 13 193 [.int z1, .int z2] hp := by
  obtain ⟨r, hc, m1, e1⟩ := sd_run sypc_2323 l b en ac D (ρ := 0 :: ([z1, z2] : List Int32).map (fun z => z.toInt)) (As := .ref 0 :: [.int z1, .int z2]) (en_full [z1, z2]) ⟨rfl, sv_i rfl, sv_i rfl, trivial⟩ (fun q hq => absurd hq List.not_mem_nil) I.1 (Nat.le_of_ble_eq_true rfl) (by decide +kernel)
  have I1 := li_quiet I e1.1 e1.2.1 (by decide +kernel)
  obtain ⟨r2, hd, m2, e2⟩ := sd_run sypc_818 l b en ac D (ρ := 0 :: ([z1, z2] : List Int32).map (fun z => z.toInt)) (As := .ref 180 :: [.int z1, .int z2]) (en_full [z1, z2]) ⟨rfl, sv_i rfl, sv_i rfl, trivial⟩ (fun q hq => absurd hq List.not_mem_nil) I1.1 (Nat.le_of_ble_eq_true rfl) (by decide +kernel)
  exact op_mk m1 m2 (li_quiet I1 e2.1 e2.2.1 (by decide +kernel)) I.1 I1.1 e1.1 (by decide +kernel) e2.1 (by decide +kernel)
set_option maxRecDepth 100000 in
/-- odds -/
theorem op_odds (l : Launch) (b : Nat) (en ac : Nat → Nat) (D : va_G) {hp : List AE} (I : LInv hp) (z1 z2 z3 : Int32) : OpR l b en ac D 30 234 [.int z1, .int z2, .int z3] hp := by
  obtain ⟨r, hc, m1, e1⟩ := sd_run sypc_2331 l b en ac D (ρ := 0 :: ([z1, z2, z3] : List Int32).map (fun z => z.toInt)) (As := .ref 0 :: [.int z1, .int z2, .int z3]) (en_full [z1, z2, z3]) ⟨rfl, sv_i rfl, sv_i rfl, sv_i rfl, trivial⟩ (fun q hq => absurd hq List.not_mem_nil) I.1 (Nat.le_of_ble_eq_true rfl) (by decide +kernel)
  have I1 := li_quiet I e1.1 e1.2.1 (by decide +kernel)
  obtain ⟨r2, hd, m2, e2⟩ := sd_run sypc_843 l b en ac D (ρ := 0 :: ([z1, z2, z3] : List Int32).map (fun z => z.toInt)) (As := .ref 180 :: [.int z1, .int z2, .int z3]) (en_full [z1, z2, z3]) ⟨rfl, sv_i rfl, sv_i rfl, sv_i rfl, trivial⟩ (fun q hq => absurd hq List.not_mem_nil) I1.1 (Nat.le_of_ble_eq_true rfl) (by decide +kernel)
  exact op_mk m1 m2 (li_quiet I1 e2.1 e2.2.1 (by decide +kernel)) I.1 I1.1 e1.1 (by decide +kernel) e2.1 (by decide +kernel)
set_option maxRecDepth 100000 in
/-- told -/
theorem op_told (l : Launch) (b : Nat) (en ac : Nat → Nat) (D : va_G) {hp : List AE} (I : LInv hp) (z1 : Int32) : OpR l b en ac D 45 287 [.int z1] hp := by
  obtain ⟨r, hc, m1, e1⟩ := sd_run sypc_2332 l b en ac D (ρ := 0 :: ([z1] : List Int32).map (fun z => z.toInt)) (As := .ref 0 :: [.int z1]) (en_full [z1]) ⟨rfl, sv_i rfl, trivial⟩ (fun q hq => absurd hq List.not_mem_nil) I.1 (Nat.le_of_ble_eq_true rfl) (by decide +kernel)
  have I1 := li_quiet I e1.1 e1.2.1 (by decide +kernel)
  obtain ⟨r2, hd, m2, e2⟩ := sd_run sypc_1414 l b en ac D (ρ := 0 :: ([z1] : List Int32).map (fun z => z.toInt)) (As := .ref 180 :: [.int z1]) (en_full [z1]) ⟨rfl, sv_i rfl, trivial⟩ (fun q hq => absurd hq List.not_mem_nil) I1.1 (Nat.le_of_ble_eq_true rfl) (by decide +kernel)
  exact op_mk m1 m2 (li_quiet I1 e2.1 e2.2.1 (by decide +kernel)) I.1 I1.1 e1.1 (by decide +kernel) e2.1 (by decide +kernel)
set_option maxRecDepth 100000 in
/-- count -/
theorem op_count (l : Launch) (b : Nat) (en ac : Nat → Nat) (D : va_G) {hp : List AE} (I : LInv hp) (z1 : Int32) : OpR l b en ac D 9 186 [.int z1] hp := by
  obtain ⟨r, hc, m1, e1⟩ := sd_run sypc_2537 l b en ac D (ρ := 0 :: ([z1] : List Int32).map (fun z => z.toInt)) (As := .ref 0 :: [.int z1]) (en_full [z1]) ⟨rfl, sv_i rfl, trivial⟩ (fun q hq => absurd hq List.not_mem_nil) I.1 (Nat.le_of_ble_eq_true rfl) (by decide +kernel)
  have I1 := li_quiet I e1.1 e1.2.1 (by decide +kernel)
  obtain ⟨r2, hd, m2, e2⟩ := sd_run sypc_2229 l b en ac D (ρ := 0 :: ([z1] : List Int32).map (fun z => z.toInt)) (As := .ref 180 :: [.int z1]) (en_full [z1]) ⟨rfl, sv_i rfl, trivial⟩ (fun q hq => absurd hq List.not_mem_nil) I1.1 (Nat.le_of_ble_eq_true rfl) (by decide +kernel)
  exact op_mk m1 m2 (li_quiet I1 e2.1 e2.2.1 (by decide +kernel)) I.1 I1.1 e1.1 (by decide +kernel) e2.1 (by decide +kernel)
set_option maxRecDepth 100000 in
/-- parted -/
theorem op_parted (l : Launch) (b : Nat) (en ac : Nat → Nat) (D : va_G) {hp : List AE} (I : LInv hp) : OpR l b en ac D 32 239 [] hp := by
  obtain ⟨r, hc, m1, e1⟩ := sd_run sypc_2287 l b en ac D (ρ := 0 :: ([] : List Int32).map (fun z => z.toInt)) (As := .ref 0 :: []) (en_full []) ⟨rfl, trivial⟩ (fun q hq => absurd hq List.not_mem_nil) I.1 (Nat.le_of_ble_eq_true rfl) (by decide +kernel)
  obtain ⟨r2, hd, m2, e2⟩ := sd_run sypc_429 l b en ac D (ρ := 0 :: ([] : List Int32).map (fun z => z.toInt)) (As := .ref 180 :: []) (en_full []) ⟨rfl, trivial⟩ (fun q hq => absurd hq List.not_mem_nil) e1.2.1 (Nat.le_of_ble_eq_true rfl) (by decide +kernel)
  refine op_mk m1 m2 (li_take I e1.1 (by decide +kernel) e2.1 e2.2.1 ?_ (by decide +kernel) (out0_ok (C := sypt_2287) (by decide +kernel) e1) (out0_ok (C := sypt_429) (by decide +kernel) e2)) I.1 e1.2.1 e1.1 (by decide +kernel) e2.1 (by decide +kernel)
  exact fun R => rt_quiet e2.1 (by decide +kernel) R
set_option maxRecDepth 100000 in
/-- fits -/
theorem op_fits (l : Launch) (b : Nat) (en ac : Nat → Nat) (D : va_G) {hp : List AE} (I : LInv hp) : OpR l b en ac D 20 202 [] hp := by
  obtain ⟨r, hc, m1, e1⟩ := sd_run sypc_2300 l b en ac D (ρ := 0 :: ([] : List Int32).map (fun z => z.toInt)) (As := .ref 0 :: []) (en_full []) ⟨rfl, trivial⟩ (fun q hq => absurd hq List.not_mem_nil) I.1 (Nat.le_of_ble_eq_true rfl) (by decide +kernel)
  obtain ⟨r2, hd, m2, e2⟩ := sd_run sypc_479 l b en ac D (ρ := 0 :: ([] : List Int32).map (fun z => z.toInt)) (As := .ref 180 :: []) (en_full []) ⟨rfl, trivial⟩ (fun q hq => absurd hq List.not_mem_nil) e1.2.1 (Nat.le_of_ble_eq_true rfl) (by decide +kernel)
  refine op_mk m1 m2 (li_take I e1.1 (by decide +kernel) e2.1 e2.2.1 ?_ (by decide +kernel) (out0_ok (C := sypt_2300) (by decide +kernel) e1) (out0_ok (C := sypt_479) (by decide +kernel) e2)) I.1 e1.2.1 e1.1 (by decide +kernel) e2.1 (by decide +kernel)
  exact fun R => rt_quiet e2.1 (by decide +kernel) R
set_option maxRecDepth 100000 in
/-- end -/
theorem op_end (l : Launch) (b : Nat) (en ac : Nat → Nat) (D : va_G) {hp : List AE} (I : LInv hp) (z1 : Int32) : OpE l b en ac D 16 197 [.int z1] hp := by
  obtain ⟨z, hz1, hz2⟩ := I.2.1
  have hb := hp_tl I.1 hz1
  have a1 := i32_lo z1
  have a2 := i32_hi z1
  by_cases h1 : z1.toInt < 0
  · obtain ⟨r, hc, m1, e1⟩ := sd_run sypc_2556 l b en ac D (ρ := [0, z1.toInt, z.toInt]) (As := .ref 0 :: [.int z1]) (en_two (i := 0) (j := 0) (p := 0) (q := 0) (by omega) (by omega) (by omega) (by omega) rfl rfl (by omega) (by omega)) ⟨rfl, sv_i rfl, trivial⟩ (fun q hq => by rw [List.mem_singleton.mp hq]; exact ⟨.int z, hz1, sv_i rfl⟩) I.1 (Nat.le_of_ble_eq_true rfl) (by decide +kernel)
    have hz3 : hq hc 180 2 = some (.int z) := by rw [ag_off e1.1 (a := 180) (lo := 2) (hi := 2) (by decide +kernel) (Nat.le_refl 2) (Nat.le_refl 2)]; exact hz2
    obtain ⟨r2, hd, m2, e2⟩ := sd_run sypc_2540 l b en ac D (ρ := [0, z1.toInt, z.toInt]) (As := .ref 180 :: [.int z1]) (en_two (i := 0) (j := 0) (p := 0) (q := 0) (by omega) (by omega) (by omega) (by omega) rfl rfl (by omega) (by omega)) ⟨rfl, sv_i rfl, trivial⟩ (fun q hq => by rw [List.mem_singleton.mp hq]; exact ⟨.int z, hz3, sv_i rfl⟩) e1.2.1 (Nat.le_of_ble_eq_true rfl) (by decide +kernel)
    exact op_mkE m1 m2 ((end_k (v := 0) (by decide +kernel) e2).trans (end_k (v := 0) (by decide +kernel) e1).symm) (li_quiet (li_quiet I e1.1 e1.2.1 (by decide +kernel)) e2.1 e2.2.1 (by decide +kernel)) I.1 e1.2.1 (xx_two e1.1 (by decide +kernel) e2.1 (by decide +kernel))
  · by_cases h2 : z1.toInt ≤ z.toInt
    · obtain ⟨r, hc, m1, e1⟩ := sd_run sypc_2557 l b en ac D (ρ := [0, z1.toInt, z.toInt]) (As := .ref 0 :: [.int z1]) (en_two (i := 0) (j := 1) (p := 0) (q := z1.toInt) (by omega) (by omega) (by omega) (by omega) rfl rfl (by omega) (by omega)) ⟨rfl, sv_i rfl, trivial⟩ (fun q hq => by rw [List.mem_singleton.mp hq]; exact ⟨.int z, hz1, sv_i rfl⟩) I.1 (Nat.le_of_ble_eq_true rfl) (by decide +kernel)
      have hz3 : hq hc 180 2 = some (.int z) := by rw [ag_off e1.1 (a := 180) (lo := 2) (hi := 2) (by decide +kernel) (Nat.le_refl 2) (Nat.le_refl 2)]; exact hz2
      obtain ⟨r2, hd, m2, e2⟩ := sd_run sypc_2541 l b en ac D (ρ := [0, z1.toInt, z.toInt]) (As := .ref 180 :: [.int z1]) (en_two (i := 0) (j := 1) (p := 0) (q := z1.toInt) (by omega) (by omega) (by omega) (by omega) rfl rfl (by omega) (by omega)) ⟨rfl, sv_i rfl, trivial⟩ (fun q hq => by rw [List.mem_singleton.mp hq]; exact ⟨.int z, hz3, sv_i rfl⟩) e1.2.1 (Nat.le_of_ble_eq_true rfl) (by decide +kernel)
      have xk : hq hc 1 1 = some (.int z1) := by
        obtain ⟨-, -, o, ho, τ, t1, t2, t3⟩ := e1
        rw [List.mem_singleton.mp ho] at t1 t2 t3
        obtain ⟨v, v1, y, yz, v2, v3, v4⟩ := t2 (1, 1, (0, 1, 0)) (by decide +kernel)
        cases v3
        rw [v2] at v1
        rw [v1, Int32.toInt_inj.mp (show y.toInt = z1.toInt by omega)]
      have mk : hq hd 180 2 = some (.int z1) := by
        obtain ⟨-, -, o, ho, τ, t1, t2, t3⟩ := e2
        rw [List.mem_singleton.mp ho] at t1 t2 t3
        obtain ⟨v, v1, y, yz, v2, v3, v4⟩ := t2 (180, 2, (0, 1, 0)) (by decide +kernel)
        cases v3
        rw [v2] at v1
        rw [v1, Int32.toInt_inj.mp (show y.toInt = z1.toInt by omega)]
      exact op_mkE m1 m2 ((end_k (v := 1) (by decide +kernel) e2).trans (end_k (v := 1) (by decide +kernel) e1).symm) ⟨e2.2.1, ⟨z1, by rw [ag_off e2.1 (a := 1) (lo := 1) (hi := 1) (by decide +kernel) (Nat.le_refl 1) (Nat.le_refl 1)]; exact xk, mk⟩, rt_quiet e2.1 (by decide +kernel) (rt_quiet e1.1 (by decide +kernel) I.2.2.1), by rw [e2.1.1, e1.1.1]; exact I.2.2.2⟩ I.1 e1.2.1 (xx_two e1.1 (by decide +kernel) e2.1 (by decide +kernel))
    · obtain ⟨r, hc, m1, e1⟩ := sd_run sypc_2558 l b en ac D (ρ := [0, z1.toInt, z.toInt]) (As := .ref 0 :: [.int z1]) (en_two (i := 2) (j := 0) (p := z.toInt) (q := 0) (by omega) (by omega) (by omega) (by omega) rfl rfl (by omega) (by omega)) ⟨rfl, sv_i rfl, trivial⟩ (fun q hq => by rw [List.mem_singleton.mp hq]; exact ⟨.int z, hz1, sv_i rfl⟩) I.1 (Nat.le_of_ble_eq_true rfl) (by decide +kernel)
      have hz3 : hq hc 180 2 = some (.int z) := by rw [ag_off e1.1 (a := 180) (lo := 2) (hi := 2) (by decide +kernel) (Nat.le_refl 2) (Nat.le_refl 2)]; exact hz2
      obtain ⟨r2, hd, m2, e2⟩ := sd_run sypc_2542 l b en ac D (ρ := [0, z1.toInt, z.toInt]) (As := .ref 180 :: [.int z1]) (en_two (i := 2) (j := 0) (p := z.toInt) (q := 0) (by omega) (by omega) (by omega) (by omega) rfl rfl (by omega) (by omega)) ⟨rfl, sv_i rfl, trivial⟩ (fun q hq => by rw [List.mem_singleton.mp hq]; exact ⟨.int z, hz3, sv_i rfl⟩) e1.2.1 (Nat.le_of_ble_eq_true rfl) (by decide +kernel)
      exact op_mkE m1 m2 ((end_k (v := 0) (by decide +kernel) e2).trans (end_k (v := 0) (by decide +kernel) e1).symm) (li_quiet (li_quiet I e1.1 e1.2.1 (by decide +kernel)) e2.1 e2.2.1 (by decide +kernel)) I.1 e1.2.1 (xx_two e1.1 (by decide +kernel) e2.1 (by decide +kernel))
end
section
/-! ===== said ===== -/
def saB (T : Nat) (C : CO) : Bool := Nat.beq (cMi C) 271 && Nat.ble (cDep C) 100 && outI C && quW (cW C) && decide (cE C = [(0, 0, 0, 0, 0, 0), (-2147483648, 2147483647, 0, -2147483648, 0, 2147483647)]) && decide (cA C = [(2, 180, 0), (0, 1, 0)]) && decide (cP C = [(182, 154, (0, 0, 1)), (182, 155, (0, 0, (T : Int)))]) && xxW (cW C)
set_option maxRecDepth 100000 in
theorem hs_all : ∀ T : Nat, T < 60 → ∃ C : CO, CoOk (GK T) MM C ∧ saB T C = true := by
  intro T hT
  match T, hT with
  | 0, _ => exact ⟨syt_said_0, hs_0, by decide +kernel⟩
  | 1, _ => exact ⟨syt_said_1, hs_1, by decide +kernel⟩
  | 2, _ => exact ⟨syt_said_2, hs_2, by decide +kernel⟩
  | 3, _ => exact ⟨syt_said_3, hs_3, by decide +kernel⟩
  | 4, _ => exact ⟨syt_said_4, hs_4, by decide +kernel⟩
  | 5, _ => exact ⟨syt_said_5, hs_5, by decide +kernel⟩
  | 6, _ => exact ⟨syt_said_6, hs_6, by decide +kernel⟩
  | 7, _ => exact ⟨syt_said_7, hs_7, by decide +kernel⟩
  | 8, _ => exact ⟨syt_said_8, hs_8, by decide +kernel⟩
  | 9, _ => exact ⟨syt_said_9, hs_9, by decide +kernel⟩
  | 10, _ => exact ⟨syt_said_10, hs_10, by decide +kernel⟩
  | 11, _ => exact ⟨syt_said_11, hs_11, by decide +kernel⟩
  | 12, _ => exact ⟨syt_said_12, hs_12, by decide +kernel⟩
  | 13, _ => exact ⟨syt_said_13, hs_13, by decide +kernel⟩
  | 14, _ => exact ⟨syt_said_14, hs_14, by decide +kernel⟩
  | 15, _ => exact ⟨syt_said_15, hs_15, by decide +kernel⟩
  | 16, _ => exact ⟨syt_said_16, hs_16, by decide +kernel⟩
  | 17, _ => exact ⟨syt_said_17, hs_17, by decide +kernel⟩
  | 18, _ => exact ⟨syt_said_18, hs_18, by decide +kernel⟩
  | 19, _ => exact ⟨syt_said_19, hs_19, by decide +kernel⟩
  | 20, _ => exact ⟨syt_said_20, hs_20, by decide +kernel⟩
  | 21, _ => exact ⟨syt_said_21, hs_21, by decide +kernel⟩
  | 22, _ => exact ⟨syt_said_22, hs_22, by decide +kernel⟩
  | 23, _ => exact ⟨syt_said_23, hs_23, by decide +kernel⟩
  | 24, _ => exact ⟨syt_said_24, hs_24, by decide +kernel⟩
  | 25, _ => exact ⟨syt_said_25, hs_25, by decide +kernel⟩
  | 26, _ => exact ⟨syt_said_26, hs_26, by decide +kernel⟩
  | 27, _ => exact ⟨syt_said_27, hs_27, by decide +kernel⟩
  | 28, _ => exact ⟨syt_said_28, hs_28, by decide +kernel⟩
  | 29, _ => exact ⟨syt_said_29, hs_29, by decide +kernel⟩
  | 30, _ => exact ⟨syt_said_30, hs_30, by decide +kernel⟩
  | 31, _ => exact ⟨syt_said_31, hs_31, by decide +kernel⟩
  | 32, _ => exact ⟨syt_said_32, hs_32, by decide +kernel⟩
  | 33, _ => exact ⟨syt_said_33, hs_33, by decide +kernel⟩
  | 34, _ => exact ⟨syt_said_34, hs_34, by decide +kernel⟩
  | 35, _ => exact ⟨syt_said_35, hs_35, by decide +kernel⟩
  | 36, _ => exact ⟨syt_said_36, hs_36, by decide +kernel⟩
  | 37, _ => exact ⟨syt_said_37, hs_37, by decide +kernel⟩
  | 38, _ => exact ⟨syt_said_38, hs_38, by decide +kernel⟩
  | 39, _ => exact ⟨syt_said_39, hs_39, by decide +kernel⟩
  | 40, _ => exact ⟨syt_said_40, hs_40, by decide +kernel⟩
  | 41, _ => exact ⟨syt_said_41, hs_41, by decide +kernel⟩
  | 42, _ => exact ⟨syt_said_42, hs_42, by decide +kernel⟩
  | 43, _ => exact ⟨syt_said_43, hs_43, by decide +kernel⟩
  | 44, _ => exact ⟨syt_said_44, hs_44, by decide +kernel⟩
  | 45, _ => exact ⟨syt_said_45, hs_45, by decide +kernel⟩
  | 46, _ => exact ⟨syt_said_46, hs_46, by decide +kernel⟩
  | 47, _ => exact ⟨syt_said_47, hs_47, by decide +kernel⟩
  | 48, _ => exact ⟨syt_said_48, hs_48, by decide +kernel⟩
  | 49, _ => exact ⟨syt_said_49, hs_49, by decide +kernel⟩
  | 50, _ => exact ⟨syt_said_50, hs_50, by decide +kernel⟩
  | 51, _ => exact ⟨syt_said_51, hs_51, by decide +kernel⟩
  | 52, _ => exact ⟨syt_said_52, hs_52, by decide +kernel⟩
  | 53, _ => exact ⟨syt_said_53, hs_53, by decide +kernel⟩
  | 54, _ => exact ⟨syt_said_54, hs_54, by decide +kernel⟩
  | 55, _ => exact ⟨syt_said_55, hs_55, by decide +kernel⟩
  | 56, _ => exact ⟨syt_said_56, hs_56, by decide +kernel⟩
  | 57, _ => exact ⟨syt_said_57, hs_57, by decide +kernel⟩
  | 58, _ => exact ⟨syt_said_58, hs_58, by decide +kernel⟩
  | 59, _ => exact ⟨syt_said_59, hs_59, by decide +kernel⟩
  | n + 60, h => omega
set_option maxRecDepth 100000 in
/-- said -/
theorem op_said (l : Launch) (b : Nat) (en ac : Nat → Nat) (D : va_G) {hp : List AE} (I : LInv hp) (z1 : Int32) : OpR l b en ac D 37 271 [.int z1] hp := by
  obtain ⟨r, hc, m1, e1⟩ := sd_run sypc_2514 l b en ac D (ρ := 0 :: ([z1] : List Int32).map (fun z => z.toInt)) (As := .ref 0 :: [.int z1]) (en_full [z1]) ⟨rfl, sv_i rfl, trivial⟩ (fun q hq => absurd hq List.not_mem_nil) I.1 (Nat.le_of_ble_eq_true rfl) (by decide +kernel)
  have I1 := li_quiet I e1.1 e1.2.1 (by decide +kernel)
  obtain ⟨n, t, n1, n2, n3⟩ := I1.2.2.1.1
  rw [Nat.zero_add] at n1 n2
  rcases n3 with n3 | ⟨n3, n4⟩
  · obtain ⟨r2, hd, m2, e2⟩ := sd_run hsp_none l b en ac D (ρ := [0, z1.toInt]) (As := [.ref 180, .int z1]) (en_full [z1]) ⟨rfl, sv_i rfl, trivial⟩ (fun q hq => by rw [List.mem_singleton.mp hq]; exact ⟨.int n, n1, n, 0, rfl, rfl, by omega⟩) I1.1 (Nat.le_of_ble_eq_true rfl) (by decide +kernel)
    exact op_mk m1 m2 (li_quiet I1 e2.1 e2.2.1 (by decide +kernel)) I.1 I1.1 e1.1 (by decide +kernel) e2.1 (by decide +kernel)
  · obtain ⟨y, y1, y2, y3⟩ := hp_155 I1.1
    rw [n2] at y1
    cases y1
    obtain ⟨C, hC, hB⟩ := hs_all t.toInt.toNat (by omega)
    unfold saB at hB
    simp only [Bool.and_eq_true, decide_eq_true_eq] at hB
    obtain ⟨⟨⟨⟨⟨⟨⟨b1, b2⟩, b3⟩, b4⟩, b5⟩, b6⟩, b7⟩, b8⟩ := hB
    have b1 := Nat.eq_of_beq_eq_true b1
    obtain ⟨r2, hd, m2, e2⟩ := sd_run hC l b en ac D (ρ := [0, z1.toInt]) (As := [.ref 180, .int z1]) (by rw [b5]; exact en_full [z1]) (by rw [b6]; exact ⟨rfl, sv_i rfl, trivial⟩) (by
      rw [b7]
      intro q hq
      rcases List.mem_cons.mp hq with rfl | hq
      · exact ⟨.int n, n1, n, 0, rfl, rfl, by omega⟩
      · rw [List.mem_singleton.mp hq]
        exact ⟨.int t, n2, t, 0, rfl, rfl, by omega⟩) (gk_ok (t := t) I1.1 n1 n3 _ (by omega) (fun r hr => n4 r (by omega) (by omega))) (Nat.le_of_ble_eq_true b2) b3
    rw [b1] at m2
    exact op_mk m1 m2 (li_quiet I1 e2.1 (gk_to e2.2.1) b4) I.1 I1.1 e1.1 (by decide +kernel) e2.1 b8
end
section
/-! THE CLAIM OUT OF ONE WALK OF THE LAW'S BODY. Your part is whole_start (and what it stands on); all else here is the same for every law, but numbers. -/
def R_law : String := "LeftAnswersLaw"
def lw_P (b : Addr) (xs : List Int32) (args : Array Value) (s : State) : Prop := args = #[.ref b] ∧ s.IntsAt b xs ∧ xs.length ≤ 3072 ∧ (Jvm.Cond.and given_1 narrow_1).before args s = true
def lw_Q (_ : Array Value) (s : State) (o : Outcome) (t : State) : Prop := o = .returned (some (.int 1)) ∧ Framed s o t [] 601024 7293034
def lw_Z (below : List Frame) (a : Array Value) (s : State) : State → Prop := fun t => ∃ o, t.status = .running ∧ Ended t below o ∧ lw_Q a s o t
/-- the law's own end, with 1 on the stack, nothing written that was there before, its room as the claim has it -/
theorem lw_ret {p : Program} {l : Launch} {e : Env} {s : State} {m : MethodId} {below : List Frame} {meth : Method} {c : Code} {b : Nat} (hx : p.tables.exec = Jvm.exec) (hb : c.code = code) (hr : meth.sig.returnType = ret) (hlocks : meth.locks = false) {pc : Nat} {H : Heap} {ls : Array Slot} (hdg : decode code pc = .ok (.ireturn, 1)) : W p l e room_1 s m #[Value.ref b] below meth c H [] 601024 7293034 (lw_Z below #[Value.ref b] s) (F0 m pc ls [.int 1]) := by
  intro T hT X
  obtain ⟨fs, hret, hrun, hended, hW, hframe⟩ := X.leave (v := some (.int 1)) (hlocks := hlocks) (fun h => by rw [hr] at h; cases h)
  have hmeth' : T.vm.method? m = some meth := X.method'
  refine ⟨T.setFrames fs, ?_, .returned (some (.int 1)), hrun, hended, rfl, ⟨_, rfl⟩, hW, hframe⟩
  jvm_step X.here [X.here.top, hx, hb, hdg, hmeth', hr, ret, narrow_b1]
  (try refine ⟨rfl, ?_⟩); (try refine ⟨rfl, ?_⟩)
  first | (intro acts; rw [hret _ acts rfl rfl rfl]) | rw [hret _ _ rfl rfl rfl]
  exact Steps.refl _
/-- what holds at the law's entry: the machine, the code, the tables' words (any of lw_tbl by 'hts w (by decide +kernel)'), the script of L ints xs at the cell b, what the Statement gives of the start (any of its parts by flat_of_before) -/
def lw_At (p : Program) (s : State) (m : MethodId) (meth : Method) (c : Code) (b L : Nat) (xs : Nat → Int32) : Prop :=
  p.tables.exec = Jvm.exec ∧ c.code = code ∧ meth.sig.returnType = ret ∧ c.maxLocals = 7 ∧ s.vm.findClass R_law = some m.cls ∧ (∀ w ∈ lw_tbl, w.before #[Value.ref b] s = true) ∧ va_X b L xs s s.heap ∧ b < s.heap.size ∧ meth.locks = false ∧ (Jvm.Cond.and given_1 narrow_1).before #[Value.ref b] s = true
end
