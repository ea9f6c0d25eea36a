/-! ===== each call, on both sides ===== -/
set_option maxRecDepth 100000 in
/-- fault -/
theorem op_fault (l : Launch) (b : Nat) (en ac : Nat → Nat) (D : va_G) {hp : List AE} (I : LInv hp) : OpR l b en ac D 17 198 [] hp := by
  obtain ⟨r, hc, m1, e1⟩ := sd_run sypc_2242 l b en ac D (ρ := 0 :: ([] : List Int32).map (fun z => z.toInt)) (As := .ref 0 :: []) (en_full []) ⟨rfl, trivial⟩ (fun q hq => absurd hq List.not_mem_nil) I.1 (Nat.le_of_ble_eq_true rfl) (by decide +kernel)
  have I1 := li_quiet I e1.1 e1.2.1 (by decide +kernel)
  obtain ⟨r2, hd, m2, e2⟩ := sd_run sypc_233 l b en ac D (ρ := 0 :: ([] : List Int32).map (fun z => z.toInt)) (As := .ref 180 :: []) (en_full []) ⟨rfl, trivial⟩ (fun q hq => absurd hq List.not_mem_nil) I1.1 (Nat.le_of_ble_eq_true rfl) (by decide +kernel)
  exact op_mk m1 m2 (li_quiet I1 e2.1 e2.2.1 (by decide +kernel)) I.1 I1.1 e1.1 (by decide +kernel) e2.1 (by decide +kernel)
set_option maxRecDepth 100000 in
/-- skill -/
theorem op_skill (l : Launch) (b : Nat) (en ac : Nat → Nat) (D : va_G) {hp : List AE} (I : LInv hp) (z1 z2 : Int32) : OpR l b en ac D 39 275 [.int z1, .int z2] hp := by
  obtain ⟨r, hc, m1, e1⟩ := sd_run sypc_2245 l b en ac D (ρ := 0 :: ([z1, z2] : List Int32).map (fun z => z.toInt)) (As := .ref 0 :: [.int z1, .int z2]) (en_full [z1, z2]) ⟨rfl, sv_i rfl, sv_i rfl, trivial⟩ (fun q hq => absurd hq List.not_mem_nil) I.1 (Nat.le_of_ble_eq_true rfl) (by decide +kernel)
  have I1 := li_quiet I e1.1 e1.2.1 (by decide +kernel)
  obtain ⟨r2, hd, m2, e2⟩ := sd_run sypc_253 l b en ac D (ρ := 0 :: ([z1, z2] : List Int32).map (fun z => z.toInt)) (As := .ref 180 :: [.int z1, .int z2]) (en_full [z1, z2]) ⟨rfl, sv_i rfl, sv_i rfl, trivial⟩ (fun q hq => absurd hq List.not_mem_nil) I1.1 (Nat.le_of_ble_eq_true rfl) (by decide +kernel)
  exact op_mk m1 m2 (li_quiet I1 e2.1 e2.2.1 (by decide +kernel)) I.1 I1.1 e1.1 (by decide +kernel) e2.1 (by decide +kernel)
set_option maxRecDepth 100000 in
/-- deed -/
theorem op_deed (l : Launch) (b : Nat) (en ac : Nat → Nat) (D : va_G) {hp : List AE} (I : LInv hp) (z1 z2 : Int32) : OpR l b en ac D 11 188 [.int z1, .int z2] hp := by
  obtain ⟨r, hc, m1, e1⟩ := sd_run sypc_2248 l b en ac D (ρ := 0 :: ([z1, z2] : List Int32).map (fun z => z.toInt)) (As := .ref 0 :: [.int z1, .int z2]) (en_full [z1, z2]) ⟨rfl, sv_i rfl, sv_i rfl, trivial⟩ (fun q hq => absurd hq List.not_mem_nil) I.1 (Nat.le_of_ble_eq_true rfl) (by decide +kernel)
  have I1 := li_quiet I e1.1 e1.2.1 (by decide +kernel)
  obtain ⟨r2, hd, m2, e2⟩ := sd_run sypc_259 l b en ac D (ρ := 0 :: ([z1, z2] : List Int32).map (fun z => z.toInt)) (As := .ref 180 :: [.int z1, .int z2]) (en_full [z1, z2]) ⟨rfl, sv_i rfl, sv_i rfl, trivial⟩ (fun q hq => absurd hq List.not_mem_nil) I1.1 (Nat.le_of_ble_eq_true rfl) (by decide +kernel)
  exact op_mk m1 m2 (li_quiet I1 e2.1 e2.2.1 (by decide +kernel)) I.1 I1.1 e1.1 (by decide +kernel) e2.1 (by decide +kernel)
set_option maxRecDepth 100000 in
/-- now -/
theorem op_now (l : Launch) (b : Nat) (en ac : Nat → Nat) (D : va_G) {hp : List AE} (I : LInv hp) (z1 : Int32) : OpR l b en ac D 29 233 [.int z1] hp := by
  obtain ⟨r, hc, m1, e1⟩ := sd_run sypc_2250 l b en ac D (ρ := 0 :: ([z1] : List Int32).map (fun z => z.toInt)) (As := .ref 0 :: [.int z1]) (en_full [z1]) ⟨rfl, sv_i rfl, trivial⟩ (fun q hq => absurd hq List.not_mem_nil) I.1 (Nat.le_of_ble_eq_true rfl) (by decide +kernel)
  have I1 := li_quiet I e1.1 e1.2.1 (by decide +kernel)
  obtain ⟨r2, hd, m2, e2⟩ := sd_run sypc_277 l b en ac D (ρ := 0 :: ([z1] : List Int32).map (fun z => z.toInt)) (As := .ref 180 :: [.int z1]) (en_full [z1]) ⟨rfl, sv_i rfl, trivial⟩ (fun q hq => absurd hq List.not_mem_nil) I1.1 (Nat.le_of_ble_eq_true rfl) (by decide +kernel)
  exact op_mk m1 m2 (li_quiet I1 e2.1 e2.2.1 (by decide +kernel)) I.1 I1.1 e1.1 (by decide +kernel) e2.1 (by decide +kernel)
set_option maxRecDepth 100000 in
/-- does -/
theorem op_does (l : Launch) (b : Nat) (en ac : Nat → Nat) (D : va_G) {hp : List AE} (I : LInv hp) (z1 z2 z3 : Int32) : OpR l b en ac D 12 190 [.int z1, .int z2, .int z3] hp := by
  obtain ⟨r, hc, m1, e1⟩ := sd_run sypc_2259 l b en ac D (ρ := 0 :: ([z1, z2, z3] : List Int32).map (fun z => z.toInt)) (As := .ref 0 :: [.int z1, .int z2, .int z3]) (en_full [z1, z2, z3]) ⟨rfl, sv_i rfl, sv_i rfl, sv_i rfl, trivial⟩ (fun q hq => absurd hq List.not_mem_nil) I.1 (Nat.le_of_ble_eq_true rfl) (by decide +kernel)
  have I1 := li_quiet I e1.1 e1.2.1 (by decide +kernel)
  obtain ⟨r2, hd, m2, e2⟩ := sd_run sypc_310 l b en ac D (ρ := 0 :: ([z1, z2, z3] : List Int32).map (fun z => z.toInt)) (As := .ref 180 :: [.int z1, .int z2, .int z3]) (en_full [z1, z2, z3]) ⟨rfl, sv_i rfl, sv_i rfl, sv_i rfl, trivial⟩ (fun q hq => absurd hq List.not_mem_nil) I1.1 (Nat.le_of_ble_eq_true rfl) (by decide +kernel)
  exact op_mk m1 m2 (li_quiet I1 e2.1 e2.2.1 (by decide +kernel)) I.1 I1.1 e1.1 (by decide +kernel) e2.1 (by decide +kernel)
set_option maxRecDepth 100000 in
/-- wed -/
theorem op_wed (l : Launch) (b : Nat) (en ac : Nat → Nat) (D : va_G) {hp : List AE} (I : LInv hp) (z1 z2 : Int32) : OpR l b en ac D 47 289 [.int z1, .int z2] hp := by
  obtain ⟨r, hc, m1, e1⟩ := sd_run sypc_2263 l b en ac D (ρ := 0 :: ([z1, z2] : List Int32).map (fun z => z.toInt)) (As := .ref 0 :: [.int z1, .int z2]) (en_full [z1, z2]) ⟨rfl, sv_i rfl, sv_i rfl, trivial⟩ (fun q hq => absurd hq List.not_mem_nil) I.1 (Nat.le_of_ble_eq_true rfl) (by decide +kernel)
  have I1 := li_quiet I e1.1 e1.2.1 (by decide +kernel)
  obtain ⟨r2, hd, m2, e2⟩ := sd_run sypc_328 l b en ac D (ρ := 0 :: ([z1, z2] : List Int32).map (fun z => z.toInt)) (As := .ref 180 :: [.int z1, .int z2]) (en_full [z1, z2]) ⟨rfl, sv_i rfl, sv_i rfl, trivial⟩ (fun q hq => absurd hq List.not_mem_nil) I1.1 (Nat.le_of_ble_eq_true rfl) (by decide +kernel)
  exact op_mk m1 m2 (li_quiet I1 e2.1 e2.2.1 (by decide +kernel)) I.1 I1.1 e1.1 (by decide +kernel) e2.1 (by decide +kernel)
set_option maxRecDepth 100000 in
/-- part -/
theorem op_part (l : Launch) (b : Nat) (en ac : Nat → Nat) (D : va_G) {hp : List AE} (I : LInv hp) (z1 : Int32) : OpR l b en ac D 31 237 [.int z1] hp := by
  obtain ⟨r, hc, m1, e1⟩ := sd_run sypc_2267 l b en ac D (ρ := 0 :: ([z1] : List Int32).map (fun z => z.toInt)) (As := .ref 0 :: [.int z1]) (en_full [z1]) ⟨rfl, sv_i rfl, trivial⟩ (fun q hq => absurd hq List.not_mem_nil) I.1 (Nat.le_of_ble_eq_true rfl) (by decide +kernel)
  have I1 := li_quiet I e1.1 e1.2.1 (by decide +kernel)
  obtain ⟨r2, hd, m2, e2⟩ := sd_run sypc_338 l b en ac D (ρ := 0 :: ([z1] : List Int32).map (fun z => z.toInt)) (As := .ref 180 :: [.int z1]) (en_full [z1]) ⟨rfl, sv_i rfl, trivial⟩ (fun q hq => absurd hq List.not_mem_nil) I1.1 (Nat.le_of_ble_eq_true rfl) (by decide +kernel)
  exact op_mk m1 m2 (li_quiet I1 e2.1 e2.2.1 (by decide +kernel)) I.1 I1.1 e1.1 (by decide +kernel) e2.1 (by decide +kernel)
set_option maxRecDepth 100000 in
/-- glove -/
theorem op_glove (l : Launch) (b : Nat) (en ac : Nat → Nat) (D : va_G) {hp : List AE} (I : LInv hp) (z1 : Int32) : OpR l b en ac D 21 204 [.int z1] hp := by
  obtain ⟨r, hc, m1, e1⟩ := sd_run sypc_2271 l b en ac D (ρ := 0 :: ([z1] : List Int32).map (fun z => z.toInt)) (As := .ref 0 :: [.int z1]) (en_full [z1]) ⟨rfl, sv_i rfl, trivial⟩ (fun q hq => absurd hq List.not_mem_nil) I.1 (Nat.le_of_ble_eq_true rfl) (by decide +kernel)
  have I1 := li_quiet I e1.1 e1.2.1 (by decide +kernel)
  obtain ⟨r2, hd, m2, e2⟩ := sd_run sypc_347 l b en ac D (ρ := 0 :: ([z1] : List Int32).map (fun z => z.toInt)) (As := .ref 180 :: [.int z1]) (en_full [z1]) ⟨rfl, sv_i rfl, trivial⟩ (fun q hq => absurd hq List.not_mem_nil) I1.1 (Nat.le_of_ble_eq_true rfl) (by decide +kernel)
  exact op_mk m1 m2 (li_quiet I1 e2.1 e2.2.1 (by decide +kernel)) I.1 I1.1 e1.1 (by decide +kernel) e2.1 (by decide +kernel)
set_option maxRecDepth 100000 in
/-- bare -/
theorem op_bare (l : Launch) (b : Nat) (en ac : Nat → Nat) (D : va_G) {hp : List AE} (I : LInv hp) (z1 : Int32) : OpR l b en ac D 3 175 [.int z1] hp := by
  obtain ⟨r, hc, m1, e1⟩ := sd_run sypc_2275 l b en ac D (ρ := 0 :: ([z1] : List Int32).map (fun z => z.toInt)) (As := .ref 0 :: [.int z1]) (en_full [z1]) ⟨rfl, sv_i rfl, trivial⟩ (fun q hq => absurd hq List.not_mem_nil) I.1 (Nat.le_of_ble_eq_true rfl) (by decide +kernel)
  have I1 := li_quiet I e1.1 e1.2.1 (by decide +kernel)
  obtain ⟨r2, hd, m2, e2⟩ := sd_run sypc_356 l b en ac D (ρ := 0 :: ([z1] : List Int32).map (fun z => z.toInt)) (As := .ref 180 :: [.int z1]) (en_full [z1]) ⟨rfl, sv_i rfl, trivial⟩ (fun q hq => absurd hq List.not_mem_nil) I1.1 (Nat.le_of_ble_eq_true rfl) (by decide +kernel)
  exact op_mk m1 m2 (li_quiet I1 e2.1 e2.2.1 (by decide +kernel)) I.1 I1.1 e1.1 (by decide +kernel) e2.1 (by decide +kernel)
set_option maxRecDepth 100000 in
/-- days -/
theorem op_days (l : Launch) (b : Nat) (en ac : Nat → Nat) (D : va_G) {hp : List AE} (I : LInv hp) (z1 : Int32) : OpR l b en ac D 10 187 [.int z1] hp := by
  obtain ⟨r, hc, m1, e1⟩ := sd_run sypc_2278 l b en ac D (ρ := 0 :: ([z1] : List Int32).map (fun z => z.toInt)) (As := .ref 0 :: [.int z1]) (en_full [z1]) ⟨rfl, sv_i rfl, trivial⟩ (fun q hq => absurd hq List.not_mem_nil) I.1 (Nat.le_of_ble_eq_true rfl) (by decide +kernel)
  have I1 := li_quiet I e1.1 e1.2.1 (by decide +kernel)
  obtain ⟨r2, hd, m2, e2⟩ := sd_run sypc_380 l b en ac D (ρ := 0 :: ([z1] : List Int32).map (fun z => z.toInt)) (As := .ref 180 :: [.int z1]) (en_full [z1]) ⟨rfl, sv_i rfl, trivial⟩ (fun q hq => absurd hq List.not_mem_nil) I1.1 (Nat.le_of_ble_eq_true rfl) (by decide +kernel)
  exact op_mk m1 m2 (li_quiet I1 e2.1 e2.2.1 (by decide +kernel)) I.1 I1.1 e1.1 (by decide +kernel) e2.1 (by decide +kernel)
set_option maxRecDepth 100000 in
/-- undo -/
theorem op_undo (l : Launch) (b : Nat) (en ac : Nat → Nat) (D : va_G) {hp : List AE} (I : LInv hp) : OpR l b en ac D 46 288 [] hp := by
  obtain ⟨r, hc, m1, e1⟩ := sd_run sypc_2279 l b en ac D (ρ := 0 :: ([] : List Int32).map (fun z => z.toInt)) (As := .ref 0 :: []) (en_full []) ⟨rfl, trivial⟩ (fun q hq => absurd hq List.not_mem_nil) I.1 (Nat.le_of_ble_eq_true rfl) (by decide +kernel)
  have I1 := li_quiet I e1.1 e1.2.1 (by decide +kernel)
  obtain ⟨r2, hd, m2, e2⟩ := sd_run sypc_391 l b en ac D (ρ := 0 :: ([] : List Int32).map (fun z => z.toInt)) (As := .ref 180 :: []) (en_full []) ⟨rfl, trivial⟩ (fun q hq => absurd hq List.not_mem_nil) I1.1 (Nat.le_of_ble_eq_true rfl) (by decide +kernel)
  exact op_mk m1 m2 (li_quiet I1 e2.1 e2.2.1 (by decide +kernel)) I.1 I1.1 e1.1 (by decide +kernel) e2.1 (by decide +kernel)
set_option maxRecDepth 100000 in
/-- able -/
theorem op_able (l : Launch) (b : Nat) (en ac : Nat → Nat) (D : va_G) {hp : List AE} (I : LInv hp) (z1 z2 : Int32) : OpR l b en ac D 1 172 [.int z1, .int z2] hp := by
  obtain ⟨r, hc, m1, e1⟩ := sd_run sypc_2281 l b en ac D (ρ := 0 :: ([z1, z2] : List Int32).map (fun z => z.toInt)) (As := .ref 0 :: [.int z1, .int z2]) (en_full [z1, z2]) ⟨rfl, sv_i rfl, sv_i rfl, trivial⟩ (fun q hq => absurd hq List.not_mem_nil) I.1 (Nat.le_of_ble_eq_true rfl) (by decide +kernel)
  have I1 := li_quiet I e1.1 e1.2.1 (by decide +kernel)
  obtain ⟨r2, hd, m2, e2⟩ := sd_run sypc_394 l b en ac D (ρ := 0 :: ([z1, z2] : List Int32).map (fun z => z.toInt)) (As := .ref 180 :: [.int z1, .int z2]) (en_full [z1, z2]) ⟨rfl, sv_i rfl, sv_i rfl, trivial⟩ (fun q hq => absurd hq List.not_mem_nil) I1.1 (Nat.le_of_ble_eq_true rfl) (by decide +kernel)
  exact op_mk m1 m2 (li_quiet I1 e2.1 e2.2.1 (by decide +kernel)) I.1 I1.1 e1.1 (by decide +kernel) e2.1 (by decide +kernel)
set_option maxRecDepth 100000 in
/-- partedAt -/
theorem op_partedAt (l : Launch) (b : Nat) (en ac : Nat → Nat) (D : va_G) {hp : List AE} (I : LInv hp) (z1 z2 : Int32) : OpR l b en ac D 33 240 [.int z1, .int z2] hp := by
  obtain ⟨r, hc, m1, e1⟩ := sd_run sypc_2288 l b en ac D (ρ := 0 :: ([z1, z2] : List Int32).map (fun z => z.toInt)) (As := .ref 0 :: [.int z1, .int z2]) (en_full [z1, z2]) ⟨rfl, sv_i rfl, sv_i rfl, trivial⟩ (fun q hq => absurd hq List.not_mem_nil) I.1 (Nat.le_of_ble_eq_true rfl) (by decide +kernel)
  have I1 := li_quiet I e1.1 e1.2.1 (by decide +kernel)
  obtain ⟨r2, hd, m2, e2⟩ := sd_run sypc_434 l b en ac D (ρ := 0 :: ([z1, z2] : List Int32).map (fun z => z.toInt)) (As := .ref 180 :: [.int z1, .int z2]) (en_full [z1, z2]) ⟨rfl, sv_i rfl, sv_i rfl, trivial⟩ (fun q hq => absurd hq List.not_mem_nil) I1.1 (Nat.le_of_ble_eq_true rfl) (by decide +kernel)
  exact op_mk m1 m2 (li_quiet I1 e2.1 e2.2.1 (by decide +kernel)) I.1 I1.1 e1.1 (by decide +kernel) e2.1 (by decide +kernel)
set_option maxRecDepth 100000 in
/-- fitAt -/
theorem op_fitAt (l : Launch) (b : Nat) (en ac : Nat → Nat) (D : va_G) {hp : List AE} (I : LInv hp) (z1 : Int32) : OpR l b en ac D 19 201 [.int z1] hp := by
  obtain ⟨r, hc, m1, e1⟩ := sd_run sypc_2301 l b en ac D (ρ := 0 :: ([z1] : List Int32).map (fun z => z.toInt)) (As := .ref 0 :: [.int z1]) (en_full [z1]) ⟨rfl, sv_i rfl, trivial⟩ (fun q hq => absurd hq List.not_mem_nil) I.1 (Nat.le_of_ble_eq_true rfl) (by decide +kernel)
  have I1 := li_quiet I e1.1 e1.2.1 (by decide +kernel)
  obtain ⟨r2, hd, m2, e2⟩ := sd_run sypc_483 l b en ac D (ρ := 0 :: ([z1] : List Int32).map (fun z => z.toInt)) (As := .ref 180 :: [.int z1]) (en_full [z1]) ⟨rfl, sv_i rfl, trivial⟩ (fun q hq => absurd hq List.not_mem_nil) I1.1 (Nat.le_of_ble_eq_true rfl) (by decide +kernel)
  exact op_mk m1 m2 (li_quiet I1 e2.1 e2.2.1 (by decide +kernel)) I.1 I1.1 e1.1 (by decide +kernel) e2.1 (by decide +kernel)
set_option maxRecDepth 100000 in
/-- test -/
theorem op_test (l : Launch) (b : Nat) (en ac : Nat → Nat) (D : va_G) {hp : List AE} (I : LInv hp) : OpR l b en ac D 44 286 [] hp := by
  obtain ⟨r, hc, m1, e1⟩ := sd_run sypc_2302 l b en ac D (ρ := 0 :: ([] : List Int32).map (fun z => z.toInt)) (As := .ref 0 :: []) (en_full []) ⟨rfl, trivial⟩ (fun q hq => absurd hq List.not_mem_nil) I.1 (Nat.le_of_ble_eq_true rfl) (by decide +kernel)
  have I1 := li_quiet I e1.1 e1.2.1 (by decide +kernel)
  obtain ⟨r2, hd, m2, e2⟩ := sd_run sypc_485 l b en ac D (ρ := 0 :: ([] : List Int32).map (fun z => z.toInt)) (As := .ref 180 :: []) (en_full []) ⟨rfl, trivial⟩ (fun q hq => absurd hq List.not_mem_nil) I1.1 (Nat.le_of_ble_eq_true rfl) (by decide +kernel)
  exact op_mk m1 m2 (li_quiet I1 e2.1 e2.2.1 (by decide +kernel)) I.1 I1.1 e1.1 (by decide +kernel) e2.1 (by decide +kernel)
set_option maxRecDepth 100000 in
/-- hears -/
theorem op_hears (l : Launch) (b : Nat) (en ac : Nat → Nat) (D : va_G) {hp : List AE} (I : LInv hp) (z1 z2 : Int32) : OpR l b en ac D 24 210 [.int z1, .int z2] hp := by
  obtain ⟨r, hc, m1, e1⟩ := sd_run sypc_2305 l b en ac D (ρ := 0 :: ([z1, z2] : List Int32).map (fun z => z.toInt)) (As := .ref 0 :: [.int z1, .int z2]) (en_full [z1, z2]) ⟨rfl, sv_i rfl, sv_i rfl, trivial⟩ (fun q hq => absurd hq List.not_mem_nil) I.1 (Nat.le_of_ble_eq_true rfl) (by decide +kernel)
  have I1 := li_quiet I e1.1 e1.2.1 (by decide +kernel)
  obtain ⟨r2, hd, m2, e2⟩ := sd_run sypc_489 l b en ac D (ρ := 0 :: ([z1, z2] : List Int32).map (fun z => z.toInt)) (As := .ref 180 :: [.int z1, .int z2]) (en_full [z1, z2]) ⟨rfl, sv_i rfl, sv_i rfl, trivial⟩ (fun q hq => absurd hq List.not_mem_nil) I1.1 (Nat.le_of_ble_eq_true rfl) (by decide +kernel)
  exact op_mk m1 m2 (li_quiet I1 e2.1 e2.2.1 (by decide +kernel)) I.1 I1.1 e1.1 (by decide +kernel) e2.1 (by decide +kernel)
set_option maxRecDepth 100000 in
/-- guarding -/
theorem op_guarding (l : Launch) (b : Nat) (en ac : Nat → Nat) (D : va_G) {hp : List AE} (I : LInv hp) : OpR l b en ac D 22 207 [] hp := by
  obtain ⟨r, hc, m1, e1⟩ := sd_run sypc_2309 l b en ac D (ρ := 0 :: ([] : List Int32).map (fun z => z.toInt)) (As := .ref 0 :: []) (en_full []) ⟨rfl, trivial⟩ (fun q hq => absurd hq List.not_mem_nil) I.1 (Nat.le_of_ble_eq_true rfl) (by decide +kernel)
  have I1 := li_quiet I e1.1 e1.2.1 (by decide +kernel)
  obtain ⟨r2, hd, m2, e2⟩ := sd_run sypc_496 l b en ac D (ρ := 0 :: ([] : List Int32).map (fun z => z.toInt)) (As := .ref 180 :: []) (en_full []) ⟨rfl, trivial⟩ (fun q hq => absurd hq List.not_mem_nil) I1.1 (Nat.le_of_ble_eq_true rfl) (by decide +kernel)
  exact op_mk m1 m2 (li_quiet I1 e2.1 e2.2.1 (by decide +kernel)) I.1 I1.1 e1.1 (by decide +kernel) e2.1 (by decide +kernel)
set_option maxRecDepth 100000 in
/-- best -/
theorem op_best (l : Launch) (b : Nat) (en ac : Nat → Nat) (D : va_G) {hp : List AE} (I : LInv hp) : OpR l b en ac D 4 177 [] hp := by
  obtain ⟨r, hc, m1, e1⟩ := sd_run sypc_2312 l b en ac D (ρ := 0 :: ([] : List Int32).map (fun z => z.toInt)) (As := .ref 0 :: []) (en_full []) ⟨rfl, trivial⟩ (fun q hq => absurd hq List.not_mem_nil) I.1 (Nat.le_of_ble_eq_true rfl) (by decide +kernel)
  have I1 := li_quiet I e1.1 e1.2.1 (by decide +kernel)
  obtain ⟨r2, hd, m2, e2⟩ := sd_run sypc_555 l b en ac D (ρ := 0 :: ([] : List Int32).map (fun z => z.toInt)) (As := .ref 180 :: []) (en_full []) ⟨rfl, trivial⟩ (fun q hq => absurd hq List.not_mem_nil) I1.1 (Nat.le_of_ble_eq_true rfl) (by decide +kernel)
  exact op_mk m1 m2 (li_quiet I1 e2.1 e2.2.1 (by decide +kernel)) I.1 I1.1 e1.1 (by decide +kernel) e2.1 (by decide +kernel)
set_option maxRecDepth 100000 in
/-- bestOf -/
theorem op_bestOf (l : Launch) (b : Nat) (en ac : Nat → Nat) (D : va_G) {hp : List AE} (I : LInv hp) (z1 : Int32) : OpR l b en ac D 5 178 [.int z1] hp := by
  obtain ⟨r, hc, m1, e1⟩ := sd_run sypc_2313 l b en ac D (ρ := 0 :: ([z1] : List Int32).map (fun z => z.toInt)) (As := .ref 0 :: [.int z1]) (en_full [z1]) ⟨rfl, sv_i rfl, trivial⟩ (fun q hq => absurd hq List.not_mem_nil) I.1 (Nat.le_of_ble_eq_true rfl) (by decide +kernel)
  have I1 := li_quiet I e1.1 e1.2.1 (by decide +kernel)
  obtain ⟨r2, hd, m2, e2⟩ := sd_run sypc_557 l b en ac D (ρ := 0 :: ([z1] : List Int32).map (fun z => z.toInt)) (As := .ref 180 :: [.int z1]) (en_full [z1]) ⟨rfl, sv_i rfl, trivial⟩ (fun q hq => absurd hq List.not_mem_nil) I1.1 (Nat.le_of_ble_eq_true rfl) (by decide +kernel)
  exact op_mk m1 m2 (li_quiet I1 e2.1 e2.2.1 (by decide +kernel)) I.1 I1.1 e1.1 (by decide +kernel) e2.1 (by decide +kernel)
set_option maxRecDepth 100000 in
/-- earns -/
theorem op_earns (l : Launch) (b : Nat) (en ac : Nat → Nat) (D : va_G) {hp : List AE} (I : LInv hp) (z1 : Int32) : OpR l b en ac D 15 196 [.int z1] hp := by
  obtain ⟨r, hc, m1, e1⟩ := sd_run sypc_2316 l b en ac D (ρ := 0 :: ([z1] : List Int32).map (fun z => z.toInt)) (As := .ref 0 :: [.int z1]) (en_full [z1]) ⟨rfl, sv_i rfl, trivial⟩ (fun q hq => absurd hq List.not_mem_nil) I.1 (Nat.le_of_ble_eq_true rfl) (by decide +kernel)
  have I1 := li_quiet I e1.1 e1.2.1 (by decide +kernel)
  obtain ⟨r2, hd, m2, e2⟩ := sd_run sypc_564 l b en ac D (ρ := 0 :: ([z1] : List Int32).map (fun z => z.toInt)) (As := .ref 180 :: [.int z1]) (en_full [z1]) ⟨rfl, sv_i rfl, trivial⟩ (fun q hq => absurd hq List.not_mem_nil) I1.1 (Nat.le_of_ble_eq_true rfl) (by decide +kernel)
  exact op_mk m1 m2 (li_quiet I1 e2.1 e2.2.1 (by decide +kernel)) I.1 I1.1 e1.1 (by decide +kernel) e2.1 (by decide +kernel)
set_option maxRecDepth 100000 in
/-- richest -/
theorem op_richest (l : Launch) (b : Nat) (en ac : Nat → Nat) (D : va_G) {hp : List AE} (I : LInv hp) : OpR l b en ac D 36 270 [] hp := by
  obtain ⟨r, hc, m1, e1⟩ := sd_run sypc_2317 l b en ac D (ρ := 0 :: ([] : List Int32).map (fun z => z.toInt)) (As := .ref 0 :: []) (en_full []) ⟨rfl, trivial⟩ (fun q hq => absurd hq List.not_mem_nil) I.1 (Nat.le_of_ble_eq_true rfl) (by decide +kernel)
  have I1 := li_quiet I e1.1 e1.2.1 (by decide +kernel)
  obtain ⟨r2, hd, m2, e2⟩ := sd_run sypc_566 l b en ac D (ρ := 0 :: ([] : List Int32).map (fun z => z.toInt)) (As := .ref 180 :: []) (en_full []) ⟨rfl, trivial⟩ (fun q hq => absurd hq List.not_mem_nil) I1.1 (Nat.le_of_ble_eq_true rfl) (by decide +kernel)
  exact op_mk m1 m2 (li_quiet I1 e2.1 e2.2.1 (by decide +kernel)) I.1 I1.1 e1.1 (by decide +kernel) e2.1 (by decide +kernel)
set_option maxRecDepth 100000 in
/-- slip -/
theorem op_slip (l : Launch) (b : Nat) (en ac : Nat → Nat) (D : va_G) {hp : List AE} (I : LInv hp) (z1 : Int32) : OpR l b en ac D 40 277 [.int z1] hp := by
  obtain ⟨r, hc, m1, e1⟩ := sd_run sypc_2319 l b en ac D (ρ := 0 :: ([z1] : List Int32).map (fun z => z.toInt)) (As := .ref 0 :: [.int z1]) (en_full [z1]) ⟨rfl, sv_i rfl, trivial⟩ (fun q hq => absurd hq List.not_mem_nil) I.1 (Nat.le_of_ble_eq_true rfl) (by decide +kernel)
  have I1 := li_quiet I e1.1 e1.2.1 (by decide +kernel)
  obtain ⟨r2, hd, m2, e2⟩ := sd_run sypc_760 l b en ac D (ρ := 0 :: ([z1] : List Int32).map (fun z => z.toInt)) (As := .ref 180 :: [.int z1]) (en_full [z1]) ⟨rfl, sv_i rfl, trivial⟩ (fun q hq => absurd hq List.not_mem_nil) I1.1 (Nat.le_of_ble_eq_true rfl) (by decide +kernel)
  exact op_mk m1 m2 (li_quiet I1 e2.1 e2.2.1 (by decide +kernel)) I.1 I1.1 e1.1 (by decide +kernel) e2.1 (by decide +kernel)
set_option maxRecDepth 100000 in
/-- byteAt -/
theorem op_byteAt (l : Launch) (b : Nat) (en ac : Nat → Nat) (D : va_G) {hp : List AE} (I : LInv hp) (z1 : Int32) : OpR l b en ac D 8 182 [.int z1] hp := by
  obtain ⟨r, hc, m1, e1⟩ := sd_run sypc_2320 l b en ac D (ρ := 0 :: ([z1] : List Int32).map (fun z => z.toInt)) (As := .ref 0 :: [.int z1]) (en_full [z1]) ⟨rfl, sv_i rfl, trivial⟩ (fun q hq => absurd hq List.not_mem_nil) I.1 (Nat.le_of_ble_eq_true rfl) (by decide +kernel)
  have I1 := li_quiet I e1.1 e1.2.1 (by decide +kernel)
  obtain ⟨r2, hd, m2, e2⟩ := sd_run sypc_763 l b en ac D (ρ := 0 :: ([z1] : List Int32).map (fun z => z.toInt)) (As := .ref 180 :: [.int z1]) (en_full [z1]) ⟨rfl, sv_i rfl, trivial⟩ (fun q hq => absurd hq List.not_mem_nil) I1.1 (Nat.le_of_ble_eq_true rfl) (by decide +kernel)
  exact op_mk m1 m2 (li_quiet I1 e2.1 e2.2.1 (by decide +kernel)) I.1 I1.1 e1.1 (by decide +kernel) e2.1 (by decide +kernel)
set_option maxRecDepth 100000 in
/-- drawn -/
theorem op_drawn (l : Launch) (b : Nat) (en ac : Nat → Nat) (D : va_G) {hp : List AE} (I : LInv hp) (z1 z2 : Int32) : OpR l b en ac D 13 193 [.int z1, .int z2] hp := by
  obtain ⟨r, hc, m1, e1⟩ := sd_run sypc_2323 l b en ac D (ρ := 0 :: ([z1, z2] : List Int32).map (fun z => z.toInt)) (As := .ref 0 :: [.int z1, .int z2]) (en_full [z1, z2]) ⟨rfl, sv_i rfl, sv_i rfl, trivial⟩ (fun q hq => absurd hq List.not_mem_nil) I.1 (Nat.le_of_ble_eq_true rfl) (by decide +kernel)
  have I1 := li_quiet I e1.1 e1.2.1 (by decide +kernel)
  obtain ⟨r2, hd, m2, e2⟩ := sd_run sypc_818 l b en ac D (ρ := 0 :: ([z1, z2] : List Int32).map (fun z => z.toInt)) (As := .ref 180 :: [.int z1, .int z2]) (en_full [z1, z2]) ⟨rfl, sv_i rfl, sv_i rfl, trivial⟩ (fun q hq => absurd hq List.not_mem_nil) I1.1 (Nat.le_of_ble_eq_true rfl) (by decide +kernel)
  exact op_mk m1 m2 (li_quiet I1 e2.1 e2.2.1 (by decide +kernel)) I.1 I1.1 e1.1 (by decide +kernel) e2.1 (by decide +kernel)
set_option maxRecDepth 100000 in
/-- odds -/
theorem op_odds (l : Launch) (b : Nat) (en ac : Nat → Nat) (D : va_G) {hp : List AE} (I : LInv hp) (z1 z2 z3 : Int32) : OpR l b en ac D 30 234 [.int z1, .int z2, .int z3] hp := by
  obtain ⟨r, hc, m1, e1⟩ := sd_run sypc_2331 l b en ac D (ρ := 0 :: ([z1, z2, z3] : List Int32).map (fun z => z.toInt)) (As := .ref 0 :: [.int z1, .int z2, .int z3]) (en_full [z1, z2, z3]) ⟨rfl, sv_i rfl, sv_i rfl, sv_i rfl, trivial⟩ (fun q hq => absurd hq List.not_mem_nil) I.1 (Nat.le_of_ble_eq_true rfl) (by decide +kernel)
  have I1 := li_quiet I e1.1 e1.2.1 (by decide +kernel)
  obtain ⟨r2, hd, m2, e2⟩ := sd_run sypc_843 l b en ac D (ρ := 0 :: ([z1, z2, z3] : List Int32).map (fun z => z.toInt)) (As := .ref 180 :: [.int z1, .int z2, .int z3]) (en_full [z1, z2, z3]) ⟨rfl, sv_i rfl, sv_i rfl, sv_i rfl, trivial⟩ (fun q hq => absurd hq List.not_mem_nil) I1.1 (Nat.le_of_ble_eq_true rfl) (by decide +kernel)
  exact op_mk m1 m2 (li_quiet I1 e2.1 e2.2.1 (by decide +kernel)) I.1 I1.1 e1.1 (by decide +kernel) e2.1 (by decide +kernel)
set_option maxRecDepth 100000 in
/-- told -/
theorem op_told (l : Launch) (b : Nat) (en ac : Nat → Nat) (D : va_G) {hp : List AE} (I : LInv hp) (z1 : Int32) : OpR l b en ac D 45 287 [.int z1] hp := by
  obtain ⟨r, hc, m1, e1⟩ := sd_run sypc_2332 l b en ac D (ρ := 0 :: ([z1] : List Int32).map (fun z => z.toInt)) (As := .ref 0 :: [.int z1]) (en_full [z1]) ⟨rfl, sv_i rfl, trivial⟩ (fun q hq => absurd hq List.not_mem_nil) I.1 (Nat.le_of_ble_eq_true rfl) (by decide +kernel)
  have I1 := li_quiet I e1.1 e1.2.1 (by decide +kernel)
  obtain ⟨r2, hd, m2, e2⟩ := sd_run sypc_1414 l b en ac D (ρ := 0 :: ([z1] : List Int32).map (fun z => z.toInt)) (As := .ref 180 :: [.int z1]) (en_full [z1]) ⟨rfl, sv_i rfl, trivial⟩ (fun q hq => absurd hq List.not_mem_nil) I1.1 (Nat.le_of_ble_eq_true rfl) (by decide +kernel)
  exact op_mk m1 m2 (li_quiet I1 e2.1 e2.2.1 (by decide +kernel)) I.1 I1.1 e1.1 (by decide +kernel) e2.1 (by decide +kernel)
set_option maxRecDepth 100000 in
/-- count -/
theorem op_count (l : Launch) (b : Nat) (en ac : Nat → Nat) (D : va_G) {hp : List AE} (I : LInv hp) (z1 : Int32) : OpR l b en ac D 9 186 [.int z1] hp := by
  obtain ⟨r, hc, m1, e1⟩ := sd_run sypc_2537 l b en ac D (ρ := 0 :: ([z1] : List Int32).map (fun z => z.toInt)) (As := .ref 0 :: [.int z1]) (en_full [z1]) ⟨rfl, sv_i rfl, trivial⟩ (fun q hq => absurd hq List.not_mem_nil) I.1 (Nat.le_of_ble_eq_true rfl) (by decide +kernel)
  have I1 := li_quiet I e1.1 e1.2.1 (by decide +kernel)
  obtain ⟨r2, hd, m2, e2⟩ := sd_run sypc_2229 l b en ac D (ρ := 0 :: ([z1] : List Int32).map (fun z => z.toInt)) (As := .ref 180 :: [.int z1]) (en_full [z1]) ⟨rfl, sv_i rfl, trivial⟩ (fun q hq => absurd hq List.not_mem_nil) I1.1 (Nat.le_of_ble_eq_true rfl) (by decide +kernel)
  exact op_mk m1 m2 (li_quiet I1 e2.1 e2.2.1 (by decide +kernel)) I.1 I1.1 e1.1 (by decide +kernel) e2.1 (by decide +kernel)
set_option maxRecDepth 100000 in
/-- parted -/
theorem op_parted (l : Launch) (b : Nat) (en ac : Nat → Nat) (D : va_G) {hp : List AE} (I : LInv hp) : OpR l b en ac D 32 239 [] hp := by
  obtain ⟨r, hc, m1, e1⟩ := sd_run sypc_2287 l b en ac D (ρ := 0 :: ([] : List Int32).map (fun z => z.toInt)) (As := .ref 0 :: []) (en_full []) ⟨rfl, trivial⟩ (fun q hq => absurd hq List.not_mem_nil) I.1 (Nat.le_of_ble_eq_true rfl) (by decide +kernel)
  obtain ⟨r2, hd, m2, e2⟩ := sd_run sypc_429 l b en ac D (ρ := 0 :: ([] : List Int32).map (fun z => z.toInt)) (As := .ref 180 :: []) (en_full []) ⟨rfl, trivial⟩ (fun q hq => absurd hq List.not_mem_nil) e1.2.1 (Nat.le_of_ble_eq_true rfl) (by decide +kernel)
  refine op_mk m1 m2 (li_take I e1.1 (by decide +kernel) e2.1 e2.2.1 ?_ (by decide +kernel) (out0_ok (C := sypt_2287) (by decide +kernel) e1) (out0_ok (C := sypt_429) (by decide +kernel) e2)) I.1 e1.2.1 e1.1 (by decide +kernel) e2.1 (by decide +kernel)
  exact fun R => rt_quiet e2.1 (by decide +kernel) R
set_option maxRecDepth 100000 in
/-- fits -/
theorem op_fits (l : Launch) (b : Nat) (en ac : Nat → Nat) (D : va_G) {hp : List AE} (I : LInv hp) : OpR l b en ac D 20 202 [] hp := by
  obtain ⟨r, hc, m1, e1⟩ := sd_run sypc_2300 l b en ac D (ρ := 0 :: ([] : List Int32).map (fun z => z.toInt)) (As := .ref 0 :: []) (en_full []) ⟨rfl, trivial⟩ (fun q hq => absurd hq List.not_mem_nil) I.1 (Nat.le_of_ble_eq_true rfl) (by decide +kernel)
  obtain ⟨r2, hd, m2, e2⟩ := sd_run sypc_479 l b en ac D (ρ := 0 :: ([] : List Int32).map (fun z => z.toInt)) (As := .ref 180 :: []) (en_full []) ⟨rfl, trivial⟩ (fun q hq => absurd hq List.not_mem_nil) e1.2.1 (Nat.le_of_ble_eq_true rfl) (by decide +kernel)
  refine op_mk m1 m2 (li_take I e1.1 (by decide +kernel) e2.1 e2.2.1 ?_ (by decide +kernel) (out0_ok (C := sypt_2300) (by decide +kernel) e1) (out0_ok (C := sypt_479) (by decide +kernel) e2)) I.1 e1.2.1 e1.1 (by decide +kernel) e2.1 (by decide +kernel)
  exact fun R => rt_quiet e2.1 (by decide +kernel) R
set_option maxRecDepth 100000 in
/-- book -/
theorem op_book (l : Launch) (b : Nat) (en ac : Nat → Nat) (D : va_G) {hp : List AE} (I : LInv hp) (z1 : Int32) : OpR l b en ac D 7 181 [.int z1] hp := by
  by_cases h1 : z1.toInt < 0
  · have a1 := i32_lo z1
    obtain ⟨r, hc, m1, e1⟩ := sd_run sypc_2559 l b en ac D  (As := .ref 0 :: [.int z1]) (en_one (z := z1.toInt) (by omega) (by omega)) ⟨rfl, sv_i rfl, trivial⟩ (fun q hq => absurd hq List.not_mem_nil) I.1 (Nat.le_of_ble_eq_true rfl) (by decide +kernel)
    have I1 := li_quiet I e1.1 e1.2.1 (by decide +kernel)
    obtain ⟨r2, hd, m2, e2⟩ := sd_run sypc_2544 l b en ac D  (As := .ref 180 :: [.int z1]) (en_one (z := z1.toInt) (by omega) (by omega)) ⟨rfl, sv_i rfl, trivial⟩ (fun q hq => absurd hq List.not_mem_nil) I1.1 (Nat.le_of_ble_eq_true rfl) (by decide +kernel)
    exact op_mk m1 m2 (li_quiet I1 e2.1 e2.2.1 (by decide +kernel)) I.1 I1.1 e1.1 (by decide +kernel) e2.1 (by decide +kernel)
  · by_cases h2 : 1 < z1.toInt
    · have a1 := i32_hi z1
      obtain ⟨r, hc, m1, e1⟩ := sd_run sypc_2577 l b en ac D  (As := .ref 0 :: [.int z1]) (en_one (z := z1.toInt) (by omega) (by omega)) ⟨rfl, sv_i rfl, trivial⟩ (fun q hq => absurd hq List.not_mem_nil) I.1 (Nat.le_of_ble_eq_true rfl) (by decide +kernel)
      have I1 := li_quiet I e1.1 e1.2.1 (by decide +kernel)
      obtain ⟨r2, hd, m2, e2⟩ := sd_run sypc_2548 l b en ac D  (As := .ref 180 :: [.int z1]) (en_one (z := z1.toInt) (by omega) (by omega)) ⟨rfl, sv_i rfl, trivial⟩ (fun q hq => absurd hq List.not_mem_nil) I1.1 (Nat.le_of_ble_eq_true rfl) (by decide +kernel)
      exact op_mk m1 m2 (li_quiet I1 e2.1 e2.2.1 (by decide +kernel)) I.1 I1.1 e1.1 (by decide +kernel) e2.1 (by decide +kernel)
    · obtain ⟨r, hc, m1, e1⟩ := sd_run sypc_2576 l b en ac D  (As := .ref 0 :: [.int z1]) (en_one (z := z1.toInt) (by omega) (by omega)) ⟨rfl, sv_i rfl, trivial⟩ (fun q hq => absurd hq List.not_mem_nil) I.1 (Nat.le_of_ble_eq_true rfl) (by decide +kernel)
      obtain ⟨r2, hd, m2, e2⟩ := sd_run sypc_2546 l b en ac D  (As := .ref 180 :: [.int z1]) (en_one (z := z1.toInt) (by omega) (by omega)) ⟨rfl, sv_i rfl, trivial⟩ (fun q hq => absurd hq List.not_mem_nil) e1.2.1 (Nat.le_of_ble_eq_true rfl) (by decide +kernel)
      refine op_mk m1 m2 (li_take I e1.1 (by decide +kernel) e2.1 e2.2.1 ?_ (by decide +kernel) (out0_ok (C := sypt_2576) (by decide +kernel) e1) (out0_ok (C := sypt_2546) (by decide +kernel) e2)) I.1 e1.2.1 e1.1 (by decide +kernel) e2.1 (by decide +kernel)
      exact fun R => rt_quiet e2.1 (by decide +kernel) R
set_option maxRecDepth 100000 in
/-- end -/
theorem op_end (l : Launch) (b : Nat) (en ac : Nat → Nat) (D : va_G) {hp : List AE} (I : LInv hp) (z1 : Int32) : OpE l b en ac D 16 197 [.int z1] hp := by
  obtain ⟨z, hz1, hz2⟩ := I.2.1
  have hb := hp_tl I.1 hz1
  have a1 := i32_lo z1
  have a2 := i32_hi z1
  by_cases h1 : z1.toInt < 0
  · obtain ⟨r, hc, m1, e1⟩ := sd_run sypc_2556 l b en ac D (ρ := [0, z1.toInt, z.toInt]) (As := .ref 0 :: [.int z1]) (en_two (i := 0) (j := 0) (p := 0) (q := 0) (by omega) (by omega) (by omega) (by omega) rfl rfl (by omega) (by omega)) ⟨rfl, sv_i rfl, trivial⟩ (fun q hq => by rw [List.mem_singleton.mp hq]; exact ⟨.int z, hz1, sv_i rfl⟩) I.1 (Nat.le_of_ble_eq_true rfl) (by decide +kernel)
    have hz3 : hq hc 180 2 = some (.int z) := by rw [ag_off e1.1 (a := 180) (lo := 2) (hi := 2) (by decide +kernel) (Nat.le_refl 2) (Nat.le_refl 2)]; exact hz2
    obtain ⟨r2, hd, m2, e2⟩ := sd_run sypc_2540 l b en ac D (ρ := [0, z1.toInt, z.toInt]) (As := .ref 180 :: [.int z1]) (en_two (i := 0) (j := 0) (p := 0) (q := 0) (by omega) (by omega) (by omega) (by omega) rfl rfl (by omega) (by omega)) ⟨rfl, sv_i rfl, trivial⟩ (fun q hq => by rw [List.mem_singleton.mp hq]; exact ⟨.int z, hz3, sv_i rfl⟩) e1.2.1 (Nat.le_of_ble_eq_true rfl) (by decide +kernel)
    exact op_mkE m1 m2 ((end_k (v := 0) (by decide +kernel) e2).trans (end_k (v := 0) (by decide +kernel) e1).symm) (li_quiet (li_quiet I e1.1 e1.2.1 (by decide +kernel)) e2.1 e2.2.1 (by decide +kernel)) I.1 e1.2.1 (xx_two e1.1 (by decide +kernel) e2.1 (by decide +kernel))
  · by_cases h2 : z1.toInt ≤ z.toInt
    · obtain ⟨r, hc, m1, e1⟩ := sd_run sypc_2557 l b en ac D (ρ := [0, z1.toInt, z.toInt]) (As := .ref 0 :: [.int z1]) (en_two (i := 0) (j := 1) (p := 0) (q := z1.toInt) (by omega) (by omega) (by omega) (by omega) rfl rfl (by omega) (by omega)) ⟨rfl, sv_i rfl, trivial⟩ (fun q hq => by rw [List.mem_singleton.mp hq]; exact ⟨.int z, hz1, sv_i rfl⟩) I.1 (Nat.le_of_ble_eq_true rfl) (by decide +kernel)
      have hz3 : hq hc 180 2 = some (.int z) := by rw [ag_off e1.1 (a := 180) (lo := 2) (hi := 2) (by decide +kernel) (Nat.le_refl 2) (Nat.le_refl 2)]; exact hz2
      obtain ⟨r2, hd, m2, e2⟩ := sd_run sypc_2541 l b en ac D (ρ := [0, z1.toInt, z.toInt]) (As := .ref 180 :: [.int z1]) (en_two (i := 0) (j := 1) (p := 0) (q := z1.toInt) (by omega) (by omega) (by omega) (by omega) rfl rfl (by omega) (by omega)) ⟨rfl, sv_i rfl, trivial⟩ (fun q hq => by rw [List.mem_singleton.mp hq]; exact ⟨.int z, hz3, sv_i rfl⟩) e1.2.1 (Nat.le_of_ble_eq_true rfl) (by decide +kernel)
      have xk : hq hc 1 1 = some (.int z1) := by
        obtain ⟨-, -, o, ho, τ, t1, t2, t3⟩ := e1
        rw [List.mem_singleton.mp ho] at t1 t2 t3
        obtain ⟨v, v1, y, yz, v2, v3, v4⟩ := t2 (1, 1, (0, 1, 0)) (by decide +kernel)
        cases v3
        rw [v2] at v1
        rw [v1, Int32.toInt_inj.mp (show y.toInt = z1.toInt by omega)]
      have mk : hq hd 180 2 = some (.int z1) := by
        obtain ⟨-, -, o, ho, τ, t1, t2, t3⟩ := e2
        rw [List.mem_singleton.mp ho] at t1 t2 t3
        obtain ⟨v, v1, y, yz, v2, v3, v4⟩ := t2 (180, 2, (0, 1, 0)) (by decide +kernel)
        cases v3
        rw [v2] at v1
        rw [v1, Int32.toInt_inj.mp (show y.toInt = z1.toInt by omega)]
      exact op_mkE m1 m2 ((end_k (v := 1) (by decide +kernel) e2).trans (end_k (v := 1) (by decide +kernel) e1).symm) ⟨e2.2.1, ⟨z1, by rw [ag_off e2.1 (a := 1) (lo := 1) (hi := 1) (by decide +kernel) (Nat.le_refl 1) (Nat.le_refl 1)]; exact xk, mk⟩, rt_quiet e2.1 (by decide +kernel) (rt_quiet e1.1 (by decide +kernel) I.2.2.1), by rw [e2.1.1, e1.1.1]; exact I.2.2.2⟩ I.1 e1.2.1 (xx_two e1.1 (by decide +kernel) e2.1 (by decide +kernel))
    · obtain ⟨r, hc, m1, e1⟩ := sd_run sypc_2558 l b en ac D (ρ := [0, z1.toInt, z.toInt]) (As := .ref 0 :: [.int z1]) (en_two (i := 2) (j := 0) (p := z.toInt) (q := 0) (by omega) (by omega) (by omega) (by omega) rfl rfl (by omega) (by omega)) ⟨rfl, sv_i rfl, trivial⟩ (fun q hq => by rw [List.mem_singleton.mp hq]; exact ⟨.int z, hz1, sv_i rfl⟩) I.1 (Nat.le_of_ble_eq_true rfl) (by decide +kernel)
      have hz3 : hq hc 180 2 = some (.int z) := by rw [ag_off e1.1 (a := 180) (lo := 2) (hi := 2) (by decide +kernel) (Nat.le_refl 2) (Nat.le_refl 2)]; exact hz2
      obtain ⟨r2, hd, m2, e2⟩ := sd_run sypc_2542 l b en ac D (ρ := [0, z1.toInt, z.toInt]) (As := .ref 180 :: [.int z1]) (en_two (i := 2) (j := 0) (p := z.toInt) (q := 0) (by omega) (by omega) (by omega) (by omega) rfl rfl (by omega) (by omega)) ⟨rfl, sv_i rfl, trivial⟩ (fun q hq => by rw [List.mem_singleton.mp hq]; exact ⟨.int z, hz3, sv_i rfl⟩) e1.2.1 (Nat.le_of_ble_eq_true rfl) (by decide +kernel)
      exact op_mkE m1 m2 ((end_k (v := 0) (by decide +kernel) e2).trans (end_k (v := 0) (by decide +kernel) e1).symm) (li_quiet (li_quiet I e1.1 e1.2.1 (by decide +kernel)) e2.1 e2.2.1 (by decide +kernel)) I.1 e1.2.1 (xx_two e1.1 (by decide +kernel) e2.1 (by decide +kernel))
