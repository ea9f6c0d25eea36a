def RX0 : String := "LeftAnswers$1"
def TX0 : u_T := fun k => match k with
  | _ => ("", "", "", false)
def RX1 : String := "LeftAnswers$Book"
def TX1 : u_T := fun k => match k with
  | 0 => ("LeftAnswers$Book", "verbs", "[I", true)
  | 1 => ("LeftAnswers$Book", "doers", "[I", true)
  | 2 => ("LeftAnswers$Book", "others", "[I", true)
  | 3 => ("LeftAnswers$Book", "hands", "[I", true)
  | 4 => ("LeftAnswers$Book", "lines", "I", false)
  | 5 => ("LeftAnswers$Book", "judged", "Z", false)
  | 6 => ("LeftAnswers$Book", "wrongLine", "I", false)
  | 7 => ("LeftAnswers$Book", "why", "I", false)
  | 8 => ("LeftAnswers$Book", "goodLines", "I", false)
  | 9 => ("LeftAnswers$Book", "dayThen", "I", false)
  | _ => ("LeftAnswers$Book", "jailedThen", "I", false)
def RX2 : String := "LeftAnswers$Duchy"
def TX2 : u_T := fun k => match k with
  | 0 => ("LeftAnswers$Duchy", "persons", "I", false)
  | 1 => ("LeftAnswers$Duchy", "deeds", "I", false)
  | 2 => ("LeftAnswers$Duchy", "law", "I", false)
  | 3 => ("LeftAnswers$Duchy", "cell", "I", false)
  | 4 => ("LeftAnswers$Duchy", "ideas", "I", false)
  | 5 => ("LeftAnswers$Duchy", "gloved", "I", false)
  | 6 => ("LeftAnswers$Duchy", "both", "I", false)
  | 7 => ("LeftAnswers$Duchy", "personNames", "[J", true)
  | 8 => ("LeftAnswers$Duchy", "right", "[I", true)
  | 9 => ("LeftAnswers$Duchy", "left", "[I", true)
  | 10 => ("LeftAnswers$Duchy", "deedNames", "[J", true)
  | 11 => ("LeftAnswers$Duchy", "hard", "[I", true)
  | 12 => ("LeftAnswers$Duchy", "pay", "[I", true)
  | 13 => ("LeftAnswers$Duchy", "blame", "[I", true)
  | 14 => ("LeftAnswers$Duchy", "watchers", "[I", true)
  | _ => ("LeftAnswers$Duchy", "fond", "[I", true)
def RX3 : String := "LeftAnswers$Image"
def TX3 : u_T := fun k => match k with
  | 0 => ("LeftAnswers$Image", "kept", "Z", false)
  | 1 => ("LeftAnswers$Image", "duchy", "LLeftAnswers$Duchy;", true)
  | 2 => ("LeftAnswers$Image", "life", "LLeftAnswers$Life;", true)
  | _ => ("LeftAnswers$Image", "sentence", "LLeftAnswers$Sentence;", true)
def RX4 : String := "LeftAnswers$Life"
def TX4 : u_T := fun k => match k with
  | 0 => ("LeftAnswers$Life", "day", "I", false)
  | 1 => ("LeftAnswers$Life", "hadUp", "I", false)
  | 2 => ("LeftAnswers$Life", "done", "I", false)
  | 3 => ("LeftAnswers$Life", "gloved", "I", false)
  | 4 => ("LeftAnswers$Life", "seed", "I", false)
  | 5 => ("LeftAnswers$Life", "coins", "[I", true)
  | 6 => ("LeftAnswers$Life", "blame", "[I", true)
  | 7 => ("LeftAnswers$Life", "cell", "[I", true)
  | 8 => ("LeftAnswers$Life", "ideas", "[I", true)
  | 9 => ("LeftAnswers$Life", "spouse", "[I", true)
  | 10 => ("LeftAnswers$Life", "hands", "[I", true)
  | _ => ("LeftAnswers$Life", "doneOf", "[I", true)
def RX5 : String := "LeftAnswers$Pairs"
def TX5 : u_T := fun k => match k with
  | 0 => ("LeftAnswers$Pairs", "partnerOf", "[I", true)
  | 1 => ("LeftAnswers$Pairs", "tried", "[I", true)
  | 2 => ("LeftAnswers$Pairs", "joy", "[I", true)
  | 3 => ("LeftAnswers$Pairs", "persons", "I", false)
  | _ => ("LeftAnswers$Pairs", "most", "I", false)
def RX6 : String := "LeftAnswers$Parted"
def TX6 : u_T := fun k => match k with
  | 0 => ("LeftAnswers$Parted", "can", "[I", true)
  | 1 => ("LeftAnswers$Parted", "possible", "[I", true)
  | 2 => ("LeftAnswers$Parted", "tried", "[I", true)
  | 3 => ("LeftAnswers$Parted", "places", "[I", true)
  | 4 => ("LeftAnswers$Parted", "count", "I", false)
  | _ => ("LeftAnswers$Parted", "most", "I", false)
def RX7 : String := "LeftAnswers$Past"
def TX7 : u_T := fun k => match k with
  | 0 => ("LeftAnswers$Past", "lives", "[LLeftAnswers$Life;", true)
  | 1 => ("LeftAnswers$Past", "first", "I", false)
  | _ => ("LeftAnswers$Past", "count", "I", false)
def RX8 : String := "LeftAnswers$Sentence"
def TX8 : u_T := fun k => match k with
  | 0 => ("LeftAnswers$Sentence", "ones", "I", false)
  | 1 => ("LeftAnswers$Sentence", "steps", "I", false)
  | 2 => ("LeftAnswers$Sentence", "words", "[LLeftAnswers$Word;", true)
  | 3 => ("LeftAnswers$Sentence", "signs", "[I", true)
  | 4 => ("LeftAnswers$Sentence", "numbers", "[I", true)
  | _ => ("LeftAnswers$Sentence", "stack", "[I", true)
def RX9 : String := "LeftAnswers$Slip"
def TX9 : u_T := fun k => match k with
  | 0 => ("LeftAnswers$Slip", "bytes", "[B", true)
  | _ => ("LeftAnswers$Slip", "length", "I", false)
def RX10 : String := "LeftAnswers$Tape"
def TX10 : u_T := fun k => match k with
  | 0 => ("LeftAnswers$Tape", "bytes", "[B", true)
  | 1 => ("LeftAnswers$Tape", "length", "I", false)
  | 2 => ("LeftAnswers$Tape", "limit", "I", false)
  | 3 => ("LeftAnswers$Tape", "at", "I", false)
  | 4 => ("LeftAnswers$Tape", "kind", "I", false)
  | 5 => ("LeftAnswers$Tape", "place", "I", false)
  | 6 => ("LeftAnswers$Tape", "word", "LLeftAnswers$Word;", false)
  | 7 => ("LeftAnswers$Tape", "letters", "J", false)
  | 8 => ("LeftAnswers$Tape", "number", "I", false)
  | 9 => ("LeftAnswers$Tape", "taken", "I", false)
  | 10 => ("LeftAnswers$Tape", "fault", "I", false)
  | _ => ("LeftAnswers$Tape", "faultPlace", "I", false)
def RX11 : String := "LeftAnswers$Word"
def TX11 : u_T := fun k => match k with
  | _ => ("", "", "", false)
def RX12 : String := "LeftAnswers"
def TX12 : u_T := fun k => match k with
  | 0 => ("LeftAnswers", "tape", "LLeftAnswers$Tape;", true)
  | 1 => ("LeftAnswers", "duchy", "LLeftAnswers$Duchy;", false)
  | 2 => ("LeftAnswers", "spareDuchy", "LLeftAnswers$Duchy;", false)
  | 3 => ("LeftAnswers", "life", "LLeftAnswers$Life;", true)
  | 4 => ("LeftAnswers", "trial", "LLeftAnswers$Life;", true)
  | 5 => ("LeftAnswers", "past", "LLeftAnswers$Past;", true)
  | 6 => ("LeftAnswers", "book", "LLeftAnswers$Book;", true)
  | 7 => ("LeftAnswers", "sentence", "LLeftAnswers$Sentence;", false)
  | 8 => ("LeftAnswers", "spareSentence", "LLeftAnswers$Sentence;", false)
  | 9 => ("LeftAnswers", "parted", "LLeftAnswers$Parted;", true)
  | 10 => ("LeftAnswers", "pairs", "LLeftAnswers$Pairs;", true)
  | 11 => ("LeftAnswers", "slip", "LLeftAnswers$Slip;", true)
  | 12 => ("LeftAnswers", "images", "[LLeftAnswers$Image;", true)
  | 13 => ("LeftAnswers", "latestFault", "I", false)
  | 14 => ("LeftAnswers", "fitBits", "I", false)
  | 15 => ("LeftAnswers", "testDeed", "I", false)
  | _ => ("LeftAnswers", "guardBits", "I", false)
def RX13 : String := "LeftAnswersModel"
def TX13 : u_T := fun k => match k with
  | 0 => ("LeftAnswersModel", "thrown", "I", false)
  | 1 => ("LeftAnswersModel", "tape", "[I", true)
  | 2 => ("LeftAnswersModel", "taped", "I", false)
  | 3 => ("LeftAnswersModel", "size", "I", false)
  | 4 => ("LeftAnswersModel", "limit", "I", false)
  | 5 => ("LeftAnswersModel", "to", "I", false)
  | 6 => ("LeftAnswersModel", "from", "I", false)
  | 7 => ("LeftAnswersModel", "kind", "I", false)
  | 8 => ("LeftAnswersModel", "number", "I", false)
  | 9 => ("LeftAnswersModel", "sign", "I", false)
  | 10 => ("LeftAnswersModel", "fault", "I", false)
  | 11 => ("LeftAnswersModel", "place", "I", false)
  | 12 => ("LeftAnswersModel", "word", "J", false)
  | 13 => ("LeftAnswersModel", "told", "I", false)
  | 14 => ("LeftAnswersModel", "now", "[I", true)
  | 15 => ("LeftAnswersModel", "read", "[I", true)
  | 16 => ("LeftAnswersModel", "kept", "[I", true)
  | 17 => ("LeftAnswersModel", "snaps", "[I", true)
  | 18 => ("LeftAnswersModel", "aside", "[I", true)
  | 19 => ("LeftAnswersModel", "name", "[J", true)
  | 20 => ("LeftAnswersModel", "readName", "[J", true)
  | 21 => ("LeftAnswersModel", "keptName", "[J", true)
  | 22 => ("LeftAnswersModel", "isKept", "[Z", true)
  | 23 => ("LeftAnswersModel", "onces", "[Z", true)
  | 24 => ("LeftAnswersModel", "snapMany", "I", false)
  | 25 => ("LeftAnswersModel", "parting", "[I", true)
  | 26 => ("LeftAnswersModel", "parted", "[I", true)
  | 27 => ("LeftAnswersModel", "taken", "[I", true)
  | 28 => ("LeftAnswersModel", "partMost", "I", false)
  | 29 => ("LeftAnswersModel", "partMany", "I", false)
  | 30 => ("LeftAnswersModel", "fit", "[I", true)
  | 31 => ("LeftAnswersModel", "trying", "[I", true)
  | 32 => ("LeftAnswersModel", "fitMany", "I", false)
  | 33 => ("LeftAnswersModel", "testing", "I", false)
  | 34 => ("LeftAnswersModel", "guarding", "I", false)
  | 35 => ("LeftAnswersModel", "wedding", "[I", true)
  | 36 => ("LeftAnswersModel", "wedded", "[I", true)
  | 37 => ("LeftAnswersModel", "wedMost", "I", false)
  | 38 => ("LeftAnswersModel", "wedMany", "I", false)
  | 39 => ("LeftAnswersModel", "hasWedded", "Z", false)
  | 40 => ("LeftAnswersModel", "text", "[I", true)
  | 41 => ("LeftAnswersModel", "texts", "I", false)
  | 42 => ("LeftAnswersModel", "seed", "I", false)
  | 43 => ("LeftAnswersModel", "line", "[I", true)
  | 44 => ("LeftAnswersModel", "written", "[I", true)
  | 45 => ("LeftAnswersModel", "lineMany", "I", false)
  | 46 => ("LeftAnswersModel", "hasWritten", "Z", false)
  | 47 => ("LeftAnswersModel", "node", "[I", true)
  | 48 => ("LeftAnswersModel", "nodes", "I", false)
  | 49 => ("LeftAnswersModel", "onesMany", "I", false)
  | 50 => ("LeftAnswersModel", "within", "I", false)
  | _ => ("LeftAnswersModel", "top", "I", false)
def RL : String := "LeftAnswersLaw"
abbrev vwCl : List vw_C := [(RX1, TX1, 11), (RX2, TX2, 16), (RX3, TX3, 4), (RX4, TX4, 12), (RX5, TX5, 5), (RX6, TX6, 6), (RX7, TX7, 3), (RX8, TX8, 6), (RX9, TX9, 2), (RX10, TX10, 12), (RX12, TX12, 17), (RX13, TX13, 52), ("java/util/NoSuchElementException", (fun _ => ("", "", "", false)), 0)]
def gtb : List Cond := lw_tbl.filter goodWord
theorem gtb_sub {w : Cond} (h : w ∈ gtb) : w ∈ lw_tbl := (List.mem_filter.mp h).1
theorem gtb_good {w : Cond} (h : w ∈ gtb) : (w.onTables && w.keeps) = true ∨ ∃ ty, w = .arrayClass ty := good_of_word (List.mem_filter.mp h).2
theorem gtb_goodIn {w : Cond} (h : w ∈ gtb) : GoodIn gtb (w :: gtb) := fun _ hw => (List.mem_cons.mp hw).elim (fun e => e ▸ ⟨h, gtb_good h⟩) (fun h => ⟨h, gtb_good h⟩)
def CN (x : Nat) : String := ((vwCl[x]?).map (·.1)).getD ""
def TT (x : Nat) : u_T := ((vwCl[x]?).map (·.2.1)).getD (fun _ => ("", "", "", false))
def NN (x : Nat) : Nat := ((vwCl[x]?).map (·.2.2)).getD 0
def ev_tl : List (List FieldType) := [[.array .int, .array .int, .array .int, .array .int, .int, .boolean, .int, .int, .int, .int, .int], [.int, .int, .int, .int, .int, .int, .int, .array .long, .array .int, .array .int, .array .long, .array .int, .array .int, .array .int, .array .int, .array .int], [.boolean, .object "LeftAnswers$Duchy", .object "LeftAnswers$Life", .object "LeftAnswers$Sentence"], [.int, .int, .int, .int, .int, .array .int, .array .int, .array .int, .array .int, .array .int, .array .int, .array .int], [.array .int, .array .int, .array .int, .int, .int], [.array .int, .array .int, .array .int, .array .int, .int, .int], [.array (.object "LeftAnswers$Life"), .int, .int], [.int, .int, .array (.object "LeftAnswers$Word"), .array .int, .array .int, .array .int], [.array .byte, .int], [.array .byte, .int, .int, .int, .int, .int, .object "LeftAnswers$Word", .long, .int, .int, .int, .int], [.object "LeftAnswers$Tape", .object "LeftAnswers$Duchy", .object "LeftAnswers$Duchy", .object "LeftAnswers$Life", .object "LeftAnswers$Life", .object "LeftAnswers$Past", .object "LeftAnswers$Book", .object "LeftAnswers$Sentence", .object "LeftAnswers$Sentence", .object "LeftAnswers$Parted", .object "LeftAnswers$Pairs", .object "LeftAnswers$Slip", .array (.object "LeftAnswers$Image"), .int, .int, .int, .int], [.int, .array .int, .int, .int, .int, .int, .int, .int, .int, .int, .int, .int, .long, .int, .array .int, .array .int, .array .int, .array .int, .array .int, .array .long, .array .long, .array .long, .array .boolean, .array .boolean, .int, .array .int, .array .int, .array .int, .int, .int, .array .int, .array .int, .int, .int, .int, .array .int, .array .int, .int, .int, .boolean, .array .int, .int, .int, .array .int, .array .int, .int, .boolean, .array .int, .int, .int, .int, .int]]
def ev_fn : List (List Bool) := [[true, true, true, true, false, false, false, false, false, false, false], [false, false, false, false, false, false, false, true, true, true, true, true, true, true, true, true], [false, true, true, true], [false, false, false, false, false, true, true, true, true, true, true, true], [true, true, true, false, false], [true, true, true, true, false, false], [true, false, false], [false, false, true, true, true, true], [true, false], [true, false, false, false, false, false, false, false, false, false, false, false], [true, false, false, true, true, true, true, false, false, true, true, true, true, false, false, false, false], [false, true, false, false, false, false, false, false, false, false, false, false, false, false, true, true, true, true, true, true, true, true, true, true, false, true, true, true, false, false, true, true, false, false, false, true, true, false, false, false, true, false, false, true, true, false, false, true, false, false, false, false]]
def TY (x k : Nat) : FieldType := ((ev_tl[x]?).bind (fun l => l[k]?)).getD .int
def FN (x k : Nat) : Bool := ((ev_fn[x]?).bind (fun l => l[k]?)).getD false
theorem cl_at {x : Nat} (h : x < 12) : vwCl[x]? = some (CN x, TT x, NN x) := by
  have h2 : x < vwCl.length := Nat.lt_trans h (by decide)
  have h3 : vwCl[x]? = some (vwCl[x]) := List.getElem?_eq_getElem h2
  unfold CN TT NN
  rw [h3]
  rfl
theorem ty_at : ∀ x, x < 12 → ∀ k, k < NN x → parseFieldDescriptor (TT x k).2.2.1 = some (TY x k) := by decide +kernel
theorem nm_at : ∀ x, x < 12 → ∀ a, a < NN x → ∀ b, b < NN x → a ≠ b → (TT x a).2.1 ≠ (TT x b).2.1 := by decide +kernel
def in_ix : List (List Nat) := [[287, 289, 291, 293, 295, 297, 299, 301, 303, 305, 307], [142, 144, 146, 148, 150, 152, 154, 156, 158, 160, 162, 164, 166, 168, 170, 172], [421, 423, 425, 427], [220, 222, 224, 226, 228, 230, 232, 234, 236, 238, 240, 242], [377, 379, 381, 383, 385], [352, 354, 356, 358, 360, 362], [257, 259, 261], [326, 328, 330, 332, 334, 336], [398, 400], [69, 71, 73, 75, 77, 79, 81, 83, 85, 87, 89, 91], [447, 449, 451, 453, 455, 457, 459, 461, 463, 465, 467, 469, 471, 473, 475, 477, 479], [1399, 1401, 1403, 1405, 1407, 1409, 1411, 1413, 1415, 1417, 1419, 1421, 1423, 1425, 1427, 1429, 1431, 1433, 1435, 1437, 1439, 1441, 1443, 1445, 1447, 1449, 1451, 1453, 1455, 1457, 1459, 1461, 1463, 1465, 1467, 1469, 1471, 1473, 1475, 1477, 1479, 1481, 1483, 1485, 1487, 1489, 1491, 1493, 1495, 1497, 1499, 1501]]
theorem in_ck : ∀ x, x < 12 → ∀ k, k < NN x → tables_1[((in_ix[x]?).bind (fun l => l[k]?)).getD 0]? = some (u_lay (CN x) (TT x) k) ∧ goodWord (u_lay (CN x) (TT x) k) = true := by decide +kernel
theorem in_at : ∀ x, x < 12 → ∀ w ∈ u_ws (CN x) (TT x) (NN x), w ∈ gtb := by
  intro x hx w hw
  obtain ⟨k, hk, rfl⟩ := List.mem_map.mp hw
  obtain ⟨h1, h2⟩ := in_ck x hx k (List.mem_range.mp hk)
  refine List.mem_filter.mpr ⟨?_, h2⟩
  unfold lw_tbl
  exact List.mem_append_right _ (List.mem_of_getElem? h1)
theorem fn_at : ∀ x, x < 12 → ∀ k, k < NN x → FN x k = (TT x k).2.2.2 := by decide +kernel
