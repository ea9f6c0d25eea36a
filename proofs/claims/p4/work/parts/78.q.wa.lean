theorem k8_100 : (Int8.ofInt 100).toInt32 = Int32.ofNat 100 := by sorry
theorem k8_101 : (Int8.ofInt 101).toInt32 = Int32.ofNat 101 := by sorry
theorem k8_102 : (Int8.ofInt 102).toInt32 = Int32.ofNat 102 := by sorry
theorem k8_103 : (Int8.ofInt 103).toInt32 = Int32.ofNat 103 := by sorry
theorem k8_104 : (Int8.ofInt 104).toInt32 = Int32.ofNat 104 := by sorry
theorem k8_105 : (Int8.ofInt 105).toInt32 = Int32.ofNat 105 := by sorry
theorem k8_106 : (Int8.ofInt 106).toInt32 = Int32.ofNat 106 := by sorry
theorem k8_108 : (Int8.ofInt 108).toInt32 = Int32.ofNat 108 := by sorry
theorem k8_109 : (Int8.ofInt 109).toInt32 = Int32.ofNat 109 := by sorry
theorem k8_110 : (Int8.ofInt 110).toInt32 = Int32.ofNat 110 := by sorry
theorem k8_111 : (Int8.ofInt 111).toInt32 = Int32.ofNat 111 := by sorry
theorem k8_112 : (Int8.ofInt 112).toInt32 = Int32.ofNat 112 := by sorry
theorem k8_114 : (Int8.ofInt 114).toInt32 = Int32.ofNat 114 := by sorry
theorem k8_115 : (Int8.ofInt 115).toInt32 = Int32.ofNat 115 := by sorry
theorem k8_116 : (Int8.ofInt 116).toInt32 = Int32.ofNat 116 := by sorry
theorem k8_117 : (Int8.ofInt 117).toInt32 = Int32.ofNat 117 := by sorry
theorem k8_118 : (Int8.ofInt 118).toInt32 = Int32.ofNat 118 := by sorry
theorem k8_119 : (Int8.ofInt 119).toInt32 = Int32.ofNat 119 := by sorry
theorem k8_121 : (Int8.ofInt 121).toInt32 = Int32.ofNat 121 := by sorry
theorem k8_29 : (Int8.ofInt 29).toInt32 = Int32.ofNat 29 := by sorry
theorem k8_98 : (Int8.ofInt 98).toInt32 = Int32.ofNat 98 := by sorry
theorem k8_99 : (Int8.ofInt 99).toInt32 = Int32.ofNat 99 := by sorry
/-! ===== the reference's words ===== -/
/-- the letters of each word, last one first -/
def WT : List (List Nat) := [[110, 111, 115, 114, 101, 112], [100, 101, 101, 100], [104, 116, 111, 98], [115, 101, 101, 115], [100, 110, 111, 102], [119, 97, 108], [108, 108, 101, 99], [115, 97, 101, 100, 105], [115, 101, 111, 100], [115, 100, 101, 119], [115, 116, 114, 97, 112], [115, 101, 118, 111, 108, 103], [115, 101, 114, 97, 98], [116, 104, 103, 105, 114], [116, 102, 101, 108], [111, 119, 116], [121, 97, 100], [114, 111], [100, 110, 97], [116, 111, 110], [100, 101, 108, 105, 97, 106], [100, 101, 118, 111, 108, 103], [100, 101, 119], [121, 115, 117, 98], [110, 101, 101, 115], [111, 116], [115, 110, 119, 111], [101, 109, 97, 108, 98], [97, 101, 100, 105], [114, 101, 98, 109, 117, 110]]
def wo (k : Nat) : Int64 := p27 (WT.getD k [])
theorem m_sp0 {H : List AE} : FR 1 279 [.int (Int32.ofNat 112), .int (Int32.ofNat 101), .int (Int32.ofNat 114), .int (Int32.ofNat 115), .int (Int32.ofNat 111), .int (Int32.ofNat 110)] H (some (.long (p27 [110, 111, 115, 114, 101, 112])), ov H []) := by sorry
theorem m_wo0 {H : List AE} : FR 2 293 [.int (Int32.ofNat 0)] H (some (.long (wo 0)), ov H []) := by sorry
theorem m_sp1 {H : List AE} : FR 1 279 [.int (Int32.ofNat 100), .int (Int32.ofNat 101), .int (Int32.ofNat 101), .int (Int32.ofNat 100), .int (Int32.ofNat 0), .int (Int32.ofNat 0)] H (some (.long (p27 [100, 101, 101, 100])), ov H []) := by sorry
theorem m_wo1 {H : List AE} : FR 2 293 [.int (Int32.ofNat 1)] H (some (.long (wo 1)), ov H []) := by sorry
theorem m_sp2 {H : List AE} : FR 1 279 [.int (Int32.ofNat 98), .int (Int32.ofNat 111), .int (Int32.ofNat 116), .int (Int32.ofNat 104), .int (Int32.ofNat 0), .int (Int32.ofNat 0)] H (some (.long (p27 [104, 116, 111, 98])), ov H []) := by sorry
theorem m_wo2 {H : List AE} : FR 2 293 [.int (Int32.ofNat 2)] H (some (.long (wo 2)), ov H []) := by sorry
theorem m_sp3 {H : List AE} : FR 1 279 [.int (Int32.ofNat 115), .int (Int32.ofNat 101), .int (Int32.ofNat 101), .int (Int32.ofNat 115), .int (Int32.ofNat 0), .int (Int32.ofNat 0)] H (some (.long (p27 [115, 101, 101, 115])), ov H []) := by sorry
theorem m_wo3 {H : List AE} : FR 2 293 [.int (Int32.ofNat 3)] H (some (.long (wo 3)), ov H []) := by sorry
theorem m_sp4 {H : List AE} : FR 1 279 [.int (Int32.ofNat 102), .int (Int32.ofNat 111), .int (Int32.ofNat 110), .int (Int32.ofNat 100), .int (Int32.ofNat 0), .int (Int32.ofNat 0)] H (some (.long (p27 [100, 110, 111, 102])), ov H []) := by sorry
theorem m_wo4 {H : List AE} : FR 2 293 [.int (Int32.ofNat 4)] H (some (.long (wo 4)), ov H []) := by sorry
theorem m_sp5 {H : List AE} : FR 1 279 [.int (Int32.ofNat 108), .int (Int32.ofNat 97), .int (Int32.ofNat 119), .int (Int32.ofNat 0), .int (Int32.ofNat 0), .int (Int32.ofNat 0)] H (some (.long (p27 [119, 97, 108])), ov H []) := by sorry
theorem m_wo5 {H : List AE} : FR 2 293 [.int (Int32.ofNat 5)] H (some (.long (wo 5)), ov H []) := by sorry
theorem m_sp6 {H : List AE} : FR 1 279 [.int (Int32.ofNat 99), .int (Int32.ofNat 101), .int (Int32.ofNat 108), .int (Int32.ofNat 108), .int (Int32.ofNat 0), .int (Int32.ofNat 0)] H (some (.long (p27 [108, 108, 101, 99])), ov H []) := by sorry
theorem m_wo6 {H : List AE} : FR 2 293 [.int (Int32.ofNat 6)] H (some (.long (wo 6)), ov H []) := by sorry
theorem m_sp7 {H : List AE} : FR 1 279 [.int (Int32.ofNat 105), .int (Int32.ofNat 100), .int (Int32.ofNat 101), .int (Int32.ofNat 97), .int (Int32.ofNat 115), .int (Int32.ofNat 0)] H (some (.long (p27 [115, 97, 101, 100, 105])), ov H []) := by sorry
theorem m_wo7 {H : List AE} : FR 2 293 [.int (Int32.ofNat 7)] H (some (.long (wo 7)), ov H []) := by sorry
theorem m_sp8 {H : List AE} : FR 1 279 [.int (Int32.ofNat 100), .int (Int32.ofNat 111), .int (Int32.ofNat 101), .int (Int32.ofNat 115), .int (Int32.ofNat 0), .int (Int32.ofNat 0)] H (some (.long (p27 [115, 101, 111, 100])), ov H []) := by sorry
theorem m_wo8 {H : List AE} : FR 2 293 [.int (Int32.ofNat 8)] H (some (.long (wo 8)), ov H []) := by sorry
theorem m_sp9 {H : List AE} : FR 1 279 [.int (Int32.ofNat 119), .int (Int32.ofNat 101), .int (Int32.ofNat 100), .int (Int32.ofNat 115), .int (Int32.ofNat 0), .int (Int32.ofNat 0)] H (some (.long (p27 [115, 100, 101, 119])), ov H []) := by sorry
theorem m_wo9 {H : List AE} : FR 2 293 [.int (Int32.ofNat 9)] H (some (.long (wo 9)), ov H []) := by sorry
theorem m_sp10 {H : List AE} : FR 1 279 [.int (Int32.ofNat 112), .int (Int32.ofNat 97), .int (Int32.ofNat 114), .int (Int32.ofNat 116), .int (Int32.ofNat 115), .int (Int32.ofNat 0)] H (some (.long (p27 [115, 116, 114, 97, 112])), ov H []) := by sorry
theorem m_wo10 {H : List AE} : FR 2 293 [.int (Int32.ofNat 10)] H (some (.long (wo 10)), ov H []) := by sorry
theorem m_sp11 {H : List AE} : FR 1 279 [.int (Int32.ofNat 103), .int (Int32.ofNat 108), .int (Int32.ofNat 111), .int (Int32.ofNat 118), .int (Int32.ofNat 101), .int (Int32.ofNat 115)] H (some (.long (p27 [115, 101, 118, 111, 108, 103])), ov H []) := by sorry
theorem m_wo11 {H : List AE} : FR 2 293 [.int (Int32.ofNat 11)] H (some (.long (wo 11)), ov H []) := by sorry
theorem m_sp12 {H : List AE} : FR 1 279 [.int (Int32.ofNat 98), .int (Int32.ofNat 97), .int (Int32.ofNat 114), .int (Int32.ofNat 101), .int (Int32.ofNat 115), .int (Int32.ofNat 0)] H (some (.long (p27 [115, 101, 114, 97, 98])), ov H []) := by sorry
theorem m_wo12 {H : List AE} : FR 2 293 [.int (Int32.ofNat 12)] H (some (.long (wo 12)), ov H []) := by sorry
theorem m_sp13 {H : List AE} : FR 1 279 [.int (Int32.ofNat 114), .int (Int32.ofNat 105), .int (Int32.ofNat 103), .int (Int32.ofNat 104), .int (Int32.ofNat 116), .int (Int32.ofNat 0)] H (some (.long (p27 [116, 104, 103, 105, 114])), ov H []) := by sorry
theorem m_wo13 {H : List AE} : FR 2 293 [.int (Int32.ofNat 13)] H (some (.long (wo 13)), ov H []) := by sorry
theorem m_sp14 {H : List AE} : FR 1 279 [.int (Int32.ofNat 108), .int (Int32.ofNat 101), .int (Int32.ofNat 102), .int (Int32.ofNat 116), .int (Int32.ofNat 0), .int (Int32.ofNat 0)] H (some (.long (p27 [116, 102, 101, 108])), ov H []) := by sorry
theorem m_wo14 {H : List AE} : FR 2 293 [.int (Int32.ofNat 14)] H (some (.long (wo 14)), ov H []) := by sorry
theorem m_sp15 {H : List AE} : FR 1 279 [.int (Int32.ofNat 116), .int (Int32.ofNat 119), .int (Int32.ofNat 111), .int (Int32.ofNat 0), .int (Int32.ofNat 0), .int (Int32.ofNat 0)] H (some (.long (p27 [111, 119, 116])), ov H []) := by sorry
theorem m_wo15 {H : List AE} : FR 2 293 [.int (Int32.ofNat 15)] H (some (.long (wo 15)), ov H []) := by sorry
theorem m_sp16 {H : List AE} : FR 1 279 [.int (Int32.ofNat 100), .int (Int32.ofNat 97), .int (Int32.ofNat 121), .int (Int32.ofNat 0), .int (Int32.ofNat 0), .int (Int32.ofNat 0)] H (some (.long (p27 [121, 97, 100])), ov H []) := by sorry
theorem m_wo16 {H : List AE} : FR 2 293 [.int (Int32.ofNat 16)] H (some (.long (wo 16)), ov H []) := by sorry
theorem m_sp17 {H : List AE} : FR 1 279 [.int (Int32.ofNat 111), .int (Int32.ofNat 114), .int (Int32.ofNat 0), .int (Int32.ofNat 0), .int (Int32.ofNat 0), .int (Int32.ofNat 0)] H (some (.long (p27 [114, 111])), ov H []) := by sorry
theorem m_wo17 {H : List AE} : FR 2 293 [.int (Int32.ofNat 17)] H (some (.long (wo 17)), ov H []) := by sorry
theorem m_sp18 {H : List AE} : FR 1 279 [.int (Int32.ofNat 97), .int (Int32.ofNat 110), .int (Int32.ofNat 100), .int (Int32.ofNat 0), .int (Int32.ofNat 0), .int (Int32.ofNat 0)] H (some (.long (p27 [100, 110, 97])), ov H []) := by sorry
theorem m_wo18 {H : List AE} : FR 2 293 [.int (Int32.ofNat 18)] H (some (.long (wo 18)), ov H []) := by sorry
theorem m_sp19 {H : List AE} : FR 1 279 [.int (Int32.ofNat 110), .int (Int32.ofNat 111), .int (Int32.ofNat 116), .int (Int32.ofNat 0), .int (Int32.ofNat 0), .int (Int32.ofNat 0)] H (some (.long (p27 [116, 111, 110])), ov H []) := by sorry
theorem m_wo19 {H : List AE} : FR 2 293 [.int (Int32.ofNat 19)] H (some (.long (wo 19)), ov H []) := by sorry
theorem m_sp20 {H : List AE} : FR 1 279 [.int (Int32.ofNat 106), .int (Int32.ofNat 97), .int (Int32.ofNat 105), .int (Int32.ofNat 108), .int (Int32.ofNat 101), .int (Int32.ofNat 100)] H (some (.long (p27 [100, 101, 108, 105, 97, 106])), ov H []) := by sorry
theorem m_wo20 {H : List AE} : FR 2 293 [.int (Int32.ofNat 20)] H (some (.long (wo 20)), ov H []) := by sorry
theorem m_sp21 {H : List AE} : FR 1 279 [.int (Int32.ofNat 103), .int (Int32.ofNat 108), .int (Int32.ofNat 111), .int (Int32.ofNat 118), .int (Int32.ofNat 101), .int (Int32.ofNat 100)] H (some (.long (p27 [100, 101, 118, 111, 108, 103])), ov H []) := by sorry
theorem m_wo21 {H : List AE} : FR 2 293 [.int (Int32.ofNat 21)] H (some (.long (wo 21)), ov H []) := by sorry
theorem m_sp22 {H : List AE} : FR 1 279 [.int (Int32.ofNat 119), .int (Int32.ofNat 101), .int (Int32.ofNat 100), .int (Int32.ofNat 0), .int (Int32.ofNat 0), .int (Int32.ofNat 0)] H (some (.long (p27 [100, 101, 119])), ov H []) := by sorry
theorem m_wo22 {H : List AE} : FR 2 293 [.int (Int32.ofNat 22)] H (some (.long (wo 22)), ov H []) := by sorry
theorem m_sp23 {H : List AE} : FR 1 279 [.int (Int32.ofNat 98), .int (Int32.ofNat 117), .int (Int32.ofNat 115), .int (Int32.ofNat 121), .int (Int32.ofNat 0), .int (Int32.ofNat 0)] H (some (.long (p27 [121, 115, 117, 98])), ov H []) := by sorry
theorem m_wo23 {H : List AE} : FR 2 293 [.int (Int32.ofNat 23)] H (some (.long (wo 23)), ov H []) := by sorry
theorem m_sp24 {H : List AE} : FR 1 279 [.int (Int32.ofNat 115), .int (Int32.ofNat 101), .int (Int32.ofNat 101), .int (Int32.ofNat 110), .int (Int32.ofNat 0), .int (Int32.ofNat 0)] H (some (.long (p27 [110, 101, 101, 115])), ov H []) := by sorry
theorem m_wo24 {H : List AE} : FR 2 293 [.int (Int32.ofNat 24)] H (some (.long (wo 24)), ov H []) := by sorry
theorem m_sp25 {H : List AE} : FR 1 279 [.int (Int32.ofNat 116), .int (Int32.ofNat 111), .int (Int32.ofNat 0), .int (Int32.ofNat 0), .int (Int32.ofNat 0), .int (Int32.ofNat 0)] H (some (.long (p27 [111, 116])), ov H []) := by sorry
theorem m_wo25 {H : List AE} : FR 2 293 [.int (Int32.ofNat 25)] H (some (.long (wo 25)), ov H []) := by sorry
theorem m_sp26 {H : List AE} : FR 1 279 [.int (Int32.ofNat 111), .int (Int32.ofNat 119), .int (Int32.ofNat 110), .int (Int32.ofNat 115), .int (Int32.ofNat 0), .int (Int32.ofNat 0)] H (some (.long (p27 [115, 110, 119, 111])), ov H []) := by sorry
theorem m_wo26 {H : List AE} : FR 2 293 [.int (Int32.ofNat 26)] H (some (.long (wo 26)), ov H []) := by sorry
theorem m_sp27 {H : List AE} : FR 1 279 [.int (Int32.ofNat 98), .int (Int32.ofNat 108), .int (Int32.ofNat 97), .int (Int32.ofNat 109), .int (Int32.ofNat 101), .int (Int32.ofNat 0)] H (some (.long (p27 [101, 109, 97, 108, 98])), ov H []) := by sorry
theorem m_wo27 {H : List AE} : FR 2 293 [.int (Int32.ofNat 27)] H (some (.long (wo 27)), ov H []) := by sorry
theorem m_sp28 {H : List AE} : FR 1 279 [.int (Int32.ofNat 105), .int (Int32.ofNat 100), .int (Int32.ofNat 101), .int (Int32.ofNat 97), .int (Int32.ofNat 0), .int (Int32.ofNat 0)] H (some (.long (p27 [97, 101, 100, 105])), ov H []) := by sorry
theorem m_wo28 {H : List AE} : FR 2 293 [.int (Int32.ofNat 28)] H (some (.long (wo 28)), ov H []) := by sorry
theorem m_sp29 {H : List AE} : FR 1 279 [.int (Int32.ofNat 110), .int (Int32.ofNat 117), .int (Int32.ofNat 109), .int (Int32.ofNat 98), .int (Int32.ofNat 101), .int (Int32.ofNat 114)] H (some (.long (p27 [114, 101, 98, 109, 117, 110])), ov H []) := by sorry
theorem m_wo29 {H : List AE} : FR 2 293 [.int (Int32.ofNat 29)] H (some (.long (wo 29)), ov H []) := by sorry
theorem m_wordOf {H : List AE} : ∀ k, k < 30 → FR 2 293 [.int (Int32.ofNat k)] H (some (.long (wo k)), ov H []) := by sorry
def isW (kd : Nat) (wd : Int64) (k : Nat) : Bool := Nat.beq kd 2 && decide (wd = wo k)
theorem m_isWord {H : List AE} (hlen : Nat.ble 204 H.length = true) {p0 p2 nu sg fa pl td : Int32} {sz lim fr kd : Nat} {wd : Int64} {po : List Value} {a : Nat} (h1 : H[180]? = some (mcl p0 p2 sz lim a fr kd nu sg fa pl wd td po)) (hk : kd < 10) {k : Nat} (hk2 : k < 30) : FR 3 227 [.ref 180, .int (Int32.ofNat k)] H (some (.int (b01 (isW kd wd k))), ov H []) := by sorry
def nmB (wd : Int64) : Nat → Nat → Bool
  | 0, _ => true
  | r + 1, k => if wd = wo k then false else nmB wd r (k + 1)
theorem m_isNameL {H : List AE} (hlen : Nat.ble 204 H.length = true) {p0 p2 nu sg fa pl td : Int32} {sz lim fr kd : Nat} {wd : Int64} {po : List Value} {a : Nat} : ∀ (r k : Nat) (L : List (Nat × Value)), k + r = 30 → ev_g L 0 = some (.ref 180) → ev_g L 1 = some (.int (Int32.ofNat k)) → RT MM 2 221 12 L [] (ov H [(180, mcl p0 p2 sz lim a fr kd nu sg fa pl wd td po)]) (some (.int (b01 (nmB wd r k))), ov H [(180, mcl p0 p2 sz lim a fr kd nu sg fa pl wd td po)]) := by sorry
theorem m_isName {H : List AE} (hlen : Nat.ble 204 H.length = true) {p0 p2 nu sg fa pl td : Int32} {sz lim fr kd : Nat} {wd : Int64} {po : List Value} {a : Nat} (h1 : H[180]? = some (mcl p0 p2 sz lim a fr kd nu sg fa pl wd td po)) (hk : kd < 10) : FR 3 221 [.ref 180] H (some (.int (b01 (Nat.beq kd 2 && nmB wd 30 0))), ov H []) := by sorry
theorem m_isSign {H : List AE} (hlen : Nat.ble 204 H.length = true) {p0 p2 nu sg fa pl td : Int32} {sz lim fr kd : Nat} {wd : Int64} {po : List Value} {a : Nat} (h1 : H[180]? = some (mcl p0 p2 sz lim a fr kd nu sg fa pl wd td po)) (hk : kd < 10) {c s : Nat} (hc : c < 256) (hs : s < 256) (hsg : kd = 4 → sg = Int32.ofNat s) : FR 1 225 [.ref 180, .int (Int32.ofNat c)] H (some (.int (b01 (Nat.beq kd 4 && Nat.beq s c))), ov H []) := by sorry
theorem m_bad {H : List AE} (hlen : Nat.ble 204 H.length = true) {p0 p2 nu sg fa pl td : Int32} {sz lim fr kd : Nat} {wd : Int64} {po : List Value} {a : Nat} (h1 : H[180]? = some (mcl p0 p2 sz lim a fr kd nu sg fa pl wd td po)) (hk : kd < 10) {kk : Int32} : FR 1 174 [.ref 180, .int kk] H (some (.int (Int32.ofNat 0)), ov H [(180, mcl p0 p2 sz lim a fr kd nu sg (if kd = 1 then Int32.ofNat 1 else kk) (Int32.ofNat fr) wd td po)]) := by sorry
theorem m_isIn {H : List AE} {v lo hi : Nat} (hv : v < 2000000) (hl : lo < 2000000) (hh : hi < 2000000) : FR 1 218 [.int (Int32.ofNat v), .int (Int32.ofNat lo), .int (Int32.ofNat hi)] H (some (.int (b01 (Nat.ble lo v && Nat.ble v hi))), ov H []) := by sorry
theorem x_refuse {H : List AE} (hlen : Nat.ble 204 H.length = true) {n lim kd pl w : Nat} {le : Int64} {nu tk fa fp : Int32} {a : Nat} (h1 : H[1]? = some (tcl n lim a kd pl w le nu tk fa fp)) {kk : Int32} : FR 1 165 [.ref 1, .int kk] H (some (.int (Int32.ofNat 0)), ov H [(1, tcl n lim a kd pl w le nu tk kk (Int32.ofNat pl))]) := by sorry
