theorem k8_100 : (Int8.ofInt 100).toInt32 = Int32.ofNat 100 := by decide +kernel
theorem k8_101 : (Int8.ofInt 101).toInt32 = Int32.ofNat 101 := by decide +kernel
theorem k8_102 : (Int8.ofInt 102).toInt32 = Int32.ofNat 102 := by decide +kernel
theorem k8_103 : (Int8.ofInt 103).toInt32 = Int32.ofNat 103 := by decide +kernel
theorem k8_104 : (Int8.ofInt 104).toInt32 = Int32.ofNat 104 := by decide +kernel
theorem k8_105 : (Int8.ofInt 105).toInt32 = Int32.ofNat 105 := by decide +kernel
theorem k8_106 : (Int8.ofInt 106).toInt32 = Int32.ofNat 106 := by decide +kernel
theorem k8_108 : (Int8.ofInt 108).toInt32 = Int32.ofNat 108 := by decide +kernel
theorem k8_109 : (Int8.ofInt 109).toInt32 = Int32.ofNat 109 := by decide +kernel
theorem k8_110 : (Int8.ofInt 110).toInt32 = Int32.ofNat 110 := by decide +kernel
theorem k8_111 : (Int8.ofInt 111).toInt32 = Int32.ofNat 111 := by decide +kernel
theorem k8_112 : (Int8.ofInt 112).toInt32 = Int32.ofNat 112 := by decide +kernel
theorem k8_114 : (Int8.ofInt 114).toInt32 = Int32.ofNat 114 := by decide +kernel
theorem k8_115 : (Int8.ofInt 115).toInt32 = Int32.ofNat 115 := by decide +kernel
theorem k8_116 : (Int8.ofInt 116).toInt32 = Int32.ofNat 116 := by decide +kernel
theorem k8_117 : (Int8.ofInt 117).toInt32 = Int32.ofNat 117 := by decide +kernel
theorem k8_118 : (Int8.ofInt 118).toInt32 = Int32.ofNat 118 := by decide +kernel
theorem k8_119 : (Int8.ofInt 119).toInt32 = Int32.ofNat 119 := by decide +kernel
theorem k8_121 : (Int8.ofInt 121).toInt32 = Int32.ofNat 121 := by decide +kernel
theorem k8_29 : (Int8.ofInt 29).toInt32 = Int32.ofNat 29 := by decide +kernel
theorem k8_98 : (Int8.ofInt 98).toInt32 = Int32.ofNat 98 := by decide +kernel
theorem k8_99 : (Int8.ofInt 99).toInt32 = Int32.ofNat 99 := by decide +kernel
/-! ===== the reference's words ===== -/
/-- the letters of each word, last one first -/
def WT : List (List Nat) := [[110, 111, 115, 114, 101, 112], [100, 101, 101, 100], [104, 116, 111, 98], [115, 101, 101, 115], [100, 110, 111, 102], [119, 97, 108], [108, 108, 101, 99], [115, 97, 101, 100, 105], [115, 101, 111, 100], [115, 100, 101, 119], [115, 116, 114, 97, 112], [115, 101, 118, 111, 108, 103], [115, 101, 114, 97, 98], [116, 104, 103, 105, 114], [116, 102, 101, 108], [111, 119, 116], [121, 97, 100], [114, 111], [100, 110, 97], [116, 111, 110], [100, 101, 108, 105, 97, 106], [100, 101, 118, 111, 108, 103], [100, 101, 119], [121, 115, 117, 98], [110, 101, 101, 115], [111, 116], [115, 110, 119, 111], [101, 109, 97, 108, 98], [97, 101, 100, 105], [114, 101, 98, 109, 117, 110]]
def wo (k : Nat) : Int64 := p27 (WT.getD k [])
theorem m_sp0 {H : List AE} : FR 1 279 [.int (Int32.ofNat 112), .int (Int32.ofNat 101), .int (Int32.ofNat 114), .int (Int32.ofNat 115), .int (Int32.ofNat 111), .int (Int32.ofNat 110)] H (some (.long (p27 [110, 111, 115, 114, 101, 112])), ov H []) := by
  refine FR_of rfl ?_
  refine RT_step (pc2 := 3) rfl (fun _ _ => rfl) ?_
  refine RT_step (pc2 := 4) rfl (fun _ _ => rfl) ?_
  refine RT_step (pc2 := 5) rfl (fun _ _ => rfl) ?_
  refine RT_step (pc2 := 8) rfl (fun _ _ => rfl) ?_
  refine RT_step (pc2 := 9) rfl (fun _ _ => rfl) ?_
  refine RT_step (pc2 := 10) rfl (fun _ _ => rfl) ?_
  refine RT_step (pc2 := 11) rfl (fun _ _ => rfl) ?_
  refine RT_step (pc2 := 12) rfl (fun _ _ => rfl) ?_
  refine RT_step (pc2 := 13) rfl (fun _ _ => rfl) ?_
  refine RT_step (pc2 := 16) rfl (fun _ _ => rfl) ?_
  refine RT_step (pc2 := 17) rfl (fun _ _ => rfl) ?_
  refine RT_step (pc2 := 19) rfl (fun _ _ => rfl) ?_
  refine RT_step (pc2 := 20) rfl (fun _ _ => rfl) ?_
  refine RT_step rfl (fun _ _ => rfl) ?_
  refine RT_el (by decide) ?_
  refine RT_step (pc2 := 26) rfl (fun _ _ => rfl) ?_
  refine RT_step (pc2 := 28) rfl (fun _ _ => rfl) ?_
  refine RT_step (pc2 := 29) rfl (fun _ _ => rfl) ?_
  refine RT_step (pc2 := 30) rfl (fun _ _ => rfl) ?_
  refine RT_step (pc2 := 31) rfl (fun _ _ => rfl) ?_
  refine RT_step (pc2 := 32) rfl (fun _ _ => rfl) ?_
  refine RT_step (pc2 := 35) rfl (fun _ _ => rfl) ?_
  refine RT_step (pc2 := 36) rfl (fun _ _ => rfl) ?_
  refine RT_step (pc2 := 38) rfl (fun _ _ => rfl) ?_
  refine RT_step (pc2 := 39) rfl (fun _ _ => rfl) ?_
  refine RT_step rfl (fun _ _ => rfl) ?_
  refine RT_el (by decide) ?_
  refine RT_step (pc2 := 45) rfl (fun _ _ => rfl) ?_
  refine RT_step (pc2 := 47) rfl (fun _ _ => rfl) ?_
  refine RT_step (pc2 := 48) rfl (fun _ _ => rfl) ?_
  refine RT_step (pc2 := 49) rfl (fun _ _ => rfl) ?_
  refine RT_step (pc2 := 50) rfl (fun _ _ => rfl) ?_
  refine RT_step (pc2 := 51) rfl (fun _ _ => rfl) ?_
  refine RT_step (pc2 := 54) rfl (fun _ _ => rfl) ?_
  refine RT_step (pc2 := 55) rfl (fun _ _ => rfl) ?_
  refine RT_step (pc2 := 57) rfl (fun _ _ => rfl) ?_
  refine RT_step (pc2 := 59) rfl (fun _ _ => rfl) ?_
  refine RT_step rfl (fun _ _ => rfl) ?_
  refine RT_el (by decide) ?_
  refine RT_step (pc2 := 65) rfl (fun _ _ => rfl) ?_
  refine RT_step (pc2 := 67) rfl (fun _ _ => rfl) ?_
  refine RT_step (pc2 := 68) rfl (fun _ _ => rfl) ?_
  refine RT_step (pc2 := 70) rfl (fun _ _ => rfl) ?_
  refine RT_step (pc2 := 71) rfl (fun _ _ => rfl) ?_
  refine RT_step (pc2 := 72) rfl (fun _ _ => rfl) ?_
  refine RT_step (pc2 := 75) rfl (fun _ _ => rfl) ?_
  refine RT_step (pc2 := 76) rfl (fun _ _ => rfl) ?_
  refine RT_step (pc2 := 78) rfl (fun _ _ => rfl) ?_
  refine RT_step (pc2 := 80) rfl (fun _ _ => rfl) ?_
  refine RT_step rfl (fun _ _ => rfl) ?_
  refine RT_el (by decide) ?_
  refine RT_step (pc2 := 86) rfl (fun _ _ => rfl) ?_
  refine RT_step (pc2 := 88) rfl (fun _ _ => rfl) ?_
  refine RT_step (pc2 := 89) rfl (fun _ _ => rfl) ?_
  refine RT_step (pc2 := 91) rfl (fun _ _ => rfl) ?_
  refine RT_step (pc2 := 92) rfl (fun _ _ => rfl) ?_
  refine RT_step (pc2 := 93) rfl (fun _ _ => rfl) ?_
  refine RT_step (pc2 := 96) rfl (fun _ _ => rfl) ?_
  refine RT_step (pc2 := 97) rfl (fun _ _ => rfl) ?_
  refine RT_step (pc2 := 99) rfl (fun _ _ => rfl) ?_
  refine RT_step (pc2 := 101) rfl (fun _ _ => rfl) ?_
  exact ow_eq (ow_lrt rfl rfl rfl) (congrArg (fun z => (some (Value.long z), H)) (show (Int64.ofNat 27 * (Int64.ofNat 27 * (Int64.ofNat 27 * (Int64.ofNat 27 * (Int64.ofNat 27 * ((Int32.ofNat 112).toInt64 - Int64.ofNat 96) + (Int32.ofNat 101).toInt64 - Int64.ofNat 96) + (Int32.ofNat 114).toInt64 - Int64.ofNat 96) + (Int32.ofNat 115).toInt64 - Int64.ofNat 96) + (Int32.ofNat 111).toInt64 - Int64.ofNat 96) + (Int32.ofNat 110).toInt64 - Int64.ofNat 96) = p27 [110, 111, 115, 114, 101, 112] from by decide +kernel))
theorem m_wo0 {H : List AE} : FR 2 293 [.int (Int32.ofNat 0)] H (some (.long (wo 0)), ov H []) := by
  refine FR_ov (l := []) (l2 := []) rfl rfl rfl ?_
  refine RT_step (pc2 := 1) rfl (fun _ _ => rfl) ?_
  refine RT_step (pc2 := 132) rfl (fun _ _ => rfl) ?_
  refine rt_bip rfl k8_112 ?_
  refine rt_bip rfl k8_101 ?_
  refine rt_bip rfl k8_114 ?_
  refine rt_bip rfl k8_115 ?_
  refine rt_bip rfl k8_111 ?_
  refine rt_bip rfl k8_110 ?_
  refine ow_is rfl rfl rfl rfl rfl m_sp0 rfl ?_
  exact ow_lrt rfl rfl rfl
theorem m_sp1 {H : List AE} : FR 1 279 [.int (Int32.ofNat 100), .int (Int32.ofNat 101), .int (Int32.ofNat 101), .int (Int32.ofNat 100), .int (Int32.ofNat 0), .int (Int32.ofNat 0)] H (some (.long (p27 [100, 101, 101, 100])), ov H []) := by
  refine FR_of rfl ?_
  refine RT_step (pc2 := 3) rfl (fun _ _ => rfl) ?_
  refine RT_step (pc2 := 4) rfl (fun _ _ => rfl) ?_
  refine RT_step (pc2 := 5) rfl (fun _ _ => rfl) ?_
  refine RT_step (pc2 := 8) rfl (fun _ _ => rfl) ?_
  refine RT_step (pc2 := 9) rfl (fun _ _ => rfl) ?_
  refine RT_step (pc2 := 10) rfl (fun _ _ => rfl) ?_
  refine RT_step (pc2 := 11) rfl (fun _ _ => rfl) ?_
  refine RT_step (pc2 := 12) rfl (fun _ _ => rfl) ?_
  refine RT_step (pc2 := 13) rfl (fun _ _ => rfl) ?_
  refine RT_step (pc2 := 16) rfl (fun _ _ => rfl) ?_
  refine RT_step (pc2 := 17) rfl (fun _ _ => rfl) ?_
  refine RT_step (pc2 := 19) rfl (fun _ _ => rfl) ?_
  refine RT_step (pc2 := 20) rfl (fun _ _ => rfl) ?_
  refine RT_step rfl (fun _ _ => rfl) ?_
  refine RT_el (by decide) ?_
  refine RT_step (pc2 := 26) rfl (fun _ _ => rfl) ?_
  refine RT_step (pc2 := 28) rfl (fun _ _ => rfl) ?_
  refine RT_step (pc2 := 29) rfl (fun _ _ => rfl) ?_
  refine RT_step (pc2 := 30) rfl (fun _ _ => rfl) ?_
  refine RT_step (pc2 := 31) rfl (fun _ _ => rfl) ?_
  refine RT_step (pc2 := 32) rfl (fun _ _ => rfl) ?_
  refine RT_step (pc2 := 35) rfl (fun _ _ => rfl) ?_
  refine RT_step (pc2 := 36) rfl (fun _ _ => rfl) ?_
  refine RT_step (pc2 := 38) rfl (fun _ _ => rfl) ?_
  refine RT_step (pc2 := 39) rfl (fun _ _ => rfl) ?_
  refine RT_step rfl (fun _ _ => rfl) ?_
  refine RT_el (by decide) ?_
  refine RT_step (pc2 := 45) rfl (fun _ _ => rfl) ?_
  refine RT_step (pc2 := 47) rfl (fun _ _ => rfl) ?_
  refine RT_step (pc2 := 48) rfl (fun _ _ => rfl) ?_
  refine RT_step (pc2 := 49) rfl (fun _ _ => rfl) ?_
  refine RT_step (pc2 := 50) rfl (fun _ _ => rfl) ?_
  refine RT_step (pc2 := 51) rfl (fun _ _ => rfl) ?_
  refine RT_step (pc2 := 54) rfl (fun _ _ => rfl) ?_
  refine RT_step (pc2 := 55) rfl (fun _ _ => rfl) ?_
  refine RT_step (pc2 := 57) rfl (fun _ _ => rfl) ?_
  refine RT_step (pc2 := 59) rfl (fun _ _ => rfl) ?_
  refine RT_step rfl (fun _ _ => rfl) ?_
  refine RT_if (by decide) ?_
  refine RT_step (pc2 := 80) rfl (fun _ _ => rfl) ?_
  refine RT_step rfl (fun _ _ => rfl) ?_
  refine RT_if (by decide) ?_
  refine RT_step (pc2 := 101) rfl (fun _ _ => rfl) ?_
  exact ow_eq (ow_lrt rfl rfl rfl) (congrArg (fun z => (some (Value.long z), H)) (show (Int64.ofNat 27 * (Int64.ofNat 27 * (Int64.ofNat 27 * ((Int32.ofNat 100).toInt64 - Int64.ofNat 96) + (Int32.ofNat 101).toInt64 - Int64.ofNat 96) + (Int32.ofNat 101).toInt64 - Int64.ofNat 96) + (Int32.ofNat 100).toInt64 - Int64.ofNat 96) = p27 [100, 101, 101, 100] from by decide +kernel))
theorem m_wo1 {H : List AE} : FR 2 293 [.int (Int32.ofNat 1)] H (some (.long (wo 1)), ov H []) := by
  refine FR_ov (l := []) (l2 := []) rfl rfl rfl ?_
  refine RT_step (pc2 := 1) rfl (fun _ _ => rfl) ?_
  refine RT_step (pc2 := 148) rfl (fun _ _ => rfl) ?_
  refine rt_bip rfl k8_100 ?_
  refine rt_bip rfl k8_101 ?_
  refine rt_bip rfl k8_101 ?_
  refine rt_bip rfl k8_100 ?_
  refine rt_ico rfl ki_0 ?_
  refine rt_ico rfl ki_0 ?_
  refine ow_is rfl rfl rfl rfl rfl m_sp1 rfl ?_
  exact ow_lrt rfl rfl rfl
theorem m_sp2 {H : List AE} : FR 1 279 [.int (Int32.ofNat 98), .int (Int32.ofNat 111), .int (Int32.ofNat 116), .int (Int32.ofNat 104), .int (Int32.ofNat 0), .int (Int32.ofNat 0)] H (some (.long (p27 [104, 116, 111, 98])), ov H []) := by
  refine FR_of rfl ?_
  refine RT_step (pc2 := 3) rfl (fun _ _ => rfl) ?_
  refine RT_step (pc2 := 4) rfl (fun _ _ => rfl) ?_
  refine RT_step (pc2 := 5) rfl (fun _ _ => rfl) ?_
  refine RT_step (pc2 := 8) rfl (fun _ _ => rfl) ?_
  refine RT_step (pc2 := 9) rfl (fun _ _ => rfl) ?_
  refine RT_step (pc2 := 10) rfl (fun _ _ => rfl) ?_
  refine RT_step (pc2 := 11) rfl (fun _ _ => rfl) ?_
  refine RT_step (pc2 := 12) rfl (fun _ _ => rfl) ?_
  refine RT_step (pc2 := 13) rfl (fun _ _ => rfl) ?_
  refine RT_step (pc2 := 16) rfl (fun _ _ => rfl) ?_
  refine RT_step (pc2 := 17) rfl (fun _ _ => rfl) ?_
  refine RT_step (pc2 := 19) rfl (fun _ _ => rfl) ?_
  refine RT_step (pc2 := 20) rfl (fun _ _ => rfl) ?_
  refine RT_step rfl (fun _ _ => rfl) ?_
  refine RT_el (by decide) ?_
  refine RT_step (pc2 := 26) rfl (fun _ _ => rfl) ?_
  refine RT_step (pc2 := 28) rfl (fun _ _ => rfl) ?_
  refine RT_step (pc2 := 29) rfl (fun _ _ => rfl) ?_
  refine RT_step (pc2 := 30) rfl (fun _ _ => rfl) ?_
  refine RT_step (pc2 := 31) rfl (fun _ _ => rfl) ?_
  refine RT_step (pc2 := 32) rfl (fun _ _ => rfl) ?_
  refine RT_step (pc2 := 35) rfl (fun _ _ => rfl) ?_
  refine RT_step (pc2 := 36) rfl (fun _ _ => rfl) ?_
  refine RT_step (pc2 := 38) rfl (fun _ _ => rfl) ?_
  refine RT_step (pc2 := 39) rfl (fun _ _ => rfl) ?_
  refine RT_step rfl (fun _ _ => rfl) ?_
  refine RT_el (by decide) ?_
  refine RT_step (pc2 := 45) rfl (fun _ _ => rfl) ?_
  refine RT_step (pc2 := 47) rfl (fun _ _ => rfl) ?_
  refine RT_step (pc2 := 48) rfl (fun _ _ => rfl) ?_
  refine RT_step (pc2 := 49) rfl (fun _ _ => rfl) ?_
  refine RT_step (pc2 := 50) rfl (fun _ _ => rfl) ?_
  refine RT_step (pc2 := 51) rfl (fun _ _ => rfl) ?_
  refine RT_step (pc2 := 54) rfl (fun _ _ => rfl) ?_
  refine RT_step (pc2 := 55) rfl (fun _ _ => rfl) ?_
  refine RT_step (pc2 := 57) rfl (fun _ _ => rfl) ?_
  refine RT_step (pc2 := 59) rfl (fun _ _ => rfl) ?_
  refine RT_step rfl (fun _ _ => rfl) ?_
  refine RT_if (by decide) ?_
  refine RT_step (pc2 := 80) rfl (fun _ _ => rfl) ?_
  refine RT_step rfl (fun _ _ => rfl) ?_
  refine RT_if (by decide) ?_
  refine RT_step (pc2 := 101) rfl (fun _ _ => rfl) ?_
  exact ow_eq (ow_lrt rfl rfl rfl) (congrArg (fun z => (some (Value.long z), H)) (show (Int64.ofNat 27 * (Int64.ofNat 27 * (Int64.ofNat 27 * ((Int32.ofNat 98).toInt64 - Int64.ofNat 96) + (Int32.ofNat 111).toInt64 - Int64.ofNat 96) + (Int32.ofNat 116).toInt64 - Int64.ofNat 96) + (Int32.ofNat 104).toInt64 - Int64.ofNat 96) = p27 [104, 116, 111, 98] from by decide +kernel))
theorem m_wo2 {H : List AE} : FR 2 293 [.int (Int32.ofNat 2)] H (some (.long (wo 2)), ov H []) := by
  refine FR_ov (l := []) (l2 := []) rfl rfl rfl ?_
  refine RT_step (pc2 := 1) rfl (fun _ _ => rfl) ?_
  refine RT_step (pc2 := 162) rfl (fun _ _ => rfl) ?_
  refine rt_bip rfl k8_98 ?_
  refine rt_bip rfl k8_111 ?_
  refine rt_bip rfl k8_116 ?_
  refine rt_bip rfl k8_104 ?_
  refine rt_ico rfl ki_0 ?_
  refine rt_ico rfl ki_0 ?_
  refine ow_is rfl rfl rfl rfl rfl m_sp2 rfl ?_
  exact ow_lrt rfl rfl rfl
theorem m_sp3 {H : List AE} : FR 1 279 [.int (Int32.ofNat 115), .int (Int32.ofNat 101), .int (Int32.ofNat 101), .int (Int32.ofNat 115), .int (Int32.ofNat 0), .int (Int32.ofNat 0)] H (some (.long (p27 [115, 101, 101, 115])), ov H []) := by
  refine FR_of rfl ?_
  refine RT_step (pc2 := 3) rfl (fun _ _ => rfl) ?_
  refine RT_step (pc2 := 4) rfl (fun _ _ => rfl) ?_
  refine RT_step (pc2 := 5) rfl (fun _ _ => rfl) ?_
  refine RT_step (pc2 := 8) rfl (fun _ _ => rfl) ?_
  refine RT_step (pc2 := 9) rfl (fun _ _ => rfl) ?_
  refine RT_step (pc2 := 10) rfl (fun _ _ => rfl) ?_
  refine RT_step (pc2 := 11) rfl (fun _ _ => rfl) ?_
  refine RT_step (pc2 := 12) rfl (fun _ _ => rfl) ?_
  refine RT_step (pc2 := 13) rfl (fun _ _ => rfl) ?_
  refine RT_step (pc2 := 16) rfl (fun _ _ => rfl) ?_
  refine RT_step (pc2 := 17) rfl (fun _ _ => rfl) ?_
  refine RT_step (pc2 := 19) rfl (fun _ _ => rfl) ?_
  refine RT_step (pc2 := 20) rfl (fun _ _ => rfl) ?_
  refine RT_step rfl (fun _ _ => rfl) ?_
  refine RT_el (by decide) ?_
  refine RT_step (pc2 := 26) rfl (fun _ _ => rfl) ?_
  refine RT_step (pc2 := 28) rfl (fun _ _ => rfl) ?_
  refine RT_step (pc2 := 29) rfl (fun _ _ => rfl) ?_
  refine RT_step (pc2 := 30) rfl (fun _ _ => rfl) ?_
  refine RT_step (pc2 := 31) rfl (fun _ _ => rfl) ?_
  refine RT_step (pc2 := 32) rfl (fun _ _ => rfl) ?_
  refine RT_step (pc2 := 35) rfl (fun _ _ => rfl) ?_
  refine RT_step (pc2 := 36) rfl (fun _ _ => rfl) ?_
  refine RT_step (pc2 := 38) rfl (fun _ _ => rfl) ?_
  refine RT_step (pc2 := 39) rfl (fun _ _ => rfl) ?_
  refine RT_step rfl (fun _ _ => rfl) ?_
  refine RT_el (by decide) ?_
  refine RT_step (pc2 := 45) rfl (fun _ _ => rfl) ?_
  refine RT_step (pc2 := 47) rfl (fun _ _ => rfl) ?_
  refine RT_step (pc2 := 48) rfl (fun _ _ => rfl) ?_
  refine RT_step (pc2 := 49) rfl (fun _ _ => rfl) ?_
  refine RT_step (pc2 := 50) rfl (fun _ _ => rfl) ?_
  refine RT_step (pc2 := 51) rfl (fun _ _ => rfl) ?_
  refine RT_step (pc2 := 54) rfl (fun _ _ => rfl) ?_
  refine RT_step (pc2 := 55) rfl (fun _ _ => rfl) ?_
  refine RT_step (pc2 := 57) rfl (fun _ _ => rfl) ?_
  refine RT_step (pc2 := 59) rfl (fun _ _ => rfl) ?_
  refine RT_step rfl (fun _ _ => rfl) ?_
  refine RT_if (by decide) ?_
  refine RT_step (pc2 := 80) rfl (fun _ _ => rfl) ?_
  refine RT_step rfl (fun _ _ => rfl) ?_
  refine RT_if (by decide) ?_
  refine RT_step (pc2 := 101) rfl (fun _ _ => rfl) ?_
  exact ow_eq (ow_lrt rfl rfl rfl) (congrArg (fun z => (some (Value.long z), H)) (show (Int64.ofNat 27 * (Int64.ofNat 27 * (Int64.ofNat 27 * ((Int32.ofNat 115).toInt64 - Int64.ofNat 96) + (Int32.ofNat 101).toInt64 - Int64.ofNat 96) + (Int32.ofNat 101).toInt64 - Int64.ofNat 96) + (Int32.ofNat 115).toInt64 - Int64.ofNat 96) = p27 [115, 101, 101, 115] from by decide +kernel))
theorem m_wo3 {H : List AE} : FR 2 293 [.int (Int32.ofNat 3)] H (some (.long (wo 3)), ov H []) := by
  refine FR_ov (l := []) (l2 := []) rfl rfl rfl ?_
  refine RT_step (pc2 := 1) rfl (fun _ _ => rfl) ?_
  refine RT_step (pc2 := 176) rfl (fun _ _ => rfl) ?_
  refine rt_bip rfl k8_115 ?_
  refine rt_bip rfl k8_101 ?_
  refine rt_bip rfl k8_101 ?_
  refine rt_bip rfl k8_115 ?_
  refine rt_ico rfl ki_0 ?_
  refine rt_ico rfl ki_0 ?_
  refine ow_is rfl rfl rfl rfl rfl m_sp3 rfl ?_
  exact ow_lrt rfl rfl rfl
theorem m_sp4 {H : List AE} : FR 1 279 [.int (Int32.ofNat 102), .int (Int32.ofNat 111), .int (Int32.ofNat 110), .int (Int32.ofNat 100), .int (Int32.ofNat 0), .int (Int32.ofNat 0)] H (some (.long (p27 [100, 110, 111, 102])), ov H []) := by
  refine FR_of rfl ?_
  refine RT_step (pc2 := 3) rfl (fun _ _ => rfl) ?_
  refine RT_step (pc2 := 4) rfl (fun _ _ => rfl) ?_
  refine RT_step (pc2 := 5) rfl (fun _ _ => rfl) ?_
  refine RT_step (pc2 := 8) rfl (fun _ _ => rfl) ?_
  refine RT_step (pc2 := 9) rfl (fun _ _ => rfl) ?_
  refine RT_step (pc2 := 10) rfl (fun _ _ => rfl) ?_
  refine RT_step (pc2 := 11) rfl (fun _ _ => rfl) ?_
  refine RT_step (pc2 := 12) rfl (fun _ _ => rfl) ?_
  refine RT_step (pc2 := 13) rfl (fun _ _ => rfl) ?_
  refine RT_step (pc2 := 16) rfl (fun _ _ => rfl) ?_
  refine RT_step (pc2 := 17) rfl (fun _ _ => rfl) ?_
  refine RT_step (pc2 := 19) rfl (fun _ _ => rfl) ?_
  refine RT_step (pc2 := 20) rfl (fun _ _ => rfl) ?_
  refine RT_step rfl (fun _ _ => rfl) ?_
  refine RT_el (by decide) ?_
  refine RT_step (pc2 := 26) rfl (fun _ _ => rfl) ?_
  refine RT_step (pc2 := 28) rfl (fun _ _ => rfl) ?_
  refine RT_step (pc2 := 29) rfl (fun _ _ => rfl) ?_
  refine RT_step (pc2 := 30) rfl (fun _ _ => rfl) ?_
  refine RT_step (pc2 := 31) rfl (fun _ _ => rfl) ?_
  refine RT_step (pc2 := 32) rfl (fun _ _ => rfl) ?_
  refine RT_step (pc2 := 35) rfl (fun _ _ => rfl) ?_
  refine RT_step (pc2 := 36) rfl (fun _ _ => rfl) ?_
  refine RT_step (pc2 := 38) rfl (fun _ _ => rfl) ?_
  refine RT_step (pc2 := 39) rfl (fun _ _ => rfl) ?_
  refine RT_step rfl (fun _ _ => rfl) ?_
  refine RT_el (by decide) ?_
  refine RT_step (pc2 := 45) rfl (fun _ _ => rfl) ?_
  refine RT_step (pc2 := 47) rfl (fun _ _ => rfl) ?_
  refine RT_step (pc2 := 48) rfl (fun _ _ => rfl) ?_
  refine RT_step (pc2 := 49) rfl (fun _ _ => rfl) ?_
  refine RT_step (pc2 := 50) rfl (fun _ _ => rfl) ?_
  refine RT_step (pc2 := 51) rfl (fun _ _ => rfl) ?_
  refine RT_step (pc2 := 54) rfl (fun _ _ => rfl) ?_
  refine RT_step (pc2 := 55) rfl (fun _ _ => rfl) ?_
  refine RT_step (pc2 := 57) rfl (fun _ _ => rfl) ?_
  refine RT_step (pc2 := 59) rfl (fun _ _ => rfl) ?_
  refine RT_step rfl (fun _ _ => rfl) ?_
  refine RT_if (by decide) ?_
  refine RT_step (pc2 := 80) rfl (fun _ _ => rfl) ?_
  refine RT_step rfl (fun _ _ => rfl) ?_
  refine RT_if (by decide) ?_
  refine RT_step (pc2 := 101) rfl (fun _ _ => rfl) ?_
  exact ow_eq (ow_lrt rfl rfl rfl) (congrArg (fun z => (some (Value.long z), H)) (show (Int64.ofNat 27 * (Int64.ofNat 27 * (Int64.ofNat 27 * ((Int32.ofNat 102).toInt64 - Int64.ofNat 96) + (Int32.ofNat 111).toInt64 - Int64.ofNat 96) + (Int32.ofNat 110).toInt64 - Int64.ofNat 96) + (Int32.ofNat 100).toInt64 - Int64.ofNat 96) = p27 [100, 110, 111, 102] from by decide +kernel))
theorem m_wo4 {H : List AE} : FR 2 293 [.int (Int32.ofNat 4)] H (some (.long (wo 4)), ov H []) := by
  refine FR_ov (l := []) (l2 := []) rfl rfl rfl ?_
  refine RT_step (pc2 := 1) rfl (fun _ _ => rfl) ?_
  refine RT_step (pc2 := 190) rfl (fun _ _ => rfl) ?_
  refine rt_bip rfl k8_102 ?_
  refine rt_bip rfl k8_111 ?_
  refine rt_bip rfl k8_110 ?_
  refine rt_bip rfl k8_100 ?_
  refine rt_ico rfl ki_0 ?_
  refine rt_ico rfl ki_0 ?_
  refine ow_is rfl rfl rfl rfl rfl m_sp4 rfl ?_
  exact ow_lrt rfl rfl rfl
theorem m_sp5 {H : List AE} : FR 1 279 [.int (Int32.ofNat 108), .int (Int32.ofNat 97), .int (Int32.ofNat 119), .int (Int32.ofNat 0), .int (Int32.ofNat 0), .int (Int32.ofNat 0)] H (some (.long (p27 [119, 97, 108])), ov H []) := by
  refine FR_of rfl ?_
  refine RT_step (pc2 := 3) rfl (fun _ _ => rfl) ?_
  refine RT_step (pc2 := 4) rfl (fun _ _ => rfl) ?_
  refine RT_step (pc2 := 5) rfl (fun _ _ => rfl) ?_
  refine RT_step (pc2 := 8) rfl (fun _ _ => rfl) ?_
  refine RT_step (pc2 := 9) rfl (fun _ _ => rfl) ?_
  refine RT_step (pc2 := 10) rfl (fun _ _ => rfl) ?_
  refine RT_step (pc2 := 11) rfl (fun _ _ => rfl) ?_
  refine RT_step (pc2 := 12) rfl (fun _ _ => rfl) ?_
  refine RT_step (pc2 := 13) rfl (fun _ _ => rfl) ?_
  refine RT_step (pc2 := 16) rfl (fun _ _ => rfl) ?_
  refine RT_step (pc2 := 17) rfl (fun _ _ => rfl) ?_
  refine RT_step (pc2 := 19) rfl (fun _ _ => rfl) ?_
  refine RT_step (pc2 := 20) rfl (fun _ _ => rfl) ?_
  refine RT_step rfl (fun _ _ => rfl) ?_
  refine RT_el (by decide) ?_
  refine RT_step (pc2 := 26) rfl (fun _ _ => rfl) ?_
  refine RT_step (pc2 := 28) rfl (fun _ _ => rfl) ?_
  refine RT_step (pc2 := 29) rfl (fun _ _ => rfl) ?_
  refine RT_step (pc2 := 30) rfl (fun _ _ => rfl) ?_
  refine RT_step (pc2 := 31) rfl (fun _ _ => rfl) ?_
  refine RT_step (pc2 := 32) rfl (fun _ _ => rfl) ?_
  refine RT_step (pc2 := 35) rfl (fun _ _ => rfl) ?_
  refine RT_step (pc2 := 36) rfl (fun _ _ => rfl) ?_
  refine RT_step (pc2 := 38) rfl (fun _ _ => rfl) ?_
  refine RT_step (pc2 := 39) rfl (fun _ _ => rfl) ?_
  refine RT_step rfl (fun _ _ => rfl) ?_
  refine RT_if (by decide) ?_
  refine RT_step (pc2 := 59) rfl (fun _ _ => rfl) ?_
  refine RT_step rfl (fun _ _ => rfl) ?_
  refine RT_if (by decide) ?_
  refine RT_step (pc2 := 80) rfl (fun _ _ => rfl) ?_
  refine RT_step rfl (fun _ _ => rfl) ?_
  refine RT_if (by decide) ?_
  refine RT_step (pc2 := 101) rfl (fun _ _ => rfl) ?_
  exact ow_eq (ow_lrt rfl rfl rfl) (congrArg (fun z => (some (Value.long z), H)) (show (Int64.ofNat 27 * (Int64.ofNat 27 * ((Int32.ofNat 108).toInt64 - Int64.ofNat 96) + (Int32.ofNat 97).toInt64 - Int64.ofNat 96) + (Int32.ofNat 119).toInt64 - Int64.ofNat 96) = p27 [119, 97, 108] from by decide +kernel))
theorem m_wo5 {H : List AE} : FR 2 293 [.int (Int32.ofNat 5)] H (some (.long (wo 5)), ov H []) := by
  refine FR_ov (l := []) (l2 := []) rfl rfl rfl ?_
  refine RT_step (pc2 := 1) rfl (fun _ _ => rfl) ?_
  refine RT_step (pc2 := 204) rfl (fun _ _ => rfl) ?_
  refine rt_bip rfl k8_108 ?_
  refine rt_bip rfl k8_97 ?_
  refine rt_bip rfl k8_119 ?_
  refine rt_ico rfl ki_0 ?_
  refine rt_ico rfl ki_0 ?_
  refine rt_ico rfl ki_0 ?_
  refine ow_is rfl rfl rfl rfl rfl m_sp5 rfl ?_
  exact ow_lrt rfl rfl rfl
theorem m_sp6 {H : List AE} : FR 1 279 [.int (Int32.ofNat 99), .int (Int32.ofNat 101), .int (Int32.ofNat 108), .int (Int32.ofNat 108), .int (Int32.ofNat 0), .int (Int32.ofNat 0)] H (some (.long (p27 [108, 108, 101, 99])), ov H []) := by
  refine FR_of rfl ?_
  refine RT_step (pc2 := 3) rfl (fun _ _ => rfl) ?_
  refine RT_step (pc2 := 4) rfl (fun _ _ => rfl) ?_
  refine RT_step (pc2 := 5) rfl (fun _ _ => rfl) ?_
  refine RT_step (pc2 := 8) rfl (fun _ _ => rfl) ?_
  refine RT_step (pc2 := 9) rfl (fun _ _ => rfl) ?_
  refine RT_step (pc2 := 10) rfl (fun _ _ => rfl) ?_
  refine RT_step (pc2 := 11) rfl (fun _ _ => rfl) ?_
  refine RT_step (pc2 := 12) rfl (fun _ _ => rfl) ?_
  refine RT_step (pc2 := 13) rfl (fun _ _ => rfl) ?_
  refine RT_step (pc2 := 16) rfl (fun _ _ => rfl) ?_
  refine RT_step (pc2 := 17) rfl (fun _ _ => rfl) ?_
  refine RT_step (pc2 := 19) rfl (fun _ _ => rfl) ?_
  refine RT_step (pc2 := 20) rfl (fun _ _ => rfl) ?_
  refine RT_step rfl (fun _ _ => rfl) ?_
  refine RT_el (by decide) ?_
  refine RT_step (pc2 := 26) rfl (fun _ _ => rfl) ?_
  refine RT_step (pc2 := 28) rfl (fun _ _ => rfl) ?_
  refine RT_step (pc2 := 29) rfl (fun _ _ => rfl) ?_
  refine RT_step (pc2 := 30) rfl (fun _ _ => rfl) ?_
  refine RT_step (pc2 := 31) rfl (fun _ _ => rfl) ?_
  refine RT_step (pc2 := 32) rfl (fun _ _ => rfl) ?_
  refine RT_step (pc2 := 35) rfl (fun _ _ => rfl) ?_
  refine RT_step (pc2 := 36) rfl (fun _ _ => rfl) ?_
  refine RT_step (pc2 := 38) rfl (fun _ _ => rfl) ?_
  refine RT_step (pc2 := 39) rfl (fun _ _ => rfl) ?_
  refine RT_step rfl (fun _ _ => rfl) ?_
  refine RT_el (by decide) ?_
  refine RT_step (pc2 := 45) rfl (fun _ _ => rfl) ?_
  refine RT_step (pc2 := 47) rfl (fun _ _ => rfl) ?_
  refine RT_step (pc2 := 48) rfl (fun _ _ => rfl) ?_
  refine RT_step (pc2 := 49) rfl (fun _ _ => rfl) ?_
  refine RT_step (pc2 := 50) rfl (fun _ _ => rfl) ?_
  refine RT_step (pc2 := 51) rfl (fun _ _ => rfl) ?_
  refine RT_step (pc2 := 54) rfl (fun _ _ => rfl) ?_
  refine RT_step (pc2 := 55) rfl (fun _ _ => rfl) ?_
  refine RT_step (pc2 := 57) rfl (fun _ _ => rfl) ?_
  refine RT_step (pc2 := 59) rfl (fun _ _ => rfl) ?_
  refine RT_step rfl (fun _ _ => rfl) ?_
  refine RT_if (by decide) ?_
  refine RT_step (pc2 := 80) rfl (fun _ _ => rfl) ?_
  refine RT_step rfl (fun _ _ => rfl) ?_
  refine RT_if (by decide) ?_
  refine RT_step (pc2 := 101) rfl (fun _ _ => rfl) ?_
  exact ow_eq (ow_lrt rfl rfl rfl) (congrArg (fun z => (some (Value.long z), H)) (show (Int64.ofNat 27 * (Int64.ofNat 27 * (Int64.ofNat 27 * ((Int32.ofNat 99).toInt64 - Int64.ofNat 96) + (Int32.ofNat 101).toInt64 - Int64.ofNat 96) + (Int32.ofNat 108).toInt64 - Int64.ofNat 96) + (Int32.ofNat 108).toInt64 - Int64.ofNat 96) = p27 [108, 108, 101, 99] from by decide +kernel))
theorem m_wo6 {H : List AE} : FR 2 293 [.int (Int32.ofNat 6)] H (some (.long (wo 6)), ov H []) := by
  refine FR_ov (l := []) (l2 := []) rfl rfl rfl ?_
  refine RT_step (pc2 := 1) rfl (fun _ _ => rfl) ?_
  refine RT_step (pc2 := 217) rfl (fun _ _ => rfl) ?_
  refine rt_bip rfl k8_99 ?_
  refine rt_bip rfl k8_101 ?_
  refine rt_bip rfl k8_108 ?_
  refine rt_bip rfl k8_108 ?_
  refine rt_ico rfl ki_0 ?_
  refine rt_ico rfl ki_0 ?_
  refine ow_is rfl rfl rfl rfl rfl m_sp6 rfl ?_
  exact ow_lrt rfl rfl rfl
theorem m_sp7 {H : List AE} : FR 1 279 [.int (Int32.ofNat 105), .int (Int32.ofNat 100), .int (Int32.ofNat 101), .int (Int32.ofNat 97), .int (Int32.ofNat 115), .int (Int32.ofNat 0)] H (some (.long (p27 [115, 97, 101, 100, 105])), ov H []) := by
  refine FR_of rfl ?_
  refine RT_step (pc2 := 3) rfl (fun _ _ => rfl) ?_
  refine RT_step (pc2 := 4) rfl (fun _ _ => rfl) ?_
  refine RT_step (pc2 := 5) rfl (fun _ _ => rfl) ?_
  refine RT_step (pc2 := 8) rfl (fun _ _ => rfl) ?_
  refine RT_step (pc2 := 9) rfl (fun _ _ => rfl) ?_
  refine RT_step (pc2 := 10) rfl (fun _ _ => rfl) ?_
  refine RT_step (pc2 := 11) rfl (fun _ _ => rfl) ?_
  refine RT_step (pc2 := 12) rfl (fun _ _ => rfl) ?_
  refine RT_step (pc2 := 13) rfl (fun _ _ => rfl) ?_
  refine RT_step (pc2 := 16) rfl (fun _ _ => rfl) ?_
  refine RT_step (pc2 := 17) rfl (fun _ _ => rfl) ?_
  refine RT_step (pc2 := 19) rfl (fun _ _ => rfl) ?_
  refine RT_step (pc2 := 20) rfl (fun _ _ => rfl) ?_
  refine RT_step rfl (fun _ _ => rfl) ?_
  refine RT_el (by decide) ?_
  refine RT_step (pc2 := 26) rfl (fun _ _ => rfl) ?_
  refine RT_step (pc2 := 28) rfl (fun _ _ => rfl) ?_
  refine RT_step (pc2 := 29) rfl (fun _ _ => rfl) ?_
  refine RT_step (pc2 := 30) rfl (fun _ _ => rfl) ?_
  refine RT_step (pc2 := 31) rfl (fun _ _ => rfl) ?_
  refine RT_step (pc2 := 32) rfl (fun _ _ => rfl) ?_
  refine RT_step (pc2 := 35) rfl (fun _ _ => rfl) ?_
  refine RT_step (pc2 := 36) rfl (fun _ _ => rfl) ?_
  refine RT_step (pc2 := 38) rfl (fun _ _ => rfl) ?_
  refine RT_step (pc2 := 39) rfl (fun _ _ => rfl) ?_
  refine RT_step rfl (fun _ _ => rfl) ?_
  refine RT_el (by decide) ?_
  refine RT_step (pc2 := 45) rfl (fun _ _ => rfl) ?_
  refine RT_step (pc2 := 47) rfl (fun _ _ => rfl) ?_
  refine RT_step (pc2 := 48) rfl (fun _ _ => rfl) ?_
  refine RT_step (pc2 := 49) rfl (fun _ _ => rfl) ?_
  refine RT_step (pc2 := 50) rfl (fun _ _ => rfl) ?_
  refine RT_step (pc2 := 51) rfl (fun _ _ => rfl) ?_
  refine RT_step (pc2 := 54) rfl (fun _ _ => rfl) ?_
  refine RT_step (pc2 := 55) rfl (fun _ _ => rfl) ?_
  refine RT_step (pc2 := 57) rfl (fun _ _ => rfl) ?_
  refine RT_step (pc2 := 59) rfl (fun _ _ => rfl) ?_
  refine RT_step rfl (fun _ _ => rfl) ?_
  refine RT_el (by decide) ?_
  refine RT_step (pc2 := 65) rfl (fun _ _ => rfl) ?_
  refine RT_step (pc2 := 67) rfl (fun _ _ => rfl) ?_
  refine RT_step (pc2 := 68) rfl (fun _ _ => rfl) ?_
  refine RT_step (pc2 := 70) rfl (fun _ _ => rfl) ?_
  refine RT_step (pc2 := 71) rfl (fun _ _ => rfl) ?_
  refine RT_step (pc2 := 72) rfl (fun _ _ => rfl) ?_
  refine RT_step (pc2 := 75) rfl (fun _ _ => rfl) ?_
  refine RT_step (pc2 := 76) rfl (fun _ _ => rfl) ?_
  refine RT_step (pc2 := 78) rfl (fun _ _ => rfl) ?_
  refine RT_step (pc2 := 80) rfl (fun _ _ => rfl) ?_
  refine RT_step rfl (fun _ _ => rfl) ?_
  refine RT_if (by decide) ?_
  refine RT_step (pc2 := 101) rfl (fun _ _ => rfl) ?_
  exact ow_eq (ow_lrt rfl rfl rfl) (congrArg (fun z => (some (Value.long z), H)) (show (Int64.ofNat 27 * (Int64.ofNat 27 * (Int64.ofNat 27 * (Int64.ofNat 27 * ((Int32.ofNat 105).toInt64 - Int64.ofNat 96) + (Int32.ofNat 100).toInt64 - Int64.ofNat 96) + (Int32.ofNat 101).toInt64 - Int64.ofNat 96) + (Int32.ofNat 97).toInt64 - Int64.ofNat 96) + (Int32.ofNat 115).toInt64 - Int64.ofNat 96) = p27 [115, 97, 101, 100, 105] from by decide +kernel))
theorem m_wo7 {H : List AE} : FR 2 293 [.int (Int32.ofNat 7)] H (some (.long (wo 7)), ov H []) := by
  refine FR_ov (l := []) (l2 := []) rfl rfl rfl ?_
  refine RT_step (pc2 := 1) rfl (fun _ _ => rfl) ?_
  refine RT_step (pc2 := 231) rfl (fun _ _ => rfl) ?_
  refine rt_bip rfl k8_105 ?_
  refine rt_bip rfl k8_100 ?_
  refine rt_bip rfl k8_101 ?_
  refine rt_bip rfl k8_97 ?_
  refine rt_bip rfl k8_115 ?_
  refine rt_ico rfl ki_0 ?_
  refine ow_is rfl rfl rfl rfl rfl m_sp7 rfl ?_
  exact ow_lrt rfl rfl rfl
theorem m_sp8 {H : List AE} : FR 1 279 [.int (Int32.ofNat 100), .int (Int32.ofNat 111), .int (Int32.ofNat 101), .int (Int32.ofNat 115), .int (Int32.ofNat 0), .int (Int32.ofNat 0)] H (some (.long (p27 [115, 101, 111, 100])), ov H []) := by
  refine FR_of rfl ?_
  refine RT_step (pc2 := 3) rfl (fun _ _ => rfl) ?_
  refine RT_step (pc2 := 4) rfl (fun _ _ => rfl) ?_
  refine RT_step (pc2 := 5) rfl (fun _ _ => rfl) ?_
  refine RT_step (pc2 := 8) rfl (fun _ _ => rfl) ?_
  refine RT_step (pc2 := 9) rfl (fun _ _ => rfl) ?_
  refine RT_step (pc2 := 10) rfl (fun _ _ => rfl) ?_
  refine RT_step (pc2 := 11) rfl (fun _ _ => rfl) ?_
  refine RT_step (pc2 := 12) rfl (fun _ _ => rfl) ?_
  refine RT_step (pc2 := 13) rfl (fun _ _ => rfl) ?_
  refine RT_step (pc2 := 16) rfl (fun _ _ => rfl) ?_
  refine RT_step (pc2 := 17) rfl (fun _ _ => rfl) ?_
  refine RT_step (pc2 := 19) rfl (fun _ _ => rfl) ?_
  refine RT_step (pc2 := 20) rfl (fun _ _ => rfl) ?_
  refine RT_step rfl (fun _ _ => rfl) ?_
  refine RT_el (by decide) ?_
  refine RT_step (pc2 := 26) rfl (fun _ _ => rfl) ?_
  refine RT_step (pc2 := 28) rfl (fun _ _ => rfl) ?_
  refine RT_step (pc2 := 29) rfl (fun _ _ => rfl) ?_
  refine RT_step (pc2 := 30) rfl (fun _ _ => rfl) ?_
  refine RT_step (pc2 := 31) rfl (fun _ _ => rfl) ?_
  refine RT_step (pc2 := 32) rfl (fun _ _ => rfl) ?_
  refine RT_step (pc2 := 35) rfl (fun _ _ => rfl) ?_
  refine RT_step (pc2 := 36) rfl (fun _ _ => rfl) ?_
  refine RT_step (pc2 := 38) rfl (fun _ _ => rfl) ?_
  refine RT_step (pc2 := 39) rfl (fun _ _ => rfl) ?_
  refine RT_step rfl (fun _ _ => rfl) ?_
  refine RT_el (by decide) ?_
  refine RT_step (pc2 := 45) rfl (fun _ _ => rfl) ?_
  refine RT_step (pc2 := 47) rfl (fun _ _ => rfl) ?_
  refine RT_step (pc2 := 48) rfl (fun _ _ => rfl) ?_
  refine RT_step (pc2 := 49) rfl (fun _ _ => rfl) ?_
  refine RT_step (pc2 := 50) rfl (fun _ _ => rfl) ?_
  refine RT_step (pc2 := 51) rfl (fun _ _ => rfl) ?_
  refine RT_step (pc2 := 54) rfl (fun _ _ => rfl) ?_
  refine RT_step (pc2 := 55) rfl (fun _ _ => rfl) ?_
  refine RT_step (pc2 := 57) rfl (fun _ _ => rfl) ?_
  refine RT_step (pc2 := 59) rfl (fun _ _ => rfl) ?_
  refine RT_step rfl (fun _ _ => rfl) ?_
  refine RT_if (by decide) ?_
  refine RT_step (pc2 := 80) rfl (fun _ _ => rfl) ?_
  refine RT_step rfl (fun _ _ => rfl) ?_
  refine RT_if (by decide) ?_
  refine RT_step (pc2 := 101) rfl (fun _ _ => rfl) ?_
  exact ow_eq (ow_lrt rfl rfl rfl) (congrArg (fun z => (some (Value.long z), H)) (show (Int64.ofNat 27 * (Int64.ofNat 27 * (Int64.ofNat 27 * ((Int32.ofNat 100).toInt64 - Int64.ofNat 96) + (Int32.ofNat 111).toInt64 - Int64.ofNat 96) + (Int32.ofNat 101).toInt64 - Int64.ofNat 96) + (Int32.ofNat 115).toInt64 - Int64.ofNat 96) = p27 [115, 101, 111, 100] from by decide +kernel))
theorem m_wo8 {H : List AE} : FR 2 293 [.int (Int32.ofNat 8)] H (some (.long (wo 8)), ov H []) := by
  refine FR_ov (l := []) (l2 := []) rfl rfl rfl ?_
  refine RT_step (pc2 := 1) rfl (fun _ _ => rfl) ?_
  refine RT_step (pc2 := 246) rfl (fun _ _ => rfl) ?_
  refine rt_bip rfl k8_100 ?_
  refine rt_bip rfl k8_111 ?_
  refine rt_bip rfl k8_101 ?_
  refine rt_bip rfl k8_115 ?_
  refine rt_ico rfl ki_0 ?_
  refine rt_ico rfl ki_0 ?_
  refine ow_is rfl rfl rfl rfl rfl m_sp8 rfl ?_
  exact ow_lrt rfl rfl rfl
theorem m_sp9 {H : List AE} : FR 1 279 [.int (Int32.ofNat 119), .int (Int32.ofNat 101), .int (Int32.ofNat 100), .int (Int32.ofNat 115), .int (Int32.ofNat 0), .int (Int32.ofNat 0)] H (some (.long (p27 [115, 100, 101, 119])), ov H []) := by
  refine FR_of rfl ?_
  refine RT_step (pc2 := 3) rfl (fun _ _ => rfl) ?_
  refine RT_step (pc2 := 4) rfl (fun _ _ => rfl) ?_
  refine RT_step (pc2 := 5) rfl (fun _ _ => rfl) ?_
  refine RT_step (pc2 := 8) rfl (fun _ _ => rfl) ?_
  refine RT_step (pc2 := 9) rfl (fun _ _ => rfl) ?_
  refine RT_step (pc2 := 10) rfl (fun _ _ => rfl) ?_
  refine RT_step (pc2 := 11) rfl (fun _ _ => rfl) ?_
  refine RT_step (pc2 := 12) rfl (fun _ _ => rfl) ?_
  refine RT_step (pc2 := 13) rfl (fun _ _ => rfl) ?_
  refine RT_step (pc2 := 16) rfl (fun _ _ => rfl) ?_
  refine RT_step (pc2 := 17) rfl (fun _ _ => rfl) ?_
  refine RT_step (pc2 := 19) rfl (fun _ _ => rfl) ?_
  refine RT_step (pc2 := 20) rfl (fun _ _ => rfl) ?_
  refine RT_step rfl (fun _ _ => rfl) ?_
  refine RT_el (by decide) ?_
  refine RT_step (pc2 := 26) rfl (fun _ _ => rfl) ?_
  refine RT_step (pc2 := 28) rfl (fun _ _ => rfl) ?_
  refine RT_step (pc2 := 29) rfl (fun _ _ => rfl) ?_
  refine RT_step (pc2 := 30) rfl (fun _ _ => rfl) ?_
  refine RT_step (pc2 := 31) rfl (fun _ _ => rfl) ?_
  refine RT_step (pc2 := 32) rfl (fun _ _ => rfl) ?_
  refine RT_step (pc2 := 35) rfl (fun _ _ => rfl) ?_
  refine RT_step (pc2 := 36) rfl (fun _ _ => rfl) ?_
  refine RT_step (pc2 := 38) rfl (fun _ _ => rfl) ?_
  refine RT_step (pc2 := 39) rfl (fun _ _ => rfl) ?_
  refine RT_step rfl (fun _ _ => rfl) ?_
  refine RT_el (by decide) ?_
  refine RT_step (pc2 := 45) rfl (fun _ _ => rfl) ?_
  refine RT_step (pc2 := 47) rfl (fun _ _ => rfl) ?_
  refine RT_step (pc2 := 48) rfl (fun _ _ => rfl) ?_
  refine RT_step (pc2 := 49) rfl (fun _ _ => rfl) ?_
  refine RT_step (pc2 := 50) rfl (fun _ _ => rfl) ?_
  refine RT_step (pc2 := 51) rfl (fun _ _ => rfl) ?_
  refine RT_step (pc2 := 54) rfl (fun _ _ => rfl) ?_
  refine RT_step (pc2 := 55) rfl (fun _ _ => rfl) ?_
  refine RT_step (pc2 := 57) rfl (fun _ _ => rfl) ?_
  refine RT_step (pc2 := 59) rfl (fun _ _ => rfl) ?_
  refine RT_step rfl (fun _ _ => rfl) ?_
  refine RT_if (by decide) ?_
  refine RT_step (pc2 := 80) rfl (fun _ _ => rfl) ?_
  refine RT_step rfl (fun _ _ => rfl) ?_
  refine RT_if (by decide) ?_
  refine RT_step (pc2 := 101) rfl (fun _ _ => rfl) ?_
  exact ow_eq (ow_lrt rfl rfl rfl) (congrArg (fun z => (some (Value.long z), H)) (show (Int64.ofNat 27 * (Int64.ofNat 27 * (Int64.ofNat 27 * ((Int32.ofNat 119).toInt64 - Int64.ofNat 96) + (Int32.ofNat 101).toInt64 - Int64.ofNat 96) + (Int32.ofNat 100).toInt64 - Int64.ofNat 96) + (Int32.ofNat 115).toInt64 - Int64.ofNat 96) = p27 [115, 100, 101, 119] from by decide +kernel))
theorem m_wo9 {H : List AE} : FR 2 293 [.int (Int32.ofNat 9)] H (some (.long (wo 9)), ov H []) := by
  refine FR_ov (l := []) (l2 := []) rfl rfl rfl ?_
  refine RT_step (pc2 := 1) rfl (fun _ _ => rfl) ?_
  refine RT_step (pc2 := 260) rfl (fun _ _ => rfl) ?_
  refine rt_bip rfl k8_119 ?_
  refine rt_bip rfl k8_101 ?_
  refine rt_bip rfl k8_100 ?_
  refine rt_bip rfl k8_115 ?_
  refine rt_ico rfl ki_0 ?_
  refine rt_ico rfl ki_0 ?_
  refine ow_is rfl rfl rfl rfl rfl m_sp9 rfl ?_
  exact ow_lrt rfl rfl rfl
theorem m_sp10 {H : List AE} : FR 1 279 [.int (Int32.ofNat 112), .int (Int32.ofNat 97), .int (Int32.ofNat 114), .int (Int32.ofNat 116), .int (Int32.ofNat 115), .int (Int32.ofNat 0)] H (some (.long (p27 [115, 116, 114, 97, 112])), ov H []) := by
  refine FR_of rfl ?_
  refine RT_step (pc2 := 3) rfl (fun _ _ => rfl) ?_
  refine RT_step (pc2 := 4) rfl (fun _ _ => rfl) ?_
  refine RT_step (pc2 := 5) rfl (fun _ _ => rfl) ?_
  refine RT_step (pc2 := 8) rfl (fun _ _ => rfl) ?_
  refine RT_step (pc2 := 9) rfl (fun _ _ => rfl) ?_
  refine RT_step (pc2 := 10) rfl (fun _ _ => rfl) ?_
  refine RT_step (pc2 := 11) rfl (fun _ _ => rfl) ?_
  refine RT_step (pc2 := 12) rfl (fun _ _ => rfl) ?_
  refine RT_step (pc2 := 13) rfl (fun _ _ => rfl) ?_
  refine RT_step (pc2 := 16) rfl (fun _ _ => rfl) ?_
  refine RT_step (pc2 := 17) rfl (fun _ _ => rfl) ?_
  refine RT_step (pc2 := 19) rfl (fun _ _ => rfl) ?_
  refine RT_step (pc2 := 20) rfl (fun _ _ => rfl) ?_
  refine RT_step rfl (fun _ _ => rfl) ?_
  refine RT_el (by decide) ?_
  refine RT_step (pc2 := 26) rfl (fun _ _ => rfl) ?_
  refine RT_step (pc2 := 28) rfl (fun _ _ => rfl) ?_
  refine RT_step (pc2 := 29) rfl (fun _ _ => rfl) ?_
  refine RT_step (pc2 := 30) rfl (fun _ _ => rfl) ?_
  refine RT_step (pc2 := 31) rfl (fun _ _ => rfl) ?_
  refine RT_step (pc2 := 32) rfl (fun _ _ => rfl) ?_
  refine RT_step (pc2 := 35) rfl (fun _ _ => rfl) ?_
  refine RT_step (pc2 := 36) rfl (fun _ _ => rfl) ?_
  refine RT_step (pc2 := 38) rfl (fun _ _ => rfl) ?_
  refine RT_step (pc2 := 39) rfl (fun _ _ => rfl) ?_
  refine RT_step rfl (fun _ _ => rfl) ?_
  refine RT_el (by decide) ?_
  refine RT_step (pc2 := 45) rfl (fun _ _ => rfl) ?_
  refine RT_step (pc2 := 47) rfl (fun _ _ => rfl) ?_
  refine RT_step (pc2 := 48) rfl (fun _ _ => rfl) ?_
  refine RT_step (pc2 := 49) rfl (fun _ _ => rfl) ?_
  refine RT_step (pc2 := 50) rfl (fun _ _ => rfl) ?_
  refine RT_step (pc2 := 51) rfl (fun _ _ => rfl) ?_
  refine RT_step (pc2 := 54) rfl (fun _ _ => rfl) ?_
  refine RT_step (pc2 := 55) rfl (fun _ _ => rfl) ?_
  refine RT_step (pc2 := 57) rfl (fun _ _ => rfl) ?_
  refine RT_step (pc2 := 59) rfl (fun _ _ => rfl) ?_
  refine RT_step rfl (fun _ _ => rfl) ?_
  refine RT_el (by decide) ?_
  refine RT_step (pc2 := 65) rfl (fun _ _ => rfl) ?_
  refine RT_step (pc2 := 67) rfl (fun _ _ => rfl) ?_
  refine RT_step (pc2 := 68) rfl (fun _ _ => rfl) ?_
  refine RT_step (pc2 := 70) rfl (fun _ _ => rfl) ?_
  refine RT_step (pc2 := 71) rfl (fun _ _ => rfl) ?_
  refine RT_step (pc2 := 72) rfl (fun _ _ => rfl) ?_
  refine RT_step (pc2 := 75) rfl (fun _ _ => rfl) ?_
  refine RT_step (pc2 := 76) rfl (fun _ _ => rfl) ?_
  refine RT_step (pc2 := 78) rfl (fun _ _ => rfl) ?_
  refine RT_step (pc2 := 80) rfl (fun _ _ => rfl) ?_
  refine RT_step rfl (fun _ _ => rfl) ?_
  refine RT_if (by decide) ?_
  refine RT_step (pc2 := 101) rfl (fun _ _ => rfl) ?_
  exact ow_eq (ow_lrt rfl rfl rfl) (congrArg (fun z => (some (Value.long z), H)) (show (Int64.ofNat 27 * (Int64.ofNat 27 * (Int64.ofNat 27 * (Int64.ofNat 27 * ((Int32.ofNat 112).toInt64 - Int64.ofNat 96) + (Int32.ofNat 97).toInt64 - Int64.ofNat 96) + (Int32.ofNat 114).toInt64 - Int64.ofNat 96) + (Int32.ofNat 116).toInt64 - Int64.ofNat 96) + (Int32.ofNat 115).toInt64 - Int64.ofNat 96) = p27 [115, 116, 114, 97, 112] from by decide +kernel))
theorem m_wo10 {H : List AE} : FR 2 293 [.int (Int32.ofNat 10)] H (some (.long (wo 10)), ov H []) := by
  refine FR_ov (l := []) (l2 := []) rfl rfl rfl ?_
  refine RT_step (pc2 := 1) rfl (fun _ _ => rfl) ?_
  refine RT_step (pc2 := 274) rfl (fun _ _ => rfl) ?_
  refine rt_bip rfl k8_112 ?_
  refine rt_bip rfl k8_97 ?_
  refine rt_bip rfl k8_114 ?_
  refine rt_bip rfl k8_116 ?_
  refine rt_bip rfl k8_115 ?_
  refine rt_ico rfl ki_0 ?_
  refine ow_is rfl rfl rfl rfl rfl m_sp10 rfl ?_
  exact ow_lrt rfl rfl rfl
theorem m_sp11 {H : List AE} : FR 1 279 [.int (Int32.ofNat 103), .int (Int32.ofNat 108), .int (Int32.ofNat 111), .int (Int32.ofNat 118), .int (Int32.ofNat 101), .int (Int32.ofNat 115)] H (some (.long (p27 [115, 101, 118, 111, 108, 103])), ov H []) := by
  refine FR_of rfl ?_
  refine RT_step (pc2 := 3) rfl (fun _ _ => rfl) ?_
  refine RT_step (pc2 := 4) rfl (fun _ _ => rfl) ?_
  refine RT_step (pc2 := 5) rfl (fun _ _ => rfl) ?_
  refine RT_step (pc2 := 8) rfl (fun _ _ => rfl) ?_
  refine RT_step (pc2 := 9) rfl (fun _ _ => rfl) ?_
  refine RT_step (pc2 := 10) rfl (fun _ _ => rfl) ?_
  refine RT_step (pc2 := 11) rfl (fun _ _ => rfl) ?_
  refine RT_step (pc2 := 12) rfl (fun _ _ => rfl) ?_
  refine RT_step (pc2 := 13) rfl (fun _ _ => rfl) ?_
  refine RT_step (pc2 := 16) rfl (fun _ _ => rfl) ?_
  refine RT_step (pc2 := 17) rfl (fun _ _ => rfl) ?_
  refine RT_step (pc2 := 19) rfl (fun _ _ => rfl) ?_
  refine RT_step (pc2 := 20) rfl (fun _ _ => rfl) ?_
  refine RT_step rfl (fun _ _ => rfl) ?_
  refine RT_el (by decide) ?_
  refine RT_step (pc2 := 26) rfl (fun _ _ => rfl) ?_
  refine RT_step (pc2 := 28) rfl (fun _ _ => rfl) ?_
  refine RT_step (pc2 := 29) rfl (fun _ _ => rfl) ?_
  refine RT_step (pc2 := 30) rfl (fun _ _ => rfl) ?_
  refine RT_step (pc2 := 31) rfl (fun _ _ => rfl) ?_
  refine RT_step (pc2 := 32) rfl (fun _ _ => rfl) ?_
  refine RT_step (pc2 := 35) rfl (fun _ _ => rfl) ?_
  refine RT_step (pc2 := 36) rfl (fun _ _ => rfl) ?_
  refine RT_step (pc2 := 38) rfl (fun _ _ => rfl) ?_
  refine RT_step (pc2 := 39) rfl (fun _ _ => rfl) ?_
  refine RT_step rfl (fun _ _ => rfl) ?_
  refine RT_el (by decide) ?_
  refine RT_step (pc2 := 45) rfl (fun _ _ => rfl) ?_
  refine RT_step (pc2 := 47) rfl (fun _ _ => rfl) ?_
  refine RT_step (pc2 := 48) rfl (fun _ _ => rfl) ?_
  refine RT_step (pc2 := 49) rfl (fun _ _ => rfl) ?_
  refine RT_step (pc2 := 50) rfl (fun _ _ => rfl) ?_
  refine RT_step (pc2 := 51) rfl (fun _ _ => rfl) ?_
  refine RT_step (pc2 := 54) rfl (fun _ _ => rfl) ?_
  refine RT_step (pc2 := 55) rfl (fun _ _ => rfl) ?_
  refine RT_step (pc2 := 57) rfl (fun _ _ => rfl) ?_
  refine RT_step (pc2 := 59) rfl (fun _ _ => rfl) ?_
  refine RT_step rfl (fun _ _ => rfl) ?_
  refine RT_el (by decide) ?_
  refine RT_step (pc2 := 65) rfl (fun _ _ => rfl) ?_
  refine RT_step (pc2 := 67) rfl (fun _ _ => rfl) ?_
  refine RT_step (pc2 := 68) rfl (fun _ _ => rfl) ?_
  refine RT_step (pc2 := 70) rfl (fun _ _ => rfl) ?_
  refine RT_step (pc2 := 71) rfl (fun _ _ => rfl) ?_
  refine RT_step (pc2 := 72) rfl (fun _ _ => rfl) ?_
  refine RT_step (pc2 := 75) rfl (fun _ _ => rfl) ?_
  refine RT_step (pc2 := 76) rfl (fun _ _ => rfl) ?_
  refine RT_step (pc2 := 78) rfl (fun _ _ => rfl) ?_
  refine RT_step (pc2 := 80) rfl (fun _ _ => rfl) ?_
  refine RT_step rfl (fun _ _ => rfl) ?_
  refine RT_el (by decide) ?_
  refine RT_step (pc2 := 86) rfl (fun _ _ => rfl) ?_
  refine RT_step (pc2 := 88) rfl (fun _ _ => rfl) ?_
  refine RT_step (pc2 := 89) rfl (fun _ _ => rfl) ?_
  refine RT_step (pc2 := 91) rfl (fun _ _ => rfl) ?_
  refine RT_step (pc2 := 92) rfl (fun _ _ => rfl) ?_
  refine RT_step (pc2 := 93) rfl (fun _ _ => rfl) ?_
  refine RT_step (pc2 := 96) rfl (fun _ _ => rfl) ?_
  refine RT_step (pc2 := 97) rfl (fun _ _ => rfl) ?_
  refine RT_step (pc2 := 99) rfl (fun _ _ => rfl) ?_
  refine RT_step (pc2 := 101) rfl (fun _ _ => rfl) ?_
  exact ow_eq (ow_lrt rfl rfl rfl) (congrArg (fun z => (some (Value.long z), H)) (show (Int64.ofNat 27 * (Int64.ofNat 27 * (Int64.ofNat 27 * (Int64.ofNat 27 * (Int64.ofNat 27 * ((Int32.ofNat 103).toInt64 - Int64.ofNat 96) + (Int32.ofNat 108).toInt64 - Int64.ofNat 96) + (Int32.ofNat 111).toInt64 - Int64.ofNat 96) + (Int32.ofNat 118).toInt64 - Int64.ofNat 96) + (Int32.ofNat 101).toInt64 - Int64.ofNat 96) + (Int32.ofNat 115).toInt64 - Int64.ofNat 96) = p27 [115, 101, 118, 111, 108, 103] from by decide +kernel))
theorem m_wo11 {H : List AE} : FR 2 293 [.int (Int32.ofNat 11)] H (some (.long (wo 11)), ov H []) := by
  refine FR_ov (l := []) (l2 := []) rfl rfl rfl ?_
  refine RT_step (pc2 := 1) rfl (fun _ _ => rfl) ?_
  refine RT_step (pc2 := 289) rfl (fun _ _ => rfl) ?_
  refine rt_bip rfl k8_103 ?_
  refine rt_bip rfl k8_108 ?_
  refine rt_bip rfl k8_111 ?_
  refine rt_bip rfl k8_118 ?_
  refine rt_bip rfl k8_101 ?_
  refine rt_bip rfl k8_115 ?_
  refine ow_is rfl rfl rfl rfl rfl m_sp11 rfl ?_
  exact ow_lrt rfl rfl rfl
theorem m_sp12 {H : List AE} : FR 1 279 [.int (Int32.ofNat 98), .int (Int32.ofNat 97), .int (Int32.ofNat 114), .int (Int32.ofNat 101), .int (Int32.ofNat 115), .int (Int32.ofNat 0)] H (some (.long (p27 [115, 101, 114, 97, 98])), ov H []) := by
  refine FR_of rfl ?_
  refine RT_step (pc2 := 3) rfl (fun _ _ => rfl) ?_
  refine RT_step (pc2 := 4) rfl (fun _ _ => rfl) ?_
  refine RT_step (pc2 := 5) rfl (fun _ _ => rfl) ?_
  refine RT_step (pc2 := 8) rfl (fun _ _ => rfl) ?_
  refine RT_step (pc2 := 9) rfl (fun _ _ => rfl) ?_
  refine RT_step (pc2 := 10) rfl (fun _ _ => rfl) ?_
  refine RT_step (pc2 := 11) rfl (fun _ _ => rfl) ?_
  refine RT_step (pc2 := 12) rfl (fun _ _ => rfl) ?_
  refine RT_step (pc2 := 13) rfl (fun _ _ => rfl) ?_
  refine RT_step (pc2 := 16) rfl (fun _ _ => rfl) ?_
  refine RT_step (pc2 := 17) rfl (fun _ _ => rfl) ?_
  refine RT_step (pc2 := 19) rfl (fun _ _ => rfl) ?_
  refine RT_step (pc2 := 20) rfl (fun _ _ => rfl) ?_
  refine RT_step rfl (fun _ _ => rfl) ?_
  refine RT_el (by decide) ?_
  refine RT_step (pc2 := 26) rfl (fun _ _ => rfl) ?_
  refine RT_step (pc2 := 28) rfl (fun _ _ => rfl) ?_
  refine RT_step (pc2 := 29) rfl (fun _ _ => rfl) ?_
  refine RT_step (pc2 := 30) rfl (fun _ _ => rfl) ?_
  refine RT_step (pc2 := 31) rfl (fun _ _ => rfl) ?_
  refine RT_step (pc2 := 32) rfl (fun _ _ => rfl) ?_
  refine RT_step (pc2 := 35) rfl (fun _ _ => rfl) ?_
  refine RT_step (pc2 := 36) rfl (fun _ _ => rfl) ?_
  refine RT_step (pc2 := 38) rfl (fun _ _ => rfl) ?_
  refine RT_step (pc2 := 39) rfl (fun _ _ => rfl) ?_
  refine RT_step rfl (fun _ _ => rfl) ?_
  refine RT_el (by decide) ?_
  refine RT_step (pc2 := 45) rfl (fun _ _ => rfl) ?_
  refine RT_step (pc2 := 47) rfl (fun _ _ => rfl) ?_
  refine RT_step (pc2 := 48) rfl (fun _ _ => rfl) ?_
  refine RT_step (pc2 := 49) rfl (fun _ _ => rfl) ?_
  refine RT_step (pc2 := 50) rfl (fun _ _ => rfl) ?_
  refine RT_step (pc2 := 51) rfl (fun _ _ => rfl) ?_
  refine RT_step (pc2 := 54) rfl (fun _ _ => rfl) ?_
  refine RT_step (pc2 := 55) rfl (fun _ _ => rfl) ?_
  refine RT_step (pc2 := 57) rfl (fun _ _ => rfl) ?_
  refine RT_step (pc2 := 59) rfl (fun _ _ => rfl) ?_
  refine RT_step rfl (fun _ _ => rfl) ?_
  refine RT_el (by decide) ?_
  refine RT_step (pc2 := 65) rfl (fun _ _ => rfl) ?_
  refine RT_step (pc2 := 67) rfl (fun _ _ => rfl) ?_
  refine RT_step (pc2 := 68) rfl (fun _ _ => rfl) ?_
  refine RT_step (pc2 := 70) rfl (fun _ _ => rfl) ?_
  refine RT_step (pc2 := 71) rfl (fun _ _ => rfl) ?_
  refine RT_step (pc2 := 72) rfl (fun _ _ => rfl) ?_
  refine RT_step (pc2 := 75) rfl (fun _ _ => rfl) ?_
  refine RT_step (pc2 := 76) rfl (fun _ _ => rfl) ?_
  refine RT_step (pc2 := 78) rfl (fun _ _ => rfl) ?_
  refine RT_step (pc2 := 80) rfl (fun _ _ => rfl) ?_
  refine RT_step rfl (fun _ _ => rfl) ?_
  refine RT_if (by decide) ?_
  refine RT_step (pc2 := 101) rfl (fun _ _ => rfl) ?_
  exact ow_eq (ow_lrt rfl rfl rfl) (congrArg (fun z => (some (Value.long z), H)) (show (Int64.ofNat 27 * (Int64.ofNat 27 * (Int64.ofNat 27 * (Int64.ofNat 27 * ((Int32.ofNat 98).toInt64 - Int64.ofNat 96) + (Int32.ofNat 97).toInt64 - Int64.ofNat 96) + (Int32.ofNat 114).toInt64 - Int64.ofNat 96) + (Int32.ofNat 101).toInt64 - Int64.ofNat 96) + (Int32.ofNat 115).toInt64 - Int64.ofNat 96) = p27 [115, 101, 114, 97, 98] from by decide +kernel))
theorem m_wo12 {H : List AE} : FR 2 293 [.int (Int32.ofNat 12)] H (some (.long (wo 12)), ov H []) := by
  refine FR_ov (l := []) (l2 := []) rfl rfl rfl ?_
  refine RT_step (pc2 := 1) rfl (fun _ _ => rfl) ?_
  refine RT_step (pc2 := 305) rfl (fun _ _ => rfl) ?_
  refine rt_bip rfl k8_98 ?_
  refine rt_bip rfl k8_97 ?_
  refine rt_bip rfl k8_114 ?_
  refine rt_bip rfl k8_101 ?_
  refine rt_bip rfl k8_115 ?_
  refine rt_ico rfl ki_0 ?_
  refine ow_is rfl rfl rfl rfl rfl m_sp12 rfl ?_
  exact ow_lrt rfl rfl rfl
theorem m_sp13 {H : List AE} : FR 1 279 [.int (Int32.ofNat 114), .int (Int32.ofNat 105), .int (Int32.ofNat 103), .int (Int32.ofNat 104), .int (Int32.ofNat 116), .int (Int32.ofNat 0)] H (some (.long (p27 [116, 104, 103, 105, 114])), ov H []) := by
  refine FR_of rfl ?_
  refine RT_step (pc2 := 3) rfl (fun _ _ => rfl) ?_
  refine RT_step (pc2 := 4) rfl (fun _ _ => rfl) ?_
  refine RT_step (pc2 := 5) rfl (fun _ _ => rfl) ?_
  refine RT_step (pc2 := 8) rfl (fun _ _ => rfl) ?_
  refine RT_step (pc2 := 9) rfl (fun _ _ => rfl) ?_
  refine RT_step (pc2 := 10) rfl (fun _ _ => rfl) ?_
  refine RT_step (pc2 := 11) rfl (fun _ _ => rfl) ?_
  refine RT_step (pc2 := 12) rfl (fun _ _ => rfl) ?_
  refine RT_step (pc2 := 13) rfl (fun _ _ => rfl) ?_
  refine RT_step (pc2 := 16) rfl (fun _ _ => rfl) ?_
  refine RT_step (pc2 := 17) rfl (fun _ _ => rfl) ?_
  refine RT_step (pc2 := 19) rfl (fun _ _ => rfl) ?_
  refine RT_step (pc2 := 20) rfl (fun _ _ => rfl) ?_
  refine RT_step rfl (fun _ _ => rfl) ?_
  refine RT_el (by decide) ?_
  refine RT_step (pc2 := 26) rfl (fun _ _ => rfl) ?_
  refine RT_step (pc2 := 28) rfl (fun _ _ => rfl) ?_
  refine RT_step (pc2 := 29) rfl (fun _ _ => rfl) ?_
  refine RT_step (pc2 := 30) rfl (fun _ _ => rfl) ?_
  refine RT_step (pc2 := 31) rfl (fun _ _ => rfl) ?_
  refine RT_step (pc2 := 32) rfl (fun _ _ => rfl) ?_
  refine RT_step (pc2 := 35) rfl (fun _ _ => rfl) ?_
  refine RT_step (pc2 := 36) rfl (fun _ _ => rfl) ?_
  refine RT_step (pc2 := 38) rfl (fun _ _ => rfl) ?_
  refine RT_step (pc2 := 39) rfl (fun _ _ => rfl) ?_
  refine RT_step rfl (fun _ _ => rfl) ?_
  refine RT_el (by decide) ?_
  refine RT_step (pc2 := 45) rfl (fun _ _ => rfl) ?_
  refine RT_step (pc2 := 47) rfl (fun _ _ => rfl) ?_
  refine RT_step (pc2 := 48) rfl (fun _ _ => rfl) ?_
  refine RT_step (pc2 := 49) rfl (fun _ _ => rfl) ?_
  refine RT_step (pc2 := 50) rfl (fun _ _ => rfl) ?_
  refine RT_step (pc2 := 51) rfl (fun _ _ => rfl) ?_
  refine RT_step (pc2 := 54) rfl (fun _ _ => rfl) ?_
  refine RT_step (pc2 := 55) rfl (fun _ _ => rfl) ?_
  refine RT_step (pc2 := 57) rfl (fun _ _ => rfl) ?_
  refine RT_step (pc2 := 59) rfl (fun _ _ => rfl) ?_
  refine RT_step rfl (fun _ _ => rfl) ?_
  refine RT_el (by decide) ?_
  refine RT_step (pc2 := 65) rfl (fun _ _ => rfl) ?_
  refine RT_step (pc2 := 67) rfl (fun _ _ => rfl) ?_
  refine RT_step (pc2 := 68) rfl (fun _ _ => rfl) ?_
  refine RT_step (pc2 := 70) rfl (fun _ _ => rfl) ?_
  refine RT_step (pc2 := 71) rfl (fun _ _ => rfl) ?_
  refine RT_step (pc2 := 72) rfl (fun _ _ => rfl) ?_
  refine RT_step (pc2 := 75) rfl (fun _ _ => rfl) ?_
  refine RT_step (pc2 := 76) rfl (fun _ _ => rfl) ?_
  refine RT_step (pc2 := 78) rfl (fun _ _ => rfl) ?_
  refine RT_step (pc2 := 80) rfl (fun _ _ => rfl) ?_
  refine RT_step rfl (fun _ _ => rfl) ?_
  refine RT_if (by decide) ?_
  refine RT_step (pc2 := 101) rfl (fun _ _ => rfl) ?_
  exact ow_eq (ow_lrt rfl rfl rfl) (congrArg (fun z => (some (Value.long z), H)) (show (Int64.ofNat 27 * (Int64.ofNat 27 * (Int64.ofNat 27 * (Int64.ofNat 27 * ((Int32.ofNat 114).toInt64 - Int64.ofNat 96) + (Int32.ofNat 105).toInt64 - Int64.ofNat 96) + (Int32.ofNat 103).toInt64 - Int64.ofNat 96) + (Int32.ofNat 104).toInt64 - Int64.ofNat 96) + (Int32.ofNat 116).toInt64 - Int64.ofNat 96) = p27 [116, 104, 103, 105, 114] from by decide +kernel))
theorem m_wo13 {H : List AE} : FR 2 293 [.int (Int32.ofNat 13)] H (some (.long (wo 13)), ov H []) := by
  refine FR_ov (l := []) (l2 := []) rfl rfl rfl ?_
  refine RT_step (pc2 := 1) rfl (fun _ _ => rfl) ?_
  refine RT_step (pc2 := 320) rfl (fun _ _ => rfl) ?_
  refine rt_bip rfl k8_114 ?_
  refine rt_bip rfl k8_105 ?_
  refine rt_bip rfl k8_103 ?_
  refine rt_bip rfl k8_104 ?_
  refine rt_bip rfl k8_116 ?_
  refine rt_ico rfl ki_0 ?_
  refine ow_is rfl rfl rfl rfl rfl m_sp13 rfl ?_
  exact ow_lrt rfl rfl rfl
theorem m_sp14 {H : List AE} : FR 1 279 [.int (Int32.ofNat 108), .int (Int32.ofNat 101), .int (Int32.ofNat 102), .int (Int32.ofNat 116), .int (Int32.ofNat 0), .int (Int32.ofNat 0)] H (some (.long (p27 [116, 102, 101, 108])), ov H []) := by
  refine FR_of rfl ?_
  refine RT_step (pc2 := 3) rfl (fun _ _ => rfl) ?_
  refine RT_step (pc2 := 4) rfl (fun _ _ => rfl) ?_
  refine RT_step (pc2 := 5) rfl (fun _ _ => rfl) ?_
  refine RT_step (pc2 := 8) rfl (fun _ _ => rfl) ?_
  refine RT_step (pc2 := 9) rfl (fun _ _ => rfl) ?_
  refine RT_step (pc2 := 10) rfl (fun _ _ => rfl) ?_
  refine RT_step (pc2 := 11) rfl (fun _ _ => rfl) ?_
  refine RT_step (pc2 := 12) rfl (fun _ _ => rfl) ?_
  refine RT_step (pc2 := 13) rfl (fun _ _ => rfl) ?_
  refine RT_step (pc2 := 16) rfl (fun _ _ => rfl) ?_
  refine RT_step (pc2 := 17) rfl (fun _ _ => rfl) ?_
  refine RT_step (pc2 := 19) rfl (fun _ _ => rfl) ?_
  refine RT_step (pc2 := 20) rfl (fun _ _ => rfl) ?_
  refine RT_step rfl (fun _ _ => rfl) ?_
  refine RT_el (by decide) ?_
  refine RT_step (pc2 := 26) rfl (fun _ _ => rfl) ?_
  refine RT_step (pc2 := 28) rfl (fun _ _ => rfl) ?_
  refine RT_step (pc2 := 29) rfl (fun _ _ => rfl) ?_
  refine RT_step (pc2 := 30) rfl (fun _ _ => rfl) ?_
  refine RT_step (pc2 := 31) rfl (fun _ _ => rfl) ?_
  refine RT_step (pc2 := 32) rfl (fun _ _ => rfl) ?_
  refine RT_step (pc2 := 35) rfl (fun _ _ => rfl) ?_
  refine RT_step (pc2 := 36) rfl (fun _ _ => rfl) ?_
  refine RT_step (pc2 := 38) rfl (fun _ _ => rfl) ?_
  refine RT_step (pc2 := 39) rfl (fun _ _ => rfl) ?_
  refine RT_step rfl (fun _ _ => rfl) ?_
  refine RT_el (by decide) ?_
  refine RT_step (pc2 := 45) rfl (fun _ _ => rfl) ?_
  refine RT_step (pc2 := 47) rfl (fun _ _ => rfl) ?_
  refine RT_step (pc2 := 48) rfl (fun _ _ => rfl) ?_
  refine RT_step (pc2 := 49) rfl (fun _ _ => rfl) ?_
  refine RT_step (pc2 := 50) rfl (fun _ _ => rfl) ?_
  refine RT_step (pc2 := 51) rfl (fun _ _ => rfl) ?_
  refine RT_step (pc2 := 54) rfl (fun _ _ => rfl) ?_
  refine RT_step (pc2 := 55) rfl (fun _ _ => rfl) ?_
  refine RT_step (pc2 := 57) rfl (fun _ _ => rfl) ?_
  refine RT_step (pc2 := 59) rfl (fun _ _ => rfl) ?_
  refine RT_step rfl (fun _ _ => rfl) ?_
  refine RT_if (by decide) ?_
  refine RT_step (pc2 := 80) rfl (fun _ _ => rfl) ?_
  refine RT_step rfl (fun _ _ => rfl) ?_
  refine RT_if (by decide) ?_
  refine RT_step (pc2 := 101) rfl (fun _ _ => rfl) ?_
  exact ow_eq (ow_lrt rfl rfl rfl) (congrArg (fun z => (some (Value.long z), H)) (show (Int64.ofNat 27 * (Int64.ofNat 27 * (Int64.ofNat 27 * ((Int32.ofNat 108).toInt64 - Int64.ofNat 96) + (Int32.ofNat 101).toInt64 - Int64.ofNat 96) + (Int32.ofNat 102).toInt64 - Int64.ofNat 96) + (Int32.ofNat 116).toInt64 - Int64.ofNat 96) = p27 [116, 102, 101, 108] from by decide +kernel))
theorem m_wo14 {H : List AE} : FR 2 293 [.int (Int32.ofNat 14)] H (some (.long (wo 14)), ov H []) := by
  refine FR_ov (l := []) (l2 := []) rfl rfl rfl ?_
  refine RT_step (pc2 := 1) rfl (fun _ _ => rfl) ?_
  refine RT_step (pc2 := 335) rfl (fun _ _ => rfl) ?_
  refine rt_bip rfl k8_108 ?_
  refine rt_bip rfl k8_101 ?_
  refine rt_bip rfl k8_102 ?_
  refine rt_bip rfl k8_116 ?_
  refine rt_ico rfl ki_0 ?_
  refine rt_ico rfl ki_0 ?_
  refine ow_is rfl rfl rfl rfl rfl m_sp14 rfl ?_
  exact ow_lrt rfl rfl rfl
theorem m_sp15 {H : List AE} : FR 1 279 [.int (Int32.ofNat 116), .int (Int32.ofNat 119), .int (Int32.ofNat 111), .int (Int32.ofNat 0), .int (Int32.ofNat 0), .int (Int32.ofNat 0)] H (some (.long (p27 [111, 119, 116])), ov H []) := by
  refine FR_of rfl ?_
  refine RT_step (pc2 := 3) rfl (fun _ _ => rfl) ?_
  refine RT_step (pc2 := 4) rfl (fun _ _ => rfl) ?_
  refine RT_step (pc2 := 5) rfl (fun _ _ => rfl) ?_
  refine RT_step (pc2 := 8) rfl (fun _ _ => rfl) ?_
  refine RT_step (pc2 := 9) rfl (fun _ _ => rfl) ?_
  refine RT_step (pc2 := 10) rfl (fun _ _ => rfl) ?_
  refine RT_step (pc2 := 11) rfl (fun _ _ => rfl) ?_
  refine RT_step (pc2 := 12) rfl (fun _ _ => rfl) ?_
  refine RT_step (pc2 := 13) rfl (fun _ _ => rfl) ?_
  refine RT_step (pc2 := 16) rfl (fun _ _ => rfl) ?_
  refine RT_step (pc2 := 17) rfl (fun _ _ => rfl) ?_
  refine RT_step (pc2 := 19) rfl (fun _ _ => rfl) ?_
  refine RT_step (pc2 := 20) rfl (fun _ _ => rfl) ?_
  refine RT_step rfl (fun _ _ => rfl) ?_
  refine RT_el (by decide) ?_
  refine RT_step (pc2 := 26) rfl (fun _ _ => rfl) ?_
  refine RT_step (pc2 := 28) rfl (fun _ _ => rfl) ?_
  refine RT_step (pc2 := 29) rfl (fun _ _ => rfl) ?_
  refine RT_step (pc2 := 30) rfl (fun _ _ => rfl) ?_
  refine RT_step (pc2 := 31) rfl (fun _ _ => rfl) ?_
  refine RT_step (pc2 := 32) rfl (fun _ _ => rfl) ?_
  refine RT_step (pc2 := 35) rfl (fun _ _ => rfl) ?_
  refine RT_step (pc2 := 36) rfl (fun _ _ => rfl) ?_
  refine RT_step (pc2 := 38) rfl (fun _ _ => rfl) ?_
  refine RT_step (pc2 := 39) rfl (fun _ _ => rfl) ?_
  refine RT_step rfl (fun _ _ => rfl) ?_
  refine RT_if (by decide) ?_
  refine RT_step (pc2 := 59) rfl (fun _ _ => rfl) ?_
  refine RT_step rfl (fun _ _ => rfl) ?_
  refine RT_if (by decide) ?_
  refine RT_step (pc2 := 80) rfl (fun _ _ => rfl) ?_
  refine RT_step rfl (fun _ _ => rfl) ?_
  refine RT_if (by decide) ?_
  refine RT_step (pc2 := 101) rfl (fun _ _ => rfl) ?_
  exact ow_eq (ow_lrt rfl rfl rfl) (congrArg (fun z => (some (Value.long z), H)) (show (Int64.ofNat 27 * (Int64.ofNat 27 * ((Int32.ofNat 116).toInt64 - Int64.ofNat 96) + (Int32.ofNat 119).toInt64 - Int64.ofNat 96) + (Int32.ofNat 111).toInt64 - Int64.ofNat 96) = p27 [111, 119, 116] from by decide +kernel))
theorem m_wo15 {H : List AE} : FR 2 293 [.int (Int32.ofNat 15)] H (some (.long (wo 15)), ov H []) := by
  refine FR_ov (l := []) (l2 := []) rfl rfl rfl ?_
  refine RT_step (pc2 := 1) rfl (fun _ _ => rfl) ?_
  refine RT_step (pc2 := 349) rfl (fun _ _ => rfl) ?_
  refine rt_bip rfl k8_116 ?_
  refine rt_bip rfl k8_119 ?_
  refine rt_bip rfl k8_111 ?_
  refine rt_ico rfl ki_0 ?_
  refine rt_ico rfl ki_0 ?_
  refine rt_ico rfl ki_0 ?_
  refine ow_is rfl rfl rfl rfl rfl m_sp15 rfl ?_
  exact ow_lrt rfl rfl rfl
theorem m_sp16 {H : List AE} : FR 1 279 [.int (Int32.ofNat 100), .int (Int32.ofNat 97), .int (Int32.ofNat 121), .int (Int32.ofNat 0), .int (Int32.ofNat 0), .int (Int32.ofNat 0)] H (some (.long (p27 [121, 97, 100])), ov H []) := by
  refine FR_of rfl ?_
  refine RT_step (pc2 := 3) rfl (fun _ _ => rfl) ?_
  refine RT_step (pc2 := 4) rfl (fun _ _ => rfl) ?_
  refine RT_step (pc2 := 5) rfl (fun _ _ => rfl) ?_
  refine RT_step (pc2 := 8) rfl (fun _ _ => rfl) ?_
  refine RT_step (pc2 := 9) rfl (fun _ _ => rfl) ?_
  refine RT_step (pc2 := 10) rfl (fun _ _ => rfl) ?_
  refine RT_step (pc2 := 11) rfl (fun _ _ => rfl) ?_
  refine RT_step (pc2 := 12) rfl (fun _ _ => rfl) ?_
  refine RT_step (pc2 := 13) rfl (fun _ _ => rfl) ?_
  refine RT_step (pc2 := 16) rfl (fun _ _ => rfl) ?_
  refine RT_step (pc2 := 17) rfl (fun _ _ => rfl) ?_
  refine RT_step (pc2 := 19) rfl (fun _ _ => rfl) ?_
  refine RT_step (pc2 := 20) rfl (fun _ _ => rfl) ?_
  refine RT_step rfl (fun _ _ => rfl) ?_
  refine RT_el (by decide) ?_
  refine RT_step (pc2 := 26) rfl (fun _ _ => rfl) ?_
  refine RT_step (pc2 := 28) rfl (fun _ _ => rfl) ?_
  refine RT_step (pc2 := 29) rfl (fun _ _ => rfl) ?_
  refine RT_step (pc2 := 30) rfl (fun _ _ => rfl) ?_
  refine RT_step (pc2 := 31) rfl (fun _ _ => rfl) ?_
  refine RT_step (pc2 := 32) rfl (fun _ _ => rfl) ?_
  refine RT_step (pc2 := 35) rfl (fun _ _ => rfl) ?_
  refine RT_step (pc2 := 36) rfl (fun _ _ => rfl) ?_
  refine RT_step (pc2 := 38) rfl (fun _ _ => rfl) ?_
  refine RT_step (pc2 := 39) rfl (fun _ _ => rfl) ?_
  refine RT_step rfl (fun _ _ => rfl) ?_
  refine RT_if (by decide) ?_
  refine RT_step (pc2 := 59) rfl (fun _ _ => rfl) ?_
  refine RT_step rfl (fun _ _ => rfl) ?_
  refine RT_if (by decide) ?_
  refine RT_step (pc2 := 80) rfl (fun _ _ => rfl) ?_
  refine RT_step rfl (fun _ _ => rfl) ?_
  refine RT_if (by decide) ?_
  refine RT_step (pc2 := 101) rfl (fun _ _ => rfl) ?_
  exact ow_eq (ow_lrt rfl rfl rfl) (congrArg (fun z => (some (Value.long z), H)) (show (Int64.ofNat 27 * (Int64.ofNat 27 * ((Int32.ofNat 100).toInt64 - Int64.ofNat 96) + (Int32.ofNat 97).toInt64 - Int64.ofNat 96) + (Int32.ofNat 121).toInt64 - Int64.ofNat 96) = p27 [121, 97, 100] from by decide +kernel))
theorem m_wo16 {H : List AE} : FR 2 293 [.int (Int32.ofNat 16)] H (some (.long (wo 16)), ov H []) := by
  refine FR_ov (l := []) (l2 := []) rfl rfl rfl ?_
  refine RT_step (pc2 := 1) rfl (fun _ _ => rfl) ?_
  refine RT_step (pc2 := 362) rfl (fun _ _ => rfl) ?_
  refine rt_bip rfl k8_100 ?_
  refine rt_bip rfl k8_97 ?_
  refine rt_bip rfl k8_121 ?_
  refine rt_ico rfl ki_0 ?_
  refine rt_ico rfl ki_0 ?_
  refine rt_ico rfl ki_0 ?_
  refine ow_is rfl rfl rfl rfl rfl m_sp16 rfl ?_
  exact ow_lrt rfl rfl rfl
theorem m_sp17 {H : List AE} : FR 1 279 [.int (Int32.ofNat 111), .int (Int32.ofNat 114), .int (Int32.ofNat 0), .int (Int32.ofNat 0), .int (Int32.ofNat 0), .int (Int32.ofNat 0)] H (some (.long (p27 [114, 111])), ov H []) := by
  refine FR_of rfl ?_
  refine RT_step (pc2 := 3) rfl (fun _ _ => rfl) ?_
  refine RT_step (pc2 := 4) rfl (fun _ _ => rfl) ?_
  refine RT_step (pc2 := 5) rfl (fun _ _ => rfl) ?_
  refine RT_step (pc2 := 8) rfl (fun _ _ => rfl) ?_
  refine RT_step (pc2 := 9) rfl (fun _ _ => rfl) ?_
  refine RT_step (pc2 := 10) rfl (fun _ _ => rfl) ?_
  refine RT_step (pc2 := 11) rfl (fun _ _ => rfl) ?_
  refine RT_step (pc2 := 12) rfl (fun _ _ => rfl) ?_
  refine RT_step (pc2 := 13) rfl (fun _ _ => rfl) ?_
  refine RT_step (pc2 := 16) rfl (fun _ _ => rfl) ?_
  refine RT_step (pc2 := 17) rfl (fun _ _ => rfl) ?_
  refine RT_step (pc2 := 19) rfl (fun _ _ => rfl) ?_
  refine RT_step (pc2 := 20) rfl (fun _ _ => rfl) ?_
  refine RT_step rfl (fun _ _ => rfl) ?_
  refine RT_if (by decide) ?_
  refine RT_step (pc2 := 39) rfl (fun _ _ => rfl) ?_
  refine RT_step rfl (fun _ _ => rfl) ?_
  refine RT_if (by decide) ?_
  refine RT_step (pc2 := 59) rfl (fun _ _ => rfl) ?_
  refine RT_step rfl (fun _ _ => rfl) ?_
  refine RT_if (by decide) ?_
  refine RT_step (pc2 := 80) rfl (fun _ _ => rfl) ?_
  refine RT_step rfl (fun _ _ => rfl) ?_
  refine RT_if (by decide) ?_
  refine RT_step (pc2 := 101) rfl (fun _ _ => rfl) ?_
  exact ow_eq (ow_lrt rfl rfl rfl) (congrArg (fun z => (some (Value.long z), H)) (show (Int64.ofNat 27 * ((Int32.ofNat 111).toInt64 - Int64.ofNat 96) + (Int32.ofNat 114).toInt64 - Int64.ofNat 96) = p27 [114, 111] from by decide +kernel))
theorem m_wo17 {H : List AE} : FR 2 293 [.int (Int32.ofNat 17)] H (some (.long (wo 17)), ov H []) := by
  refine FR_ov (l := []) (l2 := []) rfl rfl rfl ?_
  refine RT_step (pc2 := 1) rfl (fun _ _ => rfl) ?_
  refine RT_step (pc2 := 375) rfl (fun _ _ => rfl) ?_
  refine rt_bip rfl k8_111 ?_
  refine rt_bip rfl k8_114 ?_
  refine rt_ico rfl ki_0 ?_
  refine rt_ico rfl ki_0 ?_
  refine rt_ico rfl ki_0 ?_
  refine rt_ico rfl ki_0 ?_
  refine ow_is rfl rfl rfl rfl rfl m_sp17 rfl ?_
  exact ow_lrt rfl rfl rfl
theorem m_sp18 {H : List AE} : FR 1 279 [.int (Int32.ofNat 97), .int (Int32.ofNat 110), .int (Int32.ofNat 100), .int (Int32.ofNat 0), .int (Int32.ofNat 0), .int (Int32.ofNat 0)] H (some (.long (p27 [100, 110, 97])), ov H []) := by
  refine FR_of rfl ?_
  refine RT_step (pc2 := 3) rfl (fun _ _ => rfl) ?_
  refine RT_step (pc2 := 4) rfl (fun _ _ => rfl) ?_
  refine RT_step (pc2 := 5) rfl (fun _ _ => rfl) ?_
  refine RT_step (pc2 := 8) rfl (fun _ _ => rfl) ?_
  refine RT_step (pc2 := 9) rfl (fun _ _ => rfl) ?_
  refine RT_step (pc2 := 10) rfl (fun _ _ => rfl) ?_
  refine RT_step (pc2 := 11) rfl (fun _ _ => rfl) ?_
  refine RT_step (pc2 := 12) rfl (fun _ _ => rfl) ?_
  refine RT_step (pc2 := 13) rfl (fun _ _ => rfl) ?_
  refine RT_step (pc2 := 16) rfl (fun _ _ => rfl) ?_
  refine RT_step (pc2 := 17) rfl (fun _ _ => rfl) ?_
  refine RT_step (pc2 := 19) rfl (fun _ _ => rfl) ?_
  refine RT_step (pc2 := 20) rfl (fun _ _ => rfl) ?_
  refine RT_step rfl (fun _ _ => rfl) ?_
  refine RT_el (by decide) ?_
  refine RT_step (pc2 := 26) rfl (fun _ _ => rfl) ?_
  refine RT_step (pc2 := 28) rfl (fun _ _ => rfl) ?_
  refine RT_step (pc2 := 29) rfl (fun _ _ => rfl) ?_
  refine RT_step (pc2 := 30) rfl (fun _ _ => rfl) ?_
  refine RT_step (pc2 := 31) rfl (fun _ _ => rfl) ?_
  refine RT_step (pc2 := 32) rfl (fun _ _ => rfl) ?_
  refine RT_step (pc2 := 35) rfl (fun _ _ => rfl) ?_
  refine RT_step (pc2 := 36) rfl (fun _ _ => rfl) ?_
  refine RT_step (pc2 := 38) rfl (fun _ _ => rfl) ?_
  refine RT_step (pc2 := 39) rfl (fun _ _ => rfl) ?_
  refine RT_step rfl (fun _ _ => rfl) ?_
  refine RT_if (by decide) ?_
  refine RT_step (pc2 := 59) rfl (fun _ _ => rfl) ?_
  refine RT_step rfl (fun _ _ => rfl) ?_
  refine RT_if (by decide) ?_
  refine RT_step (pc2 := 80) rfl (fun _ _ => rfl) ?_
  refine RT_step rfl (fun _ _ => rfl) ?_
  refine RT_if (by decide) ?_
  refine RT_step (pc2 := 101) rfl (fun _ _ => rfl) ?_
  exact ow_eq (ow_lrt rfl rfl rfl) (congrArg (fun z => (some (Value.long z), H)) (show (Int64.ofNat 27 * (Int64.ofNat 27 * ((Int32.ofNat 97).toInt64 - Int64.ofNat 96) + (Int32.ofNat 110).toInt64 - Int64.ofNat 96) + (Int32.ofNat 100).toInt64 - Int64.ofNat 96) = p27 [100, 110, 97] from by decide +kernel))
theorem m_wo18 {H : List AE} : FR 2 293 [.int (Int32.ofNat 18)] H (some (.long (wo 18)), ov H []) := by
  refine FR_ov (l := []) (l2 := []) rfl rfl rfl ?_
  refine RT_step (pc2 := 1) rfl (fun _ _ => rfl) ?_
  refine RT_step (pc2 := 387) rfl (fun _ _ => rfl) ?_
  refine rt_bip rfl k8_97 ?_
  refine rt_bip rfl k8_110 ?_
  refine rt_bip rfl k8_100 ?_
  refine rt_ico rfl ki_0 ?_
  refine rt_ico rfl ki_0 ?_
  refine rt_ico rfl ki_0 ?_
  refine ow_is rfl rfl rfl rfl rfl m_sp18 rfl ?_
  exact ow_lrt rfl rfl rfl
theorem m_sp19 {H : List AE} : FR 1 279 [.int (Int32.ofNat 110), .int (Int32.ofNat 111), .int (Int32.ofNat 116), .int (Int32.ofNat 0), .int (Int32.ofNat 0), .int (Int32.ofNat 0)] H (some (.long (p27 [116, 111, 110])), ov H []) := by
  refine FR_of rfl ?_
  refine RT_step (pc2 := 3) rfl (fun _ _ => rfl) ?_
  refine RT_step (pc2 := 4) rfl (fun _ _ => rfl) ?_
  refine RT_step (pc2 := 5) rfl (fun _ _ => rfl) ?_
  refine RT_step (pc2 := 8) rfl (fun _ _ => rfl) ?_
  refine RT_step (pc2 := 9) rfl (fun _ _ => rfl) ?_
  refine RT_step (pc2 := 10) rfl (fun _ _ => rfl) ?_
  refine RT_step (pc2 := 11) rfl (fun _ _ => rfl) ?_
  refine RT_step (pc2 := 12) rfl (fun _ _ => rfl) ?_
  refine RT_step (pc2 := 13) rfl (fun _ _ => rfl) ?_
  refine RT_step (pc2 := 16) rfl (fun _ _ => rfl) ?_
  refine RT_step (pc2 := 17) rfl (fun _ _ => rfl) ?_
  refine RT_step (pc2 := 19) rfl (fun _ _ => rfl) ?_
  refine RT_step (pc2 := 20) rfl (fun _ _ => rfl) ?_
  refine RT_step rfl (fun _ _ => rfl) ?_
  refine RT_el (by decide) ?_
  refine RT_step (pc2 := 26) rfl (fun _ _ => rfl) ?_
  refine RT_step (pc2 := 28) rfl (fun _ _ => rfl) ?_
  refine RT_step (pc2 := 29) rfl (fun _ _ => rfl) ?_
  refine RT_step (pc2 := 30) rfl (fun _ _ => rfl) ?_
  refine RT_step (pc2 := 31) rfl (fun _ _ => rfl) ?_
  refine RT_step (pc2 := 32) rfl (fun _ _ => rfl) ?_
  refine RT_step (pc2 := 35) rfl (fun _ _ => rfl) ?_
  refine RT_step (pc2 := 36) rfl (fun _ _ => rfl) ?_
  refine RT_step (pc2 := 38) rfl (fun _ _ => rfl) ?_
  refine RT_step (pc2 := 39) rfl (fun _ _ => rfl) ?_
  refine RT_step rfl (fun _ _ => rfl) ?_
  refine RT_if (by decide) ?_
  refine RT_step (pc2 := 59) rfl (fun _ _ => rfl) ?_
  refine RT_step rfl (fun _ _ => rfl) ?_
  refine RT_if (by decide) ?_
  refine RT_step (pc2 := 80) rfl (fun _ _ => rfl) ?_
  refine RT_step rfl (fun _ _ => rfl) ?_
  refine RT_if (by decide) ?_
  refine RT_step (pc2 := 101) rfl (fun _ _ => rfl) ?_
  exact ow_eq (ow_lrt rfl rfl rfl) (congrArg (fun z => (some (Value.long z), H)) (show (Int64.ofNat 27 * (Int64.ofNat 27 * ((Int32.ofNat 110).toInt64 - Int64.ofNat 96) + (Int32.ofNat 111).toInt64 - Int64.ofNat 96) + (Int32.ofNat 116).toInt64 - Int64.ofNat 96) = p27 [116, 111, 110] from by decide +kernel))
theorem m_wo19 {H : List AE} : FR 2 293 [.int (Int32.ofNat 19)] H (some (.long (wo 19)), ov H []) := by
  refine FR_ov (l := []) (l2 := []) rfl rfl rfl ?_
  refine RT_step (pc2 := 1) rfl (fun _ _ => rfl) ?_
  refine RT_step (pc2 := 400) rfl (fun _ _ => rfl) ?_
  refine rt_bip rfl k8_110 ?_
  refine rt_bip rfl k8_111 ?_
  refine rt_bip rfl k8_116 ?_
  refine rt_ico rfl ki_0 ?_
  refine rt_ico rfl ki_0 ?_
  refine rt_ico rfl ki_0 ?_
  refine ow_is rfl rfl rfl rfl rfl m_sp19 rfl ?_
  exact ow_lrt rfl rfl rfl
theorem m_sp20 {H : List AE} : FR 1 279 [.int (Int32.ofNat 106), .int (Int32.ofNat 97), .int (Int32.ofNat 105), .int (Int32.ofNat 108), .int (Int32.ofNat 101), .int (Int32.ofNat 100)] H (some (.long (p27 [100, 101, 108, 105, 97, 106])), ov H []) := by
  refine FR_of rfl ?_
  refine RT_step (pc2 := 3) rfl (fun _ _ => rfl) ?_
  refine RT_step (pc2 := 4) rfl (fun _ _ => rfl) ?_
  refine RT_step (pc2 := 5) rfl (fun _ _ => rfl) ?_
  refine RT_step (pc2 := 8) rfl (fun _ _ => rfl) ?_
  refine RT_step (pc2 := 9) rfl (fun _ _ => rfl) ?_
  refine RT_step (pc2 := 10) rfl (fun _ _ => rfl) ?_
  refine RT_step (pc2 := 11) rfl (fun _ _ => rfl) ?_
  refine RT_step (pc2 := 12) rfl (fun _ _ => rfl) ?_
  refine RT_step (pc2 := 13) rfl (fun _ _ => rfl) ?_
  refine RT_step (pc2 := 16) rfl (fun _ _ => rfl) ?_
  refine RT_step (pc2 := 17) rfl (fun _ _ => rfl) ?_
  refine RT_step (pc2 := 19) rfl (fun _ _ => rfl) ?_
  refine RT_step (pc2 := 20) rfl (fun _ _ => rfl) ?_
  refine RT_step rfl (fun _ _ => rfl) ?_
  refine RT_el (by decide) ?_
  refine RT_step (pc2 := 26) rfl (fun _ _ => rfl) ?_
  refine RT_step (pc2 := 28) rfl (fun _ _ => rfl) ?_
  refine RT_step (pc2 := 29) rfl (fun _ _ => rfl) ?_
  refine RT_step (pc2 := 30) rfl (fun _ _ => rfl) ?_
  refine RT_step (pc2 := 31) rfl (fun _ _ => rfl) ?_
  refine RT_step (pc2 := 32) rfl (fun _ _ => rfl) ?_
  refine RT_step (pc2 := 35) rfl (fun _ _ => rfl) ?_
  refine RT_step (pc2 := 36) rfl (fun _ _ => rfl) ?_
  refine RT_step (pc2 := 38) rfl (fun _ _ => rfl) ?_
  refine RT_step (pc2 := 39) rfl (fun _ _ => rfl) ?_
  refine RT_step rfl (fun _ _ => rfl) ?_
  refine RT_el (by decide) ?_
  refine RT_step (pc2 := 45) rfl (fun _ _ => rfl) ?_
  refine RT_step (pc2 := 47) rfl (fun _ _ => rfl) ?_
  refine RT_step (pc2 := 48) rfl (fun _ _ => rfl) ?_
  refine RT_step (pc2 := 49) rfl (fun _ _ => rfl) ?_
  refine RT_step (pc2 := 50) rfl (fun _ _ => rfl) ?_
  refine RT_step (pc2 := 51) rfl (fun _ _ => rfl) ?_
  refine RT_step (pc2 := 54) rfl (fun _ _ => rfl) ?_
  refine RT_step (pc2 := 55) rfl (fun _ _ => rfl) ?_
  refine RT_step (pc2 := 57) rfl (fun _ _ => rfl) ?_
  refine RT_step (pc2 := 59) rfl (fun _ _ => rfl) ?_
  refine RT_step rfl (fun _ _ => rfl) ?_
  refine RT_el (by decide) ?_
  refine RT_step (pc2 := 65) rfl (fun _ _ => rfl) ?_
  refine RT_step (pc2 := 67) rfl (fun _ _ => rfl) ?_
  refine RT_step (pc2 := 68) rfl (fun _ _ => rfl) ?_
  refine RT_step (pc2 := 70) rfl (fun _ _ => rfl) ?_
  refine RT_step (pc2 := 71) rfl (fun _ _ => rfl) ?_
  refine RT_step (pc2 := 72) rfl (fun _ _ => rfl) ?_
  refine RT_step (pc2 := 75) rfl (fun _ _ => rfl) ?_
  refine RT_step (pc2 := 76) rfl (fun _ _ => rfl) ?_
  refine RT_step (pc2 := 78) rfl (fun _ _ => rfl) ?_
  refine RT_step (pc2 := 80) rfl (fun _ _ => rfl) ?_
  refine RT_step rfl (fun _ _ => rfl) ?_
  refine RT_el (by decide) ?_
  refine RT_step (pc2 := 86) rfl (fun _ _ => rfl) ?_
  refine RT_step (pc2 := 88) rfl (fun _ _ => rfl) ?_
  refine RT_step (pc2 := 89) rfl (fun _ _ => rfl) ?_
  refine RT_step (pc2 := 91) rfl (fun _ _ => rfl) ?_
  refine RT_step (pc2 := 92) rfl (fun _ _ => rfl) ?_
  refine RT_step (pc2 := 93) rfl (fun _ _ => rfl) ?_
  refine RT_step (pc2 := 96) rfl (fun _ _ => rfl) ?_
  refine RT_step (pc2 := 97) rfl (fun _ _ => rfl) ?_
  refine RT_step (pc2 := 99) rfl (fun _ _ => rfl) ?_
  refine RT_step (pc2 := 101) rfl (fun _ _ => rfl) ?_
  exact ow_eq (ow_lrt rfl rfl rfl) (congrArg (fun z => (some (Value.long z), H)) (show (Int64.ofNat 27 * (Int64.ofNat 27 * (Int64.ofNat 27 * (Int64.ofNat 27 * (Int64.ofNat 27 * ((Int32.ofNat 106).toInt64 - Int64.ofNat 96) + (Int32.ofNat 97).toInt64 - Int64.ofNat 96) + (Int32.ofNat 105).toInt64 - Int64.ofNat 96) + (Int32.ofNat 108).toInt64 - Int64.ofNat 96) + (Int32.ofNat 101).toInt64 - Int64.ofNat 96) + (Int32.ofNat 100).toInt64 - Int64.ofNat 96) = p27 [100, 101, 108, 105, 97, 106] from by decide +kernel))
theorem m_wo20 {H : List AE} : FR 2 293 [.int (Int32.ofNat 20)] H (some (.long (wo 20)), ov H []) := by
  refine FR_ov (l := []) (l2 := []) rfl rfl rfl ?_
  refine RT_step (pc2 := 1) rfl (fun _ _ => rfl) ?_
  refine RT_step (pc2 := 413) rfl (fun _ _ => rfl) ?_
  refine rt_bip rfl k8_106 ?_
  refine rt_bip rfl k8_97 ?_
  refine rt_bip rfl k8_105 ?_
  refine rt_bip rfl k8_108 ?_
  refine rt_bip rfl k8_101 ?_
  refine rt_bip rfl k8_100 ?_
  refine ow_is rfl rfl rfl rfl rfl m_sp20 rfl ?_
  exact ow_lrt rfl rfl rfl
theorem m_sp21 {H : List AE} : FR 1 279 [.int (Int32.ofNat 103), .int (Int32.ofNat 108), .int (Int32.ofNat 111), .int (Int32.ofNat 118), .int (Int32.ofNat 101), .int (Int32.ofNat 100)] H (some (.long (p27 [100, 101, 118, 111, 108, 103])), ov H []) := by
  refine FR_of rfl ?_
  refine RT_step (pc2 := 3) rfl (fun _ _ => rfl) ?_
  refine RT_step (pc2 := 4) rfl (fun _ _ => rfl) ?_
  refine RT_step (pc2 := 5) rfl (fun _ _ => rfl) ?_
  refine RT_step (pc2 := 8) rfl (fun _ _ => rfl) ?_
  refine RT_step (pc2 := 9) rfl (fun _ _ => rfl) ?_
  refine RT_step (pc2 := 10) rfl (fun _ _ => rfl) ?_
  refine RT_step (pc2 := 11) rfl (fun _ _ => rfl) ?_
  refine RT_step (pc2 := 12) rfl (fun _ _ => rfl) ?_
  refine RT_step (pc2 := 13) rfl (fun _ _ => rfl) ?_
  refine RT_step (pc2 := 16) rfl (fun _ _ => rfl) ?_
  refine RT_step (pc2 := 17) rfl (fun _ _ => rfl) ?_
  refine RT_step (pc2 := 19) rfl (fun _ _ => rfl) ?_
  refine RT_step (pc2 := 20) rfl (fun _ _ => rfl) ?_
  refine RT_step rfl (fun _ _ => rfl) ?_
  refine RT_el (by decide) ?_
  refine RT_step (pc2 := 26) rfl (fun _ _ => rfl) ?_
  refine RT_step (pc2 := 28) rfl (fun _ _ => rfl) ?_
  refine RT_step (pc2 := 29) rfl (fun _ _ => rfl) ?_
  refine RT_step (pc2 := 30) rfl (fun _ _ => rfl) ?_
  refine RT_step (pc2 := 31) rfl (fun _ _ => rfl) ?_
  refine RT_step (pc2 := 32) rfl (fun _ _ => rfl) ?_
  refine RT_step (pc2 := 35) rfl (fun _ _ => rfl) ?_
  refine RT_step (pc2 := 36) rfl (fun _ _ => rfl) ?_
  refine RT_step (pc2 := 38) rfl (fun _ _ => rfl) ?_
  refine RT_step (pc2 := 39) rfl (fun _ _ => rfl) ?_
  refine RT_step rfl (fun _ _ => rfl) ?_
  refine RT_el (by decide) ?_
  refine RT_step (pc2 := 45) rfl (fun _ _ => rfl) ?_
  refine RT_step (pc2 := 47) rfl (fun _ _ => rfl) ?_
  refine RT_step (pc2 := 48) rfl (fun _ _ => rfl) ?_
  refine RT_step (pc2 := 49) rfl (fun _ _ => rfl) ?_
  refine RT_step (pc2 := 50) rfl (fun _ _ => rfl) ?_
  refine RT_step (pc2 := 51) rfl (fun _ _ => rfl) ?_
  refine RT_step (pc2 := 54) rfl (fun _ _ => rfl) ?_
  refine RT_step (pc2 := 55) rfl (fun _ _ => rfl) ?_
  refine RT_step (pc2 := 57) rfl (fun _ _ => rfl) ?_
  refine RT_step (pc2 := 59) rfl (fun _ _ => rfl) ?_
  refine RT_step rfl (fun _ _ => rfl) ?_
  refine RT_el (by decide) ?_
  refine RT_step (pc2 := 65) rfl (fun _ _ => rfl) ?_
  refine RT_step (pc2 := 67) rfl (fun _ _ => rfl) ?_
  refine RT_step (pc2 := 68) rfl (fun _ _ => rfl) ?_
  refine RT_step (pc2 := 70) rfl (fun _ _ => rfl) ?_
  refine RT_step (pc2 := 71) rfl (fun _ _ => rfl) ?_
  refine RT_step (pc2 := 72) rfl (fun _ _ => rfl) ?_
  refine RT_step (pc2 := 75) rfl (fun _ _ => rfl) ?_
  refine RT_step (pc2 := 76) rfl (fun _ _ => rfl) ?_
  refine RT_step (pc2 := 78) rfl (fun _ _ => rfl) ?_
  refine RT_step (pc2 := 80) rfl (fun _ _ => rfl) ?_
  refine RT_step rfl (fun _ _ => rfl) ?_
  refine RT_el (by decide) ?_
  refine RT_step (pc2 := 86) rfl (fun _ _ => rfl) ?_
  refine RT_step (pc2 := 88) rfl (fun _ _ => rfl) ?_
  refine RT_step (pc2 := 89) rfl (fun _ _ => rfl) ?_
  refine RT_step (pc2 := 91) rfl (fun _ _ => rfl) ?_
  refine RT_step (pc2 := 92) rfl (fun _ _ => rfl) ?_
  refine RT_step (pc2 := 93) rfl (fun _ _ => rfl) ?_
  refine RT_step (pc2 := 96) rfl (fun _ _ => rfl) ?_
  refine RT_step (pc2 := 97) rfl (fun _ _ => rfl) ?_
  refine RT_step (pc2 := 99) rfl (fun _ _ => rfl) ?_
  refine RT_step (pc2 := 101) rfl (fun _ _ => rfl) ?_
  exact ow_eq (ow_lrt rfl rfl rfl) (congrArg (fun z => (some (Value.long z), H)) (show (Int64.ofNat 27 * (Int64.ofNat 27 * (Int64.ofNat 27 * (Int64.ofNat 27 * (Int64.ofNat 27 * ((Int32.ofNat 103).toInt64 - Int64.ofNat 96) + (Int32.ofNat 108).toInt64 - Int64.ofNat 96) + (Int32.ofNat 111).toInt64 - Int64.ofNat 96) + (Int32.ofNat 118).toInt64 - Int64.ofNat 96) + (Int32.ofNat 101).toInt64 - Int64.ofNat 96) + (Int32.ofNat 100).toInt64 - Int64.ofNat 96) = p27 [100, 101, 118, 111, 108, 103] from by decide +kernel))
theorem m_wo21 {H : List AE} : FR 2 293 [.int (Int32.ofNat 21)] H (some (.long (wo 21)), ov H []) := by
  refine FR_ov (l := []) (l2 := []) rfl rfl rfl ?_
  refine RT_step (pc2 := 1) rfl (fun _ _ => rfl) ?_
  refine RT_step (pc2 := 429) rfl (fun _ _ => rfl) ?_
  refine rt_bip rfl k8_103 ?_
  refine rt_bip rfl k8_108 ?_
  refine rt_bip rfl k8_111 ?_
  refine rt_bip rfl k8_118 ?_
  refine rt_bip rfl k8_101 ?_
  refine rt_bip rfl k8_100 ?_
  refine ow_is rfl rfl rfl rfl rfl m_sp21 rfl ?_
  exact ow_lrt rfl rfl rfl
theorem m_sp22 {H : List AE} : FR 1 279 [.int (Int32.ofNat 119), .int (Int32.ofNat 101), .int (Int32.ofNat 100), .int (Int32.ofNat 0), .int (Int32.ofNat 0), .int (Int32.ofNat 0)] H (some (.long (p27 [100, 101, 119])), ov H []) := by
  refine FR_of rfl ?_
  refine RT_step (pc2 := 3) rfl (fun _ _ => rfl) ?_
  refine RT_step (pc2 := 4) rfl (fun _ _ => rfl) ?_
  refine RT_step (pc2 := 5) rfl (fun _ _ => rfl) ?_
  refine RT_step (pc2 := 8) rfl (fun _ _ => rfl) ?_
  refine RT_step (pc2 := 9) rfl (fun _ _ => rfl) ?_
  refine RT_step (pc2 := 10) rfl (fun _ _ => rfl) ?_
  refine RT_step (pc2 := 11) rfl (fun _ _ => rfl) ?_
  refine RT_step (pc2 := 12) rfl (fun _ _ => rfl) ?_
  refine RT_step (pc2 := 13) rfl (fun _ _ => rfl) ?_
  refine RT_step (pc2 := 16) rfl (fun _ _ => rfl) ?_
  refine RT_step (pc2 := 17) rfl (fun _ _ => rfl) ?_
  refine RT_step (pc2 := 19) rfl (fun _ _ => rfl) ?_
  refine RT_step (pc2 := 20) rfl (fun _ _ => rfl) ?_
  refine RT_step rfl (fun _ _ => rfl) ?_
  refine RT_el (by decide) ?_
  refine RT_step (pc2 := 26) rfl (fun _ _ => rfl) ?_
  refine RT_step (pc2 := 28) rfl (fun _ _ => rfl) ?_
  refine RT_step (pc2 := 29) rfl (fun _ _ => rfl) ?_
  refine RT_step (pc2 := 30) rfl (fun _ _ => rfl) ?_
  refine RT_step (pc2 := 31) rfl (fun _ _ => rfl) ?_
  refine RT_step (pc2 := 32) rfl (fun _ _ => rfl) ?_
  refine RT_step (pc2 := 35) rfl (fun _ _ => rfl) ?_
  refine RT_step (pc2 := 36) rfl (fun _ _ => rfl) ?_
  refine RT_step (pc2 := 38) rfl (fun _ _ => rfl) ?_
  refine RT_step (pc2 := 39) rfl (fun _ _ => rfl) ?_
  refine RT_step rfl (fun _ _ => rfl) ?_
  refine RT_if (by decide) ?_
  refine RT_step (pc2 := 59) rfl (fun _ _ => rfl) ?_
  refine RT_step rfl (fun _ _ => rfl) ?_
  refine RT_if (by decide) ?_
  refine RT_step (pc2 := 80) rfl (fun _ _ => rfl) ?_
  refine RT_step rfl (fun _ _ => rfl) ?_
  refine RT_if (by decide) ?_
  refine RT_step (pc2 := 101) rfl (fun _ _ => rfl) ?_
  exact ow_eq (ow_lrt rfl rfl rfl) (congrArg (fun z => (some (Value.long z), H)) (show (Int64.ofNat 27 * (Int64.ofNat 27 * ((Int32.ofNat 119).toInt64 - Int64.ofNat 96) + (Int32.ofNat 101).toInt64 - Int64.ofNat 96) + (Int32.ofNat 100).toInt64 - Int64.ofNat 96) = p27 [100, 101, 119] from by decide +kernel))
theorem m_wo22 {H : List AE} : FR 2 293 [.int (Int32.ofNat 22)] H (some (.long (wo 22)), ov H []) := by
  refine FR_ov (l := []) (l2 := []) rfl rfl rfl ?_
  refine RT_step (pc2 := 1) rfl (fun _ _ => rfl) ?_
  refine RT_step (pc2 := 445) rfl (fun _ _ => rfl) ?_
  refine rt_bip rfl k8_119 ?_
  refine rt_bip rfl k8_101 ?_
  refine rt_bip rfl k8_100 ?_
  refine rt_ico rfl ki_0 ?_
  refine rt_ico rfl ki_0 ?_
  refine rt_ico rfl ki_0 ?_
  refine ow_is rfl rfl rfl rfl rfl m_sp22 rfl ?_
  exact ow_lrt rfl rfl rfl
theorem m_sp23 {H : List AE} : FR 1 279 [.int (Int32.ofNat 98), .int (Int32.ofNat 117), .int (Int32.ofNat 115), .int (Int32.ofNat 121), .int (Int32.ofNat 0), .int (Int32.ofNat 0)] H (some (.long (p27 [121, 115, 117, 98])), ov H []) := by
  refine FR_of rfl ?_
  refine RT_step (pc2 := 3) rfl (fun _ _ => rfl) ?_
  refine RT_step (pc2 := 4) rfl (fun _ _ => rfl) ?_
  refine RT_step (pc2 := 5) rfl (fun _ _ => rfl) ?_
  refine RT_step (pc2 := 8) rfl (fun _ _ => rfl) ?_
  refine RT_step (pc2 := 9) rfl (fun _ _ => rfl) ?_
  refine RT_step (pc2 := 10) rfl (fun _ _ => rfl) ?_
  refine RT_step (pc2 := 11) rfl (fun _ _ => rfl) ?_
  refine RT_step (pc2 := 12) rfl (fun _ _ => rfl) ?_
  refine RT_step (pc2 := 13) rfl (fun _ _ => rfl) ?_
  refine RT_step (pc2 := 16) rfl (fun _ _ => rfl) ?_
  refine RT_step (pc2 := 17) rfl (fun _ _ => rfl) ?_
  refine RT_step (pc2 := 19) rfl (fun _ _ => rfl) ?_
  refine RT_step (pc2 := 20) rfl (fun _ _ => rfl) ?_
  refine RT_step rfl (fun _ _ => rfl) ?_
  refine RT_el (by decide) ?_
  refine RT_step (pc2 := 26) rfl (fun _ _ => rfl) ?_
  refine RT_step (pc2 := 28) rfl (fun _ _ => rfl) ?_
  refine RT_step (pc2 := 29) rfl (fun _ _ => rfl) ?_
  refine RT_step (pc2 := 30) rfl (fun _ _ => rfl) ?_
  refine RT_step (pc2 := 31) rfl (fun _ _ => rfl) ?_
  refine RT_step (pc2 := 32) rfl (fun _ _ => rfl) ?_
  refine RT_step (pc2 := 35) rfl (fun _ _ => rfl) ?_
  refine RT_step (pc2 := 36) rfl (fun _ _ => rfl) ?_
  refine RT_step (pc2 := 38) rfl (fun _ _ => rfl) ?_
  refine RT_step (pc2 := 39) rfl (fun _ _ => rfl) ?_
  refine RT_step rfl (fun _ _ => rfl) ?_
  refine RT_el (by decide) ?_
  refine RT_step (pc2 := 45) rfl (fun _ _ => rfl) ?_
  refine RT_step (pc2 := 47) rfl (fun _ _ => rfl) ?_
  refine RT_step (pc2 := 48) rfl (fun _ _ => rfl) ?_
  refine RT_step (pc2 := 49) rfl (fun _ _ => rfl) ?_
  refine RT_step (pc2 := 50) rfl (fun _ _ => rfl) ?_
  refine RT_step (pc2 := 51) rfl (fun _ _ => rfl) ?_
  refine RT_step (pc2 := 54) rfl (fun _ _ => rfl) ?_
  refine RT_step (pc2 := 55) rfl (fun _ _ => rfl) ?_
  refine RT_step (pc2 := 57) rfl (fun _ _ => rfl) ?_
  refine RT_step (pc2 := 59) rfl (fun _ _ => rfl) ?_
  refine RT_step rfl (fun _ _ => rfl) ?_
  refine RT_if (by decide) ?_
  refine RT_step (pc2 := 80) rfl (fun _ _ => rfl) ?_
  refine RT_step rfl (fun _ _ => rfl) ?_
  refine RT_if (by decide) ?_
  refine RT_step (pc2 := 101) rfl (fun _ _ => rfl) ?_
  exact ow_eq (ow_lrt rfl rfl rfl) (congrArg (fun z => (some (Value.long z), H)) (show (Int64.ofNat 27 * (Int64.ofNat 27 * (Int64.ofNat 27 * ((Int32.ofNat 98).toInt64 - Int64.ofNat 96) + (Int32.ofNat 117).toInt64 - Int64.ofNat 96) + (Int32.ofNat 115).toInt64 - Int64.ofNat 96) + (Int32.ofNat 121).toInt64 - Int64.ofNat 96) = p27 [121, 115, 117, 98] from by decide +kernel))
theorem m_wo23 {H : List AE} : FR 2 293 [.int (Int32.ofNat 23)] H (some (.long (wo 23)), ov H []) := by
  refine FR_ov (l := []) (l2 := []) rfl rfl rfl ?_
  refine RT_step (pc2 := 1) rfl (fun _ _ => rfl) ?_
  refine RT_step (pc2 := 458) rfl (fun _ _ => rfl) ?_
  refine rt_bip rfl k8_98 ?_
  refine rt_bip rfl k8_117 ?_
  refine rt_bip rfl k8_115 ?_
  refine rt_bip rfl k8_121 ?_
  refine rt_ico rfl ki_0 ?_
  refine rt_ico rfl ki_0 ?_
  refine ow_is rfl rfl rfl rfl rfl m_sp23 rfl ?_
  exact ow_lrt rfl rfl rfl
theorem m_sp24 {H : List AE} : FR 1 279 [.int (Int32.ofNat 115), .int (Int32.ofNat 101), .int (Int32.ofNat 101), .int (Int32.ofNat 110), .int (Int32.ofNat 0), .int (Int32.ofNat 0)] H (some (.long (p27 [110, 101, 101, 115])), ov H []) := by
  refine FR_of rfl ?_
  refine RT_step (pc2 := 3) rfl (fun _ _ => rfl) ?_
  refine RT_step (pc2 := 4) rfl (fun _ _ => rfl) ?_
  refine RT_step (pc2 := 5) rfl (fun _ _ => rfl) ?_
  refine RT_step (pc2 := 8) rfl (fun _ _ => rfl) ?_
  refine RT_step (pc2 := 9) rfl (fun _ _ => rfl) ?_
  refine RT_step (pc2 := 10) rfl (fun _ _ => rfl) ?_
  refine RT_step (pc2 := 11) rfl (fun _ _ => rfl) ?_
  refine RT_step (pc2 := 12) rfl (fun _ _ => rfl) ?_
  refine RT_step (pc2 := 13) rfl (fun _ _ => rfl) ?_
  refine RT_step (pc2 := 16) rfl (fun _ _ => rfl) ?_
  refine RT_step (pc2 := 17) rfl (fun _ _ => rfl) ?_
  refine RT_step (pc2 := 19) rfl (fun _ _ => rfl) ?_
  refine RT_step (pc2 := 20) rfl (fun _ _ => rfl) ?_
  refine RT_step rfl (fun _ _ => rfl) ?_
  refine RT_el (by decide) ?_
  refine RT_step (pc2 := 26) rfl (fun _ _ => rfl) ?_
  refine RT_step (pc2 := 28) rfl (fun _ _ => rfl) ?_
  refine RT_step (pc2 := 29) rfl (fun _ _ => rfl) ?_
  refine RT_step (pc2 := 30) rfl (fun _ _ => rfl) ?_
  refine RT_step (pc2 := 31) rfl (fun _ _ => rfl) ?_
  refine RT_step (pc2 := 32) rfl (fun _ _ => rfl) ?_
  refine RT_step (pc2 := 35) rfl (fun _ _ => rfl) ?_
  refine RT_step (pc2 := 36) rfl (fun _ _ => rfl) ?_
  refine RT_step (pc2 := 38) rfl (fun _ _ => rfl) ?_
  refine RT_step (pc2 := 39) rfl (fun _ _ => rfl) ?_
  refine RT_step rfl (fun _ _ => rfl) ?_
  refine RT_el (by decide) ?_
  refine RT_step (pc2 := 45) rfl (fun _ _ => rfl) ?_
  refine RT_step (pc2 := 47) rfl (fun _ _ => rfl) ?_
  refine RT_step (pc2 := 48) rfl (fun _ _ => rfl) ?_
  refine RT_step (pc2 := 49) rfl (fun _ _ => rfl) ?_
  refine RT_step (pc2 := 50) rfl (fun _ _ => rfl) ?_
  refine RT_step (pc2 := 51) rfl (fun _ _ => rfl) ?_
  refine RT_step (pc2 := 54) rfl (fun _ _ => rfl) ?_
  refine RT_step (pc2 := 55) rfl (fun _ _ => rfl) ?_
  refine RT_step (pc2 := 57) rfl (fun _ _ => rfl) ?_
  refine RT_step (pc2 := 59) rfl (fun _ _ => rfl) ?_
  refine RT_step rfl (fun _ _ => rfl) ?_
  refine RT_if (by decide) ?_
  refine RT_step (pc2 := 80) rfl (fun _ _ => rfl) ?_
  refine RT_step rfl (fun _ _ => rfl) ?_
  refine RT_if (by decide) ?_
  refine RT_step (pc2 := 101) rfl (fun _ _ => rfl) ?_
  exact ow_eq (ow_lrt rfl rfl rfl) (congrArg (fun z => (some (Value.long z), H)) (show (Int64.ofNat 27 * (Int64.ofNat 27 * (Int64.ofNat 27 * ((Int32.ofNat 115).toInt64 - Int64.ofNat 96) + (Int32.ofNat 101).toInt64 - Int64.ofNat 96) + (Int32.ofNat 101).toInt64 - Int64.ofNat 96) + (Int32.ofNat 110).toInt64 - Int64.ofNat 96) = p27 [110, 101, 101, 115] from by decide +kernel))
theorem m_wo24 {H : List AE} : FR 2 293 [.int (Int32.ofNat 24)] H (some (.long (wo 24)), ov H []) := by
  refine FR_ov (l := []) (l2 := []) rfl rfl rfl ?_
  refine RT_step (pc2 := 1) rfl (fun _ _ => rfl) ?_
  refine RT_step (pc2 := 472) rfl (fun _ _ => rfl) ?_
  refine rt_bip rfl k8_115 ?_
  refine rt_bip rfl k8_101 ?_
  refine rt_bip rfl k8_101 ?_
  refine rt_bip rfl k8_110 ?_
  refine rt_ico rfl ki_0 ?_
  refine rt_ico rfl ki_0 ?_
  refine ow_is rfl rfl rfl rfl rfl m_sp24 rfl ?_
  exact ow_lrt rfl rfl rfl
theorem m_sp25 {H : List AE} : FR 1 279 [.int (Int32.ofNat 116), .int (Int32.ofNat 111), .int (Int32.ofNat 0), .int (Int32.ofNat 0), .int (Int32.ofNat 0), .int (Int32.ofNat 0)] H (some (.long (p27 [111, 116])), ov H []) := by
  refine FR_of rfl ?_
  refine RT_step (pc2 := 3) rfl (fun _ _ => rfl) ?_
  refine RT_step (pc2 := 4) rfl (fun _ _ => rfl) ?_
  refine RT_step (pc2 := 5) rfl (fun _ _ => rfl) ?_
  refine RT_step (pc2 := 8) rfl (fun _ _ => rfl) ?_
  refine RT_step (pc2 := 9) rfl (fun _ _ => rfl) ?_
  refine RT_step (pc2 := 10) rfl (fun _ _ => rfl) ?_
  refine RT_step (pc2 := 11) rfl (fun _ _ => rfl) ?_
  refine RT_step (pc2 := 12) rfl (fun _ _ => rfl) ?_
  refine RT_step (pc2 := 13) rfl (fun _ _ => rfl) ?_
  refine RT_step (pc2 := 16) rfl (fun _ _ => rfl) ?_
  refine RT_step (pc2 := 17) rfl (fun _ _ => rfl) ?_
  refine RT_step (pc2 := 19) rfl (fun _ _ => rfl) ?_
  refine RT_step (pc2 := 20) rfl (fun _ _ => rfl) ?_
  refine RT_step rfl (fun _ _ => rfl) ?_
  refine RT_if (by decide) ?_
  refine RT_step (pc2 := 39) rfl (fun _ _ => rfl) ?_
  refine RT_step rfl (fun _ _ => rfl) ?_
  refine RT_if (by decide) ?_
  refine RT_step (pc2 := 59) rfl (fun _ _ => rfl) ?_
  refine RT_step rfl (fun _ _ => rfl) ?_
  refine RT_if (by decide) ?_
  refine RT_step (pc2 := 80) rfl (fun _ _ => rfl) ?_
  refine RT_step rfl (fun _ _ => rfl) ?_
  refine RT_if (by decide) ?_
  refine RT_step (pc2 := 101) rfl (fun _ _ => rfl) ?_
  exact ow_eq (ow_lrt rfl rfl rfl) (congrArg (fun z => (some (Value.long z), H)) (show (Int64.ofNat 27 * ((Int32.ofNat 116).toInt64 - Int64.ofNat 96) + (Int32.ofNat 111).toInt64 - Int64.ofNat 96) = p27 [111, 116] from by decide +kernel))
theorem m_wo25 {H : List AE} : FR 2 293 [.int (Int32.ofNat 25)] H (some (.long (wo 25)), ov H []) := by
  refine FR_ov (l := []) (l2 := []) rfl rfl rfl ?_
  refine RT_step (pc2 := 1) rfl (fun _ _ => rfl) ?_
  refine RT_step (pc2 := 486) rfl (fun _ _ => rfl) ?_
  refine rt_bip rfl k8_116 ?_
  refine rt_bip rfl k8_111 ?_
  refine rt_ico rfl ki_0 ?_
  refine rt_ico rfl ki_0 ?_
  refine rt_ico rfl ki_0 ?_
  refine rt_ico rfl ki_0 ?_
  refine ow_is rfl rfl rfl rfl rfl m_sp25 rfl ?_
  exact ow_lrt rfl rfl rfl
theorem m_sp26 {H : List AE} : FR 1 279 [.int (Int32.ofNat 111), .int (Int32.ofNat 119), .int (Int32.ofNat 110), .int (Int32.ofNat 115), .int (Int32.ofNat 0), .int (Int32.ofNat 0)] H (some (.long (p27 [115, 110, 119, 111])), ov H []) := by
  refine FR_of rfl ?_
  refine RT_step (pc2 := 3) rfl (fun _ _ => rfl) ?_
  refine RT_step (pc2 := 4) rfl (fun _ _ => rfl) ?_
  refine RT_step (pc2 := 5) rfl (fun _ _ => rfl) ?_
  refine RT_step (pc2 := 8) rfl (fun _ _ => rfl) ?_
  refine RT_step (pc2 := 9) rfl (fun _ _ => rfl) ?_
  refine RT_step (pc2 := 10) rfl (fun _ _ => rfl) ?_
  refine RT_step (pc2 := 11) rfl (fun _ _ => rfl) ?_
  refine RT_step (pc2 := 12) rfl (fun _ _ => rfl) ?_
  refine RT_step (pc2 := 13) rfl (fun _ _ => rfl) ?_
  refine RT_step (pc2 := 16) rfl (fun _ _ => rfl) ?_
  refine RT_step (pc2 := 17) rfl (fun _ _ => rfl) ?_
  refine RT_step (pc2 := 19) rfl (fun _ _ => rfl) ?_
  refine RT_step (pc2 := 20) rfl (fun _ _ => rfl) ?_
  refine RT_step rfl (fun _ _ => rfl) ?_
  refine RT_el (by decide) ?_
  refine RT_step (pc2 := 26) rfl (fun _ _ => rfl) ?_
  refine RT_step (pc2 := 28) rfl (fun _ _ => rfl) ?_
  refine RT_step (pc2 := 29) rfl (fun _ _ => rfl) ?_
  refine RT_step (pc2 := 30) rfl (fun _ _ => rfl) ?_
  refine RT_step (pc2 := 31) rfl (fun _ _ => rfl) ?_
  refine RT_step (pc2 := 32) rfl (fun _ _ => rfl) ?_
  refine RT_step (pc2 := 35) rfl (fun _ _ => rfl) ?_
  refine RT_step (pc2 := 36) rfl (fun _ _ => rfl) ?_
  refine RT_step (pc2 := 38) rfl (fun _ _ => rfl) ?_
  refine RT_step (pc2 := 39) rfl (fun _ _ => rfl) ?_
  refine RT_step rfl (fun _ _ => rfl) ?_
  refine RT_el (by decide) ?_
  refine RT_step (pc2 := 45) rfl (fun _ _ => rfl) ?_
  refine RT_step (pc2 := 47) rfl (fun _ _ => rfl) ?_
  refine RT_step (pc2 := 48) rfl (fun _ _ => rfl) ?_
  refine RT_step (pc2 := 49) rfl (fun _ _ => rfl) ?_
  refine RT_step (pc2 := 50) rfl (fun _ _ => rfl) ?_
  refine RT_step (pc2 := 51) rfl (fun _ _ => rfl) ?_
  refine RT_step (pc2 := 54) rfl (fun _ _ => rfl) ?_
  refine RT_step (pc2 := 55) rfl (fun _ _ => rfl) ?_
  refine RT_step (pc2 := 57) rfl (fun _ _ => rfl) ?_
  refine RT_step (pc2 := 59) rfl (fun _ _ => rfl) ?_
  refine RT_step rfl (fun _ _ => rfl) ?_
  refine RT_if (by decide) ?_
  refine RT_step (pc2 := 80) rfl (fun _ _ => rfl) ?_
  refine RT_step rfl (fun _ _ => rfl) ?_
  refine RT_if (by decide) ?_
  refine RT_step (pc2 := 101) rfl (fun _ _ => rfl) ?_
  exact ow_eq (ow_lrt rfl rfl rfl) (congrArg (fun z => (some (Value.long z), H)) (show (Int64.ofNat 27 * (Int64.ofNat 27 * (Int64.ofNat 27 * ((Int32.ofNat 111).toInt64 - Int64.ofNat 96) + (Int32.ofNat 119).toInt64 - Int64.ofNat 96) + (Int32.ofNat 110).toInt64 - Int64.ofNat 96) + (Int32.ofNat 115).toInt64 - Int64.ofNat 96) = p27 [115, 110, 119, 111] from by decide +kernel))
theorem m_wo26 {H : List AE} : FR 2 293 [.int (Int32.ofNat 26)] H (some (.long (wo 26)), ov H []) := by
  refine FR_ov (l := []) (l2 := []) rfl rfl rfl ?_
  refine RT_step (pc2 := 1) rfl (fun _ _ => rfl) ?_
  refine RT_step (pc2 := 498) rfl (fun _ _ => rfl) ?_
  refine rt_bip rfl k8_111 ?_
  refine rt_bip rfl k8_119 ?_
  refine rt_bip rfl k8_110 ?_
  refine rt_bip rfl k8_115 ?_
  refine rt_ico rfl ki_0 ?_
  refine rt_ico rfl ki_0 ?_
  refine ow_is rfl rfl rfl rfl rfl m_sp26 rfl ?_
  exact ow_lrt rfl rfl rfl
theorem m_sp27 {H : List AE} : FR 1 279 [.int (Int32.ofNat 98), .int (Int32.ofNat 108), .int (Int32.ofNat 97), .int (Int32.ofNat 109), .int (Int32.ofNat 101), .int (Int32.ofNat 0)] H (some (.long (p27 [101, 109, 97, 108, 98])), ov H []) := by
  refine FR_of rfl ?_
  refine RT_step (pc2 := 3) rfl (fun _ _ => rfl) ?_
  refine RT_step (pc2 := 4) rfl (fun _ _ => rfl) ?_
  refine RT_step (pc2 := 5) rfl (fun _ _ => rfl) ?_
  refine RT_step (pc2 := 8) rfl (fun _ _ => rfl) ?_
  refine RT_step (pc2 := 9) rfl (fun _ _ => rfl) ?_
  refine RT_step (pc2 := 10) rfl (fun _ _ => rfl) ?_
  refine RT_step (pc2 := 11) rfl (fun _ _ => rfl) ?_
  refine RT_step (pc2 := 12) rfl (fun _ _ => rfl) ?_
  refine RT_step (pc2 := 13) rfl (fun _ _ => rfl) ?_
  refine RT_step (pc2 := 16) rfl (fun _ _ => rfl) ?_
  refine RT_step (pc2 := 17) rfl (fun _ _ => rfl) ?_
  refine RT_step (pc2 := 19) rfl (fun _ _ => rfl) ?_
  refine RT_step (pc2 := 20) rfl (fun _ _ => rfl) ?_
  refine RT_step rfl (fun _ _ => rfl) ?_
  refine RT_el (by decide) ?_
  refine RT_step (pc2 := 26) rfl (fun _ _ => rfl) ?_
  refine RT_step (pc2 := 28) rfl (fun _ _ => rfl) ?_
  refine RT_step (pc2 := 29) rfl (fun _ _ => rfl) ?_
  refine RT_step (pc2 := 30) rfl (fun _ _ => rfl) ?_
  refine RT_step (pc2 := 31) rfl (fun _ _ => rfl) ?_
  refine RT_step (pc2 := 32) rfl (fun _ _ => rfl) ?_
  refine RT_step (pc2 := 35) rfl (fun _ _ => rfl) ?_
  refine RT_step (pc2 := 36) rfl (fun _ _ => rfl) ?_
  refine RT_step (pc2 := 38) rfl (fun _ _ => rfl) ?_
  refine RT_step (pc2 := 39) rfl (fun _ _ => rfl) ?_
  refine RT_step rfl (fun _ _ => rfl) ?_
  refine RT_el (by decide) ?_
  refine RT_step (pc2 := 45) rfl (fun _ _ => rfl) ?_
  refine RT_step (pc2 := 47) rfl (fun _ _ => rfl) ?_
  refine RT_step (pc2 := 48) rfl (fun _ _ => rfl) ?_
  refine RT_step (pc2 := 49) rfl (fun _ _ => rfl) ?_
  refine RT_step (pc2 := 50) rfl (fun _ _ => rfl) ?_
  refine RT_step (pc2 := 51) rfl (fun _ _ => rfl) ?_
  refine RT_step (pc2 := 54) rfl (fun _ _ => rfl) ?_
  refine RT_step (pc2 := 55) rfl (fun _ _ => rfl) ?_
  refine RT_step (pc2 := 57) rfl (fun _ _ => rfl) ?_
  refine RT_step (pc2 := 59) rfl (fun _ _ => rfl) ?_
  refine RT_step rfl (fun _ _ => rfl) ?_
  refine RT_el (by decide) ?_
  refine RT_step (pc2 := 65) rfl (fun _ _ => rfl) ?_
  refine RT_step (pc2 := 67) rfl (fun _ _ => rfl) ?_
  refine RT_step (pc2 := 68) rfl (fun _ _ => rfl) ?_
  refine RT_step (pc2 := 70) rfl (fun _ _ => rfl) ?_
  refine RT_step (pc2 := 71) rfl (fun _ _ => rfl) ?_
  refine RT_step (pc2 := 72) rfl (fun _ _ => rfl) ?_
  refine RT_step (pc2 := 75) rfl (fun _ _ => rfl) ?_
  refine RT_step (pc2 := 76) rfl (fun _ _ => rfl) ?_
  refine RT_step (pc2 := 78) rfl (fun _ _ => rfl) ?_
  refine RT_step (pc2 := 80) rfl (fun _ _ => rfl) ?_
  refine RT_step rfl (fun _ _ => rfl) ?_
  refine RT_if (by decide) ?_
  refine RT_step (pc2 := 101) rfl (fun _ _ => rfl) ?_
  exact ow_eq (ow_lrt rfl rfl rfl) (congrArg (fun z => (some (Value.long z), H)) (show (Int64.ofNat 27 * (Int64.ofNat 27 * (Int64.ofNat 27 * (Int64.ofNat 27 * ((Int32.ofNat 98).toInt64 - Int64.ofNat 96) + (Int32.ofNat 108).toInt64 - Int64.ofNat 96) + (Int32.ofNat 97).toInt64 - Int64.ofNat 96) + (Int32.ofNat 109).toInt64 - Int64.ofNat 96) + (Int32.ofNat 101).toInt64 - Int64.ofNat 96) = p27 [101, 109, 97, 108, 98] from by decide +kernel))
theorem m_wo27 {H : List AE} : FR 2 293 [.int (Int32.ofNat 27)] H (some (.long (wo 27)), ov H []) := by
  refine FR_ov (l := []) (l2 := []) rfl rfl rfl ?_
  refine RT_step (pc2 := 1) rfl (fun _ _ => rfl) ?_
  refine RT_step (pc2 := 512) rfl (fun _ _ => rfl) ?_
  refine rt_bip rfl k8_98 ?_
  refine rt_bip rfl k8_108 ?_
  refine rt_bip rfl k8_97 ?_
  refine rt_bip rfl k8_109 ?_
  refine rt_bip rfl k8_101 ?_
  refine rt_ico rfl ki_0 ?_
  refine ow_is rfl rfl rfl rfl rfl m_sp27 rfl ?_
  exact ow_lrt rfl rfl rfl
theorem m_sp28 {H : List AE} : FR 1 279 [.int (Int32.ofNat 105), .int (Int32.ofNat 100), .int (Int32.ofNat 101), .int (Int32.ofNat 97), .int (Int32.ofNat 0), .int (Int32.ofNat 0)] H (some (.long (p27 [97, 101, 100, 105])), ov H []) := by
  refine FR_of rfl ?_
  refine RT_step (pc2 := 3) rfl (fun _ _ => rfl) ?_
  refine RT_step (pc2 := 4) rfl (fun _ _ => rfl) ?_
  refine RT_step (pc2 := 5) rfl (fun _ _ => rfl) ?_
  refine RT_step (pc2 := 8) rfl (fun _ _ => rfl) ?_
  refine RT_step (pc2 := 9) rfl (fun _ _ => rfl) ?_
  refine RT_step (pc2 := 10) rfl (fun _ _ => rfl) ?_
  refine RT_step (pc2 := 11) rfl (fun _ _ => rfl) ?_
  refine RT_step (pc2 := 12) rfl (fun _ _ => rfl) ?_
  refine RT_step (pc2 := 13) rfl (fun _ _ => rfl) ?_
  refine RT_step (pc2 := 16) rfl (fun _ _ => rfl) ?_
  refine RT_step (pc2 := 17) rfl (fun _ _ => rfl) ?_
  refine RT_step (pc2 := 19) rfl (fun _ _ => rfl) ?_
  refine RT_step (pc2 := 20) rfl (fun _ _ => rfl) ?_
  refine RT_step rfl (fun _ _ => rfl) ?_
  refine RT_el (by decide) ?_
  refine RT_step (pc2 := 26) rfl (fun _ _ => rfl) ?_
  refine RT_step (pc2 := 28) rfl (fun _ _ => rfl) ?_
  refine RT_step (pc2 := 29) rfl (fun _ _ => rfl) ?_
  refine RT_step (pc2 := 30) rfl (fun _ _ => rfl) ?_
  refine RT_step (pc2 := 31) rfl (fun _ _ => rfl) ?_
  refine RT_step (pc2 := 32) rfl (fun _ _ => rfl) ?_
  refine RT_step (pc2 := 35) rfl (fun _ _ => rfl) ?_
  refine RT_step (pc2 := 36) rfl (fun _ _ => rfl) ?_
  refine RT_step (pc2 := 38) rfl (fun _ _ => rfl) ?_
  refine RT_step (pc2 := 39) rfl (fun _ _ => rfl) ?_
  refine RT_step rfl (fun _ _ => rfl) ?_
  refine RT_el (by decide) ?_
  refine RT_step (pc2 := 45) rfl (fun _ _ => rfl) ?_
  refine RT_step (pc2 := 47) rfl (fun _ _ => rfl) ?_
  refine RT_step (pc2 := 48) rfl (fun _ _ => rfl) ?_
  refine RT_step (pc2 := 49) rfl (fun _ _ => rfl) ?_
  refine RT_step (pc2 := 50) rfl (fun _ _ => rfl) ?_
  refine RT_step (pc2 := 51) rfl (fun _ _ => rfl) ?_
  refine RT_step (pc2 := 54) rfl (fun _ _ => rfl) ?_
  refine RT_step (pc2 := 55) rfl (fun _ _ => rfl) ?_
  refine RT_step (pc2 := 57) rfl (fun _ _ => rfl) ?_
  refine RT_step (pc2 := 59) rfl (fun _ _ => rfl) ?_
  refine RT_step rfl (fun _ _ => rfl) ?_
  refine RT_if (by decide) ?_
  refine RT_step (pc2 := 80) rfl (fun _ _ => rfl) ?_
  refine RT_step rfl (fun _ _ => rfl) ?_
  refine RT_if (by decide) ?_
  refine RT_step (pc2 := 101) rfl (fun _ _ => rfl) ?_
  exact ow_eq (ow_lrt rfl rfl rfl) (congrArg (fun z => (some (Value.long z), H)) (show (Int64.ofNat 27 * (Int64.ofNat 27 * (Int64.ofNat 27 * ((Int32.ofNat 105).toInt64 - Int64.ofNat 96) + (Int32.ofNat 100).toInt64 - Int64.ofNat 96) + (Int32.ofNat 101).toInt64 - Int64.ofNat 96) + (Int32.ofNat 97).toInt64 - Int64.ofNat 96) = p27 [97, 101, 100, 105] from by decide +kernel))
theorem m_wo28 {H : List AE} : FR 2 293 [.int (Int32.ofNat 28)] H (some (.long (wo 28)), ov H []) := by
  refine FR_ov (l := []) (l2 := []) rfl rfl rfl ?_
  refine RT_step (pc2 := 1) rfl (fun _ _ => rfl) ?_
  refine RT_step (pc2 := 527) rfl (fun _ _ => rfl) ?_
  refine rt_bip rfl k8_105 ?_
  refine rt_bip rfl k8_100 ?_
  refine rt_bip rfl k8_101 ?_
  refine rt_bip rfl k8_97 ?_
  refine rt_ico rfl ki_0 ?_
  refine rt_ico rfl ki_0 ?_
  refine ow_is rfl rfl rfl rfl rfl m_sp28 rfl ?_
  exact ow_lrt rfl rfl rfl
theorem m_sp29 {H : List AE} : FR 1 279 [.int (Int32.ofNat 110), .int (Int32.ofNat 117), .int (Int32.ofNat 109), .int (Int32.ofNat 98), .int (Int32.ofNat 101), .int (Int32.ofNat 114)] H (some (.long (p27 [114, 101, 98, 109, 117, 110])), ov H []) := by
  refine FR_of rfl ?_
  refine RT_step (pc2 := 3) rfl (fun _ _ => rfl) ?_
  refine RT_step (pc2 := 4) rfl (fun _ _ => rfl) ?_
  refine RT_step (pc2 := 5) rfl (fun _ _ => rfl) ?_
  refine RT_step (pc2 := 8) rfl (fun _ _ => rfl) ?_
  refine RT_step (pc2 := 9) rfl (fun _ _ => rfl) ?_
  refine RT_step (pc2 := 10) rfl (fun _ _ => rfl) ?_
  refine RT_step (pc2 := 11) rfl (fun _ _ => rfl) ?_
  refine RT_step (pc2 := 12) rfl (fun _ _ => rfl) ?_
  refine RT_step (pc2 := 13) rfl (fun _ _ => rfl) ?_
  refine RT_step (pc2 := 16) rfl (fun _ _ => rfl) ?_
  refine RT_step (pc2 := 17) rfl (fun _ _ => rfl) ?_
  refine RT_step (pc2 := 19) rfl (fun _ _ => rfl) ?_
  refine RT_step (pc2 := 20) rfl (fun _ _ => rfl) ?_
  refine RT_step rfl (fun _ _ => rfl) ?_
  refine RT_el (by decide) ?_
  refine RT_step (pc2 := 26) rfl (fun _ _ => rfl) ?_
  refine RT_step (pc2 := 28) rfl (fun _ _ => rfl) ?_
  refine RT_step (pc2 := 29) rfl (fun _ _ => rfl) ?_
  refine RT_step (pc2 := 30) rfl (fun _ _ => rfl) ?_
  refine RT_step (pc2 := 31) rfl (fun _ _ => rfl) ?_
  refine RT_step (pc2 := 32) rfl (fun _ _ => rfl) ?_
  refine RT_step (pc2 := 35) rfl (fun _ _ => rfl) ?_
  refine RT_step (pc2 := 36) rfl (fun _ _ => rfl) ?_
  refine RT_step (pc2 := 38) rfl (fun _ _ => rfl) ?_
  refine RT_step (pc2 := 39) rfl (fun _ _ => rfl) ?_
  refine RT_step rfl (fun _ _ => rfl) ?_
  refine RT_el (by decide) ?_
  refine RT_step (pc2 := 45) rfl (fun _ _ => rfl) ?_
  refine RT_step (pc2 := 47) rfl (fun _ _ => rfl) ?_
  refine RT_step (pc2 := 48) rfl (fun _ _ => rfl) ?_
  refine RT_step (pc2 := 49) rfl (fun _ _ => rfl) ?_
  refine RT_step (pc2 := 50) rfl (fun _ _ => rfl) ?_
  refine RT_step (pc2 := 51) rfl (fun _ _ => rfl) ?_
  refine RT_step (pc2 := 54) rfl (fun _ _ => rfl) ?_
  refine RT_step (pc2 := 55) rfl (fun _ _ => rfl) ?_
  refine RT_step (pc2 := 57) rfl (fun _ _ => rfl) ?_
  refine RT_step (pc2 := 59) rfl (fun _ _ => rfl) ?_
  refine RT_step rfl (fun _ _ => rfl) ?_
  refine RT_el (by decide) ?_
  refine RT_step (pc2 := 65) rfl (fun _ _ => rfl) ?_
  refine RT_step (pc2 := 67) rfl (fun _ _ => rfl) ?_
  refine RT_step (pc2 := 68) rfl (fun _ _ => rfl) ?_
  refine RT_step (pc2 := 70) rfl (fun _ _ => rfl) ?_
  refine RT_step (pc2 := 71) rfl (fun _ _ => rfl) ?_
  refine RT_step (pc2 := 72) rfl (fun _ _ => rfl) ?_
  refine RT_step (pc2 := 75) rfl (fun _ _ => rfl) ?_
  refine RT_step (pc2 := 76) rfl (fun _ _ => rfl) ?_
  refine RT_step (pc2 := 78) rfl (fun _ _ => rfl) ?_
  refine RT_step (pc2 := 80) rfl (fun _ _ => rfl) ?_
  refine RT_step rfl (fun _ _ => rfl) ?_
  refine RT_el (by decide) ?_
  refine RT_step (pc2 := 86) rfl (fun _ _ => rfl) ?_
  refine RT_step (pc2 := 88) rfl (fun _ _ => rfl) ?_
  refine RT_step (pc2 := 89) rfl (fun _ _ => rfl) ?_
  refine RT_step (pc2 := 91) rfl (fun _ _ => rfl) ?_
  refine RT_step (pc2 := 92) rfl (fun _ _ => rfl) ?_
  refine RT_step (pc2 := 93) rfl (fun _ _ => rfl) ?_
  refine RT_step (pc2 := 96) rfl (fun _ _ => rfl) ?_
  refine RT_step (pc2 := 97) rfl (fun _ _ => rfl) ?_
  refine RT_step (pc2 := 99) rfl (fun _ _ => rfl) ?_
  refine RT_step (pc2 := 101) rfl (fun _ _ => rfl) ?_
  exact ow_eq (ow_lrt rfl rfl rfl) (congrArg (fun z => (some (Value.long z), H)) (show (Int64.ofNat 27 * (Int64.ofNat 27 * (Int64.ofNat 27 * (Int64.ofNat 27 * (Int64.ofNat 27 * ((Int32.ofNat 110).toInt64 - Int64.ofNat 96) + (Int32.ofNat 117).toInt64 - Int64.ofNat 96) + (Int32.ofNat 109).toInt64 - Int64.ofNat 96) + (Int32.ofNat 98).toInt64 - Int64.ofNat 96) + (Int32.ofNat 101).toInt64 - Int64.ofNat 96) + (Int32.ofNat 114).toInt64 - Int64.ofNat 96) = p27 [114, 101, 98, 109, 117, 110] from by decide +kernel))
theorem m_wo29 {H : List AE} : FR 2 293 [.int (Int32.ofNat 29)] H (some (.long (wo 29)), ov H []) := by
  refine FR_ov (l := []) (l2 := []) rfl rfl rfl ?_
  refine RT_step (pc2 := 1) rfl (fun _ _ => rfl) ?_
  refine RT_step (pc2 := 541) rfl (fun _ _ => rfl) ?_
  refine rt_bip rfl k8_110 ?_
  refine rt_bip rfl k8_117 ?_
  refine rt_bip rfl k8_109 ?_
  refine rt_bip rfl k8_98 ?_
  refine rt_bip rfl k8_101 ?_
  refine rt_bip rfl k8_114 ?_
  refine ow_is rfl rfl rfl rfl rfl m_sp29 rfl ?_
  exact ow_lrt rfl rfl rfl
theorem m_wordOf {H : List AE} : ∀ k, k < 30 → FR 2 293 [.int (Int32.ofNat k)] H (some (.long (wo k)), ov H [])
  | 0, _ => m_wo0
  | 1, _ => m_wo1
  | 2, _ => m_wo2
  | 3, _ => m_wo3
  | 4, _ => m_wo4
  | 5, _ => m_wo5
  | 6, _ => m_wo6
  | 7, _ => m_wo7
  | 8, _ => m_wo8
  | 9, _ => m_wo9
  | 10, _ => m_wo10
  | 11, _ => m_wo11
  | 12, _ => m_wo12
  | 13, _ => m_wo13
  | 14, _ => m_wo14
  | 15, _ => m_wo15
  | 16, _ => m_wo16
  | 17, _ => m_wo17
  | 18, _ => m_wo18
  | 19, _ => m_wo19
  | 20, _ => m_wo20
  | 21, _ => m_wo21
  | 22, _ => m_wo22
  | 23, _ => m_wo23
  | 24, _ => m_wo24
  | 25, _ => m_wo25
  | 26, _ => m_wo26
  | 27, _ => m_wo27
  | 28, _ => m_wo28
  | 29, _ => m_wo29
  | n + 30, h => by omega
def isW (kd : Nat) (wd : Int64) (k : Nat) : Bool := Nat.beq kd 2 && decide (wd = wo k)
theorem m_isWord {H : List AE} (hlen : Nat.ble 204 H.length = true) {p0 p2 nu sg fa pl td : Int32} {sz lim fr kd : Nat} {wd : Int64} {po : List Value} {a : Nat} (h1 : H[180]? = some (mcl p0 p2 sz lim a fr kd nu sg fa pl wd td po)) (hk : kd < 10) {k : Nat} (hk2 : k < 30) : FR 3 227 [.ref 180, .int (Int32.ofNat k)] H (some (.int (b01 (isW kd wd k))), ov H []) := by
  refine FR_ov (l := [(180, mcl p0 p2 sz lim a fr kd nu sg fa pl wd td po)]) (ov_c1 h1) rfl (ov_c1 h1) ?_
  by_cases c1 : kd = 2
  · by_cases c2 : wd = wo k
    · rw [show isW kd wd k = true from by unfold isW; rw [c1, decide_eq_true c2]; rfl]
      refine RT_step (pc2 := 1) rfl (fun _ _ => rfl) ?_
      refine ow_gf rfl rfl rfl hlen rfl ?_
      refine rt_ico rfl ki_2 ?_
      refine RT_step rfl (fun _ _ => rfl) ?_
      refine RT_if (n_eq c1) ?_
      refine RT_step (pc2 := 9) rfl (fun _ _ => rfl) ?_
      refine ow_gf rfl rfl rfl hlen rfl ?_
      refine RT_step (pc2 := 13) rfl (fun _ _ => rfl) ?_
      refine ow_is rfl rfl rfl rfl rfl (m_wordOf k hk2) rfl ?_
      refine RT_step (pc2 := 17) rfl (fun _ _ => rfl) ?_
      refine RT_step rfl (fun _ _ => rfl) ?_
      refine RT_if (lg_0 c2) ?_
      refine rt_ico rfl ki_1 ?_
      refine RT_step (pc2 := 25) rfl (fun _ _ => rfl) ?_
      exact ow_irt rfl rfl rfl
    · rw [show isW kd wd k = false from by unfold isW; rw [decide_eq_false c2, Bool.and_false]]
      refine RT_step (pc2 := 1) rfl (fun _ _ => rfl) ?_
      refine ow_gf rfl rfl rfl hlen rfl ?_
      refine rt_ico rfl ki_2 ?_
      refine RT_step rfl (fun _ _ => rfl) ?_
      refine RT_if (n_eq c1) ?_
      refine RT_step (pc2 := 9) rfl (fun _ _ => rfl) ?_
      refine ow_gf rfl rfl rfl hlen rfl ?_
      refine RT_step (pc2 := 13) rfl (fun _ _ => rfl) ?_
      refine ow_is rfl rfl rfl rfl rfl (m_wordOf k hk2) rfl ?_
      refine RT_step (pc2 := 17) rfl (fun _ _ => rfl) ?_
      refine RT_step rfl (fun _ _ => rfl) ?_
      refine RT_el (lg_1 c2) ?_
      refine rt_ico rfl ki_0 ?_
      exact ow_irt rfl rfl rfl
  · rw [show isW kd wd k = false from by unfold isW; rw [show Nat.beq kd 2 = false from nbqf c1]; rfl]
    refine RT_step (pc2 := 1) rfl (fun _ _ => rfl) ?_
    refine ow_gf rfl rfl rfl hlen rfl ?_
    refine rt_ico rfl ki_2 ?_
    refine RT_step rfl (fun _ _ => rfl) ?_
    refine RT_el (n_ne c1 (by omega) (by decide)) ?_
    refine rt_ico rfl ki_0 ?_
    exact ow_irt rfl rfl rfl
def nmB (wd : Int64) : Nat → Nat → Bool
  | 0, _ => true
  | r + 1, k => if wd = wo k then false else nmB wd r (k + 1)
theorem m_isNameL {H : List AE} (hlen : Nat.ble 204 H.length = true) {p0 p2 nu sg fa pl td : Int32} {sz lim fr kd : Nat} {wd : Int64} {po : List Value} {a : Nat} : ∀ (r k : Nat) (L : List (Nat × Value)), k + r = 30 → ev_g L 0 = some (.ref 180) → ev_g L 1 = some (.int (Int32.ofNat k)) → RT MM 2 221 12 L [] (ov H [(180, mcl p0 p2 sz lim a fr kd nu sg fa pl wd td po)]) (some (.int (b01 (nmB wd r k))), ov H [(180, mcl p0 p2 sz lim a fr kd nu sg fa pl wd td po)]) := by
  intro r
  induction r with
  | zero =>
    intro k L hk l0 l1
    have hk : k = 30 := by omega
    subst hk
    refine rt_ild rfl l1 ?_
    refine rt_bip rfl k8_29 ?_
    refine RT_step rfl (fun _ _ => rfl) ?_
    refine RT_if (n_lt (by decide) (by decide)) ?_
    refine rt_ico rfl ki_1 ?_
    exact ow_irt rfl rfl rfl
  | succ r ih =>
    intro k L hk l0 l1
    by_cases c1 : wd = wo k
    · rw [show nmB wd (r + 1) k = false from if_pos c1]
      refine rt_ild rfl l1 ?_
      refine rt_bip rfl k8_29 ?_
      refine RT_step rfl (fun _ _ => rfl) ?_
      refine RT_el (n_nlt (by omega) (by decide)) ?_
      refine rt_ald rfl l0 ?_
      refine ow_gf rfl rfl rfl hlen rfl ?_
      refine rt_ild rfl l1 ?_
      refine ow_is rfl rfl rfl rfl rfl (m_wordOf k (by omega)) rfl ?_
      refine RT_step (pc2 := 27) rfl (fun _ _ => rfl) ?_
      refine RT_step rfl (fun _ _ => rfl) ?_
      refine RT_if (lg_0 c1) ?_
      refine rt_ico rfl ki_0 ?_
      exact ow_irt rfl rfl rfl
    · rw [show nmB wd (r + 1) k = nmB wd r (k + 1) from if_neg c1]
      refine rt_ild rfl l1 ?_
      refine rt_bip rfl k8_29 ?_
      refine RT_step rfl (fun _ _ => rfl) ?_
      refine RT_el (n_nlt (by omega) (by decide)) ?_
      refine rt_ald rfl l0 ?_
      refine ow_gf rfl rfl rfl hlen rfl ?_
      refine rt_ild rfl l1 ?_
      refine ow_is rfl rfl rfl rfl rfl (m_wordOf k (by omega)) rfl ?_
      refine RT_step (pc2 := 27) rfl (fun _ _ => rfl) ?_
      refine RT_step rfl (fun _ _ => rfl) ?_
      refine RT_el (lg_1 c1) ?_
      refine rt_inc rfl l1 (by decide +kernel) ?_
      rw [in_1]
      refine RT_step (pc2 := 12) rfl (fun _ _ => rfl) ?_
      exact ih (k + 1) _ (by omega) (gs_o rfl l0 rfl) gs_n
theorem m_isName {H : List AE} (hlen : Nat.ble 204 H.length = true) {p0 p2 nu sg fa pl td : Int32} {sz lim fr kd : Nat} {wd : Int64} {po : List Value} {a : Nat} (h1 : H[180]? = some (mcl p0 p2 sz lim a fr kd nu sg fa pl wd td po)) (hk : kd < 10) : FR 3 221 [.ref 180] H (some (.int (b01 (Nat.beq kd 2 && nmB wd 30 0))), ov H []) := by
  refine FR_ov (l := [(180, mcl p0 p2 sz lim a fr kd nu sg fa pl wd td po)]) (ov_c1 h1) rfl (ov_c1 h1) ?_
  by_cases c1 : kd = 2
  · rw [show (Nat.beq kd 2 && nmB wd 30 0) = nmB wd 30 0 from by rw [c1]; rfl]
    refine RT_step (pc2 := 1) rfl (fun _ _ => rfl) ?_
    refine ow_gf rfl rfl rfl hlen rfl ?_
    refine rt_ico rfl ki_2 ?_
    refine RT_step rfl (fun _ _ => rfl) ?_
    refine RT_if (n_eq c1) ?_
    refine rt_ico rfl ki_0 ?_
    refine RT_step (pc2 := 12) rfl (fun _ _ => rfl) ?_
    exact m_isNameL hlen 30 0 _ rfl rfl rfl
  · rw [show (Nat.beq kd 2 && nmB wd 30 0) = false from by rw [nbqf c1]; rfl]
    refine RT_step (pc2 := 1) rfl (fun _ _ => rfl) ?_
    refine ow_gf rfl rfl rfl hlen rfl ?_
    refine rt_ico rfl ki_2 ?_
    refine RT_step rfl (fun _ _ => rfl) ?_
    refine RT_el (n_ne c1 (by omega) (by decide)) ?_
    refine rt_ico rfl ki_0 ?_
    exact ow_irt rfl rfl rfl
theorem m_isSign {H : List AE} (hlen : Nat.ble 204 H.length = true) {p0 p2 nu sg fa pl td : Int32} {sz lim fr kd : Nat} {wd : Int64} {po : List Value} {a : Nat} (h1 : H[180]? = some (mcl p0 p2 sz lim a fr kd nu sg fa pl wd td po)) (hk : kd < 10) {c s : Nat} (hc : c < 256) (hs : s < 256) (hsg : kd = 4 → sg = Int32.ofNat s) : FR 1 225 [.ref 180, .int (Int32.ofNat c)] H (some (.int (b01 (Nat.beq kd 4 && Nat.beq s c))), ov H []) := by
  refine FR_ov (l := [(180, mcl p0 p2 sz lim a fr kd nu sg fa pl wd td po)]) (ov_c1 h1) rfl (ov_c1 h1) ?_
  by_cases c1 : kd = 4
  · have hsg := hsg c1
    subst hsg
    by_cases c2 : s = c
    · rw [show (Nat.beq kd 4 && Nat.beq s c) = true from by rw [c1, c2, Nat.beq_refl, Nat.beq_refl]; rfl]
      refine RT_step (pc2 := 1) rfl (fun _ _ => rfl) ?_
      refine ow_gf rfl rfl rfl hlen rfl ?_
      refine rt_ico rfl ki_4 ?_
      refine RT_step rfl (fun _ _ => rfl) ?_
      refine RT_if (n_eq c1) ?_
      refine RT_step (pc2 := 9) rfl (fun _ _ => rfl) ?_
      refine ow_gf rfl rfl rfl hlen rfl ?_
      refine RT_step (pc2 := 13) rfl (fun _ _ => rfl) ?_
      refine RT_step rfl (fun _ _ => rfl) ?_
      refine RT_if (n_eq c2) ?_
      refine rt_ico rfl ki_1 ?_
      refine RT_step (pc2 := 21) rfl (fun _ _ => rfl) ?_
      exact ow_irt rfl rfl rfl
    · rw [show (Nat.beq kd 4 && Nat.beq s c) = false from by rw [nbqf c2, Bool.and_false]]
      refine RT_step (pc2 := 1) rfl (fun _ _ => rfl) ?_
      refine ow_gf rfl rfl rfl hlen rfl ?_
      refine rt_ico rfl ki_4 ?_
      refine RT_step rfl (fun _ _ => rfl) ?_
      refine RT_if (n_eq c1) ?_
      refine RT_step (pc2 := 9) rfl (fun _ _ => rfl) ?_
      refine ow_gf rfl rfl rfl hlen rfl ?_
      refine RT_step (pc2 := 13) rfl (fun _ _ => rfl) ?_
      refine RT_step rfl (fun _ _ => rfl) ?_
      refine RT_el (n_ne c2 (by omega) (by omega)) ?_
      refine rt_ico rfl ki_0 ?_
      exact ow_irt rfl rfl rfl
  · rw [show (Nat.beq kd 4 && Nat.beq s c) = false from by rw [nbqf c1]; rfl]
    refine RT_step (pc2 := 1) rfl (fun _ _ => rfl) ?_
    refine ow_gf rfl rfl rfl hlen rfl ?_
    refine rt_ico rfl ki_4 ?_
    refine RT_step rfl (fun _ _ => rfl) ?_
    refine RT_el (n_ne c1 (by omega) (by decide)) ?_
    refine rt_ico rfl ki_0 ?_
    exact ow_irt rfl rfl rfl
theorem m_bad {H : List AE} (hlen : Nat.ble 204 H.length = true) {p0 p2 nu sg fa pl td : Int32} {sz lim fr kd : Nat} {wd : Int64} {po : List Value} {a : Nat} (h1 : H[180]? = some (mcl p0 p2 sz lim a fr kd nu sg fa pl wd td po)) (hk : kd < 10) {kk : Int32} : FR 1 174 [.ref 180, .int kk] H (some (.int (Int32.ofNat 0)), ov H [(180, mcl p0 p2 sz lim a fr kd nu sg (if kd = 1 then Int32.ofNat 1 else kk) (Int32.ofNat fr) wd td po)]) := by
  refine FR_ov (l := [(180, mcl p0 p2 sz lim a fr kd nu sg fa pl wd td po)]) (l2 := [(180, mcl p0 p2 sz lim a fr kd nu sg (if kd = 1 then Int32.ofNat 1 else kk) (Int32.ofNat fr) wd td po)]) (ov_c1 h1) rfl rfl ?_
  by_cases c1 : kd = 1
  · rw [if_pos c1]
    refine RT_step (pc2 := 1) rfl (fun _ _ => rfl) ?_
    refine RT_step (pc2 := 2) rfl (fun _ _ => rfl) ?_
    refine ow_gf rfl rfl rfl hlen rfl ?_
    refine rt_ico rfl ki_1 ?_
    refine RT_step rfl (fun _ _ => rfl) ?_
    refine RT_if (n_eq c1) ?_
    refine rt_ico rfl ki_1 ?_
    refine RT_step (pc2 := 14) rfl (fun _ _ => rfl) ?_
    refine ow_pf rfl rfl rfl rfl rfl hlen rfl rfl ?_
    refine RT_step (pc2 := 18) rfl (fun _ _ => rfl) ?_
    refine RT_step (pc2 := 19) rfl (fun _ _ => rfl) ?_
    refine ow_gf rfl rfl rfl hlen rfl ?_
    refine ow_pf rfl rfl rfl rfl rfl hlen rfl rfl ?_
    refine rt_ico rfl ki_0 ?_
    exact ow_irt rfl rfl rfl
  · rw [if_neg c1]
    refine RT_step (pc2 := 1) rfl (fun _ _ => rfl) ?_
    refine RT_step (pc2 := 2) rfl (fun _ _ => rfl) ?_
    refine ow_gf rfl rfl rfl hlen rfl ?_
    refine rt_ico rfl ki_1 ?_
    refine RT_step rfl (fun _ _ => rfl) ?_
    refine RT_el (n_ne c1 (by omega) (by decide)) ?_
    refine RT_step (pc2 := 14) rfl (fun _ _ => rfl) ?_
    refine ow_pf rfl rfl rfl rfl rfl hlen rfl rfl ?_
    refine RT_step (pc2 := 18) rfl (fun _ _ => rfl) ?_
    refine RT_step (pc2 := 19) rfl (fun _ _ => rfl) ?_
    refine ow_gf rfl rfl rfl hlen rfl ?_
    refine ow_pf rfl rfl rfl rfl rfl hlen rfl rfl ?_
    refine rt_ico rfl ki_0 ?_
    exact ow_irt rfl rfl rfl
theorem m_isIn {H : List AE} {v lo hi : Nat} (hv : v < 2000000) (hl : lo < 2000000) (hh : hi < 2000000) : FR 1 218 [.int (Int32.ofNat v), .int (Int32.ofNat lo), .int (Int32.ofNat hi)] H (some (.int (b01 (Nat.ble lo v && Nat.ble v hi))), ov H []) := by
  refine FR_of rfl ?_
  by_cases c1 : v < lo
  · rw [show (Nat.ble lo v && Nat.ble v hi) = false from by rw [ble_f c1]; rfl]
    refine RT_step (pc2 := 1) rfl (fun _ _ => rfl) ?_
    refine RT_step (pc2 := 2) rfl (fun _ _ => rfl) ?_
    refine RT_step rfl (fun _ _ => rfl) ?_
    refine RT_if (n_lt c1 (by omega)) ?_
    refine rt_ico rfl ki_0 ?_
    exact ow_irt rfl rfl rfl
  · by_cases c2 : hi < v
    · rw [show (Nat.ble lo v && Nat.ble v hi) = false from by rw [ble_f c2, Bool.and_false]]
      refine RT_step (pc2 := 1) rfl (fun _ _ => rfl) ?_
      refine RT_step (pc2 := 2) rfl (fun _ _ => rfl) ?_
      refine RT_step rfl (fun _ _ => rfl) ?_
      refine RT_el (n_nlt (by omega) (by omega)) ?_
      refine RT_step (pc2 := 6) rfl (fun _ _ => rfl) ?_
      refine RT_step (pc2 := 7) rfl (fun _ _ => rfl) ?_
      refine RT_step rfl (fun _ _ => rfl) ?_
      refine RT_if (n_lt c2 (by omega)) ?_
      refine rt_ico rfl ki_0 ?_
      exact ow_irt rfl rfl rfl
    · rw [show (Nat.ble lo v && Nat.ble v hi) = true from by rw [Nat.ble_eq_true_of_le (show lo ≤ v by omega), Nat.ble_eq_true_of_le (show v ≤ hi by omega)]; rfl]
      refine RT_step (pc2 := 1) rfl (fun _ _ => rfl) ?_
      refine RT_step (pc2 := 2) rfl (fun _ _ => rfl) ?_
      refine RT_step rfl (fun _ _ => rfl) ?_
      refine RT_el (n_nlt (by omega) (by omega)) ?_
      refine RT_step (pc2 := 6) rfl (fun _ _ => rfl) ?_
      refine RT_step (pc2 := 7) rfl (fun _ _ => rfl) ?_
      refine RT_step rfl (fun _ _ => rfl) ?_
      refine RT_el (n_nlt (by omega) (by omega)) ?_
      refine rt_ico rfl ki_1 ?_
      refine RT_step (pc2 := 15) rfl (fun _ _ => rfl) ?_
      exact ow_irt rfl rfl rfl
theorem x_refuse {H : List AE} (hlen : Nat.ble 204 H.length = true) {n lim kd pl w : Nat} {le : Int64} {nu tk fa fp : Int32} {a : Nat} (h1 : H[1]? = some (tcl n lim a kd pl w le nu tk fa fp)) {kk : Int32} : FR 1 165 [.ref 1, .int kk] H (some (.int (Int32.ofNat 0)), ov H [(1, tcl n lim a kd pl w le nu tk kk (Int32.ofNat pl))]) := by
  refine FR_ov (l := [(1, tcl n lim a kd pl w le nu tk fa fp)]) (l2 := [(1, tcl n lim a kd pl w le nu tk kk (Int32.ofNat pl))]) (ov_c1 h1) rfl rfl ?_
  refine RT_step (pc2 := 1) rfl (fun _ _ => rfl) ?_
  refine RT_step (pc2 := 2) rfl (fun _ _ => rfl) ?_
  refine ow_pf rfl rfl rfl rfl rfl hlen rfl rfl ?_
  refine RT_step (pc2 := 6) rfl (fun _ _ => rfl) ?_
  refine RT_step (pc2 := 7) rfl (fun _ _ => rfl) ?_
  refine ow_gf rfl rfl rfl hlen rfl ?_
  refine ow_pf rfl rfl rfl rfl rfl hlen rfl rfl ?_
  refine rt_ico rfl ki_0 ?_
  exact ow_irt rfl rfl rfl
