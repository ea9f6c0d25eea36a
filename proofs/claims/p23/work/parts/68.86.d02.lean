set_option maxRecDepth 100000 in
theorem lk400 : ∀ pc, ev_kb MM "LeftAnswers$Sentence" pc (.putfield 35) 7 1 = true := kb_putf (by decide +kernel) gw656
set_option maxRecDepth 100000 in
theorem lk401 : ∀ pc, ev_kb MM "LeftAnswers$Sentence" pc (.getstatic 91) 100 0 = true := kb_getw rfl gw657
set_option maxRecDepth 100000 in
theorem lk402 : ∀ pc, ev_kb MM "LeftAnswers$Sentence" pc (.invokevirtual 96) 900 0 = true := kb_ord gw658
set_option maxRecDepth 100000 in
theorem lk403 : ∀ pc, ev_kb MM "LeftAnswers$Sentence" pc (.invokevirtual 137) 106 0 = true := kb_vi (by decide) me106 (by decide +kernel) gw659 gw239 gw237
set_option maxRecDepth 100000 in
theorem lk404 : ∀ pc, ev_kb MM "LeftAnswers$Sentence" pc (.getfield 142) 3 3 = true := kb_getf (by decide +kernel) gw660
set_option maxRecDepth 100000 in
theorem lk405 : ∀ pc, ev_kb MM "LeftAnswers$Sentence" pc (.invokevirtual 145) 114 0 = true := kb_vi (by decide) me114 (by decide +kernel) gw661 gw244 gw242
set_option maxRecDepth 100000 in
theorem lk406 : ∀ pc, ev_kb MM "LeftAnswers$Sentence" pc (.invokevirtual 148) 93 0 = true := kb_vi (by decide) me93 (by decide +kernel) gw662 gw665 gw663
set_option maxRecDepth 100000 in
theorem lk407 : ∀ pc, ev_kb MM "LeftAnswers$Sentence" pc (.invokevirtual 151) 113 1 = true := kb_vi (by decide) me113 (by decide +kernel) gw666 gw248 gw246
set_option maxRecDepth 100000 in
theorem lk408 : ∀ pc, ev_kb MM "LeftAnswers$Sentence" pc (.invokevirtual 155) 139 3 = true := kb_vi (by decide) me139 (by decide +kernel) gw667 gw670 gw668
set_option maxRecDepth 100000 in
theorem lk409 : ∀ pc, ev_kb MM "LeftAnswers$Sentence" pc (.putfield 31) 7 0 = true := kb_putf (by decide +kernel) gw671
set_option maxRecDepth 100000 in
theorem lk410 : ∀ pc, ev_kb MM "LeftAnswers$Sentence" pc (.getfield 31) 7 0 = true := kb_getf (by decide +kernel) gw671
set_option maxRecDepth 100000 in
theorem lk411 : ∀ pc, ev_kb MM "LeftAnswers$Sentence" pc (.getfield 158) 1 0 = true := kb_getf (by decide +kernel) gw672
set_option maxRecDepth 100000 in
theorem lk412 : ∀ pc, ev_kb MM "LeftAnswers$Sentence" pc (.invokestatic 161) 140 3 = true := kb_st (by decide) me140 gw673 gw675
set_option maxRecDepth 100000 in
theorem lk413 : ∀ pc, ev_kb MM "LeftAnswers$Sentence" pc (.invokestatic 165) 138 3 = true := kb_st (by decide) me138 gw676 gw678
set_option maxRecDepth 100000 in
theorem lk414 : ∀ pc, ev_kb MM "LeftAnswers$Sentence" pc (.getfield 169) 3 9 = true := kb_getf (by decide +kernel) gw679
set_option maxRecDepth 100000 in
theorem lk415 : ∀ pc, ev_kb MM "LeftAnswers$Sentence" pc (.getfield 172) 3 5 = true := kb_getf (by decide +kernel) gw680
set_option maxRecDepth 100000 in
theorem lk416 : ∀ pc, ev_kb MM "LeftAnswers$Sentence" pc (.getfield 175) 3 6 = true := kb_getf (by decide +kernel) gw681
set_option maxRecDepth 100000 in
theorem lk417 : ∀ pc, ev_kb MM "LeftAnswers$Sentence" pc (.getfield 178) 3 8 = true := kb_getf (by decide +kernel) gw682
set_option maxRecDepth 100000 in
theorem lk418 : ∀ pc, ev_kb MM "LeftAnswers$Sentence" pc (.invokevirtual 74) 145 3 = true := kb_vi (by decide) me145 (by decide +kernel) gw683 gw686 gw684
set_option maxRecDepth 100000 in
theorem lk419 : ∀ pc, ev_kb MM "LeftAnswers$Sentence" pc (.getfield 61) 9 6 = true := kb_getf (by decide +kernel) gw687
set_option maxRecDepth 100000 in
theorem lk420 : ∀ pc, ev_kb MM "LeftAnswers$Sentence" pc (.getstatic 77) 21 0 = true := kb_gets (by decide) gw688
set_option maxRecDepth 100000 in
theorem lk421 : ∀ pc, ev_kb MM "LeftAnswers$Sentence" pc (.invokevirtual 67) 155 0 = true := kb_vi (by decide) me155 (by decide +kernel) gw689 gw346 gw344
set_option maxRecDepth 100000 in
theorem lk422 : ∀ pc, ev_kb MM "LeftAnswers$Sentence" pc (.invokevirtual 70) 133 3 = true := kb_vi (by decide) me133 (by decide +kernel) gw690 gw693 gw691
set_option maxRecDepth 100000 in
theorem lk423 : ∀ pc, ev_kb MM "LeftAnswers$Sentence" pc (.invokevirtual 58) 141 3 = true := kb_vi (by decide) me141 (by decide +kernel) gw694 gw697 gw695
set_option maxRecDepth 100000 in
theorem lk424 : ∀ pc, ev_kb MM "LeftAnswers$Sentence" pc (.getstatic 64) 20 0 = true := kb_gets (by decide) gw698
set_option maxRecDepth 100000 in
theorem lk425 : ∀ pc, ev_kb MM "LeftAnswers$Sentence" pc (.invokevirtual 38) 136 0 = true := kb_vi (by decide) me136 (by decide +kernel) gw699 gw183 gw181
set_option maxRecDepth 100000 in
theorem lk426 : ∀ pc, ev_kb MM "LeftAnswers$Sentence" pc (.invokevirtual 41) 161 1 = true := kb_vi (by decide) me161 (by decide +kernel) gw700 gw374 gw372
set_option maxRecDepth 100000 in
theorem lk427 : ∀ pc, ev_kb MM "LeftAnswers$Sentence" pc (.invokevirtual 47) 142 3 = true := kb_vi (by decide) me142 (by decide +kernel) gw701 gw704 gw702
set_option maxRecDepth 100000 in
theorem lk428 : ∀ pc, ev_kb MM "LeftAnswers$Sentence" pc (.getfield 51) 9 4 = true := kb_getf (by decide +kernel) gw705
set_option maxRecDepth 100000 in
theorem lk429 : ∀ pc, ev_kb MM "LeftAnswers$Sentence" pc (.invokevirtual 54) 165 1 = true := kb_vi (by decide) me165 (by decide +kernel) gw706 gw342 gw340
set_option maxRecDepth 100000 in
theorem lk430 : ∀ pc, ev_kb MM "LeftAnswers$Sentence" pc (.getfield 117) 9 8 = true := kb_getf (by decide +kernel) gw707
set_option maxRecDepth 100000 in
theorem lk431 : ∀ pc, ev_kb MM "LeftAnswers$Sentence" pc (.invokevirtual 80) 160 1 = true := kb_vi (by decide) me160 (by decide +kernel) gw708 gw711 gw709
set_option maxRecDepth 100000 in
theorem lk432 : ∀ pc, ev_kb MM "LeftAnswers$Sentence" pc (.invokevirtual 120) 168 2 = true := kb_vi (by decide) me168 (by decide +kernel) gw712 gw365 gw363
set_option maxRecDepth 100000 in
theorem lk433 : ∀ pc, ev_kb MM "LeftAnswers$Sentence" pc (.getfield 124) 9 9 = true := kb_getf (by decide +kernel) gw713
set_option maxRecDepth 100000 in
theorem lk434 : ∀ pc, ev_kb MM "LeftAnswers$Sentence" pc (.invokestatic 84) 134 1 = true := kb_st (by decide) me134 gw714 gw716
set_option maxRecDepth 100000 in
theorem lk435 : ∀ pc, ev_kb MM "LeftAnswers$Sentence" pc (.invokevirtual 88) 167 1 = true := kb_vi (by decide) me167 (by decide +kernel) gw717 gw388 gw386
set_option maxRecDepth 100000 in
theorem lk436 : ∀ pc, ev_kb MM "LeftAnswers$Sentence" pc (.invokevirtual 100) 146 2 = true := kb_vi (by decide) me146 (by decide +kernel) gw718 gw721 gw719
set_option maxRecDepth 100000 in
theorem lk437 : ∀ pc, ev_kb MM "LeftAnswers$Sentence" pc (.invokevirtual 104) 144 2 = true := kb_vi (by decide) me144 (by decide +kernel) gw722 gw725 gw723
set_option maxRecDepth 100000 in
theorem lk438 : ∀ pc, ev_kb MM "LeftAnswers$Sentence" pc (.invokevirtual 108) 73 1 = true := kb_vi (by decide) me73 (by decide +kernel) gw726 gw338 gw336
set_option maxRecDepth 100000 in
theorem lk439 : ∀ pc, ev_kb MM "LeftAnswers$Sentence" pc (.getstatic 114) 27 0 = true := kb_gets (by decide) gw727
set_option maxRecDepth 100000 in
theorem lk440 : ∀ pc, ev_kb MM "LeftAnswers$Sentence" pc (.invokevirtual 127) 58 0 = true := kb_vi (by decide) me58 (by decide +kernel) gw728 gw430 gw428
set_option maxRecDepth 100000 in
theorem lk441 : ∀ pc, ev_kb MM "LeftAnswers$Sentence" pc (.getfield 28) 7 5 = true := kb_getf (by decide +kernel) gw655
set_option maxRecDepth 100000 in
theorem lk442 : ∀ pc, ev_kb MM "LeftAnswers$Sentence" pc (.getstatic 130) 22 0 = true := kb_gets (by decide) gw729
set_option maxRecDepth 100000 in
theorem lk443 : ∀ pc, ev_kb MM "LeftAnswers$Sentence" pc (.invokevirtual 133) 135 3 = true := kb_vi (by decide) me135 (by decide +kernel) gw730 gw733 gw731
set_option maxRecDepth 100000 in
theorem lk444 : ∀ pc, ev_kb MM "LeftAnswers$Slip" pc (.invokespecial 3) 999 0 = true := kb_obj gw734 gw1 gw2
set_option maxRecDepth 100000 in
theorem lk445 : ∀ pc, ev_kb MM "LeftAnswers$Slip" pc (.newarray .byte) 0 0 = true := kb_newa gw735
set_option maxRecDepth 100000 in
theorem lk446 : ∀ pc, ev_kb MM "LeftAnswers$Slip" pc (.putfield 11) 8 0 = true := kb_putf (by decide +kernel) gw736
set_option maxRecDepth 100000 in
theorem lk447 : ∀ pc, ev_kb MM "LeftAnswers$Slip" pc (.ldc2_w 76) 31 0 = true := kb_ldc2 gw737
set_option maxRecDepth 100000 in
theorem lk448 : ∀ pc, ev_kb MM "LeftAnswers$Slip" pc (.invokevirtual 73) 151 1 = true := kb_vi (by decide) me151 (by decide +kernel) gw738 gw741 gw739
set_option maxRecDepth 100000 in
theorem lk449 : ∀ pc, ev_kb MM "LeftAnswers$Slip" pc (.getfield 15) 8 1 = true := kb_getf (by decide +kernel) gw742
set_option maxRecDepth 100000 in
theorem lk450 : ∀ pc, ev_kb MM "LeftAnswers$Slip" pc (.getfield 11) 8 0 = true := kb_getf (by decide +kernel) gw736
set_option maxRecDepth 100000 in
theorem lk451 : ∀ pc, ev_kb MM "LeftAnswers$Slip" pc (.putfield 15) 8 1 = true := kb_putf (by decide +kernel) gw742
set_option maxRecDepth 100000 in
theorem lk452 : ∀ pc, ev_kb MM "LeftAnswers$Slip" pc (.invokevirtual 64) 905 0 = true := kb_len gw743
set_option maxRecDepth 100000 in
theorem lk453 : ∀ pc, ev_kb MM "LeftAnswers$Slip" pc (.invokevirtual 69) 906 1 = true := kb_cha gw744
set_option maxRecDepth 100000 in
theorem lk454 : ∀ pc, ev_kb MM "LeftAnswers$Slip" pc (.getfield 19) 1 7 = true := kb_getf (by decide +kernel) gw745
set_option maxRecDepth 100000 in
theorem lk455 : ∀ pc, ev_kb MM "LeftAnswers$Slip" pc (.invokevirtual 25) 149 1 = true := kb_vi (by decide) me149 (by decide +kernel) gw746 gw749 gw747
set_option maxRecDepth 100000 in
theorem lk456 : ∀ pc, ev_kb MM "LeftAnswers$Slip" pc (.ldc 29) 300 1 = true := kb_ldcs (by decide +kernel)
set_option maxRecDepth 100000 in
theorem lk457 : ∀ pc, ev_kb MM "LeftAnswers$Slip" pc (.invokevirtual 31) 152 1 = true := kb_vi (by decide) me152 (by decide +kernel) gw750 gw753 gw751
set_option maxRecDepth 100000 in
theorem lk458 : ∀ pc, ev_kb MM "LeftAnswers$Slip" pc (.getfield 35) 3 5 = true := kb_getf (by decide +kernel) gw754
set_option maxRecDepth 100000 in
theorem lk459 : ∀ pc, ev_kb MM "LeftAnswers$Slip" pc (.invokevirtual 41) 150 1 = true := kb_vi (by decide) me150 (by decide +kernel) gw755 gw758 gw756
set_option maxRecDepth 100000 in
theorem lk460 : ∀ pc, ev_kb MM "LeftAnswers$Slip" pc (.invokevirtual 45) 103 1 = true := kb_vi (by decide) me103 (by decide +kernel) gw759 gw585 gw583
set_option maxRecDepth 100000 in
theorem lk461 : ∀ pc, ev_kb MM "LeftAnswers$Slip" pc (.ldc 49) 301 1 = true := kb_ldcs (by decide +kernel)
set_option maxRecDepth 100000 in
theorem lk462 : ∀ pc, ev_kb MM "LeftAnswers$Slip" pc (.getfield 51) 3 7 = true := kb_getf (by decide +kernel) gw760
set_option maxRecDepth 100000 in
theorem lk463 : ∀ pc, ev_kb MM "LeftAnswers$Slip" pc (.invokevirtual 54) 102 1 = true := kb_vi (by decide) me102 (by decide +kernel) gw761 gw280 gw278
set_option maxRecDepth 100000 in
theorem lk464 : ∀ pc, ev_kb MM "LeftAnswers$Slip" pc (.ldc 57) 302 1 = true := kb_ldcs (by decide +kernel)
set_option maxRecDepth 100000 in
theorem lk465 : ∀ pc, ev_kb MM "LeftAnswers$Slip" pc (.getfield 59) 3 9 = true := kb_getf (by decide +kernel) gw762
set_option maxRecDepth 100000 in
theorem lk466 : ∀ pc, ev_kb MM "LeftAnswers$Slip" pc (.ldc 62) 303 1 = true := kb_ldcs (by decide +kernel)
set_option maxRecDepth 100000 in
theorem lk467 : ∀ pc, ev_kb MM "LeftAnswers$Tape" pc (.invokespecial 3) 999 0 = true := kb_obj gw763 gw1 gw2
set_option maxRecDepth 100000 in
theorem lk468 : ∀ pc, ev_kb MM "LeftAnswers$Tape" pc (.newarray .byte) 0 0 = true := kb_newa gw735
set_option maxRecDepth 100000 in
theorem lk469 : ∀ pc, ev_kb MM "LeftAnswers$Tape" pc (.putfield 11) 9 0 = true := kb_putf (by decide +kernel) gw764
set_option maxRecDepth 100000 in
theorem lk470 : ∀ pc, ev_kb MM "LeftAnswers$Tape" pc (.getstatic 15) 0 0 = true := kb_gets (by decide) gw765
set_option maxRecDepth 100000 in
theorem lk471 : ∀ pc, ev_kb MM "LeftAnswers$Tape" pc (.putfield 21) 9 6 = true := kb_putf (by decide +kernel) gw766
set_option maxRecDepth 100000 in
theorem lk472 : ∀ pc, ev_kb MM "LeftAnswers$Tape" pc (.putfield 46) 9 7 = true := kb_putf (by decide +kernel) gw767
set_option maxRecDepth 100000 in
theorem lk473 : ∀ pc, ev_kb MM "LeftAnswers$Tape" pc (.putfield 50) 9 8 = true := kb_putf (by decide +kernel) gw768
set_option maxRecDepth 100000 in
theorem lk474 : ∀ pc, ev_kb MM "LeftAnswers$Tape" pc (.getfield 31) 9 3 = true := kb_getf (by decide +kernel) gw769
set_option maxRecDepth 100000 in
theorem lk475 : ∀ pc, ev_kb MM "LeftAnswers$Tape" pc (.getfield 24) 9 1 = true := kb_getf (by decide +kernel) gw770
set_option maxRecDepth 100000 in
theorem lk476 : ∀ pc, ev_kb MM "LeftAnswers$Tape" pc (.invokevirtual 53) 166 1 = true := kb_vi (by decide) me166 (by decide +kernel) gw771 gw210 gw208
set_option maxRecDepth 100000 in
theorem lk477 : ∀ pc, ev_kb MM "LeftAnswers$Tape" pc (.invokestatic 57) 156 1 = true := kb_st (by decide) me156 gw772 gw774
set_option maxRecDepth 100000 in
theorem lk478 : ∀ pc, ev_kb MM "LeftAnswers$Tape" pc (.putfield 31) 9 3 = true := kb_putf (by decide +kernel) gw769
set_option maxRecDepth 100000 in
theorem lk479 : ∀ pc, ev_kb MM "LeftAnswers$Tape" pc (.putfield 61) 9 5 = true := kb_putf (by decide +kernel) gw775
set_option maxRecDepth 100000 in
theorem lk480 : ∀ pc, ev_kb MM "LeftAnswers$Tape" pc (.getfield 28) 9 2 = true := kb_getf (by decide +kernel) gw776
set_option maxRecDepth 100000 in
theorem lk481 : ∀ pc, ev_kb MM "LeftAnswers$Tape" pc (.putfield 64) 9 4 = true := kb_putf (by decide +kernel) gw777
set_option maxRecDepth 100000 in
theorem lk482 : ∀ pc, ev_kb MM "LeftAnswers$Tape" pc (.invokestatic 67) 158 1 = true := kb_st (by decide) me158 gw778 gw780
set_option maxRecDepth 100000 in
theorem lk483 : ∀ pc, ev_kb MM "LeftAnswers$Tape" pc (.invokestatic 70) 157 1 = true := kb_st (by decide) me157 gw781 gw783
set_option maxRecDepth 100000 in
theorem lk484 : ∀ pc, ev_kb MM "LeftAnswers$Tape" pc (.invokevirtual 73) 164 0 = true := kb_vi (by decide) me164 (by decide +kernel) gw784 gw787 gw785
set_option maxRecDepth 100000 in
theorem lk485 : ∀ pc, ev_kb MM "LeftAnswers$Tape" pc (.invokevirtual 76) 163 0 = true := kb_vi (by decide) me163 (by decide +kernel) gw788 gw791 gw789
set_option maxRecDepth 100000 in
theorem lk486 : ∀ pc, ev_kb MM "LeftAnswers$Tape" pc (.getfield 64) 9 4 = true := kb_getf (by decide +kernel) gw777
set_option maxRecDepth 100000 in
theorem lk487 : ∀ pc, ev_kb MM "LeftAnswers$Tape" pc (.getfield 50) 9 8 = true := kb_getf (by decide +kernel) gw768
set_option maxRecDepth 100000 in
theorem lk488 : ∀ pc, ev_kb MM "LeftAnswers$Tape" pc (.putfield 28) 9 2 = true := kb_putf (by decide +kernel) gw776
set_option maxRecDepth 100000 in
theorem lk489 : ∀ pc, ev_kb MM "LeftAnswers$Tape" pc (.putfield 34) 9 10 = true := kb_putf (by decide +kernel) gw792
set_option maxRecDepth 100000 in
theorem lk490 : ∀ pc, ev_kb MM "LeftAnswers$Tape" pc (.putfield 37) 9 11 = true := kb_putf (by decide +kernel) gw793
set_option maxRecDepth 100000 in
theorem lk491 : ∀ pc, ev_kb MM "LeftAnswers$Tape" pc (.putfield 40) 9 9 = true := kb_putf (by decide +kernel) gw794
set_option maxRecDepth 100000 in
theorem lk492 : ∀ pc, ev_kb MM "LeftAnswers$Tape" pc (.invokevirtual 43) 155 0 = true := kb_vi (by decide) me155 (by decide +kernel) gw795 gw346 gw344
set_option maxRecDepth 100000 in
theorem lk493 : ∀ pc, ev_kb MM "LeftAnswers$Tape" pc (.getfield 11) 9 0 = true := kb_getf (by decide +kernel) gw764
set_option maxRecDepth 100000 in
theorem lk494 : ∀ pc, ev_kb MM "LeftAnswers$Tape" pc (.putfield 24) 9 1 = true := kb_putf (by decide +kernel) gw770
set_option maxRecDepth 100000 in
theorem lk495 : ∀ pc, ev_kb MM "LeftAnswers$Tape" pc (.invokestatic 87) 159 1 = true := kb_st (by decide) me159 gw796 gw798
set_option maxRecDepth 100000 in
theorem lk496 : ∀ pc, ev_kb MM "LeftAnswers$Tape" pc (.getfield 46) 9 7 = true := kb_getf (by decide +kernel) gw767
set_option maxRecDepth 100000 in
theorem lk497 : ∀ pc, ev_kb MM "LeftAnswers$Tape" pc (.invokestatic 79) 170 2 = true := kb_st (by decide) me170 gw799 gw802
set_option maxRecDepth 100000 in
theorem lk498 : ∀ pc, ev_kb MM "LeftAnswers$Tape" pc (.invokestatic 83) 169 1 = true := kb_st (by decide) me169 gw803 gw805
set_option maxRecDepth 100000 in
theorem lk499 : ∀ pc, ev_kb MM "LeftAnswers$Tape" pc (.getfield 61) 9 5 = true := kb_getf (by decide +kernel) gw775
set_option maxRecDepth 100000 in
theorem lk500 : ∀ pc, ev_kb MM "LeftAnswers$Tape" pc (.invokevirtual 90) 160 1 = true := kb_vi (by decide) me160 (by decide +kernel) gw806 gw711 gw709
set_option maxRecDepth 100000 in
theorem lk501 : ∀ pc, ev_kb MM "LeftAnswers$Tape" pc (.invokevirtual 94) 165 1 = true := kb_vi (by decide) me165 (by decide +kernel) gw807 gw342 gw340
set_option maxRecDepth 100000 in
theorem lk502 : ∀ pc, ev_kb MM "LeftAnswers$Word" pc (.getstatic 141) 101 0 = true := kb_geta rfl gw808
set_option maxRecDepth 100000 in
theorem lk503 : ∀ pc, ev_kb MM "LeftAnswers$Word" pc (.getfield 123) 200 0 = true := kb_getl rfl gw809
set_option maxRecDepth 100000 in
theorem lk504 : ∀ pc, ev_kb MM "LeftAnswers$Word" pc (.getstatic 7) 1 0 = true := kb_gets (by decide) gw810
set_option maxRecDepth 100000 in
theorem lk505 : ∀ pc, ev_kb MM "LeftAnswersModel" pc (.invokespecial 93) 999 0 = true := kb_obj gw811 gw1 gw2
set_option maxRecDepth 100000 in
theorem lk506 : ∀ pc, ev_kb MM "LeftAnswersModel" pc (.newarray .int) 0 0 = true := kb_newa gw319
set_option maxRecDepth 100000 in
theorem lk507 : ∀ pc, ev_kb MM "LeftAnswersModel" pc (.putfield 7) 11 1 = true := kb_putf (by decide +kernel) gw812
set_option maxRecDepth 100000 in
theorem lk508 : ∀ pc, ev_kb MM "LeftAnswersModel" pc (.putfield 98) 11 14 = true := kb_putf (by decide +kernel) gw813
set_option maxRecDepth 100000 in
theorem lk509 : ∀ pc, ev_kb MM "LeftAnswersModel" pc (.putfield 101) 11 15 = true := kb_putf (by decide +kernel) gw814
set_option maxRecDepth 100000 in
theorem lk510 : ∀ pc, ev_kb MM "LeftAnswersModel" pc (.putfield 104) 11 16 = true := kb_putf (by decide +kernel) gw815
set_option maxRecDepth 100000 in
theorem lk511 : ∀ pc, ev_kb MM "LeftAnswersModel" pc (.putfield 107) 11 17 = true := kb_putf (by decide +kernel) gw816
set_option maxRecDepth 100000 in
theorem lk512 : ∀ pc, ev_kb MM "LeftAnswersModel" pc (.putfield 110) 11 18 = true := kb_putf (by decide +kernel) gw817
set_option maxRecDepth 100000 in
theorem lk513 : ∀ pc, ev_kb MM "LeftAnswersModel" pc (.newarray .long) 0 0 = true := kb_newa gw390
set_option maxRecDepth 100000 in
theorem lk514 : ∀ pc, ev_kb MM "LeftAnswersModel" pc (.putfield 113) 11 19 = true := kb_putf (by decide +kernel) gw818
set_option maxRecDepth 100000 in
theorem lk515 : ∀ pc, ev_kb MM "LeftAnswersModel" pc (.putfield 117) 11 20 = true := kb_putf (by decide +kernel) gw819
set_option maxRecDepth 100000 in
theorem lk516 : ∀ pc, ev_kb MM "LeftAnswersModel" pc (.putfield 120) 11 21 = true := kb_putf (by decide +kernel) gw820
set_option maxRecDepth 100000 in
theorem lk517 : ∀ pc, ev_kb MM "LeftAnswersModel" pc (.newarray .boolean) 0 0 = true := kb_newa gw821
set_option maxRecDepth 100000 in
theorem lk518 : ∀ pc, ev_kb MM "LeftAnswersModel" pc (.putfield 123) 11 22 = true := kb_putf (by decide +kernel) gw822
set_option maxRecDepth 100000 in
theorem lk519 : ∀ pc, ev_kb MM "LeftAnswersModel" pc (.putfield 127) 11 23 = true := kb_putf (by decide +kernel) gw823
set_option maxRecDepth 100000 in
theorem lk520 : ∀ pc, ev_kb MM "LeftAnswersModel" pc (.putfield 130) 11 25 = true := kb_putf (by decide +kernel) gw824
set_option maxRecDepth 100000 in
theorem lk521 : ∀ pc, ev_kb MM "LeftAnswersModel" pc (.putfield 133) 11 26 = true := kb_putf (by decide +kernel) gw825
set_option maxRecDepth 100000 in
theorem lk522 : ∀ pc, ev_kb MM "LeftAnswersModel" pc (.putfield 136) 11 27 = true := kb_putf (by decide +kernel) gw826
set_option maxRecDepth 100000 in
theorem lk523 : ∀ pc, ev_kb MM "LeftAnswersModel" pc (.putfield 139) 11 30 = true := kb_putf (by decide +kernel) gw827
set_option maxRecDepth 100000 in
theorem lk524 : ∀ pc, ev_kb MM "LeftAnswersModel" pc (.putfield 142) 11 31 = true := kb_putf (by decide +kernel) gw828
set_option maxRecDepth 100000 in
theorem lk525 : ∀ pc, ev_kb MM "LeftAnswersModel" pc (.putfield 145) 11 33 = true := kb_putf (by decide +kernel) gw829
set_option maxRecDepth 100000 in
theorem lk526 : ∀ pc, ev_kb MM "LeftAnswersModel" pc (.putfield 148) 11 34 = true := kb_putf (by decide +kernel) gw830
set_option maxRecDepth 100000 in
theorem lk527 : ∀ pc, ev_kb MM "LeftAnswersModel" pc (.putfield 151) 11 35 = true := kb_putf (by decide +kernel) gw831
set_option maxRecDepth 100000 in
theorem lk528 : ∀ pc, ev_kb MM "LeftAnswersModel" pc (.putfield 154) 11 36 = true := kb_putf (by decide +kernel) gw832
set_option maxRecDepth 100000 in
theorem lk529 : ∀ pc, ev_kb MM "LeftAnswersModel" pc (.putfield 157) 11 40 = true := kb_putf (by decide +kernel) gw833
set_option maxRecDepth 100000 in
theorem lk530 : ∀ pc, ev_kb MM "LeftAnswersModel" pc (.putfield 160) 11 43 = true := kb_putf (by decide +kernel) gw834
set_option maxRecDepth 100000 in
theorem lk531 : ∀ pc, ev_kb MM "LeftAnswersModel" pc (.putfield 163) 11 44 = true := kb_putf (by decide +kernel) gw835
set_option maxRecDepth 100000 in
theorem lk532 : ∀ pc, ev_kb MM "LeftAnswersModel" pc (.putfield 166) 11 47 = true := kb_putf (by decide +kernel) gw836
set_option maxRecDepth 100000 in
theorem lk533 : ∀ pc, ev_kb MM "LeftAnswersModel" pc (.getfield 98) 11 14 = true := kb_getf (by decide +kernel) gw813
set_option maxRecDepth 100000 in
theorem lk534 : ∀ pc, ev_kb MM "LeftAnswersModel" pc (.invokevirtual 169) 280 0 = true := kb_vi (by decide) me280 (by decide +kernel) gw837 gw841 gw838
set_option maxRecDepth 100000 in
theorem lk535 : ∀ pc, ev_kb MM "LeftAnswersModel" pc (.putfield 1) 11 0 = true := kb_putf (by decide +kernel) gw842
set_option maxRecDepth 100000 in
theorem lk536 : ∀ pc, ev_kb MM "LeftAnswersModel" pc (.invokevirtual 240) 223 1 = true := kb_vi (by decide) me223 (by decide +kernel) gw843 gw846 gw844
set_option maxRecDepth 100000 in
theorem lk537 : ∀ pc, ev_kb MM "LeftAnswersModel" pc (.invokevirtual 256) 214 1 = true := kb_vi (by decide) me214 (by decide +kernel) gw847 gw850 gw848
set_option maxRecDepth 100000 in
theorem lk538 : ∀ pc, ev_kb MM "LeftAnswersModel" pc (.invokevirtual 271) 292 3 = true := kb_vi (by decide) me292 (by decide +kernel) gw851 gw854 gw852
set_option maxRecDepth 100000 in
theorem lk539 : ∀ pc, ev_kb MM "LeftAnswersModel" pc (.invokevirtual 281) 291 4 = true := kb_vi (by decide) me291 (by decide +kernel) gw855 gw858 gw856
set_option maxRecDepth 100000 in
theorem lk540 : ∀ pc, ev_kb MM "LeftAnswersModel" pc (.invokevirtual 285) 278 0 = true := kb_vi (by decide) me278 (by decide +kernel) gw859 gw862 gw860
set_option maxRecDepth 100000 in
theorem lk541 : ∀ pc, ev_kb MM "LeftAnswersModel" pc (.invokevirtual 288) 232 4 = true := kb_vi (by decide) me232 (by decide +kernel) gw863 gw866 gw864
set_option maxRecDepth 100000 in
theorem lk542 : ∀ pc, ev_kb MM "LeftAnswersModel" pc (.getfield 30) 11 7 = true := kb_getf (by decide +kernel) gw867
set_option maxRecDepth 100000 in
theorem lk543 : ∀ pc, ev_kb MM "LeftAnswersModel" pc (.putfield 66) 11 10 = true := kb_putf (by decide +kernel) gw868
set_option maxRecDepth 100000 in
theorem lk544 : ∀ pc, ev_kb MM "LeftAnswersModel" pc (.getfield 24) 11 6 = true := kb_getf (by decide +kernel) gw869
set_option maxRecDepth 100000 in
theorem lk545 : ∀ pc, ev_kb MM "LeftAnswersModel" pc (.putfield 69) 11 11 = true := kb_putf (by decide +kernel) gw870
set_option maxRecDepth 100000 in
theorem lk546 : ∀ pc, ev_kb MM "LeftAnswersModel" pc (.invokevirtual 292) 173 5 = true := kb_vi (by decide) me173 (by decide +kernel) gw871 gw874 gw872
set_option maxRecDepth 100000 in
theorem lk547 : ∀ pc, ev_kb MM "LeftAnswersModel" pc (.invokevirtual 89) 283 0 = true := kb_vi (by decide) me283 (by decide +kernel) gw875 gw878 gw876
set_option maxRecDepth 100000 in
theorem lk548 : ∀ pc, ev_kb MM "LeftAnswersModel" pc (.putfield 18) 11 3 = true := kb_putf (by decide +kernel) gw879
set_option maxRecDepth 100000 in
theorem lk549 : ∀ pc, ev_kb MM "LeftAnswersModel" pc (.putfield 27) 11 4 = true := kb_putf (by decide +kernel) gw880
set_option maxRecDepth 100000 in
theorem lk550 : ∀ pc, ev_kb MM "LeftAnswersModel" pc (.putfield 21) 11 5 = true := kb_putf (by decide +kernel) gw881
set_option maxRecDepth 100000 in
theorem lk551 : ∀ pc, ev_kb MM "LeftAnswersModel" pc (.invokevirtual 82) 205 0 = true := kb_vi (by decide) me205 (by decide +kernel) gw882 gw885 gw883
set_option maxRecDepth 100000 in
theorem lk552 : ∀ pc, ev_kb MM "LeftAnswersModel" pc (.getfield 151) 11 35 = true := kb_getf (by decide +kernel) gw831
set_option maxRecDepth 100000 in
theorem lk553 : ∀ pc, ev_kb MM "LeftAnswersModel" pc (.putfield 331) 11 37 = true := kb_putf (by decide +kernel) gw886
set_option maxRecDepth 100000 in
theorem lk554 : ∀ pc, ev_kb MM "LeftAnswersModel" pc (.invokevirtual 334) 290 2 = true := kb_vi (by decide) me290 (by decide +kernel) gw887 gw890 gw888
set_option maxRecDepth 100000 in
theorem lk555 : ∀ pc, ev_kb MM "LeftAnswersModel" pc (.putfield 344) 11 38 = true := kb_putf (by decide +kernel) gw891
set_option maxRecDepth 100000 in
theorem lk556 : ∀ pc, ev_kb MM "LeftAnswersModel" pc (.putfield 347) 11 39 = true := kb_putf (by decide +kernel) gw892
set_option maxRecDepth 100000 in
theorem lk557 : ∀ pc, ev_kb MM "LeftAnswersModel" pc (.getfield 331) 11 37 = true := kb_getf (by decide +kernel) gw886
set_option maxRecDepth 100000 in
theorem lk558 : ∀ pc, ev_kb MM "LeftAnswersModel" pc (.getfield 347) 11 39 = true := kb_getf (by decide +kernel) gw892
set_option maxRecDepth 100000 in
theorem lk559 : ∀ pc, ev_kb MM "LeftAnswersModel" pc (.getfield 344) 11 38 = true := kb_getf (by decide +kernel) gw891
set_option maxRecDepth 100000 in
theorem lk560 : ∀ pc, ev_kb MM "LeftAnswersModel" pc (.invokestatic 75) 218 3 = true := kb_st (by decide) me218 gw893 gw895
set_option maxRecDepth 100000 in
theorem lk561 : ∀ pc, ev_kb MM "LeftAnswersModel" pc (.getfield 154) 11 36 = true := kb_getf (by decide +kernel) gw832
set_option maxRecDepth 100000 in
theorem lk562 : ∀ pc, ev_kb MM "LeftAnswersModel" pc (.invokevirtual 225) 176 1 = true := kb_vi (by decide) me176 (by decide +kernel) gw896 gw899 gw897
set_option maxRecDepth 100000 in
theorem lk563 : ∀ pc, ev_kb MM "LeftAnswersModel" pc (.putfield 398) 11 45 = true := kb_putf (by decide +kernel) gw900
set_option maxRecDepth 100000 in
theorem lk564 : ∀ pc, ev_kb MM "LeftAnswersModel" pc (.invokevirtual 404) 246 0 = true := kb_vi (by decide) me246 (by decide +kernel) gw901 gw904 gw902
set_option maxRecDepth 100000 in
theorem lk565 : ∀ pc, ev_kb MM "LeftAnswersModel" pc (.getfield 69) 11 11 = true := kb_getf (by decide +kernel) gw870
set_option maxRecDepth 100000 in
theorem lk566 : ∀ pc, ev_kb MM "LeftAnswersModel" pc (.getfield 398) 11 45 = true := kb_getf (by decide +kernel) gw900
set_option maxRecDepth 100000 in
theorem lk567 : ∀ pc, ev_kb MM "LeftAnswersModel" pc (.invokevirtual 383) 230 0 = true := kb_vi (by decide) me230 (by decide +kernel) gw905 gw908 gw906
set_option maxRecDepth 100000 in
theorem lk568 : ∀ pc, ev_kb MM "LeftAnswersModel" pc (.invokevirtual 407) 206 1 = true := kb_vi (by decide) me206 (by decide +kernel) gw909 gw912 gw910
set_option maxRecDepth 100000 in
theorem lk569 : ∀ pc, ev_kb MM "LeftAnswersModel" pc (.getfield 163) 11 44 = true := kb_getf (by decide +kernel) gw835
set_option maxRecDepth 100000 in
theorem lk570 : ∀ pc, ev_kb MM "LeftAnswersModel" pc (.invokevirtual 259) 228 0 = true := kb_vi (by decide) me228 (by decide +kernel) gw913 gw916 gw914
set_option maxRecDepth 100000 in
theorem lk571 : ∀ pc, ev_kb MM "LeftAnswersModel" pc (.putfield 410) 11 46 = true := kb_putf (by decide +kernel) gw917
set_option maxRecDepth 100000 in
theorem lk572 : ∀ pc, ev_kb MM "LeftAnswersModel" pc (.invokevirtual 413) 281 1 = true := kb_vi (by decide) me281 (by decide +kernel) gw918 gw921 gw919
set_option maxRecDepth 100000 in
theorem lk573 : ∀ pc, ev_kb MM "LeftAnswersModel" pc (.getfield 354) 11 41 = true := kb_getf (by decide +kernel) gw922
set_option maxRecDepth 100000 in
theorem lk574 : ∀ pc, ev_kb MM "LeftAnswersModel" pc (.getfield 157) 11 40 = true := kb_getf (by decide +kernel) gw833
set_option maxRecDepth 100000 in
theorem lk575 : ∀ pc, ev_kb MM "LeftAnswersModel" pc (.invokestatic 207) 209 2 = true := kb_st (by decide) me209 gw923 gw925
set_option maxRecDepth 100000 in
theorem lk576 : ∀ pc, ev_kb MM "LeftAnswersModel" pc (.invokevirtual 252) 276 2 = true := kb_vi (by decide) me276 (by decide +kernel) gw926 gw929 gw927
set_option maxRecDepth 100000 in
theorem lk577 : ∀ pc, ev_kb MM "LeftAnswersModel" pc (.invokevirtual 314) 183 3 = true := kb_vi (by decide) me183 (by decide +kernel) gw930 gw933 gw931
set_option maxRecDepth 100000 in
theorem lk578 : ∀ pc, ev_kb MM "LeftAnswersModel" pc (.getfield 7) 11 1 = true := kb_getf (by decide +kernel) gw812
set_option maxRecDepth 100000 in
theorem lk579 : ∀ pc, ev_kb MM "LeftAnswersModel" pc (.getfield 11) 11 2 = true := kb_getf (by decide +kernel) gw934
set_option maxRecDepth 100000 in
theorem lk580 : ∀ pc, ev_kb MM "LeftAnswersModel" pc (.putfield 11) 11 2 = true := kb_putf (by decide +kernel) gw934
set_option maxRecDepth 100000 in
theorem lk581 : ∀ pc, ev_kb MM "LeftAnswersModel" pc (.invokevirtual 299) 241 1 = true := kb_vi (by decide) me241 (by decide +kernel) gw935 gw938 gw936
set_option maxRecDepth 100000 in
theorem lk582 : ∀ pc, ev_kb MM "LeftAnswersModel" pc (.invokestatic 268) 180 1 = true := kb_st (by decide) me180 gw939 gw941
set_option maxRecDepth 100000 in
theorem lk583 : ∀ pc, ev_kb MM "LeftAnswersModel" pc (.invokestatic 275) 231 2 = true := kb_st (by decide) me231 gw942 gw944
set_option maxRecDepth 100000 in
theorem lk584 : ∀ pc, ev_kb MM "LeftAnswersModel" pc (.invokevirtual 249) 224 1 = true := kb_vi (by decide) me224 (by decide +kernel) gw945 gw948 gw946
set_option maxRecDepth 100000 in
theorem lk585 : ∀ pc, ev_kb MM "LeftAnswersModel" pc (.getfield 370) 11 42 = true := kb_getf (by decide +kernel) gw949
set_option maxRecDepth 100000 in
theorem lk586 : ∀ pc, ev_kb MM "LeftAnswersModel" pc (.ldc_w 373) 1103515245 0 = true := kb_ldcw gw950
set_option maxRecDepth 100000 in
theorem lk587 : ∀ pc, ev_kb MM "LeftAnswersModel" pc (.putfield 370) 11 42 = true := kb_putf (by decide +kernel) gw949
set_option maxRecDepth 100000 in
theorem lk588 : ∀ pc, ev_kb MM "LeftAnswersModel" pc (.invokevirtual 377) 194 1 = true := kb_vi (by decide) me194 (by decide +kernel) gw951 gw954 gw952
set_option maxRecDepth 100000 in
theorem lk589 : ∀ pc, ev_kb MM "LeftAnswersModel" pc (.invokevirtual 296) 236 0 = true := kb_vi (by decide) me236 (by decide +kernel) gw955 gw958 gw956
set_option maxRecDepth 100000 in
theorem lk590 : ∀ pc, ev_kb MM "LeftAnswersModel" pc (.invokevirtual 380) 192 2 = true := kb_vi (by decide) me192 (by decide +kernel) gw959 gw962 gw960
set_option maxRecDepth 100000 in
theorem lk591 : ∀ pc, ev_kb MM "LeftAnswersModel" pc (.invokevirtual 374) 191 1 = true := kb_vi (by decide) me191 (by decide +kernel) gw963 gw966 gw964
set_option maxRecDepth 100000 in
theorem lk592 : ∀ pc, ev_kb MM "LeftAnswersModel" pc (.invokevirtual 278) 189 3 = true := kb_vi (by decide) me189 (by decide +kernel) gw967 gw970 gw968
set_option maxRecDepth 100000 in
theorem lk593 : ∀ pc, ev_kb MM "LeftAnswersModel" pc (.invokevirtual 262) 226 1 = true := kb_vi (by decide) me226 (by decide +kernel) gw971 gw974 gw972
set_option maxRecDepth 100000 in
theorem lk594 : ∀ pc, ev_kb MM "LeftAnswersModel" pc (.getfield 101) 11 15 = true := kb_getf (by decide +kernel) gw814
set_option maxRecDepth 100000 in
theorem lk595 : ∀ pc, ev_kb MM "LeftAnswersModel" pc (.getfield 127) 11 23 = true := kb_getf (by decide +kernel) gw823
set_option maxRecDepth 100000 in
theorem lk596 : ∀ pc, ev_kb MM "LeftAnswersModel" pc (.invokevirtual 228) 256 0 = true := kb_vi (by decide) me256 (by decide +kernel) gw975 gw978 gw976
set_option maxRecDepth 100000 in
theorem lk597 : ∀ pc, ev_kb MM "LeftAnswersModel" pc (.invokevirtual 231) 251 0 = true := kb_vi (by decide) me251 (by decide +kernel) gw979 gw982 gw980
set_option maxRecDepth 100000 in
theorem lk598 : ∀ pc, ev_kb MM "LeftAnswersModel" pc (.getfield 113) 11 19 = true := kb_getf (by decide +kernel) gw818
set_option maxRecDepth 100000 in
theorem lk599 : ∀ pc, ev_kb MM "LeftAnswersModel" pc (.getfield 117) 11 20 = true := kb_getf (by decide +kernel) gw819
