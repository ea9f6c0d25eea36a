set_option maxRecDepth 100000 in
theorem lk400 : ∀ pc, ev_kb MM "LeftAnswersModel" pc (.getfield 410) 11 46 = true := kb_getf (by decide +kernel) gw475
set_option maxRecDepth 100000 in
theorem lk401 : ∀ pc, ev_kb MM "LeftAnswersModel" pc (.getfield 154) 11 36 = true := kb_getf (by decide +kernel) gw418
set_option maxRecDepth 100000 in
theorem lk402 : ∀ pc, ev_kb MM "java/lang/Integer" pc (.ldc_w 265) 1431655765 0 = true := kb_ldcw gw557
set_option maxRecDepth 100000 in
theorem lk403 : ∀ pc, ev_kb MM "java/lang/Integer" pc (.ldc_w 266) 858993459 0 = true := kb_ldcw gw558
set_option maxRecDepth 100000 in
theorem lk404 : ∀ pc, ev_kb MM "java/lang/Integer" pc (.ldc_w 267) 252645135 0 = true := kb_ldcw gw559
set_option maxRecDepth 100000 in
theorem lk405 : ∀ pc, ev_kb MM "LeftAnswersLaw" pc (.new 8) 10 0 = true := kb_new (by decide) gw560 gw561 gw83
set_option maxRecDepth 100000 in
theorem lk406 : ∀ pc, ev_kb MM "LeftAnswersLaw" pc (.invokespecial 15) 0 0 = true := kb_sp (by decide) me0 (by decide +kernel) gw562 gw564
set_option maxRecDepth 100000 in
theorem lk407 : ∀ pc, ev_kb MM "LeftAnswersLaw" pc (.new 16) 11 0 = true := kb_new (by decide) gw565 gw566 gw426
set_option maxRecDepth 100000 in
theorem lk408 : ∀ pc, ev_kb MM "LeftAnswersLaw" pc (.invokespecial 18) 91 0 = true := kb_sp (by decide) me91 (by decide +kernel) gw567 gw569
set_option maxRecDepth 100000 in
theorem lk409 : ∀ pc, ev_kb MM "LeftAnswersLaw" pc (.newarray .long) 0 0 = true := kb_newa gw227
set_option maxRecDepth 100000 in
theorem lk410 : ∀ pc, ev_kb MM "LeftAnswersLaw" pc (.invokevirtual 19) 17 5 = true := kb_vi (by decide) me17 (by decide +kernel) gw570 gw573 gw571
set_option maxRecDepth 100000 in
theorem lk411 : ∀ pc, ev_kb MM "LeftAnswersLaw" pc (.invokevirtual 23) 112 5 = true := kb_vi (by decide) me112 (by decide +kernel) gw574 gw577 gw575
set_option maxRecDepth 100000 in
theorem lk412 : ∀ pc, ev_kb MM "LeftAnswersLaw" pc (.invokevirtual 24) 15 1 = true := kb_vi (by decide) me15 (by decide +kernel) gw578 gw581 gw579
set_option maxRecDepth 100000 in
theorem lk413 : ∀ pc, ev_kb MM "LeftAnswersLaw" pc (.invokevirtual 28) 110 1 = true := kb_vi (by decide) me110 (by decide +kernel) gw582 gw585 gw583
set_option maxRecDepth 100000 in
theorem lk414 : ∀ pc, ev_kb MM "LeftAnswersLaw" pc (.invokevirtual 29) 13 0 = true := kb_vi (by decide) me13 (by decide +kernel) gw586 gw589 gw587
set_option maxRecDepth 100000 in
theorem lk415 : ∀ pc, ev_kb MM "LeftAnswersLaw" pc (.invokevirtual 33) 108 0 = true := kb_vi (by decide) me108 (by decide +kernel) gw590 gw593 gw591
set_option maxRecDepth 100000 in
theorem lk416 : ∀ pc, ev_kb MM "LeftAnswersLaw" pc (.invokevirtual 34) 16 0 = true := kb_vi (by decide) me16 (by decide +kernel) gw594 gw597 gw595
set_option maxRecDepth 100000 in
theorem lk417 : ∀ pc, ev_kb MM "LeftAnswersLaw" pc (.invokevirtual 37) 111 0 = true := kb_vi (by decide) me111 (by decide +kernel) gw598 gw601 gw599
set_option maxRecDepth 100000 in
theorem lk418 : ∀ pc, ev_kb MM "LeftAnswersLaw" pc (.invokevirtual 43) 139 2 = true := kb_vi (by decide) me139 (by decide +kernel) gw602 gw605 gw603
set_option maxRecDepth 100000 in
theorem lk419 : ∀ pc, ev_kb MM "LeftAnswersLaw" pc (.invokevirtual 44) 164 0 = true := kb_vi (by decide) me164 (by decide +kernel) gw606 gw609 gw607
set_option maxRecDepth 100000 in
theorem lk420 : ∀ pc, ev_kb MM "LeftAnswersLaw" pc (.invokevirtual 47) 36 2 = true := kb_vi (by decide) me36 (by decide +kernel) gw610 gw613 gw611
set_option maxRecDepth 100000 in
theorem lk421 : ∀ pc, ev_kb MM "LeftAnswersLaw" pc (.invokevirtual 50) 148 2 = true := kb_vi (by decide) me148 (by decide +kernel) gw614 gw617 gw615
set_option maxRecDepth 100000 in
theorem lk422 : ∀ pc, ev_kb MM "LeftAnswersLaw" pc (.invokevirtual 51) 10 2 = true := kb_vi (by decide) me10 (by decide +kernel) gw618 gw621 gw619
set_option maxRecDepth 100000 in
theorem lk423 : ∀ pc, ev_kb MM "LeftAnswersLaw" pc (.invokevirtual 54) 105 2 = true := kb_vi (by decide) me105 (by decide +kernel) gw622 gw625 gw623
set_option maxRecDepth 100000 in
theorem lk424 : ∀ pc, ev_kb MM "LeftAnswersLaw" pc (.invokevirtual 55) 27 1 = true := kb_vi (by decide) me27 (by decide +kernel) gw626 gw629 gw627
set_option maxRecDepth 100000 in
theorem lk425 : ∀ pc, ev_kb MM "LeftAnswersLaw" pc (.invokevirtual 59) 132 1 = true := kb_vi (by decide) me132 (by decide +kernel) gw630 gw633 gw631
set_option maxRecDepth 100000 in
theorem lk426 : ∀ pc, ev_kb MM "LeftAnswersLaw" pc (.invokevirtual 60) 11 3 = true := kb_vi (by decide) me11 (by decide +kernel) gw634 gw637 gw635
set_option maxRecDepth 100000 in
theorem lk427 : ∀ pc, ev_kb MM "LeftAnswersLaw" pc (.invokevirtual 64) 106 3 = true := kb_vi (by decide) me106 (by decide +kernel) gw638 gw641 gw639
set_option maxRecDepth 100000 in
theorem lk428 : ∀ pc, ev_kb MM "LeftAnswersLaw" pc (.invokevirtual 65) 42 2 = true := kb_vi (by decide) me42 (by decide +kernel) gw642 gw645 gw643
set_option maxRecDepth 100000 in
theorem lk429 : ∀ pc, ev_kb MM "LeftAnswersLaw" pc (.invokevirtual 68) 158 2 = true := kb_vi (by decide) me158 (by decide +kernel) gw646 gw649 gw647
set_option maxRecDepth 100000 in
theorem lk430 : ∀ pc, ev_kb MM "LeftAnswersLaw" pc (.invokevirtual 69) 29 1 = true := kb_vi (by decide) me29 (by decide +kernel) gw650 gw653 gw651
set_option maxRecDepth 100000 in
theorem lk431 : ∀ pc, ev_kb MM "LeftAnswersLaw" pc (.invokevirtual 72) 135 1 = true := kb_vi (by decide) me135 (by decide +kernel) gw654 gw657 gw655
set_option maxRecDepth 100000 in
theorem lk432 : ∀ pc, ev_kb MM "LeftAnswersLaw" pc (.invokevirtual 73) 20 1 = true := kb_vi (by decide) me20 (by decide +kernel) gw658 gw661 gw659
set_option maxRecDepth 100000 in
theorem lk433 : ∀ pc, ev_kb MM "LeftAnswersLaw" pc (.invokevirtual 76) 115 1 = true := kb_vi (by decide) me115 (by decide +kernel) gw662 gw665 gw663
set_option maxRecDepth 100000 in
theorem lk434 : ∀ pc, ev_kb MM "LeftAnswersLaw" pc (.invokevirtual 77) 2 1 = true := kb_vi (by decide) me2 (by decide +kernel) gw666 gw669 gw667
set_option maxRecDepth 100000 in
theorem lk435 : ∀ pc, ev_kb MM "LeftAnswersLaw" pc (.invokevirtual 80) 95 1 = true := kb_vi (by decide) me95 (by decide +kernel) gw670 gw673 gw671
set_option maxRecDepth 100000 in
theorem lk436 : ∀ pc, ev_kb MM "LeftAnswersLaw" pc (.invokevirtual 81) 9 1 = true := kb_vi (by decide) me9 (by decide +kernel) gw674 gw677 gw675
set_option maxRecDepth 100000 in
theorem lk437 : ∀ pc, ev_kb MM "LeftAnswersLaw" pc (.invokevirtual 84) 104 1 = true := kb_vi (by decide) me104 (by decide +kernel) gw678 gw681 gw679
set_option maxRecDepth 100000 in
theorem lk438 : ∀ pc, ev_kb MM "LeftAnswersLaw" pc (.invokevirtual 85) 41 0 = true := kb_vi (by decide) me41 (by decide +kernel) gw682 gw685 gw683
set_option maxRecDepth 100000 in
theorem lk439 : ∀ pc, ev_kb MM "LeftAnswersLaw" pc (.invokevirtual 88) 157 0 = true := kb_vi (by decide) me157 (by decide +kernel) gw686 gw689 gw687
set_option maxRecDepth 100000 in
theorem lk440 : ∀ pc, ev_kb MM "LeftAnswersLaw" pc (.invokevirtual 89) 1 2 = true := kb_vi (by decide) me1 (by decide +kernel) gw690 gw693 gw691
set_option maxRecDepth 100000 in
theorem lk441 : ∀ pc, ev_kb MM "LeftAnswersLaw" pc (.invokevirtual 92) 92 2 = true := kb_vi (by decide) me92 (by decide +kernel) gw694 gw697 gw695
set_option maxRecDepth 100000 in
theorem lk442 : ∀ pc, ev_kb MM "LeftAnswersLaw" pc (.invokevirtual 93) 30 0 = true := kb_vi (by decide) me30 (by decide +kernel) gw698 gw701 gw699
set_option maxRecDepth 100000 in
theorem lk443 : ∀ pc, ev_kb MM "LeftAnswersLaw" pc (.invokevirtual 96) 136 0 = true := kb_vi (by decide) me136 (by decide +kernel) gw702 gw705 gw703
set_option maxRecDepth 100000 in
theorem lk444 : ∀ pc, ev_kb MM "LeftAnswersLaw" pc (.invokevirtual 97) 31 2 = true := kb_vi (by decide) me31 (by decide +kernel) gw706 gw709 gw707
set_option maxRecDepth 100000 in
theorem lk445 : ∀ pc, ev_kb MM "LeftAnswersLaw" pc (.invokevirtual 100) 137 2 = true := kb_vi (by decide) me137 (by decide +kernel) gw710 gw713 gw711
set_option maxRecDepth 100000 in
theorem lk446 : ∀ pc, ev_kb MM "LeftAnswersLaw" pc (.invokevirtual 101) 19 0 = true := kb_vi (by decide) me19 (by decide +kernel) gw714 gw717 gw715
set_option maxRecDepth 100000 in
theorem lk447 : ∀ pc, ev_kb MM "LeftAnswersLaw" pc (.invokevirtual 104) 114 0 = true := kb_vi (by decide) me114 (by decide +kernel) gw718 gw721 gw719
set_option maxRecDepth 100000 in
theorem lk448 : ∀ pc, ev_kb MM "LeftAnswersLaw" pc (.invokevirtual 105) 18 1 = true := kb_vi (by decide) me18 (by decide +kernel) gw722 gw725 gw723
set_option maxRecDepth 100000 in
theorem lk449 : ∀ pc, ev_kb MM "LeftAnswersLaw" pc (.invokevirtual 108) 113 1 = true := kb_vi (by decide) me113 (by decide +kernel) gw726 gw729 gw727
set_option maxRecDepth 100000 in
theorem lk450 : ∀ pc, ev_kb MM "LeftAnswersLaw" pc (.invokevirtual 109) 39 0 = true := kb_vi (by decide) me39 (by decide +kernel) gw730 gw733 gw731
set_option maxRecDepth 100000 in
theorem lk451 : ∀ pc, ev_kb MM "LeftAnswersLaw" pc (.invokevirtual 112) 155 0 = true := kb_vi (by decide) me155 (by decide +kernel) gw734 gw737 gw735
set_option maxRecDepth 100000 in
theorem lk452 : ∀ pc, ev_kb MM "LeftAnswersLaw" pc (.invokevirtual 113) 23 2 = true := kb_vi (by decide) me23 (by decide +kernel) gw738 gw741 gw739
set_option maxRecDepth 100000 in
theorem lk453 : ∀ pc, ev_kb MM "LeftAnswersLaw" pc (.invokevirtual 116) 120 2 = true := kb_vi (by decide) me120 (by decide +kernel) gw742 gw745 gw743
set_option maxRecDepth 100000 in
theorem lk454 : ∀ pc, ev_kb MM "LeftAnswersLaw" pc (.invokevirtual 117) 22 0 = true := kb_vi (by decide) me22 (by decide +kernel) gw746 gw749 gw747
set_option maxRecDepth 100000 in
theorem lk455 : ∀ pc, ev_kb MM "LeftAnswersLaw" pc (.invokevirtual 120) 118 0 = true := kb_vi (by decide) me118 (by decide +kernel) gw750 gw753 gw751
set_option maxRecDepth 100000 in
theorem lk456 : ∀ pc, ev_kb MM "LeftAnswersLaw" pc (.invokevirtual 121) 21 0 = true := kb_vi (by decide) me21 (by decide +kernel) gw754 gw757 gw755
set_option maxRecDepth 100000 in
theorem lk457 : ∀ pc, ev_kb MM "LeftAnswersLaw" pc (.invokevirtual 124) 117 0 = true := kb_vi (by decide) me117 (by decide +kernel) gw758 gw761 gw759
set_option maxRecDepth 100000 in
theorem lk458 : ∀ pc, ev_kb MM "LeftAnswersLaw" pc (.invokevirtual 125) 3 0 = true := kb_vi (by decide) me3 (by decide +kernel) gw762 gw765 gw763
set_option maxRecDepth 100000 in
theorem lk459 : ∀ pc, ev_kb MM "LeftAnswersLaw" pc (.invokevirtual 128) 97 0 = true := kb_vi (by decide) me97 (by decide +kernel) gw766 gw769 gw767
set_option maxRecDepth 100000 in
theorem lk460 : ∀ pc, ev_kb MM "LeftAnswersLaw" pc (.invokevirtual 129) 4 1 = true := kb_vi (by decide) me4 (by decide +kernel) gw770 gw773 gw771
set_option maxRecDepth 100000 in
theorem lk461 : ∀ pc, ev_kb MM "LeftAnswersLaw" pc (.invokevirtual 132) 98 1 = true := kb_vi (by decide) me98 (by decide +kernel) gw774 gw777 gw775
set_option maxRecDepth 100000 in
theorem lk462 : ∀ pc, ev_kb MM "LeftAnswersLaw" pc (.invokevirtual 133) 14 1 = true := kb_vi (by decide) me14 (by decide +kernel) gw778 gw781 gw779
set_option maxRecDepth 100000 in
theorem lk463 : ∀ pc, ev_kb MM "LeftAnswersLaw" pc (.invokevirtual 136) 109 1 = true := kb_vi (by decide) me109 (by decide +kernel) gw782 gw785 gw783
set_option maxRecDepth 100000 in
theorem lk464 : ∀ pc, ev_kb MM "LeftAnswersLaw" pc (.invokevirtual 137) 33 0 = true := kb_vi (by decide) me33 (by decide +kernel) gw786 gw789 gw787
set_option maxRecDepth 100000 in
theorem lk465 : ∀ pc, ev_kb MM "LeftAnswersLaw" pc (.invokevirtual 140) 145 0 = true := kb_vi (by decide) me145 (by decide +kernel) gw790 gw793 gw791
set_option maxRecDepth 100000 in
theorem lk466 : ∀ pc, ev_kb MM "LeftAnswersLaw" pc (.invokevirtual 141) 37 1 = true := kb_vi (by decide) me37 (by decide +kernel) gw794 gw797 gw795
set_option maxRecDepth 100000 in
theorem lk467 : ∀ pc, ev_kb MM "LeftAnswersLaw" pc (.invokevirtual 144) 149 1 = true := kb_vi (by decide) me149 (by decide +kernel) gw798 gw801 gw799
set_option maxRecDepth 100000 in
theorem lk468 : ∀ pc, ev_kb MM "LeftAnswersLaw" pc (.invokevirtual 145) 7 1 = true := kb_vi (by decide) me7 (by decide +kernel) gw802 gw805 gw803
set_option maxRecDepth 100000 in
theorem lk469 : ∀ pc, ev_kb MM "LeftAnswersLaw" pc (.invokevirtual 148) 101 1 = true := kb_vi (by decide) me101 (by decide +kernel) gw806 gw809 gw807
set_option maxRecDepth 100000 in
theorem lk470 : ∀ pc, ev_kb MM "LeftAnswersLaw" pc (.invokevirtual 149) 12 2 = true := kb_vi (by decide) me12 (by decide +kernel) gw810 gw813 gw811
set_option maxRecDepth 100000 in
theorem lk471 : ∀ pc, ev_kb MM "LeftAnswersLaw" pc (.invokevirtual 152) 107 2 = true := kb_vi (by decide) me107 (by decide +kernel) gw814 gw817 gw815
set_option maxRecDepth 100000 in
theorem lk472 : ∀ pc, ev_kb MM "LeftAnswersLaw" pc (.invokevirtual 153) 28 3 = true := kb_vi (by decide) me28 (by decide +kernel) gw818 gw821 gw819
set_option maxRecDepth 100000 in
theorem lk473 : ∀ pc, ev_kb MM "LeftAnswersLaw" pc (.invokevirtual 156) 133 3 = true := kb_vi (by decide) me133 (by decide +kernel) gw822 gw825 gw823
set_option maxRecDepth 100000 in
theorem lk474 : ∀ pc, ev_kb MM "LeftAnswersLaw" pc (.invokevirtual 157) 6 1 = true := kb_vi (by decide) me6 (by decide +kernel) gw826 gw829 gw827
set_option maxRecDepth 100000 in
theorem lk475 : ∀ pc, ev_kb MM "LeftAnswersLaw" pc (.invokevirtual 160) 100 1 = true := kb_vi (by decide) me100 (by decide +kernel) gw830 gw833 gw831
set_option maxRecDepth 100000 in
theorem lk476 : ∀ pc, ev_kb MM "LeftAnswersLaw" pc (.invokevirtual 161) 40 1 = true := kb_vi (by decide) me40 (by decide +kernel) gw834 gw837 gw835
set_option maxRecDepth 100000 in
theorem lk477 : ∀ pc, ev_kb MM "LeftAnswersLaw" pc (.invokevirtual 164) 156 1 = true := kb_vi (by decide) me156 (by decide +kernel) gw838 gw841 gw839
set_option maxRecDepth 100000 in
theorem lk478 : ∀ pc, ev_kb MM "LeftAnswersLaw" pc (.invokevirtual 165) 35 0 = true := kb_vi (by decide) me35 (by decide +kernel) gw842 gw845 gw843
set_option maxRecDepth 100000 in
theorem lk479 : ∀ pc, ev_kb MM "LeftAnswersLaw" pc (.invokevirtual 168) 147 0 = true := kb_vi (by decide) me147 (by decide +kernel) gw846 gw849 gw847
set_option maxRecDepth 100000 in
theorem lk480 : ∀ pc, ev_kb MM "LeftAnswersLaw" pc (.invokevirtual 169) 34 1 = true := kb_vi (by decide) me34 (by decide +kernel) gw850 gw853 gw851
set_option maxRecDepth 100000 in
theorem lk481 : ∀ pc, ev_kb MM "LeftAnswersLaw" pc (.invokevirtual 172) 146 1 = true := kb_vi (by decide) me146 (by decide +kernel) gw854 gw857 gw855
set_option maxRecDepth 100000 in
theorem lk482 : ∀ pc, ev_kb MM "LeftAnswersLaw" pc (.invokevirtual 173) 24 1 = true := kb_vi (by decide) me24 (by decide +kernel) gw858 gw861 gw859
set_option maxRecDepth 100000 in
theorem lk483 : ∀ pc, ev_kb MM "LeftAnswersLaw" pc (.invokevirtual 176) 121 1 = true := kb_vi (by decide) me121 (by decide +kernel) gw862 gw865 gw863
set_option maxRecDepth 100000 in
theorem lk484 : ∀ pc, ev_kb MM "LeftAnswersLaw" pc (.invokevirtual 177) 32 1 = true := kb_vi (by decide) me32 (by decide +kernel) gw866 gw869 gw867
set_option maxRecDepth 100000 in
theorem lk485 : ∀ pc, ev_kb MM "LeftAnswersLaw" pc (.invokevirtual 180) 144 1 = true := kb_vi (by decide) me144 (by decide +kernel) gw870 gw873 gw871
set_option maxRecDepth 100000 in
theorem lk486 : ∀ pc, ev_kb MM "LeftAnswersLaw" pc (.invokevirtual 181) 8 1 = true := kb_vi (by decide) me8 (by decide +kernel) gw874 gw877 gw875
set_option maxRecDepth 100000 in
theorem lk487 : ∀ pc, ev_kb MM "LeftAnswersLaw" pc (.invokevirtual 184) 103 1 = true := kb_vi (by decide) me103 (by decide +kernel) gw878 gw881 gw879
set_option maxRecDepth 100000 in
theorem lk488 : ∀ pc, ev_kb MM "LeftAnswersModel" pc (.getfield 1) 11 0 = true := kb_getf (by decide +kernel) gw428
